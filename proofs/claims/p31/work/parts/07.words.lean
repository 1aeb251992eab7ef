/-! words of the tables: methods, links, fields -/
set_option maxRecDepth 20000 in
theorem gmr {ws : List Cond} (ps : List Nat) (hp : ws = ps.filterMap (fun i => tables_1[i]?)) (hk : ws.all okW = true) : ∀ w ∈ ws, w ∈ gT := by
  intro w hw
  have h1 := List.all_eq_true.mp hk w hw
  rw [hp] at hw
  obtain ⟨i, -, hi⟩ := List.mem_filterMap.mp hw
  exact gT_at i hi h1
set_option maxRecDepth 20000 in
theorem gS1 {w : Cond} (i : Nat) (h : tables_1_1[i]? = some w) (hk : okW w = true) : w ∈ gT := gT_in (List.mem_append_right _ (show w ∈ tables_1 from (List.mem_append_left _ (List.mem_of_getElem? h)))) hk
set_option maxRecDepth 20000 in
theorem gS2 {w : Cond} (i : Nat) (h : tables_1_2[i]? = some w) (hk : okW w = true) : w ∈ gT := gT_in (List.mem_append_right _ (show w ∈ tables_1 from (List.mem_append_right _ (List.mem_append_left _ (List.mem_of_getElem? h))))) hk
set_option maxRecDepth 20000 in
theorem gS3 {w : Cond} (i : Nat) (h : tables_1_3[i]? = some w) (hk : okW w = true) : w ∈ gT := gT_in (List.mem_append_right _ (show w ∈ tables_1 from (List.mem_append_right _ (List.mem_append_right _ (List.mem_append_left _ (List.mem_of_getElem? h)))))) hk
set_option maxRecDepth 20000 in
theorem gS4 {w : Cond} (i : Nat) (h : tables_1_4[i]? = some w) (hk : okW w = true) : w ∈ gT := gT_in (List.mem_append_right _ (show w ∈ tables_1 from (List.mem_append_right _ (List.mem_append_right _ (List.mem_append_right _ (List.mem_append_left _ (List.mem_of_getElem? h))))))) hk
set_option maxRecDepth 20000 in
theorem gS5 {w : Cond} (i : Nat) (h : tables_1_5[i]? = some w) (hk : okW w = true) : w ∈ gT := gT_in (List.mem_append_right _ (show w ∈ tables_1 from (List.mem_append_right _ (List.mem_append_right _ (List.mem_append_right _ (List.mem_append_right _ (List.mem_append_left _ (List.mem_of_getElem? h)))))))) hk
set_option maxRecDepth 20000 in
theorem gS6 {w : Cond} (i : Nat) (h : tables_1_6[i]? = some w) (hk : okW w = true) : w ∈ gT := gT_in (List.mem_append_right _ (show w ∈ tables_1 from (List.mem_append_right _ (List.mem_append_right _ (List.mem_append_right _ (List.mem_append_right _ (List.mem_append_right _ (List.mem_append_left _ (List.mem_of_getElem? h))))))))) hk
set_option maxRecDepth 20000 in
theorem gS7 {w : Cond} (i : Nat) (h : tables_1_7[i]? = some w) (hk : okW w = true) : w ∈ gT := gT_in (List.mem_append_right _ (show w ∈ tables_1 from (List.mem_append_right _ (List.mem_append_right _ (List.mem_append_right _ (List.mem_append_right _ (List.mem_append_right _ (List.mem_append_right _ (List.mem_append_left _ (List.mem_of_getElem? h)))))))))) hk
set_option maxRecDepth 20000 in
theorem gS8 {w : Cond} (i : Nat) (h : tables_1_8[i]? = some w) (hk : okW w = true) : w ∈ gT := gT_in (List.mem_append_right _ (show w ∈ tables_1 from (List.mem_append_right _ (List.mem_append_right _ (List.mem_append_right _ (List.mem_append_right _ (List.mem_append_right _ (List.mem_append_right _ (List.mem_append_right _ (List.mem_of_getElem? h)))))))))) hk
abbrev mX0_put : Mt := (cX0_put, 4, none, RX0, ({ frames := 1, cells := 0, slots := 0, locals := 22 } : Room))
theorem xq_RX0 : RX0 ≠ "java/lang/invoke/MethodHandle" ∧ RX0 ≠ "java/lang/invoke/VarHandle" := ⟨by decide +kernel, by decide +kernel⟩
theorem xq_d0 : (parseMethodDescriptor "(IIZ)V").map (fun d => d.parameters.length) = some 3 := by decide +kernel
set_option maxRecDepth 20000 in
theorem kX0_put : zTk mX0_put yX0_put 3 := ⟨gS4 173 rfl rfl, gS1 12 rfl rfl, xq_RX0, xq_d0, rfl, rfl⟩
set_option maxRecDepth 20000 in
theorem vX0_put : zTv yX0_put := ⟨gS4 171 rfl rfl, gS4 172 rfl rfl⟩
abbrev mX0_markBright : Mt := (cX0_markBright, 6, none, RX0, ({ frames := 2, cells := 0, slots := 0, locals := 45 } : Room))
theorem xq_d1 : (parseMethodDescriptor "(LRawPictures$Sheet;II)V").map (fun d => d.parameters.length) = some 3 := by decide +kernel
set_option maxRecDepth 20000 in
theorem kX0_markBright : zTk mX0_markBright yX0_markBright 3 := ⟨gS5 149 rfl rfl, gS1 12 rfl rfl, xq_RX0, xq_d1, rfl, rfl⟩
set_option maxRecDepth 20000 in
theorem vX0_markBright : zTv yX0_markBright := ⟨gS5 147 rfl rfl, gS5 148 rfl rfl⟩
abbrev mX0_marked : Mt := (cX0_marked, 1, (some .int), RX0, ({ frames := 1, cells := 0, slots := 0, locals := 24 } : Room))
theorem xq_d2 : (parseMethodDescriptor "()I").map (fun d => d.parameters.length) = some 0 := by decide +kernel
set_option maxRecDepth 20000 in
theorem kX0_marked : zTk mX0_marked yX0_marked 0 := ⟨gS4 186 rfl rfl, gS1 12 rfl rfl, xq_RX0, xq_d2, rfl, rfl⟩
set_option maxRecDepth 20000 in
theorem vX0_marked : zTv yX0_marked := ⟨gS4 184 rfl rfl, gS4 185 rfl rfl⟩
abbrev mX0_markedAnd : Mt := (cX0_markedAnd, 5, (some .int), RX0, ({ frames := 0, cells := 0, slots := 0, locals := 0 } : Room))
theorem xq_d3 : (parseMethodDescriptor "([I)I").map (fun d => d.parameters.length) = some 1 := by decide +kernel
set_option maxRecDepth 20000 in
theorem kX0_markedAnd : zTk mX0_markedAnd yX0_markedAnd 1 := ⟨gS4 191 rfl rfl, gS1 12 rfl rfl, xq_RX0, xq_d3, rfl, rfl⟩
set_option maxRecDepth 20000 in
theorem vX0_markedAnd : zTv yX0_markedAnd := ⟨gS4 189 rfl rfl, gS4 190 rfl rfl⟩
abbrev mX0_firstMarked : Mt := (cX0_firstMarked, 3, (some .int), RX0, ({ frames := 0, cells := 0, slots := 0, locals := 0 } : Room))
set_option maxRecDepth 20000 in
theorem kX0_firstMarked : zTk mX0_firstMarked yX0_firstMarked 0 := ⟨gS4 178 rfl rfl, gS1 12 rfl rfl, xq_RX0, xq_d2, rfl, rfl⟩
set_option maxRecDepth 20000 in
theorem vX0_firstMarked : zTv yX0_firstMarked := ⟨gS4 176 rfl rfl, gS4 177 rfl rfl⟩
abbrev mX0_lastMarked : Mt := (cX0_lastMarked, 4, (some .int), RX0, ({ frames := 0, cells := 0, slots := 0, locals := 0 } : Room))
set_option maxRecDepth 20000 in
theorem kX0_lastMarked : zTk mX0_lastMarked yX0_lastMarked 0 := ⟨gS4 182 rfl rfl, gS1 12 rfl rfl, xq_RX0, xq_d2, rfl, rfl⟩
set_option maxRecDepth 20000 in
theorem vX0_lastMarked : zTv yX0_lastMarked := ⟨gS4 180 rfl rfl, gS4 181 rfl rfl⟩
abbrev mX0_gather : Mt := (cX0_gather, 5, none, RX0, ({ frames := 3, cells := 0, slots := 0, locals := 72 } : Room))
theorem xq_d4 : (parseMethodDescriptor "(Z)V").map (fun d => d.parameters.length) = some 1 := by decide +kernel
set_option maxRecDepth 20000 in
theorem kX0_gather : zTk mX0_gather yX0_gather 1 := ⟨gS4 199 rfl rfl, gS1 12 rfl rfl, xq_RX0, xq_d4, rfl, rfl⟩
set_option maxRecDepth 20000 in
theorem vX0_gather : zTv yX0_gather := ⟨gS4 197 rfl rfl, gS4 198 rfl rfl⟩
abbrev mX0_take : Mt := (cX0_take, 9, (some .int), RX0, ({ frames := 2, cells := 0, slots := 0, locals := 44 } : Room))
theorem xq_d5 : (parseMethodDescriptor "(IIZ)I").map (fun d => d.parameters.length) = some 3 := by decide +kernel
set_option maxRecDepth 20000 in
theorem kX0_take : zTk mX0_take yX0_take 3 := ⟨gS4 204 rfl rfl, gS1 12 rfl rfl, xq_RX0, xq_d5, rfl, rfl⟩
set_option maxRecDepth 20000 in
theorem vX0_take : zTv yX0_take := ⟨gS4 203 rfl rfl, gT_pv 27 (by decide +kernel) rfl⟩
abbrev mX0_enqueue : Mt := (cX0_enqueue, 3, none, RX0, ({ frames := 1, cells := 0, slots := 0, locals := 22 } : Room))
theorem xq_d6 : (parseMethodDescriptor "(II)V").map (fun d => d.parameters.length) = some 2 := by decide +kernel
set_option maxRecDepth 20000 in
theorem kX0_enqueue : zTk mX0_enqueue yX0_enqueue 2 := ⟨gS4 208 rfl rfl, gS1 12 rfl rfl, xq_RX0, xq_d6, rfl, rfl⟩
set_option maxRecDepth 20000 in
theorem vX0_enqueue : zTv yX0_enqueue := ⟨gS4 207 rfl rfl, gT_pv 28 (by decide +kernel) rfl⟩
abbrev mX1_forget : Mt := (cX1_forget, 1, none, RX1, ({ frames := 0, cells := 0, slots := 0, locals := 0 } : Room))
theorem xq_RX1 : RX1 ≠ "java/lang/invoke/MethodHandle" ∧ RX1 ≠ "java/lang/invoke/VarHandle" := ⟨by decide +kernel, by decide +kernel⟩
theorem xq_d7 : (parseMethodDescriptor "()V").map (fun d => d.parameters.length) = some 0 := by decide +kernel
set_option maxRecDepth 20000 in
theorem kX1_forget : zTk mX1_forget yX1_forget 0 := ⟨gS3 76 rfl rfl, gS1 7 rfl rfl, xq_RX1, xq_d7, rfl, rfl⟩
set_option maxRecDepth 20000 in
theorem vX1_forget : zTv yX1_forget := ⟨gS3 74 rfl rfl, gS3 75 rfl rfl⟩
abbrev mX1_sheetOf : Mt := (cX1_sheetOf, 4, (some (.object "RawPictures$Sheet")), RX1, ({ frames := 5, cells := 0, slots := 0, locals := 132 } : Room))
theorem xq_d8 : (parseMethodDescriptor "(I)LRawPictures$Sheet;").map (fun d => d.parameters.length) = some 1 := by decide +kernel
set_option maxRecDepth 20000 in
theorem kX1_sheetOf : zTk mX1_sheetOf yX1_sheetOf 1 := ⟨gS3 200 rfl rfl, gS1 7 rfl rfl, xq_RX1, xq_d8, rfl, rfl⟩
set_option maxRecDepth 20000 in
theorem vX1_sheetOf : zTv yX1_sheetOf := ⟨gS3 198 rfl rfl, gS3 199 rfl rfl⟩
abbrev mX1_lastWith : Mt := (cX1_lastWith, 6, (some (.object "RawPictures$Sheet")), RX1, ({ frames := 6, cells := 0, slots := 0, locals := 155 } : Room))
theorem xq_d9 : (parseMethodDescriptor "(II)LRawPictures$Sheet;").map (fun d => d.parameters.length) = some 2 := by decide +kernel
set_option maxRecDepth 20000 in
theorem kX1_lastWith : zTk mX1_lastWith yX1_lastWith 2 := ⟨gS5 167 rfl rfl, gS1 7 rfl rfl, xq_RX1, xq_d9, rfl, rfl⟩
set_option maxRecDepth 20000 in
theorem vX1_lastWith : zTv yX1_lastWith := ⟨gS5 165 rfl rfl, gS5 166 rfl rfl⟩
abbrev mX1_apply : Mt := (cX1_apply, 7, none, RX1, ({ frames := 4, cells := 0, slots := 0, locals := 106 } : Room))
theorem xq_d10 : (parseMethodDescriptor "(IILRawPictures$Sheet;LRawPictures$Sheet;)V").map (fun d => d.parameters.length) = some 4 := by decide +kernel
set_option maxRecDepth 20000 in
theorem kX1_apply : zTk mX1_apply yX1_apply 4 := ⟨gS3 211 rfl rfl, gS1 7 rfl rfl, xq_RX1, xq_d10, rfl, rfl⟩
set_option maxRecDepth 20000 in
theorem vX1_apply : zTv yX1_apply := ⟨gS3 210 rfl rfl, gT_pv 12 (by decide +kernel) rfl⟩
abbrev mX2_takeBlack : Mt := (cX2_takeBlack, 6, none, RX2, ({ frames := 2, cells := 0, slots := 0, locals := 41 } : Room))
theorem xq_RX2 : RX2 ≠ "java/lang/invoke/MethodHandle" ∧ RX2 ≠ "java/lang/invoke/VarHandle" := ⟨by decide +kernel, by decide +kernel⟩
theorem xq_d11 : (parseMethodDescriptor "(LRawPictures$Sheet;LRawPictures$Sheet;I)V").map (fun d => d.parameters.length) = some 3 := by decide +kernel
set_option maxRecDepth 20000 in
theorem kX2_takeBlack : zTk mX2_takeBlack yX2_takeBlack 3 := ⟨gS3 216 rfl rfl, gS1 9 rfl rfl, xq_RX2, xq_d11, rfl, rfl⟩
set_option maxRecDepth 20000 in
theorem vX2_takeBlack : zTv yX2_takeBlack := ⟨gS3 214 rfl rfl, gS3 215 rfl rfl⟩
abbrev mX2_darkOf : Mt := (cX2_darkOf, 6, (some .int), RX2, ({ frames := 0, cells := 0, slots := 0, locals := 0 } : Room))
theorem xq_d12 : (parseMethodDescriptor "(LRawPictures$Sheet;II)I").map (fun d => d.parameters.length) = some 3 := by decide +kernel
set_option maxRecDepth 20000 in
theorem kX2_darkOf : zTk mX2_darkOf yX2_darkOf 3 := ⟨gS4 9 rfl rfl, gS1 9 rfl rfl, xq_RX2, xq_d12, rfl, rfl⟩
set_option maxRecDepth 20000 in
theorem vX2_darkOf : zTv yX2_darkOf := ⟨gS4 7 rfl rfl, gS4 8 rfl rfl⟩
abbrev mX2_takeDark : Mt := (cX2_takeDark, 7, none, RX2, ({ frames := 2, cells := 0, slots := 0, locals := 41 } : Room))
set_option maxRecDepth 20000 in
theorem kX2_takeDark : zTk mX2_takeDark yX2_takeDark 3 := ⟨gS4 5 rfl rfl, gS1 9 rfl rfl, xq_RX2, xq_d11, rfl, rfl⟩
set_option maxRecDepth 20000 in
theorem vX2_takeDark : zTv yX2_takeDark := ⟨gS4 3 rfl rfl, gS4 4 rfl rfl⟩
abbrev mX2_middleOf : Mt := (cX2_middleOf, 11, (some .int), RX2, ({ frames := 1, cells := 0, slots := 0, locals := 21 } : Room))
set_option maxRecDepth 20000 in
theorem kX2_middleOf : zTk mX2_middleOf yX2_middleOf 3 := ⟨gS3 233 rfl rfl, gS1 9 rfl rfl, xq_RX2, xq_d12, rfl, rfl⟩
set_option maxRecDepth 20000 in
theorem vX2_middleOf : zTv yX2_middleOf := ⟨gS3 231 rfl rfl, gS3 232 rfl rfl⟩
abbrev mX2_isFound : Mt := (cX2_isFound, 6, (some .boolean), RX2, ({ frames := 2, cells := 0, slots := 0, locals := 51 } : Room))
theorem xq_d13 : (parseMethodDescriptor "(LRawPictures$Sheet;III)Z").map (fun d => d.parameters.length) = some 4 := by decide +kernel
set_option maxRecDepth 20000 in
theorem kX2_isFound : zTk mX2_isFound yX2_isFound 4 := ⟨gS3 229 rfl rfl, gS1 9 rfl rfl, xq_RX2, xq_d13, rfl, rfl⟩
set_option maxRecDepth 20000 in
theorem vX2_isFound : zTv yX2_isFound := ⟨gS3 227 rfl rfl, gS3 228 rfl rfl⟩
abbrev mX2_fillFound : Mt := (cX2_fillFound, 7, none, RX2, ({ frames := 3, cells := 0, slots := 0, locals := 76 } : Room))
set_option maxRecDepth 20000 in
theorem kX2_fillFound : zTk mX2_fillFound yX2_fillFound 3 := ⟨gS3 225 rfl rfl, gS1 9 rfl rfl, xq_RX2, xq_d11, rfl, rfl⟩
set_option maxRecDepth 20000 in
theorem vX2_fillFound : zTv yX2_fillFound := ⟨gS3 223 rfl rfl, gS3 224 rfl rfl⟩
abbrev mX2_liftShade : Mt := (cX2_liftShade, 9, none, RX2, ({ frames := 2, cells := 0, slots := 0, locals := 41 } : Room))
set_option maxRecDepth 20000 in
theorem kX2_liftShade : zTk mX2_liftShade yX2_liftShade 3 := ⟨gS4 13 rfl rfl, gS1 9 rfl rfl, xq_RX2, xq_d11, rfl, rfl⟩
set_option maxRecDepth 20000 in
theorem vX2_liftShade : zTv yX2_liftShade := ⟨gS4 11 rfl rfl, gS4 12 rfl rfl⟩
abbrev mX2_fillMosaic : Mt := (cX2_fillMosaic, 6, none, RX2, ({ frames := 3, cells := 0, slots := 0, locals := 80 } : Room))
set_option maxRecDepth 20000 in
theorem kX2_fillMosaic : zTk mX2_fillMosaic yX2_fillMosaic 3 := ⟨gS4 17 rfl rfl, gS1 9 rfl rfl, xq_RX2, xq_d11, rfl, rfl⟩
set_option maxRecDepth 20000 in
theorem vX2_fillMosaic : zTv yX2_fillMosaic := ⟨gS4 15 rfl rfl, gS4 16 rfl rfl⟩
abbrev mX2_wayOf : Mt := (cX2_wayOf, 12, (some .int), RX2, ({ frames := 1, cells := 0, slots := 0, locals := 21 } : Room))
set_option maxRecDepth 20000 in
theorem kX2_wayOf : zTk mX2_wayOf yX2_wayOf 3 := ⟨gS4 26 rfl rfl, gS1 9 rfl rfl, xq_RX2, xq_d12, rfl, rfl⟩
set_option maxRecDepth 20000 in
theorem vX2_wayOf : zTv yX2_wayOf := ⟨gS4 24 rfl rfl, gS4 25 rfl rfl⟩
abbrev mX2_greenOf : Mt := (cX2_greenOf, 9, (some .int), RX2, ({ frames := 2, cells := 0, slots := 0, locals := 52 } : Room))
theorem xq_d14 : (parseMethodDescriptor "(LRawPictures$Sheet;III)I").map (fun d => d.parameters.length) = some 4 := by decide +kernel
set_option maxRecDepth 20000 in
theorem kX2_greenOf : zTk mX2_greenOf yX2_greenOf 4 := ⟨gS4 21 rfl rfl, gS1 9 rfl rfl, xq_RX2, xq_d14, rfl, rfl⟩
set_option maxRecDepth 20000 in
theorem vX2_greenOf : zTv yX2_greenOf := ⟨gS4 20 rfl rfl, gT_pv 13 (by decide +kernel) rfl⟩
abbrev mX2_fillRedAndBlue : Mt := (cX2_fillRedAndBlue, 11, none, RX2, ({ frames := 2, cells := 0, slots := 0, locals := 46 } : Room))
theorem xq_d15 : (parseMethodDescriptor "(LRawPictures$Sheet;LRawPictures$Sheet;II)V").map (fun d => d.parameters.length) = some 4 := by decide +kernel
set_option maxRecDepth 20000 in
theorem kX2_fillRedAndBlue : zTk mX2_fillRedAndBlue yX2_fillRedAndBlue 4 := ⟨gS4 30 rfl rfl, gS1 9 rfl rfl, xq_RX2, xq_d15, rfl, rfl⟩
set_option maxRecDepth 20000 in
theorem vX2_fillRedAndBlue : zTv yX2_fillRedAndBlue := ⟨gS4 29 rfl rfl, gT_pv 14 (by decide +kernel) rfl⟩
abbrev mX2_aboveGreen : Mt := (cX2_aboveGreen, 6, (some .int), RX2, ({ frames := 1, cells := 0, slots := 0, locals := 21 } : Room))
theorem xq_d16 : (parseMethodDescriptor "(LRawPictures$Sheet;LRawPictures$Sheet;II)I").map (fun d => d.parameters.length) = some 4 := by decide +kernel
set_option maxRecDepth 20000 in
theorem kX2_aboveGreen : zTk mX2_aboveGreen yX2_aboveGreen 4 := ⟨gS4 34 rfl rfl, gS1 9 rfl rfl, xq_RX2, xq_d16, rfl, rfl⟩
set_option maxRecDepth 20000 in
theorem vX2_aboveGreen : zTv yX2_aboveGreen := ⟨gS4 33 rfl rfl, gT_pv 15 (by decide +kernel) rfl⟩
abbrev mX3_voteDown : Mt := (cX3_voteDown, 5, none, RX3, ({ frames := 3, cells := 0, slots := 0, locals := 77 } : Room))
theorem xq_RX3 : RX3 ≠ "java/lang/invoke/MethodHandle" ∧ RX3 ≠ "java/lang/invoke/VarHandle" := ⟨by decide +kernel, by decide +kernel⟩
set_option maxRecDepth 20000 in
theorem kX3_voteDown : zTk mX3_voteDown yX3_voteDown 3 := ⟨gS4 38 rfl rfl, gS1 10 rfl rfl, xq_RX3, xq_d11, rfl, rfl⟩
set_option maxRecDepth 20000 in
theorem vX3_voteDown : zTv yX3_voteDown := ⟨gS4 36 rfl rfl, gS4 37 rfl rfl⟩
abbrev mX3_voteColour : Mt := (cX3_voteColour, 6, none, RX3, ({ frames := 2, cells := 0, slots := 0, locals := 52 } : Room))
theorem xq_d17 : (parseMethodDescriptor "([II)V").map (fun d => d.parameters.length) = some 2 := by decide +kernel
set_option maxRecDepth 20000 in
theorem kX3_voteColour : zTk mX3_voteColour yX3_voteColour 2 := ⟨gS4 43 rfl rfl, gS1 10 rfl rfl, xq_RX3, xq_d17, rfl, rfl⟩
set_option maxRecDepth 20000 in
theorem vX3_voteColour : zTv yX3_voteColour := ⟨gS4 42 rfl rfl, gT_pv 16 (by decide +kernel) rfl⟩
abbrev mX3_medianAt : Mt := (cX3_medianAt, 12, (some .int), RX3, ({ frames := 1, cells := 0, slots := 0, locals := 21 } : Room))
theorem xq_d18 : (parseMethodDescriptor "([IIII)I").map (fun d => d.parameters.length) = some 4 := by decide +kernel
set_option maxRecDepth 20000 in
theorem kX3_medianAt : zTk mX3_medianAt yX3_medianAt 4 := ⟨gS4 47 rfl rfl, gS1 10 rfl rfl, xq_RX3, xq_d18, rfl, rfl⟩
set_option maxRecDepth 20000 in
theorem vX3_medianAt : zTv yX3_medianAt := ⟨gS4 46 rfl rfl, gT_pv 17 (by decide +kernel) rfl⟩
abbrev mX3_findWhite : Mt := (cX3_findWhite, 9, none, RX3, ({ frames := 3, cells := 0, slots := 0, locals := 67 } : Room))
theorem xq_d19 : (parseMethodDescriptor "(LRawPictures$Sheet;I)V").map (fun d => d.parameters.length) = some 2 := by decide +kernel
set_option maxRecDepth 20000 in
theorem kX3_findWhite : zTk mX3_findWhite yX3_findWhite 2 := ⟨gS4 53 rfl rfl, gS1 10 rfl rfl, xq_RX3, xq_d19, rfl, rfl⟩
set_option maxRecDepth 20000 in
theorem vX3_findWhite : zTv yX3_findWhite := ⟨gS4 51 rfl rfl, gS4 52 rfl rfl⟩
abbrev mX3_isGrey : Mt := (cX3_isGrey, 6, (some .boolean), RX3, ({ frames := 2, cells := 0, slots := 0, locals := 42 } : Room))
theorem xq_d20 : (parseMethodDescriptor "([III)Z").map (fun d => d.parameters.length) = some 3 := by decide +kernel
set_option maxRecDepth 20000 in
theorem kX3_isGrey : zTk mX3_isGrey yX3_isGrey 3 := ⟨gS4 57 rfl rfl, gS1 10 rfl rfl, xq_RX3, xq_d20, rfl, rfl⟩
set_option maxRecDepth 20000 in
theorem vX3_isGrey : zTv yX3_isGrey := ⟨gS4 56 rfl rfl, gT_pv 18 (by decide +kernel) rfl⟩
abbrev mX3_gainOf : Mt := (cX3_gainOf, 3, (some .int), RX3, ({ frames := 1, cells := 0, slots := 0, locals := 21 } : Room))
theorem xq_d21 : (parseMethodDescriptor "(II)I").map (fun d => d.parameters.length) = some 2 := by decide +kernel
set_option maxRecDepth 20000 in
theorem kX3_gainOf : zTk mX3_gainOf yX3_gainOf 2 := ⟨gS4 67 rfl rfl, gS1 10 rfl rfl, xq_RX3, xq_d21, rfl, rfl⟩
set_option maxRecDepth 20000 in
theorem vX3_gainOf : zTv yX3_gainOf := ⟨gS4 66 rfl rfl, gT_pv 19 (by decide +kernel) rfl⟩
abbrev mX3_multiply : Mt := (cX3_multiply, 7, none, RX3, ({ frames := 3, cells := 0, slots := 0, locals := 69 } : Room))
theorem xq_d22 : (parseMethodDescriptor "(LRawPictures$Sheet;LRawPictures$Sheet;IIII)V").map (fun d => d.parameters.length) = some 6 := by decide +kernel
set_option maxRecDepth 20000 in
theorem kX3_multiply : zTk mX3_multiply yX3_multiply 6 := ⟨gS4 73 rfl rfl, gS1 10 rfl rfl, xq_RX3, xq_d22, rfl, rfl⟩
set_option maxRecDepth 20000 in
theorem vX3_multiply : zTv yX3_multiply := ⟨gS4 71 rfl rfl, gS4 72 rfl rfl⟩
abbrev mX3_multiplyColour : Mt := (cX3_multiplyColour, 9, none, RX3, ({ frames := 2, cells := 0, slots := 0, locals := 41 } : Room))
theorem xq_d23 : (parseMethodDescriptor "(LRawPictures$Sheet;LRawPictures$Sheet;III)V").map (fun d => d.parameters.length) = some 5 := by decide +kernel
set_option maxRecDepth 20000 in
theorem kX3_multiplyColour : zTk mX3_multiplyColour yX3_multiplyColour 5 := ⟨gS4 77 rfl rfl, gS1 10 rfl rfl, xq_RX3, xq_d23, rfl, rfl⟩
set_option maxRecDepth 20000 in
theorem vX3_multiplyColour : zTv yX3_multiplyColour := ⟨gS4 76 rfl rfl, gT_pv 20 (by decide +kernel) rfl⟩
abbrev mX3_stretch : Mt := (cX3_stretch, 8, none, RX3, ({ frames := 2, cells := 0, slots := 0, locals := 41 } : Room))
set_option maxRecDepth 20000 in
theorem kX3_stretch : zTk mX3_stretch yX3_stretch 3 := ⟨gS4 81 rfl rfl, gS1 10 rfl rfl, xq_RX3, xq_d11, rfl, rfl⟩
set_option maxRecDepth 20000 in
theorem vX3_stretch : zTv yX3_stretch := ⟨gS4 79 rfl rfl, gS4 80 rfl rfl⟩
abbrev mX3_makePale : Mt := (cX3_makePale, 8, none, RX3, ({ frames := 2, cells := 0, slots := 0, locals := 42 } : Room))
set_option maxRecDepth 20000 in
theorem kX3_makePale : zTk mX3_makePale yX3_makePale 3 := ⟨gS4 88 rfl rfl, gS1 10 rfl rfl, xq_RX3, xq_d11, rfl, rfl⟩
set_option maxRecDepth 20000 in
theorem vX3_makePale : zTv yX3_makePale := ⟨gS4 86 rfl rfl, gS4 87 rfl rfl⟩
abbrev mX3_paled : Mt := (cX3_paled, 5, (some .int), RX3, ({ frames := 0, cells := 0, slots := 0, locals := 0 } : Room))
theorem xq_d24 : (parseMethodDescriptor "(III)I").map (fun d => d.parameters.length) = some 3 := by decide +kernel
set_option maxRecDepth 20000 in
theorem kX3_paled : zTk mX3_paled yX3_paled 3 := ⟨gS4 92 rfl rfl, gS1 10 rfl rfl, xq_RX3, xq_d24, rfl, rfl⟩
set_option maxRecDepth 20000 in
theorem vX3_paled : zTv yX3_paled := ⟨gS4 91 rfl rfl, gT_pv 21 (by decide +kernel) rfl⟩
abbrev mX3_bend : Mt := (cX3_bend, 8, none, RX3, ({ frames := 3, cells := 0, slots := 0, locals := 72 } : Room))
theorem xq_d25 : (parseMethodDescriptor "(LRawPictures$Sheet;LRawPictures$Sheet;LRawPictures$Recipe;I)V").map (fun d => d.parameters.length) = some 4 := by decide +kernel
set_option maxRecDepth 20000 in
theorem kX3_bend : zTk mX3_bend yX3_bend 4 := ⟨gS4 96 rfl rfl, gS1 10 rfl rfl, xq_RX3, xq_d25, rfl, rfl⟩
set_option maxRecDepth 20000 in
theorem vX3_bend : zTv yX3_bend := ⟨gS4 94 rfl rfl, gS4 95 rfl rfl⟩
abbrev mX3_bent : Mt := (cX3_bent, 10, (some .int), RX3, ({ frames := 2, cells := 0, slots := 0, locals := 43 } : Room))
theorem xq_d26 : (parseMethodDescriptor "(ILRawPictures$Recipe;I)I").map (fun d => d.parameters.length) = some 3 := by decide +kernel
set_option maxRecDepth 20000 in
theorem kX3_bent : zTk mX3_bent yX3_bent 3 := ⟨gS4 100 rfl rfl, gS1 10 rfl rfl, xq_RX3, xq_d26, rfl, rfl⟩
set_option maxRecDepth 20000 in
theorem vX3_bent : zTv yX3_bent := ⟨gS4 99 rfl rfl, gT_pv 22 (by decide +kernel) rfl⟩
abbrev mX3_evenBlocks : Mt := (cX3_evenBlocks, 10, none, RX3, ({ frames := 3, cells := 0, slots := 0, locals := 77 } : Room))
set_option maxRecDepth 20000 in
theorem kX3_evenBlocks : zTk mX3_evenBlocks yX3_evenBlocks 4 := ⟨gS4 106 rfl rfl, gS1 10 rfl rfl, xq_RX3, xq_d15, rfl, rfl⟩
set_option maxRecDepth 20000 in
theorem vX3_evenBlocks : zTv yX3_evenBlocks := ⟨gS4 104 rfl rfl, gS4 105 rfl rfl⟩
abbrev mX3_findBases : Mt := (cX3_findBases, 6, none, RX3, ({ frames := 2, cells := 0, slots := 0, locals := 52 } : Room))
set_option maxRecDepth 20000 in
theorem kX3_findBases : zTk mX3_findBases yX3_findBases 2 := ⟨gS4 110 rfl rfl, gS1 10 rfl rfl, xq_RX3, xq_d19, rfl, rfl⟩
set_option maxRecDepth 20000 in
theorem vX3_findBases : zTv yX3_findBases := ⟨gS4 108 rfl rfl, gS4 109 rfl rfl⟩
abbrev mX3_layBase : Mt := (cX3_layBase, 12, none, RX3, ({ frames := 1, cells := 0, slots := 0, locals := 21 } : Room))
theorem xq_d27 : (parseMethodDescriptor "(LRawPictures$Sheet;III)V").map (fun d => d.parameters.length) = some 4 := by decide +kernel
set_option maxRecDepth 20000 in
theorem kX3_layBase : zTk mX3_layBase yX3_layBase 4 := ⟨gS4 114 rfl rfl, gS1 10 rfl rfl, xq_RX3, xq_d27, rfl, rfl⟩
set_option maxRecDepth 20000 in
theorem vX3_layBase : zTv yX3_layBase := ⟨gS4 113 rfl rfl, gT_pv 23 (by decide +kernel) rfl⟩
abbrev mX3_setTones : Mt := (cX3_setTones, 8, none, RX3, ({ frames := 3, cells := 0, slots := 0, locals := 66 } : Room))
set_option maxRecDepth 20000 in
theorem kX3_setTones : zTk mX3_setTones yX3_setTones 5 := ⟨gS4 122 rfl rfl, gS1 10 rfl rfl, xq_RX3, xq_d23, rfl, rfl⟩
set_option maxRecDepth 20000 in
theorem vX3_setTones : zTv yX3_setTones := ⟨gS4 120 rfl rfl, gS4 121 rfl rfl⟩
abbrev mX3_buildFloors : Mt := (cX3_buildFloors, 6, none, RX3, ({ frames := 1, cells := 0, slots := 0, locals := 30 } : Room))
theorem xq_d28 : (parseMethodDescriptor "(LRawPictures$Sheet;)V").map (fun d => d.parameters.length) = some 1 := by decide +kernel
set_option maxRecDepth 20000 in
theorem kX3_buildFloors : zTk mX3_buildFloors yX3_buildFloors 1 := ⟨gS4 126 rfl rfl, gS1 10 rfl rfl, xq_RX3, xq_d28, rfl, rfl⟩
set_option maxRecDepth 20000 in
theorem vX3_buildFloors : zTv yX3_buildFloors := ⟨gS4 124 rfl rfl, gS4 125 rfl rfl⟩
abbrev mX3_buildFloor : Mt := (cX3_buildFloor, 11, none, RX3, ({ frames := 0, cells := 0, slots := 0, locals := 0 } : Room))
theorem xq_d29 : (parseMethodDescriptor "([I[III)V").map (fun d => d.parameters.length) = some 4 := by decide +kernel
set_option maxRecDepth 20000 in
theorem kX3_buildFloor : zTk mX3_buildFloor yX3_buildFloor 4 := ⟨gS4 130 rfl rfl, gS1 10 rfl rfl, xq_RX3, xq_d29, rfl, rfl⟩
set_option maxRecDepth 20000 in
theorem vX3_buildFloor : zTv yX3_buildFloor := ⟨gS4 129 rfl rfl, gT_pv 25 (by decide +kernel) rfl⟩
abbrev mX3_floorOf : Mt := (cX3_floorOf, 4, (some .int), RX3, ({ frames := 0, cells := 0, slots := 0, locals := 0 } : Room))
set_option maxRecDepth 20000 in
theorem kX3_floorOf : zTk mX3_floorOf yX3_floorOf 3 := ⟨gS4 138 rfl rfl, gS1 10 rfl rfl, xq_RX3, xq_d24, rfl, rfl⟩
set_option maxRecDepth 20000 in
theorem vX3_floorOf : zTv yX3_floorOf := ⟨gS4 136 rfl rfl, gS4 137 rfl rfl⟩
abbrev mX3_toneOf : Mt := (cX3_toneOf, 9, (some .int), RX3, ({ frames := 1, cells := 0, slots := 0, locals := 23 } : Room))
theorem xq_d30 : (parseMethodDescriptor "(IIIII)I").map (fun d => d.parameters.length) = some 5 := by decide +kernel
set_option maxRecDepth 20000 in
theorem kX3_toneOf : zTk mX3_toneOf yX3_toneOf 5 := ⟨gS4 134 rfl rfl, gS1 10 rfl rfl, xq_RX3, xq_d30, rfl, rfl⟩
set_option maxRecDepth 20000 in
theorem vX3_toneOf : zTv yX3_toneOf := ⟨gS4 132 rfl rfl, gS4 133 rfl rfl⟩
abbrev mX3_addToAll : Mt := (cX3_addToAll, 6, none, RX3, ({ frames := 2, cells := 0, slots := 0, locals := 41 } : Room))
set_option maxRecDepth 20000 in
theorem kX3_addToAll : zTk mX3_addToAll yX3_addToAll 4 := ⟨gS4 118 rfl rfl, gS1 10 rfl rfl, xq_RX3, xq_d15, rfl, rfl⟩
set_option maxRecDepth 20000 in
theorem vX3_addToAll : zTv yX3_addToAll := ⟨gS4 117 rfl rfl, gT_pv 24 (by decide +kernel) rfl⟩
abbrev mX3_takeNoise : Mt := (cX3_takeNoise, 13, none, RX3, ({ frames := 2, cells := 0, slots := 0, locals := 52 } : Room))
set_option maxRecDepth 20000 in
theorem kX3_takeNoise : zTk mX3_takeNoise yX3_takeNoise 4 := ⟨gS4 142 rfl rfl, gS1 10 rfl rfl, xq_RX3, xq_d15, rfl, rfl⟩
set_option maxRecDepth 20000 in
theorem vX3_takeNoise : zTv yX3_takeNoise := ⟨gS4 140 rfl rfl, gS4 141 rfl rfl⟩
abbrev mX3_sharpen : Mt := (cX3_sharpen, 11, none, RX3, ({ frames := 2, cells := 0, slots := 0, locals := 52 } : Room))
set_option maxRecDepth 20000 in
theorem kX3_sharpen : zTk mX3_sharpen yX3_sharpen 4 := ⟨gS4 151 rfl rfl, gS1 10 rfl rfl, xq_RX3, xq_d15, rfl, rfl⟩
set_option maxRecDepth 20000 in
theorem vX3_sharpen : zTv yX3_sharpen := ⟨gS4 149 rfl rfl, gS4 150 rfl rfl⟩
abbrev mX4_gather : Mt := (cX4_gather, 3, none, RX4, ({ frames := 3, cells := 0, slots := 0, locals := 74 } : Room))
theorem xq_RX4 : RX4 ≠ "java/lang/invoke/MethodHandle" ∧ RX4 ≠ "java/lang/invoke/VarHandle" := ⟨by decide +kernel, by decide +kernel⟩
set_option maxRecDepth 20000 in
theorem kX4_gather : zTk mX4_gather yX4_gather 2 := ⟨gS5 21 rfl rfl, gS1 11 rfl rfl, xq_RX4, xq_d19, rfl, rfl⟩
set_option maxRecDepth 20000 in
theorem vX4_gather : zTv yX4_gather := ⟨gS5 19 rfl rfl, gS5 20 rfl rfl⟩
abbrev mX4_gatherRing : Mt := (cX4_gatherRing, 7, none, RX4, ({ frames := 2, cells := 0, slots := 0, locals := 48 } : Room))
set_option maxRecDepth 20000 in
theorem kX4_gatherRing : zTk mX4_gatherRing yX4_gatherRing 3 := ⟨gS5 25 rfl rfl, gS1 11 rfl rfl, xq_RX4, xq_d1, rfl, rfl⟩
set_option maxRecDepth 20000 in
theorem vX4_gatherRing : zTv yX4_gatherRing := ⟨gS5 23 rfl rfl, gS5 24 rfl rfl⟩
abbrev mX4_ringOf : Mt := (cX4_ringOf, 6, (some .int), RX4, ({ frames := 0, cells := 0, slots := 0, locals := 0 } : Room))
set_option maxRecDepth 20000 in
theorem kX4_ringOf : zTk mX4_ringOf yX4_ringOf 2 := ⟨gS5 29 rfl rfl, gS1 11 rfl rfl, xq_RX4, xq_d21, rfl, rfl⟩
set_option maxRecDepth 20000 in
theorem vX4_ringOf : zTv yX4_ringOf := ⟨gS5 28 rfl rfl, gT_pv 30 (by decide +kernel) rfl⟩
abbrev mX4_least : Mt := (cX4_least, 3, (some .int), RX4, ({ frames := 1, cells := 0, slots := 0, locals := 21 } : Room))
set_option maxRecDepth 20000 in
theorem kX4_least : zTk mX4_least yX4_least 0 := ⟨gS5 35 rfl rfl, gS1 11 rfl rfl, xq_RX4, xq_d2, rfl, rfl⟩
set_option maxRecDepth 20000 in
theorem vX4_least : zTv yX4_least := ⟨gS5 33 rfl rfl, gS5 34 rfl rfl⟩
abbrev mX4_greatest : Mt := (cX4_greatest, 3, (some .int), RX4, ({ frames := 1, cells := 0, slots := 0, locals := 21 } : Room))
set_option maxRecDepth 20000 in
theorem kX4_greatest : zTk mX4_greatest yX4_greatest 0 := ⟨gS5 40 rfl rfl, gS1 11 rfl rfl, xq_RX4, xq_d2, rfl, rfl⟩
set_option maxRecDepth 20000 in
theorem vX4_greatest : zTv yX4_greatest := ⟨gS5 38 rfl rfl, gS5 39 rfl rfl⟩
abbrev mX4_together : Mt := (cX4_together, 3, (some .int), RX4, ({ frames := 0, cells := 0, slots := 0, locals := 0 } : Room))
set_option maxRecDepth 20000 in
theorem kX4_together : zTk mX4_together yX4_together 0 := ⟨gS5 45 rfl rfl, gS1 11 rfl rfl, xq_RX4, xq_d2, rfl, rfl⟩
set_option maxRecDepth 20000 in
theorem vX4_together : zTv yX4_together := ⟨gS5 43 rfl rfl, gS5 44 rfl rfl⟩
abbrev mX4_between : Mt := (cX4_between, 5, (some .int), RX4, ({ frames := 0, cells := 0, slots := 0, locals := 0 } : Room))
set_option maxRecDepth 20000 in
theorem kX4_between : zTk mX4_between yX4_between 2 := ⟨gS5 63 rfl rfl, gS1 11 rfl rfl, xq_RX4, xq_d21, rfl, rfl⟩
set_option maxRecDepth 20000 in
theorem vX4_between : zTv yX4_between := ⟨gS5 61 rfl rfl, gS5 62 rfl rfl⟩
abbrev mX4_unlikeOnes : Mt := (cX4_unlikeOnes, 3, (some .int), RX4, ({ frames := 2, cells := 0, slots := 0, locals := 41 } : Room))
set_option maxRecDepth 20000 in
theorem kX4_unlikeOnes : zTk mX4_unlikeOnes yX4_unlikeOnes 0 := ⟨gS5 49 rfl rfl, gS1 11 rfl rfl, xq_RX4, xq_d2, rfl, rfl⟩
set_option maxRecDepth 20000 in
theorem vX4_unlikeOnes : zTv yX4_unlikeOnes := ⟨gS5 47 rfl rfl, gS5 48 rfl rfl⟩
abbrev mX4_percentile : Mt := (cX4_percentile, 6, (some .int), RX4, ({ frames := 1, cells := 0, slots := 0, locals := 24 } : Room))
theorem xq_d31 : (parseMethodDescriptor "(I)I").map (fun d => d.parameters.length) = some 1 := by decide +kernel
set_option maxRecDepth 20000 in
theorem kX4_percentile : zTk mX4_percentile yX4_percentile 1 := ⟨gS5 85 rfl rfl, gS1 11 rfl rfl, xq_RX4, xq_d31, rfl, rfl⟩
set_option maxRecDepth 20000 in
theorem vX4_percentile : zTv yX4_percentile := ⟨gS5 83 rfl rfl, gS5 84 rfl rfl⟩
abbrev mX4_bitsOfAll : Mt := (cX4_bitsOfAll, 5, (some .int), RX4, ({ frames := 1, cells := 0, slots := 0, locals := 22 } : Room))
set_option maxRecDepth 20000 in
theorem kX4_bitsOfAll : zTk mX4_bitsOfAll yX4_bitsOfAll 0 := ⟨gS5 94 rfl rfl, gS1 11 rfl rfl, xq_RX4, xq_d2, rfl, rfl⟩
set_option maxRecDepth 20000 in
theorem vX4_bitsOfAll : zTv yX4_bitsOfAll := ⟨gS5 92 rfl rfl, gS5 93 rfl rfl⟩
abbrev mX4_digitsOf : Mt := (cX4_digitsOf, 3, (some .int), RX4, ({ frames := 0, cells := 0, slots := 0, locals := 0 } : Room))
set_option maxRecDepth 20000 in
theorem kX4_digitsOf : zTk mX4_digitsOf yX4_digitsOf 1 := ⟨gS5 98 rfl rfl, gS1 11 rfl rfl, xq_RX4, xq_d31, rfl, rfl⟩
set_option maxRecDepth 20000 in
theorem vX4_digitsOf : zTv yX4_digitsOf := ⟨gS5 97 rfl rfl, gT_pv 31 (by decide +kernel) rfl⟩
abbrev mX4_findNoise : Mt := (cX4_findNoise, 8, none, RX4, ({ frames := 2, cells := 0, slots := 0, locals := 52 } : Room))
set_option maxRecDepth 20000 in
theorem kX4_findNoise : zTk mX4_findNoise yX4_findNoise 3 := ⟨gS5 75 rfl rfl, gS1 11 rfl rfl, xq_RX4, xq_d1, rfl, rfl⟩
set_option maxRecDepth 20000 in
theorem vX4_findNoise : zTv yX4_findNoise := ⟨gS5 73 rfl rfl, gS5 74 rfl rfl⟩
abbrev mX4_edgesOf : Mt := (cX4_edgesOf, 8, (some .int), RX4, ({ frames := 2, cells := 0, slots := 0, locals := 44 } : Room))
theorem xq_d32 : (parseMethodDescriptor "(LRawPictures$Sheet;I)I").map (fun d => d.parameters.length) = some 2 := by decide +kernel
set_option maxRecDepth 20000 in
theorem kX4_edgesOf : zTk mX4_edgesOf yX4_edgesOf 2 := ⟨gS5 111 rfl rfl, gS1 11 rfl rfl, xq_RX4, xq_d32, rfl, rfl⟩
set_option maxRecDepth 20000 in
theorem vX4_edgesOf : zTv yX4_edgesOf := ⟨gS5 109 rfl rfl, gS5 110 rfl rfl⟩
abbrev mX4_lightAt : Mt := (cX4_lightAt, 4, (some .int), RX4, ({ frames := 1, cells := 0, slots := 0, locals := 21 } : Room))
set_option maxRecDepth 20000 in
theorem kX4_lightAt : zTk mX4_lightAt yX4_lightAt 3 := ⟨gS5 115 rfl rfl, gS1 11 rfl rfl, xq_RX4, xq_d12, rfl, rfl⟩
set_option maxRecDepth 20000 in
theorem vX4_lightAt : zTv yX4_lightAt := ⟨gS5 114 rfl rfl, gT_pv 32 (by decide +kernel) rfl⟩
abbrev mX4_findErrors : Mt := (cX4_findErrors, 9, none, RX4, ({ frames := 1, cells := 0, slots := 0, locals := 23 } : Room))
theorem xq_d33 : (parseMethodDescriptor "(LRawPictures$Sheet;LRawPictures$Truth;I)V").map (fun d => d.parameters.length) = some 3 := by decide +kernel
set_option maxRecDepth 20000 in
theorem kX4_findErrors : zTk mX4_findErrors yX4_findErrors 3 := ⟨gS5 128 rfl rfl, gS1 11 rfl rfl, xq_RX4, xq_d33, rfl, rfl⟩
set_option maxRecDepth 20000 in
theorem vX4_findErrors : zTv yX4_findErrors := ⟨gS5 126 rfl rfl, gS5 127 rfl rfl⟩
abbrev mX4_falseOf : Mt := (cX4_falseOf, 7, (some .int), RX4, ({ frames := 2, cells := 0, slots := 0, locals := 42 } : Room))
set_option maxRecDepth 20000 in
theorem kX4_falseOf : zTk mX4_falseOf yX4_falseOf 2 := ⟨gS5 139 rfl rfl, gS1 11 rfl rfl, xq_RX4, xq_d32, rfl, rfl⟩
set_option maxRecDepth 20000 in
theorem vX4_falseOf : zTv yX4_falseOf := ⟨gS5 137 rfl rfl, gS5 138 rfl rfl⟩
abbrev mX4_compare : Mt := (cX4_compare, 9, none, RX4, ({ frames := 1, cells := 0, slots := 0, locals := 21 } : Room))
theorem xq_d34 : (parseMethodDescriptor "(LRawPictures$Sheet;LRawPictures$Sheet;)V").map (fun d => d.parameters.length) = some 2 := by decide +kernel
set_option maxRecDepth 20000 in
theorem kX4_compare : zTk mX4_compare yX4_compare 2 := ⟨gS5 159 rfl rfl, gS1 11 rfl rfl, xq_RX4, xq_d34, rfl, rfl⟩
set_option maxRecDepth 20000 in
theorem vX4_compare : zTv yX4_compare := ⟨gS5 157 rfl rfl, gS5 158 rfl rfl⟩
abbrev mX5_begin : Mt := (cX5_begin, 4, none, RX5, ({ frames := 2, cells := 0, slots := 0, locals := 43 } : Room))
theorem xq_RX5 : RX5 ≠ "java/lang/invoke/MethodHandle" ∧ RX5 ≠ "java/lang/invoke/VarHandle" := ⟨by decide +kernel, by decide +kernel⟩
theorem xq_d35 : (parseMethodDescriptor "(III)V").map (fun d => d.parameters.length) = some 3 := by decide +kernel
set_option maxRecDepth 20000 in
theorem kX5_begin : zTk mX5_begin yX5_begin 3 := ⟨gS3 91 rfl rfl, gS1 3 rfl rfl, xq_RX5, xq_d35, rfl, rfl⟩
set_option maxRecDepth 20000 in
theorem vX5_begin : zTv yX5_begin := ⟨gS3 89 rfl rfl, gS3 90 rfl rfl⟩
abbrev mX5_copyFrom : Mt := (cX5_copyFrom, 2, none, RX5, ({ frames := 1, cells := 0, slots := 0, locals := 26 } : Room))
theorem xq_d36 : (parseMethodDescriptor "(LRawPictures$Mosaic;)V").map (fun d => d.parameters.length) = some 1 := by decide +kernel
set_option maxRecDepth 20000 in
theorem kX5_copyFrom : zTk mX5_copyFrom yX5_copyFrom 1 := ⟨gS5 191 rfl rfl, gS1 3 rfl rfl, xq_RX5, xq_d36, rfl, rfl⟩
set_option maxRecDepth 20000 in
theorem vX5_copyFrom : zTv yX5_copyFrom := ⟨gS5 189 rfl rfl, gS5 190 rfl rfl⟩
abbrev mX5_wake : Mt := (cX5_wake, 1, none, RX5, ({ frames := 1, cells := 0, slots := 0, locals := 23 } : Room))
set_option maxRecDepth 20000 in
theorem kX5_wake : zTk mX5_wake yX5_wake 0 := ⟨gS3 98 rfl rfl, gS1 3 rfl rfl, xq_RX5, xq_d7, rfl, rfl⟩
set_option maxRecDepth 20000 in
theorem vX5_wake : zTv yX5_wake := ⟨gS3 96 rfl rfl, gS3 97 rfl rfl⟩
abbrev mX5_has : Mt := (cX5_has, 3, (some .boolean), RX5, ({ frames := 0, cells := 0, slots := 0, locals := 0 } : Room))
theorem xq_d37 : (parseMethodDescriptor "(II)Z").map (fun d => d.parameters.length) = some 2 := by decide +kernel
set_option maxRecDepth 20000 in
theorem kX5_has : zTk mX5_has yX5_has 2 := ⟨gS3 115 rfl rfl, gS1 3 rfl rfl, xq_RX5, xq_d37, rfl, rfl⟩
set_option maxRecDepth 20000 in
theorem vX5_has : zTv yX5_has := ⟨gS3 113 rfl rfl, gS3 114 rfl rfl⟩
abbrev mX5_colourOf : Mt := (cX5_colourOf, 5, (some .int), RX5, ({ frames := 0, cells := 0, slots := 0, locals := 0 } : Room))
set_option maxRecDepth 20000 in
theorem kX5_colourOf : zTk mX5_colourOf yX5_colourOf 2 := ⟨gS3 140 rfl rfl, gS1 3 rfl rfl, xq_RX5, xq_d21, rfl, rfl⟩
set_option maxRecDepth 20000 in
theorem vX5_colourOf : zTv yX5_colourOf := ⟨gS3 138 rfl rfl, gS3 139 rfl rfl⟩
abbrev mX5_squaresOf : Mt := (cX5_squaresOf, 2, (some .int), RX5, ({ frames := 0, cells := 0, slots := 0, locals := 0 } : Room))
set_option maxRecDepth 20000 in
theorem kX5_squaresOf : zTk mX5_squaresOf yX5_squaresOf 1 := ⟨gS3 163 rfl rfl, gS1 3 rfl rfl, xq_RX5, xq_d31, rfl, rfl⟩
set_option maxRecDepth 20000 in
theorem vX5_squaresOf : zTv yX5_squaresOf := ⟨gS3 161 rfl rfl, gS3 162 rfl rfl⟩
abbrev mX5_sumOf : Mt := (cX5_sumOf, 5, (some .int), RX5, ({ frames := 0, cells := 0, slots := 0, locals := 0 } : Room))
set_option maxRecDepth 20000 in
theorem kX5_sumOf : zTk mX5_sumOf yX5_sumOf 1 := ⟨gS3 123 rfl rfl, gS1 3 rfl rfl, xq_RX5, xq_d3, rfl, rfl⟩
set_option maxRecDepth 20000 in
theorem vX5_sumOf : zTv yX5_sumOf := ⟨gS3 121 rfl rfl, gS3 122 rfl rfl⟩
abbrev mX5_laid : Mt := (cX5_laid, 6, (some .int), RX5, ({ frames := 1, cells := 0, slots := 0, locals := 24 } : Room))
set_option maxRecDepth 20000 in
theorem kX5_laid : zTk mX5_laid yX5_laid 5 := ⟨gS3 136 rfl rfl, gS1 3 rfl rfl, xq_RX5, xq_d30, rfl, rfl⟩
set_option maxRecDepth 20000 in
theorem vX5_laid : zTv yX5_laid := ⟨gS3 134 rfl rfl, gS3 135 rfl rfl⟩
abbrev mX6_read : Mt := (cX6_read, 4, (some .int), RX6, ({ frames := 9, cells := 0, slots := 0, locals := 202 } : Room))
theorem xq_RX6 : RX6 ≠ "java/lang/invoke/MethodHandle" ∧ RX6 ≠ "java/lang/invoke/VarHandle" := ⟨by decide +kernel, by decide +kernel⟩
set_option maxRecDepth 20000 in
theorem kX6_read : zTk mX6_read yX6_read 1 := ⟨gS2 154 rfl rfl, gS1 6 rfl rfl, xq_RX6, xq_d31, rfl, rfl⟩
set_option maxRecDepth 20000 in
theorem vX6_read : zTv yX6_read := ⟨gS2 152 rfl rfl, gS2 153 rfl rfl⟩
abbrev mX6_readStage : Mt := (cX6_readStage, 2, none, RX6, ({ frames := 8, cells := 0, slots := 0, locals := 181 } : Room))
set_option maxRecDepth 20000 in
theorem kX6_readStage : zTk mX6_readStage yX6_readStage 0 := ⟨gS2 162 rfl rfl, gS1 6 rfl rfl, xq_RX6, xq_d7, rfl, rfl⟩
set_option maxRecDepth 20000 in
theorem vX6_readStage : zTv yX6_readStage := ⟨gS2 161 rfl rfl, gT_pv 0 (by decide +kernel) rfl⟩
abbrev mX6_readLetter : Mt := (cX6_readLetter, 3, (some .int), RX6, ({ frames := 7, cells := 0, slots := 0, locals := 159 } : Room))
set_option maxRecDepth 20000 in
theorem kX6_readLetter : zTk mX6_readLetter yX6_readLetter 0 := ⟨gS2 166 rfl rfl, gS1 6 rfl rfl, xq_RX6, xq_d2, rfl, rfl⟩
set_option maxRecDepth 20000 in
theorem vX6_readLetter : zTv yX6_readLetter := ⟨gS2 165 rfl rfl, gT_pv 1 (by decide +kernel) rfl⟩
abbrev mX6_readNumbers : Mt := (cX6_readNumbers, 4, none, RX6, ({ frames := 4, cells := 0, slots := 0, locals := 86 } : Room))
theorem xq_d38 : (parseMethodDescriptor "(I)V").map (fun d => d.parameters.length) = some 1 := by decide +kernel
set_option maxRecDepth 20000 in
theorem kX6_readNumbers : zTk mX6_readNumbers yX6_readNumbers 1 := ⟨gS3 53 rfl rfl, gS1 6 rfl rfl, xq_RX6, xq_d38, rfl, rfl⟩
set_option maxRecDepth 20000 in
theorem vX6_readNumbers : zTv yX6_readNumbers := ⟨gS3 52 rfl rfl, gT_pv 8 (by decide +kernel) rfl⟩
abbrev mX6_readPoints : Mt := (cX6_readPoints, 3, none, RX6, ({ frames := 4, cells := 0, slots := 0, locals := 86 } : Room))
set_option maxRecDepth 20000 in
theorem kX6_readPoints : zTk mX6_readPoints yX6_readPoints 0 := ⟨gS3 37 rfl rfl, gS1 6 rfl rfl, xq_RX6, xq_d7, rfl, rfl⟩
set_option maxRecDepth 20000 in
theorem vX6_readPoints : zTv yX6_readPoints := ⟨gS3 36 rfl rfl, gT_pv 5 (by decide +kernel) rfl⟩
abbrev mX6_readNumber : Mt := (cX6_readNumber, 6, (some .int), RX6, ({ frames := 3, cells := 0, slots := 0, locals := 61 } : Room))
set_option maxRecDepth 20000 in
theorem kX6_readNumber : zTk mX6_readNumber yX6_readNumber 2 := ⟨gS3 41 rfl rfl, gS1 6 rfl rfl, xq_RX6, xq_d21, rfl, rfl⟩
set_option maxRecDepth 20000 in
theorem vX6_readNumber : zTv yX6_readNumber := ⟨gS3 40 rfl rfl, gT_pv 6 (by decide +kernel) rfl⟩
abbrev mX6_expect : Mt := (cX6_expect, 2, none, RX6, ({ frames := 2, cells := 0, slots := 0, locals := 41 } : Room))
theorem xq_d39 : (parseMethodDescriptor "(C)V").map (fun d => d.parameters.length) = some 1 := by decide +kernel
set_option maxRecDepth 20000 in
theorem kX6_expect : zTk mX6_expect yX6_expect 1 := ⟨gS3 33 rfl rfl, gS1 6 rfl rfl, xq_RX6, xq_d39, rfl, rfl⟩
set_option maxRecDepth 20000 in
theorem vX6_expect : zTv yX6_expect := ⟨gS3 32 rfl rfl, gT_pv 4 (by decide +kernel) rfl⟩
abbrev mX6_isDigit : Mt := (cX6_isDigit, 1, (some .boolean), RX6, ({ frames := 2, cells := 0, slots := 0, locals := 41 } : Room))
theorem xq_d40 : (parseMethodDescriptor "()Z").map (fun d => d.parameters.length) = some 0 := by decide +kernel
set_option maxRecDepth 20000 in
theorem kX6_isDigit : zTk mX6_isDigit yX6_isDigit 0 := ⟨gS3 45 rfl rfl, gS1 6 rfl rfl, xq_RX6, xq_d40, rfl, rfl⟩
set_option maxRecDepth 20000 in
theorem vX6_isDigit : zTv yX6_isDigit := ⟨gS3 44 rfl rfl, gT_pv 7 (by decide +kernel) rfl⟩
abbrev mX6_here : Mt := (cX6_here, 1, (some .int), RX6, ({ frames := 1, cells := 0, slots := 0, locals := 21 } : Room))
set_option maxRecDepth 20000 in
theorem kX6_here : zTk mX6_here yX6_here 0 := ⟨gS2 170 rfl rfl, gS1 6 rfl rfl, xq_RX6, xq_d2, rfl, rfl⟩
set_option maxRecDepth 20000 in
theorem vX6_here : zTv yX6_here := ⟨gS2 169 rfl rfl, gT_pv 2 (by decide +kernel) rfl⟩
abbrev mX6_tell : Mt := (cX6_tell, 3, none, RX6, ({ frames := 0, cells := 0, slots := 0, locals := 0 } : Room))
set_option maxRecDepth 20000 in
theorem kX6_tell : zTk mX6_tell yX6_tell 2 := ⟨gS3 25 rfl rfl, gS1 6 rfl rfl, xq_RX6, xq_d6, rfl, rfl⟩
set_option maxRecDepth 20000 in
theorem vX6_tell : zTv yX6_tell := ⟨gS3 24 rfl rfl, gT_pv 3 (by decide +kernel) rfl⟩
abbrev mX7_clear : Mt := (cX7_clear, 1, none, RX7, ({ frames := 0, cells := 0, slots := 0, locals := 0 } : Room))
theorem xq_RX7 : RX7 ≠ "java/lang/invoke/MethodHandle" ∧ RX7 ≠ "java/lang/invoke/VarHandle" := ⟨by decide +kernel, by decide +kernel⟩
set_option maxRecDepth 20000 in
theorem kX7_clear : zTk mX7_clear yX7_clear 0 := ⟨gS2 158 rfl rfl, gS1 5 rfl rfl, xq_RX7, xq_d7, rfl, rfl⟩
set_option maxRecDepth 20000 in
theorem vX7_clear : zTv yX7_clear := ⟨gS2 156 rfl rfl, gS2 157 rfl rfl⟩
abbrev mX7_copyFrom : Mt := (cX7_copyFrom, 2, none, RX7, ({ frames := 1, cells := 0, slots := 0, locals := 26 } : Room))
theorem xq_d41 : (parseMethodDescriptor "(LRawPictures$Recipe;)V").map (fun d => d.parameters.length) = some 1 := by decide +kernel
set_option maxRecDepth 20000 in
theorem kX7_copyFrom : zTk mX7_copyFrom yX7_copyFrom 1 := ⟨gS3 69 rfl rfl, gS1 5 rfl rfl, xq_RX7, xq_d41, rfl, rfl⟩
set_option maxRecDepth 20000 in
theorem vX7_copyFrom : zTv yX7_copyFrom := ⟨gS3 67 rfl rfl, gS3 68 rfl rfl⟩
abbrev mX7_addStage : Mt := (cX7_addStage, 2, none, RX7, ({ frames := 0, cells := 0, slots := 0, locals := 0 } : Room))
set_option maxRecDepth 20000 in
theorem kX7_addStage : zTk mX7_addStage yX7_addStage 1 := ⟨gS3 29 rfl rfl, gS1 5 rfl rfl, xq_RX7, xq_d38, rfl, rfl⟩
set_option maxRecDepth 20000 in
theorem vX7_addStage : zTv yX7_addStage := ⟨gS3 27 rfl rfl, gS3 28 rfl rfl⟩
abbrev mX7_addNumber : Mt := (cX7_addNumber, 3, none, RX7, ({ frames := 0, cells := 0, slots := 0, locals := 0 } : Room))
set_option maxRecDepth 20000 in
theorem kX7_addNumber : zTk mX7_addNumber yX7_addNumber 1 := ⟨gS3 49 rfl rfl, gS1 5 rfl rfl, xq_RX7, xq_d38, rfl, rfl⟩
set_option maxRecDepth 20000 in
theorem vX7_addNumber : zTv yX7_addNumber := ⟨gS3 47 rfl rfl, gS3 48 rfl rfl⟩
abbrev mX7_has : Mt := (cX7_has, 2, (some .boolean), RX7, ({ frames := 0, cells := 0, slots := 0, locals := 0 } : Room))
theorem xq_d42 : (parseMethodDescriptor "(I)Z").map (fun d => d.parameters.length) = some 1 := by decide +kernel
set_option maxRecDepth 20000 in
theorem kX7_has : zTk mX7_has yX7_has 1 := ⟨gS3 175 rfl rfl, gS1 5 rfl rfl, xq_RX7, xq_d42, rfl, rfl⟩
set_option maxRecDepth 20000 in
theorem vX7_has : zTv yX7_has := ⟨gS3 173 rfl rfl, gS3 174 rfl rfl⟩
abbrev mX7_leaves : Mt := (cX7_leaves, 2, (some .boolean), RX7, ({ frames := 0, cells := 0, slots := 0, locals := 0 } : Room))
set_option maxRecDepth 20000 in
theorem kX7_leaves : zTk mX7_leaves yX7_leaves 1 := ⟨gS3 196 rfl rfl, gS1 5 rfl rfl, xq_RX7, xq_d42, rfl, rfl⟩
set_option maxRecDepth 20000 in
theorem vX7_leaves : zTv yX7_leaves := ⟨gS3 194 rfl rfl, gS3 195 rfl rfl⟩
abbrev mX7_isBehindF : Mt := (cX7_isBehindF, 2, (some .boolean), RX7, ({ frames := 0, cells := 0, slots := 0, locals := 0 } : Room))
set_option maxRecDepth 20000 in
theorem kX7_isBehindF : zTk mX7_isBehindF yX7_isBehindF 1 := ⟨gS5 71 rfl rfl, gS1 5 rfl rfl, xq_RX7, xq_d42, rfl, rfl⟩
set_option maxRecDepth 20000 in
theorem vX7_isBehindF : zTv yX7_isBehindF := ⟨gS5 69 rfl rfl, gS5 70 rfl rfl⟩
abbrev mX7_fillsAlongEdges : Mt := (cX7_fillsAlongEdges, 1, (some .boolean), RX7, ({ frames := 2, cells := 0, slots := 0, locals := 43 } : Room))
set_option maxRecDepth 20000 in
theorem kX7_fillsAlongEdges : zTk mX7_fillsAlongEdges yX7_fillsAlongEdges 0 := ⟨gS4 226 rfl rfl, gS1 5 rfl rfl, xq_RX7, xq_d40, rfl, rfl⟩
set_option maxRecDepth 20000 in
theorem vX7_fillsAlongEdges : zTv yX7_fillsAlongEdges := ⟨gS4 224 rfl rfl, gS4 225 rfl rfl⟩
abbrev mX7_letterOf : Mt := (cX7_letterOf, 2, (some .int), RX7, ({ frames := 1, cells := 0, slots := 0, locals := 21 } : Room))
set_option maxRecDepth 20000 in
theorem kX7_letterOf : zTk mX7_letterOf yX7_letterOf 1 := ⟨gS3 179 rfl rfl, gS1 5 rfl rfl, xq_RX7, xq_d31, rfl, rfl⟩
set_option maxRecDepth 20000 in
theorem vX7_letterOf : zTv yX7_letterOf := ⟨gS3 177 rfl rfl, gS3 178 rfl rfl⟩
abbrev mX7_numbersOf : Mt := (cX7_numbersOf, 2, (some .int), RX7, ({ frames := 1, cells := 0, slots := 0, locals := 21 } : Room))
set_option maxRecDepth 20000 in
theorem kX7_numbersOf : zTk mX7_numbersOf yX7_numbersOf 1 := ⟨gS3 184 rfl rfl, gS1 5 rfl rfl, xq_RX7, xq_d31, rfl, rfl⟩
set_option maxRecDepth 20000 in
theorem vX7_numbersOf : zTv yX7_numbersOf := ⟨gS3 182 rfl rfl, gS3 183 rfl rfl⟩
abbrev mX7_numberOf : Mt := (cX7_numberOf, 3, (some .int), RX7, ({ frames := 1, cells := 0, slots := 0, locals := 21 } : Room))
set_option maxRecDepth 20000 in
theorem kX7_numberOf : zTk mX7_numberOf yX7_numberOf 2 := ⟨gS3 188 rfl rfl, gS1 5 rfl rfl, xq_RX7, xq_d21, rfl, rfl⟩
set_option maxRecDepth 20000 in
theorem vX7_numberOf : zTv yX7_numberOf := ⟨gS3 186 rfl rfl, gS3 187 rfl rfl⟩
abbrev mX8_layRaw : Mt := (cX8_layRaw, 4, none, RX8, ({ frames := 0, cells := 0, slots := 0, locals := 0 } : Room))
theorem xq_RX8 : RX8 ≠ "java/lang/invoke/MethodHandle" ∧ RX8 ≠ "java/lang/invoke/VarHandle" := ⟨by decide +kernel, by decide +kernel⟩
set_option maxRecDepth 20000 in
theorem kX8_layRaw : zTk mX8_layRaw yX8_layRaw 1 := ⟨gS3 206 rfl rfl, gS1 8 rfl rfl, xq_RX8, xq_d36, rfl, rfl⟩
set_option maxRecDepth 20000 in
theorem vX8_layRaw : zTv yX8_layRaw := ⟨gS3 204 rfl rfl, gS3 205 rfl rfl⟩
abbrev mX8_tells : Mt := (cX8_tells, 5, (some .boolean), RX8, ({ frames := 1, cells := 0, slots := 0, locals := 24 } : Room))
theorem xq_d43 : (parseMethodDescriptor "(LRawPictures$Mosaic;III)Z").map (fun d => d.parameters.length) = some 4 := by decide +kernel
set_option maxRecDepth 20000 in
theorem kX8_tells : zTk mX8_tells yX8_tells 4 := ⟨gS4 155 rfl rfl, gS1 8 rfl rfl, xq_RX8, xq_d43, rfl, rfl⟩
set_option maxRecDepth 20000 in
theorem vX8_tells : zTv yX8_tells := ⟨gS4 153 rfl rfl, gS4 154 rfl rfl⟩
abbrev mX8_levelAt : Mt := (cX8_levelAt, 3, (some .int), RX8, ({ frames := 0, cells := 0, slots := 0, locals := 0 } : Room))
set_option maxRecDepth 20000 in
theorem kX8_levelAt : zTk mX8_levelAt yX8_levelAt 2 := ⟨gS4 160 rfl rfl, gS1 8 rfl rfl, xq_RX8, xq_d21, rfl, rfl⟩
set_option maxRecDepth 20000 in
theorem vX8_levelAt : zTv yX8_levelAt := ⟨gS4 158 rfl rfl, gS4 159 rfl rfl⟩
abbrev mX9_append : Mt := (cX9_append, 3, none, RX9, ({ frames := 0, cells := 0, slots := 0, locals := 0 } : Room))
theorem xq_RX9 : RX9 ≠ "java/lang/invoke/MethodHandle" ∧ RX9 ≠ "java/lang/invoke/VarHandle" := ⟨by decide +kernel, by decide +kernel⟩
set_option maxRecDepth 20000 in
theorem kX9_append : zTk mX9_append yX9_append 1 := ⟨gS2 146 rfl rfl, gS1 2 rfl rfl, xq_RX9, xq_d38, rfl, rfl⟩
set_option maxRecDepth 20000 in
theorem vX9_append : zTv yX9_append := ⟨gS2 144 rfl rfl, gS2 145 rfl rfl⟩
abbrev mX9_byteAt : Mt := (cX9_byteAt, 2, (some .int), RX9, ({ frames := 0, cells := 0, slots := 0, locals := 0 } : Room))
set_option maxRecDepth 20000 in
theorem kX9_byteAt : zTk mX9_byteAt yX9_byteAt 1 := ⟨gS2 174 rfl rfl, gS1 2 rfl rfl, xq_RX9, xq_d31, rfl, rfl⟩
set_option maxRecDepth 20000 in
theorem vX9_byteAt : zTv yX9_byteAt := ⟨gS2 172 rfl rfl, gS2 173 rfl rfl⟩
abbrev mX9_empty : Mt := (cX9_empty, 1, none, RX9, ({ frames := 0, cells := 0, slots := 0, locals := 0 } : Room))
set_option maxRecDepth 20000 in
theorem kX9_empty : zTk mX9_empty yX9_empty 0 := ⟨gS3 65 rfl rfl, gS1 2 rfl rfl, xq_RX9, xq_d7, rfl, rfl⟩
set_option maxRecDepth 20000 in
theorem vX9_empty : zTv yX9_empty := ⟨gS3 63 rfl rfl, gS3 64 rfl rfl⟩
abbrev mX10_lay : Mt := (cX10_lay, 10, none, RX10, ({ frames := 1, cells := 0, slots := 0, locals := 24 } : Room))
theorem xq_RX10 : RX10 ≠ "java/lang/invoke/MethodHandle" ∧ RX10 ≠ "java/lang/invoke/VarHandle" := ⟨by decide +kernel, by decide +kernel⟩
theorem xq_d44 : (parseMethodDescriptor "(ILRawPictures$Tape;LRawPictures$Mosaic;)V").map (fun d => d.parameters.length) = some 3 := by decide +kernel
set_option maxRecDepth 20000 in
theorem kX10_lay : zTk mX10_lay yX10_lay 3 := ⟨gS3 149 rfl rfl, gS1 4 rfl rfl, xq_RX10, xq_d44, rfl, rfl⟩
set_option maxRecDepth 20000 in
theorem vX10_lay : zTv yX10_lay := ⟨gS3 147 rfl rfl, gS3 148 rfl rfl⟩
abbrev mX10_isFirst : Mt := (cX10_isFirst, 5, (some .boolean), RX10, ({ frames := 0, cells := 0, slots := 0, locals := 0 } : Room))
theorem xq_d45 : (parseMethodDescriptor "(IIILRawPictures$Mosaic;)Z").map (fun d => d.parameters.length) = some 4 := by decide +kernel
set_option maxRecDepth 20000 in
theorem kX10_isFirst : zTk mX10_isFirst yX10_isFirst 4 := ⟨gS3 154 rfl rfl, gS1 4 rfl rfl, xq_RX10, xq_d45, rfl, rfl⟩
set_option maxRecDepth 20000 in
theorem vX10_isFirst : zTv yX10_isFirst := ⟨gS3 153 rfl rfl, gT_pv 11 (by decide +kernel) rfl⟩
abbrev mX11_feed : Mt := (cX11_feed, 6, (some .int), RX11, ({ frames := 1, cells := 0, slots := 0, locals := 22 } : Room))
theorem xq_RX11 : RX11 ≠ "java/lang/invoke/MethodHandle" ∧ RX11 ≠ "java/lang/invoke/VarHandle" := ⟨by decide +kernel, by decide +kernel⟩
set_option maxRecDepth 20000 in
theorem kX11_feed : zTk mX11_feed yX11_feed 5 := ⟨gS2 142 rfl rfl, gS1 1 rfl rfl, xq_RX11, xq_d30, rfl, rfl⟩
set_option maxRecDepth 20000 in
theorem vX11_feed : zTv yX11_feed := ⟨gS2 140 rfl rfl, gS2 141 rfl rfl⟩
abbrev mX11_stages : Mt := (cX11_stages, 3, (some .int), RX11, ({ frames := 10, cells := 0, slots := 0, locals := 225 } : Room))
set_option maxRecDepth 20000 in
theorem kX11_stages : zTk mX11_stages yX11_stages 1 := ⟨gS2 150 rfl rfl, gS1 1 rfl rfl, xq_RX11, xq_d31, rfl, rfl⟩
set_option maxRecDepth 20000 in
theorem vX11_stages : zTv yX11_stages := ⟨gS2 148 rfl rfl, gS2 149 rfl rfl⟩
abbrev mX11_raw : Mt := (cX11_raw, 4, (some .boolean), RX11, ({ frames := 3, cells := 0, slots := 0, locals := 66 } : Room))
theorem xq_d46 : (parseMethodDescriptor "(III)Z").map (fun d => d.parameters.length) = some 3 := by decide +kernel
set_option maxRecDepth 20000 in
theorem kX11_raw : zTk mX11_raw yX11_raw 3 := ⟨gS3 81 rfl rfl, gS1 1 rfl rfl, xq_RX11, xq_d46, rfl, rfl⟩
set_option maxRecDepth 20000 in
theorem vX11_raw : zTv yX11_raw := ⟨gS3 79 rfl rfl, gS3 80 rfl rfl⟩
abbrev mX11_row : Mt := (cX11_row, 3, (some .boolean), RX11, ({ frames := 2, cells := 0, slots := 0, locals := 40 } : Room))
set_option maxRecDepth 20000 in
theorem kX11_row : zTk mX11_row yX11_row 1 := ⟨gS3 106 rfl rfl, gS1 1 rfl rfl, xq_RX11, xq_d42, rfl, rfl⟩
set_option maxRecDepth 20000 in
theorem vX11_row : zTv yX11_row := ⟨gS3 104 rfl rfl, gS3 105 rfl rfl⟩
abbrev mX11_pixel : Mt := (cX11_pixel, 4, (some .boolean), RX11, ({ frames := 2, cells := 0, slots := 0, locals := 40 } : Room))
set_option maxRecDepth 20000 in
theorem kX11_pixel : zTk mX11_pixel yX11_pixel 3 := ⟨gS3 111 rfl rfl, gS1 1 rfl rfl, xq_RX11, xq_d46, rfl, rfl⟩
set_option maxRecDepth 20000 in
theorem vX11_pixel : zTv yX11_pixel := ⟨gS3 109 rfl rfl, gS3 110 rfl rfl⟩
abbrev mX11_dead : Mt := (cX11_dead, 4, (some .int), RX11, ({ frames := 2, cells := 0, slots := 0, locals := 40 } : Room))
set_option maxRecDepth 20000 in
theorem kX11_dead : zTk mX11_dead yX11_dead 3 := ⟨gS3 119 rfl rfl, gS1 1 rfl rfl, xq_RX11, xq_d5, rfl, rfl⟩
set_option maxRecDepth 20000 in
theorem vX11_dead : zTv yX11_dead := ⟨gS3 117 rfl rfl, gS3 118 rfl rfl⟩
abbrev mX11_scene : Mt := (cX11_scene, 6, (some .boolean), RX11, ({ frames := 2, cells := 0, slots := 0, locals := 49 } : Room))
set_option maxRecDepth 20000 in
theorem kX11_scene : zTk mX11_scene yX11_scene 3 := ⟨gS3 127 rfl rfl, gS1 1 rfl rfl, xq_RX11, xq_d46, rfl, rfl⟩
set_option maxRecDepth 20000 in
theorem vX11_scene : zTv yX11_scene := ⟨gS3 125 rfl rfl, gS3 126 rfl rfl⟩
abbrev mX11_truth : Mt := (cX11_truth, 5, (some .boolean), RX11, ({ frames := 2, cells := 0, slots := 0, locals := 53 } : Room))
set_option maxRecDepth 20000 in
theorem kX11_truth : zTk mX11_truth yX11_truth 1 := ⟨gS3 145 rfl rfl, gS1 1 rfl rfl, xq_RX11, xq_d42, rfl, rfl⟩
set_option maxRecDepth 20000 in
theorem vX11_truth : zTv yX11_truth := ⟨gS3 143 rfl rfl, gS3 144 rfl rfl⟩
abbrev mX11_rawIs : Mt := (cX11_rawIs, 2, (some .int), RX11, ({ frames := 1, cells := 0, slots := 0, locals := 24 } : Room))
set_option maxRecDepth 20000 in
theorem kX11_rawIs : zTk mX11_rawIs yX11_rawIs 1 := ⟨gS3 159 rfl rfl, gS1 1 rfl rfl, xq_RX11, xq_d31, rfl, rfl⟩
set_option maxRecDepth 20000 in
theorem vX11_rawIs : zTv yX11_rawIs := ⟨gS3 157 rfl rfl, gS3 158 rfl rfl⟩
abbrev mX11_colour : Mt := (cX11_colour, 3, (some .int), RX11, ({ frames := 1, cells := 0, slots := 0, locals := 24 } : Room))
set_option maxRecDepth 20000 in
theorem kX11_colour : zTk mX11_colour yX11_colour 2 := ⟨gS3 167 rfl rfl, gS1 1 rfl rfl, xq_RX11, xq_d21, rfl, rfl⟩
set_option maxRecDepth 20000 in
theorem vX11_colour : zTv yX11_colour := ⟨gS3 165 rfl rfl, gS3 166 rfl rfl⟩
abbrev mX11_stage : Mt := (cX11_stage, 3, (some .int), RX11, ({ frames := 2, cells := 0, slots := 0, locals := 43 } : Room))
set_option maxRecDepth 20000 in
theorem kX11_stage : zTk mX11_stage yX11_stage 2 := ⟨gS3 171 rfl rfl, gS1 1 rfl rfl, xq_RX11, xq_d21, rfl, rfl⟩
set_option maxRecDepth 20000 in
theorem vX11_stage : zTv yX11_stage := ⟨gS3 169 rfl rfl, gS3 170 rfl rfl⟩
abbrev mX11_left : Mt := (cX11_left, 6, (some .int), RX11, ({ frames := 6, cells := 0, slots := 0, locals := 155 } : Room))
theorem xq_d47 : (parseMethodDescriptor "(IIII)I").map (fun d => d.parameters.length) = some 4 := by decide +kernel
set_option maxRecDepth 20000 in
theorem kX11_left : zTk mX11_left yX11_left 4 := ⟨gS3 192 rfl rfl, gS1 1 rfl rfl, xq_RX11, xq_d47, rfl, rfl⟩
set_option maxRecDepth 20000 in
theorem vX11_left : zTv yX11_left := ⟨gS3 190 rfl rfl, gS3 191 rfl rfl⟩
abbrev mX11_found : Mt := (cX11_found, 3, (some .int), RX11, ({ frames := 7, cells := 0, slots := 0, locals := 180 } : Room))
set_option maxRecDepth 20000 in
theorem kX11_found : zTk mX11_found yX11_found 2 := ⟨gS4 164 rfl rfl, gS1 1 rfl rfl, xq_RX11, xq_d21, rfl, rfl⟩
set_option maxRecDepth 20000 in
theorem vX11_found : zTv yX11_found := ⟨gS4 162 rfl rfl, gS4 163 rfl rfl⟩
abbrev mX11_groups : Mt := (cX11_groups, 3, (some .int), RX11, ({ frames := 7, cells := 0, slots := 0, locals := 180 } : Room))
set_option maxRecDepth 20000 in
theorem kX11_groups : zTk mX11_groups yX11_groups 2 := ⟨gS4 195 rfl rfl, gS1 1 rfl rfl, xq_RX11, xq_d21, rfl, rfl⟩
set_option maxRecDepth 20000 in
theorem vX11_groups : zTv yX11_groups := ⟨gS4 193 rfl rfl, gS4 194 rfl rfl⟩
abbrev mX11_dark : Mt := (cX11_dark, 3, (some .int), RX11, ({ frames := 6, cells := 0, slots := 0, locals := 155 } : Room))
set_option maxRecDepth 20000 in
theorem kX11_dark : zTk mX11_dark yX11_dark 2 := ⟨gS4 212 rfl rfl, gS1 1 rfl rfl, xq_RX11, xq_d21, rfl, rfl⟩
set_option maxRecDepth 20000 in
theorem vX11_dark : zTv yX11_dark := ⟨gS4 210 rfl rfl, gS4 211 rfl rfl⟩
abbrev mX11_middle : Mt := (cX11_middle, 4, (some .int), RX11, ({ frames := 6, cells := 0, slots := 0, locals := 155 } : Room))
set_option maxRecDepth 20000 in
theorem kX11_middle : zTk mX11_middle yX11_middle 3 := ⟨gS4 217 rfl rfl, gS1 1 rfl rfl, xq_RX11, xq_d24, rfl, rfl⟩
set_option maxRecDepth 20000 in
theorem vX11_middle : zTv yX11_middle := ⟨gS4 215 rfl rfl, gS4 216 rfl rfl⟩
abbrev mX11_way : Mt := (cX11_way, 3, (some .int), RX11, ({ frames := 6, cells := 0, slots := 0, locals := 155 } : Room))
set_option maxRecDepth 20000 in
theorem kX11_way : zTk mX11_way yX11_way 2 := ⟨gS4 222 rfl rfl, gS1 1 rfl rfl, xq_RX11, xq_d21, rfl, rfl⟩
set_option maxRecDepth 20000 in
theorem vX11_way : zTv yX11_way := ⟨gS4 220 rfl rfl, gS4 221 rfl rfl⟩
abbrev mX11_ways : Mt := (cX11_ways, 6, (some .int), RX11, ({ frames := 6, cells := 0, slots := 0, locals := 155 } : Room))
set_option maxRecDepth 20000 in
theorem kX11_ways : zTk mX11_ways yX11_ways 1 := ⟨gS4 232 rfl rfl, gS1 1 rfl rfl, xq_RX11, xq_d31, rfl, rfl⟩
set_option maxRecDepth 20000 in
theorem vX11_ways : zTv yX11_ways := ⟨gS4 230 rfl rfl, gS4 231 rfl rfl⟩
abbrev mX11_white : Mt := (cX11_white, 3, (some .int), RX11, ({ frames := 6, cells := 0, slots := 0, locals := 155 } : Room))
set_option maxRecDepth 20000 in
theorem kX11_white : zTk mX11_white yX11_white 2 := ⟨gS4 236 rfl rfl, gS1 1 rfl rfl, xq_RX11, xq_d21, rfl, rfl⟩
set_option maxRecDepth 20000 in
theorem vX11_white : zTv yX11_white := ⟨gS4 234 rfl rfl, gS4 235 rfl rfl⟩
abbrev mX11_base : Mt := (cX11_base, 4, (some .int), RX11, ({ frames := 6, cells := 0, slots := 0, locals := 155 } : Room))
set_option maxRecDepth 20000 in
theorem kX11_base : zTk mX11_base yX11_base 3 := ⟨gS5 1 rfl rfl, gS1 1 rfl rfl, xq_RX11, xq_d24, rfl, rfl⟩
set_option maxRecDepth 20000 in
theorem vX11_base : zTv yX11_base := ⟨gS4 239 rfl rfl, gS5 0 rfl rfl⟩
abbrev mX11_tone : Mt := (cX11_tone, 5, (some .int), RX11, ({ frames := 6, cells := 0, slots := 0, locals := 155 } : Room))
set_option maxRecDepth 20000 in
theorem kX11_tone : zTk mX11_tone yX11_tone 4 := ⟨gS5 6 rfl rfl, gS1 1 rfl rfl, xq_RX11, xq_d47, rfl, rfl⟩
set_option maxRecDepth 20000 in
theorem vX11_tone : zTv yX11_tone := ⟨gS5 4 rfl rfl, gS5 5 rfl rfl⟩
abbrev mX11_levels : Mt := (cX11_levels, 5, (some .int), RX11, ({ frames := 6, cells := 0, slots := 0, locals := 155 } : Room))
set_option maxRecDepth 20000 in
theorem kX11_levels : zTk mX11_levels yX11_levels 3 := ⟨gS5 13 rfl rfl, gS1 1 rfl rfl, xq_RX11, xq_d24, rfl, rfl⟩
set_option maxRecDepth 20000 in
theorem vX11_levels : zTv yX11_levels := ⟨gS5 11 rfl rfl, gS5 12 rfl rfl⟩
abbrev mX11_noise : Mt := (cX11_noise, 5, (some .int), RX11, ({ frames := 6, cells := 0, slots := 0, locals := 155 } : Room))
set_option maxRecDepth 20000 in
theorem kX11_noise : zTk mX11_noise yX11_noise 4 := ⟨gS5 67 rfl rfl, gS1 1 rfl rfl, xq_RX11, xq_d47, rfl, rfl⟩
set_option maxRecDepth 20000 in
theorem vX11_noise : zTv yX11_noise := ⟨gS5 65 rfl rfl, gS5 66 rfl rfl⟩
abbrev mX11_percent : Mt := (cX11_percent, 4, (some .int), RX11, ({ frames := 6, cells := 0, slots := 0, locals := 155 } : Room))
set_option maxRecDepth 20000 in
theorem kX11_percent : zTk mX11_percent yX11_percent 3 := ⟨gS5 81 rfl rfl, gS1 1 rfl rfl, xq_RX11, xq_d24, rfl, rfl⟩
set_option maxRecDepth 20000 in
theorem vX11_percent : zTv yX11_percent := ⟨gS5 79 rfl rfl, gS5 80 rfl rfl⟩
abbrev mX11_bits : Mt := (cX11_bits, 3, (some .int), RX11, ({ frames := 6, cells := 0, slots := 0, locals := 155 } : Room))
set_option maxRecDepth 20000 in
theorem kX11_bits : zTk mX11_bits yX11_bits 2 := ⟨gS5 90 rfl rfl, gS1 1 rfl rfl, xq_RX11, xq_d21, rfl, rfl⟩
set_option maxRecDepth 20000 in
theorem vX11_bits : zTv yX11_bits := ⟨gS5 88 rfl rfl, gS5 89 rfl rfl⟩
abbrev mX11_ring : Mt := (cX11_ring, 5, (some .int), RX11, ({ frames := 6, cells := 0, slots := 0, locals := 155 } : Room))
set_option maxRecDepth 20000 in
theorem kX11_ring : zTk mX11_ring yX11_ring 4 := ⟨gS5 102 rfl rfl, gS1 1 rfl rfl, xq_RX11, xq_d47, rfl, rfl⟩
set_option maxRecDepth 20000 in
theorem vX11_ring : zTv yX11_ring := ⟨gS5 100 rfl rfl, gS5 101 rfl rfl⟩
abbrev mX11_edges : Mt := (cX11_edges, 3, (some .int), RX11, ({ frames := 6, cells := 0, slots := 0, locals := 155 } : Room))
set_option maxRecDepth 20000 in
theorem kX11_edges : zTk mX11_edges yX11_edges 2 := ⟨gS5 107 rfl rfl, gS1 1 rfl rfl, xq_RX11, xq_d21, rfl, rfl⟩
set_option maxRecDepth 20000 in
theorem vX11_edges : zTv yX11_edges := ⟨gS5 105 rfl rfl, gS5 106 rfl rfl⟩
abbrev mX11_error : Mt := (cX11_error, 4, (some .long), RX11, ({ frames := 6, cells := 0, slots := 0, locals := 155 } : Room))
theorem xq_d48 : (parseMethodDescriptor "(III)J").map (fun d => d.parameters.length) = some 3 := by decide +kernel
set_option maxRecDepth 20000 in
theorem kX11_error : zTk mX11_error yX11_error 3 := ⟨gS5 121 rfl rfl, gS1 1 rfl rfl, xq_RX11, xq_d48, rfl, rfl⟩
set_option maxRecDepth 20000 in
theorem vX11_error : zTv yX11_error := ⟨gS5 119 rfl rfl, gS5 120 rfl rfl⟩
abbrev mX11_falseOnes : Mt := (cX11_falseOnes, 3, (some .int), RX11, ({ frames := 6, cells := 0, slots := 0, locals := 155 } : Room))
set_option maxRecDepth 20000 in
theorem kX11_falseOnes : zTk mX11_falseOnes yX11_falseOnes 2 := ⟨gS5 135 rfl rfl, gS1 1 rfl rfl, xq_RX11, xq_d21, rfl, rfl⟩
set_option maxRecDepth 20000 in
theorem vX11_falseOnes : zTv yX11_falseOnes := ⟨gS5 133 rfl rfl, gS5 134 rfl rfl⟩
abbrev mX11_places : Mt := (cX11_places, 5, (some .int), RX11, ({ frames := 6, cells := 0, slots := 0, locals := 155 } : Room))
set_option maxRecDepth 20000 in
theorem kX11_places : zTk mX11_places yX11_places 4 := ⟨gS5 145 rfl rfl, gS1 1 rfl rfl, xq_RX11, xq_d47, rfl, rfl⟩
set_option maxRecDepth 20000 in
theorem vX11_places : zTv yX11_places := ⟨gS5 143 rfl rfl, gS5 144 rfl rfl⟩
abbrev mX11_unlike : Mt := (cX11_unlike, 4, (some .int), RX11, ({ frames := 6, cells := 0, slots := 0, locals := 155 } : Room))
set_option maxRecDepth 20000 in
theorem kX11_unlike : zTk mX11_unlike yX11_unlike 3 := ⟨gS5 155 rfl rfl, gS1 1 rfl rfl, xq_RX11, xq_d24, rfl, rfl⟩
set_option maxRecDepth 20000 in
theorem vX11_unlike : zTv yX11_unlike := ⟨gS5 153 rfl rfl, gS5 154 rfl rfl⟩
abbrev mX11_without : Mt := (cX11_without, 3, (some .int), RX11, ({ frames := 7, cells := 0, slots := 0, locals := 180 } : Room))
set_option maxRecDepth 20000 in
theorem kX11_without : zTk mX11_without yX11_without 2 := ⟨gS5 163 rfl rfl, gS1 1 rfl rfl, xq_RX11, xq_d21, rfl, rfl⟩
set_option maxRecDepth 20000 in
theorem vX11_without : zTv yX11_without := ⟨gS5 161 rfl rfl, gS5 162 rfl rfl⟩
abbrev mX11_best : Mt := (cX11_best, 9, (some .int), RX11, ({ frames := 7, cells := 0, slots := 0, locals := 180 } : Room))
set_option maxRecDepth 20000 in
theorem kX11_best : zTk mX11_best yX11_best 2 := ⟨gS5 172 rfl rfl, gS1 1 rfl rfl, xq_RX11, xq_d21, rfl, rfl⟩
set_option maxRecDepth 20000 in
theorem vX11_best : zTv yX11_best := ⟨gS5 170 rfl rfl, gS5 171 rfl rfl⟩
abbrev mX11_seed : Mt := (cX11_seed, 2, (some .boolean), RX11, ({ frames := 1, cells := 0, slots := 0, locals := 21 } : Room))
set_option maxRecDepth 20000 in
theorem kX11_seed : zTk mX11_seed yX11_seed 1 := ⟨gS5 182 rfl rfl, gS1 1 rfl rfl, xq_RX11, xq_d42, rfl, rfl⟩
set_option maxRecDepth 20000 in
theorem vX11_seed : zTv yX11_seed := ⟨gS5 180 rfl rfl, gS5 181 rfl rfl⟩
abbrev mX11_keep : Mt := (cX11_keep, 1, (some .int), RX11, ({ frames := 2, cells := 0, slots := 0, locals := 47 } : Room))
set_option maxRecDepth 20000 in
theorem kX11_keep : zTk mX11_keep yX11_keep 0 := ⟨gS5 187 rfl rfl, gS1 1 rfl rfl, xq_RX11, xq_d2, rfl, rfl⟩
set_option maxRecDepth 20000 in
theorem vX11_keep : zTv yX11_keep := ⟨gS5 185 rfl rfl, gS5 186 rfl rfl⟩
abbrev mX11_undo : Mt := (cX11_undo, 1, (some .boolean), RX11, ({ frames := 2, cells := 0, slots := 0, locals := 47 } : Room))
set_option maxRecDepth 20000 in
theorem kX11_undo : zTk mX11_undo yX11_undo 0 := ⟨gS5 196 rfl rfl, gS1 1 rfl rfl, xq_RX11, xq_d40, rfl, rfl⟩
set_option maxRecDepth 20000 in
theorem vX11_undo : zTv yX11_undo := ⟨gS5 194 rfl rfl, gS5 195 rfl rfl⟩
abbrev mX11_check : Mt := (cX11_check, 4, (some .int), RX11, ({ frames := 1, cells := 0, slots := 0, locals := 21 } : Room))
set_option maxRecDepth 20000 in
theorem kX11_check : zTk mX11_check yX11_check 1 := ⟨gS5 200 rfl rfl, gS1 1 rfl rfl, xq_RX11, xq_d31, rfl, rfl⟩
set_option maxRecDepth 20000 in
theorem vX11_check : zTv yX11_check := ⟨gS5 198 rfl rfl, gS5 199 rfl rfl⟩
abbrev mX11_count : Mt := (cX11_count, 2, (some .int), RX11, ({ frames := 0, cells := 0, slots := 0, locals := 0 } : Room))
set_option maxRecDepth 20000 in
theorem kX11_count : zTk mX11_count yX11_count 1 := ⟨gS5 204 rfl rfl, gS1 1 rfl rfl, xq_RX11, xq_d31, rfl, rfl⟩
set_option maxRecDepth 20000 in
theorem vX11_count : zTv yX11_count := ⟨gS5 202 rfl rfl, gS5 203 rfl rfl⟩
abbrev mX11_rawChanged : Mt := (cX11_rawChanged, 1, none, RX11, ({ frames := 1, cells := 0, slots := 0, locals := 20 } : Room))
set_option maxRecDepth 20000 in
theorem kX11_rawChanged : zTk mX11_rawChanged yX11_rawChanged 0 := ⟨gS3 102 rfl rfl, gS1 1 rfl rfl, xq_RX11, xq_d7, rfl, rfl⟩
set_option maxRecDepth 20000 in
theorem vX11_rawChanged : zTv yX11_rawChanged := ⟨gS3 101 rfl rfl, gT_pv 9 (by decide +kernel) rfl⟩
abbrev mX11_drawn : Mt := (cX11_drawn, 3, (some .int), RX11, ({ frames := 0, cells := 0, slots := 0, locals := 0 } : Room))
set_option maxRecDepth 20000 in
theorem kX11_drawn : zTk mX11_drawn yX11_drawn 2 := ⟨gS3 131 rfl rfl, gS1 1 rfl rfl, xq_RX11, xq_d21, rfl, rfl⟩
set_option maxRecDepth 20000 in
theorem vX11_drawn : zTv yX11_drawn := ⟨gS3 130 rfl rfl, gT_pv 10 (by decide +kernel) rfl⟩
abbrev mX11_isLeftOf : Mt := (cX11_isLeftOf, 3, (some .boolean), RX11, ({ frames := 1, cells := 0, slots := 0, locals := 21 } : Room))
set_option maxRecDepth 20000 in
theorem kX11_isLeftOf : zTk mX11_isLeftOf yX11_isLeftOf 2 := ⟨gS5 17 rfl rfl, gS1 1 rfl rfl, xq_RX11, xq_d37, rfl, rfl⟩
set_option maxRecDepth 20000 in
theorem vX11_isLeftOf : zTv yX11_isLeftOf := ⟨gS5 16 rfl rfl, gT_pv 29 (by decide +kernel) rfl⟩
abbrev mX11_markFound : Mt := (cX11_markFound, 6, none, RX11, ({ frames := 6, cells := 0, slots := 0, locals := 155 } : Room))
set_option maxRecDepth 20000 in
theorem kX11_markFound : zTk mX11_markFound yX11_markFound 1 := ⟨gS4 168 rfl rfl, gS1 1 rfl rfl, xq_RX11, xq_d38, rfl, rfl⟩
set_option maxRecDepth 20000 in
theorem vX11_markFound : zTv yX11_markFound := ⟨gS4 167 rfl rfl, gT_pv 26 (by decide +kernel) rfl⟩
abbrev mX11_badness : Mt := (cX11_badness, 6, (some .long), RX11, ({ frames := 3, cells := 0, slots := 0, locals := 79 } : Room))
theorem xq_d49 : (parseMethodDescriptor "(LRawPictures$Sheet;I)J").map (fun d => d.parameters.length) = some 2 := by decide +kernel
set_option maxRecDepth 20000 in
theorem kX11_badness : zTk mX11_badness yX11_badness 2 := ⟨gS5 178 rfl rfl, gS1 1 rfl rfl, xq_RX11, xq_d49, rfl, rfl⟩
set_option maxRecDepth 20000 in
theorem vX11_badness : zTv yX11_badness := ⟨gS5 177 rfl rfl, gT_pv 33 (by decide +kernel) rfl⟩
abbrev mX11_isWithin : Mt := (cX11_isWithin, 2, (some .boolean), RX11, ({ frames := 0, cells := 0, slots := 0, locals := 0 } : Room))
set_option maxRecDepth 20000 in
theorem kX11_isWithin : zTk mX11_isWithin yX11_isWithin 2 := ⟨gS3 87 rfl rfl, gS1 1 rfl rfl, xq_RX11, xq_d37, rfl, rfl⟩
set_option maxRecDepth 20000 in
theorem vX11_isWithin : Cond.static yX11_isWithin ∈ gT := gS3 86 rfl rfl
abbrev mX11_isSide : Mt := (cX11_isSide, 1, (some .boolean), RX11, ({ frames := 0, cells := 0, slots := 0, locals := 0 } : Room))
set_option maxRecDepth 20000 in
theorem kX11_isSide : zTk mX11_isSide yX11_isSide 1 := ⟨gS3 84 rfl rfl, gS1 1 rfl rfl, xq_RX11, xq_d42, rfl, rfl⟩
set_option maxRecDepth 20000 in
theorem vX11_isSide : Cond.static yX11_isSide ∈ gT := gS3 83 rfl rfl
abbrev mX11_clipped : Mt := (cX11_clipped, 1, (some .int), RX11, ({ frames := 1, cells := 0, slots := 0, locals := 21 } : Room))
set_option maxRecDepth 20000 in
theorem kX11_clipped : zTk mX11_clipped yX11_clipped 1 := ⟨gS3 219 rfl rfl, gS1 1 rfl rfl, xq_RX11, xq_d31, rfl, rfl⟩
set_option maxRecDepth 20000 in
theorem vX11_clipped : Cond.static yX11_clipped ∈ gT := gS3 218 rfl rfl
abbrev mX11_mirrored : Mt := (cX11_mirrored, 2, (some .int), RX11, ({ frames := 0, cells := 0, slots := 0, locals := 0 } : Room))
set_option maxRecDepth 20000 in
theorem kX11_mirrored : zTk mX11_mirrored yX11_mirrored 2 := ⟨gS3 236 rfl rfl, gS1 1 rfl rfl, xq_RX11, xq_d21, rfl, rfl⟩
set_option maxRecDepth 20000 in
theorem vX11_mirrored : Cond.static yX11_mirrored ∈ gT := gS3 235 rfl rfl
abbrev mX11_lightOf : Mt := (cX11_lightOf, 2, (some .int), RX11, ({ frames := 0, cells := 0, slots := 0, locals := 0 } : Room))
theorem xq_d50 : (parseMethodDescriptor "([II)I").map (fun d => d.parameters.length) = some 2 := by decide +kernel
set_option maxRecDepth 20000 in
theorem kX11_lightOf : zTk mX11_lightOf yX11_lightOf 2 := ⟨gS4 84 rfl rfl, gS1 1 rfl rfl, xq_RX11, xq_d50, rfl, rfl⟩
set_option maxRecDepth 20000 in
theorem vX11_lightOf : Cond.static yX11_lightOf ∈ gT := gS4 83 rfl rfl
abbrev mX11_greatestOf : Mt := (cX11_greatestOf, 2, (some .int), RX11, ({ frames := 1, cells := 0, slots := 0, locals := 21 } : Room))
set_option maxRecDepth 20000 in
theorem kX11_greatestOf : zTk mX11_greatestOf yX11_greatestOf 2 := ⟨gS4 63 rfl rfl, gS1 1 rfl rfl, xq_RX11, xq_d50, rfl, rfl⟩
set_option maxRecDepth 20000 in
theorem vX11_greatestOf : Cond.static yX11_greatestOf ∈ gT := gS4 62 rfl rfl
abbrev mX11_leastOf : Mt := (cX11_leastOf, 2, (some .int), RX11, ({ frames := 1, cells := 0, slots := 0, locals := 21 } : Room))
set_option maxRecDepth 20000 in
theorem kX11_leastOf : zTk mX11_leastOf yX11_leastOf 2 := ⟨gS4 60 rfl rfl, gS1 1 rfl rfl, xq_RX11, xq_d50, rfl, rfl⟩
set_option maxRecDepth 20000 in
theorem vX11_leastOf : Cond.static yX11_leastOf ∈ gT := gS4 59 rfl rfl
abbrev mX11_blurOf : Mt := (cX11_blurOf, 12, (some .int), RX11, ({ frames := 1, cells := 0, slots := 0, locals := 21 } : Room))
theorem xq_d51 : (parseMethodDescriptor "(LRawPictures$Mosaic;[IIII)I").map (fun d => d.parameters.length) = some 5 := by decide +kernel
set_option maxRecDepth 20000 in
theorem kX11_blurOf : zTk mX11_blurOf yX11_blurOf 5 := ⟨gS4 145 rfl rfl, gS1 1 rfl rfl, xq_RX11, xq_d51, rfl, rfl⟩
set_option maxRecDepth 20000 in
theorem vX11_blurOf : Cond.static yX11_blurOf ∈ gT := gS4 144 rfl rfl
abbrev mX12_in : Mt := (cX12_in, 3, (some .boolean), RX12, ({ frames := 0, cells := 0, slots := 0, locals := 0 } : Room))
theorem xq_RX12 : RX12 ≠ "java/lang/invoke/MethodHandle" ∧ RX12 ≠ "java/lang/invoke/VarHandle" := ⟨by decide +kernel, by decide +kernel⟩
set_option maxRecDepth 20000 in
theorem kX12_in : zTk mX12_in yX12_in 3 := ⟨gS6 149 rfl rfl, gS1 13 rfl rfl, xq_RX12, xq_d46, rfl, rfl⟩
set_option maxRecDepth 20000 in
theorem vX12_in : Cond.static yX12_in ∈ gT := gS6 148 rfl rfl
abbrev mX12_min : Mt := (cX12_min, 2, (some .int), RX12, ({ frames := 0, cells := 0, slots := 0, locals := 0 } : Room))
set_option maxRecDepth 20000 in
theorem kX12_min : zTk mX12_min yX12_min 2 := ⟨gS7 52 rfl rfl, gS1 13 rfl rfl, xq_RX12, xq_d21, rfl, rfl⟩
set_option maxRecDepth 20000 in
theorem vX12_min : Cond.static yX12_min ∈ gT := gS7 51 rfl rfl
abbrev mX12_max : Mt := (cX12_max, 2, (some .int), RX12, ({ frames := 0, cells := 0, slots := 0, locals := 0 } : Room))
set_option maxRecDepth 20000 in
theorem kX12_max : zTk mX12_max yX12_max 2 := ⟨gS7 55 rfl rfl, gS1 13 rfl rfl, xq_RX12, xq_d21, rfl, rfl⟩
set_option maxRecDepth 20000 in
theorem vX12_max : Cond.static yX12_max ∈ gT := gS7 54 rfl rfl
abbrev mX12_size : Mt := (cX12_size, 1, (some .int), RX12, ({ frames := 0, cells := 0, slots := 0, locals := 0 } : Room))
set_option maxRecDepth 20000 in
theorem kX12_size : zTk mX12_size yX12_size 1 := ⟨gS7 85 rfl rfl, gS1 13 rfl rfl, xq_RX12, xq_d31, rfl, rfl⟩
set_option maxRecDepth 20000 in
theorem vX12_size : Cond.static yX12_size ∈ gT := gS7 84 rfl rfl
abbrev mX12_clipped : Mt := (cX12_clipped, 1, (some .int), RX12, ({ frames := 1, cells := 0, slots := 0, locals := 21 } : Room))
set_option maxRecDepth 20000 in
theorem kX12_clipped : zTk mX12_clipped yX12_clipped 1 := ⟨gS7 49 rfl rfl, gS1 13 rfl rfl, xq_RX12, xq_d31, rfl, rfl⟩
set_option maxRecDepth 20000 in
theorem vX12_clipped : Cond.static yX12_clipped ∈ gT := gS7 48 rfl rfl
abbrev mX12_types : Mt := (cX12_types, 3, none, RX12, ({ frames := 0, cells := 0, slots := 0, locals := 0 } : Room))
set_option maxRecDepth 20000 in
theorem kX12_types : zTk mX12_types yX12_types 1 := ⟨gS6 142 rfl rfl, gS1 13 rfl rfl, xq_RX12, xq_d38, rfl, rfl⟩
set_option maxRecDepth 20000 in
theorem vX12_types : zTv yX12_types := ⟨gS6 141 rfl rfl, gT_pv 34 (by decide +kernel) rfl⟩
abbrev mX12_feed : Mt := (cX12_feed, 6, (some .int), RX12, ({ frames := 1, cells := 0, slots := 0, locals := 22 } : Room))
set_option maxRecDepth 20000 in
theorem kX12_feed : zTk mX12_feed yX12_feed 5 := ⟨gS6 138 rfl rfl, gS1 13 rfl rfl, xq_RX12, xq_d30, rfl, rfl⟩
set_option maxRecDepth 20000 in
theorem vX12_feed : zTv yX12_feed := ⟨gS6 136 rfl rfl, gS6 137 rfl rfl⟩
abbrev mX12_here : Mt := (cX12_here, 1, (some .int), RX12, ({ frames := 0, cells := 0, slots := 0, locals := 0 } : Room))
set_option maxRecDepth 20000 in
theorem kX12_here : zTk mX12_here yX12_here 0 := ⟨gS6 157 rfl rfl, gS1 13 rfl rfl, xq_RX12, xq_d2, rfl, rfl⟩
set_option maxRecDepth 20000 in
theorem vX12_here : zTv yX12_here := ⟨gS6 156 rfl rfl, gT_pv 36 (by decide +kernel) rfl⟩
abbrev mX12_wrongAt : Mt := (cX12_wrongAt, 3, (some .boolean), RX12, ({ frames := 0, cells := 0, slots := 0, locals := 0 } : Room))
set_option maxRecDepth 20000 in
theorem kX12_wrongAt : zTk mX12_wrongAt yX12_wrongAt 2 := ⟨gS6 167 rfl rfl, gS1 13 rfl rfl, xq_RX12, xq_d37, rfl, rfl⟩
set_option maxRecDepth 20000 in
theorem vX12_wrongAt : zTv yX12_wrongAt := ⟨gS6 166 rfl rfl, gT_pv 37 (by decide +kernel) rfl⟩
abbrev mX12_takesSign : Mt := (cX12_takesSign, 2, (some .boolean), RX12, ({ frames := 1, cells := 0, slots := 0, locals := 22 } : Room))
set_option maxRecDepth 20000 in
theorem kX12_takesSign : zTk mX12_takesSign yX12_takesSign 1 := ⟨gS6 175 rfl rfl, gS1 13 rfl rfl, xq_RX12, xq_d42, rfl, rfl⟩
set_option maxRecDepth 20000 in
theorem vX12_takesSign : zTv yX12_takesSign := ⟨gS6 174 rfl rfl, gT_pv 39 (by decide +kernel) rfl⟩
abbrev mX12_isDigit : Mt := (cX12_isDigit, 1, (some .boolean), RX12, ({ frames := 1, cells := 0, slots := 0, locals := 22 } : Room))
set_option maxRecDepth 20000 in
theorem kX12_isDigit : zTk mX12_isDigit yX12_isDigit 1 := ⟨gS6 186 rfl rfl, gS1 13 rfl rfl, xq_RX12, xq_d42, rfl, rfl⟩
set_option maxRecDepth 20000 in
theorem vX12_isDigit : Cond.static yX12_isDigit ∈ gT := gS6 185 rfl rfl
abbrev mX12_readsNumber : Mt := (cX12_readsNumber, 4, (some .boolean), RX12, ({ frames := 2, cells := 0, slots := 0, locals := 42 } : Room))
set_option maxRecDepth 20000 in
theorem kX12_readsNumber : zTk mX12_readsNumber yX12_readsNumber 2 := ⟨gS6 183 rfl rfl, gS1 13 rfl rfl, xq_RX12, xq_d37, rfl, rfl⟩
set_option maxRecDepth 20000 in
theorem vX12_readsNumber : zTv yX12_readsNumber := ⟨gS6 182 rfl rfl, gT_pv 41 (by decide +kernel) rfl⟩
abbrev mX12_readsNext : Mt := (cX12_readsNext, 3, (some .boolean), RX12, ({ frames := 3, cells := 0, slots := 0, locals := 65 } : Room))
set_option maxRecDepth 20000 in
theorem kX12_readsNext : zTk mX12_readsNext yX12_readsNext 2 := ⟨gS6 190 rfl rfl, gS1 13 rfl rfl, xq_RX12, xq_d37, rfl, rfl⟩
set_option maxRecDepth 20000 in
theorem vX12_readsNext : zTv yX12_readsNext := ⟨gS6 189 rfl rfl, gT_pv 42 (by decide +kernel) rfl⟩
abbrev mX12_readsCurve : Mt := (cX12_readsCurve, 2, (some .boolean), RX12, ({ frames := 3, cells := 0, slots := 0, locals := 65 } : Room))
set_option maxRecDepth 20000 in
theorem kX12_readsCurve : zTk mX12_readsCurve yX12_readsCurve 0 := ⟨gS6 194 rfl rfl, gS1 13 rfl rfl, xq_RX12, xq_d40, rfl, rfl⟩
set_option maxRecDepth 20000 in
theorem vX12_readsCurve : zTv yX12_readsCurve := ⟨gS6 193 rfl rfl, gT_pv 43 (by decide +kernel) rfl⟩
abbrev mX12_readsNumbers : Mt := (cX12_readsNumbers, 2, (some .boolean), RX12, ({ frames := 4, cells := 0, slots := 0, locals := 87 } : Room))
set_option maxRecDepth 20000 in
theorem kX12_readsNumbers : zTk mX12_readsNumbers yX12_readsNumbers 1 := ⟨gS6 179 rfl rfl, gS1 13 rfl rfl, xq_RX12, xq_d42, rfl, rfl⟩
set_option maxRecDepth 20000 in
theorem vX12_readsNumbers : zTv yX12_readsNumbers := ⟨gS6 178 rfl rfl, gT_pv 40 (by decide +kernel) rfl⟩
abbrev mX12_isEarly : Mt := (cX12_isEarly, 1, (some .boolean), RX12, ({ frames := 0, cells := 0, slots := 0, locals := 0 } : Room))
set_option maxRecDepth 20000 in
theorem kX12_isEarly : zTk mX12_isEarly yX12_isEarly 1 := ⟨gS6 160 rfl rfl, gS1 13 rfl rfl, xq_RX12, xq_d42, rfl, rfl⟩
set_option maxRecDepth 20000 in
theorem vX12_isEarly : Cond.static yX12_isEarly ∈ gT := gS6 159 rfl rfl
abbrev mX12_isLate : Mt := (cX12_isLate, 1, (some .boolean), RX12, ({ frames := 0, cells := 0, slots := 0, locals := 0 } : Room))
set_option maxRecDepth 20000 in
theorem kX12_isLate : zTk mX12_isLate yX12_isLate 1 := ⟨gS6 163 rfl rfl, gS1 13 rfl rfl, xq_RX12, xq_d42, rfl, rfl⟩
set_option maxRecDepth 20000 in
theorem vX12_isLate : Cond.static yX12_isLate ∈ gT := gS6 162 rfl rfl
abbrev mX12_isFilledSoFar : Mt := (cX12_isFilledSoFar, 2, (some .boolean), RX12, ({ frames := 0, cells := 0, slots := 0, locals := 0 } : Room))
set_option maxRecDepth 20000 in
theorem kX12_isFilledSoFar : zTk mX12_isFilledSoFar yX12_isFilledSoFar 0 := ⟨gS6 171 rfl rfl, gS1 13 rfl rfl, xq_RX12, xq_d40, rfl, rfl⟩
set_option maxRecDepth 20000 in
theorem vX12_isFilledSoFar : zTv yX12_isFilledSoFar := ⟨gS6 170 rfl rfl, gT_pv 38 (by decide +kernel) rfl⟩
abbrev mX12_readsStage : Mt := (cX12_readsStage, 2, (some .boolean), RX12, ({ frames := 5, cells := 0, slots := 0, locals := 108 } : Room))
set_option maxRecDepth 20000 in
theorem kX12_readsStage : zTk mX12_readsStage yX12_readsStage 0 := ⟨gS6 153 rfl rfl, gS1 13 rfl rfl, xq_RX12, xq_d40, rfl, rfl⟩
set_option maxRecDepth 20000 in
theorem vX12_readsStage : zTv yX12_readsStage := ⟨gS6 152 rfl rfl, gT_pv 35 (by decide +kernel) rfl⟩
abbrev mX12_copies : Mt := (cX12_copies, 3, none, RX12, ({ frames := 0, cells := 0, slots := 0, locals := 0 } : Room))
theorem xq_d52 : (parseMethodDescriptor "([I[I)V").map (fun d => d.parameters.length) = some 2 := by decide +kernel
set_option maxRecDepth 20000 in
theorem kX12_copies : zTk mX12_copies yX12_copies 2 := ⟨gS6 197 rfl rfl, gS1 13 rfl rfl, xq_RX12, xq_d52, rfl, rfl⟩
set_option maxRecDepth 20000 in
theorem vX12_copies : Cond.static yX12_copies ∈ gT := gS6 196 rfl rfl
abbrev mX12_copiesMarks : Mt := (cX12_copiesMarks, 3, none, RX12, ({ frames := 0, cells := 0, slots := 0, locals := 0 } : Room))
theorem xq_d53 : (parseMethodDescriptor "([Z[Z)V").map (fun d => d.parameters.length) = some 2 := by decide +kernel
set_option maxRecDepth 20000 in
theorem kX12_copiesMarks : zTk mX12_copiesMarks yX12_copiesMarks 2 := ⟨gS8 142 rfl rfl, gS1 13 rfl rfl, xq_RX12, xq_d53, rfl, rfl⟩
set_option maxRecDepth 20000 in
theorem vX12_copiesMarks : Cond.static yX12_copiesMarks ∈ gT := gS8 141 rfl rfl
abbrev mX12_stages : Mt := (cX12_stages, 3, (some .int), RX12, ({ frames := 6, cells := 0, slots := 0, locals := 129 } : Room))
set_option maxRecDepth 20000 in
theorem kX12_stages : zTk mX12_stages yX12_stages 1 := ⟨gS6 146 rfl rfl, gS1 13 rfl rfl, xq_RX12, xq_d31, rfl, rfl⟩
set_option maxRecDepth 20000 in
theorem vX12_stages : zTv yX12_stages := ⟨gS6 144 rfl rfl, gS6 145 rfl rfl⟩
abbrev mX12_filler : Mt := (cX12_filler, 2, (some .int), RX12, ({ frames := 0, cells := 0, slots := 0, locals := 0 } : Room))
set_option maxRecDepth 20000 in
theorem kX12_filler : zTk mX12_filler yX12_filler 0 := ⟨gS7 208 rfl rfl, gS1 13 rfl rfl, xq_RX12, xq_d2, rfl, rfl⟩
set_option maxRecDepth 20000 in
theorem vX12_filler : zTv yX12_filler := ⟨gS7 207 rfl rfl, gT_pv 91 (by decide +kernel) rfl⟩
abbrev mX12_isBehind : Mt := (cX12_isBehind, 2, (some .boolean), RX12, ({ frames := 1, cells := 0, slots := 0, locals := 21 } : Room))
set_option maxRecDepth 20000 in
theorem kX12_isBehind : zTk mX12_isBehind yX12_isBehind 1 := ⟨gS7 204 rfl rfl, gS1 13 rfl rfl, xq_RX12, xq_d42, rfl, rfl⟩
set_option maxRecDepth 20000 in
theorem vX12_isBehind : zTv yX12_isBehind := ⟨gS7 203 rfl rfl, gT_pv 90 (by decide +kernel) rfl⟩
abbrev mX12_isStage : Mt := (cX12_isStage, 2, (some .boolean), RX12, ({ frames := 1, cells := 0, slots := 0, locals := 22 } : Room))
set_option maxRecDepth 20000 in
theorem kX12_isStage : zTk mX12_isStage yX12_isStage 1 := ⟨gS6 205 rfl rfl, gS1 13 rfl rfl, xq_RX12, xq_d42, rfl, rfl⟩
set_option maxRecDepth 20000 in
theorem vX12_isStage : zTv yX12_isStage := ⟨gS6 204 rfl rfl, gT_pv 44 (by decide +kernel) rfl⟩
abbrev mX12_numberOf : Mt := (cX12_numberOf, 3, (some .int), RX12, ({ frames := 0, cells := 0, slots := 0, locals := 0 } : Room))
set_option maxRecDepth 20000 in
theorem kX12_numberOf : zTk mX12_numberOf yX12_numberOf 2 := ⟨gS6 213 rfl rfl, gS1 13 rfl rfl, xq_RX12, xq_d21, rfl, rfl⟩
set_option maxRecDepth 20000 in
theorem vX12_numberOf : zTv yX12_numberOf := ⟨gS6 212 rfl rfl, gT_pv 46 (by decide +kernel) rfl⟩
abbrev mX12_numberMany : Mt := (cX12_numberMany, 2, (some .int), RX12, ({ frames := 0, cells := 0, slots := 0, locals := 0 } : Room))
set_option maxRecDepth 20000 in
theorem kX12_numberMany : zTk mX12_numberMany yX12_numberMany 1 := ⟨gS6 209 rfl rfl, gS1 13 rfl rfl, xq_RX12, xq_d31, rfl, rfl⟩
set_option maxRecDepth 20000 in
theorem vX12_numberMany : zTv yX12_numberMany := ⟨gS6 208 rfl rfl, gT_pv 45 (by decide +kernel) rfl⟩
abbrev mX12_stage : Mt := (cX12_stage, 3, (some .int), RX12, ({ frames := 2, cells := 0, slots := 0, locals := 43 } : Room))
set_option maxRecDepth 20000 in
theorem kX12_stage : zTk mX12_stage yX12_stage 2 := ⟨gS6 201 rfl rfl, gS1 13 rfl rfl, xq_RX12, xq_d21, rfl, rfl⟩
set_option maxRecDepth 20000 in
theorem vX12_stage : zTv yX12_stage := ⟨gS6 199 rfl rfl, gS6 200 rfl rfl⟩
abbrev mX12_isSquare : Mt := (cX12_isSquare, 3, (some .boolean), RX12, ({ frames := 1, cells := 0, slots := 0, locals := 22 } : Room))
set_option maxRecDepth 20000 in
theorem kX12_isSquare : zTk mX12_isSquare yX12_isSquare 2 := ⟨gS6 233 rfl rfl, gS1 13 rfl rfl, xq_RX12, xq_d37, rfl, rfl⟩
set_option maxRecDepth 20000 in
theorem vX12_isSquare : zTv yX12_isSquare := ⟨gS6 232 rfl rfl, gT_pv 48 (by decide +kernel) rfl⟩
abbrev mX12_colourAt : Mt := (cX12_colourAt, 5, (some .int), RX12, ({ frames := 0, cells := 0, slots := 0, locals := 0 } : Room))
set_option maxRecDepth 20000 in
theorem kX12_colourAt : zTk mX12_colourAt yX12_colourAt 2 := ⟨gS7 14 rfl rfl, gS1 13 rfl rfl, xq_RX12, xq_d21, rfl, rfl⟩
set_option maxRecDepth 20000 in
theorem vX12_colourAt : zTv yX12_colourAt := ⟨gS7 13 rfl rfl, gT_pv 51 (by decide +kernel) rfl⟩
abbrev mX12_changed : Mt := (cX12_changed, 1, none, RX12, ({ frames := 0, cells := 0, slots := 0, locals := 0 } : Room))
set_option maxRecDepth 20000 in
theorem kX12_changed : zTk mX12_changed yX12_changed 0 := ⟨gS6 221 rfl rfl, gS1 13 rfl rfl, xq_RX12, xq_d7, rfl, rfl⟩
set_option maxRecDepth 20000 in
theorem vX12_changed : zTv yX12_changed := ⟨gS6 220 rfl rfl, gT_pv 47 (by decide +kernel) rfl⟩
abbrev mX12_raw : Mt := (cX12_raw, 5, (some .boolean), RX12, ({ frames := 1, cells := 0, slots := 0, locals := 22 } : Room))
set_option maxRecDepth 20000 in
theorem kX12_raw : zTk mX12_raw yX12_raw 3 := ⟨gS6 217 rfl rfl, gS1 13 rfl rfl, xq_RX12, xq_d46, rfl, rfl⟩
set_option maxRecDepth 20000 in
theorem vX12_raw : zTv yX12_raw := ⟨gS6 215 rfl rfl, gS6 216 rfl rfl⟩
abbrev mX12_row : Mt := (cX12_row, 3, (some .boolean), RX12, ({ frames := 1, cells := 0, slots := 0, locals := 22 } : Room))
set_option maxRecDepth 20000 in
theorem kX12_row : zTk mX12_row yX12_row 1 := ⟨gS6 225 rfl rfl, gS1 13 rfl rfl, xq_RX12, xq_d42, rfl, rfl⟩
set_option maxRecDepth 20000 in
theorem vX12_row : zTv yX12_row := ⟨gS6 223 rfl rfl, gS6 224 rfl rfl⟩
abbrev mX12_pixel : Mt := (cX12_pixel, 4, (some .boolean), RX12, ({ frames := 2, cells := 0, slots := 0, locals := 44 } : Room))
set_option maxRecDepth 20000 in
theorem kX12_pixel : zTk mX12_pixel yX12_pixel 3 := ⟨gS6 229 rfl rfl, gS1 13 rfl rfl, xq_RX12, xq_d46, rfl, rfl⟩
set_option maxRecDepth 20000 in
theorem vX12_pixel : zTv yX12_pixel := ⟨gS6 227 rfl rfl, gS6 228 rfl rfl⟩
abbrev mX12_deadMany : Mt := (cX12_deadMany, 3, (some .int), RX12, ({ frames := 0, cells := 0, slots := 0, locals := 0 } : Room))
set_option maxRecDepth 20000 in
theorem kX12_deadMany : zTk mX12_deadMany yX12_deadMany 0 := ⟨gS7 1 rfl rfl, gS1 13 rfl rfl, xq_RX12, xq_d2, rfl, rfl⟩
set_option maxRecDepth 20000 in
theorem vX12_deadMany : zTv yX12_deadMany := ⟨gS7 0 rfl rfl, gT_pv 49 (by decide +kernel) rfl⟩
abbrev mX12_dead : Mt := (cX12_dead, 4, (some .int), RX12, ({ frames := 2, cells := 0, slots := 0, locals := 44 } : Room))
set_option maxRecDepth 20000 in
theorem kX12_dead : zTk mX12_dead yX12_dead 3 := ⟨gS6 237 rfl rfl, gS1 13 rfl rfl, xq_RX12, xq_d5, rfl, rfl⟩
set_option maxRecDepth 20000 in
theorem vX12_dead : zTv yX12_dead := ⟨gS6 235 rfl rfl, gS6 236 rfl rfl⟩
abbrev mX12_sceneAt : Mt := (cX12_sceneAt, 6, (some .int), RX12, ({ frames := 1, cells := 0, slots := 0, locals := 24 } : Room))
set_option maxRecDepth 20000 in
theorem kX12_sceneAt : zTk mX12_sceneAt yX12_sceneAt 5 := ⟨gS7 9 rfl rfl, gS1 13 rfl rfl, xq_RX12, xq_d30, rfl, rfl⟩
set_option maxRecDepth 20000 in
theorem vX12_sceneAt : zTv yX12_sceneAt := ⟨gS7 8 rfl rfl, gT_pv 50 (by decide +kernel) rfl⟩
abbrev mX12_scene : Mt := (cX12_scene, 6, (some .boolean), RX12, ({ frames := 2, cells := 0, slots := 0, locals := 49 } : Room))
set_option maxRecDepth 20000 in
theorem kX12_scene : zTk mX12_scene yX12_scene 3 := ⟨gS7 5 rfl rfl, gS1 13 rfl rfl, xq_RX12, xq_d46, rfl, rfl⟩
set_option maxRecDepth 20000 in
theorem vX12_scene : zTv yX12_scene := ⟨gS7 3 rfl rfl, gS7 4 rfl rfl⟩
abbrev mX12_truthAt : Mt := (cX12_truthAt, 7, (some .int), RX12, ({ frames := 0, cells := 0, slots := 0, locals := 0 } : Room))
set_option maxRecDepth 20000 in
theorem kX12_truthAt : zTk mX12_truthAt yX12_truthAt 4 := ⟨gS7 22 rfl rfl, gS1 13 rfl rfl, xq_RX12, xq_d47, rfl, rfl⟩
set_option maxRecDepth 20000 in
theorem vX12_truthAt : zTv yX12_truthAt := ⟨gS7 21 rfl rfl, gT_pv 52 (by decide +kernel) rfl⟩
abbrev mX12_truth : Mt := (cX12_truth, 6, (some .boolean), RX12, ({ frames := 1, cells := 0, slots := 0, locals := 26 } : Room))
set_option maxRecDepth 20000 in
theorem kX12_truth : zTk mX12_truth yX12_truth 1 := ⟨gS7 18 rfl rfl, gS1 13 rfl rfl, xq_RX12, xq_d42, rfl, rfl⟩
set_option maxRecDepth 20000 in
theorem vX12_truth : zTv yX12_truth := ⟨gS7 16 rfl rfl, gS7 17 rfl rfl⟩
abbrev mX12_rawIs : Mt := (cX12_rawIs, 6, (some .int), RX12, ({ frames := 1, cells := 0, slots := 0, locals := 24 } : Room))
set_option maxRecDepth 20000 in
theorem kX12_rawIs : zTk mX12_rawIs yX12_rawIs 1 := ⟨gS7 26 rfl rfl, gS1 13 rfl rfl, xq_RX12, xq_d31, rfl, rfl⟩
set_option maxRecDepth 20000 in
theorem vX12_rawIs : zTv yX12_rawIs := ⟨gS7 24 rfl rfl, gS7 25 rfl rfl⟩
abbrev mX12_colour : Mt := (cX12_colour, 3, (some .int), RX12, ({ frames := 2, cells := 0, slots := 0, locals := 44 } : Room))
set_option maxRecDepth 20000 in
theorem kX12_colour : zTk mX12_colour yX12_colour 2 := ⟨gS7 30 rfl rfl, gS1 13 rfl rfl, xq_RX12, xq_d21, rfl, rfl⟩
set_option maxRecDepth 20000 in
theorem vX12_colour : zTv yX12_colour := ⟨gS7 28 rfl rfl, gS7 29 rfl rfl⟩
abbrev mX12_mirrored : Mt := (cX12_mirrored, 2, (some .int), RX12, ({ frames := 0, cells := 0, slots := 0, locals := 0 } : Room))
set_option maxRecDepth 20000 in
theorem kX12_mirrored : zTk mX12_mirrored yX12_mirrored 2 := ⟨gS7 78 rfl rfl, gS1 13 rfl rfl, xq_RX12, xq_d21, rfl, rfl⟩
set_option maxRecDepth 20000 in
theorem vX12_mirrored : Cond.static yX12_mirrored ∈ gT := gS7 77 rfl rfl
abbrev mX12_at : Mt := (cX12_at, 5, (some .int), RX12, ({ frames := 1, cells := 0, slots := 0, locals := 21 } : Room))
set_option maxRecDepth 20000 in
theorem kX12_at : zTk mX12_at yX12_at 4 := ⟨gS7 93 rfl rfl, gS1 13 rfl rfl, xq_RX12, xq_d47, rfl, rfl⟩
set_option maxRecDepth 20000 in
theorem vX12_at : zTv yX12_at := ⟨gS7 92 rfl rfl, gT_pv 63 (by decide +kernel) rfl⟩
abbrev mX12_own : Mt := (cX12_own, 6, (some .int), RX12, ({ frames := 1, cells := 0, slots := 0, locals := 24 } : Room))
set_option maxRecDepth 20000 in
theorem kX12_own : zTk mX12_own yX12_own 3 := ⟨gS7 75 rfl rfl, gS1 13 rfl rfl, xq_RX12, xq_d24, rfl, rfl⟩
set_option maxRecDepth 20000 in
theorem vX12_own : zTv yX12_own := ⟨gS7 74 rfl rfl, gT_pv 60 (by decide +kernel) rfl⟩
abbrev mX12_lays : Mt := (cX12_lays, 6, none, RX12, ({ frames := 0, cells := 0, slots := 0, locals := 0 } : Room))
theorem xq_d54 : (parseMethodDescriptor "(IIIII)V").map (fun d => d.parameters.length) = some 5 := by decide +kernel
set_option maxRecDepth 20000 in
theorem kX12_lays : zTk mX12_lays yX12_lays 5 := ⟨gS7 59 rfl rfl, gS1 13 rfl rfl, xq_RX12, xq_d54, rfl, rfl⟩
set_option maxRecDepth 20000 in
theorem vX12_lays : zTv yX12_lays := ⟨gS7 58 rfl rfl, gT_pv 56 (by decide +kernel) rfl⟩
abbrev mX12_laysOwn : Mt := (cX12_laysOwn, 5, none, RX12, ({ frames := 2, cells := 0, slots := 0, locals := 41 } : Room))
theorem xq_d55 : (parseMethodDescriptor "(IIII)V").map (fun d => d.parameters.length) = some 4 := by decide +kernel
set_option maxRecDepth 20000 in
theorem kX12_laysOwn : zTk mX12_laysOwn yX12_laysOwn 4 := ⟨gS7 46 rfl rfl, gS1 13 rfl rfl, xq_RX12, xq_d55, rfl, rfl⟩
set_option maxRecDepth 20000 in
theorem vX12_laysOwn : zTv yX12_laysOwn := ⟨gS7 45 rfl rfl, gT_pv 55 (by decide +kernel) rfl⟩
abbrev mX12_darkOf : Mt := (cX12_darkOf, 6, (some .int), RX12, ({ frames := 2, cells := 0, slots := 0, locals := 49 } : Room))
set_option maxRecDepth 20000 in
theorem kX12_darkOf : zTk mX12_darkOf yX12_darkOf 3 := ⟨gS7 105 rfl rfl, gS1 13 rfl rfl, xq_RX12, xq_d24, rfl, rfl⟩
set_option maxRecDepth 20000 in
theorem vX12_darkOf : zTv yX12_darkOf := ⟨gS7 104 rfl rfl, gT_pv 66 (by decide +kernel) rfl⟩
abbrev mX12_sorts : Mt := (cX12_sorts, 5, none, RX12, ({ frames := 0, cells := 0, slots := 0, locals := 0 } : Room))
set_option maxRecDepth 20000 in
theorem kX12_sorts : zTk mX12_sorts yX12_sorts 2 := ⟨gS7 116 rfl rfl, gS1 13 rfl rfl, xq_RX12, xq_d17, rfl, rfl⟩
set_option maxRecDepth 20000 in
theorem vX12_sorts : Cond.static yX12_sorts ∈ gT := gS7 115 rfl rfl
abbrev mX12_middleOf : Mt := (cX12_middleOf, 4, (some .int), RX12, ({ frames := 2, cells := 0, slots := 0, locals := 49 } : Room))
set_option maxRecDepth 20000 in
theorem kX12_middleOf : zTk mX12_middleOf yX12_middleOf 3 := ⟨gS7 113 rfl rfl, gS1 13 rfl rfl, xq_RX12, xq_d24, rfl, rfl⟩
set_option maxRecDepth 20000 in
theorem vX12_middleOf : zTv yX12_middleOf := ⟨gS7 112 rfl rfl, gT_pv 68 (by decide +kernel) rfl⟩
abbrev mX12_isFound : Mt := (cX12_isFound, 5, (some .boolean), RX12, ({ frames := 3, cells := 0, slots := 0, locals := 72 } : Room))
theorem xq_d56 : (parseMethodDescriptor "(IIII)Z").map (fun d => d.parameters.length) = some 4 := by decide +kernel
set_option maxRecDepth 20000 in
theorem kX12_isFound : zTk mX12_isFound yX12_isFound 4 := ⟨gS7 109 rfl rfl, gS1 13 rfl rfl, xq_RX12, xq_d56, rfl, rfl⟩
set_option maxRecDepth 20000 in
theorem vX12_isFound : zTv yX12_isFound := ⟨gS7 108 rfl rfl, gT_pv 67 (by decide +kernel) rfl⟩
abbrev mX12_shaded : Mt := (cX12_shaded, 7, (some .int), RX12, ({ frames := 0, cells := 0, slots := 0, locals := 0 } : Room))
set_option maxRecDepth 20000 in
theorem kX12_shaded : zTk mX12_shaded yX12_shaded 4 := ⟨gS7 120 rfl rfl, gS1 13 rfl rfl, xq_RX12, xq_d47, rfl, rfl⟩
set_option maxRecDepth 20000 in
theorem vX12_shaded : zTv yX12_shaded := ⟨gS7 119 rfl rfl, gT_pv 69 (by decide +kernel) rfl⟩
abbrev mX12_early : Mt := (cX12_early, 8, none, RX12, ({ frames := 4, cells := 0, slots := 0, locals := 96 } : Room))
set_option maxRecDepth 20000 in
theorem kX12_early : zTk mX12_early yX12_early 4 := ⟨gS7 101 rfl rfl, gS1 13 rfl rfl, xq_RX12, xq_d55, rfl, rfl⟩
set_option maxRecDepth 20000 in
theorem vX12_early : zTv yX12_early := ⟨gS7 100 rfl rfl, gT_pv 65 (by decide +kernel) rfl⟩
abbrev mX12_wayOf : Mt := (cX12_wayOf, 7, (some .int), RX12, ({ frames := 2, cells := 0, slots := 0, locals := 49 } : Room))
set_option maxRecDepth 20000 in
theorem kX12_wayOf : zTk mX12_wayOf yX12_wayOf 3 := ⟨gS7 82 rfl rfl, gS1 13 rfl rfl, xq_RX12, xq_d24, rfl, rfl⟩
set_option maxRecDepth 20000 in
theorem vX12_wayOf : zTv yX12_wayOf := ⟨gS7 81 rfl rfl, gT_pv 61 (by decide +kernel) rfl⟩
abbrev mX12_greenOf : Mt := (cX12_greenOf, 8, (some .int), RX12, ({ frames := 3, cells := 0, slots := 0, locals := 75 } : Room))
set_option maxRecDepth 20000 in
theorem kX12_greenOf : zTk mX12_greenOf yX12_greenOf 4 := ⟨gS7 71 rfl rfl, gS1 13 rfl rfl, xq_RX12, xq_d47, rfl, rfl⟩
set_option maxRecDepth 20000 in
theorem vX12_greenOf : zTv yX12_greenOf := ⟨gS7 70 rfl rfl, gT_pv 59 (by decide +kernel) rfl⟩
abbrev mX12_over : Mt := (cX12_over, 5, (some .int), RX12, ({ frames := 2, cells := 0, slots := 0, locals := 49 } : Room))
set_option maxRecDepth 20000 in
theorem kX12_over : zTk mX12_over yX12_over 4 := ⟨gS7 97 rfl rfl, gS1 13 rfl rfl, xq_RX12, xq_d47, rfl, rfl⟩
set_option maxRecDepth 20000 in
theorem vX12_over : zTv yX12_over := ⟨gS7 96 rfl rfl, gT_pv 64 (by decide +kernel) rfl⟩
abbrev mX12_otherOf : Mt := (cX12_otherOf, 10, (some .int), RX12, ({ frames := 3, cells := 0, slots := 0, locals := 73 } : Room))
set_option maxRecDepth 20000 in
theorem kX12_otherOf : zTk mX12_otherOf yX12_otherOf 5 := ⟨gS7 89 rfl rfl, gS1 13 rfl rfl, xq_RX12, xq_d30, rfl, rfl⟩
set_option maxRecDepth 20000 in
theorem vX12_otherOf : zTv yX12_otherOf := ⟨gS7 88 rfl rfl, gT_pv 62 (by decide +kernel) rfl⟩
abbrev mX12_fills : Mt := (cX12_fills, 8, none, RX12, ({ frames := 4, cells := 0, slots := 0, locals := 102 } : Room))
set_option maxRecDepth 20000 in
theorem kX12_fills : zTk mX12_fills yX12_fills 3 := ⟨gS7 67 rfl rfl, gS1 13 rfl rfl, xq_RX12, xq_d35, rfl, rfl⟩
set_option maxRecDepth 20000 in
theorem vX12_fills : zTv yX12_fills := ⟨gS7 66 rfl rfl, gT_pv 58 (by decide +kernel) rfl⟩
abbrev mX12_lightAt : Mt := (cX12_lightAt, 4, (some .int), RX12, ({ frames := 2, cells := 0, slots := 0, locals := 45 } : Room))
set_option maxRecDepth 20000 in
theorem kX12_lightAt : zTk mX12_lightAt yX12_lightAt 3 := ⟨gS7 152 rfl rfl, gS1 13 rfl rfl, xq_RX12, xq_d24, rfl, rfl⟩
set_option maxRecDepth 20000 in
theorem vX12_lightAt : zTv yX12_lightAt := ⟨gS7 151 rfl rfl, gT_pv 77 (by decide +kernel) rfl⟩
abbrev mX12_median : Mt := (cX12_median, 6, (some .int), RX12, ({ frames := 2, cells := 0, slots := 0, locals := 45 } : Room))
set_option maxRecDepth 20000 in
theorem kX12_median : zTk mX12_median yX12_median 4 := ⟨gS7 128 rfl rfl, gS1 13 rfl rfl, xq_RX12, xq_d47, rfl, rfl⟩
set_option maxRecDepth 20000 in
theorem vX12_median : zTv yX12_median := ⟨gS7 127 rfl rfl, gT_pv 71 (by decide +kernel) rfl⟩
abbrev mX12_votes : Mt := (cX12_votes, 8, none, RX12, ({ frames := 3, cells := 0, slots := 0, locals := 70 } : Room))
set_option maxRecDepth 20000 in
theorem kX12_votes : zTk mX12_votes yX12_votes 3 := ⟨gS7 124 rfl rfl, gS1 13 rfl rfl, xq_RX12, xq_d35, rfl, rfl⟩
set_option maxRecDepth 20000 in
theorem vX12_votes : zTv yX12_votes := ⟨gS7 123 rfl rfl, gT_pv 70 (by decide +kernel) rfl⟩
abbrev mX12_greatest : Mt := (cX12_greatest, 4, (some .int), RX12, ({ frames := 2, cells := 0, slots := 0, locals := 45 } : Room))
set_option maxRecDepth 20000 in
theorem kX12_greatest : zTk mX12_greatest yX12_greatest 3 := ⟨gS7 140 rfl rfl, gS1 13 rfl rfl, xq_RX12, xq_d24, rfl, rfl⟩
set_option maxRecDepth 20000 in
theorem vX12_greatest : zTv yX12_greatest := ⟨gS7 139 rfl rfl, gT_pv 74 (by decide +kernel) rfl⟩
abbrev mX12_smallest : Mt := (cX12_smallest, 4, (some .int), RX12, ({ frames := 2, cells := 0, slots := 0, locals := 45 } : Room))
set_option maxRecDepth 20000 in
theorem kX12_smallest : zTk mX12_smallest yX12_smallest 3 := ⟨gS7 144 rfl rfl, gS1 13 rfl rfl, xq_RX12, xq_d24, rfl, rfl⟩
set_option maxRecDepth 20000 in
theorem vX12_smallest : zTv yX12_smallest := ⟨gS7 143 rfl rfl, gT_pv 75 (by decide +kernel) rfl⟩
abbrev mX12_findsWhite : Mt := (cX12_findsWhite, 10, none, RX12, ({ frames := 3, cells := 0, slots := 0, locals := 68 } : Room))
set_option maxRecDepth 20000 in
theorem kX12_findsWhite : zTk mX12_findsWhite yX12_findsWhite 2 := ⟨gS7 136 rfl rfl, gS1 13 rfl rfl, xq_RX12, xq_d6, rfl, rfl⟩
set_option maxRecDepth 20000 in
theorem vX12_findsWhite : zTv yX12_findsWhite := ⟨gS7 135 rfl rfl, gT_pv 73 (by decide +kernel) rfl⟩
abbrev mX12_curved : Mt := (cX12_curved, 9, (some .int), RX12, ({ frames := 0, cells := 0, slots := 0, locals := 0 } : Room))
set_option maxRecDepth 20000 in
theorem kX12_curved : zTk mX12_curved yX12_curved 3 := ⟨gS7 176 rfl rfl, gS1 13 rfl rfl, xq_RX12, xq_d24, rfl, rfl⟩
set_option maxRecDepth 20000 in
theorem vX12_curved : zTv yX12_curved := ⟨gS7 175 rfl rfl, gT_pv 83 (by decide +kernel) rfl⟩
abbrev mX12_baseOf : Mt := (cX12_baseOf, 10, (some .int), RX12, ({ frames := 3, cells := 0, slots := 0, locals := 68 } : Room))
set_option maxRecDepth 20000 in
theorem kX12_baseOf : zTk mX12_baseOf yX12_baseOf 4 := ⟨gS7 180 rfl rfl, gS1 13 rfl rfl, xq_RX12, xq_d47, rfl, rfl⟩
set_option maxRecDepth 20000 in
theorem vX12_baseOf : zTv yX12_baseOf := ⟨gS7 179 rfl rfl, gT_pv 84 (by decide +kernel) rfl⟩
abbrev mX12_findsMean : Mt := (cX12_findsMean, 4, none, RX12, ({ frames := 3, cells := 0, slots := 0, locals := 68 } : Room))
set_option maxRecDepth 20000 in
theorem kX12_findsMean : zTk mX12_findsMean yX12_findsMean 1 := ⟨gS7 148 rfl rfl, gS1 13 rfl rfl, xq_RX12, xq_d38, rfl, rfl⟩
set_option maxRecDepth 20000 in
theorem vX12_findsMean : zTv yX12_findsMean := ⟨gS7 147 rfl rfl, gT_pv 76 (by decide +kernel) rfl⟩
abbrev mX12_findsFloors : Mt := (cX12_findsFloors, 7, none, RX12, ({ frames := 3, cells := 0, slots := 0, locals := 68 } : Room))
set_option maxRecDepth 20000 in
theorem kX12_findsFloors : zTk mX12_findsFloors yX12_findsFloors 1 := ⟨gS7 156 rfl rfl, gS1 13 rfl rfl, xq_RX12, xq_d38, rfl, rfl⟩
set_option maxRecDepth 20000 in
theorem vX12_findsFloors : zTv yX12_findsFloors := ⟨gS7 155 rfl rfl, gT_pv 78 (by decide +kernel) rfl⟩
abbrev mX12_together : Mt := (cX12_together, 10, (some .int), RX12, ({ frames := 1, cells := 0, slots := 0, locals := 21 } : Room))
set_option maxRecDepth 20000 in
theorem kX12_together : zTk mX12_together yX12_together 5 := ⟨gS7 160 rfl rfl, gS1 13 rfl rfl, xq_RX12, xq_d30, rfl, rfl⟩
set_option maxRecDepth 20000 in
theorem vX12_together : zTv yX12_together := ⟨gS7 159 rfl rfl, gT_pv 79 (by decide +kernel) rfl⟩
abbrev mX12_floorAt : Mt := (cX12_floorAt, 4, (some .int), RX12, ({ frames := 0, cells := 0, slots := 0, locals := 0 } : Room))
set_option maxRecDepth 20000 in
theorem kX12_floorAt : zTk mX12_floorAt yX12_floorAt 3 := ⟨gS7 188 rfl rfl, gS1 13 rfl rfl, xq_RX12, xq_d24, rfl, rfl⟩
set_option maxRecDepth 20000 in
theorem vX12_floorAt : zTv yX12_floorAt := ⟨gS7 187 rfl rfl, gT_pv 86 (by decide +kernel) rfl⟩
abbrev mX12_toneAt : Mt := (cX12_toneAt, 7, (some .int), RX12, ({ frames := 1, cells := 0, slots := 0, locals := 23 } : Room))
set_option maxRecDepth 20000 in
theorem kX12_toneAt : zTk mX12_toneAt yX12_toneAt 3 := ⟨gS7 184 rfl rfl, gS1 13 rfl rfl, xq_RX12, xq_d24, rfl, rfl⟩
set_option maxRecDepth 20000 in
theorem vX12_toneAt : zTv yX12_toneAt := ⟨gS7 183 rfl rfl, gT_pv 85 (by decide +kernel) rfl⟩
abbrev mX12_blurAt : Mt := (cX12_blurAt, 8, (some .int), RX12, ({ frames := 2, cells := 0, slots := 0, locals := 45 } : Room))
set_option maxRecDepth 20000 in
theorem kX12_blurAt : zTk mX12_blurAt yX12_blurAt 4 := ⟨gS7 196 rfl rfl, gS1 13 rfl rfl, xq_RX12, xq_d47, rfl, rfl⟩
set_option maxRecDepth 20000 in
theorem vX12_blurAt : zTv yX12_blurAt := ⟨gS7 195 rfl rfl, gT_pv 88 (by decide +kernel) rfl⟩
abbrev mX12_calmed : Mt := (cX12_calmed, 10, (some .int), RX12, ({ frames := 3, cells := 0, slots := 0, locals := 72 } : Room))
theorem xq_d57 : (parseMethodDescriptor "(IIIIII)I").map (fun d => d.parameters.length) = some 6 := by decide +kernel
set_option maxRecDepth 20000 in
theorem kX12_calmed : zTk mX12_calmed yX12_calmed 6 := ⟨gS7 192 rfl rfl, gS1 13 rfl rfl, xq_RX12, xq_d57, rfl, rfl⟩
set_option maxRecDepth 20000 in
theorem vX12_calmed : zTv yX12_calmed := ⟨gS7 191 rfl rfl, gT_pv 87 (by decide +kernel) rfl⟩
abbrev mX12_sharpened : Mt := (cX12_sharpened, 8, (some .int), RX12, ({ frames := 3, cells := 0, slots := 0, locals := 72 } : Room))
set_option maxRecDepth 20000 in
theorem kX12_sharpened : zTk mX12_sharpened yX12_sharpened 6 := ⟨gS7 200 rfl rfl, gS1 13 rfl rfl, xq_RX12, xq_d57, rfl, rfl⟩
set_option maxRecDepth 20000 in
theorem vX12_sharpened : zTv yX12_sharpened := ⟨gS7 199 rfl rfl, gT_pv 89 (by decide +kernel) rfl⟩
abbrev mX12_paled : Mt := (cX12_paled, 8, (some .int), RX12, ({ frames := 3, cells := 0, slots := 0, locals := 68 } : Room))
set_option maxRecDepth 20000 in
theorem kX12_paled : zTk mX12_paled yX12_paled 5 := ⟨gS7 172 rfl rfl, gS1 13 rfl rfl, xq_RX12, xq_d30, rfl, rfl⟩
set_option maxRecDepth 20000 in
theorem vX12_paled : zTv yX12_paled := ⟨gS7 171 rfl rfl, gT_pv 82 (by decide +kernel) rfl⟩
abbrev mX12_gained : Mt := (cX12_gained, 3, (some .int), RX12, ({ frames := 0, cells := 0, slots := 0, locals := 0 } : Room))
set_option maxRecDepth 20000 in
theorem kX12_gained : zTk mX12_gained yX12_gained 2 := ⟨gS7 168 rfl rfl, gS1 13 rfl rfl, xq_RX12, xq_d21, rfl, rfl⟩
set_option maxRecDepth 20000 in
theorem vX12_gained : zTv yX12_gained := ⟨gS7 167 rfl rfl, gT_pv 81 (by decide +kernel) rfl⟩
abbrev mX12_lateAt : Mt := (cX12_lateAt, 10, (some .int), RX12, ({ frames := 4, cells := 0, slots := 0, locals := 101 } : Room))
theorem xq_d58 : (parseMethodDescriptor "(IIIIIII)I").map (fun d => d.parameters.length) = some 7 := by decide +kernel
set_option maxRecDepth 20000 in
theorem kX12_lateAt : zTk mX12_lateAt yX12_lateAt 7 := ⟨gS7 164 rfl rfl, gS1 13 rfl rfl, xq_RX12, xq_d58, rfl, rfl⟩
set_option maxRecDepth 20000 in
theorem vX12_lateAt : zTv yX12_lateAt := ⟨gS7 163 rfl rfl, gT_pv 80 (by decide +kernel) rfl⟩
abbrev mX12_late : Mt := (cX12_late, 9, none, RX12, ({ frames := 5, cells := 0, slots := 0, locals := 130 } : Room))
set_option maxRecDepth 20000 in
theorem kX12_late : zTk mX12_late yX12_late 5 := ⟨gS7 132 rfl rfl, gS1 13 rfl rfl, xq_RX12, xq_d54, rfl, rfl⟩
set_option maxRecDepth 20000 in
theorem vX12_late : zTv yX12_late := ⟨gS7 131 rfl rfl, gT_pv 72 (by decide +kernel) rfl⟩
abbrev mX12_does : Mt := (cX12_does, 6, none, RX12, ({ frames := 6, cells := 0, slots := 0, locals := 158 } : Room))
set_option maxRecDepth 20000 in
theorem kX12_does : zTk mX12_does yX12_does 3 := ⟨gS7 63 rfl rfl, gS1 13 rfl rfl, xq_RX12, xq_d35, rfl, rfl⟩
set_option maxRecDepth 20000 in
theorem vX12_does : zTv yX12_does := ⟨gS7 62 rfl rfl, gT_pv 57 (by decide +kernel) rfl⟩
abbrev mX12_leaves : Mt := (cX12_leaves, 3, none, RX12, ({ frames := 7, cells := 0, slots := 0, locals := 183 } : Room))
set_option maxRecDepth 20000 in
theorem kX12_leaves : zTk mX12_leaves yX12_leaves 0 := ⟨gS7 42 rfl rfl, gS1 13 rfl rfl, xq_RX12, xq_d7, rfl, rfl⟩
set_option maxRecDepth 20000 in
theorem vX12_leaves : zTv yX12_leaves := ⟨gS7 41 rfl rfl, gT_pv 54 (by decide +kernel) rfl⟩
abbrev mX12_leavesBy : Mt := (cX12_leavesBy, 6, (some .int), RX12, ({ frames := 7, cells := 0, slots := 0, locals := 183 } : Room))
set_option maxRecDepth 20000 in
theorem kX12_leavesBy : zTk mX12_leavesBy yX12_leavesBy 2 := ⟨gS8 118 rfl rfl, gS1 13 rfl rfl, xq_RX12, xq_d21, rfl, rfl⟩
set_option maxRecDepth 20000 in
theorem vX12_leavesBy : zTv yX12_leavesBy := ⟨gS8 117 rfl rfl, gT_pv 107 (by decide +kernel) rfl⟩
abbrev mX12_isKind : Mt := (cX12_isKind, 3, (some .boolean), RX12, ({ frames := 0, cells := 0, slots := 0, locals := 0 } : Room))
set_option maxRecDepth 20000 in
theorem kX12_isKind : zTk mX12_isKind yX12_isKind 2 := ⟨gS7 216 rfl rfl, gS1 13 rfl rfl, xq_RX12, xq_d37, rfl, rfl⟩
set_option maxRecDepth 20000 in
theorem vX12_isKind : zTv yX12_isKind := ⟨gS7 215 rfl rfl, gT_pv 92 (by decide +kernel) rfl⟩
abbrev mX12_isRow : Mt := (cX12_isRow, 2, (some .boolean), RX12, ({ frames := 1, cells := 0, slots := 0, locals := 22 } : Room))
set_option maxRecDepth 20000 in
theorem kX12_isRow : zTk mX12_isRow yX12_isRow 1 := ⟨gS7 38 rfl rfl, gS1 13 rfl rfl, xq_RX12, xq_d42, rfl, rfl⟩
set_option maxRecDepth 20000 in
theorem vX12_isRow : zTv yX12_isRow := ⟨gS7 37 rfl rfl, gT_pv 53 (by decide +kernel) rfl⟩
abbrev mX12_left : Mt := (cX12_left, 5, (some .int), RX12, ({ frames := 8, cells := 0, slots := 0, locals := 205 } : Room))
set_option maxRecDepth 20000 in
theorem kX12_left : zTk mX12_left yX12_left 4 := ⟨gS7 34 rfl rfl, gS1 13 rfl rfl, xq_RX12, xq_d47, rfl, rfl⟩
set_option maxRecDepth 20000 in
theorem vX12_left : zTv yX12_left := ⟨gS7 32 rfl rfl, gS7 33 rfl rfl⟩
abbrev mX12_marksFound : Mt := (cX12_marksFound, 3, none, RX12, ({ frames := 4, cells := 0, slots := 0, locals := 96 } : Room))
set_option maxRecDepth 20000 in
theorem kX12_marksFound : zTk mX12_marksFound yX12_marksFound 1 := ⟨gS7 220 rfl rfl, gS1 13 rfl rfl, xq_RX12, xq_d38, rfl, rfl⟩
set_option maxRecDepth 20000 in
theorem vX12_marksFound : zTv yX12_marksFound := ⟨gS7 219 rfl rfl, gT_pv 93 (by decide +kernel) rfl⟩
abbrev mX12_found : Mt := (cX12_found, 7, (some .int), RX12, ({ frames := 8, cells := 0, slots := 0, locals := 205 } : Room))
set_option maxRecDepth 20000 in
theorem kX12_found : zTk mX12_found yX12_found 2 := ⟨gS7 212 rfl rfl, gS1 13 rfl rfl, xq_RX12, xq_d21, rfl, rfl⟩
set_option maxRecDepth 20000 in
theorem vX12_found : zTv yX12_found := ⟨gS7 210 rfl rfl, gS7 211 rfl rfl⟩
abbrev mX12_gathers : Mt := (cX12_gathers, 4, (some .int), RX12, ({ frames := 3, cells := 0, slots := 0, locals := 75 } : Room))
theorem xq_d59 : (parseMethodDescriptor "(Z)I").map (fun d => d.parameters.length) = some 1 := by decide +kernel
set_option maxRecDepth 20000 in
theorem kX12_gathers : zTk mX12_gathers yX12_gathers 1 := ⟨gS7 228 rfl rfl, gS1 13 rfl rfl, xq_RX12, xq_d59, rfl, rfl⟩
set_option maxRecDepth 20000 in
theorem vX12_gathers : zTv yX12_gathers := ⟨gS7 227 rfl rfl, gT_pv 94 (by decide +kernel) rfl⟩
abbrev mX12_spreads : Mt := (cX12_spreads, 12, (some .int), RX12, ({ frames := 2, cells := 0, slots := 0, locals := 44 } : Room))
set_option maxRecDepth 20000 in
theorem kX12_spreads : zTk mX12_spreads yX12_spreads 3 := ⟨gS7 232 rfl rfl, gS1 13 rfl rfl, xq_RX12, xq_d5, rfl, rfl⟩
set_option maxRecDepth 20000 in
theorem vX12_spreads : zTv yX12_spreads := ⟨gS7 231 rfl rfl, gT_pv 95 (by decide +kernel) rfl⟩
abbrev mX12_largest : Mt := (cX12_largest, 4, (some .int), RX12, ({ frames := 0, cells := 0, slots := 0, locals := 0 } : Room))
set_option maxRecDepth 20000 in
theorem kX12_largest : zTk mX12_largest yX12_largest 1 := ⟨gS7 236 rfl rfl, gS1 13 rfl rfl, xq_RX12, xq_d31, rfl, rfl⟩
set_option maxRecDepth 20000 in
theorem vX12_largest : zTv yX12_largest := ⟨gS7 235 rfl rfl, gT_pv 96 (by decide +kernel) rfl⟩
abbrev mX12_groups : Mt := (cX12_groups, 5, (some .int), RX12, ({ frames := 8, cells := 0, slots := 0, locals := 205 } : Room))
set_option maxRecDepth 20000 in
theorem kX12_groups : zTk mX12_groups yX12_groups 2 := ⟨gS7 224 rfl rfl, gS1 13 rfl rfl, xq_RX12, xq_d21, rfl, rfl⟩
set_option maxRecDepth 20000 in
theorem vX12_groups : zTv yX12_groups := ⟨gS7 222 rfl rfl, gS7 223 rfl rfl⟩
abbrev mX12_dark : Mt := (cX12_dark, 3, (some .int), RX12, ({ frames := 8, cells := 0, slots := 0, locals := 205 } : Room))
set_option maxRecDepth 20000 in
theorem kX12_dark : zTk mX12_dark yX12_dark 2 := ⟨gS8 0 rfl rfl, gS1 13 rfl rfl, xq_RX12, xq_d21, rfl, rfl⟩
set_option maxRecDepth 20000 in
theorem vX12_dark : zTv yX12_dark := ⟨gS7 238 rfl rfl, gS7 239 rfl rfl⟩
abbrev mX12_middle : Mt := (cX12_middle, 4, (some .int), RX12, ({ frames := 8, cells := 0, slots := 0, locals := 205 } : Room))
set_option maxRecDepth 20000 in
theorem kX12_middle : zTk mX12_middle yX12_middle 3 := ⟨gS8 4 rfl rfl, gS1 13 rfl rfl, xq_RX12, xq_d24, rfl, rfl⟩
set_option maxRecDepth 20000 in
theorem vX12_middle : zTv yX12_middle := ⟨gS8 2 rfl rfl, gS8 3 rfl rfl⟩
abbrev mX12_isAlongEdges : Mt := (cX12_isAlongEdges, 1, (some .boolean), RX12, ({ frames := 1, cells := 0, slots := 0, locals := 22 } : Room))
set_option maxRecDepth 20000 in
theorem kX12_isAlongEdges : zTk mX12_isAlongEdges yX12_isAlongEdges 0 := ⟨gS8 12 rfl rfl, gS1 13 rfl rfl, xq_RX12, xq_d40, rfl, rfl⟩
set_option maxRecDepth 20000 in
theorem vX12_isAlongEdges : zTv yX12_isAlongEdges := ⟨gS8 11 rfl rfl, gT_pv 97 (by decide +kernel) rfl⟩
abbrev mX12_way : Mt := (cX12_way, 3, (some .int), RX12, ({ frames := 8, cells := 0, slots := 0, locals := 205 } : Room))
set_option maxRecDepth 20000 in
theorem kX12_way : zTk mX12_way yX12_way 2 := ⟨gS8 8 rfl rfl, gS1 13 rfl rfl, xq_RX12, xq_d21, rfl, rfl⟩
set_option maxRecDepth 20000 in
theorem vX12_way : zTv yX12_way := ⟨gS8 6 rfl rfl, gS8 7 rfl rfl⟩
abbrev mX12_ways : Mt := (cX12_ways, 5, (some .int), RX12, ({ frames := 8, cells := 0, slots := 0, locals := 205 } : Room))
set_option maxRecDepth 20000 in
theorem kX12_ways : zTk mX12_ways yX12_ways 1 := ⟨gS8 16 rfl rfl, gS1 13 rfl rfl, xq_RX12, xq_d31, rfl, rfl⟩
set_option maxRecDepth 20000 in
theorem vX12_ways : zTv yX12_ways := ⟨gS8 14 rfl rfl, gS8 15 rfl rfl⟩
abbrev mX12_white : Mt := (cX12_white, 3, (some .int), RX12, ({ frames := 8, cells := 0, slots := 0, locals := 205 } : Room))
set_option maxRecDepth 20000 in
theorem kX12_white : zTk mX12_white yX12_white 2 := ⟨gS8 20 rfl rfl, gS1 13 rfl rfl, xq_RX12, xq_d21, rfl, rfl⟩
set_option maxRecDepth 20000 in
theorem vX12_white : zTv yX12_white := ⟨gS8 18 rfl rfl, gS8 19 rfl rfl⟩
abbrev mX12_base : Mt := (cX12_base, 4, (some .int), RX12, ({ frames := 8, cells := 0, slots := 0, locals := 205 } : Room))
set_option maxRecDepth 20000 in
theorem kX12_base : zTk mX12_base yX12_base 3 := ⟨gS8 24 rfl rfl, gS1 13 rfl rfl, xq_RX12, xq_d24, rfl, rfl⟩
set_option maxRecDepth 20000 in
theorem vX12_base : zTv yX12_base := ⟨gS8 22 rfl rfl, gS8 23 rfl rfl⟩
abbrev mX12_tone : Mt := (cX12_tone, 5, (some .int), RX12, ({ frames := 8, cells := 0, slots := 0, locals := 205 } : Room))
set_option maxRecDepth 20000 in
theorem kX12_tone : zTk mX12_tone yX12_tone 4 := ⟨gS8 28 rfl rfl, gS1 13 rfl rfl, xq_RX12, xq_d47, rfl, rfl⟩
set_option maxRecDepth 20000 in
theorem vX12_tone : zTv yX12_tone := ⟨gS8 26 rfl rfl, gS8 27 rfl rfl⟩
abbrev mX12_lists : Mt := (cX12_lists, 5, none, RX12, ({ frames := 2, cells := 0, slots := 0, locals := 45 } : Room))
set_option maxRecDepth 20000 in
theorem kX12_lists : zTk mX12_lists yX12_lists 2 := ⟨gS8 40 rfl rfl, gS1 13 rfl rfl, xq_RX12, xq_d6, rfl, rfl⟩
set_option maxRecDepth 20000 in
theorem vX12_lists : zTv yX12_lists := ⟨gS8 39 rfl rfl, gT_pv 99 (by decide +kernel) rfl⟩
abbrev mX12_isLeftOf : Mt := (cX12_isLeftOf, 3, (some .boolean), RX12, ({ frames := 2, cells := 0, slots := 0, locals := 43 } : Room))
set_option maxRecDepth 20000 in
theorem kX12_isLeftOf : zTk mX12_isLeftOf yX12_isLeftOf 2 := ⟨gS8 36 rfl rfl, gS1 13 rfl rfl, xq_RX12, xq_d37, rfl, rfl⟩
set_option maxRecDepth 20000 in
theorem vX12_isLeftOf : zTv yX12_isLeftOf := ⟨gS8 35 rfl rfl, gT_pv 98 (by decide +kernel) rfl⟩
abbrev mX12_within : Mt := (cX12_within, 5, (some .int), RX12, ({ frames := 1, cells := 0, slots := 0, locals := 22 } : Room))
set_option maxRecDepth 20000 in
theorem kX12_within : zTk mX12_within yX12_within 2 := ⟨gS8 44 rfl rfl, gS1 13 rfl rfl, xq_RX12, xq_d21, rfl, rfl⟩
set_option maxRecDepth 20000 in
theorem vX12_within : zTv yX12_within := ⟨gS8 43 rfl rfl, gT_pv 100 (by decide +kernel) rfl⟩
abbrev mX12_unlikeOnes : Mt := (cX12_unlikeOnes, 5, (some .int), RX12, ({ frames := 0, cells := 0, slots := 0, locals := 0 } : Room))
set_option maxRecDepth 20000 in
theorem kX12_unlikeOnes : zTk mX12_unlikeOnes yX12_unlikeOnes 0 := ⟨gS8 48 rfl rfl, gS1 13 rfl rfl, xq_RX12, xq_d2, rfl, rfl⟩
set_option maxRecDepth 20000 in
theorem vX12_unlikeOnes : zTv yX12_unlikeOnes := ⟨gS8 47 rfl rfl, gT_pv 101 (by decide +kernel) rfl⟩
abbrev mX12_levels : Mt := (cX12_levels, 8, (some .int), RX12, ({ frames := 8, cells := 0, slots := 0, locals := 205 } : Room))
set_option maxRecDepth 20000 in
theorem kX12_levels : zTk mX12_levels yX12_levels 3 := ⟨gS8 32 rfl rfl, gS1 13 rfl rfl, xq_RX12, xq_d24, rfl, rfl⟩
set_option maxRecDepth 20000 in
theorem vX12_levels : zTv yX12_levels := ⟨gS8 30 rfl rfl, gS8 31 rfl rfl⟩
abbrev mX12_noiseOf : Mt := (cX12_noiseOf, 12, (some .int), RX12, ({ frames := 3, cells := 0, slots := 0, locals := 72 } : Room))
set_option maxRecDepth 20000 in
theorem kX12_noiseOf : zTk mX12_noiseOf yX12_noiseOf 4 := ⟨gS8 56 rfl rfl, gS1 13 rfl rfl, xq_RX12, xq_d47, rfl, rfl⟩
set_option maxRecDepth 20000 in
theorem vX12_noiseOf : zTv yX12_noiseOf := ⟨gS8 55 rfl rfl, gT_pv 102 (by decide +kernel) rfl⟩
abbrev mX12_noise : Mt := (cX12_noise, 5, (some .int), RX12, ({ frames := 8, cells := 0, slots := 0, locals := 205 } : Room))
set_option maxRecDepth 20000 in
theorem kX12_noise : zTk mX12_noise yX12_noise 4 := ⟨gS8 52 rfl rfl, gS1 13 rfl rfl, xq_RX12, xq_d47, rfl, rfl⟩
set_option maxRecDepth 20000 in
theorem vX12_noise : zTv yX12_noise := ⟨gS8 50 rfl rfl, gS8 51 rfl rfl⟩
abbrev mX12_percent : Mt := (cX12_percent, 5, (some .int), RX12, ({ frames := 8, cells := 0, slots := 0, locals := 205 } : Room))
set_option maxRecDepth 20000 in
theorem kX12_percent : zTk mX12_percent yX12_percent 3 := ⟨gS8 60 rfl rfl, gS1 13 rfl rfl, xq_RX12, xq_d24, rfl, rfl⟩
set_option maxRecDepth 20000 in
theorem vX12_percent : zTv yX12_percent := ⟨gS8 58 rfl rfl, gS8 59 rfl rfl⟩
abbrev mX12_binaryDigits : Mt := (cX12_binaryDigits, 3, (some .int), RX12, ({ frames := 0, cells := 0, slots := 0, locals := 0 } : Room))
set_option maxRecDepth 20000 in
theorem kX12_binaryDigits : zTk mX12_binaryDigits yX12_binaryDigits 1 := ⟨gS8 67 rfl rfl, gS1 13 rfl rfl, xq_RX12, xq_d31, rfl, rfl⟩
set_option maxRecDepth 20000 in
theorem vX12_binaryDigits : Cond.static yX12_binaryDigits ∈ gT := gS8 66 rfl rfl
abbrev mX12_bits : Mt := (cX12_bits, 6, (some .int), RX12, ({ frames := 8, cells := 0, slots := 0, locals := 205 } : Room))
set_option maxRecDepth 20000 in
theorem kX12_bits : zTk mX12_bits yX12_bits 2 := ⟨gS8 64 rfl rfl, gS1 13 rfl rfl, xq_RX12, xq_d21, rfl, rfl⟩
set_option maxRecDepth 20000 in
theorem vX12_bits : zTv yX12_bits := ⟨gS8 62 rfl rfl, gS8 63 rfl rfl⟩
abbrev mX12_ringOf : Mt := (cX12_ringOf, 5, (some .int), RX12, ({ frames := 0, cells := 0, slots := 0, locals := 0 } : Room))
set_option maxRecDepth 20000 in
theorem kX12_ringOf : zTk mX12_ringOf yX12_ringOf 2 := ⟨gS8 75 rfl rfl, gS1 13 rfl rfl, xq_RX12, xq_d21, rfl, rfl⟩
set_option maxRecDepth 20000 in
theorem vX12_ringOf : zTv yX12_ringOf := ⟨gS8 74 rfl rfl, gT_pv 103 (by decide +kernel) rfl⟩
abbrev mX12_ring : Mt := (cX12_ring, 9, (some .int), RX12, ({ frames := 8, cells := 0, slots := 0, locals := 205 } : Room))
set_option maxRecDepth 20000 in
theorem kX12_ring : zTk mX12_ring yX12_ring 4 := ⟨gS8 71 rfl rfl, gS1 13 rfl rfl, xq_RX12, xq_d47, rfl, rfl⟩
set_option maxRecDepth 20000 in
theorem vX12_ring : zTv yX12_ring := ⟨gS8 69 rfl rfl, gS8 70 rfl rfl⟩
abbrev mX12_edges : Mt := (cX12_edges, 6, (some .int), RX12, ({ frames := 8, cells := 0, slots := 0, locals := 205 } : Room))
set_option maxRecDepth 20000 in
theorem kX12_edges : zTk mX12_edges yX12_edges 2 := ⟨gS8 79 rfl rfl, gS1 13 rfl rfl, xq_RX12, xq_d21, rfl, rfl⟩
set_option maxRecDepth 20000 in
theorem vX12_edges : zTv yX12_edges := ⟨gS8 77 rfl rfl, gS8 78 rfl rfl⟩
abbrev mX12_errorOf : Mt := (cX12_errorOf, 14, (some .long), RX12, ({ frames := 2, cells := 0, slots := 0, locals := 45 } : Room))
set_option maxRecDepth 20000 in
theorem kX12_errorOf : zTk mX12_errorOf yX12_errorOf 3 := ⟨gS8 90 rfl rfl, gS1 13 rfl rfl, xq_RX12, xq_d48, rfl, rfl⟩
set_option maxRecDepth 20000 in
theorem vX12_errorOf : zTv yX12_errorOf := ⟨gS8 89 rfl rfl, gT_pv 104 (by decide +kernel) rfl⟩
abbrev mX12_error : Mt := (cX12_error, 4, (some .long), RX12, ({ frames := 8, cells := 0, slots := 0, locals := 205 } : Room))
set_option maxRecDepth 20000 in
theorem kX12_error : zTk mX12_error yX12_error 3 := ⟨gS8 83 rfl rfl, gS1 13 rfl rfl, xq_RX12, xq_d48, rfl, rfl⟩
set_option maxRecDepth 20000 in
theorem vX12_error : zTv yX12_error := ⟨gS8 81 rfl rfl, gS8 82 rfl rfl⟩
abbrev mX12_falseOf : Mt := (cX12_falseOf, 6, (some .int), RX12, ({ frames := 3, cells := 0, slots := 0, locals := 68 } : Room))
set_option maxRecDepth 20000 in
theorem kX12_falseOf : zTk mX12_falseOf yX12_falseOf 2 := ⟨gS8 98 rfl rfl, gS1 13 rfl rfl, xq_RX12, xq_d21, rfl, rfl⟩
set_option maxRecDepth 20000 in
theorem vX12_falseOf : zTv yX12_falseOf := ⟨gS8 97 rfl rfl, gT_pv 105 (by decide +kernel) rfl⟩
abbrev mX12_falseOnes : Mt := (cX12_falseOnes, 3, (some .int), RX12, ({ frames := 8, cells := 0, slots := 0, locals := 205 } : Room))
set_option maxRecDepth 20000 in
theorem kX12_falseOnes : zTk mX12_falseOnes yX12_falseOnes 2 := ⟨gS8 94 rfl rfl, gS1 13 rfl rfl, xq_RX12, xq_d21, rfl, rfl⟩
set_option maxRecDepth 20000 in
theorem vX12_falseOnes : zTv yX12_falseOnes := ⟨gS8 92 rfl rfl, gS8 93 rfl rfl⟩
abbrev mX12_places : Mt := (cX12_places, 7, (some .int), RX12, ({ frames := 8, cells := 0, slots := 0, locals := 205 } : Room))
set_option maxRecDepth 20000 in
theorem kX12_places : zTk mX12_places yX12_places 4 := ⟨gS8 102 rfl rfl, gS1 13 rfl rfl, xq_RX12, xq_d47, rfl, rfl⟩
set_option maxRecDepth 20000 in
theorem vX12_places : zTv yX12_places := ⟨gS8 100 rfl rfl, gS8 101 rfl rfl⟩
abbrev mX12_unlikeOf : Mt := (cX12_unlikeOf, 11, (some .int), RX12, ({ frames := 2, cells := 0, slots := 0, locals := 45 } : Room))
theorem xq_d60 : (parseMethodDescriptor "(IIZI)I").map (fun d => d.parameters.length) = some 4 := by decide +kernel
set_option maxRecDepth 20000 in
theorem kX12_unlikeOf : zTk mX12_unlikeOf yX12_unlikeOf 4 := ⟨gS8 110 rfl rfl, gS1 13 rfl rfl, xq_RX12, xq_d60, rfl, rfl⟩
set_option maxRecDepth 20000 in
theorem vX12_unlikeOf : zTv yX12_unlikeOf := ⟨gS8 109 rfl rfl, gT_pv 106 (by decide +kernel) rfl⟩
abbrev mX12_unlike : Mt := (cX12_unlike, 4, (some .int), RX12, ({ frames := 8, cells := 0, slots := 0, locals := 205 } : Room))
set_option maxRecDepth 20000 in
theorem kX12_unlike : zTk mX12_unlike yX12_unlike 3 := ⟨gS8 106 rfl rfl, gS1 13 rfl rfl, xq_RX12, xq_d24, rfl, rfl⟩
set_option maxRecDepth 20000 in
theorem vX12_unlike : zTv yX12_unlike := ⟨gS8 104 rfl rfl, gS8 105 rfl rfl⟩
abbrev mX12_without : Mt := (cX12_without, 3, (some .int), RX12, ({ frames := 8, cells := 0, slots := 0, locals := 208 } : Room))
set_option maxRecDepth 20000 in
theorem kX12_without : zTk mX12_without yX12_without 2 := ⟨gS8 114 rfl rfl, gS1 13 rfl rfl, xq_RX12, xq_d21, rfl, rfl⟩
set_option maxRecDepth 20000 in
theorem vX12_without : zTv yX12_without := ⟨gS8 112 rfl rfl, gS8 113 rfl rfl⟩
abbrev mX12_isTunable : Mt := (cX12_isTunable, 1, (some .boolean), RX12, ({ frames := 0, cells := 0, slots := 0, locals := 0 } : Room))
set_option maxRecDepth 20000 in
theorem kX12_isTunable : zTk mX12_isTunable yX12_isTunable 1 := ⟨gS8 125 rfl rfl, gS1 13 rfl rfl, xq_RX12, xq_d42, rfl, rfl⟩
set_option maxRecDepth 20000 in
theorem vX12_isTunable : Cond.static yX12_isTunable ∈ gT := gS8 124 rfl rfl
abbrev mX12_badness : Mt := (cX12_badness, 6, (some .long), RX12, ({ frames := 4, cells := 0, slots := 0, locals := 103 } : Room))
theorem xq_d61 : (parseMethodDescriptor "(II)J").map (fun d => d.parameters.length) = some 2 := by decide +kernel
set_option maxRecDepth 20000 in
theorem kX12_badness : zTk mX12_badness yX12_badness 2 := ⟨gS8 130 rfl rfl, gS1 13 rfl rfl, xq_RX12, xq_d61, rfl, rfl⟩
set_option maxRecDepth 20000 in
theorem vX12_badness : zTv yX12_badness := ⟨gS8 129 rfl rfl, gT_pv 108 (by decide +kernel) rfl⟩
abbrev mX12_best : Mt := (cX12_best, 9, (some .int), RX12, ({ frames := 8, cells := 0, slots := 0, locals := 208 } : Room))
set_option maxRecDepth 20000 in
theorem kX12_best : zTk mX12_best yX12_best 2 := ⟨gS8 122 rfl rfl, gS1 13 rfl rfl, xq_RX12, xq_d21, rfl, rfl⟩
set_option maxRecDepth 20000 in
theorem vX12_best : zTv yX12_best := ⟨gS8 120 rfl rfl, gS8 121 rfl rfl⟩
abbrev mX12_seed : Mt := (cX12_seed, 2, (some .boolean), RX12, ({ frames := 1, cells := 0, slots := 0, locals := 22 } : Room))
set_option maxRecDepth 20000 in
theorem kX12_seed : zTk mX12_seed yX12_seed 1 := ⟨gS8 134 rfl rfl, gS1 13 rfl rfl, xq_RX12, xq_d42, rfl, rfl⟩
set_option maxRecDepth 20000 in
theorem vX12_seed : zTv yX12_seed := ⟨gS8 132 rfl rfl, gS8 133 rfl rfl⟩
abbrev mX12_keep : Mt := (cX12_keep, 1, (some .int), RX12, ({ frames := 1, cells := 0, slots := 0, locals := 22 } : Room))
set_option maxRecDepth 20000 in
theorem kX12_keep : zTk mX12_keep yX12_keep 0 := ⟨gS8 139 rfl rfl, gS1 13 rfl rfl, xq_RX12, xq_d2, rfl, rfl⟩
set_option maxRecDepth 20000 in
theorem vX12_keep : zTv yX12_keep := ⟨gS8 137 rfl rfl, gS8 138 rfl rfl⟩
abbrev mX12_undo : Mt := (cX12_undo, 1, (some .boolean), RX12, ({ frames := 1, cells := 0, slots := 0, locals := 22 } : Room))
set_option maxRecDepth 20000 in
theorem kX12_undo : zTk mX12_undo yX12_undo 0 := ⟨gS8 146 rfl rfl, gS1 13 rfl rfl, xq_RX12, xq_d40, rfl, rfl⟩
set_option maxRecDepth 20000 in
theorem vX12_undo : zTv yX12_undo := ⟨gS8 144 rfl rfl, gS8 145 rfl rfl⟩
abbrev mX12_check : Mt := (cX12_check, 4, (some .int), RX12, ({ frames := 1, cells := 0, slots := 0, locals := 22 } : Room))
set_option maxRecDepth 20000 in
theorem kX12_check : zTk mX12_check yX12_check 1 := ⟨gS8 150 rfl rfl, gS1 13 rfl rfl, xq_RX12, xq_d31, rfl, rfl⟩
set_option maxRecDepth 20000 in
theorem vX12_check : zTv yX12_check := ⟨gS8 148 rfl rfl, gS8 149 rfl rfl⟩
abbrev mX12_count : Mt := (cX12_count, 2, (some .int), RX12, ({ frames := 1, cells := 0, slots := 0, locals := 21 } : Room))
set_option maxRecDepth 20000 in
theorem kX12_count : zTk mX12_count yX12_count 1 := ⟨gS8 154 rfl rfl, gS1 13 rfl rfl, xq_RX12, xq_d31, rfl, rfl⟩
set_option maxRecDepth 20000 in
theorem vX12_count : zTv yX12_count := ⟨gS8 152 rfl rfl, gS8 153 rfl rfl⟩
abbrev mJ13_bitCount_95d88 : Mt := (cJ13_bitCount_95d88, 2, (some .int), RJ13, ({ frames := 0, cells := 0, slots := 0, locals := 0 } : Room))
theorem xq_RJ13 : RJ13 ≠ "java/lang/invoke/MethodHandle" ∧ RJ13 ≠ "java/lang/invoke/VarHandle" := ⟨by decide +kernel, by decide +kernel⟩
theorem xq_d63 : (parseMethodDescriptor "(J)I").map (fun d => d.parameters.length) = some 1 := by decide +kernel
set_option maxRecDepth 20000 in
theorem kJ13_bitCount_95d88 : zTk mJ13_bitCount_95d88 yJ13_bitCount_95d88 1 := ⟨gS5 56 rfl rfl, gS1 22 rfl rfl, xq_RJ13, xq_d63, rfl, rfl⟩
set_option maxRecDepth 20000 in
theorem vJ13_bitCount_95d88 : Cond.static yJ13_bitCount_95d88 ∈ gT := gS5 55 rfl rfl
abbrev mJ0_length_8abf5 : Mt := (cJ0_length_8abf5, 1, (some .int), RJ0, ({ frames := 1, cells := 0, slots := 0, locals := 20 } : Room))
theorem xq_RJ0 : RJ0 ≠ "java/lang/invoke/MethodHandle" ∧ RJ0 ≠ "java/lang/invoke/VarHandle" := ⟨by decide +kernel, by decide +kernel⟩
set_option maxRecDepth 20000 in
theorem kJ0_length_8abf5 : zTk mJ0_length_8abf5 yJ0_length_8abf5 0 := ⟨gS2 193 rfl rfl, gS1 14 rfl rfl, xq_RJ0, xq_d2, rfl, rfl⟩
set_option maxRecDepth 20000 in
theorem vJ0_length_8abf5 : zTv yJ0_length_8abf5 := ⟨gS2 191 rfl rfl, gS2 192 rfl rfl⟩
abbrev mJ0_indexOf_0f7a4 : Mt := (cJ0_indexOf_0f7a4, 2, (some .int), RJ0, ({ frames := 6, cells := 0, slots := 0, locals := 138 } : Room))
set_option maxRecDepth 20000 in
theorem kJ0_indexOf_0f7a4 : zTk mJ0_indexOf_0f7a4 yJ0_indexOf_0f7a4 1 := ⟨gS2 179 rfl rfl, gS1 14 rfl rfl, xq_RJ0, xq_d31, rfl, rfl⟩
set_option maxRecDepth 20000 in
theorem vJ0_indexOf_0f7a4 : zTv yJ0_indexOf_0f7a4 := ⟨gS2 177 rfl rfl, gS2 178 rfl rfl⟩
abbrev mJ0_indexOf_7cf53 : Mt := (cJ0_indexOf_7cf53, 3, (some .int), RJ0, ({ frames := 5, cells := 0, slots := 0, locals := 116 } : Room))
set_option maxRecDepth 20000 in
theorem kJ0_indexOf_7cf53 : zTk mJ0_indexOf_7cf53 yJ0_indexOf_7cf53 2 := ⟨gS2 183 rfl rfl, gS1 14 rfl rfl, xq_RJ0, xq_d21, rfl, rfl⟩
set_option maxRecDepth 20000 in
theorem vJ0_indexOf_7cf53 : zTv yJ0_indexOf_7cf53 := ⟨gS2 181 rfl rfl, gS2 182 rfl rfl⟩
abbrev mJ0_coder_7d493 : Mt := (cJ0_coder_7d493, 1, (some .byte), RJ0, ({ frames := 0, cells := 0, slots := 0, locals := 0 } : Room))
theorem xq_d65 : (parseMethodDescriptor "()B").map (fun d => d.parameters.length) = some 0 := by decide +kernel
set_option maxRecDepth 20000 in
theorem kJ0_coder_7d493 : zTk mJ0_coder_7d493 yJ0_coder_7d493 0 := ⟨gS2 197 rfl rfl, gS1 14 rfl rfl, xq_RJ0, xq_d65, rfl, rfl⟩
set_option maxRecDepth 20000 in
theorem vJ0_coder_7d493 : zTv yJ0_coder_7d493 := ⟨gS2 195 rfl rfl, gS2 196 rfl rfl⟩
abbrev mJ0_isLatin1_aae02 : Mt := (cJ0_isLatin1_aae02, 1, (some .boolean), RJ0, ({ frames := 0, cells := 0, slots := 0, locals := 0 } : Room))
set_option maxRecDepth 20000 in
theorem kJ0_isLatin1_aae02 : zTk mJ0_isLatin1_aae02 yJ0_isLatin1_aae02 0 := ⟨gS2 187 rfl rfl, gS1 14 rfl rfl, xq_RJ0, xq_d40, rfl, rfl⟩
set_option maxRecDepth 20000 in
theorem vJ0_isLatin1_aae02 : zTv yJ0_isLatin1_aae02 := ⟨gS2 185 rfl rfl, gS2 186 rfl rfl⟩
abbrev mJ1_canEncode_9a6ad : Mt := (cJ1_canEncode_9a6ad, 1, (some .boolean), RJ1, ({ frames := 0, cells := 0, slots := 0, locals := 0 } : Room))
theorem xq_RJ1 : RJ1 ≠ "java/lang/invoke/MethodHandle" ∧ RJ1 ≠ "java/lang/invoke/VarHandle" := ⟨by decide +kernel, by decide +kernel⟩
set_option maxRecDepth 20000 in
theorem kJ1_canEncode_9a6ad : zTk mJ1_canEncode_9a6ad yJ1_canEncode_9a6ad 1 := ⟨gS2 203 rfl rfl, gS1 15 rfl rfl, xq_RJ1, xq_d42, rfl, rfl⟩
set_option maxRecDepth 20000 in
theorem vJ1_canEncode_9a6ad : Cond.static yJ1_canEncode_9a6ad ∈ gT := gS2 202 rfl rfl
abbrev mJ1_indexOf_4cfef : Mt := (cJ1_indexOf_4cfef, 4, (some .int), RJ1, ({ frames := 1, cells := 0, slots := 0, locals := 25 } : Room))
theorem xq_d66 : (parseMethodDescriptor "([BIII)I").map (fun d => d.parameters.length) = some 4 := by decide +kernel
set_option maxRecDepth 20000 in
theorem kJ1_indexOf_4cfef : zTk mJ1_indexOf_4cfef yJ1_indexOf_4cfef 4 := ⟨gS2 200 rfl rfl, gS1 15 rfl rfl, xq_RJ1, xq_d66, rfl, rfl⟩
set_option maxRecDepth 20000 in
theorem vJ1_indexOf_4cfef : Cond.static yJ1_indexOf_4cfef ∈ gT := gS2 199 rfl rfl
abbrev mJ1_indexOfChar_4cfef : Mt := (cJ1_indexOfChar_4cfef, 6, (some .int), RJ1, ({ frames := 0, cells := 0, slots := 0, locals := 0 } : Room))
set_option maxRecDepth 20000 in
theorem kJ1_indexOfChar_4cfef : zTk mJ1_indexOfChar_4cfef yJ1_indexOfChar_4cfef 4 := ⟨gS2 212 rfl rfl, gS1 15 rfl rfl, xq_RJ1, xq_d66, rfl, rfl⟩
set_option maxRecDepth 20000 in
theorem vJ1_indexOfChar_4cfef : Cond.static yJ1_indexOfChar_4cfef ∈ gT := gS2 211 rfl rfl
abbrev mJ7_fill_d0a16 : Mt := (cJ7_fill_d0a16, 5, none, RJ7, ({ frames := 0, cells := 0, slots := 0, locals := 0 } : Room))
theorem xq_RJ7 : RJ7 ≠ "java/lang/invoke/MethodHandle" ∧ RJ7 ≠ "java/lang/invoke/VarHandle" := ⟨by decide +kernel, by decide +kernel⟩
theorem xq_d70 : (parseMethodDescriptor "([JJ)V").map (fun d => d.parameters.length) = some 2 := by decide +kernel
set_option maxRecDepth 20000 in
theorem kJ7_fill_d0a16 : zTk mJ7_fill_d0a16 yJ7_fill_d0a16 2 := ⟨gS5 52 rfl rfl, gS1 21 rfl rfl, xq_RJ7, xq_d70, rfl, rfl⟩
set_option maxRecDepth 20000 in
theorem vJ7_fill_d0a16 : Cond.static yJ7_fill_d0a16 ∈ gT := gS5 51 rfl rfl
abbrev mJ7_fill_53178 : Mt := (cJ7_fill_53178, 4, none, RJ7, ({ frames := 0, cells := 0, slots := 0, locals := 0 } : Room))
set_option maxRecDepth 20000 in
theorem kJ7_fill_53178 : zTk mJ7_fill_53178 yJ7_fill_53178 2 := ⟨gS3 94 rfl rfl, gS1 21 rfl rfl, xq_RJ7, xq_d17, rfl, rfl⟩
set_option maxRecDepth 20000 in
theorem vJ7_fill_53178 : Cond.static yJ7_fill_53178 ∈ gT := gS3 93 rfl rfl
set_option maxRecDepth 20000 in
theorem lk_X11_91 : zLk RX11 91 yX9_append := Or.inl (gS2 143 rfl rfl)
set_option maxRecDepth 20000 in
theorem lk_X11_95 : zLk RX11 95 yX6_read := Or.inl (gS2 151 rfl rfl)
set_option maxRecDepth 20000 in
theorem lk_X11_99 : zLk RX11 99 yX9_empty := Or.inl (gS3 62 rfl rfl)
set_option maxRecDepth 20000 in
theorem lk_X11_105 : zLk RX11 105 yX7_copyFrom := Or.inl (gS3 66 rfl rfl)
set_option maxRecDepth 20000 in
theorem lk_X11_109 : zLk RX11 109 yX1_forget := Or.inl (gS3 73 rfl rfl)
set_option maxRecDepth 20000 in
theorem lk_X11_112 : zLk RX11 112 yX11_isSide := Or.inl (gS3 82 rfl rfl)
set_option maxRecDepth 20000 in
theorem lk_X11_116 : zLk RX11 116 yX11_isWithin := Or.inl (gS3 85 rfl rfl)
set_option maxRecDepth 20000 in
theorem lk_X11_120 : zLk RX11 120 yX5_begin := Or.inl (gS3 88 rfl rfl)
set_option maxRecDepth 20000 in
theorem lk_X11_124 : zLk RX11 124 yX11_rawChanged := Or.inl (gS3 99 rfl rfl)
set_option maxRecDepth 20000 in
theorem lk_X11_137 : zLk RX11 137 yX9_byteAt := Or.inl (gS3 107 rfl rfl)
set_option maxRecDepth 20000 in
theorem lk_X11_140 : zLk RX11 140 yX5_has := Or.inl (gS3 112 rfl rfl)
set_option maxRecDepth 20000 in
theorem lk_X11_146 : zLk RX11 146 yX5_sumOf := Or.inl (gS3 120 rfl rfl)
set_option maxRecDepth 20000 in
theorem lk_X11_150 : zLk RX11 150 yX11_drawn := Or.inl (gS3 128 rfl rfl)
set_option maxRecDepth 20000 in
theorem lk_X11_154 : zLk RX11 154 yX5_laid := Or.inl (gS3 133 rfl rfl)
set_option maxRecDepth 20000 in
theorem lk_X11_158 : zLk RX11 158 yX5_wake := Or.inl (gS3 141 rfl rfl)
set_option maxRecDepth 20000 in
theorem lk_X11_161 : zLk RX11 161 yX10_lay := Or.inl (gS3 146 rfl rfl)
set_option maxRecDepth 20000 in
theorem lk_X11_166 : zLk RX11 166 yX5_colourOf := Or.inl (gS3 155 rfl rfl)
set_option maxRecDepth 20000 in
theorem lk_X11_175 : zLk RX11 175 yX5_squaresOf := Or.inl (gS3 160 rfl rfl)
set_option maxRecDepth 20000 in
theorem lk_X11_178 : zLk RX11 178 yX7_has := Or.inl (gS3 172 rfl rfl)
set_option maxRecDepth 20000 in
theorem lk_X11_180 : zLk RX11 180 yX7_letterOf := Or.inl (gS3 176 rfl rfl)
set_option maxRecDepth 20000 in
theorem lk_X11_183 : zLk RX11 183 yX7_numbersOf := Or.inl (gS3 181 rfl rfl)
set_option maxRecDepth 20000 in
theorem lk_X11_186 : zLk RX11 186 yX7_numberOf := Or.inl (gS3 185 rfl rfl)
set_option maxRecDepth 20000 in
theorem lk_X11_189 : zLk RX11 189 yX7_leaves := Or.inl (gS3 193 rfl rfl)
set_option maxRecDepth 20000 in
theorem lk_X11_192 : zLk RX11 192 yX1_sheetOf := Or.inl (gS3 197 rfl rfl)
set_option maxRecDepth 20000 in
theorem lk_X11_196 : zLk RX11 196 yX8_tells := Or.inl (gS4 152 rfl rfl)
set_option maxRecDepth 20000 in
theorem lk_X11_202 : zLk RX11 202 yX8_levelAt := Or.inl (gS4 157 rfl rfl)
set_option maxRecDepth 20000 in
theorem lk_X11_205 : zLk RX11 205 yX11_markFound := Or.inl (gS4 165 rfl rfl)
set_option maxRecDepth 20000 in
theorem lk_X11_208 : zLk RX11 208 yX0_firstMarked := Or.inl (gS4 175 rfl rfl)
set_option maxRecDepth 20000 in
theorem lk_X11_212 : zLk RX11 212 yX0_lastMarked := Or.inl (gS4 179 rfl rfl)
set_option maxRecDepth 20000 in
theorem lk_X11_215 : zLk RX11 215 yX0_marked := Or.inl (gS4 183 rfl rfl)
set_option maxRecDepth 20000 in
theorem lk_X11_218 : zLk RX11 218 yX0_markedAnd := Or.inl (gS4 188 rfl rfl)
set_option maxRecDepth 20000 in
theorem lk_X11_221 : zLk RX11 221 yX0_gather := Or.inl (gS4 196 rfl rfl)
set_option maxRecDepth 20000 in
theorem lk_X11_235 : zLk RX11 235 yX2_darkOf := Or.inl (gS4 213 rfl rfl)
set_option maxRecDepth 20000 in
theorem lk_X11_241 : zLk RX11 241 yX2_middleOf := Or.inl (gS4 218 rfl rfl)
set_option maxRecDepth 20000 in
theorem lk_X11_244 : zLk RX11 244 yX7_fillsAlongEdges := Or.inl (gS4 223 rfl rfl)
set_option maxRecDepth 20000 in
theorem lk_X11_251 : zLk RX11 251 yX2_wayOf := Or.inl (gS4 228 rfl rfl)
set_option maxRecDepth 20000 in
theorem lk_X11_258 : zLk RX11 258 yX3_findWhite := Or.inl (gS4 237 rfl rfl)
set_option maxRecDepth 20000 in
theorem lk_X11_273 : zLk RX11 273 yX3_findBases := Or.inl (gS5 2 rfl rfl)
set_option maxRecDepth 20000 in
theorem lk_X11_279 : zLk RX11 279 yX3_buildFloors := Or.inl (gS5 7 rfl rfl)
set_option maxRecDepth 20000 in
theorem lk_X11_283 : zLk RX11 283 yX3_toneOf := Or.inl (gS5 8 rfl rfl)
set_option maxRecDepth 20000 in
theorem lk_X11_286 : zLk RX11 286 yX3_floorOf := Or.inl (gS5 9 rfl rfl)
set_option maxRecDepth 20000 in
theorem lk_X11_290 : zLk RX11 290 yX11_isLeftOf := Or.inl (gS5 14 rfl rfl)
set_option maxRecDepth 20000 in
theorem lk_X11_293 : zLk RX11 293 yX4_gather := Or.inl (gS5 18 rfl rfl)
set_option maxRecDepth 20000 in
theorem lk_X11_295 : zLk RX11 295 yX4_least := Or.inl (gS5 32 rfl rfl)
set_option maxRecDepth 20000 in
theorem lk_X11_298 : zLk RX11 298 yX4_greatest := Or.inl (gS5 37 rfl rfl)
set_option maxRecDepth 20000 in
theorem lk_X11_301 : zLk RX11 301 yX4_together := Or.inl (gS5 42 rfl rfl)
set_option maxRecDepth 20000 in
theorem lk_X11_304 : zLk RX11 304 yX4_unlikeOnes := Or.inl (gS5 46 rfl rfl)
set_option maxRecDepth 20000 in
theorem lk_X11_307 : zLk RX11 307 yX4_between := Or.inl (gS5 60 rfl rfl)
set_option maxRecDepth 20000 in
theorem lk_X11_310 : zLk RX11 310 yX7_isBehindF := Or.inl (gS5 68 rfl rfl)
set_option maxRecDepth 20000 in
theorem lk_X11_313 : zLk RX11 313 yX4_findNoise := Or.inl (gS5 72 rfl rfl)
set_option maxRecDepth 20000 in
theorem lk_X11_326 : zLk RX11 326 yX4_percentile := Or.inl (gS5 82 rfl rfl)
set_option maxRecDepth 20000 in
theorem lk_X11_329 : zLk RX11 329 yX4_bitsOfAll := Or.inl (gS5 91 rfl rfl)
set_option maxRecDepth 20000 in
theorem lk_X11_332 : zLk RX11 332 yX4_gatherRing := Or.inl (gS5 103 rfl rfl)
set_option maxRecDepth 20000 in
theorem lk_X11_336 : zLk RX11 336 yX4_edgesOf := Or.inl (gS5 108 rfl rfl)
set_option maxRecDepth 20000 in
theorem lk_X11_346 : zLk RX11 346 yX4_findErrors := Or.inl (gS5 125 rfl rfl)
set_option maxRecDepth 20000 in
theorem lk_X11_360 : zLk RX11 360 yX4_falseOf := Or.inl (gS5 136 rfl rfl)
set_option maxRecDepth 20000 in
theorem lk_X11_363 : zLk RX11 363 yX0_markBright := Or.inl (gS5 146 rfl rfl)
set_option maxRecDepth 20000 in
theorem lk_X11_369 : zLk RX11 369 yX4_compare := Or.inl (gS5 156 rfl rfl)
set_option maxRecDepth 20000 in
theorem lk_X11_380 : zLk RX11 380 yX1_lastWith := Or.inl (gS5 164 rfl rfl)
set_option maxRecDepth 20000 in
theorem lk_X11_386 : zLk RX11 386 yJ0_indexOf_0f7a4 := Or.inl (gS5 174 rfl rfl)
set_option maxRecDepth 20000 in
theorem lk_X11_391 : zLk RX11 391 yX11_badness := Or.inl (gS5 175 rfl rfl)
set_option maxRecDepth 20000 in
theorem lk_X11_396 : zLk RX11 396 yX5_copyFrom := Or.inl (gS5 188 rfl rfl)
set_option maxRecDepth 20000 in
theorem lk_X11_399 : zLk RX11 399 yX2_isFound := Or.inl (gS4 169 rfl rfl)
set_option maxRecDepth 20000 in
theorem lk_X11_403 : zLk RX11 403 yX0_put := Or.inl (gS4 170 rfl rfl)
set_option maxRecDepth 20000 in
theorem lk_X11_415 : zLk RX11 415 yX11_mirrored := Or.inl (gS4 146 rfl rfl)
set_option maxRecDepth 20000 in
theorem lk_X0_25 : zLk RX0 25 yX5_has := Or.inl (gS4 174 rfl rfl)
set_option maxRecDepth 20000 in
theorem lk_X0_38 : zLk RX0 38 yX8_levelAt := Or.inl (gS5 150 rfl rfl)
set_option maxRecDepth 20000 in
theorem lk_X0_44 : zLk RX0 44 yX0_put := Or.inl (gS5 151 rfl rfl)
set_option maxRecDepth 20000 in
theorem lk_X0_48 : zLk RX0 48 yX5_sumOf := Or.inl (gS4 187 rfl rfl)
set_option maxRecDepth 20000 in
theorem lk_X0_67 : zLk RX0 67 yX0_take := Or.inl (gS4 201 rfl rfl)
set_option maxRecDepth 20000 in
theorem lk_X0_74 : zLk RX0 74 yX0_enqueue := Or.inl (gS4 205 rfl rfl)
set_option maxRecDepth 20000 in
theorem lk_X1_67 : zLk RX1 67 yX8_layRaw := Or.inl (gS3 203 rfl rfl)
set_option maxRecDepth 20000 in
theorem lk_X1_70 : zLk RX1 70 yX7_numberOf := Or.inl (gS3 207 rfl rfl)
set_option maxRecDepth 20000 in
theorem lk_X1_73 : zLk RX1 73 yX1_apply := Or.inl (gS3 208 rfl rfl)
set_option maxRecDepth 20000 in
theorem lk_X1_77 : zLk RX1 77 yX1_sheetOf := Or.inl (gS5 168 rfl rfl)
set_option maxRecDepth 20000 in
theorem lk_X1_85 : zLk RX1 85 yX7_letterOf := Or.inl (gS3 212 rfl rfl)
set_option maxRecDepth 20000 in
theorem lk_X1_89 : zLk RX1 89 yX2_takeBlack := Or.inl (gS3 213 rfl rfl)
set_option maxRecDepth 20000 in
theorem lk_X1_93 : zLk RX1 93 yX2_fillFound := Or.inl (gS3 222 rfl rfl)
set_option maxRecDepth 20000 in
theorem lk_X1_96 : zLk RX1 96 yX2_takeDark := Or.inl (gS4 2 rfl rfl)
set_option maxRecDepth 20000 in
theorem lk_X1_99 : zLk RX1 99 yX2_liftShade := Or.inl (gS4 10 rfl rfl)
set_option maxRecDepth 20000 in
theorem lk_X1_102 : zLk RX1 102 yX2_fillMosaic := Or.inl (gS4 14 rfl rfl)
set_option maxRecDepth 20000 in
theorem lk_X1_105 : zLk RX1 105 yX3_voteDown := Or.inl (gS4 35 rfl rfl)
set_option maxRecDepth 20000 in
theorem lk_X1_108 : zLk RX1 108 yX3_findWhite := Or.inl (gS4 50 rfl rfl)
set_option maxRecDepth 20000 in
theorem lk_X1_118 : zLk RX1 118 yX3_multiply := Or.inl (gS4 70 rfl rfl)
set_option maxRecDepth 20000 in
theorem lk_X1_122 : zLk RX1 122 yX3_stretch := Or.inl (gS4 78 rfl rfl)
set_option maxRecDepth 20000 in
theorem lk_X1_125 : zLk RX1 125 yX3_makePale := Or.inl (gS4 85 rfl rfl)
set_option maxRecDepth 20000 in
theorem lk_X1_128 : zLk RX1 128 yX3_bend := Or.inl (gS4 93 rfl rfl)
set_option maxRecDepth 20000 in
theorem lk_X1_132 : zLk RX1 132 yX3_evenBlocks := Or.inl (gS4 103 rfl rfl)
set_option maxRecDepth 20000 in
theorem lk_X1_136 : zLk RX1 136 yX3_setTones := Or.inl (gS4 119 rfl rfl)
set_option maxRecDepth 20000 in
theorem lk_X1_140 : zLk RX1 140 yX3_takeNoise := Or.inl (gS4 139 rfl rfl)
set_option maxRecDepth 20000 in
theorem lk_X1_143 : zLk RX1 143 yX3_sharpen := Or.inl (gS4 148 rfl rfl)
set_option maxRecDepth 20000 in
theorem lk_X2_34 : zLk RX2 34 yX2_darkOf := Or.inl (gS4 6 rfl rfl)
set_option maxRecDepth 20000 in
theorem lk_X2_53 : zLk RX2 53 yX2_middleOf := Or.inl (gS3 230 rfl rfl)
set_option maxRecDepth 20000 in
theorem lk_X2_59 : zLk RX2 59 yX2_isFound := Or.inl (gS3 226 rfl rfl)
set_option maxRecDepth 20000 in
theorem lk_X2_63 : zLk RX2 63 yX2_greenOf := Or.inl (gS4 18 rfl rfl)
set_option maxRecDepth 20000 in
theorem lk_X2_67 : zLk RX2 67 yX2_fillRedAndBlue := Or.inl (gS4 27 rfl rfl)
set_option maxRecDepth 20000 in
theorem lk_X2_71 : zLk RX2 71 yX5_colourOf := Or.inl (gS4 22 rfl rfl)
set_option maxRecDepth 20000 in
theorem lk_X2_74 : zLk RX2 74 yX2_wayOf := Or.inl (gS4 23 rfl rfl)
set_option maxRecDepth 20000 in
theorem lk_X2_77 : zLk RX2 77 yX2_aboveGreen := Or.inl (gS4 31 rfl rfl)
set_option maxRecDepth 20000 in
theorem lk_X3_38 : zLk RX3 38 yX3_voteColour := Or.inl (gS4 40 rfl rfl)
set_option maxRecDepth 20000 in
theorem lk_X3_51 : zLk RX3 51 yX3_medianAt := Or.inl (gS4 44 rfl rfl)
set_option maxRecDepth 20000 in
theorem lk_X3_66 : zLk RX3 66 yX3_isGrey := Or.inl (gS4 54 rfl rfl)
set_option maxRecDepth 20000 in
theorem lk_X3_70 : zLk RX3 70 yX3_gainOf := Or.inl (gS4 64 rfl rfl)
set_option maxRecDepth 20000 in
theorem lk_X3_94 : zLk RX3 94 yX3_multiplyColour := Or.inl (gS4 74 rfl rfl)
set_option maxRecDepth 20000 in
theorem lk_X3_101 : zLk RX3 101 yX3_paled := Or.inl (gS4 89 rfl rfl)
set_option maxRecDepth 20000 in
theorem lk_X3_105 : zLk RX3 105 yX3_bent := Or.inl (gS4 97 rfl rfl)
set_option maxRecDepth 20000 in
theorem lk_X3_109 : zLk RX3 109 yX7_numbersOf := Or.inl (gS4 101 rfl rfl)
set_option maxRecDepth 20000 in
theorem lk_X3_114 : zLk RX3 114 yX7_numberOf := Or.inl (gS4 102 rfl rfl)
set_option maxRecDepth 20000 in
theorem lk_X3_117 : zLk RX3 117 yX3_findBases := Or.inl (gS4 107 rfl rfl)
set_option maxRecDepth 20000 in
theorem lk_X3_121 : zLk RX3 121 yX3_addToAll := Or.inl (gS4 115 rfl rfl)
set_option maxRecDepth 20000 in
theorem lk_X3_125 : zLk RX3 125 yX3_layBase := Or.inl (gS4 111 rfl rfl)
set_option maxRecDepth 20000 in
theorem lk_X3_129 : zLk RX3 129 yX3_buildFloors := Or.inl (gS4 123 rfl rfl)
set_option maxRecDepth 20000 in
theorem lk_X3_133 : zLk RX3 133 yX3_toneOf := Or.inl (gS4 131 rfl rfl)
set_option maxRecDepth 20000 in
theorem lk_X3_137 : zLk RX3 137 yX3_floorOf := Or.inl (gS4 135 rfl rfl)
set_option maxRecDepth 20000 in
theorem lk_X3_140 : zLk RX3 140 yX3_buildFloor := Or.inl (gS4 127 rfl rfl)
set_option maxRecDepth 20000 in
theorem lk_X4_23 : zLk RX4 23 yX4_gatherRing := Or.inl (gS5 22 rfl rfl)
set_option maxRecDepth 20000 in
theorem lk_X4_39 : zLk RX4 39 yX4_ringOf := Or.inl (gS5 26 rfl rfl)
set_option maxRecDepth 20000 in
theorem lk_X4_43 : zLk RX4 43 yX8_tells := Or.inl (gS5 30 rfl rfl)
set_option maxRecDepth 20000 in
theorem lk_X4_49 : zLk RX4 49 yX8_levelAt := Or.inl (gS5 31 rfl rfl)
set_option maxRecDepth 20000 in
theorem lk_X4_60 : zLk RX4 60 yJ7_fill_d0a16 := Or.inl (gS5 50 rfl rfl)
set_option maxRecDepth 20000 in
theorem lk_X4_70 : zLk RX4 70 yJ13_bitCount_95d88 := Or.inl (gS5 54 rfl rfl)
set_option maxRecDepth 20000 in
theorem lk_X4_76 : zLk RX4 76 yX4_between := Or.inl (gS5 86 rfl rfl)
set_option maxRecDepth 20000 in
theorem lk_X4_82 : zLk RX4 82 yX4_digitsOf := Or.inl (gS5 95 rfl rfl)
set_option maxRecDepth 20000 in
theorem lk_X4_101 : zLk RX4 101 yX4_lightAt := Or.inl (gS5 112 rfl rfl)
set_option maxRecDepth 20000 in
theorem lk_X5_28 : zLk RX5 28 yJ7_fill_53178 := Or.inl (gS3 92 rfl rfl)
set_option maxRecDepth 20000 in
theorem lk_X5_34 : zLk RX5 34 yX5_wake := Or.inl (gS3 95 rfl rfl)
set_option maxRecDepth 20000 in
theorem lk_X5_43 : zLk RX5 43 yX5_colourOf := Or.inl (gS3 137 rfl rfl)
set_option maxRecDepth 20000 in
theorem lk_X6_22 : zLk RX6 22 yX7_clear := Or.inl (gS2 155 rfl rfl)
set_option maxRecDepth 20000 in
theorem lk_X6_35 : zLk RX6 35 yX6_readStage := Or.inl (gS2 159 rfl rfl)
set_option maxRecDepth 20000 in
theorem lk_X6_41 : zLk RX6 41 yX6_readLetter := Or.inl (gS2 163 rfl rfl)
set_option maxRecDepth 20000 in
theorem lk_X6_45 : zLk RX6 45 yX6_expect := Or.inl (gS3 30 rfl rfl)
set_option maxRecDepth 20000 in
theorem lk_X6_49 : zLk RX6 49 yX6_readPoints := Or.inl (gS3 34 rfl rfl)
set_option maxRecDepth 20000 in
theorem lk_X6_52 : zLk RX6 52 yX6_readNumbers := Or.inl (gS3 50 rfl rfl)
set_option maxRecDepth 20000 in
theorem lk_X6_56 : zLk RX6 56 yX6_here := Or.inl (gS2 167 rfl rfl)
set_option maxRecDepth 20000 in
theorem lk_X6_59 : zLk RX6 59 yX6_tell := Or.inl (gS3 22 rfl rfl)
set_option maxRecDepth 20000 in
theorem lk_X6_65 : zLk RX6 65 yJ0_indexOf_0f7a4 := Or.inl (gS2 176 rfl rfl)
set_option maxRecDepth 20000 in
theorem lk_X6_74 : zLk RX6 74 yX7_addStage := Or.inl (gS3 26 rfl rfl)
set_option maxRecDepth 20000 in
theorem lk_X6_87 : zLk RX6 87 yX6_readNumber := Or.inl (gS3 38 rfl rfl)
set_option maxRecDepth 20000 in
theorem lk_X6_94 : zLk RX6 94 yX6_isDigit := Or.inl (gS3 42 rfl rfl)
set_option maxRecDepth 20000 in
theorem lk_X6_98 : zLk RX6 98 yX7_addNumber := Or.inl (gS3 46 rfl rfl)
set_option maxRecDepth 20000 in
theorem lk_X6_101 : zLk RX6 101 yX9_byteAt := Or.inl (gS2 171 rfl rfl)
set_option maxRecDepth 20000 in
theorem lk_X7_34 : zLk RX7 34 yX7_numberOf := Or.inl (gS4 227 rfl rfl)
set_option maxRecDepth 20000 in
theorem lk_X7_38 : zLk RX7 38 yX7_has := Or.inl (gS3 180 rfl rfl)
set_option maxRecDepth 20000 in
theorem lk_X8_31 : zLk RX8 31 yX5_colourOf := Or.inl (gS4 156 rfl rfl)
set_option maxRecDepth 20000 in
theorem lk_X10_15 : zLk RX10 15 yX9_byteAt := Or.inl (gS3 150 rfl rfl)
set_option maxRecDepth 20000 in
theorem lk_X10_30 : zLk RX10 30 yX10_isFirst := Or.inl (gS3 151 rfl rfl)
set_option maxRecDepth 20000 in
theorem lk_L_13 : zLk RL 13 yX11_feed := Or.inl (gS2 139 rfl rfl)
set_option maxRecDepth 20000 in
theorem lk_L_17 : zLk RL 17 yX12_feed := Or.inl (gS6 135 rfl rfl)
set_option maxRecDepth 20000 in
theorem lk_L_18 : zLk RL 18 yX11_stages := Or.inl (gS2 147 rfl rfl)
set_option maxRecDepth 20000 in
theorem lk_L_22 : zLk RL 22 yX12_stages := Or.inl (gS6 143 rfl rfl)
set_option maxRecDepth 20000 in
theorem lk_L_23 : zLk RL 23 yX11_raw := Or.inl (gS3 78 rfl rfl)
set_option maxRecDepth 20000 in
theorem lk_L_27 : zLk RL 27 yX12_raw := Or.inl (gS6 214 rfl rfl)
set_option maxRecDepth 20000 in
theorem lk_L_28 : zLk RL 28 yX11_row := Or.inl (gS3 103 rfl rfl)
set_option maxRecDepth 20000 in
theorem lk_L_32 : zLk RL 32 yX12_row := Or.inl (gS6 222 rfl rfl)
set_option maxRecDepth 20000 in
theorem lk_L_33 : zLk RL 33 yX11_pixel := Or.inl (gS3 108 rfl rfl)
set_option maxRecDepth 20000 in
theorem lk_L_36 : zLk RL 36 yX12_pixel := Or.inl (gS6 226 rfl rfl)
set_option maxRecDepth 20000 in
theorem lk_L_37 : zLk RL 37 yX11_dead := Or.inl (gS3 116 rfl rfl)
set_option maxRecDepth 20000 in
theorem lk_L_41 : zLk RL 41 yX12_dead := Or.inl (gS6 234 rfl rfl)
set_option maxRecDepth 20000 in
theorem lk_L_42 : zLk RL 42 yX11_scene := Or.inl (gS3 124 rfl rfl)
set_option maxRecDepth 20000 in
theorem lk_L_45 : zLk RL 45 yX12_scene := Or.inl (gS7 2 rfl rfl)
set_option maxRecDepth 20000 in
theorem lk_L_46 : zLk RL 46 yX11_truth := Or.inl (gS3 142 rfl rfl)
set_option maxRecDepth 20000 in
theorem lk_L_49 : zLk RL 49 yX12_truth := Or.inl (gS7 15 rfl rfl)
set_option maxRecDepth 20000 in
theorem lk_L_50 : zLk RL 50 yX11_rawIs := Or.inl (gS3 156 rfl rfl)
set_option maxRecDepth 20000 in
theorem lk_L_53 : zLk RL 53 yX12_rawIs := Or.inl (gS7 23 rfl rfl)
set_option maxRecDepth 20000 in
theorem lk_L_54 : zLk RL 54 yX11_colour := Or.inl (gS3 164 rfl rfl)
set_option maxRecDepth 20000 in
theorem lk_L_58 : zLk RL 58 yX12_colour := Or.inl (gS7 27 rfl rfl)
set_option maxRecDepth 20000 in
theorem lk_L_59 : zLk RL 59 yX11_stage := Or.inl (gS3 168 rfl rfl)
set_option maxRecDepth 20000 in
theorem lk_L_62 : zLk RL 62 yX12_stage := Or.inl (gS6 198 rfl rfl)
set_option maxRecDepth 20000 in
theorem lk_L_63 : zLk RL 63 yX11_left := Or.inl (gS3 189 rfl rfl)
set_option maxRecDepth 20000 in
theorem lk_L_67 : zLk RL 67 yX12_left := Or.inl (gS7 31 rfl rfl)
set_option maxRecDepth 20000 in
theorem lk_L_68 : zLk RL 68 yX11_found := Or.inl (gS4 161 rfl rfl)
set_option maxRecDepth 20000 in
theorem lk_L_71 : zLk RL 71 yX12_found := Or.inl (gS7 209 rfl rfl)
set_option maxRecDepth 20000 in
theorem lk_L_72 : zLk RL 72 yX11_groups := Or.inl (gS4 192 rfl rfl)
set_option maxRecDepth 20000 in
theorem lk_L_75 : zLk RL 75 yX12_groups := Or.inl (gS7 221 rfl rfl)
set_option maxRecDepth 20000 in
theorem lk_L_76 : zLk RL 76 yX11_dark := Or.inl (gS4 209 rfl rfl)
set_option maxRecDepth 20000 in
theorem lk_L_79 : zLk RL 79 yX12_dark := Or.inl (gS7 237 rfl rfl)
set_option maxRecDepth 20000 in
theorem lk_L_80 : zLk RL 80 yX11_middle := Or.inl (gS4 214 rfl rfl)
set_option maxRecDepth 20000 in
theorem lk_L_84 : zLk RL 84 yX12_middle := Or.inl (gS8 1 rfl rfl)
set_option maxRecDepth 20000 in
theorem lk_L_85 : zLk RL 85 yX11_way := Or.inl (gS4 219 rfl rfl)
set_option maxRecDepth 20000 in
theorem lk_L_88 : zLk RL 88 yX12_way := Or.inl (gS8 5 rfl rfl)
set_option maxRecDepth 20000 in
theorem lk_L_89 : zLk RL 89 yX11_ways := Or.inl (gS4 229 rfl rfl)
set_option maxRecDepth 20000 in
theorem lk_L_92 : zLk RL 92 yX12_ways := Or.inl (gS8 13 rfl rfl)
set_option maxRecDepth 20000 in
theorem lk_L_93 : zLk RL 93 yX11_white := Or.inl (gS4 233 rfl rfl)
set_option maxRecDepth 20000 in
theorem lk_L_96 : zLk RL 96 yX12_white := Or.inl (gS8 17 rfl rfl)
set_option maxRecDepth 20000 in
theorem lk_L_97 : zLk RL 97 yX11_base := Or.inl (gS4 238 rfl rfl)
set_option maxRecDepth 20000 in
theorem lk_L_100 : zLk RL 100 yX12_base := Or.inl (gS8 21 rfl rfl)
set_option maxRecDepth 20000 in
theorem lk_L_101 : zLk RL 101 yX11_tone := Or.inl (gS5 3 rfl rfl)
set_option maxRecDepth 20000 in
theorem lk_L_104 : zLk RL 104 yX12_tone := Or.inl (gS8 25 rfl rfl)
set_option maxRecDepth 20000 in
theorem lk_L_105 : zLk RL 105 yX11_levels := Or.inl (gS5 10 rfl rfl)
set_option maxRecDepth 20000 in
theorem lk_L_108 : zLk RL 108 yX12_levels := Or.inl (gS8 29 rfl rfl)
set_option maxRecDepth 20000 in
theorem lk_L_109 : zLk RL 109 yX11_noise := Or.inl (gS5 64 rfl rfl)
set_option maxRecDepth 20000 in
theorem lk_L_112 : zLk RL 112 yX12_noise := Or.inl (gS8 49 rfl rfl)
set_option maxRecDepth 20000 in
theorem lk_L_113 : zLk RL 113 yX11_percent := Or.inl (gS5 78 rfl rfl)
set_option maxRecDepth 20000 in
theorem lk_L_116 : zLk RL 116 yX12_percent := Or.inl (gS8 57 rfl rfl)
set_option maxRecDepth 20000 in
theorem lk_L_117 : zLk RL 117 yX11_bits := Or.inl (gS5 87 rfl rfl)
set_option maxRecDepth 20000 in
theorem lk_L_120 : zLk RL 120 yX12_bits := Or.inl (gS8 61 rfl rfl)
set_option maxRecDepth 20000 in
theorem lk_L_121 : zLk RL 121 yX11_ring := Or.inl (gS5 99 rfl rfl)
set_option maxRecDepth 20000 in
theorem lk_L_124 : zLk RL 124 yX12_ring := Or.inl (gS8 68 rfl rfl)
set_option maxRecDepth 20000 in
theorem lk_L_125 : zLk RL 125 yX11_edges := Or.inl (gS5 104 rfl rfl)
set_option maxRecDepth 20000 in
theorem lk_L_128 : zLk RL 128 yX12_edges := Or.inl (gS8 76 rfl rfl)
set_option maxRecDepth 20000 in
theorem lk_L_129 : zLk RL 129 yX11_error := Or.inl (gS5 118 rfl rfl)
set_option maxRecDepth 20000 in
theorem lk_L_133 : zLk RL 133 yX12_error := Or.inl (gS8 80 rfl rfl)
set_option maxRecDepth 20000 in
theorem lk_L_134 : zLk RL 134 yX11_falseOnes := Or.inl (gS5 132 rfl rfl)
set_option maxRecDepth 20000 in
theorem lk_L_137 : zLk RL 137 yX12_falseOnes := Or.inl (gS8 91 rfl rfl)
set_option maxRecDepth 20000 in
theorem lk_L_138 : zLk RL 138 yX11_places := Or.inl (gS5 142 rfl rfl)
set_option maxRecDepth 20000 in
theorem lk_L_141 : zLk RL 141 yX12_places := Or.inl (gS8 99 rfl rfl)
set_option maxRecDepth 20000 in
theorem lk_L_142 : zLk RL 142 yX11_unlike := Or.inl (gS5 152 rfl rfl)
set_option maxRecDepth 20000 in
theorem lk_L_145 : zLk RL 145 yX12_unlike := Or.inl (gS8 103 rfl rfl)
set_option maxRecDepth 20000 in
theorem lk_L_146 : zLk RL 146 yX11_without := Or.inl (gS5 160 rfl rfl)
set_option maxRecDepth 20000 in
theorem lk_L_149 : zLk RL 149 yX12_without := Or.inl (gS8 111 rfl rfl)
set_option maxRecDepth 20000 in
theorem lk_L_150 : zLk RL 150 yX11_best := Or.inl (gS5 169 rfl rfl)
set_option maxRecDepth 20000 in
theorem lk_L_153 : zLk RL 153 yX12_best := Or.inl (gS8 119 rfl rfl)
set_option maxRecDepth 20000 in
theorem lk_L_154 : zLk RL 154 yX11_seed := Or.inl (gS5 179 rfl rfl)
set_option maxRecDepth 20000 in
theorem lk_L_157 : zLk RL 157 yX12_seed := Or.inl (gS8 131 rfl rfl)
set_option maxRecDepth 20000 in
theorem lk_L_158 : zLk RL 158 yX11_keep := Or.inl (gS5 184 rfl rfl)
set_option maxRecDepth 20000 in
theorem lk_L_162 : zLk RL 162 yX12_keep := Or.inl (gS8 136 rfl rfl)
set_option maxRecDepth 20000 in
theorem lk_L_163 : zLk RL 163 yX11_undo := Or.inl (gS5 193 rfl rfl)
set_option maxRecDepth 20000 in
theorem lk_L_167 : zLk RL 167 yX12_undo := Or.inl (gS8 143 rfl rfl)
set_option maxRecDepth 20000 in
theorem lk_L_168 : zLk RL 168 yX11_check := Or.inl (gS5 197 rfl rfl)
set_option maxRecDepth 20000 in
theorem lk_L_171 : zLk RL 171 yX12_check := Or.inl (gS8 147 rfl rfl)
set_option maxRecDepth 20000 in
theorem lk_L_172 : zLk RL 172 yX11_count := Or.inl (gS5 201 rfl rfl)
set_option maxRecDepth 20000 in
theorem lk_L_175 : zLk RL 175 yX12_count := Or.inl (gS8 151 rfl rfl)
set_option maxRecDepth 20000 in
theorem lk_X12_109 : zLk RX12 109 yX12_min := Or.inl (gS7 50 rfl rfl)
set_option maxRecDepth 20000 in
theorem lk_X12_113 : zLk RX12 113 yX12_max := Or.inl (gS7 53 rfl rfl)
set_option maxRecDepth 20000 in
theorem lk_X12_119 : zLk RX12 119 yX12_types := Or.inl (gS6 139 rfl rfl)
set_option maxRecDepth 20000 in
theorem lk_X12_132 : zLk RX12 132 yX12_here := Or.inl (gS6 154 rfl rfl)
set_option maxRecDepth 20000 in
theorem lk_X12_136 : zLk RX12 136 yX12_wrongAt := Or.inl (gS6 164 rfl rfl)
set_option maxRecDepth 20000 in
theorem lk_X12_140 : zLk RX12 140 yX12_in := Or.inl (gS6 147 rfl rfl)
set_option maxRecDepth 20000 in
theorem lk_X12_144 : zLk RX12 144 yX12_isDigit := Or.inl (gS6 184 rfl rfl)
set_option maxRecDepth 20000 in
theorem lk_X12_154 : zLk RX12 154 yX12_takesSign := Or.inl (gS6 172 rfl rfl)
set_option maxRecDepth 20000 in
theorem lk_X12_157 : zLk RX12 157 yX12_readsNumber := Or.inl (gS6 180 rfl rfl)
set_option maxRecDepth 20000 in
theorem lk_X12_160 : zLk RX12 160 yX12_readsNext := Or.inl (gS6 187 rfl rfl)
set_option maxRecDepth 20000 in
theorem lk_X12_163 : zLk RX12 163 yX12_readsCurve := Or.inl (gS6 191 rfl rfl)
set_option maxRecDepth 20000 in
theorem lk_X12_170 : zLk RX12 170 yX12_isEarly := Or.inl (gS6 158 rfl rfl)
set_option maxRecDepth 20000 in
theorem lk_X12_173 : zLk RX12 173 yX12_isLate := Or.inl (gS6 161 rfl rfl)
set_option maxRecDepth 20000 in
theorem lk_X12_176 : zLk RX12 176 yX12_isFilledSoFar := Or.inl (gS6 168 rfl rfl)
set_option maxRecDepth 20000 in
theorem lk_X12_179 : zLk RX12 179 yX12_readsNumbers := Or.inl (gS6 176 rfl rfl)
set_option maxRecDepth 20000 in
theorem lk_X12_182 : zLk RX12 182 yX12_readsStage := Or.inl (gS6 150 rfl rfl)
set_option maxRecDepth 20000 in
theorem lk_X12_188 : zLk RX12 188 yX12_copies := Or.inl (gS6 195 rfl rfl)
set_option maxRecDepth 20000 in
theorem lk_X12_196 : zLk RX12 196 yX12_filler := Or.inl (gS7 205 rfl rfl)
set_option maxRecDepth 20000 in
theorem lk_X12_199 : zLk RX12 199 yX12_isStage := Or.inl (gS6 202 rfl rfl)
set_option maxRecDepth 20000 in
theorem lk_X12_202 : zLk RX12 202 yX12_numberMany := Or.inl (gS6 206 rfl rfl)
set_option maxRecDepth 20000 in
theorem lk_X12_206 : zLk RX12 206 yX12_numberOf := Or.inl (gS6 210 rfl rfl)
set_option maxRecDepth 20000 in
theorem lk_X12_215 : zLk RX12 215 yX12_changed := Or.inl (gS6 218 rfl rfl)
set_option maxRecDepth 20000 in
theorem lk_X12_218 : zLk RX12 218 yX12_isSquare := Or.inl (gS6 230 rfl rfl)
set_option maxRecDepth 20000 in
theorem lk_X12_221 : zLk RX12 221 yX12_deadMany := Or.inl (gS6 238 rfl rfl)
set_option maxRecDepth 20000 in
theorem lk_X12_225 : zLk RX12 225 yX12_colourAt := Or.inl (gS7 11 rfl rfl)
set_option maxRecDepth 20000 in
theorem lk_X12_228 : zLk RX12 228 yX12_sceneAt := Or.inl (gS7 6 rfl rfl)
set_option maxRecDepth 20000 in
theorem lk_X12_232 : zLk RX12 232 yX12_truthAt := Or.inl (gS7 19 rfl rfl)
set_option maxRecDepth 20000 in
theorem lk_X12_236 : zLk RX12 236 yX12_mirrored := Or.inl (gS7 76 rfl rfl)
set_option maxRecDepth 20000 in
theorem lk_X12_239 : zLk RX12 239 yX12_clipped := Or.inl (gS7 47 rfl rfl)
set_option maxRecDepth 20000 in
theorem lk_X12_242 : zLk RX12 242 yX12_lays := Or.inl (gS7 56 rfl rfl)
set_option maxRecDepth 20000 in
theorem lk_X12_246 : zLk RX12 246 yX12_own := Or.inl (gS7 72 rfl rfl)
set_option maxRecDepth 20000 in
theorem lk_X12_250 : zLk RX12 250 yX12_sorts := Or.inl (gS7 114 rfl rfl)
set_option maxRecDepth 20000 in
theorem lk_X12_254 : zLk RX12 254 yX12_middleOf := Or.inl (gS7 110 rfl rfl)
set_option maxRecDepth 20000 in
theorem lk_X12_257 : zLk RX12 257 yX12_size := Or.inl (gS7 83 rfl rfl)
set_option maxRecDepth 20000 in
theorem lk_X12_260 : zLk RX12 260 yX12_darkOf := Or.inl (gS7 102 rfl rfl)
set_option maxRecDepth 20000 in
theorem lk_X12_263 : zLk RX12 263 yX12_isFound := Or.inl (gS7 106 rfl rfl)
set_option maxRecDepth 20000 in
theorem lk_X12_267 : zLk RX12 267 yX12_shaded := Or.inl (gS7 117 rfl rfl)
set_option maxRecDepth 20000 in
theorem lk_X12_270 : zLk RX12 270 yX12_laysOwn := Or.inl (gS7 43 rfl rfl)
set_option maxRecDepth 20000 in
theorem lk_X12_274 : zLk RX12 274 yX12_wayOf := Or.inl (gS7 79 rfl rfl)
set_option maxRecDepth 20000 in
theorem lk_X12_277 : zLk RX12 277 yX12_at := Or.inl (gS7 90 rfl rfl)
set_option maxRecDepth 20000 in
theorem lk_X12_280 : zLk RX12 280 yX12_over := Or.inl (gS7 94 rfl rfl)
set_option maxRecDepth 20000 in
theorem lk_X12_283 : zLk RX12 283 yX12_greenOf := Or.inl (gS7 68 rfl rfl)
set_option maxRecDepth 20000 in
theorem lk_X12_286 : zLk RX12 286 yX12_otherOf := Or.inl (gS7 86 rfl rfl)
set_option maxRecDepth 20000 in
theorem lk_X12_289 : zLk RX12 289 yX12_median := Or.inl (gS7 125 rfl rfl)
set_option maxRecDepth 20000 in
theorem lk_X12_295 : zLk RX12 295 yX12_greatest := Or.inl (gS7 137 rfl rfl)
set_option maxRecDepth 20000 in
theorem lk_X12_298 : zLk RX12 298 yX12_smallest := Or.inl (gS7 141 rfl rfl)
set_option maxRecDepth 20000 in
theorem lk_X12_307 : zLk RX12 307 yX12_lightAt := Or.inl (gS7 149 rfl rfl)
set_option maxRecDepth 20000 in
theorem lk_X12_313 : zLk RX12 313 yX12_together := Or.inl (gS7 157 rfl rfl)
set_option maxRecDepth 20000 in
theorem lk_X12_316 : zLk RX12 316 yX12_floorAt := Or.inl (gS7 185 rfl rfl)
set_option maxRecDepth 20000 in
theorem lk_X12_319 : zLk RX12 319 yX12_blurAt := Or.inl (gS7 193 rfl rfl)
set_option maxRecDepth 20000 in
theorem lk_X12_322 : zLk RX12 322 yX12_gained := Or.inl (gS7 165 rfl rfl)
set_option maxRecDepth 20000 in
theorem lk_X12_325 : zLk RX12 325 yX12_paled := Or.inl (gS7 169 rfl rfl)
set_option maxRecDepth 20000 in
theorem lk_X12_328 : zLk RX12 328 yX12_curved := Or.inl (gS7 173 rfl rfl)
set_option maxRecDepth 20000 in
theorem lk_X12_331 : zLk RX12 331 yX12_baseOf := Or.inl (gS7 177 rfl rfl)
set_option maxRecDepth 20000 in
theorem lk_X12_334 : zLk RX12 334 yX12_toneAt := Or.inl (gS7 181 rfl rfl)
set_option maxRecDepth 20000 in
theorem lk_X12_337 : zLk RX12 337 yX12_calmed := Or.inl (gS7 189 rfl rfl)
set_option maxRecDepth 20000 in
theorem lk_X12_341 : zLk RX12 341 yX12_sharpened := Or.inl (gS7 197 rfl rfl)
set_option maxRecDepth 20000 in
theorem lk_X12_344 : zLk RX12 344 yX12_findsWhite := Or.inl (gS7 133 rfl rfl)
set_option maxRecDepth 20000 in
theorem lk_X12_348 : zLk RX12 348 yX12_findsMean := Or.inl (gS7 145 rfl rfl)
set_option maxRecDepth 20000 in
theorem lk_X12_351 : zLk RX12 351 yX12_findsFloors := Or.inl (gS7 153 rfl rfl)
set_option maxRecDepth 20000 in
theorem lk_X12_354 : zLk RX12 354 yX12_lateAt := Or.inl (gS7 161 rfl rfl)
set_option maxRecDepth 20000 in
theorem lk_X12_358 : zLk RX12 358 yX12_fills := Or.inl (gS7 64 rfl rfl)
set_option maxRecDepth 20000 in
theorem lk_X12_362 : zLk RX12 362 yX12_early := Or.inl (gS7 98 rfl rfl)
set_option maxRecDepth 20000 in
theorem lk_X12_365 : zLk RX12 365 yX12_votes := Or.inl (gS7 121 rfl rfl)
set_option maxRecDepth 20000 in
theorem lk_X12_368 : zLk RX12 368 yX12_late := Or.inl (gS7 129 rfl rfl)
set_option maxRecDepth 20000 in
theorem lk_X12_371 : zLk RX12 371 yX12_does := Or.inl (gS7 60 rfl rfl)
set_option maxRecDepth 20000 in
theorem lk_X12_374 : zLk RX12 374 yX12_isRow := Or.inl (gS7 35 rfl rfl)
set_option maxRecDepth 20000 in
theorem lk_X12_377 : zLk RX12 377 yX12_leaves := Or.inl (gS7 39 rfl rfl)
set_option maxRecDepth 20000 in
theorem lk_X12_380 : zLk RX12 380 yX12_isBehind := Or.inl (gS7 201 rfl rfl)
set_option maxRecDepth 20000 in
theorem lk_X12_383 : zLk RX12 383 yX12_isKind := Or.inl (gS7 213 rfl rfl)
set_option maxRecDepth 20000 in
theorem lk_X12_386 : zLk RX12 386 yX12_marksFound := Or.inl (gS7 217 rfl rfl)
set_option maxRecDepth 20000 in
theorem lk_X12_389 : zLk RX12 389 yX12_spreads := Or.inl (gS7 229 rfl rfl)
set_option maxRecDepth 20000 in
theorem lk_X12_393 : zLk RX12 393 yX12_gathers := Or.inl (gS7 225 rfl rfl)
set_option maxRecDepth 20000 in
theorem lk_X12_397 : zLk RX12 397 yX12_largest := Or.inl (gS7 233 rfl rfl)
set_option maxRecDepth 20000 in
theorem lk_X12_400 : zLk RX12 400 yX12_isAlongEdges := Or.inl (gS8 9 rfl rfl)
set_option maxRecDepth 20000 in
theorem lk_X12_406 : zLk RX12 406 yX12_isLeftOf := Or.inl (gS8 33 rfl rfl)
set_option maxRecDepth 20000 in
theorem lk_X12_409 : zLk RX12 409 yX12_lists := Or.inl (gS8 37 rfl rfl)
set_option maxRecDepth 20000 in
theorem lk_X12_412 : zLk RX12 412 yX12_within := Or.inl (gS8 41 rfl rfl)
set_option maxRecDepth 20000 in
theorem lk_X12_415 : zLk RX12 415 yX12_unlikeOnes := Or.inl (gS8 45 rfl rfl)
set_option maxRecDepth 20000 in
theorem lk_X12_418 : zLk RX12 418 yX12_noiseOf := Or.inl (gS8 53 rfl rfl)
set_option maxRecDepth 20000 in
theorem lk_X12_421 : zLk RX12 421 yX12_binaryDigits := Or.inl (gS8 65 rfl rfl)
set_option maxRecDepth 20000 in
theorem lk_X12_424 : zLk RX12 424 yX12_ringOf := Or.inl (gS8 72 rfl rfl)
set_option maxRecDepth 20000 in
theorem lk_X12_433 : zLk RX12 433 yX12_errorOf := Or.inl (gS8 87 rfl rfl)
set_option maxRecDepth 20000 in
theorem lk_X12_437 : zLk RX12 437 yX12_falseOf := Or.inl (gS8 95 rfl rfl)
set_option maxRecDepth 20000 in
theorem lk_X12_440 : zLk RX12 440 yX12_unlikeOf := Or.inl (gS8 107 rfl rfl)
set_option maxRecDepth 20000 in
theorem lk_X12_444 : zLk RX12 444 yX12_leavesBy := Or.inl (gS8 115 rfl rfl)
set_option maxRecDepth 20000 in
theorem lk_X12_447 : zLk RX12 447 yX12_isTunable := Or.inl (gS8 123 rfl rfl)
set_option maxRecDepth 20000 in
theorem lk_X12_452 : zLk RX12 452 yX12_badness := Or.inl (gS8 127 rfl rfl)
set_option maxRecDepth 20000 in
theorem lk_X12_475 : zLk RX12 475 yX12_copiesMarks := Or.inl (gS8 140 rfl rfl)
set_option maxRecDepth 20000 in
theorem lk_J0_335 : zLk RJ0 335 yJ0_coder_7d493 := Or.inl (gS2 194 rfl rfl)
set_option maxRecDepth 20000 in
theorem lk_J0_492 : zLk RJ0 492 yJ0_isLatin1_aae02 := Or.inl (gS2 184 rfl rfl)
set_option maxRecDepth 20000 in
theorem lk_J0_505 : zLk RJ0 505 yJ0_length_8abf5 := Or.inl (gS2 190 rfl rfl)
set_option maxRecDepth 20000 in
theorem lk_J0_633 : zLk RJ0 633 yJ0_indexOf_7cf53 := Or.inl (gS2 180 rfl rfl)
set_option maxRecDepth 20000 in
theorem lk_J0_637 : zLk RJ0 637 yJ1_indexOf_4cfef := Or.inl (gS2 198 rfl rfl)
set_option maxRecDepth 20000 in
theorem lk_J1_88 : zLk RJ1 88 yJ1_canEncode_9a6ad := Or.inl (gS2 201 rfl rfl)
set_option maxRecDepth 20000 in
theorem lk_J1_95 : zLk RJ1 95 yJ1_indexOfChar_4cfef := Or.inl (gS2 210 rfl rfl)
set_option maxRecDepth 20000 in
theorem lk_X2_30 : zLk RX2 30 yX11_clipped := Or.inr ⟨"RawPictures", gS3 217 rfl rfl⟩
set_option maxRecDepth 20000 in
theorem lk_X2_38 : zLk RX2 38 yX11_mirrored := Or.inr ⟨"RawPictures", gS3 234 rfl rfl⟩
set_option maxRecDepth 20000 in
theorem lk_X3_55 : zLk RX3 55 yX11_clipped := Or.inr ⟨"RawPictures", gS4 49 rfl rfl⟩
set_option maxRecDepth 20000 in
theorem lk_X3_59 : zLk RX3 59 yX11_mirrored := Or.inr ⟨"RawPictures", gS4 48 rfl rfl⟩
set_option maxRecDepth 20000 in
theorem lk_X3_79 : zLk RX3 79 yX11_leastOf := Or.inr ⟨"RawPictures", gS4 58 rfl rfl⟩
set_option maxRecDepth 20000 in
theorem lk_X3_83 : zLk RX3 83 yX11_greatestOf := Or.inr ⟨"RawPictures", gS4 61 rfl rfl⟩
set_option maxRecDepth 20000 in
theorem lk_X3_98 : zLk RX3 98 yX11_lightOf := Or.inr ⟨"RawPictures", gS4 82 rfl rfl⟩
set_option maxRecDepth 20000 in
theorem lk_X3_144 : zLk RX3 144 yX11_blurOf := Or.inr ⟨"RawPictures", gS4 143 rfl rfl⟩
set_option maxRecDepth 20000 in
theorem lk_X4_66 : zLk RX4 66 yX11_clipped := Or.inr ⟨"RawPictures", gS5 53 rfl rfl⟩
set_option maxRecDepth 20000 in
theorem lk_X4_97 : zLk RX4 97 yX11_blurOf := Or.inr ⟨"RawPictures", gS5 76 rfl rfl⟩
set_option maxRecDepth 20000 in
theorem lk_X4_105 : zLk RX4 105 yX11_mirrored := Or.inr ⟨"RawPictures", gS5 116 rfl rfl⟩
set_option maxRecDepth 20000 in
theorem lk_X4_108 : zLk RX4 108 yX11_lightOf := Or.inr ⟨"RawPictures", gS5 117 rfl rfl⟩
set_option maxRecDepth 20000 in
theorem lk_X4_130 : zLk RX4 130 yX11_greatestOf := Or.inr ⟨"RawPictures", gS5 140 rfl rfl⟩
set_option maxRecDepth 20000 in
theorem lk_X4_133 : zLk RX4 133 yX11_leastOf := Or.inr ⟨"RawPictures", gS5 141 rfl rfl⟩
set_option maxRecDepth 20000 in
theorem gw_X0 : ∀ w ∈ u_ws RX0 TX0 8, w ∈ gT := gmr [322, 324, 326, 328, 330, 332, 334, 336] (by decide +kernel) (by decide +kernel)
set_option maxRecDepth 20000 in
theorem gw_X1 : ∀ w ∈ u_ws RX1 TX1 8, w ∈ gT := gmr [235, 237, 239, 241, 243, 245, 247, 249] (by decide +kernel) (by decide +kernel)
set_option maxRecDepth 20000 in
theorem gw_X2 : ∀ w ∈ u_ws RX2 TX2 1, w ∈ gT := gmr [186] (by decide +kernel) (by decide +kernel)
set_option maxRecDepth 20000 in
theorem gw_X3 : ∀ w ∈ u_ws RX3 TX3 7, w ∈ gT := gmr [210, 212, 214, 216, 218, 220, 222] (by decide +kernel) (by decide +kernel)
set_option maxRecDepth 20000 in
theorem gw_X4 : ∀ w ∈ u_ws RX4 TX4 12, w ∈ gT := gmr [279, 281, 283, 285, 287, 289, 291, 293, 295, 297, 299, 301] (by decide +kernel) (by decide +kernel)
set_option maxRecDepth 20000 in
theorem gw_X5 : ∀ w ∈ u_ws RX5 TX5 5, w ∈ gT := gmr [76, 78, 80, 82, 84] (by decide +kernel) (by decide +kernel)
set_option maxRecDepth 20000 in
theorem gw_X6 : ∀ w ∈ u_ws RX6 TX6 5, w ∈ gT := gmr [143, 145, 147, 149, 151] (by decide +kernel) (by decide +kernel)
set_option maxRecDepth 20000 in
theorem gw_X7 : ∀ w ∈ u_ws RX7 TX7 5, w ∈ gT := gmr [118, 120, 122, 124, 126] (by decide +kernel) (by decide +kernel)
set_option maxRecDepth 20000 in
theorem gw_X8 : ∀ w ∈ u_ws RX8 TX8 2, w ∈ gT := gmr [174, 176] (by decide +kernel) (by decide +kernel)
set_option maxRecDepth 20000 in
theorem gw_X9 : ∀ w ∈ u_ws RX9 TX9 2, w ∈ gT := gmr [40, 42] (by decide +kernel) (by decide +kernel)
set_option maxRecDepth 20000 in
theorem gw_X10 : ∀ w ∈ u_ws RX10 TX10 2, w ∈ gT := gmr [97, 99] (by decide +kernel) (by decide +kernel)
set_option maxRecDepth 20000 in
theorem gw_X11 : ∀ w ∈ u_ws RX11 TX11 13, w ∈ gT := gmr [352, 354, 356, 358, 360, 362, 364, 366, 368, 370, 372, 374, 376] (by decide +kernel) (by decide +kernel)
set_option maxRecDepth 20000 in
theorem gw_X12 : ∀ w ∈ u_ws RX12 TX12 54, w ∈ gT := gmr [1225, 1227, 1229, 1231, 1233, 1235, 1237, 1239, 1241, 1243, 1245, 1247, 1249, 1251, 1253, 1255, 1257, 1259, 1261, 1263, 1265, 1267, 1269, 1271, 1273, 1275, 1277, 1279, 1281, 1283, 1285, 1287, 1289, 1291, 1293, 1295, 1297, 1299, 1301, 1303, 1305, 1307, 1309, 1311, 1313, 1315, 1317, 1319, 1321, 1323, 1325, 1327, 1329, 1331] (by decide +kernel) (by decide +kernel)
set_option maxRecDepth 20000 in
theorem fg_X11_10 : zFL RX11 10 11 0 := ⟨RX11, TX11, 13, tyX11, rfl, by decide, gw_X11, tyX11_ok, nmX11, gS2 99 rfl rfl⟩
set_option maxRecDepth 20000 in
theorem fg_X11_19 : zFL RX11 19 11 1 := ⟨RX11, TX11, 13, tyX11, rfl, by decide, gw_X11, tyX11_ok, nmX11, gS2 100 rfl rfl⟩
set_option maxRecDepth 20000 in
theorem fg_X11_26 : zFL RX11 26 11 2 := ⟨RX11, TX11, 13, tyX11, rfl, by decide, gw_X11, tyX11_ok, nmX11, gS2 101 rfl rfl⟩
set_option maxRecDepth 20000 in
theorem fg_X11_33 : zFL RX11 33 11 3 := ⟨RX11, TX11, 13, tyX11, rfl, by decide, gw_X11, tyX11_ok, nmX11, gS2 102 rfl rfl⟩
set_option maxRecDepth 20000 in
theorem fg_X11_42 : zFL RX11 42 11 4 := ⟨RX11, TX11, 13, tyX11, rfl, by decide, gw_X11, tyX11_ok, nmX11, gS2 103 rfl rfl⟩
set_option maxRecDepth 20000 in
theorem fg_X11_51 : zFL RX11 51 11 5 := ⟨RX11, TX11, 13, tyX11, rfl, by decide, gw_X11, tyX11_ok, nmX11, gS2 104 rfl rfl⟩
set_option maxRecDepth 20000 in
theorem fg_X11_60 : zFL RX11 60 11 6 := ⟨RX11, TX11, 13, tyX11, rfl, by decide, gw_X11, tyX11_ok, nmX11, gS2 105 rfl rfl⟩
set_option maxRecDepth 20000 in
theorem fg_X11_67 : zFL RX11 67 11 7 := ⟨RX11, TX11, 13, tyX11, rfl, by decide, gw_X11, tyX11_ok, nmX11, gS2 106 rfl rfl⟩
set_option maxRecDepth 20000 in
theorem fg_X11_71 : zFL RX11 71 11 8 := ⟨RX11, TX11, 13, tyX11, rfl, by decide, gw_X11, tyX11_ok, nmX11, gS2 107 rfl rfl⟩
set_option maxRecDepth 20000 in
theorem fg_X11_74 : zFL RX11 74 11 9 := ⟨RX11, TX11, 13, tyX11, rfl, by decide, gw_X11, tyX11_ok, nmX11, gS2 108 rfl rfl⟩
set_option maxRecDepth 20000 in
theorem fg_X11_77 : zFL RX11 77 11 10 := ⟨RX11, TX11, 13, tyX11, rfl, by decide, gw_X11, tyX11_ok, nmX11, gS2 109 rfl rfl⟩
set_option maxRecDepth 20000 in
theorem fp_X11_77 : zFP RX11 77 11 10 .int := ⟨RX11, TX11, 13, tyX11, rfl, by decide, gw_X11, tyX11_ok, nmX11, gS2 109 rfl rfl, rfl, by decide +kernel⟩
set_option maxRecDepth 20000 in
theorem fg_X11_81 : zFL RX11 81 11 11 := ⟨RX11, TX11, 13, tyX11, rfl, by decide, gw_X11, tyX11_ok, nmX11, gS2 110 rfl rfl⟩
set_option maxRecDepth 20000 in
theorem fp_X11_81 : zFP RX11 81 11 11 .boolean := ⟨RX11, TX11, 13, tyX11, rfl, by decide, gw_X11, tyX11_ok, nmX11, gS2 110 rfl rfl, rfl, by decide +kernel⟩
set_option maxRecDepth 20000 in
theorem fg_X11_85 : zFL RX11 85 11 12 := ⟨RX11, TX11, 13, tyX11, rfl, by decide, gw_X11, tyX11_ok, nmX11, gS2 111 rfl rfl⟩
set_option maxRecDepth 20000 in
theorem fp_X11_85 : zFP RX11 85 11 12 .int := ⟨RX11, TX11, 13, tyX11, rfl, by decide, gw_X11, tyX11_ok, nmX11, gS2 111 rfl rfl, rfl, by decide +kernel⟩
set_option maxRecDepth 20000 in
theorem fg_X11_88 : zFL RX11 88 9 1 := ⟨RX9, TX9, 2, tyX9, rfl, by decide, gw_X9, tyX9_ok, nmX9, gS1 38 rfl rfl⟩
set_option maxRecDepth 20000 in
theorem fg_X11_102 : zFL RX11 102 6 0 := ⟨RX6, TX6, 5, tyX6, rfl, by decide, gw_X6, tyX6_ok, nmX6, gS1 138 rfl rfl⟩
set_option maxRecDepth 20000 in
theorem fg_X11_127 : zFL RX11 127 5 1 := ⟨RX5, TX5, 5, tyX5, rfl, by decide, gw_X5, tyX5_ok, nmX5, gS1 67 rfl rfl⟩
set_option maxRecDepth 20000 in
theorem fg_X11_130 : zFL RX11 130 5 0 := ⟨RX5, TX5, 5, tyX5, rfl, by decide, gw_X5, tyX5_ok, nmX5, gS1 59 rfl rfl⟩
set_option maxRecDepth 20000 in
theorem fg_X11_133 : zFL RX11 133 5 3 := ⟨RX5, TX5, 5, tyX5, rfl, by decide, gw_X5, tyX5_ok, nmX5, gS1 72 rfl rfl⟩
set_option maxRecDepth 20000 in
theorem fg_X11_143 : zFL RX11 143 5 4 := ⟨RX5, TX5, 5, tyX5, rfl, by decide, gw_X5, tyX5_ok, nmX5, gS1 75 rfl rfl⟩
set_option maxRecDepth 20000 in
theorem fg_X11_165 : zFL RX11 165 10 0 := ⟨RX10, TX10, 2, tyX10, rfl, by decide, gw_X10, tyX10_ok, nmX10, gS1 94 rfl rfl⟩
set_option maxRecDepth 20000 in
theorem fg_X11_169 : zFL RX11 169 10 1 := ⟨RX10, TX10, 2, tyX10, rfl, by decide, gw_X10, tyX10_ok, nmX10, gS1 96 rfl rfl⟩
set_option maxRecDepth 20000 in
theorem fp_X11_169 : zFP RX11 169 10 1 .boolean := ⟨RX10, TX10, 2, tyX10, rfl, by decide, gw_X10, tyX10_ok, nmX10, gS1 96 rfl rfl, rfl, by decide +kernel⟩
set_option maxRecDepth 20000 in
theorem fg_X11_172 : zFL RX11 172 5 2 := ⟨RX5, TX5, 5, tyX5, rfl, by decide, gw_X5, tyX5_ok, nmX5, gS1 69 rfl rfl⟩
set_option maxRecDepth 20000 in
theorem fg_X11_225 : zFL RX11 225 0 0 := ⟨RX0, TX0, 8, tyX0, rfl, by decide, gw_X0, tyX0_ok, nmX0, gS2 72 rfl rfl⟩
set_option maxRecDepth 20000 in
theorem fg_X11_228 : zFL RX11 228 0 1 := ⟨RX0, TX0, 8, tyX0, rfl, by decide, gw_X0, tyX0_ok, nmX0, gS2 74 rfl rfl⟩
set_option maxRecDepth 20000 in
theorem fg_X11_231 : zFL RX11 231 1 0 := ⟨RX1, TX1, 8, tyX1, rfl, by decide, gw_X1, tyX1_ok, nmX1, gS1 226 rfl rfl⟩
set_option maxRecDepth 20000 in
theorem fg_X11_248 : zFL RX11 248 7 1 := ⟨RX7, TX7, 5, tyX7, rfl, by decide, gw_X7, tyX7_ok, nmX7, gS1 114 rfl rfl⟩
set_option maxRecDepth 20000 in
theorem fg_X11_254 : zFL RX11 254 1 1 := ⟨RX1, TX1, 8, tyX1, rfl, by decide, gw_X1, tyX1_ok, nmX1, gS1 228 rfl rfl⟩
set_option maxRecDepth 20000 in
theorem fg_X11_264 : zFL RX11 264 3 2 := ⟨RX3, TX3, 7, tyX3, rfl, by decide, gw_X3, tyX3_ok, nmX3, gS1 204 rfl rfl⟩
set_option maxRecDepth 20000 in
theorem fg_X11_267 : zFL RX11 267 3 0 := ⟨RX3, TX3, 7, tyX3, rfl, by decide, gw_X3, tyX3_ok, nmX3, gS1 199 rfl rfl⟩
set_option maxRecDepth 20000 in
theorem fg_X11_270 : zFL RX11 270 3 1 := ⟨RX3, TX3, 7, tyX3, rfl, by decide, gw_X3, tyX3_ok, nmX3, gS1 202 rfl rfl⟩
set_option maxRecDepth 20000 in
theorem fg_X11_276 : zFL RX11 276 3 3 := ⟨RX3, TX3, 7, tyX3, rfl, by decide, gw_X3, tyX3_ok, nmX3, gS1 206 rfl rfl⟩
set_option maxRecDepth 20000 in
theorem fg_X11_317 : zFL RX11 317 4 3 := ⟨RX4, TX4, 12, tyX4, rfl, by decide, gw_X4, tyX4_ok, nmX4, gS2 25 rfl rfl⟩
set_option maxRecDepth 20000 in
theorem fg_X11_320 : zFL RX11 320 4 1 := ⟨RX4, TX4, 12, tyX4, rfl, by decide, gw_X4, tyX4_ok, nmX4, gS2 21 rfl rfl⟩
set_option maxRecDepth 20000 in
theorem fg_X11_323 : zFL RX11 323 4 2 := ⟨RX4, TX4, 12, tyX4, rfl, by decide, gw_X4, tyX4_ok, nmX4, gS2 23 rfl rfl⟩
set_option maxRecDepth 20000 in
theorem fg_X11_335 : zFL RX11 335 4 0 := ⟨RX4, TX4, 12, tyX4, rfl, by decide, gw_X4, tyX4_ok, nmX4, gS2 19 rfl rfl⟩
set_option maxRecDepth 20000 in
theorem fg_X11_350 : zFL RX11 350 4 6 := ⟨RX4, TX4, 12, tyX4, rfl, by decide, gw_X4, tyX4_ok, nmX4, gS2 31 rfl rfl⟩
set_option maxRecDepth 20000 in
theorem fg_X11_354 : zFL RX11 354 4 4 := ⟨RX4, TX4, 12, tyX4, rfl, by decide, gw_X4, tyX4_ok, nmX4, gS2 27 rfl rfl⟩
set_option maxRecDepth 20000 in
theorem fg_X11_357 : zFL RX11 357 4 5 := ⟨RX4, TX4, 12, tyX4, rfl, by decide, gw_X4, tyX4_ok, nmX4, gS2 29 rfl rfl⟩
set_option maxRecDepth 20000 in
theorem fg_X11_366 : zFL RX11 366 0 2 := ⟨RX0, TX0, 8, tyX0, rfl, by decide, gw_X0, tyX0_ok, nmX0, gS2 76 rfl rfl⟩
set_option maxRecDepth 20000 in
theorem fg_X11_373 : zFL RX11 373 4 7 := ⟨RX4, TX4, 12, tyX4, rfl, by decide, gw_X4, tyX4_ok, nmX4, gS2 33 rfl rfl⟩
set_option maxRecDepth 20000 in
theorem fg_X11_376 : zFL RX11 376 4 8 := ⟨RX4, TX4, 12, tyX4, rfl, by decide, gw_X4, tyX4_ok, nmX4, gS2 35 rfl rfl⟩
set_option maxRecDepth 20000 in
theorem fg_X11_379 : zFL RX11 379 7 0 := ⟨RX7, TX7, 5, tyX7, rfl, by decide, gw_X7, tyX7_ok, nmX7, gS1 111 rfl rfl⟩
set_option maxRecDepth 20000 in
theorem fg_X0_9 : zFL RX0 9 0 3 := ⟨RX0, TX0, 8, tyX0, rfl, by decide, gw_X0, tyX0_ok, nmX0, gS2 77 rfl rfl⟩
set_option maxRecDepth 20000 in
theorem fg_X0_15 : zFL RX0 15 0 4 := ⟨RX0, TX0, 8, tyX0, rfl, by decide, gw_X0, tyX0_ok, nmX0, gS2 78 rfl rfl⟩
set_option maxRecDepth 20000 in
theorem fg_X0_18 : zFL RX0 18 0 5 := ⟨RX0, TX0, 8, tyX0, rfl, by decide, gw_X0, tyX0_ok, nmX0, gS2 79 rfl rfl⟩
set_option maxRecDepth 20000 in
theorem fg_X0_21 : zFL RX0 21 0 7 := ⟨RX0, TX0, 8, tyX0, rfl, by decide, gw_X0, tyX0_ok, nmX0, gS2 81 rfl rfl⟩
set_option maxRecDepth 20000 in
theorem fg_X0_31 : zFL RX0 31 5 1 := ⟨RX5, TX5, 5, tyX5, rfl, by decide, gw_X5, tyX5_ok, nmX5, gS1 65 rfl rfl⟩
set_option maxRecDepth 20000 in
theorem fg_X0_35 : zFL RX0 35 5 0 := ⟨RX5, TX5, 5, tyX5, rfl, by decide, gw_X5, tyX5_ok, nmX5, gS1 57 rfl rfl⟩
set_option maxRecDepth 20000 in
theorem fg_X0_52 : zFL RX0 52 0 0 := ⟨RX0, TX0, 8, tyX0, rfl, by decide, gw_X0, tyX0_ok, nmX0, gS2 71 rfl rfl⟩
set_option maxRecDepth 20000 in
theorem fp_X0_52 : zFP RX0 52 0 0 .int := ⟨RX0, TX0, 8, tyX0, rfl, by decide, gw_X0, tyX0_ok, nmX0, gS2 71 rfl rfl, rfl, by decide +kernel⟩
set_option maxRecDepth 20000 in
theorem fg_X0_55 : zFL RX0 55 0 1 := ⟨RX0, TX0, 8, tyX0, rfl, by decide, gw_X0, tyX0_ok, nmX0, gS2 73 rfl rfl⟩
set_option maxRecDepth 20000 in
theorem fp_X0_55 : zFP RX0 55 0 1 .int := ⟨RX0, TX0, 8, tyX0, rfl, by decide, gw_X0, tyX0_ok, nmX0, gS2 73 rfl rfl, rfl, by decide +kernel⟩
set_option maxRecDepth 20000 in
theorem fp_X0_58 : zFP RX0 58 0 2 .int := ⟨RX0, TX0, 8, tyX0, rfl, by decide, gw_X0, tyX0_ok, nmX0, gS2 75 rfl rfl, rfl, by decide +kernel⟩
set_option maxRecDepth 20000 in
theorem fg_X0_71 : zFL RX0 71 0 6 := ⟨RX0, TX0, 8, tyX0, rfl, by decide, gw_X0, tyX0_ok, nmX0, gS2 80 rfl rfl⟩
set_option maxRecDepth 20000 in
theorem fp_X0_71 : zFP RX0 71 0 6 .int := ⟨RX0, TX0, 8, tyX0, rfl, by decide, gw_X0, tyX0_ok, nmX0, gS2 80 rfl rfl, rfl, by decide +kernel⟩
set_option maxRecDepth 20000 in
theorem fg_X1_11 : zFL RX1 11 1 4 := ⟨RX1, TX1, 8, tyX1, rfl, by decide, gw_X1, tyX1_ok, nmX1, gS1 231 rfl rfl⟩
set_option maxRecDepth 20000 in
theorem fg_X1_18 : zFL RX1 18 1 5 := ⟨RX1, TX1, 8, tyX1, rfl, by decide, gw_X1, tyX1_ok, nmX1, gS1 232 rfl rfl⟩
set_option maxRecDepth 20000 in
theorem fg_X1_22 : zFL RX1 22 1 6 := ⟨RX1, TX1, 8, tyX1, rfl, by decide, gw_X1, tyX1_ok, nmX1, gS1 233 rfl rfl⟩
set_option maxRecDepth 20000 in
theorem fg_X1_25 : zFL RX1 25 1 7 := ⟨RX1, TX1, 8, tyX1, rfl, by decide, gw_X1, tyX1_ok, nmX1, gS1 234 rfl rfl⟩
set_option maxRecDepth 20000 in
theorem fp_X1_25 : zFP RX1 25 1 7 .int := ⟨RX1, TX1, 8, tyX1, rfl, by decide, gw_X1, tyX1_ok, nmX1, gS1 234 rfl rfl, rfl, by decide +kernel⟩
set_option maxRecDepth 20000 in
theorem fg_X1_29 : zFL RX1 29 1 2 := ⟨RX1, TX1, 8, tyX1, rfl, by decide, gw_X1, tyX1_ok, nmX1, gS1 229 rfl rfl⟩
set_option maxRecDepth 20000 in
theorem fg_X1_33 : zFL RX1 33 1 3 := ⟨RX1, TX1, 8, tyX1, rfl, by decide, gw_X1, tyX1_ok, nmX1, gS1 230 rfl rfl⟩
set_option maxRecDepth 20000 in
theorem fg_X1_42 : zFL RX1 42 1 0 := ⟨RX1, TX1, 8, tyX1, rfl, by decide, gw_X1, tyX1_ok, nmX1, gS1 225 rfl rfl⟩
set_option maxRecDepth 20000 in
theorem fg_X1_49 : zFL RX1 49 1 1 := ⟨RX1, TX1, 8, tyX1, rfl, by decide, gw_X1, tyX1_ok, nmX1, gS1 227 rfl rfl⟩
set_option maxRecDepth 20000 in
theorem fg_X1_53 : zFL RX1 53 7 0 := ⟨RX7, TX7, 5, tyX7, rfl, by decide, gw_X7, tyX7_ok, nmX7, gS1 110 rfl rfl⟩
set_option maxRecDepth 20000 in
theorem fg_X1_81 : zFL RX1 81 8 1 := ⟨RX8, TX8, 2, tyX8, rfl, by decide, gw_X8, tyX8_ok, nmX8, gS1 172 rfl rfl⟩
set_option maxRecDepth 20000 in
theorem fp_X1_81 : zFP RX1 81 8 1 .boolean := ⟨RX8, TX8, 2, tyX8, rfl, by decide, gw_X8, tyX8_ok, nmX8, gS1 172 rfl rfl, rfl, by decide +kernel⟩
set_option maxRecDepth 20000 in
theorem fg_X1_112 : zFL RX1 112 3 0 := ⟨RX3, TX3, 7, tyX3, rfl, by decide, gw_X3, tyX3_ok, nmX3, gS1 198 rfl rfl⟩
set_option maxRecDepth 20000 in
theorem fg_X1_115 : zFL RX1 115 3 1 := ⟨RX3, TX3, 7, tyX3, rfl, by decide, gw_X3, tyX3_ok, nmX3, gS1 201 rfl rfl⟩
set_option maxRecDepth 20000 in
theorem fg_X2_9 : zFL RX2 9 2 0 := ⟨RX2, TX2, 1, tyX2, rfl, by decide, gw_X2, tyX2_ok, nmX2, gS1 185 rfl rfl⟩
set_option maxRecDepth 20000 in
theorem fg_X2_15 : zFL RX2 15 5 1 := ⟨RX5, TX5, 5, tyX5, rfl, by decide, gw_X5, tyX5_ok, nmX5, gS1 62 rfl rfl⟩
set_option maxRecDepth 20000 in
theorem fg_X2_21 : zFL RX2 21 5 0 := ⟨RX5, TX5, 5, tyX5, rfl, by decide, gw_X5, tyX5_ok, nmX5, gS1 54 rfl rfl⟩
set_option maxRecDepth 20000 in
theorem fg_X2_24 : zFL RX2 24 8 0 := ⟨RX8, TX8, 2, tyX8, rfl, by decide, gw_X8, tyX8_ok, nmX8, gS1 169 rfl rfl⟩
set_option maxRecDepth 20000 in
theorem fg_X2_50 : zFL RX2 50 5 4 := ⟨RX5, TX5, 5, tyX5, rfl, by decide, gw_X5, tyX5_ok, nmX5, gS1 74 rfl rfl⟩
set_option maxRecDepth 20000 in
theorem fg_X3_9 : zFL RX3 9 3 3 := ⟨RX3, TX3, 7, tyX3, rfl, by decide, gw_X3, tyX3_ok, nmX3, gS1 205 rfl rfl⟩
set_option maxRecDepth 20000 in
theorem fg_X3_17 : zFL RX3 17 3 4 := ⟨RX3, TX3, 7, tyX3, rfl, by decide, gw_X3, tyX3_ok, nmX3, gS1 207 rfl rfl⟩
set_option maxRecDepth 20000 in
theorem fg_X3_20 : zFL RX3 20 3 5 := ⟨RX3, TX3, 7, tyX3, rfl, by decide, gw_X3, tyX3_ok, nmX3, gS1 208 rfl rfl⟩
set_option maxRecDepth 20000 in
theorem fg_X3_23 : zFL RX3 23 3 6 := ⟨RX3, TX3, 7, tyX3, rfl, by decide, gw_X3, tyX3_ok, nmX3, gS1 209 rfl rfl⟩
set_option maxRecDepth 20000 in
theorem fg_X3_27 : zFL RX3 27 8 0 := ⟨RX8, TX8, 2, tyX8, rfl, by decide, gw_X8, tyX8_ok, nmX8, gS1 168 rfl rfl⟩
set_option maxRecDepth 20000 in
theorem fg_X3_42 : zFL RX3 42 5 1 := ⟨RX5, TX5, 5, tyX5, rfl, by decide, gw_X5, tyX5_ok, nmX5, gS1 64 rfl rfl⟩
set_option maxRecDepth 20000 in
theorem fg_X3_48 : zFL RX3 48 5 0 := ⟨RX5, TX5, 5, tyX5, rfl, by decide, gw_X5, tyX5_ok, nmX5, gS1 56 rfl rfl⟩
set_option maxRecDepth 20000 in
theorem fg_X3_63 : zFL RX3 63 3 2 := ⟨RX3, TX3, 7, tyX3, rfl, by decide, gw_X3, tyX3_ok, nmX3, gS1 203 rfl rfl⟩
set_option maxRecDepth 20000 in
theorem fp_X3_63 : zFP RX3 63 3 2 .int := ⟨RX3, TX3, 7, tyX3, rfl, by decide, gw_X3, tyX3_ok, nmX3, gS1 203 rfl rfl, rfl, by decide +kernel⟩
set_option maxRecDepth 20000 in
theorem fp_X3_73 : zFP RX3 73 3 0 .int := ⟨RX3, TX3, 7, tyX3, rfl, by decide, gw_X3, tyX3_ok, nmX3, gS1 197 rfl rfl, rfl, by decide +kernel⟩
set_option maxRecDepth 20000 in
theorem fp_X3_76 : zFP RX3 76 3 1 .int := ⟨RX3, TX3, 7, tyX3, rfl, by decide, gw_X3, tyX3_ok, nmX3, gS1 200 rfl rfl, rfl, by decide +kernel⟩
set_option maxRecDepth 20000 in
theorem fg_X4_9 : zFL RX4 9 4 9 := ⟨RX4, TX4, 12, tyX4, rfl, by decide, gw_X4, tyX4_ok, nmX4, gS2 36 rfl rfl⟩
set_option maxRecDepth 20000 in
theorem fg_X4_15 : zFL RX4 15 4 10 := ⟨RX4, TX4, 12, tyX4, rfl, by decide, gw_X4, tyX4_ok, nmX4, gS2 37 rfl rfl⟩
set_option maxRecDepth 20000 in
theorem fg_X4_19 : zFL RX4 19 4 11 := ⟨RX4, TX4, 12, tyX4, rfl, by decide, gw_X4, tyX4_ok, nmX4, gS2 38 rfl rfl⟩
set_option maxRecDepth 20000 in
theorem fg_X4_27 : zFL RX4 27 4 0 := ⟨RX4, TX4, 12, tyX4, rfl, by decide, gw_X4, tyX4_ok, nmX4, gS2 18 rfl rfl⟩
set_option maxRecDepth 20000 in
theorem fp_X4_27 : zFP RX4 27 4 0 .int := ⟨RX4, TX4, 12, tyX4, rfl, by decide, gw_X4, tyX4_ok, nmX4, gS2 18 rfl rfl, rfl, by decide +kernel⟩
set_option maxRecDepth 20000 in
theorem fg_X4_31 : zFL RX4 31 5 1 := ⟨RX5, TX5, 5, tyX5, rfl, by decide, gw_X5, tyX5_ok, nmX5, gS1 66 rfl rfl⟩
set_option maxRecDepth 20000 in
theorem fg_X4_36 : zFL RX4 36 5 0 := ⟨RX5, TX5, 5, tyX5, rfl, by decide, gw_X5, tyX5_ok, nmX5, gS1 58 rfl rfl⟩
set_option maxRecDepth 20000 in
theorem fg_X4_85 : zFL RX4 85 4 1 := ⟨RX4, TX4, 12, tyX4, rfl, by decide, gw_X4, tyX4_ok, nmX4, gS2 20 rfl rfl⟩
set_option maxRecDepth 20000 in
theorem fp_X4_85 : zFP RX4 85 4 1 .int := ⟨RX4, TX4, 12, tyX4, rfl, by decide, gw_X4, tyX4_ok, nmX4, gS2 20 rfl rfl, rfl, by decide +kernel⟩
set_option maxRecDepth 20000 in
theorem fg_X4_88 : zFL RX4 88 4 2 := ⟨RX4, TX4, 12, tyX4, rfl, by decide, gw_X4, tyX4_ok, nmX4, gS2 22 rfl rfl⟩
set_option maxRecDepth 20000 in
theorem fp_X4_88 : zFP RX4 88 4 2 .int := ⟨RX4, TX4, 12, tyX4, rfl, by decide, gw_X4, tyX4_ok, nmX4, gS2 22 rfl rfl, rfl, by decide +kernel⟩
set_option maxRecDepth 20000 in
theorem fg_X4_91 : zFL RX4 91 4 3 := ⟨RX4, TX4, 12, tyX4, rfl, by decide, gw_X4, tyX4_ok, nmX4, gS2 24 rfl rfl⟩
set_option maxRecDepth 20000 in
theorem fp_X4_91 : zFP RX4 91 4 3 .int := ⟨RX4, TX4, 12, tyX4, rfl, by decide, gw_X4, tyX4_ok, nmX4, gS2 24 rfl rfl, rfl, by decide +kernel⟩
set_option maxRecDepth 20000 in
theorem fg_X4_94 : zFL RX4 94 8 0 := ⟨RX8, TX8, 2, tyX8, rfl, by decide, gw_X8, tyX8_ok, nmX8, gS1 170 rfl rfl⟩
set_option maxRecDepth 20000 in
theorem fg_X4_112 : zFL RX4 112 4 4 := ⟨RX4, TX4, 12, tyX4, rfl, by decide, gw_X4, tyX4_ok, nmX4, gS2 26 rfl rfl⟩
set_option maxRecDepth 20000 in
theorem fp_X4_112 : zFP RX4 112 4 4 .long := ⟨RX4, TX4, 12, tyX4, rfl, by decide, gw_X4, tyX4_ok, nmX4, gS2 26 rfl rfl, rfl, by decide +kernel⟩
set_option maxRecDepth 20000 in
theorem fg_X4_116 : zFL RX4 116 4 5 := ⟨RX4, TX4, 12, tyX4, rfl, by decide, gw_X4, tyX4_ok, nmX4, gS2 28 rfl rfl⟩
set_option maxRecDepth 20000 in
theorem fp_X4_116 : zFP RX4 116 4 5 .long := ⟨RX4, TX4, 12, tyX4, rfl, by decide, gw_X4, tyX4_ok, nmX4, gS2 28 rfl rfl, rfl, by decide +kernel⟩
set_option maxRecDepth 20000 in
theorem fg_X4_119 : zFL RX4 119 4 6 := ⟨RX4, TX4, 12, tyX4, rfl, by decide, gw_X4, tyX4_ok, nmX4, gS2 30 rfl rfl⟩
set_option maxRecDepth 20000 in
theorem fp_X4_119 : zFP RX4 119 4 6 .long := ⟨RX4, TX4, 12, tyX4, rfl, by decide, gw_X4, tyX4_ok, nmX4, gS2 30 rfl rfl, rfl, by decide +kernel⟩
set_option maxRecDepth 20000 in
theorem fg_X4_122 : zFL RX4 122 10 0 := ⟨RX10, TX10, 2, tyX10, rfl, by decide, gw_X10, tyX10_ok, nmX10, gS1 95 rfl rfl⟩
set_option maxRecDepth 20000 in
theorem fg_X4_136 : zFL RX4 136 4 7 := ⟨RX4, TX4, 12, tyX4, rfl, by decide, gw_X4, tyX4_ok, nmX4, gS2 32 rfl rfl⟩
set_option maxRecDepth 20000 in
theorem fp_X4_136 : zFP RX4 136 4 7 .int := ⟨RX4, TX4, 12, tyX4, rfl, by decide, gw_X4, tyX4_ok, nmX4, gS2 32 rfl rfl, rfl, by decide +kernel⟩
set_option maxRecDepth 20000 in
theorem fg_X4_139 : zFL RX4 139 4 8 := ⟨RX4, TX4, 12, tyX4, rfl, by decide, gw_X4, tyX4_ok, nmX4, gS2 34 rfl rfl⟩
set_option maxRecDepth 20000 in
theorem fp_X4_139 : zFP RX4 139 4 8 .int := ⟨RX4, TX4, 12, tyX4, rfl, by decide, gw_X4, tyX4_ok, nmX4, gS2 34 rfl rfl, rfl, by decide +kernel⟩
set_option maxRecDepth 20000 in
theorem fg_X4_142 : zFL RX4 142 8 1 := ⟨RX8, TX8, 2, tyX8, rfl, by decide, gw_X8, tyX8_ok, nmX8, gS1 173 rfl rfl⟩
set_option maxRecDepth 20000 in
theorem fg_X5_9 : zFL RX5 9 5 0 := ⟨RX5, TX5, 5, tyX5, rfl, by decide, gw_X5, tyX5_ok, nmX5, gS1 52 rfl rfl⟩
set_option maxRecDepth 20000 in
theorem fp_X5_9 : zFP RX5 9 5 0 .int := ⟨RX5, TX5, 5, tyX5, rfl, by decide, gw_X5, tyX5_ok, nmX5, gS1 52 rfl rfl, rfl, by decide +kernel⟩
set_option maxRecDepth 20000 in
theorem fg_X5_15 : zFL RX5 15 5 1 := ⟨RX5, TX5, 5, tyX5, rfl, by decide, gw_X5, tyX5_ok, nmX5, gS1 60 rfl rfl⟩
set_option maxRecDepth 20000 in
theorem fp_X5_15 : zFP RX5 15 5 1 .int := ⟨RX5, TX5, 5, tyX5, rfl, by decide, gw_X5, tyX5_ok, nmX5, gS1 60 rfl rfl, rfl, by decide +kernel⟩
set_option maxRecDepth 20000 in
theorem fg_X5_18 : zFL RX5 18 5 3 := ⟨RX5, TX5, 5, tyX5, rfl, by decide, gw_X5, tyX5_ok, nmX5, gS1 70 rfl rfl⟩
set_option maxRecDepth 20000 in
theorem fg_X5_22 : zFL RX5 22 5 4 := ⟨RX5, TX5, 5, tyX5, rfl, by decide, gw_X5, tyX5_ok, nmX5, gS1 73 rfl rfl⟩
set_option maxRecDepth 20000 in
theorem fg_X5_25 : zFL RX5 25 5 2 := ⟨RX5, TX5, 5, tyX5, rfl, by decide, gw_X5, tyX5_ok, nmX5, gS1 68 rfl rfl⟩
set_option maxRecDepth 20000 in
theorem fp_X5_25 : zFP RX5 25 5 2 .int := ⟨RX5, TX5, 5, tyX5, rfl, by decide, gw_X5, tyX5_ok, nmX5, gS1 68 rfl rfl, rfl, by decide +kernel⟩
set_option maxRecDepth 20000 in
theorem fg_X6_12 : zFL RX6 12 6 0 := ⟨RX6, TX6, 5, tyX6, rfl, by decide, gw_X6, tyX6_ok, nmX6, gS1 137 rfl rfl⟩
set_option maxRecDepth 20000 in
theorem fg_X6_18 : zFL RX6 18 6 1 := ⟨RX6, TX6, 5, tyX6, rfl, by decide, gw_X6, tyX6_ok, nmX6, gS1 139 rfl rfl⟩
set_option maxRecDepth 20000 in
theorem fg_X6_25 : zFL RX6 25 6 2 := ⟨RX6, TX6, 5, tyX6, rfl, by decide, gw_X6, tyX6_ok, nmX6, gS1 140 rfl rfl⟩
set_option maxRecDepth 20000 in
theorem fp_X6_25 : zFP RX6 25 6 2 .int := ⟨RX6, TX6, 5, tyX6, rfl, by decide, gw_X6, tyX6_ok, nmX6, gS1 140 rfl rfl, rfl, by decide +kernel⟩
set_option maxRecDepth 20000 in
theorem fg_X6_29 : zFL RX6 29 6 3 := ⟨RX6, TX6, 5, tyX6, rfl, by decide, gw_X6, tyX6_ok, nmX6, gS1 141 rfl rfl⟩
set_option maxRecDepth 20000 in
theorem fp_X6_29 : zFP RX6 29 6 3 .int := ⟨RX6, TX6, 5, tyX6, rfl, by decide, gw_X6, tyX6_ok, nmX6, gS1 141 rfl rfl, rfl, by decide +kernel⟩
set_option maxRecDepth 20000 in
theorem fg_X6_32 : zFL RX6 32 6 4 := ⟨RX6, TX6, 5, tyX6, rfl, by decide, gw_X6, tyX6_ok, nmX6, gS1 142 rfl rfl⟩
set_option maxRecDepth 20000 in
theorem fp_X6_32 : zFP RX6 32 6 4 .int := ⟨RX6, TX6, 5, tyX6, rfl, by decide, gw_X6, tyX6_ok, nmX6, gS1 142 rfl rfl, rfl, by decide +kernel⟩
set_option maxRecDepth 20000 in
theorem fg_X6_38 : zFL RX6 38 7 0 := ⟨RX7, TX7, 5, tyX7, rfl, by decide, gw_X7, tyX7_ok, nmX7, gS1 109 rfl rfl⟩
set_option maxRecDepth 20000 in
theorem fg_X6_71 : zFL RX6 71 7 1 := ⟨RX7, TX7, 5, tyX7, rfl, by decide, gw_X7, tyX7_ok, nmX7, gS1 113 rfl rfl⟩
set_option maxRecDepth 20000 in
theorem fg_X7_9 : zFL RX7 9 7 2 := ⟨RX7, TX7, 5, tyX7, rfl, by decide, gw_X7, tyX7_ok, nmX7, gS1 115 rfl rfl⟩
set_option maxRecDepth 20000 in
theorem fg_X7_15 : zFL RX7 15 7 3 := ⟨RX7, TX7, 5, tyX7, rfl, by decide, gw_X7, tyX7_ok, nmX7, gS1 116 rfl rfl⟩
set_option maxRecDepth 20000 in
theorem fg_X7_18 : zFL RX7 18 7 4 := ⟨RX7, TX7, 5, tyX7, rfl, by decide, gw_X7, tyX7_ok, nmX7, gS1 117 rfl rfl⟩
set_option maxRecDepth 20000 in
theorem fg_X7_21 : zFL RX7 21 7 0 := ⟨RX7, TX7, 5, tyX7, rfl, by decide, gw_X7, tyX7_ok, nmX7, gS1 108 rfl rfl⟩
set_option maxRecDepth 20000 in
theorem fp_X7_21 : zFP RX7 21 7 0 .int := ⟨RX7, TX7, 5, tyX7, rfl, by decide, gw_X7, tyX7_ok, nmX7, gS1 108 rfl rfl, rfl, by decide +kernel⟩
set_option maxRecDepth 20000 in
theorem fg_X7_25 : zFL RX7 25 7 1 := ⟨RX7, TX7, 5, tyX7, rfl, by decide, gw_X7, tyX7_ok, nmX7, gS1 112 rfl rfl⟩
set_option maxRecDepth 20000 in
theorem fp_X7_25 : zFP RX7 25 7 1 .int := ⟨RX7, TX7, 5, tyX7, rfl, by decide, gw_X7, tyX7_ok, nmX7, gS1 112 rfl rfl, rfl, by decide +kernel⟩
set_option maxRecDepth 20000 in
theorem fg_X8_9 : zFL RX8 9 8 0 := ⟨RX8, TX8, 2, tyX8, rfl, by decide, gw_X8, tyX8_ok, nmX8, gS1 167 rfl rfl⟩
set_option maxRecDepth 20000 in
theorem fg_X8_15 : zFL RX8 15 8 1 := ⟨RX8, TX8, 2, tyX8, rfl, by decide, gw_X8, tyX8_ok, nmX8, gS1 171 rfl rfl⟩
set_option maxRecDepth 20000 in
theorem fp_X8_15 : zFP RX8 15 8 1 .boolean := ⟨RX8, TX8, 2, tyX8, rfl, by decide, gw_X8, tyX8_ok, nmX8, gS1 171 rfl rfl, rfl, by decide +kernel⟩
set_option maxRecDepth 20000 in
theorem fg_X8_19 : zFL RX8 19 5 1 := ⟨RX5, TX5, 5, tyX5, rfl, by decide, gw_X5, tyX5_ok, nmX5, gS1 61 rfl rfl⟩
set_option maxRecDepth 20000 in
theorem fg_X8_25 : zFL RX8 25 5 0 := ⟨RX5, TX5, 5, tyX5, rfl, by decide, gw_X5, tyX5_ok, nmX5, gS1 53 rfl rfl⟩
set_option maxRecDepth 20000 in
theorem fg_X8_28 : zFL RX8 28 5 3 := ⟨RX5, TX5, 5, tyX5, rfl, by decide, gw_X5, tyX5_ok, nmX5, gS1 71 rfl rfl⟩
set_option maxRecDepth 20000 in
theorem fg_X9_9 : zFL RX9 9 9 0 := ⟨RX9, TX9, 2, tyX9, rfl, by decide, gw_X9, tyX9_ok, nmX9, gS1 37 rfl rfl⟩
set_option maxRecDepth 20000 in
theorem fg_X9_15 : zFL RX9 15 9 1 := ⟨RX9, TX9, 2, tyX9, rfl, by decide, gw_X9, tyX9_ok, nmX9, gS1 39 rfl rfl⟩
set_option maxRecDepth 20000 in
theorem fp_X9_15 : zFP RX9 15 9 1 .int := ⟨RX9, TX9, 2, tyX9, rfl, by decide, gw_X9, tyX9_ok, nmX9, gS1 39 rfl rfl, rfl, by decide +kernel⟩
set_option maxRecDepth 20000 in
theorem fg_X10_9 : zFL RX10 9 10 0 := ⟨RX10, TX10, 2, tyX10, rfl, by decide, gw_X10, tyX10_ok, nmX10, gS1 93 rfl rfl⟩
set_option maxRecDepth 20000 in
theorem fg_X10_21 : zFL RX10 21 5 1 := ⟨RX5, TX5, 5, tyX5, rfl, by decide, gw_X5, tyX5_ok, nmX5, gS1 63 rfl rfl⟩
set_option maxRecDepth 20000 in
theorem fg_X10_27 : zFL RX10 27 5 0 := ⟨RX5, TX5, 5, tyX5, rfl, by decide, gw_X5, tyX5_ok, nmX5, gS1 55 rfl rfl⟩
set_option maxRecDepth 20000 in
theorem fg_X12_7 : zFL RX12 7 12 0 := ⟨RX12, TX12, 54, tyX12, rfl, by decide, gw_X12, tyX12_ok, nmX12, gS5 211 rfl rfl⟩
set_option maxRecDepth 20000 in
theorem fg_X12_13 : zFL RX12 13 12 1 := ⟨RX12, TX12, 54, tyX12, rfl, by decide, gw_X12, tyX12_ok, nmX12, gS5 212 rfl rfl⟩
set_option maxRecDepth 20000 in
theorem fg_X12_16 : zFL RX12 16 12 2 := ⟨RX12, TX12, 54, tyX12, rfl, by decide, gw_X12, tyX12_ok, nmX12, gS5 213 rfl rfl⟩
set_option maxRecDepth 20000 in
theorem fg_X12_19 : zFL RX12 19 12 3 := ⟨RX12, TX12, 54, tyX12, rfl, by decide, gw_X12, tyX12_ok, nmX12, gS5 214 rfl rfl⟩
set_option maxRecDepth 20000 in
theorem fg_X12_22 : zFL RX12 22 12 4 := ⟨RX12, TX12, 54, tyX12, rfl, by decide, gw_X12, tyX12_ok, nmX12, gS5 215 rfl rfl⟩
set_option maxRecDepth 20000 in
theorem fg_X12_25 : zFL RX12 25 12 5 := ⟨RX12, TX12, 54, tyX12, rfl, by decide, gw_X12, tyX12_ok, nmX12, gS5 216 rfl rfl⟩
set_option maxRecDepth 20000 in
theorem fg_X12_28 : zFL RX12 28 12 6 := ⟨RX12, TX12, 54, tyX12, rfl, by decide, gw_X12, tyX12_ok, nmX12, gS5 217 rfl rfl⟩
set_option maxRecDepth 20000 in
theorem fg_X12_31 : zFL RX12 31 12 7 := ⟨RX12, TX12, 54, tyX12, rfl, by decide, gw_X12, tyX12_ok, nmX12, gS5 218 rfl rfl⟩
set_option maxRecDepth 20000 in
theorem fg_X12_34 : zFL RX12 34 12 8 := ⟨RX12, TX12, 54, tyX12, rfl, by decide, gw_X12, tyX12_ok, nmX12, gS5 219 rfl rfl⟩
set_option maxRecDepth 20000 in
theorem fg_X12_37 : zFL RX12 37 12 9 := ⟨RX12, TX12, 54, tyX12, rfl, by decide, gw_X12, tyX12_ok, nmX12, gS5 220 rfl rfl⟩
set_option maxRecDepth 20000 in
theorem fg_X12_41 : zFL RX12 41 12 10 := ⟨RX12, TX12, 54, tyX12, rfl, by decide, gw_X12, tyX12_ok, nmX12, gS5 221 rfl rfl⟩
set_option maxRecDepth 20000 in
theorem fg_X12_44 : zFL RX12 44 12 24 := ⟨RX12, TX12, 54, tyX12, rfl, by decide, gw_X12, tyX12_ok, nmX12, gS5 235 rfl rfl⟩
set_option maxRecDepth 20000 in
theorem fg_X12_48 : zFL RX12 48 12 32 := ⟨RX12, TX12, 54, tyX12, rfl, by decide, gw_X12, tyX12_ok, nmX12, gS6 3 rfl rfl⟩
set_option maxRecDepth 20000 in
theorem fg_X12_51 : zFL RX12 51 12 33 := ⟨RX12, TX12, 54, tyX12, rfl, by decide, gw_X12, tyX12_ok, nmX12, gS6 4 rfl rfl⟩
set_option maxRecDepth 20000 in
theorem fg_X12_54 : zFL RX12 54 12 34 := ⟨RX12, TX12, 54, tyX12, rfl, by decide, gw_X12, tyX12_ok, nmX12, gS6 5 rfl rfl⟩
set_option maxRecDepth 20000 in
theorem fg_X12_57 : zFL RX12 57 12 35 := ⟨RX12, TX12, 54, tyX12, rfl, by decide, gw_X12, tyX12_ok, nmX12, gS6 6 rfl rfl⟩
set_option maxRecDepth 20000 in
theorem fg_X12_60 : zFL RX12 60 12 36 := ⟨RX12, TX12, 54, tyX12, rfl, by decide, gw_X12, tyX12_ok, nmX12, gS6 7 rfl rfl⟩
set_option maxRecDepth 20000 in
theorem fg_X12_63 : zFL RX12 63 12 37 := ⟨RX12, TX12, 54, tyX12, rfl, by decide, gw_X12, tyX12_ok, nmX12, gS6 8 rfl rfl⟩
set_option maxRecDepth 20000 in
theorem fg_X12_66 : zFL RX12 66 12 38 := ⟨RX12, TX12, 54, tyX12, rfl, by decide, gw_X12, tyX12_ok, nmX12, gS6 9 rfl rfl⟩
set_option maxRecDepth 20000 in
theorem fg_X12_69 : zFL RX12 69 12 39 := ⟨RX12, TX12, 54, tyX12, rfl, by decide, gw_X12, tyX12_ok, nmX12, gS6 10 rfl rfl⟩
set_option maxRecDepth 20000 in
theorem fg_X12_72 : zFL RX12 72 12 40 := ⟨RX12, TX12, 54, tyX12, rfl, by decide, gw_X12, tyX12_ok, nmX12, gS6 11 rfl rfl⟩
set_option maxRecDepth 20000 in
theorem fg_X12_75 : zFL RX12 75 12 41 := ⟨RX12, TX12, 54, tyX12, rfl, by decide, gw_X12, tyX12_ok, nmX12, gS6 12 rfl rfl⟩
set_option maxRecDepth 20000 in
theorem fg_X12_78 : zFL RX12 78 12 42 := ⟨RX12, TX12, 54, tyX12, rfl, by decide, gw_X12, tyX12_ok, nmX12, gS6 13 rfl rfl⟩
set_option maxRecDepth 20000 in
theorem fg_X12_81 : zFL RX12 81 12 43 := ⟨RX12, TX12, 54, tyX12, rfl, by decide, gw_X12, tyX12_ok, nmX12, gS6 14 rfl rfl⟩
set_option maxRecDepth 20000 in
theorem fg_X12_84 : zFL RX12 84 12 48 := ⟨RX12, TX12, 54, tyX12, rfl, by decide, gw_X12, tyX12_ok, nmX12, gS6 19 rfl rfl⟩
set_option maxRecDepth 20000 in
theorem fg_X12_87 : zFL RX12 87 12 49 := ⟨RX12, TX12, 54, tyX12, rfl, by decide, gw_X12, tyX12_ok, nmX12, gS6 20 rfl rfl⟩
set_option maxRecDepth 20000 in
theorem fg_X12_90 : zFL RX12 90 12 50 := ⟨RX12, TX12, 54, tyX12, rfl, by decide, gw_X12, tyX12_ok, nmX12, gS6 21 rfl rfl⟩
set_option maxRecDepth 20000 in
theorem fg_X12_93 : zFL RX12 93 12 51 := ⟨RX12, TX12, 54, tyX12, rfl, by decide, gw_X12, tyX12_ok, nmX12, gS6 22 rfl rfl⟩
set_option maxRecDepth 20000 in
theorem fg_X12_96 : zFL RX12 96 12 52 := ⟨RX12, TX12, 54, tyX12, rfl, by decide, gw_X12, tyX12_ok, nmX12, gS6 23 rfl rfl⟩
set_option maxRecDepth 20000 in
theorem fg_X12_99 : zFL RX12 99 12 11 := ⟨RX12, TX12, 54, tyX12, rfl, by decide, gw_X12, tyX12_ok, nmX12, gS5 222 rfl rfl⟩
set_option maxRecDepth 20000 in
theorem fp_X12_99 : zFP RX12 99 12 11 .int := ⟨RX12, TX12, 54, tyX12, rfl, by decide, gw_X12, tyX12_ok, nmX12, gS5 222 rfl rfl, rfl, by decide +kernel⟩
set_option maxRecDepth 20000 in
theorem fg_X12_103 : zFL RX12 103 12 12 := ⟨RX12, TX12, 54, tyX12, rfl, by decide, gw_X12, tyX12_ok, nmX12, gS5 223 rfl rfl⟩
set_option maxRecDepth 20000 in
theorem fp_X12_103 : zFP RX12 103 12 12 .int := ⟨RX12, TX12, 54, tyX12, rfl, by decide, gw_X12, tyX12_ok, nmX12, gS5 223 rfl rfl, rfl, by decide +kernel⟩
set_option maxRecDepth 20000 in
theorem fg_X12_106 : zFL RX12 106 12 15 := ⟨RX12, TX12, 54, tyX12, rfl, by decide, gw_X12, tyX12_ok, nmX12, gS5 226 rfl rfl⟩
set_option maxRecDepth 20000 in
theorem fp_X12_106 : zFP RX12 106 12 15 .int := ⟨RX12, TX12, 54, tyX12, rfl, by decide, gw_X12, tyX12_ok, nmX12, gS5 226 rfl rfl, rfl, by decide +kernel⟩
set_option maxRecDepth 20000 in
theorem fg_X12_116 : zFL RX12 116 12 25 := ⟨RX12, TX12, 54, tyX12, rfl, by decide, gw_X12, tyX12_ok, nmX12, gS5 236 rfl rfl⟩
set_option maxRecDepth 20000 in
theorem fp_X12_116 : zFP RX12 116 12 25 .int := ⟨RX12, TX12, 54, tyX12, rfl, by decide, gw_X12, tyX12_ok, nmX12, gS5 236 rfl rfl, rfl, by decide +kernel⟩
set_option maxRecDepth 20000 in
theorem fg_X12_123 : zFL RX12 123 12 26 := ⟨RX12, TX12, 54, tyX12, rfl, by decide, gw_X12, tyX12_ok, nmX12, gS5 237 rfl rfl⟩
set_option maxRecDepth 20000 in
theorem fp_X12_123 : zFP RX12 123 12 26 .int := ⟨RX12, TX12, 54, tyX12, rfl, by decide, gw_X12, tyX12_ok, nmX12, gS5 237 rfl rfl, rfl, by decide +kernel⟩
set_option maxRecDepth 20000 in
theorem fg_X12_126 : zFL RX12 126 12 27 := ⟨RX12, TX12, 54, tyX12, rfl, by decide, gw_X12, tyX12_ok, nmX12, gS5 238 rfl rfl⟩
set_option maxRecDepth 20000 in
theorem fp_X12_126 : zFP RX12 126 12 27 .int := ⟨RX12, TX12, 54, tyX12, rfl, by decide, gw_X12, tyX12_ok, nmX12, gS5 238 rfl rfl, rfl, by decide +kernel⟩
set_option maxRecDepth 20000 in
theorem fg_X12_129 : zFL RX12 129 12 28 := ⟨RX12, TX12, 54, tyX12, rfl, by decide, gw_X12, tyX12_ok, nmX12, gS5 239 rfl rfl⟩
set_option maxRecDepth 20000 in
theorem fp_X12_129 : zFP RX12 129 12 28 .int := ⟨RX12, TX12, 54, tyX12, rfl, by decide, gw_X12, tyX12_ok, nmX12, gS5 239 rfl rfl, rfl, by decide +kernel⟩
set_option maxRecDepth 20000 in
theorem fg_X12_148 : zFL RX12 148 12 29 := ⟨RX12, TX12, 54, tyX12, rfl, by decide, gw_X12, tyX12_ok, nmX12, gS6 0 rfl rfl⟩
set_option maxRecDepth 20000 in
theorem fp_X12_148 : zFP RX12 148 12 29 .int := ⟨RX12, TX12, 54, tyX12, rfl, by decide, gw_X12, tyX12_ok, nmX12, gS6 0 rfl rfl, rfl, by decide +kernel⟩
set_option maxRecDepth 20000 in
theorem fg_X12_151 : zFL RX12 151 12 31 := ⟨RX12, TX12, 54, tyX12, rfl, by decide, gw_X12, tyX12_ok, nmX12, gS6 2 rfl rfl⟩
set_option maxRecDepth 20000 in
theorem fp_X12_151 : zFP RX12 151 12 31 .int := ⟨RX12, TX12, 54, tyX12, rfl, by decide, gw_X12, tyX12_ok, nmX12, gS6 2 rfl rfl, rfl, by decide +kernel⟩
set_option maxRecDepth 20000 in
theorem fg_X12_167 : zFL RX12 167 12 30 := ⟨RX12, TX12, 54, tyX12, rfl, by decide, gw_X12, tyX12_ok, nmX12, gS6 1 rfl rfl⟩
set_option maxRecDepth 20000 in
theorem fp_X12_167 : zFP RX12 167 12 30 .int := ⟨RX12, TX12, 54, tyX12, rfl, by decide, gw_X12, tyX12_ok, nmX12, gS6 1 rfl rfl, rfl, by decide +kernel⟩
set_option maxRecDepth 20000 in
theorem fg_X12_185 : zFL RX12 185 12 14 := ⟨RX12, TX12, 54, tyX12, rfl, by decide, gw_X12, tyX12_ok, nmX12, gS5 225 rfl rfl⟩
set_option maxRecDepth 20000 in
theorem fp_X12_185 : zFP RX12 185 12 14 .int := ⟨RX12, TX12, 54, tyX12, rfl, by decide, gw_X12, tyX12_ok, nmX12, gS5 225 rfl rfl, rfl, by decide +kernel⟩
set_option maxRecDepth 20000 in
theorem fg_X12_192 : zFL RX12 192 12 23 := ⟨RX12, TX12, 54, tyX12, rfl, by decide, gw_X12, tyX12_ok, nmX12, gS5 234 rfl rfl⟩
set_option maxRecDepth 20000 in
theorem fp_X12_192 : zFP RX12 192 12 23 .boolean := ⟨RX12, TX12, 54, tyX12, rfl, by decide, gw_X12, tyX12_ok, nmX12, gS5 234 rfl rfl, rfl, by decide +kernel⟩
set_option maxRecDepth 20000 in
theorem fg_X12_209 : zFL RX12 209 12 13 := ⟨RX12, TX12, 54, tyX12, rfl, by decide, gw_X12, tyX12_ok, nmX12, gS5 224 rfl rfl⟩
set_option maxRecDepth 20000 in
theorem fp_X12_209 : zFP RX12 209 12 13 .int := ⟨RX12, TX12, 54, tyX12, rfl, by decide, gw_X12, tyX12_ok, nmX12, gS5 224 rfl rfl, rfl, by decide +kernel⟩
set_option maxRecDepth 20000 in
theorem fg_X12_212 : zFL RX12 212 12 21 := ⟨RX12, TX12, 54, tyX12, rfl, by decide, gw_X12, tyX12_ok, nmX12, gS5 232 rfl rfl⟩
set_option maxRecDepth 20000 in
theorem fp_X12_212 : zFP RX12 212 12 21 .boolean := ⟨RX12, TX12, 54, tyX12, rfl, by decide, gw_X12, tyX12_ok, nmX12, gS5 232 rfl rfl, rfl, by decide +kernel⟩
set_option maxRecDepth 20000 in
theorem fg_X12_292 : zFL RX12 292 12 46 := ⟨RX12, TX12, 54, tyX12, rfl, by decide, gw_X12, tyX12_ok, nmX12, gS6 17 rfl rfl⟩
set_option maxRecDepth 20000 in
theorem fp_X12_292 : zFP RX12 292 12 46 .int := ⟨RX12, TX12, 54, tyX12, rfl, by decide, gw_X12, tyX12_ok, nmX12, gS6 17 rfl rfl, rfl, by decide +kernel⟩
set_option maxRecDepth 20000 in
theorem fg_X12_301 : zFL RX12 301 12 44 := ⟨RX12, TX12, 54, tyX12, rfl, by decide, gw_X12, tyX12_ok, nmX12, gS6 15 rfl rfl⟩
set_option maxRecDepth 20000 in
theorem fp_X12_301 : zFP RX12 301 12 44 .int := ⟨RX12, TX12, 54, tyX12, rfl, by decide, gw_X12, tyX12_ok, nmX12, gS6 15 rfl rfl, rfl, by decide +kernel⟩
set_option maxRecDepth 20000 in
theorem fg_X12_304 : zFL RX12 304 12 45 := ⟨RX12, TX12, 54, tyX12, rfl, by decide, gw_X12, tyX12_ok, nmX12, gS6 16 rfl rfl⟩
set_option maxRecDepth 20000 in
theorem fp_X12_304 : zFP RX12 304 12 45 .int := ⟨RX12, TX12, 54, tyX12, rfl, by decide, gw_X12, tyX12_ok, nmX12, gS6 16 rfl rfl, rfl, by decide +kernel⟩
set_option maxRecDepth 20000 in
theorem fg_X12_310 : zFL RX12 310 12 47 := ⟨RX12, TX12, 54, tyX12, rfl, by decide, gw_X12, tyX12_ok, nmX12, gS6 18 rfl rfl⟩
set_option maxRecDepth 20000 in
theorem fp_X12_310 : zFP RX12 310 12 47 .int := ⟨RX12, TX12, 54, tyX12, rfl, by decide, gw_X12, tyX12_ok, nmX12, gS6 18 rfl rfl, rfl, by decide +kernel⟩
set_option maxRecDepth 20000 in
theorem fg_X12_403 : zFL RX12 403 12 53 := ⟨RX12, TX12, 54, tyX12, rfl, by decide, gw_X12, tyX12_ok, nmX12, gS6 24 rfl rfl⟩
set_option maxRecDepth 20000 in
theorem fp_X12_403 : zFP RX12 403 12 53 .int := ⟨RX12, TX12, 54, tyX12, rfl, by decide, gw_X12, tyX12_ok, nmX12, gS6 24 rfl rfl, rfl, by decide +kernel⟩
set_option maxRecDepth 20000 in
theorem fg_X12_457 : zFL RX12 457 12 22 := ⟨RX12, TX12, 54, tyX12, rfl, by decide, gw_X12, tyX12_ok, nmX12, gS5 233 rfl rfl⟩
set_option maxRecDepth 20000 in
theorem fp_X12_457 : zFP RX12 457 12 22 .boolean := ⟨RX12, TX12, 54, tyX12, rfl, by decide, gw_X12, tyX12_ok, nmX12, gS5 233 rfl rfl, rfl, by decide +kernel⟩
set_option maxRecDepth 20000 in
theorem fg_X12_460 : zFL RX12 460 12 16 := ⟨RX12, TX12, 54, tyX12, rfl, by decide, gw_X12, tyX12_ok, nmX12, gS5 227 rfl rfl⟩
set_option maxRecDepth 20000 in
theorem fp_X12_460 : zFP RX12 460 12 16 .int := ⟨RX12, TX12, 54, tyX12, rfl, by decide, gw_X12, tyX12_ok, nmX12, gS5 227 rfl rfl, rfl, by decide +kernel⟩
set_option maxRecDepth 20000 in
theorem fg_X12_463 : zFL RX12 463 12 17 := ⟨RX12, TX12, 54, tyX12, rfl, by decide, gw_X12, tyX12_ok, nmX12, gS5 228 rfl rfl⟩
set_option maxRecDepth 20000 in
theorem fp_X12_463 : zFP RX12 463 12 17 .int := ⟨RX12, TX12, 54, tyX12, rfl, by decide, gw_X12, tyX12_ok, nmX12, gS5 228 rfl rfl, rfl, by decide +kernel⟩
set_option maxRecDepth 20000 in
theorem fg_X12_466 : zFL RX12 466 12 18 := ⟨RX12, TX12, 54, tyX12, rfl, by decide, gw_X12, tyX12_ok, nmX12, gS5 229 rfl rfl⟩
set_option maxRecDepth 20000 in
theorem fp_X12_466 : zFP RX12 466 12 18 .int := ⟨RX12, TX12, 54, tyX12, rfl, by decide, gw_X12, tyX12_ok, nmX12, gS5 229 rfl rfl, rfl, by decide +kernel⟩
set_option maxRecDepth 20000 in
theorem fg_X12_469 : zFL RX12 469 12 19 := ⟨RX12, TX12, 54, tyX12, rfl, by decide, gw_X12, tyX12_ok, nmX12, gS5 230 rfl rfl⟩
set_option maxRecDepth 20000 in
theorem fp_X12_469 : zFP RX12 469 12 19 .int := ⟨RX12, TX12, 54, tyX12, rfl, by decide, gw_X12, tyX12_ok, nmX12, gS5 230 rfl rfl, rfl, by decide +kernel⟩
set_option maxRecDepth 20000 in
theorem fg_X12_472 : zFL RX12 472 12 20 := ⟨RX12, TX12, 54, tyX12, rfl, by decide, gw_X12, tyX12_ok, nmX12, gS5 231 rfl rfl⟩
set_option maxRecDepth 20000 in
theorem fp_X12_472 : zFP RX12 472 12 20 .int := ⟨RX12, TX12, 54, tyX12, rfl, by decide, gw_X12, tyX12_ok, nmX12, gS5 231 rfl rfl, rfl, by decide +kernel⟩
set_option maxRecDepth 20000 in
theorem kc_X11_395 : Cond.constant RX11 395 (65535 : Int32) ∈ gT := gS5 183 rfl rfl
set_option maxRecDepth 20000 in
theorem kc_X11_398 : Cond.constant RX11 398 (65536 : Int32) ∈ gT := gS3 132 rfl rfl
set_option maxRecDepth 20000 in
theorem kc_X12_224 : Cond.constant RX12 224 (65536 : Int32) ∈ gT := gS7 10 rfl rfl
set_option maxRecDepth 20000 in
theorem kc_X12_456 : Cond.constant RX12 456 (65535 : Int32) ∈ gT := gS8 135 rfl rfl
set_option maxRecDepth 20000 in
theorem kl_X11_340 : Cond.constantLong RX11 340 (-1 : Int64) ∈ gT := gS5 122 rfl rfl
set_option maxRecDepth 20000 in
theorem kl_X11_342 : Cond.constantLong RX11 342 (-3 : Int64) ∈ gT := gS5 123 rfl rfl
set_option maxRecDepth 20000 in
theorem kl_X11_344 : Cond.constantLong RX11 344 (-4 : Int64) ∈ gT := gS5 124 rfl rfl
set_option maxRecDepth 20000 in
theorem kl_X12_427 : Cond.constantLong RX12 427 (-1 : Int64) ∈ gT := gS8 84 rfl rfl
set_option maxRecDepth 20000 in
theorem kl_X12_429 : Cond.constantLong RX12 429 (-3 : Int64) ∈ gT := gS8 85 rfl rfl
set_option maxRecDepth 20000 in
theorem kl_X12_431 : Cond.constantLong RX12 431 (-4 : Int64) ∈ gT := gS8 86 rfl rfl
set_option maxRecDepth 20000 in
theorem kl_X12_450 : Cond.constantLong RX12 450 (1000000000 : Int64) ∈ gT := gS8 126 rfl rfl
set_option maxRecDepth 20000 in
theorem kl_J13_314 : Cond.constantLong RJ13 314 (6148914691236517205 : Int64) ∈ gT := gS5 57 rfl rfl
set_option maxRecDepth 20000 in
theorem kl_J13_316 : Cond.constantLong RJ13 316 (3689348814741910323 : Int64) ∈ gT := gS5 58 rfl rfl
set_option maxRecDepth 20000 in
theorem kl_J13_318 : Cond.constantLong RJ13 318 (1085102592571150095 : Int64) ∈ gT := gS5 59 rfl rfl
