/-! the law, decoded -/
theorem xo_76 {c : ByteArray} {K : Nat} {w : List Nat} (hw : xd_w c K w) (i : Nat) (h0 : xd_g w i = 76) : decode c (K + i) = .ok (.astore_n 1, 1) := by
  refine xd_c ((xd_b (xd_r hw h0 (by decide))).trans ?_)
  rfl
theorem xo_88 {c : ByteArray} {K : Nat} {w : List Nat} (hw : xd_w c K w) (i : Nat) (h0 : xd_g w i = 88) : decode c (K + i) = .ok (.pop2, 1) := by
  refine xd_c ((xd_b (xd_r hw h0 (by decide))).trans ?_)
  rfl
set_option maxRecDepth 20000 in
theorem xLc_0 : xd_w code 0 [187, 0, 7, 89, 183, 0, 9, 76, 187, 0, 10, 89, 183, 0, 12, 77, 3, 62, 29, 42, 190, 16, 6, 100, 163, 6, 26] := by unfold xd_w; decide +kernel
set_option maxRecDepth 20000 in
theorem dLc_0 : decode code 0 = .ok (.new 7, 3) ∧ decode code 3 = .ok (.dup, 1) ∧ decode code 4 = .ok (.invokespecial 9, 3) ∧ decode code 7 = .ok (.astore_n 1, 1) ∧ decode code 8 = .ok (.new 10, 3) ∧ decode code 11 = .ok (.dup, 1) ∧ decode code 12 = .ok (.invokespecial 12, 3) ∧ decode code 15 = .ok (.astore_n 2, 1) ∧ decode code 16 = .ok (.iconst 0, 1) ∧ decode code 17 = .ok (.istore_n 3, 1) ∧ decode code 18 = .ok (.iload_n 3, 1) ∧ decode code 19 = .ok (.aload_n 0, 1) ∧ decode code 20 = .ok (.arraylength, 1) ∧ decode code 21 = .ok (.bipush 6, 2) ∧ decode code 23 = .ok (.isub, 1) ∧ decode code 24 = .ok (.if_icmp .gt 1562, 3) := ⟨xo_187 xLc_0 0 rfl rfl rfl rfl rfl rfl, xo_89 xLc_0 3 rfl, xo_183 xLc_0 4 rfl rfl rfl rfl rfl rfl, xo_76 xLc_0 7 rfl, xo_187 xLc_0 8 rfl rfl rfl rfl rfl rfl, xo_89 xLc_0 11 rfl, xo_183 xLc_0 12 rfl rfl rfl rfl rfl rfl, xo_77 xLc_0 15 rfl, xo_3 xLc_0 16 rfl, xo_62 xLc_0 17 rfl, xo_29 xLc_0 18 rfl, xo_42 xLc_0 19 rfl, xo_190 xLc_0 20 rfl, xo_16 xLc_0 21 rfl rfl rfl rfl, xo_100 xLc_0 23 rfl, xo_163 xLc_0 24 rfl rfl rfl rfl rfl rfl⟩
theorem dL_0 : decode code 0 = .ok (.new 7, 3) := dLc_0.1
theorem dL_3 : decode code 3 = .ok (.dup, 1) := dLc_0.2.1
theorem dL_4 : decode code 4 = .ok (.invokespecial 9, 3) := dLc_0.2.2.1
theorem dL_7 : decode code 7 = .ok (.astore_n 1, 1) := dLc_0.2.2.2.1
theorem dL_8 : decode code 8 = .ok (.new 10, 3) := dLc_0.2.2.2.2.1
theorem dL_11 : decode code 11 = .ok (.dup, 1) := dLc_0.2.2.2.2.2.1
theorem dL_12 : decode code 12 = .ok (.invokespecial 12, 3) := dLc_0.2.2.2.2.2.2.1
theorem dL_15 : decode code 15 = .ok (.astore_n 2, 1) := dLc_0.2.2.2.2.2.2.2.1
theorem dL_16 : decode code 16 = .ok (.iconst 0, 1) := dLc_0.2.2.2.2.2.2.2.2.1
theorem dL_17 : decode code 17 = .ok (.istore_n 3, 1) := dLc_0.2.2.2.2.2.2.2.2.2.1
theorem dL_18 : decode code 18 = .ok (.iload_n 3, 1) := dLc_0.2.2.2.2.2.2.2.2.2.2.1
theorem dL_19 : decode code 19 = .ok (.aload_n 0, 1) := dLc_0.2.2.2.2.2.2.2.2.2.2.2.1
theorem dL_20 : decode code 20 = .ok (.arraylength, 1) := dLc_0.2.2.2.2.2.2.2.2.2.2.2.2.1
theorem dL_21 : decode code 21 = .ok (.bipush 6, 2) := dLc_0.2.2.2.2.2.2.2.2.2.2.2.2.2.1
theorem dL_23 : decode code 23 = .ok (.isub, 1) := dLc_0.2.2.2.2.2.2.2.2.2.2.2.2.2.2.1
theorem dL_24 : decode code 24 = .ok (.if_icmp .gt 1562, 3) := dLc_0.2.2.2.2.2.2.2.2.2.2.2.2.2.2.2
set_option maxRecDepth 20000 in
theorem xLc_1 : xd_w code 27 [42, 29, 46, 16, 63, 126, 170, 0, 0, 0, 0, 6, 11, 0, 0, 0, 0, 0, 0, 0, 37, 0, 0, 0, 167, 0, 0, 0, 230, 0, 0, 0, 253, 0, 0, 1, 40, 0, 0, 1, 63, 0, 0, 1, 106, 0, 0, 1, 165, 0, 0, 1, 208, 0, 0, 1, 231, 0, 0, 1, 254, 0, 0, 2, 31, 0, 0, 2, 64, 0, 0, 2, 117, 0, 0, 2, 150, 0, 0, 2, 183, 0, 0, 2, 216, 0, 0, 3, 3, 0, 0, 3, 36, 0, 0, 3, 59, 0, 0, 3, 92, 0, 0, 3, 135, 0, 0, 3, 188, 0, 0, 3, 231, 0, 0, 4, 28, 0, 0, 4, 71, 0, 0, 4, 104, 0, 0, 4, 157, 0, 0, 4, 190, 0, 0, 4, 233, 0, 0, 5, 10, 0, 0, 5, 63, 0, 0, 5, 106, 0, 0, 5, 139, 0, 0, 5, 172, 0, 0, 5, 195, 0, 0, 5, 208, 0, 0, 5, 221, 0, 0, 5, 244, 43, 42, 29, 4, 96, 46, 42, 29, 5, 96] := by unfold xd_w; decide +kernel
set_option maxRecDepth 20000 in
theorem dLc_1 : decode code 27 = .ok (.aload_n 0, 1) ∧ decode code 28 = .ok (.iload_n 3, 1) ∧ decode code 29 = .ok (.iaload, 1) ∧ decode code 30 = .ok (.bipush 63, 2) ∧ decode code 32 = .ok (.iand, 1) ∧ decode code 33 = .ok (.tableswitch 1547 0 37 #[167, 230, 253, 296, 319, 362, 421, 464, 487, 510, 543, 576, 629, 662, 695, 728, 771, 804, 827, 860, 903, 956, 999, 1052, 1095, 1128, 1181, 1214, 1257, 1290, 1343, 1386, 1419, 1452, 1475, 1488, 1501, 1524], 167) ∧ decode code 200 = .ok (.aload_n 1, 1) ∧ decode code 201 = .ok (.aload_n 0, 1) ∧ decode code 202 = .ok (.iload_n 3, 1) ∧ decode code 203 = .ok (.iconst 1, 1) ∧ decode code 204 = .ok (.iadd, 1) ∧ decode code 205 = .ok (.iaload, 1) ∧ decode code 206 = .ok (.aload_n 0, 1) ∧ decode code 207 = .ok (.iload_n 3, 1) ∧ decode code 208 = .ok (.iconst 2, 1) ∧ decode code 209 = .ok (.iadd, 1) := ⟨xo_42 xLc_1 0 rfl, xo_29 xLc_1 1 rfl, xo_46 xLc_1 2 rfl, xo_16 xLc_1 3 rfl rfl rfl rfl, xo_126 xLc_1 5 rfl, (by decide +kernel), xo_43 xLc_1 173 rfl, xo_42 xLc_1 174 rfl, xo_29 xLc_1 175 rfl, xo_4 xLc_1 176 rfl, xo_96 xLc_1 177 rfl, xo_46 xLc_1 178 rfl, xo_42 xLc_1 179 rfl, xo_29 xLc_1 180 rfl, xo_5 xLc_1 181 rfl, xo_96 xLc_1 182 rfl⟩
theorem dL_27 : decode code 27 = .ok (.aload_n 0, 1) := dLc_1.1
theorem dL_28 : decode code 28 = .ok (.iload_n 3, 1) := dLc_1.2.1
theorem dL_29 : decode code 29 = .ok (.iaload, 1) := dLc_1.2.2.1
theorem dL_30 : decode code 30 = .ok (.bipush 63, 2) := dLc_1.2.2.2.1
theorem dL_32 : decode code 32 = .ok (.iand, 1) := dLc_1.2.2.2.2.1
theorem dL_33 : decode code 33 = .ok (.tableswitch 1547 0 37 #[167, 230, 253, 296, 319, 362, 421, 464, 487, 510, 543, 576, 629, 662, 695, 728, 771, 804, 827, 860, 903, 956, 999, 1052, 1095, 1128, 1181, 1214, 1257, 1290, 1343, 1386, 1419, 1452, 1475, 1488, 1501, 1524], 167) := dLc_1.2.2.2.2.2.1
theorem dL_200 : decode code 200 = .ok (.aload_n 1, 1) := dLc_1.2.2.2.2.2.2.1
theorem dL_201 : decode code 201 = .ok (.aload_n 0, 1) := dLc_1.2.2.2.2.2.2.2.1
theorem dL_202 : decode code 202 = .ok (.iload_n 3, 1) := dLc_1.2.2.2.2.2.2.2.2.1
theorem dL_203 : decode code 203 = .ok (.iconst 1, 1) := dLc_1.2.2.2.2.2.2.2.2.2.1
theorem dL_204 : decode code 204 = .ok (.iadd, 1) := dLc_1.2.2.2.2.2.2.2.2.2.2.1
theorem dL_205 : decode code 205 = .ok (.iaload, 1) := dLc_1.2.2.2.2.2.2.2.2.2.2.2.1
theorem dL_206 : decode code 206 = .ok (.aload_n 0, 1) := dLc_1.2.2.2.2.2.2.2.2.2.2.2.2.1
theorem dL_207 : decode code 207 = .ok (.iload_n 3, 1) := dLc_1.2.2.2.2.2.2.2.2.2.2.2.2.2.1
theorem dL_208 : decode code 208 = .ok (.iconst 2, 1) := dLc_1.2.2.2.2.2.2.2.2.2.2.2.2.2.2.1
theorem dL_209 : decode code 209 = .ok (.iadd, 1) := dLc_1.2.2.2.2.2.2.2.2.2.2.2.2.2.2.2
set_option maxRecDepth 20000 in
theorem xLc_2 : xd_w code 210 [46, 42, 29, 6, 96, 46, 42, 29, 7, 96, 46, 42, 29, 8, 96, 46] := by unfold xd_w; decide +kernel
set_option maxRecDepth 20000 in
theorem dLc_2 : decode code 210 = .ok (.iaload, 1) ∧ decode code 211 = .ok (.aload_n 0, 1) ∧ decode code 212 = .ok (.iload_n 3, 1) ∧ decode code 213 = .ok (.iconst 3, 1) ∧ decode code 214 = .ok (.iadd, 1) ∧ decode code 215 = .ok (.iaload, 1) ∧ decode code 216 = .ok (.aload_n 0, 1) ∧ decode code 217 = .ok (.iload_n 3, 1) ∧ decode code 218 = .ok (.iconst 4, 1) ∧ decode code 219 = .ok (.iadd, 1) ∧ decode code 220 = .ok (.iaload, 1) ∧ decode code 221 = .ok (.aload_n 0, 1) ∧ decode code 222 = .ok (.iload_n 3, 1) ∧ decode code 223 = .ok (.iconst 5, 1) ∧ decode code 224 = .ok (.iadd, 1) ∧ decode code 225 = .ok (.iaload, 1) := ⟨xo_46 xLc_2 0 rfl, xo_42 xLc_2 1 rfl, xo_29 xLc_2 2 rfl, xo_6 xLc_2 3 rfl, xo_96 xLc_2 4 rfl, xo_46 xLc_2 5 rfl, xo_42 xLc_2 6 rfl, xo_29 xLc_2 7 rfl, xo_7 xLc_2 8 rfl, xo_96 xLc_2 9 rfl, xo_46 xLc_2 10 rfl, xo_42 xLc_2 11 rfl, xo_29 xLc_2 12 rfl, xo_8 xLc_2 13 rfl, xo_96 xLc_2 14 rfl, xo_46 xLc_2 15 rfl⟩
theorem dL_210 : decode code 210 = .ok (.iaload, 1) := dLc_2.1
theorem dL_211 : decode code 211 = .ok (.aload_n 0, 1) := dLc_2.2.1
theorem dL_212 : decode code 212 = .ok (.iload_n 3, 1) := dLc_2.2.2.1
theorem dL_213 : decode code 213 = .ok (.iconst 3, 1) := dLc_2.2.2.2.1
theorem dL_214 : decode code 214 = .ok (.iadd, 1) := dLc_2.2.2.2.2.1
theorem dL_215 : decode code 215 = .ok (.iaload, 1) := dLc_2.2.2.2.2.2.1
theorem dL_216 : decode code 216 = .ok (.aload_n 0, 1) := dLc_2.2.2.2.2.2.2.1
theorem dL_217 : decode code 217 = .ok (.iload_n 3, 1) := dLc_2.2.2.2.2.2.2.2.1
theorem dL_218 : decode code 218 = .ok (.iconst 4, 1) := dLc_2.2.2.2.2.2.2.2.2.1
theorem dL_219 : decode code 219 = .ok (.iadd, 1) := dLc_2.2.2.2.2.2.2.2.2.2.1
theorem dL_220 : decode code 220 = .ok (.iaload, 1) := dLc_2.2.2.2.2.2.2.2.2.2.2.1
theorem dL_221 : decode code 221 = .ok (.aload_n 0, 1) := dLc_2.2.2.2.2.2.2.2.2.2.2.2.1
theorem dL_222 : decode code 222 = .ok (.iload_n 3, 1) := dLc_2.2.2.2.2.2.2.2.2.2.2.2.2.1
theorem dL_223 : decode code 223 = .ok (.iconst 5, 1) := dLc_2.2.2.2.2.2.2.2.2.2.2.2.2.2.1
theorem dL_224 : decode code 224 = .ok (.iadd, 1) := dLc_2.2.2.2.2.2.2.2.2.2.2.2.2.2.2.1
theorem dL_225 : decode code 225 = .ok (.iaload, 1) := dLc_2.2.2.2.2.2.2.2.2.2.2.2.2.2.2.2
set_option maxRecDepth 20000 in
theorem xLc_3 : xd_w code 226 [182, 0, 13, 87, 44, 42, 29, 4, 96, 46, 42, 29, 5, 96, 46, 42, 29, 6] := by unfold xd_w; decide +kernel
set_option maxRecDepth 20000 in
theorem dLc_3 : decode code 226 = .ok (.invokevirtual 13, 3) ∧ decode code 229 = .ok (.pop, 1) ∧ decode code 230 = .ok (.aload_n 2, 1) ∧ decode code 231 = .ok (.aload_n 0, 1) ∧ decode code 232 = .ok (.iload_n 3, 1) ∧ decode code 233 = .ok (.iconst 1, 1) ∧ decode code 234 = .ok (.iadd, 1) ∧ decode code 235 = .ok (.iaload, 1) ∧ decode code 236 = .ok (.aload_n 0, 1) ∧ decode code 237 = .ok (.iload_n 3, 1) ∧ decode code 238 = .ok (.iconst 2, 1) ∧ decode code 239 = .ok (.iadd, 1) ∧ decode code 240 = .ok (.iaload, 1) ∧ decode code 241 = .ok (.aload_n 0, 1) ∧ decode code 242 = .ok (.iload_n 3, 1) ∧ decode code 243 = .ok (.iconst 3, 1) := ⟨xo_182 xLc_3 0 rfl rfl rfl rfl rfl rfl, xo_87 xLc_3 3 rfl, xo_44 xLc_3 4 rfl, xo_42 xLc_3 5 rfl, xo_29 xLc_3 6 rfl, xo_4 xLc_3 7 rfl, xo_96 xLc_3 8 rfl, xo_46 xLc_3 9 rfl, xo_42 xLc_3 10 rfl, xo_29 xLc_3 11 rfl, xo_5 xLc_3 12 rfl, xo_96 xLc_3 13 rfl, xo_46 xLc_3 14 rfl, xo_42 xLc_3 15 rfl, xo_29 xLc_3 16 rfl, xo_6 xLc_3 17 rfl⟩
theorem dL_226 : decode code 226 = .ok (.invokevirtual 13, 3) := dLc_3.1
theorem dL_229 : decode code 229 = .ok (.pop, 1) := dLc_3.2.1
theorem dL_230 : decode code 230 = .ok (.aload_n 2, 1) := dLc_3.2.2.1
theorem dL_231 : decode code 231 = .ok (.aload_n 0, 1) := dLc_3.2.2.2.1
theorem dL_232 : decode code 232 = .ok (.iload_n 3, 1) := dLc_3.2.2.2.2.1
theorem dL_233 : decode code 233 = .ok (.iconst 1, 1) := dLc_3.2.2.2.2.2.1
theorem dL_234 : decode code 234 = .ok (.iadd, 1) := dLc_3.2.2.2.2.2.2.1
theorem dL_235 : decode code 235 = .ok (.iaload, 1) := dLc_3.2.2.2.2.2.2.2.1
theorem dL_236 : decode code 236 = .ok (.aload_n 0, 1) := dLc_3.2.2.2.2.2.2.2.2.1
theorem dL_237 : decode code 237 = .ok (.iload_n 3, 1) := dLc_3.2.2.2.2.2.2.2.2.2.1
theorem dL_238 : decode code 238 = .ok (.iconst 2, 1) := dLc_3.2.2.2.2.2.2.2.2.2.2.1
theorem dL_239 : decode code 239 = .ok (.iadd, 1) := dLc_3.2.2.2.2.2.2.2.2.2.2.2.1
theorem dL_240 : decode code 240 = .ok (.iaload, 1) := dLc_3.2.2.2.2.2.2.2.2.2.2.2.2.1
theorem dL_241 : decode code 241 = .ok (.aload_n 0, 1) := dLc_3.2.2.2.2.2.2.2.2.2.2.2.2.2.1
theorem dL_242 : decode code 242 = .ok (.iload_n 3, 1) := dLc_3.2.2.2.2.2.2.2.2.2.2.2.2.2.2.1
theorem dL_243 : decode code 243 = .ok (.iconst 3, 1) := dLc_3.2.2.2.2.2.2.2.2.2.2.2.2.2.2.2
set_option maxRecDepth 20000 in
theorem xLc_4 : xd_w code 244 [96, 46, 42, 29, 7, 96, 46, 42, 29, 8, 96, 46, 182, 0, 17, 87, 167, 5, 40, 43] := by unfold xd_w; decide +kernel
set_option maxRecDepth 20000 in
theorem dLc_4 : decode code 244 = .ok (.iadd, 1) ∧ decode code 245 = .ok (.iaload, 1) ∧ decode code 246 = .ok (.aload_n 0, 1) ∧ decode code 247 = .ok (.iload_n 3, 1) ∧ decode code 248 = .ok (.iconst 4, 1) ∧ decode code 249 = .ok (.iadd, 1) ∧ decode code 250 = .ok (.iaload, 1) ∧ decode code 251 = .ok (.aload_n 0, 1) ∧ decode code 252 = .ok (.iload_n 3, 1) ∧ decode code 253 = .ok (.iconst 5, 1) ∧ decode code 254 = .ok (.iadd, 1) ∧ decode code 255 = .ok (.iaload, 1) ∧ decode code 256 = .ok (.invokevirtual 17, 3) ∧ decode code 259 = .ok (.pop, 1) ∧ decode code 260 = .ok (.goto 1320, 3) ∧ decode code 263 = .ok (.aload_n 1, 1) := ⟨xo_96 xLc_4 0 rfl, xo_46 xLc_4 1 rfl, xo_42 xLc_4 2 rfl, xo_29 xLc_4 3 rfl, xo_7 xLc_4 4 rfl, xo_96 xLc_4 5 rfl, xo_46 xLc_4 6 rfl, xo_42 xLc_4 7 rfl, xo_29 xLc_4 8 rfl, xo_8 xLc_4 9 rfl, xo_96 xLc_4 10 rfl, xo_46 xLc_4 11 rfl, xo_182 xLc_4 12 rfl rfl rfl rfl rfl rfl, xo_87 xLc_4 15 rfl, xo_167 xLc_4 16 rfl rfl rfl rfl rfl rfl, xo_43 xLc_4 19 rfl⟩
theorem dL_244 : decode code 244 = .ok (.iadd, 1) := dLc_4.1
theorem dL_245 : decode code 245 = .ok (.iaload, 1) := dLc_4.2.1
theorem dL_246 : decode code 246 = .ok (.aload_n 0, 1) := dLc_4.2.2.1
theorem dL_247 : decode code 247 = .ok (.iload_n 3, 1) := dLc_4.2.2.2.1
theorem dL_248 : decode code 248 = .ok (.iconst 4, 1) := dLc_4.2.2.2.2.1
theorem dL_249 : decode code 249 = .ok (.iadd, 1) := dLc_4.2.2.2.2.2.1
theorem dL_250 : decode code 250 = .ok (.iaload, 1) := dLc_4.2.2.2.2.2.2.1
theorem dL_251 : decode code 251 = .ok (.aload_n 0, 1) := dLc_4.2.2.2.2.2.2.2.1
theorem dL_252 : decode code 252 = .ok (.iload_n 3, 1) := dLc_4.2.2.2.2.2.2.2.2.1
theorem dL_253 : decode code 253 = .ok (.iconst 5, 1) := dLc_4.2.2.2.2.2.2.2.2.2.1
theorem dL_254 : decode code 254 = .ok (.iadd, 1) := dLc_4.2.2.2.2.2.2.2.2.2.2.1
theorem dL_255 : decode code 255 = .ok (.iaload, 1) := dLc_4.2.2.2.2.2.2.2.2.2.2.2.1
theorem dL_256 : decode code 256 = .ok (.invokevirtual 17, 3) := dLc_4.2.2.2.2.2.2.2.2.2.2.2.2.1
theorem dL_259 : decode code 259 = .ok (.pop, 1) := dLc_4.2.2.2.2.2.2.2.2.2.2.2.2.2.1
theorem dL_260 : decode code 260 = .ok (.goto 1320, 3) := dLc_4.2.2.2.2.2.2.2.2.2.2.2.2.2.2.1
theorem dL_263 : decode code 263 = .ok (.aload_n 1, 1) := dLc_4.2.2.2.2.2.2.2.2.2.2.2.2.2.2.2
set_option maxRecDepth 20000 in
theorem xLc_5 : xd_w code 264 [42, 29, 4, 96, 46, 182, 0, 18, 87, 44, 42, 29, 4, 96, 46, 182, 0, 22, 87, 167, 5, 17] := by unfold xd_w; decide +kernel
set_option maxRecDepth 20000 in
theorem dLc_5 : decode code 264 = .ok (.aload_n 0, 1) ∧ decode code 265 = .ok (.iload_n 3, 1) ∧ decode code 266 = .ok (.iconst 1, 1) ∧ decode code 267 = .ok (.iadd, 1) ∧ decode code 268 = .ok (.iaload, 1) ∧ decode code 269 = .ok (.invokevirtual 18, 3) ∧ decode code 272 = .ok (.pop, 1) ∧ decode code 273 = .ok (.aload_n 2, 1) ∧ decode code 274 = .ok (.aload_n 0, 1) ∧ decode code 275 = .ok (.iload_n 3, 1) ∧ decode code 276 = .ok (.iconst 1, 1) ∧ decode code 277 = .ok (.iadd, 1) ∧ decode code 278 = .ok (.iaload, 1) ∧ decode code 279 = .ok (.invokevirtual 22, 3) ∧ decode code 282 = .ok (.pop, 1) ∧ decode code 283 = .ok (.goto 1297, 3) := ⟨xo_42 xLc_5 0 rfl, xo_29 xLc_5 1 rfl, xo_4 xLc_5 2 rfl, xo_96 xLc_5 3 rfl, xo_46 xLc_5 4 rfl, xo_182 xLc_5 5 rfl rfl rfl rfl rfl rfl, xo_87 xLc_5 8 rfl, xo_44 xLc_5 9 rfl, xo_42 xLc_5 10 rfl, xo_29 xLc_5 11 rfl, xo_4 xLc_5 12 rfl, xo_96 xLc_5 13 rfl, xo_46 xLc_5 14 rfl, xo_182 xLc_5 15 rfl rfl rfl rfl rfl rfl, xo_87 xLc_5 18 rfl, xo_167 xLc_5 19 rfl rfl rfl rfl rfl rfl⟩
theorem dL_264 : decode code 264 = .ok (.aload_n 0, 1) := dLc_5.1
theorem dL_265 : decode code 265 = .ok (.iload_n 3, 1) := dLc_5.2.1
theorem dL_266 : decode code 266 = .ok (.iconst 1, 1) := dLc_5.2.2.1
theorem dL_267 : decode code 267 = .ok (.iadd, 1) := dLc_5.2.2.2.1
theorem dL_268 : decode code 268 = .ok (.iaload, 1) := dLc_5.2.2.2.2.1
theorem dL_269 : decode code 269 = .ok (.invokevirtual 18, 3) := dLc_5.2.2.2.2.2.1
theorem dL_272 : decode code 272 = .ok (.pop, 1) := dLc_5.2.2.2.2.2.2.1
theorem dL_273 : decode code 273 = .ok (.aload_n 2, 1) := dLc_5.2.2.2.2.2.2.2.1
theorem dL_274 : decode code 274 = .ok (.aload_n 0, 1) := dLc_5.2.2.2.2.2.2.2.2.1
theorem dL_275 : decode code 275 = .ok (.iload_n 3, 1) := dLc_5.2.2.2.2.2.2.2.2.2.1
theorem dL_276 : decode code 276 = .ok (.iconst 1, 1) := dLc_5.2.2.2.2.2.2.2.2.2.2.1
theorem dL_277 : decode code 277 = .ok (.iadd, 1) := dLc_5.2.2.2.2.2.2.2.2.2.2.2.1
theorem dL_278 : decode code 278 = .ok (.iaload, 1) := dLc_5.2.2.2.2.2.2.2.2.2.2.2.2.1
theorem dL_279 : decode code 279 = .ok (.invokevirtual 22, 3) := dLc_5.2.2.2.2.2.2.2.2.2.2.2.2.2.1
theorem dL_282 : decode code 282 = .ok (.pop, 1) := dLc_5.2.2.2.2.2.2.2.2.2.2.2.2.2.2.1
theorem dL_283 : decode code 283 = .ok (.goto 1297, 3) := dLc_5.2.2.2.2.2.2.2.2.2.2.2.2.2.2.2
set_option maxRecDepth 20000 in
theorem xLc_6 : xd_w code 286 [43, 42, 29, 4, 96, 46, 42, 29, 5, 96, 46, 42, 29, 6, 96, 46] := by unfold xd_w; decide +kernel
set_option maxRecDepth 20000 in
theorem dLc_6 : decode code 286 = .ok (.aload_n 1, 1) ∧ decode code 287 = .ok (.aload_n 0, 1) ∧ decode code 288 = .ok (.iload_n 3, 1) ∧ decode code 289 = .ok (.iconst 1, 1) ∧ decode code 290 = .ok (.iadd, 1) ∧ decode code 291 = .ok (.iaload, 1) ∧ decode code 292 = .ok (.aload_n 0, 1) ∧ decode code 293 = .ok (.iload_n 3, 1) ∧ decode code 294 = .ok (.iconst 2, 1) ∧ decode code 295 = .ok (.iadd, 1) ∧ decode code 296 = .ok (.iaload, 1) ∧ decode code 297 = .ok (.aload_n 0, 1) ∧ decode code 298 = .ok (.iload_n 3, 1) ∧ decode code 299 = .ok (.iconst 3, 1) ∧ decode code 300 = .ok (.iadd, 1) ∧ decode code 301 = .ok (.iaload, 1) := ⟨xo_43 xLc_6 0 rfl, xo_42 xLc_6 1 rfl, xo_29 xLc_6 2 rfl, xo_4 xLc_6 3 rfl, xo_96 xLc_6 4 rfl, xo_46 xLc_6 5 rfl, xo_42 xLc_6 6 rfl, xo_29 xLc_6 7 rfl, xo_5 xLc_6 8 rfl, xo_96 xLc_6 9 rfl, xo_46 xLc_6 10 rfl, xo_42 xLc_6 11 rfl, xo_29 xLc_6 12 rfl, xo_6 xLc_6 13 rfl, xo_96 xLc_6 14 rfl, xo_46 xLc_6 15 rfl⟩
theorem dL_286 : decode code 286 = .ok (.aload_n 1, 1) := dLc_6.1
theorem dL_287 : decode code 287 = .ok (.aload_n 0, 1) := dLc_6.2.1
theorem dL_288 : decode code 288 = .ok (.iload_n 3, 1) := dLc_6.2.2.1
theorem dL_289 : decode code 289 = .ok (.iconst 1, 1) := dLc_6.2.2.2.1
theorem dL_290 : decode code 290 = .ok (.iadd, 1) := dLc_6.2.2.2.2.1
theorem dL_291 : decode code 291 = .ok (.iaload, 1) := dLc_6.2.2.2.2.2.1
theorem dL_292 : decode code 292 = .ok (.aload_n 0, 1) := dLc_6.2.2.2.2.2.2.1
theorem dL_293 : decode code 293 = .ok (.iload_n 3, 1) := dLc_6.2.2.2.2.2.2.2.1
theorem dL_294 : decode code 294 = .ok (.iconst 2, 1) := dLc_6.2.2.2.2.2.2.2.2.1
theorem dL_295 : decode code 295 = .ok (.iadd, 1) := dLc_6.2.2.2.2.2.2.2.2.2.1
theorem dL_296 : decode code 296 = .ok (.iaload, 1) := dLc_6.2.2.2.2.2.2.2.2.2.2.1
theorem dL_297 : decode code 297 = .ok (.aload_n 0, 1) := dLc_6.2.2.2.2.2.2.2.2.2.2.2.1
theorem dL_298 : decode code 298 = .ok (.iload_n 3, 1) := dLc_6.2.2.2.2.2.2.2.2.2.2.2.2.1
theorem dL_299 : decode code 299 = .ok (.iconst 3, 1) := dLc_6.2.2.2.2.2.2.2.2.2.2.2.2.2.1
theorem dL_300 : decode code 300 = .ok (.iadd, 1) := dLc_6.2.2.2.2.2.2.2.2.2.2.2.2.2.2.1
theorem dL_301 : decode code 301 = .ok (.iaload, 1) := dLc_6.2.2.2.2.2.2.2.2.2.2.2.2.2.2.2
set_option maxRecDepth 20000 in
theorem xLc_7 : xd_w code 302 [182, 0, 23, 87, 44, 42, 29, 4, 96, 46, 42, 29, 5, 96, 46, 42, 29, 6] := by unfold xd_w; decide +kernel
set_option maxRecDepth 20000 in
theorem dLc_7 : decode code 302 = .ok (.invokevirtual 23, 3) ∧ decode code 305 = .ok (.pop, 1) ∧ decode code 306 = .ok (.aload_n 2, 1) ∧ decode code 307 = .ok (.aload_n 0, 1) ∧ decode code 308 = .ok (.iload_n 3, 1) ∧ decode code 309 = .ok (.iconst 1, 1) ∧ decode code 310 = .ok (.iadd, 1) ∧ decode code 311 = .ok (.iaload, 1) ∧ decode code 312 = .ok (.aload_n 0, 1) ∧ decode code 313 = .ok (.iload_n 3, 1) ∧ decode code 314 = .ok (.iconst 2, 1) ∧ decode code 315 = .ok (.iadd, 1) ∧ decode code 316 = .ok (.iaload, 1) ∧ decode code 317 = .ok (.aload_n 0, 1) ∧ decode code 318 = .ok (.iload_n 3, 1) ∧ decode code 319 = .ok (.iconst 3, 1) := ⟨xo_182 xLc_7 0 rfl rfl rfl rfl rfl rfl, xo_87 xLc_7 3 rfl, xo_44 xLc_7 4 rfl, xo_42 xLc_7 5 rfl, xo_29 xLc_7 6 rfl, xo_4 xLc_7 7 rfl, xo_96 xLc_7 8 rfl, xo_46 xLc_7 9 rfl, xo_42 xLc_7 10 rfl, xo_29 xLc_7 11 rfl, xo_5 xLc_7 12 rfl, xo_96 xLc_7 13 rfl, xo_46 xLc_7 14 rfl, xo_42 xLc_7 15 rfl, xo_29 xLc_7 16 rfl, xo_6 xLc_7 17 rfl⟩
theorem dL_302 : decode code 302 = .ok (.invokevirtual 23, 3) := dLc_7.1
theorem dL_305 : decode code 305 = .ok (.pop, 1) := dLc_7.2.1
theorem dL_306 : decode code 306 = .ok (.aload_n 2, 1) := dLc_7.2.2.1
theorem dL_307 : decode code 307 = .ok (.aload_n 0, 1) := dLc_7.2.2.2.1
theorem dL_308 : decode code 308 = .ok (.iload_n 3, 1) := dLc_7.2.2.2.2.1
theorem dL_309 : decode code 309 = .ok (.iconst 1, 1) := dLc_7.2.2.2.2.2.1
theorem dL_310 : decode code 310 = .ok (.iadd, 1) := dLc_7.2.2.2.2.2.2.1
theorem dL_311 : decode code 311 = .ok (.iaload, 1) := dLc_7.2.2.2.2.2.2.2.1
theorem dL_312 : decode code 312 = .ok (.aload_n 0, 1) := dLc_7.2.2.2.2.2.2.2.2.1
theorem dL_313 : decode code 313 = .ok (.iload_n 3, 1) := dLc_7.2.2.2.2.2.2.2.2.2.1
theorem dL_314 : decode code 314 = .ok (.iconst 2, 1) := dLc_7.2.2.2.2.2.2.2.2.2.2.1
theorem dL_315 : decode code 315 = .ok (.iadd, 1) := dLc_7.2.2.2.2.2.2.2.2.2.2.2.1
theorem dL_316 : decode code 316 = .ok (.iaload, 1) := dLc_7.2.2.2.2.2.2.2.2.2.2.2.2.1
theorem dL_317 : decode code 317 = .ok (.aload_n 0, 1) := dLc_7.2.2.2.2.2.2.2.2.2.2.2.2.2.1
theorem dL_318 : decode code 318 = .ok (.iload_n 3, 1) := dLc_7.2.2.2.2.2.2.2.2.2.2.2.2.2.2.1
theorem dL_319 : decode code 319 = .ok (.iconst 3, 1) := dLc_7.2.2.2.2.2.2.2.2.2.2.2.2.2.2.2
set_option maxRecDepth 20000 in
theorem xLc_8 : xd_w code 320 [96, 46, 182, 0, 27, 87, 167, 4, 230, 43, 42, 29, 4, 96, 46, 182, 0, 28, 87, 44, 42, 29] := by unfold xd_w; decide +kernel
set_option maxRecDepth 20000 in
theorem dLc_8 : decode code 320 = .ok (.iadd, 1) ∧ decode code 321 = .ok (.iaload, 1) ∧ decode code 322 = .ok (.invokevirtual 27, 3) ∧ decode code 325 = .ok (.pop, 1) ∧ decode code 326 = .ok (.goto 1254, 3) ∧ decode code 329 = .ok (.aload_n 1, 1) ∧ decode code 330 = .ok (.aload_n 0, 1) ∧ decode code 331 = .ok (.iload_n 3, 1) ∧ decode code 332 = .ok (.iconst 1, 1) ∧ decode code 333 = .ok (.iadd, 1) ∧ decode code 334 = .ok (.iaload, 1) ∧ decode code 335 = .ok (.invokevirtual 28, 3) ∧ decode code 338 = .ok (.pop, 1) ∧ decode code 339 = .ok (.aload_n 2, 1) ∧ decode code 340 = .ok (.aload_n 0, 1) ∧ decode code 341 = .ok (.iload_n 3, 1) := ⟨xo_96 xLc_8 0 rfl, xo_46 xLc_8 1 rfl, xo_182 xLc_8 2 rfl rfl rfl rfl rfl rfl, xo_87 xLc_8 5 rfl, xo_167 xLc_8 6 rfl rfl rfl rfl rfl rfl, xo_43 xLc_8 9 rfl, xo_42 xLc_8 10 rfl, xo_29 xLc_8 11 rfl, xo_4 xLc_8 12 rfl, xo_96 xLc_8 13 rfl, xo_46 xLc_8 14 rfl, xo_182 xLc_8 15 rfl rfl rfl rfl rfl rfl, xo_87 xLc_8 18 rfl, xo_44 xLc_8 19 rfl, xo_42 xLc_8 20 rfl, xo_29 xLc_8 21 rfl⟩
theorem dL_320 : decode code 320 = .ok (.iadd, 1) := dLc_8.1
theorem dL_321 : decode code 321 = .ok (.iaload, 1) := dLc_8.2.1
theorem dL_322 : decode code 322 = .ok (.invokevirtual 27, 3) := dLc_8.2.2.1
theorem dL_325 : decode code 325 = .ok (.pop, 1) := dLc_8.2.2.2.1
theorem dL_326 : decode code 326 = .ok (.goto 1254, 3) := dLc_8.2.2.2.2.1
theorem dL_329 : decode code 329 = .ok (.aload_n 1, 1) := dLc_8.2.2.2.2.2.1
theorem dL_330 : decode code 330 = .ok (.aload_n 0, 1) := dLc_8.2.2.2.2.2.2.1
theorem dL_331 : decode code 331 = .ok (.iload_n 3, 1) := dLc_8.2.2.2.2.2.2.2.1
theorem dL_332 : decode code 332 = .ok (.iconst 1, 1) := dLc_8.2.2.2.2.2.2.2.2.1
theorem dL_333 : decode code 333 = .ok (.iadd, 1) := dLc_8.2.2.2.2.2.2.2.2.2.1
theorem dL_334 : decode code 334 = .ok (.iaload, 1) := dLc_8.2.2.2.2.2.2.2.2.2.2.1
theorem dL_335 : decode code 335 = .ok (.invokevirtual 28, 3) := dLc_8.2.2.2.2.2.2.2.2.2.2.2.1
theorem dL_338 : decode code 338 = .ok (.pop, 1) := dLc_8.2.2.2.2.2.2.2.2.2.2.2.2.1
theorem dL_339 : decode code 339 = .ok (.aload_n 2, 1) := dLc_8.2.2.2.2.2.2.2.2.2.2.2.2.2.1
theorem dL_340 : decode code 340 = .ok (.aload_n 0, 1) := dLc_8.2.2.2.2.2.2.2.2.2.2.2.2.2.2.1
theorem dL_341 : decode code 341 = .ok (.iload_n 3, 1) := dLc_8.2.2.2.2.2.2.2.2.2.2.2.2.2.2.2
set_option maxRecDepth 20000 in
theorem xLc_9 : xd_w code 342 [4, 96, 46, 182, 0, 32, 87, 167, 4, 207, 43, 42, 29, 4, 96, 46, 42, 29, 5, 96] := by unfold xd_w; decide +kernel
set_option maxRecDepth 20000 in
theorem dLc_9 : decode code 342 = .ok (.iconst 1, 1) ∧ decode code 343 = .ok (.iadd, 1) ∧ decode code 344 = .ok (.iaload, 1) ∧ decode code 345 = .ok (.invokevirtual 32, 3) ∧ decode code 348 = .ok (.pop, 1) ∧ decode code 349 = .ok (.goto 1231, 3) ∧ decode code 352 = .ok (.aload_n 1, 1) ∧ decode code 353 = .ok (.aload_n 0, 1) ∧ decode code 354 = .ok (.iload_n 3, 1) ∧ decode code 355 = .ok (.iconst 1, 1) ∧ decode code 356 = .ok (.iadd, 1) ∧ decode code 357 = .ok (.iaload, 1) ∧ decode code 358 = .ok (.aload_n 0, 1) ∧ decode code 359 = .ok (.iload_n 3, 1) ∧ decode code 360 = .ok (.iconst 2, 1) ∧ decode code 361 = .ok (.iadd, 1) := ⟨xo_4 xLc_9 0 rfl, xo_96 xLc_9 1 rfl, xo_46 xLc_9 2 rfl, xo_182 xLc_9 3 rfl rfl rfl rfl rfl rfl, xo_87 xLc_9 6 rfl, xo_167 xLc_9 7 rfl rfl rfl rfl rfl rfl, xo_43 xLc_9 10 rfl, xo_42 xLc_9 11 rfl, xo_29 xLc_9 12 rfl, xo_4 xLc_9 13 rfl, xo_96 xLc_9 14 rfl, xo_46 xLc_9 15 rfl, xo_42 xLc_9 16 rfl, xo_29 xLc_9 17 rfl, xo_5 xLc_9 18 rfl, xo_96 xLc_9 19 rfl⟩
theorem dL_342 : decode code 342 = .ok (.iconst 1, 1) := dLc_9.1
theorem dL_343 : decode code 343 = .ok (.iadd, 1) := dLc_9.2.1
theorem dL_344 : decode code 344 = .ok (.iaload, 1) := dLc_9.2.2.1
theorem dL_345 : decode code 345 = .ok (.invokevirtual 32, 3) := dLc_9.2.2.2.1
theorem dL_348 : decode code 348 = .ok (.pop, 1) := dLc_9.2.2.2.2.1
theorem dL_349 : decode code 349 = .ok (.goto 1231, 3) := dLc_9.2.2.2.2.2.1
theorem dL_352 : decode code 352 = .ok (.aload_n 1, 1) := dLc_9.2.2.2.2.2.2.1
theorem dL_353 : decode code 353 = .ok (.aload_n 0, 1) := dLc_9.2.2.2.2.2.2.2.1
theorem dL_354 : decode code 354 = .ok (.iload_n 3, 1) := dLc_9.2.2.2.2.2.2.2.2.1
theorem dL_355 : decode code 355 = .ok (.iconst 1, 1) := dLc_9.2.2.2.2.2.2.2.2.2.1
theorem dL_356 : decode code 356 = .ok (.iadd, 1) := dLc_9.2.2.2.2.2.2.2.2.2.2.1
theorem dL_357 : decode code 357 = .ok (.iaload, 1) := dLc_9.2.2.2.2.2.2.2.2.2.2.2.1
theorem dL_358 : decode code 358 = .ok (.aload_n 0, 1) := dLc_9.2.2.2.2.2.2.2.2.2.2.2.2.1
theorem dL_359 : decode code 359 = .ok (.iload_n 3, 1) := dLc_9.2.2.2.2.2.2.2.2.2.2.2.2.2.1
theorem dL_360 : decode code 360 = .ok (.iconst 2, 1) := dLc_9.2.2.2.2.2.2.2.2.2.2.2.2.2.2.1
theorem dL_361 : decode code 361 = .ok (.iadd, 1) := dLc_9.2.2.2.2.2.2.2.2.2.2.2.2.2.2.2
set_option maxRecDepth 20000 in
theorem xLc_10 : xd_w code 362 [46, 42, 29, 6, 96, 46, 182, 0, 33, 87, 44, 42, 29, 4, 96, 46, 42, 29] := by unfold xd_w; decide +kernel
set_option maxRecDepth 20000 in
theorem dLc_10 : decode code 362 = .ok (.iaload, 1) ∧ decode code 363 = .ok (.aload_n 0, 1) ∧ decode code 364 = .ok (.iload_n 3, 1) ∧ decode code 365 = .ok (.iconst 3, 1) ∧ decode code 366 = .ok (.iadd, 1) ∧ decode code 367 = .ok (.iaload, 1) ∧ decode code 368 = .ok (.invokevirtual 33, 3) ∧ decode code 371 = .ok (.pop, 1) ∧ decode code 372 = .ok (.aload_n 2, 1) ∧ decode code 373 = .ok (.aload_n 0, 1) ∧ decode code 374 = .ok (.iload_n 3, 1) ∧ decode code 375 = .ok (.iconst 1, 1) ∧ decode code 376 = .ok (.iadd, 1) ∧ decode code 377 = .ok (.iaload, 1) ∧ decode code 378 = .ok (.aload_n 0, 1) ∧ decode code 379 = .ok (.iload_n 3, 1) := ⟨xo_46 xLc_10 0 rfl, xo_42 xLc_10 1 rfl, xo_29 xLc_10 2 rfl, xo_6 xLc_10 3 rfl, xo_96 xLc_10 4 rfl, xo_46 xLc_10 5 rfl, xo_182 xLc_10 6 rfl rfl rfl rfl rfl rfl, xo_87 xLc_10 9 rfl, xo_44 xLc_10 10 rfl, xo_42 xLc_10 11 rfl, xo_29 xLc_10 12 rfl, xo_4 xLc_10 13 rfl, xo_96 xLc_10 14 rfl, xo_46 xLc_10 15 rfl, xo_42 xLc_10 16 rfl, xo_29 xLc_10 17 rfl⟩
theorem dL_362 : decode code 362 = .ok (.iaload, 1) := dLc_10.1
theorem dL_363 : decode code 363 = .ok (.aload_n 0, 1) := dLc_10.2.1
theorem dL_364 : decode code 364 = .ok (.iload_n 3, 1) := dLc_10.2.2.1
theorem dL_365 : decode code 365 = .ok (.iconst 3, 1) := dLc_10.2.2.2.1
theorem dL_366 : decode code 366 = .ok (.iadd, 1) := dLc_10.2.2.2.2.1
theorem dL_367 : decode code 367 = .ok (.iaload, 1) := dLc_10.2.2.2.2.2.1
theorem dL_368 : decode code 368 = .ok (.invokevirtual 33, 3) := dLc_10.2.2.2.2.2.2.1
theorem dL_371 : decode code 371 = .ok (.pop, 1) := dLc_10.2.2.2.2.2.2.2.1
theorem dL_372 : decode code 372 = .ok (.aload_n 2, 1) := dLc_10.2.2.2.2.2.2.2.2.1
theorem dL_373 : decode code 373 = .ok (.aload_n 0, 1) := dLc_10.2.2.2.2.2.2.2.2.2.1
theorem dL_374 : decode code 374 = .ok (.iload_n 3, 1) := dLc_10.2.2.2.2.2.2.2.2.2.2.1
theorem dL_375 : decode code 375 = .ok (.iconst 1, 1) := dLc_10.2.2.2.2.2.2.2.2.2.2.2.1
theorem dL_376 : decode code 376 = .ok (.iadd, 1) := dLc_10.2.2.2.2.2.2.2.2.2.2.2.2.1
theorem dL_377 : decode code 377 = .ok (.iaload, 1) := dLc_10.2.2.2.2.2.2.2.2.2.2.2.2.2.1
theorem dL_378 : decode code 378 = .ok (.aload_n 0, 1) := dLc_10.2.2.2.2.2.2.2.2.2.2.2.2.2.2.1
theorem dL_379 : decode code 379 = .ok (.iload_n 3, 1) := dLc_10.2.2.2.2.2.2.2.2.2.2.2.2.2.2.2
set_option maxRecDepth 20000 in
theorem xLc_11 : xd_w code 380 [5, 96, 46, 42, 29, 6, 96, 46, 182, 0, 36, 87, 167, 4, 164, 43, 42, 29, 4, 96] := by unfold xd_w; decide +kernel
set_option maxRecDepth 20000 in
theorem dLc_11 : decode code 380 = .ok (.iconst 2, 1) ∧ decode code 381 = .ok (.iadd, 1) ∧ decode code 382 = .ok (.iaload, 1) ∧ decode code 383 = .ok (.aload_n 0, 1) ∧ decode code 384 = .ok (.iload_n 3, 1) ∧ decode code 385 = .ok (.iconst 3, 1) ∧ decode code 386 = .ok (.iadd, 1) ∧ decode code 387 = .ok (.iaload, 1) ∧ decode code 388 = .ok (.invokevirtual 36, 3) ∧ decode code 391 = .ok (.pop, 1) ∧ decode code 392 = .ok (.goto 1188, 3) ∧ decode code 395 = .ok (.aload_n 1, 1) ∧ decode code 396 = .ok (.aload_n 0, 1) ∧ decode code 397 = .ok (.iload_n 3, 1) ∧ decode code 398 = .ok (.iconst 1, 1) ∧ decode code 399 = .ok (.iadd, 1) := ⟨xo_5 xLc_11 0 rfl, xo_96 xLc_11 1 rfl, xo_46 xLc_11 2 rfl, xo_42 xLc_11 3 rfl, xo_29 xLc_11 4 rfl, xo_6 xLc_11 5 rfl, xo_96 xLc_11 6 rfl, xo_46 xLc_11 7 rfl, xo_182 xLc_11 8 rfl rfl rfl rfl rfl rfl, xo_87 xLc_11 11 rfl, xo_167 xLc_11 12 rfl rfl rfl rfl rfl rfl, xo_43 xLc_11 15 rfl, xo_42 xLc_11 16 rfl, xo_29 xLc_11 17 rfl, xo_4 xLc_11 18 rfl, xo_96 xLc_11 19 rfl⟩
theorem dL_380 : decode code 380 = .ok (.iconst 2, 1) := dLc_11.1
theorem dL_381 : decode code 381 = .ok (.iadd, 1) := dLc_11.2.1
theorem dL_382 : decode code 382 = .ok (.iaload, 1) := dLc_11.2.2.1
theorem dL_383 : decode code 383 = .ok (.aload_n 0, 1) := dLc_11.2.2.2.1
theorem dL_384 : decode code 384 = .ok (.iload_n 3, 1) := dLc_11.2.2.2.2.1
theorem dL_385 : decode code 385 = .ok (.iconst 3, 1) := dLc_11.2.2.2.2.2.1
theorem dL_386 : decode code 386 = .ok (.iadd, 1) := dLc_11.2.2.2.2.2.2.1
theorem dL_387 : decode code 387 = .ok (.iaload, 1) := dLc_11.2.2.2.2.2.2.2.1
theorem dL_388 : decode code 388 = .ok (.invokevirtual 36, 3) := dLc_11.2.2.2.2.2.2.2.2.1
theorem dL_391 : decode code 391 = .ok (.pop, 1) := dLc_11.2.2.2.2.2.2.2.2.2.1
theorem dL_392 : decode code 392 = .ok (.goto 1188, 3) := dLc_11.2.2.2.2.2.2.2.2.2.2.1
theorem dL_395 : decode code 395 = .ok (.aload_n 1, 1) := dLc_11.2.2.2.2.2.2.2.2.2.2.2.1
theorem dL_396 : decode code 396 = .ok (.aload_n 0, 1) := dLc_11.2.2.2.2.2.2.2.2.2.2.2.2.1
theorem dL_397 : decode code 397 = .ok (.iload_n 3, 1) := dLc_11.2.2.2.2.2.2.2.2.2.2.2.2.2.1
theorem dL_398 : decode code 398 = .ok (.iconst 1, 1) := dLc_11.2.2.2.2.2.2.2.2.2.2.2.2.2.2.1
theorem dL_399 : decode code 399 = .ok (.iadd, 1) := dLc_11.2.2.2.2.2.2.2.2.2.2.2.2.2.2.2
set_option maxRecDepth 20000 in
theorem xLc_12 : xd_w code 400 [46, 42, 29, 5, 96, 46, 42, 29, 6, 96, 46, 153, 0, 7, 4, 167, 0, 4, 3, 182, 0, 37] := by unfold xd_w; decide +kernel
set_option maxRecDepth 20000 in
theorem dLc_12 : decode code 400 = .ok (.iaload, 1) ∧ decode code 401 = .ok (.aload_n 0, 1) ∧ decode code 402 = .ok (.iload_n 3, 1) ∧ decode code 403 = .ok (.iconst 2, 1) ∧ decode code 404 = .ok (.iadd, 1) ∧ decode code 405 = .ok (.iaload, 1) ∧ decode code 406 = .ok (.aload_n 0, 1) ∧ decode code 407 = .ok (.iload_n 3, 1) ∧ decode code 408 = .ok (.iconst 3, 1) ∧ decode code 409 = .ok (.iadd, 1) ∧ decode code 410 = .ok (.iaload, 1) ∧ decode code 411 = .ok (.ifCond .eq 7, 3) ∧ decode code 414 = .ok (.iconst 1, 1) ∧ decode code 415 = .ok (.goto 4, 3) ∧ decode code 418 = .ok (.iconst 0, 1) ∧ decode code 419 = .ok (.invokevirtual 37, 3) := ⟨xo_46 xLc_12 0 rfl, xo_42 xLc_12 1 rfl, xo_29 xLc_12 2 rfl, xo_5 xLc_12 3 rfl, xo_96 xLc_12 4 rfl, xo_46 xLc_12 5 rfl, xo_42 xLc_12 6 rfl, xo_29 xLc_12 7 rfl, xo_6 xLc_12 8 rfl, xo_96 xLc_12 9 rfl, xo_46 xLc_12 10 rfl, xo_153 xLc_12 11 rfl rfl rfl rfl rfl rfl, xo_4 xLc_12 14 rfl, xo_167 xLc_12 15 rfl rfl rfl rfl rfl rfl, xo_3 xLc_12 18 rfl, xo_182 xLc_12 19 rfl rfl rfl rfl rfl rfl⟩
theorem dL_400 : decode code 400 = .ok (.iaload, 1) := dLc_12.1
theorem dL_401 : decode code 401 = .ok (.aload_n 0, 1) := dLc_12.2.1
theorem dL_402 : decode code 402 = .ok (.iload_n 3, 1) := dLc_12.2.2.1
theorem dL_403 : decode code 403 = .ok (.iconst 2, 1) := dLc_12.2.2.2.1
theorem dL_404 : decode code 404 = .ok (.iadd, 1) := dLc_12.2.2.2.2.1
theorem dL_405 : decode code 405 = .ok (.iaload, 1) := dLc_12.2.2.2.2.2.1
theorem dL_406 : decode code 406 = .ok (.aload_n 0, 1) := dLc_12.2.2.2.2.2.2.1
theorem dL_407 : decode code 407 = .ok (.iload_n 3, 1) := dLc_12.2.2.2.2.2.2.2.1
theorem dL_408 : decode code 408 = .ok (.iconst 3, 1) := dLc_12.2.2.2.2.2.2.2.2.1
theorem dL_409 : decode code 409 = .ok (.iadd, 1) := dLc_12.2.2.2.2.2.2.2.2.2.1
theorem dL_410 : decode code 410 = .ok (.iaload, 1) := dLc_12.2.2.2.2.2.2.2.2.2.2.1
theorem dL_411 : decode code 411 = .ok (.ifCond .eq 7, 3) := dLc_12.2.2.2.2.2.2.2.2.2.2.2.1
theorem dL_414 : decode code 414 = .ok (.iconst 1, 1) := dLc_12.2.2.2.2.2.2.2.2.2.2.2.2.1
theorem dL_415 : decode code 415 = .ok (.goto 4, 3) := dLc_12.2.2.2.2.2.2.2.2.2.2.2.2.2.1
theorem dL_418 : decode code 418 = .ok (.iconst 0, 1) := dLc_12.2.2.2.2.2.2.2.2.2.2.2.2.2.2.1
theorem dL_419 : decode code 419 = .ok (.invokevirtual 37, 3) := dLc_12.2.2.2.2.2.2.2.2.2.2.2.2.2.2.2
set_option maxRecDepth 20000 in
theorem xLc_13 : xd_w code 422 [87, 44, 42, 29, 4, 96, 46, 42, 29, 5, 96, 46, 42, 29, 6, 96] := by unfold xd_w; decide +kernel
set_option maxRecDepth 20000 in
theorem dLc_13 : decode code 422 = .ok (.pop, 1) ∧ decode code 423 = .ok (.aload_n 2, 1) ∧ decode code 424 = .ok (.aload_n 0, 1) ∧ decode code 425 = .ok (.iload_n 3, 1) ∧ decode code 426 = .ok (.iconst 1, 1) ∧ decode code 427 = .ok (.iadd, 1) ∧ decode code 428 = .ok (.iaload, 1) ∧ decode code 429 = .ok (.aload_n 0, 1) ∧ decode code 430 = .ok (.iload_n 3, 1) ∧ decode code 431 = .ok (.iconst 2, 1) ∧ decode code 432 = .ok (.iadd, 1) ∧ decode code 433 = .ok (.iaload, 1) ∧ decode code 434 = .ok (.aload_n 0, 1) ∧ decode code 435 = .ok (.iload_n 3, 1) ∧ decode code 436 = .ok (.iconst 3, 1) ∧ decode code 437 = .ok (.iadd, 1) := ⟨xo_87 xLc_13 0 rfl, xo_44 xLc_13 1 rfl, xo_42 xLc_13 2 rfl, xo_29 xLc_13 3 rfl, xo_4 xLc_13 4 rfl, xo_96 xLc_13 5 rfl, xo_46 xLc_13 6 rfl, xo_42 xLc_13 7 rfl, xo_29 xLc_13 8 rfl, xo_5 xLc_13 9 rfl, xo_96 xLc_13 10 rfl, xo_46 xLc_13 11 rfl, xo_42 xLc_13 12 rfl, xo_29 xLc_13 13 rfl, xo_6 xLc_13 14 rfl, xo_96 xLc_13 15 rfl⟩
theorem dL_422 : decode code 422 = .ok (.pop, 1) := dLc_13.1
theorem dL_423 : decode code 423 = .ok (.aload_n 2, 1) := dLc_13.2.1
theorem dL_424 : decode code 424 = .ok (.aload_n 0, 1) := dLc_13.2.2.1
theorem dL_425 : decode code 425 = .ok (.iload_n 3, 1) := dLc_13.2.2.2.1
theorem dL_426 : decode code 426 = .ok (.iconst 1, 1) := dLc_13.2.2.2.2.1
theorem dL_427 : decode code 427 = .ok (.iadd, 1) := dLc_13.2.2.2.2.2.1
theorem dL_428 : decode code 428 = .ok (.iaload, 1) := dLc_13.2.2.2.2.2.2.1
theorem dL_429 : decode code 429 = .ok (.aload_n 0, 1) := dLc_13.2.2.2.2.2.2.2.1
theorem dL_430 : decode code 430 = .ok (.iload_n 3, 1) := dLc_13.2.2.2.2.2.2.2.2.1
theorem dL_431 : decode code 431 = .ok (.iconst 2, 1) := dLc_13.2.2.2.2.2.2.2.2.2.1
theorem dL_432 : decode code 432 = .ok (.iadd, 1) := dLc_13.2.2.2.2.2.2.2.2.2.2.1
theorem dL_433 : decode code 433 = .ok (.iaload, 1) := dLc_13.2.2.2.2.2.2.2.2.2.2.2.1
theorem dL_434 : decode code 434 = .ok (.aload_n 0, 1) := dLc_13.2.2.2.2.2.2.2.2.2.2.2.2.1
theorem dL_435 : decode code 435 = .ok (.iload_n 3, 1) := dLc_13.2.2.2.2.2.2.2.2.2.2.2.2.2.1
theorem dL_436 : decode code 436 = .ok (.iconst 3, 1) := dLc_13.2.2.2.2.2.2.2.2.2.2.2.2.2.2.1
theorem dL_437 : decode code 437 = .ok (.iadd, 1) := dLc_13.2.2.2.2.2.2.2.2.2.2.2.2.2.2.2
set_option maxRecDepth 20000 in
theorem xLc_14 : xd_w code 438 [46, 153, 0, 7, 4, 167, 0, 4, 3, 182, 0, 41, 87, 167, 4, 105, 43, 42, 29, 4, 96, 46, 42, 29] := by unfold xd_w; decide +kernel
set_option maxRecDepth 20000 in
theorem dLc_14 : decode code 438 = .ok (.iaload, 1) ∧ decode code 439 = .ok (.ifCond .eq 7, 3) ∧ decode code 442 = .ok (.iconst 1, 1) ∧ decode code 443 = .ok (.goto 4, 3) ∧ decode code 446 = .ok (.iconst 0, 1) ∧ decode code 447 = .ok (.invokevirtual 41, 3) ∧ decode code 450 = .ok (.pop, 1) ∧ decode code 451 = .ok (.goto 1129, 3) ∧ decode code 454 = .ok (.aload_n 1, 1) ∧ decode code 455 = .ok (.aload_n 0, 1) ∧ decode code 456 = .ok (.iload_n 3, 1) ∧ decode code 457 = .ok (.iconst 1, 1) ∧ decode code 458 = .ok (.iadd, 1) ∧ decode code 459 = .ok (.iaload, 1) ∧ decode code 460 = .ok (.aload_n 0, 1) ∧ decode code 461 = .ok (.iload_n 3, 1) := ⟨xo_46 xLc_14 0 rfl, xo_153 xLc_14 1 rfl rfl rfl rfl rfl rfl, xo_4 xLc_14 4 rfl, xo_167 xLc_14 5 rfl rfl rfl rfl rfl rfl, xo_3 xLc_14 8 rfl, xo_182 xLc_14 9 rfl rfl rfl rfl rfl rfl, xo_87 xLc_14 12 rfl, xo_167 xLc_14 13 rfl rfl rfl rfl rfl rfl, xo_43 xLc_14 16 rfl, xo_42 xLc_14 17 rfl, xo_29 xLc_14 18 rfl, xo_4 xLc_14 19 rfl, xo_96 xLc_14 20 rfl, xo_46 xLc_14 21 rfl, xo_42 xLc_14 22 rfl, xo_29 xLc_14 23 rfl⟩
theorem dL_438 : decode code 438 = .ok (.iaload, 1) := dLc_14.1
theorem dL_439 : decode code 439 = .ok (.ifCond .eq 7, 3) := dLc_14.2.1
theorem dL_442 : decode code 442 = .ok (.iconst 1, 1) := dLc_14.2.2.1
theorem dL_443 : decode code 443 = .ok (.goto 4, 3) := dLc_14.2.2.2.1
theorem dL_446 : decode code 446 = .ok (.iconst 0, 1) := dLc_14.2.2.2.2.1
theorem dL_447 : decode code 447 = .ok (.invokevirtual 41, 3) := dLc_14.2.2.2.2.2.1
theorem dL_450 : decode code 450 = .ok (.pop, 1) := dLc_14.2.2.2.2.2.2.1
theorem dL_451 : decode code 451 = .ok (.goto 1129, 3) := dLc_14.2.2.2.2.2.2.2.1
theorem dL_454 : decode code 454 = .ok (.aload_n 1, 1) := dLc_14.2.2.2.2.2.2.2.2.1
theorem dL_455 : decode code 455 = .ok (.aload_n 0, 1) := dLc_14.2.2.2.2.2.2.2.2.2.1
theorem dL_456 : decode code 456 = .ok (.iload_n 3, 1) := dLc_14.2.2.2.2.2.2.2.2.2.2.1
theorem dL_457 : decode code 457 = .ok (.iconst 1, 1) := dLc_14.2.2.2.2.2.2.2.2.2.2.2.1
theorem dL_458 : decode code 458 = .ok (.iadd, 1) := dLc_14.2.2.2.2.2.2.2.2.2.2.2.2.1
theorem dL_459 : decode code 459 = .ok (.iaload, 1) := dLc_14.2.2.2.2.2.2.2.2.2.2.2.2.2.1
theorem dL_460 : decode code 460 = .ok (.aload_n 0, 1) := dLc_14.2.2.2.2.2.2.2.2.2.2.2.2.2.2.1
theorem dL_461 : decode code 461 = .ok (.iload_n 3, 1) := dLc_14.2.2.2.2.2.2.2.2.2.2.2.2.2.2.2
set_option maxRecDepth 20000 in
theorem xLc_15 : xd_w code 462 [5, 96, 46, 42, 29, 6, 96, 46, 182, 0, 42, 87, 44, 42, 29, 4, 96, 46] := by unfold xd_w; decide +kernel
set_option maxRecDepth 20000 in
theorem dLc_15 : decode code 462 = .ok (.iconst 2, 1) ∧ decode code 463 = .ok (.iadd, 1) ∧ decode code 464 = .ok (.iaload, 1) ∧ decode code 465 = .ok (.aload_n 0, 1) ∧ decode code 466 = .ok (.iload_n 3, 1) ∧ decode code 467 = .ok (.iconst 3, 1) ∧ decode code 468 = .ok (.iadd, 1) ∧ decode code 469 = .ok (.iaload, 1) ∧ decode code 470 = .ok (.invokevirtual 42, 3) ∧ decode code 473 = .ok (.pop, 1) ∧ decode code 474 = .ok (.aload_n 2, 1) ∧ decode code 475 = .ok (.aload_n 0, 1) ∧ decode code 476 = .ok (.iload_n 3, 1) ∧ decode code 477 = .ok (.iconst 1, 1) ∧ decode code 478 = .ok (.iadd, 1) ∧ decode code 479 = .ok (.iaload, 1) := ⟨xo_5 xLc_15 0 rfl, xo_96 xLc_15 1 rfl, xo_46 xLc_15 2 rfl, xo_42 xLc_15 3 rfl, xo_29 xLc_15 4 rfl, xo_6 xLc_15 5 rfl, xo_96 xLc_15 6 rfl, xo_46 xLc_15 7 rfl, xo_182 xLc_15 8 rfl rfl rfl rfl rfl rfl, xo_87 xLc_15 11 rfl, xo_44 xLc_15 12 rfl, xo_42 xLc_15 13 rfl, xo_29 xLc_15 14 rfl, xo_4 xLc_15 15 rfl, xo_96 xLc_15 16 rfl, xo_46 xLc_15 17 rfl⟩
theorem dL_462 : decode code 462 = .ok (.iconst 2, 1) := dLc_15.1
theorem dL_463 : decode code 463 = .ok (.iadd, 1) := dLc_15.2.1
theorem dL_464 : decode code 464 = .ok (.iaload, 1) := dLc_15.2.2.1
theorem dL_465 : decode code 465 = .ok (.aload_n 0, 1) := dLc_15.2.2.2.1
theorem dL_466 : decode code 466 = .ok (.iload_n 3, 1) := dLc_15.2.2.2.2.1
theorem dL_467 : decode code 467 = .ok (.iconst 3, 1) := dLc_15.2.2.2.2.2.1
theorem dL_468 : decode code 468 = .ok (.iadd, 1) := dLc_15.2.2.2.2.2.2.1
theorem dL_469 : decode code 469 = .ok (.iaload, 1) := dLc_15.2.2.2.2.2.2.2.1
theorem dL_470 : decode code 470 = .ok (.invokevirtual 42, 3) := dLc_15.2.2.2.2.2.2.2.2.1
theorem dL_473 : decode code 473 = .ok (.pop, 1) := dLc_15.2.2.2.2.2.2.2.2.2.1
theorem dL_474 : decode code 474 = .ok (.aload_n 2, 1) := dLc_15.2.2.2.2.2.2.2.2.2.2.1
theorem dL_475 : decode code 475 = .ok (.aload_n 0, 1) := dLc_15.2.2.2.2.2.2.2.2.2.2.2.1
theorem dL_476 : decode code 476 = .ok (.iload_n 3, 1) := dLc_15.2.2.2.2.2.2.2.2.2.2.2.2.1
theorem dL_477 : decode code 477 = .ok (.iconst 1, 1) := dLc_15.2.2.2.2.2.2.2.2.2.2.2.2.2.1
theorem dL_478 : decode code 478 = .ok (.iadd, 1) := dLc_15.2.2.2.2.2.2.2.2.2.2.2.2.2.2.1
theorem dL_479 : decode code 479 = .ok (.iaload, 1) := dLc_15.2.2.2.2.2.2.2.2.2.2.2.2.2.2.2
set_option maxRecDepth 20000 in
theorem xLc_16 : xd_w code 480 [42, 29, 5, 96, 46, 42, 29, 6, 96, 46, 182, 0, 45, 87, 167, 4, 62, 43, 42, 29] := by unfold xd_w; decide +kernel
set_option maxRecDepth 20000 in
theorem dLc_16 : decode code 480 = .ok (.aload_n 0, 1) ∧ decode code 481 = .ok (.iload_n 3, 1) ∧ decode code 482 = .ok (.iconst 2, 1) ∧ decode code 483 = .ok (.iadd, 1) ∧ decode code 484 = .ok (.iaload, 1) ∧ decode code 485 = .ok (.aload_n 0, 1) ∧ decode code 486 = .ok (.iload_n 3, 1) ∧ decode code 487 = .ok (.iconst 3, 1) ∧ decode code 488 = .ok (.iadd, 1) ∧ decode code 489 = .ok (.iaload, 1) ∧ decode code 490 = .ok (.invokevirtual 45, 3) ∧ decode code 493 = .ok (.pop, 1) ∧ decode code 494 = .ok (.goto 1086, 3) ∧ decode code 497 = .ok (.aload_n 1, 1) ∧ decode code 498 = .ok (.aload_n 0, 1) ∧ decode code 499 = .ok (.iload_n 3, 1) := ⟨xo_42 xLc_16 0 rfl, xo_29 xLc_16 1 rfl, xo_5 xLc_16 2 rfl, xo_96 xLc_16 3 rfl, xo_46 xLc_16 4 rfl, xo_42 xLc_16 5 rfl, xo_29 xLc_16 6 rfl, xo_6 xLc_16 7 rfl, xo_96 xLc_16 8 rfl, xo_46 xLc_16 9 rfl, xo_182 xLc_16 10 rfl rfl rfl rfl rfl rfl, xo_87 xLc_16 13 rfl, xo_167 xLc_16 14 rfl rfl rfl rfl rfl rfl, xo_43 xLc_16 17 rfl, xo_42 xLc_16 18 rfl, xo_29 xLc_16 19 rfl⟩
theorem dL_480 : decode code 480 = .ok (.aload_n 0, 1) := dLc_16.1
theorem dL_481 : decode code 481 = .ok (.iload_n 3, 1) := dLc_16.2.1
theorem dL_482 : decode code 482 = .ok (.iconst 2, 1) := dLc_16.2.2.1
theorem dL_483 : decode code 483 = .ok (.iadd, 1) := dLc_16.2.2.2.1
theorem dL_484 : decode code 484 = .ok (.iaload, 1) := dLc_16.2.2.2.2.1
theorem dL_485 : decode code 485 = .ok (.aload_n 0, 1) := dLc_16.2.2.2.2.2.1
theorem dL_486 : decode code 486 = .ok (.iload_n 3, 1) := dLc_16.2.2.2.2.2.2.1
theorem dL_487 : decode code 487 = .ok (.iconst 3, 1) := dLc_16.2.2.2.2.2.2.2.1
theorem dL_488 : decode code 488 = .ok (.iadd, 1) := dLc_16.2.2.2.2.2.2.2.2.1
theorem dL_489 : decode code 489 = .ok (.iaload, 1) := dLc_16.2.2.2.2.2.2.2.2.2.1
theorem dL_490 : decode code 490 = .ok (.invokevirtual 45, 3) := dLc_16.2.2.2.2.2.2.2.2.2.2.1
theorem dL_493 : decode code 493 = .ok (.pop, 1) := dLc_16.2.2.2.2.2.2.2.2.2.2.2.1
theorem dL_494 : decode code 494 = .ok (.goto 1086, 3) := dLc_16.2.2.2.2.2.2.2.2.2.2.2.2.1
theorem dL_497 : decode code 497 = .ok (.aload_n 1, 1) := dLc_16.2.2.2.2.2.2.2.2.2.2.2.2.2.1
theorem dL_498 : decode code 498 = .ok (.aload_n 0, 1) := dLc_16.2.2.2.2.2.2.2.2.2.2.2.2.2.2.1
theorem dL_499 : decode code 499 = .ok (.iload_n 3, 1) := dLc_16.2.2.2.2.2.2.2.2.2.2.2.2.2.2.2
set_option maxRecDepth 20000 in
theorem xLc_17 : xd_w code 500 [4, 96, 46, 182, 0, 46, 87, 44, 42, 29, 4, 96, 46, 182, 0, 49, 87, 167, 4, 39, 43, 42] := by unfold xd_w; decide +kernel
set_option maxRecDepth 20000 in
theorem dLc_17 : decode code 500 = .ok (.iconst 1, 1) ∧ decode code 501 = .ok (.iadd, 1) ∧ decode code 502 = .ok (.iaload, 1) ∧ decode code 503 = .ok (.invokevirtual 46, 3) ∧ decode code 506 = .ok (.pop, 1) ∧ decode code 507 = .ok (.aload_n 2, 1) ∧ decode code 508 = .ok (.aload_n 0, 1) ∧ decode code 509 = .ok (.iload_n 3, 1) ∧ decode code 510 = .ok (.iconst 1, 1) ∧ decode code 511 = .ok (.iadd, 1) ∧ decode code 512 = .ok (.iaload, 1) ∧ decode code 513 = .ok (.invokevirtual 49, 3) ∧ decode code 516 = .ok (.pop, 1) ∧ decode code 517 = .ok (.goto 1063, 3) ∧ decode code 520 = .ok (.aload_n 1, 1) ∧ decode code 521 = .ok (.aload_n 0, 1) := ⟨xo_4 xLc_17 0 rfl, xo_96 xLc_17 1 rfl, xo_46 xLc_17 2 rfl, xo_182 xLc_17 3 rfl rfl rfl rfl rfl rfl, xo_87 xLc_17 6 rfl, xo_44 xLc_17 7 rfl, xo_42 xLc_17 8 rfl, xo_29 xLc_17 9 rfl, xo_4 xLc_17 10 rfl, xo_96 xLc_17 11 rfl, xo_46 xLc_17 12 rfl, xo_182 xLc_17 13 rfl rfl rfl rfl rfl rfl, xo_87 xLc_17 16 rfl, xo_167 xLc_17 17 rfl rfl rfl rfl rfl rfl, xo_43 xLc_17 20 rfl, xo_42 xLc_17 21 rfl⟩
theorem dL_500 : decode code 500 = .ok (.iconst 1, 1) := dLc_17.1
theorem dL_501 : decode code 501 = .ok (.iadd, 1) := dLc_17.2.1
theorem dL_502 : decode code 502 = .ok (.iaload, 1) := dLc_17.2.2.1
theorem dL_503 : decode code 503 = .ok (.invokevirtual 46, 3) := dLc_17.2.2.2.1
theorem dL_506 : decode code 506 = .ok (.pop, 1) := dLc_17.2.2.2.2.1
theorem dL_507 : decode code 507 = .ok (.aload_n 2, 1) := dLc_17.2.2.2.2.2.1
theorem dL_508 : decode code 508 = .ok (.aload_n 0, 1) := dLc_17.2.2.2.2.2.2.1
theorem dL_509 : decode code 509 = .ok (.iload_n 3, 1) := dLc_17.2.2.2.2.2.2.2.1
theorem dL_510 : decode code 510 = .ok (.iconst 1, 1) := dLc_17.2.2.2.2.2.2.2.2.1
theorem dL_511 : decode code 511 = .ok (.iadd, 1) := dLc_17.2.2.2.2.2.2.2.2.2.1
theorem dL_512 : decode code 512 = .ok (.iaload, 1) := dLc_17.2.2.2.2.2.2.2.2.2.2.1
theorem dL_513 : decode code 513 = .ok (.invokevirtual 49, 3) := dLc_17.2.2.2.2.2.2.2.2.2.2.2.1
theorem dL_516 : decode code 516 = .ok (.pop, 1) := dLc_17.2.2.2.2.2.2.2.2.2.2.2.2.1
theorem dL_517 : decode code 517 = .ok (.goto 1063, 3) := dLc_17.2.2.2.2.2.2.2.2.2.2.2.2.2.1
theorem dL_520 : decode code 520 = .ok (.aload_n 1, 1) := dLc_17.2.2.2.2.2.2.2.2.2.2.2.2.2.2.1
theorem dL_521 : decode code 521 = .ok (.aload_n 0, 1) := dLc_17.2.2.2.2.2.2.2.2.2.2.2.2.2.2.2
set_option maxRecDepth 20000 in
theorem xLc_18 : xd_w code 522 [29, 4, 96, 46, 182, 0, 50, 87, 44, 42, 29, 4, 96, 46, 182, 0, 53, 87, 167, 4, 16, 43] := by unfold xd_w; decide +kernel
set_option maxRecDepth 20000 in
theorem dLc_18 : decode code 522 = .ok (.iload_n 3, 1) ∧ decode code 523 = .ok (.iconst 1, 1) ∧ decode code 524 = .ok (.iadd, 1) ∧ decode code 525 = .ok (.iaload, 1) ∧ decode code 526 = .ok (.invokevirtual 50, 3) ∧ decode code 529 = .ok (.pop, 1) ∧ decode code 530 = .ok (.aload_n 2, 1) ∧ decode code 531 = .ok (.aload_n 0, 1) ∧ decode code 532 = .ok (.iload_n 3, 1) ∧ decode code 533 = .ok (.iconst 1, 1) ∧ decode code 534 = .ok (.iadd, 1) ∧ decode code 535 = .ok (.iaload, 1) ∧ decode code 536 = .ok (.invokevirtual 53, 3) ∧ decode code 539 = .ok (.pop, 1) ∧ decode code 540 = .ok (.goto 1040, 3) ∧ decode code 543 = .ok (.aload_n 1, 1) := ⟨xo_29 xLc_18 0 rfl, xo_4 xLc_18 1 rfl, xo_96 xLc_18 2 rfl, xo_46 xLc_18 3 rfl, xo_182 xLc_18 4 rfl rfl rfl rfl rfl rfl, xo_87 xLc_18 7 rfl, xo_44 xLc_18 8 rfl, xo_42 xLc_18 9 rfl, xo_29 xLc_18 10 rfl, xo_4 xLc_18 11 rfl, xo_96 xLc_18 12 rfl, xo_46 xLc_18 13 rfl, xo_182 xLc_18 14 rfl rfl rfl rfl rfl rfl, xo_87 xLc_18 17 rfl, xo_167 xLc_18 18 rfl rfl rfl rfl rfl rfl, xo_43 xLc_18 21 rfl⟩
theorem dL_522 : decode code 522 = .ok (.iload_n 3, 1) := dLc_18.1
theorem dL_523 : decode code 523 = .ok (.iconst 1, 1) := dLc_18.2.1
theorem dL_524 : decode code 524 = .ok (.iadd, 1) := dLc_18.2.2.1
theorem dL_525 : decode code 525 = .ok (.iaload, 1) := dLc_18.2.2.2.1
theorem dL_526 : decode code 526 = .ok (.invokevirtual 50, 3) := dLc_18.2.2.2.2.1
theorem dL_529 : decode code 529 = .ok (.pop, 1) := dLc_18.2.2.2.2.2.1
theorem dL_530 : decode code 530 = .ok (.aload_n 2, 1) := dLc_18.2.2.2.2.2.2.1
theorem dL_531 : decode code 531 = .ok (.aload_n 0, 1) := dLc_18.2.2.2.2.2.2.2.1
theorem dL_532 : decode code 532 = .ok (.iload_n 3, 1) := dLc_18.2.2.2.2.2.2.2.2.1
theorem dL_533 : decode code 533 = .ok (.iconst 1, 1) := dLc_18.2.2.2.2.2.2.2.2.2.1
theorem dL_534 : decode code 534 = .ok (.iadd, 1) := dLc_18.2.2.2.2.2.2.2.2.2.2.1
theorem dL_535 : decode code 535 = .ok (.iaload, 1) := dLc_18.2.2.2.2.2.2.2.2.2.2.2.1
theorem dL_536 : decode code 536 = .ok (.invokevirtual 53, 3) := dLc_18.2.2.2.2.2.2.2.2.2.2.2.2.1
theorem dL_539 : decode code 539 = .ok (.pop, 1) := dLc_18.2.2.2.2.2.2.2.2.2.2.2.2.2.1
theorem dL_540 : decode code 540 = .ok (.goto 1040, 3) := dLc_18.2.2.2.2.2.2.2.2.2.2.2.2.2.2.1
theorem dL_543 : decode code 543 = .ok (.aload_n 1, 1) := dLc_18.2.2.2.2.2.2.2.2.2.2.2.2.2.2.2
set_option maxRecDepth 20000 in
theorem xLc_19 : xd_w code 544 [42, 29, 4, 96, 46, 42, 29, 5, 96, 46, 182, 0, 54, 87, 44, 42, 29, 4] := by unfold xd_w; decide +kernel
set_option maxRecDepth 20000 in
theorem dLc_19 : decode code 544 = .ok (.aload_n 0, 1) ∧ decode code 545 = .ok (.iload_n 3, 1) ∧ decode code 546 = .ok (.iconst 1, 1) ∧ decode code 547 = .ok (.iadd, 1) ∧ decode code 548 = .ok (.iaload, 1) ∧ decode code 549 = .ok (.aload_n 0, 1) ∧ decode code 550 = .ok (.iload_n 3, 1) ∧ decode code 551 = .ok (.iconst 2, 1) ∧ decode code 552 = .ok (.iadd, 1) ∧ decode code 553 = .ok (.iaload, 1) ∧ decode code 554 = .ok (.invokevirtual 54, 3) ∧ decode code 557 = .ok (.pop, 1) ∧ decode code 558 = .ok (.aload_n 2, 1) ∧ decode code 559 = .ok (.aload_n 0, 1) ∧ decode code 560 = .ok (.iload_n 3, 1) ∧ decode code 561 = .ok (.iconst 1, 1) := ⟨xo_42 xLc_19 0 rfl, xo_29 xLc_19 1 rfl, xo_4 xLc_19 2 rfl, xo_96 xLc_19 3 rfl, xo_46 xLc_19 4 rfl, xo_42 xLc_19 5 rfl, xo_29 xLc_19 6 rfl, xo_5 xLc_19 7 rfl, xo_96 xLc_19 8 rfl, xo_46 xLc_19 9 rfl, xo_182 xLc_19 10 rfl rfl rfl rfl rfl rfl, xo_87 xLc_19 13 rfl, xo_44 xLc_19 14 rfl, xo_42 xLc_19 15 rfl, xo_29 xLc_19 16 rfl, xo_4 xLc_19 17 rfl⟩
theorem dL_544 : decode code 544 = .ok (.aload_n 0, 1) := dLc_19.1
theorem dL_545 : decode code 545 = .ok (.iload_n 3, 1) := dLc_19.2.1
theorem dL_546 : decode code 546 = .ok (.iconst 1, 1) := dLc_19.2.2.1
theorem dL_547 : decode code 547 = .ok (.iadd, 1) := dLc_19.2.2.2.1
theorem dL_548 : decode code 548 = .ok (.iaload, 1) := dLc_19.2.2.2.2.1
theorem dL_549 : decode code 549 = .ok (.aload_n 0, 1) := dLc_19.2.2.2.2.2.1
theorem dL_550 : decode code 550 = .ok (.iload_n 3, 1) := dLc_19.2.2.2.2.2.2.1
theorem dL_551 : decode code 551 = .ok (.iconst 2, 1) := dLc_19.2.2.2.2.2.2.2.1
theorem dL_552 : decode code 552 = .ok (.iadd, 1) := dLc_19.2.2.2.2.2.2.2.2.1
theorem dL_553 : decode code 553 = .ok (.iaload, 1) := dLc_19.2.2.2.2.2.2.2.2.2.1
theorem dL_554 : decode code 554 = .ok (.invokevirtual 54, 3) := dLc_19.2.2.2.2.2.2.2.2.2.2.1
theorem dL_557 : decode code 557 = .ok (.pop, 1) := dLc_19.2.2.2.2.2.2.2.2.2.2.2.1
theorem dL_558 : decode code 558 = .ok (.aload_n 2, 1) := dLc_19.2.2.2.2.2.2.2.2.2.2.2.2.1
theorem dL_559 : decode code 559 = .ok (.aload_n 0, 1) := dLc_19.2.2.2.2.2.2.2.2.2.2.2.2.2.1
theorem dL_560 : decode code 560 = .ok (.iload_n 3, 1) := dLc_19.2.2.2.2.2.2.2.2.2.2.2.2.2.2.1
theorem dL_561 : decode code 561 = .ok (.iconst 1, 1) := dLc_19.2.2.2.2.2.2.2.2.2.2.2.2.2.2.2
set_option maxRecDepth 20000 in
theorem xLc_20 : xd_w code 562 [96, 46, 42, 29, 5, 96, 46, 182, 0, 58, 87, 167, 3, 239, 43, 42, 29, 4, 96, 46] := by unfold xd_w; decide +kernel
set_option maxRecDepth 20000 in
theorem dLc_20 : decode code 562 = .ok (.iadd, 1) ∧ decode code 563 = .ok (.iaload, 1) ∧ decode code 564 = .ok (.aload_n 0, 1) ∧ decode code 565 = .ok (.iload_n 3, 1) ∧ decode code 566 = .ok (.iconst 2, 1) ∧ decode code 567 = .ok (.iadd, 1) ∧ decode code 568 = .ok (.iaload, 1) ∧ decode code 569 = .ok (.invokevirtual 58, 3) ∧ decode code 572 = .ok (.pop, 1) ∧ decode code 573 = .ok (.goto 1007, 3) ∧ decode code 576 = .ok (.aload_n 1, 1) ∧ decode code 577 = .ok (.aload_n 0, 1) ∧ decode code 578 = .ok (.iload_n 3, 1) ∧ decode code 579 = .ok (.iconst 1, 1) ∧ decode code 580 = .ok (.iadd, 1) ∧ decode code 581 = .ok (.iaload, 1) := ⟨xo_96 xLc_20 0 rfl, xo_46 xLc_20 1 rfl, xo_42 xLc_20 2 rfl, xo_29 xLc_20 3 rfl, xo_5 xLc_20 4 rfl, xo_96 xLc_20 5 rfl, xo_46 xLc_20 6 rfl, xo_182 xLc_20 7 rfl rfl rfl rfl rfl rfl, xo_87 xLc_20 10 rfl, xo_167 xLc_20 11 rfl rfl rfl rfl rfl rfl, xo_43 xLc_20 14 rfl, xo_42 xLc_20 15 rfl, xo_29 xLc_20 16 rfl, xo_4 xLc_20 17 rfl, xo_96 xLc_20 18 rfl, xo_46 xLc_20 19 rfl⟩
theorem dL_562 : decode code 562 = .ok (.iadd, 1) := dLc_20.1
theorem dL_563 : decode code 563 = .ok (.iaload, 1) := dLc_20.2.1
theorem dL_564 : decode code 564 = .ok (.aload_n 0, 1) := dLc_20.2.2.1
theorem dL_565 : decode code 565 = .ok (.iload_n 3, 1) := dLc_20.2.2.2.1
theorem dL_566 : decode code 566 = .ok (.iconst 2, 1) := dLc_20.2.2.2.2.1
theorem dL_567 : decode code 567 = .ok (.iadd, 1) := dLc_20.2.2.2.2.2.1
theorem dL_568 : decode code 568 = .ok (.iaload, 1) := dLc_20.2.2.2.2.2.2.1
theorem dL_569 : decode code 569 = .ok (.invokevirtual 58, 3) := dLc_20.2.2.2.2.2.2.2.1
theorem dL_572 : decode code 572 = .ok (.pop, 1) := dLc_20.2.2.2.2.2.2.2.2.1
theorem dL_573 : decode code 573 = .ok (.goto 1007, 3) := dLc_20.2.2.2.2.2.2.2.2.2.1
theorem dL_576 : decode code 576 = .ok (.aload_n 1, 1) := dLc_20.2.2.2.2.2.2.2.2.2.2.1
theorem dL_577 : decode code 577 = .ok (.aload_n 0, 1) := dLc_20.2.2.2.2.2.2.2.2.2.2.2.1
theorem dL_578 : decode code 578 = .ok (.iload_n 3, 1) := dLc_20.2.2.2.2.2.2.2.2.2.2.2.2.1
theorem dL_579 : decode code 579 = .ok (.iconst 1, 1) := dLc_20.2.2.2.2.2.2.2.2.2.2.2.2.2.1
theorem dL_580 : decode code 580 = .ok (.iadd, 1) := dLc_20.2.2.2.2.2.2.2.2.2.2.2.2.2.2.1
theorem dL_581 : decode code 581 = .ok (.iaload, 1) := dLc_20.2.2.2.2.2.2.2.2.2.2.2.2.2.2.2
set_option maxRecDepth 20000 in
theorem xLc_21 : xd_w code 582 [42, 29, 5, 96, 46, 182, 0, 59, 87, 44, 42, 29, 4, 96, 46, 42, 29, 5] := by unfold xd_w; decide +kernel
set_option maxRecDepth 20000 in
theorem dLc_21 : decode code 582 = .ok (.aload_n 0, 1) ∧ decode code 583 = .ok (.iload_n 3, 1) ∧ decode code 584 = .ok (.iconst 2, 1) ∧ decode code 585 = .ok (.iadd, 1) ∧ decode code 586 = .ok (.iaload, 1) ∧ decode code 587 = .ok (.invokevirtual 59, 3) ∧ decode code 590 = .ok (.pop, 1) ∧ decode code 591 = .ok (.aload_n 2, 1) ∧ decode code 592 = .ok (.aload_n 0, 1) ∧ decode code 593 = .ok (.iload_n 3, 1) ∧ decode code 594 = .ok (.iconst 1, 1) ∧ decode code 595 = .ok (.iadd, 1) ∧ decode code 596 = .ok (.iaload, 1) ∧ decode code 597 = .ok (.aload_n 0, 1) ∧ decode code 598 = .ok (.iload_n 3, 1) ∧ decode code 599 = .ok (.iconst 2, 1) := ⟨xo_42 xLc_21 0 rfl, xo_29 xLc_21 1 rfl, xo_5 xLc_21 2 rfl, xo_96 xLc_21 3 rfl, xo_46 xLc_21 4 rfl, xo_182 xLc_21 5 rfl rfl rfl rfl rfl rfl, xo_87 xLc_21 8 rfl, xo_44 xLc_21 9 rfl, xo_42 xLc_21 10 rfl, xo_29 xLc_21 11 rfl, xo_4 xLc_21 12 rfl, xo_96 xLc_21 13 rfl, xo_46 xLc_21 14 rfl, xo_42 xLc_21 15 rfl, xo_29 xLc_21 16 rfl, xo_5 xLc_21 17 rfl⟩
theorem dL_582 : decode code 582 = .ok (.aload_n 0, 1) := dLc_21.1
theorem dL_583 : decode code 583 = .ok (.iload_n 3, 1) := dLc_21.2.1
theorem dL_584 : decode code 584 = .ok (.iconst 2, 1) := dLc_21.2.2.1
theorem dL_585 : decode code 585 = .ok (.iadd, 1) := dLc_21.2.2.2.1
theorem dL_586 : decode code 586 = .ok (.iaload, 1) := dLc_21.2.2.2.2.1
theorem dL_587 : decode code 587 = .ok (.invokevirtual 59, 3) := dLc_21.2.2.2.2.2.1
theorem dL_590 : decode code 590 = .ok (.pop, 1) := dLc_21.2.2.2.2.2.2.1
theorem dL_591 : decode code 591 = .ok (.aload_n 2, 1) := dLc_21.2.2.2.2.2.2.2.1
theorem dL_592 : decode code 592 = .ok (.aload_n 0, 1) := dLc_21.2.2.2.2.2.2.2.2.1
theorem dL_593 : decode code 593 = .ok (.iload_n 3, 1) := dLc_21.2.2.2.2.2.2.2.2.2.1
theorem dL_594 : decode code 594 = .ok (.iconst 1, 1) := dLc_21.2.2.2.2.2.2.2.2.2.2.1
theorem dL_595 : decode code 595 = .ok (.iadd, 1) := dLc_21.2.2.2.2.2.2.2.2.2.2.2.1
theorem dL_596 : decode code 596 = .ok (.iaload, 1) := dLc_21.2.2.2.2.2.2.2.2.2.2.2.2.1
theorem dL_597 : decode code 597 = .ok (.aload_n 0, 1) := dLc_21.2.2.2.2.2.2.2.2.2.2.2.2.2.1
theorem dL_598 : decode code 598 = .ok (.iload_n 3, 1) := dLc_21.2.2.2.2.2.2.2.2.2.2.2.2.2.2.1
theorem dL_599 : decode code 599 = .ok (.iconst 2, 1) := dLc_21.2.2.2.2.2.2.2.2.2.2.2.2.2.2.2
set_option maxRecDepth 20000 in
theorem xLc_22 : xd_w code 600 [96, 46, 182, 0, 62, 87, 167, 3, 206, 43, 42, 29, 4, 96, 46, 42, 29, 5, 96, 46] := by unfold xd_w; decide +kernel
set_option maxRecDepth 20000 in
theorem dLc_22 : decode code 600 = .ok (.iadd, 1) ∧ decode code 601 = .ok (.iaload, 1) ∧ decode code 602 = .ok (.invokevirtual 62, 3) ∧ decode code 605 = .ok (.pop, 1) ∧ decode code 606 = .ok (.goto 974, 3) ∧ decode code 609 = .ok (.aload_n 1, 1) ∧ decode code 610 = .ok (.aload_n 0, 1) ∧ decode code 611 = .ok (.iload_n 3, 1) ∧ decode code 612 = .ok (.iconst 1, 1) ∧ decode code 613 = .ok (.iadd, 1) ∧ decode code 614 = .ok (.iaload, 1) ∧ decode code 615 = .ok (.aload_n 0, 1) ∧ decode code 616 = .ok (.iload_n 3, 1) ∧ decode code 617 = .ok (.iconst 2, 1) ∧ decode code 618 = .ok (.iadd, 1) ∧ decode code 619 = .ok (.iaload, 1) := ⟨xo_96 xLc_22 0 rfl, xo_46 xLc_22 1 rfl, xo_182 xLc_22 2 rfl rfl rfl rfl rfl rfl, xo_87 xLc_22 5 rfl, xo_167 xLc_22 6 rfl rfl rfl rfl rfl rfl, xo_43 xLc_22 9 rfl, xo_42 xLc_22 10 rfl, xo_29 xLc_22 11 rfl, xo_4 xLc_22 12 rfl, xo_96 xLc_22 13 rfl, xo_46 xLc_22 14 rfl, xo_42 xLc_22 15 rfl, xo_29 xLc_22 16 rfl, xo_5 xLc_22 17 rfl, xo_96 xLc_22 18 rfl, xo_46 xLc_22 19 rfl⟩
theorem dL_600 : decode code 600 = .ok (.iadd, 1) := dLc_22.1
theorem dL_601 : decode code 601 = .ok (.iaload, 1) := dLc_22.2.1
theorem dL_602 : decode code 602 = .ok (.invokevirtual 62, 3) := dLc_22.2.2.1
theorem dL_605 : decode code 605 = .ok (.pop, 1) := dLc_22.2.2.2.1
theorem dL_606 : decode code 606 = .ok (.goto 974, 3) := dLc_22.2.2.2.2.1
theorem dL_609 : decode code 609 = .ok (.aload_n 1, 1) := dLc_22.2.2.2.2.2.1
theorem dL_610 : decode code 610 = .ok (.aload_n 0, 1) := dLc_22.2.2.2.2.2.2.1
theorem dL_611 : decode code 611 = .ok (.iload_n 3, 1) := dLc_22.2.2.2.2.2.2.2.1
theorem dL_612 : decode code 612 = .ok (.iconst 1, 1) := dLc_22.2.2.2.2.2.2.2.2.1
theorem dL_613 : decode code 613 = .ok (.iadd, 1) := dLc_22.2.2.2.2.2.2.2.2.2.1
theorem dL_614 : decode code 614 = .ok (.iaload, 1) := dLc_22.2.2.2.2.2.2.2.2.2.2.1
theorem dL_615 : decode code 615 = .ok (.aload_n 0, 1) := dLc_22.2.2.2.2.2.2.2.2.2.2.2.1
theorem dL_616 : decode code 616 = .ok (.iload_n 3, 1) := dLc_22.2.2.2.2.2.2.2.2.2.2.2.2.1
theorem dL_617 : decode code 617 = .ok (.iconst 2, 1) := dLc_22.2.2.2.2.2.2.2.2.2.2.2.2.2.1
theorem dL_618 : decode code 618 = .ok (.iadd, 1) := dLc_22.2.2.2.2.2.2.2.2.2.2.2.2.2.2.1
theorem dL_619 : decode code 619 = .ok (.iaload, 1) := dLc_22.2.2.2.2.2.2.2.2.2.2.2.2.2.2.2
set_option maxRecDepth 20000 in
theorem xLc_23 : xd_w code 620 [42, 29, 6, 96, 46, 42, 29, 7, 96, 46, 182, 0, 63, 87, 44, 42, 29, 4] := by unfold xd_w; decide +kernel
set_option maxRecDepth 20000 in
theorem dLc_23 : decode code 620 = .ok (.aload_n 0, 1) ∧ decode code 621 = .ok (.iload_n 3, 1) ∧ decode code 622 = .ok (.iconst 3, 1) ∧ decode code 623 = .ok (.iadd, 1) ∧ decode code 624 = .ok (.iaload, 1) ∧ decode code 625 = .ok (.aload_n 0, 1) ∧ decode code 626 = .ok (.iload_n 3, 1) ∧ decode code 627 = .ok (.iconst 4, 1) ∧ decode code 628 = .ok (.iadd, 1) ∧ decode code 629 = .ok (.iaload, 1) ∧ decode code 630 = .ok (.invokevirtual 63, 3) ∧ decode code 633 = .ok (.pop, 1) ∧ decode code 634 = .ok (.aload_n 2, 1) ∧ decode code 635 = .ok (.aload_n 0, 1) ∧ decode code 636 = .ok (.iload_n 3, 1) ∧ decode code 637 = .ok (.iconst 1, 1) := ⟨xo_42 xLc_23 0 rfl, xo_29 xLc_23 1 rfl, xo_6 xLc_23 2 rfl, xo_96 xLc_23 3 rfl, xo_46 xLc_23 4 rfl, xo_42 xLc_23 5 rfl, xo_29 xLc_23 6 rfl, xo_7 xLc_23 7 rfl, xo_96 xLc_23 8 rfl, xo_46 xLc_23 9 rfl, xo_182 xLc_23 10 rfl rfl rfl rfl rfl rfl, xo_87 xLc_23 13 rfl, xo_44 xLc_23 14 rfl, xo_42 xLc_23 15 rfl, xo_29 xLc_23 16 rfl, xo_4 xLc_23 17 rfl⟩
theorem dL_620 : decode code 620 = .ok (.aload_n 0, 1) := dLc_23.1
theorem dL_621 : decode code 621 = .ok (.iload_n 3, 1) := dLc_23.2.1
theorem dL_622 : decode code 622 = .ok (.iconst 3, 1) := dLc_23.2.2.1
theorem dL_623 : decode code 623 = .ok (.iadd, 1) := dLc_23.2.2.2.1
theorem dL_624 : decode code 624 = .ok (.iaload, 1) := dLc_23.2.2.2.2.1
theorem dL_625 : decode code 625 = .ok (.aload_n 0, 1) := dLc_23.2.2.2.2.2.1
theorem dL_626 : decode code 626 = .ok (.iload_n 3, 1) := dLc_23.2.2.2.2.2.2.1
theorem dL_627 : decode code 627 = .ok (.iconst 4, 1) := dLc_23.2.2.2.2.2.2.2.1
theorem dL_628 : decode code 628 = .ok (.iadd, 1) := dLc_23.2.2.2.2.2.2.2.2.1
theorem dL_629 : decode code 629 = .ok (.iaload, 1) := dLc_23.2.2.2.2.2.2.2.2.2.1
theorem dL_630 : decode code 630 = .ok (.invokevirtual 63, 3) := dLc_23.2.2.2.2.2.2.2.2.2.2.1
theorem dL_633 : decode code 633 = .ok (.pop, 1) := dLc_23.2.2.2.2.2.2.2.2.2.2.2.1
theorem dL_634 : decode code 634 = .ok (.aload_n 2, 1) := dLc_23.2.2.2.2.2.2.2.2.2.2.2.2.1
theorem dL_635 : decode code 635 = .ok (.aload_n 0, 1) := dLc_23.2.2.2.2.2.2.2.2.2.2.2.2.2.1
theorem dL_636 : decode code 636 = .ok (.iload_n 3, 1) := dLc_23.2.2.2.2.2.2.2.2.2.2.2.2.2.2.1
theorem dL_637 : decode code 637 = .ok (.iconst 1, 1) := dLc_23.2.2.2.2.2.2.2.2.2.2.2.2.2.2.2
set_option maxRecDepth 20000 in
theorem xLc_24 : xd_w code 638 [96, 46, 42, 29, 5, 96, 46, 42, 29, 6, 96, 46, 42, 29, 7, 96] := by unfold xd_w; decide +kernel
set_option maxRecDepth 20000 in
theorem dLc_24 : decode code 638 = .ok (.iadd, 1) ∧ decode code 639 = .ok (.iaload, 1) ∧ decode code 640 = .ok (.aload_n 0, 1) ∧ decode code 641 = .ok (.iload_n 3, 1) ∧ decode code 642 = .ok (.iconst 2, 1) ∧ decode code 643 = .ok (.iadd, 1) ∧ decode code 644 = .ok (.iaload, 1) ∧ decode code 645 = .ok (.aload_n 0, 1) ∧ decode code 646 = .ok (.iload_n 3, 1) ∧ decode code 647 = .ok (.iconst 3, 1) ∧ decode code 648 = .ok (.iadd, 1) ∧ decode code 649 = .ok (.iaload, 1) ∧ decode code 650 = .ok (.aload_n 0, 1) ∧ decode code 651 = .ok (.iload_n 3, 1) ∧ decode code 652 = .ok (.iconst 4, 1) ∧ decode code 653 = .ok (.iadd, 1) := ⟨xo_96 xLc_24 0 rfl, xo_46 xLc_24 1 rfl, xo_42 xLc_24 2 rfl, xo_29 xLc_24 3 rfl, xo_5 xLc_24 4 rfl, xo_96 xLc_24 5 rfl, xo_46 xLc_24 6 rfl, xo_42 xLc_24 7 rfl, xo_29 xLc_24 8 rfl, xo_6 xLc_24 9 rfl, xo_96 xLc_24 10 rfl, xo_46 xLc_24 11 rfl, xo_42 xLc_24 12 rfl, xo_29 xLc_24 13 rfl, xo_7 xLc_24 14 rfl, xo_96 xLc_24 15 rfl⟩
theorem dL_638 : decode code 638 = .ok (.iadd, 1) := dLc_24.1
theorem dL_639 : decode code 639 = .ok (.iaload, 1) := dLc_24.2.1
theorem dL_640 : decode code 640 = .ok (.aload_n 0, 1) := dLc_24.2.2.1
theorem dL_641 : decode code 641 = .ok (.iload_n 3, 1) := dLc_24.2.2.2.1
theorem dL_642 : decode code 642 = .ok (.iconst 2, 1) := dLc_24.2.2.2.2.1
theorem dL_643 : decode code 643 = .ok (.iadd, 1) := dLc_24.2.2.2.2.2.1
theorem dL_644 : decode code 644 = .ok (.iaload, 1) := dLc_24.2.2.2.2.2.2.1
theorem dL_645 : decode code 645 = .ok (.aload_n 0, 1) := dLc_24.2.2.2.2.2.2.2.1
theorem dL_646 : decode code 646 = .ok (.iload_n 3, 1) := dLc_24.2.2.2.2.2.2.2.2.1
theorem dL_647 : decode code 647 = .ok (.iconst 3, 1) := dLc_24.2.2.2.2.2.2.2.2.2.1
theorem dL_648 : decode code 648 = .ok (.iadd, 1) := dLc_24.2.2.2.2.2.2.2.2.2.2.1
theorem dL_649 : decode code 649 = .ok (.iaload, 1) := dLc_24.2.2.2.2.2.2.2.2.2.2.2.1
theorem dL_650 : decode code 650 = .ok (.aload_n 0, 1) := dLc_24.2.2.2.2.2.2.2.2.2.2.2.2.1
theorem dL_651 : decode code 651 = .ok (.iload_n 3, 1) := dLc_24.2.2.2.2.2.2.2.2.2.2.2.2.2.1
theorem dL_652 : decode code 652 = .ok (.iconst 4, 1) := dLc_24.2.2.2.2.2.2.2.2.2.2.2.2.2.2.1
theorem dL_653 : decode code 653 = .ok (.iadd, 1) := dLc_24.2.2.2.2.2.2.2.2.2.2.2.2.2.2.2
set_option maxRecDepth 20000 in
theorem xLc_25 : xd_w code 654 [46, 182, 0, 67, 87, 167, 3, 153, 43, 42, 29, 4, 96, 46, 42, 29, 5, 96, 46, 182, 0, 68] := by unfold xd_w; decide +kernel
set_option maxRecDepth 20000 in
theorem dLc_25 : decode code 654 = .ok (.iaload, 1) ∧ decode code 655 = .ok (.invokevirtual 67, 3) ∧ decode code 658 = .ok (.pop, 1) ∧ decode code 659 = .ok (.goto 921, 3) ∧ decode code 662 = .ok (.aload_n 1, 1) ∧ decode code 663 = .ok (.aload_n 0, 1) ∧ decode code 664 = .ok (.iload_n 3, 1) ∧ decode code 665 = .ok (.iconst 1, 1) ∧ decode code 666 = .ok (.iadd, 1) ∧ decode code 667 = .ok (.iaload, 1) ∧ decode code 668 = .ok (.aload_n 0, 1) ∧ decode code 669 = .ok (.iload_n 3, 1) ∧ decode code 670 = .ok (.iconst 2, 1) ∧ decode code 671 = .ok (.iadd, 1) ∧ decode code 672 = .ok (.iaload, 1) ∧ decode code 673 = .ok (.invokevirtual 68, 3) := ⟨xo_46 xLc_25 0 rfl, xo_182 xLc_25 1 rfl rfl rfl rfl rfl rfl, xo_87 xLc_25 4 rfl, xo_167 xLc_25 5 rfl rfl rfl rfl rfl rfl, xo_43 xLc_25 8 rfl, xo_42 xLc_25 9 rfl, xo_29 xLc_25 10 rfl, xo_4 xLc_25 11 rfl, xo_96 xLc_25 12 rfl, xo_46 xLc_25 13 rfl, xo_42 xLc_25 14 rfl, xo_29 xLc_25 15 rfl, xo_5 xLc_25 16 rfl, xo_96 xLc_25 17 rfl, xo_46 xLc_25 18 rfl, xo_182 xLc_25 19 rfl rfl rfl rfl rfl rfl⟩
theorem dL_654 : decode code 654 = .ok (.iaload, 1) := dLc_25.1
theorem dL_655 : decode code 655 = .ok (.invokevirtual 67, 3) := dLc_25.2.1
theorem dL_658 : decode code 658 = .ok (.pop, 1) := dLc_25.2.2.1
theorem dL_659 : decode code 659 = .ok (.goto 921, 3) := dLc_25.2.2.2.1
theorem dL_662 : decode code 662 = .ok (.aload_n 1, 1) := dLc_25.2.2.2.2.1
theorem dL_663 : decode code 663 = .ok (.aload_n 0, 1) := dLc_25.2.2.2.2.2.1
theorem dL_664 : decode code 664 = .ok (.iload_n 3, 1) := dLc_25.2.2.2.2.2.2.1
theorem dL_665 : decode code 665 = .ok (.iconst 1, 1) := dLc_25.2.2.2.2.2.2.2.1
theorem dL_666 : decode code 666 = .ok (.iadd, 1) := dLc_25.2.2.2.2.2.2.2.2.1
theorem dL_667 : decode code 667 = .ok (.iaload, 1) := dLc_25.2.2.2.2.2.2.2.2.2.1
theorem dL_668 : decode code 668 = .ok (.aload_n 0, 1) := dLc_25.2.2.2.2.2.2.2.2.2.2.1
theorem dL_669 : decode code 669 = .ok (.iload_n 3, 1) := dLc_25.2.2.2.2.2.2.2.2.2.2.2.1
theorem dL_670 : decode code 670 = .ok (.iconst 2, 1) := dLc_25.2.2.2.2.2.2.2.2.2.2.2.2.1
theorem dL_671 : decode code 671 = .ok (.iadd, 1) := dLc_25.2.2.2.2.2.2.2.2.2.2.2.2.2.1
theorem dL_672 : decode code 672 = .ok (.iaload, 1) := dLc_25.2.2.2.2.2.2.2.2.2.2.2.2.2.2.1
theorem dL_673 : decode code 673 = .ok (.invokevirtual 68, 3) := dLc_25.2.2.2.2.2.2.2.2.2.2.2.2.2.2.2
set_option maxRecDepth 20000 in
theorem xLc_26 : xd_w code 676 [87, 44, 42, 29, 4, 96, 46, 42, 29, 5, 96, 46, 182, 0, 71, 87, 167, 3, 120, 43] := by unfold xd_w; decide +kernel
set_option maxRecDepth 20000 in
theorem dLc_26 : decode code 676 = .ok (.pop, 1) ∧ decode code 677 = .ok (.aload_n 2, 1) ∧ decode code 678 = .ok (.aload_n 0, 1) ∧ decode code 679 = .ok (.iload_n 3, 1) ∧ decode code 680 = .ok (.iconst 1, 1) ∧ decode code 681 = .ok (.iadd, 1) ∧ decode code 682 = .ok (.iaload, 1) ∧ decode code 683 = .ok (.aload_n 0, 1) ∧ decode code 684 = .ok (.iload_n 3, 1) ∧ decode code 685 = .ok (.iconst 2, 1) ∧ decode code 686 = .ok (.iadd, 1) ∧ decode code 687 = .ok (.iaload, 1) ∧ decode code 688 = .ok (.invokevirtual 71, 3) ∧ decode code 691 = .ok (.pop, 1) ∧ decode code 692 = .ok (.goto 888, 3) ∧ decode code 695 = .ok (.aload_n 1, 1) := ⟨xo_87 xLc_26 0 rfl, xo_44 xLc_26 1 rfl, xo_42 xLc_26 2 rfl, xo_29 xLc_26 3 rfl, xo_4 xLc_26 4 rfl, xo_96 xLc_26 5 rfl, xo_46 xLc_26 6 rfl, xo_42 xLc_26 7 rfl, xo_29 xLc_26 8 rfl, xo_5 xLc_26 9 rfl, xo_96 xLc_26 10 rfl, xo_46 xLc_26 11 rfl, xo_182 xLc_26 12 rfl rfl rfl rfl rfl rfl, xo_87 xLc_26 15 rfl, xo_167 xLc_26 16 rfl rfl rfl rfl rfl rfl, xo_43 xLc_26 19 rfl⟩
theorem dL_676 : decode code 676 = .ok (.pop, 1) := dLc_26.1
theorem dL_677 : decode code 677 = .ok (.aload_n 2, 1) := dLc_26.2.1
theorem dL_678 : decode code 678 = .ok (.aload_n 0, 1) := dLc_26.2.2.1
theorem dL_679 : decode code 679 = .ok (.iload_n 3, 1) := dLc_26.2.2.2.1
theorem dL_680 : decode code 680 = .ok (.iconst 1, 1) := dLc_26.2.2.2.2.1
theorem dL_681 : decode code 681 = .ok (.iadd, 1) := dLc_26.2.2.2.2.2.1
theorem dL_682 : decode code 682 = .ok (.iaload, 1) := dLc_26.2.2.2.2.2.2.1
theorem dL_683 : decode code 683 = .ok (.aload_n 0, 1) := dLc_26.2.2.2.2.2.2.2.1
theorem dL_684 : decode code 684 = .ok (.iload_n 3, 1) := dLc_26.2.2.2.2.2.2.2.2.1
theorem dL_685 : decode code 685 = .ok (.iconst 2, 1) := dLc_26.2.2.2.2.2.2.2.2.2.1
theorem dL_686 : decode code 686 = .ok (.iadd, 1) := dLc_26.2.2.2.2.2.2.2.2.2.2.1
theorem dL_687 : decode code 687 = .ok (.iaload, 1) := dLc_26.2.2.2.2.2.2.2.2.2.2.2.1
theorem dL_688 : decode code 688 = .ok (.invokevirtual 71, 3) := dLc_26.2.2.2.2.2.2.2.2.2.2.2.2.1
theorem dL_691 : decode code 691 = .ok (.pop, 1) := dLc_26.2.2.2.2.2.2.2.2.2.2.2.2.2.1
theorem dL_692 : decode code 692 = .ok (.goto 888, 3) := dLc_26.2.2.2.2.2.2.2.2.2.2.2.2.2.2.1
theorem dL_695 : decode code 695 = .ok (.aload_n 1, 1) := dLc_26.2.2.2.2.2.2.2.2.2.2.2.2.2.2.2
set_option maxRecDepth 20000 in
theorem xLc_27 : xd_w code 696 [42, 29, 4, 96, 46, 42, 29, 5, 96, 46, 182, 0, 72, 87, 44, 42, 29, 4] := by unfold xd_w; decide +kernel
set_option maxRecDepth 20000 in
theorem dLc_27 : decode code 696 = .ok (.aload_n 0, 1) ∧ decode code 697 = .ok (.iload_n 3, 1) ∧ decode code 698 = .ok (.iconst 1, 1) ∧ decode code 699 = .ok (.iadd, 1) ∧ decode code 700 = .ok (.iaload, 1) ∧ decode code 701 = .ok (.aload_n 0, 1) ∧ decode code 702 = .ok (.iload_n 3, 1) ∧ decode code 703 = .ok (.iconst 2, 1) ∧ decode code 704 = .ok (.iadd, 1) ∧ decode code 705 = .ok (.iaload, 1) ∧ decode code 706 = .ok (.invokevirtual 72, 3) ∧ decode code 709 = .ok (.pop, 1) ∧ decode code 710 = .ok (.aload_n 2, 1) ∧ decode code 711 = .ok (.aload_n 0, 1) ∧ decode code 712 = .ok (.iload_n 3, 1) ∧ decode code 713 = .ok (.iconst 1, 1) := ⟨xo_42 xLc_27 0 rfl, xo_29 xLc_27 1 rfl, xo_4 xLc_27 2 rfl, xo_96 xLc_27 3 rfl, xo_46 xLc_27 4 rfl, xo_42 xLc_27 5 rfl, xo_29 xLc_27 6 rfl, xo_5 xLc_27 7 rfl, xo_96 xLc_27 8 rfl, xo_46 xLc_27 9 rfl, xo_182 xLc_27 10 rfl rfl rfl rfl rfl rfl, xo_87 xLc_27 13 rfl, xo_44 xLc_27 14 rfl, xo_42 xLc_27 15 rfl, xo_29 xLc_27 16 rfl, xo_4 xLc_27 17 rfl⟩
theorem dL_696 : decode code 696 = .ok (.aload_n 0, 1) := dLc_27.1
theorem dL_697 : decode code 697 = .ok (.iload_n 3, 1) := dLc_27.2.1
theorem dL_698 : decode code 698 = .ok (.iconst 1, 1) := dLc_27.2.2.1
theorem dL_699 : decode code 699 = .ok (.iadd, 1) := dLc_27.2.2.2.1
theorem dL_700 : decode code 700 = .ok (.iaload, 1) := dLc_27.2.2.2.2.1
theorem dL_701 : decode code 701 = .ok (.aload_n 0, 1) := dLc_27.2.2.2.2.2.1
theorem dL_702 : decode code 702 = .ok (.iload_n 3, 1) := dLc_27.2.2.2.2.2.2.1
theorem dL_703 : decode code 703 = .ok (.iconst 2, 1) := dLc_27.2.2.2.2.2.2.2.1
theorem dL_704 : decode code 704 = .ok (.iadd, 1) := dLc_27.2.2.2.2.2.2.2.2.1
theorem dL_705 : decode code 705 = .ok (.iaload, 1) := dLc_27.2.2.2.2.2.2.2.2.2.1
theorem dL_706 : decode code 706 = .ok (.invokevirtual 72, 3) := dLc_27.2.2.2.2.2.2.2.2.2.2.1
theorem dL_709 : decode code 709 = .ok (.pop, 1) := dLc_27.2.2.2.2.2.2.2.2.2.2.2.1
theorem dL_710 : decode code 710 = .ok (.aload_n 2, 1) := dLc_27.2.2.2.2.2.2.2.2.2.2.2.2.1
theorem dL_711 : decode code 711 = .ok (.aload_n 0, 1) := dLc_27.2.2.2.2.2.2.2.2.2.2.2.2.2.1
theorem dL_712 : decode code 712 = .ok (.iload_n 3, 1) := dLc_27.2.2.2.2.2.2.2.2.2.2.2.2.2.2.1
theorem dL_713 : decode code 713 = .ok (.iconst 1, 1) := dLc_27.2.2.2.2.2.2.2.2.2.2.2.2.2.2.2
set_option maxRecDepth 20000 in
theorem xLc_28 : xd_w code 714 [96, 46, 42, 29, 5, 96, 46, 182, 0, 75, 87, 167, 3, 87, 43, 42, 29, 4, 96, 46] := by unfold xd_w; decide +kernel
set_option maxRecDepth 20000 in
theorem dLc_28 : decode code 714 = .ok (.iadd, 1) ∧ decode code 715 = .ok (.iaload, 1) ∧ decode code 716 = .ok (.aload_n 0, 1) ∧ decode code 717 = .ok (.iload_n 3, 1) ∧ decode code 718 = .ok (.iconst 2, 1) ∧ decode code 719 = .ok (.iadd, 1) ∧ decode code 720 = .ok (.iaload, 1) ∧ decode code 721 = .ok (.invokevirtual 75, 3) ∧ decode code 724 = .ok (.pop, 1) ∧ decode code 725 = .ok (.goto 855, 3) ∧ decode code 728 = .ok (.aload_n 1, 1) ∧ decode code 729 = .ok (.aload_n 0, 1) ∧ decode code 730 = .ok (.iload_n 3, 1) ∧ decode code 731 = .ok (.iconst 1, 1) ∧ decode code 732 = .ok (.iadd, 1) ∧ decode code 733 = .ok (.iaload, 1) := ⟨xo_96 xLc_28 0 rfl, xo_46 xLc_28 1 rfl, xo_42 xLc_28 2 rfl, xo_29 xLc_28 3 rfl, xo_5 xLc_28 4 rfl, xo_96 xLc_28 5 rfl, xo_46 xLc_28 6 rfl, xo_182 xLc_28 7 rfl rfl rfl rfl rfl rfl, xo_87 xLc_28 10 rfl, xo_167 xLc_28 11 rfl rfl rfl rfl rfl rfl, xo_43 xLc_28 14 rfl, xo_42 xLc_28 15 rfl, xo_29 xLc_28 16 rfl, xo_4 xLc_28 17 rfl, xo_96 xLc_28 18 rfl, xo_46 xLc_28 19 rfl⟩
theorem dL_714 : decode code 714 = .ok (.iadd, 1) := dLc_28.1
theorem dL_715 : decode code 715 = .ok (.iaload, 1) := dLc_28.2.1
theorem dL_716 : decode code 716 = .ok (.aload_n 0, 1) := dLc_28.2.2.1
theorem dL_717 : decode code 717 = .ok (.iload_n 3, 1) := dLc_28.2.2.2.1
theorem dL_718 : decode code 718 = .ok (.iconst 2, 1) := dLc_28.2.2.2.2.1
theorem dL_719 : decode code 719 = .ok (.iadd, 1) := dLc_28.2.2.2.2.2.1
theorem dL_720 : decode code 720 = .ok (.iaload, 1) := dLc_28.2.2.2.2.2.2.1
theorem dL_721 : decode code 721 = .ok (.invokevirtual 75, 3) := dLc_28.2.2.2.2.2.2.2.1
theorem dL_724 : decode code 724 = .ok (.pop, 1) := dLc_28.2.2.2.2.2.2.2.2.1
theorem dL_725 : decode code 725 = .ok (.goto 855, 3) := dLc_28.2.2.2.2.2.2.2.2.2.1
theorem dL_728 : decode code 728 = .ok (.aload_n 1, 1) := dLc_28.2.2.2.2.2.2.2.2.2.2.1
theorem dL_729 : decode code 729 = .ok (.aload_n 0, 1) := dLc_28.2.2.2.2.2.2.2.2.2.2.2.1
theorem dL_730 : decode code 730 = .ok (.iload_n 3, 1) := dLc_28.2.2.2.2.2.2.2.2.2.2.2.2.1
theorem dL_731 : decode code 731 = .ok (.iconst 1, 1) := dLc_28.2.2.2.2.2.2.2.2.2.2.2.2.2.1
theorem dL_732 : decode code 732 = .ok (.iadd, 1) := dLc_28.2.2.2.2.2.2.2.2.2.2.2.2.2.2.1
theorem dL_733 : decode code 733 = .ok (.iaload, 1) := dLc_28.2.2.2.2.2.2.2.2.2.2.2.2.2.2.2
set_option maxRecDepth 20000 in
theorem xLc_29 : xd_w code 734 [42, 29, 5, 96, 46, 182, 0, 76, 87, 44, 42, 29, 4, 96, 46, 42, 29, 5] := by unfold xd_w; decide +kernel
set_option maxRecDepth 20000 in
theorem dLc_29 : decode code 734 = .ok (.aload_n 0, 1) ∧ decode code 735 = .ok (.iload_n 3, 1) ∧ decode code 736 = .ok (.iconst 2, 1) ∧ decode code 737 = .ok (.iadd, 1) ∧ decode code 738 = .ok (.iaload, 1) ∧ decode code 739 = .ok (.invokevirtual 76, 3) ∧ decode code 742 = .ok (.pop, 1) ∧ decode code 743 = .ok (.aload_n 2, 1) ∧ decode code 744 = .ok (.aload_n 0, 1) ∧ decode code 745 = .ok (.iload_n 3, 1) ∧ decode code 746 = .ok (.iconst 1, 1) ∧ decode code 747 = .ok (.iadd, 1) ∧ decode code 748 = .ok (.iaload, 1) ∧ decode code 749 = .ok (.aload_n 0, 1) ∧ decode code 750 = .ok (.iload_n 3, 1) ∧ decode code 751 = .ok (.iconst 2, 1) := ⟨xo_42 xLc_29 0 rfl, xo_29 xLc_29 1 rfl, xo_5 xLc_29 2 rfl, xo_96 xLc_29 3 rfl, xo_46 xLc_29 4 rfl, xo_182 xLc_29 5 rfl rfl rfl rfl rfl rfl, xo_87 xLc_29 8 rfl, xo_44 xLc_29 9 rfl, xo_42 xLc_29 10 rfl, xo_29 xLc_29 11 rfl, xo_4 xLc_29 12 rfl, xo_96 xLc_29 13 rfl, xo_46 xLc_29 14 rfl, xo_42 xLc_29 15 rfl, xo_29 xLc_29 16 rfl, xo_5 xLc_29 17 rfl⟩
theorem dL_734 : decode code 734 = .ok (.aload_n 0, 1) := dLc_29.1
theorem dL_735 : decode code 735 = .ok (.iload_n 3, 1) := dLc_29.2.1
theorem dL_736 : decode code 736 = .ok (.iconst 2, 1) := dLc_29.2.2.1
theorem dL_737 : decode code 737 = .ok (.iadd, 1) := dLc_29.2.2.2.1
theorem dL_738 : decode code 738 = .ok (.iaload, 1) := dLc_29.2.2.2.2.1
theorem dL_739 : decode code 739 = .ok (.invokevirtual 76, 3) := dLc_29.2.2.2.2.2.1
theorem dL_742 : decode code 742 = .ok (.pop, 1) := dLc_29.2.2.2.2.2.2.1
theorem dL_743 : decode code 743 = .ok (.aload_n 2, 1) := dLc_29.2.2.2.2.2.2.2.1
theorem dL_744 : decode code 744 = .ok (.aload_n 0, 1) := dLc_29.2.2.2.2.2.2.2.2.1
theorem dL_745 : decode code 745 = .ok (.iload_n 3, 1) := dLc_29.2.2.2.2.2.2.2.2.2.1
theorem dL_746 : decode code 746 = .ok (.iconst 1, 1) := dLc_29.2.2.2.2.2.2.2.2.2.2.1
theorem dL_747 : decode code 747 = .ok (.iadd, 1) := dLc_29.2.2.2.2.2.2.2.2.2.2.2.1
theorem dL_748 : decode code 748 = .ok (.iaload, 1) := dLc_29.2.2.2.2.2.2.2.2.2.2.2.2.1
theorem dL_749 : decode code 749 = .ok (.aload_n 0, 1) := dLc_29.2.2.2.2.2.2.2.2.2.2.2.2.2.1
theorem dL_750 : decode code 750 = .ok (.iload_n 3, 1) := dLc_29.2.2.2.2.2.2.2.2.2.2.2.2.2.2.1
theorem dL_751 : decode code 751 = .ok (.iconst 2, 1) := dLc_29.2.2.2.2.2.2.2.2.2.2.2.2.2.2.2
set_option maxRecDepth 20000 in
theorem xLc_30 : xd_w code 752 [96, 46, 182, 0, 79, 87, 167, 3, 54, 43, 42, 29, 4, 96, 46, 42, 29, 5, 96, 46] := by unfold xd_w; decide +kernel
set_option maxRecDepth 20000 in
theorem dLc_30 : decode code 752 = .ok (.iadd, 1) ∧ decode code 753 = .ok (.iaload, 1) ∧ decode code 754 = .ok (.invokevirtual 79, 3) ∧ decode code 757 = .ok (.pop, 1) ∧ decode code 758 = .ok (.goto 822, 3) ∧ decode code 761 = .ok (.aload_n 1, 1) ∧ decode code 762 = .ok (.aload_n 0, 1) ∧ decode code 763 = .ok (.iload_n 3, 1) ∧ decode code 764 = .ok (.iconst 1, 1) ∧ decode code 765 = .ok (.iadd, 1) ∧ decode code 766 = .ok (.iaload, 1) ∧ decode code 767 = .ok (.aload_n 0, 1) ∧ decode code 768 = .ok (.iload_n 3, 1) ∧ decode code 769 = .ok (.iconst 2, 1) ∧ decode code 770 = .ok (.iadd, 1) ∧ decode code 771 = .ok (.iaload, 1) := ⟨xo_96 xLc_30 0 rfl, xo_46 xLc_30 1 rfl, xo_182 xLc_30 2 rfl rfl rfl rfl rfl rfl, xo_87 xLc_30 5 rfl, xo_167 xLc_30 6 rfl rfl rfl rfl rfl rfl, xo_43 xLc_30 9 rfl, xo_42 xLc_30 10 rfl, xo_29 xLc_30 11 rfl, xo_4 xLc_30 12 rfl, xo_96 xLc_30 13 rfl, xo_46 xLc_30 14 rfl, xo_42 xLc_30 15 rfl, xo_29 xLc_30 16 rfl, xo_5 xLc_30 17 rfl, xo_96 xLc_30 18 rfl, xo_46 xLc_30 19 rfl⟩
theorem dL_752 : decode code 752 = .ok (.iadd, 1) := dLc_30.1
theorem dL_753 : decode code 753 = .ok (.iaload, 1) := dLc_30.2.1
theorem dL_754 : decode code 754 = .ok (.invokevirtual 79, 3) := dLc_30.2.2.1
theorem dL_757 : decode code 757 = .ok (.pop, 1) := dLc_30.2.2.2.1
theorem dL_758 : decode code 758 = .ok (.goto 822, 3) := dLc_30.2.2.2.2.1
theorem dL_761 : decode code 761 = .ok (.aload_n 1, 1) := dLc_30.2.2.2.2.2.1
theorem dL_762 : decode code 762 = .ok (.aload_n 0, 1) := dLc_30.2.2.2.2.2.2.1
theorem dL_763 : decode code 763 = .ok (.iload_n 3, 1) := dLc_30.2.2.2.2.2.2.2.1
theorem dL_764 : decode code 764 = .ok (.iconst 1, 1) := dLc_30.2.2.2.2.2.2.2.2.1
theorem dL_765 : decode code 765 = .ok (.iadd, 1) := dLc_30.2.2.2.2.2.2.2.2.2.1
theorem dL_766 : decode code 766 = .ok (.iaload, 1) := dLc_30.2.2.2.2.2.2.2.2.2.2.1
theorem dL_767 : decode code 767 = .ok (.aload_n 0, 1) := dLc_30.2.2.2.2.2.2.2.2.2.2.2.1
theorem dL_768 : decode code 768 = .ok (.iload_n 3, 1) := dLc_30.2.2.2.2.2.2.2.2.2.2.2.2.1
theorem dL_769 : decode code 769 = .ok (.iconst 2, 1) := dLc_30.2.2.2.2.2.2.2.2.2.2.2.2.2.1
theorem dL_770 : decode code 770 = .ok (.iadd, 1) := dLc_30.2.2.2.2.2.2.2.2.2.2.2.2.2.2.1
theorem dL_771 : decode code 771 = .ok (.iaload, 1) := dLc_30.2.2.2.2.2.2.2.2.2.2.2.2.2.2.2
set_option maxRecDepth 20000 in
theorem xLc_31 : xd_w code 772 [42, 29, 6, 96, 46, 182, 0, 80, 87, 44, 42, 29, 4, 96, 46, 42, 29, 5] := by unfold xd_w; decide +kernel
set_option maxRecDepth 20000 in
theorem dLc_31 : decode code 772 = .ok (.aload_n 0, 1) ∧ decode code 773 = .ok (.iload_n 3, 1) ∧ decode code 774 = .ok (.iconst 3, 1) ∧ decode code 775 = .ok (.iadd, 1) ∧ decode code 776 = .ok (.iaload, 1) ∧ decode code 777 = .ok (.invokevirtual 80, 3) ∧ decode code 780 = .ok (.pop, 1) ∧ decode code 781 = .ok (.aload_n 2, 1) ∧ decode code 782 = .ok (.aload_n 0, 1) ∧ decode code 783 = .ok (.iload_n 3, 1) ∧ decode code 784 = .ok (.iconst 1, 1) ∧ decode code 785 = .ok (.iadd, 1) ∧ decode code 786 = .ok (.iaload, 1) ∧ decode code 787 = .ok (.aload_n 0, 1) ∧ decode code 788 = .ok (.iload_n 3, 1) ∧ decode code 789 = .ok (.iconst 2, 1) := ⟨xo_42 xLc_31 0 rfl, xo_29 xLc_31 1 rfl, xo_6 xLc_31 2 rfl, xo_96 xLc_31 3 rfl, xo_46 xLc_31 4 rfl, xo_182 xLc_31 5 rfl rfl rfl rfl rfl rfl, xo_87 xLc_31 8 rfl, xo_44 xLc_31 9 rfl, xo_42 xLc_31 10 rfl, xo_29 xLc_31 11 rfl, xo_4 xLc_31 12 rfl, xo_96 xLc_31 13 rfl, xo_46 xLc_31 14 rfl, xo_42 xLc_31 15 rfl, xo_29 xLc_31 16 rfl, xo_5 xLc_31 17 rfl⟩
theorem dL_772 : decode code 772 = .ok (.aload_n 0, 1) := dLc_31.1
theorem dL_773 : decode code 773 = .ok (.iload_n 3, 1) := dLc_31.2.1
theorem dL_774 : decode code 774 = .ok (.iconst 3, 1) := dLc_31.2.2.1
theorem dL_775 : decode code 775 = .ok (.iadd, 1) := dLc_31.2.2.2.1
theorem dL_776 : decode code 776 = .ok (.iaload, 1) := dLc_31.2.2.2.2.1
theorem dL_777 : decode code 777 = .ok (.invokevirtual 80, 3) := dLc_31.2.2.2.2.2.1
theorem dL_780 : decode code 780 = .ok (.pop, 1) := dLc_31.2.2.2.2.2.2.1
theorem dL_781 : decode code 781 = .ok (.aload_n 2, 1) := dLc_31.2.2.2.2.2.2.2.1
theorem dL_782 : decode code 782 = .ok (.aload_n 0, 1) := dLc_31.2.2.2.2.2.2.2.2.1
theorem dL_783 : decode code 783 = .ok (.iload_n 3, 1) := dLc_31.2.2.2.2.2.2.2.2.2.1
theorem dL_784 : decode code 784 = .ok (.iconst 1, 1) := dLc_31.2.2.2.2.2.2.2.2.2.2.1
theorem dL_785 : decode code 785 = .ok (.iadd, 1) := dLc_31.2.2.2.2.2.2.2.2.2.2.2.1
theorem dL_786 : decode code 786 = .ok (.iaload, 1) := dLc_31.2.2.2.2.2.2.2.2.2.2.2.2.1
theorem dL_787 : decode code 787 = .ok (.aload_n 0, 1) := dLc_31.2.2.2.2.2.2.2.2.2.2.2.2.2.1
theorem dL_788 : decode code 788 = .ok (.iload_n 3, 1) := dLc_31.2.2.2.2.2.2.2.2.2.2.2.2.2.2.1
theorem dL_789 : decode code 789 = .ok (.iconst 2, 1) := dLc_31.2.2.2.2.2.2.2.2.2.2.2.2.2.2.2
set_option maxRecDepth 20000 in
theorem xLc_32 : xd_w code 790 [96, 46, 42, 29, 6, 96, 46, 182, 0, 84, 87, 167, 3, 11, 43, 42, 29, 4, 96, 46] := by unfold xd_w; decide +kernel
set_option maxRecDepth 20000 in
theorem dLc_32 : decode code 790 = .ok (.iadd, 1) ∧ decode code 791 = .ok (.iaload, 1) ∧ decode code 792 = .ok (.aload_n 0, 1) ∧ decode code 793 = .ok (.iload_n 3, 1) ∧ decode code 794 = .ok (.iconst 3, 1) ∧ decode code 795 = .ok (.iadd, 1) ∧ decode code 796 = .ok (.iaload, 1) ∧ decode code 797 = .ok (.invokevirtual 84, 3) ∧ decode code 800 = .ok (.pop, 1) ∧ decode code 801 = .ok (.goto 779, 3) ∧ decode code 804 = .ok (.aload_n 1, 1) ∧ decode code 805 = .ok (.aload_n 0, 1) ∧ decode code 806 = .ok (.iload_n 3, 1) ∧ decode code 807 = .ok (.iconst 1, 1) ∧ decode code 808 = .ok (.iadd, 1) ∧ decode code 809 = .ok (.iaload, 1) := ⟨xo_96 xLc_32 0 rfl, xo_46 xLc_32 1 rfl, xo_42 xLc_32 2 rfl, xo_29 xLc_32 3 rfl, xo_6 xLc_32 4 rfl, xo_96 xLc_32 5 rfl, xo_46 xLc_32 6 rfl, xo_182 xLc_32 7 rfl rfl rfl rfl rfl rfl, xo_87 xLc_32 10 rfl, xo_167 xLc_32 11 rfl rfl rfl rfl rfl rfl, xo_43 xLc_32 14 rfl, xo_42 xLc_32 15 rfl, xo_29 xLc_32 16 rfl, xo_4 xLc_32 17 rfl, xo_96 xLc_32 18 rfl, xo_46 xLc_32 19 rfl⟩
theorem dL_790 : decode code 790 = .ok (.iadd, 1) := dLc_32.1
theorem dL_791 : decode code 791 = .ok (.iaload, 1) := dLc_32.2.1
theorem dL_792 : decode code 792 = .ok (.aload_n 0, 1) := dLc_32.2.2.1
theorem dL_793 : decode code 793 = .ok (.iload_n 3, 1) := dLc_32.2.2.2.1
theorem dL_794 : decode code 794 = .ok (.iconst 3, 1) := dLc_32.2.2.2.2.1
theorem dL_795 : decode code 795 = .ok (.iadd, 1) := dLc_32.2.2.2.2.2.1
theorem dL_796 : decode code 796 = .ok (.iaload, 1) := dLc_32.2.2.2.2.2.2.1
theorem dL_797 : decode code 797 = .ok (.invokevirtual 84, 3) := dLc_32.2.2.2.2.2.2.2.1
theorem dL_800 : decode code 800 = .ok (.pop, 1) := dLc_32.2.2.2.2.2.2.2.2.1
theorem dL_801 : decode code 801 = .ok (.goto 779, 3) := dLc_32.2.2.2.2.2.2.2.2.2.1
theorem dL_804 : decode code 804 = .ok (.aload_n 1, 1) := dLc_32.2.2.2.2.2.2.2.2.2.2.1
theorem dL_805 : decode code 805 = .ok (.aload_n 0, 1) := dLc_32.2.2.2.2.2.2.2.2.2.2.2.1
theorem dL_806 : decode code 806 = .ok (.iload_n 3, 1) := dLc_32.2.2.2.2.2.2.2.2.2.2.2.2.1
theorem dL_807 : decode code 807 = .ok (.iconst 1, 1) := dLc_32.2.2.2.2.2.2.2.2.2.2.2.2.2.1
theorem dL_808 : decode code 808 = .ok (.iadd, 1) := dLc_32.2.2.2.2.2.2.2.2.2.2.2.2.2.2.1
theorem dL_809 : decode code 809 = .ok (.iaload, 1) := dLc_32.2.2.2.2.2.2.2.2.2.2.2.2.2.2.2
set_option maxRecDepth 20000 in
theorem xLc_33 : xd_w code 810 [42, 29, 5, 96, 46, 182, 0, 85, 87, 44, 42, 29, 4, 96, 46, 42, 29, 5] := by unfold xd_w; decide +kernel
set_option maxRecDepth 20000 in
theorem dLc_33 : decode code 810 = .ok (.aload_n 0, 1) ∧ decode code 811 = .ok (.iload_n 3, 1) ∧ decode code 812 = .ok (.iconst 2, 1) ∧ decode code 813 = .ok (.iadd, 1) ∧ decode code 814 = .ok (.iaload, 1) ∧ decode code 815 = .ok (.invokevirtual 85, 3) ∧ decode code 818 = .ok (.pop, 1) ∧ decode code 819 = .ok (.aload_n 2, 1) ∧ decode code 820 = .ok (.aload_n 0, 1) ∧ decode code 821 = .ok (.iload_n 3, 1) ∧ decode code 822 = .ok (.iconst 1, 1) ∧ decode code 823 = .ok (.iadd, 1) ∧ decode code 824 = .ok (.iaload, 1) ∧ decode code 825 = .ok (.aload_n 0, 1) ∧ decode code 826 = .ok (.iload_n 3, 1) ∧ decode code 827 = .ok (.iconst 2, 1) := ⟨xo_42 xLc_33 0 rfl, xo_29 xLc_33 1 rfl, xo_5 xLc_33 2 rfl, xo_96 xLc_33 3 rfl, xo_46 xLc_33 4 rfl, xo_182 xLc_33 5 rfl rfl rfl rfl rfl rfl, xo_87 xLc_33 8 rfl, xo_44 xLc_33 9 rfl, xo_42 xLc_33 10 rfl, xo_29 xLc_33 11 rfl, xo_4 xLc_33 12 rfl, xo_96 xLc_33 13 rfl, xo_46 xLc_33 14 rfl, xo_42 xLc_33 15 rfl, xo_29 xLc_33 16 rfl, xo_5 xLc_33 17 rfl⟩
theorem dL_810 : decode code 810 = .ok (.aload_n 0, 1) := dLc_33.1
theorem dL_811 : decode code 811 = .ok (.iload_n 3, 1) := dLc_33.2.1
theorem dL_812 : decode code 812 = .ok (.iconst 2, 1) := dLc_33.2.2.1
theorem dL_813 : decode code 813 = .ok (.iadd, 1) := dLc_33.2.2.2.1
theorem dL_814 : decode code 814 = .ok (.iaload, 1) := dLc_33.2.2.2.2.1
theorem dL_815 : decode code 815 = .ok (.invokevirtual 85, 3) := dLc_33.2.2.2.2.2.1
theorem dL_818 : decode code 818 = .ok (.pop, 1) := dLc_33.2.2.2.2.2.2.1
theorem dL_819 : decode code 819 = .ok (.aload_n 2, 1) := dLc_33.2.2.2.2.2.2.2.1
theorem dL_820 : decode code 820 = .ok (.aload_n 0, 1) := dLc_33.2.2.2.2.2.2.2.2.1
theorem dL_821 : decode code 821 = .ok (.iload_n 3, 1) := dLc_33.2.2.2.2.2.2.2.2.2.1
theorem dL_822 : decode code 822 = .ok (.iconst 1, 1) := dLc_33.2.2.2.2.2.2.2.2.2.2.1
theorem dL_823 : decode code 823 = .ok (.iadd, 1) := dLc_33.2.2.2.2.2.2.2.2.2.2.2.1
theorem dL_824 : decode code 824 = .ok (.iaload, 1) := dLc_33.2.2.2.2.2.2.2.2.2.2.2.2.1
theorem dL_825 : decode code 825 = .ok (.aload_n 0, 1) := dLc_33.2.2.2.2.2.2.2.2.2.2.2.2.2.1
theorem dL_826 : decode code 826 = .ok (.iload_n 3, 1) := dLc_33.2.2.2.2.2.2.2.2.2.2.2.2.2.2.1
theorem dL_827 : decode code 827 = .ok (.iconst 2, 1) := dLc_33.2.2.2.2.2.2.2.2.2.2.2.2.2.2.2
set_option maxRecDepth 20000 in
theorem xLc_34 : xd_w code 828 [96, 46, 182, 0, 88, 87, 167, 2, 234, 43, 42, 29, 4, 96, 46, 182, 0, 89, 87, 44, 42, 29] := by unfold xd_w; decide +kernel
set_option maxRecDepth 20000 in
theorem dLc_34 : decode code 828 = .ok (.iadd, 1) ∧ decode code 829 = .ok (.iaload, 1) ∧ decode code 830 = .ok (.invokevirtual 88, 3) ∧ decode code 833 = .ok (.pop, 1) ∧ decode code 834 = .ok (.goto 746, 3) ∧ decode code 837 = .ok (.aload_n 1, 1) ∧ decode code 838 = .ok (.aload_n 0, 1) ∧ decode code 839 = .ok (.iload_n 3, 1) ∧ decode code 840 = .ok (.iconst 1, 1) ∧ decode code 841 = .ok (.iadd, 1) ∧ decode code 842 = .ok (.iaload, 1) ∧ decode code 843 = .ok (.invokevirtual 89, 3) ∧ decode code 846 = .ok (.pop, 1) ∧ decode code 847 = .ok (.aload_n 2, 1) ∧ decode code 848 = .ok (.aload_n 0, 1) ∧ decode code 849 = .ok (.iload_n 3, 1) := ⟨xo_96 xLc_34 0 rfl, xo_46 xLc_34 1 rfl, xo_182 xLc_34 2 rfl rfl rfl rfl rfl rfl, xo_87 xLc_34 5 rfl, xo_167 xLc_34 6 rfl rfl rfl rfl rfl rfl, xo_43 xLc_34 9 rfl, xo_42 xLc_34 10 rfl, xo_29 xLc_34 11 rfl, xo_4 xLc_34 12 rfl, xo_96 xLc_34 13 rfl, xo_46 xLc_34 14 rfl, xo_182 xLc_34 15 rfl rfl rfl rfl rfl rfl, xo_87 xLc_34 18 rfl, xo_44 xLc_34 19 rfl, xo_42 xLc_34 20 rfl, xo_29 xLc_34 21 rfl⟩
theorem dL_828 : decode code 828 = .ok (.iadd, 1) := dLc_34.1
theorem dL_829 : decode code 829 = .ok (.iaload, 1) := dLc_34.2.1
theorem dL_830 : decode code 830 = .ok (.invokevirtual 88, 3) := dLc_34.2.2.1
theorem dL_833 : decode code 833 = .ok (.pop, 1) := dLc_34.2.2.2.1
theorem dL_834 : decode code 834 = .ok (.goto 746, 3) := dLc_34.2.2.2.2.1
theorem dL_837 : decode code 837 = .ok (.aload_n 1, 1) := dLc_34.2.2.2.2.2.1
theorem dL_838 : decode code 838 = .ok (.aload_n 0, 1) := dLc_34.2.2.2.2.2.2.1
theorem dL_839 : decode code 839 = .ok (.iload_n 3, 1) := dLc_34.2.2.2.2.2.2.2.1
theorem dL_840 : decode code 840 = .ok (.iconst 1, 1) := dLc_34.2.2.2.2.2.2.2.2.1
theorem dL_841 : decode code 841 = .ok (.iadd, 1) := dLc_34.2.2.2.2.2.2.2.2.2.1
theorem dL_842 : decode code 842 = .ok (.iaload, 1) := dLc_34.2.2.2.2.2.2.2.2.2.2.1
theorem dL_843 : decode code 843 = .ok (.invokevirtual 89, 3) := dLc_34.2.2.2.2.2.2.2.2.2.2.2.1
theorem dL_846 : decode code 846 = .ok (.pop, 1) := dLc_34.2.2.2.2.2.2.2.2.2.2.2.2.1
theorem dL_847 : decode code 847 = .ok (.aload_n 2, 1) := dLc_34.2.2.2.2.2.2.2.2.2.2.2.2.2.1
theorem dL_848 : decode code 848 = .ok (.aload_n 0, 1) := dLc_34.2.2.2.2.2.2.2.2.2.2.2.2.2.2.1
theorem dL_849 : decode code 849 = .ok (.iload_n 3, 1) := dLc_34.2.2.2.2.2.2.2.2.2.2.2.2.2.2.2
set_option maxRecDepth 20000 in
theorem xLc_35 : xd_w code 850 [4, 96, 46, 182, 0, 92, 87, 167, 2, 211, 43, 42, 29, 4, 96, 46, 42, 29, 5, 96] := by unfold xd_w; decide +kernel
set_option maxRecDepth 20000 in
theorem dLc_35 : decode code 850 = .ok (.iconst 1, 1) ∧ decode code 851 = .ok (.iadd, 1) ∧ decode code 852 = .ok (.iaload, 1) ∧ decode code 853 = .ok (.invokevirtual 92, 3) ∧ decode code 856 = .ok (.pop, 1) ∧ decode code 857 = .ok (.goto 723, 3) ∧ decode code 860 = .ok (.aload_n 1, 1) ∧ decode code 861 = .ok (.aload_n 0, 1) ∧ decode code 862 = .ok (.iload_n 3, 1) ∧ decode code 863 = .ok (.iconst 1, 1) ∧ decode code 864 = .ok (.iadd, 1) ∧ decode code 865 = .ok (.iaload, 1) ∧ decode code 866 = .ok (.aload_n 0, 1) ∧ decode code 867 = .ok (.iload_n 3, 1) ∧ decode code 868 = .ok (.iconst 2, 1) ∧ decode code 869 = .ok (.iadd, 1) := ⟨xo_4 xLc_35 0 rfl, xo_96 xLc_35 1 rfl, xo_46 xLc_35 2 rfl, xo_182 xLc_35 3 rfl rfl rfl rfl rfl rfl, xo_87 xLc_35 6 rfl, xo_167 xLc_35 7 rfl rfl rfl rfl rfl rfl, xo_43 xLc_35 10 rfl, xo_42 xLc_35 11 rfl, xo_29 xLc_35 12 rfl, xo_4 xLc_35 13 rfl, xo_96 xLc_35 14 rfl, xo_46 xLc_35 15 rfl, xo_42 xLc_35 16 rfl, xo_29 xLc_35 17 rfl, xo_5 xLc_35 18 rfl, xo_96 xLc_35 19 rfl⟩
theorem dL_850 : decode code 850 = .ok (.iconst 1, 1) := dLc_35.1
theorem dL_851 : decode code 851 = .ok (.iadd, 1) := dLc_35.2.1
theorem dL_852 : decode code 852 = .ok (.iaload, 1) := dLc_35.2.2.1
theorem dL_853 : decode code 853 = .ok (.invokevirtual 92, 3) := dLc_35.2.2.2.1
theorem dL_856 : decode code 856 = .ok (.pop, 1) := dLc_35.2.2.2.2.1
theorem dL_857 : decode code 857 = .ok (.goto 723, 3) := dLc_35.2.2.2.2.2.1
theorem dL_860 : decode code 860 = .ok (.aload_n 1, 1) := dLc_35.2.2.2.2.2.2.1
theorem dL_861 : decode code 861 = .ok (.aload_n 0, 1) := dLc_35.2.2.2.2.2.2.2.1
theorem dL_862 : decode code 862 = .ok (.iload_n 3, 1) := dLc_35.2.2.2.2.2.2.2.2.1
theorem dL_863 : decode code 863 = .ok (.iconst 1, 1) := dLc_35.2.2.2.2.2.2.2.2.2.1
theorem dL_864 : decode code 864 = .ok (.iadd, 1) := dLc_35.2.2.2.2.2.2.2.2.2.2.1
theorem dL_865 : decode code 865 = .ok (.iaload, 1) := dLc_35.2.2.2.2.2.2.2.2.2.2.2.1
theorem dL_866 : decode code 866 = .ok (.aload_n 0, 1) := dLc_35.2.2.2.2.2.2.2.2.2.2.2.2.1
theorem dL_867 : decode code 867 = .ok (.iload_n 3, 1) := dLc_35.2.2.2.2.2.2.2.2.2.2.2.2.2.1
theorem dL_868 : decode code 868 = .ok (.iconst 2, 1) := dLc_35.2.2.2.2.2.2.2.2.2.2.2.2.2.2.1
theorem dL_869 : decode code 869 = .ok (.iadd, 1) := dLc_35.2.2.2.2.2.2.2.2.2.2.2.2.2.2.2
set_option maxRecDepth 20000 in
theorem xLc_36 : xd_w code 870 [46, 182, 0, 93, 87, 44, 42, 29, 4, 96, 46, 42, 29, 5, 96, 46, 182, 0, 96, 87] := by unfold xd_w; decide +kernel
set_option maxRecDepth 20000 in
theorem dLc_36 : decode code 870 = .ok (.iaload, 1) ∧ decode code 871 = .ok (.invokevirtual 93, 3) ∧ decode code 874 = .ok (.pop, 1) ∧ decode code 875 = .ok (.aload_n 2, 1) ∧ decode code 876 = .ok (.aload_n 0, 1) ∧ decode code 877 = .ok (.iload_n 3, 1) ∧ decode code 878 = .ok (.iconst 1, 1) ∧ decode code 879 = .ok (.iadd, 1) ∧ decode code 880 = .ok (.iaload, 1) ∧ decode code 881 = .ok (.aload_n 0, 1) ∧ decode code 882 = .ok (.iload_n 3, 1) ∧ decode code 883 = .ok (.iconst 2, 1) ∧ decode code 884 = .ok (.iadd, 1) ∧ decode code 885 = .ok (.iaload, 1) ∧ decode code 886 = .ok (.invokevirtual 96, 3) ∧ decode code 889 = .ok (.pop, 1) := ⟨xo_46 xLc_36 0 rfl, xo_182 xLc_36 1 rfl rfl rfl rfl rfl rfl, xo_87 xLc_36 4 rfl, xo_44 xLc_36 5 rfl, xo_42 xLc_36 6 rfl, xo_29 xLc_36 7 rfl, xo_4 xLc_36 8 rfl, xo_96 xLc_36 9 rfl, xo_46 xLc_36 10 rfl, xo_42 xLc_36 11 rfl, xo_29 xLc_36 12 rfl, xo_5 xLc_36 13 rfl, xo_96 xLc_36 14 rfl, xo_46 xLc_36 15 rfl, xo_182 xLc_36 16 rfl rfl rfl rfl rfl rfl, xo_87 xLc_36 19 rfl⟩
theorem dL_870 : decode code 870 = .ok (.iaload, 1) := dLc_36.1
theorem dL_871 : decode code 871 = .ok (.invokevirtual 93, 3) := dLc_36.2.1
theorem dL_874 : decode code 874 = .ok (.pop, 1) := dLc_36.2.2.1
theorem dL_875 : decode code 875 = .ok (.aload_n 2, 1) := dLc_36.2.2.2.1
theorem dL_876 : decode code 876 = .ok (.aload_n 0, 1) := dLc_36.2.2.2.2.1
theorem dL_877 : decode code 877 = .ok (.iload_n 3, 1) := dLc_36.2.2.2.2.2.1
theorem dL_878 : decode code 878 = .ok (.iconst 1, 1) := dLc_36.2.2.2.2.2.2.1
theorem dL_879 : decode code 879 = .ok (.iadd, 1) := dLc_36.2.2.2.2.2.2.2.1
theorem dL_880 : decode code 880 = .ok (.iaload, 1) := dLc_36.2.2.2.2.2.2.2.2.1
theorem dL_881 : decode code 881 = .ok (.aload_n 0, 1) := dLc_36.2.2.2.2.2.2.2.2.2.1
theorem dL_882 : decode code 882 = .ok (.iload_n 3, 1) := dLc_36.2.2.2.2.2.2.2.2.2.2.1
theorem dL_883 : decode code 883 = .ok (.iconst 2, 1) := dLc_36.2.2.2.2.2.2.2.2.2.2.2.1
theorem dL_884 : decode code 884 = .ok (.iadd, 1) := dLc_36.2.2.2.2.2.2.2.2.2.2.2.2.1
theorem dL_885 : decode code 885 = .ok (.iaload, 1) := dLc_36.2.2.2.2.2.2.2.2.2.2.2.2.2.1
theorem dL_886 : decode code 886 = .ok (.invokevirtual 96, 3) := dLc_36.2.2.2.2.2.2.2.2.2.2.2.2.2.2.1
theorem dL_889 : decode code 889 = .ok (.pop, 1) := dLc_36.2.2.2.2.2.2.2.2.2.2.2.2.2.2.2
set_option maxRecDepth 20000 in
theorem xLc_37 : xd_w code 890 [167, 2, 178, 43, 42, 29, 4, 96, 46, 42, 29, 5, 96, 46, 42, 29, 6, 96] := by unfold xd_w; decide +kernel
set_option maxRecDepth 20000 in
theorem dLc_37 : decode code 890 = .ok (.goto 690, 3) ∧ decode code 893 = .ok (.aload_n 1, 1) ∧ decode code 894 = .ok (.aload_n 0, 1) ∧ decode code 895 = .ok (.iload_n 3, 1) ∧ decode code 896 = .ok (.iconst 1, 1) ∧ decode code 897 = .ok (.iadd, 1) ∧ decode code 898 = .ok (.iaload, 1) ∧ decode code 899 = .ok (.aload_n 0, 1) ∧ decode code 900 = .ok (.iload_n 3, 1) ∧ decode code 901 = .ok (.iconst 2, 1) ∧ decode code 902 = .ok (.iadd, 1) ∧ decode code 903 = .ok (.iaload, 1) ∧ decode code 904 = .ok (.aload_n 0, 1) ∧ decode code 905 = .ok (.iload_n 3, 1) ∧ decode code 906 = .ok (.iconst 3, 1) ∧ decode code 907 = .ok (.iadd, 1) := ⟨xo_167 xLc_37 0 rfl rfl rfl rfl rfl rfl, xo_43 xLc_37 3 rfl, xo_42 xLc_37 4 rfl, xo_29 xLc_37 5 rfl, xo_4 xLc_37 6 rfl, xo_96 xLc_37 7 rfl, xo_46 xLc_37 8 rfl, xo_42 xLc_37 9 rfl, xo_29 xLc_37 10 rfl, xo_5 xLc_37 11 rfl, xo_96 xLc_37 12 rfl, xo_46 xLc_37 13 rfl, xo_42 xLc_37 14 rfl, xo_29 xLc_37 15 rfl, xo_6 xLc_37 16 rfl, xo_96 xLc_37 17 rfl⟩
theorem dL_890 : decode code 890 = .ok (.goto 690, 3) := dLc_37.1
theorem dL_893 : decode code 893 = .ok (.aload_n 1, 1) := dLc_37.2.1
theorem dL_894 : decode code 894 = .ok (.aload_n 0, 1) := dLc_37.2.2.1
theorem dL_895 : decode code 895 = .ok (.iload_n 3, 1) := dLc_37.2.2.2.1
theorem dL_896 : decode code 896 = .ok (.iconst 1, 1) := dLc_37.2.2.2.2.1
theorem dL_897 : decode code 897 = .ok (.iadd, 1) := dLc_37.2.2.2.2.2.1
theorem dL_898 : decode code 898 = .ok (.iaload, 1) := dLc_37.2.2.2.2.2.2.1
theorem dL_899 : decode code 899 = .ok (.aload_n 0, 1) := dLc_37.2.2.2.2.2.2.2.1
theorem dL_900 : decode code 900 = .ok (.iload_n 3, 1) := dLc_37.2.2.2.2.2.2.2.2.1
theorem dL_901 : decode code 901 = .ok (.iconst 2, 1) := dLc_37.2.2.2.2.2.2.2.2.2.1
theorem dL_902 : decode code 902 = .ok (.iadd, 1) := dLc_37.2.2.2.2.2.2.2.2.2.2.1
theorem dL_903 : decode code 903 = .ok (.iaload, 1) := dLc_37.2.2.2.2.2.2.2.2.2.2.2.1
theorem dL_904 : decode code 904 = .ok (.aload_n 0, 1) := dLc_37.2.2.2.2.2.2.2.2.2.2.2.2.1
theorem dL_905 : decode code 905 = .ok (.iload_n 3, 1) := dLc_37.2.2.2.2.2.2.2.2.2.2.2.2.2.1
theorem dL_906 : decode code 906 = .ok (.iconst 3, 1) := dLc_37.2.2.2.2.2.2.2.2.2.2.2.2.2.2.1
theorem dL_907 : decode code 907 = .ok (.iadd, 1) := dLc_37.2.2.2.2.2.2.2.2.2.2.2.2.2.2.2
set_option maxRecDepth 20000 in
theorem xLc_38 : xd_w code 908 [46, 182, 0, 97, 87, 44, 42, 29, 4, 96, 46, 42, 29, 5, 96, 46, 42, 29] := by unfold xd_w; decide +kernel
set_option maxRecDepth 20000 in
theorem dLc_38 : decode code 908 = .ok (.iaload, 1) ∧ decode code 909 = .ok (.invokevirtual 97, 3) ∧ decode code 912 = .ok (.pop, 1) ∧ decode code 913 = .ok (.aload_n 2, 1) ∧ decode code 914 = .ok (.aload_n 0, 1) ∧ decode code 915 = .ok (.iload_n 3, 1) ∧ decode code 916 = .ok (.iconst 1, 1) ∧ decode code 917 = .ok (.iadd, 1) ∧ decode code 918 = .ok (.iaload, 1) ∧ decode code 919 = .ok (.aload_n 0, 1) ∧ decode code 920 = .ok (.iload_n 3, 1) ∧ decode code 921 = .ok (.iconst 2, 1) ∧ decode code 922 = .ok (.iadd, 1) ∧ decode code 923 = .ok (.iaload, 1) ∧ decode code 924 = .ok (.aload_n 0, 1) ∧ decode code 925 = .ok (.iload_n 3, 1) := ⟨xo_46 xLc_38 0 rfl, xo_182 xLc_38 1 rfl rfl rfl rfl rfl rfl, xo_87 xLc_38 4 rfl, xo_44 xLc_38 5 rfl, xo_42 xLc_38 6 rfl, xo_29 xLc_38 7 rfl, xo_4 xLc_38 8 rfl, xo_96 xLc_38 9 rfl, xo_46 xLc_38 10 rfl, xo_42 xLc_38 11 rfl, xo_29 xLc_38 12 rfl, xo_5 xLc_38 13 rfl, xo_96 xLc_38 14 rfl, xo_46 xLc_38 15 rfl, xo_42 xLc_38 16 rfl, xo_29 xLc_38 17 rfl⟩
theorem dL_908 : decode code 908 = .ok (.iaload, 1) := dLc_38.1
theorem dL_909 : decode code 909 = .ok (.invokevirtual 97, 3) := dLc_38.2.1
theorem dL_912 : decode code 912 = .ok (.pop, 1) := dLc_38.2.2.1
theorem dL_913 : decode code 913 = .ok (.aload_n 2, 1) := dLc_38.2.2.2.1
theorem dL_914 : decode code 914 = .ok (.aload_n 0, 1) := dLc_38.2.2.2.2.1
theorem dL_915 : decode code 915 = .ok (.iload_n 3, 1) := dLc_38.2.2.2.2.2.1
theorem dL_916 : decode code 916 = .ok (.iconst 1, 1) := dLc_38.2.2.2.2.2.2.1
theorem dL_917 : decode code 917 = .ok (.iadd, 1) := dLc_38.2.2.2.2.2.2.2.1
theorem dL_918 : decode code 918 = .ok (.iaload, 1) := dLc_38.2.2.2.2.2.2.2.2.1
theorem dL_919 : decode code 919 = .ok (.aload_n 0, 1) := dLc_38.2.2.2.2.2.2.2.2.2.1
theorem dL_920 : decode code 920 = .ok (.iload_n 3, 1) := dLc_38.2.2.2.2.2.2.2.2.2.2.1
theorem dL_921 : decode code 921 = .ok (.iconst 2, 1) := dLc_38.2.2.2.2.2.2.2.2.2.2.2.1
theorem dL_922 : decode code 922 = .ok (.iadd, 1) := dLc_38.2.2.2.2.2.2.2.2.2.2.2.2.1
theorem dL_923 : decode code 923 = .ok (.iaload, 1) := dLc_38.2.2.2.2.2.2.2.2.2.2.2.2.2.1
theorem dL_924 : decode code 924 = .ok (.aload_n 0, 1) := dLc_38.2.2.2.2.2.2.2.2.2.2.2.2.2.2.1
theorem dL_925 : decode code 925 = .ok (.iload_n 3, 1) := dLc_38.2.2.2.2.2.2.2.2.2.2.2.2.2.2.2
set_option maxRecDepth 20000 in
theorem xLc_39 : xd_w code 926 [6, 96, 46, 182, 0, 100, 87, 167, 2, 135, 43, 42, 29, 4, 96, 46, 42, 29, 5, 96] := by unfold xd_w; decide +kernel
set_option maxRecDepth 20000 in
theorem dLc_39 : decode code 926 = .ok (.iconst 3, 1) ∧ decode code 927 = .ok (.iadd, 1) ∧ decode code 928 = .ok (.iaload, 1) ∧ decode code 929 = .ok (.invokevirtual 100, 3) ∧ decode code 932 = .ok (.pop, 1) ∧ decode code 933 = .ok (.goto 647, 3) ∧ decode code 936 = .ok (.aload_n 1, 1) ∧ decode code 937 = .ok (.aload_n 0, 1) ∧ decode code 938 = .ok (.iload_n 3, 1) ∧ decode code 939 = .ok (.iconst 1, 1) ∧ decode code 940 = .ok (.iadd, 1) ∧ decode code 941 = .ok (.iaload, 1) ∧ decode code 942 = .ok (.aload_n 0, 1) ∧ decode code 943 = .ok (.iload_n 3, 1) ∧ decode code 944 = .ok (.iconst 2, 1) ∧ decode code 945 = .ok (.iadd, 1) := ⟨xo_6 xLc_39 0 rfl, xo_96 xLc_39 1 rfl, xo_46 xLc_39 2 rfl, xo_182 xLc_39 3 rfl rfl rfl rfl rfl rfl, xo_87 xLc_39 6 rfl, xo_167 xLc_39 7 rfl rfl rfl rfl rfl rfl, xo_43 xLc_39 10 rfl, xo_42 xLc_39 11 rfl, xo_29 xLc_39 12 rfl, xo_4 xLc_39 13 rfl, xo_96 xLc_39 14 rfl, xo_46 xLc_39 15 rfl, xo_42 xLc_39 16 rfl, xo_29 xLc_39 17 rfl, xo_5 xLc_39 18 rfl, xo_96 xLc_39 19 rfl⟩
theorem dL_926 : decode code 926 = .ok (.iconst 3, 1) := dLc_39.1
theorem dL_927 : decode code 927 = .ok (.iadd, 1) := dLc_39.2.1
theorem dL_928 : decode code 928 = .ok (.iaload, 1) := dLc_39.2.2.1
theorem dL_929 : decode code 929 = .ok (.invokevirtual 100, 3) := dLc_39.2.2.2.1
theorem dL_932 : decode code 932 = .ok (.pop, 1) := dLc_39.2.2.2.2.1
theorem dL_933 : decode code 933 = .ok (.goto 647, 3) := dLc_39.2.2.2.2.2.1
theorem dL_936 : decode code 936 = .ok (.aload_n 1, 1) := dLc_39.2.2.2.2.2.2.1
theorem dL_937 : decode code 937 = .ok (.aload_n 0, 1) := dLc_39.2.2.2.2.2.2.2.1
theorem dL_938 : decode code 938 = .ok (.iload_n 3, 1) := dLc_39.2.2.2.2.2.2.2.2.1
theorem dL_939 : decode code 939 = .ok (.iconst 1, 1) := dLc_39.2.2.2.2.2.2.2.2.2.1
theorem dL_940 : decode code 940 = .ok (.iadd, 1) := dLc_39.2.2.2.2.2.2.2.2.2.2.1
theorem dL_941 : decode code 941 = .ok (.iaload, 1) := dLc_39.2.2.2.2.2.2.2.2.2.2.2.1
theorem dL_942 : decode code 942 = .ok (.aload_n 0, 1) := dLc_39.2.2.2.2.2.2.2.2.2.2.2.2.1
theorem dL_943 : decode code 943 = .ok (.iload_n 3, 1) := dLc_39.2.2.2.2.2.2.2.2.2.2.2.2.2.1
theorem dL_944 : decode code 944 = .ok (.iconst 2, 1) := dLc_39.2.2.2.2.2.2.2.2.2.2.2.2.2.2.1
theorem dL_945 : decode code 945 = .ok (.iadd, 1) := dLc_39.2.2.2.2.2.2.2.2.2.2.2.2.2.2.2
set_option maxRecDepth 20000 in
theorem xLc_40 : xd_w code 946 [46, 42, 29, 6, 96, 46, 42, 29, 7, 96, 46, 182, 0, 101, 87, 44, 42, 29] := by unfold xd_w; decide +kernel
set_option maxRecDepth 20000 in
theorem dLc_40 : decode code 946 = .ok (.iaload, 1) ∧ decode code 947 = .ok (.aload_n 0, 1) ∧ decode code 948 = .ok (.iload_n 3, 1) ∧ decode code 949 = .ok (.iconst 3, 1) ∧ decode code 950 = .ok (.iadd, 1) ∧ decode code 951 = .ok (.iaload, 1) ∧ decode code 952 = .ok (.aload_n 0, 1) ∧ decode code 953 = .ok (.iload_n 3, 1) ∧ decode code 954 = .ok (.iconst 4, 1) ∧ decode code 955 = .ok (.iadd, 1) ∧ decode code 956 = .ok (.iaload, 1) ∧ decode code 957 = .ok (.invokevirtual 101, 3) ∧ decode code 960 = .ok (.pop, 1) ∧ decode code 961 = .ok (.aload_n 2, 1) ∧ decode code 962 = .ok (.aload_n 0, 1) ∧ decode code 963 = .ok (.iload_n 3, 1) := ⟨xo_46 xLc_40 0 rfl, xo_42 xLc_40 1 rfl, xo_29 xLc_40 2 rfl, xo_6 xLc_40 3 rfl, xo_96 xLc_40 4 rfl, xo_46 xLc_40 5 rfl, xo_42 xLc_40 6 rfl, xo_29 xLc_40 7 rfl, xo_7 xLc_40 8 rfl, xo_96 xLc_40 9 rfl, xo_46 xLc_40 10 rfl, xo_182 xLc_40 11 rfl rfl rfl rfl rfl rfl, xo_87 xLc_40 14 rfl, xo_44 xLc_40 15 rfl, xo_42 xLc_40 16 rfl, xo_29 xLc_40 17 rfl⟩
theorem dL_946 : decode code 946 = .ok (.iaload, 1) := dLc_40.1
theorem dL_947 : decode code 947 = .ok (.aload_n 0, 1) := dLc_40.2.1
theorem dL_948 : decode code 948 = .ok (.iload_n 3, 1) := dLc_40.2.2.1
theorem dL_949 : decode code 949 = .ok (.iconst 3, 1) := dLc_40.2.2.2.1
theorem dL_950 : decode code 950 = .ok (.iadd, 1) := dLc_40.2.2.2.2.1
theorem dL_951 : decode code 951 = .ok (.iaload, 1) := dLc_40.2.2.2.2.2.1
theorem dL_952 : decode code 952 = .ok (.aload_n 0, 1) := dLc_40.2.2.2.2.2.2.1
theorem dL_953 : decode code 953 = .ok (.iload_n 3, 1) := dLc_40.2.2.2.2.2.2.2.1
theorem dL_954 : decode code 954 = .ok (.iconst 4, 1) := dLc_40.2.2.2.2.2.2.2.2.1
theorem dL_955 : decode code 955 = .ok (.iadd, 1) := dLc_40.2.2.2.2.2.2.2.2.2.1
theorem dL_956 : decode code 956 = .ok (.iaload, 1) := dLc_40.2.2.2.2.2.2.2.2.2.2.1
theorem dL_957 : decode code 957 = .ok (.invokevirtual 101, 3) := dLc_40.2.2.2.2.2.2.2.2.2.2.2.1
theorem dL_960 : decode code 960 = .ok (.pop, 1) := dLc_40.2.2.2.2.2.2.2.2.2.2.2.2.1
theorem dL_961 : decode code 961 = .ok (.aload_n 2, 1) := dLc_40.2.2.2.2.2.2.2.2.2.2.2.2.2.1
theorem dL_962 : decode code 962 = .ok (.aload_n 0, 1) := dLc_40.2.2.2.2.2.2.2.2.2.2.2.2.2.2.1
theorem dL_963 : decode code 963 = .ok (.iload_n 3, 1) := dLc_40.2.2.2.2.2.2.2.2.2.2.2.2.2.2.2
set_option maxRecDepth 20000 in
theorem xLc_41 : xd_w code 964 [4, 96, 46, 42, 29, 5, 96, 46, 42, 29, 6, 96, 46, 42, 29, 7] := by unfold xd_w; decide +kernel
set_option maxRecDepth 20000 in
theorem dLc_41 : decode code 964 = .ok (.iconst 1, 1) ∧ decode code 965 = .ok (.iadd, 1) ∧ decode code 966 = .ok (.iaload, 1) ∧ decode code 967 = .ok (.aload_n 0, 1) ∧ decode code 968 = .ok (.iload_n 3, 1) ∧ decode code 969 = .ok (.iconst 2, 1) ∧ decode code 970 = .ok (.iadd, 1) ∧ decode code 971 = .ok (.iaload, 1) ∧ decode code 972 = .ok (.aload_n 0, 1) ∧ decode code 973 = .ok (.iload_n 3, 1) ∧ decode code 974 = .ok (.iconst 3, 1) ∧ decode code 975 = .ok (.iadd, 1) ∧ decode code 976 = .ok (.iaload, 1) ∧ decode code 977 = .ok (.aload_n 0, 1) ∧ decode code 978 = .ok (.iload_n 3, 1) ∧ decode code 979 = .ok (.iconst 4, 1) := ⟨xo_4 xLc_41 0 rfl, xo_96 xLc_41 1 rfl, xo_46 xLc_41 2 rfl, xo_42 xLc_41 3 rfl, xo_29 xLc_41 4 rfl, xo_5 xLc_41 5 rfl, xo_96 xLc_41 6 rfl, xo_46 xLc_41 7 rfl, xo_42 xLc_41 8 rfl, xo_29 xLc_41 9 rfl, xo_6 xLc_41 10 rfl, xo_96 xLc_41 11 rfl, xo_46 xLc_41 12 rfl, xo_42 xLc_41 13 rfl, xo_29 xLc_41 14 rfl, xo_7 xLc_41 15 rfl⟩
theorem dL_964 : decode code 964 = .ok (.iconst 1, 1) := dLc_41.1
theorem dL_965 : decode code 965 = .ok (.iadd, 1) := dLc_41.2.1
theorem dL_966 : decode code 966 = .ok (.iaload, 1) := dLc_41.2.2.1
theorem dL_967 : decode code 967 = .ok (.aload_n 0, 1) := dLc_41.2.2.2.1
theorem dL_968 : decode code 968 = .ok (.iload_n 3, 1) := dLc_41.2.2.2.2.1
theorem dL_969 : decode code 969 = .ok (.iconst 2, 1) := dLc_41.2.2.2.2.2.1
theorem dL_970 : decode code 970 = .ok (.iadd, 1) := dLc_41.2.2.2.2.2.2.1
theorem dL_971 : decode code 971 = .ok (.iaload, 1) := dLc_41.2.2.2.2.2.2.2.1
theorem dL_972 : decode code 972 = .ok (.aload_n 0, 1) := dLc_41.2.2.2.2.2.2.2.2.1
theorem dL_973 : decode code 973 = .ok (.iload_n 3, 1) := dLc_41.2.2.2.2.2.2.2.2.2.1
theorem dL_974 : decode code 974 = .ok (.iconst 3, 1) := dLc_41.2.2.2.2.2.2.2.2.2.2.1
theorem dL_975 : decode code 975 = .ok (.iadd, 1) := dLc_41.2.2.2.2.2.2.2.2.2.2.2.1
theorem dL_976 : decode code 976 = .ok (.iaload, 1) := dLc_41.2.2.2.2.2.2.2.2.2.2.2.2.1
theorem dL_977 : decode code 977 = .ok (.aload_n 0, 1) := dLc_41.2.2.2.2.2.2.2.2.2.2.2.2.2.1
theorem dL_978 : decode code 978 = .ok (.iload_n 3, 1) := dLc_41.2.2.2.2.2.2.2.2.2.2.2.2.2.2.1
theorem dL_979 : decode code 979 = .ok (.iconst 4, 1) := dLc_41.2.2.2.2.2.2.2.2.2.2.2.2.2.2.2
set_option maxRecDepth 20000 in
theorem xLc_42 : xd_w code 980 [96, 46, 182, 0, 104, 87, 167, 2, 82, 43, 42, 29, 4, 96, 46, 42, 29, 5, 96, 46] := by unfold xd_w; decide +kernel
set_option maxRecDepth 20000 in
theorem dLc_42 : decode code 980 = .ok (.iadd, 1) ∧ decode code 981 = .ok (.iaload, 1) ∧ decode code 982 = .ok (.invokevirtual 104, 3) ∧ decode code 985 = .ok (.pop, 1) ∧ decode code 986 = .ok (.goto 594, 3) ∧ decode code 989 = .ok (.aload_n 1, 1) ∧ decode code 990 = .ok (.aload_n 0, 1) ∧ decode code 991 = .ok (.iload_n 3, 1) ∧ decode code 992 = .ok (.iconst 1, 1) ∧ decode code 993 = .ok (.iadd, 1) ∧ decode code 994 = .ok (.iaload, 1) ∧ decode code 995 = .ok (.aload_n 0, 1) ∧ decode code 996 = .ok (.iload_n 3, 1) ∧ decode code 997 = .ok (.iconst 2, 1) ∧ decode code 998 = .ok (.iadd, 1) ∧ decode code 999 = .ok (.iaload, 1) := ⟨xo_96 xLc_42 0 rfl, xo_46 xLc_42 1 rfl, xo_182 xLc_42 2 rfl rfl rfl rfl rfl rfl, xo_87 xLc_42 5 rfl, xo_167 xLc_42 6 rfl rfl rfl rfl rfl rfl, xo_43 xLc_42 9 rfl, xo_42 xLc_42 10 rfl, xo_29 xLc_42 11 rfl, xo_4 xLc_42 12 rfl, xo_96 xLc_42 13 rfl, xo_46 xLc_42 14 rfl, xo_42 xLc_42 15 rfl, xo_29 xLc_42 16 rfl, xo_5 xLc_42 17 rfl, xo_96 xLc_42 18 rfl, xo_46 xLc_42 19 rfl⟩
theorem dL_980 : decode code 980 = .ok (.iadd, 1) := dLc_42.1
theorem dL_981 : decode code 981 = .ok (.iaload, 1) := dLc_42.2.1
theorem dL_982 : decode code 982 = .ok (.invokevirtual 104, 3) := dLc_42.2.2.1
theorem dL_985 : decode code 985 = .ok (.pop, 1) := dLc_42.2.2.2.1
theorem dL_986 : decode code 986 = .ok (.goto 594, 3) := dLc_42.2.2.2.2.1
theorem dL_989 : decode code 989 = .ok (.aload_n 1, 1) := dLc_42.2.2.2.2.2.1
theorem dL_990 : decode code 990 = .ok (.aload_n 0, 1) := dLc_42.2.2.2.2.2.2.1
theorem dL_991 : decode code 991 = .ok (.iload_n 3, 1) := dLc_42.2.2.2.2.2.2.2.1
theorem dL_992 : decode code 992 = .ok (.iconst 1, 1) := dLc_42.2.2.2.2.2.2.2.2.1
theorem dL_993 : decode code 993 = .ok (.iadd, 1) := dLc_42.2.2.2.2.2.2.2.2.2.1
theorem dL_994 : decode code 994 = .ok (.iaload, 1) := dLc_42.2.2.2.2.2.2.2.2.2.2.1
theorem dL_995 : decode code 995 = .ok (.aload_n 0, 1) := dLc_42.2.2.2.2.2.2.2.2.2.2.2.1
theorem dL_996 : decode code 996 = .ok (.iload_n 3, 1) := dLc_42.2.2.2.2.2.2.2.2.2.2.2.2.1
theorem dL_997 : decode code 997 = .ok (.iconst 2, 1) := dLc_42.2.2.2.2.2.2.2.2.2.2.2.2.2.1
theorem dL_998 : decode code 998 = .ok (.iadd, 1) := dLc_42.2.2.2.2.2.2.2.2.2.2.2.2.2.2.1
theorem dL_999 : decode code 999 = .ok (.iaload, 1) := dLc_42.2.2.2.2.2.2.2.2.2.2.2.2.2.2.2
set_option maxRecDepth 20000 in
theorem xLc_43 : xd_w code 1000 [42, 29, 6, 96, 46, 182, 0, 105, 87, 44, 42, 29, 4, 96, 46, 42, 29, 5] := by unfold xd_w; decide +kernel
set_option maxRecDepth 20000 in
theorem dLc_43 : decode code 1000 = .ok (.aload_n 0, 1) ∧ decode code 1001 = .ok (.iload_n 3, 1) ∧ decode code 1002 = .ok (.iconst 3, 1) ∧ decode code 1003 = .ok (.iadd, 1) ∧ decode code 1004 = .ok (.iaload, 1) ∧ decode code 1005 = .ok (.invokevirtual 105, 3) ∧ decode code 1008 = .ok (.pop, 1) ∧ decode code 1009 = .ok (.aload_n 2, 1) ∧ decode code 1010 = .ok (.aload_n 0, 1) ∧ decode code 1011 = .ok (.iload_n 3, 1) ∧ decode code 1012 = .ok (.iconst 1, 1) ∧ decode code 1013 = .ok (.iadd, 1) ∧ decode code 1014 = .ok (.iaload, 1) ∧ decode code 1015 = .ok (.aload_n 0, 1) ∧ decode code 1016 = .ok (.iload_n 3, 1) ∧ decode code 1017 = .ok (.iconst 2, 1) := ⟨xo_42 xLc_43 0 rfl, xo_29 xLc_43 1 rfl, xo_6 xLc_43 2 rfl, xo_96 xLc_43 3 rfl, xo_46 xLc_43 4 rfl, xo_182 xLc_43 5 rfl rfl rfl rfl rfl rfl, xo_87 xLc_43 8 rfl, xo_44 xLc_43 9 rfl, xo_42 xLc_43 10 rfl, xo_29 xLc_43 11 rfl, xo_4 xLc_43 12 rfl, xo_96 xLc_43 13 rfl, xo_46 xLc_43 14 rfl, xo_42 xLc_43 15 rfl, xo_29 xLc_43 16 rfl, xo_5 xLc_43 17 rfl⟩
theorem dL_1000 : decode code 1000 = .ok (.aload_n 0, 1) := dLc_43.1
theorem dL_1001 : decode code 1001 = .ok (.iload_n 3, 1) := dLc_43.2.1
theorem dL_1002 : decode code 1002 = .ok (.iconst 3, 1) := dLc_43.2.2.1
theorem dL_1003 : decode code 1003 = .ok (.iadd, 1) := dLc_43.2.2.2.1
theorem dL_1004 : decode code 1004 = .ok (.iaload, 1) := dLc_43.2.2.2.2.1
theorem dL_1005 : decode code 1005 = .ok (.invokevirtual 105, 3) := dLc_43.2.2.2.2.2.1
theorem dL_1008 : decode code 1008 = .ok (.pop, 1) := dLc_43.2.2.2.2.2.2.1
theorem dL_1009 : decode code 1009 = .ok (.aload_n 2, 1) := dLc_43.2.2.2.2.2.2.2.1
theorem dL_1010 : decode code 1010 = .ok (.aload_n 0, 1) := dLc_43.2.2.2.2.2.2.2.2.1
theorem dL_1011 : decode code 1011 = .ok (.iload_n 3, 1) := dLc_43.2.2.2.2.2.2.2.2.2.1
theorem dL_1012 : decode code 1012 = .ok (.iconst 1, 1) := dLc_43.2.2.2.2.2.2.2.2.2.2.1
theorem dL_1013 : decode code 1013 = .ok (.iadd, 1) := dLc_43.2.2.2.2.2.2.2.2.2.2.2.1
theorem dL_1014 : decode code 1014 = .ok (.iaload, 1) := dLc_43.2.2.2.2.2.2.2.2.2.2.2.2.1
theorem dL_1015 : decode code 1015 = .ok (.aload_n 0, 1) := dLc_43.2.2.2.2.2.2.2.2.2.2.2.2.2.1
theorem dL_1016 : decode code 1016 = .ok (.iload_n 3, 1) := dLc_43.2.2.2.2.2.2.2.2.2.2.2.2.2.2.1
theorem dL_1017 : decode code 1017 = .ok (.iconst 2, 1) := dLc_43.2.2.2.2.2.2.2.2.2.2.2.2.2.2.2
set_option maxRecDepth 20000 in
theorem xLc_44 : xd_w code 1018 [96, 46, 42, 29, 6, 96, 46, 182, 0, 108, 87, 167, 2, 39, 43, 42, 29, 4, 96, 46] := by unfold xd_w; decide +kernel
set_option maxRecDepth 20000 in
theorem dLc_44 : decode code 1018 = .ok (.iadd, 1) ∧ decode code 1019 = .ok (.iaload, 1) ∧ decode code 1020 = .ok (.aload_n 0, 1) ∧ decode code 1021 = .ok (.iload_n 3, 1) ∧ decode code 1022 = .ok (.iconst 3, 1) ∧ decode code 1023 = .ok (.iadd, 1) ∧ decode code 1024 = .ok (.iaload, 1) ∧ decode code 1025 = .ok (.invokevirtual 108, 3) ∧ decode code 1028 = .ok (.pop, 1) ∧ decode code 1029 = .ok (.goto 551, 3) ∧ decode code 1032 = .ok (.aload_n 1, 1) ∧ decode code 1033 = .ok (.aload_n 0, 1) ∧ decode code 1034 = .ok (.iload_n 3, 1) ∧ decode code 1035 = .ok (.iconst 1, 1) ∧ decode code 1036 = .ok (.iadd, 1) ∧ decode code 1037 = .ok (.iaload, 1) := ⟨xo_96 xLc_44 0 rfl, xo_46 xLc_44 1 rfl, xo_42 xLc_44 2 rfl, xo_29 xLc_44 3 rfl, xo_6 xLc_44 4 rfl, xo_96 xLc_44 5 rfl, xo_46 xLc_44 6 rfl, xo_182 xLc_44 7 rfl rfl rfl rfl rfl rfl, xo_87 xLc_44 10 rfl, xo_167 xLc_44 11 rfl rfl rfl rfl rfl rfl, xo_43 xLc_44 14 rfl, xo_42 xLc_44 15 rfl, xo_29 xLc_44 16 rfl, xo_4 xLc_44 17 rfl, xo_96 xLc_44 18 rfl, xo_46 xLc_44 19 rfl⟩
theorem dL_1018 : decode code 1018 = .ok (.iadd, 1) := dLc_44.1
theorem dL_1019 : decode code 1019 = .ok (.iaload, 1) := dLc_44.2.1
theorem dL_1020 : decode code 1020 = .ok (.aload_n 0, 1) := dLc_44.2.2.1
theorem dL_1021 : decode code 1021 = .ok (.iload_n 3, 1) := dLc_44.2.2.2.1
theorem dL_1022 : decode code 1022 = .ok (.iconst 3, 1) := dLc_44.2.2.2.2.1
theorem dL_1023 : decode code 1023 = .ok (.iadd, 1) := dLc_44.2.2.2.2.2.1
theorem dL_1024 : decode code 1024 = .ok (.iaload, 1) := dLc_44.2.2.2.2.2.2.1
theorem dL_1025 : decode code 1025 = .ok (.invokevirtual 108, 3) := dLc_44.2.2.2.2.2.2.2.1
theorem dL_1028 : decode code 1028 = .ok (.pop, 1) := dLc_44.2.2.2.2.2.2.2.2.1
theorem dL_1029 : decode code 1029 = .ok (.goto 551, 3) := dLc_44.2.2.2.2.2.2.2.2.2.1
theorem dL_1032 : decode code 1032 = .ok (.aload_n 1, 1) := dLc_44.2.2.2.2.2.2.2.2.2.2.1
theorem dL_1033 : decode code 1033 = .ok (.aload_n 0, 1) := dLc_44.2.2.2.2.2.2.2.2.2.2.2.1
theorem dL_1034 : decode code 1034 = .ok (.iload_n 3, 1) := dLc_44.2.2.2.2.2.2.2.2.2.2.2.2.1
theorem dL_1035 : decode code 1035 = .ok (.iconst 1, 1) := dLc_44.2.2.2.2.2.2.2.2.2.2.2.2.2.1
theorem dL_1036 : decode code 1036 = .ok (.iadd, 1) := dLc_44.2.2.2.2.2.2.2.2.2.2.2.2.2.2.1
theorem dL_1037 : decode code 1037 = .ok (.iaload, 1) := dLc_44.2.2.2.2.2.2.2.2.2.2.2.2.2.2.2
set_option maxRecDepth 20000 in
theorem xLc_45 : xd_w code 1038 [42, 29, 5, 96, 46, 42, 29, 6, 96, 46, 42, 29, 7, 96, 46, 182, 0, 109] := by unfold xd_w; decide +kernel
set_option maxRecDepth 20000 in
theorem dLc_45 : decode code 1038 = .ok (.aload_n 0, 1) ∧ decode code 1039 = .ok (.iload_n 3, 1) ∧ decode code 1040 = .ok (.iconst 2, 1) ∧ decode code 1041 = .ok (.iadd, 1) ∧ decode code 1042 = .ok (.iaload, 1) ∧ decode code 1043 = .ok (.aload_n 0, 1) ∧ decode code 1044 = .ok (.iload_n 3, 1) ∧ decode code 1045 = .ok (.iconst 3, 1) ∧ decode code 1046 = .ok (.iadd, 1) ∧ decode code 1047 = .ok (.iaload, 1) ∧ decode code 1048 = .ok (.aload_n 0, 1) ∧ decode code 1049 = .ok (.iload_n 3, 1) ∧ decode code 1050 = .ok (.iconst 4, 1) ∧ decode code 1051 = .ok (.iadd, 1) ∧ decode code 1052 = .ok (.iaload, 1) ∧ decode code 1053 = .ok (.invokevirtual 109, 3) := ⟨xo_42 xLc_45 0 rfl, xo_29 xLc_45 1 rfl, xo_5 xLc_45 2 rfl, xo_96 xLc_45 3 rfl, xo_46 xLc_45 4 rfl, xo_42 xLc_45 5 rfl, xo_29 xLc_45 6 rfl, xo_6 xLc_45 7 rfl, xo_96 xLc_45 8 rfl, xo_46 xLc_45 9 rfl, xo_42 xLc_45 10 rfl, xo_29 xLc_45 11 rfl, xo_7 xLc_45 12 rfl, xo_96 xLc_45 13 rfl, xo_46 xLc_45 14 rfl, xo_182 xLc_45 15 rfl rfl rfl rfl rfl rfl⟩
theorem dL_1038 : decode code 1038 = .ok (.aload_n 0, 1) := dLc_45.1
theorem dL_1039 : decode code 1039 = .ok (.iload_n 3, 1) := dLc_45.2.1
theorem dL_1040 : decode code 1040 = .ok (.iconst 2, 1) := dLc_45.2.2.1
theorem dL_1041 : decode code 1041 = .ok (.iadd, 1) := dLc_45.2.2.2.1
theorem dL_1042 : decode code 1042 = .ok (.iaload, 1) := dLc_45.2.2.2.2.1
theorem dL_1043 : decode code 1043 = .ok (.aload_n 0, 1) := dLc_45.2.2.2.2.2.1
theorem dL_1044 : decode code 1044 = .ok (.iload_n 3, 1) := dLc_45.2.2.2.2.2.2.1
theorem dL_1045 : decode code 1045 = .ok (.iconst 3, 1) := dLc_45.2.2.2.2.2.2.2.1
theorem dL_1046 : decode code 1046 = .ok (.iadd, 1) := dLc_45.2.2.2.2.2.2.2.2.1
theorem dL_1047 : decode code 1047 = .ok (.iaload, 1) := dLc_45.2.2.2.2.2.2.2.2.2.1
theorem dL_1048 : decode code 1048 = .ok (.aload_n 0, 1) := dLc_45.2.2.2.2.2.2.2.2.2.2.1
theorem dL_1049 : decode code 1049 = .ok (.iload_n 3, 1) := dLc_45.2.2.2.2.2.2.2.2.2.2.2.1
theorem dL_1050 : decode code 1050 = .ok (.iconst 4, 1) := dLc_45.2.2.2.2.2.2.2.2.2.2.2.2.1
theorem dL_1051 : decode code 1051 = .ok (.iadd, 1) := dLc_45.2.2.2.2.2.2.2.2.2.2.2.2.2.1
theorem dL_1052 : decode code 1052 = .ok (.iaload, 1) := dLc_45.2.2.2.2.2.2.2.2.2.2.2.2.2.2.1
theorem dL_1053 : decode code 1053 = .ok (.invokevirtual 109, 3) := dLc_45.2.2.2.2.2.2.2.2.2.2.2.2.2.2.2
set_option maxRecDepth 20000 in
theorem xLc_46 : xd_w code 1056 [87, 44, 42, 29, 4, 96, 46, 42, 29, 5, 96, 46, 42, 29, 6, 96] := by unfold xd_w; decide +kernel
set_option maxRecDepth 20000 in
theorem dLc_46 : decode code 1056 = .ok (.pop, 1) ∧ decode code 1057 = .ok (.aload_n 2, 1) ∧ decode code 1058 = .ok (.aload_n 0, 1) ∧ decode code 1059 = .ok (.iload_n 3, 1) ∧ decode code 1060 = .ok (.iconst 1, 1) ∧ decode code 1061 = .ok (.iadd, 1) ∧ decode code 1062 = .ok (.iaload, 1) ∧ decode code 1063 = .ok (.aload_n 0, 1) ∧ decode code 1064 = .ok (.iload_n 3, 1) ∧ decode code 1065 = .ok (.iconst 2, 1) ∧ decode code 1066 = .ok (.iadd, 1) ∧ decode code 1067 = .ok (.iaload, 1) ∧ decode code 1068 = .ok (.aload_n 0, 1) ∧ decode code 1069 = .ok (.iload_n 3, 1) ∧ decode code 1070 = .ok (.iconst 3, 1) ∧ decode code 1071 = .ok (.iadd, 1) := ⟨xo_87 xLc_46 0 rfl, xo_44 xLc_46 1 rfl, xo_42 xLc_46 2 rfl, xo_29 xLc_46 3 rfl, xo_4 xLc_46 4 rfl, xo_96 xLc_46 5 rfl, xo_46 xLc_46 6 rfl, xo_42 xLc_46 7 rfl, xo_29 xLc_46 8 rfl, xo_5 xLc_46 9 rfl, xo_96 xLc_46 10 rfl, xo_46 xLc_46 11 rfl, xo_42 xLc_46 12 rfl, xo_29 xLc_46 13 rfl, xo_6 xLc_46 14 rfl, xo_96 xLc_46 15 rfl⟩
theorem dL_1056 : decode code 1056 = .ok (.pop, 1) := dLc_46.1
theorem dL_1057 : decode code 1057 = .ok (.aload_n 2, 1) := dLc_46.2.1
theorem dL_1058 : decode code 1058 = .ok (.aload_n 0, 1) := dLc_46.2.2.1
theorem dL_1059 : decode code 1059 = .ok (.iload_n 3, 1) := dLc_46.2.2.2.1
theorem dL_1060 : decode code 1060 = .ok (.iconst 1, 1) := dLc_46.2.2.2.2.1
theorem dL_1061 : decode code 1061 = .ok (.iadd, 1) := dLc_46.2.2.2.2.2.1
theorem dL_1062 : decode code 1062 = .ok (.iaload, 1) := dLc_46.2.2.2.2.2.2.1
theorem dL_1063 : decode code 1063 = .ok (.aload_n 0, 1) := dLc_46.2.2.2.2.2.2.2.1
theorem dL_1064 : decode code 1064 = .ok (.iload_n 3, 1) := dLc_46.2.2.2.2.2.2.2.2.1
theorem dL_1065 : decode code 1065 = .ok (.iconst 2, 1) := dLc_46.2.2.2.2.2.2.2.2.2.1
theorem dL_1066 : decode code 1066 = .ok (.iadd, 1) := dLc_46.2.2.2.2.2.2.2.2.2.2.1
theorem dL_1067 : decode code 1067 = .ok (.iaload, 1) := dLc_46.2.2.2.2.2.2.2.2.2.2.2.1
theorem dL_1068 : decode code 1068 = .ok (.aload_n 0, 1) := dLc_46.2.2.2.2.2.2.2.2.2.2.2.2.1
theorem dL_1069 : decode code 1069 = .ok (.iload_n 3, 1) := dLc_46.2.2.2.2.2.2.2.2.2.2.2.2.2.1
theorem dL_1070 : decode code 1070 = .ok (.iconst 3, 1) := dLc_46.2.2.2.2.2.2.2.2.2.2.2.2.2.2.1
theorem dL_1071 : decode code 1071 = .ok (.iadd, 1) := dLc_46.2.2.2.2.2.2.2.2.2.2.2.2.2.2.2
set_option maxRecDepth 20000 in
theorem xLc_47 : xd_w code 1072 [46, 42, 29, 7, 96, 46, 182, 0, 112, 87, 167, 1, 242, 43, 42, 29, 4, 96, 46, 42] := by unfold xd_w; decide +kernel
set_option maxRecDepth 20000 in
theorem dLc_47 : decode code 1072 = .ok (.iaload, 1) ∧ decode code 1073 = .ok (.aload_n 0, 1) ∧ decode code 1074 = .ok (.iload_n 3, 1) ∧ decode code 1075 = .ok (.iconst 4, 1) ∧ decode code 1076 = .ok (.iadd, 1) ∧ decode code 1077 = .ok (.iaload, 1) ∧ decode code 1078 = .ok (.invokevirtual 112, 3) ∧ decode code 1081 = .ok (.pop, 1) ∧ decode code 1082 = .ok (.goto 498, 3) ∧ decode code 1085 = .ok (.aload_n 1, 1) ∧ decode code 1086 = .ok (.aload_n 0, 1) ∧ decode code 1087 = .ok (.iload_n 3, 1) ∧ decode code 1088 = .ok (.iconst 1, 1) ∧ decode code 1089 = .ok (.iadd, 1) ∧ decode code 1090 = .ok (.iaload, 1) ∧ decode code 1091 = .ok (.aload_n 0, 1) := ⟨xo_46 xLc_47 0 rfl, xo_42 xLc_47 1 rfl, xo_29 xLc_47 2 rfl, xo_7 xLc_47 3 rfl, xo_96 xLc_47 4 rfl, xo_46 xLc_47 5 rfl, xo_182 xLc_47 6 rfl rfl rfl rfl rfl rfl, xo_87 xLc_47 9 rfl, xo_167 xLc_47 10 rfl rfl rfl rfl rfl rfl, xo_43 xLc_47 13 rfl, xo_42 xLc_47 14 rfl, xo_29 xLc_47 15 rfl, xo_4 xLc_47 16 rfl, xo_96 xLc_47 17 rfl, xo_46 xLc_47 18 rfl, xo_42 xLc_47 19 rfl⟩
theorem dL_1072 : decode code 1072 = .ok (.iaload, 1) := dLc_47.1
theorem dL_1073 : decode code 1073 = .ok (.aload_n 0, 1) := dLc_47.2.1
theorem dL_1074 : decode code 1074 = .ok (.iload_n 3, 1) := dLc_47.2.2.1
theorem dL_1075 : decode code 1075 = .ok (.iconst 4, 1) := dLc_47.2.2.2.1
theorem dL_1076 : decode code 1076 = .ok (.iadd, 1) := dLc_47.2.2.2.2.1
theorem dL_1077 : decode code 1077 = .ok (.iaload, 1) := dLc_47.2.2.2.2.2.1
theorem dL_1078 : decode code 1078 = .ok (.invokevirtual 112, 3) := dLc_47.2.2.2.2.2.2.1
theorem dL_1081 : decode code 1081 = .ok (.pop, 1) := dLc_47.2.2.2.2.2.2.2.1
theorem dL_1082 : decode code 1082 = .ok (.goto 498, 3) := dLc_47.2.2.2.2.2.2.2.2.1
theorem dL_1085 : decode code 1085 = .ok (.aload_n 1, 1) := dLc_47.2.2.2.2.2.2.2.2.2.1
theorem dL_1086 : decode code 1086 = .ok (.aload_n 0, 1) := dLc_47.2.2.2.2.2.2.2.2.2.2.1
theorem dL_1087 : decode code 1087 = .ok (.iload_n 3, 1) := dLc_47.2.2.2.2.2.2.2.2.2.2.2.1
theorem dL_1088 : decode code 1088 = .ok (.iconst 1, 1) := dLc_47.2.2.2.2.2.2.2.2.2.2.2.2.1
theorem dL_1089 : decode code 1089 = .ok (.iadd, 1) := dLc_47.2.2.2.2.2.2.2.2.2.2.2.2.2.1
theorem dL_1090 : decode code 1090 = .ok (.iaload, 1) := dLc_47.2.2.2.2.2.2.2.2.2.2.2.2.2.2.1
theorem dL_1091 : decode code 1091 = .ok (.aload_n 0, 1) := dLc_47.2.2.2.2.2.2.2.2.2.2.2.2.2.2.2
set_option maxRecDepth 20000 in
theorem xLc_48 : xd_w code 1092 [29, 5, 96, 46, 42, 29, 6, 96, 46, 182, 0, 113, 87, 44, 42, 29, 4, 96] := by unfold xd_w; decide +kernel
set_option maxRecDepth 20000 in
theorem dLc_48 : decode code 1092 = .ok (.iload_n 3, 1) ∧ decode code 1093 = .ok (.iconst 2, 1) ∧ decode code 1094 = .ok (.iadd, 1) ∧ decode code 1095 = .ok (.iaload, 1) ∧ decode code 1096 = .ok (.aload_n 0, 1) ∧ decode code 1097 = .ok (.iload_n 3, 1) ∧ decode code 1098 = .ok (.iconst 3, 1) ∧ decode code 1099 = .ok (.iadd, 1) ∧ decode code 1100 = .ok (.iaload, 1) ∧ decode code 1101 = .ok (.invokevirtual 113, 3) ∧ decode code 1104 = .ok (.pop, 1) ∧ decode code 1105 = .ok (.aload_n 2, 1) ∧ decode code 1106 = .ok (.aload_n 0, 1) ∧ decode code 1107 = .ok (.iload_n 3, 1) ∧ decode code 1108 = .ok (.iconst 1, 1) ∧ decode code 1109 = .ok (.iadd, 1) := ⟨xo_29 xLc_48 0 rfl, xo_5 xLc_48 1 rfl, xo_96 xLc_48 2 rfl, xo_46 xLc_48 3 rfl, xo_42 xLc_48 4 rfl, xo_29 xLc_48 5 rfl, xo_6 xLc_48 6 rfl, xo_96 xLc_48 7 rfl, xo_46 xLc_48 8 rfl, xo_182 xLc_48 9 rfl rfl rfl rfl rfl rfl, xo_87 xLc_48 12 rfl, xo_44 xLc_48 13 rfl, xo_42 xLc_48 14 rfl, xo_29 xLc_48 15 rfl, xo_4 xLc_48 16 rfl, xo_96 xLc_48 17 rfl⟩
theorem dL_1092 : decode code 1092 = .ok (.iload_n 3, 1) := dLc_48.1
theorem dL_1093 : decode code 1093 = .ok (.iconst 2, 1) := dLc_48.2.1
theorem dL_1094 : decode code 1094 = .ok (.iadd, 1) := dLc_48.2.2.1
theorem dL_1095 : decode code 1095 = .ok (.iaload, 1) := dLc_48.2.2.2.1
theorem dL_1096 : decode code 1096 = .ok (.aload_n 0, 1) := dLc_48.2.2.2.2.1
theorem dL_1097 : decode code 1097 = .ok (.iload_n 3, 1) := dLc_48.2.2.2.2.2.1
theorem dL_1098 : decode code 1098 = .ok (.iconst 3, 1) := dLc_48.2.2.2.2.2.2.1
theorem dL_1099 : decode code 1099 = .ok (.iadd, 1) := dLc_48.2.2.2.2.2.2.2.1
theorem dL_1100 : decode code 1100 = .ok (.iaload, 1) := dLc_48.2.2.2.2.2.2.2.2.1
theorem dL_1101 : decode code 1101 = .ok (.invokevirtual 113, 3) := dLc_48.2.2.2.2.2.2.2.2.2.1
theorem dL_1104 : decode code 1104 = .ok (.pop, 1) := dLc_48.2.2.2.2.2.2.2.2.2.2.1
theorem dL_1105 : decode code 1105 = .ok (.aload_n 2, 1) := dLc_48.2.2.2.2.2.2.2.2.2.2.2.1
theorem dL_1106 : decode code 1106 = .ok (.aload_n 0, 1) := dLc_48.2.2.2.2.2.2.2.2.2.2.2.2.1
theorem dL_1107 : decode code 1107 = .ok (.iload_n 3, 1) := dLc_48.2.2.2.2.2.2.2.2.2.2.2.2.2.1
theorem dL_1108 : decode code 1108 = .ok (.iconst 1, 1) := dLc_48.2.2.2.2.2.2.2.2.2.2.2.2.2.2.1
theorem dL_1109 : decode code 1109 = .ok (.iadd, 1) := dLc_48.2.2.2.2.2.2.2.2.2.2.2.2.2.2.2
set_option maxRecDepth 20000 in
theorem xLc_49 : xd_w code 1110 [46, 42, 29, 5, 96, 46, 42, 29, 6, 96, 46, 182, 0, 116, 87, 167, 1, 199, 43, 42] := by unfold xd_w; decide +kernel
set_option maxRecDepth 20000 in
theorem dLc_49 : decode code 1110 = .ok (.iaload, 1) ∧ decode code 1111 = .ok (.aload_n 0, 1) ∧ decode code 1112 = .ok (.iload_n 3, 1) ∧ decode code 1113 = .ok (.iconst 2, 1) ∧ decode code 1114 = .ok (.iadd, 1) ∧ decode code 1115 = .ok (.iaload, 1) ∧ decode code 1116 = .ok (.aload_n 0, 1) ∧ decode code 1117 = .ok (.iload_n 3, 1) ∧ decode code 1118 = .ok (.iconst 3, 1) ∧ decode code 1119 = .ok (.iadd, 1) ∧ decode code 1120 = .ok (.iaload, 1) ∧ decode code 1121 = .ok (.invokevirtual 116, 3) ∧ decode code 1124 = .ok (.pop, 1) ∧ decode code 1125 = .ok (.goto 455, 3) ∧ decode code 1128 = .ok (.aload_n 1, 1) ∧ decode code 1129 = .ok (.aload_n 0, 1) := ⟨xo_46 xLc_49 0 rfl, xo_42 xLc_49 1 rfl, xo_29 xLc_49 2 rfl, xo_5 xLc_49 3 rfl, xo_96 xLc_49 4 rfl, xo_46 xLc_49 5 rfl, xo_42 xLc_49 6 rfl, xo_29 xLc_49 7 rfl, xo_6 xLc_49 8 rfl, xo_96 xLc_49 9 rfl, xo_46 xLc_49 10 rfl, xo_182 xLc_49 11 rfl rfl rfl rfl rfl rfl, xo_87 xLc_49 14 rfl, xo_167 xLc_49 15 rfl rfl rfl rfl rfl rfl, xo_43 xLc_49 18 rfl, xo_42 xLc_49 19 rfl⟩
theorem dL_1110 : decode code 1110 = .ok (.iaload, 1) := dLc_49.1
theorem dL_1111 : decode code 1111 = .ok (.aload_n 0, 1) := dLc_49.2.1
theorem dL_1112 : decode code 1112 = .ok (.iload_n 3, 1) := dLc_49.2.2.1
theorem dL_1113 : decode code 1113 = .ok (.iconst 2, 1) := dLc_49.2.2.2.1
theorem dL_1114 : decode code 1114 = .ok (.iadd, 1) := dLc_49.2.2.2.2.1
theorem dL_1115 : decode code 1115 = .ok (.iaload, 1) := dLc_49.2.2.2.2.2.1
theorem dL_1116 : decode code 1116 = .ok (.aload_n 0, 1) := dLc_49.2.2.2.2.2.2.1
theorem dL_1117 : decode code 1117 = .ok (.iload_n 3, 1) := dLc_49.2.2.2.2.2.2.2.1
theorem dL_1118 : decode code 1118 = .ok (.iconst 3, 1) := dLc_49.2.2.2.2.2.2.2.2.1
theorem dL_1119 : decode code 1119 = .ok (.iadd, 1) := dLc_49.2.2.2.2.2.2.2.2.2.1
theorem dL_1120 : decode code 1120 = .ok (.iaload, 1) := dLc_49.2.2.2.2.2.2.2.2.2.2.1
theorem dL_1121 : decode code 1121 = .ok (.invokevirtual 116, 3) := dLc_49.2.2.2.2.2.2.2.2.2.2.2.1
theorem dL_1124 : decode code 1124 = .ok (.pop, 1) := dLc_49.2.2.2.2.2.2.2.2.2.2.2.2.1
theorem dL_1125 : decode code 1125 = .ok (.goto 455, 3) := dLc_49.2.2.2.2.2.2.2.2.2.2.2.2.2.1
theorem dL_1128 : decode code 1128 = .ok (.aload_n 1, 1) := dLc_49.2.2.2.2.2.2.2.2.2.2.2.2.2.2.1
theorem dL_1129 : decode code 1129 = .ok (.aload_n 0, 1) := dLc_49.2.2.2.2.2.2.2.2.2.2.2.2.2.2.2
set_option maxRecDepth 20000 in
theorem xLc_50 : xd_w code 1130 [29, 4, 96, 46, 42, 29, 5, 96, 46, 182, 0, 117, 87, 44, 42, 29, 4, 96] := by unfold xd_w; decide +kernel
set_option maxRecDepth 20000 in
theorem dLc_50 : decode code 1130 = .ok (.iload_n 3, 1) ∧ decode code 1131 = .ok (.iconst 1, 1) ∧ decode code 1132 = .ok (.iadd, 1) ∧ decode code 1133 = .ok (.iaload, 1) ∧ decode code 1134 = .ok (.aload_n 0, 1) ∧ decode code 1135 = .ok (.iload_n 3, 1) ∧ decode code 1136 = .ok (.iconst 2, 1) ∧ decode code 1137 = .ok (.iadd, 1) ∧ decode code 1138 = .ok (.iaload, 1) ∧ decode code 1139 = .ok (.invokevirtual 117, 3) ∧ decode code 1142 = .ok (.pop, 1) ∧ decode code 1143 = .ok (.aload_n 2, 1) ∧ decode code 1144 = .ok (.aload_n 0, 1) ∧ decode code 1145 = .ok (.iload_n 3, 1) ∧ decode code 1146 = .ok (.iconst 1, 1) ∧ decode code 1147 = .ok (.iadd, 1) := ⟨xo_29 xLc_50 0 rfl, xo_4 xLc_50 1 rfl, xo_96 xLc_50 2 rfl, xo_46 xLc_50 3 rfl, xo_42 xLc_50 4 rfl, xo_29 xLc_50 5 rfl, xo_5 xLc_50 6 rfl, xo_96 xLc_50 7 rfl, xo_46 xLc_50 8 rfl, xo_182 xLc_50 9 rfl rfl rfl rfl rfl rfl, xo_87 xLc_50 12 rfl, xo_44 xLc_50 13 rfl, xo_42 xLc_50 14 rfl, xo_29 xLc_50 15 rfl, xo_4 xLc_50 16 rfl, xo_96 xLc_50 17 rfl⟩
theorem dL_1130 : decode code 1130 = .ok (.iload_n 3, 1) := dLc_50.1
theorem dL_1131 : decode code 1131 = .ok (.iconst 1, 1) := dLc_50.2.1
theorem dL_1132 : decode code 1132 = .ok (.iadd, 1) := dLc_50.2.2.1
theorem dL_1133 : decode code 1133 = .ok (.iaload, 1) := dLc_50.2.2.2.1
theorem dL_1134 : decode code 1134 = .ok (.aload_n 0, 1) := dLc_50.2.2.2.2.1
theorem dL_1135 : decode code 1135 = .ok (.iload_n 3, 1) := dLc_50.2.2.2.2.2.1
theorem dL_1136 : decode code 1136 = .ok (.iconst 2, 1) := dLc_50.2.2.2.2.2.2.1
theorem dL_1137 : decode code 1137 = .ok (.iadd, 1) := dLc_50.2.2.2.2.2.2.2.1
theorem dL_1138 : decode code 1138 = .ok (.iaload, 1) := dLc_50.2.2.2.2.2.2.2.2.1
theorem dL_1139 : decode code 1139 = .ok (.invokevirtual 117, 3) := dLc_50.2.2.2.2.2.2.2.2.2.1
theorem dL_1142 : decode code 1142 = .ok (.pop, 1) := dLc_50.2.2.2.2.2.2.2.2.2.2.1
theorem dL_1143 : decode code 1143 = .ok (.aload_n 2, 1) := dLc_50.2.2.2.2.2.2.2.2.2.2.2.1
theorem dL_1144 : decode code 1144 = .ok (.aload_n 0, 1) := dLc_50.2.2.2.2.2.2.2.2.2.2.2.2.1
theorem dL_1145 : decode code 1145 = .ok (.iload_n 3, 1) := dLc_50.2.2.2.2.2.2.2.2.2.2.2.2.2.1
theorem dL_1146 : decode code 1146 = .ok (.iconst 1, 1) := dLc_50.2.2.2.2.2.2.2.2.2.2.2.2.2.2.1
theorem dL_1147 : decode code 1147 = .ok (.iadd, 1) := dLc_50.2.2.2.2.2.2.2.2.2.2.2.2.2.2.2
set_option maxRecDepth 20000 in
theorem xLc_51 : xd_w code 1148 [46, 42, 29, 5, 96, 46, 182, 0, 120, 87, 167, 1, 166, 43, 42, 29, 4, 96, 46, 42] := by unfold xd_w; decide +kernel
set_option maxRecDepth 20000 in
theorem dLc_51 : decode code 1148 = .ok (.iaload, 1) ∧ decode code 1149 = .ok (.aload_n 0, 1) ∧ decode code 1150 = .ok (.iload_n 3, 1) ∧ decode code 1151 = .ok (.iconst 2, 1) ∧ decode code 1152 = .ok (.iadd, 1) ∧ decode code 1153 = .ok (.iaload, 1) ∧ decode code 1154 = .ok (.invokevirtual 120, 3) ∧ decode code 1157 = .ok (.pop, 1) ∧ decode code 1158 = .ok (.goto 422, 3) ∧ decode code 1161 = .ok (.aload_n 1, 1) ∧ decode code 1162 = .ok (.aload_n 0, 1) ∧ decode code 1163 = .ok (.iload_n 3, 1) ∧ decode code 1164 = .ok (.iconst 1, 1) ∧ decode code 1165 = .ok (.iadd, 1) ∧ decode code 1166 = .ok (.iaload, 1) ∧ decode code 1167 = .ok (.aload_n 0, 1) := ⟨xo_46 xLc_51 0 rfl, xo_42 xLc_51 1 rfl, xo_29 xLc_51 2 rfl, xo_5 xLc_51 3 rfl, xo_96 xLc_51 4 rfl, xo_46 xLc_51 5 rfl, xo_182 xLc_51 6 rfl rfl rfl rfl rfl rfl, xo_87 xLc_51 9 rfl, xo_167 xLc_51 10 rfl rfl rfl rfl rfl rfl, xo_43 xLc_51 13 rfl, xo_42 xLc_51 14 rfl, xo_29 xLc_51 15 rfl, xo_4 xLc_51 16 rfl, xo_96 xLc_51 17 rfl, xo_46 xLc_51 18 rfl, xo_42 xLc_51 19 rfl⟩
theorem dL_1148 : decode code 1148 = .ok (.iaload, 1) := dLc_51.1
theorem dL_1149 : decode code 1149 = .ok (.aload_n 0, 1) := dLc_51.2.1
theorem dL_1150 : decode code 1150 = .ok (.iload_n 3, 1) := dLc_51.2.2.1
theorem dL_1151 : decode code 1151 = .ok (.iconst 2, 1) := dLc_51.2.2.2.1
theorem dL_1152 : decode code 1152 = .ok (.iadd, 1) := dLc_51.2.2.2.2.1
theorem dL_1153 : decode code 1153 = .ok (.iaload, 1) := dLc_51.2.2.2.2.2.1
theorem dL_1154 : decode code 1154 = .ok (.invokevirtual 120, 3) := dLc_51.2.2.2.2.2.2.1
theorem dL_1157 : decode code 1157 = .ok (.pop, 1) := dLc_51.2.2.2.2.2.2.2.1
theorem dL_1158 : decode code 1158 = .ok (.goto 422, 3) := dLc_51.2.2.2.2.2.2.2.2.1
theorem dL_1161 : decode code 1161 = .ok (.aload_n 1, 1) := dLc_51.2.2.2.2.2.2.2.2.2.1
theorem dL_1162 : decode code 1162 = .ok (.aload_n 0, 1) := dLc_51.2.2.2.2.2.2.2.2.2.2.1
theorem dL_1163 : decode code 1163 = .ok (.iload_n 3, 1) := dLc_51.2.2.2.2.2.2.2.2.2.2.2.1
theorem dL_1164 : decode code 1164 = .ok (.iconst 1, 1) := dLc_51.2.2.2.2.2.2.2.2.2.2.2.2.1
theorem dL_1165 : decode code 1165 = .ok (.iadd, 1) := dLc_51.2.2.2.2.2.2.2.2.2.2.2.2.2.1
theorem dL_1166 : decode code 1166 = .ok (.iaload, 1) := dLc_51.2.2.2.2.2.2.2.2.2.2.2.2.2.2.1
theorem dL_1167 : decode code 1167 = .ok (.aload_n 0, 1) := dLc_51.2.2.2.2.2.2.2.2.2.2.2.2.2.2.2
set_option maxRecDepth 20000 in
theorem xLc_52 : xd_w code 1168 [29, 5, 96, 46, 42, 29, 6, 96, 46, 42, 29, 7, 96, 46, 182, 0, 121, 87] := by unfold xd_w; decide +kernel
set_option maxRecDepth 20000 in
theorem dLc_52 : decode code 1168 = .ok (.iload_n 3, 1) ∧ decode code 1169 = .ok (.iconst 2, 1) ∧ decode code 1170 = .ok (.iadd, 1) ∧ decode code 1171 = .ok (.iaload, 1) ∧ decode code 1172 = .ok (.aload_n 0, 1) ∧ decode code 1173 = .ok (.iload_n 3, 1) ∧ decode code 1174 = .ok (.iconst 3, 1) ∧ decode code 1175 = .ok (.iadd, 1) ∧ decode code 1176 = .ok (.iaload, 1) ∧ decode code 1177 = .ok (.aload_n 0, 1) ∧ decode code 1178 = .ok (.iload_n 3, 1) ∧ decode code 1179 = .ok (.iconst 4, 1) ∧ decode code 1180 = .ok (.iadd, 1) ∧ decode code 1181 = .ok (.iaload, 1) ∧ decode code 1182 = .ok (.invokevirtual 121, 3) ∧ decode code 1185 = .ok (.pop, 1) := ⟨xo_29 xLc_52 0 rfl, xo_5 xLc_52 1 rfl, xo_96 xLc_52 2 rfl, xo_46 xLc_52 3 rfl, xo_42 xLc_52 4 rfl, xo_29 xLc_52 5 rfl, xo_6 xLc_52 6 rfl, xo_96 xLc_52 7 rfl, xo_46 xLc_52 8 rfl, xo_42 xLc_52 9 rfl, xo_29 xLc_52 10 rfl, xo_7 xLc_52 11 rfl, xo_96 xLc_52 12 rfl, xo_46 xLc_52 13 rfl, xo_182 xLc_52 14 rfl rfl rfl rfl rfl rfl, xo_87 xLc_52 17 rfl⟩
theorem dL_1168 : decode code 1168 = .ok (.iload_n 3, 1) := dLc_52.1
theorem dL_1169 : decode code 1169 = .ok (.iconst 2, 1) := dLc_52.2.1
theorem dL_1170 : decode code 1170 = .ok (.iadd, 1) := dLc_52.2.2.1
theorem dL_1171 : decode code 1171 = .ok (.iaload, 1) := dLc_52.2.2.2.1
theorem dL_1172 : decode code 1172 = .ok (.aload_n 0, 1) := dLc_52.2.2.2.2.1
theorem dL_1173 : decode code 1173 = .ok (.iload_n 3, 1) := dLc_52.2.2.2.2.2.1
theorem dL_1174 : decode code 1174 = .ok (.iconst 3, 1) := dLc_52.2.2.2.2.2.2.1
theorem dL_1175 : decode code 1175 = .ok (.iadd, 1) := dLc_52.2.2.2.2.2.2.2.1
theorem dL_1176 : decode code 1176 = .ok (.iaload, 1) := dLc_52.2.2.2.2.2.2.2.2.1
theorem dL_1177 : decode code 1177 = .ok (.aload_n 0, 1) := dLc_52.2.2.2.2.2.2.2.2.2.1
theorem dL_1178 : decode code 1178 = .ok (.iload_n 3, 1) := dLc_52.2.2.2.2.2.2.2.2.2.2.1
theorem dL_1179 : decode code 1179 = .ok (.iconst 4, 1) := dLc_52.2.2.2.2.2.2.2.2.2.2.2.1
theorem dL_1180 : decode code 1180 = .ok (.iadd, 1) := dLc_52.2.2.2.2.2.2.2.2.2.2.2.2.1
theorem dL_1181 : decode code 1181 = .ok (.iaload, 1) := dLc_52.2.2.2.2.2.2.2.2.2.2.2.2.2.1
theorem dL_1182 : decode code 1182 = .ok (.invokevirtual 121, 3) := dLc_52.2.2.2.2.2.2.2.2.2.2.2.2.2.2.1
theorem dL_1185 : decode code 1185 = .ok (.pop, 1) := dLc_52.2.2.2.2.2.2.2.2.2.2.2.2.2.2.2
set_option maxRecDepth 20000 in
theorem xLc_53 : xd_w code 1186 [44, 42, 29, 4, 96, 46, 42, 29, 5, 96, 46, 42, 29, 6, 96, 46] := by unfold xd_w; decide +kernel
set_option maxRecDepth 20000 in
theorem dLc_53 : decode code 1186 = .ok (.aload_n 2, 1) ∧ decode code 1187 = .ok (.aload_n 0, 1) ∧ decode code 1188 = .ok (.iload_n 3, 1) ∧ decode code 1189 = .ok (.iconst 1, 1) ∧ decode code 1190 = .ok (.iadd, 1) ∧ decode code 1191 = .ok (.iaload, 1) ∧ decode code 1192 = .ok (.aload_n 0, 1) ∧ decode code 1193 = .ok (.iload_n 3, 1) ∧ decode code 1194 = .ok (.iconst 2, 1) ∧ decode code 1195 = .ok (.iadd, 1) ∧ decode code 1196 = .ok (.iaload, 1) ∧ decode code 1197 = .ok (.aload_n 0, 1) ∧ decode code 1198 = .ok (.iload_n 3, 1) ∧ decode code 1199 = .ok (.iconst 3, 1) ∧ decode code 1200 = .ok (.iadd, 1) ∧ decode code 1201 = .ok (.iaload, 1) := ⟨xo_44 xLc_53 0 rfl, xo_42 xLc_53 1 rfl, xo_29 xLc_53 2 rfl, xo_4 xLc_53 3 rfl, xo_96 xLc_53 4 rfl, xo_46 xLc_53 5 rfl, xo_42 xLc_53 6 rfl, xo_29 xLc_53 7 rfl, xo_5 xLc_53 8 rfl, xo_96 xLc_53 9 rfl, xo_46 xLc_53 10 rfl, xo_42 xLc_53 11 rfl, xo_29 xLc_53 12 rfl, xo_6 xLc_53 13 rfl, xo_96 xLc_53 14 rfl, xo_46 xLc_53 15 rfl⟩
theorem dL_1186 : decode code 1186 = .ok (.aload_n 2, 1) := dLc_53.1
theorem dL_1187 : decode code 1187 = .ok (.aload_n 0, 1) := dLc_53.2.1
theorem dL_1188 : decode code 1188 = .ok (.iload_n 3, 1) := dLc_53.2.2.1
theorem dL_1189 : decode code 1189 = .ok (.iconst 1, 1) := dLc_53.2.2.2.1
theorem dL_1190 : decode code 1190 = .ok (.iadd, 1) := dLc_53.2.2.2.2.1
theorem dL_1191 : decode code 1191 = .ok (.iaload, 1) := dLc_53.2.2.2.2.2.1
theorem dL_1192 : decode code 1192 = .ok (.aload_n 0, 1) := dLc_53.2.2.2.2.2.2.1
theorem dL_1193 : decode code 1193 = .ok (.iload_n 3, 1) := dLc_53.2.2.2.2.2.2.2.1
theorem dL_1194 : decode code 1194 = .ok (.iconst 2, 1) := dLc_53.2.2.2.2.2.2.2.2.1
theorem dL_1195 : decode code 1195 = .ok (.iadd, 1) := dLc_53.2.2.2.2.2.2.2.2.2.1
theorem dL_1196 : decode code 1196 = .ok (.iaload, 1) := dLc_53.2.2.2.2.2.2.2.2.2.2.1
theorem dL_1197 : decode code 1197 = .ok (.aload_n 0, 1) := dLc_53.2.2.2.2.2.2.2.2.2.2.2.1
theorem dL_1198 : decode code 1198 = .ok (.iload_n 3, 1) := dLc_53.2.2.2.2.2.2.2.2.2.2.2.2.1
theorem dL_1199 : decode code 1199 = .ok (.iconst 3, 1) := dLc_53.2.2.2.2.2.2.2.2.2.2.2.2.2.1
theorem dL_1200 : decode code 1200 = .ok (.iadd, 1) := dLc_53.2.2.2.2.2.2.2.2.2.2.2.2.2.2.1
theorem dL_1201 : decode code 1201 = .ok (.iaload, 1) := dLc_53.2.2.2.2.2.2.2.2.2.2.2.2.2.2.2
set_option maxRecDepth 20000 in
theorem xLc_54 : xd_w code 1202 [42, 29, 7, 96, 46, 182, 0, 124, 87, 167, 1, 113, 43, 42, 29, 4, 96, 46, 42, 29] := by unfold xd_w; decide +kernel
set_option maxRecDepth 20000 in
theorem dLc_54 : decode code 1202 = .ok (.aload_n 0, 1) ∧ decode code 1203 = .ok (.iload_n 3, 1) ∧ decode code 1204 = .ok (.iconst 4, 1) ∧ decode code 1205 = .ok (.iadd, 1) ∧ decode code 1206 = .ok (.iaload, 1) ∧ decode code 1207 = .ok (.invokevirtual 124, 3) ∧ decode code 1210 = .ok (.pop, 1) ∧ decode code 1211 = .ok (.goto 369, 3) ∧ decode code 1214 = .ok (.aload_n 1, 1) ∧ decode code 1215 = .ok (.aload_n 0, 1) ∧ decode code 1216 = .ok (.iload_n 3, 1) ∧ decode code 1217 = .ok (.iconst 1, 1) ∧ decode code 1218 = .ok (.iadd, 1) ∧ decode code 1219 = .ok (.iaload, 1) ∧ decode code 1220 = .ok (.aload_n 0, 1) ∧ decode code 1221 = .ok (.iload_n 3, 1) := ⟨xo_42 xLc_54 0 rfl, xo_29 xLc_54 1 rfl, xo_7 xLc_54 2 rfl, xo_96 xLc_54 3 rfl, xo_46 xLc_54 4 rfl, xo_182 xLc_54 5 rfl rfl rfl rfl rfl rfl, xo_87 xLc_54 8 rfl, xo_167 xLc_54 9 rfl rfl rfl rfl rfl rfl, xo_43 xLc_54 12 rfl, xo_42 xLc_54 13 rfl, xo_29 xLc_54 14 rfl, xo_4 xLc_54 15 rfl, xo_96 xLc_54 16 rfl, xo_46 xLc_54 17 rfl, xo_42 xLc_54 18 rfl, xo_29 xLc_54 19 rfl⟩
theorem dL_1202 : decode code 1202 = .ok (.aload_n 0, 1) := dLc_54.1
theorem dL_1203 : decode code 1203 = .ok (.iload_n 3, 1) := dLc_54.2.1
theorem dL_1204 : decode code 1204 = .ok (.iconst 4, 1) := dLc_54.2.2.1
theorem dL_1205 : decode code 1205 = .ok (.iadd, 1) := dLc_54.2.2.2.1
theorem dL_1206 : decode code 1206 = .ok (.iaload, 1) := dLc_54.2.2.2.2.1
theorem dL_1207 : decode code 1207 = .ok (.invokevirtual 124, 3) := dLc_54.2.2.2.2.2.1
theorem dL_1210 : decode code 1210 = .ok (.pop, 1) := dLc_54.2.2.2.2.2.2.1
theorem dL_1211 : decode code 1211 = .ok (.goto 369, 3) := dLc_54.2.2.2.2.2.2.2.1
theorem dL_1214 : decode code 1214 = .ok (.aload_n 1, 1) := dLc_54.2.2.2.2.2.2.2.2.1
theorem dL_1215 : decode code 1215 = .ok (.aload_n 0, 1) := dLc_54.2.2.2.2.2.2.2.2.2.1
theorem dL_1216 : decode code 1216 = .ok (.iload_n 3, 1) := dLc_54.2.2.2.2.2.2.2.2.2.2.1
theorem dL_1217 : decode code 1217 = .ok (.iconst 1, 1) := dLc_54.2.2.2.2.2.2.2.2.2.2.2.1
theorem dL_1218 : decode code 1218 = .ok (.iadd, 1) := dLc_54.2.2.2.2.2.2.2.2.2.2.2.2.1
theorem dL_1219 : decode code 1219 = .ok (.iaload, 1) := dLc_54.2.2.2.2.2.2.2.2.2.2.2.2.2.1
theorem dL_1220 : decode code 1220 = .ok (.aload_n 0, 1) := dLc_54.2.2.2.2.2.2.2.2.2.2.2.2.2.2.1
theorem dL_1221 : decode code 1221 = .ok (.iload_n 3, 1) := dLc_54.2.2.2.2.2.2.2.2.2.2.2.2.2.2.2
set_option maxRecDepth 20000 in
theorem xLc_55 : xd_w code 1222 [5, 96, 46, 182, 0, 125, 87, 44, 42, 29, 4, 96, 46, 42, 29, 5, 96, 46] := by unfold xd_w; decide +kernel
set_option maxRecDepth 20000 in
theorem dLc_55 : decode code 1222 = .ok (.iconst 2, 1) ∧ decode code 1223 = .ok (.iadd, 1) ∧ decode code 1224 = .ok (.iaload, 1) ∧ decode code 1225 = .ok (.invokevirtual 125, 3) ∧ decode code 1228 = .ok (.pop, 1) ∧ decode code 1229 = .ok (.aload_n 2, 1) ∧ decode code 1230 = .ok (.aload_n 0, 1) ∧ decode code 1231 = .ok (.iload_n 3, 1) ∧ decode code 1232 = .ok (.iconst 1, 1) ∧ decode code 1233 = .ok (.iadd, 1) ∧ decode code 1234 = .ok (.iaload, 1) ∧ decode code 1235 = .ok (.aload_n 0, 1) ∧ decode code 1236 = .ok (.iload_n 3, 1) ∧ decode code 1237 = .ok (.iconst 2, 1) ∧ decode code 1238 = .ok (.iadd, 1) ∧ decode code 1239 = .ok (.iaload, 1) := ⟨xo_5 xLc_55 0 rfl, xo_96 xLc_55 1 rfl, xo_46 xLc_55 2 rfl, xo_182 xLc_55 3 rfl rfl rfl rfl rfl rfl, xo_87 xLc_55 6 rfl, xo_44 xLc_55 7 rfl, xo_42 xLc_55 8 rfl, xo_29 xLc_55 9 rfl, xo_4 xLc_55 10 rfl, xo_96 xLc_55 11 rfl, xo_46 xLc_55 12 rfl, xo_42 xLc_55 13 rfl, xo_29 xLc_55 14 rfl, xo_5 xLc_55 15 rfl, xo_96 xLc_55 16 rfl, xo_46 xLc_55 17 rfl⟩
theorem dL_1222 : decode code 1222 = .ok (.iconst 2, 1) := dLc_55.1
theorem dL_1223 : decode code 1223 = .ok (.iadd, 1) := dLc_55.2.1
theorem dL_1224 : decode code 1224 = .ok (.iaload, 1) := dLc_55.2.2.1
theorem dL_1225 : decode code 1225 = .ok (.invokevirtual 125, 3) := dLc_55.2.2.2.1
theorem dL_1228 : decode code 1228 = .ok (.pop, 1) := dLc_55.2.2.2.2.1
theorem dL_1229 : decode code 1229 = .ok (.aload_n 2, 1) := dLc_55.2.2.2.2.2.1
theorem dL_1230 : decode code 1230 = .ok (.aload_n 0, 1) := dLc_55.2.2.2.2.2.2.1
theorem dL_1231 : decode code 1231 = .ok (.iload_n 3, 1) := dLc_55.2.2.2.2.2.2.2.1
theorem dL_1232 : decode code 1232 = .ok (.iconst 1, 1) := dLc_55.2.2.2.2.2.2.2.2.1
theorem dL_1233 : decode code 1233 = .ok (.iadd, 1) := dLc_55.2.2.2.2.2.2.2.2.2.1
theorem dL_1234 : decode code 1234 = .ok (.iaload, 1) := dLc_55.2.2.2.2.2.2.2.2.2.2.1
theorem dL_1235 : decode code 1235 = .ok (.aload_n 0, 1) := dLc_55.2.2.2.2.2.2.2.2.2.2.2.1
theorem dL_1236 : decode code 1236 = .ok (.iload_n 3, 1) := dLc_55.2.2.2.2.2.2.2.2.2.2.2.2.1
theorem dL_1237 : decode code 1237 = .ok (.iconst 2, 1) := dLc_55.2.2.2.2.2.2.2.2.2.2.2.2.2.1
theorem dL_1238 : decode code 1238 = .ok (.iadd, 1) := dLc_55.2.2.2.2.2.2.2.2.2.2.2.2.2.2.1
theorem dL_1239 : decode code 1239 = .ok (.iaload, 1) := dLc_55.2.2.2.2.2.2.2.2.2.2.2.2.2.2.2
set_option maxRecDepth 20000 in
theorem xLc_56 : xd_w code 1240 [182, 0, 128, 87, 167, 1, 80, 43, 42, 29, 4, 96, 46, 42, 29, 5, 96, 46, 42, 29] := by unfold xd_w; decide +kernel
set_option maxRecDepth 20000 in
theorem dLc_56 : decode code 1240 = .ok (.invokevirtual 128, 3) ∧ decode code 1243 = .ok (.pop, 1) ∧ decode code 1244 = .ok (.goto 336, 3) ∧ decode code 1247 = .ok (.aload_n 1, 1) ∧ decode code 1248 = .ok (.aload_n 0, 1) ∧ decode code 1249 = .ok (.iload_n 3, 1) ∧ decode code 1250 = .ok (.iconst 1, 1) ∧ decode code 1251 = .ok (.iadd, 1) ∧ decode code 1252 = .ok (.iaload, 1) ∧ decode code 1253 = .ok (.aload_n 0, 1) ∧ decode code 1254 = .ok (.iload_n 3, 1) ∧ decode code 1255 = .ok (.iconst 2, 1) ∧ decode code 1256 = .ok (.iadd, 1) ∧ decode code 1257 = .ok (.iaload, 1) ∧ decode code 1258 = .ok (.aload_n 0, 1) ∧ decode code 1259 = .ok (.iload_n 3, 1) := ⟨xo_182 xLc_56 0 rfl rfl rfl rfl rfl rfl, xo_87 xLc_56 3 rfl, xo_167 xLc_56 4 rfl rfl rfl rfl rfl rfl, xo_43 xLc_56 7 rfl, xo_42 xLc_56 8 rfl, xo_29 xLc_56 9 rfl, xo_4 xLc_56 10 rfl, xo_96 xLc_56 11 rfl, xo_46 xLc_56 12 rfl, xo_42 xLc_56 13 rfl, xo_29 xLc_56 14 rfl, xo_5 xLc_56 15 rfl, xo_96 xLc_56 16 rfl, xo_46 xLc_56 17 rfl, xo_42 xLc_56 18 rfl, xo_29 xLc_56 19 rfl⟩
theorem dL_1240 : decode code 1240 = .ok (.invokevirtual 128, 3) := dLc_56.1
theorem dL_1243 : decode code 1243 = .ok (.pop, 1) := dLc_56.2.1
theorem dL_1244 : decode code 1244 = .ok (.goto 336, 3) := dLc_56.2.2.1
theorem dL_1247 : decode code 1247 = .ok (.aload_n 1, 1) := dLc_56.2.2.2.1
theorem dL_1248 : decode code 1248 = .ok (.aload_n 0, 1) := dLc_56.2.2.2.2.1
theorem dL_1249 : decode code 1249 = .ok (.iload_n 3, 1) := dLc_56.2.2.2.2.2.1
theorem dL_1250 : decode code 1250 = .ok (.iconst 1, 1) := dLc_56.2.2.2.2.2.2.1
theorem dL_1251 : decode code 1251 = .ok (.iadd, 1) := dLc_56.2.2.2.2.2.2.2.1
theorem dL_1252 : decode code 1252 = .ok (.iaload, 1) := dLc_56.2.2.2.2.2.2.2.2.1
theorem dL_1253 : decode code 1253 = .ok (.aload_n 0, 1) := dLc_56.2.2.2.2.2.2.2.2.2.1
theorem dL_1254 : decode code 1254 = .ok (.iload_n 3, 1) := dLc_56.2.2.2.2.2.2.2.2.2.2.1
theorem dL_1255 : decode code 1255 = .ok (.iconst 2, 1) := dLc_56.2.2.2.2.2.2.2.2.2.2.2.1
theorem dL_1256 : decode code 1256 = .ok (.iadd, 1) := dLc_56.2.2.2.2.2.2.2.2.2.2.2.2.1
theorem dL_1257 : decode code 1257 = .ok (.iaload, 1) := dLc_56.2.2.2.2.2.2.2.2.2.2.2.2.2.1
theorem dL_1258 : decode code 1258 = .ok (.aload_n 0, 1) := dLc_56.2.2.2.2.2.2.2.2.2.2.2.2.2.2.1
theorem dL_1259 : decode code 1259 = .ok (.iload_n 3, 1) := dLc_56.2.2.2.2.2.2.2.2.2.2.2.2.2.2.2
set_option maxRecDepth 20000 in
theorem xLc_57 : xd_w code 1260 [6, 96, 46, 182, 0, 129, 88, 44, 42, 29, 4, 96, 46, 42, 29, 5, 96, 46] := by unfold xd_w; decide +kernel
set_option maxRecDepth 20000 in
theorem dLc_57 : decode code 1260 = .ok (.iconst 3, 1) ∧ decode code 1261 = .ok (.iadd, 1) ∧ decode code 1262 = .ok (.iaload, 1) ∧ decode code 1263 = .ok (.invokevirtual 129, 3) ∧ decode code 1266 = .ok (.pop2, 1) ∧ decode code 1267 = .ok (.aload_n 2, 1) ∧ decode code 1268 = .ok (.aload_n 0, 1) ∧ decode code 1269 = .ok (.iload_n 3, 1) ∧ decode code 1270 = .ok (.iconst 1, 1) ∧ decode code 1271 = .ok (.iadd, 1) ∧ decode code 1272 = .ok (.iaload, 1) ∧ decode code 1273 = .ok (.aload_n 0, 1) ∧ decode code 1274 = .ok (.iload_n 3, 1) ∧ decode code 1275 = .ok (.iconst 2, 1) ∧ decode code 1276 = .ok (.iadd, 1) ∧ decode code 1277 = .ok (.iaload, 1) := ⟨xo_6 xLc_57 0 rfl, xo_96 xLc_57 1 rfl, xo_46 xLc_57 2 rfl, xo_182 xLc_57 3 rfl rfl rfl rfl rfl rfl, xo_88 xLc_57 6 rfl, xo_44 xLc_57 7 rfl, xo_42 xLc_57 8 rfl, xo_29 xLc_57 9 rfl, xo_4 xLc_57 10 rfl, xo_96 xLc_57 11 rfl, xo_46 xLc_57 12 rfl, xo_42 xLc_57 13 rfl, xo_29 xLc_57 14 rfl, xo_5 xLc_57 15 rfl, xo_96 xLc_57 16 rfl, xo_46 xLc_57 17 rfl⟩
theorem dL_1260 : decode code 1260 = .ok (.iconst 3, 1) := dLc_57.1
theorem dL_1261 : decode code 1261 = .ok (.iadd, 1) := dLc_57.2.1
theorem dL_1262 : decode code 1262 = .ok (.iaload, 1) := dLc_57.2.2.1
theorem dL_1263 : decode code 1263 = .ok (.invokevirtual 129, 3) := dLc_57.2.2.2.1
theorem dL_1266 : decode code 1266 = .ok (.pop2, 1) := dLc_57.2.2.2.2.1
theorem dL_1267 : decode code 1267 = .ok (.aload_n 2, 1) := dLc_57.2.2.2.2.2.1
theorem dL_1268 : decode code 1268 = .ok (.aload_n 0, 1) := dLc_57.2.2.2.2.2.2.1
theorem dL_1269 : decode code 1269 = .ok (.iload_n 3, 1) := dLc_57.2.2.2.2.2.2.2.1
theorem dL_1270 : decode code 1270 = .ok (.iconst 1, 1) := dLc_57.2.2.2.2.2.2.2.2.1
theorem dL_1271 : decode code 1271 = .ok (.iadd, 1) := dLc_57.2.2.2.2.2.2.2.2.2.1
theorem dL_1272 : decode code 1272 = .ok (.iaload, 1) := dLc_57.2.2.2.2.2.2.2.2.2.2.1
theorem dL_1273 : decode code 1273 = .ok (.aload_n 0, 1) := dLc_57.2.2.2.2.2.2.2.2.2.2.2.1
theorem dL_1274 : decode code 1274 = .ok (.iload_n 3, 1) := dLc_57.2.2.2.2.2.2.2.2.2.2.2.2.1
theorem dL_1275 : decode code 1275 = .ok (.iconst 2, 1) := dLc_57.2.2.2.2.2.2.2.2.2.2.2.2.2.1
theorem dL_1276 : decode code 1276 = .ok (.iadd, 1) := dLc_57.2.2.2.2.2.2.2.2.2.2.2.2.2.2.1
theorem dL_1277 : decode code 1277 = .ok (.iaload, 1) := dLc_57.2.2.2.2.2.2.2.2.2.2.2.2.2.2.2
set_option maxRecDepth 20000 in
theorem xLc_58 : xd_w code 1278 [42, 29, 6, 96, 46, 182, 0, 133, 88, 167, 1, 37, 43, 42, 29, 4, 96, 46, 42, 29] := by unfold xd_w; decide +kernel
set_option maxRecDepth 20000 in
theorem dLc_58 : decode code 1278 = .ok (.aload_n 0, 1) ∧ decode code 1279 = .ok (.iload_n 3, 1) ∧ decode code 1280 = .ok (.iconst 3, 1) ∧ decode code 1281 = .ok (.iadd, 1) ∧ decode code 1282 = .ok (.iaload, 1) ∧ decode code 1283 = .ok (.invokevirtual 133, 3) ∧ decode code 1286 = .ok (.pop2, 1) ∧ decode code 1287 = .ok (.goto 293, 3) ∧ decode code 1290 = .ok (.aload_n 1, 1) ∧ decode code 1291 = .ok (.aload_n 0, 1) ∧ decode code 1292 = .ok (.iload_n 3, 1) ∧ decode code 1293 = .ok (.iconst 1, 1) ∧ decode code 1294 = .ok (.iadd, 1) ∧ decode code 1295 = .ok (.iaload, 1) ∧ decode code 1296 = .ok (.aload_n 0, 1) ∧ decode code 1297 = .ok (.iload_n 3, 1) := ⟨xo_42 xLc_58 0 rfl, xo_29 xLc_58 1 rfl, xo_6 xLc_58 2 rfl, xo_96 xLc_58 3 rfl, xo_46 xLc_58 4 rfl, xo_182 xLc_58 5 rfl rfl rfl rfl rfl rfl, xo_88 xLc_58 8 rfl, xo_167 xLc_58 9 rfl rfl rfl rfl rfl rfl, xo_43 xLc_58 12 rfl, xo_42 xLc_58 13 rfl, xo_29 xLc_58 14 rfl, xo_4 xLc_58 15 rfl, xo_96 xLc_58 16 rfl, xo_46 xLc_58 17 rfl, xo_42 xLc_58 18 rfl, xo_29 xLc_58 19 rfl⟩
theorem dL_1278 : decode code 1278 = .ok (.aload_n 0, 1) := dLc_58.1
theorem dL_1279 : decode code 1279 = .ok (.iload_n 3, 1) := dLc_58.2.1
theorem dL_1280 : decode code 1280 = .ok (.iconst 3, 1) := dLc_58.2.2.1
theorem dL_1281 : decode code 1281 = .ok (.iadd, 1) := dLc_58.2.2.2.1
theorem dL_1282 : decode code 1282 = .ok (.iaload, 1) := dLc_58.2.2.2.2.1
theorem dL_1283 : decode code 1283 = .ok (.invokevirtual 133, 3) := dLc_58.2.2.2.2.2.1
theorem dL_1286 : decode code 1286 = .ok (.pop2, 1) := dLc_58.2.2.2.2.2.2.1
theorem dL_1287 : decode code 1287 = .ok (.goto 293, 3) := dLc_58.2.2.2.2.2.2.2.1
theorem dL_1290 : decode code 1290 = .ok (.aload_n 1, 1) := dLc_58.2.2.2.2.2.2.2.2.1
theorem dL_1291 : decode code 1291 = .ok (.aload_n 0, 1) := dLc_58.2.2.2.2.2.2.2.2.2.1
theorem dL_1292 : decode code 1292 = .ok (.iload_n 3, 1) := dLc_58.2.2.2.2.2.2.2.2.2.2.1
theorem dL_1293 : decode code 1293 = .ok (.iconst 1, 1) := dLc_58.2.2.2.2.2.2.2.2.2.2.2.1
theorem dL_1294 : decode code 1294 = .ok (.iadd, 1) := dLc_58.2.2.2.2.2.2.2.2.2.2.2.2.1
theorem dL_1295 : decode code 1295 = .ok (.iaload, 1) := dLc_58.2.2.2.2.2.2.2.2.2.2.2.2.2.1
theorem dL_1296 : decode code 1296 = .ok (.aload_n 0, 1) := dLc_58.2.2.2.2.2.2.2.2.2.2.2.2.2.2.1
theorem dL_1297 : decode code 1297 = .ok (.iload_n 3, 1) := dLc_58.2.2.2.2.2.2.2.2.2.2.2.2.2.2.2
set_option maxRecDepth 20000 in
theorem xLc_59 : xd_w code 1298 [5, 96, 46, 182, 0, 134, 87, 44, 42, 29, 4, 96, 46, 42, 29, 5, 96, 46] := by unfold xd_w; decide +kernel
set_option maxRecDepth 20000 in
theorem dLc_59 : decode code 1298 = .ok (.iconst 2, 1) ∧ decode code 1299 = .ok (.iadd, 1) ∧ decode code 1300 = .ok (.iaload, 1) ∧ decode code 1301 = .ok (.invokevirtual 134, 3) ∧ decode code 1304 = .ok (.pop, 1) ∧ decode code 1305 = .ok (.aload_n 2, 1) ∧ decode code 1306 = .ok (.aload_n 0, 1) ∧ decode code 1307 = .ok (.iload_n 3, 1) ∧ decode code 1308 = .ok (.iconst 1, 1) ∧ decode code 1309 = .ok (.iadd, 1) ∧ decode code 1310 = .ok (.iaload, 1) ∧ decode code 1311 = .ok (.aload_n 0, 1) ∧ decode code 1312 = .ok (.iload_n 3, 1) ∧ decode code 1313 = .ok (.iconst 2, 1) ∧ decode code 1314 = .ok (.iadd, 1) ∧ decode code 1315 = .ok (.iaload, 1) := ⟨xo_5 xLc_59 0 rfl, xo_96 xLc_59 1 rfl, xo_46 xLc_59 2 rfl, xo_182 xLc_59 3 rfl rfl rfl rfl rfl rfl, xo_87 xLc_59 6 rfl, xo_44 xLc_59 7 rfl, xo_42 xLc_59 8 rfl, xo_29 xLc_59 9 rfl, xo_4 xLc_59 10 rfl, xo_96 xLc_59 11 rfl, xo_46 xLc_59 12 rfl, xo_42 xLc_59 13 rfl, xo_29 xLc_59 14 rfl, xo_5 xLc_59 15 rfl, xo_96 xLc_59 16 rfl, xo_46 xLc_59 17 rfl⟩
theorem dL_1298 : decode code 1298 = .ok (.iconst 2, 1) := dLc_59.1
theorem dL_1299 : decode code 1299 = .ok (.iadd, 1) := dLc_59.2.1
theorem dL_1300 : decode code 1300 = .ok (.iaload, 1) := dLc_59.2.2.1
theorem dL_1301 : decode code 1301 = .ok (.invokevirtual 134, 3) := dLc_59.2.2.2.1
theorem dL_1304 : decode code 1304 = .ok (.pop, 1) := dLc_59.2.2.2.2.1
theorem dL_1305 : decode code 1305 = .ok (.aload_n 2, 1) := dLc_59.2.2.2.2.2.1
theorem dL_1306 : decode code 1306 = .ok (.aload_n 0, 1) := dLc_59.2.2.2.2.2.2.1
theorem dL_1307 : decode code 1307 = .ok (.iload_n 3, 1) := dLc_59.2.2.2.2.2.2.2.1
theorem dL_1308 : decode code 1308 = .ok (.iconst 1, 1) := dLc_59.2.2.2.2.2.2.2.2.1
theorem dL_1309 : decode code 1309 = .ok (.iadd, 1) := dLc_59.2.2.2.2.2.2.2.2.2.1
theorem dL_1310 : decode code 1310 = .ok (.iaload, 1) := dLc_59.2.2.2.2.2.2.2.2.2.2.1
theorem dL_1311 : decode code 1311 = .ok (.aload_n 0, 1) := dLc_59.2.2.2.2.2.2.2.2.2.2.2.1
theorem dL_1312 : decode code 1312 = .ok (.iload_n 3, 1) := dLc_59.2.2.2.2.2.2.2.2.2.2.2.2.1
theorem dL_1313 : decode code 1313 = .ok (.iconst 2, 1) := dLc_59.2.2.2.2.2.2.2.2.2.2.2.2.2.1
theorem dL_1314 : decode code 1314 = .ok (.iadd, 1) := dLc_59.2.2.2.2.2.2.2.2.2.2.2.2.2.2.1
theorem dL_1315 : decode code 1315 = .ok (.iaload, 1) := dLc_59.2.2.2.2.2.2.2.2.2.2.2.2.2.2.2
set_option maxRecDepth 20000 in
theorem xLc_60 : xd_w code 1316 [182, 0, 137, 87, 167, 1, 4, 43, 42, 29, 4, 96, 46, 42, 29, 5, 96, 46, 42, 29] := by unfold xd_w; decide +kernel
set_option maxRecDepth 20000 in
theorem dLc_60 : decode code 1316 = .ok (.invokevirtual 137, 3) ∧ decode code 1319 = .ok (.pop, 1) ∧ decode code 1320 = .ok (.goto 260, 3) ∧ decode code 1323 = .ok (.aload_n 1, 1) ∧ decode code 1324 = .ok (.aload_n 0, 1) ∧ decode code 1325 = .ok (.iload_n 3, 1) ∧ decode code 1326 = .ok (.iconst 1, 1) ∧ decode code 1327 = .ok (.iadd, 1) ∧ decode code 1328 = .ok (.iaload, 1) ∧ decode code 1329 = .ok (.aload_n 0, 1) ∧ decode code 1330 = .ok (.iload_n 3, 1) ∧ decode code 1331 = .ok (.iconst 2, 1) ∧ decode code 1332 = .ok (.iadd, 1) ∧ decode code 1333 = .ok (.iaload, 1) ∧ decode code 1334 = .ok (.aload_n 0, 1) ∧ decode code 1335 = .ok (.iload_n 3, 1) := ⟨xo_182 xLc_60 0 rfl rfl rfl rfl rfl rfl, xo_87 xLc_60 3 rfl, xo_167 xLc_60 4 rfl rfl rfl rfl rfl rfl, xo_43 xLc_60 7 rfl, xo_42 xLc_60 8 rfl, xo_29 xLc_60 9 rfl, xo_4 xLc_60 10 rfl, xo_96 xLc_60 11 rfl, xo_46 xLc_60 12 rfl, xo_42 xLc_60 13 rfl, xo_29 xLc_60 14 rfl, xo_5 xLc_60 15 rfl, xo_96 xLc_60 16 rfl, xo_46 xLc_60 17 rfl, xo_42 xLc_60 18 rfl, xo_29 xLc_60 19 rfl⟩
theorem dL_1316 : decode code 1316 = .ok (.invokevirtual 137, 3) := dLc_60.1
theorem dL_1319 : decode code 1319 = .ok (.pop, 1) := dLc_60.2.1
theorem dL_1320 : decode code 1320 = .ok (.goto 260, 3) := dLc_60.2.2.1
theorem dL_1323 : decode code 1323 = .ok (.aload_n 1, 1) := dLc_60.2.2.2.1
theorem dL_1324 : decode code 1324 = .ok (.aload_n 0, 1) := dLc_60.2.2.2.2.1
theorem dL_1325 : decode code 1325 = .ok (.iload_n 3, 1) := dLc_60.2.2.2.2.2.1
theorem dL_1326 : decode code 1326 = .ok (.iconst 1, 1) := dLc_60.2.2.2.2.2.2.1
theorem dL_1327 : decode code 1327 = .ok (.iadd, 1) := dLc_60.2.2.2.2.2.2.2.1
theorem dL_1328 : decode code 1328 = .ok (.iaload, 1) := dLc_60.2.2.2.2.2.2.2.2.1
theorem dL_1329 : decode code 1329 = .ok (.aload_n 0, 1) := dLc_60.2.2.2.2.2.2.2.2.2.1
theorem dL_1330 : decode code 1330 = .ok (.iload_n 3, 1) := dLc_60.2.2.2.2.2.2.2.2.2.2.1
theorem dL_1331 : decode code 1331 = .ok (.iconst 2, 1) := dLc_60.2.2.2.2.2.2.2.2.2.2.2.1
theorem dL_1332 : decode code 1332 = .ok (.iadd, 1) := dLc_60.2.2.2.2.2.2.2.2.2.2.2.2.1
theorem dL_1333 : decode code 1333 = .ok (.iaload, 1) := dLc_60.2.2.2.2.2.2.2.2.2.2.2.2.2.1
theorem dL_1334 : decode code 1334 = .ok (.aload_n 0, 1) := dLc_60.2.2.2.2.2.2.2.2.2.2.2.2.2.2.1
theorem dL_1335 : decode code 1335 = .ok (.iload_n 3, 1) := dLc_60.2.2.2.2.2.2.2.2.2.2.2.2.2.2.2
set_option maxRecDepth 20000 in
theorem xLc_61 : xd_w code 1336 [6, 96, 46, 42, 29, 7, 96, 46, 182, 0, 138, 44, 42, 29, 4, 96, 46, 42] := by unfold xd_w; decide +kernel
set_option maxRecDepth 20000 in
theorem dLc_61 : decode code 1336 = .ok (.iconst 3, 1) ∧ decode code 1337 = .ok (.iadd, 1) ∧ decode code 1338 = .ok (.iaload, 1) ∧ decode code 1339 = .ok (.aload_n 0, 1) ∧ decode code 1340 = .ok (.iload_n 3, 1) ∧ decode code 1341 = .ok (.iconst 4, 1) ∧ decode code 1342 = .ok (.iadd, 1) ∧ decode code 1343 = .ok (.iaload, 1) ∧ decode code 1344 = .ok (.invokevirtual 138, 3) ∧ decode code 1347 = .ok (.aload_n 2, 1) ∧ decode code 1348 = .ok (.aload_n 0, 1) ∧ decode code 1349 = .ok (.iload_n 3, 1) ∧ decode code 1350 = .ok (.iconst 1, 1) ∧ decode code 1351 = .ok (.iadd, 1) ∧ decode code 1352 = .ok (.iaload, 1) ∧ decode code 1353 = .ok (.aload_n 0, 1) := ⟨xo_6 xLc_61 0 rfl, xo_96 xLc_61 1 rfl, xo_46 xLc_61 2 rfl, xo_42 xLc_61 3 rfl, xo_29 xLc_61 4 rfl, xo_7 xLc_61 5 rfl, xo_96 xLc_61 6 rfl, xo_46 xLc_61 7 rfl, xo_182 xLc_61 8 rfl rfl rfl rfl rfl rfl, xo_44 xLc_61 11 rfl, xo_42 xLc_61 12 rfl, xo_29 xLc_61 13 rfl, xo_4 xLc_61 14 rfl, xo_96 xLc_61 15 rfl, xo_46 xLc_61 16 rfl, xo_42 xLc_61 17 rfl⟩
theorem dL_1336 : decode code 1336 = .ok (.iconst 3, 1) := dLc_61.1
theorem dL_1337 : decode code 1337 = .ok (.iadd, 1) := dLc_61.2.1
theorem dL_1338 : decode code 1338 = .ok (.iaload, 1) := dLc_61.2.2.1
theorem dL_1339 : decode code 1339 = .ok (.aload_n 0, 1) := dLc_61.2.2.2.1
theorem dL_1340 : decode code 1340 = .ok (.iload_n 3, 1) := dLc_61.2.2.2.2.1
theorem dL_1341 : decode code 1341 = .ok (.iconst 4, 1) := dLc_61.2.2.2.2.2.1
theorem dL_1342 : decode code 1342 = .ok (.iadd, 1) := dLc_61.2.2.2.2.2.2.1
theorem dL_1343 : decode code 1343 = .ok (.iaload, 1) := dLc_61.2.2.2.2.2.2.2.1
theorem dL_1344 : decode code 1344 = .ok (.invokevirtual 138, 3) := dLc_61.2.2.2.2.2.2.2.2.1
theorem dL_1347 : decode code 1347 = .ok (.aload_n 2, 1) := dLc_61.2.2.2.2.2.2.2.2.2.1
theorem dL_1348 : decode code 1348 = .ok (.aload_n 0, 1) := dLc_61.2.2.2.2.2.2.2.2.2.2.1
theorem dL_1349 : decode code 1349 = .ok (.iload_n 3, 1) := dLc_61.2.2.2.2.2.2.2.2.2.2.2.1
theorem dL_1350 : decode code 1350 = .ok (.iconst 1, 1) := dLc_61.2.2.2.2.2.2.2.2.2.2.2.2.1
theorem dL_1351 : decode code 1351 = .ok (.iadd, 1) := dLc_61.2.2.2.2.2.2.2.2.2.2.2.2.2.1
theorem dL_1352 : decode code 1352 = .ok (.iaload, 1) := dLc_61.2.2.2.2.2.2.2.2.2.2.2.2.2.2.1
theorem dL_1353 : decode code 1353 = .ok (.aload_n 0, 1) := dLc_61.2.2.2.2.2.2.2.2.2.2.2.2.2.2.2
set_option maxRecDepth 20000 in
theorem xLc_62 : xd_w code 1354 [29, 5, 96, 46, 42, 29, 6, 96, 46, 42, 29, 7, 96, 46, 182, 0, 141, 159, 0, 209] := by unfold xd_w; decide +kernel
set_option maxRecDepth 20000 in
theorem dLc_62 : decode code 1354 = .ok (.iload_n 3, 1) ∧ decode code 1355 = .ok (.iconst 2, 1) ∧ decode code 1356 = .ok (.iadd, 1) ∧ decode code 1357 = .ok (.iaload, 1) ∧ decode code 1358 = .ok (.aload_n 0, 1) ∧ decode code 1359 = .ok (.iload_n 3, 1) ∧ decode code 1360 = .ok (.iconst 3, 1) ∧ decode code 1361 = .ok (.iadd, 1) ∧ decode code 1362 = .ok (.iaload, 1) ∧ decode code 1363 = .ok (.aload_n 0, 1) ∧ decode code 1364 = .ok (.iload_n 3, 1) ∧ decode code 1365 = .ok (.iconst 4, 1) ∧ decode code 1366 = .ok (.iadd, 1) ∧ decode code 1367 = .ok (.iaload, 1) ∧ decode code 1368 = .ok (.invokevirtual 141, 3) ∧ decode code 1371 = .ok (.if_icmp .eq 209, 3) := ⟨xo_29 xLc_62 0 rfl, xo_5 xLc_62 1 rfl, xo_96 xLc_62 2 rfl, xo_46 xLc_62 3 rfl, xo_42 xLc_62 4 rfl, xo_29 xLc_62 5 rfl, xo_6 xLc_62 6 rfl, xo_96 xLc_62 7 rfl, xo_46 xLc_62 8 rfl, xo_42 xLc_62 9 rfl, xo_29 xLc_62 10 rfl, xo_7 xLc_62 11 rfl, xo_96 xLc_62 12 rfl, xo_46 xLc_62 13 rfl, xo_182 xLc_62 14 rfl rfl rfl rfl rfl rfl, xo_159 xLc_62 17 rfl rfl rfl rfl rfl rfl⟩
theorem dL_1354 : decode code 1354 = .ok (.iload_n 3, 1) := dLc_62.1
theorem dL_1355 : decode code 1355 = .ok (.iconst 2, 1) := dLc_62.2.1
theorem dL_1356 : decode code 1356 = .ok (.iadd, 1) := dLc_62.2.2.1
theorem dL_1357 : decode code 1357 = .ok (.iaload, 1) := dLc_62.2.2.2.1
theorem dL_1358 : decode code 1358 = .ok (.aload_n 0, 1) := dLc_62.2.2.2.2.1
theorem dL_1359 : decode code 1359 = .ok (.iload_n 3, 1) := dLc_62.2.2.2.2.2.1
theorem dL_1360 : decode code 1360 = .ok (.iconst 3, 1) := dLc_62.2.2.2.2.2.2.1
theorem dL_1361 : decode code 1361 = .ok (.iadd, 1) := dLc_62.2.2.2.2.2.2.2.1
theorem dL_1362 : decode code 1362 = .ok (.iaload, 1) := dLc_62.2.2.2.2.2.2.2.2.1
theorem dL_1363 : decode code 1363 = .ok (.aload_n 0, 1) := dLc_62.2.2.2.2.2.2.2.2.2.1
theorem dL_1364 : decode code 1364 = .ok (.iload_n 3, 1) := dLc_62.2.2.2.2.2.2.2.2.2.2.1
theorem dL_1365 : decode code 1365 = .ok (.iconst 4, 1) := dLc_62.2.2.2.2.2.2.2.2.2.2.2.1
theorem dL_1366 : decode code 1366 = .ok (.iadd, 1) := dLc_62.2.2.2.2.2.2.2.2.2.2.2.2.1
theorem dL_1367 : decode code 1367 = .ok (.iaload, 1) := dLc_62.2.2.2.2.2.2.2.2.2.2.2.2.2.1
theorem dL_1368 : decode code 1368 = .ok (.invokevirtual 141, 3) := dLc_62.2.2.2.2.2.2.2.2.2.2.2.2.2.2.1
theorem dL_1371 : decode code 1371 = .ok (.if_icmp .eq 209, 3) := dLc_62.2.2.2.2.2.2.2.2.2.2.2.2.2.2.2
set_option maxRecDepth 20000 in
theorem xLc_63 : xd_w code 1376 [43, 42, 29, 4, 96, 46, 42, 29, 5, 96, 46, 42, 29, 6, 96, 46] := by unfold xd_w; decide +kernel
set_option maxRecDepth 20000 in
theorem dLc_63 : decode code 1376 = .ok (.aload_n 1, 1) ∧ decode code 1377 = .ok (.aload_n 0, 1) ∧ decode code 1378 = .ok (.iload_n 3, 1) ∧ decode code 1379 = .ok (.iconst 1, 1) ∧ decode code 1380 = .ok (.iadd, 1) ∧ decode code 1381 = .ok (.iaload, 1) ∧ decode code 1382 = .ok (.aload_n 0, 1) ∧ decode code 1383 = .ok (.iload_n 3, 1) ∧ decode code 1384 = .ok (.iconst 2, 1) ∧ decode code 1385 = .ok (.iadd, 1) ∧ decode code 1386 = .ok (.iaload, 1) ∧ decode code 1387 = .ok (.aload_n 0, 1) ∧ decode code 1388 = .ok (.iload_n 3, 1) ∧ decode code 1389 = .ok (.iconst 3, 1) ∧ decode code 1390 = .ok (.iadd, 1) ∧ decode code 1391 = .ok (.iaload, 1) := ⟨xo_43 xLc_63 0 rfl, xo_42 xLc_63 1 rfl, xo_29 xLc_63 2 rfl, xo_4 xLc_63 3 rfl, xo_96 xLc_63 4 rfl, xo_46 xLc_63 5 rfl, xo_42 xLc_63 6 rfl, xo_29 xLc_63 7 rfl, xo_5 xLc_63 8 rfl, xo_96 xLc_63 9 rfl, xo_46 xLc_63 10 rfl, xo_42 xLc_63 11 rfl, xo_29 xLc_63 12 rfl, xo_6 xLc_63 13 rfl, xo_96 xLc_63 14 rfl, xo_46 xLc_63 15 rfl⟩
theorem dL_1376 : decode code 1376 = .ok (.aload_n 1, 1) := dLc_63.1
theorem dL_1377 : decode code 1377 = .ok (.aload_n 0, 1) := dLc_63.2.1
theorem dL_1378 : decode code 1378 = .ok (.iload_n 3, 1) := dLc_63.2.2.1
theorem dL_1379 : decode code 1379 = .ok (.iconst 1, 1) := dLc_63.2.2.2.1
theorem dL_1380 : decode code 1380 = .ok (.iadd, 1) := dLc_63.2.2.2.2.1
theorem dL_1381 : decode code 1381 = .ok (.iaload, 1) := dLc_63.2.2.2.2.2.1
theorem dL_1382 : decode code 1382 = .ok (.aload_n 0, 1) := dLc_63.2.2.2.2.2.2.1
theorem dL_1383 : decode code 1383 = .ok (.iload_n 3, 1) := dLc_63.2.2.2.2.2.2.2.1
theorem dL_1384 : decode code 1384 = .ok (.iconst 2, 1) := dLc_63.2.2.2.2.2.2.2.2.1
theorem dL_1385 : decode code 1385 = .ok (.iadd, 1) := dLc_63.2.2.2.2.2.2.2.2.2.1
theorem dL_1386 : decode code 1386 = .ok (.iaload, 1) := dLc_63.2.2.2.2.2.2.2.2.2.2.1
theorem dL_1387 : decode code 1387 = .ok (.aload_n 0, 1) := dLc_63.2.2.2.2.2.2.2.2.2.2.2.1
theorem dL_1388 : decode code 1388 = .ok (.iload_n 3, 1) := dLc_63.2.2.2.2.2.2.2.2.2.2.2.2.1
theorem dL_1389 : decode code 1389 = .ok (.iconst 3, 1) := dLc_63.2.2.2.2.2.2.2.2.2.2.2.2.2.1
theorem dL_1390 : decode code 1390 = .ok (.iadd, 1) := dLc_63.2.2.2.2.2.2.2.2.2.2.2.2.2.2.1
theorem dL_1391 : decode code 1391 = .ok (.iaload, 1) := dLc_63.2.2.2.2.2.2.2.2.2.2.2.2.2.2.2
set_option maxRecDepth 20000 in
theorem xLc_64 : xd_w code 1392 [182, 0, 142, 87, 44, 42, 29, 4, 96, 46, 42, 29, 5, 96, 46, 42, 29, 6] := by unfold xd_w; decide +kernel
set_option maxRecDepth 20000 in
theorem dLc_64 : decode code 1392 = .ok (.invokevirtual 142, 3) ∧ decode code 1395 = .ok (.pop, 1) ∧ decode code 1396 = .ok (.aload_n 2, 1) ∧ decode code 1397 = .ok (.aload_n 0, 1) ∧ decode code 1398 = .ok (.iload_n 3, 1) ∧ decode code 1399 = .ok (.iconst 1, 1) ∧ decode code 1400 = .ok (.iadd, 1) ∧ decode code 1401 = .ok (.iaload, 1) ∧ decode code 1402 = .ok (.aload_n 0, 1) ∧ decode code 1403 = .ok (.iload_n 3, 1) ∧ decode code 1404 = .ok (.iconst 2, 1) ∧ decode code 1405 = .ok (.iadd, 1) ∧ decode code 1406 = .ok (.iaload, 1) ∧ decode code 1407 = .ok (.aload_n 0, 1) ∧ decode code 1408 = .ok (.iload_n 3, 1) ∧ decode code 1409 = .ok (.iconst 3, 1) := ⟨xo_182 xLc_64 0 rfl rfl rfl rfl rfl rfl, xo_87 xLc_64 3 rfl, xo_44 xLc_64 4 rfl, xo_42 xLc_64 5 rfl, xo_29 xLc_64 6 rfl, xo_4 xLc_64 7 rfl, xo_96 xLc_64 8 rfl, xo_46 xLc_64 9 rfl, xo_42 xLc_64 10 rfl, xo_29 xLc_64 11 rfl, xo_5 xLc_64 12 rfl, xo_96 xLc_64 13 rfl, xo_46 xLc_64 14 rfl, xo_42 xLc_64 15 rfl, xo_29 xLc_64 16 rfl, xo_6 xLc_64 17 rfl⟩
theorem dL_1392 : decode code 1392 = .ok (.invokevirtual 142, 3) := dLc_64.1
theorem dL_1395 : decode code 1395 = .ok (.pop, 1) := dLc_64.2.1
theorem dL_1396 : decode code 1396 = .ok (.aload_n 2, 1) := dLc_64.2.2.1
theorem dL_1397 : decode code 1397 = .ok (.aload_n 0, 1) := dLc_64.2.2.2.1
theorem dL_1398 : decode code 1398 = .ok (.iload_n 3, 1) := dLc_64.2.2.2.2.1
theorem dL_1399 : decode code 1399 = .ok (.iconst 1, 1) := dLc_64.2.2.2.2.2.1
theorem dL_1400 : decode code 1400 = .ok (.iadd, 1) := dLc_64.2.2.2.2.2.2.1
theorem dL_1401 : decode code 1401 = .ok (.iaload, 1) := dLc_64.2.2.2.2.2.2.2.1
theorem dL_1402 : decode code 1402 = .ok (.aload_n 0, 1) := dLc_64.2.2.2.2.2.2.2.2.1
theorem dL_1403 : decode code 1403 = .ok (.iload_n 3, 1) := dLc_64.2.2.2.2.2.2.2.2.2.1
theorem dL_1404 : decode code 1404 = .ok (.iconst 2, 1) := dLc_64.2.2.2.2.2.2.2.2.2.2.1
theorem dL_1405 : decode code 1405 = .ok (.iadd, 1) := dLc_64.2.2.2.2.2.2.2.2.2.2.2.1
theorem dL_1406 : decode code 1406 = .ok (.iaload, 1) := dLc_64.2.2.2.2.2.2.2.2.2.2.2.2.1
theorem dL_1407 : decode code 1407 = .ok (.aload_n 0, 1) := dLc_64.2.2.2.2.2.2.2.2.2.2.2.2.2.1
theorem dL_1408 : decode code 1408 = .ok (.iload_n 3, 1) := dLc_64.2.2.2.2.2.2.2.2.2.2.2.2.2.2.1
theorem dL_1409 : decode code 1409 = .ok (.iconst 3, 1) := dLc_64.2.2.2.2.2.2.2.2.2.2.2.2.2.2.2
set_option maxRecDepth 20000 in
theorem xLc_65 : xd_w code 1410 [96, 46, 182, 0, 145, 87, 167, 0, 164, 43, 42, 29, 4, 96, 46, 42, 29, 5, 96, 46] := by unfold xd_w; decide +kernel
set_option maxRecDepth 20000 in
theorem dLc_65 : decode code 1410 = .ok (.iadd, 1) ∧ decode code 1411 = .ok (.iaload, 1) ∧ decode code 1412 = .ok (.invokevirtual 145, 3) ∧ decode code 1415 = .ok (.pop, 1) ∧ decode code 1416 = .ok (.goto 164, 3) ∧ decode code 1419 = .ok (.aload_n 1, 1) ∧ decode code 1420 = .ok (.aload_n 0, 1) ∧ decode code 1421 = .ok (.iload_n 3, 1) ∧ decode code 1422 = .ok (.iconst 1, 1) ∧ decode code 1423 = .ok (.iadd, 1) ∧ decode code 1424 = .ok (.iaload, 1) ∧ decode code 1425 = .ok (.aload_n 0, 1) ∧ decode code 1426 = .ok (.iload_n 3, 1) ∧ decode code 1427 = .ok (.iconst 2, 1) ∧ decode code 1428 = .ok (.iadd, 1) ∧ decode code 1429 = .ok (.iaload, 1) := ⟨xo_96 xLc_65 0 rfl, xo_46 xLc_65 1 rfl, xo_182 xLc_65 2 rfl rfl rfl rfl rfl rfl, xo_87 xLc_65 5 rfl, xo_167 xLc_65 6 rfl rfl rfl rfl rfl rfl, xo_43 xLc_65 9 rfl, xo_42 xLc_65 10 rfl, xo_29 xLc_65 11 rfl, xo_4 xLc_65 12 rfl, xo_96 xLc_65 13 rfl, xo_46 xLc_65 14 rfl, xo_42 xLc_65 15 rfl, xo_29 xLc_65 16 rfl, xo_5 xLc_65 17 rfl, xo_96 xLc_65 18 rfl, xo_46 xLc_65 19 rfl⟩
theorem dL_1410 : decode code 1410 = .ok (.iadd, 1) := dLc_65.1
theorem dL_1411 : decode code 1411 = .ok (.iaload, 1) := dLc_65.2.1
theorem dL_1412 : decode code 1412 = .ok (.invokevirtual 145, 3) := dLc_65.2.2.1
theorem dL_1415 : decode code 1415 = .ok (.pop, 1) := dLc_65.2.2.2.1
theorem dL_1416 : decode code 1416 = .ok (.goto 164, 3) := dLc_65.2.2.2.2.1
theorem dL_1419 : decode code 1419 = .ok (.aload_n 1, 1) := dLc_65.2.2.2.2.2.1
theorem dL_1420 : decode code 1420 = .ok (.aload_n 0, 1) := dLc_65.2.2.2.2.2.2.1
theorem dL_1421 : decode code 1421 = .ok (.iload_n 3, 1) := dLc_65.2.2.2.2.2.2.2.1
theorem dL_1422 : decode code 1422 = .ok (.iconst 1, 1) := dLc_65.2.2.2.2.2.2.2.2.1
theorem dL_1423 : decode code 1423 = .ok (.iadd, 1) := dLc_65.2.2.2.2.2.2.2.2.2.1
theorem dL_1424 : decode code 1424 = .ok (.iaload, 1) := dLc_65.2.2.2.2.2.2.2.2.2.2.1
theorem dL_1425 : decode code 1425 = .ok (.aload_n 0, 1) := dLc_65.2.2.2.2.2.2.2.2.2.2.2.1
theorem dL_1426 : decode code 1426 = .ok (.iload_n 3, 1) := dLc_65.2.2.2.2.2.2.2.2.2.2.2.2.1
theorem dL_1427 : decode code 1427 = .ok (.iconst 2, 1) := dLc_65.2.2.2.2.2.2.2.2.2.2.2.2.2.1
theorem dL_1428 : decode code 1428 = .ok (.iadd, 1) := dLc_65.2.2.2.2.2.2.2.2.2.2.2.2.2.2.1
theorem dL_1429 : decode code 1429 = .ok (.iaload, 1) := dLc_65.2.2.2.2.2.2.2.2.2.2.2.2.2.2.2
set_option maxRecDepth 20000 in
theorem xLc_66 : xd_w code 1430 [182, 0, 146, 87, 44, 42, 29, 4, 96, 46, 42, 29, 5, 96, 46, 182, 0, 149, 87, 167, 0, 131] := by unfold xd_w; decide +kernel
set_option maxRecDepth 20000 in
theorem dLc_66 : decode code 1430 = .ok (.invokevirtual 146, 3) ∧ decode code 1433 = .ok (.pop, 1) ∧ decode code 1434 = .ok (.aload_n 2, 1) ∧ decode code 1435 = .ok (.aload_n 0, 1) ∧ decode code 1436 = .ok (.iload_n 3, 1) ∧ decode code 1437 = .ok (.iconst 1, 1) ∧ decode code 1438 = .ok (.iadd, 1) ∧ decode code 1439 = .ok (.iaload, 1) ∧ decode code 1440 = .ok (.aload_n 0, 1) ∧ decode code 1441 = .ok (.iload_n 3, 1) ∧ decode code 1442 = .ok (.iconst 2, 1) ∧ decode code 1443 = .ok (.iadd, 1) ∧ decode code 1444 = .ok (.iaload, 1) ∧ decode code 1445 = .ok (.invokevirtual 149, 3) ∧ decode code 1448 = .ok (.pop, 1) ∧ decode code 1449 = .ok (.goto 131, 3) := ⟨xo_182 xLc_66 0 rfl rfl rfl rfl rfl rfl, xo_87 xLc_66 3 rfl, xo_44 xLc_66 4 rfl, xo_42 xLc_66 5 rfl, xo_29 xLc_66 6 rfl, xo_4 xLc_66 7 rfl, xo_96 xLc_66 8 rfl, xo_46 xLc_66 9 rfl, xo_42 xLc_66 10 rfl, xo_29 xLc_66 11 rfl, xo_5 xLc_66 12 rfl, xo_96 xLc_66 13 rfl, xo_46 xLc_66 14 rfl, xo_182 xLc_66 15 rfl rfl rfl rfl rfl rfl, xo_87 xLc_66 18 rfl, xo_167 xLc_66 19 rfl rfl rfl rfl rfl rfl⟩
theorem dL_1430 : decode code 1430 = .ok (.invokevirtual 146, 3) := dLc_66.1
theorem dL_1433 : decode code 1433 = .ok (.pop, 1) := dLc_66.2.1
theorem dL_1434 : decode code 1434 = .ok (.aload_n 2, 1) := dLc_66.2.2.1
theorem dL_1435 : decode code 1435 = .ok (.aload_n 0, 1) := dLc_66.2.2.2.1
theorem dL_1436 : decode code 1436 = .ok (.iload_n 3, 1) := dLc_66.2.2.2.2.1
theorem dL_1437 : decode code 1437 = .ok (.iconst 1, 1) := dLc_66.2.2.2.2.2.1
theorem dL_1438 : decode code 1438 = .ok (.iadd, 1) := dLc_66.2.2.2.2.2.2.1
theorem dL_1439 : decode code 1439 = .ok (.iaload, 1) := dLc_66.2.2.2.2.2.2.2.1
theorem dL_1440 : decode code 1440 = .ok (.aload_n 0, 1) := dLc_66.2.2.2.2.2.2.2.2.1
theorem dL_1441 : decode code 1441 = .ok (.iload_n 3, 1) := dLc_66.2.2.2.2.2.2.2.2.2.1
theorem dL_1442 : decode code 1442 = .ok (.iconst 2, 1) := dLc_66.2.2.2.2.2.2.2.2.2.2.1
theorem dL_1443 : decode code 1443 = .ok (.iadd, 1) := dLc_66.2.2.2.2.2.2.2.2.2.2.2.1
theorem dL_1444 : decode code 1444 = .ok (.iaload, 1) := dLc_66.2.2.2.2.2.2.2.2.2.2.2.2.1
theorem dL_1445 : decode code 1445 = .ok (.invokevirtual 149, 3) := dLc_66.2.2.2.2.2.2.2.2.2.2.2.2.2.1
theorem dL_1448 : decode code 1448 = .ok (.pop, 1) := dLc_66.2.2.2.2.2.2.2.2.2.2.2.2.2.2.1
theorem dL_1449 : decode code 1449 = .ok (.goto 131, 3) := dLc_66.2.2.2.2.2.2.2.2.2.2.2.2.2.2.2
set_option maxRecDepth 20000 in
theorem xLc_67 : xd_w code 1452 [43, 42, 29, 4, 96, 46, 42, 29, 5, 96, 46, 182, 0, 150, 87, 44, 42, 29] := by unfold xd_w; decide +kernel
set_option maxRecDepth 20000 in
theorem dLc_67 : decode code 1452 = .ok (.aload_n 1, 1) ∧ decode code 1453 = .ok (.aload_n 0, 1) ∧ decode code 1454 = .ok (.iload_n 3, 1) ∧ decode code 1455 = .ok (.iconst 1, 1) ∧ decode code 1456 = .ok (.iadd, 1) ∧ decode code 1457 = .ok (.iaload, 1) ∧ decode code 1458 = .ok (.aload_n 0, 1) ∧ decode code 1459 = .ok (.iload_n 3, 1) ∧ decode code 1460 = .ok (.iconst 2, 1) ∧ decode code 1461 = .ok (.iadd, 1) ∧ decode code 1462 = .ok (.iaload, 1) ∧ decode code 1463 = .ok (.invokevirtual 150, 3) ∧ decode code 1466 = .ok (.pop, 1) ∧ decode code 1467 = .ok (.aload_n 2, 1) ∧ decode code 1468 = .ok (.aload_n 0, 1) ∧ decode code 1469 = .ok (.iload_n 3, 1) := ⟨xo_43 xLc_67 0 rfl, xo_42 xLc_67 1 rfl, xo_29 xLc_67 2 rfl, xo_4 xLc_67 3 rfl, xo_96 xLc_67 4 rfl, xo_46 xLc_67 5 rfl, xo_42 xLc_67 6 rfl, xo_29 xLc_67 7 rfl, xo_5 xLc_67 8 rfl, xo_96 xLc_67 9 rfl, xo_46 xLc_67 10 rfl, xo_182 xLc_67 11 rfl rfl rfl rfl rfl rfl, xo_87 xLc_67 14 rfl, xo_44 xLc_67 15 rfl, xo_42 xLc_67 16 rfl, xo_29 xLc_67 17 rfl⟩
theorem dL_1452 : decode code 1452 = .ok (.aload_n 1, 1) := dLc_67.1
theorem dL_1453 : decode code 1453 = .ok (.aload_n 0, 1) := dLc_67.2.1
theorem dL_1454 : decode code 1454 = .ok (.iload_n 3, 1) := dLc_67.2.2.1
theorem dL_1455 : decode code 1455 = .ok (.iconst 1, 1) := dLc_67.2.2.2.1
theorem dL_1456 : decode code 1456 = .ok (.iadd, 1) := dLc_67.2.2.2.2.1
theorem dL_1457 : decode code 1457 = .ok (.iaload, 1) := dLc_67.2.2.2.2.2.1
theorem dL_1458 : decode code 1458 = .ok (.aload_n 0, 1) := dLc_67.2.2.2.2.2.2.1
theorem dL_1459 : decode code 1459 = .ok (.iload_n 3, 1) := dLc_67.2.2.2.2.2.2.2.1
theorem dL_1460 : decode code 1460 = .ok (.iconst 2, 1) := dLc_67.2.2.2.2.2.2.2.2.1
theorem dL_1461 : decode code 1461 = .ok (.iadd, 1) := dLc_67.2.2.2.2.2.2.2.2.2.1
theorem dL_1462 : decode code 1462 = .ok (.iaload, 1) := dLc_67.2.2.2.2.2.2.2.2.2.2.1
theorem dL_1463 : decode code 1463 = .ok (.invokevirtual 150, 3) := dLc_67.2.2.2.2.2.2.2.2.2.2.2.1
theorem dL_1466 : decode code 1466 = .ok (.pop, 1) := dLc_67.2.2.2.2.2.2.2.2.2.2.2.2.1
theorem dL_1467 : decode code 1467 = .ok (.aload_n 2, 1) := dLc_67.2.2.2.2.2.2.2.2.2.2.2.2.2.1
theorem dL_1468 : decode code 1468 = .ok (.aload_n 0, 1) := dLc_67.2.2.2.2.2.2.2.2.2.2.2.2.2.2.1
theorem dL_1469 : decode code 1469 = .ok (.iload_n 3, 1) := dLc_67.2.2.2.2.2.2.2.2.2.2.2.2.2.2.2
set_option maxRecDepth 20000 in
theorem xLc_68 : xd_w code 1470 [4, 96, 46, 42, 29, 5, 96, 46, 182, 0, 153, 87, 167, 0, 98, 43, 42, 29, 4, 96] := by unfold xd_w; decide +kernel
set_option maxRecDepth 20000 in
theorem dLc_68 : decode code 1470 = .ok (.iconst 1, 1) ∧ decode code 1471 = .ok (.iadd, 1) ∧ decode code 1472 = .ok (.iaload, 1) ∧ decode code 1473 = .ok (.aload_n 0, 1) ∧ decode code 1474 = .ok (.iload_n 3, 1) ∧ decode code 1475 = .ok (.iconst 2, 1) ∧ decode code 1476 = .ok (.iadd, 1) ∧ decode code 1477 = .ok (.iaload, 1) ∧ decode code 1478 = .ok (.invokevirtual 153, 3) ∧ decode code 1481 = .ok (.pop, 1) ∧ decode code 1482 = .ok (.goto 98, 3) ∧ decode code 1485 = .ok (.aload_n 1, 1) ∧ decode code 1486 = .ok (.aload_n 0, 1) ∧ decode code 1487 = .ok (.iload_n 3, 1) ∧ decode code 1488 = .ok (.iconst 1, 1) ∧ decode code 1489 = .ok (.iadd, 1) := ⟨xo_4 xLc_68 0 rfl, xo_96 xLc_68 1 rfl, xo_46 xLc_68 2 rfl, xo_42 xLc_68 3 rfl, xo_29 xLc_68 4 rfl, xo_5 xLc_68 5 rfl, xo_96 xLc_68 6 rfl, xo_46 xLc_68 7 rfl, xo_182 xLc_68 8 rfl rfl rfl rfl rfl rfl, xo_87 xLc_68 11 rfl, xo_167 xLc_68 12 rfl rfl rfl rfl rfl rfl, xo_43 xLc_68 15 rfl, xo_42 xLc_68 16 rfl, xo_29 xLc_68 17 rfl, xo_4 xLc_68 18 rfl, xo_96 xLc_68 19 rfl⟩
theorem dL_1470 : decode code 1470 = .ok (.iconst 1, 1) := dLc_68.1
theorem dL_1471 : decode code 1471 = .ok (.iadd, 1) := dLc_68.2.1
theorem dL_1472 : decode code 1472 = .ok (.iaload, 1) := dLc_68.2.2.1
theorem dL_1473 : decode code 1473 = .ok (.aload_n 0, 1) := dLc_68.2.2.2.1
theorem dL_1474 : decode code 1474 = .ok (.iload_n 3, 1) := dLc_68.2.2.2.2.1
theorem dL_1475 : decode code 1475 = .ok (.iconst 2, 1) := dLc_68.2.2.2.2.2.1
theorem dL_1476 : decode code 1476 = .ok (.iadd, 1) := dLc_68.2.2.2.2.2.2.1
theorem dL_1477 : decode code 1477 = .ok (.iaload, 1) := dLc_68.2.2.2.2.2.2.2.1
theorem dL_1478 : decode code 1478 = .ok (.invokevirtual 153, 3) := dLc_68.2.2.2.2.2.2.2.2.1
theorem dL_1481 : decode code 1481 = .ok (.pop, 1) := dLc_68.2.2.2.2.2.2.2.2.2.1
theorem dL_1482 : decode code 1482 = .ok (.goto 98, 3) := dLc_68.2.2.2.2.2.2.2.2.2.2.1
theorem dL_1485 : decode code 1485 = .ok (.aload_n 1, 1) := dLc_68.2.2.2.2.2.2.2.2.2.2.2.1
theorem dL_1486 : decode code 1486 = .ok (.aload_n 0, 1) := dLc_68.2.2.2.2.2.2.2.2.2.2.2.2.1
theorem dL_1487 : decode code 1487 = .ok (.iload_n 3, 1) := dLc_68.2.2.2.2.2.2.2.2.2.2.2.2.2.1
theorem dL_1488 : decode code 1488 = .ok (.iconst 1, 1) := dLc_68.2.2.2.2.2.2.2.2.2.2.2.2.2.2.1
theorem dL_1489 : decode code 1489 = .ok (.iadd, 1) := dLc_68.2.2.2.2.2.2.2.2.2.2.2.2.2.2.2
set_option maxRecDepth 20000 in
theorem xLc_69 : xd_w code 1490 [46, 182, 0, 154, 87, 44, 42, 29, 4, 96, 46, 182, 0, 157, 87, 167, 0, 75, 43, 182, 0, 158, 87, 44] := by unfold xd_w; decide +kernel
set_option maxRecDepth 20000 in
theorem dLc_69 : decode code 1490 = .ok (.iaload, 1) ∧ decode code 1491 = .ok (.invokevirtual 154, 3) ∧ decode code 1494 = .ok (.pop, 1) ∧ decode code 1495 = .ok (.aload_n 2, 1) ∧ decode code 1496 = .ok (.aload_n 0, 1) ∧ decode code 1497 = .ok (.iload_n 3, 1) ∧ decode code 1498 = .ok (.iconst 1, 1) ∧ decode code 1499 = .ok (.iadd, 1) ∧ decode code 1500 = .ok (.iaload, 1) ∧ decode code 1501 = .ok (.invokevirtual 157, 3) ∧ decode code 1504 = .ok (.pop, 1) ∧ decode code 1505 = .ok (.goto 75, 3) ∧ decode code 1508 = .ok (.aload_n 1, 1) ∧ decode code 1509 = .ok (.invokevirtual 158, 3) ∧ decode code 1512 = .ok (.pop, 1) ∧ decode code 1513 = .ok (.aload_n 2, 1) := ⟨xo_46 xLc_69 0 rfl, xo_182 xLc_69 1 rfl rfl rfl rfl rfl rfl, xo_87 xLc_69 4 rfl, xo_44 xLc_69 5 rfl, xo_42 xLc_69 6 rfl, xo_29 xLc_69 7 rfl, xo_4 xLc_69 8 rfl, xo_96 xLc_69 9 rfl, xo_46 xLc_69 10 rfl, xo_182 xLc_69 11 rfl rfl rfl rfl rfl rfl, xo_87 xLc_69 14 rfl, xo_167 xLc_69 15 rfl rfl rfl rfl rfl rfl, xo_43 xLc_69 18 rfl, xo_182 xLc_69 19 rfl rfl rfl rfl rfl rfl, xo_87 xLc_69 22 rfl, xo_44 xLc_69 23 rfl⟩
theorem dL_1490 : decode code 1490 = .ok (.iaload, 1) := dLc_69.1
theorem dL_1491 : decode code 1491 = .ok (.invokevirtual 154, 3) := dLc_69.2.1
theorem dL_1494 : decode code 1494 = .ok (.pop, 1) := dLc_69.2.2.1
theorem dL_1495 : decode code 1495 = .ok (.aload_n 2, 1) := dLc_69.2.2.2.1
theorem dL_1496 : decode code 1496 = .ok (.aload_n 0, 1) := dLc_69.2.2.2.2.1
theorem dL_1497 : decode code 1497 = .ok (.iload_n 3, 1) := dLc_69.2.2.2.2.2.1
theorem dL_1498 : decode code 1498 = .ok (.iconst 1, 1) := dLc_69.2.2.2.2.2.2.1
theorem dL_1499 : decode code 1499 = .ok (.iadd, 1) := dLc_69.2.2.2.2.2.2.2.1
theorem dL_1500 : decode code 1500 = .ok (.iaload, 1) := dLc_69.2.2.2.2.2.2.2.2.1
theorem dL_1501 : decode code 1501 = .ok (.invokevirtual 157, 3) := dLc_69.2.2.2.2.2.2.2.2.2.1
theorem dL_1504 : decode code 1504 = .ok (.pop, 1) := dLc_69.2.2.2.2.2.2.2.2.2.2.1
theorem dL_1505 : decode code 1505 = .ok (.goto 75, 3) := dLc_69.2.2.2.2.2.2.2.2.2.2.2.1
theorem dL_1508 : decode code 1508 = .ok (.aload_n 1, 1) := dLc_69.2.2.2.2.2.2.2.2.2.2.2.2.1
theorem dL_1509 : decode code 1509 = .ok (.invokevirtual 158, 3) := dLc_69.2.2.2.2.2.2.2.2.2.2.2.2.2.1
theorem dL_1512 : decode code 1512 = .ok (.pop, 1) := dLc_69.2.2.2.2.2.2.2.2.2.2.2.2.2.2.1
theorem dL_1513 : decode code 1513 = .ok (.aload_n 2, 1) := dLc_69.2.2.2.2.2.2.2.2.2.2.2.2.2.2.2
set_option maxRecDepth 20000 in
theorem xLc_70 : xd_w code 1514 [182, 0, 162, 87, 167, 0, 62, 43, 182, 0, 163, 87, 44, 182, 0, 167, 87, 167, 0, 49, 43, 42, 29, 4, 96, 46] := by unfold xd_w; decide +kernel
set_option maxRecDepth 20000 in
theorem dLc_70 : decode code 1514 = .ok (.invokevirtual 162, 3) ∧ decode code 1517 = .ok (.pop, 1) ∧ decode code 1518 = .ok (.goto 62, 3) ∧ decode code 1521 = .ok (.aload_n 1, 1) ∧ decode code 1522 = .ok (.invokevirtual 163, 3) ∧ decode code 1525 = .ok (.pop, 1) ∧ decode code 1526 = .ok (.aload_n 2, 1) ∧ decode code 1527 = .ok (.invokevirtual 167, 3) ∧ decode code 1530 = .ok (.pop, 1) ∧ decode code 1531 = .ok (.goto 49, 3) ∧ decode code 1534 = .ok (.aload_n 1, 1) ∧ decode code 1535 = .ok (.aload_n 0, 1) ∧ decode code 1536 = .ok (.iload_n 3, 1) ∧ decode code 1537 = .ok (.iconst 1, 1) ∧ decode code 1538 = .ok (.iadd, 1) ∧ decode code 1539 = .ok (.iaload, 1) := ⟨xo_182 xLc_70 0 rfl rfl rfl rfl rfl rfl, xo_87 xLc_70 3 rfl, xo_167 xLc_70 4 rfl rfl rfl rfl rfl rfl, xo_43 xLc_70 7 rfl, xo_182 xLc_70 8 rfl rfl rfl rfl rfl rfl, xo_87 xLc_70 11 rfl, xo_44 xLc_70 12 rfl, xo_182 xLc_70 13 rfl rfl rfl rfl rfl rfl, xo_87 xLc_70 16 rfl, xo_167 xLc_70 17 rfl rfl rfl rfl rfl rfl, xo_43 xLc_70 20 rfl, xo_42 xLc_70 21 rfl, xo_29 xLc_70 22 rfl, xo_4 xLc_70 23 rfl, xo_96 xLc_70 24 rfl, xo_46 xLc_70 25 rfl⟩
theorem dL_1514 : decode code 1514 = .ok (.invokevirtual 162, 3) := dLc_70.1
theorem dL_1517 : decode code 1517 = .ok (.pop, 1) := dLc_70.2.1
theorem dL_1518 : decode code 1518 = .ok (.goto 62, 3) := dLc_70.2.2.1
theorem dL_1521 : decode code 1521 = .ok (.aload_n 1, 1) := dLc_70.2.2.2.1
theorem dL_1522 : decode code 1522 = .ok (.invokevirtual 163, 3) := dLc_70.2.2.2.2.1
theorem dL_1525 : decode code 1525 = .ok (.pop, 1) := dLc_70.2.2.2.2.2.1
theorem dL_1526 : decode code 1526 = .ok (.aload_n 2, 1) := dLc_70.2.2.2.2.2.2.1
theorem dL_1527 : decode code 1527 = .ok (.invokevirtual 167, 3) := dLc_70.2.2.2.2.2.2.2.1
theorem dL_1530 : decode code 1530 = .ok (.pop, 1) := dLc_70.2.2.2.2.2.2.2.2.1
theorem dL_1531 : decode code 1531 = .ok (.goto 49, 3) := dLc_70.2.2.2.2.2.2.2.2.2.1
theorem dL_1534 : decode code 1534 = .ok (.aload_n 1, 1) := dLc_70.2.2.2.2.2.2.2.2.2.2.1
theorem dL_1535 : decode code 1535 = .ok (.aload_n 0, 1) := dLc_70.2.2.2.2.2.2.2.2.2.2.2.1
theorem dL_1536 : decode code 1536 = .ok (.iload_n 3, 1) := dLc_70.2.2.2.2.2.2.2.2.2.2.2.2.1
theorem dL_1537 : decode code 1537 = .ok (.iconst 1, 1) := dLc_70.2.2.2.2.2.2.2.2.2.2.2.2.2.1
theorem dL_1538 : decode code 1538 = .ok (.iadd, 1) := dLc_70.2.2.2.2.2.2.2.2.2.2.2.2.2.2.1
theorem dL_1539 : decode code 1539 = .ok (.iaload, 1) := dLc_70.2.2.2.2.2.2.2.2.2.2.2.2.2.2.2
set_option maxRecDepth 20000 in
theorem xLc_71 : xd_w code 1540 [182, 0, 168, 87, 44, 42, 29, 4, 96, 46, 182, 0, 171, 87, 167, 0, 26, 43, 42, 29, 4, 96] := by unfold xd_w; decide +kernel
set_option maxRecDepth 20000 in
theorem dLc_71 : decode code 1540 = .ok (.invokevirtual 168, 3) ∧ decode code 1543 = .ok (.pop, 1) ∧ decode code 1544 = .ok (.aload_n 2, 1) ∧ decode code 1545 = .ok (.aload_n 0, 1) ∧ decode code 1546 = .ok (.iload_n 3, 1) ∧ decode code 1547 = .ok (.iconst 1, 1) ∧ decode code 1548 = .ok (.iadd, 1) ∧ decode code 1549 = .ok (.iaload, 1) ∧ decode code 1550 = .ok (.invokevirtual 171, 3) ∧ decode code 1553 = .ok (.pop, 1) ∧ decode code 1554 = .ok (.goto 26, 3) ∧ decode code 1557 = .ok (.aload_n 1, 1) ∧ decode code 1558 = .ok (.aload_n 0, 1) ∧ decode code 1559 = .ok (.iload_n 3, 1) ∧ decode code 1560 = .ok (.iconst 1, 1) ∧ decode code 1561 = .ok (.iadd, 1) := ⟨xo_182 xLc_71 0 rfl rfl rfl rfl rfl rfl, xo_87 xLc_71 3 rfl, xo_44 xLc_71 4 rfl, xo_42 xLc_71 5 rfl, xo_29 xLc_71 6 rfl, xo_4 xLc_71 7 rfl, xo_96 xLc_71 8 rfl, xo_46 xLc_71 9 rfl, xo_182 xLc_71 10 rfl rfl rfl rfl rfl rfl, xo_87 xLc_71 13 rfl, xo_167 xLc_71 14 rfl rfl rfl rfl rfl rfl, xo_43 xLc_71 17 rfl, xo_42 xLc_71 18 rfl, xo_29 xLc_71 19 rfl, xo_4 xLc_71 20 rfl, xo_96 xLc_71 21 rfl⟩
theorem dL_1540 : decode code 1540 = .ok (.invokevirtual 168, 3) := dLc_71.1
theorem dL_1543 : decode code 1543 = .ok (.pop, 1) := dLc_71.2.1
theorem dL_1544 : decode code 1544 = .ok (.aload_n 2, 1) := dLc_71.2.2.1
theorem dL_1545 : decode code 1545 = .ok (.aload_n 0, 1) := dLc_71.2.2.2.1
theorem dL_1546 : decode code 1546 = .ok (.iload_n 3, 1) := dLc_71.2.2.2.2.1
theorem dL_1547 : decode code 1547 = .ok (.iconst 1, 1) := dLc_71.2.2.2.2.2.1
theorem dL_1548 : decode code 1548 = .ok (.iadd, 1) := dLc_71.2.2.2.2.2.2.1
theorem dL_1549 : decode code 1549 = .ok (.iaload, 1) := dLc_71.2.2.2.2.2.2.2.1
theorem dL_1550 : decode code 1550 = .ok (.invokevirtual 171, 3) := dLc_71.2.2.2.2.2.2.2.2.1
theorem dL_1553 : decode code 1553 = .ok (.pop, 1) := dLc_71.2.2.2.2.2.2.2.2.2.1
theorem dL_1554 : decode code 1554 = .ok (.goto 26, 3) := dLc_71.2.2.2.2.2.2.2.2.2.2.1
theorem dL_1557 : decode code 1557 = .ok (.aload_n 1, 1) := dLc_71.2.2.2.2.2.2.2.2.2.2.2.1
theorem dL_1558 : decode code 1558 = .ok (.aload_n 0, 1) := dLc_71.2.2.2.2.2.2.2.2.2.2.2.2.1
theorem dL_1559 : decode code 1559 = .ok (.iload_n 3, 1) := dLc_71.2.2.2.2.2.2.2.2.2.2.2.2.2.1
theorem dL_1560 : decode code 1560 = .ok (.iconst 1, 1) := dLc_71.2.2.2.2.2.2.2.2.2.2.2.2.2.2.1
theorem dL_1561 : decode code 1561 = .ok (.iadd, 1) := dLc_71.2.2.2.2.2.2.2.2.2.2.2.2.2.2.2
set_option maxRecDepth 20000 in
theorem xLc_72 : xd_w code 1562 [46, 182, 0, 172, 87, 44, 42, 29, 4, 96, 46, 182, 0, 175, 87, 167, 0, 3, 132, 3, 6, 167, 249, 227, 4, 172] := by unfold xd_w; decide +kernel
set_option maxRecDepth 20000 in
theorem dLc_72 : decode code 1562 = .ok (.iaload, 1) ∧ decode code 1563 = .ok (.invokevirtual 172, 3) ∧ decode code 1566 = .ok (.pop, 1) ∧ decode code 1567 = .ok (.aload_n 2, 1) ∧ decode code 1568 = .ok (.aload_n 0, 1) ∧ decode code 1569 = .ok (.iload_n 3, 1) ∧ decode code 1570 = .ok (.iconst 1, 1) ∧ decode code 1571 = .ok (.iadd, 1) ∧ decode code 1572 = .ok (.iaload, 1) ∧ decode code 1573 = .ok (.invokevirtual 175, 3) ∧ decode code 1576 = .ok (.pop, 1) ∧ decode code 1577 = .ok (.goto 3, 3) ∧ decode code 1580 = .ok (.iinc 3 6, 3) ∧ decode code 1583 = .ok (.goto (-1565), 3) ∧ decode code 1586 = .ok (.iconst 1, 1) ∧ decode code 1587 = .ok (.ireturn, 1) := ⟨xo_46 xLc_72 0 rfl, xo_182 xLc_72 1 rfl rfl rfl rfl rfl rfl, xo_87 xLc_72 4 rfl, xo_44 xLc_72 5 rfl, xo_42 xLc_72 6 rfl, xo_29 xLc_72 7 rfl, xo_4 xLc_72 8 rfl, xo_96 xLc_72 9 rfl, xo_46 xLc_72 10 rfl, xo_182 xLc_72 11 rfl rfl rfl rfl rfl rfl, xo_87 xLc_72 14 rfl, xo_167 xLc_72 15 rfl rfl rfl rfl rfl rfl, xo_132 xLc_72 18 rfl rfl rfl rfl rfl rfl, xo_167 xLc_72 21 rfl rfl rfl rfl rfl rfl, xo_4 xLc_72 24 rfl, xo_172 xLc_72 25 rfl⟩
theorem dL_1562 : decode code 1562 = .ok (.iaload, 1) := dLc_72.1
theorem dL_1563 : decode code 1563 = .ok (.invokevirtual 172, 3) := dLc_72.2.1
theorem dL_1566 : decode code 1566 = .ok (.pop, 1) := dLc_72.2.2.1
theorem dL_1567 : decode code 1567 = .ok (.aload_n 2, 1) := dLc_72.2.2.2.1
theorem dL_1568 : decode code 1568 = .ok (.aload_n 0, 1) := dLc_72.2.2.2.2.1
theorem dL_1569 : decode code 1569 = .ok (.iload_n 3, 1) := dLc_72.2.2.2.2.2.1
theorem dL_1570 : decode code 1570 = .ok (.iconst 1, 1) := dLc_72.2.2.2.2.2.2.1
theorem dL_1571 : decode code 1571 = .ok (.iadd, 1) := dLc_72.2.2.2.2.2.2.2.1
theorem dL_1572 : decode code 1572 = .ok (.iaload, 1) := dLc_72.2.2.2.2.2.2.2.2.1
theorem dL_1573 : decode code 1573 = .ok (.invokevirtual 175, 3) := dLc_72.2.2.2.2.2.2.2.2.2.1
theorem dL_1576 : decode code 1576 = .ok (.pop, 1) := dLc_72.2.2.2.2.2.2.2.2.2.2.1
theorem dL_1577 : decode code 1577 = .ok (.goto 3, 3) := dLc_72.2.2.2.2.2.2.2.2.2.2.2.1
theorem dL_1580 : decode code 1580 = .ok (.iinc 3 6, 3) := dLc_72.2.2.2.2.2.2.2.2.2.2.2.2.1
theorem dL_1583 : decode code 1583 = .ok (.goto (-1565), 3) := dLc_72.2.2.2.2.2.2.2.2.2.2.2.2.2.1
theorem dL_1586 : decode code 1586 = .ok (.iconst 1, 1) := dLc_72.2.2.2.2.2.2.2.2.2.2.2.2.2.2.1
theorem dL_1587 : decode code 1587 = .ok (.ireturn, 1) := dLc_72.2.2.2.2.2.2.2.2.2.2.2.2.2.2.2
