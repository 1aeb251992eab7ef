/-! the law, decoded -/
set_option maxRecDepth 20000 in
theorem dLc_0 : decode code 0 = .ok (.new 7, 3) ∧ decode code 3 = .ok (.dup, 1) ∧ decode code 4 = .ok (.invokespecial 9, 3) ∧ decode code 7 = .ok (.astore_n 1, 1) ∧ decode code 8 = .ok (.new 10, 3) ∧ decode code 11 = .ok (.dup, 1) ∧ decode code 12 = .ok (.invokespecial 12, 3) ∧ decode code 15 = .ok (.astore_n 2, 1) ∧ decode code 16 = .ok (.iconst 0, 1) ∧ decode code 17 = .ok (.istore_n 3, 1) ∧ decode code 18 = .ok (.iload_n 3, 1) ∧ decode code 19 = .ok (.aload_n 0, 1) ∧ decode code 20 = .ok (.arraylength, 1) ∧ decode code 21 = .ok (.bipush 6, 2) ∧ decode code 23 = .ok (.isub, 1) ∧ decode code 24 = .ok (.if_icmp .gt 1563, 3) := by decide +kernel
theorem dL_0 : decode code 0 = .ok (.new 7, 3) := dLc_0.1
theorem dL_3 : decode code 3 = .ok (.dup, 1) := dLc_0.2.1
theorem dL_4 : decode code 4 = .ok (.invokespecial 9, 3) := dLc_0.2.2.1
theorem dL_7 : decode code 7 = .ok (.astore_n 1, 1) := dLc_0.2.2.2.1
theorem dL_8 : decode code 8 = .ok (.new 10, 3) := dLc_0.2.2.2.2.1
theorem dL_11 : decode code 11 = .ok (.dup, 1) := dLc_0.2.2.2.2.2.1
theorem dL_12 : decode code 12 = .ok (.invokespecial 12, 3) := dLc_0.2.2.2.2.2.2.1
theorem dL_15 : decode code 15 = .ok (.astore_n 2, 1) := dLc_0.2.2.2.2.2.2.2.1
theorem dL_16 : decode code 16 = .ok (.iconst 0, 1) := dLc_0.2.2.2.2.2.2.2.2.1
theorem dL_17 : decode code 17 = .ok (.istore_n 3, 1) := dLc_0.2.2.2.2.2.2.2.2.2.1
theorem dL_18 : decode code 18 = .ok (.iload_n 3, 1) := dLc_0.2.2.2.2.2.2.2.2.2.2.1
theorem dL_19 : decode code 19 = .ok (.aload_n 0, 1) := dLc_0.2.2.2.2.2.2.2.2.2.2.2.1
theorem dL_20 : decode code 20 = .ok (.arraylength, 1) := dLc_0.2.2.2.2.2.2.2.2.2.2.2.2.1
theorem dL_21 : decode code 21 = .ok (.bipush 6, 2) := dLc_0.2.2.2.2.2.2.2.2.2.2.2.2.2.1
theorem dL_23 : decode code 23 = .ok (.isub, 1) := dLc_0.2.2.2.2.2.2.2.2.2.2.2.2.2.2.1
theorem dL_24 : decode code 24 = .ok (.if_icmp .gt 1563, 3) := dLc_0.2.2.2.2.2.2.2.2.2.2.2.2.2.2.2
set_option maxRecDepth 20000 in
theorem dLc_1 : decode code 27 = .ok (.aload_n 0, 1) ∧ decode code 28 = .ok (.iload_n 3, 1) ∧ decode code 29 = .ok (.iaload, 1) ∧ decode code 30 = .ok (.bipush 63, 2) ∧ decode code 32 = .ok (.iand, 1) ∧ decode code 33 = .ok (.tableswitch 1548 0 37 #[167, 230, 253, 296, 319, 362, 421, 464, 487, 510, 543, 576, 629, 662, 695, 728, 771, 804, 827, 860, 903, 956, 999, 1052, 1095, 1128, 1181, 1214, 1258, 1291, 1344, 1387, 1420, 1453, 1476, 1489, 1502, 1525], 167) ∧ decode code 200 = .ok (.aload_n 1, 1) ∧ decode code 201 = .ok (.aload_n 0, 1) ∧ decode code 202 = .ok (.iload_n 3, 1) ∧ decode code 203 = .ok (.iconst 1, 1) ∧ decode code 204 = .ok (.iadd, 1) ∧ decode code 205 = .ok (.iaload, 1) ∧ decode code 206 = .ok (.aload_n 0, 1) ∧ decode code 207 = .ok (.iload_n 3, 1) ∧ decode code 208 = .ok (.iconst 2, 1) ∧ decode code 209 = .ok (.iadd, 1) := by decide +kernel
theorem dL_27 : decode code 27 = .ok (.aload_n 0, 1) := dLc_1.1
theorem dL_28 : decode code 28 = .ok (.iload_n 3, 1) := dLc_1.2.1
theorem dL_29 : decode code 29 = .ok (.iaload, 1) := dLc_1.2.2.1
theorem dL_30 : decode code 30 = .ok (.bipush 63, 2) := dLc_1.2.2.2.1
theorem dL_32 : decode code 32 = .ok (.iand, 1) := dLc_1.2.2.2.2.1
theorem dL_33 : decode code 33 = .ok (.tableswitch 1548 0 37 #[167, 230, 253, 296, 319, 362, 421, 464, 487, 510, 543, 576, 629, 662, 695, 728, 771, 804, 827, 860, 903, 956, 999, 1052, 1095, 1128, 1181, 1214, 1258, 1291, 1344, 1387, 1420, 1453, 1476, 1489, 1502, 1525], 167) := dLc_1.2.2.2.2.2.1
theorem dL_200 : decode code 200 = .ok (.aload_n 1, 1) := dLc_1.2.2.2.2.2.2.1
theorem dL_201 : decode code 201 = .ok (.aload_n 0, 1) := dLc_1.2.2.2.2.2.2.2.1
theorem dL_202 : decode code 202 = .ok (.iload_n 3, 1) := dLc_1.2.2.2.2.2.2.2.2.1
theorem dL_203 : decode code 203 = .ok (.iconst 1, 1) := dLc_1.2.2.2.2.2.2.2.2.2.1
theorem dL_204 : decode code 204 = .ok (.iadd, 1) := dLc_1.2.2.2.2.2.2.2.2.2.2.1
theorem dL_205 : decode code 205 = .ok (.iaload, 1) := dLc_1.2.2.2.2.2.2.2.2.2.2.2.1
theorem dL_206 : decode code 206 = .ok (.aload_n 0, 1) := dLc_1.2.2.2.2.2.2.2.2.2.2.2.2.1
theorem dL_207 : decode code 207 = .ok (.iload_n 3, 1) := dLc_1.2.2.2.2.2.2.2.2.2.2.2.2.2.1
theorem dL_208 : decode code 208 = .ok (.iconst 2, 1) := dLc_1.2.2.2.2.2.2.2.2.2.2.2.2.2.2.1
theorem dL_209 : decode code 209 = .ok (.iadd, 1) := dLc_1.2.2.2.2.2.2.2.2.2.2.2.2.2.2.2
set_option maxRecDepth 20000 in
theorem dLc_2 : decode code 210 = .ok (.iaload, 1) ∧ decode code 211 = .ok (.aload_n 0, 1) ∧ decode code 212 = .ok (.iload_n 3, 1) ∧ decode code 213 = .ok (.iconst 3, 1) ∧ decode code 214 = .ok (.iadd, 1) ∧ decode code 215 = .ok (.iaload, 1) ∧ decode code 216 = .ok (.aload_n 0, 1) ∧ decode code 217 = .ok (.iload_n 3, 1) ∧ decode code 218 = .ok (.iconst 4, 1) ∧ decode code 219 = .ok (.iadd, 1) ∧ decode code 220 = .ok (.iaload, 1) ∧ decode code 221 = .ok (.aload_n 0, 1) ∧ decode code 222 = .ok (.iload_n 3, 1) ∧ decode code 223 = .ok (.iconst 5, 1) ∧ decode code 224 = .ok (.iadd, 1) ∧ decode code 225 = .ok (.iaload, 1) := by decide +kernel
theorem dL_210 : decode code 210 = .ok (.iaload, 1) := dLc_2.1
theorem dL_211 : decode code 211 = .ok (.aload_n 0, 1) := dLc_2.2.1
theorem dL_212 : decode code 212 = .ok (.iload_n 3, 1) := dLc_2.2.2.1
theorem dL_213 : decode code 213 = .ok (.iconst 3, 1) := dLc_2.2.2.2.1
theorem dL_214 : decode code 214 = .ok (.iadd, 1) := dLc_2.2.2.2.2.1
theorem dL_215 : decode code 215 = .ok (.iaload, 1) := dLc_2.2.2.2.2.2.1
theorem dL_216 : decode code 216 = .ok (.aload_n 0, 1) := dLc_2.2.2.2.2.2.2.1
theorem dL_217 : decode code 217 = .ok (.iload_n 3, 1) := dLc_2.2.2.2.2.2.2.2.1
theorem dL_218 : decode code 218 = .ok (.iconst 4, 1) := dLc_2.2.2.2.2.2.2.2.2.1
theorem dL_219 : decode code 219 = .ok (.iadd, 1) := dLc_2.2.2.2.2.2.2.2.2.2.1
theorem dL_220 : decode code 220 = .ok (.iaload, 1) := dLc_2.2.2.2.2.2.2.2.2.2.2.1
theorem dL_221 : decode code 221 = .ok (.aload_n 0, 1) := dLc_2.2.2.2.2.2.2.2.2.2.2.2.1
theorem dL_222 : decode code 222 = .ok (.iload_n 3, 1) := dLc_2.2.2.2.2.2.2.2.2.2.2.2.2.1
theorem dL_223 : decode code 223 = .ok (.iconst 5, 1) := dLc_2.2.2.2.2.2.2.2.2.2.2.2.2.2.1
theorem dL_224 : decode code 224 = .ok (.iadd, 1) := dLc_2.2.2.2.2.2.2.2.2.2.2.2.2.2.2.1
theorem dL_225 : decode code 225 = .ok (.iaload, 1) := dLc_2.2.2.2.2.2.2.2.2.2.2.2.2.2.2.2
set_option maxRecDepth 20000 in
theorem dLc_3 : decode code 226 = .ok (.invokevirtual 13, 3) ∧ decode code 229 = .ok (.pop, 1) ∧ decode code 230 = .ok (.aload_n 2, 1) ∧ decode code 231 = .ok (.aload_n 0, 1) ∧ decode code 232 = .ok (.iload_n 3, 1) ∧ decode code 233 = .ok (.iconst 1, 1) ∧ decode code 234 = .ok (.iadd, 1) ∧ decode code 235 = .ok (.iaload, 1) ∧ decode code 236 = .ok (.aload_n 0, 1) ∧ decode code 237 = .ok (.iload_n 3, 1) ∧ decode code 238 = .ok (.iconst 2, 1) ∧ decode code 239 = .ok (.iadd, 1) ∧ decode code 240 = .ok (.iaload, 1) ∧ decode code 241 = .ok (.aload_n 0, 1) ∧ decode code 242 = .ok (.iload_n 3, 1) ∧ decode code 243 = .ok (.iconst 3, 1) := by decide +kernel
theorem dL_226 : decode code 226 = .ok (.invokevirtual 13, 3) := dLc_3.1
theorem dL_229 : decode code 229 = .ok (.pop, 1) := dLc_3.2.1
theorem dL_230 : decode code 230 = .ok (.aload_n 2, 1) := dLc_3.2.2.1
theorem dL_231 : decode code 231 = .ok (.aload_n 0, 1) := dLc_3.2.2.2.1
theorem dL_232 : decode code 232 = .ok (.iload_n 3, 1) := dLc_3.2.2.2.2.1
theorem dL_233 : decode code 233 = .ok (.iconst 1, 1) := dLc_3.2.2.2.2.2.1
theorem dL_234 : decode code 234 = .ok (.iadd, 1) := dLc_3.2.2.2.2.2.2.1
theorem dL_235 : decode code 235 = .ok (.iaload, 1) := dLc_3.2.2.2.2.2.2.2.1
theorem dL_236 : decode code 236 = .ok (.aload_n 0, 1) := dLc_3.2.2.2.2.2.2.2.2.1
theorem dL_237 : decode code 237 = .ok (.iload_n 3, 1) := dLc_3.2.2.2.2.2.2.2.2.2.1
theorem dL_238 : decode code 238 = .ok (.iconst 2, 1) := dLc_3.2.2.2.2.2.2.2.2.2.2.1
theorem dL_239 : decode code 239 = .ok (.iadd, 1) := dLc_3.2.2.2.2.2.2.2.2.2.2.2.1
theorem dL_240 : decode code 240 = .ok (.iaload, 1) := dLc_3.2.2.2.2.2.2.2.2.2.2.2.2.1
theorem dL_241 : decode code 241 = .ok (.aload_n 0, 1) := dLc_3.2.2.2.2.2.2.2.2.2.2.2.2.2.1
theorem dL_242 : decode code 242 = .ok (.iload_n 3, 1) := dLc_3.2.2.2.2.2.2.2.2.2.2.2.2.2.2.1
theorem dL_243 : decode code 243 = .ok (.iconst 3, 1) := dLc_3.2.2.2.2.2.2.2.2.2.2.2.2.2.2.2
set_option maxRecDepth 20000 in
theorem dLc_4 : decode code 244 = .ok (.iadd, 1) ∧ decode code 245 = .ok (.iaload, 1) ∧ decode code 246 = .ok (.aload_n 0, 1) ∧ decode code 247 = .ok (.iload_n 3, 1) ∧ decode code 248 = .ok (.iconst 4, 1) ∧ decode code 249 = .ok (.iadd, 1) ∧ decode code 250 = .ok (.iaload, 1) ∧ decode code 251 = .ok (.aload_n 0, 1) ∧ decode code 252 = .ok (.iload_n 3, 1) ∧ decode code 253 = .ok (.iconst 5, 1) ∧ decode code 254 = .ok (.iadd, 1) ∧ decode code 255 = .ok (.iaload, 1) ∧ decode code 256 = .ok (.invokevirtual 17, 3) ∧ decode code 259 = .ok (.pop, 1) ∧ decode code 260 = .ok (.goto 1321, 3) ∧ decode code 263 = .ok (.aload_n 1, 1) := by decide +kernel
theorem dL_244 : decode code 244 = .ok (.iadd, 1) := dLc_4.1
theorem dL_245 : decode code 245 = .ok (.iaload, 1) := dLc_4.2.1
theorem dL_246 : decode code 246 = .ok (.aload_n 0, 1) := dLc_4.2.2.1
theorem dL_247 : decode code 247 = .ok (.iload_n 3, 1) := dLc_4.2.2.2.1
theorem dL_248 : decode code 248 = .ok (.iconst 4, 1) := dLc_4.2.2.2.2.1
theorem dL_249 : decode code 249 = .ok (.iadd, 1) := dLc_4.2.2.2.2.2.1
theorem dL_250 : decode code 250 = .ok (.iaload, 1) := dLc_4.2.2.2.2.2.2.1
theorem dL_251 : decode code 251 = .ok (.aload_n 0, 1) := dLc_4.2.2.2.2.2.2.2.1
theorem dL_252 : decode code 252 = .ok (.iload_n 3, 1) := dLc_4.2.2.2.2.2.2.2.2.1
theorem dL_253 : decode code 253 = .ok (.iconst 5, 1) := dLc_4.2.2.2.2.2.2.2.2.2.1
theorem dL_254 : decode code 254 = .ok (.iadd, 1) := dLc_4.2.2.2.2.2.2.2.2.2.2.1
theorem dL_255 : decode code 255 = .ok (.iaload, 1) := dLc_4.2.2.2.2.2.2.2.2.2.2.2.1
theorem dL_256 : decode code 256 = .ok (.invokevirtual 17, 3) := dLc_4.2.2.2.2.2.2.2.2.2.2.2.2.1
theorem dL_259 : decode code 259 = .ok (.pop, 1) := dLc_4.2.2.2.2.2.2.2.2.2.2.2.2.2.1
theorem dL_260 : decode code 260 = .ok (.goto 1321, 3) := dLc_4.2.2.2.2.2.2.2.2.2.2.2.2.2.2.1
theorem dL_263 : decode code 263 = .ok (.aload_n 1, 1) := dLc_4.2.2.2.2.2.2.2.2.2.2.2.2.2.2.2
set_option maxRecDepth 20000 in
theorem dLc_5 : decode code 264 = .ok (.aload_n 0, 1) ∧ decode code 265 = .ok (.iload_n 3, 1) ∧ decode code 266 = .ok (.iconst 1, 1) ∧ decode code 267 = .ok (.iadd, 1) ∧ decode code 268 = .ok (.iaload, 1) ∧ decode code 269 = .ok (.invokevirtual 18, 3) ∧ decode code 272 = .ok (.pop, 1) ∧ decode code 273 = .ok (.aload_n 2, 1) ∧ decode code 274 = .ok (.aload_n 0, 1) ∧ decode code 275 = .ok (.iload_n 3, 1) ∧ decode code 276 = .ok (.iconst 1, 1) ∧ decode code 277 = .ok (.iadd, 1) ∧ decode code 278 = .ok (.iaload, 1) ∧ decode code 279 = .ok (.invokevirtual 22, 3) ∧ decode code 282 = .ok (.pop, 1) ∧ decode code 283 = .ok (.goto 1298, 3) := by decide +kernel
theorem dL_264 : decode code 264 = .ok (.aload_n 0, 1) := dLc_5.1
theorem dL_265 : decode code 265 = .ok (.iload_n 3, 1) := dLc_5.2.1
theorem dL_266 : decode code 266 = .ok (.iconst 1, 1) := dLc_5.2.2.1
theorem dL_267 : decode code 267 = .ok (.iadd, 1) := dLc_5.2.2.2.1
theorem dL_268 : decode code 268 = .ok (.iaload, 1) := dLc_5.2.2.2.2.1
theorem dL_269 : decode code 269 = .ok (.invokevirtual 18, 3) := dLc_5.2.2.2.2.2.1
theorem dL_272 : decode code 272 = .ok (.pop, 1) := dLc_5.2.2.2.2.2.2.1
theorem dL_273 : decode code 273 = .ok (.aload_n 2, 1) := dLc_5.2.2.2.2.2.2.2.1
theorem dL_274 : decode code 274 = .ok (.aload_n 0, 1) := dLc_5.2.2.2.2.2.2.2.2.1
theorem dL_275 : decode code 275 = .ok (.iload_n 3, 1) := dLc_5.2.2.2.2.2.2.2.2.2.1
theorem dL_276 : decode code 276 = .ok (.iconst 1, 1) := dLc_5.2.2.2.2.2.2.2.2.2.2.1
theorem dL_277 : decode code 277 = .ok (.iadd, 1) := dLc_5.2.2.2.2.2.2.2.2.2.2.2.1
theorem dL_278 : decode code 278 = .ok (.iaload, 1) := dLc_5.2.2.2.2.2.2.2.2.2.2.2.2.1
theorem dL_279 : decode code 279 = .ok (.invokevirtual 22, 3) := dLc_5.2.2.2.2.2.2.2.2.2.2.2.2.2.1
theorem dL_282 : decode code 282 = .ok (.pop, 1) := dLc_5.2.2.2.2.2.2.2.2.2.2.2.2.2.2.1
theorem dL_283 : decode code 283 = .ok (.goto 1298, 3) := dLc_5.2.2.2.2.2.2.2.2.2.2.2.2.2.2.2
set_option maxRecDepth 20000 in
theorem dLc_6 : decode code 286 = .ok (.aload_n 1, 1) ∧ decode code 287 = .ok (.aload_n 0, 1) ∧ decode code 288 = .ok (.iload_n 3, 1) ∧ decode code 289 = .ok (.iconst 1, 1) ∧ decode code 290 = .ok (.iadd, 1) ∧ decode code 291 = .ok (.iaload, 1) ∧ decode code 292 = .ok (.aload_n 0, 1) ∧ decode code 293 = .ok (.iload_n 3, 1) ∧ decode code 294 = .ok (.iconst 2, 1) ∧ decode code 295 = .ok (.iadd, 1) ∧ decode code 296 = .ok (.iaload, 1) ∧ decode code 297 = .ok (.aload_n 0, 1) ∧ decode code 298 = .ok (.iload_n 3, 1) ∧ decode code 299 = .ok (.iconst 3, 1) ∧ decode code 300 = .ok (.iadd, 1) ∧ decode code 301 = .ok (.iaload, 1) := by decide +kernel
theorem dL_286 : decode code 286 = .ok (.aload_n 1, 1) := dLc_6.1
theorem dL_287 : decode code 287 = .ok (.aload_n 0, 1) := dLc_6.2.1
theorem dL_288 : decode code 288 = .ok (.iload_n 3, 1) := dLc_6.2.2.1
theorem dL_289 : decode code 289 = .ok (.iconst 1, 1) := dLc_6.2.2.2.1
theorem dL_290 : decode code 290 = .ok (.iadd, 1) := dLc_6.2.2.2.2.1
theorem dL_291 : decode code 291 = .ok (.iaload, 1) := dLc_6.2.2.2.2.2.1
theorem dL_292 : decode code 292 = .ok (.aload_n 0, 1) := dLc_6.2.2.2.2.2.2.1
theorem dL_293 : decode code 293 = .ok (.iload_n 3, 1) := dLc_6.2.2.2.2.2.2.2.1
theorem dL_294 : decode code 294 = .ok (.iconst 2, 1) := dLc_6.2.2.2.2.2.2.2.2.1
theorem dL_295 : decode code 295 = .ok (.iadd, 1) := dLc_6.2.2.2.2.2.2.2.2.2.1
theorem dL_296 : decode code 296 = .ok (.iaload, 1) := dLc_6.2.2.2.2.2.2.2.2.2.2.1
theorem dL_297 : decode code 297 = .ok (.aload_n 0, 1) := dLc_6.2.2.2.2.2.2.2.2.2.2.2.1
theorem dL_298 : decode code 298 = .ok (.iload_n 3, 1) := dLc_6.2.2.2.2.2.2.2.2.2.2.2.2.1
theorem dL_299 : decode code 299 = .ok (.iconst 3, 1) := dLc_6.2.2.2.2.2.2.2.2.2.2.2.2.2.1
theorem dL_300 : decode code 300 = .ok (.iadd, 1) := dLc_6.2.2.2.2.2.2.2.2.2.2.2.2.2.2.1
theorem dL_301 : decode code 301 = .ok (.iaload, 1) := dLc_6.2.2.2.2.2.2.2.2.2.2.2.2.2.2.2
set_option maxRecDepth 20000 in
theorem dLc_7 : decode code 302 = .ok (.invokevirtual 23, 3) ∧ decode code 305 = .ok (.pop, 1) ∧ decode code 306 = .ok (.aload_n 2, 1) ∧ decode code 307 = .ok (.aload_n 0, 1) ∧ decode code 308 = .ok (.iload_n 3, 1) ∧ decode code 309 = .ok (.iconst 1, 1) ∧ decode code 310 = .ok (.iadd, 1) ∧ decode code 311 = .ok (.iaload, 1) ∧ decode code 312 = .ok (.aload_n 0, 1) ∧ decode code 313 = .ok (.iload_n 3, 1) ∧ decode code 314 = .ok (.iconst 2, 1) ∧ decode code 315 = .ok (.iadd, 1) ∧ decode code 316 = .ok (.iaload, 1) ∧ decode code 317 = .ok (.aload_n 0, 1) ∧ decode code 318 = .ok (.iload_n 3, 1) ∧ decode code 319 = .ok (.iconst 3, 1) := by decide +kernel
theorem dL_302 : decode code 302 = .ok (.invokevirtual 23, 3) := dLc_7.1
theorem dL_305 : decode code 305 = .ok (.pop, 1) := dLc_7.2.1
theorem dL_306 : decode code 306 = .ok (.aload_n 2, 1) := dLc_7.2.2.1
theorem dL_307 : decode code 307 = .ok (.aload_n 0, 1) := dLc_7.2.2.2.1
theorem dL_308 : decode code 308 = .ok (.iload_n 3, 1) := dLc_7.2.2.2.2.1
theorem dL_309 : decode code 309 = .ok (.iconst 1, 1) := dLc_7.2.2.2.2.2.1
theorem dL_310 : decode code 310 = .ok (.iadd, 1) := dLc_7.2.2.2.2.2.2.1
theorem dL_311 : decode code 311 = .ok (.iaload, 1) := dLc_7.2.2.2.2.2.2.2.1
theorem dL_312 : decode code 312 = .ok (.aload_n 0, 1) := dLc_7.2.2.2.2.2.2.2.2.1
theorem dL_313 : decode code 313 = .ok (.iload_n 3, 1) := dLc_7.2.2.2.2.2.2.2.2.2.1
theorem dL_314 : decode code 314 = .ok (.iconst 2, 1) := dLc_7.2.2.2.2.2.2.2.2.2.2.1
theorem dL_315 : decode code 315 = .ok (.iadd, 1) := dLc_7.2.2.2.2.2.2.2.2.2.2.2.1
theorem dL_316 : decode code 316 = .ok (.iaload, 1) := dLc_7.2.2.2.2.2.2.2.2.2.2.2.2.1
theorem dL_317 : decode code 317 = .ok (.aload_n 0, 1) := dLc_7.2.2.2.2.2.2.2.2.2.2.2.2.2.1
theorem dL_318 : decode code 318 = .ok (.iload_n 3, 1) := dLc_7.2.2.2.2.2.2.2.2.2.2.2.2.2.2.1
theorem dL_319 : decode code 319 = .ok (.iconst 3, 1) := dLc_7.2.2.2.2.2.2.2.2.2.2.2.2.2.2.2
set_option maxRecDepth 20000 in
theorem dLc_8 : decode code 320 = .ok (.iadd, 1) ∧ decode code 321 = .ok (.iaload, 1) ∧ decode code 322 = .ok (.invokevirtual 27, 3) ∧ decode code 325 = .ok (.pop, 1) ∧ decode code 326 = .ok (.goto 1255, 3) ∧ decode code 329 = .ok (.aload_n 1, 1) ∧ decode code 330 = .ok (.aload_n 0, 1) ∧ decode code 331 = .ok (.iload_n 3, 1) ∧ decode code 332 = .ok (.iconst 1, 1) ∧ decode code 333 = .ok (.iadd, 1) ∧ decode code 334 = .ok (.iaload, 1) ∧ decode code 335 = .ok (.invokevirtual 28, 3) ∧ decode code 338 = .ok (.pop, 1) ∧ decode code 339 = .ok (.aload_n 2, 1) ∧ decode code 340 = .ok (.aload_n 0, 1) ∧ decode code 341 = .ok (.iload_n 3, 1) := by decide +kernel
theorem dL_320 : decode code 320 = .ok (.iadd, 1) := dLc_8.1
theorem dL_321 : decode code 321 = .ok (.iaload, 1) := dLc_8.2.1
theorem dL_322 : decode code 322 = .ok (.invokevirtual 27, 3) := dLc_8.2.2.1
theorem dL_325 : decode code 325 = .ok (.pop, 1) := dLc_8.2.2.2.1
theorem dL_326 : decode code 326 = .ok (.goto 1255, 3) := dLc_8.2.2.2.2.1
theorem dL_329 : decode code 329 = .ok (.aload_n 1, 1) := dLc_8.2.2.2.2.2.1
theorem dL_330 : decode code 330 = .ok (.aload_n 0, 1) := dLc_8.2.2.2.2.2.2.1
theorem dL_331 : decode code 331 = .ok (.iload_n 3, 1) := dLc_8.2.2.2.2.2.2.2.1
theorem dL_332 : decode code 332 = .ok (.iconst 1, 1) := dLc_8.2.2.2.2.2.2.2.2.1
theorem dL_333 : decode code 333 = .ok (.iadd, 1) := dLc_8.2.2.2.2.2.2.2.2.2.1
theorem dL_334 : decode code 334 = .ok (.iaload, 1) := dLc_8.2.2.2.2.2.2.2.2.2.2.1
theorem dL_335 : decode code 335 = .ok (.invokevirtual 28, 3) := dLc_8.2.2.2.2.2.2.2.2.2.2.2.1
theorem dL_338 : decode code 338 = .ok (.pop, 1) := dLc_8.2.2.2.2.2.2.2.2.2.2.2.2.1
theorem dL_339 : decode code 339 = .ok (.aload_n 2, 1) := dLc_8.2.2.2.2.2.2.2.2.2.2.2.2.2.1
theorem dL_340 : decode code 340 = .ok (.aload_n 0, 1) := dLc_8.2.2.2.2.2.2.2.2.2.2.2.2.2.2.1
theorem dL_341 : decode code 341 = .ok (.iload_n 3, 1) := dLc_8.2.2.2.2.2.2.2.2.2.2.2.2.2.2.2
set_option maxRecDepth 20000 in
theorem dLc_9 : decode code 342 = .ok (.iconst 1, 1) ∧ decode code 343 = .ok (.iadd, 1) ∧ decode code 344 = .ok (.iaload, 1) ∧ decode code 345 = .ok (.invokevirtual 32, 3) ∧ decode code 348 = .ok (.pop, 1) ∧ decode code 349 = .ok (.goto 1232, 3) ∧ decode code 352 = .ok (.aload_n 1, 1) ∧ decode code 353 = .ok (.aload_n 0, 1) ∧ decode code 354 = .ok (.iload_n 3, 1) ∧ decode code 355 = .ok (.iconst 1, 1) ∧ decode code 356 = .ok (.iadd, 1) ∧ decode code 357 = .ok (.iaload, 1) ∧ decode code 358 = .ok (.aload_n 0, 1) ∧ decode code 359 = .ok (.iload_n 3, 1) ∧ decode code 360 = .ok (.iconst 2, 1) ∧ decode code 361 = .ok (.iadd, 1) := by decide +kernel
theorem dL_342 : decode code 342 = .ok (.iconst 1, 1) := dLc_9.1
theorem dL_343 : decode code 343 = .ok (.iadd, 1) := dLc_9.2.1
theorem dL_344 : decode code 344 = .ok (.iaload, 1) := dLc_9.2.2.1
theorem dL_345 : decode code 345 = .ok (.invokevirtual 32, 3) := dLc_9.2.2.2.1
theorem dL_348 : decode code 348 = .ok (.pop, 1) := dLc_9.2.2.2.2.1
theorem dL_349 : decode code 349 = .ok (.goto 1232, 3) := dLc_9.2.2.2.2.2.1
theorem dL_352 : decode code 352 = .ok (.aload_n 1, 1) := dLc_9.2.2.2.2.2.2.1
theorem dL_353 : decode code 353 = .ok (.aload_n 0, 1) := dLc_9.2.2.2.2.2.2.2.1
theorem dL_354 : decode code 354 = .ok (.iload_n 3, 1) := dLc_9.2.2.2.2.2.2.2.2.1
theorem dL_355 : decode code 355 = .ok (.iconst 1, 1) := dLc_9.2.2.2.2.2.2.2.2.2.1
theorem dL_356 : decode code 356 = .ok (.iadd, 1) := dLc_9.2.2.2.2.2.2.2.2.2.2.1
theorem dL_357 : decode code 357 = .ok (.iaload, 1) := dLc_9.2.2.2.2.2.2.2.2.2.2.2.1
theorem dL_358 : decode code 358 = .ok (.aload_n 0, 1) := dLc_9.2.2.2.2.2.2.2.2.2.2.2.2.1
theorem dL_359 : decode code 359 = .ok (.iload_n 3, 1) := dLc_9.2.2.2.2.2.2.2.2.2.2.2.2.2.1
theorem dL_360 : decode code 360 = .ok (.iconst 2, 1) := dLc_9.2.2.2.2.2.2.2.2.2.2.2.2.2.2.1
theorem dL_361 : decode code 361 = .ok (.iadd, 1) := dLc_9.2.2.2.2.2.2.2.2.2.2.2.2.2.2.2
set_option maxRecDepth 20000 in
theorem dLc_10 : decode code 362 = .ok (.iaload, 1) ∧ decode code 363 = .ok (.aload_n 0, 1) ∧ decode code 364 = .ok (.iload_n 3, 1) ∧ decode code 365 = .ok (.iconst 3, 1) ∧ decode code 366 = .ok (.iadd, 1) ∧ decode code 367 = .ok (.iaload, 1) ∧ decode code 368 = .ok (.invokevirtual 33, 3) ∧ decode code 371 = .ok (.pop, 1) ∧ decode code 372 = .ok (.aload_n 2, 1) ∧ decode code 373 = .ok (.aload_n 0, 1) ∧ decode code 374 = .ok (.iload_n 3, 1) ∧ decode code 375 = .ok (.iconst 1, 1) ∧ decode code 376 = .ok (.iadd, 1) ∧ decode code 377 = .ok (.iaload, 1) ∧ decode code 378 = .ok (.aload_n 0, 1) ∧ decode code 379 = .ok (.iload_n 3, 1) := by decide +kernel
theorem dL_362 : decode code 362 = .ok (.iaload, 1) := dLc_10.1
theorem dL_363 : decode code 363 = .ok (.aload_n 0, 1) := dLc_10.2.1
theorem dL_364 : decode code 364 = .ok (.iload_n 3, 1) := dLc_10.2.2.1
theorem dL_365 : decode code 365 = .ok (.iconst 3, 1) := dLc_10.2.2.2.1
theorem dL_366 : decode code 366 = .ok (.iadd, 1) := dLc_10.2.2.2.2.1
theorem dL_367 : decode code 367 = .ok (.iaload, 1) := dLc_10.2.2.2.2.2.1
theorem dL_368 : decode code 368 = .ok (.invokevirtual 33, 3) := dLc_10.2.2.2.2.2.2.1
theorem dL_371 : decode code 371 = .ok (.pop, 1) := dLc_10.2.2.2.2.2.2.2.1
theorem dL_372 : decode code 372 = .ok (.aload_n 2, 1) := dLc_10.2.2.2.2.2.2.2.2.1
theorem dL_373 : decode code 373 = .ok (.aload_n 0, 1) := dLc_10.2.2.2.2.2.2.2.2.2.1
theorem dL_374 : decode code 374 = .ok (.iload_n 3, 1) := dLc_10.2.2.2.2.2.2.2.2.2.2.1
theorem dL_375 : decode code 375 = .ok (.iconst 1, 1) := dLc_10.2.2.2.2.2.2.2.2.2.2.2.1
theorem dL_376 : decode code 376 = .ok (.iadd, 1) := dLc_10.2.2.2.2.2.2.2.2.2.2.2.2.1
theorem dL_377 : decode code 377 = .ok (.iaload, 1) := dLc_10.2.2.2.2.2.2.2.2.2.2.2.2.2.1
theorem dL_378 : decode code 378 = .ok (.aload_n 0, 1) := dLc_10.2.2.2.2.2.2.2.2.2.2.2.2.2.2.1
theorem dL_379 : decode code 379 = .ok (.iload_n 3, 1) := dLc_10.2.2.2.2.2.2.2.2.2.2.2.2.2.2.2
set_option maxRecDepth 20000 in
theorem dLc_11 : decode code 380 = .ok (.iconst 2, 1) ∧ decode code 381 = .ok (.iadd, 1) ∧ decode code 382 = .ok (.iaload, 1) ∧ decode code 383 = .ok (.aload_n 0, 1) ∧ decode code 384 = .ok (.iload_n 3, 1) ∧ decode code 385 = .ok (.iconst 3, 1) ∧ decode code 386 = .ok (.iadd, 1) ∧ decode code 387 = .ok (.iaload, 1) ∧ decode code 388 = .ok (.invokevirtual 36, 3) ∧ decode code 391 = .ok (.pop, 1) ∧ decode code 392 = .ok (.goto 1189, 3) ∧ decode code 395 = .ok (.aload_n 1, 1) ∧ decode code 396 = .ok (.aload_n 0, 1) ∧ decode code 397 = .ok (.iload_n 3, 1) ∧ decode code 398 = .ok (.iconst 1, 1) ∧ decode code 399 = .ok (.iadd, 1) := by decide +kernel
theorem dL_380 : decode code 380 = .ok (.iconst 2, 1) := dLc_11.1
theorem dL_381 : decode code 381 = .ok (.iadd, 1) := dLc_11.2.1
theorem dL_382 : decode code 382 = .ok (.iaload, 1) := dLc_11.2.2.1
theorem dL_383 : decode code 383 = .ok (.aload_n 0, 1) := dLc_11.2.2.2.1
theorem dL_384 : decode code 384 = .ok (.iload_n 3, 1) := dLc_11.2.2.2.2.1
theorem dL_385 : decode code 385 = .ok (.iconst 3, 1) := dLc_11.2.2.2.2.2.1
theorem dL_386 : decode code 386 = .ok (.iadd, 1) := dLc_11.2.2.2.2.2.2.1
theorem dL_387 : decode code 387 = .ok (.iaload, 1) := dLc_11.2.2.2.2.2.2.2.1
theorem dL_388 : decode code 388 = .ok (.invokevirtual 36, 3) := dLc_11.2.2.2.2.2.2.2.2.1
theorem dL_391 : decode code 391 = .ok (.pop, 1) := dLc_11.2.2.2.2.2.2.2.2.2.1
theorem dL_392 : decode code 392 = .ok (.goto 1189, 3) := dLc_11.2.2.2.2.2.2.2.2.2.2.1
theorem dL_395 : decode code 395 = .ok (.aload_n 1, 1) := dLc_11.2.2.2.2.2.2.2.2.2.2.2.1
theorem dL_396 : decode code 396 = .ok (.aload_n 0, 1) := dLc_11.2.2.2.2.2.2.2.2.2.2.2.2.1
theorem dL_397 : decode code 397 = .ok (.iload_n 3, 1) := dLc_11.2.2.2.2.2.2.2.2.2.2.2.2.2.1
theorem dL_398 : decode code 398 = .ok (.iconst 1, 1) := dLc_11.2.2.2.2.2.2.2.2.2.2.2.2.2.2.1
theorem dL_399 : decode code 399 = .ok (.iadd, 1) := dLc_11.2.2.2.2.2.2.2.2.2.2.2.2.2.2.2
set_option maxRecDepth 20000 in
theorem dLc_12 : decode code 400 = .ok (.iaload, 1) ∧ decode code 401 = .ok (.aload_n 0, 1) ∧ decode code 402 = .ok (.iload_n 3, 1) ∧ decode code 403 = .ok (.iconst 2, 1) ∧ decode code 404 = .ok (.iadd, 1) ∧ decode code 405 = .ok (.iaload, 1) ∧ decode code 406 = .ok (.aload_n 0, 1) ∧ decode code 407 = .ok (.iload_n 3, 1) ∧ decode code 408 = .ok (.iconst 3, 1) ∧ decode code 409 = .ok (.iadd, 1) ∧ decode code 410 = .ok (.iaload, 1) ∧ decode code 411 = .ok (.ifCond .eq 7, 3) ∧ decode code 414 = .ok (.iconst 1, 1) ∧ decode code 415 = .ok (.goto 4, 3) ∧ decode code 418 = .ok (.iconst 0, 1) ∧ decode code 419 = .ok (.invokevirtual 37, 3) := by decide +kernel
theorem dL_400 : decode code 400 = .ok (.iaload, 1) := dLc_12.1
theorem dL_401 : decode code 401 = .ok (.aload_n 0, 1) := dLc_12.2.1
theorem dL_402 : decode code 402 = .ok (.iload_n 3, 1) := dLc_12.2.2.1
theorem dL_403 : decode code 403 = .ok (.iconst 2, 1) := dLc_12.2.2.2.1
theorem dL_404 : decode code 404 = .ok (.iadd, 1) := dLc_12.2.2.2.2.1
theorem dL_405 : decode code 405 = .ok (.iaload, 1) := dLc_12.2.2.2.2.2.1
theorem dL_406 : decode code 406 = .ok (.aload_n 0, 1) := dLc_12.2.2.2.2.2.2.1
theorem dL_407 : decode code 407 = .ok (.iload_n 3, 1) := dLc_12.2.2.2.2.2.2.2.1
theorem dL_408 : decode code 408 = .ok (.iconst 3, 1) := dLc_12.2.2.2.2.2.2.2.2.1
theorem dL_409 : decode code 409 = .ok (.iadd, 1) := dLc_12.2.2.2.2.2.2.2.2.2.1
theorem dL_410 : decode code 410 = .ok (.iaload, 1) := dLc_12.2.2.2.2.2.2.2.2.2.2.1
theorem dL_411 : decode code 411 = .ok (.ifCond .eq 7, 3) := dLc_12.2.2.2.2.2.2.2.2.2.2.2.1
theorem dL_414 : decode code 414 = .ok (.iconst 1, 1) := dLc_12.2.2.2.2.2.2.2.2.2.2.2.2.1
theorem dL_415 : decode code 415 = .ok (.goto 4, 3) := dLc_12.2.2.2.2.2.2.2.2.2.2.2.2.2.1
theorem dL_418 : decode code 418 = .ok (.iconst 0, 1) := dLc_12.2.2.2.2.2.2.2.2.2.2.2.2.2.2.1
theorem dL_419 : decode code 419 = .ok (.invokevirtual 37, 3) := dLc_12.2.2.2.2.2.2.2.2.2.2.2.2.2.2.2
set_option maxRecDepth 20000 in
theorem dLc_13 : decode code 422 = .ok (.pop, 1) ∧ decode code 423 = .ok (.aload_n 2, 1) ∧ decode code 424 = .ok (.aload_n 0, 1) ∧ decode code 425 = .ok (.iload_n 3, 1) ∧ decode code 426 = .ok (.iconst 1, 1) ∧ decode code 427 = .ok (.iadd, 1) ∧ decode code 428 = .ok (.iaload, 1) ∧ decode code 429 = .ok (.aload_n 0, 1) ∧ decode code 430 = .ok (.iload_n 3, 1) ∧ decode code 431 = .ok (.iconst 2, 1) ∧ decode code 432 = .ok (.iadd, 1) ∧ decode code 433 = .ok (.iaload, 1) ∧ decode code 434 = .ok (.aload_n 0, 1) ∧ decode code 435 = .ok (.iload_n 3, 1) ∧ decode code 436 = .ok (.iconst 3, 1) ∧ decode code 437 = .ok (.iadd, 1) := by decide +kernel
theorem dL_422 : decode code 422 = .ok (.pop, 1) := dLc_13.1
theorem dL_423 : decode code 423 = .ok (.aload_n 2, 1) := dLc_13.2.1
theorem dL_424 : decode code 424 = .ok (.aload_n 0, 1) := dLc_13.2.2.1
theorem dL_425 : decode code 425 = .ok (.iload_n 3, 1) := dLc_13.2.2.2.1
theorem dL_426 : decode code 426 = .ok (.iconst 1, 1) := dLc_13.2.2.2.2.1
theorem dL_427 : decode code 427 = .ok (.iadd, 1) := dLc_13.2.2.2.2.2.1
theorem dL_428 : decode code 428 = .ok (.iaload, 1) := dLc_13.2.2.2.2.2.2.1
theorem dL_429 : decode code 429 = .ok (.aload_n 0, 1) := dLc_13.2.2.2.2.2.2.2.1
theorem dL_430 : decode code 430 = .ok (.iload_n 3, 1) := dLc_13.2.2.2.2.2.2.2.2.1
theorem dL_431 : decode code 431 = .ok (.iconst 2, 1) := dLc_13.2.2.2.2.2.2.2.2.2.1
theorem dL_432 : decode code 432 = .ok (.iadd, 1) := dLc_13.2.2.2.2.2.2.2.2.2.2.1
theorem dL_433 : decode code 433 = .ok (.iaload, 1) := dLc_13.2.2.2.2.2.2.2.2.2.2.2.1
theorem dL_434 : decode code 434 = .ok (.aload_n 0, 1) := dLc_13.2.2.2.2.2.2.2.2.2.2.2.2.1
theorem dL_435 : decode code 435 = .ok (.iload_n 3, 1) := dLc_13.2.2.2.2.2.2.2.2.2.2.2.2.2.1
theorem dL_436 : decode code 436 = .ok (.iconst 3, 1) := dLc_13.2.2.2.2.2.2.2.2.2.2.2.2.2.2.1
theorem dL_437 : decode code 437 = .ok (.iadd, 1) := dLc_13.2.2.2.2.2.2.2.2.2.2.2.2.2.2.2
set_option maxRecDepth 20000 in
theorem dLc_14 : decode code 438 = .ok (.iaload, 1) ∧ decode code 439 = .ok (.ifCond .eq 7, 3) ∧ decode code 442 = .ok (.iconst 1, 1) ∧ decode code 443 = .ok (.goto 4, 3) ∧ decode code 446 = .ok (.iconst 0, 1) ∧ decode code 447 = .ok (.invokevirtual 41, 3) ∧ decode code 450 = .ok (.pop, 1) ∧ decode code 451 = .ok (.goto 1130, 3) ∧ decode code 454 = .ok (.aload_n 1, 1) ∧ decode code 455 = .ok (.aload_n 0, 1) ∧ decode code 456 = .ok (.iload_n 3, 1) ∧ decode code 457 = .ok (.iconst 1, 1) ∧ decode code 458 = .ok (.iadd, 1) ∧ decode code 459 = .ok (.iaload, 1) ∧ decode code 460 = .ok (.aload_n 0, 1) ∧ decode code 461 = .ok (.iload_n 3, 1) := by decide +kernel
theorem dL_438 : decode code 438 = .ok (.iaload, 1) := dLc_14.1
theorem dL_439 : decode code 439 = .ok (.ifCond .eq 7, 3) := dLc_14.2.1
theorem dL_442 : decode code 442 = .ok (.iconst 1, 1) := dLc_14.2.2.1
theorem dL_443 : decode code 443 = .ok (.goto 4, 3) := dLc_14.2.2.2.1
theorem dL_446 : decode code 446 = .ok (.iconst 0, 1) := dLc_14.2.2.2.2.1
theorem dL_447 : decode code 447 = .ok (.invokevirtual 41, 3) := dLc_14.2.2.2.2.2.1
theorem dL_450 : decode code 450 = .ok (.pop, 1) := dLc_14.2.2.2.2.2.2.1
theorem dL_451 : decode code 451 = .ok (.goto 1130, 3) := dLc_14.2.2.2.2.2.2.2.1
theorem dL_454 : decode code 454 = .ok (.aload_n 1, 1) := dLc_14.2.2.2.2.2.2.2.2.1
theorem dL_455 : decode code 455 = .ok (.aload_n 0, 1) := dLc_14.2.2.2.2.2.2.2.2.2.1
theorem dL_456 : decode code 456 = .ok (.iload_n 3, 1) := dLc_14.2.2.2.2.2.2.2.2.2.2.1
theorem dL_457 : decode code 457 = .ok (.iconst 1, 1) := dLc_14.2.2.2.2.2.2.2.2.2.2.2.1
theorem dL_458 : decode code 458 = .ok (.iadd, 1) := dLc_14.2.2.2.2.2.2.2.2.2.2.2.2.1
theorem dL_459 : decode code 459 = .ok (.iaload, 1) := dLc_14.2.2.2.2.2.2.2.2.2.2.2.2.2.1
theorem dL_460 : decode code 460 = .ok (.aload_n 0, 1) := dLc_14.2.2.2.2.2.2.2.2.2.2.2.2.2.2.1
theorem dL_461 : decode code 461 = .ok (.iload_n 3, 1) := dLc_14.2.2.2.2.2.2.2.2.2.2.2.2.2.2.2
set_option maxRecDepth 20000 in
theorem dLc_15 : decode code 462 = .ok (.iconst 2, 1) ∧ decode code 463 = .ok (.iadd, 1) ∧ decode code 464 = .ok (.iaload, 1) ∧ decode code 465 = .ok (.aload_n 0, 1) ∧ decode code 466 = .ok (.iload_n 3, 1) ∧ decode code 467 = .ok (.iconst 3, 1) ∧ decode code 468 = .ok (.iadd, 1) ∧ decode code 469 = .ok (.iaload, 1) ∧ decode code 470 = .ok (.invokevirtual 42, 3) ∧ decode code 473 = .ok (.pop, 1) ∧ decode code 474 = .ok (.aload_n 2, 1) ∧ decode code 475 = .ok (.aload_n 0, 1) ∧ decode code 476 = .ok (.iload_n 3, 1) ∧ decode code 477 = .ok (.iconst 1, 1) ∧ decode code 478 = .ok (.iadd, 1) ∧ decode code 479 = .ok (.iaload, 1) := by decide +kernel
theorem dL_462 : decode code 462 = .ok (.iconst 2, 1) := dLc_15.1
theorem dL_463 : decode code 463 = .ok (.iadd, 1) := dLc_15.2.1
theorem dL_464 : decode code 464 = .ok (.iaload, 1) := dLc_15.2.2.1
theorem dL_465 : decode code 465 = .ok (.aload_n 0, 1) := dLc_15.2.2.2.1
theorem dL_466 : decode code 466 = .ok (.iload_n 3, 1) := dLc_15.2.2.2.2.1
theorem dL_467 : decode code 467 = .ok (.iconst 3, 1) := dLc_15.2.2.2.2.2.1
theorem dL_468 : decode code 468 = .ok (.iadd, 1) := dLc_15.2.2.2.2.2.2.1
theorem dL_469 : decode code 469 = .ok (.iaload, 1) := dLc_15.2.2.2.2.2.2.2.1
theorem dL_470 : decode code 470 = .ok (.invokevirtual 42, 3) := dLc_15.2.2.2.2.2.2.2.2.1
theorem dL_473 : decode code 473 = .ok (.pop, 1) := dLc_15.2.2.2.2.2.2.2.2.2.1
theorem dL_474 : decode code 474 = .ok (.aload_n 2, 1) := dLc_15.2.2.2.2.2.2.2.2.2.2.1
theorem dL_475 : decode code 475 = .ok (.aload_n 0, 1) := dLc_15.2.2.2.2.2.2.2.2.2.2.2.1
theorem dL_476 : decode code 476 = .ok (.iload_n 3, 1) := dLc_15.2.2.2.2.2.2.2.2.2.2.2.2.1
theorem dL_477 : decode code 477 = .ok (.iconst 1, 1) := dLc_15.2.2.2.2.2.2.2.2.2.2.2.2.2.1
theorem dL_478 : decode code 478 = .ok (.iadd, 1) := dLc_15.2.2.2.2.2.2.2.2.2.2.2.2.2.2.1
theorem dL_479 : decode code 479 = .ok (.iaload, 1) := dLc_15.2.2.2.2.2.2.2.2.2.2.2.2.2.2.2
set_option maxRecDepth 20000 in
theorem dLc_16 : decode code 480 = .ok (.aload_n 0, 1) ∧ decode code 481 = .ok (.iload_n 3, 1) ∧ decode code 482 = .ok (.iconst 2, 1) ∧ decode code 483 = .ok (.iadd, 1) ∧ decode code 484 = .ok (.iaload, 1) ∧ decode code 485 = .ok (.aload_n 0, 1) ∧ decode code 486 = .ok (.iload_n 3, 1) ∧ decode code 487 = .ok (.iconst 3, 1) ∧ decode code 488 = .ok (.iadd, 1) ∧ decode code 489 = .ok (.iaload, 1) ∧ decode code 490 = .ok (.invokevirtual 45, 3) ∧ decode code 493 = .ok (.pop, 1) ∧ decode code 494 = .ok (.goto 1087, 3) ∧ decode code 497 = .ok (.aload_n 1, 1) ∧ decode code 498 = .ok (.aload_n 0, 1) ∧ decode code 499 = .ok (.iload_n 3, 1) := by decide +kernel
theorem dL_480 : decode code 480 = .ok (.aload_n 0, 1) := dLc_16.1
theorem dL_481 : decode code 481 = .ok (.iload_n 3, 1) := dLc_16.2.1
theorem dL_482 : decode code 482 = .ok (.iconst 2, 1) := dLc_16.2.2.1
theorem dL_483 : decode code 483 = .ok (.iadd, 1) := dLc_16.2.2.2.1
theorem dL_484 : decode code 484 = .ok (.iaload, 1) := dLc_16.2.2.2.2.1
theorem dL_485 : decode code 485 = .ok (.aload_n 0, 1) := dLc_16.2.2.2.2.2.1
theorem dL_486 : decode code 486 = .ok (.iload_n 3, 1) := dLc_16.2.2.2.2.2.2.1
theorem dL_487 : decode code 487 = .ok (.iconst 3, 1) := dLc_16.2.2.2.2.2.2.2.1
theorem dL_488 : decode code 488 = .ok (.iadd, 1) := dLc_16.2.2.2.2.2.2.2.2.1
theorem dL_489 : decode code 489 = .ok (.iaload, 1) := dLc_16.2.2.2.2.2.2.2.2.2.1
theorem dL_490 : decode code 490 = .ok (.invokevirtual 45, 3) := dLc_16.2.2.2.2.2.2.2.2.2.2.1
theorem dL_493 : decode code 493 = .ok (.pop, 1) := dLc_16.2.2.2.2.2.2.2.2.2.2.2.1
theorem dL_494 : decode code 494 = .ok (.goto 1087, 3) := dLc_16.2.2.2.2.2.2.2.2.2.2.2.2.1
theorem dL_497 : decode code 497 = .ok (.aload_n 1, 1) := dLc_16.2.2.2.2.2.2.2.2.2.2.2.2.2.1
theorem dL_498 : decode code 498 = .ok (.aload_n 0, 1) := dLc_16.2.2.2.2.2.2.2.2.2.2.2.2.2.2.1
theorem dL_499 : decode code 499 = .ok (.iload_n 3, 1) := dLc_16.2.2.2.2.2.2.2.2.2.2.2.2.2.2.2
set_option maxRecDepth 20000 in
theorem dLc_17 : decode code 500 = .ok (.iconst 1, 1) ∧ decode code 501 = .ok (.iadd, 1) ∧ decode code 502 = .ok (.iaload, 1) ∧ decode code 503 = .ok (.invokevirtual 46, 3) ∧ decode code 506 = .ok (.pop, 1) ∧ decode code 507 = .ok (.aload_n 2, 1) ∧ decode code 508 = .ok (.aload_n 0, 1) ∧ decode code 509 = .ok (.iload_n 3, 1) ∧ decode code 510 = .ok (.iconst 1, 1) ∧ decode code 511 = .ok (.iadd, 1) ∧ decode code 512 = .ok (.iaload, 1) ∧ decode code 513 = .ok (.invokevirtual 49, 3) ∧ decode code 516 = .ok (.pop, 1) ∧ decode code 517 = .ok (.goto 1064, 3) ∧ decode code 520 = .ok (.aload_n 1, 1) ∧ decode code 521 = .ok (.aload_n 0, 1) := by decide +kernel
theorem dL_500 : decode code 500 = .ok (.iconst 1, 1) := dLc_17.1
theorem dL_501 : decode code 501 = .ok (.iadd, 1) := dLc_17.2.1
theorem dL_502 : decode code 502 = .ok (.iaload, 1) := dLc_17.2.2.1
theorem dL_503 : decode code 503 = .ok (.invokevirtual 46, 3) := dLc_17.2.2.2.1
theorem dL_506 : decode code 506 = .ok (.pop, 1) := dLc_17.2.2.2.2.1
theorem dL_507 : decode code 507 = .ok (.aload_n 2, 1) := dLc_17.2.2.2.2.2.1
theorem dL_508 : decode code 508 = .ok (.aload_n 0, 1) := dLc_17.2.2.2.2.2.2.1
theorem dL_509 : decode code 509 = .ok (.iload_n 3, 1) := dLc_17.2.2.2.2.2.2.2.1
theorem dL_510 : decode code 510 = .ok (.iconst 1, 1) := dLc_17.2.2.2.2.2.2.2.2.1
theorem dL_511 : decode code 511 = .ok (.iadd, 1) := dLc_17.2.2.2.2.2.2.2.2.2.1
theorem dL_512 : decode code 512 = .ok (.iaload, 1) := dLc_17.2.2.2.2.2.2.2.2.2.2.1
theorem dL_513 : decode code 513 = .ok (.invokevirtual 49, 3) := dLc_17.2.2.2.2.2.2.2.2.2.2.2.1
theorem dL_516 : decode code 516 = .ok (.pop, 1) := dLc_17.2.2.2.2.2.2.2.2.2.2.2.2.1
theorem dL_517 : decode code 517 = .ok (.goto 1064, 3) := dLc_17.2.2.2.2.2.2.2.2.2.2.2.2.2.1
theorem dL_520 : decode code 520 = .ok (.aload_n 1, 1) := dLc_17.2.2.2.2.2.2.2.2.2.2.2.2.2.2.1
theorem dL_521 : decode code 521 = .ok (.aload_n 0, 1) := dLc_17.2.2.2.2.2.2.2.2.2.2.2.2.2.2.2
set_option maxRecDepth 20000 in
theorem dLc_18 : decode code 522 = .ok (.iload_n 3, 1) ∧ decode code 523 = .ok (.iconst 1, 1) ∧ decode code 524 = .ok (.iadd, 1) ∧ decode code 525 = .ok (.iaload, 1) ∧ decode code 526 = .ok (.invokevirtual 50, 3) ∧ decode code 529 = .ok (.pop, 1) ∧ decode code 530 = .ok (.aload_n 2, 1) ∧ decode code 531 = .ok (.aload_n 0, 1) ∧ decode code 532 = .ok (.iload_n 3, 1) ∧ decode code 533 = .ok (.iconst 1, 1) ∧ decode code 534 = .ok (.iadd, 1) ∧ decode code 535 = .ok (.iaload, 1) ∧ decode code 536 = .ok (.invokevirtual 53, 3) ∧ decode code 539 = .ok (.pop, 1) ∧ decode code 540 = .ok (.goto 1041, 3) ∧ decode code 543 = .ok (.aload_n 1, 1) := by decide +kernel
theorem dL_522 : decode code 522 = .ok (.iload_n 3, 1) := dLc_18.1
theorem dL_523 : decode code 523 = .ok (.iconst 1, 1) := dLc_18.2.1
theorem dL_524 : decode code 524 = .ok (.iadd, 1) := dLc_18.2.2.1
theorem dL_525 : decode code 525 = .ok (.iaload, 1) := dLc_18.2.2.2.1
theorem dL_526 : decode code 526 = .ok (.invokevirtual 50, 3) := dLc_18.2.2.2.2.1
theorem dL_529 : decode code 529 = .ok (.pop, 1) := dLc_18.2.2.2.2.2.1
theorem dL_530 : decode code 530 = .ok (.aload_n 2, 1) := dLc_18.2.2.2.2.2.2.1
theorem dL_531 : decode code 531 = .ok (.aload_n 0, 1) := dLc_18.2.2.2.2.2.2.2.1
theorem dL_532 : decode code 532 = .ok (.iload_n 3, 1) := dLc_18.2.2.2.2.2.2.2.2.1
theorem dL_533 : decode code 533 = .ok (.iconst 1, 1) := dLc_18.2.2.2.2.2.2.2.2.2.1
theorem dL_534 : decode code 534 = .ok (.iadd, 1) := dLc_18.2.2.2.2.2.2.2.2.2.2.1
theorem dL_535 : decode code 535 = .ok (.iaload, 1) := dLc_18.2.2.2.2.2.2.2.2.2.2.2.1
theorem dL_536 : decode code 536 = .ok (.invokevirtual 53, 3) := dLc_18.2.2.2.2.2.2.2.2.2.2.2.2.1
theorem dL_539 : decode code 539 = .ok (.pop, 1) := dLc_18.2.2.2.2.2.2.2.2.2.2.2.2.2.1
theorem dL_540 : decode code 540 = .ok (.goto 1041, 3) := dLc_18.2.2.2.2.2.2.2.2.2.2.2.2.2.2.1
theorem dL_543 : decode code 543 = .ok (.aload_n 1, 1) := dLc_18.2.2.2.2.2.2.2.2.2.2.2.2.2.2.2
set_option maxRecDepth 20000 in
theorem dLc_19 : decode code 544 = .ok (.aload_n 0, 1) ∧ decode code 545 = .ok (.iload_n 3, 1) ∧ decode code 546 = .ok (.iconst 1, 1) ∧ decode code 547 = .ok (.iadd, 1) ∧ decode code 548 = .ok (.iaload, 1) ∧ decode code 549 = .ok (.aload_n 0, 1) ∧ decode code 550 = .ok (.iload_n 3, 1) ∧ decode code 551 = .ok (.iconst 2, 1) ∧ decode code 552 = .ok (.iadd, 1) ∧ decode code 553 = .ok (.iaload, 1) ∧ decode code 554 = .ok (.invokevirtual 54, 3) ∧ decode code 557 = .ok (.pop, 1) ∧ decode code 558 = .ok (.aload_n 2, 1) ∧ decode code 559 = .ok (.aload_n 0, 1) ∧ decode code 560 = .ok (.iload_n 3, 1) ∧ decode code 561 = .ok (.iconst 1, 1) := by decide +kernel
theorem dL_544 : decode code 544 = .ok (.aload_n 0, 1) := dLc_19.1
theorem dL_545 : decode code 545 = .ok (.iload_n 3, 1) := dLc_19.2.1
theorem dL_546 : decode code 546 = .ok (.iconst 1, 1) := dLc_19.2.2.1
theorem dL_547 : decode code 547 = .ok (.iadd, 1) := dLc_19.2.2.2.1
theorem dL_548 : decode code 548 = .ok (.iaload, 1) := dLc_19.2.2.2.2.1
theorem dL_549 : decode code 549 = .ok (.aload_n 0, 1) := dLc_19.2.2.2.2.2.1
theorem dL_550 : decode code 550 = .ok (.iload_n 3, 1) := dLc_19.2.2.2.2.2.2.1
theorem dL_551 : decode code 551 = .ok (.iconst 2, 1) := dLc_19.2.2.2.2.2.2.2.1
theorem dL_552 : decode code 552 = .ok (.iadd, 1) := dLc_19.2.2.2.2.2.2.2.2.1
theorem dL_553 : decode code 553 = .ok (.iaload, 1) := dLc_19.2.2.2.2.2.2.2.2.2.1
theorem dL_554 : decode code 554 = .ok (.invokevirtual 54, 3) := dLc_19.2.2.2.2.2.2.2.2.2.2.1
theorem dL_557 : decode code 557 = .ok (.pop, 1) := dLc_19.2.2.2.2.2.2.2.2.2.2.2.1
theorem dL_558 : decode code 558 = .ok (.aload_n 2, 1) := dLc_19.2.2.2.2.2.2.2.2.2.2.2.2.1
theorem dL_559 : decode code 559 = .ok (.aload_n 0, 1) := dLc_19.2.2.2.2.2.2.2.2.2.2.2.2.2.1
theorem dL_560 : decode code 560 = .ok (.iload_n 3, 1) := dLc_19.2.2.2.2.2.2.2.2.2.2.2.2.2.2.1
theorem dL_561 : decode code 561 = .ok (.iconst 1, 1) := dLc_19.2.2.2.2.2.2.2.2.2.2.2.2.2.2.2
set_option maxRecDepth 20000 in
theorem dLc_20 : decode code 562 = .ok (.iadd, 1) ∧ decode code 563 = .ok (.iaload, 1) ∧ decode code 564 = .ok (.aload_n 0, 1) ∧ decode code 565 = .ok (.iload_n 3, 1) ∧ decode code 566 = .ok (.iconst 2, 1) ∧ decode code 567 = .ok (.iadd, 1) ∧ decode code 568 = .ok (.iaload, 1) ∧ decode code 569 = .ok (.invokevirtual 58, 3) ∧ decode code 572 = .ok (.pop, 1) ∧ decode code 573 = .ok (.goto 1008, 3) ∧ decode code 576 = .ok (.aload_n 1, 1) ∧ decode code 577 = .ok (.aload_n 0, 1) ∧ decode code 578 = .ok (.iload_n 3, 1) ∧ decode code 579 = .ok (.iconst 1, 1) ∧ decode code 580 = .ok (.iadd, 1) ∧ decode code 581 = .ok (.iaload, 1) := by decide +kernel
theorem dL_562 : decode code 562 = .ok (.iadd, 1) := dLc_20.1
theorem dL_563 : decode code 563 = .ok (.iaload, 1) := dLc_20.2.1
theorem dL_564 : decode code 564 = .ok (.aload_n 0, 1) := dLc_20.2.2.1
theorem dL_565 : decode code 565 = .ok (.iload_n 3, 1) := dLc_20.2.2.2.1
theorem dL_566 : decode code 566 = .ok (.iconst 2, 1) := dLc_20.2.2.2.2.1
theorem dL_567 : decode code 567 = .ok (.iadd, 1) := dLc_20.2.2.2.2.2.1
theorem dL_568 : decode code 568 = .ok (.iaload, 1) := dLc_20.2.2.2.2.2.2.1
theorem dL_569 : decode code 569 = .ok (.invokevirtual 58, 3) := dLc_20.2.2.2.2.2.2.2.1
theorem dL_572 : decode code 572 = .ok (.pop, 1) := dLc_20.2.2.2.2.2.2.2.2.1
theorem dL_573 : decode code 573 = .ok (.goto 1008, 3) := dLc_20.2.2.2.2.2.2.2.2.2.1
theorem dL_576 : decode code 576 = .ok (.aload_n 1, 1) := dLc_20.2.2.2.2.2.2.2.2.2.2.1
theorem dL_577 : decode code 577 = .ok (.aload_n 0, 1) := dLc_20.2.2.2.2.2.2.2.2.2.2.2.1
theorem dL_578 : decode code 578 = .ok (.iload_n 3, 1) := dLc_20.2.2.2.2.2.2.2.2.2.2.2.2.1
theorem dL_579 : decode code 579 = .ok (.iconst 1, 1) := dLc_20.2.2.2.2.2.2.2.2.2.2.2.2.2.1
theorem dL_580 : decode code 580 = .ok (.iadd, 1) := dLc_20.2.2.2.2.2.2.2.2.2.2.2.2.2.2.1
theorem dL_581 : decode code 581 = .ok (.iaload, 1) := dLc_20.2.2.2.2.2.2.2.2.2.2.2.2.2.2.2
set_option maxRecDepth 20000 in
theorem dLc_21 : decode code 582 = .ok (.aload_n 0, 1) ∧ decode code 583 = .ok (.iload_n 3, 1) ∧ decode code 584 = .ok (.iconst 2, 1) ∧ decode code 585 = .ok (.iadd, 1) ∧ decode code 586 = .ok (.iaload, 1) ∧ decode code 587 = .ok (.invokevirtual 59, 3) ∧ decode code 590 = .ok (.pop, 1) ∧ decode code 591 = .ok (.aload_n 2, 1) ∧ decode code 592 = .ok (.aload_n 0, 1) ∧ decode code 593 = .ok (.iload_n 3, 1) ∧ decode code 594 = .ok (.iconst 1, 1) ∧ decode code 595 = .ok (.iadd, 1) ∧ decode code 596 = .ok (.iaload, 1) ∧ decode code 597 = .ok (.aload_n 0, 1) ∧ decode code 598 = .ok (.iload_n 3, 1) ∧ decode code 599 = .ok (.iconst 2, 1) := by decide +kernel
theorem dL_582 : decode code 582 = .ok (.aload_n 0, 1) := dLc_21.1
theorem dL_583 : decode code 583 = .ok (.iload_n 3, 1) := dLc_21.2.1
theorem dL_584 : decode code 584 = .ok (.iconst 2, 1) := dLc_21.2.2.1
theorem dL_585 : decode code 585 = .ok (.iadd, 1) := dLc_21.2.2.2.1
theorem dL_586 : decode code 586 = .ok (.iaload, 1) := dLc_21.2.2.2.2.1
theorem dL_587 : decode code 587 = .ok (.invokevirtual 59, 3) := dLc_21.2.2.2.2.2.1
theorem dL_590 : decode code 590 = .ok (.pop, 1) := dLc_21.2.2.2.2.2.2.1
theorem dL_591 : decode code 591 = .ok (.aload_n 2, 1) := dLc_21.2.2.2.2.2.2.2.1
theorem dL_592 : decode code 592 = .ok (.aload_n 0, 1) := dLc_21.2.2.2.2.2.2.2.2.1
theorem dL_593 : decode code 593 = .ok (.iload_n 3, 1) := dLc_21.2.2.2.2.2.2.2.2.2.1
theorem dL_594 : decode code 594 = .ok (.iconst 1, 1) := dLc_21.2.2.2.2.2.2.2.2.2.2.1
theorem dL_595 : decode code 595 = .ok (.iadd, 1) := dLc_21.2.2.2.2.2.2.2.2.2.2.2.1
theorem dL_596 : decode code 596 = .ok (.iaload, 1) := dLc_21.2.2.2.2.2.2.2.2.2.2.2.2.1
theorem dL_597 : decode code 597 = .ok (.aload_n 0, 1) := dLc_21.2.2.2.2.2.2.2.2.2.2.2.2.2.1
theorem dL_598 : decode code 598 = .ok (.iload_n 3, 1) := dLc_21.2.2.2.2.2.2.2.2.2.2.2.2.2.2.1
theorem dL_599 : decode code 599 = .ok (.iconst 2, 1) := dLc_21.2.2.2.2.2.2.2.2.2.2.2.2.2.2.2
set_option maxRecDepth 20000 in
theorem dLc_22 : decode code 600 = .ok (.iadd, 1) ∧ decode code 601 = .ok (.iaload, 1) ∧ decode code 602 = .ok (.invokevirtual 62, 3) ∧ decode code 605 = .ok (.pop, 1) ∧ decode code 606 = .ok (.goto 975, 3) ∧ decode code 609 = .ok (.aload_n 1, 1) ∧ decode code 610 = .ok (.aload_n 0, 1) ∧ decode code 611 = .ok (.iload_n 3, 1) ∧ decode code 612 = .ok (.iconst 1, 1) ∧ decode code 613 = .ok (.iadd, 1) ∧ decode code 614 = .ok (.iaload, 1) ∧ decode code 615 = .ok (.aload_n 0, 1) ∧ decode code 616 = .ok (.iload_n 3, 1) ∧ decode code 617 = .ok (.iconst 2, 1) ∧ decode code 618 = .ok (.iadd, 1) ∧ decode code 619 = .ok (.iaload, 1) := by decide +kernel
theorem dL_600 : decode code 600 = .ok (.iadd, 1) := dLc_22.1
theorem dL_601 : decode code 601 = .ok (.iaload, 1) := dLc_22.2.1
theorem dL_602 : decode code 602 = .ok (.invokevirtual 62, 3) := dLc_22.2.2.1
theorem dL_605 : decode code 605 = .ok (.pop, 1) := dLc_22.2.2.2.1
theorem dL_606 : decode code 606 = .ok (.goto 975, 3) := dLc_22.2.2.2.2.1
theorem dL_609 : decode code 609 = .ok (.aload_n 1, 1) := dLc_22.2.2.2.2.2.1
theorem dL_610 : decode code 610 = .ok (.aload_n 0, 1) := dLc_22.2.2.2.2.2.2.1
theorem dL_611 : decode code 611 = .ok (.iload_n 3, 1) := dLc_22.2.2.2.2.2.2.2.1
theorem dL_612 : decode code 612 = .ok (.iconst 1, 1) := dLc_22.2.2.2.2.2.2.2.2.1
theorem dL_613 : decode code 613 = .ok (.iadd, 1) := dLc_22.2.2.2.2.2.2.2.2.2.1
theorem dL_614 : decode code 614 = .ok (.iaload, 1) := dLc_22.2.2.2.2.2.2.2.2.2.2.1
theorem dL_615 : decode code 615 = .ok (.aload_n 0, 1) := dLc_22.2.2.2.2.2.2.2.2.2.2.2.1
theorem dL_616 : decode code 616 = .ok (.iload_n 3, 1) := dLc_22.2.2.2.2.2.2.2.2.2.2.2.2.1
theorem dL_617 : decode code 617 = .ok (.iconst 2, 1) := dLc_22.2.2.2.2.2.2.2.2.2.2.2.2.2.1
theorem dL_618 : decode code 618 = .ok (.iadd, 1) := dLc_22.2.2.2.2.2.2.2.2.2.2.2.2.2.2.1
theorem dL_619 : decode code 619 = .ok (.iaload, 1) := dLc_22.2.2.2.2.2.2.2.2.2.2.2.2.2.2.2
set_option maxRecDepth 20000 in
theorem dLc_23 : decode code 620 = .ok (.aload_n 0, 1) ∧ decode code 621 = .ok (.iload_n 3, 1) ∧ decode code 622 = .ok (.iconst 3, 1) ∧ decode code 623 = .ok (.iadd, 1) ∧ decode code 624 = .ok (.iaload, 1) ∧ decode code 625 = .ok (.aload_n 0, 1) ∧ decode code 626 = .ok (.iload_n 3, 1) ∧ decode code 627 = .ok (.iconst 4, 1) ∧ decode code 628 = .ok (.iadd, 1) ∧ decode code 629 = .ok (.iaload, 1) ∧ decode code 630 = .ok (.invokevirtual 63, 3) ∧ decode code 633 = .ok (.pop, 1) ∧ decode code 634 = .ok (.aload_n 2, 1) ∧ decode code 635 = .ok (.aload_n 0, 1) ∧ decode code 636 = .ok (.iload_n 3, 1) ∧ decode code 637 = .ok (.iconst 1, 1) := by decide +kernel
theorem dL_620 : decode code 620 = .ok (.aload_n 0, 1) := dLc_23.1
theorem dL_621 : decode code 621 = .ok (.iload_n 3, 1) := dLc_23.2.1
theorem dL_622 : decode code 622 = .ok (.iconst 3, 1) := dLc_23.2.2.1
theorem dL_623 : decode code 623 = .ok (.iadd, 1) := dLc_23.2.2.2.1
theorem dL_624 : decode code 624 = .ok (.iaload, 1) := dLc_23.2.2.2.2.1
theorem dL_625 : decode code 625 = .ok (.aload_n 0, 1) := dLc_23.2.2.2.2.2.1
theorem dL_626 : decode code 626 = .ok (.iload_n 3, 1) := dLc_23.2.2.2.2.2.2.1
theorem dL_627 : decode code 627 = .ok (.iconst 4, 1) := dLc_23.2.2.2.2.2.2.2.1
theorem dL_628 : decode code 628 = .ok (.iadd, 1) := dLc_23.2.2.2.2.2.2.2.2.1
theorem dL_629 : decode code 629 = .ok (.iaload, 1) := dLc_23.2.2.2.2.2.2.2.2.2.1
theorem dL_630 : decode code 630 = .ok (.invokevirtual 63, 3) := dLc_23.2.2.2.2.2.2.2.2.2.2.1
theorem dL_633 : decode code 633 = .ok (.pop, 1) := dLc_23.2.2.2.2.2.2.2.2.2.2.2.1
theorem dL_634 : decode code 634 = .ok (.aload_n 2, 1) := dLc_23.2.2.2.2.2.2.2.2.2.2.2.2.1
theorem dL_635 : decode code 635 = .ok (.aload_n 0, 1) := dLc_23.2.2.2.2.2.2.2.2.2.2.2.2.2.1
theorem dL_636 : decode code 636 = .ok (.iload_n 3, 1) := dLc_23.2.2.2.2.2.2.2.2.2.2.2.2.2.2.1
theorem dL_637 : decode code 637 = .ok (.iconst 1, 1) := dLc_23.2.2.2.2.2.2.2.2.2.2.2.2.2.2.2
set_option maxRecDepth 20000 in
theorem dLc_24 : decode code 638 = .ok (.iadd, 1) ∧ decode code 639 = .ok (.iaload, 1) ∧ decode code 640 = .ok (.aload_n 0, 1) ∧ decode code 641 = .ok (.iload_n 3, 1) ∧ decode code 642 = .ok (.iconst 2, 1) ∧ decode code 643 = .ok (.iadd, 1) ∧ decode code 644 = .ok (.iaload, 1) ∧ decode code 645 = .ok (.aload_n 0, 1) ∧ decode code 646 = .ok (.iload_n 3, 1) ∧ decode code 647 = .ok (.iconst 3, 1) ∧ decode code 648 = .ok (.iadd, 1) ∧ decode code 649 = .ok (.iaload, 1) ∧ decode code 650 = .ok (.aload_n 0, 1) ∧ decode code 651 = .ok (.iload_n 3, 1) ∧ decode code 652 = .ok (.iconst 4, 1) ∧ decode code 653 = .ok (.iadd, 1) := by decide +kernel
theorem dL_638 : decode code 638 = .ok (.iadd, 1) := dLc_24.1
theorem dL_639 : decode code 639 = .ok (.iaload, 1) := dLc_24.2.1
theorem dL_640 : decode code 640 = .ok (.aload_n 0, 1) := dLc_24.2.2.1
theorem dL_641 : decode code 641 = .ok (.iload_n 3, 1) := dLc_24.2.2.2.1
theorem dL_642 : decode code 642 = .ok (.iconst 2, 1) := dLc_24.2.2.2.2.1
theorem dL_643 : decode code 643 = .ok (.iadd, 1) := dLc_24.2.2.2.2.2.1
theorem dL_644 : decode code 644 = .ok (.iaload, 1) := dLc_24.2.2.2.2.2.2.1
theorem dL_645 : decode code 645 = .ok (.aload_n 0, 1) := dLc_24.2.2.2.2.2.2.2.1
theorem dL_646 : decode code 646 = .ok (.iload_n 3, 1) := dLc_24.2.2.2.2.2.2.2.2.1
theorem dL_647 : decode code 647 = .ok (.iconst 3, 1) := dLc_24.2.2.2.2.2.2.2.2.2.1
theorem dL_648 : decode code 648 = .ok (.iadd, 1) := dLc_24.2.2.2.2.2.2.2.2.2.2.1
theorem dL_649 : decode code 649 = .ok (.iaload, 1) := dLc_24.2.2.2.2.2.2.2.2.2.2.2.1
theorem dL_650 : decode code 650 = .ok (.aload_n 0, 1) := dLc_24.2.2.2.2.2.2.2.2.2.2.2.2.1
theorem dL_651 : decode code 651 = .ok (.iload_n 3, 1) := dLc_24.2.2.2.2.2.2.2.2.2.2.2.2.2.1
theorem dL_652 : decode code 652 = .ok (.iconst 4, 1) := dLc_24.2.2.2.2.2.2.2.2.2.2.2.2.2.2.1
theorem dL_653 : decode code 653 = .ok (.iadd, 1) := dLc_24.2.2.2.2.2.2.2.2.2.2.2.2.2.2.2
set_option maxRecDepth 20000 in
theorem dLc_25 : decode code 654 = .ok (.iaload, 1) ∧ decode code 655 = .ok (.invokevirtual 67, 3) ∧ decode code 658 = .ok (.pop, 1) ∧ decode code 659 = .ok (.goto 922, 3) ∧ decode code 662 = .ok (.aload_n 1, 1) ∧ decode code 663 = .ok (.aload_n 0, 1) ∧ decode code 664 = .ok (.iload_n 3, 1) ∧ decode code 665 = .ok (.iconst 1, 1) ∧ decode code 666 = .ok (.iadd, 1) ∧ decode code 667 = .ok (.iaload, 1) ∧ decode code 668 = .ok (.aload_n 0, 1) ∧ decode code 669 = .ok (.iload_n 3, 1) ∧ decode code 670 = .ok (.iconst 2, 1) ∧ decode code 671 = .ok (.iadd, 1) ∧ decode code 672 = .ok (.iaload, 1) ∧ decode code 673 = .ok (.invokevirtual 68, 3) := by decide +kernel
theorem dL_654 : decode code 654 = .ok (.iaload, 1) := dLc_25.1
theorem dL_655 : decode code 655 = .ok (.invokevirtual 67, 3) := dLc_25.2.1
theorem dL_658 : decode code 658 = .ok (.pop, 1) := dLc_25.2.2.1
theorem dL_659 : decode code 659 = .ok (.goto 922, 3) := dLc_25.2.2.2.1
theorem dL_662 : decode code 662 = .ok (.aload_n 1, 1) := dLc_25.2.2.2.2.1
theorem dL_663 : decode code 663 = .ok (.aload_n 0, 1) := dLc_25.2.2.2.2.2.1
theorem dL_664 : decode code 664 = .ok (.iload_n 3, 1) := dLc_25.2.2.2.2.2.2.1
theorem dL_665 : decode code 665 = .ok (.iconst 1, 1) := dLc_25.2.2.2.2.2.2.2.1
theorem dL_666 : decode code 666 = .ok (.iadd, 1) := dLc_25.2.2.2.2.2.2.2.2.1
theorem dL_667 : decode code 667 = .ok (.iaload, 1) := dLc_25.2.2.2.2.2.2.2.2.2.1
theorem dL_668 : decode code 668 = .ok (.aload_n 0, 1) := dLc_25.2.2.2.2.2.2.2.2.2.2.1
theorem dL_669 : decode code 669 = .ok (.iload_n 3, 1) := dLc_25.2.2.2.2.2.2.2.2.2.2.2.1
theorem dL_670 : decode code 670 = .ok (.iconst 2, 1) := dLc_25.2.2.2.2.2.2.2.2.2.2.2.2.1
theorem dL_671 : decode code 671 = .ok (.iadd, 1) := dLc_25.2.2.2.2.2.2.2.2.2.2.2.2.2.1
theorem dL_672 : decode code 672 = .ok (.iaload, 1) := dLc_25.2.2.2.2.2.2.2.2.2.2.2.2.2.2.1
theorem dL_673 : decode code 673 = .ok (.invokevirtual 68, 3) := dLc_25.2.2.2.2.2.2.2.2.2.2.2.2.2.2.2
set_option maxRecDepth 20000 in
theorem dLc_26 : decode code 676 = .ok (.pop, 1) ∧ decode code 677 = .ok (.aload_n 2, 1) ∧ decode code 678 = .ok (.aload_n 0, 1) ∧ decode code 679 = .ok (.iload_n 3, 1) ∧ decode code 680 = .ok (.iconst 1, 1) ∧ decode code 681 = .ok (.iadd, 1) ∧ decode code 682 = .ok (.iaload, 1) ∧ decode code 683 = .ok (.aload_n 0, 1) ∧ decode code 684 = .ok (.iload_n 3, 1) ∧ decode code 685 = .ok (.iconst 2, 1) ∧ decode code 686 = .ok (.iadd, 1) ∧ decode code 687 = .ok (.iaload, 1) ∧ decode code 688 = .ok (.invokevirtual 71, 3) ∧ decode code 691 = .ok (.pop, 1) ∧ decode code 692 = .ok (.goto 889, 3) ∧ decode code 695 = .ok (.aload_n 1, 1) := by decide +kernel
theorem dL_676 : decode code 676 = .ok (.pop, 1) := dLc_26.1
theorem dL_677 : decode code 677 = .ok (.aload_n 2, 1) := dLc_26.2.1
theorem dL_678 : decode code 678 = .ok (.aload_n 0, 1) := dLc_26.2.2.1
theorem dL_679 : decode code 679 = .ok (.iload_n 3, 1) := dLc_26.2.2.2.1
theorem dL_680 : decode code 680 = .ok (.iconst 1, 1) := dLc_26.2.2.2.2.1
theorem dL_681 : decode code 681 = .ok (.iadd, 1) := dLc_26.2.2.2.2.2.1
theorem dL_682 : decode code 682 = .ok (.iaload, 1) := dLc_26.2.2.2.2.2.2.1
theorem dL_683 : decode code 683 = .ok (.aload_n 0, 1) := dLc_26.2.2.2.2.2.2.2.1
theorem dL_684 : decode code 684 = .ok (.iload_n 3, 1) := dLc_26.2.2.2.2.2.2.2.2.1
theorem dL_685 : decode code 685 = .ok (.iconst 2, 1) := dLc_26.2.2.2.2.2.2.2.2.2.1
theorem dL_686 : decode code 686 = .ok (.iadd, 1) := dLc_26.2.2.2.2.2.2.2.2.2.2.1
theorem dL_687 : decode code 687 = .ok (.iaload, 1) := dLc_26.2.2.2.2.2.2.2.2.2.2.2.1
theorem dL_688 : decode code 688 = .ok (.invokevirtual 71, 3) := dLc_26.2.2.2.2.2.2.2.2.2.2.2.2.1
theorem dL_691 : decode code 691 = .ok (.pop, 1) := dLc_26.2.2.2.2.2.2.2.2.2.2.2.2.2.1
theorem dL_692 : decode code 692 = .ok (.goto 889, 3) := dLc_26.2.2.2.2.2.2.2.2.2.2.2.2.2.2.1
theorem dL_695 : decode code 695 = .ok (.aload_n 1, 1) := dLc_26.2.2.2.2.2.2.2.2.2.2.2.2.2.2.2
set_option maxRecDepth 20000 in
theorem dLc_27 : decode code 696 = .ok (.aload_n 0, 1) ∧ decode code 697 = .ok (.iload_n 3, 1) ∧ decode code 698 = .ok (.iconst 1, 1) ∧ decode code 699 = .ok (.iadd, 1) ∧ decode code 700 = .ok (.iaload, 1) ∧ decode code 701 = .ok (.aload_n 0, 1) ∧ decode code 702 = .ok (.iload_n 3, 1) ∧ decode code 703 = .ok (.iconst 2, 1) ∧ decode code 704 = .ok (.iadd, 1) ∧ decode code 705 = .ok (.iaload, 1) ∧ decode code 706 = .ok (.invokevirtual 72, 3) ∧ decode code 709 = .ok (.pop, 1) ∧ decode code 710 = .ok (.aload_n 2, 1) ∧ decode code 711 = .ok (.aload_n 0, 1) ∧ decode code 712 = .ok (.iload_n 3, 1) ∧ decode code 713 = .ok (.iconst 1, 1) := by decide +kernel
theorem dL_696 : decode code 696 = .ok (.aload_n 0, 1) := dLc_27.1
theorem dL_697 : decode code 697 = .ok (.iload_n 3, 1) := dLc_27.2.1
theorem dL_698 : decode code 698 = .ok (.iconst 1, 1) := dLc_27.2.2.1
theorem dL_699 : decode code 699 = .ok (.iadd, 1) := dLc_27.2.2.2.1
theorem dL_700 : decode code 700 = .ok (.iaload, 1) := dLc_27.2.2.2.2.1
theorem dL_701 : decode code 701 = .ok (.aload_n 0, 1) := dLc_27.2.2.2.2.2.1
theorem dL_702 : decode code 702 = .ok (.iload_n 3, 1) := dLc_27.2.2.2.2.2.2.1
theorem dL_703 : decode code 703 = .ok (.iconst 2, 1) := dLc_27.2.2.2.2.2.2.2.1
theorem dL_704 : decode code 704 = .ok (.iadd, 1) := dLc_27.2.2.2.2.2.2.2.2.1
theorem dL_705 : decode code 705 = .ok (.iaload, 1) := dLc_27.2.2.2.2.2.2.2.2.2.1
theorem dL_706 : decode code 706 = .ok (.invokevirtual 72, 3) := dLc_27.2.2.2.2.2.2.2.2.2.2.1
theorem dL_709 : decode code 709 = .ok (.pop, 1) := dLc_27.2.2.2.2.2.2.2.2.2.2.2.1
theorem dL_710 : decode code 710 = .ok (.aload_n 2, 1) := dLc_27.2.2.2.2.2.2.2.2.2.2.2.2.1
theorem dL_711 : decode code 711 = .ok (.aload_n 0, 1) := dLc_27.2.2.2.2.2.2.2.2.2.2.2.2.2.1
theorem dL_712 : decode code 712 = .ok (.iload_n 3, 1) := dLc_27.2.2.2.2.2.2.2.2.2.2.2.2.2.2.1
theorem dL_713 : decode code 713 = .ok (.iconst 1, 1) := dLc_27.2.2.2.2.2.2.2.2.2.2.2.2.2.2.2
set_option maxRecDepth 20000 in
theorem dLc_28 : decode code 714 = .ok (.iadd, 1) ∧ decode code 715 = .ok (.iaload, 1) ∧ decode code 716 = .ok (.aload_n 0, 1) ∧ decode code 717 = .ok (.iload_n 3, 1) ∧ decode code 718 = .ok (.iconst 2, 1) ∧ decode code 719 = .ok (.iadd, 1) ∧ decode code 720 = .ok (.iaload, 1) ∧ decode code 721 = .ok (.invokevirtual 75, 3) ∧ decode code 724 = .ok (.pop, 1) ∧ decode code 725 = .ok (.goto 856, 3) ∧ decode code 728 = .ok (.aload_n 1, 1) ∧ decode code 729 = .ok (.aload_n 0, 1) ∧ decode code 730 = .ok (.iload_n 3, 1) ∧ decode code 731 = .ok (.iconst 1, 1) ∧ decode code 732 = .ok (.iadd, 1) ∧ decode code 733 = .ok (.iaload, 1) := by decide +kernel
theorem dL_714 : decode code 714 = .ok (.iadd, 1) := dLc_28.1
theorem dL_715 : decode code 715 = .ok (.iaload, 1) := dLc_28.2.1
theorem dL_716 : decode code 716 = .ok (.aload_n 0, 1) := dLc_28.2.2.1
theorem dL_717 : decode code 717 = .ok (.iload_n 3, 1) := dLc_28.2.2.2.1
theorem dL_718 : decode code 718 = .ok (.iconst 2, 1) := dLc_28.2.2.2.2.1
theorem dL_719 : decode code 719 = .ok (.iadd, 1) := dLc_28.2.2.2.2.2.1
theorem dL_720 : decode code 720 = .ok (.iaload, 1) := dLc_28.2.2.2.2.2.2.1
theorem dL_721 : decode code 721 = .ok (.invokevirtual 75, 3) := dLc_28.2.2.2.2.2.2.2.1
theorem dL_724 : decode code 724 = .ok (.pop, 1) := dLc_28.2.2.2.2.2.2.2.2.1
theorem dL_725 : decode code 725 = .ok (.goto 856, 3) := dLc_28.2.2.2.2.2.2.2.2.2.1
theorem dL_728 : decode code 728 = .ok (.aload_n 1, 1) := dLc_28.2.2.2.2.2.2.2.2.2.2.1
theorem dL_729 : decode code 729 = .ok (.aload_n 0, 1) := dLc_28.2.2.2.2.2.2.2.2.2.2.2.1
theorem dL_730 : decode code 730 = .ok (.iload_n 3, 1) := dLc_28.2.2.2.2.2.2.2.2.2.2.2.2.1
theorem dL_731 : decode code 731 = .ok (.iconst 1, 1) := dLc_28.2.2.2.2.2.2.2.2.2.2.2.2.2.1
theorem dL_732 : decode code 732 = .ok (.iadd, 1) := dLc_28.2.2.2.2.2.2.2.2.2.2.2.2.2.2.1
theorem dL_733 : decode code 733 = .ok (.iaload, 1) := dLc_28.2.2.2.2.2.2.2.2.2.2.2.2.2.2.2
set_option maxRecDepth 20000 in
theorem dLc_29 : decode code 734 = .ok (.aload_n 0, 1) ∧ decode code 735 = .ok (.iload_n 3, 1) ∧ decode code 736 = .ok (.iconst 2, 1) ∧ decode code 737 = .ok (.iadd, 1) ∧ decode code 738 = .ok (.iaload, 1) ∧ decode code 739 = .ok (.invokevirtual 76, 3) ∧ decode code 742 = .ok (.pop, 1) ∧ decode code 743 = .ok (.aload_n 2, 1) ∧ decode code 744 = .ok (.aload_n 0, 1) ∧ decode code 745 = .ok (.iload_n 3, 1) ∧ decode code 746 = .ok (.iconst 1, 1) ∧ decode code 747 = .ok (.iadd, 1) ∧ decode code 748 = .ok (.iaload, 1) ∧ decode code 749 = .ok (.aload_n 0, 1) ∧ decode code 750 = .ok (.iload_n 3, 1) ∧ decode code 751 = .ok (.iconst 2, 1) := by decide +kernel
theorem dL_734 : decode code 734 = .ok (.aload_n 0, 1) := dLc_29.1
theorem dL_735 : decode code 735 = .ok (.iload_n 3, 1) := dLc_29.2.1
theorem dL_736 : decode code 736 = .ok (.iconst 2, 1) := dLc_29.2.2.1
theorem dL_737 : decode code 737 = .ok (.iadd, 1) := dLc_29.2.2.2.1
theorem dL_738 : decode code 738 = .ok (.iaload, 1) := dLc_29.2.2.2.2.1
theorem dL_739 : decode code 739 = .ok (.invokevirtual 76, 3) := dLc_29.2.2.2.2.2.1
theorem dL_742 : decode code 742 = .ok (.pop, 1) := dLc_29.2.2.2.2.2.2.1
theorem dL_743 : decode code 743 = .ok (.aload_n 2, 1) := dLc_29.2.2.2.2.2.2.2.1
theorem dL_744 : decode code 744 = .ok (.aload_n 0, 1) := dLc_29.2.2.2.2.2.2.2.2.1
theorem dL_745 : decode code 745 = .ok (.iload_n 3, 1) := dLc_29.2.2.2.2.2.2.2.2.2.1
theorem dL_746 : decode code 746 = .ok (.iconst 1, 1) := dLc_29.2.2.2.2.2.2.2.2.2.2.1
theorem dL_747 : decode code 747 = .ok (.iadd, 1) := dLc_29.2.2.2.2.2.2.2.2.2.2.2.1
theorem dL_748 : decode code 748 = .ok (.iaload, 1) := dLc_29.2.2.2.2.2.2.2.2.2.2.2.2.1
theorem dL_749 : decode code 749 = .ok (.aload_n 0, 1) := dLc_29.2.2.2.2.2.2.2.2.2.2.2.2.2.1
theorem dL_750 : decode code 750 = .ok (.iload_n 3, 1) := dLc_29.2.2.2.2.2.2.2.2.2.2.2.2.2.2.1
theorem dL_751 : decode code 751 = .ok (.iconst 2, 1) := dLc_29.2.2.2.2.2.2.2.2.2.2.2.2.2.2.2
set_option maxRecDepth 20000 in
theorem dLc_30 : decode code 752 = .ok (.iadd, 1) ∧ decode code 753 = .ok (.iaload, 1) ∧ decode code 754 = .ok (.invokevirtual 79, 3) ∧ decode code 757 = .ok (.pop, 1) ∧ decode code 758 = .ok (.goto 823, 3) ∧ decode code 761 = .ok (.aload_n 1, 1) ∧ decode code 762 = .ok (.aload_n 0, 1) ∧ decode code 763 = .ok (.iload_n 3, 1) ∧ decode code 764 = .ok (.iconst 1, 1) ∧ decode code 765 = .ok (.iadd, 1) ∧ decode code 766 = .ok (.iaload, 1) ∧ decode code 767 = .ok (.aload_n 0, 1) ∧ decode code 768 = .ok (.iload_n 3, 1) ∧ decode code 769 = .ok (.iconst 2, 1) ∧ decode code 770 = .ok (.iadd, 1) ∧ decode code 771 = .ok (.iaload, 1) := by decide +kernel
theorem dL_752 : decode code 752 = .ok (.iadd, 1) := dLc_30.1
theorem dL_753 : decode code 753 = .ok (.iaload, 1) := dLc_30.2.1
theorem dL_754 : decode code 754 = .ok (.invokevirtual 79, 3) := dLc_30.2.2.1
theorem dL_757 : decode code 757 = .ok (.pop, 1) := dLc_30.2.2.2.1
theorem dL_758 : decode code 758 = .ok (.goto 823, 3) := dLc_30.2.2.2.2.1
theorem dL_761 : decode code 761 = .ok (.aload_n 1, 1) := dLc_30.2.2.2.2.2.1
theorem dL_762 : decode code 762 = .ok (.aload_n 0, 1) := dLc_30.2.2.2.2.2.2.1
theorem dL_763 : decode code 763 = .ok (.iload_n 3, 1) := dLc_30.2.2.2.2.2.2.2.1
theorem dL_764 : decode code 764 = .ok (.iconst 1, 1) := dLc_30.2.2.2.2.2.2.2.2.1
theorem dL_765 : decode code 765 = .ok (.iadd, 1) := dLc_30.2.2.2.2.2.2.2.2.2.1
theorem dL_766 : decode code 766 = .ok (.iaload, 1) := dLc_30.2.2.2.2.2.2.2.2.2.2.1
theorem dL_767 : decode code 767 = .ok (.aload_n 0, 1) := dLc_30.2.2.2.2.2.2.2.2.2.2.2.1
theorem dL_768 : decode code 768 = .ok (.iload_n 3, 1) := dLc_30.2.2.2.2.2.2.2.2.2.2.2.2.1
theorem dL_769 : decode code 769 = .ok (.iconst 2, 1) := dLc_30.2.2.2.2.2.2.2.2.2.2.2.2.2.1
theorem dL_770 : decode code 770 = .ok (.iadd, 1) := dLc_30.2.2.2.2.2.2.2.2.2.2.2.2.2.2.1
theorem dL_771 : decode code 771 = .ok (.iaload, 1) := dLc_30.2.2.2.2.2.2.2.2.2.2.2.2.2.2.2
set_option maxRecDepth 20000 in
theorem dLc_31 : decode code 772 = .ok (.aload_n 0, 1) ∧ decode code 773 = .ok (.iload_n 3, 1) ∧ decode code 774 = .ok (.iconst 3, 1) ∧ decode code 775 = .ok (.iadd, 1) ∧ decode code 776 = .ok (.iaload, 1) ∧ decode code 777 = .ok (.invokevirtual 80, 3) ∧ decode code 780 = .ok (.pop, 1) ∧ decode code 781 = .ok (.aload_n 2, 1) ∧ decode code 782 = .ok (.aload_n 0, 1) ∧ decode code 783 = .ok (.iload_n 3, 1) ∧ decode code 784 = .ok (.iconst 1, 1) ∧ decode code 785 = .ok (.iadd, 1) ∧ decode code 786 = .ok (.iaload, 1) ∧ decode code 787 = .ok (.aload_n 0, 1) ∧ decode code 788 = .ok (.iload_n 3, 1) ∧ decode code 789 = .ok (.iconst 2, 1) := by decide +kernel
theorem dL_772 : decode code 772 = .ok (.aload_n 0, 1) := dLc_31.1
theorem dL_773 : decode code 773 = .ok (.iload_n 3, 1) := dLc_31.2.1
theorem dL_774 : decode code 774 = .ok (.iconst 3, 1) := dLc_31.2.2.1
theorem dL_775 : decode code 775 = .ok (.iadd, 1) := dLc_31.2.2.2.1
theorem dL_776 : decode code 776 = .ok (.iaload, 1) := dLc_31.2.2.2.2.1
theorem dL_777 : decode code 777 = .ok (.invokevirtual 80, 3) := dLc_31.2.2.2.2.2.1
theorem dL_780 : decode code 780 = .ok (.pop, 1) := dLc_31.2.2.2.2.2.2.1
theorem dL_781 : decode code 781 = .ok (.aload_n 2, 1) := dLc_31.2.2.2.2.2.2.2.1
theorem dL_782 : decode code 782 = .ok (.aload_n 0, 1) := dLc_31.2.2.2.2.2.2.2.2.1
theorem dL_783 : decode code 783 = .ok (.iload_n 3, 1) := dLc_31.2.2.2.2.2.2.2.2.2.1
theorem dL_784 : decode code 784 = .ok (.iconst 1, 1) := dLc_31.2.2.2.2.2.2.2.2.2.2.1
theorem dL_785 : decode code 785 = .ok (.iadd, 1) := dLc_31.2.2.2.2.2.2.2.2.2.2.2.1
theorem dL_786 : decode code 786 = .ok (.iaload, 1) := dLc_31.2.2.2.2.2.2.2.2.2.2.2.2.1
theorem dL_787 : decode code 787 = .ok (.aload_n 0, 1) := dLc_31.2.2.2.2.2.2.2.2.2.2.2.2.2.1
theorem dL_788 : decode code 788 = .ok (.iload_n 3, 1) := dLc_31.2.2.2.2.2.2.2.2.2.2.2.2.2.2.1
theorem dL_789 : decode code 789 = .ok (.iconst 2, 1) := dLc_31.2.2.2.2.2.2.2.2.2.2.2.2.2.2.2
set_option maxRecDepth 20000 in
theorem dLc_32 : decode code 790 = .ok (.iadd, 1) ∧ decode code 791 = .ok (.iaload, 1) ∧ decode code 792 = .ok (.aload_n 0, 1) ∧ decode code 793 = .ok (.iload_n 3, 1) ∧ decode code 794 = .ok (.iconst 3, 1) ∧ decode code 795 = .ok (.iadd, 1) ∧ decode code 796 = .ok (.iaload, 1) ∧ decode code 797 = .ok (.invokevirtual 84, 3) ∧ decode code 800 = .ok (.pop, 1) ∧ decode code 801 = .ok (.goto 780, 3) ∧ decode code 804 = .ok (.aload_n 1, 1) ∧ decode code 805 = .ok (.aload_n 0, 1) ∧ decode code 806 = .ok (.iload_n 3, 1) ∧ decode code 807 = .ok (.iconst 1, 1) ∧ decode code 808 = .ok (.iadd, 1) ∧ decode code 809 = .ok (.iaload, 1) := by decide +kernel
theorem dL_790 : decode code 790 = .ok (.iadd, 1) := dLc_32.1
theorem dL_791 : decode code 791 = .ok (.iaload, 1) := dLc_32.2.1
theorem dL_792 : decode code 792 = .ok (.aload_n 0, 1) := dLc_32.2.2.1
theorem dL_793 : decode code 793 = .ok (.iload_n 3, 1) := dLc_32.2.2.2.1
theorem dL_794 : decode code 794 = .ok (.iconst 3, 1) := dLc_32.2.2.2.2.1
theorem dL_795 : decode code 795 = .ok (.iadd, 1) := dLc_32.2.2.2.2.2.1
theorem dL_796 : decode code 796 = .ok (.iaload, 1) := dLc_32.2.2.2.2.2.2.1
theorem dL_797 : decode code 797 = .ok (.invokevirtual 84, 3) := dLc_32.2.2.2.2.2.2.2.1
theorem dL_800 : decode code 800 = .ok (.pop, 1) := dLc_32.2.2.2.2.2.2.2.2.1
theorem dL_801 : decode code 801 = .ok (.goto 780, 3) := dLc_32.2.2.2.2.2.2.2.2.2.1
theorem dL_804 : decode code 804 = .ok (.aload_n 1, 1) := dLc_32.2.2.2.2.2.2.2.2.2.2.1
theorem dL_805 : decode code 805 = .ok (.aload_n 0, 1) := dLc_32.2.2.2.2.2.2.2.2.2.2.2.1
theorem dL_806 : decode code 806 = .ok (.iload_n 3, 1) := dLc_32.2.2.2.2.2.2.2.2.2.2.2.2.1
theorem dL_807 : decode code 807 = .ok (.iconst 1, 1) := dLc_32.2.2.2.2.2.2.2.2.2.2.2.2.2.1
theorem dL_808 : decode code 808 = .ok (.iadd, 1) := dLc_32.2.2.2.2.2.2.2.2.2.2.2.2.2.2.1
theorem dL_809 : decode code 809 = .ok (.iaload, 1) := dLc_32.2.2.2.2.2.2.2.2.2.2.2.2.2.2.2
set_option maxRecDepth 20000 in
theorem dLc_33 : decode code 810 = .ok (.aload_n 0, 1) ∧ decode code 811 = .ok (.iload_n 3, 1) ∧ decode code 812 = .ok (.iconst 2, 1) ∧ decode code 813 = .ok (.iadd, 1) ∧ decode code 814 = .ok (.iaload, 1) ∧ decode code 815 = .ok (.invokevirtual 85, 3) ∧ decode code 818 = .ok (.pop, 1) ∧ decode code 819 = .ok (.aload_n 2, 1) ∧ decode code 820 = .ok (.aload_n 0, 1) ∧ decode code 821 = .ok (.iload_n 3, 1) ∧ decode code 822 = .ok (.iconst 1, 1) ∧ decode code 823 = .ok (.iadd, 1) ∧ decode code 824 = .ok (.iaload, 1) ∧ decode code 825 = .ok (.aload_n 0, 1) ∧ decode code 826 = .ok (.iload_n 3, 1) ∧ decode code 827 = .ok (.iconst 2, 1) := by decide +kernel
theorem dL_810 : decode code 810 = .ok (.aload_n 0, 1) := dLc_33.1
theorem dL_811 : decode code 811 = .ok (.iload_n 3, 1) := dLc_33.2.1
theorem dL_812 : decode code 812 = .ok (.iconst 2, 1) := dLc_33.2.2.1
theorem dL_813 : decode code 813 = .ok (.iadd, 1) := dLc_33.2.2.2.1
theorem dL_814 : decode code 814 = .ok (.iaload, 1) := dLc_33.2.2.2.2.1
theorem dL_815 : decode code 815 = .ok (.invokevirtual 85, 3) := dLc_33.2.2.2.2.2.1
theorem dL_818 : decode code 818 = .ok (.pop, 1) := dLc_33.2.2.2.2.2.2.1
theorem dL_819 : decode code 819 = .ok (.aload_n 2, 1) := dLc_33.2.2.2.2.2.2.2.1
theorem dL_820 : decode code 820 = .ok (.aload_n 0, 1) := dLc_33.2.2.2.2.2.2.2.2.1
theorem dL_821 : decode code 821 = .ok (.iload_n 3, 1) := dLc_33.2.2.2.2.2.2.2.2.2.1
theorem dL_822 : decode code 822 = .ok (.iconst 1, 1) := dLc_33.2.2.2.2.2.2.2.2.2.2.1
theorem dL_823 : decode code 823 = .ok (.iadd, 1) := dLc_33.2.2.2.2.2.2.2.2.2.2.2.1
theorem dL_824 : decode code 824 = .ok (.iaload, 1) := dLc_33.2.2.2.2.2.2.2.2.2.2.2.2.1
theorem dL_825 : decode code 825 = .ok (.aload_n 0, 1) := dLc_33.2.2.2.2.2.2.2.2.2.2.2.2.2.1
theorem dL_826 : decode code 826 = .ok (.iload_n 3, 1) := dLc_33.2.2.2.2.2.2.2.2.2.2.2.2.2.2.1
theorem dL_827 : decode code 827 = .ok (.iconst 2, 1) := dLc_33.2.2.2.2.2.2.2.2.2.2.2.2.2.2.2
set_option maxRecDepth 20000 in
theorem dLc_34 : decode code 828 = .ok (.iadd, 1) ∧ decode code 829 = .ok (.iaload, 1) ∧ decode code 830 = .ok (.invokevirtual 88, 3) ∧ decode code 833 = .ok (.pop, 1) ∧ decode code 834 = .ok (.goto 747, 3) ∧ decode code 837 = .ok (.aload_n 1, 1) ∧ decode code 838 = .ok (.aload_n 0, 1) ∧ decode code 839 = .ok (.iload_n 3, 1) ∧ decode code 840 = .ok (.iconst 1, 1) ∧ decode code 841 = .ok (.iadd, 1) ∧ decode code 842 = .ok (.iaload, 1) ∧ decode code 843 = .ok (.invokevirtual 89, 3) ∧ decode code 846 = .ok (.pop, 1) ∧ decode code 847 = .ok (.aload_n 2, 1) ∧ decode code 848 = .ok (.aload_n 0, 1) ∧ decode code 849 = .ok (.iload_n 3, 1) := by decide +kernel
theorem dL_828 : decode code 828 = .ok (.iadd, 1) := dLc_34.1
theorem dL_829 : decode code 829 = .ok (.iaload, 1) := dLc_34.2.1
theorem dL_830 : decode code 830 = .ok (.invokevirtual 88, 3) := dLc_34.2.2.1
theorem dL_833 : decode code 833 = .ok (.pop, 1) := dLc_34.2.2.2.1
theorem dL_834 : decode code 834 = .ok (.goto 747, 3) := dLc_34.2.2.2.2.1
theorem dL_837 : decode code 837 = .ok (.aload_n 1, 1) := dLc_34.2.2.2.2.2.1
theorem dL_838 : decode code 838 = .ok (.aload_n 0, 1) := dLc_34.2.2.2.2.2.2.1
theorem dL_839 : decode code 839 = .ok (.iload_n 3, 1) := dLc_34.2.2.2.2.2.2.2.1
theorem dL_840 : decode code 840 = .ok (.iconst 1, 1) := dLc_34.2.2.2.2.2.2.2.2.1
theorem dL_841 : decode code 841 = .ok (.iadd, 1) := dLc_34.2.2.2.2.2.2.2.2.2.1
theorem dL_842 : decode code 842 = .ok (.iaload, 1) := dLc_34.2.2.2.2.2.2.2.2.2.2.1
theorem dL_843 : decode code 843 = .ok (.invokevirtual 89, 3) := dLc_34.2.2.2.2.2.2.2.2.2.2.2.1
theorem dL_846 : decode code 846 = .ok (.pop, 1) := dLc_34.2.2.2.2.2.2.2.2.2.2.2.2.1
theorem dL_847 : decode code 847 = .ok (.aload_n 2, 1) := dLc_34.2.2.2.2.2.2.2.2.2.2.2.2.2.1
theorem dL_848 : decode code 848 = .ok (.aload_n 0, 1) := dLc_34.2.2.2.2.2.2.2.2.2.2.2.2.2.2.1
theorem dL_849 : decode code 849 = .ok (.iload_n 3, 1) := dLc_34.2.2.2.2.2.2.2.2.2.2.2.2.2.2.2
set_option maxRecDepth 20000 in
theorem dLc_35 : decode code 850 = .ok (.iconst 1, 1) ∧ decode code 851 = .ok (.iadd, 1) ∧ decode code 852 = .ok (.iaload, 1) ∧ decode code 853 = .ok (.invokevirtual 92, 3) ∧ decode code 856 = .ok (.pop, 1) ∧ decode code 857 = .ok (.goto 724, 3) ∧ decode code 860 = .ok (.aload_n 1, 1) ∧ decode code 861 = .ok (.aload_n 0, 1) ∧ decode code 862 = .ok (.iload_n 3, 1) ∧ decode code 863 = .ok (.iconst 1, 1) ∧ decode code 864 = .ok (.iadd, 1) ∧ decode code 865 = .ok (.iaload, 1) ∧ decode code 866 = .ok (.aload_n 0, 1) ∧ decode code 867 = .ok (.iload_n 3, 1) ∧ decode code 868 = .ok (.iconst 2, 1) ∧ decode code 869 = .ok (.iadd, 1) := by decide +kernel
theorem dL_850 : decode code 850 = .ok (.iconst 1, 1) := dLc_35.1
theorem dL_851 : decode code 851 = .ok (.iadd, 1) := dLc_35.2.1
theorem dL_852 : decode code 852 = .ok (.iaload, 1) := dLc_35.2.2.1
theorem dL_853 : decode code 853 = .ok (.invokevirtual 92, 3) := dLc_35.2.2.2.1
theorem dL_856 : decode code 856 = .ok (.pop, 1) := dLc_35.2.2.2.2.1
theorem dL_857 : decode code 857 = .ok (.goto 724, 3) := dLc_35.2.2.2.2.2.1
theorem dL_860 : decode code 860 = .ok (.aload_n 1, 1) := dLc_35.2.2.2.2.2.2.1
theorem dL_861 : decode code 861 = .ok (.aload_n 0, 1) := dLc_35.2.2.2.2.2.2.2.1
theorem dL_862 : decode code 862 = .ok (.iload_n 3, 1) := dLc_35.2.2.2.2.2.2.2.2.1
theorem dL_863 : decode code 863 = .ok (.iconst 1, 1) := dLc_35.2.2.2.2.2.2.2.2.2.1
theorem dL_864 : decode code 864 = .ok (.iadd, 1) := dLc_35.2.2.2.2.2.2.2.2.2.2.1
theorem dL_865 : decode code 865 = .ok (.iaload, 1) := dLc_35.2.2.2.2.2.2.2.2.2.2.2.1
theorem dL_866 : decode code 866 = .ok (.aload_n 0, 1) := dLc_35.2.2.2.2.2.2.2.2.2.2.2.2.1
theorem dL_867 : decode code 867 = .ok (.iload_n 3, 1) := dLc_35.2.2.2.2.2.2.2.2.2.2.2.2.2.1
theorem dL_868 : decode code 868 = .ok (.iconst 2, 1) := dLc_35.2.2.2.2.2.2.2.2.2.2.2.2.2.2.1
theorem dL_869 : decode code 869 = .ok (.iadd, 1) := dLc_35.2.2.2.2.2.2.2.2.2.2.2.2.2.2.2
set_option maxRecDepth 20000 in
theorem dLc_36 : decode code 870 = .ok (.iaload, 1) ∧ decode code 871 = .ok (.invokevirtual 93, 3) ∧ decode code 874 = .ok (.pop, 1) ∧ decode code 875 = .ok (.aload_n 2, 1) ∧ decode code 876 = .ok (.aload_n 0, 1) ∧ decode code 877 = .ok (.iload_n 3, 1) ∧ decode code 878 = .ok (.iconst 1, 1) ∧ decode code 879 = .ok (.iadd, 1) ∧ decode code 880 = .ok (.iaload, 1) ∧ decode code 881 = .ok (.aload_n 0, 1) ∧ decode code 882 = .ok (.iload_n 3, 1) ∧ decode code 883 = .ok (.iconst 2, 1) ∧ decode code 884 = .ok (.iadd, 1) ∧ decode code 885 = .ok (.iaload, 1) ∧ decode code 886 = .ok (.invokevirtual 96, 3) ∧ decode code 889 = .ok (.pop, 1) := by decide +kernel
theorem dL_870 : decode code 870 = .ok (.iaload, 1) := dLc_36.1
theorem dL_871 : decode code 871 = .ok (.invokevirtual 93, 3) := dLc_36.2.1
theorem dL_874 : decode code 874 = .ok (.pop, 1) := dLc_36.2.2.1
theorem dL_875 : decode code 875 = .ok (.aload_n 2, 1) := dLc_36.2.2.2.1
theorem dL_876 : decode code 876 = .ok (.aload_n 0, 1) := dLc_36.2.2.2.2.1
theorem dL_877 : decode code 877 = .ok (.iload_n 3, 1) := dLc_36.2.2.2.2.2.1
theorem dL_878 : decode code 878 = .ok (.iconst 1, 1) := dLc_36.2.2.2.2.2.2.1
theorem dL_879 : decode code 879 = .ok (.iadd, 1) := dLc_36.2.2.2.2.2.2.2.1
theorem dL_880 : decode code 880 = .ok (.iaload, 1) := dLc_36.2.2.2.2.2.2.2.2.1
theorem dL_881 : decode code 881 = .ok (.aload_n 0, 1) := dLc_36.2.2.2.2.2.2.2.2.2.1
theorem dL_882 : decode code 882 = .ok (.iload_n 3, 1) := dLc_36.2.2.2.2.2.2.2.2.2.2.1
theorem dL_883 : decode code 883 = .ok (.iconst 2, 1) := dLc_36.2.2.2.2.2.2.2.2.2.2.2.1
theorem dL_884 : decode code 884 = .ok (.iadd, 1) := dLc_36.2.2.2.2.2.2.2.2.2.2.2.2.1
theorem dL_885 : decode code 885 = .ok (.iaload, 1) := dLc_36.2.2.2.2.2.2.2.2.2.2.2.2.2.1
theorem dL_886 : decode code 886 = .ok (.invokevirtual 96, 3) := dLc_36.2.2.2.2.2.2.2.2.2.2.2.2.2.2.1
theorem dL_889 : decode code 889 = .ok (.pop, 1) := dLc_36.2.2.2.2.2.2.2.2.2.2.2.2.2.2.2
set_option maxRecDepth 20000 in
theorem dLc_37 : decode code 890 = .ok (.goto 691, 3) ∧ decode code 893 = .ok (.aload_n 1, 1) ∧ decode code 894 = .ok (.aload_n 0, 1) ∧ decode code 895 = .ok (.iload_n 3, 1) ∧ decode code 896 = .ok (.iconst 1, 1) ∧ decode code 897 = .ok (.iadd, 1) ∧ decode code 898 = .ok (.iaload, 1) ∧ decode code 899 = .ok (.aload_n 0, 1) ∧ decode code 900 = .ok (.iload_n 3, 1) ∧ decode code 901 = .ok (.iconst 2, 1) ∧ decode code 902 = .ok (.iadd, 1) ∧ decode code 903 = .ok (.iaload, 1) ∧ decode code 904 = .ok (.aload_n 0, 1) ∧ decode code 905 = .ok (.iload_n 3, 1) ∧ decode code 906 = .ok (.iconst 3, 1) ∧ decode code 907 = .ok (.iadd, 1) := by decide +kernel
theorem dL_890 : decode code 890 = .ok (.goto 691, 3) := dLc_37.1
theorem dL_893 : decode code 893 = .ok (.aload_n 1, 1) := dLc_37.2.1
theorem dL_894 : decode code 894 = .ok (.aload_n 0, 1) := dLc_37.2.2.1
theorem dL_895 : decode code 895 = .ok (.iload_n 3, 1) := dLc_37.2.2.2.1
theorem dL_896 : decode code 896 = .ok (.iconst 1, 1) := dLc_37.2.2.2.2.1
theorem dL_897 : decode code 897 = .ok (.iadd, 1) := dLc_37.2.2.2.2.2.1
theorem dL_898 : decode code 898 = .ok (.iaload, 1) := dLc_37.2.2.2.2.2.2.1
theorem dL_899 : decode code 899 = .ok (.aload_n 0, 1) := dLc_37.2.2.2.2.2.2.2.1
theorem dL_900 : decode code 900 = .ok (.iload_n 3, 1) := dLc_37.2.2.2.2.2.2.2.2.1
theorem dL_901 : decode code 901 = .ok (.iconst 2, 1) := dLc_37.2.2.2.2.2.2.2.2.2.1
theorem dL_902 : decode code 902 = .ok (.iadd, 1) := dLc_37.2.2.2.2.2.2.2.2.2.2.1
theorem dL_903 : decode code 903 = .ok (.iaload, 1) := dLc_37.2.2.2.2.2.2.2.2.2.2.2.1
theorem dL_904 : decode code 904 = .ok (.aload_n 0, 1) := dLc_37.2.2.2.2.2.2.2.2.2.2.2.2.1
theorem dL_905 : decode code 905 = .ok (.iload_n 3, 1) := dLc_37.2.2.2.2.2.2.2.2.2.2.2.2.2.1
theorem dL_906 : decode code 906 = .ok (.iconst 3, 1) := dLc_37.2.2.2.2.2.2.2.2.2.2.2.2.2.2.1
theorem dL_907 : decode code 907 = .ok (.iadd, 1) := dLc_37.2.2.2.2.2.2.2.2.2.2.2.2.2.2.2
set_option maxRecDepth 20000 in
theorem dLc_38 : decode code 908 = .ok (.iaload, 1) ∧ decode code 909 = .ok (.invokevirtual 97, 3) ∧ decode code 912 = .ok (.pop, 1) ∧ decode code 913 = .ok (.aload_n 2, 1) ∧ decode code 914 = .ok (.aload_n 0, 1) ∧ decode code 915 = .ok (.iload_n 3, 1) ∧ decode code 916 = .ok (.iconst 1, 1) ∧ decode code 917 = .ok (.iadd, 1) ∧ decode code 918 = .ok (.iaload, 1) ∧ decode code 919 = .ok (.aload_n 0, 1) ∧ decode code 920 = .ok (.iload_n 3, 1) ∧ decode code 921 = .ok (.iconst 2, 1) ∧ decode code 922 = .ok (.iadd, 1) ∧ decode code 923 = .ok (.iaload, 1) ∧ decode code 924 = .ok (.aload_n 0, 1) ∧ decode code 925 = .ok (.iload_n 3, 1) := by decide +kernel
theorem dL_908 : decode code 908 = .ok (.iaload, 1) := dLc_38.1
theorem dL_909 : decode code 909 = .ok (.invokevirtual 97, 3) := dLc_38.2.1
theorem dL_912 : decode code 912 = .ok (.pop, 1) := dLc_38.2.2.1
theorem dL_913 : decode code 913 = .ok (.aload_n 2, 1) := dLc_38.2.2.2.1
theorem dL_914 : decode code 914 = .ok (.aload_n 0, 1) := dLc_38.2.2.2.2.1
theorem dL_915 : decode code 915 = .ok (.iload_n 3, 1) := dLc_38.2.2.2.2.2.1
theorem dL_916 : decode code 916 = .ok (.iconst 1, 1) := dLc_38.2.2.2.2.2.2.1
theorem dL_917 : decode code 917 = .ok (.iadd, 1) := dLc_38.2.2.2.2.2.2.2.1
theorem dL_918 : decode code 918 = .ok (.iaload, 1) := dLc_38.2.2.2.2.2.2.2.2.1
theorem dL_919 : decode code 919 = .ok (.aload_n 0, 1) := dLc_38.2.2.2.2.2.2.2.2.2.1
theorem dL_920 : decode code 920 = .ok (.iload_n 3, 1) := dLc_38.2.2.2.2.2.2.2.2.2.2.1
theorem dL_921 : decode code 921 = .ok (.iconst 2, 1) := dLc_38.2.2.2.2.2.2.2.2.2.2.2.1
theorem dL_922 : decode code 922 = .ok (.iadd, 1) := dLc_38.2.2.2.2.2.2.2.2.2.2.2.2.1
theorem dL_923 : decode code 923 = .ok (.iaload, 1) := dLc_38.2.2.2.2.2.2.2.2.2.2.2.2.2.1
theorem dL_924 : decode code 924 = .ok (.aload_n 0, 1) := dLc_38.2.2.2.2.2.2.2.2.2.2.2.2.2.2.1
theorem dL_925 : decode code 925 = .ok (.iload_n 3, 1) := dLc_38.2.2.2.2.2.2.2.2.2.2.2.2.2.2.2
set_option maxRecDepth 20000 in
theorem dLc_39 : decode code 926 = .ok (.iconst 3, 1) ∧ decode code 927 = .ok (.iadd, 1) ∧ decode code 928 = .ok (.iaload, 1) ∧ decode code 929 = .ok (.invokevirtual 100, 3) ∧ decode code 932 = .ok (.pop, 1) ∧ decode code 933 = .ok (.goto 648, 3) ∧ decode code 936 = .ok (.aload_n 1, 1) ∧ decode code 937 = .ok (.aload_n 0, 1) ∧ decode code 938 = .ok (.iload_n 3, 1) ∧ decode code 939 = .ok (.iconst 1, 1) ∧ decode code 940 = .ok (.iadd, 1) ∧ decode code 941 = .ok (.iaload, 1) ∧ decode code 942 = .ok (.aload_n 0, 1) ∧ decode code 943 = .ok (.iload_n 3, 1) ∧ decode code 944 = .ok (.iconst 2, 1) ∧ decode code 945 = .ok (.iadd, 1) := by decide +kernel
theorem dL_926 : decode code 926 = .ok (.iconst 3, 1) := dLc_39.1
theorem dL_927 : decode code 927 = .ok (.iadd, 1) := dLc_39.2.1
theorem dL_928 : decode code 928 = .ok (.iaload, 1) := dLc_39.2.2.1
theorem dL_929 : decode code 929 = .ok (.invokevirtual 100, 3) := dLc_39.2.2.2.1
theorem dL_932 : decode code 932 = .ok (.pop, 1) := dLc_39.2.2.2.2.1
theorem dL_933 : decode code 933 = .ok (.goto 648, 3) := dLc_39.2.2.2.2.2.1
theorem dL_936 : decode code 936 = .ok (.aload_n 1, 1) := dLc_39.2.2.2.2.2.2.1
theorem dL_937 : decode code 937 = .ok (.aload_n 0, 1) := dLc_39.2.2.2.2.2.2.2.1
theorem dL_938 : decode code 938 = .ok (.iload_n 3, 1) := dLc_39.2.2.2.2.2.2.2.2.1
theorem dL_939 : decode code 939 = .ok (.iconst 1, 1) := dLc_39.2.2.2.2.2.2.2.2.2.1
theorem dL_940 : decode code 940 = .ok (.iadd, 1) := dLc_39.2.2.2.2.2.2.2.2.2.2.1
theorem dL_941 : decode code 941 = .ok (.iaload, 1) := dLc_39.2.2.2.2.2.2.2.2.2.2.2.1
theorem dL_942 : decode code 942 = .ok (.aload_n 0, 1) := dLc_39.2.2.2.2.2.2.2.2.2.2.2.2.1
theorem dL_943 : decode code 943 = .ok (.iload_n 3, 1) := dLc_39.2.2.2.2.2.2.2.2.2.2.2.2.2.1
theorem dL_944 : decode code 944 = .ok (.iconst 2, 1) := dLc_39.2.2.2.2.2.2.2.2.2.2.2.2.2.2.1
theorem dL_945 : decode code 945 = .ok (.iadd, 1) := dLc_39.2.2.2.2.2.2.2.2.2.2.2.2.2.2.2
set_option maxRecDepth 20000 in
theorem dLc_40 : decode code 946 = .ok (.iaload, 1) ∧ decode code 947 = .ok (.aload_n 0, 1) ∧ decode code 948 = .ok (.iload_n 3, 1) ∧ decode code 949 = .ok (.iconst 3, 1) ∧ decode code 950 = .ok (.iadd, 1) ∧ decode code 951 = .ok (.iaload, 1) ∧ decode code 952 = .ok (.aload_n 0, 1) ∧ decode code 953 = .ok (.iload_n 3, 1) ∧ decode code 954 = .ok (.iconst 4, 1) ∧ decode code 955 = .ok (.iadd, 1) ∧ decode code 956 = .ok (.iaload, 1) ∧ decode code 957 = .ok (.invokevirtual 101, 3) ∧ decode code 960 = .ok (.pop, 1) ∧ decode code 961 = .ok (.aload_n 2, 1) ∧ decode code 962 = .ok (.aload_n 0, 1) ∧ decode code 963 = .ok (.iload_n 3, 1) := by decide +kernel
theorem dL_946 : decode code 946 = .ok (.iaload, 1) := dLc_40.1
theorem dL_947 : decode code 947 = .ok (.aload_n 0, 1) := dLc_40.2.1
theorem dL_948 : decode code 948 = .ok (.iload_n 3, 1) := dLc_40.2.2.1
theorem dL_949 : decode code 949 = .ok (.iconst 3, 1) := dLc_40.2.2.2.1
theorem dL_950 : decode code 950 = .ok (.iadd, 1) := dLc_40.2.2.2.2.1
theorem dL_951 : decode code 951 = .ok (.iaload, 1) := dLc_40.2.2.2.2.2.1
theorem dL_952 : decode code 952 = .ok (.aload_n 0, 1) := dLc_40.2.2.2.2.2.2.1
theorem dL_953 : decode code 953 = .ok (.iload_n 3, 1) := dLc_40.2.2.2.2.2.2.2.1
theorem dL_954 : decode code 954 = .ok (.iconst 4, 1) := dLc_40.2.2.2.2.2.2.2.2.1
theorem dL_955 : decode code 955 = .ok (.iadd, 1) := dLc_40.2.2.2.2.2.2.2.2.2.1
theorem dL_956 : decode code 956 = .ok (.iaload, 1) := dLc_40.2.2.2.2.2.2.2.2.2.2.1
theorem dL_957 : decode code 957 = .ok (.invokevirtual 101, 3) := dLc_40.2.2.2.2.2.2.2.2.2.2.2.1
theorem dL_960 : decode code 960 = .ok (.pop, 1) := dLc_40.2.2.2.2.2.2.2.2.2.2.2.2.1
theorem dL_961 : decode code 961 = .ok (.aload_n 2, 1) := dLc_40.2.2.2.2.2.2.2.2.2.2.2.2.2.1
theorem dL_962 : decode code 962 = .ok (.aload_n 0, 1) := dLc_40.2.2.2.2.2.2.2.2.2.2.2.2.2.2.1
theorem dL_963 : decode code 963 = .ok (.iload_n 3, 1) := dLc_40.2.2.2.2.2.2.2.2.2.2.2.2.2.2.2
set_option maxRecDepth 20000 in
theorem dLc_41 : decode code 964 = .ok (.iconst 1, 1) ∧ decode code 965 = .ok (.iadd, 1) ∧ decode code 966 = .ok (.iaload, 1) ∧ decode code 967 = .ok (.aload_n 0, 1) ∧ decode code 968 = .ok (.iload_n 3, 1) ∧ decode code 969 = .ok (.iconst 2, 1) ∧ decode code 970 = .ok (.iadd, 1) ∧ decode code 971 = .ok (.iaload, 1) ∧ decode code 972 = .ok (.aload_n 0, 1) ∧ decode code 973 = .ok (.iload_n 3, 1) ∧ decode code 974 = .ok (.iconst 3, 1) ∧ decode code 975 = .ok (.iadd, 1) ∧ decode code 976 = .ok (.iaload, 1) ∧ decode code 977 = .ok (.aload_n 0, 1) ∧ decode code 978 = .ok (.iload_n 3, 1) ∧ decode code 979 = .ok (.iconst 4, 1) := by decide +kernel
theorem dL_964 : decode code 964 = .ok (.iconst 1, 1) := dLc_41.1
theorem dL_965 : decode code 965 = .ok (.iadd, 1) := dLc_41.2.1
theorem dL_966 : decode code 966 = .ok (.iaload, 1) := dLc_41.2.2.1
theorem dL_967 : decode code 967 = .ok (.aload_n 0, 1) := dLc_41.2.2.2.1
theorem dL_968 : decode code 968 = .ok (.iload_n 3, 1) := dLc_41.2.2.2.2.1
theorem dL_969 : decode code 969 = .ok (.iconst 2, 1) := dLc_41.2.2.2.2.2.1
theorem dL_970 : decode code 970 = .ok (.iadd, 1) := dLc_41.2.2.2.2.2.2.1
theorem dL_971 : decode code 971 = .ok (.iaload, 1) := dLc_41.2.2.2.2.2.2.2.1
theorem dL_972 : decode code 972 = .ok (.aload_n 0, 1) := dLc_41.2.2.2.2.2.2.2.2.1
theorem dL_973 : decode code 973 = .ok (.iload_n 3, 1) := dLc_41.2.2.2.2.2.2.2.2.2.1
theorem dL_974 : decode code 974 = .ok (.iconst 3, 1) := dLc_41.2.2.2.2.2.2.2.2.2.2.1
theorem dL_975 : decode code 975 = .ok (.iadd, 1) := dLc_41.2.2.2.2.2.2.2.2.2.2.2.1
theorem dL_976 : decode code 976 = .ok (.iaload, 1) := dLc_41.2.2.2.2.2.2.2.2.2.2.2.2.1
theorem dL_977 : decode code 977 = .ok (.aload_n 0, 1) := dLc_41.2.2.2.2.2.2.2.2.2.2.2.2.2.1
theorem dL_978 : decode code 978 = .ok (.iload_n 3, 1) := dLc_41.2.2.2.2.2.2.2.2.2.2.2.2.2.2.1
theorem dL_979 : decode code 979 = .ok (.iconst 4, 1) := dLc_41.2.2.2.2.2.2.2.2.2.2.2.2.2.2.2
set_option maxRecDepth 20000 in
theorem dLc_42 : decode code 980 = .ok (.iadd, 1) ∧ decode code 981 = .ok (.iaload, 1) ∧ decode code 982 = .ok (.invokevirtual 104, 3) ∧ decode code 985 = .ok (.pop, 1) ∧ decode code 986 = .ok (.goto 595, 3) ∧ decode code 989 = .ok (.aload_n 1, 1) ∧ decode code 990 = .ok (.aload_n 0, 1) ∧ decode code 991 = .ok (.iload_n 3, 1) ∧ decode code 992 = .ok (.iconst 1, 1) ∧ decode code 993 = .ok (.iadd, 1) ∧ decode code 994 = .ok (.iaload, 1) ∧ decode code 995 = .ok (.aload_n 0, 1) ∧ decode code 996 = .ok (.iload_n 3, 1) ∧ decode code 997 = .ok (.iconst 2, 1) ∧ decode code 998 = .ok (.iadd, 1) ∧ decode code 999 = .ok (.iaload, 1) := by decide +kernel
theorem dL_980 : decode code 980 = .ok (.iadd, 1) := dLc_42.1
theorem dL_981 : decode code 981 = .ok (.iaload, 1) := dLc_42.2.1
theorem dL_982 : decode code 982 = .ok (.invokevirtual 104, 3) := dLc_42.2.2.1
theorem dL_985 : decode code 985 = .ok (.pop, 1) := dLc_42.2.2.2.1
theorem dL_986 : decode code 986 = .ok (.goto 595, 3) := dLc_42.2.2.2.2.1
theorem dL_989 : decode code 989 = .ok (.aload_n 1, 1) := dLc_42.2.2.2.2.2.1
theorem dL_990 : decode code 990 = .ok (.aload_n 0, 1) := dLc_42.2.2.2.2.2.2.1
theorem dL_991 : decode code 991 = .ok (.iload_n 3, 1) := dLc_42.2.2.2.2.2.2.2.1
theorem dL_992 : decode code 992 = .ok (.iconst 1, 1) := dLc_42.2.2.2.2.2.2.2.2.1
theorem dL_993 : decode code 993 = .ok (.iadd, 1) := dLc_42.2.2.2.2.2.2.2.2.2.1
theorem dL_994 : decode code 994 = .ok (.iaload, 1) := dLc_42.2.2.2.2.2.2.2.2.2.2.1
theorem dL_995 : decode code 995 = .ok (.aload_n 0, 1) := dLc_42.2.2.2.2.2.2.2.2.2.2.2.1
theorem dL_996 : decode code 996 = .ok (.iload_n 3, 1) := dLc_42.2.2.2.2.2.2.2.2.2.2.2.2.1
theorem dL_997 : decode code 997 = .ok (.iconst 2, 1) := dLc_42.2.2.2.2.2.2.2.2.2.2.2.2.2.1
theorem dL_998 : decode code 998 = .ok (.iadd, 1) := dLc_42.2.2.2.2.2.2.2.2.2.2.2.2.2.2.1
theorem dL_999 : decode code 999 = .ok (.iaload, 1) := dLc_42.2.2.2.2.2.2.2.2.2.2.2.2.2.2.2
set_option maxRecDepth 20000 in
theorem dLc_43 : decode code 1000 = .ok (.aload_n 0, 1) ∧ decode code 1001 = .ok (.iload_n 3, 1) ∧ decode code 1002 = .ok (.iconst 3, 1) ∧ decode code 1003 = .ok (.iadd, 1) ∧ decode code 1004 = .ok (.iaload, 1) ∧ decode code 1005 = .ok (.invokevirtual 105, 3) ∧ decode code 1008 = .ok (.pop, 1) ∧ decode code 1009 = .ok (.aload_n 2, 1) ∧ decode code 1010 = .ok (.aload_n 0, 1) ∧ decode code 1011 = .ok (.iload_n 3, 1) ∧ decode code 1012 = .ok (.iconst 1, 1) ∧ decode code 1013 = .ok (.iadd, 1) ∧ decode code 1014 = .ok (.iaload, 1) ∧ decode code 1015 = .ok (.aload_n 0, 1) ∧ decode code 1016 = .ok (.iload_n 3, 1) ∧ decode code 1017 = .ok (.iconst 2, 1) := by decide +kernel
theorem dL_1000 : decode code 1000 = .ok (.aload_n 0, 1) := dLc_43.1
theorem dL_1001 : decode code 1001 = .ok (.iload_n 3, 1) := dLc_43.2.1
theorem dL_1002 : decode code 1002 = .ok (.iconst 3, 1) := dLc_43.2.2.1
theorem dL_1003 : decode code 1003 = .ok (.iadd, 1) := dLc_43.2.2.2.1
theorem dL_1004 : decode code 1004 = .ok (.iaload, 1) := dLc_43.2.2.2.2.1
theorem dL_1005 : decode code 1005 = .ok (.invokevirtual 105, 3) := dLc_43.2.2.2.2.2.1
theorem dL_1008 : decode code 1008 = .ok (.pop, 1) := dLc_43.2.2.2.2.2.2.1
theorem dL_1009 : decode code 1009 = .ok (.aload_n 2, 1) := dLc_43.2.2.2.2.2.2.2.1
theorem dL_1010 : decode code 1010 = .ok (.aload_n 0, 1) := dLc_43.2.2.2.2.2.2.2.2.1
theorem dL_1011 : decode code 1011 = .ok (.iload_n 3, 1) := dLc_43.2.2.2.2.2.2.2.2.2.1
theorem dL_1012 : decode code 1012 = .ok (.iconst 1, 1) := dLc_43.2.2.2.2.2.2.2.2.2.2.1
theorem dL_1013 : decode code 1013 = .ok (.iadd, 1) := dLc_43.2.2.2.2.2.2.2.2.2.2.2.1
theorem dL_1014 : decode code 1014 = .ok (.iaload, 1) := dLc_43.2.2.2.2.2.2.2.2.2.2.2.2.1
theorem dL_1015 : decode code 1015 = .ok (.aload_n 0, 1) := dLc_43.2.2.2.2.2.2.2.2.2.2.2.2.2.1
theorem dL_1016 : decode code 1016 = .ok (.iload_n 3, 1) := dLc_43.2.2.2.2.2.2.2.2.2.2.2.2.2.2.1
theorem dL_1017 : decode code 1017 = .ok (.iconst 2, 1) := dLc_43.2.2.2.2.2.2.2.2.2.2.2.2.2.2.2
set_option maxRecDepth 20000 in
theorem dLc_44 : decode code 1018 = .ok (.iadd, 1) ∧ decode code 1019 = .ok (.iaload, 1) ∧ decode code 1020 = .ok (.aload_n 0, 1) ∧ decode code 1021 = .ok (.iload_n 3, 1) ∧ decode code 1022 = .ok (.iconst 3, 1) ∧ decode code 1023 = .ok (.iadd, 1) ∧ decode code 1024 = .ok (.iaload, 1) ∧ decode code 1025 = .ok (.invokevirtual 108, 3) ∧ decode code 1028 = .ok (.pop, 1) ∧ decode code 1029 = .ok (.goto 552, 3) ∧ decode code 1032 = .ok (.aload_n 1, 1) ∧ decode code 1033 = .ok (.aload_n 0, 1) ∧ decode code 1034 = .ok (.iload_n 3, 1) ∧ decode code 1035 = .ok (.iconst 1, 1) ∧ decode code 1036 = .ok (.iadd, 1) ∧ decode code 1037 = .ok (.iaload, 1) := by decide +kernel
theorem dL_1018 : decode code 1018 = .ok (.iadd, 1) := dLc_44.1
theorem dL_1019 : decode code 1019 = .ok (.iaload, 1) := dLc_44.2.1
theorem dL_1020 : decode code 1020 = .ok (.aload_n 0, 1) := dLc_44.2.2.1
theorem dL_1021 : decode code 1021 = .ok (.iload_n 3, 1) := dLc_44.2.2.2.1
theorem dL_1022 : decode code 1022 = .ok (.iconst 3, 1) := dLc_44.2.2.2.2.1
theorem dL_1023 : decode code 1023 = .ok (.iadd, 1) := dLc_44.2.2.2.2.2.1
theorem dL_1024 : decode code 1024 = .ok (.iaload, 1) := dLc_44.2.2.2.2.2.2.1
theorem dL_1025 : decode code 1025 = .ok (.invokevirtual 108, 3) := dLc_44.2.2.2.2.2.2.2.1
theorem dL_1028 : decode code 1028 = .ok (.pop, 1) := dLc_44.2.2.2.2.2.2.2.2.1
theorem dL_1029 : decode code 1029 = .ok (.goto 552, 3) := dLc_44.2.2.2.2.2.2.2.2.2.1
theorem dL_1032 : decode code 1032 = .ok (.aload_n 1, 1) := dLc_44.2.2.2.2.2.2.2.2.2.2.1
theorem dL_1033 : decode code 1033 = .ok (.aload_n 0, 1) := dLc_44.2.2.2.2.2.2.2.2.2.2.2.1
theorem dL_1034 : decode code 1034 = .ok (.iload_n 3, 1) := dLc_44.2.2.2.2.2.2.2.2.2.2.2.2.1
theorem dL_1035 : decode code 1035 = .ok (.iconst 1, 1) := dLc_44.2.2.2.2.2.2.2.2.2.2.2.2.2.1
theorem dL_1036 : decode code 1036 = .ok (.iadd, 1) := dLc_44.2.2.2.2.2.2.2.2.2.2.2.2.2.2.1
theorem dL_1037 : decode code 1037 = .ok (.iaload, 1) := dLc_44.2.2.2.2.2.2.2.2.2.2.2.2.2.2.2
set_option maxRecDepth 20000 in
theorem dLc_45 : decode code 1038 = .ok (.aload_n 0, 1) ∧ decode code 1039 = .ok (.iload_n 3, 1) ∧ decode code 1040 = .ok (.iconst 2, 1) ∧ decode code 1041 = .ok (.iadd, 1) ∧ decode code 1042 = .ok (.iaload, 1) ∧ decode code 1043 = .ok (.aload_n 0, 1) ∧ decode code 1044 = .ok (.iload_n 3, 1) ∧ decode code 1045 = .ok (.iconst 3, 1) ∧ decode code 1046 = .ok (.iadd, 1) ∧ decode code 1047 = .ok (.iaload, 1) ∧ decode code 1048 = .ok (.aload_n 0, 1) ∧ decode code 1049 = .ok (.iload_n 3, 1) ∧ decode code 1050 = .ok (.iconst 4, 1) ∧ decode code 1051 = .ok (.iadd, 1) ∧ decode code 1052 = .ok (.iaload, 1) ∧ decode code 1053 = .ok (.invokevirtual 109, 3) := by decide +kernel
theorem dL_1038 : decode code 1038 = .ok (.aload_n 0, 1) := dLc_45.1
theorem dL_1039 : decode code 1039 = .ok (.iload_n 3, 1) := dLc_45.2.1
theorem dL_1040 : decode code 1040 = .ok (.iconst 2, 1) := dLc_45.2.2.1
theorem dL_1041 : decode code 1041 = .ok (.iadd, 1) := dLc_45.2.2.2.1
theorem dL_1042 : decode code 1042 = .ok (.iaload, 1) := dLc_45.2.2.2.2.1
theorem dL_1043 : decode code 1043 = .ok (.aload_n 0, 1) := dLc_45.2.2.2.2.2.1
theorem dL_1044 : decode code 1044 = .ok (.iload_n 3, 1) := dLc_45.2.2.2.2.2.2.1
theorem dL_1045 : decode code 1045 = .ok (.iconst 3, 1) := dLc_45.2.2.2.2.2.2.2.1
theorem dL_1046 : decode code 1046 = .ok (.iadd, 1) := dLc_45.2.2.2.2.2.2.2.2.1
theorem dL_1047 : decode code 1047 = .ok (.iaload, 1) := dLc_45.2.2.2.2.2.2.2.2.2.1
theorem dL_1048 : decode code 1048 = .ok (.aload_n 0, 1) := dLc_45.2.2.2.2.2.2.2.2.2.2.1
theorem dL_1049 : decode code 1049 = .ok (.iload_n 3, 1) := dLc_45.2.2.2.2.2.2.2.2.2.2.2.1
theorem dL_1050 : decode code 1050 = .ok (.iconst 4, 1) := dLc_45.2.2.2.2.2.2.2.2.2.2.2.2.1
theorem dL_1051 : decode code 1051 = .ok (.iadd, 1) := dLc_45.2.2.2.2.2.2.2.2.2.2.2.2.2.1
theorem dL_1052 : decode code 1052 = .ok (.iaload, 1) := dLc_45.2.2.2.2.2.2.2.2.2.2.2.2.2.2.1
theorem dL_1053 : decode code 1053 = .ok (.invokevirtual 109, 3) := dLc_45.2.2.2.2.2.2.2.2.2.2.2.2.2.2.2
set_option maxRecDepth 20000 in
theorem dLc_46 : decode code 1056 = .ok (.pop, 1) ∧ decode code 1057 = .ok (.aload_n 2, 1) ∧ decode code 1058 = .ok (.aload_n 0, 1) ∧ decode code 1059 = .ok (.iload_n 3, 1) ∧ decode code 1060 = .ok (.iconst 1, 1) ∧ decode code 1061 = .ok (.iadd, 1) ∧ decode code 1062 = .ok (.iaload, 1) ∧ decode code 1063 = .ok (.aload_n 0, 1) ∧ decode code 1064 = .ok (.iload_n 3, 1) ∧ decode code 1065 = .ok (.iconst 2, 1) ∧ decode code 1066 = .ok (.iadd, 1) ∧ decode code 1067 = .ok (.iaload, 1) ∧ decode code 1068 = .ok (.aload_n 0, 1) ∧ decode code 1069 = .ok (.iload_n 3, 1) ∧ decode code 1070 = .ok (.iconst 3, 1) ∧ decode code 1071 = .ok (.iadd, 1) := by decide +kernel
theorem dL_1056 : decode code 1056 = .ok (.pop, 1) := dLc_46.1
theorem dL_1057 : decode code 1057 = .ok (.aload_n 2, 1) := dLc_46.2.1
theorem dL_1058 : decode code 1058 = .ok (.aload_n 0, 1) := dLc_46.2.2.1
theorem dL_1059 : decode code 1059 = .ok (.iload_n 3, 1) := dLc_46.2.2.2.1
theorem dL_1060 : decode code 1060 = .ok (.iconst 1, 1) := dLc_46.2.2.2.2.1
theorem dL_1061 : decode code 1061 = .ok (.iadd, 1) := dLc_46.2.2.2.2.2.1
theorem dL_1062 : decode code 1062 = .ok (.iaload, 1) := dLc_46.2.2.2.2.2.2.1
theorem dL_1063 : decode code 1063 = .ok (.aload_n 0, 1) := dLc_46.2.2.2.2.2.2.2.1
theorem dL_1064 : decode code 1064 = .ok (.iload_n 3, 1) := dLc_46.2.2.2.2.2.2.2.2.1
theorem dL_1065 : decode code 1065 = .ok (.iconst 2, 1) := dLc_46.2.2.2.2.2.2.2.2.2.1
theorem dL_1066 : decode code 1066 = .ok (.iadd, 1) := dLc_46.2.2.2.2.2.2.2.2.2.2.1
theorem dL_1067 : decode code 1067 = .ok (.iaload, 1) := dLc_46.2.2.2.2.2.2.2.2.2.2.2.1
theorem dL_1068 : decode code 1068 = .ok (.aload_n 0, 1) := dLc_46.2.2.2.2.2.2.2.2.2.2.2.2.1
theorem dL_1069 : decode code 1069 = .ok (.iload_n 3, 1) := dLc_46.2.2.2.2.2.2.2.2.2.2.2.2.2.1
theorem dL_1070 : decode code 1070 = .ok (.iconst 3, 1) := dLc_46.2.2.2.2.2.2.2.2.2.2.2.2.2.2.1
theorem dL_1071 : decode code 1071 = .ok (.iadd, 1) := dLc_46.2.2.2.2.2.2.2.2.2.2.2.2.2.2.2
set_option maxRecDepth 20000 in
theorem dLc_47 : decode code 1072 = .ok (.iaload, 1) ∧ decode code 1073 = .ok (.aload_n 0, 1) ∧ decode code 1074 = .ok (.iload_n 3, 1) ∧ decode code 1075 = .ok (.iconst 4, 1) ∧ decode code 1076 = .ok (.iadd, 1) ∧ decode code 1077 = .ok (.iaload, 1) ∧ decode code 1078 = .ok (.invokevirtual 112, 3) ∧ decode code 1081 = .ok (.pop, 1) ∧ decode code 1082 = .ok (.goto 499, 3) ∧ decode code 1085 = .ok (.aload_n 1, 1) ∧ decode code 1086 = .ok (.aload_n 0, 1) ∧ decode code 1087 = .ok (.iload_n 3, 1) ∧ decode code 1088 = .ok (.iconst 1, 1) ∧ decode code 1089 = .ok (.iadd, 1) ∧ decode code 1090 = .ok (.iaload, 1) ∧ decode code 1091 = .ok (.aload_n 0, 1) := by decide +kernel
theorem dL_1072 : decode code 1072 = .ok (.iaload, 1) := dLc_47.1
theorem dL_1073 : decode code 1073 = .ok (.aload_n 0, 1) := dLc_47.2.1
theorem dL_1074 : decode code 1074 = .ok (.iload_n 3, 1) := dLc_47.2.2.1
theorem dL_1075 : decode code 1075 = .ok (.iconst 4, 1) := dLc_47.2.2.2.1
theorem dL_1076 : decode code 1076 = .ok (.iadd, 1) := dLc_47.2.2.2.2.1
theorem dL_1077 : decode code 1077 = .ok (.iaload, 1) := dLc_47.2.2.2.2.2.1
theorem dL_1078 : decode code 1078 = .ok (.invokevirtual 112, 3) := dLc_47.2.2.2.2.2.2.1
theorem dL_1081 : decode code 1081 = .ok (.pop, 1) := dLc_47.2.2.2.2.2.2.2.1
theorem dL_1082 : decode code 1082 = .ok (.goto 499, 3) := dLc_47.2.2.2.2.2.2.2.2.1
theorem dL_1085 : decode code 1085 = .ok (.aload_n 1, 1) := dLc_47.2.2.2.2.2.2.2.2.2.1
theorem dL_1086 : decode code 1086 = .ok (.aload_n 0, 1) := dLc_47.2.2.2.2.2.2.2.2.2.2.1
theorem dL_1087 : decode code 1087 = .ok (.iload_n 3, 1) := dLc_47.2.2.2.2.2.2.2.2.2.2.2.1
theorem dL_1088 : decode code 1088 = .ok (.iconst 1, 1) := dLc_47.2.2.2.2.2.2.2.2.2.2.2.2.1
theorem dL_1089 : decode code 1089 = .ok (.iadd, 1) := dLc_47.2.2.2.2.2.2.2.2.2.2.2.2.2.1
theorem dL_1090 : decode code 1090 = .ok (.iaload, 1) := dLc_47.2.2.2.2.2.2.2.2.2.2.2.2.2.2.1
theorem dL_1091 : decode code 1091 = .ok (.aload_n 0, 1) := dLc_47.2.2.2.2.2.2.2.2.2.2.2.2.2.2.2
set_option maxRecDepth 20000 in
theorem dLc_48 : decode code 1092 = .ok (.iload_n 3, 1) ∧ decode code 1093 = .ok (.iconst 2, 1) ∧ decode code 1094 = .ok (.iadd, 1) ∧ decode code 1095 = .ok (.iaload, 1) ∧ decode code 1096 = .ok (.aload_n 0, 1) ∧ decode code 1097 = .ok (.iload_n 3, 1) ∧ decode code 1098 = .ok (.iconst 3, 1) ∧ decode code 1099 = .ok (.iadd, 1) ∧ decode code 1100 = .ok (.iaload, 1) ∧ decode code 1101 = .ok (.invokevirtual 113, 3) ∧ decode code 1104 = .ok (.pop, 1) ∧ decode code 1105 = .ok (.aload_n 2, 1) ∧ decode code 1106 = .ok (.aload_n 0, 1) ∧ decode code 1107 = .ok (.iload_n 3, 1) ∧ decode code 1108 = .ok (.iconst 1, 1) ∧ decode code 1109 = .ok (.iadd, 1) := by decide +kernel
theorem dL_1092 : decode code 1092 = .ok (.iload_n 3, 1) := dLc_48.1
theorem dL_1093 : decode code 1093 = .ok (.iconst 2, 1) := dLc_48.2.1
theorem dL_1094 : decode code 1094 = .ok (.iadd, 1) := dLc_48.2.2.1
theorem dL_1095 : decode code 1095 = .ok (.iaload, 1) := dLc_48.2.2.2.1
theorem dL_1096 : decode code 1096 = .ok (.aload_n 0, 1) := dLc_48.2.2.2.2.1
theorem dL_1097 : decode code 1097 = .ok (.iload_n 3, 1) := dLc_48.2.2.2.2.2.1
theorem dL_1098 : decode code 1098 = .ok (.iconst 3, 1) := dLc_48.2.2.2.2.2.2.1
theorem dL_1099 : decode code 1099 = .ok (.iadd, 1) := dLc_48.2.2.2.2.2.2.2.1
theorem dL_1100 : decode code 1100 = .ok (.iaload, 1) := dLc_48.2.2.2.2.2.2.2.2.1
theorem dL_1101 : decode code 1101 = .ok (.invokevirtual 113, 3) := dLc_48.2.2.2.2.2.2.2.2.2.1
theorem dL_1104 : decode code 1104 = .ok (.pop, 1) := dLc_48.2.2.2.2.2.2.2.2.2.2.1
theorem dL_1105 : decode code 1105 = .ok (.aload_n 2, 1) := dLc_48.2.2.2.2.2.2.2.2.2.2.2.1
theorem dL_1106 : decode code 1106 = .ok (.aload_n 0, 1) := dLc_48.2.2.2.2.2.2.2.2.2.2.2.2.1
theorem dL_1107 : decode code 1107 = .ok (.iload_n 3, 1) := dLc_48.2.2.2.2.2.2.2.2.2.2.2.2.2.1
theorem dL_1108 : decode code 1108 = .ok (.iconst 1, 1) := dLc_48.2.2.2.2.2.2.2.2.2.2.2.2.2.2.1
theorem dL_1109 : decode code 1109 = .ok (.iadd, 1) := dLc_48.2.2.2.2.2.2.2.2.2.2.2.2.2.2.2
set_option maxRecDepth 20000 in
theorem dLc_49 : decode code 1110 = .ok (.iaload, 1) ∧ decode code 1111 = .ok (.aload_n 0, 1) ∧ decode code 1112 = .ok (.iload_n 3, 1) ∧ decode code 1113 = .ok (.iconst 2, 1) ∧ decode code 1114 = .ok (.iadd, 1) ∧ decode code 1115 = .ok (.iaload, 1) ∧ decode code 1116 = .ok (.aload_n 0, 1) ∧ decode code 1117 = .ok (.iload_n 3, 1) ∧ decode code 1118 = .ok (.iconst 3, 1) ∧ decode code 1119 = .ok (.iadd, 1) ∧ decode code 1120 = .ok (.iaload, 1) ∧ decode code 1121 = .ok (.invokevirtual 116, 3) ∧ decode code 1124 = .ok (.pop, 1) ∧ decode code 1125 = .ok (.goto 456, 3) ∧ decode code 1128 = .ok (.aload_n 1, 1) ∧ decode code 1129 = .ok (.aload_n 0, 1) := by decide +kernel
theorem dL_1110 : decode code 1110 = .ok (.iaload, 1) := dLc_49.1
theorem dL_1111 : decode code 1111 = .ok (.aload_n 0, 1) := dLc_49.2.1
theorem dL_1112 : decode code 1112 = .ok (.iload_n 3, 1) := dLc_49.2.2.1
theorem dL_1113 : decode code 1113 = .ok (.iconst 2, 1) := dLc_49.2.2.2.1
theorem dL_1114 : decode code 1114 = .ok (.iadd, 1) := dLc_49.2.2.2.2.1
theorem dL_1115 : decode code 1115 = .ok (.iaload, 1) := dLc_49.2.2.2.2.2.1
theorem dL_1116 : decode code 1116 = .ok (.aload_n 0, 1) := dLc_49.2.2.2.2.2.2.1
theorem dL_1117 : decode code 1117 = .ok (.iload_n 3, 1) := dLc_49.2.2.2.2.2.2.2.1
theorem dL_1118 : decode code 1118 = .ok (.iconst 3, 1) := dLc_49.2.2.2.2.2.2.2.2.1
theorem dL_1119 : decode code 1119 = .ok (.iadd, 1) := dLc_49.2.2.2.2.2.2.2.2.2.1
theorem dL_1120 : decode code 1120 = .ok (.iaload, 1) := dLc_49.2.2.2.2.2.2.2.2.2.2.1
theorem dL_1121 : decode code 1121 = .ok (.invokevirtual 116, 3) := dLc_49.2.2.2.2.2.2.2.2.2.2.2.1
theorem dL_1124 : decode code 1124 = .ok (.pop, 1) := dLc_49.2.2.2.2.2.2.2.2.2.2.2.2.1
theorem dL_1125 : decode code 1125 = .ok (.goto 456, 3) := dLc_49.2.2.2.2.2.2.2.2.2.2.2.2.2.1
theorem dL_1128 : decode code 1128 = .ok (.aload_n 1, 1) := dLc_49.2.2.2.2.2.2.2.2.2.2.2.2.2.2.1
theorem dL_1129 : decode code 1129 = .ok (.aload_n 0, 1) := dLc_49.2.2.2.2.2.2.2.2.2.2.2.2.2.2.2
set_option maxRecDepth 20000 in
theorem dLc_50 : decode code 1130 = .ok (.iload_n 3, 1) ∧ decode code 1131 = .ok (.iconst 1, 1) ∧ decode code 1132 = .ok (.iadd, 1) ∧ decode code 1133 = .ok (.iaload, 1) ∧ decode code 1134 = .ok (.aload_n 0, 1) ∧ decode code 1135 = .ok (.iload_n 3, 1) ∧ decode code 1136 = .ok (.iconst 2, 1) ∧ decode code 1137 = .ok (.iadd, 1) ∧ decode code 1138 = .ok (.iaload, 1) ∧ decode code 1139 = .ok (.invokevirtual 117, 3) ∧ decode code 1142 = .ok (.pop, 1) ∧ decode code 1143 = .ok (.aload_n 2, 1) ∧ decode code 1144 = .ok (.aload_n 0, 1) ∧ decode code 1145 = .ok (.iload_n 3, 1) ∧ decode code 1146 = .ok (.iconst 1, 1) ∧ decode code 1147 = .ok (.iadd, 1) := by decide +kernel
theorem dL_1130 : decode code 1130 = .ok (.iload_n 3, 1) := dLc_50.1
theorem dL_1131 : decode code 1131 = .ok (.iconst 1, 1) := dLc_50.2.1
theorem dL_1132 : decode code 1132 = .ok (.iadd, 1) := dLc_50.2.2.1
theorem dL_1133 : decode code 1133 = .ok (.iaload, 1) := dLc_50.2.2.2.1
theorem dL_1134 : decode code 1134 = .ok (.aload_n 0, 1) := dLc_50.2.2.2.2.1
theorem dL_1135 : decode code 1135 = .ok (.iload_n 3, 1) := dLc_50.2.2.2.2.2.1
theorem dL_1136 : decode code 1136 = .ok (.iconst 2, 1) := dLc_50.2.2.2.2.2.2.1
theorem dL_1137 : decode code 1137 = .ok (.iadd, 1) := dLc_50.2.2.2.2.2.2.2.1
theorem dL_1138 : decode code 1138 = .ok (.iaload, 1) := dLc_50.2.2.2.2.2.2.2.2.1
theorem dL_1139 : decode code 1139 = .ok (.invokevirtual 117, 3) := dLc_50.2.2.2.2.2.2.2.2.2.1
theorem dL_1142 : decode code 1142 = .ok (.pop, 1) := dLc_50.2.2.2.2.2.2.2.2.2.2.1
theorem dL_1143 : decode code 1143 = .ok (.aload_n 2, 1) := dLc_50.2.2.2.2.2.2.2.2.2.2.2.1
theorem dL_1144 : decode code 1144 = .ok (.aload_n 0, 1) := dLc_50.2.2.2.2.2.2.2.2.2.2.2.2.1
theorem dL_1145 : decode code 1145 = .ok (.iload_n 3, 1) := dLc_50.2.2.2.2.2.2.2.2.2.2.2.2.2.1
theorem dL_1146 : decode code 1146 = .ok (.iconst 1, 1) := dLc_50.2.2.2.2.2.2.2.2.2.2.2.2.2.2.1
theorem dL_1147 : decode code 1147 = .ok (.iadd, 1) := dLc_50.2.2.2.2.2.2.2.2.2.2.2.2.2.2.2
set_option maxRecDepth 20000 in
theorem dLc_51 : decode code 1148 = .ok (.iaload, 1) ∧ decode code 1149 = .ok (.aload_n 0, 1) ∧ decode code 1150 = .ok (.iload_n 3, 1) ∧ decode code 1151 = .ok (.iconst 2, 1) ∧ decode code 1152 = .ok (.iadd, 1) ∧ decode code 1153 = .ok (.iaload, 1) ∧ decode code 1154 = .ok (.invokevirtual 120, 3) ∧ decode code 1157 = .ok (.pop, 1) ∧ decode code 1158 = .ok (.goto 423, 3) ∧ decode code 1161 = .ok (.aload_n 1, 1) ∧ decode code 1162 = .ok (.aload_n 0, 1) ∧ decode code 1163 = .ok (.iload_n 3, 1) ∧ decode code 1164 = .ok (.iconst 1, 1) ∧ decode code 1165 = .ok (.iadd, 1) ∧ decode code 1166 = .ok (.iaload, 1) ∧ decode code 1167 = .ok (.aload_n 0, 1) := by decide +kernel
theorem dL_1148 : decode code 1148 = .ok (.iaload, 1) := dLc_51.1
theorem dL_1149 : decode code 1149 = .ok (.aload_n 0, 1) := dLc_51.2.1
theorem dL_1150 : decode code 1150 = .ok (.iload_n 3, 1) := dLc_51.2.2.1
theorem dL_1151 : decode code 1151 = .ok (.iconst 2, 1) := dLc_51.2.2.2.1
theorem dL_1152 : decode code 1152 = .ok (.iadd, 1) := dLc_51.2.2.2.2.1
theorem dL_1153 : decode code 1153 = .ok (.iaload, 1) := dLc_51.2.2.2.2.2.1
theorem dL_1154 : decode code 1154 = .ok (.invokevirtual 120, 3) := dLc_51.2.2.2.2.2.2.1
theorem dL_1157 : decode code 1157 = .ok (.pop, 1) := dLc_51.2.2.2.2.2.2.2.1
theorem dL_1158 : decode code 1158 = .ok (.goto 423, 3) := dLc_51.2.2.2.2.2.2.2.2.1
theorem dL_1161 : decode code 1161 = .ok (.aload_n 1, 1) := dLc_51.2.2.2.2.2.2.2.2.2.1
theorem dL_1162 : decode code 1162 = .ok (.aload_n 0, 1) := dLc_51.2.2.2.2.2.2.2.2.2.2.1
theorem dL_1163 : decode code 1163 = .ok (.iload_n 3, 1) := dLc_51.2.2.2.2.2.2.2.2.2.2.2.1
theorem dL_1164 : decode code 1164 = .ok (.iconst 1, 1) := dLc_51.2.2.2.2.2.2.2.2.2.2.2.2.1
theorem dL_1165 : decode code 1165 = .ok (.iadd, 1) := dLc_51.2.2.2.2.2.2.2.2.2.2.2.2.2.1
theorem dL_1166 : decode code 1166 = .ok (.iaload, 1) := dLc_51.2.2.2.2.2.2.2.2.2.2.2.2.2.2.1
theorem dL_1167 : decode code 1167 = .ok (.aload_n 0, 1) := dLc_51.2.2.2.2.2.2.2.2.2.2.2.2.2.2.2
set_option maxRecDepth 20000 in
theorem dLc_52 : decode code 1168 = .ok (.iload_n 3, 1) ∧ decode code 1169 = .ok (.iconst 2, 1) ∧ decode code 1170 = .ok (.iadd, 1) ∧ decode code 1171 = .ok (.iaload, 1) ∧ decode code 1172 = .ok (.aload_n 0, 1) ∧ decode code 1173 = .ok (.iload_n 3, 1) ∧ decode code 1174 = .ok (.iconst 3, 1) ∧ decode code 1175 = .ok (.iadd, 1) ∧ decode code 1176 = .ok (.iaload, 1) ∧ decode code 1177 = .ok (.aload_n 0, 1) ∧ decode code 1178 = .ok (.iload_n 3, 1) ∧ decode code 1179 = .ok (.iconst 4, 1) ∧ decode code 1180 = .ok (.iadd, 1) ∧ decode code 1181 = .ok (.iaload, 1) ∧ decode code 1182 = .ok (.invokevirtual 121, 3) ∧ decode code 1185 = .ok (.pop, 1) := by decide +kernel
theorem dL_1168 : decode code 1168 = .ok (.iload_n 3, 1) := dLc_52.1
theorem dL_1169 : decode code 1169 = .ok (.iconst 2, 1) := dLc_52.2.1
theorem dL_1170 : decode code 1170 = .ok (.iadd, 1) := dLc_52.2.2.1
theorem dL_1171 : decode code 1171 = .ok (.iaload, 1) := dLc_52.2.2.2.1
theorem dL_1172 : decode code 1172 = .ok (.aload_n 0, 1) := dLc_52.2.2.2.2.1
theorem dL_1173 : decode code 1173 = .ok (.iload_n 3, 1) := dLc_52.2.2.2.2.2.1
theorem dL_1174 : decode code 1174 = .ok (.iconst 3, 1) := dLc_52.2.2.2.2.2.2.1
theorem dL_1175 : decode code 1175 = .ok (.iadd, 1) := dLc_52.2.2.2.2.2.2.2.1
theorem dL_1176 : decode code 1176 = .ok (.iaload, 1) := dLc_52.2.2.2.2.2.2.2.2.1
theorem dL_1177 : decode code 1177 = .ok (.aload_n 0, 1) := dLc_52.2.2.2.2.2.2.2.2.2.1
theorem dL_1178 : decode code 1178 = .ok (.iload_n 3, 1) := dLc_52.2.2.2.2.2.2.2.2.2.2.1
theorem dL_1179 : decode code 1179 = .ok (.iconst 4, 1) := dLc_52.2.2.2.2.2.2.2.2.2.2.2.1
theorem dL_1180 : decode code 1180 = .ok (.iadd, 1) := dLc_52.2.2.2.2.2.2.2.2.2.2.2.2.1
theorem dL_1181 : decode code 1181 = .ok (.iaload, 1) := dLc_52.2.2.2.2.2.2.2.2.2.2.2.2.2.1
theorem dL_1182 : decode code 1182 = .ok (.invokevirtual 121, 3) := dLc_52.2.2.2.2.2.2.2.2.2.2.2.2.2.2.1
theorem dL_1185 : decode code 1185 = .ok (.pop, 1) := dLc_52.2.2.2.2.2.2.2.2.2.2.2.2.2.2.2
set_option maxRecDepth 20000 in
theorem dLc_53 : decode code 1186 = .ok (.aload_n 2, 1) ∧ decode code 1187 = .ok (.aload_n 0, 1) ∧ decode code 1188 = .ok (.iload_n 3, 1) ∧ decode code 1189 = .ok (.iconst 1, 1) ∧ decode code 1190 = .ok (.iadd, 1) ∧ decode code 1191 = .ok (.iaload, 1) ∧ decode code 1192 = .ok (.aload_n 0, 1) ∧ decode code 1193 = .ok (.iload_n 3, 1) ∧ decode code 1194 = .ok (.iconst 2, 1) ∧ decode code 1195 = .ok (.iadd, 1) ∧ decode code 1196 = .ok (.iaload, 1) ∧ decode code 1197 = .ok (.aload_n 0, 1) ∧ decode code 1198 = .ok (.iload_n 3, 1) ∧ decode code 1199 = .ok (.iconst 3, 1) ∧ decode code 1200 = .ok (.iadd, 1) ∧ decode code 1201 = .ok (.iaload, 1) := by decide +kernel
theorem dL_1186 : decode code 1186 = .ok (.aload_n 2, 1) := dLc_53.1
theorem dL_1187 : decode code 1187 = .ok (.aload_n 0, 1) := dLc_53.2.1
theorem dL_1188 : decode code 1188 = .ok (.iload_n 3, 1) := dLc_53.2.2.1
theorem dL_1189 : decode code 1189 = .ok (.iconst 1, 1) := dLc_53.2.2.2.1
theorem dL_1190 : decode code 1190 = .ok (.iadd, 1) := dLc_53.2.2.2.2.1
theorem dL_1191 : decode code 1191 = .ok (.iaload, 1) := dLc_53.2.2.2.2.2.1
theorem dL_1192 : decode code 1192 = .ok (.aload_n 0, 1) := dLc_53.2.2.2.2.2.2.1
theorem dL_1193 : decode code 1193 = .ok (.iload_n 3, 1) := dLc_53.2.2.2.2.2.2.2.1
theorem dL_1194 : decode code 1194 = .ok (.iconst 2, 1) := dLc_53.2.2.2.2.2.2.2.2.1
theorem dL_1195 : decode code 1195 = .ok (.iadd, 1) := dLc_53.2.2.2.2.2.2.2.2.2.1
theorem dL_1196 : decode code 1196 = .ok (.iaload, 1) := dLc_53.2.2.2.2.2.2.2.2.2.2.1
theorem dL_1197 : decode code 1197 = .ok (.aload_n 0, 1) := dLc_53.2.2.2.2.2.2.2.2.2.2.2.1
theorem dL_1198 : decode code 1198 = .ok (.iload_n 3, 1) := dLc_53.2.2.2.2.2.2.2.2.2.2.2.2.1
theorem dL_1199 : decode code 1199 = .ok (.iconst 3, 1) := dLc_53.2.2.2.2.2.2.2.2.2.2.2.2.2.1
theorem dL_1200 : decode code 1200 = .ok (.iadd, 1) := dLc_53.2.2.2.2.2.2.2.2.2.2.2.2.2.2.1
theorem dL_1201 : decode code 1201 = .ok (.iaload, 1) := dLc_53.2.2.2.2.2.2.2.2.2.2.2.2.2.2.2
set_option maxRecDepth 20000 in
theorem dLc_54 : decode code 1202 = .ok (.aload_n 0, 1) ∧ decode code 1203 = .ok (.iload_n 3, 1) ∧ decode code 1204 = .ok (.iconst 4, 1) ∧ decode code 1205 = .ok (.iadd, 1) ∧ decode code 1206 = .ok (.iaload, 1) ∧ decode code 1207 = .ok (.invokevirtual 124, 3) ∧ decode code 1210 = .ok (.pop, 1) ∧ decode code 1211 = .ok (.goto 370, 3) ∧ decode code 1214 = .ok (.aload_n 1, 1) ∧ decode code 1215 = .ok (.aload_n 0, 1) ∧ decode code 1216 = .ok (.iload_n 3, 1) ∧ decode code 1217 = .ok (.iconst 1, 1) ∧ decode code 1218 = .ok (.iadd, 1) ∧ decode code 1219 = .ok (.iaload, 1) ∧ decode code 1220 = .ok (.aload_n 0, 1) ∧ decode code 1221 = .ok (.iload_n 3, 1) := by decide +kernel
theorem dL_1202 : decode code 1202 = .ok (.aload_n 0, 1) := dLc_54.1
theorem dL_1203 : decode code 1203 = .ok (.iload_n 3, 1) := dLc_54.2.1
theorem dL_1204 : decode code 1204 = .ok (.iconst 4, 1) := dLc_54.2.2.1
theorem dL_1205 : decode code 1205 = .ok (.iadd, 1) := dLc_54.2.2.2.1
theorem dL_1206 : decode code 1206 = .ok (.iaload, 1) := dLc_54.2.2.2.2.1
theorem dL_1207 : decode code 1207 = .ok (.invokevirtual 124, 3) := dLc_54.2.2.2.2.2.1
theorem dL_1210 : decode code 1210 = .ok (.pop, 1) := dLc_54.2.2.2.2.2.2.1
theorem dL_1211 : decode code 1211 = .ok (.goto 370, 3) := dLc_54.2.2.2.2.2.2.2.1
theorem dL_1214 : decode code 1214 = .ok (.aload_n 1, 1) := dLc_54.2.2.2.2.2.2.2.2.1
theorem dL_1215 : decode code 1215 = .ok (.aload_n 0, 1) := dLc_54.2.2.2.2.2.2.2.2.2.1
theorem dL_1216 : decode code 1216 = .ok (.iload_n 3, 1) := dLc_54.2.2.2.2.2.2.2.2.2.2.1
theorem dL_1217 : decode code 1217 = .ok (.iconst 1, 1) := dLc_54.2.2.2.2.2.2.2.2.2.2.2.1
theorem dL_1218 : decode code 1218 = .ok (.iadd, 1) := dLc_54.2.2.2.2.2.2.2.2.2.2.2.2.1
theorem dL_1219 : decode code 1219 = .ok (.iaload, 1) := dLc_54.2.2.2.2.2.2.2.2.2.2.2.2.2.1
theorem dL_1220 : decode code 1220 = .ok (.aload_n 0, 1) := dLc_54.2.2.2.2.2.2.2.2.2.2.2.2.2.2.1
theorem dL_1221 : decode code 1221 = .ok (.iload_n 3, 1) := dLc_54.2.2.2.2.2.2.2.2.2.2.2.2.2.2.2
set_option maxRecDepth 20000 in
theorem dLc_55 : decode code 1222 = .ok (.iconst 2, 1) ∧ decode code 1223 = .ok (.iadd, 1) ∧ decode code 1224 = .ok (.iaload, 1) ∧ decode code 1225 = .ok (.invokevirtual 125, 3) ∧ decode code 1228 = .ok (.pop, 1) ∧ decode code 1229 = .ok (.aload_n 2, 1) ∧ decode code 1230 = .ok (.aload_n 0, 1) ∧ decode code 1231 = .ok (.iload_n 3, 1) ∧ decode code 1232 = .ok (.iconst 1, 1) ∧ decode code 1233 = .ok (.iadd, 1) ∧ decode code 1234 = .ok (.iaload, 1) ∧ decode code 1235 = .ok (.aload_n 0, 1) ∧ decode code 1236 = .ok (.iload_n 3, 1) ∧ decode code 1237 = .ok (.iconst 2, 1) ∧ decode code 1238 = .ok (.iadd, 1) ∧ decode code 1239 = .ok (.iaload, 1) := by decide +kernel
theorem dL_1222 : decode code 1222 = .ok (.iconst 2, 1) := dLc_55.1
theorem dL_1223 : decode code 1223 = .ok (.iadd, 1) := dLc_55.2.1
theorem dL_1224 : decode code 1224 = .ok (.iaload, 1) := dLc_55.2.2.1
theorem dL_1225 : decode code 1225 = .ok (.invokevirtual 125, 3) := dLc_55.2.2.2.1
theorem dL_1228 : decode code 1228 = .ok (.pop, 1) := dLc_55.2.2.2.2.1
theorem dL_1229 : decode code 1229 = .ok (.aload_n 2, 1) := dLc_55.2.2.2.2.2.1
theorem dL_1230 : decode code 1230 = .ok (.aload_n 0, 1) := dLc_55.2.2.2.2.2.2.1
theorem dL_1231 : decode code 1231 = .ok (.iload_n 3, 1) := dLc_55.2.2.2.2.2.2.2.1
theorem dL_1232 : decode code 1232 = .ok (.iconst 1, 1) := dLc_55.2.2.2.2.2.2.2.2.1
theorem dL_1233 : decode code 1233 = .ok (.iadd, 1) := dLc_55.2.2.2.2.2.2.2.2.2.1
theorem dL_1234 : decode code 1234 = .ok (.iaload, 1) := dLc_55.2.2.2.2.2.2.2.2.2.2.1
theorem dL_1235 : decode code 1235 = .ok (.aload_n 0, 1) := dLc_55.2.2.2.2.2.2.2.2.2.2.2.1
theorem dL_1236 : decode code 1236 = .ok (.iload_n 3, 1) := dLc_55.2.2.2.2.2.2.2.2.2.2.2.2.1
theorem dL_1237 : decode code 1237 = .ok (.iconst 2, 1) := dLc_55.2.2.2.2.2.2.2.2.2.2.2.2.2.1
theorem dL_1238 : decode code 1238 = .ok (.iadd, 1) := dLc_55.2.2.2.2.2.2.2.2.2.2.2.2.2.2.1
theorem dL_1239 : decode code 1239 = .ok (.iaload, 1) := dLc_55.2.2.2.2.2.2.2.2.2.2.2.2.2.2.2
set_option maxRecDepth 20000 in
theorem dLc_56 : decode code 1240 = .ok (.invokevirtual 128, 3) ∧ decode code 1243 = .ok (.pop, 1) ∧ decode code 1244 = .ok (.goto 337, 3) ∧ decode code 1247 = .ok (.aload_n 1, 1) ∧ decode code 1248 = .ok (.aload_n 0, 1) ∧ decode code 1249 = .ok (.iload_n 3, 1) ∧ decode code 1250 = .ok (.iconst 1, 1) ∧ decode code 1251 = .ok (.iadd, 1) ∧ decode code 1252 = .ok (.iaload, 1) ∧ decode code 1253 = .ok (.aload_n 0, 1) ∧ decode code 1254 = .ok (.iload_n 3, 1) ∧ decode code 1255 = .ok (.iconst 2, 1) ∧ decode code 1256 = .ok (.iadd, 1) ∧ decode code 1257 = .ok (.iaload, 1) ∧ decode code 1258 = .ok (.aload_n 0, 1) ∧ decode code 1259 = .ok (.iload_n 3, 1) := by decide +kernel
theorem dL_1240 : decode code 1240 = .ok (.invokevirtual 128, 3) := dLc_56.1
theorem dL_1243 : decode code 1243 = .ok (.pop, 1) := dLc_56.2.1
theorem dL_1244 : decode code 1244 = .ok (.goto 337, 3) := dLc_56.2.2.1
theorem dL_1247 : decode code 1247 = .ok (.aload_n 1, 1) := dLc_56.2.2.2.1
theorem dL_1248 : decode code 1248 = .ok (.aload_n 0, 1) := dLc_56.2.2.2.2.1
theorem dL_1249 : decode code 1249 = .ok (.iload_n 3, 1) := dLc_56.2.2.2.2.2.1
theorem dL_1250 : decode code 1250 = .ok (.iconst 1, 1) := dLc_56.2.2.2.2.2.2.1
theorem dL_1251 : decode code 1251 = .ok (.iadd, 1) := dLc_56.2.2.2.2.2.2.2.1
theorem dL_1252 : decode code 1252 = .ok (.iaload, 1) := dLc_56.2.2.2.2.2.2.2.2.1
theorem dL_1253 : decode code 1253 = .ok (.aload_n 0, 1) := dLc_56.2.2.2.2.2.2.2.2.2.1
theorem dL_1254 : decode code 1254 = .ok (.iload_n 3, 1) := dLc_56.2.2.2.2.2.2.2.2.2.2.1
theorem dL_1255 : decode code 1255 = .ok (.iconst 2, 1) := dLc_56.2.2.2.2.2.2.2.2.2.2.2.1
theorem dL_1256 : decode code 1256 = .ok (.iadd, 1) := dLc_56.2.2.2.2.2.2.2.2.2.2.2.2.1
theorem dL_1257 : decode code 1257 = .ok (.iaload, 1) := dLc_56.2.2.2.2.2.2.2.2.2.2.2.2.2.1
theorem dL_1258 : decode code 1258 = .ok (.aload_n 0, 1) := dLc_56.2.2.2.2.2.2.2.2.2.2.2.2.2.2.1
theorem dL_1259 : decode code 1259 = .ok (.iload_n 3, 1) := dLc_56.2.2.2.2.2.2.2.2.2.2.2.2.2.2.2
set_option maxRecDepth 20000 in
theorem dLc_57 : decode code 1260 = .ok (.iconst 3, 1) ∧ decode code 1261 = .ok (.iadd, 1) ∧ decode code 1262 = .ok (.iaload, 1) ∧ decode code 1263 = .ok (.invokevirtual 129, 3) ∧ decode code 1266 = .ok (.aload_n 2, 1) ∧ decode code 1267 = .ok (.aload_n 0, 1) ∧ decode code 1268 = .ok (.iload_n 3, 1) ∧ decode code 1269 = .ok (.iconst 1, 1) ∧ decode code 1270 = .ok (.iadd, 1) ∧ decode code 1271 = .ok (.iaload, 1) ∧ decode code 1272 = .ok (.aload_n 0, 1) ∧ decode code 1273 = .ok (.iload_n 3, 1) ∧ decode code 1274 = .ok (.iconst 2, 1) ∧ decode code 1275 = .ok (.iadd, 1) ∧ decode code 1276 = .ok (.iaload, 1) ∧ decode code 1277 = .ok (.aload_n 0, 1) := by decide +kernel
theorem dL_1260 : decode code 1260 = .ok (.iconst 3, 1) := dLc_57.1
theorem dL_1261 : decode code 1261 = .ok (.iadd, 1) := dLc_57.2.1
theorem dL_1262 : decode code 1262 = .ok (.iaload, 1) := dLc_57.2.2.1
theorem dL_1263 : decode code 1263 = .ok (.invokevirtual 129, 3) := dLc_57.2.2.2.1
theorem dL_1266 : decode code 1266 = .ok (.aload_n 2, 1) := dLc_57.2.2.2.2.1
theorem dL_1267 : decode code 1267 = .ok (.aload_n 0, 1) := dLc_57.2.2.2.2.2.1
theorem dL_1268 : decode code 1268 = .ok (.iload_n 3, 1) := dLc_57.2.2.2.2.2.2.1
theorem dL_1269 : decode code 1269 = .ok (.iconst 1, 1) := dLc_57.2.2.2.2.2.2.2.1
theorem dL_1270 : decode code 1270 = .ok (.iadd, 1) := dLc_57.2.2.2.2.2.2.2.2.1
theorem dL_1271 : decode code 1271 = .ok (.iaload, 1) := dLc_57.2.2.2.2.2.2.2.2.2.1
theorem dL_1272 : decode code 1272 = .ok (.aload_n 0, 1) := dLc_57.2.2.2.2.2.2.2.2.2.2.1
theorem dL_1273 : decode code 1273 = .ok (.iload_n 3, 1) := dLc_57.2.2.2.2.2.2.2.2.2.2.2.1
theorem dL_1274 : decode code 1274 = .ok (.iconst 2, 1) := dLc_57.2.2.2.2.2.2.2.2.2.2.2.2.1
theorem dL_1275 : decode code 1275 = .ok (.iadd, 1) := dLc_57.2.2.2.2.2.2.2.2.2.2.2.2.2.1
theorem dL_1276 : decode code 1276 = .ok (.iaload, 1) := dLc_57.2.2.2.2.2.2.2.2.2.2.2.2.2.2.1
theorem dL_1277 : decode code 1277 = .ok (.aload_n 0, 1) := dLc_57.2.2.2.2.2.2.2.2.2.2.2.2.2.2.2
set_option maxRecDepth 20000 in
theorem dLc_58 : decode code 1278 = .ok (.iload_n 3, 1) ∧ decode code 1279 = .ok (.iconst 3, 1) ∧ decode code 1280 = .ok (.iadd, 1) ∧ decode code 1281 = .ok (.iaload, 1) ∧ decode code 1282 = .ok (.invokevirtual 133, 3) ∧ decode code 1285 = .ok (.lcmp, 1) ∧ decode code 1286 = .ok (.ifCond .eq 295, 3) ∧ decode code 1291 = .ok (.aload_n 1, 1) ∧ decode code 1292 = .ok (.aload_n 0, 1) ∧ decode code 1293 = .ok (.iload_n 3, 1) ∧ decode code 1294 = .ok (.iconst 1, 1) ∧ decode code 1295 = .ok (.iadd, 1) ∧ decode code 1296 = .ok (.iaload, 1) ∧ decode code 1297 = .ok (.aload_n 0, 1) ∧ decode code 1298 = .ok (.iload_n 3, 1) ∧ decode code 1299 = .ok (.iconst 2, 1) := by decide +kernel
theorem dL_1278 : decode code 1278 = .ok (.iload_n 3, 1) := dLc_58.1
theorem dL_1279 : decode code 1279 = .ok (.iconst 3, 1) := dLc_58.2.1
theorem dL_1280 : decode code 1280 = .ok (.iadd, 1) := dLc_58.2.2.1
theorem dL_1281 : decode code 1281 = .ok (.iaload, 1) := dLc_58.2.2.2.1
theorem dL_1282 : decode code 1282 = .ok (.invokevirtual 133, 3) := dLc_58.2.2.2.2.1
theorem dL_1285 : decode code 1285 = .ok (.lcmp, 1) := dLc_58.2.2.2.2.2.1
theorem dL_1286 : decode code 1286 = .ok (.ifCond .eq 295, 3) := dLc_58.2.2.2.2.2.2.1
theorem dL_1291 : decode code 1291 = .ok (.aload_n 1, 1) := dLc_58.2.2.2.2.2.2.2.1
theorem dL_1292 : decode code 1292 = .ok (.aload_n 0, 1) := dLc_58.2.2.2.2.2.2.2.2.1
theorem dL_1293 : decode code 1293 = .ok (.iload_n 3, 1) := dLc_58.2.2.2.2.2.2.2.2.2.1
theorem dL_1294 : decode code 1294 = .ok (.iconst 1, 1) := dLc_58.2.2.2.2.2.2.2.2.2.2.1
theorem dL_1295 : decode code 1295 = .ok (.iadd, 1) := dLc_58.2.2.2.2.2.2.2.2.2.2.2.1
theorem dL_1296 : decode code 1296 = .ok (.iaload, 1) := dLc_58.2.2.2.2.2.2.2.2.2.2.2.2.1
theorem dL_1297 : decode code 1297 = .ok (.aload_n 0, 1) := dLc_58.2.2.2.2.2.2.2.2.2.2.2.2.2.1
theorem dL_1298 : decode code 1298 = .ok (.iload_n 3, 1) := dLc_58.2.2.2.2.2.2.2.2.2.2.2.2.2.2.1
theorem dL_1299 : decode code 1299 = .ok (.iconst 2, 1) := dLc_58.2.2.2.2.2.2.2.2.2.2.2.2.2.2.2
set_option maxRecDepth 20000 in
theorem dLc_59 : decode code 1300 = .ok (.iadd, 1) ∧ decode code 1301 = .ok (.iaload, 1) ∧ decode code 1302 = .ok (.invokevirtual 134, 3) ∧ decode code 1305 = .ok (.pop, 1) ∧ decode code 1306 = .ok (.aload_n 2, 1) ∧ decode code 1307 = .ok (.aload_n 0, 1) ∧ decode code 1308 = .ok (.iload_n 3, 1) ∧ decode code 1309 = .ok (.iconst 1, 1) ∧ decode code 1310 = .ok (.iadd, 1) ∧ decode code 1311 = .ok (.iaload, 1) ∧ decode code 1312 = .ok (.aload_n 0, 1) ∧ decode code 1313 = .ok (.iload_n 3, 1) ∧ decode code 1314 = .ok (.iconst 2, 1) ∧ decode code 1315 = .ok (.iadd, 1) ∧ decode code 1316 = .ok (.iaload, 1) ∧ decode code 1317 = .ok (.invokevirtual 137, 3) := by decide +kernel
theorem dL_1300 : decode code 1300 = .ok (.iadd, 1) := dLc_59.1
theorem dL_1301 : decode code 1301 = .ok (.iaload, 1) := dLc_59.2.1
theorem dL_1302 : decode code 1302 = .ok (.invokevirtual 134, 3) := dLc_59.2.2.1
theorem dL_1305 : decode code 1305 = .ok (.pop, 1) := dLc_59.2.2.2.1
theorem dL_1306 : decode code 1306 = .ok (.aload_n 2, 1) := dLc_59.2.2.2.2.1
theorem dL_1307 : decode code 1307 = .ok (.aload_n 0, 1) := dLc_59.2.2.2.2.2.1
theorem dL_1308 : decode code 1308 = .ok (.iload_n 3, 1) := dLc_59.2.2.2.2.2.2.1
theorem dL_1309 : decode code 1309 = .ok (.iconst 1, 1) := dLc_59.2.2.2.2.2.2.2.1
theorem dL_1310 : decode code 1310 = .ok (.iadd, 1) := dLc_59.2.2.2.2.2.2.2.2.1
theorem dL_1311 : decode code 1311 = .ok (.iaload, 1) := dLc_59.2.2.2.2.2.2.2.2.2.1
theorem dL_1312 : decode code 1312 = .ok (.aload_n 0, 1) := dLc_59.2.2.2.2.2.2.2.2.2.2.1
theorem dL_1313 : decode code 1313 = .ok (.iload_n 3, 1) := dLc_59.2.2.2.2.2.2.2.2.2.2.2.1
theorem dL_1314 : decode code 1314 = .ok (.iconst 2, 1) := dLc_59.2.2.2.2.2.2.2.2.2.2.2.2.1
theorem dL_1315 : decode code 1315 = .ok (.iadd, 1) := dLc_59.2.2.2.2.2.2.2.2.2.2.2.2.2.1
theorem dL_1316 : decode code 1316 = .ok (.iaload, 1) := dLc_59.2.2.2.2.2.2.2.2.2.2.2.2.2.2.1
theorem dL_1317 : decode code 1317 = .ok (.invokevirtual 137, 3) := dLc_59.2.2.2.2.2.2.2.2.2.2.2.2.2.2.2
set_option maxRecDepth 20000 in
theorem dLc_60 : decode code 1320 = .ok (.pop, 1) ∧ decode code 1321 = .ok (.goto 260, 3) ∧ decode code 1324 = .ok (.aload_n 1, 1) ∧ decode code 1325 = .ok (.aload_n 0, 1) ∧ decode code 1326 = .ok (.iload_n 3, 1) ∧ decode code 1327 = .ok (.iconst 1, 1) ∧ decode code 1328 = .ok (.iadd, 1) ∧ decode code 1329 = .ok (.iaload, 1) ∧ decode code 1330 = .ok (.aload_n 0, 1) ∧ decode code 1331 = .ok (.iload_n 3, 1) ∧ decode code 1332 = .ok (.iconst 2, 1) ∧ decode code 1333 = .ok (.iadd, 1) ∧ decode code 1334 = .ok (.iaload, 1) ∧ decode code 1335 = .ok (.aload_n 0, 1) ∧ decode code 1336 = .ok (.iload_n 3, 1) ∧ decode code 1337 = .ok (.iconst 3, 1) := by decide +kernel
theorem dL_1320 : decode code 1320 = .ok (.pop, 1) := dLc_60.1
theorem dL_1321 : decode code 1321 = .ok (.goto 260, 3) := dLc_60.2.1
theorem dL_1324 : decode code 1324 = .ok (.aload_n 1, 1) := dLc_60.2.2.1
theorem dL_1325 : decode code 1325 = .ok (.aload_n 0, 1) := dLc_60.2.2.2.1
theorem dL_1326 : decode code 1326 = .ok (.iload_n 3, 1) := dLc_60.2.2.2.2.1
theorem dL_1327 : decode code 1327 = .ok (.iconst 1, 1) := dLc_60.2.2.2.2.2.1
theorem dL_1328 : decode code 1328 = .ok (.iadd, 1) := dLc_60.2.2.2.2.2.2.1
theorem dL_1329 : decode code 1329 = .ok (.iaload, 1) := dLc_60.2.2.2.2.2.2.2.1
theorem dL_1330 : decode code 1330 = .ok (.aload_n 0, 1) := dLc_60.2.2.2.2.2.2.2.2.1
theorem dL_1331 : decode code 1331 = .ok (.iload_n 3, 1) := dLc_60.2.2.2.2.2.2.2.2.2.1
theorem dL_1332 : decode code 1332 = .ok (.iconst 2, 1) := dLc_60.2.2.2.2.2.2.2.2.2.2.1
theorem dL_1333 : decode code 1333 = .ok (.iadd, 1) := dLc_60.2.2.2.2.2.2.2.2.2.2.2.1
theorem dL_1334 : decode code 1334 = .ok (.iaload, 1) := dLc_60.2.2.2.2.2.2.2.2.2.2.2.2.1
theorem dL_1335 : decode code 1335 = .ok (.aload_n 0, 1) := dLc_60.2.2.2.2.2.2.2.2.2.2.2.2.2.1
theorem dL_1336 : decode code 1336 = .ok (.iload_n 3, 1) := dLc_60.2.2.2.2.2.2.2.2.2.2.2.2.2.2.1
theorem dL_1337 : decode code 1337 = .ok (.iconst 3, 1) := dLc_60.2.2.2.2.2.2.2.2.2.2.2.2.2.2.2
set_option maxRecDepth 20000 in
theorem dLc_61 : decode code 1338 = .ok (.iadd, 1) ∧ decode code 1339 = .ok (.iaload, 1) ∧ decode code 1340 = .ok (.aload_n 0, 1) ∧ decode code 1341 = .ok (.iload_n 3, 1) ∧ decode code 1342 = .ok (.iconst 4, 1) ∧ decode code 1343 = .ok (.iadd, 1) ∧ decode code 1344 = .ok (.iaload, 1) ∧ decode code 1345 = .ok (.invokevirtual 138, 3) ∧ decode code 1348 = .ok (.pop, 1) ∧ decode code 1349 = .ok (.aload_n 2, 1) ∧ decode code 1350 = .ok (.aload_n 0, 1) ∧ decode code 1351 = .ok (.iload_n 3, 1) ∧ decode code 1352 = .ok (.iconst 1, 1) ∧ decode code 1353 = .ok (.iadd, 1) ∧ decode code 1354 = .ok (.iaload, 1) ∧ decode code 1355 = .ok (.aload_n 0, 1) := by decide +kernel
theorem dL_1338 : decode code 1338 = .ok (.iadd, 1) := dLc_61.1
theorem dL_1339 : decode code 1339 = .ok (.iaload, 1) := dLc_61.2.1
theorem dL_1340 : decode code 1340 = .ok (.aload_n 0, 1) := dLc_61.2.2.1
theorem dL_1341 : decode code 1341 = .ok (.iload_n 3, 1) := dLc_61.2.2.2.1
theorem dL_1342 : decode code 1342 = .ok (.iconst 4, 1) := dLc_61.2.2.2.2.1
theorem dL_1343 : decode code 1343 = .ok (.iadd, 1) := dLc_61.2.2.2.2.2.1
theorem dL_1344 : decode code 1344 = .ok (.iaload, 1) := dLc_61.2.2.2.2.2.2.1
theorem dL_1345 : decode code 1345 = .ok (.invokevirtual 138, 3) := dLc_61.2.2.2.2.2.2.2.1
theorem dL_1348 : decode code 1348 = .ok (.pop, 1) := dLc_61.2.2.2.2.2.2.2.2.1
theorem dL_1349 : decode code 1349 = .ok (.aload_n 2, 1) := dLc_61.2.2.2.2.2.2.2.2.2.1
theorem dL_1350 : decode code 1350 = .ok (.aload_n 0, 1) := dLc_61.2.2.2.2.2.2.2.2.2.2.1
theorem dL_1351 : decode code 1351 = .ok (.iload_n 3, 1) := dLc_61.2.2.2.2.2.2.2.2.2.2.2.1
theorem dL_1352 : decode code 1352 = .ok (.iconst 1, 1) := dLc_61.2.2.2.2.2.2.2.2.2.2.2.2.1
theorem dL_1353 : decode code 1353 = .ok (.iadd, 1) := dLc_61.2.2.2.2.2.2.2.2.2.2.2.2.2.1
theorem dL_1354 : decode code 1354 = .ok (.iaload, 1) := dLc_61.2.2.2.2.2.2.2.2.2.2.2.2.2.2.1
theorem dL_1355 : decode code 1355 = .ok (.aload_n 0, 1) := dLc_61.2.2.2.2.2.2.2.2.2.2.2.2.2.2.2
set_option maxRecDepth 20000 in
theorem dLc_62 : decode code 1356 = .ok (.iload_n 3, 1) ∧ decode code 1357 = .ok (.iconst 2, 1) ∧ decode code 1358 = .ok (.iadd, 1) ∧ decode code 1359 = .ok (.iaload, 1) ∧ decode code 1360 = .ok (.aload_n 0, 1) ∧ decode code 1361 = .ok (.iload_n 3, 1) ∧ decode code 1362 = .ok (.iconst 3, 1) ∧ decode code 1363 = .ok (.iadd, 1) ∧ decode code 1364 = .ok (.iaload, 1) ∧ decode code 1365 = .ok (.aload_n 0, 1) ∧ decode code 1366 = .ok (.iload_n 3, 1) ∧ decode code 1367 = .ok (.iconst 4, 1) ∧ decode code 1368 = .ok (.iadd, 1) ∧ decode code 1369 = .ok (.iaload, 1) ∧ decode code 1370 = .ok (.invokevirtual 141, 3) ∧ decode code 1373 = .ok (.pop, 1) := by decide +kernel
theorem dL_1356 : decode code 1356 = .ok (.iload_n 3, 1) := dLc_62.1
theorem dL_1357 : decode code 1357 = .ok (.iconst 2, 1) := dLc_62.2.1
theorem dL_1358 : decode code 1358 = .ok (.iadd, 1) := dLc_62.2.2.1
theorem dL_1359 : decode code 1359 = .ok (.iaload, 1) := dLc_62.2.2.2.1
theorem dL_1360 : decode code 1360 = .ok (.aload_n 0, 1) := dLc_62.2.2.2.2.1
theorem dL_1361 : decode code 1361 = .ok (.iload_n 3, 1) := dLc_62.2.2.2.2.2.1
theorem dL_1362 : decode code 1362 = .ok (.iconst 3, 1) := dLc_62.2.2.2.2.2.2.1
theorem dL_1363 : decode code 1363 = .ok (.iadd, 1) := dLc_62.2.2.2.2.2.2.2.1
theorem dL_1364 : decode code 1364 = .ok (.iaload, 1) := dLc_62.2.2.2.2.2.2.2.2.1
theorem dL_1365 : decode code 1365 = .ok (.aload_n 0, 1) := dLc_62.2.2.2.2.2.2.2.2.2.1
theorem dL_1366 : decode code 1366 = .ok (.iload_n 3, 1) := dLc_62.2.2.2.2.2.2.2.2.2.2.1
theorem dL_1367 : decode code 1367 = .ok (.iconst 4, 1) := dLc_62.2.2.2.2.2.2.2.2.2.2.2.1
theorem dL_1368 : decode code 1368 = .ok (.iadd, 1) := dLc_62.2.2.2.2.2.2.2.2.2.2.2.2.1
theorem dL_1369 : decode code 1369 = .ok (.iaload, 1) := dLc_62.2.2.2.2.2.2.2.2.2.2.2.2.2.1
theorem dL_1370 : decode code 1370 = .ok (.invokevirtual 141, 3) := dLc_62.2.2.2.2.2.2.2.2.2.2.2.2.2.2.1
theorem dL_1373 : decode code 1373 = .ok (.pop, 1) := dLc_62.2.2.2.2.2.2.2.2.2.2.2.2.2.2.2
set_option maxRecDepth 20000 in
theorem dLc_63 : decode code 1374 = .ok (.goto 207, 3) ∧ decode code 1377 = .ok (.aload_n 1, 1) ∧ decode code 1378 = .ok (.aload_n 0, 1) ∧ decode code 1379 = .ok (.iload_n 3, 1) ∧ decode code 1380 = .ok (.iconst 1, 1) ∧ decode code 1381 = .ok (.iadd, 1) ∧ decode code 1382 = .ok (.iaload, 1) ∧ decode code 1383 = .ok (.aload_n 0, 1) ∧ decode code 1384 = .ok (.iload_n 3, 1) ∧ decode code 1385 = .ok (.iconst 2, 1) ∧ decode code 1386 = .ok (.iadd, 1) ∧ decode code 1387 = .ok (.iaload, 1) ∧ decode code 1388 = .ok (.aload_n 0, 1) ∧ decode code 1389 = .ok (.iload_n 3, 1) ∧ decode code 1390 = .ok (.iconst 3, 1) ∧ decode code 1391 = .ok (.iadd, 1) := by decide +kernel
theorem dL_1374 : decode code 1374 = .ok (.goto 207, 3) := dLc_63.1
theorem dL_1377 : decode code 1377 = .ok (.aload_n 1, 1) := dLc_63.2.1
theorem dL_1378 : decode code 1378 = .ok (.aload_n 0, 1) := dLc_63.2.2.1
theorem dL_1379 : decode code 1379 = .ok (.iload_n 3, 1) := dLc_63.2.2.2.1
theorem dL_1380 : decode code 1380 = .ok (.iconst 1, 1) := dLc_63.2.2.2.2.1
theorem dL_1381 : decode code 1381 = .ok (.iadd, 1) := dLc_63.2.2.2.2.2.1
theorem dL_1382 : decode code 1382 = .ok (.iaload, 1) := dLc_63.2.2.2.2.2.2.1
theorem dL_1383 : decode code 1383 = .ok (.aload_n 0, 1) := dLc_63.2.2.2.2.2.2.2.1
theorem dL_1384 : decode code 1384 = .ok (.iload_n 3, 1) := dLc_63.2.2.2.2.2.2.2.2.1
theorem dL_1385 : decode code 1385 = .ok (.iconst 2, 1) := dLc_63.2.2.2.2.2.2.2.2.2.1
theorem dL_1386 : decode code 1386 = .ok (.iadd, 1) := dLc_63.2.2.2.2.2.2.2.2.2.2.1
theorem dL_1387 : decode code 1387 = .ok (.iaload, 1) := dLc_63.2.2.2.2.2.2.2.2.2.2.2.1
theorem dL_1388 : decode code 1388 = .ok (.aload_n 0, 1) := dLc_63.2.2.2.2.2.2.2.2.2.2.2.2.1
theorem dL_1389 : decode code 1389 = .ok (.iload_n 3, 1) := dLc_63.2.2.2.2.2.2.2.2.2.2.2.2.2.1
theorem dL_1390 : decode code 1390 = .ok (.iconst 3, 1) := dLc_63.2.2.2.2.2.2.2.2.2.2.2.2.2.2.1
theorem dL_1391 : decode code 1391 = .ok (.iadd, 1) := dLc_63.2.2.2.2.2.2.2.2.2.2.2.2.2.2.2
set_option maxRecDepth 20000 in
theorem dLc_64 : decode code 1392 = .ok (.iaload, 1) ∧ decode code 1393 = .ok (.invokevirtual 142, 3) ∧ decode code 1396 = .ok (.pop, 1) ∧ decode code 1397 = .ok (.aload_n 2, 1) ∧ decode code 1398 = .ok (.aload_n 0, 1) ∧ decode code 1399 = .ok (.iload_n 3, 1) ∧ decode code 1400 = .ok (.iconst 1, 1) ∧ decode code 1401 = .ok (.iadd, 1) ∧ decode code 1402 = .ok (.iaload, 1) ∧ decode code 1403 = .ok (.aload_n 0, 1) ∧ decode code 1404 = .ok (.iload_n 3, 1) ∧ decode code 1405 = .ok (.iconst 2, 1) ∧ decode code 1406 = .ok (.iadd, 1) ∧ decode code 1407 = .ok (.iaload, 1) ∧ decode code 1408 = .ok (.aload_n 0, 1) ∧ decode code 1409 = .ok (.iload_n 3, 1) := by decide +kernel
theorem dL_1392 : decode code 1392 = .ok (.iaload, 1) := dLc_64.1
theorem dL_1393 : decode code 1393 = .ok (.invokevirtual 142, 3) := dLc_64.2.1
theorem dL_1396 : decode code 1396 = .ok (.pop, 1) := dLc_64.2.2.1
theorem dL_1397 : decode code 1397 = .ok (.aload_n 2, 1) := dLc_64.2.2.2.1
theorem dL_1398 : decode code 1398 = .ok (.aload_n 0, 1) := dLc_64.2.2.2.2.1
theorem dL_1399 : decode code 1399 = .ok (.iload_n 3, 1) := dLc_64.2.2.2.2.2.1
theorem dL_1400 : decode code 1400 = .ok (.iconst 1, 1) := dLc_64.2.2.2.2.2.2.1
theorem dL_1401 : decode code 1401 = .ok (.iadd, 1) := dLc_64.2.2.2.2.2.2.2.1
theorem dL_1402 : decode code 1402 = .ok (.iaload, 1) := dLc_64.2.2.2.2.2.2.2.2.1
theorem dL_1403 : decode code 1403 = .ok (.aload_n 0, 1) := dLc_64.2.2.2.2.2.2.2.2.2.1
theorem dL_1404 : decode code 1404 = .ok (.iload_n 3, 1) := dLc_64.2.2.2.2.2.2.2.2.2.2.1
theorem dL_1405 : decode code 1405 = .ok (.iconst 2, 1) := dLc_64.2.2.2.2.2.2.2.2.2.2.2.1
theorem dL_1406 : decode code 1406 = .ok (.iadd, 1) := dLc_64.2.2.2.2.2.2.2.2.2.2.2.2.1
theorem dL_1407 : decode code 1407 = .ok (.iaload, 1) := dLc_64.2.2.2.2.2.2.2.2.2.2.2.2.2.1
theorem dL_1408 : decode code 1408 = .ok (.aload_n 0, 1) := dLc_64.2.2.2.2.2.2.2.2.2.2.2.2.2.2.1
theorem dL_1409 : decode code 1409 = .ok (.iload_n 3, 1) := dLc_64.2.2.2.2.2.2.2.2.2.2.2.2.2.2.2
set_option maxRecDepth 20000 in
theorem dLc_65 : decode code 1410 = .ok (.iconst 3, 1) ∧ decode code 1411 = .ok (.iadd, 1) ∧ decode code 1412 = .ok (.iaload, 1) ∧ decode code 1413 = .ok (.invokevirtual 145, 3) ∧ decode code 1416 = .ok (.pop, 1) ∧ decode code 1417 = .ok (.goto 164, 3) ∧ decode code 1420 = .ok (.aload_n 1, 1) ∧ decode code 1421 = .ok (.aload_n 0, 1) ∧ decode code 1422 = .ok (.iload_n 3, 1) ∧ decode code 1423 = .ok (.iconst 1, 1) ∧ decode code 1424 = .ok (.iadd, 1) ∧ decode code 1425 = .ok (.iaload, 1) ∧ decode code 1426 = .ok (.aload_n 0, 1) ∧ decode code 1427 = .ok (.iload_n 3, 1) ∧ decode code 1428 = .ok (.iconst 2, 1) ∧ decode code 1429 = .ok (.iadd, 1) := by decide +kernel
theorem dL_1410 : decode code 1410 = .ok (.iconst 3, 1) := dLc_65.1
theorem dL_1411 : decode code 1411 = .ok (.iadd, 1) := dLc_65.2.1
theorem dL_1412 : decode code 1412 = .ok (.iaload, 1) := dLc_65.2.2.1
theorem dL_1413 : decode code 1413 = .ok (.invokevirtual 145, 3) := dLc_65.2.2.2.1
theorem dL_1416 : decode code 1416 = .ok (.pop, 1) := dLc_65.2.2.2.2.1
theorem dL_1417 : decode code 1417 = .ok (.goto 164, 3) := dLc_65.2.2.2.2.2.1
theorem dL_1420 : decode code 1420 = .ok (.aload_n 1, 1) := dLc_65.2.2.2.2.2.2.1
theorem dL_1421 : decode code 1421 = .ok (.aload_n 0, 1) := dLc_65.2.2.2.2.2.2.2.1
theorem dL_1422 : decode code 1422 = .ok (.iload_n 3, 1) := dLc_65.2.2.2.2.2.2.2.2.1
theorem dL_1423 : decode code 1423 = .ok (.iconst 1, 1) := dLc_65.2.2.2.2.2.2.2.2.2.1
theorem dL_1424 : decode code 1424 = .ok (.iadd, 1) := dLc_65.2.2.2.2.2.2.2.2.2.2.1
theorem dL_1425 : decode code 1425 = .ok (.iaload, 1) := dLc_65.2.2.2.2.2.2.2.2.2.2.2.1
theorem dL_1426 : decode code 1426 = .ok (.aload_n 0, 1) := dLc_65.2.2.2.2.2.2.2.2.2.2.2.2.1
theorem dL_1427 : decode code 1427 = .ok (.iload_n 3, 1) := dLc_65.2.2.2.2.2.2.2.2.2.2.2.2.2.1
theorem dL_1428 : decode code 1428 = .ok (.iconst 2, 1) := dLc_65.2.2.2.2.2.2.2.2.2.2.2.2.2.2.1
theorem dL_1429 : decode code 1429 = .ok (.iadd, 1) := dLc_65.2.2.2.2.2.2.2.2.2.2.2.2.2.2.2
set_option maxRecDepth 20000 in
theorem dLc_66 : decode code 1430 = .ok (.iaload, 1) ∧ decode code 1431 = .ok (.invokevirtual 146, 3) ∧ decode code 1434 = .ok (.pop, 1) ∧ decode code 1435 = .ok (.aload_n 2, 1) ∧ decode code 1436 = .ok (.aload_n 0, 1) ∧ decode code 1437 = .ok (.iload_n 3, 1) ∧ decode code 1438 = .ok (.iconst 1, 1) ∧ decode code 1439 = .ok (.iadd, 1) ∧ decode code 1440 = .ok (.iaload, 1) ∧ decode code 1441 = .ok (.aload_n 0, 1) ∧ decode code 1442 = .ok (.iload_n 3, 1) ∧ decode code 1443 = .ok (.iconst 2, 1) ∧ decode code 1444 = .ok (.iadd, 1) ∧ decode code 1445 = .ok (.iaload, 1) ∧ decode code 1446 = .ok (.invokevirtual 149, 3) ∧ decode code 1449 = .ok (.pop, 1) := by decide +kernel
theorem dL_1430 : decode code 1430 = .ok (.iaload, 1) := dLc_66.1
theorem dL_1431 : decode code 1431 = .ok (.invokevirtual 146, 3) := dLc_66.2.1
theorem dL_1434 : decode code 1434 = .ok (.pop, 1) := dLc_66.2.2.1
theorem dL_1435 : decode code 1435 = .ok (.aload_n 2, 1) := dLc_66.2.2.2.1
theorem dL_1436 : decode code 1436 = .ok (.aload_n 0, 1) := dLc_66.2.2.2.2.1
theorem dL_1437 : decode code 1437 = .ok (.iload_n 3, 1) := dLc_66.2.2.2.2.2.1
theorem dL_1438 : decode code 1438 = .ok (.iconst 1, 1) := dLc_66.2.2.2.2.2.2.1
theorem dL_1439 : decode code 1439 = .ok (.iadd, 1) := dLc_66.2.2.2.2.2.2.2.1
theorem dL_1440 : decode code 1440 = .ok (.iaload, 1) := dLc_66.2.2.2.2.2.2.2.2.1
theorem dL_1441 : decode code 1441 = .ok (.aload_n 0, 1) := dLc_66.2.2.2.2.2.2.2.2.2.1
theorem dL_1442 : decode code 1442 = .ok (.iload_n 3, 1) := dLc_66.2.2.2.2.2.2.2.2.2.2.1
theorem dL_1443 : decode code 1443 = .ok (.iconst 2, 1) := dLc_66.2.2.2.2.2.2.2.2.2.2.2.1
theorem dL_1444 : decode code 1444 = .ok (.iadd, 1) := dLc_66.2.2.2.2.2.2.2.2.2.2.2.2.1
theorem dL_1445 : decode code 1445 = .ok (.iaload, 1) := dLc_66.2.2.2.2.2.2.2.2.2.2.2.2.2.1
theorem dL_1446 : decode code 1446 = .ok (.invokevirtual 149, 3) := dLc_66.2.2.2.2.2.2.2.2.2.2.2.2.2.2.1
theorem dL_1449 : decode code 1449 = .ok (.pop, 1) := dLc_66.2.2.2.2.2.2.2.2.2.2.2.2.2.2.2
set_option maxRecDepth 20000 in
theorem dLc_67 : decode code 1450 = .ok (.goto 131, 3) ∧ decode code 1453 = .ok (.aload_n 1, 1) ∧ decode code 1454 = .ok (.aload_n 0, 1) ∧ decode code 1455 = .ok (.iload_n 3, 1) ∧ decode code 1456 = .ok (.iconst 1, 1) ∧ decode code 1457 = .ok (.iadd, 1) ∧ decode code 1458 = .ok (.iaload, 1) ∧ decode code 1459 = .ok (.aload_n 0, 1) ∧ decode code 1460 = .ok (.iload_n 3, 1) ∧ decode code 1461 = .ok (.iconst 2, 1) ∧ decode code 1462 = .ok (.iadd, 1) ∧ decode code 1463 = .ok (.iaload, 1) ∧ decode code 1464 = .ok (.invokevirtual 150, 3) ∧ decode code 1467 = .ok (.pop, 1) ∧ decode code 1468 = .ok (.aload_n 2, 1) ∧ decode code 1469 = .ok (.aload_n 0, 1) := by decide +kernel
theorem dL_1450 : decode code 1450 = .ok (.goto 131, 3) := dLc_67.1
theorem dL_1453 : decode code 1453 = .ok (.aload_n 1, 1) := dLc_67.2.1
theorem dL_1454 : decode code 1454 = .ok (.aload_n 0, 1) := dLc_67.2.2.1
theorem dL_1455 : decode code 1455 = .ok (.iload_n 3, 1) := dLc_67.2.2.2.1
theorem dL_1456 : decode code 1456 = .ok (.iconst 1, 1) := dLc_67.2.2.2.2.1
theorem dL_1457 : decode code 1457 = .ok (.iadd, 1) := dLc_67.2.2.2.2.2.1
theorem dL_1458 : decode code 1458 = .ok (.iaload, 1) := dLc_67.2.2.2.2.2.2.1
theorem dL_1459 : decode code 1459 = .ok (.aload_n 0, 1) := dLc_67.2.2.2.2.2.2.2.1
theorem dL_1460 : decode code 1460 = .ok (.iload_n 3, 1) := dLc_67.2.2.2.2.2.2.2.2.1
theorem dL_1461 : decode code 1461 = .ok (.iconst 2, 1) := dLc_67.2.2.2.2.2.2.2.2.2.1
theorem dL_1462 : decode code 1462 = .ok (.iadd, 1) := dLc_67.2.2.2.2.2.2.2.2.2.2.1
theorem dL_1463 : decode code 1463 = .ok (.iaload, 1) := dLc_67.2.2.2.2.2.2.2.2.2.2.2.1
theorem dL_1464 : decode code 1464 = .ok (.invokevirtual 150, 3) := dLc_67.2.2.2.2.2.2.2.2.2.2.2.2.1
theorem dL_1467 : decode code 1467 = .ok (.pop, 1) := dLc_67.2.2.2.2.2.2.2.2.2.2.2.2.2.1
theorem dL_1468 : decode code 1468 = .ok (.aload_n 2, 1) := dLc_67.2.2.2.2.2.2.2.2.2.2.2.2.2.2.1
theorem dL_1469 : decode code 1469 = .ok (.aload_n 0, 1) := dLc_67.2.2.2.2.2.2.2.2.2.2.2.2.2.2.2
set_option maxRecDepth 20000 in
theorem dLc_68 : decode code 1470 = .ok (.iload_n 3, 1) ∧ decode code 1471 = .ok (.iconst 1, 1) ∧ decode code 1472 = .ok (.iadd, 1) ∧ decode code 1473 = .ok (.iaload, 1) ∧ decode code 1474 = .ok (.aload_n 0, 1) ∧ decode code 1475 = .ok (.iload_n 3, 1) ∧ decode code 1476 = .ok (.iconst 2, 1) ∧ decode code 1477 = .ok (.iadd, 1) ∧ decode code 1478 = .ok (.iaload, 1) ∧ decode code 1479 = .ok (.invokevirtual 153, 3) ∧ decode code 1482 = .ok (.pop, 1) ∧ decode code 1483 = .ok (.goto 98, 3) ∧ decode code 1486 = .ok (.aload_n 1, 1) ∧ decode code 1487 = .ok (.aload_n 0, 1) ∧ decode code 1488 = .ok (.iload_n 3, 1) ∧ decode code 1489 = .ok (.iconst 1, 1) := by decide +kernel
theorem dL_1470 : decode code 1470 = .ok (.iload_n 3, 1) := dLc_68.1
theorem dL_1471 : decode code 1471 = .ok (.iconst 1, 1) := dLc_68.2.1
theorem dL_1472 : decode code 1472 = .ok (.iadd, 1) := dLc_68.2.2.1
theorem dL_1473 : decode code 1473 = .ok (.iaload, 1) := dLc_68.2.2.2.1
theorem dL_1474 : decode code 1474 = .ok (.aload_n 0, 1) := dLc_68.2.2.2.2.1
theorem dL_1475 : decode code 1475 = .ok (.iload_n 3, 1) := dLc_68.2.2.2.2.2.1
theorem dL_1476 : decode code 1476 = .ok (.iconst 2, 1) := dLc_68.2.2.2.2.2.2.1
theorem dL_1477 : decode code 1477 = .ok (.iadd, 1) := dLc_68.2.2.2.2.2.2.2.1
theorem dL_1478 : decode code 1478 = .ok (.iaload, 1) := dLc_68.2.2.2.2.2.2.2.2.1
theorem dL_1479 : decode code 1479 = .ok (.invokevirtual 153, 3) := dLc_68.2.2.2.2.2.2.2.2.2.1
theorem dL_1482 : decode code 1482 = .ok (.pop, 1) := dLc_68.2.2.2.2.2.2.2.2.2.2.1
theorem dL_1483 : decode code 1483 = .ok (.goto 98, 3) := dLc_68.2.2.2.2.2.2.2.2.2.2.2.1
theorem dL_1486 : decode code 1486 = .ok (.aload_n 1, 1) := dLc_68.2.2.2.2.2.2.2.2.2.2.2.2.1
theorem dL_1487 : decode code 1487 = .ok (.aload_n 0, 1) := dLc_68.2.2.2.2.2.2.2.2.2.2.2.2.2.1
theorem dL_1488 : decode code 1488 = .ok (.iload_n 3, 1) := dLc_68.2.2.2.2.2.2.2.2.2.2.2.2.2.2.1
theorem dL_1489 : decode code 1489 = .ok (.iconst 1, 1) := dLc_68.2.2.2.2.2.2.2.2.2.2.2.2.2.2.2
set_option maxRecDepth 20000 in
theorem dLc_69 : decode code 1490 = .ok (.iadd, 1) ∧ decode code 1491 = .ok (.iaload, 1) ∧ decode code 1492 = .ok (.invokevirtual 154, 3) ∧ decode code 1495 = .ok (.pop, 1) ∧ decode code 1496 = .ok (.aload_n 2, 1) ∧ decode code 1497 = .ok (.aload_n 0, 1) ∧ decode code 1498 = .ok (.iload_n 3, 1) ∧ decode code 1499 = .ok (.iconst 1, 1) ∧ decode code 1500 = .ok (.iadd, 1) ∧ decode code 1501 = .ok (.iaload, 1) ∧ decode code 1502 = .ok (.invokevirtual 157, 3) ∧ decode code 1505 = .ok (.pop, 1) ∧ decode code 1506 = .ok (.goto 75, 3) ∧ decode code 1509 = .ok (.aload_n 1, 1) ∧ decode code 1510 = .ok (.invokevirtual 158, 3) ∧ decode code 1513 = .ok (.pop, 1) := by decide +kernel
theorem dL_1490 : decode code 1490 = .ok (.iadd, 1) := dLc_69.1
theorem dL_1491 : decode code 1491 = .ok (.iaload, 1) := dLc_69.2.1
theorem dL_1492 : decode code 1492 = .ok (.invokevirtual 154, 3) := dLc_69.2.2.1
theorem dL_1495 : decode code 1495 = .ok (.pop, 1) := dLc_69.2.2.2.1
theorem dL_1496 : decode code 1496 = .ok (.aload_n 2, 1) := dLc_69.2.2.2.2.1
theorem dL_1497 : decode code 1497 = .ok (.aload_n 0, 1) := dLc_69.2.2.2.2.2.1
theorem dL_1498 : decode code 1498 = .ok (.iload_n 3, 1) := dLc_69.2.2.2.2.2.2.1
theorem dL_1499 : decode code 1499 = .ok (.iconst 1, 1) := dLc_69.2.2.2.2.2.2.2.1
theorem dL_1500 : decode code 1500 = .ok (.iadd, 1) := dLc_69.2.2.2.2.2.2.2.2.1
theorem dL_1501 : decode code 1501 = .ok (.iaload, 1) := dLc_69.2.2.2.2.2.2.2.2.2.1
theorem dL_1502 : decode code 1502 = .ok (.invokevirtual 157, 3) := dLc_69.2.2.2.2.2.2.2.2.2.2.1
theorem dL_1505 : decode code 1505 = .ok (.pop, 1) := dLc_69.2.2.2.2.2.2.2.2.2.2.2.1
theorem dL_1506 : decode code 1506 = .ok (.goto 75, 3) := dLc_69.2.2.2.2.2.2.2.2.2.2.2.2.1
theorem dL_1509 : decode code 1509 = .ok (.aload_n 1, 1) := dLc_69.2.2.2.2.2.2.2.2.2.2.2.2.2.1
theorem dL_1510 : decode code 1510 = .ok (.invokevirtual 158, 3) := dLc_69.2.2.2.2.2.2.2.2.2.2.2.2.2.2.1
theorem dL_1513 : decode code 1513 = .ok (.pop, 1) := dLc_69.2.2.2.2.2.2.2.2.2.2.2.2.2.2.2
set_option maxRecDepth 20000 in
theorem dLc_70 : decode code 1514 = .ok (.aload_n 2, 1) ∧ decode code 1515 = .ok (.invokevirtual 162, 3) ∧ decode code 1518 = .ok (.pop, 1) ∧ decode code 1519 = .ok (.goto 62, 3) ∧ decode code 1522 = .ok (.aload_n 1, 1) ∧ decode code 1523 = .ok (.invokevirtual 163, 3) ∧ decode code 1526 = .ok (.pop, 1) ∧ decode code 1527 = .ok (.aload_n 2, 1) ∧ decode code 1528 = .ok (.invokevirtual 167, 3) ∧ decode code 1531 = .ok (.pop, 1) ∧ decode code 1532 = .ok (.goto 49, 3) ∧ decode code 1535 = .ok (.aload_n 1, 1) ∧ decode code 1536 = .ok (.aload_n 0, 1) ∧ decode code 1537 = .ok (.iload_n 3, 1) ∧ decode code 1538 = .ok (.iconst 1, 1) ∧ decode code 1539 = .ok (.iadd, 1) := by decide +kernel
theorem dL_1514 : decode code 1514 = .ok (.aload_n 2, 1) := dLc_70.1
theorem dL_1515 : decode code 1515 = .ok (.invokevirtual 162, 3) := dLc_70.2.1
theorem dL_1518 : decode code 1518 = .ok (.pop, 1) := dLc_70.2.2.1
theorem dL_1519 : decode code 1519 = .ok (.goto 62, 3) := dLc_70.2.2.2.1
theorem dL_1522 : decode code 1522 = .ok (.aload_n 1, 1) := dLc_70.2.2.2.2.1
theorem dL_1523 : decode code 1523 = .ok (.invokevirtual 163, 3) := dLc_70.2.2.2.2.2.1
theorem dL_1526 : decode code 1526 = .ok (.pop, 1) := dLc_70.2.2.2.2.2.2.1
theorem dL_1527 : decode code 1527 = .ok (.aload_n 2, 1) := dLc_70.2.2.2.2.2.2.2.1
theorem dL_1528 : decode code 1528 = .ok (.invokevirtual 167, 3) := dLc_70.2.2.2.2.2.2.2.2.1
theorem dL_1531 : decode code 1531 = .ok (.pop, 1) := dLc_70.2.2.2.2.2.2.2.2.2.1
theorem dL_1532 : decode code 1532 = .ok (.goto 49, 3) := dLc_70.2.2.2.2.2.2.2.2.2.2.1
theorem dL_1535 : decode code 1535 = .ok (.aload_n 1, 1) := dLc_70.2.2.2.2.2.2.2.2.2.2.2.1
theorem dL_1536 : decode code 1536 = .ok (.aload_n 0, 1) := dLc_70.2.2.2.2.2.2.2.2.2.2.2.2.1
theorem dL_1537 : decode code 1537 = .ok (.iload_n 3, 1) := dLc_70.2.2.2.2.2.2.2.2.2.2.2.2.2.1
theorem dL_1538 : decode code 1538 = .ok (.iconst 1, 1) := dLc_70.2.2.2.2.2.2.2.2.2.2.2.2.2.2.1
theorem dL_1539 : decode code 1539 = .ok (.iadd, 1) := dLc_70.2.2.2.2.2.2.2.2.2.2.2.2.2.2.2
set_option maxRecDepth 20000 in
theorem dLc_71 : decode code 1540 = .ok (.iaload, 1) ∧ decode code 1541 = .ok (.invokevirtual 168, 3) ∧ decode code 1544 = .ok (.pop, 1) ∧ decode code 1545 = .ok (.aload_n 2, 1) ∧ decode code 1546 = .ok (.aload_n 0, 1) ∧ decode code 1547 = .ok (.iload_n 3, 1) ∧ decode code 1548 = .ok (.iconst 1, 1) ∧ decode code 1549 = .ok (.iadd, 1) ∧ decode code 1550 = .ok (.iaload, 1) ∧ decode code 1551 = .ok (.invokevirtual 171, 3) ∧ decode code 1554 = .ok (.pop, 1) ∧ decode code 1555 = .ok (.goto 26, 3) ∧ decode code 1558 = .ok (.aload_n 1, 1) ∧ decode code 1559 = .ok (.aload_n 0, 1) ∧ decode code 1560 = .ok (.iload_n 3, 1) ∧ decode code 1561 = .ok (.iconst 1, 1) := by decide +kernel
theorem dL_1540 : decode code 1540 = .ok (.iaload, 1) := dLc_71.1
theorem dL_1541 : decode code 1541 = .ok (.invokevirtual 168, 3) := dLc_71.2.1
theorem dL_1544 : decode code 1544 = .ok (.pop, 1) := dLc_71.2.2.1
theorem dL_1545 : decode code 1545 = .ok (.aload_n 2, 1) := dLc_71.2.2.2.1
theorem dL_1546 : decode code 1546 = .ok (.aload_n 0, 1) := dLc_71.2.2.2.2.1
theorem dL_1547 : decode code 1547 = .ok (.iload_n 3, 1) := dLc_71.2.2.2.2.2.1
theorem dL_1548 : decode code 1548 = .ok (.iconst 1, 1) := dLc_71.2.2.2.2.2.2.1
theorem dL_1549 : decode code 1549 = .ok (.iadd, 1) := dLc_71.2.2.2.2.2.2.2.1
theorem dL_1550 : decode code 1550 = .ok (.iaload, 1) := dLc_71.2.2.2.2.2.2.2.2.1
theorem dL_1551 : decode code 1551 = .ok (.invokevirtual 171, 3) := dLc_71.2.2.2.2.2.2.2.2.2.1
theorem dL_1554 : decode code 1554 = .ok (.pop, 1) := dLc_71.2.2.2.2.2.2.2.2.2.2.1
theorem dL_1555 : decode code 1555 = .ok (.goto 26, 3) := dLc_71.2.2.2.2.2.2.2.2.2.2.2.1
theorem dL_1558 : decode code 1558 = .ok (.aload_n 1, 1) := dLc_71.2.2.2.2.2.2.2.2.2.2.2.2.1
theorem dL_1559 : decode code 1559 = .ok (.aload_n 0, 1) := dLc_71.2.2.2.2.2.2.2.2.2.2.2.2.2.1
theorem dL_1560 : decode code 1560 = .ok (.iload_n 3, 1) := dLc_71.2.2.2.2.2.2.2.2.2.2.2.2.2.2.1
theorem dL_1561 : decode code 1561 = .ok (.iconst 1, 1) := dLc_71.2.2.2.2.2.2.2.2.2.2.2.2.2.2.2
set_option maxRecDepth 20000 in
theorem dLc_72 : decode code 1562 = .ok (.iadd, 1) ∧ decode code 1563 = .ok (.iaload, 1) ∧ decode code 1564 = .ok (.invokevirtual 172, 3) ∧ decode code 1567 = .ok (.pop, 1) ∧ decode code 1568 = .ok (.aload_n 2, 1) ∧ decode code 1569 = .ok (.aload_n 0, 1) ∧ decode code 1570 = .ok (.iload_n 3, 1) ∧ decode code 1571 = .ok (.iconst 1, 1) ∧ decode code 1572 = .ok (.iadd, 1) ∧ decode code 1573 = .ok (.iaload, 1) ∧ decode code 1574 = .ok (.invokevirtual 175, 3) ∧ decode code 1577 = .ok (.pop, 1) ∧ decode code 1578 = .ok (.goto 3, 3) ∧ decode code 1581 = .ok (.iinc 3 6, 3) ∧ decode code 1584 = .ok (.goto (-1566), 3) ∧ decode code 1587 = .ok (.iconst 1, 1) := by decide +kernel
theorem dL_1562 : decode code 1562 = .ok (.iadd, 1) := dLc_72.1
theorem dL_1563 : decode code 1563 = .ok (.iaload, 1) := dLc_72.2.1
theorem dL_1564 : decode code 1564 = .ok (.invokevirtual 172, 3) := dLc_72.2.2.1
theorem dL_1567 : decode code 1567 = .ok (.pop, 1) := dLc_72.2.2.2.1
theorem dL_1568 : decode code 1568 = .ok (.aload_n 2, 1) := dLc_72.2.2.2.2.1
theorem dL_1569 : decode code 1569 = .ok (.aload_n 0, 1) := dLc_72.2.2.2.2.2.1
theorem dL_1570 : decode code 1570 = .ok (.iload_n 3, 1) := dLc_72.2.2.2.2.2.2.1
theorem dL_1571 : decode code 1571 = .ok (.iconst 1, 1) := dLc_72.2.2.2.2.2.2.2.1
theorem dL_1572 : decode code 1572 = .ok (.iadd, 1) := dLc_72.2.2.2.2.2.2.2.2.1
theorem dL_1573 : decode code 1573 = .ok (.iaload, 1) := dLc_72.2.2.2.2.2.2.2.2.2.1
theorem dL_1574 : decode code 1574 = .ok (.invokevirtual 175, 3) := dLc_72.2.2.2.2.2.2.2.2.2.2.1
theorem dL_1577 : decode code 1577 = .ok (.pop, 1) := dLc_72.2.2.2.2.2.2.2.2.2.2.2.1
theorem dL_1578 : decode code 1578 = .ok (.goto 3, 3) := dLc_72.2.2.2.2.2.2.2.2.2.2.2.2.1
theorem dL_1581 : decode code 1581 = .ok (.iinc 3 6, 3) := dLc_72.2.2.2.2.2.2.2.2.2.2.2.2.2.1
theorem dL_1584 : decode code 1584 = .ok (.goto (-1566), 3) := dLc_72.2.2.2.2.2.2.2.2.2.2.2.2.2.2.1
theorem dL_1587 : decode code 1587 = .ok (.iconst 1, 1) := dLc_72.2.2.2.2.2.2.2.2.2.2.2.2.2.2.2
set_option maxRecDepth 20000 in
theorem dLc_73 : decode code 1588 = .ok (.ireturn, 1) := by decide +kernel
theorem dL_1588 : decode code 1588 = .ok (.ireturn, 1) := dLc_73
