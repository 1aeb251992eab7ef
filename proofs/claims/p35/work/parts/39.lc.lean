/-! the law's cases -/
abbrev lsL (i : Int) : Lo := [some (.inr (.inr 110)), some (.inr (.inr 30)), some (.inr (.inr 0)), some (.inl i)]
theorem zL_sldE {Γ : Lc} {pc pc' : Nat} {ls : Lo} {st : List Sv} {h : Hp} {i : Int} (hi : 0 ≤ i ∧ i < Γ.2.2.1) (hm : Γ.2.2.1 < 2147483648) (hd : decode code pc = .ok (.iaload, 1)) (hn : pc + 1 = pc') (kk : ∀ v : Int, rng v → v = (Γ.2.2.2.1 i.toNat).toInt → zL Γ pc' ls (.inl v :: st) h) : zL Γ pc ls (.inl i :: .inr (.inr 110) :: st) h := by
  subst hn
  intro p e s m below meth c H locs lsA C hX hb hG h0 hP hS hL
  have hA : ¬ zA Γ.1 Γ.2.1 := fun ⟨k, h1, h2⟩ => by have := hG k h1; omega
  have hst : List.map (dn (zad Γ.1)) (.inl i :: .inr (.inr 110) :: st) = .int (Int32.ofInt i) :: .ref Γ.2.1 :: st.map (dn (zad Γ.1)) := by rw [← h0]; rfl
  rw [hst]
  exact va_sld C.1 C.2.1 hX hb hA hS (vin32 hi hm) hd (zL_any32 C hX hb hG h0 hP hS hL (kk _ (rg32 _) (by rw [tn32 ⟨hi.1, by omega⟩])))
set_option maxHeartbeats 4000000 in
theorem lc_0 {Γ : Lc} {i : Int} {h : Hp} (hX : XI Γ.1) (hcs : Γ.2.2.2.2.2.1 ≤ room_1.cells ∧ Γ.2.2.2.2.2.2 ≤ room_1.slots) (hm : Γ.2.2.1 < 2147483648) (hi : 0 ≤ i ∧ i + 6 ≤ Γ.2.2.1) (hS : SI h) (hR : KR h) (hC : KC h) (nx : ∀ h' : Hp, SI h' → KR h' → KC h' → zL Γ 1580 (lsL i) [] h') : zL Γ 200 (lsL i) [] h := by
  refine zL_aload_n (pc' := 201) dL_200 rfl rfl ?_
  refine zL_aload_n (pc' := 202) dL_201 rfl rfl ?_
  refine zL_iload_n (pc' := 203) dL_202 rfl rfl ?_
  refine zL_iconst (pc' := 204) dL_203 rfl ?_
  refine zL_iadd (pc' := 205) dL_204 rfl ?_
  refine zL_sld (pc' := 206) (by omega) hm dL_205 rfl (fun v205 e205 => ?_)
  refine zL_aload_n (pc' := 207) dL_206 rfl rfl ?_
  refine zL_iload_n (pc' := 208) dL_207 rfl rfl ?_
  refine zL_iconst (pc' := 209) dL_208 rfl ?_
  refine zL_iadd (pc' := 210) dL_209 rfl ?_
  refine zL_sld (pc' := 211) (by omega) hm dL_210 rfl (fun v210 e210 => ?_)
  refine zL_aload_n (pc' := 212) dL_211 rfl rfl ?_
  refine zL_iload_n (pc' := 213) dL_212 rfl rfl ?_
  refine zL_iconst (pc' := 214) dL_213 rfl ?_
  refine zL_iadd (pc' := 215) dL_214 rfl ?_
  refine zL_sld (pc' := 216) (by omega) hm dL_215 rfl (fun v215 e215 => ?_)
  refine zL_aload_n (pc' := 217) dL_216 rfl rfl ?_
  refine zL_iload_n (pc' := 218) dL_217 rfl rfl ?_
  refine zL_iconst (pc' := 219) dL_218 rfl ?_
  refine zL_iadd (pc' := 220) dL_219 rfl ?_
  refine zL_sld (pc' := 221) (by omega) hm dL_220 rfl (fun v220 e220 => ?_)
  refine zL_aload_n (pc' := 222) dL_221 rfl rfl ?_
  refine zL_iload_n (pc' := 223) dL_222 rfl rfl ?_
  refine zL_iconst (pc' := 224) dL_223 rfl ?_
  refine zL_iadd (pc' := 225) dL_224 rfl ?_
  refine zL_sld (pc' := 226) (by omega) hm dL_225 rfl (fun v225 e225 => ?_)
  refine zL_inv (pc' := 229) hcs kX11_feed vX11_feed lk_L_13 ⟨Nat.le_of_ble_eq_true rfl, Nat.le_of_ble_eq_true rfl⟩ tb30 vq11 rfl [_, _, _, _, _] (s_X11_feed hS hR hC _ _ _ _ _) dL_226 rfl (Nat.le_of_ble_eq_true rfl) rfl ?_
  rintro r226 h226 ⟨f226, p226⟩; obtain ⟨-, hS, hR, hC⟩ := f226
  show zL _ _ _ (.inl r226 :: []) _
  refine zL_pop (pc' := 230) dL_229 rfl rfl ?_
  refine zL_aload_n (pc' := 231) dL_230 rfl rfl ?_
  refine zL_aload_n (pc' := 232) dL_231 rfl rfl ?_
  refine zL_iload_n (pc' := 233) dL_232 rfl rfl ?_
  refine zL_iconst (pc' := 234) dL_233 rfl ?_
  refine zL_iadd (pc' := 235) dL_234 rfl ?_
  refine zL_sld (pc' := 236) (by omega) hm dL_235 rfl (fun v235 e235 => ?_)
  refine zL_aload_n (pc' := 237) dL_236 rfl rfl ?_
  refine zL_iload_n (pc' := 238) dL_237 rfl rfl ?_
  refine zL_iconst (pc' := 239) dL_238 rfl ?_
  refine zL_iadd (pc' := 240) dL_239 rfl ?_
  refine zL_sld (pc' := 241) (by omega) hm dL_240 rfl (fun v240 e240 => ?_)
  refine zL_aload_n (pc' := 242) dL_241 rfl rfl ?_
  refine zL_iload_n (pc' := 243) dL_242 rfl rfl ?_
  refine zL_iconst (pc' := 244) dL_243 rfl ?_
  refine zL_iadd (pc' := 245) dL_244 rfl ?_
  refine zL_sld (pc' := 246) (by omega) hm dL_245 rfl (fun v245 e245 => ?_)
  refine zL_aload_n (pc' := 247) dL_246 rfl rfl ?_
  refine zL_iload_n (pc' := 248) dL_247 rfl rfl ?_
  refine zL_iconst (pc' := 249) dL_248 rfl ?_
  refine zL_iadd (pc' := 250) dL_249 rfl ?_
  refine zL_sld (pc' := 251) (by omega) hm dL_250 rfl (fun v250 e250 => ?_)
  refine zL_aload_n (pc' := 252) dL_251 rfl rfl ?_
  refine zL_iload_n (pc' := 253) dL_252 rfl rfl ?_
  refine zL_iconst (pc' := 254) dL_253 rfl ?_
  refine zL_iadd (pc' := 255) dL_254 rfl ?_
  refine zL_sld (pc' := 256) (by omega) hm dL_255 rfl (fun v255 e255 => ?_)
  refine zL_inv (pc' := 259) hcs kX12_feed vX12_feed lk_L_17 ⟨Nat.le_of_ble_eq_true rfl, Nat.le_of_ble_eq_true rfl⟩ tb0 vq12 rfl [_, _, _, _, _] (s_X12_feed hS hR hC _ _ _ _ _) dL_256 rfl (Nat.le_of_ble_eq_true rfl) rfl ?_
  rintro r256 h256 ⟨f256, p256⟩; obtain ⟨-, hS, hR, hC⟩ := f256
  show zL _ _ _ (.inl r256 :: []) _
  refine zL_pop (pc' := 260) dL_259 rfl rfl ?_
  refine zL_goto (tgt := 1580) dL_260 rfl ?_
  exact nx _ hS hR hC
set_option maxHeartbeats 4000000 in
theorem lc_1 {Γ : Lc} {i : Int} {h : Hp} (hX : XI Γ.1) (hcs : Γ.2.2.2.2.2.1 ≤ room_1.cells ∧ Γ.2.2.2.2.2.2 ≤ room_1.slots) (hm : Γ.2.2.1 < 2147483648) (hi : 0 ≤ i ∧ i + 6 ≤ Γ.2.2.1) (hS : SI h) (hR : KR h) (hC : KC h) (nx : ∀ h' : Hp, SI h' → KR h' → KC h' → zL Γ 1580 (lsL i) [] h') : zL Γ 263 (lsL i) [] h := by
  refine zL_aload_n (pc' := 264) dL_263 rfl rfl ?_
  refine zL_aload_n (pc' := 265) dL_264 rfl rfl ?_
  refine zL_iload_n (pc' := 266) dL_265 rfl rfl ?_
  refine zL_iconst (pc' := 267) dL_266 rfl ?_
  refine zL_iadd (pc' := 268) dL_267 rfl ?_
  refine zL_sld (pc' := 269) (by omega) hm dL_268 rfl (fun v268 e268 => ?_)
  refine zL_inv (pc' := 272) hcs kX11_stages vX11_stages lk_L_18 ⟨Nat.le_of_ble_eq_true rfl, Nat.le_of_ble_eq_true rfl⟩ tb30 vq11 rfl [_] (s_X11_stages hS hR hC _ ⟨e268.1, e268.2⟩ hX) dL_269 rfl (Nat.le_of_ble_eq_true rfl) rfl ?_
  rintro r269 h269 ⟨f269, p269⟩; obtain ⟨-, hS, hR, hC⟩ := f269
  show zL _ _ _ (.inl r269 :: []) _
  refine zL_pop (pc' := 273) dL_272 rfl rfl ?_
  refine zL_aload_n (pc' := 274) dL_273 rfl rfl ?_
  refine zL_aload_n (pc' := 275) dL_274 rfl rfl ?_
  refine zL_iload_n (pc' := 276) dL_275 rfl rfl ?_
  refine zL_iconst (pc' := 277) dL_276 rfl ?_
  refine zL_iadd (pc' := 278) dL_277 rfl ?_
  refine zL_sld (pc' := 279) (by omega) hm dL_278 rfl (fun v278 e278 => ?_)
  refine zL_inv (pc' := 282) hcs kX12_stages vX12_stages lk_L_22 ⟨Nat.le_of_ble_eq_true rfl, Nat.le_of_ble_eq_true rfl⟩ tb0 vq12 rfl [_] (s_X12_stages hS hR hC _ ⟨e278.1, e278.2⟩) dL_279 rfl (Nat.le_of_ble_eq_true rfl) rfl ?_
  rintro r279 h279 ⟨f279, p279⟩; obtain ⟨-, hS, hR, hC⟩ := f279
  show zL _ _ _ (.inl r279 :: []) _
  refine zL_pop (pc' := 283) dL_282 rfl rfl ?_
  refine zL_goto (tgt := 1580) dL_283 rfl ?_
  exact nx _ hS hR hC
set_option maxHeartbeats 4000000 in
theorem lc_2 {Γ : Lc} {i : Int} {h : Hp} (hX : XI Γ.1) (hcs : Γ.2.2.2.2.2.1 ≤ room_1.cells ∧ Γ.2.2.2.2.2.2 ≤ room_1.slots) (hm : Γ.2.2.1 < 2147483648) (hi : 0 ≤ i ∧ i + 6 ≤ Γ.2.2.1) (hS : SI h) (hR : KR h) (hC : KC h) (nx : ∀ h' : Hp, SI h' → KR h' → KC h' → zL Γ 1580 (lsL i) [] h') : zL Γ 286 (lsL i) [] h := by
  refine zL_aload_n (pc' := 287) dL_286 rfl rfl ?_
  refine zL_aload_n (pc' := 288) dL_287 rfl rfl ?_
  refine zL_iload_n (pc' := 289) dL_288 rfl rfl ?_
  refine zL_iconst (pc' := 290) dL_289 rfl ?_
  refine zL_iadd (pc' := 291) dL_290 rfl ?_
  refine zL_sld (pc' := 292) (by omega) hm dL_291 rfl (fun v291 e291 => ?_)
  refine zL_aload_n (pc' := 293) dL_292 rfl rfl ?_
  refine zL_iload_n (pc' := 294) dL_293 rfl rfl ?_
  refine zL_iconst (pc' := 295) dL_294 rfl ?_
  refine zL_iadd (pc' := 296) dL_295 rfl ?_
  refine zL_sld (pc' := 297) (by omega) hm dL_296 rfl (fun v296 e296 => ?_)
  refine zL_aload_n (pc' := 298) dL_297 rfl rfl ?_
  refine zL_iload_n (pc' := 299) dL_298 rfl rfl ?_
  refine zL_iconst (pc' := 300) dL_299 rfl ?_
  refine zL_iadd (pc' := 301) dL_300 rfl ?_
  refine zL_sld (pc' := 302) (by omega) hm dL_301 rfl (fun v301 e301 => ?_)
  refine zL_inv (pc' := 305) hcs kX11_raw vX11_raw lk_L_23 ⟨Nat.le_of_ble_eq_true rfl, Nat.le_of_ble_eq_true rfl⟩ tb30 vq11 rfl [_, _, _] (s_X11_raw hS hR hC _ ⟨e291.1, e291.2⟩ _ ⟨e296.1, e296.2⟩ _ ⟨e301.1, e301.2⟩) dL_302 rfl (Nat.le_of_ble_eq_true rfl) rfl ?_
  rintro r302 h302 ⟨f302, p302⟩; obtain ⟨-, hS, hR, hC⟩ := f302
  show zL _ _ _ (.inl r302 :: []) _
  refine zL_pop (pc' := 306) dL_305 rfl rfl ?_
  refine zL_aload_n (pc' := 307) dL_306 rfl rfl ?_
  refine zL_aload_n (pc' := 308) dL_307 rfl rfl ?_
  refine zL_iload_n (pc' := 309) dL_308 rfl rfl ?_
  refine zL_iconst (pc' := 310) dL_309 rfl ?_
  refine zL_iadd (pc' := 311) dL_310 rfl ?_
  refine zL_sld (pc' := 312) (by omega) hm dL_311 rfl (fun v311 e311 => ?_)
  refine zL_aload_n (pc' := 313) dL_312 rfl rfl ?_
  refine zL_iload_n (pc' := 314) dL_313 rfl rfl ?_
  refine zL_iconst (pc' := 315) dL_314 rfl ?_
  refine zL_iadd (pc' := 316) dL_315 rfl ?_
  refine zL_sld (pc' := 317) (by omega) hm dL_316 rfl (fun v316 e316 => ?_)
  refine zL_aload_n (pc' := 318) dL_317 rfl rfl ?_
  refine zL_iload_n (pc' := 319) dL_318 rfl rfl ?_
  refine zL_iconst (pc' := 320) dL_319 rfl ?_
  refine zL_iadd (pc' := 321) dL_320 rfl ?_
  refine zL_sld (pc' := 322) (by omega) hm dL_321 rfl (fun v321 e321 => ?_)
  refine zL_inv (pc' := 325) hcs kX12_raw vX12_raw lk_L_27 ⟨Nat.le_of_ble_eq_true rfl, Nat.le_of_ble_eq_true rfl⟩ tb0 vq12 rfl [_, _, _] (s_X12_raw hS hR hC _ ⟨e311.1, e311.2⟩ _ ⟨e316.1, e316.2⟩ _ ⟨e321.1, e321.2⟩) dL_322 rfl (Nat.le_of_ble_eq_true rfl) rfl ?_
  rintro r322 h322 ⟨f322, p322⟩; obtain ⟨-, hS, hR, hC⟩ := f322
  show zL _ _ _ (.inl r322 :: []) _
  refine zL_pop (pc' := 326) dL_325 rfl rfl ?_
  refine zL_goto (tgt := 1580) dL_326 rfl ?_
  exact nx _ hS hR hC
set_option maxHeartbeats 4000000 in
theorem lc_3 {Γ : Lc} {i : Int} {h : Hp} (hX : XI Γ.1) (hcs : Γ.2.2.2.2.2.1 ≤ room_1.cells ∧ Γ.2.2.2.2.2.2 ≤ room_1.slots) (hm : Γ.2.2.1 < 2147483648) (hi : 0 ≤ i ∧ i + 6 ≤ Γ.2.2.1) (hS : SI h) (hR : KR h) (hC : KC h) (nx : ∀ h' : Hp, SI h' → KR h' → KC h' → zL Γ 1580 (lsL i) [] h') : zL Γ 329 (lsL i) [] h := by
  refine zL_aload_n (pc' := 330) dL_329 rfl rfl ?_
  refine zL_aload_n (pc' := 331) dL_330 rfl rfl ?_
  refine zL_iload_n (pc' := 332) dL_331 rfl rfl ?_
  refine zL_iconst (pc' := 333) dL_332 rfl ?_
  refine zL_iadd (pc' := 334) dL_333 rfl ?_
  refine zL_sld (pc' := 335) (by omega) hm dL_334 rfl (fun v334 e334 => ?_)
  refine zL_inv (pc' := 338) hcs kX11_row vX11_row lk_L_28 ⟨Nat.le_of_ble_eq_true rfl, Nat.le_of_ble_eq_true rfl⟩ tb30 vq11 rfl [_] (s_X11_row hS hR hC _ ⟨e334.1, e334.2⟩) dL_335 rfl (Nat.le_of_ble_eq_true rfl) rfl ?_
  rintro r335 h335 ⟨f335, p335⟩; obtain ⟨-, hS, hR, hC⟩ := f335
  show zL _ _ _ (.inl r335 :: []) _
  refine zL_pop (pc' := 339) dL_338 rfl rfl ?_
  refine zL_aload_n (pc' := 340) dL_339 rfl rfl ?_
  refine zL_aload_n (pc' := 341) dL_340 rfl rfl ?_
  refine zL_iload_n (pc' := 342) dL_341 rfl rfl ?_
  refine zL_iconst (pc' := 343) dL_342 rfl ?_
  refine zL_iadd (pc' := 344) dL_343 rfl ?_
  refine zL_sld (pc' := 345) (by omega) hm dL_344 rfl (fun v344 e344 => ?_)
  refine zL_inv (pc' := 348) hcs kX12_row vX12_row lk_L_32 ⟨Nat.le_of_ble_eq_true rfl, Nat.le_of_ble_eq_true rfl⟩ tb0 vq12 rfl [_] (s_X12_row hS hR hC _ ⟨e344.1, e344.2⟩) dL_345 rfl (Nat.le_of_ble_eq_true rfl) rfl ?_
  rintro r345 h345 ⟨f345, p345⟩; obtain ⟨-, hS, hR, hC⟩ := f345
  show zL _ _ _ (.inl r345 :: []) _
  refine zL_pop (pc' := 349) dL_348 rfl rfl ?_
  refine zL_goto (tgt := 1580) dL_349 rfl ?_
  exact nx _ hS hR hC
set_option maxHeartbeats 4000000 in
theorem lc_4 {Γ : Lc} {i : Int} {h : Hp} (hX : XI Γ.1) (hcs : Γ.2.2.2.2.2.1 ≤ room_1.cells ∧ Γ.2.2.2.2.2.2 ≤ room_1.slots) (hm : Γ.2.2.1 < 2147483648) (hi : 0 ≤ i ∧ i + 6 ≤ Γ.2.2.1) (hS : SI h) (hR : KR h) (hC : KC h) (nx : ∀ h' : Hp, SI h' → KR h' → KC h' → zL Γ 1580 (lsL i) [] h') : zL Γ 352 (lsL i) [] h := by
  refine zL_aload_n (pc' := 353) dL_352 rfl rfl ?_
  refine zL_aload_n (pc' := 354) dL_353 rfl rfl ?_
  refine zL_iload_n (pc' := 355) dL_354 rfl rfl ?_
  refine zL_iconst (pc' := 356) dL_355 rfl ?_
  refine zL_iadd (pc' := 357) dL_356 rfl ?_
  refine zL_sld (pc' := 358) (by omega) hm dL_357 rfl (fun v357 e357 => ?_)
  refine zL_aload_n (pc' := 359) dL_358 rfl rfl ?_
  refine zL_iload_n (pc' := 360) dL_359 rfl rfl ?_
  refine zL_iconst (pc' := 361) dL_360 rfl ?_
  refine zL_iadd (pc' := 362) dL_361 rfl ?_
  refine zL_sld (pc' := 363) (by omega) hm dL_362 rfl (fun v362 e362 => ?_)
  refine zL_aload_n (pc' := 364) dL_363 rfl rfl ?_
  refine zL_iload_n (pc' := 365) dL_364 rfl rfl ?_
  refine zL_iconst (pc' := 366) dL_365 rfl ?_
  refine zL_iadd (pc' := 367) dL_366 rfl ?_
  refine zL_sld (pc' := 368) (by omega) hm dL_367 rfl (fun v367 e367 => ?_)
  refine zL_inv (pc' := 371) hcs kX11_pixel vX11_pixel lk_L_33 ⟨Nat.le_of_ble_eq_true rfl, Nat.le_of_ble_eq_true rfl⟩ tb30 vq11 rfl [_, _, _] (s_X11_pixel hS hR hC _ ⟨e357.1, e357.2⟩ _ ⟨e362.1, e362.2⟩ _ ⟨e367.1, e367.2⟩) dL_368 rfl (Nat.le_of_ble_eq_true rfl) rfl ?_
  rintro r368 h368 ⟨f368, p368⟩; obtain ⟨-, hS, hR, hC⟩ := f368
  show zL _ _ _ (.inl r368 :: []) _
  refine zL_pop (pc' := 372) dL_371 rfl rfl ?_
  refine zL_aload_n (pc' := 373) dL_372 rfl rfl ?_
  refine zL_aload_n (pc' := 374) dL_373 rfl rfl ?_
  refine zL_iload_n (pc' := 375) dL_374 rfl rfl ?_
  refine zL_iconst (pc' := 376) dL_375 rfl ?_
  refine zL_iadd (pc' := 377) dL_376 rfl ?_
  refine zL_sld (pc' := 378) (by omega) hm dL_377 rfl (fun v377 e377 => ?_)
  refine zL_aload_n (pc' := 379) dL_378 rfl rfl ?_
  refine zL_iload_n (pc' := 380) dL_379 rfl rfl ?_
  refine zL_iconst (pc' := 381) dL_380 rfl ?_
  refine zL_iadd (pc' := 382) dL_381 rfl ?_
  refine zL_sld (pc' := 383) (by omega) hm dL_382 rfl (fun v382 e382 => ?_)
  refine zL_aload_n (pc' := 384) dL_383 rfl rfl ?_
  refine zL_iload_n (pc' := 385) dL_384 rfl rfl ?_
  refine zL_iconst (pc' := 386) dL_385 rfl ?_
  refine zL_iadd (pc' := 387) dL_386 rfl ?_
  refine zL_sld (pc' := 388) (by omega) hm dL_387 rfl (fun v387 e387 => ?_)
  refine zL_inv (pc' := 391) hcs kX12_pixel vX12_pixel lk_L_36 ⟨Nat.le_of_ble_eq_true rfl, Nat.le_of_ble_eq_true rfl⟩ tb0 vq12 rfl [_, _, _] (s_X12_pixel hS hR hC _ ⟨e377.1, e377.2⟩ _ ⟨e382.1, e382.2⟩ _ ⟨e387.1, e387.2⟩) dL_388 rfl (Nat.le_of_ble_eq_true rfl) rfl ?_
  rintro r388 h388 ⟨f388, p388⟩; obtain ⟨-, hS, hR, hC⟩ := f388
  show zL _ _ _ (.inl r388 :: []) _
  refine zL_pop (pc' := 392) dL_391 rfl rfl ?_
  refine zL_goto (tgt := 1580) dL_392 rfl ?_
  exact nx _ hS hR hC
set_option maxHeartbeats 4000000 in
theorem lc_5 {Γ : Lc} {i : Int} {h : Hp} (hX : XI Γ.1) (hcs : Γ.2.2.2.2.2.1 ≤ room_1.cells ∧ Γ.2.2.2.2.2.2 ≤ room_1.slots) (hm : Γ.2.2.1 < 2147483648) (hi : 0 ≤ i ∧ i + 6 ≤ Γ.2.2.1) (hS : SI h) (hR : KR h) (hC : KC h) (nx : ∀ h' : Hp, SI h' → KR h' → KC h' → zL Γ 1580 (lsL i) [] h') : zL Γ 395 (lsL i) [] h := by
  refine zL_aload_n (pc' := 396) dL_395 rfl rfl ?_
  refine zL_aload_n (pc' := 397) dL_396 rfl rfl ?_
  refine zL_iload_n (pc' := 398) dL_397 rfl rfl ?_
  refine zL_iconst (pc' := 399) dL_398 rfl ?_
  refine zL_iadd (pc' := 400) dL_399 rfl ?_
  refine zL_sld (pc' := 401) (by omega) hm dL_400 rfl (fun v400 e400 => ?_)
  refine zL_aload_n (pc' := 402) dL_401 rfl rfl ?_
  refine zL_iload_n (pc' := 403) dL_402 rfl rfl ?_
  refine zL_iconst (pc' := 404) dL_403 rfl ?_
  refine zL_iadd (pc' := 405) dL_404 rfl ?_
  refine zL_sld (pc' := 406) (by omega) hm dL_405 rfl (fun v405 e405 => ?_)
  refine zL_aload_n (pc' := 407) dL_406 rfl rfl ?_
  refine zL_iload_n (pc' := 408) dL_407 rfl rfl ?_
  refine zL_iconst (pc' := 409) dL_408 rfl ?_
  refine zL_iadd (pc' := 410) dL_409 rfl ?_
  refine zL_sld (pc' := 411) (by omega) hm dL_410 rfl (fun v410 e410 => ?_)
  refine zL_ifQ_eq (tgt := 418) (pc' := 414) dL_411 rfl rfl ?_ ?_
  · refine zL_iconst (pc' := 419) dL_418 rfl ?_
    refine zL_inv (pc' := 422) hcs kX11_dead vX11_dead lk_L_37 ⟨Nat.le_of_ble_eq_true rfl, Nat.le_of_ble_eq_true rfl⟩ tb30 vq11 rfl [_, _, _] (s_X11_dead hS hR hC _ ⟨e400.1, e400.2⟩ _ ⟨e405.1, e405.2⟩ _ ⟨by omega, by omega⟩) dL_419 rfl (Nat.le_of_ble_eq_true rfl) rfl ?_
    rintro r419 h419 ⟨f419, p419⟩; obtain ⟨-, hS, hR, hC⟩ := f419
    show zL _ _ _ (.inl r419 :: []) _
    refine zL_pop (pc' := 423) dL_422 rfl rfl ?_
    refine zL_aload_n (pc' := 424) dL_423 rfl rfl ?_
    refine zL_aload_n (pc' := 425) dL_424 rfl rfl ?_
    refine zL_iload_n (pc' := 426) dL_425 rfl rfl ?_
    refine zL_iconst (pc' := 427) dL_426 rfl ?_
    refine zL_iadd (pc' := 428) dL_427 rfl ?_
    refine zL_sld (pc' := 429) (by omega) hm dL_428 rfl (fun v428 e428 => ?_)
    refine zL_aload_n (pc' := 430) dL_429 rfl rfl ?_
    refine zL_iload_n (pc' := 431) dL_430 rfl rfl ?_
    refine zL_iconst (pc' := 432) dL_431 rfl ?_
    refine zL_iadd (pc' := 433) dL_432 rfl ?_
    refine zL_sld (pc' := 434) (by omega) hm dL_433 rfl (fun v433 e433 => ?_)
    refine zL_aload_n (pc' := 435) dL_434 rfl rfl ?_
    refine zL_iload_n (pc' := 436) dL_435 rfl rfl ?_
    refine zL_iconst (pc' := 437) dL_436 rfl ?_
    refine zL_iadd (pc' := 438) dL_437 rfl ?_
    refine zL_sld (pc' := 439) (by omega) hm dL_438 rfl (fun v438 e438 => ?_)
    refine zL_ifQ_eq (tgt := 446) (pc' := 442) dL_439 rfl rfl ?_ ?_
    · refine zL_iconst (pc' := 447) dL_446 rfl ?_
      refine zL_inv (pc' := 450) hcs kX12_dead vX12_dead lk_L_41 ⟨Nat.le_of_ble_eq_true rfl, Nat.le_of_ble_eq_true rfl⟩ tb0 vq12 rfl [_, _, _] (s_X12_dead hS hR hC _ ⟨e428.1, e428.2⟩ _ ⟨e433.1, e433.2⟩ _ ⟨by omega, by omega⟩) dL_447 rfl (Nat.le_of_ble_eq_true rfl) rfl ?_
      rintro r447 h447 ⟨f447, p447⟩; obtain ⟨-, hS, hR, hC⟩ := f447
      show zL _ _ _ (.inl r447 :: []) _
      refine zL_pop (pc' := 451) dL_450 rfl rfl ?_
      refine zL_goto (tgt := 1580) dL_451 rfl ?_
      exact nx _ hS hR hC
    · refine zL_iconst (pc' := 443) dL_442 rfl ?_
      refine zL_goto (tgt := 447) dL_443 rfl ?_
      refine zL_inv (pc' := 450) hcs kX12_dead vX12_dead lk_L_41 ⟨Nat.le_of_ble_eq_true rfl, Nat.le_of_ble_eq_true rfl⟩ tb0 vq12 rfl [_, _, _] (s_X12_dead hS hR hC _ ⟨e428.1, e428.2⟩ _ ⟨e433.1, e433.2⟩ _ ⟨by omega, by omega⟩) dL_447 rfl (Nat.le_of_ble_eq_true rfl) rfl ?_
      rintro r447 h447 ⟨f447, p447⟩; obtain ⟨-, hS, hR, hC⟩ := f447
      show zL _ _ _ (.inl r447 :: []) _
      refine zL_pop (pc' := 451) dL_450 rfl rfl ?_
      refine zL_goto (tgt := 1580) dL_451 rfl ?_
      exact nx _ hS hR hC
  · refine zL_iconst (pc' := 415) dL_414 rfl ?_
    refine zL_goto (tgt := 419) dL_415 rfl ?_
    refine zL_inv (pc' := 422) hcs kX11_dead vX11_dead lk_L_37 ⟨Nat.le_of_ble_eq_true rfl, Nat.le_of_ble_eq_true rfl⟩ tb30 vq11 rfl [_, _, _] (s_X11_dead hS hR hC _ ⟨e400.1, e400.2⟩ _ ⟨e405.1, e405.2⟩ _ ⟨by omega, by omega⟩) dL_419 rfl (Nat.le_of_ble_eq_true rfl) rfl ?_
    rintro r419 h419 ⟨f419, p419⟩; obtain ⟨-, hS, hR, hC⟩ := f419
    show zL _ _ _ (.inl r419 :: []) _
    refine zL_pop (pc' := 423) dL_422 rfl rfl ?_
    refine zL_aload_n (pc' := 424) dL_423 rfl rfl ?_
    refine zL_aload_n (pc' := 425) dL_424 rfl rfl ?_
    refine zL_iload_n (pc' := 426) dL_425 rfl rfl ?_
    refine zL_iconst (pc' := 427) dL_426 rfl ?_
    refine zL_iadd (pc' := 428) dL_427 rfl ?_
    refine zL_sld (pc' := 429) (by omega) hm dL_428 rfl (fun v428 e428 => ?_)
    refine zL_aload_n (pc' := 430) dL_429 rfl rfl ?_
    refine zL_iload_n (pc' := 431) dL_430 rfl rfl ?_
    refine zL_iconst (pc' := 432) dL_431 rfl ?_
    refine zL_iadd (pc' := 433) dL_432 rfl ?_
    refine zL_sld (pc' := 434) (by omega) hm dL_433 rfl (fun v433 e433 => ?_)
    refine zL_aload_n (pc' := 435) dL_434 rfl rfl ?_
    refine zL_iload_n (pc' := 436) dL_435 rfl rfl ?_
    refine zL_iconst (pc' := 437) dL_436 rfl ?_
    refine zL_iadd (pc' := 438) dL_437 rfl ?_
    refine zL_sld (pc' := 439) (by omega) hm dL_438 rfl (fun v438 e438 => ?_)
    refine zL_ifQ_eq (tgt := 446) (pc' := 442) dL_439 rfl rfl ?_ ?_
    · refine zL_iconst (pc' := 447) dL_446 rfl ?_
      refine zL_inv (pc' := 450) hcs kX12_dead vX12_dead lk_L_41 ⟨Nat.le_of_ble_eq_true rfl, Nat.le_of_ble_eq_true rfl⟩ tb0 vq12 rfl [_, _, _] (s_X12_dead hS hR hC _ ⟨e428.1, e428.2⟩ _ ⟨e433.1, e433.2⟩ _ ⟨by omega, by omega⟩) dL_447 rfl (Nat.le_of_ble_eq_true rfl) rfl ?_
      rintro r447 h447 ⟨f447, p447⟩; obtain ⟨-, hS, hR, hC⟩ := f447
      show zL _ _ _ (.inl r447 :: []) _
      refine zL_pop (pc' := 451) dL_450 rfl rfl ?_
      refine zL_goto (tgt := 1580) dL_451 rfl ?_
      exact nx _ hS hR hC
    · refine zL_iconst (pc' := 443) dL_442 rfl ?_
      refine zL_goto (tgt := 447) dL_443 rfl ?_
      refine zL_inv (pc' := 450) hcs kX12_dead vX12_dead lk_L_41 ⟨Nat.le_of_ble_eq_true rfl, Nat.le_of_ble_eq_true rfl⟩ tb0 vq12 rfl [_, _, _] (s_X12_dead hS hR hC _ ⟨e428.1, e428.2⟩ _ ⟨e433.1, e433.2⟩ _ ⟨by omega, by omega⟩) dL_447 rfl (Nat.le_of_ble_eq_true rfl) rfl ?_
      rintro r447 h447 ⟨f447, p447⟩; obtain ⟨-, hS, hR, hC⟩ := f447
      show zL _ _ _ (.inl r447 :: []) _
      refine zL_pop (pc' := 451) dL_450 rfl rfl ?_
      refine zL_goto (tgt := 1580) dL_451 rfl ?_
      exact nx _ hS hR hC
set_option maxHeartbeats 4000000 in
theorem lc_6 {Γ : Lc} {i : Int} {h : Hp} (hX : XI Γ.1) (hcs : Γ.2.2.2.2.2.1 ≤ room_1.cells ∧ Γ.2.2.2.2.2.2 ≤ room_1.slots) (hm : Γ.2.2.1 < 2147483648) (hi : 0 ≤ i ∧ i + 6 ≤ Γ.2.2.1) (hS : SI h) (hR : KR h) (hC : KC h) (nx : ∀ h' : Hp, SI h' → KR h' → KC h' → zL Γ 1580 (lsL i) [] h') : zL Γ 454 (lsL i) [] h := by
  refine zL_aload_n (pc' := 455) dL_454 rfl rfl ?_
  refine zL_aload_n (pc' := 456) dL_455 rfl rfl ?_
  refine zL_iload_n (pc' := 457) dL_456 rfl rfl ?_
  refine zL_iconst (pc' := 458) dL_457 rfl ?_
  refine zL_iadd (pc' := 459) dL_458 rfl ?_
  refine zL_sld (pc' := 460) (by omega) hm dL_459 rfl (fun v459 e459 => ?_)
  refine zL_aload_n (pc' := 461) dL_460 rfl rfl ?_
  refine zL_iload_n (pc' := 462) dL_461 rfl rfl ?_
  refine zL_iconst (pc' := 463) dL_462 rfl ?_
  refine zL_iadd (pc' := 464) dL_463 rfl ?_
  refine zL_sld (pc' := 465) (by omega) hm dL_464 rfl (fun v464 e464 => ?_)
  refine zL_aload_n (pc' := 466) dL_465 rfl rfl ?_
  refine zL_iload_n (pc' := 467) dL_466 rfl rfl ?_
  refine zL_iconst (pc' := 468) dL_467 rfl ?_
  refine zL_iadd (pc' := 469) dL_468 rfl ?_
  refine zL_sld (pc' := 470) (by omega) hm dL_469 rfl (fun v469 e469 => ?_)
  refine zL_inv (pc' := 473) hcs kX11_scene vX11_scene lk_L_42 ⟨Nat.le_of_ble_eq_true rfl, Nat.le_of_ble_eq_true rfl⟩ tb30 vq11 rfl [_, _, _] (s_X11_scene hS hR hC _ ⟨e459.1, e459.2⟩ _ ⟨e464.1, e464.2⟩ _ ⟨e469.1, e469.2⟩) dL_470 rfl (Nat.le_of_ble_eq_true rfl) rfl ?_
  rintro r470 h470 ⟨f470, p470⟩; obtain ⟨-, hS, hR, hC⟩ := f470
  show zL _ _ _ (.inl r470 :: []) _
  refine zL_pop (pc' := 474) dL_473 rfl rfl ?_
  refine zL_aload_n (pc' := 475) dL_474 rfl rfl ?_
  refine zL_aload_n (pc' := 476) dL_475 rfl rfl ?_
  refine zL_iload_n (pc' := 477) dL_476 rfl rfl ?_
  refine zL_iconst (pc' := 478) dL_477 rfl ?_
  refine zL_iadd (pc' := 479) dL_478 rfl ?_
  refine zL_sld (pc' := 480) (by omega) hm dL_479 rfl (fun v479 e479 => ?_)
  refine zL_aload_n (pc' := 481) dL_480 rfl rfl ?_
  refine zL_iload_n (pc' := 482) dL_481 rfl rfl ?_
  refine zL_iconst (pc' := 483) dL_482 rfl ?_
  refine zL_iadd (pc' := 484) dL_483 rfl ?_
  refine zL_sld (pc' := 485) (by omega) hm dL_484 rfl (fun v484 e484 => ?_)
  refine zL_aload_n (pc' := 486) dL_485 rfl rfl ?_
  refine zL_iload_n (pc' := 487) dL_486 rfl rfl ?_
  refine zL_iconst (pc' := 488) dL_487 rfl ?_
  refine zL_iadd (pc' := 489) dL_488 rfl ?_
  refine zL_sld (pc' := 490) (by omega) hm dL_489 rfl (fun v489 e489 => ?_)
  refine zL_inv (pc' := 493) hcs kX12_scene vX12_scene lk_L_45 ⟨Nat.le_of_ble_eq_true rfl, Nat.le_of_ble_eq_true rfl⟩ tb0 vq12 rfl [_, _, _] (s_X12_scene hS hR hC _ ⟨e479.1, e479.2⟩ _ ⟨e484.1, e484.2⟩ _ ⟨e489.1, e489.2⟩) dL_490 rfl (Nat.le_of_ble_eq_true rfl) rfl ?_
  rintro r490 h490 ⟨f490, p490⟩; obtain ⟨-, hS, hR, hC⟩ := f490
  show zL _ _ _ (.inl r490 :: []) _
  refine zL_pop (pc' := 494) dL_493 rfl rfl ?_
  refine zL_goto (tgt := 1580) dL_494 rfl ?_
  exact nx _ hS hR hC
set_option maxHeartbeats 4000000 in
theorem lc_7 {Γ : Lc} {i : Int} {h : Hp} (hX : XI Γ.1) (hcs : Γ.2.2.2.2.2.1 ≤ room_1.cells ∧ Γ.2.2.2.2.2.2 ≤ room_1.slots) (hm : Γ.2.2.1 < 2147483648) (hi : 0 ≤ i ∧ i + 6 ≤ Γ.2.2.1) (hS : SI h) (hR : KR h) (hC : KC h) (nx : ∀ h' : Hp, SI h' → KR h' → KC h' → zL Γ 1580 (lsL i) [] h') : zL Γ 497 (lsL i) [] h := by
  refine zL_aload_n (pc' := 498) dL_497 rfl rfl ?_
  refine zL_aload_n (pc' := 499) dL_498 rfl rfl ?_
  refine zL_iload_n (pc' := 500) dL_499 rfl rfl ?_
  refine zL_iconst (pc' := 501) dL_500 rfl ?_
  refine zL_iadd (pc' := 502) dL_501 rfl ?_
  refine zL_sld (pc' := 503) (by omega) hm dL_502 rfl (fun v502 e502 => ?_)
  refine zL_inv (pc' := 506) hcs kX11_truth vX11_truth lk_L_46 ⟨Nat.le_of_ble_eq_true rfl, Nat.le_of_ble_eq_true rfl⟩ tb30 vq11 rfl [_] (s_X11_truth hS hR hC _ ⟨e502.1, e502.2⟩) dL_503 rfl (Nat.le_of_ble_eq_true rfl) rfl ?_
  rintro r503 h503 ⟨f503, p503⟩; obtain ⟨-, hS, hR, hC⟩ := f503
  show zL _ _ _ (.inl r503 :: []) _
  refine zL_pop (pc' := 507) dL_506 rfl rfl ?_
  refine zL_aload_n (pc' := 508) dL_507 rfl rfl ?_
  refine zL_aload_n (pc' := 509) dL_508 rfl rfl ?_
  refine zL_iload_n (pc' := 510) dL_509 rfl rfl ?_
  refine zL_iconst (pc' := 511) dL_510 rfl ?_
  refine zL_iadd (pc' := 512) dL_511 rfl ?_
  refine zL_sld (pc' := 513) (by omega) hm dL_512 rfl (fun v512 e512 => ?_)
  refine zL_inv (pc' := 516) hcs kX12_truth vX12_truth lk_L_49 ⟨Nat.le_of_ble_eq_true rfl, Nat.le_of_ble_eq_true rfl⟩ tb0 vq12 rfl [_] (s_X12_truth hS hR hC _ ⟨e512.1, e512.2⟩) dL_513 rfl (Nat.le_of_ble_eq_true rfl) rfl ?_
  rintro r513 h513 ⟨f513, p513⟩; obtain ⟨-, hS, hR, hC⟩ := f513
  show zL _ _ _ (.inl r513 :: []) _
  refine zL_pop (pc' := 517) dL_516 rfl rfl ?_
  refine zL_goto (tgt := 1580) dL_517 rfl ?_
  exact nx _ hS hR hC
set_option maxHeartbeats 4000000 in
theorem lc_8 {Γ : Lc} {i : Int} {h : Hp} (hX : XI Γ.1) (hcs : Γ.2.2.2.2.2.1 ≤ room_1.cells ∧ Γ.2.2.2.2.2.2 ≤ room_1.slots) (hm : Γ.2.2.1 < 2147483648) (hi : 0 ≤ i ∧ i + 6 ≤ Γ.2.2.1) (hS : SI h) (hR : KR h) (hC : KC h) (nx : ∀ h' : Hp, SI h' → KR h' → KC h' → zL Γ 1580 (lsL i) [] h') : zL Γ 520 (lsL i) [] h := by
  refine zL_aload_n (pc' := 521) dL_520 rfl rfl ?_
  refine zL_aload_n (pc' := 522) dL_521 rfl rfl ?_
  refine zL_iload_n (pc' := 523) dL_522 rfl rfl ?_
  refine zL_iconst (pc' := 524) dL_523 rfl ?_
  refine zL_iadd (pc' := 525) dL_524 rfl ?_
  refine zL_sld (pc' := 526) (by omega) hm dL_525 rfl (fun v525 e525 => ?_)
  refine zL_inv (pc' := 529) hcs kX11_rawIs vX11_rawIs lk_L_50 ⟨Nat.le_of_ble_eq_true rfl, Nat.le_of_ble_eq_true rfl⟩ tb30 vq11 rfl [_] (s_X11_rawIs (b := true) (κ := _) hC (Fr.rf hS) _ ⟨e525.1, e525.2⟩) dL_526 rfl (Nat.le_of_ble_eq_true rfl) rfl ?_
  rintro r526 z526 ⟨hz526, p526⟩; subst z526
  show zL _ _ _ (.inl r526 :: []) _
  refine zL_pop (pc' := 530) dL_529 rfl rfl ?_
  refine zL_aload_n (pc' := 531) dL_530 rfl rfl ?_
  refine zL_aload_n (pc' := 532) dL_531 rfl rfl ?_
  refine zL_iload_n (pc' := 533) dL_532 rfl rfl ?_
  refine zL_iconst (pc' := 534) dL_533 rfl ?_
  refine zL_iadd (pc' := 535) dL_534 rfl ?_
  refine zL_sld (pc' := 536) (by omega) hm dL_535 rfl (fun v535 e535 => ?_)
  refine zL_inv (pc' := 539) hcs kX12_rawIs vX12_rawIs lk_L_53 ⟨Nat.le_of_ble_eq_true rfl, Nat.le_of_ble_eq_true rfl⟩ tb0 vq12 rfl [_] (s_X12_rawIs (b := true) (κ := _) hR (Fr.rf hS) _ ⟨e535.1, e535.2⟩) dL_536 rfl (Nat.le_of_ble_eq_true rfl) rfl ?_
  rintro r536 z536 ⟨hz536, p536⟩; subst z536
  show zL _ _ _ (.inl r536 :: []) _
  refine zL_pop (pc' := 540) dL_539 rfl rfl ?_
  refine zL_goto (tgt := 1580) dL_540 rfl ?_
  exact nx _ hS hR hC
set_option maxHeartbeats 4000000 in
theorem lc_9 {Γ : Lc} {i : Int} {h : Hp} (hX : XI Γ.1) (hcs : Γ.2.2.2.2.2.1 ≤ room_1.cells ∧ Γ.2.2.2.2.2.2 ≤ room_1.slots) (hm : Γ.2.2.1 < 2147483648) (hi : 0 ≤ i ∧ i + 6 ≤ Γ.2.2.1) (hS : SI h) (hR : KR h) (hC : KC h) (nx : ∀ h' : Hp, SI h' → KR h' → KC h' → zL Γ 1580 (lsL i) [] h') : zL Γ 543 (lsL i) [] h := by
  refine zL_aload_n (pc' := 544) dL_543 rfl rfl ?_
  refine zL_aload_n (pc' := 545) dL_544 rfl rfl ?_
  refine zL_iload_n (pc' := 546) dL_545 rfl rfl ?_
  refine zL_iconst (pc' := 547) dL_546 rfl ?_
  refine zL_iadd (pc' := 548) dL_547 rfl ?_
  refine zL_sld (pc' := 549) (by omega) hm dL_548 rfl (fun v548 e548 => ?_)
  refine zL_aload_n (pc' := 550) dL_549 rfl rfl ?_
  refine zL_iload_n (pc' := 551) dL_550 rfl rfl ?_
  refine zL_iconst (pc' := 552) dL_551 rfl ?_
  refine zL_iadd (pc' := 553) dL_552 rfl ?_
  refine zL_sld (pc' := 554) (by omega) hm dL_553 rfl (fun v553 e553 => ?_)
  refine zL_inv (pc' := 557) hcs kX11_colour vX11_colour lk_L_54 ⟨Nat.le_of_ble_eq_true rfl, Nat.le_of_ble_eq_true rfl⟩ tb30 vq11 rfl [_, _] (s_X11_colour (b := true) (κ := _) hC (Fr.rf hS) _ ⟨e548.1, e548.2⟩ _ ⟨e553.1, e553.2⟩) dL_554 rfl (Nat.le_of_ble_eq_true rfl) rfl ?_
  rintro r554 z554 ⟨hz554, p554⟩; subst z554
  show zL _ _ _ (.inl r554 :: []) _
  refine zL_pop (pc' := 558) dL_557 rfl rfl ?_
  refine zL_aload_n (pc' := 559) dL_558 rfl rfl ?_
  refine zL_aload_n (pc' := 560) dL_559 rfl rfl ?_
  refine zL_iload_n (pc' := 561) dL_560 rfl rfl ?_
  refine zL_iconst (pc' := 562) dL_561 rfl ?_
  refine zL_iadd (pc' := 563) dL_562 rfl ?_
  refine zL_sld (pc' := 564) (by omega) hm dL_563 rfl (fun v563 e563 => ?_)
  refine zL_aload_n (pc' := 565) dL_564 rfl rfl ?_
  refine zL_iload_n (pc' := 566) dL_565 rfl rfl ?_
  refine zL_iconst (pc' := 567) dL_566 rfl ?_
  refine zL_iadd (pc' := 568) dL_567 rfl ?_
  refine zL_sld (pc' := 569) (by omega) hm dL_568 rfl (fun v568 e568 => ?_)
  refine zL_inv (pc' := 572) hcs kX12_colour vX12_colour lk_L_58 ⟨Nat.le_of_ble_eq_true rfl, Nat.le_of_ble_eq_true rfl⟩ tb0 vq12 rfl [_, _] (s_X12_colour (b := true) (κ := _) hR (Fr.rf hS) _ ⟨e563.1, e563.2⟩ _ ⟨e568.1, e568.2⟩) dL_569 rfl (Nat.le_of_ble_eq_true rfl) rfl ?_
  rintro r569 z569 ⟨hz569, p569⟩; subst z569
  show zL _ _ _ (.inl r569 :: []) _
  refine zL_pop (pc' := 573) dL_572 rfl rfl ?_
  refine zL_goto (tgt := 1580) dL_573 rfl ?_
  exact nx _ hS hR hC
set_option maxHeartbeats 4000000 in
theorem lc_10 {Γ : Lc} {i : Int} {h : Hp} (hX : XI Γ.1) (hcs : Γ.2.2.2.2.2.1 ≤ room_1.cells ∧ Γ.2.2.2.2.2.2 ≤ room_1.slots) (hm : Γ.2.2.1 < 2147483648) (hi : 0 ≤ i ∧ i + 6 ≤ Γ.2.2.1) (hS : SI h) (hR : KR h) (hC : KC h) (nx : ∀ h' : Hp, SI h' → KR h' → KC h' → zL Γ 1580 (lsL i) [] h') : zL Γ 576 (lsL i) [] h := by
  refine zL_aload_n (pc' := 577) dL_576 rfl rfl ?_
  refine zL_aload_n (pc' := 578) dL_577 rfl rfl ?_
  refine zL_iload_n (pc' := 579) dL_578 rfl rfl ?_
  refine zL_iconst (pc' := 580) dL_579 rfl ?_
  refine zL_iadd (pc' := 581) dL_580 rfl ?_
  refine zL_sld (pc' := 582) (by omega) hm dL_581 rfl (fun v581 e581 => ?_)
  refine zL_aload_n (pc' := 583) dL_582 rfl rfl ?_
  refine zL_iload_n (pc' := 584) dL_583 rfl rfl ?_
  refine zL_iconst (pc' := 585) dL_584 rfl ?_
  refine zL_iadd (pc' := 586) dL_585 rfl ?_
  refine zL_sld (pc' := 587) (by omega) hm dL_586 rfl (fun v586 e586 => ?_)
  refine zL_inv (pc' := 590) hcs kX11_stage vX11_stage lk_L_59 ⟨Nat.le_of_ble_eq_true rfl, Nat.le_of_ble_eq_true rfl⟩ tb30 vq11 rfl [_, _] (s_X11_stage (b := true) (κ := _) hC (Fr.rf hS) _ ⟨e581.1, e581.2⟩ _ ⟨e586.1, e586.2⟩) dL_587 rfl (Nat.le_of_ble_eq_true rfl) rfl ?_
  rintro r587 z587 ⟨hz587, p587⟩; subst z587
  show zL _ _ _ (.inl r587 :: []) _
  refine zL_pop (pc' := 591) dL_590 rfl rfl ?_
  refine zL_aload_n (pc' := 592) dL_591 rfl rfl ?_
  refine zL_aload_n (pc' := 593) dL_592 rfl rfl ?_
  refine zL_iload_n (pc' := 594) dL_593 rfl rfl ?_
  refine zL_iconst (pc' := 595) dL_594 rfl ?_
  refine zL_iadd (pc' := 596) dL_595 rfl ?_
  refine zL_sld (pc' := 597) (by omega) hm dL_596 rfl (fun v596 e596 => ?_)
  refine zL_aload_n (pc' := 598) dL_597 rfl rfl ?_
  refine zL_iload_n (pc' := 599) dL_598 rfl rfl ?_
  refine zL_iconst (pc' := 600) dL_599 rfl ?_
  refine zL_iadd (pc' := 601) dL_600 rfl ?_
  refine zL_sld (pc' := 602) (by omega) hm dL_601 rfl (fun v601 e601 => ?_)
  refine zL_inv (pc' := 605) hcs kX12_stage vX12_stage lk_L_62 ⟨Nat.le_of_ble_eq_true rfl, Nat.le_of_ble_eq_true rfl⟩ tb0 vq12 rfl [_, _] (s_X12_stage (b := true) (κ := _) hR (Fr.rf hS) _ ⟨e596.1, e596.2⟩ _ ⟨e601.1, e601.2⟩) dL_602 rfl (Nat.le_of_ble_eq_true rfl) rfl ?_
  rintro r602 z602 ⟨hz602, p602⟩; subst z602
  show zL _ _ _ (.inl r602 :: []) _
  refine zL_pop (pc' := 606) dL_605 rfl rfl ?_
  refine zL_goto (tgt := 1580) dL_606 rfl ?_
  exact nx _ hS hR hC
set_option maxHeartbeats 4000000 in
theorem lc_11 {Γ : Lc} {i : Int} {h : Hp} (hX : XI Γ.1) (hcs : Γ.2.2.2.2.2.1 ≤ room_1.cells ∧ Γ.2.2.2.2.2.2 ≤ room_1.slots) (hm : Γ.2.2.1 < 2147483648) (hi : 0 ≤ i ∧ i + 6 ≤ Γ.2.2.1) (hS : SI h) (hR : KR h) (hC : KC h) (nx : ∀ h' : Hp, SI h' → KR h' → KC h' → zL Γ 1580 (lsL i) [] h') : zL Γ 609 (lsL i) [] h := by
  refine zL_aload_n (pc' := 610) dL_609 rfl rfl ?_
  refine zL_aload_n (pc' := 611) dL_610 rfl rfl ?_
  refine zL_iload_n (pc' := 612) dL_611 rfl rfl ?_
  refine zL_iconst (pc' := 613) dL_612 rfl ?_
  refine zL_iadd (pc' := 614) dL_613 rfl ?_
  refine zL_sld (pc' := 615) (by omega) hm dL_614 rfl (fun v614 e614 => ?_)
  refine zL_aload_n (pc' := 616) dL_615 rfl rfl ?_
  refine zL_iload_n (pc' := 617) dL_616 rfl rfl ?_
  refine zL_iconst (pc' := 618) dL_617 rfl ?_
  refine zL_iadd (pc' := 619) dL_618 rfl ?_
  refine zL_sld (pc' := 620) (by omega) hm dL_619 rfl (fun v619 e619 => ?_)
  refine zL_aload_n (pc' := 621) dL_620 rfl rfl ?_
  refine zL_iload_n (pc' := 622) dL_621 rfl rfl ?_
  refine zL_iconst (pc' := 623) dL_622 rfl ?_
  refine zL_iadd (pc' := 624) dL_623 rfl ?_
  refine zL_sld (pc' := 625) (by omega) hm dL_624 rfl (fun v624 e624 => ?_)
  refine zL_aload_n (pc' := 626) dL_625 rfl rfl ?_
  refine zL_iload_n (pc' := 627) dL_626 rfl rfl ?_
  refine zL_iconst (pc' := 628) dL_627 rfl ?_
  refine zL_iadd (pc' := 629) dL_628 rfl ?_
  refine zL_sld (pc' := 630) (by omega) hm dL_629 rfl (fun v629 e629 => ?_)
  refine zL_inv (pc' := 633) hcs kX11_left vX11_left lk_L_63 ⟨Nat.le_of_ble_eq_true rfl, Nat.le_of_ble_eq_true rfl⟩ tb30 vq11 rfl [_, _, _, _] (s_X11_left (b := true) (κ := _) hC (Fr.rf hS) _ ⟨e614.1, e614.2⟩ _ ⟨e619.1, e619.2⟩ _ ⟨e624.1, e624.2⟩ _ ⟨e629.1, e629.2⟩) dL_630 rfl (Nat.le_of_ble_eq_true rfl) rfl ?_
  rintro r630 h630 ⟨f630, p630⟩; replace f630 := (Fm.rf (L := []) hS hR hC).frq f630; obtain ⟨-, hS, hR, hC⟩ := f630
  show zL _ _ _ (.inl r630 :: []) _
  refine zL_pop (pc' := 634) dL_633 rfl rfl ?_
  refine zL_aload_n (pc' := 635) dL_634 rfl rfl ?_
  refine zL_aload_n (pc' := 636) dL_635 rfl rfl ?_
  refine zL_iload_n (pc' := 637) dL_636 rfl rfl ?_
  refine zL_iconst (pc' := 638) dL_637 rfl ?_
  refine zL_iadd (pc' := 639) dL_638 rfl ?_
  refine zL_sld (pc' := 640) (by omega) hm dL_639 rfl (fun v639 e639 => ?_)
  refine zL_aload_n (pc' := 641) dL_640 rfl rfl ?_
  refine zL_iload_n (pc' := 642) dL_641 rfl rfl ?_
  refine zL_iconst (pc' := 643) dL_642 rfl ?_
  refine zL_iadd (pc' := 644) dL_643 rfl ?_
  refine zL_sld (pc' := 645) (by omega) hm dL_644 rfl (fun v644 e644 => ?_)
  refine zL_aload_n (pc' := 646) dL_645 rfl rfl ?_
  refine zL_iload_n (pc' := 647) dL_646 rfl rfl ?_
  refine zL_iconst (pc' := 648) dL_647 rfl ?_
  refine zL_iadd (pc' := 649) dL_648 rfl ?_
  refine zL_sld (pc' := 650) (by omega) hm dL_649 rfl (fun v649 e649 => ?_)
  refine zL_aload_n (pc' := 651) dL_650 rfl rfl ?_
  refine zL_iload_n (pc' := 652) dL_651 rfl rfl ?_
  refine zL_iconst (pc' := 653) dL_652 rfl ?_
  refine zL_iadd (pc' := 654) dL_653 rfl ?_
  refine zL_sld (pc' := 655) (by omega) hm dL_654 rfl (fun v654 e654 => ?_)
  refine zL_inv (pc' := 658) hcs kX12_left vX12_left lk_L_67 ⟨Nat.le_of_ble_eq_true rfl, Nat.le_of_ble_eq_true rfl⟩ tb0 vq12 rfl [_, _, _, _] (s_X12_left (κ := _) hR (Fr.rf hS) _ ⟨e639.1, e639.2⟩ _ ⟨e644.1, e644.2⟩ _ ⟨e649.1, e649.2⟩ _ ⟨e654.1, e654.2⟩) dL_655 rfl (Nat.le_of_ble_eq_true rfl) rfl ?_
  rintro r655 h655 ⟨f655, p655⟩; replace f655 := (Fm.rf (L := []) hS hR hC).frq f655; obtain ⟨-, hS, hR, hC⟩ := f655
  show zL _ _ _ (.inl r655 :: []) _
  refine zL_pop (pc' := 659) dL_658 rfl rfl ?_
  refine zL_goto (tgt := 1580) dL_659 rfl ?_
  exact nx _ hS hR hC
set_option maxHeartbeats 4000000 in
theorem lc_12 {Γ : Lc} {i : Int} {h : Hp} (hX : XI Γ.1) (hcs : Γ.2.2.2.2.2.1 ≤ room_1.cells ∧ Γ.2.2.2.2.2.2 ≤ room_1.slots) (hm : Γ.2.2.1 < 2147483648) (hi : 0 ≤ i ∧ i + 6 ≤ Γ.2.2.1) (hS : SI h) (hR : KR h) (hC : KC h) (nx : ∀ h' : Hp, SI h' → KR h' → KC h' → zL Γ 1580 (lsL i) [] h') : zL Γ 662 (lsL i) [] h := by
  refine zL_aload_n (pc' := 663) dL_662 rfl rfl ?_
  refine zL_aload_n (pc' := 664) dL_663 rfl rfl ?_
  refine zL_iload_n (pc' := 665) dL_664 rfl rfl ?_
  refine zL_iconst (pc' := 666) dL_665 rfl ?_
  refine zL_iadd (pc' := 667) dL_666 rfl ?_
  refine zL_sld (pc' := 668) (by omega) hm dL_667 rfl (fun v667 e667 => ?_)
  refine zL_aload_n (pc' := 669) dL_668 rfl rfl ?_
  refine zL_iload_n (pc' := 670) dL_669 rfl rfl ?_
  refine zL_iconst (pc' := 671) dL_670 rfl ?_
  refine zL_iadd (pc' := 672) dL_671 rfl ?_
  refine zL_sld (pc' := 673) (by omega) hm dL_672 rfl (fun v672 e672 => ?_)
  refine zL_inv (pc' := 676) hcs kX11_found vX11_found lk_L_68 ⟨Nat.le_of_ble_eq_true rfl, Nat.le_of_ble_eq_true rfl⟩ tb30 vq11 rfl [_, _] (s_X11_found (b := true) (κ := _) hC (Fr.rf hS) _ ⟨e667.1, e667.2⟩ _ ⟨e672.1, e672.2⟩) dL_673 rfl (Nat.le_of_ble_eq_true rfl) rfl ?_
  rintro r673 h673 ⟨f673, p673⟩; replace f673 := (Fm.rf (L := []) hS hR hC).frq f673; obtain ⟨-, hS, hR, hC⟩ := f673
  show zL _ _ _ (.inl r673 :: []) _
  refine zL_pop (pc' := 677) dL_676 rfl rfl ?_
  refine zL_aload_n (pc' := 678) dL_677 rfl rfl ?_
  refine zL_aload_n (pc' := 679) dL_678 rfl rfl ?_
  refine zL_iload_n (pc' := 680) dL_679 rfl rfl ?_
  refine zL_iconst (pc' := 681) dL_680 rfl ?_
  refine zL_iadd (pc' := 682) dL_681 rfl ?_
  refine zL_sld (pc' := 683) (by omega) hm dL_682 rfl (fun v682 e682 => ?_)
  refine zL_aload_n (pc' := 684) dL_683 rfl rfl ?_
  refine zL_iload_n (pc' := 685) dL_684 rfl rfl ?_
  refine zL_iconst (pc' := 686) dL_685 rfl ?_
  refine zL_iadd (pc' := 687) dL_686 rfl ?_
  refine zL_sld (pc' := 688) (by omega) hm dL_687 rfl (fun v687 e687 => ?_)
  refine zL_inv (pc' := 691) hcs kX12_found vX12_found lk_L_71 ⟨Nat.le_of_ble_eq_true rfl, Nat.le_of_ble_eq_true rfl⟩ tb0 vq12 rfl [_, _] (s_X12_found (κ := _) hR (Fr.rf hS) _ ⟨e682.1, e682.2⟩ _ ⟨e687.1, e687.2⟩) dL_688 rfl (Nat.le_of_ble_eq_true rfl) rfl ?_
  rintro r688 h688 ⟨f688, p688⟩; replace f688 := (Fm.rf (L := []) hS hR hC).frq f688; obtain ⟨-, hS, hR, hC⟩ := f688
  show zL _ _ _ (.inl r688 :: []) _
  refine zL_pop (pc' := 692) dL_691 rfl rfl ?_
  refine zL_goto (tgt := 1580) dL_692 rfl ?_
  exact nx _ hS hR hC
set_option maxHeartbeats 4000000 in
theorem lc_13 {Γ : Lc} {i : Int} {h : Hp} (hX : XI Γ.1) (hcs : Γ.2.2.2.2.2.1 ≤ room_1.cells ∧ Γ.2.2.2.2.2.2 ≤ room_1.slots) (hm : Γ.2.2.1 < 2147483648) (hi : 0 ≤ i ∧ i + 6 ≤ Γ.2.2.1) (hS : SI h) (hR : KR h) (hC : KC h) (nx : ∀ h' : Hp, SI h' → KR h' → KC h' → zL Γ 1580 (lsL i) [] h') : zL Γ 695 (lsL i) [] h := by
  refine zL_aload_n (pc' := 696) dL_695 rfl rfl ?_
  refine zL_aload_n (pc' := 697) dL_696 rfl rfl ?_
  refine zL_iload_n (pc' := 698) dL_697 rfl rfl ?_
  refine zL_iconst (pc' := 699) dL_698 rfl ?_
  refine zL_iadd (pc' := 700) dL_699 rfl ?_
  refine zL_sld (pc' := 701) (by omega) hm dL_700 rfl (fun v700 e700 => ?_)
  refine zL_aload_n (pc' := 702) dL_701 rfl rfl ?_
  refine zL_iload_n (pc' := 703) dL_702 rfl rfl ?_
  refine zL_iconst (pc' := 704) dL_703 rfl ?_
  refine zL_iadd (pc' := 705) dL_704 rfl ?_
  refine zL_sld (pc' := 706) (by omega) hm dL_705 rfl (fun v705 e705 => ?_)
  refine zL_inv (pc' := 709) hcs kX11_groups vX11_groups lk_L_72 ⟨Nat.le_of_ble_eq_true rfl, Nat.le_of_ble_eq_true rfl⟩ tb30 vq11 rfl [_, _] (s_X11_groups (b := true) (κ := _) hC (Fr.rf hS) _ ⟨e700.1, e700.2⟩ _ ⟨e705.1, e705.2⟩) dL_706 rfl (Nat.le_of_ble_eq_true rfl) rfl ?_
  rintro r706 h706 ⟨f706, p706⟩; replace f706 := (Fm.rf (L := []) hS hR hC).frq f706; obtain ⟨-, hS, hR, hC⟩ := f706
  show zL _ _ _ (.inl r706 :: []) _
  refine zL_pop (pc' := 710) dL_709 rfl rfl ?_
  refine zL_aload_n (pc' := 711) dL_710 rfl rfl ?_
  refine zL_aload_n (pc' := 712) dL_711 rfl rfl ?_
  refine zL_iload_n (pc' := 713) dL_712 rfl rfl ?_
  refine zL_iconst (pc' := 714) dL_713 rfl ?_
  refine zL_iadd (pc' := 715) dL_714 rfl ?_
  refine zL_sld (pc' := 716) (by omega) hm dL_715 rfl (fun v715 e715 => ?_)
  refine zL_aload_n (pc' := 717) dL_716 rfl rfl ?_
  refine zL_iload_n (pc' := 718) dL_717 rfl rfl ?_
  refine zL_iconst (pc' := 719) dL_718 rfl ?_
  refine zL_iadd (pc' := 720) dL_719 rfl ?_
  refine zL_sld (pc' := 721) (by omega) hm dL_720 rfl (fun v720 e720 => ?_)
  refine zL_inv (pc' := 724) hcs kX12_groups vX12_groups lk_L_75 ⟨Nat.le_of_ble_eq_true rfl, Nat.le_of_ble_eq_true rfl⟩ tb0 vq12 rfl [_, _] (s_X12_groups (κ := _) hR (Fr.rf hS) _ ⟨e715.1, e715.2⟩ _ ⟨e720.1, e720.2⟩) dL_721 rfl (Nat.le_of_ble_eq_true rfl) rfl ?_
  rintro r721 h721 ⟨f721, p721⟩; replace f721 := (Fm.rf (L := []) hS hR hC).frq f721; obtain ⟨-, hS, hR, hC⟩ := f721
  show zL _ _ _ (.inl r721 :: []) _
  refine zL_pop (pc' := 725) dL_724 rfl rfl ?_
  refine zL_goto (tgt := 1580) dL_725 rfl ?_
  exact nx _ hS hR hC
set_option maxHeartbeats 4000000 in
theorem lc_14 {Γ : Lc} {i : Int} {h : Hp} (hX : XI Γ.1) (hcs : Γ.2.2.2.2.2.1 ≤ room_1.cells ∧ Γ.2.2.2.2.2.2 ≤ room_1.slots) (hm : Γ.2.2.1 < 2147483648) (hi : 0 ≤ i ∧ i + 6 ≤ Γ.2.2.1) (hS : SI h) (hR : KR h) (hC : KC h) (nx : ∀ h' : Hp, SI h' → KR h' → KC h' → zL Γ 1580 (lsL i) [] h') : zL Γ 728 (lsL i) [] h := by
  refine zL_aload_n (pc' := 729) dL_728 rfl rfl ?_
  refine zL_aload_n (pc' := 730) dL_729 rfl rfl ?_
  refine zL_iload_n (pc' := 731) dL_730 rfl rfl ?_
  refine zL_iconst (pc' := 732) dL_731 rfl ?_
  refine zL_iadd (pc' := 733) dL_732 rfl ?_
  refine zL_sld (pc' := 734) (by omega) hm dL_733 rfl (fun v733 e733 => ?_)
  refine zL_aload_n (pc' := 735) dL_734 rfl rfl ?_
  refine zL_iload_n (pc' := 736) dL_735 rfl rfl ?_
  refine zL_iconst (pc' := 737) dL_736 rfl ?_
  refine zL_iadd (pc' := 738) dL_737 rfl ?_
  refine zL_sld (pc' := 739) (by omega) hm dL_738 rfl (fun v738 e738 => ?_)
  refine zL_inv (pc' := 742) hcs kX11_dark vX11_dark lk_L_76 ⟨Nat.le_of_ble_eq_true rfl, Nat.le_of_ble_eq_true rfl⟩ tb30 vq11 rfl [_, _] (s_X11_dark (b := true) (κ := _) hC (Fr.rf hS) _ ⟨e733.1, e733.2⟩ _ ⟨e738.1, e738.2⟩) dL_739 rfl (Nat.le_of_ble_eq_true rfl) rfl ?_
  rintro r739 h739 ⟨f739, p739⟩; replace f739 := (Fm.rf (L := []) hS hR hC).frq f739; obtain ⟨-, hS, hR, hC⟩ := f739
  show zL _ _ _ (.inl r739 :: []) _
  refine zL_pop (pc' := 743) dL_742 rfl rfl ?_
  refine zL_aload_n (pc' := 744) dL_743 rfl rfl ?_
  refine zL_aload_n (pc' := 745) dL_744 rfl rfl ?_
  refine zL_iload_n (pc' := 746) dL_745 rfl rfl ?_
  refine zL_iconst (pc' := 747) dL_746 rfl ?_
  refine zL_iadd (pc' := 748) dL_747 rfl ?_
  refine zL_sld (pc' := 749) (by omega) hm dL_748 rfl (fun v748 e748 => ?_)
  refine zL_aload_n (pc' := 750) dL_749 rfl rfl ?_
  refine zL_iload_n (pc' := 751) dL_750 rfl rfl ?_
  refine zL_iconst (pc' := 752) dL_751 rfl ?_
  refine zL_iadd (pc' := 753) dL_752 rfl ?_
  refine zL_sld (pc' := 754) (by omega) hm dL_753 rfl (fun v753 e753 => ?_)
  refine zL_inv (pc' := 757) hcs kX12_dark vX12_dark lk_L_79 ⟨Nat.le_of_ble_eq_true rfl, Nat.le_of_ble_eq_true rfl⟩ tb0 vq12 rfl [_, _] (s_X12_dark (κ := _) hR (Fr.rf hS) _ ⟨e748.1, e748.2⟩ _ ⟨e753.1, e753.2⟩) dL_754 rfl (Nat.le_of_ble_eq_true rfl) rfl ?_
  rintro r754 h754 ⟨f754, p754⟩; replace f754 := (Fm.rf (L := []) hS hR hC).frq f754; obtain ⟨-, hS, hR, hC⟩ := f754
  show zL _ _ _ (.inl r754 :: []) _
  refine zL_pop (pc' := 758) dL_757 rfl rfl ?_
  refine zL_goto (tgt := 1580) dL_758 rfl ?_
  exact nx _ hS hR hC
set_option maxHeartbeats 4000000 in
theorem lc_15 {Γ : Lc} {i : Int} {h : Hp} (hX : XI Γ.1) (hcs : Γ.2.2.2.2.2.1 ≤ room_1.cells ∧ Γ.2.2.2.2.2.2 ≤ room_1.slots) (hm : Γ.2.2.1 < 2147483648) (hi : 0 ≤ i ∧ i + 6 ≤ Γ.2.2.1) (hS : SI h) (hR : KR h) (hC : KC h) (nx : ∀ h' : Hp, SI h' → KR h' → KC h' → zL Γ 1580 (lsL i) [] h') : zL Γ 761 (lsL i) [] h := by
  refine zL_aload_n (pc' := 762) dL_761 rfl rfl ?_
  refine zL_aload_n (pc' := 763) dL_762 rfl rfl ?_
  refine zL_iload_n (pc' := 764) dL_763 rfl rfl ?_
  refine zL_iconst (pc' := 765) dL_764 rfl ?_
  refine zL_iadd (pc' := 766) dL_765 rfl ?_
  refine zL_sld (pc' := 767) (by omega) hm dL_766 rfl (fun v766 e766 => ?_)
  refine zL_aload_n (pc' := 768) dL_767 rfl rfl ?_
  refine zL_iload_n (pc' := 769) dL_768 rfl rfl ?_
  refine zL_iconst (pc' := 770) dL_769 rfl ?_
  refine zL_iadd (pc' := 771) dL_770 rfl ?_
  refine zL_sld (pc' := 772) (by omega) hm dL_771 rfl (fun v771 e771 => ?_)
  refine zL_aload_n (pc' := 773) dL_772 rfl rfl ?_
  refine zL_iload_n (pc' := 774) dL_773 rfl rfl ?_
  refine zL_iconst (pc' := 775) dL_774 rfl ?_
  refine zL_iadd (pc' := 776) dL_775 rfl ?_
  refine zL_sld (pc' := 777) (by omega) hm dL_776 rfl (fun v776 e776 => ?_)
  refine zL_inv (pc' := 780) hcs kX11_middle vX11_middle lk_L_80 ⟨Nat.le_of_ble_eq_true rfl, Nat.le_of_ble_eq_true rfl⟩ tb30 vq11 rfl [_, _, _] (s_X11_middle (b := true) (κ := _) hC (Fr.rf hS) _ ⟨e766.1, e766.2⟩ _ ⟨e771.1, e771.2⟩ _ ⟨e776.1, e776.2⟩) dL_777 rfl (Nat.le_of_ble_eq_true rfl) rfl ?_
  rintro r777 h777 ⟨f777, p777⟩; replace f777 := (Fm.rf (L := []) hS hR hC).frq f777; obtain ⟨-, hS, hR, hC⟩ := f777
  show zL _ _ _ (.inl r777 :: []) _
  refine zL_pop (pc' := 781) dL_780 rfl rfl ?_
  refine zL_aload_n (pc' := 782) dL_781 rfl rfl ?_
  refine zL_aload_n (pc' := 783) dL_782 rfl rfl ?_
  refine zL_iload_n (pc' := 784) dL_783 rfl rfl ?_
  refine zL_iconst (pc' := 785) dL_784 rfl ?_
  refine zL_iadd (pc' := 786) dL_785 rfl ?_
  refine zL_sld (pc' := 787) (by omega) hm dL_786 rfl (fun v786 e786 => ?_)
  refine zL_aload_n (pc' := 788) dL_787 rfl rfl ?_
  refine zL_iload_n (pc' := 789) dL_788 rfl rfl ?_
  refine zL_iconst (pc' := 790) dL_789 rfl ?_
  refine zL_iadd (pc' := 791) dL_790 rfl ?_
  refine zL_sld (pc' := 792) (by omega) hm dL_791 rfl (fun v791 e791 => ?_)
  refine zL_aload_n (pc' := 793) dL_792 rfl rfl ?_
  refine zL_iload_n (pc' := 794) dL_793 rfl rfl ?_
  refine zL_iconst (pc' := 795) dL_794 rfl ?_
  refine zL_iadd (pc' := 796) dL_795 rfl ?_
  refine zL_sld (pc' := 797) (by omega) hm dL_796 rfl (fun v796 e796 => ?_)
  refine zL_inv (pc' := 800) hcs kX12_middle vX12_middle lk_L_84 ⟨Nat.le_of_ble_eq_true rfl, Nat.le_of_ble_eq_true rfl⟩ tb0 vq12 rfl [_, _, _] (s_X12_middle (κ := _) hR (Fr.rf hS) _ ⟨e786.1, e786.2⟩ _ ⟨e791.1, e791.2⟩ _ ⟨e796.1, e796.2⟩) dL_797 rfl (Nat.le_of_ble_eq_true rfl) rfl ?_
  rintro r797 h797 ⟨f797, p797⟩; replace f797 := (Fm.rf (L := []) hS hR hC).frq f797; obtain ⟨-, hS, hR, hC⟩ := f797
  show zL _ _ _ (.inl r797 :: []) _
  refine zL_pop (pc' := 801) dL_800 rfl rfl ?_
  refine zL_goto (tgt := 1580) dL_801 rfl ?_
  exact nx _ hS hR hC
set_option maxHeartbeats 4000000 in
theorem lc_16 {Γ : Lc} {i : Int} {h : Hp} (hX : XI Γ.1) (hcs : Γ.2.2.2.2.2.1 ≤ room_1.cells ∧ Γ.2.2.2.2.2.2 ≤ room_1.slots) (hm : Γ.2.2.1 < 2147483648) (hi : 0 ≤ i ∧ i + 6 ≤ Γ.2.2.1) (hS : SI h) (hR : KR h) (hC : KC h) (nx : ∀ h' : Hp, SI h' → KR h' → KC h' → zL Γ 1580 (lsL i) [] h') : zL Γ 804 (lsL i) [] h := by
  refine zL_aload_n (pc' := 805) dL_804 rfl rfl ?_
  refine zL_aload_n (pc' := 806) dL_805 rfl rfl ?_
  refine zL_iload_n (pc' := 807) dL_806 rfl rfl ?_
  refine zL_iconst (pc' := 808) dL_807 rfl ?_
  refine zL_iadd (pc' := 809) dL_808 rfl ?_
  refine zL_sld (pc' := 810) (by omega) hm dL_809 rfl (fun v809 e809 => ?_)
  refine zL_aload_n (pc' := 811) dL_810 rfl rfl ?_
  refine zL_iload_n (pc' := 812) dL_811 rfl rfl ?_
  refine zL_iconst (pc' := 813) dL_812 rfl ?_
  refine zL_iadd (pc' := 814) dL_813 rfl ?_
  refine zL_sld (pc' := 815) (by omega) hm dL_814 rfl (fun v814 e814 => ?_)
  refine zL_inv (pc' := 818) hcs kX11_way vX11_way lk_L_85 ⟨Nat.le_of_ble_eq_true rfl, Nat.le_of_ble_eq_true rfl⟩ tb30 vq11 rfl [_, _] (s_X11_way (b := true) (κ := _) hC (Fr.rf hS) _ ⟨e809.1, e809.2⟩ _ ⟨e814.1, e814.2⟩) dL_815 rfl (Nat.le_of_ble_eq_true rfl) rfl ?_
  rintro r815 h815 ⟨f815, p815⟩; replace f815 := (Fm.rf (L := []) hS hR hC).frq f815; obtain ⟨-, hS, hR, hC⟩ := f815
  show zL _ _ _ (.inl r815 :: []) _
  refine zL_pop (pc' := 819) dL_818 rfl rfl ?_
  refine zL_aload_n (pc' := 820) dL_819 rfl rfl ?_
  refine zL_aload_n (pc' := 821) dL_820 rfl rfl ?_
  refine zL_iload_n (pc' := 822) dL_821 rfl rfl ?_
  refine zL_iconst (pc' := 823) dL_822 rfl ?_
  refine zL_iadd (pc' := 824) dL_823 rfl ?_
  refine zL_sld (pc' := 825) (by omega) hm dL_824 rfl (fun v824 e824 => ?_)
  refine zL_aload_n (pc' := 826) dL_825 rfl rfl ?_
  refine zL_iload_n (pc' := 827) dL_826 rfl rfl ?_
  refine zL_iconst (pc' := 828) dL_827 rfl ?_
  refine zL_iadd (pc' := 829) dL_828 rfl ?_
  refine zL_sld (pc' := 830) (by omega) hm dL_829 rfl (fun v829 e829 => ?_)
  refine zL_inv (pc' := 833) hcs kX12_way vX12_way lk_L_88 ⟨Nat.le_of_ble_eq_true rfl, Nat.le_of_ble_eq_true rfl⟩ tb0 vq12 rfl [_, _] (s_X12_way (κ := _) hR (Fr.rf hS) _ ⟨e824.1, e824.2⟩ _ ⟨e829.1, e829.2⟩) dL_830 rfl (Nat.le_of_ble_eq_true rfl) rfl ?_
  rintro r830 h830 ⟨f830, p830⟩; replace f830 := (Fm.rf (L := []) hS hR hC).frq f830; obtain ⟨-, hS, hR, hC⟩ := f830
  show zL _ _ _ (.inl r830 :: []) _
  refine zL_pop (pc' := 834) dL_833 rfl rfl ?_
  refine zL_goto (tgt := 1580) dL_834 rfl ?_
  exact nx _ hS hR hC
set_option maxHeartbeats 4000000 in
theorem lc_17 {Γ : Lc} {i : Int} {h : Hp} (hX : XI Γ.1) (hcs : Γ.2.2.2.2.2.1 ≤ room_1.cells ∧ Γ.2.2.2.2.2.2 ≤ room_1.slots) (hm : Γ.2.2.1 < 2147483648) (hi : 0 ≤ i ∧ i + 6 ≤ Γ.2.2.1) (hS : SI h) (hR : KR h) (hC : KC h) (nx : ∀ h' : Hp, SI h' → KR h' → KC h' → zL Γ 1580 (lsL i) [] h') : zL Γ 837 (lsL i) [] h := by
  refine zL_aload_n (pc' := 838) dL_837 rfl rfl ?_
  refine zL_aload_n (pc' := 839) dL_838 rfl rfl ?_
  refine zL_iload_n (pc' := 840) dL_839 rfl rfl ?_
  refine zL_iconst (pc' := 841) dL_840 rfl ?_
  refine zL_iadd (pc' := 842) dL_841 rfl ?_
  refine zL_sld (pc' := 843) (by omega) hm dL_842 rfl (fun v842 e842 => ?_)
  refine zL_inv (pc' := 846) hcs kX11_ways vX11_ways lk_L_89 ⟨Nat.le_of_ble_eq_true rfl, Nat.le_of_ble_eq_true rfl⟩ tb30 vq11 rfl [_] (s_X11_ways (b := true) (κ := _) hC (Fr.rf hS) _ ⟨e842.1, e842.2⟩) dL_843 rfl (Nat.le_of_ble_eq_true rfl) rfl ?_
  rintro r843 h843 ⟨f843, p843⟩; replace f843 := (Fm.rf (L := []) hS hR hC).frq f843; obtain ⟨-, hS, hR, hC⟩ := f843
  show zL _ _ _ (.inl r843 :: []) _
  refine zL_pop (pc' := 847) dL_846 rfl rfl ?_
  refine zL_aload_n (pc' := 848) dL_847 rfl rfl ?_
  refine zL_aload_n (pc' := 849) dL_848 rfl rfl ?_
  refine zL_iload_n (pc' := 850) dL_849 rfl rfl ?_
  refine zL_iconst (pc' := 851) dL_850 rfl ?_
  refine zL_iadd (pc' := 852) dL_851 rfl ?_
  refine zL_sld (pc' := 853) (by omega) hm dL_852 rfl (fun v852 e852 => ?_)
  refine zL_inv (pc' := 856) hcs kX12_ways vX12_ways lk_L_92 ⟨Nat.le_of_ble_eq_true rfl, Nat.le_of_ble_eq_true rfl⟩ tb0 vq12 rfl [_] (s_X12_ways (κ := _) hR (Fr.rf hS) _ ⟨e852.1, e852.2⟩) dL_853 rfl (Nat.le_of_ble_eq_true rfl) rfl ?_
  rintro r853 h853 ⟨f853, p853⟩; replace f853 := (Fm.rf (L := []) hS hR hC).frq f853; obtain ⟨-, hS, hR, hC⟩ := f853
  show zL _ _ _ (.inl r853 :: []) _
  refine zL_pop (pc' := 857) dL_856 rfl rfl ?_
  refine zL_goto (tgt := 1580) dL_857 rfl ?_
  exact nx _ hS hR hC
set_option maxHeartbeats 4000000 in
theorem lc_18 {Γ : Lc} {i : Int} {h : Hp} (hX : XI Γ.1) (hcs : Γ.2.2.2.2.2.1 ≤ room_1.cells ∧ Γ.2.2.2.2.2.2 ≤ room_1.slots) (hm : Γ.2.2.1 < 2147483648) (hi : 0 ≤ i ∧ i + 6 ≤ Γ.2.2.1) (hS : SI h) (hR : KR h) (hC : KC h) (nx : ∀ h' : Hp, SI h' → KR h' → KC h' → zL Γ 1580 (lsL i) [] h') : zL Γ 860 (lsL i) [] h := by
  refine zL_aload_n (pc' := 861) dL_860 rfl rfl ?_
  refine zL_aload_n (pc' := 862) dL_861 rfl rfl ?_
  refine zL_iload_n (pc' := 863) dL_862 rfl rfl ?_
  refine zL_iconst (pc' := 864) dL_863 rfl ?_
  refine zL_iadd (pc' := 865) dL_864 rfl ?_
  refine zL_sld (pc' := 866) (by omega) hm dL_865 rfl (fun v865 e865 => ?_)
  refine zL_aload_n (pc' := 867) dL_866 rfl rfl ?_
  refine zL_iload_n (pc' := 868) dL_867 rfl rfl ?_
  refine zL_iconst (pc' := 869) dL_868 rfl ?_
  refine zL_iadd (pc' := 870) dL_869 rfl ?_
  refine zL_sld (pc' := 871) (by omega) hm dL_870 rfl (fun v870 e870 => ?_)
  refine zL_inv (pc' := 874) hcs kX11_white vX11_white lk_L_93 ⟨Nat.le_of_ble_eq_true rfl, Nat.le_of_ble_eq_true rfl⟩ tb30 vq11 rfl [_, _] (s_X11_white (b := true) (κ := _) hC (Fr.rf hS) _ ⟨e865.1, e865.2⟩ _ ⟨e870.1, e870.2⟩) dL_871 rfl (Nat.le_of_ble_eq_true rfl) rfl ?_
  rintro r871 h871 ⟨f871, p871⟩; replace f871 := (Fm.rf (L := []) hS hR hC).frq f871; obtain ⟨-, hS, hR, hC⟩ := f871
  show zL _ _ _ (.inl r871 :: []) _
  refine zL_pop (pc' := 875) dL_874 rfl rfl ?_
  refine zL_aload_n (pc' := 876) dL_875 rfl rfl ?_
  refine zL_aload_n (pc' := 877) dL_876 rfl rfl ?_
  refine zL_iload_n (pc' := 878) dL_877 rfl rfl ?_
  refine zL_iconst (pc' := 879) dL_878 rfl ?_
  refine zL_iadd (pc' := 880) dL_879 rfl ?_
  refine zL_sld (pc' := 881) (by omega) hm dL_880 rfl (fun v880 e880 => ?_)
  refine zL_aload_n (pc' := 882) dL_881 rfl rfl ?_
  refine zL_iload_n (pc' := 883) dL_882 rfl rfl ?_
  refine zL_iconst (pc' := 884) dL_883 rfl ?_
  refine zL_iadd (pc' := 885) dL_884 rfl ?_
  refine zL_sld (pc' := 886) (by omega) hm dL_885 rfl (fun v885 e885 => ?_)
  refine zL_inv (pc' := 889) hcs kX12_white vX12_white lk_L_96 ⟨Nat.le_of_ble_eq_true rfl, Nat.le_of_ble_eq_true rfl⟩ tb0 vq12 rfl [_, _] (s_X12_white (κ := _) hR (Fr.rf hS) _ ⟨e880.1, e880.2⟩ _ ⟨e885.1, e885.2⟩) dL_886 rfl (Nat.le_of_ble_eq_true rfl) rfl ?_
  rintro r886 h886 ⟨f886, p886⟩; replace f886 := (Fm.rf (L := []) hS hR hC).frq f886; obtain ⟨-, hS, hR, hC⟩ := f886
  show zL _ _ _ (.inl r886 :: []) _
  refine zL_pop (pc' := 890) dL_889 rfl rfl ?_
  refine zL_goto (tgt := 1580) dL_890 rfl ?_
  exact nx _ hS hR hC
set_option maxHeartbeats 4000000 in
theorem lc_19 {Γ : Lc} {i : Int} {h : Hp} (hX : XI Γ.1) (hcs : Γ.2.2.2.2.2.1 ≤ room_1.cells ∧ Γ.2.2.2.2.2.2 ≤ room_1.slots) (hm : Γ.2.2.1 < 2147483648) (hi : 0 ≤ i ∧ i + 6 ≤ Γ.2.2.1) (hS : SI h) (hR : KR h) (hC : KC h) (nx : ∀ h' : Hp, SI h' → KR h' → KC h' → zL Γ 1580 (lsL i) [] h') : zL Γ 893 (lsL i) [] h := by
  refine zL_aload_n (pc' := 894) dL_893 rfl rfl ?_
  refine zL_aload_n (pc' := 895) dL_894 rfl rfl ?_
  refine zL_iload_n (pc' := 896) dL_895 rfl rfl ?_
  refine zL_iconst (pc' := 897) dL_896 rfl ?_
  refine zL_iadd (pc' := 898) dL_897 rfl ?_
  refine zL_sld (pc' := 899) (by omega) hm dL_898 rfl (fun v898 e898 => ?_)
  refine zL_aload_n (pc' := 900) dL_899 rfl rfl ?_
  refine zL_iload_n (pc' := 901) dL_900 rfl rfl ?_
  refine zL_iconst (pc' := 902) dL_901 rfl ?_
  refine zL_iadd (pc' := 903) dL_902 rfl ?_
  refine zL_sld (pc' := 904) (by omega) hm dL_903 rfl (fun v903 e903 => ?_)
  refine zL_aload_n (pc' := 905) dL_904 rfl rfl ?_
  refine zL_iload_n (pc' := 906) dL_905 rfl rfl ?_
  refine zL_iconst (pc' := 907) dL_906 rfl ?_
  refine zL_iadd (pc' := 908) dL_907 rfl ?_
  refine zL_sld (pc' := 909) (by omega) hm dL_908 rfl (fun v908 e908 => ?_)
  refine zL_inv (pc' := 912) hcs kX11_base vX11_base lk_L_97 ⟨Nat.le_of_ble_eq_true rfl, Nat.le_of_ble_eq_true rfl⟩ tb30 vq11 rfl [_, _, _] (s_X11_base (b := true) (κ := _) hC (Fr.rf hS) _ ⟨e898.1, e898.2⟩ _ ⟨e903.1, e903.2⟩ _ ⟨e908.1, e908.2⟩) dL_909 rfl (Nat.le_of_ble_eq_true rfl) rfl ?_
  rintro r909 h909 ⟨f909, p909⟩; replace f909 := (Fm.rf (L := []) hS hR hC).frq f909; obtain ⟨-, hS, hR, hC⟩ := f909
  show zL _ _ _ (.inl r909 :: []) _
  refine zL_pop (pc' := 913) dL_912 rfl rfl ?_
  refine zL_aload_n (pc' := 914) dL_913 rfl rfl ?_
  refine zL_aload_n (pc' := 915) dL_914 rfl rfl ?_
  refine zL_iload_n (pc' := 916) dL_915 rfl rfl ?_
  refine zL_iconst (pc' := 917) dL_916 rfl ?_
  refine zL_iadd (pc' := 918) dL_917 rfl ?_
  refine zL_sld (pc' := 919) (by omega) hm dL_918 rfl (fun v918 e918 => ?_)
  refine zL_aload_n (pc' := 920) dL_919 rfl rfl ?_
  refine zL_iload_n (pc' := 921) dL_920 rfl rfl ?_
  refine zL_iconst (pc' := 922) dL_921 rfl ?_
  refine zL_iadd (pc' := 923) dL_922 rfl ?_
  refine zL_sld (pc' := 924) (by omega) hm dL_923 rfl (fun v923 e923 => ?_)
  refine zL_aload_n (pc' := 925) dL_924 rfl rfl ?_
  refine zL_iload_n (pc' := 926) dL_925 rfl rfl ?_
  refine zL_iconst (pc' := 927) dL_926 rfl ?_
  refine zL_iadd (pc' := 928) dL_927 rfl ?_
  refine zL_sld (pc' := 929) (by omega) hm dL_928 rfl (fun v928 e928 => ?_)
  refine zL_inv (pc' := 932) hcs kX12_base vX12_base lk_L_100 ⟨Nat.le_of_ble_eq_true rfl, Nat.le_of_ble_eq_true rfl⟩ tb0 vq12 rfl [_, _, _] (s_X12_base (κ := _) hR (Fr.rf hS) _ ⟨e918.1, e918.2⟩ _ ⟨e923.1, e923.2⟩ _ ⟨e928.1, e928.2⟩) dL_929 rfl (Nat.le_of_ble_eq_true rfl) rfl ?_
  rintro r929 h929 ⟨f929, p929⟩; replace f929 := (Fm.rf (L := []) hS hR hC).frq f929; obtain ⟨-, hS, hR, hC⟩ := f929
  show zL _ _ _ (.inl r929 :: []) _
  refine zL_pop (pc' := 933) dL_932 rfl rfl ?_
  refine zL_goto (tgt := 1580) dL_933 rfl ?_
  exact nx _ hS hR hC
set_option maxHeartbeats 4000000 in
theorem lc_20 {Γ : Lc} {i : Int} {h : Hp} (hX : XI Γ.1) (hcs : Γ.2.2.2.2.2.1 ≤ room_1.cells ∧ Γ.2.2.2.2.2.2 ≤ room_1.slots) (hm : Γ.2.2.1 < 2147483648) (hi : 0 ≤ i ∧ i + 6 ≤ Γ.2.2.1) (hS : SI h) (hR : KR h) (hC : KC h) (nx : ∀ h' : Hp, SI h' → KR h' → KC h' → zL Γ 1580 (lsL i) [] h') : zL Γ 936 (lsL i) [] h := by
  refine zL_aload_n (pc' := 937) dL_936 rfl rfl ?_
  refine zL_aload_n (pc' := 938) dL_937 rfl rfl ?_
  refine zL_iload_n (pc' := 939) dL_938 rfl rfl ?_
  refine zL_iconst (pc' := 940) dL_939 rfl ?_
  refine zL_iadd (pc' := 941) dL_940 rfl ?_
  refine zL_sld (pc' := 942) (by omega) hm dL_941 rfl (fun v941 e941 => ?_)
  refine zL_aload_n (pc' := 943) dL_942 rfl rfl ?_
  refine zL_iload_n (pc' := 944) dL_943 rfl rfl ?_
  refine zL_iconst (pc' := 945) dL_944 rfl ?_
  refine zL_iadd (pc' := 946) dL_945 rfl ?_
  refine zL_sld (pc' := 947) (by omega) hm dL_946 rfl (fun v946 e946 => ?_)
  refine zL_aload_n (pc' := 948) dL_947 rfl rfl ?_
  refine zL_iload_n (pc' := 949) dL_948 rfl rfl ?_
  refine zL_iconst (pc' := 950) dL_949 rfl ?_
  refine zL_iadd (pc' := 951) dL_950 rfl ?_
  refine zL_sld (pc' := 952) (by omega) hm dL_951 rfl (fun v951 e951 => ?_)
  refine zL_aload_n (pc' := 953) dL_952 rfl rfl ?_
  refine zL_iload_n (pc' := 954) dL_953 rfl rfl ?_
  refine zL_iconst (pc' := 955) dL_954 rfl ?_
  refine zL_iadd (pc' := 956) dL_955 rfl ?_
  refine zL_sld (pc' := 957) (by omega) hm dL_956 rfl (fun v956 e956 => ?_)
  refine zL_inv (pc' := 960) hcs kX11_tone vX11_tone lk_L_101 ⟨Nat.le_of_ble_eq_true rfl, Nat.le_of_ble_eq_true rfl⟩ tb30 vq11 rfl [_, _, _, _] (s_X11_tone (b := true) (κ := _) hC (Fr.rf hS) _ ⟨e941.1, e941.2⟩ _ ⟨e946.1, e946.2⟩ _ ⟨e951.1, e951.2⟩ _ ⟨e956.1, e956.2⟩) dL_957 rfl (Nat.le_of_ble_eq_true rfl) rfl ?_
  rintro r957 h957 ⟨f957, p957⟩; replace f957 := (Fm.rf (L := []) hS hR hC).frq f957; obtain ⟨-, hS, hR, hC⟩ := f957
  show zL _ _ _ (.inl r957 :: []) _
  refine zL_pop (pc' := 961) dL_960 rfl rfl ?_
  refine zL_aload_n (pc' := 962) dL_961 rfl rfl ?_
  refine zL_aload_n (pc' := 963) dL_962 rfl rfl ?_
  refine zL_iload_n (pc' := 964) dL_963 rfl rfl ?_
  refine zL_iconst (pc' := 965) dL_964 rfl ?_
  refine zL_iadd (pc' := 966) dL_965 rfl ?_
  refine zL_sld (pc' := 967) (by omega) hm dL_966 rfl (fun v966 e966 => ?_)
  refine zL_aload_n (pc' := 968) dL_967 rfl rfl ?_
  refine zL_iload_n (pc' := 969) dL_968 rfl rfl ?_
  refine zL_iconst (pc' := 970) dL_969 rfl ?_
  refine zL_iadd (pc' := 971) dL_970 rfl ?_
  refine zL_sld (pc' := 972) (by omega) hm dL_971 rfl (fun v971 e971 => ?_)
  refine zL_aload_n (pc' := 973) dL_972 rfl rfl ?_
  refine zL_iload_n (pc' := 974) dL_973 rfl rfl ?_
  refine zL_iconst (pc' := 975) dL_974 rfl ?_
  refine zL_iadd (pc' := 976) dL_975 rfl ?_
  refine zL_sld (pc' := 977) (by omega) hm dL_976 rfl (fun v976 e976 => ?_)
  refine zL_aload_n (pc' := 978) dL_977 rfl rfl ?_
  refine zL_iload_n (pc' := 979) dL_978 rfl rfl ?_
  refine zL_iconst (pc' := 980) dL_979 rfl ?_
  refine zL_iadd (pc' := 981) dL_980 rfl ?_
  refine zL_sld (pc' := 982) (by omega) hm dL_981 rfl (fun v981 e981 => ?_)
  refine zL_inv (pc' := 985) hcs kX12_tone vX12_tone lk_L_104 ⟨Nat.le_of_ble_eq_true rfl, Nat.le_of_ble_eq_true rfl⟩ tb0 vq12 rfl [_, _, _, _] (s_X12_tone (κ := _) hR (Fr.rf hS) _ ⟨e966.1, e966.2⟩ _ ⟨e971.1, e971.2⟩ _ ⟨e976.1, e976.2⟩ _ ⟨e981.1, e981.2⟩) dL_982 rfl (Nat.le_of_ble_eq_true rfl) rfl ?_
  rintro r982 h982 ⟨f982, p982⟩; replace f982 := (Fm.rf (L := []) hS hR hC).frq f982; obtain ⟨-, hS, hR, hC⟩ := f982
  show zL _ _ _ (.inl r982 :: []) _
  refine zL_pop (pc' := 986) dL_985 rfl rfl ?_
  refine zL_goto (tgt := 1580) dL_986 rfl ?_
  exact nx _ hS hR hC
set_option maxHeartbeats 4000000 in
theorem lc_21 {Γ : Lc} {i : Int} {h : Hp} (hX : XI Γ.1) (hcs : Γ.2.2.2.2.2.1 ≤ room_1.cells ∧ Γ.2.2.2.2.2.2 ≤ room_1.slots) (hm : Γ.2.2.1 < 2147483648) (hi : 0 ≤ i ∧ i + 6 ≤ Γ.2.2.1) (hS : SI h) (hR : KR h) (hC : KC h) (nx : ∀ h' : Hp, SI h' → KR h' → KC h' → zL Γ 1580 (lsL i) [] h') : zL Γ 989 (lsL i) [] h := by
  refine zL_aload_n (pc' := 990) dL_989 rfl rfl ?_
  refine zL_aload_n (pc' := 991) dL_990 rfl rfl ?_
  refine zL_iload_n (pc' := 992) dL_991 rfl rfl ?_
  refine zL_iconst (pc' := 993) dL_992 rfl ?_
  refine zL_iadd (pc' := 994) dL_993 rfl ?_
  refine zL_sld (pc' := 995) (by omega) hm dL_994 rfl (fun v994 e994 => ?_)
  refine zL_aload_n (pc' := 996) dL_995 rfl rfl ?_
  refine zL_iload_n (pc' := 997) dL_996 rfl rfl ?_
  refine zL_iconst (pc' := 998) dL_997 rfl ?_
  refine zL_iadd (pc' := 999) dL_998 rfl ?_
  refine zL_sld (pc' := 1000) (by omega) hm dL_999 rfl (fun v999 e999 => ?_)
  refine zL_aload_n (pc' := 1001) dL_1000 rfl rfl ?_
  refine zL_iload_n (pc' := 1002) dL_1001 rfl rfl ?_
  refine zL_iconst (pc' := 1003) dL_1002 rfl ?_
  refine zL_iadd (pc' := 1004) dL_1003 rfl ?_
  refine zL_sld (pc' := 1005) (by omega) hm dL_1004 rfl (fun v1004 e1004 => ?_)
  refine zL_inv (pc' := 1008) hcs kX11_levels vX11_levels lk_L_105 ⟨Nat.le_of_ble_eq_true rfl, Nat.le_of_ble_eq_true rfl⟩ tb30 vq11 rfl [_, _, _] (s_X11_levels (b := true) (κ := _) hC (Fr.rf hS) _ ⟨e994.1, e994.2⟩ _ ⟨e999.1, e999.2⟩ _ ⟨e1004.1, e1004.2⟩) dL_1005 rfl (Nat.le_of_ble_eq_true rfl) rfl ?_
  rintro r1005 h1005 ⟨f1005, p1005⟩; replace f1005 := (Fm.rf (L := []) hS hR hC).frq f1005; obtain ⟨-, hS, hR, hC⟩ := f1005
  show zL _ _ _ (.inl r1005 :: []) _
  refine zL_pop (pc' := 1009) dL_1008 rfl rfl ?_
  refine zL_aload_n (pc' := 1010) dL_1009 rfl rfl ?_
  refine zL_aload_n (pc' := 1011) dL_1010 rfl rfl ?_
  refine zL_iload_n (pc' := 1012) dL_1011 rfl rfl ?_
  refine zL_iconst (pc' := 1013) dL_1012 rfl ?_
  refine zL_iadd (pc' := 1014) dL_1013 rfl ?_
  refine zL_sld (pc' := 1015) (by omega) hm dL_1014 rfl (fun v1014 e1014 => ?_)
  refine zL_aload_n (pc' := 1016) dL_1015 rfl rfl ?_
  refine zL_iload_n (pc' := 1017) dL_1016 rfl rfl ?_
  refine zL_iconst (pc' := 1018) dL_1017 rfl ?_
  refine zL_iadd (pc' := 1019) dL_1018 rfl ?_
  refine zL_sld (pc' := 1020) (by omega) hm dL_1019 rfl (fun v1019 e1019 => ?_)
  refine zL_aload_n (pc' := 1021) dL_1020 rfl rfl ?_
  refine zL_iload_n (pc' := 1022) dL_1021 rfl rfl ?_
  refine zL_iconst (pc' := 1023) dL_1022 rfl ?_
  refine zL_iadd (pc' := 1024) dL_1023 rfl ?_
  refine zL_sld (pc' := 1025) (by omega) hm dL_1024 rfl (fun v1024 e1024 => ?_)
  refine zL_inv (pc' := 1028) hcs kX12_levels vX12_levels lk_L_108 ⟨Nat.le_of_ble_eq_true rfl, Nat.le_of_ble_eq_true rfl⟩ tb0 vq12 rfl [_, _, _] (s_X12_levels (κ := _) hR (Fr.rf hS) _ ⟨e1014.1, e1014.2⟩ _ ⟨e1019.1, e1019.2⟩ _ ⟨e1024.1, e1024.2⟩) dL_1025 rfl (Nat.le_of_ble_eq_true rfl) rfl ?_
  rintro r1025 h1025 ⟨f1025, p1025⟩; replace f1025 := (Fm.rf (L := []) hS hR hC).frq f1025; obtain ⟨-, hS, hR, hC⟩ := f1025
  show zL _ _ _ (.inl r1025 :: []) _
  refine zL_pop (pc' := 1029) dL_1028 rfl rfl ?_
  refine zL_goto (tgt := 1580) dL_1029 rfl ?_
  exact nx _ hS hR hC
set_option maxHeartbeats 4000000 in
theorem lc_22 {Γ : Lc} {i : Int} {h : Hp} (hX : XI Γ.1) (hcs : Γ.2.2.2.2.2.1 ≤ room_1.cells ∧ Γ.2.2.2.2.2.2 ≤ room_1.slots) (hm : Γ.2.2.1 < 2147483648) (hi : 0 ≤ i ∧ i + 6 ≤ Γ.2.2.1) (hS : SI h) (hR : KR h) (hC : KC h) (nx : ∀ h' : Hp, SI h' → KR h' → KC h' → zL Γ 1580 (lsL i) [] h') : zL Γ 1032 (lsL i) [] h := by
  refine zL_aload_n (pc' := 1033) dL_1032 rfl rfl ?_
  refine zL_aload_n (pc' := 1034) dL_1033 rfl rfl ?_
  refine zL_iload_n (pc' := 1035) dL_1034 rfl rfl ?_
  refine zL_iconst (pc' := 1036) dL_1035 rfl ?_
  refine zL_iadd (pc' := 1037) dL_1036 rfl ?_
  refine zL_sld (pc' := 1038) (by omega) hm dL_1037 rfl (fun v1037 e1037 => ?_)
  refine zL_aload_n (pc' := 1039) dL_1038 rfl rfl ?_
  refine zL_iload_n (pc' := 1040) dL_1039 rfl rfl ?_
  refine zL_iconst (pc' := 1041) dL_1040 rfl ?_
  refine zL_iadd (pc' := 1042) dL_1041 rfl ?_
  refine zL_sld (pc' := 1043) (by omega) hm dL_1042 rfl (fun v1042 e1042 => ?_)
  refine zL_aload_n (pc' := 1044) dL_1043 rfl rfl ?_
  refine zL_iload_n (pc' := 1045) dL_1044 rfl rfl ?_
  refine zL_iconst (pc' := 1046) dL_1045 rfl ?_
  refine zL_iadd (pc' := 1047) dL_1046 rfl ?_
  refine zL_sld (pc' := 1048) (by omega) hm dL_1047 rfl (fun v1047 e1047 => ?_)
  refine zL_aload_n (pc' := 1049) dL_1048 rfl rfl ?_
  refine zL_iload_n (pc' := 1050) dL_1049 rfl rfl ?_
  refine zL_iconst (pc' := 1051) dL_1050 rfl ?_
  refine zL_iadd (pc' := 1052) dL_1051 rfl ?_
  refine zL_sld (pc' := 1053) (by omega) hm dL_1052 rfl (fun v1052 e1052 => ?_)
  refine zL_inv (pc' := 1056) hcs kX11_noise vX11_noise lk_L_109 ⟨Nat.le_of_ble_eq_true rfl, Nat.le_of_ble_eq_true rfl⟩ tb30 vq11 rfl [_, _, _, _] (s_X11_noise (b := true) (κ := _) hC (Fr.rf hS) _ ⟨e1037.1, e1037.2⟩ _ ⟨e1042.1, e1042.2⟩ _ ⟨e1047.1, e1047.2⟩ _ ⟨e1052.1, e1052.2⟩) dL_1053 rfl (Nat.le_of_ble_eq_true rfl) rfl ?_
  rintro r1053 h1053 ⟨f1053, p1053⟩; replace f1053 := (Fm.rf (L := []) hS hR hC).frq f1053; obtain ⟨-, hS, hR, hC⟩ := f1053
  show zL _ _ _ (.inl r1053 :: []) _
  refine zL_pop (pc' := 1057) dL_1056 rfl rfl ?_
  refine zL_aload_n (pc' := 1058) dL_1057 rfl rfl ?_
  refine zL_aload_n (pc' := 1059) dL_1058 rfl rfl ?_
  refine zL_iload_n (pc' := 1060) dL_1059 rfl rfl ?_
  refine zL_iconst (pc' := 1061) dL_1060 rfl ?_
  refine zL_iadd (pc' := 1062) dL_1061 rfl ?_
  refine zL_sld (pc' := 1063) (by omega) hm dL_1062 rfl (fun v1062 e1062 => ?_)
  refine zL_aload_n (pc' := 1064) dL_1063 rfl rfl ?_
  refine zL_iload_n (pc' := 1065) dL_1064 rfl rfl ?_
  refine zL_iconst (pc' := 1066) dL_1065 rfl ?_
  refine zL_iadd (pc' := 1067) dL_1066 rfl ?_
  refine zL_sld (pc' := 1068) (by omega) hm dL_1067 rfl (fun v1067 e1067 => ?_)
  refine zL_aload_n (pc' := 1069) dL_1068 rfl rfl ?_
  refine zL_iload_n (pc' := 1070) dL_1069 rfl rfl ?_
  refine zL_iconst (pc' := 1071) dL_1070 rfl ?_
  refine zL_iadd (pc' := 1072) dL_1071 rfl ?_
  refine zL_sld (pc' := 1073) (by omega) hm dL_1072 rfl (fun v1072 e1072 => ?_)
  refine zL_aload_n (pc' := 1074) dL_1073 rfl rfl ?_
  refine zL_iload_n (pc' := 1075) dL_1074 rfl rfl ?_
  refine zL_iconst (pc' := 1076) dL_1075 rfl ?_
  refine zL_iadd (pc' := 1077) dL_1076 rfl ?_
  refine zL_sld (pc' := 1078) (by omega) hm dL_1077 rfl (fun v1077 e1077 => ?_)
  refine zL_inv (pc' := 1081) hcs kX12_noise vX12_noise lk_L_112 ⟨Nat.le_of_ble_eq_true rfl, Nat.le_of_ble_eq_true rfl⟩ tb0 vq12 rfl [_, _, _, _] (s_X12_noise (κ := _) hR (Fr.rf hS) _ ⟨e1062.1, e1062.2⟩ _ ⟨e1067.1, e1067.2⟩ _ ⟨e1072.1, e1072.2⟩ _ ⟨e1077.1, e1077.2⟩) dL_1078 rfl (Nat.le_of_ble_eq_true rfl) rfl ?_
  rintro r1078 h1078 ⟨f1078, p1078⟩; replace f1078 := (Fm.rf (L := []) hS hR hC).frq f1078; obtain ⟨-, hS, hR, hC⟩ := f1078
  show zL _ _ _ (.inl r1078 :: []) _
  refine zL_pop (pc' := 1082) dL_1081 rfl rfl ?_
  refine zL_goto (tgt := 1580) dL_1082 rfl ?_
  exact nx _ hS hR hC
set_option maxHeartbeats 4000000 in
theorem lc_23 {Γ : Lc} {i : Int} {h : Hp} (hX : XI Γ.1) (hcs : Γ.2.2.2.2.2.1 ≤ room_1.cells ∧ Γ.2.2.2.2.2.2 ≤ room_1.slots) (hm : Γ.2.2.1 < 2147483648) (hi : 0 ≤ i ∧ i + 6 ≤ Γ.2.2.1) (hS : SI h) (hR : KR h) (hC : KC h) (nx : ∀ h' : Hp, SI h' → KR h' → KC h' → zL Γ 1580 (lsL i) [] h') : zL Γ 1085 (lsL i) [] h := by
  refine zL_aload_n (pc' := 1086) dL_1085 rfl rfl ?_
  refine zL_aload_n (pc' := 1087) dL_1086 rfl rfl ?_
  refine zL_iload_n (pc' := 1088) dL_1087 rfl rfl ?_
  refine zL_iconst (pc' := 1089) dL_1088 rfl ?_
  refine zL_iadd (pc' := 1090) dL_1089 rfl ?_
  refine zL_sld (pc' := 1091) (by omega) hm dL_1090 rfl (fun v1090 e1090 => ?_)
  refine zL_aload_n (pc' := 1092) dL_1091 rfl rfl ?_
  refine zL_iload_n (pc' := 1093) dL_1092 rfl rfl ?_
  refine zL_iconst (pc' := 1094) dL_1093 rfl ?_
  refine zL_iadd (pc' := 1095) dL_1094 rfl ?_
  refine zL_sld (pc' := 1096) (by omega) hm dL_1095 rfl (fun v1095 e1095 => ?_)
  refine zL_aload_n (pc' := 1097) dL_1096 rfl rfl ?_
  refine zL_iload_n (pc' := 1098) dL_1097 rfl rfl ?_
  refine zL_iconst (pc' := 1099) dL_1098 rfl ?_
  refine zL_iadd (pc' := 1100) dL_1099 rfl ?_
  refine zL_sld (pc' := 1101) (by omega) hm dL_1100 rfl (fun v1100 e1100 => ?_)
  refine zL_inv (pc' := 1104) hcs kX11_percent vX11_percent lk_L_113 ⟨Nat.le_of_ble_eq_true rfl, Nat.le_of_ble_eq_true rfl⟩ tb30 vq11 rfl [_, _, _] (s_X11_percent (b := true) (κ := _) hC (Fr.rf hS) _ ⟨e1090.1, e1090.2⟩ _ ⟨e1095.1, e1095.2⟩ _ ⟨e1100.1, e1100.2⟩) dL_1101 rfl (Nat.le_of_ble_eq_true rfl) rfl ?_
  rintro r1101 h1101 ⟨f1101, p1101⟩; replace f1101 := (Fm.rf (L := []) hS hR hC).frq f1101; obtain ⟨-, hS, hR, hC⟩ := f1101
  show zL _ _ _ (.inl r1101 :: []) _
  refine zL_pop (pc' := 1105) dL_1104 rfl rfl ?_
  refine zL_aload_n (pc' := 1106) dL_1105 rfl rfl ?_
  refine zL_aload_n (pc' := 1107) dL_1106 rfl rfl ?_
  refine zL_iload_n (pc' := 1108) dL_1107 rfl rfl ?_
  refine zL_iconst (pc' := 1109) dL_1108 rfl ?_
  refine zL_iadd (pc' := 1110) dL_1109 rfl ?_
  refine zL_sld (pc' := 1111) (by omega) hm dL_1110 rfl (fun v1110 e1110 => ?_)
  refine zL_aload_n (pc' := 1112) dL_1111 rfl rfl ?_
  refine zL_iload_n (pc' := 1113) dL_1112 rfl rfl ?_
  refine zL_iconst (pc' := 1114) dL_1113 rfl ?_
  refine zL_iadd (pc' := 1115) dL_1114 rfl ?_
  refine zL_sld (pc' := 1116) (by omega) hm dL_1115 rfl (fun v1115 e1115 => ?_)
  refine zL_aload_n (pc' := 1117) dL_1116 rfl rfl ?_
  refine zL_iload_n (pc' := 1118) dL_1117 rfl rfl ?_
  refine zL_iconst (pc' := 1119) dL_1118 rfl ?_
  refine zL_iadd (pc' := 1120) dL_1119 rfl ?_
  refine zL_sld (pc' := 1121) (by omega) hm dL_1120 rfl (fun v1120 e1120 => ?_)
  refine zL_inv (pc' := 1124) hcs kX12_percent vX12_percent lk_L_116 ⟨Nat.le_of_ble_eq_true rfl, Nat.le_of_ble_eq_true rfl⟩ tb0 vq12 rfl [_, _, _] (s_X12_percent (κ := _) hR (Fr.rf hS) _ ⟨e1110.1, e1110.2⟩ _ ⟨e1115.1, e1115.2⟩ _ ⟨e1120.1, e1120.2⟩) dL_1121 rfl (Nat.le_of_ble_eq_true rfl) rfl ?_
  rintro r1121 h1121 ⟨f1121, p1121⟩; replace f1121 := (Fm.rf (L := []) hS hR hC).frq f1121; obtain ⟨-, hS, hR, hC⟩ := f1121
  show zL _ _ _ (.inl r1121 :: []) _
  refine zL_pop (pc' := 1125) dL_1124 rfl rfl ?_
  refine zL_goto (tgt := 1580) dL_1125 rfl ?_
  exact nx _ hS hR hC
set_option maxHeartbeats 4000000 in
theorem lc_24 {Γ : Lc} {i : Int} {h : Hp} (hX : XI Γ.1) (hcs : Γ.2.2.2.2.2.1 ≤ room_1.cells ∧ Γ.2.2.2.2.2.2 ≤ room_1.slots) (hm : Γ.2.2.1 < 2147483648) (hi : 0 ≤ i ∧ i + 6 ≤ Γ.2.2.1) (hS : SI h) (hR : KR h) (hC : KC h) (nx : ∀ h' : Hp, SI h' → KR h' → KC h' → zL Γ 1580 (lsL i) [] h') : zL Γ 1128 (lsL i) [] h := by
  refine zL_aload_n (pc' := 1129) dL_1128 rfl rfl ?_
  refine zL_aload_n (pc' := 1130) dL_1129 rfl rfl ?_
  refine zL_iload_n (pc' := 1131) dL_1130 rfl rfl ?_
  refine zL_iconst (pc' := 1132) dL_1131 rfl ?_
  refine zL_iadd (pc' := 1133) dL_1132 rfl ?_
  refine zL_sld (pc' := 1134) (by omega) hm dL_1133 rfl (fun v1133 e1133 => ?_)
  refine zL_aload_n (pc' := 1135) dL_1134 rfl rfl ?_
  refine zL_iload_n (pc' := 1136) dL_1135 rfl rfl ?_
  refine zL_iconst (pc' := 1137) dL_1136 rfl ?_
  refine zL_iadd (pc' := 1138) dL_1137 rfl ?_
  refine zL_sld (pc' := 1139) (by omega) hm dL_1138 rfl (fun v1138 e1138 => ?_)
  refine zL_inv (pc' := 1142) hcs kX11_bits vX11_bits lk_L_117 ⟨Nat.le_of_ble_eq_true rfl, Nat.le_of_ble_eq_true rfl⟩ tb30 vq11 rfl [_, _] (s_X11_bits (b := true) (κ := _) hC (Fr.rf hS) _ ⟨e1133.1, e1133.2⟩ _ ⟨e1138.1, e1138.2⟩) dL_1139 rfl (Nat.le_of_ble_eq_true rfl) rfl ?_
  rintro r1139 h1139 ⟨f1139, p1139⟩; replace f1139 := (Fm.rf (L := []) hS hR hC).frq f1139; obtain ⟨-, hS, hR, hC⟩ := f1139
  show zL _ _ _ (.inl r1139 :: []) _
  refine zL_pop (pc' := 1143) dL_1142 rfl rfl ?_
  refine zL_aload_n (pc' := 1144) dL_1143 rfl rfl ?_
  refine zL_aload_n (pc' := 1145) dL_1144 rfl rfl ?_
  refine zL_iload_n (pc' := 1146) dL_1145 rfl rfl ?_
  refine zL_iconst (pc' := 1147) dL_1146 rfl ?_
  refine zL_iadd (pc' := 1148) dL_1147 rfl ?_
  refine zL_sld (pc' := 1149) (by omega) hm dL_1148 rfl (fun v1148 e1148 => ?_)
  refine zL_aload_n (pc' := 1150) dL_1149 rfl rfl ?_
  refine zL_iload_n (pc' := 1151) dL_1150 rfl rfl ?_
  refine zL_iconst (pc' := 1152) dL_1151 rfl ?_
  refine zL_iadd (pc' := 1153) dL_1152 rfl ?_
  refine zL_sld (pc' := 1154) (by omega) hm dL_1153 rfl (fun v1153 e1153 => ?_)
  refine zL_inv (pc' := 1157) hcs kX12_bits vX12_bits lk_L_120 ⟨Nat.le_of_ble_eq_true rfl, Nat.le_of_ble_eq_true rfl⟩ tb0 vq12 rfl [_, _] (s_X12_bits (κ := _) hR (Fr.rf hS) _ ⟨e1148.1, e1148.2⟩ _ ⟨e1153.1, e1153.2⟩) dL_1154 rfl (Nat.le_of_ble_eq_true rfl) rfl ?_
  rintro r1154 h1154 ⟨f1154, p1154⟩; replace f1154 := (Fm.rf (L := []) hS hR hC).frq f1154; obtain ⟨-, hS, hR, hC⟩ := f1154
  show zL _ _ _ (.inl r1154 :: []) _
  refine zL_pop (pc' := 1158) dL_1157 rfl rfl ?_
  refine zL_goto (tgt := 1580) dL_1158 rfl ?_
  exact nx _ hS hR hC
set_option maxHeartbeats 4000000 in
theorem lc_25 {Γ : Lc} {i : Int} {h : Hp} (hX : XI Γ.1) (hcs : Γ.2.2.2.2.2.1 ≤ room_1.cells ∧ Γ.2.2.2.2.2.2 ≤ room_1.slots) (hm : Γ.2.2.1 < 2147483648) (hi : 0 ≤ i ∧ i + 6 ≤ Γ.2.2.1) (hS : SI h) (hR : KR h) (hC : KC h) (nx : ∀ h' : Hp, SI h' → KR h' → KC h' → zL Γ 1580 (lsL i) [] h') : zL Γ 1161 (lsL i) [] h := by
  refine zL_aload_n (pc' := 1162) dL_1161 rfl rfl ?_
  refine zL_aload_n (pc' := 1163) dL_1162 rfl rfl ?_
  refine zL_iload_n (pc' := 1164) dL_1163 rfl rfl ?_
  refine zL_iconst (pc' := 1165) dL_1164 rfl ?_
  refine zL_iadd (pc' := 1166) dL_1165 rfl ?_
  refine zL_sld (pc' := 1167) (by omega) hm dL_1166 rfl (fun v1166 e1166 => ?_)
  refine zL_aload_n (pc' := 1168) dL_1167 rfl rfl ?_
  refine zL_iload_n (pc' := 1169) dL_1168 rfl rfl ?_
  refine zL_iconst (pc' := 1170) dL_1169 rfl ?_
  refine zL_iadd (pc' := 1171) dL_1170 rfl ?_
  refine zL_sld (pc' := 1172) (by omega) hm dL_1171 rfl (fun v1171 e1171 => ?_)
  refine zL_aload_n (pc' := 1173) dL_1172 rfl rfl ?_
  refine zL_iload_n (pc' := 1174) dL_1173 rfl rfl ?_
  refine zL_iconst (pc' := 1175) dL_1174 rfl ?_
  refine zL_iadd (pc' := 1176) dL_1175 rfl ?_
  refine zL_sld (pc' := 1177) (by omega) hm dL_1176 rfl (fun v1176 e1176 => ?_)
  refine zL_aload_n (pc' := 1178) dL_1177 rfl rfl ?_
  refine zL_iload_n (pc' := 1179) dL_1178 rfl rfl ?_
  refine zL_iconst (pc' := 1180) dL_1179 rfl ?_
  refine zL_iadd (pc' := 1181) dL_1180 rfl ?_
  refine zL_sld (pc' := 1182) (by omega) hm dL_1181 rfl (fun v1181 e1181 => ?_)
  refine zL_inv (pc' := 1185) hcs kX11_ring vX11_ring lk_L_121 ⟨Nat.le_of_ble_eq_true rfl, Nat.le_of_ble_eq_true rfl⟩ tb30 vq11 rfl [_, _, _, _] (s_X11_ring (b := true) (κ := _) hC (Fr.rf hS) _ ⟨e1166.1, e1166.2⟩ _ ⟨e1171.1, e1171.2⟩ _ ⟨e1176.1, e1176.2⟩ _ ⟨e1181.1, e1181.2⟩) dL_1182 rfl (Nat.le_of_ble_eq_true rfl) rfl ?_
  rintro r1182 h1182 ⟨f1182, p1182⟩; replace f1182 := (Fm.rf (L := []) hS hR hC).frq f1182; obtain ⟨-, hS, hR, hC⟩ := f1182
  show zL _ _ _ (.inl r1182 :: []) _
  refine zL_pop (pc' := 1186) dL_1185 rfl rfl ?_
  refine zL_aload_n (pc' := 1187) dL_1186 rfl rfl ?_
  refine zL_aload_n (pc' := 1188) dL_1187 rfl rfl ?_
  refine zL_iload_n (pc' := 1189) dL_1188 rfl rfl ?_
  refine zL_iconst (pc' := 1190) dL_1189 rfl ?_
  refine zL_iadd (pc' := 1191) dL_1190 rfl ?_
  refine zL_sld (pc' := 1192) (by omega) hm dL_1191 rfl (fun v1191 e1191 => ?_)
  refine zL_aload_n (pc' := 1193) dL_1192 rfl rfl ?_
  refine zL_iload_n (pc' := 1194) dL_1193 rfl rfl ?_
  refine zL_iconst (pc' := 1195) dL_1194 rfl ?_
  refine zL_iadd (pc' := 1196) dL_1195 rfl ?_
  refine zL_sld (pc' := 1197) (by omega) hm dL_1196 rfl (fun v1196 e1196 => ?_)
  refine zL_aload_n (pc' := 1198) dL_1197 rfl rfl ?_
  refine zL_iload_n (pc' := 1199) dL_1198 rfl rfl ?_
  refine zL_iconst (pc' := 1200) dL_1199 rfl ?_
  refine zL_iadd (pc' := 1201) dL_1200 rfl ?_
  refine zL_sld (pc' := 1202) (by omega) hm dL_1201 rfl (fun v1201 e1201 => ?_)
  refine zL_aload_n (pc' := 1203) dL_1202 rfl rfl ?_
  refine zL_iload_n (pc' := 1204) dL_1203 rfl rfl ?_
  refine zL_iconst (pc' := 1205) dL_1204 rfl ?_
  refine zL_iadd (pc' := 1206) dL_1205 rfl ?_
  refine zL_sld (pc' := 1207) (by omega) hm dL_1206 rfl (fun v1206 e1206 => ?_)
  refine zL_inv (pc' := 1210) hcs kX12_ring vX12_ring lk_L_124 ⟨Nat.le_of_ble_eq_true rfl, Nat.le_of_ble_eq_true rfl⟩ tb0 vq12 rfl [_, _, _, _] (s_X12_ring (κ := _) hR (Fr.rf hS) _ ⟨e1191.1, e1191.2⟩ _ ⟨e1196.1, e1196.2⟩ _ ⟨e1201.1, e1201.2⟩ _ ⟨e1206.1, e1206.2⟩) dL_1207 rfl (Nat.le_of_ble_eq_true rfl) rfl ?_
  rintro r1207 h1207 ⟨f1207, p1207⟩; replace f1207 := (Fm.rf (L := []) hS hR hC).frq f1207; obtain ⟨-, hS, hR, hC⟩ := f1207
  show zL _ _ _ (.inl r1207 :: []) _
  refine zL_pop (pc' := 1211) dL_1210 rfl rfl ?_
  refine zL_goto (tgt := 1580) dL_1211 rfl ?_
  exact nx _ hS hR hC
set_option maxHeartbeats 4000000 in
theorem lc_26 {Γ : Lc} {i : Int} {h : Hp} (hX : XI Γ.1) (hcs : Γ.2.2.2.2.2.1 ≤ room_1.cells ∧ Γ.2.2.2.2.2.2 ≤ room_1.slots) (hm : Γ.2.2.1 < 2147483648) (hi : 0 ≤ i ∧ i + 6 ≤ Γ.2.2.1) (hS : SI h) (hR : KR h) (hC : KC h) (nx : ∀ h' : Hp, SI h' → KR h' → KC h' → zL Γ 1580 (lsL i) [] h') : zL Γ 1214 (lsL i) [] h := by
  refine zL_aload_n (pc' := 1215) dL_1214 rfl rfl ?_
  refine zL_aload_n (pc' := 1216) dL_1215 rfl rfl ?_
  refine zL_iload_n (pc' := 1217) dL_1216 rfl rfl ?_
  refine zL_iconst (pc' := 1218) dL_1217 rfl ?_
  refine zL_iadd (pc' := 1219) dL_1218 rfl ?_
  refine zL_sld (pc' := 1220) (by omega) hm dL_1219 rfl (fun v1219 e1219 => ?_)
  refine zL_aload_n (pc' := 1221) dL_1220 rfl rfl ?_
  refine zL_iload_n (pc' := 1222) dL_1221 rfl rfl ?_
  refine zL_iconst (pc' := 1223) dL_1222 rfl ?_
  refine zL_iadd (pc' := 1224) dL_1223 rfl ?_
  refine zL_sld (pc' := 1225) (by omega) hm dL_1224 rfl (fun v1224 e1224 => ?_)
  refine zL_inv (pc' := 1228) hcs kX11_edges vX11_edges lk_L_125 ⟨Nat.le_of_ble_eq_true rfl, Nat.le_of_ble_eq_true rfl⟩ tb30 vq11 rfl [_, _] (s_X11_edges (b := true) (κ := _) hC (Fr.rf hS) _ ⟨e1219.1, e1219.2⟩ _ ⟨e1224.1, e1224.2⟩) dL_1225 rfl (Nat.le_of_ble_eq_true rfl) rfl ?_
  rintro r1225 h1225 ⟨f1225, p1225⟩; replace f1225 := (Fm.rf (L := []) hS hR hC).frq f1225; obtain ⟨-, hS, hR, hC⟩ := f1225
  show zL _ _ _ (.inl r1225 :: []) _
  refine zL_pop (pc' := 1229) dL_1228 rfl rfl ?_
  refine zL_aload_n (pc' := 1230) dL_1229 rfl rfl ?_
  refine zL_aload_n (pc' := 1231) dL_1230 rfl rfl ?_
  refine zL_iload_n (pc' := 1232) dL_1231 rfl rfl ?_
  refine zL_iconst (pc' := 1233) dL_1232 rfl ?_
  refine zL_iadd (pc' := 1234) dL_1233 rfl ?_
  refine zL_sld (pc' := 1235) (by omega) hm dL_1234 rfl (fun v1234 e1234 => ?_)
  refine zL_aload_n (pc' := 1236) dL_1235 rfl rfl ?_
  refine zL_iload_n (pc' := 1237) dL_1236 rfl rfl ?_
  refine zL_iconst (pc' := 1238) dL_1237 rfl ?_
  refine zL_iadd (pc' := 1239) dL_1238 rfl ?_
  refine zL_sld (pc' := 1240) (by omega) hm dL_1239 rfl (fun v1239 e1239 => ?_)
  refine zL_inv (pc' := 1243) hcs kX12_edges vX12_edges lk_L_128 ⟨Nat.le_of_ble_eq_true rfl, Nat.le_of_ble_eq_true rfl⟩ tb0 vq12 rfl [_, _] (s_X12_edges (κ := _) hR (Fr.rf hS) _ ⟨e1234.1, e1234.2⟩ _ ⟨e1239.1, e1239.2⟩) dL_1240 rfl (Nat.le_of_ble_eq_true rfl) rfl ?_
  rintro r1240 h1240 ⟨f1240, p1240⟩; replace f1240 := (Fm.rf (L := []) hS hR hC).frq f1240; obtain ⟨-, hS, hR, hC⟩ := f1240
  show zL _ _ _ (.inl r1240 :: []) _
  refine zL_pop (pc' := 1244) dL_1243 rfl rfl ?_
  refine zL_goto (tgt := 1580) dL_1244 rfl ?_
  exact nx _ hS hR hC
set_option maxHeartbeats 4000000 in
theorem lc_27 {Γ : Lc} {i : Int} {h : Hp} (hX : XI Γ.1) (hcs : Γ.2.2.2.2.2.1 ≤ room_1.cells ∧ Γ.2.2.2.2.2.2 ≤ room_1.slots) (hm : Γ.2.2.1 < 2147483648) (hi : 0 ≤ i ∧ i + 6 ≤ Γ.2.2.1) (hS : SI h) (hR : KR h) (hC : KC h) (nx : ∀ h' : Hp, SI h' → KR h' → KC h' → zL Γ 1580 (lsL i) [] h') : zL Γ 1247 (lsL i) [] h := by
  refine zL_aload_n (pc' := 1248) dL_1247 rfl rfl ?_
  refine zL_aload_n (pc' := 1249) dL_1248 rfl rfl ?_
  refine zL_iload_n (pc' := 1250) dL_1249 rfl rfl ?_
  refine zL_iconst (pc' := 1251) dL_1250 rfl ?_
  refine zL_iadd (pc' := 1252) dL_1251 rfl ?_
  refine zL_sld (pc' := 1253) (by omega) hm dL_1252 rfl (fun v1252 e1252 => ?_)
  refine zL_aload_n (pc' := 1254) dL_1253 rfl rfl ?_
  refine zL_iload_n (pc' := 1255) dL_1254 rfl rfl ?_
  refine zL_iconst (pc' := 1256) dL_1255 rfl ?_
  refine zL_iadd (pc' := 1257) dL_1256 rfl ?_
  refine zL_sld (pc' := 1258) (by omega) hm dL_1257 rfl (fun v1257 e1257 => ?_)
  refine zL_aload_n (pc' := 1259) dL_1258 rfl rfl ?_
  refine zL_iload_n (pc' := 1260) dL_1259 rfl rfl ?_
  refine zL_iconst (pc' := 1261) dL_1260 rfl ?_
  refine zL_iadd (pc' := 1262) dL_1261 rfl ?_
  refine zL_sld (pc' := 1263) (by omega) hm dL_1262 rfl (fun v1262 e1262 => ?_)
  refine zL_inv (pc' := 1266) hcs kX11_error vX11_error lk_L_129 ⟨Nat.le_of_ble_eq_true rfl, Nat.le_of_ble_eq_true rfl⟩ tb30 vq11 rfl [_, _, _] (s_X11_error (b := true) (κ := _) hC (Fr.rf hS) _ ⟨e1252.1, e1252.2⟩ _ ⟨e1257.1, e1257.2⟩ _ ⟨e1262.1, e1262.2⟩) dL_1263 rfl (Nat.le_of_ble_eq_true rfl) rfl ?_
  rintro r1263 h1263 ⟨f1263, p1263⟩; replace f1263 := (Fm.rf (L := []) hS hR hC).frq f1263; obtain ⟨-, hS, hR, hC⟩ := f1263
  show zL _ _ _ (.inr (.inl r1263) :: []) _
  refine zL_pop2 (pc' := 1267) dL_1266 rfl ?_
  refine zL_aload_n (pc' := 1268) dL_1267 rfl rfl ?_
  refine zL_aload_n (pc' := 1269) dL_1268 rfl rfl ?_
  refine zL_iload_n (pc' := 1270) dL_1269 rfl rfl ?_
  refine zL_iconst (pc' := 1271) dL_1270 rfl ?_
  refine zL_iadd (pc' := 1272) dL_1271 rfl ?_
  refine zL_sld (pc' := 1273) (by omega) hm dL_1272 rfl (fun v1272 e1272 => ?_)
  refine zL_aload_n (pc' := 1274) dL_1273 rfl rfl ?_
  refine zL_iload_n (pc' := 1275) dL_1274 rfl rfl ?_
  refine zL_iconst (pc' := 1276) dL_1275 rfl ?_
  refine zL_iadd (pc' := 1277) dL_1276 rfl ?_
  refine zL_sld (pc' := 1278) (by omega) hm dL_1277 rfl (fun v1277 e1277 => ?_)
  refine zL_aload_n (pc' := 1279) dL_1278 rfl rfl ?_
  refine zL_iload_n (pc' := 1280) dL_1279 rfl rfl ?_
  refine zL_iconst (pc' := 1281) dL_1280 rfl ?_
  refine zL_iadd (pc' := 1282) dL_1281 rfl ?_
  refine zL_sld (pc' := 1283) (by omega) hm dL_1282 rfl (fun v1282 e1282 => ?_)
  refine zL_inv (pc' := 1286) hcs kX12_error vX12_error lk_L_133 ⟨Nat.le_of_ble_eq_true rfl, Nat.le_of_ble_eq_true rfl⟩ tb0 vq12 rfl [_, _, _] (s_X12_error (κ := _) hR (Fr.rf hS) _ ⟨e1272.1, e1272.2⟩ _ ⟨e1277.1, e1277.2⟩ _ ⟨e1282.1, e1282.2⟩) dL_1283 rfl (Nat.le_of_ble_eq_true rfl) rfl ?_
  rintro r1283 h1283 ⟨f1283, p1283⟩; replace f1283 := (Fm.rf (L := []) hS hR hC).frq f1283; obtain ⟨-, hS, hR, hC⟩ := f1283
  show zL _ _ _ (.inr (.inl r1283) :: []) _
  refine zL_pop2 (pc' := 1287) dL_1286 rfl ?_
  refine zL_goto (tgt := 1580) dL_1287 rfl ?_
  exact nx _ hS hR hC
set_option maxHeartbeats 4000000 in
theorem lc_28 {Γ : Lc} {i : Int} {h : Hp} (hX : XI Γ.1) (hcs : Γ.2.2.2.2.2.1 ≤ room_1.cells ∧ Γ.2.2.2.2.2.2 ≤ room_1.slots) (hm : Γ.2.2.1 < 2147483648) (hi : 0 ≤ i ∧ i + 6 ≤ Γ.2.2.1) (hS : SI h) (hR : KR h) (hC : KC h) (nx : ∀ h' : Hp, SI h' → KR h' → KC h' → zL Γ 1580 (lsL i) [] h') : zL Γ 1290 (lsL i) [] h := by
  refine zL_aload_n (pc' := 1291) dL_1290 rfl rfl ?_
  refine zL_aload_n (pc' := 1292) dL_1291 rfl rfl ?_
  refine zL_iload_n (pc' := 1293) dL_1292 rfl rfl ?_
  refine zL_iconst (pc' := 1294) dL_1293 rfl ?_
  refine zL_iadd (pc' := 1295) dL_1294 rfl ?_
  refine zL_sld (pc' := 1296) (by omega) hm dL_1295 rfl (fun v1295 e1295 => ?_)
  refine zL_aload_n (pc' := 1297) dL_1296 rfl rfl ?_
  refine zL_iload_n (pc' := 1298) dL_1297 rfl rfl ?_
  refine zL_iconst (pc' := 1299) dL_1298 rfl ?_
  refine zL_iadd (pc' := 1300) dL_1299 rfl ?_
  refine zL_sld (pc' := 1301) (by omega) hm dL_1300 rfl (fun v1300 e1300 => ?_)
  refine zL_inv (pc' := 1304) hcs kX11_falseOnes vX11_falseOnes lk_L_134 ⟨Nat.le_of_ble_eq_true rfl, Nat.le_of_ble_eq_true rfl⟩ tb30 vq11 rfl [_, _] (s_X11_falseOnes (b := true) (κ := _) hC (Fr.rf hS) _ ⟨e1295.1, e1295.2⟩ _ ⟨e1300.1, e1300.2⟩) dL_1301 rfl (Nat.le_of_ble_eq_true rfl) rfl ?_
  rintro r1301 h1301 ⟨f1301, p1301⟩; replace f1301 := (Fm.rf (L := []) hS hR hC).frq f1301; obtain ⟨-, hS, hR, hC⟩ := f1301
  show zL _ _ _ (.inl r1301 :: []) _
  refine zL_pop (pc' := 1305) dL_1304 rfl rfl ?_
  refine zL_aload_n (pc' := 1306) dL_1305 rfl rfl ?_
  refine zL_aload_n (pc' := 1307) dL_1306 rfl rfl ?_
  refine zL_iload_n (pc' := 1308) dL_1307 rfl rfl ?_
  refine zL_iconst (pc' := 1309) dL_1308 rfl ?_
  refine zL_iadd (pc' := 1310) dL_1309 rfl ?_
  refine zL_sld (pc' := 1311) (by omega) hm dL_1310 rfl (fun v1310 e1310 => ?_)
  refine zL_aload_n (pc' := 1312) dL_1311 rfl rfl ?_
  refine zL_iload_n (pc' := 1313) dL_1312 rfl rfl ?_
  refine zL_iconst (pc' := 1314) dL_1313 rfl ?_
  refine zL_iadd (pc' := 1315) dL_1314 rfl ?_
  refine zL_sld (pc' := 1316) (by omega) hm dL_1315 rfl (fun v1315 e1315 => ?_)
  refine zL_inv (pc' := 1319) hcs kX12_falseOnes vX12_falseOnes lk_L_137 ⟨Nat.le_of_ble_eq_true rfl, Nat.le_of_ble_eq_true rfl⟩ tb0 vq12 rfl [_, _] (s_X12_falseOnes (κ := _) hR (Fr.rf hS) _ ⟨e1310.1, e1310.2⟩ _ ⟨e1315.1, e1315.2⟩) dL_1316 rfl (Nat.le_of_ble_eq_true rfl) rfl ?_
  rintro r1316 h1316 ⟨f1316, p1316⟩; replace f1316 := (Fm.rf (L := []) hS hR hC).frq f1316; obtain ⟨-, hS, hR, hC⟩ := f1316
  show zL _ _ _ (.inl r1316 :: []) _
  refine zL_pop (pc' := 1320) dL_1319 rfl rfl ?_
  refine zL_goto (tgt := 1580) dL_1320 rfl ?_
  exact nx _ hS hR hC
set_option maxHeartbeats 4000000 in
theorem lc_29 {Γ : Lc} {i : Int} {h : Hp} (hX : XI Γ.1) (hcs : Γ.2.2.2.2.2.1 ≤ room_1.cells ∧ Γ.2.2.2.2.2.2 ≤ room_1.slots) (hm : Γ.2.2.1 < 2147483648) (hi : 0 ≤ i ∧ i + 6 ≤ Γ.2.2.1) (hS : SI h) (hR : KR h) (hC : KC h) (nx : ∀ h' : Hp, SI h' → KR h' → KC h' → zL Γ 1580 (lsL i) [] h') : zL Γ 1323 (lsL i) [] h := by
  refine zL_aload_n (pc' := 1324) dL_1323 rfl rfl ?_
  refine zL_aload_n (pc' := 1325) dL_1324 rfl rfl ?_
  refine zL_iload_n (pc' := 1326) dL_1325 rfl rfl ?_
  refine zL_iconst (pc' := 1327) dL_1326 rfl ?_
  refine zL_iadd (pc' := 1328) dL_1327 rfl ?_
  refine zL_sld (pc' := 1329) (by omega) hm dL_1328 rfl (fun v1328 e1328 => ?_)
  refine zL_aload_n (pc' := 1330) dL_1329 rfl rfl ?_
  refine zL_iload_n (pc' := 1331) dL_1330 rfl rfl ?_
  refine zL_iconst (pc' := 1332) dL_1331 rfl ?_
  refine zL_iadd (pc' := 1333) dL_1332 rfl ?_
  refine zL_sld (pc' := 1334) (by omega) hm dL_1333 rfl (fun v1333 e1333 => ?_)
  refine zL_aload_n (pc' := 1335) dL_1334 rfl rfl ?_
  refine zL_iload_n (pc' := 1336) dL_1335 rfl rfl ?_
  refine zL_iconst (pc' := 1337) dL_1336 rfl ?_
  refine zL_iadd (pc' := 1338) dL_1337 rfl ?_
  refine zL_sld (pc' := 1339) (by omega) hm dL_1338 rfl (fun v1338 e1338 => ?_)
  refine zL_aload_n (pc' := 1340) dL_1339 rfl rfl ?_
  refine zL_iload_n (pc' := 1341) dL_1340 rfl rfl ?_
  refine zL_iconst (pc' := 1342) dL_1341 rfl ?_
  refine zL_iadd (pc' := 1343) dL_1342 rfl ?_
  refine zL_sld (pc' := 1344) (by omega) hm dL_1343 rfl (fun v1343 e1343 => ?_)
  refine zL_inv (pc' := 1347) hcs kX11_places vX11_places lk_L_138 ⟨Nat.le_of_ble_eq_true rfl, Nat.le_of_ble_eq_true rfl⟩ tb30 vq11 rfl [_, _, _, _] (s_X11_places (b := true) (κ := _) hC (Fr.rf hS) _ ⟨e1328.1, e1328.2⟩ _ ⟨e1333.1, e1333.2⟩ _ ⟨e1338.1, e1338.2⟩ _ ⟨e1343.1, e1343.2⟩) dL_1344 rfl (Nat.le_of_ble_eq_true rfl) rfl ?_
  rintro r1344 h1344 ⟨f1344, p1344⟩; replace f1344 := (Fm.rf (L := []) hS hR hC).frq f1344; obtain ⟨-, hS, hR, hC⟩ := f1344
  show zL _ _ _ (.inl r1344 :: []) _
  refine zL_pop (pc' := 1348) dL_1347 rfl rfl ?_
  refine zL_aload_n (pc' := 1349) dL_1348 rfl rfl ?_
  refine zL_aload_n (pc' := 1350) dL_1349 rfl rfl ?_
  refine zL_iload_n (pc' := 1351) dL_1350 rfl rfl ?_
  refine zL_iconst (pc' := 1352) dL_1351 rfl ?_
  refine zL_iadd (pc' := 1353) dL_1352 rfl ?_
  refine zL_sld (pc' := 1354) (by omega) hm dL_1353 rfl (fun v1353 e1353 => ?_)
  refine zL_aload_n (pc' := 1355) dL_1354 rfl rfl ?_
  refine zL_iload_n (pc' := 1356) dL_1355 rfl rfl ?_
  refine zL_iconst (pc' := 1357) dL_1356 rfl ?_
  refine zL_iadd (pc' := 1358) dL_1357 rfl ?_
  refine zL_sld (pc' := 1359) (by omega) hm dL_1358 rfl (fun v1358 e1358 => ?_)
  refine zL_aload_n (pc' := 1360) dL_1359 rfl rfl ?_
  refine zL_iload_n (pc' := 1361) dL_1360 rfl rfl ?_
  refine zL_iconst (pc' := 1362) dL_1361 rfl ?_
  refine zL_iadd (pc' := 1363) dL_1362 rfl ?_
  refine zL_sld (pc' := 1364) (by omega) hm dL_1363 rfl (fun v1363 e1363 => ?_)
  refine zL_aload_n (pc' := 1365) dL_1364 rfl rfl ?_
  refine zL_iload_n (pc' := 1366) dL_1365 rfl rfl ?_
  refine zL_iconst (pc' := 1367) dL_1366 rfl ?_
  refine zL_iadd (pc' := 1368) dL_1367 rfl ?_
  refine zL_sld (pc' := 1369) (by omega) hm dL_1368 rfl (fun v1368 e1368 => ?_)
  refine zL_inv (pc' := 1372) hcs kX12_places vX12_places lk_L_141 ⟨Nat.le_of_ble_eq_true rfl, Nat.le_of_ble_eq_true rfl⟩ tb0 vq12 rfl [_, _, _, _] (s_X12_places (κ := _) hR (Fr.rf hS) _ ⟨e1353.1, e1353.2⟩ _ ⟨e1358.1, e1358.2⟩ _ ⟨e1363.1, e1363.2⟩ _ ⟨e1368.1, e1368.2⟩) dL_1369 rfl (Nat.le_of_ble_eq_true rfl) rfl ?_
  rintro r1369 h1369 ⟨f1369, p1369⟩; replace f1369 := (Fm.rf (L := []) hS hR hC).frq f1369; obtain ⟨-, hS, hR, hC⟩ := f1369
  show zL _ _ _ (.inl r1369 :: []) _
  refine zL_pop (pc' := 1373) dL_1372 rfl rfl ?_
  refine zL_goto (tgt := 1580) dL_1373 rfl ?_
  exact nx _ hS hR hC
set_option maxHeartbeats 4000000 in
theorem lc_30 {Γ : Lc} {i : Int} {h : Hp} (hX : XI Γ.1) (hcs : Γ.2.2.2.2.2.1 ≤ room_1.cells ∧ Γ.2.2.2.2.2.2 ≤ room_1.slots) (hm : Γ.2.2.1 < 2147483648) (hi : 0 ≤ i ∧ i + 6 ≤ Γ.2.2.1) (hS : SI h) (hR : KR h) (hC : KC h) (nx : ∀ h' : Hp, SI h' → KR h' → KC h' → zL Γ 1580 (lsL i) [] h') : zL Γ 1376 (lsL i) [] h := by
  refine zL_aload_n (pc' := 1377) dL_1376 rfl rfl ?_
  refine zL_aload_n (pc' := 1378) dL_1377 rfl rfl ?_
  refine zL_iload_n (pc' := 1379) dL_1378 rfl rfl ?_
  refine zL_iconst (pc' := 1380) dL_1379 rfl ?_
  refine zL_iadd (pc' := 1381) dL_1380 rfl ?_
  refine zL_sld (pc' := 1382) (by omega) hm dL_1381 rfl (fun v1381 e1381 => ?_)
  refine zL_aload_n (pc' := 1383) dL_1382 rfl rfl ?_
  refine zL_iload_n (pc' := 1384) dL_1383 rfl rfl ?_
  refine zL_iconst (pc' := 1385) dL_1384 rfl ?_
  refine zL_iadd (pc' := 1386) dL_1385 rfl ?_
  refine zL_sld (pc' := 1387) (by omega) hm dL_1386 rfl (fun v1386 e1386 => ?_)
  refine zL_aload_n (pc' := 1388) dL_1387 rfl rfl ?_
  refine zL_iload_n (pc' := 1389) dL_1388 rfl rfl ?_
  refine zL_iconst (pc' := 1390) dL_1389 rfl ?_
  refine zL_iadd (pc' := 1391) dL_1390 rfl ?_
  refine zL_sld (pc' := 1392) (by omega) hm dL_1391 rfl (fun v1391 e1391 => ?_)
  refine zL_inv (pc' := 1395) hcs kX11_unlike vX11_unlike lk_L_142 ⟨Nat.le_of_ble_eq_true rfl, Nat.le_of_ble_eq_true rfl⟩ tb30 vq11 rfl [_, _, _] (s_X11_unlike (b := true) (κ := _) hC (Fr.rf hS) _ ⟨e1381.1, e1381.2⟩ _ ⟨e1386.1, e1386.2⟩ _ ⟨e1391.1, e1391.2⟩) dL_1392 rfl (Nat.le_of_ble_eq_true rfl) rfl ?_
  rintro r1392 h1392 ⟨f1392, p1392⟩; replace f1392 := (Fm.rf (L := []) hS hR hC).frq f1392; obtain ⟨-, hS, hR, hC⟩ := f1392
  show zL _ _ _ (.inl r1392 :: []) _
  refine zL_pop (pc' := 1396) dL_1395 rfl rfl ?_
  refine zL_aload_n (pc' := 1397) dL_1396 rfl rfl ?_
  refine zL_aload_n (pc' := 1398) dL_1397 rfl rfl ?_
  refine zL_iload_n (pc' := 1399) dL_1398 rfl rfl ?_
  refine zL_iconst (pc' := 1400) dL_1399 rfl ?_
  refine zL_iadd (pc' := 1401) dL_1400 rfl ?_
  refine zL_sld (pc' := 1402) (by omega) hm dL_1401 rfl (fun v1401 e1401 => ?_)
  refine zL_aload_n (pc' := 1403) dL_1402 rfl rfl ?_
  refine zL_iload_n (pc' := 1404) dL_1403 rfl rfl ?_
  refine zL_iconst (pc' := 1405) dL_1404 rfl ?_
  refine zL_iadd (pc' := 1406) dL_1405 rfl ?_
  refine zL_sld (pc' := 1407) (by omega) hm dL_1406 rfl (fun v1406 e1406 => ?_)
  refine zL_aload_n (pc' := 1408) dL_1407 rfl rfl ?_
  refine zL_iload_n (pc' := 1409) dL_1408 rfl rfl ?_
  refine zL_iconst (pc' := 1410) dL_1409 rfl ?_
  refine zL_iadd (pc' := 1411) dL_1410 rfl ?_
  refine zL_sld (pc' := 1412) (by omega) hm dL_1411 rfl (fun v1411 e1411 => ?_)
  refine zL_inv (pc' := 1415) hcs kX12_unlike vX12_unlike lk_L_145 ⟨Nat.le_of_ble_eq_true rfl, Nat.le_of_ble_eq_true rfl⟩ tb0 vq12 rfl [_, _, _] (s_X12_unlike (κ := _) hR (Fr.rf hS) _ ⟨e1401.1, e1401.2⟩ _ ⟨e1406.1, e1406.2⟩ _ ⟨e1411.1, e1411.2⟩) dL_1412 rfl (Nat.le_of_ble_eq_true rfl) rfl ?_
  rintro r1412 h1412 ⟨f1412, p1412⟩; replace f1412 := (Fm.rf (L := []) hS hR hC).frq f1412; obtain ⟨-, hS, hR, hC⟩ := f1412
  show zL _ _ _ (.inl r1412 :: []) _
  refine zL_pop (pc' := 1416) dL_1415 rfl rfl ?_
  refine zL_goto (tgt := 1580) dL_1416 rfl ?_
  exact nx _ hS hR hC
set_option maxHeartbeats 4000000 in
theorem lc_31 {Γ : Lc} {i : Int} {h : Hp} (hX : XI Γ.1) (hcs : Γ.2.2.2.2.2.1 ≤ room_1.cells ∧ Γ.2.2.2.2.2.2 ≤ room_1.slots) (hm : Γ.2.2.1 < 2147483648) (hi : 0 ≤ i ∧ i + 6 ≤ Γ.2.2.1) (hS : SI h) (hR : KR h) (hC : KC h) (nx : ∀ h' : Hp, SI h' → KR h' → KC h' → zL Γ 1580 (lsL i) [] h') : zL Γ 1419 (lsL i) [] h := by
  refine zL_aload_n (pc' := 1420) dL_1419 rfl rfl ?_
  refine zL_aload_n (pc' := 1421) dL_1420 rfl rfl ?_
  refine zL_iload_n (pc' := 1422) dL_1421 rfl rfl ?_
  refine zL_iconst (pc' := 1423) dL_1422 rfl ?_
  refine zL_iadd (pc' := 1424) dL_1423 rfl ?_
  refine zL_sld (pc' := 1425) (by omega) hm dL_1424 rfl (fun v1424 e1424 => ?_)
  refine zL_aload_n (pc' := 1426) dL_1425 rfl rfl ?_
  refine zL_iload_n (pc' := 1427) dL_1426 rfl rfl ?_
  refine zL_iconst (pc' := 1428) dL_1427 rfl ?_
  refine zL_iadd (pc' := 1429) dL_1428 rfl ?_
  refine zL_sld (pc' := 1430) (by omega) hm dL_1429 rfl (fun v1429 e1429 => ?_)
  refine zL_inv (pc' := 1433) hcs kX11_without vX11_without lk_L_146 ⟨Nat.le_of_ble_eq_true rfl, Nat.le_of_ble_eq_true rfl⟩ tb30 vq11 rfl [_, _] (s_X11_without (b := true) (κ := _) hC (Fr.rf hS) _ ⟨e1424.1, e1424.2⟩ _ ⟨e1429.1, e1429.2⟩) dL_1430 rfl (Nat.le_of_ble_eq_true rfl) rfl ?_
  rintro r1430 h1430 ⟨f1430, p1430⟩; replace f1430 := (Fm.rf (L := []) hS hR hC).frq f1430; obtain ⟨-, hS, hR, hC⟩ := f1430
  show zL _ _ _ (.inl r1430 :: []) _
  refine zL_pop (pc' := 1434) dL_1433 rfl rfl ?_
  refine zL_aload_n (pc' := 1435) dL_1434 rfl rfl ?_
  refine zL_aload_n (pc' := 1436) dL_1435 rfl rfl ?_
  refine zL_iload_n (pc' := 1437) dL_1436 rfl rfl ?_
  refine zL_iconst (pc' := 1438) dL_1437 rfl ?_
  refine zL_iadd (pc' := 1439) dL_1438 rfl ?_
  refine zL_sld (pc' := 1440) (by omega) hm dL_1439 rfl (fun v1439 e1439 => ?_)
  refine zL_aload_n (pc' := 1441) dL_1440 rfl rfl ?_
  refine zL_iload_n (pc' := 1442) dL_1441 rfl rfl ?_
  refine zL_iconst (pc' := 1443) dL_1442 rfl ?_
  refine zL_iadd (pc' := 1444) dL_1443 rfl ?_
  refine zL_sld (pc' := 1445) (by omega) hm dL_1444 rfl (fun v1444 e1444 => ?_)
  refine zL_inv (pc' := 1448) hcs kX12_without vX12_without lk_L_149 ⟨Nat.le_of_ble_eq_true rfl, Nat.le_of_ble_eq_true rfl⟩ tb0 vq12 rfl [_, _] (s_X12_without (κ := _) hR (Fr.rf hS) _ ⟨e1439.1, e1439.2⟩ _ ⟨e1444.1, e1444.2⟩) dL_1445 rfl (Nat.le_of_ble_eq_true rfl) rfl ?_
  rintro r1445 h1445 ⟨f1445, p1445⟩; replace f1445 := (Fm.rf (L := []) hS hR hC).frq f1445; obtain ⟨-, hS, hR, hC⟩ := f1445
  show zL _ _ _ (.inl r1445 :: []) _
  refine zL_pop (pc' := 1449) dL_1448 rfl rfl ?_
  refine zL_goto (tgt := 1580) dL_1449 rfl ?_
  exact nx _ hS hR hC
set_option maxHeartbeats 4000000 in
theorem lc_32 {Γ : Lc} {i : Int} {h : Hp} (hX : XI Γ.1) (hcs : Γ.2.2.2.2.2.1 ≤ room_1.cells ∧ Γ.2.2.2.2.2.2 ≤ room_1.slots) (hm : Γ.2.2.1 < 2147483648) (hi : 0 ≤ i ∧ i + 6 ≤ Γ.2.2.1) (hS : SI h) (hR : KR h) (hC : KC h) (nx : ∀ h' : Hp, SI h' → KR h' → KC h' → zL Γ 1580 (lsL i) [] h') : zL Γ 1452 (lsL i) [] h := by
  refine zL_aload_n (pc' := 1453) dL_1452 rfl rfl ?_
  refine zL_aload_n (pc' := 1454) dL_1453 rfl rfl ?_
  refine zL_iload_n (pc' := 1455) dL_1454 rfl rfl ?_
  refine zL_iconst (pc' := 1456) dL_1455 rfl ?_
  refine zL_iadd (pc' := 1457) dL_1456 rfl ?_
  refine zL_sld (pc' := 1458) (by omega) hm dL_1457 rfl (fun v1457 e1457 => ?_)
  refine zL_aload_n (pc' := 1459) dL_1458 rfl rfl ?_
  refine zL_iload_n (pc' := 1460) dL_1459 rfl rfl ?_
  refine zL_iconst (pc' := 1461) dL_1460 rfl ?_
  refine zL_iadd (pc' := 1462) dL_1461 rfl ?_
  refine zL_sld (pc' := 1463) (by omega) hm dL_1462 rfl (fun v1462 e1462 => ?_)
  refine zL_inv (pc' := 1466) hcs kX11_best vX11_best lk_L_150 ⟨Nat.le_of_ble_eq_true rfl, Nat.le_of_ble_eq_true rfl⟩ tb30 vq11 rfl [_, _] (s_X11_best (b := true) (κ := _) hC (Fr.rf hS) _ ⟨e1457.1, e1457.2⟩ _ ⟨e1462.1, e1462.2⟩ hX) dL_1463 rfl (Nat.le_of_ble_eq_true rfl) rfl ?_
  rintro r1463 h1463 ⟨f1463, p1463⟩; replace f1463 := (Fm.rf (L := []) hS hR hC).frq f1463; obtain ⟨-, hS, hR, hC⟩ := f1463
  show zL _ _ _ (.inl r1463 :: []) _
  refine zL_pop (pc' := 1467) dL_1466 rfl rfl ?_
  refine zL_aload_n (pc' := 1468) dL_1467 rfl rfl ?_
  refine zL_aload_n (pc' := 1469) dL_1468 rfl rfl ?_
  refine zL_iload_n (pc' := 1470) dL_1469 rfl rfl ?_
  refine zL_iconst (pc' := 1471) dL_1470 rfl ?_
  refine zL_iadd (pc' := 1472) dL_1471 rfl ?_
  refine zL_sld (pc' := 1473) (by omega) hm dL_1472 rfl (fun v1472 e1472 => ?_)
  refine zL_aload_n (pc' := 1474) dL_1473 rfl rfl ?_
  refine zL_iload_n (pc' := 1475) dL_1474 rfl rfl ?_
  refine zL_iconst (pc' := 1476) dL_1475 rfl ?_
  refine zL_iadd (pc' := 1477) dL_1476 rfl ?_
  refine zL_sld (pc' := 1478) (by omega) hm dL_1477 rfl (fun v1477 e1477 => ?_)
  refine zL_inv (pc' := 1481) hcs kX12_best vX12_best lk_L_153 ⟨Nat.le_of_ble_eq_true rfl, Nat.le_of_ble_eq_true rfl⟩ tb0 vq12 rfl [_, _] (s_X12_best (κ := _) hR (Fr.rf hS) _ ⟨e1472.1, e1472.2⟩ _ ⟨e1477.1, e1477.2⟩) dL_1478 rfl (Nat.le_of_ble_eq_true rfl) rfl ?_
  rintro r1478 h1478 ⟨f1478, p1478⟩; replace f1478 := (Fm.rf (L := []) hS hR hC).frq f1478; obtain ⟨-, hS, hR, hC⟩ := f1478
  show zL _ _ _ (.inl r1478 :: []) _
  refine zL_pop (pc' := 1482) dL_1481 rfl rfl ?_
  refine zL_goto (tgt := 1580) dL_1482 rfl ?_
  exact nx _ hS hR hC
set_option maxHeartbeats 4000000 in
theorem lc_33 {Γ : Lc} {i : Int} {h : Hp} (hX : XI Γ.1) (hcs : Γ.2.2.2.2.2.1 ≤ room_1.cells ∧ Γ.2.2.2.2.2.2 ≤ room_1.slots) (hm : Γ.2.2.1 < 2147483648) (hi : 0 ≤ i ∧ i + 6 ≤ Γ.2.2.1) (hS : SI h) (hR : KR h) (hC : KC h) (nx : ∀ h' : Hp, SI h' → KR h' → KC h' → zL Γ 1580 (lsL i) [] h') : zL Γ 1485 (lsL i) [] h := by
  refine zL_aload_n (pc' := 1486) dL_1485 rfl rfl ?_
  refine zL_aload_n (pc' := 1487) dL_1486 rfl rfl ?_
  refine zL_iload_n (pc' := 1488) dL_1487 rfl rfl ?_
  refine zL_iconst (pc' := 1489) dL_1488 rfl ?_
  refine zL_iadd (pc' := 1490) dL_1489 rfl ?_
  refine zL_sldE (pc' := 1491) (by omega) hm dL_1490 rfl (fun v1490 e1490 q1490 => ?_)
  refine zL_inv (pc' := 1494) hcs kX11_seed vX11_seed lk_L_154 ⟨Nat.le_of_ble_eq_true rfl, Nat.le_of_ble_eq_true rfl⟩ tb30 vq11 rfl [_] (s_X11_seed hS hR hC _ ⟨e1490.1, e1490.2⟩) dL_1491 rfl (Nat.le_of_ble_eq_true rfl) rfl ?_
  rintro r1491 h1491 ⟨f1491, p1491⟩; obtain ⟨-, hS, hR, hC⟩ := f1491
  show zL _ _ _ (.inl r1491 :: []) _
  refine zL_aload_n (pc' := 1495) dL_1494 rfl rfl ?_
  refine zL_aload_n (pc' := 1496) dL_1495 rfl rfl ?_
  refine zL_iload_n (pc' := 1497) dL_1496 rfl rfl ?_
  refine zL_iconst (pc' := 1498) dL_1497 rfl ?_
  refine zL_iadd (pc' := 1499) dL_1498 rfl ?_
  refine zL_sldE (pc' := 1500) (by omega) hm dL_1499 rfl (fun v1499 e1499 q1499 => ?_)
  refine zL_inv (pc' := 1503) hcs kX12_seed vX12_seed lk_L_157 ⟨Nat.le_of_ble_eq_true rfl, Nat.le_of_ble_eq_true rfl⟩ tb0 vq12 rfl [_] (s_X12_seed hS hR hC _ ⟨e1499.1, e1499.2⟩) dL_1500 rfl (Nat.le_of_ble_eq_true rfl) rfl ?_
  rintro r1500 h1500 ⟨f1500, p1500⟩; obtain ⟨-, hS, hR, hC⟩ := f1500
  show zL _ _ _ (.inl r1500 :: .inl r1491 :: []) _
  refine zL_cm_eq (tgt := 1580) dL_1503 rfl (by rw [q1490] at p1491; rw [q1499] at p1500; omega) ?_
  exact nx _ hS hR hC
set_option maxHeartbeats 4000000 in
theorem lc_34 {Γ : Lc} {i : Int} {h : Hp} (hX : XI Γ.1) (hcs : Γ.2.2.2.2.2.1 ≤ room_1.cells ∧ Γ.2.2.2.2.2.2 ≤ room_1.slots) (hm : Γ.2.2.1 < 2147483648) (hi : 0 ≤ i ∧ i + 6 ≤ Γ.2.2.1) (hS : SI h) (hR : KR h) (hC : KC h) (nx : ∀ h' : Hp, SI h' → KR h' → KC h' → zL Γ 1580 (lsL i) [] h') : zL Γ 1508 (lsL i) [] h := by
  refine zL_aload_n (pc' := 1509) dL_1508 rfl rfl ?_
  refine zL_inv (pc' := 1512) hcs kX11_keep vX11_keep lk_L_158 ⟨Nat.le_of_ble_eq_true rfl, Nat.le_of_ble_eq_true rfl⟩ tb30 vq11 rfl [] (s_X11_keep hS hR hC) dL_1509 rfl (Nat.le_of_ble_eq_true rfl) rfl ?_
  rintro r1509 h1509 ⟨f1509, p1509⟩; obtain ⟨-, hS, hR, hC⟩ := f1509
  show zL _ _ _ (.inl r1509 :: []) _
  refine zL_pop (pc' := 1513) dL_1512 rfl rfl ?_
  refine zL_aload_n (pc' := 1514) dL_1513 rfl rfl ?_
  refine zL_inv (pc' := 1517) hcs kX12_keep vX12_keep lk_L_162 ⟨Nat.le_of_ble_eq_true rfl, Nat.le_of_ble_eq_true rfl⟩ tb0 vq12 rfl [] (s_X12_keep hS hR hC) dL_1514 rfl (Nat.le_of_ble_eq_true rfl) rfl ?_
  rintro r1514 h1514 ⟨f1514, p1514⟩; obtain ⟨-, hS, hR, hC⟩ := f1514
  show zL _ _ _ (.inl r1514 :: []) _
  refine zL_pop (pc' := 1518) dL_1517 rfl rfl ?_
  refine zL_goto (tgt := 1580) dL_1518 rfl ?_
  exact nx _ hS hR hC
set_option maxHeartbeats 4000000 in
theorem lc_35 {Γ : Lc} {i : Int} {h : Hp} (hX : XI Γ.1) (hcs : Γ.2.2.2.2.2.1 ≤ room_1.cells ∧ Γ.2.2.2.2.2.2 ≤ room_1.slots) (hm : Γ.2.2.1 < 2147483648) (hi : 0 ≤ i ∧ i + 6 ≤ Γ.2.2.1) (hS : SI h) (hR : KR h) (hC : KC h) (nx : ∀ h' : Hp, SI h' → KR h' → KC h' → zL Γ 1580 (lsL i) [] h') : zL Γ 1521 (lsL i) [] h := by
  refine zL_aload_n (pc' := 1522) dL_1521 rfl rfl ?_
  refine zL_inv (pc' := 1525) hcs kX11_undo vX11_undo lk_L_163 ⟨Nat.le_of_ble_eq_true rfl, Nat.le_of_ble_eq_true rfl⟩ tb30 vq11 rfl [] (s_X11_undo hS hR hC) dL_1522 rfl (Nat.le_of_ble_eq_true rfl) rfl ?_
  rintro r1522 h1522 ⟨f1522, p1522⟩; obtain ⟨-, hS, hR, hC⟩ := f1522
  show zL _ _ _ (.inl r1522 :: []) _
  refine zL_pop (pc' := 1526) dL_1525 rfl rfl ?_
  refine zL_aload_n (pc' := 1527) dL_1526 rfl rfl ?_
  refine zL_inv (pc' := 1530) hcs kX12_undo vX12_undo lk_L_167 ⟨Nat.le_of_ble_eq_true rfl, Nat.le_of_ble_eq_true rfl⟩ tb0 vq12 rfl [] (s_X12_undo hS hR hC) dL_1527 rfl (Nat.le_of_ble_eq_true rfl) rfl ?_
  rintro r1527 h1527 ⟨f1527, p1527⟩; obtain ⟨-, hS, hR, hC⟩ := f1527
  show zL _ _ _ (.inl r1527 :: []) _
  refine zL_pop (pc' := 1531) dL_1530 rfl rfl ?_
  refine zL_goto (tgt := 1580) dL_1531 rfl ?_
  exact nx _ hS hR hC
set_option maxHeartbeats 4000000 in
theorem lc_36 {Γ : Lc} {i : Int} {h : Hp} (hX : XI Γ.1) (hcs : Γ.2.2.2.2.2.1 ≤ room_1.cells ∧ Γ.2.2.2.2.2.2 ≤ room_1.slots) (hm : Γ.2.2.1 < 2147483648) (hi : 0 ≤ i ∧ i + 6 ≤ Γ.2.2.1) (hS : SI h) (hR : KR h) (hC : KC h) (nx : ∀ h' : Hp, SI h' → KR h' → KC h' → zL Γ 1580 (lsL i) [] h') : zL Γ 1534 (lsL i) [] h := by
  refine zL_aload_n (pc' := 1535) dL_1534 rfl rfl ?_
  refine zL_aload_n (pc' := 1536) dL_1535 rfl rfl ?_
  refine zL_iload_n (pc' := 1537) dL_1536 rfl rfl ?_
  refine zL_iconst (pc' := 1538) dL_1537 rfl ?_
  refine zL_iadd (pc' := 1539) dL_1538 rfl ?_
  refine zL_sld (pc' := 1540) (by omega) hm dL_1539 rfl (fun v1539 e1539 => ?_)
  refine zL_inv (pc' := 1543) hcs kX11_check vX11_check lk_L_168 ⟨Nat.le_of_ble_eq_true rfl, Nat.le_of_ble_eq_true rfl⟩ tb30 vq11 rfl [_] (s_X11_check hS hR hC _ ⟨e1539.1, e1539.2⟩) dL_1540 rfl (Nat.le_of_ble_eq_true rfl) rfl ?_
  rintro r1540 h1540 ⟨f1540, p1540⟩; obtain ⟨-, hS, hR, hC⟩ := f1540
  show zL _ _ _ (.inl r1540 :: []) _
  refine zL_pop (pc' := 1544) dL_1543 rfl rfl ?_
  refine zL_aload_n (pc' := 1545) dL_1544 rfl rfl ?_
  refine zL_aload_n (pc' := 1546) dL_1545 rfl rfl ?_
  refine zL_iload_n (pc' := 1547) dL_1546 rfl rfl ?_
  refine zL_iconst (pc' := 1548) dL_1547 rfl ?_
  refine zL_iadd (pc' := 1549) dL_1548 rfl ?_
  refine zL_sld (pc' := 1550) (by omega) hm dL_1549 rfl (fun v1549 e1549 => ?_)
  refine zL_inv (pc' := 1553) hcs kX12_check vX12_check lk_L_171 ⟨Nat.le_of_ble_eq_true rfl, Nat.le_of_ble_eq_true rfl⟩ tb0 vq12 rfl [_] (s_X12_check hS hR hC _ ⟨e1549.1, e1549.2⟩) dL_1550 rfl (Nat.le_of_ble_eq_true rfl) rfl ?_
  rintro r1550 h1550 ⟨f1550, p1550⟩; obtain ⟨-, hS, hR, hC⟩ := f1550
  show zL _ _ _ (.inl r1550 :: []) _
  refine zL_pop (pc' := 1554) dL_1553 rfl rfl ?_
  refine zL_goto (tgt := 1580) dL_1554 rfl ?_
  exact nx _ hS hR hC
set_option maxHeartbeats 4000000 in
theorem lc_37 {Γ : Lc} {i : Int} {h : Hp} (hX : XI Γ.1) (hcs : Γ.2.2.2.2.2.1 ≤ room_1.cells ∧ Γ.2.2.2.2.2.2 ≤ room_1.slots) (hm : Γ.2.2.1 < 2147483648) (hi : 0 ≤ i ∧ i + 6 ≤ Γ.2.2.1) (hS : SI h) (hR : KR h) (hC : KC h) (nx : ∀ h' : Hp, SI h' → KR h' → KC h' → zL Γ 1580 (lsL i) [] h') : zL Γ 1557 (lsL i) [] h := by
  refine zL_aload_n (pc' := 1558) dL_1557 rfl rfl ?_
  refine zL_aload_n (pc' := 1559) dL_1558 rfl rfl ?_
  refine zL_iload_n (pc' := 1560) dL_1559 rfl rfl ?_
  refine zL_iconst (pc' := 1561) dL_1560 rfl ?_
  refine zL_iadd (pc' := 1562) dL_1561 rfl ?_
  refine zL_sld (pc' := 1563) (by omega) hm dL_1562 rfl (fun v1562 e1562 => ?_)
  refine zL_inv (pc' := 1566) hcs kX11_count vX11_count lk_L_172 ⟨Nat.le_of_ble_eq_true rfl, Nat.le_of_ble_eq_true rfl⟩ tb30 vq11 rfl [_] (s_X11_count (b := true) (κ := _) hC (Fr.rf hS) _ ⟨e1562.1, e1562.2⟩) dL_1563 rfl (Nat.le_of_ble_eq_true rfl) rfl ?_
  rintro r1563 z1563 ⟨hz1563, p1563⟩; subst z1563
  show zL _ _ _ (.inl r1563 :: []) _
  refine zL_pop (pc' := 1567) dL_1566 rfl rfl ?_
  refine zL_aload_n (pc' := 1568) dL_1567 rfl rfl ?_
  refine zL_aload_n (pc' := 1569) dL_1568 rfl rfl ?_
  refine zL_iload_n (pc' := 1570) dL_1569 rfl rfl ?_
  refine zL_iconst (pc' := 1571) dL_1570 rfl ?_
  refine zL_iadd (pc' := 1572) dL_1571 rfl ?_
  refine zL_sld (pc' := 1573) (by omega) hm dL_1572 rfl (fun v1572 e1572 => ?_)
  refine zL_inv (pc' := 1576) hcs kX12_count vX12_count lk_L_175 ⟨Nat.le_of_ble_eq_true rfl, Nat.le_of_ble_eq_true rfl⟩ tb0 vq12 rfl [_] (s_X12_count (b := true) (κ := _) hR (Fr.rf hS) _ ⟨e1572.1, e1572.2⟩) dL_1573 rfl (Nat.le_of_ble_eq_true rfl) rfl ?_
  rintro r1573 z1573 ⟨hz1573, p1573⟩; subst z1573
  show zL _ _ _ (.inl r1573 :: []) _
  refine zL_pop (pc' := 1577) dL_1576 rfl rfl ?_
  refine zL_goto (tgt := 1580) dL_1577 rfl ?_
  exact nx _ hS hR hC
