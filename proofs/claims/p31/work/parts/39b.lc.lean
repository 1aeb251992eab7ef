/-! the law's cases, further -/
set_option maxHeartbeats 4000000 in
theorem lc_2 {Γ : Lc} {i : Int} {h : Hp} (hX : XI Γ.1) (hcs : Γ.2.2.2.2.2.1 ≤ room_1.cells ∧ Γ.2.2.2.2.2.2 ≤ room_1.slots) (hm : Γ.2.2.1 < 2147483648) (hi : 0 ≤ i ∧ i + 6 ≤ Γ.2.2.1) (hS : SI h) (hR : KR h) (hC : KC h) (hT : TI h) (gA : TGA h) (gB : TGB h) (gC : TGC h) (gD : TGD h) (gR : TGR h) (gV : TGV h) (gE : TGE h) (gS : TGS h) (gP : TGP h) (gF : TGF h) (nx : ∀ h' : Hp, SI h' → KR h' → KC h' → TI h' → TGA h' → TGB h' → TGC h' → TGD h' → TGR h' → TGV h' → TGE h' → TGS h' → TGP h' → TGF h' → zL Γ 1580 (lsL i) [] h') : zL Γ 286 (lsL i) [] h := by
  refine zL_aload_n (pc' := 287) dL_286 rfl rfl ?_
  refine zL_aload_n (pc' := 288) dL_287 rfl rfl ?_
  refine zL_iload_n (pc' := 289) dL_288 rfl rfl ?_
  refine zL_iconst (pc' := 290) dL_289 rfl ?_
  refine zL_iadd (pc' := 291) dL_290 rfl ?_
  refine zL_sldE (pc' := 292) (by omega) hm dL_291 rfl (fun v291 e291 q291 => ?_)
  refine zL_aload_n (pc' := 293) dL_292 rfl rfl ?_
  refine zL_iload_n (pc' := 294) dL_293 rfl rfl ?_
  refine zL_iconst (pc' := 295) dL_294 rfl ?_
  refine zL_iadd (pc' := 296) dL_295 rfl ?_
  refine zL_sldE (pc' := 297) (by omega) hm dL_296 rfl (fun v296 e296 q296 => ?_)
  refine zL_aload_n (pc' := 298) dL_297 rfl rfl ?_
  refine zL_iload_n (pc' := 299) dL_298 rfl rfl ?_
  refine zL_iconst (pc' := 300) dL_299 rfl ?_
  refine zL_iadd (pc' := 301) dL_300 rfl ?_
  refine zL_sldE (pc' := 302) (by omega) hm dL_301 rfl (fun v301 e301 q301 => ?_)
  refine zL_inv (pc' := 305) hcs kX11_raw vX11_raw lk_L_23 ⟨Nat.le_of_ble_eq_true rfl, Nat.le_of_ble_eq_true rfl⟩ tb30 vq11 rfl [_, _, _] (s_X11_rawE hS hR hC _ ⟨e291.1, e291.2⟩ _ ⟨e296.1, e296.2⟩ _ ⟨e301.1, e301.2⟩) dL_302 rfl (Nat.le_of_ble_eq_true rfl) rfl ?_
  have hC_302 := hC
  rintro r302 h302 ⟨f302, p302⟩; have F302 := f302; obtain ⟨g302, hS, hR, hC⟩ := f302
  obtain ⟨p302, ch302⟩ := p302
  have pR302 : PicRW h302 := PicRW_un (UnR.rf.fm F302 rfl) gP.1
  have pC302 : PicCW h302 := PicCW_ch hC_302 hC ch302 gP.2
  obtain ⟨p302_0, p302_1, p302_2, a302_0⟩ := p302
  have y302_0_25 : h302 0 25 = h 0 25 := g302 0 25 rfl rfl
  have y302_31_1 : h302 31 1 = h 31 1 := g302 31 1 rfl rfl
  have y302_0_11 : h302 0 11 = h 0 11 := g302 0 11 rfl rfl
  have y302_0_12 : h302 0 12 = h 0 12 := g302 0 12 rfl rfl
  have y302_0_13 : h302 0 13 = h 0 13 := g302 0 13 rfl rfl
  have y302_30_11 : h302 30 11 = h 30 11 := g302 30 11 rfl rfl
  have y302_0_22 : h302 0 22 = h 0 22 := g302 0 22 rfl rfl
  have y302_36_0 : h302 36 0 = h 36 0 := g302 36 0 rfl rfl
  have y302_36_1 : h302 36 1 = h 36 1 := g302 36 1 rfl rfl
  have y302_36_2 : h302 36 2 = h 36 2 := g302 36 2 rfl rfl
  have y302_0_16 : h302 0 16 = h 0 16 := g302 0 16 rfl rfl
  have y302_0_17 : h302 0 17 = h 0 17 := g302 0 17 rfl rfl
  have y302_0_18 : h302 0 18 = h 0 18 := g302 0 18 rfl rfl
  have y302_0_14 : h302 0 14 = h 0 14 := g302 0 14 rfl rfl
  have y302_0_15 : h302 0 15 = h 0 15 := g302 0 15 rfl rfl
  have y302_0_19 : h302 0 19 = h 0 19 := g302 0 19 rfl rfl
  have y302_0_20 : h302 0 20 = h 0 20 := g302 0 20 rfl rfl
  have y302_30_10 : h302 30 10 = h 30 10 := g302 30 10 rfl rfl
  have y302_30_12 : h302 30 12 = h 30 12 := g302 30 12 rfl rfl
  have y302_41_0 : h302 41 0 = h 41 0 := g302 41 0 rfl rfl
  have y302_41_1 : h302 41 1 = h 41 1 := g302 41 1 rfl rfl
  have y302_45_0 : h302 45 0 = h 45 0 := g302 45 0 rfl rfl
  have y302_45_1 : h302 45 1 = h 45 1 := g302 45 1 rfl rfl
  have hT1 := hT; have gA1 := gA; have gB1 := gB; have gC1 := gC; have gD1 := gD; have gR1 := gR; have gV1 := gV; have gE1 := gE; have gS1 := gS; have gP1 := gP; have gF1 := gF
  show zL _ _ _ (.inl r302 :: []) _
  refine zL_pop (pc' := 306) dL_305 rfl rfl ?_
  refine zL_aload_n (pc' := 307) dL_306 rfl rfl ?_
  refine zL_aload_n (pc' := 308) dL_307 rfl rfl ?_
  refine zL_iload_n (pc' := 309) dL_308 rfl rfl ?_
  refine zL_iconst (pc' := 310) dL_309 rfl ?_
  refine zL_iadd (pc' := 311) dL_310 rfl ?_
  refine zL_sldE (pc' := 312) (by omega) hm dL_311 rfl (fun v311 e311 q311 => ?_)
  refine zL_aload_n (pc' := 313) dL_312 rfl rfl ?_
  refine zL_iload_n (pc' := 314) dL_313 rfl rfl ?_
  refine zL_iconst (pc' := 315) dL_314 rfl ?_
  refine zL_iadd (pc' := 316) dL_315 rfl ?_
  refine zL_sldE (pc' := 317) (by omega) hm dL_316 rfl (fun v316 e316 q316 => ?_)
  refine zL_aload_n (pc' := 318) dL_317 rfl rfl ?_
  refine zL_iload_n (pc' := 319) dL_318 rfl rfl ?_
  refine zL_iconst (pc' := 320) dL_319 rfl ?_
  refine zL_iadd (pc' := 321) dL_320 rfl ?_
  refine zL_sldE (pc' := 322) (by omega) hm dL_321 rfl (fun v321 e321 q321 => ?_)
  refine zL_inv (pc' := 325) hcs kX12_raw vX12_raw lk_L_27 ⟨Nat.le_of_ble_eq_true rfl, Nat.le_of_ble_eq_true rfl⟩ tb0 vq12 rfl [_, _, _] (s_X12_rawE hS hR hC _ ⟨e311.1, e311.2⟩ _ ⟨e316.1, e316.2⟩ _ ⟨e321.1, e321.2⟩) dL_322 rfl (Nat.le_of_ble_eq_true rfl) rfl ?_
  have hC_322 := hC
  rintro r322 h322 ⟨f322, p322⟩; have F322 := f322; obtain ⟨g322, hS, hR, hC⟩ := f322
  obtain ⟨p322, ch322⟩ := p322
  have pR322 : PicRW h322 := PicRW_ch ch322 pR302
  have pC322 : PicCW h322 := PicCW_un (KCm hC_322).2 (UnC.rf.fm F322 rfl) pC302
  obtain ⟨p322_0, p322_1, p322_2, a322_0⟩ := p322
  have y322_0_25 : h322 0 25 = h302 0 25 := g322 0 25 rfl rfl
  have y322_31_1 : h322 31 1 = h302 31 1 := g322 31 1 rfl rfl
  have y322_33_0 : h322 33 0 = h302 33 0 := g322 33 0 rfl rfl
  have y322_33_1 : h322 33 1 = h302 33 1 := g322 33 1 rfl rfl
  have y322_33_2 : h322 33 2 = h302 33 2 := g322 33 2 rfl rfl
  have y322_30_11 : h322 30 11 = h302 30 11 := g322 30 11 rfl rfl
  have y322_0_22 : h322 0 22 = h302 0 22 := g322 0 22 rfl rfl
  have y322_36_0 : h322 36 0 = h302 36 0 := g322 36 0 rfl rfl
  have y322_36_1 : h322 36 1 = h302 36 1 := g322 36 1 rfl rfl
  have y322_36_2 : h322 36 2 = h302 36 2 := g322 36 2 rfl rfl
  have y322_0_16 : h322 0 16 = h302 0 16 := g322 0 16 rfl rfl
  have y322_0_17 : h322 0 17 = h302 0 17 := g322 0 17 rfl rfl
  have y322_0_18 : h322 0 18 = h302 0 18 := g322 0 18 rfl rfl
  have y322_0_14 : h322 0 14 = h302 0 14 := g322 0 14 rfl rfl
  have y322_0_15 : h322 0 15 = h302 0 15 := g322 0 15 rfl rfl
  have y322_0_19 : h322 0 19 = h302 0 19 := g322 0 19 rfl rfl
  have y322_0_20 : h322 0 20 = h302 0 20 := g322 0 20 rfl rfl
  have y322_30_10 : h322 30 10 = h302 30 10 := g322 30 10 rfl rfl
  have y322_30_12 : h322 30 12 = h302 30 12 := g322 30 12 rfl rfl
  have y322_41_0 : h322 41 0 = h302 41 0 := g322 41 0 rfl rfl
  have y322_41_1 : h322 41 1 = h302 41 1 := g322 41 1 rfl rfl
  have y322_45_0 : h322 45 0 = h302 45 0 := g322 45 0 rfl rfl
  have y322_45_1 : h322 45 1 = h302 45 1 := g322 45 1 rfl rfl
  have qe311 : v311 = v291 := by rw [q311, q291]
  have qe316 : v316 = v296 := by rw [q316, q296]
  have qe321 : v321 = v301 := by rw [q321, q301]
  replace hT : TI h322 := by
    have hT2 := hT1
    unfold TI at hT2 ⊢
    omega
  replace gA : TGA h322 := by
    have hT2 := hT1
    unfold TI at hT2
    have k1 := KRw hR; have k2 := KRh hR
    clear hcs hm hi
    refine ⟨fun j hj => ?_, fun q j hj => ?_⟩
    · have d1 := gA1.1 j hj; have f302_1 := g302 1 j rfl rfl; have f302_10 := g302 10 j rfl rfl; have fa302_0 := a302_0 j; have f322_34 := g322 34 j rfl rfl; have f322_35 := g322 35 j rfl rfl; have fa322_0 := a322_0 j; omega
    · have d2 : h 0 22 ≠ 0 → _ := fun z => gA1.2 z j hj; have f302_6 := g302 6 j rfl rfl; have f302_37 := g302 37 j rfl rfl; have f302_11 := g302 11 j rfl rfl; have f302_38 := g302 38 j rfl rfl; have f322_6 := g322 6 j rfl rfl; have f322_37 := g322 37 j rfl rfl; have f322_11 := g322 11 j rfl rfl; have f322_38 := g322 38 j rfl rfl; omega
  replace gB : TGB h322 := TGB_of gB1 (fun j => (g322 12 j rfl rfl).trans (g302 12 j rfl rfl)) (fun j => (g322 32 j rfl rfl).trans (g302 32 j rfl rfl)) ((y322_0_25).trans (y302_0_25))
  replace gC : TGC h322 := by
    have hT2 := hT1
    unfold TI at hT2
    have k1 := KRw hR; have k2 := KRh hR
    clear hcs hm hi
    have d4 := gC1
    unfold TGC at d4 ⊢
    omega
  replace gD : TGD h322 := TGD_of gD1  ((y322_41_0).trans (y302_41_0)) ((y322_0_14).trans (y302_0_14)) ((y322_45_0).trans (y302_45_0)) ((y322_0_19).trans (y302_0_19)) ((y322_0_22).trans (y302_0_22))
  replace gR : TGR h322 := TGR_of gR1 (fun j => (g322 3 j rfl rfl).trans (g302 3 j rfl rfl)) (fun j => (g322 4 j rfl rfl).trans (g302 4 j rfl rfl)) (fun j => (g322 5 j rfl rfl).trans (g302 5 j rfl rfl)) (fun j => (g322 7 j rfl rfl).trans (g302 7 j rfl rfl)) (fun j => (g322 8 j rfl rfl).trans (g302 8 j rfl rfl)) (fun j => (g322 9 j rfl rfl).trans (g302 9 j rfl rfl)) (fun j => (g322 42 j rfl rfl).trans (g302 42 j rfl rfl)) (fun j => (g322 43 j rfl rfl).trans (g302 43 j rfl rfl)) (fun j => (g322 44 j rfl rfl).trans (g302 44 j rfl rfl)) (fun j => (g322 46 j rfl rfl).trans (g302 46 j rfl rfl)) (fun j => (g322 47 j rfl rfl).trans (g302 47 j rfl rfl)) (fun j => (g322 48 j rfl rfl).trans (g302 48 j rfl rfl)) ((y322_0_14).trans (y302_0_14)) ((y322_0_19).trans (y302_0_19)) ((y322_0_22).trans (y302_0_22))
  replace gV : TGV h322 := by
    have hT2 := hT1
    unfold TI at hT2
    have k1 := KRw hR; have k2 := KRh hR
    clear hcs hm hi
    refine ⟨fun j hj => ?_, fun q j hj => ?_⟩
    · have d1 := gV1.1 j hj; have f322_34 := g322 34 j rfl rfl; have fa302_0 := a302_0 j; omega
    · have d2 : h 0 22 ≠ 0 → _ := fun z => gV1.2 z j hj; have f302_37 := g302 37 j rfl rfl; have f322_37 := g322 37 j rfl rfl; omega
  replace gE : TGE h322 := TGE_of gE1 (fun j => (g322 3 j rfl rfl).trans (g302 3 j rfl rfl)) (fun j => (g322 7 j rfl rfl).trans (g302 7 j rfl rfl)) ((y322_0_14).trans (y302_0_14)) ((y322_0_19).trans (y302_0_19)) ((y322_0_22).trans (y302_0_22))
  replace gS : TGS h322 := TGS_of gS1 (fun j => (g322 3 j rfl rfl).trans (g302 3 j rfl rfl)) (fun j => (g322 4 j rfl rfl).trans (g302 4 j rfl rfl)) (fun j => (g322 5 j rfl rfl).trans (g302 5 j rfl rfl)) (fun j => (g322 7 j rfl rfl).trans (g302 7 j rfl rfl)) (fun j => (g322 8 j rfl rfl).trans (g302 8 j rfl rfl)) (fun j => (g322 9 j rfl rfl).trans (g302 9 j rfl rfl)) ((y322_0_14).trans (y302_0_14)) ((y322_0_19).trans (y302_0_19)) ((y322_0_22).trans (y302_0_22))
  replace gP : TGP h322 := by
    have hT2 := hT1
    unfold TI at hT2
    have k1 := KRw hR; have k2 := KRh hR
    clear hcs hm hi
    exact ⟨pR322, pC322⟩
  replace gF : TGF h322 := TGF_of gF1 (fun j => (g322 3 j rfl rfl).trans (g302 3 j rfl rfl)) (fun j => (g322 7 j rfl rfl).trans (g302 7 j rfl rfl)) ((y322_41_1).trans (y302_41_1)) ((y322_0_14).trans (y302_0_14)) ((y322_45_1).trans (y302_45_1)) ((y322_0_19).trans (y302_0_19)) ((y322_0_22).trans (y302_0_22))
  show zL _ _ _ (.inl r322 :: []) _
  refine zL_pop (pc' := 326) dL_325 rfl rfl ?_
  refine zL_goto (tgt := 1580) dL_326 rfl ?_
  exact nx _ hS hR hC hT gA gB gC gD gR gV gE gS gP gF
set_option maxHeartbeats 4000000 in
theorem lc_3 {Γ : Lc} {i : Int} {h : Hp} (hX : XI Γ.1) (hcs : Γ.2.2.2.2.2.1 ≤ room_1.cells ∧ Γ.2.2.2.2.2.2 ≤ room_1.slots) (hm : Γ.2.2.1 < 2147483648) (hi : 0 ≤ i ∧ i + 6 ≤ Γ.2.2.1) (hS : SI h) (hR : KR h) (hC : KC h) (hT : TI h) (gA : TGA h) (gB : TGB h) (gC : TGC h) (gD : TGD h) (gR : TGR h) (gV : TGV h) (gE : TGE h) (gS : TGS h) (gP : TGP h) (gF : TGF h) (nx : ∀ h' : Hp, SI h' → KR h' → KC h' → TI h' → TGA h' → TGB h' → TGC h' → TGD h' → TGR h' → TGV h' → TGE h' → TGS h' → TGP h' → TGF h' → zL Γ 1580 (lsL i) [] h') : zL Γ 329 (lsL i) [] h := by
  refine zL_aload_n (pc' := 330) dL_329 rfl rfl ?_
  refine zL_aload_n (pc' := 331) dL_330 rfl rfl ?_
  refine zL_iload_n (pc' := 332) dL_331 rfl rfl ?_
  refine zL_iconst (pc' := 333) dL_332 rfl ?_
  refine zL_iadd (pc' := 334) dL_333 rfl ?_
  refine zL_sldE (pc' := 335) (by omega) hm dL_334 rfl (fun v334 e334 q334 => ?_)
  refine zL_inv (pc' := 338) hcs kX11_row vX11_row lk_L_28 ⟨Nat.le_of_ble_eq_true rfl, Nat.le_of_ble_eq_true rfl⟩ tb30 vq11 rfl [_] (s_X11_rowE hS hR hC _ ⟨e334.1, e334.2⟩) dL_335 rfl (Nat.le_of_ble_eq_true rfl) rfl ?_
  have hC_335 := hC
  rintro r335 h335 ⟨f335, p335⟩; have F335 := f335; obtain ⟨g335, hS, hR, hC⟩ := f335
  obtain ⟨p335, ch335⟩ := p335
  have pR335 : PicRW h335 := PicRW_un (UnR.rf.fm F335 rfl) gP.1
  have pC335 : PicCW h335 := PicCW_ch hC_335 hC ch335 gP.2
  obtain ⟨p335_0, p335_1, p335_2, a335_0⟩ := p335
  have y335_0_25 : h335 0 25 = h 0 25 := g335 0 25 rfl rfl
  have y335_33_0 : h335 33 0 = h 33 0 := g335 33 0 rfl rfl
  have y335_33_1 : h335 33 1 = h 33 1 := g335 33 1 rfl rfl
  have y335_33_2 : h335 33 2 = h 33 2 := g335 33 2 rfl rfl
  have y335_0_11 : h335 0 11 = h 0 11 := g335 0 11 rfl rfl
  have y335_0_12 : h335 0 12 = h 0 12 := g335 0 12 rfl rfl
  have y335_0_13 : h335 0 13 = h 0 13 := g335 0 13 rfl rfl
  have y335_30_11 : h335 30 11 = h 30 11 := g335 30 11 rfl rfl
  have y335_0_22 : h335 0 22 = h 0 22 := g335 0 22 rfl rfl
  have y335_36_0 : h335 36 0 = h 36 0 := g335 36 0 rfl rfl
  have y335_36_1 : h335 36 1 = h 36 1 := g335 36 1 rfl rfl
  have y335_36_2 : h335 36 2 = h 36 2 := g335 36 2 rfl rfl
  have y335_0_16 : h335 0 16 = h 0 16 := g335 0 16 rfl rfl
  have y335_0_17 : h335 0 17 = h 0 17 := g335 0 17 rfl rfl
  have y335_0_18 : h335 0 18 = h 0 18 := g335 0 18 rfl rfl
  have y335_0_14 : h335 0 14 = h 0 14 := g335 0 14 rfl rfl
  have y335_0_15 : h335 0 15 = h 0 15 := g335 0 15 rfl rfl
  have y335_0_19 : h335 0 19 = h 0 19 := g335 0 19 rfl rfl
  have y335_0_20 : h335 0 20 = h 0 20 := g335 0 20 rfl rfl
  have y335_30_10 : h335 30 10 = h 30 10 := g335 30 10 rfl rfl
  have y335_30_12 : h335 30 12 = h 30 12 := g335 30 12 rfl rfl
  have y335_41_0 : h335 41 0 = h 41 0 := g335 41 0 rfl rfl
  have y335_41_1 : h335 41 1 = h 41 1 := g335 41 1 rfl rfl
  have y335_45_0 : h335 45 0 = h 45 0 := g335 45 0 rfl rfl
  have y335_45_1 : h335 45 1 = h 45 1 := g335 45 1 rfl rfl
  have hT1 := hT; have gA1 := gA; have gB1 := gB; have gC1 := gC; have gD1 := gD; have gR1 := gR; have gV1 := gV; have gE1 := gE; have gS1 := gS; have gP1 := gP; have gF1 := gF
  show zL _ _ _ (.inl r335 :: []) _
  refine zL_pop (pc' := 339) dL_338 rfl rfl ?_
  refine zL_aload_n (pc' := 340) dL_339 rfl rfl ?_
  refine zL_aload_n (pc' := 341) dL_340 rfl rfl ?_
  refine zL_iload_n (pc' := 342) dL_341 rfl rfl ?_
  refine zL_iconst (pc' := 343) dL_342 rfl ?_
  refine zL_iadd (pc' := 344) dL_343 rfl ?_
  refine zL_sldE (pc' := 345) (by omega) hm dL_344 rfl (fun v344 e344 q344 => ?_)
  refine zL_inv (pc' := 348) hcs kX12_row vX12_row lk_L_32 ⟨Nat.le_of_ble_eq_true rfl, Nat.le_of_ble_eq_true rfl⟩ tb0 vq12 rfl [_] (s_X12_rowE hS hR hC _ ⟨e344.1, e344.2⟩) dL_345 rfl (Nat.le_of_ble_eq_true rfl) rfl ?_
  have hC_345 := hC
  rintro r345 h345 ⟨f345, p345⟩; have F345 := f345; obtain ⟨g345, hS, hR, hC⟩ := f345
  obtain ⟨p345, ch345⟩ := p345
  have pR345 : PicRW h345 := PicRW_ch ch345 pR335
  have pC345 : PicCW h345 := PicCW_un (KCm hC_345).2 (UnC.rf.fm F345 rfl) pC335
  obtain ⟨p345_0, p345_1, p345_2, a345_0⟩ := p345
  have y345_31_1 : h345 31 1 = h335 31 1 := g345 31 1 rfl rfl
  have y345_33_0 : h345 33 0 = h335 33 0 := g345 33 0 rfl rfl
  have y345_33_1 : h345 33 1 = h335 33 1 := g345 33 1 rfl rfl
  have y345_33_2 : h345 33 2 = h335 33 2 := g345 33 2 rfl rfl
  have y345_0_11 : h345 0 11 = h335 0 11 := g345 0 11 rfl rfl
  have y345_0_12 : h345 0 12 = h335 0 12 := g345 0 12 rfl rfl
  have y345_0_13 : h345 0 13 = h335 0 13 := g345 0 13 rfl rfl
  have y345_30_11 : h345 30 11 = h335 30 11 := g345 30 11 rfl rfl
  have y345_0_22 : h345 0 22 = h335 0 22 := g345 0 22 rfl rfl
  have y345_36_0 : h345 36 0 = h335 36 0 := g345 36 0 rfl rfl
  have y345_36_1 : h345 36 1 = h335 36 1 := g345 36 1 rfl rfl
  have y345_36_2 : h345 36 2 = h335 36 2 := g345 36 2 rfl rfl
  have y345_0_16 : h345 0 16 = h335 0 16 := g345 0 16 rfl rfl
  have y345_0_17 : h345 0 17 = h335 0 17 := g345 0 17 rfl rfl
  have y345_0_18 : h345 0 18 = h335 0 18 := g345 0 18 rfl rfl
  have y345_0_14 : h345 0 14 = h335 0 14 := g345 0 14 rfl rfl
  have y345_0_15 : h345 0 15 = h335 0 15 := g345 0 15 rfl rfl
  have y345_0_19 : h345 0 19 = h335 0 19 := g345 0 19 rfl rfl
  have y345_0_20 : h345 0 20 = h335 0 20 := g345 0 20 rfl rfl
  have y345_30_10 : h345 30 10 = h335 30 10 := g345 30 10 rfl rfl
  have y345_30_12 : h345 30 12 = h335 30 12 := g345 30 12 rfl rfl
  have y345_41_0 : h345 41 0 = h335 41 0 := g345 41 0 rfl rfl
  have y345_41_1 : h345 41 1 = h335 41 1 := g345 41 1 rfl rfl
  have y345_45_0 : h345 45 0 = h335 45 0 := g345 45 0 rfl rfl
  have y345_45_1 : h345 45 1 = h335 45 1 := g345 45 1 rfl rfl
  have qe344 : v344 = v334 := by rw [q344, q334]
  replace hT : TI h345 := by
    have hT2 := hT1
    unfold TI at hT2 ⊢
    omega
  replace gA : TGA h345 := by
    have hT2 := hT1
    unfold TI at hT2
    have k1 := KRw hR; have k2 := KRh hR
    clear hcs hm hi
    refine ⟨fun j hj => ?_, fun q j hj => ?_⟩
    · have d1 := gA1.1 j hj; have f335_1 := g335 1 j rfl rfl; have f335_10 := g335 10 j rfl rfl; have f335_35 := g335 35 j rfl rfl; have fa335_0 := a335_0 j; have f345_34 := g345 34 j rfl rfl; have f345_10 := g345 10 j rfl rfl; have f345_35 := g345 35 j rfl rfl; have fa345_0 := a345_0 j; have eb := gB1 (j % 16); have eb12 := g335 12 (j % 16) rfl rfl
      have qv := qe344
      rw [qv, y335_0_11, y335_0_12, y335_0_25, ← hT2.2.1.1, ← hT2.2.1.2.1, ← hT2.1] at p345_2
      rw [qv, y335_0_11, ← hT2.2.1.1, eb12, f335_1] at fa345_0
      refine ⟨by rw [f345_10, f335_10, f345_35, f335_35]; exact d1.1, by rw [y345_0_11, y335_0_11, y345_0_12, y335_0_12, f345_10, f335_10]; exact d1.2.1, ?_⟩
      rw [f345_34]
      rcases p335_2 with ⟨z1, z2, -⟩ | ⟨z1, z2, -⟩ <;> rcases p345_2 with ⟨w1, w2, -⟩ | ⟨w1, w2, -⟩
      · obtain ⟨u1, u2⟩ := fa335_0.1 z1; obtain ⟨o1, o2⟩ := fa345_0.1 w1
        have lw := hT2.1
        by_cases ir : 16 * v334 ≤ (j : Int) ∧ (j : Int) < 16 * v334 + h 33 0
        · rw [o1 ir.1 ir.2, u1 ir.1 ir.2]; have jr : ((j % 16 : Nat) : Int) < h 0 25 := (by have k1c := k1; rw [y345_0_11, y335_0_11, ← hT2.2.1.1] at k1c; clear u1 u2 o1 o2 d1 fa335_0 fa345_0; omega); exact (eb jr).symm
        · rw [o2 ir, u2 ir]; exact d1.2.2
      · exact absurd z2 w2
      · exact absurd w2 z2
      · rw [fa345_0.2 w1, fa335_0.2 z1]; exact d1.2.2
    · have d2 : h 0 22 ≠ 0 → _ := fun z => gA1.2 z j hj; have f335_6 := g335 6 j rfl rfl; have f335_37 := g335 37 j rfl rfl; have f335_11 := g335 11 j rfl rfl; have f335_38 := g335 38 j rfl rfl; have f345_6 := g345 6 j rfl rfl; have f345_37 := g345 37 j rfl rfl; have f345_11 := g345 11 j rfl rfl; have f345_38 := g345 38 j rfl rfl; omega
  replace gB : TGB h345 := by
    have hT2 := hT1
    unfold TI at hT2
    have k1 := KRw hR; have k2 := KRh hR
    clear hcs hm hi
    intro j hj
    have d3 := gB1 j; have f335_12 := g335 12 j rfl rfl; have f335_32 := g335 32 j rfl rfl; have f345_12 := g345 12 j rfl rfl; have f345_32 := g345 32 j rfl rfl; omega
  replace gC : TGC h345 := TGC_of gC1  ((y345_0_15).trans (y335_0_15)) ((y345_30_12).trans (y335_30_12)) ((y345_0_11).trans (y335_0_11)) ((y345_0_12).trans (y335_0_12)) ((y345_0_20).trans (y335_0_20)) ((y345_30_10).trans (y335_30_10)) ((y345_0_16).trans (y335_0_16)) ((y345_0_17).trans (y335_0_17)) ((y345_0_22).trans (y335_0_22))
  replace gD : TGD h345 := TGD_of gD1  ((y345_41_0).trans (y335_41_0)) ((y345_0_14).trans (y335_0_14)) ((y345_45_0).trans (y335_45_0)) ((y345_0_19).trans (y335_0_19)) ((y345_0_22).trans (y335_0_22))
  replace gR : TGR h345 := TGR_of gR1 (fun j => (g345 3 j rfl rfl).trans (g335 3 j rfl rfl)) (fun j => (g345 4 j rfl rfl).trans (g335 4 j rfl rfl)) (fun j => (g345 5 j rfl rfl).trans (g335 5 j rfl rfl)) (fun j => (g345 7 j rfl rfl).trans (g335 7 j rfl rfl)) (fun j => (g345 8 j rfl rfl).trans (g335 8 j rfl rfl)) (fun j => (g345 9 j rfl rfl).trans (g335 9 j rfl rfl)) (fun j => (g345 42 j rfl rfl).trans (g335 42 j rfl rfl)) (fun j => (g345 43 j rfl rfl).trans (g335 43 j rfl rfl)) (fun j => (g345 44 j rfl rfl).trans (g335 44 j rfl rfl)) (fun j => (g345 46 j rfl rfl).trans (g335 46 j rfl rfl)) (fun j => (g345 47 j rfl rfl).trans (g335 47 j rfl rfl)) (fun j => (g345 48 j rfl rfl).trans (g335 48 j rfl rfl)) ((y345_0_14).trans (y335_0_14)) ((y345_0_19).trans (y335_0_19)) ((y345_0_22).trans (y335_0_22))
  replace gV : TGV h345 := by
    have hT2 := hT1
    unfold TI at hT2
    have k1 := KRw hR; have k2 := KRh hR
    clear hcs hm hi
    refine ⟨fun j hj => ?_, fun q j hj => ?_⟩
    · have d1 := gV1.1 j hj; have f345_34 := g345 34 j rfl rfl; have fa335_0 := a335_0 j; have eb : ((j % 16 : Nat) : Int) < h 31 1 → 0 ≤ h 32 (j % 16) ∧ h 32 (j % 16) ≤ 255 := fun hl => (by have z := gB1 (j % 16) (by omega); omega); omega
    · have d2 : h 0 22 ≠ 0 → _ := fun z => gV1.2 z j hj; have f335_37 := g335 37 j rfl rfl; have f345_37 := g345 37 j rfl rfl; omega
  replace gE : TGE h345 := TGE_of gE1 (fun j => (g345 3 j rfl rfl).trans (g335 3 j rfl rfl)) (fun j => (g345 7 j rfl rfl).trans (g335 7 j rfl rfl)) ((y345_0_14).trans (y335_0_14)) ((y345_0_19).trans (y335_0_19)) ((y345_0_22).trans (y335_0_22))
  replace gS : TGS h345 := TGS_of gS1 (fun j => (g345 3 j rfl rfl).trans (g335 3 j rfl rfl)) (fun j => (g345 4 j rfl rfl).trans (g335 4 j rfl rfl)) (fun j => (g345 5 j rfl rfl).trans (g335 5 j rfl rfl)) (fun j => (g345 7 j rfl rfl).trans (g335 7 j rfl rfl)) (fun j => (g345 8 j rfl rfl).trans (g335 8 j rfl rfl)) (fun j => (g345 9 j rfl rfl).trans (g335 9 j rfl rfl)) ((y345_0_14).trans (y335_0_14)) ((y345_0_19).trans (y335_0_19)) ((y345_0_22).trans (y335_0_22))
  replace gP : TGP h345 := by
    have hT2 := hT1
    unfold TI at hT2
    have k1 := KRw hR; have k2 := KRh hR
    clear hcs hm hi
    exact ⟨pR345, pC345⟩
  replace gF : TGF h345 := TGF_of gF1 (fun j => (g345 3 j rfl rfl).trans (g335 3 j rfl rfl)) (fun j => (g345 7 j rfl rfl).trans (g335 7 j rfl rfl)) ((y345_41_1).trans (y335_41_1)) ((y345_0_14).trans (y335_0_14)) ((y345_45_1).trans (y335_45_1)) ((y345_0_19).trans (y335_0_19)) ((y345_0_22).trans (y335_0_22))
  show zL _ _ _ (.inl r345 :: []) _
  refine zL_pop (pc' := 349) dL_348 rfl rfl ?_
  refine zL_goto (tgt := 1580) dL_349 rfl ?_
  exact nx _ hS hR hC hT gA gB gC gD gR gV gE gS gP gF
