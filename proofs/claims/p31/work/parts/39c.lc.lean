/-! the law's cases, further -/
set_option maxHeartbeats 4000000 in
theorem lc_4 {Γ : Lc} {i : Int} {h : Hp} (hX : XI Γ.1) (hcs : Γ.2.2.2.2.2.1 ≤ room_1.cells ∧ Γ.2.2.2.2.2.2 ≤ room_1.slots) (hm : Γ.2.2.1 < 2147483648) (hi : 0 ≤ i ∧ i + 6 ≤ Γ.2.2.1) (hS : SI h) (hR : KR h) (hC : KC h) (hT : TI h) (gA : TGA h) (gB : TGB h) (gC : TGC h) (gD : TGD h) (gR : TGR h) (gV : TGV h) (gE : TGE h) (gS : TGS h) (gP : TGP h) (gF : TGF h) (nx : ∀ h' : Hp, SI h' → KR h' → KC h' → TI h' → TGA h' → TGB h' → TGC h' → TGD h' → TGR h' → TGV h' → TGE h' → TGS h' → TGP h' → TGF h' → zL Γ 1580 (lsL i) [] h') : zL Γ 352 (lsL i) [] h := by
  refine zL_aload_n (pc' := 353) dL_352 rfl rfl ?_
  refine zL_aload_n (pc' := 354) dL_353 rfl rfl ?_
  refine zL_iload_n (pc' := 355) dL_354 rfl rfl ?_
  refine zL_iconst (pc' := 356) dL_355 rfl ?_
  refine zL_iadd (pc' := 357) dL_356 rfl ?_
  refine zL_sldE (pc' := 358) (by omega) hm dL_357 rfl (fun v357 e357 q357 => ?_)
  refine zL_aload_n (pc' := 359) dL_358 rfl rfl ?_
  refine zL_iload_n (pc' := 360) dL_359 rfl rfl ?_
  refine zL_iconst (pc' := 361) dL_360 rfl ?_
  refine zL_iadd (pc' := 362) dL_361 rfl ?_
  refine zL_sldE (pc' := 363) (by omega) hm dL_362 rfl (fun v362 e362 q362 => ?_)
  refine zL_aload_n (pc' := 364) dL_363 rfl rfl ?_
  refine zL_iload_n (pc' := 365) dL_364 rfl rfl ?_
  refine zL_iconst (pc' := 366) dL_365 rfl ?_
  refine zL_iadd (pc' := 367) dL_366 rfl ?_
  refine zL_sldE (pc' := 368) (by omega) hm dL_367 rfl (fun v367 e367 q367 => ?_)
  refine zL_inv (pc' := 371) hcs kX11_pixel vX11_pixel lk_L_33 ⟨Nat.le_of_ble_eq_true rfl, Nat.le_of_ble_eq_true rfl⟩ tb30 vq11 rfl [_, _, _] (s_X11_pixelE hS hR hC _ ⟨e357.1, e357.2⟩ _ ⟨e362.1, e362.2⟩ _ ⟨e367.1, e367.2⟩) dL_368 rfl (Nat.le_of_ble_eq_true rfl) rfl ?_
  have hC_368 := hC
  rintro r368 h368 ⟨f368, p368⟩; have F368 := f368; obtain ⟨g368, hS, hR, hC⟩ := f368
  obtain ⟨p368, ch368⟩ := p368
  have pR368 : PicRW h368 := PicRW_un (UnR.rf.fm F368 rfl) gP.1
  have pC368 : PicCW h368 := PicCW_ch hC_368 hC ch368 gP.2
  obtain ⟨p368_0, p368_1, p368_2, a368_0⟩ := p368
  have y368_0_25 : h368 0 25 = h 0 25 := g368 0 25 rfl rfl
  have y368_31_1 : h368 31 1 = h 31 1 := g368 31 1 rfl rfl
  have y368_33_0 : h368 33 0 = h 33 0 := g368 33 0 rfl rfl
  have y368_33_1 : h368 33 1 = h 33 1 := g368 33 1 rfl rfl
  have y368_33_2 : h368 33 2 = h 33 2 := g368 33 2 rfl rfl
  have y368_0_11 : h368 0 11 = h 0 11 := g368 0 11 rfl rfl
  have y368_0_12 : h368 0 12 = h 0 12 := g368 0 12 rfl rfl
  have y368_0_13 : h368 0 13 = h 0 13 := g368 0 13 rfl rfl
  have y368_30_11 : h368 30 11 = h 30 11 := g368 30 11 rfl rfl
  have y368_0_22 : h368 0 22 = h 0 22 := g368 0 22 rfl rfl
  have y368_36_0 : h368 36 0 = h 36 0 := g368 36 0 rfl rfl
  have y368_36_1 : h368 36 1 = h 36 1 := g368 36 1 rfl rfl
  have y368_36_2 : h368 36 2 = h 36 2 := g368 36 2 rfl rfl
  have y368_0_16 : h368 0 16 = h 0 16 := g368 0 16 rfl rfl
  have y368_0_17 : h368 0 17 = h 0 17 := g368 0 17 rfl rfl
  have y368_0_18 : h368 0 18 = h 0 18 := g368 0 18 rfl rfl
  have y368_0_14 : h368 0 14 = h 0 14 := g368 0 14 rfl rfl
  have y368_0_15 : h368 0 15 = h 0 15 := g368 0 15 rfl rfl
  have y368_0_19 : h368 0 19 = h 0 19 := g368 0 19 rfl rfl
  have y368_0_20 : h368 0 20 = h 0 20 := g368 0 20 rfl rfl
  have y368_30_10 : h368 30 10 = h 30 10 := g368 30 10 rfl rfl
  have y368_30_12 : h368 30 12 = h 30 12 := g368 30 12 rfl rfl
  have y368_41_0 : h368 41 0 = h 41 0 := g368 41 0 rfl rfl
  have y368_41_1 : h368 41 1 = h 41 1 := g368 41 1 rfl rfl
  have y368_45_0 : h368 45 0 = h 45 0 := g368 45 0 rfl rfl
  have y368_45_1 : h368 45 1 = h 45 1 := g368 45 1 rfl rfl
  have hT1 := hT; have gA1 := gA; have gB1 := gB; have gC1 := gC; have gD1 := gD; have gR1 := gR; have gV1 := gV; have gE1 := gE; have gS1 := gS; have gP1 := gP; have gF1 := gF
  show zL _ _ _ (.inl r368 :: []) _
  refine zL_pop (pc' := 372) dL_371 rfl rfl ?_
  refine zL_aload_n (pc' := 373) dL_372 rfl rfl ?_
  refine zL_aload_n (pc' := 374) dL_373 rfl rfl ?_
  refine zL_iload_n (pc' := 375) dL_374 rfl rfl ?_
  refine zL_iconst (pc' := 376) dL_375 rfl ?_
  refine zL_iadd (pc' := 377) dL_376 rfl ?_
  refine zL_sldE (pc' := 378) (by omega) hm dL_377 rfl (fun v377 e377 q377 => ?_)
  refine zL_aload_n (pc' := 379) dL_378 rfl rfl ?_
  refine zL_iload_n (pc' := 380) dL_379 rfl rfl ?_
  refine zL_iconst (pc' := 381) dL_380 rfl ?_
  refine zL_iadd (pc' := 382) dL_381 rfl ?_
  refine zL_sldE (pc' := 383) (by omega) hm dL_382 rfl (fun v382 e382 q382 => ?_)
  refine zL_aload_n (pc' := 384) dL_383 rfl rfl ?_
  refine zL_iload_n (pc' := 385) dL_384 rfl rfl ?_
  refine zL_iconst (pc' := 386) dL_385 rfl ?_
  refine zL_iadd (pc' := 387) dL_386 rfl ?_
  refine zL_sldE (pc' := 388) (by omega) hm dL_387 rfl (fun v387 e387 q387 => ?_)
  refine zL_inv (pc' := 391) hcs kX12_pixel vX12_pixel lk_L_36 ⟨Nat.le_of_ble_eq_true rfl, Nat.le_of_ble_eq_true rfl⟩ tb0 vq12 rfl [_, _, _] (s_X12_pixelE hS hR hC _ ⟨e377.1, e377.2⟩ _ ⟨e382.1, e382.2⟩ _ ⟨e387.1, e387.2⟩) dL_388 rfl (Nat.le_of_ble_eq_true rfl) rfl ?_
  have hC_388 := hC
  rintro r388 h388 ⟨f388, p388⟩; have F388 := f388; obtain ⟨g388, hS, hR, hC⟩ := f388
  obtain ⟨p388, ch388⟩ := p388
  have pR388 : PicRW h388 := PicRW_ch ch388 pR368
  have pC388 : PicCW h388 := PicCW_un (KCm hC_388).2 (UnC.rf.fm F388 rfl) pC368
  obtain ⟨p388_0, p388_1, p388_2, a388_0⟩ := p388
  have y388_0_25 : h388 0 25 = h368 0 25 := g388 0 25 rfl rfl
  have y388_31_1 : h388 31 1 = h368 31 1 := g388 31 1 rfl rfl
  have y388_33_0 : h388 33 0 = h368 33 0 := g388 33 0 rfl rfl
  have y388_33_1 : h388 33 1 = h368 33 1 := g388 33 1 rfl rfl
  have y388_33_2 : h388 33 2 = h368 33 2 := g388 33 2 rfl rfl
  have y388_0_11 : h388 0 11 = h368 0 11 := g388 0 11 rfl rfl
  have y388_0_12 : h388 0 12 = h368 0 12 := g388 0 12 rfl rfl
  have y388_0_13 : h388 0 13 = h368 0 13 := g388 0 13 rfl rfl
  have y388_30_11 : h388 30 11 = h368 30 11 := g388 30 11 rfl rfl
  have y388_0_22 : h388 0 22 = h368 0 22 := g388 0 22 rfl rfl
  have y388_36_0 : h388 36 0 = h368 36 0 := g388 36 0 rfl rfl
  have y388_36_1 : h388 36 1 = h368 36 1 := g388 36 1 rfl rfl
  have y388_36_2 : h388 36 2 = h368 36 2 := g388 36 2 rfl rfl
  have y388_0_16 : h388 0 16 = h368 0 16 := g388 0 16 rfl rfl
  have y388_0_17 : h388 0 17 = h368 0 17 := g388 0 17 rfl rfl
  have y388_0_18 : h388 0 18 = h368 0 18 := g388 0 18 rfl rfl
  have y388_0_14 : h388 0 14 = h368 0 14 := g388 0 14 rfl rfl
  have y388_0_15 : h388 0 15 = h368 0 15 := g388 0 15 rfl rfl
  have y388_0_19 : h388 0 19 = h368 0 19 := g388 0 19 rfl rfl
  have y388_0_20 : h388 0 20 = h368 0 20 := g388 0 20 rfl rfl
  have y388_30_10 : h388 30 10 = h368 30 10 := g388 30 10 rfl rfl
  have y388_30_12 : h388 30 12 = h368 30 12 := g388 30 12 rfl rfl
  have y388_41_0 : h388 41 0 = h368 41 0 := g388 41 0 rfl rfl
  have y388_41_1 : h388 41 1 = h368 41 1 := g388 41 1 rfl rfl
  have y388_45_0 : h388 45 0 = h368 45 0 := g388 45 0 rfl rfl
  have y388_45_1 : h388 45 1 = h368 45 1 := g388 45 1 rfl rfl
  replace hT : TI h388 := TI_of hT1 (y388_0_25.trans y368_0_25) (y388_31_1.trans y368_31_1) (y388_33_0.trans y368_33_0) (y388_33_1.trans y368_33_1) (y388_33_2.trans y368_33_2) (y388_0_11.trans y368_0_11) (y388_0_12.trans y368_0_12) (y388_0_13.trans y368_0_13) (y388_30_11.trans y368_30_11) (y388_0_22.trans y368_0_22) (y388_36_0.trans y368_36_0) (y388_36_1.trans y368_36_1) (y388_36_2.trans y368_36_2) (y388_0_16.trans y368_0_16) (y388_0_17.trans y368_0_17) (y388_0_18.trans y368_0_18)
  have qe377 : v377 = v357 := by rw [q377, q357]
  have qe382 : v382 = v362 := by rw [q382, q362]
  have qe387 : v387 = v367 := by rw [q387, q367]
  replace gA : TGA h388 := by
    have hT2 := hT1
    unfold TI at hT2
    have k1 := KRw hR; have k2 := KRh hR
    clear hcs hm hi
    refine ⟨fun j hj => ?_, fun q j hj => ?_⟩
    · have d1 := gA1.1 j hj; have f368_1 := g368 1 j rfl rfl; have f368_10 := g368 10 j rfl rfl; have f368_35 := g368 35 j rfl rfl; have fa368_0 := a368_0 j; have f388_34 := g388 34 j rfl rfl; have f388_10 := g388 10 j rfl rfl; have f388_35 := g388 35 j rfl rfl; have fa388_0 := a388_0 j; omega
    · have d2 : h 0 22 ≠ 0 → _ := fun z => gA1.2 z j hj; have f368_6 := g368 6 j rfl rfl; have f368_37 := g368 37 j rfl rfl; have f368_11 := g368 11 j rfl rfl; have f368_38 := g368 38 j rfl rfl; have f388_6 := g388 6 j rfl rfl; have f388_37 := g388 37 j rfl rfl; have f388_11 := g388 11 j rfl rfl; have f388_38 := g388 38 j rfl rfl; omega
  replace gB : TGB h388 := TGB_of gB1 (fun j => (g388 12 j rfl rfl).trans (g368 12 j rfl rfl)) (fun j => (g388 32 j rfl rfl).trans (g368 32 j rfl rfl)) ((y388_0_25).trans (y368_0_25))
  replace gC : TGC h388 := TGC_of gC1  ((y388_0_15).trans (y368_0_15)) ((y388_30_12).trans (y368_30_12)) ((y388_0_11).trans (y368_0_11)) ((y388_0_12).trans (y368_0_12)) ((y388_0_20).trans (y368_0_20)) ((y388_30_10).trans (y368_30_10)) ((y388_0_16).trans (y368_0_16)) ((y388_0_17).trans (y368_0_17)) ((y388_0_22).trans (y368_0_22))
  replace gD : TGD h388 := TGD_of gD1  ((y388_41_0).trans (y368_41_0)) ((y388_0_14).trans (y368_0_14)) ((y388_45_0).trans (y368_45_0)) ((y388_0_19).trans (y368_0_19)) ((y388_0_22).trans (y368_0_22))
  replace gR : TGR h388 := TGR_of gR1 (fun j => (g388 3 j rfl rfl).trans (g368 3 j rfl rfl)) (fun j => (g388 4 j rfl rfl).trans (g368 4 j rfl rfl)) (fun j => (g388 5 j rfl rfl).trans (g368 5 j rfl rfl)) (fun j => (g388 7 j rfl rfl).trans (g368 7 j rfl rfl)) (fun j => (g388 8 j rfl rfl).trans (g368 8 j rfl rfl)) (fun j => (g388 9 j rfl rfl).trans (g368 9 j rfl rfl)) (fun j => (g388 42 j rfl rfl).trans (g368 42 j rfl rfl)) (fun j => (g388 43 j rfl rfl).trans (g368 43 j rfl rfl)) (fun j => (g388 44 j rfl rfl).trans (g368 44 j rfl rfl)) (fun j => (g388 46 j rfl rfl).trans (g368 46 j rfl rfl)) (fun j => (g388 47 j rfl rfl).trans (g368 47 j rfl rfl)) (fun j => (g388 48 j rfl rfl).trans (g368 48 j rfl rfl)) ((y388_0_14).trans (y368_0_14)) ((y388_0_19).trans (y368_0_19)) ((y388_0_22).trans (y368_0_22))
  replace gV : TGV h388 := by
    have hT2 := hT1
    unfold TI at hT2
    have k1 := KRw hR; have k2 := KRh hR
    clear hcs hm hi
    refine ⟨fun j hj => ?_, fun q j hj => ?_⟩
    · have d1 := gV1.1 j hj; have f388_34 := g388 34 j rfl rfl; have fa368_0 := a368_0 j; omega
    · have d2 : h 0 22 ≠ 0 → _ := fun z => gV1.2 z j hj; have f368_37 := g368 37 j rfl rfl; have f388_37 := g388 37 j rfl rfl; omega
  replace gE : TGE h388 := TGE_of gE1 (fun j => (g388 3 j rfl rfl).trans (g368 3 j rfl rfl)) (fun j => (g388 7 j rfl rfl).trans (g368 7 j rfl rfl)) ((y388_0_14).trans (y368_0_14)) ((y388_0_19).trans (y368_0_19)) ((y388_0_22).trans (y368_0_22))
  replace gS : TGS h388 := TGS_of gS1 (fun j => (g388 3 j rfl rfl).trans (g368 3 j rfl rfl)) (fun j => (g388 4 j rfl rfl).trans (g368 4 j rfl rfl)) (fun j => (g388 5 j rfl rfl).trans (g368 5 j rfl rfl)) (fun j => (g388 7 j rfl rfl).trans (g368 7 j rfl rfl)) (fun j => (g388 8 j rfl rfl).trans (g368 8 j rfl rfl)) (fun j => (g388 9 j rfl rfl).trans (g368 9 j rfl rfl)) ((y388_0_14).trans (y368_0_14)) ((y388_0_19).trans (y368_0_19)) ((y388_0_22).trans (y368_0_22))
  replace gP : TGP h388 := by
    have hT2 := hT1
    unfold TI at hT2
    have k1 := KRw hR; have k2 := KRh hR
    clear hcs hm hi
    exact ⟨pR388, pC388⟩
  replace gF : TGF h388 := TGF_of gF1 (fun j => (g388 3 j rfl rfl).trans (g368 3 j rfl rfl)) (fun j => (g388 7 j rfl rfl).trans (g368 7 j rfl rfl)) ((y388_41_1).trans (y368_41_1)) ((y388_0_14).trans (y368_0_14)) ((y388_45_1).trans (y368_45_1)) ((y388_0_19).trans (y368_0_19)) ((y388_0_22).trans (y368_0_22))
  show zL _ _ _ (.inl r388 :: []) _
  refine zL_pop (pc' := 392) dL_391 rfl rfl ?_
  refine zL_goto (tgt := 1580) dL_392 rfl ?_
  exact nx _ hS hR hC hT gA gB gC gD gR gV gE gS gP gF
