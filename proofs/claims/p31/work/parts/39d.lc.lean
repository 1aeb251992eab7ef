/-! the law's cases, further -/
set_option maxHeartbeats 4000000 in
theorem lc_5 {Γ : Lc} {i : Int} {h : Hp} (hX : XI Γ.1) (hcs : Γ.2.2.2.2.2.1 ≤ room_1.cells ∧ Γ.2.2.2.2.2.2 ≤ room_1.slots) (hm : Γ.2.2.1 < 2147483648) (hi : 0 ≤ i ∧ i + 6 ≤ Γ.2.2.1) (hS : SI h) (hR : KR h) (hC : KC h) (hT : TI h) (gA : TGA h) (gB : TGB h) (gC : TGC h) (gD : TGD h) (gR : TGR h) (gV : TGV h) (gE : TGE h) (gS : TGS h) (gP : TGP h) (gF : TGF h) (nx : ∀ h' : Hp, SI h' → KR h' → KC h' → TI h' → TGA h' → TGB h' → TGC h' → TGD h' → TGR h' → TGV h' → TGE h' → TGS h' → TGP h' → TGF h' → zL Γ 1580 (lsL i) [] h') : zL Γ 395 (lsL i) [] h := by
  refine zL_aload_n (pc' := 396) dL_395 rfl rfl ?_
  refine zL_aload_n (pc' := 397) dL_396 rfl rfl ?_
  refine zL_iload_n (pc' := 398) dL_397 rfl rfl ?_
  refine zL_iconst (pc' := 399) dL_398 rfl ?_
  refine zL_iadd (pc' := 400) dL_399 rfl ?_
  refine zL_sldE (pc' := 401) (by omega) hm dL_400 rfl (fun v400 e400 q400 => ?_)
  refine zL_aload_n (pc' := 402) dL_401 rfl rfl ?_
  refine zL_iload_n (pc' := 403) dL_402 rfl rfl ?_
  refine zL_iconst (pc' := 404) dL_403 rfl ?_
  refine zL_iadd (pc' := 405) dL_404 rfl ?_
  refine zL_sldE (pc' := 406) (by omega) hm dL_405 rfl (fun v405 e405 q405 => ?_)
  refine zL_aload_n (pc' := 407) dL_406 rfl rfl ?_
  refine zL_iload_n (pc' := 408) dL_407 rfl rfl ?_
  refine zL_iconst (pc' := 409) dL_408 rfl ?_
  refine zL_iadd (pc' := 410) dL_409 rfl ?_
  refine zL_sldE (pc' := 411) (by omega) hm dL_410 rfl (fun v410 e410 q410 => ?_)
  refine zL_if_eq (tgt := 418) (pc' := 414) dL_411 rfl rfl ⟨e410.1, e410.2⟩ (fun c411 => ?_) (fun c411 => ?_)
  · refine zL_iconst (pc' := 419) dL_418 rfl ?_
    refine zL_inv (pc' := 422) hcs kX11_dead vX11_dead lk_L_37 ⟨Nat.le_of_ble_eq_true rfl, Nat.le_of_ble_eq_true rfl⟩ tb30 vq11 rfl [_, _, _] (s_X11_deadD hS hR hC _ ⟨e400.1, e400.2⟩ _ ⟨e405.1, e405.2⟩ _ ⟨by omega, by omega⟩) dL_419 rfl (Nat.le_of_ble_eq_true rfl) rfl ?_
    have hC_419 := hC
    rintro r419 h419 ⟨f419, p419⟩; have F419 := f419; obtain ⟨g419, hS, hR, hC⟩ := f419
    obtain ⟨p419, ch419⟩ := p419
    have pR419 : PicRW h419 := PicRW_un (UnR.rf.fm F419 rfl) gP.1
    have pC419 : PicCW h419 := PicCW_ch hC_419 hC ch419 gP.2
    obtain ⟨p419_0, a419_0⟩ := p419
    have y419_0_25 : h419 0 25 = h 0 25 := g419 0 25 rfl rfl
    have y419_31_1 : h419 31 1 = h 31 1 := g419 31 1 rfl rfl
    have y419_33_0 : h419 33 0 = h 33 0 := g419 33 0 rfl rfl
    have y419_33_1 : h419 33 1 = h 33 1 := g419 33 1 rfl rfl
    have y419_33_2 : h419 33 2 = h 33 2 := g419 33 2 rfl rfl
    have y419_0_11 : h419 0 11 = h 0 11 := g419 0 11 rfl rfl
    have y419_0_12 : h419 0 12 = h 0 12 := g419 0 12 rfl rfl
    have y419_0_13 : h419 0 13 = h 0 13 := g419 0 13 rfl rfl
    have y419_30_11 : h419 30 11 = h 30 11 := g419 30 11 rfl rfl
    have y419_0_22 : h419 0 22 = h 0 22 := g419 0 22 rfl rfl
    have y419_36_0 : h419 36 0 = h 36 0 := g419 36 0 rfl rfl
    have y419_36_1 : h419 36 1 = h 36 1 := g419 36 1 rfl rfl
    have y419_36_2 : h419 36 2 = h 36 2 := g419 36 2 rfl rfl
    have y419_0_16 : h419 0 16 = h 0 16 := g419 0 16 rfl rfl
    have y419_0_17 : h419 0 17 = h 0 17 := g419 0 17 rfl rfl
    have y419_0_18 : h419 0 18 = h 0 18 := g419 0 18 rfl rfl
    have y419_0_14 : h419 0 14 = h 0 14 := g419 0 14 rfl rfl
    have y419_0_15 : h419 0 15 = h 0 15 := g419 0 15 rfl rfl
    have y419_0_19 : h419 0 19 = h 0 19 := g419 0 19 rfl rfl
    have y419_0_20 : h419 0 20 = h 0 20 := g419 0 20 rfl rfl
    have y419_30_10 : h419 30 10 = h 30 10 := g419 30 10 rfl rfl
    have y419_30_12 : h419 30 12 = h 30 12 := g419 30 12 rfl rfl
    have y419_41_0 : h419 41 0 = h 41 0 := g419 41 0 rfl rfl
    have y419_41_1 : h419 41 1 = h 41 1 := g419 41 1 rfl rfl
    have y419_45_0 : h419 45 0 = h 45 0 := g419 45 0 rfl rfl
    have y419_45_1 : h419 45 1 = h 45 1 := g419 45 1 rfl rfl
    have hT1 := hT; have gA1 := gA; have gB1 := gB; have gC1 := gC; have gD1 := gD; have gR1 := gR; have gV1 := gV; have gE1 := gE; have gS1 := gS; have gP1 := gP; have gF1 := gF
    show zL _ _ _ (.inl r419 :: []) _
    refine zL_pop (pc' := 423) dL_422 rfl rfl ?_
    refine zL_aload_n (pc' := 424) dL_423 rfl rfl ?_
    refine zL_aload_n (pc' := 425) dL_424 rfl rfl ?_
    refine zL_iload_n (pc' := 426) dL_425 rfl rfl ?_
    refine zL_iconst (pc' := 427) dL_426 rfl ?_
    refine zL_iadd (pc' := 428) dL_427 rfl ?_
    refine zL_sldE (pc' := 429) (by omega) hm dL_428 rfl (fun v428 e428 q428 => ?_)
    refine zL_aload_n (pc' := 430) dL_429 rfl rfl ?_
    refine zL_iload_n (pc' := 431) dL_430 rfl rfl ?_
    refine zL_iconst (pc' := 432) dL_431 rfl ?_
    refine zL_iadd (pc' := 433) dL_432 rfl ?_
    refine zL_sldE (pc' := 434) (by omega) hm dL_433 rfl (fun v433 e433 q433 => ?_)
    refine zL_aload_n (pc' := 435) dL_434 rfl rfl ?_
    refine zL_iload_n (pc' := 436) dL_435 rfl rfl ?_
    refine zL_iconst (pc' := 437) dL_436 rfl ?_
    refine zL_iadd (pc' := 438) dL_437 rfl ?_
    refine zL_sldE (pc' := 439) (by omega) hm dL_438 rfl (fun v438 e438 q438 => ?_)
    refine zL_if_eq (tgt := 446) (pc' := 442) dL_439 rfl rfl ⟨e438.1, e438.2⟩ (fun c439 => ?_) (fun c439 => ?_)
    · refine zL_iconst (pc' := 447) dL_446 rfl ?_
      refine zL_inv (pc' := 450) hcs kX12_dead vX12_dead lk_L_41 ⟨Nat.le_of_ble_eq_true rfl, Nat.le_of_ble_eq_true rfl⟩ tb0 vq12 rfl [_, _, _] (s_X12_deadD hS hR hC _ ⟨e428.1, e428.2⟩ _ ⟨e433.1, e433.2⟩ _ ⟨by omega, by omega⟩) dL_447 rfl (Nat.le_of_ble_eq_true rfl) rfl ?_
      have hC_447 := hC
      rintro r447 h447 ⟨f447, p447⟩; have F447 := f447; obtain ⟨g447, hS, hR, hC⟩ := f447
      obtain ⟨p447, ch447⟩ := p447
      have pR447 : PicRW h447 := PicRW_ch ch447 pR419
      have pC447 : PicCW h447 := PicCW_un (KCm hC_447).2 (UnC.rf.fm F447 rfl) pC419
      obtain ⟨p447_0, a447_0⟩ := p447
      have y447_0_25 : h447 0 25 = h419 0 25 := g447 0 25 rfl rfl
      have y447_31_1 : h447 31 1 = h419 31 1 := g447 31 1 rfl rfl
      have y447_33_0 : h447 33 0 = h419 33 0 := g447 33 0 rfl rfl
      have y447_33_1 : h447 33 1 = h419 33 1 := g447 33 1 rfl rfl
      have y447_33_2 : h447 33 2 = h419 33 2 := g447 33 2 rfl rfl
      have y447_0_11 : h447 0 11 = h419 0 11 := g447 0 11 rfl rfl
      have y447_0_12 : h447 0 12 = h419 0 12 := g447 0 12 rfl rfl
      have y447_0_13 : h447 0 13 = h419 0 13 := g447 0 13 rfl rfl
      have y447_30_11 : h447 30 11 = h419 30 11 := g447 30 11 rfl rfl
      have y447_0_22 : h447 0 22 = h419 0 22 := g447 0 22 rfl rfl
      have y447_36_0 : h447 36 0 = h419 36 0 := g447 36 0 rfl rfl
      have y447_36_1 : h447 36 1 = h419 36 1 := g447 36 1 rfl rfl
      have y447_36_2 : h447 36 2 = h419 36 2 := g447 36 2 rfl rfl
      have y447_0_16 : h447 0 16 = h419 0 16 := g447 0 16 rfl rfl
      have y447_0_17 : h447 0 17 = h419 0 17 := g447 0 17 rfl rfl
      have y447_0_18 : h447 0 18 = h419 0 18 := g447 0 18 rfl rfl
      have y447_0_14 : h447 0 14 = h419 0 14 := g447 0 14 rfl rfl
      have y447_0_15 : h447 0 15 = h419 0 15 := g447 0 15 rfl rfl
      have y447_0_19 : h447 0 19 = h419 0 19 := g447 0 19 rfl rfl
      have y447_0_20 : h447 0 20 = h419 0 20 := g447 0 20 rfl rfl
      have y447_30_10 : h447 30 10 = h419 30 10 := g447 30 10 rfl rfl
      have y447_30_12 : h447 30 12 = h419 30 12 := g447 30 12 rfl rfl
      have y447_41_0 : h447 41 0 = h419 41 0 := g447 41 0 rfl rfl
      have y447_41_1 : h447 41 1 = h419 41 1 := g447 41 1 rfl rfl
      have y447_45_0 : h447 45 0 = h419 45 0 := g447 45 0 rfl rfl
      have y447_45_1 : h447 45 1 = h419 45 1 := g447 45 1 rfl rfl
      replace hT : TI h447 := TI_of hT1 (y447_0_25.trans y419_0_25) (y447_31_1.trans y419_31_1) (y447_33_0.trans y419_33_0) (y447_33_1.trans y419_33_1) (y447_33_2.trans y419_33_2) (y447_0_11.trans y419_0_11) (y447_0_12.trans y419_0_12) (y447_0_13.trans y419_0_13) (y447_30_11.trans y419_30_11) (y447_0_22.trans y419_0_22) (y447_36_0.trans y419_36_0) (y447_36_1.trans y419_36_1) (y447_36_2.trans y419_36_2) (y447_0_16.trans y419_0_16) (y447_0_17.trans y419_0_17) (y447_0_18.trans y419_0_18)
      have qe428 : v428 = v400 := by rw [q428, q400]
      have qe433 : v433 = v405 := by rw [q433, q405]
      have qe438 : v438 = v410 := by rw [q438, q410]
      replace gA : TGA h447 := by
        have hT2 := hT1
        unfold TI at hT2
        have k1 := KRw hR; have k2 := KRh hR
        clear hcs hm hi
        refine ⟨fun j hj => ?_, fun q j hj => ?_⟩
        · have d1 := gA1.1 j hj; have f419_1 := g419 1 j rfl rfl; have f419_34 := g419 34 j rfl rfl; have f419_10 := g419 10 j rfl rfl; have fa419_0 := a419_0 j; have f447_1 := g447 1 j rfl rfl; have f447_34 := g447 34 j rfl rfl; have f447_35 := g447 35 j rfl rfl; have fa447_0 := a447_0 j; omega
        · have d2 : h 0 22 ≠ 0 → _ := fun z => gA1.2 z j hj; have f419_6 := g419 6 j rfl rfl; have f419_37 := g419 37 j rfl rfl; have f419_11 := g419 11 j rfl rfl; have f419_38 := g419 38 j rfl rfl; have f447_6 := g447 6 j rfl rfl; have f447_37 := g447 37 j rfl rfl; have f447_11 := g447 11 j rfl rfl; have f447_38 := g447 38 j rfl rfl; omega
      replace gB : TGB h447 := TGB_of gB1 (fun j => (g447 12 j rfl rfl).trans (g419 12 j rfl rfl)) (fun j => (g447 32 j rfl rfl).trans (g419 32 j rfl rfl)) ((y447_0_25).trans (y419_0_25))
      replace gC : TGC h447 := TGC_of gC1  ((y447_0_15).trans (y419_0_15)) ((y447_30_12).trans (y419_30_12)) ((y447_0_11).trans (y419_0_11)) ((y447_0_12).trans (y419_0_12)) ((y447_0_20).trans (y419_0_20)) ((y447_30_10).trans (y419_30_10)) ((y447_0_16).trans (y419_0_16)) ((y447_0_17).trans (y419_0_17)) ((y447_0_22).trans (y419_0_22))
      replace gD : TGD h447 := TGD_of gD1  ((y447_41_0).trans (y419_41_0)) ((y447_0_14).trans (y419_0_14)) ((y447_45_0).trans (y419_45_0)) ((y447_0_19).trans (y419_0_19)) ((y447_0_22).trans (y419_0_22))
      replace gR : TGR h447 := TGR_of gR1 (fun j => (g447 3 j rfl rfl).trans (g419 3 j rfl rfl)) (fun j => (g447 4 j rfl rfl).trans (g419 4 j rfl rfl)) (fun j => (g447 5 j rfl rfl).trans (g419 5 j rfl rfl)) (fun j => (g447 7 j rfl rfl).trans (g419 7 j rfl rfl)) (fun j => (g447 8 j rfl rfl).trans (g419 8 j rfl rfl)) (fun j => (g447 9 j rfl rfl).trans (g419 9 j rfl rfl)) (fun j => (g447 42 j rfl rfl).trans (g419 42 j rfl rfl)) (fun j => (g447 43 j rfl rfl).trans (g419 43 j rfl rfl)) (fun j => (g447 44 j rfl rfl).trans (g419 44 j rfl rfl)) (fun j => (g447 46 j rfl rfl).trans (g419 46 j rfl rfl)) (fun j => (g447 47 j rfl rfl).trans (g419 47 j rfl rfl)) (fun j => (g447 48 j rfl rfl).trans (g419 48 j rfl rfl)) ((y447_0_14).trans (y419_0_14)) ((y447_0_19).trans (y419_0_19)) ((y447_0_22).trans (y419_0_22))
      replace gV : TGV h447 := TGV_of gV1 (fun j => (g447 34 j rfl rfl).trans (g419 34 j rfl rfl)) (fun j => (g447 37 j rfl rfl).trans (g419 37 j rfl rfl)) ((y447_0_22).trans (y419_0_22))
      replace gE : TGE h447 := TGE_of gE1 (fun j => (g447 3 j rfl rfl).trans (g419 3 j rfl rfl)) (fun j => (g447 7 j rfl rfl).trans (g419 7 j rfl rfl)) ((y447_0_14).trans (y419_0_14)) ((y447_0_19).trans (y419_0_19)) ((y447_0_22).trans (y419_0_22))
      replace gS : TGS h447 := TGS_of gS1 (fun j => (g447 3 j rfl rfl).trans (g419 3 j rfl rfl)) (fun j => (g447 4 j rfl rfl).trans (g419 4 j rfl rfl)) (fun j => (g447 5 j rfl rfl).trans (g419 5 j rfl rfl)) (fun j => (g447 7 j rfl rfl).trans (g419 7 j rfl rfl)) (fun j => (g447 8 j rfl rfl).trans (g419 8 j rfl rfl)) (fun j => (g447 9 j rfl rfl).trans (g419 9 j rfl rfl)) ((y447_0_14).trans (y419_0_14)) ((y447_0_19).trans (y419_0_19)) ((y447_0_22).trans (y419_0_22))
      replace gP : TGP h447 := by
        have hT2 := hT1
        unfold TI at hT2
        have k1 := KRw hR; have k2 := KRh hR
        clear hcs hm hi
        exact ⟨pR447, pC447⟩
      replace gF : TGF h447 := TGF_of gF1 (fun j => (g447 3 j rfl rfl).trans (g419 3 j rfl rfl)) (fun j => (g447 7 j rfl rfl).trans (g419 7 j rfl rfl)) ((y447_41_1).trans (y419_41_1)) ((y447_0_14).trans (y419_0_14)) ((y447_45_1).trans (y419_45_1)) ((y447_0_19).trans (y419_0_19)) ((y447_0_22).trans (y419_0_22))
      show zL _ _ _ (.inl r447 :: []) _
      refine zL_pop (pc' := 451) dL_450 rfl rfl ?_
      refine zL_goto (tgt := 1580) dL_451 rfl ?_
      exact nx _ hS hR hC hT gA gB gC gD gR gV gE gS gP gF
    · have qb438 : v438 = v410 := by rw [q438, q410]
      exfalso; omega
  · refine zL_iconst (pc' := 415) dL_414 rfl ?_
    refine zL_goto (tgt := 419) dL_415 rfl ?_
    refine zL_inv (pc' := 422) hcs kX11_dead vX11_dead lk_L_37 ⟨Nat.le_of_ble_eq_true rfl, Nat.le_of_ble_eq_true rfl⟩ tb30 vq11 rfl [_, _, _] (s_X11_deadD hS hR hC _ ⟨e400.1, e400.2⟩ _ ⟨e405.1, e405.2⟩ _ ⟨by omega, by omega⟩) dL_419 rfl (Nat.le_of_ble_eq_true rfl) rfl ?_
    have hC_419 := hC
    rintro r419 h419 ⟨f419, p419⟩; have F419 := f419; obtain ⟨g419, hS, hR, hC⟩ := f419
    obtain ⟨p419, ch419⟩ := p419
    have pR419 : PicRW h419 := PicRW_un (UnR.rf.fm F419 rfl) gP.1
    have pC419 : PicCW h419 := PicCW_ch hC_419 hC ch419 gP.2
    obtain ⟨p419_0, a419_0⟩ := p419
    have y419_0_25 : h419 0 25 = h 0 25 := g419 0 25 rfl rfl
    have y419_31_1 : h419 31 1 = h 31 1 := g419 31 1 rfl rfl
    have y419_33_0 : h419 33 0 = h 33 0 := g419 33 0 rfl rfl
    have y419_33_1 : h419 33 1 = h 33 1 := g419 33 1 rfl rfl
    have y419_33_2 : h419 33 2 = h 33 2 := g419 33 2 rfl rfl
    have y419_0_11 : h419 0 11 = h 0 11 := g419 0 11 rfl rfl
    have y419_0_12 : h419 0 12 = h 0 12 := g419 0 12 rfl rfl
    have y419_0_13 : h419 0 13 = h 0 13 := g419 0 13 rfl rfl
    have y419_30_11 : h419 30 11 = h 30 11 := g419 30 11 rfl rfl
    have y419_0_22 : h419 0 22 = h 0 22 := g419 0 22 rfl rfl
    have y419_36_0 : h419 36 0 = h 36 0 := g419 36 0 rfl rfl
    have y419_36_1 : h419 36 1 = h 36 1 := g419 36 1 rfl rfl
    have y419_36_2 : h419 36 2 = h 36 2 := g419 36 2 rfl rfl
    have y419_0_16 : h419 0 16 = h 0 16 := g419 0 16 rfl rfl
    have y419_0_17 : h419 0 17 = h 0 17 := g419 0 17 rfl rfl
    have y419_0_18 : h419 0 18 = h 0 18 := g419 0 18 rfl rfl
    have y419_0_14 : h419 0 14 = h 0 14 := g419 0 14 rfl rfl
    have y419_0_15 : h419 0 15 = h 0 15 := g419 0 15 rfl rfl
    have y419_0_19 : h419 0 19 = h 0 19 := g419 0 19 rfl rfl
    have y419_0_20 : h419 0 20 = h 0 20 := g419 0 20 rfl rfl
    have y419_30_10 : h419 30 10 = h 30 10 := g419 30 10 rfl rfl
    have y419_30_12 : h419 30 12 = h 30 12 := g419 30 12 rfl rfl
    have y419_41_0 : h419 41 0 = h 41 0 := g419 41 0 rfl rfl
    have y419_41_1 : h419 41 1 = h 41 1 := g419 41 1 rfl rfl
    have y419_45_0 : h419 45 0 = h 45 0 := g419 45 0 rfl rfl
    have y419_45_1 : h419 45 1 = h 45 1 := g419 45 1 rfl rfl
    have hT1 := hT; have gA1 := gA; have gB1 := gB; have gC1 := gC; have gD1 := gD; have gR1 := gR; have gV1 := gV; have gE1 := gE; have gS1 := gS; have gP1 := gP; have gF1 := gF
    show zL _ _ _ (.inl r419 :: []) _
    refine zL_pop (pc' := 423) dL_422 rfl rfl ?_
    refine zL_aload_n (pc' := 424) dL_423 rfl rfl ?_
    refine zL_aload_n (pc' := 425) dL_424 rfl rfl ?_
    refine zL_iload_n (pc' := 426) dL_425 rfl rfl ?_
    refine zL_iconst (pc' := 427) dL_426 rfl ?_
    refine zL_iadd (pc' := 428) dL_427 rfl ?_
    refine zL_sldE (pc' := 429) (by omega) hm dL_428 rfl (fun v428 e428 q428 => ?_)
    refine zL_aload_n (pc' := 430) dL_429 rfl rfl ?_
    refine zL_iload_n (pc' := 431) dL_430 rfl rfl ?_
    refine zL_iconst (pc' := 432) dL_431 rfl ?_
    refine zL_iadd (pc' := 433) dL_432 rfl ?_
    refine zL_sldE (pc' := 434) (by omega) hm dL_433 rfl (fun v433 e433 q433 => ?_)
    refine zL_aload_n (pc' := 435) dL_434 rfl rfl ?_
    refine zL_iload_n (pc' := 436) dL_435 rfl rfl ?_
    refine zL_iconst (pc' := 437) dL_436 rfl ?_
    refine zL_iadd (pc' := 438) dL_437 rfl ?_
    refine zL_sldE (pc' := 439) (by omega) hm dL_438 rfl (fun v438 e438 q438 => ?_)
    refine zL_if_eq (tgt := 446) (pc' := 442) dL_439 rfl rfl ⟨e438.1, e438.2⟩ (fun c439 => ?_) (fun c439 => ?_)
    · have qb438 : v438 = v410 := by rw [q438, q410]
      exfalso; omega
    · refine zL_iconst (pc' := 443) dL_442 rfl ?_
      refine zL_goto (tgt := 447) dL_443 rfl ?_
      refine zL_inv (pc' := 450) hcs kX12_dead vX12_dead lk_L_41 ⟨Nat.le_of_ble_eq_true rfl, Nat.le_of_ble_eq_true rfl⟩ tb0 vq12 rfl [_, _, _] (s_X12_deadD hS hR hC _ ⟨e428.1, e428.2⟩ _ ⟨e433.1, e433.2⟩ _ ⟨by omega, by omega⟩) dL_447 rfl (Nat.le_of_ble_eq_true rfl) rfl ?_
      have hC_447 := hC
      rintro r447 h447 ⟨f447, p447⟩; have F447 := f447; obtain ⟨g447, hS, hR, hC⟩ := f447
      obtain ⟨p447, ch447⟩ := p447
      have pR447 : PicRW h447 := PicRW_ch ch447 pR419
      have pC447 : PicCW h447 := PicCW_un (KCm hC_447).2 (UnC.rf.fm F447 rfl) pC419
      obtain ⟨p447_0, a447_0⟩ := p447
      have y447_0_25 : h447 0 25 = h419 0 25 := g447 0 25 rfl rfl
      have y447_31_1 : h447 31 1 = h419 31 1 := g447 31 1 rfl rfl
      have y447_33_0 : h447 33 0 = h419 33 0 := g447 33 0 rfl rfl
      have y447_33_1 : h447 33 1 = h419 33 1 := g447 33 1 rfl rfl
      have y447_33_2 : h447 33 2 = h419 33 2 := g447 33 2 rfl rfl
      have y447_0_11 : h447 0 11 = h419 0 11 := g447 0 11 rfl rfl
      have y447_0_12 : h447 0 12 = h419 0 12 := g447 0 12 rfl rfl
      have y447_0_13 : h447 0 13 = h419 0 13 := g447 0 13 rfl rfl
      have y447_30_11 : h447 30 11 = h419 30 11 := g447 30 11 rfl rfl
      have y447_0_22 : h447 0 22 = h419 0 22 := g447 0 22 rfl rfl
      have y447_36_0 : h447 36 0 = h419 36 0 := g447 36 0 rfl rfl
      have y447_36_1 : h447 36 1 = h419 36 1 := g447 36 1 rfl rfl
      have y447_36_2 : h447 36 2 = h419 36 2 := g447 36 2 rfl rfl
      have y447_0_16 : h447 0 16 = h419 0 16 := g447 0 16 rfl rfl
      have y447_0_17 : h447 0 17 = h419 0 17 := g447 0 17 rfl rfl
      have y447_0_18 : h447 0 18 = h419 0 18 := g447 0 18 rfl rfl
      have y447_0_14 : h447 0 14 = h419 0 14 := g447 0 14 rfl rfl
      have y447_0_15 : h447 0 15 = h419 0 15 := g447 0 15 rfl rfl
      have y447_0_19 : h447 0 19 = h419 0 19 := g447 0 19 rfl rfl
      have y447_0_20 : h447 0 20 = h419 0 20 := g447 0 20 rfl rfl
      have y447_30_10 : h447 30 10 = h419 30 10 := g447 30 10 rfl rfl
      have y447_30_12 : h447 30 12 = h419 30 12 := g447 30 12 rfl rfl
      have y447_41_0 : h447 41 0 = h419 41 0 := g447 41 0 rfl rfl
      have y447_41_1 : h447 41 1 = h419 41 1 := g447 41 1 rfl rfl
      have y447_45_0 : h447 45 0 = h419 45 0 := g447 45 0 rfl rfl
      have y447_45_1 : h447 45 1 = h419 45 1 := g447 45 1 rfl rfl
      replace hT : TI h447 := TI_of hT1 (y447_0_25.trans y419_0_25) (y447_31_1.trans y419_31_1) (y447_33_0.trans y419_33_0) (y447_33_1.trans y419_33_1) (y447_33_2.trans y419_33_2) (y447_0_11.trans y419_0_11) (y447_0_12.trans y419_0_12) (y447_0_13.trans y419_0_13) (y447_30_11.trans y419_30_11) (y447_0_22.trans y419_0_22) (y447_36_0.trans y419_36_0) (y447_36_1.trans y419_36_1) (y447_36_2.trans y419_36_2) (y447_0_16.trans y419_0_16) (y447_0_17.trans y419_0_17) (y447_0_18.trans y419_0_18)
      have qe428 : v428 = v400 := by rw [q428, q400]
      have qe433 : v433 = v405 := by rw [q433, q405]
      have qe438 : v438 = v410 := by rw [q438, q410]
      replace gA : TGA h447 := by
        have hT2 := hT1
        unfold TI at hT2
        have k1 := KRw hR; have k2 := KRh hR
        clear hcs hm hi
        refine ⟨fun j hj => ?_, fun q j hj => ?_⟩
        · have d1 := gA1.1 j hj; have f419_1 := g419 1 j rfl rfl; have f419_34 := g419 34 j rfl rfl; have f419_10 := g419 10 j rfl rfl; have fa419_0 := a419_0 j; have f447_1 := g447 1 j rfl rfl; have f447_34 := g447 34 j rfl rfl; have f447_35 := g447 35 j rfl rfl; have fa447_0 := a447_0 j; omega
        · have d2 : h 0 22 ≠ 0 → _ := fun z => gA1.2 z j hj; have f419_6 := g419 6 j rfl rfl; have f419_37 := g419 37 j rfl rfl; have f419_11 := g419 11 j rfl rfl; have f419_38 := g419 38 j rfl rfl; have f447_6 := g447 6 j rfl rfl; have f447_37 := g447 37 j rfl rfl; have f447_11 := g447 11 j rfl rfl; have f447_38 := g447 38 j rfl rfl; omega
      replace gB : TGB h447 := TGB_of gB1 (fun j => (g447 12 j rfl rfl).trans (g419 12 j rfl rfl)) (fun j => (g447 32 j rfl rfl).trans (g419 32 j rfl rfl)) ((y447_0_25).trans (y419_0_25))
      replace gC : TGC h447 := TGC_of gC1  ((y447_0_15).trans (y419_0_15)) ((y447_30_12).trans (y419_30_12)) ((y447_0_11).trans (y419_0_11)) ((y447_0_12).trans (y419_0_12)) ((y447_0_20).trans (y419_0_20)) ((y447_30_10).trans (y419_30_10)) ((y447_0_16).trans (y419_0_16)) ((y447_0_17).trans (y419_0_17)) ((y447_0_22).trans (y419_0_22))
      replace gD : TGD h447 := TGD_of gD1  ((y447_41_0).trans (y419_41_0)) ((y447_0_14).trans (y419_0_14)) ((y447_45_0).trans (y419_45_0)) ((y447_0_19).trans (y419_0_19)) ((y447_0_22).trans (y419_0_22))
      replace gR : TGR h447 := TGR_of gR1 (fun j => (g447 3 j rfl rfl).trans (g419 3 j rfl rfl)) (fun j => (g447 4 j rfl rfl).trans (g419 4 j rfl rfl)) (fun j => (g447 5 j rfl rfl).trans (g419 5 j rfl rfl)) (fun j => (g447 7 j rfl rfl).trans (g419 7 j rfl rfl)) (fun j => (g447 8 j rfl rfl).trans (g419 8 j rfl rfl)) (fun j => (g447 9 j rfl rfl).trans (g419 9 j rfl rfl)) (fun j => (g447 42 j rfl rfl).trans (g419 42 j rfl rfl)) (fun j => (g447 43 j rfl rfl).trans (g419 43 j rfl rfl)) (fun j => (g447 44 j rfl rfl).trans (g419 44 j rfl rfl)) (fun j => (g447 46 j rfl rfl).trans (g419 46 j rfl rfl)) (fun j => (g447 47 j rfl rfl).trans (g419 47 j rfl rfl)) (fun j => (g447 48 j rfl rfl).trans (g419 48 j rfl rfl)) ((y447_0_14).trans (y419_0_14)) ((y447_0_19).trans (y419_0_19)) ((y447_0_22).trans (y419_0_22))
      replace gV : TGV h447 := TGV_of gV1 (fun j => (g447 34 j rfl rfl).trans (g419 34 j rfl rfl)) (fun j => (g447 37 j rfl rfl).trans (g419 37 j rfl rfl)) ((y447_0_22).trans (y419_0_22))
      replace gE : TGE h447 := TGE_of gE1 (fun j => (g447 3 j rfl rfl).trans (g419 3 j rfl rfl)) (fun j => (g447 7 j rfl rfl).trans (g419 7 j rfl rfl)) ((y447_0_14).trans (y419_0_14)) ((y447_0_19).trans (y419_0_19)) ((y447_0_22).trans (y419_0_22))
      replace gS : TGS h447 := TGS_of gS1 (fun j => (g447 3 j rfl rfl).trans (g419 3 j rfl rfl)) (fun j => (g447 4 j rfl rfl).trans (g419 4 j rfl rfl)) (fun j => (g447 5 j rfl rfl).trans (g419 5 j rfl rfl)) (fun j => (g447 7 j rfl rfl).trans (g419 7 j rfl rfl)) (fun j => (g447 8 j rfl rfl).trans (g419 8 j rfl rfl)) (fun j => (g447 9 j rfl rfl).trans (g419 9 j rfl rfl)) ((y447_0_14).trans (y419_0_14)) ((y447_0_19).trans (y419_0_19)) ((y447_0_22).trans (y419_0_22))
      replace gP : TGP h447 := by
        have hT2 := hT1
        unfold TI at hT2
        have k1 := KRw hR; have k2 := KRh hR
        clear hcs hm hi
        exact ⟨pR447, pC447⟩
      replace gF : TGF h447 := TGF_of gF1 (fun j => (g447 3 j rfl rfl).trans (g419 3 j rfl rfl)) (fun j => (g447 7 j rfl rfl).trans (g419 7 j rfl rfl)) ((y447_41_1).trans (y419_41_1)) ((y447_0_14).trans (y419_0_14)) ((y447_45_1).trans (y419_45_1)) ((y447_0_19).trans (y419_0_19)) ((y447_0_22).trans (y419_0_22))
      show zL _ _ _ (.inl r447 :: []) _
      refine zL_pop (pc' := 451) dL_450 rfl rfl ?_
      refine zL_goto (tgt := 1580) dL_451 rfl ?_
      exact nx _ hS hR hC hT gA gB gC gD gR gV gE gS gP gF
