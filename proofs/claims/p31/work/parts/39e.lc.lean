/-! the law's cases, further -/
set_option maxHeartbeats 4000000 in
theorem lc_6 {Γ : Lc} {i : Int} {h : Hp} (hX : XI Γ.1) (hcs : Γ.2.2.2.2.2.1 ≤ room_1.cells ∧ Γ.2.2.2.2.2.2 ≤ room_1.slots) (hm : Γ.2.2.1 < 2147483648) (hi : 0 ≤ i ∧ i + 6 ≤ Γ.2.2.1) (hS : SI h) (hR : KR h) (hC : KC h) (hT : TI h) (gA : TGA h) (gB : TGB h) (gC : TGC h) (gD : TGD h) (gR : TGR h) (gV : TGV h) (gE : TGE h) (gS : TGS h) (gP : TGP h) (gF : TGF h) (nx : ∀ h' : Hp, SI h' → KR h' → KC h' → TI h' → TGA h' → TGB h' → TGC h' → TGD h' → TGR h' → TGV h' → TGE h' → TGS h' → TGP h' → TGF h' → zL Γ 1580 (lsL i) [] h') : zL Γ 454 (lsL i) [] h := by
  refine zL_aload_n (pc' := 455) dL_454 rfl rfl ?_
  refine zL_aload_n (pc' := 456) dL_455 rfl rfl ?_
  refine zL_iload_n (pc' := 457) dL_456 rfl rfl ?_
  refine zL_iconst (pc' := 458) dL_457 rfl ?_
  refine zL_iadd (pc' := 459) dL_458 rfl ?_
  refine zL_sldE (pc' := 460) (by omega) hm dL_459 rfl (fun v459 e459 q459 => ?_)
  refine zL_aload_n (pc' := 461) dL_460 rfl rfl ?_
  refine zL_iload_n (pc' := 462) dL_461 rfl rfl ?_
  refine zL_iconst (pc' := 463) dL_462 rfl ?_
  refine zL_iadd (pc' := 464) dL_463 rfl ?_
  refine zL_sldE (pc' := 465) (by omega) hm dL_464 rfl (fun v464 e464 q464 => ?_)
  refine zL_aload_n (pc' := 466) dL_465 rfl rfl ?_
  refine zL_iload_n (pc' := 467) dL_466 rfl rfl ?_
  refine zL_iconst (pc' := 468) dL_467 rfl ?_
  refine zL_iadd (pc' := 469) dL_468 rfl ?_
  refine zL_sldE (pc' := 470) (by omega) hm dL_469 rfl (fun v469 e469 q469 => ?_)
  have hev : Ev h := by have z := gC.1; have z2 := hT; unfold TI at z2; exact ⟨by omega, by omega⟩
  refine zL_inv (pc' := 473) hcs kX11_scene vX11_scene lk_L_42 ⟨Nat.le_of_ble_eq_true rfl, Nat.le_of_ble_eq_true rfl⟩ tb30 vq11 rfl [_, _, _] (s_X11_sceneE hS hR hC _ ⟨e459.1, e459.2⟩ _ ⟨e464.1, e464.2⟩ _ ⟨e469.1, e469.2⟩ hev) dL_470 rfl (Nat.le_of_ble_eq_true rfl) rfl ?_
  have hC_470 := hC
  rintro r470 h470 ⟨f470, p470⟩; have F470 := f470; obtain ⟨g470, hS, hR, hC⟩ := f470
  obtain ⟨p470, ch470⟩ := p470
  have pR470 : PicRW h470 := PicRW_un (UnR.rf.fm F470 rfl) gP.1
  have pC470 : PicCW h470 := PicCW_ch hC_470 hC ch470 gP.2
  obtain ⟨p470_0, p470_1, p470_2, a470_0⟩ := p470
  have y470_0_25 : h470 0 25 = h 0 25 := g470 0 25 rfl rfl
  have y470_31_1 : h470 31 1 = h 31 1 := g470 31 1 rfl rfl
  have y470_33_0 : h470 33 0 = h 33 0 := g470 33 0 rfl rfl
  have y470_33_1 : h470 33 1 = h 33 1 := g470 33 1 rfl rfl
  have y470_33_2 : h470 33 2 = h 33 2 := g470 33 2 rfl rfl
  have y470_0_11 : h470 0 11 = h 0 11 := g470 0 11 rfl rfl
  have y470_0_12 : h470 0 12 = h 0 12 := g470 0 12 rfl rfl
  have y470_0_13 : h470 0 13 = h 0 13 := g470 0 13 rfl rfl
  have y470_30_11 : h470 30 11 = h 30 11 := g470 30 11 rfl rfl
  have y470_0_22 : h470 0 22 = h 0 22 := g470 0 22 rfl rfl
  have y470_36_0 : h470 36 0 = h 36 0 := g470 36 0 rfl rfl
  have y470_36_1 : h470 36 1 = h 36 1 := g470 36 1 rfl rfl
  have y470_36_2 : h470 36 2 = h 36 2 := g470 36 2 rfl rfl
  have y470_0_16 : h470 0 16 = h 0 16 := g470 0 16 rfl rfl
  have y470_0_17 : h470 0 17 = h 0 17 := g470 0 17 rfl rfl
  have y470_0_18 : h470 0 18 = h 0 18 := g470 0 18 rfl rfl
  have y470_0_14 : h470 0 14 = h 0 14 := g470 0 14 rfl rfl
  have y470_0_15 : h470 0 15 = h 0 15 := g470 0 15 rfl rfl
  have y470_0_19 : h470 0 19 = h 0 19 := g470 0 19 rfl rfl
  have y470_0_20 : h470 0 20 = h 0 20 := g470 0 20 rfl rfl
  have y470_30_10 : h470 30 10 = h 30 10 := g470 30 10 rfl rfl
  have y470_41_0 : h470 41 0 = h 41 0 := g470 41 0 rfl rfl
  have y470_41_1 : h470 41 1 = h 41 1 := g470 41 1 rfl rfl
  have y470_45_0 : h470 45 0 = h 45 0 := g470 45 0 rfl rfl
  have y470_45_1 : h470 45 1 = h 45 1 := g470 45 1 rfl rfl
  have hT1 := hT; have gA1 := gA; have gB1 := gB; have gC1 := gC; have gD1 := gD; have gR1 := gR; have gV1 := gV; have gE1 := gE; have gS1 := gS; have gP1 := gP; have gF1 := gF
  show zL _ _ _ (.inl r470 :: []) _
  refine zL_pop (pc' := 474) dL_473 rfl rfl ?_
  refine zL_aload_n (pc' := 475) dL_474 rfl rfl ?_
  refine zL_aload_n (pc' := 476) dL_475 rfl rfl ?_
  refine zL_iload_n (pc' := 477) dL_476 rfl rfl ?_
  refine zL_iconst (pc' := 478) dL_477 rfl ?_
  refine zL_iadd (pc' := 479) dL_478 rfl ?_
  refine zL_sldE (pc' := 480) (by omega) hm dL_479 rfl (fun v479 e479 q479 => ?_)
  refine zL_aload_n (pc' := 481) dL_480 rfl rfl ?_
  refine zL_iload_n (pc' := 482) dL_481 rfl rfl ?_
  refine zL_iconst (pc' := 483) dL_482 rfl ?_
  refine zL_iadd (pc' := 484) dL_483 rfl ?_
  refine zL_sldE (pc' := 485) (by omega) hm dL_484 rfl (fun v484 e484 q484 => ?_)
  refine zL_aload_n (pc' := 486) dL_485 rfl rfl ?_
  refine zL_iload_n (pc' := 487) dL_486 rfl rfl ?_
  refine zL_iconst (pc' := 488) dL_487 rfl ?_
  refine zL_iadd (pc' := 489) dL_488 rfl ?_
  refine zL_sldE (pc' := 490) (by omega) hm dL_489 rfl (fun v489 e489 q489 => ?_)
  refine zL_inv (pc' := 493) hcs kX12_scene vX12_scene lk_L_45 ⟨Nat.le_of_ble_eq_true rfl, Nat.le_of_ble_eq_true rfl⟩ tb0 vq12 rfl [_, _, _] (s_X12_sceneE hS hR hC _ ⟨e479.1, e479.2⟩ _ ⟨e484.1, e484.2⟩ _ ⟨e489.1, e489.2⟩) dL_490 rfl (Nat.le_of_ble_eq_true rfl) rfl ?_
  have hC_490 := hC
  rintro r490 h490 ⟨f490, p490⟩; have F490 := f490; obtain ⟨g490, hS, hR, hC⟩ := f490
  obtain ⟨p490, ch490⟩ := p490
  have pR490 : PicRW h490 := PicRW_ch ch490 pR470
  have pC490 : PicCW h490 := PicCW_un (KCm hC_490).2 (UnC.rf.fm F490 rfl) pC470
  obtain ⟨p490_0, p490_1, p490_2, a490_0⟩ := p490
  have y490_0_25 : h490 0 25 = h470 0 25 := g490 0 25 rfl rfl
  have y490_31_1 : h490 31 1 = h470 31 1 := g490 31 1 rfl rfl
  have y490_33_0 : h490 33 0 = h470 33 0 := g490 33 0 rfl rfl
  have y490_33_1 : h490 33 1 = h470 33 1 := g490 33 1 rfl rfl
  have y490_33_2 : h490 33 2 = h470 33 2 := g490 33 2 rfl rfl
  have y490_0_11 : h490 0 11 = h470 0 11 := g490 0 11 rfl rfl
  have y490_0_12 : h490 0 12 = h470 0 12 := g490 0 12 rfl rfl
  have y490_0_13 : h490 0 13 = h470 0 13 := g490 0 13 rfl rfl
  have y490_30_11 : h490 30 11 = h470 30 11 := g490 30 11 rfl rfl
  have y490_0_22 : h490 0 22 = h470 0 22 := g490 0 22 rfl rfl
  have y490_36_0 : h490 36 0 = h470 36 0 := g490 36 0 rfl rfl
  have y490_36_1 : h490 36 1 = h470 36 1 := g490 36 1 rfl rfl
  have y490_36_2 : h490 36 2 = h470 36 2 := g490 36 2 rfl rfl
  have y490_0_16 : h490 0 16 = h470 0 16 := g490 0 16 rfl rfl
  have y490_0_17 : h490 0 17 = h470 0 17 := g490 0 17 rfl rfl
  have y490_0_18 : h490 0 18 = h470 0 18 := g490 0 18 rfl rfl
  have y490_0_14 : h490 0 14 = h470 0 14 := g490 0 14 rfl rfl
  have y490_0_19 : h490 0 19 = h470 0 19 := g490 0 19 rfl rfl
  have y490_0_20 : h490 0 20 = h470 0 20 := g490 0 20 rfl rfl
  have y490_30_10 : h490 30 10 = h470 30 10 := g490 30 10 rfl rfl
  have y490_30_12 : h490 30 12 = h470 30 12 := g490 30 12 rfl rfl
  have y490_41_0 : h490 41 0 = h470 41 0 := g490 41 0 rfl rfl
  have y490_41_1 : h490 41 1 = h470 41 1 := g490 41 1 rfl rfl
  have y490_45_0 : h490 45 0 = h470 45 0 := g490 45 0 rfl rfl
  have y490_45_1 : h490 45 1 = h470 45 1 := g490 45 1 rfl rfl
  replace hT : TI h490 := TI_of hT1 (y490_0_25.trans y470_0_25) (y490_31_1.trans y470_31_1) (y490_33_0.trans y470_33_0) (y490_33_1.trans y470_33_1) (y490_33_2.trans y470_33_2) (y490_0_11.trans y470_0_11) (y490_0_12.trans y470_0_12) (y490_0_13.trans y470_0_13) (y490_30_11.trans y470_30_11) (y490_0_22.trans y470_0_22) (y490_36_0.trans y470_36_0) (y490_36_1.trans y470_36_1) (y490_36_2.trans y470_36_2) (y490_0_16.trans y470_0_16) (y490_0_17.trans y470_0_17) (y490_0_18.trans y470_0_18)
  have qe479 : v479 = v459 := by rw [q479, q459]
  have qe484 : v484 = v464 := by rw [q484, q464]
  have qe489 : v489 = v469 := by rw [q489, q469]
  replace gA : TGA h490 := by
    have hT2 := hT1
    unfold TI at hT2
    have k1 := KRw hR; have k2 := KRh hR
    clear hcs hm hi
    have r01 : r470 = 0 ∨ r470 = 1 := by omega
    have rr : r490 = r470 := by (have pq := p490_2.1; rw [qe479, qe484, qe489] at pq; have e := pq.trans p470_2.1.symm; clear p470_2 p490_2 pq; omega)
    refine ⟨fun j hj => ?_, fun q j hj => ?_⟩
    · have d1 := gA1.1 j hj; have f470_1 := g470 1 j rfl rfl; have f470_10 := g470 10 j rfl rfl; have f490_34 := g490 34 j rfl rfl; have f490_35 := g490 35 j rfl rfl; have es : scF v479 v484 v489 (h470 0 11) (h470 0 12) (h470 0 13) (h470 0 15) ((j % 16 : Nat) : Int) ((j / 16 : Nat) : Int) = scF v459 v464 v469 (h 33 0) (h 33 1) (h 33 2) (h 30 12) ((j % 16 : Nat) : Int) ((j / 16 : Nat) : Int) := (by rw [qe479, qe484, qe489, y470_0_11, y470_0_12, y470_0_13, y470_0_15, hT2.2.1.1, hT2.2.1.2.1, hT2.2.1.2.2, gC1.1.1])
      skip
      rcases r01 with z0 | z1
      · obtain ⟨u1, u2⟩ := (a470_0 j).2 z0; obtain ⟨w1, w2⟩ := (a490_0 j).2 (rr.trans z0); clear es a470_0 a490_0; omega
      · obtain ⟨u0, u1, u2⟩ := (a470_0 j).1 z1; obtain ⟨w1, w2⟩ := (a490_0 j).1 (rr.trans z1); have u0 := u0 hj
        have eir : ((((j / 16 : Nat) : Int) < h470 0 12 ∧ ((j % 16 : Nat) : Int) < h470 0 11) ↔ (((j / 16 : Nat) : Int) < h 33 1 ∧ ((j % 16 : Nat) : Int) < h 33 0)) := by rw [y470_0_12, y470_0_11, hT2.2.1.1, hT2.2.1.2.1]
        by_cases ir : (((j / 16 : Nat) : Int) < h 33 1 ∧ ((j % 16 : Nat) : Int) < h 33 0)
        · have u1 := u1 ir; obtain ⟨w3, w4⟩ := w1 (eir.mpr ir); clear u2 w1 w2 a470_0 a490_0 eir; omega
        · have u2 := u2 ir; obtain ⟨w3, w4⟩ := w2 (fun z => ir (eir.mp z)); clear u1 w1 w2 a470_0 a490_0 eir es; omega
    · have d2 : h 0 22 ≠ 0 → _ := fun z => gA1.2 z j hj; have f470_6 := g470 6 j rfl rfl; have f470_37 := g470 37 j rfl rfl; have f470_11 := g470 11 j rfl rfl; have f470_38 := g470 38 j rfl rfl; have f490_6 := g490 6 j rfl rfl; have f490_37 := g490 37 j rfl rfl; have f490_11 := g490 11 j rfl rfl; have f490_38 := g490 38 j rfl rfl; clear a470_0 a490_0; omega
  replace gB : TGB h490 := TGB_of gB1 (fun j => (g490 12 j rfl rfl).trans (g470 12 j rfl rfl)) (fun j => (g490 32 j rfl rfl).trans (g470 32 j rfl rfl)) ((y490_0_25).trans (y470_0_25))
  replace gC : TGC h490 := by
    have hT2 := hT1
    unfold TI at hT2
    have k1 := KRw hR; have k2 := KRh hR
    clear hcs hm hi
    have ed : drS (h470 0 15) (h470 0 11).toNat (h470 0 12).toNat = drS (h 30 12) (h 33 0).toNat (h 33 1).toNat := by rw [y470_0_11, y470_0_12, y470_0_15, hT2.2.1.1, hT2.2.1.2.1, gC1.1.1]
    have d4 := gC1
    unfold TGC at d4 ⊢
    omega
  replace gD : TGD h490 := TGD_of gD1  ((y490_41_0).trans (y470_41_0)) ((y490_0_14).trans (y470_0_14)) ((y490_45_0).trans (y470_45_0)) ((y490_0_19).trans (y470_0_19)) ((y490_0_22).trans (y470_0_22))
  replace gR : TGR h490 := TGR_of gR1 (fun j => (g490 3 j rfl rfl).trans (g470 3 j rfl rfl)) (fun j => (g490 4 j rfl rfl).trans (g470 4 j rfl rfl)) (fun j => (g490 5 j rfl rfl).trans (g470 5 j rfl rfl)) (fun j => (g490 7 j rfl rfl).trans (g470 7 j rfl rfl)) (fun j => (g490 8 j rfl rfl).trans (g470 8 j rfl rfl)) (fun j => (g490 9 j rfl rfl).trans (g470 9 j rfl rfl)) (fun j => (g490 42 j rfl rfl).trans (g470 42 j rfl rfl)) (fun j => (g490 43 j rfl rfl).trans (g470 43 j rfl rfl)) (fun j => (g490 44 j rfl rfl).trans (g470 44 j rfl rfl)) (fun j => (g490 46 j rfl rfl).trans (g470 46 j rfl rfl)) (fun j => (g490 47 j rfl rfl).trans (g470 47 j rfl rfl)) (fun j => (g490 48 j rfl rfl).trans (g470 48 j rfl rfl)) ((y490_0_14).trans (y470_0_14)) ((y490_0_19).trans (y470_0_19)) ((y490_0_22).trans (y470_0_22))
  replace gV : TGV h490 := by
    have hT2 := hT1
    unfold TI at hT2
    have k1 := KRw hR; have k2 := KRh hR
    clear hcs hm hi
    have r01 : r470 = 0 ∨ r470 = 1 := by omega
    have sb : r470 = 1 → ∀ x y : Int, 0 ≤ scF v459 v464 v469 (h 33 0) (h 33 1) (h 33 2) (h 30 12) x y ∧ scF v459 v464 v469 (h 33 0) (h 33 1) (h 33 2) (h 30 12) x y ≤ 255 := fun z x y => (by obtain ⟨-, -, s1, s2, s3, s4⟩ := p470_2.1.mp z; exact scF_b ⟨s1, s2⟩ ⟨s3, s4⟩)
    refine ⟨fun j hj => ?_, fun q j hj => ?_⟩
    · have fa := a470_0 j
      rw [g490 34 j rfl rfl]
      rcases r01 with z0 | z1
      · rw [(fa.2 z0).1]; exact gV1.1 j hj
      · obtain ⟨-, u1, u2⟩ := fa.1 z1
        by_cases ir : (((j / 16 : Nat) : Int) < h 33 1 ∧ ((j % 16 : Nat) : Int) < h 33 0)
        · rw [u1 ir]; exact sb z1 _ _
        · rw [u2 ir]; exact gV1.1 j hj
    · have d2 : h 0 22 ≠ 0 → _ := fun z => gV1.2 z j hj; have f470_37 := g470 37 j rfl rfl; have f490_37 := g490 37 j rfl rfl; omega
  replace gE : TGE h490 := TGE_of gE1 (fun j => (g490 3 j rfl rfl).trans (g470 3 j rfl rfl)) (fun j => (g490 7 j rfl rfl).trans (g470 7 j rfl rfl)) ((y490_0_14).trans (y470_0_14)) ((y490_0_19).trans (y470_0_19)) ((y490_0_22).trans (y470_0_22))
  replace gS : TGS h490 := TGS_of gS1 (fun j => (g490 3 j rfl rfl).trans (g470 3 j rfl rfl)) (fun j => (g490 4 j rfl rfl).trans (g470 4 j rfl rfl)) (fun j => (g490 5 j rfl rfl).trans (g470 5 j rfl rfl)) (fun j => (g490 7 j rfl rfl).trans (g470 7 j rfl rfl)) (fun j => (g490 8 j rfl rfl).trans (g470 8 j rfl rfl)) (fun j => (g490 9 j rfl rfl).trans (g470 9 j rfl rfl)) ((y490_0_14).trans (y470_0_14)) ((y490_0_19).trans (y470_0_19)) ((y490_0_22).trans (y470_0_22))
  replace gP : TGP h490 := by
    have hT2 := hT1
    unfold TI at hT2
    have k1 := KRw hR; have k2 := KRh hR
    clear hcs hm hi
    exact ⟨pR490, pC490⟩
  replace gF : TGF h490 := TGF_of gF1 (fun j => (g490 3 j rfl rfl).trans (g470 3 j rfl rfl)) (fun j => (g490 7 j rfl rfl).trans (g470 7 j rfl rfl)) ((y490_41_1).trans (y470_41_1)) ((y490_0_14).trans (y470_0_14)) ((y490_45_1).trans (y470_45_1)) ((y490_0_19).trans (y470_0_19)) ((y490_0_22).trans (y470_0_22))
  show zL _ _ _ (.inl r490 :: []) _
  refine zL_pop (pc' := 494) dL_493 rfl rfl ?_
  refine zL_goto (tgt := 1580) dL_494 rfl ?_
  exact nx _ hS hR hC hT gA gB gC gD gR gV gE gS gP gF
