/-! the law's cases, further -/
set_option maxHeartbeats 4000000 in
theorem lc_6 {Γ : Lc} {i : Int} {h : Hp} (hX : XI Γ.1) (hcs : Γ.2.2.2.2.2.1 ≤ room_1.cells ∧ Γ.2.2.2.2.2.2 ≤ room_1.slots) (hm : Γ.2.2.1 < 2147483648) (hi : 0 ≤ i ∧ i + 6 ≤ Γ.2.2.1) (hS : SI h) (hR : KR h) (hC : KC h) (hT : TI h) (gA : TGA h) (gB : TGB h) (gC : TGC h) (nx : ∀ h' : Hp, SI h' → KR h' → KC h' → TI h' → TGA h' → TGB h' → TGC h' → zL Γ 1580 (lsL i) [] h') : zL Γ 454 (lsL i) [] h := by
  refine zL_aload_n (pc' := 455) dL_454 rfl rfl ?_
  refine zL_aload_n (pc' := 456) dL_455 rfl rfl ?_
  refine zL_iload_n (pc' := 457) dL_456 rfl rfl ?_
  refine zL_iconst (pc' := 458) dL_457 rfl ?_
  refine zL_iadd (pc' := 459) dL_458 rfl ?_
  refine zL_sldE (pc' := 460) (by omega) hm dL_459 rfl (fun v459 e459 q459 => ?_)
  refine zL_aload_n (pc' := 461) dL_460 rfl rfl ?_
  refine zL_iload_n (pc' := 462) dL_461 rfl rfl ?_
  refine zL_iconst (pc' := 463) dL_462 rfl ?_
  refine zL_iadd (pc' := 464) dL_463 rfl ?_
  refine zL_sldE (pc' := 465) (by omega) hm dL_464 rfl (fun v464 e464 q464 => ?_)
  refine zL_aload_n (pc' := 466) dL_465 rfl rfl ?_
  refine zL_iload_n (pc' := 467) dL_466 rfl rfl ?_
  refine zL_iconst (pc' := 468) dL_467 rfl ?_
  refine zL_iadd (pc' := 469) dL_468 rfl ?_
  refine zL_sldE (pc' := 470) (by omega) hm dL_469 rfl (fun v469 e469 q469 => ?_)
  have hev : Ev h := by have z := gC.1; have z2 := hT; unfold TI at z2; exact ⟨by omega, by omega⟩
  refine zL_inv (pc' := 473) hcs kX11_scene vX11_scene lk_L_42 ⟨Nat.le_of_ble_eq_true rfl, Nat.le_of_ble_eq_true rfl⟩ tb30 vq11 rfl [_, _, _] (s_X11_sceneE hS hR hC _ ⟨e459.1, e459.2⟩ _ ⟨e464.1, e464.2⟩ _ ⟨e469.1, e469.2⟩ hev) dL_470 rfl (Nat.le_of_ble_eq_true rfl) rfl ?_
  rintro r470 h470 ⟨f470, p470⟩; obtain ⟨g470, hS, hR, hC⟩ := f470
  obtain ⟨p470_0, p470_1, p470_2, a470_0⟩ := p470
  have y470_0_25 : h470 0 25 = h 0 25 := g470 0 25 rfl rfl
  have y470_31_1 : h470 31 1 = h 31 1 := g470 31 1 rfl rfl
  have y470_33_0 : h470 33 0 = h 33 0 := g470 33 0 rfl rfl
  have y470_33_1 : h470 33 1 = h 33 1 := g470 33 1 rfl rfl
  have y470_33_2 : h470 33 2 = h 33 2 := g470 33 2 rfl rfl
  have y470_0_11 : h470 0 11 = h 0 11 := g470 0 11 rfl rfl
  have y470_0_12 : h470 0 12 = h 0 12 := g470 0 12 rfl rfl
  have y470_0_13 : h470 0 13 = h 0 13 := g470 0 13 rfl rfl
  have y470_30_11 : h470 30 11 = h 30 11 := g470 30 11 rfl rfl
  have y470_0_22 : h470 0 22 = h 0 22 := g470 0 22 rfl rfl
  have y470_36_0 : h470 36 0 = h 36 0 := g470 36 0 rfl rfl
  have y470_36_1 : h470 36 1 = h 36 1 := g470 36 1 rfl rfl
  have y470_36_2 : h470 36 2 = h 36 2 := g470 36 2 rfl rfl
  have y470_0_16 : h470 0 16 = h 0 16 := g470 0 16 rfl rfl
  have y470_0_17 : h470 0 17 = h 0 17 := g470 0 17 rfl rfl
  have y470_0_18 : h470 0 18 = h 0 18 := g470 0 18 rfl rfl
  have y470_0_15 : h470 0 15 = h 0 15 := g470 0 15 rfl rfl
  have y470_0_20 : h470 0 20 = h 0 20 := g470 0 20 rfl rfl
  have y470_30_10 : h470 30 10 = h 30 10 := g470 30 10 rfl rfl
  have hT1 := hT; have gA1 := gA; have gB1 := gB; have gC1 := gC
  show zL _ _ _ (.inl r470 :: []) _
  refine zL_pop (pc' := 474) dL_473 rfl rfl ?_
  refine zL_aload_n (pc' := 475) dL_474 rfl rfl ?_
  refine zL_aload_n (pc' := 476) dL_475 rfl rfl ?_
  refine zL_iload_n (pc' := 477) dL_476 rfl rfl ?_
  refine zL_iconst (pc' := 478) dL_477 rfl ?_
  refine zL_iadd (pc' := 479) dL_478 rfl ?_
  refine zL_sldE (pc' := 480) (by omega) hm dL_479 rfl (fun v479 e479 q479 => ?_)
  refine zL_aload_n (pc' := 481) dL_480 rfl rfl ?_
  refine zL_iload_n (pc' := 482) dL_481 rfl rfl ?_
  refine zL_iconst (pc' := 483) dL_482 rfl ?_
  refine zL_iadd (pc' := 484) dL_483 rfl ?_
  refine zL_sldE (pc' := 485) (by omega) hm dL_484 rfl (fun v484 e484 q484 => ?_)
  refine zL_aload_n (pc' := 486) dL_485 rfl rfl ?_
  refine zL_iload_n (pc' := 487) dL_486 rfl rfl ?_
  refine zL_iconst (pc' := 488) dL_487 rfl ?_
  refine zL_iadd (pc' := 489) dL_488 rfl ?_
  refine zL_sldE (pc' := 490) (by omega) hm dL_489 rfl (fun v489 e489 q489 => ?_)
  refine zL_inv (pc' := 493) hcs kX12_scene vX12_scene lk_L_45 ⟨Nat.le_of_ble_eq_true rfl, Nat.le_of_ble_eq_true rfl⟩ tb0 vq12 rfl [_, _, _] (s_X12_sceneE hS hR hC _ ⟨e479.1, e479.2⟩ _ ⟨e484.1, e484.2⟩ _ ⟨e489.1, e489.2⟩) dL_490 rfl (Nat.le_of_ble_eq_true rfl) rfl ?_
  rintro r490 h490 ⟨f490, p490⟩; obtain ⟨g490, hS, hR, hC⟩ := f490
  obtain ⟨p490_0, p490_1, p490_2, a490_0⟩ := p490
  have y490_0_25 : h490 0 25 = h470 0 25 := g490 0 25 rfl rfl
  have y490_31_1 : h490 31 1 = h470 31 1 := g490 31 1 rfl rfl
  have y490_33_0 : h490 33 0 = h470 33 0 := g490 33 0 rfl rfl
  have y490_33_1 : h490 33 1 = h470 33 1 := g490 33 1 rfl rfl
  have y490_33_2 : h490 33 2 = h470 33 2 := g490 33 2 rfl rfl
  have y490_0_11 : h490 0 11 = h470 0 11 := g490 0 11 rfl rfl
  have y490_0_12 : h490 0 12 = h470 0 12 := g490 0 12 rfl rfl
  have y490_0_13 : h490 0 13 = h470 0 13 := g490 0 13 rfl rfl
  have y490_30_11 : h490 30 11 = h470 30 11 := g490 30 11 rfl rfl
  have y490_0_22 : h490 0 22 = h470 0 22 := g490 0 22 rfl rfl
  have y490_36_0 : h490 36 0 = h470 36 0 := g490 36 0 rfl rfl
  have y490_36_1 : h490 36 1 = h470 36 1 := g490 36 1 rfl rfl
  have y490_36_2 : h490 36 2 = h470 36 2 := g490 36 2 rfl rfl
  have y490_0_16 : h490 0 16 = h470 0 16 := g490 0 16 rfl rfl
  have y490_0_17 : h490 0 17 = h470 0 17 := g490 0 17 rfl rfl
  have y490_0_18 : h490 0 18 = h470 0 18 := g490 0 18 rfl rfl
  have y490_0_20 : h490 0 20 = h470 0 20 := g490 0 20 rfl rfl
  have y490_30_10 : h490 30 10 = h470 30 10 := g490 30 10 rfl rfl
  have y490_30_12 : h490 30 12 = h470 30 12 := g490 30 12 rfl rfl
  replace hT : TI h490 := TI_of hT1 (y490_0_25.trans y470_0_25) (y490_31_1.trans y470_31_1) (y490_33_0.trans y470_33_0) (y490_33_1.trans y470_33_1) (y490_33_2.trans y470_33_2) (y490_0_11.trans y470_0_11) (y490_0_12.trans y470_0_12) (y490_0_13.trans y470_0_13) (y490_30_11.trans y470_30_11) (y490_0_22.trans y470_0_22) (y490_36_0.trans y470_36_0) (y490_36_1.trans y470_36_1) (y490_36_2.trans y470_36_2) (y490_0_16.trans y470_0_16) (y490_0_17.trans y470_0_17) (y490_0_18.trans y470_0_18)
  have qe479 : v479 = v459 := by rw [q479, q459]
  have qe484 : v484 = v464 := by rw [q484, q464]
  have qe489 : v489 = v469 := by rw [q489, q469]
  replace gA : TGA h490 := by
    have hT2 := hT1
    unfold TI at hT2
    have k1 := KRw hR; have k2 := KRh hR
    clear hcs hm hi
    refine ⟨fun j hj => ?_, fun q j hj => ?_⟩
    · have d1 := gA1.1 j hj; have f470_1 := g470 1 j rfl rfl; have f470_10 := g470 10 j rfl rfl; have fa470_0 := a470_0 j; have f490_34 := g490 34 j rfl rfl; have f490_35 := g490 35 j rfl rfl; have fa490_0 := a490_0 j; have es : scF v479 v484 v489 (h470 0 11) (h470 0 12) (h470 0 13) (h470 0 15) ((j % 16 : Nat) : Int) ((j / 16 : Nat) : Int) = scF v459 v464 v469 (h 33 0) (h 33 1) (h 33 2) (h 30 12) ((j % 16 : Nat) : Int) ((j / 16 : Nat) : Int) := (by rw [qe479, qe484, qe489, y470_0_11, y470_0_12, y470_0_13, y470_0_15, hT2.2.1.1, hT2.2.1.2.1, hT2.2.1.2.2, gC1.1.1]); (by_cases er1 : r470 = 1 <;> by_cases er2 : r490 = 1 <;> omega)
    · have d2 : h 0 22 ≠ 0 → _ := fun z => gA1.2 z j hj; have f470_6 := g470 6 j rfl rfl; have f470_37 := g470 37 j rfl rfl; have f470_11 := g470 11 j rfl rfl; have f470_38 := g470 38 j rfl rfl; have f490_6 := g490 6 j rfl rfl; have f490_37 := g490 37 j rfl rfl; have f490_11 := g490 11 j rfl rfl; have f490_38 := g490 38 j rfl rfl; omega
  replace gB : TGB h490 := TGB_of gB1 (fun j => (g490 12 j rfl rfl).trans (g470 12 j rfl rfl)) (fun j => (g490 32 j rfl rfl).trans (g470 32 j rfl rfl)) ((y490_0_25).trans (y470_0_25))
  replace gC : TGC h490 := by
    have hT2 := hT1
    unfold TI at hT2
    have k1 := KRw hR; have k2 := KRh hR
    clear hcs hm hi
    have ed : drS (h470 0 15) (h470 0 11).toNat (h470 0 12).toNat = drS (h 30 12) (h 33 0).toNat (h 33 1).toNat := by rw [y470_0_11, y470_0_12, y470_0_15, hT2.2.1.1, hT2.2.1.2.1, gC1.1.1]
    have d4 := gC1
    unfold TGC at d4 ⊢
    omega
  show zL _ _ _ (.inl r490 :: []) _
  refine zL_pop (pc' := 494) dL_493 rfl rfl ?_
  refine zL_goto (tgt := 1580) dL_494 rfl ?_
  exact nx _ hS hR hC hT gA gB gC
set_option maxHeartbeats 4000000 in
theorem lc_7 {Γ : Lc} {i : Int} {h : Hp} (hX : XI Γ.1) (hcs : Γ.2.2.2.2.2.1 ≤ room_1.cells ∧ Γ.2.2.2.2.2.2 ≤ room_1.slots) (hm : Γ.2.2.1 < 2147483648) (hi : 0 ≤ i ∧ i + 6 ≤ Γ.2.2.1) (hS : SI h) (hR : KR h) (hC : KC h) (hT : TI h) (gA : TGA h) (gB : TGB h) (gC : TGC h) (nx : ∀ h' : Hp, SI h' → KR h' → KC h' → TI h' → TGA h' → TGB h' → TGC h' → zL Γ 1580 (lsL i) [] h') : zL Γ 497 (lsL i) [] h := by
  refine zL_aload_n (pc' := 498) dL_497 rfl rfl ?_
  refine zL_aload_n (pc' := 499) dL_498 rfl rfl ?_
  refine zL_iload_n (pc' := 500) dL_499 rfl rfl ?_
  refine zL_iconst (pc' := 501) dL_500 rfl ?_
  refine zL_iadd (pc' := 502) dL_501 rfl ?_
  refine zL_sldE (pc' := 503) (by omega) hm dL_502 rfl (fun v502 e502 q502 => ?_)
  have htb : ∀ j : Nat, (j : Int) < h 31 1 → 0 ≤ h 32 j ∧ h 32 j ≤ 255 := fun j hj => by have z2 := hT; unfold TI at z2; have z := gB j (by omega); omega
  have hev : Ev h := by have z := gC.1; have z2 := hT; unfold TI at z2; exact ⟨by omega, by omega⟩
  refine zL_inv (pc' := 506) hcs kX11_truth vX11_truth lk_L_46 ⟨Nat.le_of_ble_eq_true rfl, Nat.le_of_ble_eq_true rfl⟩ tb30 vq11 rfl [_] (s_X11_truthE hS hR hC _ ⟨e502.1, e502.2⟩ htb hev) dL_503 rfl (Nat.le_of_ble_eq_true rfl) rfl ?_
  rintro r503 h503 ⟨f503, p503⟩; obtain ⟨g503, hS, hR, hC⟩ := f503
  obtain ⟨p503_0, p503_1, p503_2, a503_0, a503_1⟩ := p503
  have y503_0_25 : h503 0 25 = h 0 25 := g503 0 25 rfl rfl
  have y503_33_0 : h503 33 0 = h 33 0 := g503 33 0 rfl rfl
  have y503_33_1 : h503 33 1 = h 33 1 := g503 33 1 rfl rfl
  have y503_33_2 : h503 33 2 = h 33 2 := g503 33 2 rfl rfl
  have y503_0_11 : h503 0 11 = h 0 11 := g503 0 11 rfl rfl
  have y503_0_12 : h503 0 12 = h 0 12 := g503 0 12 rfl rfl
  have y503_0_13 : h503 0 13 = h 0 13 := g503 0 13 rfl rfl
  have y503_30_11 : h503 30 11 = h 30 11 := g503 30 11 rfl rfl
  have y503_0_22 : h503 0 22 = h 0 22 := g503 0 22 rfl rfl
  have y503_36_0 : h503 36 0 = h 36 0 := g503 36 0 rfl rfl
  have y503_36_1 : h503 36 1 = h 36 1 := g503 36 1 rfl rfl
  have y503_36_2 : h503 36 2 = h 36 2 := g503 36 2 rfl rfl
  have y503_0_16 : h503 0 16 = h 0 16 := g503 0 16 rfl rfl
  have y503_0_17 : h503 0 17 = h 0 17 := g503 0 17 rfl rfl
  have y503_0_18 : h503 0 18 = h 0 18 := g503 0 18 rfl rfl
  have y503_0_15 : h503 0 15 = h 0 15 := g503 0 15 rfl rfl
  have y503_0_20 : h503 0 20 = h 0 20 := g503 0 20 rfl rfl
  have y503_30_10 : h503 30 10 = h 30 10 := g503 30 10 rfl rfl
  have y503_30_12 : h503 30 12 = h 30 12 := g503 30 12 rfl rfl
  have hT1 := hT; have gA1 := gA; have gB1 := gB; have gC1 := gC
  show zL _ _ _ (.inl r503 :: []) _
  refine zL_pop (pc' := 507) dL_506 rfl rfl ?_
  refine zL_aload_n (pc' := 508) dL_507 rfl rfl ?_
  refine zL_aload_n (pc' := 509) dL_508 rfl rfl ?_
  refine zL_iload_n (pc' := 510) dL_509 rfl rfl ?_
  refine zL_iconst (pc' := 511) dL_510 rfl ?_
  refine zL_iadd (pc' := 512) dL_511 rfl ?_
  refine zL_sldE (pc' := 513) (by omega) hm dL_512 rfl (fun v512 e512 q512 => ?_)
  refine zL_inv (pc' := 516) hcs kX12_truth vX12_truth lk_L_49 ⟨Nat.le_of_ble_eq_true rfl, Nat.le_of_ble_eq_true rfl⟩ tb0 vq12 rfl [_] (s_X12_truthE hS hR hC _ ⟨e512.1, e512.2⟩) dL_513 rfl (Nat.le_of_ble_eq_true rfl) rfl ?_
  rintro r513 h513 ⟨f513, p513⟩; obtain ⟨g513, hS, hR, hC⟩ := f513
  obtain ⟨p513_0, p513_1, p513_2, a513_0, a513_1⟩ := p513
  have y513_31_1 : h513 31 1 = h503 31 1 := g513 31 1 rfl rfl
  have y513_33_0 : h513 33 0 = h503 33 0 := g513 33 0 rfl rfl
  have y513_33_1 : h513 33 1 = h503 33 1 := g513 33 1 rfl rfl
  have y513_33_2 : h513 33 2 = h503 33 2 := g513 33 2 rfl rfl
  have y513_0_11 : h513 0 11 = h503 0 11 := g513 0 11 rfl rfl
  have y513_0_12 : h513 0 12 = h503 0 12 := g513 0 12 rfl rfl
  have y513_0_13 : h513 0 13 = h503 0 13 := g513 0 13 rfl rfl
  have y513_30_11 : h513 30 11 = h503 30 11 := g513 30 11 rfl rfl
  have y513_0_22 : h513 0 22 = h503 0 22 := g513 0 22 rfl rfl
  have y513_36_0 : h513 36 0 = h503 36 0 := g513 36 0 rfl rfl
  have y513_36_1 : h513 36 1 = h503 36 1 := g513 36 1 rfl rfl
  have y513_36_2 : h513 36 2 = h503 36 2 := g513 36 2 rfl rfl
  have y513_0_16 : h513 0 16 = h503 0 16 := g513 0 16 rfl rfl
  have y513_0_17 : h513 0 17 = h503 0 17 := g513 0 17 rfl rfl
  have y513_0_18 : h513 0 18 = h503 0 18 := g513 0 18 rfl rfl
  have y513_0_15 : h513 0 15 = h503 0 15 := g513 0 15 rfl rfl
  have y513_0_20 : h513 0 20 = h503 0 20 := g513 0 20 rfl rfl
  have y513_30_10 : h513 30 10 = h503 30 10 := g513 30 10 rfl rfl
  have y513_30_12 : h513 30 12 = h503 30 12 := g513 30 12 rfl rfl
  have qe512 : v512 = v502 := by rw [q512, q502]
  replace hT : TI h513 := by
    have hT2 := hT1
    unfold TI at hT2 ⊢
    omega
  replace gA : TGA h513 := by
    have hT2 := hT1
    unfold TI at hT2
    have k1 := KRw hR; have k2 := KRh hR
    clear hcs hm hi
    refine ⟨fun j hj => ?_, fun q j hj => ?_⟩
    · have d1 := gA1.1 j hj; have f503_1 := g503 1 j rfl rfl; have f503_10 := g503 10 j rfl rfl; have fa503_0 := a503_0 j; have f513_34 := g513 34 j rfl rfl; have f513_35 := g513 35 j rfl rfl; have fa513_0 := a513_0 j; have et : 6 ≤ h 0 25 → trT v512 (h503 0 11) (h503 0 12) (fun i => h503 12 i % 256) (256 * ((((j % 16 : Nat) : Int) + h503 0 13) % 2 + (((j / 16 : Nat) : Int) + h503 0 13 / 2) % 2).toNat + j) = trT v502 (h 33 0) (h 33 1) (h 32) (256 * ((((j % 16 : Nat) : Int) + h 33 2) % 2 + (((j / 16 : Nat) : Int) + h 33 2 / 2) % 2).toNat + j) := (fun h6 => by rw [qe512, y503_0_11, y503_0_12, y503_0_13, hT2.2.1.1, hT2.2.1.2.1, hT2.2.1.2.2]; exact trT_cong (by show h503 12 _ % 256 = _; rw [g503 12 _ rfl rfl]; exact (gB1 _ (by omega)).symm) (by show h503 12 _ % 256 = _; rw [g503 12 _ rfl rfl]; exact (gB1 _ (by omega)).symm)); (by_cases er1 : r503 = 1 <;> by_cases er2 : r513 = 1 <;> omega)
    · have d2 : h 0 22 ≠ 0 → _ := fun z => gA1.2 z j hj; have f503_6 := g503 6 j rfl rfl; have f503_37 := g503 37 j rfl rfl; have f503_11 := g503 11 j rfl rfl; have f503_38 := g503 38 j rfl rfl; have f513_6 := g513 6 j rfl rfl; have f513_37 := g513 37 j rfl rfl; have f513_11 := g513 11 j rfl rfl; have f513_38 := g513 38 j rfl rfl; omega
  replace gB : TGB h513 := by
    have hT2 := hT1
    unfold TI at hT2
    have k1 := KRw hR; have k2 := KRh hR
    clear hcs hm hi
    intro j hj
    have d3 := gB1 j; have f503_12 := g503 12 j rfl rfl; have f503_32 := g503 32 j rfl rfl; have f513_12 := g513 12 j rfl rfl; have f513_32 := g513 32 j rfl rfl; omega
  replace gC : TGC h513 := TGC_of gC1  ((y513_0_15).trans (y503_0_15)) ((y513_30_12).trans (y503_30_12)) ((y513_0_11).trans (y503_0_11)) ((y513_0_12).trans (y503_0_12)) ((y513_0_20).trans (y503_0_20)) ((y513_30_10).trans (y503_30_10)) ((y513_0_16).trans (y503_0_16)) ((y513_0_17).trans (y503_0_17)) ((y513_0_22).trans (y503_0_22))
  show zL _ _ _ (.inl r513 :: []) _
  refine zL_pop (pc' := 517) dL_516 rfl rfl ?_
  refine zL_goto (tgt := 1580) dL_517 rfl ?_
  exact nx _ hS hR hC hT gA gB gC
set_option maxHeartbeats 4000000 in
theorem lc_8 {Γ : Lc} {i : Int} {h : Hp} (hX : XI Γ.1) (hcs : Γ.2.2.2.2.2.1 ≤ room_1.cells ∧ Γ.2.2.2.2.2.2 ≤ room_1.slots) (hm : Γ.2.2.1 < 2147483648) (hi : 0 ≤ i ∧ i + 6 ≤ Γ.2.2.1) (hS : SI h) (hR : KR h) (hC : KC h) (hT : TI h) (gA : TGA h) (gB : TGB h) (gC : TGC h) (nx : ∀ h' : Hp, SI h' → KR h' → KC h' → TI h' → TGA h' → TGB h' → TGC h' → zL Γ 1580 (lsL i) [] h') : zL Γ 520 (lsL i) [] h := by
  refine zL_aload_n (pc' := 521) dL_520 rfl rfl ?_
  refine zL_aload_n (pc' := 522) dL_521 rfl rfl ?_
  refine zL_iload_n (pc' := 523) dL_522 rfl rfl ?_
  refine zL_iconst (pc' := 524) dL_523 rfl ?_
  refine zL_iadd (pc' := 525) dL_524 rfl ?_
  refine zL_sldE (pc' := 526) (by omega) hm dL_525 rfl (fun v525 e525 q525 => ?_)
  refine zL_inv (pc' := 529) hcs kX11_rawIs vX11_rawIs lk_L_50 ⟨Nat.le_of_ble_eq_true rfl, Nat.le_of_ble_eq_true rfl⟩ tb30 vq11 rfl [_] (s_X11_rawIsE (b := true) (κ := _) hC (Fr.rf hS) _ ⟨e525.1, e525.2⟩) dL_526 rfl (Nat.le_of_ble_eq_true rfl) rfl ?_
  rintro r526 z526 ⟨hz526, p526⟩; subst z526
  have hT1 := hT; have gA1 := gA; have gB1 := gB; have gC1 := gC
  show zL _ _ _ (.inl r526 :: []) _
  refine zL_aload_n (pc' := 530) dL_529 rfl rfl ?_
  refine zL_aload_n (pc' := 531) dL_530 rfl rfl ?_
  refine zL_iload_n (pc' := 532) dL_531 rfl rfl ?_
  refine zL_iconst (pc' := 533) dL_532 rfl ?_
  refine zL_iadd (pc' := 534) dL_533 rfl ?_
  refine zL_sldE (pc' := 535) (by omega) hm dL_534 rfl (fun v534 e534 q534 => ?_)
  refine zL_inv (pc' := 538) hcs kX12_rawIs vX12_rawIs lk_L_53 ⟨Nat.le_of_ble_eq_true rfl, Nat.le_of_ble_eq_true rfl⟩ tb0 vq12 rfl [_] (s_X12_rawIsG (b := true) (κ := _) hR (Fr.rf hS) _ ⟨e534.1, e534.2⟩) dL_535 rfl (Nat.le_of_ble_eq_true rfl) rfl ?_
  rintro r535 z535 ⟨hz535, p535⟩; subst z535
  show zL _ _ _ (.inl r535 :: .inl r526 :: []) _
  have qq534 : v534 = v525 := by rw [q534, q525]
  have hT0 := hT1
  unfold TI at hT0
  have gzC := gC1
  unfold TGC at gzC
  have k1 := KCw hC
  have k2 := KCh hC
  have k3 := KRp hR
  have c3 := cnt_sum (f := h 10) (g := h 35) (W := (h 33 0).toNat) (H := (h 33 1).toNat) (fun j => by have := KRd hR j; omega) (by omega) (by omega) (fun j hj => by have d := gA.1 j hj; omega) (fun j hj ho => by have d := gA.1 j hj; omega)
  have c4 : smS (h 1) (h 33 0).toNat (h 33 1).toNat = smS (h 34) (h 33 0).toNat (h 33 1).toNat := smS_cong _ (fun y hy => smR_cong _ (by omega) (fun x hx => (gA.1 _ (by omega)).2.2))
  have c5 : 5 ≤ v534 → v534 ≤ 7 → ctS (v534 - 5) (h 0 13) (h 33 0).toNat (h 33 1).toNat = if v534 - 5 = 1 then h 33 0 * h 33 1 / 2 else h 33 0 * h 33 1 / 4 := fun q1 q2 => ct_eq (by omega) (by omega) (by omega) (by omega)
  have c6 : v534 = 6 → (if v534 - 5 = 1 then h 33 0 * h 33 1 / 2 else h 33 0 * h 33 1 / 4) = h 33 0 * h 33 1 / 2 := fun q1 => if_pos (by omega)
  have c7 : v534 ≠ 6 → (if v534 - 5 = 1 then h 33 0 * h 33 1 / 2 else h 33 0 * h 33 1 / 4) = h 33 0 * h 33 1 / 4 := fun q1 => if_neg (by omega)
  rw [← hT0.2.1.1, ← hT0.2.1.2.1] at p535
  have rr : r526 = r535 := by
    obtain ⟨a0, a1, a2, a3, a4, a6, a57, an⟩ := p526
    obtain ⟨b0, b1, b2, b3, b4, b5, bn⟩ := p535
    have ev : v534 = v525 := by rw [q534, q525]
    rcases (by omega : v525 < 0 ∨ 7 < v525 ∨ v525 = 0 ∨ v525 = 1 ∨ v525 = 2 ∨ v525 = 3 ∨ v525 = 4 ∨ v525 = 6 ∨ v525 = 5 ∨ v525 = 7) with e | e | e | e | e | e | e | e | e | e
    · exact (an (Or.inl e)).trans (bn (Or.inl (ev ▸ e))).symm
    · exact (an (Or.inr e)).trans (bn (Or.inr (ev ▸ e))).symm
    · exact (a0 e).trans (b0 (ev.trans e)).symm
    · exact (a1 e).trans (b1 (ev.trans e)).symm
    · exact ((a2 e).trans hT0.2.1.2.2).trans (b2 (ev.trans e)).symm
    · exact (a3 e).trans (c3.symm.trans (b3 (ev.trans e)).symm)
    · exact (a4 e).trans (c4.symm.trans (b4 (ev.trans e)).symm)
    · exact ((a6 e).trans (c6 (ev.trans e)).symm).trans ((c5 (by omega) (by omega)).symm.trans (b5 (by omega) (by omega)).symm)
    · exact ((a57 (Or.inl e)).trans (c7 (by omega)).symm).trans ((c5 (by omega) (by omega)).symm.trans (b5 (by omega) (by omega)).symm)
    · exact ((a57 (Or.inr e)).trans (c7 (by omega)).symm).trans ((c5 (by omega) (by omega)).symm.trans (b5 (by omega) (by omega)).symm)
  refine zL_cm_eq (tgt := 1580) dL_538 rfl (by first | exact rr | exact rr.symm) ?_
  exact nx _ hS hR hC hT gA gB gC
set_option maxHeartbeats 4000000 in
theorem lc_9 {Γ : Lc} {i : Int} {h : Hp} (hX : XI Γ.1) (hcs : Γ.2.2.2.2.2.1 ≤ room_1.cells ∧ Γ.2.2.2.2.2.2 ≤ room_1.slots) (hm : Γ.2.2.1 < 2147483648) (hi : 0 ≤ i ∧ i + 6 ≤ Γ.2.2.1) (hS : SI h) (hR : KR h) (hC : KC h) (hT : TI h) (gA : TGA h) (gB : TGB h) (gC : TGC h) (nx : ∀ h' : Hp, SI h' → KR h' → KC h' → TI h' → TGA h' → TGB h' → TGC h' → zL Γ 1580 (lsL i) [] h') : zL Γ 543 (lsL i) [] h := by
  refine zL_aload_n (pc' := 544) dL_543 rfl rfl ?_
  refine zL_aload_n (pc' := 545) dL_544 rfl rfl ?_
  refine zL_iload_n (pc' := 546) dL_545 rfl rfl ?_
  refine zL_iconst (pc' := 547) dL_546 rfl ?_
  refine zL_iadd (pc' := 548) dL_547 rfl ?_
  refine zL_sldE (pc' := 549) (by omega) hm dL_548 rfl (fun v548 e548 q548 => ?_)
  refine zL_aload_n (pc' := 550) dL_549 rfl rfl ?_
  refine zL_iload_n (pc' := 551) dL_550 rfl rfl ?_
  refine zL_iconst (pc' := 552) dL_551 rfl ?_
  refine zL_iadd (pc' := 553) dL_552 rfl ?_
  refine zL_sldE (pc' := 554) (by omega) hm dL_553 rfl (fun v553 e553 q553 => ?_)
  refine zL_inv (pc' := 557) hcs kX11_colour vX11_colour lk_L_54 ⟨Nat.le_of_ble_eq_true rfl, Nat.le_of_ble_eq_true rfl⟩ tb30 vq11 rfl [_, _] (s_X11_colour (b := true) (κ := _) hC (Fr.rf hS) _ ⟨e548.1, e548.2⟩ _ ⟨e553.1, e553.2⟩) dL_554 rfl (Nat.le_of_ble_eq_true rfl) rfl ?_
  rintro r554 z554 ⟨hz554, p554⟩; subst z554
  have hT1 := hT; have gA1 := gA; have gB1 := gB; have gC1 := gC
  show zL _ _ _ (.inl r554 :: []) _
  refine zL_pop (pc' := 558) dL_557 rfl rfl ?_
  refine zL_aload_n (pc' := 559) dL_558 rfl rfl ?_
  refine zL_aload_n (pc' := 560) dL_559 rfl rfl ?_
  refine zL_iload_n (pc' := 561) dL_560 rfl rfl ?_
  refine zL_iconst (pc' := 562) dL_561 rfl ?_
  refine zL_iadd (pc' := 563) dL_562 rfl ?_
  refine zL_sldE (pc' := 564) (by omega) hm dL_563 rfl (fun v563 e563 q563 => ?_)
  refine zL_aload_n (pc' := 565) dL_564 rfl rfl ?_
  refine zL_iload_n (pc' := 566) dL_565 rfl rfl ?_
  refine zL_iconst (pc' := 567) dL_566 rfl ?_
  refine zL_iadd (pc' := 568) dL_567 rfl ?_
  refine zL_sldE (pc' := 569) (by omega) hm dL_568 rfl (fun v568 e568 q568 => ?_)
  refine zL_inv (pc' := 572) hcs kX12_colour vX12_colour lk_L_58 ⟨Nat.le_of_ble_eq_true rfl, Nat.le_of_ble_eq_true rfl⟩ tb0 vq12 rfl [_, _] (s_X12_colour (b := true) (κ := _) hR (Fr.rf hS) _ ⟨e563.1, e563.2⟩ _ ⟨e568.1, e568.2⟩) dL_569 rfl (Nat.le_of_ble_eq_true rfl) rfl ?_
  rintro r569 z569 ⟨hz569, p569⟩; subst z569
  show zL _ _ _ (.inl r569 :: []) _
  refine zL_pop (pc' := 573) dL_572 rfl rfl ?_
  refine zL_goto (tgt := 1580) dL_573 rfl ?_
  exact nx _ hS hR hC hT gA gB gC
set_option maxHeartbeats 4000000 in
theorem lc_10 {Γ : Lc} {i : Int} {h : Hp} (hX : XI Γ.1) (hcs : Γ.2.2.2.2.2.1 ≤ room_1.cells ∧ Γ.2.2.2.2.2.2 ≤ room_1.slots) (hm : Γ.2.2.1 < 2147483648) (hi : 0 ≤ i ∧ i + 6 ≤ Γ.2.2.1) (hS : SI h) (hR : KR h) (hC : KC h) (hT : TI h) (gA : TGA h) (gB : TGB h) (gC : TGC h) (nx : ∀ h' : Hp, SI h' → KR h' → KC h' → TI h' → TGA h' → TGB h' → TGC h' → zL Γ 1580 (lsL i) [] h') : zL Γ 576 (lsL i) [] h := by
  refine zL_aload_n (pc' := 577) dL_576 rfl rfl ?_
  refine zL_aload_n (pc' := 578) dL_577 rfl rfl ?_
  refine zL_iload_n (pc' := 579) dL_578 rfl rfl ?_
  refine zL_iconst (pc' := 580) dL_579 rfl ?_
  refine zL_iadd (pc' := 581) dL_580 rfl ?_
  refine zL_sldE (pc' := 582) (by omega) hm dL_581 rfl (fun v581 e581 q581 => ?_)
  refine zL_aload_n (pc' := 583) dL_582 rfl rfl ?_
  refine zL_iload_n (pc' := 584) dL_583 rfl rfl ?_
  refine zL_iconst (pc' := 585) dL_584 rfl ?_
  refine zL_iadd (pc' := 586) dL_585 rfl ?_
  refine zL_sldE (pc' := 587) (by omega) hm dL_586 rfl (fun v586 e586 q586 => ?_)
  refine zL_inv (pc' := 590) hcs kX11_stage vX11_stage lk_L_59 ⟨Nat.le_of_ble_eq_true rfl, Nat.le_of_ble_eq_true rfl⟩ tb30 vq11 rfl [_, _] (s_X11_stage (b := true) (κ := _) hC (Fr.rf hS) _ ⟨e581.1, e581.2⟩ _ ⟨e586.1, e586.2⟩) dL_587 rfl (Nat.le_of_ble_eq_true rfl) rfl ?_
  rintro r587 z587 ⟨hz587, p587⟩; subst z587
  have hT1 := hT; have gA1 := gA; have gB1 := gB; have gC1 := gC
  show zL _ _ _ (.inl r587 :: []) _
  refine zL_pop (pc' := 591) dL_590 rfl rfl ?_
  refine zL_aload_n (pc' := 592) dL_591 rfl rfl ?_
  refine zL_aload_n (pc' := 593) dL_592 rfl rfl ?_
  refine zL_iload_n (pc' := 594) dL_593 rfl rfl ?_
  refine zL_iconst (pc' := 595) dL_594 rfl ?_
  refine zL_iadd (pc' := 596) dL_595 rfl ?_
  refine zL_sldE (pc' := 597) (by omega) hm dL_596 rfl (fun v596 e596 q596 => ?_)
  refine zL_aload_n (pc' := 598) dL_597 rfl rfl ?_
  refine zL_iload_n (pc' := 599) dL_598 rfl rfl ?_
  refine zL_iconst (pc' := 600) dL_599 rfl ?_
  refine zL_iadd (pc' := 601) dL_600 rfl ?_
  refine zL_sldE (pc' := 602) (by omega) hm dL_601 rfl (fun v601 e601 q601 => ?_)
  refine zL_inv (pc' := 605) hcs kX12_stage vX12_stage lk_L_62 ⟨Nat.le_of_ble_eq_true rfl, Nat.le_of_ble_eq_true rfl⟩ tb0 vq12 rfl [_, _] (s_X12_stage (b := true) (κ := _) hR (Fr.rf hS) _ ⟨e596.1, e596.2⟩ _ ⟨e601.1, e601.2⟩) dL_602 rfl (Nat.le_of_ble_eq_true rfl) rfl ?_
  rintro r602 z602 ⟨hz602, p602⟩; subst z602
  show zL _ _ _ (.inl r602 :: []) _
  refine zL_pop (pc' := 606) dL_605 rfl rfl ?_
  refine zL_goto (tgt := 1580) dL_606 rfl ?_
  exact nx _ hS hR hC hT gA gB gC
set_option maxHeartbeats 4000000 in
theorem lc_11 {Γ : Lc} {i : Int} {h : Hp} (hX : XI Γ.1) (hcs : Γ.2.2.2.2.2.1 ≤ room_1.cells ∧ Γ.2.2.2.2.2.2 ≤ room_1.slots) (hm : Γ.2.2.1 < 2147483648) (hi : 0 ≤ i ∧ i + 6 ≤ Γ.2.2.1) (hS : SI h) (hR : KR h) (hC : KC h) (hT : TI h) (gA : TGA h) (gB : TGB h) (gC : TGC h) (nx : ∀ h' : Hp, SI h' → KR h' → KC h' → TI h' → TGA h' → TGB h' → TGC h' → zL Γ 1580 (lsL i) [] h') : zL Γ 609 (lsL i) [] h := by
  refine zL_aload_n (pc' := 610) dL_609 rfl rfl ?_
  refine zL_aload_n (pc' := 611) dL_610 rfl rfl ?_
  refine zL_iload_n (pc' := 612) dL_611 rfl rfl ?_
  refine zL_iconst (pc' := 613) dL_612 rfl ?_
  refine zL_iadd (pc' := 614) dL_613 rfl ?_
  refine zL_sldE (pc' := 615) (by omega) hm dL_614 rfl (fun v614 e614 q614 => ?_)
  refine zL_aload_n (pc' := 616) dL_615 rfl rfl ?_
  refine zL_iload_n (pc' := 617) dL_616 rfl rfl ?_
  refine zL_iconst (pc' := 618) dL_617 rfl ?_
  refine zL_iadd (pc' := 619) dL_618 rfl ?_
  refine zL_sldE (pc' := 620) (by omega) hm dL_619 rfl (fun v619 e619 q619 => ?_)
  refine zL_aload_n (pc' := 621) dL_620 rfl rfl ?_
  refine zL_iload_n (pc' := 622) dL_621 rfl rfl ?_
  refine zL_iconst (pc' := 623) dL_622 rfl ?_
  refine zL_iadd (pc' := 624) dL_623 rfl ?_
  refine zL_sldE (pc' := 625) (by omega) hm dL_624 rfl (fun v624 e624 q624 => ?_)
  refine zL_aload_n (pc' := 626) dL_625 rfl rfl ?_
  refine zL_iload_n (pc' := 627) dL_626 rfl rfl ?_
  refine zL_iconst (pc' := 628) dL_627 rfl ?_
  refine zL_iadd (pc' := 629) dL_628 rfl ?_
  refine zL_sldE (pc' := 630) (by omega) hm dL_629 rfl (fun v629 e629 q629 => ?_)
  refine zL_inv (pc' := 633) hcs kX11_left vX11_left lk_L_63 ⟨Nat.le_of_ble_eq_true rfl, Nat.le_of_ble_eq_true rfl⟩ tb30 vq11 rfl [_, _, _, _] (s_X11_left (b := true) (κ := _) hC (Fr.rf hS) _ ⟨e614.1, e614.2⟩ _ ⟨e619.1, e619.2⟩ _ ⟨e624.1, e624.2⟩ _ ⟨e629.1, e629.2⟩) dL_630 rfl (Nat.le_of_ble_eq_true rfl) rfl ?_
  rintro r630 h630 ⟨f630, p630⟩; replace f630 := (Fm.rf (L := []) hS hR hC).frq f630; obtain ⟨g630, hS, hR, hC⟩ := f630
  have y630_0_25 : h630 0 25 = h 0 25 := g630 0 25 rfl rfl
  have y630_31_1 : h630 31 1 = h 31 1 := g630 31 1 rfl rfl
  have y630_33_0 : h630 33 0 = h 33 0 := g630 33 0 rfl rfl
  have y630_33_1 : h630 33 1 = h 33 1 := g630 33 1 rfl rfl
  have y630_33_2 : h630 33 2 = h 33 2 := g630 33 2 rfl rfl
  have y630_0_11 : h630 0 11 = h 0 11 := g630 0 11 rfl rfl
  have y630_0_12 : h630 0 12 = h 0 12 := g630 0 12 rfl rfl
  have y630_0_13 : h630 0 13 = h 0 13 := g630 0 13 rfl rfl
  have y630_30_11 : h630 30 11 = h 30 11 := g630 30 11 rfl rfl
  have y630_0_22 : h630 0 22 = h 0 22 := g630 0 22 rfl rfl
  have y630_36_0 : h630 36 0 = h 36 0 := g630 36 0 rfl rfl
  have y630_36_1 : h630 36 1 = h 36 1 := g630 36 1 rfl rfl
  have y630_36_2 : h630 36 2 = h 36 2 := g630 36 2 rfl rfl
  have y630_0_16 : h630 0 16 = h 0 16 := g630 0 16 rfl rfl
  have y630_0_17 : h630 0 17 = h 0 17 := g630 0 17 rfl rfl
  have y630_0_18 : h630 0 18 = h 0 18 := g630 0 18 rfl rfl
  have y630_0_15 : h630 0 15 = h 0 15 := g630 0 15 rfl rfl
  have y630_0_20 : h630 0 20 = h 0 20 := g630 0 20 rfl rfl
  have y630_30_10 : h630 30 10 = h 30 10 := g630 30 10 rfl rfl
  have y630_30_12 : h630 30 12 = h 30 12 := g630 30 12 rfl rfl
  have hT1 := hT; have gA1 := gA; have gB1 := gB; have gC1 := gC
  show zL _ _ _ (.inl r630 :: []) _
  refine zL_pop (pc' := 634) dL_633 rfl rfl ?_
  refine zL_aload_n (pc' := 635) dL_634 rfl rfl ?_
  refine zL_aload_n (pc' := 636) dL_635 rfl rfl ?_
  refine zL_iload_n (pc' := 637) dL_636 rfl rfl ?_
  refine zL_iconst (pc' := 638) dL_637 rfl ?_
  refine zL_iadd (pc' := 639) dL_638 rfl ?_
  refine zL_sldE (pc' := 640) (by omega) hm dL_639 rfl (fun v639 e639 q639 => ?_)
  refine zL_aload_n (pc' := 641) dL_640 rfl rfl ?_
  refine zL_iload_n (pc' := 642) dL_641 rfl rfl ?_
  refine zL_iconst (pc' := 643) dL_642 rfl ?_
  refine zL_iadd (pc' := 644) dL_643 rfl ?_
  refine zL_sldE (pc' := 645) (by omega) hm dL_644 rfl (fun v644 e644 q644 => ?_)
  refine zL_aload_n (pc' := 646) dL_645 rfl rfl ?_
  refine zL_iload_n (pc' := 647) dL_646 rfl rfl ?_
  refine zL_iconst (pc' := 648) dL_647 rfl ?_
  refine zL_iadd (pc' := 649) dL_648 rfl ?_
  refine zL_sldE (pc' := 650) (by omega) hm dL_649 rfl (fun v649 e649 q649 => ?_)
  refine zL_aload_n (pc' := 651) dL_650 rfl rfl ?_
  refine zL_iload_n (pc' := 652) dL_651 rfl rfl ?_
  refine zL_iconst (pc' := 653) dL_652 rfl ?_
  refine zL_iadd (pc' := 654) dL_653 rfl ?_
  refine zL_sldE (pc' := 655) (by omega) hm dL_654 rfl (fun v654 e654 q654 => ?_)
  refine zL_inv (pc' := 658) hcs kX12_left vX12_left lk_L_67 ⟨Nat.le_of_ble_eq_true rfl, Nat.le_of_ble_eq_true rfl⟩ tb0 vq12 rfl [_, _, _, _] (s_X12_left (κ := _) hR (Fr.rf hS) _ ⟨e639.1, e639.2⟩ _ ⟨e644.1, e644.2⟩ _ ⟨e649.1, e649.2⟩ _ ⟨e654.1, e654.2⟩) dL_655 rfl (Nat.le_of_ble_eq_true rfl) rfl ?_
  rintro r655 h655 ⟨f655, p655⟩; replace f655 := (Fm.rf (L := []) hS hR hC).frq f655; obtain ⟨g655, hS, hR, hC⟩ := f655
  have y655_0_25 : h655 0 25 = h630 0 25 := g655 0 25 rfl rfl
  have y655_31_1 : h655 31 1 = h630 31 1 := g655 31 1 rfl rfl
  have y655_33_0 : h655 33 0 = h630 33 0 := g655 33 0 rfl rfl
  have y655_33_1 : h655 33 1 = h630 33 1 := g655 33 1 rfl rfl
  have y655_33_2 : h655 33 2 = h630 33 2 := g655 33 2 rfl rfl
  have y655_0_11 : h655 0 11 = h630 0 11 := g655 0 11 rfl rfl
  have y655_0_12 : h655 0 12 = h630 0 12 := g655 0 12 rfl rfl
  have y655_0_13 : h655 0 13 = h630 0 13 := g655 0 13 rfl rfl
  have y655_30_11 : h655 30 11 = h630 30 11 := g655 30 11 rfl rfl
  have y655_0_22 : h655 0 22 = h630 0 22 := g655 0 22 rfl rfl
  have y655_36_0 : h655 36 0 = h630 36 0 := g655 36 0 rfl rfl
  have y655_36_1 : h655 36 1 = h630 36 1 := g655 36 1 rfl rfl
  have y655_36_2 : h655 36 2 = h630 36 2 := g655 36 2 rfl rfl
  have y655_0_16 : h655 0 16 = h630 0 16 := g655 0 16 rfl rfl
  have y655_0_17 : h655 0 17 = h630 0 17 := g655 0 17 rfl rfl
  have y655_0_18 : h655 0 18 = h630 0 18 := g655 0 18 rfl rfl
  have y655_0_15 : h655 0 15 = h630 0 15 := g655 0 15 rfl rfl
  have y655_0_20 : h655 0 20 = h630 0 20 := g655 0 20 rfl rfl
  have y655_30_10 : h655 30 10 = h630 30 10 := g655 30 10 rfl rfl
  have y655_30_12 : h655 30 12 = h630 30 12 := g655 30 12 rfl rfl
  replace hT : TI h655 := TI_of hT1 (y655_0_25.trans y630_0_25) (y655_31_1.trans y630_31_1) (y655_33_0.trans y630_33_0) (y655_33_1.trans y630_33_1) (y655_33_2.trans y630_33_2) (y655_0_11.trans y630_0_11) (y655_0_12.trans y630_0_12) (y655_0_13.trans y630_0_13) (y655_30_11.trans y630_30_11) (y655_0_22.trans y630_0_22) (y655_36_0.trans y630_36_0) (y655_36_1.trans y630_36_1) (y655_36_2.trans y630_36_2) (y655_0_16.trans y630_0_16) (y655_0_17.trans y630_0_17) (y655_0_18.trans y630_0_18)
  replace gA : TGA h655 := TGA_of gA1 (fun j => (g655 1 j rfl rfl).trans (g630 1 j rfl rfl)) (fun j => (g655 34 j rfl rfl).trans (g630 34 j rfl rfl)) (fun j => (g655 10 j rfl rfl).trans (g630 10 j rfl rfl)) (fun j => (g655 35 j rfl rfl).trans (g630 35 j rfl rfl)) (fun j => (g655 6 j rfl rfl).trans (g630 6 j rfl rfl)) (fun j => (g655 37 j rfl rfl).trans (g630 37 j rfl rfl)) (fun j => (g655 11 j rfl rfl).trans (g630 11 j rfl rfl)) (fun j => (g655 38 j rfl rfl).trans (g630 38 j rfl rfl)) ((y655_0_11).trans (y630_0_11)) ((y655_0_12).trans (y630_0_12)) ((y655_0_16).trans (y630_0_16)) ((y655_0_17).trans (y630_0_17)) ((y655_0_22).trans (y630_0_22))
  replace gB : TGB h655 := TGB_of gB1 (fun j => (g655 12 j rfl rfl).trans (g630 12 j rfl rfl)) (fun j => (g655 32 j rfl rfl).trans (g630 32 j rfl rfl)) ((y655_0_25).trans (y630_0_25))
  replace gC : TGC h655 := TGC_of gC1  ((y655_0_15).trans (y630_0_15)) ((y655_30_12).trans (y630_30_12)) ((y655_0_11).trans (y630_0_11)) ((y655_0_12).trans (y630_0_12)) ((y655_0_20).trans (y630_0_20)) ((y655_30_10).trans (y630_30_10)) ((y655_0_16).trans (y630_0_16)) ((y655_0_17).trans (y630_0_17)) ((y655_0_22).trans (y630_0_22))
  show zL _ _ _ (.inl r655 :: []) _
  refine zL_pop (pc' := 659) dL_658 rfl rfl ?_
  refine zL_goto (tgt := 1580) dL_659 rfl ?_
  exact nx _ hS hR hC hT gA gB gC
set_option maxHeartbeats 4000000 in
theorem lc_12 {Γ : Lc} {i : Int} {h : Hp} (hX : XI Γ.1) (hcs : Γ.2.2.2.2.2.1 ≤ room_1.cells ∧ Γ.2.2.2.2.2.2 ≤ room_1.slots) (hm : Γ.2.2.1 < 2147483648) (hi : 0 ≤ i ∧ i + 6 ≤ Γ.2.2.1) (hS : SI h) (hR : KR h) (hC : KC h) (hT : TI h) (gA : TGA h) (gB : TGB h) (gC : TGC h) (nx : ∀ h' : Hp, SI h' → KR h' → KC h' → TI h' → TGA h' → TGB h' → TGC h' → zL Γ 1580 (lsL i) [] h') : zL Γ 662 (lsL i) [] h := by
  refine zL_aload_n (pc' := 663) dL_662 rfl rfl ?_
  refine zL_aload_n (pc' := 664) dL_663 rfl rfl ?_
  refine zL_iload_n (pc' := 665) dL_664 rfl rfl ?_
  refine zL_iconst (pc' := 666) dL_665 rfl ?_
  refine zL_iadd (pc' := 667) dL_666 rfl ?_
  refine zL_sldE (pc' := 668) (by omega) hm dL_667 rfl (fun v667 e667 q667 => ?_)
  refine zL_aload_n (pc' := 669) dL_668 rfl rfl ?_
  refine zL_iload_n (pc' := 670) dL_669 rfl rfl ?_
  refine zL_iconst (pc' := 671) dL_670 rfl ?_
  refine zL_iadd (pc' := 672) dL_671 rfl ?_
  refine zL_sldE (pc' := 673) (by omega) hm dL_672 rfl (fun v672 e672 q672 => ?_)
  refine zL_inv (pc' := 676) hcs kX11_found vX11_found lk_L_68 ⟨Nat.le_of_ble_eq_true rfl, Nat.le_of_ble_eq_true rfl⟩ tb30 vq11 rfl [_, _] (s_X11_found (b := true) (κ := _) hC (Fr.rf hS) _ ⟨e667.1, e667.2⟩ _ ⟨e672.1, e672.2⟩) dL_673 rfl (Nat.le_of_ble_eq_true rfl) rfl ?_
  rintro r673 h673 ⟨f673, p673⟩; replace f673 := (Fm.rf (L := []) hS hR hC).frq f673; obtain ⟨g673, hS, hR, hC⟩ := f673
  have y673_0_25 : h673 0 25 = h 0 25 := g673 0 25 rfl rfl
  have y673_31_1 : h673 31 1 = h 31 1 := g673 31 1 rfl rfl
  have y673_33_0 : h673 33 0 = h 33 0 := g673 33 0 rfl rfl
  have y673_33_1 : h673 33 1 = h 33 1 := g673 33 1 rfl rfl
  have y673_33_2 : h673 33 2 = h 33 2 := g673 33 2 rfl rfl
  have y673_0_11 : h673 0 11 = h 0 11 := g673 0 11 rfl rfl
  have y673_0_12 : h673 0 12 = h 0 12 := g673 0 12 rfl rfl
  have y673_0_13 : h673 0 13 = h 0 13 := g673 0 13 rfl rfl
  have y673_30_11 : h673 30 11 = h 30 11 := g673 30 11 rfl rfl
  have y673_0_22 : h673 0 22 = h 0 22 := g673 0 22 rfl rfl
  have y673_36_0 : h673 36 0 = h 36 0 := g673 36 0 rfl rfl
  have y673_36_1 : h673 36 1 = h 36 1 := g673 36 1 rfl rfl
  have y673_36_2 : h673 36 2 = h 36 2 := g673 36 2 rfl rfl
  have y673_0_16 : h673 0 16 = h 0 16 := g673 0 16 rfl rfl
  have y673_0_17 : h673 0 17 = h 0 17 := g673 0 17 rfl rfl
  have y673_0_18 : h673 0 18 = h 0 18 := g673 0 18 rfl rfl
  have y673_0_15 : h673 0 15 = h 0 15 := g673 0 15 rfl rfl
  have y673_0_20 : h673 0 20 = h 0 20 := g673 0 20 rfl rfl
  have y673_30_10 : h673 30 10 = h 30 10 := g673 30 10 rfl rfl
  have y673_30_12 : h673 30 12 = h 30 12 := g673 30 12 rfl rfl
  have hT1 := hT; have gA1 := gA; have gB1 := gB; have gC1 := gC
  show zL _ _ _ (.inl r673 :: []) _
  refine zL_pop (pc' := 677) dL_676 rfl rfl ?_
  refine zL_aload_n (pc' := 678) dL_677 rfl rfl ?_
  refine zL_aload_n (pc' := 679) dL_678 rfl rfl ?_
  refine zL_iload_n (pc' := 680) dL_679 rfl rfl ?_
  refine zL_iconst (pc' := 681) dL_680 rfl ?_
  refine zL_iadd (pc' := 682) dL_681 rfl ?_
  refine zL_sldE (pc' := 683) (by omega) hm dL_682 rfl (fun v682 e682 q682 => ?_)
  refine zL_aload_n (pc' := 684) dL_683 rfl rfl ?_
  refine zL_iload_n (pc' := 685) dL_684 rfl rfl ?_
  refine zL_iconst (pc' := 686) dL_685 rfl ?_
  refine zL_iadd (pc' := 687) dL_686 rfl ?_
  refine zL_sldE (pc' := 688) (by omega) hm dL_687 rfl (fun v687 e687 q687 => ?_)
  refine zL_inv (pc' := 691) hcs kX12_found vX12_found lk_L_71 ⟨Nat.le_of_ble_eq_true rfl, Nat.le_of_ble_eq_true rfl⟩ tb0 vq12 rfl [_, _] (s_X12_found (κ := _) hR (Fr.rf hS) _ ⟨e682.1, e682.2⟩ _ ⟨e687.1, e687.2⟩) dL_688 rfl (Nat.le_of_ble_eq_true rfl) rfl ?_
  rintro r688 h688 ⟨f688, p688⟩; replace f688 := (Fm.rf (L := []) hS hR hC).frq f688; obtain ⟨g688, hS, hR, hC⟩ := f688
  have y688_0_25 : h688 0 25 = h673 0 25 := g688 0 25 rfl rfl
  have y688_31_1 : h688 31 1 = h673 31 1 := g688 31 1 rfl rfl
  have y688_33_0 : h688 33 0 = h673 33 0 := g688 33 0 rfl rfl
  have y688_33_1 : h688 33 1 = h673 33 1 := g688 33 1 rfl rfl
  have y688_33_2 : h688 33 2 = h673 33 2 := g688 33 2 rfl rfl
  have y688_0_11 : h688 0 11 = h673 0 11 := g688 0 11 rfl rfl
  have y688_0_12 : h688 0 12 = h673 0 12 := g688 0 12 rfl rfl
  have y688_0_13 : h688 0 13 = h673 0 13 := g688 0 13 rfl rfl
  have y688_30_11 : h688 30 11 = h673 30 11 := g688 30 11 rfl rfl
  have y688_0_22 : h688 0 22 = h673 0 22 := g688 0 22 rfl rfl
  have y688_36_0 : h688 36 0 = h673 36 0 := g688 36 0 rfl rfl
  have y688_36_1 : h688 36 1 = h673 36 1 := g688 36 1 rfl rfl
  have y688_36_2 : h688 36 2 = h673 36 2 := g688 36 2 rfl rfl
  have y688_0_16 : h688 0 16 = h673 0 16 := g688 0 16 rfl rfl
  have y688_0_17 : h688 0 17 = h673 0 17 := g688 0 17 rfl rfl
  have y688_0_18 : h688 0 18 = h673 0 18 := g688 0 18 rfl rfl
  have y688_0_15 : h688 0 15 = h673 0 15 := g688 0 15 rfl rfl
  have y688_0_20 : h688 0 20 = h673 0 20 := g688 0 20 rfl rfl
  have y688_30_10 : h688 30 10 = h673 30 10 := g688 30 10 rfl rfl
  have y688_30_12 : h688 30 12 = h673 30 12 := g688 30 12 rfl rfl
  replace hT : TI h688 := TI_of hT1 (y688_0_25.trans y673_0_25) (y688_31_1.trans y673_31_1) (y688_33_0.trans y673_33_0) (y688_33_1.trans y673_33_1) (y688_33_2.trans y673_33_2) (y688_0_11.trans y673_0_11) (y688_0_12.trans y673_0_12) (y688_0_13.trans y673_0_13) (y688_30_11.trans y673_30_11) (y688_0_22.trans y673_0_22) (y688_36_0.trans y673_36_0) (y688_36_1.trans y673_36_1) (y688_36_2.trans y673_36_2) (y688_0_16.trans y673_0_16) (y688_0_17.trans y673_0_17) (y688_0_18.trans y673_0_18)
  replace gA : TGA h688 := TGA_of gA1 (fun j => (g688 1 j rfl rfl).trans (g673 1 j rfl rfl)) (fun j => (g688 34 j rfl rfl).trans (g673 34 j rfl rfl)) (fun j => (g688 10 j rfl rfl).trans (g673 10 j rfl rfl)) (fun j => (g688 35 j rfl rfl).trans (g673 35 j rfl rfl)) (fun j => (g688 6 j rfl rfl).trans (g673 6 j rfl rfl)) (fun j => (g688 37 j rfl rfl).trans (g673 37 j rfl rfl)) (fun j => (g688 11 j rfl rfl).trans (g673 11 j rfl rfl)) (fun j => (g688 38 j rfl rfl).trans (g673 38 j rfl rfl)) ((y688_0_11).trans (y673_0_11)) ((y688_0_12).trans (y673_0_12)) ((y688_0_16).trans (y673_0_16)) ((y688_0_17).trans (y673_0_17)) ((y688_0_22).trans (y673_0_22))
  replace gB : TGB h688 := TGB_of gB1 (fun j => (g688 12 j rfl rfl).trans (g673 12 j rfl rfl)) (fun j => (g688 32 j rfl rfl).trans (g673 32 j rfl rfl)) ((y688_0_25).trans (y673_0_25))
  replace gC : TGC h688 := TGC_of gC1  ((y688_0_15).trans (y673_0_15)) ((y688_30_12).trans (y673_30_12)) ((y688_0_11).trans (y673_0_11)) ((y688_0_12).trans (y673_0_12)) ((y688_0_20).trans (y673_0_20)) ((y688_30_10).trans (y673_30_10)) ((y688_0_16).trans (y673_0_16)) ((y688_0_17).trans (y673_0_17)) ((y688_0_22).trans (y673_0_22))
  show zL _ _ _ (.inl r688 :: []) _
  refine zL_pop (pc' := 692) dL_691 rfl rfl ?_
  refine zL_goto (tgt := 1580) dL_692 rfl ?_
  exact nx _ hS hR hC hT gA gB gC
set_option maxHeartbeats 4000000 in
theorem lc_13 {Γ : Lc} {i : Int} {h : Hp} (hX : XI Γ.1) (hcs : Γ.2.2.2.2.2.1 ≤ room_1.cells ∧ Γ.2.2.2.2.2.2 ≤ room_1.slots) (hm : Γ.2.2.1 < 2147483648) (hi : 0 ≤ i ∧ i + 6 ≤ Γ.2.2.1) (hS : SI h) (hR : KR h) (hC : KC h) (hT : TI h) (gA : TGA h) (gB : TGB h) (gC : TGC h) (nx : ∀ h' : Hp, SI h' → KR h' → KC h' → TI h' → TGA h' → TGB h' → TGC h' → zL Γ 1580 (lsL i) [] h') : zL Γ 695 (lsL i) [] h := by
  refine zL_aload_n (pc' := 696) dL_695 rfl rfl ?_
  refine zL_aload_n (pc' := 697) dL_696 rfl rfl ?_
  refine zL_iload_n (pc' := 698) dL_697 rfl rfl ?_
  refine zL_iconst (pc' := 699) dL_698 rfl ?_
  refine zL_iadd (pc' := 700) dL_699 rfl ?_
  refine zL_sldE (pc' := 701) (by omega) hm dL_700 rfl (fun v700 e700 q700 => ?_)
  refine zL_aload_n (pc' := 702) dL_701 rfl rfl ?_
  refine zL_iload_n (pc' := 703) dL_702 rfl rfl ?_
  refine zL_iconst (pc' := 704) dL_703 rfl ?_
  refine zL_iadd (pc' := 705) dL_704 rfl ?_
  refine zL_sldE (pc' := 706) (by omega) hm dL_705 rfl (fun v705 e705 q705 => ?_)
  refine zL_inv (pc' := 709) hcs kX11_groups vX11_groups lk_L_72 ⟨Nat.le_of_ble_eq_true rfl, Nat.le_of_ble_eq_true rfl⟩ tb30 vq11 rfl [_, _] (s_X11_groups (b := true) (κ := _) hC (Fr.rf hS) _ ⟨e700.1, e700.2⟩ _ ⟨e705.1, e705.2⟩) dL_706 rfl (Nat.le_of_ble_eq_true rfl) rfl ?_
  rintro r706 h706 ⟨f706, p706⟩; replace f706 := (Fm.rf (L := []) hS hR hC).frq f706; obtain ⟨g706, hS, hR, hC⟩ := f706
  have y706_0_25 : h706 0 25 = h 0 25 := g706 0 25 rfl rfl
  have y706_31_1 : h706 31 1 = h 31 1 := g706 31 1 rfl rfl
  have y706_33_0 : h706 33 0 = h 33 0 := g706 33 0 rfl rfl
  have y706_33_1 : h706 33 1 = h 33 1 := g706 33 1 rfl rfl
  have y706_33_2 : h706 33 2 = h 33 2 := g706 33 2 rfl rfl
  have y706_0_11 : h706 0 11 = h 0 11 := g706 0 11 rfl rfl
  have y706_0_12 : h706 0 12 = h 0 12 := g706 0 12 rfl rfl
  have y706_0_13 : h706 0 13 = h 0 13 := g706 0 13 rfl rfl
  have y706_30_11 : h706 30 11 = h 30 11 := g706 30 11 rfl rfl
  have y706_0_22 : h706 0 22 = h 0 22 := g706 0 22 rfl rfl
  have y706_36_0 : h706 36 0 = h 36 0 := g706 36 0 rfl rfl
  have y706_36_1 : h706 36 1 = h 36 1 := g706 36 1 rfl rfl
  have y706_36_2 : h706 36 2 = h 36 2 := g706 36 2 rfl rfl
  have y706_0_16 : h706 0 16 = h 0 16 := g706 0 16 rfl rfl
  have y706_0_17 : h706 0 17 = h 0 17 := g706 0 17 rfl rfl
  have y706_0_18 : h706 0 18 = h 0 18 := g706 0 18 rfl rfl
  have y706_0_15 : h706 0 15 = h 0 15 := g706 0 15 rfl rfl
  have y706_0_20 : h706 0 20 = h 0 20 := g706 0 20 rfl rfl
  have y706_30_10 : h706 30 10 = h 30 10 := g706 30 10 rfl rfl
  have y706_30_12 : h706 30 12 = h 30 12 := g706 30 12 rfl rfl
  have hT1 := hT; have gA1 := gA; have gB1 := gB; have gC1 := gC
  show zL _ _ _ (.inl r706 :: []) _
  refine zL_pop (pc' := 710) dL_709 rfl rfl ?_
  refine zL_aload_n (pc' := 711) dL_710 rfl rfl ?_
  refine zL_aload_n (pc' := 712) dL_711 rfl rfl ?_
  refine zL_iload_n (pc' := 713) dL_712 rfl rfl ?_
  refine zL_iconst (pc' := 714) dL_713 rfl ?_
  refine zL_iadd (pc' := 715) dL_714 rfl ?_
  refine zL_sldE (pc' := 716) (by omega) hm dL_715 rfl (fun v715 e715 q715 => ?_)
  refine zL_aload_n (pc' := 717) dL_716 rfl rfl ?_
  refine zL_iload_n (pc' := 718) dL_717 rfl rfl ?_
  refine zL_iconst (pc' := 719) dL_718 rfl ?_
  refine zL_iadd (pc' := 720) dL_719 rfl ?_
  refine zL_sldE (pc' := 721) (by omega) hm dL_720 rfl (fun v720 e720 q720 => ?_)
  refine zL_inv (pc' := 724) hcs kX12_groups vX12_groups lk_L_75 ⟨Nat.le_of_ble_eq_true rfl, Nat.le_of_ble_eq_true rfl⟩ tb0 vq12 rfl [_, _] (s_X12_groups (κ := _) hR (Fr.rf hS) _ ⟨e715.1, e715.2⟩ _ ⟨e720.1, e720.2⟩) dL_721 rfl (Nat.le_of_ble_eq_true rfl) rfl ?_
  rintro r721 h721 ⟨f721, p721⟩; replace f721 := (Fm.rf (L := []) hS hR hC).frq f721; obtain ⟨g721, hS, hR, hC⟩ := f721
  have y721_0_25 : h721 0 25 = h706 0 25 := g721 0 25 rfl rfl
  have y721_31_1 : h721 31 1 = h706 31 1 := g721 31 1 rfl rfl
  have y721_33_0 : h721 33 0 = h706 33 0 := g721 33 0 rfl rfl
  have y721_33_1 : h721 33 1 = h706 33 1 := g721 33 1 rfl rfl
  have y721_33_2 : h721 33 2 = h706 33 2 := g721 33 2 rfl rfl
  have y721_0_11 : h721 0 11 = h706 0 11 := g721 0 11 rfl rfl
  have y721_0_12 : h721 0 12 = h706 0 12 := g721 0 12 rfl rfl
  have y721_0_13 : h721 0 13 = h706 0 13 := g721 0 13 rfl rfl
  have y721_30_11 : h721 30 11 = h706 30 11 := g721 30 11 rfl rfl
  have y721_0_22 : h721 0 22 = h706 0 22 := g721 0 22 rfl rfl
  have y721_36_0 : h721 36 0 = h706 36 0 := g721 36 0 rfl rfl
  have y721_36_1 : h721 36 1 = h706 36 1 := g721 36 1 rfl rfl
  have y721_36_2 : h721 36 2 = h706 36 2 := g721 36 2 rfl rfl
  have y721_0_16 : h721 0 16 = h706 0 16 := g721 0 16 rfl rfl
  have y721_0_17 : h721 0 17 = h706 0 17 := g721 0 17 rfl rfl
  have y721_0_18 : h721 0 18 = h706 0 18 := g721 0 18 rfl rfl
  have y721_0_15 : h721 0 15 = h706 0 15 := g721 0 15 rfl rfl
  have y721_0_20 : h721 0 20 = h706 0 20 := g721 0 20 rfl rfl
  have y721_30_10 : h721 30 10 = h706 30 10 := g721 30 10 rfl rfl
  have y721_30_12 : h721 30 12 = h706 30 12 := g721 30 12 rfl rfl
  replace hT : TI h721 := TI_of hT1 (y721_0_25.trans y706_0_25) (y721_31_1.trans y706_31_1) (y721_33_0.trans y706_33_0) (y721_33_1.trans y706_33_1) (y721_33_2.trans y706_33_2) (y721_0_11.trans y706_0_11) (y721_0_12.trans y706_0_12) (y721_0_13.trans y706_0_13) (y721_30_11.trans y706_30_11) (y721_0_22.trans y706_0_22) (y721_36_0.trans y706_36_0) (y721_36_1.trans y706_36_1) (y721_36_2.trans y706_36_2) (y721_0_16.trans y706_0_16) (y721_0_17.trans y706_0_17) (y721_0_18.trans y706_0_18)
  replace gA : TGA h721 := TGA_of gA1 (fun j => (g721 1 j rfl rfl).trans (g706 1 j rfl rfl)) (fun j => (g721 34 j rfl rfl).trans (g706 34 j rfl rfl)) (fun j => (g721 10 j rfl rfl).trans (g706 10 j rfl rfl)) (fun j => (g721 35 j rfl rfl).trans (g706 35 j rfl rfl)) (fun j => (g721 6 j rfl rfl).trans (g706 6 j rfl rfl)) (fun j => (g721 37 j rfl rfl).trans (g706 37 j rfl rfl)) (fun j => (g721 11 j rfl rfl).trans (g706 11 j rfl rfl)) (fun j => (g721 38 j rfl rfl).trans (g706 38 j rfl rfl)) ((y721_0_11).trans (y706_0_11)) ((y721_0_12).trans (y706_0_12)) ((y721_0_16).trans (y706_0_16)) ((y721_0_17).trans (y706_0_17)) ((y721_0_22).trans (y706_0_22))
  replace gB : TGB h721 := TGB_of gB1 (fun j => (g721 12 j rfl rfl).trans (g706 12 j rfl rfl)) (fun j => (g721 32 j rfl rfl).trans (g706 32 j rfl rfl)) ((y721_0_25).trans (y706_0_25))
  replace gC : TGC h721 := TGC_of gC1  ((y721_0_15).trans (y706_0_15)) ((y721_30_12).trans (y706_30_12)) ((y721_0_11).trans (y706_0_11)) ((y721_0_12).trans (y706_0_12)) ((y721_0_20).trans (y706_0_20)) ((y721_30_10).trans (y706_30_10)) ((y721_0_16).trans (y706_0_16)) ((y721_0_17).trans (y706_0_17)) ((y721_0_22).trans (y706_0_22))
  show zL _ _ _ (.inl r721 :: []) _
  refine zL_pop (pc' := 725) dL_724 rfl rfl ?_
  refine zL_goto (tgt := 1580) dL_725 rfl ?_
  exact nx _ hS hR hC hT gA gB gC
set_option maxHeartbeats 4000000 in
theorem lc_14 {Γ : Lc} {i : Int} {h : Hp} (hX : XI Γ.1) (hcs : Γ.2.2.2.2.2.1 ≤ room_1.cells ∧ Γ.2.2.2.2.2.2 ≤ room_1.slots) (hm : Γ.2.2.1 < 2147483648) (hi : 0 ≤ i ∧ i + 6 ≤ Γ.2.2.1) (hS : SI h) (hR : KR h) (hC : KC h) (hT : TI h) (gA : TGA h) (gB : TGB h) (gC : TGC h) (nx : ∀ h' : Hp, SI h' → KR h' → KC h' → TI h' → TGA h' → TGB h' → TGC h' → zL Γ 1580 (lsL i) [] h') : zL Γ 728 (lsL i) [] h := by
  refine zL_aload_n (pc' := 729) dL_728 rfl rfl ?_
  refine zL_aload_n (pc' := 730) dL_729 rfl rfl ?_
  refine zL_iload_n (pc' := 731) dL_730 rfl rfl ?_
  refine zL_iconst (pc' := 732) dL_731 rfl ?_
  refine zL_iadd (pc' := 733) dL_732 rfl ?_
  refine zL_sldE (pc' := 734) (by omega) hm dL_733 rfl (fun v733 e733 q733 => ?_)
  refine zL_aload_n (pc' := 735) dL_734 rfl rfl ?_
  refine zL_iload_n (pc' := 736) dL_735 rfl rfl ?_
  refine zL_iconst (pc' := 737) dL_736 rfl ?_
  refine zL_iadd (pc' := 738) dL_737 rfl ?_
  refine zL_sldE (pc' := 739) (by omega) hm dL_738 rfl (fun v738 e738 q738 => ?_)
  refine zL_inv (pc' := 742) hcs kX11_dark vX11_dark lk_L_76 ⟨Nat.le_of_ble_eq_true rfl, Nat.le_of_ble_eq_true rfl⟩ tb30 vq11 rfl [_, _] (s_X11_dark (b := true) (κ := _) hC (Fr.rf hS) _ ⟨e733.1, e733.2⟩ _ ⟨e738.1, e738.2⟩) dL_739 rfl (Nat.le_of_ble_eq_true rfl) rfl ?_
  rintro r739 h739 ⟨f739, p739⟩; replace f739 := (Fm.rf (L := []) hS hR hC).frq f739; obtain ⟨g739, hS, hR, hC⟩ := f739
  have y739_0_25 : h739 0 25 = h 0 25 := g739 0 25 rfl rfl
  have y739_31_1 : h739 31 1 = h 31 1 := g739 31 1 rfl rfl
  have y739_33_0 : h739 33 0 = h 33 0 := g739 33 0 rfl rfl
  have y739_33_1 : h739 33 1 = h 33 1 := g739 33 1 rfl rfl
  have y739_33_2 : h739 33 2 = h 33 2 := g739 33 2 rfl rfl
  have y739_0_11 : h739 0 11 = h 0 11 := g739 0 11 rfl rfl
  have y739_0_12 : h739 0 12 = h 0 12 := g739 0 12 rfl rfl
  have y739_0_13 : h739 0 13 = h 0 13 := g739 0 13 rfl rfl
  have y739_30_11 : h739 30 11 = h 30 11 := g739 30 11 rfl rfl
  have y739_0_22 : h739 0 22 = h 0 22 := g739 0 22 rfl rfl
  have y739_36_0 : h739 36 0 = h 36 0 := g739 36 0 rfl rfl
  have y739_36_1 : h739 36 1 = h 36 1 := g739 36 1 rfl rfl
  have y739_36_2 : h739 36 2 = h 36 2 := g739 36 2 rfl rfl
  have y739_0_16 : h739 0 16 = h 0 16 := g739 0 16 rfl rfl
  have y739_0_17 : h739 0 17 = h 0 17 := g739 0 17 rfl rfl
  have y739_0_18 : h739 0 18 = h 0 18 := g739 0 18 rfl rfl
  have y739_0_15 : h739 0 15 = h 0 15 := g739 0 15 rfl rfl
  have y739_0_20 : h739 0 20 = h 0 20 := g739 0 20 rfl rfl
  have y739_30_10 : h739 30 10 = h 30 10 := g739 30 10 rfl rfl
  have y739_30_12 : h739 30 12 = h 30 12 := g739 30 12 rfl rfl
  have hT1 := hT; have gA1 := gA; have gB1 := gB; have gC1 := gC
  show zL _ _ _ (.inl r739 :: []) _
  refine zL_pop (pc' := 743) dL_742 rfl rfl ?_
  refine zL_aload_n (pc' := 744) dL_743 rfl rfl ?_
  refine zL_aload_n (pc' := 745) dL_744 rfl rfl ?_
  refine zL_iload_n (pc' := 746) dL_745 rfl rfl ?_
  refine zL_iconst (pc' := 747) dL_746 rfl ?_
  refine zL_iadd (pc' := 748) dL_747 rfl ?_
  refine zL_sldE (pc' := 749) (by omega) hm dL_748 rfl (fun v748 e748 q748 => ?_)
  refine zL_aload_n (pc' := 750) dL_749 rfl rfl ?_
  refine zL_iload_n (pc' := 751) dL_750 rfl rfl ?_
  refine zL_iconst (pc' := 752) dL_751 rfl ?_
  refine zL_iadd (pc' := 753) dL_752 rfl ?_
  refine zL_sldE (pc' := 754) (by omega) hm dL_753 rfl (fun v753 e753 q753 => ?_)
  refine zL_inv (pc' := 757) hcs kX12_dark vX12_dark lk_L_79 ⟨Nat.le_of_ble_eq_true rfl, Nat.le_of_ble_eq_true rfl⟩ tb0 vq12 rfl [_, _] (s_X12_dark (κ := _) hR (Fr.rf hS) _ ⟨e748.1, e748.2⟩ _ ⟨e753.1, e753.2⟩) dL_754 rfl (Nat.le_of_ble_eq_true rfl) rfl ?_
  rintro r754 h754 ⟨f754, p754⟩; replace f754 := (Fm.rf (L := []) hS hR hC).frq f754; obtain ⟨g754, hS, hR, hC⟩ := f754
  have y754_0_25 : h754 0 25 = h739 0 25 := g754 0 25 rfl rfl
  have y754_31_1 : h754 31 1 = h739 31 1 := g754 31 1 rfl rfl
  have y754_33_0 : h754 33 0 = h739 33 0 := g754 33 0 rfl rfl
  have y754_33_1 : h754 33 1 = h739 33 1 := g754 33 1 rfl rfl
  have y754_33_2 : h754 33 2 = h739 33 2 := g754 33 2 rfl rfl
  have y754_0_11 : h754 0 11 = h739 0 11 := g754 0 11 rfl rfl
  have y754_0_12 : h754 0 12 = h739 0 12 := g754 0 12 rfl rfl
  have y754_0_13 : h754 0 13 = h739 0 13 := g754 0 13 rfl rfl
  have y754_30_11 : h754 30 11 = h739 30 11 := g754 30 11 rfl rfl
  have y754_0_22 : h754 0 22 = h739 0 22 := g754 0 22 rfl rfl
  have y754_36_0 : h754 36 0 = h739 36 0 := g754 36 0 rfl rfl
  have y754_36_1 : h754 36 1 = h739 36 1 := g754 36 1 rfl rfl
  have y754_36_2 : h754 36 2 = h739 36 2 := g754 36 2 rfl rfl
  have y754_0_16 : h754 0 16 = h739 0 16 := g754 0 16 rfl rfl
  have y754_0_17 : h754 0 17 = h739 0 17 := g754 0 17 rfl rfl
  have y754_0_18 : h754 0 18 = h739 0 18 := g754 0 18 rfl rfl
  have y754_0_15 : h754 0 15 = h739 0 15 := g754 0 15 rfl rfl
  have y754_0_20 : h754 0 20 = h739 0 20 := g754 0 20 rfl rfl
  have y754_30_10 : h754 30 10 = h739 30 10 := g754 30 10 rfl rfl
  have y754_30_12 : h754 30 12 = h739 30 12 := g754 30 12 rfl rfl
  replace hT : TI h754 := TI_of hT1 (y754_0_25.trans y739_0_25) (y754_31_1.trans y739_31_1) (y754_33_0.trans y739_33_0) (y754_33_1.trans y739_33_1) (y754_33_2.trans y739_33_2) (y754_0_11.trans y739_0_11) (y754_0_12.trans y739_0_12) (y754_0_13.trans y739_0_13) (y754_30_11.trans y739_30_11) (y754_0_22.trans y739_0_22) (y754_36_0.trans y739_36_0) (y754_36_1.trans y739_36_1) (y754_36_2.trans y739_36_2) (y754_0_16.trans y739_0_16) (y754_0_17.trans y739_0_17) (y754_0_18.trans y739_0_18)
  replace gA : TGA h754 := TGA_of gA1 (fun j => (g754 1 j rfl rfl).trans (g739 1 j rfl rfl)) (fun j => (g754 34 j rfl rfl).trans (g739 34 j rfl rfl)) (fun j => (g754 10 j rfl rfl).trans (g739 10 j rfl rfl)) (fun j => (g754 35 j rfl rfl).trans (g739 35 j rfl rfl)) (fun j => (g754 6 j rfl rfl).trans (g739 6 j rfl rfl)) (fun j => (g754 37 j rfl rfl).trans (g739 37 j rfl rfl)) (fun j => (g754 11 j rfl rfl).trans (g739 11 j rfl rfl)) (fun j => (g754 38 j rfl rfl).trans (g739 38 j rfl rfl)) ((y754_0_11).trans (y739_0_11)) ((y754_0_12).trans (y739_0_12)) ((y754_0_16).trans (y739_0_16)) ((y754_0_17).trans (y739_0_17)) ((y754_0_22).trans (y739_0_22))
  replace gB : TGB h754 := TGB_of gB1 (fun j => (g754 12 j rfl rfl).trans (g739 12 j rfl rfl)) (fun j => (g754 32 j rfl rfl).trans (g739 32 j rfl rfl)) ((y754_0_25).trans (y739_0_25))
  replace gC : TGC h754 := TGC_of gC1  ((y754_0_15).trans (y739_0_15)) ((y754_30_12).trans (y739_30_12)) ((y754_0_11).trans (y739_0_11)) ((y754_0_12).trans (y739_0_12)) ((y754_0_20).trans (y739_0_20)) ((y754_30_10).trans (y739_30_10)) ((y754_0_16).trans (y739_0_16)) ((y754_0_17).trans (y739_0_17)) ((y754_0_22).trans (y739_0_22))
  show zL _ _ _ (.inl r754 :: []) _
  refine zL_pop (pc' := 758) dL_757 rfl rfl ?_
  refine zL_goto (tgt := 1580) dL_758 rfl ?_
  exact nx _ hS hR hC hT gA gB gC
set_option maxHeartbeats 4000000 in
theorem lc_15 {Γ : Lc} {i : Int} {h : Hp} (hX : XI Γ.1) (hcs : Γ.2.2.2.2.2.1 ≤ room_1.cells ∧ Γ.2.2.2.2.2.2 ≤ room_1.slots) (hm : Γ.2.2.1 < 2147483648) (hi : 0 ≤ i ∧ i + 6 ≤ Γ.2.2.1) (hS : SI h) (hR : KR h) (hC : KC h) (hT : TI h) (gA : TGA h) (gB : TGB h) (gC : TGC h) (nx : ∀ h' : Hp, SI h' → KR h' → KC h' → TI h' → TGA h' → TGB h' → TGC h' → zL Γ 1580 (lsL i) [] h') : zL Γ 761 (lsL i) [] h := by
  refine zL_aload_n (pc' := 762) dL_761 rfl rfl ?_
  refine zL_aload_n (pc' := 763) dL_762 rfl rfl ?_
  refine zL_iload_n (pc' := 764) dL_763 rfl rfl ?_
  refine zL_iconst (pc' := 765) dL_764 rfl ?_
  refine zL_iadd (pc' := 766) dL_765 rfl ?_
  refine zL_sldE (pc' := 767) (by omega) hm dL_766 rfl (fun v766 e766 q766 => ?_)
  refine zL_aload_n (pc' := 768) dL_767 rfl rfl ?_
  refine zL_iload_n (pc' := 769) dL_768 rfl rfl ?_
  refine zL_iconst (pc' := 770) dL_769 rfl ?_
  refine zL_iadd (pc' := 771) dL_770 rfl ?_
  refine zL_sldE (pc' := 772) (by omega) hm dL_771 rfl (fun v771 e771 q771 => ?_)
  refine zL_aload_n (pc' := 773) dL_772 rfl rfl ?_
  refine zL_iload_n (pc' := 774) dL_773 rfl rfl ?_
  refine zL_iconst (pc' := 775) dL_774 rfl ?_
  refine zL_iadd (pc' := 776) dL_775 rfl ?_
  refine zL_sldE (pc' := 777) (by omega) hm dL_776 rfl (fun v776 e776 q776 => ?_)
  refine zL_inv (pc' := 780) hcs kX11_middle vX11_middle lk_L_80 ⟨Nat.le_of_ble_eq_true rfl, Nat.le_of_ble_eq_true rfl⟩ tb30 vq11 rfl [_, _, _] (s_X11_middle (b := true) (κ := _) hC (Fr.rf hS) _ ⟨e766.1, e766.2⟩ _ ⟨e771.1, e771.2⟩ _ ⟨e776.1, e776.2⟩) dL_777 rfl (Nat.le_of_ble_eq_true rfl) rfl ?_
  rintro r777 h777 ⟨f777, p777⟩; replace f777 := (Fm.rf (L := []) hS hR hC).frq f777; obtain ⟨g777, hS, hR, hC⟩ := f777
  have y777_0_25 : h777 0 25 = h 0 25 := g777 0 25 rfl rfl
  have y777_31_1 : h777 31 1 = h 31 1 := g777 31 1 rfl rfl
  have y777_33_0 : h777 33 0 = h 33 0 := g777 33 0 rfl rfl
  have y777_33_1 : h777 33 1 = h 33 1 := g777 33 1 rfl rfl
  have y777_33_2 : h777 33 2 = h 33 2 := g777 33 2 rfl rfl
  have y777_0_11 : h777 0 11 = h 0 11 := g777 0 11 rfl rfl
  have y777_0_12 : h777 0 12 = h 0 12 := g777 0 12 rfl rfl
  have y777_0_13 : h777 0 13 = h 0 13 := g777 0 13 rfl rfl
  have y777_30_11 : h777 30 11 = h 30 11 := g777 30 11 rfl rfl
  have y777_0_22 : h777 0 22 = h 0 22 := g777 0 22 rfl rfl
  have y777_36_0 : h777 36 0 = h 36 0 := g777 36 0 rfl rfl
  have y777_36_1 : h777 36 1 = h 36 1 := g777 36 1 rfl rfl
  have y777_36_2 : h777 36 2 = h 36 2 := g777 36 2 rfl rfl
  have y777_0_16 : h777 0 16 = h 0 16 := g777 0 16 rfl rfl
  have y777_0_17 : h777 0 17 = h 0 17 := g777 0 17 rfl rfl
  have y777_0_18 : h777 0 18 = h 0 18 := g777 0 18 rfl rfl
  have y777_0_15 : h777 0 15 = h 0 15 := g777 0 15 rfl rfl
  have y777_0_20 : h777 0 20 = h 0 20 := g777 0 20 rfl rfl
  have y777_30_10 : h777 30 10 = h 30 10 := g777 30 10 rfl rfl
  have y777_30_12 : h777 30 12 = h 30 12 := g777 30 12 rfl rfl
  have hT1 := hT; have gA1 := gA; have gB1 := gB; have gC1 := gC
  show zL _ _ _ (.inl r777 :: []) _
  refine zL_pop (pc' := 781) dL_780 rfl rfl ?_
  refine zL_aload_n (pc' := 782) dL_781 rfl rfl ?_
  refine zL_aload_n (pc' := 783) dL_782 rfl rfl ?_
  refine zL_iload_n (pc' := 784) dL_783 rfl rfl ?_
  refine zL_iconst (pc' := 785) dL_784 rfl ?_
  refine zL_iadd (pc' := 786) dL_785 rfl ?_
  refine zL_sldE (pc' := 787) (by omega) hm dL_786 rfl (fun v786 e786 q786 => ?_)
  refine zL_aload_n (pc' := 788) dL_787 rfl rfl ?_
  refine zL_iload_n (pc' := 789) dL_788 rfl rfl ?_
  refine zL_iconst (pc' := 790) dL_789 rfl ?_
  refine zL_iadd (pc' := 791) dL_790 rfl ?_
  refine zL_sldE (pc' := 792) (by omega) hm dL_791 rfl (fun v791 e791 q791 => ?_)
  refine zL_aload_n (pc' := 793) dL_792 rfl rfl ?_
  refine zL_iload_n (pc' := 794) dL_793 rfl rfl ?_
  refine zL_iconst (pc' := 795) dL_794 rfl ?_
  refine zL_iadd (pc' := 796) dL_795 rfl ?_
  refine zL_sldE (pc' := 797) (by omega) hm dL_796 rfl (fun v796 e796 q796 => ?_)
  refine zL_inv (pc' := 800) hcs kX12_middle vX12_middle lk_L_84 ⟨Nat.le_of_ble_eq_true rfl, Nat.le_of_ble_eq_true rfl⟩ tb0 vq12 rfl [_, _, _] (s_X12_middle (κ := _) hR (Fr.rf hS) _ ⟨e786.1, e786.2⟩ _ ⟨e791.1, e791.2⟩ _ ⟨e796.1, e796.2⟩) dL_797 rfl (Nat.le_of_ble_eq_true rfl) rfl ?_
  rintro r797 h797 ⟨f797, p797⟩; replace f797 := (Fm.rf (L := []) hS hR hC).frq f797; obtain ⟨g797, hS, hR, hC⟩ := f797
  have y797_0_25 : h797 0 25 = h777 0 25 := g797 0 25 rfl rfl
  have y797_31_1 : h797 31 1 = h777 31 1 := g797 31 1 rfl rfl
  have y797_33_0 : h797 33 0 = h777 33 0 := g797 33 0 rfl rfl
  have y797_33_1 : h797 33 1 = h777 33 1 := g797 33 1 rfl rfl
  have y797_33_2 : h797 33 2 = h777 33 2 := g797 33 2 rfl rfl
  have y797_0_11 : h797 0 11 = h777 0 11 := g797 0 11 rfl rfl
  have y797_0_12 : h797 0 12 = h777 0 12 := g797 0 12 rfl rfl
  have y797_0_13 : h797 0 13 = h777 0 13 := g797 0 13 rfl rfl
  have y797_30_11 : h797 30 11 = h777 30 11 := g797 30 11 rfl rfl
  have y797_0_22 : h797 0 22 = h777 0 22 := g797 0 22 rfl rfl
  have y797_36_0 : h797 36 0 = h777 36 0 := g797 36 0 rfl rfl
  have y797_36_1 : h797 36 1 = h777 36 1 := g797 36 1 rfl rfl
  have y797_36_2 : h797 36 2 = h777 36 2 := g797 36 2 rfl rfl
  have y797_0_16 : h797 0 16 = h777 0 16 := g797 0 16 rfl rfl
  have y797_0_17 : h797 0 17 = h777 0 17 := g797 0 17 rfl rfl
  have y797_0_18 : h797 0 18 = h777 0 18 := g797 0 18 rfl rfl
  have y797_0_15 : h797 0 15 = h777 0 15 := g797 0 15 rfl rfl
  have y797_0_20 : h797 0 20 = h777 0 20 := g797 0 20 rfl rfl
  have y797_30_10 : h797 30 10 = h777 30 10 := g797 30 10 rfl rfl
  have y797_30_12 : h797 30 12 = h777 30 12 := g797 30 12 rfl rfl
  replace hT : TI h797 := TI_of hT1 (y797_0_25.trans y777_0_25) (y797_31_1.trans y777_31_1) (y797_33_0.trans y777_33_0) (y797_33_1.trans y777_33_1) (y797_33_2.trans y777_33_2) (y797_0_11.trans y777_0_11) (y797_0_12.trans y777_0_12) (y797_0_13.trans y777_0_13) (y797_30_11.trans y777_30_11) (y797_0_22.trans y777_0_22) (y797_36_0.trans y777_36_0) (y797_36_1.trans y777_36_1) (y797_36_2.trans y777_36_2) (y797_0_16.trans y777_0_16) (y797_0_17.trans y777_0_17) (y797_0_18.trans y777_0_18)
  replace gA : TGA h797 := TGA_of gA1 (fun j => (g797 1 j rfl rfl).trans (g777 1 j rfl rfl)) (fun j => (g797 34 j rfl rfl).trans (g777 34 j rfl rfl)) (fun j => (g797 10 j rfl rfl).trans (g777 10 j rfl rfl)) (fun j => (g797 35 j rfl rfl).trans (g777 35 j rfl rfl)) (fun j => (g797 6 j rfl rfl).trans (g777 6 j rfl rfl)) (fun j => (g797 37 j rfl rfl).trans (g777 37 j rfl rfl)) (fun j => (g797 11 j rfl rfl).trans (g777 11 j rfl rfl)) (fun j => (g797 38 j rfl rfl).trans (g777 38 j rfl rfl)) ((y797_0_11).trans (y777_0_11)) ((y797_0_12).trans (y777_0_12)) ((y797_0_16).trans (y777_0_16)) ((y797_0_17).trans (y777_0_17)) ((y797_0_22).trans (y777_0_22))
  replace gB : TGB h797 := TGB_of gB1 (fun j => (g797 12 j rfl rfl).trans (g777 12 j rfl rfl)) (fun j => (g797 32 j rfl rfl).trans (g777 32 j rfl rfl)) ((y797_0_25).trans (y777_0_25))
  replace gC : TGC h797 := TGC_of gC1  ((y797_0_15).trans (y777_0_15)) ((y797_30_12).trans (y777_30_12)) ((y797_0_11).trans (y777_0_11)) ((y797_0_12).trans (y777_0_12)) ((y797_0_20).trans (y777_0_20)) ((y797_30_10).trans (y777_30_10)) ((y797_0_16).trans (y777_0_16)) ((y797_0_17).trans (y777_0_17)) ((y797_0_22).trans (y777_0_22))
  show zL _ _ _ (.inl r797 :: []) _
  refine zL_pop (pc' := 801) dL_800 rfl rfl ?_
  refine zL_goto (tgt := 1580) dL_801 rfl ?_
  exact nx _ hS hR hC hT gA gB gC
set_option maxHeartbeats 4000000 in
theorem lc_16 {Γ : Lc} {i : Int} {h : Hp} (hX : XI Γ.1) (hcs : Γ.2.2.2.2.2.1 ≤ room_1.cells ∧ Γ.2.2.2.2.2.2 ≤ room_1.slots) (hm : Γ.2.2.1 < 2147483648) (hi : 0 ≤ i ∧ i + 6 ≤ Γ.2.2.1) (hS : SI h) (hR : KR h) (hC : KC h) (hT : TI h) (gA : TGA h) (gB : TGB h) (gC : TGC h) (nx : ∀ h' : Hp, SI h' → KR h' → KC h' → TI h' → TGA h' → TGB h' → TGC h' → zL Γ 1580 (lsL i) [] h') : zL Γ 804 (lsL i) [] h := by
  refine zL_aload_n (pc' := 805) dL_804 rfl rfl ?_
  refine zL_aload_n (pc' := 806) dL_805 rfl rfl ?_
  refine zL_iload_n (pc' := 807) dL_806 rfl rfl ?_
  refine zL_iconst (pc' := 808) dL_807 rfl ?_
  refine zL_iadd (pc' := 809) dL_808 rfl ?_
  refine zL_sldE (pc' := 810) (by omega) hm dL_809 rfl (fun v809 e809 q809 => ?_)
  refine zL_aload_n (pc' := 811) dL_810 rfl rfl ?_
  refine zL_iload_n (pc' := 812) dL_811 rfl rfl ?_
  refine zL_iconst (pc' := 813) dL_812 rfl ?_
  refine zL_iadd (pc' := 814) dL_813 rfl ?_
  refine zL_sldE (pc' := 815) (by omega) hm dL_814 rfl (fun v814 e814 q814 => ?_)
  refine zL_inv (pc' := 818) hcs kX11_way vX11_way lk_L_85 ⟨Nat.le_of_ble_eq_true rfl, Nat.le_of_ble_eq_true rfl⟩ tb30 vq11 rfl [_, _] (s_X11_way (b := true) (κ := _) hC (Fr.rf hS) _ ⟨e809.1, e809.2⟩ _ ⟨e814.1, e814.2⟩) dL_815 rfl (Nat.le_of_ble_eq_true rfl) rfl ?_
  rintro r815 h815 ⟨f815, p815⟩; replace f815 := (Fm.rf (L := []) hS hR hC).frq f815; obtain ⟨g815, hS, hR, hC⟩ := f815
  have y815_0_25 : h815 0 25 = h 0 25 := g815 0 25 rfl rfl
  have y815_31_1 : h815 31 1 = h 31 1 := g815 31 1 rfl rfl
  have y815_33_0 : h815 33 0 = h 33 0 := g815 33 0 rfl rfl
  have y815_33_1 : h815 33 1 = h 33 1 := g815 33 1 rfl rfl
  have y815_33_2 : h815 33 2 = h 33 2 := g815 33 2 rfl rfl
  have y815_0_11 : h815 0 11 = h 0 11 := g815 0 11 rfl rfl
  have y815_0_12 : h815 0 12 = h 0 12 := g815 0 12 rfl rfl
  have y815_0_13 : h815 0 13 = h 0 13 := g815 0 13 rfl rfl
  have y815_30_11 : h815 30 11 = h 30 11 := g815 30 11 rfl rfl
  have y815_0_22 : h815 0 22 = h 0 22 := g815 0 22 rfl rfl
  have y815_36_0 : h815 36 0 = h 36 0 := g815 36 0 rfl rfl
  have y815_36_1 : h815 36 1 = h 36 1 := g815 36 1 rfl rfl
  have y815_36_2 : h815 36 2 = h 36 2 := g815 36 2 rfl rfl
  have y815_0_16 : h815 0 16 = h 0 16 := g815 0 16 rfl rfl
  have y815_0_17 : h815 0 17 = h 0 17 := g815 0 17 rfl rfl
  have y815_0_18 : h815 0 18 = h 0 18 := g815 0 18 rfl rfl
  have y815_0_15 : h815 0 15 = h 0 15 := g815 0 15 rfl rfl
  have y815_0_20 : h815 0 20 = h 0 20 := g815 0 20 rfl rfl
  have y815_30_10 : h815 30 10 = h 30 10 := g815 30 10 rfl rfl
  have y815_30_12 : h815 30 12 = h 30 12 := g815 30 12 rfl rfl
  have hT1 := hT; have gA1 := gA; have gB1 := gB; have gC1 := gC
  show zL _ _ _ (.inl r815 :: []) _
  refine zL_pop (pc' := 819) dL_818 rfl rfl ?_
  refine zL_aload_n (pc' := 820) dL_819 rfl rfl ?_
  refine zL_aload_n (pc' := 821) dL_820 rfl rfl ?_
  refine zL_iload_n (pc' := 822) dL_821 rfl rfl ?_
  refine zL_iconst (pc' := 823) dL_822 rfl ?_
  refine zL_iadd (pc' := 824) dL_823 rfl ?_
  refine zL_sldE (pc' := 825) (by omega) hm dL_824 rfl (fun v824 e824 q824 => ?_)
  refine zL_aload_n (pc' := 826) dL_825 rfl rfl ?_
  refine zL_iload_n (pc' := 827) dL_826 rfl rfl ?_
  refine zL_iconst (pc' := 828) dL_827 rfl ?_
  refine zL_iadd (pc' := 829) dL_828 rfl ?_
  refine zL_sldE (pc' := 830) (by omega) hm dL_829 rfl (fun v829 e829 q829 => ?_)
  refine zL_inv (pc' := 833) hcs kX12_way vX12_way lk_L_88 ⟨Nat.le_of_ble_eq_true rfl, Nat.le_of_ble_eq_true rfl⟩ tb0 vq12 rfl [_, _] (s_X12_way (κ := _) hR (Fr.rf hS) _ ⟨e824.1, e824.2⟩ _ ⟨e829.1, e829.2⟩) dL_830 rfl (Nat.le_of_ble_eq_true rfl) rfl ?_
  rintro r830 h830 ⟨f830, p830⟩; replace f830 := (Fm.rf (L := []) hS hR hC).frq f830; obtain ⟨g830, hS, hR, hC⟩ := f830
  have y830_0_25 : h830 0 25 = h815 0 25 := g830 0 25 rfl rfl
  have y830_31_1 : h830 31 1 = h815 31 1 := g830 31 1 rfl rfl
  have y830_33_0 : h830 33 0 = h815 33 0 := g830 33 0 rfl rfl
  have y830_33_1 : h830 33 1 = h815 33 1 := g830 33 1 rfl rfl
  have y830_33_2 : h830 33 2 = h815 33 2 := g830 33 2 rfl rfl
  have y830_0_11 : h830 0 11 = h815 0 11 := g830 0 11 rfl rfl
  have y830_0_12 : h830 0 12 = h815 0 12 := g830 0 12 rfl rfl
  have y830_0_13 : h830 0 13 = h815 0 13 := g830 0 13 rfl rfl
  have y830_30_11 : h830 30 11 = h815 30 11 := g830 30 11 rfl rfl
  have y830_0_22 : h830 0 22 = h815 0 22 := g830 0 22 rfl rfl
  have y830_36_0 : h830 36 0 = h815 36 0 := g830 36 0 rfl rfl
  have y830_36_1 : h830 36 1 = h815 36 1 := g830 36 1 rfl rfl
  have y830_36_2 : h830 36 2 = h815 36 2 := g830 36 2 rfl rfl
  have y830_0_16 : h830 0 16 = h815 0 16 := g830 0 16 rfl rfl
  have y830_0_17 : h830 0 17 = h815 0 17 := g830 0 17 rfl rfl
  have y830_0_18 : h830 0 18 = h815 0 18 := g830 0 18 rfl rfl
  have y830_0_15 : h830 0 15 = h815 0 15 := g830 0 15 rfl rfl
  have y830_0_20 : h830 0 20 = h815 0 20 := g830 0 20 rfl rfl
  have y830_30_10 : h830 30 10 = h815 30 10 := g830 30 10 rfl rfl
  have y830_30_12 : h830 30 12 = h815 30 12 := g830 30 12 rfl rfl
  replace hT : TI h830 := TI_of hT1 (y830_0_25.trans y815_0_25) (y830_31_1.trans y815_31_1) (y830_33_0.trans y815_33_0) (y830_33_1.trans y815_33_1) (y830_33_2.trans y815_33_2) (y830_0_11.trans y815_0_11) (y830_0_12.trans y815_0_12) (y830_0_13.trans y815_0_13) (y830_30_11.trans y815_30_11) (y830_0_22.trans y815_0_22) (y830_36_0.trans y815_36_0) (y830_36_1.trans y815_36_1) (y830_36_2.trans y815_36_2) (y830_0_16.trans y815_0_16) (y830_0_17.trans y815_0_17) (y830_0_18.trans y815_0_18)
  replace gA : TGA h830 := TGA_of gA1 (fun j => (g830 1 j rfl rfl).trans (g815 1 j rfl rfl)) (fun j => (g830 34 j rfl rfl).trans (g815 34 j rfl rfl)) (fun j => (g830 10 j rfl rfl).trans (g815 10 j rfl rfl)) (fun j => (g830 35 j rfl rfl).trans (g815 35 j rfl rfl)) (fun j => (g830 6 j rfl rfl).trans (g815 6 j rfl rfl)) (fun j => (g830 37 j rfl rfl).trans (g815 37 j rfl rfl)) (fun j => (g830 11 j rfl rfl).trans (g815 11 j rfl rfl)) (fun j => (g830 38 j rfl rfl).trans (g815 38 j rfl rfl)) ((y830_0_11).trans (y815_0_11)) ((y830_0_12).trans (y815_0_12)) ((y830_0_16).trans (y815_0_16)) ((y830_0_17).trans (y815_0_17)) ((y830_0_22).trans (y815_0_22))
  replace gB : TGB h830 := TGB_of gB1 (fun j => (g830 12 j rfl rfl).trans (g815 12 j rfl rfl)) (fun j => (g830 32 j rfl rfl).trans (g815 32 j rfl rfl)) ((y830_0_25).trans (y815_0_25))
  replace gC : TGC h830 := TGC_of gC1  ((y830_0_15).trans (y815_0_15)) ((y830_30_12).trans (y815_30_12)) ((y830_0_11).trans (y815_0_11)) ((y830_0_12).trans (y815_0_12)) ((y830_0_20).trans (y815_0_20)) ((y830_30_10).trans (y815_30_10)) ((y830_0_16).trans (y815_0_16)) ((y830_0_17).trans (y815_0_17)) ((y830_0_22).trans (y815_0_22))
  show zL _ _ _ (.inl r830 :: []) _
  refine zL_pop (pc' := 834) dL_833 rfl rfl ?_
  refine zL_goto (tgt := 1580) dL_834 rfl ?_
  exact nx _ hS hR hC hT gA gB gC
set_option maxHeartbeats 4000000 in
theorem lc_17 {Γ : Lc} {i : Int} {h : Hp} (hX : XI Γ.1) (hcs : Γ.2.2.2.2.2.1 ≤ room_1.cells ∧ Γ.2.2.2.2.2.2 ≤ room_1.slots) (hm : Γ.2.2.1 < 2147483648) (hi : 0 ≤ i ∧ i + 6 ≤ Γ.2.2.1) (hS : SI h) (hR : KR h) (hC : KC h) (hT : TI h) (gA : TGA h) (gB : TGB h) (gC : TGC h) (nx : ∀ h' : Hp, SI h' → KR h' → KC h' → TI h' → TGA h' → TGB h' → TGC h' → zL Γ 1580 (lsL i) [] h') : zL Γ 837 (lsL i) [] h := by
  refine zL_aload_n (pc' := 838) dL_837 rfl rfl ?_
  refine zL_aload_n (pc' := 839) dL_838 rfl rfl ?_
  refine zL_iload_n (pc' := 840) dL_839 rfl rfl ?_
  refine zL_iconst (pc' := 841) dL_840 rfl ?_
  refine zL_iadd (pc' := 842) dL_841 rfl ?_
  refine zL_sldE (pc' := 843) (by omega) hm dL_842 rfl (fun v842 e842 q842 => ?_)
  refine zL_inv (pc' := 846) hcs kX11_ways vX11_ways lk_L_89 ⟨Nat.le_of_ble_eq_true rfl, Nat.le_of_ble_eq_true rfl⟩ tb30 vq11 rfl [_] (s_X11_ways (b := true) (κ := _) hC (Fr.rf hS) _ ⟨e842.1, e842.2⟩) dL_843 rfl (Nat.le_of_ble_eq_true rfl) rfl ?_
  rintro r843 h843 ⟨f843, p843⟩; replace f843 := (Fm.rf (L := []) hS hR hC).frq f843; obtain ⟨g843, hS, hR, hC⟩ := f843
  have y843_0_25 : h843 0 25 = h 0 25 := g843 0 25 rfl rfl
  have y843_31_1 : h843 31 1 = h 31 1 := g843 31 1 rfl rfl
  have y843_33_0 : h843 33 0 = h 33 0 := g843 33 0 rfl rfl
  have y843_33_1 : h843 33 1 = h 33 1 := g843 33 1 rfl rfl
  have y843_33_2 : h843 33 2 = h 33 2 := g843 33 2 rfl rfl
  have y843_0_11 : h843 0 11 = h 0 11 := g843 0 11 rfl rfl
  have y843_0_12 : h843 0 12 = h 0 12 := g843 0 12 rfl rfl
  have y843_0_13 : h843 0 13 = h 0 13 := g843 0 13 rfl rfl
  have y843_30_11 : h843 30 11 = h 30 11 := g843 30 11 rfl rfl
  have y843_0_22 : h843 0 22 = h 0 22 := g843 0 22 rfl rfl
  have y843_36_0 : h843 36 0 = h 36 0 := g843 36 0 rfl rfl
  have y843_36_1 : h843 36 1 = h 36 1 := g843 36 1 rfl rfl
  have y843_36_2 : h843 36 2 = h 36 2 := g843 36 2 rfl rfl
  have y843_0_16 : h843 0 16 = h 0 16 := g843 0 16 rfl rfl
  have y843_0_17 : h843 0 17 = h 0 17 := g843 0 17 rfl rfl
  have y843_0_18 : h843 0 18 = h 0 18 := g843 0 18 rfl rfl
  have y843_0_15 : h843 0 15 = h 0 15 := g843 0 15 rfl rfl
  have y843_0_20 : h843 0 20 = h 0 20 := g843 0 20 rfl rfl
  have y843_30_10 : h843 30 10 = h 30 10 := g843 30 10 rfl rfl
  have y843_30_12 : h843 30 12 = h 30 12 := g843 30 12 rfl rfl
  have hT1 := hT; have gA1 := gA; have gB1 := gB; have gC1 := gC
  show zL _ _ _ (.inl r843 :: []) _
  refine zL_pop (pc' := 847) dL_846 rfl rfl ?_
  refine zL_aload_n (pc' := 848) dL_847 rfl rfl ?_
  refine zL_aload_n (pc' := 849) dL_848 rfl rfl ?_
  refine zL_iload_n (pc' := 850) dL_849 rfl rfl ?_
  refine zL_iconst (pc' := 851) dL_850 rfl ?_
  refine zL_iadd (pc' := 852) dL_851 rfl ?_
  refine zL_sldE (pc' := 853) (by omega) hm dL_852 rfl (fun v852 e852 q852 => ?_)
  refine zL_inv (pc' := 856) hcs kX12_ways vX12_ways lk_L_92 ⟨Nat.le_of_ble_eq_true rfl, Nat.le_of_ble_eq_true rfl⟩ tb0 vq12 rfl [_] (s_X12_ways (κ := _) hR (Fr.rf hS) _ ⟨e852.1, e852.2⟩) dL_853 rfl (Nat.le_of_ble_eq_true rfl) rfl ?_
  rintro r853 h853 ⟨f853, p853⟩; replace f853 := (Fm.rf (L := []) hS hR hC).frq f853; obtain ⟨g853, hS, hR, hC⟩ := f853
  have y853_0_25 : h853 0 25 = h843 0 25 := g853 0 25 rfl rfl
  have y853_31_1 : h853 31 1 = h843 31 1 := g853 31 1 rfl rfl
  have y853_33_0 : h853 33 0 = h843 33 0 := g853 33 0 rfl rfl
  have y853_33_1 : h853 33 1 = h843 33 1 := g853 33 1 rfl rfl
  have y853_33_2 : h853 33 2 = h843 33 2 := g853 33 2 rfl rfl
  have y853_0_11 : h853 0 11 = h843 0 11 := g853 0 11 rfl rfl
  have y853_0_12 : h853 0 12 = h843 0 12 := g853 0 12 rfl rfl
  have y853_0_13 : h853 0 13 = h843 0 13 := g853 0 13 rfl rfl
  have y853_30_11 : h853 30 11 = h843 30 11 := g853 30 11 rfl rfl
  have y853_0_22 : h853 0 22 = h843 0 22 := g853 0 22 rfl rfl
  have y853_36_0 : h853 36 0 = h843 36 0 := g853 36 0 rfl rfl
  have y853_36_1 : h853 36 1 = h843 36 1 := g853 36 1 rfl rfl
  have y853_36_2 : h853 36 2 = h843 36 2 := g853 36 2 rfl rfl
  have y853_0_16 : h853 0 16 = h843 0 16 := g853 0 16 rfl rfl
  have y853_0_17 : h853 0 17 = h843 0 17 := g853 0 17 rfl rfl
  have y853_0_18 : h853 0 18 = h843 0 18 := g853 0 18 rfl rfl
  have y853_0_15 : h853 0 15 = h843 0 15 := g853 0 15 rfl rfl
  have y853_0_20 : h853 0 20 = h843 0 20 := g853 0 20 rfl rfl
  have y853_30_10 : h853 30 10 = h843 30 10 := g853 30 10 rfl rfl
  have y853_30_12 : h853 30 12 = h843 30 12 := g853 30 12 rfl rfl
  replace hT : TI h853 := TI_of hT1 (y853_0_25.trans y843_0_25) (y853_31_1.trans y843_31_1) (y853_33_0.trans y843_33_0) (y853_33_1.trans y843_33_1) (y853_33_2.trans y843_33_2) (y853_0_11.trans y843_0_11) (y853_0_12.trans y843_0_12) (y853_0_13.trans y843_0_13) (y853_30_11.trans y843_30_11) (y853_0_22.trans y843_0_22) (y853_36_0.trans y843_36_0) (y853_36_1.trans y843_36_1) (y853_36_2.trans y843_36_2) (y853_0_16.trans y843_0_16) (y853_0_17.trans y843_0_17) (y853_0_18.trans y843_0_18)
  replace gA : TGA h853 := TGA_of gA1 (fun j => (g853 1 j rfl rfl).trans (g843 1 j rfl rfl)) (fun j => (g853 34 j rfl rfl).trans (g843 34 j rfl rfl)) (fun j => (g853 10 j rfl rfl).trans (g843 10 j rfl rfl)) (fun j => (g853 35 j rfl rfl).trans (g843 35 j rfl rfl)) (fun j => (g853 6 j rfl rfl).trans (g843 6 j rfl rfl)) (fun j => (g853 37 j rfl rfl).trans (g843 37 j rfl rfl)) (fun j => (g853 11 j rfl rfl).trans (g843 11 j rfl rfl)) (fun j => (g853 38 j rfl rfl).trans (g843 38 j rfl rfl)) ((y853_0_11).trans (y843_0_11)) ((y853_0_12).trans (y843_0_12)) ((y853_0_16).trans (y843_0_16)) ((y853_0_17).trans (y843_0_17)) ((y853_0_22).trans (y843_0_22))
  replace gB : TGB h853 := TGB_of gB1 (fun j => (g853 12 j rfl rfl).trans (g843 12 j rfl rfl)) (fun j => (g853 32 j rfl rfl).trans (g843 32 j rfl rfl)) ((y853_0_25).trans (y843_0_25))
  replace gC : TGC h853 := TGC_of gC1  ((y853_0_15).trans (y843_0_15)) ((y853_30_12).trans (y843_30_12)) ((y853_0_11).trans (y843_0_11)) ((y853_0_12).trans (y843_0_12)) ((y853_0_20).trans (y843_0_20)) ((y853_30_10).trans (y843_30_10)) ((y853_0_16).trans (y843_0_16)) ((y853_0_17).trans (y843_0_17)) ((y853_0_22).trans (y843_0_22))
  show zL _ _ _ (.inl r853 :: []) _
  refine zL_pop (pc' := 857) dL_856 rfl rfl ?_
  refine zL_goto (tgt := 1580) dL_857 rfl ?_
  exact nx _ hS hR hC hT gA gB gC
set_option maxHeartbeats 4000000 in
theorem lc_18 {Γ : Lc} {i : Int} {h : Hp} (hX : XI Γ.1) (hcs : Γ.2.2.2.2.2.1 ≤ room_1.cells ∧ Γ.2.2.2.2.2.2 ≤ room_1.slots) (hm : Γ.2.2.1 < 2147483648) (hi : 0 ≤ i ∧ i + 6 ≤ Γ.2.2.1) (hS : SI h) (hR : KR h) (hC : KC h) (hT : TI h) (gA : TGA h) (gB : TGB h) (gC : TGC h) (nx : ∀ h' : Hp, SI h' → KR h' → KC h' → TI h' → TGA h' → TGB h' → TGC h' → zL Γ 1580 (lsL i) [] h') : zL Γ 860 (lsL i) [] h := by
  refine zL_aload_n (pc' := 861) dL_860 rfl rfl ?_
  refine zL_aload_n (pc' := 862) dL_861 rfl rfl ?_
  refine zL_iload_n (pc' := 863) dL_862 rfl rfl ?_
  refine zL_iconst (pc' := 864) dL_863 rfl ?_
  refine zL_iadd (pc' := 865) dL_864 rfl ?_
  refine zL_sldE (pc' := 866) (by omega) hm dL_865 rfl (fun v865 e865 q865 => ?_)
  refine zL_aload_n (pc' := 867) dL_866 rfl rfl ?_
  refine zL_iload_n (pc' := 868) dL_867 rfl rfl ?_
  refine zL_iconst (pc' := 869) dL_868 rfl ?_
  refine zL_iadd (pc' := 870) dL_869 rfl ?_
  refine zL_sldE (pc' := 871) (by omega) hm dL_870 rfl (fun v870 e870 q870 => ?_)
  refine zL_inv (pc' := 874) hcs kX11_white vX11_white lk_L_93 ⟨Nat.le_of_ble_eq_true rfl, Nat.le_of_ble_eq_true rfl⟩ tb30 vq11 rfl [_, _] (s_X11_white (b := true) (κ := _) hC (Fr.rf hS) _ ⟨e865.1, e865.2⟩ _ ⟨e870.1, e870.2⟩) dL_871 rfl (Nat.le_of_ble_eq_true rfl) rfl ?_
  rintro r871 h871 ⟨f871, p871⟩; replace f871 := (Fm.rf (L := []) hS hR hC).frq f871; obtain ⟨g871, hS, hR, hC⟩ := f871
  have y871_0_25 : h871 0 25 = h 0 25 := g871 0 25 rfl rfl
  have y871_31_1 : h871 31 1 = h 31 1 := g871 31 1 rfl rfl
  have y871_33_0 : h871 33 0 = h 33 0 := g871 33 0 rfl rfl
  have y871_33_1 : h871 33 1 = h 33 1 := g871 33 1 rfl rfl
  have y871_33_2 : h871 33 2 = h 33 2 := g871 33 2 rfl rfl
  have y871_0_11 : h871 0 11 = h 0 11 := g871 0 11 rfl rfl
  have y871_0_12 : h871 0 12 = h 0 12 := g871 0 12 rfl rfl
  have y871_0_13 : h871 0 13 = h 0 13 := g871 0 13 rfl rfl
  have y871_30_11 : h871 30 11 = h 30 11 := g871 30 11 rfl rfl
  have y871_0_22 : h871 0 22 = h 0 22 := g871 0 22 rfl rfl
  have y871_36_0 : h871 36 0 = h 36 0 := g871 36 0 rfl rfl
  have y871_36_1 : h871 36 1 = h 36 1 := g871 36 1 rfl rfl
  have y871_36_2 : h871 36 2 = h 36 2 := g871 36 2 rfl rfl
  have y871_0_16 : h871 0 16 = h 0 16 := g871 0 16 rfl rfl
  have y871_0_17 : h871 0 17 = h 0 17 := g871 0 17 rfl rfl
  have y871_0_18 : h871 0 18 = h 0 18 := g871 0 18 rfl rfl
  have y871_0_15 : h871 0 15 = h 0 15 := g871 0 15 rfl rfl
  have y871_0_20 : h871 0 20 = h 0 20 := g871 0 20 rfl rfl
  have y871_30_10 : h871 30 10 = h 30 10 := g871 30 10 rfl rfl
  have y871_30_12 : h871 30 12 = h 30 12 := g871 30 12 rfl rfl
  have hT1 := hT; have gA1 := gA; have gB1 := gB; have gC1 := gC
  show zL _ _ _ (.inl r871 :: []) _
  refine zL_pop (pc' := 875) dL_874 rfl rfl ?_
  refine zL_aload_n (pc' := 876) dL_875 rfl rfl ?_
  refine zL_aload_n (pc' := 877) dL_876 rfl rfl ?_
  refine zL_iload_n (pc' := 878) dL_877 rfl rfl ?_
  refine zL_iconst (pc' := 879) dL_878 rfl ?_
  refine zL_iadd (pc' := 880) dL_879 rfl ?_
  refine zL_sldE (pc' := 881) (by omega) hm dL_880 rfl (fun v880 e880 q880 => ?_)
  refine zL_aload_n (pc' := 882) dL_881 rfl rfl ?_
  refine zL_iload_n (pc' := 883) dL_882 rfl rfl ?_
  refine zL_iconst (pc' := 884) dL_883 rfl ?_
  refine zL_iadd (pc' := 885) dL_884 rfl ?_
  refine zL_sldE (pc' := 886) (by omega) hm dL_885 rfl (fun v885 e885 q885 => ?_)
  refine zL_inv (pc' := 889) hcs kX12_white vX12_white lk_L_96 ⟨Nat.le_of_ble_eq_true rfl, Nat.le_of_ble_eq_true rfl⟩ tb0 vq12 rfl [_, _] (s_X12_white (κ := _) hR (Fr.rf hS) _ ⟨e880.1, e880.2⟩ _ ⟨e885.1, e885.2⟩) dL_886 rfl (Nat.le_of_ble_eq_true rfl) rfl ?_
  rintro r886 h886 ⟨f886, p886⟩; replace f886 := (Fm.rf (L := []) hS hR hC).frq f886; obtain ⟨g886, hS, hR, hC⟩ := f886
  have y886_0_25 : h886 0 25 = h871 0 25 := g886 0 25 rfl rfl
  have y886_31_1 : h886 31 1 = h871 31 1 := g886 31 1 rfl rfl
  have y886_33_0 : h886 33 0 = h871 33 0 := g886 33 0 rfl rfl
  have y886_33_1 : h886 33 1 = h871 33 1 := g886 33 1 rfl rfl
  have y886_33_2 : h886 33 2 = h871 33 2 := g886 33 2 rfl rfl
  have y886_0_11 : h886 0 11 = h871 0 11 := g886 0 11 rfl rfl
  have y886_0_12 : h886 0 12 = h871 0 12 := g886 0 12 rfl rfl
  have y886_0_13 : h886 0 13 = h871 0 13 := g886 0 13 rfl rfl
  have y886_30_11 : h886 30 11 = h871 30 11 := g886 30 11 rfl rfl
  have y886_0_22 : h886 0 22 = h871 0 22 := g886 0 22 rfl rfl
  have y886_36_0 : h886 36 0 = h871 36 0 := g886 36 0 rfl rfl
  have y886_36_1 : h886 36 1 = h871 36 1 := g886 36 1 rfl rfl
  have y886_36_2 : h886 36 2 = h871 36 2 := g886 36 2 rfl rfl
  have y886_0_16 : h886 0 16 = h871 0 16 := g886 0 16 rfl rfl
  have y886_0_17 : h886 0 17 = h871 0 17 := g886 0 17 rfl rfl
  have y886_0_18 : h886 0 18 = h871 0 18 := g886 0 18 rfl rfl
  have y886_0_15 : h886 0 15 = h871 0 15 := g886 0 15 rfl rfl
  have y886_0_20 : h886 0 20 = h871 0 20 := g886 0 20 rfl rfl
  have y886_30_10 : h886 30 10 = h871 30 10 := g886 30 10 rfl rfl
  have y886_30_12 : h886 30 12 = h871 30 12 := g886 30 12 rfl rfl
  replace hT : TI h886 := TI_of hT1 (y886_0_25.trans y871_0_25) (y886_31_1.trans y871_31_1) (y886_33_0.trans y871_33_0) (y886_33_1.trans y871_33_1) (y886_33_2.trans y871_33_2) (y886_0_11.trans y871_0_11) (y886_0_12.trans y871_0_12) (y886_0_13.trans y871_0_13) (y886_30_11.trans y871_30_11) (y886_0_22.trans y871_0_22) (y886_36_0.trans y871_36_0) (y886_36_1.trans y871_36_1) (y886_36_2.trans y871_36_2) (y886_0_16.trans y871_0_16) (y886_0_17.trans y871_0_17) (y886_0_18.trans y871_0_18)
  replace gA : TGA h886 := TGA_of gA1 (fun j => (g886 1 j rfl rfl).trans (g871 1 j rfl rfl)) (fun j => (g886 34 j rfl rfl).trans (g871 34 j rfl rfl)) (fun j => (g886 10 j rfl rfl).trans (g871 10 j rfl rfl)) (fun j => (g886 35 j rfl rfl).trans (g871 35 j rfl rfl)) (fun j => (g886 6 j rfl rfl).trans (g871 6 j rfl rfl)) (fun j => (g886 37 j rfl rfl).trans (g871 37 j rfl rfl)) (fun j => (g886 11 j rfl rfl).trans (g871 11 j rfl rfl)) (fun j => (g886 38 j rfl rfl).trans (g871 38 j rfl rfl)) ((y886_0_11).trans (y871_0_11)) ((y886_0_12).trans (y871_0_12)) ((y886_0_16).trans (y871_0_16)) ((y886_0_17).trans (y871_0_17)) ((y886_0_22).trans (y871_0_22))
  replace gB : TGB h886 := TGB_of gB1 (fun j => (g886 12 j rfl rfl).trans (g871 12 j rfl rfl)) (fun j => (g886 32 j rfl rfl).trans (g871 32 j rfl rfl)) ((y886_0_25).trans (y871_0_25))
  replace gC : TGC h886 := TGC_of gC1  ((y886_0_15).trans (y871_0_15)) ((y886_30_12).trans (y871_30_12)) ((y886_0_11).trans (y871_0_11)) ((y886_0_12).trans (y871_0_12)) ((y886_0_20).trans (y871_0_20)) ((y886_30_10).trans (y871_30_10)) ((y886_0_16).trans (y871_0_16)) ((y886_0_17).trans (y871_0_17)) ((y886_0_22).trans (y871_0_22))
  show zL _ _ _ (.inl r886 :: []) _
  refine zL_pop (pc' := 890) dL_889 rfl rfl ?_
  refine zL_goto (tgt := 1580) dL_890 rfl ?_
  exact nx _ hS hR hC hT gA gB gC
set_option maxHeartbeats 4000000 in
theorem lc_19 {Γ : Lc} {i : Int} {h : Hp} (hX : XI Γ.1) (hcs : Γ.2.2.2.2.2.1 ≤ room_1.cells ∧ Γ.2.2.2.2.2.2 ≤ room_1.slots) (hm : Γ.2.2.1 < 2147483648) (hi : 0 ≤ i ∧ i + 6 ≤ Γ.2.2.1) (hS : SI h) (hR : KR h) (hC : KC h) (hT : TI h) (gA : TGA h) (gB : TGB h) (gC : TGC h) (nx : ∀ h' : Hp, SI h' → KR h' → KC h' → TI h' → TGA h' → TGB h' → TGC h' → zL Γ 1580 (lsL i) [] h') : zL Γ 893 (lsL i) [] h := by
  refine zL_aload_n (pc' := 894) dL_893 rfl rfl ?_
  refine zL_aload_n (pc' := 895) dL_894 rfl rfl ?_
  refine zL_iload_n (pc' := 896) dL_895 rfl rfl ?_
  refine zL_iconst (pc' := 897) dL_896 rfl ?_
  refine zL_iadd (pc' := 898) dL_897 rfl ?_
  refine zL_sldE (pc' := 899) (by omega) hm dL_898 rfl (fun v898 e898 q898 => ?_)
  refine zL_aload_n (pc' := 900) dL_899 rfl rfl ?_
  refine zL_iload_n (pc' := 901) dL_900 rfl rfl ?_
  refine zL_iconst (pc' := 902) dL_901 rfl ?_
  refine zL_iadd (pc' := 903) dL_902 rfl ?_
  refine zL_sldE (pc' := 904) (by omega) hm dL_903 rfl (fun v903 e903 q903 => ?_)
  refine zL_aload_n (pc' := 905) dL_904 rfl rfl ?_
  refine zL_iload_n (pc' := 906) dL_905 rfl rfl ?_
  refine zL_iconst (pc' := 907) dL_906 rfl ?_
  refine zL_iadd (pc' := 908) dL_907 rfl ?_
  refine zL_sldE (pc' := 909) (by omega) hm dL_908 rfl (fun v908 e908 q908 => ?_)
  refine zL_inv (pc' := 912) hcs kX11_base vX11_base lk_L_97 ⟨Nat.le_of_ble_eq_true rfl, Nat.le_of_ble_eq_true rfl⟩ tb30 vq11 rfl [_, _, _] (s_X11_base (b := true) (κ := _) hC (Fr.rf hS) _ ⟨e898.1, e898.2⟩ _ ⟨e903.1, e903.2⟩ _ ⟨e908.1, e908.2⟩) dL_909 rfl (Nat.le_of_ble_eq_true rfl) rfl ?_
  rintro r909 h909 ⟨f909, p909⟩; replace f909 := (Fm.rf (L := []) hS hR hC).frq f909; obtain ⟨g909, hS, hR, hC⟩ := f909
  have y909_0_25 : h909 0 25 = h 0 25 := g909 0 25 rfl rfl
  have y909_31_1 : h909 31 1 = h 31 1 := g909 31 1 rfl rfl
  have y909_33_0 : h909 33 0 = h 33 0 := g909 33 0 rfl rfl
  have y909_33_1 : h909 33 1 = h 33 1 := g909 33 1 rfl rfl
  have y909_33_2 : h909 33 2 = h 33 2 := g909 33 2 rfl rfl
  have y909_0_11 : h909 0 11 = h 0 11 := g909 0 11 rfl rfl
  have y909_0_12 : h909 0 12 = h 0 12 := g909 0 12 rfl rfl
  have y909_0_13 : h909 0 13 = h 0 13 := g909 0 13 rfl rfl
  have y909_30_11 : h909 30 11 = h 30 11 := g909 30 11 rfl rfl
  have y909_0_22 : h909 0 22 = h 0 22 := g909 0 22 rfl rfl
  have y909_36_0 : h909 36 0 = h 36 0 := g909 36 0 rfl rfl
  have y909_36_1 : h909 36 1 = h 36 1 := g909 36 1 rfl rfl
  have y909_36_2 : h909 36 2 = h 36 2 := g909 36 2 rfl rfl
  have y909_0_16 : h909 0 16 = h 0 16 := g909 0 16 rfl rfl
  have y909_0_17 : h909 0 17 = h 0 17 := g909 0 17 rfl rfl
  have y909_0_18 : h909 0 18 = h 0 18 := g909 0 18 rfl rfl
  have y909_0_15 : h909 0 15 = h 0 15 := g909 0 15 rfl rfl
  have y909_0_20 : h909 0 20 = h 0 20 := g909 0 20 rfl rfl
  have y909_30_10 : h909 30 10 = h 30 10 := g909 30 10 rfl rfl
  have y909_30_12 : h909 30 12 = h 30 12 := g909 30 12 rfl rfl
  have hT1 := hT; have gA1 := gA; have gB1 := gB; have gC1 := gC
  show zL _ _ _ (.inl r909 :: []) _
  refine zL_pop (pc' := 913) dL_912 rfl rfl ?_
  refine zL_aload_n (pc' := 914) dL_913 rfl rfl ?_
  refine zL_aload_n (pc' := 915) dL_914 rfl rfl ?_
  refine zL_iload_n (pc' := 916) dL_915 rfl rfl ?_
  refine zL_iconst (pc' := 917) dL_916 rfl ?_
  refine zL_iadd (pc' := 918) dL_917 rfl ?_
  refine zL_sldE (pc' := 919) (by omega) hm dL_918 rfl (fun v918 e918 q918 => ?_)
  refine zL_aload_n (pc' := 920) dL_919 rfl rfl ?_
  refine zL_iload_n (pc' := 921) dL_920 rfl rfl ?_
  refine zL_iconst (pc' := 922) dL_921 rfl ?_
  refine zL_iadd (pc' := 923) dL_922 rfl ?_
  refine zL_sldE (pc' := 924) (by omega) hm dL_923 rfl (fun v923 e923 q923 => ?_)
  refine zL_aload_n (pc' := 925) dL_924 rfl rfl ?_
  refine zL_iload_n (pc' := 926) dL_925 rfl rfl ?_
  refine zL_iconst (pc' := 927) dL_926 rfl ?_
  refine zL_iadd (pc' := 928) dL_927 rfl ?_
  refine zL_sldE (pc' := 929) (by omega) hm dL_928 rfl (fun v928 e928 q928 => ?_)
  refine zL_inv (pc' := 932) hcs kX12_base vX12_base lk_L_100 ⟨Nat.le_of_ble_eq_true rfl, Nat.le_of_ble_eq_true rfl⟩ tb0 vq12 rfl [_, _, _] (s_X12_base (κ := _) hR (Fr.rf hS) _ ⟨e918.1, e918.2⟩ _ ⟨e923.1, e923.2⟩ _ ⟨e928.1, e928.2⟩) dL_929 rfl (Nat.le_of_ble_eq_true rfl) rfl ?_
  rintro r929 h929 ⟨f929, p929⟩; replace f929 := (Fm.rf (L := []) hS hR hC).frq f929; obtain ⟨g929, hS, hR, hC⟩ := f929
  have y929_0_25 : h929 0 25 = h909 0 25 := g929 0 25 rfl rfl
  have y929_31_1 : h929 31 1 = h909 31 1 := g929 31 1 rfl rfl
  have y929_33_0 : h929 33 0 = h909 33 0 := g929 33 0 rfl rfl
  have y929_33_1 : h929 33 1 = h909 33 1 := g929 33 1 rfl rfl
  have y929_33_2 : h929 33 2 = h909 33 2 := g929 33 2 rfl rfl
  have y929_0_11 : h929 0 11 = h909 0 11 := g929 0 11 rfl rfl
  have y929_0_12 : h929 0 12 = h909 0 12 := g929 0 12 rfl rfl
  have y929_0_13 : h929 0 13 = h909 0 13 := g929 0 13 rfl rfl
  have y929_30_11 : h929 30 11 = h909 30 11 := g929 30 11 rfl rfl
  have y929_0_22 : h929 0 22 = h909 0 22 := g929 0 22 rfl rfl
  have y929_36_0 : h929 36 0 = h909 36 0 := g929 36 0 rfl rfl
  have y929_36_1 : h929 36 1 = h909 36 1 := g929 36 1 rfl rfl
  have y929_36_2 : h929 36 2 = h909 36 2 := g929 36 2 rfl rfl
  have y929_0_16 : h929 0 16 = h909 0 16 := g929 0 16 rfl rfl
  have y929_0_17 : h929 0 17 = h909 0 17 := g929 0 17 rfl rfl
  have y929_0_18 : h929 0 18 = h909 0 18 := g929 0 18 rfl rfl
  have y929_0_15 : h929 0 15 = h909 0 15 := g929 0 15 rfl rfl
  have y929_0_20 : h929 0 20 = h909 0 20 := g929 0 20 rfl rfl
  have y929_30_10 : h929 30 10 = h909 30 10 := g929 30 10 rfl rfl
  have y929_30_12 : h929 30 12 = h909 30 12 := g929 30 12 rfl rfl
  replace hT : TI h929 := TI_of hT1 (y929_0_25.trans y909_0_25) (y929_31_1.trans y909_31_1) (y929_33_0.trans y909_33_0) (y929_33_1.trans y909_33_1) (y929_33_2.trans y909_33_2) (y929_0_11.trans y909_0_11) (y929_0_12.trans y909_0_12) (y929_0_13.trans y909_0_13) (y929_30_11.trans y909_30_11) (y929_0_22.trans y909_0_22) (y929_36_0.trans y909_36_0) (y929_36_1.trans y909_36_1) (y929_36_2.trans y909_36_2) (y929_0_16.trans y909_0_16) (y929_0_17.trans y909_0_17) (y929_0_18.trans y909_0_18)
  replace gA : TGA h929 := TGA_of gA1 (fun j => (g929 1 j rfl rfl).trans (g909 1 j rfl rfl)) (fun j => (g929 34 j rfl rfl).trans (g909 34 j rfl rfl)) (fun j => (g929 10 j rfl rfl).trans (g909 10 j rfl rfl)) (fun j => (g929 35 j rfl rfl).trans (g909 35 j rfl rfl)) (fun j => (g929 6 j rfl rfl).trans (g909 6 j rfl rfl)) (fun j => (g929 37 j rfl rfl).trans (g909 37 j rfl rfl)) (fun j => (g929 11 j rfl rfl).trans (g909 11 j rfl rfl)) (fun j => (g929 38 j rfl rfl).trans (g909 38 j rfl rfl)) ((y929_0_11).trans (y909_0_11)) ((y929_0_12).trans (y909_0_12)) ((y929_0_16).trans (y909_0_16)) ((y929_0_17).trans (y909_0_17)) ((y929_0_22).trans (y909_0_22))
  replace gB : TGB h929 := TGB_of gB1 (fun j => (g929 12 j rfl rfl).trans (g909 12 j rfl rfl)) (fun j => (g929 32 j rfl rfl).trans (g909 32 j rfl rfl)) ((y929_0_25).trans (y909_0_25))
  replace gC : TGC h929 := TGC_of gC1  ((y929_0_15).trans (y909_0_15)) ((y929_30_12).trans (y909_30_12)) ((y929_0_11).trans (y909_0_11)) ((y929_0_12).trans (y909_0_12)) ((y929_0_20).trans (y909_0_20)) ((y929_30_10).trans (y909_30_10)) ((y929_0_16).trans (y909_0_16)) ((y929_0_17).trans (y909_0_17)) ((y929_0_22).trans (y909_0_22))
  show zL _ _ _ (.inl r929 :: []) _
  refine zL_pop (pc' := 933) dL_932 rfl rfl ?_
  refine zL_goto (tgt := 1580) dL_933 rfl ?_
  exact nx _ hS hR hC hT gA gB gC
set_option maxHeartbeats 4000000 in
theorem lc_20 {Γ : Lc} {i : Int} {h : Hp} (hX : XI Γ.1) (hcs : Γ.2.2.2.2.2.1 ≤ room_1.cells ∧ Γ.2.2.2.2.2.2 ≤ room_1.slots) (hm : Γ.2.2.1 < 2147483648) (hi : 0 ≤ i ∧ i + 6 ≤ Γ.2.2.1) (hS : SI h) (hR : KR h) (hC : KC h) (hT : TI h) (gA : TGA h) (gB : TGB h) (gC : TGC h) (nx : ∀ h' : Hp, SI h' → KR h' → KC h' → TI h' → TGA h' → TGB h' → TGC h' → zL Γ 1580 (lsL i) [] h') : zL Γ 936 (lsL i) [] h := by
  refine zL_aload_n (pc' := 937) dL_936 rfl rfl ?_
  refine zL_aload_n (pc' := 938) dL_937 rfl rfl ?_
  refine zL_iload_n (pc' := 939) dL_938 rfl rfl ?_
  refine zL_iconst (pc' := 940) dL_939 rfl ?_
  refine zL_iadd (pc' := 941) dL_940 rfl ?_
  refine zL_sldE (pc' := 942) (by omega) hm dL_941 rfl (fun v941 e941 q941 => ?_)
  refine zL_aload_n (pc' := 943) dL_942 rfl rfl ?_
  refine zL_iload_n (pc' := 944) dL_943 rfl rfl ?_
  refine zL_iconst (pc' := 945) dL_944 rfl ?_
  refine zL_iadd (pc' := 946) dL_945 rfl ?_
  refine zL_sldE (pc' := 947) (by omega) hm dL_946 rfl (fun v946 e946 q946 => ?_)
  refine zL_aload_n (pc' := 948) dL_947 rfl rfl ?_
  refine zL_iload_n (pc' := 949) dL_948 rfl rfl ?_
  refine zL_iconst (pc' := 950) dL_949 rfl ?_
  refine zL_iadd (pc' := 951) dL_950 rfl ?_
  refine zL_sldE (pc' := 952) (by omega) hm dL_951 rfl (fun v951 e951 q951 => ?_)
  refine zL_aload_n (pc' := 953) dL_952 rfl rfl ?_
  refine zL_iload_n (pc' := 954) dL_953 rfl rfl ?_
  refine zL_iconst (pc' := 955) dL_954 rfl ?_
  refine zL_iadd (pc' := 956) dL_955 rfl ?_
  refine zL_sldE (pc' := 957) (by omega) hm dL_956 rfl (fun v956 e956 q956 => ?_)
  refine zL_inv (pc' := 960) hcs kX11_tone vX11_tone lk_L_101 ⟨Nat.le_of_ble_eq_true rfl, Nat.le_of_ble_eq_true rfl⟩ tb30 vq11 rfl [_, _, _, _] (s_X11_tone (b := true) (κ := _) hC (Fr.rf hS) _ ⟨e941.1, e941.2⟩ _ ⟨e946.1, e946.2⟩ _ ⟨e951.1, e951.2⟩ _ ⟨e956.1, e956.2⟩) dL_957 rfl (Nat.le_of_ble_eq_true rfl) rfl ?_
  rintro r957 h957 ⟨f957, p957⟩; replace f957 := (Fm.rf (L := []) hS hR hC).frq f957; obtain ⟨g957, hS, hR, hC⟩ := f957
  have y957_0_25 : h957 0 25 = h 0 25 := g957 0 25 rfl rfl
  have y957_31_1 : h957 31 1 = h 31 1 := g957 31 1 rfl rfl
  have y957_33_0 : h957 33 0 = h 33 0 := g957 33 0 rfl rfl
  have y957_33_1 : h957 33 1 = h 33 1 := g957 33 1 rfl rfl
  have y957_33_2 : h957 33 2 = h 33 2 := g957 33 2 rfl rfl
  have y957_0_11 : h957 0 11 = h 0 11 := g957 0 11 rfl rfl
  have y957_0_12 : h957 0 12 = h 0 12 := g957 0 12 rfl rfl
  have y957_0_13 : h957 0 13 = h 0 13 := g957 0 13 rfl rfl
  have y957_30_11 : h957 30 11 = h 30 11 := g957 30 11 rfl rfl
  have y957_0_22 : h957 0 22 = h 0 22 := g957 0 22 rfl rfl
  have y957_36_0 : h957 36 0 = h 36 0 := g957 36 0 rfl rfl
  have y957_36_1 : h957 36 1 = h 36 1 := g957 36 1 rfl rfl
  have y957_36_2 : h957 36 2 = h 36 2 := g957 36 2 rfl rfl
  have y957_0_16 : h957 0 16 = h 0 16 := g957 0 16 rfl rfl
  have y957_0_17 : h957 0 17 = h 0 17 := g957 0 17 rfl rfl
  have y957_0_18 : h957 0 18 = h 0 18 := g957 0 18 rfl rfl
  have y957_0_15 : h957 0 15 = h 0 15 := g957 0 15 rfl rfl
  have y957_0_20 : h957 0 20 = h 0 20 := g957 0 20 rfl rfl
  have y957_30_10 : h957 30 10 = h 30 10 := g957 30 10 rfl rfl
  have y957_30_12 : h957 30 12 = h 30 12 := g957 30 12 rfl rfl
  have hT1 := hT; have gA1 := gA; have gB1 := gB; have gC1 := gC
  show zL _ _ _ (.inl r957 :: []) _
  refine zL_pop (pc' := 961) dL_960 rfl rfl ?_
  refine zL_aload_n (pc' := 962) dL_961 rfl rfl ?_
  refine zL_aload_n (pc' := 963) dL_962 rfl rfl ?_
  refine zL_iload_n (pc' := 964) dL_963 rfl rfl ?_
  refine zL_iconst (pc' := 965) dL_964 rfl ?_
  refine zL_iadd (pc' := 966) dL_965 rfl ?_
  refine zL_sldE (pc' := 967) (by omega) hm dL_966 rfl (fun v966 e966 q966 => ?_)
  refine zL_aload_n (pc' := 968) dL_967 rfl rfl ?_
  refine zL_iload_n (pc' := 969) dL_968 rfl rfl ?_
  refine zL_iconst (pc' := 970) dL_969 rfl ?_
  refine zL_iadd (pc' := 971) dL_970 rfl ?_
  refine zL_sldE (pc' := 972) (by omega) hm dL_971 rfl (fun v971 e971 q971 => ?_)
  refine zL_aload_n (pc' := 973) dL_972 rfl rfl ?_
  refine zL_iload_n (pc' := 974) dL_973 rfl rfl ?_
  refine zL_iconst (pc' := 975) dL_974 rfl ?_
  refine zL_iadd (pc' := 976) dL_975 rfl ?_
  refine zL_sldE (pc' := 977) (by omega) hm dL_976 rfl (fun v976 e976 q976 => ?_)
  refine zL_aload_n (pc' := 978) dL_977 rfl rfl ?_
  refine zL_iload_n (pc' := 979) dL_978 rfl rfl ?_
  refine zL_iconst (pc' := 980) dL_979 rfl ?_
  refine zL_iadd (pc' := 981) dL_980 rfl ?_
  refine zL_sldE (pc' := 982) (by omega) hm dL_981 rfl (fun v981 e981 q981 => ?_)
  refine zL_inv (pc' := 985) hcs kX12_tone vX12_tone lk_L_104 ⟨Nat.le_of_ble_eq_true rfl, Nat.le_of_ble_eq_true rfl⟩ tb0 vq12 rfl [_, _, _, _] (s_X12_tone (κ := _) hR (Fr.rf hS) _ ⟨e966.1, e966.2⟩ _ ⟨e971.1, e971.2⟩ _ ⟨e976.1, e976.2⟩ _ ⟨e981.1, e981.2⟩) dL_982 rfl (Nat.le_of_ble_eq_true rfl) rfl ?_
  rintro r982 h982 ⟨f982, p982⟩; replace f982 := (Fm.rf (L := []) hS hR hC).frq f982; obtain ⟨g982, hS, hR, hC⟩ := f982
  have y982_0_25 : h982 0 25 = h957 0 25 := g982 0 25 rfl rfl
  have y982_31_1 : h982 31 1 = h957 31 1 := g982 31 1 rfl rfl
  have y982_33_0 : h982 33 0 = h957 33 0 := g982 33 0 rfl rfl
  have y982_33_1 : h982 33 1 = h957 33 1 := g982 33 1 rfl rfl
  have y982_33_2 : h982 33 2 = h957 33 2 := g982 33 2 rfl rfl
  have y982_0_11 : h982 0 11 = h957 0 11 := g982 0 11 rfl rfl
  have y982_0_12 : h982 0 12 = h957 0 12 := g982 0 12 rfl rfl
  have y982_0_13 : h982 0 13 = h957 0 13 := g982 0 13 rfl rfl
  have y982_30_11 : h982 30 11 = h957 30 11 := g982 30 11 rfl rfl
  have y982_0_22 : h982 0 22 = h957 0 22 := g982 0 22 rfl rfl
  have y982_36_0 : h982 36 0 = h957 36 0 := g982 36 0 rfl rfl
  have y982_36_1 : h982 36 1 = h957 36 1 := g982 36 1 rfl rfl
  have y982_36_2 : h982 36 2 = h957 36 2 := g982 36 2 rfl rfl
  have y982_0_16 : h982 0 16 = h957 0 16 := g982 0 16 rfl rfl
  have y982_0_17 : h982 0 17 = h957 0 17 := g982 0 17 rfl rfl
  have y982_0_18 : h982 0 18 = h957 0 18 := g982 0 18 rfl rfl
  have y982_0_15 : h982 0 15 = h957 0 15 := g982 0 15 rfl rfl
  have y982_0_20 : h982 0 20 = h957 0 20 := g982 0 20 rfl rfl
  have y982_30_10 : h982 30 10 = h957 30 10 := g982 30 10 rfl rfl
  have y982_30_12 : h982 30 12 = h957 30 12 := g982 30 12 rfl rfl
  replace hT : TI h982 := TI_of hT1 (y982_0_25.trans y957_0_25) (y982_31_1.trans y957_31_1) (y982_33_0.trans y957_33_0) (y982_33_1.trans y957_33_1) (y982_33_2.trans y957_33_2) (y982_0_11.trans y957_0_11) (y982_0_12.trans y957_0_12) (y982_0_13.trans y957_0_13) (y982_30_11.trans y957_30_11) (y982_0_22.trans y957_0_22) (y982_36_0.trans y957_36_0) (y982_36_1.trans y957_36_1) (y982_36_2.trans y957_36_2) (y982_0_16.trans y957_0_16) (y982_0_17.trans y957_0_17) (y982_0_18.trans y957_0_18)
  replace gA : TGA h982 := TGA_of gA1 (fun j => (g982 1 j rfl rfl).trans (g957 1 j rfl rfl)) (fun j => (g982 34 j rfl rfl).trans (g957 34 j rfl rfl)) (fun j => (g982 10 j rfl rfl).trans (g957 10 j rfl rfl)) (fun j => (g982 35 j rfl rfl).trans (g957 35 j rfl rfl)) (fun j => (g982 6 j rfl rfl).trans (g957 6 j rfl rfl)) (fun j => (g982 37 j rfl rfl).trans (g957 37 j rfl rfl)) (fun j => (g982 11 j rfl rfl).trans (g957 11 j rfl rfl)) (fun j => (g982 38 j rfl rfl).trans (g957 38 j rfl rfl)) ((y982_0_11).trans (y957_0_11)) ((y982_0_12).trans (y957_0_12)) ((y982_0_16).trans (y957_0_16)) ((y982_0_17).trans (y957_0_17)) ((y982_0_22).trans (y957_0_22))
  replace gB : TGB h982 := TGB_of gB1 (fun j => (g982 12 j rfl rfl).trans (g957 12 j rfl rfl)) (fun j => (g982 32 j rfl rfl).trans (g957 32 j rfl rfl)) ((y982_0_25).trans (y957_0_25))
  replace gC : TGC h982 := TGC_of gC1  ((y982_0_15).trans (y957_0_15)) ((y982_30_12).trans (y957_30_12)) ((y982_0_11).trans (y957_0_11)) ((y982_0_12).trans (y957_0_12)) ((y982_0_20).trans (y957_0_20)) ((y982_30_10).trans (y957_30_10)) ((y982_0_16).trans (y957_0_16)) ((y982_0_17).trans (y957_0_17)) ((y982_0_22).trans (y957_0_22))
  show zL _ _ _ (.inl r982 :: []) _
  refine zL_pop (pc' := 986) dL_985 rfl rfl ?_
  refine zL_goto (tgt := 1580) dL_986 rfl ?_
  exact nx _ hS hR hC hT gA gB gC
set_option maxHeartbeats 4000000 in
theorem lc_21 {Γ : Lc} {i : Int} {h : Hp} (hX : XI Γ.1) (hcs : Γ.2.2.2.2.2.1 ≤ room_1.cells ∧ Γ.2.2.2.2.2.2 ≤ room_1.slots) (hm : Γ.2.2.1 < 2147483648) (hi : 0 ≤ i ∧ i + 6 ≤ Γ.2.2.1) (hS : SI h) (hR : KR h) (hC : KC h) (hT : TI h) (gA : TGA h) (gB : TGB h) (gC : TGC h) (nx : ∀ h' : Hp, SI h' → KR h' → KC h' → TI h' → TGA h' → TGB h' → TGC h' → zL Γ 1580 (lsL i) [] h') : zL Γ 989 (lsL i) [] h := by
  refine zL_aload_n (pc' := 990) dL_989 rfl rfl ?_
  refine zL_aload_n (pc' := 991) dL_990 rfl rfl ?_
  refine zL_iload_n (pc' := 992) dL_991 rfl rfl ?_
  refine zL_iconst (pc' := 993) dL_992 rfl ?_
  refine zL_iadd (pc' := 994) dL_993 rfl ?_
  refine zL_sldE (pc' := 995) (by omega) hm dL_994 rfl (fun v994 e994 q994 => ?_)
  refine zL_aload_n (pc' := 996) dL_995 rfl rfl ?_
  refine zL_iload_n (pc' := 997) dL_996 rfl rfl ?_
  refine zL_iconst (pc' := 998) dL_997 rfl ?_
  refine zL_iadd (pc' := 999) dL_998 rfl ?_
  refine zL_sldE (pc' := 1000) (by omega) hm dL_999 rfl (fun v999 e999 q999 => ?_)
  refine zL_aload_n (pc' := 1001) dL_1000 rfl rfl ?_
  refine zL_iload_n (pc' := 1002) dL_1001 rfl rfl ?_
  refine zL_iconst (pc' := 1003) dL_1002 rfl ?_
  refine zL_iadd (pc' := 1004) dL_1003 rfl ?_
  refine zL_sldE (pc' := 1005) (by omega) hm dL_1004 rfl (fun v1004 e1004 q1004 => ?_)
  refine zL_inv (pc' := 1008) hcs kX11_levels vX11_levels lk_L_105 ⟨Nat.le_of_ble_eq_true rfl, Nat.le_of_ble_eq_true rfl⟩ tb30 vq11 rfl [_, _, _] (s_X11_levels (b := true) (κ := _) hC (Fr.rf hS) _ ⟨e994.1, e994.2⟩ _ ⟨e999.1, e999.2⟩ _ ⟨e1004.1, e1004.2⟩) dL_1005 rfl (Nat.le_of_ble_eq_true rfl) rfl ?_
  rintro r1005 h1005 ⟨f1005, p1005⟩; replace f1005 := (Fm.rf (L := []) hS hR hC).frq f1005; obtain ⟨g1005, hS, hR, hC⟩ := f1005
  have y1005_0_25 : h1005 0 25 = h 0 25 := g1005 0 25 rfl rfl
  have y1005_31_1 : h1005 31 1 = h 31 1 := g1005 31 1 rfl rfl
  have y1005_33_0 : h1005 33 0 = h 33 0 := g1005 33 0 rfl rfl
  have y1005_33_1 : h1005 33 1 = h 33 1 := g1005 33 1 rfl rfl
  have y1005_33_2 : h1005 33 2 = h 33 2 := g1005 33 2 rfl rfl
  have y1005_0_11 : h1005 0 11 = h 0 11 := g1005 0 11 rfl rfl
  have y1005_0_12 : h1005 0 12 = h 0 12 := g1005 0 12 rfl rfl
  have y1005_0_13 : h1005 0 13 = h 0 13 := g1005 0 13 rfl rfl
  have y1005_30_11 : h1005 30 11 = h 30 11 := g1005 30 11 rfl rfl
  have y1005_0_22 : h1005 0 22 = h 0 22 := g1005 0 22 rfl rfl
  have y1005_36_0 : h1005 36 0 = h 36 0 := g1005 36 0 rfl rfl
  have y1005_36_1 : h1005 36 1 = h 36 1 := g1005 36 1 rfl rfl
  have y1005_36_2 : h1005 36 2 = h 36 2 := g1005 36 2 rfl rfl
  have y1005_0_16 : h1005 0 16 = h 0 16 := g1005 0 16 rfl rfl
  have y1005_0_17 : h1005 0 17 = h 0 17 := g1005 0 17 rfl rfl
  have y1005_0_18 : h1005 0 18 = h 0 18 := g1005 0 18 rfl rfl
  have y1005_0_15 : h1005 0 15 = h 0 15 := g1005 0 15 rfl rfl
  have y1005_0_20 : h1005 0 20 = h 0 20 := g1005 0 20 rfl rfl
  have y1005_30_10 : h1005 30 10 = h 30 10 := g1005 30 10 rfl rfl
  have y1005_30_12 : h1005 30 12 = h 30 12 := g1005 30 12 rfl rfl
  have hT1 := hT; have gA1 := gA; have gB1 := gB; have gC1 := gC
  show zL _ _ _ (.inl r1005 :: []) _
  refine zL_pop (pc' := 1009) dL_1008 rfl rfl ?_
  refine zL_aload_n (pc' := 1010) dL_1009 rfl rfl ?_
  refine zL_aload_n (pc' := 1011) dL_1010 rfl rfl ?_
  refine zL_iload_n (pc' := 1012) dL_1011 rfl rfl ?_
  refine zL_iconst (pc' := 1013) dL_1012 rfl ?_
  refine zL_iadd (pc' := 1014) dL_1013 rfl ?_
  refine zL_sldE (pc' := 1015) (by omega) hm dL_1014 rfl (fun v1014 e1014 q1014 => ?_)
  refine zL_aload_n (pc' := 1016) dL_1015 rfl rfl ?_
  refine zL_iload_n (pc' := 1017) dL_1016 rfl rfl ?_
  refine zL_iconst (pc' := 1018) dL_1017 rfl ?_
  refine zL_iadd (pc' := 1019) dL_1018 rfl ?_
  refine zL_sldE (pc' := 1020) (by omega) hm dL_1019 rfl (fun v1019 e1019 q1019 => ?_)
  refine zL_aload_n (pc' := 1021) dL_1020 rfl rfl ?_
  refine zL_iload_n (pc' := 1022) dL_1021 rfl rfl ?_
  refine zL_iconst (pc' := 1023) dL_1022 rfl ?_
  refine zL_iadd (pc' := 1024) dL_1023 rfl ?_
  refine zL_sldE (pc' := 1025) (by omega) hm dL_1024 rfl (fun v1024 e1024 q1024 => ?_)
  refine zL_inv (pc' := 1028) hcs kX12_levels vX12_levels lk_L_108 ⟨Nat.le_of_ble_eq_true rfl, Nat.le_of_ble_eq_true rfl⟩ tb0 vq12 rfl [_, _, _] (s_X12_levels (κ := _) hR (Fr.rf hS) _ ⟨e1014.1, e1014.2⟩ _ ⟨e1019.1, e1019.2⟩ _ ⟨e1024.1, e1024.2⟩) dL_1025 rfl (Nat.le_of_ble_eq_true rfl) rfl ?_
  rintro r1025 h1025 ⟨f1025, p1025⟩; replace f1025 := (Fm.rf (L := []) hS hR hC).frq f1025; obtain ⟨g1025, hS, hR, hC⟩ := f1025
  have y1025_0_25 : h1025 0 25 = h1005 0 25 := g1025 0 25 rfl rfl
  have y1025_31_1 : h1025 31 1 = h1005 31 1 := g1025 31 1 rfl rfl
  have y1025_33_0 : h1025 33 0 = h1005 33 0 := g1025 33 0 rfl rfl
  have y1025_33_1 : h1025 33 1 = h1005 33 1 := g1025 33 1 rfl rfl
  have y1025_33_2 : h1025 33 2 = h1005 33 2 := g1025 33 2 rfl rfl
  have y1025_0_11 : h1025 0 11 = h1005 0 11 := g1025 0 11 rfl rfl
  have y1025_0_12 : h1025 0 12 = h1005 0 12 := g1025 0 12 rfl rfl
  have y1025_0_13 : h1025 0 13 = h1005 0 13 := g1025 0 13 rfl rfl
  have y1025_30_11 : h1025 30 11 = h1005 30 11 := g1025 30 11 rfl rfl
  have y1025_0_22 : h1025 0 22 = h1005 0 22 := g1025 0 22 rfl rfl
  have y1025_36_0 : h1025 36 0 = h1005 36 0 := g1025 36 0 rfl rfl
  have y1025_36_1 : h1025 36 1 = h1005 36 1 := g1025 36 1 rfl rfl
  have y1025_36_2 : h1025 36 2 = h1005 36 2 := g1025 36 2 rfl rfl
  have y1025_0_16 : h1025 0 16 = h1005 0 16 := g1025 0 16 rfl rfl
  have y1025_0_17 : h1025 0 17 = h1005 0 17 := g1025 0 17 rfl rfl
  have y1025_0_18 : h1025 0 18 = h1005 0 18 := g1025 0 18 rfl rfl
  have y1025_0_15 : h1025 0 15 = h1005 0 15 := g1025 0 15 rfl rfl
  have y1025_0_20 : h1025 0 20 = h1005 0 20 := g1025 0 20 rfl rfl
  have y1025_30_10 : h1025 30 10 = h1005 30 10 := g1025 30 10 rfl rfl
  have y1025_30_12 : h1025 30 12 = h1005 30 12 := g1025 30 12 rfl rfl
  replace hT : TI h1025 := TI_of hT1 (y1025_0_25.trans y1005_0_25) (y1025_31_1.trans y1005_31_1) (y1025_33_0.trans y1005_33_0) (y1025_33_1.trans y1005_33_1) (y1025_33_2.trans y1005_33_2) (y1025_0_11.trans y1005_0_11) (y1025_0_12.trans y1005_0_12) (y1025_0_13.trans y1005_0_13) (y1025_30_11.trans y1005_30_11) (y1025_0_22.trans y1005_0_22) (y1025_36_0.trans y1005_36_0) (y1025_36_1.trans y1005_36_1) (y1025_36_2.trans y1005_36_2) (y1025_0_16.trans y1005_0_16) (y1025_0_17.trans y1005_0_17) (y1025_0_18.trans y1005_0_18)
  replace gA : TGA h1025 := TGA_of gA1 (fun j => (g1025 1 j rfl rfl).trans (g1005 1 j rfl rfl)) (fun j => (g1025 34 j rfl rfl).trans (g1005 34 j rfl rfl)) (fun j => (g1025 10 j rfl rfl).trans (g1005 10 j rfl rfl)) (fun j => (g1025 35 j rfl rfl).trans (g1005 35 j rfl rfl)) (fun j => (g1025 6 j rfl rfl).trans (g1005 6 j rfl rfl)) (fun j => (g1025 37 j rfl rfl).trans (g1005 37 j rfl rfl)) (fun j => (g1025 11 j rfl rfl).trans (g1005 11 j rfl rfl)) (fun j => (g1025 38 j rfl rfl).trans (g1005 38 j rfl rfl)) ((y1025_0_11).trans (y1005_0_11)) ((y1025_0_12).trans (y1005_0_12)) ((y1025_0_16).trans (y1005_0_16)) ((y1025_0_17).trans (y1005_0_17)) ((y1025_0_22).trans (y1005_0_22))
  replace gB : TGB h1025 := TGB_of gB1 (fun j => (g1025 12 j rfl rfl).trans (g1005 12 j rfl rfl)) (fun j => (g1025 32 j rfl rfl).trans (g1005 32 j rfl rfl)) ((y1025_0_25).trans (y1005_0_25))
  replace gC : TGC h1025 := TGC_of gC1  ((y1025_0_15).trans (y1005_0_15)) ((y1025_30_12).trans (y1005_30_12)) ((y1025_0_11).trans (y1005_0_11)) ((y1025_0_12).trans (y1005_0_12)) ((y1025_0_20).trans (y1005_0_20)) ((y1025_30_10).trans (y1005_30_10)) ((y1025_0_16).trans (y1005_0_16)) ((y1025_0_17).trans (y1005_0_17)) ((y1025_0_22).trans (y1005_0_22))
  show zL _ _ _ (.inl r1025 :: []) _
  refine zL_pop (pc' := 1029) dL_1028 rfl rfl ?_
  refine zL_goto (tgt := 1580) dL_1029 rfl ?_
  exact nx _ hS hR hC hT gA gB gC
set_option maxHeartbeats 4000000 in
theorem lc_22 {Γ : Lc} {i : Int} {h : Hp} (hX : XI Γ.1) (hcs : Γ.2.2.2.2.2.1 ≤ room_1.cells ∧ Γ.2.2.2.2.2.2 ≤ room_1.slots) (hm : Γ.2.2.1 < 2147483648) (hi : 0 ≤ i ∧ i + 6 ≤ Γ.2.2.1) (hS : SI h) (hR : KR h) (hC : KC h) (hT : TI h) (gA : TGA h) (gB : TGB h) (gC : TGC h) (nx : ∀ h' : Hp, SI h' → KR h' → KC h' → TI h' → TGA h' → TGB h' → TGC h' → zL Γ 1580 (lsL i) [] h') : zL Γ 1032 (lsL i) [] h := by
  refine zL_aload_n (pc' := 1033) dL_1032 rfl rfl ?_
  refine zL_aload_n (pc' := 1034) dL_1033 rfl rfl ?_
  refine zL_iload_n (pc' := 1035) dL_1034 rfl rfl ?_
  refine zL_iconst (pc' := 1036) dL_1035 rfl ?_
  refine zL_iadd (pc' := 1037) dL_1036 rfl ?_
  refine zL_sldE (pc' := 1038) (by omega) hm dL_1037 rfl (fun v1037 e1037 q1037 => ?_)
  refine zL_aload_n (pc' := 1039) dL_1038 rfl rfl ?_
  refine zL_iload_n (pc' := 1040) dL_1039 rfl rfl ?_
  refine zL_iconst (pc' := 1041) dL_1040 rfl ?_
  refine zL_iadd (pc' := 1042) dL_1041 rfl ?_
  refine zL_sldE (pc' := 1043) (by omega) hm dL_1042 rfl (fun v1042 e1042 q1042 => ?_)
  refine zL_aload_n (pc' := 1044) dL_1043 rfl rfl ?_
  refine zL_iload_n (pc' := 1045) dL_1044 rfl rfl ?_
  refine zL_iconst (pc' := 1046) dL_1045 rfl ?_
  refine zL_iadd (pc' := 1047) dL_1046 rfl ?_
  refine zL_sldE (pc' := 1048) (by omega) hm dL_1047 rfl (fun v1047 e1047 q1047 => ?_)
  refine zL_aload_n (pc' := 1049) dL_1048 rfl rfl ?_
  refine zL_iload_n (pc' := 1050) dL_1049 rfl rfl ?_
  refine zL_iconst (pc' := 1051) dL_1050 rfl ?_
  refine zL_iadd (pc' := 1052) dL_1051 rfl ?_
  refine zL_sldE (pc' := 1053) (by omega) hm dL_1052 rfl (fun v1052 e1052 q1052 => ?_)
  refine zL_inv (pc' := 1056) hcs kX11_noise vX11_noise lk_L_109 ⟨Nat.le_of_ble_eq_true rfl, Nat.le_of_ble_eq_true rfl⟩ tb30 vq11 rfl [_, _, _, _] (s_X11_noise (b := true) (κ := _) hC (Fr.rf hS) _ ⟨e1037.1, e1037.2⟩ _ ⟨e1042.1, e1042.2⟩ _ ⟨e1047.1, e1047.2⟩ _ ⟨e1052.1, e1052.2⟩) dL_1053 rfl (Nat.le_of_ble_eq_true rfl) rfl ?_
  rintro r1053 h1053 ⟨f1053, p1053⟩; replace f1053 := (Fm.rf (L := []) hS hR hC).frq f1053; obtain ⟨g1053, hS, hR, hC⟩ := f1053
  have y1053_0_25 : h1053 0 25 = h 0 25 := g1053 0 25 rfl rfl
  have y1053_31_1 : h1053 31 1 = h 31 1 := g1053 31 1 rfl rfl
  have y1053_33_0 : h1053 33 0 = h 33 0 := g1053 33 0 rfl rfl
  have y1053_33_1 : h1053 33 1 = h 33 1 := g1053 33 1 rfl rfl
  have y1053_33_2 : h1053 33 2 = h 33 2 := g1053 33 2 rfl rfl
  have y1053_0_11 : h1053 0 11 = h 0 11 := g1053 0 11 rfl rfl
  have y1053_0_12 : h1053 0 12 = h 0 12 := g1053 0 12 rfl rfl
  have y1053_0_13 : h1053 0 13 = h 0 13 := g1053 0 13 rfl rfl
  have y1053_30_11 : h1053 30 11 = h 30 11 := g1053 30 11 rfl rfl
  have y1053_0_22 : h1053 0 22 = h 0 22 := g1053 0 22 rfl rfl
  have y1053_36_0 : h1053 36 0 = h 36 0 := g1053 36 0 rfl rfl
  have y1053_36_1 : h1053 36 1 = h 36 1 := g1053 36 1 rfl rfl
  have y1053_36_2 : h1053 36 2 = h 36 2 := g1053 36 2 rfl rfl
  have y1053_0_16 : h1053 0 16 = h 0 16 := g1053 0 16 rfl rfl
  have y1053_0_17 : h1053 0 17 = h 0 17 := g1053 0 17 rfl rfl
  have y1053_0_18 : h1053 0 18 = h 0 18 := g1053 0 18 rfl rfl
  have y1053_0_15 : h1053 0 15 = h 0 15 := g1053 0 15 rfl rfl
  have y1053_0_20 : h1053 0 20 = h 0 20 := g1053 0 20 rfl rfl
  have y1053_30_10 : h1053 30 10 = h 30 10 := g1053 30 10 rfl rfl
  have y1053_30_12 : h1053 30 12 = h 30 12 := g1053 30 12 rfl rfl
  have hT1 := hT; have gA1 := gA; have gB1 := gB; have gC1 := gC
  show zL _ _ _ (.inl r1053 :: []) _
  refine zL_pop (pc' := 1057) dL_1056 rfl rfl ?_
  refine zL_aload_n (pc' := 1058) dL_1057 rfl rfl ?_
  refine zL_aload_n (pc' := 1059) dL_1058 rfl rfl ?_
  refine zL_iload_n (pc' := 1060) dL_1059 rfl rfl ?_
  refine zL_iconst (pc' := 1061) dL_1060 rfl ?_
  refine zL_iadd (pc' := 1062) dL_1061 rfl ?_
  refine zL_sldE (pc' := 1063) (by omega) hm dL_1062 rfl (fun v1062 e1062 q1062 => ?_)
  refine zL_aload_n (pc' := 1064) dL_1063 rfl rfl ?_
  refine zL_iload_n (pc' := 1065) dL_1064 rfl rfl ?_
  refine zL_iconst (pc' := 1066) dL_1065 rfl ?_
  refine zL_iadd (pc' := 1067) dL_1066 rfl ?_
  refine zL_sldE (pc' := 1068) (by omega) hm dL_1067 rfl (fun v1067 e1067 q1067 => ?_)
  refine zL_aload_n (pc' := 1069) dL_1068 rfl rfl ?_
  refine zL_iload_n (pc' := 1070) dL_1069 rfl rfl ?_
  refine zL_iconst (pc' := 1071) dL_1070 rfl ?_
  refine zL_iadd (pc' := 1072) dL_1071 rfl ?_
  refine zL_sldE (pc' := 1073) (by omega) hm dL_1072 rfl (fun v1072 e1072 q1072 => ?_)
  refine zL_aload_n (pc' := 1074) dL_1073 rfl rfl ?_
  refine zL_iload_n (pc' := 1075) dL_1074 rfl rfl ?_
  refine zL_iconst (pc' := 1076) dL_1075 rfl ?_
  refine zL_iadd (pc' := 1077) dL_1076 rfl ?_
  refine zL_sldE (pc' := 1078) (by omega) hm dL_1077 rfl (fun v1077 e1077 q1077 => ?_)
  refine zL_inv (pc' := 1081) hcs kX12_noise vX12_noise lk_L_112 ⟨Nat.le_of_ble_eq_true rfl, Nat.le_of_ble_eq_true rfl⟩ tb0 vq12 rfl [_, _, _, _] (s_X12_noise (κ := _) hR (Fr.rf hS) _ ⟨e1062.1, e1062.2⟩ _ ⟨e1067.1, e1067.2⟩ _ ⟨e1072.1, e1072.2⟩ _ ⟨e1077.1, e1077.2⟩) dL_1078 rfl (Nat.le_of_ble_eq_true rfl) rfl ?_
  rintro r1078 h1078 ⟨f1078, p1078⟩; replace f1078 := (Fm.rf (L := []) hS hR hC).frq f1078; obtain ⟨g1078, hS, hR, hC⟩ := f1078
  have y1078_0_25 : h1078 0 25 = h1053 0 25 := g1078 0 25 rfl rfl
  have y1078_31_1 : h1078 31 1 = h1053 31 1 := g1078 31 1 rfl rfl
  have y1078_33_0 : h1078 33 0 = h1053 33 0 := g1078 33 0 rfl rfl
  have y1078_33_1 : h1078 33 1 = h1053 33 1 := g1078 33 1 rfl rfl
  have y1078_33_2 : h1078 33 2 = h1053 33 2 := g1078 33 2 rfl rfl
  have y1078_0_11 : h1078 0 11 = h1053 0 11 := g1078 0 11 rfl rfl
  have y1078_0_12 : h1078 0 12 = h1053 0 12 := g1078 0 12 rfl rfl
  have y1078_0_13 : h1078 0 13 = h1053 0 13 := g1078 0 13 rfl rfl
  have y1078_30_11 : h1078 30 11 = h1053 30 11 := g1078 30 11 rfl rfl
  have y1078_0_22 : h1078 0 22 = h1053 0 22 := g1078 0 22 rfl rfl
  have y1078_36_0 : h1078 36 0 = h1053 36 0 := g1078 36 0 rfl rfl
  have y1078_36_1 : h1078 36 1 = h1053 36 1 := g1078 36 1 rfl rfl
  have y1078_36_2 : h1078 36 2 = h1053 36 2 := g1078 36 2 rfl rfl
  have y1078_0_16 : h1078 0 16 = h1053 0 16 := g1078 0 16 rfl rfl
  have y1078_0_17 : h1078 0 17 = h1053 0 17 := g1078 0 17 rfl rfl
  have y1078_0_18 : h1078 0 18 = h1053 0 18 := g1078 0 18 rfl rfl
  have y1078_0_15 : h1078 0 15 = h1053 0 15 := g1078 0 15 rfl rfl
  have y1078_0_20 : h1078 0 20 = h1053 0 20 := g1078 0 20 rfl rfl
  have y1078_30_10 : h1078 30 10 = h1053 30 10 := g1078 30 10 rfl rfl
  have y1078_30_12 : h1078 30 12 = h1053 30 12 := g1078 30 12 rfl rfl
  replace hT : TI h1078 := TI_of hT1 (y1078_0_25.trans y1053_0_25) (y1078_31_1.trans y1053_31_1) (y1078_33_0.trans y1053_33_0) (y1078_33_1.trans y1053_33_1) (y1078_33_2.trans y1053_33_2) (y1078_0_11.trans y1053_0_11) (y1078_0_12.trans y1053_0_12) (y1078_0_13.trans y1053_0_13) (y1078_30_11.trans y1053_30_11) (y1078_0_22.trans y1053_0_22) (y1078_36_0.trans y1053_36_0) (y1078_36_1.trans y1053_36_1) (y1078_36_2.trans y1053_36_2) (y1078_0_16.trans y1053_0_16) (y1078_0_17.trans y1053_0_17) (y1078_0_18.trans y1053_0_18)
  replace gA : TGA h1078 := TGA_of gA1 (fun j => (g1078 1 j rfl rfl).trans (g1053 1 j rfl rfl)) (fun j => (g1078 34 j rfl rfl).trans (g1053 34 j rfl rfl)) (fun j => (g1078 10 j rfl rfl).trans (g1053 10 j rfl rfl)) (fun j => (g1078 35 j rfl rfl).trans (g1053 35 j rfl rfl)) (fun j => (g1078 6 j rfl rfl).trans (g1053 6 j rfl rfl)) (fun j => (g1078 37 j rfl rfl).trans (g1053 37 j rfl rfl)) (fun j => (g1078 11 j rfl rfl).trans (g1053 11 j rfl rfl)) (fun j => (g1078 38 j rfl rfl).trans (g1053 38 j rfl rfl)) ((y1078_0_11).trans (y1053_0_11)) ((y1078_0_12).trans (y1053_0_12)) ((y1078_0_16).trans (y1053_0_16)) ((y1078_0_17).trans (y1053_0_17)) ((y1078_0_22).trans (y1053_0_22))
  replace gB : TGB h1078 := TGB_of gB1 (fun j => (g1078 12 j rfl rfl).trans (g1053 12 j rfl rfl)) (fun j => (g1078 32 j rfl rfl).trans (g1053 32 j rfl rfl)) ((y1078_0_25).trans (y1053_0_25))
  replace gC : TGC h1078 := TGC_of gC1  ((y1078_0_15).trans (y1053_0_15)) ((y1078_30_12).trans (y1053_30_12)) ((y1078_0_11).trans (y1053_0_11)) ((y1078_0_12).trans (y1053_0_12)) ((y1078_0_20).trans (y1053_0_20)) ((y1078_30_10).trans (y1053_30_10)) ((y1078_0_16).trans (y1053_0_16)) ((y1078_0_17).trans (y1053_0_17)) ((y1078_0_22).trans (y1053_0_22))
  show zL _ _ _ (.inl r1078 :: []) _
  refine zL_pop (pc' := 1082) dL_1081 rfl rfl ?_
  refine zL_goto (tgt := 1580) dL_1082 rfl ?_
  exact nx _ hS hR hC hT gA gB gC
set_option maxHeartbeats 4000000 in
theorem lc_23 {Γ : Lc} {i : Int} {h : Hp} (hX : XI Γ.1) (hcs : Γ.2.2.2.2.2.1 ≤ room_1.cells ∧ Γ.2.2.2.2.2.2 ≤ room_1.slots) (hm : Γ.2.2.1 < 2147483648) (hi : 0 ≤ i ∧ i + 6 ≤ Γ.2.2.1) (hS : SI h) (hR : KR h) (hC : KC h) (hT : TI h) (gA : TGA h) (gB : TGB h) (gC : TGC h) (nx : ∀ h' : Hp, SI h' → KR h' → KC h' → TI h' → TGA h' → TGB h' → TGC h' → zL Γ 1580 (lsL i) [] h') : zL Γ 1085 (lsL i) [] h := by
  refine zL_aload_n (pc' := 1086) dL_1085 rfl rfl ?_
  refine zL_aload_n (pc' := 1087) dL_1086 rfl rfl ?_
  refine zL_iload_n (pc' := 1088) dL_1087 rfl rfl ?_
  refine zL_iconst (pc' := 1089) dL_1088 rfl ?_
  refine zL_iadd (pc' := 1090) dL_1089 rfl ?_
  refine zL_sldE (pc' := 1091) (by omega) hm dL_1090 rfl (fun v1090 e1090 q1090 => ?_)
  refine zL_aload_n (pc' := 1092) dL_1091 rfl rfl ?_
  refine zL_iload_n (pc' := 1093) dL_1092 rfl rfl ?_
  refine zL_iconst (pc' := 1094) dL_1093 rfl ?_
  refine zL_iadd (pc' := 1095) dL_1094 rfl ?_
  refine zL_sldE (pc' := 1096) (by omega) hm dL_1095 rfl (fun v1095 e1095 q1095 => ?_)
  refine zL_aload_n (pc' := 1097) dL_1096 rfl rfl ?_
  refine zL_iload_n (pc' := 1098) dL_1097 rfl rfl ?_
  refine zL_iconst (pc' := 1099) dL_1098 rfl ?_
  refine zL_iadd (pc' := 1100) dL_1099 rfl ?_
  refine zL_sldE (pc' := 1101) (by omega) hm dL_1100 rfl (fun v1100 e1100 q1100 => ?_)
  refine zL_inv (pc' := 1104) hcs kX11_percent vX11_percent lk_L_113 ⟨Nat.le_of_ble_eq_true rfl, Nat.le_of_ble_eq_true rfl⟩ tb30 vq11 rfl [_, _, _] (s_X11_percent (b := true) (κ := _) hC (Fr.rf hS) _ ⟨e1090.1, e1090.2⟩ _ ⟨e1095.1, e1095.2⟩ _ ⟨e1100.1, e1100.2⟩) dL_1101 rfl (Nat.le_of_ble_eq_true rfl) rfl ?_
  rintro r1101 h1101 ⟨f1101, p1101⟩; replace f1101 := (Fm.rf (L := []) hS hR hC).frq f1101; obtain ⟨g1101, hS, hR, hC⟩ := f1101
  have y1101_0_25 : h1101 0 25 = h 0 25 := g1101 0 25 rfl rfl
  have y1101_31_1 : h1101 31 1 = h 31 1 := g1101 31 1 rfl rfl
  have y1101_33_0 : h1101 33 0 = h 33 0 := g1101 33 0 rfl rfl
  have y1101_33_1 : h1101 33 1 = h 33 1 := g1101 33 1 rfl rfl
  have y1101_33_2 : h1101 33 2 = h 33 2 := g1101 33 2 rfl rfl
  have y1101_0_11 : h1101 0 11 = h 0 11 := g1101 0 11 rfl rfl
  have y1101_0_12 : h1101 0 12 = h 0 12 := g1101 0 12 rfl rfl
  have y1101_0_13 : h1101 0 13 = h 0 13 := g1101 0 13 rfl rfl
  have y1101_30_11 : h1101 30 11 = h 30 11 := g1101 30 11 rfl rfl
  have y1101_0_22 : h1101 0 22 = h 0 22 := g1101 0 22 rfl rfl
  have y1101_36_0 : h1101 36 0 = h 36 0 := g1101 36 0 rfl rfl
  have y1101_36_1 : h1101 36 1 = h 36 1 := g1101 36 1 rfl rfl
  have y1101_36_2 : h1101 36 2 = h 36 2 := g1101 36 2 rfl rfl
  have y1101_0_16 : h1101 0 16 = h 0 16 := g1101 0 16 rfl rfl
  have y1101_0_17 : h1101 0 17 = h 0 17 := g1101 0 17 rfl rfl
  have y1101_0_18 : h1101 0 18 = h 0 18 := g1101 0 18 rfl rfl
  have y1101_0_15 : h1101 0 15 = h 0 15 := g1101 0 15 rfl rfl
  have y1101_0_20 : h1101 0 20 = h 0 20 := g1101 0 20 rfl rfl
  have y1101_30_10 : h1101 30 10 = h 30 10 := g1101 30 10 rfl rfl
  have y1101_30_12 : h1101 30 12 = h 30 12 := g1101 30 12 rfl rfl
  have hT1 := hT; have gA1 := gA; have gB1 := gB; have gC1 := gC
  show zL _ _ _ (.inl r1101 :: []) _
  refine zL_pop (pc' := 1105) dL_1104 rfl rfl ?_
  refine zL_aload_n (pc' := 1106) dL_1105 rfl rfl ?_
  refine zL_aload_n (pc' := 1107) dL_1106 rfl rfl ?_
  refine zL_iload_n (pc' := 1108) dL_1107 rfl rfl ?_
  refine zL_iconst (pc' := 1109) dL_1108 rfl ?_
  refine zL_iadd (pc' := 1110) dL_1109 rfl ?_
  refine zL_sldE (pc' := 1111) (by omega) hm dL_1110 rfl (fun v1110 e1110 q1110 => ?_)
  refine zL_aload_n (pc' := 1112) dL_1111 rfl rfl ?_
  refine zL_iload_n (pc' := 1113) dL_1112 rfl rfl ?_
  refine zL_iconst (pc' := 1114) dL_1113 rfl ?_
  refine zL_iadd (pc' := 1115) dL_1114 rfl ?_
  refine zL_sldE (pc' := 1116) (by omega) hm dL_1115 rfl (fun v1115 e1115 q1115 => ?_)
  refine zL_aload_n (pc' := 1117) dL_1116 rfl rfl ?_
  refine zL_iload_n (pc' := 1118) dL_1117 rfl rfl ?_
  refine zL_iconst (pc' := 1119) dL_1118 rfl ?_
  refine zL_iadd (pc' := 1120) dL_1119 rfl ?_
  refine zL_sldE (pc' := 1121) (by omega) hm dL_1120 rfl (fun v1120 e1120 q1120 => ?_)
  refine zL_inv (pc' := 1124) hcs kX12_percent vX12_percent lk_L_116 ⟨Nat.le_of_ble_eq_true rfl, Nat.le_of_ble_eq_true rfl⟩ tb0 vq12 rfl [_, _, _] (s_X12_percent (κ := _) hR (Fr.rf hS) _ ⟨e1110.1, e1110.2⟩ _ ⟨e1115.1, e1115.2⟩ _ ⟨e1120.1, e1120.2⟩) dL_1121 rfl (Nat.le_of_ble_eq_true rfl) rfl ?_
  rintro r1121 h1121 ⟨f1121, p1121⟩; replace f1121 := (Fm.rf (L := []) hS hR hC).frq f1121; obtain ⟨g1121, hS, hR, hC⟩ := f1121
  have y1121_0_25 : h1121 0 25 = h1101 0 25 := g1121 0 25 rfl rfl
  have y1121_31_1 : h1121 31 1 = h1101 31 1 := g1121 31 1 rfl rfl
  have y1121_33_0 : h1121 33 0 = h1101 33 0 := g1121 33 0 rfl rfl
  have y1121_33_1 : h1121 33 1 = h1101 33 1 := g1121 33 1 rfl rfl
  have y1121_33_2 : h1121 33 2 = h1101 33 2 := g1121 33 2 rfl rfl
  have y1121_0_11 : h1121 0 11 = h1101 0 11 := g1121 0 11 rfl rfl
  have y1121_0_12 : h1121 0 12 = h1101 0 12 := g1121 0 12 rfl rfl
  have y1121_0_13 : h1121 0 13 = h1101 0 13 := g1121 0 13 rfl rfl
  have y1121_30_11 : h1121 30 11 = h1101 30 11 := g1121 30 11 rfl rfl
  have y1121_0_22 : h1121 0 22 = h1101 0 22 := g1121 0 22 rfl rfl
  have y1121_36_0 : h1121 36 0 = h1101 36 0 := g1121 36 0 rfl rfl
  have y1121_36_1 : h1121 36 1 = h1101 36 1 := g1121 36 1 rfl rfl
  have y1121_36_2 : h1121 36 2 = h1101 36 2 := g1121 36 2 rfl rfl
  have y1121_0_16 : h1121 0 16 = h1101 0 16 := g1121 0 16 rfl rfl
  have y1121_0_17 : h1121 0 17 = h1101 0 17 := g1121 0 17 rfl rfl
  have y1121_0_18 : h1121 0 18 = h1101 0 18 := g1121 0 18 rfl rfl
  have y1121_0_15 : h1121 0 15 = h1101 0 15 := g1121 0 15 rfl rfl
  have y1121_0_20 : h1121 0 20 = h1101 0 20 := g1121 0 20 rfl rfl
  have y1121_30_10 : h1121 30 10 = h1101 30 10 := g1121 30 10 rfl rfl
  have y1121_30_12 : h1121 30 12 = h1101 30 12 := g1121 30 12 rfl rfl
  replace hT : TI h1121 := TI_of hT1 (y1121_0_25.trans y1101_0_25) (y1121_31_1.trans y1101_31_1) (y1121_33_0.trans y1101_33_0) (y1121_33_1.trans y1101_33_1) (y1121_33_2.trans y1101_33_2) (y1121_0_11.trans y1101_0_11) (y1121_0_12.trans y1101_0_12) (y1121_0_13.trans y1101_0_13) (y1121_30_11.trans y1101_30_11) (y1121_0_22.trans y1101_0_22) (y1121_36_0.trans y1101_36_0) (y1121_36_1.trans y1101_36_1) (y1121_36_2.trans y1101_36_2) (y1121_0_16.trans y1101_0_16) (y1121_0_17.trans y1101_0_17) (y1121_0_18.trans y1101_0_18)
  replace gA : TGA h1121 := TGA_of gA1 (fun j => (g1121 1 j rfl rfl).trans (g1101 1 j rfl rfl)) (fun j => (g1121 34 j rfl rfl).trans (g1101 34 j rfl rfl)) (fun j => (g1121 10 j rfl rfl).trans (g1101 10 j rfl rfl)) (fun j => (g1121 35 j rfl rfl).trans (g1101 35 j rfl rfl)) (fun j => (g1121 6 j rfl rfl).trans (g1101 6 j rfl rfl)) (fun j => (g1121 37 j rfl rfl).trans (g1101 37 j rfl rfl)) (fun j => (g1121 11 j rfl rfl).trans (g1101 11 j rfl rfl)) (fun j => (g1121 38 j rfl rfl).trans (g1101 38 j rfl rfl)) ((y1121_0_11).trans (y1101_0_11)) ((y1121_0_12).trans (y1101_0_12)) ((y1121_0_16).trans (y1101_0_16)) ((y1121_0_17).trans (y1101_0_17)) ((y1121_0_22).trans (y1101_0_22))
  replace gB : TGB h1121 := TGB_of gB1 (fun j => (g1121 12 j rfl rfl).trans (g1101 12 j rfl rfl)) (fun j => (g1121 32 j rfl rfl).trans (g1101 32 j rfl rfl)) ((y1121_0_25).trans (y1101_0_25))
  replace gC : TGC h1121 := TGC_of gC1  ((y1121_0_15).trans (y1101_0_15)) ((y1121_30_12).trans (y1101_30_12)) ((y1121_0_11).trans (y1101_0_11)) ((y1121_0_12).trans (y1101_0_12)) ((y1121_0_20).trans (y1101_0_20)) ((y1121_30_10).trans (y1101_30_10)) ((y1121_0_16).trans (y1101_0_16)) ((y1121_0_17).trans (y1101_0_17)) ((y1121_0_22).trans (y1101_0_22))
  show zL _ _ _ (.inl r1121 :: []) _
  refine zL_pop (pc' := 1125) dL_1124 rfl rfl ?_
  refine zL_goto (tgt := 1580) dL_1125 rfl ?_
  exact nx _ hS hR hC hT gA gB gC
set_option maxHeartbeats 4000000 in
theorem lc_24 {Γ : Lc} {i : Int} {h : Hp} (hX : XI Γ.1) (hcs : Γ.2.2.2.2.2.1 ≤ room_1.cells ∧ Γ.2.2.2.2.2.2 ≤ room_1.slots) (hm : Γ.2.2.1 < 2147483648) (hi : 0 ≤ i ∧ i + 6 ≤ Γ.2.2.1) (hS : SI h) (hR : KR h) (hC : KC h) (hT : TI h) (gA : TGA h) (gB : TGB h) (gC : TGC h) (nx : ∀ h' : Hp, SI h' → KR h' → KC h' → TI h' → TGA h' → TGB h' → TGC h' → zL Γ 1580 (lsL i) [] h') : zL Γ 1128 (lsL i) [] h := by
  refine zL_aload_n (pc' := 1129) dL_1128 rfl rfl ?_
  refine zL_aload_n (pc' := 1130) dL_1129 rfl rfl ?_
  refine zL_iload_n (pc' := 1131) dL_1130 rfl rfl ?_
  refine zL_iconst (pc' := 1132) dL_1131 rfl ?_
  refine zL_iadd (pc' := 1133) dL_1132 rfl ?_
  refine zL_sldE (pc' := 1134) (by omega) hm dL_1133 rfl (fun v1133 e1133 q1133 => ?_)
  refine zL_aload_n (pc' := 1135) dL_1134 rfl rfl ?_
  refine zL_iload_n (pc' := 1136) dL_1135 rfl rfl ?_
  refine zL_iconst (pc' := 1137) dL_1136 rfl ?_
  refine zL_iadd (pc' := 1138) dL_1137 rfl ?_
  refine zL_sldE (pc' := 1139) (by omega) hm dL_1138 rfl (fun v1138 e1138 q1138 => ?_)
  refine zL_inv (pc' := 1142) hcs kX11_bits vX11_bits lk_L_117 ⟨Nat.le_of_ble_eq_true rfl, Nat.le_of_ble_eq_true rfl⟩ tb30 vq11 rfl [_, _] (s_X11_bits (b := true) (κ := _) hC (Fr.rf hS) _ ⟨e1133.1, e1133.2⟩ _ ⟨e1138.1, e1138.2⟩) dL_1139 rfl (Nat.le_of_ble_eq_true rfl) rfl ?_
  rintro r1139 h1139 ⟨f1139, p1139⟩; replace f1139 := (Fm.rf (L := []) hS hR hC).frq f1139; obtain ⟨g1139, hS, hR, hC⟩ := f1139
  have y1139_0_25 : h1139 0 25 = h 0 25 := g1139 0 25 rfl rfl
  have y1139_31_1 : h1139 31 1 = h 31 1 := g1139 31 1 rfl rfl
  have y1139_33_0 : h1139 33 0 = h 33 0 := g1139 33 0 rfl rfl
  have y1139_33_1 : h1139 33 1 = h 33 1 := g1139 33 1 rfl rfl
  have y1139_33_2 : h1139 33 2 = h 33 2 := g1139 33 2 rfl rfl
  have y1139_0_11 : h1139 0 11 = h 0 11 := g1139 0 11 rfl rfl
  have y1139_0_12 : h1139 0 12 = h 0 12 := g1139 0 12 rfl rfl
  have y1139_0_13 : h1139 0 13 = h 0 13 := g1139 0 13 rfl rfl
  have y1139_30_11 : h1139 30 11 = h 30 11 := g1139 30 11 rfl rfl
  have y1139_0_22 : h1139 0 22 = h 0 22 := g1139 0 22 rfl rfl
  have y1139_36_0 : h1139 36 0 = h 36 0 := g1139 36 0 rfl rfl
  have y1139_36_1 : h1139 36 1 = h 36 1 := g1139 36 1 rfl rfl
  have y1139_36_2 : h1139 36 2 = h 36 2 := g1139 36 2 rfl rfl
  have y1139_0_16 : h1139 0 16 = h 0 16 := g1139 0 16 rfl rfl
  have y1139_0_17 : h1139 0 17 = h 0 17 := g1139 0 17 rfl rfl
  have y1139_0_18 : h1139 0 18 = h 0 18 := g1139 0 18 rfl rfl
  have y1139_0_15 : h1139 0 15 = h 0 15 := g1139 0 15 rfl rfl
  have y1139_0_20 : h1139 0 20 = h 0 20 := g1139 0 20 rfl rfl
  have y1139_30_10 : h1139 30 10 = h 30 10 := g1139 30 10 rfl rfl
  have y1139_30_12 : h1139 30 12 = h 30 12 := g1139 30 12 rfl rfl
  have hT1 := hT; have gA1 := gA; have gB1 := gB; have gC1 := gC
  show zL _ _ _ (.inl r1139 :: []) _
  refine zL_pop (pc' := 1143) dL_1142 rfl rfl ?_
  refine zL_aload_n (pc' := 1144) dL_1143 rfl rfl ?_
  refine zL_aload_n (pc' := 1145) dL_1144 rfl rfl ?_
  refine zL_iload_n (pc' := 1146) dL_1145 rfl rfl ?_
  refine zL_iconst (pc' := 1147) dL_1146 rfl ?_
  refine zL_iadd (pc' := 1148) dL_1147 rfl ?_
  refine zL_sldE (pc' := 1149) (by omega) hm dL_1148 rfl (fun v1148 e1148 q1148 => ?_)
  refine zL_aload_n (pc' := 1150) dL_1149 rfl rfl ?_
  refine zL_iload_n (pc' := 1151) dL_1150 rfl rfl ?_
  refine zL_iconst (pc' := 1152) dL_1151 rfl ?_
  refine zL_iadd (pc' := 1153) dL_1152 rfl ?_
  refine zL_sldE (pc' := 1154) (by omega) hm dL_1153 rfl (fun v1153 e1153 q1153 => ?_)
  refine zL_inv (pc' := 1157) hcs kX12_bits vX12_bits lk_L_120 ⟨Nat.le_of_ble_eq_true rfl, Nat.le_of_ble_eq_true rfl⟩ tb0 vq12 rfl [_, _] (s_X12_bits (κ := _) hR (Fr.rf hS) _ ⟨e1148.1, e1148.2⟩ _ ⟨e1153.1, e1153.2⟩) dL_1154 rfl (Nat.le_of_ble_eq_true rfl) rfl ?_
  rintro r1154 h1154 ⟨f1154, p1154⟩; replace f1154 := (Fm.rf (L := []) hS hR hC).frq f1154; obtain ⟨g1154, hS, hR, hC⟩ := f1154
  have y1154_0_25 : h1154 0 25 = h1139 0 25 := g1154 0 25 rfl rfl
  have y1154_31_1 : h1154 31 1 = h1139 31 1 := g1154 31 1 rfl rfl
  have y1154_33_0 : h1154 33 0 = h1139 33 0 := g1154 33 0 rfl rfl
  have y1154_33_1 : h1154 33 1 = h1139 33 1 := g1154 33 1 rfl rfl
  have y1154_33_2 : h1154 33 2 = h1139 33 2 := g1154 33 2 rfl rfl
  have y1154_0_11 : h1154 0 11 = h1139 0 11 := g1154 0 11 rfl rfl
  have y1154_0_12 : h1154 0 12 = h1139 0 12 := g1154 0 12 rfl rfl
  have y1154_0_13 : h1154 0 13 = h1139 0 13 := g1154 0 13 rfl rfl
  have y1154_30_11 : h1154 30 11 = h1139 30 11 := g1154 30 11 rfl rfl
  have y1154_0_22 : h1154 0 22 = h1139 0 22 := g1154 0 22 rfl rfl
  have y1154_36_0 : h1154 36 0 = h1139 36 0 := g1154 36 0 rfl rfl
  have y1154_36_1 : h1154 36 1 = h1139 36 1 := g1154 36 1 rfl rfl
  have y1154_36_2 : h1154 36 2 = h1139 36 2 := g1154 36 2 rfl rfl
  have y1154_0_16 : h1154 0 16 = h1139 0 16 := g1154 0 16 rfl rfl
  have y1154_0_17 : h1154 0 17 = h1139 0 17 := g1154 0 17 rfl rfl
  have y1154_0_18 : h1154 0 18 = h1139 0 18 := g1154 0 18 rfl rfl
  have y1154_0_15 : h1154 0 15 = h1139 0 15 := g1154 0 15 rfl rfl
  have y1154_0_20 : h1154 0 20 = h1139 0 20 := g1154 0 20 rfl rfl
  have y1154_30_10 : h1154 30 10 = h1139 30 10 := g1154 30 10 rfl rfl
  have y1154_30_12 : h1154 30 12 = h1139 30 12 := g1154 30 12 rfl rfl
  replace hT : TI h1154 := TI_of hT1 (y1154_0_25.trans y1139_0_25) (y1154_31_1.trans y1139_31_1) (y1154_33_0.trans y1139_33_0) (y1154_33_1.trans y1139_33_1) (y1154_33_2.trans y1139_33_2) (y1154_0_11.trans y1139_0_11) (y1154_0_12.trans y1139_0_12) (y1154_0_13.trans y1139_0_13) (y1154_30_11.trans y1139_30_11) (y1154_0_22.trans y1139_0_22) (y1154_36_0.trans y1139_36_0) (y1154_36_1.trans y1139_36_1) (y1154_36_2.trans y1139_36_2) (y1154_0_16.trans y1139_0_16) (y1154_0_17.trans y1139_0_17) (y1154_0_18.trans y1139_0_18)
  replace gA : TGA h1154 := TGA_of gA1 (fun j => (g1154 1 j rfl rfl).trans (g1139 1 j rfl rfl)) (fun j => (g1154 34 j rfl rfl).trans (g1139 34 j rfl rfl)) (fun j => (g1154 10 j rfl rfl).trans (g1139 10 j rfl rfl)) (fun j => (g1154 35 j rfl rfl).trans (g1139 35 j rfl rfl)) (fun j => (g1154 6 j rfl rfl).trans (g1139 6 j rfl rfl)) (fun j => (g1154 37 j rfl rfl).trans (g1139 37 j rfl rfl)) (fun j => (g1154 11 j rfl rfl).trans (g1139 11 j rfl rfl)) (fun j => (g1154 38 j rfl rfl).trans (g1139 38 j rfl rfl)) ((y1154_0_11).trans (y1139_0_11)) ((y1154_0_12).trans (y1139_0_12)) ((y1154_0_16).trans (y1139_0_16)) ((y1154_0_17).trans (y1139_0_17)) ((y1154_0_22).trans (y1139_0_22))
  replace gB : TGB h1154 := TGB_of gB1 (fun j => (g1154 12 j rfl rfl).trans (g1139 12 j rfl rfl)) (fun j => (g1154 32 j rfl rfl).trans (g1139 32 j rfl rfl)) ((y1154_0_25).trans (y1139_0_25))
  replace gC : TGC h1154 := TGC_of gC1  ((y1154_0_15).trans (y1139_0_15)) ((y1154_30_12).trans (y1139_30_12)) ((y1154_0_11).trans (y1139_0_11)) ((y1154_0_12).trans (y1139_0_12)) ((y1154_0_20).trans (y1139_0_20)) ((y1154_30_10).trans (y1139_30_10)) ((y1154_0_16).trans (y1139_0_16)) ((y1154_0_17).trans (y1139_0_17)) ((y1154_0_22).trans (y1139_0_22))
  show zL _ _ _ (.inl r1154 :: []) _
  refine zL_pop (pc' := 1158) dL_1157 rfl rfl ?_
  refine zL_goto (tgt := 1580) dL_1158 rfl ?_
  exact nx _ hS hR hC hT gA gB gC
set_option maxHeartbeats 4000000 in
theorem lc_25 {Γ : Lc} {i : Int} {h : Hp} (hX : XI Γ.1) (hcs : Γ.2.2.2.2.2.1 ≤ room_1.cells ∧ Γ.2.2.2.2.2.2 ≤ room_1.slots) (hm : Γ.2.2.1 < 2147483648) (hi : 0 ≤ i ∧ i + 6 ≤ Γ.2.2.1) (hS : SI h) (hR : KR h) (hC : KC h) (hT : TI h) (gA : TGA h) (gB : TGB h) (gC : TGC h) (nx : ∀ h' : Hp, SI h' → KR h' → KC h' → TI h' → TGA h' → TGB h' → TGC h' → zL Γ 1580 (lsL i) [] h') : zL Γ 1161 (lsL i) [] h := by
  refine zL_aload_n (pc' := 1162) dL_1161 rfl rfl ?_
  refine zL_aload_n (pc' := 1163) dL_1162 rfl rfl ?_
  refine zL_iload_n (pc' := 1164) dL_1163 rfl rfl ?_
  refine zL_iconst (pc' := 1165) dL_1164 rfl ?_
  refine zL_iadd (pc' := 1166) dL_1165 rfl ?_
  refine zL_sldE (pc' := 1167) (by omega) hm dL_1166 rfl (fun v1166 e1166 q1166 => ?_)
  refine zL_aload_n (pc' := 1168) dL_1167 rfl rfl ?_
  refine zL_iload_n (pc' := 1169) dL_1168 rfl rfl ?_
  refine zL_iconst (pc' := 1170) dL_1169 rfl ?_
  refine zL_iadd (pc' := 1171) dL_1170 rfl ?_
  refine zL_sldE (pc' := 1172) (by omega) hm dL_1171 rfl (fun v1171 e1171 q1171 => ?_)
  refine zL_aload_n (pc' := 1173) dL_1172 rfl rfl ?_
  refine zL_iload_n (pc' := 1174) dL_1173 rfl rfl ?_
  refine zL_iconst (pc' := 1175) dL_1174 rfl ?_
  refine zL_iadd (pc' := 1176) dL_1175 rfl ?_
  refine zL_sldE (pc' := 1177) (by omega) hm dL_1176 rfl (fun v1176 e1176 q1176 => ?_)
  refine zL_aload_n (pc' := 1178) dL_1177 rfl rfl ?_
  refine zL_iload_n (pc' := 1179) dL_1178 rfl rfl ?_
  refine zL_iconst (pc' := 1180) dL_1179 rfl ?_
  refine zL_iadd (pc' := 1181) dL_1180 rfl ?_
  refine zL_sldE (pc' := 1182) (by omega) hm dL_1181 rfl (fun v1181 e1181 q1181 => ?_)
  refine zL_inv (pc' := 1185) hcs kX11_ring vX11_ring lk_L_121 ⟨Nat.le_of_ble_eq_true rfl, Nat.le_of_ble_eq_true rfl⟩ tb30 vq11 rfl [_, _, _, _] (s_X11_ring (b := true) (κ := _) hC (Fr.rf hS) _ ⟨e1166.1, e1166.2⟩ _ ⟨e1171.1, e1171.2⟩ _ ⟨e1176.1, e1176.2⟩ _ ⟨e1181.1, e1181.2⟩) dL_1182 rfl (Nat.le_of_ble_eq_true rfl) rfl ?_
  rintro r1182 h1182 ⟨f1182, p1182⟩; replace f1182 := (Fm.rf (L := []) hS hR hC).frq f1182; obtain ⟨g1182, hS, hR, hC⟩ := f1182
  have y1182_0_25 : h1182 0 25 = h 0 25 := g1182 0 25 rfl rfl
  have y1182_31_1 : h1182 31 1 = h 31 1 := g1182 31 1 rfl rfl
  have y1182_33_0 : h1182 33 0 = h 33 0 := g1182 33 0 rfl rfl
  have y1182_33_1 : h1182 33 1 = h 33 1 := g1182 33 1 rfl rfl
  have y1182_33_2 : h1182 33 2 = h 33 2 := g1182 33 2 rfl rfl
  have y1182_0_11 : h1182 0 11 = h 0 11 := g1182 0 11 rfl rfl
  have y1182_0_12 : h1182 0 12 = h 0 12 := g1182 0 12 rfl rfl
  have y1182_0_13 : h1182 0 13 = h 0 13 := g1182 0 13 rfl rfl
  have y1182_30_11 : h1182 30 11 = h 30 11 := g1182 30 11 rfl rfl
  have y1182_0_22 : h1182 0 22 = h 0 22 := g1182 0 22 rfl rfl
  have y1182_36_0 : h1182 36 0 = h 36 0 := g1182 36 0 rfl rfl
  have y1182_36_1 : h1182 36 1 = h 36 1 := g1182 36 1 rfl rfl
  have y1182_36_2 : h1182 36 2 = h 36 2 := g1182 36 2 rfl rfl
  have y1182_0_16 : h1182 0 16 = h 0 16 := g1182 0 16 rfl rfl
  have y1182_0_17 : h1182 0 17 = h 0 17 := g1182 0 17 rfl rfl
  have y1182_0_18 : h1182 0 18 = h 0 18 := g1182 0 18 rfl rfl
  have y1182_0_15 : h1182 0 15 = h 0 15 := g1182 0 15 rfl rfl
  have y1182_0_20 : h1182 0 20 = h 0 20 := g1182 0 20 rfl rfl
  have y1182_30_10 : h1182 30 10 = h 30 10 := g1182 30 10 rfl rfl
  have y1182_30_12 : h1182 30 12 = h 30 12 := g1182 30 12 rfl rfl
  have hT1 := hT; have gA1 := gA; have gB1 := gB; have gC1 := gC
  show zL _ _ _ (.inl r1182 :: []) _
  refine zL_pop (pc' := 1186) dL_1185 rfl rfl ?_
  refine zL_aload_n (pc' := 1187) dL_1186 rfl rfl ?_
  refine zL_aload_n (pc' := 1188) dL_1187 rfl rfl ?_
  refine zL_iload_n (pc' := 1189) dL_1188 rfl rfl ?_
  refine zL_iconst (pc' := 1190) dL_1189 rfl ?_
  refine zL_iadd (pc' := 1191) dL_1190 rfl ?_
  refine zL_sldE (pc' := 1192) (by omega) hm dL_1191 rfl (fun v1191 e1191 q1191 => ?_)
  refine zL_aload_n (pc' := 1193) dL_1192 rfl rfl ?_
  refine zL_iload_n (pc' := 1194) dL_1193 rfl rfl ?_
  refine zL_iconst (pc' := 1195) dL_1194 rfl ?_
  refine zL_iadd (pc' := 1196) dL_1195 rfl ?_
  refine zL_sldE (pc' := 1197) (by omega) hm dL_1196 rfl (fun v1196 e1196 q1196 => ?_)
  refine zL_aload_n (pc' := 1198) dL_1197 rfl rfl ?_
  refine zL_iload_n (pc' := 1199) dL_1198 rfl rfl ?_
  refine zL_iconst (pc' := 1200) dL_1199 rfl ?_
  refine zL_iadd (pc' := 1201) dL_1200 rfl ?_
  refine zL_sldE (pc' := 1202) (by omega) hm dL_1201 rfl (fun v1201 e1201 q1201 => ?_)
  refine zL_aload_n (pc' := 1203) dL_1202 rfl rfl ?_
  refine zL_iload_n (pc' := 1204) dL_1203 rfl rfl ?_
  refine zL_iconst (pc' := 1205) dL_1204 rfl ?_
  refine zL_iadd (pc' := 1206) dL_1205 rfl ?_
  refine zL_sldE (pc' := 1207) (by omega) hm dL_1206 rfl (fun v1206 e1206 q1206 => ?_)
  refine zL_inv (pc' := 1210) hcs kX12_ring vX12_ring lk_L_124 ⟨Nat.le_of_ble_eq_true rfl, Nat.le_of_ble_eq_true rfl⟩ tb0 vq12 rfl [_, _, _, _] (s_X12_ring (κ := _) hR (Fr.rf hS) _ ⟨e1191.1, e1191.2⟩ _ ⟨e1196.1, e1196.2⟩ _ ⟨e1201.1, e1201.2⟩ _ ⟨e1206.1, e1206.2⟩) dL_1207 rfl (Nat.le_of_ble_eq_true rfl) rfl ?_
  rintro r1207 h1207 ⟨f1207, p1207⟩; replace f1207 := (Fm.rf (L := []) hS hR hC).frq f1207; obtain ⟨g1207, hS, hR, hC⟩ := f1207
  have y1207_0_25 : h1207 0 25 = h1182 0 25 := g1207 0 25 rfl rfl
  have y1207_31_1 : h1207 31 1 = h1182 31 1 := g1207 31 1 rfl rfl
  have y1207_33_0 : h1207 33 0 = h1182 33 0 := g1207 33 0 rfl rfl
  have y1207_33_1 : h1207 33 1 = h1182 33 1 := g1207 33 1 rfl rfl
  have y1207_33_2 : h1207 33 2 = h1182 33 2 := g1207 33 2 rfl rfl
  have y1207_0_11 : h1207 0 11 = h1182 0 11 := g1207 0 11 rfl rfl
  have y1207_0_12 : h1207 0 12 = h1182 0 12 := g1207 0 12 rfl rfl
  have y1207_0_13 : h1207 0 13 = h1182 0 13 := g1207 0 13 rfl rfl
  have y1207_30_11 : h1207 30 11 = h1182 30 11 := g1207 30 11 rfl rfl
  have y1207_0_22 : h1207 0 22 = h1182 0 22 := g1207 0 22 rfl rfl
  have y1207_36_0 : h1207 36 0 = h1182 36 0 := g1207 36 0 rfl rfl
  have y1207_36_1 : h1207 36 1 = h1182 36 1 := g1207 36 1 rfl rfl
  have y1207_36_2 : h1207 36 2 = h1182 36 2 := g1207 36 2 rfl rfl
  have y1207_0_16 : h1207 0 16 = h1182 0 16 := g1207 0 16 rfl rfl
  have y1207_0_17 : h1207 0 17 = h1182 0 17 := g1207 0 17 rfl rfl
  have y1207_0_18 : h1207 0 18 = h1182 0 18 := g1207 0 18 rfl rfl
  have y1207_0_15 : h1207 0 15 = h1182 0 15 := g1207 0 15 rfl rfl
  have y1207_0_20 : h1207 0 20 = h1182 0 20 := g1207 0 20 rfl rfl
  have y1207_30_10 : h1207 30 10 = h1182 30 10 := g1207 30 10 rfl rfl
  have y1207_30_12 : h1207 30 12 = h1182 30 12 := g1207 30 12 rfl rfl
  replace hT : TI h1207 := TI_of hT1 (y1207_0_25.trans y1182_0_25) (y1207_31_1.trans y1182_31_1) (y1207_33_0.trans y1182_33_0) (y1207_33_1.trans y1182_33_1) (y1207_33_2.trans y1182_33_2) (y1207_0_11.trans y1182_0_11) (y1207_0_12.trans y1182_0_12) (y1207_0_13.trans y1182_0_13) (y1207_30_11.trans y1182_30_11) (y1207_0_22.trans y1182_0_22) (y1207_36_0.trans y1182_36_0) (y1207_36_1.trans y1182_36_1) (y1207_36_2.trans y1182_36_2) (y1207_0_16.trans y1182_0_16) (y1207_0_17.trans y1182_0_17) (y1207_0_18.trans y1182_0_18)
  replace gA : TGA h1207 := TGA_of gA1 (fun j => (g1207 1 j rfl rfl).trans (g1182 1 j rfl rfl)) (fun j => (g1207 34 j rfl rfl).trans (g1182 34 j rfl rfl)) (fun j => (g1207 10 j rfl rfl).trans (g1182 10 j rfl rfl)) (fun j => (g1207 35 j rfl rfl).trans (g1182 35 j rfl rfl)) (fun j => (g1207 6 j rfl rfl).trans (g1182 6 j rfl rfl)) (fun j => (g1207 37 j rfl rfl).trans (g1182 37 j rfl rfl)) (fun j => (g1207 11 j rfl rfl).trans (g1182 11 j rfl rfl)) (fun j => (g1207 38 j rfl rfl).trans (g1182 38 j rfl rfl)) ((y1207_0_11).trans (y1182_0_11)) ((y1207_0_12).trans (y1182_0_12)) ((y1207_0_16).trans (y1182_0_16)) ((y1207_0_17).trans (y1182_0_17)) ((y1207_0_22).trans (y1182_0_22))
  replace gB : TGB h1207 := TGB_of gB1 (fun j => (g1207 12 j rfl rfl).trans (g1182 12 j rfl rfl)) (fun j => (g1207 32 j rfl rfl).trans (g1182 32 j rfl rfl)) ((y1207_0_25).trans (y1182_0_25))
  replace gC : TGC h1207 := TGC_of gC1  ((y1207_0_15).trans (y1182_0_15)) ((y1207_30_12).trans (y1182_30_12)) ((y1207_0_11).trans (y1182_0_11)) ((y1207_0_12).trans (y1182_0_12)) ((y1207_0_20).trans (y1182_0_20)) ((y1207_30_10).trans (y1182_30_10)) ((y1207_0_16).trans (y1182_0_16)) ((y1207_0_17).trans (y1182_0_17)) ((y1207_0_22).trans (y1182_0_22))
  show zL _ _ _ (.inl r1207 :: []) _
  refine zL_pop (pc' := 1211) dL_1210 rfl rfl ?_
  refine zL_goto (tgt := 1580) dL_1211 rfl ?_
  exact nx _ hS hR hC hT gA gB gC
set_option maxHeartbeats 4000000 in
theorem lc_26 {Γ : Lc} {i : Int} {h : Hp} (hX : XI Γ.1) (hcs : Γ.2.2.2.2.2.1 ≤ room_1.cells ∧ Γ.2.2.2.2.2.2 ≤ room_1.slots) (hm : Γ.2.2.1 < 2147483648) (hi : 0 ≤ i ∧ i + 6 ≤ Γ.2.2.1) (hS : SI h) (hR : KR h) (hC : KC h) (hT : TI h) (gA : TGA h) (gB : TGB h) (gC : TGC h) (nx : ∀ h' : Hp, SI h' → KR h' → KC h' → TI h' → TGA h' → TGB h' → TGC h' → zL Γ 1580 (lsL i) [] h') : zL Γ 1214 (lsL i) [] h := by
  refine zL_aload_n (pc' := 1215) dL_1214 rfl rfl ?_
  refine zL_aload_n (pc' := 1216) dL_1215 rfl rfl ?_
  refine zL_iload_n (pc' := 1217) dL_1216 rfl rfl ?_
  refine zL_iconst (pc' := 1218) dL_1217 rfl ?_
  refine zL_iadd (pc' := 1219) dL_1218 rfl ?_
  refine zL_sldE (pc' := 1220) (by omega) hm dL_1219 rfl (fun v1219 e1219 q1219 => ?_)
  refine zL_aload_n (pc' := 1221) dL_1220 rfl rfl ?_
  refine zL_iload_n (pc' := 1222) dL_1221 rfl rfl ?_
  refine zL_iconst (pc' := 1223) dL_1222 rfl ?_
  refine zL_iadd (pc' := 1224) dL_1223 rfl ?_
  refine zL_sldE (pc' := 1225) (by omega) hm dL_1224 rfl (fun v1224 e1224 q1224 => ?_)
  refine zL_inv (pc' := 1228) hcs kX11_edges vX11_edges lk_L_125 ⟨Nat.le_of_ble_eq_true rfl, Nat.le_of_ble_eq_true rfl⟩ tb30 vq11 rfl [_, _] (s_X11_edges (b := true) (κ := _) hC (Fr.rf hS) _ ⟨e1219.1, e1219.2⟩ _ ⟨e1224.1, e1224.2⟩) dL_1225 rfl (Nat.le_of_ble_eq_true rfl) rfl ?_
  rintro r1225 h1225 ⟨f1225, p1225⟩; replace f1225 := (Fm.rf (L := []) hS hR hC).frq f1225; obtain ⟨g1225, hS, hR, hC⟩ := f1225
  have y1225_0_25 : h1225 0 25 = h 0 25 := g1225 0 25 rfl rfl
  have y1225_31_1 : h1225 31 1 = h 31 1 := g1225 31 1 rfl rfl
  have y1225_33_0 : h1225 33 0 = h 33 0 := g1225 33 0 rfl rfl
  have y1225_33_1 : h1225 33 1 = h 33 1 := g1225 33 1 rfl rfl
  have y1225_33_2 : h1225 33 2 = h 33 2 := g1225 33 2 rfl rfl
  have y1225_0_11 : h1225 0 11 = h 0 11 := g1225 0 11 rfl rfl
  have y1225_0_12 : h1225 0 12 = h 0 12 := g1225 0 12 rfl rfl
  have y1225_0_13 : h1225 0 13 = h 0 13 := g1225 0 13 rfl rfl
  have y1225_30_11 : h1225 30 11 = h 30 11 := g1225 30 11 rfl rfl
  have y1225_0_22 : h1225 0 22 = h 0 22 := g1225 0 22 rfl rfl
  have y1225_36_0 : h1225 36 0 = h 36 0 := g1225 36 0 rfl rfl
  have y1225_36_1 : h1225 36 1 = h 36 1 := g1225 36 1 rfl rfl
  have y1225_36_2 : h1225 36 2 = h 36 2 := g1225 36 2 rfl rfl
  have y1225_0_16 : h1225 0 16 = h 0 16 := g1225 0 16 rfl rfl
  have y1225_0_17 : h1225 0 17 = h 0 17 := g1225 0 17 rfl rfl
  have y1225_0_18 : h1225 0 18 = h 0 18 := g1225 0 18 rfl rfl
  have y1225_0_15 : h1225 0 15 = h 0 15 := g1225 0 15 rfl rfl
  have y1225_0_20 : h1225 0 20 = h 0 20 := g1225 0 20 rfl rfl
  have y1225_30_10 : h1225 30 10 = h 30 10 := g1225 30 10 rfl rfl
  have y1225_30_12 : h1225 30 12 = h 30 12 := g1225 30 12 rfl rfl
  have hT1 := hT; have gA1 := gA; have gB1 := gB; have gC1 := gC
  show zL _ _ _ (.inl r1225 :: []) _
  refine zL_pop (pc' := 1229) dL_1228 rfl rfl ?_
  refine zL_aload_n (pc' := 1230) dL_1229 rfl rfl ?_
  refine zL_aload_n (pc' := 1231) dL_1230 rfl rfl ?_
  refine zL_iload_n (pc' := 1232) dL_1231 rfl rfl ?_
  refine zL_iconst (pc' := 1233) dL_1232 rfl ?_
  refine zL_iadd (pc' := 1234) dL_1233 rfl ?_
  refine zL_sldE (pc' := 1235) (by omega) hm dL_1234 rfl (fun v1234 e1234 q1234 => ?_)
  refine zL_aload_n (pc' := 1236) dL_1235 rfl rfl ?_
  refine zL_iload_n (pc' := 1237) dL_1236 rfl rfl ?_
  refine zL_iconst (pc' := 1238) dL_1237 rfl ?_
  refine zL_iadd (pc' := 1239) dL_1238 rfl ?_
  refine zL_sldE (pc' := 1240) (by omega) hm dL_1239 rfl (fun v1239 e1239 q1239 => ?_)
  refine zL_inv (pc' := 1243) hcs kX12_edges vX12_edges lk_L_128 ⟨Nat.le_of_ble_eq_true rfl, Nat.le_of_ble_eq_true rfl⟩ tb0 vq12 rfl [_, _] (s_X12_edges (κ := _) hR (Fr.rf hS) _ ⟨e1234.1, e1234.2⟩ _ ⟨e1239.1, e1239.2⟩) dL_1240 rfl (Nat.le_of_ble_eq_true rfl) rfl ?_
  rintro r1240 h1240 ⟨f1240, p1240⟩; replace f1240 := (Fm.rf (L := []) hS hR hC).frq f1240; obtain ⟨g1240, hS, hR, hC⟩ := f1240
  have y1240_0_25 : h1240 0 25 = h1225 0 25 := g1240 0 25 rfl rfl
  have y1240_31_1 : h1240 31 1 = h1225 31 1 := g1240 31 1 rfl rfl
  have y1240_33_0 : h1240 33 0 = h1225 33 0 := g1240 33 0 rfl rfl
  have y1240_33_1 : h1240 33 1 = h1225 33 1 := g1240 33 1 rfl rfl
  have y1240_33_2 : h1240 33 2 = h1225 33 2 := g1240 33 2 rfl rfl
  have y1240_0_11 : h1240 0 11 = h1225 0 11 := g1240 0 11 rfl rfl
  have y1240_0_12 : h1240 0 12 = h1225 0 12 := g1240 0 12 rfl rfl
  have y1240_0_13 : h1240 0 13 = h1225 0 13 := g1240 0 13 rfl rfl
  have y1240_30_11 : h1240 30 11 = h1225 30 11 := g1240 30 11 rfl rfl
  have y1240_0_22 : h1240 0 22 = h1225 0 22 := g1240 0 22 rfl rfl
  have y1240_36_0 : h1240 36 0 = h1225 36 0 := g1240 36 0 rfl rfl
  have y1240_36_1 : h1240 36 1 = h1225 36 1 := g1240 36 1 rfl rfl
  have y1240_36_2 : h1240 36 2 = h1225 36 2 := g1240 36 2 rfl rfl
  have y1240_0_16 : h1240 0 16 = h1225 0 16 := g1240 0 16 rfl rfl
  have y1240_0_17 : h1240 0 17 = h1225 0 17 := g1240 0 17 rfl rfl
  have y1240_0_18 : h1240 0 18 = h1225 0 18 := g1240 0 18 rfl rfl
  have y1240_0_15 : h1240 0 15 = h1225 0 15 := g1240 0 15 rfl rfl
  have y1240_0_20 : h1240 0 20 = h1225 0 20 := g1240 0 20 rfl rfl
  have y1240_30_10 : h1240 30 10 = h1225 30 10 := g1240 30 10 rfl rfl
  have y1240_30_12 : h1240 30 12 = h1225 30 12 := g1240 30 12 rfl rfl
  replace hT : TI h1240 := TI_of hT1 (y1240_0_25.trans y1225_0_25) (y1240_31_1.trans y1225_31_1) (y1240_33_0.trans y1225_33_0) (y1240_33_1.trans y1225_33_1) (y1240_33_2.trans y1225_33_2) (y1240_0_11.trans y1225_0_11) (y1240_0_12.trans y1225_0_12) (y1240_0_13.trans y1225_0_13) (y1240_30_11.trans y1225_30_11) (y1240_0_22.trans y1225_0_22) (y1240_36_0.trans y1225_36_0) (y1240_36_1.trans y1225_36_1) (y1240_36_2.trans y1225_36_2) (y1240_0_16.trans y1225_0_16) (y1240_0_17.trans y1225_0_17) (y1240_0_18.trans y1225_0_18)
  replace gA : TGA h1240 := TGA_of gA1 (fun j => (g1240 1 j rfl rfl).trans (g1225 1 j rfl rfl)) (fun j => (g1240 34 j rfl rfl).trans (g1225 34 j rfl rfl)) (fun j => (g1240 10 j rfl rfl).trans (g1225 10 j rfl rfl)) (fun j => (g1240 35 j rfl rfl).trans (g1225 35 j rfl rfl)) (fun j => (g1240 6 j rfl rfl).trans (g1225 6 j rfl rfl)) (fun j => (g1240 37 j rfl rfl).trans (g1225 37 j rfl rfl)) (fun j => (g1240 11 j rfl rfl).trans (g1225 11 j rfl rfl)) (fun j => (g1240 38 j rfl rfl).trans (g1225 38 j rfl rfl)) ((y1240_0_11).trans (y1225_0_11)) ((y1240_0_12).trans (y1225_0_12)) ((y1240_0_16).trans (y1225_0_16)) ((y1240_0_17).trans (y1225_0_17)) ((y1240_0_22).trans (y1225_0_22))
  replace gB : TGB h1240 := TGB_of gB1 (fun j => (g1240 12 j rfl rfl).trans (g1225 12 j rfl rfl)) (fun j => (g1240 32 j rfl rfl).trans (g1225 32 j rfl rfl)) ((y1240_0_25).trans (y1225_0_25))
  replace gC : TGC h1240 := TGC_of gC1  ((y1240_0_15).trans (y1225_0_15)) ((y1240_30_12).trans (y1225_30_12)) ((y1240_0_11).trans (y1225_0_11)) ((y1240_0_12).trans (y1225_0_12)) ((y1240_0_20).trans (y1225_0_20)) ((y1240_30_10).trans (y1225_30_10)) ((y1240_0_16).trans (y1225_0_16)) ((y1240_0_17).trans (y1225_0_17)) ((y1240_0_22).trans (y1225_0_22))
  show zL _ _ _ (.inl r1240 :: []) _
  refine zL_pop (pc' := 1244) dL_1243 rfl rfl ?_
  refine zL_goto (tgt := 1580) dL_1244 rfl ?_
  exact nx _ hS hR hC hT gA gB gC
set_option maxHeartbeats 4000000 in
theorem lc_27 {Γ : Lc} {i : Int} {h : Hp} (hX : XI Γ.1) (hcs : Γ.2.2.2.2.2.1 ≤ room_1.cells ∧ Γ.2.2.2.2.2.2 ≤ room_1.slots) (hm : Γ.2.2.1 < 2147483648) (hi : 0 ≤ i ∧ i + 6 ≤ Γ.2.2.1) (hS : SI h) (hR : KR h) (hC : KC h) (hT : TI h) (gA : TGA h) (gB : TGB h) (gC : TGC h) (nx : ∀ h' : Hp, SI h' → KR h' → KC h' → TI h' → TGA h' → TGB h' → TGC h' → zL Γ 1580 (lsL i) [] h') : zL Γ 1247 (lsL i) [] h := by
  refine zL_aload_n (pc' := 1248) dL_1247 rfl rfl ?_
  refine zL_aload_n (pc' := 1249) dL_1248 rfl rfl ?_
  refine zL_iload_n (pc' := 1250) dL_1249 rfl rfl ?_
  refine zL_iconst (pc' := 1251) dL_1250 rfl ?_
  refine zL_iadd (pc' := 1252) dL_1251 rfl ?_
  refine zL_sldE (pc' := 1253) (by omega) hm dL_1252 rfl (fun v1252 e1252 q1252 => ?_)
  refine zL_aload_n (pc' := 1254) dL_1253 rfl rfl ?_
  refine zL_iload_n (pc' := 1255) dL_1254 rfl rfl ?_
  refine zL_iconst (pc' := 1256) dL_1255 rfl ?_
  refine zL_iadd (pc' := 1257) dL_1256 rfl ?_
  refine zL_sldE (pc' := 1258) (by omega) hm dL_1257 rfl (fun v1257 e1257 q1257 => ?_)
  refine zL_aload_n (pc' := 1259) dL_1258 rfl rfl ?_
  refine zL_iload_n (pc' := 1260) dL_1259 rfl rfl ?_
  refine zL_iconst (pc' := 1261) dL_1260 rfl ?_
  refine zL_iadd (pc' := 1262) dL_1261 rfl ?_
  refine zL_sldE (pc' := 1263) (by omega) hm dL_1262 rfl (fun v1262 e1262 q1262 => ?_)
  refine zL_inv (pc' := 1266) hcs kX11_error vX11_error lk_L_129 ⟨Nat.le_of_ble_eq_true rfl, Nat.le_of_ble_eq_true rfl⟩ tb30 vq11 rfl [_, _, _] (s_X11_error (b := true) (κ := _) hC (Fr.rf hS) _ ⟨e1252.1, e1252.2⟩ _ ⟨e1257.1, e1257.2⟩ _ ⟨e1262.1, e1262.2⟩) dL_1263 rfl (Nat.le_of_ble_eq_true rfl) rfl ?_
  rintro r1263 h1263 ⟨f1263, p1263⟩; replace f1263 := (Fm.rf (L := []) hS hR hC).frq f1263; obtain ⟨g1263, hS, hR, hC⟩ := f1263
  have y1263_0_25 : h1263 0 25 = h 0 25 := g1263 0 25 rfl rfl
  have y1263_31_1 : h1263 31 1 = h 31 1 := g1263 31 1 rfl rfl
  have y1263_33_0 : h1263 33 0 = h 33 0 := g1263 33 0 rfl rfl
  have y1263_33_1 : h1263 33 1 = h 33 1 := g1263 33 1 rfl rfl
  have y1263_33_2 : h1263 33 2 = h 33 2 := g1263 33 2 rfl rfl
  have y1263_0_11 : h1263 0 11 = h 0 11 := g1263 0 11 rfl rfl
  have y1263_0_12 : h1263 0 12 = h 0 12 := g1263 0 12 rfl rfl
  have y1263_0_13 : h1263 0 13 = h 0 13 := g1263 0 13 rfl rfl
  have y1263_30_11 : h1263 30 11 = h 30 11 := g1263 30 11 rfl rfl
  have y1263_0_22 : h1263 0 22 = h 0 22 := g1263 0 22 rfl rfl
  have y1263_36_0 : h1263 36 0 = h 36 0 := g1263 36 0 rfl rfl
  have y1263_36_1 : h1263 36 1 = h 36 1 := g1263 36 1 rfl rfl
  have y1263_36_2 : h1263 36 2 = h 36 2 := g1263 36 2 rfl rfl
  have y1263_0_16 : h1263 0 16 = h 0 16 := g1263 0 16 rfl rfl
  have y1263_0_17 : h1263 0 17 = h 0 17 := g1263 0 17 rfl rfl
  have y1263_0_18 : h1263 0 18 = h 0 18 := g1263 0 18 rfl rfl
  have y1263_0_15 : h1263 0 15 = h 0 15 := g1263 0 15 rfl rfl
  have y1263_0_20 : h1263 0 20 = h 0 20 := g1263 0 20 rfl rfl
  have y1263_30_10 : h1263 30 10 = h 30 10 := g1263 30 10 rfl rfl
  have y1263_30_12 : h1263 30 12 = h 30 12 := g1263 30 12 rfl rfl
  have hT1 := hT; have gA1 := gA; have gB1 := gB; have gC1 := gC
  show zL _ _ _ (.inr (.inl r1263) :: []) _
  refine zL_pop2 (pc' := 1267) dL_1266 rfl ?_
  refine zL_aload_n (pc' := 1268) dL_1267 rfl rfl ?_
  refine zL_aload_n (pc' := 1269) dL_1268 rfl rfl ?_
  refine zL_iload_n (pc' := 1270) dL_1269 rfl rfl ?_
  refine zL_iconst (pc' := 1271) dL_1270 rfl ?_
  refine zL_iadd (pc' := 1272) dL_1271 rfl ?_
  refine zL_sldE (pc' := 1273) (by omega) hm dL_1272 rfl (fun v1272 e1272 q1272 => ?_)
  refine zL_aload_n (pc' := 1274) dL_1273 rfl rfl ?_
  refine zL_iload_n (pc' := 1275) dL_1274 rfl rfl ?_
  refine zL_iconst (pc' := 1276) dL_1275 rfl ?_
  refine zL_iadd (pc' := 1277) dL_1276 rfl ?_
  refine zL_sldE (pc' := 1278) (by omega) hm dL_1277 rfl (fun v1277 e1277 q1277 => ?_)
  refine zL_aload_n (pc' := 1279) dL_1278 rfl rfl ?_
  refine zL_iload_n (pc' := 1280) dL_1279 rfl rfl ?_
  refine zL_iconst (pc' := 1281) dL_1280 rfl ?_
  refine zL_iadd (pc' := 1282) dL_1281 rfl ?_
  refine zL_sldE (pc' := 1283) (by omega) hm dL_1282 rfl (fun v1282 e1282 q1282 => ?_)
  refine zL_inv (pc' := 1286) hcs kX12_error vX12_error lk_L_133 ⟨Nat.le_of_ble_eq_true rfl, Nat.le_of_ble_eq_true rfl⟩ tb0 vq12 rfl [_, _, _] (s_X12_error (κ := _) hR (Fr.rf hS) _ ⟨e1272.1, e1272.2⟩ _ ⟨e1277.1, e1277.2⟩ _ ⟨e1282.1, e1282.2⟩) dL_1283 rfl (Nat.le_of_ble_eq_true rfl) rfl ?_
  rintro r1283 h1283 ⟨f1283, p1283⟩; replace f1283 := (Fm.rf (L := []) hS hR hC).frq f1283; obtain ⟨g1283, hS, hR, hC⟩ := f1283
  have y1283_0_25 : h1283 0 25 = h1263 0 25 := g1283 0 25 rfl rfl
  have y1283_31_1 : h1283 31 1 = h1263 31 1 := g1283 31 1 rfl rfl
  have y1283_33_0 : h1283 33 0 = h1263 33 0 := g1283 33 0 rfl rfl
  have y1283_33_1 : h1283 33 1 = h1263 33 1 := g1283 33 1 rfl rfl
  have y1283_33_2 : h1283 33 2 = h1263 33 2 := g1283 33 2 rfl rfl
  have y1283_0_11 : h1283 0 11 = h1263 0 11 := g1283 0 11 rfl rfl
  have y1283_0_12 : h1283 0 12 = h1263 0 12 := g1283 0 12 rfl rfl
  have y1283_0_13 : h1283 0 13 = h1263 0 13 := g1283 0 13 rfl rfl
  have y1283_30_11 : h1283 30 11 = h1263 30 11 := g1283 30 11 rfl rfl
  have y1283_0_22 : h1283 0 22 = h1263 0 22 := g1283 0 22 rfl rfl
  have y1283_36_0 : h1283 36 0 = h1263 36 0 := g1283 36 0 rfl rfl
  have y1283_36_1 : h1283 36 1 = h1263 36 1 := g1283 36 1 rfl rfl
  have y1283_36_2 : h1283 36 2 = h1263 36 2 := g1283 36 2 rfl rfl
  have y1283_0_16 : h1283 0 16 = h1263 0 16 := g1283 0 16 rfl rfl
  have y1283_0_17 : h1283 0 17 = h1263 0 17 := g1283 0 17 rfl rfl
  have y1283_0_18 : h1283 0 18 = h1263 0 18 := g1283 0 18 rfl rfl
  have y1283_0_15 : h1283 0 15 = h1263 0 15 := g1283 0 15 rfl rfl
  have y1283_0_20 : h1283 0 20 = h1263 0 20 := g1283 0 20 rfl rfl
  have y1283_30_10 : h1283 30 10 = h1263 30 10 := g1283 30 10 rfl rfl
  have y1283_30_12 : h1283 30 12 = h1263 30 12 := g1283 30 12 rfl rfl
  replace hT : TI h1283 := TI_of hT1 (y1283_0_25.trans y1263_0_25) (y1283_31_1.trans y1263_31_1) (y1283_33_0.trans y1263_33_0) (y1283_33_1.trans y1263_33_1) (y1283_33_2.trans y1263_33_2) (y1283_0_11.trans y1263_0_11) (y1283_0_12.trans y1263_0_12) (y1283_0_13.trans y1263_0_13) (y1283_30_11.trans y1263_30_11) (y1283_0_22.trans y1263_0_22) (y1283_36_0.trans y1263_36_0) (y1283_36_1.trans y1263_36_1) (y1283_36_2.trans y1263_36_2) (y1283_0_16.trans y1263_0_16) (y1283_0_17.trans y1263_0_17) (y1283_0_18.trans y1263_0_18)
  replace gA : TGA h1283 := TGA_of gA1 (fun j => (g1283 1 j rfl rfl).trans (g1263 1 j rfl rfl)) (fun j => (g1283 34 j rfl rfl).trans (g1263 34 j rfl rfl)) (fun j => (g1283 10 j rfl rfl).trans (g1263 10 j rfl rfl)) (fun j => (g1283 35 j rfl rfl).trans (g1263 35 j rfl rfl)) (fun j => (g1283 6 j rfl rfl).trans (g1263 6 j rfl rfl)) (fun j => (g1283 37 j rfl rfl).trans (g1263 37 j rfl rfl)) (fun j => (g1283 11 j rfl rfl).trans (g1263 11 j rfl rfl)) (fun j => (g1283 38 j rfl rfl).trans (g1263 38 j rfl rfl)) ((y1283_0_11).trans (y1263_0_11)) ((y1283_0_12).trans (y1263_0_12)) ((y1283_0_16).trans (y1263_0_16)) ((y1283_0_17).trans (y1263_0_17)) ((y1283_0_22).trans (y1263_0_22))
  replace gB : TGB h1283 := TGB_of gB1 (fun j => (g1283 12 j rfl rfl).trans (g1263 12 j rfl rfl)) (fun j => (g1283 32 j rfl rfl).trans (g1263 32 j rfl rfl)) ((y1283_0_25).trans (y1263_0_25))
  replace gC : TGC h1283 := TGC_of gC1  ((y1283_0_15).trans (y1263_0_15)) ((y1283_30_12).trans (y1263_30_12)) ((y1283_0_11).trans (y1263_0_11)) ((y1283_0_12).trans (y1263_0_12)) ((y1283_0_20).trans (y1263_0_20)) ((y1283_30_10).trans (y1263_30_10)) ((y1283_0_16).trans (y1263_0_16)) ((y1283_0_17).trans (y1263_0_17)) ((y1283_0_22).trans (y1263_0_22))
  show zL _ _ _ (.inr (.inl r1283) :: []) _
  refine zL_pop2 (pc' := 1287) dL_1286 rfl ?_
  refine zL_goto (tgt := 1580) dL_1287 rfl ?_
  exact nx _ hS hR hC hT gA gB gC
set_option maxHeartbeats 4000000 in
theorem lc_28 {Γ : Lc} {i : Int} {h : Hp} (hX : XI Γ.1) (hcs : Γ.2.2.2.2.2.1 ≤ room_1.cells ∧ Γ.2.2.2.2.2.2 ≤ room_1.slots) (hm : Γ.2.2.1 < 2147483648) (hi : 0 ≤ i ∧ i + 6 ≤ Γ.2.2.1) (hS : SI h) (hR : KR h) (hC : KC h) (hT : TI h) (gA : TGA h) (gB : TGB h) (gC : TGC h) (nx : ∀ h' : Hp, SI h' → KR h' → KC h' → TI h' → TGA h' → TGB h' → TGC h' → zL Γ 1580 (lsL i) [] h') : zL Γ 1290 (lsL i) [] h := by
  refine zL_aload_n (pc' := 1291) dL_1290 rfl rfl ?_
  refine zL_aload_n (pc' := 1292) dL_1291 rfl rfl ?_
  refine zL_iload_n (pc' := 1293) dL_1292 rfl rfl ?_
  refine zL_iconst (pc' := 1294) dL_1293 rfl ?_
  refine zL_iadd (pc' := 1295) dL_1294 rfl ?_
  refine zL_sldE (pc' := 1296) (by omega) hm dL_1295 rfl (fun v1295 e1295 q1295 => ?_)
  refine zL_aload_n (pc' := 1297) dL_1296 rfl rfl ?_
  refine zL_iload_n (pc' := 1298) dL_1297 rfl rfl ?_
  refine zL_iconst (pc' := 1299) dL_1298 rfl ?_
  refine zL_iadd (pc' := 1300) dL_1299 rfl ?_
  refine zL_sldE (pc' := 1301) (by omega) hm dL_1300 rfl (fun v1300 e1300 q1300 => ?_)
  refine zL_inv (pc' := 1304) hcs kX11_falseOnes vX11_falseOnes lk_L_134 ⟨Nat.le_of_ble_eq_true rfl, Nat.le_of_ble_eq_true rfl⟩ tb30 vq11 rfl [_, _] (s_X11_falseOnes (b := true) (κ := _) hC (Fr.rf hS) _ ⟨e1295.1, e1295.2⟩ _ ⟨e1300.1, e1300.2⟩) dL_1301 rfl (Nat.le_of_ble_eq_true rfl) rfl ?_
  rintro r1301 h1301 ⟨f1301, p1301⟩; replace f1301 := (Fm.rf (L := []) hS hR hC).frq f1301; obtain ⟨g1301, hS, hR, hC⟩ := f1301
  have y1301_0_25 : h1301 0 25 = h 0 25 := g1301 0 25 rfl rfl
  have y1301_31_1 : h1301 31 1 = h 31 1 := g1301 31 1 rfl rfl
  have y1301_33_0 : h1301 33 0 = h 33 0 := g1301 33 0 rfl rfl
  have y1301_33_1 : h1301 33 1 = h 33 1 := g1301 33 1 rfl rfl
  have y1301_33_2 : h1301 33 2 = h 33 2 := g1301 33 2 rfl rfl
  have y1301_0_11 : h1301 0 11 = h 0 11 := g1301 0 11 rfl rfl
  have y1301_0_12 : h1301 0 12 = h 0 12 := g1301 0 12 rfl rfl
  have y1301_0_13 : h1301 0 13 = h 0 13 := g1301 0 13 rfl rfl
  have y1301_30_11 : h1301 30 11 = h 30 11 := g1301 30 11 rfl rfl
  have y1301_0_22 : h1301 0 22 = h 0 22 := g1301 0 22 rfl rfl
  have y1301_36_0 : h1301 36 0 = h 36 0 := g1301 36 0 rfl rfl
  have y1301_36_1 : h1301 36 1 = h 36 1 := g1301 36 1 rfl rfl
  have y1301_36_2 : h1301 36 2 = h 36 2 := g1301 36 2 rfl rfl
  have y1301_0_16 : h1301 0 16 = h 0 16 := g1301 0 16 rfl rfl
  have y1301_0_17 : h1301 0 17 = h 0 17 := g1301 0 17 rfl rfl
  have y1301_0_18 : h1301 0 18 = h 0 18 := g1301 0 18 rfl rfl
  have y1301_0_15 : h1301 0 15 = h 0 15 := g1301 0 15 rfl rfl
  have y1301_0_20 : h1301 0 20 = h 0 20 := g1301 0 20 rfl rfl
  have y1301_30_10 : h1301 30 10 = h 30 10 := g1301 30 10 rfl rfl
  have y1301_30_12 : h1301 30 12 = h 30 12 := g1301 30 12 rfl rfl
  have hT1 := hT; have gA1 := gA; have gB1 := gB; have gC1 := gC
  show zL _ _ _ (.inl r1301 :: []) _
  refine zL_pop (pc' := 1305) dL_1304 rfl rfl ?_
  refine zL_aload_n (pc' := 1306) dL_1305 rfl rfl ?_
  refine zL_aload_n (pc' := 1307) dL_1306 rfl rfl ?_
  refine zL_iload_n (pc' := 1308) dL_1307 rfl rfl ?_
  refine zL_iconst (pc' := 1309) dL_1308 rfl ?_
  refine zL_iadd (pc' := 1310) dL_1309 rfl ?_
  refine zL_sldE (pc' := 1311) (by omega) hm dL_1310 rfl (fun v1310 e1310 q1310 => ?_)
  refine zL_aload_n (pc' := 1312) dL_1311 rfl rfl ?_
  refine zL_iload_n (pc' := 1313) dL_1312 rfl rfl ?_
  refine zL_iconst (pc' := 1314) dL_1313 rfl ?_
  refine zL_iadd (pc' := 1315) dL_1314 rfl ?_
  refine zL_sldE (pc' := 1316) (by omega) hm dL_1315 rfl (fun v1315 e1315 q1315 => ?_)
  refine zL_inv (pc' := 1319) hcs kX12_falseOnes vX12_falseOnes lk_L_137 ⟨Nat.le_of_ble_eq_true rfl, Nat.le_of_ble_eq_true rfl⟩ tb0 vq12 rfl [_, _] (s_X12_falseOnes (κ := _) hR (Fr.rf hS) _ ⟨e1310.1, e1310.2⟩ _ ⟨e1315.1, e1315.2⟩) dL_1316 rfl (Nat.le_of_ble_eq_true rfl) rfl ?_
  rintro r1316 h1316 ⟨f1316, p1316⟩; replace f1316 := (Fm.rf (L := []) hS hR hC).frq f1316; obtain ⟨g1316, hS, hR, hC⟩ := f1316
  have y1316_0_25 : h1316 0 25 = h1301 0 25 := g1316 0 25 rfl rfl
  have y1316_31_1 : h1316 31 1 = h1301 31 1 := g1316 31 1 rfl rfl
  have y1316_33_0 : h1316 33 0 = h1301 33 0 := g1316 33 0 rfl rfl
  have y1316_33_1 : h1316 33 1 = h1301 33 1 := g1316 33 1 rfl rfl
  have y1316_33_2 : h1316 33 2 = h1301 33 2 := g1316 33 2 rfl rfl
  have y1316_0_11 : h1316 0 11 = h1301 0 11 := g1316 0 11 rfl rfl
  have y1316_0_12 : h1316 0 12 = h1301 0 12 := g1316 0 12 rfl rfl
  have y1316_0_13 : h1316 0 13 = h1301 0 13 := g1316 0 13 rfl rfl
  have y1316_30_11 : h1316 30 11 = h1301 30 11 := g1316 30 11 rfl rfl
  have y1316_0_22 : h1316 0 22 = h1301 0 22 := g1316 0 22 rfl rfl
  have y1316_36_0 : h1316 36 0 = h1301 36 0 := g1316 36 0 rfl rfl
  have y1316_36_1 : h1316 36 1 = h1301 36 1 := g1316 36 1 rfl rfl
  have y1316_36_2 : h1316 36 2 = h1301 36 2 := g1316 36 2 rfl rfl
  have y1316_0_16 : h1316 0 16 = h1301 0 16 := g1316 0 16 rfl rfl
  have y1316_0_17 : h1316 0 17 = h1301 0 17 := g1316 0 17 rfl rfl
  have y1316_0_18 : h1316 0 18 = h1301 0 18 := g1316 0 18 rfl rfl
  have y1316_0_15 : h1316 0 15 = h1301 0 15 := g1316 0 15 rfl rfl
  have y1316_0_20 : h1316 0 20 = h1301 0 20 := g1316 0 20 rfl rfl
  have y1316_30_10 : h1316 30 10 = h1301 30 10 := g1316 30 10 rfl rfl
  have y1316_30_12 : h1316 30 12 = h1301 30 12 := g1316 30 12 rfl rfl
  replace hT : TI h1316 := TI_of hT1 (y1316_0_25.trans y1301_0_25) (y1316_31_1.trans y1301_31_1) (y1316_33_0.trans y1301_33_0) (y1316_33_1.trans y1301_33_1) (y1316_33_2.trans y1301_33_2) (y1316_0_11.trans y1301_0_11) (y1316_0_12.trans y1301_0_12) (y1316_0_13.trans y1301_0_13) (y1316_30_11.trans y1301_30_11) (y1316_0_22.trans y1301_0_22) (y1316_36_0.trans y1301_36_0) (y1316_36_1.trans y1301_36_1) (y1316_36_2.trans y1301_36_2) (y1316_0_16.trans y1301_0_16) (y1316_0_17.trans y1301_0_17) (y1316_0_18.trans y1301_0_18)
  replace gA : TGA h1316 := TGA_of gA1 (fun j => (g1316 1 j rfl rfl).trans (g1301 1 j rfl rfl)) (fun j => (g1316 34 j rfl rfl).trans (g1301 34 j rfl rfl)) (fun j => (g1316 10 j rfl rfl).trans (g1301 10 j rfl rfl)) (fun j => (g1316 35 j rfl rfl).trans (g1301 35 j rfl rfl)) (fun j => (g1316 6 j rfl rfl).trans (g1301 6 j rfl rfl)) (fun j => (g1316 37 j rfl rfl).trans (g1301 37 j rfl rfl)) (fun j => (g1316 11 j rfl rfl).trans (g1301 11 j rfl rfl)) (fun j => (g1316 38 j rfl rfl).trans (g1301 38 j rfl rfl)) ((y1316_0_11).trans (y1301_0_11)) ((y1316_0_12).trans (y1301_0_12)) ((y1316_0_16).trans (y1301_0_16)) ((y1316_0_17).trans (y1301_0_17)) ((y1316_0_22).trans (y1301_0_22))
  replace gB : TGB h1316 := TGB_of gB1 (fun j => (g1316 12 j rfl rfl).trans (g1301 12 j rfl rfl)) (fun j => (g1316 32 j rfl rfl).trans (g1301 32 j rfl rfl)) ((y1316_0_25).trans (y1301_0_25))
  replace gC : TGC h1316 := TGC_of gC1  ((y1316_0_15).trans (y1301_0_15)) ((y1316_30_12).trans (y1301_30_12)) ((y1316_0_11).trans (y1301_0_11)) ((y1316_0_12).trans (y1301_0_12)) ((y1316_0_20).trans (y1301_0_20)) ((y1316_30_10).trans (y1301_30_10)) ((y1316_0_16).trans (y1301_0_16)) ((y1316_0_17).trans (y1301_0_17)) ((y1316_0_22).trans (y1301_0_22))
  show zL _ _ _ (.inl r1316 :: []) _
  refine zL_pop (pc' := 1320) dL_1319 rfl rfl ?_
  refine zL_goto (tgt := 1580) dL_1320 rfl ?_
  exact nx _ hS hR hC hT gA gB gC
set_option maxHeartbeats 4000000 in
theorem lc_29 {Γ : Lc} {i : Int} {h : Hp} (hX : XI Γ.1) (hcs : Γ.2.2.2.2.2.1 ≤ room_1.cells ∧ Γ.2.2.2.2.2.2 ≤ room_1.slots) (hm : Γ.2.2.1 < 2147483648) (hi : 0 ≤ i ∧ i + 6 ≤ Γ.2.2.1) (hS : SI h) (hR : KR h) (hC : KC h) (hT : TI h) (gA : TGA h) (gB : TGB h) (gC : TGC h) (nx : ∀ h' : Hp, SI h' → KR h' → KC h' → TI h' → TGA h' → TGB h' → TGC h' → zL Γ 1580 (lsL i) [] h') : zL Γ 1323 (lsL i) [] h := by
  refine zL_aload_n (pc' := 1324) dL_1323 rfl rfl ?_
  refine zL_aload_n (pc' := 1325) dL_1324 rfl rfl ?_
  refine zL_iload_n (pc' := 1326) dL_1325 rfl rfl ?_
  refine zL_iconst (pc' := 1327) dL_1326 rfl ?_
  refine zL_iadd (pc' := 1328) dL_1327 rfl ?_
  refine zL_sldE (pc' := 1329) (by omega) hm dL_1328 rfl (fun v1328 e1328 q1328 => ?_)
  refine zL_aload_n (pc' := 1330) dL_1329 rfl rfl ?_
  refine zL_iload_n (pc' := 1331) dL_1330 rfl rfl ?_
  refine zL_iconst (pc' := 1332) dL_1331 rfl ?_
  refine zL_iadd (pc' := 1333) dL_1332 rfl ?_
  refine zL_sldE (pc' := 1334) (by omega) hm dL_1333 rfl (fun v1333 e1333 q1333 => ?_)
  refine zL_aload_n (pc' := 1335) dL_1334 rfl rfl ?_
  refine zL_iload_n (pc' := 1336) dL_1335 rfl rfl ?_
  refine zL_iconst (pc' := 1337) dL_1336 rfl ?_
  refine zL_iadd (pc' := 1338) dL_1337 rfl ?_
  refine zL_sldE (pc' := 1339) (by omega) hm dL_1338 rfl (fun v1338 e1338 q1338 => ?_)
  refine zL_aload_n (pc' := 1340) dL_1339 rfl rfl ?_
  refine zL_iload_n (pc' := 1341) dL_1340 rfl rfl ?_
  refine zL_iconst (pc' := 1342) dL_1341 rfl ?_
  refine zL_iadd (pc' := 1343) dL_1342 rfl ?_
  refine zL_sldE (pc' := 1344) (by omega) hm dL_1343 rfl (fun v1343 e1343 q1343 => ?_)
  refine zL_inv (pc' := 1347) hcs kX11_places vX11_places lk_L_138 ⟨Nat.le_of_ble_eq_true rfl, Nat.le_of_ble_eq_true rfl⟩ tb30 vq11 rfl [_, _, _, _] (s_X11_places (b := true) (κ := _) hC (Fr.rf hS) _ ⟨e1328.1, e1328.2⟩ _ ⟨e1333.1, e1333.2⟩ _ ⟨e1338.1, e1338.2⟩ _ ⟨e1343.1, e1343.2⟩) dL_1344 rfl (Nat.le_of_ble_eq_true rfl) rfl ?_
  rintro r1344 h1344 ⟨f1344, p1344⟩; replace f1344 := (Fm.rf (L := []) hS hR hC).frq f1344; obtain ⟨g1344, hS, hR, hC⟩ := f1344
  have y1344_0_25 : h1344 0 25 = h 0 25 := g1344 0 25 rfl rfl
  have y1344_31_1 : h1344 31 1 = h 31 1 := g1344 31 1 rfl rfl
  have y1344_33_0 : h1344 33 0 = h 33 0 := g1344 33 0 rfl rfl
  have y1344_33_1 : h1344 33 1 = h 33 1 := g1344 33 1 rfl rfl
  have y1344_33_2 : h1344 33 2 = h 33 2 := g1344 33 2 rfl rfl
  have y1344_0_11 : h1344 0 11 = h 0 11 := g1344 0 11 rfl rfl
  have y1344_0_12 : h1344 0 12 = h 0 12 := g1344 0 12 rfl rfl
  have y1344_0_13 : h1344 0 13 = h 0 13 := g1344 0 13 rfl rfl
  have y1344_30_11 : h1344 30 11 = h 30 11 := g1344 30 11 rfl rfl
  have y1344_0_22 : h1344 0 22 = h 0 22 := g1344 0 22 rfl rfl
  have y1344_36_0 : h1344 36 0 = h 36 0 := g1344 36 0 rfl rfl
  have y1344_36_1 : h1344 36 1 = h 36 1 := g1344 36 1 rfl rfl
  have y1344_36_2 : h1344 36 2 = h 36 2 := g1344 36 2 rfl rfl
  have y1344_0_16 : h1344 0 16 = h 0 16 := g1344 0 16 rfl rfl
  have y1344_0_17 : h1344 0 17 = h 0 17 := g1344 0 17 rfl rfl
  have y1344_0_18 : h1344 0 18 = h 0 18 := g1344 0 18 rfl rfl
  have y1344_0_15 : h1344 0 15 = h 0 15 := g1344 0 15 rfl rfl
  have y1344_0_20 : h1344 0 20 = h 0 20 := g1344 0 20 rfl rfl
  have y1344_30_10 : h1344 30 10 = h 30 10 := g1344 30 10 rfl rfl
  have y1344_30_12 : h1344 30 12 = h 30 12 := g1344 30 12 rfl rfl
  have hT1 := hT; have gA1 := gA; have gB1 := gB; have gC1 := gC
  show zL _ _ _ (.inl r1344 :: []) _
  refine zL_pop (pc' := 1348) dL_1347 rfl rfl ?_
  refine zL_aload_n (pc' := 1349) dL_1348 rfl rfl ?_
  refine zL_aload_n (pc' := 1350) dL_1349 rfl rfl ?_
  refine zL_iload_n (pc' := 1351) dL_1350 rfl rfl ?_
  refine zL_iconst (pc' := 1352) dL_1351 rfl ?_
  refine zL_iadd (pc' := 1353) dL_1352 rfl ?_
  refine zL_sldE (pc' := 1354) (by omega) hm dL_1353 rfl (fun v1353 e1353 q1353 => ?_)
  refine zL_aload_n (pc' := 1355) dL_1354 rfl rfl ?_
  refine zL_iload_n (pc' := 1356) dL_1355 rfl rfl ?_
  refine zL_iconst (pc' := 1357) dL_1356 rfl ?_
  refine zL_iadd (pc' := 1358) dL_1357 rfl ?_
  refine zL_sldE (pc' := 1359) (by omega) hm dL_1358 rfl (fun v1358 e1358 q1358 => ?_)
  refine zL_aload_n (pc' := 1360) dL_1359 rfl rfl ?_
  refine zL_iload_n (pc' := 1361) dL_1360 rfl rfl ?_
  refine zL_iconst (pc' := 1362) dL_1361 rfl ?_
  refine zL_iadd (pc' := 1363) dL_1362 rfl ?_
  refine zL_sldE (pc' := 1364) (by omega) hm dL_1363 rfl (fun v1363 e1363 q1363 => ?_)
  refine zL_aload_n (pc' := 1365) dL_1364 rfl rfl ?_
  refine zL_iload_n (pc' := 1366) dL_1365 rfl rfl ?_
  refine zL_iconst (pc' := 1367) dL_1366 rfl ?_
  refine zL_iadd (pc' := 1368) dL_1367 rfl ?_
  refine zL_sldE (pc' := 1369) (by omega) hm dL_1368 rfl (fun v1368 e1368 q1368 => ?_)
  refine zL_inv (pc' := 1372) hcs kX12_places vX12_places lk_L_141 ⟨Nat.le_of_ble_eq_true rfl, Nat.le_of_ble_eq_true rfl⟩ tb0 vq12 rfl [_, _, _, _] (s_X12_places (κ := _) hR (Fr.rf hS) _ ⟨e1353.1, e1353.2⟩ _ ⟨e1358.1, e1358.2⟩ _ ⟨e1363.1, e1363.2⟩ _ ⟨e1368.1, e1368.2⟩) dL_1369 rfl (Nat.le_of_ble_eq_true rfl) rfl ?_
  rintro r1369 h1369 ⟨f1369, p1369⟩; replace f1369 := (Fm.rf (L := []) hS hR hC).frq f1369; obtain ⟨g1369, hS, hR, hC⟩ := f1369
  have y1369_0_25 : h1369 0 25 = h1344 0 25 := g1369 0 25 rfl rfl
  have y1369_31_1 : h1369 31 1 = h1344 31 1 := g1369 31 1 rfl rfl
  have y1369_33_0 : h1369 33 0 = h1344 33 0 := g1369 33 0 rfl rfl
  have y1369_33_1 : h1369 33 1 = h1344 33 1 := g1369 33 1 rfl rfl
  have y1369_33_2 : h1369 33 2 = h1344 33 2 := g1369 33 2 rfl rfl
  have y1369_0_11 : h1369 0 11 = h1344 0 11 := g1369 0 11 rfl rfl
  have y1369_0_12 : h1369 0 12 = h1344 0 12 := g1369 0 12 rfl rfl
  have y1369_0_13 : h1369 0 13 = h1344 0 13 := g1369 0 13 rfl rfl
  have y1369_30_11 : h1369 30 11 = h1344 30 11 := g1369 30 11 rfl rfl
  have y1369_0_22 : h1369 0 22 = h1344 0 22 := g1369 0 22 rfl rfl
  have y1369_36_0 : h1369 36 0 = h1344 36 0 := g1369 36 0 rfl rfl
  have y1369_36_1 : h1369 36 1 = h1344 36 1 := g1369 36 1 rfl rfl
  have y1369_36_2 : h1369 36 2 = h1344 36 2 := g1369 36 2 rfl rfl
  have y1369_0_16 : h1369 0 16 = h1344 0 16 := g1369 0 16 rfl rfl
  have y1369_0_17 : h1369 0 17 = h1344 0 17 := g1369 0 17 rfl rfl
  have y1369_0_18 : h1369 0 18 = h1344 0 18 := g1369 0 18 rfl rfl
  have y1369_0_15 : h1369 0 15 = h1344 0 15 := g1369 0 15 rfl rfl
  have y1369_0_20 : h1369 0 20 = h1344 0 20 := g1369 0 20 rfl rfl
  have y1369_30_10 : h1369 30 10 = h1344 30 10 := g1369 30 10 rfl rfl
  have y1369_30_12 : h1369 30 12 = h1344 30 12 := g1369 30 12 rfl rfl
  replace hT : TI h1369 := TI_of hT1 (y1369_0_25.trans y1344_0_25) (y1369_31_1.trans y1344_31_1) (y1369_33_0.trans y1344_33_0) (y1369_33_1.trans y1344_33_1) (y1369_33_2.trans y1344_33_2) (y1369_0_11.trans y1344_0_11) (y1369_0_12.trans y1344_0_12) (y1369_0_13.trans y1344_0_13) (y1369_30_11.trans y1344_30_11) (y1369_0_22.trans y1344_0_22) (y1369_36_0.trans y1344_36_0) (y1369_36_1.trans y1344_36_1) (y1369_36_2.trans y1344_36_2) (y1369_0_16.trans y1344_0_16) (y1369_0_17.trans y1344_0_17) (y1369_0_18.trans y1344_0_18)
  replace gA : TGA h1369 := TGA_of gA1 (fun j => (g1369 1 j rfl rfl).trans (g1344 1 j rfl rfl)) (fun j => (g1369 34 j rfl rfl).trans (g1344 34 j rfl rfl)) (fun j => (g1369 10 j rfl rfl).trans (g1344 10 j rfl rfl)) (fun j => (g1369 35 j rfl rfl).trans (g1344 35 j rfl rfl)) (fun j => (g1369 6 j rfl rfl).trans (g1344 6 j rfl rfl)) (fun j => (g1369 37 j rfl rfl).trans (g1344 37 j rfl rfl)) (fun j => (g1369 11 j rfl rfl).trans (g1344 11 j rfl rfl)) (fun j => (g1369 38 j rfl rfl).trans (g1344 38 j rfl rfl)) ((y1369_0_11).trans (y1344_0_11)) ((y1369_0_12).trans (y1344_0_12)) ((y1369_0_16).trans (y1344_0_16)) ((y1369_0_17).trans (y1344_0_17)) ((y1369_0_22).trans (y1344_0_22))
  replace gB : TGB h1369 := TGB_of gB1 (fun j => (g1369 12 j rfl rfl).trans (g1344 12 j rfl rfl)) (fun j => (g1369 32 j rfl rfl).trans (g1344 32 j rfl rfl)) ((y1369_0_25).trans (y1344_0_25))
  replace gC : TGC h1369 := TGC_of gC1  ((y1369_0_15).trans (y1344_0_15)) ((y1369_30_12).trans (y1344_30_12)) ((y1369_0_11).trans (y1344_0_11)) ((y1369_0_12).trans (y1344_0_12)) ((y1369_0_20).trans (y1344_0_20)) ((y1369_30_10).trans (y1344_30_10)) ((y1369_0_16).trans (y1344_0_16)) ((y1369_0_17).trans (y1344_0_17)) ((y1369_0_22).trans (y1344_0_22))
  show zL _ _ _ (.inl r1369 :: []) _
  refine zL_pop (pc' := 1373) dL_1372 rfl rfl ?_
  refine zL_goto (tgt := 1580) dL_1373 rfl ?_
  exact nx _ hS hR hC hT gA gB gC
