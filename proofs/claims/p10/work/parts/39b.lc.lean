/-! the law's cases, further -/
set_option maxHeartbeats 4000000 in
theorem lc_30 {Γ : Lc} {i : Int} {h : Hp} (hX : XI Γ.1) (hcs : Γ.2.2.2.2.2.1 ≤ room_1.cells ∧ Γ.2.2.2.2.2.2 ≤ room_1.slots) (hm : Γ.2.2.1 < 2147483648) (hi : 0 ≤ i ∧ i + 6 ≤ Γ.2.2.1) (hS : SI h) (hR : KR h) (hC : KC h) (hT : TI h) (gA : TGA h) (gB : TGB h) (gC : TGC h) (nx : ∀ h' : Hp, SI h' → KR h' → KC h' → TI h' → TGA h' → TGB h' → TGC h' → zL Γ 1580 (lsL i) [] h') : zL Γ 1376 (lsL i) [] h := by
  refine zL_aload_n (pc' := 1377) dL_1376 rfl rfl ?_
  refine zL_aload_n (pc' := 1378) dL_1377 rfl rfl ?_
  refine zL_iload_n (pc' := 1379) dL_1378 rfl rfl ?_
  refine zL_iconst (pc' := 1380) dL_1379 rfl ?_
  refine zL_iadd (pc' := 1381) dL_1380 rfl ?_
  refine zL_sldE (pc' := 1382) (by omega) hm dL_1381 rfl (fun v1381 e1381 q1381 => ?_)
  refine zL_aload_n (pc' := 1383) dL_1382 rfl rfl ?_
  refine zL_iload_n (pc' := 1384) dL_1383 rfl rfl ?_
  refine zL_iconst (pc' := 1385) dL_1384 rfl ?_
  refine zL_iadd (pc' := 1386) dL_1385 rfl ?_
  refine zL_sldE (pc' := 1387) (by omega) hm dL_1386 rfl (fun v1386 e1386 q1386 => ?_)
  refine zL_aload_n (pc' := 1388) dL_1387 rfl rfl ?_
  refine zL_iload_n (pc' := 1389) dL_1388 rfl rfl ?_
  refine zL_iconst (pc' := 1390) dL_1389 rfl ?_
  refine zL_iadd (pc' := 1391) dL_1390 rfl ?_
  refine zL_sldE (pc' := 1392) (by omega) hm dL_1391 rfl (fun v1391 e1391 q1391 => ?_)
  refine zL_inv (pc' := 1395) hcs kX11_unlike vX11_unlike lk_L_142 ⟨Nat.le_of_ble_eq_true rfl, Nat.le_of_ble_eq_true rfl⟩ tb30 vq11 rfl [_, _, _] (s_X11_unlike (b := true) (κ := _) hC (Fr.rf hS) _ ⟨e1381.1, e1381.2⟩ _ ⟨e1386.1, e1386.2⟩ _ ⟨e1391.1, e1391.2⟩) dL_1392 rfl (Nat.le_of_ble_eq_true rfl) rfl ?_
  rintro r1392 h1392 ⟨f1392, p1392⟩; replace f1392 := (Fm.rf (L := []) hS hR hC).frq f1392; obtain ⟨g1392, hS, hR, hC⟩ := f1392
  have y1392_0_25 : h1392 0 25 = h 0 25 := g1392 0 25 rfl rfl
  have y1392_31_1 : h1392 31 1 = h 31 1 := g1392 31 1 rfl rfl
  have y1392_33_0 : h1392 33 0 = h 33 0 := g1392 33 0 rfl rfl
  have y1392_33_1 : h1392 33 1 = h 33 1 := g1392 33 1 rfl rfl
  have y1392_33_2 : h1392 33 2 = h 33 2 := g1392 33 2 rfl rfl
  have y1392_0_11 : h1392 0 11 = h 0 11 := g1392 0 11 rfl rfl
  have y1392_0_12 : h1392 0 12 = h 0 12 := g1392 0 12 rfl rfl
  have y1392_0_13 : h1392 0 13 = h 0 13 := g1392 0 13 rfl rfl
  have y1392_30_11 : h1392 30 11 = h 30 11 := g1392 30 11 rfl rfl
  have y1392_0_22 : h1392 0 22 = h 0 22 := g1392 0 22 rfl rfl
  have y1392_36_0 : h1392 36 0 = h 36 0 := g1392 36 0 rfl rfl
  have y1392_36_1 : h1392 36 1 = h 36 1 := g1392 36 1 rfl rfl
  have y1392_36_2 : h1392 36 2 = h 36 2 := g1392 36 2 rfl rfl
  have y1392_0_16 : h1392 0 16 = h 0 16 := g1392 0 16 rfl rfl
  have y1392_0_17 : h1392 0 17 = h 0 17 := g1392 0 17 rfl rfl
  have y1392_0_18 : h1392 0 18 = h 0 18 := g1392 0 18 rfl rfl
  have y1392_0_15 : h1392 0 15 = h 0 15 := g1392 0 15 rfl rfl
  have y1392_0_20 : h1392 0 20 = h 0 20 := g1392 0 20 rfl rfl
  have y1392_30_10 : h1392 30 10 = h 30 10 := g1392 30 10 rfl rfl
  have y1392_30_12 : h1392 30 12 = h 30 12 := g1392 30 12 rfl rfl
  have hT1 := hT; have gA1 := gA; have gB1 := gB; have gC1 := gC
  show zL _ _ _ (.inl r1392 :: []) _
  refine zL_pop (pc' := 1396) dL_1395 rfl rfl ?_
  refine zL_aload_n (pc' := 1397) dL_1396 rfl rfl ?_
  refine zL_aload_n (pc' := 1398) dL_1397 rfl rfl ?_
  refine zL_iload_n (pc' := 1399) dL_1398 rfl rfl ?_
  refine zL_iconst (pc' := 1400) dL_1399 rfl ?_
  refine zL_iadd (pc' := 1401) dL_1400 rfl ?_
  refine zL_sldE (pc' := 1402) (by omega) hm dL_1401 rfl (fun v1401 e1401 q1401 => ?_)
  refine zL_aload_n (pc' := 1403) dL_1402 rfl rfl ?_
  refine zL_iload_n (pc' := 1404) dL_1403 rfl rfl ?_
  refine zL_iconst (pc' := 1405) dL_1404 rfl ?_
  refine zL_iadd (pc' := 1406) dL_1405 rfl ?_
  refine zL_sldE (pc' := 1407) (by omega) hm dL_1406 rfl (fun v1406 e1406 q1406 => ?_)
  refine zL_aload_n (pc' := 1408) dL_1407 rfl rfl ?_
  refine zL_iload_n (pc' := 1409) dL_1408 rfl rfl ?_
  refine zL_iconst (pc' := 1410) dL_1409 rfl ?_
  refine zL_iadd (pc' := 1411) dL_1410 rfl ?_
  refine zL_sldE (pc' := 1412) (by omega) hm dL_1411 rfl (fun v1411 e1411 q1411 => ?_)
  refine zL_inv (pc' := 1415) hcs kX12_unlike vX12_unlike lk_L_145 ⟨Nat.le_of_ble_eq_true rfl, Nat.le_of_ble_eq_true rfl⟩ tb0 vq12 rfl [_, _, _] (s_X12_unlike (κ := _) hR (Fr.rf hS) _ ⟨e1401.1, e1401.2⟩ _ ⟨e1406.1, e1406.2⟩ _ ⟨e1411.1, e1411.2⟩) dL_1412 rfl (Nat.le_of_ble_eq_true rfl) rfl ?_
  rintro r1412 h1412 ⟨f1412, p1412⟩; replace f1412 := (Fm.rf (L := []) hS hR hC).frq f1412; obtain ⟨g1412, hS, hR, hC⟩ := f1412
  have y1412_0_25 : h1412 0 25 = h1392 0 25 := g1412 0 25 rfl rfl
  have y1412_31_1 : h1412 31 1 = h1392 31 1 := g1412 31 1 rfl rfl
  have y1412_33_0 : h1412 33 0 = h1392 33 0 := g1412 33 0 rfl rfl
  have y1412_33_1 : h1412 33 1 = h1392 33 1 := g1412 33 1 rfl rfl
  have y1412_33_2 : h1412 33 2 = h1392 33 2 := g1412 33 2 rfl rfl
  have y1412_0_11 : h1412 0 11 = h1392 0 11 := g1412 0 11 rfl rfl
  have y1412_0_12 : h1412 0 12 = h1392 0 12 := g1412 0 12 rfl rfl
  have y1412_0_13 : h1412 0 13 = h1392 0 13 := g1412 0 13 rfl rfl
  have y1412_30_11 : h1412 30 11 = h1392 30 11 := g1412 30 11 rfl rfl
  have y1412_0_22 : h1412 0 22 = h1392 0 22 := g1412 0 22 rfl rfl
  have y1412_36_0 : h1412 36 0 = h1392 36 0 := g1412 36 0 rfl rfl
  have y1412_36_1 : h1412 36 1 = h1392 36 1 := g1412 36 1 rfl rfl
  have y1412_36_2 : h1412 36 2 = h1392 36 2 := g1412 36 2 rfl rfl
  have y1412_0_16 : h1412 0 16 = h1392 0 16 := g1412 0 16 rfl rfl
  have y1412_0_17 : h1412 0 17 = h1392 0 17 := g1412 0 17 rfl rfl
  have y1412_0_18 : h1412 0 18 = h1392 0 18 := g1412 0 18 rfl rfl
  have y1412_0_15 : h1412 0 15 = h1392 0 15 := g1412 0 15 rfl rfl
  have y1412_0_20 : h1412 0 20 = h1392 0 20 := g1412 0 20 rfl rfl
  have y1412_30_10 : h1412 30 10 = h1392 30 10 := g1412 30 10 rfl rfl
  have y1412_30_12 : h1412 30 12 = h1392 30 12 := g1412 30 12 rfl rfl
  replace hT : TI h1412 := TI_of hT1 (y1412_0_25.trans y1392_0_25) (y1412_31_1.trans y1392_31_1) (y1412_33_0.trans y1392_33_0) (y1412_33_1.trans y1392_33_1) (y1412_33_2.trans y1392_33_2) (y1412_0_11.trans y1392_0_11) (y1412_0_12.trans y1392_0_12) (y1412_0_13.trans y1392_0_13) (y1412_30_11.trans y1392_30_11) (y1412_0_22.trans y1392_0_22) (y1412_36_0.trans y1392_36_0) (y1412_36_1.trans y1392_36_1) (y1412_36_2.trans y1392_36_2) (y1412_0_16.trans y1392_0_16) (y1412_0_17.trans y1392_0_17) (y1412_0_18.trans y1392_0_18)
  replace gA : TGA h1412 := TGA_of gA1 (fun j => (g1412 1 j rfl rfl).trans (g1392 1 j rfl rfl)) (fun j => (g1412 34 j rfl rfl).trans (g1392 34 j rfl rfl)) (fun j => (g1412 10 j rfl rfl).trans (g1392 10 j rfl rfl)) (fun j => (g1412 35 j rfl rfl).trans (g1392 35 j rfl rfl)) (fun j => (g1412 6 j rfl rfl).trans (g1392 6 j rfl rfl)) (fun j => (g1412 37 j rfl rfl).trans (g1392 37 j rfl rfl)) (fun j => (g1412 11 j rfl rfl).trans (g1392 11 j rfl rfl)) (fun j => (g1412 38 j rfl rfl).trans (g1392 38 j rfl rfl)) ((y1412_0_11).trans (y1392_0_11)) ((y1412_0_12).trans (y1392_0_12)) ((y1412_0_16).trans (y1392_0_16)) ((y1412_0_17).trans (y1392_0_17)) ((y1412_0_22).trans (y1392_0_22))
  replace gB : TGB h1412 := TGB_of gB1 (fun j => (g1412 12 j rfl rfl).trans (g1392 12 j rfl rfl)) (fun j => (g1412 32 j rfl rfl).trans (g1392 32 j rfl rfl)) ((y1412_0_25).trans (y1392_0_25))
  replace gC : TGC h1412 := TGC_of gC1  ((y1412_0_15).trans (y1392_0_15)) ((y1412_30_12).trans (y1392_30_12)) ((y1412_0_11).trans (y1392_0_11)) ((y1412_0_12).trans (y1392_0_12)) ((y1412_0_20).trans (y1392_0_20)) ((y1412_30_10).trans (y1392_30_10)) ((y1412_0_16).trans (y1392_0_16)) ((y1412_0_17).trans (y1392_0_17)) ((y1412_0_22).trans (y1392_0_22))
  show zL _ _ _ (.inl r1412 :: []) _
  refine zL_pop (pc' := 1416) dL_1415 rfl rfl ?_
  refine zL_goto (tgt := 1580) dL_1416 rfl ?_
  exact nx _ hS hR hC hT gA gB gC
set_option maxHeartbeats 4000000 in
theorem lc_31 {Γ : Lc} {i : Int} {h : Hp} (hX : XI Γ.1) (hcs : Γ.2.2.2.2.2.1 ≤ room_1.cells ∧ Γ.2.2.2.2.2.2 ≤ room_1.slots) (hm : Γ.2.2.1 < 2147483648) (hi : 0 ≤ i ∧ i + 6 ≤ Γ.2.2.1) (hS : SI h) (hR : KR h) (hC : KC h) (hT : TI h) (gA : TGA h) (gB : TGB h) (gC : TGC h) (nx : ∀ h' : Hp, SI h' → KR h' → KC h' → TI h' → TGA h' → TGB h' → TGC h' → zL Γ 1580 (lsL i) [] h') : zL Γ 1419 (lsL i) [] h := by
  refine zL_aload_n (pc' := 1420) dL_1419 rfl rfl ?_
  refine zL_aload_n (pc' := 1421) dL_1420 rfl rfl ?_
  refine zL_iload_n (pc' := 1422) dL_1421 rfl rfl ?_
  refine zL_iconst (pc' := 1423) dL_1422 rfl ?_
  refine zL_iadd (pc' := 1424) dL_1423 rfl ?_
  refine zL_sldE (pc' := 1425) (by omega) hm dL_1424 rfl (fun v1424 e1424 q1424 => ?_)
  refine zL_aload_n (pc' := 1426) dL_1425 rfl rfl ?_
  refine zL_iload_n (pc' := 1427) dL_1426 rfl rfl ?_
  refine zL_iconst (pc' := 1428) dL_1427 rfl ?_
  refine zL_iadd (pc' := 1429) dL_1428 rfl ?_
  refine zL_sldE (pc' := 1430) (by omega) hm dL_1429 rfl (fun v1429 e1429 q1429 => ?_)
  refine zL_inv (pc' := 1433) hcs kX11_without vX11_without lk_L_146 ⟨Nat.le_of_ble_eq_true rfl, Nat.le_of_ble_eq_true rfl⟩ tb30 vq11 rfl [_, _] (s_X11_without (b := true) (κ := _) hC (Fr.rf hS) _ ⟨e1424.1, e1424.2⟩ _ ⟨e1429.1, e1429.2⟩) dL_1430 rfl (Nat.le_of_ble_eq_true rfl) rfl ?_
  rintro r1430 h1430 ⟨f1430, p1430⟩; replace f1430 := (Fm.rf (L := []) hS hR hC).frq f1430; obtain ⟨g1430, hS, hR, hC⟩ := f1430
  have y1430_0_25 : h1430 0 25 = h 0 25 := g1430 0 25 rfl rfl
  have y1430_31_1 : h1430 31 1 = h 31 1 := g1430 31 1 rfl rfl
  have y1430_33_0 : h1430 33 0 = h 33 0 := g1430 33 0 rfl rfl
  have y1430_33_1 : h1430 33 1 = h 33 1 := g1430 33 1 rfl rfl
  have y1430_33_2 : h1430 33 2 = h 33 2 := g1430 33 2 rfl rfl
  have y1430_0_11 : h1430 0 11 = h 0 11 := g1430 0 11 rfl rfl
  have y1430_0_12 : h1430 0 12 = h 0 12 := g1430 0 12 rfl rfl
  have y1430_0_13 : h1430 0 13 = h 0 13 := g1430 0 13 rfl rfl
  have y1430_30_11 : h1430 30 11 = h 30 11 := g1430 30 11 rfl rfl
  have y1430_0_22 : h1430 0 22 = h 0 22 := g1430 0 22 rfl rfl
  have y1430_36_0 : h1430 36 0 = h 36 0 := g1430 36 0 rfl rfl
  have y1430_36_1 : h1430 36 1 = h 36 1 := g1430 36 1 rfl rfl
  have y1430_36_2 : h1430 36 2 = h 36 2 := g1430 36 2 rfl rfl
  have y1430_0_16 : h1430 0 16 = h 0 16 := g1430 0 16 rfl rfl
  have y1430_0_17 : h1430 0 17 = h 0 17 := g1430 0 17 rfl rfl
  have y1430_0_18 : h1430 0 18 = h 0 18 := g1430 0 18 rfl rfl
  have y1430_0_15 : h1430 0 15 = h 0 15 := g1430 0 15 rfl rfl
  have y1430_0_20 : h1430 0 20 = h 0 20 := g1430 0 20 rfl rfl
  have y1430_30_10 : h1430 30 10 = h 30 10 := g1430 30 10 rfl rfl
  have y1430_30_12 : h1430 30 12 = h 30 12 := g1430 30 12 rfl rfl
  have hT1 := hT; have gA1 := gA; have gB1 := gB; have gC1 := gC
  show zL _ _ _ (.inl r1430 :: []) _
  refine zL_pop (pc' := 1434) dL_1433 rfl rfl ?_
  refine zL_aload_n (pc' := 1435) dL_1434 rfl rfl ?_
  refine zL_aload_n (pc' := 1436) dL_1435 rfl rfl ?_
  refine zL_iload_n (pc' := 1437) dL_1436 rfl rfl ?_
  refine zL_iconst (pc' := 1438) dL_1437 rfl ?_
  refine zL_iadd (pc' := 1439) dL_1438 rfl ?_
  refine zL_sldE (pc' := 1440) (by omega) hm dL_1439 rfl (fun v1439 e1439 q1439 => ?_)
  refine zL_aload_n (pc' := 1441) dL_1440 rfl rfl ?_
  refine zL_iload_n (pc' := 1442) dL_1441 rfl rfl ?_
  refine zL_iconst (pc' := 1443) dL_1442 rfl ?_
  refine zL_iadd (pc' := 1444) dL_1443 rfl ?_
  refine zL_sldE (pc' := 1445) (by omega) hm dL_1444 rfl (fun v1444 e1444 q1444 => ?_)
  refine zL_inv (pc' := 1448) hcs kX12_without vX12_without lk_L_149 ⟨Nat.le_of_ble_eq_true rfl, Nat.le_of_ble_eq_true rfl⟩ tb0 vq12 rfl [_, _] (s_X12_without (κ := _) hR (Fr.rf hS) _ ⟨e1439.1, e1439.2⟩ _ ⟨e1444.1, e1444.2⟩) dL_1445 rfl (Nat.le_of_ble_eq_true rfl) rfl ?_
  rintro r1445 h1445 ⟨f1445, p1445⟩; replace f1445 := (Fm.rf (L := []) hS hR hC).frq f1445; obtain ⟨g1445, hS, hR, hC⟩ := f1445
  have y1445_0_25 : h1445 0 25 = h1430 0 25 := g1445 0 25 rfl rfl
  have y1445_31_1 : h1445 31 1 = h1430 31 1 := g1445 31 1 rfl rfl
  have y1445_33_0 : h1445 33 0 = h1430 33 0 := g1445 33 0 rfl rfl
  have y1445_33_1 : h1445 33 1 = h1430 33 1 := g1445 33 1 rfl rfl
  have y1445_33_2 : h1445 33 2 = h1430 33 2 := g1445 33 2 rfl rfl
  have y1445_0_11 : h1445 0 11 = h1430 0 11 := g1445 0 11 rfl rfl
  have y1445_0_12 : h1445 0 12 = h1430 0 12 := g1445 0 12 rfl rfl
  have y1445_0_13 : h1445 0 13 = h1430 0 13 := g1445 0 13 rfl rfl
  have y1445_30_11 : h1445 30 11 = h1430 30 11 := g1445 30 11 rfl rfl
  have y1445_0_22 : h1445 0 22 = h1430 0 22 := g1445 0 22 rfl rfl
  have y1445_36_0 : h1445 36 0 = h1430 36 0 := g1445 36 0 rfl rfl
  have y1445_36_1 : h1445 36 1 = h1430 36 1 := g1445 36 1 rfl rfl
  have y1445_36_2 : h1445 36 2 = h1430 36 2 := g1445 36 2 rfl rfl
  have y1445_0_16 : h1445 0 16 = h1430 0 16 := g1445 0 16 rfl rfl
  have y1445_0_17 : h1445 0 17 = h1430 0 17 := g1445 0 17 rfl rfl
  have y1445_0_18 : h1445 0 18 = h1430 0 18 := g1445 0 18 rfl rfl
  have y1445_0_15 : h1445 0 15 = h1430 0 15 := g1445 0 15 rfl rfl
  have y1445_0_20 : h1445 0 20 = h1430 0 20 := g1445 0 20 rfl rfl
  have y1445_30_10 : h1445 30 10 = h1430 30 10 := g1445 30 10 rfl rfl
  have y1445_30_12 : h1445 30 12 = h1430 30 12 := g1445 30 12 rfl rfl
  replace hT : TI h1445 := TI_of hT1 (y1445_0_25.trans y1430_0_25) (y1445_31_1.trans y1430_31_1) (y1445_33_0.trans y1430_33_0) (y1445_33_1.trans y1430_33_1) (y1445_33_2.trans y1430_33_2) (y1445_0_11.trans y1430_0_11) (y1445_0_12.trans y1430_0_12) (y1445_0_13.trans y1430_0_13) (y1445_30_11.trans y1430_30_11) (y1445_0_22.trans y1430_0_22) (y1445_36_0.trans y1430_36_0) (y1445_36_1.trans y1430_36_1) (y1445_36_2.trans y1430_36_2) (y1445_0_16.trans y1430_0_16) (y1445_0_17.trans y1430_0_17) (y1445_0_18.trans y1430_0_18)
  replace gA : TGA h1445 := TGA_of gA1 (fun j => (g1445 1 j rfl rfl).trans (g1430 1 j rfl rfl)) (fun j => (g1445 34 j rfl rfl).trans (g1430 34 j rfl rfl)) (fun j => (g1445 10 j rfl rfl).trans (g1430 10 j rfl rfl)) (fun j => (g1445 35 j rfl rfl).trans (g1430 35 j rfl rfl)) (fun j => (g1445 6 j rfl rfl).trans (g1430 6 j rfl rfl)) (fun j => (g1445 37 j rfl rfl).trans (g1430 37 j rfl rfl)) (fun j => (g1445 11 j rfl rfl).trans (g1430 11 j rfl rfl)) (fun j => (g1445 38 j rfl rfl).trans (g1430 38 j rfl rfl)) ((y1445_0_11).trans (y1430_0_11)) ((y1445_0_12).trans (y1430_0_12)) ((y1445_0_16).trans (y1430_0_16)) ((y1445_0_17).trans (y1430_0_17)) ((y1445_0_22).trans (y1430_0_22))
  replace gB : TGB h1445 := TGB_of gB1 (fun j => (g1445 12 j rfl rfl).trans (g1430 12 j rfl rfl)) (fun j => (g1445 32 j rfl rfl).trans (g1430 32 j rfl rfl)) ((y1445_0_25).trans (y1430_0_25))
  replace gC : TGC h1445 := TGC_of gC1  ((y1445_0_15).trans (y1430_0_15)) ((y1445_30_12).trans (y1430_30_12)) ((y1445_0_11).trans (y1430_0_11)) ((y1445_0_12).trans (y1430_0_12)) ((y1445_0_20).trans (y1430_0_20)) ((y1445_30_10).trans (y1430_30_10)) ((y1445_0_16).trans (y1430_0_16)) ((y1445_0_17).trans (y1430_0_17)) ((y1445_0_22).trans (y1430_0_22))
  show zL _ _ _ (.inl r1445 :: []) _
  refine zL_pop (pc' := 1449) dL_1448 rfl rfl ?_
  refine zL_goto (tgt := 1580) dL_1449 rfl ?_
  exact nx _ hS hR hC hT gA gB gC
set_option maxHeartbeats 4000000 in
theorem lc_32 {Γ : Lc} {i : Int} {h : Hp} (hX : XI Γ.1) (hcs : Γ.2.2.2.2.2.1 ≤ room_1.cells ∧ Γ.2.2.2.2.2.2 ≤ room_1.slots) (hm : Γ.2.2.1 < 2147483648) (hi : 0 ≤ i ∧ i + 6 ≤ Γ.2.2.1) (hS : SI h) (hR : KR h) (hC : KC h) (hT : TI h) (gA : TGA h) (gB : TGB h) (gC : TGC h) (nx : ∀ h' : Hp, SI h' → KR h' → KC h' → TI h' → TGA h' → TGB h' → TGC h' → zL Γ 1580 (lsL i) [] h') : zL Γ 1452 (lsL i) [] h := by
  refine zL_aload_n (pc' := 1453) dL_1452 rfl rfl ?_
  refine zL_aload_n (pc' := 1454) dL_1453 rfl rfl ?_
  refine zL_iload_n (pc' := 1455) dL_1454 rfl rfl ?_
  refine zL_iconst (pc' := 1456) dL_1455 rfl ?_
  refine zL_iadd (pc' := 1457) dL_1456 rfl ?_
  refine zL_sldE (pc' := 1458) (by omega) hm dL_1457 rfl (fun v1457 e1457 q1457 => ?_)
  refine zL_aload_n (pc' := 1459) dL_1458 rfl rfl ?_
  refine zL_iload_n (pc' := 1460) dL_1459 rfl rfl ?_
  refine zL_iconst (pc' := 1461) dL_1460 rfl ?_
  refine zL_iadd (pc' := 1462) dL_1461 rfl ?_
  refine zL_sldE (pc' := 1463) (by omega) hm dL_1462 rfl (fun v1462 e1462 q1462 => ?_)
  refine zL_inv (pc' := 1466) hcs kX11_best vX11_best lk_L_150 ⟨Nat.le_of_ble_eq_true rfl, Nat.le_of_ble_eq_true rfl⟩ tb30 vq11 rfl [_, _] (s_X11_best (b := true) (κ := _) hC (Fr.rf hS) _ ⟨e1457.1, e1457.2⟩ _ ⟨e1462.1, e1462.2⟩ hX) dL_1463 rfl (Nat.le_of_ble_eq_true rfl) rfl ?_
  rintro r1463 h1463 ⟨f1463, p1463⟩; replace f1463 := (Fm.rf (L := []) hS hR hC).frq f1463; obtain ⟨g1463, hS, hR, hC⟩ := f1463
  have y1463_0_25 : h1463 0 25 = h 0 25 := g1463 0 25 rfl rfl
  have y1463_31_1 : h1463 31 1 = h 31 1 := g1463 31 1 rfl rfl
  have y1463_33_0 : h1463 33 0 = h 33 0 := g1463 33 0 rfl rfl
  have y1463_33_1 : h1463 33 1 = h 33 1 := g1463 33 1 rfl rfl
  have y1463_33_2 : h1463 33 2 = h 33 2 := g1463 33 2 rfl rfl
  have y1463_0_11 : h1463 0 11 = h 0 11 := g1463 0 11 rfl rfl
  have y1463_0_12 : h1463 0 12 = h 0 12 := g1463 0 12 rfl rfl
  have y1463_0_13 : h1463 0 13 = h 0 13 := g1463 0 13 rfl rfl
  have y1463_30_11 : h1463 30 11 = h 30 11 := g1463 30 11 rfl rfl
  have y1463_0_22 : h1463 0 22 = h 0 22 := g1463 0 22 rfl rfl
  have y1463_36_0 : h1463 36 0 = h 36 0 := g1463 36 0 rfl rfl
  have y1463_36_1 : h1463 36 1 = h 36 1 := g1463 36 1 rfl rfl
  have y1463_36_2 : h1463 36 2 = h 36 2 := g1463 36 2 rfl rfl
  have y1463_0_16 : h1463 0 16 = h 0 16 := g1463 0 16 rfl rfl
  have y1463_0_17 : h1463 0 17 = h 0 17 := g1463 0 17 rfl rfl
  have y1463_0_18 : h1463 0 18 = h 0 18 := g1463 0 18 rfl rfl
  have y1463_0_15 : h1463 0 15 = h 0 15 := g1463 0 15 rfl rfl
  have y1463_0_20 : h1463 0 20 = h 0 20 := g1463 0 20 rfl rfl
  have y1463_30_10 : h1463 30 10 = h 30 10 := g1463 30 10 rfl rfl
  have y1463_30_12 : h1463 30 12 = h 30 12 := g1463 30 12 rfl rfl
  have hT1 := hT; have gA1 := gA; have gB1 := gB; have gC1 := gC
  show zL _ _ _ (.inl r1463 :: []) _
  refine zL_pop (pc' := 1467) dL_1466 rfl rfl ?_
  refine zL_aload_n (pc' := 1468) dL_1467 rfl rfl ?_
  refine zL_aload_n (pc' := 1469) dL_1468 rfl rfl ?_
  refine zL_iload_n (pc' := 1470) dL_1469 rfl rfl ?_
  refine zL_iconst (pc' := 1471) dL_1470 rfl ?_
  refine zL_iadd (pc' := 1472) dL_1471 rfl ?_
  refine zL_sldE (pc' := 1473) (by omega) hm dL_1472 rfl (fun v1472 e1472 q1472 => ?_)
  refine zL_aload_n (pc' := 1474) dL_1473 rfl rfl ?_
  refine zL_iload_n (pc' := 1475) dL_1474 rfl rfl ?_
  refine zL_iconst (pc' := 1476) dL_1475 rfl ?_
  refine zL_iadd (pc' := 1477) dL_1476 rfl ?_
  refine zL_sldE (pc' := 1478) (by omega) hm dL_1477 rfl (fun v1477 e1477 q1477 => ?_)
  refine zL_inv (pc' := 1481) hcs kX12_best vX12_best lk_L_153 ⟨Nat.le_of_ble_eq_true rfl, Nat.le_of_ble_eq_true rfl⟩ tb0 vq12 rfl [_, _] (s_X12_best (κ := _) hR (Fr.rf hS) _ ⟨e1472.1, e1472.2⟩ _ ⟨e1477.1, e1477.2⟩) dL_1478 rfl (Nat.le_of_ble_eq_true rfl) rfl ?_
  rintro r1478 h1478 ⟨f1478, p1478⟩; replace f1478 := (Fm.rf (L := []) hS hR hC).frq f1478; obtain ⟨g1478, hS, hR, hC⟩ := f1478
  have y1478_0_25 : h1478 0 25 = h1463 0 25 := g1478 0 25 rfl rfl
  have y1478_31_1 : h1478 31 1 = h1463 31 1 := g1478 31 1 rfl rfl
  have y1478_33_0 : h1478 33 0 = h1463 33 0 := g1478 33 0 rfl rfl
  have y1478_33_1 : h1478 33 1 = h1463 33 1 := g1478 33 1 rfl rfl
  have y1478_33_2 : h1478 33 2 = h1463 33 2 := g1478 33 2 rfl rfl
  have y1478_0_11 : h1478 0 11 = h1463 0 11 := g1478 0 11 rfl rfl
  have y1478_0_12 : h1478 0 12 = h1463 0 12 := g1478 0 12 rfl rfl
  have y1478_0_13 : h1478 0 13 = h1463 0 13 := g1478 0 13 rfl rfl
  have y1478_30_11 : h1478 30 11 = h1463 30 11 := g1478 30 11 rfl rfl
  have y1478_0_22 : h1478 0 22 = h1463 0 22 := g1478 0 22 rfl rfl
  have y1478_36_0 : h1478 36 0 = h1463 36 0 := g1478 36 0 rfl rfl
  have y1478_36_1 : h1478 36 1 = h1463 36 1 := g1478 36 1 rfl rfl
  have y1478_36_2 : h1478 36 2 = h1463 36 2 := g1478 36 2 rfl rfl
  have y1478_0_16 : h1478 0 16 = h1463 0 16 := g1478 0 16 rfl rfl
  have y1478_0_17 : h1478 0 17 = h1463 0 17 := g1478 0 17 rfl rfl
  have y1478_0_18 : h1478 0 18 = h1463 0 18 := g1478 0 18 rfl rfl
  have y1478_0_15 : h1478 0 15 = h1463 0 15 := g1478 0 15 rfl rfl
  have y1478_0_20 : h1478 0 20 = h1463 0 20 := g1478 0 20 rfl rfl
  have y1478_30_10 : h1478 30 10 = h1463 30 10 := g1478 30 10 rfl rfl
  have y1478_30_12 : h1478 30 12 = h1463 30 12 := g1478 30 12 rfl rfl
  replace hT : TI h1478 := TI_of hT1 (y1478_0_25.trans y1463_0_25) (y1478_31_1.trans y1463_31_1) (y1478_33_0.trans y1463_33_0) (y1478_33_1.trans y1463_33_1) (y1478_33_2.trans y1463_33_2) (y1478_0_11.trans y1463_0_11) (y1478_0_12.trans y1463_0_12) (y1478_0_13.trans y1463_0_13) (y1478_30_11.trans y1463_30_11) (y1478_0_22.trans y1463_0_22) (y1478_36_0.trans y1463_36_0) (y1478_36_1.trans y1463_36_1) (y1478_36_2.trans y1463_36_2) (y1478_0_16.trans y1463_0_16) (y1478_0_17.trans y1463_0_17) (y1478_0_18.trans y1463_0_18)
  replace gA : TGA h1478 := TGA_of gA1 (fun j => (g1478 1 j rfl rfl).trans (g1463 1 j rfl rfl)) (fun j => (g1478 34 j rfl rfl).trans (g1463 34 j rfl rfl)) (fun j => (g1478 10 j rfl rfl).trans (g1463 10 j rfl rfl)) (fun j => (g1478 35 j rfl rfl).trans (g1463 35 j rfl rfl)) (fun j => (g1478 6 j rfl rfl).trans (g1463 6 j rfl rfl)) (fun j => (g1478 37 j rfl rfl).trans (g1463 37 j rfl rfl)) (fun j => (g1478 11 j rfl rfl).trans (g1463 11 j rfl rfl)) (fun j => (g1478 38 j rfl rfl).trans (g1463 38 j rfl rfl)) ((y1478_0_11).trans (y1463_0_11)) ((y1478_0_12).trans (y1463_0_12)) ((y1478_0_16).trans (y1463_0_16)) ((y1478_0_17).trans (y1463_0_17)) ((y1478_0_22).trans (y1463_0_22))
  replace gB : TGB h1478 := TGB_of gB1 (fun j => (g1478 12 j rfl rfl).trans (g1463 12 j rfl rfl)) (fun j => (g1478 32 j rfl rfl).trans (g1463 32 j rfl rfl)) ((y1478_0_25).trans (y1463_0_25))
  replace gC : TGC h1478 := TGC_of gC1  ((y1478_0_15).trans (y1463_0_15)) ((y1478_30_12).trans (y1463_30_12)) ((y1478_0_11).trans (y1463_0_11)) ((y1478_0_12).trans (y1463_0_12)) ((y1478_0_20).trans (y1463_0_20)) ((y1478_30_10).trans (y1463_30_10)) ((y1478_0_16).trans (y1463_0_16)) ((y1478_0_17).trans (y1463_0_17)) ((y1478_0_22).trans (y1463_0_22))
  show zL _ _ _ (.inl r1478 :: []) _
  refine zL_pop (pc' := 1482) dL_1481 rfl rfl ?_
  refine zL_goto (tgt := 1580) dL_1482 rfl ?_
  exact nx _ hS hR hC hT gA gB gC
set_option maxHeartbeats 4000000 in
theorem lc_33 {Γ : Lc} {i : Int} {h : Hp} (hX : XI Γ.1) (hcs : Γ.2.2.2.2.2.1 ≤ room_1.cells ∧ Γ.2.2.2.2.2.2 ≤ room_1.slots) (hm : Γ.2.2.1 < 2147483648) (hi : 0 ≤ i ∧ i + 6 ≤ Γ.2.2.1) (hS : SI h) (hR : KR h) (hC : KC h) (hT : TI h) (gA : TGA h) (gB : TGB h) (gC : TGC h) (nx : ∀ h' : Hp, SI h' → KR h' → KC h' → TI h' → TGA h' → TGB h' → TGC h' → zL Γ 1580 (lsL i) [] h') : zL Γ 1485 (lsL i) [] h := by
  refine zL_aload_n (pc' := 1486) dL_1485 rfl rfl ?_
  refine zL_aload_n (pc' := 1487) dL_1486 rfl rfl ?_
  refine zL_iload_n (pc' := 1488) dL_1487 rfl rfl ?_
  refine zL_iconst (pc' := 1489) dL_1488 rfl ?_
  refine zL_iadd (pc' := 1490) dL_1489 rfl ?_
  refine zL_sldE (pc' := 1491) (by omega) hm dL_1490 rfl (fun v1490 e1490 q1490 => ?_)
  refine zL_inv (pc' := 1494) hcs kX11_seed vX11_seed lk_L_154 ⟨Nat.le_of_ble_eq_true rfl, Nat.le_of_ble_eq_true rfl⟩ tb30 vq11 rfl [_] (s_X11_seedE hS hR hC _ ⟨e1490.1, e1490.2⟩) dL_1491 rfl (Nat.le_of_ble_eq_true rfl) rfl ?_
  rintro r1491 h1491 ⟨f1491, p1491⟩; obtain ⟨g1491, hS, hR, hC⟩ := f1491
  obtain ⟨p1491_0, p1491_1, p1491_2⟩ := p1491
  have y1491_0_25 : h1491 0 25 = h 0 25 := g1491 0 25 rfl rfl
  have y1491_31_1 : h1491 31 1 = h 31 1 := g1491 31 1 rfl rfl
  have y1491_33_0 : h1491 33 0 = h 33 0 := g1491 33 0 rfl rfl
  have y1491_33_1 : h1491 33 1 = h 33 1 := g1491 33 1 rfl rfl
  have y1491_33_2 : h1491 33 2 = h 33 2 := g1491 33 2 rfl rfl
  have y1491_0_11 : h1491 0 11 = h 0 11 := g1491 0 11 rfl rfl
  have y1491_0_12 : h1491 0 12 = h 0 12 := g1491 0 12 rfl rfl
  have y1491_0_13 : h1491 0 13 = h 0 13 := g1491 0 13 rfl rfl
  have y1491_30_11 : h1491 30 11 = h 30 11 := g1491 30 11 rfl rfl
  have y1491_0_22 : h1491 0 22 = h 0 22 := g1491 0 22 rfl rfl
  have y1491_36_0 : h1491 36 0 = h 36 0 := g1491 36 0 rfl rfl
  have y1491_36_1 : h1491 36 1 = h 36 1 := g1491 36 1 rfl rfl
  have y1491_36_2 : h1491 36 2 = h 36 2 := g1491 36 2 rfl rfl
  have y1491_0_16 : h1491 0 16 = h 0 16 := g1491 0 16 rfl rfl
  have y1491_0_17 : h1491 0 17 = h 0 17 := g1491 0 17 rfl rfl
  have y1491_0_18 : h1491 0 18 = h 0 18 := g1491 0 18 rfl rfl
  have y1491_0_15 : h1491 0 15 = h 0 15 := g1491 0 15 rfl rfl
  have y1491_0_20 : h1491 0 20 = h 0 20 := g1491 0 20 rfl rfl
  have y1491_30_10 : h1491 30 10 = h 30 10 := g1491 30 10 rfl rfl
  have hT1 := hT; have gA1 := gA; have gB1 := gB; have gC1 := gC
  show zL _ _ _ (.inl r1491 :: []) _
  refine zL_pop (pc' := 1495) dL_1494 rfl rfl ?_
  refine zL_aload_n (pc' := 1496) dL_1495 rfl rfl ?_
  refine zL_aload_n (pc' := 1497) dL_1496 rfl rfl ?_
  refine zL_iload_n (pc' := 1498) dL_1497 rfl rfl ?_
  refine zL_iconst (pc' := 1499) dL_1498 rfl ?_
  refine zL_iadd (pc' := 1500) dL_1499 rfl ?_
  refine zL_sldE (pc' := 1501) (by omega) hm dL_1500 rfl (fun v1500 e1500 q1500 => ?_)
  refine zL_inv (pc' := 1504) hcs kX12_seed vX12_seed lk_L_157 ⟨Nat.le_of_ble_eq_true rfl, Nat.le_of_ble_eq_true rfl⟩ tb0 vq12 rfl [_] (s_X12_seedE hS hR hC _ ⟨e1500.1, e1500.2⟩) dL_1501 rfl (Nat.le_of_ble_eq_true rfl) rfl ?_
  rintro r1501 h1501 ⟨f1501, p1501⟩; obtain ⟨g1501, hS, hR, hC⟩ := f1501
  obtain ⟨p1501_0, p1501_1, p1501_2⟩ := p1501
  have y1501_0_25 : h1501 0 25 = h1491 0 25 := g1501 0 25 rfl rfl
  have y1501_31_1 : h1501 31 1 = h1491 31 1 := g1501 31 1 rfl rfl
  have y1501_33_0 : h1501 33 0 = h1491 33 0 := g1501 33 0 rfl rfl
  have y1501_33_1 : h1501 33 1 = h1491 33 1 := g1501 33 1 rfl rfl
  have y1501_33_2 : h1501 33 2 = h1491 33 2 := g1501 33 2 rfl rfl
  have y1501_0_11 : h1501 0 11 = h1491 0 11 := g1501 0 11 rfl rfl
  have y1501_0_12 : h1501 0 12 = h1491 0 12 := g1501 0 12 rfl rfl
  have y1501_0_13 : h1501 0 13 = h1491 0 13 := g1501 0 13 rfl rfl
  have y1501_30_11 : h1501 30 11 = h1491 30 11 := g1501 30 11 rfl rfl
  have y1501_0_22 : h1501 0 22 = h1491 0 22 := g1501 0 22 rfl rfl
  have y1501_36_0 : h1501 36 0 = h1491 36 0 := g1501 36 0 rfl rfl
  have y1501_36_1 : h1501 36 1 = h1491 36 1 := g1501 36 1 rfl rfl
  have y1501_36_2 : h1501 36 2 = h1491 36 2 := g1501 36 2 rfl rfl
  have y1501_0_16 : h1501 0 16 = h1491 0 16 := g1501 0 16 rfl rfl
  have y1501_0_17 : h1501 0 17 = h1491 0 17 := g1501 0 17 rfl rfl
  have y1501_0_18 : h1501 0 18 = h1491 0 18 := g1501 0 18 rfl rfl
  have y1501_0_20 : h1501 0 20 = h1491 0 20 := g1501 0 20 rfl rfl
  have y1501_30_10 : h1501 30 10 = h1491 30 10 := g1501 30 10 rfl rfl
  have y1501_30_12 : h1501 30 12 = h1491 30 12 := g1501 30 12 rfl rfl
  replace hT : TI h1501 := TI_of hT1 (y1501_0_25.trans y1491_0_25) (y1501_31_1.trans y1491_31_1) (y1501_33_0.trans y1491_33_0) (y1501_33_1.trans y1491_33_1) (y1501_33_2.trans y1491_33_2) (y1501_0_11.trans y1491_0_11) (y1501_0_12.trans y1491_0_12) (y1501_0_13.trans y1491_0_13) (y1501_30_11.trans y1491_30_11) (y1501_0_22.trans y1491_0_22) (y1501_36_0.trans y1491_36_0) (y1501_36_1.trans y1491_36_1) (y1501_36_2.trans y1491_36_2) (y1501_0_16.trans y1491_0_16) (y1501_0_17.trans y1491_0_17) (y1501_0_18.trans y1491_0_18)
  replace gA : TGA h1501 := TGA_of gA1 (fun j => (g1501 1 j rfl rfl).trans (g1491 1 j rfl rfl)) (fun j => (g1501 34 j rfl rfl).trans (g1491 34 j rfl rfl)) (fun j => (g1501 10 j rfl rfl).trans (g1491 10 j rfl rfl)) (fun j => (g1501 35 j rfl rfl).trans (g1491 35 j rfl rfl)) (fun j => (g1501 6 j rfl rfl).trans (g1491 6 j rfl rfl)) (fun j => (g1501 37 j rfl rfl).trans (g1491 37 j rfl rfl)) (fun j => (g1501 11 j rfl rfl).trans (g1491 11 j rfl rfl)) (fun j => (g1501 38 j rfl rfl).trans (g1491 38 j rfl rfl)) ((y1501_0_11).trans (y1491_0_11)) ((y1501_0_12).trans (y1491_0_12)) ((y1501_0_16).trans (y1491_0_16)) ((y1501_0_17).trans (y1491_0_17)) ((y1501_0_22).trans (y1491_0_22))
  replace gB : TGB h1501 := TGB_of gB1 (fun j => (g1501 12 j rfl rfl).trans (g1491 12 j rfl rfl)) (fun j => (g1501 32 j rfl rfl).trans (g1491 32 j rfl rfl)) ((y1501_0_25).trans (y1491_0_25))
  have qe1500 : v1500 = v1490 := by rw [q1500, q1490]
  replace gC : TGC h1501 := by
    have hT2 := hT1
    unfold TI at hT2
    have k1 := KRw hR; have k2 := KRh hR
    clear hcs hm hi
    have d4 := gC1
    unfold TGC at d4 ⊢
    omega
  show zL _ _ _ (.inl r1501 :: []) _
  refine zL_pop (pc' := 1505) dL_1504 rfl rfl ?_
  refine zL_goto (tgt := 1580) dL_1505 rfl ?_
  exact nx _ hS hR hC hT gA gB gC
set_option maxHeartbeats 4000000 in
theorem lc_34 {Γ : Lc} {i : Int} {h : Hp} (hX : XI Γ.1) (hcs : Γ.2.2.2.2.2.1 ≤ room_1.cells ∧ Γ.2.2.2.2.2.2 ≤ room_1.slots) (hm : Γ.2.2.1 < 2147483648) (hi : 0 ≤ i ∧ i + 6 ≤ Γ.2.2.1) (hS : SI h) (hR : KR h) (hC : KC h) (hT : TI h) (gA : TGA h) (gB : TGB h) (gC : TGC h) (nx : ∀ h' : Hp, SI h' → KR h' → KC h' → TI h' → TGA h' → TGB h' → TGC h' → zL Γ 1580 (lsL i) [] h') : zL Γ 1508 (lsL i) [] h := by
  refine zL_aload_n (pc' := 1509) dL_1508 rfl rfl ?_
  refine zL_inv (pc' := 1512) hcs kX11_keep vX11_keep lk_L_158 ⟨Nat.le_of_ble_eq_true rfl, Nat.le_of_ble_eq_true rfl⟩ tb30 vq11 rfl [] (s_X11_keepE hS hR hC) dL_1509 rfl (Nat.le_of_ble_eq_true rfl) rfl ?_
  rintro r1509 h1509 ⟨f1509, p1509⟩; obtain ⟨g1509, hS, hR, hC⟩ := f1509
  obtain ⟨p1509_0, a1509_0⟩ := p1509
  have y1509_0_25 : h1509 0 25 = h 0 25 := g1509 0 25 rfl rfl
  have y1509_31_1 : h1509 31 1 = h 31 1 := g1509 31 1 rfl rfl
  have y1509_33_0 : h1509 33 0 = h 33 0 := g1509 33 0 rfl rfl
  have y1509_33_1 : h1509 33 1 = h 33 1 := g1509 33 1 rfl rfl
  have y1509_33_2 : h1509 33 2 = h 33 2 := g1509 33 2 rfl rfl
  have y1509_0_11 : h1509 0 11 = h 0 11 := g1509 0 11 rfl rfl
  have y1509_0_12 : h1509 0 12 = h 0 12 := g1509 0 12 rfl rfl
  have y1509_0_13 : h1509 0 13 = h 0 13 := g1509 0 13 rfl rfl
  have y1509_0_22 : h1509 0 22 = h 0 22 := g1509 0 22 rfl rfl
  have y1509_0_16 : h1509 0 16 = h 0 16 := g1509 0 16 rfl rfl
  have y1509_0_17 : h1509 0 17 = h 0 17 := g1509 0 17 rfl rfl
  have y1509_0_18 : h1509 0 18 = h 0 18 := g1509 0 18 rfl rfl
  have y1509_0_15 : h1509 0 15 = h 0 15 := g1509 0 15 rfl rfl
  have y1509_0_20 : h1509 0 20 = h 0 20 := g1509 0 20 rfl rfl
  have y1509_30_12 : h1509 30 12 = h 30 12 := g1509 30 12 rfl rfl
  have hT1 := hT; have gA1 := gA; have gB1 := gB; have gC1 := gC
  show zL _ _ _ (.inl r1509 :: []) _
  refine zL_pop (pc' := 1513) dL_1512 rfl rfl ?_
  refine zL_aload_n (pc' := 1514) dL_1513 rfl rfl ?_
  refine zL_inv (pc' := 1517) hcs kX12_keep vX12_keep lk_L_162 ⟨Nat.le_of_ble_eq_true rfl, Nat.le_of_ble_eq_true rfl⟩ tb0 vq12 rfl [] (s_X12_keepE hS hR hC) dL_1514 rfl (Nat.le_of_ble_eq_true rfl) rfl ?_
  rintro r1514 h1514 ⟨f1514, p1514⟩; obtain ⟨g1514, hS, hR, hC⟩ := f1514
  obtain ⟨p1514_0, a1514_0⟩ := p1514
  have y1514_0_25 : h1514 0 25 = h1509 0 25 := g1514 0 25 rfl rfl
  have y1514_31_1 : h1514 31 1 = h1509 31 1 := g1514 31 1 rfl rfl
  have y1514_33_0 : h1514 33 0 = h1509 33 0 := g1514 33 0 rfl rfl
  have y1514_33_1 : h1514 33 1 = h1509 33 1 := g1514 33 1 rfl rfl
  have y1514_33_2 : h1514 33 2 = h1509 33 2 := g1514 33 2 rfl rfl
  have y1514_0_11 : h1514 0 11 = h1509 0 11 := g1514 0 11 rfl rfl
  have y1514_0_12 : h1514 0 12 = h1509 0 12 := g1514 0 12 rfl rfl
  have y1514_0_13 : h1514 0 13 = h1509 0 13 := g1514 0 13 rfl rfl
  have y1514_30_11 : h1514 30 11 = h1509 30 11 := g1514 30 11 rfl rfl
  have y1514_36_0 : h1514 36 0 = h1509 36 0 := g1514 36 0 rfl rfl
  have y1514_36_1 : h1514 36 1 = h1509 36 1 := g1514 36 1 rfl rfl
  have y1514_36_2 : h1514 36 2 = h1509 36 2 := g1514 36 2 rfl rfl
  have y1514_0_15 : h1514 0 15 = h1509 0 15 := g1514 0 15 rfl rfl
  have y1514_30_10 : h1514 30 10 = h1509 30 10 := g1514 30 10 rfl rfl
  have y1514_30_12 : h1514 30 12 = h1509 30 12 := g1514 30 12 rfl rfl
  replace hT : TI h1514 := by
    have hT2 := hT1
    unfold TI at hT2 ⊢
    omega
  replace gA : TGA h1514 := by
    have hT2 := hT1
    unfold TI at hT2
    have k1 := KRw hR; have k2 := KRh hR
    clear hcs hm hi
    refine ⟨fun j hj => ?_, fun q j hj => ?_⟩
    · have d1 := gA1.1 j hj; have f1509_1 := g1509 1 j rfl rfl; have f1509_34 := g1509 34 j rfl rfl; have f1509_10 := g1509 10 j rfl rfl; have f1509_35 := g1509 35 j rfl rfl; have fa1509_0 := a1509_0 j; have f1514_1 := g1514 1 j rfl rfl; have f1514_34 := g1514 34 j rfl rfl; have f1514_10 := g1514 10 j rfl rfl; have f1514_35 := g1514 35 j rfl rfl; have fa1514_0 := a1514_0 j; omega
    · have d2 : h 0 22 ≠ 0 → _ := fun z => gA1.2 z j hj; have d1 := gA1.1 j hj; have f1509_6 := g1509 6 j rfl rfl; have f1509_11 := g1509 11 j rfl rfl; have f1509_1 := g1509 1 j rfl rfl; have f1509_34 := g1509 34 j rfl rfl; have f1509_10 := g1509 10 j rfl rfl; have f1509_35 := g1509 35 j rfl rfl; have fa1509_0 := a1509_0 j; have f1514_37 := g1514 37 j rfl rfl; have f1514_38 := g1514 38 j rfl rfl; have f1514_1 := g1514 1 j rfl rfl; have f1514_34 := g1514 34 j rfl rfl; have f1514_10 := g1514 10 j rfl rfl; have f1514_35 := g1514 35 j rfl rfl; have fa1514_0 := a1514_0 j; omega
  replace gB : TGB h1514 := TGB_of gB1 (fun j => (g1514 12 j rfl rfl).trans (g1509 12 j rfl rfl)) (fun j => (g1514 32 j rfl rfl).trans (g1509 32 j rfl rfl)) ((y1514_0_25).trans (y1509_0_25))
  replace gC : TGC h1514 := by
    have hT2 := hT1
    unfold TI at hT2
    have k1 := KRw hR; have k2 := KRh hR
    clear hcs hm hi
    have d4 := gC1
    unfold TGC at d4 ⊢
    omega
  show zL _ _ _ (.inl r1514 :: []) _
  refine zL_pop (pc' := 1518) dL_1517 rfl rfl ?_
  refine zL_goto (tgt := 1580) dL_1518 rfl ?_
  exact nx _ hS hR hC hT gA gB gC
set_option maxHeartbeats 4000000 in
theorem lc_35 {Γ : Lc} {i : Int} {h : Hp} (hX : XI Γ.1) (hcs : Γ.2.2.2.2.2.1 ≤ room_1.cells ∧ Γ.2.2.2.2.2.2 ≤ room_1.slots) (hm : Γ.2.2.1 < 2147483648) (hi : 0 ≤ i ∧ i + 6 ≤ Γ.2.2.1) (hS : SI h) (hR : KR h) (hC : KC h) (hT : TI h) (gA : TGA h) (gB : TGB h) (gC : TGC h) (nx : ∀ h' : Hp, SI h' → KR h' → KC h' → TI h' → TGA h' → TGB h' → TGC h' → zL Γ 1580 (lsL i) [] h') : zL Γ 1521 (lsL i) [] h := by
  refine zL_aload_n (pc' := 1522) dL_1521 rfl rfl ?_
  refine zL_inv (pc' := 1525) hcs kX11_undo vX11_undo lk_L_163 ⟨Nat.le_of_ble_eq_true rfl, Nat.le_of_ble_eq_true rfl⟩ tb30 vq11 rfl [] (s_X11_undoE hS hR hC) dL_1522 rfl (Nat.le_of_ble_eq_true rfl) rfl ?_
  rintro r1522 h1522 ⟨f1522, p1522⟩; obtain ⟨g1522, hS, hR, hC⟩ := f1522
  obtain ⟨p1522_0, p1522_1, p1522_2, a1522_0⟩ := p1522
  have y1522_0_25 : h1522 0 25 = h 0 25 := g1522 0 25 rfl rfl
  have y1522_31_1 : h1522 31 1 = h 31 1 := g1522 31 1 rfl rfl
  have y1522_0_11 : h1522 0 11 = h 0 11 := g1522 0 11 rfl rfl
  have y1522_0_12 : h1522 0 12 = h 0 12 := g1522 0 12 rfl rfl
  have y1522_0_13 : h1522 0 13 = h 0 13 := g1522 0 13 rfl rfl
  have y1522_30_11 : h1522 30 11 = h 30 11 := g1522 30 11 rfl rfl
  have y1522_0_22 : h1522 0 22 = h 0 22 := g1522 0 22 rfl rfl
  have y1522_36_0 : h1522 36 0 = h 36 0 := g1522 36 0 rfl rfl
  have y1522_36_1 : h1522 36 1 = h 36 1 := g1522 36 1 rfl rfl
  have y1522_36_2 : h1522 36 2 = h 36 2 := g1522 36 2 rfl rfl
  have y1522_0_16 : h1522 0 16 = h 0 16 := g1522 0 16 rfl rfl
  have y1522_0_17 : h1522 0 17 = h 0 17 := g1522 0 17 rfl rfl
  have y1522_0_18 : h1522 0 18 = h 0 18 := g1522 0 18 rfl rfl
  have y1522_0_15 : h1522 0 15 = h 0 15 := g1522 0 15 rfl rfl
  have y1522_0_20 : h1522 0 20 = h 0 20 := g1522 0 20 rfl rfl
  have y1522_30_10 : h1522 30 10 = h 30 10 := g1522 30 10 rfl rfl
  have hT1 := hT; have gA1 := gA; have gB1 := gB; have gC1 := gC
  show zL _ _ _ (.inl r1522 :: []) _
  refine zL_pop (pc' := 1526) dL_1525 rfl rfl ?_
  refine zL_aload_n (pc' := 1527) dL_1526 rfl rfl ?_
  refine zL_inv (pc' := 1530) hcs kX12_undo vX12_undo lk_L_167 ⟨Nat.le_of_ble_eq_true rfl, Nat.le_of_ble_eq_true rfl⟩ tb0 vq12 rfl [] (s_X12_undoE hS hR hC) dL_1527 rfl (Nat.le_of_ble_eq_true rfl) rfl ?_
  rintro r1527 h1527 ⟨f1527, p1527⟩; obtain ⟨g1527, hS, hR, hC⟩ := f1527
  obtain ⟨p1527_0, a1527_0⟩ := p1527
  have y1527_0_25 : h1527 0 25 = h1522 0 25 := g1527 0 25 rfl rfl
  have y1527_31_1 : h1527 31 1 = h1522 31 1 := g1527 31 1 rfl rfl
  have y1527_33_0 : h1527 33 0 = h1522 33 0 := g1527 33 0 rfl rfl
  have y1527_33_1 : h1527 33 1 = h1522 33 1 := g1527 33 1 rfl rfl
  have y1527_33_2 : h1527 33 2 = h1522 33 2 := g1527 33 2 rfl rfl
  have y1527_30_11 : h1527 30 11 = h1522 30 11 := g1527 30 11 rfl rfl
  have y1527_0_22 : h1527 0 22 = h1522 0 22 := g1527 0 22 rfl rfl
  have y1527_36_0 : h1527 36 0 = h1522 36 0 := g1527 36 0 rfl rfl
  have y1527_36_1 : h1527 36 1 = h1522 36 1 := g1527 36 1 rfl rfl
  have y1527_36_2 : h1527 36 2 = h1522 36 2 := g1527 36 2 rfl rfl
  have y1527_0_16 : h1527 0 16 = h1522 0 16 := g1527 0 16 rfl rfl
  have y1527_0_17 : h1527 0 17 = h1522 0 17 := g1527 0 17 rfl rfl
  have y1527_0_18 : h1527 0 18 = h1522 0 18 := g1527 0 18 rfl rfl
  have y1527_0_20 : h1527 0 20 = h1522 0 20 := g1527 0 20 rfl rfl
  have y1527_30_10 : h1527 30 10 = h1522 30 10 := g1527 30 10 rfl rfl
  have y1527_30_12 : h1527 30 12 = h1522 30 12 := g1527 30 12 rfl rfl
  replace hT : TI h1527 := by
    have hT2 := hT1
    unfold TI at hT2 ⊢
    omega
  replace gA : TGA h1527 := by
    have hT2 := hT1
    unfold TI at hT2
    have k1 := KRw hR; have k2 := KRh hR
    clear hcs hm hi
    refine ⟨fun j hj => ?_, fun q j hj => ?_⟩
    · have d1 := gA1.1 j hj; have d2 : h 0 22 ≠ 0 → _ := fun z => gA1.2 z j hj; have f1522_1 := g1522 1 j rfl rfl; have f1522_10 := g1522 10 j rfl rfl; have f1522_6 := g1522 6 j rfl rfl; have f1522_37 := g1522 37 j rfl rfl; have f1522_11 := g1522 11 j rfl rfl; have f1522_38 := g1522 38 j rfl rfl; have fa1522_0 := a1522_0 j; have f1527_34 := g1527 34 j rfl rfl; have f1527_35 := g1527 35 j rfl rfl; have f1527_6 := g1527 6 j rfl rfl; have f1527_37 := g1527 37 j rfl rfl; have f1527_11 := g1527 11 j rfl rfl; have f1527_38 := g1527 38 j rfl rfl; have fa1527_0 := a1527_0 j; omega
    · have d2 : h 0 22 ≠ 0 → _ := fun z => gA1.2 z j hj; have f1522_6 := g1522 6 j rfl rfl; have f1522_37 := g1522 37 j rfl rfl; have f1522_11 := g1522 11 j rfl rfl; have f1522_38 := g1522 38 j rfl rfl; have fa1522_0 := a1522_0 j; have f1527_6 := g1527 6 j rfl rfl; have f1527_37 := g1527 37 j rfl rfl; have f1527_11 := g1527 11 j rfl rfl; have f1527_38 := g1527 38 j rfl rfl; have fa1527_0 := a1527_0 j; omega
  replace gB : TGB h1527 := TGB_of gB1 (fun j => (g1527 12 j rfl rfl).trans (g1522 12 j rfl rfl)) (fun j => (g1527 32 j rfl rfl).trans (g1522 32 j rfl rfl)) ((y1527_0_25).trans (y1522_0_25))
  replace gC : TGC h1527 := by
    have hT2 := hT1
    unfold TI at hT2
    have k1 := KRw hR; have k2 := KRh hR
    clear hcs hm hi
    have d4 := gC1
    unfold TGC at d4 ⊢
    omega
  show zL _ _ _ (.inl r1527 :: []) _
  refine zL_pop (pc' := 1531) dL_1530 rfl rfl ?_
  refine zL_goto (tgt := 1580) dL_1531 rfl ?_
  exact nx _ hS hR hC hT gA gB gC
