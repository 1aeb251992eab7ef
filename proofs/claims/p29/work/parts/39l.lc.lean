/-! the law's cases, further -/
set_option maxHeartbeats 4000000 in
theorem lc_36 {Γ : Lc} {i : Int} {h : Hp} (hX : XI Γ.1) (hcs : Γ.2.2.2.2.2.1 ≤ room_1.cells ∧ Γ.2.2.2.2.2.2 ≤ room_1.slots) (hm : Γ.2.2.1 < 2147483648) (hi : 0 ≤ i ∧ i + 6 ≤ Γ.2.2.1) (hS : SI h) (hR : KR h) (hC : KC h) (hT : TI h) (gA : TGA h) (gB : TGB h) (gC : TGC h) (gD : TGD h) (gR : TGR h) (gV : TGV h) (gE : TGE h) (gS : TGS h) (gP : TGP h) (gF : TGF h) (gT : TGT h) (nx : ∀ h' : Hp, SI h' → KR h' → KC h' → TI h' → TGA h' → TGB h' → TGC h' → TGD h' → TGR h' → TGV h' → TGE h' → TGS h' → TGP h' → TGF h' → TGT h' → zL Γ 1581 (lsL i) [] h') : zL Γ 1535 (lsL i) [] h := by
  refine zL_aload_n (pc' := 1536) dL_1535 rfl rfl ?_
  refine zL_aload_n (pc' := 1537) dL_1536 rfl rfl ?_
  refine zL_iload_n (pc' := 1538) dL_1537 rfl rfl ?_
  refine zL_iconst (pc' := 1539) dL_1538 rfl ?_
  refine zL_iadd (pc' := 1540) dL_1539 rfl ?_
  refine zL_sldE (pc' := 1541) (by omega) hm dL_1540 rfl (fun v1540 e1540 q1540 => ?_)
  refine zL_inv (pc' := 1544) hcs kX11_check vX11_check lk_L_168 ⟨Nat.le_of_ble_eq_true rfl, Nat.le_of_ble_eq_true rfl⟩ tb30 vq11 rfl [_] (s_X11_check hS hR hC _ ⟨e1540.1, e1540.2⟩) dL_1541 rfl (Nat.le_of_ble_eq_true rfl) rfl ?_
  have hC_1541 := hC
  rintro r1541 h1541 ⟨f1541, p1541⟩; have F1541 := f1541; obtain ⟨g1541, hS, hR, hC⟩ := f1541
  have pR1541 : PicRW h1541 := PicRW_un (UnR.rf.fm F1541 rfl) gP.1
  have pC1541 : PicCW h1541 := PicCW_un (KCm hC_1541).2 (UnC.rf.fm F1541 rfl) gP.2
  have y1541_0_25 : h1541 0 25 = h 0 25 := g1541 0 25 rfl rfl
  have y1541_33_0 : h1541 33 0 = h 33 0 := g1541 33 0 rfl rfl
  have y1541_33_1 : h1541 33 1 = h 33 1 := g1541 33 1 rfl rfl
  have y1541_33_2 : h1541 33 2 = h 33 2 := g1541 33 2 rfl rfl
  have y1541_0_11 : h1541 0 11 = h 0 11 := g1541 0 11 rfl rfl
  have y1541_0_12 : h1541 0 12 = h 0 12 := g1541 0 12 rfl rfl
  have y1541_0_13 : h1541 0 13 = h 0 13 := g1541 0 13 rfl rfl
  have y1541_30_11 : h1541 30 11 = h 30 11 := g1541 30 11 rfl rfl
  have y1541_0_22 : h1541 0 22 = h 0 22 := g1541 0 22 rfl rfl
  have y1541_36_0 : h1541 36 0 = h 36 0 := g1541 36 0 rfl rfl
  have y1541_36_1 : h1541 36 1 = h 36 1 := g1541 36 1 rfl rfl
  have y1541_36_2 : h1541 36 2 = h 36 2 := g1541 36 2 rfl rfl
  have y1541_0_16 : h1541 0 16 = h 0 16 := g1541 0 16 rfl rfl
  have y1541_0_17 : h1541 0 17 = h 0 17 := g1541 0 17 rfl rfl
  have y1541_0_18 : h1541 0 18 = h 0 18 := g1541 0 18 rfl rfl
  have y1541_0_14 : h1541 0 14 = h 0 14 := g1541 0 14 rfl rfl
  have y1541_0_15 : h1541 0 15 = h 0 15 := g1541 0 15 rfl rfl
  have y1541_0_19 : h1541 0 19 = h 0 19 := g1541 0 19 rfl rfl
  have y1541_0_20 : h1541 0 20 = h 0 20 := g1541 0 20 rfl rfl
  have y1541_0_21 : h1541 0 21 = h 0 21 := g1541 0 21 rfl rfl
  have y1541_30_10 : h1541 30 10 = h 30 10 := g1541 30 10 rfl rfl
  have y1541_30_12 : h1541 30 12 = h 30 12 := g1541 30 12 rfl rfl
  have y1541_39_1 : h1541 39 1 = h 39 1 := g1541 39 1 rfl rfl
  have y1541_41_0 : h1541 41 0 = h 41 0 := g1541 41 0 rfl rfl
  have y1541_41_1 : h1541 41 1 = h 41 1 := g1541 41 1 rfl rfl
  have y1541_45_0 : h1541 45 0 = h 45 0 := g1541 45 0 rfl rfl
  have y1541_45_1 : h1541 45 1 = h 45 1 := g1541 45 1 rfl rfl
  have hT1 := hT; have gA1 := gA; have gB1 := gB; have gC1 := gC; have gD1 := gD; have gR1 := gR; have gV1 := gV; have gE1 := gE; have gS1 := gS; have gP1 := gP; have gF1 := gF; have gT1 := gT
  show zL _ _ _ (.inl r1541 :: []) _
  refine zL_pop (pc' := 1545) dL_1544 rfl rfl ?_
  refine zL_aload_n (pc' := 1546) dL_1545 rfl rfl ?_
  refine zL_aload_n (pc' := 1547) dL_1546 rfl rfl ?_
  refine zL_iload_n (pc' := 1548) dL_1547 rfl rfl ?_
  refine zL_iconst (pc' := 1549) dL_1548 rfl ?_
  refine zL_iadd (pc' := 1550) dL_1549 rfl ?_
  refine zL_sldE (pc' := 1551) (by omega) hm dL_1550 rfl (fun v1550 e1550 q1550 => ?_)
  refine zL_inv (pc' := 1554) hcs kX12_check vX12_check lk_L_171 ⟨Nat.le_of_ble_eq_true rfl, Nat.le_of_ble_eq_true rfl⟩ tb0 vq12 rfl [_] (s_X12_check hS hR hC _ ⟨e1550.1, e1550.2⟩) dL_1551 rfl (Nat.le_of_ble_eq_true rfl) rfl ?_
  have hC_1551 := hC
  rintro r1551 h1551 ⟨f1551, p1551⟩; have F1551 := f1551; obtain ⟨g1551, hS, hR, hC⟩ := f1551
  have pR1551 : PicRW h1551 := PicRW_un (UnR.rf.fm F1551 rfl) pR1541
  have pC1551 : PicCW h1551 := PicCW_un (KCm hC_1551).2 (UnC.rf.fm F1551 rfl) pC1541
  have y1551_31_1 : h1551 31 1 = h1541 31 1 := g1551 31 1 rfl rfl
  have y1551_33_0 : h1551 33 0 = h1541 33 0 := g1551 33 0 rfl rfl
  have y1551_33_1 : h1551 33 1 = h1541 33 1 := g1551 33 1 rfl rfl
  have y1551_33_2 : h1551 33 2 = h1541 33 2 := g1551 33 2 rfl rfl
  have y1551_0_11 : h1551 0 11 = h1541 0 11 := g1551 0 11 rfl rfl
  have y1551_0_12 : h1551 0 12 = h1541 0 12 := g1551 0 12 rfl rfl
  have y1551_0_13 : h1551 0 13 = h1541 0 13 := g1551 0 13 rfl rfl
  have y1551_30_11 : h1551 30 11 = h1541 30 11 := g1551 30 11 rfl rfl
  have y1551_0_22 : h1551 0 22 = h1541 0 22 := g1551 0 22 rfl rfl
  have y1551_36_0 : h1551 36 0 = h1541 36 0 := g1551 36 0 rfl rfl
  have y1551_36_1 : h1551 36 1 = h1541 36 1 := g1551 36 1 rfl rfl
  have y1551_36_2 : h1551 36 2 = h1541 36 2 := g1551 36 2 rfl rfl
  have y1551_0_16 : h1551 0 16 = h1541 0 16 := g1551 0 16 rfl rfl
  have y1551_0_17 : h1551 0 17 = h1541 0 17 := g1551 0 17 rfl rfl
  have y1551_0_18 : h1551 0 18 = h1541 0 18 := g1551 0 18 rfl rfl
  have y1551_0_14 : h1551 0 14 = h1541 0 14 := g1551 0 14 rfl rfl
  have y1551_0_15 : h1551 0 15 = h1541 0 15 := g1551 0 15 rfl rfl
  have y1551_0_19 : h1551 0 19 = h1541 0 19 := g1551 0 19 rfl rfl
  have y1551_0_20 : h1551 0 20 = h1541 0 20 := g1551 0 20 rfl rfl
  have y1551_0_21 : h1551 0 21 = h1541 0 21 := g1551 0 21 rfl rfl
  have y1551_30_10 : h1551 30 10 = h1541 30 10 := g1551 30 10 rfl rfl
  have y1551_30_12 : h1551 30 12 = h1541 30 12 := g1551 30 12 rfl rfl
  have y1551_39_1 : h1551 39 1 = h1541 39 1 := g1551 39 1 rfl rfl
  have y1551_41_0 : h1551 41 0 = h1541 41 0 := g1551 41 0 rfl rfl
  have y1551_41_1 : h1551 41 1 = h1541 41 1 := g1551 41 1 rfl rfl
  have y1551_45_0 : h1551 45 0 = h1541 45 0 := g1551 45 0 rfl rfl
  have y1551_45_1 : h1551 45 1 = h1541 45 1 := g1551 45 1 rfl rfl
  have qe1550 : v1550 = v1540 := by rw [q1550, q1540]
  replace hT : TI h1551 := by
    have hT2 := hT1
    unfold TI at hT2 ⊢
    omega
  replace gA : TGA h1551 := TGA_of gA1 (fun j => (g1551 1 j rfl rfl).trans (g1541 1 j rfl rfl)) (fun j => (g1551 34 j rfl rfl).trans (g1541 34 j rfl rfl)) (fun j => (g1551 10 j rfl rfl).trans (g1541 10 j rfl rfl)) (fun j => (g1551 35 j rfl rfl).trans (g1541 35 j rfl rfl)) (fun j => (g1551 6 j rfl rfl).trans (g1541 6 j rfl rfl)) (fun j => (g1551 37 j rfl rfl).trans (g1541 37 j rfl rfl)) (fun j => (g1551 11 j rfl rfl).trans (g1541 11 j rfl rfl)) (fun j => (g1551 38 j rfl rfl).trans (g1541 38 j rfl rfl)) ((y1551_0_11).trans (y1541_0_11)) ((y1551_0_12).trans (y1541_0_12)) ((y1551_0_16).trans (y1541_0_16)) ((y1551_0_17).trans (y1541_0_17)) ((y1551_0_22).trans (y1541_0_22))
  replace gB : TGB h1551 := by
    have hT2 := hT1
    unfold TI at hT2
    have k1 := KRw hR; have k2 := KRh hR
    clear hcs hm hi
    intro j hj
    have d3 := gB1 j; have f1541_12 := g1541 12 j rfl rfl; have f1541_32 := g1541 32 j rfl rfl; have f1551_12 := g1551 12 j rfl rfl; have f1551_32 := g1551 32 j rfl rfl; omega
  replace gC : TGC h1551 := TGC_of gC1  ((y1551_0_15).trans (y1541_0_15)) ((y1551_30_12).trans (y1541_30_12)) ((y1551_0_11).trans (y1541_0_11)) ((y1551_0_12).trans (y1541_0_12)) ((y1551_0_20).trans (y1541_0_20)) ((y1551_30_10).trans (y1541_30_10)) ((y1551_0_16).trans (y1541_0_16)) ((y1551_0_17).trans (y1541_0_17)) ((y1551_0_22).trans (y1541_0_22))
  replace gD : TGD h1551 := TGD_of gD1  ((y1551_41_0).trans (y1541_41_0)) ((y1551_0_14).trans (y1541_0_14)) ((y1551_45_0).trans (y1541_45_0)) ((y1551_0_19).trans (y1541_0_19)) ((y1551_0_22).trans (y1541_0_22))
  replace gR : TGR h1551 := TGR_of gR1 (fun j => (g1551 3 j rfl rfl).trans (g1541 3 j rfl rfl)) (fun j => (g1551 4 j rfl rfl).trans (g1541 4 j rfl rfl)) (fun j => (g1551 5 j rfl rfl).trans (g1541 5 j rfl rfl)) (fun j => (g1551 7 j rfl rfl).trans (g1541 7 j rfl rfl)) (fun j => (g1551 8 j rfl rfl).trans (g1541 8 j rfl rfl)) (fun j => (g1551 9 j rfl rfl).trans (g1541 9 j rfl rfl)) (fun j => (g1551 42 j rfl rfl).trans (g1541 42 j rfl rfl)) (fun j => (g1551 43 j rfl rfl).trans (g1541 43 j rfl rfl)) (fun j => (g1551 44 j rfl rfl).trans (g1541 44 j rfl rfl)) (fun j => (g1551 46 j rfl rfl).trans (g1541 46 j rfl rfl)) (fun j => (g1551 47 j rfl rfl).trans (g1541 47 j rfl rfl)) (fun j => (g1551 48 j rfl rfl).trans (g1541 48 j rfl rfl)) ((y1551_0_14).trans (y1541_0_14)) ((y1551_0_19).trans (y1541_0_19)) ((y1551_0_22).trans (y1541_0_22))
  replace gV : TGV h1551 := TGV_of gV1 (fun j => (g1551 34 j rfl rfl).trans (g1541 34 j rfl rfl)) (fun j => (g1551 37 j rfl rfl).trans (g1541 37 j rfl rfl)) ((y1551_0_22).trans (y1541_0_22))
  replace gE : TGE h1551 := TGE_of gE1 (fun j => (g1551 3 j rfl rfl).trans (g1541 3 j rfl rfl)) (fun j => (g1551 7 j rfl rfl).trans (g1541 7 j rfl rfl)) ((y1551_0_14).trans (y1541_0_14)) ((y1551_0_19).trans (y1541_0_19)) ((y1551_0_22).trans (y1541_0_22))
  replace gS : TGS h1551 := TGS_of gS1 (fun j => (g1551 3 j rfl rfl).trans (g1541 3 j rfl rfl)) (fun j => (g1551 4 j rfl rfl).trans (g1541 4 j rfl rfl)) (fun j => (g1551 5 j rfl rfl).trans (g1541 5 j rfl rfl)) (fun j => (g1551 7 j rfl rfl).trans (g1541 7 j rfl rfl)) (fun j => (g1551 8 j rfl rfl).trans (g1541 8 j rfl rfl)) (fun j => (g1551 9 j rfl rfl).trans (g1541 9 j rfl rfl)) ((y1551_0_14).trans (y1541_0_14)) ((y1551_0_19).trans (y1541_0_19)) ((y1551_0_22).trans (y1541_0_22))
  replace gP : TGP h1551 := by
    have hT2 := hT1
    unfold TI at hT2
    have k1 := KRw hR; have k2 := KRh hR
    clear hcs hm hi
    exact ⟨pR1551, pC1551⟩
  replace gF : TGF h1551 := TGF_of gF1 (fun j => (g1551 3 j rfl rfl).trans (g1541 3 j rfl rfl)) (fun j => (g1551 7 j rfl rfl).trans (g1541 7 j rfl rfl)) ((y1551_41_1).trans (y1541_41_1)) ((y1551_0_14).trans (y1541_0_14)) ((y1551_45_1).trans (y1541_45_1)) ((y1551_0_19).trans (y1541_0_19)) ((y1551_0_22).trans (y1541_0_22))
  replace gT : TGT h1551 := TGT_of gT1 (fun j => (g1551 2 j rfl rfl).trans (g1541 2 j rfl rfl)) (fun j => (g1551 40 j rfl rfl).trans (g1541 40 j rfl rfl)) ((y1551_39_1).trans (y1541_39_1)) ((y1551_0_21).trans (y1541_0_21)) ((y1551_0_11).trans (y1541_0_11)) ((y1551_0_12).trans (y1541_0_12))
  show zL _ _ _ (.inl r1551 :: []) _
  refine zL_pop (pc' := 1555) dL_1554 rfl rfl ?_
  refine zL_goto (tgt := 1581) dL_1555 rfl ?_
  exact nx _ hS hR hC hT gA gB gC gD gR gV gE gS gP gF gT
set_option maxHeartbeats 4000000 in
theorem lc_37 {Γ : Lc} {i : Int} {h : Hp} (hX : XI Γ.1) (hcs : Γ.2.2.2.2.2.1 ≤ room_1.cells ∧ Γ.2.2.2.2.2.2 ≤ room_1.slots) (hm : Γ.2.2.1 < 2147483648) (hi : 0 ≤ i ∧ i + 6 ≤ Γ.2.2.1) (hS : SI h) (hR : KR h) (hC : KC h) (hT : TI h) (gA : TGA h) (gB : TGB h) (gC : TGC h) (gD : TGD h) (gR : TGR h) (gV : TGV h) (gE : TGE h) (gS : TGS h) (gP : TGP h) (gF : TGF h) (gT : TGT h) (nx : ∀ h' : Hp, SI h' → KR h' → KC h' → TI h' → TGA h' → TGB h' → TGC h' → TGD h' → TGR h' → TGV h' → TGE h' → TGS h' → TGP h' → TGF h' → TGT h' → zL Γ 1581 (lsL i) [] h') : zL Γ 1558 (lsL i) [] h := by
  refine zL_aload_n (pc' := 1559) dL_1558 rfl rfl ?_
  refine zL_aload_n (pc' := 1560) dL_1559 rfl rfl ?_
  refine zL_iload_n (pc' := 1561) dL_1560 rfl rfl ?_
  refine zL_iconst (pc' := 1562) dL_1561 rfl ?_
  refine zL_iadd (pc' := 1563) dL_1562 rfl ?_
  refine zL_sldE (pc' := 1564) (by omega) hm dL_1563 rfl (fun v1563 e1563 q1563 => ?_)
  refine zL_inv (pc' := 1567) hcs kX11_count vX11_count lk_L_172 ⟨Nat.le_of_ble_eq_true rfl, Nat.le_of_ble_eq_true rfl⟩ tb30 vq11 rfl [_] (s_X11_count (b := bdB true) (κ := _) hC (Fr.rf (b := bdB true) hS) _ ⟨e1563.1, e1563.2⟩) dL_1564 rfl (Nat.le_of_ble_eq_true rfl) rfl ?_
  rintro r1564 z1564 ⟨hz1564, p1564⟩; subst z1564
  have hT1 := hT; have gA1 := gA; have gB1 := gB; have gC1 := gC; have gD1 := gD; have gR1 := gR; have gV1 := gV; have gE1 := gE; have gS1 := gS; have gP1 := gP; have gF1 := gF; have gT1 := gT
  show zL _ _ _ (.inl r1564 :: []) _
  refine zL_pop (pc' := 1568) dL_1567 rfl rfl ?_
  refine zL_aload_n (pc' := 1569) dL_1568 rfl rfl ?_
  refine zL_aload_n (pc' := 1570) dL_1569 rfl rfl ?_
  refine zL_iload_n (pc' := 1571) dL_1570 rfl rfl ?_
  refine zL_iconst (pc' := 1572) dL_1571 rfl ?_
  refine zL_iadd (pc' := 1573) dL_1572 rfl ?_
  refine zL_sldE (pc' := 1574) (by omega) hm dL_1573 rfl (fun v1573 e1573 q1573 => ?_)
  refine zL_inv (pc' := 1577) hcs kX12_count vX12_count lk_L_175 ⟨Nat.le_of_ble_eq_true rfl, Nat.le_of_ble_eq_true rfl⟩ tb0 vq12 rfl [_] (s_X12_count (b := bdB true) (κ := _) hR (Fr.rf (b := bdB true) hS) _ ⟨e1573.1, e1573.2⟩) dL_1574 rfl (Nat.le_of_ble_eq_true rfl) rfl ?_
  rintro r1574 z1574 ⟨hz1574, p1574⟩; subst z1574
  show zL _ _ _ (.inl r1574 :: []) _
  refine zL_pop (pc' := 1578) dL_1577 rfl rfl ?_
  refine zL_goto (tgt := 1581) dL_1578 rfl ?_
  exact nx _ hS hR hC hT gA gB gC gD gR gV gE gS gP gF gT
