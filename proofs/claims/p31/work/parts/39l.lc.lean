/-! the law's cases, further -/
set_option maxHeartbeats 4000000 in
theorem lc_36 {Γ : Lc} {i : Int} {h : Hp} (hX : XI Γ.1) (hcs : Γ.2.2.2.2.2.1 ≤ room_1.cells ∧ Γ.2.2.2.2.2.2 ≤ room_1.slots) (hm : Γ.2.2.1 < 2147483648) (hi : 0 ≤ i ∧ i + 6 ≤ Γ.2.2.1) (hS : SI h) (hR : KR h) (hC : KC h) (hT : TI h) (gA : TGA h) (gB : TGB h) (gC : TGC h) (gD : TGD h) (gR : TGR h) (gV : TGV h) (gE : TGE h) (gS : TGS h) (gP : TGP h) (gF : TGF h) (nx : ∀ h' : Hp, SI h' → KR h' → KC h' → TI h' → TGA h' → TGB h' → TGC h' → TGD h' → TGR h' → TGV h' → TGE h' → TGS h' → TGP h' → TGF h' → zL Γ 1580 (lsL i) [] h') : zL Γ 1534 (lsL i) [] h := by
  refine zL_aload_n (pc' := 1535) dL_1534 rfl rfl ?_
  refine zL_aload_n (pc' := 1536) dL_1535 rfl rfl ?_
  refine zL_iload_n (pc' := 1537) dL_1536 rfl rfl ?_
  refine zL_iconst (pc' := 1538) dL_1537 rfl ?_
  refine zL_iadd (pc' := 1539) dL_1538 rfl ?_
  refine zL_sldE (pc' := 1540) (by omega) hm dL_1539 rfl (fun v1539 e1539 q1539 => ?_)
  refine zL_inv (pc' := 1543) hcs kX11_check vX11_check lk_L_168 ⟨Nat.le_of_ble_eq_true rfl, Nat.le_of_ble_eq_true rfl⟩ tb30 vq11 rfl [_] (s_X11_check hS hR hC _ ⟨e1539.1, e1539.2⟩) dL_1540 rfl (Nat.le_of_ble_eq_true rfl) rfl ?_
  have hC_1540 := hC
  rintro r1540 h1540 ⟨f1540, p1540⟩; have F1540 := f1540; obtain ⟨g1540, hS, hR, hC⟩ := f1540
  have pR1540 : PicRW h1540 := PicRW_un (UnR.rf.fm F1540 rfl) gP.1
  have pC1540 : PicCW h1540 := PicCW_un (KCm hC_1540).2 (UnC.rf.fm F1540 rfl) gP.2
  have y1540_0_25 : h1540 0 25 = h 0 25 := g1540 0 25 rfl rfl
  have y1540_33_0 : h1540 33 0 = h 33 0 := g1540 33 0 rfl rfl
  have y1540_33_1 : h1540 33 1 = h 33 1 := g1540 33 1 rfl rfl
  have y1540_33_2 : h1540 33 2 = h 33 2 := g1540 33 2 rfl rfl
  have y1540_0_11 : h1540 0 11 = h 0 11 := g1540 0 11 rfl rfl
  have y1540_0_12 : h1540 0 12 = h 0 12 := g1540 0 12 rfl rfl
  have y1540_0_13 : h1540 0 13 = h 0 13 := g1540 0 13 rfl rfl
  have y1540_30_11 : h1540 30 11 = h 30 11 := g1540 30 11 rfl rfl
  have y1540_0_22 : h1540 0 22 = h 0 22 := g1540 0 22 rfl rfl
  have y1540_36_0 : h1540 36 0 = h 36 0 := g1540 36 0 rfl rfl
  have y1540_36_1 : h1540 36 1 = h 36 1 := g1540 36 1 rfl rfl
  have y1540_36_2 : h1540 36 2 = h 36 2 := g1540 36 2 rfl rfl
  have y1540_0_16 : h1540 0 16 = h 0 16 := g1540 0 16 rfl rfl
  have y1540_0_17 : h1540 0 17 = h 0 17 := g1540 0 17 rfl rfl
  have y1540_0_18 : h1540 0 18 = h 0 18 := g1540 0 18 rfl rfl
  have y1540_0_14 : h1540 0 14 = h 0 14 := g1540 0 14 rfl rfl
  have y1540_0_15 : h1540 0 15 = h 0 15 := g1540 0 15 rfl rfl
  have y1540_0_19 : h1540 0 19 = h 0 19 := g1540 0 19 rfl rfl
  have y1540_0_20 : h1540 0 20 = h 0 20 := g1540 0 20 rfl rfl
  have y1540_30_10 : h1540 30 10 = h 30 10 := g1540 30 10 rfl rfl
  have y1540_30_12 : h1540 30 12 = h 30 12 := g1540 30 12 rfl rfl
  have y1540_41_0 : h1540 41 0 = h 41 0 := g1540 41 0 rfl rfl
  have y1540_41_1 : h1540 41 1 = h 41 1 := g1540 41 1 rfl rfl
  have y1540_45_0 : h1540 45 0 = h 45 0 := g1540 45 0 rfl rfl
  have y1540_45_1 : h1540 45 1 = h 45 1 := g1540 45 1 rfl rfl
  have hT1 := hT; have gA1 := gA; have gB1 := gB; have gC1 := gC; have gD1 := gD; have gR1 := gR; have gV1 := gV; have gE1 := gE; have gS1 := gS; have gP1 := gP; have gF1 := gF
  show zL _ _ _ (.inl r1540 :: []) _
  refine zL_pop (pc' := 1544) dL_1543 rfl rfl ?_
  refine zL_aload_n (pc' := 1545) dL_1544 rfl rfl ?_
  refine zL_aload_n (pc' := 1546) dL_1545 rfl rfl ?_
  refine zL_iload_n (pc' := 1547) dL_1546 rfl rfl ?_
  refine zL_iconst (pc' := 1548) dL_1547 rfl ?_
  refine zL_iadd (pc' := 1549) dL_1548 rfl ?_
  refine zL_sldE (pc' := 1550) (by omega) hm dL_1549 rfl (fun v1549 e1549 q1549 => ?_)
  refine zL_inv (pc' := 1553) hcs kX12_check vX12_check lk_L_171 ⟨Nat.le_of_ble_eq_true rfl, Nat.le_of_ble_eq_true rfl⟩ tb0 vq12 rfl [_] (s_X12_check hS hR hC _ ⟨e1549.1, e1549.2⟩) dL_1550 rfl (Nat.le_of_ble_eq_true rfl) rfl ?_
  have hC_1550 := hC
  rintro r1550 h1550 ⟨f1550, p1550⟩; have F1550 := f1550; obtain ⟨g1550, hS, hR, hC⟩ := f1550
  have pR1550 : PicRW h1550 := PicRW_un (UnR.rf.fm F1550 rfl) pR1540
  have pC1550 : PicCW h1550 := PicCW_un (KCm hC_1550).2 (UnC.rf.fm F1550 rfl) pC1540
  have y1550_31_1 : h1550 31 1 = h1540 31 1 := g1550 31 1 rfl rfl
  have y1550_33_0 : h1550 33 0 = h1540 33 0 := g1550 33 0 rfl rfl
  have y1550_33_1 : h1550 33 1 = h1540 33 1 := g1550 33 1 rfl rfl
  have y1550_33_2 : h1550 33 2 = h1540 33 2 := g1550 33 2 rfl rfl
  have y1550_0_11 : h1550 0 11 = h1540 0 11 := g1550 0 11 rfl rfl
  have y1550_0_12 : h1550 0 12 = h1540 0 12 := g1550 0 12 rfl rfl
  have y1550_0_13 : h1550 0 13 = h1540 0 13 := g1550 0 13 rfl rfl
  have y1550_30_11 : h1550 30 11 = h1540 30 11 := g1550 30 11 rfl rfl
  have y1550_0_22 : h1550 0 22 = h1540 0 22 := g1550 0 22 rfl rfl
  have y1550_36_0 : h1550 36 0 = h1540 36 0 := g1550 36 0 rfl rfl
  have y1550_36_1 : h1550 36 1 = h1540 36 1 := g1550 36 1 rfl rfl
  have y1550_36_2 : h1550 36 2 = h1540 36 2 := g1550 36 2 rfl rfl
  have y1550_0_16 : h1550 0 16 = h1540 0 16 := g1550 0 16 rfl rfl
  have y1550_0_17 : h1550 0 17 = h1540 0 17 := g1550 0 17 rfl rfl
  have y1550_0_18 : h1550 0 18 = h1540 0 18 := g1550 0 18 rfl rfl
  have y1550_0_14 : h1550 0 14 = h1540 0 14 := g1550 0 14 rfl rfl
  have y1550_0_15 : h1550 0 15 = h1540 0 15 := g1550 0 15 rfl rfl
  have y1550_0_19 : h1550 0 19 = h1540 0 19 := g1550 0 19 rfl rfl
  have y1550_0_20 : h1550 0 20 = h1540 0 20 := g1550 0 20 rfl rfl
  have y1550_30_10 : h1550 30 10 = h1540 30 10 := g1550 30 10 rfl rfl
  have y1550_30_12 : h1550 30 12 = h1540 30 12 := g1550 30 12 rfl rfl
  have y1550_41_0 : h1550 41 0 = h1540 41 0 := g1550 41 0 rfl rfl
  have y1550_41_1 : h1550 41 1 = h1540 41 1 := g1550 41 1 rfl rfl
  have y1550_45_0 : h1550 45 0 = h1540 45 0 := g1550 45 0 rfl rfl
  have y1550_45_1 : h1550 45 1 = h1540 45 1 := g1550 45 1 rfl rfl
  have qe1549 : v1549 = v1539 := by rw [q1549, q1539]
  replace hT : TI h1550 := by
    have hT2 := hT1
    unfold TI at hT2 ⊢
    omega
  replace gA : TGA h1550 := TGA_of gA1 (fun j => (g1550 1 j rfl rfl).trans (g1540 1 j rfl rfl)) (fun j => (g1550 34 j rfl rfl).trans (g1540 34 j rfl rfl)) (fun j => (g1550 10 j rfl rfl).trans (g1540 10 j rfl rfl)) (fun j => (g1550 35 j rfl rfl).trans (g1540 35 j rfl rfl)) (fun j => (g1550 6 j rfl rfl).trans (g1540 6 j rfl rfl)) (fun j => (g1550 37 j rfl rfl).trans (g1540 37 j rfl rfl)) (fun j => (g1550 11 j rfl rfl).trans (g1540 11 j rfl rfl)) (fun j => (g1550 38 j rfl rfl).trans (g1540 38 j rfl rfl)) ((y1550_0_11).trans (y1540_0_11)) ((y1550_0_12).trans (y1540_0_12)) ((y1550_0_16).trans (y1540_0_16)) ((y1550_0_17).trans (y1540_0_17)) ((y1550_0_22).trans (y1540_0_22))
  replace gB : TGB h1550 := by
    have hT2 := hT1
    unfold TI at hT2
    have k1 := KRw hR; have k2 := KRh hR
    clear hcs hm hi
    intro j hj
    have d3 := gB1 j; have f1540_12 := g1540 12 j rfl rfl; have f1540_32 := g1540 32 j rfl rfl; have f1550_12 := g1550 12 j rfl rfl; have f1550_32 := g1550 32 j rfl rfl; omega
  replace gC : TGC h1550 := TGC_of gC1  ((y1550_0_15).trans (y1540_0_15)) ((y1550_30_12).trans (y1540_30_12)) ((y1550_0_11).trans (y1540_0_11)) ((y1550_0_12).trans (y1540_0_12)) ((y1550_0_20).trans (y1540_0_20)) ((y1550_30_10).trans (y1540_30_10)) ((y1550_0_16).trans (y1540_0_16)) ((y1550_0_17).trans (y1540_0_17)) ((y1550_0_22).trans (y1540_0_22))
  replace gD : TGD h1550 := TGD_of gD1  ((y1550_41_0).trans (y1540_41_0)) ((y1550_0_14).trans (y1540_0_14)) ((y1550_45_0).trans (y1540_45_0)) ((y1550_0_19).trans (y1540_0_19)) ((y1550_0_22).trans (y1540_0_22))
  replace gR : TGR h1550 := TGR_of gR1 (fun j => (g1550 3 j rfl rfl).trans (g1540 3 j rfl rfl)) (fun j => (g1550 4 j rfl rfl).trans (g1540 4 j rfl rfl)) (fun j => (g1550 5 j rfl rfl).trans (g1540 5 j rfl rfl)) (fun j => (g1550 7 j rfl rfl).trans (g1540 7 j rfl rfl)) (fun j => (g1550 8 j rfl rfl).trans (g1540 8 j rfl rfl)) (fun j => (g1550 9 j rfl rfl).trans (g1540 9 j rfl rfl)) (fun j => (g1550 42 j rfl rfl).trans (g1540 42 j rfl rfl)) (fun j => (g1550 43 j rfl rfl).trans (g1540 43 j rfl rfl)) (fun j => (g1550 44 j rfl rfl).trans (g1540 44 j rfl rfl)) (fun j => (g1550 46 j rfl rfl).trans (g1540 46 j rfl rfl)) (fun j => (g1550 47 j rfl rfl).trans (g1540 47 j rfl rfl)) (fun j => (g1550 48 j rfl rfl).trans (g1540 48 j rfl rfl)) ((y1550_0_14).trans (y1540_0_14)) ((y1550_0_19).trans (y1540_0_19)) ((y1550_0_22).trans (y1540_0_22))
  replace gV : TGV h1550 := TGV_of gV1 (fun j => (g1550 34 j rfl rfl).trans (g1540 34 j rfl rfl)) (fun j => (g1550 37 j rfl rfl).trans (g1540 37 j rfl rfl)) ((y1550_0_22).trans (y1540_0_22))
  replace gE : TGE h1550 := TGE_of gE1 (fun j => (g1550 3 j rfl rfl).trans (g1540 3 j rfl rfl)) (fun j => (g1550 7 j rfl rfl).trans (g1540 7 j rfl rfl)) ((y1550_0_14).trans (y1540_0_14)) ((y1550_0_19).trans (y1540_0_19)) ((y1550_0_22).trans (y1540_0_22))
  replace gS : TGS h1550 := TGS_of gS1 (fun j => (g1550 3 j rfl rfl).trans (g1540 3 j rfl rfl)) (fun j => (g1550 4 j rfl rfl).trans (g1540 4 j rfl rfl)) (fun j => (g1550 5 j rfl rfl).trans (g1540 5 j rfl rfl)) (fun j => (g1550 7 j rfl rfl).trans (g1540 7 j rfl rfl)) (fun j => (g1550 8 j rfl rfl).trans (g1540 8 j rfl rfl)) (fun j => (g1550 9 j rfl rfl).trans (g1540 9 j rfl rfl)) ((y1550_0_14).trans (y1540_0_14)) ((y1550_0_19).trans (y1540_0_19)) ((y1550_0_22).trans (y1540_0_22))
  replace gP : TGP h1550 := by
    have hT2 := hT1
    unfold TI at hT2
    have k1 := KRw hR; have k2 := KRh hR
    clear hcs hm hi
    exact ⟨pR1550, pC1550⟩
  replace gF : TGF h1550 := TGF_of gF1 (fun j => (g1550 3 j rfl rfl).trans (g1540 3 j rfl rfl)) (fun j => (g1550 7 j rfl rfl).trans (g1540 7 j rfl rfl)) ((y1550_41_1).trans (y1540_41_1)) ((y1550_0_14).trans (y1540_0_14)) ((y1550_45_1).trans (y1540_45_1)) ((y1550_0_19).trans (y1540_0_19)) ((y1550_0_22).trans (y1540_0_22))
  show zL _ _ _ (.inl r1550 :: []) _
  refine zL_pop (pc' := 1554) dL_1553 rfl rfl ?_
  refine zL_goto (tgt := 1580) dL_1554 rfl ?_
  exact nx _ hS hR hC hT gA gB gC gD gR gV gE gS gP gF
set_option maxHeartbeats 4000000 in
theorem lc_37 {Γ : Lc} {i : Int} {h : Hp} (hX : XI Γ.1) (hcs : Γ.2.2.2.2.2.1 ≤ room_1.cells ∧ Γ.2.2.2.2.2.2 ≤ room_1.slots) (hm : Γ.2.2.1 < 2147483648) (hi : 0 ≤ i ∧ i + 6 ≤ Γ.2.2.1) (hS : SI h) (hR : KR h) (hC : KC h) (hT : TI h) (gA : TGA h) (gB : TGB h) (gC : TGC h) (gD : TGD h) (gR : TGR h) (gV : TGV h) (gE : TGE h) (gS : TGS h) (gP : TGP h) (gF : TGF h) (nx : ∀ h' : Hp, SI h' → KR h' → KC h' → TI h' → TGA h' → TGB h' → TGC h' → TGD h' → TGR h' → TGV h' → TGE h' → TGS h' → TGP h' → TGF h' → zL Γ 1580 (lsL i) [] h') : zL Γ 1557 (lsL i) [] h := by
  refine zL_aload_n (pc' := 1558) dL_1557 rfl rfl ?_
  refine zL_aload_n (pc' := 1559) dL_1558 rfl rfl ?_
  refine zL_iload_n (pc' := 1560) dL_1559 rfl rfl ?_
  refine zL_iconst (pc' := 1561) dL_1560 rfl ?_
  refine zL_iadd (pc' := 1562) dL_1561 rfl ?_
  refine zL_sldE (pc' := 1563) (by omega) hm dL_1562 rfl (fun v1562 e1562 q1562 => ?_)
  refine zL_inv (pc' := 1566) hcs kX11_count vX11_count lk_L_172 ⟨Nat.le_of_ble_eq_true rfl, Nat.le_of_ble_eq_true rfl⟩ tb30 vq11 rfl [_] (s_X11_count (b := bdB true) (κ := _) hC (Fr.rf (b := bdB true) hS) _ ⟨e1562.1, e1562.2⟩) dL_1563 rfl (Nat.le_of_ble_eq_true rfl) rfl ?_
  rintro r1563 z1563 ⟨hz1563, p1563⟩; subst z1563
  have hT1 := hT; have gA1 := gA; have gB1 := gB; have gC1 := gC; have gD1 := gD; have gR1 := gR; have gV1 := gV; have gE1 := gE; have gS1 := gS; have gP1 := gP; have gF1 := gF
  show zL _ _ _ (.inl r1563 :: []) _
  refine zL_pop (pc' := 1567) dL_1566 rfl rfl ?_
  refine zL_aload_n (pc' := 1568) dL_1567 rfl rfl ?_
  refine zL_aload_n (pc' := 1569) dL_1568 rfl rfl ?_
  refine zL_iload_n (pc' := 1570) dL_1569 rfl rfl ?_
  refine zL_iconst (pc' := 1571) dL_1570 rfl ?_
  refine zL_iadd (pc' := 1572) dL_1571 rfl ?_
  refine zL_sldE (pc' := 1573) (by omega) hm dL_1572 rfl (fun v1572 e1572 q1572 => ?_)
  refine zL_inv (pc' := 1576) hcs kX12_count vX12_count lk_L_175 ⟨Nat.le_of_ble_eq_true rfl, Nat.le_of_ble_eq_true rfl⟩ tb0 vq12 rfl [_] (s_X12_count (b := bdB true) (κ := _) hR (Fr.rf (b := bdB true) hS) _ ⟨e1572.1, e1572.2⟩) dL_1573 rfl (Nat.le_of_ble_eq_true rfl) rfl ?_
  rintro r1573 z1573 ⟨hz1573, p1573⟩; subst z1573
  show zL _ _ _ (.inl r1573 :: []) _
  refine zL_pop (pc' := 1577) dL_1576 rfl rfl ?_
  refine zL_goto (tgt := 1580) dL_1577 rfl ?_
  exact nx _ hS hR hC hT gA gB gC gD gR gV gE gS gP gF
