/-! the law's cases, further -/
set_option maxHeartbeats 4000000 in
theorem lc_36 {Γ : Lc} {i : Int} {h : Hp} (hX : XI Γ.1) (hcs : Γ.2.2.2.2.2.1 ≤ room_1.cells ∧ Γ.2.2.2.2.2.2 ≤ room_1.slots) (hm : Γ.2.2.1 < 2147483648) (hi : 0 ≤ i ∧ i + 6 ≤ Γ.2.2.1) (hS : SI h) (hR : KR h) (hC : KC h) (hT : TI h) (gA : TGA h) (gB : TGB h) (gC : TGC h) (nx : ∀ h' : Hp, SI h' → KR h' → KC h' → TI h' → TGA h' → TGB h' → TGC h' → zL Γ 1580 (lsL i) [] h') : zL Γ 1534 (lsL i) [] h := by
  refine zL_aload_n (pc' := 1535) dL_1534 rfl rfl ?_
  refine zL_aload_n (pc' := 1536) dL_1535 rfl rfl ?_
  refine zL_iload_n (pc' := 1537) dL_1536 rfl rfl ?_
  refine zL_iconst (pc' := 1538) dL_1537 rfl ?_
  refine zL_iadd (pc' := 1539) dL_1538 rfl ?_
  refine zL_sldE (pc' := 1540) (by omega) hm dL_1539 rfl (fun v1539 e1539 q1539 => ?_)
  refine zL_inv (pc' := 1543) hcs kX11_check vX11_check lk_L_168 ⟨Nat.le_of_ble_eq_true rfl, Nat.le_of_ble_eq_true rfl⟩ tb30 vq11 rfl [_] (s_X11_checkE hS hR hC _ ⟨e1539.1, e1539.2⟩) dL_1540 rfl (Nat.le_of_ble_eq_true rfl) rfl ?_
  rintro r1540 h1540 ⟨f1540, p1540⟩; obtain ⟨g1540, hS, hR, hC⟩ := f1540
  obtain ⟨p1540_0, a1540_0⟩ := p1540
  have y1540_0_25 : h1540 0 25 = h 0 25 := g1540 0 25 rfl rfl
  have y1540_33_0 : h1540 33 0 = h 33 0 := g1540 33 0 rfl rfl
  have y1540_33_1 : h1540 33 1 = h 33 1 := g1540 33 1 rfl rfl
  have y1540_33_2 : h1540 33 2 = h 33 2 := g1540 33 2 rfl rfl
  have y1540_0_11 : h1540 0 11 = h 0 11 := g1540 0 11 rfl rfl
  have y1540_0_12 : h1540 0 12 = h 0 12 := g1540 0 12 rfl rfl
  have y1540_0_13 : h1540 0 13 = h 0 13 := g1540 0 13 rfl rfl
  have y1540_30_11 : h1540 30 11 = h 30 11 := g1540 30 11 rfl rfl
  have y1540_0_22 : h1540 0 22 = h 0 22 := g1540 0 22 rfl rfl
  have y1540_36_0 : h1540 36 0 = h 36 0 := g1540 36 0 rfl rfl
  have y1540_36_1 : h1540 36 1 = h 36 1 := g1540 36 1 rfl rfl
  have y1540_36_2 : h1540 36 2 = h 36 2 := g1540 36 2 rfl rfl
  have y1540_0_16 : h1540 0 16 = h 0 16 := g1540 0 16 rfl rfl
  have y1540_0_17 : h1540 0 17 = h 0 17 := g1540 0 17 rfl rfl
  have y1540_0_18 : h1540 0 18 = h 0 18 := g1540 0 18 rfl rfl
  have y1540_0_15 : h1540 0 15 = h 0 15 := g1540 0 15 rfl rfl
  have y1540_0_20 : h1540 0 20 = h 0 20 := g1540 0 20 rfl rfl
  have y1540_30_10 : h1540 30 10 = h 30 10 := g1540 30 10 rfl rfl
  have y1540_30_12 : h1540 30 12 = h 30 12 := g1540 30 12 rfl rfl
  have hT1 := hT; have gA1 := gA; have gB1 := gB; have gC1 := gC
  show zL _ _ _ (.inl r1540 :: []) _
  refine zL_aload_n (pc' := 1544) dL_1543 rfl rfl ?_
  refine zL_aload_n (pc' := 1545) dL_1544 rfl rfl ?_
  refine zL_iload_n (pc' := 1546) dL_1545 rfl rfl ?_
  refine zL_iconst (pc' := 1547) dL_1546 rfl ?_
  refine zL_iadd (pc' := 1548) dL_1547 rfl ?_
  refine zL_sldE (pc' := 1549) (by omega) hm dL_1548 rfl (fun v1548 e1548 q1548 => ?_)
  refine zL_inv (pc' := 1552) hcs kX12_check vX12_check lk_L_171 ⟨Nat.le_of_ble_eq_true rfl, Nat.le_of_ble_eq_true rfl⟩ tb0 vq12 rfl [_] (s_X12_checkE hS hR hC _ ⟨e1548.1, e1548.2⟩) dL_1549 rfl (Nat.le_of_ble_eq_true rfl) rfl ?_
  rintro r1549 h1549 ⟨f1549, p1549⟩; obtain ⟨g1549, hS, hR, hC⟩ := f1549
  obtain ⟨p1549_0, a1549_0⟩ := p1549
  have y1549_31_1 : h1549 31 1 = h1540 31 1 := g1549 31 1 rfl rfl
  have y1549_33_0 : h1549 33 0 = h1540 33 0 := g1549 33 0 rfl rfl
  have y1549_33_1 : h1549 33 1 = h1540 33 1 := g1549 33 1 rfl rfl
  have y1549_33_2 : h1549 33 2 = h1540 33 2 := g1549 33 2 rfl rfl
  have y1549_0_11 : h1549 0 11 = h1540 0 11 := g1549 0 11 rfl rfl
  have y1549_0_12 : h1549 0 12 = h1540 0 12 := g1549 0 12 rfl rfl
  have y1549_0_13 : h1549 0 13 = h1540 0 13 := g1549 0 13 rfl rfl
  have y1549_30_11 : h1549 30 11 = h1540 30 11 := g1549 30 11 rfl rfl
  have y1549_0_22 : h1549 0 22 = h1540 0 22 := g1549 0 22 rfl rfl
  have y1549_36_0 : h1549 36 0 = h1540 36 0 := g1549 36 0 rfl rfl
  have y1549_36_1 : h1549 36 1 = h1540 36 1 := g1549 36 1 rfl rfl
  have y1549_36_2 : h1549 36 2 = h1540 36 2 := g1549 36 2 rfl rfl
  have y1549_0_16 : h1549 0 16 = h1540 0 16 := g1549 0 16 rfl rfl
  have y1549_0_17 : h1549 0 17 = h1540 0 17 := g1549 0 17 rfl rfl
  have y1549_0_18 : h1549 0 18 = h1540 0 18 := g1549 0 18 rfl rfl
  have y1549_0_15 : h1549 0 15 = h1540 0 15 := g1549 0 15 rfl rfl
  have y1549_0_20 : h1549 0 20 = h1540 0 20 := g1549 0 20 rfl rfl
  have y1549_30_10 : h1549 30 10 = h1540 30 10 := g1549 30 10 rfl rfl
  have y1549_30_12 : h1549 30 12 = h1540 30 12 := g1549 30 12 rfl rfl
  have qe1548 : v1548 = v1539 := by rw [q1548, q1539]
  replace hT : TI h1549 := by
    have hT2 := hT1
    unfold TI at hT2 ⊢
    omega
  replace gA : TGA h1549 := TGA_of gA1 (fun j => (g1549 1 j rfl rfl).trans (g1540 1 j rfl rfl)) (fun j => (g1549 34 j rfl rfl).trans (g1540 34 j rfl rfl)) (fun j => (g1549 10 j rfl rfl).trans (g1540 10 j rfl rfl)) (fun j => (g1549 35 j rfl rfl).trans (g1540 35 j rfl rfl)) (fun j => (g1549 6 j rfl rfl).trans (g1540 6 j rfl rfl)) (fun j => (g1549 37 j rfl rfl).trans (g1540 37 j rfl rfl)) (fun j => (g1549 11 j rfl rfl).trans (g1540 11 j rfl rfl)) (fun j => (g1549 38 j rfl rfl).trans (g1540 38 j rfl rfl)) ((y1549_0_11).trans (y1540_0_11)) ((y1549_0_12).trans (y1540_0_12)) ((y1549_0_16).trans (y1540_0_16)) ((y1549_0_17).trans (y1540_0_17)) ((y1549_0_22).trans (y1540_0_22))
  replace gB : TGB h1549 := by
    have hT2 := hT1
    unfold TI at hT2
    have k1 := KRw hR; have k2 := KRh hR
    clear hcs hm hi
    intro j hj
    have d3 := gB1 j; have f1540_12 := g1540 12 j rfl rfl; have f1540_32 := g1540 32 j rfl rfl; have f1549_12 := g1549 12 j rfl rfl; have f1549_32 := g1549 32 j rfl rfl; omega
  replace gC : TGC h1549 := TGC_of gC1  ((y1549_0_15).trans (y1540_0_15)) ((y1549_30_12).trans (y1540_30_12)) ((y1549_0_11).trans (y1540_0_11)) ((y1549_0_12).trans (y1540_0_12)) ((y1549_0_20).trans (y1540_0_20)) ((y1549_30_10).trans (y1540_30_10)) ((y1549_0_16).trans (y1540_0_16)) ((y1549_0_17).trans (y1540_0_17)) ((y1549_0_22).trans (y1540_0_22))
  show zL _ _ _ (.inl r1549 :: .inl r1540 :: []) _
  have qq1548 : v1548 = v1539 := by rw [q1548, q1539]
  have hT0 := hT1
  unfold TI at hT0
  have gzC := gC1
  unfold TGC at gzC
  have rr : r1540 = r1549 := by
    clear hcs hm hi
    rcases p1540_0 with ⟨A1, -, B1⟩ | ⟨A1, -, B1⟩ <;> rcases p1549_0 with ⟨A2, -, B2⟩ | ⟨A2, -, B2⟩
    · by_cases l : r1540 = r1549
      · exact l
      exfalso
      by_cases c : 0 ≤ r1549 ∧ (r1540 = -1 ∨ r1549 < r1540)
      · have u := a1540_0 r1549.toNat A1 (by omega) (by omega)
        have w1 := (gA1.1 r1549.toNat (by omega)).2.2; have w2 := gB1 r1549.toNat (by omega); have w3 := g1540 1 r1549.toNat rfl rfl; have w4 := g1540 12 r1549.toNat rfl rfl
        omega
      · have u := a1549_0 r1540.toNat A2 (by omega) (by omega)
        have w1 := (gA1.1 r1540.toNat (by omega)).2.2; have w2 := gB1 r1540.toNat (by omega); have w3 := g1540 1 r1540.toNat rfl rfl; have w4 := g1540 12 r1540.toNat rfl rfl
        omega
    · omega
    · omega
    · omega
  refine zL_cm_eq (tgt := 1580) dL_1552 rfl rr ?_
  exact nx _ hS hR hC hT gA gB gC
set_option maxHeartbeats 4000000 in
theorem lc_37 {Γ : Lc} {i : Int} {h : Hp} (hX : XI Γ.1) (hcs : Γ.2.2.2.2.2.1 ≤ room_1.cells ∧ Γ.2.2.2.2.2.2 ≤ room_1.slots) (hm : Γ.2.2.1 < 2147483648) (hi : 0 ≤ i ∧ i + 6 ≤ Γ.2.2.1) (hS : SI h) (hR : KR h) (hC : KC h) (hT : TI h) (gA : TGA h) (gB : TGB h) (gC : TGC h) (nx : ∀ h' : Hp, SI h' → KR h' → KC h' → TI h' → TGA h' → TGB h' → TGC h' → zL Γ 1580 (lsL i) [] h') : zL Γ 1557 (lsL i) [] h := by
  refine zL_aload_n (pc' := 1558) dL_1557 rfl rfl ?_
  refine zL_aload_n (pc' := 1559) dL_1558 rfl rfl ?_
  refine zL_iload_n (pc' := 1560) dL_1559 rfl rfl ?_
  refine zL_iconst (pc' := 1561) dL_1560 rfl ?_
  refine zL_iadd (pc' := 1562) dL_1561 rfl ?_
  refine zL_sldE (pc' := 1563) (by omega) hm dL_1562 rfl (fun v1562 e1562 q1562 => ?_)
  refine zL_inv (pc' := 1566) hcs kX11_count vX11_count lk_L_172 ⟨Nat.le_of_ble_eq_true rfl, Nat.le_of_ble_eq_true rfl⟩ tb30 vq11 rfl [_] (s_X11_count (b := true) (κ := _) hC (Fr.rf hS) _ ⟨e1562.1, e1562.2⟩) dL_1563 rfl (Nat.le_of_ble_eq_true rfl) rfl ?_
  rintro r1563 z1563 ⟨hz1563, p1563⟩; subst z1563
  have hT1 := hT; have gA1 := gA; have gB1 := gB; have gC1 := gC
  show zL _ _ _ (.inl r1563 :: []) _
  refine zL_pop (pc' := 1567) dL_1566 rfl rfl ?_
  refine zL_aload_n (pc' := 1568) dL_1567 rfl rfl ?_
  refine zL_aload_n (pc' := 1569) dL_1568 rfl rfl ?_
  refine zL_iload_n (pc' := 1570) dL_1569 rfl rfl ?_
  refine zL_iconst (pc' := 1571) dL_1570 rfl ?_
  refine zL_iadd (pc' := 1572) dL_1571 rfl ?_
  refine zL_sldE (pc' := 1573) (by omega) hm dL_1572 rfl (fun v1572 e1572 q1572 => ?_)
  refine zL_inv (pc' := 1576) hcs kX12_count vX12_count lk_L_175 ⟨Nat.le_of_ble_eq_true rfl, Nat.le_of_ble_eq_true rfl⟩ tb0 vq12 rfl [_] (s_X12_count (b := true) (κ := _) hR (Fr.rf hS) _ ⟨e1572.1, e1572.2⟩) dL_1573 rfl (Nat.le_of_ble_eq_true rfl) rfl ?_
  rintro r1573 z1573 ⟨hz1573, p1573⟩; subst z1573
  show zL _ _ _ (.inl r1573 :: []) _
  refine zL_pop (pc' := 1577) dL_1576 rfl rfl ?_
  refine zL_goto (tgt := 1580) dL_1577 rfl ?_
  exact nx _ hS hR hC hT gA gB gC
