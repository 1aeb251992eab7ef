/-! the law's cases, further -/
set_option maxHeartbeats 4000000 in
theorem lc_8 {Γ : Lc} {i : Int} {h : Hp} (hX : XI Γ.1) (hcs : Γ.2.2.2.2.2.1 ≤ room_1.cells ∧ Γ.2.2.2.2.2.2 ≤ room_1.slots) (hm : Γ.2.2.1 < 2147483648) (hi : 0 ≤ i ∧ i + 6 ≤ Γ.2.2.1) (hS : SI h) (hR : KR h) (hC : KC h) (hT : TI h) (gA : TGA h) (gB : TGB h) (gC : TGC h) (gD : TGD h) (gR : TGR h) (gV : TGV h) (gE : TGE h) (gS : TGS h) (gP : TGP h) (gF : TGF h) (nx : ∀ h' : Hp, SI h' → KR h' → KC h' → TI h' → TGA h' → TGB h' → TGC h' → TGD h' → TGR h' → TGV h' → TGE h' → TGS h' → TGP h' → TGF h' → zL Γ 1580 (lsL i) [] h') : zL Γ 520 (lsL i) [] h := by
  refine zL_aload_n (pc' := 521) dL_520 rfl rfl ?_
  refine zL_aload_n (pc' := 522) dL_521 rfl rfl ?_
  refine zL_iload_n (pc' := 523) dL_522 rfl rfl ?_
  refine zL_iconst (pc' := 524) dL_523 rfl ?_
  refine zL_iadd (pc' := 525) dL_524 rfl ?_
  refine zL_sldE (pc' := 526) (by omega) hm dL_525 rfl (fun v525 e525 q525 => ?_)
  refine zL_inv (pc' := 529) hcs kX11_rawIs vX11_rawIs lk_L_50 ⟨Nat.le_of_ble_eq_true rfl, Nat.le_of_ble_eq_true rfl⟩ tb30 vq11 rfl [_] (s_X11_rawIs (b := bdB true) (κ := _) hC (Fr.rf (b := bdB true) hS) _ ⟨e525.1, e525.2⟩) dL_526 rfl (Nat.le_of_ble_eq_true rfl) rfl ?_
  rintro r526 z526 ⟨hz526, p526⟩; subst z526
  have hT1 := hT; have gA1 := gA; have gB1 := gB; have gC1 := gC; have gD1 := gD; have gR1 := gR; have gV1 := gV; have gE1 := gE; have gS1 := gS; have gP1 := gP; have gF1 := gF
  show zL _ _ _ (.inl r526 :: []) _
  refine zL_pop (pc' := 530) dL_529 rfl rfl ?_
  refine zL_aload_n (pc' := 531) dL_530 rfl rfl ?_
  refine zL_aload_n (pc' := 532) dL_531 rfl rfl ?_
  refine zL_iload_n (pc' := 533) dL_532 rfl rfl ?_
  refine zL_iconst (pc' := 534) dL_533 rfl ?_
  refine zL_iadd (pc' := 535) dL_534 rfl ?_
  refine zL_sldE (pc' := 536) (by omega) hm dL_535 rfl (fun v535 e535 q535 => ?_)
  refine zL_inv (pc' := 539) hcs kX12_rawIs vX12_rawIs lk_L_53 ⟨Nat.le_of_ble_eq_true rfl, Nat.le_of_ble_eq_true rfl⟩ tb0 vq12 rfl [_] (s_X12_rawIs (b := bdB true) (κ := _) hR (Fr.rf (b := bdB true) hS) _ ⟨e535.1, e535.2⟩) dL_536 rfl (Nat.le_of_ble_eq_true rfl) rfl ?_
  rintro r536 z536 ⟨hz536, p536⟩; subst z536
  show zL _ _ _ (.inl r536 :: []) _
  refine zL_pop (pc' := 540) dL_539 rfl rfl ?_
  refine zL_goto (tgt := 1580) dL_540 rfl ?_
  exact nx _ hS hR hC hT gA gB gC gD gR gV gE gS gP gF
set_option maxHeartbeats 4000000 in
theorem lc_9 {Γ : Lc} {i : Int} {h : Hp} (hX : XI Γ.1) (hcs : Γ.2.2.2.2.2.1 ≤ room_1.cells ∧ Γ.2.2.2.2.2.2 ≤ room_1.slots) (hm : Γ.2.2.1 < 2147483648) (hi : 0 ≤ i ∧ i + 6 ≤ Γ.2.2.1) (hS : SI h) (hR : KR h) (hC : KC h) (hT : TI h) (gA : TGA h) (gB : TGB h) (gC : TGC h) (gD : TGD h) (gR : TGR h) (gV : TGV h) (gE : TGE h) (gS : TGS h) (gP : TGP h) (gF : TGF h) (nx : ∀ h' : Hp, SI h' → KR h' → KC h' → TI h' → TGA h' → TGB h' → TGC h' → TGD h' → TGR h' → TGV h' → TGE h' → TGS h' → TGP h' → TGF h' → zL Γ 1580 (lsL i) [] h') : zL Γ 543 (lsL i) [] h := by
  refine zL_aload_n (pc' := 544) dL_543 rfl rfl ?_
  refine zL_aload_n (pc' := 545) dL_544 rfl rfl ?_
  refine zL_iload_n (pc' := 546) dL_545 rfl rfl ?_
  refine zL_iconst (pc' := 547) dL_546 rfl ?_
  refine zL_iadd (pc' := 548) dL_547 rfl ?_
  refine zL_sldE (pc' := 549) (by omega) hm dL_548 rfl (fun v548 e548 q548 => ?_)
  refine zL_aload_n (pc' := 550) dL_549 rfl rfl ?_
  refine zL_iload_n (pc' := 551) dL_550 rfl rfl ?_
  refine zL_iconst (pc' := 552) dL_551 rfl ?_
  refine zL_iadd (pc' := 553) dL_552 rfl ?_
  refine zL_sldE (pc' := 554) (by omega) hm dL_553 rfl (fun v553 e553 q553 => ?_)
  refine zL_inv (pc' := 557) hcs kX11_colour vX11_colour lk_L_54 ⟨Nat.le_of_ble_eq_true rfl, Nat.le_of_ble_eq_true rfl⟩ tb30 vq11 rfl [_, _] (s_X11_colour (b := bdB true) (κ := _) hC (Fr.rf (b := bdB true) hS) _ ⟨e548.1, e548.2⟩ _ ⟨e553.1, e553.2⟩) dL_554 rfl (Nat.le_of_ble_eq_true rfl) rfl ?_
  rintro r554 z554 ⟨hz554, p554⟩; subst z554
  have hT1 := hT; have gA1 := gA; have gB1 := gB; have gC1 := gC; have gD1 := gD; have gR1 := gR; have gV1 := gV; have gE1 := gE; have gS1 := gS; have gP1 := gP; have gF1 := gF
  show zL _ _ _ (.inl r554 :: []) _
  refine zL_pop (pc' := 558) dL_557 rfl rfl ?_
  refine zL_aload_n (pc' := 559) dL_558 rfl rfl ?_
  refine zL_aload_n (pc' := 560) dL_559 rfl rfl ?_
  refine zL_iload_n (pc' := 561) dL_560 rfl rfl ?_
  refine zL_iconst (pc' := 562) dL_561 rfl ?_
  refine zL_iadd (pc' := 563) dL_562 rfl ?_
  refine zL_sldE (pc' := 564) (by omega) hm dL_563 rfl (fun v563 e563 q563 => ?_)
  refine zL_aload_n (pc' := 565) dL_564 rfl rfl ?_
  refine zL_iload_n (pc' := 566) dL_565 rfl rfl ?_
  refine zL_iconst (pc' := 567) dL_566 rfl ?_
  refine zL_iadd (pc' := 568) dL_567 rfl ?_
  refine zL_sldE (pc' := 569) (by omega) hm dL_568 rfl (fun v568 e568 q568 => ?_)
  refine zL_inv (pc' := 572) hcs kX12_colour vX12_colour lk_L_58 ⟨Nat.le_of_ble_eq_true rfl, Nat.le_of_ble_eq_true rfl⟩ tb0 vq12 rfl [_, _] (s_X12_colour (b := bdB true) (κ := _) hR (Fr.rf (b := bdB true) hS) _ ⟨e563.1, e563.2⟩ _ ⟨e568.1, e568.2⟩) dL_569 rfl (Nat.le_of_ble_eq_true rfl) rfl ?_
  rintro r569 z569 ⟨hz569, p569⟩; subst z569
  show zL _ _ _ (.inl r569 :: []) _
  refine zL_pop (pc' := 573) dL_572 rfl rfl ?_
  refine zL_goto (tgt := 1580) dL_573 rfl ?_
  exact nx _ hS hR hC hT gA gB gC gD gR gV gE gS gP gF
set_option maxHeartbeats 4000000 in
theorem lc_10 {Γ : Lc} {i : Int} {h : Hp} (hX : XI Γ.1) (hcs : Γ.2.2.2.2.2.1 ≤ room_1.cells ∧ Γ.2.2.2.2.2.2 ≤ room_1.slots) (hm : Γ.2.2.1 < 2147483648) (hi : 0 ≤ i ∧ i + 6 ≤ Γ.2.2.1) (hS : SI h) (hR : KR h) (hC : KC h) (hT : TI h) (gA : TGA h) (gB : TGB h) (gC : TGC h) (gD : TGD h) (gR : TGR h) (gV : TGV h) (gE : TGE h) (gS : TGS h) (gP : TGP h) (gF : TGF h) (nx : ∀ h' : Hp, SI h' → KR h' → KC h' → TI h' → TGA h' → TGB h' → TGC h' → TGD h' → TGR h' → TGV h' → TGE h' → TGS h' → TGP h' → TGF h' → zL Γ 1580 (lsL i) [] h') : zL Γ 576 (lsL i) [] h := by
  refine zL_aload_n (pc' := 577) dL_576 rfl rfl ?_
  refine zL_aload_n (pc' := 578) dL_577 rfl rfl ?_
  refine zL_iload_n (pc' := 579) dL_578 rfl rfl ?_
  refine zL_iconst (pc' := 580) dL_579 rfl ?_
  refine zL_iadd (pc' := 581) dL_580 rfl ?_
  refine zL_sldE (pc' := 582) (by omega) hm dL_581 rfl (fun v581 e581 q581 => ?_)
  refine zL_aload_n (pc' := 583) dL_582 rfl rfl ?_
  refine zL_iload_n (pc' := 584) dL_583 rfl rfl ?_
  refine zL_iconst (pc' := 585) dL_584 rfl ?_
  refine zL_iadd (pc' := 586) dL_585 rfl ?_
  refine zL_sldE (pc' := 587) (by omega) hm dL_586 rfl (fun v586 e586 q586 => ?_)
  refine zL_inv (pc' := 590) hcs kX11_stage vX11_stage lk_L_59 ⟨Nat.le_of_ble_eq_true rfl, Nat.le_of_ble_eq_true rfl⟩ tb30 vq11 rfl [_, _] (s_X11_stage (b := bdB true) (κ := _) hC (Fr.rf (b := bdB true) hS) _ ⟨e581.1, e581.2⟩ _ ⟨e586.1, e586.2⟩) dL_587 rfl (Nat.le_of_ble_eq_true rfl) rfl ?_
  rintro r587 z587 ⟨hz587, p587⟩; subst z587
  have hT1 := hT; have gA1 := gA; have gB1 := gB; have gC1 := gC; have gD1 := gD; have gR1 := gR; have gV1 := gV; have gE1 := gE; have gS1 := gS; have gP1 := gP; have gF1 := gF
  show zL _ _ _ (.inl r587 :: []) _
  refine zL_pop (pc' := 591) dL_590 rfl rfl ?_
  refine zL_aload_n (pc' := 592) dL_591 rfl rfl ?_
  refine zL_aload_n (pc' := 593) dL_592 rfl rfl ?_
  refine zL_iload_n (pc' := 594) dL_593 rfl rfl ?_
  refine zL_iconst (pc' := 595) dL_594 rfl ?_
  refine zL_iadd (pc' := 596) dL_595 rfl ?_
  refine zL_sldE (pc' := 597) (by omega) hm dL_596 rfl (fun v596 e596 q596 => ?_)
  refine zL_aload_n (pc' := 598) dL_597 rfl rfl ?_
  refine zL_iload_n (pc' := 599) dL_598 rfl rfl ?_
  refine zL_iconst (pc' := 600) dL_599 rfl ?_
  refine zL_iadd (pc' := 601) dL_600 rfl ?_
  refine zL_sldE (pc' := 602) (by omega) hm dL_601 rfl (fun v601 e601 q601 => ?_)
  refine zL_inv (pc' := 605) hcs kX12_stage vX12_stage lk_L_62 ⟨Nat.le_of_ble_eq_true rfl, Nat.le_of_ble_eq_true rfl⟩ tb0 vq12 rfl [_, _] (s_X12_stage (b := bdB true) (κ := _) hR (Fr.rf (b := bdB true) hS) _ ⟨e596.1, e596.2⟩ _ ⟨e601.1, e601.2⟩) dL_602 rfl (Nat.le_of_ble_eq_true rfl) rfl ?_
  rintro r602 z602 ⟨hz602, p602⟩; subst z602
  show zL _ _ _ (.inl r602 :: []) _
  refine zL_pop (pc' := 606) dL_605 rfl rfl ?_
  refine zL_goto (tgt := 1580) dL_606 rfl ?_
  exact nx _ hS hR hC hT gA gB gC gD gR gV gE gS gP gF
set_option maxHeartbeats 4000000 in
theorem lc_11 {Γ : Lc} {i : Int} {h : Hp} (hX : XI Γ.1) (hcs : Γ.2.2.2.2.2.1 ≤ room_1.cells ∧ Γ.2.2.2.2.2.2 ≤ room_1.slots) (hm : Γ.2.2.1 < 2147483648) (hi : 0 ≤ i ∧ i + 6 ≤ Γ.2.2.1) (hS : SI h) (hR : KR h) (hC : KC h) (hT : TI h) (gA : TGA h) (gB : TGB h) (gC : TGC h) (gD : TGD h) (gR : TGR h) (gV : TGV h) (gE : TGE h) (gS : TGS h) (gP : TGP h) (gF : TGF h) (nx : ∀ h' : Hp, SI h' → KR h' → KC h' → TI h' → TGA h' → TGB h' → TGC h' → TGD h' → TGR h' → TGV h' → TGE h' → TGS h' → TGP h' → TGF h' → zL Γ 1580 (lsL i) [] h') : zL Γ 609 (lsL i) [] h := by
  refine zL_aload_n (pc' := 610) dL_609 rfl rfl ?_
  refine zL_aload_n (pc' := 611) dL_610 rfl rfl ?_
  refine zL_iload_n (pc' := 612) dL_611 rfl rfl ?_
  refine zL_iconst (pc' := 613) dL_612 rfl ?_
  refine zL_iadd (pc' := 614) dL_613 rfl ?_
  refine zL_sldE (pc' := 615) (by omega) hm dL_614 rfl (fun v614 e614 q614 => ?_)
  refine zL_aload_n (pc' := 616) dL_615 rfl rfl ?_
  refine zL_iload_n (pc' := 617) dL_616 rfl rfl ?_
  refine zL_iconst (pc' := 618) dL_617 rfl ?_
  refine zL_iadd (pc' := 619) dL_618 rfl ?_
  refine zL_sldE (pc' := 620) (by omega) hm dL_619 rfl (fun v619 e619 q619 => ?_)
  refine zL_aload_n (pc' := 621) dL_620 rfl rfl ?_
  refine zL_iload_n (pc' := 622) dL_621 rfl rfl ?_
  refine zL_iconst (pc' := 623) dL_622 rfl ?_
  refine zL_iadd (pc' := 624) dL_623 rfl ?_
  refine zL_sldE (pc' := 625) (by omega) hm dL_624 rfl (fun v624 e624 q624 => ?_)
  refine zL_aload_n (pc' := 626) dL_625 rfl rfl ?_
  refine zL_iload_n (pc' := 627) dL_626 rfl rfl ?_
  refine zL_iconst (pc' := 628) dL_627 rfl ?_
  refine zL_iadd (pc' := 629) dL_628 rfl ?_
  refine zL_sldE (pc' := 630) (by omega) hm dL_629 rfl (fun v629 e629 q629 => ?_)
  have iP : IPW h := IPW_of hR hC hT gA gV gE gS gD gR gP
  refine zL_inv (pc' := 633) hcs kX11_left vX11_left lk_L_63 ⟨Nat.le_of_ble_eq_true rfl, Nat.le_of_ble_eq_true rfl⟩ tb30 vq11 rfl [_, _, _, _] (s_X11_left (b := bW) (κ := _) hC (Fr.rf (b := bW) hS iP) _ ⟨e614.1, e614.2⟩ _ ⟨e619.1, e619.2⟩ _ ⟨e624.1, e624.2⟩ _ ⟨e629.1, e629.2⟩ shW_.ok) dL_630 rfl (Nat.le_of_ble_eq_true rfl) rfl ?_
  rintro r630 h630 ⟨f630, p630⟩; have g630 : ∀ k i, key k i = true → inW ([] : List (Nat × Nat)) k i = false → h630 k i = h k i := fun k i hk _ => f630.1 k i hk
  replace iP : IPW h630 := f630.inv; replace hS := f630.2.2; replace hR := KR_tr hR f630; replace hC := KC_tr hC f630; have pR630 := iP.1.1; have pC630 := iP.1.2
  have y630_0_25 : h630 0 25 = h 0 25 := g630 0 25 rfl rfl
  have y630_31_1 : h630 31 1 = h 31 1 := g630 31 1 rfl rfl
  have y630_33_0 : h630 33 0 = h 33 0 := g630 33 0 rfl rfl
  have y630_33_1 : h630 33 1 = h 33 1 := g630 33 1 rfl rfl
  have y630_33_2 : h630 33 2 = h 33 2 := g630 33 2 rfl rfl
  have y630_0_11 : h630 0 11 = h 0 11 := g630 0 11 rfl rfl
  have y630_0_12 : h630 0 12 = h 0 12 := g630 0 12 rfl rfl
  have y630_0_13 : h630 0 13 = h 0 13 := g630 0 13 rfl rfl
  have y630_30_11 : h630 30 11 = h 30 11 := g630 30 11 rfl rfl
  have y630_0_22 : h630 0 22 = h 0 22 := g630 0 22 rfl rfl
  have y630_36_0 : h630 36 0 = h 36 0 := g630 36 0 rfl rfl
  have y630_36_1 : h630 36 1 = h 36 1 := g630 36 1 rfl rfl
  have y630_36_2 : h630 36 2 = h 36 2 := g630 36 2 rfl rfl
  have y630_0_16 : h630 0 16 = h 0 16 := g630 0 16 rfl rfl
  have y630_0_17 : h630 0 17 = h 0 17 := g630 0 17 rfl rfl
  have y630_0_18 : h630 0 18 = h 0 18 := g630 0 18 rfl rfl
  have y630_0_14 : h630 0 14 = h 0 14 := g630 0 14 rfl rfl
  have y630_0_15 : h630 0 15 = h 0 15 := g630 0 15 rfl rfl
  have y630_0_19 : h630 0 19 = h 0 19 := g630 0 19 rfl rfl
  have y630_0_20 : h630 0 20 = h 0 20 := g630 0 20 rfl rfl
  have y630_30_10 : h630 30 10 = h 30 10 := g630 30 10 rfl rfl
  have y630_30_12 : h630 30 12 = h 30 12 := g630 30 12 rfl rfl
  have y630_41_0 : h630 41 0 = h 41 0 := g630 41 0 rfl rfl
  have y630_41_1 : h630 41 1 = h 41 1 := g630 41 1 rfl rfl
  have y630_45_0 : h630 45 0 = h 45 0 := g630 45 0 rfl rfl
  have y630_45_1 : h630 45 1 = h 45 1 := g630 45 1 rfl rfl
  have hT1 := hT; have gA1 := gA; have gB1 := gB; have gC1 := gC; have gD1 := gD; have gR1 := gR; have gV1 := gV; have gE1 := gE; have gS1 := gS; have gP1 := gP; have gF1 := gF
  show zL _ _ _ (.inl r630 :: []) _
  refine zL_pop (pc' := 634) dL_633 rfl rfl ?_
  refine zL_aload_n (pc' := 635) dL_634 rfl rfl ?_
  refine zL_aload_n (pc' := 636) dL_635 rfl rfl ?_
  refine zL_iload_n (pc' := 637) dL_636 rfl rfl ?_
  refine zL_iconst (pc' := 638) dL_637 rfl ?_
  refine zL_iadd (pc' := 639) dL_638 rfl ?_
  refine zL_sldE (pc' := 640) (by omega) hm dL_639 rfl (fun v639 e639 q639 => ?_)
  refine zL_aload_n (pc' := 641) dL_640 rfl rfl ?_
  refine zL_iload_n (pc' := 642) dL_641 rfl rfl ?_
  refine zL_iconst (pc' := 643) dL_642 rfl ?_
  refine zL_iadd (pc' := 644) dL_643 rfl ?_
  refine zL_sldE (pc' := 645) (by omega) hm dL_644 rfl (fun v644 e644 q644 => ?_)
  refine zL_aload_n (pc' := 646) dL_645 rfl rfl ?_
  refine zL_iload_n (pc' := 647) dL_646 rfl rfl ?_
  refine zL_iconst (pc' := 648) dL_647 rfl ?_
  refine zL_iadd (pc' := 649) dL_648 rfl ?_
  refine zL_sldE (pc' := 650) (by omega) hm dL_649 rfl (fun v649 e649 q649 => ?_)
  refine zL_aload_n (pc' := 651) dL_650 rfl rfl ?_
  refine zL_iload_n (pc' := 652) dL_651 rfl rfl ?_
  refine zL_iconst (pc' := 653) dL_652 rfl ?_
  refine zL_iadd (pc' := 654) dL_653 rfl ?_
  refine zL_sldE (pc' := 655) (by omega) hm dL_654 rfl (fun v654 e654 q654 => ?_)
  refine zL_inv (pc' := 658) hcs kX12_left vX12_left lk_L_67 ⟨Nat.le_of_ble_eq_true rfl, Nat.le_of_ble_eq_true rfl⟩ tb0 vq12 rfl [_, _, _, _] (s_X12_left (b := bW) (κ := _) hR (Fr.rf (b := bW.fo) hS iP) _ ⟨e639.1, e639.2⟩ _ ⟨e644.1, e644.2⟩ _ ⟨e649.1, e649.2⟩ _ ⟨e654.1, e654.2⟩ lvW.ok) dL_655 rfl (Nat.le_of_ble_eq_true rfl) rfl ?_
  rintro r655 h655 ⟨f655, p655⟩; have g655 : ∀ k i, key k i = true → inW ([] : List (Nat × Nat)) k i = false → h655 k i = h630 k i := fun k i hk _ => f655.1 k i hk
  replace iP : IPW h655 := f655.inv; replace hS := f655.2.2; replace hR := KR_tr hR f655; replace hC := KC_tr hC f655; have pR655 := iP.1.1; have pC655 := iP.1.2
  have y655_0_25 : h655 0 25 = h630 0 25 := g655 0 25 rfl rfl
  have y655_31_1 : h655 31 1 = h630 31 1 := g655 31 1 rfl rfl
  have y655_33_0 : h655 33 0 = h630 33 0 := g655 33 0 rfl rfl
  have y655_33_1 : h655 33 1 = h630 33 1 := g655 33 1 rfl rfl
  have y655_33_2 : h655 33 2 = h630 33 2 := g655 33 2 rfl rfl
  have y655_0_11 : h655 0 11 = h630 0 11 := g655 0 11 rfl rfl
  have y655_0_12 : h655 0 12 = h630 0 12 := g655 0 12 rfl rfl
  have y655_0_13 : h655 0 13 = h630 0 13 := g655 0 13 rfl rfl
  have y655_30_11 : h655 30 11 = h630 30 11 := g655 30 11 rfl rfl
  have y655_0_22 : h655 0 22 = h630 0 22 := g655 0 22 rfl rfl
  have y655_36_0 : h655 36 0 = h630 36 0 := g655 36 0 rfl rfl
  have y655_36_1 : h655 36 1 = h630 36 1 := g655 36 1 rfl rfl
  have y655_36_2 : h655 36 2 = h630 36 2 := g655 36 2 rfl rfl
  have y655_0_16 : h655 0 16 = h630 0 16 := g655 0 16 rfl rfl
  have y655_0_17 : h655 0 17 = h630 0 17 := g655 0 17 rfl rfl
  have y655_0_18 : h655 0 18 = h630 0 18 := g655 0 18 rfl rfl
  have y655_0_14 : h655 0 14 = h630 0 14 := g655 0 14 rfl rfl
  have y655_0_15 : h655 0 15 = h630 0 15 := g655 0 15 rfl rfl
  have y655_0_19 : h655 0 19 = h630 0 19 := g655 0 19 rfl rfl
  have y655_0_20 : h655 0 20 = h630 0 20 := g655 0 20 rfl rfl
  have y655_30_10 : h655 30 10 = h630 30 10 := g655 30 10 rfl rfl
  have y655_30_12 : h655 30 12 = h630 30 12 := g655 30 12 rfl rfl
  have y655_41_0 : h655 41 0 = h630 41 0 := g655 41 0 rfl rfl
  have y655_41_1 : h655 41 1 = h630 41 1 := g655 41 1 rfl rfl
  have y655_45_0 : h655 45 0 = h630 45 0 := g655 45 0 rfl rfl
  have y655_45_1 : h655 45 1 = h630 45 1 := g655 45 1 rfl rfl
  replace hT : TI h655 := TI_of hT1 (y655_0_25.trans y630_0_25) (y655_31_1.trans y630_31_1) (y655_33_0.trans y630_33_0) (y655_33_1.trans y630_33_1) (y655_33_2.trans y630_33_2) (y655_0_11.trans y630_0_11) (y655_0_12.trans y630_0_12) (y655_0_13.trans y630_0_13) (y655_30_11.trans y630_30_11) (y655_0_22.trans y630_0_22) (y655_36_0.trans y630_36_0) (y655_36_1.trans y630_36_1) (y655_36_2.trans y630_36_2) (y655_0_16.trans y630_0_16) (y655_0_17.trans y630_0_17) (y655_0_18.trans y630_0_18)
  replace gA : TGA h655 := TGA_of gA1 (fun j => (g655 1 j rfl rfl).trans (g630 1 j rfl rfl)) (fun j => (g655 34 j rfl rfl).trans (g630 34 j rfl rfl)) (fun j => (g655 10 j rfl rfl).trans (g630 10 j rfl rfl)) (fun j => (g655 35 j rfl rfl).trans (g630 35 j rfl rfl)) (fun j => (g655 6 j rfl rfl).trans (g630 6 j rfl rfl)) (fun j => (g655 37 j rfl rfl).trans (g630 37 j rfl rfl)) (fun j => (g655 11 j rfl rfl).trans (g630 11 j rfl rfl)) (fun j => (g655 38 j rfl rfl).trans (g630 38 j rfl rfl)) ((y655_0_11).trans (y630_0_11)) ((y655_0_12).trans (y630_0_12)) ((y655_0_16).trans (y630_0_16)) ((y655_0_17).trans (y630_0_17)) ((y655_0_22).trans (y630_0_22))
  replace gB : TGB h655 := TGB_of gB1 (fun j => (g655 12 j rfl rfl).trans (g630 12 j rfl rfl)) (fun j => (g655 32 j rfl rfl).trans (g630 32 j rfl rfl)) ((y655_0_25).trans (y630_0_25))
  replace gC : TGC h655 := TGC_of gC1  ((y655_0_15).trans (y630_0_15)) ((y655_30_12).trans (y630_30_12)) ((y655_0_11).trans (y630_0_11)) ((y655_0_12).trans (y630_0_12)) ((y655_0_20).trans (y630_0_20)) ((y655_30_10).trans (y630_30_10)) ((y655_0_16).trans (y630_0_16)) ((y655_0_17).trans (y630_0_17)) ((y655_0_22).trans (y630_0_22))
  replace gD : TGD h655 := TGD_of gD1  ((y655_41_0).trans (y630_41_0)) ((y655_0_14).trans (y630_0_14)) ((y655_45_0).trans (y630_45_0)) ((y655_0_19).trans (y630_0_19)) ((y655_0_22).trans (y630_0_22))
  replace gR : TGR h655 := TGR_of gR1 (fun j => (g655 3 j rfl rfl).trans (g630 3 j rfl rfl)) (fun j => (g655 4 j rfl rfl).trans (g630 4 j rfl rfl)) (fun j => (g655 5 j rfl rfl).trans (g630 5 j rfl rfl)) (fun j => (g655 7 j rfl rfl).trans (g630 7 j rfl rfl)) (fun j => (g655 8 j rfl rfl).trans (g630 8 j rfl rfl)) (fun j => (g655 9 j rfl rfl).trans (g630 9 j rfl rfl)) (fun j => (g655 42 j rfl rfl).trans (g630 42 j rfl rfl)) (fun j => (g655 43 j rfl rfl).trans (g630 43 j rfl rfl)) (fun j => (g655 44 j rfl rfl).trans (g630 44 j rfl rfl)) (fun j => (g655 46 j rfl rfl).trans (g630 46 j rfl rfl)) (fun j => (g655 47 j rfl rfl).trans (g630 47 j rfl rfl)) (fun j => (g655 48 j rfl rfl).trans (g630 48 j rfl rfl)) ((y655_0_14).trans (y630_0_14)) ((y655_0_19).trans (y630_0_19)) ((y655_0_22).trans (y630_0_22))
  replace gV : TGV h655 := TGV_of gV1 (fun j => (g655 34 j rfl rfl).trans (g630 34 j rfl rfl)) (fun j => (g655 37 j rfl rfl).trans (g630 37 j rfl rfl)) ((y655_0_22).trans (y630_0_22))
  replace gE : TGE h655 := TGE_of gE1 (fun j => (g655 3 j rfl rfl).trans (g630 3 j rfl rfl)) (fun j => (g655 7 j rfl rfl).trans (g630 7 j rfl rfl)) ((y655_0_14).trans (y630_0_14)) ((y655_0_19).trans (y630_0_19)) ((y655_0_22).trans (y630_0_22))
  replace gS : TGS h655 := TGS_of gS1 (fun j => (g655 3 j rfl rfl).trans (g630 3 j rfl rfl)) (fun j => (g655 4 j rfl rfl).trans (g630 4 j rfl rfl)) (fun j => (g655 5 j rfl rfl).trans (g630 5 j rfl rfl)) (fun j => (g655 7 j rfl rfl).trans (g630 7 j rfl rfl)) (fun j => (g655 8 j rfl rfl).trans (g630 8 j rfl rfl)) (fun j => (g655 9 j rfl rfl).trans (g630 9 j rfl rfl)) ((y655_0_14).trans (y630_0_14)) ((y655_0_19).trans (y630_0_19)) ((y655_0_22).trans (y630_0_22))
  have qe639 : v639 = v614 := by rw [q639, q614]
  have qe644 : v644 = v619 := by rw [q644, q619]
  have qe649 : v649 = v624 := by rw [q649, q624]
  have qe654 : v654 = v629 := by rw [q654, q629]
  replace gP : TGP h655 := by
    have hT2 := hT1
    unfold TI at hT2
    have k1 := KRw hR; have k2 := KRh hR
    clear hcs hm hi
    exact ⟨pR655, pC655⟩
  replace gF : TGF h655 := TGF_of gF1 (fun j => (g655 3 j rfl rfl).trans (g630 3 j rfl rfl)) (fun j => (g655 7 j rfl rfl).trans (g630 7 j rfl rfl)) ((y655_41_1).trans (y630_41_1)) ((y655_0_14).trans (y630_0_14)) ((y655_45_1).trans (y630_45_1)) ((y655_0_19).trans (y630_0_19)) ((y655_0_22).trans (y630_0_22))
  show zL _ _ _ (.inl r655 :: []) _
  refine zL_pop (pc' := 659) dL_658 rfl rfl ?_
  refine zL_goto (tgt := 1580) dL_659 rfl ?_
  exact nx _ hS hR hC hT gA gB gC gD gR gV gE gS gP gF
set_option maxHeartbeats 4000000 in
theorem lc_12 {Γ : Lc} {i : Int} {h : Hp} (hX : XI Γ.1) (hcs : Γ.2.2.2.2.2.1 ≤ room_1.cells ∧ Γ.2.2.2.2.2.2 ≤ room_1.slots) (hm : Γ.2.2.1 < 2147483648) (hi : 0 ≤ i ∧ i + 6 ≤ Γ.2.2.1) (hS : SI h) (hR : KR h) (hC : KC h) (hT : TI h) (gA : TGA h) (gB : TGB h) (gC : TGC h) (gD : TGD h) (gR : TGR h) (gV : TGV h) (gE : TGE h) (gS : TGS h) (gP : TGP h) (gF : TGF h) (nx : ∀ h' : Hp, SI h' → KR h' → KC h' → TI h' → TGA h' → TGB h' → TGC h' → TGD h' → TGR h' → TGV h' → TGE h' → TGS h' → TGP h' → TGF h' → zL Γ 1580 (lsL i) [] h') : zL Γ 662 (lsL i) [] h := by
  refine zL_aload_n (pc' := 663) dL_662 rfl rfl ?_
  refine zL_aload_n (pc' := 664) dL_663 rfl rfl ?_
  refine zL_iload_n (pc' := 665) dL_664 rfl rfl ?_
  refine zL_iconst (pc' := 666) dL_665 rfl ?_
  refine zL_iadd (pc' := 667) dL_666 rfl ?_
  refine zL_sldE (pc' := 668) (by omega) hm dL_667 rfl (fun v667 e667 q667 => ?_)
  refine zL_aload_n (pc' := 669) dL_668 rfl rfl ?_
  refine zL_iload_n (pc' := 670) dL_669 rfl rfl ?_
  refine zL_iconst (pc' := 671) dL_670 rfl ?_
  refine zL_iadd (pc' := 672) dL_671 rfl ?_
  refine zL_sldE (pc' := 673) (by omega) hm dL_672 rfl (fun v672 e672 q672 => ?_)
  have iP : IPW h := IPW_of hR hC hT gA gV gE gS gD gR gP
  refine zL_inv (pc' := 676) hcs kX11_found vX11_found lk_L_68 ⟨Nat.le_of_ble_eq_true rfl, Nat.le_of_ble_eq_true rfl⟩ tb30 vq11 rfl [_, _] (s_X11_found (b := bW) (κ := _) hC (Fr.rf (b := bW) hS iP) _ ⟨e667.1, e667.2⟩ _ ⟨e672.1, e672.2⟩ shW_.ok) dL_673 rfl (Nat.le_of_ble_eq_true rfl) rfl ?_
  rintro r673 h673 ⟨f673, p673⟩; have g673 : ∀ k i, key k i = true → inW ([] : List (Nat × Nat)) k i = false → h673 k i = h k i := fun k i hk _ => f673.1 k i hk
  replace iP : IPW h673 := f673.inv; replace hS := f673.2.2; replace hR := KR_tr hR f673; replace hC := KC_tr hC f673; have pR673 := iP.1.1; have pC673 := iP.1.2
  have y673_0_25 : h673 0 25 = h 0 25 := g673 0 25 rfl rfl
  have y673_31_1 : h673 31 1 = h 31 1 := g673 31 1 rfl rfl
  have y673_33_0 : h673 33 0 = h 33 0 := g673 33 0 rfl rfl
  have y673_33_1 : h673 33 1 = h 33 1 := g673 33 1 rfl rfl
  have y673_33_2 : h673 33 2 = h 33 2 := g673 33 2 rfl rfl
  have y673_0_11 : h673 0 11 = h 0 11 := g673 0 11 rfl rfl
  have y673_0_12 : h673 0 12 = h 0 12 := g673 0 12 rfl rfl
  have y673_0_13 : h673 0 13 = h 0 13 := g673 0 13 rfl rfl
  have y673_30_11 : h673 30 11 = h 30 11 := g673 30 11 rfl rfl
  have y673_0_22 : h673 0 22 = h 0 22 := g673 0 22 rfl rfl
  have y673_36_0 : h673 36 0 = h 36 0 := g673 36 0 rfl rfl
  have y673_36_1 : h673 36 1 = h 36 1 := g673 36 1 rfl rfl
  have y673_36_2 : h673 36 2 = h 36 2 := g673 36 2 rfl rfl
  have y673_0_16 : h673 0 16 = h 0 16 := g673 0 16 rfl rfl
  have y673_0_17 : h673 0 17 = h 0 17 := g673 0 17 rfl rfl
  have y673_0_18 : h673 0 18 = h 0 18 := g673 0 18 rfl rfl
  have y673_0_14 : h673 0 14 = h 0 14 := g673 0 14 rfl rfl
  have y673_0_15 : h673 0 15 = h 0 15 := g673 0 15 rfl rfl
  have y673_0_19 : h673 0 19 = h 0 19 := g673 0 19 rfl rfl
  have y673_0_20 : h673 0 20 = h 0 20 := g673 0 20 rfl rfl
  have y673_30_10 : h673 30 10 = h 30 10 := g673 30 10 rfl rfl
  have y673_30_12 : h673 30 12 = h 30 12 := g673 30 12 rfl rfl
  have y673_41_0 : h673 41 0 = h 41 0 := g673 41 0 rfl rfl
  have y673_41_1 : h673 41 1 = h 41 1 := g673 41 1 rfl rfl
  have y673_45_0 : h673 45 0 = h 45 0 := g673 45 0 rfl rfl
  have y673_45_1 : h673 45 1 = h 45 1 := g673 45 1 rfl rfl
  have hT1 := hT; have gA1 := gA; have gB1 := gB; have gC1 := gC; have gD1 := gD; have gR1 := gR; have gV1 := gV; have gE1 := gE; have gS1 := gS; have gP1 := gP; have gF1 := gF
  show zL _ _ _ (.inl r673 :: []) _
  refine zL_pop (pc' := 677) dL_676 rfl rfl ?_
  refine zL_aload_n (pc' := 678) dL_677 rfl rfl ?_
  refine zL_aload_n (pc' := 679) dL_678 rfl rfl ?_
  refine zL_iload_n (pc' := 680) dL_679 rfl rfl ?_
  refine zL_iconst (pc' := 681) dL_680 rfl ?_
  refine zL_iadd (pc' := 682) dL_681 rfl ?_
  refine zL_sldE (pc' := 683) (by omega) hm dL_682 rfl (fun v682 e682 q682 => ?_)
  refine zL_aload_n (pc' := 684) dL_683 rfl rfl ?_
  refine zL_iload_n (pc' := 685) dL_684 rfl rfl ?_
  refine zL_iconst (pc' := 686) dL_685 rfl ?_
  refine zL_iadd (pc' := 687) dL_686 rfl ?_
  refine zL_sldE (pc' := 688) (by omega) hm dL_687 rfl (fun v687 e687 q687 => ?_)
  refine zL_inv (pc' := 691) hcs kX12_found vX12_found lk_L_71 ⟨Nat.le_of_ble_eq_true rfl, Nat.le_of_ble_eq_true rfl⟩ tb0 vq12 rfl [_, _] (s_X12_found (b := bW) (κ := _) hR (Fr.rf (b := bW.fo) hS iP) _ ⟨e682.1, e682.2⟩ _ ⟨e687.1, e687.2⟩ lvW.ok) dL_688 rfl (Nat.le_of_ble_eq_true rfl) rfl ?_
  rintro r688 h688 ⟨f688, p688⟩; have g688 : ∀ k i, key k i = true → inW ([] : List (Nat × Nat)) k i = false → h688 k i = h673 k i := fun k i hk _ => f688.1 k i hk
  replace iP : IPW h688 := f688.inv; replace hS := f688.2.2; replace hR := KR_tr hR f688; replace hC := KC_tr hC f688; have pR688 := iP.1.1; have pC688 := iP.1.2
  have y688_0_25 : h688 0 25 = h673 0 25 := g688 0 25 rfl rfl
  have y688_31_1 : h688 31 1 = h673 31 1 := g688 31 1 rfl rfl
  have y688_33_0 : h688 33 0 = h673 33 0 := g688 33 0 rfl rfl
  have y688_33_1 : h688 33 1 = h673 33 1 := g688 33 1 rfl rfl
  have y688_33_2 : h688 33 2 = h673 33 2 := g688 33 2 rfl rfl
  have y688_0_11 : h688 0 11 = h673 0 11 := g688 0 11 rfl rfl
  have y688_0_12 : h688 0 12 = h673 0 12 := g688 0 12 rfl rfl
  have y688_0_13 : h688 0 13 = h673 0 13 := g688 0 13 rfl rfl
  have y688_30_11 : h688 30 11 = h673 30 11 := g688 30 11 rfl rfl
  have y688_0_22 : h688 0 22 = h673 0 22 := g688 0 22 rfl rfl
  have y688_36_0 : h688 36 0 = h673 36 0 := g688 36 0 rfl rfl
  have y688_36_1 : h688 36 1 = h673 36 1 := g688 36 1 rfl rfl
  have y688_36_2 : h688 36 2 = h673 36 2 := g688 36 2 rfl rfl
  have y688_0_16 : h688 0 16 = h673 0 16 := g688 0 16 rfl rfl
  have y688_0_17 : h688 0 17 = h673 0 17 := g688 0 17 rfl rfl
  have y688_0_18 : h688 0 18 = h673 0 18 := g688 0 18 rfl rfl
  have y688_0_14 : h688 0 14 = h673 0 14 := g688 0 14 rfl rfl
  have y688_0_15 : h688 0 15 = h673 0 15 := g688 0 15 rfl rfl
  have y688_0_19 : h688 0 19 = h673 0 19 := g688 0 19 rfl rfl
  have y688_0_20 : h688 0 20 = h673 0 20 := g688 0 20 rfl rfl
  have y688_30_10 : h688 30 10 = h673 30 10 := g688 30 10 rfl rfl
  have y688_30_12 : h688 30 12 = h673 30 12 := g688 30 12 rfl rfl
  have y688_41_0 : h688 41 0 = h673 41 0 := g688 41 0 rfl rfl
  have y688_41_1 : h688 41 1 = h673 41 1 := g688 41 1 rfl rfl
  have y688_45_0 : h688 45 0 = h673 45 0 := g688 45 0 rfl rfl
  have y688_45_1 : h688 45 1 = h673 45 1 := g688 45 1 rfl rfl
  replace hT : TI h688 := TI_of hT1 (y688_0_25.trans y673_0_25) (y688_31_1.trans y673_31_1) (y688_33_0.trans y673_33_0) (y688_33_1.trans y673_33_1) (y688_33_2.trans y673_33_2) (y688_0_11.trans y673_0_11) (y688_0_12.trans y673_0_12) (y688_0_13.trans y673_0_13) (y688_30_11.trans y673_30_11) (y688_0_22.trans y673_0_22) (y688_36_0.trans y673_36_0) (y688_36_1.trans y673_36_1) (y688_36_2.trans y673_36_2) (y688_0_16.trans y673_0_16) (y688_0_17.trans y673_0_17) (y688_0_18.trans y673_0_18)
  replace gA : TGA h688 := TGA_of gA1 (fun j => (g688 1 j rfl rfl).trans (g673 1 j rfl rfl)) (fun j => (g688 34 j rfl rfl).trans (g673 34 j rfl rfl)) (fun j => (g688 10 j rfl rfl).trans (g673 10 j rfl rfl)) (fun j => (g688 35 j rfl rfl).trans (g673 35 j rfl rfl)) (fun j => (g688 6 j rfl rfl).trans (g673 6 j rfl rfl)) (fun j => (g688 37 j rfl rfl).trans (g673 37 j rfl rfl)) (fun j => (g688 11 j rfl rfl).trans (g673 11 j rfl rfl)) (fun j => (g688 38 j rfl rfl).trans (g673 38 j rfl rfl)) ((y688_0_11).trans (y673_0_11)) ((y688_0_12).trans (y673_0_12)) ((y688_0_16).trans (y673_0_16)) ((y688_0_17).trans (y673_0_17)) ((y688_0_22).trans (y673_0_22))
  replace gB : TGB h688 := TGB_of gB1 (fun j => (g688 12 j rfl rfl).trans (g673 12 j rfl rfl)) (fun j => (g688 32 j rfl rfl).trans (g673 32 j rfl rfl)) ((y688_0_25).trans (y673_0_25))
  replace gC : TGC h688 := TGC_of gC1  ((y688_0_15).trans (y673_0_15)) ((y688_30_12).trans (y673_30_12)) ((y688_0_11).trans (y673_0_11)) ((y688_0_12).trans (y673_0_12)) ((y688_0_20).trans (y673_0_20)) ((y688_30_10).trans (y673_30_10)) ((y688_0_16).trans (y673_0_16)) ((y688_0_17).trans (y673_0_17)) ((y688_0_22).trans (y673_0_22))
  replace gD : TGD h688 := TGD_of gD1  ((y688_41_0).trans (y673_41_0)) ((y688_0_14).trans (y673_0_14)) ((y688_45_0).trans (y673_45_0)) ((y688_0_19).trans (y673_0_19)) ((y688_0_22).trans (y673_0_22))
  replace gR : TGR h688 := TGR_of gR1 (fun j => (g688 3 j rfl rfl).trans (g673 3 j rfl rfl)) (fun j => (g688 4 j rfl rfl).trans (g673 4 j rfl rfl)) (fun j => (g688 5 j rfl rfl).trans (g673 5 j rfl rfl)) (fun j => (g688 7 j rfl rfl).trans (g673 7 j rfl rfl)) (fun j => (g688 8 j rfl rfl).trans (g673 8 j rfl rfl)) (fun j => (g688 9 j rfl rfl).trans (g673 9 j rfl rfl)) (fun j => (g688 42 j rfl rfl).trans (g673 42 j rfl rfl)) (fun j => (g688 43 j rfl rfl).trans (g673 43 j rfl rfl)) (fun j => (g688 44 j rfl rfl).trans (g673 44 j rfl rfl)) (fun j => (g688 46 j rfl rfl).trans (g673 46 j rfl rfl)) (fun j => (g688 47 j rfl rfl).trans (g673 47 j rfl rfl)) (fun j => (g688 48 j rfl rfl).trans (g673 48 j rfl rfl)) ((y688_0_14).trans (y673_0_14)) ((y688_0_19).trans (y673_0_19)) ((y688_0_22).trans (y673_0_22))
  replace gV : TGV h688 := TGV_of gV1 (fun j => (g688 34 j rfl rfl).trans (g673 34 j rfl rfl)) (fun j => (g688 37 j rfl rfl).trans (g673 37 j rfl rfl)) ((y688_0_22).trans (y673_0_22))
  replace gE : TGE h688 := TGE_of gE1 (fun j => (g688 3 j rfl rfl).trans (g673 3 j rfl rfl)) (fun j => (g688 7 j rfl rfl).trans (g673 7 j rfl rfl)) ((y688_0_14).trans (y673_0_14)) ((y688_0_19).trans (y673_0_19)) ((y688_0_22).trans (y673_0_22))
  replace gS : TGS h688 := TGS_of gS1 (fun j => (g688 3 j rfl rfl).trans (g673 3 j rfl rfl)) (fun j => (g688 4 j rfl rfl).trans (g673 4 j rfl rfl)) (fun j => (g688 5 j rfl rfl).trans (g673 5 j rfl rfl)) (fun j => (g688 7 j rfl rfl).trans (g673 7 j rfl rfl)) (fun j => (g688 8 j rfl rfl).trans (g673 8 j rfl rfl)) (fun j => (g688 9 j rfl rfl).trans (g673 9 j rfl rfl)) ((y688_0_14).trans (y673_0_14)) ((y688_0_19).trans (y673_0_19)) ((y688_0_22).trans (y673_0_22))
  have qe682 : v682 = v667 := by rw [q682, q667]
  have qe687 : v687 = v672 := by rw [q687, q672]
  replace gP : TGP h688 := by
    have hT2 := hT1
    unfold TI at hT2
    have k1 := KRw hR; have k2 := KRh hR
    clear hcs hm hi
    exact ⟨pR688, pC688⟩
  replace gF : TGF h688 := TGF_of gF1 (fun j => (g688 3 j rfl rfl).trans (g673 3 j rfl rfl)) (fun j => (g688 7 j rfl rfl).trans (g673 7 j rfl rfl)) ((y688_41_1).trans (y673_41_1)) ((y688_0_14).trans (y673_0_14)) ((y688_45_1).trans (y673_45_1)) ((y688_0_19).trans (y673_0_19)) ((y688_0_22).trans (y673_0_22))
  show zL _ _ _ (.inl r688 :: []) _
  refine zL_pop (pc' := 692) dL_691 rfl rfl ?_
  refine zL_goto (tgt := 1580) dL_692 rfl ?_
  exact nx _ hS hR hC hT gA gB gC gD gR gV gE gS gP gF
set_option maxHeartbeats 4000000 in
theorem lc_13 {Γ : Lc} {i : Int} {h : Hp} (hX : XI Γ.1) (hcs : Γ.2.2.2.2.2.1 ≤ room_1.cells ∧ Γ.2.2.2.2.2.2 ≤ room_1.slots) (hm : Γ.2.2.1 < 2147483648) (hi : 0 ≤ i ∧ i + 6 ≤ Γ.2.2.1) (hS : SI h) (hR : KR h) (hC : KC h) (hT : TI h) (gA : TGA h) (gB : TGB h) (gC : TGC h) (gD : TGD h) (gR : TGR h) (gV : TGV h) (gE : TGE h) (gS : TGS h) (gP : TGP h) (gF : TGF h) (nx : ∀ h' : Hp, SI h' → KR h' → KC h' → TI h' → TGA h' → TGB h' → TGC h' → TGD h' → TGR h' → TGV h' → TGE h' → TGS h' → TGP h' → TGF h' → zL Γ 1580 (lsL i) [] h') : zL Γ 695 (lsL i) [] h := by
  refine zL_aload_n (pc' := 696) dL_695 rfl rfl ?_
  refine zL_aload_n (pc' := 697) dL_696 rfl rfl ?_
  refine zL_iload_n (pc' := 698) dL_697 rfl rfl ?_
  refine zL_iconst (pc' := 699) dL_698 rfl ?_
  refine zL_iadd (pc' := 700) dL_699 rfl ?_
  refine zL_sldE (pc' := 701) (by omega) hm dL_700 rfl (fun v700 e700 q700 => ?_)
  refine zL_aload_n (pc' := 702) dL_701 rfl rfl ?_
  refine zL_iload_n (pc' := 703) dL_702 rfl rfl ?_
  refine zL_iconst (pc' := 704) dL_703 rfl ?_
  refine zL_iadd (pc' := 705) dL_704 rfl ?_
  refine zL_sldE (pc' := 706) (by omega) hm dL_705 rfl (fun v705 e705 q705 => ?_)
  have iP : IPW h := IPW_of hR hC hT gA gV gE gS gD gR gP
  refine zL_inv (pc' := 709) hcs kX11_groups vX11_groups lk_L_72 ⟨Nat.le_of_ble_eq_true rfl, Nat.le_of_ble_eq_true rfl⟩ tb30 vq11 rfl [_, _] (s_X11_groups (b := bW) (κ := _) hC (Fr.rf (b := bW) hS iP) _ ⟨e700.1, e700.2⟩ _ ⟨e705.1, e705.2⟩ shW_.ok) dL_706 rfl (Nat.le_of_ble_eq_true rfl) rfl ?_
  rintro r706 h706 ⟨f706, p706⟩; have g706 : ∀ k i, key k i = true → inW ([] : List (Nat × Nat)) k i = false → h706 k i = h k i := fun k i hk _ => f706.1 k i hk
  replace iP : IPW h706 := f706.inv; replace hS := f706.2.2; replace hR := KR_tr hR f706; replace hC := KC_tr hC f706; have pR706 := iP.1.1; have pC706 := iP.1.2
  have y706_0_25 : h706 0 25 = h 0 25 := g706 0 25 rfl rfl
  have y706_31_1 : h706 31 1 = h 31 1 := g706 31 1 rfl rfl
  have y706_33_0 : h706 33 0 = h 33 0 := g706 33 0 rfl rfl
  have y706_33_1 : h706 33 1 = h 33 1 := g706 33 1 rfl rfl
  have y706_33_2 : h706 33 2 = h 33 2 := g706 33 2 rfl rfl
  have y706_0_11 : h706 0 11 = h 0 11 := g706 0 11 rfl rfl
  have y706_0_12 : h706 0 12 = h 0 12 := g706 0 12 rfl rfl
  have y706_0_13 : h706 0 13 = h 0 13 := g706 0 13 rfl rfl
  have y706_30_11 : h706 30 11 = h 30 11 := g706 30 11 rfl rfl
  have y706_0_22 : h706 0 22 = h 0 22 := g706 0 22 rfl rfl
  have y706_36_0 : h706 36 0 = h 36 0 := g706 36 0 rfl rfl
  have y706_36_1 : h706 36 1 = h 36 1 := g706 36 1 rfl rfl
  have y706_36_2 : h706 36 2 = h 36 2 := g706 36 2 rfl rfl
  have y706_0_16 : h706 0 16 = h 0 16 := g706 0 16 rfl rfl
  have y706_0_17 : h706 0 17 = h 0 17 := g706 0 17 rfl rfl
  have y706_0_18 : h706 0 18 = h 0 18 := g706 0 18 rfl rfl
  have y706_0_14 : h706 0 14 = h 0 14 := g706 0 14 rfl rfl
  have y706_0_15 : h706 0 15 = h 0 15 := g706 0 15 rfl rfl
  have y706_0_19 : h706 0 19 = h 0 19 := g706 0 19 rfl rfl
  have y706_0_20 : h706 0 20 = h 0 20 := g706 0 20 rfl rfl
  have y706_30_10 : h706 30 10 = h 30 10 := g706 30 10 rfl rfl
  have y706_30_12 : h706 30 12 = h 30 12 := g706 30 12 rfl rfl
  have y706_41_0 : h706 41 0 = h 41 0 := g706 41 0 rfl rfl
  have y706_41_1 : h706 41 1 = h 41 1 := g706 41 1 rfl rfl
  have y706_45_0 : h706 45 0 = h 45 0 := g706 45 0 rfl rfl
  have y706_45_1 : h706 45 1 = h 45 1 := g706 45 1 rfl rfl
  have hT1 := hT; have gA1 := gA; have gB1 := gB; have gC1 := gC; have gD1 := gD; have gR1 := gR; have gV1 := gV; have gE1 := gE; have gS1 := gS; have gP1 := gP; have gF1 := gF
  show zL _ _ _ (.inl r706 :: []) _
  refine zL_pop (pc' := 710) dL_709 rfl rfl ?_
  refine zL_aload_n (pc' := 711) dL_710 rfl rfl ?_
  refine zL_aload_n (pc' := 712) dL_711 rfl rfl ?_
  refine zL_iload_n (pc' := 713) dL_712 rfl rfl ?_
  refine zL_iconst (pc' := 714) dL_713 rfl ?_
  refine zL_iadd (pc' := 715) dL_714 rfl ?_
  refine zL_sldE (pc' := 716) (by omega) hm dL_715 rfl (fun v715 e715 q715 => ?_)
  refine zL_aload_n (pc' := 717) dL_716 rfl rfl ?_
  refine zL_iload_n (pc' := 718) dL_717 rfl rfl ?_
  refine zL_iconst (pc' := 719) dL_718 rfl ?_
  refine zL_iadd (pc' := 720) dL_719 rfl ?_
  refine zL_sldE (pc' := 721) (by omega) hm dL_720 rfl (fun v720 e720 q720 => ?_)
  refine zL_inv (pc' := 724) hcs kX12_groups vX12_groups lk_L_75 ⟨Nat.le_of_ble_eq_true rfl, Nat.le_of_ble_eq_true rfl⟩ tb0 vq12 rfl [_, _] (s_X12_groups (b := bW) (κ := _) hR (Fr.rf (b := bW.fo) hS iP) _ ⟨e715.1, e715.2⟩ _ ⟨e720.1, e720.2⟩ lvW.ok) dL_721 rfl (Nat.le_of_ble_eq_true rfl) rfl ?_
  rintro r721 h721 ⟨f721, p721⟩; have g721 : ∀ k i, key k i = true → inW ([] : List (Nat × Nat)) k i = false → h721 k i = h706 k i := fun k i hk _ => f721.1 k i hk
  replace iP : IPW h721 := f721.inv; replace hS := f721.2.2; replace hR := KR_tr hR f721; replace hC := KC_tr hC f721; have pR721 := iP.1.1; have pC721 := iP.1.2
  have y721_0_25 : h721 0 25 = h706 0 25 := g721 0 25 rfl rfl
  have y721_31_1 : h721 31 1 = h706 31 1 := g721 31 1 rfl rfl
  have y721_33_0 : h721 33 0 = h706 33 0 := g721 33 0 rfl rfl
  have y721_33_1 : h721 33 1 = h706 33 1 := g721 33 1 rfl rfl
  have y721_33_2 : h721 33 2 = h706 33 2 := g721 33 2 rfl rfl
  have y721_0_11 : h721 0 11 = h706 0 11 := g721 0 11 rfl rfl
  have y721_0_12 : h721 0 12 = h706 0 12 := g721 0 12 rfl rfl
  have y721_0_13 : h721 0 13 = h706 0 13 := g721 0 13 rfl rfl
  have y721_30_11 : h721 30 11 = h706 30 11 := g721 30 11 rfl rfl
  have y721_0_22 : h721 0 22 = h706 0 22 := g721 0 22 rfl rfl
  have y721_36_0 : h721 36 0 = h706 36 0 := g721 36 0 rfl rfl
  have y721_36_1 : h721 36 1 = h706 36 1 := g721 36 1 rfl rfl
  have y721_36_2 : h721 36 2 = h706 36 2 := g721 36 2 rfl rfl
  have y721_0_16 : h721 0 16 = h706 0 16 := g721 0 16 rfl rfl
  have y721_0_17 : h721 0 17 = h706 0 17 := g721 0 17 rfl rfl
  have y721_0_18 : h721 0 18 = h706 0 18 := g721 0 18 rfl rfl
  have y721_0_14 : h721 0 14 = h706 0 14 := g721 0 14 rfl rfl
  have y721_0_15 : h721 0 15 = h706 0 15 := g721 0 15 rfl rfl
  have y721_0_19 : h721 0 19 = h706 0 19 := g721 0 19 rfl rfl
  have y721_0_20 : h721 0 20 = h706 0 20 := g721 0 20 rfl rfl
  have y721_30_10 : h721 30 10 = h706 30 10 := g721 30 10 rfl rfl
  have y721_30_12 : h721 30 12 = h706 30 12 := g721 30 12 rfl rfl
  have y721_41_0 : h721 41 0 = h706 41 0 := g721 41 0 rfl rfl
  have y721_41_1 : h721 41 1 = h706 41 1 := g721 41 1 rfl rfl
  have y721_45_0 : h721 45 0 = h706 45 0 := g721 45 0 rfl rfl
  have y721_45_1 : h721 45 1 = h706 45 1 := g721 45 1 rfl rfl
  replace hT : TI h721 := TI_of hT1 (y721_0_25.trans y706_0_25) (y721_31_1.trans y706_31_1) (y721_33_0.trans y706_33_0) (y721_33_1.trans y706_33_1) (y721_33_2.trans y706_33_2) (y721_0_11.trans y706_0_11) (y721_0_12.trans y706_0_12) (y721_0_13.trans y706_0_13) (y721_30_11.trans y706_30_11) (y721_0_22.trans y706_0_22) (y721_36_0.trans y706_36_0) (y721_36_1.trans y706_36_1) (y721_36_2.trans y706_36_2) (y721_0_16.trans y706_0_16) (y721_0_17.trans y706_0_17) (y721_0_18.trans y706_0_18)
  replace gA : TGA h721 := TGA_of gA1 (fun j => (g721 1 j rfl rfl).trans (g706 1 j rfl rfl)) (fun j => (g721 34 j rfl rfl).trans (g706 34 j rfl rfl)) (fun j => (g721 10 j rfl rfl).trans (g706 10 j rfl rfl)) (fun j => (g721 35 j rfl rfl).trans (g706 35 j rfl rfl)) (fun j => (g721 6 j rfl rfl).trans (g706 6 j rfl rfl)) (fun j => (g721 37 j rfl rfl).trans (g706 37 j rfl rfl)) (fun j => (g721 11 j rfl rfl).trans (g706 11 j rfl rfl)) (fun j => (g721 38 j rfl rfl).trans (g706 38 j rfl rfl)) ((y721_0_11).trans (y706_0_11)) ((y721_0_12).trans (y706_0_12)) ((y721_0_16).trans (y706_0_16)) ((y721_0_17).trans (y706_0_17)) ((y721_0_22).trans (y706_0_22))
  replace gB : TGB h721 := TGB_of gB1 (fun j => (g721 12 j rfl rfl).trans (g706 12 j rfl rfl)) (fun j => (g721 32 j rfl rfl).trans (g706 32 j rfl rfl)) ((y721_0_25).trans (y706_0_25))
  replace gC : TGC h721 := TGC_of gC1  ((y721_0_15).trans (y706_0_15)) ((y721_30_12).trans (y706_30_12)) ((y721_0_11).trans (y706_0_11)) ((y721_0_12).trans (y706_0_12)) ((y721_0_20).trans (y706_0_20)) ((y721_30_10).trans (y706_30_10)) ((y721_0_16).trans (y706_0_16)) ((y721_0_17).trans (y706_0_17)) ((y721_0_22).trans (y706_0_22))
  replace gD : TGD h721 := TGD_of gD1  ((y721_41_0).trans (y706_41_0)) ((y721_0_14).trans (y706_0_14)) ((y721_45_0).trans (y706_45_0)) ((y721_0_19).trans (y706_0_19)) ((y721_0_22).trans (y706_0_22))
  replace gR : TGR h721 := TGR_of gR1 (fun j => (g721 3 j rfl rfl).trans (g706 3 j rfl rfl)) (fun j => (g721 4 j rfl rfl).trans (g706 4 j rfl rfl)) (fun j => (g721 5 j rfl rfl).trans (g706 5 j rfl rfl)) (fun j => (g721 7 j rfl rfl).trans (g706 7 j rfl rfl)) (fun j => (g721 8 j rfl rfl).trans (g706 8 j rfl rfl)) (fun j => (g721 9 j rfl rfl).trans (g706 9 j rfl rfl)) (fun j => (g721 42 j rfl rfl).trans (g706 42 j rfl rfl)) (fun j => (g721 43 j rfl rfl).trans (g706 43 j rfl rfl)) (fun j => (g721 44 j rfl rfl).trans (g706 44 j rfl rfl)) (fun j => (g721 46 j rfl rfl).trans (g706 46 j rfl rfl)) (fun j => (g721 47 j rfl rfl).trans (g706 47 j rfl rfl)) (fun j => (g721 48 j rfl rfl).trans (g706 48 j rfl rfl)) ((y721_0_14).trans (y706_0_14)) ((y721_0_19).trans (y706_0_19)) ((y721_0_22).trans (y706_0_22))
  replace gV : TGV h721 := TGV_of gV1 (fun j => (g721 34 j rfl rfl).trans (g706 34 j rfl rfl)) (fun j => (g721 37 j rfl rfl).trans (g706 37 j rfl rfl)) ((y721_0_22).trans (y706_0_22))
  replace gE : TGE h721 := TGE_of gE1 (fun j => (g721 3 j rfl rfl).trans (g706 3 j rfl rfl)) (fun j => (g721 7 j rfl rfl).trans (g706 7 j rfl rfl)) ((y721_0_14).trans (y706_0_14)) ((y721_0_19).trans (y706_0_19)) ((y721_0_22).trans (y706_0_22))
  replace gS : TGS h721 := TGS_of gS1 (fun j => (g721 3 j rfl rfl).trans (g706 3 j rfl rfl)) (fun j => (g721 4 j rfl rfl).trans (g706 4 j rfl rfl)) (fun j => (g721 5 j rfl rfl).trans (g706 5 j rfl rfl)) (fun j => (g721 7 j rfl rfl).trans (g706 7 j rfl rfl)) (fun j => (g721 8 j rfl rfl).trans (g706 8 j rfl rfl)) (fun j => (g721 9 j rfl rfl).trans (g706 9 j rfl rfl)) ((y721_0_14).trans (y706_0_14)) ((y721_0_19).trans (y706_0_19)) ((y721_0_22).trans (y706_0_22))
  have qe715 : v715 = v700 := by rw [q715, q700]
  have qe720 : v720 = v705 := by rw [q720, q705]
  replace gP : TGP h721 := by
    have hT2 := hT1
    unfold TI at hT2
    have k1 := KRw hR; have k2 := KRh hR
    clear hcs hm hi
    exact ⟨pR721, pC721⟩
  replace gF : TGF h721 := TGF_of gF1 (fun j => (g721 3 j rfl rfl).trans (g706 3 j rfl rfl)) (fun j => (g721 7 j rfl rfl).trans (g706 7 j rfl rfl)) ((y721_41_1).trans (y706_41_1)) ((y721_0_14).trans (y706_0_14)) ((y721_45_1).trans (y706_45_1)) ((y721_0_19).trans (y706_0_19)) ((y721_0_22).trans (y706_0_22))
  show zL _ _ _ (.inl r721 :: []) _
  refine zL_pop (pc' := 725) dL_724 rfl rfl ?_
  refine zL_goto (tgt := 1580) dL_725 rfl ?_
  exact nx _ hS hR hC hT gA gB gC gD gR gV gE gS gP gF
set_option maxHeartbeats 4000000 in
theorem lc_14 {Γ : Lc} {i : Int} {h : Hp} (hX : XI Γ.1) (hcs : Γ.2.2.2.2.2.1 ≤ room_1.cells ∧ Γ.2.2.2.2.2.2 ≤ room_1.slots) (hm : Γ.2.2.1 < 2147483648) (hi : 0 ≤ i ∧ i + 6 ≤ Γ.2.2.1) (hS : SI h) (hR : KR h) (hC : KC h) (hT : TI h) (gA : TGA h) (gB : TGB h) (gC : TGC h) (gD : TGD h) (gR : TGR h) (gV : TGV h) (gE : TGE h) (gS : TGS h) (gP : TGP h) (gF : TGF h) (nx : ∀ h' : Hp, SI h' → KR h' → KC h' → TI h' → TGA h' → TGB h' → TGC h' → TGD h' → TGR h' → TGV h' → TGE h' → TGS h' → TGP h' → TGF h' → zL Γ 1580 (lsL i) [] h') : zL Γ 728 (lsL i) [] h := by
  refine zL_aload_n (pc' := 729) dL_728 rfl rfl ?_
  refine zL_aload_n (pc' := 730) dL_729 rfl rfl ?_
  refine zL_iload_n (pc' := 731) dL_730 rfl rfl ?_
  refine zL_iconst (pc' := 732) dL_731 rfl ?_
  refine zL_iadd (pc' := 733) dL_732 rfl ?_
  refine zL_sldE (pc' := 734) (by omega) hm dL_733 rfl (fun v733 e733 q733 => ?_)
  refine zL_aload_n (pc' := 735) dL_734 rfl rfl ?_
  refine zL_iload_n (pc' := 736) dL_735 rfl rfl ?_
  refine zL_iconst (pc' := 737) dL_736 rfl ?_
  refine zL_iadd (pc' := 738) dL_737 rfl ?_
  refine zL_sldE (pc' := 739) (by omega) hm dL_738 rfl (fun v738 e738 q738 => ?_)
  have iP : IPW h := IPW_of hR hC hT gA gV gE gS gD gR gP
  refine zL_inv (pc' := 742) hcs kX11_dark vX11_dark lk_L_76 ⟨Nat.le_of_ble_eq_true rfl, Nat.le_of_ble_eq_true rfl⟩ tb30 vq11 rfl [_, _] (s_X11_dark (b := bW) (κ := _) hC (Fr.rf (b := bW) hS iP) _ ⟨e733.1, e733.2⟩ _ ⟨e738.1, e738.2⟩ shW_.ok) dL_739 rfl (Nat.le_of_ble_eq_true rfl) rfl ?_
  rintro r739 h739 ⟨f739, p739⟩; have g739 : ∀ k i, key k i = true → inW ([] : List (Nat × Nat)) k i = false → h739 k i = h k i := fun k i hk _ => f739.1 k i hk
  replace iP : IPW h739 := f739.inv; replace hS := f739.2.2; replace hR := KR_tr hR f739; replace hC := KC_tr hC f739; have pR739 := iP.1.1; have pC739 := iP.1.2
  have y739_0_25 : h739 0 25 = h 0 25 := g739 0 25 rfl rfl
  have y739_31_1 : h739 31 1 = h 31 1 := g739 31 1 rfl rfl
  have y739_33_0 : h739 33 0 = h 33 0 := g739 33 0 rfl rfl
  have y739_33_1 : h739 33 1 = h 33 1 := g739 33 1 rfl rfl
  have y739_33_2 : h739 33 2 = h 33 2 := g739 33 2 rfl rfl
  have y739_0_11 : h739 0 11 = h 0 11 := g739 0 11 rfl rfl
  have y739_0_12 : h739 0 12 = h 0 12 := g739 0 12 rfl rfl
  have y739_0_13 : h739 0 13 = h 0 13 := g739 0 13 rfl rfl
  have y739_30_11 : h739 30 11 = h 30 11 := g739 30 11 rfl rfl
  have y739_0_22 : h739 0 22 = h 0 22 := g739 0 22 rfl rfl
  have y739_36_0 : h739 36 0 = h 36 0 := g739 36 0 rfl rfl
  have y739_36_1 : h739 36 1 = h 36 1 := g739 36 1 rfl rfl
  have y739_36_2 : h739 36 2 = h 36 2 := g739 36 2 rfl rfl
  have y739_0_16 : h739 0 16 = h 0 16 := g739 0 16 rfl rfl
  have y739_0_17 : h739 0 17 = h 0 17 := g739 0 17 rfl rfl
  have y739_0_18 : h739 0 18 = h 0 18 := g739 0 18 rfl rfl
  have y739_0_14 : h739 0 14 = h 0 14 := g739 0 14 rfl rfl
  have y739_0_15 : h739 0 15 = h 0 15 := g739 0 15 rfl rfl
  have y739_0_19 : h739 0 19 = h 0 19 := g739 0 19 rfl rfl
  have y739_0_20 : h739 0 20 = h 0 20 := g739 0 20 rfl rfl
  have y739_30_10 : h739 30 10 = h 30 10 := g739 30 10 rfl rfl
  have y739_30_12 : h739 30 12 = h 30 12 := g739 30 12 rfl rfl
  have y739_41_0 : h739 41 0 = h 41 0 := g739 41 0 rfl rfl
  have y739_41_1 : h739 41 1 = h 41 1 := g739 41 1 rfl rfl
  have y739_45_0 : h739 45 0 = h 45 0 := g739 45 0 rfl rfl
  have y739_45_1 : h739 45 1 = h 45 1 := g739 45 1 rfl rfl
  have hT1 := hT; have gA1 := gA; have gB1 := gB; have gC1 := gC; have gD1 := gD; have gR1 := gR; have gV1 := gV; have gE1 := gE; have gS1 := gS; have gP1 := gP; have gF1 := gF
  show zL _ _ _ (.inl r739 :: []) _
  refine zL_pop (pc' := 743) dL_742 rfl rfl ?_
  refine zL_aload_n (pc' := 744) dL_743 rfl rfl ?_
  refine zL_aload_n (pc' := 745) dL_744 rfl rfl ?_
  refine zL_iload_n (pc' := 746) dL_745 rfl rfl ?_
  refine zL_iconst (pc' := 747) dL_746 rfl ?_
  refine zL_iadd (pc' := 748) dL_747 rfl ?_
  refine zL_sldE (pc' := 749) (by omega) hm dL_748 rfl (fun v748 e748 q748 => ?_)
  refine zL_aload_n (pc' := 750) dL_749 rfl rfl ?_
  refine zL_iload_n (pc' := 751) dL_750 rfl rfl ?_
  refine zL_iconst (pc' := 752) dL_751 rfl ?_
  refine zL_iadd (pc' := 753) dL_752 rfl ?_
  refine zL_sldE (pc' := 754) (by omega) hm dL_753 rfl (fun v753 e753 q753 => ?_)
  refine zL_inv (pc' := 757) hcs kX12_dark vX12_dark lk_L_79 ⟨Nat.le_of_ble_eq_true rfl, Nat.le_of_ble_eq_true rfl⟩ tb0 vq12 rfl [_, _] (s_X12_dark (b := bW) (κ := _) hR (Fr.rf (b := bW.fo) hS iP) _ ⟨e748.1, e748.2⟩ _ ⟨e753.1, e753.2⟩ lvW.ok) dL_754 rfl (Nat.le_of_ble_eq_true rfl) rfl ?_
  rintro r754 h754 ⟨f754, p754⟩; have g754 : ∀ k i, key k i = true → inW ([] : List (Nat × Nat)) k i = false → h754 k i = h739 k i := fun k i hk _ => f754.1 k i hk
  replace iP : IPW h754 := f754.inv; replace hS := f754.2.2; replace hR := KR_tr hR f754; replace hC := KC_tr hC f754; have pR754 := iP.1.1; have pC754 := iP.1.2
  have y754_0_25 : h754 0 25 = h739 0 25 := g754 0 25 rfl rfl
  have y754_31_1 : h754 31 1 = h739 31 1 := g754 31 1 rfl rfl
  have y754_33_0 : h754 33 0 = h739 33 0 := g754 33 0 rfl rfl
  have y754_33_1 : h754 33 1 = h739 33 1 := g754 33 1 rfl rfl
  have y754_33_2 : h754 33 2 = h739 33 2 := g754 33 2 rfl rfl
  have y754_0_11 : h754 0 11 = h739 0 11 := g754 0 11 rfl rfl
  have y754_0_12 : h754 0 12 = h739 0 12 := g754 0 12 rfl rfl
  have y754_0_13 : h754 0 13 = h739 0 13 := g754 0 13 rfl rfl
  have y754_30_11 : h754 30 11 = h739 30 11 := g754 30 11 rfl rfl
  have y754_0_22 : h754 0 22 = h739 0 22 := g754 0 22 rfl rfl
  have y754_36_0 : h754 36 0 = h739 36 0 := g754 36 0 rfl rfl
  have y754_36_1 : h754 36 1 = h739 36 1 := g754 36 1 rfl rfl
  have y754_36_2 : h754 36 2 = h739 36 2 := g754 36 2 rfl rfl
  have y754_0_16 : h754 0 16 = h739 0 16 := g754 0 16 rfl rfl
  have y754_0_17 : h754 0 17 = h739 0 17 := g754 0 17 rfl rfl
  have y754_0_18 : h754 0 18 = h739 0 18 := g754 0 18 rfl rfl
  have y754_0_14 : h754 0 14 = h739 0 14 := g754 0 14 rfl rfl
  have y754_0_15 : h754 0 15 = h739 0 15 := g754 0 15 rfl rfl
  have y754_0_19 : h754 0 19 = h739 0 19 := g754 0 19 rfl rfl
  have y754_0_20 : h754 0 20 = h739 0 20 := g754 0 20 rfl rfl
  have y754_30_10 : h754 30 10 = h739 30 10 := g754 30 10 rfl rfl
  have y754_30_12 : h754 30 12 = h739 30 12 := g754 30 12 rfl rfl
  have y754_41_0 : h754 41 0 = h739 41 0 := g754 41 0 rfl rfl
  have y754_41_1 : h754 41 1 = h739 41 1 := g754 41 1 rfl rfl
  have y754_45_0 : h754 45 0 = h739 45 0 := g754 45 0 rfl rfl
  have y754_45_1 : h754 45 1 = h739 45 1 := g754 45 1 rfl rfl
  replace hT : TI h754 := TI_of hT1 (y754_0_25.trans y739_0_25) (y754_31_1.trans y739_31_1) (y754_33_0.trans y739_33_0) (y754_33_1.trans y739_33_1) (y754_33_2.trans y739_33_2) (y754_0_11.trans y739_0_11) (y754_0_12.trans y739_0_12) (y754_0_13.trans y739_0_13) (y754_30_11.trans y739_30_11) (y754_0_22.trans y739_0_22) (y754_36_0.trans y739_36_0) (y754_36_1.trans y739_36_1) (y754_36_2.trans y739_36_2) (y754_0_16.trans y739_0_16) (y754_0_17.trans y739_0_17) (y754_0_18.trans y739_0_18)
  replace gA : TGA h754 := TGA_of gA1 (fun j => (g754 1 j rfl rfl).trans (g739 1 j rfl rfl)) (fun j => (g754 34 j rfl rfl).trans (g739 34 j rfl rfl)) (fun j => (g754 10 j rfl rfl).trans (g739 10 j rfl rfl)) (fun j => (g754 35 j rfl rfl).trans (g739 35 j rfl rfl)) (fun j => (g754 6 j rfl rfl).trans (g739 6 j rfl rfl)) (fun j => (g754 37 j rfl rfl).trans (g739 37 j rfl rfl)) (fun j => (g754 11 j rfl rfl).trans (g739 11 j rfl rfl)) (fun j => (g754 38 j rfl rfl).trans (g739 38 j rfl rfl)) ((y754_0_11).trans (y739_0_11)) ((y754_0_12).trans (y739_0_12)) ((y754_0_16).trans (y739_0_16)) ((y754_0_17).trans (y739_0_17)) ((y754_0_22).trans (y739_0_22))
  replace gB : TGB h754 := TGB_of gB1 (fun j => (g754 12 j rfl rfl).trans (g739 12 j rfl rfl)) (fun j => (g754 32 j rfl rfl).trans (g739 32 j rfl rfl)) ((y754_0_25).trans (y739_0_25))
  replace gC : TGC h754 := TGC_of gC1  ((y754_0_15).trans (y739_0_15)) ((y754_30_12).trans (y739_30_12)) ((y754_0_11).trans (y739_0_11)) ((y754_0_12).trans (y739_0_12)) ((y754_0_20).trans (y739_0_20)) ((y754_30_10).trans (y739_30_10)) ((y754_0_16).trans (y739_0_16)) ((y754_0_17).trans (y739_0_17)) ((y754_0_22).trans (y739_0_22))
  replace gD : TGD h754 := TGD_of gD1  ((y754_41_0).trans (y739_41_0)) ((y754_0_14).trans (y739_0_14)) ((y754_45_0).trans (y739_45_0)) ((y754_0_19).trans (y739_0_19)) ((y754_0_22).trans (y739_0_22))
  replace gR : TGR h754 := TGR_of gR1 (fun j => (g754 3 j rfl rfl).trans (g739 3 j rfl rfl)) (fun j => (g754 4 j rfl rfl).trans (g739 4 j rfl rfl)) (fun j => (g754 5 j rfl rfl).trans (g739 5 j rfl rfl)) (fun j => (g754 7 j rfl rfl).trans (g739 7 j rfl rfl)) (fun j => (g754 8 j rfl rfl).trans (g739 8 j rfl rfl)) (fun j => (g754 9 j rfl rfl).trans (g739 9 j rfl rfl)) (fun j => (g754 42 j rfl rfl).trans (g739 42 j rfl rfl)) (fun j => (g754 43 j rfl rfl).trans (g739 43 j rfl rfl)) (fun j => (g754 44 j rfl rfl).trans (g739 44 j rfl rfl)) (fun j => (g754 46 j rfl rfl).trans (g739 46 j rfl rfl)) (fun j => (g754 47 j rfl rfl).trans (g739 47 j rfl rfl)) (fun j => (g754 48 j rfl rfl).trans (g739 48 j rfl rfl)) ((y754_0_14).trans (y739_0_14)) ((y754_0_19).trans (y739_0_19)) ((y754_0_22).trans (y739_0_22))
  replace gV : TGV h754 := TGV_of gV1 (fun j => (g754 34 j rfl rfl).trans (g739 34 j rfl rfl)) (fun j => (g754 37 j rfl rfl).trans (g739 37 j rfl rfl)) ((y754_0_22).trans (y739_0_22))
  replace gE : TGE h754 := TGE_of gE1 (fun j => (g754 3 j rfl rfl).trans (g739 3 j rfl rfl)) (fun j => (g754 7 j rfl rfl).trans (g739 7 j rfl rfl)) ((y754_0_14).trans (y739_0_14)) ((y754_0_19).trans (y739_0_19)) ((y754_0_22).trans (y739_0_22))
  replace gS : TGS h754 := TGS_of gS1 (fun j => (g754 3 j rfl rfl).trans (g739 3 j rfl rfl)) (fun j => (g754 4 j rfl rfl).trans (g739 4 j rfl rfl)) (fun j => (g754 5 j rfl rfl).trans (g739 5 j rfl rfl)) (fun j => (g754 7 j rfl rfl).trans (g739 7 j rfl rfl)) (fun j => (g754 8 j rfl rfl).trans (g739 8 j rfl rfl)) (fun j => (g754 9 j rfl rfl).trans (g739 9 j rfl rfl)) ((y754_0_14).trans (y739_0_14)) ((y754_0_19).trans (y739_0_19)) ((y754_0_22).trans (y739_0_22))
  have qe748 : v748 = v733 := by rw [q748, q733]
  have qe753 : v753 = v738 := by rw [q753, q738]
  replace gP : TGP h754 := by
    have hT2 := hT1
    unfold TI at hT2
    have k1 := KRw hR; have k2 := KRh hR
    clear hcs hm hi
    exact ⟨pR754, pC754⟩
  replace gF : TGF h754 := TGF_of gF1 (fun j => (g754 3 j rfl rfl).trans (g739 3 j rfl rfl)) (fun j => (g754 7 j rfl rfl).trans (g739 7 j rfl rfl)) ((y754_41_1).trans (y739_41_1)) ((y754_0_14).trans (y739_0_14)) ((y754_45_1).trans (y739_45_1)) ((y754_0_19).trans (y739_0_19)) ((y754_0_22).trans (y739_0_22))
  show zL _ _ _ (.inl r754 :: []) _
  refine zL_pop (pc' := 758) dL_757 rfl rfl ?_
  refine zL_goto (tgt := 1580) dL_758 rfl ?_
  exact nx _ hS hR hC hT gA gB gC gD gR gV gE gS gP gF
set_option maxHeartbeats 4000000 in
theorem lc_15 {Γ : Lc} {i : Int} {h : Hp} (hX : XI Γ.1) (hcs : Γ.2.2.2.2.2.1 ≤ room_1.cells ∧ Γ.2.2.2.2.2.2 ≤ room_1.slots) (hm : Γ.2.2.1 < 2147483648) (hi : 0 ≤ i ∧ i + 6 ≤ Γ.2.2.1) (hS : SI h) (hR : KR h) (hC : KC h) (hT : TI h) (gA : TGA h) (gB : TGB h) (gC : TGC h) (gD : TGD h) (gR : TGR h) (gV : TGV h) (gE : TGE h) (gS : TGS h) (gP : TGP h) (gF : TGF h) (nx : ∀ h' : Hp, SI h' → KR h' → KC h' → TI h' → TGA h' → TGB h' → TGC h' → TGD h' → TGR h' → TGV h' → TGE h' → TGS h' → TGP h' → TGF h' → zL Γ 1580 (lsL i) [] h') : zL Γ 761 (lsL i) [] h := by
  refine zL_aload_n (pc' := 762) dL_761 rfl rfl ?_
  refine zL_aload_n (pc' := 763) dL_762 rfl rfl ?_
  refine zL_iload_n (pc' := 764) dL_763 rfl rfl ?_
  refine zL_iconst (pc' := 765) dL_764 rfl ?_
  refine zL_iadd (pc' := 766) dL_765 rfl ?_
  refine zL_sldE (pc' := 767) (by omega) hm dL_766 rfl (fun v766 e766 q766 => ?_)
  refine zL_aload_n (pc' := 768) dL_767 rfl rfl ?_
  refine zL_iload_n (pc' := 769) dL_768 rfl rfl ?_
  refine zL_iconst (pc' := 770) dL_769 rfl ?_
  refine zL_iadd (pc' := 771) dL_770 rfl ?_
  refine zL_sldE (pc' := 772) (by omega) hm dL_771 rfl (fun v771 e771 q771 => ?_)
  refine zL_aload_n (pc' := 773) dL_772 rfl rfl ?_
  refine zL_iload_n (pc' := 774) dL_773 rfl rfl ?_
  refine zL_iconst (pc' := 775) dL_774 rfl ?_
  refine zL_iadd (pc' := 776) dL_775 rfl ?_
  refine zL_sldE (pc' := 777) (by omega) hm dL_776 rfl (fun v776 e776 q776 => ?_)
  have iP : IPW h := IPW_of hR hC hT gA gV gE gS gD gR gP
  refine zL_inv (pc' := 780) hcs kX11_middle vX11_middle lk_L_80 ⟨Nat.le_of_ble_eq_true rfl, Nat.le_of_ble_eq_true rfl⟩ tb30 vq11 rfl [_, _, _] (s_X11_middle (b := bW) (κ := _) hC (Fr.rf (b := bW) hS iP) _ ⟨e766.1, e766.2⟩ _ ⟨e771.1, e771.2⟩ _ ⟨e776.1, e776.2⟩ shW_.ok) dL_777 rfl (Nat.le_of_ble_eq_true rfl) rfl ?_
  rintro r777 h777 ⟨f777, p777⟩; have g777 : ∀ k i, key k i = true → inW ([] : List (Nat × Nat)) k i = false → h777 k i = h k i := fun k i hk _ => f777.1 k i hk
  replace iP : IPW h777 := f777.inv; replace hS := f777.2.2; replace hR := KR_tr hR f777; replace hC := KC_tr hC f777; have pR777 := iP.1.1; have pC777 := iP.1.2
  have y777_0_25 : h777 0 25 = h 0 25 := g777 0 25 rfl rfl
  have y777_31_1 : h777 31 1 = h 31 1 := g777 31 1 rfl rfl
  have y777_33_0 : h777 33 0 = h 33 0 := g777 33 0 rfl rfl
  have y777_33_1 : h777 33 1 = h 33 1 := g777 33 1 rfl rfl
  have y777_33_2 : h777 33 2 = h 33 2 := g777 33 2 rfl rfl
  have y777_0_11 : h777 0 11 = h 0 11 := g777 0 11 rfl rfl
  have y777_0_12 : h777 0 12 = h 0 12 := g777 0 12 rfl rfl
  have y777_0_13 : h777 0 13 = h 0 13 := g777 0 13 rfl rfl
  have y777_30_11 : h777 30 11 = h 30 11 := g777 30 11 rfl rfl
  have y777_0_22 : h777 0 22 = h 0 22 := g777 0 22 rfl rfl
  have y777_36_0 : h777 36 0 = h 36 0 := g777 36 0 rfl rfl
  have y777_36_1 : h777 36 1 = h 36 1 := g777 36 1 rfl rfl
  have y777_36_2 : h777 36 2 = h 36 2 := g777 36 2 rfl rfl
  have y777_0_16 : h777 0 16 = h 0 16 := g777 0 16 rfl rfl
  have y777_0_17 : h777 0 17 = h 0 17 := g777 0 17 rfl rfl
  have y777_0_18 : h777 0 18 = h 0 18 := g777 0 18 rfl rfl
  have y777_0_14 : h777 0 14 = h 0 14 := g777 0 14 rfl rfl
  have y777_0_15 : h777 0 15 = h 0 15 := g777 0 15 rfl rfl
  have y777_0_19 : h777 0 19 = h 0 19 := g777 0 19 rfl rfl
  have y777_0_20 : h777 0 20 = h 0 20 := g777 0 20 rfl rfl
  have y777_30_10 : h777 30 10 = h 30 10 := g777 30 10 rfl rfl
  have y777_30_12 : h777 30 12 = h 30 12 := g777 30 12 rfl rfl
  have y777_41_0 : h777 41 0 = h 41 0 := g777 41 0 rfl rfl
  have y777_41_1 : h777 41 1 = h 41 1 := g777 41 1 rfl rfl
  have y777_45_0 : h777 45 0 = h 45 0 := g777 45 0 rfl rfl
  have y777_45_1 : h777 45 1 = h 45 1 := g777 45 1 rfl rfl
  have hT1 := hT; have gA1 := gA; have gB1 := gB; have gC1 := gC; have gD1 := gD; have gR1 := gR; have gV1 := gV; have gE1 := gE; have gS1 := gS; have gP1 := gP; have gF1 := gF
  show zL _ _ _ (.inl r777 :: []) _
  refine zL_pop (pc' := 781) dL_780 rfl rfl ?_
  refine zL_aload_n (pc' := 782) dL_781 rfl rfl ?_
  refine zL_aload_n (pc' := 783) dL_782 rfl rfl ?_
  refine zL_iload_n (pc' := 784) dL_783 rfl rfl ?_
  refine zL_iconst (pc' := 785) dL_784 rfl ?_
  refine zL_iadd (pc' := 786) dL_785 rfl ?_
  refine zL_sldE (pc' := 787) (by omega) hm dL_786 rfl (fun v786 e786 q786 => ?_)
  refine zL_aload_n (pc' := 788) dL_787 rfl rfl ?_
  refine zL_iload_n (pc' := 789) dL_788 rfl rfl ?_
  refine zL_iconst (pc' := 790) dL_789 rfl ?_
  refine zL_iadd (pc' := 791) dL_790 rfl ?_
  refine zL_sldE (pc' := 792) (by omega) hm dL_791 rfl (fun v791 e791 q791 => ?_)
  refine zL_aload_n (pc' := 793) dL_792 rfl rfl ?_
  refine zL_iload_n (pc' := 794) dL_793 rfl rfl ?_
  refine zL_iconst (pc' := 795) dL_794 rfl ?_
  refine zL_iadd (pc' := 796) dL_795 rfl ?_
  refine zL_sldE (pc' := 797) (by omega) hm dL_796 rfl (fun v796 e796 q796 => ?_)
  refine zL_inv (pc' := 800) hcs kX12_middle vX12_middle lk_L_84 ⟨Nat.le_of_ble_eq_true rfl, Nat.le_of_ble_eq_true rfl⟩ tb0 vq12 rfl [_, _, _] (s_X12_middle (b := bW) (κ := _) hR (Fr.rf (b := bW.fo) hS iP) _ ⟨e786.1, e786.2⟩ _ ⟨e791.1, e791.2⟩ _ ⟨e796.1, e796.2⟩ lvW.ok) dL_797 rfl (Nat.le_of_ble_eq_true rfl) rfl ?_
  rintro r797 h797 ⟨f797, p797⟩; have g797 : ∀ k i, key k i = true → inW ([] : List (Nat × Nat)) k i = false → h797 k i = h777 k i := fun k i hk _ => f797.1 k i hk
  replace iP : IPW h797 := f797.inv; replace hS := f797.2.2; replace hR := KR_tr hR f797; replace hC := KC_tr hC f797; have pR797 := iP.1.1; have pC797 := iP.1.2
  have y797_0_25 : h797 0 25 = h777 0 25 := g797 0 25 rfl rfl
  have y797_31_1 : h797 31 1 = h777 31 1 := g797 31 1 rfl rfl
  have y797_33_0 : h797 33 0 = h777 33 0 := g797 33 0 rfl rfl
  have y797_33_1 : h797 33 1 = h777 33 1 := g797 33 1 rfl rfl
  have y797_33_2 : h797 33 2 = h777 33 2 := g797 33 2 rfl rfl
  have y797_0_11 : h797 0 11 = h777 0 11 := g797 0 11 rfl rfl
  have y797_0_12 : h797 0 12 = h777 0 12 := g797 0 12 rfl rfl
  have y797_0_13 : h797 0 13 = h777 0 13 := g797 0 13 rfl rfl
  have y797_30_11 : h797 30 11 = h777 30 11 := g797 30 11 rfl rfl
  have y797_0_22 : h797 0 22 = h777 0 22 := g797 0 22 rfl rfl
  have y797_36_0 : h797 36 0 = h777 36 0 := g797 36 0 rfl rfl
  have y797_36_1 : h797 36 1 = h777 36 1 := g797 36 1 rfl rfl
  have y797_36_2 : h797 36 2 = h777 36 2 := g797 36 2 rfl rfl
  have y797_0_16 : h797 0 16 = h777 0 16 := g797 0 16 rfl rfl
  have y797_0_17 : h797 0 17 = h777 0 17 := g797 0 17 rfl rfl
  have y797_0_18 : h797 0 18 = h777 0 18 := g797 0 18 rfl rfl
  have y797_0_14 : h797 0 14 = h777 0 14 := g797 0 14 rfl rfl
  have y797_0_15 : h797 0 15 = h777 0 15 := g797 0 15 rfl rfl
  have y797_0_19 : h797 0 19 = h777 0 19 := g797 0 19 rfl rfl
  have y797_0_20 : h797 0 20 = h777 0 20 := g797 0 20 rfl rfl
  have y797_30_10 : h797 30 10 = h777 30 10 := g797 30 10 rfl rfl
  have y797_30_12 : h797 30 12 = h777 30 12 := g797 30 12 rfl rfl
  have y797_41_0 : h797 41 0 = h777 41 0 := g797 41 0 rfl rfl
  have y797_41_1 : h797 41 1 = h777 41 1 := g797 41 1 rfl rfl
  have y797_45_0 : h797 45 0 = h777 45 0 := g797 45 0 rfl rfl
  have y797_45_1 : h797 45 1 = h777 45 1 := g797 45 1 rfl rfl
  replace hT : TI h797 := TI_of hT1 (y797_0_25.trans y777_0_25) (y797_31_1.trans y777_31_1) (y797_33_0.trans y777_33_0) (y797_33_1.trans y777_33_1) (y797_33_2.trans y777_33_2) (y797_0_11.trans y777_0_11) (y797_0_12.trans y777_0_12) (y797_0_13.trans y777_0_13) (y797_30_11.trans y777_30_11) (y797_0_22.trans y777_0_22) (y797_36_0.trans y777_36_0) (y797_36_1.trans y777_36_1) (y797_36_2.trans y777_36_2) (y797_0_16.trans y777_0_16) (y797_0_17.trans y777_0_17) (y797_0_18.trans y777_0_18)
  replace gA : TGA h797 := TGA_of gA1 (fun j => (g797 1 j rfl rfl).trans (g777 1 j rfl rfl)) (fun j => (g797 34 j rfl rfl).trans (g777 34 j rfl rfl)) (fun j => (g797 10 j rfl rfl).trans (g777 10 j rfl rfl)) (fun j => (g797 35 j rfl rfl).trans (g777 35 j rfl rfl)) (fun j => (g797 6 j rfl rfl).trans (g777 6 j rfl rfl)) (fun j => (g797 37 j rfl rfl).trans (g777 37 j rfl rfl)) (fun j => (g797 11 j rfl rfl).trans (g777 11 j rfl rfl)) (fun j => (g797 38 j rfl rfl).trans (g777 38 j rfl rfl)) ((y797_0_11).trans (y777_0_11)) ((y797_0_12).trans (y777_0_12)) ((y797_0_16).trans (y777_0_16)) ((y797_0_17).trans (y777_0_17)) ((y797_0_22).trans (y777_0_22))
  replace gB : TGB h797 := TGB_of gB1 (fun j => (g797 12 j rfl rfl).trans (g777 12 j rfl rfl)) (fun j => (g797 32 j rfl rfl).trans (g777 32 j rfl rfl)) ((y797_0_25).trans (y777_0_25))
  replace gC : TGC h797 := TGC_of gC1  ((y797_0_15).trans (y777_0_15)) ((y797_30_12).trans (y777_30_12)) ((y797_0_11).trans (y777_0_11)) ((y797_0_12).trans (y777_0_12)) ((y797_0_20).trans (y777_0_20)) ((y797_30_10).trans (y777_30_10)) ((y797_0_16).trans (y777_0_16)) ((y797_0_17).trans (y777_0_17)) ((y797_0_22).trans (y777_0_22))
  replace gD : TGD h797 := TGD_of gD1  ((y797_41_0).trans (y777_41_0)) ((y797_0_14).trans (y777_0_14)) ((y797_45_0).trans (y777_45_0)) ((y797_0_19).trans (y777_0_19)) ((y797_0_22).trans (y777_0_22))
  replace gR : TGR h797 := TGR_of gR1 (fun j => (g797 3 j rfl rfl).trans (g777 3 j rfl rfl)) (fun j => (g797 4 j rfl rfl).trans (g777 4 j rfl rfl)) (fun j => (g797 5 j rfl rfl).trans (g777 5 j rfl rfl)) (fun j => (g797 7 j rfl rfl).trans (g777 7 j rfl rfl)) (fun j => (g797 8 j rfl rfl).trans (g777 8 j rfl rfl)) (fun j => (g797 9 j rfl rfl).trans (g777 9 j rfl rfl)) (fun j => (g797 42 j rfl rfl).trans (g777 42 j rfl rfl)) (fun j => (g797 43 j rfl rfl).trans (g777 43 j rfl rfl)) (fun j => (g797 44 j rfl rfl).trans (g777 44 j rfl rfl)) (fun j => (g797 46 j rfl rfl).trans (g777 46 j rfl rfl)) (fun j => (g797 47 j rfl rfl).trans (g777 47 j rfl rfl)) (fun j => (g797 48 j rfl rfl).trans (g777 48 j rfl rfl)) ((y797_0_14).trans (y777_0_14)) ((y797_0_19).trans (y777_0_19)) ((y797_0_22).trans (y777_0_22))
  replace gV : TGV h797 := TGV_of gV1 (fun j => (g797 34 j rfl rfl).trans (g777 34 j rfl rfl)) (fun j => (g797 37 j rfl rfl).trans (g777 37 j rfl rfl)) ((y797_0_22).trans (y777_0_22))
  replace gE : TGE h797 := TGE_of gE1 (fun j => (g797 3 j rfl rfl).trans (g777 3 j rfl rfl)) (fun j => (g797 7 j rfl rfl).trans (g777 7 j rfl rfl)) ((y797_0_14).trans (y777_0_14)) ((y797_0_19).trans (y777_0_19)) ((y797_0_22).trans (y777_0_22))
  replace gS : TGS h797 := TGS_of gS1 (fun j => (g797 3 j rfl rfl).trans (g777 3 j rfl rfl)) (fun j => (g797 4 j rfl rfl).trans (g777 4 j rfl rfl)) (fun j => (g797 5 j rfl rfl).trans (g777 5 j rfl rfl)) (fun j => (g797 7 j rfl rfl).trans (g777 7 j rfl rfl)) (fun j => (g797 8 j rfl rfl).trans (g777 8 j rfl rfl)) (fun j => (g797 9 j rfl rfl).trans (g777 9 j rfl rfl)) ((y797_0_14).trans (y777_0_14)) ((y797_0_19).trans (y777_0_19)) ((y797_0_22).trans (y777_0_22))
  have qe786 : v786 = v766 := by rw [q786, q766]
  have qe791 : v791 = v771 := by rw [q791, q771]
  have qe796 : v796 = v776 := by rw [q796, q776]
  replace gP : TGP h797 := by
    have hT2 := hT1
    unfold TI at hT2
    have k1 := KRw hR; have k2 := KRh hR
    clear hcs hm hi
    exact ⟨pR797, pC797⟩
  replace gF : TGF h797 := TGF_of gF1 (fun j => (g797 3 j rfl rfl).trans (g777 3 j rfl rfl)) (fun j => (g797 7 j rfl rfl).trans (g777 7 j rfl rfl)) ((y797_41_1).trans (y777_41_1)) ((y797_0_14).trans (y777_0_14)) ((y797_45_1).trans (y777_45_1)) ((y797_0_19).trans (y777_0_19)) ((y797_0_22).trans (y777_0_22))
  show zL _ _ _ (.inl r797 :: []) _
  refine zL_pop (pc' := 801) dL_800 rfl rfl ?_
  refine zL_goto (tgt := 1580) dL_801 rfl ?_
  exact nx _ hS hR hC hT gA gB gC gD gR gV gE gS gP gF
set_option maxHeartbeats 4000000 in
theorem lc_16 {Γ : Lc} {i : Int} {h : Hp} (hX : XI Γ.1) (hcs : Γ.2.2.2.2.2.1 ≤ room_1.cells ∧ Γ.2.2.2.2.2.2 ≤ room_1.slots) (hm : Γ.2.2.1 < 2147483648) (hi : 0 ≤ i ∧ i + 6 ≤ Γ.2.2.1) (hS : SI h) (hR : KR h) (hC : KC h) (hT : TI h) (gA : TGA h) (gB : TGB h) (gC : TGC h) (gD : TGD h) (gR : TGR h) (gV : TGV h) (gE : TGE h) (gS : TGS h) (gP : TGP h) (gF : TGF h) (nx : ∀ h' : Hp, SI h' → KR h' → KC h' → TI h' → TGA h' → TGB h' → TGC h' → TGD h' → TGR h' → TGV h' → TGE h' → TGS h' → TGP h' → TGF h' → zL Γ 1580 (lsL i) [] h') : zL Γ 804 (lsL i) [] h := by
  refine zL_aload_n (pc' := 805) dL_804 rfl rfl ?_
  refine zL_aload_n (pc' := 806) dL_805 rfl rfl ?_
  refine zL_iload_n (pc' := 807) dL_806 rfl rfl ?_
  refine zL_iconst (pc' := 808) dL_807 rfl ?_
  refine zL_iadd (pc' := 809) dL_808 rfl ?_
  refine zL_sldE (pc' := 810) (by omega) hm dL_809 rfl (fun v809 e809 q809 => ?_)
  refine zL_aload_n (pc' := 811) dL_810 rfl rfl ?_
  refine zL_iload_n (pc' := 812) dL_811 rfl rfl ?_
  refine zL_iconst (pc' := 813) dL_812 rfl ?_
  refine zL_iadd (pc' := 814) dL_813 rfl ?_
  refine zL_sldE (pc' := 815) (by omega) hm dL_814 rfl (fun v814 e814 q814 => ?_)
  have iP : IPW h := IPW_of hR hC hT gA gV gE gS gD gR gP
  refine zL_inv (pc' := 818) hcs kX11_way vX11_way lk_L_85 ⟨Nat.le_of_ble_eq_true rfl, Nat.le_of_ble_eq_true rfl⟩ tb30 vq11 rfl [_, _] (s_X11_way (b := bW) (κ := _) hC (Fr.rf (b := bW) hS iP) _ ⟨e809.1, e809.2⟩ _ ⟨e814.1, e814.2⟩ shW_.ok) dL_815 rfl (Nat.le_of_ble_eq_true rfl) rfl ?_
  rintro r815 h815 ⟨f815, p815⟩; have g815 : ∀ k i, key k i = true → inW ([] : List (Nat × Nat)) k i = false → h815 k i = h k i := fun k i hk _ => f815.1 k i hk
  replace iP : IPW h815 := f815.inv; replace hS := f815.2.2; replace hR := KR_tr hR f815; replace hC := KC_tr hC f815; have pR815 := iP.1.1; have pC815 := iP.1.2
  have y815_0_25 : h815 0 25 = h 0 25 := g815 0 25 rfl rfl
  have y815_31_1 : h815 31 1 = h 31 1 := g815 31 1 rfl rfl
  have y815_33_0 : h815 33 0 = h 33 0 := g815 33 0 rfl rfl
  have y815_33_1 : h815 33 1 = h 33 1 := g815 33 1 rfl rfl
  have y815_33_2 : h815 33 2 = h 33 2 := g815 33 2 rfl rfl
  have y815_0_11 : h815 0 11 = h 0 11 := g815 0 11 rfl rfl
  have y815_0_12 : h815 0 12 = h 0 12 := g815 0 12 rfl rfl
  have y815_0_13 : h815 0 13 = h 0 13 := g815 0 13 rfl rfl
  have y815_30_11 : h815 30 11 = h 30 11 := g815 30 11 rfl rfl
  have y815_0_22 : h815 0 22 = h 0 22 := g815 0 22 rfl rfl
  have y815_36_0 : h815 36 0 = h 36 0 := g815 36 0 rfl rfl
  have y815_36_1 : h815 36 1 = h 36 1 := g815 36 1 rfl rfl
  have y815_36_2 : h815 36 2 = h 36 2 := g815 36 2 rfl rfl
  have y815_0_16 : h815 0 16 = h 0 16 := g815 0 16 rfl rfl
  have y815_0_17 : h815 0 17 = h 0 17 := g815 0 17 rfl rfl
  have y815_0_18 : h815 0 18 = h 0 18 := g815 0 18 rfl rfl
  have y815_0_14 : h815 0 14 = h 0 14 := g815 0 14 rfl rfl
  have y815_0_15 : h815 0 15 = h 0 15 := g815 0 15 rfl rfl
  have y815_0_19 : h815 0 19 = h 0 19 := g815 0 19 rfl rfl
  have y815_0_20 : h815 0 20 = h 0 20 := g815 0 20 rfl rfl
  have y815_30_10 : h815 30 10 = h 30 10 := g815 30 10 rfl rfl
  have y815_30_12 : h815 30 12 = h 30 12 := g815 30 12 rfl rfl
  have y815_41_0 : h815 41 0 = h 41 0 := g815 41 0 rfl rfl
  have y815_41_1 : h815 41 1 = h 41 1 := g815 41 1 rfl rfl
  have y815_45_0 : h815 45 0 = h 45 0 := g815 45 0 rfl rfl
  have y815_45_1 : h815 45 1 = h 45 1 := g815 45 1 rfl rfl
  have hT1 := hT; have gA1 := gA; have gB1 := gB; have gC1 := gC; have gD1 := gD; have gR1 := gR; have gV1 := gV; have gE1 := gE; have gS1 := gS; have gP1 := gP; have gF1 := gF
  show zL _ _ _ (.inl r815 :: []) _
  refine zL_pop (pc' := 819) dL_818 rfl rfl ?_
  refine zL_aload_n (pc' := 820) dL_819 rfl rfl ?_
  refine zL_aload_n (pc' := 821) dL_820 rfl rfl ?_
  refine zL_iload_n (pc' := 822) dL_821 rfl rfl ?_
  refine zL_iconst (pc' := 823) dL_822 rfl ?_
  refine zL_iadd (pc' := 824) dL_823 rfl ?_
  refine zL_sldE (pc' := 825) (by omega) hm dL_824 rfl (fun v824 e824 q824 => ?_)
  refine zL_aload_n (pc' := 826) dL_825 rfl rfl ?_
  refine zL_iload_n (pc' := 827) dL_826 rfl rfl ?_
  refine zL_iconst (pc' := 828) dL_827 rfl ?_
  refine zL_iadd (pc' := 829) dL_828 rfl ?_
  refine zL_sldE (pc' := 830) (by omega) hm dL_829 rfl (fun v829 e829 q829 => ?_)
  refine zL_inv (pc' := 833) hcs kX12_way vX12_way lk_L_88 ⟨Nat.le_of_ble_eq_true rfl, Nat.le_of_ble_eq_true rfl⟩ tb0 vq12 rfl [_, _] (s_X12_way (b := bW) (κ := _) hR (Fr.rf (b := bW.fo) hS iP) _ ⟨e824.1, e824.2⟩ _ ⟨e829.1, e829.2⟩ lvW.ok) dL_830 rfl (Nat.le_of_ble_eq_true rfl) rfl ?_
  rintro r830 h830 ⟨f830, p830⟩; have g830 : ∀ k i, key k i = true → inW ([] : List (Nat × Nat)) k i = false → h830 k i = h815 k i := fun k i hk _ => f830.1 k i hk
  replace iP : IPW h830 := f830.inv; replace hS := f830.2.2; replace hR := KR_tr hR f830; replace hC := KC_tr hC f830; have pR830 := iP.1.1; have pC830 := iP.1.2
  have y830_0_25 : h830 0 25 = h815 0 25 := g830 0 25 rfl rfl
  have y830_31_1 : h830 31 1 = h815 31 1 := g830 31 1 rfl rfl
  have y830_33_0 : h830 33 0 = h815 33 0 := g830 33 0 rfl rfl
  have y830_33_1 : h830 33 1 = h815 33 1 := g830 33 1 rfl rfl
  have y830_33_2 : h830 33 2 = h815 33 2 := g830 33 2 rfl rfl
  have y830_0_11 : h830 0 11 = h815 0 11 := g830 0 11 rfl rfl
  have y830_0_12 : h830 0 12 = h815 0 12 := g830 0 12 rfl rfl
  have y830_0_13 : h830 0 13 = h815 0 13 := g830 0 13 rfl rfl
  have y830_30_11 : h830 30 11 = h815 30 11 := g830 30 11 rfl rfl
  have y830_0_22 : h830 0 22 = h815 0 22 := g830 0 22 rfl rfl
  have y830_36_0 : h830 36 0 = h815 36 0 := g830 36 0 rfl rfl
  have y830_36_1 : h830 36 1 = h815 36 1 := g830 36 1 rfl rfl
  have y830_36_2 : h830 36 2 = h815 36 2 := g830 36 2 rfl rfl
  have y830_0_16 : h830 0 16 = h815 0 16 := g830 0 16 rfl rfl
  have y830_0_17 : h830 0 17 = h815 0 17 := g830 0 17 rfl rfl
  have y830_0_18 : h830 0 18 = h815 0 18 := g830 0 18 rfl rfl
  have y830_0_14 : h830 0 14 = h815 0 14 := g830 0 14 rfl rfl
  have y830_0_15 : h830 0 15 = h815 0 15 := g830 0 15 rfl rfl
  have y830_0_19 : h830 0 19 = h815 0 19 := g830 0 19 rfl rfl
  have y830_0_20 : h830 0 20 = h815 0 20 := g830 0 20 rfl rfl
  have y830_30_10 : h830 30 10 = h815 30 10 := g830 30 10 rfl rfl
  have y830_30_12 : h830 30 12 = h815 30 12 := g830 30 12 rfl rfl
  have y830_41_0 : h830 41 0 = h815 41 0 := g830 41 0 rfl rfl
  have y830_41_1 : h830 41 1 = h815 41 1 := g830 41 1 rfl rfl
  have y830_45_0 : h830 45 0 = h815 45 0 := g830 45 0 rfl rfl
  have y830_45_1 : h830 45 1 = h815 45 1 := g830 45 1 rfl rfl
  replace hT : TI h830 := TI_of hT1 (y830_0_25.trans y815_0_25) (y830_31_1.trans y815_31_1) (y830_33_0.trans y815_33_0) (y830_33_1.trans y815_33_1) (y830_33_2.trans y815_33_2) (y830_0_11.trans y815_0_11) (y830_0_12.trans y815_0_12) (y830_0_13.trans y815_0_13) (y830_30_11.trans y815_30_11) (y830_0_22.trans y815_0_22) (y830_36_0.trans y815_36_0) (y830_36_1.trans y815_36_1) (y830_36_2.trans y815_36_2) (y830_0_16.trans y815_0_16) (y830_0_17.trans y815_0_17) (y830_0_18.trans y815_0_18)
  replace gA : TGA h830 := TGA_of gA1 (fun j => (g830 1 j rfl rfl).trans (g815 1 j rfl rfl)) (fun j => (g830 34 j rfl rfl).trans (g815 34 j rfl rfl)) (fun j => (g830 10 j rfl rfl).trans (g815 10 j rfl rfl)) (fun j => (g830 35 j rfl rfl).trans (g815 35 j rfl rfl)) (fun j => (g830 6 j rfl rfl).trans (g815 6 j rfl rfl)) (fun j => (g830 37 j rfl rfl).trans (g815 37 j rfl rfl)) (fun j => (g830 11 j rfl rfl).trans (g815 11 j rfl rfl)) (fun j => (g830 38 j rfl rfl).trans (g815 38 j rfl rfl)) ((y830_0_11).trans (y815_0_11)) ((y830_0_12).trans (y815_0_12)) ((y830_0_16).trans (y815_0_16)) ((y830_0_17).trans (y815_0_17)) ((y830_0_22).trans (y815_0_22))
  replace gB : TGB h830 := TGB_of gB1 (fun j => (g830 12 j rfl rfl).trans (g815 12 j rfl rfl)) (fun j => (g830 32 j rfl rfl).trans (g815 32 j rfl rfl)) ((y830_0_25).trans (y815_0_25))
  replace gC : TGC h830 := TGC_of gC1  ((y830_0_15).trans (y815_0_15)) ((y830_30_12).trans (y815_30_12)) ((y830_0_11).trans (y815_0_11)) ((y830_0_12).trans (y815_0_12)) ((y830_0_20).trans (y815_0_20)) ((y830_30_10).trans (y815_30_10)) ((y830_0_16).trans (y815_0_16)) ((y830_0_17).trans (y815_0_17)) ((y830_0_22).trans (y815_0_22))
  replace gD : TGD h830 := TGD_of gD1  ((y830_41_0).trans (y815_41_0)) ((y830_0_14).trans (y815_0_14)) ((y830_45_0).trans (y815_45_0)) ((y830_0_19).trans (y815_0_19)) ((y830_0_22).trans (y815_0_22))
  replace gR : TGR h830 := TGR_of gR1 (fun j => (g830 3 j rfl rfl).trans (g815 3 j rfl rfl)) (fun j => (g830 4 j rfl rfl).trans (g815 4 j rfl rfl)) (fun j => (g830 5 j rfl rfl).trans (g815 5 j rfl rfl)) (fun j => (g830 7 j rfl rfl).trans (g815 7 j rfl rfl)) (fun j => (g830 8 j rfl rfl).trans (g815 8 j rfl rfl)) (fun j => (g830 9 j rfl rfl).trans (g815 9 j rfl rfl)) (fun j => (g830 42 j rfl rfl).trans (g815 42 j rfl rfl)) (fun j => (g830 43 j rfl rfl).trans (g815 43 j rfl rfl)) (fun j => (g830 44 j rfl rfl).trans (g815 44 j rfl rfl)) (fun j => (g830 46 j rfl rfl).trans (g815 46 j rfl rfl)) (fun j => (g830 47 j rfl rfl).trans (g815 47 j rfl rfl)) (fun j => (g830 48 j rfl rfl).trans (g815 48 j rfl rfl)) ((y830_0_14).trans (y815_0_14)) ((y830_0_19).trans (y815_0_19)) ((y830_0_22).trans (y815_0_22))
  replace gV : TGV h830 := TGV_of gV1 (fun j => (g830 34 j rfl rfl).trans (g815 34 j rfl rfl)) (fun j => (g830 37 j rfl rfl).trans (g815 37 j rfl rfl)) ((y830_0_22).trans (y815_0_22))
  replace gE : TGE h830 := TGE_of gE1 (fun j => (g830 3 j rfl rfl).trans (g815 3 j rfl rfl)) (fun j => (g830 7 j rfl rfl).trans (g815 7 j rfl rfl)) ((y830_0_14).trans (y815_0_14)) ((y830_0_19).trans (y815_0_19)) ((y830_0_22).trans (y815_0_22))
  replace gS : TGS h830 := TGS_of gS1 (fun j => (g830 3 j rfl rfl).trans (g815 3 j rfl rfl)) (fun j => (g830 4 j rfl rfl).trans (g815 4 j rfl rfl)) (fun j => (g830 5 j rfl rfl).trans (g815 5 j rfl rfl)) (fun j => (g830 7 j rfl rfl).trans (g815 7 j rfl rfl)) (fun j => (g830 8 j rfl rfl).trans (g815 8 j rfl rfl)) (fun j => (g830 9 j rfl rfl).trans (g815 9 j rfl rfl)) ((y830_0_14).trans (y815_0_14)) ((y830_0_19).trans (y815_0_19)) ((y830_0_22).trans (y815_0_22))
  have qe824 : v824 = v809 := by rw [q824, q809]
  have qe829 : v829 = v814 := by rw [q829, q814]
  replace gP : TGP h830 := by
    have hT2 := hT1
    unfold TI at hT2
    have k1 := KRw hR; have k2 := KRh hR
    clear hcs hm hi
    exact ⟨pR830, pC830⟩
  replace gF : TGF h830 := TGF_of gF1 (fun j => (g830 3 j rfl rfl).trans (g815 3 j rfl rfl)) (fun j => (g830 7 j rfl rfl).trans (g815 7 j rfl rfl)) ((y830_41_1).trans (y815_41_1)) ((y830_0_14).trans (y815_0_14)) ((y830_45_1).trans (y815_45_1)) ((y830_0_19).trans (y815_0_19)) ((y830_0_22).trans (y815_0_22))
  show zL _ _ _ (.inl r830 :: []) _
  refine zL_pop (pc' := 834) dL_833 rfl rfl ?_
  refine zL_goto (tgt := 1580) dL_834 rfl ?_
  exact nx _ hS hR hC hT gA gB gC gD gR gV gE gS gP gF
