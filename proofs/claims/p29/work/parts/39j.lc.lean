/-! the law's cases, further -/
set_option maxHeartbeats 4000000 in
theorem lc_34 {Γ : Lc} {i : Int} {h : Hp} (hX : XI Γ.1) (hcs : Γ.2.2.2.2.2.1 ≤ room_1.cells ∧ Γ.2.2.2.2.2.2 ≤ room_1.slots) (hm : Γ.2.2.1 < 2147483648) (hi : 0 ≤ i ∧ i + 6 ≤ Γ.2.2.1) (hS : SI h) (hR : KR h) (hC : KC h) (hT : TI h) (gA : TGA h) (gB : TGB h) (gC : TGC h) (gD : TGD h) (gR : TGR h) (gV : TGV h) (gE : TGE h) (gS : TGS h) (gP : TGP h) (gF : TGF h) (gT : TGT h) (nx : ∀ h' : Hp, SI h' → KR h' → KC h' → TI h' → TGA h' → TGB h' → TGC h' → TGD h' → TGR h' → TGV h' → TGE h' → TGS h' → TGP h' → TGF h' → TGT h' → zL Γ 1581 (lsL i) [] h') : zL Γ 1509 (lsL i) [] h := by
  refine zL_aload_n (pc' := 1510) dL_1509 rfl rfl ?_
  refine zL_inv (pc' := 1513) hcs kX11_keep vX11_keep lk_L_158 ⟨Nat.le_of_ble_eq_true rfl, Nat.le_of_ble_eq_true rfl⟩ tb30 vq11 rfl [] (s_X11_keepW hS hR hC) dL_1510 rfl (Nat.le_of_ble_eq_true rfl) rfl ?_
  have hC_1510 := hC
  rintro r1510 h1510 ⟨f1510, p1510⟩; have F1510 := f1510; obtain ⟨g1510, hS, hR, hC⟩ := f1510
  have pR1510 : PicRW h1510 := PicRW_un (UnR.rf.fm F1510 rfl) gP.1
  have pC1510 : PicCW h1510 := PicCW_un (KCm hC_1510).2 (UnC.rf.fm F1510 rfl) gP.2
  obtain ⟨p1510_0, a1510_0, a1510_1, a1510_2⟩ := p1510
  have y1510_0_25 : h1510 0 25 = h 0 25 := g1510 0 25 rfl rfl
  have y1510_31_1 : h1510 31 1 = h 31 1 := g1510 31 1 rfl rfl
  have y1510_33_0 : h1510 33 0 = h 33 0 := g1510 33 0 rfl rfl
  have y1510_33_1 : h1510 33 1 = h 33 1 := g1510 33 1 rfl rfl
  have y1510_33_2 : h1510 33 2 = h 33 2 := g1510 33 2 rfl rfl
  have y1510_0_11 : h1510 0 11 = h 0 11 := g1510 0 11 rfl rfl
  have y1510_0_12 : h1510 0 12 = h 0 12 := g1510 0 12 rfl rfl
  have y1510_0_13 : h1510 0 13 = h 0 13 := g1510 0 13 rfl rfl
  have y1510_0_22 : h1510 0 22 = h 0 22 := g1510 0 22 rfl rfl
  have y1510_0_16 : h1510 0 16 = h 0 16 := g1510 0 16 rfl rfl
  have y1510_0_17 : h1510 0 17 = h 0 17 := g1510 0 17 rfl rfl
  have y1510_0_18 : h1510 0 18 = h 0 18 := g1510 0 18 rfl rfl
  have y1510_0_14 : h1510 0 14 = h 0 14 := g1510 0 14 rfl rfl
  have y1510_0_15 : h1510 0 15 = h 0 15 := g1510 0 15 rfl rfl
  have y1510_0_19 : h1510 0 19 = h 0 19 := g1510 0 19 rfl rfl
  have y1510_0_20 : h1510 0 20 = h 0 20 := g1510 0 20 rfl rfl
  have y1510_0_21 : h1510 0 21 = h 0 21 := g1510 0 21 rfl rfl
  have y1510_30_12 : h1510 30 12 = h 30 12 := g1510 30 12 rfl rfl
  have y1510_39_1 : h1510 39 1 = h 39 1 := g1510 39 1 rfl rfl
  have y1510_41_0 : h1510 41 0 = h 41 0 := g1510 41 0 rfl rfl
  have y1510_41_1 : h1510 41 1 = h 41 1 := g1510 41 1 rfl rfl
  have hT1 := hT; have gA1 := gA; have gB1 := gB; have gC1 := gC; have gD1 := gD; have gR1 := gR; have gV1 := gV; have gE1 := gE; have gS1 := gS; have gP1 := gP; have gF1 := gF; have gT1 := gT
  show zL _ _ _ (.inl r1510 :: []) _
  refine zL_pop (pc' := 1514) dL_1513 rfl rfl ?_
  refine zL_aload_n (pc' := 1515) dL_1514 rfl rfl ?_
  refine zL_inv (pc' := 1518) hcs kX12_keep vX12_keep lk_L_162 ⟨Nat.le_of_ble_eq_true rfl, Nat.le_of_ble_eq_true rfl⟩ tb0 vq12 rfl [] (s_X12_keepW hS hR hC) dL_1515 rfl (Nat.le_of_ble_eq_true rfl) rfl ?_
  have hC_1515 := hC
  rintro r1515 h1515 ⟨f1515, p1515⟩; have F1515 := f1515; obtain ⟨g1515, hS, hR, hC⟩ := f1515
  obtain ⟨p1515_0, a1515_0, pD1515, q1515_7, q1515_8, q1515_9⟩ := p1515
  have pR1515 : PicRW h1515 := PicRW_un (UnR.rf.fm F1515 rfl) pR1510
  have pC1515 : PicCW h1515 := PicCW_un (KCm hC_1515).2 (UnC.rf.fm F1515 rfl) pC1510
  have y1515_0_25 : h1515 0 25 = h1510 0 25 := g1515 0 25 rfl rfl
  have y1515_31_1 : h1515 31 1 = h1510 31 1 := g1515 31 1 rfl rfl
  have y1515_33_0 : h1515 33 0 = h1510 33 0 := g1515 33 0 rfl rfl
  have y1515_33_1 : h1515 33 1 = h1510 33 1 := g1515 33 1 rfl rfl
  have y1515_33_2 : h1515 33 2 = h1510 33 2 := g1515 33 2 rfl rfl
  have y1515_0_11 : h1515 0 11 = h1510 0 11 := g1515 0 11 rfl rfl
  have y1515_0_12 : h1515 0 12 = h1510 0 12 := g1515 0 12 rfl rfl
  have y1515_0_13 : h1515 0 13 = h1510 0 13 := g1515 0 13 rfl rfl
  have y1515_30_11 : h1515 30 11 = h1510 30 11 := g1515 30 11 rfl rfl
  have y1515_36_0 : h1515 36 0 = h1510 36 0 := g1515 36 0 rfl rfl
  have y1515_36_1 : h1515 36 1 = h1510 36 1 := g1515 36 1 rfl rfl
  have y1515_36_2 : h1515 36 2 = h1510 36 2 := g1515 36 2 rfl rfl
  have y1515_0_14 : h1515 0 14 = h1510 0 14 := g1515 0 14 rfl rfl
  have y1515_0_15 : h1515 0 15 = h1510 0 15 := g1515 0 15 rfl rfl
  have y1515_0_21 : h1515 0 21 = h1510 0 21 := g1515 0 21 rfl rfl
  have y1515_30_10 : h1515 30 10 = h1510 30 10 := g1515 30 10 rfl rfl
  have y1515_30_12 : h1515 30 12 = h1510 30 12 := g1515 30 12 rfl rfl
  have y1515_39_1 : h1515 39 1 = h1510 39 1 := g1515 39 1 rfl rfl
  have y1515_41_0 : h1515 41 0 = h1510 41 0 := g1515 41 0 rfl rfl
  have y1515_41_1 : h1515 41 1 = h1510 41 1 := g1515 41 1 rfl rfl
  have y1515_45_0 : h1515 45 0 = h1510 45 0 := g1515 45 0 rfl rfl
  have y1515_45_1 : h1515 45 1 = h1510 45 1 := g1515 45 1 rfl rfl
  replace hT : TI h1515 := by
    have hT2 := hT1
    unfold TI at hT2 ⊢
    omega
  replace gA : TGA h1515 := by
    have hT2 := hT1
    unfold TI at hT2
    have k1 := KRw hR; have k2 := KRh hR
    clear hcs hm hi
    refine ⟨fun j hj => ?_, fun q j hj => ?_⟩
    · have d1 := gA1.1 j hj; have f1510_1 := g1510 1 j rfl rfl; have f1510_34 := g1510 34 j rfl rfl; have f1510_10 := g1510 10 j rfl rfl; have f1510_35 := g1510 35 j rfl rfl; have fa1510_0 := a1510_0 j; have f1515_1 := g1515 1 j rfl rfl; have f1515_34 := g1515 34 j rfl rfl; have f1515_10 := g1515 10 j rfl rfl; have f1515_35 := g1515 35 j rfl rfl; have fa1515_0 := a1515_0 j; omega
    · have d2 : h 0 22 ≠ 0 → _ := fun z => gA1.2 z j hj; have d1 := gA1.1 j hj; have f1510_6 := g1510 6 j rfl rfl; have f1510_11 := g1510 11 j rfl rfl; have f1510_1 := g1510 1 j rfl rfl; have f1510_34 := g1510 34 j rfl rfl; have f1510_10 := g1510 10 j rfl rfl; have f1510_35 := g1510 35 j rfl rfl; have fa1510_0 := a1510_0 j; have f1515_37 := g1515 37 j rfl rfl; have f1515_38 := g1515 38 j rfl rfl; have f1515_1 := g1515 1 j rfl rfl; have f1515_34 := g1515 34 j rfl rfl; have f1515_10 := g1515 10 j rfl rfl; have f1515_35 := g1515 35 j rfl rfl; have fa1515_0 := a1515_0 j; omega
  replace gB : TGB h1515 := TGB_of gB1 (fun j => (g1515 12 j rfl rfl).trans (g1510 12 j rfl rfl)) (fun j => (g1515 32 j rfl rfl).trans (g1510 32 j rfl rfl)) ((y1515_0_25).trans (y1510_0_25))
  replace gC : TGC h1515 := by
    have hT2 := hT1
    unfold TI at hT2
    have k1 := KRw hR; have k2 := KRh hR
    clear hcs hm hi
    have d4 := gC1
    unfold TGC at d4 ⊢
    omega
  replace gD : TGD h1515 := by
    have hT2 := hT1
    unfold TI at hT2
    have k1 := KRw hR; have k2 := KRh hR
    clear hcs hm hi
    have d4 := gD1
    unfold TGD at d4 ⊢
    omega
  replace gR : TGR h1515 := by
    have hT2 := hT1
    unfold TI at hT2
    have k1 := KRw hR; have k2 := KRh hR
    clear hcs hm hi
    have b64 := KCst hC; have b64k := hC.2.2.2.1.2.2; have m1 := KRm hR
    have u1510_3 : h1510 3 = h 3 := funext fun j => g1510 3 j rfl rfl
    have u1510_4 : h1510 4 = h 4 := funext fun j => g1510 4 j rfl rfl
    have u1510_5 : h1510 5 = h 5 := funext fun j => g1510 5 j rfl rfl
    have u1510_7 : h1510 7 = h 7 := funext fun j => g1510 7 j rfl rfl
    have u1510_8 : h1510 8 = h 8 := funext fun j => g1510 8 j rfl rfl
    have u1510_9 : h1510 9 = h 9 := funext fun j => g1510 9 j rfl rfl
    have u1510_42 : h1510 42 = h 42 := funext fun j => g1510 42 j rfl rfl
    have u1510_43 : h1510 43 = h 43 := funext fun j => g1510 43 j rfl rfl
    have u1510_44 : h1510 44 = h 44 := funext fun j => g1510 44 j rfl rfl
    have u1515_3 : h1515 3 = h1510 3 := funext fun j => g1515 3 j rfl rfl
    have u1515_4 : h1515 4 = h1510 4 := funext fun j => g1515 4 j rfl rfl
    have u1515_5 : h1515 5 = h1510 5 := funext fun j => g1515 5 j rfl rfl
    have u1515_42 : h1515 42 = h1510 42 := funext fun j => g1515 42 j rfl rfl
    have u1515_43 : h1515 43 = h1510 43 := funext fun j => g1515 43 j rfl rfl
    have u1515_44 : h1515 44 = h1510 44 := funext fun j => g1515 44 j rfl rfl
    have u1515_46 : h1515 46 = h1510 46 := funext fun j => g1515 46 j rfl rfl
    have u1515_47 : h1515 47 = h1510 47 := funext fun j => g1515 47 j rfl rfl
    have u1515_48 : h1515 48 = h1510 48 := funext fun j => g1515 48 j rfl rfl
    unfold TGR at gR1 ⊢
    refine ⟨?_, fun _ => ?_⟩
    · rw [show h1515 3 = h 3 from (u1515_3.trans u1510_3), show h1515 4 = h 4 from (u1515_4.trans u1510_4), show h1515 5 = h 5 from (u1515_5.trans u1510_5), show h1515 42 = h 42 from (u1515_42.trans u1510_42), show h1515 43 = h 43 from (u1515_43.trans u1510_43), show h1515 44 = h 44 from (u1515_44.trans u1510_44), y1515_0_14, y1510_0_14]; exact gR1.1
    · refine gR1.1.cp (by omega) (by omega) (fun j => ?_) (fun j hj => ?_) (fun j hj => ?_) (fun j hj => ?_) (fun j hj => ?_) (fun j hj => ?_) (fun j hj => ?_)
      · have z := (b64 (j + 1)).2; rw [(u1515_43.trans u1510_43)] at z; exact z
      · show h1515 46 (j + 1) = h 42 (j + 1); rw [u1515_46]; exact (a1510_1 (j + 1) (by omega)).1
      · show h1515 47 (j + 1) = h 43 (j + 1); rw [u1515_47]; exact (a1510_1 (j + 1) (by omega)).2
      · rw [u1515_48]; exact a1510_2 j hj
      · rw [q1515_7 j hj, u1510_3]
      · rw [q1515_8 j hj, u1510_4]
      · rw [q1515_9 j (by omega), u1510_5]
  replace gV : TGV h1515 := by
    have hT2 := hT1
    unfold TI at hT2
    have k1 := KRw hR; have k2 := KRh hR
    clear hcs hm hi
    refine ⟨fun j hj => ?_, fun q j hj => ?_⟩
    · have d1 := gV1.1 j hj; have f1510_34 := g1510 34 j rfl rfl; have f1515_34 := g1515 34 j rfl rfl; have fa1510_0 := a1510_0 j; omega
    · have d2 : h 0 22 ≠ 0 → _ := fun z => gV1.2 z j hj; have d1 := gV1.1 j hj; have f1515_37 := g1515 37 j rfl rfl; have f1510_34 := g1510 34 j rfl rfl; have f1515_34 := g1515 34 j rfl rfl; have fa1510_0 := a1510_0 j; omega
  replace gE : TGE h1515 := by
    have hT2 := hT1
    unfold TI at hT2
    have k1 := KRw hR; have k2 := KRh hR
    clear hcs hm hi
    have m1 := KRm hR
    have e14 := y1515_0_14.trans y1510_0_14
    have e3 : ∀ j : Nat, h1515 3 j = h 3 j := fun j => (g1515 3 j rfl rfl).trans (g1510 3 j rfl rfl)
    have e19 : h1515 0 19 = h 0 14 := pD1515.trans y1510_0_14
    refine ⟨by rw [e14]; exact gE1.1.cong (fun k _ => e3 k), fun _ => ?_⟩
    rw [e19]; exact gE1.1.cong (fun k hk => (q1515_7 k (by omega)).trans (g1510 3 k rfl rfl))
  replace gS : TGS h1515 := by
    have hT2 := hT1
    unfold TI at hT2
    have k1 := KRw hR; have k2 := KRh hR
    clear hcs hm hi
    have m1 := KRm hR
    have e3 : h1515 3 = h 3 := funext fun j => (g1515 3 j rfl rfl).trans (g1510 3 j rfl rfl)
    have e4 : h1515 4 = h 4 := funext fun j => (g1515 4 j rfl rfl).trans (g1510 4 j rfl rfl)
    have e5 : h1515 5 = h 5 := funext fun j => (g1515 5 j rfl rfl).trans (g1510 5 j rfl rfl)
    have e14 := y1515_0_14.trans y1510_0_14
    have e19 : h1515 0 19 = h 0 14 := pD1515.trans y1510_0_14
    refine ⟨by rw [e14, e3, e4, e5]; exact gS1.1, fun _ => ?_⟩
    rw [e19]; exact gS1.1.cp (by omega) (fun k => by have z := KRna hR k; rw [e4] at z; exact z) (fun j hj => (q1515_7 j hj).trans (g1510 3 j rfl rfl)) (fun j hj => (q1515_8 j hj).trans (g1510 4 j rfl rfl)) (fun j hj => (q1515_9 j hj).trans (g1510 5 j rfl rfl))
  replace gP : TGP h1515 := by
    have hT2 := hT1
    unfold TI at hT2
    have k1 := KRw hR; have k2 := KRh hR
    clear hcs hm hi
    exact ⟨pR1515, pC1515⟩
  replace gF : TGF h1515 := by
    have hT2 := hT1
    unfold TI at hT2
    have k1 := KRw hR; have k2 := KRh hR
    clear hcs hm hi
    have m1 := KRm hR
    have e41 := y1515_41_1.trans y1510_41_1
    have e14 := y1515_0_14.trans y1510_0_14
    have e3 : ∀ j : Nat, h1515 3 j = h 3 j := fun j => (g1515 3 j rfl rfl).trans (g1510 3 j rfl rfl)
    have e45 : h1515 45 1 = h 41 1 := y1515_45_1.trans (by omega)
    have e19 : h1515 0 19 = h 0 14 := pD1515.trans y1510_0_14
    refine ⟨?_, fun _ => ⟨by rw [e45]; exact gF1.1.1, by rw [e45, e19]; exact gF1.1.2.1, fun j hj => by rw [(q1515_7 j (by omega)).trans (g1510 3 j rfl rfl), e45]; exact gF1.1.2.2 j (by rw [← e19]; exact hj)⟩⟩
    exact ⟨by rw [e41]; exact gF1.1.1, by rw [e41, e14]; exact gF1.1.2.1, fun j hj => by rw [e3 j, e41]; exact gF1.1.2.2 j (by rw [← e14]; exact hj)⟩
  replace gT : TGT h1515 := TGT_of gT1 (fun j => (g1515 2 j rfl rfl).trans (g1510 2 j rfl rfl)) (fun j => (g1515 40 j rfl rfl).trans (g1510 40 j rfl rfl)) ((y1515_39_1).trans (y1510_39_1)) ((y1515_0_21).trans (y1510_0_21)) ((y1515_0_11).trans (y1510_0_11)) ((y1515_0_12).trans (y1510_0_12))
  show zL _ _ _ (.inl r1515 :: []) _
  refine zL_pop (pc' := 1519) dL_1518 rfl rfl ?_
  refine zL_goto (tgt := 1581) dL_1519 rfl ?_
  exact nx _ hS hR hC hT gA gB gC gD gR gV gE gS gP gF gT
