/-! the law's cases, further -/
set_option maxHeartbeats 4000000 in
theorem lc_34 {Γ : Lc} {i : Int} {h : Hp} (hX : XI Γ.1) (hcs : Γ.2.2.2.2.2.1 ≤ room_1.cells ∧ Γ.2.2.2.2.2.2 ≤ room_1.slots) (hm : Γ.2.2.1 < 2147483648) (hi : 0 ≤ i ∧ i + 6 ≤ Γ.2.2.1) (hS : SI h) (hR : KR h) (hC : KC h) (hT : TI h) (gA : TGA h) (gB : TGB h) (gC : TGC h) (gD : TGD h) (gR : TGR h) (gV : TGV h) (gE : TGE h) (gS : TGS h) (gP : TGP h) (gF : TGF h) (nx : ∀ h' : Hp, SI h' → KR h' → KC h' → TI h' → TGA h' → TGB h' → TGC h' → TGD h' → TGR h' → TGV h' → TGE h' → TGS h' → TGP h' → TGF h' → zL Γ 1580 (lsL i) [] h') : zL Γ 1508 (lsL i) [] h := by
  refine zL_aload_n (pc' := 1509) dL_1508 rfl rfl ?_
  refine zL_inv (pc' := 1512) hcs kX11_keep vX11_keep lk_L_158 ⟨Nat.le_of_ble_eq_true rfl, Nat.le_of_ble_eq_true rfl⟩ tb30 vq11 rfl [] (s_X11_keepW hS hR hC) dL_1509 rfl (Nat.le_of_ble_eq_true rfl) rfl ?_
  have hC_1509 := hC
  rintro r1509 h1509 ⟨f1509, p1509⟩; have F1509 := f1509; obtain ⟨g1509, hS, hR, hC⟩ := f1509
  have pR1509 : PicRW h1509 := PicRW_un (UnR.rf.fm F1509 rfl) gP.1
  have pC1509 : PicCW h1509 := PicCW_un (KCm hC_1509).2 (UnC.rf.fm F1509 rfl) gP.2
  obtain ⟨p1509_0, a1509_0, a1509_1, a1509_2⟩ := p1509
  have y1509_0_25 : h1509 0 25 = h 0 25 := g1509 0 25 rfl rfl
  have y1509_31_1 : h1509 31 1 = h 31 1 := g1509 31 1 rfl rfl
  have y1509_33_0 : h1509 33 0 = h 33 0 := g1509 33 0 rfl rfl
  have y1509_33_1 : h1509 33 1 = h 33 1 := g1509 33 1 rfl rfl
  have y1509_33_2 : h1509 33 2 = h 33 2 := g1509 33 2 rfl rfl
  have y1509_0_11 : h1509 0 11 = h 0 11 := g1509 0 11 rfl rfl
  have y1509_0_12 : h1509 0 12 = h 0 12 := g1509 0 12 rfl rfl
  have y1509_0_13 : h1509 0 13 = h 0 13 := g1509 0 13 rfl rfl
  have y1509_0_22 : h1509 0 22 = h 0 22 := g1509 0 22 rfl rfl
  have y1509_0_16 : h1509 0 16 = h 0 16 := g1509 0 16 rfl rfl
  have y1509_0_17 : h1509 0 17 = h 0 17 := g1509 0 17 rfl rfl
  have y1509_0_18 : h1509 0 18 = h 0 18 := g1509 0 18 rfl rfl
  have y1509_0_14 : h1509 0 14 = h 0 14 := g1509 0 14 rfl rfl
  have y1509_0_15 : h1509 0 15 = h 0 15 := g1509 0 15 rfl rfl
  have y1509_0_19 : h1509 0 19 = h 0 19 := g1509 0 19 rfl rfl
  have y1509_0_20 : h1509 0 20 = h 0 20 := g1509 0 20 rfl rfl
  have y1509_30_12 : h1509 30 12 = h 30 12 := g1509 30 12 rfl rfl
  have y1509_41_0 : h1509 41 0 = h 41 0 := g1509 41 0 rfl rfl
  have y1509_41_1 : h1509 41 1 = h 41 1 := g1509 41 1 rfl rfl
  have hT1 := hT; have gA1 := gA; have gB1 := gB; have gC1 := gC; have gD1 := gD; have gR1 := gR; have gV1 := gV; have gE1 := gE; have gS1 := gS; have gP1 := gP; have gF1 := gF
  show zL _ _ _ (.inl r1509 :: []) _
  refine zL_pop (pc' := 1513) dL_1512 rfl rfl ?_
  refine zL_aload_n (pc' := 1514) dL_1513 rfl rfl ?_
  refine zL_inv (pc' := 1517) hcs kX12_keep vX12_keep lk_L_162 ⟨Nat.le_of_ble_eq_true rfl, Nat.le_of_ble_eq_true rfl⟩ tb0 vq12 rfl [] (s_X12_keepW hS hR hC) dL_1514 rfl (Nat.le_of_ble_eq_true rfl) rfl ?_
  have hC_1514 := hC
  rintro r1514 h1514 ⟨f1514, p1514⟩; have F1514 := f1514; obtain ⟨g1514, hS, hR, hC⟩ := f1514
  obtain ⟨p1514_0, a1514_0, pD1514, q1514_7, q1514_8, q1514_9⟩ := p1514
  have pR1514 : PicRW h1514 := PicRW_un (UnR.rf.fm F1514 rfl) pR1509
  have pC1514 : PicCW h1514 := PicCW_un (KCm hC_1514).2 (UnC.rf.fm F1514 rfl) pC1509
  have y1514_0_25 : h1514 0 25 = h1509 0 25 := g1514 0 25 rfl rfl
  have y1514_31_1 : h1514 31 1 = h1509 31 1 := g1514 31 1 rfl rfl
  have y1514_33_0 : h1514 33 0 = h1509 33 0 := g1514 33 0 rfl rfl
  have y1514_33_1 : h1514 33 1 = h1509 33 1 := g1514 33 1 rfl rfl
  have y1514_33_2 : h1514 33 2 = h1509 33 2 := g1514 33 2 rfl rfl
  have y1514_0_11 : h1514 0 11 = h1509 0 11 := g1514 0 11 rfl rfl
  have y1514_0_12 : h1514 0 12 = h1509 0 12 := g1514 0 12 rfl rfl
  have y1514_0_13 : h1514 0 13 = h1509 0 13 := g1514 0 13 rfl rfl
  have y1514_30_11 : h1514 30 11 = h1509 30 11 := g1514 30 11 rfl rfl
  have y1514_36_0 : h1514 36 0 = h1509 36 0 := g1514 36 0 rfl rfl
  have y1514_36_1 : h1514 36 1 = h1509 36 1 := g1514 36 1 rfl rfl
  have y1514_36_2 : h1514 36 2 = h1509 36 2 := g1514 36 2 rfl rfl
  have y1514_0_14 : h1514 0 14 = h1509 0 14 := g1514 0 14 rfl rfl
  have y1514_0_15 : h1514 0 15 = h1509 0 15 := g1514 0 15 rfl rfl
  have y1514_30_10 : h1514 30 10 = h1509 30 10 := g1514 30 10 rfl rfl
  have y1514_30_12 : h1514 30 12 = h1509 30 12 := g1514 30 12 rfl rfl
  have y1514_41_0 : h1514 41 0 = h1509 41 0 := g1514 41 0 rfl rfl
  have y1514_41_1 : h1514 41 1 = h1509 41 1 := g1514 41 1 rfl rfl
  have y1514_45_0 : h1514 45 0 = h1509 45 0 := g1514 45 0 rfl rfl
  have y1514_45_1 : h1514 45 1 = h1509 45 1 := g1514 45 1 rfl rfl
  replace hT : TI h1514 := by
    have hT2 := hT1
    unfold TI at hT2 ⊢
    omega
  replace gA : TGA h1514 := by
    have hT2 := hT1
    unfold TI at hT2
    have k1 := KRw hR; have k2 := KRh hR
    clear hcs hm hi
    refine ⟨fun j hj => ?_, fun q j hj => ?_⟩
    · have d1 := gA1.1 j hj; have f1509_1 := g1509 1 j rfl rfl; have f1509_34 := g1509 34 j rfl rfl; have f1509_10 := g1509 10 j rfl rfl; have f1509_35 := g1509 35 j rfl rfl; have fa1509_0 := a1509_0 j; have f1514_1 := g1514 1 j rfl rfl; have f1514_34 := g1514 34 j rfl rfl; have f1514_10 := g1514 10 j rfl rfl; have f1514_35 := g1514 35 j rfl rfl; have fa1514_0 := a1514_0 j; omega
    · have d2 : h 0 22 ≠ 0 → _ := fun z => gA1.2 z j hj; have d1 := gA1.1 j hj; have f1509_6 := g1509 6 j rfl rfl; have f1509_11 := g1509 11 j rfl rfl; have f1509_1 := g1509 1 j rfl rfl; have f1509_34 := g1509 34 j rfl rfl; have f1509_10 := g1509 10 j rfl rfl; have f1509_35 := g1509 35 j rfl rfl; have fa1509_0 := a1509_0 j; have f1514_37 := g1514 37 j rfl rfl; have f1514_38 := g1514 38 j rfl rfl; have f1514_1 := g1514 1 j rfl rfl; have f1514_34 := g1514 34 j rfl rfl; have f1514_10 := g1514 10 j rfl rfl; have f1514_35 := g1514 35 j rfl rfl; have fa1514_0 := a1514_0 j; omega
  replace gB : TGB h1514 := TGB_of gB1 (fun j => (g1514 12 j rfl rfl).trans (g1509 12 j rfl rfl)) (fun j => (g1514 32 j rfl rfl).trans (g1509 32 j rfl rfl)) ((y1514_0_25).trans (y1509_0_25))
  replace gC : TGC h1514 := by
    have hT2 := hT1
    unfold TI at hT2
    have k1 := KRw hR; have k2 := KRh hR
    clear hcs hm hi
    have d4 := gC1
    unfold TGC at d4 ⊢
    omega
  replace gD : TGD h1514 := by
    have hT2 := hT1
    unfold TI at hT2
    have k1 := KRw hR; have k2 := KRh hR
    clear hcs hm hi
    have d4 := gD1
    unfold TGD at d4 ⊢
    omega
  replace gR : TGR h1514 := by
    have hT2 := hT1
    unfold TI at hT2
    have k1 := KRw hR; have k2 := KRh hR
    clear hcs hm hi
    have b64 := KCst hC; have b64k := hC.2.2.2.1.2.2; have m1 := KRm hR
    have u1509_3 : h1509 3 = h 3 := funext fun j => g1509 3 j rfl rfl
    have u1509_4 : h1509 4 = h 4 := funext fun j => g1509 4 j rfl rfl
    have u1509_5 : h1509 5 = h 5 := funext fun j => g1509 5 j rfl rfl
    have u1509_7 : h1509 7 = h 7 := funext fun j => g1509 7 j rfl rfl
    have u1509_8 : h1509 8 = h 8 := funext fun j => g1509 8 j rfl rfl
    have u1509_9 : h1509 9 = h 9 := funext fun j => g1509 9 j rfl rfl
    have u1509_42 : h1509 42 = h 42 := funext fun j => g1509 42 j rfl rfl
    have u1509_43 : h1509 43 = h 43 := funext fun j => g1509 43 j rfl rfl
    have u1509_44 : h1509 44 = h 44 := funext fun j => g1509 44 j rfl rfl
    have u1514_3 : h1514 3 = h1509 3 := funext fun j => g1514 3 j rfl rfl
    have u1514_4 : h1514 4 = h1509 4 := funext fun j => g1514 4 j rfl rfl
    have u1514_5 : h1514 5 = h1509 5 := funext fun j => g1514 5 j rfl rfl
    have u1514_42 : h1514 42 = h1509 42 := funext fun j => g1514 42 j rfl rfl
    have u1514_43 : h1514 43 = h1509 43 := funext fun j => g1514 43 j rfl rfl
    have u1514_44 : h1514 44 = h1509 44 := funext fun j => g1514 44 j rfl rfl
    have u1514_46 : h1514 46 = h1509 46 := funext fun j => g1514 46 j rfl rfl
    have u1514_47 : h1514 47 = h1509 47 := funext fun j => g1514 47 j rfl rfl
    have u1514_48 : h1514 48 = h1509 48 := funext fun j => g1514 48 j rfl rfl
    unfold TGR at gR1 ⊢
    refine ⟨?_, fun _ => ?_⟩
    · rw [show h1514 3 = h 3 from (u1514_3.trans u1509_3), show h1514 4 = h 4 from (u1514_4.trans u1509_4), show h1514 5 = h 5 from (u1514_5.trans u1509_5), show h1514 42 = h 42 from (u1514_42.trans u1509_42), show h1514 43 = h 43 from (u1514_43.trans u1509_43), show h1514 44 = h 44 from (u1514_44.trans u1509_44), y1514_0_14, y1509_0_14]; exact gR1.1
    · refine gR1.1.cp (by omega) (by omega) (fun j => ?_) (fun j hj => ?_) (fun j hj => ?_) (fun j hj => ?_) (fun j hj => ?_) (fun j hj => ?_) (fun j hj => ?_)
      · have z := (b64 (j + 1)).2; rw [(u1514_43.trans u1509_43)] at z; exact z
      · show h1514 46 (j + 1) = h 42 (j + 1); rw [u1514_46]; exact (a1509_1 (j + 1) (by omega)).1
      · show h1514 47 (j + 1) = h 43 (j + 1); rw [u1514_47]; exact (a1509_1 (j + 1) (by omega)).2
      · rw [u1514_48]; exact a1509_2 j hj
      · rw [q1514_7 j hj, u1509_3]
      · rw [q1514_8 j hj, u1509_4]
      · rw [q1514_9 j (by omega), u1509_5]
  replace gV : TGV h1514 := by
    have hT2 := hT1
    unfold TI at hT2
    have k1 := KRw hR; have k2 := KRh hR
    clear hcs hm hi
    refine ⟨fun j hj => ?_, fun q j hj => ?_⟩
    · have d1 := gV1.1 j hj; have f1509_34 := g1509 34 j rfl rfl; have f1514_34 := g1514 34 j rfl rfl; have fa1509_0 := a1509_0 j; omega
    · have d2 : h 0 22 ≠ 0 → _ := fun z => gV1.2 z j hj; have d1 := gV1.1 j hj; have f1514_37 := g1514 37 j rfl rfl; have f1509_34 := g1509 34 j rfl rfl; have f1514_34 := g1514 34 j rfl rfl; have fa1509_0 := a1509_0 j; omega
  replace gE : TGE h1514 := by
    have hT2 := hT1
    unfold TI at hT2
    have k1 := KRw hR; have k2 := KRh hR
    clear hcs hm hi
    have m1 := KRm hR
    have e14 := y1514_0_14.trans y1509_0_14
    have e3 : ∀ j : Nat, h1514 3 j = h 3 j := fun j => (g1514 3 j rfl rfl).trans (g1509 3 j rfl rfl)
    have e19 : h1514 0 19 = h 0 14 := pD1514.trans y1509_0_14
    refine ⟨by rw [e14]; exact gE1.1.cong (fun k _ => e3 k), fun _ => ?_⟩
    rw [e19]; exact gE1.1.cong (fun k hk => (q1514_7 k (by omega)).trans (g1509 3 k rfl rfl))
  replace gS : TGS h1514 := by
    have hT2 := hT1
    unfold TI at hT2
    have k1 := KRw hR; have k2 := KRh hR
    clear hcs hm hi
    have m1 := KRm hR
    have e3 : h1514 3 = h 3 := funext fun j => (g1514 3 j rfl rfl).trans (g1509 3 j rfl rfl)
    have e4 : h1514 4 = h 4 := funext fun j => (g1514 4 j rfl rfl).trans (g1509 4 j rfl rfl)
    have e5 : h1514 5 = h 5 := funext fun j => (g1514 5 j rfl rfl).trans (g1509 5 j rfl rfl)
    have e14 := y1514_0_14.trans y1509_0_14
    have e19 : h1514 0 19 = h 0 14 := pD1514.trans y1509_0_14
    refine ⟨by rw [e14, e3, e4, e5]; exact gS1.1, fun _ => ?_⟩
    rw [e19]; exact gS1.1.cp (by omega) (fun k => by have z := KRna hR k; rw [e4] at z; exact z) (fun j hj => (q1514_7 j hj).trans (g1509 3 j rfl rfl)) (fun j hj => (q1514_8 j hj).trans (g1509 4 j rfl rfl)) (fun j hj => (q1514_9 j hj).trans (g1509 5 j rfl rfl))
  replace gP : TGP h1514 := by
    have hT2 := hT1
    unfold TI at hT2
    have k1 := KRw hR; have k2 := KRh hR
    clear hcs hm hi
    exact ⟨pR1514, pC1514⟩
  replace gF : TGF h1514 := by
    have hT2 := hT1
    unfold TI at hT2
    have k1 := KRw hR; have k2 := KRh hR
    clear hcs hm hi
    have m1 := KRm hR
    have e41 := y1514_41_1.trans y1509_41_1
    have e14 := y1514_0_14.trans y1509_0_14
    have e3 : ∀ j : Nat, h1514 3 j = h 3 j := fun j => (g1514 3 j rfl rfl).trans (g1509 3 j rfl rfl)
    have e45 : h1514 45 1 = h 41 1 := y1514_45_1.trans (by omega)
    have e19 : h1514 0 19 = h 0 14 := pD1514.trans y1509_0_14
    refine ⟨?_, fun _ => ⟨by rw [e45]; exact gF1.1.1, by rw [e45, e19]; exact gF1.1.2.1, fun j hj => by rw [(q1514_7 j (by omega)).trans (g1509 3 j rfl rfl), e45]; exact gF1.1.2.2 j (by rw [← e19]; exact hj)⟩⟩
    exact ⟨by rw [e41]; exact gF1.1.1, by rw [e41, e14]; exact gF1.1.2.1, fun j hj => by rw [e3 j, e41]; exact gF1.1.2.2 j (by rw [← e14]; exact hj)⟩
  show zL _ _ _ (.inl r1514 :: []) _
  refine zL_pop (pc' := 1518) dL_1517 rfl rfl ?_
  refine zL_goto (tgt := 1580) dL_1518 rfl ?_
  exact nx _ hS hR hC hT gA gB gC gD gR gV gE gS gP gF
