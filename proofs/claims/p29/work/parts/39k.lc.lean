/-! the law's cases, further -/
set_option maxHeartbeats 4000000 in
theorem lc_35 {Γ : Lc} {i : Int} {h : Hp} (hX : XI Γ.1) (hcs : Γ.2.2.2.2.2.1 ≤ room_1.cells ∧ Γ.2.2.2.2.2.2 ≤ room_1.slots) (hm : Γ.2.2.1 < 2147483648) (hi : 0 ≤ i ∧ i + 6 ≤ Γ.2.2.1) (hS : SI h) (hR : KR h) (hC : KC h) (hT : TI h) (gA : TGA h) (gB : TGB h) (gC : TGC h) (gD : TGD h) (gR : TGR h) (gV : TGV h) (gE : TGE h) (gS : TGS h) (gP : TGP h) (gF : TGF h) (gT : TGT h) (nx : ∀ h' : Hp, SI h' → KR h' → KC h' → TI h' → TGA h' → TGB h' → TGC h' → TGD h' → TGR h' → TGV h' → TGE h' → TGS h' → TGP h' → TGF h' → TGT h' → zL Γ 1581 (lsL i) [] h') : zL Γ 1522 (lsL i) [] h := by
  refine zL_aload_n (pc' := 1523) dL_1522 rfl rfl ?_
  refine zL_inv (pc' := 1526) hcs kX11_undo vX11_undo lk_L_163 ⟨Nat.le_of_ble_eq_true rfl, Nat.le_of_ble_eq_true rfl⟩ tb30 vq11 rfl [] (s_X11_undoW hS hR hC) dL_1523 rfl (Nat.le_of_ble_eq_true rfl) rfl ?_
  have hC_1523 := hC
  rintro r1523 h1523 ⟨f1523, p1523⟩; have F1523 := f1523; obtain ⟨g1523, hS, hR, hC⟩ := f1523
  obtain ⟨p1523, ch1523⟩ := p1523
  have pR1523 : PicRW h1523 := PicRW_un (UnR.rf.fm F1523 rfl) gP.1
  have pC1523 : PicCW h1523 := PicCW_ch hC_1523 hC ch1523 gP.2
  obtain ⟨p1523_0, p1523_1, p1523_2, a1523_0, a1523_1, a1523_2, a1523_3⟩ := p1523
  have y1523_0_25 : h1523 0 25 = h 0 25 := g1523 0 25 rfl rfl
  have y1523_31_1 : h1523 31 1 = h 31 1 := g1523 31 1 rfl rfl
  have y1523_0_11 : h1523 0 11 = h 0 11 := g1523 0 11 rfl rfl
  have y1523_0_12 : h1523 0 12 = h 0 12 := g1523 0 12 rfl rfl
  have y1523_0_13 : h1523 0 13 = h 0 13 := g1523 0 13 rfl rfl
  have y1523_30_11 : h1523 30 11 = h 30 11 := g1523 30 11 rfl rfl
  have y1523_0_22 : h1523 0 22 = h 0 22 := g1523 0 22 rfl rfl
  have y1523_36_0 : h1523 36 0 = h 36 0 := g1523 36 0 rfl rfl
  have y1523_36_1 : h1523 36 1 = h 36 1 := g1523 36 1 rfl rfl
  have y1523_36_2 : h1523 36 2 = h 36 2 := g1523 36 2 rfl rfl
  have y1523_0_16 : h1523 0 16 = h 0 16 := g1523 0 16 rfl rfl
  have y1523_0_17 : h1523 0 17 = h 0 17 := g1523 0 17 rfl rfl
  have y1523_0_18 : h1523 0 18 = h 0 18 := g1523 0 18 rfl rfl
  have y1523_0_14 : h1523 0 14 = h 0 14 := g1523 0 14 rfl rfl
  have y1523_0_15 : h1523 0 15 = h 0 15 := g1523 0 15 rfl rfl
  have y1523_0_19 : h1523 0 19 = h 0 19 := g1523 0 19 rfl rfl
  have y1523_0_20 : h1523 0 20 = h 0 20 := g1523 0 20 rfl rfl
  have y1523_0_21 : h1523 0 21 = h 0 21 := g1523 0 21 rfl rfl
  have y1523_30_10 : h1523 30 10 = h 30 10 := g1523 30 10 rfl rfl
  have y1523_45_0 : h1523 45 0 = h 45 0 := g1523 45 0 rfl rfl
  have y1523_45_1 : h1523 45 1 = h 45 1 := g1523 45 1 rfl rfl
  have hT1 := hT; have gA1 := gA; have gB1 := gB; have gC1 := gC; have gD1 := gD; have gR1 := gR; have gV1 := gV; have gE1 := gE; have gS1 := gS; have gP1 := gP; have gF1 := gF; have gT1 := gT
  show zL _ _ _ (.inl r1523 :: []) _
  refine zL_pop (pc' := 1527) dL_1526 rfl rfl ?_
  refine zL_aload_n (pc' := 1528) dL_1527 rfl rfl ?_
  refine zL_inv (pc' := 1531) hcs kX12_undo vX12_undo lk_L_167 ⟨Nat.le_of_ble_eq_true rfl, Nat.le_of_ble_eq_true rfl⟩ tb0 vq12 rfl [] (s_X12_undoW hS hR hC) dL_1528 rfl (Nat.le_of_ble_eq_true rfl) rfl ?_
  have hC_1528 := hC
  rintro r1528 h1528 ⟨f1528, p1528⟩; have F1528 := f1528; obtain ⟨g1528, hS, hR, hC⟩ := f1528
  obtain ⟨⟨p1528_0, ch1528⟩, a1528_0, pD1528, q1528_3, q1528_4, q1528_5, pT1528⟩ := p1528
  have pR1528 : PicRW h1528 := PicRW_ch ch1528 pR1523
  have pC1528 : PicCW h1528 := PicCW_un (KCm hC_1528).2 (UnC.rf.fm F1528 rfl) pC1523
  have y1528_0_25 : h1528 0 25 = h1523 0 25 := g1528 0 25 rfl rfl
  have y1528_31_1 : h1528 31 1 = h1523 31 1 := g1528 31 1 rfl rfl
  have y1528_33_0 : h1528 33 0 = h1523 33 0 := g1528 33 0 rfl rfl
  have y1528_33_1 : h1528 33 1 = h1523 33 1 := g1528 33 1 rfl rfl
  have y1528_33_2 : h1528 33 2 = h1523 33 2 := g1528 33 2 rfl rfl
  have y1528_30_11 : h1528 30 11 = h1523 30 11 := g1528 30 11 rfl rfl
  have y1528_0_22 : h1528 0 22 = h1523 0 22 := g1528 0 22 rfl rfl
  have y1528_36_0 : h1528 36 0 = h1523 36 0 := g1528 36 0 rfl rfl
  have y1528_36_1 : h1528 36 1 = h1523 36 1 := g1528 36 1 rfl rfl
  have y1528_36_2 : h1528 36 2 = h1523 36 2 := g1528 36 2 rfl rfl
  have y1528_0_16 : h1528 0 16 = h1523 0 16 := g1528 0 16 rfl rfl
  have y1528_0_17 : h1528 0 17 = h1523 0 17 := g1528 0 17 rfl rfl
  have y1528_0_18 : h1528 0 18 = h1523 0 18 := g1528 0 18 rfl rfl
  have y1528_0_19 : h1528 0 19 = h1523 0 19 := g1528 0 19 rfl rfl
  have y1528_0_20 : h1528 0 20 = h1523 0 20 := g1528 0 20 rfl rfl
  have y1528_30_10 : h1528 30 10 = h1523 30 10 := g1528 30 10 rfl rfl
  have y1528_30_12 : h1528 30 12 = h1523 30 12 := g1528 30 12 rfl rfl
  have y1528_39_1 : h1528 39 1 = h1523 39 1 := g1528 39 1 rfl rfl
  have y1528_41_0 : h1528 41 0 = h1523 41 0 := g1528 41 0 rfl rfl
  have y1528_41_1 : h1528 41 1 = h1523 41 1 := g1528 41 1 rfl rfl
  have y1528_45_0 : h1528 45 0 = h1523 45 0 := g1528 45 0 rfl rfl
  have y1528_45_1 : h1528 45 1 = h1523 45 1 := g1528 45 1 rfl rfl
  replace hT : TI h1528 := by
    have hT2 := hT1
    unfold TI at hT2 ⊢
    omega
  replace gA : TGA h1528 := by
    have hT2 := hT1
    unfold TI at hT2
    have k1 := KRw hR; have k2 := KRh hR
    clear hcs hm hi
    have r01 : (r1523 = 0 ∧ r1528 = 0) ∨ (r1523 = 1 ∧ r1528 = 1 ∧ h 0 22 ≠ 0) := by omega
    refine ⟨fun j hj => ?_, fun q j hj => ?_⟩
    · have d1 := gA1.1 j hj; have f1523_1 := g1523 1 j rfl rfl; have f1523_10 := g1523 10 j rfl rfl; have f1523_6 := g1523 6 j rfl rfl; have f1523_37 := g1523 37 j rfl rfl; have f1523_11 := g1523 11 j rfl rfl; have f1523_38 := g1523 38 j rfl rfl; have f1528_34 := g1528 34 j rfl rfl; have f1528_35 := g1528 35 j rfl rfl; have f1528_6 := g1528 6 j rfl rfl; have f1528_37 := g1528 37 j rfl rfl; have f1528_11 := g1528 11 j rfl rfl; have f1528_38 := g1528 38 j rfl rfl
      rcases r01 with ⟨z0, z2⟩ | ⟨z1, z2, z3⟩
      · obtain ⟨u1, u2⟩ := (a1523_0 j).2 z0; have w := (a1528_0 j).2 z2; clear a1523_0 a1528_0; omega
      · obtain ⟨u1, u2⟩ := (a1523_0 j).1 z1 hj; have w := (a1528_0 j).1 z2; have d2 := gA1.2 z3 j hj; clear a1523_0 a1528_0 d1; omega
    · have d2 : h 0 22 ≠ 0 → _ := fun z => gA1.2 z j hj; have f1523_6 := g1523 6 j rfl rfl; have f1523_37 := g1523 37 j rfl rfl; have f1523_11 := g1523 11 j rfl rfl; have f1523_38 := g1523 38 j rfl rfl; have f1528_6 := g1528 6 j rfl rfl; have f1528_37 := g1528 37 j rfl rfl; have f1528_11 := g1528 11 j rfl rfl; have f1528_38 := g1528 38 j rfl rfl; clear a1523_0 a1528_0 r01; omega
  replace gB : TGB h1528 := TGB_of gB1 (fun j => (g1528 12 j rfl rfl).trans (g1523 12 j rfl rfl)) (fun j => (g1528 32 j rfl rfl).trans (g1523 32 j rfl rfl)) ((y1528_0_25).trans (y1523_0_25))
  replace gC : TGC h1528 := by
    have hT2 := hT1
    unfold TI at hT2
    have k1 := KRw hR; have k2 := KRh hR
    clear hcs hm hi
    have d4 := gC1
    unfold TGC at d4 ⊢
    omega
  replace gD : TGD h1528 := by
    have hT2 := hT1
    unfold TI at hT2
    have k1 := KRw hR; have k2 := KRh hR
    clear hcs hm hi
    have d4 := gD1
    unfold TGD at d4 ⊢
    omega
  replace gR : TGR h1528 := by
    have hT2 := hT1
    unfold TI at hT2
    have k1 := KRw hR; have k2 := KRh hR
    clear hcs hm hi
    have b64 := KCst hC; have b64k := hC.2.2.2.1.2.2; have m1 := KRm hR
    have u1523_3 : h1523 3 = h 3 := funext fun j => g1523 3 j rfl rfl
    have u1523_4 : h1523 4 = h 4 := funext fun j => g1523 4 j rfl rfl
    have u1523_5 : h1523 5 = h 5 := funext fun j => g1523 5 j rfl rfl
    have u1523_7 : h1523 7 = h 7 := funext fun j => g1523 7 j rfl rfl
    have u1523_8 : h1523 8 = h 8 := funext fun j => g1523 8 j rfl rfl
    have u1523_9 : h1523 9 = h 9 := funext fun j => g1523 9 j rfl rfl
    have u1523_46 : h1523 46 = h 46 := funext fun j => g1523 46 j rfl rfl
    have u1523_47 : h1523 47 = h 47 := funext fun j => g1523 47 j rfl rfl
    have u1523_48 : h1523 48 = h 48 := funext fun j => g1523 48 j rfl rfl
    have u1528_7 : h1528 7 = h1523 7 := funext fun j => g1528 7 j rfl rfl
    have u1528_8 : h1528 8 = h1523 8 := funext fun j => g1528 8 j rfl rfl
    have u1528_9 : h1528 9 = h1523 9 := funext fun j => g1528 9 j rfl rfl
    have u1528_42 : h1528 42 = h1523 42 := funext fun j => g1528 42 j rfl rfl
    have u1528_43 : h1528 43 = h1523 43 := funext fun j => g1528 43 j rfl rfl
    have u1528_44 : h1528 44 = h1523 44 := funext fun j => g1528 44 j rfl rfl
    have u1528_46 : h1528 46 = h1523 46 := funext fun j => g1528 46 j rfl rfl
    have u1528_47 : h1528 47 = h1523 47 := funext fun j => g1528 47 j rfl rfl
    have u1528_48 : h1528 48 = h1523 48 := funext fun j => g1528 48 j rfl rfl
    unfold TGR at gR1 ⊢
    refine ⟨?_, by intro q; rw [show h1528 7 = h 7 from (u1528_7.trans u1523_7), show h1528 8 = h 8 from (u1528_8.trans u1523_8), show h1528 9 = h 9 from (u1528_9.trans u1523_9), show h1528 46 = h 46 from (u1528_46.trans u1523_46), show h1528 47 = h 47 from (u1528_47.trans u1523_47), show h1528 48 = h 48 from (u1528_48.trans u1523_48), y1528_0_19, y1523_0_19]; exact gR1.2 (by omega)⟩
    by_cases c : r1523 = 1
    · have c2 : r1528 = 1 := by omega
      have t := gR1.2 (by omega)
      refine t.cp (by omega) (by omega) (fun j => ?_) (fun j hj => ?_) (fun j hj => ?_) (fun j hj => ?_) (fun j hj => ?_) (fun j hj => ?_) (fun j hj => ?_)
      · have z := (b64k (j + 1)).2; rw [(u1528_47.trans u1523_47)] at z; exact z
      · show h1528 42 (j + 1) = h 46 (j + 1); rw [u1528_42]; exact ((a1523_1 (j + 1)).1 c (by omega)).1
      · show h1528 43 (j + 1) = h 47 (j + 1); rw [u1528_43]; exact ((a1523_1 (j + 1)).1 c (by omega)).2
      · rw [u1528_44]; exact (a1523_2 j).1 c hj
      · rw [(q1528_3 j).1 c2 hj, u1523_7]
      · rw [(q1528_4 j).1 c2 hj, u1523_8]
      · rw [(q1528_5 j).1 c2 (by omega), u1523_9]
    · have c1 : r1523 = 0 := by omega
      have c2 : r1528 = 0 := by omega
      rw [show h1528 0 14 = h 0 14 by omega, u1528_42, u1528_43, u1528_44, show h1523 42 = h 42 from funext fun j => ((a1523_1 j).2 c1).1, show h1523 43 = h 43 from funext fun j => ((a1523_1 j).2 c1).2, show h1523 44 = h 44 from funext fun j => (a1523_2 j).2 c1, show h1528 3 = h 3 from (funext fun j => (q1528_3 j).2 c2).trans u1523_3, show h1528 4 = h 4 from (funext fun j => (q1528_4 j).2 c2).trans u1523_4, show h1528 5 = h 5 from (funext fun j => (q1528_5 j).2 c2).trans u1523_5]
      exact gR1.1
  replace gV : TGV h1528 := by
    have hT2 := hT1
    unfold TI at hT2
    have k1 := KRw hR; have k2 := KRh hR
    clear hcs hm hi
    refine ⟨fun j hj => ?_, fun q j hj => ?_⟩
    · have d1 := gV1.1 j hj; have d2 : h 0 22 ≠ 0 → _ := fun z => gV1.2 z j hj; have f1528_34 := g1528 34 j rfl rfl; have f1523_37 := g1523 37 j rfl rfl; have f1528_37 := g1528 37 j rfl rfl; have fa1523_0 := a1523_0 j; omega
    · have d2 : h 0 22 ≠ 0 → _ := fun z => gV1.2 z j hj; have f1523_37 := g1523 37 j rfl rfl; have f1528_37 := g1528 37 j rfl rfl; have fa1523_0 := a1523_0 j; omega
  replace gE : TGE h1528 := by
    have hT2 := hT1
    unfold TI at hT2
    have k1 := KRw hR; have k2 := KRh hR
    clear hcs hm hi
    have m1 := KRm hR
    have q22 : h1528 0 22 = h 0 22 := y1528_0_22.trans y1523_0_22
    have e19 : h1528 0 19 = h 0 19 := y1528_0_19.trans y1523_0_19
    have e7 : ∀ j : Nat, h1528 7 j = h 7 j := fun j => (g1528 7 j rfl rfl).trans (g1523 7 j rfl rfl)
    refine ⟨?_, fun q => by rw [e19]; exact (gE1.2 (by rw [← q22]; exact q)).cong (fun k _ => e7 k)⟩
    by_cases c : r1523 = 1
    · have c2 : r1528 = 1 := by omega
      have q0 : h 0 22 ≠ 0 := by omega
      have e14 := (pD1528.2 c2).trans y1523_0_19
      rw [e14]; exact (gE1.2 q0).cong (fun k hk => ((q1528_3 k).1 c2 (by omega)).trans (g1523 7 k rfl rfl))
    · have c2 : r1528 = 0 := by omega
      have e14 := (pD1528.1 c2).trans y1523_0_14
      rw [e14]; exact gE1.1.cong (fun k _ => ((q1528_3 k).2 c2).trans (g1523 3 k rfl rfl))
  replace gS : TGS h1528 := by
    have hT2 := hT1
    unfold TI at hT2
    have k1 := KRw hR; have k2 := KRh hR
    clear hcs hm hi
    have m1 := KRm hR
    have q22 : h1528 0 22 = h 0 22 := y1528_0_22.trans y1523_0_22
    have e19 : h1528 0 19 = h 0 19 := y1528_0_19.trans y1523_0_19
    have e7 : h1528 7 = h 7 := funext fun j => (g1528 7 j rfl rfl).trans (g1523 7 j rfl rfl)
    have e8 : h1528 8 = h 8 := funext fun j => (g1528 8 j rfl rfl).trans (g1523 8 j rfl rfl)
    have e9 : h1528 9 = h 9 := funext fun j => (g1528 9 j rfl rfl).trans (g1523 9 j rfl rfl)
    refine ⟨?_, fun q => by rw [e19, e7, e8, e9]; exact gS1.2 (by rw [← q22]; exact q)⟩
    by_cases c : r1523 = 1
    · have c2 : r1528 = 1 := by omega
      have q0 : h 0 22 ≠ 0 := by omega
      have e14 := (pD1528.2 c2).trans y1523_0_19
      rw [e14]; exact (gS1.2 q0).cp (by omega) (fun k => by have z := KRk8 hR k; rw [e8] at z; exact z) (fun j hj => ((q1528_3 j).1 c2 hj).trans (g1523 7 j rfl rfl)) (fun j hj => ((q1528_4 j).1 c2 hj).trans (g1523 8 j rfl rfl)) (fun j hj => ((q1528_5 j).1 c2 hj).trans (g1523 9 j rfl rfl))
    · have c2 : r1528 = 0 := by omega
      have e14 := (pD1528.1 c2).trans y1523_0_14
      rw [e14, show h1528 3 = h 3 from funext fun j => ((q1528_3 j).2 c2).trans (g1523 3 j rfl rfl), show h1528 4 = h 4 from funext fun j => ((q1528_4 j).2 c2).trans (g1523 4 j rfl rfl), show h1528 5 = h 5 from funext fun j => ((q1528_5 j).2 c2).trans (g1523 5 j rfl rfl)]
      exact gS1.1
  replace gP : TGP h1528 := by
    have hT2 := hT1
    unfold TI at hT2
    have k1 := KRw hR; have k2 := KRh hR
    clear hcs hm hi
    exact ⟨pR1528, pC1528⟩
  replace gF : TGF h1528 := by
    have hT2 := hT1
    unfold TI at hT2
    have k1 := KRw hR; have k2 := KRh hR
    clear hcs hm hi
    have m1 := KRm hR
    have q22 : h1528 0 22 = h 0 22 := y1528_0_22.trans y1523_0_22
    have e45 : h1528 45 1 = h 45 1 := y1528_45_1.trans y1523_45_1
    have e19 : h1528 0 19 = h 0 19 := y1528_0_19.trans y1523_0_19
    have e7 : ∀ j : Nat, h1528 7 j = h 7 j := fun j => (g1528 7 j rfl rfl).trans (g1523 7 j rfl rfl)
    refine ⟨?_, fun q => by have q' : h 0 22 ≠ 0 := (fun z => q (q22.trans z)); exact ⟨by rw [e45]; exact (gF1.2 q').1, by rw [e45, e19]; exact (gF1.2 q').2.1, fun j hj => by rw [e7 j, e45]; exact (gF1.2 q').2.2 j (by rw [← e19]; exact hj)⟩⟩
    by_cases c : r1523 = 1
    · have c2 : r1528 = 1 := by omega
      have q0 : h 0 22 ≠ 0 := by omega
      have e41 := y1528_41_1.trans (p1523_2.2.2 c).2
      have e14 := (pD1528.2 c2).trans y1523_0_19
      exact ⟨by rw [e41]; exact (gF1.2 q0).1, by rw [e41, e14]; exact (gF1.2 q0).2.1, fun j hj => by rw [((q1528_3 j).1 c2 (by omega)).trans (g1523 7 j rfl rfl), e41]; exact (gF1.2 q0).2.2 j (by rw [← e14]; exact hj)⟩
    · have c1 : r1523 = 0 := by omega
      have c2 : r1528 = 0 := by omega
      have e41 := y1528_41_1.trans (p1523_2.2.1 c1).2
      have e14 := (pD1528.1 c2).trans y1523_0_14
      have e3 : ∀ j : Nat, h1528 3 j = h 3 j := fun j => ((q1528_3 j).2 c2).trans (g1523 3 j rfl rfl)
      exact ⟨by rw [e41]; exact gF1.1.1, by rw [e41, e14]; exact gF1.1.2.1, fun j hj => by rw [e3 j, e41]; exact gF1.1.2.2 j (by rw [← e14]; exact hj)⟩
  replace gT : TGT h1528 := by
    have hT2 := hT1
    unfold TI at hT2
    have k1 := KRw hR; have k2 := KRh hR
    clear hcs hm hi
    have t1 := a1523_3 0
    have t2 := And.intro pT1528.2 pT1528.1
    have yA : h1528 39 1 = h1523 39 1 := y1528_39_1
    have yB : h1523 0 21 = h 0 21 := y1523_0_21
    have gF_ := gT1.1; have gO_ := gT1.2.1
    have r01 : (r1523 = 0 ∧ r1528 = 0) ∨ (r1523 = 1 ∧ r1528 = 1) := by omega
    rcases r01 with ⟨z1, z2⟩ | ⟨z1, z2⟩
    · have u1 := t1.2 z1; have u2 := t2.2 z2
      have w11 : h1528 0 11 = h 0 11 := by omega
      have w12 : h1528 0 12 = h 0 12 := by omega
      refine ⟨by omega, by omega, fun q j hj c1 c2 => ?_⟩
      rw [show h1528 40 j = h 40 j from (g1528 40 j rfl rfl).trans (g1523 40 j rfl rfl), show h1528 2 j = h 2 j from (g1528 2 j rfl rfl).trans (g1523 2 j rfl rfl)]
      exact gT1.2.2 (by omega) j hj (by omega) (by omega)
    · have u1 := t1.1 z1; have u2 := t2.1 z2; exact ⟨by omega, by omega, fun q => absurd u2 q⟩
  show zL _ _ _ (.inl r1528 :: []) _
  refine zL_pop (pc' := 1532) dL_1531 rfl rfl ?_
  refine zL_goto (tgt := 1581) dL_1532 rfl ?_
  exact nx _ hS hR hC hT gA gB gC gD gR gV gE gS gP gF gT
