/-! the law's cases, further -/
set_option maxHeartbeats 4000000 in
theorem lc_35 {Γ : Lc} {i : Int} {h : Hp} (hX : XI Γ.1) (hcs : Γ.2.2.2.2.2.1 ≤ room_1.cells ∧ Γ.2.2.2.2.2.2 ≤ room_1.slots) (hm : Γ.2.2.1 < 2147483648) (hi : 0 ≤ i ∧ i + 6 ≤ Γ.2.2.1) (hS : SI h) (hR : KR h) (hC : KC h) (hT : TI h) (gA : TGA h) (gB : TGB h) (gC : TGC h) (gD : TGD h) (gR : TGR h) (gV : TGV h) (gE : TGE h) (gS : TGS h) (gP : TGP h) (gF : TGF h) (nx : ∀ h' : Hp, SI h' → KR h' → KC h' → TI h' → TGA h' → TGB h' → TGC h' → TGD h' → TGR h' → TGV h' → TGE h' → TGS h' → TGP h' → TGF h' → zL Γ 1580 (lsL i) [] h') : zL Γ 1521 (lsL i) [] h := by
  refine zL_aload_n (pc' := 1522) dL_1521 rfl rfl ?_
  refine zL_inv (pc' := 1525) hcs kX11_undo vX11_undo lk_L_163 ⟨Nat.le_of_ble_eq_true rfl, Nat.le_of_ble_eq_true rfl⟩ tb30 vq11 rfl [] (s_X11_undoW hS hR hC) dL_1522 rfl (Nat.le_of_ble_eq_true rfl) rfl ?_
  have hC_1522 := hC
  rintro r1522 h1522 ⟨f1522, p1522⟩; have F1522 := f1522; obtain ⟨g1522, hS, hR, hC⟩ := f1522
  obtain ⟨p1522, ch1522⟩ := p1522
  have pR1522 : PicRW h1522 := PicRW_un (UnR.rf.fm F1522 rfl) gP.1
  have pC1522 : PicCW h1522 := PicCW_ch hC_1522 hC ch1522 gP.2
  obtain ⟨p1522_0, p1522_1, p1522_2, a1522_0, a1522_1, a1522_2⟩ := p1522
  have y1522_0_25 : h1522 0 25 = h 0 25 := g1522 0 25 rfl rfl
  have y1522_31_1 : h1522 31 1 = h 31 1 := g1522 31 1 rfl rfl
  have y1522_0_11 : h1522 0 11 = h 0 11 := g1522 0 11 rfl rfl
  have y1522_0_12 : h1522 0 12 = h 0 12 := g1522 0 12 rfl rfl
  have y1522_0_13 : h1522 0 13 = h 0 13 := g1522 0 13 rfl rfl
  have y1522_30_11 : h1522 30 11 = h 30 11 := g1522 30 11 rfl rfl
  have y1522_0_22 : h1522 0 22 = h 0 22 := g1522 0 22 rfl rfl
  have y1522_36_0 : h1522 36 0 = h 36 0 := g1522 36 0 rfl rfl
  have y1522_36_1 : h1522 36 1 = h 36 1 := g1522 36 1 rfl rfl
  have y1522_36_2 : h1522 36 2 = h 36 2 := g1522 36 2 rfl rfl
  have y1522_0_16 : h1522 0 16 = h 0 16 := g1522 0 16 rfl rfl
  have y1522_0_17 : h1522 0 17 = h 0 17 := g1522 0 17 rfl rfl
  have y1522_0_18 : h1522 0 18 = h 0 18 := g1522 0 18 rfl rfl
  have y1522_0_14 : h1522 0 14 = h 0 14 := g1522 0 14 rfl rfl
  have y1522_0_15 : h1522 0 15 = h 0 15 := g1522 0 15 rfl rfl
  have y1522_0_19 : h1522 0 19 = h 0 19 := g1522 0 19 rfl rfl
  have y1522_0_20 : h1522 0 20 = h 0 20 := g1522 0 20 rfl rfl
  have y1522_30_10 : h1522 30 10 = h 30 10 := g1522 30 10 rfl rfl
  have y1522_45_0 : h1522 45 0 = h 45 0 := g1522 45 0 rfl rfl
  have y1522_45_1 : h1522 45 1 = h 45 1 := g1522 45 1 rfl rfl
  have hT1 := hT; have gA1 := gA; have gB1 := gB; have gC1 := gC; have gD1 := gD; have gR1 := gR; have gV1 := gV; have gE1 := gE; have gS1 := gS; have gP1 := gP; have gF1 := gF
  show zL _ _ _ (.inl r1522 :: []) _
  refine zL_pop (pc' := 1526) dL_1525 rfl rfl ?_
  refine zL_aload_n (pc' := 1527) dL_1526 rfl rfl ?_
  refine zL_inv (pc' := 1530) hcs kX12_undo vX12_undo lk_L_167 ⟨Nat.le_of_ble_eq_true rfl, Nat.le_of_ble_eq_true rfl⟩ tb0 vq12 rfl [] (s_X12_undoW hS hR hC) dL_1527 rfl (Nat.le_of_ble_eq_true rfl) rfl ?_
  have hC_1527 := hC
  rintro r1527 h1527 ⟨f1527, p1527⟩; have F1527 := f1527; obtain ⟨g1527, hS, hR, hC⟩ := f1527
  obtain ⟨⟨p1527_0, ch1527⟩, a1527_0, pD1527, q1527_3, q1527_4, q1527_5⟩ := p1527
  have pR1527 : PicRW h1527 := PicRW_ch ch1527 pR1522
  have pC1527 : PicCW h1527 := PicCW_un (KCm hC_1527).2 (UnC.rf.fm F1527 rfl) pC1522
  have y1527_0_25 : h1527 0 25 = h1522 0 25 := g1527 0 25 rfl rfl
  have y1527_31_1 : h1527 31 1 = h1522 31 1 := g1527 31 1 rfl rfl
  have y1527_33_0 : h1527 33 0 = h1522 33 0 := g1527 33 0 rfl rfl
  have y1527_33_1 : h1527 33 1 = h1522 33 1 := g1527 33 1 rfl rfl
  have y1527_33_2 : h1527 33 2 = h1522 33 2 := g1527 33 2 rfl rfl
  have y1527_30_11 : h1527 30 11 = h1522 30 11 := g1527 30 11 rfl rfl
  have y1527_0_22 : h1527 0 22 = h1522 0 22 := g1527 0 22 rfl rfl
  have y1527_36_0 : h1527 36 0 = h1522 36 0 := g1527 36 0 rfl rfl
  have y1527_36_1 : h1527 36 1 = h1522 36 1 := g1527 36 1 rfl rfl
  have y1527_36_2 : h1527 36 2 = h1522 36 2 := g1527 36 2 rfl rfl
  have y1527_0_16 : h1527 0 16 = h1522 0 16 := g1527 0 16 rfl rfl
  have y1527_0_17 : h1527 0 17 = h1522 0 17 := g1527 0 17 rfl rfl
  have y1527_0_18 : h1527 0 18 = h1522 0 18 := g1527 0 18 rfl rfl
  have y1527_0_19 : h1527 0 19 = h1522 0 19 := g1527 0 19 rfl rfl
  have y1527_0_20 : h1527 0 20 = h1522 0 20 := g1527 0 20 rfl rfl
  have y1527_30_10 : h1527 30 10 = h1522 30 10 := g1527 30 10 rfl rfl
  have y1527_30_12 : h1527 30 12 = h1522 30 12 := g1527 30 12 rfl rfl
  have y1527_41_0 : h1527 41 0 = h1522 41 0 := g1527 41 0 rfl rfl
  have y1527_41_1 : h1527 41 1 = h1522 41 1 := g1527 41 1 rfl rfl
  have y1527_45_0 : h1527 45 0 = h1522 45 0 := g1527 45 0 rfl rfl
  have y1527_45_1 : h1527 45 1 = h1522 45 1 := g1527 45 1 rfl rfl
  replace hT : TI h1527 := by
    have hT2 := hT1
    unfold TI at hT2 ⊢
    omega
  replace gA : TGA h1527 := by
    have hT2 := hT1
    unfold TI at hT2
    have k1 := KRw hR; have k2 := KRh hR
    clear hcs hm hi
    have r01 : (r1522 = 0 ∧ r1527 = 0) ∨ (r1522 = 1 ∧ r1527 = 1 ∧ h 0 22 ≠ 0) := by omega
    refine ⟨fun j hj => ?_, fun q j hj => ?_⟩
    · have d1 := gA1.1 j hj; have f1522_1 := g1522 1 j rfl rfl; have f1522_10 := g1522 10 j rfl rfl; have f1522_6 := g1522 6 j rfl rfl; have f1522_37 := g1522 37 j rfl rfl; have f1522_11 := g1522 11 j rfl rfl; have f1522_38 := g1522 38 j rfl rfl; have f1527_34 := g1527 34 j rfl rfl; have f1527_35 := g1527 35 j rfl rfl; have f1527_6 := g1527 6 j rfl rfl; have f1527_37 := g1527 37 j rfl rfl; have f1527_11 := g1527 11 j rfl rfl; have f1527_38 := g1527 38 j rfl rfl
      rcases r01 with ⟨z0, z2⟩ | ⟨z1, z2, z3⟩
      · obtain ⟨u1, u2⟩ := (a1522_0 j).2 z0; have w := (a1527_0 j).2 z2; clear a1522_0 a1527_0; omega
      · obtain ⟨u1, u2⟩ := (a1522_0 j).1 z1 hj; have w := (a1527_0 j).1 z2; have d2 := gA1.2 z3 j hj; clear a1522_0 a1527_0 d1; omega
    · have d2 : h 0 22 ≠ 0 → _ := fun z => gA1.2 z j hj; have f1522_6 := g1522 6 j rfl rfl; have f1522_37 := g1522 37 j rfl rfl; have f1522_11 := g1522 11 j rfl rfl; have f1522_38 := g1522 38 j rfl rfl; have f1527_6 := g1527 6 j rfl rfl; have f1527_37 := g1527 37 j rfl rfl; have f1527_11 := g1527 11 j rfl rfl; have f1527_38 := g1527 38 j rfl rfl; clear a1522_0 a1527_0 r01; omega
  replace gB : TGB h1527 := TGB_of gB1 (fun j => (g1527 12 j rfl rfl).trans (g1522 12 j rfl rfl)) (fun j => (g1527 32 j rfl rfl).trans (g1522 32 j rfl rfl)) ((y1527_0_25).trans (y1522_0_25))
  replace gC : TGC h1527 := by
    have hT2 := hT1
    unfold TI at hT2
    have k1 := KRw hR; have k2 := KRh hR
    clear hcs hm hi
    have d4 := gC1
    unfold TGC at d4 ⊢
    omega
  replace gD : TGD h1527 := by
    have hT2 := hT1
    unfold TI at hT2
    have k1 := KRw hR; have k2 := KRh hR
    clear hcs hm hi
    have d4 := gD1
    unfold TGD at d4 ⊢
    omega
  replace gR : TGR h1527 := by
    have hT2 := hT1
    unfold TI at hT2
    have k1 := KRw hR; have k2 := KRh hR
    clear hcs hm hi
    have b64 := KCst hC; have b64k := hC.2.2.2.1.2.2; have m1 := KRm hR
    have u1522_3 : h1522 3 = h 3 := funext fun j => g1522 3 j rfl rfl
    have u1522_4 : h1522 4 = h 4 := funext fun j => g1522 4 j rfl rfl
    have u1522_5 : h1522 5 = h 5 := funext fun j => g1522 5 j rfl rfl
    have u1522_7 : h1522 7 = h 7 := funext fun j => g1522 7 j rfl rfl
    have u1522_8 : h1522 8 = h 8 := funext fun j => g1522 8 j rfl rfl
    have u1522_9 : h1522 9 = h 9 := funext fun j => g1522 9 j rfl rfl
    have u1522_46 : h1522 46 = h 46 := funext fun j => g1522 46 j rfl rfl
    have u1522_47 : h1522 47 = h 47 := funext fun j => g1522 47 j rfl rfl
    have u1522_48 : h1522 48 = h 48 := funext fun j => g1522 48 j rfl rfl
    have u1527_7 : h1527 7 = h1522 7 := funext fun j => g1527 7 j rfl rfl
    have u1527_8 : h1527 8 = h1522 8 := funext fun j => g1527 8 j rfl rfl
    have u1527_9 : h1527 9 = h1522 9 := funext fun j => g1527 9 j rfl rfl
    have u1527_42 : h1527 42 = h1522 42 := funext fun j => g1527 42 j rfl rfl
    have u1527_43 : h1527 43 = h1522 43 := funext fun j => g1527 43 j rfl rfl
    have u1527_44 : h1527 44 = h1522 44 := funext fun j => g1527 44 j rfl rfl
    have u1527_46 : h1527 46 = h1522 46 := funext fun j => g1527 46 j rfl rfl
    have u1527_47 : h1527 47 = h1522 47 := funext fun j => g1527 47 j rfl rfl
    have u1527_48 : h1527 48 = h1522 48 := funext fun j => g1527 48 j rfl rfl
    unfold TGR at gR1 ⊢
    refine ⟨?_, by intro q; rw [show h1527 7 = h 7 from (u1527_7.trans u1522_7), show h1527 8 = h 8 from (u1527_8.trans u1522_8), show h1527 9 = h 9 from (u1527_9.trans u1522_9), show h1527 46 = h 46 from (u1527_46.trans u1522_46), show h1527 47 = h 47 from (u1527_47.trans u1522_47), show h1527 48 = h 48 from (u1527_48.trans u1522_48), y1527_0_19, y1522_0_19]; exact gR1.2 (by omega)⟩
    by_cases c : r1522 = 1
    · have c2 : r1527 = 1 := by omega
      have t := gR1.2 (by omega)
      refine t.cp (by omega) (by omega) (fun j => ?_) (fun j hj => ?_) (fun j hj => ?_) (fun j hj => ?_) (fun j hj => ?_) (fun j hj => ?_) (fun j hj => ?_)
      · have z := (b64k (j + 1)).2; rw [(u1527_47.trans u1522_47)] at z; exact z
      · show h1527 42 (j + 1) = h 46 (j + 1); rw [u1527_42]; exact ((a1522_1 (j + 1)).1 c (by omega)).1
      · show h1527 43 (j + 1) = h 47 (j + 1); rw [u1527_43]; exact ((a1522_1 (j + 1)).1 c (by omega)).2
      · rw [u1527_44]; exact (a1522_2 j).1 c hj
      · rw [(q1527_3 j).1 c2 hj, u1522_7]
      · rw [(q1527_4 j).1 c2 hj, u1522_8]
      · rw [(q1527_5 j).1 c2 (by omega), u1522_9]
    · have c1 : r1522 = 0 := by omega
      have c2 : r1527 = 0 := by omega
      rw [show h1527 0 14 = h 0 14 by omega, u1527_42, u1527_43, u1527_44, show h1522 42 = h 42 from funext fun j => ((a1522_1 j).2 c1).1, show h1522 43 = h 43 from funext fun j => ((a1522_1 j).2 c1).2, show h1522 44 = h 44 from funext fun j => (a1522_2 j).2 c1, show h1527 3 = h 3 from (funext fun j => (q1527_3 j).2 c2).trans u1522_3, show h1527 4 = h 4 from (funext fun j => (q1527_4 j).2 c2).trans u1522_4, show h1527 5 = h 5 from (funext fun j => (q1527_5 j).2 c2).trans u1522_5]
      exact gR1.1
  replace gV : TGV h1527 := by
    have hT2 := hT1
    unfold TI at hT2
    have k1 := KRw hR; have k2 := KRh hR
    clear hcs hm hi
    refine ⟨fun j hj => ?_, fun q j hj => ?_⟩
    · have d1 := gV1.1 j hj; have d2 : h 0 22 ≠ 0 → _ := fun z => gV1.2 z j hj; have f1527_34 := g1527 34 j rfl rfl; have f1522_37 := g1522 37 j rfl rfl; have f1527_37 := g1527 37 j rfl rfl; have fa1522_0 := a1522_0 j; omega
    · have d2 : h 0 22 ≠ 0 → _ := fun z => gV1.2 z j hj; have f1522_37 := g1522 37 j rfl rfl; have f1527_37 := g1527 37 j rfl rfl; have fa1522_0 := a1522_0 j; omega
  replace gE : TGE h1527 := by
    have hT2 := hT1
    unfold TI at hT2
    have k1 := KRw hR; have k2 := KRh hR
    clear hcs hm hi
    have m1 := KRm hR
    have q22 : h1527 0 22 = h 0 22 := y1527_0_22.trans y1522_0_22
    have e19 : h1527 0 19 = h 0 19 := y1527_0_19.trans y1522_0_19
    have e7 : ∀ j : Nat, h1527 7 j = h 7 j := fun j => (g1527 7 j rfl rfl).trans (g1522 7 j rfl rfl)
    refine ⟨?_, fun q => by rw [e19]; exact (gE1.2 (by rw [← q22]; exact q)).cong (fun k _ => e7 k)⟩
    by_cases c : r1522 = 1
    · have c2 : r1527 = 1 := by omega
      have q0 : h 0 22 ≠ 0 := by omega
      have e14 := (pD1527.2 c2).trans y1522_0_19
      rw [e14]; exact (gE1.2 q0).cong (fun k hk => ((q1527_3 k).1 c2 (by omega)).trans (g1522 7 k rfl rfl))
    · have c2 : r1527 = 0 := by omega
      have e14 := (pD1527.1 c2).trans y1522_0_14
      rw [e14]; exact gE1.1.cong (fun k _ => ((q1527_3 k).2 c2).trans (g1522 3 k rfl rfl))
  replace gS : TGS h1527 := by
    have hT2 := hT1
    unfold TI at hT2
    have k1 := KRw hR; have k2 := KRh hR
    clear hcs hm hi
    have m1 := KRm hR
    have q22 : h1527 0 22 = h 0 22 := y1527_0_22.trans y1522_0_22
    have e19 : h1527 0 19 = h 0 19 := y1527_0_19.trans y1522_0_19
    have e7 : h1527 7 = h 7 := funext fun j => (g1527 7 j rfl rfl).trans (g1522 7 j rfl rfl)
    have e8 : h1527 8 = h 8 := funext fun j => (g1527 8 j rfl rfl).trans (g1522 8 j rfl rfl)
    have e9 : h1527 9 = h 9 := funext fun j => (g1527 9 j rfl rfl).trans (g1522 9 j rfl rfl)
    refine ⟨?_, fun q => by rw [e19, e7, e8, e9]; exact gS1.2 (by rw [← q22]; exact q)⟩
    by_cases c : r1522 = 1
    · have c2 : r1527 = 1 := by omega
      have q0 : h 0 22 ≠ 0 := by omega
      have e14 := (pD1527.2 c2).trans y1522_0_19
      rw [e14]; exact (gS1.2 q0).cp (by omega) (fun k => by have z := KRk8 hR k; rw [e8] at z; exact z) (fun j hj => ((q1527_3 j).1 c2 hj).trans (g1522 7 j rfl rfl)) (fun j hj => ((q1527_4 j).1 c2 hj).trans (g1522 8 j rfl rfl)) (fun j hj => ((q1527_5 j).1 c2 hj).trans (g1522 9 j rfl rfl))
    · have c2 : r1527 = 0 := by omega
      have e14 := (pD1527.1 c2).trans y1522_0_14
      rw [e14, show h1527 3 = h 3 from funext fun j => ((q1527_3 j).2 c2).trans (g1522 3 j rfl rfl), show h1527 4 = h 4 from funext fun j => ((q1527_4 j).2 c2).trans (g1522 4 j rfl rfl), show h1527 5 = h 5 from funext fun j => ((q1527_5 j).2 c2).trans (g1522 5 j rfl rfl)]
      exact gS1.1
  replace gP : TGP h1527 := by
    have hT2 := hT1
    unfold TI at hT2
    have k1 := KRw hR; have k2 := KRh hR
    clear hcs hm hi
    exact ⟨pR1527, pC1527⟩
  replace gF : TGF h1527 := by
    have hT2 := hT1
    unfold TI at hT2
    have k1 := KRw hR; have k2 := KRh hR
    clear hcs hm hi
    have m1 := KRm hR
    have q22 : h1527 0 22 = h 0 22 := y1527_0_22.trans y1522_0_22
    have e45 : h1527 45 1 = h 45 1 := y1527_45_1.trans y1522_45_1
    have e19 : h1527 0 19 = h 0 19 := y1527_0_19.trans y1522_0_19
    have e7 : ∀ j : Nat, h1527 7 j = h 7 j := fun j => (g1527 7 j rfl rfl).trans (g1522 7 j rfl rfl)
    refine ⟨?_, fun q => by have q' : h 0 22 ≠ 0 := (fun z => q (q22.trans z)); exact ⟨by rw [e45]; exact (gF1.2 q').1, by rw [e45, e19]; exact (gF1.2 q').2.1, fun j hj => by rw [e7 j, e45]; exact (gF1.2 q').2.2 j (by rw [← e19]; exact hj)⟩⟩
    by_cases c : r1522 = 1
    · have c2 : r1527 = 1 := by omega
      have q0 : h 0 22 ≠ 0 := by omega
      have e41 := y1527_41_1.trans (p1522_2.2.2 c).2
      have e14 := (pD1527.2 c2).trans y1522_0_19
      exact ⟨by rw [e41]; exact (gF1.2 q0).1, by rw [e41, e14]; exact (gF1.2 q0).2.1, fun j hj => by rw [((q1527_3 j).1 c2 (by omega)).trans (g1522 7 j rfl rfl), e41]; exact (gF1.2 q0).2.2 j (by rw [← e14]; exact hj)⟩
    · have c1 : r1522 = 0 := by omega
      have c2 : r1527 = 0 := by omega
      have e41 := y1527_41_1.trans (p1522_2.2.1 c1).2
      have e14 := (pD1527.1 c2).trans y1522_0_14
      have e3 : ∀ j : Nat, h1527 3 j = h 3 j := fun j => ((q1527_3 j).2 c2).trans (g1522 3 j rfl rfl)
      exact ⟨by rw [e41]; exact gF1.1.1, by rw [e41, e14]; exact gF1.1.2.1, fun j hj => by rw [e3 j, e41]; exact gF1.1.2.2 j (by rw [← e14]; exact hj)⟩
  show zL _ _ _ (.inl r1527 :: []) _
  refine zL_pop (pc' := 1531) dL_1530 rfl rfl ?_
  refine zL_goto (tgt := 1580) dL_1531 rfl ?_
  exact nx _ hS hR hC hT gA gB gC gD gR gV gE gS gP gF
