/-! the law's cases, further -/
set_option maxHeartbeats 4000000 in
theorem lc_7 {Γ : Lc} {i : Int} {h : Hp} (hX : XI Γ.1) (hcs : Γ.2.2.2.2.2.1 ≤ room_1.cells ∧ Γ.2.2.2.2.2.2 ≤ room_1.slots) (hm : Γ.2.2.1 < 2147483648) (hi : 0 ≤ i ∧ i + 6 ≤ Γ.2.2.1) (hS : SI h) (hR : KR h) (hC : KC h) (hT : TI h) (gA : TGA h) (gB : TGB h) (gC : TGC h) (gD : TGD h) (gR : TGR h) (gV : TGV h) (gE : TGE h) (gS : TGS h) (gP : TGP h) (gF : TGF h) (nx : ∀ h' : Hp, SI h' → KR h' → KC h' → TI h' → TGA h' → TGB h' → TGC h' → TGD h' → TGR h' → TGV h' → TGE h' → TGS h' → TGP h' → TGF h' → zL Γ 1580 (lsL i) [] h') : zL Γ 497 (lsL i) [] h := by
  refine zL_aload_n (pc' := 498) dL_497 rfl rfl ?_
  refine zL_aload_n (pc' := 499) dL_498 rfl rfl ?_
  refine zL_iload_n (pc' := 500) dL_499 rfl rfl ?_
  refine zL_iconst (pc' := 501) dL_500 rfl ?_
  refine zL_iadd (pc' := 502) dL_501 rfl ?_
  refine zL_sldE (pc' := 503) (by omega) hm dL_502 rfl (fun v502 e502 q502 => ?_)
  have htb : ∀ j : Nat, (j : Int) < h 31 1 → 0 ≤ h 32 j ∧ h 32 j ≤ 255 := fun j hj => by have z2 := hT; unfold TI at z2; have z := gB j (by omega); omega
  have hev : Ev h := by have z := gC.1; have z2 := hT; unfold TI at z2; exact ⟨by omega, by omega⟩
  refine zL_inv (pc' := 506) hcs kX11_truth vX11_truth lk_L_46 ⟨Nat.le_of_ble_eq_true rfl, Nat.le_of_ble_eq_true rfl⟩ tb30 vq11 rfl [_] (s_X11_truthE hS hR hC _ ⟨e502.1, e502.2⟩ htb hev) dL_503 rfl (Nat.le_of_ble_eq_true rfl) rfl ?_
  have hC_503 := hC
  rintro r503 h503 ⟨f503, p503⟩; have F503 := f503; obtain ⟨g503, hS, hR, hC⟩ := f503
  obtain ⟨p503, ch503⟩ := p503
  have pR503 : PicRW h503 := PicRW_un (UnR.rf.fm F503 rfl) gP.1
  have pC503 : PicCW h503 := PicCW_ch hC_503 hC ch503 gP.2
  obtain ⟨p503_0, p503_1, p503_2, a503_0, a503_1⟩ := p503
  have y503_0_25 : h503 0 25 = h 0 25 := g503 0 25 rfl rfl
  have y503_33_0 : h503 33 0 = h 33 0 := g503 33 0 rfl rfl
  have y503_33_1 : h503 33 1 = h 33 1 := g503 33 1 rfl rfl
  have y503_33_2 : h503 33 2 = h 33 2 := g503 33 2 rfl rfl
  have y503_0_11 : h503 0 11 = h 0 11 := g503 0 11 rfl rfl
  have y503_0_12 : h503 0 12 = h 0 12 := g503 0 12 rfl rfl
  have y503_0_13 : h503 0 13 = h 0 13 := g503 0 13 rfl rfl
  have y503_30_11 : h503 30 11 = h 30 11 := g503 30 11 rfl rfl
  have y503_0_22 : h503 0 22 = h 0 22 := g503 0 22 rfl rfl
  have y503_36_0 : h503 36 0 = h 36 0 := g503 36 0 rfl rfl
  have y503_36_1 : h503 36 1 = h 36 1 := g503 36 1 rfl rfl
  have y503_36_2 : h503 36 2 = h 36 2 := g503 36 2 rfl rfl
  have y503_0_16 : h503 0 16 = h 0 16 := g503 0 16 rfl rfl
  have y503_0_17 : h503 0 17 = h 0 17 := g503 0 17 rfl rfl
  have y503_0_18 : h503 0 18 = h 0 18 := g503 0 18 rfl rfl
  have y503_0_14 : h503 0 14 = h 0 14 := g503 0 14 rfl rfl
  have y503_0_15 : h503 0 15 = h 0 15 := g503 0 15 rfl rfl
  have y503_0_19 : h503 0 19 = h 0 19 := g503 0 19 rfl rfl
  have y503_0_20 : h503 0 20 = h 0 20 := g503 0 20 rfl rfl
  have y503_30_10 : h503 30 10 = h 30 10 := g503 30 10 rfl rfl
  have y503_30_12 : h503 30 12 = h 30 12 := g503 30 12 rfl rfl
  have y503_41_0 : h503 41 0 = h 41 0 := g503 41 0 rfl rfl
  have y503_41_1 : h503 41 1 = h 41 1 := g503 41 1 rfl rfl
  have y503_45_0 : h503 45 0 = h 45 0 := g503 45 0 rfl rfl
  have y503_45_1 : h503 45 1 = h 45 1 := g503 45 1 rfl rfl
  have hT1 := hT; have gA1 := gA; have gB1 := gB; have gC1 := gC; have gD1 := gD; have gR1 := gR; have gV1 := gV; have gE1 := gE; have gS1 := gS; have gP1 := gP; have gF1 := gF
  show zL _ _ _ (.inl r503 :: []) _
  refine zL_pop (pc' := 507) dL_506 rfl rfl ?_
  refine zL_aload_n (pc' := 508) dL_507 rfl rfl ?_
  refine zL_aload_n (pc' := 509) dL_508 rfl rfl ?_
  refine zL_iload_n (pc' := 510) dL_509 rfl rfl ?_
  refine zL_iconst (pc' := 511) dL_510 rfl ?_
  refine zL_iadd (pc' := 512) dL_511 rfl ?_
  refine zL_sldE (pc' := 513) (by omega) hm dL_512 rfl (fun v512 e512 q512 => ?_)
  refine zL_inv (pc' := 516) hcs kX12_truth vX12_truth lk_L_49 ⟨Nat.le_of_ble_eq_true rfl, Nat.le_of_ble_eq_true rfl⟩ tb0 vq12 rfl [_] (s_X12_truthE hS hR hC _ ⟨e512.1, e512.2⟩) dL_513 rfl (Nat.le_of_ble_eq_true rfl) rfl ?_
  have hC_513 := hC
  rintro r513 h513 ⟨f513, p513⟩; have F513 := f513; obtain ⟨g513, hS, hR, hC⟩ := f513
  obtain ⟨p513, ch513⟩ := p513
  have pR513 : PicRW h513 := PicRW_ch ch513 pR503
  have pC513 : PicCW h513 := PicCW_un (KCm hC_513).2 (UnC.rf.fm F513 rfl) pC503
  obtain ⟨p513_0, p513_1, p513_2, a513_0, a513_1⟩ := p513
  have y513_31_1 : h513 31 1 = h503 31 1 := g513 31 1 rfl rfl
  have y513_33_0 : h513 33 0 = h503 33 0 := g513 33 0 rfl rfl
  have y513_33_1 : h513 33 1 = h503 33 1 := g513 33 1 rfl rfl
  have y513_33_2 : h513 33 2 = h503 33 2 := g513 33 2 rfl rfl
  have y513_0_11 : h513 0 11 = h503 0 11 := g513 0 11 rfl rfl
  have y513_0_12 : h513 0 12 = h503 0 12 := g513 0 12 rfl rfl
  have y513_0_13 : h513 0 13 = h503 0 13 := g513 0 13 rfl rfl
  have y513_30_11 : h513 30 11 = h503 30 11 := g513 30 11 rfl rfl
  have y513_0_22 : h513 0 22 = h503 0 22 := g513 0 22 rfl rfl
  have y513_36_0 : h513 36 0 = h503 36 0 := g513 36 0 rfl rfl
  have y513_36_1 : h513 36 1 = h503 36 1 := g513 36 1 rfl rfl
  have y513_36_2 : h513 36 2 = h503 36 2 := g513 36 2 rfl rfl
  have y513_0_16 : h513 0 16 = h503 0 16 := g513 0 16 rfl rfl
  have y513_0_17 : h513 0 17 = h503 0 17 := g513 0 17 rfl rfl
  have y513_0_18 : h513 0 18 = h503 0 18 := g513 0 18 rfl rfl
  have y513_0_14 : h513 0 14 = h503 0 14 := g513 0 14 rfl rfl
  have y513_0_15 : h513 0 15 = h503 0 15 := g513 0 15 rfl rfl
  have y513_0_19 : h513 0 19 = h503 0 19 := g513 0 19 rfl rfl
  have y513_0_20 : h513 0 20 = h503 0 20 := g513 0 20 rfl rfl
  have y513_30_10 : h513 30 10 = h503 30 10 := g513 30 10 rfl rfl
  have y513_30_12 : h513 30 12 = h503 30 12 := g513 30 12 rfl rfl
  have y513_41_0 : h513 41 0 = h503 41 0 := g513 41 0 rfl rfl
  have y513_41_1 : h513 41 1 = h503 41 1 := g513 41 1 rfl rfl
  have y513_45_0 : h513 45 0 = h503 45 0 := g513 45 0 rfl rfl
  have y513_45_1 : h513 45 1 = h503 45 1 := g513 45 1 rfl rfl
  have qe512 : v512 = v502 := by rw [q512, q502]
  replace hT : TI h513 := by
    have hT2 := hT1
    unfold TI at hT2 ⊢
    omega
  replace gA : TGA h513 := by
    have hT2 := hT1
    unfold TI at hT2
    have k1 := KRw hR; have k2 := KRh hR
    clear hcs hm hi
    have r01 : r503 = 0 ∨ (r503 = 1 ∧ 6 ≤ h 0 25) := by
      have lw := hT2.1
      rcases p503_2 with ⟨z1, z2, -⟩ | ⟨z1, -, -⟩
      · exact Or.inr ⟨z1, by omega⟩
      · exact Or.inl z1
    have rr : r513 = r503 := by
      have pq := p513_2
      rw [qe512, y503_0_25, ← hT2.1] at pq
      rcases p503_2 with ⟨z1, z2, -⟩ | ⟨z1, z2, -⟩ <;> rcases pq with ⟨w1, w2, -⟩ | ⟨w1, w2, -⟩
      · rw [z1, w1]
      · exact absurd z2 w2
      · exact absurd w2 z2
      · rw [z1, w1]
    refine ⟨fun j hj => ?_, fun q j hj => ?_⟩
    · have d1 := gA1.1 j hj; have f503_1 := g503 1 j rfl rfl; have f503_10 := g503 10 j rfl rfl; have f513_34 := g513 34 j rfl rfl; have f513_35 := g513 35 j rfl rfl; have et : 6 ≤ h 0 25 → trT v512 (h503 0 11) (h503 0 12) (fun i => h503 12 i % 256) (256 * ((((j % 16 : Nat) : Int) + h503 0 13) % 2 + (((j / 16 : Nat) : Int) + h503 0 13 / 2) % 2).toNat + j) = trT v502 (h 33 0) (h 33 1) (h 32) (256 * ((((j % 16 : Nat) : Int) + h 33 2) % 2 + (((j / 16 : Nat) : Int) + h 33 2 / 2) % 2).toNat + j) := (fun h6 => by rw [qe512, y503_0_11, y503_0_12, y503_0_13, hT2.2.1.1, hT2.2.1.2.1, hT2.2.1.2.2]; exact trT_cong (by show h503 12 _ % 256 = _; rw [g503 12 _ rfl rfl]; exact (gB1 _ (by omega)).symm) (by show h503 12 _ % 256 = _; rw [g503 12 _ rfl rfl]; exact (gB1 _ (by omega)).symm))
      rcases r01 with z0 | ⟨z1, z6⟩
      · obtain ⟨u1, u2⟩ := (a503_0 j).2 z0; obtain ⟨w1, w2⟩ := (a513_0 j).2 (rr.trans z0); clear et a503_0 a513_0; omega
      · obtain ⟨u0, u1, u2⟩ := (a503_0 j).1 z1; obtain ⟨w1, w2⟩ := (a513_0 j).1 (rr.trans z1); have u0 := u0 hj; have et := et z6; clear p503_2 p513_2
        have eir : ((((j / 16 : Nat) : Int) < h503 0 12 ∧ ((j % 16 : Nat) : Int) < h503 0 11) ↔ (((j / 16 : Nat) : Int) < h 33 1 ∧ ((j % 16 : Nat) : Int) < h 33 0)) := by rw [y503_0_12, y503_0_11, hT2.2.1.1, hT2.2.1.2.1]
        by_cases ir : (((j / 16 : Nat) : Int) < h 33 1 ∧ ((j % 16 : Nat) : Int) < h 33 0)
        · have u1 := u1 ir; obtain ⟨w3, w4⟩ := w1 (eir.mpr ir); clear u2 w1 w2 a503_0 a513_0 eir; omega
        · have u2 := u2 ir; obtain ⟨w3, w4⟩ := w2 (fun z => ir (eir.mp z)); clear u1 w1 w2 a503_0 a513_0 eir et; omega
    · have d2 : h 0 22 ≠ 0 → _ := fun z => gA1.2 z j hj; have f503_6 := g503 6 j rfl rfl; have f503_37 := g503 37 j rfl rfl; have f503_11 := g503 11 j rfl rfl; have f503_38 := g503 38 j rfl rfl; have f513_6 := g513 6 j rfl rfl; have f513_37 := g513 37 j rfl rfl; have f513_11 := g513 11 j rfl rfl; have f513_38 := g513 38 j rfl rfl; clear a503_0 a513_0; omega
  replace gB : TGB h513 := by
    have hT2 := hT1
    unfold TI at hT2
    have k1 := KRw hR; have k2 := KRh hR
    clear hcs hm hi
    intro j hj
    have d3 := gB1 j; have f503_12 := g503 12 j rfl rfl; have f503_32 := g503 32 j rfl rfl; have f513_12 := g513 12 j rfl rfl; have f513_32 := g513 32 j rfl rfl; omega
  replace gC : TGC h513 := TGC_of gC1  ((y513_0_15).trans (y503_0_15)) ((y513_30_12).trans (y503_30_12)) ((y513_0_11).trans (y503_0_11)) ((y513_0_12).trans (y503_0_12)) ((y513_0_20).trans (y503_0_20)) ((y513_30_10).trans (y503_30_10)) ((y513_0_16).trans (y503_0_16)) ((y513_0_17).trans (y503_0_17)) ((y513_0_22).trans (y503_0_22))
  replace gD : TGD h513 := TGD_of gD1  ((y513_41_0).trans (y503_41_0)) ((y513_0_14).trans (y503_0_14)) ((y513_45_0).trans (y503_45_0)) ((y513_0_19).trans (y503_0_19)) ((y513_0_22).trans (y503_0_22))
  replace gR : TGR h513 := TGR_of gR1 (fun j => (g513 3 j rfl rfl).trans (g503 3 j rfl rfl)) (fun j => (g513 4 j rfl rfl).trans (g503 4 j rfl rfl)) (fun j => (g513 5 j rfl rfl).trans (g503 5 j rfl rfl)) (fun j => (g513 7 j rfl rfl).trans (g503 7 j rfl rfl)) (fun j => (g513 8 j rfl rfl).trans (g503 8 j rfl rfl)) (fun j => (g513 9 j rfl rfl).trans (g503 9 j rfl rfl)) (fun j => (g513 42 j rfl rfl).trans (g503 42 j rfl rfl)) (fun j => (g513 43 j rfl rfl).trans (g503 43 j rfl rfl)) (fun j => (g513 44 j rfl rfl).trans (g503 44 j rfl rfl)) (fun j => (g513 46 j rfl rfl).trans (g503 46 j rfl rfl)) (fun j => (g513 47 j rfl rfl).trans (g503 47 j rfl rfl)) (fun j => (g513 48 j rfl rfl).trans (g503 48 j rfl rfl)) ((y513_0_14).trans (y503_0_14)) ((y513_0_19).trans (y503_0_19)) ((y513_0_22).trans (y503_0_22))
  replace gV : TGV h513 := by
    have hT2 := hT1
    unfold TI at hT2
    have k1 := KRw hR; have k2 := KRh hR
    clear hcs hm hi
    have r01 : r503 = 0 ∨ r503 = 1 := by omega
    have h6 : r503 = 1 → 6 ≤ h 31 1 := by omega
    have tb : r503 = 1 → ∀ i : Nat, i < 6 → 0 ≤ h 32 i ∧ h 32 i ≤ 255 := fun q i hi => by have z := gB1 i (by have := h6 q; omega); omega
    have cb : ∀ j : Nat, ((((j % 16 : Nat) : Int) + h 33 2) % 2 + (((j / 16 : Nat) : Int) + h 33 2 / 2) % 2).toNat ≤ 2 := fun j => by omega
    have w4 : 4 ≤ h 33 0 := by omega
    refine ⟨fun j hj => ?_, fun q j hj => ?_⟩
    · have fa := a503_0 j
      rw [g513 34 j rfl rfl]
      rcases r01 with z0 | z1
      · rw [(fa.2 z0).1]; exact gV1.1 j hj
      · obtain ⟨-, u1, u2⟩ := fa.1 z1
        by_cases ir : (((j / 16 : Nat) : Int) < h 33 1 ∧ ((j % 16 : Nat) : Int) < h 33 0)
        · rw [u1 ir]; exact trT_b (cb j) hj ir.2 w4 (tb z1)
        · rw [u2 ir]; exact gV1.1 j hj
    · have d2 : h 0 22 ≠ 0 → _ := fun z => gV1.2 z j hj; have f503_37 := g503 37 j rfl rfl; have f513_37 := g513 37 j rfl rfl; omega
  replace gE : TGE h513 := TGE_of gE1 (fun j => (g513 3 j rfl rfl).trans (g503 3 j rfl rfl)) (fun j => (g513 7 j rfl rfl).trans (g503 7 j rfl rfl)) ((y513_0_14).trans (y503_0_14)) ((y513_0_19).trans (y503_0_19)) ((y513_0_22).trans (y503_0_22))
  replace gS : TGS h513 := TGS_of gS1 (fun j => (g513 3 j rfl rfl).trans (g503 3 j rfl rfl)) (fun j => (g513 4 j rfl rfl).trans (g503 4 j rfl rfl)) (fun j => (g513 5 j rfl rfl).trans (g503 5 j rfl rfl)) (fun j => (g513 7 j rfl rfl).trans (g503 7 j rfl rfl)) (fun j => (g513 8 j rfl rfl).trans (g503 8 j rfl rfl)) (fun j => (g513 9 j rfl rfl).trans (g503 9 j rfl rfl)) ((y513_0_14).trans (y503_0_14)) ((y513_0_19).trans (y503_0_19)) ((y513_0_22).trans (y503_0_22))
  replace gP : TGP h513 := by
    have hT2 := hT1
    unfold TI at hT2
    have k1 := KRw hR; have k2 := KRh hR
    clear hcs hm hi
    exact ⟨pR513, pC513⟩
  replace gF : TGF h513 := TGF_of gF1 (fun j => (g513 3 j rfl rfl).trans (g503 3 j rfl rfl)) (fun j => (g513 7 j rfl rfl).trans (g503 7 j rfl rfl)) ((y513_41_1).trans (y503_41_1)) ((y513_0_14).trans (y503_0_14)) ((y513_45_1).trans (y503_45_1)) ((y513_0_19).trans (y503_0_19)) ((y513_0_22).trans (y503_0_22))
  show zL _ _ _ (.inl r513 :: []) _
  refine zL_pop (pc' := 517) dL_516 rfl rfl ?_
  refine zL_goto (tgt := 1580) dL_517 rfl ?_
  exact nx _ hS hR hC hT gA gB gC gD gR gV gE gS gP gF
