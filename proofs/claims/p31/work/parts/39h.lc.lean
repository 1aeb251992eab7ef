/-! the law's cases, further -/
set_option maxHeartbeats 4000000 in
theorem lc_17 {Γ : Lc} {i : Int} {h : Hp} (hX : XI Γ.1) (hcs : Γ.2.2.2.2.2.1 ≤ room_1.cells ∧ Γ.2.2.2.2.2.2 ≤ room_1.slots) (hm : Γ.2.2.1 < 2147483648) (hi : 0 ≤ i ∧ i + 6 ≤ Γ.2.2.1) (hS : SI h) (hR : KR h) (hC : KC h) (hT : TI h) (gA : TGA h) (gB : TGB h) (gC : TGC h) (gD : TGD h) (gR : TGR h) (gV : TGV h) (gE : TGE h) (gS : TGS h) (gP : TGP h) (gF : TGF h) (nx : ∀ h' : Hp, SI h' → KR h' → KC h' → TI h' → TGA h' → TGB h' → TGC h' → TGD h' → TGR h' → TGV h' → TGE h' → TGS h' → TGP h' → TGF h' → zL Γ 1580 (lsL i) [] h') : zL Γ 837 (lsL i) [] h := by
  refine zL_aload_n (pc' := 838) dL_837 rfl rfl ?_
  refine zL_aload_n (pc' := 839) dL_838 rfl rfl ?_
  refine zL_iload_n (pc' := 840) dL_839 rfl rfl ?_
  refine zL_iconst (pc' := 841) dL_840 rfl ?_
  refine zL_iadd (pc' := 842) dL_841 rfl ?_
  refine zL_sldE (pc' := 843) (by omega) hm dL_842 rfl (fun v842 e842 q842 => ?_)
  have iP : IPW h := IPW_of hR hC hT gA gV gE gS gD gR gP
  refine zL_inv (pc' := 846) hcs kX11_ways vX11_ways lk_L_89 ⟨Nat.le_of_ble_eq_true rfl, Nat.le_of_ble_eq_true rfl⟩ tb30 vq11 rfl [_] (s_X11_ways (b := bW) (κ := _) hC (Fr.rf (b := bW) hS iP) _ ⟨e842.1, e842.2⟩ shW_.ok) dL_843 rfl (Nat.le_of_ble_eq_true rfl) rfl ?_
  rintro r843 h843 ⟨f843, p843⟩; have g843 : ∀ k i, key k i = true → inW ([] : List (Nat × Nat)) k i = false → h843 k i = h k i := fun k i hk _ => f843.1 k i hk
  replace iP : IPW h843 := f843.inv; replace hS := f843.2.2; replace hR := KR_tr hR f843; replace hC := KC_tr hC f843; have pR843 := iP.1.1; have pC843 := iP.1.2
  have y843_0_25 : h843 0 25 = h 0 25 := g843 0 25 rfl rfl
  have y843_31_1 : h843 31 1 = h 31 1 := g843 31 1 rfl rfl
  have y843_33_0 : h843 33 0 = h 33 0 := g843 33 0 rfl rfl
  have y843_33_1 : h843 33 1 = h 33 1 := g843 33 1 rfl rfl
  have y843_33_2 : h843 33 2 = h 33 2 := g843 33 2 rfl rfl
  have y843_0_11 : h843 0 11 = h 0 11 := g843 0 11 rfl rfl
  have y843_0_12 : h843 0 12 = h 0 12 := g843 0 12 rfl rfl
  have y843_0_13 : h843 0 13 = h 0 13 := g843 0 13 rfl rfl
  have y843_30_11 : h843 30 11 = h 30 11 := g843 30 11 rfl rfl
  have y843_0_22 : h843 0 22 = h 0 22 := g843 0 22 rfl rfl
  have y843_36_0 : h843 36 0 = h 36 0 := g843 36 0 rfl rfl
  have y843_36_1 : h843 36 1 = h 36 1 := g843 36 1 rfl rfl
  have y843_36_2 : h843 36 2 = h 36 2 := g843 36 2 rfl rfl
  have y843_0_16 : h843 0 16 = h 0 16 := g843 0 16 rfl rfl
  have y843_0_17 : h843 0 17 = h 0 17 := g843 0 17 rfl rfl
  have y843_0_18 : h843 0 18 = h 0 18 := g843 0 18 rfl rfl
  have y843_0_14 : h843 0 14 = h 0 14 := g843 0 14 rfl rfl
  have y843_0_15 : h843 0 15 = h 0 15 := g843 0 15 rfl rfl
  have y843_0_19 : h843 0 19 = h 0 19 := g843 0 19 rfl rfl
  have y843_0_20 : h843 0 20 = h 0 20 := g843 0 20 rfl rfl
  have y843_30_10 : h843 30 10 = h 30 10 := g843 30 10 rfl rfl
  have y843_30_12 : h843 30 12 = h 30 12 := g843 30 12 rfl rfl
  have y843_41_0 : h843 41 0 = h 41 0 := g843 41 0 rfl rfl
  have y843_41_1 : h843 41 1 = h 41 1 := g843 41 1 rfl rfl
  have y843_45_0 : h843 45 0 = h 45 0 := g843 45 0 rfl rfl
  have y843_45_1 : h843 45 1 = h 45 1 := g843 45 1 rfl rfl
  have hT1 := hT; have gA1 := gA; have gB1 := gB; have gC1 := gC; have gD1 := gD; have gR1 := gR; have gV1 := gV; have gE1 := gE; have gS1 := gS; have gP1 := gP; have gF1 := gF
  show zL _ _ _ (.inl r843 :: []) _
  refine zL_pop (pc' := 847) dL_846 rfl rfl ?_
  refine zL_aload_n (pc' := 848) dL_847 rfl rfl ?_
  refine zL_aload_n (pc' := 849) dL_848 rfl rfl ?_
  refine zL_iload_n (pc' := 850) dL_849 rfl rfl ?_
  refine zL_iconst (pc' := 851) dL_850 rfl ?_
  refine zL_iadd (pc' := 852) dL_851 rfl ?_
  refine zL_sldE (pc' := 853) (by omega) hm dL_852 rfl (fun v852 e852 q852 => ?_)
  refine zL_inv (pc' := 856) hcs kX12_ways vX12_ways lk_L_92 ⟨Nat.le_of_ble_eq_true rfl, Nat.le_of_ble_eq_true rfl⟩ tb0 vq12 rfl [_] (s_X12_ways (b := bW) (κ := _) hR (Fr.rf (b := bW.fo) hS iP) _ ⟨e852.1, e852.2⟩ lvW.ok) dL_853 rfl (Nat.le_of_ble_eq_true rfl) rfl ?_
  rintro r853 h853 ⟨f853, p853⟩; have g853 : ∀ k i, key k i = true → inW ([] : List (Nat × Nat)) k i = false → h853 k i = h843 k i := fun k i hk _ => f853.1 k i hk
  replace iP : IPW h853 := f853.inv; replace hS := f853.2.2; replace hR := KR_tr hR f853; replace hC := KC_tr hC f853; have pR853 := iP.1.1; have pC853 := iP.1.2
  have y853_0_25 : h853 0 25 = h843 0 25 := g853 0 25 rfl rfl
  have y853_31_1 : h853 31 1 = h843 31 1 := g853 31 1 rfl rfl
  have y853_33_0 : h853 33 0 = h843 33 0 := g853 33 0 rfl rfl
  have y853_33_1 : h853 33 1 = h843 33 1 := g853 33 1 rfl rfl
  have y853_33_2 : h853 33 2 = h843 33 2 := g853 33 2 rfl rfl
  have y853_0_11 : h853 0 11 = h843 0 11 := g853 0 11 rfl rfl
  have y853_0_12 : h853 0 12 = h843 0 12 := g853 0 12 rfl rfl
  have y853_0_13 : h853 0 13 = h843 0 13 := g853 0 13 rfl rfl
  have y853_30_11 : h853 30 11 = h843 30 11 := g853 30 11 rfl rfl
  have y853_0_22 : h853 0 22 = h843 0 22 := g853 0 22 rfl rfl
  have y853_36_0 : h853 36 0 = h843 36 0 := g853 36 0 rfl rfl
  have y853_36_1 : h853 36 1 = h843 36 1 := g853 36 1 rfl rfl
  have y853_36_2 : h853 36 2 = h843 36 2 := g853 36 2 rfl rfl
  have y853_0_16 : h853 0 16 = h843 0 16 := g853 0 16 rfl rfl
  have y853_0_17 : h853 0 17 = h843 0 17 := g853 0 17 rfl rfl
  have y853_0_18 : h853 0 18 = h843 0 18 := g853 0 18 rfl rfl
  have y853_0_14 : h853 0 14 = h843 0 14 := g853 0 14 rfl rfl
  have y853_0_15 : h853 0 15 = h843 0 15 := g853 0 15 rfl rfl
  have y853_0_19 : h853 0 19 = h843 0 19 := g853 0 19 rfl rfl
  have y853_0_20 : h853 0 20 = h843 0 20 := g853 0 20 rfl rfl
  have y853_30_10 : h853 30 10 = h843 30 10 := g853 30 10 rfl rfl
  have y853_30_12 : h853 30 12 = h843 30 12 := g853 30 12 rfl rfl
  have y853_41_0 : h853 41 0 = h843 41 0 := g853 41 0 rfl rfl
  have y853_41_1 : h853 41 1 = h843 41 1 := g853 41 1 rfl rfl
  have y853_45_0 : h853 45 0 = h843 45 0 := g853 45 0 rfl rfl
  have y853_45_1 : h853 45 1 = h843 45 1 := g853 45 1 rfl rfl
  replace hT : TI h853 := TI_of hT1 (y853_0_25.trans y843_0_25) (y853_31_1.trans y843_31_1) (y853_33_0.trans y843_33_0) (y853_33_1.trans y843_33_1) (y853_33_2.trans y843_33_2) (y853_0_11.trans y843_0_11) (y853_0_12.trans y843_0_12) (y853_0_13.trans y843_0_13) (y853_30_11.trans y843_30_11) (y853_0_22.trans y843_0_22) (y853_36_0.trans y843_36_0) (y853_36_1.trans y843_36_1) (y853_36_2.trans y843_36_2) (y853_0_16.trans y843_0_16) (y853_0_17.trans y843_0_17) (y853_0_18.trans y843_0_18)
  replace gA : TGA h853 := TGA_of gA1 (fun j => (g853 1 j rfl rfl).trans (g843 1 j rfl rfl)) (fun j => (g853 34 j rfl rfl).trans (g843 34 j rfl rfl)) (fun j => (g853 10 j rfl rfl).trans (g843 10 j rfl rfl)) (fun j => (g853 35 j rfl rfl).trans (g843 35 j rfl rfl)) (fun j => (g853 6 j rfl rfl).trans (g843 6 j rfl rfl)) (fun j => (g853 37 j rfl rfl).trans (g843 37 j rfl rfl)) (fun j => (g853 11 j rfl rfl).trans (g843 11 j rfl rfl)) (fun j => (g853 38 j rfl rfl).trans (g843 38 j rfl rfl)) ((y853_0_11).trans (y843_0_11)) ((y853_0_12).trans (y843_0_12)) ((y853_0_16).trans (y843_0_16)) ((y853_0_17).trans (y843_0_17)) ((y853_0_22).trans (y843_0_22))
  replace gB : TGB h853 := TGB_of gB1 (fun j => (g853 12 j rfl rfl).trans (g843 12 j rfl rfl)) (fun j => (g853 32 j rfl rfl).trans (g843 32 j rfl rfl)) ((y853_0_25).trans (y843_0_25))
  replace gC : TGC h853 := TGC_of gC1  ((y853_0_15).trans (y843_0_15)) ((y853_30_12).trans (y843_30_12)) ((y853_0_11).trans (y843_0_11)) ((y853_0_12).trans (y843_0_12)) ((y853_0_20).trans (y843_0_20)) ((y853_30_10).trans (y843_30_10)) ((y853_0_16).trans (y843_0_16)) ((y853_0_17).trans (y843_0_17)) ((y853_0_22).trans (y843_0_22))
  replace gD : TGD h853 := TGD_of gD1  ((y853_41_0).trans (y843_41_0)) ((y853_0_14).trans (y843_0_14)) ((y853_45_0).trans (y843_45_0)) ((y853_0_19).trans (y843_0_19)) ((y853_0_22).trans (y843_0_22))
  replace gR : TGR h853 := TGR_of gR1 (fun j => (g853 3 j rfl rfl).trans (g843 3 j rfl rfl)) (fun j => (g853 4 j rfl rfl).trans (g843 4 j rfl rfl)) (fun j => (g853 5 j rfl rfl).trans (g843 5 j rfl rfl)) (fun j => (g853 7 j rfl rfl).trans (g843 7 j rfl rfl)) (fun j => (g853 8 j rfl rfl).trans (g843 8 j rfl rfl)) (fun j => (g853 9 j rfl rfl).trans (g843 9 j rfl rfl)) (fun j => (g853 42 j rfl rfl).trans (g843 42 j rfl rfl)) (fun j => (g853 43 j rfl rfl).trans (g843 43 j rfl rfl)) (fun j => (g853 44 j rfl rfl).trans (g843 44 j rfl rfl)) (fun j => (g853 46 j rfl rfl).trans (g843 46 j rfl rfl)) (fun j => (g853 47 j rfl rfl).trans (g843 47 j rfl rfl)) (fun j => (g853 48 j rfl rfl).trans (g843 48 j rfl rfl)) ((y853_0_14).trans (y843_0_14)) ((y853_0_19).trans (y843_0_19)) ((y853_0_22).trans (y843_0_22))
  replace gV : TGV h853 := TGV_of gV1 (fun j => (g853 34 j rfl rfl).trans (g843 34 j rfl rfl)) (fun j => (g853 37 j rfl rfl).trans (g843 37 j rfl rfl)) ((y853_0_22).trans (y843_0_22))
  replace gE : TGE h853 := TGE_of gE1 (fun j => (g853 3 j rfl rfl).trans (g843 3 j rfl rfl)) (fun j => (g853 7 j rfl rfl).trans (g843 7 j rfl rfl)) ((y853_0_14).trans (y843_0_14)) ((y853_0_19).trans (y843_0_19)) ((y853_0_22).trans (y843_0_22))
  replace gS : TGS h853 := TGS_of gS1 (fun j => (g853 3 j rfl rfl).trans (g843 3 j rfl rfl)) (fun j => (g853 4 j rfl rfl).trans (g843 4 j rfl rfl)) (fun j => (g853 5 j rfl rfl).trans (g843 5 j rfl rfl)) (fun j => (g853 7 j rfl rfl).trans (g843 7 j rfl rfl)) (fun j => (g853 8 j rfl rfl).trans (g843 8 j rfl rfl)) (fun j => (g853 9 j rfl rfl).trans (g843 9 j rfl rfl)) ((y853_0_14).trans (y843_0_14)) ((y853_0_19).trans (y843_0_19)) ((y853_0_22).trans (y843_0_22))
  have qe852 : v852 = v842 := by rw [q852, q842]
  replace gP : TGP h853 := by
    have hT2 := hT1
    unfold TI at hT2
    have k1 := KRw hR; have k2 := KRh hR
    clear hcs hm hi
    exact ⟨pR853, pC853⟩
  replace gF : TGF h853 := TGF_of gF1 (fun j => (g853 3 j rfl rfl).trans (g843 3 j rfl rfl)) (fun j => (g853 7 j rfl rfl).trans (g843 7 j rfl rfl)) ((y853_41_1).trans (y843_41_1)) ((y853_0_14).trans (y843_0_14)) ((y853_45_1).trans (y843_45_1)) ((y853_0_19).trans (y843_0_19)) ((y853_0_22).trans (y843_0_22))
  show zL _ _ _ (.inl r853 :: []) _
  refine zL_pop (pc' := 857) dL_856 rfl rfl ?_
  refine zL_goto (tgt := 1580) dL_857 rfl ?_
  exact nx _ hS hR hC hT gA gB gC gD gR gV gE gS gP gF
set_option maxHeartbeats 4000000 in
theorem lc_18 {Γ : Lc} {i : Int} {h : Hp} (hX : XI Γ.1) (hcs : Γ.2.2.2.2.2.1 ≤ room_1.cells ∧ Γ.2.2.2.2.2.2 ≤ room_1.slots) (hm : Γ.2.2.1 < 2147483648) (hi : 0 ≤ i ∧ i + 6 ≤ Γ.2.2.1) (hS : SI h) (hR : KR h) (hC : KC h) (hT : TI h) (gA : TGA h) (gB : TGB h) (gC : TGC h) (gD : TGD h) (gR : TGR h) (gV : TGV h) (gE : TGE h) (gS : TGS h) (gP : TGP h) (gF : TGF h) (nx : ∀ h' : Hp, SI h' → KR h' → KC h' → TI h' → TGA h' → TGB h' → TGC h' → TGD h' → TGR h' → TGV h' → TGE h' → TGS h' → TGP h' → TGF h' → zL Γ 1580 (lsL i) [] h') : zL Γ 860 (lsL i) [] h := by
  refine zL_aload_n (pc' := 861) dL_860 rfl rfl ?_
  refine zL_aload_n (pc' := 862) dL_861 rfl rfl ?_
  refine zL_iload_n (pc' := 863) dL_862 rfl rfl ?_
  refine zL_iconst (pc' := 864) dL_863 rfl ?_
  refine zL_iadd (pc' := 865) dL_864 rfl ?_
  refine zL_sldE (pc' := 866) (by omega) hm dL_865 rfl (fun v865 e865 q865 => ?_)
  refine zL_aload_n (pc' := 867) dL_866 rfl rfl ?_
  refine zL_iload_n (pc' := 868) dL_867 rfl rfl ?_
  refine zL_iconst (pc' := 869) dL_868 rfl ?_
  refine zL_iadd (pc' := 870) dL_869 rfl ?_
  refine zL_sldE (pc' := 871) (by omega) hm dL_870 rfl (fun v870 e870 q870 => ?_)
  have iP : IPW h := IPW_of hR hC hT gA gV gE gS gD gR gP
  refine zL_inv (pc' := 874) hcs kX11_white vX11_white lk_L_93 ⟨Nat.le_of_ble_eq_true rfl, Nat.le_of_ble_eq_true rfl⟩ tb30 vq11 rfl [_, _] (s_X11_white (b := bW) (κ := _) hC (Fr.rf (b := bW) hS iP) _ ⟨e865.1, e865.2⟩ _ ⟨e870.1, e870.2⟩ shW_.ok) dL_871 rfl (Nat.le_of_ble_eq_true rfl) rfl ?_
  rintro r871 h871 ⟨f871, p871⟩; have g871 : ∀ k i, key k i = true → inW ([] : List (Nat × Nat)) k i = false → h871 k i = h k i := fun k i hk _ => f871.1 k i hk
  replace iP : IPW h871 := f871.inv; replace hS := f871.2.2; replace hR := KR_tr hR f871; replace hC := KC_tr hC f871; have pR871 := iP.1.1; have pC871 := iP.1.2
  have y871_0_25 : h871 0 25 = h 0 25 := g871 0 25 rfl rfl
  have y871_31_1 : h871 31 1 = h 31 1 := g871 31 1 rfl rfl
  have y871_33_0 : h871 33 0 = h 33 0 := g871 33 0 rfl rfl
  have y871_33_1 : h871 33 1 = h 33 1 := g871 33 1 rfl rfl
  have y871_33_2 : h871 33 2 = h 33 2 := g871 33 2 rfl rfl
  have y871_0_11 : h871 0 11 = h 0 11 := g871 0 11 rfl rfl
  have y871_0_12 : h871 0 12 = h 0 12 := g871 0 12 rfl rfl
  have y871_0_13 : h871 0 13 = h 0 13 := g871 0 13 rfl rfl
  have y871_30_11 : h871 30 11 = h 30 11 := g871 30 11 rfl rfl
  have y871_0_22 : h871 0 22 = h 0 22 := g871 0 22 rfl rfl
  have y871_36_0 : h871 36 0 = h 36 0 := g871 36 0 rfl rfl
  have y871_36_1 : h871 36 1 = h 36 1 := g871 36 1 rfl rfl
  have y871_36_2 : h871 36 2 = h 36 2 := g871 36 2 rfl rfl
  have y871_0_16 : h871 0 16 = h 0 16 := g871 0 16 rfl rfl
  have y871_0_17 : h871 0 17 = h 0 17 := g871 0 17 rfl rfl
  have y871_0_18 : h871 0 18 = h 0 18 := g871 0 18 rfl rfl
  have y871_0_14 : h871 0 14 = h 0 14 := g871 0 14 rfl rfl
  have y871_0_15 : h871 0 15 = h 0 15 := g871 0 15 rfl rfl
  have y871_0_19 : h871 0 19 = h 0 19 := g871 0 19 rfl rfl
  have y871_0_20 : h871 0 20 = h 0 20 := g871 0 20 rfl rfl
  have y871_30_10 : h871 30 10 = h 30 10 := g871 30 10 rfl rfl
  have y871_30_12 : h871 30 12 = h 30 12 := g871 30 12 rfl rfl
  have y871_41_0 : h871 41 0 = h 41 0 := g871 41 0 rfl rfl
  have y871_41_1 : h871 41 1 = h 41 1 := g871 41 1 rfl rfl
  have y871_45_0 : h871 45 0 = h 45 0 := g871 45 0 rfl rfl
  have y871_45_1 : h871 45 1 = h 45 1 := g871 45 1 rfl rfl
  have hT1 := hT; have gA1 := gA; have gB1 := gB; have gC1 := gC; have gD1 := gD; have gR1 := gR; have gV1 := gV; have gE1 := gE; have gS1 := gS; have gP1 := gP; have gF1 := gF
  show zL _ _ _ (.inl r871 :: []) _
  refine zL_pop (pc' := 875) dL_874 rfl rfl ?_
  refine zL_aload_n (pc' := 876) dL_875 rfl rfl ?_
  refine zL_aload_n (pc' := 877) dL_876 rfl rfl ?_
  refine zL_iload_n (pc' := 878) dL_877 rfl rfl ?_
  refine zL_iconst (pc' := 879) dL_878 rfl ?_
  refine zL_iadd (pc' := 880) dL_879 rfl ?_
  refine zL_sldE (pc' := 881) (by omega) hm dL_880 rfl (fun v880 e880 q880 => ?_)
  refine zL_aload_n (pc' := 882) dL_881 rfl rfl ?_
  refine zL_iload_n (pc' := 883) dL_882 rfl rfl ?_
  refine zL_iconst (pc' := 884) dL_883 rfl ?_
  refine zL_iadd (pc' := 885) dL_884 rfl ?_
  refine zL_sldE (pc' := 886) (by omega) hm dL_885 rfl (fun v885 e885 q885 => ?_)
  refine zL_inv (pc' := 889) hcs kX12_white vX12_white lk_L_96 ⟨Nat.le_of_ble_eq_true rfl, Nat.le_of_ble_eq_true rfl⟩ tb0 vq12 rfl [_, _] (s_X12_white (b := bW) (κ := _) hR (Fr.rf (b := bW.fo) hS iP) _ ⟨e880.1, e880.2⟩ _ ⟨e885.1, e885.2⟩ lvW.ok) dL_886 rfl (Nat.le_of_ble_eq_true rfl) rfl ?_
  rintro r886 h886 ⟨f886, p886⟩; have g886 : ∀ k i, key k i = true → inW ([] : List (Nat × Nat)) k i = false → h886 k i = h871 k i := fun k i hk _ => f886.1 k i hk
  replace iP : IPW h886 := f886.inv; replace hS := f886.2.2; replace hR := KR_tr hR f886; replace hC := KC_tr hC f886; have pR886 := iP.1.1; have pC886 := iP.1.2
  have y886_0_25 : h886 0 25 = h871 0 25 := g886 0 25 rfl rfl
  have y886_31_1 : h886 31 1 = h871 31 1 := g886 31 1 rfl rfl
  have y886_33_0 : h886 33 0 = h871 33 0 := g886 33 0 rfl rfl
  have y886_33_1 : h886 33 1 = h871 33 1 := g886 33 1 rfl rfl
  have y886_33_2 : h886 33 2 = h871 33 2 := g886 33 2 rfl rfl
  have y886_0_11 : h886 0 11 = h871 0 11 := g886 0 11 rfl rfl
  have y886_0_12 : h886 0 12 = h871 0 12 := g886 0 12 rfl rfl
  have y886_0_13 : h886 0 13 = h871 0 13 := g886 0 13 rfl rfl
  have y886_30_11 : h886 30 11 = h871 30 11 := g886 30 11 rfl rfl
  have y886_0_22 : h886 0 22 = h871 0 22 := g886 0 22 rfl rfl
  have y886_36_0 : h886 36 0 = h871 36 0 := g886 36 0 rfl rfl
  have y886_36_1 : h886 36 1 = h871 36 1 := g886 36 1 rfl rfl
  have y886_36_2 : h886 36 2 = h871 36 2 := g886 36 2 rfl rfl
  have y886_0_16 : h886 0 16 = h871 0 16 := g886 0 16 rfl rfl
  have y886_0_17 : h886 0 17 = h871 0 17 := g886 0 17 rfl rfl
  have y886_0_18 : h886 0 18 = h871 0 18 := g886 0 18 rfl rfl
  have y886_0_14 : h886 0 14 = h871 0 14 := g886 0 14 rfl rfl
  have y886_0_15 : h886 0 15 = h871 0 15 := g886 0 15 rfl rfl
  have y886_0_19 : h886 0 19 = h871 0 19 := g886 0 19 rfl rfl
  have y886_0_20 : h886 0 20 = h871 0 20 := g886 0 20 rfl rfl
  have y886_30_10 : h886 30 10 = h871 30 10 := g886 30 10 rfl rfl
  have y886_30_12 : h886 30 12 = h871 30 12 := g886 30 12 rfl rfl
  have y886_41_0 : h886 41 0 = h871 41 0 := g886 41 0 rfl rfl
  have y886_41_1 : h886 41 1 = h871 41 1 := g886 41 1 rfl rfl
  have y886_45_0 : h886 45 0 = h871 45 0 := g886 45 0 rfl rfl
  have y886_45_1 : h886 45 1 = h871 45 1 := g886 45 1 rfl rfl
  replace hT : TI h886 := TI_of hT1 (y886_0_25.trans y871_0_25) (y886_31_1.trans y871_31_1) (y886_33_0.trans y871_33_0) (y886_33_1.trans y871_33_1) (y886_33_2.trans y871_33_2) (y886_0_11.trans y871_0_11) (y886_0_12.trans y871_0_12) (y886_0_13.trans y871_0_13) (y886_30_11.trans y871_30_11) (y886_0_22.trans y871_0_22) (y886_36_0.trans y871_36_0) (y886_36_1.trans y871_36_1) (y886_36_2.trans y871_36_2) (y886_0_16.trans y871_0_16) (y886_0_17.trans y871_0_17) (y886_0_18.trans y871_0_18)
  replace gA : TGA h886 := TGA_of gA1 (fun j => (g886 1 j rfl rfl).trans (g871 1 j rfl rfl)) (fun j => (g886 34 j rfl rfl).trans (g871 34 j rfl rfl)) (fun j => (g886 10 j rfl rfl).trans (g871 10 j rfl rfl)) (fun j => (g886 35 j rfl rfl).trans (g871 35 j rfl rfl)) (fun j => (g886 6 j rfl rfl).trans (g871 6 j rfl rfl)) (fun j => (g886 37 j rfl rfl).trans (g871 37 j rfl rfl)) (fun j => (g886 11 j rfl rfl).trans (g871 11 j rfl rfl)) (fun j => (g886 38 j rfl rfl).trans (g871 38 j rfl rfl)) ((y886_0_11).trans (y871_0_11)) ((y886_0_12).trans (y871_0_12)) ((y886_0_16).trans (y871_0_16)) ((y886_0_17).trans (y871_0_17)) ((y886_0_22).trans (y871_0_22))
  replace gB : TGB h886 := TGB_of gB1 (fun j => (g886 12 j rfl rfl).trans (g871 12 j rfl rfl)) (fun j => (g886 32 j rfl rfl).trans (g871 32 j rfl rfl)) ((y886_0_25).trans (y871_0_25))
  replace gC : TGC h886 := TGC_of gC1  ((y886_0_15).trans (y871_0_15)) ((y886_30_12).trans (y871_30_12)) ((y886_0_11).trans (y871_0_11)) ((y886_0_12).trans (y871_0_12)) ((y886_0_20).trans (y871_0_20)) ((y886_30_10).trans (y871_30_10)) ((y886_0_16).trans (y871_0_16)) ((y886_0_17).trans (y871_0_17)) ((y886_0_22).trans (y871_0_22))
  replace gD : TGD h886 := TGD_of gD1  ((y886_41_0).trans (y871_41_0)) ((y886_0_14).trans (y871_0_14)) ((y886_45_0).trans (y871_45_0)) ((y886_0_19).trans (y871_0_19)) ((y886_0_22).trans (y871_0_22))
  replace gR : TGR h886 := TGR_of gR1 (fun j => (g886 3 j rfl rfl).trans (g871 3 j rfl rfl)) (fun j => (g886 4 j rfl rfl).trans (g871 4 j rfl rfl)) (fun j => (g886 5 j rfl rfl).trans (g871 5 j rfl rfl)) (fun j => (g886 7 j rfl rfl).trans (g871 7 j rfl rfl)) (fun j => (g886 8 j rfl rfl).trans (g871 8 j rfl rfl)) (fun j => (g886 9 j rfl rfl).trans (g871 9 j rfl rfl)) (fun j => (g886 42 j rfl rfl).trans (g871 42 j rfl rfl)) (fun j => (g886 43 j rfl rfl).trans (g871 43 j rfl rfl)) (fun j => (g886 44 j rfl rfl).trans (g871 44 j rfl rfl)) (fun j => (g886 46 j rfl rfl).trans (g871 46 j rfl rfl)) (fun j => (g886 47 j rfl rfl).trans (g871 47 j rfl rfl)) (fun j => (g886 48 j rfl rfl).trans (g871 48 j rfl rfl)) ((y886_0_14).trans (y871_0_14)) ((y886_0_19).trans (y871_0_19)) ((y886_0_22).trans (y871_0_22))
  replace gV : TGV h886 := TGV_of gV1 (fun j => (g886 34 j rfl rfl).trans (g871 34 j rfl rfl)) (fun j => (g886 37 j rfl rfl).trans (g871 37 j rfl rfl)) ((y886_0_22).trans (y871_0_22))
  replace gE : TGE h886 := TGE_of gE1 (fun j => (g886 3 j rfl rfl).trans (g871 3 j rfl rfl)) (fun j => (g886 7 j rfl rfl).trans (g871 7 j rfl rfl)) ((y886_0_14).trans (y871_0_14)) ((y886_0_19).trans (y871_0_19)) ((y886_0_22).trans (y871_0_22))
  replace gS : TGS h886 := TGS_of gS1 (fun j => (g886 3 j rfl rfl).trans (g871 3 j rfl rfl)) (fun j => (g886 4 j rfl rfl).trans (g871 4 j rfl rfl)) (fun j => (g886 5 j rfl rfl).trans (g871 5 j rfl rfl)) (fun j => (g886 7 j rfl rfl).trans (g871 7 j rfl rfl)) (fun j => (g886 8 j rfl rfl).trans (g871 8 j rfl rfl)) (fun j => (g886 9 j rfl rfl).trans (g871 9 j rfl rfl)) ((y886_0_14).trans (y871_0_14)) ((y886_0_19).trans (y871_0_19)) ((y886_0_22).trans (y871_0_22))
  have qe880 : v880 = v865 := by rw [q880, q865]
  have qe885 : v885 = v870 := by rw [q885, q870]
  replace gP : TGP h886 := by
    have hT2 := hT1
    unfold TI at hT2
    have k1 := KRw hR; have k2 := KRh hR
    clear hcs hm hi
    exact ⟨pR886, pC886⟩
  replace gF : TGF h886 := TGF_of gF1 (fun j => (g886 3 j rfl rfl).trans (g871 3 j rfl rfl)) (fun j => (g886 7 j rfl rfl).trans (g871 7 j rfl rfl)) ((y886_41_1).trans (y871_41_1)) ((y886_0_14).trans (y871_0_14)) ((y886_45_1).trans (y871_45_1)) ((y886_0_19).trans (y871_0_19)) ((y886_0_22).trans (y871_0_22))
  show zL _ _ _ (.inl r886 :: []) _
  refine zL_pop (pc' := 890) dL_889 rfl rfl ?_
  refine zL_goto (tgt := 1580) dL_890 rfl ?_
  exact nx _ hS hR hC hT gA gB gC gD gR gV gE gS gP gF
set_option maxHeartbeats 4000000 in
theorem lc_19 {Γ : Lc} {i : Int} {h : Hp} (hX : XI Γ.1) (hcs : Γ.2.2.2.2.2.1 ≤ room_1.cells ∧ Γ.2.2.2.2.2.2 ≤ room_1.slots) (hm : Γ.2.2.1 < 2147483648) (hi : 0 ≤ i ∧ i + 6 ≤ Γ.2.2.1) (hS : SI h) (hR : KR h) (hC : KC h) (hT : TI h) (gA : TGA h) (gB : TGB h) (gC : TGC h) (gD : TGD h) (gR : TGR h) (gV : TGV h) (gE : TGE h) (gS : TGS h) (gP : TGP h) (gF : TGF h) (nx : ∀ h' : Hp, SI h' → KR h' → KC h' → TI h' → TGA h' → TGB h' → TGC h' → TGD h' → TGR h' → TGV h' → TGE h' → TGS h' → TGP h' → TGF h' → zL Γ 1580 (lsL i) [] h') : zL Γ 893 (lsL i) [] h := by
  refine zL_aload_n (pc' := 894) dL_893 rfl rfl ?_
  refine zL_aload_n (pc' := 895) dL_894 rfl rfl ?_
  refine zL_iload_n (pc' := 896) dL_895 rfl rfl ?_
  refine zL_iconst (pc' := 897) dL_896 rfl ?_
  refine zL_iadd (pc' := 898) dL_897 rfl ?_
  refine zL_sldE (pc' := 899) (by omega) hm dL_898 rfl (fun v898 e898 q898 => ?_)
  refine zL_aload_n (pc' := 900) dL_899 rfl rfl ?_
  refine zL_iload_n (pc' := 901) dL_900 rfl rfl ?_
  refine zL_iconst (pc' := 902) dL_901 rfl ?_
  refine zL_iadd (pc' := 903) dL_902 rfl ?_
  refine zL_sldE (pc' := 904) (by omega) hm dL_903 rfl (fun v903 e903 q903 => ?_)
  refine zL_aload_n (pc' := 905) dL_904 rfl rfl ?_
  refine zL_iload_n (pc' := 906) dL_905 rfl rfl ?_
  refine zL_iconst (pc' := 907) dL_906 rfl ?_
  refine zL_iadd (pc' := 908) dL_907 rfl ?_
  refine zL_sldE (pc' := 909) (by omega) hm dL_908 rfl (fun v908 e908 q908 => ?_)
  have iP : IPW h := IPW_of hR hC hT gA gV gE gS gD gR gP
  refine zL_inv (pc' := 912) hcs kX11_base vX11_base lk_L_97 ⟨Nat.le_of_ble_eq_true rfl, Nat.le_of_ble_eq_true rfl⟩ tb30 vq11 rfl [_, _, _] (s_X11_base (b := bW) (κ := _) hC (Fr.rf (b := bW) hS iP) _ ⟨e898.1, e898.2⟩ _ ⟨e903.1, e903.2⟩ _ ⟨e908.1, e908.2⟩ shW_.ok) dL_909 rfl (Nat.le_of_ble_eq_true rfl) rfl ?_
  rintro r909 h909 ⟨f909, p909⟩; have g909 : ∀ k i, key k i = true → inW ([] : List (Nat × Nat)) k i = false → h909 k i = h k i := fun k i hk _ => f909.1 k i hk
  replace iP : IPW h909 := f909.inv; replace hS := f909.2.2; replace hR := KR_tr hR f909; replace hC := KC_tr hC f909; have pR909 := iP.1.1; have pC909 := iP.1.2
  have y909_0_25 : h909 0 25 = h 0 25 := g909 0 25 rfl rfl
  have y909_31_1 : h909 31 1 = h 31 1 := g909 31 1 rfl rfl
  have y909_33_0 : h909 33 0 = h 33 0 := g909 33 0 rfl rfl
  have y909_33_1 : h909 33 1 = h 33 1 := g909 33 1 rfl rfl
  have y909_33_2 : h909 33 2 = h 33 2 := g909 33 2 rfl rfl
  have y909_0_11 : h909 0 11 = h 0 11 := g909 0 11 rfl rfl
  have y909_0_12 : h909 0 12 = h 0 12 := g909 0 12 rfl rfl
  have y909_0_13 : h909 0 13 = h 0 13 := g909 0 13 rfl rfl
  have y909_30_11 : h909 30 11 = h 30 11 := g909 30 11 rfl rfl
  have y909_0_22 : h909 0 22 = h 0 22 := g909 0 22 rfl rfl
  have y909_36_0 : h909 36 0 = h 36 0 := g909 36 0 rfl rfl
  have y909_36_1 : h909 36 1 = h 36 1 := g909 36 1 rfl rfl
  have y909_36_2 : h909 36 2 = h 36 2 := g909 36 2 rfl rfl
  have y909_0_16 : h909 0 16 = h 0 16 := g909 0 16 rfl rfl
  have y909_0_17 : h909 0 17 = h 0 17 := g909 0 17 rfl rfl
  have y909_0_18 : h909 0 18 = h 0 18 := g909 0 18 rfl rfl
  have y909_0_14 : h909 0 14 = h 0 14 := g909 0 14 rfl rfl
  have y909_0_15 : h909 0 15 = h 0 15 := g909 0 15 rfl rfl
  have y909_0_19 : h909 0 19 = h 0 19 := g909 0 19 rfl rfl
  have y909_0_20 : h909 0 20 = h 0 20 := g909 0 20 rfl rfl
  have y909_30_10 : h909 30 10 = h 30 10 := g909 30 10 rfl rfl
  have y909_30_12 : h909 30 12 = h 30 12 := g909 30 12 rfl rfl
  have y909_41_0 : h909 41 0 = h 41 0 := g909 41 0 rfl rfl
  have y909_41_1 : h909 41 1 = h 41 1 := g909 41 1 rfl rfl
  have y909_45_0 : h909 45 0 = h 45 0 := g909 45 0 rfl rfl
  have y909_45_1 : h909 45 1 = h 45 1 := g909 45 1 rfl rfl
  have hT1 := hT; have gA1 := gA; have gB1 := gB; have gC1 := gC; have gD1 := gD; have gR1 := gR; have gV1 := gV; have gE1 := gE; have gS1 := gS; have gP1 := gP; have gF1 := gF
  show zL _ _ _ (.inl r909 :: []) _
  refine zL_pop (pc' := 913) dL_912 rfl rfl ?_
  refine zL_aload_n (pc' := 914) dL_913 rfl rfl ?_
  refine zL_aload_n (pc' := 915) dL_914 rfl rfl ?_
  refine zL_iload_n (pc' := 916) dL_915 rfl rfl ?_
  refine zL_iconst (pc' := 917) dL_916 rfl ?_
  refine zL_iadd (pc' := 918) dL_917 rfl ?_
  refine zL_sldE (pc' := 919) (by omega) hm dL_918 rfl (fun v918 e918 q918 => ?_)
  refine zL_aload_n (pc' := 920) dL_919 rfl rfl ?_
  refine zL_iload_n (pc' := 921) dL_920 rfl rfl ?_
  refine zL_iconst (pc' := 922) dL_921 rfl ?_
  refine zL_iadd (pc' := 923) dL_922 rfl ?_
  refine zL_sldE (pc' := 924) (by omega) hm dL_923 rfl (fun v923 e923 q923 => ?_)
  refine zL_aload_n (pc' := 925) dL_924 rfl rfl ?_
  refine zL_iload_n (pc' := 926) dL_925 rfl rfl ?_
  refine zL_iconst (pc' := 927) dL_926 rfl ?_
  refine zL_iadd (pc' := 928) dL_927 rfl ?_
  refine zL_sldE (pc' := 929) (by omega) hm dL_928 rfl (fun v928 e928 q928 => ?_)
  refine zL_inv (pc' := 932) hcs kX12_base vX12_base lk_L_100 ⟨Nat.le_of_ble_eq_true rfl, Nat.le_of_ble_eq_true rfl⟩ tb0 vq12 rfl [_, _, _] (s_X12_base (b := bW) (κ := _) hR (Fr.rf (b := bW.fo) hS iP) _ ⟨e918.1, e918.2⟩ _ ⟨e923.1, e923.2⟩ _ ⟨e928.1, e928.2⟩ lvW.ok) dL_929 rfl (Nat.le_of_ble_eq_true rfl) rfl ?_
  rintro r929 h929 ⟨f929, p929⟩; have g929 : ∀ k i, key k i = true → inW ([] : List (Nat × Nat)) k i = false → h929 k i = h909 k i := fun k i hk _ => f929.1 k i hk
  replace iP : IPW h929 := f929.inv; replace hS := f929.2.2; replace hR := KR_tr hR f929; replace hC := KC_tr hC f929; have pR929 := iP.1.1; have pC929 := iP.1.2
  have y929_0_25 : h929 0 25 = h909 0 25 := g929 0 25 rfl rfl
  have y929_31_1 : h929 31 1 = h909 31 1 := g929 31 1 rfl rfl
  have y929_33_0 : h929 33 0 = h909 33 0 := g929 33 0 rfl rfl
  have y929_33_1 : h929 33 1 = h909 33 1 := g929 33 1 rfl rfl
  have y929_33_2 : h929 33 2 = h909 33 2 := g929 33 2 rfl rfl
  have y929_0_11 : h929 0 11 = h909 0 11 := g929 0 11 rfl rfl
  have y929_0_12 : h929 0 12 = h909 0 12 := g929 0 12 rfl rfl
  have y929_0_13 : h929 0 13 = h909 0 13 := g929 0 13 rfl rfl
  have y929_30_11 : h929 30 11 = h909 30 11 := g929 30 11 rfl rfl
  have y929_0_22 : h929 0 22 = h909 0 22 := g929 0 22 rfl rfl
  have y929_36_0 : h929 36 0 = h909 36 0 := g929 36 0 rfl rfl
  have y929_36_1 : h929 36 1 = h909 36 1 := g929 36 1 rfl rfl
  have y929_36_2 : h929 36 2 = h909 36 2 := g929 36 2 rfl rfl
  have y929_0_16 : h929 0 16 = h909 0 16 := g929 0 16 rfl rfl
  have y929_0_17 : h929 0 17 = h909 0 17 := g929 0 17 rfl rfl
  have y929_0_18 : h929 0 18 = h909 0 18 := g929 0 18 rfl rfl
  have y929_0_14 : h929 0 14 = h909 0 14 := g929 0 14 rfl rfl
  have y929_0_15 : h929 0 15 = h909 0 15 := g929 0 15 rfl rfl
  have y929_0_19 : h929 0 19 = h909 0 19 := g929 0 19 rfl rfl
  have y929_0_20 : h929 0 20 = h909 0 20 := g929 0 20 rfl rfl
  have y929_30_10 : h929 30 10 = h909 30 10 := g929 30 10 rfl rfl
  have y929_30_12 : h929 30 12 = h909 30 12 := g929 30 12 rfl rfl
  have y929_41_0 : h929 41 0 = h909 41 0 := g929 41 0 rfl rfl
  have y929_41_1 : h929 41 1 = h909 41 1 := g929 41 1 rfl rfl
  have y929_45_0 : h929 45 0 = h909 45 0 := g929 45 0 rfl rfl
  have y929_45_1 : h929 45 1 = h909 45 1 := g929 45 1 rfl rfl
  replace hT : TI h929 := TI_of hT1 (y929_0_25.trans y909_0_25) (y929_31_1.trans y909_31_1) (y929_33_0.trans y909_33_0) (y929_33_1.trans y909_33_1) (y929_33_2.trans y909_33_2) (y929_0_11.trans y909_0_11) (y929_0_12.trans y909_0_12) (y929_0_13.trans y909_0_13) (y929_30_11.trans y909_30_11) (y929_0_22.trans y909_0_22) (y929_36_0.trans y909_36_0) (y929_36_1.trans y909_36_1) (y929_36_2.trans y909_36_2) (y929_0_16.trans y909_0_16) (y929_0_17.trans y909_0_17) (y929_0_18.trans y909_0_18)
  replace gA : TGA h929 := TGA_of gA1 (fun j => (g929 1 j rfl rfl).trans (g909 1 j rfl rfl)) (fun j => (g929 34 j rfl rfl).trans (g909 34 j rfl rfl)) (fun j => (g929 10 j rfl rfl).trans (g909 10 j rfl rfl)) (fun j => (g929 35 j rfl rfl).trans (g909 35 j rfl rfl)) (fun j => (g929 6 j rfl rfl).trans (g909 6 j rfl rfl)) (fun j => (g929 37 j rfl rfl).trans (g909 37 j rfl rfl)) (fun j => (g929 11 j rfl rfl).trans (g909 11 j rfl rfl)) (fun j => (g929 38 j rfl rfl).trans (g909 38 j rfl rfl)) ((y929_0_11).trans (y909_0_11)) ((y929_0_12).trans (y909_0_12)) ((y929_0_16).trans (y909_0_16)) ((y929_0_17).trans (y909_0_17)) ((y929_0_22).trans (y909_0_22))
  replace gB : TGB h929 := TGB_of gB1 (fun j => (g929 12 j rfl rfl).trans (g909 12 j rfl rfl)) (fun j => (g929 32 j rfl rfl).trans (g909 32 j rfl rfl)) ((y929_0_25).trans (y909_0_25))
  replace gC : TGC h929 := TGC_of gC1  ((y929_0_15).trans (y909_0_15)) ((y929_30_12).trans (y909_30_12)) ((y929_0_11).trans (y909_0_11)) ((y929_0_12).trans (y909_0_12)) ((y929_0_20).trans (y909_0_20)) ((y929_30_10).trans (y909_30_10)) ((y929_0_16).trans (y909_0_16)) ((y929_0_17).trans (y909_0_17)) ((y929_0_22).trans (y909_0_22))
  replace gD : TGD h929 := TGD_of gD1  ((y929_41_0).trans (y909_41_0)) ((y929_0_14).trans (y909_0_14)) ((y929_45_0).trans (y909_45_0)) ((y929_0_19).trans (y909_0_19)) ((y929_0_22).trans (y909_0_22))
  replace gR : TGR h929 := TGR_of gR1 (fun j => (g929 3 j rfl rfl).trans (g909 3 j rfl rfl)) (fun j => (g929 4 j rfl rfl).trans (g909 4 j rfl rfl)) (fun j => (g929 5 j rfl rfl).trans (g909 5 j rfl rfl)) (fun j => (g929 7 j rfl rfl).trans (g909 7 j rfl rfl)) (fun j => (g929 8 j rfl rfl).trans (g909 8 j rfl rfl)) (fun j => (g929 9 j rfl rfl).trans (g909 9 j rfl rfl)) (fun j => (g929 42 j rfl rfl).trans (g909 42 j rfl rfl)) (fun j => (g929 43 j rfl rfl).trans (g909 43 j rfl rfl)) (fun j => (g929 44 j rfl rfl).trans (g909 44 j rfl rfl)) (fun j => (g929 46 j rfl rfl).trans (g909 46 j rfl rfl)) (fun j => (g929 47 j rfl rfl).trans (g909 47 j rfl rfl)) (fun j => (g929 48 j rfl rfl).trans (g909 48 j rfl rfl)) ((y929_0_14).trans (y909_0_14)) ((y929_0_19).trans (y909_0_19)) ((y929_0_22).trans (y909_0_22))
  replace gV : TGV h929 := TGV_of gV1 (fun j => (g929 34 j rfl rfl).trans (g909 34 j rfl rfl)) (fun j => (g929 37 j rfl rfl).trans (g909 37 j rfl rfl)) ((y929_0_22).trans (y909_0_22))
  replace gE : TGE h929 := TGE_of gE1 (fun j => (g929 3 j rfl rfl).trans (g909 3 j rfl rfl)) (fun j => (g929 7 j rfl rfl).trans (g909 7 j rfl rfl)) ((y929_0_14).trans (y909_0_14)) ((y929_0_19).trans (y909_0_19)) ((y929_0_22).trans (y909_0_22))
  replace gS : TGS h929 := TGS_of gS1 (fun j => (g929 3 j rfl rfl).trans (g909 3 j rfl rfl)) (fun j => (g929 4 j rfl rfl).trans (g909 4 j rfl rfl)) (fun j => (g929 5 j rfl rfl).trans (g909 5 j rfl rfl)) (fun j => (g929 7 j rfl rfl).trans (g909 7 j rfl rfl)) (fun j => (g929 8 j rfl rfl).trans (g909 8 j rfl rfl)) (fun j => (g929 9 j rfl rfl).trans (g909 9 j rfl rfl)) ((y929_0_14).trans (y909_0_14)) ((y929_0_19).trans (y909_0_19)) ((y929_0_22).trans (y909_0_22))
  have qe918 : v918 = v898 := by rw [q918, q898]
  have qe923 : v923 = v903 := by rw [q923, q903]
  have qe928 : v928 = v908 := by rw [q928, q908]
  replace gP : TGP h929 := by
    have hT2 := hT1
    unfold TI at hT2
    have k1 := KRw hR; have k2 := KRh hR
    clear hcs hm hi
    exact ⟨pR929, pC929⟩
  replace gF : TGF h929 := TGF_of gF1 (fun j => (g929 3 j rfl rfl).trans (g909 3 j rfl rfl)) (fun j => (g929 7 j rfl rfl).trans (g909 7 j rfl rfl)) ((y929_41_1).trans (y909_41_1)) ((y929_0_14).trans (y909_0_14)) ((y929_45_1).trans (y909_45_1)) ((y929_0_19).trans (y909_0_19)) ((y929_0_22).trans (y909_0_22))
  show zL _ _ _ (.inl r929 :: []) _
  refine zL_pop (pc' := 933) dL_932 rfl rfl ?_
  refine zL_goto (tgt := 1580) dL_933 rfl ?_
  exact nx _ hS hR hC hT gA gB gC gD gR gV gE gS gP gF
set_option maxHeartbeats 4000000 in
theorem lc_20 {Γ : Lc} {i : Int} {h : Hp} (hX : XI Γ.1) (hcs : Γ.2.2.2.2.2.1 ≤ room_1.cells ∧ Γ.2.2.2.2.2.2 ≤ room_1.slots) (hm : Γ.2.2.1 < 2147483648) (hi : 0 ≤ i ∧ i + 6 ≤ Γ.2.2.1) (hS : SI h) (hR : KR h) (hC : KC h) (hT : TI h) (gA : TGA h) (gB : TGB h) (gC : TGC h) (gD : TGD h) (gR : TGR h) (gV : TGV h) (gE : TGE h) (gS : TGS h) (gP : TGP h) (gF : TGF h) (nx : ∀ h' : Hp, SI h' → KR h' → KC h' → TI h' → TGA h' → TGB h' → TGC h' → TGD h' → TGR h' → TGV h' → TGE h' → TGS h' → TGP h' → TGF h' → zL Γ 1580 (lsL i) [] h') : zL Γ 936 (lsL i) [] h := by
  refine zL_aload_n (pc' := 937) dL_936 rfl rfl ?_
  refine zL_aload_n (pc' := 938) dL_937 rfl rfl ?_
  refine zL_iload_n (pc' := 939) dL_938 rfl rfl ?_
  refine zL_iconst (pc' := 940) dL_939 rfl ?_
  refine zL_iadd (pc' := 941) dL_940 rfl ?_
  refine zL_sldE (pc' := 942) (by omega) hm dL_941 rfl (fun v941 e941 q941 => ?_)
  refine zL_aload_n (pc' := 943) dL_942 rfl rfl ?_
  refine zL_iload_n (pc' := 944) dL_943 rfl rfl ?_
  refine zL_iconst (pc' := 945) dL_944 rfl ?_
  refine zL_iadd (pc' := 946) dL_945 rfl ?_
  refine zL_sldE (pc' := 947) (by omega) hm dL_946 rfl (fun v946 e946 q946 => ?_)
  refine zL_aload_n (pc' := 948) dL_947 rfl rfl ?_
  refine zL_iload_n (pc' := 949) dL_948 rfl rfl ?_
  refine zL_iconst (pc' := 950) dL_949 rfl ?_
  refine zL_iadd (pc' := 951) dL_950 rfl ?_
  refine zL_sldE (pc' := 952) (by omega) hm dL_951 rfl (fun v951 e951 q951 => ?_)
  refine zL_aload_n (pc' := 953) dL_952 rfl rfl ?_
  refine zL_iload_n (pc' := 954) dL_953 rfl rfl ?_
  refine zL_iconst (pc' := 955) dL_954 rfl ?_
  refine zL_iadd (pc' := 956) dL_955 rfl ?_
  refine zL_sldE (pc' := 957) (by omega) hm dL_956 rfl (fun v956 e956 q956 => ?_)
  have iP : IPW h := IPW_of hR hC hT gA gV gE gS gD gR gP
  refine zL_inv (pc' := 960) hcs kX11_tone vX11_tone lk_L_101 ⟨Nat.le_of_ble_eq_true rfl, Nat.le_of_ble_eq_true rfl⟩ tb30 vq11 rfl [_, _, _, _] (s_X11_tone (b := bW) (κ := _) hC (Fr.rf (b := bW) hS iP) _ ⟨e941.1, e941.2⟩ _ ⟨e946.1, e946.2⟩ _ ⟨e951.1, e951.2⟩ _ ⟨e956.1, e956.2⟩ shW_.ok) dL_957 rfl (Nat.le_of_ble_eq_true rfl) rfl ?_
  rintro r957 h957 ⟨f957, p957⟩; have g957 : ∀ k i, key k i = true → inW ([] : List (Nat × Nat)) k i = false → h957 k i = h k i := fun k i hk _ => f957.1 k i hk
  replace iP : IPW h957 := f957.inv; replace hS := f957.2.2; replace hR := KR_tr hR f957; replace hC := KC_tr hC f957; have pR957 := iP.1.1; have pC957 := iP.1.2
  have y957_0_25 : h957 0 25 = h 0 25 := g957 0 25 rfl rfl
  have y957_31_1 : h957 31 1 = h 31 1 := g957 31 1 rfl rfl
  have y957_33_0 : h957 33 0 = h 33 0 := g957 33 0 rfl rfl
  have y957_33_1 : h957 33 1 = h 33 1 := g957 33 1 rfl rfl
  have y957_33_2 : h957 33 2 = h 33 2 := g957 33 2 rfl rfl
  have y957_0_11 : h957 0 11 = h 0 11 := g957 0 11 rfl rfl
  have y957_0_12 : h957 0 12 = h 0 12 := g957 0 12 rfl rfl
  have y957_0_13 : h957 0 13 = h 0 13 := g957 0 13 rfl rfl
  have y957_30_11 : h957 30 11 = h 30 11 := g957 30 11 rfl rfl
  have y957_0_22 : h957 0 22 = h 0 22 := g957 0 22 rfl rfl
  have y957_36_0 : h957 36 0 = h 36 0 := g957 36 0 rfl rfl
  have y957_36_1 : h957 36 1 = h 36 1 := g957 36 1 rfl rfl
  have y957_36_2 : h957 36 2 = h 36 2 := g957 36 2 rfl rfl
  have y957_0_16 : h957 0 16 = h 0 16 := g957 0 16 rfl rfl
  have y957_0_17 : h957 0 17 = h 0 17 := g957 0 17 rfl rfl
  have y957_0_18 : h957 0 18 = h 0 18 := g957 0 18 rfl rfl
  have y957_0_14 : h957 0 14 = h 0 14 := g957 0 14 rfl rfl
  have y957_0_15 : h957 0 15 = h 0 15 := g957 0 15 rfl rfl
  have y957_0_19 : h957 0 19 = h 0 19 := g957 0 19 rfl rfl
  have y957_0_20 : h957 0 20 = h 0 20 := g957 0 20 rfl rfl
  have y957_30_10 : h957 30 10 = h 30 10 := g957 30 10 rfl rfl
  have y957_30_12 : h957 30 12 = h 30 12 := g957 30 12 rfl rfl
  have y957_41_0 : h957 41 0 = h 41 0 := g957 41 0 rfl rfl
  have y957_41_1 : h957 41 1 = h 41 1 := g957 41 1 rfl rfl
  have y957_45_0 : h957 45 0 = h 45 0 := g957 45 0 rfl rfl
  have y957_45_1 : h957 45 1 = h 45 1 := g957 45 1 rfl rfl
  have hT1 := hT; have gA1 := gA; have gB1 := gB; have gC1 := gC; have gD1 := gD; have gR1 := gR; have gV1 := gV; have gE1 := gE; have gS1 := gS; have gP1 := gP; have gF1 := gF
  show zL _ _ _ (.inl r957 :: []) _
  refine zL_pop (pc' := 961) dL_960 rfl rfl ?_
  refine zL_aload_n (pc' := 962) dL_961 rfl rfl ?_
  refine zL_aload_n (pc' := 963) dL_962 rfl rfl ?_
  refine zL_iload_n (pc' := 964) dL_963 rfl rfl ?_
  refine zL_iconst (pc' := 965) dL_964 rfl ?_
  refine zL_iadd (pc' := 966) dL_965 rfl ?_
  refine zL_sldE (pc' := 967) (by omega) hm dL_966 rfl (fun v966 e966 q966 => ?_)
  refine zL_aload_n (pc' := 968) dL_967 rfl rfl ?_
  refine zL_iload_n (pc' := 969) dL_968 rfl rfl ?_
  refine zL_iconst (pc' := 970) dL_969 rfl ?_
  refine zL_iadd (pc' := 971) dL_970 rfl ?_
  refine zL_sldE (pc' := 972) (by omega) hm dL_971 rfl (fun v971 e971 q971 => ?_)
  refine zL_aload_n (pc' := 973) dL_972 rfl rfl ?_
  refine zL_iload_n (pc' := 974) dL_973 rfl rfl ?_
  refine zL_iconst (pc' := 975) dL_974 rfl ?_
  refine zL_iadd (pc' := 976) dL_975 rfl ?_
  refine zL_sldE (pc' := 977) (by omega) hm dL_976 rfl (fun v976 e976 q976 => ?_)
  refine zL_aload_n (pc' := 978) dL_977 rfl rfl ?_
  refine zL_iload_n (pc' := 979) dL_978 rfl rfl ?_
  refine zL_iconst (pc' := 980) dL_979 rfl ?_
  refine zL_iadd (pc' := 981) dL_980 rfl ?_
  refine zL_sldE (pc' := 982) (by omega) hm dL_981 rfl (fun v981 e981 q981 => ?_)
  refine zL_inv (pc' := 985) hcs kX12_tone vX12_tone lk_L_104 ⟨Nat.le_of_ble_eq_true rfl, Nat.le_of_ble_eq_true rfl⟩ tb0 vq12 rfl [_, _, _, _] (s_X12_tone (b := bW) (κ := _) hR (Fr.rf (b := bW.fo) hS iP) _ ⟨e966.1, e966.2⟩ _ ⟨e971.1, e971.2⟩ _ ⟨e976.1, e976.2⟩ _ ⟨e981.1, e981.2⟩ lvW.ok) dL_982 rfl (Nat.le_of_ble_eq_true rfl) rfl ?_
  rintro r982 h982 ⟨f982, p982⟩; have g982 : ∀ k i, key k i = true → inW ([] : List (Nat × Nat)) k i = false → h982 k i = h957 k i := fun k i hk _ => f982.1 k i hk
  replace iP : IPW h982 := f982.inv; replace hS := f982.2.2; replace hR := KR_tr hR f982; replace hC := KC_tr hC f982; have pR982 := iP.1.1; have pC982 := iP.1.2
  have y982_0_25 : h982 0 25 = h957 0 25 := g982 0 25 rfl rfl
  have y982_31_1 : h982 31 1 = h957 31 1 := g982 31 1 rfl rfl
  have y982_33_0 : h982 33 0 = h957 33 0 := g982 33 0 rfl rfl
  have y982_33_1 : h982 33 1 = h957 33 1 := g982 33 1 rfl rfl
  have y982_33_2 : h982 33 2 = h957 33 2 := g982 33 2 rfl rfl
  have y982_0_11 : h982 0 11 = h957 0 11 := g982 0 11 rfl rfl
  have y982_0_12 : h982 0 12 = h957 0 12 := g982 0 12 rfl rfl
  have y982_0_13 : h982 0 13 = h957 0 13 := g982 0 13 rfl rfl
  have y982_30_11 : h982 30 11 = h957 30 11 := g982 30 11 rfl rfl
  have y982_0_22 : h982 0 22 = h957 0 22 := g982 0 22 rfl rfl
  have y982_36_0 : h982 36 0 = h957 36 0 := g982 36 0 rfl rfl
  have y982_36_1 : h982 36 1 = h957 36 1 := g982 36 1 rfl rfl
  have y982_36_2 : h982 36 2 = h957 36 2 := g982 36 2 rfl rfl
  have y982_0_16 : h982 0 16 = h957 0 16 := g982 0 16 rfl rfl
  have y982_0_17 : h982 0 17 = h957 0 17 := g982 0 17 rfl rfl
  have y982_0_18 : h982 0 18 = h957 0 18 := g982 0 18 rfl rfl
  have y982_0_14 : h982 0 14 = h957 0 14 := g982 0 14 rfl rfl
  have y982_0_15 : h982 0 15 = h957 0 15 := g982 0 15 rfl rfl
  have y982_0_19 : h982 0 19 = h957 0 19 := g982 0 19 rfl rfl
  have y982_0_20 : h982 0 20 = h957 0 20 := g982 0 20 rfl rfl
  have y982_30_10 : h982 30 10 = h957 30 10 := g982 30 10 rfl rfl
  have y982_30_12 : h982 30 12 = h957 30 12 := g982 30 12 rfl rfl
  have y982_41_0 : h982 41 0 = h957 41 0 := g982 41 0 rfl rfl
  have y982_41_1 : h982 41 1 = h957 41 1 := g982 41 1 rfl rfl
  have y982_45_0 : h982 45 0 = h957 45 0 := g982 45 0 rfl rfl
  have y982_45_1 : h982 45 1 = h957 45 1 := g982 45 1 rfl rfl
  replace hT : TI h982 := TI_of hT1 (y982_0_25.trans y957_0_25) (y982_31_1.trans y957_31_1) (y982_33_0.trans y957_33_0) (y982_33_1.trans y957_33_1) (y982_33_2.trans y957_33_2) (y982_0_11.trans y957_0_11) (y982_0_12.trans y957_0_12) (y982_0_13.trans y957_0_13) (y982_30_11.trans y957_30_11) (y982_0_22.trans y957_0_22) (y982_36_0.trans y957_36_0) (y982_36_1.trans y957_36_1) (y982_36_2.trans y957_36_2) (y982_0_16.trans y957_0_16) (y982_0_17.trans y957_0_17) (y982_0_18.trans y957_0_18)
  replace gA : TGA h982 := TGA_of gA1 (fun j => (g982 1 j rfl rfl).trans (g957 1 j rfl rfl)) (fun j => (g982 34 j rfl rfl).trans (g957 34 j rfl rfl)) (fun j => (g982 10 j rfl rfl).trans (g957 10 j rfl rfl)) (fun j => (g982 35 j rfl rfl).trans (g957 35 j rfl rfl)) (fun j => (g982 6 j rfl rfl).trans (g957 6 j rfl rfl)) (fun j => (g982 37 j rfl rfl).trans (g957 37 j rfl rfl)) (fun j => (g982 11 j rfl rfl).trans (g957 11 j rfl rfl)) (fun j => (g982 38 j rfl rfl).trans (g957 38 j rfl rfl)) ((y982_0_11).trans (y957_0_11)) ((y982_0_12).trans (y957_0_12)) ((y982_0_16).trans (y957_0_16)) ((y982_0_17).trans (y957_0_17)) ((y982_0_22).trans (y957_0_22))
  replace gB : TGB h982 := TGB_of gB1 (fun j => (g982 12 j rfl rfl).trans (g957 12 j rfl rfl)) (fun j => (g982 32 j rfl rfl).trans (g957 32 j rfl rfl)) ((y982_0_25).trans (y957_0_25))
  replace gC : TGC h982 := TGC_of gC1  ((y982_0_15).trans (y957_0_15)) ((y982_30_12).trans (y957_30_12)) ((y982_0_11).trans (y957_0_11)) ((y982_0_12).trans (y957_0_12)) ((y982_0_20).trans (y957_0_20)) ((y982_30_10).trans (y957_30_10)) ((y982_0_16).trans (y957_0_16)) ((y982_0_17).trans (y957_0_17)) ((y982_0_22).trans (y957_0_22))
  replace gD : TGD h982 := TGD_of gD1  ((y982_41_0).trans (y957_41_0)) ((y982_0_14).trans (y957_0_14)) ((y982_45_0).trans (y957_45_0)) ((y982_0_19).trans (y957_0_19)) ((y982_0_22).trans (y957_0_22))
  replace gR : TGR h982 := TGR_of gR1 (fun j => (g982 3 j rfl rfl).trans (g957 3 j rfl rfl)) (fun j => (g982 4 j rfl rfl).trans (g957 4 j rfl rfl)) (fun j => (g982 5 j rfl rfl).trans (g957 5 j rfl rfl)) (fun j => (g982 7 j rfl rfl).trans (g957 7 j rfl rfl)) (fun j => (g982 8 j rfl rfl).trans (g957 8 j rfl rfl)) (fun j => (g982 9 j rfl rfl).trans (g957 9 j rfl rfl)) (fun j => (g982 42 j rfl rfl).trans (g957 42 j rfl rfl)) (fun j => (g982 43 j rfl rfl).trans (g957 43 j rfl rfl)) (fun j => (g982 44 j rfl rfl).trans (g957 44 j rfl rfl)) (fun j => (g982 46 j rfl rfl).trans (g957 46 j rfl rfl)) (fun j => (g982 47 j rfl rfl).trans (g957 47 j rfl rfl)) (fun j => (g982 48 j rfl rfl).trans (g957 48 j rfl rfl)) ((y982_0_14).trans (y957_0_14)) ((y982_0_19).trans (y957_0_19)) ((y982_0_22).trans (y957_0_22))
  replace gV : TGV h982 := TGV_of gV1 (fun j => (g982 34 j rfl rfl).trans (g957 34 j rfl rfl)) (fun j => (g982 37 j rfl rfl).trans (g957 37 j rfl rfl)) ((y982_0_22).trans (y957_0_22))
  replace gE : TGE h982 := TGE_of gE1 (fun j => (g982 3 j rfl rfl).trans (g957 3 j rfl rfl)) (fun j => (g982 7 j rfl rfl).trans (g957 7 j rfl rfl)) ((y982_0_14).trans (y957_0_14)) ((y982_0_19).trans (y957_0_19)) ((y982_0_22).trans (y957_0_22))
  replace gS : TGS h982 := TGS_of gS1 (fun j => (g982 3 j rfl rfl).trans (g957 3 j rfl rfl)) (fun j => (g982 4 j rfl rfl).trans (g957 4 j rfl rfl)) (fun j => (g982 5 j rfl rfl).trans (g957 5 j rfl rfl)) (fun j => (g982 7 j rfl rfl).trans (g957 7 j rfl rfl)) (fun j => (g982 8 j rfl rfl).trans (g957 8 j rfl rfl)) (fun j => (g982 9 j rfl rfl).trans (g957 9 j rfl rfl)) ((y982_0_14).trans (y957_0_14)) ((y982_0_19).trans (y957_0_19)) ((y982_0_22).trans (y957_0_22))
  have qe966 : v966 = v941 := by rw [q966, q941]
  have qe971 : v971 = v946 := by rw [q971, q946]
  have qe976 : v976 = v951 := by rw [q976, q951]
  have qe981 : v981 = v956 := by rw [q981, q956]
  replace gP : TGP h982 := by
    have hT2 := hT1
    unfold TI at hT2
    have k1 := KRw hR; have k2 := KRh hR
    clear hcs hm hi
    exact ⟨pR982, pC982⟩
  replace gF : TGF h982 := TGF_of gF1 (fun j => (g982 3 j rfl rfl).trans (g957 3 j rfl rfl)) (fun j => (g982 7 j rfl rfl).trans (g957 7 j rfl rfl)) ((y982_41_1).trans (y957_41_1)) ((y982_0_14).trans (y957_0_14)) ((y982_45_1).trans (y957_45_1)) ((y982_0_19).trans (y957_0_19)) ((y982_0_22).trans (y957_0_22))
  show zL _ _ _ (.inl r982 :: []) _
  refine zL_pop (pc' := 986) dL_985 rfl rfl ?_
  refine zL_goto (tgt := 1580) dL_986 rfl ?_
  exact nx _ hS hR hC hT gA gB gC gD gR gV gE gS gP gF
set_option maxHeartbeats 4000000 in
theorem lc_21 {Γ : Lc} {i : Int} {h : Hp} (hX : XI Γ.1) (hcs : Γ.2.2.2.2.2.1 ≤ room_1.cells ∧ Γ.2.2.2.2.2.2 ≤ room_1.slots) (hm : Γ.2.2.1 < 2147483648) (hi : 0 ≤ i ∧ i + 6 ≤ Γ.2.2.1) (hS : SI h) (hR : KR h) (hC : KC h) (hT : TI h) (gA : TGA h) (gB : TGB h) (gC : TGC h) (gD : TGD h) (gR : TGR h) (gV : TGV h) (gE : TGE h) (gS : TGS h) (gP : TGP h) (gF : TGF h) (nx : ∀ h' : Hp, SI h' → KR h' → KC h' → TI h' → TGA h' → TGB h' → TGC h' → TGD h' → TGR h' → TGV h' → TGE h' → TGS h' → TGP h' → TGF h' → zL Γ 1580 (lsL i) [] h') : zL Γ 989 (lsL i) [] h := by
  refine zL_aload_n (pc' := 990) dL_989 rfl rfl ?_
  refine zL_aload_n (pc' := 991) dL_990 rfl rfl ?_
  refine zL_iload_n (pc' := 992) dL_991 rfl rfl ?_
  refine zL_iconst (pc' := 993) dL_992 rfl ?_
  refine zL_iadd (pc' := 994) dL_993 rfl ?_
  refine zL_sldE (pc' := 995) (by omega) hm dL_994 rfl (fun v994 e994 q994 => ?_)
  refine zL_aload_n (pc' := 996) dL_995 rfl rfl ?_
  refine zL_iload_n (pc' := 997) dL_996 rfl rfl ?_
  refine zL_iconst (pc' := 998) dL_997 rfl ?_
  refine zL_iadd (pc' := 999) dL_998 rfl ?_
  refine zL_sldE (pc' := 1000) (by omega) hm dL_999 rfl (fun v999 e999 q999 => ?_)
  refine zL_aload_n (pc' := 1001) dL_1000 rfl rfl ?_
  refine zL_iload_n (pc' := 1002) dL_1001 rfl rfl ?_
  refine zL_iconst (pc' := 1003) dL_1002 rfl ?_
  refine zL_iadd (pc' := 1004) dL_1003 rfl ?_
  refine zL_sldE (pc' := 1005) (by omega) hm dL_1004 rfl (fun v1004 e1004 q1004 => ?_)
  have iP : IPW h := IPW_of hR hC hT gA gV gE gS gD gR gP
  refine zL_inv (pc' := 1008) hcs kX11_levels vX11_levels lk_L_105 ⟨Nat.le_of_ble_eq_true rfl, Nat.le_of_ble_eq_true rfl⟩ tb30 vq11 rfl [_, _, _] (s_X11_levels (b := bW) (κ := _) hC (Fr.rf (b := bW) hS iP) _ ⟨e994.1, e994.2⟩ _ ⟨e999.1, e999.2⟩ _ ⟨e1004.1, e1004.2⟩ shW_.ok) dL_1005 rfl (Nat.le_of_ble_eq_true rfl) rfl ?_
  rintro r1005 h1005 ⟨f1005, p1005⟩; have g1005 : ∀ k i, key k i = true → inW ([] : List (Nat × Nat)) k i = false → h1005 k i = h k i := fun k i hk _ => f1005.1 k i hk
  replace iP : IPW h1005 := f1005.inv; replace hS := f1005.2.2; replace hR := KR_tr hR f1005; replace hC := KC_tr hC f1005; have pR1005 := iP.1.1; have pC1005 := iP.1.2
  have y1005_0_25 : h1005 0 25 = h 0 25 := g1005 0 25 rfl rfl
  have y1005_31_1 : h1005 31 1 = h 31 1 := g1005 31 1 rfl rfl
  have y1005_33_0 : h1005 33 0 = h 33 0 := g1005 33 0 rfl rfl
  have y1005_33_1 : h1005 33 1 = h 33 1 := g1005 33 1 rfl rfl
  have y1005_33_2 : h1005 33 2 = h 33 2 := g1005 33 2 rfl rfl
  have y1005_0_11 : h1005 0 11 = h 0 11 := g1005 0 11 rfl rfl
  have y1005_0_12 : h1005 0 12 = h 0 12 := g1005 0 12 rfl rfl
  have y1005_0_13 : h1005 0 13 = h 0 13 := g1005 0 13 rfl rfl
  have y1005_30_11 : h1005 30 11 = h 30 11 := g1005 30 11 rfl rfl
  have y1005_0_22 : h1005 0 22 = h 0 22 := g1005 0 22 rfl rfl
  have y1005_36_0 : h1005 36 0 = h 36 0 := g1005 36 0 rfl rfl
  have y1005_36_1 : h1005 36 1 = h 36 1 := g1005 36 1 rfl rfl
  have y1005_36_2 : h1005 36 2 = h 36 2 := g1005 36 2 rfl rfl
  have y1005_0_16 : h1005 0 16 = h 0 16 := g1005 0 16 rfl rfl
  have y1005_0_17 : h1005 0 17 = h 0 17 := g1005 0 17 rfl rfl
  have y1005_0_18 : h1005 0 18 = h 0 18 := g1005 0 18 rfl rfl
  have y1005_0_14 : h1005 0 14 = h 0 14 := g1005 0 14 rfl rfl
  have y1005_0_15 : h1005 0 15 = h 0 15 := g1005 0 15 rfl rfl
  have y1005_0_19 : h1005 0 19 = h 0 19 := g1005 0 19 rfl rfl
  have y1005_0_20 : h1005 0 20 = h 0 20 := g1005 0 20 rfl rfl
  have y1005_30_10 : h1005 30 10 = h 30 10 := g1005 30 10 rfl rfl
  have y1005_30_12 : h1005 30 12 = h 30 12 := g1005 30 12 rfl rfl
  have y1005_41_0 : h1005 41 0 = h 41 0 := g1005 41 0 rfl rfl
  have y1005_41_1 : h1005 41 1 = h 41 1 := g1005 41 1 rfl rfl
  have y1005_45_0 : h1005 45 0 = h 45 0 := g1005 45 0 rfl rfl
  have y1005_45_1 : h1005 45 1 = h 45 1 := g1005 45 1 rfl rfl
  have hT1 := hT; have gA1 := gA; have gB1 := gB; have gC1 := gC; have gD1 := gD; have gR1 := gR; have gV1 := gV; have gE1 := gE; have gS1 := gS; have gP1 := gP; have gF1 := gF
  show zL _ _ _ (.inl r1005 :: []) _
  refine zL_pop (pc' := 1009) dL_1008 rfl rfl ?_
  refine zL_aload_n (pc' := 1010) dL_1009 rfl rfl ?_
  refine zL_aload_n (pc' := 1011) dL_1010 rfl rfl ?_
  refine zL_iload_n (pc' := 1012) dL_1011 rfl rfl ?_
  refine zL_iconst (pc' := 1013) dL_1012 rfl ?_
  refine zL_iadd (pc' := 1014) dL_1013 rfl ?_
  refine zL_sldE (pc' := 1015) (by omega) hm dL_1014 rfl (fun v1014 e1014 q1014 => ?_)
  refine zL_aload_n (pc' := 1016) dL_1015 rfl rfl ?_
  refine zL_iload_n (pc' := 1017) dL_1016 rfl rfl ?_
  refine zL_iconst (pc' := 1018) dL_1017 rfl ?_
  refine zL_iadd (pc' := 1019) dL_1018 rfl ?_
  refine zL_sldE (pc' := 1020) (by omega) hm dL_1019 rfl (fun v1019 e1019 q1019 => ?_)
  refine zL_aload_n (pc' := 1021) dL_1020 rfl rfl ?_
  refine zL_iload_n (pc' := 1022) dL_1021 rfl rfl ?_
  refine zL_iconst (pc' := 1023) dL_1022 rfl ?_
  refine zL_iadd (pc' := 1024) dL_1023 rfl ?_
  refine zL_sldE (pc' := 1025) (by omega) hm dL_1024 rfl (fun v1024 e1024 q1024 => ?_)
  refine zL_inv (pc' := 1028) hcs kX12_levels vX12_levels lk_L_108 ⟨Nat.le_of_ble_eq_true rfl, Nat.le_of_ble_eq_true rfl⟩ tb0 vq12 rfl [_, _, _] (s_X12_levels (b := bW) (κ := _) hR (Fr.rf (b := bW.fo) hS iP) _ ⟨e1014.1, e1014.2⟩ _ ⟨e1019.1, e1019.2⟩ _ ⟨e1024.1, e1024.2⟩ lvW.ok) dL_1025 rfl (Nat.le_of_ble_eq_true rfl) rfl ?_
  rintro r1025 h1025 ⟨f1025, p1025⟩; have g1025 : ∀ k i, key k i = true → inW ([] : List (Nat × Nat)) k i = false → h1025 k i = h1005 k i := fun k i hk _ => f1025.1 k i hk
  replace iP : IPW h1025 := f1025.inv; replace hS := f1025.2.2; replace hR := KR_tr hR f1025; replace hC := KC_tr hC f1025; have pR1025 := iP.1.1; have pC1025 := iP.1.2
  have y1025_0_25 : h1025 0 25 = h1005 0 25 := g1025 0 25 rfl rfl
  have y1025_31_1 : h1025 31 1 = h1005 31 1 := g1025 31 1 rfl rfl
  have y1025_33_0 : h1025 33 0 = h1005 33 0 := g1025 33 0 rfl rfl
  have y1025_33_1 : h1025 33 1 = h1005 33 1 := g1025 33 1 rfl rfl
  have y1025_33_2 : h1025 33 2 = h1005 33 2 := g1025 33 2 rfl rfl
  have y1025_0_11 : h1025 0 11 = h1005 0 11 := g1025 0 11 rfl rfl
  have y1025_0_12 : h1025 0 12 = h1005 0 12 := g1025 0 12 rfl rfl
  have y1025_0_13 : h1025 0 13 = h1005 0 13 := g1025 0 13 rfl rfl
  have y1025_30_11 : h1025 30 11 = h1005 30 11 := g1025 30 11 rfl rfl
  have y1025_0_22 : h1025 0 22 = h1005 0 22 := g1025 0 22 rfl rfl
  have y1025_36_0 : h1025 36 0 = h1005 36 0 := g1025 36 0 rfl rfl
  have y1025_36_1 : h1025 36 1 = h1005 36 1 := g1025 36 1 rfl rfl
  have y1025_36_2 : h1025 36 2 = h1005 36 2 := g1025 36 2 rfl rfl
  have y1025_0_16 : h1025 0 16 = h1005 0 16 := g1025 0 16 rfl rfl
  have y1025_0_17 : h1025 0 17 = h1005 0 17 := g1025 0 17 rfl rfl
  have y1025_0_18 : h1025 0 18 = h1005 0 18 := g1025 0 18 rfl rfl
  have y1025_0_14 : h1025 0 14 = h1005 0 14 := g1025 0 14 rfl rfl
  have y1025_0_15 : h1025 0 15 = h1005 0 15 := g1025 0 15 rfl rfl
  have y1025_0_19 : h1025 0 19 = h1005 0 19 := g1025 0 19 rfl rfl
  have y1025_0_20 : h1025 0 20 = h1005 0 20 := g1025 0 20 rfl rfl
  have y1025_30_10 : h1025 30 10 = h1005 30 10 := g1025 30 10 rfl rfl
  have y1025_30_12 : h1025 30 12 = h1005 30 12 := g1025 30 12 rfl rfl
  have y1025_41_0 : h1025 41 0 = h1005 41 0 := g1025 41 0 rfl rfl
  have y1025_41_1 : h1025 41 1 = h1005 41 1 := g1025 41 1 rfl rfl
  have y1025_45_0 : h1025 45 0 = h1005 45 0 := g1025 45 0 rfl rfl
  have y1025_45_1 : h1025 45 1 = h1005 45 1 := g1025 45 1 rfl rfl
  replace hT : TI h1025 := TI_of hT1 (y1025_0_25.trans y1005_0_25) (y1025_31_1.trans y1005_31_1) (y1025_33_0.trans y1005_33_0) (y1025_33_1.trans y1005_33_1) (y1025_33_2.trans y1005_33_2) (y1025_0_11.trans y1005_0_11) (y1025_0_12.trans y1005_0_12) (y1025_0_13.trans y1005_0_13) (y1025_30_11.trans y1005_30_11) (y1025_0_22.trans y1005_0_22) (y1025_36_0.trans y1005_36_0) (y1025_36_1.trans y1005_36_1) (y1025_36_2.trans y1005_36_2) (y1025_0_16.trans y1005_0_16) (y1025_0_17.trans y1005_0_17) (y1025_0_18.trans y1005_0_18)
  replace gA : TGA h1025 := TGA_of gA1 (fun j => (g1025 1 j rfl rfl).trans (g1005 1 j rfl rfl)) (fun j => (g1025 34 j rfl rfl).trans (g1005 34 j rfl rfl)) (fun j => (g1025 10 j rfl rfl).trans (g1005 10 j rfl rfl)) (fun j => (g1025 35 j rfl rfl).trans (g1005 35 j rfl rfl)) (fun j => (g1025 6 j rfl rfl).trans (g1005 6 j rfl rfl)) (fun j => (g1025 37 j rfl rfl).trans (g1005 37 j rfl rfl)) (fun j => (g1025 11 j rfl rfl).trans (g1005 11 j rfl rfl)) (fun j => (g1025 38 j rfl rfl).trans (g1005 38 j rfl rfl)) ((y1025_0_11).trans (y1005_0_11)) ((y1025_0_12).trans (y1005_0_12)) ((y1025_0_16).trans (y1005_0_16)) ((y1025_0_17).trans (y1005_0_17)) ((y1025_0_22).trans (y1005_0_22))
  replace gB : TGB h1025 := TGB_of gB1 (fun j => (g1025 12 j rfl rfl).trans (g1005 12 j rfl rfl)) (fun j => (g1025 32 j rfl rfl).trans (g1005 32 j rfl rfl)) ((y1025_0_25).trans (y1005_0_25))
  replace gC : TGC h1025 := TGC_of gC1  ((y1025_0_15).trans (y1005_0_15)) ((y1025_30_12).trans (y1005_30_12)) ((y1025_0_11).trans (y1005_0_11)) ((y1025_0_12).trans (y1005_0_12)) ((y1025_0_20).trans (y1005_0_20)) ((y1025_30_10).trans (y1005_30_10)) ((y1025_0_16).trans (y1005_0_16)) ((y1025_0_17).trans (y1005_0_17)) ((y1025_0_22).trans (y1005_0_22))
  replace gD : TGD h1025 := TGD_of gD1  ((y1025_41_0).trans (y1005_41_0)) ((y1025_0_14).trans (y1005_0_14)) ((y1025_45_0).trans (y1005_45_0)) ((y1025_0_19).trans (y1005_0_19)) ((y1025_0_22).trans (y1005_0_22))
  replace gR : TGR h1025 := TGR_of gR1 (fun j => (g1025 3 j rfl rfl).trans (g1005 3 j rfl rfl)) (fun j => (g1025 4 j rfl rfl).trans (g1005 4 j rfl rfl)) (fun j => (g1025 5 j rfl rfl).trans (g1005 5 j rfl rfl)) (fun j => (g1025 7 j rfl rfl).trans (g1005 7 j rfl rfl)) (fun j => (g1025 8 j rfl rfl).trans (g1005 8 j rfl rfl)) (fun j => (g1025 9 j rfl rfl).trans (g1005 9 j rfl rfl)) (fun j => (g1025 42 j rfl rfl).trans (g1005 42 j rfl rfl)) (fun j => (g1025 43 j rfl rfl).trans (g1005 43 j rfl rfl)) (fun j => (g1025 44 j rfl rfl).trans (g1005 44 j rfl rfl)) (fun j => (g1025 46 j rfl rfl).trans (g1005 46 j rfl rfl)) (fun j => (g1025 47 j rfl rfl).trans (g1005 47 j rfl rfl)) (fun j => (g1025 48 j rfl rfl).trans (g1005 48 j rfl rfl)) ((y1025_0_14).trans (y1005_0_14)) ((y1025_0_19).trans (y1005_0_19)) ((y1025_0_22).trans (y1005_0_22))
  replace gV : TGV h1025 := TGV_of gV1 (fun j => (g1025 34 j rfl rfl).trans (g1005 34 j rfl rfl)) (fun j => (g1025 37 j rfl rfl).trans (g1005 37 j rfl rfl)) ((y1025_0_22).trans (y1005_0_22))
  replace gE : TGE h1025 := TGE_of gE1 (fun j => (g1025 3 j rfl rfl).trans (g1005 3 j rfl rfl)) (fun j => (g1025 7 j rfl rfl).trans (g1005 7 j rfl rfl)) ((y1025_0_14).trans (y1005_0_14)) ((y1025_0_19).trans (y1005_0_19)) ((y1025_0_22).trans (y1005_0_22))
  replace gS : TGS h1025 := TGS_of gS1 (fun j => (g1025 3 j rfl rfl).trans (g1005 3 j rfl rfl)) (fun j => (g1025 4 j rfl rfl).trans (g1005 4 j rfl rfl)) (fun j => (g1025 5 j rfl rfl).trans (g1005 5 j rfl rfl)) (fun j => (g1025 7 j rfl rfl).trans (g1005 7 j rfl rfl)) (fun j => (g1025 8 j rfl rfl).trans (g1005 8 j rfl rfl)) (fun j => (g1025 9 j rfl rfl).trans (g1005 9 j rfl rfl)) ((y1025_0_14).trans (y1005_0_14)) ((y1025_0_19).trans (y1005_0_19)) ((y1025_0_22).trans (y1005_0_22))
  have qe1014 : v1014 = v994 := by rw [q1014, q994]
  have qe1019 : v1019 = v999 := by rw [q1019, q999]
  have qe1024 : v1024 = v1004 := by rw [q1024, q1004]
  replace gP : TGP h1025 := by
    have hT2 := hT1
    unfold TI at hT2
    have k1 := KRw hR; have k2 := KRh hR
    clear hcs hm hi
    exact ⟨pR1025, pC1025⟩
  replace gF : TGF h1025 := TGF_of gF1 (fun j => (g1025 3 j rfl rfl).trans (g1005 3 j rfl rfl)) (fun j => (g1025 7 j rfl rfl).trans (g1005 7 j rfl rfl)) ((y1025_41_1).trans (y1005_41_1)) ((y1025_0_14).trans (y1005_0_14)) ((y1025_45_1).trans (y1005_45_1)) ((y1025_0_19).trans (y1005_0_19)) ((y1025_0_22).trans (y1005_0_22))
  show zL _ _ _ (.inl r1025 :: []) _
  refine zL_pop (pc' := 1029) dL_1028 rfl rfl ?_
  refine zL_goto (tgt := 1580) dL_1029 rfl ?_
  exact nx _ hS hR hC hT gA gB gC gD gR gV gE gS gP gF
set_option maxHeartbeats 4000000 in
theorem lc_22 {Γ : Lc} {i : Int} {h : Hp} (hX : XI Γ.1) (hcs : Γ.2.2.2.2.2.1 ≤ room_1.cells ∧ Γ.2.2.2.2.2.2 ≤ room_1.slots) (hm : Γ.2.2.1 < 2147483648) (hi : 0 ≤ i ∧ i + 6 ≤ Γ.2.2.1) (hS : SI h) (hR : KR h) (hC : KC h) (hT : TI h) (gA : TGA h) (gB : TGB h) (gC : TGC h) (gD : TGD h) (gR : TGR h) (gV : TGV h) (gE : TGE h) (gS : TGS h) (gP : TGP h) (gF : TGF h) (nx : ∀ h' : Hp, SI h' → KR h' → KC h' → TI h' → TGA h' → TGB h' → TGC h' → TGD h' → TGR h' → TGV h' → TGE h' → TGS h' → TGP h' → TGF h' → zL Γ 1580 (lsL i) [] h') : zL Γ 1032 (lsL i) [] h := by
  refine zL_aload_n (pc' := 1033) dL_1032 rfl rfl ?_
  refine zL_aload_n (pc' := 1034) dL_1033 rfl rfl ?_
  refine zL_iload_n (pc' := 1035) dL_1034 rfl rfl ?_
  refine zL_iconst (pc' := 1036) dL_1035 rfl ?_
  refine zL_iadd (pc' := 1037) dL_1036 rfl ?_
  refine zL_sldE (pc' := 1038) (by omega) hm dL_1037 rfl (fun v1037 e1037 q1037 => ?_)
  refine zL_aload_n (pc' := 1039) dL_1038 rfl rfl ?_
  refine zL_iload_n (pc' := 1040) dL_1039 rfl rfl ?_
  refine zL_iconst (pc' := 1041) dL_1040 rfl ?_
  refine zL_iadd (pc' := 1042) dL_1041 rfl ?_
  refine zL_sldE (pc' := 1043) (by omega) hm dL_1042 rfl (fun v1042 e1042 q1042 => ?_)
  refine zL_aload_n (pc' := 1044) dL_1043 rfl rfl ?_
  refine zL_iload_n (pc' := 1045) dL_1044 rfl rfl ?_
  refine zL_iconst (pc' := 1046) dL_1045 rfl ?_
  refine zL_iadd (pc' := 1047) dL_1046 rfl ?_
  refine zL_sldE (pc' := 1048) (by omega) hm dL_1047 rfl (fun v1047 e1047 q1047 => ?_)
  refine zL_aload_n (pc' := 1049) dL_1048 rfl rfl ?_
  refine zL_iload_n (pc' := 1050) dL_1049 rfl rfl ?_
  refine zL_iconst (pc' := 1051) dL_1050 rfl ?_
  refine zL_iadd (pc' := 1052) dL_1051 rfl ?_
  refine zL_sldE (pc' := 1053) (by omega) hm dL_1052 rfl (fun v1052 e1052 q1052 => ?_)
  have iP : IPW h := IPW_of hR hC hT gA gV gE gS gD gR gP
  refine zL_inv (pc' := 1056) hcs kX11_noise vX11_noise lk_L_109 ⟨Nat.le_of_ble_eq_true rfl, Nat.le_of_ble_eq_true rfl⟩ tb30 vq11 rfl [_, _, _, _] (s_X11_noise (b := bW) (κ := _) hC (Fr.rf (b := bW) hS iP) _ ⟨e1037.1, e1037.2⟩ _ ⟨e1042.1, e1042.2⟩ _ ⟨e1047.1, e1047.2⟩ _ ⟨e1052.1, e1052.2⟩ shW_.ok) dL_1053 rfl (Nat.le_of_ble_eq_true rfl) rfl ?_
  rintro r1053 h1053 ⟨f1053, p1053⟩; have g1053 : ∀ k i, key k i = true → inW ([] : List (Nat × Nat)) k i = false → h1053 k i = h k i := fun k i hk _ => f1053.1 k i hk
  replace iP : IPW h1053 := f1053.inv; replace hS := f1053.2.2; replace hR := KR_tr hR f1053; replace hC := KC_tr hC f1053; have pR1053 := iP.1.1; have pC1053 := iP.1.2
  have y1053_0_25 : h1053 0 25 = h 0 25 := g1053 0 25 rfl rfl
  have y1053_31_1 : h1053 31 1 = h 31 1 := g1053 31 1 rfl rfl
  have y1053_33_0 : h1053 33 0 = h 33 0 := g1053 33 0 rfl rfl
  have y1053_33_1 : h1053 33 1 = h 33 1 := g1053 33 1 rfl rfl
  have y1053_33_2 : h1053 33 2 = h 33 2 := g1053 33 2 rfl rfl
  have y1053_0_11 : h1053 0 11 = h 0 11 := g1053 0 11 rfl rfl
  have y1053_0_12 : h1053 0 12 = h 0 12 := g1053 0 12 rfl rfl
  have y1053_0_13 : h1053 0 13 = h 0 13 := g1053 0 13 rfl rfl
  have y1053_30_11 : h1053 30 11 = h 30 11 := g1053 30 11 rfl rfl
  have y1053_0_22 : h1053 0 22 = h 0 22 := g1053 0 22 rfl rfl
  have y1053_36_0 : h1053 36 0 = h 36 0 := g1053 36 0 rfl rfl
  have y1053_36_1 : h1053 36 1 = h 36 1 := g1053 36 1 rfl rfl
  have y1053_36_2 : h1053 36 2 = h 36 2 := g1053 36 2 rfl rfl
  have y1053_0_16 : h1053 0 16 = h 0 16 := g1053 0 16 rfl rfl
  have y1053_0_17 : h1053 0 17 = h 0 17 := g1053 0 17 rfl rfl
  have y1053_0_18 : h1053 0 18 = h 0 18 := g1053 0 18 rfl rfl
  have y1053_0_14 : h1053 0 14 = h 0 14 := g1053 0 14 rfl rfl
  have y1053_0_15 : h1053 0 15 = h 0 15 := g1053 0 15 rfl rfl
  have y1053_0_19 : h1053 0 19 = h 0 19 := g1053 0 19 rfl rfl
  have y1053_0_20 : h1053 0 20 = h 0 20 := g1053 0 20 rfl rfl
  have y1053_30_10 : h1053 30 10 = h 30 10 := g1053 30 10 rfl rfl
  have y1053_30_12 : h1053 30 12 = h 30 12 := g1053 30 12 rfl rfl
  have y1053_41_0 : h1053 41 0 = h 41 0 := g1053 41 0 rfl rfl
  have y1053_41_1 : h1053 41 1 = h 41 1 := g1053 41 1 rfl rfl
  have y1053_45_0 : h1053 45 0 = h 45 0 := g1053 45 0 rfl rfl
  have y1053_45_1 : h1053 45 1 = h 45 1 := g1053 45 1 rfl rfl
  have hT1 := hT; have gA1 := gA; have gB1 := gB; have gC1 := gC; have gD1 := gD; have gR1 := gR; have gV1 := gV; have gE1 := gE; have gS1 := gS; have gP1 := gP; have gF1 := gF
  show zL _ _ _ (.inl r1053 :: []) _
  refine zL_pop (pc' := 1057) dL_1056 rfl rfl ?_
  refine zL_aload_n (pc' := 1058) dL_1057 rfl rfl ?_
  refine zL_aload_n (pc' := 1059) dL_1058 rfl rfl ?_
  refine zL_iload_n (pc' := 1060) dL_1059 rfl rfl ?_
  refine zL_iconst (pc' := 1061) dL_1060 rfl ?_
  refine zL_iadd (pc' := 1062) dL_1061 rfl ?_
  refine zL_sldE (pc' := 1063) (by omega) hm dL_1062 rfl (fun v1062 e1062 q1062 => ?_)
  refine zL_aload_n (pc' := 1064) dL_1063 rfl rfl ?_
  refine zL_iload_n (pc' := 1065) dL_1064 rfl rfl ?_
  refine zL_iconst (pc' := 1066) dL_1065 rfl ?_
  refine zL_iadd (pc' := 1067) dL_1066 rfl ?_
  refine zL_sldE (pc' := 1068) (by omega) hm dL_1067 rfl (fun v1067 e1067 q1067 => ?_)
  refine zL_aload_n (pc' := 1069) dL_1068 rfl rfl ?_
  refine zL_iload_n (pc' := 1070) dL_1069 rfl rfl ?_
  refine zL_iconst (pc' := 1071) dL_1070 rfl ?_
  refine zL_iadd (pc' := 1072) dL_1071 rfl ?_
  refine zL_sldE (pc' := 1073) (by omega) hm dL_1072 rfl (fun v1072 e1072 q1072 => ?_)
  refine zL_aload_n (pc' := 1074) dL_1073 rfl rfl ?_
  refine zL_iload_n (pc' := 1075) dL_1074 rfl rfl ?_
  refine zL_iconst (pc' := 1076) dL_1075 rfl ?_
  refine zL_iadd (pc' := 1077) dL_1076 rfl ?_
  refine zL_sldE (pc' := 1078) (by omega) hm dL_1077 rfl (fun v1077 e1077 q1077 => ?_)
  refine zL_inv (pc' := 1081) hcs kX12_noise vX12_noise lk_L_112 ⟨Nat.le_of_ble_eq_true rfl, Nat.le_of_ble_eq_true rfl⟩ tb0 vq12 rfl [_, _, _, _] (s_X12_noise (b := bW) (κ := _) hR (Fr.rf (b := bW.fo) hS iP) _ ⟨e1062.1, e1062.2⟩ _ ⟨e1067.1, e1067.2⟩ _ ⟨e1072.1, e1072.2⟩ _ ⟨e1077.1, e1077.2⟩ lvW.ok) dL_1078 rfl (Nat.le_of_ble_eq_true rfl) rfl ?_
  rintro r1078 h1078 ⟨f1078, p1078⟩; have g1078 : ∀ k i, key k i = true → inW ([] : List (Nat × Nat)) k i = false → h1078 k i = h1053 k i := fun k i hk _ => f1078.1 k i hk
  replace iP : IPW h1078 := f1078.inv; replace hS := f1078.2.2; replace hR := KR_tr hR f1078; replace hC := KC_tr hC f1078; have pR1078 := iP.1.1; have pC1078 := iP.1.2
  have y1078_0_25 : h1078 0 25 = h1053 0 25 := g1078 0 25 rfl rfl
  have y1078_31_1 : h1078 31 1 = h1053 31 1 := g1078 31 1 rfl rfl
  have y1078_33_0 : h1078 33 0 = h1053 33 0 := g1078 33 0 rfl rfl
  have y1078_33_1 : h1078 33 1 = h1053 33 1 := g1078 33 1 rfl rfl
  have y1078_33_2 : h1078 33 2 = h1053 33 2 := g1078 33 2 rfl rfl
  have y1078_0_11 : h1078 0 11 = h1053 0 11 := g1078 0 11 rfl rfl
  have y1078_0_12 : h1078 0 12 = h1053 0 12 := g1078 0 12 rfl rfl
  have y1078_0_13 : h1078 0 13 = h1053 0 13 := g1078 0 13 rfl rfl
  have y1078_30_11 : h1078 30 11 = h1053 30 11 := g1078 30 11 rfl rfl
  have y1078_0_22 : h1078 0 22 = h1053 0 22 := g1078 0 22 rfl rfl
  have y1078_36_0 : h1078 36 0 = h1053 36 0 := g1078 36 0 rfl rfl
  have y1078_36_1 : h1078 36 1 = h1053 36 1 := g1078 36 1 rfl rfl
  have y1078_36_2 : h1078 36 2 = h1053 36 2 := g1078 36 2 rfl rfl
  have y1078_0_16 : h1078 0 16 = h1053 0 16 := g1078 0 16 rfl rfl
  have y1078_0_17 : h1078 0 17 = h1053 0 17 := g1078 0 17 rfl rfl
  have y1078_0_18 : h1078 0 18 = h1053 0 18 := g1078 0 18 rfl rfl
  have y1078_0_14 : h1078 0 14 = h1053 0 14 := g1078 0 14 rfl rfl
  have y1078_0_15 : h1078 0 15 = h1053 0 15 := g1078 0 15 rfl rfl
  have y1078_0_19 : h1078 0 19 = h1053 0 19 := g1078 0 19 rfl rfl
  have y1078_0_20 : h1078 0 20 = h1053 0 20 := g1078 0 20 rfl rfl
  have y1078_30_10 : h1078 30 10 = h1053 30 10 := g1078 30 10 rfl rfl
  have y1078_30_12 : h1078 30 12 = h1053 30 12 := g1078 30 12 rfl rfl
  have y1078_41_0 : h1078 41 0 = h1053 41 0 := g1078 41 0 rfl rfl
  have y1078_41_1 : h1078 41 1 = h1053 41 1 := g1078 41 1 rfl rfl
  have y1078_45_0 : h1078 45 0 = h1053 45 0 := g1078 45 0 rfl rfl
  have y1078_45_1 : h1078 45 1 = h1053 45 1 := g1078 45 1 rfl rfl
  replace hT : TI h1078 := TI_of hT1 (y1078_0_25.trans y1053_0_25) (y1078_31_1.trans y1053_31_1) (y1078_33_0.trans y1053_33_0) (y1078_33_1.trans y1053_33_1) (y1078_33_2.trans y1053_33_2) (y1078_0_11.trans y1053_0_11) (y1078_0_12.trans y1053_0_12) (y1078_0_13.trans y1053_0_13) (y1078_30_11.trans y1053_30_11) (y1078_0_22.trans y1053_0_22) (y1078_36_0.trans y1053_36_0) (y1078_36_1.trans y1053_36_1) (y1078_36_2.trans y1053_36_2) (y1078_0_16.trans y1053_0_16) (y1078_0_17.trans y1053_0_17) (y1078_0_18.trans y1053_0_18)
  replace gA : TGA h1078 := TGA_of gA1 (fun j => (g1078 1 j rfl rfl).trans (g1053 1 j rfl rfl)) (fun j => (g1078 34 j rfl rfl).trans (g1053 34 j rfl rfl)) (fun j => (g1078 10 j rfl rfl).trans (g1053 10 j rfl rfl)) (fun j => (g1078 35 j rfl rfl).trans (g1053 35 j rfl rfl)) (fun j => (g1078 6 j rfl rfl).trans (g1053 6 j rfl rfl)) (fun j => (g1078 37 j rfl rfl).trans (g1053 37 j rfl rfl)) (fun j => (g1078 11 j rfl rfl).trans (g1053 11 j rfl rfl)) (fun j => (g1078 38 j rfl rfl).trans (g1053 38 j rfl rfl)) ((y1078_0_11).trans (y1053_0_11)) ((y1078_0_12).trans (y1053_0_12)) ((y1078_0_16).trans (y1053_0_16)) ((y1078_0_17).trans (y1053_0_17)) ((y1078_0_22).trans (y1053_0_22))
  replace gB : TGB h1078 := TGB_of gB1 (fun j => (g1078 12 j rfl rfl).trans (g1053 12 j rfl rfl)) (fun j => (g1078 32 j rfl rfl).trans (g1053 32 j rfl rfl)) ((y1078_0_25).trans (y1053_0_25))
  replace gC : TGC h1078 := TGC_of gC1  ((y1078_0_15).trans (y1053_0_15)) ((y1078_30_12).trans (y1053_30_12)) ((y1078_0_11).trans (y1053_0_11)) ((y1078_0_12).trans (y1053_0_12)) ((y1078_0_20).trans (y1053_0_20)) ((y1078_30_10).trans (y1053_30_10)) ((y1078_0_16).trans (y1053_0_16)) ((y1078_0_17).trans (y1053_0_17)) ((y1078_0_22).trans (y1053_0_22))
  replace gD : TGD h1078 := TGD_of gD1  ((y1078_41_0).trans (y1053_41_0)) ((y1078_0_14).trans (y1053_0_14)) ((y1078_45_0).trans (y1053_45_0)) ((y1078_0_19).trans (y1053_0_19)) ((y1078_0_22).trans (y1053_0_22))
  replace gR : TGR h1078 := TGR_of gR1 (fun j => (g1078 3 j rfl rfl).trans (g1053 3 j rfl rfl)) (fun j => (g1078 4 j rfl rfl).trans (g1053 4 j rfl rfl)) (fun j => (g1078 5 j rfl rfl).trans (g1053 5 j rfl rfl)) (fun j => (g1078 7 j rfl rfl).trans (g1053 7 j rfl rfl)) (fun j => (g1078 8 j rfl rfl).trans (g1053 8 j rfl rfl)) (fun j => (g1078 9 j rfl rfl).trans (g1053 9 j rfl rfl)) (fun j => (g1078 42 j rfl rfl).trans (g1053 42 j rfl rfl)) (fun j => (g1078 43 j rfl rfl).trans (g1053 43 j rfl rfl)) (fun j => (g1078 44 j rfl rfl).trans (g1053 44 j rfl rfl)) (fun j => (g1078 46 j rfl rfl).trans (g1053 46 j rfl rfl)) (fun j => (g1078 47 j rfl rfl).trans (g1053 47 j rfl rfl)) (fun j => (g1078 48 j rfl rfl).trans (g1053 48 j rfl rfl)) ((y1078_0_14).trans (y1053_0_14)) ((y1078_0_19).trans (y1053_0_19)) ((y1078_0_22).trans (y1053_0_22))
  replace gV : TGV h1078 := TGV_of gV1 (fun j => (g1078 34 j rfl rfl).trans (g1053 34 j rfl rfl)) (fun j => (g1078 37 j rfl rfl).trans (g1053 37 j rfl rfl)) ((y1078_0_22).trans (y1053_0_22))
  replace gE : TGE h1078 := TGE_of gE1 (fun j => (g1078 3 j rfl rfl).trans (g1053 3 j rfl rfl)) (fun j => (g1078 7 j rfl rfl).trans (g1053 7 j rfl rfl)) ((y1078_0_14).trans (y1053_0_14)) ((y1078_0_19).trans (y1053_0_19)) ((y1078_0_22).trans (y1053_0_22))
  replace gS : TGS h1078 := TGS_of gS1 (fun j => (g1078 3 j rfl rfl).trans (g1053 3 j rfl rfl)) (fun j => (g1078 4 j rfl rfl).trans (g1053 4 j rfl rfl)) (fun j => (g1078 5 j rfl rfl).trans (g1053 5 j rfl rfl)) (fun j => (g1078 7 j rfl rfl).trans (g1053 7 j rfl rfl)) (fun j => (g1078 8 j rfl rfl).trans (g1053 8 j rfl rfl)) (fun j => (g1078 9 j rfl rfl).trans (g1053 9 j rfl rfl)) ((y1078_0_14).trans (y1053_0_14)) ((y1078_0_19).trans (y1053_0_19)) ((y1078_0_22).trans (y1053_0_22))
  have qe1062 : v1062 = v1037 := by rw [q1062, q1037]
  have qe1067 : v1067 = v1042 := by rw [q1067, q1042]
  have qe1072 : v1072 = v1047 := by rw [q1072, q1047]
  have qe1077 : v1077 = v1052 := by rw [q1077, q1052]
  replace gP : TGP h1078 := by
    have hT2 := hT1
    unfold TI at hT2
    have k1 := KRw hR; have k2 := KRh hR
    clear hcs hm hi
    exact ⟨pR1078, pC1078⟩
  replace gF : TGF h1078 := TGF_of gF1 (fun j => (g1078 3 j rfl rfl).trans (g1053 3 j rfl rfl)) (fun j => (g1078 7 j rfl rfl).trans (g1053 7 j rfl rfl)) ((y1078_41_1).trans (y1053_41_1)) ((y1078_0_14).trans (y1053_0_14)) ((y1078_45_1).trans (y1053_45_1)) ((y1078_0_19).trans (y1053_0_19)) ((y1078_0_22).trans (y1053_0_22))
  show zL _ _ _ (.inl r1078 :: []) _
  refine zL_pop (pc' := 1082) dL_1081 rfl rfl ?_
  refine zL_goto (tgt := 1580) dL_1082 rfl ?_
  exact nx _ hS hR hC hT gA gB gC gD gR gV gE gS gP gF
set_option maxHeartbeats 4000000 in
theorem lc_23 {Γ : Lc} {i : Int} {h : Hp} (hX : XI Γ.1) (hcs : Γ.2.2.2.2.2.1 ≤ room_1.cells ∧ Γ.2.2.2.2.2.2 ≤ room_1.slots) (hm : Γ.2.2.1 < 2147483648) (hi : 0 ≤ i ∧ i + 6 ≤ Γ.2.2.1) (hS : SI h) (hR : KR h) (hC : KC h) (hT : TI h) (gA : TGA h) (gB : TGB h) (gC : TGC h) (gD : TGD h) (gR : TGR h) (gV : TGV h) (gE : TGE h) (gS : TGS h) (gP : TGP h) (gF : TGF h) (nx : ∀ h' : Hp, SI h' → KR h' → KC h' → TI h' → TGA h' → TGB h' → TGC h' → TGD h' → TGR h' → TGV h' → TGE h' → TGS h' → TGP h' → TGF h' → zL Γ 1580 (lsL i) [] h') : zL Γ 1085 (lsL i) [] h := by
  refine zL_aload_n (pc' := 1086) dL_1085 rfl rfl ?_
  refine zL_aload_n (pc' := 1087) dL_1086 rfl rfl ?_
  refine zL_iload_n (pc' := 1088) dL_1087 rfl rfl ?_
  refine zL_iconst (pc' := 1089) dL_1088 rfl ?_
  refine zL_iadd (pc' := 1090) dL_1089 rfl ?_
  refine zL_sldE (pc' := 1091) (by omega) hm dL_1090 rfl (fun v1090 e1090 q1090 => ?_)
  refine zL_aload_n (pc' := 1092) dL_1091 rfl rfl ?_
  refine zL_iload_n (pc' := 1093) dL_1092 rfl rfl ?_
  refine zL_iconst (pc' := 1094) dL_1093 rfl ?_
  refine zL_iadd (pc' := 1095) dL_1094 rfl ?_
  refine zL_sldE (pc' := 1096) (by omega) hm dL_1095 rfl (fun v1095 e1095 q1095 => ?_)
  refine zL_aload_n (pc' := 1097) dL_1096 rfl rfl ?_
  refine zL_iload_n (pc' := 1098) dL_1097 rfl rfl ?_
  refine zL_iconst (pc' := 1099) dL_1098 rfl ?_
  refine zL_iadd (pc' := 1100) dL_1099 rfl ?_
  refine zL_sldE (pc' := 1101) (by omega) hm dL_1100 rfl (fun v1100 e1100 q1100 => ?_)
  have iP : IPW h := IPW_of hR hC hT gA gV gE gS gD gR gP
  refine zL_inv (pc' := 1104) hcs kX11_percent vX11_percent lk_L_113 ⟨Nat.le_of_ble_eq_true rfl, Nat.le_of_ble_eq_true rfl⟩ tb30 vq11 rfl [_, _, _] (s_X11_percent (b := bW) (κ := _) hC (Fr.rf (b := bW) hS iP) _ ⟨e1090.1, e1090.2⟩ _ ⟨e1095.1, e1095.2⟩ _ ⟨e1100.1, e1100.2⟩ shW_.ok) dL_1101 rfl (Nat.le_of_ble_eq_true rfl) rfl ?_
  rintro r1101 h1101 ⟨f1101, p1101⟩; have g1101 : ∀ k i, key k i = true → inW ([] : List (Nat × Nat)) k i = false → h1101 k i = h k i := fun k i hk _ => f1101.1 k i hk
  replace iP : IPW h1101 := f1101.inv; replace hS := f1101.2.2; replace hR := KR_tr hR f1101; replace hC := KC_tr hC f1101; have pR1101 := iP.1.1; have pC1101 := iP.1.2
  have y1101_0_25 : h1101 0 25 = h 0 25 := g1101 0 25 rfl rfl
  have y1101_31_1 : h1101 31 1 = h 31 1 := g1101 31 1 rfl rfl
  have y1101_33_0 : h1101 33 0 = h 33 0 := g1101 33 0 rfl rfl
  have y1101_33_1 : h1101 33 1 = h 33 1 := g1101 33 1 rfl rfl
  have y1101_33_2 : h1101 33 2 = h 33 2 := g1101 33 2 rfl rfl
  have y1101_0_11 : h1101 0 11 = h 0 11 := g1101 0 11 rfl rfl
  have y1101_0_12 : h1101 0 12 = h 0 12 := g1101 0 12 rfl rfl
  have y1101_0_13 : h1101 0 13 = h 0 13 := g1101 0 13 rfl rfl
  have y1101_30_11 : h1101 30 11 = h 30 11 := g1101 30 11 rfl rfl
  have y1101_0_22 : h1101 0 22 = h 0 22 := g1101 0 22 rfl rfl
  have y1101_36_0 : h1101 36 0 = h 36 0 := g1101 36 0 rfl rfl
  have y1101_36_1 : h1101 36 1 = h 36 1 := g1101 36 1 rfl rfl
  have y1101_36_2 : h1101 36 2 = h 36 2 := g1101 36 2 rfl rfl
  have y1101_0_16 : h1101 0 16 = h 0 16 := g1101 0 16 rfl rfl
  have y1101_0_17 : h1101 0 17 = h 0 17 := g1101 0 17 rfl rfl
  have y1101_0_18 : h1101 0 18 = h 0 18 := g1101 0 18 rfl rfl
  have y1101_0_14 : h1101 0 14 = h 0 14 := g1101 0 14 rfl rfl
  have y1101_0_15 : h1101 0 15 = h 0 15 := g1101 0 15 rfl rfl
  have y1101_0_19 : h1101 0 19 = h 0 19 := g1101 0 19 rfl rfl
  have y1101_0_20 : h1101 0 20 = h 0 20 := g1101 0 20 rfl rfl
  have y1101_30_10 : h1101 30 10 = h 30 10 := g1101 30 10 rfl rfl
  have y1101_30_12 : h1101 30 12 = h 30 12 := g1101 30 12 rfl rfl
  have y1101_41_0 : h1101 41 0 = h 41 0 := g1101 41 0 rfl rfl
  have y1101_41_1 : h1101 41 1 = h 41 1 := g1101 41 1 rfl rfl
  have y1101_45_0 : h1101 45 0 = h 45 0 := g1101 45 0 rfl rfl
  have y1101_45_1 : h1101 45 1 = h 45 1 := g1101 45 1 rfl rfl
  have hT1 := hT; have gA1 := gA; have gB1 := gB; have gC1 := gC; have gD1 := gD; have gR1 := gR; have gV1 := gV; have gE1 := gE; have gS1 := gS; have gP1 := gP; have gF1 := gF
  show zL _ _ _ (.inl r1101 :: []) _
  refine zL_pop (pc' := 1105) dL_1104 rfl rfl ?_
  refine zL_aload_n (pc' := 1106) dL_1105 rfl rfl ?_
  refine zL_aload_n (pc' := 1107) dL_1106 rfl rfl ?_
  refine zL_iload_n (pc' := 1108) dL_1107 rfl rfl ?_
  refine zL_iconst (pc' := 1109) dL_1108 rfl ?_
  refine zL_iadd (pc' := 1110) dL_1109 rfl ?_
  refine zL_sldE (pc' := 1111) (by omega) hm dL_1110 rfl (fun v1110 e1110 q1110 => ?_)
  refine zL_aload_n (pc' := 1112) dL_1111 rfl rfl ?_
  refine zL_iload_n (pc' := 1113) dL_1112 rfl rfl ?_
  refine zL_iconst (pc' := 1114) dL_1113 rfl ?_
  refine zL_iadd (pc' := 1115) dL_1114 rfl ?_
  refine zL_sldE (pc' := 1116) (by omega) hm dL_1115 rfl (fun v1115 e1115 q1115 => ?_)
  refine zL_aload_n (pc' := 1117) dL_1116 rfl rfl ?_
  refine zL_iload_n (pc' := 1118) dL_1117 rfl rfl ?_
  refine zL_iconst (pc' := 1119) dL_1118 rfl ?_
  refine zL_iadd (pc' := 1120) dL_1119 rfl ?_
  refine zL_sldE (pc' := 1121) (by omega) hm dL_1120 rfl (fun v1120 e1120 q1120 => ?_)
  refine zL_inv (pc' := 1124) hcs kX12_percent vX12_percent lk_L_116 ⟨Nat.le_of_ble_eq_true rfl, Nat.le_of_ble_eq_true rfl⟩ tb0 vq12 rfl [_, _, _] (s_X12_percent (b := bW) (κ := _) hR (Fr.rf (b := bW.fo) hS iP) _ ⟨e1110.1, e1110.2⟩ _ ⟨e1115.1, e1115.2⟩ _ ⟨e1120.1, e1120.2⟩ lvW.ok) dL_1121 rfl (Nat.le_of_ble_eq_true rfl) rfl ?_
  rintro r1121 h1121 ⟨f1121, p1121⟩; have g1121 : ∀ k i, key k i = true → inW ([] : List (Nat × Nat)) k i = false → h1121 k i = h1101 k i := fun k i hk _ => f1121.1 k i hk
  replace iP : IPW h1121 := f1121.inv; replace hS := f1121.2.2; replace hR := KR_tr hR f1121; replace hC := KC_tr hC f1121; have pR1121 := iP.1.1; have pC1121 := iP.1.2
  have y1121_0_25 : h1121 0 25 = h1101 0 25 := g1121 0 25 rfl rfl
  have y1121_31_1 : h1121 31 1 = h1101 31 1 := g1121 31 1 rfl rfl
  have y1121_33_0 : h1121 33 0 = h1101 33 0 := g1121 33 0 rfl rfl
  have y1121_33_1 : h1121 33 1 = h1101 33 1 := g1121 33 1 rfl rfl
  have y1121_33_2 : h1121 33 2 = h1101 33 2 := g1121 33 2 rfl rfl
  have y1121_0_11 : h1121 0 11 = h1101 0 11 := g1121 0 11 rfl rfl
  have y1121_0_12 : h1121 0 12 = h1101 0 12 := g1121 0 12 rfl rfl
  have y1121_0_13 : h1121 0 13 = h1101 0 13 := g1121 0 13 rfl rfl
  have y1121_30_11 : h1121 30 11 = h1101 30 11 := g1121 30 11 rfl rfl
  have y1121_0_22 : h1121 0 22 = h1101 0 22 := g1121 0 22 rfl rfl
  have y1121_36_0 : h1121 36 0 = h1101 36 0 := g1121 36 0 rfl rfl
  have y1121_36_1 : h1121 36 1 = h1101 36 1 := g1121 36 1 rfl rfl
  have y1121_36_2 : h1121 36 2 = h1101 36 2 := g1121 36 2 rfl rfl
  have y1121_0_16 : h1121 0 16 = h1101 0 16 := g1121 0 16 rfl rfl
  have y1121_0_17 : h1121 0 17 = h1101 0 17 := g1121 0 17 rfl rfl
  have y1121_0_18 : h1121 0 18 = h1101 0 18 := g1121 0 18 rfl rfl
  have y1121_0_14 : h1121 0 14 = h1101 0 14 := g1121 0 14 rfl rfl
  have y1121_0_15 : h1121 0 15 = h1101 0 15 := g1121 0 15 rfl rfl
  have y1121_0_19 : h1121 0 19 = h1101 0 19 := g1121 0 19 rfl rfl
  have y1121_0_20 : h1121 0 20 = h1101 0 20 := g1121 0 20 rfl rfl
  have y1121_30_10 : h1121 30 10 = h1101 30 10 := g1121 30 10 rfl rfl
  have y1121_30_12 : h1121 30 12 = h1101 30 12 := g1121 30 12 rfl rfl
  have y1121_41_0 : h1121 41 0 = h1101 41 0 := g1121 41 0 rfl rfl
  have y1121_41_1 : h1121 41 1 = h1101 41 1 := g1121 41 1 rfl rfl
  have y1121_45_0 : h1121 45 0 = h1101 45 0 := g1121 45 0 rfl rfl
  have y1121_45_1 : h1121 45 1 = h1101 45 1 := g1121 45 1 rfl rfl
  replace hT : TI h1121 := TI_of hT1 (y1121_0_25.trans y1101_0_25) (y1121_31_1.trans y1101_31_1) (y1121_33_0.trans y1101_33_0) (y1121_33_1.trans y1101_33_1) (y1121_33_2.trans y1101_33_2) (y1121_0_11.trans y1101_0_11) (y1121_0_12.trans y1101_0_12) (y1121_0_13.trans y1101_0_13) (y1121_30_11.trans y1101_30_11) (y1121_0_22.trans y1101_0_22) (y1121_36_0.trans y1101_36_0) (y1121_36_1.trans y1101_36_1) (y1121_36_2.trans y1101_36_2) (y1121_0_16.trans y1101_0_16) (y1121_0_17.trans y1101_0_17) (y1121_0_18.trans y1101_0_18)
  replace gA : TGA h1121 := TGA_of gA1 (fun j => (g1121 1 j rfl rfl).trans (g1101 1 j rfl rfl)) (fun j => (g1121 34 j rfl rfl).trans (g1101 34 j rfl rfl)) (fun j => (g1121 10 j rfl rfl).trans (g1101 10 j rfl rfl)) (fun j => (g1121 35 j rfl rfl).trans (g1101 35 j rfl rfl)) (fun j => (g1121 6 j rfl rfl).trans (g1101 6 j rfl rfl)) (fun j => (g1121 37 j rfl rfl).trans (g1101 37 j rfl rfl)) (fun j => (g1121 11 j rfl rfl).trans (g1101 11 j rfl rfl)) (fun j => (g1121 38 j rfl rfl).trans (g1101 38 j rfl rfl)) ((y1121_0_11).trans (y1101_0_11)) ((y1121_0_12).trans (y1101_0_12)) ((y1121_0_16).trans (y1101_0_16)) ((y1121_0_17).trans (y1101_0_17)) ((y1121_0_22).trans (y1101_0_22))
  replace gB : TGB h1121 := TGB_of gB1 (fun j => (g1121 12 j rfl rfl).trans (g1101 12 j rfl rfl)) (fun j => (g1121 32 j rfl rfl).trans (g1101 32 j rfl rfl)) ((y1121_0_25).trans (y1101_0_25))
  replace gC : TGC h1121 := TGC_of gC1  ((y1121_0_15).trans (y1101_0_15)) ((y1121_30_12).trans (y1101_30_12)) ((y1121_0_11).trans (y1101_0_11)) ((y1121_0_12).trans (y1101_0_12)) ((y1121_0_20).trans (y1101_0_20)) ((y1121_30_10).trans (y1101_30_10)) ((y1121_0_16).trans (y1101_0_16)) ((y1121_0_17).trans (y1101_0_17)) ((y1121_0_22).trans (y1101_0_22))
  replace gD : TGD h1121 := TGD_of gD1  ((y1121_41_0).trans (y1101_41_0)) ((y1121_0_14).trans (y1101_0_14)) ((y1121_45_0).trans (y1101_45_0)) ((y1121_0_19).trans (y1101_0_19)) ((y1121_0_22).trans (y1101_0_22))
  replace gR : TGR h1121 := TGR_of gR1 (fun j => (g1121 3 j rfl rfl).trans (g1101 3 j rfl rfl)) (fun j => (g1121 4 j rfl rfl).trans (g1101 4 j rfl rfl)) (fun j => (g1121 5 j rfl rfl).trans (g1101 5 j rfl rfl)) (fun j => (g1121 7 j rfl rfl).trans (g1101 7 j rfl rfl)) (fun j => (g1121 8 j rfl rfl).trans (g1101 8 j rfl rfl)) (fun j => (g1121 9 j rfl rfl).trans (g1101 9 j rfl rfl)) (fun j => (g1121 42 j rfl rfl).trans (g1101 42 j rfl rfl)) (fun j => (g1121 43 j rfl rfl).trans (g1101 43 j rfl rfl)) (fun j => (g1121 44 j rfl rfl).trans (g1101 44 j rfl rfl)) (fun j => (g1121 46 j rfl rfl).trans (g1101 46 j rfl rfl)) (fun j => (g1121 47 j rfl rfl).trans (g1101 47 j rfl rfl)) (fun j => (g1121 48 j rfl rfl).trans (g1101 48 j rfl rfl)) ((y1121_0_14).trans (y1101_0_14)) ((y1121_0_19).trans (y1101_0_19)) ((y1121_0_22).trans (y1101_0_22))
  replace gV : TGV h1121 := TGV_of gV1 (fun j => (g1121 34 j rfl rfl).trans (g1101 34 j rfl rfl)) (fun j => (g1121 37 j rfl rfl).trans (g1101 37 j rfl rfl)) ((y1121_0_22).trans (y1101_0_22))
  replace gE : TGE h1121 := TGE_of gE1 (fun j => (g1121 3 j rfl rfl).trans (g1101 3 j rfl rfl)) (fun j => (g1121 7 j rfl rfl).trans (g1101 7 j rfl rfl)) ((y1121_0_14).trans (y1101_0_14)) ((y1121_0_19).trans (y1101_0_19)) ((y1121_0_22).trans (y1101_0_22))
  replace gS : TGS h1121 := TGS_of gS1 (fun j => (g1121 3 j rfl rfl).trans (g1101 3 j rfl rfl)) (fun j => (g1121 4 j rfl rfl).trans (g1101 4 j rfl rfl)) (fun j => (g1121 5 j rfl rfl).trans (g1101 5 j rfl rfl)) (fun j => (g1121 7 j rfl rfl).trans (g1101 7 j rfl rfl)) (fun j => (g1121 8 j rfl rfl).trans (g1101 8 j rfl rfl)) (fun j => (g1121 9 j rfl rfl).trans (g1101 9 j rfl rfl)) ((y1121_0_14).trans (y1101_0_14)) ((y1121_0_19).trans (y1101_0_19)) ((y1121_0_22).trans (y1101_0_22))
  have qe1110 : v1110 = v1090 := by rw [q1110, q1090]
  have qe1115 : v1115 = v1095 := by rw [q1115, q1095]
  have qe1120 : v1120 = v1100 := by rw [q1120, q1100]
  replace gP : TGP h1121 := by
    have hT2 := hT1
    unfold TI at hT2
    have k1 := KRw hR; have k2 := KRh hR
    clear hcs hm hi
    exact ⟨pR1121, pC1121⟩
  replace gF : TGF h1121 := TGF_of gF1 (fun j => (g1121 3 j rfl rfl).trans (g1101 3 j rfl rfl)) (fun j => (g1121 7 j rfl rfl).trans (g1101 7 j rfl rfl)) ((y1121_41_1).trans (y1101_41_1)) ((y1121_0_14).trans (y1101_0_14)) ((y1121_45_1).trans (y1101_45_1)) ((y1121_0_19).trans (y1101_0_19)) ((y1121_0_22).trans (y1101_0_22))
  show zL _ _ _ (.inl r1121 :: []) _
  refine zL_pop (pc' := 1125) dL_1124 rfl rfl ?_
  refine zL_goto (tgt := 1580) dL_1125 rfl ?_
  exact nx _ hS hR hC hT gA gB gC gD gR gV gE gS gP gF
set_option maxHeartbeats 4000000 in
theorem lc_24 {Γ : Lc} {i : Int} {h : Hp} (hX : XI Γ.1) (hcs : Γ.2.2.2.2.2.1 ≤ room_1.cells ∧ Γ.2.2.2.2.2.2 ≤ room_1.slots) (hm : Γ.2.2.1 < 2147483648) (hi : 0 ≤ i ∧ i + 6 ≤ Γ.2.2.1) (hS : SI h) (hR : KR h) (hC : KC h) (hT : TI h) (gA : TGA h) (gB : TGB h) (gC : TGC h) (gD : TGD h) (gR : TGR h) (gV : TGV h) (gE : TGE h) (gS : TGS h) (gP : TGP h) (gF : TGF h) (nx : ∀ h' : Hp, SI h' → KR h' → KC h' → TI h' → TGA h' → TGB h' → TGC h' → TGD h' → TGR h' → TGV h' → TGE h' → TGS h' → TGP h' → TGF h' → zL Γ 1580 (lsL i) [] h') : zL Γ 1128 (lsL i) [] h := by
  refine zL_aload_n (pc' := 1129) dL_1128 rfl rfl ?_
  refine zL_aload_n (pc' := 1130) dL_1129 rfl rfl ?_
  refine zL_iload_n (pc' := 1131) dL_1130 rfl rfl ?_
  refine zL_iconst (pc' := 1132) dL_1131 rfl ?_
  refine zL_iadd (pc' := 1133) dL_1132 rfl ?_
  refine zL_sldE (pc' := 1134) (by omega) hm dL_1133 rfl (fun v1133 e1133 q1133 => ?_)
  refine zL_aload_n (pc' := 1135) dL_1134 rfl rfl ?_
  refine zL_iload_n (pc' := 1136) dL_1135 rfl rfl ?_
  refine zL_iconst (pc' := 1137) dL_1136 rfl ?_
  refine zL_iadd (pc' := 1138) dL_1137 rfl ?_
  refine zL_sldE (pc' := 1139) (by omega) hm dL_1138 rfl (fun v1138 e1138 q1138 => ?_)
  have iP : IPW h := IPW_of hR hC hT gA gV gE gS gD gR gP
  refine zL_inv (pc' := 1142) hcs kX11_bits vX11_bits lk_L_117 ⟨Nat.le_of_ble_eq_true rfl, Nat.le_of_ble_eq_true rfl⟩ tb30 vq11 rfl [_, _] (s_X11_bits (b := bW) (κ := _) hC (Fr.rf (b := bW) hS iP) _ ⟨e1133.1, e1133.2⟩ _ ⟨e1138.1, e1138.2⟩ shW_.ok) dL_1139 rfl (Nat.le_of_ble_eq_true rfl) rfl ?_
  rintro r1139 h1139 ⟨f1139, p1139⟩; have g1139 : ∀ k i, key k i = true → inW ([] : List (Nat × Nat)) k i = false → h1139 k i = h k i := fun k i hk _ => f1139.1 k i hk
  replace iP : IPW h1139 := f1139.inv; replace hS := f1139.2.2; replace hR := KR_tr hR f1139; replace hC := KC_tr hC f1139; have pR1139 := iP.1.1; have pC1139 := iP.1.2
  have y1139_0_25 : h1139 0 25 = h 0 25 := g1139 0 25 rfl rfl
  have y1139_31_1 : h1139 31 1 = h 31 1 := g1139 31 1 rfl rfl
  have y1139_33_0 : h1139 33 0 = h 33 0 := g1139 33 0 rfl rfl
  have y1139_33_1 : h1139 33 1 = h 33 1 := g1139 33 1 rfl rfl
  have y1139_33_2 : h1139 33 2 = h 33 2 := g1139 33 2 rfl rfl
  have y1139_0_11 : h1139 0 11 = h 0 11 := g1139 0 11 rfl rfl
  have y1139_0_12 : h1139 0 12 = h 0 12 := g1139 0 12 rfl rfl
  have y1139_0_13 : h1139 0 13 = h 0 13 := g1139 0 13 rfl rfl
  have y1139_30_11 : h1139 30 11 = h 30 11 := g1139 30 11 rfl rfl
  have y1139_0_22 : h1139 0 22 = h 0 22 := g1139 0 22 rfl rfl
  have y1139_36_0 : h1139 36 0 = h 36 0 := g1139 36 0 rfl rfl
  have y1139_36_1 : h1139 36 1 = h 36 1 := g1139 36 1 rfl rfl
  have y1139_36_2 : h1139 36 2 = h 36 2 := g1139 36 2 rfl rfl
  have y1139_0_16 : h1139 0 16 = h 0 16 := g1139 0 16 rfl rfl
  have y1139_0_17 : h1139 0 17 = h 0 17 := g1139 0 17 rfl rfl
  have y1139_0_18 : h1139 0 18 = h 0 18 := g1139 0 18 rfl rfl
  have y1139_0_14 : h1139 0 14 = h 0 14 := g1139 0 14 rfl rfl
  have y1139_0_15 : h1139 0 15 = h 0 15 := g1139 0 15 rfl rfl
  have y1139_0_19 : h1139 0 19 = h 0 19 := g1139 0 19 rfl rfl
  have y1139_0_20 : h1139 0 20 = h 0 20 := g1139 0 20 rfl rfl
  have y1139_30_10 : h1139 30 10 = h 30 10 := g1139 30 10 rfl rfl
  have y1139_30_12 : h1139 30 12 = h 30 12 := g1139 30 12 rfl rfl
  have y1139_41_0 : h1139 41 0 = h 41 0 := g1139 41 0 rfl rfl
  have y1139_41_1 : h1139 41 1 = h 41 1 := g1139 41 1 rfl rfl
  have y1139_45_0 : h1139 45 0 = h 45 0 := g1139 45 0 rfl rfl
  have y1139_45_1 : h1139 45 1 = h 45 1 := g1139 45 1 rfl rfl
  have hT1 := hT; have gA1 := gA; have gB1 := gB; have gC1 := gC; have gD1 := gD; have gR1 := gR; have gV1 := gV; have gE1 := gE; have gS1 := gS; have gP1 := gP; have gF1 := gF
  show zL _ _ _ (.inl r1139 :: []) _
  refine zL_pop (pc' := 1143) dL_1142 rfl rfl ?_
  refine zL_aload_n (pc' := 1144) dL_1143 rfl rfl ?_
  refine zL_aload_n (pc' := 1145) dL_1144 rfl rfl ?_
  refine zL_iload_n (pc' := 1146) dL_1145 rfl rfl ?_
  refine zL_iconst (pc' := 1147) dL_1146 rfl ?_
  refine zL_iadd (pc' := 1148) dL_1147 rfl ?_
  refine zL_sldE (pc' := 1149) (by omega) hm dL_1148 rfl (fun v1148 e1148 q1148 => ?_)
  refine zL_aload_n (pc' := 1150) dL_1149 rfl rfl ?_
  refine zL_iload_n (pc' := 1151) dL_1150 rfl rfl ?_
  refine zL_iconst (pc' := 1152) dL_1151 rfl ?_
  refine zL_iadd (pc' := 1153) dL_1152 rfl ?_
  refine zL_sldE (pc' := 1154) (by omega) hm dL_1153 rfl (fun v1153 e1153 q1153 => ?_)
  refine zL_inv (pc' := 1157) hcs kX12_bits vX12_bits lk_L_120 ⟨Nat.le_of_ble_eq_true rfl, Nat.le_of_ble_eq_true rfl⟩ tb0 vq12 rfl [_, _] (s_X12_bits (b := bW) (κ := _) hR (Fr.rf (b := bW.fo) hS iP) _ ⟨e1148.1, e1148.2⟩ _ ⟨e1153.1, e1153.2⟩ lvW.ok) dL_1154 rfl (Nat.le_of_ble_eq_true rfl) rfl ?_
  rintro r1154 h1154 ⟨f1154, p1154⟩; have g1154 : ∀ k i, key k i = true → inW ([] : List (Nat × Nat)) k i = false → h1154 k i = h1139 k i := fun k i hk _ => f1154.1 k i hk
  replace iP : IPW h1154 := f1154.inv; replace hS := f1154.2.2; replace hR := KR_tr hR f1154; replace hC := KC_tr hC f1154; have pR1154 := iP.1.1; have pC1154 := iP.1.2
  have y1154_0_25 : h1154 0 25 = h1139 0 25 := g1154 0 25 rfl rfl
  have y1154_31_1 : h1154 31 1 = h1139 31 1 := g1154 31 1 rfl rfl
  have y1154_33_0 : h1154 33 0 = h1139 33 0 := g1154 33 0 rfl rfl
  have y1154_33_1 : h1154 33 1 = h1139 33 1 := g1154 33 1 rfl rfl
  have y1154_33_2 : h1154 33 2 = h1139 33 2 := g1154 33 2 rfl rfl
  have y1154_0_11 : h1154 0 11 = h1139 0 11 := g1154 0 11 rfl rfl
  have y1154_0_12 : h1154 0 12 = h1139 0 12 := g1154 0 12 rfl rfl
  have y1154_0_13 : h1154 0 13 = h1139 0 13 := g1154 0 13 rfl rfl
  have y1154_30_11 : h1154 30 11 = h1139 30 11 := g1154 30 11 rfl rfl
  have y1154_0_22 : h1154 0 22 = h1139 0 22 := g1154 0 22 rfl rfl
  have y1154_36_0 : h1154 36 0 = h1139 36 0 := g1154 36 0 rfl rfl
  have y1154_36_1 : h1154 36 1 = h1139 36 1 := g1154 36 1 rfl rfl
  have y1154_36_2 : h1154 36 2 = h1139 36 2 := g1154 36 2 rfl rfl
  have y1154_0_16 : h1154 0 16 = h1139 0 16 := g1154 0 16 rfl rfl
  have y1154_0_17 : h1154 0 17 = h1139 0 17 := g1154 0 17 rfl rfl
  have y1154_0_18 : h1154 0 18 = h1139 0 18 := g1154 0 18 rfl rfl
  have y1154_0_14 : h1154 0 14 = h1139 0 14 := g1154 0 14 rfl rfl
  have y1154_0_15 : h1154 0 15 = h1139 0 15 := g1154 0 15 rfl rfl
  have y1154_0_19 : h1154 0 19 = h1139 0 19 := g1154 0 19 rfl rfl
  have y1154_0_20 : h1154 0 20 = h1139 0 20 := g1154 0 20 rfl rfl
  have y1154_30_10 : h1154 30 10 = h1139 30 10 := g1154 30 10 rfl rfl
  have y1154_30_12 : h1154 30 12 = h1139 30 12 := g1154 30 12 rfl rfl
  have y1154_41_0 : h1154 41 0 = h1139 41 0 := g1154 41 0 rfl rfl
  have y1154_41_1 : h1154 41 1 = h1139 41 1 := g1154 41 1 rfl rfl
  have y1154_45_0 : h1154 45 0 = h1139 45 0 := g1154 45 0 rfl rfl
  have y1154_45_1 : h1154 45 1 = h1139 45 1 := g1154 45 1 rfl rfl
  replace hT : TI h1154 := TI_of hT1 (y1154_0_25.trans y1139_0_25) (y1154_31_1.trans y1139_31_1) (y1154_33_0.trans y1139_33_0) (y1154_33_1.trans y1139_33_1) (y1154_33_2.trans y1139_33_2) (y1154_0_11.trans y1139_0_11) (y1154_0_12.trans y1139_0_12) (y1154_0_13.trans y1139_0_13) (y1154_30_11.trans y1139_30_11) (y1154_0_22.trans y1139_0_22) (y1154_36_0.trans y1139_36_0) (y1154_36_1.trans y1139_36_1) (y1154_36_2.trans y1139_36_2) (y1154_0_16.trans y1139_0_16) (y1154_0_17.trans y1139_0_17) (y1154_0_18.trans y1139_0_18)
  replace gA : TGA h1154 := TGA_of gA1 (fun j => (g1154 1 j rfl rfl).trans (g1139 1 j rfl rfl)) (fun j => (g1154 34 j rfl rfl).trans (g1139 34 j rfl rfl)) (fun j => (g1154 10 j rfl rfl).trans (g1139 10 j rfl rfl)) (fun j => (g1154 35 j rfl rfl).trans (g1139 35 j rfl rfl)) (fun j => (g1154 6 j rfl rfl).trans (g1139 6 j rfl rfl)) (fun j => (g1154 37 j rfl rfl).trans (g1139 37 j rfl rfl)) (fun j => (g1154 11 j rfl rfl).trans (g1139 11 j rfl rfl)) (fun j => (g1154 38 j rfl rfl).trans (g1139 38 j rfl rfl)) ((y1154_0_11).trans (y1139_0_11)) ((y1154_0_12).trans (y1139_0_12)) ((y1154_0_16).trans (y1139_0_16)) ((y1154_0_17).trans (y1139_0_17)) ((y1154_0_22).trans (y1139_0_22))
  replace gB : TGB h1154 := TGB_of gB1 (fun j => (g1154 12 j rfl rfl).trans (g1139 12 j rfl rfl)) (fun j => (g1154 32 j rfl rfl).trans (g1139 32 j rfl rfl)) ((y1154_0_25).trans (y1139_0_25))
  replace gC : TGC h1154 := TGC_of gC1  ((y1154_0_15).trans (y1139_0_15)) ((y1154_30_12).trans (y1139_30_12)) ((y1154_0_11).trans (y1139_0_11)) ((y1154_0_12).trans (y1139_0_12)) ((y1154_0_20).trans (y1139_0_20)) ((y1154_30_10).trans (y1139_30_10)) ((y1154_0_16).trans (y1139_0_16)) ((y1154_0_17).trans (y1139_0_17)) ((y1154_0_22).trans (y1139_0_22))
  replace gD : TGD h1154 := TGD_of gD1  ((y1154_41_0).trans (y1139_41_0)) ((y1154_0_14).trans (y1139_0_14)) ((y1154_45_0).trans (y1139_45_0)) ((y1154_0_19).trans (y1139_0_19)) ((y1154_0_22).trans (y1139_0_22))
  replace gR : TGR h1154 := TGR_of gR1 (fun j => (g1154 3 j rfl rfl).trans (g1139 3 j rfl rfl)) (fun j => (g1154 4 j rfl rfl).trans (g1139 4 j rfl rfl)) (fun j => (g1154 5 j rfl rfl).trans (g1139 5 j rfl rfl)) (fun j => (g1154 7 j rfl rfl).trans (g1139 7 j rfl rfl)) (fun j => (g1154 8 j rfl rfl).trans (g1139 8 j rfl rfl)) (fun j => (g1154 9 j rfl rfl).trans (g1139 9 j rfl rfl)) (fun j => (g1154 42 j rfl rfl).trans (g1139 42 j rfl rfl)) (fun j => (g1154 43 j rfl rfl).trans (g1139 43 j rfl rfl)) (fun j => (g1154 44 j rfl rfl).trans (g1139 44 j rfl rfl)) (fun j => (g1154 46 j rfl rfl).trans (g1139 46 j rfl rfl)) (fun j => (g1154 47 j rfl rfl).trans (g1139 47 j rfl rfl)) (fun j => (g1154 48 j rfl rfl).trans (g1139 48 j rfl rfl)) ((y1154_0_14).trans (y1139_0_14)) ((y1154_0_19).trans (y1139_0_19)) ((y1154_0_22).trans (y1139_0_22))
  replace gV : TGV h1154 := TGV_of gV1 (fun j => (g1154 34 j rfl rfl).trans (g1139 34 j rfl rfl)) (fun j => (g1154 37 j rfl rfl).trans (g1139 37 j rfl rfl)) ((y1154_0_22).trans (y1139_0_22))
  replace gE : TGE h1154 := TGE_of gE1 (fun j => (g1154 3 j rfl rfl).trans (g1139 3 j rfl rfl)) (fun j => (g1154 7 j rfl rfl).trans (g1139 7 j rfl rfl)) ((y1154_0_14).trans (y1139_0_14)) ((y1154_0_19).trans (y1139_0_19)) ((y1154_0_22).trans (y1139_0_22))
  replace gS : TGS h1154 := TGS_of gS1 (fun j => (g1154 3 j rfl rfl).trans (g1139 3 j rfl rfl)) (fun j => (g1154 4 j rfl rfl).trans (g1139 4 j rfl rfl)) (fun j => (g1154 5 j rfl rfl).trans (g1139 5 j rfl rfl)) (fun j => (g1154 7 j rfl rfl).trans (g1139 7 j rfl rfl)) (fun j => (g1154 8 j rfl rfl).trans (g1139 8 j rfl rfl)) (fun j => (g1154 9 j rfl rfl).trans (g1139 9 j rfl rfl)) ((y1154_0_14).trans (y1139_0_14)) ((y1154_0_19).trans (y1139_0_19)) ((y1154_0_22).trans (y1139_0_22))
  have qe1148 : v1148 = v1133 := by rw [q1148, q1133]
  have qe1153 : v1153 = v1138 := by rw [q1153, q1138]
  replace gP : TGP h1154 := by
    have hT2 := hT1
    unfold TI at hT2
    have k1 := KRw hR; have k2 := KRh hR
    clear hcs hm hi
    exact ⟨pR1154, pC1154⟩
  replace gF : TGF h1154 := TGF_of gF1 (fun j => (g1154 3 j rfl rfl).trans (g1139 3 j rfl rfl)) (fun j => (g1154 7 j rfl rfl).trans (g1139 7 j rfl rfl)) ((y1154_41_1).trans (y1139_41_1)) ((y1154_0_14).trans (y1139_0_14)) ((y1154_45_1).trans (y1139_45_1)) ((y1154_0_19).trans (y1139_0_19)) ((y1154_0_22).trans (y1139_0_22))
  show zL _ _ _ (.inl r1154 :: []) _
  refine zL_pop (pc' := 1158) dL_1157 rfl rfl ?_
  refine zL_goto (tgt := 1580) dL_1158 rfl ?_
  exact nx _ hS hR hC hT gA gB gC gD gR gV gE gS gP gF
set_option maxHeartbeats 4000000 in
theorem lc_25 {Γ : Lc} {i : Int} {h : Hp} (hX : XI Γ.1) (hcs : Γ.2.2.2.2.2.1 ≤ room_1.cells ∧ Γ.2.2.2.2.2.2 ≤ room_1.slots) (hm : Γ.2.2.1 < 2147483648) (hi : 0 ≤ i ∧ i + 6 ≤ Γ.2.2.1) (hS : SI h) (hR : KR h) (hC : KC h) (hT : TI h) (gA : TGA h) (gB : TGB h) (gC : TGC h) (gD : TGD h) (gR : TGR h) (gV : TGV h) (gE : TGE h) (gS : TGS h) (gP : TGP h) (gF : TGF h) (nx : ∀ h' : Hp, SI h' → KR h' → KC h' → TI h' → TGA h' → TGB h' → TGC h' → TGD h' → TGR h' → TGV h' → TGE h' → TGS h' → TGP h' → TGF h' → zL Γ 1580 (lsL i) [] h') : zL Γ 1161 (lsL i) [] h := by
  refine zL_aload_n (pc' := 1162) dL_1161 rfl rfl ?_
  refine zL_aload_n (pc' := 1163) dL_1162 rfl rfl ?_
  refine zL_iload_n (pc' := 1164) dL_1163 rfl rfl ?_
  refine zL_iconst (pc' := 1165) dL_1164 rfl ?_
  refine zL_iadd (pc' := 1166) dL_1165 rfl ?_
  refine zL_sldE (pc' := 1167) (by omega) hm dL_1166 rfl (fun v1166 e1166 q1166 => ?_)
  refine zL_aload_n (pc' := 1168) dL_1167 rfl rfl ?_
  refine zL_iload_n (pc' := 1169) dL_1168 rfl rfl ?_
  refine zL_iconst (pc' := 1170) dL_1169 rfl ?_
  refine zL_iadd (pc' := 1171) dL_1170 rfl ?_
  refine zL_sldE (pc' := 1172) (by omega) hm dL_1171 rfl (fun v1171 e1171 q1171 => ?_)
  refine zL_aload_n (pc' := 1173) dL_1172 rfl rfl ?_
  refine zL_iload_n (pc' := 1174) dL_1173 rfl rfl ?_
  refine zL_iconst (pc' := 1175) dL_1174 rfl ?_
  refine zL_iadd (pc' := 1176) dL_1175 rfl ?_
  refine zL_sldE (pc' := 1177) (by omega) hm dL_1176 rfl (fun v1176 e1176 q1176 => ?_)
  refine zL_aload_n (pc' := 1178) dL_1177 rfl rfl ?_
  refine zL_iload_n (pc' := 1179) dL_1178 rfl rfl ?_
  refine zL_iconst (pc' := 1180) dL_1179 rfl ?_
  refine zL_iadd (pc' := 1181) dL_1180 rfl ?_
  refine zL_sldE (pc' := 1182) (by omega) hm dL_1181 rfl (fun v1181 e1181 q1181 => ?_)
  have iP : IPW h := IPW_of hR hC hT gA gV gE gS gD gR gP
  refine zL_inv (pc' := 1185) hcs kX11_ring vX11_ring lk_L_121 ⟨Nat.le_of_ble_eq_true rfl, Nat.le_of_ble_eq_true rfl⟩ tb30 vq11 rfl [_, _, _, _] (s_X11_ring (b := bW) (κ := _) hC (Fr.rf (b := bW) hS iP) _ ⟨e1166.1, e1166.2⟩ _ ⟨e1171.1, e1171.2⟩ _ ⟨e1176.1, e1176.2⟩ _ ⟨e1181.1, e1181.2⟩ shW_.ok) dL_1182 rfl (Nat.le_of_ble_eq_true rfl) rfl ?_
  rintro r1182 h1182 ⟨f1182, p1182⟩; have g1182 : ∀ k i, key k i = true → inW ([] : List (Nat × Nat)) k i = false → h1182 k i = h k i := fun k i hk _ => f1182.1 k i hk
  replace iP : IPW h1182 := f1182.inv; replace hS := f1182.2.2; replace hR := KR_tr hR f1182; replace hC := KC_tr hC f1182; have pR1182 := iP.1.1; have pC1182 := iP.1.2
  have y1182_0_25 : h1182 0 25 = h 0 25 := g1182 0 25 rfl rfl
  have y1182_31_1 : h1182 31 1 = h 31 1 := g1182 31 1 rfl rfl
  have y1182_33_0 : h1182 33 0 = h 33 0 := g1182 33 0 rfl rfl
  have y1182_33_1 : h1182 33 1 = h 33 1 := g1182 33 1 rfl rfl
  have y1182_33_2 : h1182 33 2 = h 33 2 := g1182 33 2 rfl rfl
  have y1182_0_11 : h1182 0 11 = h 0 11 := g1182 0 11 rfl rfl
  have y1182_0_12 : h1182 0 12 = h 0 12 := g1182 0 12 rfl rfl
  have y1182_0_13 : h1182 0 13 = h 0 13 := g1182 0 13 rfl rfl
  have y1182_30_11 : h1182 30 11 = h 30 11 := g1182 30 11 rfl rfl
  have y1182_0_22 : h1182 0 22 = h 0 22 := g1182 0 22 rfl rfl
  have y1182_36_0 : h1182 36 0 = h 36 0 := g1182 36 0 rfl rfl
  have y1182_36_1 : h1182 36 1 = h 36 1 := g1182 36 1 rfl rfl
  have y1182_36_2 : h1182 36 2 = h 36 2 := g1182 36 2 rfl rfl
  have y1182_0_16 : h1182 0 16 = h 0 16 := g1182 0 16 rfl rfl
  have y1182_0_17 : h1182 0 17 = h 0 17 := g1182 0 17 rfl rfl
  have y1182_0_18 : h1182 0 18 = h 0 18 := g1182 0 18 rfl rfl
  have y1182_0_14 : h1182 0 14 = h 0 14 := g1182 0 14 rfl rfl
  have y1182_0_15 : h1182 0 15 = h 0 15 := g1182 0 15 rfl rfl
  have y1182_0_19 : h1182 0 19 = h 0 19 := g1182 0 19 rfl rfl
  have y1182_0_20 : h1182 0 20 = h 0 20 := g1182 0 20 rfl rfl
  have y1182_30_10 : h1182 30 10 = h 30 10 := g1182 30 10 rfl rfl
  have y1182_30_12 : h1182 30 12 = h 30 12 := g1182 30 12 rfl rfl
  have y1182_41_0 : h1182 41 0 = h 41 0 := g1182 41 0 rfl rfl
  have y1182_41_1 : h1182 41 1 = h 41 1 := g1182 41 1 rfl rfl
  have y1182_45_0 : h1182 45 0 = h 45 0 := g1182 45 0 rfl rfl
  have y1182_45_1 : h1182 45 1 = h 45 1 := g1182 45 1 rfl rfl
  have hT1 := hT; have gA1 := gA; have gB1 := gB; have gC1 := gC; have gD1 := gD; have gR1 := gR; have gV1 := gV; have gE1 := gE; have gS1 := gS; have gP1 := gP; have gF1 := gF
  show zL _ _ _ (.inl r1182 :: []) _
  refine zL_pop (pc' := 1186) dL_1185 rfl rfl ?_
  refine zL_aload_n (pc' := 1187) dL_1186 rfl rfl ?_
  refine zL_aload_n (pc' := 1188) dL_1187 rfl rfl ?_
  refine zL_iload_n (pc' := 1189) dL_1188 rfl rfl ?_
  refine zL_iconst (pc' := 1190) dL_1189 rfl ?_
  refine zL_iadd (pc' := 1191) dL_1190 rfl ?_
  refine zL_sldE (pc' := 1192) (by omega) hm dL_1191 rfl (fun v1191 e1191 q1191 => ?_)
  refine zL_aload_n (pc' := 1193) dL_1192 rfl rfl ?_
  refine zL_iload_n (pc' := 1194) dL_1193 rfl rfl ?_
  refine zL_iconst (pc' := 1195) dL_1194 rfl ?_
  refine zL_iadd (pc' := 1196) dL_1195 rfl ?_
  refine zL_sldE (pc' := 1197) (by omega) hm dL_1196 rfl (fun v1196 e1196 q1196 => ?_)
  refine zL_aload_n (pc' := 1198) dL_1197 rfl rfl ?_
  refine zL_iload_n (pc' := 1199) dL_1198 rfl rfl ?_
  refine zL_iconst (pc' := 1200) dL_1199 rfl ?_
  refine zL_iadd (pc' := 1201) dL_1200 rfl ?_
  refine zL_sldE (pc' := 1202) (by omega) hm dL_1201 rfl (fun v1201 e1201 q1201 => ?_)
  refine zL_aload_n (pc' := 1203) dL_1202 rfl rfl ?_
  refine zL_iload_n (pc' := 1204) dL_1203 rfl rfl ?_
  refine zL_iconst (pc' := 1205) dL_1204 rfl ?_
  refine zL_iadd (pc' := 1206) dL_1205 rfl ?_
  refine zL_sldE (pc' := 1207) (by omega) hm dL_1206 rfl (fun v1206 e1206 q1206 => ?_)
  refine zL_inv (pc' := 1210) hcs kX12_ring vX12_ring lk_L_124 ⟨Nat.le_of_ble_eq_true rfl, Nat.le_of_ble_eq_true rfl⟩ tb0 vq12 rfl [_, _, _, _] (s_X12_ring (b := bW) (κ := _) hR (Fr.rf (b := bW.fo) hS iP) _ ⟨e1191.1, e1191.2⟩ _ ⟨e1196.1, e1196.2⟩ _ ⟨e1201.1, e1201.2⟩ _ ⟨e1206.1, e1206.2⟩ lvW.ok) dL_1207 rfl (Nat.le_of_ble_eq_true rfl) rfl ?_
  rintro r1207 h1207 ⟨f1207, p1207⟩; have g1207 : ∀ k i, key k i = true → inW ([] : List (Nat × Nat)) k i = false → h1207 k i = h1182 k i := fun k i hk _ => f1207.1 k i hk
  replace iP : IPW h1207 := f1207.inv; replace hS := f1207.2.2; replace hR := KR_tr hR f1207; replace hC := KC_tr hC f1207; have pR1207 := iP.1.1; have pC1207 := iP.1.2
  have y1207_0_25 : h1207 0 25 = h1182 0 25 := g1207 0 25 rfl rfl
  have y1207_31_1 : h1207 31 1 = h1182 31 1 := g1207 31 1 rfl rfl
  have y1207_33_0 : h1207 33 0 = h1182 33 0 := g1207 33 0 rfl rfl
  have y1207_33_1 : h1207 33 1 = h1182 33 1 := g1207 33 1 rfl rfl
  have y1207_33_2 : h1207 33 2 = h1182 33 2 := g1207 33 2 rfl rfl
  have y1207_0_11 : h1207 0 11 = h1182 0 11 := g1207 0 11 rfl rfl
  have y1207_0_12 : h1207 0 12 = h1182 0 12 := g1207 0 12 rfl rfl
  have y1207_0_13 : h1207 0 13 = h1182 0 13 := g1207 0 13 rfl rfl
  have y1207_30_11 : h1207 30 11 = h1182 30 11 := g1207 30 11 rfl rfl
  have y1207_0_22 : h1207 0 22 = h1182 0 22 := g1207 0 22 rfl rfl
  have y1207_36_0 : h1207 36 0 = h1182 36 0 := g1207 36 0 rfl rfl
  have y1207_36_1 : h1207 36 1 = h1182 36 1 := g1207 36 1 rfl rfl
  have y1207_36_2 : h1207 36 2 = h1182 36 2 := g1207 36 2 rfl rfl
  have y1207_0_16 : h1207 0 16 = h1182 0 16 := g1207 0 16 rfl rfl
  have y1207_0_17 : h1207 0 17 = h1182 0 17 := g1207 0 17 rfl rfl
  have y1207_0_18 : h1207 0 18 = h1182 0 18 := g1207 0 18 rfl rfl
  have y1207_0_14 : h1207 0 14 = h1182 0 14 := g1207 0 14 rfl rfl
  have y1207_0_15 : h1207 0 15 = h1182 0 15 := g1207 0 15 rfl rfl
  have y1207_0_19 : h1207 0 19 = h1182 0 19 := g1207 0 19 rfl rfl
  have y1207_0_20 : h1207 0 20 = h1182 0 20 := g1207 0 20 rfl rfl
  have y1207_30_10 : h1207 30 10 = h1182 30 10 := g1207 30 10 rfl rfl
  have y1207_30_12 : h1207 30 12 = h1182 30 12 := g1207 30 12 rfl rfl
  have y1207_41_0 : h1207 41 0 = h1182 41 0 := g1207 41 0 rfl rfl
  have y1207_41_1 : h1207 41 1 = h1182 41 1 := g1207 41 1 rfl rfl
  have y1207_45_0 : h1207 45 0 = h1182 45 0 := g1207 45 0 rfl rfl
  have y1207_45_1 : h1207 45 1 = h1182 45 1 := g1207 45 1 rfl rfl
  replace hT : TI h1207 := TI_of hT1 (y1207_0_25.trans y1182_0_25) (y1207_31_1.trans y1182_31_1) (y1207_33_0.trans y1182_33_0) (y1207_33_1.trans y1182_33_1) (y1207_33_2.trans y1182_33_2) (y1207_0_11.trans y1182_0_11) (y1207_0_12.trans y1182_0_12) (y1207_0_13.trans y1182_0_13) (y1207_30_11.trans y1182_30_11) (y1207_0_22.trans y1182_0_22) (y1207_36_0.trans y1182_36_0) (y1207_36_1.trans y1182_36_1) (y1207_36_2.trans y1182_36_2) (y1207_0_16.trans y1182_0_16) (y1207_0_17.trans y1182_0_17) (y1207_0_18.trans y1182_0_18)
  replace gA : TGA h1207 := TGA_of gA1 (fun j => (g1207 1 j rfl rfl).trans (g1182 1 j rfl rfl)) (fun j => (g1207 34 j rfl rfl).trans (g1182 34 j rfl rfl)) (fun j => (g1207 10 j rfl rfl).trans (g1182 10 j rfl rfl)) (fun j => (g1207 35 j rfl rfl).trans (g1182 35 j rfl rfl)) (fun j => (g1207 6 j rfl rfl).trans (g1182 6 j rfl rfl)) (fun j => (g1207 37 j rfl rfl).trans (g1182 37 j rfl rfl)) (fun j => (g1207 11 j rfl rfl).trans (g1182 11 j rfl rfl)) (fun j => (g1207 38 j rfl rfl).trans (g1182 38 j rfl rfl)) ((y1207_0_11).trans (y1182_0_11)) ((y1207_0_12).trans (y1182_0_12)) ((y1207_0_16).trans (y1182_0_16)) ((y1207_0_17).trans (y1182_0_17)) ((y1207_0_22).trans (y1182_0_22))
  replace gB : TGB h1207 := TGB_of gB1 (fun j => (g1207 12 j rfl rfl).trans (g1182 12 j rfl rfl)) (fun j => (g1207 32 j rfl rfl).trans (g1182 32 j rfl rfl)) ((y1207_0_25).trans (y1182_0_25))
  replace gC : TGC h1207 := TGC_of gC1  ((y1207_0_15).trans (y1182_0_15)) ((y1207_30_12).trans (y1182_30_12)) ((y1207_0_11).trans (y1182_0_11)) ((y1207_0_12).trans (y1182_0_12)) ((y1207_0_20).trans (y1182_0_20)) ((y1207_30_10).trans (y1182_30_10)) ((y1207_0_16).trans (y1182_0_16)) ((y1207_0_17).trans (y1182_0_17)) ((y1207_0_22).trans (y1182_0_22))
  replace gD : TGD h1207 := TGD_of gD1  ((y1207_41_0).trans (y1182_41_0)) ((y1207_0_14).trans (y1182_0_14)) ((y1207_45_0).trans (y1182_45_0)) ((y1207_0_19).trans (y1182_0_19)) ((y1207_0_22).trans (y1182_0_22))
  replace gR : TGR h1207 := TGR_of gR1 (fun j => (g1207 3 j rfl rfl).trans (g1182 3 j rfl rfl)) (fun j => (g1207 4 j rfl rfl).trans (g1182 4 j rfl rfl)) (fun j => (g1207 5 j rfl rfl).trans (g1182 5 j rfl rfl)) (fun j => (g1207 7 j rfl rfl).trans (g1182 7 j rfl rfl)) (fun j => (g1207 8 j rfl rfl).trans (g1182 8 j rfl rfl)) (fun j => (g1207 9 j rfl rfl).trans (g1182 9 j rfl rfl)) (fun j => (g1207 42 j rfl rfl).trans (g1182 42 j rfl rfl)) (fun j => (g1207 43 j rfl rfl).trans (g1182 43 j rfl rfl)) (fun j => (g1207 44 j rfl rfl).trans (g1182 44 j rfl rfl)) (fun j => (g1207 46 j rfl rfl).trans (g1182 46 j rfl rfl)) (fun j => (g1207 47 j rfl rfl).trans (g1182 47 j rfl rfl)) (fun j => (g1207 48 j rfl rfl).trans (g1182 48 j rfl rfl)) ((y1207_0_14).trans (y1182_0_14)) ((y1207_0_19).trans (y1182_0_19)) ((y1207_0_22).trans (y1182_0_22))
  replace gV : TGV h1207 := TGV_of gV1 (fun j => (g1207 34 j rfl rfl).trans (g1182 34 j rfl rfl)) (fun j => (g1207 37 j rfl rfl).trans (g1182 37 j rfl rfl)) ((y1207_0_22).trans (y1182_0_22))
  replace gE : TGE h1207 := TGE_of gE1 (fun j => (g1207 3 j rfl rfl).trans (g1182 3 j rfl rfl)) (fun j => (g1207 7 j rfl rfl).trans (g1182 7 j rfl rfl)) ((y1207_0_14).trans (y1182_0_14)) ((y1207_0_19).trans (y1182_0_19)) ((y1207_0_22).trans (y1182_0_22))
  replace gS : TGS h1207 := TGS_of gS1 (fun j => (g1207 3 j rfl rfl).trans (g1182 3 j rfl rfl)) (fun j => (g1207 4 j rfl rfl).trans (g1182 4 j rfl rfl)) (fun j => (g1207 5 j rfl rfl).trans (g1182 5 j rfl rfl)) (fun j => (g1207 7 j rfl rfl).trans (g1182 7 j rfl rfl)) (fun j => (g1207 8 j rfl rfl).trans (g1182 8 j rfl rfl)) (fun j => (g1207 9 j rfl rfl).trans (g1182 9 j rfl rfl)) ((y1207_0_14).trans (y1182_0_14)) ((y1207_0_19).trans (y1182_0_19)) ((y1207_0_22).trans (y1182_0_22))
  have qe1191 : v1191 = v1166 := by rw [q1191, q1166]
  have qe1196 : v1196 = v1171 := by rw [q1196, q1171]
  have qe1201 : v1201 = v1176 := by rw [q1201, q1176]
  have qe1206 : v1206 = v1181 := by rw [q1206, q1181]
  replace gP : TGP h1207 := by
    have hT2 := hT1
    unfold TI at hT2
    have k1 := KRw hR; have k2 := KRh hR
    clear hcs hm hi
    exact ⟨pR1207, pC1207⟩
  replace gF : TGF h1207 := TGF_of gF1 (fun j => (g1207 3 j rfl rfl).trans (g1182 3 j rfl rfl)) (fun j => (g1207 7 j rfl rfl).trans (g1182 7 j rfl rfl)) ((y1207_41_1).trans (y1182_41_1)) ((y1207_0_14).trans (y1182_0_14)) ((y1207_45_1).trans (y1182_45_1)) ((y1207_0_19).trans (y1182_0_19)) ((y1207_0_22).trans (y1182_0_22))
  show zL _ _ _ (.inl r1207 :: []) _
  refine zL_pop (pc' := 1211) dL_1210 rfl rfl ?_
  refine zL_goto (tgt := 1580) dL_1211 rfl ?_
  exact nx _ hS hR hC hT gA gB gC gD gR gV gE gS gP gF
