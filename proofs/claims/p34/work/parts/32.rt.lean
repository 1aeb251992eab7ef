theorem NP.mv {h h' : Hp} (hN : NP h) (hF : Fm [(0, 26), (0, 28)] h h') (h1 : h 0 26 ≤ h' 0 26) (h2 : h' 0 26 ≤ h 0 27) : NP h' := by
  obtain ⟨⟨a1, a2, a3⟩, ⟨b1, b2⟩, c, d, e⟩ := hN
  have y27 := hF.1 0 27 rfl rfl
  have y31 := hF.1 0 31 rfl rfl
  have y30 := hF.1 0 30 rfl rfl
  refine ⟨⟨by omega, by omega, by omega⟩, ⟨by omega, by omega⟩, by omega, ?_, ?_⟩
  · rw [y30, y31, hF.cell 14 rfl (fun _ => rfl)]; exact d
  · rw [y30, hF.cell 13 rfl (fun _ => rfl), hF.cell 14 rfl (fun _ => rfl), hF.cell 15 rfl (fun _ => rfl)]; exact e
theorem NP.w25 {h : Hp} {v : Int} (hN : NP h) : NP (zwr h 0 25 v) := by
  unfold NP at hN ⊢
  rw [zwr_ne (Or.inr (by decide)), zwr_ne (Or.inr (by decide)), zwr_ne (Or.inr (by decide)), zwr_ne (Or.inr (by decide)), zfun (by decide), zfun (by decide), zfun (by decide)]
  exact hN

abbrev q_X12_stages (κ : Hp) (x1 : Int) : Int → Hp → Prop := fun r h' => Fm [(0, 26), (0, 28), (0, 29), (0, 31), (15, 999), (0, 30), (13, 999), (14, 999), (0, 27), (0, 25), (0, 14), (3, 999), (4, 999), (5, 999), (0, 23)] κ h' ∧ ((((0 ≤ x1 ∧ x1 ≤ 120 ∧ x1 ≤ κ 0 25 ∧ h' 0 25 = 0) ∨ (¬ (0 ≤ x1 ∧ x1 ≤ 120 ∧ x1 ≤ κ 0 25) ∧ h' 0 25 = κ 0 25 ∧ r = -1))) ∧ ChR κ h')
set_option maxHeartbeats 4000000 in
set_option maxRecDepth 20000 in
theorem s_X12_stages {G : Ga} {κ : Hp} (hS : SI κ) (hR : KR κ) (hC : KC κ) (x1 : Int) (hx1 : rng x1) : zM G mX12_stages yX12_stages [.inr (.inr 0), .inl x1] κ (q_X12_stages κ x1) := by
  have f_0_14 := KRm hR
  have f_0_25 := KRt hR
  unfold rng at hx1
  have main : ∀ N : Nat, (∀ (v2 : Int) (h : Hp), Fm [(0, 26), (0, 28), (0, 29), (0, 31), (15, 999), (0, 30), (13, 999), (14, 999), (0, 27), (0, 25), (0, 14), (3, 999), (4, 999), (5, 999), (0, 23)] κ h → (0 ≤ x1 ∧ x1 ≤ 120) → (0 ≤ v2 ∧ v2 ≤ 1) → (0 ≤ h 0 26 ∧ h 0 26 ≤ h 0 27 ∧ h 0 27 = x1 ∧ x1 ≤ 120) → (h 0 25 = κ 0 25 ∧ x1 ≤ κ 0 25) → (v2 = 1 → NP h) → (UnR κ h) → 1235080 + 56 * (2 * (x1 - h 0 26) + v2) + 55 < (N : Int) → zV G mX12_stages (q_X12_stages κ x1) 64 [some (.inr (.inr 0)), some (.inl x1), some (.inl v2)] [] h) := by
    intro N
    induction N with
    | zero =>
      intro v2 h hF g0 g1 gc0 gc1 gc2 gc3 hm
      exfalso; omega
    | succ N ih =>
      have k64 := ih
      intro v2 h hF g0 g1 gc0 gc1 gc2 gc3 hm
      have hU := gc3
      refine zW_iload_n (pc' := 65) dX12_stages_2.1.2.1.2 rfl rfl ?_
      refine zV_if_eq (tgt := 104) (pc' := 68) dX12_stages_2.1.2.2.1 rfl rfl ⟨by omega, by omega⟩ (fun c65 => ?_) (fun c65 => ?_)
      · refine zW_aload_n (pc' := 105) dX12_stages_3.2.1.1.1 rfl rfl ?_
        refine zW_iconst (pc' := 106) dX12_stages_3.2.1.1.2 rfl ?_
        refine zPm (pc' := 109) hF (Or.inl rfl) (SI_irr hF.2.1 (Or.inl rfl) (fun _ _ => ⟨by omega, by omega⟩)) (KR_25 hF.2.2.1 (by omega)) (KC_irr hF.2.2.2 rfl) fp_X12_116 tb0 rfl dX12_stages_3.2.1.2.1 rfl (fun h hF w106 => ?_)
        replace hU : UnR κ h := by rw [w106]; exact hU.w rfl
        have t106_0_25 := congrFun (congrFun w106 0) 25
        rw [zwr_eq] at t106_0_25
        have t106_0_26 := congrFun (congrFun w106 0) 26
        rw [zwr_ne (Or.inr (by decide))] at t106_0_26
        have t106_0_27 := congrFun (congrFun w106 0) 27
        rw [zwr_ne (Or.inr (by decide))] at t106_0_27
        have t106_0_30 := congrFun (congrFun w106 0) 30
        rw [zwr_ne (Or.inr (by decide))] at t106_0_30
        have t106_0_31 := congrFun (congrFun w106 0) 31
        rw [zwr_ne (Or.inr (by decide))] at t106_0_31
        have t106_0_23 := congrFun (congrFun w106 0) 23
        rw [zwr_ne (Or.inr (by decide))] at t106_0_23
        have hN4 : v2 = 1 → NP h := fun q => by rw [w106]; exact (gc2 q).w25
        refine zW_iload_n (pc' := 110) dX12_stages_3.2.1.2.2 rfl rfl ?_
        refine zV_if_ne (tgt := 118) (pc' := 113) dX12_stages_3.2.2.1.1 rfl rfl ⟨by omega, by omega⟩ (fun c110 => ?_) (fun c110 => ?_)
        · exfalso; omega
        · refine zW_aload_n (pc' := 114) dX12_stages_3.2.2.1.2 rfl rfl ?_
          refine zG_int (pc' := 117) fg_X12_129 tb0 rfl dX12_stages_3.2.2.2.1 rfl ?_
          have e114 := hF.rh 0 28
          exact zV_iret rfl dX12_stages_3.2.2.2.2 ⟨hF, ⟨by omega, (by first | exact Or.inl (by omega) | exact Or.inr hU | exact Or.inr (by rw [hk0]; exact UnR.rf))⟩⟩
      · refine zW_aload_n (pc' := 69) dX12_stages_2.1.2.2.2 rfl rfl ?_
        refine zG_int (pc' := 72) fg_X12_123 tb0 rfl dX12_stages_2.2.1.1.1 rfl ?_
        have e69 := hF.rh 0 26
        refine zW_aload_n (pc' := 73) dX12_stages_2.2.1.1.2 rfl rfl ?_
        refine zG_int (pc' := 76) fg_X12_126 tb0 rfl dX12_stages_2.2.1.2.1 rfl ?_
        have e73 := hF.rh 0 27
        refine zV_cm_ge (tgt := 104) (pc' := 79) dX12_stages_2.2.1.2.2 rfl rfl ⟨by omega, by omega⟩ ⟨by omega, by omega⟩ (fun c76 => ?_) (fun c76 => ?_)
        · refine zW_aload_n (pc' := 105) dX12_stages_3.2.1.1.1 rfl rfl ?_
          refine zW_iconst (pc' := 106) dX12_stages_3.2.1.1.2 rfl ?_
          refine zPm (pc' := 109) hF (Or.inl rfl) (SI_irr hF.2.1 (Or.inl rfl) (fun _ _ => ⟨by omega, by omega⟩)) (KR_25 hF.2.2.1 (by omega)) (KC_irr hF.2.2.2 rfl) fp_X12_116 tb0 rfl dX12_stages_3.2.1.2.1 rfl (fun h hF w106 => ?_)
          replace hU : UnR κ h := by rw [w106]; exact hU.w rfl
          have t106_0_25 := congrFun (congrFun w106 0) 25
          rw [zwr_eq] at t106_0_25
          have t106_0_26 := congrFun (congrFun w106 0) 26
          rw [zwr_ne (Or.inr (by decide))] at t106_0_26
          have t106_0_27 := congrFun (congrFun w106 0) 27
          rw [zwr_ne (Or.inr (by decide))] at t106_0_27
          have t106_0_30 := congrFun (congrFun w106 0) 30
          rw [zwr_ne (Or.inr (by decide))] at t106_0_30
          have t106_0_31 := congrFun (congrFun w106 0) 31
          rw [zwr_ne (Or.inr (by decide))] at t106_0_31
          have t106_0_23 := congrFun (congrFun w106 0) 23
          rw [zwr_ne (Or.inr (by decide))] at t106_0_23
          have hN4 : v2 = 1 → NP h := fun q => by rw [w106]; exact (gc2 q).w25
          refine zW_iload_n (pc' := 110) dX12_stages_3.2.1.2.2 rfl rfl ?_
          refine zV_if_ne (tgt := 118) (pc' := 113) dX12_stages_3.2.2.1.1 rfl rfl ⟨by omega, by omega⟩ (fun c110 => ?_) (fun c110 => ?_)
          · have hN4 := hN4 (by omega)
            obtain ⟨hn1, hn2, hn3, hn4, hn5⟩ := hN4
            have hS0 := hF.2.1
            refine zW_aload_n (pc' := 119) dX12_stages_4.1.1.1.1 rfl rfl ?_
            refine zW_aload_n (pc' := 120) dX12_stages_4.1.1.1.2 rfl rfl ?_
            refine zG_int (pc' := 123) fg_X12_167 tb0 rfl dX12_stages_4.1.1.2.1 rfl ?_
            refine zV_puti (pc' := 126) fp_X12_185 tb0 rfl dX12_stages_4.1.1.2.2 rfl ?_
            have hS1 := SI_irr (k := 0) (i := 14) (v := h 0 30) hS0 (Or.inl rfl) (fun _ _ => ⟨by omega, by omega⟩)
            generalize e1 : zwr h 0 14 (h 0 30) = h1 at hS1 ⊢
            refine zW_aload_n (pc' := 127) dX12_stages_4.1.2.1.1 rfl rfl ?_
            refine zG_ref (pc' := 130) 13 fg_X12_48 tb0 rfl dX12_stages_4.1.2.1.2 rfl ?_
            refine zW_aload_n (pc' := 131) dX12_stages_4.1.2.2.1 rfl rfl ?_
            refine zG_ref (pc' := 134) 3 fg_X12_16 tb0 rfl dX12_stages_4.1.2.2.2 rfl ?_
            refine csV2 (pc' := 137) kX12_copies vX12_copies lk_X12_188 ⟨Nat.le_of_ble_eq_true rfl, Nat.le_of_ble_eq_true rfl⟩ rfl (s_X12_copies tb13 tb3 (by decide) (by decide)) dX12_stages_4.2.1.1.1 (Nat.le_of_ble_eq_true rfl) rfl ?_
            rintro _ h2 e2; replace e2 := e2.symm
            have hS2 : SI h2 := by rw [← e2]; exact SI_cpy hS1 rfl (by decide)
            refine zW_aload_n (pc' := 138) dX12_stages_4.2.1.1.2 rfl rfl ?_
            refine zG_ref (pc' := 141) 14 fg_X12_51 tb0 rfl dX12_stages_4.2.1.2.1 rfl ?_
            refine zW_aload_n (pc' := 142) dX12_stages_4.2.1.2.2 rfl rfl ?_
            refine zG_ref (pc' := 145) 4 fg_X12_19 tb0 rfl dX12_stages_4.2.2.1.1 rfl ?_
            refine csV2 (pc' := 148) kX12_copies vX12_copies lk_X12_188 ⟨Nat.le_of_ble_eq_true rfl, Nat.le_of_ble_eq_true rfl⟩ rfl (s_X12_copies tb14 tb4 (by decide) (by decide)) dX12_stages_4.2.2.1.2 (Nat.le_of_ble_eq_true rfl) rfl ?_
            rintro _ h3 e3; replace e3 := e3.symm
            have hS3 : SI h3 := by rw [← e3]; exact SI_cpy hS2 rfl (by decide)
            refine zW_aload_n (pc' := 149) dX12_stages_4.2.2.2.1 rfl rfl ?_
            refine zG_ref (pc' := 152) 15 fg_X12_54 tb0 rfl dX12_stages_4.2.2.2.2 rfl ?_
            refine zW_aload_n (pc' := 153) dX12_stages_5.1.1.1.1 rfl rfl ?_
            refine zG_ref (pc' := 156) 5 fg_X12_22 tb0 rfl dX12_stages_5.1.1.1.2 rfl ?_
            refine csV2 (pc' := 159) kX12_copies vX12_copies lk_X12_188 ⟨Nat.le_of_ble_eq_true rfl, Nat.le_of_ble_eq_true rfl⟩ rfl (s_X12_copies tb15 tb5 (by decide) (by decide)) dX12_stages_5.1.1.2 (Nat.le_of_ble_eq_true rfl) rfl ?_
            rintro _ h4 e4; replace e4 := e4.symm
            have hS4 : SI h4 := by rw [← e4]; exact SI_cpy hS3 rfl (by decide)
            refine zW_aload_n (pc' := 160) dX12_stages_5.1.2.1 rfl rfl ?_
            refine zW_iconst (pc' := 161) dX12_stages_5.1.2.2 rfl ?_
            refine zV_putz (pc' := 164) fp_X12_192 (by omega) tb0 rfl dX12_stages_5.2.1.1 rfl ?_
            have hS5 := SI_irr (k := 0) (i := 23) (v := 0) hS4 (Or.inr (Or.inl rfl)) (fun _ _ => ⟨by omega, by omega⟩)
            generalize e5 : zwr h4 0 23 0 = h5 at hS5 ⊢
            refine zW_aload_n (pc' := 165) dX12_stages_5.2.1.2 rfl rfl ?_
            refine zG_int (pc' := 168) fg_X12_185 tb0 rfl dX12_stages_5.2.2.1 rfl ?_
            have fr : ∀ k i, dpn k i = true → inW [(0, 26), (0, 28), (0, 29), (0, 31), (15, 999), (0, 30), (13, 999), (14, 999), (0, 27), (0, 25), (0, 14), (3, 999), (4, 999), (5, 999), (0, 23)] k i = false → h5 k i = h k i := fun k i hk hl => by rw [← e5, zwr_ne (inW_ne (L := [(0, 26), (0, 28), (0, 29), (0, 31), (15, 999), (0, 30), (13, 999), (14, 999), (0, 27), (0, 25), (0, 14), (3, 999), (4, 999), (5, 999), (0, 23)]) (k := 0) (i := 23) rfl hl), ← e4, cpy_ne (inW_nc (L := [(0, 26), (0, 28), (0, 29), (0, 31), (15, 999), (0, 30), (13, 999), (14, 999), (0, 27), (0, 25), (0, 14), (3, 999), (4, 999), (5, 999), (0, 23)]) (c := 5) rfl hl), ← e3, cpy_ne (inW_nc (L := [(0, 26), (0, 28), (0, 29), (0, 31), (15, 999), (0, 30), (13, 999), (14, 999), (0, 27), (0, 25), (0, 14), (3, 999), (4, 999), (5, 999), (0, 23)]) (c := 4) rfl hl), ← e2, cpy_ne (inW_nc (L := [(0, 26), (0, 28), (0, 29), (0, 31), (15, 999), (0, 30), (13, 999), (14, 999), (0, 27), (0, 25), (0, 14), (3, 999), (4, 999), (5, 999), (0, 23)]) (c := 3) rfl hl), ← e1, zwr_ne (inW_ne (L := [(0, 26), (0, 28), (0, 29), (0, 31), (15, 999), (0, 30), (13, 999), (14, 999), (0, 27), (0, 25), (0, 14), (3, 999), (4, 999), (5, 999), (0, 23)]) (k := 0) (i := 14) rfl hl)]
            have hCf : KC h5 := KC_low hF.2.2.2 (fun k i hk => by rw [← e5, zwr_ne (Or.inl (by omega)), ← e4, cpy_ne (by omega), ← e3, cpy_ne (by omega), ← e2, cpy_ne (by omega), ← e1, zwr_ne (Or.inl (by omega))])
            have g11f : h5 0 11 = h 0 11 := by rw [← e5, zwr_ne (Or.inr (by decide)), ← e4, cpy_ne (by decide), ← e3, cpy_ne (by decide), ← e2, cpy_ne (by decide), ← e1, zwr_ne (Or.inr (by decide))]
            have g12f : h5 0 12 = h 0 12 := by rw [← e5, zwr_ne (Or.inr (by decide)), ← e4, cpy_ne (by decide), ← e3, cpy_ne (by decide), ← e2, cpy_ne (by decide), ← e1, zwr_ne (Or.inr (by decide))]
            have g13f : h5 0 13 = h 0 13 := by rw [← e5, zwr_ne (Or.inr (by decide)), ← e4, cpy_ne (by decide), ← e3, cpy_ne (by decide), ← e2, cpy_ne (by decide), ← e1, zwr_ne (Or.inr (by decide))]
            have g14f : h5 0 14 = h 0 30 := by rw [← e5, zwr_ne (Or.inr (by decide)), ← e4, cpy_ne (by decide), ← e3, cpy_ne (by decide), ← e2, cpy_ne (by decide), ← e1, zwr_eq]
            have g15f : h5 0 15 = h 0 15 := by rw [← e5, zwr_ne (Or.inr (by decide)), ← e4, cpy_ne (by decide), ← e3, cpy_ne (by decide), ← e2, cpy_ne (by decide), ← e1, zwr_ne (Or.inr (by decide))]
            have g16f : h5 0 16 = h 0 16 := by rw [← e5, zwr_ne (Or.inr (by decide)), ← e4, cpy_ne (by decide), ← e3, cpy_ne (by decide), ← e2, cpy_ne (by decide), ← e1, zwr_ne (Or.inr (by decide))]
            have g17f : h5 0 17 = h 0 17 := by rw [← e5, zwr_ne (Or.inr (by decide)), ← e4, cpy_ne (by decide), ← e3, cpy_ne (by decide), ← e2, cpy_ne (by decide), ← e1, zwr_ne (Or.inr (by decide))]
            have g18f : h5 0 18 = h 0 18 := by rw [← e5, zwr_ne (Or.inr (by decide)), ← e4, cpy_ne (by decide), ← e3, cpy_ne (by decide), ← e2, cpy_ne (by decide), ← e1, zwr_ne (Or.inr (by decide))]
            have g19f : h5 0 19 = h 0 19 := by rw [← e5, zwr_ne (Or.inr (by decide)), ← e4, cpy_ne (by decide), ← e3, cpy_ne (by decide), ← e2, cpy_ne (by decide), ← e1, zwr_ne (Or.inr (by decide))]
            have g20f : h5 0 20 = h 0 20 := by rw [← e5, zwr_ne (Or.inr (by decide)), ← e4, cpy_ne (by decide), ← e3, cpy_ne (by decide), ← e2, cpy_ne (by decide), ← e1, zwr_ne (Or.inr (by decide))]
            have g21f : h5 0 21 = h 0 21 := by rw [← e5, zwr_ne (Or.inr (by decide)), ← e4, cpy_ne (by decide), ← e3, cpy_ne (by decide), ← e2, cpy_ne (by decide), ← e1, zwr_ne (Or.inr (by decide))]
            have g22f : h5 0 22 = h 0 22 := by rw [← e5, zwr_ne (Or.inr (by decide)), ← e4, cpy_ne (by decide), ← e3, cpy_ne (by decide), ← e2, cpy_ne (by decide), ← e1, zwr_ne (Or.inr (by decide))]
            have g25f : h5 0 25 = h 0 25 := by rw [← e5, zwr_ne (Or.inr (by decide)), ← e4, cpy_ne (by decide), ← e3, cpy_ne (by decide), ← e2, cpy_ne (by decide), ← e1, zwr_ne (Or.inr (by decide))]
            have cc3 : ∀ j, j < 12 → h5 3 j = h 13 j := fun j hj => by rw [← e5, zwr_ne (Or.inl (by decide)), ← e4, cpy_ne (by decide), ← e3, cpy_ne (by decide), ← e2, cpy_in hj, ← e1, zwr_ne (Or.inl (by decide))]
            have oo3 : ∀ j, 12 ≤ j → h5 3 j = h 3 j := fun j hj => by rw [← e5, zwr_ne (Or.inl (by decide)), ← e4, cpy_ne (by decide), ← e3, cpy_ne (by decide), ← e2, cpy_out hj, ← e1, zwr_ne (Or.inl (by decide))]
            have cc4 : ∀ j, j < 13 → h5 4 j = h 14 j := fun j hj => by rw [← e5, zwr_ne (Or.inl (by decide)), ← e4, cpy_ne (by decide), ← e3, cpy_in hj, ← e2, cpy_ne (by decide), ← e1, zwr_ne (Or.inl (by decide))]
            have oo4 : ∀ j, 13 ≤ j → h5 4 j = h 4 j := fun j hj => by rw [← e5, zwr_ne (Or.inl (by decide)), ← e4, cpy_ne (by decide), ← e3, cpy_out hj, ← e2, cpy_ne (by decide), ← e1, zwr_ne (Or.inl (by decide))]
            have cc5 : ∀ j, j < 130 → h5 5 j = h 15 j := fun j hj => by rw [← e5, zwr_ne (Or.inl (by decide)), ← e4, cpy_in hj, ← e3, cpy_ne (by decide), ← e2, cpy_ne (by decide), ← e1, zwr_ne (Or.inl (by decide))]
            have oo5 : ∀ j, 130 ≤ j → h5 5 j = h 5 j := fun j hj => by rw [← e5, zwr_ne (Or.inl (by decide)), ← e4, cpy_out hj, ← e3, cpy_ne (by decide), ← e2, cpy_ne (by decide), ← e1, zwr_ne (Or.inl (by decide))]
            have cc7 : h5 7 = h 7 := funext fun j => by rw [← e5, zwr_ne (Or.inl (by decide)), ← e4, cpy_ne (by decide), ← e3, cpy_ne (by decide), ← e2, cpy_ne (by decide), ← e1, zwr_ne (Or.inl (by decide))]
            have cc8 : h5 8 = h 8 := funext fun j => by rw [← e5, zwr_ne (Or.inl (by decide)), ← e4, cpy_ne (by decide), ← e3, cpy_ne (by decide), ← e2, cpy_ne (by decide), ← e1, zwr_ne (Or.inl (by decide))]
            have cc9 : h5 9 = h 9 := funext fun j => by rw [← e5, zwr_ne (Or.inl (by decide)), ← e4, cpy_ne (by decide), ← e3, cpy_ne (by decide), ← e2, cpy_ne (by decide), ← e1, zwr_ne (Or.inl (by decide))]
            have cc10 : h5 10 = h 10 := funext fun j => by rw [← e5, zwr_ne (Or.inl (by decide)), ← e4, cpy_ne (by decide), ← e3, cpy_ne (by decide), ← e2, cpy_ne (by decide), ← e1, zwr_ne (Or.inl (by decide))]
            have cc11 : h5 11 = h 11 := funext fun j => by rw [← e5, zwr_ne (Or.inl (by decide)), ← e4, cpy_ne (by decide), ← e3, cpy_ne (by decide), ← e2, cpy_ne (by decide), ← e1, zwr_ne (Or.inl (by decide))]
            have cc14 : h5 14 = h 14 := funext fun j => by rw [← e5, zwr_ne (Or.inl (by decide)), ← e4, cpy_ne (by decide), ← e3, cpy_ne (by decide), ← e2, cpy_ne (by decide), ← e1, zwr_ne (Or.inl (by decide))]
            have cc15 : h5 15 = h 15 := funext fun j => by rw [← e5, zwr_ne (Or.inl (by decide)), ← e4, cpy_ne (by decide), ← e3, cpy_ne (by decide), ← e2, cpy_ne (by decide), ← e1, zwr_ne (Or.inl (by decide))]
            obtain ⟨a0, a1, a2, a3, a4, a5, a6, a7, a8, a9, a10, a11, a12, a13, a14, a15, a16, a17⟩ := hF.2.2.1
            have hRf : KR h5 := by unfold KR; rw [g11f, g12f, g13f, g14f, g15f, g16f, g17f, g18f, g19f, g20f, g21f, g22f, g25f, cc7, cc8, cc9, cc10, cc11, cc14, cc15]; exact ⟨a0, a1, a2, hn3, a4, a5, bd2 cc4 oo4 a14 a6, hn5.cong3 hn3.2 cc3 cc4 cc5, a8, a9, a10, bd2 cc5 oo5 a15 a11, a12, a13, a14, a15, a16, a17⟩
            exact zV_iret rfl dX12_stages_5.2.2.2 ⟨⟨fun k i hk hl => (fr k i hk hl).trans (hF.1 k i hk hl), hS5, hRf, hCf⟩, ⟨by omega, Or.inl (by rw [← e5]; exact zwr_eq)⟩⟩
          · exfalso; omega
        · have hNl := gc2 (by omega)
          refine zW_aload_n (pc' := 80) dX12_stages_2.2.2.1.1 rfl rfl ?_
          refine zW_bipush (pc' := 82) dX12_stages_2.2.2.1.2 rfl rfl ?_
          refine cvI1 (pc' := 85) kX12_takesSign vX12_takesSign lk_X12_154 ⟨Nat.le_of_ble_eq_true rfl, Nat.le_of_ble_eq_true rfl⟩ tb0 vq12 rfl rfl (s_X12_takesSign hF.2.1 hF.2.2.1 hF.2.2.2 _ ⟨by omega, by omega⟩ hNl.1) dX12_stages_2.2.2.2.1 (Nat.le_of_ble_eq_true rfl) rfl ?_
          rintro r82 h ⟨hF1, p82⟩; replace hF := hF.tr hF1 rfl
          replace hU : UnR κ h := hU.fm hF1 rfl
          have t82_0_25 := hF1.1 0 25 rfl rfl
          have t82_0_27 := hF1.1 0 27 rfl rfl
          have t82_0_30 := hF1.1 0 30 rfl rfl
          have t82_0_31 := hF1.1 0 31 rfl rfl
          have t82_0_23 := hF1.1 0 23 rfl rfl
          refine zV_if_eq (tgt := 99) (pc' := 88) dX12_stages_2.2.2.2.2 rfl rfl ⟨by omega, by omega⟩ (fun c85 => ?_) (fun c85 => ?_)
          · refine zW_iconst (pc' := 100) dX12_stages_3.1.2.1.2 rfl ?_
            refine zW_istore_n (ls' := [_, _, _]) (pc' := 101) dX12_stages_3.1.2.2.1 (by decide) rfl rfl rfl ?_
            refine zV_goto 64 dX12_stages_3.1.2.2.2 rfl ?_
            exact k64 _ _ hF (by omega) (by omega) (by omega) (by omega) (by first | exact (fun q => absurd q (by decide)) | exact (fun _ => hNP) | exact (fun _ => p52.2.2.2.2 (by omega)) | exact (fun _ => p89.2.2.2.2 (by omega))) hU (by omega)
          · have hN2 : NP h := hNl.mv hF1 (by omega) (by omega)
            refine zW_aload_n (pc' := 89) dX12_stages_3.1.1.1.1 rfl rfl ?_
            refine cvI0 (pc' := 92) kX12_readsStage vX12_readsStage lk_X12_182 ⟨Nat.le_of_ble_eq_true rfl, Nat.le_of_ble_eq_true rfl⟩ tb0 vq12 rfl rfl (s_X12_readsStage hF.2.1 hF.2.2.1 hF.2.2.2 hN2.1 hN2.2.1 hN2.2.2.1 hN2.2.2.2.1 hN2.2.2.2.2) dX12_stages_3.1.1.1.2 (Nat.le_of_ble_eq_true rfl) rfl ?_
            rintro r89 h ⟨hF1, p89⟩; replace hF := hF.tr hF1 rfl
            replace hU : UnR κ h := hU.fm hF1 rfl
            have t89_0_25 := hF1.1 0 25 rfl rfl
            have t89_0_27 := hF1.1 0 27 rfl rfl
            have t89_0_23 := hF1.1 0 23 rfl rfl
            refine zV_if_eq (tgt := 99) (pc' := 95) dX12_stages_3.1.1.2.1 rfl rfl ⟨by omega, by omega⟩ (fun c92 => ?_) (fun c92 => ?_)
            · refine zW_iconst (pc' := 100) dX12_stages_3.1.2.1.2 rfl ?_
              refine zW_istore_n (ls' := [_, _, _]) (pc' := 101) dX12_stages_3.1.2.2.1 (by decide) rfl rfl rfl ?_
              refine zV_goto 64 dX12_stages_3.1.2.2.2 rfl ?_
              exact k64 _ _ hF (by omega) (by omega) (by omega) (by omega) (by first | exact (fun q => absurd q (by decide)) | exact (fun _ => hNP) | exact (fun _ => p52.2.2.2.2 (by omega)) | exact (fun _ => p89.2.2.2.2 (by omega))) hU (by omega)
            · refine zW_iconst (pc' := 96) dX12_stages_3.1.1.2.2 rfl ?_
              refine zV_goto 100 dX12_stages_3.1.2.1.1 rfl ?_
              refine zW_istore_n (ls' := [_, _, _]) (pc' := 101) dX12_stages_3.1.2.2.1 (by decide) rfl rfl rfl ?_
              refine zV_goto 64 dX12_stages_3.1.2.2.2 rfl ?_
              exact k64 _ _ hF (by omega) (by omega) (by omega) (by omega) (by first | exact (fun q => absurd q (by decide)) | exact (fun _ => hNP) | exact (fun _ => p52.2.2.2.2 (by omega)) | exact (fun _ => p89.2.2.2.2 (by omega))) hU (by omega)
  refine zM_of [some (.inr (.inr 0)), some (.inl x1), none] 1 rfl rfl (Nat.le_of_ble_eq_true rfl) rfl ?_
  refine (show ∀ h : Hp, Fm [(0, 26), (0, 28), (0, 29), (0, 31), (15, 999), (0, 30), (13, 999), (14, 999), (0, 27), (0, 25), (0, 14), (3, 999), (4, 999), (5, 999), (0, 23)] κ h → h = κ → zV G mX12_stages (q_X12_stages κ x1) 0 [some (.inr (.inr 0)), some (.inl x1), none] [] h from fun h hF hk0 => ?_) κ (Fm.rf hS hR hC) rfl
  have y0_0_25 : h 0 25 = κ 0 25 := by rw [hk0]
  have hU : UnR κ h := by rw [hk0]; exact UnR.rf
  refine zW_iload_n (pc' := 1) dX12_stages_0.1.1.1.1 rfl rfl ?_
  refine zW_iconst (pc' := 2) dX12_stages_0.1.1.1.2 rfl ?_
  refine zW_bipush (pc' := 4) dX12_stages_0.1.1.2.1 rfl rfl ?_
  refine csI3 (pc' := 7) kX12_in vX12_in lk_X12_140 ⟨Nat.le_of_ble_eq_true rfl, Nat.le_of_ble_eq_true rfl⟩ rfl (s_X12_inR (b := bdB true) (κ := h) (Fr.rf hF.2.1) _ ⟨by omega, by omega⟩ _ ⟨by omega, by omega⟩ _ ⟨by omega, by omega⟩) dX12_stages_0.1.1.2.2 (Nat.le_of_ble_eq_true rfl) rfl ?_
  rintro r4 z4 ⟨hz4, p4⟩; subst z4
  refine zV_if_eq (tgt := 18) (pc' := 10) dX12_stages_0.1.2.1.1 rfl rfl ⟨by omega, by omega⟩ (fun c7 => ?_) (fun c7 => ?_)
  · refine zW_iconst (pc' := 19) dX12_stages_0.2.1.1.2 rfl ?_
    exact zV_iret rfl dX12_stages_0.2.1.2.1 ⟨hF, ⟨by omega, (by first | exact Or.inl (by omega) | exact Or.inr hU | exact Or.inr (by rw [hk0]; exact UnR.rf))⟩⟩
  · refine zW_iload_n (pc' := 11) dX12_stages_0.1.2.1.2 rfl rfl ?_
    refine zW_aload_n (pc' := 12) dX12_stages_0.1.2.2.1 rfl rfl ?_
    refine zG_int (pc' := 15) fg_X12_116 tb0 rfl dX12_stages_0.1.2.2.2 rfl ?_
    have e12 := KRt hF.2.2.1
    refine zV_cm_le (tgt := 20) (pc' := 18) dX12_stages_0.2.1.1.1 rfl rfl ⟨by omega, by omega⟩ ⟨by omega, by omega⟩ (fun c15 => ?_) (fun c15 => ?_)
    · refine zW_aload_n (pc' := 21) dX12_stages_0.2.1.2.2 rfl rfl ?_
      refine zW_iconst (pc' := 22) dX12_stages_0.2.2.1.1 rfl ?_
      refine zPm (pc' := 25) hF (Or.inl rfl) (SI_irr hF.2.1 (Or.inl rfl) (fun _ _ => ⟨by omega, by omega⟩)) (KR_irr hF.2.2.1 rfl) (KC_irr hF.2.2.2 rfl) fp_X12_123 tb0 rfl dX12_stages_0.2.2.1.2 rfl (fun h hF w22 => ?_)
      replace hU : UnR κ h := by rw [w22]; exact hU.w rfl
      have t22_0_25 := congrFun (congrFun w22 0) 25
      rw [zwr_ne (Or.inr (by decide))] at t22_0_25
      have t22_0_26 := congrFun (congrFun w22 0) 26
      rw [zwr_eq] at t22_0_26
      have t22_0_27 := congrFun (congrFun w22 0) 27
      rw [zwr_ne (Or.inr (by decide))] at t22_0_27
      have t22_0_30 := congrFun (congrFun w22 0) 30
      rw [zwr_ne (Or.inr (by decide))] at t22_0_30
      have t22_0_31 := congrFun (congrFun w22 0) 31
      rw [zwr_ne (Or.inr (by decide))] at t22_0_31
      have t22_0_23 := congrFun (congrFun w22 0) 23
      rw [zwr_ne (Or.inr (by decide))] at t22_0_23
      refine zW_aload_n (pc' := 26) dX12_stages_0.2.2.2.1 rfl rfl ?_
      refine zW_iload_n (pc' := 27) dX12_stages_0.2.2.2.2 rfl rfl ?_
      refine zPm (pc' := 30) hF (Or.inl rfl) (SI_irr hF.2.1 (Or.inl rfl) (fun _ _ => ⟨by omega, by omega⟩)) (KR_irr hF.2.2.1 rfl) (KC_irr hF.2.2.2 rfl) fp_X12_126 tb0 rfl dX12_stages_1.1.1.1.1 rfl (fun h hF w27 => ?_)
      replace hU : UnR κ h := by rw [w27]; exact hU.w rfl
      have t27_0_25 := congrFun (congrFun w27 0) 25
      rw [zwr_ne (Or.inr (by decide))] at t27_0_25
      have t27_0_26 := congrFun (congrFun w27 0) 26
      rw [zwr_ne (Or.inr (by decide))] at t27_0_26
      have t27_0_27 := congrFun (congrFun w27 0) 27
      rw [zwr_eq] at t27_0_27
      have t27_0_30 := congrFun (congrFun w27 0) 30
      rw [zwr_ne (Or.inr (by decide))] at t27_0_30
      have t27_0_31 := congrFun (congrFun w27 0) 31
      rw [zwr_ne (Or.inr (by decide))] at t27_0_31
      have t27_0_23 := congrFun (congrFun w27 0) 23
      rw [zwr_ne (Or.inr (by decide))] at t27_0_23
      refine zW_aload_n (pc' := 31) dX12_stages_1.1.1.1.2 rfl rfl ?_
      refine zW_iconst (pc' := 32) dX12_stages_1.1.1.2.1 rfl ?_
      refine zPm (pc' := 35) hF (Or.inl rfl) (SI_irr hF.2.1 (Or.inl rfl) (fun _ _ => ⟨by omega, by omega⟩)) (KR_irr hF.2.2.1 rfl) (KC_irr hF.2.2.2 rfl) fp_X12_167 tb0 rfl dX12_stages_1.1.1.2.2 rfl (fun h hF w32 => ?_)
      replace hU : UnR κ h := by rw [w32]; exact hU.w rfl
      have t32_0_25 := congrFun (congrFun w32 0) 25
      rw [zwr_ne (Or.inr (by decide))] at t32_0_25
      have t32_0_26 := congrFun (congrFun w32 0) 26
      rw [zwr_ne (Or.inr (by decide))] at t32_0_26
      have t32_0_27 := congrFun (congrFun w32 0) 27
      rw [zwr_ne (Or.inr (by decide))] at t32_0_27
      have t32_0_30 := congrFun (congrFun w32 0) 30
      rw [zwr_eq] at t32_0_30
      have t32_0_31 := congrFun (congrFun w32 0) 31
      rw [zwr_ne (Or.inr (by decide))] at t32_0_31
      have t32_0_23 := congrFun (congrFun w32 0) 23
      rw [zwr_ne (Or.inr (by decide))] at t32_0_23
      refine zW_aload_n (pc' := 36) dX12_stages_1.1.2.1.1 rfl rfl ?_
      refine zW_iconst (pc' := 37) dX12_stages_1.1.2.1.2 rfl ?_
      refine zPm (pc' := 40) hF (Or.inl rfl) (SI_irr hF.2.1 (Or.inl rfl) (fun _ _ => ⟨by omega, by omega⟩)) (KR_irr hF.2.2.1 rfl) (KC_irr hF.2.2.2 rfl) fp_X12_151 tb0 rfl dX12_stages_1.1.2.2.1 rfl (fun h hF w37 => ?_)
      replace hU : UnR κ h := by rw [w37]; exact hU.w rfl
      have t37_0_25 := congrFun (congrFun w37 0) 25
      rw [zwr_ne (Or.inr (by decide))] at t37_0_25
      have t37_0_26 := congrFun (congrFun w37 0) 26
      rw [zwr_ne (Or.inr (by decide))] at t37_0_26
      have t37_0_27 := congrFun (congrFun w37 0) 27
      rw [zwr_ne (Or.inr (by decide))] at t37_0_27
      have t37_0_30 := congrFun (congrFun w37 0) 30
      rw [zwr_ne (Or.inr (by decide))] at t37_0_30
      have t37_0_31 := congrFun (congrFun w37 0) 31
      rw [zwr_eq] at t37_0_31
      have t37_0_23 := congrFun (congrFun w37 0) 23
      rw [zwr_ne (Or.inr (by decide))] at t37_0_23
      refine zW_aload_n (pc' := 41) dX12_stages_1.1.2.2.2 rfl rfl ?_
      refine zG_ref (pc' := 44) 14 fg_X12_51 tb0 rfl dX12_stages_1.2.1.1.1 rfl ?_
      refine zW_iconst (pc' := 45) dX12_stages_1.2.1.1.2 rfl ?_
      refine zW_iconst (pc' := 46) dX12_stages_1.2.1.2.1 rfl ?_
      refine zSm (pc' := 47) hF rfl (fun v' hv he => ⟨(SI_irr hF.2.1 (Or.inl (key_of rfl _)) (fun _ _ => hv)), (KR_c14 hF.2.2.1 (by have := he ⟨by omega, by omega⟩; omega)), (KC_irr hF.2.2.2 rfl)⟩) tb14 (by omega) dX12_stages_1.2.1.2.2 (by decide) rfl (fun h i46 hF a46 b46 w46 => ?_)
      replace hU : UnR κ h := by rw [w46]; exact hU.w rfl
      have t46_0_25 := congrFun (congrFun w46 0) 25
      rw [zwr_ne (Or.inl (by decide))] at t46_0_25
      have t46_0_26 := congrFun (congrFun w46 0) 26
      rw [zwr_ne (Or.inl (by decide))] at t46_0_26
      have t46_0_27 := congrFun (congrFun w46 0) 27
      rw [zwr_ne (Or.inl (by decide))] at t46_0_27
      have t46_0_30 := congrFun (congrFun w46 0) 30
      rw [zwr_ne (Or.inl (by decide))] at t46_0_30
      have t46_0_31 := congrFun (congrFun w46 0) 31
      rw [zwr_ne (Or.inl (by decide))] at t46_0_31
      have t46_0_23 := congrFun (congrFun w46 0) 23
      rw [zwr_ne (Or.inl (by decide))] at t46_0_23
      have q46 : h 14 (0 : Int).toNat = i46 := (congrFun (congrFun w46 14) _).trans zwr_eq
      have hNP : NP h := ⟨⟨by omega, by omega, by omega⟩, ⟨by omega, by omega⟩, ⟨by omega, by omega⟩, by have q := b46 ⟨by omega, by omega⟩; rw [show h 0 30 = 0 by omega, q46]; omega, fun k k1 k2 => by omega⟩
      refine zW_iload_n (pc' := 48) dX12_stages_1.2.2.1.1 rfl rfl ?_
      refine zV_if_eq (tgt := 58) (pc' := 51) dX12_stages_1.2.2.1.2 rfl rfl ⟨by omega, by omega⟩ (fun c48 => ?_) (fun c48 => ?_)
      · refine zW_iconst (pc' := 59) dX12_stages_2.1.1.1.2 rfl ?_
        refine zV_goto 63 dX12_stages_2.1.1.2.1 rfl ?_
        refine zW_istore_n (ls' := [_, _, _]) (pc' := 64) dX12_stages_2.1.2.1.1 (by decide) rfl rfl rfl ?_
        exact (main 10000000000000000000000000000000000000000) _ _ hF (by omega) (by omega) (by omega) (by omega) (by first | exact (fun q => absurd q (by decide)) | exact (fun _ => hNP) | exact (fun _ => p52.2.2.2.2 (by omega)) | exact (fun _ => p89.2.2.2.2 (by omega))) hU (by omega)
      · refine zW_aload_n (pc' := 52) dX12_stages_1.2.2.2.1 rfl rfl ?_
        refine cvI0 (pc' := 55) kX12_readsStage vX12_readsStage lk_X12_182 ⟨Nat.le_of_ble_eq_true rfl, Nat.le_of_ble_eq_true rfl⟩ tb0 vq12 rfl rfl (s_X12_readsStage hF.2.1 hF.2.2.1 hF.2.2.2 hNP.1 hNP.2.1 hNP.2.2.1 hNP.2.2.2.1 hNP.2.2.2.2) dX12_stages_1.2.2.2.2 (Nat.le_of_ble_eq_true rfl) rfl ?_
        rintro r52 h ⟨hF1, p52⟩; replace hF := hF.tr hF1 rfl
        replace hU : UnR κ h := hU.fm hF1 rfl
        have t52_0_25 := hF1.1 0 25 rfl rfl
        have t52_0_27 := hF1.1 0 27 rfl rfl
        have t52_0_23 := hF1.1 0 23 rfl rfl
        refine zV_if_eq (tgt := 62) (pc' := 58) dX12_stages_2.1.1.1.1 rfl rfl ⟨by omega, by omega⟩ (fun c55 => ?_) (fun c55 => ?_)
        · refine zW_iconst (pc' := 63) dX12_stages_2.1.1.2.2 rfl ?_
          refine zW_istore_n (ls' := [_, _, _]) (pc' := 64) dX12_stages_2.1.2.1.1 (by decide) rfl rfl rfl ?_
          exact (main 10000000000000000000000000000000000000000) _ _ hF (by omega) (by omega) (by omega) (by omega) (by first | exact (fun q => absurd q (by decide)) | exact (fun _ => hNP) | exact (fun _ => p52.2.2.2.2 (by omega)) | exact (fun _ => p89.2.2.2.2 (by omega))) hU (by omega)
        · refine zW_iconst (pc' := 59) dX12_stages_2.1.1.1.2 rfl ?_
          refine zV_goto 63 dX12_stages_2.1.1.2.1 rfl ?_
          refine zW_istore_n (ls' := [_, _, _]) (pc' := 64) dX12_stages_2.1.2.1.1 (by decide) rfl rfl rfl ?_
          exact (main 10000000000000000000000000000000000000000) _ _ hF (by omega) (by omega) (by omega) (by omega) (by first | exact (fun q => absurd q (by decide)) | exact (fun _ => hNP) | exact (fun _ => p52.2.2.2.2 (by omega)) | exact (fun _ => p89.2.2.2.2 (by omega))) hU (by omega)
    · refine zW_iconst (pc' := 19) dX12_stages_0.2.1.1.2 rfl ?_
      exact zV_iret rfl dX12_stages_0.2.1.2.1 ⟨hF, ⟨by omega, (by first | exact Or.inl (by omega) | exact Or.inr hU | exact Or.inr (by rw [hk0]; exact UnR.rf))⟩⟩
