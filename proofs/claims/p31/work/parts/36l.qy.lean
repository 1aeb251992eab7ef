abbrev q_X12_readsStageQ (κ : Hp) (g : Int → Int) (p : Int) (f : Int) : Int → Hp → Prop := fun r h' => Fm [(0, 26), (0, 28), (0, 29), (0, 31), (15, 999), (0, 30), (13, 999), (14, 999)] κ h' ∧ ((0 ≤ r) ∧ (r ≤ 1) ∧ (κ 0 26 ≤ h' 0 26 ∧ h' 0 26 ≤ κ 0 27 ∧ (r = 1 → NP h') ∧ ((r = 1 ∧ sgF g p (κ 0 30) f = 0 ∧ h' 0 26 = sgE g p ∧ h' 0 30 = κ 0 30 + 1 ∧ p + 2 ≤ h' 0 26) ∨ (r = 0 ∧ sgF g p (κ 0 30) f ≠ 0 ∧ h' 0 28 = sgF g p (κ 0 30) f ∧ h' 0 28 < 0)) ∧ (r = 1 → ∀ j : Nat, (j : Int) < h' 0 30 → (h' 13 j = 102 ↔ (j : Int) + 1 = nxf g p (κ 0 30) f)) ∧ AQI r g p κ h'))
set_option maxHeartbeats 4000000 in
set_option maxRecDepth 20000 in
theorem s_X12_readsStageQ {G : Ga} {κ : Hp} (hS : SI κ) (hR : KR κ) (hC : KC κ) (g : Int → Int) (p : Int) (f : Int) (hp : 0 ≤ κ 0 26 ∧ κ 0 26 ≤ κ 0 27 ∧ κ 0 27 ≤ 120) (hq : 0 ≤ κ 0 31 ∧ κ 0 31 ≤ κ 0 26) (hm0 : 0 ≤ κ 0 30 ∧ κ 0 30 ≤ 12) (hA0 : κ 14 (κ 0 30).toNat = κ 0 31) (hRc : RecOK (κ 13) (κ 14) (κ 15) (κ 0 30)) (hg : hr (fun i => κ 12 i % 256) (κ 0 27) = g) (ht : κ 0 26 = p) (hf0 : 0 ≤ f ∧ f ≤ κ 0 30) (hfl : ∀ j : Nat, (j : Int) < κ 0 30 → (κ 13 j = 102 ↔ (j : Int) + 1 = f)) : zM G mX12_readsStage yX12_readsStage [.inr (.inr 0)] κ (q_X12_readsStageQ κ g p f) := by
  have k29 : ∀ (v1 : Int) (h : Hp), Fm [(0, 26), (0, 28), (0, 29), (0, 31), (15, 999), (0, 30), (13, 999), (14, 999)] κ h → (-1 ≤ v1 ∧ v1 ≤ 255) → (h = κ) → (v1 = g p ∧ 0 ≤ kd (g p) ∧ p < κ 0 27 ∧ 0 ≤ v1) → zV G mX12_readsStage (q_X12_readsStageQ κ g p f) 29 [some (.inr (.inr 0)), some (.inl v1)] [] h := by
    intro v1 h hF g0 gc0 gc1
    have hk0 := gc0
    have y0_0_26 : h 0 26 = κ 0 26 := by rw [hk0]
    have y0_0_27 : h 0 27 = κ 0 27 := by rw [hk0]
    have y0_0_31 : h 0 31 = κ 0 31 := by rw [hk0]
    have y0_0_30 : h 0 30 = κ 0 30 := by rw [hk0]
    have hPre : Pre15 κ h := by rw [hk0]; exact Pre15.rf
    have h13 : h 13 = κ 13 := by rw [hk0]
    have h14 : h 14 = κ 14 := by rw [hk0]
    have q1 : v1 = g p := gc1.1
    have kb := kd_b (g p)
    refine zW_aload_n (pc' := 30) dX12_readsStage_0.2.2.2.2 rfl rfl ?_
    refine zG_int (pc' := 33) fg_X12_167 tb0 rfl dX12_readsStage_1.1.1.1.1 rfl ?_
    have e30 := hF.rh 0 30
    refine zW_bipush (pc' := 35) dX12_readsStage_1.1.1.1.2 rfl rfl ?_
    refine zV_cm_ne (tgt := 48) (pc' := 38) dX12_readsStage_1.1.1.2.1 rfl rfl ⟨by omega, by omega⟩ ⟨by omega, by omega⟩ (fun c35 => ?_) (fun c35 => ?_)
    · refine zW_aload_n (pc' := 49) dX12_readsStage_1.2.1.1.2 rfl rfl ?_
      have y27 := hF.1 0 27 rfl rfl
      refine cvI0 (pc' := 52) kX12_isFilledSoFar vX12_isFilledSoFar lk_X12_176 ⟨Nat.le_of_ble_eq_true rfl, Nat.le_of_ble_eq_true rfl⟩ tb0 vq12 rfl rfl (s_X12_isFilledSoFarP (b := bdB true) (κ := h) hF.2.2.1 (Fr.rf hF.2.1) f (by omega) (by omega) (fun j hj => by rw [h13]; exact hfl j (by omega))) dX12_readsStage_1.2.1.2.1 (Nat.le_of_ble_eq_true rfl) rfl ?_
      rintro r49 z49 ⟨hz49, p49⟩; subst z49
      have e49 := p49.2.2
      have s49 := And.intro p49.1 p49.2.1
      clear p49
      refine zW_iload_n (pc' := 53) dX12_readsStage_1.2.1.2.2 rfl rfl ?_
      have y27 := hF.1 0 27 rfl rfl
      refine csI1 (pc' := 56) kX12_isEarly vX12_isEarly lk_X12_170 ⟨Nat.le_of_ble_eq_true rfl, Nat.le_of_ble_eq_true rfl⟩ rfl (s_X12_isEarly (b := bdB true) (κ := h) (Fr.rf hF.2.1) _ ⟨by omega, by omega⟩) dX12_readsStage_1.2.2.1.1 (Nat.le_of_ble_eq_true rfl) rfl ?_
      rintro r53 z53 ⟨hz53, p53⟩; subst z53
      have e53 : r53 = 1 ↔ (0 ≤ kd (g p) ∧ kd (g p) ≤ 4) := by rw [← q1]; exact p53.2.2.trans (kd_e _).symm
      have s53 := And.intro p53.1 p53.2.1
      clear p53
      refine zV_cm_ne (tgt := 70) (pc' := 59) dX12_readsStage_1.2.2.1.2 rfl rfl ⟨by omega, by omega⟩ ⟨by omega, by omega⟩ (fun c56 => ?_) (fun c56 => ?_)
      · have lz : lF g p (κ 0 30) f = 0 := lf_0 (by omega) (by omega) (by omega)
        have m12 : κ 0 30 ≤ 11 := by omega
        have ff : g p = 102 → f = 0 := fun z => by have := (kd_f (g p)).mpr z; omega
        clear e49 e53
        refine zW_aload_n (pc' := 71) dX12_readsStage_2.1.2.1.1 rfl rfl ?_
        refine zW_aload_n (pc' := 72) dX12_readsStage_2.1.2.1.2 rfl rfl ?_
        refine zG_int (pc' := 75) fg_X12_123 tb0 rfl dX12_readsStage_2.1.2.2.1 rfl ?_
        have e72 := hF.rh 0 26
        refine zW_iconst (pc' := 76) dX12_readsStage_2.1.2.2.2 rfl ?_
        refine zW_iadd (pc' := 77) dX12_readsStage_2.2.1.1.1 rfl ?_
        refine zPm (pc' := 80) hF (Or.inl rfl) (SI_irr hF.2.1 (Or.inl rfl) (fun _ _ => ⟨by omega, by omega⟩)) (KR_irr hF.2.2.1 rfl) (KC_irr hF.2.2.2 rfl) fp_X12_123 tb0 rfl dX12_readsStage_2.2.1.1.2 rfl (fun h hF w77 => ?_)
        replace hPre : Pre15 κ h := by rw [w77]; exact hPre.w (by decide)
        replace h13 : h 13 = κ 13 := by rw [w77]; exact (zfun (by decide)).trans h13
        replace h14 : h 14 = κ 14 := by rw [w77]; exact (zfun (by decide)).trans h14
        have t77_0_26 := congrFun (congrFun w77 0) 26
        rw [zwr_eq] at t77_0_26
        have t77_0_31 := congrFun (congrFun w77 0) 31
        rw [zwr_ne (Or.inr (by decide))] at t77_0_31
        have t77_0_30 := congrFun (congrFun w77 0) 30
        rw [zwr_ne (Or.inr (by decide))] at t77_0_30
        have t77_0_28 := congrFun (congrFun w77 0) 28
        rw [zwr_ne (Or.inr (by decide))] at t77_0_28
        refine zW_aload_n (pc' := 81) dX12_readsStage_2.2.1.2.1 rfl rfl ?_
        refine zW_bipush (pc' := 83) dX12_readsStage_2.2.1.2.2 rfl rfl ?_
        have y27 := hF.1 0 27 rfl rfl
        have y83_0_27 := hF.1 0 27 rfl rfl
        refine cvI1 (pc' := 86) kX12_takesSign vX12_takesSign lk_X12_154 ⟨Nat.le_of_ble_eq_true rfl, Nat.le_of_ble_eq_true rfl⟩ tb0 vq12 rfl rfl (s_X12_takesSignP hF.2.1 hF.2.2.1 hF.2.2.2 _ ⟨by omega, by omega⟩ g (p + 1) (by rw [hF.cell 12 rfl (fun _ => rfl), hF.1 0 27 rfl rfl]; exact hg) (by omega) (by omega)) dX12_readsStage_2.2.2.1.1 (Nat.le_of_ble_eq_true rfl) rfl ?_
        rintro r83 h ⟨hF1, p83⟩; replace hF := hF.tr hF1 rfl
        replace hPre : Pre15 κ h := hPre.fm hF1 (fun _ => rfl)
        replace h13 : h 13 = κ 13 := (hF1.cell 13 rfl (fun _ => rfl)).trans h13
        replace h14 : h 14 = κ 14 := (hF1.cell 14 rfl (fun _ => rfl)).trans h14
        have t83_0_31 := hF1.1 0 31 rfl rfl
        have t83_0_30 := hF1.1 0 30 rfl rfl
        refine zV_if_eq (tgt := 97) (pc' := 89) dX12_readsStage_2.2.2.1.2 rfl rfl ⟨by omega, by omega⟩ (fun c86 => ?_) (fun c86 => ?_)
        · first | (have r0 : r83 = 0 := (by omega); have sg : sgF g p (κ 0 30) f = sF g (p + 1) 58 := sg_s lz (by omega)) | skip
          refine zW_iconst (pc' := 98) dX12_readsStage_3.1.1.2.1 rfl ?_
          exact zV_zret rfl (by omega) dX12_readsStage_3.1.1.2.2 ⟨hF, by refine ⟨by omega, by omega, by omega, by omega, fun q => absurd q (by omega), by omega, fun q => absurd q (by omega), fun q => absurd q (by omega)⟩⟩
        · have sg : sgF g p (κ 0 30) f = nbF g (g p) (p + 2) := sg_n lz (by omega)
          have t26 : h 0 26 = p + 2 := by omega
          have t27 : p + 2 ≤ κ 0 27 := by omega
          refine zW_aload_n (pc' := 90) dX12_readsStage_2.2.2.2.1 rfl rfl ?_
          refine zW_iload_n (pc' := 91) dX12_readsStage_2.2.2.2.2 rfl rfl ?_
          clear p83
          have y27 := hF.1 0 27 rfl rfl
          obtain ⟨hB, eB⟩ : ∃ z : Hp, z = h := ⟨_, rfl⟩
          have eB31 : hB 0 31 = κ 0 31 := by rw [eB]; omega
          have eB26 : hB 0 26 = h 0 26 := by rw [eB]
          have eB27 : hB 0 27 = h 0 27 := by rw [eB]
          have y91_0_27 := hF.1 0 27 rfl rfl
          refine cvI1 (pc' := 94) kX12_readsNumbers vX12_readsNumbers lk_X12_179 ⟨Nat.le_of_ble_eq_true rfl, Nat.le_of_ble_eq_true rfl⟩ tb0 vq12 rfl rfl (s_X12_readsNumbersQ hF.2.1 hF.2.2.1 hF.2.2.2 _ ⟨by omega, by omega⟩ g (p + 2) (by omega) (by omega) (by rw [hF.cell 12 rfl (fun _ => rfl), hF.1 0 27 rfl rfl]; exact hg) (by omega) (by rw [q1]; omega)) dX12_readsStage_3.1.1.1.1 (Nat.le_of_ble_eq_true rfl) rfl ?_
          rintro r91 h ⟨hF1, p91⟩; replace hF := hF.tr hF1 rfl
          replace hPre : Pre15 κ h := hPre.tr p91.2.2.2.2.1 (by omega)
          replace h13 : h 13 = κ 13 := (hF1.cell 13 rfl (fun _ => rfl)).trans h13
          replace h14 : h 14 = κ 14 := (hF1.cell 14 rfl (fun _ => rfl)).trans h14
          have t91_0_30 := hF1.1 0 30 rfl rfl
          have nbx : nbF g v1 (p + 2) = nbF g (g p) (p + 2) ∧ nbE g v1 (p + 2) = nbE g (g p) (p + 2) := by rw [q1]; exact ⟨rfl, rfl⟩
          refine zV_if_ne (tgt := 99) (pc' := 97) dX12_readsStage_3.1.1.1.2 rfl rfl ⟨by omega, by omega⟩ (fun c94 => ?_) (fun c94 => ?_)
          · rw [← eB] at p91
            obtain ⟨n1, n2, n3⟩ := p91.2.2.2.2.2.2.2.1 (by omega)
            rw [eB31] at n1 n2 n3
            obtain ⟨hC, eC⟩ : ∃ z : Hp, z = h := ⟨_, rfl⟩
            have c31 : hC 0 31 = h 0 31 := by rw [eC]
            rw [← eC] at n1 n2 n3
            have hPC : Pre15 κ hC := by rw [eC]; exact hPre
            have c13 : hC 13 = κ 13 := by rw [eC]; exact h13
            have c14 : hC 14 = κ 14 := by rw [eC]; exact h14
            have qn := p91.2.2.2.2.2.2.2.2.2 (by omega)
            rw [eB31, q1] at qn
            have qn2 : Ap (κ 15) (hC 15) (κ 0 31) (hC 0 31) (nbL g (g p) (p + 2)) := by rw [eC]; exact qn.pre (fun j hj => hPre j hj)
            clear qn
            have w91 := p91.2.2.2.2.2.2.2.2.1.resolve_right (fun z => by omega)
            have b91 := And.intro p91.2.2.1 (And.intro p91.2.2.2.1 (And.intro p91.2.2.2.2.2.1 p91.2.2.2.2.2.2.1))
            clear p91
            replace n2 : Hid _ := n2
            replace n3 : Hid _ := n3
            refine zW_aload_n (pc' := 100) dX12_readsStage_3.1.2.1.1 rfl rfl ?_
            refine zG_ref (pc' := 103) 13 fg_X12_48 tb0 rfl dX12_readsStage_3.1.2.1.2 rfl ?_
            refine zW_aload_n (pc' := 104) dX12_readsStage_3.1.2.2.1 rfl rfl ?_
            refine zG_int (pc' := 107) fg_X12_167 tb0 rfl dX12_readsStage_3.1.2.2.2 rfl ?_
            have e104 := hF.rh 0 30
            refine zW_iload_n (pc' := 108) dX12_readsStage_3.2.1.1.1 rfl rfl ?_
            have y30 : h 0 30 = κ 0 30 := by omega
            refine zSm (pc' := 109) hF rfl (fun v' hv he => ⟨(SI_irr hF.2.1 (Or.inl (key_of rfl _)) (fun _ _ => hv)), (KR_irr hF.2.2.1 rfl), (KC_irr hF.2.2.2 rfl)⟩) tb13 (by omega) dX12_readsStage_3.2.1.1.2 (by decide) rfl (fun h i108 hF a108 b108 w108 => ?_)
            have t108_0_26 := congrFun (congrFun w108 0) 26
            rw [zwr_ne (Or.inl (by decide))] at t108_0_26
            have t108_0_31 := congrFun (congrFun w108 0) 31
            rw [zwr_ne (Or.inl (by decide))] at t108_0_31
            have t108_0_30 := congrFun (congrFun w108 0) 30
            rw [zwr_ne (Or.inl (by decide))] at t108_0_30
            have t108_0_28 := congrFun (congrFun w108 0) 28
            rw [zwr_ne (Or.inl (by decide))] at t108_0_28
            refine zW_aload_n (pc' := 110) dX12_readsStage_3.2.1.2.1 rfl rfl ?_
            refine zW_aload_n (pc' := 111) dX12_readsStage_3.2.1.2.2 rfl rfl ?_
            refine zG_int (pc' := 114) fg_X12_167 tb0 rfl dX12_readsStage_3.2.2.1.1 rfl ?_
            have e111 := hF.rh 0 30
            refine zW_iconst (pc' := 115) dX12_readsStage_3.2.2.1.2 rfl ?_
            refine zW_iadd (pc' := 116) dX12_readsStage_3.2.2.2.1 rfl ?_
            refine zPm (pc' := 119) hF (Or.inl rfl) (SI_irr hF.2.1 (Or.inl rfl) (fun _ _ => ⟨by omega, by omega⟩)) (KR_irr hF.2.2.1 rfl) (KC_irr hF.2.2.2 rfl) fp_X12_167 tb0 rfl dX12_readsStage_3.2.2.2.2 rfl (fun h hF w116 => ?_)
            have t116_0_26 := congrFun (congrFun w116 0) 26
            rw [zwr_ne (Or.inr (by decide))] at t116_0_26
            have t116_0_31 := congrFun (congrFun w116 0) 31
            rw [zwr_ne (Or.inr (by decide))] at t116_0_31
            have t116_0_30 := congrFun (congrFun w116 0) 30
            rw [zwr_eq] at t116_0_30
            have t116_0_28 := congrFun (congrFun w116 0) 28
            rw [zwr_ne (Or.inr (by decide))] at t116_0_28
            refine zW_aload_n (pc' := 120) dX12_readsStage_4.1.1.1.1 rfl rfl ?_
            refine zG_ref (pc' := 123) 14 fg_X12_51 tb0 rfl dX12_readsStage_4.1.1.1.2 rfl ?_
            refine zW_aload_n (pc' := 124) dX12_readsStage_4.1.1.2 rfl rfl ?_
            refine zG_int (pc' := 127) fg_X12_167 tb0 rfl dX12_readsStage_4.1.2.1 rfl ?_
            have e124 := hF.rh 0 30
            refine zW_aload_n (pc' := 128) dX12_readsStage_4.1.2.2 rfl rfl ?_
            refine zG_int (pc' := 131) fg_X12_151 tb0 rfl dX12_readsStage_4.2.1.1 rfl ?_
            have e128 := hF.rh 0 31
            have y30b : h 0 30 = κ 0 30 + 1 := by omega
            refine zSm (pc' := 132) hF rfl (fun v' hv he => ⟨(SI_irr hF.2.1 (Or.inl (key_of rfl _)) (fun _ _ => hv)), (KR_c14 hF.2.2.1 (by have := he ⟨by omega, by omega⟩; omega)), (KC_irr hF.2.2.2 rfl)⟩) tb14 (by omega) dX12_readsStage_4.2.1.2 (by decide) rfl (fun h i131 hF a131 b131 w131 => ?_)
            have t131_0_26 := congrFun (congrFun w131 0) 26
            rw [zwr_ne (Or.inl (by decide))] at t131_0_26
            have t131_0_31 := congrFun (congrFun w131 0) 31
            rw [zwr_ne (Or.inl (by decide))] at t131_0_31
            have t131_0_30 := congrFun (congrFun w131 0) 30
            rw [zwr_ne (Or.inl (by decide))] at t131_0_30
            have t131_0_28 := congrFun (congrFun w131 0) 28
            rw [zwr_ne (Or.inl (by decide))] at t131_0_28
            have f15 : h 15 = hC 15 := by rw [w131, w116, w108, eC, zfun (by decide), zfun (by decide), zfun (by decide)]
            have f13a : h 13 (κ 0 30).toNat = v1 := by rw [w131, w116, w108, zwr_ne (Or.inl (by decide)), zwr_ne (Or.inl (by decide)), y30, zwr_eq]; exact b108 ⟨by omega, by omega⟩
            have f13b : ∀ j, j ≠ (κ 0 30).toNat → h 13 j = κ 13 j := fun j hj => by rw [w131, w116, w108, zwr_ne (Or.inl (by decide)), zwr_ne (Or.inl (by decide)), y30, zwr_ne (Or.inr hj), ← eC, c13]
            have f14a : h 14 (κ 0 30 + 1).toNat = hC 0 31 := by have q := b131 ⟨by omega, by omega⟩; rw [w131, y30b, zwr_eq]; omega
            have f14b : ∀ j, j ≠ (κ 0 30 + 1).toNat → h 14 j = κ 14 j := fun j hj => by rw [w131, y30b, zwr_ne (Or.inr hj), w116, w108, zwr_ne (Or.inl (by decide)), zwr_ne (Or.inl (by decide)), ← eC, c14]
            have y27 := hF.1 0 27 rfl rfl
            have e30 : h 0 30 = κ 0 30 + 1 := by omega
            have hNP : NP h := ⟨⟨by omega, by omega, by omega⟩, ⟨by omega, by omega⟩, ⟨by omega, by omega⟩, by rw [e30, f14a]; omega, by rw [e30, f15]; exact hRc.push (by omega) f13a f13b f14a f14b (fun j hj => hPC j (by omega)) (by omega) (by omega) (by omega) (by rw [hA0]; exact n2) (by rw [hA0]; exact n3)⟩
            have nx := nxfc g p (κ 0 30) f
            have fin31 : h 0 31 = hC 0 31 := by omega
            have aq : AQ g p κ h := ⟨f13a.trans q1, f13b, f14a.trans fin31.symm, f14b, by rw [f15, fin31]; exact qn2⟩
            refine zW_iconst (pc' := 133) dX12_readsStage_4.2.2.1 rfl ?_
            exact zV_zret rfl (by omega) dX12_readsStage_4.2.2.2 ⟨hF, by have g4 : sgE g p = nbE g (g p) (p + 2) := rfl; refine ⟨by omega, by omega, by omega, by omega, fun _ => hNP, by omega, ?_, fun _ => aq⟩; intro _ j hj; by_cases ej : j = (κ 0 30).toNat; (rw [ej, f13a]; omega); (rw [f13b j ej]; have z := hfl j (by omega); omega)⟩
          · first | (have r0 : r83 = 0 := (by omega); have sg : sgF g p (κ 0 30) f = sF g (p + 1) 58 := sg_s lz (by omega)) | skip
            refine zW_iconst (pc' := 98) dX12_readsStage_3.1.1.2.1 rfl ?_
            exact zV_zret rfl (by omega) dX12_readsStage_3.1.1.2.2 ⟨hF, by refine ⟨by omega, by omega, by omega, by omega, fun q => absurd q (by omega), by omega, fun q => absurd q (by omega), fun q => absurd q (by omega)⟩⟩
      · have gs : sgF g p (κ 0 30) f = -6000 - p := sg_6 (by omega) (by omega) (by omega) (by omega)
        clear e49 e53
        refine zW_aload_n (pc' := 60) dX12_readsStage_1.2.2.2.1 rfl rfl ?_
        refine zW_bipush (pc' := 62) dX12_readsStage_1.2.2.2.2 rfl rfl ?_
        refine zW_aload_n (pc' := 63) dX12_readsStage_2.1.1.1.1 rfl rfl ?_
        refine zG_int (pc' := 66) fg_X12_123 tb0 rfl dX12_readsStage_2.1.1.1.2 rfl ?_
        have e63 := hF.rh 0 26
        have y27 := hF.1 0 27 rfl rfl
        refine cvI2 (pc' := 69) kX12_wrongAt vX12_wrongAt lk_X12_136 ⟨Nat.le_of_ble_eq_true rfl, Nat.le_of_ble_eq_true rfl⟩ tb0 vq12 rfl rfl (s_X12_wrongAtP hF.2.1 hF.2.2.1 hF.2.2.2 _ ⟨by omega, by omega⟩ _ ⟨by omega, by omega⟩) dX12_readsStage_2.1.1.2.1 (Nat.le_of_ble_eq_true rfl) rfl ?_
        rintro r66 h ⟨hF1, p66⟩; replace hF := hF.tr hF1 rfl
        replace hPre : Pre15 κ h := hPre.fm hF1 (fun _ => rfl)
        replace h13 : h 13 = κ 13 := (hF1.cell 13 rfl (fun _ => rfl)).trans h13
        replace h14 : h 14 = κ 14 := (hF1.cell 14 rfl (fun _ => rfl)).trans h14
        have t66_0_26 := hF1.1 0 26 rfl rfl
        have t66_0_31 := hF1.1 0 31 rfl rfl
        have t66_0_30 := hF1.1 0 30 rfl rfl
        exact zV_zret rfl (by omega) dX12_readsStage_2.1.1.2.2 ⟨hF, by refine ⟨by omega, by omega, by omega, by omega, fun q => absurd q (by omega), by omega, fun q => absurd q (by omega), fun q => absurd q (by omega)⟩⟩
    · have gs : sgF g p (κ 0 30) f = -4000 - p := sg_4 (by omega) (by omega) (by omega)
      refine zW_aload_n (pc' := 39) dX12_readsStage_1.1.1.2.2 rfl rfl ?_
      refine zW_iconst (pc' := 40) dX12_readsStage_1.1.2.1.1 rfl ?_
      refine zW_aload_n (pc' := 41) dX12_readsStage_1.1.2.1.2 rfl rfl ?_
      refine zG_int (pc' := 44) fg_X12_123 tb0 rfl dX12_readsStage_1.1.2.2.1 rfl ?_
      have e41 := hF.rh 0 26
      have y27 := hF.1 0 27 rfl rfl
      refine cvI2 (pc' := 47) kX12_wrongAt vX12_wrongAt lk_X12_136 ⟨Nat.le_of_ble_eq_true rfl, Nat.le_of_ble_eq_true rfl⟩ tb0 vq12 rfl rfl (s_X12_wrongAtP hF.2.1 hF.2.2.1 hF.2.2.2 _ ⟨by omega, by omega⟩ _ ⟨by omega, by omega⟩) dX12_readsStage_1.1.2.2.2 (Nat.le_of_ble_eq_true rfl) rfl ?_
      rintro r44 h ⟨hF1, p44⟩; replace hF := hF.tr hF1 rfl
      replace hPre : Pre15 κ h := hPre.fm hF1 (fun _ => rfl)
      replace h13 : h 13 = κ 13 := (hF1.cell 13 rfl (fun _ => rfl)).trans h13
      replace h14 : h 14 = κ 14 := (hF1.cell 14 rfl (fun _ => rfl)).trans h14
      have t44_0_26 := hF1.1 0 26 rfl rfl
      have t44_0_31 := hF1.1 0 31 rfl rfl
      have t44_0_30 := hF1.1 0 30 rfl rfl
      exact zV_zret rfl (by omega) dX12_readsStage_1.2.1.1.1 ⟨hF, by refine ⟨by omega, by omega, by omega, by omega, fun q => absurd q (by omega), by omega, fun q => absurd q (by omega), fun q => absurd q (by omega)⟩⟩
  refine zM_of [some (.inr (.inr 0)), none] 1 rfl rfl (Nat.le_of_ble_eq_true rfl) rfl ?_
  refine (show ∀ h : Hp, Fm [(0, 26), (0, 28), (0, 29), (0, 31), (15, 999), (0, 30), (13, 999), (14, 999)] κ h → h = κ → zV G mX12_readsStage (q_X12_readsStageQ κ g p f) 0 [some (.inr (.inr 0)), none] [] h from fun h hF hk0 => ?_) κ (Fm.rf hS hR hC) rfl
  have y0_0_26 : h 0 26 = κ 0 26 := by rw [hk0]
  have y0_0_27 : h 0 27 = κ 0 27 := by rw [hk0]
  have y0_0_31 : h 0 31 = κ 0 31 := by rw [hk0]
  have y0_0_30 : h 0 30 = κ 0 30 := by rw [hk0]
  have hPre : Pre15 κ h := by rw [hk0]; exact Pre15.rf
  have h13 : h 13 = κ 13 := by rw [hk0]
  have h14 : h 14 = κ 14 := by rw [hk0]
  refine zW_aload_n (pc' := 1) dX12_readsStage_0.1.1.1.1 rfl rfl ?_
  have y27 := hF.1 0 27 rfl rfl
  have y1_0_27 := hF.1 0 27 rfl rfl
  refine cvI0 (pc' := 4) kX12_here vX12_here lk_X12_132 ⟨Nat.le_of_ble_eq_true rfl, Nat.le_of_ble_eq_true rfl⟩ tb0 vq12 rfl rfl (s_X12_hereP (b := bdB true) (κ := h) hF.2.2.1 (Fr.rf hF.2.1) g p (by rw [hF.cell 12 rfl (fun _ => rfl), hF.1 0 27 rfl rfl]; exact hg) (by omega) (by omega)) dX12_readsStage_0.1.1.1.2 (Nat.le_of_ble_eq_true rfl) rfl ?_
  rintro r1 z1 ⟨hz1, p1⟩; subst z1
  have q1 : r1 = g p := p1.2.2.1
  have kb := kd_b (g p)
  have r1b := And.intro p1.1 p1.2.1
  have pn : ¬ p < κ 0 27 → kd (g p) = -1 := fun z => by rw [← q1, p1.2.2.2 (by omega)]; exact kd_n (by decide)
  have kn : g p < 0 → kd (g p) = -1 := kd_n
  clear p1
  refine zW_istore_n (ls' := [_, _]) (pc' := 5) dX12_readsStage_0.1.1.2.1 (by decide) rfl rfl rfl ?_
  refine zW_iload_n (pc' := 6) dX12_readsStage_0.1.1.2.2 rfl rfl ?_
  have y27 := hF.1 0 27 rfl rfl
  refine csI1 (pc' := 9) kX12_isEarly vX12_isEarly lk_X12_170 ⟨Nat.le_of_ble_eq_true rfl, Nat.le_of_ble_eq_true rfl⟩ rfl (s_X12_isEarly (b := bdB true) (κ := h) (Fr.rf hF.2.1) _ ⟨by omega, by omega⟩) dX12_readsStage_0.1.2.1.1 (Nat.le_of_ble_eq_true rfl) rfl ?_
  rintro r6 z6 ⟨hz6, p6⟩; subst z6
  have e6 : r6 = 1 ↔ (0 ≤ kd (g p) ∧ kd (g p) ≤ 4) := by rw [← q1]; exact p6.2.2.trans (kd_e _).symm
  have s6 := And.intro p6.1 p6.2.1
  clear p6
  refine zV_if_ne (tgt := 29) (pc' := 12) dX12_readsStage_0.1.2.1.2 rfl rfl ⟨by omega, by omega⟩ (fun c9 => ?_) (fun c9 => ?_)
  · exact k29 _ _ hF (by omega) hk0 (by omega)
  · refine zW_iload_n (pc' := 13) dX12_readsStage_0.1.2.2.1 rfl rfl ?_
    have y27 := hF.1 0 27 rfl rfl
    refine csI1 (pc' := 16) kX12_isLate vX12_isLate lk_X12_173 ⟨Nat.le_of_ble_eq_true rfl, Nat.le_of_ble_eq_true rfl⟩ rfl (s_X12_isLate (b := bdB true) (κ := h) (Fr.rf hF.2.1) _ ⟨by omega, by omega⟩) dX12_readsStage_0.1.2.2.2 (Nat.le_of_ble_eq_true rfl) rfl ?_
    rintro r13 z13 ⟨hz13, p13⟩; subst z13
    have e13 : r13 = 1 ↔ 5 ≤ kd (g p) := by rw [← q1]; exact p13.2.2.trans (kd_l _).symm
    have s13 := And.intro p13.1 p13.2.1
    clear p13
    refine zV_if_ne (tgt := 29) (pc' := 19) dX12_readsStage_0.2.1.1.1 rfl rfl ⟨by omega, by omega⟩ (fun c16 => ?_) (fun c16 => ?_)
    · exact k29 _ _ hF (by omega) hk0 (by omega)
    · have gs : sgF g p (κ 0 30) f = -1000 - p := sg_1 (by omega) (by omega)
      clear e6 e13
      refine zW_aload_n (pc' := 20) dX12_readsStage_0.2.1.1.2 rfl rfl ?_
      refine zW_iconst (pc' := 21) dX12_readsStage_0.2.1.2.1 rfl ?_
      refine zW_aload_n (pc' := 22) dX12_readsStage_0.2.1.2.2 rfl rfl ?_
      refine zG_int (pc' := 25) fg_X12_123 tb0 rfl dX12_readsStage_0.2.2.1.1 rfl ?_
      have e22 := hF.rh 0 26
      have y27 := hF.1 0 27 rfl rfl
      refine cvI2 (pc' := 28) kX12_wrongAt vX12_wrongAt lk_X12_136 ⟨Nat.le_of_ble_eq_true rfl, Nat.le_of_ble_eq_true rfl⟩ tb0 vq12 rfl rfl (s_X12_wrongAtP hF.2.1 hF.2.2.1 hF.2.2.2 _ ⟨by omega, by omega⟩ _ ⟨by omega, by omega⟩) dX12_readsStage_0.2.2.1.2 (Nat.le_of_ble_eq_true rfl) rfl ?_
      rintro r25 h ⟨hF1, p25⟩; replace hF := hF.tr hF1 rfl
      replace hPre : Pre15 κ h := hPre.fm hF1 (fun _ => rfl)
      replace h13 : h 13 = κ 13 := (hF1.cell 13 rfl (fun _ => rfl)).trans h13
      replace h14 : h 14 = κ 14 := (hF1.cell 14 rfl (fun _ => rfl)).trans h14
      have t25_0_26 := hF1.1 0 26 rfl rfl
      have t25_0_31 := hF1.1 0 31 rfl rfl
      have t25_0_30 := hF1.1 0 30 rfl rfl
      exact zV_zret rfl (by omega) dX12_readsStage_0.2.2.2.1 ⟨hF, by refine ⟨by omega, by omega, by omega, by omega, fun q => absurd q (by omega), by omega, fun q => absurd q (by omega), fun q => absurd q (by omega)⟩⟩

abbrev q_X12_stagesQ (κ : Hp) (x1 : Int) (g : Int → Int) : Int → Hp → Prop := fun r h' => Fm [(0, 26), (0, 28), (0, 29), (0, 31), (15, 999), (0, 30), (13, 999), (14, 999), (0, 27), (0, 25), (0, 14), (3, 999), (4, 999), (5, 999), (0, 23)] κ h' ∧ (((((¬ (0 ≤ x1 ∧ x1 ≤ 120 ∧ x1 ≤ κ 0 25) ∧ r = -1 ∧ h' 0 25 = κ 0 25 ∧ h' 0 14 = κ 0 14) ∨ ((0 ≤ x1 ∧ x1 ≤ 120 ∧ x1 ≤ κ 0 25) ∧ h' 0 25 = 0 ∧ r = rdF g x1 ∧ ((0 ≤ r ∧ h' 0 14 = r) ∨ (r < 0 ∧ h' 0 14 = κ 0 14)))) ∧ (∀ j : Nat, (0 ≤ r → (j : Int) < r → (h' 3 j = 102 ↔ (j : Int) + 1 = rdA g x1)) ∧ (r < 0 → h' 3 j = κ 3 j)) ∧ (0 ≤ r → 0 ≤ rdA g x1 ∧ rdA g x1 ≤ r) ∧ RWI r g (h' 3) (h' 4) (h' 5) ∧ EQ3 r κ h')) ∧ ChR κ h')
set_option maxHeartbeats 4000000 in
set_option maxRecDepth 20000 in
theorem s_X12_stagesQ {G : Ga} {κ : Hp} (hS : SI κ) (hR : KR κ) (hC : KC κ) (x1 : Int) (hx1 : rng x1) (g : Int → Int) (hg : x1 ≤ κ 0 25 → hr (fun i => κ 12 i % 256) x1 = g) : zM G mX12_stages yX12_stages [.inr (.inr 0), .inl x1] κ (q_X12_stagesQ κ x1 g) := by
  have f_0_14 := KRm hR
  have f_0_25 := KRt hR
  unfold rng at hx1
  have main : ∀ N : Nat, (∀ (v2 : Int) (h : Hp), Fm [(0, 26), (0, 28), (0, 29), (0, 31), (15, 999), (0, 30), (13, 999), (14, 999), (0, 27), (0, 25), (0, 14), (3, 999), (4, 999), (5, 999), (0, 23)] κ h → (0 ≤ x1 ∧ x1 ≤ 120) → (0 ≤ v2 ∧ v2 ≤ 1) → (0 ≤ h 0 26 ∧ h 0 26 ≤ h 0 27 ∧ h 0 27 = x1 ∧ x1 ≤ 120) → (h 0 25 = κ 0 25 ∧ x1 ≤ κ 0 25) → (v2 = 1 → NP h) → (v2 = 1 → RfI g x1 h) → (v2 = 0 → h 0 28 = rdF g x1 ∧ h 0 28 < 0) → (h 0 14 = κ 0 14) → (∀ j : Nat, h 3 j = κ 3 j) → (ARI v2 g h) → (v2 = 1 → h 0 30 = 0 → x1 = 0) → (∀ j : Nat, h 4 j = κ 4 j) → (∀ j : Nat, h 5 j = κ 5 j) → (UnR κ h) → 1235080 + 56 * (2 * (x1 - h 0 26) + v2) + 55 < (N : Int) → zV G mX12_stages (q_X12_stagesQ κ x1 g) 64 [some (.inr (.inr 0)), some (.inl x1), some (.inl v2)] [] h) := by
    intro N
    induction N with
    | zero =>
      intro v2 h hF g0 g1 gc0 gc1 gc2 gc3 gc4 gc5 gc6 gc7 gc8 gc9 gc10 gc11 hm
      exfalso; omega
    | succ N ih =>
      have k64 := ih
      intro v2 h hF g0 g1 gc0 gc1 gc2 gc3 gc4 gc5 gc6 gc7 gc8 gc9 gc10 gc11 hm
      have hU := gc11
      refine zW_iload_n (pc' := 65) dX12_stages_2.1.2.1.2 rfl rfl ?_
      refine zV_if_eq (tgt := 104) (pc' := 68) dX12_stages_2.1.2.2.1 rfl rfl ⟨by omega, by omega⟩ (fun c65 => ?_) (fun c65 => ?_)
      · have rf4 : v2 = 1 → rdF g x1 = h 0 30 := fun z => by obtain ⟨f, -, -, st⟩ := gc3 z; exact (st.1 (by omega)).1
        refine zW_aload_n (pc' := 105) dX12_stages_3.2.1.1.1 rfl rfl ?_
        refine zW_iconst (pc' := 106) dX12_stages_3.2.1.1.2 rfl ?_
        refine zPm (pc' := 109) hF (Or.inl rfl) (SI_irr hF.2.1 (Or.inl rfl) (fun _ _ => ⟨by omega, by omega⟩)) (KR_25 hF.2.2.1 (by omega)) (KC_irr hF.2.2.2 rfl) fp_X12_116 tb0 rfl dX12_stages_3.2.1.2.1 rfl (fun h hF w106 => ?_)
        have a106_3 := fun j : Nat => (congrFun (congrFun w106 3) j).trans (zwr_ne (Or.inl (by decide)))
        have a106_4 := fun j : Nat => (congrFun (congrFun w106 4) j).trans (zwr_ne (Or.inl (by decide)))
        have a106_5 := fun j : Nat => (congrFun (congrFun w106 5) j).trans (zwr_ne (Or.inl (by decide)))
        replace hU : UnR κ h := by rw [w106]; exact hU.w rfl
        have t106_0_25 := congrFun (congrFun w106 0) 25
        rw [zwr_eq] at t106_0_25
        have t106_0_26 := congrFun (congrFun w106 0) 26
        rw [zwr_ne (Or.inr (by decide))] at t106_0_26
        have t106_0_27 := congrFun (congrFun w106 0) 27
        rw [zwr_ne (Or.inr (by decide))] at t106_0_27
        have t106_0_30 := congrFun (congrFun w106 0) 30
        rw [zwr_ne (Or.inr (by decide))] at t106_0_30
        have t106_0_31 := congrFun (congrFun w106 0) 31
        rw [zwr_ne (Or.inr (by decide))] at t106_0_31
        have t106_0_23 := congrFun (congrFun w106 0) 23
        rw [zwr_ne (Or.inr (by decide))] at t106_0_23
        have t106_0_28 := congrFun (congrFun w106 0) 28
        rw [zwr_ne (Or.inr (by decide))] at t106_0_28
        have t106_0_14 := congrFun (congrFun w106 0) 14
        rw [zwr_ne (Or.inr (by decide))] at t106_0_14
        have t106_0_23 := congrFun (congrFun w106 0) 23
        rw [zwr_ne (Or.inr (by decide))] at t106_0_23
        have hN4 : v2 = 1 → NP h := fun q => by rw [w106]; exact (gc2 q).w25
        have rf5 : v2 = 1 → RfI g x1 h := fun q => by rw [w106]; exact (gc3 q).w25
        have ar9 : ARI v2 g h := fun q => by rw [w106]; exact (gc7 q).w25
        refine zW_iload_n (pc' := 110) dX12_stages_3.2.1.2.2 rfl rfl ?_
        refine zV_if_ne (tgt := 118) (pc' := 113) dX12_stages_3.2.2.1.1 rfl rfl ⟨by omega, by omega⟩ (fun c110 => ?_) (fun c110 => ?_)
        · exfalso; omega
        · refine zW_aload_n (pc' := 114) dX12_stages_3.2.2.1.2 rfl rfl ?_
          refine zG_int (pc' := 117) fg_X12_129 tb0 rfl dX12_stages_3.2.2.2.1 rfl ?_
          have e114 := hF.rh 0 28
          exact zV_iret rfl dX12_stages_3.2.2.2.2 ⟨hF, ⟨(by exact ⟨by omega, fun j => ⟨fun z => absurd z (by omega), fun _ => (a106_3 j).trans (gc6 j)⟩, fun z => absurd z (by omega), fun z => absurd z (by omega), fun _ j => ⟨(a106_3 j).trans (gc6 j), (a106_4 j).trans (gc9 j), (a106_5 j).trans (gc10 j)⟩⟩), (by first | exact Or.inl (by omega) | exact Or.inr hU | exact Or.inr (by rw [hk0]; exact UnR.rf))⟩⟩
      · refine zW_aload_n (pc' := 69) dX12_stages_2.1.2.2.2 rfl rfl ?_
        refine zG_int (pc' := 72) fg_X12_123 tb0 rfl dX12_stages_2.2.1.1.1 rfl ?_
        have e69 := hF.rh 0 26
        refine zW_aload_n (pc' := 73) dX12_stages_2.2.1.1.2 rfl rfl ?_
        refine zG_int (pc' := 76) fg_X12_126 tb0 rfl dX12_stages_2.2.1.2.1 rfl ?_
        have e73 := hF.rh 0 27
        refine zV_cm_ge (tgt := 104) (pc' := 79) dX12_stages_2.2.1.2.2 rfl rfl ⟨by omega, by omega⟩ ⟨by omega, by omega⟩ (fun c76 => ?_) (fun c76 => ?_)
        · have rf4 : v2 = 1 → rdF g x1 = h 0 30 := fun z => by obtain ⟨f, -, -, st⟩ := gc3 z; exact (st.1 (by omega)).1
          refine zW_aload_n (pc' := 105) dX12_stages_3.2.1.1.1 rfl rfl ?_
          refine zW_iconst (pc' := 106) dX12_stages_3.2.1.1.2 rfl ?_
          refine zPm (pc' := 109) hF (Or.inl rfl) (SI_irr hF.2.1 (Or.inl rfl) (fun _ _ => ⟨by omega, by omega⟩)) (KR_25 hF.2.2.1 (by omega)) (KC_irr hF.2.2.2 rfl) fp_X12_116 tb0 rfl dX12_stages_3.2.1.2.1 rfl (fun h hF w106 => ?_)
          have a106_3 := fun j : Nat => (congrFun (congrFun w106 3) j).trans (zwr_ne (Or.inl (by decide)))
          have a106_4 := fun j : Nat => (congrFun (congrFun w106 4) j).trans (zwr_ne (Or.inl (by decide)))
          have a106_5 := fun j : Nat => (congrFun (congrFun w106 5) j).trans (zwr_ne (Or.inl (by decide)))
          replace hU : UnR κ h := by rw [w106]; exact hU.w rfl
          have t106_0_25 := congrFun (congrFun w106 0) 25
          rw [zwr_eq] at t106_0_25
          have t106_0_26 := congrFun (congrFun w106 0) 26
          rw [zwr_ne (Or.inr (by decide))] at t106_0_26
          have t106_0_27 := congrFun (congrFun w106 0) 27
          rw [zwr_ne (Or.inr (by decide))] at t106_0_27
          have t106_0_30 := congrFun (congrFun w106 0) 30
          rw [zwr_ne (Or.inr (by decide))] at t106_0_30
          have t106_0_31 := congrFun (congrFun w106 0) 31
          rw [zwr_ne (Or.inr (by decide))] at t106_0_31
          have t106_0_23 := congrFun (congrFun w106 0) 23
          rw [zwr_ne (Or.inr (by decide))] at t106_0_23
          have t106_0_28 := congrFun (congrFun w106 0) 28
          rw [zwr_ne (Or.inr (by decide))] at t106_0_28
          have t106_0_14 := congrFun (congrFun w106 0) 14
          rw [zwr_ne (Or.inr (by decide))] at t106_0_14
          have t106_0_23 := congrFun (congrFun w106 0) 23
          rw [zwr_ne (Or.inr (by decide))] at t106_0_23
          have hN4 : v2 = 1 → NP h := fun q => by rw [w106]; exact (gc2 q).w25
          have rf5 : v2 = 1 → RfI g x1 h := fun q => by rw [w106]; exact (gc3 q).w25
          have ar9 : ARI v2 g h := fun q => by rw [w106]; exact (gc7 q).w25
          refine zW_iload_n (pc' := 110) dX12_stages_3.2.1.2.2 rfl rfl ?_
          refine zV_if_ne (tgt := 118) (pc' := 113) dX12_stages_3.2.2.1.1 rfl rfl ⟨by omega, by omega⟩ (fun c110 => ?_) (fun c110 => ?_)
          · have ar8 := (ar9 (by omega)).1
            obtain ⟨f, hf0, hfl, st⟩ := rf5 (by omega)
            have rA := st.1 (by omega)
            have hN4 := hN4 (by omega)
            obtain ⟨hn1, hn2, hn3, hn4, hn5⟩ := hN4
            have hS0 := hF.2.1
            refine zW_aload_n (pc' := 119) dX12_stages_4.1.1.1.1 rfl rfl ?_
            refine zW_aload_n (pc' := 120) dX12_stages_4.1.1.1.2 rfl rfl ?_
            refine zG_int (pc' := 123) fg_X12_167 tb0 rfl dX12_stages_4.1.1.2.1 rfl ?_
            refine zV_puti (pc' := 126) fp_X12_185 tb0 rfl dX12_stages_4.1.1.2.2 rfl ?_
            have hS1 := SI_irr (k := 0) (i := 14) (v := h 0 30) hS0 (Or.inl rfl) (fun _ _ => ⟨by omega, by omega⟩)
            generalize e1 : zwr h 0 14 (h 0 30) = h1 at hS1 ⊢
            refine zW_aload_n (pc' := 127) dX12_stages_4.1.2.1.1 rfl rfl ?_
            refine zG_ref (pc' := 130) 13 fg_X12_48 tb0 rfl dX12_stages_4.1.2.1.2 rfl ?_
            refine zW_aload_n (pc' := 131) dX12_stages_4.1.2.2.1 rfl rfl ?_
            refine zG_ref (pc' := 134) 3 fg_X12_16 tb0 rfl dX12_stages_4.1.2.2.2 rfl ?_
            refine csV2 (pc' := 137) kX12_copies vX12_copies lk_X12_188 ⟨Nat.le_of_ble_eq_true rfl, Nat.le_of_ble_eq_true rfl⟩ rfl (s_X12_copies tb13 tb3 (by decide) (by decide)) dX12_stages_4.2.1.1.1 (Nat.le_of_ble_eq_true rfl) rfl ?_
            rintro _ h2 e2; replace e2 := e2.symm
            have hS2 : SI h2 := by rw [← e2]; exact SI_cpy hS1 rfl (by decide)
            refine zW_aload_n (pc' := 138) dX12_stages_4.2.1.1.2 rfl rfl ?_
            refine zG_ref (pc' := 141) 14 fg_X12_51 tb0 rfl dX12_stages_4.2.1.2.1 rfl ?_
            refine zW_aload_n (pc' := 142) dX12_stages_4.2.1.2.2 rfl rfl ?_
            refine zG_ref (pc' := 145) 4 fg_X12_19 tb0 rfl dX12_stages_4.2.2.1.1 rfl ?_
            refine csV2 (pc' := 148) kX12_copies vX12_copies lk_X12_188 ⟨Nat.le_of_ble_eq_true rfl, Nat.le_of_ble_eq_true rfl⟩ rfl (s_X12_copies tb14 tb4 (by decide) (by decide)) dX12_stages_4.2.2.1.2 (Nat.le_of_ble_eq_true rfl) rfl ?_
            rintro _ h3 e3; replace e3 := e3.symm
            have hS3 : SI h3 := by rw [← e3]; exact SI_cpy hS2 rfl (by decide)
            refine zW_aload_n (pc' := 149) dX12_stages_4.2.2.2.1 rfl rfl ?_
            refine zG_ref (pc' := 152) 15 fg_X12_54 tb0 rfl dX12_stages_4.2.2.2.2 rfl ?_
            refine zW_aload_n (pc' := 153) dX12_stages_5.1.1.1.1 rfl rfl ?_
            refine zG_ref (pc' := 156) 5 fg_X12_22 tb0 rfl dX12_stages_5.1.1.1.2 rfl ?_
            refine csV2 (pc' := 159) kX12_copies vX12_copies lk_X12_188 ⟨Nat.le_of_ble_eq_true rfl, Nat.le_of_ble_eq_true rfl⟩ rfl (s_X12_copies tb15 tb5 (by decide) (by decide)) dX12_stages_5.1.1.2 (Nat.le_of_ble_eq_true rfl) rfl ?_
            rintro _ h4 e4; replace e4 := e4.symm
            have hS4 : SI h4 := by rw [← e4]; exact SI_cpy hS3 rfl (by decide)
            refine zW_aload_n (pc' := 160) dX12_stages_5.1.2.1 rfl rfl ?_
            refine zW_iconst (pc' := 161) dX12_stages_5.1.2.2 rfl ?_
            refine zV_putz (pc' := 164) fp_X12_192 (by omega) tb0 rfl dX12_stages_5.2.1.1 rfl ?_
            have hS5 := SI_irr (k := 0) (i := 23) (v := 0) hS4 (Or.inr (Or.inl rfl)) (fun _ _ => ⟨by omega, by omega⟩)
            generalize e5 : zwr h4 0 23 0 = h5 at hS5 ⊢
            refine zW_aload_n (pc' := 165) dX12_stages_5.2.1.2 rfl rfl ?_
            refine zG_int (pc' := 168) fg_X12_185 tb0 rfl dX12_stages_5.2.2.1 rfl ?_
            have fr : ∀ k i, dpn k i = true → inW [(0, 26), (0, 28), (0, 29), (0, 31), (15, 999), (0, 30), (13, 999), (14, 999), (0, 27), (0, 25), (0, 14), (3, 999), (4, 999), (5, 999), (0, 23)] k i = false → h5 k i = h k i := fun k i hk hl => by rw [← e5, zwr_ne (inW_ne (L := [(0, 26), (0, 28), (0, 29), (0, 31), (15, 999), (0, 30), (13, 999), (14, 999), (0, 27), (0, 25), (0, 14), (3, 999), (4, 999), (5, 999), (0, 23)]) (k := 0) (i := 23) rfl hl), ← e4, cpy_ne (inW_nc (L := [(0, 26), (0, 28), (0, 29), (0, 31), (15, 999), (0, 30), (13, 999), (14, 999), (0, 27), (0, 25), (0, 14), (3, 999), (4, 999), (5, 999), (0, 23)]) (c := 5) rfl hl), ← e3, cpy_ne (inW_nc (L := [(0, 26), (0, 28), (0, 29), (0, 31), (15, 999), (0, 30), (13, 999), (14, 999), (0, 27), (0, 25), (0, 14), (3, 999), (4, 999), (5, 999), (0, 23)]) (c := 4) rfl hl), ← e2, cpy_ne (inW_nc (L := [(0, 26), (0, 28), (0, 29), (0, 31), (15, 999), (0, 30), (13, 999), (14, 999), (0, 27), (0, 25), (0, 14), (3, 999), (4, 999), (5, 999), (0, 23)]) (c := 3) rfl hl), ← e1, zwr_ne (inW_ne (L := [(0, 26), (0, 28), (0, 29), (0, 31), (15, 999), (0, 30), (13, 999), (14, 999), (0, 27), (0, 25), (0, 14), (3, 999), (4, 999), (5, 999), (0, 23)]) (k := 0) (i := 14) rfl hl)]
            have hCf : KC h5 := KC_low hF.2.2.2 (fun k i hk => by rw [← e5, zwr_ne (Or.inl (by omega)), ← e4, cpy_ne (by omega), ← e3, cpy_ne (by omega), ← e2, cpy_ne (by omega), ← e1, zwr_ne (Or.inl (by omega))])
            have g11f : h5 0 11 = h 0 11 := by rw [← e5, zwr_ne (Or.inr (by decide)), ← e4, cpy_ne (by decide), ← e3, cpy_ne (by decide), ← e2, cpy_ne (by decide), ← e1, zwr_ne (Or.inr (by decide))]
            have g12f : h5 0 12 = h 0 12 := by rw [← e5, zwr_ne (Or.inr (by decide)), ← e4, cpy_ne (by decide), ← e3, cpy_ne (by decide), ← e2, cpy_ne (by decide), ← e1, zwr_ne (Or.inr (by decide))]
            have g13f : h5 0 13 = h 0 13 := by rw [← e5, zwr_ne (Or.inr (by decide)), ← e4, cpy_ne (by decide), ← e3, cpy_ne (by decide), ← e2, cpy_ne (by decide), ← e1, zwr_ne (Or.inr (by decide))]
            have g14f : h5 0 14 = h 0 30 := by rw [← e5, zwr_ne (Or.inr (by decide)), ← e4, cpy_ne (by decide), ← e3, cpy_ne (by decide), ← e2, cpy_ne (by decide), ← e1, zwr_eq]
            have g15f : h5 0 15 = h 0 15 := by rw [← e5, zwr_ne (Or.inr (by decide)), ← e4, cpy_ne (by decide), ← e3, cpy_ne (by decide), ← e2, cpy_ne (by decide), ← e1, zwr_ne (Or.inr (by decide))]
            have g16f : h5 0 16 = h 0 16 := by rw [← e5, zwr_ne (Or.inr (by decide)), ← e4, cpy_ne (by decide), ← e3, cpy_ne (by decide), ← e2, cpy_ne (by decide), ← e1, zwr_ne (Or.inr (by decide))]
            have g17f : h5 0 17 = h 0 17 := by rw [← e5, zwr_ne (Or.inr (by decide)), ← e4, cpy_ne (by decide), ← e3, cpy_ne (by decide), ← e2, cpy_ne (by decide), ← e1, zwr_ne (Or.inr (by decide))]
            have g18f : h5 0 18 = h 0 18 := by rw [← e5, zwr_ne (Or.inr (by decide)), ← e4, cpy_ne (by decide), ← e3, cpy_ne (by decide), ← e2, cpy_ne (by decide), ← e1, zwr_ne (Or.inr (by decide))]
            have g19f : h5 0 19 = h 0 19 := by rw [← e5, zwr_ne (Or.inr (by decide)), ← e4, cpy_ne (by decide), ← e3, cpy_ne (by decide), ← e2, cpy_ne (by decide), ← e1, zwr_ne (Or.inr (by decide))]
            have g20f : h5 0 20 = h 0 20 := by rw [← e5, zwr_ne (Or.inr (by decide)), ← e4, cpy_ne (by decide), ← e3, cpy_ne (by decide), ← e2, cpy_ne (by decide), ← e1, zwr_ne (Or.inr (by decide))]
            have g21f : h5 0 21 = h 0 21 := by rw [← e5, zwr_ne (Or.inr (by decide)), ← e4, cpy_ne (by decide), ← e3, cpy_ne (by decide), ← e2, cpy_ne (by decide), ← e1, zwr_ne (Or.inr (by decide))]
            have g22f : h5 0 22 = h 0 22 := by rw [← e5, zwr_ne (Or.inr (by decide)), ← e4, cpy_ne (by decide), ← e3, cpy_ne (by decide), ← e2, cpy_ne (by decide), ← e1, zwr_ne (Or.inr (by decide))]
            have g25f : h5 0 25 = h 0 25 := by rw [← e5, zwr_ne (Or.inr (by decide)), ← e4, cpy_ne (by decide), ← e3, cpy_ne (by decide), ← e2, cpy_ne (by decide), ← e1, zwr_ne (Or.inr (by decide))]
            have cc3 : ∀ j, j < 12 → h5 3 j = h 13 j := fun j hj => by rw [← e5, zwr_ne (Or.inl (by decide)), ← e4, cpy_ne (by decide), ← e3, cpy_ne (by decide), ← e2, cpy_in hj, ← e1, zwr_ne (Or.inl (by decide))]
            have oo3 : ∀ j, 12 ≤ j → h5 3 j = h 3 j := fun j hj => by rw [← e5, zwr_ne (Or.inl (by decide)), ← e4, cpy_ne (by decide), ← e3, cpy_ne (by decide), ← e2, cpy_out hj, ← e1, zwr_ne (Or.inl (by decide))]
            have cc4 : ∀ j, j < 13 → h5 4 j = h 14 j := fun j hj => by rw [← e5, zwr_ne (Or.inl (by decide)), ← e4, cpy_ne (by decide), ← e3, cpy_in hj, ← e2, cpy_ne (by decide), ← e1, zwr_ne (Or.inl (by decide))]
            have oo4 : ∀ j, 13 ≤ j → h5 4 j = h 4 j := fun j hj => by rw [← e5, zwr_ne (Or.inl (by decide)), ← e4, cpy_ne (by decide), ← e3, cpy_out hj, ← e2, cpy_ne (by decide), ← e1, zwr_ne (Or.inl (by decide))]
            have cc5 : ∀ j, j < 130 → h5 5 j = h 15 j := fun j hj => by rw [← e5, zwr_ne (Or.inl (by decide)), ← e4, cpy_in hj, ← e3, cpy_ne (by decide), ← e2, cpy_ne (by decide), ← e1, zwr_ne (Or.inl (by decide))]
            have oo5 : ∀ j, 130 ≤ j → h5 5 j = h 5 j := fun j hj => by rw [← e5, zwr_ne (Or.inl (by decide)), ← e4, cpy_out hj, ← e3, cpy_ne (by decide), ← e2, cpy_ne (by decide), ← e1, zwr_ne (Or.inl (by decide))]
            have cc7 : h5 7 = h 7 := funext fun j => by rw [← e5, zwr_ne (Or.inl (by decide)), ← e4, cpy_ne (by decide), ← e3, cpy_ne (by decide), ← e2, cpy_ne (by decide), ← e1, zwr_ne (Or.inl (by decide))]
            have cc8 : h5 8 = h 8 := funext fun j => by rw [← e5, zwr_ne (Or.inl (by decide)), ← e4, cpy_ne (by decide), ← e3, cpy_ne (by decide), ← e2, cpy_ne (by decide), ← e1, zwr_ne (Or.inl (by decide))]
            have cc9 : h5 9 = h 9 := funext fun j => by rw [← e5, zwr_ne (Or.inl (by decide)), ← e4, cpy_ne (by decide), ← e3, cpy_ne (by decide), ← e2, cpy_ne (by decide), ← e1, zwr_ne (Or.inl (by decide))]
            have cc10 : h5 10 = h 10 := funext fun j => by rw [← e5, zwr_ne (Or.inl (by decide)), ← e4, cpy_ne (by decide), ← e3, cpy_ne (by decide), ← e2, cpy_ne (by decide), ← e1, zwr_ne (Or.inl (by decide))]
            have cc11 : h5 11 = h 11 := funext fun j => by rw [← e5, zwr_ne (Or.inl (by decide)), ← e4, cpy_ne (by decide), ← e3, cpy_ne (by decide), ← e2, cpy_ne (by decide), ← e1, zwr_ne (Or.inl (by decide))]
            have cc14 : h5 14 = h 14 := funext fun j => by rw [← e5, zwr_ne (Or.inl (by decide)), ← e4, cpy_ne (by decide), ← e3, cpy_ne (by decide), ← e2, cpy_ne (by decide), ← e1, zwr_ne (Or.inl (by decide))]
            have cc15 : h5 15 = h 15 := funext fun j => by rw [← e5, zwr_ne (Or.inl (by decide)), ← e4, cpy_ne (by decide), ← e3, cpy_ne (by decide), ← e2, cpy_ne (by decide), ← e1, zwr_ne (Or.inl (by decide))]
            obtain ⟨a0, a1, a2, a3, a4, a5, a6, a7, a8, a9, a10, a11, a12, a13, a14, a15, a16, a17⟩ := hF.2.2.1
            have hRf : KR h5 := by unfold KR; rw [g11f, g12f, g13f, g14f, g15f, g16f, g17f, g18f, g19f, g20f, g21f, g22f, g25f, cc7, cc8, cc9, cc10, cc11, cc14, cc15]; exact ⟨a0, a1, a2, hn3, a4, a5, bd2 cc4 oo4 a14 a6, hn5.cong3 hn3.2 cc3 cc4 cc5, a8, a9, a10, bd2 cc5 oo5 a15 a11, a12, a13, a14, a15, a16, a17⟩
            exact zV_iret rfl dX12_stages_5.2.2.2 ⟨⟨fun k i hk hl => (fr k i hk hl).trans (hF.1 k i hk hl), hS5, hRf, hCf⟩, ⟨⟨by omega, fun j => ⟨fun z hj => by rw [cc3 j (by omega), rA.2]; exact hfl j (by omega), fun z => absurd z (by omega)⟩, fun z => by rw [rA.2]; omega, fun z => ar8.rw (by omega) (by omega) (by omega) cc3 cc4 cc5, fun z => absurd z (by omega)⟩, Or.inl (by rw [← e5]; exact zwr_eq)⟩⟩
          · exfalso; omega
        · have hNl := gc2 (by omega)
          obtain ⟨f, hf0, hfl, st⟩ := gc3 (by omega)
          obtain ⟨q, eq⟩ : ∃ q : Int, q = h 0 26 := ⟨_, rfl⟩
          obtain ⟨m, em⟩ : ∃ m : Int, m = h 0 30 := ⟨_, rfl⟩
          rw [← eq, ← em] at st
          rw [← em] at hf0
          clear gc4
          obtain ⟨arx, ar4⟩ := gc7 (by omega)
          have n30 : h 0 30 ≠ 0 := fun z => by have := gc8 (by omega) z; omega
          have qp : q + 1 = qP g m.toNat := by rw [eq, em]; exact ar4 (by omega)
          refine zW_aload_n (pc' := 80) dX12_stages_2.2.2.1.1 rfl rfl ?_
          refine zW_bipush (pc' := 82) dX12_stages_2.2.2.1.2 rfl rfl ?_
          refine cvI1 (pc' := 85) kX12_takesSign vX12_takesSign lk_X12_154 ⟨Nat.le_of_ble_eq_true rfl, Nat.le_of_ble_eq_true rfl⟩ tb0 vq12 rfl rfl (s_X12_takesSignP hF.2.1 hF.2.2.1 hF.2.2.2 _ ⟨by omega, by omega⟩ g q (by rw [hF.cell 12 rfl (fun _ => rfl), show h 0 27 = x1 by omega]; exact hg (by omega)) (by omega) hNl.1) dX12_stages_2.2.2.2.1 (Nat.le_of_ble_eq_true rfl) rfl ?_
          rintro r82 h ⟨hF1, p82⟩; replace hF := hF.tr hF1 rfl
          have f82_3 := fun j : Nat => hF1.1 3 j rfl rfl
          have f82_4 := fun j : Nat => hF1.1 4 j rfl rfl
          have f82_5 := fun j : Nat => hF1.1 5 j rfl rfl
          replace hU : UnR κ h := hU.fm hF1 rfl
          have t82_0_25 := hF1.1 0 25 rfl rfl
          have t82_0_27 := hF1.1 0 27 rfl rfl
          have t82_0_30 := hF1.1 0 30 rfl rfl
          have t82_0_31 := hF1.1 0 31 rfl rfl
          have t82_0_23 := hF1.1 0 23 rfl rfl
          have t82_0_14 := hF1.1 0 14 rfl rfl
          have t82_0_23 := hF1.1 0 23 rfl rfl
          refine zV_if_eq (tgt := 99) (pc' := 88) dX12_stages_2.2.2.2.2 rfl rfl ⟨by omega, by omega⟩ (fun c85 => ?_) (fun c85 => ?_)
          · refine zW_iconst (pc' := 100) dX12_stages_3.1.2.1.2 rfl ?_
            refine zW_istore_n (ls' := [_, _, _]) (pc' := 101) dX12_stages_3.1.2.2.1 (by decide) rfl rfl rfl ?_
            refine zV_goto 64 dX12_stages_3.1.2.2.2 rfl ?_
            exact k64 _ _ hF (by omega) (by omega) (by omega) (by omega) (by first | exact (fun q => absurd q (by decide)) | exact (fun _ => hNP) | exact (fun _ => np1 (by omega)) | exact (fun _ => np2 (by omega))) (by first | exact (fun z => absurd z (by decide)) | exact fun _ => rf1 (by omega) | exact fun _ => rf2 (by omega) | (intro z; refine ⟨0, by omega, fun j hj => by omega, ?_⟩; rw [show h 0 26 = 0 by omega, show h 0 30 = 0 by omega, show x1 = 0 by omega]; exact StI.nil)) (by first | exact (fun z => absurd z (by decide)) | exact fun _ => bd1 (by omega) | exact fun _ => bd2 (by omega) | (intro z; have s0 := st.2.1 (by omega) (by omega); omega)) (by omega) (fun j => by have q0 := gc6 j; have q1 := f82_3 j; omega) (by first | exact (fun z => absurd z (by decide)) | exact fun _ => ar2 (by omega) | exact fun _ => ar7 (by omega) | exact fun _ => ⟨ar0, fun z => by omega⟩) (by omega) (fun j => by have q0 := gc9 j; have q1 := f82_4 j; omega) (fun j => by have q0 := gc10 j; have q1 := f82_5 j; omega) hU (by omega)
          · have hN2 : NP h := hNl.mv hF1 (by omega) (by omega)
            have c13 := hF1.cell 13 rfl (fun _ => rfl)
            have m31 : h 0 30 = m := by have := hF1.1 0 30 rfl rfl; omega
            have al1 := st.2.2 (by omega) (by omega)
            have t26 : h 0 26 = q + 1 := by omega
            clear p82
            have ar5 : AR0 g h := arx.mv hF1
            obtain ⟨h0, e0⟩ : ∃ z : Hp, z = h := ⟨_, rfl⟩
            have ar6 : AR0 g h0 := by rw [e0]; exact ar5
            have b30 : h0 0 30 = m := by rw [e0]; exact m31
            refine zW_aload_n (pc' := 89) dX12_stages_3.1.1.1.1 rfl rfl ?_
            refine cvI0 (pc' := 92) kX12_readsStage vX12_readsStage lk_X12_182 ⟨Nat.le_of_ble_eq_true rfl, Nat.le_of_ble_eq_true rfl⟩ tb0 vq12 rfl rfl (s_X12_readsStageQ hF.2.1 hF.2.2.1 hF.2.2.2 g (q + 1) f hN2.1 hN2.2.1 hN2.2.2.1 hN2.2.2.2.1 hN2.2.2.2.2 (by rw [hF.cell 12 rfl (fun _ => rfl), show h 0 27 = x1 by omega]; exact hg (by omega)) (by omega) (by omega) (fun j hj => by rw [c13]; exact hfl j (by omega))) dX12_stages_3.1.1.1.2 (Nat.le_of_ble_eq_true rfl) rfl ?_
            rintro r89 h ⟨hF1, p89⟩; replace hF := hF.tr hF1 rfl
            have f89_3 := fun j : Nat => hF1.1 3 j rfl rfl
            have f89_4 := fun j : Nat => hF1.1 4 j rfl rfl
            have f89_5 := fun j : Nat => hF1.1 5 j rfl rfl
            replace hU : UnR κ h := hU.fm hF1 rfl
            have t89_0_25 := hF1.1 0 25 rfl rfl
            have t89_0_27 := hF1.1 0 27 rfl rfl
            have t89_0_23 := hF1.1 0 23 rfl rfl
            have t89_0_14 := hF1.1 0 14 rfl rfl
            have t89_0_23 := hF1.1 0 23 rfl rfl
            have qq := p89.2.2.2.2.2.2.2
            rw [← e0] at qq
            rw [m31] at p89
            have d89 := p89.2.2.2.2.2.1
            have np2 := p89.2.2.2.2.1
            have fl2 := p89.2.2.2.2.2.2.1
            have b89 := And.intro p89.1 (And.intro p89.2.1 (And.intro p89.2.2.1 p89.2.2.2.1))
            clear p89
            have rf2 : r89 = 1 → RfI g x1 h := fun z => by have d := d89.resolve_right (fun y => by omega); exact ⟨nxf g (q + 1) m f, by have := nxfc g (q + 1) m f; omega, fl2 z, by rw [d.2.2.1, d.2.2.2.1]; exact al1.st (by omega) d.2.1 (by omega)⟩
            have bd2 : r89 = 0 → h 0 28 = rdF g x1 ∧ h 0 28 < 0 := fun z => by have d := d89.resolve_left (fun y => by omega); have e := (al1.go (by omega)).1 d.2.1; exact ⟨d.2.2.1.trans e.symm, d.2.2.2⟩
            have rb2 : r89 = 1 → h 0 30 = m + 1 ∧ (q + 1) + 2 ≤ h 0 26 := fun z => by have d := d89.resolve_right (fun y => by omega); exact ⟨d.2.2.2.1, d.2.2.2.2⟩
            have rc2 : r89 = 1 → h 0 26 = sgE g (q + 1) := fun z => (d89.resolve_right (fun y => by omega)).2.2.1
            clear d89 fl2
            have ar7 : ARI r89 g h := fun z => AR0.push (p := q + 1) (by omega) ar6 (by rw [b30]; exact qp) (by have := rb2 z; omega) (rc2 z) (qq z)
            refine zV_if_eq (tgt := 99) (pc' := 95) dX12_stages_3.1.1.2.1 rfl rfl ⟨by omega, by omega⟩ (fun c92 => ?_) (fun c92 => ?_)
            · refine zW_iconst (pc' := 100) dX12_stages_3.1.2.1.2 rfl ?_
              refine zW_istore_n (ls' := [_, _, _]) (pc' := 101) dX12_stages_3.1.2.2.1 (by decide) rfl rfl rfl ?_
              refine zV_goto 64 dX12_stages_3.1.2.2.2 rfl ?_
              exact k64 _ _ hF (by omega) (by omega) (by omega) (by omega) (by first | exact (fun q => absurd q (by decide)) | exact (fun _ => hNP) | exact (fun _ => np1 (by omega)) | exact (fun _ => np2 (by omega))) (by first | exact (fun z => absurd z (by decide)) | exact fun _ => rf1 (by omega) | exact fun _ => rf2 (by omega) | (intro z; refine ⟨0, by omega, fun j hj => by omega, ?_⟩; rw [show h 0 26 = 0 by omega, show h 0 30 = 0 by omega, show x1 = 0 by omega]; exact StI.nil)) (by first | exact (fun z => absurd z (by decide)) | exact fun _ => bd1 (by omega) | exact fun _ => bd2 (by omega) | (intro z; have s0 := st.2.1 (by omega) (by omega); omega)) (by omega) (fun j => by have q0 := gc6 j; have q1 := f82_3 j; have q2 := f89_3 j; omega) (by first | exact (fun z => absurd z (by decide)) | exact fun _ => ar2 (by omega) | exact fun _ => ar7 (by omega) | exact fun _ => ⟨ar0, fun z => by omega⟩) (by omega) (fun j => by have q0 := gc9 j; have q1 := f82_4 j; have q2 := f89_4 j; omega) (fun j => by have q0 := gc10 j; have q1 := f82_5 j; have q2 := f89_5 j; omega) hU (by omega)
            · refine zW_iconst (pc' := 96) dX12_stages_3.1.1.2.2 rfl ?_
              refine zV_goto 100 dX12_stages_3.1.2.1.1 rfl ?_
              refine zW_istore_n (ls' := [_, _, _]) (pc' := 101) dX12_stages_3.1.2.2.1 (by decide) rfl rfl rfl ?_
              refine zV_goto 64 dX12_stages_3.1.2.2.2 rfl ?_
              exact k64 _ _ hF (by omega) (by omega) (by omega) (by omega) (by first | exact (fun q => absurd q (by decide)) | exact (fun _ => hNP) | exact (fun _ => np1 (by omega)) | exact (fun _ => np2 (by omega))) (by first | exact (fun z => absurd z (by decide)) | exact fun _ => rf1 (by omega) | exact fun _ => rf2 (by omega) | (intro z; refine ⟨0, by omega, fun j hj => by omega, ?_⟩; rw [show h 0 26 = 0 by omega, show h 0 30 = 0 by omega, show x1 = 0 by omega]; exact StI.nil)) (by first | exact (fun z => absurd z (by decide)) | exact fun _ => bd1 (by omega) | exact fun _ => bd2 (by omega) | (intro z; have s0 := st.2.1 (by omega) (by omega); omega)) (by omega) (fun j => by have q0 := gc6 j; have q1 := f82_3 j; have q2 := f89_3 j; omega) (by first | exact (fun z => absurd z (by decide)) | exact fun _ => ar2 (by omega) | exact fun _ => ar7 (by omega) | exact fun _ => ⟨ar0, fun z => by omega⟩) (by omega) (fun j => by have q0 := gc9 j; have q1 := f82_4 j; have q2 := f89_4 j; omega) (fun j => by have q0 := gc10 j; have q1 := f82_5 j; have q2 := f89_5 j; omega) hU (by omega)
  refine zM_of [some (.inr (.inr 0)), some (.inl x1), none] 1 rfl rfl (Nat.le_of_ble_eq_true rfl) rfl ?_
  refine (show ∀ h : Hp, Fm [(0, 26), (0, 28), (0, 29), (0, 31), (15, 999), (0, 30), (13, 999), (14, 999), (0, 27), (0, 25), (0, 14), (3, 999), (4, 999), (5, 999), (0, 23)] κ h → h = κ → zV G mX12_stages (q_X12_stagesQ κ x1 g) 0 [some (.inr (.inr 0)), some (.inl x1), none] [] h from fun h hF hk0 => ?_) κ (Fm.rf hS hR hC) rfl
  have y0_0_25 : h 0 25 = κ 0 25 := by rw [hk0]
  have y0_0_14 : h 0 14 = κ 0 14 := by rw [hk0]
  have hU : UnR κ h := by rw [hk0]; exact UnR.rf
  have a0_3 := fun j : Nat => congrFun (congrFun hk0 3) j
  have a0_4 := fun j : Nat => congrFun (congrFun hk0 4) j
  have a0_5 := fun j : Nat => congrFun (congrFun hk0 5) j
  refine zW_iload_n (pc' := 1) dX12_stages_0.1.1.1.1 rfl rfl ?_
  refine zW_iconst (pc' := 2) dX12_stages_0.1.1.1.2 rfl ?_
  refine zW_bipush (pc' := 4) dX12_stages_0.1.1.2.1 rfl rfl ?_
  refine csI3 (pc' := 7) kX12_in vX12_in lk_X12_140 ⟨Nat.le_of_ble_eq_true rfl, Nat.le_of_ble_eq_true rfl⟩ rfl (s_X12_inR (b := bdB true) (κ := h) (Fr.rf hF.2.1) _ ⟨by omega, by omega⟩ _ ⟨by omega, by omega⟩ _ ⟨by omega, by omega⟩) dX12_stages_0.1.1.2.2 (Nat.le_of_ble_eq_true rfl) rfl ?_
  rintro r4 z4 ⟨hz4, p4⟩; subst z4
  refine zV_if_eq (tgt := 18) (pc' := 10) dX12_stages_0.1.2.1.1 rfl rfl ⟨by omega, by omega⟩ (fun c7 => ?_) (fun c7 => ?_)
  · refine zW_iconst (pc' := 19) dX12_stages_0.2.1.1.2 rfl ?_
    exact zV_iret rfl dX12_stages_0.2.1.2.1 ⟨hF, ⟨(by exact ⟨by omega, fun j => ⟨fun z => absurd z (by omega), fun _ => by rw [hk0]⟩, fun z => absurd z (by omega), fun z => absurd z (by decide), fun _ j => ⟨by rw [hk0], by rw [hk0], by rw [hk0]⟩⟩), (by first | exact Or.inl (by omega) | exact Or.inr hU | exact Or.inr (by rw [hk0]; exact UnR.rf))⟩⟩
  · refine zW_iload_n (pc' := 11) dX12_stages_0.1.2.1.2 rfl rfl ?_
    refine zW_aload_n (pc' := 12) dX12_stages_0.1.2.2.1 rfl rfl ?_
    refine zG_int (pc' := 15) fg_X12_116 tb0 rfl dX12_stages_0.1.2.2.2 rfl ?_
    have e12 := KRt hF.2.2.1
    refine zV_cm_le (tgt := 20) (pc' := 18) dX12_stages_0.2.1.1.1 rfl rfl ⟨by omega, by omega⟩ ⟨by omega, by omega⟩ (fun c15 => ?_) (fun c15 => ?_)
    · refine zW_aload_n (pc' := 21) dX12_stages_0.2.1.2.2 rfl rfl ?_
      refine zW_iconst (pc' := 22) dX12_stages_0.2.2.1.1 rfl ?_
      refine zPm (pc' := 25) hF (Or.inl rfl) (SI_irr hF.2.1 (Or.inl rfl) (fun _ _ => ⟨by omega, by omega⟩)) (KR_irr hF.2.2.1 rfl) (KC_irr hF.2.2.2 rfl) fp_X12_123 tb0 rfl dX12_stages_0.2.2.1.2 rfl (fun h hF w22 => ?_)
      have a22_3 := fun j : Nat => (congrFun (congrFun w22 3) j).trans (zwr_ne (Or.inl (by decide)))
      have a22_4 := fun j : Nat => (congrFun (congrFun w22 4) j).trans (zwr_ne (Or.inl (by decide)))
      have a22_5 := fun j : Nat => (congrFun (congrFun w22 5) j).trans (zwr_ne (Or.inl (by decide)))
      replace hU : UnR κ h := by rw [w22]; exact hU.w rfl
      have t22_0_25 := congrFun (congrFun w22 0) 25
      rw [zwr_ne (Or.inr (by decide))] at t22_0_25
      have t22_0_26 := congrFun (congrFun w22 0) 26
      rw [zwr_eq] at t22_0_26
      have t22_0_27 := congrFun (congrFun w22 0) 27
      rw [zwr_ne (Or.inr (by decide))] at t22_0_27
      have t22_0_30 := congrFun (congrFun w22 0) 30
      rw [zwr_ne (Or.inr (by decide))] at t22_0_30
      have t22_0_31 := congrFun (congrFun w22 0) 31
      rw [zwr_ne (Or.inr (by decide))] at t22_0_31
      have t22_0_23 := congrFun (congrFun w22 0) 23
      rw [zwr_ne (Or.inr (by decide))] at t22_0_23
      have t22_0_28 := congrFun (congrFun w22 0) 28
      rw [zwr_ne (Or.inr (by decide))] at t22_0_28
      have t22_0_14 := congrFun (congrFun w22 0) 14
      rw [zwr_ne (Or.inr (by decide))] at t22_0_14
      have t22_0_23 := congrFun (congrFun w22 0) 23
      rw [zwr_ne (Or.inr (by decide))] at t22_0_23
      refine zW_aload_n (pc' := 26) dX12_stages_0.2.2.2.1 rfl rfl ?_
      refine zW_iload_n (pc' := 27) dX12_stages_0.2.2.2.2 rfl rfl ?_
      refine zPm (pc' := 30) hF (Or.inl rfl) (SI_irr hF.2.1 (Or.inl rfl) (fun _ _ => ⟨by omega, by omega⟩)) (KR_irr hF.2.2.1 rfl) (KC_irr hF.2.2.2 rfl) fp_X12_126 tb0 rfl dX12_stages_1.1.1.1.1 rfl (fun h hF w27 => ?_)
      have a27_3 := fun j : Nat => (congrFun (congrFun w27 3) j).trans (zwr_ne (Or.inl (by decide)))
      have a27_4 := fun j : Nat => (congrFun (congrFun w27 4) j).trans (zwr_ne (Or.inl (by decide)))
      have a27_5 := fun j : Nat => (congrFun (congrFun w27 5) j).trans (zwr_ne (Or.inl (by decide)))
      replace hU : UnR κ h := by rw [w27]; exact hU.w rfl
      have t27_0_25 := congrFun (congrFun w27 0) 25
      rw [zwr_ne (Or.inr (by decide))] at t27_0_25
      have t27_0_26 := congrFun (congrFun w27 0) 26
      rw [zwr_ne (Or.inr (by decide))] at t27_0_26
      have t27_0_27 := congrFun (congrFun w27 0) 27
      rw [zwr_eq] at t27_0_27
      have t27_0_30 := congrFun (congrFun w27 0) 30
      rw [zwr_ne (Or.inr (by decide))] at t27_0_30
      have t27_0_31 := congrFun (congrFun w27 0) 31
      rw [zwr_ne (Or.inr (by decide))] at t27_0_31
      have t27_0_23 := congrFun (congrFun w27 0) 23
      rw [zwr_ne (Or.inr (by decide))] at t27_0_23
      have t27_0_28 := congrFun (congrFun w27 0) 28
      rw [zwr_ne (Or.inr (by decide))] at t27_0_28
      have t27_0_14 := congrFun (congrFun w27 0) 14
      rw [zwr_ne (Or.inr (by decide))] at t27_0_14
      have t27_0_23 := congrFun (congrFun w27 0) 23
      rw [zwr_ne (Or.inr (by decide))] at t27_0_23
      refine zW_aload_n (pc' := 31) dX12_stages_1.1.1.1.2 rfl rfl ?_
      refine zW_iconst (pc' := 32) dX12_stages_1.1.1.2.1 rfl ?_
      refine zPm (pc' := 35) hF (Or.inl rfl) (SI_irr hF.2.1 (Or.inl rfl) (fun _ _ => ⟨by omega, by omega⟩)) (KR_irr hF.2.2.1 rfl) (KC_irr hF.2.2.2 rfl) fp_X12_167 tb0 rfl dX12_stages_1.1.1.2.2 rfl (fun h hF w32 => ?_)
      have a32_3 := fun j : Nat => (congrFun (congrFun w32 3) j).trans (zwr_ne (Or.inl (by decide)))
      have a32_4 := fun j : Nat => (congrFun (congrFun w32 4) j).trans (zwr_ne (Or.inl (by decide)))
      have a32_5 := fun j : Nat => (congrFun (congrFun w32 5) j).trans (zwr_ne (Or.inl (by decide)))
      replace hU : UnR κ h := by rw [w32]; exact hU.w rfl
      have t32_0_25 := congrFun (congrFun w32 0) 25
      rw [zwr_ne (Or.inr (by decide))] at t32_0_25
      have t32_0_26 := congrFun (congrFun w32 0) 26
      rw [zwr_ne (Or.inr (by decide))] at t32_0_26
      have t32_0_27 := congrFun (congrFun w32 0) 27
      rw [zwr_ne (Or.inr (by decide))] at t32_0_27
      have t32_0_30 := congrFun (congrFun w32 0) 30
      rw [zwr_eq] at t32_0_30
      have t32_0_31 := congrFun (congrFun w32 0) 31
      rw [zwr_ne (Or.inr (by decide))] at t32_0_31
      have t32_0_23 := congrFun (congrFun w32 0) 23
      rw [zwr_ne (Or.inr (by decide))] at t32_0_23
      have t32_0_28 := congrFun (congrFun w32 0) 28
      rw [zwr_ne (Or.inr (by decide))] at t32_0_28
      have t32_0_14 := congrFun (congrFun w32 0) 14
      rw [zwr_ne (Or.inr (by decide))] at t32_0_14
      have t32_0_23 := congrFun (congrFun w32 0) 23
      rw [zwr_ne (Or.inr (by decide))] at t32_0_23
      refine zW_aload_n (pc' := 36) dX12_stages_1.1.2.1.1 rfl rfl ?_
      refine zW_iconst (pc' := 37) dX12_stages_1.1.2.1.2 rfl ?_
      refine zPm (pc' := 40) hF (Or.inl rfl) (SI_irr hF.2.1 (Or.inl rfl) (fun _ _ => ⟨by omega, by omega⟩)) (KR_irr hF.2.2.1 rfl) (KC_irr hF.2.2.2 rfl) fp_X12_151 tb0 rfl dX12_stages_1.1.2.2.1 rfl (fun h hF w37 => ?_)
      have a37_3 := fun j : Nat => (congrFun (congrFun w37 3) j).trans (zwr_ne (Or.inl (by decide)))
      have a37_4 := fun j : Nat => (congrFun (congrFun w37 4) j).trans (zwr_ne (Or.inl (by decide)))
      have a37_5 := fun j : Nat => (congrFun (congrFun w37 5) j).trans (zwr_ne (Or.inl (by decide)))
      replace hU : UnR κ h := by rw [w37]; exact hU.w rfl
      have t37_0_25 := congrFun (congrFun w37 0) 25
      rw [zwr_ne (Or.inr (by decide))] at t37_0_25
      have t37_0_26 := congrFun (congrFun w37 0) 26
      rw [zwr_ne (Or.inr (by decide))] at t37_0_26
      have t37_0_27 := congrFun (congrFun w37 0) 27
      rw [zwr_ne (Or.inr (by decide))] at t37_0_27
      have t37_0_30 := congrFun (congrFun w37 0) 30
      rw [zwr_ne (Or.inr (by decide))] at t37_0_30
      have t37_0_31 := congrFun (congrFun w37 0) 31
      rw [zwr_eq] at t37_0_31
      have t37_0_23 := congrFun (congrFun w37 0) 23
      rw [zwr_ne (Or.inr (by decide))] at t37_0_23
      have t37_0_28 := congrFun (congrFun w37 0) 28
      rw [zwr_ne (Or.inr (by decide))] at t37_0_28
      have t37_0_14 := congrFun (congrFun w37 0) 14
      rw [zwr_ne (Or.inr (by decide))] at t37_0_14
      have t37_0_23 := congrFun (congrFun w37 0) 23
      rw [zwr_ne (Or.inr (by decide))] at t37_0_23
      refine zW_aload_n (pc' := 41) dX12_stages_1.1.2.2.2 rfl rfl ?_
      refine zG_ref (pc' := 44) 14 fg_X12_51 tb0 rfl dX12_stages_1.2.1.1.1 rfl ?_
      refine zW_iconst (pc' := 45) dX12_stages_1.2.1.1.2 rfl ?_
      refine zW_iconst (pc' := 46) dX12_stages_1.2.1.2.1 rfl ?_
      refine zSm (pc' := 47) hF rfl (fun v' hv he => ⟨(SI_irr hF.2.1 (Or.inl (key_of rfl _)) (fun _ _ => hv)), (KR_c14 hF.2.2.1 (by have := he ⟨by omega, by omega⟩; omega)), (KC_irr hF.2.2.2 rfl)⟩) tb14 (by omega) dX12_stages_1.2.1.2.2 (by decide) rfl (fun h i46 hF a46 b46 w46 => ?_)
      have a46_3 := fun j : Nat => (congrFun (congrFun w46 3) j).trans (zwr_ne (Or.inl (by decide)))
      have a46_4 := fun j : Nat => (congrFun (congrFun w46 4) j).trans (zwr_ne (Or.inl (by decide)))
      have a46_5 := fun j : Nat => (congrFun (congrFun w46 5) j).trans (zwr_ne (Or.inl (by decide)))
      replace hU : UnR κ h := by rw [w46]; exact hU.w rfl
      have t46_0_25 := congrFun (congrFun w46 0) 25
      rw [zwr_ne (Or.inl (by decide))] at t46_0_25
      have t46_0_26 := congrFun (congrFun w46 0) 26
      rw [zwr_ne (Or.inl (by decide))] at t46_0_26
      have t46_0_27 := congrFun (congrFun w46 0) 27
      rw [zwr_ne (Or.inl (by decide))] at t46_0_27
      have t46_0_30 := congrFun (congrFun w46 0) 30
      rw [zwr_ne (Or.inl (by decide))] at t46_0_30
      have t46_0_31 := congrFun (congrFun w46 0) 31
      rw [zwr_ne (Or.inl (by decide))] at t46_0_31
      have t46_0_23 := congrFun (congrFun w46 0) 23
      rw [zwr_ne (Or.inl (by decide))] at t46_0_23
      have t46_0_28 := congrFun (congrFun w46 0) 28
      rw [zwr_ne (Or.inl (by decide))] at t46_0_28
      have t46_0_14 := congrFun (congrFun w46 0) 14
      rw [zwr_ne (Or.inl (by decide))] at t46_0_14
      have t46_0_23 := congrFun (congrFun w46 0) 23
      rw [zwr_ne (Or.inl (by decide))] at t46_0_23
      have q46 : h 14 (0 : Int).toNat = i46 := (congrFun (congrFun w46 14) _).trans zwr_eq
      have hNP : NP h := ⟨⟨by omega, by omega, by omega⟩, ⟨by omega, by omega⟩, ⟨by omega, by omega⟩, by have q := b46 ⟨by omega, by omega⟩; rw [show h 0 30 = 0 by omega, q46]; omega, fun k k1 k2 => by omega⟩
      have ar0 : AR0 g h := by have z30 : h 0 30 = 0 := (by omega); have z31 : h 0 31 = 0 := (by omega); have z := hNP.2.2.2.1; rw [z30, z31] at z; refine ⟨fun k hk => by omega, fun k hk => ?_, by rw [z30, z31]; exact Ls.nil⟩; have e : k = 0 := (by omega); subst e; exact z
      refine zW_iload_n (pc' := 48) dX12_stages_1.2.2.1.1 rfl rfl ?_
      refine zV_if_eq (tgt := 58) (pc' := 51) dX12_stages_1.2.2.1.2 rfl rfl ⟨by omega, by omega⟩ (fun c48 => ?_) (fun c48 => ?_)
      · refine zW_iconst (pc' := 59) dX12_stages_2.1.1.1.2 rfl ?_
        refine zV_goto 63 dX12_stages_2.1.1.2.1 rfl ?_
        refine zW_istore_n (ls' := [_, _, _]) (pc' := 64) dX12_stages_2.1.2.1.1 (by decide) rfl rfl rfl ?_
        exact (main 10000000000000000000000000000000000000000) _ _ hF (by omega) (by omega) (by omega) (by omega) (by first | exact (fun q => absurd q (by decide)) | exact (fun _ => hNP) | exact (fun _ => np1 (by omega)) | exact (fun _ => np2 (by omega))) (by first | exact (fun z => absurd z (by decide)) | exact fun _ => rf1 (by omega) | exact fun _ => rf2 (by omega) | (intro z; refine ⟨0, by omega, fun j hj => by omega, ?_⟩; rw [show h 0 26 = 0 by omega, show h 0 30 = 0 by omega, show x1 = 0 by omega]; exact StI.nil)) (by first | exact (fun z => absurd z (by decide)) | exact fun _ => bd1 (by omega) | exact fun _ => bd2 (by omega) | (intro z; have s0 := st.2.1 (by omega) (by omega); omega)) (by omega) (fun j => by have q0 := a0_3 j; have q1 := a22_3 j; have q2 := a27_3 j; have q3 := a32_3 j; have q4 := a37_3 j; have q5 := a46_3 j; omega) (by first | exact (fun z => absurd z (by decide)) | exact fun _ => ar2 (by omega) | exact fun _ => ar7 (by omega) | exact fun _ => ⟨ar0, fun z => by omega⟩) (by omega) (fun j => by have q0 := a0_4 j; have q1 := a22_4 j; have q2 := a27_4 j; have q3 := a32_4 j; have q4 := a37_4 j; have q5 := a46_4 j; omega) (fun j => by have q0 := a0_5 j; have q1 := a22_5 j; have q2 := a27_5 j; have q3 := a32_5 j; have q4 := a37_5 j; have q5 := a46_5 j; omega) hU (by omega)
      · have m30 : h 0 30 = 0 := by omega
        obtain ⟨h0, e0⟩ : ∃ z : Hp, z = h := ⟨_, rfl⟩
        have ar1 : AR0 g h0 := by rw [e0]; exact ar0
        have b030 : h0 0 30 = 0 := by rw [e0]; omega
        refine zW_aload_n (pc' := 52) dX12_stages_1.2.2.2.1 rfl rfl ?_
        refine cvI0 (pc' := 55) kX12_readsStage vX12_readsStage lk_X12_182 ⟨Nat.le_of_ble_eq_true rfl, Nat.le_of_ble_eq_true rfl⟩ tb0 vq12 rfl rfl (s_X12_readsStageQ hF.2.1 hF.2.2.1 hF.2.2.2 g 0 0 hNP.1 hNP.2.1 hNP.2.2.1 hNP.2.2.2.1 hNP.2.2.2.2 (by rw [hF.cell 12 rfl (fun _ => rfl), show h 0 27 = x1 by omega]; exact hg (by omega)) (by omega) (by omega) (fun j hj => by omega)) dX12_stages_1.2.2.2.2 (Nat.le_of_ble_eq_true rfl) rfl ?_
        rintro r52 h ⟨hF1, p52⟩; replace hF := hF.tr hF1 rfl
        have f52_3 := fun j : Nat => hF1.1 3 j rfl rfl
        have f52_4 := fun j : Nat => hF1.1 4 j rfl rfl
        have f52_5 := fun j : Nat => hF1.1 5 j rfl rfl
        replace hU : UnR κ h := hU.fm hF1 rfl
        have t52_0_25 := hF1.1 0 25 rfl rfl
        have t52_0_27 := hF1.1 0 27 rfl rfl
        have t52_0_23 := hF1.1 0 23 rfl rfl
        have t52_0_14 := hF1.1 0 14 rfl rfl
        have t52_0_23 := hF1.1 0 23 rfl rfl
        have qq := p52.2.2.2.2.2.2.2
        rw [← e0] at qq
        rw [m30] at p52
        have al0 : AlI g x1 0 0 0 := AlI.rf (by omega)
        have d52 := p52.2.2.2.2.2.1
        have np1 := p52.2.2.2.2.1
        have fl1 := p52.2.2.2.2.2.2.1
        have b52 := And.intro p52.1 (And.intro p52.2.1 (And.intro p52.2.2.1 p52.2.2.2.1))
        clear p52
        have rf1 : r52 = 1 → RfI g x1 h := fun z => by have d := d52.resolve_right (fun y => by omega); exact ⟨nxf g 0 0 0, by have := nxfc g 0 0 0; omega, fl1 z, by rw [d.2.2.1, d.2.2.2.1]; exact al0.st (by omega) d.2.1 (by omega)⟩
        have bd1 : r52 = 0 → h 0 28 = rdF g x1 ∧ h 0 28 < 0 := fun z => by have d := d52.resolve_left (fun y => by omega); have e := (al0.go (by omega)).1 d.2.1; exact ⟨d.2.2.1.trans e.symm, d.2.2.2⟩
        have rb1 : r52 = 1 → h 0 30 = 0 + 1 ∧ 0 + 2 ≤ h 0 26 := fun z => by have d := d52.resolve_right (fun y => by omega); exact ⟨d.2.2.2.1, d.2.2.2.2⟩
        have rc1 : r52 = 1 → h 0 26 = sgE g 0 := fun z => (d52.resolve_right (fun y => by omega)).2.2.1
        clear d52 fl1
        have ar2 : ARI r52 g h := fun z => AR0.push (by omega) ar1 (by rw [b030]; rfl) (by have := rb1 z; omega) (rc1 z) (qq z)
        refine zV_if_eq (tgt := 62) (pc' := 58) dX12_stages_2.1.1.1.1 rfl rfl ⟨by omega, by omega⟩ (fun c55 => ?_) (fun c55 => ?_)
        · refine zW_iconst (pc' := 63) dX12_stages_2.1.1.2.2 rfl ?_
          refine zW_istore_n (ls' := [_, _, _]) (pc' := 64) dX12_stages_2.1.2.1.1 (by decide) rfl rfl rfl ?_
          exact (main 10000000000000000000000000000000000000000) _ _ hF (by omega) (by omega) (by omega) (by omega) (by first | exact (fun q => absurd q (by decide)) | exact (fun _ => hNP) | exact (fun _ => np1 (by omega)) | exact (fun _ => np2 (by omega))) (by first | exact (fun z => absurd z (by decide)) | exact fun _ => rf1 (by omega) | exact fun _ => rf2 (by omega) | (intro z; refine ⟨0, by omega, fun j hj => by omega, ?_⟩; rw [show h 0 26 = 0 by omega, show h 0 30 = 0 by omega, show x1 = 0 by omega]; exact StI.nil)) (by first | exact (fun z => absurd z (by decide)) | exact fun _ => bd1 (by omega) | exact fun _ => bd2 (by omega) | (intro z; have s0 := st.2.1 (by omega) (by omega); omega)) (by omega) (fun j => by have q0 := a0_3 j; have q1 := a22_3 j; have q2 := a27_3 j; have q3 := a32_3 j; have q4 := a37_3 j; have q5 := a46_3 j; have q6 := f52_3 j; omega) (by first | exact (fun z => absurd z (by decide)) | exact fun _ => ar2 (by omega) | exact fun _ => ar7 (by omega) | exact fun _ => ⟨ar0, fun z => by omega⟩) (by omega) (fun j => by have q0 := a0_4 j; have q1 := a22_4 j; have q2 := a27_4 j; have q3 := a32_4 j; have q4 := a37_4 j; have q5 := a46_4 j; have q6 := f52_4 j; omega) (fun j => by have q0 := a0_5 j; have q1 := a22_5 j; have q2 := a27_5 j; have q3 := a32_5 j; have q4 := a37_5 j; have q5 := a46_5 j; have q6 := f52_5 j; omega) hU (by omega)
        · refine zW_iconst (pc' := 59) dX12_stages_2.1.1.1.2 rfl ?_
          refine zV_goto 63 dX12_stages_2.1.1.2.1 rfl ?_
          refine zW_istore_n (ls' := [_, _, _]) (pc' := 64) dX12_stages_2.1.2.1.1 (by decide) rfl rfl rfl ?_
          exact (main 10000000000000000000000000000000000000000) _ _ hF (by omega) (by omega) (by omega) (by omega) (by first | exact (fun q => absurd q (by decide)) | exact (fun _ => hNP) | exact (fun _ => np1 (by omega)) | exact (fun _ => np2 (by omega))) (by first | exact (fun z => absurd z (by decide)) | exact fun _ => rf1 (by omega) | exact fun _ => rf2 (by omega) | (intro z; refine ⟨0, by omega, fun j hj => by omega, ?_⟩; rw [show h 0 26 = 0 by omega, show h 0 30 = 0 by omega, show x1 = 0 by omega]; exact StI.nil)) (by first | exact (fun z => absurd z (by decide)) | exact fun _ => bd1 (by omega) | exact fun _ => bd2 (by omega) | (intro z; have s0 := st.2.1 (by omega) (by omega); omega)) (by omega) (fun j => by have q0 := a0_3 j; have q1 := a22_3 j; have q2 := a27_3 j; have q3 := a32_3 j; have q4 := a37_3 j; have q5 := a46_3 j; have q6 := f52_3 j; omega) (by first | exact (fun z => absurd z (by decide)) | exact fun _ => ar2 (by omega) | exact fun _ => ar7 (by omega) | exact fun _ => ⟨ar0, fun z => by omega⟩) (by omega) (fun j => by have q0 := a0_4 j; have q1 := a22_4 j; have q2 := a27_4 j; have q3 := a32_4 j; have q4 := a37_4 j; have q5 := a46_4 j; have q6 := f52_4 j; omega) (fun j => by have q0 := a0_5 j; have q1 := a22_5 j; have q2 := a27_5 j; have q3 := a32_5 j; have q4 := a37_5 j; have q5 := a46_5 j; have q6 := f52_5 j; omega) hU (by omega)
    · refine zW_iconst (pc' := 19) dX12_stages_0.2.1.1.2 rfl ?_
      exact zV_iret rfl dX12_stages_0.2.1.2.1 ⟨hF, ⟨(by exact ⟨by omega, fun j => ⟨fun z => absurd z (by omega), fun _ => by rw [hk0]⟩, fun z => absurd z (by omega), fun z => absurd z (by decide), fun _ j => ⟨by rw [hk0], by rw [hk0], by rw [hk0]⟩⟩), (by first | exact Or.inl (by omega) | exact Or.inr hU | exact Or.inr (by rw [hk0]; exact UnR.rf))⟩⟩
