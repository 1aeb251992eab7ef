abbrev q_X6_readStageQ (κ : Hp) (g : Int → Int) (p : Int) (m : Int) : Int → Hp → Prop := fun r h' => Fm [(53, 3), (53, 4), (49, 0), (49, 1), (50, 999), (51, 999), (52, 999)] κ h' ∧ (((sgF g p (κ 49 0) (κ 49 1) ≠ 0 → h' 53 4 = sgF g p (κ 49 0) (κ 49 1)) ∧ (sgF g p (κ 49 0) (κ 49 1) = 0 → h' 53 3 = sgE g p ∧ (sgE g p < κ 53 2 → h' 53 4 = sF g (sgE g p) 59) ∧ (κ 53 2 ≤ sgE g p → h' 53 4 = 0) ∧ p + 2 ≤ h' 53 3) ∧ (h' 53 4 = 0 → h' 49 0 = κ 49 0 + 1 ∧ h' 49 1 = nxf g p (κ 49 0) (κ 49 1)) ∧ h' 53 4 ≤ 0 ∧ κ 53 3 ≤ h' 53 3 ∧ (h' 53 3 = κ 53 3 ∨ h' 53 3 ≤ κ 53 2) ∧ SQ g p κ h' m))
set_option maxHeartbeats 4000000 in
set_option maxRecDepth 20000 in
theorem s_X6_readStageQ {G : Ga} {κ : Hp} (hS : SI κ) (hR : KR κ) (hC : KC κ) (g : Int → Int) (p : Int) (m : Int) (hg : hr (κ 32) (κ 53 2) = g) (hn : 0 ≤ κ 53 2 ∧ κ 53 2 ≤ 120 ∧ κ 53 2 ≤ κ 31 1) (hb : ∀ q : Int, -1 ≤ g q ∧ g q ≤ 255) (hp : (κ 53 4 = 0 ∧ κ 53 3 = p ∧ 0 ≤ p)) (ha : κ 53 3 ≤ 150) (hX : XI G) (hM : κ 49 0 = m ∧ 0 ≤ m ∧ m ≤ 12) (he : 2 * κ 51 (m + 1).toNat ≤ κ 53 3 ∧ 0 ≤ κ 51 (m + 1).toNat) : zM G mX6_readStage yX6_readStage [.inr (.inr 53)] κ (q_X6_readStageQ κ g p m) := by
  have f_31_1 := KCt hC
  have f_49_0 := KCd0 hC
  have f_49_1 := KCd1 hC
  have g4 : sgE g p = nbE g (g p) (p + 2) := rfl
  refine zM_of [some (.inr (.inr 53)), none] 1 rfl rfl (Nat.le_of_ble_eq_true rfl) rfl ?_
  refine (show ∀ h : Hp, Fm [(53, 3), (53, 4), (49, 0), (49, 1), (50, 999), (51, 999), (52, 999)] κ h → h = κ → zV G mX6_readStage (q_X6_readStageQ κ g p m) 0 [some (.inr (.inr 53)), none] [] h from fun h hF hk0 => ?_) κ (Fm.rf hS hR hC) rfl
  have y0_53_3 : h 53 3 = κ 53 3 := by rw [hk0]
  have y0_53_4 : h 53 4 = κ 53 4 := by rw [hk0]
  have y0_49_0 : h 49 0 = κ 49 0 := by rw [hk0]
  have y0_49_1 : h 49 1 = κ 49 1 := by rw [hk0]
  refine zW_aload_n (pc' := 1) dX6_readStage_0.1.1.1.1 rfl rfl ?_
  have y1_31_1 := hF.1 31 1 rfl rfl
  have y1_53_2 := hF.1 53 2 rfl rfl
  refine cvI0 (pc' := 4) kX6_readLetter vX6_readLetter lk_X6_41 ⟨Nat.le_of_ble_eq_true rfl, Nat.le_of_ble_eq_true rfl⟩ tb53 vq6 rfl rfl (s_X6_readLetterQ hF.2.1 hF.2.2.1 hF.2.2.2 g p m (by rw [hF.cell 32 rfl (fun _ => rfl), hF.1 53 2 rfl rfl]; exact hg) (by omega) hb (by omega) (by omega) hX (by omega)) dX6_readStage_0.1.1.1.2 (Nat.le_of_ble_eq_true rfl) rfl ?_
  rintro r1 h ⟨hF1, p1⟩; replace hF := hF.tr hF1 rfl
  rw [hk0] at p1
  refine zW_istore_n (ls' := [_, _]) (pc' := 5) dX6_readStage_0.1.1.2.1 (by decide) rfl rfl rfl ?_
  have hp0 : 0 ≤ p := by omega
  have r1k := p1.2.2.1
  have e1 := p1.2.2.2.1
  have i1 := p1.2.2.2.2.1
  have m1 := And.intro p1.2.2.2.2.2.1 p1.2.2.2.2.2.2.1
  have r1b := And.intro p1.1 p1.2.1
  have l1 := lFn (g := g) (p := p) (m := κ 49 0) (f := κ 49 1) hp0
  have lq := p1.2.2.2.2.2.2.2
  clear p1
  refine zW_aload_n (pc' := 6) dX6_readStage_0.1.1.2.2 rfl rfl ?_
  refine zW_bipush (pc' := 8) dX6_readStage_0.1.2.1.1 rfl rfl ?_
  have y8_31_1 := hF.1 31 1 rfl rfl
  have y8_53_2 := hF.1 53 2 rfl rfl
  refine cvV1 (pc' := 11) kX6_expect vX6_expect lk_X6_45 ⟨Nat.le_of_ble_eq_true rfl, Nat.le_of_ble_eq_true rfl⟩ tb53 vq6 rfl rfl (s_X6_expectP hF.2.1 hF.2.2.1 hF.2.2.2 _ ⟨by omega, by omega⟩ g (p + 1) (by rw [hF.cell 32 rfl (fun _ => rfl), hF.1 53 2 rfl rfl]; exact hg) (by omega) (fun z => ⟨(i1 z).1, by omega⟩) (by omega) (by omega)) dX6_readStage_0.1.2.1.2 (Nat.le_of_ble_eq_true rfl) rfl ?_
  rintro r8 h ⟨hF1, p8⟩; replace hF := hF.tr hF1 rfl
  replace lq := lq.eq (hF1.cell 50 rfl (fun _ => rfl)) (hF1.cell 51 rfl (fun _ => rfl)) (hF1.cell 52 rfl (fun _ => rfl)) (fun z => sq_0l (p8.1.symm.trans z))
  have t8_49_0 := hF1.1 49 0 rfl rfl
  have t8_49_1 := hF1.1 49 1 rfl rfl
  have e8 : h 53 4 = sq (lF g p (κ 49 0) (κ 49 1)) (sF g (p + 1) 58) := by rw [p8.1, e1]
  have i8 := p8.2.1
  have b8 := p8.2.2
  clear p8
  have s49 : h 53 4 = 0 → h 49 0 = κ 49 0 + 1 ∧ h 49 1 = nxf g p (κ 49 0) (κ 49 1) := fun z => by have a := i1 (e1.trans (sq_0l (e8.symm.trans z))); have nx := nxfc g p (κ 49 0) (κ 49 1); have kf := kd_f (g p); omega
  clear i1
  refine zW_aload_n (pc' := 12) dX6_readStage_0.1.2.2.1 rfl rfl ?_
  refine zG_int (pc' := 15) fg_X6_32 tb53 rfl dX6_readStage_0.1.2.2.2 rfl ?_
  have e12 := hF.rh 53 4
  refine zV_if_ne (tgt := 31) (pc' := 18) dX6_readStage_0.2.1.1.1 rfl rfl ⟨by omega, by omega⟩ (fun c15 => ?_) (fun c15 => ?_)
  · first | (have z1 : h 53 4 ≠ 0 := (by omega); have gs : sgF g p (κ 49 0) (κ 49 1) = sq (lF g p (κ 49 0) (κ 49 1)) (sF g (p + 1) 58) := sq_m (fun z => z1 (e8.trans z)); clear i8 s49) | skip
    refine zW_aload_n (pc' := 32) dX6_readStage_0.2.2.2.2 rfl rfl ?_
    refine zG_int (pc' := 35) fg_X6_32 tb53 rfl dX6_readStage_1.1.1.1.1 rfl ?_
    have e32 := hF.rh 53 4
    refine zV_if_ne (tgt := 43) (pc' := 38) dX6_readStage_1.1.1.1.2 rfl rfl ⟨by omega, by omega⟩ (fun c35 => ?_) (fun c35 => ?_)
    · first | (have z40 := p40; have nbx : nbF g (g p) (p + 2) = mnF g (p + 2) (xvv 102 r1.toNat) (xvv 103 r1.toNat) (xvv 104 r1.toNat) (xvv 105 r1.toNat) ∧ nbE g (g p) (p + 2) = mnE g (p + 2) (xvv 102 r1.toNat) := (by have z := nb_kind (g := g) (p := p + 2) r1.toNat (by omega); rw [show r1.toNat = (kd (g p)).toNat by omega] at z ⊢; rw [kd_s (by omega)] at z; exact z)) | skip
      first | (have z40 := p40; have nlx : nbL g (g p) (p + 2) = pnL g (p + 2) (xvv 102 r1.toNat) := (by have z := nl_kind (g := g) (p := p + 2) r1.toNat (by omega); rw [show r1.toNat = (kd (g p)).toNat by omega] at z ⊢; rw [kd_s (by omega)] at z; exact z); have sqf : SQ g p κ h m := lq.sq (hF1.cell 50 rfl (fun _ => rfl)) p40.2.2.2.2.2.2 p40.2.2.2.2.2.1 nlx (fun _ => z0)) | skip
      refine zW_aload_n (pc' := 44) dX6_readStage_1.1.2.1.2 rfl rfl ?_
      refine zG_int (pc' := 47) fg_X6_32 tb53 rfl dX6_readStage_1.1.2.2.1 rfl ?_
      have e44 := hF.rh 53 4
      refine zV_if_ne (tgt := 79) (pc' := 50) dX6_readStage_1.1.2.2.2 rfl rfl ⟨by omega, by omega⟩ (fun c47 => ?_) (fun c47 => ?_)
      · exact zV_vret rfl dX6_readStage_2.2.2 ⟨hF, by refine ⟨by omega, by omega, by omega, by omega, by omega, by omega, ?_⟩; first | exact sqf | exact (fun z => absurd z (by omega))⟩
      · have sf2 := sFc g (sgE g p) 59
        refine zW_aload_n (pc' := 51) dX6_readStage_1.2.1.1.1 rfl rfl ?_
        refine zG_int (pc' := 54) fg_X6_29 tb53 rfl dX6_readStage_1.2.1.1.2 rfl ?_
        have e51 := hF.rh 53 3
        refine zW_aload_n (pc' := 55) dX6_readStage_1.2.1.2.1 rfl rfl ?_
        refine zGm (pc' := 58) hF rfl rfl fg_X6_25 tb53 rfl dX6_readStage_1.2.1.2.2 rfl ?_
        have e55 : -2147483648 ≤ κ 53 2 ∧ κ 53 2 ≤ 2147483647 := by rw [← hF.1 53 2 rfl rfl]; exact hF.rh 53 2
        refine zV_cm_ge (tgt := 79) (pc' := 61) dX6_readStage_1.2.2.1.1 rfl rfl ⟨by omega, by omega⟩ ⟨by omega, by omega⟩ (fun c58 => ?_) (fun c58 => ?_)
        · exact zV_vret rfl dX6_readStage_2.2.2 ⟨hF, by refine ⟨by omega, by omega, by omega, by omega, by omega, by omega, ?_⟩; first | exact sqf | exact (fun z => absurd z (by omega))⟩
        · refine zW_aload_n (pc' := 62) dX6_readStage_1.2.2.1.2 rfl rfl ?_
          have y62_31_1 := hF.1 31 1 rfl rfl
          have y62_53_2 := hF.1 53 2 rfl rfl
          refine cvI0 (pc' := 65) kX6_here vX6_here lk_X6_56 ⟨Nat.le_of_ble_eq_true rfl, Nat.le_of_ble_eq_true rfl⟩ tb53 vq6 rfl rfl (s_X6_hereP (b := bdB true) (κ := h) hF.2.2.2 (Fr.rf hF.2.1) g (sgE g p) (by rw [hF.cell 32 rfl (fun _ => rfl), hF.1 53 2 rfl rfl]; exact hg) (by omega) (by omega)) dX6_readStage_1.2.2.2.1 (Nat.le_of_ble_eq_true rfl) rfl ?_
          rintro r62 z62 ⟨hz62, p62⟩; subst z62
          refine zW_bipush (pc' := 67) dX6_readStage_1.2.2.2.2 rfl rfl ?_
          refine zV_cm_eq (tgt := 79) (pc' := 70) dX6_readStage_2.1.1.1 rfl rfl ⟨by omega, by omega⟩ ⟨by omega, by omega⟩ (fun c67 => ?_) (fun c67 => ?_)
          · exact zV_vret rfl dX6_readStage_2.2.2 ⟨hF, by refine ⟨by omega, by omega, by omega, by omega, by omega, by omega, ?_⟩; first | exact sqf | exact (fun z => absurd z (by omega))⟩
          · refine zW_aload_n (pc' := 71) dX6_readStage_2.1.1.2 rfl rfl ?_
            refine zW_iconst (pc' := 72) dX6_readStage_2.1.2.1 rfl ?_
            refine zW_aload_n (pc' := 73) dX6_readStage_2.1.2.2 rfl rfl ?_
            refine zG_int (pc' := 76) fg_X6_29 tb53 rfl dX6_readStage_2.2.1.1 rfl ?_
            have e73 := hF.rh 53 3
            refine cvV2 (pc' := 79) kX6_tell vX6_tell lk_X6_59 ⟨Nat.le_of_ble_eq_true rfl, Nat.le_of_ble_eq_true rfl⟩ tb53 vq6 rfl rfl (s_X6_tellP hF.2.1 hF.2.2.1 hF.2.2.2 _ ⟨by omega, by omega⟩ _ ⟨by omega, by omega⟩) dX6_readStage_2.2.1.2 (Nat.le_of_ble_eq_true rfl) rfl ?_
            rintro r76 h ⟨hF1, p76⟩; replace hF := hF.tr hF1 rfl
            have t76_53_3 := hF1.1 53 3 rfl rfl
            have t76_49_0 := hF1.1 49 0 rfl rfl
            have t76_49_1 := hF1.1 49 1 rfl rfl
            exact zV_vret rfl dX6_readStage_2.2.2 ⟨hF, by refine ⟨by omega, by omega, by omega, by omega, by omega, by omega, ?_⟩; first | exact sqf | exact (fun z => absurd z (by omega))⟩
    · refine zW_aload_n (pc' := 39) dX6_readStage_1.1.1.2.1 rfl rfl ?_
      refine zW_iload_n (pc' := 40) dX6_readStage_1.1.1.2.2 rfl rfl ?_
      have y40_31_1 := hF.1 31 1 rfl rfl
      have y40_53_2 := hF.1 53 2 rfl rfl
      refine cvV1 (pc' := 43) kX6_readNumbers vX6_readNumbers lk_X6_52 ⟨Nat.le_of_ble_eq_true rfl, Nat.le_of_ble_eq_true rfl⟩ tb53 vq6 rfl rfl (s_X6_readNumbersQ hF.2.1 hF.2.2.1 hF.2.2.2 _ ⟨by omega, by omega⟩ g (p + 2) (m + 1) (κ 51 (m + 1).toNat) (by rw [hF.cell 32 rfl (fun _ => rfl), hF.1 53 2 rfl rfl]; exact hg) (by omega) (by omega) (by omega) hX ⟨by omega, by omega, by omega⟩ (by first | exact ⟨e2x, by omega, by omega⟩ | (exfalso; omega))) dX6_readStage_1.1.2.1.1 (Nat.le_of_ble_eq_true rfl) rfl ?_
      rintro r40 h ⟨hF1, p40⟩; replace hF := hF.tr hF1 rfl
      have t40_49_0 := hF1.1 49 0 rfl rfl
      have t40_49_1 := hF1.1 49 1 rfl rfl
      first | (have z40 := p40; have nbx : nbF g (g p) (p + 2) = mnF g (p + 2) (xvv 102 r1.toNat) (xvv 103 r1.toNat) (xvv 104 r1.toNat) (xvv 105 r1.toNat) ∧ nbE g (g p) (p + 2) = mnE g (p + 2) (xvv 102 r1.toNat) := (by have z := nb_kind (g := g) (p := p + 2) r1.toNat (by omega); rw [show r1.toNat = (kd (g p)).toNat by omega] at z ⊢; rw [kd_s (by omega)] at z; exact z)) | skip
      first | (have z40 := p40; have nlx : nbL g (g p) (p + 2) = pnL g (p + 2) (xvv 102 r1.toNat) := (by have z := nl_kind (g := g) (p := p + 2) r1.toNat (by omega); rw [show r1.toNat = (kd (g p)).toNat by omega] at z ⊢; rw [kd_s (by omega)] at z; exact z); have sqf : SQ g p κ h m := lq.sq (hF1.cell 50 rfl (fun _ => rfl)) p40.2.2.2.2.2.2 p40.2.2.2.2.2.1 nlx (fun _ => z0)) | skip
      refine zW_aload_n (pc' := 44) dX6_readStage_1.1.2.1.2 rfl rfl ?_
      refine zG_int (pc' := 47) fg_X6_32 tb53 rfl dX6_readStage_1.1.2.2.1 rfl ?_
      have e44 := hF.rh 53 4
      refine zV_if_ne (tgt := 79) (pc' := 50) dX6_readStage_1.1.2.2.2 rfl rfl ⟨by omega, by omega⟩ (fun c47 => ?_) (fun c47 => ?_)
      · exact zV_vret rfl dX6_readStage_2.2.2 ⟨hF, by refine ⟨by omega, by omega, by omega, by omega, by omega, by omega, ?_⟩; first | exact sqf | exact (fun z => absurd z (by omega))⟩
      · have sf2 := sFc g (sgE g p) 59
        refine zW_aload_n (pc' := 51) dX6_readStage_1.2.1.1.1 rfl rfl ?_
        refine zG_int (pc' := 54) fg_X6_29 tb53 rfl dX6_readStage_1.2.1.1.2 rfl ?_
        have e51 := hF.rh 53 3
        refine zW_aload_n (pc' := 55) dX6_readStage_1.2.1.2.1 rfl rfl ?_
        refine zGm (pc' := 58) hF rfl rfl fg_X6_25 tb53 rfl dX6_readStage_1.2.1.2.2 rfl ?_
        have e55 : -2147483648 ≤ κ 53 2 ∧ κ 53 2 ≤ 2147483647 := by rw [← hF.1 53 2 rfl rfl]; exact hF.rh 53 2
        refine zV_cm_ge (tgt := 79) (pc' := 61) dX6_readStage_1.2.2.1.1 rfl rfl ⟨by omega, by omega⟩ ⟨by omega, by omega⟩ (fun c58 => ?_) (fun c58 => ?_)
        · exact zV_vret rfl dX6_readStage_2.2.2 ⟨hF, by refine ⟨by omega, by omega, by omega, by omega, by omega, by omega, ?_⟩; first | exact sqf | exact (fun z => absurd z (by omega))⟩
        · refine zW_aload_n (pc' := 62) dX6_readStage_1.2.2.1.2 rfl rfl ?_
          have y62_31_1 := hF.1 31 1 rfl rfl
          have y62_53_2 := hF.1 53 2 rfl rfl
          refine cvI0 (pc' := 65) kX6_here vX6_here lk_X6_56 ⟨Nat.le_of_ble_eq_true rfl, Nat.le_of_ble_eq_true rfl⟩ tb53 vq6 rfl rfl (s_X6_hereP (b := bdB true) (κ := h) hF.2.2.2 (Fr.rf hF.2.1) g (sgE g p) (by rw [hF.cell 32 rfl (fun _ => rfl), hF.1 53 2 rfl rfl]; exact hg) (by omega) (by omega)) dX6_readStage_1.2.2.2.1 (Nat.le_of_ble_eq_true rfl) rfl ?_
          rintro r62 z62 ⟨hz62, p62⟩; subst z62
          refine zW_bipush (pc' := 67) dX6_readStage_1.2.2.2.2 rfl rfl ?_
          refine zV_cm_eq (tgt := 79) (pc' := 70) dX6_readStage_2.1.1.1 rfl rfl ⟨by omega, by omega⟩ ⟨by omega, by omega⟩ (fun c67 => ?_) (fun c67 => ?_)
          · exact zV_vret rfl dX6_readStage_2.2.2 ⟨hF, by refine ⟨by omega, by omega, by omega, by omega, by omega, by omega, ?_⟩; first | exact sqf | exact (fun z => absurd z (by omega))⟩
          · refine zW_aload_n (pc' := 71) dX6_readStage_2.1.1.2 rfl rfl ?_
            refine zW_iconst (pc' := 72) dX6_readStage_2.1.2.1 rfl ?_
            refine zW_aload_n (pc' := 73) dX6_readStage_2.1.2.2 rfl rfl ?_
            refine zG_int (pc' := 76) fg_X6_29 tb53 rfl dX6_readStage_2.2.1.1 rfl ?_
            have e73 := hF.rh 53 3
            refine cvV2 (pc' := 79) kX6_tell vX6_tell lk_X6_59 ⟨Nat.le_of_ble_eq_true rfl, Nat.le_of_ble_eq_true rfl⟩ tb53 vq6 rfl rfl (s_X6_tellP hF.2.1 hF.2.2.1 hF.2.2.2 _ ⟨by omega, by omega⟩ _ ⟨by omega, by omega⟩) dX6_readStage_2.2.1.2 (Nat.le_of_ble_eq_true rfl) rfl ?_
            rintro r76 h ⟨hF1, p76⟩; replace hF := hF.tr hF1 rfl
            have t76_53_3 := hF1.1 53 3 rfl rfl
            have t76_49_0 := hF1.1 49 0 rfl rfl
            have t76_49_1 := hF1.1 49 1 rfl rfl
            exact zV_vret rfl dX6_readStage_2.2.2 ⟨hF, by refine ⟨by omega, by omega, by omega, by omega, by omega, by omega, ?_⟩; first | exact sqf | exact (fun z => absurd z (by omega))⟩
  · have z0 : h 53 4 = 0 := by omega
    have z8 := e8.symm.trans z0
    have kl := lFz (sq_0l z8) hp0
    have gs : sgF g p (κ 49 0) (κ 49 1) = nbF g (g p) (p + 2) := sq_z z8
    have s49b := s49 z0
    have a2 := i8 z0
    have m11 : m ≤ 11 := by have a := lFc g p (κ 49 0) (κ 49 1); have b := sq_0l z8; omega
    have p2n : p + 2 ≤ κ 53 2 := by omega
    have e2x : h 51 (m + 1 + 1).toNat = κ 51 (m + 1).toNat := (lq z0).2.2.1
    clear i8 s49 e8 z8
    refine zW_iload_n (pc' := 19) dX6_readStage_0.2.1.1.2 rfl rfl ?_
    refine zW_bipush (pc' := 21) dX6_readStage_0.2.1.2.1 rfl rfl ?_
    refine zV_cm_ne (tgt := 31) (pc' := 24) dX6_readStage_0.2.1.2.2 rfl rfl ⟨by omega, by omega⟩ ⟨by omega, by omega⟩ (fun c21 => ?_) (fun c21 => ?_)
    · first | (have z1 : h 53 4 ≠ 0 := (by omega); have gs : sgF g p (κ 49 0) (κ 49 1) = sq (lF g p (κ 49 0) (κ 49 1)) (sF g (p + 1) 58) := sq_m (fun z => z1 (e8.trans z)); clear i8 s49) | skip
      refine zW_aload_n (pc' := 32) dX6_readStage_0.2.2.2.2 rfl rfl ?_
      refine zG_int (pc' := 35) fg_X6_32 tb53 rfl dX6_readStage_1.1.1.1.1 rfl ?_
      have e32 := hF.rh 53 4
      refine zV_if_ne (tgt := 43) (pc' := 38) dX6_readStage_1.1.1.1.2 rfl rfl ⟨by omega, by omega⟩ (fun c35 => ?_) (fun c35 => ?_)
      · first | (have z40 := p40; have nbx : nbF g (g p) (p + 2) = mnF g (p + 2) (xvv 102 r1.toNat) (xvv 103 r1.toNat) (xvv 104 r1.toNat) (xvv 105 r1.toNat) ∧ nbE g (g p) (p + 2) = mnE g (p + 2) (xvv 102 r1.toNat) := (by have z := nb_kind (g := g) (p := p + 2) r1.toNat (by omega); rw [show r1.toNat = (kd (g p)).toNat by omega] at z ⊢; rw [kd_s (by omega)] at z; exact z)) | skip
        first | (have z40 := p40; have nlx : nbL g (g p) (p + 2) = pnL g (p + 2) (xvv 102 r1.toNat) := (by have z := nl_kind (g := g) (p := p + 2) r1.toNat (by omega); rw [show r1.toNat = (kd (g p)).toNat by omega] at z ⊢; rw [kd_s (by omega)] at z; exact z); have sqf : SQ g p κ h m := lq.sq (hF1.cell 50 rfl (fun _ => rfl)) p40.2.2.2.2.2.2 p40.2.2.2.2.2.1 nlx (fun _ => z0)) | skip
        refine zW_aload_n (pc' := 44) dX6_readStage_1.1.2.1.2 rfl rfl ?_
        refine zG_int (pc' := 47) fg_X6_32 tb53 rfl dX6_readStage_1.1.2.2.1 rfl ?_
        have e44 := hF.rh 53 4
        refine zV_if_ne (tgt := 79) (pc' := 50) dX6_readStage_1.1.2.2.2 rfl rfl ⟨by omega, by omega⟩ (fun c47 => ?_) (fun c47 => ?_)
        · exact zV_vret rfl dX6_readStage_2.2.2 ⟨hF, by refine ⟨by omega, by omega, by omega, by omega, by omega, by omega, ?_⟩; first | exact sqf | exact (fun z => absurd z (by omega))⟩
        · have sf2 := sFc g (sgE g p) 59
          refine zW_aload_n (pc' := 51) dX6_readStage_1.2.1.1.1 rfl rfl ?_
          refine zG_int (pc' := 54) fg_X6_29 tb53 rfl dX6_readStage_1.2.1.1.2 rfl ?_
          have e51 := hF.rh 53 3
          refine zW_aload_n (pc' := 55) dX6_readStage_1.2.1.2.1 rfl rfl ?_
          refine zGm (pc' := 58) hF rfl rfl fg_X6_25 tb53 rfl dX6_readStage_1.2.1.2.2 rfl ?_
          have e55 : -2147483648 ≤ κ 53 2 ∧ κ 53 2 ≤ 2147483647 := by rw [← hF.1 53 2 rfl rfl]; exact hF.rh 53 2
          refine zV_cm_ge (tgt := 79) (pc' := 61) dX6_readStage_1.2.2.1.1 rfl rfl ⟨by omega, by omega⟩ ⟨by omega, by omega⟩ (fun c58 => ?_) (fun c58 => ?_)
          · exact zV_vret rfl dX6_readStage_2.2.2 ⟨hF, by refine ⟨by omega, by omega, by omega, by omega, by omega, by omega, ?_⟩; first | exact sqf | exact (fun z => absurd z (by omega))⟩
          · refine zW_aload_n (pc' := 62) dX6_readStage_1.2.2.1.2 rfl rfl ?_
            have y62_31_1 := hF.1 31 1 rfl rfl
            have y62_53_2 := hF.1 53 2 rfl rfl
            refine cvI0 (pc' := 65) kX6_here vX6_here lk_X6_56 ⟨Nat.le_of_ble_eq_true rfl, Nat.le_of_ble_eq_true rfl⟩ tb53 vq6 rfl rfl (s_X6_hereP (b := bdB true) (κ := h) hF.2.2.2 (Fr.rf hF.2.1) g (sgE g p) (by rw [hF.cell 32 rfl (fun _ => rfl), hF.1 53 2 rfl rfl]; exact hg) (by omega) (by omega)) dX6_readStage_1.2.2.2.1 (Nat.le_of_ble_eq_true rfl) rfl ?_
            rintro r62 z62 ⟨hz62, p62⟩; subst z62
            refine zW_bipush (pc' := 67) dX6_readStage_1.2.2.2.2 rfl rfl ?_
            refine zV_cm_eq (tgt := 79) (pc' := 70) dX6_readStage_2.1.1.1 rfl rfl ⟨by omega, by omega⟩ ⟨by omega, by omega⟩ (fun c67 => ?_) (fun c67 => ?_)
            · exact zV_vret rfl dX6_readStage_2.2.2 ⟨hF, by refine ⟨by omega, by omega, by omega, by omega, by omega, by omega, ?_⟩; first | exact sqf | exact (fun z => absurd z (by omega))⟩
            · refine zW_aload_n (pc' := 71) dX6_readStage_2.1.1.2 rfl rfl ?_
              refine zW_iconst (pc' := 72) dX6_readStage_2.1.2.1 rfl ?_
              refine zW_aload_n (pc' := 73) dX6_readStage_2.1.2.2 rfl rfl ?_
              refine zG_int (pc' := 76) fg_X6_29 tb53 rfl dX6_readStage_2.2.1.1 rfl ?_
              have e73 := hF.rh 53 3
              refine cvV2 (pc' := 79) kX6_tell vX6_tell lk_X6_59 ⟨Nat.le_of_ble_eq_true rfl, Nat.le_of_ble_eq_true rfl⟩ tb53 vq6 rfl rfl (s_X6_tellP hF.2.1 hF.2.2.1 hF.2.2.2 _ ⟨by omega, by omega⟩ _ ⟨by omega, by omega⟩) dX6_readStage_2.2.1.2 (Nat.le_of_ble_eq_true rfl) rfl ?_
              rintro r76 h ⟨hF1, p76⟩; replace hF := hF.tr hF1 rfl
              have t76_53_3 := hF1.1 53 3 rfl rfl
              have t76_49_0 := hF1.1 49 0 rfl rfl
              have t76_49_1 := hF1.1 49 1 rfl rfl
              exact zV_vret rfl dX6_readStage_2.2.2 ⟨hF, by refine ⟨by omega, by omega, by omega, by omega, by omega, by omega, ?_⟩; first | exact sqf | exact (fun z => absurd z (by omega))⟩
      · refine zW_aload_n (pc' := 39) dX6_readStage_1.1.1.2.1 rfl rfl ?_
        refine zW_iload_n (pc' := 40) dX6_readStage_1.1.1.2.2 rfl rfl ?_
        have y40_31_1 := hF.1 31 1 rfl rfl
        have y40_53_2 := hF.1 53 2 rfl rfl
        refine cvV1 (pc' := 43) kX6_readNumbers vX6_readNumbers lk_X6_52 ⟨Nat.le_of_ble_eq_true rfl, Nat.le_of_ble_eq_true rfl⟩ tb53 vq6 rfl rfl (s_X6_readNumbersQ hF.2.1 hF.2.2.1 hF.2.2.2 _ ⟨by omega, by omega⟩ g (p + 2) (m + 1) (κ 51 (m + 1).toNat) (by rw [hF.cell 32 rfl (fun _ => rfl), hF.1 53 2 rfl rfl]; exact hg) (by omega) (by omega) (by omega) hX ⟨by omega, by omega, by omega⟩ (by first | exact ⟨e2x, by omega, by omega⟩ | (exfalso; omega))) dX6_readStage_1.1.2.1.1 (Nat.le_of_ble_eq_true rfl) rfl ?_
        rintro r40 h ⟨hF1, p40⟩; replace hF := hF.tr hF1 rfl
        have t40_49_0 := hF1.1 49 0 rfl rfl
        have t40_49_1 := hF1.1 49 1 rfl rfl
        first | (have z40 := p40; have nbx : nbF g (g p) (p + 2) = mnF g (p + 2) (xvv 102 r1.toNat) (xvv 103 r1.toNat) (xvv 104 r1.toNat) (xvv 105 r1.toNat) ∧ nbE g (g p) (p + 2) = mnE g (p + 2) (xvv 102 r1.toNat) := (by have z := nb_kind (g := g) (p := p + 2) r1.toNat (by omega); rw [show r1.toNat = (kd (g p)).toNat by omega] at z ⊢; rw [kd_s (by omega)] at z; exact z)) | skip
        first | (have z40 := p40; have nlx : nbL g (g p) (p + 2) = pnL g (p + 2) (xvv 102 r1.toNat) := (by have z := nl_kind (g := g) (p := p + 2) r1.toNat (by omega); rw [show r1.toNat = (kd (g p)).toNat by omega] at z ⊢; rw [kd_s (by omega)] at z; exact z); have sqf : SQ g p κ h m := lq.sq (hF1.cell 50 rfl (fun _ => rfl)) p40.2.2.2.2.2.2 p40.2.2.2.2.2.1 nlx (fun _ => z0)) | skip
        refine zW_aload_n (pc' := 44) dX6_readStage_1.1.2.1.2 rfl rfl ?_
        refine zG_int (pc' := 47) fg_X6_32 tb53 rfl dX6_readStage_1.1.2.2.1 rfl ?_
        have e44 := hF.rh 53 4
        refine zV_if_ne (tgt := 79) (pc' := 50) dX6_readStage_1.1.2.2.2 rfl rfl ⟨by omega, by omega⟩ (fun c47 => ?_) (fun c47 => ?_)
        · exact zV_vret rfl dX6_readStage_2.2.2 ⟨hF, by refine ⟨by omega, by omega, by omega, by omega, by omega, by omega, ?_⟩; first | exact sqf | exact (fun z => absurd z (by omega))⟩
        · have sf2 := sFc g (sgE g p) 59
          refine zW_aload_n (pc' := 51) dX6_readStage_1.2.1.1.1 rfl rfl ?_
          refine zG_int (pc' := 54) fg_X6_29 tb53 rfl dX6_readStage_1.2.1.1.2 rfl ?_
          have e51 := hF.rh 53 3
          refine zW_aload_n (pc' := 55) dX6_readStage_1.2.1.2.1 rfl rfl ?_
          refine zGm (pc' := 58) hF rfl rfl fg_X6_25 tb53 rfl dX6_readStage_1.2.1.2.2 rfl ?_
          have e55 : -2147483648 ≤ κ 53 2 ∧ κ 53 2 ≤ 2147483647 := by rw [← hF.1 53 2 rfl rfl]; exact hF.rh 53 2
          refine zV_cm_ge (tgt := 79) (pc' := 61) dX6_readStage_1.2.2.1.1 rfl rfl ⟨by omega, by omega⟩ ⟨by omega, by omega⟩ (fun c58 => ?_) (fun c58 => ?_)
          · exact zV_vret rfl dX6_readStage_2.2.2 ⟨hF, by refine ⟨by omega, by omega, by omega, by omega, by omega, by omega, ?_⟩; first | exact sqf | exact (fun z => absurd z (by omega))⟩
          · refine zW_aload_n (pc' := 62) dX6_readStage_1.2.2.1.2 rfl rfl ?_
            have y62_31_1 := hF.1 31 1 rfl rfl
            have y62_53_2 := hF.1 53 2 rfl rfl
            refine cvI0 (pc' := 65) kX6_here vX6_here lk_X6_56 ⟨Nat.le_of_ble_eq_true rfl, Nat.le_of_ble_eq_true rfl⟩ tb53 vq6 rfl rfl (s_X6_hereP (b := bdB true) (κ := h) hF.2.2.2 (Fr.rf hF.2.1) g (sgE g p) (by rw [hF.cell 32 rfl (fun _ => rfl), hF.1 53 2 rfl rfl]; exact hg) (by omega) (by omega)) dX6_readStage_1.2.2.2.1 (Nat.le_of_ble_eq_true rfl) rfl ?_
            rintro r62 z62 ⟨hz62, p62⟩; subst z62
            refine zW_bipush (pc' := 67) dX6_readStage_1.2.2.2.2 rfl rfl ?_
            refine zV_cm_eq (tgt := 79) (pc' := 70) dX6_readStage_2.1.1.1 rfl rfl ⟨by omega, by omega⟩ ⟨by omega, by omega⟩ (fun c67 => ?_) (fun c67 => ?_)
            · exact zV_vret rfl dX6_readStage_2.2.2 ⟨hF, by refine ⟨by omega, by omega, by omega, by omega, by omega, by omega, ?_⟩; first | exact sqf | exact (fun z => absurd z (by omega))⟩
            · refine zW_aload_n (pc' := 71) dX6_readStage_2.1.1.2 rfl rfl ?_
              refine zW_iconst (pc' := 72) dX6_readStage_2.1.2.1 rfl ?_
              refine zW_aload_n (pc' := 73) dX6_readStage_2.1.2.2 rfl rfl ?_
              refine zG_int (pc' := 76) fg_X6_29 tb53 rfl dX6_readStage_2.2.1.1 rfl ?_
              have e73 := hF.rh 53 3
              refine cvV2 (pc' := 79) kX6_tell vX6_tell lk_X6_59 ⟨Nat.le_of_ble_eq_true rfl, Nat.le_of_ble_eq_true rfl⟩ tb53 vq6 rfl rfl (s_X6_tellP hF.2.1 hF.2.2.1 hF.2.2.2 _ ⟨by omega, by omega⟩ _ ⟨by omega, by omega⟩) dX6_readStage_2.2.1.2 (Nat.le_of_ble_eq_true rfl) rfl ?_
              rintro r76 h ⟨hF1, p76⟩; replace hF := hF.tr hF1 rfl
              have t76_53_3 := hF1.1 53 3 rfl rfl
              have t76_49_0 := hF1.1 49 0 rfl rfl
              have t76_49_1 := hF1.1 49 1 rfl rfl
              exact zV_vret rfl dX6_readStage_2.2.2 ⟨hF, by refine ⟨by omega, by omega, by omega, by omega, by omega, by omega, ?_⟩; first | exact sqf | exact (fun z => absurd z (by omega))⟩
    · refine zW_aload_n (pc' := 25) dX6_readStage_0.2.2.1.1 rfl rfl ?_
      have y25_31_1 := hF.1 31 1 rfl rfl
      have y25_53_2 := hF.1 53 2 rfl rfl
      refine cvV0 (pc' := 28) kX6_readPoints vX6_readPoints lk_X6_49 ⟨Nat.le_of_ble_eq_true rfl, Nat.le_of_ble_eq_true rfl⟩ tb53 vq6 rfl rfl (s_X6_readPointsQ hF.2.1 hF.2.2.1 hF.2.2.2 g (p + 2) (m + 1) (κ 51 (m + 1).toNat) (by rw [hF.cell 32 rfl (fun _ => rfl), hF.1 53 2 rfl rfl]; exact hg) (by omega) (by omega) (by omega) ⟨by omega, by omega, by omega⟩ (by first | exact ⟨e2x, by omega, by omega, by omega⟩ | (exfalso; omega))) dX6_readStage_0.2.2.1.2 (Nat.le_of_ble_eq_true rfl) rfl ?_
      rintro r25 h ⟨hF1, p25⟩; replace hF := hF.tr hF1 rfl
      have t25_49_0 := hF1.1 49 0 rfl rfl
      have t25_49_1 := hF1.1 49 1 rfl rfl
      have nbx : nbF g (g p) (p + 2) = cuF g 200 (p + 2) (-1) ∧ nbE g (g p) (p + 2) = cuE g 200 (p + 2) (-1) := by rw [(kd_t (g p)).mp (by omega)]; exact nb_116
      have nlx : nbL g (g p) (p + 2) = cuL g 200 (p + 2) (-1) := by rw [(kd_t (g p)).mp (by omega)]; exact nl_116
      have sqf : SQ g p κ h m := lq.sq (hF1.cell 50 rfl (fun _ => rfl)) p25.2.2.2.2.2.2 p25.2.2.2.2.2.1 nlx (fun _ => z0)
      refine zV_goto 43 dX6_readStage_0.2.2.2.1 rfl ?_
      first | (have z40 := p40; have nbx : nbF g (g p) (p + 2) = mnF g (p + 2) (xvv 102 r1.toNat) (xvv 103 r1.toNat) (xvv 104 r1.toNat) (xvv 105 r1.toNat) ∧ nbE g (g p) (p + 2) = mnE g (p + 2) (xvv 102 r1.toNat) := (by have z := nb_kind (g := g) (p := p + 2) r1.toNat (by omega); rw [show r1.toNat = (kd (g p)).toNat by omega] at z ⊢; rw [kd_s (by omega)] at z; exact z)) | skip
      first | (have z40 := p40; have nlx : nbL g (g p) (p + 2) = pnL g (p + 2) (xvv 102 r1.toNat) := (by have z := nl_kind (g := g) (p := p + 2) r1.toNat (by omega); rw [show r1.toNat = (kd (g p)).toNat by omega] at z ⊢; rw [kd_s (by omega)] at z; exact z); have sqf : SQ g p κ h m := lq.sq (hF1.cell 50 rfl (fun _ => rfl)) p40.2.2.2.2.2.2 p40.2.2.2.2.2.1 nlx (fun _ => z0)) | skip
      refine zW_aload_n (pc' := 44) dX6_readStage_1.1.2.1.2 rfl rfl ?_
      refine zG_int (pc' := 47) fg_X6_32 tb53 rfl dX6_readStage_1.1.2.2.1 rfl ?_
      have e44 := hF.rh 53 4
      refine zV_if_ne (tgt := 79) (pc' := 50) dX6_readStage_1.1.2.2.2 rfl rfl ⟨by omega, by omega⟩ (fun c47 => ?_) (fun c47 => ?_)
      · exact zV_vret rfl dX6_readStage_2.2.2 ⟨hF, by refine ⟨by omega, by omega, by omega, by omega, by omega, by omega, ?_⟩; first | exact sqf | exact (fun z => absurd z (by omega))⟩
      · have sf2 := sFc g (sgE g p) 59
        refine zW_aload_n (pc' := 51) dX6_readStage_1.2.1.1.1 rfl rfl ?_
        refine zG_int (pc' := 54) fg_X6_29 tb53 rfl dX6_readStage_1.2.1.1.2 rfl ?_
        have e51 := hF.rh 53 3
        refine zW_aload_n (pc' := 55) dX6_readStage_1.2.1.2.1 rfl rfl ?_
        refine zGm (pc' := 58) hF rfl rfl fg_X6_25 tb53 rfl dX6_readStage_1.2.1.2.2 rfl ?_
        have e55 : -2147483648 ≤ κ 53 2 ∧ κ 53 2 ≤ 2147483647 := by rw [← hF.1 53 2 rfl rfl]; exact hF.rh 53 2
        refine zV_cm_ge (tgt := 79) (pc' := 61) dX6_readStage_1.2.2.1.1 rfl rfl ⟨by omega, by omega⟩ ⟨by omega, by omega⟩ (fun c58 => ?_) (fun c58 => ?_)
        · exact zV_vret rfl dX6_readStage_2.2.2 ⟨hF, by refine ⟨by omega, by omega, by omega, by omega, by omega, by omega, ?_⟩; first | exact sqf | exact (fun z => absurd z (by omega))⟩
        · refine zW_aload_n (pc' := 62) dX6_readStage_1.2.2.1.2 rfl rfl ?_
          have y62_31_1 := hF.1 31 1 rfl rfl
          have y62_53_2 := hF.1 53 2 rfl rfl
          refine cvI0 (pc' := 65) kX6_here vX6_here lk_X6_56 ⟨Nat.le_of_ble_eq_true rfl, Nat.le_of_ble_eq_true rfl⟩ tb53 vq6 rfl rfl (s_X6_hereP (b := bdB true) (κ := h) hF.2.2.2 (Fr.rf hF.2.1) g (sgE g p) (by rw [hF.cell 32 rfl (fun _ => rfl), hF.1 53 2 rfl rfl]; exact hg) (by omega) (by omega)) dX6_readStage_1.2.2.2.1 (Nat.le_of_ble_eq_true rfl) rfl ?_
          rintro r62 z62 ⟨hz62, p62⟩; subst z62
          refine zW_bipush (pc' := 67) dX6_readStage_1.2.2.2.2 rfl rfl ?_
          refine zV_cm_eq (tgt := 79) (pc' := 70) dX6_readStage_2.1.1.1 rfl rfl ⟨by omega, by omega⟩ ⟨by omega, by omega⟩ (fun c67 => ?_) (fun c67 => ?_)
          · exact zV_vret rfl dX6_readStage_2.2.2 ⟨hF, by refine ⟨by omega, by omega, by omega, by omega, by omega, by omega, ?_⟩; first | exact sqf | exact (fun z => absurd z (by omega))⟩
          · refine zW_aload_n (pc' := 71) dX6_readStage_2.1.1.2 rfl rfl ?_
            refine zW_iconst (pc' := 72) dX6_readStage_2.1.2.1 rfl ?_
            refine zW_aload_n (pc' := 73) dX6_readStage_2.1.2.2 rfl rfl ?_
            refine zG_int (pc' := 76) fg_X6_29 tb53 rfl dX6_readStage_2.2.1.1 rfl ?_
            have e73 := hF.rh 53 3
            refine cvV2 (pc' := 79) kX6_tell vX6_tell lk_X6_59 ⟨Nat.le_of_ble_eq_true rfl, Nat.le_of_ble_eq_true rfl⟩ tb53 vq6 rfl rfl (s_X6_tellP hF.2.1 hF.2.2.1 hF.2.2.2 _ ⟨by omega, by omega⟩ _ ⟨by omega, by omega⟩) dX6_readStage_2.2.1.2 (Nat.le_of_ble_eq_true rfl) rfl ?_
            rintro r76 h ⟨hF1, p76⟩; replace hF := hF.tr hF1 rfl
            have t76_53_3 := hF1.1 53 3 rfl rfl
            have t76_49_0 := hF1.1 49 0 rfl rfl
            have t76_49_1 := hF1.1 49 1 rfl rfl
            exact zV_vret rfl dX6_readStage_2.2.2 ⟨hF, by refine ⟨by omega, by omega, by omega, by omega, by omega, by omega, ?_⟩; first | exact sqf | exact (fun z => absurd z (by omega))⟩

abbrev q_X6_readQ (κ : Hp) (x1 : Int) (g : Int → Int) : Int → Hp → Prop := fun r h' => Fm [(53, 2), (53, 3), (53, 4), (49, 0), (49, 1), (50, 999), (51, 999), (52, 999)] κ h' ∧ ((-2147483648 ≤ r) ∧ (r ≤ 2147483647) ∧ (r = rdF g x1 ∧ (0 ≤ r → h' 49 0 = r ∧ h' 49 1 = rdA g x1) ∧ ARCI r g h'))
set_option maxHeartbeats 4000000 in
set_option maxRecDepth 20000 in
theorem s_X6_readQ {G : Ga} {κ : Hp} (hS : SI κ) (hR : KR κ) (hC : KC κ) (x1 : Int) (hx1 : 0 ≤ x1 ∧ x1 ≤ 120) (g : Int → Int) (hg : hr (κ 32) x1 = g) (hb : ∀ q : Int, -1 ≤ g q ∧ g q ≤ 255) (hn : x1 ≤ κ 31 1) (hX : XI G) : zM G mX6_read yX6_read [.inr (.inr 53), .inl x1] κ (q_X6_readQ κ x1 g) := by
  have f_31_1 := KCt hC
  have f_41_0 := KCm hC
  have f_45_0 := KCr0 hC
  have f_49_0 := KCd0 hC
  have main : ∀ N : Nat, (∀ (v2 v3 : Int) (h : Hp), Fm [(53, 2), (53, 3), (53, 4), (49, 0), (49, 1), (50, 999), (51, 999), (52, 999)] κ h → (0 ≤ v2 ∧ v2 ≤ 1) → (0 ≤ v3 ∧ v3 ≤ 13) → (h 53 2 = x1 ∧ h 53 4 ≤ 0 ∧ 0 ≤ h 53 3 ∧ h 53 3 ≤ 121) → (v2 = 1 → h 53 4 = 0 ∧ h 49 0 = v3 ∧ h 53 3 ≤ x1) → (v2 = 1 → AlI g x1 (h 53 3) (h 49 0) (h 49 1)) → (v2 = 0 → (h 53 4 ≠ 0 → h 53 4 = rdF g x1) ∧ (h 53 4 = 0 → h 49 0 = rdF g x1 ∧ h 49 1 = rdA g x1)) → (RDI v2 g v3 h) → (RDE v2 g h) → 22230 + 39 * (13 - v3) + 38 < (N : Int) → zV G mX6_read (q_X6_readQ κ x1 g) 34 [some (.inr (.inr 53)), some (.inl x1), some (.inl v2), some (.inl v3)] [] h) := by
    intro N
    induction N with
    | zero =>
      intro v2 v3 h hF g0 g1 gc0 gc1 gc2 gc3 gc4 gc5 hm
      exfalso; omega
    | succ N ih =>
      have k34 := ih
      intro v2 v3 h hF g0 g1 gc0 gc1 gc2 gc3 gc4 gc5 hm
      have b49 := KCd0 hF.2.2.2
      refine zW_iload_n (pc' := 35) dX6_read_1.1.2.1.1 rfl rfl ?_
      refine zV_if_eq (tgt := 88) (pc' := 38) dX6_read_1.1.2.1.2 rfl rfl ⟨by omega, by omega⟩ (fun c35 => ?_) (fun c35 => ?_)
      · refine zW_aload_n (pc' := 89) dX6_read_2.2.2.2.2 rfl rfl ?_
        refine zG_int (pc' := 92) fg_X6_32 tb53 rfl dX6_read_3.1.1.1.1 rfl ?_
        have e89 := hF.rh 53 4
        refine zV_if_ne (tgt := 105) (pc' := 95) dX6_read_3.1.1.1.2 rfl rfl ⟨by omega, by omega⟩ (fun c92 => ?_) (fun c92 => ?_)
        · refine zW_aload_n (pc' := 106) dX6_read_3.2.1.2 rfl rfl ?_
          refine zG_int (pc' := 109) fg_X6_32 tb53 rfl dX6_read_3.2.2.1 rfl ?_
          have e106 := hF.rh 53 4
          exact zV_iret rfl dX6_read_3.2.2.2 ⟨hF, by refine ⟨by omega, by omega, by omega, by omega, ?_⟩; first | exact (fun _ => gc5 (by omega) (by omega)) | exact (fun z => absurd z (by omega))⟩
        · refine zW_aload_n (pc' := 96) dX6_read_3.1.1.2 rfl rfl ?_
          refine zG_ref (pc' := 99) 49 fg_X6_12 tb53 rfl dX6_read_3.1.2.1 rfl ?_
          refine zG_int (pc' := 102) fg_X6_38 tb49 rfl dX6_read_3.1.2.2 rfl ?_
          have e99 := KCd0 hF.2.2.2
          refine zV_goto 109 dX6_read_3.2.1.1 rfl ?_
          exact zV_iret rfl dX6_read_3.2.2.2 ⟨hF, by refine ⟨by omega, by omega, by omega, by omega, ?_⟩; first | exact (fun _ => gc5 (by omega) (by omega)) | exact (fun z => absurd z (by omega))⟩
      · refine zW_iload_n (pc' := 39) dX6_read_1.1.2.2.1 rfl rfl ?_
        refine zW_bipush (pc' := 41) dX6_read_1.1.2.2.2 rfl rfl ?_
        refine zV_cm_gt (tgt := 88) (pc' := 44) dX6_read_1.2.1.1.1 rfl rfl ⟨by omega, by omega⟩ ⟨by omega, by omega⟩ (fun c41 => ?_) (fun c41 => ?_)
        · refine zW_aload_n (pc' := 89) dX6_read_2.2.2.2.2 rfl rfl ?_
          refine zG_int (pc' := 92) fg_X6_32 tb53 rfl dX6_read_3.1.1.1.1 rfl ?_
          have e89 := hF.rh 53 4
          refine zV_if_ne (tgt := 105) (pc' := 95) dX6_read_3.1.1.1.2 rfl rfl ⟨by omega, by omega⟩ (fun c92 => ?_) (fun c92 => ?_)
          · refine zW_aload_n (pc' := 106) dX6_read_3.2.1.2 rfl rfl ?_
            refine zG_int (pc' := 109) fg_X6_32 tb53 rfl dX6_read_3.2.2.1 rfl ?_
            have e106 := hF.rh 53 4
            exact zV_iret rfl dX6_read_3.2.2.2 ⟨hF, by refine ⟨by omega, by omega, by omega, by omega, ?_⟩; first | exact (fun _ => gc5 (by omega) (by omega)) | exact (fun z => absurd z (by omega))⟩
          · refine zW_aload_n (pc' := 96) dX6_read_3.1.1.2 rfl rfl ?_
            refine zG_ref (pc' := 99) 49 fg_X6_12 tb53 rfl dX6_read_3.1.2.1 rfl ?_
            refine zG_int (pc' := 102) fg_X6_38 tb49 rfl dX6_read_3.1.2.2 rfl ?_
            have e99 := KCd0 hF.2.2.2
            refine zV_goto 109 dX6_read_3.2.1.1 rfl ?_
            exact zV_iret rfl dX6_read_3.2.2.2 ⟨hF, by refine ⟨by omega, by omega, by omega, by omega, ?_⟩; first | exact (fun _ => gc5 (by omega) (by omega)) | exact (fun z => absurd z (by omega))⟩
        · obtain ⟨q, eq⟩ : ∃ q : Int, q = h 53 3 := ⟨_, rfl⟩
          obtain ⟨m, em⟩ : ∃ m : Int, m = h 49 0 := ⟨_, rfl⟩
          obtain ⟨f, ef⟩ : ∃ f : Int, f = h 49 1 := ⟨_, rfl⟩
          have al := gc2 (by omega)
          rw [← eq, ← em, ← ef] at al
          have mv : m = v3 := by omega
          have qx : q ≤ x1 := by omega
          have go := al.go (by omega)
          have l2 : h 53 2 = x1 := gc0.1
          obtain ⟨arc, qe, q51⟩ := gc4 (by omega)
          refine zW_aload_n (pc' := 45) dX6_read_1.2.1.1.2 rfl rfl ?_
          have y45_31_1 := hF.1 31 1 rfl rfl
          refine cvV0 (pc' := 48) kX6_readStage vX6_readStage lk_X6_35 ⟨Nat.le_of_ble_eq_true rfl, Nat.le_of_ble_eq_true rfl⟩ tb53 vq6 rfl rfl (s_X6_readStageQ hF.2.1 hF.2.2.1 hF.2.2.2 g q v3 (by rw [hF.cell 32 rfl (fun _ => rfl), gc0.1]; exact hg) (by omega) hb (by omega) (by omega) hX ⟨by omega, by omega, by omega⟩ ⟨q51, by have := arc.2.2.1; omega⟩) dX6_read_1.2.1.2.1 (Nat.le_of_ble_eq_true rfl) rfl ?_
          rintro r45 h ⟨hF1, p45⟩; replace hF := hF.tr hF1 rfl
          have t45_53_2 := hF1.1 53 2 rfl rfl
          have sqs := p45.2.2.2.2.2.2
          rw [← em, ← ef, l2] at p45
          have ra : h 53 4 ≠ 0 → h 53 4 = rdF g x1 := fun z => by by_cases c : sgF g q m f = 0; (have a := p45.2.1 c; have l : sgE g q < x1 := (by have := a.2.2.1; omega); have b := a.2.1 l; rw [b]; exact (go.2.2.1 c l (fun y => z (b.trans y))).symm); (rw [p45.1 c]; exact (go.1 c).symm)
          have rb : h 53 4 = 0 → sgF g q m f = 0 ∧ h 53 3 = sgE g q ∧ q + 2 ≤ h 53 3 := fun z => by by_cases c : sgF g q m f = 0; (have a := p45.2.1 c; exact ⟨c, a.1, a.2.2.2⟩); (exact absurd ((p45.1 c).symm.trans z) c)
          have rc := p45.2.2.1
          have rd : h 53 4 = 0 → ¬ h 53 3 < x1 → h 49 0 = rdF g x1 ∧ h 49 1 = rdA g x1 := fun z y => by have a := rb z; have b := go.2.1 a.1 (by omega); have c := rc z; exact ⟨c.1.trans b.1.symm, c.2.trans b.2.symm⟩
          have re : h 53 4 = 0 → h 53 3 < x1 → AlI g x1 (h 53 3 + 1) (h 49 0) (h 49 1) := fun z y => by have a := rb z; have c := rc z; have d := (p45.2.1 a.1).2.1 (by omega); rw [c.1, c.2, a.2.1]; exact go.2.2.2 a.1 (by omega) (d.symm.trans z) (by omega)
          have r9 : h 53 4 = 0 → h 49 0 = v3 + 1 := fun z => by have c := rc z; omega
          have mm := And.intro p45.2.2.2.1 (And.intro p45.2.2.2.2.1 p45.2.2.2.2.2.1)
          have arc1 : AF h (ARC g (v3 + 1) h) := fun z => ARC.push (p := q) (by omega) arc (eq.trans qe) (sqs z)
          have qn : AF h (h 53 3 = sgE g q) := fun z => (rb z).2.1
          have len1 : AF h (2 * h 51 (v3 + 1 + 1).toNat ≤ h 53 3) := fun z => by have a := rb z; have b := (sqs z).2.2.2.1; have c := nb_l (g := g) (c := g q) (p := q + 2) (by omega) (lFz (sq_0l (sq_0l a.1)) (by omega)) (sq_0r a.1); have d : sgE g q = nbE g (g q) (q + 2) := rfl; omega
          clear sqs
          clear p45 go al gc1 gc2 gc3 rb rc
          refine zW_aload_n (pc' := 49) dX6_read_1.2.1.2.2 rfl rfl ?_
          refine zG_int (pc' := 52) fg_X6_32 tb53 rfl dX6_read_1.2.2.1.1 rfl ?_
          have e49 := hF.rh 53 4
          refine zV_if_ne (tgt := 70) (pc' := 55) dX6_read_1.2.2.1.2 rfl rfl ⟨by omega, by omega⟩ (fun c52 => ?_) (fun c52 => ?_)
          · refine zW_iconst (pc' := 71) dX6_read_2.1.2.1.2 rfl ?_
            refine zW_istore_n (ls' := [_, _, _, _]) (pc' := 72) dX6_read_2.1.2.2.1 (by decide) rfl rfl rfl ?_
            refine zW_aload_n (pc' := 73) dX6_read_2.1.2.2.2 rfl rfl ?_
            refine zW_dup (pc' := 74) dX6_read_2.2.1.1.1 rfl rfl ?_
            refine zG_int (pc' := 77) fg_X6_29 tb53 rfl dX6_read_2.2.1.1.2 rfl ?_
            have e74 := hF.rh 53 3
            refine zW_iconst (pc' := 78) dX6_read_2.2.1.2.1 rfl ?_
            refine zW_iadd (pc' := 79) dX6_read_2.2.1.2.2 rfl ?_
            refine zPm (pc' := 82) hF (Or.inl rfl) (SI_irr hF.2.1 (Or.inl rfl) (fun _ _ => ⟨by omega, by omega⟩)) (KR_irr hF.2.2.1 rfl) (KC_irr hF.2.2.2 rfl) fp_X6_29 tb53 rfl dX6_read_2.2.2.1.1 rfl (fun h hF w79 => ?_)
            have t79_53_2 := congrFun (congrFun w79 53) 2
            rw [zwr_ne (Or.inr (by decide))] at t79_53_2
            have t79_53_3 := congrFun (congrFun w79 53) 3
            rw [zwr_eq] at t79_53_3
            have t79_53_4 := congrFun (congrFun w79 53) 4
            rw [zwr_ne (Or.inr (by decide))] at t79_53_4
            have t79_49_0 := congrFun (congrFun w79 49) 0
            rw [zwr_ne (Or.inl (by decide))] at t79_49_0
            have t79_49_1 := congrFun (congrFun w79 49) 1
            rw [zwr_ne (Or.inl (by decide))] at t79_49_1
            refine zW_iinc (ls' := [_, _, _, _]) (pc' := 85) dX6_read_2.2.2.1.2 rfl (by decide) rfl rfl rfl ?_
            refine zV_goto 34 dX6_read_2.2.2.2.1 rfl ?_
            exact k34 _ _ _ hF (by omega) (by omega) (by omega) (by omega) (by first | (intro z; exfalso; omega) | (intro z; rw [show h 53 3 = 0 by omega, show h 49 0 = 0 by omega, show h 49 1 = 0 by omega]; exact AlI.rf (by omega)) | (intro z; rw [t79_53_3, t79_49_0, t79_49_1]; exact re (by omega) (by omega))) (by first | omega | (intro z; have e0 : x1 = 0 := (by omega); have z1 : rdF g x1 = 0 := (if_pos e0); have z2 : rdA g x1 = 0 := (if_pos e0); omega)) (by first | exact (fun z => absurd z (by decide)) | exact RDI.z z51 (by omega) | exact RDI.nx (by omega) (arc1 (by omega)) (qn (by omega)) (eq.trans qe) (len1 (by omega)) w79) (by first | exact (fun z => absurd z (by decide)) | exact RDE.z z51 (by omega) | exact RDE.nx arc1 r9 w79) (by omega)
          · refine zW_aload_n (pc' := 56) dX6_read_1.2.2.2.1 rfl rfl ?_
            refine zG_int (pc' := 59) fg_X6_29 tb53 rfl dX6_read_1.2.2.2.2 rfl ?_
            have e56 := hF.rh 53 3
            refine zW_aload_n (pc' := 60) dX6_read_2.1.1.1.1 rfl rfl ?_
            refine zG_int (pc' := 63) fg_X6_25 tb53 rfl dX6_read_2.1.1.1.2 rfl ?_
            have e60 := hF.rh 53 2
            refine zV_cm_ge (tgt := 70) (pc' := 66) dX6_read_2.1.1.2.1 rfl rfl ⟨by omega, by omega⟩ ⟨by omega, by omega⟩ (fun c63 => ?_) (fun c63 => ?_)
            · refine zW_iconst (pc' := 71) dX6_read_2.1.2.1.2 rfl ?_
              refine zW_istore_n (ls' := [_, _, _, _]) (pc' := 72) dX6_read_2.1.2.2.1 (by decide) rfl rfl rfl ?_
              refine zW_aload_n (pc' := 73) dX6_read_2.1.2.2.2 rfl rfl ?_
              refine zW_dup (pc' := 74) dX6_read_2.2.1.1.1 rfl rfl ?_
              refine zG_int (pc' := 77) fg_X6_29 tb53 rfl dX6_read_2.2.1.1.2 rfl ?_
              have e74 := hF.rh 53 3
              refine zW_iconst (pc' := 78) dX6_read_2.2.1.2.1 rfl ?_
              refine zW_iadd (pc' := 79) dX6_read_2.2.1.2.2 rfl ?_
              refine zPm (pc' := 82) hF (Or.inl rfl) (SI_irr hF.2.1 (Or.inl rfl) (fun _ _ => ⟨by omega, by omega⟩)) (KR_irr hF.2.2.1 rfl) (KC_irr hF.2.2.2 rfl) fp_X6_29 tb53 rfl dX6_read_2.2.2.1.1 rfl (fun h hF w79 => ?_)
              have t79_53_2 := congrFun (congrFun w79 53) 2
              rw [zwr_ne (Or.inr (by decide))] at t79_53_2
              have t79_53_3 := congrFun (congrFun w79 53) 3
              rw [zwr_eq] at t79_53_3
              have t79_53_4 := congrFun (congrFun w79 53) 4
              rw [zwr_ne (Or.inr (by decide))] at t79_53_4
              have t79_49_0 := congrFun (congrFun w79 49) 0
              rw [zwr_ne (Or.inl (by decide))] at t79_49_0
              have t79_49_1 := congrFun (congrFun w79 49) 1
              rw [zwr_ne (Or.inl (by decide))] at t79_49_1
              refine zW_iinc (ls' := [_, _, _, _]) (pc' := 85) dX6_read_2.2.2.1.2 rfl (by decide) rfl rfl rfl ?_
              refine zV_goto 34 dX6_read_2.2.2.2.1 rfl ?_
              exact k34 _ _ _ hF (by omega) (by omega) (by omega) (by omega) (by first | (intro z; exfalso; omega) | (intro z; rw [show h 53 3 = 0 by omega, show h 49 0 = 0 by omega, show h 49 1 = 0 by omega]; exact AlI.rf (by omega)) | (intro z; rw [t79_53_3, t79_49_0, t79_49_1]; exact re (by omega) (by omega))) (by first | omega | (intro z; have e0 : x1 = 0 := (by omega); have z1 : rdF g x1 = 0 := (if_pos e0); have z2 : rdA g x1 = 0 := (if_pos e0); omega)) (by first | exact (fun z => absurd z (by decide)) | exact RDI.z z51 (by omega) | exact RDI.nx (by omega) (arc1 (by omega)) (qn (by omega)) (eq.trans qe) (len1 (by omega)) w79) (by first | exact (fun z => absurd z (by decide)) | exact RDE.z z51 (by omega) | exact RDE.nx arc1 r9 w79) (by omega)
            · refine zW_iconst (pc' := 67) dX6_read_2.1.1.2.2 rfl ?_
              refine zV_goto 71 dX6_read_2.1.2.1.1 rfl ?_
              refine zW_istore_n (ls' := [_, _, _, _]) (pc' := 72) dX6_read_2.1.2.2.1 (by decide) rfl rfl rfl ?_
              refine zW_aload_n (pc' := 73) dX6_read_2.1.2.2.2 rfl rfl ?_
              refine zW_dup (pc' := 74) dX6_read_2.2.1.1.1 rfl rfl ?_
              refine zG_int (pc' := 77) fg_X6_29 tb53 rfl dX6_read_2.2.1.1.2 rfl ?_
              have e74 := hF.rh 53 3
              refine zW_iconst (pc' := 78) dX6_read_2.2.1.2.1 rfl ?_
              refine zW_iadd (pc' := 79) dX6_read_2.2.1.2.2 rfl ?_
              refine zPm (pc' := 82) hF (Or.inl rfl) (SI_irr hF.2.1 (Or.inl rfl) (fun _ _ => ⟨by omega, by omega⟩)) (KR_irr hF.2.2.1 rfl) (KC_irr hF.2.2.2 rfl) fp_X6_29 tb53 rfl dX6_read_2.2.2.1.1 rfl (fun h hF w79 => ?_)
              have t79_53_2 := congrFun (congrFun w79 53) 2
              rw [zwr_ne (Or.inr (by decide))] at t79_53_2
              have t79_53_3 := congrFun (congrFun w79 53) 3
              rw [zwr_eq] at t79_53_3
              have t79_53_4 := congrFun (congrFun w79 53) 4
              rw [zwr_ne (Or.inr (by decide))] at t79_53_4
              have t79_49_0 := congrFun (congrFun w79 49) 0
              rw [zwr_ne (Or.inl (by decide))] at t79_49_0
              have t79_49_1 := congrFun (congrFun w79 49) 1
              rw [zwr_ne (Or.inl (by decide))] at t79_49_1
              refine zW_iinc (ls' := [_, _, _, _]) (pc' := 85) dX6_read_2.2.2.1.2 rfl (by decide) rfl rfl rfl ?_
              refine zV_goto 34 dX6_read_2.2.2.2.1 rfl ?_
              exact k34 _ _ _ hF (by omega) (by omega) (by omega) (by omega) (by first | (intro z; exfalso; omega) | (intro z; rw [show h 53 3 = 0 by omega, show h 49 0 = 0 by omega, show h 49 1 = 0 by omega]; exact AlI.rf (by omega)) | (intro z; rw [t79_53_3, t79_49_0, t79_49_1]; exact re (by omega) (by omega))) (by first | omega | (intro z; have e0 : x1 = 0 := (by omega); have z1 : rdF g x1 = 0 := (if_pos e0); have z2 : rdA g x1 = 0 := (if_pos e0); omega)) (by first | exact (fun z => absurd z (by decide)) | exact RDI.z z51 (by omega) | exact RDI.nx (by omega) (arc1 (by omega)) (qn (by omega)) (eq.trans qe) (len1 (by omega)) w79) (by first | exact (fun z => absurd z (by decide)) | exact RDE.z z51 (by omega) | exact RDE.nx arc1 r9 w79) (by omega)
  refine zM_of [some (.inr (.inr 53)), some (.inl x1), none, none] 2 rfl rfl (Nat.le_of_ble_eq_true rfl) rfl ?_
  refine (show ∀ h : Hp, Fm [(53, 2), (53, 3), (53, 4), (49, 0), (49, 1), (50, 999), (51, 999), (52, 999)] κ h → h = κ → zV G mX6_read (q_X6_readQ κ x1 g) 0 [some (.inr (.inr 53)), some (.inl x1), none, none] [] h from fun h hF hk0 => ?_) κ (Fm.rf hS hR hC) rfl
  refine zW_aload_n (pc' := 1) dX6_read_0.1.1.1.1 rfl rfl ?_
  refine zG_ref (pc' := 4) 49 fg_X6_12 tb53 rfl dX6_read_0.1.1.1.2 rfl ?_
  refine cvV0 (pc' := 7) kX7_clear vX7_clear lk_X6_22 ⟨Nat.le_of_ble_eq_true rfl, Nat.le_of_ble_eq_true rfl⟩ tb49 vq7 rfl rfl (s_X7_clearV49Q hF.2.1 hF.2.2.1 hF.2.2.2) dX6_read_0.1.1.2.1 (Nat.le_of_ble_eq_true rfl) rfl ?_
  rintro r4 h ⟨hF1, p4⟩; replace hF := hF.tr hF1 rfl
  have t4_53_2 := hF1.1 53 2 rfl rfl
  have t4_53_3 := hF1.1 53 3 rfl rfl
  have t4_53_4 := hF1.1 53 4 rfl rfl
  refine zW_aload_n (pc' := 8) dX6_read_0.1.1.2.2 rfl rfl ?_
  refine zW_iload_n (pc' := 9) dX6_read_0.1.2.1.1 rfl rfl ?_
  refine zPm (pc' := 12) hF (Or.inl rfl) (SI_irr hF.2.1 (Or.inl rfl) (fun _ _ => ⟨by omega, by omega⟩)) (KR_irr hF.2.2.1 rfl) (KC_irr hF.2.2.2 rfl) fp_X6_25 tb53 rfl dX6_read_0.1.2.1.2 rfl (fun h hF w9 => ?_)
  have t9_53_2 := congrFun (congrFun w9 53) 2
  rw [zwr_eq] at t9_53_2
  have t9_53_3 := congrFun (congrFun w9 53) 3
  rw [zwr_ne (Or.inr (by decide))] at t9_53_3
  have t9_53_4 := congrFun (congrFun w9 53) 4
  rw [zwr_ne (Or.inr (by decide))] at t9_53_4
  have t9_49_0 := congrFun (congrFun w9 49) 0
  rw [zwr_ne (Or.inl (by decide))] at t9_49_0
  have t9_49_1 := congrFun (congrFun w9 49) 1
  rw [zwr_ne (Or.inl (by decide))] at t9_49_1
  refine zW_aload_n (pc' := 13) dX6_read_0.1.2.2.1 rfl rfl ?_
  refine zW_iconst (pc' := 14) dX6_read_0.1.2.2.2 rfl ?_
  refine zPm (pc' := 17) hF (Or.inl rfl) (SI_irr hF.2.1 (Or.inl rfl) (fun _ _ => ⟨by omega, by omega⟩)) (KR_irr hF.2.2.1 rfl) (KC_irr hF.2.2.2 rfl) fp_X6_29 tb53 rfl dX6_read_0.2.1.1.1 rfl (fun h hF w14 => ?_)
  have t14_53_2 := congrFun (congrFun w14 53) 2
  rw [zwr_ne (Or.inr (by decide))] at t14_53_2
  have t14_53_3 := congrFun (congrFun w14 53) 3
  rw [zwr_eq] at t14_53_3
  have t14_53_4 := congrFun (congrFun w14 53) 4
  rw [zwr_ne (Or.inr (by decide))] at t14_53_4
  have t14_49_0 := congrFun (congrFun w14 49) 0
  rw [zwr_ne (Or.inl (by decide))] at t14_49_0
  have t14_49_1 := congrFun (congrFun w14 49) 1
  rw [zwr_ne (Or.inl (by decide))] at t14_49_1
  refine zW_aload_n (pc' := 18) dX6_read_0.2.1.1.2 rfl rfl ?_
  refine zW_iconst (pc' := 19) dX6_read_0.2.1.2.1 rfl ?_
  refine zPm (pc' := 22) hF (Or.inl rfl) (SI_irr hF.2.1 (Or.inl rfl) (fun _ _ => ⟨by omega, by omega⟩)) (KR_irr hF.2.2.1 rfl) (KC_irr hF.2.2.2 rfl) fp_X6_32 tb53 rfl dX6_read_0.2.1.2.2 rfl (fun h hF w19 => ?_)
  have t19_53_2 := congrFun (congrFun w19 53) 2
  rw [zwr_ne (Or.inr (by decide))] at t19_53_2
  have t19_53_3 := congrFun (congrFun w19 53) 3
  rw [zwr_ne (Or.inr (by decide))] at t19_53_3
  have t19_53_4 := congrFun (congrFun w19 53) 4
  rw [zwr_eq] at t19_53_4
  have t19_49_0 := congrFun (congrFun w19 49) 0
  rw [zwr_ne (Or.inl (by decide))] at t19_49_0
  have t19_49_1 := congrFun (congrFun w19 49) 1
  rw [zwr_ne (Or.inl (by decide))] at t19_49_1
  have z51 : h 51 1 = 0 := by rw [w19, zwr_ne (Or.inl (by decide)), w14, zwr_ne (Or.inl (by decide)), w9, zwr_ne (Or.inl (by decide))]; exact p4.2.2
  refine zW_iload_n (pc' := 23) dX6_read_0.2.2.1.1 rfl rfl ?_
  refine zV_if_le (tgt := 30) (pc' := 26) dX6_read_0.2.2.1.2 rfl rfl ⟨by omega, by omega⟩ (fun c23 => ?_) (fun c23 => ?_)
  · refine zW_iconst (pc' := 31) dX6_read_1.1.1.1.1 rfl ?_
    refine zW_istore_n (ls' := [_, _, _, _]) (pc' := 32) dX6_read_1.1.1.1.2 (by decide) rfl rfl rfl ?_
    refine zW_iconst (pc' := 33) dX6_read_1.1.1.2.1 rfl ?_
    refine zW_istore_n (ls' := [_, _, _, _]) (pc' := 34) dX6_read_1.1.1.2.2 (by decide) rfl rfl rfl ?_
    exact (main 10000000000000000000000000000000000000000) _ _ _ hF (by omega) (by omega) (by omega) (by omega) (by first | (intro z; exfalso; omega) | (intro z; rw [show h 53 3 = 0 by omega, show h 49 0 = 0 by omega, show h 49 1 = 0 by omega]; exact AlI.rf (by omega)) | (intro z; rw [t79_53_3, t79_49_0, t79_49_1]; exact re (by omega) (by omega))) (by first | omega | (intro z; have e0 : x1 = 0 := (by omega); have z1 : rdF g x1 = 0 := (if_pos e0); have z2 : rdA g x1 = 0 := (if_pos e0); omega)) (by first | exact (fun z => absurd z (by decide)) | exact RDI.z z51 (by omega) | exact RDI.nx (by omega) (arc1 (by omega)) (qn (by omega)) (eq.trans qe) (len1 (by omega)) w79) (by first | exact (fun z => absurd z (by decide)) | exact RDE.z z51 (by omega) | exact RDE.nx arc1 r9 w79) (by omega)
  · refine zW_iconst (pc' := 27) dX6_read_0.2.2.2.1 rfl ?_
    refine zV_goto 31 dX6_read_0.2.2.2.2 rfl ?_
    refine zW_istore_n (ls' := [_, _, _, _]) (pc' := 32) dX6_read_1.1.1.1.2 (by decide) rfl rfl rfl ?_
    refine zW_iconst (pc' := 33) dX6_read_1.1.1.2.1 rfl ?_
    refine zW_istore_n (ls' := [_, _, _, _]) (pc' := 34) dX6_read_1.1.1.2.2 (by decide) rfl rfl rfl ?_
    exact (main 10000000000000000000000000000000000000000) _ _ _ hF (by omega) (by omega) (by omega) (by omega) (by first | (intro z; exfalso; omega) | (intro z; rw [show h 53 3 = 0 by omega, show h 49 0 = 0 by omega, show h 49 1 = 0 by omega]; exact AlI.rf (by omega)) | (intro z; rw [t79_53_3, t79_49_0, t79_49_1]; exact re (by omega) (by omega))) (by first | omega | (intro z; have e0 : x1 = 0 := (by omega); have z1 : rdF g x1 = 0 := (if_pos e0); have z2 : rdA g x1 = 0 := (if_pos e0); omega)) (by first | exact (fun z => absurd z (by decide)) | exact RDI.z z51 (by omega) | exact RDI.nx (by omega) (arc1 (by omega)) (qn (by omega)) (eq.trans qe) (len1 (by omega)) w79) (by first | exact (fun z => absurd z (by decide)) | exact RDE.z z51 (by omega) | exact RDE.nx arc1 r9 w79) (by omega)
