abbrev q_X12_changed (κ : Hp)  : Int → Hp → Prop := fun r h' => Fm [(0, 21), (0, 23)] κ h' ∧ ((h' 0 23 = 0))
set_option maxHeartbeats 4000000 in
set_option maxRecDepth 20000 in
theorem s_X12_changed {G : Ga} {κ : Hp} (hS : SI κ) (hR : KR κ) (hC : KC κ)  : zM G mX12_changed yX12_changed [.inr (.inr 0)] κ (q_X12_changed κ) := by
  refine zM_of [some (.inr (.inr 0))] 0 rfl rfl (Nat.le_of_ble_eq_true rfl) rfl ?_
  refine (show ∀ h : Hp, Fm [(0, 21), (0, 23)] κ h → h = κ → zV G mX12_changed (q_X12_changed κ) 0 [some (.inr (.inr 0))] [] h from fun h hF hk0 => ?_) κ (Fm.rf hS hR hC) rfl
  refine zW_aload_n (pc' := 1) dX12_changed_0.1.1.1 rfl rfl ?_
  refine zW_iconst (pc' := 2) dX12_changed_0.1.1.2 rfl ?_
  refine zPmz (pc' := 5) hF (Or.inl rfl) (SI_irr hF.2.1 (Or.inl rfl) (fun _ _ => ⟨by omega, by omega⟩)) (KR_21 hF.2.2.1 (by omega)) (KC_irr hF.2.2.2 rfl) (by omega) fp_X12_212 tb0 rfl dX12_changed_0.1.2.1 rfl (fun h hF w2 => ?_)
  have t2_0_23 := congrFun (congrFun w2 0) 23
  rw [zwr_ne (Or.inr (by decide))] at t2_0_23
  refine zW_aload_n (pc' := 6) dX12_changed_0.1.2.2 rfl rfl ?_
  refine zW_iconst (pc' := 7) dX12_changed_0.2.1.1 rfl ?_
  refine zPmz (pc' := 10) hF (Or.inl rfl) (SI_irr hF.2.1 (Or.inr (Or.inl rfl)) (fun _ _ => ⟨by omega, by omega⟩)) (KR_irr hF.2.2.1 rfl) (KC_irr hF.2.2.2 rfl) (by omega) fp_X12_192 tb0 rfl dX12_changed_0.2.1.2 rfl (fun h hF w7 => ?_)
  have t7_0_23 := congrFun (congrFun w7 0) 23
  rw [zwr_eq] at t7_0_23
  exact zV_vret rfl dX12_changed_0.2.2 ⟨hF, by omega⟩

abbrev q_X12_types (κ : Hp) (x1 : Int) : Int → Hp → Prop := fun r h' => Fm [(0, 25), (12, 999)] κ h' ∧ ((h' 0 25 = κ 0 25 + 4))
set_option maxHeartbeats 4000000 in
set_option maxRecDepth 20000 in
theorem s_X12_types {G : Ga} {κ : Hp} (hS : SI κ) (hR : KR κ) (hC : KC κ) (x1 : Int) (ht : κ 0 25 ≤ 136) : zM G mX12_types yX12_types [.inr (.inr 0), .inl x1] κ (q_X12_types κ x1) := by
  have f_0_25 := KRt hR
  have main : ∀ N : Nat, (∀ (v2 : Int) (h : Hp), Fm [(0, 25), (12, 999)] κ h → (-1 ≤ v2 ∧ v2 ≤ 3) → (h 0 25 = κ 0 25 + (3 - v2)) → 3312 + 24 * (v2 - (-1)) + 23 < (N : Int) → zV G mX12_types (q_X12_types κ x1) 2 [some (.inr (.inr 0)), some (.inl x1), some (.inl v2)] [] h) := by
    intro N
    induction N with
    | zero =>
      intro v2 h hF g0 gc0 hm
      exfalso; omega
    | succ N ih =>
      have k2 := ih
      intro v2 h hF g0 gc0 hm
      refine zW_iload_n (pc' := 3) dX12_types_0.1.1.2.1 rfl rfl ?_
      refine zV_if_lt (tgt := 38) (pc' := 6) dX12_types_0.1.1.2.2 rfl rfl ⟨by omega, by omega⟩ (fun c3 => ?_) (fun c3 => ?_)
      · exact zV_vret rfl dX12_types_1.2.2.2 ⟨hF, by omega⟩
      · refine zW_aload_n (pc' := 7) dX12_types_0.1.2.1.1 rfl rfl ?_
        refine zG_ref (pc' := 10) 12 fg_X12_44 tb0 rfl dX12_types_0.1.2.1.2 rfl ?_
        refine zW_aload_n (pc' := 11) dX12_types_0.1.2.2.1 rfl rfl ?_
        refine zG_int (pc' := 14) fg_X12_116 tb0 rfl dX12_types_0.1.2.2.2 rfl ?_
        have e11 := KRt hF.2.2.1
        refine zW_iload_n (pc' := 15) dX12_types_0.2.1.1.1 rfl rfl ?_
        refine zW_bipush (pc' := 17) dX12_types_0.2.1.1.2 rfl rfl ?_
        refine zW_iload_n (pc' := 18) dX12_types_0.2.1.2.1 rfl rfl ?_
        refine zW_imul (pc' := 19) dX12_types_0.2.1.2.2 rfl ?_
        refine zW_ishrQ (pc' := 20) dX12_types_0.2.2.1.1 rfl (fun v19 e19 => ?_)
        unfold rng at e19
        refine zW_i2b (pc' := 21) dX12_types_0.2.2.1.2 rfl (fun v20 e20 => ?_)
        refine zSmb (pc' := 22) hF rfl ⟨(SI_irr hF.2.1 (Or.inl (key_of rfl _)) (fun _ _ => ⟨by omega, by omega⟩)), (KR_irr hF.2.2.1 rfl), (KC_irr hF.2.2.2 rfl)⟩ tb12 (by omega) (by omega) dX12_types_0.2.2.2.1 (by decide) rfl (fun h hF w21 => ?_)
        have t21_0_25 := congrFun (congrFun w21 0) 25
        rw [zwr_ne (Or.inl (by decide))] at t21_0_25
        refine zW_aload_n (pc' := 23) dX12_types_0.2.2.2.2 rfl rfl ?_
        refine zW_aload_n (pc' := 24) dX12_types_1.1.1.1 rfl rfl ?_
        refine zG_int (pc' := 27) fg_X12_116 tb0 rfl dX12_types_1.1.1.2 rfl ?_
        have e24 := KRt hF.2.2.1
        refine zW_iconst (pc' := 28) dX12_types_1.1.2.1 rfl ?_
        refine zW_iadd (pc' := 29) dX12_types_1.1.2.2 rfl ?_
        refine zPm (pc' := 32) hF (Or.inl rfl) (SI_irr hF.2.1 (Or.inl rfl) (fun _ _ => ⟨by omega, by omega⟩)) (KR_25 hF.2.2.1 (by omega)) (KC_irr hF.2.2.2 rfl) fp_X12_116 tb0 rfl dX12_types_1.2.1.1 rfl (fun h hF w29 => ?_)
        have t29_0_25 := congrFun (congrFun w29 0) 25
        rw [zwr_eq] at t29_0_25
        refine zW_iinc (ls' := [_, _, _]) (pc' := 35) dX12_types_1.2.1.2 rfl (by decide) rfl rfl rfl ?_
        refine zV_goto 2 dX12_types_1.2.2.1 rfl ?_
        exact k2 _ _ hF (by omega) (by omega) (by omega)
  refine zM_of [some (.inr (.inr 0)), some (.inl x1), none] 1 rfl rfl (Nat.le_of_ble_eq_true rfl) rfl ?_
  refine (show ∀ h : Hp, Fm [(0, 25), (12, 999)] κ h → h = κ → zV G mX12_types (q_X12_types κ x1) 0 [some (.inr (.inr 0)), some (.inl x1), none] [] h from fun h hF hk0 => ?_) κ (Fm.rf hS hR hC) rfl
  have y0_0_25 : h 0 25 = κ 0 25 := by rw [hk0]
  refine zW_iconst (pc' := 1) dX12_types_0.1.1.1.1 rfl ?_
  refine zW_istore_n (ls' := [_, _, _]) (pc' := 2) dX12_types_0.1.1.1.2 (by decide) rfl rfl rfl ?_
  exact (main 10000000000000000000000000000000000000000) _ _ hF (by omega) (by omega) (by omega)

abbrev q_X12_feed (κ : Hp) (x1 : Int) (x2 : Int) (x3 : Int) (x4 : Int) (x5 : Int) : Int → Hp → Prop := fun r h' => Fm [(0, 25), (12, 999)] κ h' ∧ (((κ 0 25 ≤ 120 ∧ r = κ 0 25 + 20 ∧ h' 0 25 = κ 0 25 + 20) ∨ (120 < κ 0 25 ∧ r = -1 ∧ h' 0 25 = κ 0 25)))
set_option maxHeartbeats 4000000 in
set_option maxRecDepth 20000 in
theorem s_X12_feed {G : Ga} {κ : Hp} (hS : SI κ) (hR : KR κ) (hC : KC κ) (x1 : Int) (x2 : Int) (x3 : Int) (x4 : Int) (x5 : Int) : zM G mX12_feed yX12_feed [.inr (.inr 0), .inl x1, .inl x2, .inl x3, .inl x4, .inl x5] κ (q_X12_feed κ x1 x2 x3 x4 x5) := by
  have f_0_25 := KRt hR
  refine zM_of [some (.inr (.inr 0)), some (.inl x1), some (.inl x2), some (.inl x3), some (.inl x4), some (.inl x5)] 0 rfl rfl (Nat.le_of_ble_eq_true rfl) rfl ?_
  refine (show ∀ h : Hp, Fm [(0, 25), (12, 999)] κ h → h = κ → zV G mX12_feed (q_X12_feed κ x1 x2 x3 x4 x5) 0 [some (.inr (.inr 0)), some (.inl x1), some (.inl x2), some (.inl x3), some (.inl x4), some (.inl x5)] [] h from fun h hF hk0 => ?_) κ (Fm.rf hS hR hC) rfl
  have y0_0_25 : h 0 25 = κ 0 25 := by rw [hk0]
  refine zW_aload_n (pc' := 1) dX12_feed_0.1.1.1.1 rfl rfl ?_
  refine zG_int (pc' := 4) fg_X12_116 tb0 rfl dX12_feed_0.1.1.1.2 rfl ?_
  have e1 := KRt hF.2.2.1
  refine zW_bipush (pc' := 6) dX12_feed_0.1.1.2.1 rfl rfl ?_
  refine zW_iadd (pc' := 7) dX12_feed_0.1.1.2.2 rfl ?_
  refine zW_sipush (pc' := 10) dX12_feed_0.1.2.1.1 rfl rfl ?_
  refine zV_cm_le (tgt := 15) (pc' := 13) dX12_feed_0.1.2.1.2 rfl rfl ⟨by omega, by omega⟩ ⟨by omega, by omega⟩ (fun c10 => ?_) (fun c10 => ?_)
  · refine zW_aload_n (pc' := 16) dX12_feed_0.2.1.1.1 rfl rfl ?_
    refine zW_iload_n (pc' := 17) dX12_feed_0.2.1.1.2 rfl rfl ?_
    refine cvV1 (pc' := 20) kX12_types vX12_types lk_X12_119 ⟨Nat.le_of_ble_eq_true rfl, Nat.le_of_ble_eq_true rfl⟩ tb0 vq12 rfl rfl (s_X12_types hF.2.1 hF.2.2.1 hF.2.2.2 _ (by omega)) dX12_feed_0.2.1.2.1 (Nat.le_of_ble_eq_true rfl) rfl ?_
    rintro r17 h ⟨hF1, p17⟩; replace hF := hF.tr hF1 rfl
    refine zW_aload_n (pc' := 21) dX12_feed_0.2.1.2.2 rfl rfl ?_
    refine zW_iload_n (pc' := 22) dX12_feed_0.2.2.1.1 rfl rfl ?_
    refine cvV1 (pc' := 25) kX12_types vX12_types lk_X12_119 ⟨Nat.le_of_ble_eq_true rfl, Nat.le_of_ble_eq_true rfl⟩ tb0 vq12 rfl rfl (s_X12_types hF.2.1 hF.2.2.1 hF.2.2.2 _ (by omega)) dX12_feed_0.2.2.1.2 (Nat.le_of_ble_eq_true rfl) rfl ?_
    rintro r22 h ⟨hF1, p22⟩; replace hF := hF.tr hF1 rfl
    refine zW_aload_n (pc' := 26) dX12_feed_0.2.2.2.1 rfl rfl ?_
    refine zW_iload_n (pc' := 27) dX12_feed_0.2.2.2.2 rfl rfl ?_
    refine cvV1 (pc' := 30) kX12_types vX12_types lk_X12_119 ⟨Nat.le_of_ble_eq_true rfl, Nat.le_of_ble_eq_true rfl⟩ tb0 vq12 rfl rfl (s_X12_types hF.2.1 hF.2.2.1 hF.2.2.2 _ (by omega)) dX12_feed_1.1.1.1.1 (Nat.le_of_ble_eq_true rfl) rfl ?_
    rintro r27 h ⟨hF1, p27⟩; replace hF := hF.tr hF1 rfl
    refine zW_aload_n (pc' := 31) dX12_feed_1.1.1.1.2 rfl rfl ?_
    refine zW_iload (pc' := 33) dX12_feed_1.1.1.2 rfl rfl ?_
    refine cvV1 (pc' := 36) kX12_types vX12_types lk_X12_119 ⟨Nat.le_of_ble_eq_true rfl, Nat.le_of_ble_eq_true rfl⟩ tb0 vq12 rfl rfl (s_X12_types hF.2.1 hF.2.2.1 hF.2.2.2 _ (by omega)) dX12_feed_1.1.2.1 (Nat.le_of_ble_eq_true rfl) rfl ?_
    rintro r33 h ⟨hF1, p33⟩; replace hF := hF.tr hF1 rfl
    refine zW_aload_n (pc' := 37) dX12_feed_1.1.2.2 rfl rfl ?_
    refine zW_iload (pc' := 39) dX12_feed_1.2.1.1.1 rfl rfl ?_
    refine cvV1 (pc' := 42) kX12_types vX12_types lk_X12_119 ⟨Nat.le_of_ble_eq_true rfl, Nat.le_of_ble_eq_true rfl⟩ tb0 vq12 rfl rfl (s_X12_types hF.2.1 hF.2.2.1 hF.2.2.2 _ (by omega)) dX12_feed_1.2.1.1.2 (Nat.le_of_ble_eq_true rfl) rfl ?_
    rintro r39 h ⟨hF1, p39⟩; replace hF := hF.tr hF1 rfl
    refine zW_aload_n (pc' := 43) dX12_feed_1.2.1.2 rfl rfl ?_
    refine zG_int (pc' := 46) fg_X12_116 tb0 rfl dX12_feed_1.2.2.1 rfl ?_
    have e43 := KRt hF.2.2.1
    exact zV_iret rfl dX12_feed_1.2.2.2 ⟨hF, by omega⟩
  · refine zW_iconst (pc' := 14) dX12_feed_0.1.2.2.1 rfl ?_
    exact zV_iret rfl dX12_feed_0.1.2.2.2 ⟨hF, by omega⟩

abbrev q_X12_raw (κ : Hp) (x1 : Int) (x2 : Int) (x3 : Int) : Int → Hp → Prop := fun r h' => Fm [(0, 11), (0, 12), (0, 13), (1, 999), (10, 999), (0, 21), (0, 23)] κ h' ∧ (((0 ≤ r) ∧ (r ≤ 1) ∧ ((r = 1 ∧ (4 ≤ x1 ∧ x1 ≤ 16 ∧ x1 % 2 = 0) ∧ (4 ≤ x2 ∧ x2 ≤ 16 ∧ x2 % 2 = 0) ∧ (0 ≤ x3 ∧ x3 ≤ 3) ∧ h' 0 11 = x1 ∧ h' 0 12 = x2 ∧ h' 0 13 = x3) ∨ (r = 0 ∧ ¬ ((4 ≤ x1 ∧ x1 ≤ 16 ∧ x1 % 2 = 0) ∧ (4 ≤ x2 ∧ x2 ≤ 16 ∧ x2 % 2 = 0) ∧ (0 ≤ x3 ∧ x3 ≤ 3)) ∧ h' 0 11 = κ 0 11 ∧ h' 0 12 = κ 0 12 ∧ h' 0 13 = κ 0 13))) ∧ ChR κ h')
set_option maxHeartbeats 4000000 in
set_option maxRecDepth 20000 in
theorem s_X12_raw {G : Ga} {κ : Hp} (hS : SI κ) (hR : KR κ) (hC : KC κ) (x1 : Int) (hx1 : rng x1) (x2 : Int) (hx2 : rng x2) (x3 : Int) (hx3 : rng x3) : zM G mX12_raw yX12_raw [.inr (.inr 0), .inl x1, .inl x2, .inl x3] κ (q_X12_raw κ x1 x2 x3) := by
  have f_0_11 := KRw hR
  have f_0_12 := KRh hR
  have f_0_13 := KRp hR
  unfold rng at hx1
  unfold rng at hx2
  unfold rng at hx3
  have main : ∀ N : Nat, (∀ (v4 : Int) (h : Hp), Fm [(0, 11), (0, 12), (0, 13), (1, 999), (10, 999), (0, 21), (0, 23)] κ h → (4 ≤ x1 ∧ x1 ≤ 16) → (4 ≤ x2 ∧ x2 ≤ 16) → (0 ≤ x3 ∧ x3 ≤ 3) → (0 ≤ v4 ∧ v4 ≤ 256) → (h 0 11 = x1 ∧ h 0 12 = x2 ∧ h 0 13 = x3) → (x1 % 2 = 0 ∧ x2 % 2 = 0) → 130548 + 23 * (256 - v4) + 22 < (N : Int) → zV G mX12_raw (q_X12_raw κ x1 x2 x3) 63 [some (.inr (.inr 0)), some (.inl x1), some (.inl x2), some (.inl x3), some (.inl v4)] [] h) := by
    intro N
    induction N with
    | zero =>
      intro v4 h hF g0 g1 g2 g3 gc0 gc1 hm
      exfalso; omega
    | succ N ih =>
      have k63 := ih
      intro v4 h hF g0 g1 g2 g3 gc0 gc1 hm
      refine zW_iload (pc' := 65) dX12_raw_2.1.2.2.1 rfl rfl ?_
      refine zW_sipush (pc' := 68) dX12_raw_2.1.2.2.2 rfl rfl ?_
      refine zV_cm_ge (tgt := 93) (pc' := 71) dX12_raw_2.2.1.1.1 rfl rfl ⟨by omega, by omega⟩ ⟨by omega, by omega⟩ (fun c68 => ?_) (fun c68 => ?_)
      · refine zW_aload_n (pc' := 94) dX12_raw_3.2.1.1 rfl rfl ?_
        refine cvV0 (pc' := 97) kX12_changed vX12_changed lk_X12_215 ⟨Nat.le_of_ble_eq_true rfl, Nat.le_of_ble_eq_true rfl⟩ tb0 vq12 rfl rfl (s_X12_changed hF.2.1 hF.2.2.1 hF.2.2.2) dX12_raw_3.2.1.2 (Nat.le_of_ble_eq_true rfl) rfl ?_
        rintro r94 h ⟨hF1, p94⟩; replace hF := hF.tr hF1 rfl
        have t94_0_11 := hF1.1 0 11 rfl rfl
        have t94_0_12 := hF1.1 0 12 rfl rfl
        have t94_0_13 := hF1.1 0 13 rfl rfl
        refine zW_iconst (pc' := 98) dX12_raw_3.2.2.1 rfl ?_
        exact zV_zret rfl (by omega) dX12_raw_3.2.2.2 ⟨hF, ⟨by omega, (by first | exact Or.inl (by omega) | exact Or.inr hU | exact Or.inr (by rw [hk0]; exact UnR.rf))⟩⟩
      · refine zW_aload_n (pc' := 72) dX12_raw_2.2.1.1.2 rfl rfl ?_
        refine zG_ref (pc' := 75) 1 fg_X12_7 tb0 rfl dX12_raw_2.2.1.2.1 rfl ?_
        refine zW_iload (pc' := 77) dX12_raw_2.2.1.2.2 rfl rfl ?_
        refine zW_iconst (pc' := 78) dX12_raw_2.2.2.1.1 rfl ?_
        refine zSm (pc' := 79) hF rfl (fun v' hv he => ⟨(SI_irr hF.2.1 (Or.inl (key_of rfl _)) (fun _ _ => hv)), (KR_irr hF.2.2.1 rfl), (KC_irr hF.2.2.2 rfl)⟩) tb1 (by omega) dX12_raw_2.2.2.1.2 (by decide) rfl (fun h i78 hF a78 b78 w78 => ?_)
        have t78_0_11 := congrFun (congrFun w78 0) 11
        rw [zwr_ne (Or.inl (by decide))] at t78_0_11
        have t78_0_12 := congrFun (congrFun w78 0) 12
        rw [zwr_ne (Or.inl (by decide))] at t78_0_12
        have t78_0_13 := congrFun (congrFun w78 0) 13
        rw [zwr_ne (Or.inl (by decide))] at t78_0_13
        have t78_0_23 := congrFun (congrFun w78 0) 23
        rw [zwr_ne (Or.inl (by decide))] at t78_0_23
        refine zW_aload_n (pc' := 80) dX12_raw_2.2.2.2.1 rfl rfl ?_
        refine zG_ref (pc' := 83) 10 fg_X12_37 tb0 rfl dX12_raw_2.2.2.2.2 rfl ?_
        refine zW_iload (pc' := 85) dX12_raw_3.1.1.1.1 rfl rfl ?_
        refine zW_iconst (pc' := 86) dX12_raw_3.1.1.1.2 rfl ?_
        refine zSmz (pc' := 87) hF rfl ⟨(SI_irr hF.2.1 (Or.inl (key_of rfl _)) (fun _ _ => ⟨by omega, by omega⟩)), (KR_c10 hF.2.2.1 (by omega)), (KC_irr hF.2.2.2 rfl)⟩ tb10 (by omega) (by omega) dX12_raw_3.1.1.2 (by decide) rfl (fun h hF w86 => ?_)
        have t86_0_11 := congrFun (congrFun w86 0) 11
        rw [zwr_ne (Or.inl (by decide))] at t86_0_11
        have t86_0_12 := congrFun (congrFun w86 0) 12
        rw [zwr_ne (Or.inl (by decide))] at t86_0_12
        have t86_0_13 := congrFun (congrFun w86 0) 13
        rw [zwr_ne (Or.inl (by decide))] at t86_0_13
        have t86_0_23 := congrFun (congrFun w86 0) 23
        rw [zwr_ne (Or.inl (by decide))] at t86_0_23
        refine zW_iinc (ls' := [_, _, _, _, _]) (pc' := 90) dX12_raw_3.1.2.1 rfl (by decide) rfl rfl rfl ?_
        refine zV_goto 63 dX12_raw_3.1.2.2 rfl ?_
        exact k63 _ _ hF (by omega) (by omega) (by omega) (by omega) (by omega) (by omega) (by omega)
  refine zM_of [some (.inr (.inr 0)), some (.inl x1), some (.inl x2), some (.inl x3), none] 1 rfl rfl (Nat.le_of_ble_eq_true rfl) rfl ?_
  refine (show ∀ h : Hp, Fm [(0, 11), (0, 12), (0, 13), (1, 999), (10, 999), (0, 21), (0, 23)] κ h → h = κ → zV G mX12_raw (q_X12_raw κ x1 x2 x3) 0 [some (.inr (.inr 0)), some (.inl x1), some (.inl x2), some (.inl x3), none] [] h from fun h hF hk0 => ?_) κ (Fm.rf hS hR hC) rfl
  have y0_0_11 : h 0 11 = κ 0 11 := by rw [hk0]
  have y0_0_12 : h 0 12 = κ 0 12 := by rw [hk0]
  have y0_0_13 : h 0 13 = κ 0 13 := by rw [hk0]
  refine zW_iload_n (pc' := 1) dX12_raw_0.1.1.1.1 rfl rfl ?_
  refine zW_iconst (pc' := 2) dX12_raw_0.1.1.1.2 rfl ?_
  refine zW_bipush (pc' := 4) dX12_raw_0.1.1.2.1 rfl rfl ?_
  refine csI3 (pc' := 7) kX12_in vX12_in lk_X12_140 ⟨Nat.le_of_ble_eq_true rfl, Nat.le_of_ble_eq_true rfl⟩ rfl (s_X12_inR (b := bdB true) (κ := h) (Fr.rf hF.2.1) _ ⟨by omega, by omega⟩ _ ⟨by omega, by omega⟩ _ ⟨by omega, by omega⟩) dX12_raw_0.1.1.2.2 (Nat.le_of_ble_eq_true rfl) rfl ?_
  rintro r4 z4 ⟨hz4, p4⟩; subst z4
  refine zV_if_eq (tgt := 43) (pc' := 10) dX12_raw_0.1.2.1.1 rfl rfl ⟨by omega, by omega⟩ (fun c7 => ?_) (fun c7 => ?_)
  · refine zW_iconst (pc' := 44) dX12_raw_1.2.1.1.2 rfl ?_
    exact zV_zret rfl (by omega) dX12_raw_1.2.1.2.1 ⟨hF, ⟨by omega, (by first | exact Or.inl (by omega) | exact Or.inr hU | exact Or.inr (by rw [hk0]; exact UnR.rf))⟩⟩
  · refine zW_iload_n (pc' := 11) dX12_raw_0.1.2.1.2 rfl rfl ?_
    refine zW_iconst (pc' := 12) dX12_raw_0.1.2.2.1 rfl ?_
    refine zW_bipush (pc' := 14) dX12_raw_0.1.2.2.2 rfl rfl ?_
    refine csI3 (pc' := 17) kX12_in vX12_in lk_X12_140 ⟨Nat.le_of_ble_eq_true rfl, Nat.le_of_ble_eq_true rfl⟩ rfl (s_X12_inR (b := bdB true) (κ := h) (Fr.rf hF.2.1) _ ⟨by omega, by omega⟩ _ ⟨by omega, by omega⟩ _ ⟨by omega, by omega⟩) dX12_raw_0.2.1.1.1 (Nat.le_of_ble_eq_true rfl) rfl ?_
    rintro r14 z14 ⟨hz14, p14⟩; subst z14
    refine zV_if_eq (tgt := 43) (pc' := 20) dX12_raw_0.2.1.1.2 rfl rfl ⟨by omega, by omega⟩ (fun c17 => ?_) (fun c17 => ?_)
    · refine zW_iconst (pc' := 44) dX12_raw_1.2.1.1.2 rfl ?_
      exact zV_zret rfl (by omega) dX12_raw_1.2.1.2.1 ⟨hF, ⟨by omega, (by first | exact Or.inl (by omega) | exact Or.inr hU | exact Or.inr (by rw [hk0]; exact UnR.rf))⟩⟩
    · refine zW_iload_n (pc' := 21) dX12_raw_0.2.1.2.1 rfl rfl ?_
      refine zW_iconst (pc' := 22) dX12_raw_0.2.1.2.2 rfl ?_
      refine zW_irem (pc' := 23) (by omega) (by omega) dX12_raw_0.2.2.1.1 rfl ?_
      refine zW_iconst (pc' := 24) dX12_raw_0.2.2.1.2 rfl ?_
      refine zV_cm_eq (tgt := 43) (pc' := 27) dX12_raw_0.2.2.2.1 rfl rfl ⟨by omega, by omega⟩ ⟨by omega, by omega⟩ (fun c24 => ?_) (fun c24 => ?_)
      · refine zW_iconst (pc' := 44) dX12_raw_1.2.1.1.2 rfl ?_
        exact zV_zret rfl (by omega) dX12_raw_1.2.1.2.1 ⟨hF, ⟨by omega, (by first | exact Or.inl (by omega) | exact Or.inr hU | exact Or.inr (by rw [hk0]; exact UnR.rf))⟩⟩
      · refine zW_iload_n (pc' := 28) dX12_raw_0.2.2.2.2 rfl rfl ?_
        refine zW_iconst (pc' := 29) dX12_raw_1.1.1.1.1 rfl ?_
        refine zW_irem (pc' := 30) (by omega) (by omega) dX12_raw_1.1.1.1.2 rfl ?_
        refine zW_iconst (pc' := 31) dX12_raw_1.1.1.2.1 rfl ?_
        refine zV_cm_eq (tgt := 43) (pc' := 34) dX12_raw_1.1.1.2.2 rfl rfl ⟨by omega, by omega⟩ ⟨by omega, by omega⟩ (fun c31 => ?_) (fun c31 => ?_)
        · refine zW_iconst (pc' := 44) dX12_raw_1.2.1.1.2 rfl ?_
          exact zV_zret rfl (by omega) dX12_raw_1.2.1.2.1 ⟨hF, ⟨by omega, (by first | exact Or.inl (by omega) | exact Or.inr hU | exact Or.inr (by rw [hk0]; exact UnR.rf))⟩⟩
        · refine zW_iload_n (pc' := 35) dX12_raw_1.1.2.1.1 rfl rfl ?_
          refine zW_iconst (pc' := 36) dX12_raw_1.1.2.1.2 rfl ?_
          refine zW_iconst (pc' := 37) dX12_raw_1.1.2.2.1 rfl ?_
          refine csI3 (pc' := 40) kX12_in vX12_in lk_X12_140 ⟨Nat.le_of_ble_eq_true rfl, Nat.le_of_ble_eq_true rfl⟩ rfl (s_X12_inR (b := bdB true) (κ := h) (Fr.rf hF.2.1) _ ⟨by omega, by omega⟩ _ ⟨by omega, by omega⟩ _ ⟨by omega, by omega⟩) dX12_raw_1.1.2.2.2 (Nat.le_of_ble_eq_true rfl) rfl ?_
          rintro r37 z37 ⟨hz37, p37⟩; subst z37
          refine zV_if_ne (tgt := 45) (pc' := 43) dX12_raw_1.2.1.1.1 rfl rfl ⟨by omega, by omega⟩ (fun c40 => ?_) (fun c40 => ?_)
          · refine zW_aload_n (pc' := 46) dX12_raw_1.2.1.2.2 rfl rfl ?_
            refine zW_iload_n (pc' := 47) dX12_raw_1.2.2.1.1 rfl rfl ?_
            refine zPm (pc' := 50) hF (Or.inl rfl) (SI_irr hF.2.1 (Or.inl rfl) (fun _ _ => ⟨by omega, by omega⟩)) (KR_11 hF.2.2.1 (by omega)) (KC_irr hF.2.2.2 rfl) fp_X12_99 tb0 rfl dX12_raw_1.2.2.1.2 rfl (fun h hF w47 => ?_)
            have t47_0_11 := congrFun (congrFun w47 0) 11
            rw [zwr_eq] at t47_0_11
            have t47_0_12 := congrFun (congrFun w47 0) 12
            rw [zwr_ne (Or.inr (by decide))] at t47_0_12
            have t47_0_13 := congrFun (congrFun w47 0) 13
            rw [zwr_ne (Or.inr (by decide))] at t47_0_13
            have t47_0_23 := congrFun (congrFun w47 0) 23
            rw [zwr_ne (Or.inr (by decide))] at t47_0_23
            refine zW_aload_n (pc' := 51) dX12_raw_1.2.2.2.1 rfl rfl ?_
            refine zW_iload_n (pc' := 52) dX12_raw_1.2.2.2.2 rfl rfl ?_
            refine zPm (pc' := 55) hF (Or.inl rfl) (SI_irr hF.2.1 (Or.inl rfl) (fun _ _ => ⟨by omega, by omega⟩)) (KR_12 hF.2.2.1 (by omega)) (KC_irr hF.2.2.2 rfl) fp_X12_103 tb0 rfl dX12_raw_2.1.1.1.1 rfl (fun h hF w52 => ?_)
            have t52_0_11 := congrFun (congrFun w52 0) 11
            rw [zwr_ne (Or.inr (by decide))] at t52_0_11
            have t52_0_12 := congrFun (congrFun w52 0) 12
            rw [zwr_eq] at t52_0_12
            have t52_0_13 := congrFun (congrFun w52 0) 13
            rw [zwr_ne (Or.inr (by decide))] at t52_0_13
            have t52_0_23 := congrFun (congrFun w52 0) 23
            rw [zwr_ne (Or.inr (by decide))] at t52_0_23
            refine zW_aload_n (pc' := 56) dX12_raw_2.1.1.1.2 rfl rfl ?_
            refine zW_iload_n (pc' := 57) dX12_raw_2.1.1.2.1 rfl rfl ?_
            refine zPm (pc' := 60) hF (Or.inl rfl) (SI_irr hF.2.1 (Or.inl rfl) (fun _ _ => ⟨by omega, by omega⟩)) (KR_13 hF.2.2.1 (by omega)) (KC_irr hF.2.2.2 rfl) fp_X12_209 tb0 rfl dX12_raw_2.1.1.2.2 rfl (fun h hF w57 => ?_)
            have t57_0_11 := congrFun (congrFun w57 0) 11
            rw [zwr_ne (Or.inr (by decide))] at t57_0_11
            have t57_0_12 := congrFun (congrFun w57 0) 12
            rw [zwr_ne (Or.inr (by decide))] at t57_0_12
            have t57_0_13 := congrFun (congrFun w57 0) 13
            rw [zwr_eq] at t57_0_13
            have t57_0_23 := congrFun (congrFun w57 0) 23
            rw [zwr_ne (Or.inr (by decide))] at t57_0_23
            refine zW_iconst (pc' := 61) dX12_raw_2.1.2.1.1 rfl ?_
            refine zW_istore (ls' := [_, _, _, _, _]) (pc' := 63) dX12_raw_2.1.2.1.2 (by decide) rfl rfl rfl ?_
            exact (main 10000000000000000000000000000000000000000) _ _ hF (by omega) (by omega) (by omega) (by omega) (by omega) (by omega) (by omega)
          · refine zW_iconst (pc' := 44) dX12_raw_1.2.1.1.2 rfl ?_
            exact zV_zret rfl (by omega) dX12_raw_1.2.1.2.1 ⟨hF, ⟨by omega, (by first | exact Or.inl (by omega) | exact Or.inr hU | exact Or.inr (by rw [hk0]; exact UnR.rf))⟩⟩

abbrev q_X12_row (κ : Hp) (x1 : Int) : Int → Hp → Prop := fun r h' => Fm [(1, 999), (0, 25), (0, 21), (0, 23)] κ h' ∧ (((0 ≤ r) ∧ (r ≤ 1) ∧ ((r = 1 ∧ (0 ≤ x1 ∧ x1 < κ 0 12 ∧ κ 0 11 ≤ κ 0 25) ∧ h' 0 25 = 0) ∨ (r = 0 ∧ ¬ (0 ≤ x1 ∧ x1 < κ 0 12 ∧ κ 0 11 ≤ κ 0 25) ∧ h' 0 25 = κ 0 25))) ∧ ChR κ h')
set_option maxHeartbeats 4000000 in
set_option maxRecDepth 20000 in
theorem s_X12_row {G : Ga} {κ : Hp} (hS : SI κ) (hR : KR κ) (hC : KC κ) (x1 : Int) (hx1 : rng x1) : zM G mX12_row yX12_row [.inr (.inr 0), .inl x1] κ (q_X12_row κ x1) := by
  have f_0_11 := KRw hR
  have f_0_12 := KRh hR
  have f_0_25 := KRt hR
  unfold rng at hx1
  have main : ∀ N : Nat, (∀ (v2 : Int) (h : Hp), Fm [(1, 999), (0, 25), (0, 21), (0, 23)] κ h → (0 ≤ x1 ∧ x1 ≤ 15) → (x1 - κ 0 12 ≤ -1) → (0 ≤ v2 ∧ v2 ≤ 16) → (v2 - κ 0 11 ≤ 0) → (κ 0 11 ≤ κ 0 25) → (h 0 25 = κ 0 25) → 16740 + 31 * (16 - v2) + 30 < (N : Int) → zV G mX12_row (q_X12_row κ x1) 29 [some (.inr (.inr 0)), some (.inl x1), some (.inl v2)] [] h) := by
    intro N
    induction N with
    | zero =>
      intro v2 h hF g0 g1 g2 g3 gc0 gc1 hm
      exfalso; omega
    | succ N ih =>
      have k29 := ih
      intro v2 h hF g0 g1 g2 g3 gc0 gc1 hm
      refine zW_iload_n (pc' := 30) dX12_row_1.1.1.1.2 rfl rfl ?_
      refine zW_aload_n (pc' := 31) dX12_row_1.1.1.2.1 rfl rfl ?_
      refine zGm (pc' := 34) hF rfl rfl fg_X12_99 tb0 rfl dX12_row_1.1.1.2.2 rfl ?_
      refine zV_cm_ge (tgt := 64) (pc' := 37) dX12_row_1.1.2.1.1 rfl rfl ⟨by omega, by omega⟩ ⟨by omega, by omega⟩ (fun c34 => ?_) (fun c34 => ?_)
      · refine zW_aload_n (pc' := 65) dX12_row_2.1.2.2 rfl rfl ?_
        refine zW_iconst (pc' := 66) dX12_row_2.2.1.1.1 rfl ?_
        refine zPm (pc' := 69) hF (Or.inl rfl) (SI_irr hF.2.1 (Or.inl rfl) (fun _ _ => ⟨by omega, by omega⟩)) (KR_25 hF.2.2.1 (by omega)) (KC_irr hF.2.2.2 rfl) fp_X12_116 tb0 rfl dX12_row_2.2.1.1.2 rfl (fun h hF w66 => ?_)
        have t66_0_25 := congrFun (congrFun w66 0) 25
        rw [zwr_eq] at t66_0_25
        have t66_0_23 := congrFun (congrFun w66 0) 23
        rw [zwr_ne (Or.inr (by decide))] at t66_0_23
        refine zW_aload_n (pc' := 70) dX12_row_2.2.1.2 rfl rfl ?_
        refine cvV0 (pc' := 73) kX12_changed vX12_changed lk_X12_215 ⟨Nat.le_of_ble_eq_true rfl, Nat.le_of_ble_eq_true rfl⟩ tb0 vq12 rfl rfl (s_X12_changed hF.2.1 hF.2.2.1 hF.2.2.2) dX12_row_2.2.2.1.1 (Nat.le_of_ble_eq_true rfl) rfl ?_
        rintro r70 h ⟨hF1, p70⟩; replace hF := hF.tr hF1 rfl
        have t70_0_25 := hF1.1 0 25 rfl rfl
        refine zW_iconst (pc' := 74) dX12_row_2.2.2.1.2 rfl ?_
        exact zV_zret rfl (by omega) dX12_row_2.2.2.2 ⟨hF, ⟨by omega, (by first | exact Or.inl (by omega) | exact Or.inr hU | exact Or.inr (by rw [hk0]; exact UnR.rf))⟩⟩
      · refine zW_aload_n (pc' := 38) dX12_row_1.1.2.1.2 rfl rfl ?_
        refine zG_ref (pc' := 41) 1 fg_X12_7 tb0 rfl dX12_row_1.1.2.2.1 rfl ?_
        refine zW_bipush (pc' := 43) dX12_row_1.1.2.2.2 rfl rfl ?_
        refine zW_iload_n (pc' := 44) dX12_row_1.2.1.1.1 rfl rfl ?_
        refine zW_imul (pc' := 45) dX12_row_1.2.1.1.2 rfl ?_
        refine zW_iload_n (pc' := 46) dX12_row_1.2.1.2.1 rfl rfl ?_
        refine zW_iadd (pc' := 47) dX12_row_1.2.1.2.2 rfl ?_
        refine zW_aload_n (pc' := 48) dX12_row_1.2.2.1.1 rfl rfl ?_
        refine zG_ref (pc' := 51) 12 fg_X12_44 tb0 rfl dX12_row_1.2.2.1.2 rfl ?_
        refine zW_iload_n (pc' := 52) dX12_row_1.2.2.2.1 rfl rfl ?_
        refine zV_bald (pc' := 53) tb12 (by omega) dX12_row_1.2.2.2.2 (by decide) rfl ?_
        refine zW_sipush (pc' := 56) dX12_row_2.1.1.1.1 rfl rfl ?_
        refine zW_iandC (pc' := 57) (by omega) dX12_row_2.1.1.1.2 rfl (fun v56 e56 => ?_)
        refine zSm (pc' := 58) hF rfl (fun v' hv he => ⟨(SI_irr hF.2.1 (Or.inl (key_of rfl _)) (fun _ _ => hv)), (KR_irr hF.2.2.1 rfl), (KC_irr hF.2.2.2 rfl)⟩) tb1 (by omega) dX12_row_2.1.1.2 (by decide) rfl (fun h i57 hF a57 b57 w57 => ?_)
        have t57_0_25 := congrFun (congrFun w57 0) 25
        rw [zwr_ne (Or.inl (by decide))] at t57_0_25
        have t57_0_23 := congrFun (congrFun w57 0) 23
        rw [zwr_ne (Or.inl (by decide))] at t57_0_23
        refine zW_iinc (ls' := [_, _, _]) (pc' := 61) dX12_row_2.1.2.1.1 rfl (by decide) rfl rfl rfl ?_
        refine zV_goto 29 dX12_row_2.1.2.1.2 rfl ?_
        exact k29 _ _ hF (by omega) (by omega) (by omega) (by omega) (by omega) (by omega) (by omega)
  refine zM_of [some (.inr (.inr 0)), some (.inl x1), none] 1 rfl rfl (Nat.le_of_ble_eq_true rfl) rfl ?_
  refine (show ∀ h : Hp, Fm [(1, 999), (0, 25), (0, 21), (0, 23)] κ h → h = κ → zV G mX12_row (q_X12_row κ x1) 0 [some (.inr (.inr 0)), some (.inl x1), none] [] h from fun h hF hk0 => ?_) κ (Fm.rf hS hR hC) rfl
  have y0_0_25 : h 0 25 = κ 0 25 := by rw [hk0]
  refine zW_iload_n (pc' := 1) dX12_row_0.1.1.1.1 rfl rfl ?_
  refine zW_iconst (pc' := 2) dX12_row_0.1.1.1.2 rfl ?_
  refine zW_aload_n (pc' := 3) dX12_row_0.1.1.2.1 rfl rfl ?_
  refine zGm (pc' := 6) hF rfl rfl fg_X12_103 tb0 rfl dX12_row_0.1.1.2.2 rfl ?_
  refine zW_iconst (pc' := 7) dX12_row_0.1.2.1.1 rfl ?_
  refine zW_isub (pc' := 8) dX12_row_0.1.2.1.2 rfl ?_
  refine csI3 (pc' := 11) kX12_in vX12_in lk_X12_140 ⟨Nat.le_of_ble_eq_true rfl, Nat.le_of_ble_eq_true rfl⟩ rfl (s_X12_inR (b := bdB true) (κ := h) (Fr.rf hF.2.1) _ ⟨by omega, by omega⟩ _ ⟨by omega, by omega⟩ _ ⟨by omega, by omega⟩) dX12_row_0.1.2.2.1 (Nat.le_of_ble_eq_true rfl) rfl ?_
  rintro r8 z8 ⟨hz8, p8⟩; subst z8
  refine zV_if_eq (tgt := 25) (pc' := 14) dX12_row_0.1.2.2.2 rfl rfl ⟨by omega, by omega⟩ (fun c11 => ?_) (fun c11 => ?_)
  · refine zW_iconst (pc' := 26) dX12_row_0.2.2.1.2 rfl ?_
    exact zV_zret rfl (by omega) dX12_row_0.2.2.2.1 ⟨hF, ⟨by omega, (by first | exact Or.inl (by omega) | exact Or.inr hU | exact Or.inr (by rw [hk0]; exact UnR.rf))⟩⟩
  · refine zW_aload_n (pc' := 15) dX12_row_0.2.1.1.1 rfl rfl ?_
    refine zGm (pc' := 18) hF rfl rfl fg_X12_99 tb0 rfl dX12_row_0.2.1.1.2 rfl ?_
    refine zW_aload_n (pc' := 19) dX12_row_0.2.1.2.1 rfl rfl ?_
    refine zG_int (pc' := 22) fg_X12_116 tb0 rfl dX12_row_0.2.1.2.2 rfl ?_
    have e19 := KRt hF.2.2.1
    refine zV_cm_le (tgt := 27) (pc' := 25) dX12_row_0.2.2.1.1 rfl rfl ⟨by omega, by omega⟩ ⟨by omega, by omega⟩ (fun c22 => ?_) (fun c22 => ?_)
    · refine zW_iconst (pc' := 28) dX12_row_0.2.2.2.2 rfl ?_
      refine zW_istore_n (ls' := [_, _, _]) (pc' := 29) dX12_row_1.1.1.1.1 (by decide) rfl rfl rfl ?_
      exact (main 10000000000000000000000000000000000000000) _ _ hF (by omega) (by omega) (by omega) (by omega) (by omega) (by omega) (by omega)
    · refine zW_iconst (pc' := 26) dX12_row_0.2.2.1.2 rfl ?_
      exact zV_zret rfl (by omega) dX12_row_0.2.2.2.1 ⟨hF, ⟨by omega, (by first | exact Or.inl (by omega) | exact Or.inr hU | exact Or.inr (by rw [hk0]; exact UnR.rf))⟩⟩

abbrev q_X12_pixel (κ : Hp) (x1 : Int) (x2 : Int) (x3 : Int) : Int → Hp → Prop := fun r h' => Fm [(1, 999), (0, 21), (0, 23)] κ h' ∧ (((0 ≤ r) ∧ (r ≤ 1) ∧ (r = 1 ↔ (0 ≤ x1 ∧ x1 < κ 0 11 ∧ 0 ≤ x2 ∧ x2 < κ 0 12 ∧ 0 ≤ x3 ∧ x3 ≤ 255))) ∧ ChR κ h')
set_option maxHeartbeats 4000000 in
set_option maxRecDepth 20000 in
theorem s_X12_pixel {G : Ga} {κ : Hp} (hS : SI κ) (hR : KR κ) (hC : KC κ) (x1 : Int) (hx1 : rng x1) (x2 : Int) (hx2 : rng x2) (x3 : Int) (hx3 : rng x3) : zM G mX12_pixel yX12_pixel [.inr (.inr 0), .inl x1, .inl x2, .inl x3] κ (q_X12_pixel κ x1 x2 x3) := by
  have f_0_11 := KRw hR
  have f_0_12 := KRh hR
  unfold rng at hx1
  unfold rng at hx2
  unfold rng at hx3
  refine zM_of [some (.inr (.inr 0)), some (.inl x1), some (.inl x2), some (.inl x3)] 0 rfl rfl (Nat.le_of_ble_eq_true rfl) rfl ?_
  refine (show ∀ h : Hp, Fm [(1, 999), (0, 21), (0, 23)] κ h → h = κ → zV G mX12_pixel (q_X12_pixel κ x1 x2 x3) 0 [some (.inr (.inr 0)), some (.inl x1), some (.inl x2), some (.inl x3)] [] h from fun h hF hk0 => ?_) κ (Fm.rf hS hR hC) rfl
  refine zW_aload_n (pc' := 1) dX12_pixel_0.1.1.1.1 rfl rfl ?_
  refine zW_iload_n (pc' := 2) dX12_pixel_0.1.1.1.2 rfl rfl ?_
  refine zW_iload_n (pc' := 3) dX12_pixel_0.1.1.2.1 rfl rfl ?_
  have y3_0_11 := hF.1 0 11 rfl rfl
  have y3_0_12 := hF.1 0 12 rfl rfl
  refine cvI2 (pc' := 6) kX12_isSquare vX12_isSquare lk_X12_218 ⟨Nat.le_of_ble_eq_true rfl, Nat.le_of_ble_eq_true rfl⟩ tb0 vq12 rfl rfl (s_X12_isSquare (b := bdB true) (κ := h) hF.2.2.1 (Fr.rf hF.2.1) _ ⟨by omega, by omega⟩ _ ⟨by omega, by omega⟩) dX12_pixel_0.1.1.2.2 (Nat.le_of_ble_eq_true rfl) rfl ?_
  rintro r3 z3 ⟨hz3, p3⟩; subst z3
  refine zV_if_eq (tgt := 20) (pc' := 9) dX12_pixel_0.1.2.1.1 rfl rfl ⟨by omega, by omega⟩ (fun c6 => ?_) (fun c6 => ?_)
  · refine zW_iconst (pc' := 21) dX12_pixel_0.2.1.2.1 rfl ?_
    exact zV_zret rfl (by omega) dX12_pixel_0.2.1.2.2 ⟨hF, ⟨by omega, (by first | exact Or.inl (by omega) | exact Or.inr hU | exact Or.inr (by rw [hk0]; exact UnR.rf))⟩⟩
  · refine zW_iload_n (pc' := 10) dX12_pixel_0.1.2.1.2 rfl rfl ?_
    refine zW_iconst (pc' := 11) dX12_pixel_0.1.2.2.1 rfl ?_
    refine zW_sipush (pc' := 14) dX12_pixel_0.1.2.2.2 rfl rfl ?_
    refine csI3 (pc' := 17) kX12_in vX12_in lk_X12_140 ⟨Nat.le_of_ble_eq_true rfl, Nat.le_of_ble_eq_true rfl⟩ rfl (s_X12_inR (b := bdB true) (κ := h) (Fr.rf hF.2.1) _ ⟨by omega, by omega⟩ _ ⟨by omega, by omega⟩ _ ⟨by omega, by omega⟩) dX12_pixel_0.2.1.1.1 (Nat.le_of_ble_eq_true rfl) rfl ?_
    rintro r14 z14 ⟨hz14, p14⟩; subst z14
    refine zV_if_ne (tgt := 22) (pc' := 20) dX12_pixel_0.2.1.1.2 rfl rfl ⟨by omega, by omega⟩ (fun c17 => ?_) (fun c17 => ?_)
    · refine zW_aload_n (pc' := 23) dX12_pixel_0.2.2.1.1 rfl rfl ?_
      refine zG_ref (pc' := 26) 1 fg_X12_7 tb0 rfl dX12_pixel_0.2.2.1.2 rfl ?_
      refine zW_bipush (pc' := 28) dX12_pixel_0.2.2.2.1 rfl rfl ?_
      refine zW_iload_n (pc' := 29) dX12_pixel_0.2.2.2.2 rfl rfl ?_
      refine zW_imul (pc' := 30) dX12_pixel_1.1.1.1.1 rfl ?_
      refine zW_iload_n (pc' := 31) dX12_pixel_1.1.1.1.2 rfl rfl ?_
      refine zW_iadd (pc' := 32) dX12_pixel_1.1.1.2 rfl ?_
      refine zW_iload_n (pc' := 33) dX12_pixel_1.1.2.1 rfl rfl ?_
      refine zSm (pc' := 34) hF rfl (fun v' hv he => ⟨(SI_irr hF.2.1 (Or.inl (key_of rfl _)) (fun _ _ => hv)), (KR_irr hF.2.2.1 rfl), (KC_irr hF.2.2.2 rfl)⟩) tb1 (by omega) dX12_pixel_1.1.2.2 (by decide) rfl (fun h i33 hF a33 b33 w33 => ?_)
      have t33_0_23 := congrFun (congrFun w33 0) 23
      rw [zwr_ne (Or.inl (by decide))] at t33_0_23
      refine zW_aload_n (pc' := 35) dX12_pixel_1.2.1.1 rfl rfl ?_
      refine cvV0 (pc' := 38) kX12_changed vX12_changed lk_X12_215 ⟨Nat.le_of_ble_eq_true rfl, Nat.le_of_ble_eq_true rfl⟩ tb0 vq12 rfl rfl (s_X12_changed hF.2.1 hF.2.2.1 hF.2.2.2) dX12_pixel_1.2.1.2 (Nat.le_of_ble_eq_true rfl) rfl ?_
      rintro r35 h ⟨hF1, p35⟩; replace hF := hF.tr hF1 rfl
      refine zW_iconst (pc' := 39) dX12_pixel_1.2.2.1 rfl ?_
      exact zV_zret rfl (by omega) dX12_pixel_1.2.2.2 ⟨hF, ⟨by omega, (by first | exact Or.inl (by omega) | exact Or.inr hU | exact Or.inr (by rw [hk0]; exact UnR.rf))⟩⟩
    · refine zW_iconst (pc' := 21) dX12_pixel_0.2.1.2.1 rfl ?_
      exact zV_zret rfl (by omega) dX12_pixel_0.2.1.2.2 ⟨hF, ⟨by omega, (by first | exact Or.inl (by omega) | exact Or.inr hU | exact Or.inr (by rw [hk0]; exact UnR.rf))⟩⟩

abbrev q_X12_dead (κ : Hp) (x1 : Int) (x2 : Int) (x3 : Int) : Int → Hp → Prop := fun r h' => Fm [(10, 999), (0, 21), (0, 23)] κ h' ∧ (ChR κ h')
set_option maxHeartbeats 4000000 in
set_option maxRecDepth 20000 in
theorem s_X12_dead {G : Ga} {κ : Hp} (hS : SI κ) (hR : KR κ) (hC : KC κ) (x1 : Int) (hx1 : rng x1) (x2 : Int) (hx2 : rng x2) (x3 : Int) (hx3 : 0 ≤ x3 ∧ x3 ≤ 1) : zM G mX12_dead yX12_dead [.inr (.inr 0), .inl x1, .inl x2, .inl x3] κ (q_X12_dead κ x1 x2 x3) := by
  have f_0_11 := KRw hR
  have f_0_12 := KRh hR
  unfold rng at hx1
  unfold rng at hx2
  refine zM_of [some (.inr (.inr 0)), some (.inl x1), some (.inl x2), some (.inl x3)] 0 rfl rfl (Nat.le_of_ble_eq_true rfl) rfl ?_
  refine (show ∀ h : Hp, Fm [(10, 999), (0, 21), (0, 23)] κ h → h = κ → zV G mX12_dead (q_X12_dead κ x1 x2 x3) 0 [some (.inr (.inr 0)), some (.inl x1), some (.inl x2), some (.inl x3)] [] h from fun h hF hk0 => ?_) κ (Fm.rf hS hR hC) rfl
  refine zW_aload_n (pc' := 1) dX12_dead_0.1.1.1.1 rfl rfl ?_
  refine zW_iload_n (pc' := 2) dX12_dead_0.1.1.1.2 rfl rfl ?_
  refine zW_iload_n (pc' := 3) dX12_dead_0.1.1.2.1 rfl rfl ?_
  have y3_0_11 := hF.1 0 11 rfl rfl
  have y3_0_12 := hF.1 0 12 rfl rfl
  refine cvI2 (pc' := 6) kX12_isSquare vX12_isSquare lk_X12_218 ⟨Nat.le_of_ble_eq_true rfl, Nat.le_of_ble_eq_true rfl⟩ tb0 vq12 rfl rfl (s_X12_isSquare (b := bdB true) (κ := h) hF.2.2.1 (Fr.rf hF.2.1) _ ⟨by omega, by omega⟩ _ ⟨by omega, by omega⟩) dX12_dead_0.1.1.2.2 (Nat.le_of_ble_eq_true rfl) rfl ?_
  rintro r3 z3 ⟨hz3, p3⟩; subst z3
  refine zV_if_ne (tgt := 11) (pc' := 9) dX12_dead_0.1.2.1.1 rfl rfl ⟨by omega, by omega⟩ (fun c6 => ?_) (fun c6 => ?_)
  · refine zW_aload_n (pc' := 12) dX12_dead_0.1.2.2.2 rfl rfl ?_
    refine zG_ref (pc' := 15) 10 fg_X12_37 tb0 rfl dX12_dead_0.2.1.1.1 rfl ?_
    refine zW_bipush (pc' := 17) dX12_dead_0.2.1.1.2 rfl rfl ?_
    refine zW_iload_n (pc' := 18) dX12_dead_0.2.1.2.1 rfl rfl ?_
    refine zW_imul (pc' := 19) dX12_dead_0.2.1.2.2 rfl ?_
    refine zW_iload_n (pc' := 20) dX12_dead_0.2.2.1.1 rfl rfl ?_
    refine zW_iadd (pc' := 21) dX12_dead_0.2.2.1.2 rfl ?_
    refine zW_iload_n (pc' := 22) dX12_dead_0.2.2.2.1 rfl rfl ?_
    refine zSmz (pc' := 23) hF rfl ⟨(SI_irr hF.2.1 (Or.inl (key_of rfl _)) (fun _ _ => ⟨by omega, by omega⟩)), (KR_c10 hF.2.2.1 (by omega)), (KC_irr hF.2.2.2 rfl)⟩ tb10 (by omega) (by omega) dX12_dead_0.2.2.2.2 (by decide) rfl (fun h hF w22 => ?_)
    have t22_0_23 := congrFun (congrFun w22 0) 23
    rw [zwr_ne (Or.inl (by decide))] at t22_0_23
    refine zW_aload_n (pc' := 24) dX12_dead_1.1.1.1 rfl rfl ?_
    refine cvV0 (pc' := 27) kX12_changed vX12_changed lk_X12_215 ⟨Nat.le_of_ble_eq_true rfl, Nat.le_of_ble_eq_true rfl⟩ tb0 vq12 rfl rfl (s_X12_changed hF.2.1 hF.2.2.1 hF.2.2.2) dX12_dead_1.1.1.2 (Nat.le_of_ble_eq_true rfl) rfl ?_
    rintro r24 h ⟨hF1, p24⟩; replace hF := hF.tr hF1 rfl
    refine zW_aload_n (pc' := 28) dX12_dead_1.1.2 rfl rfl ?_
    refine cvI0 (pc' := 31) kX12_deadMany vX12_deadMany lk_X12_221 ⟨Nat.le_of_ble_eq_true rfl, Nat.le_of_ble_eq_true rfl⟩ tb0 vq12 rfl rfl (s_X12_deadMany (b := bdB true) (κ := h) hF.2.2.1 (Fr.rf hF.2.1)) dX12_dead_1.2.1 (Nat.le_of_ble_eq_true rfl) rfl ?_
    rintro r28 z28 ⟨hz28, p28⟩; subst z28
    exact zV_iret rfl dX12_dead_1.2.2 ⟨hF, (by first | exact Or.inl (by omega) | exact Or.inr hU | exact Or.inr (by rw [hk0]; exact UnR.rf))⟩
  · refine zW_iconst (pc' := 10) dX12_dead_0.1.2.1.2 rfl ?_
    exact zV_iret rfl dX12_dead_0.1.2.2.1 ⟨hF, (by first | exact Or.inl (by omega) | exact Or.inr hU | exact Or.inr (by rw [hk0]; exact UnR.rf))⟩

abbrev q_X12_sceneAt (κ : Hp) (x1 : Int) (x2 : Int) (x3 : Int) (x4 : Int) (x5 : Int) : Int → Hp → Prop := fun r h' => Fm [(0, 15)] κ h' ∧ (True)
set_option maxHeartbeats 4000000 in
set_option maxRecDepth 20000 in
theorem s_X12_sceneAt {G : Ga} {κ : Hp} (hS : SI κ) (hR : KR κ) (hC : KC κ) (x1 : Int) (hx1 : 0 ≤ x1 ∧ x1 ≤ 6) (x2 : Int) (hx2 : 0 ≤ x2 ∧ x2 ≤ 255) (x3 : Int) (hx3 : 0 ≤ x3 ∧ x3 ≤ 255) (x4 : Int) (hx4 : 0 ≤ x4 ∧ x4 ≤ 15 ∧ x4 - κ 0 11 ≤ -1) (x5 : Int) (hx5 : 0 ≤ x5 ∧ x5 ≤ 15 ∧ x5 - κ 0 12 ≤ -1) : zM G mX12_sceneAt yX12_sceneAt [.inr (.inr 0), .inl x1, .inl x2, .inl x3, .inl x4, .inl x5] κ (q_X12_sceneAt κ x1 x2 x3 x4 x5) := by
  have f_0_11 := KRw hR
  have f_0_12 := KRh hR
  have f_0_15 := KRl hR
  refine zM_of [some (.inr (.inr 0)), some (.inl x1), some (.inl x2), some (.inl x3), some (.inl x4), some (.inl x5)] 0 rfl rfl (Nat.le_of_ble_eq_true rfl) rfl ?_
  refine (show ∀ h : Hp, Fm [(0, 15)] κ h → h = κ → zV G mX12_sceneAt (q_X12_sceneAt κ x1 x2 x3 x4 x5) 0 [some (.inr (.inr 0)), some (.inl x1), some (.inl x2), some (.inl x3), some (.inl x4), some (.inl x5)] [] h from fun h hF hk0 => ?_) κ (Fm.rf hS hR hC) rfl
  refine zW_iload_n (pc' := 1) dX12_sceneAt_0.1.1.1.1 rfl rfl ?_
  refine zW_tsw2 (fun z t => (z = 0 ∧ t = 40) ∨ (z = 1 ∧ t = 42) ∨ (z = 2 ∧ t = 56) ∨ (z = 3 ∧ t = 73) ∨ (z = 4 ∧ t = 98) ∨ (z = 5 ∧ t = 132)) (fun z => if z = 0 then 40 else if z = 1 then 42 else if z = 2 then 56 else if z = 3 then 73 else if z = 4 then 98 else if z = 5 then 132 else 149) dX12_sceneAt_0.1.1.1.2 ⟨by omega, by omega⟩ (tsw_ok (pc := 1) (lo := 0) (offs := #[39, 41, 55, 72, 97, 131]) (tg := fun z => if z = 0 then 40 else if z = 1 then 42 else if z = 2 then 56 else if z = 3 then 73 else if z = 4 then 98 else if z = 5 then 132 else 149) (by decide +kernel)) rfl (by decide +kernel) (td := 149) rfl (fun c1 => ?_) (fun t1 w1 => ?_)
  · refine zW_iload (pc' := 151) dX12_sceneAt_4.1.2.1.2 rfl rfl ?_
    refine zW_iconst (pc' := 152) dX12_sceneAt_4.1.2.2 rfl ?_
    refine zW_irem (pc' := 153) (by omega) (by omega) dX12_sceneAt_4.2.1.1.1 rfl ?_
    refine zV_if_ne (tgt := 160) (pc' := 156) dX12_sceneAt_4.2.1.1.2 rfl rfl ⟨by omega, by omega⟩ (fun c153 => ?_) (fun c153 => ?_)
    · refine zW_iload_n (pc' := 161) dX12_sceneAt_4.2.2.1.2 rfl rfl ?_
      exact zV_iret rfl dX12_sceneAt_4.2.2.2 ⟨hF, trivial⟩
    · refine zW_iload_n (pc' := 157) dX12_sceneAt_4.2.1.2 rfl rfl ?_
      refine zV_goto 161 dX12_sceneAt_4.2.2.1.1 rfl ?_
      exact zV_iret rfl dX12_sceneAt_4.2.2.2 ⟨hF, trivial⟩
  · rcases w1 with ⟨s0, rfl⟩ | ⟨s1, rfl⟩ | ⟨s2, rfl⟩ | ⟨s3, rfl⟩ | ⟨s4, rfl⟩ | ⟨s5, rfl⟩
    · refine zW_iload_n (pc' := 41) dX12_sceneAt_0.1.1.2.1 rfl rfl ?_
      exact zV_iret rfl dX12_sceneAt_0.1.1.2.2 ⟨hF, trivial⟩
    · refine zW_iload_n (pc' := 43) dX12_sceneAt_0.1.2.1.1 rfl rfl ?_
      refine zW_iload (pc' := 45) dX12_sceneAt_0.1.2.1.2 rfl rfl ?_
      refine zW_imul (pc' := 46) dX12_sceneAt_0.1.2.2.1 rfl ?_
      refine zW_iload_n (pc' := 47) dX12_sceneAt_0.1.2.2.2 rfl rfl ?_
      refine zW_iload (pc' := 49) dX12_sceneAt_0.2.1.1.1 rfl rfl ?_
      refine zW_imul (pc' := 50) dX12_sceneAt_0.2.1.1.2 rfl ?_
      refine zW_iadd (pc' := 51) dX12_sceneAt_0.2.1.2.1 rfl ?_
      refine zW_sipush (pc' := 54) dX12_sceneAt_0.2.1.2.2 rfl rfl ?_
      refine zW_iremQ (pc' := 55) ⟨by omega, by omega⟩ (by omega) dX12_sceneAt_0.2.2.1.1 rfl (fun v54 e54 => ?_)
      unfold rng at e54
      exact zV_iret rfl dX12_sceneAt_0.2.2.1.2 ⟨hF, trivial⟩
    · refine zW_iconst (pc' := 57) dX12_sceneAt_0.2.2.2.1 rfl ?_
      refine zW_iload (pc' := 59) dX12_sceneAt_0.2.2.2.2 rfl rfl ?_
      refine zW_imul (pc' := 60) dX12_sceneAt_1.1.1.1.1 rfl ?_
      refine zW_aload_n (pc' := 61) dX12_sceneAt_1.1.1.1.2 rfl rfl ?_
      refine zGm (pc' := 64) hF rfl rfl fg_X12_99 tb0 rfl dX12_sceneAt_1.1.1.2.1 rfl ?_
      refine zV_cm_ge (tgt := 71) (pc' := 67) dX12_sceneAt_1.1.1.2.2 rfl rfl ⟨by omega, by omega⟩ ⟨by omega, by omega⟩ (fun c64 => ?_) (fun c64 => ?_)
      · refine zW_iload_n (pc' := 72) dX12_sceneAt_1.1.2.2.1 rfl rfl ?_
        exact zV_iret rfl dX12_sceneAt_1.1.2.2.2 ⟨hF, trivial⟩
      · refine zW_iload_n (pc' := 68) dX12_sceneAt_1.1.2.1.1 rfl rfl ?_
        refine zV_goto 72 dX12_sceneAt_1.1.2.1.2 rfl ?_
        exact zV_iret rfl dX12_sceneAt_1.1.2.2.2 ⟨hF, trivial⟩
    · refine zW_iconst (pc' := 74) dX12_sceneAt_1.2.1.1.1 rfl ?_
      refine zW_iload (pc' := 76) dX12_sceneAt_1.2.1.1.2 rfl rfl ?_
      refine zW_iload (pc' := 78) dX12_sceneAt_1.2.1.2.1 rfl rfl ?_
      refine zW_iadd (pc' := 79) dX12_sceneAt_1.2.1.2.2 rfl ?_
      refine zW_imul (pc' := 80) dX12_sceneAt_1.2.2.1.1 rfl ?_
      refine zW_aload_n (pc' := 81) dX12_sceneAt_1.2.2.1.2 rfl rfl ?_
      refine zGm (pc' := 84) hF rfl rfl fg_X12_99 tb0 rfl dX12_sceneAt_1.2.2.2.1 rfl ?_
      refine zW_aload_n (pc' := 85) dX12_sceneAt_1.2.2.2.2 rfl rfl ?_
      refine zGm (pc' := 88) hF rfl rfl fg_X12_103 tb0 rfl dX12_sceneAt_2.1.1.1.1 rfl ?_
      refine zW_iadd (pc' := 89) dX12_sceneAt_2.1.1.1.2 rfl ?_
      refine zV_cm_ge (tgt := 96) (pc' := 92) dX12_sceneAt_2.1.1.2.1 rfl rfl ⟨by omega, by omega⟩ ⟨by omega, by omega⟩ (fun c89 => ?_) (fun c89 => ?_)
      · refine zW_iload_n (pc' := 97) dX12_sceneAt_2.1.2.1.2 rfl rfl ?_
        exact zV_iret rfl dX12_sceneAt_2.1.2.2.1 ⟨hF, trivial⟩
      · refine zW_iload_n (pc' := 93) dX12_sceneAt_2.1.1.2.2 rfl rfl ?_
        refine zV_goto 97 dX12_sceneAt_2.1.2.1.1 rfl ?_
        exact zV_iret rfl dX12_sceneAt_2.1.2.2.1 ⟨hF, trivial⟩
    · refine zW_aload_n (pc' := 99) dX12_sceneAt_2.1.2.2.2 rfl rfl ?_
      refine zW_sipush (pc' := 102) dX12_sceneAt_2.2.1.1.1 rfl rfl ?_
      refine zW_aload_n (pc' := 103) dX12_sceneAt_2.2.1.1.2 rfl rfl ?_
      refine zG_int (pc' := 106) fg_X12_106 tb0 rfl dX12_sceneAt_2.2.1.2.1 rfl ?_
      have e103 := KRl hF.2.2.1
      refine zW_imul (pc' := 107) dX12_sceneAt_2.2.1.2.2 rfl ?_
      refine zW_sipush (pc' := 110) dX12_sceneAt_2.2.2.1.1 rfl rfl ?_
      refine zW_iadd (pc' := 111) dX12_sceneAt_2.2.2.1.2 rfl ?_
      refine zV_ldc (n := 65536) (pc' := 113) kc_X12_224 rfl dX12_sceneAt_2.2.2.2.1 rfl ?_
      refine zW_irem (pc' := 114) (by omega) (by omega) dX12_sceneAt_2.2.2.2.2 rfl ?_
      refine zPm (pc' := 117) hF (Or.inl rfl) (SI_irr hF.2.1 (Or.inl rfl) (fun _ _ => ⟨by omega, by omega⟩)) (KR_15 hF.2.2.1 (by omega)) (KC_irr hF.2.2.2 rfl) fp_X12_106 tb0 rfl dX12_sceneAt_3.1.1.1.1 rfl (fun h hF w114 => ?_)
      refine zW_iload_n (pc' := 118) dX12_sceneAt_3.1.1.1.2 rfl rfl ?_
      refine zW_aload_n (pc' := 119) dX12_sceneAt_3.1.1.2.1 rfl rfl ?_
      refine zG_int (pc' := 122) fg_X12_106 tb0 rfl dX12_sceneAt_3.1.1.2.2 rfl ?_
      have e119 := KRl hF.2.2.1
      refine zW_iload_n (pc' := 123) dX12_sceneAt_3.1.2.1.1 rfl rfl ?_
      refine zW_iconst (pc' := 124) dX12_sceneAt_3.1.2.1.2 rfl ?_
      refine zW_iadd (pc' := 125) dX12_sceneAt_3.1.2.2.1 rfl ?_
      refine zW_iremQ (pc' := 126) ⟨by omega, by omega⟩ (by omega) dX12_sceneAt_3.1.2.2.2 rfl (fun v125 e125 => ?_)
      unfold rng at e125
      refine zW_iadd (pc' := 127) dX12_sceneAt_3.2.1.1.1 rfl ?_
      refine zW_sipush (pc' := 130) dX12_sceneAt_3.2.1.1.2 rfl rfl ?_
      refine zW_iremQ (pc' := 131) ⟨by omega, by omega⟩ (by omega) dX12_sceneAt_3.2.1.2.1 rfl (fun v130 e130 => ?_)
      unfold rng at e130
      exact zV_iret rfl dX12_sceneAt_3.2.1.2.2 ⟨hF, trivial⟩
    · refine zW_aload_n (pc' := 133) dX12_sceneAt_3.2.2.1.1 rfl rfl ?_
      refine zW_iload (pc' := 135) dX12_sceneAt_3.2.2.1.2 rfl rfl ?_
      refine zW_iload (pc' := 137) dX12_sceneAt_3.2.2.2.1 rfl rfl ?_
      refine cvI2 (pc' := 140) kX12_colourAt vX12_colourAt lk_X12_225 ⟨Nat.le_of_ble_eq_true rfl, Nat.le_of_ble_eq_true rfl⟩ tb0 vq12 rfl rfl (s_X12_colourAt (b := bdB true) (κ := h) hF.2.2.1 (Fr.rf hF.2.1) _ ⟨by omega, by omega⟩ _ ⟨by omega, by omega⟩) dX12_sceneAt_3.2.2.2.2 (Nat.le_of_ble_eq_true rfl) rfl ?_
      rintro r137 z137 ⟨hz137, p137⟩; subst z137
      refine zV_if_ne (tgt := 147) (pc' := 143) dX12_sceneAt_4.1.1.1.1 rfl rfl ⟨by omega, by omega⟩ (fun c140 => ?_) (fun c140 => ?_)
      · refine zW_iload_n (pc' := 148) dX12_sceneAt_4.1.1.2.2 rfl rfl ?_
        exact zV_iret rfl dX12_sceneAt_4.1.2.1.1 ⟨hF, trivial⟩
      · refine zW_iload_n (pc' := 144) dX12_sceneAt_4.1.1.1.2 rfl rfl ?_
        refine zV_goto 148 dX12_sceneAt_4.1.1.2.1 rfl ?_
        exact zV_iret rfl dX12_sceneAt_4.1.2.1.1 ⟨hF, trivial⟩

abbrev q_X12_scene (κ : Hp) (x1 : Int) (x2 : Int) (x3 : Int) : Int → Hp → Prop := fun r h' => Fm [(1, 999), (10, 999), (0, 21), (0, 15), (0, 23)] κ h' ∧ (((0 ≤ r) ∧ (r ≤ 1) ∧ (r = 1 ↔ (0 ≤ x1 ∧ x1 ≤ 6 ∧ 0 ≤ x2 ∧ x2 ≤ 255 ∧ 0 ≤ x3 ∧ x3 ≤ 255))) ∧ ChR κ h')
set_option maxHeartbeats 4000000 in
set_option maxRecDepth 20000 in
theorem s_X12_scene {G : Ga} {κ : Hp} (hS : SI κ) (hR : KR κ) (hC : KC κ) (x1 : Int) (hx1 : rng x1) (x2 : Int) (hx2 : rng x2) (x3 : Int) (hx3 : rng x3) : zM G mX12_scene yX12_scene [.inr (.inr 0), .inl x1, .inl x2, .inl x3] κ (q_X12_scene κ x1 x2 x3) := by
  have f_0_11 := KRw hR
  have f_0_12 := KRh hR
  unfold rng at hx1
  unfold rng at hx2
  unfold rng at hx3
  have main : ∀ N : Nat, (∀ (v4 : Int) (h : Hp), Fm [(1, 999), (10, 999), (0, 21), (0, 15), (0, 23)] κ h → (0 ≤ x1 ∧ x1 ≤ 6) → (0 ≤ x2 ∧ x2 ≤ 255) → (0 ≤ x3 ∧ x3 ≤ 255) → (0 ≤ v4 ∧ v4 ≤ 16) → (v4 - κ 0 12 ≤ 0) → 24144480 + 29808 * (16 - v4) + 29160 < (N : Int) → zV G mX12_scene (q_X12_scene κ x1 x2 x3) 37 [some (.inr (.inr 0)), some (.inl x1), some (.inl x2), some (.inl x3), some (.inl v4), none] [] h) ∧ (∀ (v4 v5 : Int) (h : Hp), Fm [(1, 999), (10, 999), (0, 21), (0, 15), (0, 23)] κ h → (0 ≤ x1 ∧ x1 ≤ 6) → (0 ≤ x2 ∧ x2 ≤ 255) → (0 ≤ x3 ∧ x3 ≤ 255) → (0 ≤ v4 ∧ v4 ≤ 15) → (v4 - κ 0 12 ≤ -1) → (0 ≤ v5 ∧ v5 ≤ 16) → (v5 - κ 0 11 ≤ 0) → 24144480 + 29808 * (16 - v4) + 22680 + 36 * (16 - v5) + 35 < (N : Int) → zV G mX12_scene (q_X12_scene κ x1 x2 x3) 49 [some (.inr (.inr 0)), some (.inl x1), some (.inl x2), some (.inl x3), some (.inl v4), some (.inl v5)] [] h) := by
    intro N
    induction N with
    | zero =>
      refine ⟨?_, ?_⟩
      · intro v4 h hF g0 g1 g2 g3 g4 hm
        exfalso; omega
      · intro v4 v5 h hF g0 g1 g2 g3 g4 g5 g6 hm
        exfalso; omega
    | succ N ih =>
      obtain ⟨k37, k49⟩ := ih
      refine ⟨?_, ?_⟩
      · intro v4 h hF g0 g1 g2 g3 g4 hm
        refine zW_iload (pc' := 39) dX12_scene_1.1.1.2.2 rfl rfl ?_
        refine zW_aload_n (pc' := 40) dX12_scene_1.1.2.1.1 rfl rfl ?_
        refine zGm (pc' := 43) hF rfl rfl fg_X12_103 tb0 rfl dX12_scene_1.1.2.1.2 rfl ?_
        refine zV_cm_ge (tgt := 108) (pc' := 46) dX12_scene_1.1.2.2.1 rfl rfl ⟨by omega, by omega⟩ ⟨by omega, by omega⟩ (fun c43 => ?_) (fun c43 => ?_)
        · refine zW_aload_n (pc' := 109) dX12_scene_3.2.1.2 rfl rfl ?_
          refine cvV0 (pc' := 112) kX12_changed vX12_changed lk_X12_215 ⟨Nat.le_of_ble_eq_true rfl, Nat.le_of_ble_eq_true rfl⟩ tb0 vq12 rfl rfl (s_X12_changed hF.2.1 hF.2.2.1 hF.2.2.2) dX12_scene_3.2.2.1.1 (Nat.le_of_ble_eq_true rfl) rfl ?_
          rintro r109 h ⟨hF1, p109⟩; replace hF := hF.tr hF1 rfl
          refine zW_iconst (pc' := 113) dX12_scene_3.2.2.1.2 rfl ?_
          exact zV_zret rfl (by omega) dX12_scene_3.2.2.2 ⟨hF, ⟨by omega, (by first | exact Or.inl (by omega) | exact Or.inr hU | exact Or.inr (by rw [hk0]; exact UnR.rf))⟩⟩
        · refine zW_iconst (pc' := 47) dX12_scene_1.1.2.2.2 rfl ?_
          refine zW_istore (ls' := [_, _, _, _, _, _]) (pc' := 49) dX12_scene_1.2.1.1.1 (by decide) rfl rfl rfl ?_
          exact k49 _ _ _ hF (by omega) (by omega) (by omega) (by omega) (by omega) (by omega) (by omega) (by omega)
      · intro v4 v5 h hF g0 g1 g2 g3 g4 g5 g6 hm
        refine zW_iload (pc' := 51) dX12_scene_1.2.1.1.2 rfl rfl ?_
        refine zW_aload_n (pc' := 52) dX12_scene_1.2.1.2.1 rfl rfl ?_
        refine zGm (pc' := 55) hF rfl rfl fg_X12_99 tb0 rfl dX12_scene_1.2.1.2.2 rfl ?_
        refine zV_cm_ge (tgt := 102) (pc' := 58) dX12_scene_1.2.2.1.1 rfl rfl ⟨by omega, by omega⟩ ⟨by omega, by omega⟩ (fun c55 => ?_) (fun c55 => ?_)
        · refine zW_iinc (ls' := [_, _, _, _, _, _]) (pc' := 105) dX12_scene_3.2.1.1.1 rfl (by decide) rfl rfl rfl ?_
          refine zV_goto 37 dX12_scene_3.2.1.1.2 rfl ?_
          refine zV_clr 5 (ls' := [_, _, _, _, _, _]) rfl ?_
          exact k37 _ _ hF (by omega) (by omega) (by omega) (by omega) (by omega) (by omega)
        · refine zW_aload_n (pc' := 59) dX12_scene_1.2.2.1.2 rfl rfl ?_
          refine zG_ref (pc' := 62) 1 fg_X12_7 tb0 rfl dX12_scene_1.2.2.2.1 rfl ?_
          refine zW_bipush (pc' := 64) dX12_scene_1.2.2.2.2 rfl rfl ?_
          refine zW_iload (pc' := 66) dX12_scene_2.1.1.1.1 rfl rfl ?_
          refine zW_imul (pc' := 67) dX12_scene_2.1.1.1.2 rfl ?_
          refine zW_iload (pc' := 69) dX12_scene_2.1.1.2.1 rfl rfl ?_
          refine zW_iadd (pc' := 70) dX12_scene_2.1.1.2.2 rfl ?_
          refine zW_aload_n (pc' := 71) dX12_scene_2.1.2.1.1 rfl rfl ?_
          refine zW_iload_n (pc' := 72) dX12_scene_2.1.2.1.2 rfl rfl ?_
          refine zW_iload_n (pc' := 73) dX12_scene_2.1.2.2.1 rfl rfl ?_
          refine zW_iload_n (pc' := 74) dX12_scene_2.1.2.2.2 rfl rfl ?_
          refine zW_iload (pc' := 76) dX12_scene_2.2.1.1.1 rfl rfl ?_
          refine zW_iload (pc' := 78) dX12_scene_2.2.1.1.2 rfl rfl ?_
          have y78_0_11 := hF.1 0 11 rfl rfl
          have y78_0_12 := hF.1 0 12 rfl rfl
          refine cvI5 (pc' := 81) kX12_sceneAt vX12_sceneAt lk_X12_228 ⟨Nat.le_of_ble_eq_true rfl, Nat.le_of_ble_eq_true rfl⟩ tb0 vq12 rfl rfl (s_X12_sceneAt hF.2.1 hF.2.2.1 hF.2.2.2 _ ⟨by omega, by omega⟩ _ ⟨by omega, by omega⟩ _ ⟨by omega, by omega⟩ _ ⟨by omega, by omega, by omega⟩ _ ⟨by omega, by omega, by omega⟩) dX12_scene_2.2.1.2.1 (Nat.le_of_ble_eq_true rfl) rfl ?_
          rintro r78 h ⟨hF1, p78⟩; replace hF := hF.tr hF1 rfl
          have t78_0_23 := hF1.1 0 23 rfl rfl
          refine zSm (pc' := 82) hF rfl (fun v' hv he => ⟨(SI_irr hF.2.1 (Or.inl (key_of rfl _)) (fun _ _ => hv)), (KR_irr hF.2.2.1 rfl), (KC_irr hF.2.2.2 rfl)⟩) tb1 (by omega) dX12_scene_2.2.1.2.2 (by decide) rfl (fun h i81 hF a81 b81 w81 => ?_)
          have t81_0_23 := congrFun (congrFun w81 0) 23
          rw [zwr_ne (Or.inl (by decide))] at t81_0_23
          refine zW_aload_n (pc' := 83) dX12_scene_2.2.2.1.1 rfl rfl ?_
          refine zG_ref (pc' := 86) 10 fg_X12_37 tb0 rfl dX12_scene_2.2.2.1.2 rfl ?_
          refine zW_bipush (pc' := 88) dX12_scene_2.2.2.2.1 rfl rfl ?_
          refine zW_iload (pc' := 90) dX12_scene_2.2.2.2.2 rfl rfl ?_
          refine zW_imul (pc' := 91) dX12_scene_3.1.1.1.1 rfl ?_
          refine zW_iload (pc' := 93) dX12_scene_3.1.1.1.2 rfl rfl ?_
          refine zW_iadd (pc' := 94) dX12_scene_3.1.1.2.1 rfl ?_
          refine zW_iconst (pc' := 95) dX12_scene_3.1.1.2.2 rfl ?_
          refine zSmz (pc' := 96) hF rfl ⟨(SI_irr hF.2.1 (Or.inl (key_of rfl _)) (fun _ _ => ⟨by omega, by omega⟩)), (KR_c10 hF.2.2.1 (by omega)), (KC_irr hF.2.2.2 rfl)⟩ tb10 (by omega) (by omega) dX12_scene_3.1.2.1.1 (by decide) rfl (fun h hF w95 => ?_)
          have t95_0_23 := congrFun (congrFun w95 0) 23
          rw [zwr_ne (Or.inl (by decide))] at t95_0_23
          refine zW_iinc (ls' := [_, _, _, _, _, _]) (pc' := 99) dX12_scene_3.1.2.1.2 rfl (by decide) rfl rfl rfl ?_
          refine zV_goto 49 dX12_scene_3.1.2.2 rfl ?_
          exact k49 _ _ _ hF (by omega) (by omega) (by omega) (by omega) (by omega) (by omega) (by omega) (by omega)
  refine zM_of [some (.inr (.inr 0)), some (.inl x1), some (.inl x2), some (.inl x3), none, none] 2 rfl rfl (Nat.le_of_ble_eq_true rfl) rfl ?_
  refine (show ∀ h : Hp, Fm [(1, 999), (10, 999), (0, 21), (0, 15), (0, 23)] κ h → h = κ → zV G mX12_scene (q_X12_scene κ x1 x2 x3) 0 [some (.inr (.inr 0)), some (.inl x1), some (.inl x2), some (.inl x3), none, none] [] h from fun h hF hk0 => ?_) κ (Fm.rf hS hR hC) rfl
  refine zW_iload_n (pc' := 1) dX12_scene_0.1.1.1.1 rfl rfl ?_
  refine zW_iconst (pc' := 2) dX12_scene_0.1.1.1.2 rfl ?_
  refine zW_bipush (pc' := 4) dX12_scene_0.1.1.2.1 rfl rfl ?_
  refine csI3 (pc' := 7) kX12_in vX12_in lk_X12_140 ⟨Nat.le_of_ble_eq_true rfl, Nat.le_of_ble_eq_true rfl⟩ rfl (s_X12_inR (b := bdB true) (κ := h) (Fr.rf hF.2.1) _ ⟨by omega, by omega⟩ _ ⟨by omega, by omega⟩ _ ⟨by omega, by omega⟩) dX12_scene_0.1.1.2.2 (Nat.le_of_ble_eq_true rfl) rfl ?_
  rintro r4 z4 ⟨hz4, p4⟩; subst z4
  refine zV_if_eq (tgt := 32) (pc' := 10) dX12_scene_0.1.2.1.1 rfl rfl ⟨by omega, by omega⟩ (fun c7 => ?_) (fun c7 => ?_)
  · refine zW_iconst (pc' := 33) dX12_scene_0.2.2.2.2 rfl ?_
    exact zV_zret rfl (by omega) dX12_scene_1.1.1.1.1 ⟨hF, ⟨by omega, (by first | exact Or.inl (by omega) | exact Or.inr hU | exact Or.inr (by rw [hk0]; exact UnR.rf))⟩⟩
  · refine zW_iload_n (pc' := 11) dX12_scene_0.1.2.1.2 rfl rfl ?_
    refine zW_iconst (pc' := 12) dX12_scene_0.1.2.2.1 rfl ?_
    refine zW_sipush (pc' := 15) dX12_scene_0.1.2.2.2 rfl rfl ?_
    refine csI3 (pc' := 18) kX12_in vX12_in lk_X12_140 ⟨Nat.le_of_ble_eq_true rfl, Nat.le_of_ble_eq_true rfl⟩ rfl (s_X12_inR (b := bdB true) (κ := h) (Fr.rf hF.2.1) _ ⟨by omega, by omega⟩ _ ⟨by omega, by omega⟩ _ ⟨by omega, by omega⟩) dX12_scene_0.2.1.1.1 (Nat.le_of_ble_eq_true rfl) rfl ?_
    rintro r15 z15 ⟨hz15, p15⟩; subst z15
    refine zV_if_eq (tgt := 32) (pc' := 21) dX12_scene_0.2.1.1.2 rfl rfl ⟨by omega, by omega⟩ (fun c18 => ?_) (fun c18 => ?_)
    · refine zW_iconst (pc' := 33) dX12_scene_0.2.2.2.2 rfl ?_
      exact zV_zret rfl (by omega) dX12_scene_1.1.1.1.1 ⟨hF, ⟨by omega, (by first | exact Or.inl (by omega) | exact Or.inr hU | exact Or.inr (by rw [hk0]; exact UnR.rf))⟩⟩
    · refine zW_iload_n (pc' := 22) dX12_scene_0.2.1.2.1 rfl rfl ?_
      refine zW_iconst (pc' := 23) dX12_scene_0.2.1.2.2 rfl ?_
      refine zW_sipush (pc' := 26) dX12_scene_0.2.2.1.1 rfl rfl ?_
      refine csI3 (pc' := 29) kX12_in vX12_in lk_X12_140 ⟨Nat.le_of_ble_eq_true rfl, Nat.le_of_ble_eq_true rfl⟩ rfl (s_X12_inR (b := bdB true) (κ := h) (Fr.rf hF.2.1) _ ⟨by omega, by omega⟩ _ ⟨by omega, by omega⟩ _ ⟨by omega, by omega⟩) dX12_scene_0.2.2.1.2 (Nat.le_of_ble_eq_true rfl) rfl ?_
      rintro r26 z26 ⟨hz26, p26⟩; subst z26
      refine zV_if_ne (tgt := 34) (pc' := 32) dX12_scene_0.2.2.2.1 rfl rfl ⟨by omega, by omega⟩ (fun c29 => ?_) (fun c29 => ?_)
      · refine zW_iconst (pc' := 35) dX12_scene_1.1.1.1.2 rfl ?_
        refine zW_istore (ls' := [_, _, _, _, _, _]) (pc' := 37) dX12_scene_1.1.1.2.1 (by decide) rfl rfl rfl ?_
        exact (main 10000000000000000000000000000000000000000).1 _ _ hF (by omega) (by omega) (by omega) (by omega) (by omega) (by omega)
      · refine zW_iconst (pc' := 33) dX12_scene_0.2.2.2.2 rfl ?_
        exact zV_zret rfl (by omega) dX12_scene_1.1.1.1.1 ⟨hF, ⟨by omega, (by first | exact Or.inl (by omega) | exact Or.inr hU | exact Or.inr (by rw [hk0]; exact UnR.rf))⟩⟩

abbrev q_X12_truthAt (κ h : Hp) (x1 : Int) (x2 : Int) (x3 : Int) (x4 : Int) : Int → Hp → Prop := fun r h' => h' = h ∧ (True)
set_option maxHeartbeats 4000000 in
set_option maxRecDepth 20000 in
theorem s_X12_truthAt {G : Ga} {b : Bd} {κ h : Hp} (hK : KR κ) (hF : Fr b κ h) (x1 : Int) (hx1 : 0 ≤ x1 ∧ x1 ≤ 5) (x2 : Int) (hx2 : 0 ≤ x2 ∧ x2 ≤ 15 ∧ x2 - κ 0 11 ≤ -1) (x3 : Int) (hx3 : 0 ≤ x3 ∧ x3 ≤ 15 ∧ x3 - κ 0 12 ≤ -1) (x4 : Int) (hx4 : 0 ≤ x4 ∧ x4 ≤ 2) : zM G mX12_truthAt yX12_truthAt [.inr (.inr 0), .inl x1, .inl x2, .inl x3, .inl x4] h (q_X12_truthAt κ h x1 x2 x3 x4) := by
  have f_0_11 := KRw hK
  have f_0_12 := KRh hK
  refine zM_of [some (.inr (.inr 0)), some (.inl x1), some (.inl x2), some (.inl x3), some (.inl x4), none, none] 2 rfl rfl (Nat.le_of_ble_eq_true rfl) rfl ?_
  refine zW_aload_n (pc' := 1) dX12_truthAt_0.1.1.1.1 rfl rfl ?_
  refine zG_ref (pc' := 4) 16 fg_X12_57 tb0 rfl dX12_truthAt_0.1.1.1.2 rfl ?_
  refine zW_iload (pc' := 6) dX12_truthAt_0.1.1.2.1 rfl rfl ?_
  refine zA_key (pc' := 7) hF rfl tb16 (by omega) dX12_truthAt_0.1.1.2.2 (by decide) rfl ?_
  refine zW_istore (ls' := [_, _, _, _, _, _, _]) (pc' := 9) dX12_truthAt_0.1.2.1.1 (by decide) rfl rfl rfl ?_
  refine zW_aload_n (pc' := 10) dX12_truthAt_0.1.2.1.2 rfl rfl ?_
  refine zG_ref (pc' := 13) 16 fg_X12_57 tb0 rfl dX12_truthAt_0.1.2.2.1 rfl ?_
  refine zW_iconst (pc' := 14) dX12_truthAt_0.1.2.2.2 rfl ?_
  refine zW_iload (pc' := 16) dX12_truthAt_0.2.1.1.1 rfl rfl ?_
  refine zW_iadd (pc' := 17) dX12_truthAt_0.2.1.1.2 rfl ?_
  refine zA_key (pc' := 18) hF rfl tb16 (by omega) dX12_truthAt_0.2.1.2.1 (by decide) rfl ?_
  refine zW_istore (ls' := [_, _, _, _, _, _, _]) (pc' := 20) dX12_truthAt_0.2.1.2.2 (by decide) rfl rfl rfl ?_
  refine zW_iload_n (pc' := 21) dX12_truthAt_0.2.2.1.1 rfl rfl ?_
  refine zW_tsw dX12_truthAt_0.2.2.1.2 (fun z => if z = 0 then 56 else if z = 1 then 59 else if z = 2 then 77 else if z = 3 then 102 else if z = 4 then 120 else 140) ⟨by omega, by omega⟩ (tsw_ok (pc := 21) (lo := 0) (offs := #[35, 38, 56, 81, 99]) (tg := fun z => if z = 0 then 56 else if z = 1 then 59 else if z = 2 then 77 else if z = 3 then 102 else if z = 4 then 120 else 140) (by decide +kernel)) rfl (td := 140) rfl (fun c21 => ?_) (fun c21 c21b => ?_)
  · refine zW_iload (pc' := 142) dX12_truthAt_4.1.1.1.2 rfl rfl ?_
    refine zW_iload (pc' := 144) dX12_truthAt_4.1.1.2.1 rfl rfl ?_
    refine zW_iload (pc' := 146) dX12_truthAt_4.1.1.2.2 rfl rfl ?_
    refine zW_isub (pc' := 147) dX12_truthAt_4.1.2.1.1 rfl ?_
    refine zW_iload_n (pc' := 148) dX12_truthAt_4.1.2.1.2 rfl rfl ?_
    refine zW_imul (pc' := 149) dX12_truthAt_4.1.2.2 rfl ?_
    refine zW_aload_n (pc' := 150) dX12_truthAt_4.2.1.1.1 rfl rfl ?_
    refine zG_key (pc' := 153) hF rfl fg_X12_99 tb0 rfl dX12_truthAt_4.2.1.1.2 rfl ?_
    refine zW_iconst (pc' := 154) dX12_truthAt_4.2.1.2.1 rfl ?_
    refine zW_isub (pc' := 155) dX12_truthAt_4.2.1.2.2 rfl ?_
    refine zW_idivQ (pc' := 156) ⟨by omega, by omega⟩ (by omega) dX12_truthAt_4.2.2.1.1 rfl (fun v155 e155 => ?_)
    unfold rng at e155
    refine zW_iadd (pc' := 157) dX12_truthAt_4.2.2.1.2 rfl ?_
    exact zV_iret rfl dX12_truthAt_4.2.2.2 ⟨rfl, trivial⟩
  · split
    · refine zW_iload (pc' := 58) dX12_truthAt_0.2.2.2.1 rfl rfl ?_
      exact zV_iret rfl dX12_truthAt_0.2.2.2.2 ⟨rfl, trivial⟩
    · split
      · refine zW_iconst (pc' := 60) dX12_truthAt_1.1.1.1.1 rfl ?_
        refine zW_iload_n (pc' := 61) dX12_truthAt_1.1.1.1.2 rfl rfl ?_
        refine zW_imul (pc' := 62) dX12_truthAt_1.1.1.2.1 rfl ?_
        refine zW_aload_n (pc' := 63) dX12_truthAt_1.1.1.2.2 rfl rfl ?_
        refine zG_key (pc' := 66) hF rfl fg_X12_99 tb0 rfl dX12_truthAt_1.1.2.1.1 rfl ?_
        refine zV_cm_ge (tgt := 74) (pc' := 69) dX12_truthAt_1.1.2.1.2 rfl rfl ⟨by omega, by omega⟩ ⟨by omega, by omega⟩ (fun c66 => ?_) (fun c66 => ?_)
        · refine zW_iload (pc' := 76) dX12_truthAt_1.2.1.1.1 rfl rfl ?_
          exact zV_iret rfl dX12_truthAt_1.2.1.1.2 ⟨rfl, trivial⟩
        · refine zW_iload (pc' := 71) dX12_truthAt_1.1.2.2.1 rfl rfl ?_
          refine zV_goto 76 dX12_truthAt_1.1.2.2.2 rfl ?_
          exact zV_iret rfl dX12_truthAt_1.2.1.1.2 ⟨rfl, trivial⟩
      · split
        · refine zW_iconst (pc' := 78) dX12_truthAt_1.2.1.2.1 rfl ?_
          refine zW_iload_n (pc' := 79) dX12_truthAt_1.2.1.2.2 rfl rfl ?_
          refine zW_iload_n (pc' := 80) dX12_truthAt_1.2.2.1.1 rfl rfl ?_
          refine zW_iadd (pc' := 81) dX12_truthAt_1.2.2.1.2 rfl ?_
          refine zW_imul (pc' := 82) dX12_truthAt_1.2.2.2.1 rfl ?_
          refine zW_aload_n (pc' := 83) dX12_truthAt_1.2.2.2.2 rfl rfl ?_
          refine zG_key (pc' := 86) hF rfl fg_X12_99 tb0 rfl dX12_truthAt_2.1.1.1.1 rfl ?_
          refine zW_aload_n (pc' := 87) dX12_truthAt_2.1.1.1.2 rfl rfl ?_
          refine zG_key (pc' := 90) hF rfl fg_X12_103 tb0 rfl dX12_truthAt_2.1.1.2.1 rfl ?_
          refine zW_iadd (pc' := 91) dX12_truthAt_2.1.1.2.2 rfl ?_
          refine zV_cm_ge (tgt := 99) (pc' := 94) dX12_truthAt_2.1.2.1.1 rfl rfl ⟨by omega, by omega⟩ ⟨by omega, by omega⟩ (fun c91 => ?_) (fun c91 => ?_)
          · refine zW_iload (pc' := 101) dX12_truthAt_2.1.2.2.2 rfl rfl ?_
            exact zV_iret rfl dX12_truthAt_2.2.1.1.1 ⟨rfl, trivial⟩
          · refine zW_iload (pc' := 96) dX12_truthAt_2.1.2.1.2 rfl rfl ?_
            refine zV_goto 101 dX12_truthAt_2.1.2.2.1 rfl ?_
            exact zV_iret rfl dX12_truthAt_2.2.1.1.1 ⟨rfl, trivial⟩
        · split
          · refine zW_iconst (pc' := 103) dX12_truthAt_2.2.1.1.2 rfl ?_
            refine zW_iload_n (pc' := 104) dX12_truthAt_2.2.1.2.1 rfl rfl ?_
            refine zW_imul (pc' := 105) dX12_truthAt_2.2.1.2.2 rfl ?_
            refine zW_aload_n (pc' := 106) dX12_truthAt_2.2.2.1.1 rfl rfl ?_
            refine zG_key (pc' := 109) hF rfl fg_X12_103 tb0 rfl dX12_truthAt_2.2.2.1.2 rfl ?_
            refine zV_cm_ge (tgt := 117) (pc' := 112) dX12_truthAt_2.2.2.2.1 rfl rfl ⟨by omega, by omega⟩ ⟨by omega, by omega⟩ (fun c109 => ?_) (fun c109 => ?_)
            · refine zW_iload (pc' := 119) dX12_truthAt_3.1.1.1.2 rfl rfl ?_
              exact zV_iret rfl dX12_truthAt_3.1.1.2.1 ⟨rfl, trivial⟩
            · refine zW_iload (pc' := 114) dX12_truthAt_2.2.2.2.2 rfl rfl ?_
              refine zV_goto 119 dX12_truthAt_3.1.1.1.1 rfl ?_
              exact zV_iret rfl dX12_truthAt_3.1.1.2.1 ⟨rfl, trivial⟩
          · split
            · refine zW_iload_n (pc' := 121) dX12_truthAt_3.1.1.2.2 rfl rfl ?_
              refine zW_iconst (pc' := 122) dX12_truthAt_3.1.2.1.1 rfl ?_
              refine zW_idiv (pc' := 123) (by omega) (by omega) dX12_truthAt_3.1.2.1.2 rfl ?_
              refine zW_iload_n (pc' := 124) dX12_truthAt_3.1.2.2.1 rfl rfl ?_
              refine zW_iconst (pc' := 125) dX12_truthAt_3.1.2.2.2 rfl ?_
              refine zW_idiv (pc' := 126) (by omega) (by omega) dX12_truthAt_3.2.1.1.1 rfl ?_
              refine zW_iadd (pc' := 127) dX12_truthAt_3.2.1.1.2 rfl ?_
              refine zW_iconst (pc' := 128) dX12_truthAt_3.2.1.2.1 rfl ?_
              refine zW_irem (pc' := 129) (by omega) (by omega) dX12_truthAt_3.2.1.2.2 rfl ?_
              refine zV_if_ne (tgt := 137) (pc' := 132) dX12_truthAt_3.2.2.1.1 rfl rfl ⟨by omega, by omega⟩ (fun c129 => ?_) (fun c129 => ?_)
              · refine zW_iload (pc' := 139) dX12_truthAt_3.2.2.2.2 rfl rfl ?_
                exact zV_iret rfl dX12_truthAt_4.1.1.1.1 ⟨rfl, trivial⟩
              · refine zW_iload (pc' := 134) dX12_truthAt_3.2.2.1.2 rfl rfl ?_
                refine zV_goto 139 dX12_truthAt_3.2.2.2.1 rfl ?_
                exact zV_iret rfl dX12_truthAt_4.1.1.1.1 ⟨rfl, trivial⟩
            · refine zW_iload (pc' := 142) dX12_truthAt_4.1.1.1.2 rfl rfl ?_
              refine zW_iload (pc' := 144) dX12_truthAt_4.1.1.2.1 rfl rfl ?_
              refine zW_iload (pc' := 146) dX12_truthAt_4.1.1.2.2 rfl rfl ?_
              refine zW_isub (pc' := 147) dX12_truthAt_4.1.2.1.1 rfl ?_
              refine zW_iload_n (pc' := 148) dX12_truthAt_4.1.2.1.2 rfl rfl ?_
              refine zW_imul (pc' := 149) dX12_truthAt_4.1.2.2 rfl ?_
              refine zW_aload_n (pc' := 150) dX12_truthAt_4.2.1.1.1 rfl rfl ?_
              refine zG_key (pc' := 153) hF rfl fg_X12_99 tb0 rfl dX12_truthAt_4.2.1.1.2 rfl ?_
              refine zW_iconst (pc' := 154) dX12_truthAt_4.2.1.2.1 rfl ?_
              refine zW_isub (pc' := 155) dX12_truthAt_4.2.1.2.2 rfl ?_
              refine zW_idivQ (pc' := 156) ⟨by omega, by omega⟩ (by omega) dX12_truthAt_4.2.2.1.1 rfl (fun v155 e155 => ?_)
              unfold rng at e155
              refine zW_iadd (pc' := 157) dX12_truthAt_4.2.2.1.2 rfl ?_
              exact zV_iret rfl dX12_truthAt_4.2.2.2 ⟨rfl, trivial⟩

abbrev q_X12_truth (κ : Hp) (x1 : Int) : Int → Hp → Prop := fun r h' => Fm [(1, 999), (2, 999), (10, 999), (16, 999), (0, 21), (0, 25), (0, 23)] κ h' ∧ (((0 ≤ r) ∧ (r ≤ 1) ∧ ((r = 1 ∧ (0 ≤ x1 ∧ x1 ≤ 5 ∧ 6 ≤ κ 0 25) ∧ h' 0 25 = 0) ∨ (r = 0 ∧ ¬ (0 ≤ x1 ∧ x1 ≤ 5 ∧ 6 ≤ κ 0 25) ∧ h' 0 25 = κ 0 25))) ∧ ChR κ h')
set_option maxHeartbeats 4000000 in
set_option maxRecDepth 20000 in
theorem s_X12_truth {G : Ga} {κ : Hp} (hS : SI κ) (hR : KR κ) (hC : KC κ) (x1 : Int) (hx1 : rng x1) : zM G mX12_truth yX12_truth [.inr (.inr 0), .inl x1] κ (q_X12_truth κ x1) := by
  have f_0_11 := KRw hR
  have f_0_12 := KRh hR
  have f_0_25 := KRt hR
  unfold rng at hx1
  have main : ∀ N : Nat, (∀ (v2 : Int) (h : Hp), Fm [(1, 999), (2, 999), (10, 999), (16, 999), (0, 21), (0, 25), (0, 23)] κ h → (0 ≤ x1 ∧ x1 ≤ 5) → (0 ≤ v2 ∧ v2 ≤ 6) → (6 ≤ κ 0 25) → (h 0 25 = κ 0 25) → 54888004080 + 33509160 * (6 - v2) + 33144930 < (N : Int) → zV G mX12_truth (q_X12_truth κ x1) 22 [some (.inr (.inr 0)), some (.inl x1), some (.inl v2), none, none, none] [] h) ∧ (∀ (v2 : Int) (h : Hp), Fm [(1, 999), (2, 999), (10, 999), (16, 999), (0, 21), (0, 25), (0, 23)] κ h → (0 ≤ x1 ∧ x1 ≤ 5) → (0 ≤ v2 ∧ v2 ≤ 16) → (v2 - κ 0 12 ≤ 0) → (6 ≤ κ 0 25) → (h 0 25 = 0 ∧ h 0 23 = 0) → 48856355280 + 33509160 * (16 - v2) + 29502630 < (N : Int) → zV G mX12_truth (q_X12_truth κ x1) 61 [some (.inr (.inr 0)), some (.inl x1), some (.inl v2), none, none, none] [] h) ∧ (∀ (v2 v3 : Int) (h : Hp), Fm [(1, 999), (2, 999), (10, 999), (16, 999), (0, 21), (0, 25), (0, 23)] κ h → (0 ≤ x1 ∧ x1 ≤ 5) → (0 ≤ v2 ∧ v2 ≤ 15) → (v2 - κ 0 12 ≤ -1) → (0 ≤ v3 ∧ v3 ≤ 16) → (v3 - κ 0 11 ≤ 0) → (6 ≤ κ 0 25) → (h 0 25 = 0 ∧ h 0 23 = 0) → 48856355280 + 33509160 * (16 - v2) + 25496100 + 20235 * (16 - v3) + 19950 < (N : Int) → zV G mX12_truth (q_X12_truth κ x1) 71 [some (.inr (.inr 0)), some (.inl x1), some (.inl v2), some (.inl v3), none, none] [] h) ∧ (∀ (v2 v3 v4 v5 : Int) (h : Hp), Fm [(1, 999), (2, 999), (10, 999), (16, 999), (0, 21), (0, 25), (0, 23)] κ h → (0 ≤ x1 ∧ x1 ≤ 5) → (0 ≤ v2 ∧ v2 ≤ 15) → (v2 - κ 0 12 ≤ -1) → (0 ≤ v3 ∧ v3 ≤ 15) → (v3 - κ 0 11 ≤ -1) → (0 ≤ v4 ∧ v4 ≤ 255) → (0 ≤ v5 ∧ v5 ≤ 3) → (6 ≤ κ 0 25) → (h 0 25 = 0 ∧ h 0 23 = 0) → 48856355280 + 33509160 * (16 - v2) + 25496100 + 20235 * (16 - v3) + 15960 + 57 * (3 - v5) + 56 < (N : Int) → zV G mX12_truth (q_X12_truth κ x1) 90 [some (.inr (.inr 0)), some (.inl x1), some (.inl v2), some (.inl v3), some (.inl v4), some (.inl v5)] [] h) := by
    intro N
    induction N with
    | zero =>
      refine ⟨?_, ?_, ?_, ?_⟩
      · intro v2 h hF g0 g1 gc0 gc1 hm
        exfalso; omega
      · intro v2 h hF g0 g1 g2 gc0 gc1 hm
        exfalso; omega
      · intro v2 v3 h hF g0 g1 g2 g3 g4 gc0 gc1 hm
        exfalso; omega
      · intro v2 v3 v4 v5 h hF g0 g1 g2 g3 g4 g5 g6 gc0 gc1 hm
        exfalso; omega
    | succ N ih =>
      obtain ⟨k22, k61, k71, k90⟩ := ih
      refine ⟨?_, ?_, ?_, ?_⟩
      · intro v2 h hF g0 g1 gc0 gc1 hm
        refine zW_iload_n (pc' := 23) dX12_truth_0.2.2.1.2 rfl rfl ?_
        refine zW_bipush (pc' := 25) dX12_truth_0.2.2.2.1 rfl rfl ?_
        refine zV_cm_ge (tgt := 50) (pc' := 28) dX12_truth_0.2.2.2.2 rfl rfl ⟨by omega, by omega⟩ ⟨by omega, by omega⟩ (fun c25 => ?_) (fun c25 => ?_)
        · refine zW_aload_n (pc' := 51) dX12_truth_1.2.2.1.1 rfl rfl ?_
          refine zW_iconst (pc' := 52) dX12_truth_1.2.2.1.2 rfl ?_
          refine zPm (pc' := 55) hF (Or.inl rfl) (SI_irr hF.2.1 (Or.inl rfl) (fun _ _ => ⟨by omega, by omega⟩)) (KR_25 hF.2.2.1 (by omega)) (KC_irr hF.2.2.2 rfl) fp_X12_116 tb0 rfl dX12_truth_1.2.2.2.1 rfl (fun h hF w52 => ?_)
          have t52_0_25 := congrFun (congrFun w52 0) 25
          rw [zwr_eq] at t52_0_25
          have t52_0_23 := congrFun (congrFun w52 0) 23
          rw [zwr_ne (Or.inr (by decide))] at t52_0_23
          refine zW_aload_n (pc' := 56) dX12_truth_1.2.2.2.2 rfl rfl ?_
          refine cvV0 (pc' := 59) kX12_changed vX12_changed lk_X12_215 ⟨Nat.le_of_ble_eq_true rfl, Nat.le_of_ble_eq_true rfl⟩ tb0 vq12 rfl rfl (s_X12_changed hF.2.1 hF.2.2.1 hF.2.2.2) dX12_truth_2.1.1.1.1 (Nat.le_of_ble_eq_true rfl) rfl ?_
          rintro r56 h ⟨hF1, p56⟩; replace hF := hF.tr hF1 rfl
          have t56_0_25 := hF1.1 0 25 rfl rfl
          refine zW_iconst (pc' := 60) dX12_truth_2.1.1.1.2 rfl ?_
          refine zW_istore_n (ls' := [_, _, _, _, _, _]) (pc' := 61) dX12_truth_2.1.1.2.1 (by decide) rfl rfl rfl ?_
          exact k61 _ _ hF (by omega) (by omega) (by omega) (by omega) (by omega) (by omega)
        · refine zW_aload_n (pc' := 29) dX12_truth_1.1.1.1.1 rfl rfl ?_
          refine zG_ref (pc' := 32) 16 fg_X12_57 tb0 rfl dX12_truth_1.1.1.1.2 rfl ?_
          refine zW_iload_n (pc' := 33) dX12_truth_1.1.1.2.1 rfl rfl ?_
          refine zW_aload_n (pc' := 34) dX12_truth_1.1.1.2.2 rfl rfl ?_
          refine zG_ref (pc' := 37) 12 fg_X12_44 tb0 rfl dX12_truth_1.1.2.1.1 rfl ?_
          refine zW_iload_n (pc' := 38) dX12_truth_1.1.2.1.2 rfl rfl ?_
          refine zV_bald (pc' := 39) tb12 (by omega) dX12_truth_1.1.2.2.1 (by decide) rfl ?_
          refine zW_sipush (pc' := 42) dX12_truth_1.1.2.2.2 rfl rfl ?_
          refine zW_iandC (pc' := 43) (by omega) dX12_truth_1.2.1.1.1 rfl (fun v42 e42 => ?_)
          refine zSm (pc' := 44) hF rfl (fun v' hv he => ⟨(SI_irr hF.2.1 (Or.inl (key_of rfl _)) (fun _ _ => hv)), (KR_irr hF.2.2.1 rfl), (KC_irr hF.2.2.2 rfl)⟩) tb16 (by omega) dX12_truth_1.2.1.1.2 (by decide) rfl (fun h i43 hF a43 b43 w43 => ?_)
          have t43_0_25 := congrFun (congrFun w43 0) 25
          rw [zwr_ne (Or.inl (by decide))] at t43_0_25
          have t43_0_23 := congrFun (congrFun w43 0) 23
          rw [zwr_ne (Or.inl (by decide))] at t43_0_23
          refine zW_iinc (ls' := [_, _, _, _, _, _]) (pc' := 47) dX12_truth_1.2.1.2.1 rfl (by decide) rfl rfl rfl ?_
          refine zV_goto 22 dX12_truth_1.2.1.2.2 rfl ?_
          exact k22 _ _ hF (by omega) (by omega) (by omega) (by omega) (by omega)
      · intro v2 h hF g0 g1 g2 gc0 gc1 hm
        refine zW_iload_n (pc' := 62) dX12_truth_2.1.1.2.2 rfl rfl ?_
        refine zW_aload_n (pc' := 63) dX12_truth_2.1.2.1.1 rfl rfl ?_
        refine zGm (pc' := 66) hF rfl rfl fg_X12_103 tb0 rfl dX12_truth_2.1.2.1.2 rfl ?_
        refine zV_cm_ge (tgt := 170) (pc' := 69) dX12_truth_2.1.2.2.1 rfl rfl ⟨by omega, by omega⟩ ⟨by omega, by omega⟩ (fun c66 => ?_) (fun c66 => ?_)
        · refine zW_aload_n (pc' := 171) dX12_truth_6.1.1.1 rfl rfl ?_
          refine zW_iconst (pc' := 172) dX12_truth_6.1.1.2 rfl ?_
          refine zPmz (pc' := 175) hF (Or.inl rfl) (SI_irr hF.2.1 (Or.inl rfl) (fun _ _ => ⟨by omega, by omega⟩)) (KR_21 hF.2.2.1 (by omega)) (KC_irr hF.2.2.2 rfl) (by omega) fp_X12_212 tb0 rfl dX12_truth_6.1.2 rfl (fun h hF w172 => ?_)
          have t172_0_25 := congrFun (congrFun w172 0) 25
          rw [zwr_ne (Or.inr (by decide))] at t172_0_25
          have t172_0_23 := congrFun (congrFun w172 0) 23
          rw [zwr_ne (Or.inr (by decide))] at t172_0_23
          refine zW_iconst (pc' := 176) dX12_truth_6.2.1 rfl ?_
          exact zV_zret rfl (by omega) dX12_truth_6.2.2 ⟨hF, ⟨by omega, (by first | exact Or.inl (by omega) | exact Or.inr hU | exact Or.inr (by rw [hk0]; exact UnR.rf))⟩⟩
        · refine zW_iconst (pc' := 70) dX12_truth_2.1.2.2.2 rfl ?_
          refine zW_istore_n (ls' := [_, _, _, _, _, _]) (pc' := 71) dX12_truth_2.2.1.1.1 (by decide) rfl rfl rfl ?_
          exact k71 _ _ _ hF (by omega) (by omega) (by omega) (by omega) (by omega) (by omega) (by omega) (by omega)
      · intro v2 v3 h hF g0 g1 g2 g3 g4 gc0 gc1 hm
        refine zW_iload_n (pc' := 72) dX12_truth_2.2.1.1.2 rfl rfl ?_
        refine zW_aload_n (pc' := 73) dX12_truth_2.2.1.2.1 rfl rfl ?_
        refine zGm (pc' := 76) hF rfl rfl fg_X12_99 tb0 rfl dX12_truth_2.2.1.2.2 rfl ?_
        refine zV_cm_ge (tgt := 164) (pc' := 79) dX12_truth_2.2.2.1.1 rfl rfl ⟨by omega, by omega⟩ ⟨by omega, by omega⟩ (fun c76 => ?_) (fun c76 => ?_)
        · refine zW_iinc (ls' := [_, _, _, _, _, _]) (pc' := 167) dX12_truth_5.2.2.2.1 rfl (by decide) rfl rfl rfl ?_
          refine zV_goto 61 dX12_truth_5.2.2.2.2 rfl ?_
          refine zV_clr 3 (ls' := [_, _, _, _, _, _]) rfl ?_
          exact k61 _ _ hF (by omega) (by omega) (by omega) (by omega) (by omega) (by omega)
        · refine zW_bipush (pc' := 81) dX12_truth_2.2.2.1.2 rfl rfl ?_
          refine zW_iload_n (pc' := 82) dX12_truth_2.2.2.2.1 rfl rfl ?_
          refine zW_imul (pc' := 83) dX12_truth_2.2.2.2.2 rfl ?_
          refine zW_iload_n (pc' := 84) dX12_truth_3.1.1.1.1 rfl rfl ?_
          refine zW_iadd (pc' := 85) dX12_truth_3.1.1.1.2 rfl ?_
          refine zW_istore (ls' := [_, _, _, _, _, _]) (pc' := 87) dX12_truth_3.1.1.2.1 (by decide) rfl rfl rfl ?_
          refine zW_iconst (pc' := 88) dX12_truth_3.1.1.2.2 rfl ?_
          refine zW_istore (ls' := [_, _, _, _, _, _]) (pc' := 90) dX12_truth_3.1.2.1.1 (by decide) rfl rfl rfl ?_
          exact k90 _ _ _ _ _ hF (by omega) (by omega) (by omega) (by omega) (by omega) (by omega) (by omega) (by omega) (by omega) (by omega)
      · intro v2 v3 v4 v5 h hF g0 g1 g2 g3 g4 g5 g6 gc0 gc1 hm
        refine zW_iload (pc' := 92) dX12_truth_3.1.2.1.2 rfl rfl ?_
        refine zW_iconst (pc' := 93) dX12_truth_3.1.2.2.1 rfl ?_
        refine zV_cm_ge (tgt := 125) (pc' := 96) dX12_truth_3.1.2.2.2 rfl rfl ⟨by omega, by omega⟩ ⟨by omega, by omega⟩ (fun c93 => ?_) (fun c93 => ?_)
        · refine zW_aload_n (pc' := 126) dX12_truth_4.2.1.1.1 rfl rfl ?_
          refine zG_ref (pc' := 129) 1 fg_X12_7 tb0 rfl dX12_truth_4.2.1.1.2 rfl ?_
          refine zW_iload (pc' := 131) dX12_truth_4.2.1.2.1 rfl rfl ?_
          refine zW_aload_n (pc' := 132) dX12_truth_4.2.1.2.2 rfl rfl ?_
          refine zG_ref (pc' := 135) 2 fg_X12_13 tb0 rfl dX12_truth_4.2.2.1.1 rfl ?_
          refine zW_sipush (pc' := 138) dX12_truth_4.2.2.1.2 rfl rfl ?_
          refine zW_aload_n (pc' := 139) dX12_truth_4.2.2.2.1 rfl rfl ?_
          refine zW_iload_n (pc' := 140) dX12_truth_4.2.2.2.2 rfl rfl ?_
          refine zW_iload_n (pc' := 141) dX12_truth_5.1.1.1.1 rfl rfl ?_
          refine cvI2 (pc' := 144) kX12_colourAt vX12_colourAt lk_X12_225 ⟨Nat.le_of_ble_eq_true rfl, Nat.le_of_ble_eq_true rfl⟩ tb0 vq12 rfl rfl (s_X12_colourAt (b := bdB true) (κ := h) hF.2.2.1 (Fr.rf hF.2.1) _ ⟨by omega, by omega⟩ _ ⟨by omega, by omega⟩) dX12_truth_5.1.1.1.2 (Nat.le_of_ble_eq_true rfl) rfl ?_
          rintro r141 z141 ⟨hz141, p141⟩; subst z141
          refine zW_imul (pc' := 145) dX12_truth_5.1.1.2.1 rfl ?_
          refine zW_iload (pc' := 147) dX12_truth_5.1.1.2.2 rfl rfl ?_
          refine zW_iadd (pc' := 148) dX12_truth_5.1.2.1.1 rfl ?_
          refine zAmI (pc' := 149) hF (by decide) (by decide) tb2 (by omega) dX12_truth_5.1.2.1.2 (by decide) rfl (fun e148 => ?_)
          refine zSm (pc' := 150) hF rfl (fun v' hv he => ⟨(SI_irr hF.2.1 (Or.inl (key_of rfl _)) (fun _ _ => hv)), (KR_irr hF.2.2.1 rfl), (KC_irr hF.2.2.2 rfl)⟩) tb1 (by omega) dX12_truth_5.1.2.2.1 (by decide) rfl (fun h i149 hF a149 b149 w149 => ?_)
          have t149_0_25 := congrFun (congrFun w149 0) 25
          rw [zwr_ne (Or.inl (by decide))] at t149_0_25
          have t149_0_23 := congrFun (congrFun w149 0) 23
          rw [zwr_ne (Or.inl (by decide))] at t149_0_23
          refine zW_aload_n (pc' := 151) dX12_truth_5.1.2.2.2 rfl rfl ?_
          refine zG_ref (pc' := 154) 10 fg_X12_37 tb0 rfl dX12_truth_5.2.1.1.1 rfl ?_
          refine zW_iload (pc' := 156) dX12_truth_5.2.1.1.2 rfl rfl ?_
          refine zW_iconst (pc' := 157) dX12_truth_5.2.1.2.1 rfl ?_
          refine zSmz (pc' := 158) hF rfl ⟨(SI_irr hF.2.1 (Or.inl (key_of rfl _)) (fun _ _ => ⟨by omega, by omega⟩)), (KR_c10 hF.2.2.1 (by omega)), (KC_irr hF.2.2.2 rfl)⟩ tb10 (by omega) (by omega) dX12_truth_5.2.1.2.2 (by decide) rfl (fun h hF w157 => ?_)
          have t157_0_25 := congrFun (congrFun w157 0) 25
          rw [zwr_ne (Or.inl (by decide))] at t157_0_25
          have t157_0_23 := congrFun (congrFun w157 0) 23
          rw [zwr_ne (Or.inl (by decide))] at t157_0_23
          refine zW_iinc (ls' := [_, _, _, _, _, _]) (pc' := 161) dX12_truth_5.2.2.1.1 rfl (by decide) rfl rfl rfl ?_
          refine zV_goto 71 dX12_truth_5.2.2.1.2 rfl ?_
          refine zV_clr 4 (ls' := [_, _, _, _, _, _]) rfl ?_
          refine zV_clr 5 (ls' := [_, _, _, _, _, _]) rfl ?_
          exact k71 _ _ _ hF (by omega) (by omega) (by omega) (by omega) (by omega) (by omega) (by omega) (by omega)
        · refine zW_aload_n (pc' := 97) dX12_truth_3.2.1.1.1 rfl rfl ?_
          refine zG_ref (pc' := 100) 2 fg_X12_13 tb0 rfl dX12_truth_3.2.1.1.2 rfl ?_
          refine zW_sipush (pc' := 103) dX12_truth_3.2.1.2.1 rfl rfl ?_
          refine zW_iload (pc' := 105) dX12_truth_3.2.1.2.2 rfl rfl ?_
          refine zW_imul (pc' := 106) dX12_truth_3.2.2.1.1 rfl ?_
          refine zW_iload (pc' := 108) dX12_truth_3.2.2.1.2 rfl rfl ?_
          refine zW_iadd (pc' := 109) dX12_truth_3.2.2.2.1 rfl ?_
          refine zW_aload_n (pc' := 110) dX12_truth_3.2.2.2.2 rfl rfl ?_
          refine zW_iload_n (pc' := 111) dX12_truth_4.1.1.1.1 rfl rfl ?_
          refine zW_iload_n (pc' := 112) dX12_truth_4.1.1.1.2 rfl rfl ?_
          refine zW_iload_n (pc' := 113) dX12_truth_4.1.1.2.1 rfl rfl ?_
          refine zW_iload (pc' := 115) dX12_truth_4.1.1.2.2 rfl rfl ?_
          have y115_0_11 := hF.1 0 11 rfl rfl
          have y115_0_12 := hF.1 0 12 rfl rfl
          refine cvI4 (pc' := 118) kX12_truthAt vX12_truthAt lk_X12_232 ⟨Nat.le_of_ble_eq_true rfl, Nat.le_of_ble_eq_true rfl⟩ tb0 vq12 rfl rfl (s_X12_truthAt (b := bdB true) (κ := h) hF.2.2.1 (Fr.rf hF.2.1) _ ⟨by omega, by omega⟩ _ ⟨by omega, by omega, by omega⟩ _ ⟨by omega, by omega, by omega⟩ _ ⟨by omega, by omega⟩) dX12_truth_4.1.2.1.1 (Nat.le_of_ble_eq_true rfl) rfl ?_
          rintro r115 z115 ⟨hz115, p115⟩; subst z115
          refine zSm (pc' := 119) hF rfl (fun v' hv he => ⟨(SI_irr hF.2.1 (Or.inl (key_of rfl _)) (fun _ _ => hv)), (KR_irr hF.2.2.1 rfl), (KC_irr hF.2.2.2 rfl)⟩) tb2 (by omega) dX12_truth_4.1.2.1.2 (by decide) rfl (fun h i118 hF a118 b118 w118 => ?_)
          have t118_0_25 := congrFun (congrFun w118 0) 25
          rw [zwr_ne (Or.inl (by decide))] at t118_0_25
          have t118_0_23 := congrFun (congrFun w118 0) 23
          rw [zwr_ne (Or.inl (by decide))] at t118_0_23
          refine zW_iinc (ls' := [_, _, _, _, _, _]) (pc' := 122) dX12_truth_4.1.2.2.1 rfl (by decide) rfl rfl rfl ?_
          refine zV_goto 90 dX12_truth_4.1.2.2.2 rfl ?_
          exact k90 _ _ _ _ _ hF (by omega) (by omega) (by omega) (by omega) (by omega) (by omega) (by omega) (by omega) (by omega) (by omega)
  refine zM_of [some (.inr (.inr 0)), some (.inl x1), none, none, none, none] 4 rfl rfl (Nat.le_of_ble_eq_true rfl) rfl ?_
  refine (show ∀ h : Hp, Fm [(1, 999), (2, 999), (10, 999), (16, 999), (0, 21), (0, 25), (0, 23)] κ h → h = κ → zV G mX12_truth (q_X12_truth κ x1) 0 [some (.inr (.inr 0)), some (.inl x1), none, none, none, none] [] h from fun h hF hk0 => ?_) κ (Fm.rf hS hR hC) rfl
  have y0_0_25 : h 0 25 = κ 0 25 := by rw [hk0]
  refine zW_iload_n (pc' := 1) dX12_truth_0.1.1.1.1 rfl rfl ?_
  refine zW_iconst (pc' := 2) dX12_truth_0.1.1.1.2 rfl ?_
  refine zW_iconst (pc' := 3) dX12_truth_0.1.1.2.1 rfl ?_
  refine csI3 (pc' := 6) kX12_in vX12_in lk_X12_140 ⟨Nat.le_of_ble_eq_true rfl, Nat.le_of_ble_eq_true rfl⟩ rfl (s_X12_inR (b := bdB true) (κ := h) (Fr.rf hF.2.1) _ ⟨by omega, by omega⟩ _ ⟨by omega, by omega⟩ _ ⟨by omega, by omega⟩) dX12_truth_0.1.1.2.2 (Nat.le_of_ble_eq_true rfl) rfl ?_
  rintro r3 z3 ⟨hz3, p3⟩; subst z3
  refine zV_if_eq (tgt := 18) (pc' := 9) dX12_truth_0.1.2.1.1 rfl rfl ⟨by omega, by omega⟩ (fun c6 => ?_) (fun c6 => ?_)
  · refine zW_iconst (pc' := 19) dX12_truth_0.2.1.1.2 rfl ?_
    exact zV_zret rfl (by omega) dX12_truth_0.2.1.2.1 ⟨hF, ⟨by omega, (by first | exact Or.inl (by omega) | exact Or.inr hU | exact Or.inr (by rw [hk0]; exact UnR.rf))⟩⟩
  · refine zW_aload_n (pc' := 10) dX12_truth_0.1.2.1.2 rfl rfl ?_
    refine zG_int (pc' := 13) fg_X12_116 tb0 rfl dX12_truth_0.1.2.2.1 rfl ?_
    have e10 := KRt hF.2.2.1
    refine zW_bipush (pc' := 15) dX12_truth_0.1.2.2.2 rfl rfl ?_
    refine zV_cm_ge (tgt := 20) (pc' := 18) dX12_truth_0.2.1.1.1 rfl rfl ⟨by omega, by omega⟩ ⟨by omega, by omega⟩ (fun c15 => ?_) (fun c15 => ?_)
    · refine zW_iconst (pc' := 21) dX12_truth_0.2.1.2.2 rfl ?_
      refine zW_istore_n (ls' := [_, _, _, _, _, _]) (pc' := 22) dX12_truth_0.2.2.1.1 (by decide) rfl rfl rfl ?_
      exact (main 10000000000000000000000000000000000000000).1 _ _ hF (by omega) (by omega) (by omega) (by omega) (by omega)
    · refine zW_iconst (pc' := 19) dX12_truth_0.2.1.1.2 rfl ?_
      exact zV_zret rfl (by omega) dX12_truth_0.2.1.2.1 ⟨hF, ⟨by omega, (by first | exact Or.inl (by omega) | exact Or.inr hU | exact Or.inr (by rw [hk0]; exact UnR.rf))⟩⟩

abbrev q_X12_seed (κ : Hp) (x1 : Int) : Int → Hp → Prop := fun r h' => Fm [(0, 15)] κ h' ∧ ((0 ≤ r) ∧ (r ≤ 1) ∧ (r = 1 ↔ (0 ≤ x1 ∧ x1 ≤ 65535)))
set_option maxHeartbeats 4000000 in
set_option maxRecDepth 20000 in
theorem s_X12_seed {G : Ga} {κ : Hp} (hS : SI κ) (hR : KR κ) (hC : KC κ) (x1 : Int) (hx1 : rng x1) : zM G mX12_seed yX12_seed [.inr (.inr 0), .inl x1] κ (q_X12_seed κ x1) := by
  unfold rng at hx1
  refine zM_of [some (.inr (.inr 0)), some (.inl x1)] 0 rfl rfl (Nat.le_of_ble_eq_true rfl) rfl ?_
  refine (show ∀ h : Hp, Fm [(0, 15)] κ h → h = κ → zV G mX12_seed (q_X12_seed κ x1) 0 [some (.inr (.inr 0)), some (.inl x1)] [] h from fun h hF hk0 => ?_) κ (Fm.rf hS hR hC) rfl
  refine zW_iload_n (pc' := 1) dX12_seed_0.1.1.1.1 rfl rfl ?_
  refine zW_iconst (pc' := 2) dX12_seed_0.1.1.1.2 rfl ?_
  refine zV_ldc_w (n := 65535) (pc' := 5) kc_X12_456 rfl dX12_seed_0.1.1.2 rfl ?_
  refine csI3 (pc' := 8) kX12_in vX12_in lk_X12_140 ⟨Nat.le_of_ble_eq_true rfl, Nat.le_of_ble_eq_true rfl⟩ rfl (s_X12_inR (b := bdB true) (κ := h) (Fr.rf hF.2.1) _ ⟨by omega, by omega⟩ _ ⟨by omega, by omega⟩ _ ⟨by omega, by omega⟩) dX12_seed_0.1.2.1.1 (Nat.le_of_ble_eq_true rfl) rfl ?_
  rintro r5 z5 ⟨hz5, p5⟩; subst z5
  refine zV_if_ne (tgt := 13) (pc' := 11) dX12_seed_0.1.2.1.2 rfl rfl ⟨by omega, by omega⟩ (fun c8 => ?_) (fun c8 => ?_)
  · refine zW_aload_n (pc' := 14) dX12_seed_0.2.1.1.2 rfl rfl ?_
    refine zW_iload_n (pc' := 15) dX12_seed_0.2.1.2 rfl rfl ?_
    refine zPm (pc' := 18) hF (Or.inl rfl) (SI_irr hF.2.1 (Or.inl rfl) (fun _ _ => ⟨by omega, by omega⟩)) (KR_15 hF.2.2.1 (by omega)) (KC_irr hF.2.2.2 rfl) fp_X12_106 tb0 rfl dX12_seed_0.2.2.1.1 rfl (fun h hF w15 => ?_)
    refine zW_iconst (pc' := 19) dX12_seed_0.2.2.1.2 rfl ?_
    exact zV_zret rfl (by omega) dX12_seed_0.2.2.2 ⟨hF, by omega⟩
  · refine zW_iconst (pc' := 12) dX12_seed_0.1.2.2 rfl ?_
    exact zV_zret rfl (by omega) dX12_seed_0.2.1.1.1 ⟨hF, by omega⟩

abbrev q_X12_check (κ : Hp) (x1 : Int) : Int → Hp → Prop := fun r h' => Fm [(0, 25)] κ h' ∧ (((0 ≤ x1 ∧ x1 ≤ 16 ∧ x1 ≤ κ 0 25 ∧ h' 0 25 = 0) ∨ (¬ (0 ≤ x1 ∧ x1 ≤ 16 ∧ x1 ≤ κ 0 25) ∧ h' 0 25 = κ 0 25 ∧ r = -2)))
set_option maxHeartbeats 4000000 in
set_option maxRecDepth 20000 in
theorem s_X12_check {G : Ga} {κ : Hp} (hS : SI κ) (hR : KR κ) (hC : KC κ) (x1 : Int) (hx1 : rng x1) : zM G mX12_check yX12_check [.inr (.inr 0), .inl x1] κ (q_X12_check κ x1) := by
  have f_0_11 := KRw hR
  have f_0_25 := KRt hR
  unfold rng at hx1
  have main : ∀ N : Nat, (∀ (v2 v3 : Int) (h : Hp), Fm [(0, 25)] κ h → (0 ≤ x1 ∧ x1 ≤ 16) → (-1 ≤ v2 ∧ v2 ≤ 15) → (-1 ≤ v3 ∧ v3 ≤ 15) → (x1 ≤ κ 0 25) → (h 0 25 = κ 0 25) → 15660 + 30 * (v3 - (-1)) + 29 < (N : Int) → zV G mX12_check (q_X12_check κ x1) 27 [some (.inr (.inr 0)), some (.inl x1), some (.inl v2), some (.inl v3)] [] h) := by
    intro N
    induction N with
    | zero =>
      intro v2 v3 h hF g0 g1 g2 gc0 gc1 hm
      exfalso; omega
    | succ N ih =>
      have k27 := ih
      intro v2 v3 h hF g0 g1 g2 gc0 gc1 hm
      refine zW_iload_n (pc' := 28) dX12_check_1.1.1.1.2 rfl rfl ?_
      refine zV_if_lt (tgt := 66) (pc' := 31) dX12_check_1.1.1.2.1 rfl rfl ⟨by omega, by omega⟩ (fun c28 => ?_) (fun c28 => ?_)
      · refine zW_aload_n (pc' := 67) dX12_check_2.2.1.1.1 rfl rfl ?_
        refine zW_iconst (pc' := 68) dX12_check_2.2.1.1.2 rfl ?_
        refine zPm (pc' := 71) hF (Or.inl rfl) (SI_irr hF.2.1 (Or.inl rfl) (fun _ _ => ⟨by omega, by omega⟩)) (KR_25 hF.2.2.1 (by omega)) (KC_irr hF.2.2.2 rfl) fp_X12_116 tb0 rfl dX12_check_2.2.1.2 rfl (fun h hF w68 => ?_)
        have t68_0_25 := congrFun (congrFun w68 0) 25
        rw [zwr_eq] at t68_0_25
        refine zW_iload_n (pc' := 72) dX12_check_2.2.2.1 rfl rfl ?_
        exact zV_iret rfl dX12_check_2.2.2.2 ⟨hF, by omega⟩
      · refine zW_iload_n (pc' := 32) dX12_check_1.1.1.2.2 rfl rfl ?_
        refine zW_aload_n (pc' := 33) dX12_check_1.1.2.1.1 rfl rfl ?_
        refine zGm (pc' := 36) hF rfl rfl fg_X12_99 tb0 rfl dX12_check_1.1.2.1.2 rfl ?_
        refine zV_cm_ge (tgt := 58) (pc' := 39) dX12_check_1.1.2.2.1 rfl rfl ⟨by omega, by omega⟩ ⟨by omega, by omega⟩ (fun c36 => ?_) (fun c36 => ?_)
        · refine zW_iload_n (pc' := 59) dX12_check_2.1.1.2 rfl rfl ?_
          refine zW_istore_n (ls' := [_, _, _, _]) (pc' := 60) dX12_check_2.1.2.1.1 (by decide) rfl rfl rfl ?_
          refine zW_iinc (ls' := [_, _, _, _]) (pc' := 63) dX12_check_2.1.2.1.2 rfl (by decide) rfl rfl rfl ?_
          refine zV_goto 27 dX12_check_2.1.2.2 rfl ?_
          exact k27 _ _ _ hF (by omega) (by omega) (by omega) (by omega) (by omega) (by omega)
        · refine zW_aload_n (pc' := 40) dX12_check_1.1.2.2.2 rfl rfl ?_
          refine zG_ref (pc' := 43) 12 fg_X12_44 tb0 rfl dX12_check_1.2.1.1.1 rfl ?_
          refine zW_iload_n (pc' := 44) dX12_check_1.2.1.1.2 rfl rfl ?_
          refine zV_bald (pc' := 45) tb12 (by omega) dX12_check_1.2.1.2.1 (by decide) rfl ?_
          refine zW_sipush (pc' := 48) dX12_check_1.2.1.2.2 rfl rfl ?_
          refine zW_iandC (pc' := 49) (by omega) dX12_check_1.2.2.1.1 rfl (fun v48 e48 => ?_)
          refine zW_aload_n (pc' := 50) dX12_check_1.2.2.1.2 rfl rfl ?_
          refine zG_ref (pc' := 53) 1 fg_X12_7 tb0 rfl dX12_check_1.2.2.2.1 rfl ?_
          refine zW_iload_n (pc' := 54) dX12_check_1.2.2.2.2 rfl rfl ?_
          refine zAm (pc' := 55) hF rfl (fun _ => rfl) tb1 (by omega) dX12_check_2.1.1.1.1 (by decide) rfl (fun e54 => ?_)
          refine zV_cm_eq (tgt := 60) (pc' := 58) dX12_check_2.1.1.1.2 rfl rfl ⟨by omega, by omega⟩ ⟨by omega, by omega⟩ (fun c55 => ?_) (fun c55 => ?_)
          · refine zW_iinc (ls' := [_, _, _, _]) (pc' := 63) dX12_check_2.1.2.1.2 rfl (by decide) rfl rfl rfl ?_
            refine zV_goto 27 dX12_check_2.1.2.2 rfl ?_
            exact k27 _ _ _ hF (by omega) (by omega) (by omega) (by omega) (by omega) (by omega)
          · refine zW_iload_n (pc' := 59) dX12_check_2.1.1.2 rfl rfl ?_
            refine zW_istore_n (ls' := [_, _, _, _]) (pc' := 60) dX12_check_2.1.2.1.1 (by decide) rfl rfl rfl ?_
            refine zW_iinc (ls' := [_, _, _, _]) (pc' := 63) dX12_check_2.1.2.1.2 rfl (by decide) rfl rfl rfl ?_
            refine zV_goto 27 dX12_check_2.1.2.2 rfl ?_
            exact k27 _ _ _ hF (by omega) (by omega) (by omega) (by omega) (by omega) (by omega)
  refine zM_of [some (.inr (.inr 0)), some (.inl x1), none, none] 2 rfl rfl (Nat.le_of_ble_eq_true rfl) rfl ?_
  refine (show ∀ h : Hp, Fm [(0, 25)] κ h → h = κ → zV G mX12_check (q_X12_check κ x1) 0 [some (.inr (.inr 0)), some (.inl x1), none, none] [] h from fun h hF hk0 => ?_) κ (Fm.rf hS hR hC) rfl
  have y0_0_25 : h 0 25 = κ 0 25 := by rw [hk0]
  refine zW_iload_n (pc' := 1) dX12_check_0.1.1.1.1 rfl rfl ?_
  refine zW_iconst (pc' := 2) dX12_check_0.1.1.1.2 rfl ?_
  refine zW_bipush (pc' := 4) dX12_check_0.1.1.2.1 rfl rfl ?_
  refine csI3 (pc' := 7) kX12_in vX12_in lk_X12_140 ⟨Nat.le_of_ble_eq_true rfl, Nat.le_of_ble_eq_true rfl⟩ rfl (s_X12_inR (b := bdB true) (κ := h) (Fr.rf hF.2.1) _ ⟨by omega, by omega⟩ _ ⟨by omega, by omega⟩ _ ⟨by omega, by omega⟩) dX12_check_0.1.1.2.2 (Nat.le_of_ble_eq_true rfl) rfl ?_
  rintro r4 z4 ⟨hz4, p4⟩; subst z4
  refine zV_if_eq (tgt := 18) (pc' := 10) dX12_check_0.1.2.1.1 rfl rfl ⟨by omega, by omega⟩ (fun c7 => ?_) (fun c7 => ?_)
  · refine zW_bipush (pc' := 20) dX12_check_0.2.1.1.2 rfl rfl ?_
    exact zV_iret rfl dX12_check_0.2.1.2.1 ⟨hF, by omega⟩
  · refine zW_iload_n (pc' := 11) dX12_check_0.1.2.1.2 rfl rfl ?_
    refine zW_aload_n (pc' := 12) dX12_check_0.1.2.2.1 rfl rfl ?_
    refine zG_int (pc' := 15) fg_X12_116 tb0 rfl dX12_check_0.1.2.2.2 rfl ?_
    have e12 := KRt hF.2.2.1
    refine zV_cm_le (tgt := 21) (pc' := 18) dX12_check_0.2.1.1.1 rfl rfl ⟨by omega, by omega⟩ ⟨by omega, by omega⟩ (fun c15 => ?_) (fun c15 => ?_)
    · refine zW_iconst (pc' := 22) dX12_check_0.2.1.2.2 rfl ?_
      refine zW_istore_n (ls' := [_, _, _, _]) (pc' := 23) dX12_check_0.2.2.1.1 (by decide) rfl rfl rfl ?_
      refine zW_iload_n (pc' := 24) dX12_check_0.2.2.1.2 rfl rfl ?_
      refine zW_iconst (pc' := 25) dX12_check_0.2.2.2.1 rfl ?_
      refine zW_isub (pc' := 26) dX12_check_0.2.2.2.2 rfl ?_
      refine zW_istore_n (ls' := [_, _, _, _]) (pc' := 27) dX12_check_1.1.1.1.1 (by decide) rfl rfl rfl ?_
      exact (main 10000000000000000000000000000000000000000) _ _ _ hF (by omega) (by omega) (by omega) (by omega) (by omega) (by omega)
    · refine zW_bipush (pc' := 20) dX12_check_0.2.1.1.2 rfl rfl ?_
      exact zV_iret rfl dX12_check_0.2.1.2.1 ⟨hF, by omega⟩
