theorem KCdt {κ : Hp} (h : KC κ) : ∀ j, 0 ≤ κ 51 j ∧ κ 51 j ≤ 64 := h.2.2.2.2.2.2.2.2.2
theorem zAmD {G : Ga} {μ : Mt} {Q : Int → Hp → Prop} {pc pc' : Nat} {ls : Lo} {st : List Sv} {h κ : Hp} {L : List (Nat × Nat)} {i : Int} (hF : Fm L κ h) (ht : tab[51]? = some (1, 0, [14])) (hi : 0 ≤ i ∧ i < 14) (hd : decode μ.1 pc = .ok (.iaload, 1)) (hn : pc + 1 = pc') (kk : 0 ≤ h 51 i.toNat ∧ h 51 i.toNat ≤ 64 → zV G μ Q pc' ls (.inl (h 51 i.toNat) :: st) h) : zV G μ Q pc ls (.inl i :: .inr (.inr 51) :: st) h :=
  zV_iald ht hi hd (by decide) hn (kk (KCdt hF.2.2.2 _))
abbrev q_X7_clearV49 (κ : Hp)  : Int → Hp → Prop := fun r h' => Fm [(49, 0), (49, 1), (51, 999)] κ h' ∧ (True)
set_option maxHeartbeats 4000000 in
set_option maxRecDepth 20000 in
theorem s_X7_clearV49 {G : Ga} {κ : Hp} (hS : SI κ) (hR : KR κ) (hC : KC κ)  : zM G mX7_clear yX7_clear [.inr (.inr 49)] κ (q_X7_clearV49 κ) := by
  refine zM_of [some (.inr (.inr 49))] 0 rfl rfl (Nat.le_of_ble_eq_true rfl) rfl ?_
  refine (show ∀ h : Hp, Fm [(49, 0), (49, 1), (51, 999)] κ h → h = κ → zV G mX7_clear (q_X7_clearV49 κ) 0 [some (.inr (.inr 49))] [] h from fun h hF hk0 => ?_) κ (Fm.rf hS hR hC) rfl
  refine zW_aload_n (pc' := 1) dX7_clear_0.1.1.1.1 rfl rfl ?_
  refine zW_iconst (pc' := 2) dX7_clear_0.1.1.1.2 rfl ?_
  refine zPm (pc' := 5) hF (Or.inl rfl) (SI_irr hF.2.1 (Or.inl rfl) (fun _ _ => ⟨by omega, by omega⟩)) (KR_irr hF.2.2.1 rfl) (KC_49_0 hF.2.2.2 (by omega)) fp_X7_21 tb49 rfl dX7_clear_0.1.1.2 rfl (fun h hF w2 => ?_)
  refine zW_aload_n (pc' := 6) dX7_clear_0.1.2.1.1 rfl rfl ?_
  refine zW_iconst (pc' := 7) dX7_clear_0.1.2.1.2 rfl ?_
  refine zPm (pc' := 10) hF (Or.inl rfl) (SI_irr hF.2.1 (Or.inl rfl) (fun _ _ => ⟨by omega, by omega⟩)) (KR_irr hF.2.2.1 rfl) (KC_49_1 hF.2.2.2 (by omega)) fp_X7_25 tb49 rfl dX7_clear_0.1.2.2 rfl (fun h hF w7 => ?_)
  refine zW_aload_n (pc' := 11) dX7_clear_0.2.1.1.1 rfl rfl ?_
  refine zG_ref (pc' := 14) 51 fg_X7_15 tb49 rfl dX7_clear_0.2.1.1.2 rfl ?_
  refine zW_iconst (pc' := 15) dX7_clear_0.2.1.2 rfl ?_
  refine zW_iconst (pc' := 16) dX7_clear_0.2.2.1.1 rfl ?_
  refine zSm (pc' := 17) hF rfl (fun v' hv he => ⟨(SI_irr hF.2.1 (Or.inl (key_of rfl _)) (fun _ _ => hv)), (KR_irr hF.2.2.1 rfl), (KC_c51 hF.2.2.2 (by have := he ⟨by omega, by omega⟩; omega))⟩) tb51 (by omega) dX7_clear_0.2.2.1.2 (by decide) rfl (fun h i16 hF a16 b16 w16 => ?_)
  exact zV_vret rfl dX7_clear_0.2.2.2 ⟨hF, trivial⟩

abbrev q_X7_addStageV49 (κ : Hp) (x1 : Int) : Int → Hp → Prop := fun r h' => Fm [(49, 0), (49, 1), (50, 999), (51, 999)] κ h' ∧ (True)
set_option maxHeartbeats 4000000 in
set_option maxRecDepth 20000 in
theorem s_X7_addStageV49 {G : Ga} {κ : Hp} (hS : SI κ) (hR : KR κ) (hC : KC κ) (x1 : Int) : zM G mX7_addStage yX7_addStage [.inr (.inr 49), .inl x1] κ (q_X7_addStageV49 κ x1) := by
  have f_41_0 := KCm hC
  have f_45_0 := KCr0 hC
  have f_49_0 := KCd0 hC
  refine zM_of [some (.inr (.inr 49)), some (.inl x1)] 0 rfl rfl (Nat.le_of_ble_eq_true rfl) rfl ?_
  refine (show ∀ h : Hp, Fm [(49, 0), (49, 1), (50, 999), (51, 999)] κ h → h = κ → zV G mX7_addStage (q_X7_addStageV49 κ x1) 0 [some (.inr (.inr 49)), some (.inl x1)] [] h from fun h hF hk0 => ?_) κ (Fm.rf hS hR hC) rfl
  refine zW_aload_n (pc' := 1) dX7_addStage_0.1.1.1.1 rfl rfl ?_
  refine zG_int (pc' := 4) fg_X7_21 tb49 rfl dX7_addStage_0.1.1.1.2 rfl ?_
  have e1 := KCd0 hF.2.2.2
  refine zW_bipush (pc' := 6) dX7_addStage_0.1.1.2.1 rfl rfl ?_
  refine zV_cm_ge (tgt := 63) (pc' := 9) dX7_addStage_0.1.1.2.2 rfl rfl ⟨by omega, by omega⟩ ⟨by omega, by omega⟩ (fun c6 => ?_) (fun c6 => ?_)
  · exact zV_vret rfl dX7_addStage_2.2.2 ⟨hF, trivial⟩
  · refine zW_aload_n (pc' := 10) dX7_addStage_0.1.2.1.1 rfl rfl ?_
    refine zW_dup (pc' := 11) dX7_addStage_0.1.2.1.2 rfl rfl ?_
    refine zG_int (pc' := 14) fg_X7_21 tb49 rfl dX7_addStage_0.1.2.2.1 rfl ?_
    have e11 := KCd0 hF.2.2.2
    refine zW_iconst (pc' := 15) dX7_addStage_0.1.2.2.2 rfl ?_
    refine zW_iadd (pc' := 16) dX7_addStage_0.2.1.1.1 rfl ?_
    refine zPm (pc' := 19) hF (Or.inl rfl) (SI_irr hF.2.1 (Or.inl rfl) (fun _ _ => ⟨by omega, by omega⟩)) (KR_irr hF.2.2.1 rfl) (KC_49_0 hF.2.2.2 (by omega)) fp_X7_21 tb49 rfl dX7_addStage_0.2.1.1.2 rfl (fun h hF w16 => ?_)
    refine zW_aload_n (pc' := 20) dX7_addStage_0.2.1.2.1 rfl rfl ?_
    refine zG_ref (pc' := 23) 50 fg_X7_9 tb49 rfl dX7_addStage_0.2.1.2.2 rfl ?_
    refine zW_aload_n (pc' := 24) dX7_addStage_0.2.2.1.1 rfl rfl ?_
    refine zG_int (pc' := 27) fg_X7_21 tb49 rfl dX7_addStage_0.2.2.1.2 rfl ?_
    have e24 := KCd0 hF.2.2.2
    refine zW_iload_n (pc' := 28) dX7_addStage_0.2.2.2.1 rfl rfl ?_
    refine zSm (pc' := 29) hF rfl (fun v' hv he => ⟨(SI_irr hF.2.1 (Or.inl (key_of rfl _)) (fun _ _ => hv)), (KR_irr hF.2.2.1 rfl), (KC_irr hF.2.2.2 rfl)⟩) tb50 (by omega) dX7_addStage_0.2.2.2.2 (by decide) rfl (fun h i28 hF a28 b28 w28 => ?_)
    refine zW_aload_n (pc' := 30) dX7_addStage_1.1.1.1.1 rfl rfl ?_
    refine zG_ref (pc' := 33) 51 fg_X7_15 tb49 rfl dX7_addStage_1.1.1.1.2 rfl ?_
    refine zW_aload_n (pc' := 34) dX7_addStage_1.1.1.2.1 rfl rfl ?_
    refine zG_int (pc' := 37) fg_X7_21 tb49 rfl dX7_addStage_1.1.1.2.2 rfl ?_
    have e34 := KCd0 hF.2.2.2
    refine zW_iconst (pc' := 38) dX7_addStage_1.1.2.1.1 rfl ?_
    refine zW_iadd (pc' := 39) dX7_addStage_1.1.2.1.2 rfl ?_
    refine zW_aload_n (pc' := 40) dX7_addStage_1.1.2.2.1 rfl rfl ?_
    refine zG_ref (pc' := 43) 51 fg_X7_15 tb49 rfl dX7_addStage_1.1.2.2.2 rfl ?_
    refine zW_aload_n (pc' := 44) dX7_addStage_1.2.1.1.1 rfl rfl ?_
    refine zG_int (pc' := 47) fg_X7_21 tb49 rfl dX7_addStage_1.2.1.1.2 rfl ?_
    have e44 := KCd0 hF.2.2.2
    refine zAmD (pc' := 48) hF tb51 (by omega) dX7_addStage_1.2.1.2.1 rfl (fun e47 => ?_)
    refine zSm (pc' := 49) hF rfl (fun v' hv he => ⟨(SI_irr hF.2.1 (Or.inl (key_of rfl _)) (fun _ _ => hv)), (KR_irr hF.2.2.1 rfl), (KC_c51 hF.2.2.2 (by have := he ⟨by omega, by omega⟩; omega))⟩) tb51 (by omega) dX7_addStage_1.2.1.2.2 (by decide) rfl (fun h i48 hF a48 b48 w48 => ?_)
    refine zW_iload_n (pc' := 50) dX7_addStage_1.2.2.1.1 rfl rfl ?_
    refine zW_bipush (pc' := 52) dX7_addStage_1.2.2.1.2 rfl rfl ?_
    refine zV_cmQ_ne (tgt := 63) (pc' := 55) dX7_addStage_1.2.2.2.1 rfl rfl ?_ ?_
    · exact zV_vret rfl dX7_addStage_2.2.2 ⟨hF, trivial⟩
    · refine zW_aload_n (pc' := 56) dX7_addStage_1.2.2.2.2 rfl rfl ?_
      refine zW_aload_n (pc' := 57) dX7_addStage_2.1.1 rfl rfl ?_
      refine zG_int (pc' := 60) fg_X7_21 tb49 rfl dX7_addStage_2.1.2 rfl ?_
      have e57 := KCd0 hF.2.2.2
      refine zPm (pc' := 63) hF (Or.inl rfl) (SI_irr hF.2.1 (Or.inl rfl) (fun _ _ => ⟨by omega, by omega⟩)) (KR_irr hF.2.2.1 rfl) (KC_49_1 hF.2.2.2 (by omega)) fp_X7_25 tb49 rfl dX7_addStage_2.2.1 rfl (fun h hF w60 => ?_)
      exact zV_vret rfl dX7_addStage_2.2.2 ⟨hF, trivial⟩

abbrev q_X7_addNumberV49 (κ : Hp) (x1 : Int) : Int → Hp → Prop := fun r h' => Fm [(51, 999), (52, 999)] κ h' ∧ (True)
set_option maxHeartbeats 4000000 in
set_option maxRecDepth 20000 in
theorem s_X7_addNumberV49 {G : Ga} {κ : Hp} (hS : SI κ) (hR : KR κ) (hC : KC κ) (x1 : Int) : zM G mX7_addNumber yX7_addNumber [.inr (.inr 49), .inl x1] κ (q_X7_addNumberV49 κ x1) := by
  have f_41_0 := KCm hC
  have f_45_0 := KCr0 hC
  have f_49_0 := KCd0 hC
  refine zM_of [some (.inr (.inr 49)), some (.inl x1), none] 1 rfl rfl (Nat.le_of_ble_eq_true rfl) rfl ?_
  refine (show ∀ h : Hp, Fm [(51, 999), (52, 999)] κ h → h = κ → zV G mX7_addNumber (q_X7_addNumberV49 κ x1) 0 [some (.inr (.inr 49)), some (.inl x1), none] [] h from fun h hF hk0 => ?_) κ (Fm.rf hS hR hC) rfl
  refine zW_aload_n (pc' := 1) dX7_addNumber_0.1.1.1.1 rfl rfl ?_
  refine zG_ref (pc' := 4) 51 fg_X7_15 tb49 rfl dX7_addNumber_0.1.1.1.2 rfl ?_
  refine zW_aload_n (pc' := 5) dX7_addNumber_0.1.1.2.1 rfl rfl ?_
  refine zGm (pc' := 8) hF rfl rfl fg_X7_21 tb49 rfl dX7_addNumber_0.1.1.2.2 rfl ?_
  refine zW_iconst (pc' := 9) dX7_addNumber_0.1.2.1.1 rfl ?_
  refine zW_iadd (pc' := 10) dX7_addNumber_0.1.2.1.2 rfl ?_
  refine zAmD (pc' := 11) hF tb51 (by omega) dX7_addNumber_0.1.2.2.1 rfl (fun e10 => ?_)
  refine zW_istore_n (ls' := [_, _, _]) (pc' := 12) dX7_addNumber_0.1.2.2.2 (by decide) rfl rfl rfl ?_
  refine zW_iload_n (pc' := 13) dX7_addNumber_0.2.1.1.1 rfl rfl ?_
  refine zW_bipush (pc' := 15) dX7_addNumber_0.2.1.1.2 rfl rfl ?_
  refine zV_cm_ge (tgt := 39) (pc' := 18) dX7_addNumber_0.2.1.2.1 rfl rfl ⟨by omega, by omega⟩ ⟨by omega, by omega⟩ (fun c15 => ?_) (fun c15 => ?_)
  · exact zV_vret rfl dX7_addNumber_1.2.2.2 ⟨hF, trivial⟩
  · refine zW_aload_n (pc' := 19) dX7_addNumber_0.2.1.2.2 rfl rfl ?_
    refine zG_ref (pc' := 22) 52 fg_X7_18 tb49 rfl dX7_addNumber_0.2.2.1.1 rfl ?_
    refine zW_iload_n (pc' := 23) dX7_addNumber_0.2.2.1.2 rfl rfl ?_
    refine zW_iload_n (pc' := 24) dX7_addNumber_0.2.2.2.1 rfl rfl ?_
    refine zSm (pc' := 25) hF rfl (fun v' hv he => ⟨(SI_irr hF.2.1 (Or.inl (key_of rfl _)) (fun _ _ => hv)), (KR_irr hF.2.2.1 rfl), (KC_irr hF.2.2.2 rfl)⟩) tb52 (by omega) dX7_addNumber_0.2.2.2.2 (by decide) rfl (fun h i24 hF a24 b24 w24 => ?_)
    refine zW_aload_n (pc' := 26) dX7_addNumber_1.1.1.1.1 rfl rfl ?_
    refine zG_ref (pc' := 29) 51 fg_X7_15 tb49 rfl dX7_addNumber_1.1.1.1.2 rfl ?_
    refine zW_aload_n (pc' := 30) dX7_addNumber_1.1.1.2 rfl rfl ?_
    refine zGm (pc' := 33) hF rfl rfl fg_X7_21 tb49 rfl dX7_addNumber_1.1.2.1.1 rfl ?_
    refine zW_iconst (pc' := 34) dX7_addNumber_1.1.2.1.2 rfl ?_
    refine zW_iadd (pc' := 35) dX7_addNumber_1.1.2.2 rfl ?_
    refine zW_iload_n (pc' := 36) dX7_addNumber_1.2.1.1.1 rfl rfl ?_
    refine zW_iconst (pc' := 37) dX7_addNumber_1.2.1.1.2 rfl ?_
    refine zW_iadd (pc' := 38) dX7_addNumber_1.2.1.2 rfl ?_
    refine zSm (pc' := 39) hF rfl (fun v' hv he => ⟨(SI_irr hF.2.1 (Or.inl (key_of rfl _)) (fun _ _ => hv)), (KR_irr hF.2.2.1 rfl), (KC_c51 hF.2.2.2 (by have := he ⟨by omega, by omega⟩; omega))⟩) tb51 (by omega) dX7_addNumber_1.2.2.1 (by decide) rfl (fun h i38 hF a38 b38 w38 => ?_)
    exact zV_vret rfl dX7_addNumber_1.2.2.2 ⟨hF, trivial⟩

abbrev q_X6_here (κ h : Hp)  : Int → Hp → Prop := fun r h' => h' = h ∧ ((-2147483648 ≤ r) ∧ (r ≤ 2147483647))
set_option maxHeartbeats 4000000 in
set_option maxRecDepth 20000 in
theorem s_X6_here {G : Ga} {b : Bd} {κ h : Hp} (hK : KC κ) (hF : Fr b κ h)  : zM G mX6_here yX6_here [.inr (.inr 53)] h (q_X6_here κ h) := by
  refine zM_of [some (.inr (.inr 53))] 0 rfl rfl (Nat.le_of_ble_eq_true rfl) rfl ?_
  refine zW_aload_n (pc' := 1) dX6_here_0.1.1.1.1 rfl rfl ?_
  refine zG_key (pc' := 4) hF rfl fg_X6_29 tb53 rfl dX6_here_0.1.1.1.2 rfl ?_
  have e1 := hF.rk (k := 53) (i := 3) rfl (by decide) (by decide)
  refine zW_aload_n (pc' := 5) dX6_here_0.1.1.2.1 rfl rfl ?_
  refine zG_key (pc' := 8) hF rfl fg_X6_25 tb53 rfl dX6_here_0.1.1.2.2 rfl ?_
  have e5 := hF.rk (k := 53) (i := 2) rfl (by decide) (by decide)
  refine zV_cm_ge (tgt := 25) (pc' := 11) dX6_here_0.1.2.1.1 rfl rfl ⟨by omega, by omega⟩ ⟨by omega, by omega⟩ (fun c8 => ?_) (fun c8 => ?_)
  · refine zW_iconst (pc' := 26) dX6_here_0.2.2.1.2 rfl ?_
    exact zV_iret rfl dX6_here_0.2.2.2 ⟨rfl, by omega⟩
  · refine zW_aload_n (pc' := 12) dX6_here_0.1.2.1.2 rfl rfl ?_
    refine zG_ref (pc' := 15) 31 fg_X6_18 tb53 rfl dX6_here_0.1.2.2 rfl ?_
    refine zW_aload_n (pc' := 16) dX6_here_0.2.1.1.1 rfl rfl ?_
    refine zG_key (pc' := 19) hF rfl fg_X6_29 tb53 rfl dX6_here_0.2.1.1.2 rfl ?_
    have e16 := hF.rk (k := 53) (i := 3) rfl (by decide) (by decide)
    refine cvI1 (pc' := 22) kX9_byteAt vX9_byteAt lk_X6_101 ⟨Nat.le_of_ble_eq_true rfl, Nat.le_of_ble_eq_true rfl⟩ tb31 vq9 rfl rfl (s_X9_byteAt hK hF _ ⟨by omega, by omega⟩) dX6_here_0.2.1.2 (Nat.le_of_ble_eq_true rfl) rfl ?_
    rintro r19 z19 ⟨hz19, p19⟩; subst z19
    refine zV_goto 26 dX6_here_0.2.2.1.1 rfl ?_
    exact zV_iret rfl dX6_here_0.2.2.2 ⟨rfl, by omega⟩

abbrev q_X6_tell (κ : Hp) (x1 : Int) (x2 : Int) : Int → Hp → Prop := fun r h' => Fm [(53, 4)] κ h' ∧ (True)
set_option maxHeartbeats 4000000 in
set_option maxRecDepth 20000 in
theorem s_X6_tell {G : Ga} {κ : Hp} (hS : SI κ) (hR : KR κ) (hC : KC κ) (x1 : Int) (x2 : Int) : zM G mX6_tell yX6_tell [.inr (.inr 53), .inl x1, .inl x2] κ (q_X6_tell κ x1 x2) := by
  refine zM_of [some (.inr (.inr 53)), some (.inl x1), some (.inl x2)] 0 rfl rfl (Nat.le_of_ble_eq_true rfl) rfl ?_
  refine (show ∀ h : Hp, Fm [(53, 4)] κ h → h = κ → zV G mX6_tell (q_X6_tell κ x1 x2) 0 [some (.inr (.inr 53)), some (.inl x1), some (.inl x2)] [] h from fun h hF hk0 => ?_) κ (Fm.rf hS hR hC) rfl
  refine zW_aload_n (pc' := 1) dX6_tell_0.1.1.1.1 rfl rfl ?_
  refine zG_int (pc' := 4) fg_X6_32 tb53 rfl dX6_tell_0.1.1.1.2 rfl ?_
  have e1 := hF.rh 53 4
  refine zV_if_ne (tgt := 18) (pc' := 7) dX6_tell_0.1.1.2 rfl rfl ⟨by omega, by omega⟩ (fun c4 => ?_) (fun c4 => ?_)
  · exact zV_vret rfl dX6_tell_0.2.2.2 ⟨hF, trivial⟩
  · refine zW_aload_n (pc' := 8) dX6_tell_0.1.2.1.1 rfl rfl ?_
    refine zW_sipush (pc' := 11) dX6_tell_0.1.2.1.2 rfl rfl ?_
    refine zW_iload_n (pc' := 12) dX6_tell_0.1.2.2 rfl rfl ?_
    refine zW_imul (pc' := 13) dX6_tell_0.2.1.1.1 rfl ?_
    refine zW_iload_n (pc' := 14) dX6_tell_0.2.1.1.2 rfl rfl ?_
    refine zW_isub (pc' := 15) dX6_tell_0.2.1.2 rfl ?_
    refine zV_anyI (fun p15 ⟨q15, s15⟩ => ?_)
    refine zPm (pc' := 18) hF (Or.inl rfl) (SI_irr hF.2.1 (Or.inl rfl) (fun _ _ => ⟨by omega, by omega⟩)) (KR_irr hF.2.2.1 rfl) (KC_irr hF.2.2.2 rfl) fp_X6_32 tb53 rfl dX6_tell_0.2.2.1 rfl (fun h hF w15 => ?_)
    exact zV_vret rfl dX6_tell_0.2.2.2 ⟨hF, trivial⟩

abbrev q_X6_isDigit (κ h : Hp)  : Int → Hp → Prop := fun r h' => h' = h ∧ ((0 ≤ r) ∧ (r ≤ 1))
set_option maxHeartbeats 4000000 in
set_option maxRecDepth 20000 in
theorem s_X6_isDigit {G : Ga} {b : Bd} {κ h : Hp} (hK : KC κ) (hF : Fr b κ h)  : zM G mX6_isDigit yX6_isDigit [.inr (.inr 53)] h (q_X6_isDigit κ h) := by
  refine zM_of [some (.inr (.inr 53))] 0 rfl rfl (Nat.le_of_ble_eq_true rfl) rfl ?_
  refine zW_aload_n (pc' := 1) dX6_isDigit_0.1.1.1.1 rfl rfl ?_
  refine cvI0 (pc' := 4) kX6_here vX6_here lk_X6_56 ⟨Nat.le_of_ble_eq_true rfl, Nat.le_of_ble_eq_true rfl⟩ tb53 vq6 rfl rfl (s_X6_here hK hF) dX6_isDigit_0.1.1.1.2 (Nat.le_of_ble_eq_true rfl) rfl ?_
  rintro r1 z1 ⟨hz1, p1⟩; subst z1
  refine zW_bipush (pc' := 6) dX6_isDigit_0.1.1.2 rfl rfl ?_
  refine zV_cm_lt (tgt := 22) (pc' := 9) dX6_isDigit_0.1.2.1.1 rfl rfl ⟨by omega, by omega⟩ ⟨by omega, by omega⟩ (fun c6 => ?_) (fun c6 => ?_)
  · refine zW_iconst (pc' := 23) dX6_isDigit_0.2.2.1.2 rfl ?_
    exact zV_zret rfl (by omega) dX6_isDigit_0.2.2.2 ⟨rfl, by omega⟩
  · refine zW_aload_n (pc' := 10) dX6_isDigit_0.1.2.1.2 rfl rfl ?_
    refine cvI0 (pc' := 13) kX6_here vX6_here lk_X6_56 ⟨Nat.le_of_ble_eq_true rfl, Nat.le_of_ble_eq_true rfl⟩ tb53 vq6 rfl rfl (s_X6_here hK hF) dX6_isDigit_0.1.2.2 (Nat.le_of_ble_eq_true rfl) rfl ?_
    rintro r10 z10 ⟨hz10, p10⟩; subst z10
    refine zW_bipush (pc' := 15) dX6_isDigit_0.2.1.1.1 rfl rfl ?_
    refine zV_cm_gt (tgt := 22) (pc' := 18) dX6_isDigit_0.2.1.1.2 rfl rfl ⟨by omega, by omega⟩ ⟨by omega, by omega⟩ (fun c15 => ?_) (fun c15 => ?_)
    · refine zW_iconst (pc' := 23) dX6_isDigit_0.2.2.1.2 rfl ?_
      exact zV_zret rfl (by omega) dX6_isDigit_0.2.2.2 ⟨rfl, by omega⟩
    · refine zW_iconst (pc' := 19) dX6_isDigit_0.2.1.2 rfl ?_
      refine zV_goto 23 dX6_isDigit_0.2.2.1.1 rfl ?_
      exact zV_zret rfl (by omega) dX6_isDigit_0.2.2.2 ⟨rfl, by omega⟩

abbrev q_X6_expect (κ : Hp) (x1 : Int) : Int → Hp → Prop := fun r h' => Fm [(53, 3), (53, 4)] κ h' ∧ (True)
set_option maxHeartbeats 4000000 in
set_option maxRecDepth 20000 in
theorem s_X6_expect {G : Ga} {κ : Hp} (hS : SI κ) (hR : KR κ) (hC : KC κ) (x1 : Int) (hx1 : rng x1) : zM G mX6_expect yX6_expect [.inr (.inr 53), .inl x1] κ (q_X6_expect κ x1) := by
  unfold rng at hx1
  refine zM_of [some (.inr (.inr 53)), some (.inl x1)] 0 rfl rfl (Nat.le_of_ble_eq_true rfl) rfl ?_
  refine (show ∀ h : Hp, Fm [(53, 3), (53, 4)] κ h → h = κ → zV G mX6_expect (q_X6_expect κ x1) 0 [some (.inr (.inr 53)), some (.inl x1)] [] h from fun h hF hk0 => ?_) κ (Fm.rf hS hR hC) rfl
  refine zW_aload_n (pc' := 1) dX6_expect_0.1.1.1.1 rfl rfl ?_
  refine zG_int (pc' := 4) fg_X6_32 tb53 rfl dX6_expect_0.1.1.1.2 rfl ?_
  have e1 := hF.rh 53 4
  refine zV_if_ne (tgt := 28) (pc' := 7) dX6_expect_0.1.1.2.1 rfl rfl ⟨by omega, by omega⟩ (fun c4 => ?_) (fun c4 => ?_)
  · refine zW_aload_n (pc' := 29) dX6_expect_0.2.2.2.1 rfl rfl ?_
    refine zW_iconst (pc' := 30) dX6_expect_0.2.2.2.2 rfl ?_
    refine zW_aload_n (pc' := 31) dX6_expect_1.1.1 rfl rfl ?_
    refine zG_int (pc' := 34) fg_X6_29 tb53 rfl dX6_expect_1.1.2 rfl ?_
    have e31 := hF.rh 53 3
    refine cvV2 (pc' := 37) kX6_tell vX6_tell lk_X6_59 ⟨Nat.le_of_ble_eq_true rfl, Nat.le_of_ble_eq_true rfl⟩ tb53 vq6 rfl rfl (s_X6_tell hF.2.1 hF.2.2.1 hF.2.2.2 _ _) dX6_expect_1.2.1 (Nat.le_of_ble_eq_true rfl) rfl ?_
    rintro r34 h ⟨hF1, p34⟩; replace hF := hF.tr hF1 rfl
    exact zV_vret rfl dX6_expect_1.2.2 ⟨hF, trivial⟩
  · refine zW_aload_n (pc' := 8) dX6_expect_0.1.1.2.2 rfl rfl ?_
    refine cvI0 (pc' := 11) kX6_here vX6_here lk_X6_56 ⟨Nat.le_of_ble_eq_true rfl, Nat.le_of_ble_eq_true rfl⟩ tb53 vq6 rfl rfl (s_X6_here (b := bdB true) (κ := h) hF.2.2.2 (Fr.rf hF.2.1)) dX6_expect_0.1.2.1.1 (Nat.le_of_ble_eq_true rfl) rfl ?_
    rintro r8 z8 ⟨hz8, p8⟩; subst z8
    refine zW_iload_n (pc' := 12) dX6_expect_0.1.2.1.2 rfl rfl ?_
    refine zV_cm_ne (tgt := 28) (pc' := 15) dX6_expect_0.1.2.2.1 rfl rfl ⟨by omega, by omega⟩ ⟨by omega, by omega⟩ (fun c12 => ?_) (fun c12 => ?_)
    · refine zW_aload_n (pc' := 29) dX6_expect_0.2.2.2.1 rfl rfl ?_
      refine zW_iconst (pc' := 30) dX6_expect_0.2.2.2.2 rfl ?_
      refine zW_aload_n (pc' := 31) dX6_expect_1.1.1 rfl rfl ?_
      refine zG_int (pc' := 34) fg_X6_29 tb53 rfl dX6_expect_1.1.2 rfl ?_
      have e31 := hF.rh 53 3
      refine cvV2 (pc' := 37) kX6_tell vX6_tell lk_X6_59 ⟨Nat.le_of_ble_eq_true rfl, Nat.le_of_ble_eq_true rfl⟩ tb53 vq6 rfl rfl (s_X6_tell hF.2.1 hF.2.2.1 hF.2.2.2 _ _) dX6_expect_1.2.1 (Nat.le_of_ble_eq_true rfl) rfl ?_
      rintro r34 h ⟨hF1, p34⟩; replace hF := hF.tr hF1 rfl
      exact zV_vret rfl dX6_expect_1.2.2 ⟨hF, trivial⟩
    · refine zW_aload_n (pc' := 16) dX6_expect_0.1.2.2.2 rfl rfl ?_
      refine zW_dup (pc' := 17) dX6_expect_0.2.1.1.1 rfl rfl ?_
      refine zG_int (pc' := 20) fg_X6_29 tb53 rfl dX6_expect_0.2.1.1.2 rfl ?_
      have e17 := hF.rh 53 3
      refine zW_iconst (pc' := 21) dX6_expect_0.2.1.2.1 rfl ?_
      refine zW_iadd (pc' := 22) dX6_expect_0.2.1.2.2 rfl ?_
      refine zV_anyI (fun p22 ⟨q22, s22⟩ => ?_)
      refine zPm (pc' := 25) hF (Or.inl rfl) (SI_irr hF.2.1 (Or.inl rfl) (fun _ _ => ⟨by omega, by omega⟩)) (KR_irr hF.2.2.1 rfl) (KC_irr hF.2.2.2 rfl) fp_X6_29 tb53 rfl dX6_expect_0.2.2.1.1 rfl (fun h hF w22 => ?_)
      refine zV_goto 37 dX6_expect_0.2.2.1.2 rfl ?_
      exact zV_vret rfl dX6_expect_1.2.2 ⟨hF, trivial⟩

abbrev q_X6_readNumber (κ : Hp) (x1 : Int) (x2 : Int) : Int → Hp → Prop := fun r h' => Fm [(53, 3), (53, 4), (51, 999), (52, 999)] κ h' ∧ ((-2147483648 ≤ r) ∧ (r ≤ 2147483647))
set_option maxHeartbeats 4000000 in
set_option maxRecDepth 20000 in
theorem s_X6_readNumber {G : Ga} {κ : Hp} (hS : SI κ) (hR : KR κ) (hC : KC κ) (x1 : Int) (hx1 : rng x1) (x2 : Int) (hx2 : rng x2) : zM G mX6_readNumber yX6_readNumber [.inr (.inr 53), .inl x1, .inl x2] κ (q_X6_readNumber κ x1 x2) := by
  unfold rng at hx1
  unfold rng at hx2
  have main : ∀ N : Nat, (∀ (v3 v4 v5 : Int) (h : Hp), Fm [(53, 3), (53, 4), (51, 999), (52, 999)] κ h → (rng v3) → (0 ≤ v5 ∧ v5 ≤ 3) → 19530 + 63 * (3 - v5) + 62 < (N : Int) → zV G mX6_readNumber (q_X6_readNumber κ x1 x2) 20 [some (.inr (.inr 53)), some (.inl x1), some (.inl x2), some (.inl v3), some (.inl v4), some (.inl v5)] [] h) ∧ (∀ (v3 v4 v5 : Int) (h : Hp), Fm [(53, 3), (53, 4), (51, 999), (52, 999)] κ h → (rng v3) → (0 ≤ v5 ∧ v5 ≤ 3) → 17640 < (N : Int) → zV G mX6_readNumber (q_X6_readNumber κ x1 x2) 64 [some (.inr (.inr 53)), some (.inl x1), some (.inl x2), some (.inl v3), some (.inl v4), some (.inl v5)] [] h) := by
    intro N
    induction N with
    | zero =>
      refine ⟨?_, ?_⟩
      · intro v3 v4 v5 h hF g0 g1 hm
        unfold rng at g0
        exfalso; omega
      · intro v3 v4 v5 h hF g0 g1 hm
        unfold rng at g0
        exfalso; omega
    | succ N ih =>
      obtain ⟨k20, k64⟩ := ih
      refine ⟨?_, ?_⟩
      · intro v3 v4 v5 h hF g0 g1 hm
        unfold rng at g0
        refine zW_iload (pc' := 22) dX6_readNumber_0.2.2.1.1 rfl rfl ?_
        refine zW_iconst (pc' := 23) dX6_readNumber_0.2.2.1.2 rfl ?_
        refine zV_cm_ge (tgt := 64) (pc' := 26) dX6_readNumber_0.2.2.2.1 rfl rfl ⟨by omega, by omega⟩ ⟨by omega, by omega⟩ (fun c23 => ?_) (fun c23 => ?_)
        · exact k64 _ _ _ _ hF ⟨by omega, by omega⟩ (by omega) (by omega)
        · refine zW_aload_n (pc' := 27) dX6_readNumber_0.2.2.2.2 rfl rfl ?_
          refine cvI0 (pc' := 30) kX6_isDigit vX6_isDigit lk_X6_94 ⟨Nat.le_of_ble_eq_true rfl, Nat.le_of_ble_eq_true rfl⟩ tb53 vq6 rfl rfl (s_X6_isDigit (b := bdB true) (κ := h) hF.2.2.2 (Fr.rf hF.2.1)) dX6_readNumber_1.1.1.1.1 (Nat.le_of_ble_eq_true rfl) rfl ?_
          rintro r27 z27 ⟨hz27, p27⟩; subst z27
          refine zV_if_eq (tgt := 64) (pc' := 33) dX6_readNumber_1.1.1.1.2 rfl rfl ⟨by omega, by omega⟩ (fun c30 => ?_) (fun c30 => ?_)
          · exact k64 _ _ _ _ hF ⟨by omega, by omega⟩ (by omega) (by omega)
          · refine zW_bipush (pc' := 35) dX6_readNumber_1.1.1.2.1 rfl rfl ?_
            refine zW_iload (pc' := 37) dX6_readNumber_1.1.1.2.2 rfl rfl ?_
            refine zW_imul (pc' := 38) dX6_readNumber_1.1.2.1.1 rfl ?_
            refine zW_aload_n (pc' := 39) dX6_readNumber_1.1.2.1.2 rfl rfl ?_
            refine cvI0 (pc' := 42) kX6_here vX6_here lk_X6_56 ⟨Nat.le_of_ble_eq_true rfl, Nat.le_of_ble_eq_true rfl⟩ tb53 vq6 rfl rfl (s_X6_here (b := bdB true) (κ := h) hF.2.2.2 (Fr.rf hF.2.1)) dX6_readNumber_1.1.2.2.1 (Nat.le_of_ble_eq_true rfl) rfl ?_
            rintro r39 z39 ⟨hz39, p39⟩; subst z39
            refine zW_iadd (pc' := 43) dX6_readNumber_1.1.2.2.2 rfl ?_
            refine zW_bipush (pc' := 45) dX6_readNumber_1.2.1.1.1 rfl rfl ?_
            refine zW_isub (pc' := 46) dX6_readNumber_1.2.1.1.2 rfl ?_
            refine zW_istore (ls' := [_, _, _, _, _, _]) (pc' := 48) dX6_readNumber_1.2.1.2.1 (by decide) rfl rfl rfl ?_
            refine zW_aload_n (pc' := 49) dX6_readNumber_1.2.1.2.2 rfl rfl ?_
            refine zW_dup (pc' := 50) dX6_readNumber_1.2.2.1.1 rfl rfl ?_
            refine zG_int (pc' := 53) fg_X6_29 tb53 rfl dX6_readNumber_1.2.2.1.2 rfl ?_
            have e50 := hF.rh 53 3
            refine zW_iconst (pc' := 54) dX6_readNumber_1.2.2.2.1 rfl ?_
            refine zW_iadd (pc' := 55) dX6_readNumber_1.2.2.2.2 rfl ?_
            refine zV_anyI (fun p55 ⟨q55, s55⟩ => ?_)
            refine zPm (pc' := 58) hF (Or.inl rfl) (SI_irr hF.2.1 (Or.inl rfl) (fun _ _ => ⟨by omega, by omega⟩)) (KR_irr hF.2.2.1 rfl) (KC_irr hF.2.2.2 rfl) fp_X6_29 tb53 rfl dX6_readNumber_2.1.1.1.1 rfl (fun h hF w55 => ?_)
            refine zW_iinc (ls' := [_, _, _, _, _, _]) (pc' := 61) dX6_readNumber_2.1.1.1.2 rfl (by decide) rfl rfl rfl ?_
            refine zV_goto 20 dX6_readNumber_2.1.1.2.1 rfl ?_
            exact k20 _ _ _ _ hF ⟨by omega, by omega⟩ (by omega) (by omega)
      · intro v3 v4 v5 h hF g0 g1 hm
        unfold rng at g0
        refine zW_aload_n (pc' := 65) dX6_readNumber_2.1.1.2.2 rfl rfl ?_
        refine zG_int (pc' := 68) fg_X6_29 tb53 rfl dX6_readNumber_2.1.2.1.1 rfl ?_
        have e65 := hF.rh 53 3
        refine zW_iload_n (pc' := 69) dX6_readNumber_2.1.2.1.2 rfl rfl ?_
        refine zV_cm_ne (tgt := 84) (pc' := 72) dX6_readNumber_2.1.2.2.1 rfl rfl ⟨by omega, by omega⟩ ⟨by omega, by omega⟩ (fun c69 => ?_) (fun c69 => ?_)
        · refine zW_aload_n (pc' := 85) dX6_readNumber_2.2.2.1.2 rfl rfl ?_
          refine cvI0 (pc' := 88) kX6_isDigit vX6_isDigit lk_X6_94 ⟨Nat.le_of_ble_eq_true rfl, Nat.le_of_ble_eq_true rfl⟩ tb53 vq6 rfl rfl (s_X6_isDigit (b := bdB true) (κ := h) hF.2.2.2 (Fr.rf hF.2.1)) dX6_readNumber_2.2.2.2.1 (Nat.le_of_ble_eq_true rfl) rfl ?_
          rintro r85 z85 ⟨hz85, p85⟩; subst z85
          refine zV_if_eq (tgt := 103) (pc' := 91) dX6_readNumber_2.2.2.2.2 rfl rfl ⟨by omega, by omega⟩ (fun c88 => ?_) (fun c88 => ?_)
          · refine zW_iload (pc' := 105) dX6_readNumber_3.1.2.2.1 rfl rfl ?_
            refine zW_iload_n (pc' := 106) dX6_readNumber_3.1.2.2.2 rfl rfl ?_
            refine zV_cmQ_lt (tgt := 115) (pc' := 109) dX6_readNumber_3.2.1.1.1 rfl rfl ?_ ?_
            · refine zW_aload_n (pc' := 116) dX6_readNumber_3.2.2.1.1 rfl rfl ?_
              refine zW_iconst (pc' := 117) dX6_readNumber_3.2.2.1.2 rfl ?_
              refine zW_iload_n (pc' := 118) dX6_readNumber_3.2.2.2.1 rfl rfl ?_
              refine cvV2 (pc' := 121) kX6_tell vX6_tell lk_X6_59 ⟨Nat.le_of_ble_eq_true rfl, Nat.le_of_ble_eq_true rfl⟩ tb53 vq6 rfl rfl (s_X6_tell hF.2.1 hF.2.2.1 hF.2.2.2 _ _) dX6_readNumber_3.2.2.2.2 (Nat.le_of_ble_eq_true rfl) rfl ?_
              rintro r118 h ⟨hF1, p118⟩; replace hF := hF.tr hF1 rfl
              refine zV_goto 133 dX6_readNumber_4.1.1.1 rfl ?_
              refine zW_iload (pc' := 135) dX6_readNumber_4.2.1.2 rfl rfl ?_
              refine zV_anyI (fun p135 ⟨q135, s135⟩ => ?_)
              exact zV_iret rfl dX6_readNumber_4.2.2 ⟨hF, by omega⟩
            · refine zW_iload (pc' := 111) dX6_readNumber_3.2.1.1.2 rfl rfl ?_
              refine zW_iload_n (pc' := 112) dX6_readNumber_3.2.1.2.1 rfl rfl ?_
              refine zV_cmQ_le (tgt := 124) (pc' := 115) dX6_readNumber_3.2.1.2.2 rfl rfl ?_ ?_
              · refine zW_aload_n (pc' := 125) dX6_readNumber_4.1.1.2 rfl rfl ?_
                refine zG_ref (pc' := 128) 49 fg_X6_12 tb53 rfl dX6_readNumber_4.1.2.1 rfl ?_
                refine zW_iload (pc' := 130) dX6_readNumber_4.1.2.2 rfl rfl ?_
                refine cvV1 (pc' := 133) kX7_addNumber vX7_addNumber lk_X6_98 ⟨Nat.le_of_ble_eq_true rfl, Nat.le_of_ble_eq_true rfl⟩ tb49 vq7 rfl rfl (s_X7_addNumberV49 hF.2.1 hF.2.2.1 hF.2.2.2 _) dX6_readNumber_4.2.1.1 (Nat.le_of_ble_eq_true rfl) rfl ?_
                rintro r130 h ⟨hF1, p130⟩; replace hF := hF.tr hF1 rfl
                refine zW_iload (pc' := 135) dX6_readNumber_4.2.1.2 rfl rfl ?_
                refine zV_anyI (fun p135 ⟨q135, s135⟩ => ?_)
                exact zV_iret rfl dX6_readNumber_4.2.2 ⟨hF, by omega⟩
              · refine zW_aload_n (pc' := 116) dX6_readNumber_3.2.2.1.1 rfl rfl ?_
                refine zW_iconst (pc' := 117) dX6_readNumber_3.2.2.1.2 rfl ?_
                refine zW_iload_n (pc' := 118) dX6_readNumber_3.2.2.2.1 rfl rfl ?_
                refine cvV2 (pc' := 121) kX6_tell vX6_tell lk_X6_59 ⟨Nat.le_of_ble_eq_true rfl, Nat.le_of_ble_eq_true rfl⟩ tb53 vq6 rfl rfl (s_X6_tell hF.2.1 hF.2.2.1 hF.2.2.2 _ _) dX6_readNumber_3.2.2.2.2 (Nat.le_of_ble_eq_true rfl) rfl ?_
                rintro r118 h ⟨hF1, p118⟩; replace hF := hF.tr hF1 rfl
                refine zV_goto 133 dX6_readNumber_4.1.1.1 rfl ?_
                refine zW_iload (pc' := 135) dX6_readNumber_4.2.1.2 rfl rfl ?_
                refine zV_anyI (fun p135 ⟨q135, s135⟩ => ?_)
                exact zV_iret rfl dX6_readNumber_4.2.2 ⟨hF, by omega⟩
          · refine zW_aload_n (pc' := 92) dX6_readNumber_3.1.1.1.1 rfl rfl ?_
            refine zW_iconst (pc' := 93) dX6_readNumber_3.1.1.1.2 rfl ?_
            refine zW_aload_n (pc' := 94) dX6_readNumber_3.1.1.2.1 rfl rfl ?_
            refine zG_int (pc' := 97) fg_X6_29 tb53 rfl dX6_readNumber_3.1.1.2.2 rfl ?_
            have e94 := hF.rh 53 3
            refine cvV2 (pc' := 100) kX6_tell vX6_tell lk_X6_59 ⟨Nat.le_of_ble_eq_true rfl, Nat.le_of_ble_eq_true rfl⟩ tb53 vq6 rfl rfl (s_X6_tell hF.2.1 hF.2.2.1 hF.2.2.2 _ _) dX6_readNumber_3.1.2.1.1 (Nat.le_of_ble_eq_true rfl) rfl ?_
            rintro r97 h ⟨hF1, p97⟩; replace hF := hF.tr hF1 rfl
            refine zV_goto 133 dX6_readNumber_3.1.2.1.2 rfl ?_
            refine zW_iload (pc' := 135) dX6_readNumber_4.2.1.2 rfl rfl ?_
            refine zV_anyI (fun p135 ⟨q135, s135⟩ => ?_)
            exact zV_iret rfl dX6_readNumber_4.2.2 ⟨hF, by omega⟩
        · refine zW_aload_n (pc' := 73) dX6_readNumber_2.1.2.2.2 rfl rfl ?_
          refine zW_iconst (pc' := 74) dX6_readNumber_2.2.1.1.1 rfl ?_
          refine zW_aload_n (pc' := 75) dX6_readNumber_2.2.1.1.2 rfl rfl ?_
          refine zG_int (pc' := 78) fg_X6_29 tb53 rfl dX6_readNumber_2.2.1.2.1 rfl ?_
          have e75 := hF.rh 53 3
          refine cvV2 (pc' := 81) kX6_tell vX6_tell lk_X6_59 ⟨Nat.le_of_ble_eq_true rfl, Nat.le_of_ble_eq_true rfl⟩ tb53 vq6 rfl rfl (s_X6_tell hF.2.1 hF.2.2.1 hF.2.2.2 _ _) dX6_readNumber_2.2.1.2.2 (Nat.le_of_ble_eq_true rfl) rfl ?_
          rintro r78 h ⟨hF1, p78⟩; replace hF := hF.tr hF1 rfl
          refine zV_goto 133 dX6_readNumber_2.2.2.1.1 rfl ?_
          refine zW_iload (pc' := 135) dX6_readNumber_4.2.1.2 rfl rfl ?_
          refine zV_anyI (fun p135 ⟨q135, s135⟩ => ?_)
          exact zV_iret rfl dX6_readNumber_4.2.2 ⟨hF, by omega⟩
  refine zM_of [some (.inr (.inr 53)), some (.inl x1), some (.inl x2), none, none, none] 3 rfl rfl (Nat.le_of_ble_eq_true rfl) rfl ?_
  refine (show ∀ h : Hp, Fm [(53, 3), (53, 4), (51, 999), (52, 999)] κ h → h = κ → zV G mX6_readNumber (q_X6_readNumber κ x1 x2) 0 [some (.inr (.inr 53)), some (.inl x1), some (.inl x2), none, none, none] [] h from fun h hF hk0 => ?_) κ (Fm.rf hS hR hC) rfl
  refine zW_aload_n (pc' := 1) dX6_readNumber_0.1.1.1.1 rfl rfl ?_
  refine zG_int (pc' := 4) fg_X6_32 tb53 rfl dX6_readNumber_0.1.1.1.2 rfl ?_
  have e1 := hF.rh 53 4
  refine zV_if_eq (tgt := 9) (pc' := 7) dX6_readNumber_0.1.1.2.1 rfl rfl ⟨by omega, by omega⟩ (fun c4 => ?_) (fun c4 => ?_)
  · refine zW_aload_n (pc' := 10) dX6_readNumber_0.1.2.1.2 rfl rfl ?_
    refine zG_int (pc' := 13) fg_X6_29 tb53 rfl dX6_readNumber_0.1.2.2.1 rfl ?_
    have e10 := hF.rh 53 3
    refine zW_istore_n (ls' := [_, _, _, _, _, _]) (pc' := 14) dX6_readNumber_0.1.2.2.2 (by decide) rfl rfl rfl ?_
    refine zW_iconst (pc' := 15) dX6_readNumber_0.2.1.1.1 rfl ?_
    refine zW_istore (ls' := [_, _, _, _, _, _]) (pc' := 17) dX6_readNumber_0.2.1.1.2 (by decide) rfl rfl rfl ?_
    refine zW_iconst (pc' := 18) dX6_readNumber_0.2.1.2.1 rfl ?_
    refine zW_istore (ls' := [_, _, _, _, _, _]) (pc' := 20) dX6_readNumber_0.2.1.2.2 (by decide) rfl rfl rfl ?_
    exact (main 10000000000000000000000000000000000000000).1 _ _ _ _ hF ⟨by omega, by omega⟩ (by omega) (by omega)
  · refine zW_iconst (pc' := 8) dX6_readNumber_0.1.1.2.2 rfl ?_
    exact zV_iret rfl dX6_readNumber_0.1.2.1.1 ⟨hF, by omega⟩

abbrev q_X6_readPoints (κ : Hp)  : Int → Hp → Prop := fun r h' => Fm [(53, 3), (53, 4), (51, 999), (52, 999)] κ h' ∧ (True)
set_option maxHeartbeats 4000000 in
set_option maxRecDepth 20000 in
theorem s_X6_readPoints {G : Ga} {κ : Hp} (hS : SI κ) (hR : KR κ) (hC : KC κ)  : zM G mX6_readPoints yX6_readPoints [.inr (.inr 53)] κ (q_X6_readPoints κ) := by
  have main : ∀ N : Nat, (∀ (v1 v2 : Int) (h : Hp), Fm [(53, 3), (53, 4), (51, 999), (52, 999)] κ h → (rng v1) → (0 ≤ v2 ∧ v2 ≤ 64) → 65472 + 32 * (64 - v2) + 31 < (N : Int) → zV G mX6_readPoints (q_X6_readPoints κ) 24 [some (.inr (.inr 53)), some (.inl v1), some (.inl v2)] [] h) := by
    intro N
    induction N with
    | zero =>
      intro v1 v2 h hF g0 g1 hm
      unfold rng at g0
      exfalso; omega
    | succ N ih =>
      have k24 := ih
      intro v1 v2 h hF g0 g1 hm
      unfold rng at g0
      refine zW_iload_n (pc' := 25) dX6_readPoints_0.2.2.2.2 rfl rfl ?_
      refine zW_bipush (pc' := 27) dX6_readPoints_1.1.1.1.1 rfl rfl ?_
      refine zV_cm_ge (tgt := 82) (pc' := 30) dX6_readPoints_1.1.1.1.2 rfl rfl ⟨by omega, by omega⟩ ⟨by omega, by omega⟩ (fun c27 => ?_) (fun c27 => ?_)
      · exact zV_vret rfl dX6_readPoints_2.2.2.2 ⟨hF, trivial⟩
      · refine zW_aload_n (pc' := 31) dX6_readPoints_1.1.1.2.1 rfl rfl ?_
        refine zG_int (pc' := 34) fg_X6_32 tb53 rfl dX6_readPoints_1.1.1.2.2 rfl ?_
        have e31 := hF.rh 53 4
        refine zV_if_ne (tgt := 82) (pc' := 37) dX6_readPoints_1.1.2.1.1 rfl rfl ⟨by omega, by omega⟩ (fun c34 => ?_) (fun c34 => ?_)
        · exact zV_vret rfl dX6_readPoints_2.2.2.2 ⟨hF, trivial⟩
        · refine zW_iload_n (pc' := 38) dX6_readPoints_1.1.2.1.2 rfl rfl ?_
          refine zW_sipush (pc' := 41) dX6_readPoints_1.1.2.2.1 rfl rfl ?_
          refine zV_cm_ge (tgt := 82) (pc' := 44) dX6_readPoints_1.1.2.2.2 rfl rfl ⟨by omega, by omega⟩ ⟨by omega, by omega⟩ (fun c41 => ?_) (fun c41 => ?_)
          · exact zV_vret rfl dX6_readPoints_2.2.2.2 ⟨hF, trivial⟩
          · refine zW_aload_n (pc' := 45) dX6_readPoints_1.2.1.1.1 rfl rfl ?_
            refine zW_bipush (pc' := 47) dX6_readPoints_1.2.1.1.2 rfl rfl ?_
            refine cvV1 (pc' := 50) kX6_expect vX6_expect lk_X6_45 ⟨Nat.le_of_ble_eq_true rfl, Nat.le_of_ble_eq_true rfl⟩ tb53 vq6 rfl rfl (s_X6_expect hF.2.1 hF.2.2.1 hF.2.2.2 _ ⟨by omega, by omega⟩) dX6_readPoints_1.2.1.2.1 (Nat.le_of_ble_eq_true rfl) rfl ?_
            rintro r47 h ⟨hF1, p47⟩; replace hF := hF.tr hF1 rfl
            refine zW_aload_n (pc' := 51) dX6_readPoints_1.2.1.2.2 rfl rfl ?_
            refine zW_iload_n (pc' := 52) dX6_readPoints_1.2.2.1.1 rfl rfl ?_
            refine zW_iconst (pc' := 53) dX6_readPoints_1.2.2.1.2 rfl ?_
            refine zW_iadd (pc' := 54) dX6_readPoints_1.2.2.2.1 rfl ?_
            refine zW_sipush (pc' := 57) dX6_readPoints_1.2.2.2.2 rfl rfl ?_
            refine cvI2 (pc' := 60) kX6_readNumber vX6_readNumber lk_X6_87 ⟨Nat.le_of_ble_eq_true rfl, Nat.le_of_ble_eq_true rfl⟩ tb53 vq6 rfl rfl (s_X6_readNumber hF.2.1 hF.2.2.1 hF.2.2.2 _ ⟨by omega, by omega⟩ _ ⟨by omega, by omega⟩) dX6_readPoints_2.1.1.1.1 (Nat.le_of_ble_eq_true rfl) rfl ?_
            rintro r57 h ⟨hF1, p57⟩; replace hF := hF.tr hF1 rfl
            refine zW_istore_n (ls' := [_, _, _]) (pc' := 61) dX6_readPoints_2.1.1.1.2 (by decide) rfl rfl rfl ?_
            refine zW_aload_n (pc' := 62) dX6_readPoints_2.1.1.2.1 rfl rfl ?_
            refine zW_bipush (pc' := 64) dX6_readPoints_2.1.1.2.2 rfl rfl ?_
            refine cvV1 (pc' := 67) kX6_expect vX6_expect lk_X6_45 ⟨Nat.le_of_ble_eq_true rfl, Nat.le_of_ble_eq_true rfl⟩ tb53 vq6 rfl rfl (s_X6_expect hF.2.1 hF.2.2.1 hF.2.2.2 _ ⟨by omega, by omega⟩) dX6_readPoints_2.1.2.1.1 (Nat.le_of_ble_eq_true rfl) rfl ?_
            rintro r64 h ⟨hF1, p64⟩; replace hF := hF.tr hF1 rfl
            refine zW_aload_n (pc' := 68) dX6_readPoints_2.1.2.1.2 rfl rfl ?_
            refine zW_iconst (pc' := 69) dX6_readPoints_2.1.2.2 rfl ?_
            refine zW_sipush (pc' := 72) dX6_readPoints_2.2.1.1.1 rfl rfl ?_
            refine cvI2 (pc' := 75) kX6_readNumber vX6_readNumber lk_X6_87 ⟨Nat.le_of_ble_eq_true rfl, Nat.le_of_ble_eq_true rfl⟩ tb53 vq6 rfl rfl (s_X6_readNumber hF.2.1 hF.2.2.1 hF.2.2.2 _ ⟨by omega, by omega⟩ _ ⟨by omega, by omega⟩) dX6_readPoints_2.2.1.1.2 (Nat.le_of_ble_eq_true rfl) rfl ?_
            rintro r72 h ⟨hF1, p72⟩; replace hF := hF.tr hF1 rfl
            refine zW_pop (pc' := 76) dX6_readPoints_2.2.1.2 rfl rfl ?_
            refine zW_iinc (ls' := [_, _, _]) (pc' := 79) dX6_readPoints_2.2.2.1.1 rfl (by decide) rfl rfl rfl ?_
            refine zV_goto 24 dX6_readPoints_2.2.2.1.2 rfl ?_
            exact k24 _ _ _ hF ⟨by omega, by omega⟩ (by omega) (by omega)
  refine zM_of [some (.inr (.inr 53)), none, none] 2 rfl rfl (Nat.le_of_ble_eq_true rfl) rfl ?_
  refine (show ∀ h : Hp, Fm [(53, 3), (53, 4), (51, 999), (52, 999)] κ h → h = κ → zV G mX6_readPoints (q_X6_readPoints κ) 0 [some (.inr (.inr 53)), none, none] [] h from fun h hF hk0 => ?_) κ (Fm.rf hS hR hC) rfl
  refine zW_aload_n (pc' := 1) dX6_readPoints_0.1.1.1.1 rfl rfl ?_
  refine zW_iconst (pc' := 2) dX6_readPoints_0.1.1.1.2 rfl ?_
  refine zW_iconst (pc' := 3) dX6_readPoints_0.1.1.2.1 rfl ?_
  refine cvI2 (pc' := 6) kX6_readNumber vX6_readNumber lk_X6_87 ⟨Nat.le_of_ble_eq_true rfl, Nat.le_of_ble_eq_true rfl⟩ tb53 vq6 rfl rfl (s_X6_readNumber hF.2.1 hF.2.2.1 hF.2.2.2 _ ⟨by omega, by omega⟩ _ ⟨by omega, by omega⟩) dX6_readPoints_0.1.1.2.2 (Nat.le_of_ble_eq_true rfl) rfl ?_
  rintro r3 h ⟨hF1, p3⟩; replace hF := hF.tr hF1 rfl
  refine zW_istore_n (ls' := [_, _, _]) (pc' := 7) dX6_readPoints_0.1.2.1.1 (by decide) rfl rfl rfl ?_
  refine zW_aload_n (pc' := 8) dX6_readPoints_0.1.2.1.2 rfl rfl ?_
  refine zW_bipush (pc' := 10) dX6_readPoints_0.1.2.2.1 rfl rfl ?_
  refine cvV1 (pc' := 13) kX6_expect vX6_expect lk_X6_45 ⟨Nat.le_of_ble_eq_true rfl, Nat.le_of_ble_eq_true rfl⟩ tb53 vq6 rfl rfl (s_X6_expect hF.2.1 hF.2.2.1 hF.2.2.2 _ ⟨by omega, by omega⟩) dX6_readPoints_0.1.2.2.2 (Nat.le_of_ble_eq_true rfl) rfl ?_
  rintro r10 h ⟨hF1, p10⟩; replace hF := hF.tr hF1 rfl
  refine zW_aload_n (pc' := 14) dX6_readPoints_0.2.1.1.1 rfl rfl ?_
  refine zW_iconst (pc' := 15) dX6_readPoints_0.2.1.1.2 rfl ?_
  refine zW_sipush (pc' := 18) dX6_readPoints_0.2.1.2.1 rfl rfl ?_
  refine cvI2 (pc' := 21) kX6_readNumber vX6_readNumber lk_X6_87 ⟨Nat.le_of_ble_eq_true rfl, Nat.le_of_ble_eq_true rfl⟩ tb53 vq6 rfl rfl (s_X6_readNumber hF.2.1 hF.2.2.1 hF.2.2.2 _ ⟨by omega, by omega⟩ _ ⟨by omega, by omega⟩) dX6_readPoints_0.2.1.2.2 (Nat.le_of_ble_eq_true rfl) rfl ?_
  rintro r18 h ⟨hF1, p18⟩; replace hF := hF.tr hF1 rfl
  refine zW_pop (pc' := 22) dX6_readPoints_0.2.2.1.1 rfl rfl ?_
  refine zW_iconst (pc' := 23) dX6_readPoints_0.2.2.1.2 rfl ?_
  refine zW_istore_n (ls' := [_, _, _]) (pc' := 24) dX6_readPoints_0.2.2.2.1 (by decide) rfl rfl rfl ?_
  exact (main 10000000000000000000000000000000000000000) _ _ _ hF ⟨by omega, by omega⟩ (by omega) (by omega)
