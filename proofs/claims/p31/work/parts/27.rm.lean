abbrev q_X12_changed (κ : Hp)  : Int → Hp → Prop := fun r h' => Fm [(0, 21), (0, 23)] κ h' ∧ ((h' 0 23 = 0))
set_option maxHeartbeats 4000000 in
set_option maxRecDepth 20000 in
theorem s_X12_changed {G : Ga} {κ : Hp} (hS : SI κ) (hR : KR κ) (hC : KC κ)  : zM G mX12_changed yX12_changed [.inr (.inr 0)] κ (q_X12_changed κ) := by
  refine zM_of [some (.inr (.inr 0))] 0 rfl rfl (Nat.le_of_ble_eq_true rfl) rfl ?_
  refine (show ∀ h : Hp, Fm [(0, 21), (0, 23)] κ h → h = κ → zV G mX12_changed (q_X12_changed κ) 0 [some (.inr (.inr 0))] [] h from fun h hF hk0 => ?_) κ (Fm.rf hS hR hC) rfl
  refine zW_aload_n (pc' := 1) dX12_changed_0.1.1.1 rfl rfl ?_
  refine zW_iconst (pc' := 2) dX12_changed_0.1.1.2 rfl ?_
  refine zPmz (pc' := 5) hF (Or.inl rfl) (SI_irr hF.2.1 (Or.inl rfl) (fun _ _ => ⟨by omega, by omega⟩)) (KR_21 hF.2.2.1 (by omega)) (KC_irr hF.2.2.2 rfl) (by omega) fp_X12_212 tb0 rfl dX12_changed_0.1.2.1 rfl (fun h hF w2 => ?_)
  have t2_0_23 := congrFun (congrFun w2 0) 23
  rw [zwr_ne (Or.inr (by decide))] at t2_0_23
  refine zW_aload_n (pc' := 6) dX12_changed_0.1.2.2 rfl rfl ?_
  refine zW_iconst (pc' := 7) dX12_changed_0.2.1.1 rfl ?_
  refine zPmz (pc' := 10) hF (Or.inl rfl) (SI_irr hF.2.1 (Or.inr (Or.inl rfl)) (fun _ _ => ⟨by omega, by omega⟩)) (KR_irr hF.2.2.1 rfl) (KC_irr hF.2.2.2 rfl) (by omega) fp_X12_192 tb0 rfl dX12_changed_0.2.1.2 rfl (fun h hF w7 => ?_)
  have t7_0_23 := congrFun (congrFun w7 0) 23
  rw [zwr_eq] at t7_0_23
  exact zV_vret rfl dX12_changed_0.2.2 ⟨hF, by omega⟩












abbrev q_X12_check (κ : Hp) (x1 : Int) : Int → Hp → Prop := fun r h' => Fm [(0, 25)] κ h' ∧ (((0 ≤ x1 ∧ x1 ≤ 16 ∧ x1 ≤ κ 0 25 ∧ h' 0 25 = 0) ∨ (¬ (0 ≤ x1 ∧ x1 ≤ 16 ∧ x1 ≤ κ 0 25) ∧ h' 0 25 = κ 0 25 ∧ r = -2)))
set_option maxHeartbeats 4000000 in
set_option maxRecDepth 20000 in
theorem s_X12_check {G : Ga} {κ : Hp} (hS : SI κ) (hR : KR κ) (hC : KC κ) (x1 : Int) (hx1 : rng x1) : zM G mX12_check yX12_check [.inr (.inr 0), .inl x1] κ (q_X12_check κ x1) := by
  have f_0_11 := KRw hR
  have f_0_25 := KRt hR
  unfold rng at hx1
  have main : ∀ N : Nat, (∀ (v2 v3 : Int) (h : Hp), Fm [(0, 25)] κ h → (0 ≤ x1 ∧ x1 ≤ 16) → (-1 ≤ v2 ∧ v2 ≤ 15) → (-1 ≤ v3 ∧ v3 ≤ 15) → (x1 ≤ κ 0 25) → (h 0 25 = κ 0 25) → 15660 + 30 * (v3 - (-1)) + 29 < (N : Int) → zV G mX12_check (q_X12_check κ x1) 27 [some (.inr (.inr 0)), some (.inl x1), some (.inl v2), some (.inl v3)] [] h) := by
    intro N
    induction N with
    | zero =>
      intro v2 v3 h hF g0 g1 g2 gc0 gc1 hm
      exfalso; omega
    | succ N ih =>
      have k27 := ih
      intro v2 v3 h hF g0 g1 g2 gc0 gc1 hm
      refine zW_iload_n (pc' := 28) dX12_check_1.1.1.1.2 rfl rfl ?_
      refine zV_if_lt (tgt := 66) (pc' := 31) dX12_check_1.1.1.2.1 rfl rfl ⟨by omega, by omega⟩ (fun c28 => ?_) (fun c28 => ?_)
      · refine zW_aload_n (pc' := 67) dX12_check_2.2.1.1.1 rfl rfl ?_
        refine zW_iconst (pc' := 68) dX12_check_2.2.1.1.2 rfl ?_
        refine zPm (pc' := 71) hF (Or.inl rfl) (SI_irr hF.2.1 (Or.inl rfl) (fun _ _ => ⟨by omega, by omega⟩)) (KR_25 hF.2.2.1 (by omega)) (KC_irr hF.2.2.2 rfl) fp_X12_116 tb0 rfl dX12_check_2.2.1.2 rfl (fun h hF w68 => ?_)
        have t68_0_25 := congrFun (congrFun w68 0) 25
        rw [zwr_eq] at t68_0_25
        refine zW_iload_n (pc' := 72) dX12_check_2.2.2.1 rfl rfl ?_
        exact zV_iret rfl dX12_check_2.2.2.2 ⟨hF, by omega⟩
      · refine zW_iload_n (pc' := 32) dX12_check_1.1.1.2.2 rfl rfl ?_
        refine zW_aload_n (pc' := 33) dX12_check_1.1.2.1.1 rfl rfl ?_
        refine zGm (pc' := 36) hF rfl rfl fg_X12_99 tb0 rfl dX12_check_1.1.2.1.2 rfl ?_
        refine zV_cm_ge (tgt := 58) (pc' := 39) dX12_check_1.1.2.2.1 rfl rfl ⟨by omega, by omega⟩ ⟨by omega, by omega⟩ (fun c36 => ?_) (fun c36 => ?_)
        · refine zW_iload_n (pc' := 59) dX12_check_2.1.1.2 rfl rfl ?_
          refine zW_istore_n (ls' := [_, _, _, _]) (pc' := 60) dX12_check_2.1.2.1.1 (by decide) rfl rfl rfl ?_
          refine zW_iinc (ls' := [_, _, _, _]) (pc' := 63) dX12_check_2.1.2.1.2 rfl (by decide) rfl rfl rfl ?_
          refine zV_goto 27 dX12_check_2.1.2.2 rfl ?_
          exact k27 _ _ _ hF (by omega) (by omega) (by omega) (by omega) (by omega) (by omega)
        · refine zW_aload_n (pc' := 40) dX12_check_1.1.2.2.2 rfl rfl ?_
          refine zG_ref (pc' := 43) 12 fg_X12_44 tb0 rfl dX12_check_1.2.1.1.1 rfl ?_
          refine zW_iload_n (pc' := 44) dX12_check_1.2.1.1.2 rfl rfl ?_
          refine zV_bald (pc' := 45) tb12 (by omega) dX12_check_1.2.1.2.1 (by decide) rfl ?_
          refine zW_sipush (pc' := 48) dX12_check_1.2.1.2.2 rfl rfl ?_
          refine zW_iandC (pc' := 49) (by omega) dX12_check_1.2.2.1.1 rfl (fun v48 e48 => ?_)
          refine zW_aload_n (pc' := 50) dX12_check_1.2.2.1.2 rfl rfl ?_
          refine zG_ref (pc' := 53) 1 fg_X12_7 tb0 rfl dX12_check_1.2.2.2.1 rfl ?_
          refine zW_iload_n (pc' := 54) dX12_check_1.2.2.2.2 rfl rfl ?_
          refine zAm (pc' := 55) hF rfl (fun _ => rfl) tb1 (by omega) dX12_check_2.1.1.1.1 (by decide) rfl (fun e54 => ?_)
          refine zV_cm_eq (tgt := 60) (pc' := 58) dX12_check_2.1.1.1.2 rfl rfl ⟨by omega, by omega⟩ ⟨by omega, by omega⟩ (fun c55 => ?_) (fun c55 => ?_)
          · refine zW_iinc (ls' := [_, _, _, _]) (pc' := 63) dX12_check_2.1.2.1.2 rfl (by decide) rfl rfl rfl ?_
            refine zV_goto 27 dX12_check_2.1.2.2 rfl ?_
            exact k27 _ _ _ hF (by omega) (by omega) (by omega) (by omega) (by omega) (by omega)
          · refine zW_iload_n (pc' := 59) dX12_check_2.1.1.2 rfl rfl ?_
            refine zW_istore_n (ls' := [_, _, _, _]) (pc' := 60) dX12_check_2.1.2.1.1 (by decide) rfl rfl rfl ?_
            refine zW_iinc (ls' := [_, _, _, _]) (pc' := 63) dX12_check_2.1.2.1.2 rfl (by decide) rfl rfl rfl ?_
            refine zV_goto 27 dX12_check_2.1.2.2 rfl ?_
            exact k27 _ _ _ hF (by omega) (by omega) (by omega) (by omega) (by omega) (by omega)
  refine zM_of [some (.inr (.inr 0)), some (.inl x1), none, none] 2 rfl rfl (Nat.le_of_ble_eq_true rfl) rfl ?_
  refine (show ∀ h : Hp, Fm [(0, 25)] κ h → h = κ → zV G mX12_check (q_X12_check κ x1) 0 [some (.inr (.inr 0)), some (.inl x1), none, none] [] h from fun h hF hk0 => ?_) κ (Fm.rf hS hR hC) rfl
  have y0_0_25 : h 0 25 = κ 0 25 := by rw [hk0]
  refine zW_iload_n (pc' := 1) dX12_check_0.1.1.1.1 rfl rfl ?_
  refine zW_iconst (pc' := 2) dX12_check_0.1.1.1.2 rfl ?_
  refine zW_bipush (pc' := 4) dX12_check_0.1.1.2.1 rfl rfl ?_
  refine csI3 (pc' := 7) kX12_in vX12_in lk_X12_140 ⟨Nat.le_of_ble_eq_true rfl, Nat.le_of_ble_eq_true rfl⟩ rfl (s_X12_inR (b := bdB true) (κ := h) (Fr.rf hF.2.1) _ ⟨by omega, by omega⟩ _ ⟨by omega, by omega⟩ _ ⟨by omega, by omega⟩) dX12_check_0.1.1.2.2 (Nat.le_of_ble_eq_true rfl) rfl ?_
  rintro r4 z4 ⟨hz4, p4⟩; subst z4
  refine zV_if_eq (tgt := 18) (pc' := 10) dX12_check_0.1.2.1.1 rfl rfl ⟨by omega, by omega⟩ (fun c7 => ?_) (fun c7 => ?_)
  · refine zW_bipush (pc' := 20) dX12_check_0.2.1.1.2 rfl rfl ?_
    exact zV_iret rfl dX12_check_0.2.1.2.1 ⟨hF, by omega⟩
  · refine zW_iload_n (pc' := 11) dX12_check_0.1.2.1.2 rfl rfl ?_
    refine zW_aload_n (pc' := 12) dX12_check_0.1.2.2.1 rfl rfl ?_
    refine zG_int (pc' := 15) fg_X12_116 tb0 rfl dX12_check_0.1.2.2.2 rfl ?_
    have e12 := KRt hF.2.2.1
    refine zV_cm_le (tgt := 21) (pc' := 18) dX12_check_0.2.1.1.1 rfl rfl ⟨by omega, by omega⟩ ⟨by omega, by omega⟩ (fun c15 => ?_) (fun c15 => ?_)
    · refine zW_iconst (pc' := 22) dX12_check_0.2.1.2.2 rfl ?_
      refine zW_istore_n (ls' := [_, _, _, _]) (pc' := 23) dX12_check_0.2.2.1.1 (by decide) rfl rfl rfl ?_
      refine zW_iload_n (pc' := 24) dX12_check_0.2.2.1.2 rfl rfl ?_
      refine zW_iconst (pc' := 25) dX12_check_0.2.2.2.1 rfl ?_
      refine zW_isub (pc' := 26) dX12_check_0.2.2.2.2 rfl ?_
      refine zW_istore_n (ls' := [_, _, _, _]) (pc' := 27) dX12_check_1.1.1.1.1 (by decide) rfl rfl rfl ?_
      exact (main 10000000000000000000000000000000000000000) _ _ _ hF (by omega) (by omega) (by omega) (by omega) (by omega) (by omega)
    · refine zW_bipush (pc' := 20) dX12_check_0.2.1.1.2 rfl rfl ?_
      exact zV_iret rfl dX12_check_0.2.1.2.1 ⟨hF, by omega⟩
