
abbrev q_X9_byteAt (κ h : Hp) (x1 : Int) : Int → Hp → Prop := fun r h' => h' = h ∧ ((-2147483648 ≤ r) ∧ (r ≤ 2147483647))
set_option maxHeartbeats 4000000 in
set_option maxRecDepth 20000 in
theorem s_X9_byteAt {G : Ga} {b : Bd} {κ h : Hp} (hK : KC κ) (hF : Fr b κ h) (x1 : Int) (hx1 : rng x1) : zM G mX9_byteAt yX9_byteAt [.inr (.inr 31), .inl x1] h (q_X9_byteAt κ h x1) := by
  have f_31_1 := KCt hK
  unfold rng at hx1
  refine zM_of [some (.inr (.inr 31)), some (.inl x1)] 0 rfl rfl (Nat.le_of_ble_eq_true rfl) rfl ?_
  refine zW_iload_n (pc' := 1) dX9_byteAt_0.1.1.1.1 rfl rfl ?_
  refine zV_if_lt (tgt := 21) (pc' := 4) dX9_byteAt_0.1.1.1.2 rfl rfl ⟨by omega, by omega⟩ (fun c1 => ?_) (fun c1 => ?_)
  · refine zW_iconst (pc' := 22) dX9_byteAt_0.2.2.1.2 rfl ?_
    exact zV_iret rfl dX9_byteAt_0.2.2.2 ⟨rfl, by omega⟩
  · refine zW_iload_n (pc' := 5) dX9_byteAt_0.1.1.2.1 rfl rfl ?_
    refine zW_aload_n (pc' := 6) dX9_byteAt_0.1.1.2.2 rfl rfl ?_
    refine zG_key (pc' := 9) hF rfl fg_X9_15 tb31 rfl dX9_byteAt_0.1.2.1.1 rfl ?_
    refine zV_cm_ge (tgt := 21) (pc' := 12) dX9_byteAt_0.1.2.1.2 rfl rfl ⟨by omega, by omega⟩ ⟨by omega, by omega⟩ (fun c9 => ?_) (fun c9 => ?_)
    · refine zW_iconst (pc' := 22) dX9_byteAt_0.2.2.1.2 rfl ?_
      exact zV_iret rfl dX9_byteAt_0.2.2.2 ⟨rfl, by omega⟩
    · refine zW_aload_n (pc' := 13) dX9_byteAt_0.1.2.2 rfl rfl ?_
      refine zG_ref (pc' := 16) 32 fg_X9_9 tb31 rfl dX9_byteAt_0.2.1.1.1 rfl ?_
      refine zW_iload_n (pc' := 17) dX9_byteAt_0.2.1.1.2 rfl rfl ?_
      refine zA_keyI (pc' := 18) hF rfl (by decide) (by decide) tb32 (by omega) dX9_byteAt_0.2.1.2 (by decide) rfl (fun e17 => ?_)
      refine zV_goto 22 dX9_byteAt_0.2.2.1.1 rfl ?_
      exact zV_iret rfl dX9_byteAt_0.2.2.2 ⟨rfl, by omega⟩

abbrev q_X9_empty (κ : Hp)  : Int → Hp → Prop := fun r h' => Fm [(31, 1)] κ h' ∧ ((h' 31 1 = 0))
set_option maxHeartbeats 4000000 in
set_option maxRecDepth 20000 in
theorem s_X9_empty {G : Ga} {κ : Hp} (hS : SI κ) (hR : KR κ) (hC : KC κ)  : zM G mX9_empty yX9_empty [.inr (.inr 31)] κ (q_X9_empty κ) := by
  refine zM_of [some (.inr (.inr 31))] 0 rfl rfl (Nat.le_of_ble_eq_true rfl) rfl ?_
  refine (show ∀ h : Hp, Fm [(31, 1)] κ h → h = κ → zV G mX9_empty (q_X9_empty κ) 0 [some (.inr (.inr 31))] [] h from fun h hF hk0 => ?_) κ (Fm.rf hS hR hC) rfl
  refine zW_aload_n (pc' := 1) dX9_empty_0.1.1 rfl rfl ?_
  refine zW_iconst (pc' := 2) dX9_empty_0.1.2 rfl ?_
  refine zPm (pc' := 5) hF (Or.inl rfl) (SI_irr hF.2.1 (Or.inl rfl) (fun _ _ => ⟨by omega, by omega⟩)) (KR_irr hF.2.2.1 rfl) (KC_31_1 hF.2.2.2 (by omega)) fp_X9_15 tb31 rfl dX9_empty_0.2.1 rfl (fun h hF w2 => ?_)
  have t2_31_1 := congrFun (congrFun w2 31) 1
  rw [zwr_eq] at t2_31_1
  exact zV_vret rfl dX9_empty_0.2.2 ⟨hF, by omega⟩










abbrev q_X1_forget (κ : Hp)  : Int → Hp → Prop := fun r h' => Fm [(54, 7)] κ h' ∧ ((h' 54 7 = -1))
set_option maxHeartbeats 4000000 in
set_option maxRecDepth 20000 in
theorem s_X1_forget {G : Ga} {κ : Hp} (hS : SI κ) (hR : KR κ) (hC : KC κ)  : zM G mX1_forget yX1_forget [.inr (.inr 54)] κ (q_X1_forget κ) := by
  refine zM_of [some (.inr (.inr 54))] 0 rfl rfl (Nat.le_of_ble_eq_true rfl) rfl ?_
  refine (show ∀ h : Hp, Fm [(54, 7)] κ h → h = κ → zV G mX1_forget (q_X1_forget κ) 0 [some (.inr (.inr 54))] [] h from fun h hF hk0 => ?_) κ (Fm.rf hS hR hC) rfl
  refine zW_aload_n (pc' := 1) dX1_forget_0.1.1 rfl rfl ?_
  refine zW_iconst (pc' := 2) dX1_forget_0.1.2 rfl ?_
  refine zPm (pc' := 5) hF (Or.inl rfl) (SI_54 hF.2.1 (by omega)) (KR_irr hF.2.2.1 rfl) (KC_irr hF.2.2.2 rfl) fp_X1_25 tb54 rfl dX1_forget_0.2.1 rfl (fun h hF w2 => ?_)
  have t2_54_7 := congrFun (congrFun w2 54) 7
  rw [zwr_eq] at t2_54_7
  exact zV_vret rfl dX1_forget_0.2.2 ⟨hF, by omega⟩

abbrev q_X11_rawChanged (κ : Hp)  : Int → Hp → Prop := fun r h' => Fm [(39, 1), (54, 7)] κ h' ∧ ((h' 54 7 = -1))
set_option maxHeartbeats 4000000 in
set_option maxRecDepth 20000 in
theorem s_X11_rawChanged {G : Ga} {κ : Hp} (hS : SI κ) (hR : KR κ) (hC : KC κ)  : zM G mX11_rawChanged yX11_rawChanged [.inr (.inr 30)] κ (q_X11_rawChanged κ) := by
  refine zM_of [some (.inr (.inr 30))] 0 rfl rfl (Nat.le_of_ble_eq_true rfl) rfl ?_
  refine (show ∀ h : Hp, Fm [(39, 1), (54, 7)] κ h → h = κ → zV G mX11_rawChanged (q_X11_rawChanged κ) 0 [some (.inr (.inr 30))] [] h from fun h hF hk0 => ?_) κ (Fm.rf hS hR hC) rfl
  refine zW_aload_n (pc' := 1) dX11_rawChanged_0.1.1.1 rfl rfl ?_
  refine zG_ref (pc' := 4) 39 fg_X11_26 tb30 rfl dX11_rawChanged_0.1.1.2 rfl ?_
  refine zW_iconst (pc' := 5) dX11_rawChanged_0.1.2.1 rfl ?_
  refine zPmz (pc' := 8) hF (Or.inl rfl) (SI_irr hF.2.1 (Or.inl rfl) (fun _ _ => ⟨by omega, by omega⟩)) (KR_irr hF.2.2.1 rfl) (KC_irr hF.2.2.2 rfl) (by omega) fp_X11_169 tb39 rfl dX11_rawChanged_0.1.2.2 rfl (fun h hF w5 => ?_)
  have t5_54_7 := congrFun (congrFun w5 54) 7
  rw [zwr_ne (Or.inl (by decide))] at t5_54_7
  refine zW_aload_n (pc' := 9) dX11_rawChanged_0.2.1.1 rfl rfl ?_
  refine zG_ref (pc' := 12) 54 fg_X11_51 tb30 rfl dX11_rawChanged_0.2.1.2 rfl ?_
  refine cvV0 (pc' := 15) kX1_forget vX1_forget lk_X11_109 ⟨Nat.le_of_ble_eq_true rfl, Nat.le_of_ble_eq_true rfl⟩ tb54 vq1 rfl rfl (s_X1_forget hF.2.1 hF.2.2.1 hF.2.2.2) dX11_rawChanged_0.2.2.1 (Nat.le_of_ble_eq_true rfl) rfl ?_
  rintro r12 h ⟨hF1, p12⟩; replace hF := hF.tr hF1 rfl
  exact zV_vret rfl dX11_rawChanged_0.2.2.2 ⟨hF, by omega⟩













abbrev q_X11_check (κ : Hp) (x1 : Int) : Int → Hp → Prop := fun r h' => Fm [(31, 1)] κ h' ∧ (((0 ≤ x1 ∧ x1 ≤ 16 ∧ x1 ≤ κ 31 1 ∧ h' 31 1 = 0) ∨ (¬ (0 ≤ x1 ∧ x1 ≤ 16 ∧ x1 ≤ κ 31 1) ∧ h' 31 1 = κ 31 1 ∧ r = -2)))
set_option maxHeartbeats 4000000 in
set_option maxRecDepth 20000 in
theorem s_X11_check {G : Ga} {κ : Hp} (hS : SI κ) (hR : KR κ) (hC : KC κ) (x1 : Int) (hx1 : rng x1) : zM G mX11_check yX11_check [.inr (.inr 30), .inl x1] κ (q_X11_check κ x1) := by
  have f_31_1 := KCt hC
  have f_33_0 := KCw hC
  have f_36_0 := KCk0 hC
  unfold rng at hx1
  have main : ∀ N : Nat, (∀ (v2 v3 : Int) (h : Hp), Fm [(31, 1)] κ h → (0 ≤ x1 ∧ x1 ≤ 16) → (-1 ≤ v2 ∧ v2 ≤ 15) → (0 ≤ v3 ∧ v3 ≤ 16) → (x1 ≤ κ 31 1) → (h 31 1 = κ 31 1) → 20196 + 34 * (16 - v3) + 33 < (N : Int) → zV G mX11_check (q_X11_check κ x1) 27 [some (.inr (.inr 30)), some (.inl x1), some (.inl v2), some (.inl v3)] [] h) := by
    intro N
    induction N with
    | zero =>
      intro v2 v3 h hF g0 g1 g2 gc0 gc1 hm
      exfalso; omega
    | succ N ih =>
      have k27 := ih
      intro v2 v3 h hF g0 g1 g2 gc0 gc1 hm
      refine zW_iload_n (pc' := 28) dX11_check_0.2.2.2.2 rfl rfl ?_
      refine zW_iload_n (pc' := 29) dX11_check_1.1.1.1.1 rfl rfl ?_
      refine zV_cm_ge (tgt := 76) (pc' := 32) dX11_check_1.1.1.1.2 rfl rfl ⟨by omega, by omega⟩ ⟨by omega, by omega⟩ (fun c29 => ?_) (fun c29 => ?_)
      · refine zW_aload_n (pc' := 77) dX11_check_2.2.1.1.2 rfl rfl ?_
        refine zG_ref (pc' := 80) 31 fg_X11_10 tb30 rfl dX11_check_2.2.1.2 rfl ?_
        refine cvV0 (pc' := 83) kX9_empty vX9_empty lk_X11_99 ⟨Nat.le_of_ble_eq_true rfl, Nat.le_of_ble_eq_true rfl⟩ tb31 vq9 rfl rfl (s_X9_empty hF.2.1 hF.2.2.1 hF.2.2.2) dX11_check_2.2.2.1.1 (Nat.le_of_ble_eq_true rfl) rfl ?_
        rintro r80 h ⟨hF1, p80⟩; replace hF := hF.tr hF1 rfl
        refine zW_iload_n (pc' := 84) dX11_check_2.2.2.1.2 rfl rfl ?_
        exact zV_iret rfl dX11_check_2.2.2.2 ⟨hF, by omega⟩
      · refine zW_iload_n (pc' := 33) dX11_check_1.1.1.2.1 rfl rfl ?_
        refine zW_iconst (pc' := 34) dX11_check_1.1.1.2.2 rfl ?_
        refine zV_cm_ne (tgt := 76) (pc' := 37) dX11_check_1.1.2.1.1 rfl rfl ⟨by omega, by omega⟩ ⟨by omega, by omega⟩ (fun c34 => ?_) (fun c34 => ?_)
        · refine zW_aload_n (pc' := 77) dX11_check_2.2.1.1.2 rfl rfl ?_
          refine zG_ref (pc' := 80) 31 fg_X11_10 tb30 rfl dX11_check_2.2.1.2 rfl ?_
          refine cvV0 (pc' := 83) kX9_empty vX9_empty lk_X11_99 ⟨Nat.le_of_ble_eq_true rfl, Nat.le_of_ble_eq_true rfl⟩ tb31 vq9 rfl rfl (s_X9_empty hF.2.1 hF.2.2.1 hF.2.2.2) dX11_check_2.2.2.1.1 (Nat.le_of_ble_eq_true rfl) rfl ?_
          rintro r80 h ⟨hF1, p80⟩; replace hF := hF.tr hF1 rfl
          refine zW_iload_n (pc' := 84) dX11_check_2.2.2.1.2 rfl rfl ?_
          exact zV_iret rfl dX11_check_2.2.2.2 ⟨hF, by omega⟩
        · refine zW_iload_n (pc' := 38) dX11_check_1.1.2.1.2 rfl rfl ?_
          refine zW_aload_n (pc' := 39) dX11_check_1.1.2.2.1 rfl rfl ?_
          refine zG_ref (pc' := 42) 33 fg_X11_19 tb30 rfl dX11_check_1.1.2.2.2 rfl ?_
          refine zGm (pc' := 45) hF rfl rfl fg_X11_130 tb33 rfl dX11_check_1.2.1.1.1 rfl ?_
          refine zV_cm_ge (tgt := 68) (pc' := 48) dX11_check_1.2.1.1.2 rfl rfl ⟨by omega, by omega⟩ ⟨by omega, by omega⟩ (fun c45 => ?_) (fun c45 => ?_)
          · refine zW_iload_n (pc' := 69) dX11_check_2.1.2.1.1 rfl rfl ?_
            refine zW_istore_n (ls' := [_, _, _, _]) (pc' := 70) dX11_check_2.1.2.1.2 (by decide) rfl rfl rfl ?_
            refine zW_iinc (ls' := [_, _, _, _]) (pc' := 73) dX11_check_2.1.2.2 rfl (by decide) rfl rfl rfl ?_
            refine zV_goto 27 dX11_check_2.2.1.1.1 rfl ?_
            exact k27 _ _ _ hF (by omega) (by omega) (by omega) (by omega) (by omega) (by omega)
          · refine zW_aload_n (pc' := 49) dX11_check_1.2.1.2.1 rfl rfl ?_
            refine zG_ref (pc' := 52) 33 fg_X11_19 tb30 rfl dX11_check_1.2.1.2.2 rfl ?_
            refine zG_ref (pc' := 55) 34 fg_X11_133 tb33 rfl dX11_check_1.2.2.1.1 rfl ?_
            refine zW_iload_n (pc' := 56) dX11_check_1.2.2.1.2 rfl rfl ?_
            refine zAm (pc' := 57) hF rfl (fun _ => rfl) tb34 (by omega) dX11_check_1.2.2.2.1 (by decide) rfl (fun e56 => ?_)
            refine zW_aload_n (pc' := 58) dX11_check_1.2.2.2.2 rfl rfl ?_
            refine zG_ref (pc' := 61) 31 fg_X11_10 tb30 rfl dX11_check_2.1.1.1.1 rfl ?_
            refine zW_iload_n (pc' := 62) dX11_check_2.1.1.1.2 rfl rfl ?_
            refine cvI1 (pc' := 65) kX9_byteAt vX9_byteAt lk_X11_137 ⟨Nat.le_of_ble_eq_true rfl, Nat.le_of_ble_eq_true rfl⟩ tb31 vq9 rfl rfl (s_X9_byteAt (b := bdB true) (κ := h) hF.2.2.2 (Fr.rf hF.2.1) _ ⟨by omega, by omega⟩) dX11_check_2.1.1.2.1 (Nat.le_of_ble_eq_true rfl) rfl ?_
            rintro r62 z62 ⟨hz62, p62⟩; subst z62
            refine zV_cm_eq (tgt := 70) (pc' := 68) dX11_check_2.1.1.2.2 rfl rfl ⟨by omega, by omega⟩ ⟨by omega, by omega⟩ (fun c65 => ?_) (fun c65 => ?_)
            · refine zW_iinc (ls' := [_, _, _, _]) (pc' := 73) dX11_check_2.1.2.2 rfl (by decide) rfl rfl rfl ?_
              refine zV_goto 27 dX11_check_2.2.1.1.1 rfl ?_
              exact k27 _ _ _ hF (by omega) (by omega) (by omega) (by omega) (by omega) (by omega)
            · refine zW_iload_n (pc' := 69) dX11_check_2.1.2.1.1 rfl rfl ?_
              refine zW_istore_n (ls' := [_, _, _, _]) (pc' := 70) dX11_check_2.1.2.1.2 (by decide) rfl rfl rfl ?_
              refine zW_iinc (ls' := [_, _, _, _]) (pc' := 73) dX11_check_2.1.2.2 rfl (by decide) rfl rfl rfl ?_
              refine zV_goto 27 dX11_check_2.2.1.1.1 rfl ?_
              exact k27 _ _ _ hF (by omega) (by omega) (by omega) (by omega) (by omega) (by omega)
  refine zM_of [some (.inr (.inr 30)), some (.inl x1), none, none] 2 rfl rfl (Nat.le_of_ble_eq_true rfl) rfl ?_
  refine (show ∀ h : Hp, Fm [(31, 1)] κ h → h = κ → zV G mX11_check (q_X11_check κ x1) 0 [some (.inr (.inr 30)), some (.inl x1), none, none] [] h from fun h hF hk0 => ?_) κ (Fm.rf hS hR hC) rfl
  have y0_31_1 : h 31 1 = κ 31 1 := by rw [hk0]
  refine zW_iload_n (pc' := 1) dX11_check_0.1.1.1.1 rfl rfl ?_
  refine zW_bipush (pc' := 3) dX11_check_0.1.1.1.2 rfl rfl ?_
  refine csI2 (pc' := 6) kX11_isWithin vX11_isWithin lk_X11_116 ⟨Nat.le_of_ble_eq_true rfl, Nat.le_of_ble_eq_true rfl⟩ rfl (s_X11_isWithinR (b := bdB true) (κ := h) (Fr.rf hF.2.1) _ ⟨by omega, by omega⟩ _ ⟨by omega, by omega⟩) dX11_check_0.1.1.2.1 (Nat.le_of_ble_eq_true rfl) rfl ?_
  rintro r3 z3 ⟨hz3, p3⟩; subst z3
  refine zV_if_eq (tgt := 20) (pc' := 9) dX11_check_0.1.1.2.2 rfl rfl ⟨by omega, by omega⟩ (fun c6 => ?_) (fun c6 => ?_)
  · refine zW_bipush (pc' := 22) dX11_check_0.2.1.1.2 rfl rfl ?_
    exact zV_iret rfl dX11_check_0.2.1.2.1 ⟨hF, by omega⟩
  · refine zW_iload_n (pc' := 10) dX11_check_0.1.2.1.1 rfl rfl ?_
    refine zW_aload_n (pc' := 11) dX11_check_0.1.2.1.2 rfl rfl ?_
    refine zG_ref (pc' := 14) 31 fg_X11_10 tb30 rfl dX11_check_0.1.2.2.1 rfl ?_
    refine zG_int (pc' := 17) fg_X11_88 tb31 rfl dX11_check_0.1.2.2.2 rfl ?_
    have e14 := KCt hF.2.2.2
    refine zV_cm_le (tgt := 23) (pc' := 20) dX11_check_0.2.1.1.1 rfl rfl ⟨by omega, by omega⟩ ⟨by omega, by omega⟩ (fun c17 => ?_) (fun c17 => ?_)
    · refine zW_iconst (pc' := 24) dX11_check_0.2.1.2.2 rfl ?_
      refine zW_istore_n (ls' := [_, _, _, _]) (pc' := 25) dX11_check_0.2.2.1.1 (by decide) rfl rfl rfl ?_
      refine zW_iconst (pc' := 26) dX11_check_0.2.2.1.2 rfl ?_
      refine zW_istore_n (ls' := [_, _, _, _]) (pc' := 27) dX11_check_0.2.2.2.1 (by decide) rfl rfl rfl ?_
      exact (main 10000000000000000000000000000000000000000) _ _ _ hF (by omega) (by omega) (by omega) (by omega) (by omega) (by omega)
    · refine zW_bipush (pc' := 22) dX11_check_0.2.1.1.2 rfl rfl ?_
      exact zV_iret rfl dX11_check_0.2.1.2.1 ⟨hF, by omega⟩
