
abbrev q_X11_isWithinR (κ h : Hp) (x1 : Int) (x2 : Int) : Int → Hp → Prop := fun r h' => h' = h ∧ ((0 ≤ r) ∧ (r ≤ 1) ∧ (r = 1 ↔ (0 ≤ x1 ∧ x1 ≤ x2)))
set_option maxHeartbeats 4000000 in
set_option maxRecDepth 20000 in
theorem s_X11_isWithinR {G : Ga} {b : Bd} {κ h : Hp} (hF : Fr b κ h) (x1 : Int) (hx1 : rng x1) (x2 : Int) (hx2 : rng x2) : zM G mX11_isWithin yX11_isWithin [.inl x1, .inl x2] h (q_X11_isWithinR κ h x1 x2) := by
  unfold rng at hx1
  unfold rng at hx2
  refine zM_of [some (.inl x1), some (.inl x2)] 0 rfl rfl (Nat.le_of_ble_eq_true rfl) rfl ?_
  refine zW_iload_n (pc' := 1) dX11_isWithin_0.1.1.1.1 rfl rfl ?_
  refine zV_if_lt (tgt := 13) (pc' := 4) dX11_isWithin_0.1.1.1.2 rfl rfl ⟨by omega, by omega⟩ (fun c1 => ?_) (fun c1 => ?_)
  · refine zW_iconst (pc' := 14) dX11_isWithin_0.2.2.1 rfl ?_
    exact zV_zret rfl (by omega) dX11_isWithin_0.2.2.2 ⟨rfl, by omega⟩
  · refine zW_iload_n (pc' := 5) dX11_isWithin_0.1.1.2 rfl rfl ?_
    refine zW_iload_n (pc' := 6) dX11_isWithin_0.1.2.1 rfl rfl ?_
    refine zV_cm_gt (tgt := 13) (pc' := 9) dX11_isWithin_0.1.2.2 rfl rfl ⟨by omega, by omega⟩ ⟨by omega, by omega⟩ (fun c6 => ?_) (fun c6 => ?_)
    · refine zW_iconst (pc' := 14) dX11_isWithin_0.2.2.1 rfl ?_
      exact zV_zret rfl (by omega) dX11_isWithin_0.2.2.2 ⟨rfl, by omega⟩
    · refine zW_iconst (pc' := 10) dX11_isWithin_0.2.1.1 rfl ?_
      refine zV_goto 14 dX11_isWithin_0.2.1.2 rfl ?_
      exact zV_zret rfl (by omega) dX11_isWithin_0.2.2.2 ⟨rfl, by omega⟩

abbrev q_X11_isSide (κ h : Hp) (x1 : Int) : Int → Hp → Prop := fun r h' => h' = h ∧ ((0 ≤ r) ∧ (r ≤ 1) ∧ (r = 1 ↔ (4 ≤ x1 ∧ x1 ≤ 16 ∧ x1 % 2 = 0)))
set_option maxHeartbeats 4000000 in
set_option maxRecDepth 20000 in
theorem s_X11_isSide {G : Ga} {b : Bd} {κ h : Hp} (hF : Fr b κ h) (x1 : Int) (hx1 : rng x1) : zM G mX11_isSide yX11_isSide [.inl x1] h (q_X11_isSide κ h x1) := by
  unfold rng at hx1
  refine zM_of [some (.inl x1)] 0 rfl rfl (Nat.le_of_ble_eq_true rfl) rfl ?_
  refine zW_iload_n (pc' := 1) dX11_isSide_0.1.1.1.1 rfl rfl ?_
  refine zW_iconst (pc' := 2) dX11_isSide_0.1.1.1.2 rfl ?_
  refine zV_cm_lt (tgt := 21) (pc' := 5) dX11_isSide_0.1.1.2.1 rfl rfl ⟨by omega, by omega⟩ ⟨by omega, by omega⟩ (fun c2 => ?_) (fun c2 => ?_)
  · refine zW_iconst (pc' := 22) dX11_isSide_0.2.2.1.2 rfl ?_
    exact zV_zret rfl (by omega) dX11_isSide_0.2.2.2 ⟨rfl, by omega⟩
  · refine zW_iload_n (pc' := 6) dX11_isSide_0.1.1.2.2 rfl rfl ?_
    refine zW_bipush (pc' := 8) dX11_isSide_0.1.2.1.1 rfl rfl ?_
    refine zV_cm_gt (tgt := 21) (pc' := 11) dX11_isSide_0.1.2.1.2 rfl rfl ⟨by omega, by omega⟩ ⟨by omega, by omega⟩ (fun c8 => ?_) (fun c8 => ?_)
    · refine zW_iconst (pc' := 22) dX11_isSide_0.2.2.1.2 rfl ?_
      exact zV_zret rfl (by omega) dX11_isSide_0.2.2.2 ⟨rfl, by omega⟩
    · refine zW_iload_n (pc' := 12) dX11_isSide_0.1.2.2 rfl rfl ?_
      refine zW_iconst (pc' := 13) dX11_isSide_0.2.1.1.1 rfl ?_
      refine zW_irem (pc' := 14) (by omega) (by omega) dX11_isSide_0.2.1.1.2 rfl ?_
      refine zV_if_ne (tgt := 21) (pc' := 17) dX11_isSide_0.2.1.2.1 rfl rfl ⟨by omega, by omega⟩ (fun c14 => ?_) (fun c14 => ?_)
      · refine zW_iconst (pc' := 22) dX11_isSide_0.2.2.1.2 rfl ?_
        exact zV_zret rfl (by omega) dX11_isSide_0.2.2.2 ⟨rfl, by omega⟩
      · refine zW_iconst (pc' := 18) dX11_isSide_0.2.1.2.2 rfl ?_
        refine zV_goto 22 dX11_isSide_0.2.2.1.1 rfl ?_
        exact zV_zret rfl (by omega) dX11_isSide_0.2.2.2 ⟨rfl, by omega⟩

abbrev q_X11_clipped (κ h : Hp) (x1 : Int) : Int → Hp → Prop := fun r h' => h' = h ∧ ((0 ≤ r) ∧ (r ≤ 4095))
set_option maxHeartbeats 4000000 in
set_option maxRecDepth 20000 in
theorem s_X11_clipped {G : Ga} {b : Bd} {κ h : Hp} (hF : Fr b κ h) (x1 : Int) : zM G mX11_clipped yX11_clipped [.inl x1] h (q_X11_clipped κ h x1) := by
  refine zM_of [some (.inl x1)] 0 rfl rfl (Nat.le_of_ble_eq_true rfl) rfl ?_
  refine zW_iconst (pc' := 1) dX11_clipped_0.1.1.1 rfl ?_
  refine zW_sipush (pc' := 4) dX11_clipped_0.1.1.2 rfl rfl ?_
  refine zW_iload_n (pc' := 5) dX11_clipped_0.1.2 rfl rfl ?_
  refine zV_anyI (fun v5a e5a => ?_)
  unfold rng at e5a
  refine zV_mmin (pc' := 8) km_X11_407 (Nat.le_of_ble_eq_true rfl) (Nat.le_of_ble_eq_true rfl) dX11_clipped_0.2.1.1 rfl (fun v5 e5 => ?_)
  replace e5 := e5.2 ⟨by omega, by omega⟩ ⟨by omega, by omega⟩
  refine zV_mmax (pc' := 11) km_X11_412 (Nat.le_of_ble_eq_true rfl) (Nat.le_of_ble_eq_true rfl) dX11_clipped_0.2.1.2 rfl (fun v8 e8 => ?_)
  replace e8 := e8.2 ⟨by omega, by omega⟩ ⟨by omega, by omega⟩
  exact zV_iret rfl dX11_clipped_0.2.2 ⟨rfl, by omega⟩

abbrev q_X11_mirrored (κ h : Hp) (x1 : Int) (x2 : Int) : Int → Hp → Prop := fun r h' => h' = h ∧ ((0 ≤ r) ∧ (r ≤ 15) ∧ (r ≤ x2 - 1))
set_option maxHeartbeats 4000000 in
set_option maxRecDepth 20000 in
theorem s_X11_mirrored {G : Ga} {b : Bd} {κ h : Hp} (hF : Fr b κ h) (x1 : Int) (hx1 : -2 ≤ x1 ∧ x1 ≤ 17) (x2 : Int) (hx2 : 4 ≤ x2 ∧ x2 ≤ 16) (hm : x1 ≤ x2 + 1) : zM G mX11_mirrored yX11_mirrored [.inl x1, .inl x2] h (q_X11_mirrored κ h x1 x2) := by
  refine zM_of [some (.inl x1), some (.inl x2)] 0 rfl rfl (Nat.le_of_ble_eq_true rfl) rfl ?_
  refine zW_iload_n (pc' := 1) dX11_mirrored_0.1.1.1.1 rfl rfl ?_
  refine zV_if_ge (tgt := 7) (pc' := 4) dX11_mirrored_0.1.1.1.2 rfl rfl ⟨by omega, by omega⟩ (fun c1 => ?_) (fun c1 => ?_)
  · refine zW_iload_n (pc' := 8) dX11_mirrored_0.1.2.1.2 rfl rfl ?_
    refine zW_iload_n (pc' := 9) dX11_mirrored_0.1.2.2.1 rfl rfl ?_
    refine zV_cm_ge (tgt := 16) (pc' := 12) dX11_mirrored_0.1.2.2.2 rfl rfl ⟨by omega, by omega⟩ ⟨by omega, by omega⟩ (fun c9 => ?_) (fun c9 => ?_)
    · refine zW_iconst (pc' := 17) dX11_mirrored_0.2.1.2.1 rfl ?_
      refine zW_iload_n (pc' := 18) dX11_mirrored_0.2.1.2.2 rfl rfl ?_
      refine zW_imul (pc' := 19) dX11_mirrored_0.2.2.1.1 rfl ?_
      refine zW_iconst (pc' := 20) dX11_mirrored_0.2.2.1.2 rfl ?_
      refine zW_isub (pc' := 21) dX11_mirrored_0.2.2.2.1 rfl ?_
      refine zW_iload_n (pc' := 22) dX11_mirrored_0.2.2.2.2 rfl rfl ?_
      refine zW_isub (pc' := 23) dX11_mirrored_1.1 rfl ?_
      exact zV_iret rfl dX11_mirrored_1.2 ⟨rfl, by omega⟩
    · refine zW_iload_n (pc' := 13) dX11_mirrored_0.2.1.1.1 rfl rfl ?_
      refine zV_goto 23 dX11_mirrored_0.2.1.1.2 rfl ?_
      exact zV_iret rfl dX11_mirrored_1.2 ⟨rfl, by omega⟩
  · refine zW_iload_n (pc' := 5) dX11_mirrored_0.1.1.2.1 rfl rfl ?_
    refine zW_ineg (pc' := 6) dX11_mirrored_0.1.1.2.2 rfl ?_
    exact zV_iret rfl dX11_mirrored_0.1.2.1.1 ⟨rfl, by omega⟩

abbrev q_X11_lightOf (κ h : Hp) (l1 : Nat) (x2 : Int) : Int → Hp → Prop := fun r h' => h' = h ∧ (True)
set_option maxHeartbeats 4000000 in
set_option maxRecDepth 20000 in
theorem s_X11_lightOf {G : Ga} {b : Bd} {κ h : Hp} (hF : Fr b κ h) (l1 : Nat) (hl1 : 71 ≤ l1 ∧ l1 ≤ 85) (x2 : Int) (hx2 : 0 ≤ x2 ∧ x2 ≤ 255) : zM G mX11_lightOf yX11_lightOf [.inr (.inr l1), .inl x2] h (q_X11_lightOf κ h l1 x2) := by
  refine zM_of [some (.inr (.inr l1)), some (.inl x2)] 0 rfl rfl (Nat.le_of_ble_eq_true rfl) rfl ?_
  refine zW_aload_n (pc' := 1) dX11_lightOf_0.1.1.1.1 rfl rfl ?_
  refine zW_iload_n (pc' := 2) dX11_lightOf_0.1.1.1.2 rfl rfl ?_
  refine zV_iald (pc' := 3) (tabL (by omega) (by omega)) (by omega) dX11_lightOf_0.1.1.2.1 (by decide) rfl ?_
  refine zW_aload_n (pc' := 4) dX11_lightOf_0.1.1.2.2 rfl rfl ?_
  refine zW_sipush (pc' := 7) dX11_lightOf_0.1.2.1.1 rfl rfl ?_
  refine zW_iload_n (pc' := 8) dX11_lightOf_0.1.2.1.2 rfl rfl ?_
  refine zW_iadd (pc' := 9) dX11_lightOf_0.1.2.2.1 rfl ?_
  refine zV_iald (pc' := 10) (tabL (by omega) (by omega)) (by omega) dX11_lightOf_0.1.2.2.2 (by decide) rfl ?_
  refine zW_iadd (pc' := 11) dX11_lightOf_0.2.1.1.1 rfl ?_
  refine zW_iconst (pc' := 12) dX11_lightOf_0.2.1.1.2 rfl ?_
  refine zW_aload_n (pc' := 13) dX11_lightOf_0.2.1.2.1 rfl rfl ?_
  refine zW_sipush (pc' := 16) dX11_lightOf_0.2.1.2.2 rfl rfl ?_
  refine zW_iload_n (pc' := 17) dX11_lightOf_0.2.2.1.1 rfl rfl ?_
  refine zW_iadd (pc' := 18) dX11_lightOf_0.2.2.1.2 rfl ?_
  refine zV_iald (pc' := 19) (tabL (by omega) (by omega)) (by omega) dX11_lightOf_0.2.2.2.1 (by decide) rfl ?_
  refine zW_imul (pc' := 20) dX11_lightOf_0.2.2.2.2 rfl ?_
  refine zW_iadd (pc' := 21) dX11_lightOf_1.1.1 rfl ?_
  refine zW_iconst (pc' := 22) dX11_lightOf_1.1.2 rfl ?_
  refine zW_idivQ (pc' := 23) ⟨by omega, by omega⟩ (by omega) dX11_lightOf_1.2.1 rfl (fun v22 e22 => ?_)
  unfold rng at e22
  exact zV_iret rfl dX11_lightOf_1.2.2 ⟨rfl, trivial⟩

abbrev q_X11_greatestOf (κ h : Hp) (l1 : Nat) (x2 : Int) : Int → Hp → Prop := fun r h' => h' = h ∧ (True)
set_option maxHeartbeats 4000000 in
set_option maxRecDepth 20000 in
theorem s_X11_greatestOf {G : Ga} {b : Bd} {κ h : Hp} (hF : Fr b κ h) (l1 : Nat) (hl1 : 71 ≤ l1 ∧ l1 ≤ 85) (x2 : Int) (hx2 : 0 ≤ x2 ∧ x2 ≤ 255) : zM G mX11_greatestOf yX11_greatestOf [.inr (.inr l1), .inl x2] h (q_X11_greatestOf κ h l1 x2) := by
  refine zM_of [some (.inr (.inr l1)), some (.inl x2)] 0 rfl rfl (Nat.le_of_ble_eq_true rfl) rfl ?_
  refine zW_aload_n (pc' := 1) dX11_greatestOf_0.1.1.1.1 rfl rfl ?_
  refine zW_iload_n (pc' := 2) dX11_greatestOf_0.1.1.1.2 rfl rfl ?_
  refine zV_iald (pc' := 3) (tabL (by omega) (by omega)) (by omega) dX11_greatestOf_0.1.1.2.1 (by decide) rfl ?_
  refine zW_aload_n (pc' := 4) dX11_greatestOf_0.1.1.2.2 rfl rfl ?_
  refine zW_sipush (pc' := 7) dX11_greatestOf_0.1.2.1.1 rfl rfl ?_
  refine zW_iload_n (pc' := 8) dX11_greatestOf_0.1.2.1.2 rfl rfl ?_
  refine zW_iadd (pc' := 9) dX11_greatestOf_0.1.2.2.1 rfl ?_
  refine zV_iald (pc' := 10) (tabL (by omega) (by omega)) (by omega) dX11_greatestOf_0.1.2.2.2 (by decide) rfl ?_
  refine zV_mmax (pc' := 13) km_X11_412 (Nat.le_of_ble_eq_true rfl) (Nat.le_of_ble_eq_true rfl) dX11_greatestOf_0.2.1.1.1 rfl (fun v10 e10 => ?_)
  replace e10 := e10.1
  unfold rng at e10
  refine zW_aload_n (pc' := 14) dX11_greatestOf_0.2.1.1.2 rfl rfl ?_
  refine zW_sipush (pc' := 17) dX11_greatestOf_0.2.1.2.1 rfl rfl ?_
  refine zW_iload_n (pc' := 18) dX11_greatestOf_0.2.1.2.2 rfl rfl ?_
  refine zW_iadd (pc' := 19) dX11_greatestOf_0.2.2.1.1 rfl ?_
  refine zV_iald (pc' := 20) (tabL (by omega) (by omega)) (by omega) dX11_greatestOf_0.2.2.1.2 (by decide) rfl ?_
  refine zV_mmax (pc' := 23) km_X11_412 (Nat.le_of_ble_eq_true rfl) (Nat.le_of_ble_eq_true rfl) dX11_greatestOf_0.2.2.2.1 rfl (fun v20 e20 => ?_)
  replace e20 := e20.1
  unfold rng at e20
  exact zV_iret rfl dX11_greatestOf_0.2.2.2.2 ⟨rfl, trivial⟩

abbrev q_X11_leastOf (κ h : Hp) (l1 : Nat) (x2 : Int) : Int → Hp → Prop := fun r h' => h' = h ∧ (True)
set_option maxHeartbeats 4000000 in
set_option maxRecDepth 20000 in
theorem s_X11_leastOf {G : Ga} {b : Bd} {κ h : Hp} (hF : Fr b κ h) (l1 : Nat) (hl1 : 71 ≤ l1 ∧ l1 ≤ 85) (x2 : Int) (hx2 : 0 ≤ x2 ∧ x2 ≤ 255) : zM G mX11_leastOf yX11_leastOf [.inr (.inr l1), .inl x2] h (q_X11_leastOf κ h l1 x2) := by
  refine zM_of [some (.inr (.inr l1)), some (.inl x2)] 0 rfl rfl (Nat.le_of_ble_eq_true rfl) rfl ?_
  refine zW_aload_n (pc' := 1) dX11_leastOf_0.1.1.1.1 rfl rfl ?_
  refine zW_iload_n (pc' := 2) dX11_leastOf_0.1.1.1.2 rfl rfl ?_
  refine zV_iald (pc' := 3) (tabL (by omega) (by omega)) (by omega) dX11_leastOf_0.1.1.2.1 (by decide) rfl ?_
  refine zW_aload_n (pc' := 4) dX11_leastOf_0.1.1.2.2 rfl rfl ?_
  refine zW_sipush (pc' := 7) dX11_leastOf_0.1.2.1.1 rfl rfl ?_
  refine zW_iload_n (pc' := 8) dX11_leastOf_0.1.2.1.2 rfl rfl ?_
  refine zW_iadd (pc' := 9) dX11_leastOf_0.1.2.2.1 rfl ?_
  refine zV_iald (pc' := 10) (tabL (by omega) (by omega)) (by omega) dX11_leastOf_0.1.2.2.2 (by decide) rfl ?_
  refine zV_mmin (pc' := 13) km_X11_407 (Nat.le_of_ble_eq_true rfl) (Nat.le_of_ble_eq_true rfl) dX11_leastOf_0.2.1.1.1 rfl (fun v10 e10 => ?_)
  replace e10 := e10.1
  unfold rng at e10
  refine zW_aload_n (pc' := 14) dX11_leastOf_0.2.1.1.2 rfl rfl ?_
  refine zW_sipush (pc' := 17) dX11_leastOf_0.2.1.2.1 rfl rfl ?_
  refine zW_iload_n (pc' := 18) dX11_leastOf_0.2.1.2.2 rfl rfl ?_
  refine zW_iadd (pc' := 19) dX11_leastOf_0.2.2.1.1 rfl ?_
  refine zV_iald (pc' := 20) (tabL (by omega) (by omega)) (by omega) dX11_leastOf_0.2.2.1.2 (by decide) rfl ?_
  refine zV_mmin (pc' := 23) km_X11_407 (Nat.le_of_ble_eq_true rfl) (Nat.le_of_ble_eq_true rfl) dX11_leastOf_0.2.2.2.1 rfl (fun v20 e20 => ?_)
  replace e20 := e20.1
  unfold rng at e20
  exact zV_iret rfl dX11_leastOf_0.2.2.2.2 ⟨rfl, trivial⟩

abbrev q_X11_blurOf (κ h : Hp) (l2 : Nat) (x3 : Int) (x4 : Int) (x5 : Int) : Int → Hp → Prop := fun r h' => h' = h ∧ (True)
set_option maxHeartbeats 4000000 in
set_option maxRecDepth 20000 in
theorem s_X11_blurOf {G : Ga} {b : Bd} {κ h : Hp} (hK : KC κ) (hF : Fr b κ h) (l2 : Nat) (hl2 : 71 ≤ l2 ∧ l2 ≤ 85) (x3 : Int) (hx3 : 0 ≤ x3 ∧ x3 ≤ 2) (x4 : Int) (hx4 : 0 ≤ x4 ∧ x4 ≤ 15 ∧ x4 - κ 33 0 ≤ -1) (x5 : Int) (hx5 : 0 ≤ x5 ∧ x5 ≤ 15 ∧ x5 - κ 33 1 ≤ -1) : zM G mX11_blurOf yX11_blurOf [.inr (.inr 33), .inr (.inr l2), .inl x3, .inl x4, .inl x5] h (q_X11_blurOf κ h l2 x3 x4 x5) := by
  have f_33_0 := KCw hK
  have f_33_1 := KCh hK
  refine zM_of [some (.inr (.inr 33)), some (.inr (.inr l2)), some (.inl x3), some (.inl x4), some (.inl x5), none, none, none, none, none, none, none] 7 rfl rfl (Nat.le_of_ble_eq_true rfl) rfl ?_
  refine zW_iload_n (pc' := 1) dX11_blurOf_0.1.1.1.1 rfl rfl ?_
  refine zW_iconst (pc' := 2) dX11_blurOf_0.1.1.1.2 rfl ?_
  refine zW_isub (pc' := 3) dX11_blurOf_0.1.1.2.1 rfl ?_
  refine zW_aload_n (pc' := 4) dX11_blurOf_0.1.1.2.2 rfl rfl ?_
  refine zG_key (pc' := 7) hF rfl fg_X11_130 tb33 rfl dX11_blurOf_0.1.2.1.1 rfl ?_
  refine csI2 (pc' := 10) kX11_mirrored vX11_mirrored lk_X11_415 ⟨Nat.le_of_ble_eq_true rfl, Nat.le_of_ble_eq_true rfl⟩ rfl (s_X11_mirrored hF _ ⟨by omega, by omega⟩ _ ⟨by omega, by omega⟩ (by omega)) dX11_blurOf_0.1.2.1.2 (Nat.le_of_ble_eq_true rfl) rfl ?_
  rintro r7 z7 ⟨hz7, p7⟩; subst z7
  refine zW_istore (ls' := [_, _, _, _, _, _, _, _, _, _, _, _]) (pc' := 12) dX11_blurOf_0.1.2.2.1 (by decide) rfl rfl rfl ?_
  refine zW_iload_n (pc' := 13) dX11_blurOf_0.1.2.2.2 rfl rfl ?_
  refine zW_iconst (pc' := 14) dX11_blurOf_0.2.1.1.1 rfl ?_
  refine zW_iadd (pc' := 15) dX11_blurOf_0.2.1.1.2 rfl ?_
  refine zW_aload_n (pc' := 16) dX11_blurOf_0.2.1.2.1 rfl rfl ?_
  refine zG_key (pc' := 19) hF rfl fg_X11_130 tb33 rfl dX11_blurOf_0.2.1.2.2 rfl ?_
  refine csI2 (pc' := 22) kX11_mirrored vX11_mirrored lk_X11_415 ⟨Nat.le_of_ble_eq_true rfl, Nat.le_of_ble_eq_true rfl⟩ rfl (s_X11_mirrored hF _ ⟨by omega, by omega⟩ _ ⟨by omega, by omega⟩ (by omega)) dX11_blurOf_0.2.2.1.1 (Nat.le_of_ble_eq_true rfl) rfl ?_
  rintro r19 z19 ⟨hz19, p19⟩; subst z19
  refine zW_istore (ls' := [_, _, _, _, _, _, _, _, _, _, _, _]) (pc' := 24) dX11_blurOf_0.2.2.1.2 (by decide) rfl rfl rfl ?_
  refine zW_iload_n (pc' := 25) dX11_blurOf_0.2.2.2.1 rfl rfl ?_
  refine zW_sipush (pc' := 28) dX11_blurOf_0.2.2.2.2 rfl rfl ?_
  refine zW_imul (pc' := 29) dX11_blurOf_1.1.1.1.1 rfl ?_
  refine zW_iload (pc' := 31) dX11_blurOf_1.1.1.1.2 rfl rfl ?_
  refine zW_bipush (pc' := 33) dX11_blurOf_1.1.1.2.1 rfl rfl ?_
  refine zW_imul (pc' := 34) dX11_blurOf_1.1.1.2.2 rfl ?_
  refine zW_iadd (pc' := 35) dX11_blurOf_1.1.2.1.1 rfl ?_
  refine zW_istore (ls' := [_, _, _, _, _, _, _, _, _, _, _, _]) (pc' := 37) dX11_blurOf_1.1.2.1.2 (by decide) rfl rfl rfl ?_
  refine zW_iload_n (pc' := 38) dX11_blurOf_1.1.2.2.1 rfl rfl ?_
  refine zW_sipush (pc' := 41) dX11_blurOf_1.1.2.2.2 rfl rfl ?_
  refine zW_imul (pc' := 42) dX11_blurOf_1.2.1.1.1 rfl ?_
  refine zW_iload (pc' := 44) dX11_blurOf_1.2.1.1.2 rfl rfl ?_
  refine zW_iconst (pc' := 45) dX11_blurOf_1.2.1.2.1 rfl ?_
  refine zW_isub (pc' := 46) dX11_blurOf_1.2.1.2.2 rfl ?_
  refine zW_aload_n (pc' := 47) dX11_blurOf_1.2.2.1.1 rfl rfl ?_
  refine zG_key (pc' := 50) hF rfl fg_X11_127 tb33 rfl dX11_blurOf_1.2.2.1.2 rfl ?_
  refine csI2 (pc' := 53) kX11_mirrored vX11_mirrored lk_X11_415 ⟨Nat.le_of_ble_eq_true rfl, Nat.le_of_ble_eq_true rfl⟩ rfl (s_X11_mirrored hF _ ⟨by omega, by omega⟩ _ ⟨by omega, by omega⟩ (by omega)) dX11_blurOf_1.2.2.2.1 (Nat.le_of_ble_eq_true rfl) rfl ?_
  rintro r50 z50 ⟨hz50, p50⟩; subst z50
  refine zW_bipush (pc' := 55) dX11_blurOf_1.2.2.2.2 rfl rfl ?_
  refine zW_imul (pc' := 56) dX11_blurOf_2.1.1.1.1 rfl ?_
  refine zW_iadd (pc' := 57) dX11_blurOf_2.1.1.1.2 rfl ?_
  refine zW_istore (ls' := [_, _, _, _, _, _, _, _, _, _, _, _]) (pc' := 59) dX11_blurOf_2.1.1.2.1 (by decide) rfl rfl rfl ?_
  refine zW_iload_n (pc' := 60) dX11_blurOf_2.1.1.2.2 rfl rfl ?_
  refine zW_sipush (pc' := 63) dX11_blurOf_2.1.2.1.1 rfl rfl ?_
  refine zW_imul (pc' := 64) dX11_blurOf_2.1.2.1.2 rfl ?_
  refine zW_iload (pc' := 66) dX11_blurOf_2.1.2.2.1 rfl rfl ?_
  refine zW_iconst (pc' := 67) dX11_blurOf_2.1.2.2.2 rfl ?_
  refine zW_iadd (pc' := 68) dX11_blurOf_2.2.1.1.1 rfl ?_
  refine zW_aload_n (pc' := 69) dX11_blurOf_2.2.1.1.2 rfl rfl ?_
  refine zG_key (pc' := 72) hF rfl fg_X11_127 tb33 rfl dX11_blurOf_2.2.1.2.1 rfl ?_
  refine csI2 (pc' := 75) kX11_mirrored vX11_mirrored lk_X11_415 ⟨Nat.le_of_ble_eq_true rfl, Nat.le_of_ble_eq_true rfl⟩ rfl (s_X11_mirrored hF _ ⟨by omega, by omega⟩ _ ⟨by omega, by omega⟩ (by omega)) dX11_blurOf_2.2.1.2.2 (Nat.le_of_ble_eq_true rfl) rfl ?_
  rintro r72 z72 ⟨hz72, p72⟩; subst z72
  refine zW_bipush (pc' := 77) dX11_blurOf_2.2.2.1.1 rfl rfl ?_
  refine zW_imul (pc' := 78) dX11_blurOf_2.2.2.1.2 rfl ?_
  refine zW_iadd (pc' := 79) dX11_blurOf_2.2.2.2.1 rfl ?_
  refine zW_istore (ls' := [_, _, _, _, _, _, _, _, _, _, _, _]) (pc' := 81) dX11_blurOf_2.2.2.2.2 (by decide) rfl rfl rfl ?_
  refine zW_aload_n (pc' := 82) dX11_blurOf_3.1.1.1.1 rfl rfl ?_
  refine zW_iload (pc' := 84) dX11_blurOf_3.1.1.1.2 rfl rfl ?_
  refine zW_iload (pc' := 86) dX11_blurOf_3.1.1.2.1 rfl rfl ?_
  refine zW_iadd (pc' := 87) dX11_blurOf_3.1.1.2.2 rfl ?_
  refine zV_iald (pc' := 88) (tabL (by omega) (by omega)) (by omega) dX11_blurOf_3.1.2.1.1 (by decide) rfl ?_
  refine zW_aload_n (pc' := 89) dX11_blurOf_3.1.2.1.2 rfl rfl ?_
  refine zW_iload (pc' := 91) dX11_blurOf_3.1.2.2.1 rfl rfl ?_
  refine zW_iload (pc' := 93) dX11_blurOf_3.1.2.2.2 rfl rfl ?_
  refine zW_iadd (pc' := 94) dX11_blurOf_3.2.1.1.1 rfl ?_
  refine zV_iald (pc' := 95) (tabL (by omega) (by omega)) (by omega) dX11_blurOf_3.2.1.1.2 (by decide) rfl ?_
  refine zW_iadd (pc' := 96) dX11_blurOf_3.2.1.2.1 rfl ?_
  refine zW_aload_n (pc' := 97) dX11_blurOf_3.2.1.2.2 rfl rfl ?_
  refine zW_iload (pc' := 99) dX11_blurOf_3.2.2.1.1 rfl rfl ?_
  refine zW_iload_n (pc' := 100) dX11_blurOf_3.2.2.1.2 rfl rfl ?_
  refine zW_iadd (pc' := 101) dX11_blurOf_3.2.2.2.1 rfl ?_
  refine zV_iald (pc' := 102) (tabL (by omega) (by omega)) (by omega) dX11_blurOf_3.2.2.2.2 (by decide) rfl ?_
  refine zW_iadd (pc' := 103) dX11_blurOf_4.1.1.1.1 rfl ?_
  refine zW_aload_n (pc' := 104) dX11_blurOf_4.1.1.1.2 rfl rfl ?_
  refine zW_iload (pc' := 106) dX11_blurOf_4.1.1.2.1 rfl rfl ?_
  refine zW_iload_n (pc' := 107) dX11_blurOf_4.1.1.2.2 rfl rfl ?_
  refine zW_iadd (pc' := 108) dX11_blurOf_4.1.2.1.1 rfl ?_
  refine zV_iald (pc' := 109) (tabL (by omega) (by omega)) (by omega) dX11_blurOf_4.1.2.1.2 (by decide) rfl ?_
  refine zW_iadd (pc' := 110) dX11_blurOf_4.1.2.2.1 rfl ?_
  refine zW_istore (ls' := [_, _, _, _, _, _, _, _, _, _, _, _]) (pc' := 112) dX11_blurOf_4.1.2.2.2 (by decide) rfl rfl rfl ?_
  refine zW_aload_n (pc' := 113) dX11_blurOf_4.2.1.1.1 rfl rfl ?_
  refine zW_iload (pc' := 115) dX11_blurOf_4.2.1.1.2 rfl rfl ?_
  refine zW_iload (pc' := 117) dX11_blurOf_4.2.1.2.1 rfl rfl ?_
  refine zW_iadd (pc' := 118) dX11_blurOf_4.2.1.2.2 rfl ?_
  refine zV_iald (pc' := 119) (tabL (by omega) (by omega)) (by omega) dX11_blurOf_4.2.2.1.1 (by decide) rfl ?_
  refine zW_aload_n (pc' := 120) dX11_blurOf_4.2.2.1.2 rfl rfl ?_
  refine zW_iload (pc' := 122) dX11_blurOf_4.2.2.2.1 rfl rfl ?_
  refine zW_iload (pc' := 124) dX11_blurOf_4.2.2.2.2 rfl rfl ?_
  refine zW_iadd (pc' := 125) dX11_blurOf_5.1.1.1.1 rfl ?_
  refine zV_iald (pc' := 126) (tabL (by omega) (by omega)) (by omega) dX11_blurOf_5.1.1.1.2 (by decide) rfl ?_
  refine zW_iadd (pc' := 127) dX11_blurOf_5.1.1.2.1 rfl ?_
  refine zW_aload_n (pc' := 128) dX11_blurOf_5.1.1.2.2 rfl rfl ?_
  refine zW_iload (pc' := 130) dX11_blurOf_5.1.2.1.1 rfl rfl ?_
  refine zW_iload (pc' := 132) dX11_blurOf_5.1.2.1.2 rfl rfl ?_
  refine zW_iadd (pc' := 133) dX11_blurOf_5.1.2.2.1 rfl ?_
  refine zV_iald (pc' := 134) (tabL (by omega) (by omega)) (by omega) dX11_blurOf_5.1.2.2.2 (by decide) rfl ?_
  refine zW_iadd (pc' := 135) dX11_blurOf_5.2.1.1.1 rfl ?_
  refine zW_aload_n (pc' := 136) dX11_blurOf_5.2.1.1.2 rfl rfl ?_
  refine zW_iload (pc' := 138) dX11_blurOf_5.2.1.2.1 rfl rfl ?_
  refine zW_iload (pc' := 140) dX11_blurOf_5.2.1.2.2 rfl rfl ?_
  refine zW_iadd (pc' := 141) dX11_blurOf_5.2.2.1.1 rfl ?_
  refine zV_iald (pc' := 142) (tabL (by omega) (by omega)) (by omega) dX11_blurOf_5.2.2.1.2 (by decide) rfl ?_
  refine zW_iadd (pc' := 143) dX11_blurOf_5.2.2.2.1 rfl ?_
  refine zW_istore (ls' := [_, _, _, _, _, _, _, _, _, _, _, _]) (pc' := 145) dX11_blurOf_5.2.2.2.2 (by decide) rfl rfl rfl ?_
  refine zW_iconst (pc' := 146) dX11_blurOf_6.1.1.1.1 rfl ?_
  refine zW_aload_n (pc' := 147) dX11_blurOf_6.1.1.1.2 rfl rfl ?_
  refine zW_iload (pc' := 149) dX11_blurOf_6.1.1.2.1 rfl rfl ?_
  refine zW_iload_n (pc' := 150) dX11_blurOf_6.1.1.2.2 rfl rfl ?_
  refine zW_iadd (pc' := 151) dX11_blurOf_6.1.2.1.1 rfl ?_
  refine zV_iald (pc' := 152) (tabL (by omega) (by omega)) (by omega) dX11_blurOf_6.1.2.1.2 (by decide) rfl ?_
  refine zW_imul (pc' := 153) dX11_blurOf_6.1.2.2.1 rfl ?_
  refine zW_iconst (pc' := 154) dX11_blurOf_6.1.2.2.2 rfl ?_
  refine zW_iload (pc' := 156) dX11_blurOf_6.2.1.1.1 rfl rfl ?_
  refine zW_imul (pc' := 157) dX11_blurOf_6.2.1.1.2 rfl ?_
  refine zW_iadd (pc' := 158) dX11_blurOf_6.2.1.2.1 rfl ?_
  refine zW_iload (pc' := 160) dX11_blurOf_6.2.1.2.2 rfl rfl ?_
  refine zW_iadd (pc' := 161) dX11_blurOf_6.2.2.1.1 rfl ?_
  refine zW_bipush (pc' := 163) dX11_blurOf_6.2.2.1.2 rfl rfl ?_
  refine zW_idivQ (pc' := 164) ⟨by omega, by omega⟩ (by omega) dX11_blurOf_6.2.2.2.1 rfl (fun v163 e163 => ?_)
  unfold rng at e163
  exact zV_iret rfl dX11_blurOf_6.2.2.2.2 ⟨rfl, trivial⟩

abbrev q_X5_has (κ h : Hp) (x1 : Int) (x2 : Int) : Int → Hp → Prop := fun r h' => h' = h ∧ ((0 ≤ r) ∧ (r ≤ 1) ∧ (r = 1 ↔ (0 ≤ x1 ∧ x1 < κ 33 0 ∧ 0 ≤ x2 ∧ x2 < κ 33 1)))
set_option maxHeartbeats 4000000 in
set_option maxRecDepth 20000 in
theorem s_X5_has {G : Ga} {b : Bd} {κ h : Hp} (hK : KC κ) (hF : Fr b κ h) (x1 : Int) (hx1 : rng x1) (x2 : Int) (hx2 : rng x2) : zM G mX5_has yX5_has [.inr (.inr 33), .inl x1, .inl x2] h (q_X5_has κ h x1 x2) := by
  have f_33_0 := KCw hK
  have f_33_1 := KCh hK
  unfold rng at hx1
  unfold rng at hx2
  refine zM_of [some (.inr (.inr 33)), some (.inl x1), some (.inl x2)] 0 rfl rfl (Nat.le_of_ble_eq_true rfl) rfl ?_
  refine zW_iload_n (pc' := 1) dX5_has_0.1.1.1.1 rfl rfl ?_
  refine zV_if_lt (tgt := 28) (pc' := 4) dX5_has_0.1.1.1.2 rfl rfl ⟨by omega, by omega⟩ (fun c1 => ?_) (fun c1 => ?_)
  · refine zW_iconst (pc' := 29) dX5_has_0.2.2.2.1 rfl ?_
    exact zV_zret rfl (by omega) dX5_has_0.2.2.2.2 ⟨rfl, by omega⟩
  · refine zW_iload_n (pc' := 5) dX5_has_0.1.1.2.1 rfl rfl ?_
    refine zW_aload_n (pc' := 6) dX5_has_0.1.1.2.2 rfl rfl ?_
    refine zG_key (pc' := 9) hF rfl fg_X5_9 tb33 rfl dX5_has_0.1.2.1.1 rfl ?_
    refine zV_cm_ge (tgt := 28) (pc' := 12) dX5_has_0.1.2.1.2 rfl rfl ⟨by omega, by omega⟩ ⟨by omega, by omega⟩ (fun c9 => ?_) (fun c9 => ?_)
    · refine zW_iconst (pc' := 29) dX5_has_0.2.2.2.1 rfl ?_
      exact zV_zret rfl (by omega) dX5_has_0.2.2.2.2 ⟨rfl, by omega⟩
    · refine zW_iload_n (pc' := 13) dX5_has_0.1.2.2.1 rfl rfl ?_
      refine zV_if_lt (tgt := 28) (pc' := 16) dX5_has_0.1.2.2.2 rfl rfl ⟨by omega, by omega⟩ (fun c13 => ?_) (fun c13 => ?_)
      · refine zW_iconst (pc' := 29) dX5_has_0.2.2.2.1 rfl ?_
        exact zV_zret rfl (by omega) dX5_has_0.2.2.2.2 ⟨rfl, by omega⟩
      · refine zW_iload_n (pc' := 17) dX5_has_0.2.1.1.1 rfl rfl ?_
        refine zW_aload_n (pc' := 18) dX5_has_0.2.1.1.2 rfl rfl ?_
        refine zG_key (pc' := 21) hF rfl fg_X5_15 tb33 rfl dX5_has_0.2.1.2.1 rfl ?_
        refine zV_cm_ge (tgt := 28) (pc' := 24) dX5_has_0.2.1.2.2 rfl rfl ⟨by omega, by omega⟩ ⟨by omega, by omega⟩ (fun c21 => ?_) (fun c21 => ?_)
        · refine zW_iconst (pc' := 29) dX5_has_0.2.2.2.1 rfl ?_
          exact zV_zret rfl (by omega) dX5_has_0.2.2.2.2 ⟨rfl, by omega⟩
        · refine zW_iconst (pc' := 25) dX5_has_0.2.2.1.1 rfl ?_
          refine zV_goto 29 dX5_has_0.2.2.1.2 rfl ?_
          exact zV_zret rfl (by omega) dX5_has_0.2.2.2.2 ⟨rfl, by omega⟩

abbrev q_X5_colourOf (κ h : Hp) (x1 : Int) (x2 : Int) : Int → Hp → Prop := fun r h' => h' = h ∧ ((0 ≤ r) ∧ (r ≤ 2))
set_option maxHeartbeats 4000000 in
set_option maxRecDepth 20000 in
theorem s_X5_colourOf {G : Ga} {b : Bd} {κ h : Hp} (hK : KC κ) (hF : Fr b κ h) (x1 : Int) (x2 : Int) : zM G mX5_colourOf yX5_colourOf [.inr (.inr 33), .inl x1, .inl x2] h (q_X5_colourOf κ h x1 x2) := by
  have f_33_2 := KCp hK
  refine zM_of [some (.inr (.inr 33)), some (.inl x1), some (.inl x2), none, none] 2 rfl rfl (Nat.le_of_ble_eq_true rfl) rfl ?_
  refine zW_iload_n (pc' := 1) dX5_colourOf_0.1.1.1.1 rfl rfl ?_
  refine zW_aload_n (pc' := 2) dX5_colourOf_0.1.1.1.2 rfl rfl ?_
  refine zG_key (pc' := 5) hF rfl fg_X5_25 tb33 rfl dX5_colourOf_0.1.1.2.1 rfl ?_
  refine zW_iadd (pc' := 6) dX5_colourOf_0.1.1.2.2 rfl ?_
  refine zW_iconst (pc' := 7) dX5_colourOf_0.1.2.1.1 rfl ?_
  refine zW_iandC (pc' := 8) (by omega) dX5_colourOf_0.1.2.1.2 rfl (fun v7 e7 => ?_)
  refine zW_istore_n (ls' := [_, _, _, _, _]) (pc' := 9) dX5_colourOf_0.1.2.2.1 (by decide) rfl rfl rfl ?_
  refine zW_iload_n (pc' := 10) dX5_colourOf_0.1.2.2.2 rfl rfl ?_
  refine zW_aload_n (pc' := 11) dX5_colourOf_0.2.1.1.1 rfl rfl ?_
  refine zG_key (pc' := 14) hF rfl fg_X5_25 tb33 rfl dX5_colourOf_0.2.1.1.2 rfl ?_
  refine zW_iconst (pc' := 15) dX5_colourOf_0.2.1.2.1 rfl ?_
  refine zW_idiv (pc' := 16) (by omega) (by omega) dX5_colourOf_0.2.1.2.2 rfl ?_
  refine zW_iadd (pc' := 17) dX5_colourOf_0.2.2.1.1 rfl ?_
  refine zW_iconst (pc' := 18) dX5_colourOf_0.2.2.1.2 rfl ?_
  refine zW_iandC (pc' := 19) (by omega) dX5_colourOf_0.2.2.2.1 rfl (fun v18 e18 => ?_)
  refine zW_istore (ls' := [_, _, _, _, _]) (pc' := 21) dX5_colourOf_0.2.2.2.2 (by decide) rfl rfl rfl ?_
  refine zW_iload_n (pc' := 22) dX5_colourOf_1.1.1.1.1 rfl rfl ?_
  refine zW_iload (pc' := 24) dX5_colourOf_1.1.1.1.2 rfl rfl ?_
  refine zV_cm_ne (tgt := 33) (pc' := 27) dX5_colourOf_1.1.1.2 rfl rfl ⟨by omega, by omega⟩ ⟨by omega, by omega⟩ (fun c24 => ?_) (fun c24 => ?_)
  · refine zW_iconst (pc' := 34) dX5_colourOf_1.2.2.1 rfl ?_
    exact zV_iret rfl dX5_colourOf_1.2.2.2 ⟨rfl, by omega⟩
  · refine zW_iconst (pc' := 28) dX5_colourOf_1.1.2.1 rfl ?_
    refine zW_iload_n (pc' := 29) dX5_colourOf_1.1.2.2 rfl rfl ?_
    refine zW_imul (pc' := 30) dX5_colourOf_1.2.1.1 rfl ?_
    refine zV_goto 34 dX5_colourOf_1.2.1.2 rfl ?_
    exact zV_iret rfl dX5_colourOf_1.2.2.2 ⟨rfl, by omega⟩

abbrev q_X5_squaresOf (κ h : Hp) (x1 : Int) : Int → Hp → Prop := fun r h' => h' = h ∧ (True)
set_option maxHeartbeats 4000000 in
set_option maxRecDepth 20000 in
theorem s_X5_squaresOf {G : Ga} {b : Bd} {κ h : Hp} (hK : KC κ) (hF : Fr b κ h) (x1 : Int) : zM G mX5_squaresOf yX5_squaresOf [.inr (.inr 33), .inl x1] h (q_X5_squaresOf κ h x1) := by
  have f_33_0 := KCw hK
  have f_33_1 := KCh hK
  refine zM_of [some (.inr (.inr 33)), some (.inl x1)] 0 rfl rfl (Nat.le_of_ble_eq_true rfl) rfl ?_
  refine zW_iload_n (pc' := 1) dX5_squaresOf_0.1.1.1.1 rfl rfl ?_
  refine zW_iconst (pc' := 2) dX5_squaresOf_0.1.1.1.2 rfl ?_
  refine zV_cmQ_ne (tgt := 19) (pc' := 5) dX5_squaresOf_0.1.1.2.1 rfl rfl ?_ ?_
  · refine zW_aload_n (pc' := 20) dX5_squaresOf_0.2.1.2.2 rfl rfl ?_
    refine zG_key (pc' := 23) hF rfl fg_X5_9 tb33 rfl dX5_squaresOf_0.2.2.1.1 rfl ?_
    refine zW_aload_n (pc' := 24) dX5_squaresOf_0.2.2.1.2 rfl rfl ?_
    refine zG_key (pc' := 27) hF rfl fg_X5_15 tb33 rfl dX5_squaresOf_0.2.2.2.1 rfl ?_
    refine zW_imul (pc' := 28) dX5_squaresOf_0.2.2.2.2 rfl ?_
    refine zW_iconst (pc' := 29) dX5_squaresOf_1.1.1 rfl ?_
    refine zW_idivQ (pc' := 30) ⟨by omega, by omega⟩ (by omega) dX5_squaresOf_1.1.2 rfl (fun v29 e29 => ?_)
    unfold rng at e29
    exact zV_iret rfl dX5_squaresOf_1.2 ⟨rfl, trivial⟩
  · refine zW_aload_n (pc' := 6) dX5_squaresOf_0.1.1.2.2 rfl rfl ?_
    refine zG_key (pc' := 9) hF rfl fg_X5_9 tb33 rfl dX5_squaresOf_0.1.2.1.1 rfl ?_
    refine zW_aload_n (pc' := 10) dX5_squaresOf_0.1.2.1.2 rfl rfl ?_
    refine zG_key (pc' := 13) hF rfl fg_X5_15 tb33 rfl dX5_squaresOf_0.1.2.2.1 rfl ?_
    refine zW_imul (pc' := 14) dX5_squaresOf_0.1.2.2.2 rfl ?_
    refine zW_iconst (pc' := 15) dX5_squaresOf_0.2.1.1.1 rfl ?_
    refine zW_idivQ (pc' := 16) ⟨by omega, by omega⟩ (by omega) dX5_squaresOf_0.2.1.1.2 rfl (fun v15 e15 => ?_)
    unfold rng at e15
    refine zV_goto 30 dX5_squaresOf_0.2.1.2.1 rfl ?_
    exact zV_iret rfl dX5_squaresOf_1.2 ⟨rfl, trivial⟩

abbrev q_X5_sumOf (κ h : Hp) (l1 : Nat) : Int → Hp → Prop := fun r h' => h' = h ∧ (True)
set_option maxHeartbeats 4000000 in
set_option maxRecDepth 20000 in
theorem s_X5_sumOf {G : Ga} {b : Bd} {κ h : Hp} (hK : KC κ) (hF : Fr b κ h) (l1 : Nat) (ht_l1 : tab[l1]? = some (1, 0, [256])) (hb_l1 : 256 < 2147483648) : zM G mX5_sumOf yX5_sumOf [.inr (.inr 33), .inr (.inr l1)] h (q_X5_sumOf κ h l1) := by
  have f_33_0 := KCw hK
  have f_33_1 := KCh hK
  have main : ∀ N : Nat, (∀ (v2 v3 : Int) , (0 ≤ v3 ∧ v3 ≤ 16) → (v3 - κ 33 1 ≤ 0) → 4898880 + 10080 * (16 - v3) + 9720 < (N : Int) → zV G mX5_sumOf (q_X5_sumOf κ h l1) 4 [some (.inr (.inr 33)), some (.inr (.inr l1)), some (.inl v2), some (.inl v3), none] [] h) ∧ (∀ (v2 v3 v4 : Int) , (0 ≤ v3 ∧ v3 ≤ 15) → (v3 - κ 33 1 ≤ -1) → (0 ≤ v4 ∧ v4 ≤ 16) → (v4 - κ 33 0 ≤ 0) → 4898880 + 10080 * (16 - v3) + 6840 + 20 * (16 - v4) + 19 < (N : Int) → zV G mX5_sumOf (q_X5_sumOf κ h l1) 15 [some (.inr (.inr 33)), some (.inr (.inr l1)), some (.inl v2), some (.inl v3), some (.inl v4)] [] h) := by
    intro N
    induction N with
    | zero =>
      refine ⟨?_, ?_⟩
      · intro v2 v3 g0 g1 hm
        exfalso; omega
      · intro v2 v3 v4 g0 g1 g2 g3 hm
        exfalso; omega
    | succ N ih =>
      obtain ⟨k4, k15⟩ := ih
      refine ⟨?_, ?_⟩
      · intro v2 v3 g0 g1 hm
        refine zW_iload_n (pc' := 5) dX5_sumOf_0.1.2.1.1 rfl rfl ?_
        refine zW_aload_n (pc' := 6) dX5_sumOf_0.1.2.1.2 rfl rfl ?_
        refine zG_key (pc' := 9) hF rfl fg_X5_15 tb33 rfl dX5_sumOf_0.1.2.2.1 rfl ?_
        refine zV_cm_ge (tgt := 48) (pc' := 12) dX5_sumOf_0.1.2.2.2 rfl rfl ⟨by omega, by omega⟩ ⟨by omega, by omega⟩ (fun c9 => ?_) (fun c9 => ?_)
        · refine zW_iload_n (pc' := 49) dX5_sumOf_1.2.2.1.2 rfl rfl ?_
          exact zV_iret rfl dX5_sumOf_1.2.2.2 ⟨rfl, trivial⟩
        · refine zW_iconst (pc' := 13) dX5_sumOf_0.2.1.1.1 rfl ?_
          refine zW_istore (ls' := [_, _, _, _, _]) (pc' := 15) dX5_sumOf_0.2.1.1.2 (by decide) rfl rfl rfl ?_
          exact k15 _ _ _ (by omega) (by omega) (by omega) (by omega) (by omega)
      · intro v2 v3 v4 g0 g1 g2 g3 hm
        refine zW_iload (pc' := 17) dX5_sumOf_0.2.1.2.1 rfl rfl ?_
        refine zW_aload_n (pc' := 18) dX5_sumOf_0.2.1.2.2 rfl rfl ?_
        refine zG_key (pc' := 21) hF rfl fg_X5_9 tb33 rfl dX5_sumOf_0.2.2.1.1 rfl ?_
        refine zV_cm_ge (tgt := 42) (pc' := 24) dX5_sumOf_0.2.2.1.2 rfl rfl ⟨by omega, by omega⟩ ⟨by omega, by omega⟩ (fun c21 => ?_) (fun c21 => ?_)
        · refine zW_iinc (ls' := [_, _, _, _, _]) (pc' := 45) dX5_sumOf_1.2.1.2.2 rfl (by decide) rfl rfl rfl ?_
          refine zV_goto 4 dX5_sumOf_1.2.2.1.1 rfl ?_
          refine zV_clr 4 (ls' := [_, _, _, _, _]) rfl ?_
          exact k4 _ _ (by omega) (by omega) (by omega)
        · refine zW_iload_n (pc' := 25) dX5_sumOf_0.2.2.2.1 rfl rfl ?_
          refine zW_aload_n (pc' := 26) dX5_sumOf_0.2.2.2.2 rfl rfl ?_
          refine zW_iload_n (pc' := 27) dX5_sumOf_1.1.1.1.1 rfl rfl ?_
          refine zW_bipush (pc' := 29) dX5_sumOf_1.1.1.1.2 rfl rfl ?_
          refine zW_imul (pc' := 30) dX5_sumOf_1.1.1.2.1 rfl ?_
          refine zW_iload (pc' := 32) dX5_sumOf_1.1.1.2.2 rfl rfl ?_
          refine zW_iadd (pc' := 33) dX5_sumOf_1.1.2.1.1 rfl ?_
          refine zV_iald (pc' := 34) ht_l1 (by omega) dX5_sumOf_1.1.2.1.2 hb_l1 rfl ?_
          refine zW_iadd (pc' := 35) dX5_sumOf_1.1.2.2 rfl ?_
          refine zW_istore_n (ls' := [_, _, _, _, _]) (pc' := 36) dX5_sumOf_1.2.1.1.1 (by decide) rfl rfl rfl ?_
          refine zW_iinc (ls' := [_, _, _, _, _]) (pc' := 39) dX5_sumOf_1.2.1.1.2 rfl (by decide) rfl rfl rfl ?_
          refine zV_goto 15 dX5_sumOf_1.2.1.2.1 rfl ?_
          exact k15 _ _ _ (by omega) (by omega) (by omega) (by omega) (by omega)
  refine zM_of [some (.inr (.inr 33)), some (.inr (.inr l1)), none, none, none] 3 rfl rfl (Nat.le_of_ble_eq_true rfl) rfl ?_
  refine zW_iconst (pc' := 1) dX5_sumOf_0.1.1.1.1 rfl ?_
  refine zW_istore_n (ls' := [_, _, _, _, _]) (pc' := 2) dX5_sumOf_0.1.1.1.2 (by decide) rfl rfl rfl ?_
  refine zW_iconst (pc' := 3) dX5_sumOf_0.1.1.2.1 rfl ?_
  refine zW_istore_n (ls' := [_, _, _, _, _]) (pc' := 4) dX5_sumOf_0.1.1.2.2 (by decide) rfl rfl rfl ?_
  exact (main 10000000000000000000000000000000000000000).1 _ _ (by omega) (by omega) (by omega)


abbrev q_X7_has (κ h : Hp) (x1 : Int) : Int → Hp → Prop := fun r h' => h' = h ∧ ((0 ≤ r) ∧ (r ≤ 1) ∧ (r = 1 ↔ (1 ≤ x1 ∧ x1 ≤ κ 41 0)))
set_option maxHeartbeats 4000000 in
set_option maxRecDepth 20000 in
theorem s_X7_has {G : Ga} {b : Bd} {κ h : Hp} (hK : KC κ) (hF : Fr b κ h) (x1 : Int) (hx1 : rng x1) : zM G mX7_has yX7_has [.inr (.inr 41), .inl x1] h (q_X7_has κ h x1) := by
  have f_41_0 := KCm hK
  unfold rng at hx1
  refine zM_of [some (.inr (.inr 41)), some (.inl x1)] 0 rfl rfl (Nat.le_of_ble_eq_true rfl) rfl ?_
  refine zW_iload_n (pc' := 1) dX7_has_0.1.1.1.1 rfl rfl ?_
  refine zW_iconst (pc' := 2) dX7_has_0.1.1.1.2 rfl ?_
  refine zV_cm_lt (tgt := 17) (pc' := 5) dX7_has_0.1.1.2 rfl rfl ⟨by omega, by omega⟩ ⟨by omega, by omega⟩ (fun c2 => ?_) (fun c2 => ?_)
  · refine zW_iconst (pc' := 18) dX7_has_0.2.2.1 rfl ?_
    exact zV_zret rfl (by omega) dX7_has_0.2.2.2 ⟨rfl, by omega⟩
  · refine zW_iload_n (pc' := 6) dX7_has_0.1.2.1.1 rfl rfl ?_
    refine zW_aload_n (pc' := 7) dX7_has_0.1.2.1.2 rfl rfl ?_
    refine zG_key (pc' := 10) hF rfl fg_X7_21 tb41 rfl dX7_has_0.1.2.2 rfl ?_
    refine zV_cm_gt (tgt := 17) (pc' := 13) dX7_has_0.2.1.1.1 rfl rfl ⟨by omega, by omega⟩ ⟨by omega, by omega⟩ (fun c10 => ?_) (fun c10 => ?_)
    · refine zW_iconst (pc' := 18) dX7_has_0.2.2.1 rfl ?_
      exact zV_zret rfl (by omega) dX7_has_0.2.2.2 ⟨rfl, by omega⟩
    · refine zW_iconst (pc' := 14) dX7_has_0.2.1.1.2 rfl ?_
      refine zV_goto 18 dX7_has_0.2.1.2 rfl ?_
      exact zV_zret rfl (by omega) dX7_has_0.2.2.2 ⟨rfl, by omega⟩

abbrev q_X7_leaves (κ h : Hp) (x1 : Int) : Int → Hp → Prop := fun r h' => h' = h ∧ ((0 ≤ r) ∧ (r ≤ 1) ∧ (r = 1 ↔ (0 ≤ x1 ∧ x1 ≤ κ 41 0)))
set_option maxHeartbeats 4000000 in
set_option maxRecDepth 20000 in
theorem s_X7_leaves {G : Ga} {b : Bd} {κ h : Hp} (hK : KC κ) (hF : Fr b κ h) (x1 : Int) (hx1 : rng x1) : zM G mX7_leaves yX7_leaves [.inr (.inr 41), .inl x1] h (q_X7_leaves κ h x1) := by
  have f_41_0 := KCm hK
  unfold rng at hx1
  refine zM_of [some (.inr (.inr 41)), some (.inl x1)] 0 rfl rfl (Nat.le_of_ble_eq_true rfl) rfl ?_
  refine zW_iload_n (pc' := 1) dX7_leaves_0.1.1.1.1 rfl rfl ?_
  refine zV_if_lt (tgt := 16) (pc' := 4) dX7_leaves_0.1.1.1.2 rfl rfl ⟨by omega, by omega⟩ (fun c1 => ?_) (fun c1 => ?_)
  · refine zW_iconst (pc' := 17) dX7_leaves_0.2.2.1 rfl ?_
    exact zV_zret rfl (by omega) dX7_leaves_0.2.2.2 ⟨rfl, by omega⟩
  · refine zW_iload_n (pc' := 5) dX7_leaves_0.1.1.2 rfl rfl ?_
    refine zW_aload_n (pc' := 6) dX7_leaves_0.1.2.1 rfl rfl ?_
    refine zG_key (pc' := 9) hF rfl fg_X7_21 tb41 rfl dX7_leaves_0.1.2.2 rfl ?_
    refine zV_cm_gt (tgt := 16) (pc' := 12) dX7_leaves_0.2.1.1.1 rfl rfl ⟨by omega, by omega⟩ ⟨by omega, by omega⟩ (fun c9 => ?_) (fun c9 => ?_)
    · refine zW_iconst (pc' := 17) dX7_leaves_0.2.2.1 rfl ?_
      exact zV_zret rfl (by omega) dX7_leaves_0.2.2.2 ⟨rfl, by omega⟩
    · refine zW_iconst (pc' := 13) dX7_leaves_0.2.1.1.2 rfl ?_
      refine zV_goto 17 dX7_leaves_0.2.1.2 rfl ?_
      exact zV_zret rfl (by omega) dX7_leaves_0.2.2.2 ⟨rfl, by omega⟩

abbrev q_X7_isBehindF (κ h : Hp) (x1 : Int) : Int → Hp → Prop := fun r h' => h' = h ∧ ((0 ≤ r) ∧ (r ≤ 1))
set_option maxHeartbeats 4000000 in
set_option maxRecDepth 20000 in
theorem s_X7_isBehindF {G : Ga} {b : Bd} {κ h : Hp} (hK : KC κ) (hF : Fr b κ h) (x1 : Int) (hx1 : rng x1) : zM G mX7_isBehindF yX7_isBehindF [.inr (.inr 41), .inl x1] h (q_X7_isBehindF κ h x1) := by
  have f_41_1 := KCf hK
  unfold rng at hx1
  refine zM_of [some (.inr (.inr 41)), some (.inl x1)] 0 rfl rfl (Nat.le_of_ble_eq_true rfl) rfl ?_
  refine zW_aload_n (pc' := 1) dX7_isBehindF_0.1.1.1.1 rfl rfl ?_
  refine zG_key (pc' := 4) hF rfl fg_X7_25 tb41 rfl dX7_isBehindF_0.1.1.1.2 rfl ?_
  refine zV_if_le (tgt := 19) (pc' := 7) dX7_isBehindF_0.1.1.2 rfl rfl ⟨by omega, by omega⟩ (fun c4 => ?_) (fun c4 => ?_)
  · refine zW_iconst (pc' := 20) dX7_isBehindF_0.2.2.1 rfl ?_
    exact zV_zret rfl (by omega) dX7_isBehindF_0.2.2.2 ⟨rfl, by omega⟩
  · refine zW_iload_n (pc' := 8) dX7_isBehindF_0.1.2.1.1 rfl rfl ?_
    refine zW_aload_n (pc' := 9) dX7_isBehindF_0.1.2.1.2 rfl rfl ?_
    refine zG_key (pc' := 12) hF rfl fg_X7_25 tb41 rfl dX7_isBehindF_0.1.2.2 rfl ?_
    refine zV_cm_lt (tgt := 19) (pc' := 15) dX7_isBehindF_0.2.1.1.1 rfl rfl ⟨by omega, by omega⟩ ⟨by omega, by omega⟩ (fun c12 => ?_) (fun c12 => ?_)
    · refine zW_iconst (pc' := 20) dX7_isBehindF_0.2.2.1 rfl ?_
      exact zV_zret rfl (by omega) dX7_isBehindF_0.2.2.2 ⟨rfl, by omega⟩
    · refine zW_iconst (pc' := 16) dX7_isBehindF_0.2.1.1.2 rfl ?_
      refine zV_goto 20 dX7_isBehindF_0.2.1.2 rfl ?_
      exact zV_zret rfl (by omega) dX7_isBehindF_0.2.2.2 ⟨rfl, by omega⟩

abbrev q_X7_letterOf (κ h : Hp) (x1 : Int) : Int → Hp → Prop := fun r h' => h' = h ∧ ((-2147483648 ≤ r) ∧ (r ≤ 2147483647))
set_option maxHeartbeats 4000000 in
set_option maxRecDepth 20000 in
theorem s_X7_letterOf {G : Ga} {b : Bd} {κ h : Hp} (hK : KC κ) (hF : Fr b κ h) (x1 : Int) (hx1 : rng x1) : zM G mX7_letterOf yX7_letterOf [.inr (.inr 41), .inl x1] h (q_X7_letterOf κ h x1) := by
  have f_41_0 := KCm hK
  unfold rng at hx1
  refine zM_of [some (.inr (.inr 41)), some (.inl x1)] 0 rfl rfl (Nat.le_of_ble_eq_true rfl) rfl ?_
  refine zW_aload_n (pc' := 1) dX7_letterOf_0.1.1.1.1 rfl rfl ?_
  refine zW_iload_n (pc' := 2) dX7_letterOf_0.1.1.1.2 rfl rfl ?_
  refine cvI1 (pc' := 5) kX7_has vX7_has lk_X7_38 ⟨Nat.le_of_ble_eq_true rfl, Nat.le_of_ble_eq_true rfl⟩ tb41 vq7 rfl rfl (s_X7_has hK hF _ ⟨by omega, by omega⟩) dX7_letterOf_0.1.1.2 (Nat.le_of_ble_eq_true rfl) rfl ?_
  rintro r2 z2 ⟨hz2, p2⟩; subst z2
  refine zV_if_eq (tgt := 17) (pc' := 8) dX7_letterOf_0.1.2.1.1 rfl rfl ⟨by omega, by omega⟩ (fun c5 => ?_) (fun c5 => ?_)
  · refine zW_iconst (pc' := 18) dX7_letterOf_0.2.2.1 rfl ?_
    exact zV_iret rfl dX7_letterOf_0.2.2.2 ⟨rfl, by omega⟩
  · refine zW_aload_n (pc' := 9) dX7_letterOf_0.1.2.1.2 rfl rfl ?_
    refine zG_ref (pc' := 12) 42 fg_X7_9 tb41 rfl dX7_letterOf_0.1.2.2 rfl ?_
    refine zW_iload_n (pc' := 13) dX7_letterOf_0.2.1.1.1 rfl rfl ?_
    refine zA_keyI (pc' := 14) hF rfl (by decide) (by decide) tb42 (by omega) dX7_letterOf_0.2.1.1.2 (by decide) rfl (fun e13 => ?_)
    refine zV_goto 18 dX7_letterOf_0.2.1.2 rfl ?_
    exact zV_iret rfl dX7_letterOf_0.2.2.2 ⟨rfl, by omega⟩

abbrev q_X7_numbersOf (κ h : Hp) (x1 : Int) : Int → Hp → Prop := fun r h' => h' = h ∧ ((-64 ≤ r) ∧ (r ≤ 64))
set_option maxHeartbeats 4000000 in
set_option maxRecDepth 20000 in
theorem s_X7_numbersOf {G : Ga} {b : Bd} {κ h : Hp} (hK : KC κ) (hF : Fr b κ h) (x1 : Int) (hx1 : rng x1) : zM G mX7_numbersOf yX7_numbersOf [.inr (.inr 41), .inl x1] h (q_X7_numbersOf κ h x1) := by
  have f_41_0 := KCm hK
  unfold rng at hx1
  refine zM_of [some (.inr (.inr 41)), some (.inl x1)] 0 rfl rfl (Nat.le_of_ble_eq_true rfl) rfl ?_
  refine zW_aload_n (pc' := 1) dX7_numbersOf_0.1.1.1.1 rfl rfl ?_
  refine zW_iload_n (pc' := 2) dX7_numbersOf_0.1.1.1.2 rfl rfl ?_
  refine cvI1 (pc' := 5) kX7_has vX7_has lk_X7_38 ⟨Nat.le_of_ble_eq_true rfl, Nat.le_of_ble_eq_true rfl⟩ tb41 vq7 rfl rfl (s_X7_has hK hF _ ⟨by omega, by omega⟩) dX7_numbersOf_0.1.1.2.1 (Nat.le_of_ble_eq_true rfl) rfl ?_
  rintro r2 z2 ⟨hz2, p2⟩; subst z2
  refine zV_if_eq (tgt := 26) (pc' := 8) dX7_numbersOf_0.1.1.2.2 rfl rfl ⟨by omega, by omega⟩ (fun c5 => ?_) (fun c5 => ?_)
  · refine zW_iconst (pc' := 27) dX7_numbersOf_1.1 rfl ?_
    exact zV_iret rfl dX7_numbersOf_1.2 ⟨rfl, by omega⟩
  · refine zW_aload_n (pc' := 9) dX7_numbersOf_0.1.2.1.1 rfl rfl ?_
    refine zG_ref (pc' := 12) 43 fg_X7_15 tb41 rfl dX7_numbersOf_0.1.2.1.2 rfl ?_
    refine zW_iload_n (pc' := 13) dX7_numbersOf_0.1.2.2.1 rfl rfl ?_
    refine zW_iconst (pc' := 14) dX7_numbersOf_0.1.2.2.2 rfl ?_
    refine zW_iadd (pc' := 15) dX7_numbersOf_0.2.1.1.1 rfl ?_
    refine zA_keyB (KCst hK) (pc' := 16) hF rfl tb43 (by omega) dX7_numbersOf_0.2.1.1.2 (by decide) rfl (fun e15 => ?_)
    refine zW_aload_n (pc' := 17) dX7_numbersOf_0.2.1.2.1 rfl rfl ?_
    refine zG_ref (pc' := 20) 43 fg_X7_15 tb41 rfl dX7_numbersOf_0.2.1.2.2 rfl ?_
    refine zW_iload_n (pc' := 21) dX7_numbersOf_0.2.2.1.1 rfl rfl ?_
    refine zA_keyB (KCst hK) (pc' := 22) hF rfl tb43 (by omega) dX7_numbersOf_0.2.2.1.2 (by decide) rfl (fun e21 => ?_)
    refine zW_isub (pc' := 23) dX7_numbersOf_0.2.2.2.1 rfl ?_
    refine zV_goto 27 dX7_numbersOf_0.2.2.2.2 rfl ?_
    exact zV_iret rfl dX7_numbersOf_1.2 ⟨rfl, by omega⟩

abbrev q_X7_numberOf (κ h : Hp) (x1 : Int) (x2 : Int) : Int → Hp → Prop := fun r h' => h' = h ∧ ((-2147483648 ≤ r) ∧ (r ≤ 2147483647))
set_option maxHeartbeats 4000000 in
set_option maxRecDepth 20000 in
theorem s_X7_numberOf {G : Ga} {b : Bd} {κ h : Hp} (hK : KC κ) (hF : Fr b κ h) (x1 : Int) (hx1 : rng x1) (x2 : Int) (hx2 : rng x2) : zM G mX7_numberOf yX7_numberOf [.inr (.inr 41), .inl x1, .inl x2] h (q_X7_numberOf κ h x1 x2) := by
  have f_41_0 := KCm hK
  unfold rng at hx1
  unfold rng at hx2
  refine zM_of [some (.inr (.inr 41)), some (.inl x1), some (.inl x2)] 0 rfl rfl (Nat.le_of_ble_eq_true rfl) rfl ?_
  refine zW_aload_n (pc' := 1) dX7_numberOf_0.1.1.1.1 rfl rfl ?_
  refine zW_iload_n (pc' := 2) dX7_numberOf_0.1.1.1.2 rfl rfl ?_
  refine cvI1 (pc' := 5) kX7_has vX7_has lk_X7_38 ⟨Nat.le_of_ble_eq_true rfl, Nat.le_of_ble_eq_true rfl⟩ tb41 vq7 rfl rfl (s_X7_has hK hF _ ⟨by omega, by omega⟩) dX7_numberOf_0.1.1.2.1 (Nat.le_of_ble_eq_true rfl) rfl ?_
  rintro r2 z2 ⟨hz2, p2⟩; subst z2
  refine zV_if_eq (tgt := 47) (pc' := 8) dX7_numberOf_0.1.1.2.2 rfl rfl ⟨by omega, by omega⟩ (fun c5 => ?_) (fun c5 => ?_)
  · refine zW_iconst (pc' := 48) dX7_numberOf_1.2.2.1.2 rfl ?_
    exact zV_iret rfl dX7_numberOf_1.2.2.2 ⟨rfl, by omega⟩
  · refine zW_iload_n (pc' := 9) dX7_numberOf_0.1.2.1.1 rfl rfl ?_
    refine zV_if_lt (tgt := 47) (pc' := 12) dX7_numberOf_0.1.2.1.2 rfl rfl ⟨by omega, by omega⟩ (fun c9 => ?_) (fun c9 => ?_)
    · refine zW_iconst (pc' := 48) dX7_numberOf_1.2.2.1.2 rfl ?_
      exact zV_iret rfl dX7_numberOf_1.2.2.2 ⟨rfl, by omega⟩
    · refine zW_iload_n (pc' := 13) dX7_numberOf_0.1.2.2.1 rfl rfl ?_
      refine zW_aload_n (pc' := 14) dX7_numberOf_0.1.2.2.2 rfl rfl ?_
      refine zG_ref (pc' := 17) 43 fg_X7_15 tb41 rfl dX7_numberOf_0.2.1.1.1 rfl ?_
      refine zW_iload_n (pc' := 18) dX7_numberOf_0.2.1.1.2 rfl rfl ?_
      refine zW_iconst (pc' := 19) dX7_numberOf_0.2.1.2.1 rfl ?_
      refine zW_iadd (pc' := 20) dX7_numberOf_0.2.1.2.2 rfl ?_
      refine zA_keyB (KCst hK) (pc' := 21) hF rfl tb43 (by omega) dX7_numberOf_0.2.2.1.1 (by decide) rfl (fun e20 => ?_)
      refine zW_aload_n (pc' := 22) dX7_numberOf_0.2.2.1.2 rfl rfl ?_
      refine zG_ref (pc' := 25) 43 fg_X7_15 tb41 rfl dX7_numberOf_0.2.2.2.1 rfl ?_
      refine zW_iload_n (pc' := 26) dX7_numberOf_0.2.2.2.2 rfl rfl ?_
      refine zA_keyB (KCst hK) (pc' := 27) hF rfl tb43 (by omega) dX7_numberOf_1.1.1.1.1 (by decide) rfl (fun e26 => ?_)
      refine zW_isub (pc' := 28) dX7_numberOf_1.1.1.1.2 rfl ?_
      refine zV_cm_ge (tgt := 47) (pc' := 31) dX7_numberOf_1.1.1.2.1 rfl rfl ⟨by omega, by omega⟩ ⟨by omega, by omega⟩ (fun c28 => ?_) (fun c28 => ?_)
      · refine zW_iconst (pc' := 48) dX7_numberOf_1.2.2.1.2 rfl ?_
        exact zV_iret rfl dX7_numberOf_1.2.2.2 ⟨rfl, by omega⟩
      · refine zW_aload_n (pc' := 32) dX7_numberOf_1.1.1.2.2 rfl rfl ?_
        refine zG_ref (pc' := 35) 44 fg_X7_18 tb41 rfl dX7_numberOf_1.1.2.1.1 rfl ?_
        refine zW_aload_n (pc' := 36) dX7_numberOf_1.1.2.1.2 rfl rfl ?_
        refine zG_ref (pc' := 39) 43 fg_X7_15 tb41 rfl dX7_numberOf_1.1.2.2.1 rfl ?_
        refine zW_iload_n (pc' := 40) dX7_numberOf_1.1.2.2.2 rfl rfl ?_
        refine zA_keyB (KCst hK) (pc' := 41) hF rfl tb43 (by omega) dX7_numberOf_1.2.1.1.1 (by decide) rfl (fun e40 => ?_)
        refine zW_iload_n (pc' := 42) dX7_numberOf_1.2.1.1.2 rfl rfl ?_
        refine zW_iadd (pc' := 43) dX7_numberOf_1.2.1.2.1 rfl ?_
        refine zA_keyI (pc' := 44) hF rfl (by decide) (by decide) tb44 (by omega) dX7_numberOf_1.2.1.2.2 (by decide) rfl (fun e43 => ?_)
        refine zV_goto 48 dX7_numberOf_1.2.2.1.1 rfl ?_
        exact zV_iret rfl dX7_numberOf_1.2.2.2 ⟨rfl, by omega⟩

abbrev q_X7_fillsAlongEdges (κ h : Hp)  : Int → Hp → Prop := fun r h' => h' = h ∧ ((0 ≤ r) ∧ (r ≤ 1) ∧ (r = 1 → 1 ≤ κ 41 1))
set_option maxHeartbeats 4000000 in
set_option maxRecDepth 20000 in
theorem s_X7_fillsAlongEdges {G : Ga} {b : Bd} {κ h : Hp} (hK : KC κ) (hF : Fr b κ h)  : zM G mX7_fillsAlongEdges yX7_fillsAlongEdges [.inr (.inr 41)] h (q_X7_fillsAlongEdges κ h) := by
  have f_41_1 := KCf hK
  refine zM_of [some (.inr (.inr 41))] 0 rfl rfl (Nat.le_of_ble_eq_true rfl) rfl ?_
  refine zW_aload_n (pc' := 1) dX7_fillsAlongEdges_0.1.1.1.1 rfl rfl ?_
  refine zG_key (pc' := 4) hF rfl fg_X7_25 tb41 rfl dX7_fillsAlongEdges_0.1.1.1.2 rfl ?_
  refine zV_if_le (tgt := 24) (pc' := 7) dX7_fillsAlongEdges_0.1.1.2.1 rfl rfl ⟨by omega, by omega⟩ (fun c4 => ?_) (fun c4 => ?_)
  · refine zW_iconst (pc' := 25) dX7_fillsAlongEdges_0.2.2.1.2 rfl ?_
    exact zV_zret rfl (by omega) dX7_fillsAlongEdges_0.2.2.2 ⟨rfl, by omega⟩
  · refine zW_aload_n (pc' := 8) dX7_fillsAlongEdges_0.1.1.2.2 rfl rfl ?_
    refine zW_aload_n (pc' := 9) dX7_fillsAlongEdges_0.1.2.1.1 rfl rfl ?_
    refine zG_key (pc' := 12) hF rfl fg_X7_25 tb41 rfl dX7_fillsAlongEdges_0.1.2.1.2 rfl ?_
    refine zW_iconst (pc' := 13) dX7_fillsAlongEdges_0.1.2.2 rfl ?_
    refine cvI2 (pc' := 16) kX7_numberOf vX7_numberOf lk_X7_34 ⟨Nat.le_of_ble_eq_true rfl, Nat.le_of_ble_eq_true rfl⟩ tb41 vq7 rfl rfl (s_X7_numberOf hK hF _ ⟨by omega, by omega⟩ _ ⟨by omega, by omega⟩) dX7_fillsAlongEdges_0.2.1.1.1 (Nat.le_of_ble_eq_true rfl) rfl ?_
    rintro r13 z13 ⟨hz13, p13⟩; subst z13
    refine zW_iconst (pc' := 17) dX7_fillsAlongEdges_0.2.1.1.2 rfl ?_
    refine zV_cm_ne (tgt := 24) (pc' := 20) dX7_fillsAlongEdges_0.2.1.2.1 rfl rfl ⟨by omega, by omega⟩ ⟨by omega, by omega⟩ (fun c17 => ?_) (fun c17 => ?_)
    · refine zW_iconst (pc' := 25) dX7_fillsAlongEdges_0.2.2.1.2 rfl ?_
      exact zV_zret rfl (by omega) dX7_fillsAlongEdges_0.2.2.2 ⟨rfl, by omega⟩
    · refine zW_iconst (pc' := 21) dX7_fillsAlongEdges_0.2.1.2.2 rfl ?_
      refine zV_goto 25 dX7_fillsAlongEdges_0.2.2.1.1 rfl ?_
      exact zV_zret rfl (by omega) dX7_fillsAlongEdges_0.2.2.2 ⟨rfl, by omega⟩


abbrev q_X8_tells (κ h : Hp) (s0 : Nat) (x2 : Int) (x3 : Int) (x4 : Int) : Int → Hp → Prop := fun r h' => h' = h ∧ ((0 ≤ r) ∧ (r ≤ 1))
set_option maxHeartbeats 4000000 in
set_option maxRecDepth 20000 in
theorem s_X8_tells {G : Ga} {b : Bd} {κ h : Hp} (hK : KC κ) (hF : Fr b κ h) (s0 : Nat) (hthis : 56 ≤ s0 ∧ s0 ≤ 70) (x2 : Int) (x3 : Int) (x4 : Int) : zM G mX8_tells yX8_tells [.inr (.inr s0), .inr (.inr 33), .inl x2, .inl x3, .inl x4] h (q_X8_tells κ h s0 x2 x3 x4) := by
  refine zM_of [some (.inr (.inr s0)), some (.inr (.inr 33)), some (.inl x2), some (.inl x3), some (.inl x4)] 0 rfl rfl (Nat.le_of_ble_eq_true rfl) rfl ?_
  refine zW_aload_n (pc' := 1) dX8_tells_0.1.1.1.1 rfl rfl ?_
  refine zG_ful (pc' := 4) (by omega) (by omega) fg_X8_15 dX8_tells_0.1.1.1.2 rfl ?_
  refine zV_ifQ_ne (tgt := 18) (pc' := 7) dX8_tells_0.1.1.2.1 rfl rfl ?_ ?_
  · refine zW_iconst (pc' := 19) dX8_tells_0.2.1.2 rfl ?_
    refine zV_goto 23 dX8_tells_0.2.2.1.1 rfl ?_
    exact zV_zret rfl (by omega) dX8_tells_0.2.2.2 ⟨rfl, by omega⟩
  · refine zW_aload_n (pc' := 8) dX8_tells_0.1.1.2.2 rfl rfl ?_
    refine zW_iload_n (pc' := 9) dX8_tells_0.1.2.1.1 rfl rfl ?_
    refine zW_iload_n (pc' := 10) dX8_tells_0.1.2.1.2 rfl rfl ?_
    refine cvI2 (pc' := 13) kX5_colourOf vX5_colourOf lk_X8_31 ⟨Nat.le_of_ble_eq_true rfl, Nat.le_of_ble_eq_true rfl⟩ tb33 vq5 rfl rfl (s_X5_colourOf hK hF _ _) dX8_tells_0.1.2.2 (Nat.le_of_ble_eq_true rfl) rfl ?_
    rintro r10 z10 ⟨hz10, p10⟩; subst z10
    refine zW_iload (pc' := 15) dX8_tells_0.2.1.1.1 rfl rfl ?_
    refine zV_cmQ_ne (tgt := 22) (pc' := 18) dX8_tells_0.2.1.1.2 rfl rfl ?_ ?_
    · refine zW_iconst (pc' := 23) dX8_tells_0.2.2.1.2 rfl ?_
      exact zV_zret rfl (by omega) dX8_tells_0.2.2.2 ⟨rfl, by omega⟩
    · refine zW_iconst (pc' := 19) dX8_tells_0.2.1.2 rfl ?_
      refine zV_goto 23 dX8_tells_0.2.2.1.1 rfl ?_
      exact zV_zret rfl (by omega) dX8_tells_0.2.2.2 ⟨rfl, by omega⟩

abbrev q_X8_levelAt (κ h : Hp) (s0 : Nat) (x1 : Int) (x2 : Int) : Int → Hp → Prop := fun r h' => h' = h ∧ (True)
set_option maxHeartbeats 4000000 in
set_option maxRecDepth 20000 in
theorem s_X8_levelAt {G : Ga} {b : Bd} {κ h : Hp} (hF : Fr b κ h) (s0 : Nat) (hthis : 56 ≤ s0 ∧ s0 ≤ 70) (x1 : Int) (hx1 : 0 ≤ x1 ∧ x1 ≤ 255) (x2 : Int) (hx2 : 0 ≤ x2 ∧ x2 ≤ 2) : zM G mX8_levelAt yX8_levelAt [.inr (.inr s0), .inl x1, .inl x2] h (q_X8_levelAt κ h s0 x1 x2) := by
  refine zM_of [some (.inr (.inr s0)), some (.inl x1), some (.inl x2)] 0 rfl rfl (Nat.le_of_ble_eq_true rfl) rfl ?_
  refine zW_aload_n (pc' := 1) dX8_levelAt_0.1.1.1.1 rfl rfl ?_
  refine zG_ful (pc' := 4) (by omega) (by omega) fg_X8_15 dX8_levelAt_0.1.1.1.2 rfl ?_
  refine zV_ifQ_eq (tgt := 22) (pc' := 7) dX8_levelAt_0.1.1.2.1 rfl rfl ?_ ?_
  · refine zW_aload_n (pc' := 23) dX8_levelAt_0.2.2.1.1 rfl rfl ?_
    refine zG_lev (pc' := 26) (by omega) (by omega) fg_X8_9 dX8_levelAt_0.2.2.1.2 rfl ?_
    refine zW_iload_n (pc' := 27) dX8_levelAt_0.2.2.2.1 rfl rfl ?_
    refine zV_iald (pc' := 28) (tabL (by omega) (by omega)) (by omega) dX8_levelAt_0.2.2.2.2 (by decide) rfl ?_
    exact zV_iret rfl dX8_levelAt_1 ⟨rfl, trivial⟩
  · refine zW_aload_n (pc' := 8) dX8_levelAt_0.1.1.2.2 rfl rfl ?_
    refine zG_lev (pc' := 11) (by omega) (by omega) fg_X8_9 dX8_levelAt_0.1.2.1.1 rfl ?_
    refine zW_iload_n (pc' := 12) dX8_levelAt_0.1.2.1.2 rfl rfl ?_
    refine zW_sipush (pc' := 15) dX8_levelAt_0.1.2.2.1 rfl rfl ?_
    refine zW_imul (pc' := 16) dX8_levelAt_0.1.2.2.2 rfl ?_
    refine zW_iload_n (pc' := 17) dX8_levelAt_0.2.1.1.1 rfl rfl ?_
    refine zW_iadd (pc' := 18) dX8_levelAt_0.2.1.1.2 rfl ?_
    refine zV_iald (pc' := 19) (tabL (by omega) (by omega)) (by omega) dX8_levelAt_0.2.1.2.1 (by decide) rfl ?_
    refine zV_goto 28 dX8_levelAt_0.2.1.2.2 rfl ?_
    exact zV_iret rfl dX8_levelAt_1 ⟨rfl, trivial⟩

