/-! middle, dark -/
def mdQ (W H many : Int) (L : Nat → Int) (E : Nat → Int → Int → Int) (x1 x2 x3 : Int) : Int := if 1 ≤ x1 ∧ x1 ≤ many ∧ 0 ≤ x2 ∧ x2 < W ∧ 0 ≤ x3 ∧ x3 < H then (if L (x1 - 1).toNat = 100 then mdl W H (E (x1 - 1).toNat) x2 x3 else -3) else -1
def dkQ (H many : Int) (L A N : Nat → Int) (E : Nat → Int → Int → Int) (x1 x2 : Int) : Int := if 1 ≤ x1 ∧ x1 ≤ many ∧ 0 ≤ x2 ∧ x2 < H then (if L (x1 - 1).toNat = 111 then dkS (E (x1 - 1).toNat) x2 (N (A (x1 - 1).toNat).toNat).toNat / N (A (x1 - 1).toNat).toNat else -3) else -1

abbrev q_X12_isStageZ (κ h : Hp) (x1 : Int) : Int → Hp → Prop := fun r h' => h' = h ∧ ((0 ≤ r) ∧ (r ≤ 1) ∧ (r = 1 ↔ (1 ≤ x1 ∧ x1 ≤ κ 0 14)))
set_option maxHeartbeats 4000000 in
set_option maxRecDepth 20000 in
theorem s_X12_isStageZ {G : Ga} {b : Bd} {κ h : Hp} (hK : KR κ) (hF : Fr b κ h) (x1 : Int) (hx1 : rng x1) : zM G mX12_isStage yX12_isStage [.inr (.inr 0), .inl x1] h (q_X12_isStageZ κ h x1) := by
  have f_0_14 := KRm hK
  unfold rng at hx1
  refine zM_of [some (.inr (.inr 0)), some (.inl x1)] 0 rfl rfl (Nat.le_of_ble_eq_true rfl) rfl ?_
  refine zW_iload_n (pc' := 1) dX12_isStage_0.1.1.1 rfl rfl ?_
  refine zW_iconst (pc' := 2) dX12_isStage_0.1.1.2 rfl ?_
  refine zW_aload_n (pc' := 3) dX12_isStage_0.1.2 rfl rfl ?_
  refine zG_key (pc' := 6) hF rfl fg_X12_185 tb0 rfl dX12_isStage_0.2.1.1 rfl ?_
  refine csI3 (pc' := 9) kX12_in vX12_in lk_X12_140 ⟨Nat.le_of_ble_eq_true rfl, Nat.le_of_ble_eq_true rfl⟩ rfl (s_X12_inR hF _ ⟨by omega, by omega⟩ _ ⟨by omega, by omega⟩ _ ⟨by omega, by omega⟩) dX12_isStage_0.2.1.2 (Nat.le_of_ble_eq_true rfl) rfl ?_
  rintro r6 z6 ⟨hz6, p6⟩; subst z6
  exact zV_zret rfl (by omega) dX12_isStage_0.2.2 ⟨rfl, by omega⟩

abbrev q_X12_middleZ (b : Bd) (κ : Hp) (x1 : Int) (x2 : Int) (x3 : Int) : Int → Hp → Prop := fun r h' => Fr b κ h' ∧ ((r = mdQ (κ 0 11) (κ 0 12) (κ 0 14) (κ 3) (EF κ) x1 x2 x3))
set_option maxHeartbeats 4000000 in
set_option maxRecDepth 20000 in
theorem s_X12_middleZ {G : Ga} {b : Bd} {κ h : Hp} (hK : KR κ) (hF : Fr b.fo κ h) (x1 : Int) (hx1 : rng x1) (x2 : Int) (hx2 : rng x2) (x3 : Int) (hx3 : rng x3) (hLz : LeavesZ b) (hV : VOK (κ 1)) (hE : EaOK (κ 3) (κ 0 14)) : zM G mX12_middle yX12_middle [.inr (.inr 0), .inl x1, .inl x2, .inl x3] h (q_X12_middleZ b.fo κ x1 x2 x3) := by
  have f_0_11 := KRw hK
  have f_0_12 := KRh hK
  have f_0_14 := KRm hK
  unfold rng at hx1
  unfold rng at hx2
  unfold rng at hx3
  refine zM_of [some (.inr (.inr 0)), some (.inl x1), some (.inl x2), some (.inl x3)] 0 rfl rfl (Nat.le_of_ble_eq_true rfl) rfl ?_
  refine zW_aload_n (pc' := 1) dX12_middle_0.1.1.1.1 rfl rfl ?_
  refine zW_iload_n (pc' := 2) dX12_middle_0.1.1.1.2 rfl rfl ?_
  refine cvI1 (pc' := 5) kX12_isStage vX12_isStage lk_X12_199 ⟨Nat.le_of_ble_eq_true rfl, Nat.le_of_ble_eq_true rfl⟩ tb0 vq12 rfl rfl (s_X12_isStageZ hK hF _ ⟨by omega, by omega⟩) dX12_middle_0.1.1.2.1 (Nat.le_of_ble_eq_true rfl) rfl ?_
  rintro r2 z2 ⟨hz2, p2⟩; subst z2
  refine zV_if_eq (tgt := 17) (pc' := 8) dX12_middle_0.1.1.2.2 rfl rfl ⟨by omega, by omega⟩ (fun c5 => ?_) (fun c5 => ?_)
  · refine zW_iconst (pc' := 18) dX12_middle_0.2.1.1.2 rfl ?_
    exact zV_iret rfl dX12_middle_0.2.1.2.1 ⟨hF, (by unfold mdQ; rw [if_neg (by omega)])⟩
  · refine zW_aload_n (pc' := 9) dX12_middle_0.1.2.1.1 rfl rfl ?_
    refine zW_iload_n (pc' := 10) dX12_middle_0.1.2.1.2 rfl rfl ?_
    refine zW_iload_n (pc' := 11) dX12_middle_0.1.2.2.1 rfl rfl ?_
    refine cvI2 (pc' := 14) kX12_isSquare vX12_isSquare lk_X12_218 ⟨Nat.le_of_ble_eq_true rfl, Nat.le_of_ble_eq_true rfl⟩ tb0 vq12 rfl rfl (s_X12_isSquare hK hF _ ⟨by omega, by omega⟩ _ ⟨by omega, by omega⟩) dX12_middle_0.1.2.2.2 (Nat.le_of_ble_eq_true rfl) rfl ?_
    rintro r11 z11 ⟨hz11, p11⟩; subst z11
    refine zV_if_ne (tgt := 19) (pc' := 17) dX12_middle_0.2.1.1.1 rfl rfl ⟨by omega, by omega⟩ (fun c14 => ?_) (fun c14 => ?_)
    · refine zW_aload_n (pc' := 20) dX12_middle_0.2.1.2.2 rfl rfl ?_
      refine zW_iload_n (pc' := 21) dX12_middle_0.2.2.1.1 rfl rfl ?_
      refine zW_bipush (pc' := 23) dX12_middle_0.2.2.1.2 rfl rfl ?_
      refine cvI2 (pc' := 26) kX12_isKind vX12_isKind lk_X12_383 ⟨Nat.le_of_ble_eq_true rfl, Nat.le_of_ble_eq_true rfl⟩ tb0 vq12 rfl rfl (s_X12_isKind hK hF _ ⟨by omega, by omega⟩ _ ⟨by omega, by omega⟩) dX12_middle_0.2.2.2.1 (Nat.le_of_ble_eq_true rfl) rfl ?_
      rintro r23 z23 ⟨hz23, p23⟩; subst z23
      refine zV_if_ne (tgt := 32) (pc' := 29) dX12_middle_0.2.2.2.2 rfl rfl ⟨by omega, by omega⟩ (fun c26 => ?_) (fun c26 => ?_)
      · refine zW_aload_n (pc' := 33) dX12_middle_1.1.1.2 rfl rfl ?_
        refine cvV0 (pc' := 36) kX12_leaves vX12_leaves lk_X12_377 ⟨Nat.le_of_ble_eq_true rfl, Nat.le_of_ble_eq_true rfl⟩ tb0 vq12 rfl rfl (hLz hK hF) dX12_middle_1.1.2.1.1 (Nat.le_of_ble_eq_true rfl) rfl ?_
        rintro r33 h ⟨hF, p33⟩
        have hno : noF (κ 3) (x1 - 1).toNat := (hE (x1 - 1).toNat (by omega)).mpr (by omega)
        have hf0 := p33.2 (x1 - 1).toNat (by omega) hno
        rw [show (((x1 - 1).toNat : Nat) : Int) = x1 - 1 by omega] at hf0
        refine zW_aload_n (pc' := 37) dX12_middle_1.1.2.1.2 rfl rfl ?_
        refine zW_iload_n (pc' := 38) dX12_middle_1.1.2.2 rfl rfl ?_
        refine zW_iconst (pc' := 39) dX12_middle_1.2.1.1.1 rfl ?_
        refine zW_isub (pc' := 40) dX12_middle_1.2.1.1.2 rfl ?_
        refine zW_iload_n (pc' := 41) dX12_middle_1.2.1.2 rfl rfl ?_
        refine zW_iload_n (pc' := 42) dX12_middle_1.2.2.1.1 rfl rfl ?_
        refine cvI3 (pc' := 45) kX12_middleOf vX12_middleOf lk_X12_254 ⟨Nat.le_of_ble_eq_true rfl, Nat.le_of_ble_eq_true rfl⟩ tb0 vq12 rfl rfl (s_X12_middleOfZ hK hF _ ⟨by omega, by omega⟩ _ ⟨by omega, by omega, by omega⟩ _ ⟨by omega, by omega, by omega⟩ (EF κ (x1 - 1).toNat) h hf0 (FB_EF hK hV _) Fw.rf) dX12_middle_1.2.2.1.2 (Nat.le_of_ble_eq_true rfl) rfl ?_
        rintro r42 h ⟨hF, d42, p42⟩
        exact zV_iret rfl dX12_middle_1.2.2.2 ⟨hF, (by unfold mdQ; rw [if_pos (by omega), if_pos (by omega)]; exact p42.2.2)⟩
      · refine zW_bipush (pc' := 31) dX12_middle_1.1.1.1.1 rfl rfl ?_
        exact zV_iret rfl dX12_middle_1.1.1.1.2 ⟨hF, (by unfold mdQ; rw [if_pos (by omega), if_neg (by omega)])⟩
    · refine zW_iconst (pc' := 18) dX12_middle_0.2.1.1.2 rfl ?_
      exact zV_iret rfl dX12_middle_0.2.1.2.1 ⟨hF, (by unfold mdQ; rw [if_neg (by omega)])⟩

abbrev q_X12_darkZ (b : Bd) (κ : Hp) (x1 : Int) (x2 : Int) : Int → Hp → Prop := fun r h' => Fr b κ h' ∧ ((r = dkQ (κ 0 12) (κ 0 14) (κ 3) (κ 4) (κ 5) (EF κ) x1 x2))
set_option maxHeartbeats 4000000 in
set_option maxRecDepth 20000 in
theorem s_X12_darkZ {G : Ga} {b : Bd} {κ h : Hp} (hK : KR κ) (hF : Fr b.fo κ h) (x1 : Int) (hx1 : rng x1) (x2 : Int) (hx2 : rng x2) (hLz : LeavesZ b) (hV : VOK (κ 1)) (hE : EaOK (κ 3) (κ 0 14)) : zM G mX12_dark yX12_dark [.inr (.inr 0), .inl x1, .inl x2] h (q_X12_darkZ b.fo κ x1 x2) := by
  have f_0_12 := KRh hK
  have f_0_14 := KRm hK
  unfold rng at hx1
  unfold rng at hx2
  refine zM_of [some (.inr (.inr 0)), some (.inl x1), some (.inl x2)] 0 rfl rfl (Nat.le_of_ble_eq_true rfl) rfl ?_
  refine zW_aload_n (pc' := 1) dX12_dark_0.1.1.1.1 rfl rfl ?_
  refine zW_iload_n (pc' := 2) dX12_dark_0.1.1.1.2 rfl rfl ?_
  refine cvI1 (pc' := 5) kX12_isStage vX12_isStage lk_X12_199 ⟨Nat.le_of_ble_eq_true rfl, Nat.le_of_ble_eq_true rfl⟩ tb0 vq12 rfl rfl (s_X12_isStageZ hK hF _ ⟨by omega, by omega⟩) dX12_dark_0.1.1.2.1 (Nat.le_of_ble_eq_true rfl) rfl ?_
  rintro r2 z2 ⟨hz2, p2⟩; subst z2
  refine zV_if_eq (tgt := 22) (pc' := 8) dX12_dark_0.1.1.2.2 rfl rfl ⟨by omega, by omega⟩ (fun c5 => ?_) (fun c5 => ?_)
  · refine zW_iconst (pc' := 23) dX12_dark_0.2.2.1.1 rfl ?_
    exact zV_iret rfl dX12_dark_0.2.2.1.2 ⟨hF, (by unfold dkQ; rw [if_neg (by omega)])⟩
  · refine zW_iload_n (pc' := 9) dX12_dark_0.1.2.1.1 rfl rfl ?_
    refine zW_iconst (pc' := 10) dX12_dark_0.1.2.1.2 rfl ?_
    refine zW_aload_n (pc' := 11) dX12_dark_0.1.2.2.1 rfl rfl ?_
    refine zG_key (pc' := 14) hF rfl fg_X12_103 tb0 rfl dX12_dark_0.1.2.2.2 rfl ?_
    refine zW_iconst (pc' := 15) dX12_dark_0.2.1.1.1 rfl ?_
    refine zW_isub (pc' := 16) dX12_dark_0.2.1.1.2 rfl ?_
    refine csI3 (pc' := 19) kX12_in vX12_in lk_X12_140 ⟨Nat.le_of_ble_eq_true rfl, Nat.le_of_ble_eq_true rfl⟩ rfl (s_X12_inR hF _ ⟨by omega, by omega⟩ _ ⟨by omega, by omega⟩ _ ⟨by omega, by omega⟩) dX12_dark_0.2.1.2.1 (Nat.le_of_ble_eq_true rfl) rfl ?_
    rintro r16 z16 ⟨hz16, p16⟩; subst z16
    refine zV_if_ne (tgt := 24) (pc' := 22) dX12_dark_0.2.1.2.2 rfl rfl ⟨by omega, by omega⟩ (fun c19 => ?_) (fun c19 => ?_)
    · refine zW_aload_n (pc' := 25) dX12_dark_0.2.2.2.1 rfl rfl ?_
      refine zW_iload_n (pc' := 26) dX12_dark_0.2.2.2.2 rfl rfl ?_
      refine zW_bipush (pc' := 28) dX12_dark_1.1.1.1.1 rfl rfl ?_
      refine cvI2 (pc' := 31) kX12_isKind vX12_isKind lk_X12_383 ⟨Nat.le_of_ble_eq_true rfl, Nat.le_of_ble_eq_true rfl⟩ tb0 vq12 rfl rfl (s_X12_isKind hK hF _ ⟨by omega, by omega⟩ _ ⟨by omega, by omega⟩) dX12_dark_1.1.1.1.2 (Nat.le_of_ble_eq_true rfl) rfl ?_
      rintro r28 z28 ⟨hz28, p28⟩; subst z28
      refine zV_if_ne (tgt := 37) (pc' := 34) dX12_dark_1.1.1.2.1 rfl rfl ⟨by omega, by omega⟩ (fun c31 => ?_) (fun c31 => ?_)
      · refine zW_aload_n (pc' := 38) dX12_dark_1.1.2.1.2 rfl rfl ?_
        refine cvV0 (pc' := 41) kX12_leaves vX12_leaves lk_X12_377 ⟨Nat.le_of_ble_eq_true rfl, Nat.le_of_ble_eq_true rfl⟩ tb0 vq12 rfl rfl (hLz hK hF) dX12_dark_1.1.2.2.1 (Nat.le_of_ble_eq_true rfl) rfl ?_
        rintro r38 h ⟨hF, p38⟩
        have hno : noF (κ 3) (x1 - 1).toNat := (hE (x1 - 1).toNat (by omega)).mpr (by omega)
        have hf0 := p38.2 (x1 - 1).toNat (by omega) hno
        rw [show (((x1 - 1).toNat : Nat) : Int) = x1 - 1 by omega] at hf0
        refine zW_aload_n (pc' := 42) dX12_dark_1.1.2.2.2 rfl rfl ?_
        refine zW_iload_n (pc' := 43) dX12_dark_1.2.1.1.1 rfl rfl ?_
        refine zW_iconst (pc' := 44) dX12_dark_1.2.1.1.2 rfl ?_
        refine zW_isub (pc' := 45) dX12_dark_1.2.1.2.1 rfl ?_
        refine zW_iload_n (pc' := 46) dX12_dark_1.2.1.2.2 rfl rfl ?_
        refine zW_aload_n (pc' := 47) dX12_dark_1.2.2.1.1 rfl rfl ?_
        refine zW_iload_n (pc' := 48) dX12_dark_1.2.2.1.2 rfl rfl ?_
        refine zW_iconst (pc' := 49) dX12_dark_1.2.2.2.1 rfl ?_
        refine cvI2 (pc' := 52) kX12_numberOf vX12_numberOf lk_X12_206 ⟨Nat.le_of_ble_eq_true rfl, Nat.le_of_ble_eq_true rfl⟩ tb0 vq12 rfl rfl (s_X12_numberOf hK hF _ ⟨by omega, by omega⟩ _ ⟨by omega, by omega⟩) dX12_dark_1.2.2.2.2 (Nat.le_of_ble_eq_true rfl) rfl ?_
        rintro r49 z49 ⟨hz49, p49⟩; subst z49
        have ho := KRo hK (k := x1) (by omega) (by omega) (Or.inl (by omega))
        refine cvI3 (pc' := 55) kX12_darkOf vX12_darkOf lk_X12_260 ⟨Nat.le_of_ble_eq_true rfl, Nat.le_of_ble_eq_true rfl⟩ tb0 vq12 rfl rfl (s_X12_darkOfZ hK hF _ ⟨by omega, by omega⟩ _ ⟨by omega, by omega, by omega⟩ _ ⟨by omega, by omega⟩ (EF κ (x1 - 1).toNat) hf0 (FB_EF hK hV _)) dX12_dark_2.1 (Nat.le_of_ble_eq_true rfl) rfl ?_
        rintro r52 z52 ⟨hz52, p52⟩; subst z52
        exact zV_iret rfl dX12_dark_2.2 ⟨hF, (by unfold dkQ; rw [if_pos (by omega), if_pos (by omega), p52.2.2, p49, Int.add_zero])⟩
      · refine zW_bipush (pc' := 36) dX12_dark_1.1.1.2.2 rfl rfl ?_
        exact zV_iret rfl dX12_dark_1.1.2.1.1 ⟨hF, (by unfold dkQ; rw [if_pos (by omega), if_neg (by omega)])⟩
    · refine zW_iconst (pc' := 23) dX12_dark_0.2.2.1.1 rfl ?_
      exact zV_iret rfl dX12_dark_0.2.2.1.2 ⟨hF, (by unfold dkQ; rw [if_neg (by omega)])⟩

abbrev q_X11_middleZ (b : Bd) (κ : Hp) (x1 : Int) (x2 : Int) (x3 : Int) : Int → Hp → Prop := fun r h' => Fr b κ h' ∧ ((r = mdQ (κ 33 0) (κ 33 1) (κ 41 0) (LC κ) (EFc κ) x1 x2 x3))
set_option maxHeartbeats 4000000 in
set_option maxRecDepth 20000 in
theorem s_X11_middleZ {G : Ga} {b : Bd} {κ h : Hp} (hK : KC κ) (hF : Fr b κ h) (x1 : Int) (hx1 : rng x1) (x2 : Int) (hx2 : rng x2) (x3 : Int) (hx3 : rng x3) (hSz : SheetZ b) (hV : VOK (κ 34)) (hE : EaOK (LC κ) (κ 41 0)) : zM G mX11_middle yX11_middle [.inr (.inr 30), .inl x1, .inl x2, .inl x3] h (q_X11_middleZ b κ x1 x2 x3) := by
  have f_33_0 := KCw hK
  have f_33_1 := KCh hK
  have f_41_0 := KCm hK
  unfold rng at hx1
  unfold rng at hx2
  unfold rng at hx3
  refine zM_of [some (.inr (.inr 30)), some (.inl x1), some (.inl x2), some (.inl x3)] 0 rfl rfl (Nat.le_of_ble_eq_true rfl) rfl ?_
  refine zW_aload_n (pc' := 1) dX11_middle_0.1.1.1.1 rfl rfl ?_
  refine zG_ref (pc' := 4) 41 fg_X11_33 tb30 rfl dX11_middle_0.1.1.1.2 rfl ?_
  refine zW_iload_n (pc' := 5) dX11_middle_0.1.1.2.1 rfl rfl ?_
  refine cvI1 (pc' := 8) kX7_has vX7_has lk_X11_178 ⟨Nat.le_of_ble_eq_true rfl, Nat.le_of_ble_eq_true rfl⟩ tb41 vq7 rfl rfl (s_X7_has hK hF _ ⟨by omega, by omega⟩) dX11_middle_0.1.1.2.2 (Nat.le_of_ble_eq_true rfl) rfl ?_
  rintro r5 z5 ⟨hz5, p5⟩; subst z5
  refine zV_if_eq (tgt := 23) (pc' := 11) dX11_middle_0.1.2.1.1 rfl rfl ⟨by omega, by omega⟩ (fun c8 => ?_) (fun c8 => ?_)
  · refine zW_iconst (pc' := 24) dX11_middle_0.2.1.2.2 rfl ?_
    exact zV_iret rfl dX11_middle_0.2.2.1.1 ⟨hF, (by unfold mdQ; rw [if_neg (by omega)])⟩
  · refine zW_aload_n (pc' := 12) dX11_middle_0.1.2.1.2 rfl rfl ?_
    refine zG_ref (pc' := 15) 33 fg_X11_19 tb30 rfl dX11_middle_0.1.2.2.1 rfl ?_
    refine zW_iload_n (pc' := 16) dX11_middle_0.1.2.2.2 rfl rfl ?_
    refine zW_iload_n (pc' := 17) dX11_middle_0.2.1.1.1 rfl rfl ?_
    refine cvI2 (pc' := 20) kX5_has vX5_has lk_X11_140 ⟨Nat.le_of_ble_eq_true rfl, Nat.le_of_ble_eq_true rfl⟩ tb33 vq5 rfl rfl (s_X5_has hK hF _ ⟨by omega, by omega⟩ _ ⟨by omega, by omega⟩) dX11_middle_0.2.1.1.2 (Nat.le_of_ble_eq_true rfl) rfl ?_
    rintro r17 z17 ⟨hz17, p17⟩; subst z17
    refine zV_if_ne (tgt := 25) (pc' := 23) dX11_middle_0.2.1.2.1 rfl rfl ⟨by omega, by omega⟩ (fun c20 => ?_) (fun c20 => ?_)
    · refine zW_aload_n (pc' := 26) dX11_middle_0.2.2.1.2 rfl rfl ?_
      refine zG_ref (pc' := 29) 41 fg_X11_33 tb30 rfl dX11_middle_0.2.2.2.1 rfl ?_
      refine zW_iload_n (pc' := 30) dX11_middle_0.2.2.2.2 rfl rfl ?_
      refine cvI1 (pc' := 33) kX7_letterOf vX7_letterOf lk_X11_180 ⟨Nat.le_of_ble_eq_true rfl, Nat.le_of_ble_eq_true rfl⟩ tb41 vq7 rfl rfl (s_X7_letterOfZ hK hF _ ⟨by omega, by omega, by omega⟩) dX11_middle_1.1.1.1.1 (Nat.le_of_ble_eq_true rfl) rfl ?_
      rintro r30 z30 ⟨hz30, p30⟩; subst z30
      refine zW_bipush (pc' := 35) dX11_middle_1.1.1.1.2 rfl rfl ?_
      refine zV_cm_eq (tgt := 41) (pc' := 38) dX11_middle_1.1.1.2.1 rfl rfl ⟨by omega, by omega⟩ ⟨by omega, by omega⟩ (fun c35 => ?_) (fun c35 => ?_)
      · refine zW_aload_n (pc' := 42) dX11_middle_1.1.2.1.2 rfl rfl ?_
        refine zG_ref (pc' := 45) 54 fg_X11_51 tb30 rfl dX11_middle_1.1.2.2.1 rfl ?_
        refine zG_ref (pc' := 48) 86 fg_X11_231 tb54 rfl dX11_middle_1.1.2.2.2 rfl ?_
        refine zW_aload_n (pc' := 49) dX11_middle_1.2.1.1.1 rfl rfl ?_
        refine zG_ref (pc' := 52) 54 fg_X11_51 tb30 rfl dX11_middle_1.2.1.1.2 rfl ?_
        refine zW_iload_n (pc' := 53) dX11_middle_1.2.1.2.1 rfl rfl ?_
        refine zW_iconst (pc' := 54) dX11_middle_1.2.1.2.2 rfl ?_
        refine zW_isub (pc' := 55) dX11_middle_1.2.2.1.1 rfl ?_
        refine cvA1 (pc' := 58) kX1_sheetOf vX1_sheetOf lk_X11_192 ⟨Nat.le_of_ble_eq_true rfl, Nat.le_of_ble_eq_true rfl⟩ tb54 vq1 rfl rfl (hSz hK hF _ ⟨by omega, by omega⟩) dX11_middle_1.2.2.1.2 (Nat.le_of_ble_eq_true rfl) rfl ?_
        rintro r55 h ⟨hF, p55⟩
        obtain ⟨q55, z55⟩ : ∃ z : Nat, z = r55.toNat := ⟨_, rfl⟩
        rw [← z55]
        have eLC : LC κ (x1 - 1).toNat = κ 42 x1.toNat := by show κ 42 ((x1 - 1).toNat + 1) = _; rw [show (x1 - 1).toNat + 1 = x1.toNat by omega]
        have hno : noF (LC κ) (x1 - 1).toNat := (hE (x1 - 1).toNat (by omega)).mpr (by rw [eLC]; omega)
        have hsh := p55.2.2 (by omega) (by omega)
        have hf0 := (hsh.2 (x1 - 1).toNat (by omega) hno).1
        rw [show 71 + (x1 - 1).toNat = q55 + 15 by omega] at hf0
        refine zW_iload_n (pc' := 59) dX11_middle_1.2.2.2.1 rfl rfl ?_
        refine zW_iload_n (pc' := 60) dX11_middle_1.2.2.2.2 rfl rfl ?_
        refine cvI3 (pc' := 63) kX2_middleOf vX2_middleOf lk_X11_241 ⟨Nat.le_of_ble_eq_true rfl, Nat.le_of_ble_eq_true rfl⟩ tb86 vq2 rfl rfl (s_X2_middleOfZ hK hF _ ⟨by omega, by omega⟩ _ ⟨by omega, by omega, by omega⟩ _ ⟨by omega, by omega, by omega⟩ (EFc κ (x1 - 1).toNat) hf0 (FB_EFc hK hV _)) dX11_middle_2.1 (Nat.le_of_ble_eq_true rfl) rfl ?_
        rintro r60 z60 ⟨hz60, p60⟩; subst z60
        exact zV_iret rfl dX11_middle_2.2 ⟨hF, (by unfold mdQ; rw [eLC, if_pos (by omega), if_pos (by omega)]; exact p60.2.2)⟩
      · refine zW_bipush (pc' := 40) dX11_middle_1.1.1.2.2 rfl rfl ?_
        exact zV_iret rfl dX11_middle_1.1.2.1.1 ⟨hF, (by have eLC : LC κ (x1 - 1).toNat = κ 42 x1.toNat := (by show κ 42 ((x1 - 1).toNat + 1) = _; rw [show (x1 - 1).toNat + 1 = x1.toNat by omega]); unfold mdQ; rw [eLC, if_pos (by omega), if_neg (by omega)])⟩
    · refine zW_iconst (pc' := 24) dX11_middle_0.2.1.2.2 rfl ?_
      exact zV_iret rfl dX11_middle_0.2.2.1.1 ⟨hF, (by unfold mdQ; rw [if_neg (by omega)])⟩

abbrev q_X11_darkZ (b : Bd) (κ : Hp) (x1 : Int) (x2 : Int) : Int → Hp → Prop := fun r h' => Fr b κ h' ∧ ((r = dkQ (κ 33 1) (κ 41 0) (LC κ) (AC κ) (κ 44) (EFc κ) x1 x2))
set_option maxHeartbeats 4000000 in
set_option maxRecDepth 20000 in
theorem s_X11_darkZ {G : Ga} {b : Bd} {κ h : Hp} (hK : KC κ) (hF : Fr b κ h) (x1 : Int) (hx1 : rng x1) (x2 : Int) (hx2 : rng x2) (hSz : SheetZ b) (hV : VOK (κ 34)) (hE : EaOK (LC κ) (κ 41 0)) (hRc : RecC κ) : zM G mX11_dark yX11_dark [.inr (.inr 30), .inl x1, .inl x2] h (q_X11_darkZ b κ x1 x2) := by
  have f_33_1 := KCh hK
  have f_41_0 := KCm hK
  unfold rng at hx1
  unfold rng at hx2
  refine zM_of [some (.inr (.inr 30)), some (.inl x1), some (.inl x2)] 0 rfl rfl (Nat.le_of_ble_eq_true rfl) rfl ?_
  refine zW_aload_n (pc' := 1) dX11_dark_0.1.1.1.1 rfl rfl ?_
  refine zG_ref (pc' := 4) 41 fg_X11_33 tb30 rfl dX11_dark_0.1.1.1.2 rfl ?_
  refine zW_iload_n (pc' := 5) dX11_dark_0.1.1.2.1 rfl rfl ?_
  refine cvI1 (pc' := 8) kX7_has vX7_has lk_X11_178 ⟨Nat.le_of_ble_eq_true rfl, Nat.le_of_ble_eq_true rfl⟩ tb41 vq7 rfl rfl (s_X7_has hK hF _ ⟨by omega, by omega⟩) dX11_dark_0.1.1.2.2 (Nat.le_of_ble_eq_true rfl) rfl ?_
  rintro r5 z5 ⟨hz5, p5⟩; subst z5
  refine zV_if_eq (tgt := 26) (pc' := 11) dX11_dark_0.1.2.1.1 rfl rfl ⟨by omega, by omega⟩ (fun c8 => ?_) (fun c8 => ?_)
  · refine zW_iconst (pc' := 27) dX11_dark_0.2.2.1.1 rfl ?_
    exact zV_iret rfl dX11_dark_0.2.2.1.2 ⟨hF, (by unfold dkQ; rw [if_neg (by omega)])⟩
  · refine zW_iload_n (pc' := 12) dX11_dark_0.1.2.1.2 rfl rfl ?_
    refine zV_if_lt (tgt := 26) (pc' := 15) dX11_dark_0.1.2.2.1 rfl rfl ⟨by omega, by omega⟩ (fun c12 => ?_) (fun c12 => ?_)
    · refine zW_iconst (pc' := 27) dX11_dark_0.2.2.1.1 rfl ?_
      exact zV_iret rfl dX11_dark_0.2.2.1.2 ⟨hF, (by unfold dkQ; rw [if_neg (by omega)])⟩
    · refine zW_iload_n (pc' := 16) dX11_dark_0.1.2.2.2 rfl rfl ?_
      refine zW_aload_n (pc' := 17) dX11_dark_0.2.1.1.1 rfl rfl ?_
      refine zG_ref (pc' := 20) 33 fg_X11_19 tb30 rfl dX11_dark_0.2.1.1.2 rfl ?_
      refine zG_key (pc' := 23) hF rfl fg_X11_127 tb33 rfl dX11_dark_0.2.1.2.1 rfl ?_
      refine zV_cm_lt (tgt := 28) (pc' := 26) dX11_dark_0.2.1.2.2 rfl rfl ⟨by omega, by omega⟩ ⟨by omega, by omega⟩ (fun c23 => ?_) (fun c23 => ?_)
      · refine zW_aload_n (pc' := 29) dX11_dark_0.2.2.2.1 rfl rfl ?_
        refine zG_ref (pc' := 32) 41 fg_X11_33 tb30 rfl dX11_dark_0.2.2.2.2 rfl ?_
        refine zW_iload_n (pc' := 33) dX11_dark_1.1.1.1.1 rfl rfl ?_
        refine cvI1 (pc' := 36) kX7_letterOf vX7_letterOf lk_X11_180 ⟨Nat.le_of_ble_eq_true rfl, Nat.le_of_ble_eq_true rfl⟩ tb41 vq7 rfl rfl (s_X7_letterOfZ hK hF _ ⟨by omega, by omega, by omega⟩) dX11_dark_1.1.1.1.2 (Nat.le_of_ble_eq_true rfl) rfl ?_
        rintro r33 z33 ⟨hz33, p33⟩; subst z33
        refine zW_bipush (pc' := 38) dX11_dark_1.1.1.2.1 rfl rfl ?_
        refine zV_cm_eq (tgt := 44) (pc' := 41) dX11_dark_1.1.1.2.2 rfl rfl ⟨by omega, by omega⟩ ⟨by omega, by omega⟩ (fun c38 => ?_) (fun c38 => ?_)
        · refine zW_aload_n (pc' := 45) dX11_dark_1.1.2.2.1 rfl rfl ?_
          refine zG_ref (pc' := 48) 54 fg_X11_51 tb30 rfl dX11_dark_1.1.2.2.2 rfl ?_
          refine zG_ref (pc' := 51) 86 fg_X11_231 tb54 rfl dX11_dark_1.2.1.1.1 rfl ?_
          refine zW_aload_n (pc' := 52) dX11_dark_1.2.1.1.2 rfl rfl ?_
          refine zG_ref (pc' := 55) 54 fg_X11_51 tb30 rfl dX11_dark_1.2.1.2.1 rfl ?_
          refine zW_iload_n (pc' := 56) dX11_dark_1.2.1.2.2 rfl rfl ?_
          refine zW_iconst (pc' := 57) dX11_dark_1.2.2.1.1 rfl ?_
          refine zW_isub (pc' := 58) dX11_dark_1.2.2.1.2 rfl ?_
          refine cvA1 (pc' := 61) kX1_sheetOf vX1_sheetOf lk_X11_192 ⟨Nat.le_of_ble_eq_true rfl, Nat.le_of_ble_eq_true rfl⟩ tb54 vq1 rfl rfl (hSz hK hF _ ⟨by omega, by omega⟩) dX11_dark_1.2.2.2.1 (Nat.le_of_ble_eq_true rfl) rfl ?_
          rintro r58 h ⟨hF, p58⟩
          obtain ⟨q58, z58⟩ : ∃ z : Nat, z = r58.toNat := ⟨_, rfl⟩
          rw [← z58]
          have eLC : LC κ (x1 - 1).toNat = κ 42 x1.toNat := by show κ 42 ((x1 - 1).toNat + 1) = _; rw [show (x1 - 1).toNat + 1 = x1.toNat by omega]
          have hno : noF (LC κ) (x1 - 1).toNat := (hE (x1 - 1).toNat (by omega)).mpr (by rw [eLC]; omega)
          have hsh := p58.2.2 (by omega) (by omega)
          have hf0 := (hsh.2 (x1 - 1).toNat (by omega) hno).1
          rw [show 71 + (x1 - 1).toNat = q58 + 15 by omega] at hf0
          have eAC : AC κ (x1 - 1).toNat = κ 43 x1.toNat := by show κ 43 ((x1 - 1).toNat + 1) = _; rw [show (x1 - 1).toNat + 1 = x1.toNat by omega]
          have rc1 : κ 43 x1.toNat < κ 43 (x1 + 1).toNat ∧ κ 43 (x1 + 1).toNat ≤ 64 ∧ (κ 42 x1.toNat = 111 → 1 ≤ κ 44 (κ 43 x1.toNat).toNat ∧ κ 44 (κ 43 x1.toNat).toNat ≤ 4) := by have z := hRc (x1 - 1).toNat (by omega); rw [eLC, eAC, show AC κ ((x1 - 1).toNat + 1) = κ 43 (x1 + 1).toNat by (show κ 43 ((x1 - 1).toNat + 1 + 1) = _; rw [show (x1 - 1).toNat + 1 + 1 = (x1 + 1).toNat by omega])] at z; exact ⟨z.1, z.2.1, z.2.2.2⟩
          refine zW_iload_n (pc' := 62) dX11_dark_1.2.2.2.2 rfl rfl ?_
          refine zW_aload_n (pc' := 63) dX11_dark_2.1.1.1 rfl rfl ?_
          refine zG_ref (pc' := 66) 41 fg_X11_33 tb30 rfl dX11_dark_2.1.1.2 rfl ?_
          refine zW_iload_n (pc' := 67) dX11_dark_2.1.2.1 rfl rfl ?_
          refine zW_iconst (pc' := 68) dX11_dark_2.1.2.2 rfl ?_
          refine cvI2 (pc' := 71) kX7_numberOf vX7_numberOf lk_X11_186 ⟨Nat.le_of_ble_eq_true rfl, Nat.le_of_ble_eq_true rfl⟩ tb41 vq7 rfl rfl (s_X7_numberOfZ hK hF _ ⟨by omega, by omega, by omega⟩ _ ⟨by omega, by omega⟩ ⟨rc1.1, rc1.2.1⟩) dX11_dark_2.2.1.1 (Nat.le_of_ble_eq_true rfl) rfl ?_
          rintro r68 z68 ⟨hz68, p68⟩; subst z68
          have e68_ : 0 ≤ r68 ∧ r68 ≤ 4 := by omega
          refine cvI3 (pc' := 74) kX2_darkOf vX2_darkOf lk_X11_235 ⟨Nat.le_of_ble_eq_true rfl, Nat.le_of_ble_eq_true rfl⟩ tb86 vq2 rfl rfl (s_X2_darkOfZ hK hF _ ⟨by omega, by omega⟩ _ ⟨by omega, by omega, by omega⟩ _ ⟨by omega, by omega⟩ (EFc κ (x1 - 1).toNat) hf0 (FB_EFc hK hV _)) dX11_dark_2.2.1.2 (Nat.le_of_ble_eq_true rfl) rfl ?_
          rintro r71 z71 ⟨hz71, p71⟩; subst z71
          exact zV_iret rfl dX11_dark_2.2.2 ⟨hF, (by unfold dkQ; rw [eLC, eAC, if_pos (by omega), if_pos (by omega), p71.2.2 (by omega), p68.2.2])⟩
        · refine zW_bipush (pc' := 43) dX11_dark_1.1.2.1.1 rfl rfl ?_
          exact zV_iret rfl dX11_dark_1.1.2.1.2 ⟨hF, (by have eLC : LC κ (x1 - 1).toNat = κ 42 x1.toNat := (by show κ 42 ((x1 - 1).toNat + 1) = _; rw [show (x1 - 1).toNat + 1 = x1.toNat by omega]); unfold dkQ; rw [eLC, if_pos (by omega), if_neg (by omega)])⟩
      · refine zW_iconst (pc' := 27) dX11_dark_0.2.2.1.1 rfl ?_
        exact zV_iret rfl dX11_dark_0.2.2.1.2 ⟨hF, (by unfold dkQ; rw [if_neg (by omega)])⟩
