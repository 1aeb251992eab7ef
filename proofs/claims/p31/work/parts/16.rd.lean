abbrev q_X12_mirroredF (κ h : Hp) (x1 : Int) (x2 : Int) : Int → Hp → Prop := fun r h' => h' = h ∧ ((0 ≤ r) ∧ (r ≤ 15) ∧ (r = mir x1 x2))
set_option maxHeartbeats 4000000 in
set_option maxRecDepth 20000 in
theorem s_X12_mirroredF {G : Ga} {b : Bd} {κ h : Hp} (hF : Fr b κ h) (x1 : Int) (hx1 : -2 ≤ x1 ∧ x1 ≤ 17) (x2 : Int) (hx2 : 4 ≤ x2 ∧ x2 ≤ 16) (hm : x1 ≤ x2 + 1) : zM G mX12_mirrored yX12_mirrored [.inl x1, .inl x2] h (q_X12_mirroredF κ h x1 x2) := by
  refine zM_of [some (.inl x1), some (.inl x2)] 0 rfl rfl (Nat.le_of_ble_eq_true rfl) rfl ?_
  refine zW_iload_n (pc' := 1) dX12_mirrored_0.1.1.1.1 rfl rfl ?_
  refine zV_if_ge (tgt := 9) (pc' := 4) dX12_mirrored_0.1.1.1.2 rfl rfl ⟨by omega, by omega⟩ (fun c1 => ?_) (fun c1 => ?_)
  · refine zW_iload_n (pc' := 10) dX12_mirrored_0.1.2.1.2 rfl rfl ?_
    refine zW_iload_n (pc' := 11) dX12_mirrored_0.1.2.2.1 rfl rfl ?_
    refine zV_cm_lt (tgt := 24) (pc' := 14) dX12_mirrored_0.1.2.2.2 rfl rfl ⟨by omega, by omega⟩ ⟨by omega, by omega⟩ (fun c11 => ?_) (fun c11 => ?_)
    · refine zW_iload_n (pc' := 25) dX12_mirrored_1.1 rfl rfl ?_
      exact zV_iret rfl dX12_mirrored_1.2 ⟨rfl, by refine ⟨by omega, by omega, ?_⟩; unfold mir; repeat' split; all_goals omega⟩
    · refine zW_iconst (pc' := 15) dX12_mirrored_0.2.1.1.1 rfl ?_
      refine zW_iload_n (pc' := 16) dX12_mirrored_0.2.1.1.2 rfl rfl ?_
      refine zW_imul (pc' := 17) dX12_mirrored_0.2.1.2.1 rfl ?_
      refine zW_iconst (pc' := 18) dX12_mirrored_0.2.1.2.2 rfl ?_
      refine zW_isub (pc' := 19) dX12_mirrored_0.2.2.1.1 rfl ?_
      refine zW_iload_n (pc' := 20) dX12_mirrored_0.2.2.1.2 rfl rfl ?_
      refine zW_isub (pc' := 21) dX12_mirrored_0.2.2.2.1 rfl ?_
      refine zV_goto 25 dX12_mirrored_0.2.2.2.2 rfl ?_
      exact zV_iret rfl dX12_mirrored_1.2 ⟨rfl, by refine ⟨by omega, by omega, ?_⟩; unfold mir; repeat' split; all_goals omega⟩
  · refine zW_iload_n (pc' := 5) dX12_mirrored_0.1.1.2.1 rfl rfl ?_
    refine zW_ineg (pc' := 6) dX12_mirrored_0.1.1.2.2 rfl ?_
    refine zV_goto 25 dX12_mirrored_0.1.2.1.1 rfl ?_
    exact zV_iret rfl dX12_mirrored_1.2 ⟨rfl, by refine ⟨by omega, by omega, ?_⟩; unfold mir; repeat' split; all_goals omega⟩

abbrev q_X12_atF (κ h : Hp) (x1 : Int) (x2 : Int) (x3 : Int) (x4 : Int) : Int → Hp → Prop := fun r h' => h' = h ∧ ((-2147483648 ≤ r) ∧ (r ≤ 2147483647) ∧ (r = lv κ h x1 x2 x3 x4))
set_option maxHeartbeats 4000000 in
set_option maxRecDepth 20000 in
theorem s_X12_atF {G : Ga} {b : Bd} {κ h : Hp} (hK : KR κ) (hF : Fr b κ h) (x1 : Int) (hx1 : 0 ≤ x1 ∧ x1 ≤ 14) (x2 : Int) (hx2 : 0 ≤ x2 ∧ x2 ≤ 2) (x3 : Int) (hx3 : -2 ≤ x3 ∧ x3 ≤ 17 ∧ x3 - κ 0 11 ≤ 1) (x4 : Int) (hx4 : -2 ≤ x4 ∧ x4 ≤ 17 ∧ x4 - κ 0 12 ≤ 1) : zM G mX12_at yX12_at [.inr (.inr 0), .inl x1, .inl x2, .inl x3, .inl x4] h (q_X12_atF κ h x1 x2 x3 x4) := by
  have f_0_11 := KRw hK
  have f_0_12 := KRh hK
  refine zM_of [some (.inr (.inr 0)), some (.inl x1), some (.inl x2), some (.inl x3), some (.inl x4)] 0 rfl rfl (Nat.le_of_ble_eq_true rfl) rfl ?_
  refine zW_aload_n (pc' := 1) dX12_at_0.1.1.1.1 rfl rfl ?_
  refine zG_ref (pc' := 4) 17 fg_X12_60 tb0 rfl dX12_at_0.1.1.1.2 rfl ?_
  refine zW_sipush (pc' := 7) dX12_at_0.1.1.2.1 rfl rfl ?_
  refine zW_iload_n (pc' := 8) dX12_at_0.1.1.2.2 rfl rfl ?_
  refine zW_imul (pc' := 9) dX12_at_0.1.2.1.1 rfl ?_
  refine zW_sipush (pc' := 12) dX12_at_0.1.2.1.2 rfl rfl ?_
  refine zW_iload_n (pc' := 13) dX12_at_0.1.2.2.1 rfl rfl ?_
  refine zW_imul (pc' := 14) dX12_at_0.1.2.2.2 rfl ?_
  refine zW_iadd (pc' := 15) dX12_at_0.2.1.1.1 rfl ?_
  refine zW_bipush (pc' := 17) dX12_at_0.2.1.1.2 rfl rfl ?_
  refine zW_iload (pc' := 19) dX12_at_0.2.1.2.1 rfl rfl ?_
  refine zW_aload_n (pc' := 20) dX12_at_0.2.1.2.2 rfl rfl ?_
  refine zG_key (pc' := 23) hF rfl fg_X12_103 tb0 rfl dX12_at_0.2.2.1.1 rfl ?_
  refine csI2 (pc' := 26) kX12_mirrored vX12_mirrored lk_X12_236 ⟨Nat.le_of_ble_eq_true rfl, Nat.le_of_ble_eq_true rfl⟩ rfl (s_X12_mirroredF hF _ ⟨by omega, by omega⟩ _ ⟨by omega, by omega⟩ (by omega)) dX12_at_0.2.2.1.2 (Nat.le_of_ble_eq_true rfl) rfl ?_
  rintro r23 z23 ⟨hz23, p23⟩; subst z23
  refine zW_imul (pc' := 27) dX12_at_0.2.2.2.1 rfl ?_
  refine zW_iadd (pc' := 28) dX12_at_0.2.2.2.2 rfl ?_
  refine zW_iload_n (pc' := 29) dX12_at_1.1.1.1 rfl rfl ?_
  refine zW_aload_n (pc' := 30) dX12_at_1.1.1.2 rfl rfl ?_
  refine zG_key (pc' := 33) hF rfl fg_X12_99 tb0 rfl dX12_at_1.1.2.1 rfl ?_
  refine csI2 (pc' := 36) kX12_mirrored vX12_mirrored lk_X12_236 ⟨Nat.le_of_ble_eq_true rfl, Nat.le_of_ble_eq_true rfl⟩ rfl (s_X12_mirroredF hF _ ⟨by omega, by omega⟩ _ ⟨by omega, by omega⟩ (by omega)) dX12_at_1.1.2.2 (Nat.le_of_ble_eq_true rfl) rfl ?_
  rintro r33 z33 ⟨hz33, p33⟩; subst z33
  refine zW_iadd (pc' := 37) dX12_at_1.2.1.1 rfl ?_
  refine zV_ialdI (pc' := 38) hF (by decide) (by decide) tb17 (by omega) dX12_at_1.2.1.2 (by decide) rfl (fun e37 => ?_)
  exact zV_iret rfl dX12_at_1.2.2 ⟨rfl, by refine ⟨e37.1, e37.2, ?_⟩; unfold lv; rw [← p23.2.2, ← p33.2.2]⟩

abbrev q_X12_greatestF (κ h : Hp) (x1 : Int) (x2 : Int) (x3 : Int) : Int → Hp → Prop := fun r h' => h' = h ∧ ((-2147483648 ≤ r) ∧ (r ≤ 2147483647) ∧ (lv κ h x1 0 x2 x3 ≤ r ∧ lv κ h x1 1 x2 x3 ≤ r ∧ lv κ h x1 2 x2 x3 ≤ r))
set_option maxHeartbeats 4000000 in
set_option maxRecDepth 20000 in
theorem s_X12_greatestF {G : Ga} {b : Bd} {κ h : Hp} (hK : KR κ) (hF : Fr b κ h) (x1 : Int) (hx1 : 0 ≤ x1 ∧ x1 ≤ 14) (x2 : Int) (hx2 : -2 ≤ x2 ∧ x2 ≤ 17 ∧ x2 - κ 0 11 ≤ 1) (x3 : Int) (hx3 : -2 ≤ x3 ∧ x3 ≤ 17 ∧ x3 - κ 0 12 ≤ 1) : zM G mX12_greatest yX12_greatest [.inr (.inr 0), .inl x1, .inl x2, .inl x3] h (q_X12_greatestF κ h x1 x2 x3) := by
  have f_0_11 := KRw hK
  have f_0_12 := KRh hK
  refine zM_of [some (.inr (.inr 0)), some (.inl x1), some (.inl x2), some (.inl x3)] 0 rfl rfl (Nat.le_of_ble_eq_true rfl) rfl ?_
  refine zW_aload_n (pc' := 1) dX12_greatest_0.1.1.1.1 rfl rfl ?_
  refine zW_iload_n (pc' := 2) dX12_greatest_0.1.1.1.2 rfl rfl ?_
  refine zW_iconst (pc' := 3) dX12_greatest_0.1.1.2.1 rfl ?_
  refine zW_iload_n (pc' := 4) dX12_greatest_0.1.1.2.2 rfl rfl ?_
  refine zW_iload_n (pc' := 5) dX12_greatest_0.1.2.1.1 rfl rfl ?_
  refine cvI4 (pc' := 8) kX12_at vX12_at lk_X12_277 ⟨Nat.le_of_ble_eq_true rfl, Nat.le_of_ble_eq_true rfl⟩ tb0 vq12 rfl rfl (s_X12_atF hK hF _ ⟨by omega, by omega⟩ _ ⟨by omega, by omega⟩ _ ⟨by omega, by omega, by omega⟩ _ ⟨by omega, by omega, by omega⟩) dX12_greatest_0.1.2.1.2 (Nat.le_of_ble_eq_true rfl) rfl ?_
  rintro r5 z5 ⟨hz5, p5⟩; subst z5
  refine zW_aload_n (pc' := 9) dX12_greatest_0.1.2.2.1 rfl rfl ?_
  refine zW_iload_n (pc' := 10) dX12_greatest_0.1.2.2.2 rfl rfl ?_
  refine zW_iconst (pc' := 11) dX12_greatest_0.2.1.1.1 rfl ?_
  refine zW_iload_n (pc' := 12) dX12_greatest_0.2.1.1.2 rfl rfl ?_
  refine zW_iload_n (pc' := 13) dX12_greatest_0.2.1.2.1 rfl rfl ?_
  refine cvI4 (pc' := 16) kX12_at vX12_at lk_X12_277 ⟨Nat.le_of_ble_eq_true rfl, Nat.le_of_ble_eq_true rfl⟩ tb0 vq12 rfl rfl (s_X12_atF hK hF _ ⟨by omega, by omega⟩ _ ⟨by omega, by omega⟩ _ ⟨by omega, by omega, by omega⟩ _ ⟨by omega, by omega, by omega⟩) dX12_greatest_0.2.1.2.2 (Nat.le_of_ble_eq_true rfl) rfl ?_
  rintro r13 z13 ⟨hz13, p13⟩; subst z13
  refine zW_aload_n (pc' := 17) dX12_greatest_0.2.2.1.1 rfl rfl ?_
  refine zW_iload_n (pc' := 18) dX12_greatest_0.2.2.1.2 rfl rfl ?_
  refine zW_iconst (pc' := 19) dX12_greatest_0.2.2.2.1 rfl ?_
  refine zW_iload_n (pc' := 20) dX12_greatest_0.2.2.2.2 rfl rfl ?_
  refine zW_iload_n (pc' := 21) dX12_greatest_1.1.1.1 rfl rfl ?_
  refine cvI4 (pc' := 24) kX12_at vX12_at lk_X12_277 ⟨Nat.le_of_ble_eq_true rfl, Nat.le_of_ble_eq_true rfl⟩ tb0 vq12 rfl rfl (s_X12_atF hK hF _ ⟨by omega, by omega⟩ _ ⟨by omega, by omega⟩ _ ⟨by omega, by omega, by omega⟩ _ ⟨by omega, by omega, by omega⟩) dX12_greatest_1.1.1.2 (Nat.le_of_ble_eq_true rfl) rfl ?_
  rintro r21 z21 ⟨hz21, p21⟩; subst z21
  refine csI2 (pc' := 27) kX12_max vX12_max lk_X12_113 ⟨Nat.le_of_ble_eq_true rfl, Nat.le_of_ble_eq_true rfl⟩ rfl (s_X12_maxR hF _ ⟨by omega, by omega⟩ _ ⟨by omega, by omega⟩) dX12_greatest_1.1.2 (Nat.le_of_ble_eq_true rfl) rfl ?_
  rintro r24 z24 ⟨hz24, p24⟩; subst z24
  refine csI2 (pc' := 30) kX12_max vX12_max lk_X12_113 ⟨Nat.le_of_ble_eq_true rfl, Nat.le_of_ble_eq_true rfl⟩ rfl (s_X12_maxR hF _ ⟨by omega, by omega⟩ _ ⟨by omega, by omega⟩) dX12_greatest_1.2.1 (Nat.le_of_ble_eq_true rfl) rfl ?_
  rintro r27 z27 ⟨hz27, p27⟩; subst z27
  exact zV_iret rfl dX12_greatest_1.2.2 ⟨rfl, by omega⟩

abbrev q_X12_smallestF (κ h : Hp) (x1 : Int) (x2 : Int) (x3 : Int) : Int → Hp → Prop := fun r h' => h' = h ∧ ((-2147483648 ≤ r) ∧ (r ≤ 2147483647) ∧ (r ≤ lv κ h x1 0 x2 x3 ∧ r ≤ lv κ h x1 1 x2 x3 ∧ r ≤ lv κ h x1 2 x2 x3))
set_option maxHeartbeats 4000000 in
set_option maxRecDepth 20000 in
theorem s_X12_smallestF {G : Ga} {b : Bd} {κ h : Hp} (hK : KR κ) (hF : Fr b κ h) (x1 : Int) (hx1 : 0 ≤ x1 ∧ x1 ≤ 14) (x2 : Int) (hx2 : -2 ≤ x2 ∧ x2 ≤ 17 ∧ x2 - κ 0 11 ≤ 1) (x3 : Int) (hx3 : -2 ≤ x3 ∧ x3 ≤ 17 ∧ x3 - κ 0 12 ≤ 1) : zM G mX12_smallest yX12_smallest [.inr (.inr 0), .inl x1, .inl x2, .inl x3] h (q_X12_smallestF κ h x1 x2 x3) := by
  have f_0_11 := KRw hK
  have f_0_12 := KRh hK
  refine zM_of [some (.inr (.inr 0)), some (.inl x1), some (.inl x2), some (.inl x3)] 0 rfl rfl (Nat.le_of_ble_eq_true rfl) rfl ?_
  refine zW_aload_n (pc' := 1) dX12_smallest_0.1.1.1.1 rfl rfl ?_
  refine zW_iload_n (pc' := 2) dX12_smallest_0.1.1.1.2 rfl rfl ?_
  refine zW_iconst (pc' := 3) dX12_smallest_0.1.1.2.1 rfl ?_
  refine zW_iload_n (pc' := 4) dX12_smallest_0.1.1.2.2 rfl rfl ?_
  refine zW_iload_n (pc' := 5) dX12_smallest_0.1.2.1.1 rfl rfl ?_
  refine cvI4 (pc' := 8) kX12_at vX12_at lk_X12_277 ⟨Nat.le_of_ble_eq_true rfl, Nat.le_of_ble_eq_true rfl⟩ tb0 vq12 rfl rfl (s_X12_atF hK hF _ ⟨by omega, by omega⟩ _ ⟨by omega, by omega⟩ _ ⟨by omega, by omega, by omega⟩ _ ⟨by omega, by omega, by omega⟩) dX12_smallest_0.1.2.1.2 (Nat.le_of_ble_eq_true rfl) rfl ?_
  rintro r5 z5 ⟨hz5, p5⟩; subst z5
  refine zW_aload_n (pc' := 9) dX12_smallest_0.1.2.2.1 rfl rfl ?_
  refine zW_iload_n (pc' := 10) dX12_smallest_0.1.2.2.2 rfl rfl ?_
  refine zW_iconst (pc' := 11) dX12_smallest_0.2.1.1.1 rfl ?_
  refine zW_iload_n (pc' := 12) dX12_smallest_0.2.1.1.2 rfl rfl ?_
  refine zW_iload_n (pc' := 13) dX12_smallest_0.2.1.2.1 rfl rfl ?_
  refine cvI4 (pc' := 16) kX12_at vX12_at lk_X12_277 ⟨Nat.le_of_ble_eq_true rfl, Nat.le_of_ble_eq_true rfl⟩ tb0 vq12 rfl rfl (s_X12_atF hK hF _ ⟨by omega, by omega⟩ _ ⟨by omega, by omega⟩ _ ⟨by omega, by omega, by omega⟩ _ ⟨by omega, by omega, by omega⟩) dX12_smallest_0.2.1.2.2 (Nat.le_of_ble_eq_true rfl) rfl ?_
  rintro r13 z13 ⟨hz13, p13⟩; subst z13
  refine zW_aload_n (pc' := 17) dX12_smallest_0.2.2.1.1 rfl rfl ?_
  refine zW_iload_n (pc' := 18) dX12_smallest_0.2.2.1.2 rfl rfl ?_
  refine zW_iconst (pc' := 19) dX12_smallest_0.2.2.2.1 rfl ?_
  refine zW_iload_n (pc' := 20) dX12_smallest_0.2.2.2.2 rfl rfl ?_
  refine zW_iload_n (pc' := 21) dX12_smallest_1.1.1.1 rfl rfl ?_
  refine cvI4 (pc' := 24) kX12_at vX12_at lk_X12_277 ⟨Nat.le_of_ble_eq_true rfl, Nat.le_of_ble_eq_true rfl⟩ tb0 vq12 rfl rfl (s_X12_atF hK hF _ ⟨by omega, by omega⟩ _ ⟨by omega, by omega⟩ _ ⟨by omega, by omega, by omega⟩ _ ⟨by omega, by omega, by omega⟩) dX12_smallest_1.1.1.2 (Nat.le_of_ble_eq_true rfl) rfl ?_
  rintro r21 z21 ⟨hz21, p21⟩; subst z21
  refine csI2 (pc' := 27) kX12_min vX12_min lk_X12_109 ⟨Nat.le_of_ble_eq_true rfl, Nat.le_of_ble_eq_true rfl⟩ rfl (s_X12_minR hF _ ⟨by omega, by omega⟩ _ ⟨by omega, by omega⟩) dX12_smallest_1.1.2 (Nat.le_of_ble_eq_true rfl) rfl ?_
  rintro r24 z24 ⟨hz24, p24⟩; subst z24
  refine csI2 (pc' := 30) kX12_min vX12_min lk_X12_109 ⟨Nat.le_of_ble_eq_true rfl, Nat.le_of_ble_eq_true rfl⟩ rfl (s_X12_minR hF _ ⟨by omega, by omega⟩ _ ⟨by omega, by omega⟩) dX12_smallest_1.2.1 (Nat.le_of_ble_eq_true rfl) rfl ?_
  rintro r27 z27 ⟨hz27, p27⟩; subst z27
  exact zV_iret rfl dX12_smallest_1.2.2 ⟨rfl, by omega⟩

abbrev q_X12_findsWhite (b : Bd) (κ : Hp) (x1 : Int) (x2 : Int) : Int → Hp → Prop := fun r h' => Fr b κ h' ∧ (True)
set_option maxHeartbeats 4000000 in
set_option maxRecDepth 20000 in
theorem s_X12_findsWhite {G : Ga} {b : Bd} {κ h : Hp} (hK : KR κ) (hF : Fr b κ h) (x1 : Int) (hx1 : 0 ≤ x1 ∧ x1 ≤ 14) (x2 : Int) : zM G mX12_findsWhite yX12_findsWhite [.inr (.inr 0), .inl x1, .inl x2] h (q_X12_findsWhite b κ x1 x2) := by
  have f_0_11 := KRw hK
  have f_0_12 := KRh hK
  have main : ∀ N : Nat, (∀ (v3 v4 v5 v6 : Int) (h : Hp), Fr b κ h → (0 ≤ v6 ∧ v6 ≤ 16) → (v6 - κ 0 12 ≤ 0) → (0 ≤ h 0 46 ∧ h 0 46 ≤ 16 * v6) → (64 * h 0 46 ≤ v3 ∧ v3 ≤ 4000 * h 0 46) → (64 * h 0 46 ≤ v5 ∧ v5 ≤ 4000 * h 0 46) → 258345936 + 134136 * (16 - v6) + 132894 < (N : Int) → zV G mX12_findsWhite (q_X12_findsWhite b κ x1 x2) 16 [some (.inr (.inr 0)), some (.inl x1), some (.inl x2), some (.inl v3), some (.inl v4), some (.inl v5), some (.inl v6), none, none, none] [] h) ∧ (∀ (v3 v4 v5 v6 u1 : Int) (h : Hp), Fr b κ h → (4 ≤ v6 ∧ v6 ≤ 16) → (v6 - κ 0 12 ≤ 0) → (64 ≤ u1 ∧ u1 ≤ 1024) → (0 ≤ h 0 46 ∧ h 0 46 ≤ 256) → (64 * h 0 46 ≤ v5 ∧ v5 ≤ 4000 * h 0 46) → 212471424 < (N : Int) → zV G mX12_findsWhite (q_X12_findsWhite b κ x1 x2) 187 [some (.inr (.inr 0)), some (.inl x1), some (.inl x2), some (.inl v3), some (.inl v4), some (.inl v5), some (.inl v6), none, none, none] [.inl u1, .inr (.inr 0)] h) ∧ (∀ (v3 v4 v5 v6 v7 : Int) (h : Hp), Fr b κ h → (0 ≤ v6 ∧ v6 ≤ 15) → (v6 - κ 0 12 ≤ -1) → (0 ≤ v7 ∧ v7 ≤ 16) → (v7 - κ 0 11 ≤ 0) → (0 ≤ h 0 46 ∧ h 0 46 ≤ 16 * v6 + v7) → (64 * h 0 46 ≤ v3 ∧ v3 ≤ 4000 * h 0 46) → (64 * h 0 46 ≤ v5 ∧ v5 ≤ 4000 * h 0 46) → 258345936 + 134136 * (16 - v6) + 84456 + 69 * (16 - v7) + 68 < (N : Int) → zV G mX12_findsWhite (q_X12_findsWhite b κ x1 x2) 28 [some (.inr (.inr 0)), some (.inl x1), some (.inl x2), some (.inl v3), some (.inl v4), some (.inl v5), some (.inl v6), some (.inl v7), none, none] [] h) := by
    intro N
    induction N with
    | zero =>
      refine ⟨?_, ?_, ?_⟩
      · intro v3 v4 v5 v6 h hF g0 g1 gc0 gc1 gc2 hm
        exfalso; omega
      · intro v3 v4 v5 v6 u1 h hF g0 g1 g2 gc0 gc1 hm
        exfalso; omega
      · intro v3 v4 v5 v6 v7 h hF g0 g1 g2 g3 gc0 gc1 gc2 hm
        exfalso; omega
    | succ N ih =>
      obtain ⟨k16, k187, k28⟩ := ih
      refine ⟨?_, ?_, ?_⟩
      · intro v3 v4 v5 v6 h hF g0 g1 gc0 gc1 gc2 hm
        refine zW_iload (pc' := 18) dX12_findsWhite_0.2.1.2.2 rfl rfl ?_
        refine zW_aload_n (pc' := 19) dX12_findsWhite_0.2.2.1.1 rfl rfl ?_
        refine zG_key (pc' := 22) hF rfl fg_X12_103 tb0 rfl dX12_findsWhite_0.2.2.1.2 rfl ?_
        refine zV_cm_ge (tgt := 154) (pc' := 25) dX12_findsWhite_0.2.2.2.1 rfl rfl ⟨by omega, by omega⟩ ⟨by omega, by omega⟩ (fun c22 => ?_) (fun c22 => ?_)
        · refine zW_aload_n (pc' := 155) dX12_findsWhite_5.1.2.1.1 rfl rfl ?_
          refine zW_aload_n (pc' := 156) dX12_findsWhite_5.1.2.1.2 rfl rfl ?_
          refine zG_int (pc' := 159) fg_X12_292 tb0 rfl dX12_findsWhite_5.1.2.2.1 rfl ?_
          refine zV_if_ne (tgt := 168) (pc' := 162) dX12_findsWhite_5.1.2.2.2 rfl rfl ⟨by omega, by omega⟩ (fun c159 => ?_) (fun c159 => ?_)
          · refine zW_bipush (pc' := 170) dX12_findsWhite_5.2.1.2.1 rfl rfl ?_
            refine zW_sipush (pc' := 173) dX12_findsWhite_5.2.1.2.2 rfl rfl ?_
            refine zW_sipush (pc' := 176) dX12_findsWhite_5.2.2.1.1 rfl rfl ?_
            refine zW_iload (pc' := 178) dX12_findsWhite_5.2.2.1.2 rfl rfl ?_
            refine zW_imul (pc' := 179) dX12_findsWhite_5.2.2.2.1 rfl ?_
            refine zW_iload_n (pc' := 180) dX12_findsWhite_5.2.2.2.2 rfl rfl ?_
            refine zW_idivQ (pc' := 181) ⟨by omega, by omega⟩ (by omega) dX12_findsWhite_6.1.1.1.1 rfl (fun v180 e180 => ?_)
            unfold rng at e180
            refine csI2 (pc' := 184) kX12_min vX12_min lk_X12_109 ⟨Nat.le_of_ble_eq_true rfl, Nat.le_of_ble_eq_true rfl⟩ rfl (s_X12_minR hF _ ⟨by omega, by omega⟩ _ ⟨by omega, by omega⟩) dX12_findsWhite_6.1.1.1.2 (Nat.le_of_ble_eq_true rfl) rfl ?_
            rintro r181 z181 ⟨hz181, p181⟩; subst z181
            refine csI2 (pc' := 187) kX12_max vX12_max lk_X12_113 ⟨Nat.le_of_ble_eq_true rfl, Nat.le_of_ble_eq_true rfl⟩ rfl (s_X12_maxR hF _ ⟨by omega, by omega⟩ _ ⟨by omega, by omega⟩) dX12_findsWhite_6.1.1.2.1 (Nat.le_of_ble_eq_true rfl) rfl ?_
            rintro r184 z184 ⟨hz184, p184⟩; subst z184
            exact k187 _ _ _ _ _ _ hF (by omega) (by omega) (by omega) (by omega) (by omega) (by omega)
          · refine zW_sipush (pc' := 165) dX12_findsWhite_5.2.1.1.1 rfl rfl ?_
            refine zV_goto 187 dX12_findsWhite_5.2.1.1.2 rfl ?_
            exact k187 _ _ _ _ _ _ hF (by omega) (by omega) (by omega) (by omega) (by omega) (by omega)
        · refine zW_iconst (pc' := 26) dX12_findsWhite_0.2.2.2.2 rfl ?_
          refine zW_istore (ls' := [_, _, _, _, _, _, _, _, _, _]) (pc' := 28) dX12_findsWhite_1.1.1.1.1 (by decide) rfl rfl rfl ?_
          exact k28 _ _ _ _ _ _ hF (by omega) (by omega) (by omega) (by omega) (by omega) (by omega) (by omega) (by omega)
      · intro v3 v4 v5 v6 u1 h hF g0 g1 g2 gc0 gc1 hm
        obtain ⟨y47, hy47⟩ : ∃ z : Int, z = h 0 46 := ⟨_, rfl⟩
        refine zP_scf (pc' := 190) hF rfl fp_X12_301 tb0 rfl dX12_findsWhite_6.1.1.2.2 rfl (fun h i187 hF a187 b187 w187 => ?_)
        have z187 : h 0 46 = y47 := by rw [w187, hy47]; exact zwr_ne (Or.inr (by decide))
        refine zW_aload_n (pc' := 191) dX12_findsWhite_6.1.2.1.1 rfl rfl ?_
        refine zW_aload_n (pc' := 192) dX12_findsWhite_6.1.2.1.2 rfl rfl ?_
        refine zG_int (pc' := 195) fg_X12_292 tb0 rfl dX12_findsWhite_6.1.2.2.1 rfl ?_
        refine zV_if_ne (tgt := 204) (pc' := 198) dX12_findsWhite_6.1.2.2.2 rfl rfl ⟨by omega, by omega⟩ (fun c195 => ?_) (fun c195 => ?_)
        · refine zW_bipush (pc' := 206) dX12_findsWhite_6.2.1.2.1 rfl rfl ?_
          refine zW_sipush (pc' := 209) dX12_findsWhite_6.2.1.2.2 rfl rfl ?_
          refine zW_sipush (pc' := 212) dX12_findsWhite_6.2.2.1.1 rfl rfl ?_
          refine zW_iload (pc' := 214) dX12_findsWhite_6.2.2.1.2 rfl rfl ?_
          refine zW_imul (pc' := 215) dX12_findsWhite_6.2.2.2.1 rfl ?_
          refine zW_iload (pc' := 217) dX12_findsWhite_6.2.2.2.2 rfl rfl ?_
          refine zW_idivQ (pc' := 218) ⟨by omega, by omega⟩ (by omega) dX12_findsWhite_7.1.1.1 rfl (fun v217 e217 => ?_)
          unfold rng at e217
          refine csI2 (pc' := 221) kX12_min vX12_min lk_X12_109 ⟨Nat.le_of_ble_eq_true rfl, Nat.le_of_ble_eq_true rfl⟩ rfl (s_X12_minR hF _ ⟨by omega, by omega⟩ _ ⟨by omega, by omega⟩) dX12_findsWhite_7.1.1.2 (Nat.le_of_ble_eq_true rfl) rfl ?_
          rintro r218 z218 ⟨hz218, p218⟩; subst z218
          refine csI2 (pc' := 224) kX12_max vX12_max lk_X12_113 ⟨Nat.le_of_ble_eq_true rfl, Nat.le_of_ble_eq_true rfl⟩ rfl (s_X12_maxR hF _ ⟨by omega, by omega⟩ _ ⟨by omega, by omega⟩) dX12_findsWhite_7.1.2 (Nat.le_of_ble_eq_true rfl) rfl ?_
          rintro r221 z221 ⟨hz221, p221⟩; subst z221
          refine zP_scf (pc' := 227) hF rfl fp_X12_304 tb0 rfl dX12_findsWhite_7.2.1 rfl (fun h i224 hF a224 b224 w224 => ?_)
          exact zV_vret rfl dX12_findsWhite_7.2.2 ⟨hF, trivial⟩
        · refine zW_sipush (pc' := 201) dX12_findsWhite_6.2.1.1.1 rfl rfl ?_
          refine zV_goto 224 dX12_findsWhite_6.2.1.1.2 rfl ?_
          refine zP_scf (pc' := 227) hF rfl fp_X12_304 tb0 rfl dX12_findsWhite_7.2.1 rfl (fun h i224 hF a224 b224 w224 => ?_)
          exact zV_vret rfl dX12_findsWhite_7.2.2 ⟨hF, trivial⟩
      · intro v3 v4 v5 v6 v7 h hF g0 g1 g2 g3 gc0 gc1 gc2 hm
        refine zW_iload (pc' := 30) dX12_findsWhite_1.1.1.1.2 rfl rfl ?_
        refine zW_aload_n (pc' := 31) dX12_findsWhite_1.1.1.2.1 rfl rfl ?_
        refine zG_key (pc' := 34) hF rfl fg_X12_99 tb0 rfl dX12_findsWhite_1.1.1.2.2 rfl ?_
        refine zV_cm_ge (tgt := 148) (pc' := 37) dX12_findsWhite_1.1.2.1.1 rfl rfl ⟨by omega, by omega⟩ ⟨by omega, by omega⟩ (fun c34 => ?_) (fun c34 => ?_)
        · refine zW_iinc (ls' := [_, _, _, _, _, _, _, _, _, _]) (pc' := 151) dX12_findsWhite_5.1.1.2.1 rfl (by decide) rfl rfl rfl ?_
          refine zV_goto 16 dX12_findsWhite_5.1.1.2.2 rfl ?_
          refine zV_clr 7 (ls' := [_, _, _, _, _, _, _, _, _, _]) rfl ?_
          exact k16 _ _ _ _ _ hF (by omega) (by omega) (by omega) (by omega) (by omega) (by omega)
        · refine zW_aload_n (pc' := 38) dX12_findsWhite_1.1.2.1.2 rfl rfl ?_
          refine zW_iload_n (pc' := 39) dX12_findsWhite_1.1.2.2.1 rfl rfl ?_
          refine zW_iload (pc' := 41) dX12_findsWhite_1.1.2.2.2 rfl rfl ?_
          refine zW_iload (pc' := 43) dX12_findsWhite_1.2.1.1.1 rfl rfl ?_
          refine cvI3 (pc' := 46) kX12_greatest vX12_greatest lk_X12_295 ⟨Nat.le_of_ble_eq_true rfl, Nat.le_of_ble_eq_true rfl⟩ tb0 vq12 rfl rfl (s_X12_greatestF hK hF _ ⟨by omega, by omega⟩ _ ⟨by omega, by omega, by omega⟩ _ ⟨by omega, by omega, by omega⟩) dX12_findsWhite_1.2.1.1.2 (Nat.le_of_ble_eq_true rfl) rfl ?_
          rintro r43 z43 ⟨hz43, p43⟩; subst z43
          refine zW_istore (ls' := [_, _, _, _, _, _, _, _, _, _]) (pc' := 48) dX12_findsWhite_1.2.1.2.1 (by decide) rfl rfl rfl ?_
          refine zW_aload_n (pc' := 49) dX12_findsWhite_1.2.1.2.2 rfl rfl ?_
          refine zW_iload_n (pc' := 50) dX12_findsWhite_1.2.2.1.1 rfl rfl ?_
          refine zW_iload (pc' := 52) dX12_findsWhite_1.2.2.1.2 rfl rfl ?_
          refine zW_iload (pc' := 54) dX12_findsWhite_1.2.2.2.1 rfl rfl ?_
          refine cvI3 (pc' := 57) kX12_smallest vX12_smallest lk_X12_298 ⟨Nat.le_of_ble_eq_true rfl, Nat.le_of_ble_eq_true rfl⟩ tb0 vq12 rfl rfl (s_X12_smallestF hK hF _ ⟨by omega, by omega⟩ _ ⟨by omega, by omega, by omega⟩ _ ⟨by omega, by omega, by omega⟩) dX12_findsWhite_1.2.2.2.2 (Nat.le_of_ble_eq_true rfl) rfl ?_
          rintro r54 z54 ⟨hz54, p54⟩; subst z54
          refine zW_istore (ls' := [_, _, _, _, _, _, _, _, _, _]) (pc' := 59) dX12_findsWhite_2.1.1.1.1 (by decide) rfl rfl rfl ?_
          refine zW_iload (pc' := 61) dX12_findsWhite_2.1.1.1.2 rfl rfl ?_
          refine zW_bipush (pc' := 63) dX12_findsWhite_2.1.1.2.1 rfl rfl ?_
          refine zV_cm_lt (tgt := 142) (pc' := 66) dX12_findsWhite_2.1.1.2.2 rfl rfl ⟨by omega, by omega⟩ ⟨by omega, by omega⟩ (fun c63 => ?_) (fun c63 => ?_)
          · refine zW_iinc (ls' := [_, _, _, _, _, _, _, _, _, _]) (pc' := 145) dX12_findsWhite_5.1.1.1.1 rfl (by decide) rfl rfl rfl ?_
            refine zV_goto 28 dX12_findsWhite_5.1.1.1.2 rfl ?_
            refine zV_clr 8 (ls' := [_, _, _, _, _, _, _, _, _, _]) rfl ?_
            refine zV_clr 9 (ls' := [_, _, _, _, _, _, _, _, _, _]) rfl ?_
            exact k28 _ _ _ _ _ _ hF (by omega) (by omega) (by omega) (by omega) (by omega) (by omega) (by omega) (by omega)
          · refine zW_iload (pc' := 68) dX12_findsWhite_2.1.2.1.1 rfl rfl ?_
            refine zW_sipush (pc' := 71) dX12_findsWhite_2.1.2.1.2 rfl rfl ?_
            refine zV_cm_gt (tgt := 142) (pc' := 74) dX12_findsWhite_2.1.2.2.1 rfl rfl ⟨by omega, by omega⟩ ⟨by omega, by omega⟩ (fun c71 => ?_) (fun c71 => ?_)
            · refine zW_iinc (ls' := [_, _, _, _, _, _, _, _, _, _]) (pc' := 145) dX12_findsWhite_5.1.1.1.1 rfl (by decide) rfl rfl rfl ?_
              refine zV_goto 28 dX12_findsWhite_5.1.1.1.2 rfl ?_
              refine zV_clr 8 (ls' := [_, _, _, _, _, _, _, _, _, _]) rfl ?_
              refine zV_clr 9 (ls' := [_, _, _, _, _, _, _, _, _, _]) rfl ?_
              exact k28 _ _ _ _ _ _ hF (by omega) (by omega) (by omega) (by omega) (by omega) (by omega) (by omega) (by omega)
            · refine zW_iload (pc' := 76) dX12_findsWhite_2.1.2.2.2 rfl rfl ?_
              refine zW_iload (pc' := 78) dX12_findsWhite_2.2.1.1.1 rfl rfl ?_
              refine zW_isub (pc' := 79) dX12_findsWhite_2.2.1.1.2 rfl ?_
              refine zW_bipush (pc' := 81) dX12_findsWhite_2.2.1.2.1 rfl rfl ?_
              refine zW_iload_n (pc' := 82) dX12_findsWhite_2.2.1.2.2 rfl rfl ?_
              refine zW_imul (pc' := 83) dX12_findsWhite_2.2.2.1.1 rfl ?_
              refine zV_cmQ_le (tgt := 89) (pc' := 86) dX12_findsWhite_2.2.2.1.2 rfl rfl ?_ ?_
              · refine zW_aload_n (pc' := 90) dX12_findsWhite_2.2.2.2.2 rfl rfl ?_
                refine zW_aload_n (pc' := 91) dX12_findsWhite_3.1.1.1.1 rfl rfl ?_
                refine zG_int (pc' := 94) fg_X12_292 tb0 rfl dX12_findsWhite_3.1.1.1.2 rfl ?_
                refine zW_iconst (pc' := 95) dX12_findsWhite_3.1.1.2.1 rfl ?_
                refine zW_iadd (pc' := 96) dX12_findsWhite_3.1.1.2.2 rfl ?_
                obtain ⟨y46, hy46⟩ : ∃ z : Int, z = h 0 46 := ⟨_, rfl⟩
                obtain ⟨y0, hy0⟩ : ∃ z : Int, z = lv κ h x1 0 v7 v6 := ⟨_, rfl⟩
                obtain ⟨y2, hy2⟩ : ∃ z : Int, z = lv κ h x1 2 v7 v6 := ⟨_, rfl⟩
                refine zP_scf (pc' := 99) hF rfl fp_X12_292 tb0 rfl dX12_findsWhite_3.1.2.1.1 rfl (fun h i96 hF a96 b96 w96 => ?_)
                have z96 : h 0 46 = y46 + 1 := by rw [w96, zwr_eq, b96 ⟨by omega, by omega⟩, hy46]
                have z0 : lv κ h x1 0 v7 v6 = y0 := by rw [w96, hy0]; exact lv_wr (by decide)
                have z2 : lv κ h x1 2 v7 v6 = y2 := by rw [w96, hy2]; exact lv_wr (by decide)
                refine zW_iload_n (pc' := 100) dX12_findsWhite_3.1.2.1.2 rfl rfl ?_
                refine zW_aload_n (pc' := 101) dX12_findsWhite_3.1.2.2.1 rfl rfl ?_
                refine zW_iload_n (pc' := 102) dX12_findsWhite_3.1.2.2.2 rfl rfl ?_
                refine zW_iconst (pc' := 103) dX12_findsWhite_3.2.1.1.1 rfl ?_
                refine zW_iload (pc' := 105) dX12_findsWhite_3.2.1.1.2 rfl rfl ?_
                refine zW_iload (pc' := 107) dX12_findsWhite_3.2.1.2.1 rfl rfl ?_
                refine cvI4 (pc' := 110) kX12_at vX12_at lk_X12_277 ⟨Nat.le_of_ble_eq_true rfl, Nat.le_of_ble_eq_true rfl⟩ tb0 vq12 rfl rfl (s_X12_atF hK hF _ ⟨by omega, by omega⟩ _ ⟨by omega, by omega⟩ _ ⟨by omega, by omega, by omega⟩ _ ⟨by omega, by omega, by omega⟩) dX12_findsWhite_3.2.1.2.2 (Nat.le_of_ble_eq_true rfl) rfl ?_
                rintro r107 z107 ⟨hz107, p107⟩; subst z107
                refine zW_iadd (pc' := 111) dX12_findsWhite_3.2.2.1.1 rfl ?_
                refine zW_istore_n (ls' := [_, _, _, _, _, _, _, _, _, _]) (pc' := 112) dX12_findsWhite_3.2.2.1.2 (by decide) rfl rfl rfl ?_
                refine zW_iload (pc' := 114) dX12_findsWhite_3.2.2.2.1 rfl rfl ?_
                refine zW_aload_n (pc' := 115) dX12_findsWhite_3.2.2.2.2 rfl rfl ?_
                refine zW_iload_n (pc' := 116) dX12_findsWhite_4.1.1.1.1 rfl rfl ?_
                refine zW_iconst (pc' := 117) dX12_findsWhite_4.1.1.1.2 rfl ?_
                refine zW_iload (pc' := 119) dX12_findsWhite_4.1.1.2.1 rfl rfl ?_
                refine zW_iload (pc' := 121) dX12_findsWhite_4.1.1.2.2 rfl rfl ?_
                refine cvI4 (pc' := 124) kX12_at vX12_at lk_X12_277 ⟨Nat.le_of_ble_eq_true rfl, Nat.le_of_ble_eq_true rfl⟩ tb0 vq12 rfl rfl (s_X12_atF hK hF _ ⟨by omega, by omega⟩ _ ⟨by omega, by omega⟩ _ ⟨by omega, by omega, by omega⟩ _ ⟨by omega, by omega, by omega⟩) dX12_findsWhite_4.1.2.1.1 (Nat.le_of_ble_eq_true rfl) rfl ?_
                rintro r121 z121 ⟨hz121, p121⟩; subst z121
                refine zW_iadd (pc' := 125) dX12_findsWhite_4.1.2.1.2 rfl ?_
                refine zW_istore (ls' := [_, _, _, _, _, _, _, _, _, _]) (pc' := 127) dX12_findsWhite_4.1.2.2.1 (by decide) rfl rfl rfl ?_
                refine zW_iload (pc' := 129) dX12_findsWhite_4.1.2.2.2 rfl rfl ?_
                refine zW_aload_n (pc' := 130) dX12_findsWhite_4.2.1.1.1 rfl rfl ?_
                refine zW_iload_n (pc' := 131) dX12_findsWhite_4.2.1.1.2 rfl rfl ?_
                refine zW_iconst (pc' := 132) dX12_findsWhite_4.2.1.2.1 rfl ?_
                refine zW_iload (pc' := 134) dX12_findsWhite_4.2.1.2.2 rfl rfl ?_
                refine zW_iload (pc' := 136) dX12_findsWhite_4.2.2.1.1 rfl rfl ?_
                refine cvI4 (pc' := 139) kX12_at vX12_at lk_X12_277 ⟨Nat.le_of_ble_eq_true rfl, Nat.le_of_ble_eq_true rfl⟩ tb0 vq12 rfl rfl (s_X12_atF hK hF _ ⟨by omega, by omega⟩ _ ⟨by omega, by omega⟩ _ ⟨by omega, by omega, by omega⟩ _ ⟨by omega, by omega, by omega⟩) dX12_findsWhite_4.2.2.1.2 (Nat.le_of_ble_eq_true rfl) rfl ?_
                rintro r136 z136 ⟨hz136, p136⟩; subst z136
                refine zW_iadd (pc' := 140) dX12_findsWhite_4.2.2.2.1 rfl ?_
                refine zW_istore (ls' := [_, _, _, _, _, _, _, _, _, _]) (pc' := 142) dX12_findsWhite_4.2.2.2.2 (by decide) rfl rfl rfl ?_
                refine zW_iinc (ls' := [_, _, _, _, _, _, _, _, _, _]) (pc' := 145) dX12_findsWhite_5.1.1.1.1 rfl (by decide) rfl rfl rfl ?_
                refine zV_goto 28 dX12_findsWhite_5.1.1.1.2 rfl ?_
                refine zV_clr 8 (ls' := [_, _, _, _, _, _, _, _, _, _]) rfl ?_
                refine zV_clr 9 (ls' := [_, _, _, _, _, _, _, _, _, _]) rfl ?_
                exact k28 _ _ _ _ _ _ hF (by omega) (by omega) (by omega) (by omega) (by omega) (by omega) (by omega) (by omega)
              · refine zV_goto 142 dX12_findsWhite_2.2.2.2.1 rfl ?_
                refine zW_iinc (ls' := [_, _, _, _, _, _, _, _, _, _]) (pc' := 145) dX12_findsWhite_5.1.1.1.1 rfl (by decide) rfl rfl rfl ?_
                refine zV_goto 28 dX12_findsWhite_5.1.1.1.2 rfl ?_
                refine zV_clr 8 (ls' := [_, _, _, _, _, _, _, _, _, _]) rfl ?_
                refine zV_clr 9 (ls' := [_, _, _, _, _, _, _, _, _, _]) rfl ?_
                exact k28 _ _ _ _ _ _ hF (by omega) (by omega) (by omega) (by omega) (by omega) (by omega) (by omega) (by omega)
  refine zM_of [some (.inr (.inr 0)), some (.inl x1), some (.inl x2), none, none, none, none, none, none, none] 7 rfl rfl (Nat.le_of_ble_eq_true rfl) rfl ?_
  refine zW_iconst (pc' := 1) dX12_findsWhite_0.1.1.1.1 rfl ?_
  refine zW_istore_n (ls' := [_, _, _, _, _, _, _, _, _, _]) (pc' := 2) dX12_findsWhite_0.1.1.1.2 (by decide) rfl rfl rfl ?_
  refine zW_iconst (pc' := 3) dX12_findsWhite_0.1.1.2.1 rfl ?_
  refine zW_istore (ls' := [_, _, _, _, _, _, _, _, _, _]) (pc' := 5) dX12_findsWhite_0.1.1.2.2 (by decide) rfl rfl rfl ?_
  refine zW_iconst (pc' := 6) dX12_findsWhite_0.1.2.1.1 rfl ?_
  refine zW_istore (ls' := [_, _, _, _, _, _, _, _, _, _]) (pc' := 8) dX12_findsWhite_0.1.2.1.2 (by decide) rfl rfl rfl ?_
  refine zW_aload_n (pc' := 9) dX12_findsWhite_0.1.2.2.1 rfl rfl ?_
  refine zW_iconst (pc' := 10) dX12_findsWhite_0.1.2.2.2 rfl ?_
  refine zP_scf (pc' := 13) hF rfl fp_X12_292 tb0 rfl dX12_findsWhite_0.2.1.1.1 rfl (fun h i10 hF a10 b10 w10 => ?_)
  have z10 : h 0 46 = 0 := by rw [w10, zwr_eq, b10 ⟨by omega, by omega⟩]
  refine zW_iconst (pc' := 14) dX12_findsWhite_0.2.1.1.2 rfl ?_
  refine zW_istore (ls' := [_, _, _, _, _, _, _, _, _, _]) (pc' := 16) dX12_findsWhite_0.2.1.2.1 (by decide) rfl rfl rfl ?_
  exact (main 10000000000000000000000000000000000000000).1 _ _ _ _ _ hF (by omega) (by omega) (by omega) (by omega) (by omega) (by omega)

abbrev q_X12_baseOf (κ h : Hp) (x1 : Int) (x2 : Int) (x3 : Int) (x4 : Int) : Int → Hp → Prop := fun r h' => h' = h ∧ (True)
theorem s_X12_baseOf {G : Ga} {b : Bd} {κ h : Hp} (hK : KR κ) (hF : Fr b κ h) (x1 : Int) (hx1 : 0 ≤ x1 ∧ x1 ≤ 14) (x2 : Int) (hx2 : 0 ≤ x2 ∧ x2 ≤ 15 ∧ x2 - κ 0 11 ≤ -1) (x3 : Int) (hx3 : 0 ≤ x3 ∧ x3 ≤ 15 ∧ x3 - κ 0 12 ≤ -1) (x4 : Int) (hx4 : 1 ≤ x4 ∧ x4 ≤ 4) : zM G mX12_baseOf yX12_baseOf [.inr (.inr 0), .inl x1, .inl x2, .inl x3, .inl x4] h (q_X12_baseOf κ h x1 x2 x3 x4) := by
  have : x4 = 1 ∨ x4 = 2 ∨ x4 = 3 ∨ x4 = 4 := by omega
  rcases this with rfl | rfl | rfl | rfl
  · exact s_X12_baseOfV1 hK hF x1 hx1 x2 hx2 x3 hx3 1 (by omega)
  · exact s_X12_baseOfV2 hK hF x1 hx1 x2 hx2 x3 hx3 2 (by omega)
  · exact s_X12_baseOfV3 hK hF x1 hx1 x2 hx2 x3 hx3 3 (by omega)
  · exact s_X12_baseOfV4 hK hF x1 hx1 x2 hx2 x3 hx3 4 (by omega)

abbrev q_X12_lateAt (κ h : Hp) (x1 : Int) (x2 : Int) (x3 : Int) (x4 : Int) (x5 : Int) (x6 : Int) (x7 : Int) : Int → Hp → Prop := fun r h' => h' = h ∧ (True)
set_option maxHeartbeats 4000000 in
set_option maxRecDepth 20000 in
theorem s_X12_lateAt {G : Ga} {b : Bd} {κ h : Hp} (hK : KR κ) (hF : Fr b.to κ h) (x1 : Int) (hx1 : rng x1) (x2 : Int) (hx2 : 0 ≤ x2 ∧ x2 ≤ 119) (x3 : Int) (hx3 : -120 ≤ x3 ∧ x3 ≤ 120) (x4 : Int) (hx4 : 0 ≤ x4 ∧ x4 ≤ 14) (x5 : Int) (hx5 : 0 ≤ x5 ∧ x5 ≤ 2) (x6 : Int) (hx6 : 0 ≤ x6 ∧ x6 ≤ 15 ∧ x6 - κ 0 11 ≤ -1) (x7 : Int) (hx7 : 0 ≤ x7 ∧ x7 ≤ 15 ∧ x7 - κ 0 12 ≤ -1) (hR : GivOK κ) (hp : x1 = 112 → 1 ≤ κ 23 x2.toNat ∧ κ 23 x2.toNat ≤ 4) (hc : x1 = 116 → 4 ≤ x3 ∧ x2 + x3 ≤ 120 ∧ ∀ i : Int, 0 ≤ i → x2 + 2 * i + 2 < x2 + x3 → 0 ≤ κ 23 (x2 + 2 * i).toNat ∧ κ 23 (x2 + 2 * i).toNat < κ 23 (x2 + 2 * i + 2).toNat ∧ κ 23 (x2 + 2 * i + 2).toNat ≤ 255) : zM G mX12_lateAt yX12_lateAt [.inr (.inr 0), .inl x1, .inl x2, .inl x3, .inl x4, .inl x5, .inl x6, .inl x7] h (q_X12_lateAt κ h x1 x2 x3 x4 x5 x6 x7) := by
  have f_0_11 := KRw hK
  have f_0_12 := KRh hK
  unfold rng at hx1
  refine zM_of [some (.inr (.inr 0)), some (.inl x1), some (.inl x2), some (.inl x3), some (.inl x4), some (.inl x5), some (.inl x6), some (.inl x7), none, none] 2 rfl rfl (Nat.le_of_ble_eq_true rfl) rfl ?_
  refine zW_aload_n (pc' := 1) dX12_lateAt_0.1.1.1.1 rfl rfl ?_
  refine zW_iload (pc' := 3) dX12_lateAt_0.1.1.1.2 rfl rfl ?_
  refine zW_iload (pc' := 5) dX12_lateAt_0.1.1.2.1 rfl rfl ?_
  refine zW_iload (pc' := 7) dX12_lateAt_0.1.1.2.2 rfl rfl ?_
  refine zW_iload (pc' := 9) dX12_lateAt_0.1.2.1.1 rfl rfl ?_
  refine cvI4 (pc' := 12) kX12_at vX12_at lk_X12_277 ⟨Nat.le_of_ble_eq_true rfl, Nat.le_of_ble_eq_true rfl⟩ tb0 vq12 rfl rfl (s_X12_at hK hF _ ⟨by omega, by omega⟩ _ ⟨by omega, by omega⟩ _ ⟨by omega, by omega, by omega⟩ _ ⟨by omega, by omega, by omega⟩) dX12_lateAt_0.1.2.1.2 (Nat.le_of_ble_eq_true rfl) rfl ?_
  rintro r9 z9 ⟨hz9, p9⟩; subst z9
  refine zW_istore (ls' := [_, _, _, _, _, _, _, _, _, _]) (pc' := 14) dX12_lateAt_0.1.2.2.1 (by decide) rfl rfl rfl ?_
  refine zW_aload_n (pc' := 15) dX12_lateAt_0.1.2.2.2 rfl rfl ?_
  refine zG_ref (pc' := 18) 23 fg_X12_78 tb0 rfl dX12_lateAt_0.2.1.1.1 rfl ?_
  refine zW_iload_n (pc' := 19) dX12_lateAt_0.2.1.1.2 rfl rfl ?_
  refine zA_givB (pc' := 20) hR hF (by omega) dX12_lateAt_0.2.1.2.1 rfl (fun e19 => ?_)
  refine zW_istore (ls' := [_, _, _, _, _, _, _, _, _, _]) (pc' := 22) dX12_lateAt_0.2.1.2.2 (by decide) rfl rfl rfl ?_
  refine zW_iload_n (pc' := 23) dX12_lateAt_0.2.2.1.1 rfl rfl ?_
  refine zW_tsw dX12_lateAt_0.2.2.1.2 (fun z => if z = 103 then 121 else if z = 104 then 168 else if z = 109 then 137 else if z = 110 then 249 else if z = 112 then 192 else if z = 116 then 183 else if z = 119 then 112 else if z = 121 then 225 else 272) ⟨by omega, by omega⟩ (tsw_ok (pc := 23) (lo := 103) (offs := #[98, 145, 249, 249, 249, 249, 114, 226, 249, 169, 249, 249, 249, 160, 249, 249, 89, 249, 202]) (tg := fun z => if z = 103 then 121 else if z = 104 then 168 else if z = 109 then 137 else if z = 110 then 249 else if z = 112 then 192 else if z = 116 then 183 else if z = 119 then 112 else if z = 121 then 225 else 272) (by decide +kernel)) rfl (td := 272) rfl (fun c23 => ?_) (fun c23 c23b => ?_)
  · refine zW_aload_n (pc' := 273) dX12_lateAt_6.2.2.2.2 rfl rfl ?_
    refine zW_iload (pc' := 275) dX12_lateAt_7.1.1.1.1 rfl rfl ?_
    refine zW_iload (pc' := 277) dX12_lateAt_7.1.1.1.2 rfl rfl ?_
    refine zW_iload (pc' := 279) dX12_lateAt_7.1.1.2.1 rfl rfl ?_
    refine zW_iload (pc' := 281) dX12_lateAt_7.1.1.2.2 rfl rfl ?_
    refine zW_iload (pc' := 283) dX12_lateAt_7.1.2.1.1 rfl rfl ?_
    refine zW_aload_n (pc' := 284) dX12_lateAt_7.1.2.1.2 rfl rfl ?_
    refine zG_ref (pc' := 287) 23 fg_X12_78 tb0 rfl dX12_lateAt_7.1.2.2 rfl ?_
    refine zW_iload_n (pc' := 288) dX12_lateAt_7.2.1.1.1 rfl rfl ?_
    refine zW_iconst (pc' := 289) dX12_lateAt_7.2.1.1.2 rfl ?_
    refine zW_iadd (pc' := 290) dX12_lateAt_7.2.1.2 rfl ?_
    refine zA_givB (pc' := 291) hR hF (by omega) dX12_lateAt_7.2.2.1.1 rfl (fun e290 => ?_)
    refine cvI6 (pc' := 294) kX12_sharpened vX12_sharpened lk_X12_341 ⟨Nat.le_of_ble_eq_true rfl, Nat.le_of_ble_eq_true rfl⟩ tb0 vq12 rfl rfl (s_X12_sharpened hK hF _ ⟨by omega, by omega⟩ _ ⟨by omega, by omega⟩ _ ⟨by omega, by omega, by omega⟩ _ ⟨by omega, by omega, by omega⟩ _ _) dX12_lateAt_7.2.2.1.2 (Nat.le_of_ble_eq_true rfl) rfl ?_
    rintro r291 z291 ⟨hz291, p291⟩; subst z291
    exact zV_iret rfl dX12_lateAt_7.2.2.2 ⟨rfl, trivial⟩
  · split
    · refine zW_iload (pc' := 123) dX12_lateAt_1.1.1.2.2 rfl rfl ?_
      refine zW_aload_n (pc' := 124) dX12_lateAt_1.1.2.1.1 rfl rfl ?_
      refine zG_ref (pc' := 127) 23 fg_X12_78 tb0 rfl dX12_lateAt_1.1.2.1.2 rfl ?_
      refine zW_iload_n (pc' := 128) dX12_lateAt_1.1.2.2.1 rfl rfl ?_
      refine zW_iload (pc' := 130) dX12_lateAt_1.1.2.2.2 rfl rfl ?_
      refine zW_iadd (pc' := 131) dX12_lateAt_1.2.1.1.1 rfl ?_
      refine zA_givB (pc' := 132) hR hF (by omega) dX12_lateAt_1.2.1.1.2 rfl (fun e131 => ?_)
      refine zW_imul (pc' := 133) dX12_lateAt_1.2.1.2.1 rfl ?_
      refine zW_bipush (pc' := 135) dX12_lateAt_1.2.1.2.2 rfl rfl ?_
      refine zW_idivQ (pc' := 136) ⟨by omega, by omega⟩ (by omega) dX12_lateAt_1.2.2.1.1 rfl (fun v135 e135 => ?_)
      unfold rng at e135
      exact zV_iret rfl dX12_lateAt_1.2.2.1.2 ⟨rfl, trivial⟩
    · split
      · refine zW_aload_n (pc' := 169) dX12_lateAt_3.1.1.1.1 rfl rfl ?_
        refine zW_iload (pc' := 171) dX12_lateAt_3.1.1.1.2 rfl rfl ?_
        refine zW_iload (pc' := 173) dX12_lateAt_3.1.1.2.1 rfl rfl ?_
        refine zW_iload (pc' := 175) dX12_lateAt_3.1.1.2.2 rfl rfl ?_
        refine zW_iload (pc' := 177) dX12_lateAt_3.1.2.1.1 rfl rfl ?_
        refine zW_iload (pc' := 179) dX12_lateAt_3.1.2.1.2 rfl rfl ?_
        refine cvI5 (pc' := 182) kX12_paled vX12_paled lk_X12_325 ⟨Nat.le_of_ble_eq_true rfl, Nat.le_of_ble_eq_true rfl⟩ tb0 vq12 rfl rfl (s_X12_paled hK hF _ ⟨by omega, by omega⟩ _ ⟨by omega, by omega⟩ _ ⟨by omega, by omega, by omega⟩ _ ⟨by omega, by omega, by omega⟩ _ ⟨by omega, by omega⟩) dX12_lateAt_3.1.2.2.1 (Nat.le_of_ble_eq_true rfl) rfl ?_
        rintro r179 z179 ⟨hz179, p179⟩; subst z179
        exact zV_iret rfl dX12_lateAt_3.1.2.2.2 ⟨rfl, trivial⟩
      · split
        · refine zW_aload_n (pc' := 138) dX12_lateAt_1.2.2.2.1 rfl rfl ?_
          refine zW_iload (pc' := 140) dX12_lateAt_1.2.2.2.2 rfl rfl ?_
          refine zW_iload (pc' := 142) dX12_lateAt_2.1.1.1.1 rfl rfl ?_
          refine zW_iload (pc' := 144) dX12_lateAt_2.1.1.1.2 rfl rfl ?_
          refine cvI3 (pc' := 147) kX12_lightAt vX12_lightAt lk_X12_307 ⟨Nat.le_of_ble_eq_true rfl, Nat.le_of_ble_eq_true rfl⟩ tb0 vq12 rfl rfl (s_X12_lightAt hK hF _ ⟨by omega, by omega⟩ _ ⟨by omega, by omega, by omega⟩ _ ⟨by omega, by omega, by omega⟩) dX12_lateAt_2.1.1.2.1 (Nat.le_of_ble_eq_true rfl) rfl ?_
          rintro r144 z144 ⟨hz144, p144⟩; subst z144
          refine zW_iload (pc' := 149) dX12_lateAt_2.1.1.2.2 rfl rfl ?_
          refine zW_aload_n (pc' := 150) dX12_lateAt_2.1.2.1.1 rfl rfl ?_
          refine zW_iload (pc' := 152) dX12_lateAt_2.1.2.1.2 rfl rfl ?_
          refine zW_iload (pc' := 154) dX12_lateAt_2.1.2.2.1 rfl rfl ?_
          refine zW_iload (pc' := 156) dX12_lateAt_2.1.2.2.2 rfl rfl ?_
          refine cvI3 (pc' := 159) kX12_lightAt vX12_lightAt lk_X12_307 ⟨Nat.le_of_ble_eq_true rfl, Nat.le_of_ble_eq_true rfl⟩ tb0 vq12 rfl rfl (s_X12_lightAt hK hF _ ⟨by omega, by omega⟩ _ ⟨by omega, by omega, by omega⟩ _ ⟨by omega, by omega, by omega⟩) dX12_lateAt_2.2.1.1.1 (Nat.le_of_ble_eq_true rfl) rfl ?_
          rintro r156 z156 ⟨hz156, p156⟩; subst z156
          refine zW_isub (pc' := 160) dX12_lateAt_2.2.1.1.2 rfl ?_
          refine zW_iload (pc' := 162) dX12_lateAt_2.2.1.2.1 rfl rfl ?_
          refine zW_imul (pc' := 163) dX12_lateAt_2.2.1.2.2 rfl ?_
          refine zW_bipush (pc' := 165) dX12_lateAt_2.2.2.1.1 rfl rfl ?_
          refine zW_idivQ (pc' := 166) ⟨by omega, by omega⟩ (by omega) dX12_lateAt_2.2.2.1.2 rfl (fun v165 e165 => ?_)
          unfold rng at e165
          refine zW_iadd (pc' := 167) dX12_lateAt_2.2.2.2.1 rfl ?_
          exact zV_iret rfl dX12_lateAt_2.2.2.2.2 ⟨rfl, trivial⟩
        · split
          · refine zW_aload_n (pc' := 250) dX12_lateAt_6.1.1.1.2 rfl rfl ?_
            refine zW_iload (pc' := 252) dX12_lateAt_6.1.1.2.1 rfl rfl ?_
            refine zW_iload (pc' := 254) dX12_lateAt_6.1.1.2.2 rfl rfl ?_
            refine zW_iload (pc' := 256) dX12_lateAt_6.1.2.1.1 rfl rfl ?_
            refine zW_iload (pc' := 258) dX12_lateAt_6.1.2.1.2 rfl rfl ?_
            refine zW_iload (pc' := 260) dX12_lateAt_6.1.2.2.1 rfl rfl ?_
            refine zW_aload_n (pc' := 261) dX12_lateAt_6.1.2.2.2 rfl rfl ?_
            refine zG_ref (pc' := 264) 23 fg_X12_78 tb0 rfl dX12_lateAt_6.2.1.1.1 rfl ?_
            refine zW_iload_n (pc' := 265) dX12_lateAt_6.2.1.1.2 rfl rfl ?_
            refine zW_iconst (pc' := 266) dX12_lateAt_6.2.1.2.1 rfl ?_
            refine zW_iadd (pc' := 267) dX12_lateAt_6.2.1.2.2 rfl ?_
            refine zA_givB (pc' := 268) hR hF (by omega) dX12_lateAt_6.2.2.1.1 rfl (fun e267 => ?_)
            refine cvI6 (pc' := 271) kX12_calmed vX12_calmed lk_X12_337 ⟨Nat.le_of_ble_eq_true rfl, Nat.le_of_ble_eq_true rfl⟩ tb0 vq12 rfl rfl (s_X12_calmed hK hF _ ⟨by omega, by omega⟩ _ ⟨by omega, by omega⟩ _ ⟨by omega, by omega, by omega⟩ _ ⟨by omega, by omega, by omega⟩ _ _) dX12_lateAt_6.2.2.1.2 (Nat.le_of_ble_eq_true rfl) rfl ?_
            rintro r268 z268 ⟨hz268, p268⟩; subst z268
            exact zV_iret rfl dX12_lateAt_6.2.2.2.1 ⟨rfl, trivial⟩
          · split
            · have hp1 := hp (by omega)
              refine zW_iload (pc' := 194) dX12_lateAt_3.2.2.2.1 rfl rfl ?_
              refine zW_aload_n (pc' := 195) dX12_lateAt_3.2.2.2.2 rfl rfl ?_
              refine zG_int (pc' := 198) fg_X12_310 tb0 rfl dX12_lateAt_4.1.1.1.1 rfl ?_
              refine zW_aload_n (pc' := 199) dX12_lateAt_4.1.1.1.2 rfl rfl ?_
              refine zW_iload (pc' := 201) dX12_lateAt_4.1.1.2.1 rfl rfl ?_
              refine zW_iload (pc' := 203) dX12_lateAt_4.1.1.2.2 rfl rfl ?_
              refine zW_iload (pc' := 205) dX12_lateAt_4.1.2.1.1 rfl rfl ?_
              refine zW_iload (pc' := 207) dX12_lateAt_4.1.2.1.2 rfl rfl ?_
              refine cvI4 (pc' := 210) kX12_baseOf vX12_baseOf lk_X12_331 ⟨Nat.le_of_ble_eq_true rfl, Nat.le_of_ble_eq_true rfl⟩ tb0 vq12 rfl rfl (s_X12_baseOf hK hF _ ⟨by omega, by omega⟩ _ ⟨by omega, by omega, by omega⟩ _ ⟨by omega, by omega, by omega⟩ _ ⟨by omega, by omega⟩) dX12_lateAt_4.1.2.2.1 (Nat.le_of_ble_eq_true rfl) rfl ?_
              rintro r207 z207 ⟨hz207, p207⟩; subst z207
              refine zW_isub (pc' := 211) dX12_lateAt_4.1.2.2.2 rfl ?_
              refine zW_aload_n (pc' := 212) dX12_lateAt_4.2.1.1.1 rfl rfl ?_
              refine zG_ref (pc' := 215) 23 fg_X12_78 tb0 rfl dX12_lateAt_4.2.1.1.2 rfl ?_
              refine zW_iload_n (pc' := 216) dX12_lateAt_4.2.1.2.1 rfl rfl ?_
              refine zW_iconst (pc' := 217) dX12_lateAt_4.2.1.2.2 rfl ?_
              refine zW_iadd (pc' := 218) dX12_lateAt_4.2.2.1.1 rfl ?_
              refine zA_givB (pc' := 219) hR hF (by omega) dX12_lateAt_4.2.2.1.2 rfl (fun e218 => ?_)
              refine zW_imul (pc' := 220) dX12_lateAt_4.2.2.2.1 rfl ?_
              refine zW_bipush (pc' := 222) dX12_lateAt_4.2.2.2.2 rfl rfl ?_
              refine zW_idivQ (pc' := 223) ⟨by omega, by omega⟩ (by omega) dX12_lateAt_5.1.1.1.1 rfl (fun v222 e222 => ?_)
              unfold rng at e222
              refine zW_iadd (pc' := 224) dX12_lateAt_5.1.1.1.2 rfl ?_
              exact zV_iret rfl dX12_lateAt_5.1.1.2.1 ⟨rfl, trivial⟩
            · split
              · obtain ⟨hc1, hc2, hc3⟩ := hc (by omega)
                refine zW_aload_n (pc' := 184) dX12_lateAt_3.2.1.1.1 rfl rfl ?_
                refine zW_iload (pc' := 186) dX12_lateAt_3.2.1.1.2 rfl rfl ?_
                refine zW_iload_n (pc' := 187) dX12_lateAt_3.2.1.2.1 rfl rfl ?_
                refine zW_iload_n (pc' := 188) dX12_lateAt_3.2.1.2.2 rfl rfl ?_
                refine cvI3 (pc' := 191) kX12_curved vX12_curved lk_X12_328 ⟨Nat.le_of_ble_eq_true rfl, Nat.le_of_ble_eq_true rfl⟩ tb0 vq12 rfl rfl (s_X12_curved hK hF _ _ ⟨by omega, by omega⟩ _ ⟨by omega, by omega⟩ (by omega) hc3) dX12_lateAt_3.2.2.1.1 (Nat.le_of_ble_eq_true rfl) rfl ?_
                rintro r188 z188 ⟨hz188, p188⟩; subst z188
                exact zV_iret rfl dX12_lateAt_3.2.2.1.2 ⟨rfl, trivial⟩
              · split
                · refine zW_aload_n (pc' := 113) dX12_lateAt_0.2.2.2.1 rfl rfl ?_
                  refine zW_iload (pc' := 115) dX12_lateAt_0.2.2.2.2 rfl rfl ?_
                  refine zW_iload (pc' := 117) dX12_lateAt_1.1.1.1.1 rfl rfl ?_
                  refine cvI2 (pc' := 120) kX12_gained vX12_gained lk_X12_322 ⟨Nat.le_of_ble_eq_true rfl, Nat.le_of_ble_eq_true rfl⟩ tb0 vq12 rfl rfl (s_X12_gained hK hF _ _) dX12_lateAt_1.1.1.1.2 (Nat.le_of_ble_eq_true rfl) rfl ?_
                  rintro r117 z117 ⟨hz117, p117⟩; subst z117
                  exact zV_iret rfl dX12_lateAt_1.1.1.2.1 ⟨rfl, trivial⟩
                · split
                  · refine zW_iload (pc' := 227) dX12_lateAt_5.1.1.2.2 rfl rfl ?_
                    refine zW_aload_n (pc' := 228) dX12_lateAt_5.1.2.1.1 rfl rfl ?_
                    refine zW_iload (pc' := 230) dX12_lateAt_5.1.2.1.2 rfl rfl ?_
                    refine zW_iload (pc' := 232) dX12_lateAt_5.1.2.2.1 rfl rfl ?_
                    refine zW_iload_n (pc' := 233) dX12_lateAt_5.1.2.2.2 rfl rfl ?_
                    refine cvI3 (pc' := 236) kX12_toneAt vX12_toneAt lk_X12_334 ⟨Nat.le_of_ble_eq_true rfl, Nat.le_of_ble_eq_true rfl⟩ tb0 vq12 rfl rfl (s_X12_toneAt hK hF _ ⟨by omega, by omega, by omega⟩ _ ⟨by omega, by omega, by omega⟩ _ ⟨by omega, by omega⟩) dX12_lateAt_5.2.1.1.1 (Nat.le_of_ble_eq_true rfl) rfl ?_
                    rintro r233 z233 ⟨hz233, p233⟩; subst z233
                    refine zW_iadd (pc' := 237) dX12_lateAt_5.2.1.1.2 rfl ?_
                    refine zW_aload_n (pc' := 238) dX12_lateAt_5.2.1.2.1 rfl rfl ?_
                    refine zW_iload (pc' := 240) dX12_lateAt_5.2.1.2.2 rfl rfl ?_
                    refine zW_iload (pc' := 242) dX12_lateAt_5.2.2.1.1 rfl rfl ?_
                    refine zW_iload (pc' := 244) dX12_lateAt_5.2.2.1.2 rfl rfl ?_
                    refine cvI3 (pc' := 247) kX12_lightAt vX12_lightAt lk_X12_307 ⟨Nat.le_of_ble_eq_true rfl, Nat.le_of_ble_eq_true rfl⟩ tb0 vq12 rfl rfl (s_X12_lightAt hK hF _ ⟨by omega, by omega⟩ _ ⟨by omega, by omega, by omega⟩ _ ⟨by omega, by omega, by omega⟩) dX12_lateAt_5.2.2.2.1 (Nat.le_of_ble_eq_true rfl) rfl ?_
                    rintro r244 z244 ⟨hz244, p244⟩; subst z244
                    refine zW_isub (pc' := 248) dX12_lateAt_5.2.2.2.2 rfl ?_
                    exact zV_iret rfl dX12_lateAt_6.1.1.1.1 ⟨rfl, trivial⟩
                  · refine zW_aload_n (pc' := 273) dX12_lateAt_6.2.2.2.2 rfl rfl ?_
                    refine zW_iload (pc' := 275) dX12_lateAt_7.1.1.1.1 rfl rfl ?_
                    refine zW_iload (pc' := 277) dX12_lateAt_7.1.1.1.2 rfl rfl ?_
                    refine zW_iload (pc' := 279) dX12_lateAt_7.1.1.2.1 rfl rfl ?_
                    refine zW_iload (pc' := 281) dX12_lateAt_7.1.1.2.2 rfl rfl ?_
                    refine zW_iload (pc' := 283) dX12_lateAt_7.1.2.1.1 rfl rfl ?_
                    refine zW_aload_n (pc' := 284) dX12_lateAt_7.1.2.1.2 rfl rfl ?_
                    refine zG_ref (pc' := 287) 23 fg_X12_78 tb0 rfl dX12_lateAt_7.1.2.2 rfl ?_
                    refine zW_iload_n (pc' := 288) dX12_lateAt_7.2.1.1.1 rfl rfl ?_
                    refine zW_iconst (pc' := 289) dX12_lateAt_7.2.1.1.2 rfl ?_
                    refine zW_iadd (pc' := 290) dX12_lateAt_7.2.1.2 rfl ?_
                    refine zA_givB (pc' := 291) hR hF (by omega) dX12_lateAt_7.2.2.1.1 rfl (fun e290 => ?_)
                    refine cvI6 (pc' := 294) kX12_sharpened vX12_sharpened lk_X12_341 ⟨Nat.le_of_ble_eq_true rfl, Nat.le_of_ble_eq_true rfl⟩ tb0 vq12 rfl rfl (s_X12_sharpened hK hF _ ⟨by omega, by omega⟩ _ ⟨by omega, by omega⟩ _ ⟨by omega, by omega, by omega⟩ _ ⟨by omega, by omega, by omega⟩ _ _) dX12_lateAt_7.2.2.1.2 (Nat.le_of_ble_eq_true rfl) rfl ?_
                    rintro r291 z291 ⟨hz291, p291⟩; subst z291
                    exact zV_iret rfl dX12_lateAt_7.2.2.2 ⟨rfl, trivial⟩

abbrev q_X12_late (b : Bd) (κ : Hp) (x1 : Int) (x2 : Int) (x3 : Int) (x4 : Int) (x5 : Int) : Int → Hp → Prop := fun r h' => Fr b κ h' ∧ (True)
set_option maxHeartbeats 4000000 in
set_option maxRecDepth 20000 in
theorem s_X12_late {G : Ga} {b : Bd} {κ h : Hp} (hK : KR κ) (hF : Fr b.to κ h) (x1 : Int) (hx1 : rng x1) (x2 : Int) (hx2 : 0 ≤ x2 ∧ x2 ≤ 119) (x3 : Int) (hx3 : -120 ≤ x3 ∧ x3 ≤ 120) (x4 : Int) (hx4 : 0 ≤ x4 ∧ x4 ≤ 14) (x5 : Int) (hx5 : 0 ≤ x5 ∧ x5 ≤ 14) (hJ : Ok17 b x5) (hR : GivOK κ) (hp : x1 = 112 → 1 ≤ κ 23 x2.toNat ∧ κ 23 x2.toNat ≤ 4) (hc : x1 = 116 → 4 ≤ x3 ∧ x2 + x3 ≤ 120 ∧ ∀ i : Int, 0 ≤ i → x2 + 2 * i + 2 < x2 + x3 → 0 ≤ κ 23 (x2 + 2 * i).toNat ∧ κ 23 (x2 + 2 * i).toNat < κ 23 (x2 + 2 * i + 2).toNat ∧ κ 23 (x2 + 2 * i + 2).toNat ≤ 255) : zM G mX12_late yX12_late [.inr (.inr 0), .inl x1, .inl x2, .inl x3, .inl x4, .inl x5] h (q_X12_late b.to κ x1 x2 x3 x4 x5) := by
  have f_0_11 := KRw hK
  have f_0_12 := KRh hK
  unfold rng at hx1
  have main : ∀ N : Nat, (∀ (h : Hp), Fr b.to κ h → 3036009600 < (N : Int) → zV G mX12_late (q_X12_late b.to κ x1 x2 x3 x4 x5) 18 [some (.inr (.inr 0)), some (.inl x1), some (.inl x2), some (.inl x3), some (.inl x4), some (.inl x5), none, none, none] [] h) ∧ (∀ (v6 : Int) (h : Hp), Fr b.to κ h → (0 ≤ v6 ∧ v6 ≤ 3) → 2234044800 + 11456640 * (3 - v6) + 11170224 < (N : Int) → zV G mX12_late (q_X12_late b.to κ x1 x2 x3 x4 x5) 45 [some (.inr (.inr 0)), some (.inl x1), some (.inl x2), some (.inl x3), some (.inl x4), some (.inl x5), some (.inl v6), none, none] [] h) ∧ (∀ (v6 v7 : Int) (h : Hp), Fr b.to κ h → (0 ≤ v6 ∧ v6 ≤ 2) → (0 ≤ v7 ∧ v7 ≤ 16) → (v7 - κ 0 12 ≤ 0) → 2234044800 + 11456640 * (3 - v6) + 9451728 + 15912 * (16 - v7) + 15444 < (N : Int) → zV G mX12_late (q_X12_late b.to κ x1 x2 x3 x4 x5) 54 [some (.inr (.inr 0)), some (.inl x1), some (.inl x2), some (.inl x3), some (.inl x4), some (.inl x5), some (.inl v6), some (.inl v7), none] [] h) ∧ (∀ (v6 v7 v8 : Int) (h : Hp), Fr b.to κ h → (0 ≤ v6 ∧ v6 ≤ 2) → (0 ≤ v7 ∧ v7 ≤ 15) → (v7 - κ 0 12 ≤ -1) → (0 ≤ v8 ∧ v8 ≤ 16) → (v8 - κ 0 11 ≤ 0) → 2234044800 + 11456640 * (3 - v6) + 9451728 + 15912 * (16 - v7) + 11700 + 26 * (16 - v8) + 25 < (N : Int) → zV G mX12_late (q_X12_late b.to κ x1 x2 x3 x4 x5) 66 [some (.inr (.inr 0)), some (.inl x1), some (.inl x2), some (.inl x3), some (.inl x4), some (.inl x5), some (.inl v6), some (.inl v7), some (.inl v8)] [] h) := by
    intro N
    induction N with
    | zero =>
      refine ⟨?_, ?_, ?_, ?_⟩
      · intro h hF hm
        exfalso; omega
      · intro v6 h hF g0 hm
        exfalso; omega
      · intro v6 v7 h hF g0 g1 g2 hm
        exfalso; omega
      · intro v6 v7 v8 h hF g0 g1 g2 g3 g4 hm
        exfalso; omega
    | succ N ih =>
      obtain ⟨k18, k45, k54, k66⟩ := ih
      refine ⟨?_, ?_, ?_, ?_⟩
      · intro h hF hm
        refine zW_iload_n (pc' := 19) dX12_late_0.2.1.2.1 rfl rfl ?_
        refine zW_bipush (pc' := 21) dX12_late_0.2.1.2.2 rfl rfl ?_
        refine zV_cm_ne (tgt := 30) (pc' := 24) dX12_late_0.2.2.1.1 rfl rfl ⟨by omega, by omega⟩ ⟨by omega, by omega⟩ (fun c21 => ?_) (fun c21 => ?_)
        · refine zW_iload_n (pc' := 31) dX12_late_1.1.1.1.1 rfl rfl ?_
          refine zW_bipush (pc' := 33) dX12_late_1.1.1.1.2 rfl rfl ?_
          refine zV_cm_ne (tgt := 42) (pc' := 36) dX12_late_1.1.1.2.1 rfl rfl ⟨by omega, by omega⟩ ⟨by omega, by omega⟩ (fun c33 => ?_) (fun c33 => ?_)
          · refine zW_iconst (pc' := 43) dX12_late_1.1.2.2.1 rfl ?_
            refine zW_istore (ls' := [_, _, _, _, _, _, _, _, _]) (pc' := 45) dX12_late_1.1.2.2.2 (by decide) rfl rfl rfl ?_
            exact k45 _ _ hF (by omega) (by omega)
          · refine zW_aload_n (pc' := 37) dX12_late_1.1.1.2.2 rfl rfl ?_
            refine zW_iload (pc' := 39) dX12_late_1.1.2.1.1 rfl rfl ?_
            refine cvV1 (pc' := 42) kX12_findsFloors vX12_findsFloors lk_X12_351 ⟨Nat.le_of_ble_eq_true rfl, Nat.le_of_ble_eq_true rfl⟩ tb0 vq12 rfl rfl (s_X12_findsFloors hK hF _ ⟨by omega, by omega⟩) dX12_late_1.1.2.1.2 (Nat.le_of_ble_eq_true rfl) rfl ?_
            rintro r39 h ⟨hF, p39⟩
            refine zW_iconst (pc' := 43) dX12_late_1.1.2.2.1 rfl ?_
            refine zW_istore (ls' := [_, _, _, _, _, _, _, _, _]) (pc' := 45) dX12_late_1.1.2.2.2 (by decide) rfl rfl rfl ?_
            exact k45 _ _ hF (by omega) (by omega)
        · refine zW_aload_n (pc' := 25) dX12_late_0.2.2.1.2 rfl rfl ?_
          refine zW_iload (pc' := 27) dX12_late_0.2.2.2.1 rfl rfl ?_
          refine cvV1 (pc' := 30) kX12_findsMean vX12_findsMean lk_X12_348 ⟨Nat.le_of_ble_eq_true rfl, Nat.le_of_ble_eq_true rfl⟩ tb0 vq12 rfl rfl (s_X12_findsMean hK hF _ ⟨by omega, by omega⟩) dX12_late_0.2.2.2.2 (Nat.le_of_ble_eq_true rfl) rfl ?_
          rintro r27 h ⟨hF, p27⟩
          refine zW_iload_n (pc' := 31) dX12_late_1.1.1.1.1 rfl rfl ?_
          refine zW_bipush (pc' := 33) dX12_late_1.1.1.1.2 rfl rfl ?_
          refine zV_cm_ne (tgt := 42) (pc' := 36) dX12_late_1.1.1.2.1 rfl rfl ⟨by omega, by omega⟩ ⟨by omega, by omega⟩ (fun c33 => ?_) (fun c33 => ?_)
          · refine zW_iconst (pc' := 43) dX12_late_1.1.2.2.1 rfl ?_
            refine zW_istore (ls' := [_, _, _, _, _, _, _, _, _]) (pc' := 45) dX12_late_1.1.2.2.2 (by decide) rfl rfl rfl ?_
            exact k45 _ _ hF (by omega) (by omega)
          · exfalso; omega
      · intro v6 h hF g0 hm
        refine zW_iload (pc' := 47) dX12_late_1.2.1.1.1 rfl rfl ?_
        refine zW_iconst (pc' := 48) dX12_late_1.2.1.1.2 rfl ?_
        refine zV_cm_ge (tgt := 123) (pc' := 51) dX12_late_1.2.1.2.1 rfl rfl ⟨by omega, by omega⟩ ⟨by omega, by omega⟩ (fun c48 => ?_) (fun c48 => ?_)
        · exact zV_vret rfl dX12_late_3.2.2.2 ⟨hF, trivial⟩
        · refine zW_iconst (pc' := 52) dX12_late_1.2.1.2.2 rfl ?_
          refine zW_istore (ls' := [_, _, _, _, _, _, _, _, _]) (pc' := 54) dX12_late_1.2.2.1.1 (by decide) rfl rfl rfl ?_
          exact k54 _ _ _ hF (by omega) (by omega) (by omega) (by omega)
      · intro v6 v7 h hF g0 g1 g2 hm
        refine zW_iload (pc' := 56) dX12_late_1.2.2.1.2 rfl rfl ?_
        refine zW_aload_n (pc' := 57) dX12_late_1.2.2.2.1 rfl rfl ?_
        refine zG_key (pc' := 60) hF rfl fg_X12_103 tb0 rfl dX12_late_1.2.2.2.2 rfl ?_
        refine zV_cm_ge (tgt := 117) (pc' := 63) dX12_late_2.1.1.1.1 rfl rfl ⟨by omega, by omega⟩ ⟨by omega, by omega⟩ (fun c60 => ?_) (fun c60 => ?_)
        · refine zW_iinc (ls' := [_, _, _, _, _, _, _, _, _]) (pc' := 120) dX12_late_3.2.2.1.1 rfl (by decide) rfl rfl rfl ?_
          refine zV_goto 45 dX12_late_3.2.2.1.2 rfl ?_
          refine zV_clr 7 (ls' := [_, _, _, _, _, _, _, _, _]) rfl ?_
          exact k45 _ _ hF (by omega) (by omega)
        · refine zW_iconst (pc' := 64) dX12_late_2.1.1.1.2 rfl ?_
          refine zW_istore (ls' := [_, _, _, _, _, _, _, _, _]) (pc' := 66) dX12_late_2.1.1.2.1 (by decide) rfl rfl rfl ?_
          exact k66 _ _ _ _ hF (by omega) (by omega) (by omega) (by omega) (by omega) (by omega)
      · intro v6 v7 v8 h hF g0 g1 g2 g3 g4 hm
        refine zW_iload (pc' := 68) dX12_late_2.1.1.2.2 rfl rfl ?_
        refine zW_aload_n (pc' := 69) dX12_late_2.1.2.1.1 rfl rfl ?_
        refine zG_key (pc' := 72) hF rfl fg_X12_99 tb0 rfl dX12_late_2.1.2.1.2 rfl ?_
        refine zV_cm_ge (tgt := 111) (pc' := 75) dX12_late_2.1.2.2.1 rfl rfl ⟨by omega, by omega⟩ ⟨by omega, by omega⟩ (fun c72 => ?_) (fun c72 => ?_)
        · refine zW_iinc (ls' := [_, _, _, _, _, _, _, _, _]) (pc' := 114) dX12_late_3.2.1.2.1 rfl (by decide) rfl rfl rfl ?_
          refine zV_goto 54 dX12_late_3.2.1.2.2 rfl ?_
          refine zV_clr 8 (ls' := [_, _, _, _, _, _, _, _, _]) rfl ?_
          exact k54 _ _ _ hF (by omega) (by omega) (by omega) (by omega)
        · refine zW_aload_n (pc' := 76) dX12_late_2.1.2.2.2 rfl rfl ?_
          refine zW_iload (pc' := 78) dX12_late_2.2.1.1.1 rfl rfl ?_
          refine zW_iload (pc' := 80) dX12_late_2.2.1.1.2 rfl rfl ?_
          refine zW_iload (pc' := 82) dX12_late_2.2.1.2.1 rfl rfl ?_
          refine zW_iload (pc' := 84) dX12_late_2.2.1.2.2 rfl rfl ?_
          refine zW_aload_n (pc' := 85) dX12_late_2.2.2.1.1 rfl rfl ?_
          refine zW_iload_n (pc' := 86) dX12_late_2.2.2.1.2 rfl rfl ?_
          refine zW_iload_n (pc' := 87) dX12_late_2.2.2.2.1 rfl rfl ?_
          refine zW_iload_n (pc' := 88) dX12_late_2.2.2.2.2 rfl rfl ?_
          refine zW_iload (pc' := 90) dX12_late_3.1.1.1.1 rfl rfl ?_
          refine zW_iload (pc' := 92) dX12_late_3.1.1.1.2 rfl rfl ?_
          refine zW_iload (pc' := 94) dX12_late_3.1.1.2.1 rfl rfl ?_
          refine zW_iload (pc' := 96) dX12_late_3.1.1.2.2 rfl rfl ?_
          refine cvI7 (pc' := 99) kX12_lateAt vX12_lateAt lk_X12_354 ⟨Nat.le_of_ble_eq_true rfl, Nat.le_of_ble_eq_true rfl⟩ tb0 vq12 rfl rfl (s_X12_lateAt hK hF _ ⟨by omega, by omega⟩ _ ⟨by omega, by omega⟩ _ ⟨by omega, by omega⟩ _ ⟨by omega, by omega⟩ _ ⟨by omega, by omega⟩ _ ⟨by omega, by omega, by omega⟩ _ ⟨by omega, by omega, by omega⟩ hR hp hc) dX12_late_3.1.2.1.1 (Nat.le_of_ble_eq_true rfl) rfl ?_
          rintro r96 z96 ⟨hz96, p96⟩; subst z96
          refine csI1 (pc' := 102) kX12_clipped vX12_clipped lk_X12_239 ⟨Nat.le_of_ble_eq_true rfl, Nat.le_of_ble_eq_true rfl⟩ rfl (s_X12_clipped hF _) dX12_late_3.1.2.1.2 (Nat.le_of_ble_eq_true rfl) rfl ?_
          rintro r99 z99 ⟨hz99, p99⟩; subst z99
          refine cvV5 (pc' := 105) kX12_lays vX12_lays lk_X12_242 ⟨Nat.le_of_ble_eq_true rfl, Nat.le_of_ble_eq_true rfl⟩ tb0 vq12 rfl rfl (s_X12_lays hK hF _ ⟨by omega, by omega⟩ _ ⟨by omega, by omega⟩ _ ⟨by omega, by omega, by omega⟩ _ ⟨by omega, by omega, by omega⟩ _ hJ) dX12_late_3.1.2.2 (Nat.le_of_ble_eq_true rfl) rfl ?_
          rintro r102 h ⟨hF, p102⟩
          refine zW_iinc (ls' := [_, _, _, _, _, _, _, _, _]) (pc' := 108) dX12_late_3.2.1.1.1 rfl (by decide) rfl rfl rfl ?_
          refine zV_goto 66 dX12_late_3.2.1.1.2 rfl ?_
          exact k66 _ _ _ _ hF (by omega) (by omega) (by omega) (by omega) (by omega) (by omega)
  refine zM_of [some (.inr (.inr 0)), some (.inl x1), some (.inl x2), some (.inl x3), some (.inl x4), some (.inl x5), none, none, none] 3 rfl rfl (Nat.le_of_ble_eq_true rfl) rfl ?_
  refine zW_iload_n (pc' := 1) dX12_late_0.1.1.1.1 rfl rfl ?_
  refine zW_bipush (pc' := 3) dX12_late_0.1.1.1.2 rfl rfl ?_
  refine zV_cm_ne (tgt := 18) (pc' := 6) dX12_late_0.1.1.2.1 rfl rfl ⟨by omega, by omega⟩ ⟨by omega, by omega⟩ (fun c3 => ?_) (fun c3 => ?_)
  · exact (main 10000000000000000000000000000000000000000).1 _ hF (by omega)
  · refine zW_aload_n (pc' := 7) dX12_late_0.1.1.2.2 rfl rfl ?_
    refine zW_iload (pc' := 9) dX12_late_0.1.2.1.1 rfl rfl ?_
    refine zW_aload_n (pc' := 10) dX12_late_0.1.2.1.2 rfl rfl ?_
    refine zG_ref (pc' := 13) 23 fg_X12_78 tb0 rfl dX12_late_0.1.2.2.1 rfl ?_
    refine zW_iload_n (pc' := 14) dX12_late_0.1.2.2.2 rfl rfl ?_
    refine zA_givB (pc' := 15) hR hF (by omega) dX12_late_0.2.1.1.1 rfl (fun e14 => ?_)
    refine cvV2 (pc' := 18) kX12_findsWhite vX12_findsWhite lk_X12_344 ⟨Nat.le_of_ble_eq_true rfl, Nat.le_of_ble_eq_true rfl⟩ tb0 vq12 rfl rfl (s_X12_findsWhite hK hF _ ⟨by omega, by omega⟩ _) dX12_late_0.2.1.1.2 (Nat.le_of_ble_eq_true rfl) rfl ?_
    rintro r15 h ⟨hF, p15⟩
    exact (main 10000000000000000000000000000000000000000).1 _ hF (by omega)
