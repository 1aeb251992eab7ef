/-! middle, dark -/

abbrev q_X12_isStageZ (κ h : Hp) (x1 : Int) : Int → Hp → Prop := fun r h' => h' = h ∧ ((0 ≤ r) ∧ (r ≤ 1) ∧ (r = 1 ↔ (1 ≤ x1 ∧ x1 ≤ κ 0 14)))
set_option maxHeartbeats 4000000 in
set_option maxRecDepth 20000 in
theorem s_X12_isStageZ {G : Ga} {b : Bd} {κ h : Hp} (hK : KR κ) (hF : Fr b κ h) (x1 : Int) (hx1 : rng x1) : zM G mX12_isStage yX12_isStage [.inr (.inr 0), .inl x1] h (q_X12_isStageZ κ h x1) := by
  have f_0_14 := KRm hK
  unfold rng at hx1
  refine zM_of [some (.inr (.inr 0)), some (.inl x1)] 0 rfl rfl (Nat.le_of_ble_eq_true rfl) rfl ?_
  refine zW_iload_n (pc' := 1) dX12_isStage_0.1.1.1 rfl rfl ?_
  refine zW_iconst (pc' := 2) dX12_isStage_0.1.1.2 rfl ?_
  refine zW_aload_n (pc' := 3) dX12_isStage_0.1.2 rfl rfl ?_
  refine zG_key (pc' := 6) hF rfl fg_X12_185 tb0 rfl dX12_isStage_0.2.1.1 rfl ?_
  refine csI3 (pc' := 9) kX12_in vX12_in lk_X12_140 ⟨Nat.le_of_ble_eq_true rfl, Nat.le_of_ble_eq_true rfl⟩ rfl (s_X12_inR hF _ ⟨by omega, by omega⟩ _ ⟨by omega, by omega⟩ _ ⟨by omega, by omega⟩) dX12_isStage_0.2.1.2 (Nat.le_of_ble_eq_true rfl) rfl ?_
  rintro r6 z6 ⟨hz6, p6⟩; subst z6
  exact zV_zret rfl (by omega) dX12_isStage_0.2.2 ⟨rfl, by omega⟩




