/-! the greatest over the squares -/



abbrev q_X7_isBehindFZ (κ h : Hp) (x1 : Int) : Int → Hp → Prop := fun r h' => h' = h ∧ ((0 ≤ r) ∧ (r ≤ 1) ∧ (r = bhI (LC κ) x1.toNat))
set_option maxHeartbeats 4000000 in
set_option maxRecDepth 20000 in
theorem s_X7_isBehindFZ {G : Ga} {b : Bd} {κ h : Hp} (hK : KC κ) (hF : Fr b κ h) (x1 : Int) (hx1 : 0 ≤ x1 ∧ x1 ≤ 12 ∧ x1 - κ 41 0 ≤ 0) (hfB : ∀ k : Nat, (k : Int) ≤ κ 41 0 → ((0 < κ 41 1 ∧ κ 41 1 ≤ (k : Int)) ↔ bhI (LC κ) k = 1)) : zM G mX7_isBehindF yX7_isBehindF [.inr (.inr 41), .inl x1] h (q_X7_isBehindFZ κ h x1) := by
  have f_41_0 := KCm hK
  have f_41_1 := KCf hK
  refine zM_of [some (.inr (.inr 41)), some (.inl x1)] 0 rfl rfl (Nat.le_of_ble_eq_true rfl) rfl ?_
  refine zW_aload_n (pc' := 1) dX7_isBehindF_0.1.1.1.1 rfl rfl ?_
  refine zG_key (pc' := 4) hF rfl fg_X7_25 tb41 rfl dX7_isBehindF_0.1.1.1.2 rfl ?_
  refine zV_if_le (tgt := 19) (pc' := 7) dX7_isBehindF_0.1.1.2 rfl rfl ⟨by omega, by omega⟩ (fun c4 => ?_) (fun c4 => ?_)
  · refine zW_iconst (pc' := 20) dX7_isBehindF_0.2.2.1 rfl ?_
    exact zV_zret rfl (by omega) dX7_isBehindF_0.2.2.2 ⟨rfl, (by have z := hfB x1.toNat (by omega); rw [show ((x1.toNat : Nat) : Int) = x1 by omega] at z; have c := bhI_c (LC κ) x1.toNat; omega)⟩
  · refine zW_iload_n (pc' := 8) dX7_isBehindF_0.1.2.1.1 rfl rfl ?_
    refine zW_aload_n (pc' := 9) dX7_isBehindF_0.1.2.1.2 rfl rfl ?_
    refine zG_key (pc' := 12) hF rfl fg_X7_25 tb41 rfl dX7_isBehindF_0.1.2.2 rfl ?_
    refine zV_cm_lt (tgt := 19) (pc' := 15) dX7_isBehindF_0.2.1.1.1 rfl rfl ⟨by omega, by omega⟩ ⟨by omega, by omega⟩ (fun c12 => ?_) (fun c12 => ?_)
    · refine zW_iconst (pc' := 20) dX7_isBehindF_0.2.2.1 rfl ?_
      exact zV_zret rfl (by omega) dX7_isBehindF_0.2.2.2 ⟨rfl, (by have z := hfB x1.toNat (by omega); rw [show ((x1.toNat : Nat) : Int) = x1 by omega] at z; have c := bhI_c (LC κ) x1.toNat; omega)⟩
    · refine zW_iconst (pc' := 16) dX7_isBehindF_0.2.1.1.2 rfl ?_
      refine zV_goto 20 dX7_isBehindF_0.2.1.2 rfl ?_
      exact zV_zret rfl (by omega) dX7_isBehindF_0.2.2.2 ⟨rfl, (by have z := hfB x1.toNat (by omega); rw [show ((x1.toNat : Nat) : Int) = x1 by omega] at z; have c := bhI_c (LC κ) x1.toNat; omega)⟩










