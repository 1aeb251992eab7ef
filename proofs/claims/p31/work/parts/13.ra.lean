abbrev q_X12_in (κ h : Hp) (x1 : Int) (x2 : Int) (x3 : Int) : Int → Hp → Prop := fun r h' => h' = h ∧ ((0 ≤ r) ∧ (r ≤ 1))
set_option maxHeartbeats 4000000 in
set_option maxRecDepth 20000 in
theorem s_X12_in {G : Ga} {b : Bd} {κ h : Hp} (hF : Fr b κ h) (x1 : Int) (x2 : Int) (x3 : Int) : zM G mX12_in yX12_in [.inl x1, .inl x2, .inl x3] h (q_X12_in κ h x1 x2 x3) := by
  refine zM_of [some (.inl x1), some (.inl x2), some (.inl x3)] 0 rfl rfl (Nat.le_of_ble_eq_true rfl) rfl ?_
  refine zW_iload_n (pc' := 1) dX12_in_0.1.1.1.1 rfl rfl ?_
  refine zW_iload_n (pc' := 2) dX12_in_0.1.1.1.2 rfl rfl ?_
  refine zV_cmQ_lt (tgt := 14) (pc' := 5) dX12_in_0.1.1.2 rfl rfl ?_ ?_
  · refine zW_iconst (pc' := 15) dX12_in_0.2.2.1 rfl ?_
    exact zV_zret rfl (by omega) dX12_in_0.2.2.2 ⟨rfl, by omega⟩
  · refine zW_iload_n (pc' := 6) dX12_in_0.1.2.1 rfl rfl ?_
    refine zW_iload_n (pc' := 7) dX12_in_0.1.2.2 rfl rfl ?_
    refine zV_cmQ_gt (tgt := 14) (pc' := 10) dX12_in_0.2.1.1.1 rfl rfl ?_ ?_
    · refine zW_iconst (pc' := 15) dX12_in_0.2.2.1 rfl ?_
      exact zV_zret rfl (by omega) dX12_in_0.2.2.2 ⟨rfl, by omega⟩
    · refine zW_iconst (pc' := 11) dX12_in_0.2.1.1.2 rfl ?_
      refine zV_goto 15 dX12_in_0.2.1.2 rfl ?_
      exact zV_zret rfl (by omega) dX12_in_0.2.2.2 ⟨rfl, by omega⟩

abbrev q_X12_inR (κ h : Hp) (x1 : Int) (x2 : Int) (x3 : Int) : Int → Hp → Prop := fun r h' => h' = h ∧ ((0 ≤ r) ∧ (r ≤ 1) ∧ ((r = 1 ∧ x2 ≤ x1 ∧ x1 ≤ x3) ∨ (r = 0 ∧ (x1 < x2 ∨ x3 < x1))))
set_option maxHeartbeats 4000000 in
set_option maxRecDepth 20000 in
theorem s_X12_inR {G : Ga} {b : Bd} {κ h : Hp} (hF : Fr b κ h) (x1 : Int) (hx1 : rng x1) (x2 : Int) (hx2 : rng x2) (x3 : Int) (hx3 : rng x3) : zM G mX12_in yX12_in [.inl x1, .inl x2, .inl x3] h (q_X12_inR κ h x1 x2 x3) := by
  unfold rng at hx1
  unfold rng at hx2
  unfold rng at hx3
  refine zM_of [some (.inl x1), some (.inl x2), some (.inl x3)] 0 rfl rfl (Nat.le_of_ble_eq_true rfl) rfl ?_
  refine zW_iload_n (pc' := 1) dX12_in_0.1.1.1.1 rfl rfl ?_
  refine zW_iload_n (pc' := 2) dX12_in_0.1.1.1.2 rfl rfl ?_
  refine zV_cm_lt (tgt := 14) (pc' := 5) dX12_in_0.1.1.2 rfl rfl ⟨by omega, by omega⟩ ⟨by omega, by omega⟩ (fun c2 => ?_) (fun c2 => ?_)
  · refine zW_iconst (pc' := 15) dX12_in_0.2.2.1 rfl ?_
    exact zV_zret rfl (by omega) dX12_in_0.2.2.2 ⟨rfl, by omega⟩
  · refine zW_iload_n (pc' := 6) dX12_in_0.1.2.1 rfl rfl ?_
    refine zW_iload_n (pc' := 7) dX12_in_0.1.2.2 rfl rfl ?_
    refine zV_cm_gt (tgt := 14) (pc' := 10) dX12_in_0.2.1.1.1 rfl rfl ⟨by omega, by omega⟩ ⟨by omega, by omega⟩ (fun c7 => ?_) (fun c7 => ?_)
    · refine zW_iconst (pc' := 15) dX12_in_0.2.2.1 rfl ?_
      exact zV_zret rfl (by omega) dX12_in_0.2.2.2 ⟨rfl, by omega⟩
    · refine zW_iconst (pc' := 11) dX12_in_0.2.1.1.2 rfl ?_
      refine zV_goto 15 dX12_in_0.2.1.2 rfl ?_
      exact zV_zret rfl (by omega) dX12_in_0.2.2.2 ⟨rfl, by omega⟩

abbrev q_X12_min (κ h : Hp) (x1 : Int) (x2 : Int) : Int → Hp → Prop := fun r h' => h' = h ∧ (True)
set_option maxHeartbeats 4000000 in
set_option maxRecDepth 20000 in
theorem s_X12_min {G : Ga} {b : Bd} {κ h : Hp} (hF : Fr b κ h) (x1 : Int) (x2 : Int) : zM G mX12_min yX12_min [.inl x1, .inl x2] h (q_X12_min κ h x1 x2) := by
  refine zM_of [some (.inl x1), some (.inl x2)] 0 rfl rfl (Nat.le_of_ble_eq_true rfl) rfl ?_
  refine zW_iload_n (pc' := 1) dX12_min_0.1.1.1 rfl rfl ?_
  refine zW_iload_n (pc' := 2) dX12_min_0.1.1.2 rfl rfl ?_
  refine zV_cmQ_ge (tgt := 9) (pc' := 5) dX12_min_0.1.2.1 rfl rfl ?_ ?_
  · refine zW_iload_n (pc' := 10) dX12_min_0.2.1.2 rfl rfl ?_
    exact zV_iret rfl dX12_min_0.2.2 ⟨rfl, trivial⟩
  · refine zW_iload_n (pc' := 6) dX12_min_0.1.2.2 rfl rfl ?_
    refine zV_goto 10 dX12_min_0.2.1.1 rfl ?_
    exact zV_iret rfl dX12_min_0.2.2 ⟨rfl, trivial⟩

abbrev q_X12_max (κ h : Hp) (x1 : Int) (x2 : Int) : Int → Hp → Prop := fun r h' => h' = h ∧ (True)
set_option maxHeartbeats 4000000 in
set_option maxRecDepth 20000 in
theorem s_X12_max {G : Ga} {b : Bd} {κ h : Hp} (hF : Fr b κ h) (x1 : Int) (x2 : Int) : zM G mX12_max yX12_max [.inl x1, .inl x2] h (q_X12_max κ h x1 x2) := by
  refine zM_of [some (.inl x1), some (.inl x2)] 0 rfl rfl (Nat.le_of_ble_eq_true rfl) rfl ?_
  refine zW_iload_n (pc' := 1) dX12_max_0.1.1.1 rfl rfl ?_
  refine zW_iload_n (pc' := 2) dX12_max_0.1.1.2 rfl rfl ?_
  refine zV_cmQ_le (tgt := 9) (pc' := 5) dX12_max_0.1.2.1 rfl rfl ?_ ?_
  · refine zW_iload_n (pc' := 10) dX12_max_0.2.1.2 rfl rfl ?_
    exact zV_iret rfl dX12_max_0.2.2 ⟨rfl, trivial⟩
  · refine zW_iload_n (pc' := 6) dX12_max_0.1.2.2 rfl rfl ?_
    refine zV_goto 10 dX12_max_0.2.1.1 rfl ?_
    exact zV_iret rfl dX12_max_0.2.2 ⟨rfl, trivial⟩

abbrev q_X12_minR (κ h : Hp) (x1 : Int) (x2 : Int) : Int → Hp → Prop := fun r h' => h' = h ∧ ((r ≤ x1 ∧ r ≤ x2 ∧ (r = x1 ∨ r = x2)))
set_option maxHeartbeats 4000000 in
set_option maxRecDepth 20000 in
theorem s_X12_minR {G : Ga} {b : Bd} {κ h : Hp} (hF : Fr b κ h) (x1 : Int) (hx1 : rng x1) (x2 : Int) (hx2 : rng x2) : zM G mX12_min yX12_min [.inl x1, .inl x2] h (q_X12_minR κ h x1 x2) := by
  unfold rng at hx1
  unfold rng at hx2
  refine zM_of [some (.inl x1), some (.inl x2)] 0 rfl rfl (Nat.le_of_ble_eq_true rfl) rfl ?_
  refine zW_iload_n (pc' := 1) dX12_min_0.1.1.1 rfl rfl ?_
  refine zW_iload_n (pc' := 2) dX12_min_0.1.1.2 rfl rfl ?_
  refine zV_cm_ge (tgt := 9) (pc' := 5) dX12_min_0.1.2.1 rfl rfl ⟨by omega, by omega⟩ ⟨by omega, by omega⟩ (fun c2 => ?_) (fun c2 => ?_)
  · refine zW_iload_n (pc' := 10) dX12_min_0.2.1.2 rfl rfl ?_
    exact zV_iret rfl dX12_min_0.2.2 ⟨rfl, by omega⟩
  · refine zW_iload_n (pc' := 6) dX12_min_0.1.2.2 rfl rfl ?_
    refine zV_goto 10 dX12_min_0.2.1.1 rfl ?_
    exact zV_iret rfl dX12_min_0.2.2 ⟨rfl, by omega⟩

abbrev q_X12_maxR (κ h : Hp) (x1 : Int) (x2 : Int) : Int → Hp → Prop := fun r h' => h' = h ∧ ((x1 ≤ r ∧ x2 ≤ r ∧ (r = x1 ∨ r = x2)))
set_option maxHeartbeats 4000000 in
set_option maxRecDepth 20000 in
theorem s_X12_maxR {G : Ga} {b : Bd} {κ h : Hp} (hF : Fr b κ h) (x1 : Int) (hx1 : rng x1) (x2 : Int) (hx2 : rng x2) : zM G mX12_max yX12_max [.inl x1, .inl x2] h (q_X12_maxR κ h x1 x2) := by
  unfold rng at hx1
  unfold rng at hx2
  refine zM_of [some (.inl x1), some (.inl x2)] 0 rfl rfl (Nat.le_of_ble_eq_true rfl) rfl ?_
  refine zW_iload_n (pc' := 1) dX12_max_0.1.1.1 rfl rfl ?_
  refine zW_iload_n (pc' := 2) dX12_max_0.1.1.2 rfl rfl ?_
  refine zV_cm_le (tgt := 9) (pc' := 5) dX12_max_0.1.2.1 rfl rfl ⟨by omega, by omega⟩ ⟨by omega, by omega⟩ (fun c2 => ?_) (fun c2 => ?_)
  · refine zW_iload_n (pc' := 10) dX12_max_0.2.1.2 rfl rfl ?_
    exact zV_iret rfl dX12_max_0.2.2 ⟨rfl, by omega⟩
  · refine zW_iload_n (pc' := 6) dX12_max_0.1.2.2 rfl rfl ?_
    refine zV_goto 10 dX12_max_0.2.1.1 rfl ?_
    exact zV_iret rfl dX12_max_0.2.2 ⟨rfl, by omega⟩

abbrev q_X12_size (κ h : Hp) (x1 : Int) : Int → Hp → Prop := fun r h' => h' = h ∧ (True)
set_option maxHeartbeats 4000000 in
set_option maxRecDepth 20000 in
theorem s_X12_size {G : Ga} {b : Bd} {κ h : Hp} (hF : Fr b κ h) (x1 : Int) : zM G mX12_size yX12_size [.inl x1] h (q_X12_size κ h x1) := by
  refine zM_of [some (.inl x1)] 0 rfl rfl (Nat.le_of_ble_eq_true rfl) rfl ?_
  refine zW_iload_n (pc' := 1) dX12_size_0.1.1.1 rfl rfl ?_
  refine zV_ifQ_ge (tgt := 9) (pc' := 4) dX12_size_0.1.1.2 rfl rfl ?_ ?_
  · refine zW_iload_n (pc' := 10) dX12_size_0.2.1.2 rfl rfl ?_
    exact zV_iret rfl dX12_size_0.2.2 ⟨rfl, trivial⟩
  · refine zW_iload_n (pc' := 5) dX12_size_0.1.2.1 rfl rfl ?_
    refine zW_ineg (pc' := 6) dX12_size_0.1.2.2 rfl ?_
    refine zV_goto 10 dX12_size_0.2.1.1 rfl ?_
    exact zV_iret rfl dX12_size_0.2.2 ⟨rfl, trivial⟩

abbrev q_X12_sizeR (κ h : Hp) (x1 : Int) : Int → Hp → Prop := fun r h' => h' = h ∧ (((r = x1 ∧ 0 ≤ x1) ∨ (r = -x1 ∧ x1 < 0)))
set_option maxHeartbeats 4000000 in
set_option maxRecDepth 20000 in
theorem s_X12_sizeR {G : Ga} {b : Bd} {κ h : Hp} (hF : Fr b κ h) (x1 : Int) (hx1 : rng x1) : zM G mX12_size yX12_size [.inl x1] h (q_X12_sizeR κ h x1) := by
  unfold rng at hx1
  refine zM_of [some (.inl x1)] 0 rfl rfl (Nat.le_of_ble_eq_true rfl) rfl ?_
  refine zW_iload_n (pc' := 1) dX12_size_0.1.1.1 rfl rfl ?_
  refine zV_if_ge (tgt := 9) (pc' := 4) dX12_size_0.1.1.2 rfl rfl ⟨by omega, by omega⟩ (fun c1 => ?_) (fun c1 => ?_)
  · refine zW_iload_n (pc' := 10) dX12_size_0.2.1.2 rfl rfl ?_
    exact zV_iret rfl dX12_size_0.2.2 ⟨rfl, by omega⟩
  · refine zW_iload_n (pc' := 5) dX12_size_0.1.2.1 rfl rfl ?_
    refine zW_ineg (pc' := 6) dX12_size_0.1.2.2 rfl ?_
    refine zV_goto 10 dX12_size_0.2.1.1 rfl ?_
    exact zV_iret rfl dX12_size_0.2.2 ⟨rfl, by omega⟩

abbrev q_X12_clipped (κ h : Hp) (x1 : Int) : Int → Hp → Prop := fun r h' => h' = h ∧ (True)
set_option maxHeartbeats 4000000 in
set_option maxRecDepth 20000 in
theorem s_X12_clipped {G : Ga} {b : Bd} {κ h : Hp} (hF : Fr b κ h) (x1 : Int) : zM G mX12_clipped yX12_clipped [.inl x1] h (q_X12_clipped κ h x1) := by
  refine zM_of [some (.inl x1)] 0 rfl rfl (Nat.le_of_ble_eq_true rfl) rfl ?_
  refine zW_iconst (pc' := 1) dX12_clipped_0.1.1.1 rfl ?_
  refine zW_sipush (pc' := 4) dX12_clipped_0.1.1.2 rfl rfl ?_
  refine zW_iload_n (pc' := 5) dX12_clipped_0.1.2 rfl rfl ?_
  refine csI2 (pc' := 8) kX12_min vX12_min lk_X12_109 ⟨Nat.le_of_ble_eq_true rfl, Nat.le_of_ble_eq_true rfl⟩ rfl (s_X12_min hF _ _) dX12_clipped_0.2.1.1 (Nat.le_of_ble_eq_true rfl) rfl ?_
  rintro r5 z5 ⟨hz5, p5⟩; subst z5
  refine csI2 (pc' := 11) kX12_max vX12_max lk_X12_113 ⟨Nat.le_of_ble_eq_true rfl, Nat.le_of_ble_eq_true rfl⟩ rfl (s_X12_max hF _ _) dX12_clipped_0.2.1.2 (Nat.le_of_ble_eq_true rfl) rfl ?_
  rintro r8 z8 ⟨hz8, p8⟩; subst z8
  exact zV_iret rfl dX12_clipped_0.2.2 ⟨rfl, trivial⟩

abbrev q_X12_isDigit (κ h : Hp) (x1 : Int) : Int → Hp → Prop := fun r h' => h' = h ∧ ((0 ≤ r) ∧ (r ≤ 1) ∧ ((r = 1 ∧ 48 ≤ x1 ∧ x1 ≤ 57) ∨ (r = 0 ∧ (x1 < 48 ∨ 57 < x1))))
set_option maxHeartbeats 4000000 in
set_option maxRecDepth 20000 in
theorem s_X12_isDigit {G : Ga} {b : Bd} {κ h : Hp} (hF : Fr b κ h) (x1 : Int) (hx1 : rng x1) : zM G mX12_isDigit yX12_isDigit [.inl x1] h (q_X12_isDigit κ h x1) := by
  unfold rng at hx1
  refine zM_of [some (.inl x1)] 0 rfl rfl (Nat.le_of_ble_eq_true rfl) rfl ?_
  refine zW_iload_n (pc' := 1) dX12_isDigit_0.1.1.1 rfl rfl ?_
  refine zW_bipush (pc' := 3) dX12_isDigit_0.1.1.2 rfl rfl ?_
  refine zW_bipush (pc' := 5) dX12_isDigit_0.1.2 rfl rfl ?_
  refine csI3 (pc' := 8) kX12_in vX12_in lk_X12_140 ⟨Nat.le_of_ble_eq_true rfl, Nat.le_of_ble_eq_true rfl⟩ rfl (s_X12_inR hF _ ⟨by omega, by omega⟩ _ ⟨by omega, by omega⟩ _ ⟨by omega, by omega⟩) dX12_isDigit_0.2.1 (Nat.le_of_ble_eq_true rfl) rfl ?_
  rintro r5 z5 ⟨hz5, p5⟩; subst z5
  exact zV_zret rfl (by omega) dX12_isDigit_0.2.2 ⟨rfl, by omega⟩

abbrev q_X12_isEarly (κ h : Hp) (x1 : Int) : Int → Hp → Prop := fun r h' => h' = h ∧ ((0 ≤ r) ∧ (r ≤ 1) ∧ (r = 1 ↔ (x1 = 98 ∨ x1 = 100 ∨ x1 = 111 ∨ x1 = 108 ∨ x1 = 102)))
set_option maxHeartbeats 4000000 in
set_option maxRecDepth 20000 in
theorem s_X12_isEarly {G : Ga} {b : Bd} {κ h : Hp} (hF : Fr b κ h) (x1 : Int) (hx1 : rng x1) : zM G mX12_isEarly yX12_isEarly [.inl x1] h (q_X12_isEarly κ h x1) := by
  unfold rng at hx1
  refine zM_of [some (.inl x1)] 0 rfl rfl (Nat.le_of_ble_eq_true rfl) rfl ?_
  refine zW_iload_n (pc' := 1) dX12_isEarly_0.1.1.1.1 rfl rfl ?_
  refine zW_bipush (pc' := 3) dX12_isEarly_0.1.1.1.2 rfl rfl ?_
  refine zV_cm_eq (tgt := 30) (pc' := 6) dX12_isEarly_0.1.1.2.1 rfl rfl ⟨by omega, by omega⟩ ⟨by omega, by omega⟩ (fun c3 => ?_) (fun c3 => ?_)
  · refine zW_iconst (pc' := 31) dX12_isEarly_0.2.2.2.2 rfl ?_
    refine zV_goto 35 dX12_isEarly_1.1.1 rfl ?_
    exact zV_zret rfl (by omega) dX12_isEarly_1.2 ⟨rfl, by omega⟩
  · refine zW_iload_n (pc' := 7) dX12_isEarly_0.1.1.2.2 rfl rfl ?_
    refine zW_bipush (pc' := 9) dX12_isEarly_0.1.2.1.1 rfl rfl ?_
    refine zV_cm_eq (tgt := 30) (pc' := 12) dX12_isEarly_0.1.2.1.2 rfl rfl ⟨by omega, by omega⟩ ⟨by omega, by omega⟩ (fun c9 => ?_) (fun c9 => ?_)
    · refine zW_iconst (pc' := 31) dX12_isEarly_0.2.2.2.2 rfl ?_
      refine zV_goto 35 dX12_isEarly_1.1.1 rfl ?_
      exact zV_zret rfl (by omega) dX12_isEarly_1.2 ⟨rfl, by omega⟩
    · refine zW_iload_n (pc' := 13) dX12_isEarly_0.1.2.2.1 rfl rfl ?_
      refine zW_bipush (pc' := 15) dX12_isEarly_0.1.2.2.2 rfl rfl ?_
      refine zV_cm_eq (tgt := 30) (pc' := 18) dX12_isEarly_0.2.1.1.1 rfl rfl ⟨by omega, by omega⟩ ⟨by omega, by omega⟩ (fun c15 => ?_) (fun c15 => ?_)
      · refine zW_iconst (pc' := 31) dX12_isEarly_0.2.2.2.2 rfl ?_
        refine zV_goto 35 dX12_isEarly_1.1.1 rfl ?_
        exact zV_zret rfl (by omega) dX12_isEarly_1.2 ⟨rfl, by omega⟩
      · refine zW_iload_n (pc' := 19) dX12_isEarly_0.2.1.1.2 rfl rfl ?_
        refine zW_bipush (pc' := 21) dX12_isEarly_0.2.1.2.1 rfl rfl ?_
        refine zV_cm_eq (tgt := 30) (pc' := 24) dX12_isEarly_0.2.1.2.2 rfl rfl ⟨by omega, by omega⟩ ⟨by omega, by omega⟩ (fun c21 => ?_) (fun c21 => ?_)
        · refine zW_iconst (pc' := 31) dX12_isEarly_0.2.2.2.2 rfl ?_
          refine zV_goto 35 dX12_isEarly_1.1.1 rfl ?_
          exact zV_zret rfl (by omega) dX12_isEarly_1.2 ⟨rfl, by omega⟩
        · refine zW_iload_n (pc' := 25) dX12_isEarly_0.2.2.1.1 rfl rfl ?_
          refine zW_bipush (pc' := 27) dX12_isEarly_0.2.2.1.2 rfl rfl ?_
          refine zV_cm_ne (tgt := 34) (pc' := 30) dX12_isEarly_0.2.2.2.1 rfl rfl ⟨by omega, by omega⟩ ⟨by omega, by omega⟩ (fun c27 => ?_) (fun c27 => ?_)
          · refine zW_iconst (pc' := 35) dX12_isEarly_1.1.2 rfl ?_
            exact zV_zret rfl (by omega) dX12_isEarly_1.2 ⟨rfl, by omega⟩
          · refine zW_iconst (pc' := 31) dX12_isEarly_0.2.2.2.2 rfl ?_
            refine zV_goto 35 dX12_isEarly_1.1.1 rfl ?_
            exact zV_zret rfl (by omega) dX12_isEarly_1.2 ⟨rfl, by omega⟩

abbrev q_X12_isLate (κ h : Hp) (x1 : Int) : Int → Hp → Prop := fun r h' => h' = h ∧ ((0 ≤ r) ∧ (r ≤ 1) ∧ (r = 1 ↔ (x1 = 118 ∨ x1 = 119 ∨ x1 = 104 ∨ x1 = 121 ∨ x1 = 103 ∨ x1 = 109 ∨ x1 = 112 ∨ x1 = 110 ∨ x1 = 115 ∨ x1 = 116)))
set_option maxHeartbeats 4000000 in
set_option maxRecDepth 20000 in
theorem s_X12_isLate {G : Ga} {b : Bd} {κ h : Hp} (hF : Fr b κ h) (x1 : Int) (hx1 : rng x1) : zM G mX12_isLate yX12_isLate [.inl x1] h (q_X12_isLate κ h x1) := by
  unfold rng at hx1
  refine zM_of [some (.inl x1)] 0 rfl rfl (Nat.le_of_ble_eq_true rfl) rfl ?_
  refine zW_iload_n (pc' := 1) dX12_isLate_0.1.1.1.1 rfl rfl ?_
  refine zW_bipush (pc' := 3) dX12_isLate_0.1.1.1.2 rfl rfl ?_
  refine zV_cm_eq (tgt := 60) (pc' := 6) dX12_isLate_0.1.1.2.1 rfl rfl ⟨by omega, by omega⟩ ⟨by omega, by omega⟩ (fun c3 => ?_) (fun c3 => ?_)
  · refine zW_iconst (pc' := 61) dX12_isLate_1.2.2.2.1 rfl ?_
    refine zV_goto 65 dX12_isLate_1.2.2.2.2 rfl ?_
    exact zV_zret rfl (by omega) dX12_isLate_2.2 ⟨rfl, by omega⟩
  · refine zW_iload_n (pc' := 7) dX12_isLate_0.1.1.2.2 rfl rfl ?_
    refine zW_bipush (pc' := 9) dX12_isLate_0.1.2.1.1 rfl rfl ?_
    refine zV_cm_eq (tgt := 60) (pc' := 12) dX12_isLate_0.1.2.1.2 rfl rfl ⟨by omega, by omega⟩ ⟨by omega, by omega⟩ (fun c9 => ?_) (fun c9 => ?_)
    · refine zW_iconst (pc' := 61) dX12_isLate_1.2.2.2.1 rfl ?_
      refine zV_goto 65 dX12_isLate_1.2.2.2.2 rfl ?_
      exact zV_zret rfl (by omega) dX12_isLate_2.2 ⟨rfl, by omega⟩
    · refine zW_iload_n (pc' := 13) dX12_isLate_0.1.2.2.1 rfl rfl ?_
      refine zW_bipush (pc' := 15) dX12_isLate_0.1.2.2.2 rfl rfl ?_
      refine zV_cm_eq (tgt := 60) (pc' := 18) dX12_isLate_0.2.1.1.1 rfl rfl ⟨by omega, by omega⟩ ⟨by omega, by omega⟩ (fun c15 => ?_) (fun c15 => ?_)
      · refine zW_iconst (pc' := 61) dX12_isLate_1.2.2.2.1 rfl ?_
        refine zV_goto 65 dX12_isLate_1.2.2.2.2 rfl ?_
        exact zV_zret rfl (by omega) dX12_isLate_2.2 ⟨rfl, by omega⟩
      · refine zW_iload_n (pc' := 19) dX12_isLate_0.2.1.1.2 rfl rfl ?_
        refine zW_bipush (pc' := 21) dX12_isLate_0.2.1.2.1 rfl rfl ?_
        refine zV_cm_eq (tgt := 60) (pc' := 24) dX12_isLate_0.2.1.2.2 rfl rfl ⟨by omega, by omega⟩ ⟨by omega, by omega⟩ (fun c21 => ?_) (fun c21 => ?_)
        · refine zW_iconst (pc' := 61) dX12_isLate_1.2.2.2.1 rfl ?_
          refine zV_goto 65 dX12_isLate_1.2.2.2.2 rfl ?_
          exact zV_zret rfl (by omega) dX12_isLate_2.2 ⟨rfl, by omega⟩
        · refine zW_iload_n (pc' := 25) dX12_isLate_0.2.2.1.1 rfl rfl ?_
          refine zW_bipush (pc' := 27) dX12_isLate_0.2.2.1.2 rfl rfl ?_
          refine zV_cm_eq (tgt := 60) (pc' := 30) dX12_isLate_0.2.2.2.1 rfl rfl ⟨by omega, by omega⟩ ⟨by omega, by omega⟩ (fun c27 => ?_) (fun c27 => ?_)
          · refine zW_iconst (pc' := 61) dX12_isLate_1.2.2.2.1 rfl ?_
            refine zV_goto 65 dX12_isLate_1.2.2.2.2 rfl ?_
            exact zV_zret rfl (by omega) dX12_isLate_2.2 ⟨rfl, by omega⟩
          · refine zW_iload_n (pc' := 31) dX12_isLate_0.2.2.2.2 rfl rfl ?_
            refine zW_bipush (pc' := 33) dX12_isLate_1.1.1.1.1 rfl rfl ?_
            refine zV_cm_eq (tgt := 60) (pc' := 36) dX12_isLate_1.1.1.1.2 rfl rfl ⟨by omega, by omega⟩ ⟨by omega, by omega⟩ (fun c33 => ?_) (fun c33 => ?_)
            · refine zW_iconst (pc' := 61) dX12_isLate_1.2.2.2.1 rfl ?_
              refine zV_goto 65 dX12_isLate_1.2.2.2.2 rfl ?_
              exact zV_zret rfl (by omega) dX12_isLate_2.2 ⟨rfl, by omega⟩
            · refine zW_iload_n (pc' := 37) dX12_isLate_1.1.1.2.1 rfl rfl ?_
              refine zW_bipush (pc' := 39) dX12_isLate_1.1.1.2.2 rfl rfl ?_
              refine zV_cm_eq (tgt := 60) (pc' := 42) dX12_isLate_1.1.2.1.1 rfl rfl ⟨by omega, by omega⟩ ⟨by omega, by omega⟩ (fun c39 => ?_) (fun c39 => ?_)
              · refine zW_iconst (pc' := 61) dX12_isLate_1.2.2.2.1 rfl ?_
                refine zV_goto 65 dX12_isLate_1.2.2.2.2 rfl ?_
                exact zV_zret rfl (by omega) dX12_isLate_2.2 ⟨rfl, by omega⟩
              · refine zW_iload_n (pc' := 43) dX12_isLate_1.1.2.1.2 rfl rfl ?_
                refine zW_bipush (pc' := 45) dX12_isLate_1.1.2.2.1 rfl rfl ?_
                refine zV_cm_eq (tgt := 60) (pc' := 48) dX12_isLate_1.1.2.2.2 rfl rfl ⟨by omega, by omega⟩ ⟨by omega, by omega⟩ (fun c45 => ?_) (fun c45 => ?_)
                · refine zW_iconst (pc' := 61) dX12_isLate_1.2.2.2.1 rfl ?_
                  refine zV_goto 65 dX12_isLate_1.2.2.2.2 rfl ?_
                  exact zV_zret rfl (by omega) dX12_isLate_2.2 ⟨rfl, by omega⟩
                · refine zW_iload_n (pc' := 49) dX12_isLate_1.2.1.1.1 rfl rfl ?_
                  refine zW_bipush (pc' := 51) dX12_isLate_1.2.1.1.2 rfl rfl ?_
                  refine zV_cm_eq (tgt := 60) (pc' := 54) dX12_isLate_1.2.1.2.1 rfl rfl ⟨by omega, by omega⟩ ⟨by omega, by omega⟩ (fun c51 => ?_) (fun c51 => ?_)
                  · refine zW_iconst (pc' := 61) dX12_isLate_1.2.2.2.1 rfl ?_
                    refine zV_goto 65 dX12_isLate_1.2.2.2.2 rfl ?_
                    exact zV_zret rfl (by omega) dX12_isLate_2.2 ⟨rfl, by omega⟩
                  · refine zW_iload_n (pc' := 55) dX12_isLate_1.2.1.2.2 rfl rfl ?_
                    refine zW_bipush (pc' := 57) dX12_isLate_1.2.2.1.1 rfl rfl ?_
                    refine zV_cm_ne (tgt := 64) (pc' := 60) dX12_isLate_1.2.2.1.2 rfl rfl ⟨by omega, by omega⟩ ⟨by omega, by omega⟩ (fun c57 => ?_) (fun c57 => ?_)
                    · refine zW_iconst (pc' := 65) dX12_isLate_2.1 rfl ?_
                      exact zV_zret rfl (by omega) dX12_isLate_2.2 ⟨rfl, by omega⟩
                    · refine zW_iconst (pc' := 61) dX12_isLate_1.2.2.2.1 rfl ?_
                      refine zV_goto 65 dX12_isLate_1.2.2.2.2 rfl ?_
                      exact zV_zret rfl (by omega) dX12_isLate_2.2 ⟨rfl, by omega⟩

abbrev q_X12_filler (κ h : Hp)  : Int → Hp → Prop := fun r h' => h' = h ∧ ((0 ≤ r) ∧ (r ≤ 12) ∧ (r - κ 0 14 ≤ 0) ∧ (r = FL κ))
set_option maxHeartbeats 4000000 in
set_option maxRecDepth 20000 in
theorem s_X12_filler {G : Ga} {b : Bd} {κ h : Hp} (hK : KR κ) (hF : Fr b κ h)  : zM G mX12_filler yX12_filler [.inr (.inr 0)] h (q_X12_filler κ h) := by
  have f_0_14 := KRm hK
  have fFL := FL_r hK
  have main : ∀ N : Nat, (∀ (v1 : Int) , (1 ≤ v1 ∧ v1 ≤ 13) → (v1 - κ 0 14 ≤ 1) → (FL κ = flr (κ 3) (κ 0 14 - v1 + 1).toNat v1.toNat) → 5320 + 20 * (13 - v1) + 19 < (N : Int) → zV G mX12_filler (q_X12_filler κ h) 2 [some (.inr (.inr 0)), some (.inl v1)] [] h) := by
    intro N
    induction N with
    | zero =>
      intro v1 g0 g1 gc0 hm
      exfalso; omega
    | succ N ih =>
      have k2 := ih
      intro v1 g0 g1 gc0 hm
      have gF := gc0
      refine zW_iload_n (pc' := 3) dX12_filler_0.1.1.2.1 rfl rfl ?_
      refine zW_aload_n (pc' := 4) dX12_filler_0.1.1.2.2 rfl rfl ?_
      refine zG_key (pc' := 7) hF rfl fg_X12_185 tb0 rfl dX12_filler_0.1.2.1.1 rfl ?_
      refine zV_cm_gt (tgt := 31) (pc' := 10) dX12_filler_0.1.2.1.2 rfl rfl ⟨by omega, by omega⟩ ⟨by omega, by omega⟩ (fun c7 => ?_) (fun c7 => ?_)
      · refine zW_iconst (pc' := 32) dX12_filler_1.2.1 rfl ?_
        exact zV_iret rfl dX12_filler_1.2.2 ⟨rfl, by rw [gF, flr_0 (by omega)]; exact ⟨by omega, by omega, by omega, rfl⟩⟩
      · refine zW_aload_n (pc' := 11) dX12_filler_0.1.2.2.1 rfl rfl ?_
        refine zG_ref (pc' := 14) 3 fg_X12_16 tb0 rfl dX12_filler_0.1.2.2.2 rfl ?_
        refine zW_iload_n (pc' := 15) dX12_filler_0.2.1.1.1 rfl rfl ?_
        refine zW_iconst (pc' := 16) dX12_filler_0.2.1.1.2 rfl ?_
        refine zW_isub (pc' := 17) dX12_filler_0.2.1.2.1 rfl ?_
        refine zA_keyI (pc' := 18) hF rfl (by decide) (by decide) tb3 (by omega) dX12_filler_0.2.1.2.2 (by decide) rfl (fun e17 => ?_)
        refine zW_bipush (pc' := 20) dX12_filler_0.2.2.1.1 rfl rfl ?_
        refine zV_cm_ne (tgt := 25) (pc' := 23) dX12_filler_0.2.2.1.2 rfl rfl ⟨by omega, by omega⟩ ⟨by omega, by omega⟩ (fun c20 => ?_) (fun c20 => ?_)
        · refine zW_iinc (ls' := [_, _]) (pc' := 28) dX12_filler_1.1.1 rfl (by decide) rfl rfl rfl ?_
          refine zV_goto 2 dX12_filler_1.1.2 rfl ?_
          exact k2 _ (by omega) (by omega) (by first | (unfold FL; congr 1; omega) | (rw [gF, flr_s (m := κ 0 14) (by omega) (by omega) rfl, if_neg c20])) (by omega)
        · refine zW_iload_n (pc' := 24) dX12_filler_0.2.2.2.1 rfl rfl ?_
          exact zV_iret rfl dX12_filler_0.2.2.2.2 ⟨rfl, by rw [gF, flr_s (m := κ 0 14) (by omega) (by omega) rfl, if_pos c20]; exact ⟨by omega, by omega, by omega, rfl⟩⟩
  refine zM_of [some (.inr (.inr 0)), none] 1 rfl rfl (Nat.le_of_ble_eq_true rfl) rfl ?_
  refine zW_iconst (pc' := 1) dX12_filler_0.1.1.1.1 rfl ?_
  refine zW_istore_n (ls' := [_, _]) (pc' := 2) dX12_filler_0.1.1.1.2 (by decide) rfl rfl rfl ?_
  exact (main 10000000000000000000000000000000000000000) _ (by omega) (by omega) (by first | (unfold FL; congr 1; omega) | (rw [gF, flr_s (m := κ 0 14) (by omega) (by omega) rfl, if_neg c20])) (by omega)

abbrev q_X12_isBehind (κ h : Hp) (x1 : Int) : Int → Hp → Prop := fun r h' => h' = h ∧ ((0 ≤ r) ∧ (r ≤ 1))
set_option maxHeartbeats 4000000 in
set_option maxRecDepth 20000 in
theorem s_X12_isBehind {G : Ga} {b : Bd} {κ h : Hp} (hK : KR κ) (hF : Fr b κ h) (x1 : Int) (hx1 : rng x1) : zM G mX12_isBehind yX12_isBehind [.inr (.inr 0), .inl x1] h (q_X12_isBehind κ h x1) := by
  have f_0_14 := KRm hK
  unfold rng at hx1
  refine zM_of [some (.inr (.inr 0)), some (.inl x1)] 0 rfl rfl (Nat.le_of_ble_eq_true rfl) rfl ?_
  refine zW_aload_n (pc' := 1) dX12_isBehind_0.1.1.1.1 rfl rfl ?_
  refine cvI0 (pc' := 4) kX12_filler vX12_filler lk_X12_196 ⟨Nat.le_of_ble_eq_true rfl, Nat.le_of_ble_eq_true rfl⟩ tb0 vq12 rfl rfl (s_X12_filler hK hF) dX12_isBehind_0.1.1.1.2 (Nat.le_of_ble_eq_true rfl) rfl ?_
  rintro r1 z1 ⟨hz1, p1⟩; subst z1
  refine zV_if_le (tgt := 19) (pc' := 7) dX12_isBehind_0.1.1.2 rfl rfl ⟨by omega, by omega⟩ (fun c4 => ?_) (fun c4 => ?_)
  · refine zW_iconst (pc' := 20) dX12_isBehind_0.2.2.1 rfl ?_
    exact zV_zret rfl (by omega) dX12_isBehind_0.2.2.2 ⟨rfl, by omega⟩
  · refine zW_iload_n (pc' := 8) dX12_isBehind_0.1.2.1.1 rfl rfl ?_
    refine zW_aload_n (pc' := 9) dX12_isBehind_0.1.2.1.2 rfl rfl ?_
    refine cvI0 (pc' := 12) kX12_filler vX12_filler lk_X12_196 ⟨Nat.le_of_ble_eq_true rfl, Nat.le_of_ble_eq_true rfl⟩ tb0 vq12 rfl rfl (s_X12_filler hK hF) dX12_isBehind_0.1.2.2 (Nat.le_of_ble_eq_true rfl) rfl ?_
    rintro r9 z9 ⟨hz9, p9⟩; subst z9
    refine zV_cm_lt (tgt := 19) (pc' := 15) dX12_isBehind_0.2.1.1.1 rfl rfl ⟨by omega, by omega⟩ ⟨by omega, by omega⟩ (fun c12 => ?_) (fun c12 => ?_)
    · refine zW_iconst (pc' := 20) dX12_isBehind_0.2.2.1 rfl ?_
      exact zV_zret rfl (by omega) dX12_isBehind_0.2.2.2 ⟨rfl, by omega⟩
    · refine zW_iconst (pc' := 16) dX12_isBehind_0.2.1.1.2 rfl ?_
      refine zV_goto 20 dX12_isBehind_0.2.1.2 rfl ?_
      exact zV_zret rfl (by omega) dX12_isBehind_0.2.2.2 ⟨rfl, by omega⟩

abbrev q_X12_isStage (κ h : Hp) (x1 : Int) : Int → Hp → Prop := fun r h' => h' = h ∧ ((0 ≤ r) ∧ (r ≤ 1) ∧ (r = 1 → 1 ≤ x1 ∧ x1 ≤ κ 0 14))
set_option maxHeartbeats 4000000 in
set_option maxRecDepth 20000 in
theorem s_X12_isStage {G : Ga} {b : Bd} {κ h : Hp} (hK : KR κ) (hF : Fr b κ h) (x1 : Int) (hx1 : rng x1) : zM G mX12_isStage yX12_isStage [.inr (.inr 0), .inl x1] h (q_X12_isStage κ h x1) := by
  have f_0_14 := KRm hK
  unfold rng at hx1
  refine zM_of [some (.inr (.inr 0)), some (.inl x1)] 0 rfl rfl (Nat.le_of_ble_eq_true rfl) rfl ?_
  refine zW_iload_n (pc' := 1) dX12_isStage_0.1.1.1 rfl rfl ?_
  refine zW_iconst (pc' := 2) dX12_isStage_0.1.1.2 rfl ?_
  refine zW_aload_n (pc' := 3) dX12_isStage_0.1.2 rfl rfl ?_
  refine zG_key (pc' := 6) hF rfl fg_X12_185 tb0 rfl dX12_isStage_0.2.1.1 rfl ?_
  refine csI3 (pc' := 9) kX12_in vX12_in lk_X12_140 ⟨Nat.le_of_ble_eq_true rfl, Nat.le_of_ble_eq_true rfl⟩ rfl (s_X12_inR hF _ ⟨by omega, by omega⟩ _ ⟨by omega, by omega⟩ _ ⟨by omega, by omega⟩) dX12_isStage_0.2.1.2 (Nat.le_of_ble_eq_true rfl) rfl ?_
  rintro r6 z6 ⟨hz6, p6⟩; subst z6
  exact zV_zret rfl (by omega) dX12_isStage_0.2.2 ⟨rfl, by omega⟩

abbrev q_X12_isRow (κ h : Hp) (x1 : Int) : Int → Hp → Prop := fun r h' => h' = h ∧ ((0 ≤ r) ∧ (r ≤ 1) ∧ (r = 1 → 0 ≤ x1 ∧ x1 ≤ κ 0 14))
set_option maxHeartbeats 4000000 in
set_option maxRecDepth 20000 in
theorem s_X12_isRow {G : Ga} {b : Bd} {κ h : Hp} (hK : KR κ) (hF : Fr b κ h) (x1 : Int) (hx1 : rng x1) : zM G mX12_isRow yX12_isRow [.inr (.inr 0), .inl x1] h (q_X12_isRow κ h x1) := by
  have f_0_14 := KRm hK
  unfold rng at hx1
  refine zM_of [some (.inr (.inr 0)), some (.inl x1)] 0 rfl rfl (Nat.le_of_ble_eq_true rfl) rfl ?_
  refine zW_iload_n (pc' := 1) dX12_isRow_0.1.1.1 rfl rfl ?_
  refine zW_iconst (pc' := 2) dX12_isRow_0.1.1.2 rfl ?_
  refine zW_aload_n (pc' := 3) dX12_isRow_0.1.2 rfl rfl ?_
  refine zG_key (pc' := 6) hF rfl fg_X12_185 tb0 rfl dX12_isRow_0.2.1.1 rfl ?_
  refine csI3 (pc' := 9) kX12_in vX12_in lk_X12_140 ⟨Nat.le_of_ble_eq_true rfl, Nat.le_of_ble_eq_true rfl⟩ rfl (s_X12_inR hF _ ⟨by omega, by omega⟩ _ ⟨by omega, by omega⟩ _ ⟨by omega, by omega⟩) dX12_isRow_0.2.1.2 (Nat.le_of_ble_eq_true rfl) rfl ?_
  rintro r6 z6 ⟨hz6, p6⟩; subst z6
  exact zV_zret rfl (by omega) dX12_isRow_0.2.2 ⟨rfl, by omega⟩

abbrev q_X12_numberOf (κ h : Hp) (x1 : Int) (x2 : Int) : Int → Hp → Prop := fun r h' => h' = h ∧ ((r = κ 5 (κ 4 (x1 - 1).toNat + x2).toNat))
set_option maxHeartbeats 4000000 in
set_option maxRecDepth 20000 in
theorem s_X12_numberOf {G : Ga} {b : Bd} {κ h : Hp} (hK : KR κ) (hF : Fr b κ h) (x1 : Int) (hx1 : 1 ≤ x1 ∧ x1 ≤ 12) (x2 : Int) (hx2 : 0 ≤ x2 ∧ x2 ≤ 3) : zM G mX12_numberOf yX12_numberOf [.inr (.inr 0), .inl x1, .inl x2] h (q_X12_numberOf κ h x1 x2) := by
  refine zM_of [some (.inr (.inr 0)), some (.inl x1), some (.inl x2)] 0 rfl rfl (Nat.le_of_ble_eq_true rfl) rfl ?_
  refine zW_aload_n (pc' := 1) dX12_numberOf_0.1.1.1.1 rfl rfl ?_
  refine zG_ref (pc' := 4) 5 fg_X12_22 tb0 rfl dX12_numberOf_0.1.1.1.2 rfl ?_
  refine zW_aload_n (pc' := 5) dX12_numberOf_0.1.1.2 rfl rfl ?_
  refine zG_ref (pc' := 8) 4 fg_X12_19 tb0 rfl dX12_numberOf_0.1.2.1.1 rfl ?_
  refine zW_iload_n (pc' := 9) dX12_numberOf_0.1.2.1.2 rfl rfl ?_
  refine zW_iconst (pc' := 10) dX12_numberOf_0.1.2.2 rfl ?_
  refine zW_isub (pc' := 11) dX12_numberOf_0.2.1.1.1 rfl ?_
  refine zA_keyB (KRna hK) (pc' := 12) hF rfl tb4 (by omega) dX12_numberOf_0.2.1.1.2 (by decide) rfl (fun e11 => ?_)
  refine zW_iload_n (pc' := 13) dX12_numberOf_0.2.1.2 rfl rfl ?_
  refine zW_iadd (pc' := 14) dX12_numberOf_0.2.2.1.1 rfl ?_
  refine zA_keyB (KRnu hK) (pc' := 15) hF rfl tb5 (by omega) dX12_numberOf_0.2.2.1.2 (by decide) rfl (fun e14 => ?_)
  exact zV_iret rfl dX12_numberOf_0.2.2.2 ⟨rfl, by omega⟩

abbrev q_X12_numberMany (κ h : Hp) (x1 : Int) : Int → Hp → Prop := fun r h' => h' = h ∧ ((-120 ≤ r) ∧ (r ≤ 120) ∧ (r = κ 4 x1.toNat - κ 4 (x1 - 1).toNat))
set_option maxHeartbeats 4000000 in
set_option maxRecDepth 20000 in
theorem s_X12_numberMany {G : Ga} {b : Bd} {κ h : Hp} (hK : KR κ) (hF : Fr b κ h) (x1 : Int) (hx1 : 1 ≤ x1 ∧ x1 ≤ 12) : zM G mX12_numberMany yX12_numberMany [.inr (.inr 0), .inl x1] h (q_X12_numberMany κ h x1) := by
  refine zM_of [some (.inr (.inr 0)), some (.inl x1)] 0 rfl rfl (Nat.le_of_ble_eq_true rfl) rfl ?_
  refine zW_aload_n (pc' := 1) dX12_numberMany_0.1.1.1.1 rfl rfl ?_
  refine zG_ref (pc' := 4) 4 fg_X12_19 tb0 rfl dX12_numberMany_0.1.1.1.2 rfl ?_
  refine zW_iload_n (pc' := 5) dX12_numberMany_0.1.1.2 rfl rfl ?_
  refine zA_keyB (KRna hK) (pc' := 6) hF rfl tb4 (by omega) dX12_numberMany_0.1.2.1.1 (by decide) rfl (fun e5 => ?_)
  refine zW_aload_n (pc' := 7) dX12_numberMany_0.1.2.1.2 rfl rfl ?_
  refine zG_ref (pc' := 10) 4 fg_X12_19 tb0 rfl dX12_numberMany_0.1.2.2 rfl ?_
  refine zW_iload_n (pc' := 11) dX12_numberMany_0.2.1.1.1 rfl rfl ?_
  refine zW_iconst (pc' := 12) dX12_numberMany_0.2.1.1.2 rfl ?_
  refine zW_isub (pc' := 13) dX12_numberMany_0.2.1.2 rfl ?_
  refine zA_keyB (KRna hK) (pc' := 14) hF rfl tb4 (by omega) dX12_numberMany_0.2.2.1.1 (by decide) rfl (fun e13 => ?_)
  refine zW_isub (pc' := 15) dX12_numberMany_0.2.2.1.2 rfl ?_
  exact zV_iret rfl dX12_numberMany_0.2.2.2 ⟨rfl, by omega⟩

abbrev q_X12_isSquare (κ h : Hp) (x1 : Int) (x2 : Int) : Int → Hp → Prop := fun r h' => h' = h ∧ ((0 ≤ r) ∧ (r ≤ 1) ∧ (r = 1 ↔ (0 ≤ x1 ∧ x1 < κ 0 11 ∧ 0 ≤ x2 ∧ x2 < κ 0 12)))
set_option maxHeartbeats 4000000 in
set_option maxRecDepth 20000 in
theorem s_X12_isSquare {G : Ga} {b : Bd} {κ h : Hp} (hK : KR κ) (hF : Fr b κ h) (x1 : Int) (hx1 : rng x1) (x2 : Int) (hx2 : rng x2) : zM G mX12_isSquare yX12_isSquare [.inr (.inr 0), .inl x1, .inl x2] h (q_X12_isSquare κ h x1 x2) := by
  have f_0_11 := KRw hK
  have f_0_12 := KRh hK
  unfold rng at hx1
  unfold rng at hx2
  refine zM_of [some (.inr (.inr 0)), some (.inl x1), some (.inl x2)] 0 rfl rfl (Nat.le_of_ble_eq_true rfl) rfl ?_
  refine zW_iload_n (pc' := 1) dX12_isSquare_0.1.1.1.1 rfl rfl ?_
  refine zW_iconst (pc' := 2) dX12_isSquare_0.1.1.1.2 rfl ?_
  refine zW_aload_n (pc' := 3) dX12_isSquare_0.1.1.2.1 rfl rfl ?_
  refine zG_key (pc' := 6) hF rfl fg_X12_99 tb0 rfl dX12_isSquare_0.1.1.2.2 rfl ?_
  refine zW_iconst (pc' := 7) dX12_isSquare_0.1.2.1.1 rfl ?_
  refine zW_isub (pc' := 8) dX12_isSquare_0.1.2.1.2 rfl ?_
  refine csI3 (pc' := 11) kX12_in vX12_in lk_X12_140 ⟨Nat.le_of_ble_eq_true rfl, Nat.le_of_ble_eq_true rfl⟩ rfl (s_X12_inR hF _ ⟨by omega, by omega⟩ _ ⟨by omega, by omega⟩ _ ⟨by omega, by omega⟩) dX12_isSquare_0.1.2.2.1 (Nat.le_of_ble_eq_true rfl) rfl ?_
  rintro r8 z8 ⟨hz8, p8⟩; subst z8
  refine zV_if_eq (tgt := 32) (pc' := 14) dX12_isSquare_0.1.2.2.2 rfl rfl ⟨by omega, by omega⟩ (fun c11 => ?_) (fun c11 => ?_)
  · refine zW_iconst (pc' := 33) dX12_isSquare_1.2.1 rfl ?_
    exact zV_zret rfl (by omega) dX12_isSquare_1.2.2 ⟨rfl, by omega⟩
  · refine zW_iload_n (pc' := 15) dX12_isSquare_0.2.1.1.1 rfl rfl ?_
    refine zW_iconst (pc' := 16) dX12_isSquare_0.2.1.1.2 rfl ?_
    refine zW_aload_n (pc' := 17) dX12_isSquare_0.2.1.2.1 rfl rfl ?_
    refine zG_key (pc' := 20) hF rfl fg_X12_103 tb0 rfl dX12_isSquare_0.2.1.2.2 rfl ?_
    refine zW_iconst (pc' := 21) dX12_isSquare_0.2.2.1.1 rfl ?_
    refine zW_isub (pc' := 22) dX12_isSquare_0.2.2.1.2 rfl ?_
    refine csI3 (pc' := 25) kX12_in vX12_in lk_X12_140 ⟨Nat.le_of_ble_eq_true rfl, Nat.le_of_ble_eq_true rfl⟩ rfl (s_X12_inR hF _ ⟨by omega, by omega⟩ _ ⟨by omega, by omega⟩ _ ⟨by omega, by omega⟩) dX12_isSquare_0.2.2.2.1 (Nat.le_of_ble_eq_true rfl) rfl ?_
    rintro r22 z22 ⟨hz22, p22⟩; subst z22
    refine zV_if_eq (tgt := 32) (pc' := 28) dX12_isSquare_0.2.2.2.2 rfl rfl ⟨by omega, by omega⟩ (fun c25 => ?_) (fun c25 => ?_)
    · refine zW_iconst (pc' := 33) dX12_isSquare_1.2.1 rfl ?_
      exact zV_zret rfl (by omega) dX12_isSquare_1.2.2 ⟨rfl, by omega⟩
    · refine zW_iconst (pc' := 29) dX12_isSquare_1.1.1 rfl ?_
      refine zV_goto 33 dX12_isSquare_1.1.2 rfl ?_
      exact zV_zret rfl (by omega) dX12_isSquare_1.2.2 ⟨rfl, by omega⟩

abbrev q_X12_colourAt (κ h : Hp) (x1 : Int) (x2 : Int) : Int → Hp → Prop := fun r h' => h' = h ∧ ((0 ≤ r) ∧ (r ≤ 2))
set_option maxHeartbeats 4000000 in
set_option maxRecDepth 20000 in
theorem s_X12_colourAt {G : Ga} {b : Bd} {κ h : Hp} (hK : KR κ) (hF : Fr b κ h) (x1 : Int) (hx1 : 0 ≤ x1 ∧ x1 ≤ 31) (x2 : Int) (hx2 : 0 ≤ x2 ∧ x2 ≤ 31) : zM G mX12_colourAt yX12_colourAt [.inr (.inr 0), .inl x1, .inl x2] h (q_X12_colourAt κ h x1 x2) := by
  have f_0_13 := KRp hK
  refine zM_of [some (.inr (.inr 0)), some (.inl x1), some (.inl x2), none, none] 2 rfl rfl (Nat.le_of_ble_eq_true rfl) rfl ?_
  refine zW_iload_n (pc' := 1) dX12_colourAt_0.1.1.1.1 rfl rfl ?_
  refine zW_aload_n (pc' := 2) dX12_colourAt_0.1.1.1.2 rfl rfl ?_
  refine zG_key (pc' := 5) hF rfl fg_X12_209 tb0 rfl dX12_colourAt_0.1.1.2.1 rfl ?_
  refine zW_iadd (pc' := 6) dX12_colourAt_0.1.1.2.2 rfl ?_
  refine zW_iconst (pc' := 7) dX12_colourAt_0.1.2.1.1 rfl ?_
  refine zW_irem (pc' := 8) (by omega) (by omega) dX12_colourAt_0.1.2.1.2 rfl ?_
  refine zW_istore_n (ls' := [_, _, _, _, _]) (pc' := 9) dX12_colourAt_0.1.2.2.1 (by decide) rfl rfl rfl ?_
  refine zW_iload_n (pc' := 10) dX12_colourAt_0.1.2.2.2 rfl rfl ?_
  refine zW_aload_n (pc' := 11) dX12_colourAt_0.2.1.1.1 rfl rfl ?_
  refine zG_key (pc' := 14) hF rfl fg_X12_209 tb0 rfl dX12_colourAt_0.2.1.1.2 rfl ?_
  refine zW_iconst (pc' := 15) dX12_colourAt_0.2.1.2.1 rfl ?_
  refine zW_idiv (pc' := 16) (by omega) (by omega) dX12_colourAt_0.2.1.2.2 rfl ?_
  refine zW_iadd (pc' := 17) dX12_colourAt_0.2.2.1.1 rfl ?_
  refine zW_iconst (pc' := 18) dX12_colourAt_0.2.2.1.2 rfl ?_
  refine zW_irem (pc' := 19) (by omega) (by omega) dX12_colourAt_0.2.2.2.1 rfl ?_
  refine zW_istore (ls' := [_, _, _, _, _]) (pc' := 21) dX12_colourAt_0.2.2.2.2 (by decide) rfl rfl rfl ?_
  refine zW_iload_n (pc' := 22) dX12_colourAt_1.1.1 rfl rfl ?_
  refine zW_iload (pc' := 24) dX12_colourAt_1.1.2 rfl rfl ?_
  refine zW_iadd (pc' := 25) dX12_colourAt_1.2.1 rfl ?_
  exact zV_iret rfl dX12_colourAt_1.2.2 ⟨rfl, by omega⟩

abbrev q_X12_mirrored (κ h : Hp) (x1 : Int) (x2 : Int) : Int → Hp → Prop := fun r h' => h' = h ∧ ((0 ≤ r) ∧ (r ≤ 15) ∧ (r ≤ x2 - 1))
set_option maxHeartbeats 4000000 in
set_option maxRecDepth 20000 in
theorem s_X12_mirrored {G : Ga} {b : Bd} {κ h : Hp} (hF : Fr b κ h) (x1 : Int) (hx1 : -2 ≤ x1 ∧ x1 ≤ 17) (x2 : Int) (hx2 : 4 ≤ x2 ∧ x2 ≤ 16) (hm : x1 ≤ x2 + 1) : zM G mX12_mirrored yX12_mirrored [.inl x1, .inl x2] h (q_X12_mirrored κ h x1 x2) := by
  refine zM_of [some (.inl x1), some (.inl x2)] 0 rfl rfl (Nat.le_of_ble_eq_true rfl) rfl ?_
  refine zW_iload_n (pc' := 1) dX12_mirrored_0.1.1.1.1 rfl rfl ?_
  refine zV_if_ge (tgt := 9) (pc' := 4) dX12_mirrored_0.1.1.1.2 rfl rfl ⟨by omega, by omega⟩ (fun c1 => ?_) (fun c1 => ?_)
  · refine zW_iload_n (pc' := 10) dX12_mirrored_0.1.2.1.2 rfl rfl ?_
    refine zW_iload_n (pc' := 11) dX12_mirrored_0.1.2.2.1 rfl rfl ?_
    refine zV_cm_lt (tgt := 24) (pc' := 14) dX12_mirrored_0.1.2.2.2 rfl rfl ⟨by omega, by omega⟩ ⟨by omega, by omega⟩ (fun c11 => ?_) (fun c11 => ?_)
    · refine zW_iload_n (pc' := 25) dX12_mirrored_1.1 rfl rfl ?_
      exact zV_iret rfl dX12_mirrored_1.2 ⟨rfl, by omega⟩
    · refine zW_iconst (pc' := 15) dX12_mirrored_0.2.1.1.1 rfl ?_
      refine zW_iload_n (pc' := 16) dX12_mirrored_0.2.1.1.2 rfl rfl ?_
      refine zW_imul (pc' := 17) dX12_mirrored_0.2.1.2.1 rfl ?_
      refine zW_iconst (pc' := 18) dX12_mirrored_0.2.1.2.2 rfl ?_
      refine zW_isub (pc' := 19) dX12_mirrored_0.2.2.1.1 rfl ?_
      refine zW_iload_n (pc' := 20) dX12_mirrored_0.2.2.1.2 rfl rfl ?_
      refine zW_isub (pc' := 21) dX12_mirrored_0.2.2.2.1 rfl ?_
      refine zV_goto 25 dX12_mirrored_0.2.2.2.2 rfl ?_
      exact zV_iret rfl dX12_mirrored_1.2 ⟨rfl, by omega⟩
  · refine zW_iload_n (pc' := 5) dX12_mirrored_0.1.1.2.1 rfl rfl ?_
    refine zW_ineg (pc' := 6) dX12_mirrored_0.1.1.2.2 rfl ?_
    refine zV_goto 25 dX12_mirrored_0.1.2.1.1 rfl ?_
    exact zV_iret rfl dX12_mirrored_1.2 ⟨rfl, by omega⟩

abbrev q_X12_at (κ h : Hp) (x1 : Int) (x2 : Int) (x3 : Int) (x4 : Int) : Int → Hp → Prop := fun r h' => h' = h ∧ (True)
set_option maxHeartbeats 4000000 in
set_option maxRecDepth 20000 in
theorem s_X12_at {G : Ga} {b : Bd} {κ h : Hp} (hK : KR κ) (hF : Fr b κ h) (x1 : Int) (hx1 : 0 ≤ x1 ∧ x1 ≤ 14) (x2 : Int) (hx2 : 0 ≤ x2 ∧ x2 ≤ 2) (x3 : Int) (hx3 : -2 ≤ x3 ∧ x3 ≤ 17 ∧ x3 - κ 0 11 ≤ 1) (x4 : Int) (hx4 : -2 ≤ x4 ∧ x4 ≤ 17 ∧ x4 - κ 0 12 ≤ 1) : zM G mX12_at yX12_at [.inr (.inr 0), .inl x1, .inl x2, .inl x3, .inl x4] h (q_X12_at κ h x1 x2 x3 x4) := by
  have f_0_11 := KRw hK
  have f_0_12 := KRh hK
  refine zM_of [some (.inr (.inr 0)), some (.inl x1), some (.inl x2), some (.inl x3), some (.inl x4)] 0 rfl rfl (Nat.le_of_ble_eq_true rfl) rfl ?_
  refine zW_aload_n (pc' := 1) dX12_at_0.1.1.1.1 rfl rfl ?_
  refine zG_ref (pc' := 4) 17 fg_X12_60 tb0 rfl dX12_at_0.1.1.1.2 rfl ?_
  refine zW_sipush (pc' := 7) dX12_at_0.1.1.2.1 rfl rfl ?_
  refine zW_iload_n (pc' := 8) dX12_at_0.1.1.2.2 rfl rfl ?_
  refine zW_imul (pc' := 9) dX12_at_0.1.2.1.1 rfl ?_
  refine zW_sipush (pc' := 12) dX12_at_0.1.2.1.2 rfl rfl ?_
  refine zW_iload_n (pc' := 13) dX12_at_0.1.2.2.1 rfl rfl ?_
  refine zW_imul (pc' := 14) dX12_at_0.1.2.2.2 rfl ?_
  refine zW_iadd (pc' := 15) dX12_at_0.2.1.1.1 rfl ?_
  refine zW_bipush (pc' := 17) dX12_at_0.2.1.1.2 rfl rfl ?_
  refine zW_iload (pc' := 19) dX12_at_0.2.1.2.1 rfl rfl ?_
  refine zW_aload_n (pc' := 20) dX12_at_0.2.1.2.2 rfl rfl ?_
  refine zG_key (pc' := 23) hF rfl fg_X12_103 tb0 rfl dX12_at_0.2.2.1.1 rfl ?_
  refine csI2 (pc' := 26) kX12_mirrored vX12_mirrored lk_X12_236 ⟨Nat.le_of_ble_eq_true rfl, Nat.le_of_ble_eq_true rfl⟩ rfl (s_X12_mirrored hF _ ⟨by omega, by omega⟩ _ ⟨by omega, by omega⟩ (by omega)) dX12_at_0.2.2.1.2 (Nat.le_of_ble_eq_true rfl) rfl ?_
  rintro r23 z23 ⟨hz23, p23⟩; subst z23
  refine zW_imul (pc' := 27) dX12_at_0.2.2.2.1 rfl ?_
  refine zW_iadd (pc' := 28) dX12_at_0.2.2.2.2 rfl ?_
  refine zW_iload_n (pc' := 29) dX12_at_1.1.1.1 rfl rfl ?_
  refine zW_aload_n (pc' := 30) dX12_at_1.1.1.2 rfl rfl ?_
  refine zG_key (pc' := 33) hF rfl fg_X12_99 tb0 rfl dX12_at_1.1.2.1 rfl ?_
  refine csI2 (pc' := 36) kX12_mirrored vX12_mirrored lk_X12_236 ⟨Nat.le_of_ble_eq_true rfl, Nat.le_of_ble_eq_true rfl⟩ rfl (s_X12_mirrored hF _ ⟨by omega, by omega⟩ _ ⟨by omega, by omega⟩ (by omega)) dX12_at_1.1.2.2 (Nat.le_of_ble_eq_true rfl) rfl ?_
  rintro r33 z33 ⟨hz33, p33⟩; subst z33
  refine zW_iadd (pc' := 37) dX12_at_1.2.1.1 rfl ?_
  refine zV_iald (pc' := 38) tb17 (by omega) dX12_at_1.2.1.2 (by decide) rfl ?_
  exact zV_iret rfl dX12_at_1.2.2 ⟨rfl, trivial⟩

abbrev q_X12_own (κ h : Hp) (x1 : Int) (x2 : Int) (x3 : Int) : Int → Hp → Prop := fun r h' => h' = h ∧ (True)
set_option maxHeartbeats 4000000 in
set_option maxRecDepth 20000 in
theorem s_X12_own {G : Ga} {b : Bd} {κ h : Hp} (hK : KR κ) (hF : Fr b κ h) (x1 : Int) (hx1 : 0 ≤ x1 ∧ x1 ≤ 14) (x2 : Int) (hx2 : -2 ≤ x2 ∧ x2 ≤ 17 ∧ x2 - κ 0 11 ≤ 1) (x3 : Int) (hx3 : -2 ≤ x3 ∧ x3 ≤ 17 ∧ x3 - κ 0 12 ≤ 1) : zM G mX12_own yX12_own [.inr (.inr 0), .inl x1, .inl x2, .inl x3] h (q_X12_own κ h x1 x2 x3) := by
  have f_0_11 := KRw hK
  have f_0_12 := KRh hK
  refine zM_of [some (.inr (.inr 0)), some (.inl x1), some (.inl x2), some (.inl x3), none, none] 2 rfl rfl (Nat.le_of_ble_eq_true rfl) rfl ?_
  refine zW_iload_n (pc' := 1) dX12_own_0.1.1.1.1 rfl rfl ?_
  refine zW_aload_n (pc' := 2) dX12_own_0.1.1.1.2 rfl rfl ?_
  refine zG_key (pc' := 5) hF rfl fg_X12_99 tb0 rfl dX12_own_0.1.1.2.1 rfl ?_
  refine csI2 (pc' := 8) kX12_mirrored vX12_mirrored lk_X12_236 ⟨Nat.le_of_ble_eq_true rfl, Nat.le_of_ble_eq_true rfl⟩ rfl (s_X12_mirrored hF _ ⟨by omega, by omega⟩ _ ⟨by omega, by omega⟩ (by omega)) dX12_own_0.1.1.2.2 (Nat.le_of_ble_eq_true rfl) rfl ?_
  rintro r5 z5 ⟨hz5, p5⟩; subst z5
  refine zW_istore (ls' := [_, _, _, _, _, _]) (pc' := 10) dX12_own_0.1.2.1.1 (by decide) rfl rfl rfl ?_
  refine zW_iload_n (pc' := 11) dX12_own_0.1.2.1.2 rfl rfl ?_
  refine zW_aload_n (pc' := 12) dX12_own_0.1.2.2.1 rfl rfl ?_
  refine zG_key (pc' := 15) hF rfl fg_X12_103 tb0 rfl dX12_own_0.1.2.2.2 rfl ?_
  refine csI2 (pc' := 18) kX12_mirrored vX12_mirrored lk_X12_236 ⟨Nat.le_of_ble_eq_true rfl, Nat.le_of_ble_eq_true rfl⟩ rfl (s_X12_mirrored hF _ ⟨by omega, by omega⟩ _ ⟨by omega, by omega⟩ (by omega)) dX12_own_0.2.1.1.1 (Nat.le_of_ble_eq_true rfl) rfl ?_
  rintro r15 z15 ⟨hz15, p15⟩; subst z15
  refine zW_istore (ls' := [_, _, _, _, _, _]) (pc' := 20) dX12_own_0.2.1.1.2 (by decide) rfl rfl rfl ?_
  refine zW_aload_n (pc' := 21) dX12_own_0.2.1.2.1 rfl rfl ?_
  refine zG_ref (pc' := 24) 17 fg_X12_60 tb0 rfl dX12_own_0.2.1.2.2 rfl ?_
  refine zW_sipush (pc' := 27) dX12_own_0.2.2.1.1 rfl rfl ?_
  refine zW_iload_n (pc' := 28) dX12_own_0.2.2.1.2 rfl rfl ?_
  refine zW_imul (pc' := 29) dX12_own_0.2.2.2.1 rfl ?_
  refine zW_sipush (pc' := 32) dX12_own_0.2.2.2.2 rfl rfl ?_
  refine zW_aload_n (pc' := 33) dX12_own_1.1.1.1.1 rfl rfl ?_
  refine zW_iload (pc' := 35) dX12_own_1.1.1.1.2 rfl rfl ?_
  refine zW_iload (pc' := 37) dX12_own_1.1.1.2.1 rfl rfl ?_
  refine cvI2 (pc' := 40) kX12_colourAt vX12_colourAt lk_X12_225 ⟨Nat.le_of_ble_eq_true rfl, Nat.le_of_ble_eq_true rfl⟩ tb0 vq12 rfl rfl (s_X12_colourAt hK hF _ ⟨by omega, by omega⟩ _ ⟨by omega, by omega⟩) dX12_own_1.1.1.2.2 (Nat.le_of_ble_eq_true rfl) rfl ?_
  rintro r37 z37 ⟨hz37, p37⟩; subst z37
  refine zW_imul (pc' := 41) dX12_own_1.1.2.1.1 rfl ?_
  refine zW_iadd (pc' := 42) dX12_own_1.1.2.1.2 rfl ?_
  refine zW_bipush (pc' := 44) dX12_own_1.1.2.2 rfl rfl ?_
  refine zW_iload (pc' := 46) dX12_own_1.2.1.1.1 rfl rfl ?_
  refine zW_imul (pc' := 47) dX12_own_1.2.1.1.2 rfl ?_
  refine zW_iadd (pc' := 48) dX12_own_1.2.1.2.1 rfl ?_
  refine zW_iload (pc' := 50) dX12_own_1.2.1.2.2 rfl rfl ?_
  refine zW_iadd (pc' := 51) dX12_own_1.2.2.1.1 rfl ?_
  refine zV_iald (pc' := 52) tb17 (by omega) dX12_own_1.2.2.1.2 (by decide) rfl ?_
  exact zV_iret rfl dX12_own_1.2.2.2 ⟨rfl, trivial⟩

abbrev q_X12_lays (b : Bd) (κ : Hp) (x1 : Int) (x2 : Int) (x3 : Int) (x4 : Int) (x5 : Int) : Int → Hp → Prop := fun r h' => Fr b κ h' ∧ (True)
set_option maxHeartbeats 4000000 in
set_option maxRecDepth 20000 in
theorem s_X12_lays {G : Ga} {b : Bd} {κ h : Hp} (hK : KR κ) (hF : Fr b κ h) (x1 : Int) (hx1 : 0 ≤ x1 ∧ x1 ≤ 14) (x2 : Int) (hx2 : 0 ≤ x2 ∧ x2 ≤ 2) (x3 : Int) (hx3 : 0 ≤ x3 ∧ x3 ≤ 15 ∧ x3 - κ 0 11 ≤ -1) (x4 : Int) (hx4 : 0 ≤ x4 ∧ x4 ≤ 15 ∧ x4 - κ 0 12 ≤ -1) (x5 : Int) (hJ : Ok17 b x1) : zM G mX12_lays yX12_lays [.inr (.inr 0), .inl x1, .inl x2, .inl x3, .inl x4, .inl x5] h (q_X12_lays b κ x1 x2 x3 x4 x5) := by
  have f_0_11 := KRw hK
  have f_0_12 := KRh hK
  refine zM_of [some (.inr (.inr 0)), some (.inl x1), some (.inl x2), some (.inl x3), some (.inl x4), some (.inl x5)] 0 rfl rfl (Nat.le_of_ble_eq_true rfl) rfl ?_
  refine zW_aload_n (pc' := 1) dX12_lays_0.1.1.1.1 rfl rfl ?_
  refine zG_ref (pc' := 4) 17 fg_X12_60 tb0 rfl dX12_lays_0.1.1.1.2 rfl ?_
  refine zW_sipush (pc' := 7) dX12_lays_0.1.1.2.1 rfl rfl ?_
  refine zW_iload_n (pc' := 8) dX12_lays_0.1.1.2.2 rfl rfl ?_
  refine zW_imul (pc' := 9) dX12_lays_0.1.2.1.1 rfl ?_
  refine zW_sipush (pc' := 12) dX12_lays_0.1.2.1.2 rfl rfl ?_
  refine zW_iload_n (pc' := 13) dX12_lays_0.1.2.2.1 rfl rfl ?_
  refine zW_imul (pc' := 14) dX12_lays_0.1.2.2.2 rfl ?_
  refine zW_iadd (pc' := 15) dX12_lays_0.2.1.1.1 rfl ?_
  refine zW_bipush (pc' := 17) dX12_lays_0.2.1.1.2 rfl rfl ?_
  refine zW_iload (pc' := 19) dX12_lays_0.2.1.2.1 rfl rfl ?_
  refine zW_imul (pc' := 20) dX12_lays_0.2.1.2.2 rfl ?_
  refine zW_iadd (pc' := 21) dX12_lays_0.2.2.1.1 rfl ?_
  refine zW_iload_n (pc' := 22) dX12_lays_0.2.2.1.2 rfl rfl ?_
  refine zW_iadd (pc' := 23) dX12_lays_0.2.2.2.1 rfl ?_
  refine zW_iload (pc' := 25) dX12_lays_0.2.2.2.2 rfl rfl ?_
  refine zS_17 (pc' := 26) hF hJ (by omega) (by omega) dX12_lays_1.1 rfl (fun h i25 hF a25 b25 w25 => ?_)
  exact zV_vret rfl dX12_lays_1.2 ⟨hF, trivial⟩

abbrev q_X12_laysOwn (b : Bd) (κ : Hp) (x1 : Int) (x2 : Int) (x3 : Int) (x4 : Int) : Int → Hp → Prop := fun r h' => Fr b κ h' ∧ (True)
set_option maxHeartbeats 4000000 in
set_option maxRecDepth 20000 in
theorem s_X12_laysOwn {G : Ga} {b : Bd} {κ h : Hp} (hK : KR κ) (hF : Fr b κ h) (x1 : Int) (hx1 : 0 ≤ x1 ∧ x1 ≤ 14) (x2 : Int) (hx2 : 0 ≤ x2 ∧ x2 ≤ 15 ∧ x2 - κ 0 11 ≤ -1) (x3 : Int) (hx3 : 0 ≤ x3 ∧ x3 ≤ 15 ∧ x3 - κ 0 12 ≤ -1) (x4 : Int) (hJ : Ok17 b x1) : zM G mX12_laysOwn yX12_laysOwn [.inr (.inr 0), .inl x1, .inl x2, .inl x3, .inl x4] h (q_X12_laysOwn b κ x1 x2 x3 x4) := by
  have f_0_11 := KRw hK
  have f_0_12 := KRh hK
  refine zM_of [some (.inr (.inr 0)), some (.inl x1), some (.inl x2), some (.inl x3), some (.inl x4)] 0 rfl rfl (Nat.le_of_ble_eq_true rfl) rfl ?_
  refine zW_aload_n (pc' := 1) dX12_laysOwn_0.1.1.1.1 rfl rfl ?_
  refine zW_iload_n (pc' := 2) dX12_laysOwn_0.1.1.1.2 rfl rfl ?_
  refine zW_aload_n (pc' := 3) dX12_laysOwn_0.1.1.2 rfl rfl ?_
  refine zW_iload_n (pc' := 4) dX12_laysOwn_0.1.2.1.1 rfl rfl ?_
  refine zW_iload_n (pc' := 5) dX12_laysOwn_0.1.2.1.2 rfl rfl ?_
  refine cvI2 (pc' := 8) kX12_colourAt vX12_colourAt lk_X12_225 ⟨Nat.le_of_ble_eq_true rfl, Nat.le_of_ble_eq_true rfl⟩ tb0 vq12 rfl rfl (s_X12_colourAt hK hF _ ⟨by omega, by omega⟩ _ ⟨by omega, by omega⟩) dX12_laysOwn_0.1.2.2 (Nat.le_of_ble_eq_true rfl) rfl ?_
  rintro r5 z5 ⟨hz5, p5⟩; subst z5
  refine zW_iload_n (pc' := 9) dX12_laysOwn_0.2.1.1.1 rfl rfl ?_
  refine zW_iload_n (pc' := 10) dX12_laysOwn_0.2.1.1.2 rfl rfl ?_
  refine zW_iload (pc' := 12) dX12_laysOwn_0.2.1.2 rfl rfl ?_
  refine csI1 (pc' := 15) kX12_clipped vX12_clipped lk_X12_239 ⟨Nat.le_of_ble_eq_true rfl, Nat.le_of_ble_eq_true rfl⟩ rfl (s_X12_clipped hF _) dX12_laysOwn_0.2.2.1.1 (Nat.le_of_ble_eq_true rfl) rfl ?_
  rintro r12 z12 ⟨hz12, p12⟩; subst z12
  refine cvV5 (pc' := 18) kX12_lays vX12_lays lk_X12_242 ⟨Nat.le_of_ble_eq_true rfl, Nat.le_of_ble_eq_true rfl⟩ tb0 vq12 rfl rfl (s_X12_lays hK hF _ ⟨by omega, by omega⟩ _ ⟨by omega, by omega⟩ _ ⟨by omega, by omega, by omega⟩ _ ⟨by omega, by omega, by omega⟩ _ hJ) dX12_laysOwn_0.2.2.1.2 (Nat.le_of_ble_eq_true rfl) rfl ?_
  rintro r15 h ⟨hF, p15⟩
  exact zV_vret rfl dX12_laysOwn_0.2.2.2 ⟨hF, trivial⟩
