abbrev q_X12_floorAt (κ h : Hp) (x1 : Int) (x2 : Int) (x3 : Int) : Int → Hp → Prop := fun r h' => h' = h ∧ (True)
set_option maxHeartbeats 4000000 in
set_option maxRecDepth 20000 in
theorem s_X12_floorAt {G : Ga} {b : Bd} {κ h : Hp} (hK : KR κ) (hF : Fr b κ h) (x1 : Int) (hx1 : 0 ≤ x1 ∧ x1 ≤ 3) (x2 : Int) (hx2 : 0 ≤ x2 ∧ x2 ≤ 15 ∧ x2 - κ 0 11 ≤ -1) (x3 : Int) (hx3 : 0 ≤ x3 ∧ x3 ≤ 15 ∧ x3 - κ 0 12 ≤ -1) : zM G mX12_floorAt yX12_floorAt [.inr (.inr 0), .inl x1, .inl x2, .inl x3] h (q_X12_floorAt κ h x1 x2 x3) := by
  have f_0_11 := KRw hK
  have f_0_12 := KRh hK
  refine zM_of [some (.inr (.inr 0)), some (.inl x1), some (.inl x2), some (.inl x3)] 0 rfl rfl (Nat.le_of_ble_eq_true rfl) rfl ?_
  refine zW_aload_n (pc' := 1) dX12_floorAt_0.1.1.1.1 rfl rfl ?_
  refine zG_ref (pc' := 4) 22 fg_X12_75 tb0 rfl dX12_floorAt_0.1.1.1.2 rfl ?_
  refine zW_sipush (pc' := 7) dX12_floorAt_0.1.1.2.1 rfl rfl ?_
  refine zW_iload_n (pc' := 8) dX12_floorAt_0.1.1.2.2 rfl rfl ?_
  refine zW_imul (pc' := 9) dX12_floorAt_0.1.2.1.1 rfl ?_
  refine zW_bipush (pc' := 11) dX12_floorAt_0.1.2.1.2 rfl rfl ?_
  refine zW_iload_n (pc' := 12) dX12_floorAt_0.1.2.2.1 rfl rfl ?_
  refine zW_iload_n (pc' := 13) dX12_floorAt_0.1.2.2.2 rfl rfl ?_
  refine zW_ishrN (pc' := 14) (by omega) (by omega) dX12_floorAt_0.2.1.1.1 rfl (fun v13 e13 => ?_)
  replace e13 := And.intro e13.1 e13.2.1
  refine zW_imul (pc' := 15) dX12_floorAt_0.2.1.1.2 rfl ?_
  refine zW_iadd (pc' := 16) dX12_floorAt_0.2.1.2.1 rfl ?_
  refine zW_iload_n (pc' := 17) dX12_floorAt_0.2.1.2.2 rfl rfl ?_
  refine zW_iload_n (pc' := 18) dX12_floorAt_0.2.2.1.1 rfl rfl ?_
  refine zW_ishrN (pc' := 19) (by omega) (by omega) dX12_floorAt_0.2.2.1.2 rfl (fun v18 e18 => ?_)
  replace e18 := And.intro e18.1 e18.2.1
  refine zW_iadd (pc' := 20) dX12_floorAt_0.2.2.2.1 rfl ?_
  refine zV_iald (pc' := 21) tb22 (by omega) dX12_floorAt_0.2.2.2.2 (by decide) rfl ?_
  exact zV_iret rfl dX12_floorAt_1 ⟨rfl, trivial⟩

abbrev q_X12_toneAt (κ h : Hp) (x1 : Int) (x2 : Int) (x3 : Int) : Int → Hp → Prop := fun r h' => h' = h ∧ (True)
set_option maxHeartbeats 4000000 in
set_option maxRecDepth 20000 in
theorem s_X12_toneAt {G : Ga} {b : Bd} {κ h : Hp} (hK : KR κ) (hF : Fr b κ h) (x1 : Int) (hx1 : 0 ≤ x1 ∧ x1 ≤ 15 ∧ x1 - κ 0 11 ≤ -1) (x2 : Int) (hx2 : 0 ≤ x2 ∧ x2 ≤ 15 ∧ x2 - κ 0 12 ≤ -1) (x3 : Int) (hx3 : 0 ≤ x3 ∧ x3 ≤ 120) : zM G mX12_toneAt yX12_toneAt [.inr (.inr 0), .inl x1, .inl x2, .inl x3] h (q_X12_toneAt κ h x1 x2 x3) := by
  have f_0_11 := KRw hK
  have f_0_12 := KRh hK
  refine zM_of [some (.inr (.inr 0)), some (.inl x1), some (.inl x2), some (.inl x3), none, none, none] 3 rfl rfl (Nat.le_of_ble_eq_true rfl) rfl ?_
  refine zW_aload_n (pc' := 1) dX12_toneAt_0.1.1.1.1 rfl rfl ?_
  refine zW_iconst (pc' := 2) dX12_toneAt_0.1.1.1.2 rfl ?_
  refine zW_iload_n (pc' := 3) dX12_toneAt_0.1.1.2.1 rfl rfl ?_
  refine zW_iload_n (pc' := 4) dX12_toneAt_0.1.1.2.2 rfl rfl ?_
  refine cvI3 (pc' := 7) kX12_floorAt vX12_floorAt lk_X12_316 ⟨Nat.le_of_ble_eq_true rfl, Nat.le_of_ble_eq_true rfl⟩ tb0 vq12 rfl rfl (s_X12_floorAt hK hF _ ⟨by omega, by omega⟩ _ ⟨by omega, by omega, by omega⟩ _ ⟨by omega, by omega, by omega⟩) dX12_toneAt_0.1.2.1.1 (Nat.le_of_ble_eq_true rfl) rfl ?_
  rintro r4 z4 ⟨hz4, p4⟩; subst z4
  refine zW_aload_n (pc' := 8) dX12_toneAt_0.1.2.1.2 rfl rfl ?_
  refine zW_iconst (pc' := 9) dX12_toneAt_0.1.2.2.1 rfl ?_
  refine zW_iload_n (pc' := 10) dX12_toneAt_0.1.2.2.2 rfl rfl ?_
  refine zW_iload_n (pc' := 11) dX12_toneAt_0.2.1.1.1 rfl rfl ?_
  refine cvI3 (pc' := 14) kX12_floorAt vX12_floorAt lk_X12_316 ⟨Nat.le_of_ble_eq_true rfl, Nat.le_of_ble_eq_true rfl⟩ tb0 vq12 rfl rfl (s_X12_floorAt hK hF _ ⟨by omega, by omega⟩ _ ⟨by omega, by omega, by omega⟩ _ ⟨by omega, by omega, by omega⟩) dX12_toneAt_0.2.1.1.2 (Nat.le_of_ble_eq_true rfl) rfl ?_
  rintro r11 z11 ⟨hz11, p11⟩; subst z11
  refine zW_isub (pc' := 15) dX12_toneAt_0.2.1.2.1 rfl ?_
  refine zW_aload_n (pc' := 16) dX12_toneAt_0.2.1.2.2 rfl rfl ?_
  refine zG_ref (pc' := 19) 23 fg_X12_78 tb0 rfl dX12_toneAt_0.2.2.1.1 rfl ?_
  refine zW_iload_n (pc' := 20) dX12_toneAt_0.2.2.1.2 rfl rfl ?_
  refine zV_iald (pc' := 21) tb23 (by omega) dX12_toneAt_0.2.2.2.1 (by decide) rfl ?_
  refine zW_imul (pc' := 22) dX12_toneAt_0.2.2.2.2 rfl ?_
  refine zW_bipush (pc' := 24) dX12_toneAt_1.1.1.1.1 rfl rfl ?_
  refine zW_idivQ (pc' := 25) ⟨by omega, by omega⟩ (by omega) dX12_toneAt_1.1.1.1.2 rfl (fun v24 e24 => ?_)
  unfold rng at e24
  refine zW_istore (ls' := [_, _, _, _, _, _, _]) (pc' := 27) dX12_toneAt_1.1.1.2.1 (by decide) rfl rfl rfl ?_
  refine zW_aload_n (pc' := 28) dX12_toneAt_1.1.1.2.2 rfl rfl ?_
  refine zW_iconst (pc' := 29) dX12_toneAt_1.1.2.1.1 rfl ?_
  refine zW_iload_n (pc' := 30) dX12_toneAt_1.1.2.1.2 rfl rfl ?_
  refine zW_iload_n (pc' := 31) dX12_toneAt_1.1.2.2.1 rfl rfl ?_
  refine cvI3 (pc' := 34) kX12_floorAt vX12_floorAt lk_X12_316 ⟨Nat.le_of_ble_eq_true rfl, Nat.le_of_ble_eq_true rfl⟩ tb0 vq12 rfl rfl (s_X12_floorAt hK hF _ ⟨by omega, by omega⟩ _ ⟨by omega, by omega, by omega⟩ _ ⟨by omega, by omega, by omega⟩) dX12_toneAt_1.1.2.2.2 (Nat.le_of_ble_eq_true rfl) rfl ?_
  rintro r31 z31 ⟨hz31, p31⟩; subst z31
  refine zW_aload_n (pc' := 35) dX12_toneAt_1.2.1.1.1 rfl rfl ?_
  refine zW_iconst (pc' := 36) dX12_toneAt_1.2.1.1.2 rfl ?_
  refine zW_iload_n (pc' := 37) dX12_toneAt_1.2.1.2.1 rfl rfl ?_
  refine zW_iload_n (pc' := 38) dX12_toneAt_1.2.1.2.2 rfl rfl ?_
  refine cvI3 (pc' := 41) kX12_floorAt vX12_floorAt lk_X12_316 ⟨Nat.le_of_ble_eq_true rfl, Nat.le_of_ble_eq_true rfl⟩ tb0 vq12 rfl rfl (s_X12_floorAt hK hF _ ⟨by omega, by omega⟩ _ ⟨by omega, by omega, by omega⟩ _ ⟨by omega, by omega, by omega⟩) dX12_toneAt_1.2.2.1.1 (Nat.le_of_ble_eq_true rfl) rfl ?_
  rintro r38 z38 ⟨hz38, p38⟩; subst z38
  refine zW_isub (pc' := 42) dX12_toneAt_1.2.2.1.2 rfl ?_
  refine zW_aload_n (pc' := 43) dX12_toneAt_1.2.2.2.1 rfl rfl ?_
  refine zG_ref (pc' := 46) 23 fg_X12_78 tb0 rfl dX12_toneAt_1.2.2.2.2 rfl ?_
  refine zW_iload_n (pc' := 47) dX12_toneAt_2.1.1.1.1 rfl rfl ?_
  refine zW_iconst (pc' := 48) dX12_toneAt_2.1.1.1.2 rfl ?_
  refine zW_iadd (pc' := 49) dX12_toneAt_2.1.1.2.1 rfl ?_
  refine zV_iald (pc' := 50) tb23 (by omega) dX12_toneAt_2.1.1.2.2 (by decide) rfl ?_
  refine zW_imul (pc' := 51) dX12_toneAt_2.1.2.1.1 rfl ?_
  refine zW_bipush (pc' := 53) dX12_toneAt_2.1.2.1.2 rfl rfl ?_
  refine zW_idivQ (pc' := 54) ⟨by omega, by omega⟩ (by omega) dX12_toneAt_2.1.2.2.1 rfl (fun v53 e53 => ?_)
  unfold rng at e53
  refine zW_istore (ls' := [_, _, _, _, _, _, _]) (pc' := 56) dX12_toneAt_2.1.2.2.2 (by decide) rfl rfl rfl ?_
  refine zW_aload_n (pc' := 57) dX12_toneAt_2.2.1.1.1 rfl rfl ?_
  refine zW_iconst (pc' := 58) dX12_toneAt_2.2.1.1.2 rfl ?_
  refine zW_iload_n (pc' := 59) dX12_toneAt_2.2.1.2.1 rfl rfl ?_
  refine zW_iload_n (pc' := 60) dX12_toneAt_2.2.1.2.2 rfl rfl ?_
  refine cvI3 (pc' := 63) kX12_floorAt vX12_floorAt lk_X12_316 ⟨Nat.le_of_ble_eq_true rfl, Nat.le_of_ble_eq_true rfl⟩ tb0 vq12 rfl rfl (s_X12_floorAt hK hF _ ⟨by omega, by omega⟩ _ ⟨by omega, by omega, by omega⟩ _ ⟨by omega, by omega, by omega⟩) dX12_toneAt_2.2.2.1.1 (Nat.le_of_ble_eq_true rfl) rfl ?_
  rintro r60 z60 ⟨hz60, p60⟩; subst z60
  refine zW_aload_n (pc' := 64) dX12_toneAt_2.2.2.1.2 rfl rfl ?_
  refine zW_iconst (pc' := 65) dX12_toneAt_2.2.2.2.1 rfl ?_
  refine zW_iload_n (pc' := 66) dX12_toneAt_2.2.2.2.2 rfl rfl ?_
  refine zW_iload_n (pc' := 67) dX12_toneAt_3.1.1.1.1 rfl rfl ?_
  refine cvI3 (pc' := 70) kX12_floorAt vX12_floorAt lk_X12_316 ⟨Nat.le_of_ble_eq_true rfl, Nat.le_of_ble_eq_true rfl⟩ tb0 vq12 rfl rfl (s_X12_floorAt hK hF _ ⟨by omega, by omega⟩ _ ⟨by omega, by omega, by omega⟩ _ ⟨by omega, by omega, by omega⟩) dX12_toneAt_3.1.1.1.2 (Nat.le_of_ble_eq_true rfl) rfl ?_
  rintro r67 z67 ⟨hz67, p67⟩; subst z67
  refine zW_isub (pc' := 71) dX12_toneAt_3.1.1.2.1 rfl ?_
  refine zW_aload_n (pc' := 72) dX12_toneAt_3.1.1.2.2 rfl rfl ?_
  refine zG_ref (pc' := 75) 23 fg_X12_78 tb0 rfl dX12_toneAt_3.1.2.1.1 rfl ?_
  refine zW_iload_n (pc' := 76) dX12_toneAt_3.1.2.1.2 rfl rfl ?_
  refine zW_iconst (pc' := 77) dX12_toneAt_3.1.2.2.1 rfl ?_
  refine zW_iadd (pc' := 78) dX12_toneAt_3.1.2.2.2 rfl ?_
  refine zV_iald (pc' := 79) tb23 (by omega) dX12_toneAt_3.2.1.1.1 (by decide) rfl ?_
  refine zW_imul (pc' := 80) dX12_toneAt_3.2.1.1.2 rfl ?_
  refine zW_bipush (pc' := 82) dX12_toneAt_3.2.1.2.1 rfl rfl ?_
  refine zW_idivQ (pc' := 83) ⟨by omega, by omega⟩ (by omega) dX12_toneAt_3.2.1.2.2 rfl (fun v82 e82 => ?_)
  unfold rng at e82
  refine zW_istore (ls' := [_, _, _, _, _, _, _]) (pc' := 85) dX12_toneAt_3.2.2.1.1 (by decide) rfl rfl rfl ?_
  refine zW_aload_n (pc' := 86) dX12_toneAt_3.2.2.1.2 rfl rfl ?_
  refine zW_iconst (pc' := 87) dX12_toneAt_3.2.2.2.1 rfl ?_
  refine zW_iload_n (pc' := 88) dX12_toneAt_3.2.2.2.2 rfl rfl ?_
  refine zW_iload_n (pc' := 89) dX12_toneAt_4.1.1.1.1 rfl rfl ?_
  refine cvI3 (pc' := 92) kX12_floorAt vX12_floorAt lk_X12_316 ⟨Nat.le_of_ble_eq_true rfl, Nat.le_of_ble_eq_true rfl⟩ tb0 vq12 rfl rfl (s_X12_floorAt hK hF _ ⟨by omega, by omega⟩ _ ⟨by omega, by omega, by omega⟩ _ ⟨by omega, by omega, by omega⟩) dX12_toneAt_4.1.1.1.2 (Nat.le_of_ble_eq_true rfl) rfl ?_
  rintro r89 z89 ⟨hz89, p89⟩; subst z89
  refine zW_iload (pc' := 94) dX12_toneAt_4.1.1.2 rfl rfl ?_
  refine zW_iadd (pc' := 95) dX12_toneAt_4.1.2.1 rfl ?_
  refine zW_iload (pc' := 97) dX12_toneAt_4.1.2.2 rfl rfl ?_
  refine zW_iadd (pc' := 98) dX12_toneAt_4.2.1.1 rfl ?_
  refine zW_iload (pc' := 100) dX12_toneAt_4.2.1.2 rfl rfl ?_
  refine zW_iadd (pc' := 101) dX12_toneAt_4.2.2.1 rfl ?_
  exact zV_iret rfl dX12_toneAt_4.2.2.2 ⟨rfl, trivial⟩

abbrev q_X12_together (κ h : Hp) (x1 : Int) (x2 : Int) (x3 : Int) (x4 : Int) (x5 : Int) : Int → Hp → Prop := fun r h' => h' = h ∧ (True)
set_option maxHeartbeats 4000000 in
set_option maxRecDepth 20000 in
theorem s_X12_together {G : Ga} {b : Bd} {κ h : Hp} (hF : Fr b κ h) (x1 : Int) (hx1 : 0 ≤ x1 ∧ x1 ≤ 2) (x2 : Int) (hx2 : 0 ≤ x2 ∧ x2 ≤ 15) (x3 : Int) (hx3 : 0 ≤ x3 ∧ x3 ≤ 15) (x4 : Int) (hx4 : 1 ≤ x4 ∧ x4 ≤ 16) (x5 : Int) (hx5 : 1 ≤ x5 ∧ x5 ≤ 16) (hxw : x2 < x4) (hyh : x3 < x5) : zM G mX12_together yX12_together [.inr (.inr 0), .inl x1, .inl x2, .inl x3, .inl x4, .inl x5] h (q_X12_together κ h x1 x2 x3 x4 x5) := by
  have main : ∀ N : Nat, (∀ (v6 v7 v8 : Int) , (0 ≤ v8 ∧ v8 ≤ 16) → (0 ≤ v7 ∧ v7 ≤ 20 * v8) → (x3 ≤ v8) → (x3 < v8 → 1 ≤ v7) → 20528640 + 25920 * (16 - v8) + 25344 < (N : Int) → zV G mX12_together (q_X12_together κ h x1 x2 x3 x4 x5) 9 [some (.inr (.inr 0)), some (.inl x1), some (.inl x2), some (.inl x3), some (.inl x4), some (.inl x5), some (.inl v6), some (.inl v7), some (.inl v8), none] [] h) ∧ (∀ (v6 v7 v8 v9 : Int) , (0 ≤ v8 ∧ v8 ≤ 15) → (0 ≤ v9 ∧ v9 ≤ 16) → (0 ≤ v7 ∧ v7 ≤ 20 * v8 + v9) → (x3 ≤ v8 ∧ x2 ≤ v9) → (x3 < v8 → 1 ≤ v7) → (x2 < v9 → 1 ≤ v7) → 20528640 + 25920 * (16 - v8) + 17856 + 32 * (16 - v9) + 31 < (N : Int) → zV G mX12_together (q_X12_together κ h x1 x2 x3 x4 x5) 25 [some (.inr (.inr 0)), some (.inl x1), some (.inl x2), some (.inl x3), some (.inl x4), some (.inl x5), some (.inl v6), some (.inl v7), some (.inl v8), some (.inl v9)] [] h) := by
    intro N
    induction N with
    | zero =>
      refine ⟨?_, ?_⟩
      · intro v6 v7 v8 g0 gc0 gc1 gc2 hm
        exfalso; omega
      · intro v6 v7 v8 v9 g0 g1 gc0 gc1 gc2 gc3 hm
        exfalso; omega
    | succ N ih =>
      obtain ⟨k9, k25⟩ := ih
      refine ⟨?_, ?_⟩
      · intro v6 v7 v8 g0 gc0 gc1 gc2 hm
        refine zW_iload (pc' := 11) dX12_together_0.1.2.2.1 rfl rfl ?_
        refine zW_iload (pc' := 13) dX12_together_0.1.2.2.2 rfl rfl ?_
        refine zW_iload_n (pc' := 14) dX12_together_0.2.1.1.1 rfl rfl ?_
        refine zW_iconst (pc' := 15) dX12_together_0.2.1.1.2 rfl ?_
        refine zW_iadd (pc' := 16) dX12_together_0.2.1.2.1 rfl ?_
        refine csI2 (pc' := 19) kX12_min vX12_min lk_X12_109 ⟨Nat.le_of_ble_eq_true rfl, Nat.le_of_ble_eq_true rfl⟩ rfl (s_X12_minR hF _ ⟨by omega, by omega⟩ _ ⟨by omega, by omega⟩) dX12_together_0.2.1.2.2 (Nat.le_of_ble_eq_true rfl) rfl ?_
        rintro r16 z16 ⟨hz16, p16⟩; subst z16
        refine zV_cm_ge (tgt := 80) (pc' := 22) dX12_together_0.2.2.1.1 rfl rfl ⟨by omega, by omega⟩ ⟨by omega, by omega⟩ (fun c19 => ?_) (fun c19 => ?_)
        · refine zW_iload (pc' := 82) dX12_together_2.2.2.1.2 rfl rfl ?_
          refine zW_iload (pc' := 84) dX12_together_2.2.2.2.1 rfl rfl ?_
          refine zW_idivQ (pc' := 85) ⟨by omega, by omega⟩ (by omega) dX12_together_2.2.2.2.2 rfl (fun v84 e84 => ?_)
          unfold rng at e84
          exact zV_iret rfl dX12_together_3 ⟨rfl, trivial⟩
        · refine zW_iload_n (pc' := 23) dX12_together_0.2.2.1.2 rfl rfl ?_
          refine zW_istore (ls' := [_, _, _, _, _, _, _, _, _, _]) (pc' := 25) dX12_together_0.2.2.2.1 (by decide) rfl rfl rfl ?_
          exact k25 _ _ _ _ (by omega) (by omega) (by omega) (by omega) (by omega) (by omega) (by omega)
      · intro v6 v7 v8 v9 g0 g1 gc0 gc1 gc2 gc3 hm
        refine zW_iload (pc' := 27) dX12_together_0.2.2.2.2 rfl rfl ?_
        refine zW_iload (pc' := 29) dX12_together_1.1.1.1.1 rfl rfl ?_
        refine zW_iload_n (pc' := 30) dX12_together_1.1.1.1.2 rfl rfl ?_
        refine zW_iconst (pc' := 31) dX12_together_1.1.1.2.1 rfl ?_
        refine zW_iadd (pc' := 32) dX12_together_1.1.1.2.2 rfl ?_
        refine csI2 (pc' := 35) kX12_min vX12_min lk_X12_109 ⟨Nat.le_of_ble_eq_true rfl, Nat.le_of_ble_eq_true rfl⟩ rfl (s_X12_minR hF _ ⟨by omega, by omega⟩ _ ⟨by omega, by omega⟩) dX12_together_1.1.2.1.1 (Nat.le_of_ble_eq_true rfl) rfl ?_
        rintro r32 z32 ⟨hz32, p32⟩; subst z32
        refine zV_cm_ge (tgt := 74) (pc' := 38) dX12_together_1.1.2.1.2 rfl rfl ⟨by omega, by omega⟩ ⟨by omega, by omega⟩ (fun c35 => ?_) (fun c35 => ?_)
        · refine zW_iinc (ls' := [_, _, _, _, _, _, _, _, _, _]) (pc' := 77) dX12_together_2.2.1.2.2 rfl (by decide) rfl rfl rfl ?_
          refine zV_goto 9 dX12_together_2.2.2.1.1 rfl ?_
          refine zV_clr 9 (ls' := [_, _, _, _, _, _, _, _, _, _]) rfl ?_
          exact k9 _ _ _ (by omega) (by omega) (by omega) (by omega) (by omega)
        · refine zW_iload (pc' := 40) dX12_together_1.1.2.2.1 rfl rfl ?_
          refine zW_aload_n (pc' := 41) dX12_together_1.1.2.2.2 rfl rfl ?_
          refine zG_ref (pc' := 44) 22 fg_X12_75 tb0 rfl dX12_together_1.2.1.1.1 rfl ?_
          refine zW_sipush (pc' := 47) dX12_together_1.2.1.1.2 rfl rfl ?_
          refine zW_iload_n (pc' := 48) dX12_together_1.2.1.2.1 rfl rfl ?_
          refine zW_imul (pc' := 49) dX12_together_1.2.1.2.2 rfl ?_
          refine zW_bipush (pc' := 51) dX12_together_1.2.2.1.1 rfl rfl ?_
          refine zW_iload (pc' := 53) dX12_together_1.2.2.1.2 rfl rfl ?_
          refine zW_imul (pc' := 54) dX12_together_1.2.2.2.1 rfl ?_
          refine zW_iadd (pc' := 55) dX12_together_1.2.2.2.2 rfl ?_
          refine zW_iload (pc' := 57) dX12_together_2.1.1.1.1 rfl rfl ?_
          refine zW_iadd (pc' := 58) dX12_together_2.1.1.1.2 rfl ?_
          refine zV_iald (pc' := 59) tb22 (by omega) dX12_together_2.1.1.2.1 (by decide) rfl ?_
          refine zW_iadd (pc' := 60) dX12_together_2.1.1.2.2 rfl ?_
          refine zW_istore (ls' := [_, _, _, _, _, _, _, _, _, _]) (pc' := 62) dX12_together_2.1.2.1.1 (by decide) rfl rfl rfl ?_
          refine zW_iload (pc' := 64) dX12_together_2.1.2.1.2 rfl rfl ?_
          refine zW_iconst (pc' := 65) dX12_together_2.1.2.2.1 rfl ?_
          refine zW_iadd (pc' := 66) dX12_together_2.1.2.2.2 rfl ?_
          refine zW_istore (ls' := [_, _, _, _, _, _, _, _, _, _]) (pc' := 68) dX12_together_2.2.1.1.1 (by decide) rfl rfl rfl ?_
          refine zW_iinc (ls' := [_, _, _, _, _, _, _, _, _, _]) (pc' := 71) dX12_together_2.2.1.1.2 rfl (by decide) rfl rfl rfl ?_
          refine zV_goto 25 dX12_together_2.2.1.2.1 rfl ?_
          exact k25 _ _ _ _ (by omega) (by omega) (by omega) (by omega) (by omega) (by omega) (by omega)
  refine zM_of [some (.inr (.inr 0)), some (.inl x1), some (.inl x2), some (.inl x3), some (.inl x4), some (.inl x5), none, none, none, none] 4 rfl rfl (Nat.le_of_ble_eq_true rfl) rfl ?_
  refine zW_iconst (pc' := 1) dX12_together_0.1.1.1.1 rfl ?_
  refine zW_istore (ls' := [_, _, _, _, _, _, _, _, _, _]) (pc' := 3) dX12_together_0.1.1.1.2 (by decide) rfl rfl rfl ?_
  refine zW_iconst (pc' := 4) dX12_together_0.1.1.2.1 rfl ?_
  refine zW_istore (ls' := [_, _, _, _, _, _, _, _, _, _]) (pc' := 6) dX12_together_0.1.1.2.2 (by decide) rfl rfl rfl ?_
  refine zW_iload_n (pc' := 7) dX12_together_0.1.2.1.1 rfl rfl ?_
  refine zW_istore (ls' := [_, _, _, _, _, _, _, _, _, _]) (pc' := 9) dX12_together_0.1.2.1.2 (by decide) rfl rfl rfl ?_
  exact (main 10000000000000000000000000000000000000000).1 _ _ _ (by omega) (by omega) (by omega) (by omega) (by omega)

abbrev q_X12_findsMean (b : Bd) (κ : Hp) (x1 : Int) : Int → Hp → Prop := fun r h' => Fr b κ h' ∧ (True)
set_option maxHeartbeats 4000000 in
set_option maxRecDepth 20000 in
theorem s_X12_findsMean {G : Ga} {b : Bd} {κ h : Hp} (hK : KR κ) (hF : Fr b κ h) (x1 : Int) (hx1 : 0 ≤ x1 ∧ x1 ≤ 14) : zM G mX12_findsMean yX12_findsMean [.inr (.inr 0), .inl x1] h (q_X12_findsMean b κ x1) := by
  have f_0_11 := KRw hK
  have f_0_12 := KRh hK
  have main : ∀ N : Nat, (∀ (v2 : Int) (h : Hp), Fr b κ h → (0 ≤ v2 ∧ v2 ≤ 16) → (v2 - κ 0 12 ≤ 0) → 8631360 + 13320 * (16 - v2) + 12960 < (N : Int) → zV G mX12_findsMean (q_X12_findsMean b κ x1) 7 [some (.inr (.inr 0)), some (.inl x1), some (.inl v2), none] [] h) ∧ (∀ (v2 v3 : Int) (h : Hp), Fr b κ h → (0 ≤ v2 ∧ v2 ≤ 15) → (v2 - κ 0 12 ≤ -1) → (0 ≤ v3 ∧ v3 ≤ 16) → (v3 - κ 0 11 ≤ 0) → 8631360 + 13320 * (16 - v2) + 6840 + 20 * (16 - v3) + 19 < (N : Int) → zV G mX12_findsMean (q_X12_findsMean b κ x1) 17 [some (.inr (.inr 0)), some (.inl x1), some (.inl v2), some (.inl v3)] [] h) := by
    intro N
    induction N with
    | zero =>
      refine ⟨?_, ?_⟩
      · intro v2 h hF g0 g1 hm
        exfalso; omega
      · intro v2 v3 h hF g0 g1 g2 g3 hm
        exfalso; omega
    | succ N ih =>
      obtain ⟨k7, k17⟩ := ih
      refine ⟨?_, ?_⟩
      · intro v2 h hF g0 g1 hm
        refine zW_iload_n (pc' := 8) dX12_findsMean_0.1.2.1.2 rfl rfl ?_
        refine zW_aload_n (pc' := 9) dX12_findsMean_0.1.2.2.1 rfl rfl ?_
        refine zG_key (pc' := 12) hF rfl fg_X12_103 tb0 rfl dX12_findsMean_0.1.2.2.2 rfl ?_
        refine zV_cm_ge (tgt := 53) (pc' := 15) dX12_findsMean_0.2.1.1.1 rfl rfl ⟨by omega, by omega⟩ ⟨by omega, by omega⟩ (fun c12 => ?_) (fun c12 => ?_)
        · refine zW_aload_n (pc' := 54) dX12_findsMean_1.2.2.1.2 rfl rfl ?_
          refine zW_aload_n (pc' := 55) dX12_findsMean_1.2.2.2.1 rfl rfl ?_
          refine zG_int (pc' := 58) fg_X12_310 tb0 rfl dX12_findsMean_1.2.2.2.2 rfl ?_
          refine zW_aload_n (pc' := 59) dX12_findsMean_2.1.1.1 rfl rfl ?_
          refine zG_key (pc' := 62) hF rfl fg_X12_99 tb0 rfl dX12_findsMean_2.1.1.2 rfl ?_
          refine zW_aload_n (pc' := 63) dX12_findsMean_2.1.2.1 rfl rfl ?_
          refine zG_key (pc' := 66) hF rfl fg_X12_103 tb0 rfl dX12_findsMean_2.1.2.2 rfl ?_
          refine zW_imul (pc' := 67) dX12_findsMean_2.2.1.1 rfl ?_
          have hm2 := mul_b f_0_11 f_0_12
          refine zW_idivQ (pc' := 68) ⟨by omega, by omega⟩ (by omega) dX12_findsMean_2.2.1.2 rfl (fun v67 e67 => ?_)
          unfold rng at e67
          refine zP_scf (pc' := 71) hF rfl fp_X12_310 tb0 rfl dX12_findsMean_2.2.2.1 rfl (fun h i68 hF a68 b68 w68 => ?_)
          exact zV_vret rfl dX12_findsMean_2.2.2.2 ⟨hF, trivial⟩
        · refine zW_iconst (pc' := 16) dX12_findsMean_0.2.1.1.2 rfl ?_
          refine zW_istore_n (ls' := [_, _, _, _]) (pc' := 17) dX12_findsMean_0.2.1.2.1 (by decide) rfl rfl rfl ?_
          exact k17 _ _ _ hF (by omega) (by omega) (by omega) (by omega) (by omega)
      · intro v2 v3 h hF g0 g1 g2 g3 hm
        refine zW_iload_n (pc' := 18) dX12_findsMean_0.2.1.2.2 rfl rfl ?_
        refine zW_aload_n (pc' := 19) dX12_findsMean_0.2.2.1.1 rfl rfl ?_
        refine zG_key (pc' := 22) hF rfl fg_X12_99 tb0 rfl dX12_findsMean_0.2.2.1.2 rfl ?_
        refine zV_cm_ge (tgt := 47) (pc' := 25) dX12_findsMean_0.2.2.2.1 rfl rfl ⟨by omega, by omega⟩ ⟨by omega, by omega⟩ (fun c22 => ?_) (fun c22 => ?_)
        · refine zW_iinc (ls' := [_, _, _, _]) (pc' := 50) dX12_findsMean_1.2.1.2.2 rfl (by decide) rfl rfl rfl ?_
          refine zV_goto 7 dX12_findsMean_1.2.2.1.1 rfl ?_
          refine zV_clr 3 (ls' := [_, _, _, _]) rfl ?_
          exact k7 _ _ hF (by omega) (by omega) (by omega)
        · refine zW_aload_n (pc' := 26) dX12_findsMean_0.2.2.2.2 rfl rfl ?_
          refine zW_aload_n (pc' := 27) dX12_findsMean_1.1.1.1.1 rfl rfl ?_
          refine zG_int (pc' := 30) fg_X12_310 tb0 rfl dX12_findsMean_1.1.1.1.2 rfl ?_
          refine zW_aload_n (pc' := 31) dX12_findsMean_1.1.1.2.1 rfl rfl ?_
          refine zW_iload_n (pc' := 32) dX12_findsMean_1.1.1.2.2 rfl rfl ?_
          refine zW_iload_n (pc' := 33) dX12_findsMean_1.1.2.1.1 rfl rfl ?_
          refine zW_iload_n (pc' := 34) dX12_findsMean_1.1.2.1.2 rfl rfl ?_
          refine cvI3 (pc' := 37) kX12_lightAt vX12_lightAt lk_X12_307 ⟨Nat.le_of_ble_eq_true rfl, Nat.le_of_ble_eq_true rfl⟩ tb0 vq12 rfl rfl (s_X12_lightAt hK hF _ ⟨by omega, by omega⟩ _ ⟨by omega, by omega, by omega⟩ _ ⟨by omega, by omega, by omega⟩) dX12_findsMean_1.1.2.2.1 (Nat.le_of_ble_eq_true rfl) rfl ?_
          rintro r34 z34 ⟨hz34, p34⟩; subst z34
          refine zW_iadd (pc' := 38) dX12_findsMean_1.1.2.2.2 rfl ?_
          refine zP_scf (pc' := 41) hF rfl fp_X12_310 tb0 rfl dX12_findsMean_1.2.1.1.1 rfl (fun h i38 hF a38 b38 w38 => ?_)
          refine zW_iinc (ls' := [_, _, _, _]) (pc' := 44) dX12_findsMean_1.2.1.1.2 rfl (by decide) rfl rfl rfl ?_
          refine zV_goto 17 dX12_findsMean_1.2.1.2.1 rfl ?_
          exact k17 _ _ _ hF (by omega) (by omega) (by omega) (by omega) (by omega)
  refine zM_of [some (.inr (.inr 0)), some (.inl x1), none, none] 2 rfl rfl (Nat.le_of_ble_eq_true rfl) rfl ?_
  refine zW_aload_n (pc' := 1) dX12_findsMean_0.1.1.1.1 rfl rfl ?_
  refine zW_iconst (pc' := 2) dX12_findsMean_0.1.1.1.2 rfl ?_
  refine zP_scf (pc' := 5) hF rfl fp_X12_310 tb0 rfl dX12_findsMean_0.1.1.2.1 rfl (fun h i2 hF a2 b2 w2 => ?_)
  refine zW_iconst (pc' := 6) dX12_findsMean_0.1.1.2.2 rfl ?_
  refine zW_istore_n (ls' := [_, _, _, _]) (pc' := 7) dX12_findsMean_0.1.2.1.1 (by decide) rfl rfl rfl ?_
  exact (main 10000000000000000000000000000000000000000).1 _ _ hF (by omega) (by omega) (by omega)

abbrev q_X12_findsFloors (b : Bd) (κ : Hp) (x1 : Int) : Int → Hp → Prop := fun r h' => Fr b κ h' ∧ (True)
set_option maxHeartbeats 4000000 in
set_option maxRecDepth 20000 in
theorem s_X12_findsFloors {G : Ga} {b : Bd} {κ h : Hp} (hK : KR κ) (hF : Fr b κ h) (x1 : Int) (hx1 : 0 ≤ x1 ∧ x1 ≤ 14) : zM G mX12_findsFloors yX12_findsFloors [.inr (.inr 0), .inl x1] h (q_X12_findsFloors b κ x1) := by
  have f_0_11 := KRw hK
  have f_0_12 := KRh hK
  have main : ∀ N : Nat, (∀ (v2 : Int) (h : Hp), Fr b κ h → (0 ≤ v2 ∧ v2 ≤ 16) → (v2 - κ 0 12 ≤ 0) → 224703460800 + 120033900 * (16 - v2) + 118890720 < (N : Int) → zV G mX12_findsFloors (q_X12_findsFloors b κ x1) 2 [some (.inr (.inr 0)), some (.inl x1), some (.inl v2), none, none, none, none] [] h) ∧ (∀ (v2 : Int) (h : Hp), Fr b κ h → (1 ≤ v2 ∧ v2 ≤ 4) → 211739799600 + 120033900 * (4 - v2) + 112031640 < (N : Int) → zV G mX12_findsFloors (q_X12_findsFloors b κ x1) 52 [some (.inr (.inr 0)), some (.inl x1), some (.inl v2), none, none, none, none] [] h) ∧ (∀ (v2 v3 v4 v5 : Int) (h : Hp), Fr b κ h → (1 ≤ v2 ∧ v2 ≤ 3) → (1 ≤ v3 ∧ v3 ≤ 16) → (1 ≤ v4 ∧ v4 ≤ 16) → (1 ≤ v5 ∧ v5 ≤ 3) → 211739799600 + 120033900 * (4 - v2) + 98313480 + 63510 * (3 - v5) + 62780 < (N : Int) → zV G mX12_findsFloors (q_X12_findsFloors b κ x1) 71 [some (.inr (.inr 0)), some (.inl x1), some (.inl v2), some (.inl v3), some (.inl v4), some (.inl v5), none] [] h) ∧ (∀ (v2 v3 v4 v5 : Int) (h : Hp), Fr b κ h → (1 ≤ v2 ∧ v2 ≤ 3) → (1 ≤ v3 ∧ v3 ≤ 16) → (1 ≤ v4 ∧ v4 ≤ 16) → (0 ≤ v5 ∧ v5 ≤ 8) → 211739799600 + 120033900 * (4 - v2) + 92597580 + 63510 * (8 - v5) + 59130 < (N : Int) → zV G mX12_findsFloors (q_X12_findsFloors b κ x1) 100 [some (.inr (.inr 0)), some (.inl x1), some (.inl v2), some (.inl v3), some (.inl v4), some (.inl v5), none] [] h) ∧ (∀ (v2 v3 v4 v5 v6 : Int) (h : Hp), Fr b κ h → (1 ≤ v2 ∧ v2 ≤ 3) → (1 ≤ v3 ∧ v3 ≤ 16) → (1 ≤ v4 ∧ v4 ≤ 16) → (0 ≤ v5 ∧ v5 ≤ 7) → (0 ≤ v6 ∧ v6 ≤ 8) → (2 * v5 < v4) → 211739799600 + 120033900 * (4 - v2) + 92597580 + 63510 * (8 - v5) + 52560 + 73 * (8 - v6) + 72 < (N : Int) → zV G mX12_findsFloors (q_X12_findsFloors b κ x1) 112 [some (.inr (.inr 0)), some (.inl x1), some (.inl v2), some (.inl v3), some (.inl v4), some (.inl v5), some (.inl v6)] [] h) ∧ (∀ (v2 v3 : Int) (h : Hp), Fr b κ h → (0 ≤ v2 ∧ v2 ≤ 15) → (v2 - κ 0 12 ≤ -1) → (0 ≤ v3 ∧ v3 ≤ 16) → (v3 - κ 0 11 ≤ 0) → 224703460800 + 120033900 * (16 - v2) + 25149960 + 63510 * (16 - v3) + 16060 < (N : Int) → zV G mX12_findsFloors (q_X12_findsFloors b κ x1) 12 [some (.inr (.inr 0)), some (.inl x1), some (.inl v2), some (.inl v3), none, none, none] [] h) := by
    intro N
    induction N with
    | zero =>
      refine ⟨?_, ?_, ?_, ?_, ?_, ?_⟩
      · intro v2 h hF g0 g1 hm
        exfalso; omega
      · intro v2 h hF g0 hm
        exfalso; omega
      · intro v2 v3 v4 v5 h hF g0 g1 g2 g3 hm
        exfalso; omega
      · intro v2 v3 v4 v5 h hF g0 g1 g2 g3 hm
        exfalso; omega
      · intro v2 v3 v4 v5 v6 h hF g0 g1 g2 g3 g4 gc0 hm
        exfalso; omega
      · intro v2 v3 h hF g0 g1 g2 g3 hm
        exfalso; omega
    | succ N ih =>
      obtain ⟨k2, k52, k71, k100, k112, k12⟩ := ih
      refine ⟨?_, ?_, ?_, ?_, ?_, ?_⟩
      · intro v2 h hF g0 g1 hm
        refine zW_iload_n (pc' := 3) dX12_findsFloors_0.1.1.2.1 rfl rfl ?_
        refine zW_aload_n (pc' := 4) dX12_findsFloors_0.1.1.2.2 rfl rfl ?_
        refine zG_key (pc' := 7) hF rfl fg_X12_103 tb0 rfl dX12_findsFloors_0.1.2.1.1 rfl ?_
        refine zV_cm_ge (tgt := 50) (pc' := 10) dX12_findsFloors_0.1.2.1.2 rfl rfl ⟨by omega, by omega⟩ ⟨by omega, by omega⟩ (fun c7 => ?_) (fun c7 => ?_)
        · refine zW_iconst (pc' := 51) dX12_findsFloors_1.2.2.1.2 rfl ?_
          refine zW_istore_n (ls' := [_, _, _, _, _, _, _]) (pc' := 52) dX12_findsFloors_1.2.2.2.1 (by decide) rfl rfl rfl ?_
          exact k52 _ _ hF (by omega) (by omega)
        · refine zW_iconst (pc' := 11) dX12_findsFloors_0.1.2.2.1 rfl ?_
          refine zW_istore_n (ls' := [_, _, _, _, _, _, _]) (pc' := 12) dX12_findsFloors_0.1.2.2.2 (by decide) rfl rfl rfl ?_
          exact k12 _ _ _ hF (by omega) (by omega) (by omega) (by omega) (by omega)
      · intro v2 h hF g0 hm
        refine zW_iload_n (pc' := 53) dX12_findsFloors_1.2.2.2.2 rfl rfl ?_
        refine zW_iconst (pc' := 54) dX12_findsFloors_2.1.1.1.1 rfl ?_
        refine zV_cm_ge (tgt := 175) (pc' := 57) dX12_findsFloors_2.1.1.1.2 rfl rfl ⟨by omega, by omega⟩ ⟨by omega, by omega⟩ (fun c54 => ?_) (fun c54 => ?_)
        · exact zV_vret rfl dX12_findsFloors_6.2.2.2 ⟨hF, trivial⟩
        · refine zW_aload_n (pc' := 58) dX12_findsFloors_2.1.1.2.1 rfl rfl ?_
          refine zG_key (pc' := 61) hF rfl fg_X12_99 tb0 rfl dX12_findsFloors_2.1.1.2.2 rfl ?_
          refine zW_istore_n (ls' := [_, _, _, _, _, _, _]) (pc' := 62) dX12_findsFloors_2.1.2.1.1 (by decide) rfl rfl rfl ?_
          refine zW_aload_n (pc' := 63) dX12_findsFloors_2.1.2.1.2 rfl rfl ?_
          refine zG_key (pc' := 66) hF rfl fg_X12_103 tb0 rfl dX12_findsFloors_2.1.2.2.1 rfl ?_
          refine zW_istore (ls' := [_, _, _, _, _, _, _]) (pc' := 68) dX12_findsFloors_2.1.2.2.2 (by decide) rfl rfl rfl ?_
          refine zW_iconst (pc' := 69) dX12_findsFloors_2.2.1.1.1 rfl ?_
          refine zW_istore (ls' := [_, _, _, _, _, _, _]) (pc' := 71) dX12_findsFloors_2.2.1.1.2 (by decide) rfl rfl rfl ?_
          exact k71 _ _ _ _ _ hF (by omega) (by omega) (by omega) (by omega) (by omega)
      · intro v2 v3 v4 v5 h hF g0 g1 g2 g3 hm
        refine zW_iload (pc' := 73) dX12_findsFloors_2.2.1.2.1 rfl rfl ?_
        refine zW_iload_n (pc' := 74) dX12_findsFloors_2.2.1.2.2 rfl rfl ?_
        refine zV_cm_ge (tgt := 97) (pc' := 77) dX12_findsFloors_2.2.2.1.1 rfl rfl ⟨by omega, by omega⟩ ⟨by omega, by omega⟩ (fun c74 => ?_) (fun c74 => ?_)
        · refine zW_iconst (pc' := 98) dX12_findsFloors_3.2.1.2.2 rfl ?_
          refine zW_istore (ls' := [_, _, _, _, _, _, _]) (pc' := 100) dX12_findsFloors_3.2.2.1.1 (by decide) rfl rfl rfl ?_
          exact k100 _ _ _ _ _ hF (by omega) (by omega) (by omega) (by omega) (by omega)
        · refine zW_iload_n (pc' := 78) dX12_findsFloors_2.2.2.1.2 rfl rfl ?_
          refine zW_iconst (pc' := 79) dX12_findsFloors_2.2.2.2.1 rfl ?_
          refine zW_iadd (pc' := 80) dX12_findsFloors_2.2.2.2.2 rfl ?_
          refine zW_iconst (pc' := 81) dX12_findsFloors_3.1.1.1.1 rfl ?_
          refine zW_idiv (pc' := 82) (by omega) (by omega) dX12_findsFloors_3.1.1.1.2 rfl ?_
          refine zW_istore_n (ls' := [_, _, _, _, _, _, _]) (pc' := 83) dX12_findsFloors_3.1.1.2.1 (by decide) rfl rfl rfl ?_
          refine zW_iload (pc' := 85) dX12_findsFloors_3.1.1.2.2 rfl rfl ?_
          refine zW_iconst (pc' := 86) dX12_findsFloors_3.1.2.1.1 rfl ?_
          refine zW_iadd (pc' := 87) dX12_findsFloors_3.1.2.1.2 rfl ?_
          refine zW_iconst (pc' := 88) dX12_findsFloors_3.1.2.2.1 rfl ?_
          refine zW_idiv (pc' := 89) (by omega) (by omega) dX12_findsFloors_3.1.2.2.2 rfl ?_
          refine zW_istore (ls' := [_, _, _, _, _, _, _]) (pc' := 91) dX12_findsFloors_3.2.1.1.1 (by decide) rfl rfl rfl ?_
          refine zW_iinc (ls' := [_, _, _, _, _, _, _]) (pc' := 94) dX12_findsFloors_3.2.1.1.2 rfl (by decide) rfl rfl rfl ?_
          refine zV_goto 71 dX12_findsFloors_3.2.1.2.1 rfl ?_
          exact k71 _ _ _ _ _ hF (by omega) (by omega) (by omega) (by omega) (by omega)
      · intro v2 v3 v4 v5 h hF g0 g1 g2 g3 hm
        refine zW_iconst (pc' := 101) dX12_findsFloors_3.2.2.1.2 rfl ?_
        refine zW_iload (pc' := 103) dX12_findsFloors_3.2.2.2.1 rfl rfl ?_
        refine zW_imul (pc' := 104) dX12_findsFloors_3.2.2.2.2 rfl ?_
        refine zW_iload (pc' := 106) dX12_findsFloors_4.1.1.1.1 rfl rfl ?_
        refine zV_cm_ge (tgt := 169) (pc' := 109) dX12_findsFloors_4.1.1.1.2 rfl rfl ⟨by omega, by omega⟩ ⟨by omega, by omega⟩ (fun c106 => ?_) (fun c106 => ?_)
        · refine zW_iinc (ls' := [_, _, _, _, _, _, _]) (pc' := 172) dX12_findsFloors_6.2.1.2 rfl (by decide) rfl rfl rfl ?_
          refine zV_goto 52 dX12_findsFloors_6.2.2.1 rfl ?_
          refine zV_clr 3 (ls' := [_, _, _, _, _, _, _]) rfl ?_
          refine zV_clr 4 (ls' := [_, _, _, _, _, _, _]) rfl ?_
          refine zV_clr 5 (ls' := [_, _, _, _, _, _, _]) rfl ?_
          exact k52 _ _ hF (by omega) (by omega)
        · refine zW_iconst (pc' := 110) dX12_findsFloors_4.1.1.2.1 rfl ?_
          refine zW_istore (ls' := [_, _, _, _, _, _, _]) (pc' := 112) dX12_findsFloors_4.1.1.2.2 (by decide) rfl rfl rfl ?_
          exact k112 _ _ _ _ _ _ hF (by omega) (by omega) (by omega) (by omega) (by omega) (by omega) (by omega)
      · intro v2 v3 v4 v5 v6 h hF g0 g1 g2 g3 g4 gc0 hm
        refine zW_iconst (pc' := 113) dX12_findsFloors_4.1.2.1.1 rfl ?_
        refine zW_iload (pc' := 115) dX12_findsFloors_4.1.2.1.2 rfl rfl ?_
        refine zW_imul (pc' := 116) dX12_findsFloors_4.1.2.2.1 rfl ?_
        refine zW_iload_n (pc' := 117) dX12_findsFloors_4.1.2.2.2 rfl rfl ?_
        refine zV_cm_ge (tgt := 163) (pc' := 120) dX12_findsFloors_4.2.1.1.1 rfl rfl ⟨by omega, by omega⟩ ⟨by omega, by omega⟩ (fun c117 => ?_) (fun c117 => ?_)
        · refine zW_iinc (ls' := [_, _, _, _, _, _, _]) (pc' := 166) dX12_findsFloors_6.1.2.2 rfl (by decide) rfl rfl rfl ?_
          refine zV_goto 100 dX12_findsFloors_6.2.1.1 rfl ?_
          refine zV_clr 6 (ls' := [_, _, _, _, _, _, _]) rfl ?_
          exact k100 _ _ _ _ _ hF (by omega) (by omega) (by omega) (by omega) (by omega)
        · refine zW_aload_n (pc' := 121) dX12_findsFloors_4.2.1.1.2 rfl rfl ?_
          refine zG_ref (pc' := 124) 22 fg_X12_75 tb0 rfl dX12_findsFloors_4.2.1.2.1 rfl ?_
          refine zW_sipush (pc' := 127) dX12_findsFloors_4.2.1.2.2 rfl rfl ?_
          refine zW_iload_n (pc' := 128) dX12_findsFloors_4.2.2.1.1 rfl rfl ?_
          refine zW_imul (pc' := 129) dX12_findsFloors_4.2.2.1.2 rfl ?_
          refine zW_bipush (pc' := 131) dX12_findsFloors_4.2.2.2.1 rfl rfl ?_
          refine zW_iload (pc' := 133) dX12_findsFloors_4.2.2.2.2 rfl rfl ?_
          refine zW_imul (pc' := 134) dX12_findsFloors_5.1.1.1.1 rfl ?_
          refine zW_iadd (pc' := 135) dX12_findsFloors_5.1.1.1.2 rfl ?_
          refine zW_iload (pc' := 137) dX12_findsFloors_5.1.1.2.1 rfl rfl ?_
          refine zW_iadd (pc' := 138) dX12_findsFloors_5.1.1.2.2 rfl ?_
          refine zW_aload_n (pc' := 139) dX12_findsFloors_5.1.2.1.1 rfl rfl ?_
          refine zW_iload_n (pc' := 140) dX12_findsFloors_5.1.2.1.2 rfl rfl ?_
          refine zW_iconst (pc' := 141) dX12_findsFloors_5.1.2.2.1 rfl ?_
          refine zW_isub (pc' := 142) dX12_findsFloors_5.1.2.2.2 rfl ?_
          refine zW_iconst (pc' := 143) dX12_findsFloors_5.2.1.1.1 rfl ?_
          refine zW_iload (pc' := 145) dX12_findsFloors_5.2.1.1.2 rfl rfl ?_
          refine zW_imul (pc' := 146) dX12_findsFloors_5.2.1.2.1 rfl ?_
          refine zW_iconst (pc' := 147) dX12_findsFloors_5.2.1.2.2 rfl ?_
          refine zW_iload (pc' := 149) dX12_findsFloors_5.2.2.1.1 rfl rfl ?_
          refine zW_imul (pc' := 150) dX12_findsFloors_5.2.2.1.2 rfl ?_
          refine zW_iload_n (pc' := 151) dX12_findsFloors_5.2.2.2.1 rfl rfl ?_
          refine zW_iload (pc' := 153) dX12_findsFloors_5.2.2.2.2 rfl rfl ?_
          refine cvI5 (pc' := 156) kX12_together vX12_together lk_X12_313 ⟨Nat.le_of_ble_eq_true rfl, Nat.le_of_ble_eq_true rfl⟩ tb0 vq12 rfl rfl (s_X12_together hF _ ⟨by omega, by omega⟩ _ ⟨by omega, by omega⟩ _ ⟨by omega, by omega⟩ _ ⟨by omega, by omega⟩ _ ⟨by omega, by omega⟩ (by omega) (by omega)) dX12_findsFloors_6.1.1.1.1 (Nat.le_of_ble_eq_true rfl) rfl ?_
          rintro r153 z153 ⟨hz153, p153⟩; subst z153
          refine zS_i (pc' := 157) hF sr22 tb22 (by omega) dX12_findsFloors_6.1.1.1.2 (by decide) rfl (fun h i156 hF a156 b156 w156 => ?_)
          refine zW_iinc (ls' := [_, _, _, _, _, _, _]) (pc' := 160) dX12_findsFloors_6.1.1.2 rfl (by decide) rfl rfl rfl ?_
          refine zV_goto 112 dX12_findsFloors_6.1.2.1 rfl ?_
          exact k112 _ _ _ _ _ _ hF (by omega) (by omega) (by omega) (by omega) (by omega) (by omega) (by omega)
      · intro v2 v3 h hF g0 g1 g2 g3 hm
        refine zW_iload_n (pc' := 13) dX12_findsFloors_0.2.1.1.1 rfl rfl ?_
        refine zW_aload_n (pc' := 14) dX12_findsFloors_0.2.1.1.2 rfl rfl ?_
        refine zG_key (pc' := 17) hF rfl fg_X12_99 tb0 rfl dX12_findsFloors_0.2.1.2.1 rfl ?_
        refine zV_cm_ge (tgt := 44) (pc' := 20) dX12_findsFloors_0.2.1.2.2 rfl rfl ⟨by omega, by omega⟩ ⟨by omega, by omega⟩ (fun c17 => ?_) (fun c17 => ?_)
        · refine zW_iinc (ls' := [_, _, _, _, _, _, _]) (pc' := 47) dX12_findsFloors_1.2.1.2.2 rfl (by decide) rfl rfl rfl ?_
          refine zV_goto 2 dX12_findsFloors_1.2.2.1.1 rfl ?_
          refine zV_clr 3 (ls' := [_, _, _, _, _, _, _]) rfl ?_
          exact k2 _ _ hF (by omega) (by omega) (by omega)
        · refine zW_aload_n (pc' := 21) dX12_findsFloors_0.2.2.1.1 rfl rfl ?_
          refine zG_ref (pc' := 24) 22 fg_X12_75 tb0 rfl dX12_findsFloors_0.2.2.1.2 rfl ?_
          refine zW_bipush (pc' := 26) dX12_findsFloors_0.2.2.2.1 rfl rfl ?_
          refine zW_iload_n (pc' := 27) dX12_findsFloors_0.2.2.2.2 rfl rfl ?_
          refine zW_imul (pc' := 28) dX12_findsFloors_1.1.1.1.1 rfl ?_
          refine zW_iload_n (pc' := 29) dX12_findsFloors_1.1.1.1.2 rfl rfl ?_
          refine zW_iadd (pc' := 30) dX12_findsFloors_1.1.1.2.1 rfl ?_
          refine zW_aload_n (pc' := 31) dX12_findsFloors_1.1.1.2.2 rfl rfl ?_
          refine zW_iload_n (pc' := 32) dX12_findsFloors_1.1.2.1.1 rfl rfl ?_
          refine zW_iload_n (pc' := 33) dX12_findsFloors_1.1.2.1.2 rfl rfl ?_
          refine zW_iload_n (pc' := 34) dX12_findsFloors_1.1.2.2.1 rfl rfl ?_
          refine cvI3 (pc' := 37) kX12_lightAt vX12_lightAt lk_X12_307 ⟨Nat.le_of_ble_eq_true rfl, Nat.le_of_ble_eq_true rfl⟩ tb0 vq12 rfl rfl (s_X12_lightAt hK hF _ ⟨by omega, by omega⟩ _ ⟨by omega, by omega, by omega⟩ _ ⟨by omega, by omega, by omega⟩) dX12_findsFloors_1.1.2.2.2 (Nat.le_of_ble_eq_true rfl) rfl ?_
          rintro r34 z34 ⟨hz34, p34⟩; subst z34
          refine zS_i (pc' := 38) hF sr22 tb22 (by omega) dX12_findsFloors_1.2.1.1.1 (by decide) rfl (fun h i37 hF a37 b37 w37 => ?_)
          refine zW_iinc (ls' := [_, _, _, _, _, _, _]) (pc' := 41) dX12_findsFloors_1.2.1.1.2 rfl (by decide) rfl rfl rfl ?_
          refine zV_goto 12 dX12_findsFloors_1.2.1.2.1 rfl ?_
          exact k12 _ _ _ hF (by omega) (by omega) (by omega) (by omega) (by omega)
  refine zM_of [some (.inr (.inr 0)), some (.inl x1), none, none, none, none, none] 5 rfl rfl (Nat.le_of_ble_eq_true rfl) rfl ?_
  refine zW_iconst (pc' := 1) dX12_findsFloors_0.1.1.1.1 rfl ?_
  refine zW_istore_n (ls' := [_, _, _, _, _, _, _]) (pc' := 2) dX12_findsFloors_0.1.1.1.2 (by decide) rfl rfl rfl ?_
  exact (main 10000000000000000000000000000000000000000).1 _ _ hF (by omega) (by omega) (by omega)

abbrev q_X12_early (b : Bd) (κ : Hp) (x1 : Int) (x2 : Int) (x3 : Int) (x4 : Int) : Int → Hp → Prop := fun r h' => Fr b κ h' ∧ (True)
set_option maxHeartbeats 4000000 in
set_option maxRecDepth 20000 in
theorem s_X12_early {G : Ga} {b : Bd} {κ h : Hp} (hK : KR κ) (hF : Fr b κ h) (x1 : Int) (hx1 : rng x1) (x2 : Int) (x3 : Int) (hx3 : 0 ≤ x3 ∧ x3 ≤ 14) (x4 : Int) (hx4 : 0 ≤ x4 ∧ x4 ≤ 14) (hJ : Ok17 b x4) (hn : x1 = 111 → 1 ≤ x2 ∧ x2 ≤ 4) : zM G mX12_early yX12_early [.inr (.inr 0), .inl x1, .inl x2, .inl x3, .inl x4] h (q_X12_early b κ x1 x2 x3 x4) := by
  have f_0_11 := KRw hK
  have f_0_12 := KRh hK
  unfold rng at hx1
  have main : ∀ N : Nat, (∀ (v5 : Int) (h : Hp), Fr b κ h → (0 ≤ v5 ∧ v5 ≤ 16) → (v5 - κ 0 12 ≤ 0) → 122277600 + 91800 * (16 - v5) + 90576 < (N : Int) → zV G mX12_early (q_X12_early b κ x1 x2 x3 x4) 3 [some (.inr (.inr 0)), some (.inl x1), some (.inl x2), some (.inl x3), some (.inl x4), some (.inl v5), none, none] [] h) ∧ (∀ (v5 v6 : Int) (h : Hp), Fr b κ h → (0 ≤ v5 ∧ v5 ≤ 15) → (v5 - κ 0 12 ≤ -1) → (0 ≤ v6 ∧ v6 ≤ 16) → (v6 - κ 0 11 ≤ 0) → 122277600 + 91800 * (16 - v5) + 82008 + 68 * (16 - v6) + 67 < (N : Int) → zV G mX12_early (q_X12_early b κ x1 x2 x3 x4) 15 [some (.inr (.inr 0)), some (.inl x1), some (.inl x2), some (.inl x3), some (.inl x4), some (.inl v5), some (.inl v6), none] [] h) ∧ (∀ (v5 v6 v7 : Int) (h : Hp), Fr b κ h → (0 ≤ v5 ∧ v5 ≤ 15) → (v5 - κ 0 12 ≤ -1) → (0 ≤ v6 ∧ v6 ≤ 15) → (v6 - κ 0 11 ≤ -1) → 122277600 + 91800 * (16 - v5) + 82008 + 68 * (16 - v6) + 35 < (N : Int) → zV G mX12_early (q_X12_early b κ x1 x2 x3 x4) 69 [some (.inr (.inr 0)), some (.inl x1), some (.inl x2), some (.inl x3), some (.inl x4), some (.inl v5), some (.inl v6), some (.inl v7)] [] h) ∧ (∀ (v5 v6 v7 : Int) (h : Hp), Fr b κ h → (0 ≤ v5 ∧ v5 ≤ 15) → (v5 - κ 0 12 ≤ -1) → (0 ≤ v6 ∧ v6 ≤ 15) → (v6 - κ 0 11 ≤ -1) → 122277600 + 91800 * (16 - v5) + 82008 + 68 * (16 - v6) + 19 < (N : Int) → zV G mX12_early (q_X12_early b κ x1 x2 x3 x4) 99 [some (.inr (.inr 0)), some (.inl x1), some (.inl x2), some (.inl x3), some (.inl x4), some (.inl v5), some (.inl v6), some (.inl v7)] [] h) := by
    intro N
    induction N with
    | zero =>
      refine ⟨?_, ?_, ?_, ?_⟩
      · intro v5 h hF g0 g1 hm
        exfalso; omega
      · intro v5 v6 h hF g0 g1 g2 g3 hm
        exfalso; omega
      · intro v5 v6 v7 h hF g0 g1 g2 g3 hm
        exfalso; omega
      · intro v5 v6 v7 h hF g0 g1 g2 g3 hm
        exfalso; omega
    | succ N ih =>
      obtain ⟨k3, k15, k69, k99⟩ := ih
      refine ⟨?_, ?_, ?_, ?_⟩
      · intro v5 h hF g0 g1 hm
        refine zW_iload (pc' := 5) dX12_early_0.1.1.2.1 rfl rfl ?_
        refine zW_aload_n (pc' := 6) dX12_early_0.1.1.2.2 rfl rfl ?_
        refine zG_key (pc' := 9) hF rfl fg_X12_103 tb0 rfl dX12_early_0.1.2.1.1 rfl ?_
        refine zV_cm_ge (tgt := 142) (pc' := 12) dX12_early_0.1.2.1.2 rfl rfl ⟨by omega, by omega⟩ ⟨by omega, by omega⟩ (fun c9 => ?_) (fun c9 => ?_)
        · exact zV_vret rfl dX12_early_4.2.2.2 ⟨hF, trivial⟩
        · refine zW_iconst (pc' := 13) dX12_early_0.1.2.2.1 rfl ?_
          refine zW_istore (ls' := [_, _, _, _, _, _, _, _]) (pc' := 15) dX12_early_0.1.2.2.2 (by decide) rfl rfl rfl ?_
          exact k15 _ _ _ hF (by omega) (by omega) (by omega) (by omega) (by omega)
      · intro v5 v6 h hF g0 g1 g2 g3 hm
        refine zW_iload (pc' := 17) dX12_early_0.2.1.1.1 rfl rfl ?_
        refine zW_aload_n (pc' := 18) dX12_early_0.2.1.1.2 rfl rfl ?_
        refine zG_key (pc' := 21) hF rfl fg_X12_99 tb0 rfl dX12_early_0.2.1.2.1 rfl ?_
        refine zV_cm_ge (tgt := 136) (pc' := 24) dX12_early_0.2.1.2.2 rfl rfl ⟨by omega, by omega⟩ ⟨by omega, by omega⟩ (fun c21 => ?_) (fun c21 => ?_)
        · refine zW_iinc (ls' := [_, _, _, _, _, _, _, _]) (pc' := 139) dX12_early_4.2.1.2 rfl (by decide) rfl rfl rfl ?_
          refine zV_goto 3 dX12_early_4.2.2.1 rfl ?_
          refine zV_clr 6 (ls' := [_, _, _, _, _, _, _, _]) rfl ?_
          exact k3 _ _ hF (by omega) (by omega) (by omega)
        · refine zW_aload_n (pc' := 25) dX12_early_0.2.2.1.1 rfl rfl ?_
          refine zW_iload_n (pc' := 26) dX12_early_0.2.2.1.2 rfl rfl ?_
          refine zW_iload (pc' := 28) dX12_early_0.2.2.2.1 rfl rfl ?_
          refine zW_iload (pc' := 30) dX12_early_0.2.2.2.2 rfl rfl ?_
          refine cvI3 (pc' := 33) kX12_own vX12_own lk_X12_246 ⟨Nat.le_of_ble_eq_true rfl, Nat.le_of_ble_eq_true rfl⟩ tb0 vq12 rfl rfl (s_X12_own hK hF _ ⟨by omega, by omega⟩ _ ⟨by omega, by omega, by omega⟩ _ ⟨by omega, by omega, by omega⟩) dX12_early_1.1.1.1.1 (Nat.le_of_ble_eq_true rfl) rfl ?_
          rintro r30 z30 ⟨hz30, p30⟩; subst z30
          refine zW_istore (ls' := [_, _, _, _, _, _, _, _]) (pc' := 35) dX12_early_1.1.1.1.2 (by decide) rfl rfl rfl ?_
          refine zW_iload_n (pc' := 36) dX12_early_1.1.1.2.1 rfl rfl ?_
          refine zW_bipush (pc' := 38) dX12_early_1.1.1.2.2 rfl rfl ?_
          refine zV_cm_ne (tgt := 50) (pc' := 41) dX12_early_1.1.2.1.1 rfl rfl ⟨by omega, by omega⟩ ⟨by omega, by omega⟩ (fun c38 => ?_) (fun c38 => ?_)
          · refine zW_iload_n (pc' := 51) dX12_early_1.2.1.2.2 rfl rfl ?_
            refine zW_bipush (pc' := 53) dX12_early_1.2.2.1.1 rfl rfl ?_
            refine zV_cm_ne (tgt := 69) (pc' := 56) dX12_early_1.2.2.1.2 rfl rfl ⟨by omega, by omega⟩ ⟨by omega, by omega⟩ (fun c53 => ?_) (fun c53 => ?_)
            · exact k69 _ _ _ _ hF (by omega) (by omega) (by omega) (by omega) (by omega)
            · refine zW_iload (pc' := 58) dX12_early_1.2.2.2.1 rfl rfl ?_
              refine zW_aload_n (pc' := 59) dX12_early_1.2.2.2.2 rfl rfl ?_
              refine zW_iload_n (pc' := 60) dX12_early_2.1.1.1.1 rfl rfl ?_
              refine zW_iload (pc' := 62) dX12_early_2.1.1.1.2 rfl rfl ?_
              refine zW_iload_n (pc' := 63) dX12_early_2.1.1.2.1 rfl rfl ?_
              refine cvI3 (pc' := 66) kX12_darkOf vX12_darkOf lk_X12_260 ⟨Nat.le_of_ble_eq_true rfl, Nat.le_of_ble_eq_true rfl⟩ tb0 vq12 rfl rfl (s_X12_darkOf hK hF _ ⟨by omega, by omega⟩ _ ⟨by omega, by omega, by omega⟩ _ ⟨by omega, by omega⟩) dX12_early_2.1.1.2.2 (Nat.le_of_ble_eq_true rfl) rfl ?_
              rintro r63 z63 ⟨hz63, p63⟩; subst z63
              refine zW_isub (pc' := 67) dX12_early_2.1.2.1.1 rfl ?_
              refine zW_istore (ls' := [_, _, _, _, _, _, _, _]) (pc' := 69) dX12_early_2.1.2.1.2 (by decide) rfl rfl rfl ?_
              exact k69 _ _ _ _ hF (by omega) (by omega) (by omega) (by omega) (by omega)
          · refine zW_iload (pc' := 43) dX12_early_1.1.2.1.2 rfl rfl ?_
            refine zW_bipush (pc' := 45) dX12_early_1.1.2.2.1 rfl rfl ?_
            refine zW_iload_n (pc' := 46) dX12_early_1.1.2.2.2 rfl rfl ?_
            refine zW_imul (pc' := 47) dX12_early_1.2.1.1.1 rfl ?_
            refine zW_isub (pc' := 48) dX12_early_1.2.1.1.2 rfl ?_
            refine zW_istore (ls' := [_, _, _, _, _, _, _, _]) (pc' := 50) dX12_early_1.2.1.2.1 (by decide) rfl rfl rfl ?_
            refine zW_iload_n (pc' := 51) dX12_early_1.2.1.2.2 rfl rfl ?_
            refine zW_bipush (pc' := 53) dX12_early_1.2.2.1.1 rfl rfl ?_
            refine zV_cm_ne (tgt := 69) (pc' := 56) dX12_early_1.2.2.1.2 rfl rfl ⟨by omega, by omega⟩ ⟨by omega, by omega⟩ (fun c53 => ?_) (fun c53 => ?_)
            · exact k69 _ _ _ _ hF (by omega) (by omega) (by omega) (by omega) (by omega)
            · exfalso; omega
      · intro v5 v6 v7 h hF g0 g1 g2 g3 hm
        refine zW_iload_n (pc' := 70) dX12_early_2.1.2.2.1 rfl rfl ?_
        refine zW_bipush (pc' := 72) dX12_early_2.1.2.2.2 rfl rfl ?_
        refine zV_cm_ne (tgt := 99) (pc' := 75) dX12_early_2.2.1.1.1 rfl rfl ⟨by omega, by omega⟩ ⟨by omega, by omega⟩ (fun c72 => ?_) (fun c72 => ?_)
        · exact k99 _ _ _ _ hF (by omega) (by omega) (by omega) (by omega) (by omega)
        · refine zW_aload_n (pc' := 76) dX12_early_2.2.1.1.2 rfl rfl ?_
          refine zW_iload_n (pc' := 77) dX12_early_2.2.1.2.1 rfl rfl ?_
          refine zW_iload (pc' := 79) dX12_early_2.2.1.2.2 rfl rfl ?_
          refine zW_iload (pc' := 81) dX12_early_2.2.2.1.1 rfl rfl ?_
          refine zW_iload_n (pc' := 82) dX12_early_2.2.2.1.2 rfl rfl ?_
          refine cvI4 (pc' := 85) kX12_isFound vX12_isFound lk_X12_263 ⟨Nat.le_of_ble_eq_true rfl, Nat.le_of_ble_eq_true rfl⟩ tb0 vq12 rfl rfl (s_X12_isFound hK hF _ ⟨by omega, by omega⟩ _ ⟨by omega, by omega, by omega⟩ _ ⟨by omega, by omega, by omega⟩ _) dX12_early_2.2.2.2.1 (Nat.le_of_ble_eq_true rfl) rfl ?_
          rintro r82 h ⟨hF, p82⟩
          refine zV_if_eq (tgt := 99) (pc' := 88) dX12_early_2.2.2.2.2 rfl rfl ⟨by omega, by omega⟩ (fun c85 => ?_) (fun c85 => ?_)
          · exact k99 _ _ _ _ hF (by omega) (by omega) (by omega) (by omega) (by omega)
          · refine zW_aload_n (pc' := 89) dX12_early_3.1.1.1.1 rfl rfl ?_
            refine zW_iload_n (pc' := 90) dX12_early_3.1.1.1.2 rfl rfl ?_
            refine zW_iload (pc' := 92) dX12_early_3.1.1.2.1 rfl rfl ?_
            refine zW_iload (pc' := 94) dX12_early_3.1.1.2.2 rfl rfl ?_
            refine cvI3 (pc' := 97) kX12_middleOf vX12_middleOf lk_X12_254 ⟨Nat.le_of_ble_eq_true rfl, Nat.le_of_ble_eq_true rfl⟩ tb0 vq12 rfl rfl (s_X12_middleOf hK hF _ ⟨by omega, by omega⟩ _ ⟨by omega, by omega, by omega⟩ _ ⟨by omega, by omega, by omega⟩) dX12_early_3.1.2.1.1 (Nat.le_of_ble_eq_true rfl) rfl ?_
            rintro r94 h ⟨hF, p94⟩
            refine zW_istore (ls' := [_, _, _, _, _, _, _, _]) (pc' := 99) dX12_early_3.1.2.1.2 (by decide) rfl rfl rfl ?_
            exact k99 _ _ _ _ hF (by omega) (by omega) (by omega) (by omega) (by omega)
      · intro v5 v6 v7 h hF g0 g1 g2 g3 hm
        refine zW_iload_n (pc' := 100) dX12_early_3.1.2.2.1 rfl rfl ?_
        refine zW_bipush (pc' := 102) dX12_early_3.1.2.2.2 rfl rfl ?_
        refine zV_cm_ne (tgt := 118) (pc' := 105) dX12_early_3.2.1.1.1 rfl rfl ⟨by omega, by omega⟩ ⟨by omega, by omega⟩ (fun c102 => ?_) (fun c102 => ?_)
        · refine zW_aload_n (pc' := 119) dX12_early_4.1.1.1.1 rfl rfl ?_
          refine zW_iload (pc' := 121) dX12_early_4.1.1.1.2 rfl rfl ?_
          refine zW_iload (pc' := 123) dX12_early_4.1.1.2 rfl rfl ?_
          refine zW_iload (pc' := 125) dX12_early_4.1.2.1.1 rfl rfl ?_
          refine zW_iload (pc' := 127) dX12_early_4.1.2.1.2 rfl rfl ?_
          refine cvV4 (pc' := 130) kX12_laysOwn vX12_laysOwn lk_X12_270 ⟨Nat.le_of_ble_eq_true rfl, Nat.le_of_ble_eq_true rfl⟩ tb0 vq12 rfl rfl (s_X12_laysOwn hK hF _ ⟨by omega, by omega⟩ _ ⟨by omega, by omega, by omega⟩ _ ⟨by omega, by omega, by omega⟩ _ hJ) dX12_early_4.1.2.2 (Nat.le_of_ble_eq_true rfl) rfl ?_
          rintro r127 h ⟨hF, p127⟩
          refine zW_iinc (ls' := [_, _, _, _, _, _, _, _]) (pc' := 133) dX12_early_4.2.1.1.1 rfl (by decide) rfl rfl rfl ?_
          refine zV_goto 15 dX12_early_4.2.1.1.2 rfl ?_
          refine zV_clr 7 (ls' := [_, _, _, _, _, _, _, _]) rfl ?_
          exact k15 _ _ _ hF (by omega) (by omega) (by omega) (by omega) (by omega)
        · refine zW_aload_n (pc' := 106) dX12_early_3.2.1.1.2 rfl rfl ?_
          refine zW_iload (pc' := 108) dX12_early_3.2.1.2.1 rfl rfl ?_
          refine zW_iload (pc' := 110) dX12_early_3.2.1.2.2 rfl rfl ?_
          refine zW_iload (pc' := 112) dX12_early_3.2.2.1.1 rfl rfl ?_
          refine zW_iload_n (pc' := 113) dX12_early_3.2.2.1.2 rfl rfl ?_
          refine cvI4 (pc' := 116) kX12_shaded vX12_shaded lk_X12_267 ⟨Nat.le_of_ble_eq_true rfl, Nat.le_of_ble_eq_true rfl⟩ tb0 vq12 rfl rfl (s_X12_shaded hK hF _ _ ⟨by omega, by omega, by omega⟩ _ ⟨by omega, by omega, by omega⟩ _) dX12_early_3.2.2.2.1 (Nat.le_of_ble_eq_true rfl) rfl ?_
          rintro r113 z113 ⟨hz113, p113⟩; subst z113
          refine zW_istore (ls' := [_, _, _, _, _, _, _, _]) (pc' := 118) dX12_early_3.2.2.2.2 (by decide) rfl rfl rfl ?_
          refine zW_aload_n (pc' := 119) dX12_early_4.1.1.1.1 rfl rfl ?_
          refine zW_iload (pc' := 121) dX12_early_4.1.1.1.2 rfl rfl ?_
          refine zW_iload (pc' := 123) dX12_early_4.1.1.2 rfl rfl ?_
          refine zW_iload (pc' := 125) dX12_early_4.1.2.1.1 rfl rfl ?_
          refine zW_iload (pc' := 127) dX12_early_4.1.2.1.2 rfl rfl ?_
          refine cvV4 (pc' := 130) kX12_laysOwn vX12_laysOwn lk_X12_270 ⟨Nat.le_of_ble_eq_true rfl, Nat.le_of_ble_eq_true rfl⟩ tb0 vq12 rfl rfl (s_X12_laysOwn hK hF _ ⟨by omega, by omega⟩ _ ⟨by omega, by omega, by omega⟩ _ ⟨by omega, by omega, by omega⟩ _ hJ) dX12_early_4.1.2.2 (Nat.le_of_ble_eq_true rfl) rfl ?_
          rintro r127 h ⟨hF, p127⟩
          refine zW_iinc (ls' := [_, _, _, _, _, _, _, _]) (pc' := 133) dX12_early_4.2.1.1.1 rfl (by decide) rfl rfl rfl ?_
          refine zV_goto 15 dX12_early_4.2.1.1.2 rfl ?_
          refine zV_clr 7 (ls' := [_, _, _, _, _, _, _, _]) rfl ?_
          exact k15 _ _ _ hF (by omega) (by omega) (by omega) (by omega) (by omega)
  refine zM_of [some (.inr (.inr 0)), some (.inl x1), some (.inl x2), some (.inl x3), some (.inl x4), none, none, none] 3 rfl rfl (Nat.le_of_ble_eq_true rfl) rfl ?_
  refine zW_iconst (pc' := 1) dX12_early_0.1.1.1.1 rfl ?_
  refine zW_istore (ls' := [_, _, _, _, _, _, _, _]) (pc' := 3) dX12_early_0.1.1.1.2 (by decide) rfl rfl rfl ?_
  exact (main 10000000000000000000000000000000000000000).1 _ _ hF (by omega) (by omega) (by omega)

abbrev q_X12_curved (κ h : Hp) (x1 : Int) (x2 : Int) (x3 : Int) : Int → Hp → Prop := fun r h' => h' = h ∧ (True)
set_option maxHeartbeats 4000000 in
set_option maxRecDepth 20000 in
theorem s_X12_curved {G : Ga} {b : Bd} {κ h : Hp} (hK : KR κ) (hF : Fr b.to κ h) (x1 : Int) (x2 : Int) (hx2 : 0 ≤ x2 ∧ x2 ≤ 120) (x3 : Int) (hx3 : 4 ≤ x3 ∧ x3 ≤ 120) (ha : x2 + x3 ≤ 120) (hc : ∀ i : Int, 0 ≤ i → x2 + 2 * i + 2 < x2 + x3 → 0 ≤ κ 23 (x2 + 2 * i).toNat ∧ κ 23 (x2 + 2 * i).toNat < κ 23 (x2 + 2 * i + 2).toNat ∧ κ 23 (x2 + 2 * i + 2).toNat ≤ 255) : zM G mX12_curved yX12_curved [.inr (.inr 0), .inl x1, .inl x2, .inl x3] h (q_X12_curved κ h x1 x2 x3) := by
  have main : ∀ N : Nat, (∀ (v4 : Int) , (0 ≤ v4 ∧ v4 ≤ 60) → (2 * v4 + 4 ≤ x3) → 474672 + 88 * (60 - v4) + 87 < (N : Int) → zV G mX12_curved (q_X12_curved κ h x1 x2 x3) 3 [some (.inr (.inr 0)), some (.inl x1), some (.inl x2), some (.inl x3), some (.inl v4), none, none, none, none] [] h) ∧ (∀ (v4 : Int) , (0 ≤ v4 ∧ v4 ≤ 60) → (2 * v4 + 4 ≤ x3) → 360096 < (N : Int) → zV G mX12_curved (q_X12_curved κ h x1 x2 x3) 42 [some (.inr (.inr 0)), some (.inl x1), some (.inl x2), some (.inl x3), some (.inl v4), none, none, none, none] [] h) := by
    intro N
    induction N with
    | zero =>
      refine ⟨?_, ?_⟩
      · intro v4 g0 gc0 hm
        exfalso; omega
      · intro v4 g0 gc0 hm
        exfalso; omega
    | succ N ih =>
      obtain ⟨k3, k42⟩ := ih
      refine ⟨?_, ?_⟩
      · intro v4 g0 gc0 hm
        refine zW_iload (pc' := 5) dX12_curved_0.1.1.2.1 rfl rfl ?_
        refine zW_iconst (pc' := 6) dX12_curved_0.1.1.2.2 rfl ?_
        refine zW_iadd (pc' := 7) dX12_curved_0.1.2.1.1 rfl ?_
        refine zW_iload_n (pc' := 8) dX12_curved_0.1.2.1.2 rfl rfl ?_
        refine zW_iconst (pc' := 9) dX12_curved_0.1.2.2.1 rfl ?_
        refine zW_idiv (pc' := 10) (by omega) (by omega) dX12_curved_0.1.2.2.2 rfl ?_
        refine zV_cm_ge (tgt := 42) (pc' := 13) dX12_curved_0.2.1.1.1 rfl rfl ⟨by omega, by omega⟩ ⟨by omega, by omega⟩ (fun c10 => ?_) (fun c10 => ?_)
        · exact k42 _ (by omega) (by omega) (by omega)
        · refine zW_iload_n (pc' := 14) dX12_curved_0.2.1.1.2 rfl rfl ?_
          refine zW_bipush (pc' := 16) dX12_curved_0.2.1.2.1 rfl rfl ?_
          refine zW_aload_n (pc' := 17) dX12_curved_0.2.1.2.2 rfl rfl ?_
          refine zG_ref (pc' := 20) 23 fg_X12_78 tb0 rfl dX12_curved_0.2.2.1.1 rfl ?_
          refine zW_iload_n (pc' := 21) dX12_curved_0.2.2.1.2 rfl rfl ?_
          refine zW_iconst (pc' := 22) dX12_curved_0.2.2.2.1 rfl ?_
          refine zW_iload (pc' := 24) dX12_curved_0.2.2.2.2 rfl rfl ?_
          refine zW_imul (pc' := 25) dX12_curved_1.1.1.1.1 rfl ?_
          refine zW_iadd (pc' := 26) dX12_curved_1.1.1.1.2 rfl ?_
          refine zW_iconst (pc' := 27) dX12_curved_1.1.1.2.1 rfl ?_
          refine zW_iadd (pc' := 28) dX12_curved_1.1.1.2.2 rfl ?_
          refine zA_giv (pc' := 29) hF (by omega) dX12_curved_1.1.2.1.1 rfl ?_
          refine zW_imul (pc' := 30) dX12_curved_1.1.2.1.2 rfl ?_
          refine zV_cmQ_lt (tgt := 42) (pc' := 33) dX12_curved_1.1.2.2.1 rfl rfl ?_ ?_
          · exact k42 _ (by omega) (by omega) (by omega)
          · refine zW_iload (pc' := 35) dX12_curved_1.1.2.2.2 rfl rfl ?_
            refine zW_iconst (pc' := 36) dX12_curved_1.2.1.1.1 rfl ?_
            refine zW_iadd (pc' := 37) dX12_curved_1.2.1.1.2 rfl ?_
            refine zW_istore (ls' := [_, _, _, _, _, _, _, _, _]) (pc' := 39) dX12_curved_1.2.1.2.1 (by decide) rfl rfl rfl ?_
            refine zV_goto 3 dX12_curved_1.2.1.2.2 rfl ?_
            exact k3 _ (by omega) (by omega) (by omega)
      · intro v4 g0 gc0 hm
        have hq := hc v4 (by omega) (by omega)
        refine zW_aload_n (pc' := 43) dX12_curved_1.2.2.1.1 rfl rfl ?_
        refine zG_ref (pc' := 46) 23 fg_X12_78 tb0 rfl dX12_curved_1.2.2.1.2 rfl ?_
        refine zW_iload_n (pc' := 47) dX12_curved_1.2.2.2.1 rfl rfl ?_
        refine zW_iconst (pc' := 48) dX12_curved_1.2.2.2.2 rfl ?_
        refine zW_iload (pc' := 50) dX12_curved_2.1.1.1.1 rfl rfl ?_
        refine zW_imul (pc' := 51) dX12_curved_2.1.1.1.2 rfl ?_
        refine zW_iadd (pc' := 52) dX12_curved_2.1.1.2.1 rfl ?_
        refine zA_giv (pc' := 53) hF (by omega) dX12_curved_2.1.1.2.2 rfl ?_
        refine zW_istore (ls' := [_, _, _, _, _, _, _, _, _]) (pc' := 55) dX12_curved_2.1.2.1.1 (by decide) rfl rfl rfl ?_
        refine zW_aload_n (pc' := 56) dX12_curved_2.1.2.1.2 rfl rfl ?_
        refine zG_ref (pc' := 59) 23 fg_X12_78 tb0 rfl dX12_curved_2.1.2.2.1 rfl ?_
        refine zW_iload_n (pc' := 60) dX12_curved_2.1.2.2.2 rfl rfl ?_
        refine zW_iconst (pc' := 61) dX12_curved_2.2.1.1.1 rfl ?_
        refine zW_iload (pc' := 63) dX12_curved_2.2.1.1.2 rfl rfl ?_
        refine zW_imul (pc' := 64) dX12_curved_2.2.1.2.1 rfl ?_
        refine zW_iadd (pc' := 65) dX12_curved_2.2.1.2.2 rfl ?_
        refine zW_iconst (pc' := 66) dX12_curved_2.2.2.1.1 rfl ?_
        refine zW_iadd (pc' := 67) dX12_curved_2.2.2.1.2 rfl ?_
        refine zA_giv (pc' := 68) hF (by omega) dX12_curved_2.2.2.2.1 rfl ?_
        refine zW_istore (ls' := [_, _, _, _, _, _, _, _, _]) (pc' := 70) dX12_curved_2.2.2.2.2 (by decide) rfl rfl rfl ?_
        refine zW_aload_n (pc' := 71) dX12_curved_3.1.1.1.1 rfl rfl ?_
        refine zG_ref (pc' := 74) 23 fg_X12_78 tb0 rfl dX12_curved_3.1.1.1.2 rfl ?_
        refine zW_iload_n (pc' := 75) dX12_curved_3.1.1.2.1 rfl rfl ?_
        refine zW_iconst (pc' := 76) dX12_curved_3.1.1.2.2 rfl ?_
        refine zW_iload (pc' := 78) dX12_curved_3.1.2.1.1 rfl rfl ?_
        refine zW_imul (pc' := 79) dX12_curved_3.1.2.1.2 rfl ?_
        refine zW_iadd (pc' := 80) dX12_curved_3.1.2.2.1 rfl ?_
        refine zW_iconst (pc' := 81) dX12_curved_3.1.2.2.2 rfl ?_
        refine zW_iadd (pc' := 82) dX12_curved_3.2.1.1.1 rfl ?_
        refine zA_giv (pc' := 83) hF (by omega) dX12_curved_3.2.1.1.2 rfl ?_
        refine zW_istore (ls' := [_, _, _, _, _, _, _, _, _]) (pc' := 85) dX12_curved_3.2.1.2.1 (by decide) rfl rfl rfl ?_
        refine zW_aload_n (pc' := 86) dX12_curved_3.2.1.2.2 rfl rfl ?_
        refine zG_ref (pc' := 89) 23 fg_X12_78 tb0 rfl dX12_curved_3.2.2.1.1 rfl ?_
        refine zW_iload_n (pc' := 90) dX12_curved_3.2.2.1.2 rfl rfl ?_
        refine zW_iconst (pc' := 91) dX12_curved_3.2.2.2.1 rfl ?_
        refine zW_iload (pc' := 93) dX12_curved_3.2.2.2.2 rfl rfl ?_
        refine zW_imul (pc' := 94) dX12_curved_4.1.1.1.1 rfl ?_
        refine zW_iadd (pc' := 95) dX12_curved_4.1.1.1.2 rfl ?_
        refine zW_iconst (pc' := 96) dX12_curved_4.1.1.2.1 rfl ?_
        refine zW_iadd (pc' := 97) dX12_curved_4.1.1.2.2 rfl ?_
        refine zA_giv (pc' := 98) hF (by omega) dX12_curved_4.1.2.1.1 rfl ?_
        refine zW_istore (ls' := [_, _, _, _, _, _, _, _, _]) (pc' := 100) dX12_curved_4.1.2.1.2 (by decide) rfl rfl rfl ?_
        refine zW_bipush (pc' := 102) dX12_curved_4.1.2.2.1 rfl rfl ?_
        refine zW_iload (pc' := 104) dX12_curved_4.1.2.2.2 rfl rfl ?_
        refine zW_imul (pc' := 105) dX12_curved_4.2.1.1.1 rfl ?_
        refine zW_iload_n (pc' := 106) dX12_curved_4.2.1.1.2 rfl rfl ?_
        refine zW_bipush (pc' := 108) dX12_curved_4.2.1.2.1 rfl rfl ?_
        refine zW_iload (pc' := 110) dX12_curved_4.2.1.2.2 rfl rfl ?_
        refine zW_imul (pc' := 111) dX12_curved_4.2.2.1.1 rfl ?_
        refine zW_isub (pc' := 112) dX12_curved_4.2.2.1.2 rfl ?_
        refine zW_iload (pc' := 114) dX12_curved_4.2.2.2.1 rfl rfl ?_
        refine zW_iload (pc' := 116) dX12_curved_4.2.2.2.2 rfl rfl ?_
        refine zW_isub (pc' := 117) dX12_curved_5.1.1.1 rfl ?_
        refine zW_imul (pc' := 118) dX12_curved_5.1.1.2 rfl ?_
        refine zW_iload (pc' := 120) dX12_curved_5.1.2.1 rfl rfl ?_
        refine zW_iload (pc' := 122) dX12_curved_5.1.2.2 rfl rfl ?_
        refine zW_isub (pc' := 123) dX12_curved_5.2.1.1 rfl ?_
        refine zW_idivQ (pc' := 124) ⟨by omega, by omega⟩ (by omega) dX12_curved_5.2.1.2 rfl (fun v123 e123 => ?_)
        unfold rng at e123
        refine zW_iadd (pc' := 125) dX12_curved_5.2.2.1 rfl ?_
        exact zV_iret rfl dX12_curved_5.2.2.2 ⟨rfl, trivial⟩
  refine zM_of [some (.inr (.inr 0)), some (.inl x1), some (.inl x2), some (.inl x3), none, none, none, none, none] 5 rfl rfl (Nat.le_of_ble_eq_true rfl) rfl ?_
  refine zW_iconst (pc' := 1) dX12_curved_0.1.1.1.1 rfl ?_
  refine zW_istore (ls' := [_, _, _, _, _, _, _, _, _]) (pc' := 3) dX12_curved_0.1.1.1.2 (by decide) rfl rfl rfl ?_
  exact (main 10000000000000000000000000000000000000000).1 _ (by omega) (by omega) (by omega)

abbrev q_X12_baseOfV1 (κ h : Hp) (x1 : Int) (x2 : Int) (x3 : Int) (x4 : Int) : Int → Hp → Prop := fun r h' => h' = h ∧ (True)
set_option maxHeartbeats 4000000 in
set_option maxRecDepth 20000 in
theorem s_X12_baseOfV1 {G : Ga} {b : Bd} {κ h : Hp} (hK : KR κ) (hF : Fr b κ h) (x1 : Int) (hx1 : 0 ≤ x1 ∧ x1 ≤ 14) (x2 : Int) (hx2 : 0 ≤ x2 ∧ x2 ≤ 15 ∧ x2 - κ 0 11 ≤ -1) (x3 : Int) (hx3 : 0 ≤ x3 ∧ x3 ≤ 15 ∧ x3 - κ 0 12 ≤ -1) (x4 : Int) (hx4 : 1 ≤ x4 ∧ x4 ≤ 1) : zM G mX12_baseOf yX12_baseOf [.inr (.inr 0), .inl x1, .inl x2, .inl x3, .inl x4] h (q_X12_baseOfV1 κ h x1 x2 x3 x4) := by
  have f_0_11 := KRw hK
  have f_0_12 := KRh hK
  have main : ∀ N : Nat, (∀ (v6 v7 v8 : Int) , (0 ≤ v8 ∧ v8 ≤ 16) → (0 ≤ v7 ∧ v7 ≤ 40 * v8) → (x3 < v8 → 1 ≤ v7) → (x3 / 2 * 2 ≤ v8) → 28355184 + 30888 * (16 - v8) + 30294 < (N : Int) → zV G mX12_baseOf (q_X12_baseOfV1 κ h x1 x2 x3 x4) 21 [some (.inr (.inr 0)), some (.inl x1), some (.inl x2), some (.inl x3), some (.inl x4), some (.inl 2), some (.inl v6), some (.inl v7), some (.inl v8), none] [] h) ∧ (∀ (v6 v7 v8 v9 : Int) , (0 ≤ v8 ∧ v8 ≤ 15) → (0 ≤ v9 ∧ v9 ≤ 16) → (0 ≤ v7 ∧ v7 ≤ 40 * v8 + v9) → (x3 < v8 → 1 ≤ v7) → (x3 = v8 ∧ x2 < v9 → 1 ≤ v7) → (x2 / 2 * 2 ≤ v9) → (x3 / 2 * 2 ≤ v8) → 28355184 + 30888 * (16 - v8) + 19008 + 33 * (16 - v9) + 32 < (N : Int) → zV G mX12_baseOf (q_X12_baseOfV1 κ h x1 x2 x3 x4) 45 [some (.inr (.inr 0)), some (.inl x1), some (.inl x2), some (.inl x3), some (.inl x4), some (.inl 2), some (.inl v6), some (.inl v7), some (.inl v8), some (.inl v9)] [] h) := by
    intro N
    induction N with
    | zero =>
      refine ⟨?_, ?_⟩
      · intro v6 v7 v8 g0 gc0 gc1 gc2 hm
        exfalso; omega
      · intro v6 v7 v8 v9 g0 g1 gc0 gc1 gc2 gc3 gc4 hm
        exfalso; omega
    | succ N ih =>
      obtain ⟨k21, k45⟩ := ih
      refine ⟨?_, ?_⟩
      · intro v6 v7 v8 g0 gc0 gc1 gc2 hm
        refine zW_iload (pc' := 23) dX12_baseOf_0.2.2.2.1 rfl rfl ?_
        refine zW_iload_n (pc' := 24) dX12_baseOf_0.2.2.2.2 rfl rfl ?_
        refine zW_iload (pc' := 26) dX12_baseOf_1.1.1.1.1 rfl rfl ?_
        refine zW_idiv (pc' := 27) (by omega) (by omega) dX12_baseOf_1.1.1.1.2 rfl ?_
        refine zW_iload (pc' := 29) dX12_baseOf_1.1.1.2.1 rfl rfl ?_
        refine zW_imul (pc' := 30) dX12_baseOf_1.1.1.2.2 rfl ?_
        refine zW_iload (pc' := 32) dX12_baseOf_1.1.2.1.1 rfl rfl ?_
        refine zW_iadd (pc' := 33) dX12_baseOf_1.1.2.1.2 rfl ?_
        refine zV_cm_ge (tgt := 106) (pc' := 36) dX12_baseOf_1.1.2.2.1 rfl rfl ⟨by omega, by omega⟩ ⟨by omega, by omega⟩ (fun c33 => ?_) (fun c33 => ?_)
        · refine zW_iload (pc' := 108) dX12_baseOf_3.2.2.1.1 rfl rfl ?_
          refine zW_iload (pc' := 110) dX12_baseOf_3.2.2.1.2 rfl rfl ?_
          refine zW_idivQ (pc' := 111) ⟨by omega, by omega⟩ (by omega) dX12_baseOf_3.2.2.2.1 rfl (fun v110 e110 => ?_)
          unfold rng at e110
          exact zV_iret rfl dX12_baseOf_3.2.2.2.2 ⟨rfl, trivial⟩
        · refine zW_iload_n (pc' := 37) dX12_baseOf_1.1.2.2.2 rfl rfl ?_
          refine zW_iload (pc' := 39) dX12_baseOf_1.2.1.1.1 rfl rfl ?_
          refine zW_idiv (pc' := 40) (by omega) (by omega) dX12_baseOf_1.2.1.1.2 rfl ?_
          refine zW_iload (pc' := 42) dX12_baseOf_1.2.1.2.1 rfl rfl ?_
          refine zW_imul (pc' := 43) dX12_baseOf_1.2.1.2.2 rfl ?_
          refine zW_istore (ls' := [_, _, _, _, _, _, _, _, _, _]) (pc' := 45) dX12_baseOf_1.2.2.1.1 (by decide) rfl rfl rfl ?_
          exact k45 _ _ _ _ (by omega) (by omega) (by omega) (by omega) (by omega) (by omega) (by omega) (by omega)
      · intro v6 v7 v8 v9 g0 g1 gc0 gc1 gc2 gc3 gc4 hm
        refine zW_iload (pc' := 47) dX12_baseOf_1.2.2.1.2 rfl rfl ?_
        refine zW_iload_n (pc' := 48) dX12_baseOf_1.2.2.2.1 rfl rfl ?_
        refine zW_iload (pc' := 50) dX12_baseOf_1.2.2.2.2 rfl rfl ?_
        refine zW_idiv (pc' := 51) (by omega) (by omega) dX12_baseOf_2.1.1.1.1 rfl ?_
        refine zW_iload (pc' := 53) dX12_baseOf_2.1.1.1.2 rfl rfl ?_
        refine zW_imul (pc' := 54) dX12_baseOf_2.1.1.2.1 rfl ?_
        refine zW_iload (pc' := 56) dX12_baseOf_2.1.1.2.2 rfl rfl ?_
        refine zW_iadd (pc' := 57) dX12_baseOf_2.1.2.1.1 rfl ?_
        refine zV_cm_ge (tgt := 100) (pc' := 60) dX12_baseOf_2.1.2.1.2 rfl rfl ⟨by omega, by omega⟩ ⟨by omega, by omega⟩ (fun c57 => ?_) (fun c57 => ?_)
        · refine zW_iinc (ls' := [_, _, _, _, _, _, _, _, _, _]) (pc' := 103) dX12_baseOf_3.2.1.2.1 rfl (by decide) rfl rfl rfl ?_
          refine zV_goto 21 dX12_baseOf_3.2.1.2.2 rfl ?_
          refine zV_clr 9 (ls' := [_, _, _, _, _, _, _, _, _, _]) rfl ?_
          exact k21 _ _ _ (by omega) (by omega) (by omega) (by omega) (by omega)
        · refine zW_aload_n (pc' := 61) dX12_baseOf_2.1.2.2.1 rfl rfl ?_
          refine zW_iload (pc' := 63) dX12_baseOf_2.1.2.2.2 rfl rfl ?_
          refine zW_iload (pc' := 65) dX12_baseOf_2.2.1.1.1 rfl rfl ?_
          refine cvI2 (pc' := 68) kX12_isSquare vX12_isSquare lk_X12_218 ⟨Nat.le_of_ble_eq_true rfl, Nat.le_of_ble_eq_true rfl⟩ tb0 vq12 rfl rfl (s_X12_isSquare hK hF _ ⟨by omega, by omega⟩ _ ⟨by omega, by omega⟩) dX12_baseOf_2.2.1.1.2 (Nat.le_of_ble_eq_true rfl) rfl ?_
          rintro r65 z65 ⟨hz65, p65⟩; subst z65
          refine zV_if_ne (tgt := 74) (pc' := 71) dX12_baseOf_2.2.1.2.1 rfl rfl ⟨by omega, by omega⟩ (fun c68 => ?_) (fun c68 => ?_)
          · refine zW_iload (pc' := 76) dX12_baseOf_2.2.2.1.1 rfl rfl ?_
            refine zW_aload_n (pc' := 77) dX12_baseOf_2.2.2.1.2 rfl rfl ?_
            refine zW_iload_n (pc' := 78) dX12_baseOf_2.2.2.2.1 rfl rfl ?_
            refine zW_iload (pc' := 80) dX12_baseOf_2.2.2.2.2 rfl rfl ?_
            refine zW_iload (pc' := 82) dX12_baseOf_3.1.1.1.1 rfl rfl ?_
            refine cvI3 (pc' := 85) kX12_lightAt vX12_lightAt lk_X12_307 ⟨Nat.le_of_ble_eq_true rfl, Nat.le_of_ble_eq_true rfl⟩ tb0 vq12 rfl rfl (s_X12_lightAt hK hF _ ⟨by omega, by omega⟩ _ ⟨by omega, by omega, by omega⟩ _ ⟨by omega, by omega, by omega⟩) dX12_baseOf_3.1.1.1.2 (Nat.le_of_ble_eq_true rfl) rfl ?_
            rintro r82 z82 ⟨hz82, p82⟩; subst z82
            refine zW_iadd (pc' := 86) dX12_baseOf_3.1.1.2.1 rfl ?_
            refine zW_istore (ls' := [_, _, _, _, _, _, _, _, _, _]) (pc' := 88) dX12_baseOf_3.1.1.2.2 (by decide) rfl rfl rfl ?_
            refine zW_iload (pc' := 90) dX12_baseOf_3.1.2.1.1 rfl rfl ?_
            refine zW_iconst (pc' := 91) dX12_baseOf_3.1.2.1.2 rfl ?_
            refine zW_iadd (pc' := 92) dX12_baseOf_3.1.2.2.1 rfl ?_
            refine zW_istore (ls' := [_, _, _, _, _, _, _, _, _, _]) (pc' := 94) dX12_baseOf_3.1.2.2.2 (by decide) rfl rfl rfl ?_
            refine zW_iinc (ls' := [_, _, _, _, _, _, _, _, _, _]) (pc' := 97) dX12_baseOf_3.2.1.1.1 rfl (by decide) rfl rfl rfl ?_
            refine zV_goto 45 dX12_baseOf_3.2.1.1.2 rfl ?_
            exact k45 _ _ _ _ (by omega) (by omega) (by omega) (by omega) (by omega) (by omega) (by omega) (by omega)
          · refine zV_goto 94 dX12_baseOf_2.2.1.2.2 rfl ?_
            refine zW_iinc (ls' := [_, _, _, _, _, _, _, _, _, _]) (pc' := 97) dX12_baseOf_3.2.1.1.1 rfl (by decide) rfl rfl rfl ?_
            refine zV_goto 45 dX12_baseOf_3.2.1.1.2 rfl ?_
            exact k45 _ _ _ _ (by omega) (by omega) (by omega) (by omega) (by omega) (by omega) (by omega) (by omega)
  refine zM_of [some (.inr (.inr 0)), some (.inl x1), some (.inl x2), some (.inl x3), some (.inl x4), none, none, none, none, none] 5 rfl rfl (Nat.le_of_ble_eq_true rfl) rfl ?_
  refine zW_iconst (pc' := 1) dX12_baseOf_0.1.1.1.1 rfl ?_
  refine zW_iload (pc' := 3) dX12_baseOf_0.1.1.1.2 rfl rfl ?_
  refine zW_shl1 (w := 2) (pc' := 4) (by omega) dX12_baseOf_0.1.1.2.1 rfl ?_
  refine zW_istore (ls' := [_, _, _, _, _, _, _, _, _, _]) (pc' := 6) dX12_baseOf_0.1.1.2.2 (by decide) rfl rfl rfl ?_
  refine zW_iconst (pc' := 7) dX12_baseOf_0.1.2.1.1 rfl ?_
  refine zW_istore (ls' := [_, _, _, _, _, _, _, _, _, _]) (pc' := 9) dX12_baseOf_0.1.2.1.2 (by decide) rfl rfl rfl ?_
  refine zW_iconst (pc' := 10) dX12_baseOf_0.1.2.2.1 rfl ?_
  refine zW_istore (ls' := [_, _, _, _, _, _, _, _, _, _]) (pc' := 12) dX12_baseOf_0.1.2.2.2 (by decide) rfl rfl rfl ?_
  refine zW_iload_n (pc' := 13) dX12_baseOf_0.2.1.1.1 rfl rfl ?_
  refine zW_iload (pc' := 15) dX12_baseOf_0.2.1.1.2 rfl rfl ?_
  refine zW_idiv (pc' := 16) (by omega) (by omega) dX12_baseOf_0.2.1.2.1 rfl ?_
  refine zW_iload (pc' := 18) dX12_baseOf_0.2.1.2.2 rfl rfl ?_
  refine zW_imul (pc' := 19) dX12_baseOf_0.2.2.1.1 rfl ?_
  refine zW_istore (ls' := [_, _, _, _, _, _, _, _, _, _]) (pc' := 21) dX12_baseOf_0.2.2.1.2 (by decide) rfl rfl rfl ?_
  exact (main 10000000000000000000000000000000000000000).1 _ _ _ (by omega) (by omega) (by omega) (by omega) (by omega)

abbrev q_X12_baseOfV2 (κ h : Hp) (x1 : Int) (x2 : Int) (x3 : Int) (x4 : Int) : Int → Hp → Prop := fun r h' => h' = h ∧ (True)
set_option maxHeartbeats 4000000 in
set_option maxRecDepth 20000 in
theorem s_X12_baseOfV2 {G : Ga} {b : Bd} {κ h : Hp} (hK : KR κ) (hF : Fr b κ h) (x1 : Int) (hx1 : 0 ≤ x1 ∧ x1 ≤ 14) (x2 : Int) (hx2 : 0 ≤ x2 ∧ x2 ≤ 15 ∧ x2 - κ 0 11 ≤ -1) (x3 : Int) (hx3 : 0 ≤ x3 ∧ x3 ≤ 15 ∧ x3 - κ 0 12 ≤ -1) (x4 : Int) (hx4 : 2 ≤ x4 ∧ x4 ≤ 2) : zM G mX12_baseOf yX12_baseOf [.inr (.inr 0), .inl x1, .inl x2, .inl x3, .inl x4] h (q_X12_baseOfV2 κ h x1 x2 x3 x4) := by
  have f_0_11 := KRw hK
  have f_0_12 := KRh hK
  have main : ∀ N : Nat, (∀ (v6 v7 v8 : Int) , (0 ≤ v8 ∧ v8 ≤ 16) → (0 ≤ v7 ∧ v7 ≤ 40 * v8) → (x3 < v8 → 1 ≤ v7) → (x3 / 4 * 4 ≤ v8) → 28355184 + 30888 * (16 - v8) + 30294 < (N : Int) → zV G mX12_baseOf (q_X12_baseOfV2 κ h x1 x2 x3 x4) 21 [some (.inr (.inr 0)), some (.inl x1), some (.inl x2), some (.inl x3), some (.inl x4), some (.inl 4), some (.inl v6), some (.inl v7), some (.inl v8), none] [] h) ∧ (∀ (v6 v7 v8 v9 : Int) , (0 ≤ v8 ∧ v8 ≤ 15) → (0 ≤ v9 ∧ v9 ≤ 16) → (0 ≤ v7 ∧ v7 ≤ 40 * v8 + v9) → (x3 < v8 → 1 ≤ v7) → (x3 = v8 ∧ x2 < v9 → 1 ≤ v7) → (x2 / 4 * 4 ≤ v9) → (x3 / 4 * 4 ≤ v8) → 28355184 + 30888 * (16 - v8) + 19008 + 33 * (16 - v9) + 32 < (N : Int) → zV G mX12_baseOf (q_X12_baseOfV2 κ h x1 x2 x3 x4) 45 [some (.inr (.inr 0)), some (.inl x1), some (.inl x2), some (.inl x3), some (.inl x4), some (.inl 4), some (.inl v6), some (.inl v7), some (.inl v8), some (.inl v9)] [] h) := by
    intro N
    induction N with
    | zero =>
      refine ⟨?_, ?_⟩
      · intro v6 v7 v8 g0 gc0 gc1 gc2 hm
        exfalso; omega
      · intro v6 v7 v8 v9 g0 g1 gc0 gc1 gc2 gc3 gc4 hm
        exfalso; omega
    | succ N ih =>
      obtain ⟨k21, k45⟩ := ih
      refine ⟨?_, ?_⟩
      · intro v6 v7 v8 g0 gc0 gc1 gc2 hm
        refine zW_iload (pc' := 23) dX12_baseOf_0.2.2.2.1 rfl rfl ?_
        refine zW_iload_n (pc' := 24) dX12_baseOf_0.2.2.2.2 rfl rfl ?_
        refine zW_iload (pc' := 26) dX12_baseOf_1.1.1.1.1 rfl rfl ?_
        refine zW_idiv (pc' := 27) (by omega) (by omega) dX12_baseOf_1.1.1.1.2 rfl ?_
        refine zW_iload (pc' := 29) dX12_baseOf_1.1.1.2.1 rfl rfl ?_
        refine zW_imul (pc' := 30) dX12_baseOf_1.1.1.2.2 rfl ?_
        refine zW_iload (pc' := 32) dX12_baseOf_1.1.2.1.1 rfl rfl ?_
        refine zW_iadd (pc' := 33) dX12_baseOf_1.1.2.1.2 rfl ?_
        refine zV_cm_ge (tgt := 106) (pc' := 36) dX12_baseOf_1.1.2.2.1 rfl rfl ⟨by omega, by omega⟩ ⟨by omega, by omega⟩ (fun c33 => ?_) (fun c33 => ?_)
        · refine zW_iload (pc' := 108) dX12_baseOf_3.2.2.1.1 rfl rfl ?_
          refine zW_iload (pc' := 110) dX12_baseOf_3.2.2.1.2 rfl rfl ?_
          refine zW_idivQ (pc' := 111) ⟨by omega, by omega⟩ (by omega) dX12_baseOf_3.2.2.2.1 rfl (fun v110 e110 => ?_)
          unfold rng at e110
          exact zV_iret rfl dX12_baseOf_3.2.2.2.2 ⟨rfl, trivial⟩
        · refine zW_iload_n (pc' := 37) dX12_baseOf_1.1.2.2.2 rfl rfl ?_
          refine zW_iload (pc' := 39) dX12_baseOf_1.2.1.1.1 rfl rfl ?_
          refine zW_idiv (pc' := 40) (by omega) (by omega) dX12_baseOf_1.2.1.1.2 rfl ?_
          refine zW_iload (pc' := 42) dX12_baseOf_1.2.1.2.1 rfl rfl ?_
          refine zW_imul (pc' := 43) dX12_baseOf_1.2.1.2.2 rfl ?_
          refine zW_istore (ls' := [_, _, _, _, _, _, _, _, _, _]) (pc' := 45) dX12_baseOf_1.2.2.1.1 (by decide) rfl rfl rfl ?_
          exact k45 _ _ _ _ (by omega) (by omega) (by omega) (by omega) (by omega) (by omega) (by omega) (by omega)
      · intro v6 v7 v8 v9 g0 g1 gc0 gc1 gc2 gc3 gc4 hm
        refine zW_iload (pc' := 47) dX12_baseOf_1.2.2.1.2 rfl rfl ?_
        refine zW_iload_n (pc' := 48) dX12_baseOf_1.2.2.2.1 rfl rfl ?_
        refine zW_iload (pc' := 50) dX12_baseOf_1.2.2.2.2 rfl rfl ?_
        refine zW_idiv (pc' := 51) (by omega) (by omega) dX12_baseOf_2.1.1.1.1 rfl ?_
        refine zW_iload (pc' := 53) dX12_baseOf_2.1.1.1.2 rfl rfl ?_
        refine zW_imul (pc' := 54) dX12_baseOf_2.1.1.2.1 rfl ?_
        refine zW_iload (pc' := 56) dX12_baseOf_2.1.1.2.2 rfl rfl ?_
        refine zW_iadd (pc' := 57) dX12_baseOf_2.1.2.1.1 rfl ?_
        refine zV_cm_ge (tgt := 100) (pc' := 60) dX12_baseOf_2.1.2.1.2 rfl rfl ⟨by omega, by omega⟩ ⟨by omega, by omega⟩ (fun c57 => ?_) (fun c57 => ?_)
        · refine zW_iinc (ls' := [_, _, _, _, _, _, _, _, _, _]) (pc' := 103) dX12_baseOf_3.2.1.2.1 rfl (by decide) rfl rfl rfl ?_
          refine zV_goto 21 dX12_baseOf_3.2.1.2.2 rfl ?_
          refine zV_clr 9 (ls' := [_, _, _, _, _, _, _, _, _, _]) rfl ?_
          exact k21 _ _ _ (by omega) (by omega) (by omega) (by omega) (by omega)
        · refine zW_aload_n (pc' := 61) dX12_baseOf_2.1.2.2.1 rfl rfl ?_
          refine zW_iload (pc' := 63) dX12_baseOf_2.1.2.2.2 rfl rfl ?_
          refine zW_iload (pc' := 65) dX12_baseOf_2.2.1.1.1 rfl rfl ?_
          refine cvI2 (pc' := 68) kX12_isSquare vX12_isSquare lk_X12_218 ⟨Nat.le_of_ble_eq_true rfl, Nat.le_of_ble_eq_true rfl⟩ tb0 vq12 rfl rfl (s_X12_isSquare hK hF _ ⟨by omega, by omega⟩ _ ⟨by omega, by omega⟩) dX12_baseOf_2.2.1.1.2 (Nat.le_of_ble_eq_true rfl) rfl ?_
          rintro r65 z65 ⟨hz65, p65⟩; subst z65
          refine zV_if_ne (tgt := 74) (pc' := 71) dX12_baseOf_2.2.1.2.1 rfl rfl ⟨by omega, by omega⟩ (fun c68 => ?_) (fun c68 => ?_)
          · refine zW_iload (pc' := 76) dX12_baseOf_2.2.2.1.1 rfl rfl ?_
            refine zW_aload_n (pc' := 77) dX12_baseOf_2.2.2.1.2 rfl rfl ?_
            refine zW_iload_n (pc' := 78) dX12_baseOf_2.2.2.2.1 rfl rfl ?_
            refine zW_iload (pc' := 80) dX12_baseOf_2.2.2.2.2 rfl rfl ?_
            refine zW_iload (pc' := 82) dX12_baseOf_3.1.1.1.1 rfl rfl ?_
            refine cvI3 (pc' := 85) kX12_lightAt vX12_lightAt lk_X12_307 ⟨Nat.le_of_ble_eq_true rfl, Nat.le_of_ble_eq_true rfl⟩ tb0 vq12 rfl rfl (s_X12_lightAt hK hF _ ⟨by omega, by omega⟩ _ ⟨by omega, by omega, by omega⟩ _ ⟨by omega, by omega, by omega⟩) dX12_baseOf_3.1.1.1.2 (Nat.le_of_ble_eq_true rfl) rfl ?_
            rintro r82 z82 ⟨hz82, p82⟩; subst z82
            refine zW_iadd (pc' := 86) dX12_baseOf_3.1.1.2.1 rfl ?_
            refine zW_istore (ls' := [_, _, _, _, _, _, _, _, _, _]) (pc' := 88) dX12_baseOf_3.1.1.2.2 (by decide) rfl rfl rfl ?_
            refine zW_iload (pc' := 90) dX12_baseOf_3.1.2.1.1 rfl rfl ?_
            refine zW_iconst (pc' := 91) dX12_baseOf_3.1.2.1.2 rfl ?_
            refine zW_iadd (pc' := 92) dX12_baseOf_3.1.2.2.1 rfl ?_
            refine zW_istore (ls' := [_, _, _, _, _, _, _, _, _, _]) (pc' := 94) dX12_baseOf_3.1.2.2.2 (by decide) rfl rfl rfl ?_
            refine zW_iinc (ls' := [_, _, _, _, _, _, _, _, _, _]) (pc' := 97) dX12_baseOf_3.2.1.1.1 rfl (by decide) rfl rfl rfl ?_
            refine zV_goto 45 dX12_baseOf_3.2.1.1.2 rfl ?_
            exact k45 _ _ _ _ (by omega) (by omega) (by omega) (by omega) (by omega) (by omega) (by omega) (by omega)
          · refine zV_goto 94 dX12_baseOf_2.2.1.2.2 rfl ?_
            refine zW_iinc (ls' := [_, _, _, _, _, _, _, _, _, _]) (pc' := 97) dX12_baseOf_3.2.1.1.1 rfl (by decide) rfl rfl rfl ?_
            refine zV_goto 45 dX12_baseOf_3.2.1.1.2 rfl ?_
            exact k45 _ _ _ _ (by omega) (by omega) (by omega) (by omega) (by omega) (by omega) (by omega) (by omega)
  refine zM_of [some (.inr (.inr 0)), some (.inl x1), some (.inl x2), some (.inl x3), some (.inl x4), none, none, none, none, none] 5 rfl rfl (Nat.le_of_ble_eq_true rfl) rfl ?_
  refine zW_iconst (pc' := 1) dX12_baseOf_0.1.1.1.1 rfl ?_
  refine zW_iload (pc' := 3) dX12_baseOf_0.1.1.1.2 rfl rfl ?_
  refine zW_shl1 (w := 4) (pc' := 4) (by omega) dX12_baseOf_0.1.1.2.1 rfl ?_
  refine zW_istore (ls' := [_, _, _, _, _, _, _, _, _, _]) (pc' := 6) dX12_baseOf_0.1.1.2.2 (by decide) rfl rfl rfl ?_
  refine zW_iconst (pc' := 7) dX12_baseOf_0.1.2.1.1 rfl ?_
  refine zW_istore (ls' := [_, _, _, _, _, _, _, _, _, _]) (pc' := 9) dX12_baseOf_0.1.2.1.2 (by decide) rfl rfl rfl ?_
  refine zW_iconst (pc' := 10) dX12_baseOf_0.1.2.2.1 rfl ?_
  refine zW_istore (ls' := [_, _, _, _, _, _, _, _, _, _]) (pc' := 12) dX12_baseOf_0.1.2.2.2 (by decide) rfl rfl rfl ?_
  refine zW_iload_n (pc' := 13) dX12_baseOf_0.2.1.1.1 rfl rfl ?_
  refine zW_iload (pc' := 15) dX12_baseOf_0.2.1.1.2 rfl rfl ?_
  refine zW_idiv (pc' := 16) (by omega) (by omega) dX12_baseOf_0.2.1.2.1 rfl ?_
  refine zW_iload (pc' := 18) dX12_baseOf_0.2.1.2.2 rfl rfl ?_
  refine zW_imul (pc' := 19) dX12_baseOf_0.2.2.1.1 rfl ?_
  refine zW_istore (ls' := [_, _, _, _, _, _, _, _, _, _]) (pc' := 21) dX12_baseOf_0.2.2.1.2 (by decide) rfl rfl rfl ?_
  exact (main 10000000000000000000000000000000000000000).1 _ _ _ (by omega) (by omega) (by omega) (by omega) (by omega)

abbrev q_X12_baseOfV3 (κ h : Hp) (x1 : Int) (x2 : Int) (x3 : Int) (x4 : Int) : Int → Hp → Prop := fun r h' => h' = h ∧ (True)
set_option maxHeartbeats 4000000 in
set_option maxRecDepth 20000 in
theorem s_X12_baseOfV3 {G : Ga} {b : Bd} {κ h : Hp} (hK : KR κ) (hF : Fr b κ h) (x1 : Int) (hx1 : 0 ≤ x1 ∧ x1 ≤ 14) (x2 : Int) (hx2 : 0 ≤ x2 ∧ x2 ≤ 15 ∧ x2 - κ 0 11 ≤ -1) (x3 : Int) (hx3 : 0 ≤ x3 ∧ x3 ≤ 15 ∧ x3 - κ 0 12 ≤ -1) (x4 : Int) (hx4 : 3 ≤ x4 ∧ x4 ≤ 3) : zM G mX12_baseOf yX12_baseOf [.inr (.inr 0), .inl x1, .inl x2, .inl x3, .inl x4] h (q_X12_baseOfV3 κ h x1 x2 x3 x4) := by
  have f_0_11 := KRw hK
  have f_0_12 := KRh hK
  have main : ∀ N : Nat, (∀ (v6 v7 v8 : Int) , (0 ≤ v8 ∧ v8 ≤ 16) → (0 ≤ v7 ∧ v7 ≤ 40 * v8) → (x3 < v8 → 1 ≤ v7) → (x3 / 8 * 8 ≤ v8) → 28355184 + 30888 * (16 - v8) + 30294 < (N : Int) → zV G mX12_baseOf (q_X12_baseOfV3 κ h x1 x2 x3 x4) 21 [some (.inr (.inr 0)), some (.inl x1), some (.inl x2), some (.inl x3), some (.inl x4), some (.inl 8), some (.inl v6), some (.inl v7), some (.inl v8), none] [] h) ∧ (∀ (v6 v7 v8 v9 : Int) , (0 ≤ v8 ∧ v8 ≤ 15) → (0 ≤ v9 ∧ v9 ≤ 16) → (0 ≤ v7 ∧ v7 ≤ 40 * v8 + v9) → (x3 < v8 → 1 ≤ v7) → (x3 = v8 ∧ x2 < v9 → 1 ≤ v7) → (x2 / 8 * 8 ≤ v9) → (x3 / 8 * 8 ≤ v8) → 28355184 + 30888 * (16 - v8) + 19008 + 33 * (16 - v9) + 32 < (N : Int) → zV G mX12_baseOf (q_X12_baseOfV3 κ h x1 x2 x3 x4) 45 [some (.inr (.inr 0)), some (.inl x1), some (.inl x2), some (.inl x3), some (.inl x4), some (.inl 8), some (.inl v6), some (.inl v7), some (.inl v8), some (.inl v9)] [] h) := by
    intro N
    induction N with
    | zero =>
      refine ⟨?_, ?_⟩
      · intro v6 v7 v8 g0 gc0 gc1 gc2 hm
        exfalso; omega
      · intro v6 v7 v8 v9 g0 g1 gc0 gc1 gc2 gc3 gc4 hm
        exfalso; omega
    | succ N ih =>
      obtain ⟨k21, k45⟩ := ih
      refine ⟨?_, ?_⟩
      · intro v6 v7 v8 g0 gc0 gc1 gc2 hm
        refine zW_iload (pc' := 23) dX12_baseOf_0.2.2.2.1 rfl rfl ?_
        refine zW_iload_n (pc' := 24) dX12_baseOf_0.2.2.2.2 rfl rfl ?_
        refine zW_iload (pc' := 26) dX12_baseOf_1.1.1.1.1 rfl rfl ?_
        refine zW_idiv (pc' := 27) (by omega) (by omega) dX12_baseOf_1.1.1.1.2 rfl ?_
        refine zW_iload (pc' := 29) dX12_baseOf_1.1.1.2.1 rfl rfl ?_
        refine zW_imul (pc' := 30) dX12_baseOf_1.1.1.2.2 rfl ?_
        refine zW_iload (pc' := 32) dX12_baseOf_1.1.2.1.1 rfl rfl ?_
        refine zW_iadd (pc' := 33) dX12_baseOf_1.1.2.1.2 rfl ?_
        refine zV_cm_ge (tgt := 106) (pc' := 36) dX12_baseOf_1.1.2.2.1 rfl rfl ⟨by omega, by omega⟩ ⟨by omega, by omega⟩ (fun c33 => ?_) (fun c33 => ?_)
        · refine zW_iload (pc' := 108) dX12_baseOf_3.2.2.1.1 rfl rfl ?_
          refine zW_iload (pc' := 110) dX12_baseOf_3.2.2.1.2 rfl rfl ?_
          refine zW_idivQ (pc' := 111) ⟨by omega, by omega⟩ (by omega) dX12_baseOf_3.2.2.2.1 rfl (fun v110 e110 => ?_)
          unfold rng at e110
          exact zV_iret rfl dX12_baseOf_3.2.2.2.2 ⟨rfl, trivial⟩
        · refine zW_iload_n (pc' := 37) dX12_baseOf_1.1.2.2.2 rfl rfl ?_
          refine zW_iload (pc' := 39) dX12_baseOf_1.2.1.1.1 rfl rfl ?_
          refine zW_idiv (pc' := 40) (by omega) (by omega) dX12_baseOf_1.2.1.1.2 rfl ?_
          refine zW_iload (pc' := 42) dX12_baseOf_1.2.1.2.1 rfl rfl ?_
          refine zW_imul (pc' := 43) dX12_baseOf_1.2.1.2.2 rfl ?_
          refine zW_istore (ls' := [_, _, _, _, _, _, _, _, _, _]) (pc' := 45) dX12_baseOf_1.2.2.1.1 (by decide) rfl rfl rfl ?_
          exact k45 _ _ _ _ (by omega) (by omega) (by omega) (by omega) (by omega) (by omega) (by omega) (by omega)
      · intro v6 v7 v8 v9 g0 g1 gc0 gc1 gc2 gc3 gc4 hm
        refine zW_iload (pc' := 47) dX12_baseOf_1.2.2.1.2 rfl rfl ?_
        refine zW_iload_n (pc' := 48) dX12_baseOf_1.2.2.2.1 rfl rfl ?_
        refine zW_iload (pc' := 50) dX12_baseOf_1.2.2.2.2 rfl rfl ?_
        refine zW_idiv (pc' := 51) (by omega) (by omega) dX12_baseOf_2.1.1.1.1 rfl ?_
        refine zW_iload (pc' := 53) dX12_baseOf_2.1.1.1.2 rfl rfl ?_
        refine zW_imul (pc' := 54) dX12_baseOf_2.1.1.2.1 rfl ?_
        refine zW_iload (pc' := 56) dX12_baseOf_2.1.1.2.2 rfl rfl ?_
        refine zW_iadd (pc' := 57) dX12_baseOf_2.1.2.1.1 rfl ?_
        refine zV_cm_ge (tgt := 100) (pc' := 60) dX12_baseOf_2.1.2.1.2 rfl rfl ⟨by omega, by omega⟩ ⟨by omega, by omega⟩ (fun c57 => ?_) (fun c57 => ?_)
        · refine zW_iinc (ls' := [_, _, _, _, _, _, _, _, _, _]) (pc' := 103) dX12_baseOf_3.2.1.2.1 rfl (by decide) rfl rfl rfl ?_
          refine zV_goto 21 dX12_baseOf_3.2.1.2.2 rfl ?_
          refine zV_clr 9 (ls' := [_, _, _, _, _, _, _, _, _, _]) rfl ?_
          exact k21 _ _ _ (by omega) (by omega) (by omega) (by omega) (by omega)
        · refine zW_aload_n (pc' := 61) dX12_baseOf_2.1.2.2.1 rfl rfl ?_
          refine zW_iload (pc' := 63) dX12_baseOf_2.1.2.2.2 rfl rfl ?_
          refine zW_iload (pc' := 65) dX12_baseOf_2.2.1.1.1 rfl rfl ?_
          refine cvI2 (pc' := 68) kX12_isSquare vX12_isSquare lk_X12_218 ⟨Nat.le_of_ble_eq_true rfl, Nat.le_of_ble_eq_true rfl⟩ tb0 vq12 rfl rfl (s_X12_isSquare hK hF _ ⟨by omega, by omega⟩ _ ⟨by omega, by omega⟩) dX12_baseOf_2.2.1.1.2 (Nat.le_of_ble_eq_true rfl) rfl ?_
          rintro r65 z65 ⟨hz65, p65⟩; subst z65
          refine zV_if_ne (tgt := 74) (pc' := 71) dX12_baseOf_2.2.1.2.1 rfl rfl ⟨by omega, by omega⟩ (fun c68 => ?_) (fun c68 => ?_)
          · refine zW_iload (pc' := 76) dX12_baseOf_2.2.2.1.1 rfl rfl ?_
            refine zW_aload_n (pc' := 77) dX12_baseOf_2.2.2.1.2 rfl rfl ?_
            refine zW_iload_n (pc' := 78) dX12_baseOf_2.2.2.2.1 rfl rfl ?_
            refine zW_iload (pc' := 80) dX12_baseOf_2.2.2.2.2 rfl rfl ?_
            refine zW_iload (pc' := 82) dX12_baseOf_3.1.1.1.1 rfl rfl ?_
            refine cvI3 (pc' := 85) kX12_lightAt vX12_lightAt lk_X12_307 ⟨Nat.le_of_ble_eq_true rfl, Nat.le_of_ble_eq_true rfl⟩ tb0 vq12 rfl rfl (s_X12_lightAt hK hF _ ⟨by omega, by omega⟩ _ ⟨by omega, by omega, by omega⟩ _ ⟨by omega, by omega, by omega⟩) dX12_baseOf_3.1.1.1.2 (Nat.le_of_ble_eq_true rfl) rfl ?_
            rintro r82 z82 ⟨hz82, p82⟩; subst z82
            refine zW_iadd (pc' := 86) dX12_baseOf_3.1.1.2.1 rfl ?_
            refine zW_istore (ls' := [_, _, _, _, _, _, _, _, _, _]) (pc' := 88) dX12_baseOf_3.1.1.2.2 (by decide) rfl rfl rfl ?_
            refine zW_iload (pc' := 90) dX12_baseOf_3.1.2.1.1 rfl rfl ?_
            refine zW_iconst (pc' := 91) dX12_baseOf_3.1.2.1.2 rfl ?_
            refine zW_iadd (pc' := 92) dX12_baseOf_3.1.2.2.1 rfl ?_
            refine zW_istore (ls' := [_, _, _, _, _, _, _, _, _, _]) (pc' := 94) dX12_baseOf_3.1.2.2.2 (by decide) rfl rfl rfl ?_
            refine zW_iinc (ls' := [_, _, _, _, _, _, _, _, _, _]) (pc' := 97) dX12_baseOf_3.2.1.1.1 rfl (by decide) rfl rfl rfl ?_
            refine zV_goto 45 dX12_baseOf_3.2.1.1.2 rfl ?_
            exact k45 _ _ _ _ (by omega) (by omega) (by omega) (by omega) (by omega) (by omega) (by omega) (by omega)
          · refine zV_goto 94 dX12_baseOf_2.2.1.2.2 rfl ?_
            refine zW_iinc (ls' := [_, _, _, _, _, _, _, _, _, _]) (pc' := 97) dX12_baseOf_3.2.1.1.1 rfl (by decide) rfl rfl rfl ?_
            refine zV_goto 45 dX12_baseOf_3.2.1.1.2 rfl ?_
            exact k45 _ _ _ _ (by omega) (by omega) (by omega) (by omega) (by omega) (by omega) (by omega) (by omega)
  refine zM_of [some (.inr (.inr 0)), some (.inl x1), some (.inl x2), some (.inl x3), some (.inl x4), none, none, none, none, none] 5 rfl rfl (Nat.le_of_ble_eq_true rfl) rfl ?_
  refine zW_iconst (pc' := 1) dX12_baseOf_0.1.1.1.1 rfl ?_
  refine zW_iload (pc' := 3) dX12_baseOf_0.1.1.1.2 rfl rfl ?_
  refine zW_shl1 (w := 8) (pc' := 4) (by omega) dX12_baseOf_0.1.1.2.1 rfl ?_
  refine zW_istore (ls' := [_, _, _, _, _, _, _, _, _, _]) (pc' := 6) dX12_baseOf_0.1.1.2.2 (by decide) rfl rfl rfl ?_
  refine zW_iconst (pc' := 7) dX12_baseOf_0.1.2.1.1 rfl ?_
  refine zW_istore (ls' := [_, _, _, _, _, _, _, _, _, _]) (pc' := 9) dX12_baseOf_0.1.2.1.2 (by decide) rfl rfl rfl ?_
  refine zW_iconst (pc' := 10) dX12_baseOf_0.1.2.2.1 rfl ?_
  refine zW_istore (ls' := [_, _, _, _, _, _, _, _, _, _]) (pc' := 12) dX12_baseOf_0.1.2.2.2 (by decide) rfl rfl rfl ?_
  refine zW_iload_n (pc' := 13) dX12_baseOf_0.2.1.1.1 rfl rfl ?_
  refine zW_iload (pc' := 15) dX12_baseOf_0.2.1.1.2 rfl rfl ?_
  refine zW_idiv (pc' := 16) (by omega) (by omega) dX12_baseOf_0.2.1.2.1 rfl ?_
  refine zW_iload (pc' := 18) dX12_baseOf_0.2.1.2.2 rfl rfl ?_
  refine zW_imul (pc' := 19) dX12_baseOf_0.2.2.1.1 rfl ?_
  refine zW_istore (ls' := [_, _, _, _, _, _, _, _, _, _]) (pc' := 21) dX12_baseOf_0.2.2.1.2 (by decide) rfl rfl rfl ?_
  exact (main 10000000000000000000000000000000000000000).1 _ _ _ (by omega) (by omega) (by omega) (by omega) (by omega)

abbrev q_X12_baseOfV4 (κ h : Hp) (x1 : Int) (x2 : Int) (x3 : Int) (x4 : Int) : Int → Hp → Prop := fun r h' => h' = h ∧ (True)
set_option maxHeartbeats 4000000 in
set_option maxRecDepth 20000 in
theorem s_X12_baseOfV4 {G : Ga} {b : Bd} {κ h : Hp} (hK : KR κ) (hF : Fr b κ h) (x1 : Int) (hx1 : 0 ≤ x1 ∧ x1 ≤ 14) (x2 : Int) (hx2 : 0 ≤ x2 ∧ x2 ≤ 15 ∧ x2 - κ 0 11 ≤ -1) (x3 : Int) (hx3 : 0 ≤ x3 ∧ x3 ≤ 15 ∧ x3 - κ 0 12 ≤ -1) (x4 : Int) (hx4 : 4 ≤ x4 ∧ x4 ≤ 4) : zM G mX12_baseOf yX12_baseOf [.inr (.inr 0), .inl x1, .inl x2, .inl x3, .inl x4] h (q_X12_baseOfV4 κ h x1 x2 x3 x4) := by
  have f_0_11 := KRw hK
  have f_0_12 := KRh hK
  have main : ∀ N : Nat, (∀ (v6 v7 v8 : Int) , (0 ≤ v8 ∧ v8 ≤ 16) → (0 ≤ v7 ∧ v7 ≤ 40 * v8) → (x3 < v8 → 1 ≤ v7) → (x3 / 16 * 16 ≤ v8) → 28355184 + 30888 * (16 - v8) + 30294 < (N : Int) → zV G mX12_baseOf (q_X12_baseOfV4 κ h x1 x2 x3 x4) 21 [some (.inr (.inr 0)), some (.inl x1), some (.inl x2), some (.inl x3), some (.inl x4), some (.inl 16), some (.inl v6), some (.inl v7), some (.inl v8), none] [] h) ∧ (∀ (v6 v7 v8 v9 : Int) , (0 ≤ v8 ∧ v8 ≤ 15) → (0 ≤ v9 ∧ v9 ≤ 16) → (0 ≤ v7 ∧ v7 ≤ 40 * v8 + v9) → (x3 < v8 → 1 ≤ v7) → (x3 = v8 ∧ x2 < v9 → 1 ≤ v7) → (x2 / 16 * 16 ≤ v9) → (x3 / 16 * 16 ≤ v8) → 28355184 + 30888 * (16 - v8) + 19008 + 33 * (16 - v9) + 32 < (N : Int) → zV G mX12_baseOf (q_X12_baseOfV4 κ h x1 x2 x3 x4) 45 [some (.inr (.inr 0)), some (.inl x1), some (.inl x2), some (.inl x3), some (.inl x4), some (.inl 16), some (.inl v6), some (.inl v7), some (.inl v8), some (.inl v9)] [] h) := by
    intro N
    induction N with
    | zero =>
      refine ⟨?_, ?_⟩
      · intro v6 v7 v8 g0 gc0 gc1 gc2 hm
        exfalso; omega
      · intro v6 v7 v8 v9 g0 g1 gc0 gc1 gc2 gc3 gc4 hm
        exfalso; omega
    | succ N ih =>
      obtain ⟨k21, k45⟩ := ih
      refine ⟨?_, ?_⟩
      · intro v6 v7 v8 g0 gc0 gc1 gc2 hm
        refine zW_iload (pc' := 23) dX12_baseOf_0.2.2.2.1 rfl rfl ?_
        refine zW_iload_n (pc' := 24) dX12_baseOf_0.2.2.2.2 rfl rfl ?_
        refine zW_iload (pc' := 26) dX12_baseOf_1.1.1.1.1 rfl rfl ?_
        refine zW_idiv (pc' := 27) (by omega) (by omega) dX12_baseOf_1.1.1.1.2 rfl ?_
        refine zW_iload (pc' := 29) dX12_baseOf_1.1.1.2.1 rfl rfl ?_
        refine zW_imul (pc' := 30) dX12_baseOf_1.1.1.2.2 rfl ?_
        refine zW_iload (pc' := 32) dX12_baseOf_1.1.2.1.1 rfl rfl ?_
        refine zW_iadd (pc' := 33) dX12_baseOf_1.1.2.1.2 rfl ?_
        refine zV_cm_ge (tgt := 106) (pc' := 36) dX12_baseOf_1.1.2.2.1 rfl rfl ⟨by omega, by omega⟩ ⟨by omega, by omega⟩ (fun c33 => ?_) (fun c33 => ?_)
        · refine zW_iload (pc' := 108) dX12_baseOf_3.2.2.1.1 rfl rfl ?_
          refine zW_iload (pc' := 110) dX12_baseOf_3.2.2.1.2 rfl rfl ?_
          refine zW_idivQ (pc' := 111) ⟨by omega, by omega⟩ (by omega) dX12_baseOf_3.2.2.2.1 rfl (fun v110 e110 => ?_)
          unfold rng at e110
          exact zV_iret rfl dX12_baseOf_3.2.2.2.2 ⟨rfl, trivial⟩
        · refine zW_iload_n (pc' := 37) dX12_baseOf_1.1.2.2.2 rfl rfl ?_
          refine zW_iload (pc' := 39) dX12_baseOf_1.2.1.1.1 rfl rfl ?_
          refine zW_idiv (pc' := 40) (by omega) (by omega) dX12_baseOf_1.2.1.1.2 rfl ?_
          refine zW_iload (pc' := 42) dX12_baseOf_1.2.1.2.1 rfl rfl ?_
          refine zW_imul (pc' := 43) dX12_baseOf_1.2.1.2.2 rfl ?_
          refine zW_istore (ls' := [_, _, _, _, _, _, _, _, _, _]) (pc' := 45) dX12_baseOf_1.2.2.1.1 (by decide) rfl rfl rfl ?_
          exact k45 _ _ _ _ (by omega) (by omega) (by omega) (by omega) (by omega) (by omega) (by omega) (by omega)
      · intro v6 v7 v8 v9 g0 g1 gc0 gc1 gc2 gc3 gc4 hm
        refine zW_iload (pc' := 47) dX12_baseOf_1.2.2.1.2 rfl rfl ?_
        refine zW_iload_n (pc' := 48) dX12_baseOf_1.2.2.2.1 rfl rfl ?_
        refine zW_iload (pc' := 50) dX12_baseOf_1.2.2.2.2 rfl rfl ?_
        refine zW_idiv (pc' := 51) (by omega) (by omega) dX12_baseOf_2.1.1.1.1 rfl ?_
        refine zW_iload (pc' := 53) dX12_baseOf_2.1.1.1.2 rfl rfl ?_
        refine zW_imul (pc' := 54) dX12_baseOf_2.1.1.2.1 rfl ?_
        refine zW_iload (pc' := 56) dX12_baseOf_2.1.1.2.2 rfl rfl ?_
        refine zW_iadd (pc' := 57) dX12_baseOf_2.1.2.1.1 rfl ?_
        refine zV_cm_ge (tgt := 100) (pc' := 60) dX12_baseOf_2.1.2.1.2 rfl rfl ⟨by omega, by omega⟩ ⟨by omega, by omega⟩ (fun c57 => ?_) (fun c57 => ?_)
        · refine zW_iinc (ls' := [_, _, _, _, _, _, _, _, _, _]) (pc' := 103) dX12_baseOf_3.2.1.2.1 rfl (by decide) rfl rfl rfl ?_
          refine zV_goto 21 dX12_baseOf_3.2.1.2.2 rfl ?_
          refine zV_clr 9 (ls' := [_, _, _, _, _, _, _, _, _, _]) rfl ?_
          exact k21 _ _ _ (by omega) (by omega) (by omega) (by omega) (by omega)
        · refine zW_aload_n (pc' := 61) dX12_baseOf_2.1.2.2.1 rfl rfl ?_
          refine zW_iload (pc' := 63) dX12_baseOf_2.1.2.2.2 rfl rfl ?_
          refine zW_iload (pc' := 65) dX12_baseOf_2.2.1.1.1 rfl rfl ?_
          refine cvI2 (pc' := 68) kX12_isSquare vX12_isSquare lk_X12_218 ⟨Nat.le_of_ble_eq_true rfl, Nat.le_of_ble_eq_true rfl⟩ tb0 vq12 rfl rfl (s_X12_isSquare hK hF _ ⟨by omega, by omega⟩ _ ⟨by omega, by omega⟩) dX12_baseOf_2.2.1.1.2 (Nat.le_of_ble_eq_true rfl) rfl ?_
          rintro r65 z65 ⟨hz65, p65⟩; subst z65
          refine zV_if_ne (tgt := 74) (pc' := 71) dX12_baseOf_2.2.1.2.1 rfl rfl ⟨by omega, by omega⟩ (fun c68 => ?_) (fun c68 => ?_)
          · refine zW_iload (pc' := 76) dX12_baseOf_2.2.2.1.1 rfl rfl ?_
            refine zW_aload_n (pc' := 77) dX12_baseOf_2.2.2.1.2 rfl rfl ?_
            refine zW_iload_n (pc' := 78) dX12_baseOf_2.2.2.2.1 rfl rfl ?_
            refine zW_iload (pc' := 80) dX12_baseOf_2.2.2.2.2 rfl rfl ?_
            refine zW_iload (pc' := 82) dX12_baseOf_3.1.1.1.1 rfl rfl ?_
            refine cvI3 (pc' := 85) kX12_lightAt vX12_lightAt lk_X12_307 ⟨Nat.le_of_ble_eq_true rfl, Nat.le_of_ble_eq_true rfl⟩ tb0 vq12 rfl rfl (s_X12_lightAt hK hF _ ⟨by omega, by omega⟩ _ ⟨by omega, by omega, by omega⟩ _ ⟨by omega, by omega, by omega⟩) dX12_baseOf_3.1.1.1.2 (Nat.le_of_ble_eq_true rfl) rfl ?_
            rintro r82 z82 ⟨hz82, p82⟩; subst z82
            refine zW_iadd (pc' := 86) dX12_baseOf_3.1.1.2.1 rfl ?_
            refine zW_istore (ls' := [_, _, _, _, _, _, _, _, _, _]) (pc' := 88) dX12_baseOf_3.1.1.2.2 (by decide) rfl rfl rfl ?_
            refine zW_iload (pc' := 90) dX12_baseOf_3.1.2.1.1 rfl rfl ?_
            refine zW_iconst (pc' := 91) dX12_baseOf_3.1.2.1.2 rfl ?_
            refine zW_iadd (pc' := 92) dX12_baseOf_3.1.2.2.1 rfl ?_
            refine zW_istore (ls' := [_, _, _, _, _, _, _, _, _, _]) (pc' := 94) dX12_baseOf_3.1.2.2.2 (by decide) rfl rfl rfl ?_
            refine zW_iinc (ls' := [_, _, _, _, _, _, _, _, _, _]) (pc' := 97) dX12_baseOf_3.2.1.1.1 rfl (by decide) rfl rfl rfl ?_
            refine zV_goto 45 dX12_baseOf_3.2.1.1.2 rfl ?_
            exact k45 _ _ _ _ (by omega) (by omega) (by omega) (by omega) (by omega) (by omega) (by omega) (by omega)
          · refine zV_goto 94 dX12_baseOf_2.2.1.2.2 rfl ?_
            refine zW_iinc (ls' := [_, _, _, _, _, _, _, _, _, _]) (pc' := 97) dX12_baseOf_3.2.1.1.1 rfl (by decide) rfl rfl rfl ?_
            refine zV_goto 45 dX12_baseOf_3.2.1.1.2 rfl ?_
            exact k45 _ _ _ _ (by omega) (by omega) (by omega) (by omega) (by omega) (by omega) (by omega) (by omega)
  refine zM_of [some (.inr (.inr 0)), some (.inl x1), some (.inl x2), some (.inl x3), some (.inl x4), none, none, none, none, none] 5 rfl rfl (Nat.le_of_ble_eq_true rfl) rfl ?_
  refine zW_iconst (pc' := 1) dX12_baseOf_0.1.1.1.1 rfl ?_
  refine zW_iload (pc' := 3) dX12_baseOf_0.1.1.1.2 rfl rfl ?_
  refine zW_shl1 (w := 16) (pc' := 4) (by omega) dX12_baseOf_0.1.1.2.1 rfl ?_
  refine zW_istore (ls' := [_, _, _, _, _, _, _, _, _, _]) (pc' := 6) dX12_baseOf_0.1.1.2.2 (by decide) rfl rfl rfl ?_
  refine zW_iconst (pc' := 7) dX12_baseOf_0.1.2.1.1 rfl ?_
  refine zW_istore (ls' := [_, _, _, _, _, _, _, _, _, _]) (pc' := 9) dX12_baseOf_0.1.2.1.2 (by decide) rfl rfl rfl ?_
  refine zW_iconst (pc' := 10) dX12_baseOf_0.1.2.2.1 rfl ?_
  refine zW_istore (ls' := [_, _, _, _, _, _, _, _, _, _]) (pc' := 12) dX12_baseOf_0.1.2.2.2 (by decide) rfl rfl rfl ?_
  refine zW_iload_n (pc' := 13) dX12_baseOf_0.2.1.1.1 rfl rfl ?_
  refine zW_iload (pc' := 15) dX12_baseOf_0.2.1.1.2 rfl rfl ?_
  refine zW_idiv (pc' := 16) (by omega) (by omega) dX12_baseOf_0.2.1.2.1 rfl ?_
  refine zW_iload (pc' := 18) dX12_baseOf_0.2.1.2.2 rfl rfl ?_
  refine zW_imul (pc' := 19) dX12_baseOf_0.2.2.1.1 rfl ?_
  refine zW_istore (ls' := [_, _, _, _, _, _, _, _, _, _]) (pc' := 21) dX12_baseOf_0.2.2.1.2 (by decide) rfl rfl rfl ?_
  exact (main 10000000000000000000000000000000000000000).1 _ _ _ (by omega) (by omega) (by omega) (by omega) (by omega)
