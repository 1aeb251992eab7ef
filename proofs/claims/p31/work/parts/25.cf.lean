abbrev q_X11_isLeftOf (κ h : Hp) (x1 : Int) (x2 : Int) : Int → Hp → Prop := fun r h' => h' = h ∧ ((0 ≤ r) ∧ (r ≤ 1) ∧ (r = 1 → 0 ≤ x1 ∧ x1 ≤ κ 41 0 ∧ 0 ≤ x2 ∧ x2 ≤ 2))
set_option maxHeartbeats 4000000 in
set_option maxRecDepth 20000 in
theorem s_X11_isLeftOf {G : Ga} {b : Bd} {κ h : Hp} (hK : KC κ) (hF : Fr b κ h) (x1 : Int) (hx1 : rng x1) (x2 : Int) (hx2 : rng x2) : zM G mX11_isLeftOf yX11_isLeftOf [.inr (.inr 30), .inl x1, .inl x2] h (q_X11_isLeftOf κ h x1 x2) := by
  have f_41_0 := KCm hK
  unfold rng at hx1
  unfold rng at hx2
  refine zM_of [some (.inr (.inr 30)), some (.inl x1), some (.inl x2)] 0 rfl rfl (Nat.le_of_ble_eq_true rfl) rfl ?_
  refine zW_aload_n (pc' := 1) dX11_isLeftOf_0.1.1.1.1 rfl rfl ?_
  refine zG_ref (pc' := 4) 41 fg_X11_33 tb30 rfl dX11_isLeftOf_0.1.1.1.2 rfl ?_
  refine zW_iload_n (pc' := 5) dX11_isLeftOf_0.1.1.2.1 rfl rfl ?_
  refine cvI1 (pc' := 8) kX7_leaves vX7_leaves lk_X11_189 ⟨Nat.le_of_ble_eq_true rfl, Nat.le_of_ble_eq_true rfl⟩ tb41 vq7 rfl rfl (s_X7_leaves hK hF _ ⟨by omega, by omega⟩) dX11_isLeftOf_0.1.1.2.2 (Nat.le_of_ble_eq_true rfl) rfl ?_
  rintro r5 z5 ⟨hz5, p5⟩; subst z5
  refine zV_if_eq (tgt := 23) (pc' := 11) dX11_isLeftOf_0.1.2.1.1 rfl rfl ⟨by omega, by omega⟩ (fun c8 => ?_) (fun c8 => ?_)
  · refine zW_iconst (pc' := 24) dX11_isLeftOf_0.2.2.1.2 rfl ?_
    exact zV_zret rfl (by omega) dX11_isLeftOf_0.2.2.2 ⟨rfl, by omega⟩
  · refine zW_iload_n (pc' := 12) dX11_isLeftOf_0.1.2.1.2 rfl rfl ?_
    refine zW_iconst (pc' := 13) dX11_isLeftOf_0.1.2.2 rfl ?_
    refine csI2 (pc' := 16) kX11_isWithin vX11_isWithin lk_X11_116 ⟨Nat.le_of_ble_eq_true rfl, Nat.le_of_ble_eq_true rfl⟩ rfl (s_X11_isWithinR hF _ ⟨by omega, by omega⟩ _ ⟨by omega, by omega⟩) dX11_isLeftOf_0.2.1.1.1 (Nat.le_of_ble_eq_true rfl) rfl ?_
    rintro r13 z13 ⟨hz13, p13⟩; subst z13
    refine zV_if_eq (tgt := 23) (pc' := 19) dX11_isLeftOf_0.2.1.1.2 rfl rfl ⟨by omega, by omega⟩ (fun c16 => ?_) (fun c16 => ?_)
    · refine zW_iconst (pc' := 24) dX11_isLeftOf_0.2.2.1.2 rfl ?_
      exact zV_zret rfl (by omega) dX11_isLeftOf_0.2.2.2 ⟨rfl, by omega⟩
    · refine zW_iconst (pc' := 20) dX11_isLeftOf_0.2.1.2 rfl ?_
      refine zV_goto 24 dX11_isLeftOf_0.2.2.1.1 rfl ?_
      exact zV_zret rfl (by omega) dX11_isLeftOf_0.2.2.2 ⟨rfl, by omega⟩

abbrev q_X11_markFound (b : Bd) (κ : Hp) (x1 : Int) : Int → Hp → Prop := fun r h' => Fr b κ h' ∧ (True)
set_option maxHeartbeats 4000000 in
set_option maxRecDepth 20000 in
theorem s_X11_markFound {G : Ga} {b : Bd} {κ h : Hp} (hK : KC κ) (hF : Fr b κ h) (x1 : Int) (hx1 : 1 ≤ x1 ∧ x1 ≤ 12) (hSh : SheetOK b) : zM G mX11_markFound yX11_markFound [.inr (.inr 30), .inl x1] h (q_X11_markFound b κ x1) := by
  have f_33_0 := KCw hK
  have f_33_1 := KCh hK
  have main : ∀ N : Nat, (∀ (v3 v4 : Int) (t2 : Nat) (h : Hp), Fr b κ h → (56 ≤ t2 ∧ t2 ≤ 70) → (rng v3) → (0 ≤ v4 ∧ v4 ≤ 16) → (v4 - κ 33 1 ≤ 0) → 7713792 + 13824 * (16 - v4) + 13392 < (N : Int) → zV G mX11_markFound (q_X11_markFound b κ x1) 24 [some (.inr (.inr 30)), some (.inl x1), some (.inr (.inr t2)), some (.inl v3), some (.inl v4), none] [] h) ∧ (∀ (v3 v4 v5 : Int) (t2 : Nat) (h : Hp), Fr b κ h → (56 ≤ t2 ∧ t2 ≤ 70) → (rng v3) → (0 ≤ v4 ∧ v4 ≤ 15) → (v4 - κ 33 1 ≤ -1) → (0 ≤ v5 ∧ v5 ≤ 16) → (v5 - κ 33 0 ≤ 0) → 7713792 + 13824 * (16 - v4) + 9936 + 24 * (16 - v5) + 23 < (N : Int) → zV G mX11_markFound (q_X11_markFound b κ x1) 39 [some (.inr (.inr 30)), some (.inl x1), some (.inr (.inr t2)), some (.inl v3), some (.inl v4), some (.inl v5)] [] h) := by
    intro N
    induction N with
    | zero =>
      refine ⟨?_, ?_⟩
      · intro v3 v4 t2 h hF g0 g1 g2 g3 hm
        unfold rng at g1
        exfalso; omega
      · intro v3 v4 v5 t2 h hF g0 g1 g2 g3 g4 g5 hm
        unfold rng at g1
        exfalso; omega
    | succ N ih =>
      obtain ⟨k24, k39⟩ := ih
      refine ⟨?_, ?_⟩
      · intro v3 v4 t2 h hF g0 g1 g2 g3 hm
        unfold rng at g1
        refine zW_iload (pc' := 26) dX11_markFound_0.2.2.2.2 rfl rfl ?_
        refine zW_aload_n (pc' := 27) dX11_markFound_1.1.1.1.1 rfl rfl ?_
        refine zG_ref (pc' := 30) 33 fg_X11_19 tb30 rfl dX11_markFound_1.1.1.1.2 rfl ?_
        refine zG_key (pc' := 33) hF rfl fg_X11_127 tb33 rfl dX11_markFound_1.1.1.2.1 rfl ?_
        refine zV_cm_ge (tgt := 90) (pc' := 36) dX11_markFound_1.1.1.2.2 rfl rfl ⟨by omega, by omega⟩ ⟨by omega, by omega⟩ (fun c33 => ?_) (fun c33 => ?_)
        · exact zV_vret rfl dX11_markFound_2.2.2.2 ⟨hF, trivial⟩
        · refine zW_iconst (pc' := 37) dX11_markFound_1.1.2.1.1 rfl ?_
          refine zW_istore (ls' := [_, _, _, _, _, _]) (pc' := 39) dX11_markFound_1.1.2.1.2 (by decide) rfl rfl rfl ?_
          exact k39 _ _ _ _ _ hF (by omega) ⟨by omega, by omega⟩ (by omega) (by omega) (by omega) (by omega) (by omega)
      · intro v3 v4 v5 t2 h hF g0 g1 g2 g3 g4 g5 hm
        unfold rng at g1
        refine zW_iload (pc' := 41) dX11_markFound_1.1.2.2.1 rfl rfl ?_
        refine zW_aload_n (pc' := 42) dX11_markFound_1.1.2.2.2 rfl rfl ?_
        refine zG_ref (pc' := 45) 33 fg_X11_19 tb30 rfl dX11_markFound_1.2.1.1.1 rfl ?_
        refine zG_key (pc' := 48) hF rfl fg_X11_130 tb33 rfl dX11_markFound_1.2.1.1.2 rfl ?_
        refine zV_cm_ge (tgt := 84) (pc' := 51) dX11_markFound_1.2.1.2.1 rfl rfl ⟨by omega, by omega⟩ ⟨by omega, by omega⟩ (fun c48 => ?_) (fun c48 => ?_)
        · refine zW_iinc (ls' := [_, _, _, _, _, _]) (pc' := 87) dX11_markFound_2.2.2.1.1 rfl (by decide) rfl rfl rfl ?_
          refine zV_goto 24 dX11_markFound_2.2.2.1.2 rfl ?_
          refine zV_clr 5 (ls' := [_, _, _, _, _, _]) rfl ?_
          exact k24 _ _ _ _ hF (by omega) ⟨by omega, by omega⟩ (by omega) (by omega) (by omega)
        · refine zW_aload_n (pc' := 52) dX11_markFound_1.2.1.2.2 rfl rfl ?_
          refine zG_ref (pc' := 55) 98 fg_X11_67 tb30 rfl dX11_markFound_1.2.2.1.1 rfl ?_
          refine zW_iload (pc' := 57) dX11_markFound_1.2.2.1.2 rfl rfl ?_
          refine zW_iload (pc' := 59) dX11_markFound_1.2.2.2.1 rfl rfl ?_
          refine zW_aload_n (pc' := 60) dX11_markFound_1.2.2.2.2 rfl rfl ?_
          refine zG_ref (pc' := 63) 54 fg_X11_51 tb30 rfl dX11_markFound_2.1.1.1.1 rfl ?_
          refine zG_ref (pc' := 66) 86 fg_X11_231 tb54 rfl dX11_markFound_2.1.1.1.2 rfl ?_
          refine zW_aload_n (pc' := 67) dX11_markFound_2.1.1.2.1 rfl rfl ?_
          refine zW_iload (pc' := 69) dX11_markFound_2.1.1.2.2 rfl rfl ?_
          refine zW_iload (pc' := 71) dX11_markFound_2.1.2.1.1 rfl rfl ?_
          refine zW_iload_n (pc' := 72) dX11_markFound_2.1.2.1.2 rfl rfl ?_
          refine cvI4 (pc' := 75) kX2_isFound vX2_isFound lk_X11_399 ⟨Nat.le_of_ble_eq_true rfl, Nat.le_of_ble_eq_true rfl⟩ tb86 vq2 rfl rfl (s_X2_isFound hK hF _ ⟨by omega, by omega⟩ _ ⟨by omega, by omega, by omega⟩ _ ⟨by omega, by omega, by omega⟩ _) dX11_markFound_2.1.2.2 (Nat.le_of_ble_eq_true rfl) rfl ?_
          rintro r72 z72 ⟨hz72, p72⟩; subst z72
          refine cvV3 (pc' := 78) kX0_put vX0_put lk_X11_403 ⟨Nat.le_of_ble_eq_true rfl, Nat.le_of_ble_eq_true rfl⟩ tb98 vq0 rfl rfl (s_X0_put hK hF _ ⟨by omega, by omega⟩ _ ⟨by omega, by omega⟩ _ ⟨by omega, by omega⟩) dX11_markFound_2.2.1.1.1 (Nat.le_of_ble_eq_true rfl) rfl ?_
          rintro r75 h ⟨hF, p75⟩
          refine zW_iinc (ls' := [_, _, _, _, _, _]) (pc' := 81) dX11_markFound_2.2.1.1.2 rfl (by decide) rfl rfl rfl ?_
          refine zV_goto 39 dX11_markFound_2.2.1.2 rfl ?_
          exact k39 _ _ _ _ _ hF (by omega) ⟨by omega, by omega⟩ (by omega) (by omega) (by omega) (by omega) (by omega)
  refine zM_of [some (.inr (.inr 30)), some (.inl x1), none, none, none, none] 4 rfl rfl (Nat.le_of_ble_eq_true rfl) rfl ?_
  refine zW_aload_n (pc' := 1) dX11_markFound_0.1.1.1.1 rfl rfl ?_
  refine zG_ref (pc' := 4) 54 fg_X11_51 tb30 rfl dX11_markFound_0.1.1.1.2 rfl ?_
  refine zW_iload_n (pc' := 5) dX11_markFound_0.1.1.2.1 rfl rfl ?_
  refine zW_iconst (pc' := 6) dX11_markFound_0.1.1.2.2 rfl ?_
  refine zW_isub (pc' := 7) dX11_markFound_0.1.2.1.1 rfl ?_
  refine cvA1 (pc' := 10) kX1_sheetOf vX1_sheetOf lk_X11_192 ⟨Nat.le_of_ble_eq_true rfl, Nat.le_of_ble_eq_true rfl⟩ tb54 vq1 rfl rfl (hSh hK hF _ ⟨by omega, by omega⟩) dX11_markFound_0.1.2.1.2 (Nat.le_of_ble_eq_true rfl) rfl ?_
  rintro r7 h ⟨hF, p7⟩
  obtain ⟨q7, z7⟩ : ∃ z : Nat, z = r7.toNat := ⟨_, rfl⟩
  rw [← z7]
  refine zW_astore_n (ls' := [_, _, _, _, _, _]) (pc' := 11) dX11_markFound_0.1.2.2.1 (by decide) rfl rfl rfl ?_
  refine zW_aload_n (pc' := 12) dX11_markFound_0.1.2.2.2 rfl rfl ?_
  refine zG_ref (pc' := 15) 41 fg_X11_33 tb30 rfl dX11_markFound_0.2.1.1.1 rfl ?_
  refine zW_iload_n (pc' := 16) dX11_markFound_0.2.1.1.2 rfl rfl ?_
  refine zW_iconst (pc' := 17) dX11_markFound_0.2.1.2.1 rfl ?_
  refine cvI2 (pc' := 20) kX7_numberOf vX7_numberOf lk_X11_186 ⟨Nat.le_of_ble_eq_true rfl, Nat.le_of_ble_eq_true rfl⟩ tb41 vq7 rfl rfl (s_X7_numberOf hK hF _ ⟨by omega, by omega⟩ _ ⟨by omega, by omega⟩) dX11_markFound_0.2.1.2.2 (Nat.le_of_ble_eq_true rfl) rfl ?_
  rintro r17 z17 ⟨hz17, p17⟩; subst z17
  refine zW_istore_n (ls' := [_, _, _, _, _, _]) (pc' := 21) dX11_markFound_0.2.2.1.1 (by decide) rfl rfl rfl ?_
  refine zW_iconst (pc' := 22) dX11_markFound_0.2.2.1.2 rfl ?_
  refine zW_istore (ls' := [_, _, _, _, _, _]) (pc' := 24) dX11_markFound_0.2.2.2.1 (by decide) rfl rfl rfl ?_
  exact (main 10000000000000000000000000000000000000000).1 _ _ _ _ hF (by omega) ⟨by omega, by omega⟩ (by omega) (by omega) (by omega)

abbrev q_X11_badness (b : Bd) (κ : Hp) (s1 : Nat) (x2 : Int) : Int → Hp → Prop := fun r h' => Fr b κ h' ∧ (True)
set_option maxHeartbeats 4000000 in
set_option maxRecDepth 20000 in
theorem s_X11_badness {G : Ga} {b : Bd} {κ h : Hp} (hK : KC κ) (hF : Fr b κ h) (s1 : Nat) (hs1 : 56 ≤ s1 ∧ s1 ≤ 70) (x2 : Int) (hx2 : rng x2) : zM G mX11_badness yX11_badness [.inr (.inr 30), .inr (.inr s1), .inl x2] h (q_X11_badness b κ s1 x2) := by
  unfold rng at hx2
  have main : ∀ N : Nat, (∀ (v3 v5 : Int) (h : Hp), Fr b κ h → (0 ≤ v5 ∧ v5 ≤ 3) → 9900 + 45 * (3 - v5) + 44 < (N : Int) → zV G mX11_badness (q_X11_badness b κ s1 x2) 23 [some (.inr (.inr 30)), some (.inr (.inr s1)), some (.inl x2), some (.inr (.inl v3)), none, some (.inl v5)] [] h) := by
    intro N
    induction N with
    | zero =>
      intro v3 v5 h hF g0 hm
      exfalso; omega
    | succ N ih =>
      have k23 := ih
      intro v3 v5 h hF g0 hm
      refine zW_iload (pc' := 25) dX11_badness_0.2.2.2.1 rfl rfl ?_
      refine zW_iconst (pc' := 26) dX11_badness_0.2.2.2.2 rfl ?_
      refine zV_cm_gt (tgt := 88) (pc' := 29) dX11_badness_1.1.1.1.1 rfl rfl ⟨by omega, by omega⟩ ⟨by omega, by omega⟩ (fun c26 => ?_) (fun c26 => ?_)
      · refine zW_lload_n (pc' := 89) dX11_badness_3.1 rfl rfl ?_
        exact zV_lret rfl dX11_badness_3.2 ⟨hF, trivial⟩
      · refine zW_iload_n (pc' := 30) dX11_badness_1.1.1.1.2 rfl rfl ?_
        refine zV_if_ne (tgt := 58) (pc' := 33) dX11_badness_1.1.1.2.1 rfl rfl ⟨by omega, by omega⟩ (fun c30 => ?_) (fun c30 => ?_)
        · refine zW_aload_n (pc' := 59) dX11_badness_2.1.1.1.2 rfl rfl ?_
          refine zG_ref (pc' := 62) 95 fg_X11_60 tb30 rfl dX11_badness_2.1.1.2.1 rfl ?_
          refine zW_aload_n (pc' := 63) dX11_badness_2.1.1.2.2 rfl rfl ?_
          refine zW_aload_n (pc' := 64) dX11_badness_2.1.2.1.1 rfl rfl ?_
          refine zG_ref (pc' := 67) 39 fg_X11_26 tb30 rfl dX11_badness_2.1.2.1.2 rfl ?_
          refine zW_iload (pc' := 69) dX11_badness_2.1.2.2.1 rfl rfl ?_
          refine cvV3 (pc' := 72) kX4_findErrors vX4_findErrors lk_X11_346 ⟨Nat.le_of_ble_eq_true rfl, Nat.le_of_ble_eq_true rfl⟩ tb95 vq4 rfl rfl (s_X4_findErrors hK hF _ ⟨by omega, by omega⟩ _ ⟨by omega, by omega⟩) dX11_badness_2.1.2.2.2 (Nat.le_of_ble_eq_true rfl) rfl ?_
          rintro r69 h ⟨hF, p69⟩
          refine zW_lload_n (pc' := 73) dX11_badness_2.2.1.1.1 rfl rfl ?_
          refine zW_aload_n (pc' := 74) dX11_badness_2.2.1.1.2 rfl rfl ?_
          refine zG_ref (pc' := 77) 95 fg_X11_60 tb30 rfl dX11_badness_2.2.1.2.1 rfl ?_
          refine zG_lng (pc' := 80) fg_X11_354 tb95 rfl dX11_badness_2.2.1.2.2 rfl ?_
          refine zW_ladd (pc' := 81) dX11_badness_2.2.2.1.1 rfl ?_
          refine zW_lstore_n (ls' := [_, _, _, _, _, _]) (pc' := 82) dX11_badness_2.2.2.1.2 (by decide) rfl rfl rfl ?_
          refine zW_iinc (ls' := [_, _, _, _, _, _]) (pc' := 85) dX11_badness_2.2.2.2.1 rfl (by decide) rfl rfl rfl ?_
          refine zV_goto 23 dX11_badness_2.2.2.2.2 rfl ?_
          exact k23 _ _ _ hF (by omega) (by omega)
        · refine zW_aload_n (pc' := 34) dX11_badness_1.1.1.2.2 rfl rfl ?_
          refine zG_ref (pc' := 37) 95 fg_X11_60 tb30 rfl dX11_badness_1.1.2.1.1 rfl ?_
          refine zW_aload_n (pc' := 38) dX11_badness_1.1.2.1.2 rfl rfl ?_
          refine zW_iload (pc' := 40) dX11_badness_1.1.2.2.1 rfl rfl ?_
          refine zW_iconst (pc' := 41) dX11_badness_1.1.2.2.2 rfl ?_
          refine cvV3 (pc' := 44) kX4_findNoise vX4_findNoise lk_X11_313 ⟨Nat.le_of_ble_eq_true rfl, Nat.le_of_ble_eq_true rfl⟩ tb95 vq4 rfl rfl (s_X4_findNoise hK hF _ ⟨by omega, by omega⟩ _ ⟨by omega, by omega⟩ _) dX11_badness_1.2.1.1.1 (Nat.le_of_ble_eq_true rfl) rfl ?_
          rintro r41 h ⟨hF, p41⟩
          refine zW_lload_n (pc' := 45) dX11_badness_1.2.1.1.2 rfl rfl ?_
          refine zW_aload_n (pc' := 46) dX11_badness_1.2.1.2.1 rfl rfl ?_
          refine zG_ref (pc' := 49) 95 fg_X11_60 tb30 rfl dX11_badness_1.2.1.2.2 rfl ?_
          refine zG_int (pc' := 52) fg_X11_323 tb95 rfl dX11_badness_1.2.2.1.1 rfl ?_
          refine zW_i2l (pc' := 53) dX11_badness_1.2.2.1.2 rfl (fun v52 => ?_)
          refine zW_ladd (pc' := 54) dX11_badness_1.2.2.2.1 rfl ?_
          refine zW_lstore_n (ls' := [_, _, _, _, _, _]) (pc' := 55) dX11_badness_1.2.2.2.2 (by decide) rfl rfl rfl ?_
          refine zV_goto 82 dX11_badness_2.1.1.1.1 rfl ?_
          refine zW_iinc (ls' := [_, _, _, _, _, _]) (pc' := 85) dX11_badness_2.2.2.2.1 rfl (by decide) rfl rfl rfl ?_
          refine zV_goto 23 dX11_badness_2.2.2.2.2 rfl ?_
          exact k23 _ _ _ hF (by omega) (by omega)
  refine zM_of [some (.inr (.inr 30)), some (.inr (.inr s1)), some (.inl x2), none, none, none] 3 rfl rfl (Nat.le_of_ble_eq_true rfl) rfl ?_
  refine zW_iload_n (pc' := 1) dX11_badness_0.1.1.1.1 rfl rfl ?_
  refine zW_iconst (pc' := 2) dX11_badness_0.1.1.1.2 rfl ?_
  refine zV_cm_ne (tgt := 18) (pc' := 5) dX11_badness_0.1.1.2.1 rfl rfl ⟨by omega, by omega⟩ ⟨by omega, by omega⟩ (fun c2 => ?_) (fun c2 => ?_)
  · refine zW_lconst (pc' := 19) dX11_badness_0.2.1.2.1 rfl ?_
    refine zW_lstore_n (ls' := [_, _, _, _, _, _]) (pc' := 20) dX11_badness_0.2.1.2.2 (by decide) rfl rfl rfl ?_
    refine zW_iconst (pc' := 21) dX11_badness_0.2.2.1.1 rfl ?_
    refine zW_istore (ls' := [_, _, _, _, _, _]) (pc' := 23) dX11_badness_0.2.2.1.2 (by decide) rfl rfl rfl ?_
    exact (main 10000000000000000000000000000000000000000) _ _ _ hF (by omega) (by omega)
  · refine zW_aload_n (pc' := 6) dX11_badness_0.1.1.2.2 rfl rfl ?_
    refine zG_ref (pc' := 9) 95 fg_X11_60 tb30 rfl dX11_badness_0.1.2.1.1 rfl ?_
    refine zW_aload_n (pc' := 10) dX11_badness_0.1.2.1.2 rfl rfl ?_
    refine zW_sipush (pc' := 13) dX11_badness_0.1.2.2.1 rfl rfl ?_
    refine cvI2 (pc' := 16) kX4_falseOf vX4_falseOf lk_X11_360 ⟨Nat.le_of_ble_eq_true rfl, Nat.le_of_ble_eq_true rfl⟩ tb95 vq4 rfl rfl (s_X4_falseOf hK hF _ ⟨by omega, by omega⟩ _) dX11_badness_0.1.2.2.2 (Nat.le_of_ble_eq_true rfl) rfl ?_
    rintro r13 z13 ⟨hz13, p13⟩; subst z13
    refine zW_i2l (pc' := 17) dX11_badness_0.2.1.1.1 rfl (fun v16 => ?_)
    exact zV_lret rfl dX11_badness_0.2.1.1.2 ⟨hF, trivial⟩

abbrev q_X11_rawIs (κ h : Hp) (x1 : Int) : Int → Hp → Prop := fun r h' => h' = h ∧ (True)
set_option maxHeartbeats 4000000 in
set_option maxRecDepth 20000 in
theorem s_X11_rawIs {G : Ga} {b : Bd} {κ h : Hp} (hK : KC κ) (hF : Fr b κ h) (x1 : Int) (hx1 : rng x1) : zM G mX11_rawIs yX11_rawIs [.inr (.inr 30), .inl x1] h (q_X11_rawIs κ h x1) := by
  have f_33_0 := KCw hK
  have f_33_1 := KCh hK
  have f_33_2 := KCp hK
  unfold rng at hx1
  refine zM_of [some (.inr (.inr 30)), some (.inl x1)] 0 rfl rfl (Nat.le_of_ble_eq_true rfl) rfl ?_
  refine zW_iload_n (pc' := 1) dX11_rawIs_0.1.1.1.1 rfl rfl ?_
  refine zW_tsw2 (fun z t => (z = 0 ∧ t = 48) ∨ (z = 1 ∧ t = 56) ∨ (z = 2 ∧ t = 64) ∨ (z = 3 ∧ t = 72) ∨ (z = 4 ∧ t = 87) ∨ (z = 5 ∧ t = 102) ∨ (z = 6 ∧ t = 102) ∨ (z = 7 ∧ t = 102)) (fun z => if z = 0 then 48 else if z = 1 then 56 else if z = 2 then 64 else if z = 3 then 72 else if z = 4 then 87 else if z = 5 then 102 else if z = 6 then 102 else if z = 7 then 102 else 113) dX11_rawIs_0.1.1.1.2 ⟨by omega, by omega⟩ (tsw_ok (pc := 1) (lo := 0) (offs := #[47, 55, 63, 71, 86, 101, 101, 101]) (tg := fun z => if z = 0 then 48 else if z = 1 then 56 else if z = 2 then 64 else if z = 3 then 72 else if z = 4 then 87 else if z = 5 then 102 else if z = 6 then 102 else if z = 7 then 102 else 113) (by decide +kernel)) rfl (by decide +kernel) (td := 113) rfl (fun c1 => ?_) (fun t1 w1 => ?_)
  · refine zW_iconst (pc' := 114) dX11_rawIs_2.2.1 rfl ?_
    exact zV_iret rfl dX11_rawIs_2.2.2 ⟨rfl, trivial⟩
  · rcases w1 with ⟨s0, rfl⟩ | ⟨s1, rfl⟩ | ⟨s2, rfl⟩ | ⟨s3, rfl⟩ | ⟨s4, rfl⟩ | ⟨s5, rfl⟩ | ⟨s6, rfl⟩ | ⟨s7, rfl⟩
    · refine zW_aload_n (pc' := 49) dX11_rawIs_0.1.1.2.1 rfl rfl ?_
      refine zG_ref (pc' := 52) 33 fg_X11_19 tb30 rfl dX11_rawIs_0.1.1.2.2 rfl ?_
      refine zG_key (pc' := 55) hF rfl fg_X11_130 tb33 rfl dX11_rawIs_0.1.2.1.1 rfl ?_
      exact zV_iret rfl dX11_rawIs_0.1.2.1.2 ⟨rfl, trivial⟩
    · refine zW_aload_n (pc' := 57) dX11_rawIs_0.1.2.2.1 rfl rfl ?_
      refine zG_ref (pc' := 60) 33 fg_X11_19 tb30 rfl dX11_rawIs_0.1.2.2.2 rfl ?_
      refine zG_key (pc' := 63) hF rfl fg_X11_127 tb33 rfl dX11_rawIs_0.2.1.1.1 rfl ?_
      exact zV_iret rfl dX11_rawIs_0.2.1.1.2 ⟨rfl, trivial⟩
    · refine zW_aload_n (pc' := 65) dX11_rawIs_0.2.1.2.1 rfl rfl ?_
      refine zG_ref (pc' := 68) 33 fg_X11_19 tb30 rfl dX11_rawIs_0.2.1.2.2 rfl ?_
      refine zG_key (pc' := 71) hF rfl fg_X11_172 tb33 rfl dX11_rawIs_0.2.2.1.1 rfl ?_
      exact zV_iret rfl dX11_rawIs_0.2.2.1.2 ⟨rfl, trivial⟩
    · refine zW_aload_n (pc' := 73) dX11_rawIs_0.2.2.2.1 rfl rfl ?_
      refine zG_ref (pc' := 76) 33 fg_X11_19 tb30 rfl dX11_rawIs_0.2.2.2.2 rfl ?_
      refine zW_aload_n (pc' := 77) dX11_rawIs_1.1.1.1.1 rfl rfl ?_
      refine zG_ref (pc' := 80) 33 fg_X11_19 tb30 rfl dX11_rawIs_1.1.1.1.2 rfl ?_
      refine zG_ref (pc' := 83) 35 fg_X11_143 tb33 rfl dX11_rawIs_1.1.1.2.1 rfl ?_
      refine cvI1 (pc' := 86) kX5_sumOf vX5_sumOf lk_X11_146 ⟨Nat.le_of_ble_eq_true rfl, Nat.le_of_ble_eq_true rfl⟩ tb33 vq5 rfl rfl (s_X5_sumOf hK hF _ tb35 (by decide)) dX11_rawIs_1.1.1.2.2 (Nat.le_of_ble_eq_true rfl) rfl ?_
      rintro r83 z83 ⟨hz83, p83⟩; subst z83
      exact zV_iret rfl dX11_rawIs_1.1.2.1.1 ⟨rfl, trivial⟩
    · refine zW_aload_n (pc' := 88) dX11_rawIs_1.1.2.1.2 rfl rfl ?_
      refine zG_ref (pc' := 91) 33 fg_X11_19 tb30 rfl dX11_rawIs_1.1.2.2.1 rfl ?_
      refine zW_aload_n (pc' := 92) dX11_rawIs_1.1.2.2.2 rfl rfl ?_
      refine zG_ref (pc' := 95) 33 fg_X11_19 tb30 rfl dX11_rawIs_1.2.1.1.1 rfl ?_
      refine zG_ref (pc' := 98) 34 fg_X11_133 tb33 rfl dX11_rawIs_1.2.1.1.2 rfl ?_
      refine cvI1 (pc' := 101) kX5_sumOf vX5_sumOf lk_X11_146 ⟨Nat.le_of_ble_eq_true rfl, Nat.le_of_ble_eq_true rfl⟩ tb33 vq5 rfl rfl (s_X5_sumOf hK hF _ tb34 (by decide)) dX11_rawIs_1.2.1.2.1 (Nat.le_of_ble_eq_true rfl) rfl ?_
      rintro r98 z98 ⟨hz98, p98⟩; subst z98
      exact zV_iret rfl dX11_rawIs_1.2.1.2.2 ⟨rfl, trivial⟩
    · refine zW_aload_n (pc' := 103) dX11_rawIs_1.2.2.1.1 rfl rfl ?_
      refine zG_ref (pc' := 106) 33 fg_X11_19 tb30 rfl dX11_rawIs_1.2.2.1.2 rfl ?_
      refine zW_iload_n (pc' := 107) dX11_rawIs_1.2.2.2.1 rfl rfl ?_
      refine zW_iconst (pc' := 108) dX11_rawIs_1.2.2.2.2 rfl ?_
      refine zW_isub (pc' := 109) dX11_rawIs_2.1.1.1 rfl ?_
      refine cvI1 (pc' := 112) kX5_squaresOf vX5_squaresOf lk_X11_175 ⟨Nat.le_of_ble_eq_true rfl, Nat.le_of_ble_eq_true rfl⟩ tb33 vq5 rfl rfl (s_X5_squaresOf hK hF _) dX11_rawIs_2.1.1.2 (Nat.le_of_ble_eq_true rfl) rfl ?_
      rintro r109 z109 ⟨hz109, p109⟩; subst z109
      exact zV_iret rfl dX11_rawIs_2.1.2 ⟨rfl, trivial⟩
    · refine zW_aload_n (pc' := 103) dX11_rawIs_1.2.2.1.1 rfl rfl ?_
      refine zG_ref (pc' := 106) 33 fg_X11_19 tb30 rfl dX11_rawIs_1.2.2.1.2 rfl ?_
      refine zW_iload_n (pc' := 107) dX11_rawIs_1.2.2.2.1 rfl rfl ?_
      refine zW_iconst (pc' := 108) dX11_rawIs_1.2.2.2.2 rfl ?_
      refine zW_isub (pc' := 109) dX11_rawIs_2.1.1.1 rfl ?_
      refine cvI1 (pc' := 112) kX5_squaresOf vX5_squaresOf lk_X11_175 ⟨Nat.le_of_ble_eq_true rfl, Nat.le_of_ble_eq_true rfl⟩ tb33 vq5 rfl rfl (s_X5_squaresOf hK hF _) dX11_rawIs_2.1.1.2 (Nat.le_of_ble_eq_true rfl) rfl ?_
      rintro r109 z109 ⟨hz109, p109⟩; subst z109
      exact zV_iret rfl dX11_rawIs_2.1.2 ⟨rfl, trivial⟩
    · refine zW_aload_n (pc' := 103) dX11_rawIs_1.2.2.1.1 rfl rfl ?_
      refine zG_ref (pc' := 106) 33 fg_X11_19 tb30 rfl dX11_rawIs_1.2.2.1.2 rfl ?_
      refine zW_iload_n (pc' := 107) dX11_rawIs_1.2.2.2.1 rfl rfl ?_
      refine zW_iconst (pc' := 108) dX11_rawIs_1.2.2.2.2 rfl ?_
      refine zW_isub (pc' := 109) dX11_rawIs_2.1.1.1 rfl ?_
      refine cvI1 (pc' := 112) kX5_squaresOf vX5_squaresOf lk_X11_175 ⟨Nat.le_of_ble_eq_true rfl, Nat.le_of_ble_eq_true rfl⟩ tb33 vq5 rfl rfl (s_X5_squaresOf hK hF _) dX11_rawIs_2.1.1.2 (Nat.le_of_ble_eq_true rfl) rfl ?_
      rintro r109 z109 ⟨hz109, p109⟩; subst z109
      exact zV_iret rfl dX11_rawIs_2.1.2 ⟨rfl, trivial⟩

abbrev q_X11_colour (κ h : Hp) (x1 : Int) (x2 : Int) : Int → Hp → Prop := fun r h' => h' = h ∧ (True)
set_option maxHeartbeats 4000000 in
set_option maxRecDepth 20000 in
theorem s_X11_colour {G : Ga} {b : Bd} {κ h : Hp} (hK : KC κ) (hF : Fr b κ h) (x1 : Int) (hx1 : rng x1) (x2 : Int) (hx2 : rng x2) : zM G mX11_colour yX11_colour [.inr (.inr 30), .inl x1, .inl x2] h (q_X11_colour κ h x1 x2) := by
  have f_33_0 := KCw hK
  have f_33_1 := KCh hK
  unfold rng at hx1
  unfold rng at hx2
  refine zM_of [some (.inr (.inr 30)), some (.inl x1), some (.inl x2)] 0 rfl rfl (Nat.le_of_ble_eq_true rfl) rfl ?_
  refine zW_aload_n (pc' := 1) dX11_colour_0.1.1.1.1 rfl rfl ?_
  refine zG_ref (pc' := 4) 33 fg_X11_19 tb30 rfl dX11_colour_0.1.1.1.2 rfl ?_
  refine zW_iload_n (pc' := 5) dX11_colour_0.1.1.2.1 rfl rfl ?_
  refine zW_iload_n (pc' := 6) dX11_colour_0.1.1.2.2 rfl rfl ?_
  refine cvI2 (pc' := 9) kX5_has vX5_has lk_X11_140 ⟨Nat.le_of_ble_eq_true rfl, Nat.le_of_ble_eq_true rfl⟩ tb33 vq5 rfl rfl (s_X5_has hK hF _ ⟨by omega, by omega⟩ _ ⟨by omega, by omega⟩) dX11_colour_0.1.2.1.1 (Nat.le_of_ble_eq_true rfl) rfl ?_
  rintro r6 z6 ⟨hz6, p6⟩; subst z6
  refine zV_if_eq (tgt := 24) (pc' := 12) dX11_colour_0.1.2.1.2 rfl rfl ⟨by omega, by omega⟩ (fun c9 => ?_) (fun c9 => ?_)
  · refine zW_iconst (pc' := 25) dX11_colour_0.2.2.1.2 rfl ?_
    exact zV_iret rfl dX11_colour_0.2.2.2 ⟨rfl, trivial⟩
  · refine zW_aload_n (pc' := 13) dX11_colour_0.1.2.2 rfl rfl ?_
    refine zG_ref (pc' := 16) 33 fg_X11_19 tb30 rfl dX11_colour_0.2.1.1.1 rfl ?_
    refine zW_iload_n (pc' := 17) dX11_colour_0.2.1.1.2 rfl rfl ?_
    refine zW_iload_n (pc' := 18) dX11_colour_0.2.1.2.1 rfl rfl ?_
    refine cvI2 (pc' := 21) kX5_colourOf vX5_colourOf lk_X11_166 ⟨Nat.le_of_ble_eq_true rfl, Nat.le_of_ble_eq_true rfl⟩ tb33 vq5 rfl rfl (s_X5_colourOf hK hF _ _) dX11_colour_0.2.1.2.2 (Nat.le_of_ble_eq_true rfl) rfl ?_
    rintro r18 z18 ⟨hz18, p18⟩; subst z18
    refine zV_goto 25 dX11_colour_0.2.2.1.1 rfl ?_
    exact zV_iret rfl dX11_colour_0.2.2.2 ⟨rfl, trivial⟩

abbrev q_X11_stage (κ h : Hp) (x1 : Int) (x2 : Int) : Int → Hp → Prop := fun r h' => h' = h ∧ (True)
set_option maxHeartbeats 4000000 in
set_option maxRecDepth 20000 in
theorem s_X11_stage {G : Ga} {b : Bd} {κ h : Hp} (hK : KC κ) (hF : Fr b κ h) (x1 : Int) (hx1 : rng x1) (x2 : Int) (hx2 : rng x2) : zM G mX11_stage yX11_stage [.inr (.inr 30), .inl x1, .inl x2] h (q_X11_stage κ h x1 x2) := by
  have f_41_0 := KCm hK
  unfold rng at hx1
  unfold rng at hx2
  refine zM_of [some (.inr (.inr 30)), some (.inl x1), some (.inl x2)] 0 rfl rfl (Nat.le_of_ble_eq_true rfl) rfl ?_
  refine zW_aload_n (pc' := 1) dX11_stage_0.1.1.1.1 rfl rfl ?_
  refine zG_ref (pc' := 4) 41 fg_X11_33 tb30 rfl dX11_stage_0.1.1.1.2 rfl ?_
  refine zW_iload_n (pc' := 5) dX11_stage_0.1.1.2.1 rfl rfl ?_
  refine cvI1 (pc' := 8) kX7_has vX7_has lk_X11_178 ⟨Nat.le_of_ble_eq_true rfl, Nat.le_of_ble_eq_true rfl⟩ tb41 vq7 rfl rfl (s_X7_has hK hF _ ⟨by omega, by omega⟩) dX11_stage_0.1.1.2.2 (Nat.le_of_ble_eq_true rfl) rfl ?_
  rintro r5 z5 ⟨hz5, p5⟩; subst z5
  refine zV_if_eq (tgt := 19) (pc' := 11) dX11_stage_0.1.2.1.1 rfl rfl ⟨by omega, by omega⟩ (fun c8 => ?_) (fun c8 => ?_)
  · refine zW_iconst (pc' := 20) dX11_stage_0.2.1.1.2 rfl ?_
    exact zV_iret rfl dX11_stage_0.2.1.2.1 ⟨rfl, trivial⟩
  · refine zW_iload_n (pc' := 12) dX11_stage_0.1.2.1.2 rfl rfl ?_
    refine zW_iconst (pc' := 13) dX11_stage_0.1.2.2.1 rfl ?_
    refine csI2 (pc' := 16) kX11_isWithin vX11_isWithin lk_X11_116 ⟨Nat.le_of_ble_eq_true rfl, Nat.le_of_ble_eq_true rfl⟩ rfl (s_X11_isWithinR hF _ ⟨by omega, by omega⟩ _ ⟨by omega, by omega⟩) dX11_stage_0.1.2.2.2 (Nat.le_of_ble_eq_true rfl) rfl ?_
    rintro r13 z13 ⟨hz13, p13⟩; subst z13
    refine zV_if_ne (tgt := 21) (pc' := 19) dX11_stage_0.2.1.1.1 rfl rfl ⟨by omega, by omega⟩ (fun c16 => ?_) (fun c16 => ?_)
    · refine zW_iload_n (pc' := 22) dX11_stage_0.2.1.2.2 rfl rfl ?_
      refine zV_if_ne (tgt := 34) (pc' := 25) dX11_stage_0.2.2.1.1 rfl rfl ⟨by omega, by omega⟩ (fun c22 => ?_) (fun c22 => ?_)
      · refine zW_iload_n (pc' := 35) dX11_stage_1.1.1.2.1 rfl rfl ?_
        refine zW_iconst (pc' := 36) dX11_stage_1.1.1.2.2 rfl ?_
        refine zV_cm_ne (tgt := 48) (pc' := 39) dX11_stage_1.1.2.1.1 rfl rfl ⟨by omega, by omega⟩ ⟨by omega, by omega⟩ (fun c36 => ?_) (fun c36 => ?_)
        · refine zW_iload_n (pc' := 49) dX11_stage_1.2.1.2.1 rfl rfl ?_
          refine zW_aload_n (pc' := 50) dX11_stage_1.2.1.2.2 rfl rfl ?_
          refine zG_ref (pc' := 53) 41 fg_X11_33 tb30 rfl dX11_stage_1.2.2.1.1 rfl ?_
          refine zW_iload_n (pc' := 54) dX11_stage_1.2.2.1.2 rfl rfl ?_
          refine cvI1 (pc' := 57) kX7_numbersOf vX7_numbersOf lk_X11_183 ⟨Nat.le_of_ble_eq_true rfl, Nat.le_of_ble_eq_true rfl⟩ tb41 vq7 rfl rfl (s_X7_numbersOf hK hF _ ⟨by omega, by omega⟩) dX11_stage_1.2.2.2.1 (Nat.le_of_ble_eq_true rfl) rfl ?_
          rintro r54 z54 ⟨hz54, p54⟩; subst z54
          refine zV_cm_gt (tgt := 74) (pc' := 60) dX11_stage_1.2.2.2.2 rfl rfl ⟨by omega, by omega⟩ ⟨by omega, by omega⟩ (fun c57 => ?_) (fun c57 => ?_)
          · refine zW_bipush (pc' := 76) dX11_stage_2.2.2.1 rfl rfl ?_
            exact zV_iret rfl dX11_stage_2.2.2.2 ⟨rfl, trivial⟩
          · refine zW_aload_n (pc' := 61) dX11_stage_2.1.1.1.1 rfl rfl ?_
            refine zG_ref (pc' := 64) 41 fg_X11_33 tb30 rfl dX11_stage_2.1.1.1.2 rfl ?_
            refine zW_iload_n (pc' := 65) dX11_stage_2.1.1.2 rfl rfl ?_
            refine zW_iload_n (pc' := 66) dX11_stage_2.1.2.1 rfl rfl ?_
            refine zW_iconst (pc' := 67) dX11_stage_2.1.2.2 rfl ?_
            refine zW_isub (pc' := 68) dX11_stage_2.2.1.1.1 rfl ?_
            refine cvI2 (pc' := 71) kX7_numberOf vX7_numberOf lk_X11_186 ⟨Nat.le_of_ble_eq_true rfl, Nat.le_of_ble_eq_true rfl⟩ tb41 vq7 rfl rfl (s_X7_numberOf hK hF _ ⟨by omega, by omega⟩ _ ⟨by omega, by omega⟩) dX11_stage_2.2.1.1.2 (Nat.le_of_ble_eq_true rfl) rfl ?_
            rintro r68 z68 ⟨hz68, p68⟩; subst z68
            refine zV_goto 76 dX11_stage_2.2.1.2 rfl ?_
            exact zV_iret rfl dX11_stage_2.2.2.2 ⟨rfl, trivial⟩
        · refine zW_aload_n (pc' := 40) dX11_stage_1.1.2.1.2 rfl rfl ?_
          refine zG_ref (pc' := 43) 41 fg_X11_33 tb30 rfl dX11_stage_1.1.2.2.1 rfl ?_
          refine zW_iload_n (pc' := 44) dX11_stage_1.1.2.2.2 rfl rfl ?_
          refine cvI1 (pc' := 47) kX7_numbersOf vX7_numbersOf lk_X11_183 ⟨Nat.le_of_ble_eq_true rfl, Nat.le_of_ble_eq_true rfl⟩ tb41 vq7 rfl rfl (s_X7_numbersOf hK hF _ ⟨by omega, by omega⟩) dX11_stage_1.2.1.1.1 (Nat.le_of_ble_eq_true rfl) rfl ?_
          rintro r44 z44 ⟨hz44, p44⟩; subst z44
          exact zV_iret rfl dX11_stage_1.2.1.1.2 ⟨rfl, trivial⟩
      · refine zW_aload_n (pc' := 26) dX11_stage_0.2.2.1.2 rfl rfl ?_
        refine zG_ref (pc' := 29) 41 fg_X11_33 tb30 rfl dX11_stage_0.2.2.2.1 rfl ?_
        refine zW_iload_n (pc' := 30) dX11_stage_0.2.2.2.2 rfl rfl ?_
        refine cvI1 (pc' := 33) kX7_letterOf vX7_letterOf lk_X11_180 ⟨Nat.le_of_ble_eq_true rfl, Nat.le_of_ble_eq_true rfl⟩ tb41 vq7 rfl rfl (s_X7_letterOf hK hF _ ⟨by omega, by omega⟩) dX11_stage_1.1.1.1.1 (Nat.le_of_ble_eq_true rfl) rfl ?_
        rintro r30 z30 ⟨hz30, p30⟩; subst z30
        exact zV_iret rfl dX11_stage_1.1.1.1.2 ⟨rfl, trivial⟩
    · refine zW_iconst (pc' := 20) dX11_stage_0.2.1.1.2 rfl ?_
      exact zV_iret rfl dX11_stage_0.2.1.2.1 ⟨rfl, trivial⟩

abbrev q_X11_left (b : Bd) (κ : Hp) (x1 : Int) (x2 : Int) (x3 : Int) (x4 : Int) : Int → Hp → Prop := fun r h' => Fr b κ h' ∧ (True)
set_option maxHeartbeats 4000000 in
set_option maxRecDepth 20000 in
theorem s_X11_left {G : Ga} {b : Bd} {κ h : Hp} (hK : KC κ) (hF : Fr b κ h) (x1 : Int) (hx1 : rng x1) (x2 : Int) (hx2 : rng x2) (x3 : Int) (hx3 : rng x3) (x4 : Int) (hx4 : rng x4) (hSh : SheetOK b) : zM G mX11_left yX11_left [.inr (.inr 30), .inl x1, .inl x2, .inl x3, .inl x4] h (q_X11_left b κ x1 x2 x3 x4) := by
  have f_33_0 := KCw hK
  have f_33_1 := KCh hK
  have f_41_0 := KCm hK
  unfold rng at hx1
  unfold rng at hx2
  unfold rng at hx3
  unfold rng at hx4
  refine zM_of [some (.inr (.inr 30)), some (.inl x1), some (.inl x2), some (.inl x3), some (.inl x4), none] 1 rfl rfl (Nat.le_of_ble_eq_true rfl) rfl ?_
  refine zW_aload_n (pc' := 1) dX11_left_0.1.1.1.1 rfl rfl ?_
  refine zG_ref (pc' := 4) 41 fg_X11_33 tb30 rfl dX11_left_0.1.1.1.2 rfl ?_
  refine zW_iload_n (pc' := 5) dX11_left_0.1.1.2.1 rfl rfl ?_
  refine cvI1 (pc' := 8) kX7_leaves vX7_leaves lk_X11_189 ⟨Nat.le_of_ble_eq_true rfl, Nat.le_of_ble_eq_true rfl⟩ tb41 vq7 rfl rfl (s_X7_leaves hK hF _ ⟨by omega, by omega⟩) dX11_left_0.1.1.2.2 (Nat.le_of_ble_eq_true rfl) rfl ?_
  rintro r5 z5 ⟨hz5, p5⟩; subst z5
  refine zV_if_eq (tgt := 32) (pc' := 11) dX11_left_0.1.2.1.1 rfl rfl ⟨by omega, by omega⟩ (fun c8 => ?_) (fun c8 => ?_)
  · refine zW_iconst (pc' := 33) dX11_left_0.2.2.2.2 rfl ?_
    exact zV_iret rfl dX11_left_1.1.1.1.1 ⟨hF, trivial⟩
  · refine zW_aload_n (pc' := 12) dX11_left_0.1.2.1.2 rfl rfl ?_
    refine zG_ref (pc' := 15) 33 fg_X11_19 tb30 rfl dX11_left_0.1.2.2.1 rfl ?_
    refine zW_iload_n (pc' := 16) dX11_left_0.1.2.2.2 rfl rfl ?_
    refine zW_iload_n (pc' := 17) dX11_left_0.2.1.1.1 rfl rfl ?_
    refine cvI2 (pc' := 20) kX5_has vX5_has lk_X11_140 ⟨Nat.le_of_ble_eq_true rfl, Nat.le_of_ble_eq_true rfl⟩ tb33 vq5 rfl rfl (s_X5_has hK hF _ ⟨by omega, by omega⟩ _ ⟨by omega, by omega⟩) dX11_left_0.2.1.1.2 (Nat.le_of_ble_eq_true rfl) rfl ?_
    rintro r17 z17 ⟨hz17, p17⟩; subst z17
    refine zV_if_eq (tgt := 32) (pc' := 23) dX11_left_0.2.1.2.1 rfl rfl ⟨by omega, by omega⟩ (fun c20 => ?_) (fun c20 => ?_)
    · refine zW_iconst (pc' := 33) dX11_left_0.2.2.2.2 rfl ?_
      exact zV_iret rfl dX11_left_1.1.1.1.1 ⟨hF, trivial⟩
    · refine zW_iload (pc' := 25) dX11_left_0.2.1.2.2 rfl rfl ?_
      refine zW_iconst (pc' := 26) dX11_left_0.2.2.1.1 rfl ?_
      refine csI2 (pc' := 29) kX11_isWithin vX11_isWithin lk_X11_116 ⟨Nat.le_of_ble_eq_true rfl, Nat.le_of_ble_eq_true rfl⟩ rfl (s_X11_isWithinR hF _ ⟨by omega, by omega⟩ _ ⟨by omega, by omega⟩) dX11_left_0.2.2.1.2 (Nat.le_of_ble_eq_true rfl) rfl ?_
      rintro r26 z26 ⟨hz26, p26⟩; subst z26
      refine zV_if_ne (tgt := 34) (pc' := 32) dX11_left_0.2.2.2.1 rfl rfl ⟨by omega, by omega⟩ (fun c29 => ?_) (fun c29 => ?_)
      · refine zW_aload_n (pc' := 35) dX11_left_1.1.1.1.2 rfl rfl ?_
        refine zG_ref (pc' := 38) 54 fg_X11_51 tb30 rfl dX11_left_1.1.1.2.1 rfl ?_
        refine zW_iload_n (pc' := 39) dX11_left_1.1.1.2.2 rfl rfl ?_
        refine cvA1 (pc' := 42) kX1_sheetOf vX1_sheetOf lk_X11_192 ⟨Nat.le_of_ble_eq_true rfl, Nat.le_of_ble_eq_true rfl⟩ tb54 vq1 rfl rfl (hSh hK hF _ ⟨by omega, by omega⟩) dX11_left_1.1.2.1.1 (Nat.le_of_ble_eq_true rfl) rfl ?_
        rintro r39 h ⟨hF, p39⟩
        obtain ⟨q39, z39⟩ : ∃ z : Nat, z = r39.toNat := ⟨_, rfl⟩
        rw [← z39]
        refine zW_astore (ls' := [_, _, _, _, _, _]) (pc' := 44) dX11_left_1.1.2.1.2 (by decide) rfl rfl rfl ?_
        refine zW_aload (pc' := 46) dX11_left_1.1.2.2.1 rfl rfl ?_
        refine zW_aload_n (pc' := 47) dX11_left_1.1.2.2.2 rfl rfl ?_
        refine zG_ref (pc' := 50) 33 fg_X11_19 tb30 rfl dX11_left_1.2.1.1.1 rfl ?_
        refine zW_iload_n (pc' := 51) dX11_left_1.2.1.1.2 rfl rfl ?_
        refine zW_iload_n (pc' := 52) dX11_left_1.2.1.2.1 rfl rfl ?_
        refine zW_iload (pc' := 54) dX11_left_1.2.1.2.2 rfl rfl ?_
        refine cvI4 (pc' := 57) kX8_tells vX8_tells lk_X11_196 ⟨Nat.le_of_ble_eq_true rfl, Nat.le_of_ble_eq_true rfl⟩ (tabS (by omega) (by omega)) vq8 rfl rfl (s_X8_tells hK hF _ ⟨by omega, by omega⟩ _ _ _) dX11_left_1.2.2.1.1 (Nat.le_of_ble_eq_true rfl) rfl ?_
        rintro r54 z54 ⟨hz54, p54⟩; subst z54
        refine zV_if_eq (tgt := 76) (pc' := 60) dX11_left_1.2.2.1.2 rfl rfl ⟨by omega, by omega⟩ (fun c57 => ?_) (fun c57 => ?_)
        · refine zW_bipush (pc' := 78) dX11_left_2.2.2.1 rfl rfl ?_
          exact zV_iret rfl dX11_left_2.2.2.2 ⟨hF, trivial⟩
        · refine zW_aload (pc' := 62) dX11_left_1.2.2.2.1 rfl rfl ?_
          refine zW_iload_n (pc' := 63) dX11_left_1.2.2.2.2 rfl rfl ?_
          refine zW_bipush (pc' := 65) dX11_left_2.1.1.1.1 rfl rfl ?_
          refine zW_imul (pc' := 66) dX11_left_2.1.1.1.2 rfl ?_
          refine zW_iload_n (pc' := 67) dX11_left_2.1.1.2 rfl rfl ?_
          refine zW_iadd (pc' := 68) dX11_left_2.1.2.1 rfl ?_
          refine zW_iload (pc' := 70) dX11_left_2.1.2.2 rfl rfl ?_
          refine cvI2 (pc' := 73) kX8_levelAt vX8_levelAt lk_X11_202 ⟨Nat.le_of_ble_eq_true rfl, Nat.le_of_ble_eq_true rfl⟩ (tabS (by omega) (by omega)) vq8 rfl rfl (s_X8_levelAt hF _ ⟨by omega, by omega⟩ _ ⟨by omega, by omega⟩ _ ⟨by omega, by omega⟩) dX11_left_2.2.1.1 (Nat.le_of_ble_eq_true rfl) rfl ?_
          rintro r70 z70 ⟨hz70, p70⟩; subst z70
          refine zV_goto 78 dX11_left_2.2.1.2 rfl ?_
          exact zV_iret rfl dX11_left_2.2.2.2 ⟨hF, trivial⟩
      · refine zW_iconst (pc' := 33) dX11_left_0.2.2.2.2 rfl ?_
        exact zV_iret rfl dX11_left_1.1.1.1.1 ⟨hF, trivial⟩

abbrev q_X11_found (b : Bd) (κ : Hp) (x1 : Int) (x2 : Int) : Int → Hp → Prop := fun r h' => Fr b κ h' ∧ (True)
set_option maxHeartbeats 4000000 in
set_option maxRecDepth 20000 in
theorem s_X11_found {G : Ga} {b : Bd} {κ h : Hp} (hK : KC κ) (hF : Fr b κ h) (x1 : Int) (hx1 : rng x1) (x2 : Int) (hx2 : rng x2) (hSh : SheetOK b) : zM G mX11_found yX11_found [.inr (.inr 30), .inl x1, .inl x2] h (q_X11_found b κ x1 x2) := by
  have f_41_0 := KCm hK
  unfold rng at hx1
  unfold rng at hx2
  refine zM_of [some (.inr (.inr 30)), some (.inl x1), some (.inl x2)] 0 rfl rfl (Nat.le_of_ble_eq_true rfl) rfl ?_
  refine zW_aload_n (pc' := 1) dX11_found_0.1.1.1.1 rfl rfl ?_
  refine zG_ref (pc' := 4) 41 fg_X11_33 tb30 rfl dX11_found_0.1.1.1.2 rfl ?_
  refine zW_iload_n (pc' := 5) dX11_found_0.1.1.2.1 rfl rfl ?_
  refine cvI1 (pc' := 8) kX7_has vX7_has lk_X11_178 ⟨Nat.le_of_ble_eq_true rfl, Nat.le_of_ble_eq_true rfl⟩ tb41 vq7 rfl rfl (s_X7_has hK hF _ ⟨by omega, by omega⟩) dX11_found_0.1.1.2.2 (Nat.le_of_ble_eq_true rfl) rfl ?_
  rintro r5 z5 ⟨hz5, p5⟩; subst z5
  refine zV_if_eq (tgt := 19) (pc' := 11) dX11_found_0.1.2.1.1 rfl rfl ⟨by omega, by omega⟩ (fun c8 => ?_) (fun c8 => ?_)
  · refine zW_iconst (pc' := 20) dX11_found_0.2.1.1.2 rfl ?_
    exact zV_iret rfl dX11_found_0.2.1.2.1 ⟨hF, trivial⟩
  · refine zW_iload_n (pc' := 12) dX11_found_0.1.2.1.2 rfl rfl ?_
    refine zW_iconst (pc' := 13) dX11_found_0.1.2.2.1 rfl ?_
    refine csI2 (pc' := 16) kX11_isWithin vX11_isWithin lk_X11_116 ⟨Nat.le_of_ble_eq_true rfl, Nat.le_of_ble_eq_true rfl⟩ rfl (s_X11_isWithinR hF _ ⟨by omega, by omega⟩ _ ⟨by omega, by omega⟩) dX11_found_0.1.2.2.2 (Nat.le_of_ble_eq_true rfl) rfl ?_
    rintro r13 z13 ⟨hz13, p13⟩; subst z13
    refine zV_if_ne (tgt := 21) (pc' := 19) dX11_found_0.2.1.1.1 rfl rfl ⟨by omega, by omega⟩ (fun c16 => ?_) (fun c16 => ?_)
    · refine zW_aload_n (pc' := 22) dX11_found_0.2.1.2.2 rfl rfl ?_
      refine zG_ref (pc' := 25) 41 fg_X11_33 tb30 rfl dX11_found_0.2.2.1.1 rfl ?_
      refine zW_iload_n (pc' := 26) dX11_found_0.2.2.1.2 rfl rfl ?_
      refine cvI1 (pc' := 29) kX7_letterOf vX7_letterOf lk_X11_180 ⟨Nat.le_of_ble_eq_true rfl, Nat.le_of_ble_eq_true rfl⟩ tb41 vq7 rfl rfl (s_X7_letterOf hK hF _ ⟨by omega, by omega⟩) dX11_found_0.2.2.2.1 (Nat.le_of_ble_eq_true rfl) rfl ?_
      rintro r26 z26 ⟨hz26, p26⟩; subst z26
      refine zW_bipush (pc' := 31) dX11_found_0.2.2.2.2 rfl rfl ?_
      refine zV_cm_eq (tgt := 37) (pc' := 34) dX11_found_1.1.1.1.1 rfl rfl ⟨by omega, by omega⟩ ⟨by omega, by omega⟩ (fun c31 => ?_) (fun c31 => ?_)
      · refine zW_aload_n (pc' := 38) dX11_found_1.1.1.2.2 rfl rfl ?_
        refine zW_iload_n (pc' := 39) dX11_found_1.1.2.1.1 rfl rfl ?_
        refine cvV1 (pc' := 42) kX11_markFound vX11_markFound lk_X11_205 ⟨Nat.le_of_ble_eq_true rfl, Nat.le_of_ble_eq_true rfl⟩ tb30 vq11 rfl rfl (s_X11_markFound hK hF _ ⟨by omega, by omega⟩ hSh) dX11_found_1.1.2.1.2 (Nat.le_of_ble_eq_true rfl) rfl ?_
        rintro r39 h ⟨hF, p39⟩
        refine zW_iload_n (pc' := 43) dX11_found_1.1.2.2.1 rfl rfl ?_
        refine zW_iconst (pc' := 44) dX11_found_1.1.2.2.2 rfl ?_
        refine zV_cm_ne (tgt := 55) (pc' := 47) dX11_found_1.2.1.1.1 rfl rfl ⟨by omega, by omega⟩ ⟨by omega, by omega⟩ (fun c44 => ?_) (fun c44 => ?_)
        · refine zW_iload_n (pc' := 56) dX11_found_1.2.2.1.2 rfl rfl ?_
          refine zW_iconst (pc' := 57) dX11_found_1.2.2.2.1 rfl ?_
          refine zV_cm_ne (tgt := 68) (pc' := 60) dX11_found_1.2.2.2.2 rfl rfl ⟨by omega, by omega⟩ ⟨by omega, by omega⟩ (fun c57 => ?_) (fun c57 => ?_)
          · refine zW_iload_n (pc' := 69) dX11_found_2.1.2.1.1 rfl rfl ?_
            refine zV_if_ne (tgt := 82) (pc' := 72) dX11_found_2.1.2.1.2 rfl rfl ⟨by omega, by omega⟩ (fun c69 => ?_) (fun c69 => ?_)
            · refine zW_aload_n (pc' := 83) dX11_found_2.2.1.2.1 rfl rfl ?_
              refine zG_ref (pc' := 86) 98 fg_X11_67 tb30 rfl dX11_found_2.2.1.2.2 rfl ?_
              refine zW_aload_n (pc' := 87) dX11_found_2.2.2.1.1 rfl rfl ?_
              refine zG_ref (pc' := 90) 33 fg_X11_19 tb30 rfl dX11_found_2.2.2.1.2 rfl ?_
              refine zG_ref (pc' := 93) 35 fg_X11_143 tb33 rfl dX11_found_2.2.2.2.1 rfl ?_
              refine cvI1 (pc' := 96) kX0_markedAnd vX0_markedAnd lk_X11_218 ⟨Nat.le_of_ble_eq_true rfl, Nat.le_of_ble_eq_true rfl⟩ tb98 vq0 rfl rfl (s_X0_markedAnd hK hF _ tb35 (by decide)) dX11_found_2.2.2.2.2 (Nat.le_of_ble_eq_true rfl) rfl ?_
              rintro r93 z93 ⟨hz93, p93⟩; subst z93
              exact zV_iret rfl dX11_found_3 ⟨hF, trivial⟩
            · refine zW_aload_n (pc' := 73) dX11_found_2.1.2.2.1 rfl rfl ?_
              refine zG_ref (pc' := 76) 98 fg_X11_67 tb30 rfl dX11_found_2.1.2.2.2 rfl ?_
              refine cvI0 (pc' := 79) kX0_marked vX0_marked lk_X11_215 ⟨Nat.le_of_ble_eq_true rfl, Nat.le_of_ble_eq_true rfl⟩ tb98 vq0 rfl rfl (s_X0_marked hK hF) dX11_found_2.2.1.1.1 (Nat.le_of_ble_eq_true rfl) rfl ?_
              rintro r76 z76 ⟨hz76, p76⟩; subst z76
              refine zV_goto 96 dX11_found_2.2.1.1.2 rfl ?_
              exact zV_iret rfl dX11_found_3 ⟨hF, trivial⟩
          · refine zW_aload_n (pc' := 61) dX11_found_2.1.1.1.1 rfl rfl ?_
            refine zG_ref (pc' := 64) 98 fg_X11_67 tb30 rfl dX11_found_2.1.1.1.2 rfl ?_
            refine cvI0 (pc' := 67) kX0_lastMarked vX0_lastMarked lk_X11_212 ⟨Nat.le_of_ble_eq_true rfl, Nat.le_of_ble_eq_true rfl⟩ tb98 vq0 rfl rfl (s_X0_lastMarked hK hF) dX11_found_2.1.1.2.1 (Nat.le_of_ble_eq_true rfl) rfl ?_
            rintro r64 z64 ⟨hz64, p64⟩; subst z64
            exact zV_iret rfl dX11_found_2.1.1.2.2 ⟨hF, trivial⟩
        · refine zW_aload_n (pc' := 48) dX11_found_1.2.1.1.2 rfl rfl ?_
          refine zG_ref (pc' := 51) 98 fg_X11_67 tb30 rfl dX11_found_1.2.1.2.1 rfl ?_
          refine cvI0 (pc' := 54) kX0_firstMarked vX0_firstMarked lk_X11_208 ⟨Nat.le_of_ble_eq_true rfl, Nat.le_of_ble_eq_true rfl⟩ tb98 vq0 rfl rfl (s_X0_firstMarked hK hF) dX11_found_1.2.1.2.2 (Nat.le_of_ble_eq_true rfl) rfl ?_
          rintro r51 z51 ⟨hz51, p51⟩; subst z51
          exact zV_iret rfl dX11_found_1.2.2.1.1 ⟨hF, trivial⟩
      · refine zW_bipush (pc' := 36) dX11_found_1.1.1.1.2 rfl rfl ?_
        exact zV_iret rfl dX11_found_1.1.1.2.1 ⟨hF, trivial⟩
    · refine zW_iconst (pc' := 20) dX11_found_0.2.1.1.2 rfl ?_
      exact zV_iret rfl dX11_found_0.2.1.2.1 ⟨hF, trivial⟩

abbrev q_X11_groups (b : Bd) (κ : Hp) (x1 : Int) (x2 : Int) : Int → Hp → Prop := fun r h' => Fr b κ h' ∧ (True)
set_option maxHeartbeats 4000000 in
set_option maxRecDepth 20000 in
theorem s_X11_groups {G : Ga} {b : Bd} {κ h : Hp} (hK : KC κ) (hF : Fr b κ h) (x1 : Int) (hx1 : rng x1) (x2 : Int) (hx2 : rng x2) (hSh : SheetOK b) : zM G mX11_groups yX11_groups [.inr (.inr 30), .inl x1, .inl x2] h (q_X11_groups b κ x1 x2) := by
  have f_41_0 := KCm hK
  unfold rng at hx1
  unfold rng at hx2
  refine zM_of [some (.inr (.inr 30)), some (.inl x1), some (.inl x2)] 0 rfl rfl (Nat.le_of_ble_eq_true rfl) rfl ?_
  refine zW_aload_n (pc' := 1) dX11_groups_0.1.1.1.1 rfl rfl ?_
  refine zG_ref (pc' := 4) 41 fg_X11_33 tb30 rfl dX11_groups_0.1.1.1.2 rfl ?_
  refine zW_iload_n (pc' := 5) dX11_groups_0.1.1.2.1 rfl rfl ?_
  refine cvI1 (pc' := 8) kX7_has vX7_has lk_X11_178 ⟨Nat.le_of_ble_eq_true rfl, Nat.le_of_ble_eq_true rfl⟩ tb41 vq7 rfl rfl (s_X7_has hK hF _ ⟨by omega, by omega⟩) dX11_groups_0.1.1.2.2 (Nat.le_of_ble_eq_true rfl) rfl ?_
  rintro r5 z5 ⟨hz5, p5⟩; subst z5
  refine zV_if_eq (tgt := 19) (pc' := 11) dX11_groups_0.1.2.1.1 rfl rfl ⟨by omega, by omega⟩ (fun c8 => ?_) (fun c8 => ?_)
  · refine zW_iconst (pc' := 20) dX11_groups_0.2.1.1.2 rfl ?_
    exact zV_iret rfl dX11_groups_0.2.1.2.1 ⟨hF, trivial⟩
  · refine zW_iload_n (pc' := 12) dX11_groups_0.1.2.1.2 rfl rfl ?_
    refine zW_iconst (pc' := 13) dX11_groups_0.1.2.2.1 rfl ?_
    refine csI2 (pc' := 16) kX11_isWithin vX11_isWithin lk_X11_116 ⟨Nat.le_of_ble_eq_true rfl, Nat.le_of_ble_eq_true rfl⟩ rfl (s_X11_isWithinR hF _ ⟨by omega, by omega⟩ _ ⟨by omega, by omega⟩) dX11_groups_0.1.2.2.2 (Nat.le_of_ble_eq_true rfl) rfl ?_
    rintro r13 z13 ⟨hz13, p13⟩; subst z13
    refine zV_if_ne (tgt := 21) (pc' := 19) dX11_groups_0.2.1.1.1 rfl rfl ⟨by omega, by omega⟩ (fun c16 => ?_) (fun c16 => ?_)
    · refine zW_aload_n (pc' := 22) dX11_groups_0.2.1.2.2 rfl rfl ?_
      refine zG_ref (pc' := 25) 41 fg_X11_33 tb30 rfl dX11_groups_0.2.2.1.1 rfl ?_
      refine zW_iload_n (pc' := 26) dX11_groups_0.2.2.1.2 rfl rfl ?_
      refine cvI1 (pc' := 29) kX7_letterOf vX7_letterOf lk_X11_180 ⟨Nat.le_of_ble_eq_true rfl, Nat.le_of_ble_eq_true rfl⟩ tb41 vq7 rfl rfl (s_X7_letterOf hK hF _ ⟨by omega, by omega⟩) dX11_groups_0.2.2.2.1 (Nat.le_of_ble_eq_true rfl) rfl ?_
      rintro r26 z26 ⟨hz26, p26⟩; subst z26
      refine zW_bipush (pc' := 31) dX11_groups_0.2.2.2.2 rfl rfl ?_
      refine zV_cm_eq (tgt := 37) (pc' := 34) dX11_groups_1.1.1.1.1 rfl rfl ⟨by omega, by omega⟩ ⟨by omega, by omega⟩ (fun c31 => ?_) (fun c31 => ?_)
      · refine zW_aload_n (pc' := 38) dX11_groups_1.1.1.2.2 rfl rfl ?_
        refine zW_iload_n (pc' := 39) dX11_groups_1.1.2.1.1 rfl rfl ?_
        refine cvV1 (pc' := 42) kX11_markFound vX11_markFound lk_X11_205 ⟨Nat.le_of_ble_eq_true rfl, Nat.le_of_ble_eq_true rfl⟩ tb30 vq11 rfl rfl (s_X11_markFound hK hF _ ⟨by omega, by omega⟩ hSh) dX11_groups_1.1.2.1.2 (Nat.le_of_ble_eq_true rfl) rfl ?_
        rintro r39 h ⟨hF, p39⟩
        refine zW_aload_n (pc' := 43) dX11_groups_1.1.2.2.1 rfl rfl ?_
        refine zG_ref (pc' := 46) 98 fg_X11_67 tb30 rfl dX11_groups_1.1.2.2.2 rfl ?_
        refine zW_iconst (pc' := 47) dX11_groups_1.2.1.1.1 rfl ?_
        refine cvV1 (pc' := 50) kX0_gather vX0_gather lk_X11_221 ⟨Nat.le_of_ble_eq_true rfl, Nat.le_of_ble_eq_true rfl⟩ tb98 vq0 rfl rfl (s_X0_gather hK hF _) dX11_groups_1.2.1.1.2 (Nat.le_of_ble_eq_true rfl) rfl ?_
        rintro r47 h ⟨hF, p47⟩
        refine zW_iload_n (pc' := 51) dX11_groups_1.2.1.2.1 rfl rfl ?_
        refine zV_if_ne (tgt := 64) (pc' := 54) dX11_groups_1.2.1.2.2 rfl rfl ⟨by omega, by omega⟩ (fun c51 => ?_) (fun c51 => ?_)
        · refine zW_aload_n (pc' := 65) dX11_groups_2.1.1 rfl rfl ?_
          refine zG_ref (pc' := 68) 98 fg_X11_67 tb30 rfl dX11_groups_2.1.2 rfl ?_
          refine zG_int (pc' := 71) fg_X11_228 tb98 rfl dX11_groups_2.2.1 rfl ?_
          exact zV_iret rfl dX11_groups_2.2.2 ⟨hF, trivial⟩
        · refine zW_aload_n (pc' := 55) dX11_groups_1.2.2.1.1 rfl rfl ?_
          refine zG_ref (pc' := 58) 98 fg_X11_67 tb30 rfl dX11_groups_1.2.2.1.2 rfl ?_
          refine zG_int (pc' := 61) fg_X11_225 tb98 rfl dX11_groups_1.2.2.2.1 rfl ?_
          refine zV_goto 71 dX11_groups_1.2.2.2.2 rfl ?_
          exact zV_iret rfl dX11_groups_2.2.2 ⟨hF, trivial⟩
      · refine zW_bipush (pc' := 36) dX11_groups_1.1.1.1.2 rfl rfl ?_
        exact zV_iret rfl dX11_groups_1.1.1.2.1 ⟨hF, trivial⟩
    · refine zW_iconst (pc' := 20) dX11_groups_0.2.1.1.2 rfl ?_
      exact zV_iret rfl dX11_groups_0.2.1.2.1 ⟨hF, trivial⟩

abbrev q_X11_dark (b : Bd) (κ : Hp) (x1 : Int) (x2 : Int) : Int → Hp → Prop := fun r h' => Fr b κ h' ∧ (True)
set_option maxHeartbeats 4000000 in
set_option maxRecDepth 20000 in
theorem s_X11_dark {G : Ga} {b : Bd} {κ h : Hp} (hK : KC κ) (hF : Fr b κ h) (x1 : Int) (hx1 : rng x1) (x2 : Int) (hx2 : rng x2) (hSh : SheetOK b) : zM G mX11_dark yX11_dark [.inr (.inr 30), .inl x1, .inl x2] h (q_X11_dark b κ x1 x2) := by
  have f_33_1 := KCh hK
  have f_41_0 := KCm hK
  unfold rng at hx1
  unfold rng at hx2
  refine zM_of [some (.inr (.inr 30)), some (.inl x1), some (.inl x2)] 0 rfl rfl (Nat.le_of_ble_eq_true rfl) rfl ?_
  refine zW_aload_n (pc' := 1) dX11_dark_0.1.1.1.1 rfl rfl ?_
  refine zG_ref (pc' := 4) 41 fg_X11_33 tb30 rfl dX11_dark_0.1.1.1.2 rfl ?_
  refine zW_iload_n (pc' := 5) dX11_dark_0.1.1.2.1 rfl rfl ?_
  refine cvI1 (pc' := 8) kX7_has vX7_has lk_X11_178 ⟨Nat.le_of_ble_eq_true rfl, Nat.le_of_ble_eq_true rfl⟩ tb41 vq7 rfl rfl (s_X7_has hK hF _ ⟨by omega, by omega⟩) dX11_dark_0.1.1.2.2 (Nat.le_of_ble_eq_true rfl) rfl ?_
  rintro r5 z5 ⟨hz5, p5⟩; subst z5
  refine zV_if_eq (tgt := 26) (pc' := 11) dX11_dark_0.1.2.1.1 rfl rfl ⟨by omega, by omega⟩ (fun c8 => ?_) (fun c8 => ?_)
  · refine zW_iconst (pc' := 27) dX11_dark_0.2.2.1.1 rfl ?_
    exact zV_iret rfl dX11_dark_0.2.2.1.2 ⟨hF, trivial⟩
  · refine zW_iload_n (pc' := 12) dX11_dark_0.1.2.1.2 rfl rfl ?_
    refine zV_if_lt (tgt := 26) (pc' := 15) dX11_dark_0.1.2.2.1 rfl rfl ⟨by omega, by omega⟩ (fun c12 => ?_) (fun c12 => ?_)
    · refine zW_iconst (pc' := 27) dX11_dark_0.2.2.1.1 rfl ?_
      exact zV_iret rfl dX11_dark_0.2.2.1.2 ⟨hF, trivial⟩
    · refine zW_iload_n (pc' := 16) dX11_dark_0.1.2.2.2 rfl rfl ?_
      refine zW_aload_n (pc' := 17) dX11_dark_0.2.1.1.1 rfl rfl ?_
      refine zG_ref (pc' := 20) 33 fg_X11_19 tb30 rfl dX11_dark_0.2.1.1.2 rfl ?_
      refine zG_key (pc' := 23) hF rfl fg_X11_127 tb33 rfl dX11_dark_0.2.1.2.1 rfl ?_
      refine zV_cm_lt (tgt := 28) (pc' := 26) dX11_dark_0.2.1.2.2 rfl rfl ⟨by omega, by omega⟩ ⟨by omega, by omega⟩ (fun c23 => ?_) (fun c23 => ?_)
      · refine zW_aload_n (pc' := 29) dX11_dark_0.2.2.2.1 rfl rfl ?_
        refine zG_ref (pc' := 32) 41 fg_X11_33 tb30 rfl dX11_dark_0.2.2.2.2 rfl ?_
        refine zW_iload_n (pc' := 33) dX11_dark_1.1.1.1.1 rfl rfl ?_
        refine cvI1 (pc' := 36) kX7_letterOf vX7_letterOf lk_X11_180 ⟨Nat.le_of_ble_eq_true rfl, Nat.le_of_ble_eq_true rfl⟩ tb41 vq7 rfl rfl (s_X7_letterOf hK hF _ ⟨by omega, by omega⟩) dX11_dark_1.1.1.1.2 (Nat.le_of_ble_eq_true rfl) rfl ?_
        rintro r33 z33 ⟨hz33, p33⟩; subst z33
        refine zW_bipush (pc' := 38) dX11_dark_1.1.1.2.1 rfl rfl ?_
        refine zV_cm_eq (tgt := 44) (pc' := 41) dX11_dark_1.1.1.2.2 rfl rfl ⟨by omega, by omega⟩ ⟨by omega, by omega⟩ (fun c38 => ?_) (fun c38 => ?_)
        · refine zW_aload_n (pc' := 45) dX11_dark_1.1.2.2.1 rfl rfl ?_
          refine zG_ref (pc' := 48) 54 fg_X11_51 tb30 rfl dX11_dark_1.1.2.2.2 rfl ?_
          refine zG_ref (pc' := 51) 86 fg_X11_231 tb54 rfl dX11_dark_1.2.1.1.1 rfl ?_
          refine zW_aload_n (pc' := 52) dX11_dark_1.2.1.1.2 rfl rfl ?_
          refine zG_ref (pc' := 55) 54 fg_X11_51 tb30 rfl dX11_dark_1.2.1.2.1 rfl ?_
          refine zW_iload_n (pc' := 56) dX11_dark_1.2.1.2.2 rfl rfl ?_
          refine zW_iconst (pc' := 57) dX11_dark_1.2.2.1.1 rfl ?_
          refine zW_isub (pc' := 58) dX11_dark_1.2.2.1.2 rfl ?_
          refine cvA1 (pc' := 61) kX1_sheetOf vX1_sheetOf lk_X11_192 ⟨Nat.le_of_ble_eq_true rfl, Nat.le_of_ble_eq_true rfl⟩ tb54 vq1 rfl rfl (hSh hK hF _ ⟨by omega, by omega⟩) dX11_dark_1.2.2.2.1 (Nat.le_of_ble_eq_true rfl) rfl ?_
          rintro r58 h ⟨hF, p58⟩
          obtain ⟨q58, z58⟩ : ∃ z : Nat, z = r58.toNat := ⟨_, rfl⟩
          rw [← z58]
          refine zW_iload_n (pc' := 62) dX11_dark_1.2.2.2.2 rfl rfl ?_
          refine zW_aload_n (pc' := 63) dX11_dark_2.1.1.1 rfl rfl ?_
          refine zG_ref (pc' := 66) 41 fg_X11_33 tb30 rfl dX11_dark_2.1.1.2 rfl ?_
          refine zW_iload_n (pc' := 67) dX11_dark_2.1.2.1 rfl rfl ?_
          refine zW_iconst (pc' := 68) dX11_dark_2.1.2.2 rfl ?_
          refine cvI2 (pc' := 71) kX7_numberOf vX7_numberOf lk_X11_186 ⟨Nat.le_of_ble_eq_true rfl, Nat.le_of_ble_eq_true rfl⟩ tb41 vq7 rfl rfl (s_X7_numberOf hK hF _ ⟨by omega, by omega⟩ _ ⟨by omega, by omega⟩) dX11_dark_2.2.1.1 (Nat.le_of_ble_eq_true rfl) rfl ?_
          rintro r68 z68 ⟨hz68, p68⟩; subst z68
          refine cvI3 (pc' := 74) kX2_darkOf vX2_darkOf lk_X11_235 ⟨Nat.le_of_ble_eq_true rfl, Nat.le_of_ble_eq_true rfl⟩ tb86 vq2 rfl rfl (s_X2_darkOf hK hF _ ⟨by omega, by omega⟩ _ ⟨by omega, by omega, by omega⟩ _ ⟨by omega, by omega⟩) dX11_dark_2.2.1.2 (Nat.le_of_ble_eq_true rfl) rfl ?_
          rintro r71 z71 ⟨hz71, p71⟩; subst z71
          exact zV_iret rfl dX11_dark_2.2.2 ⟨hF, trivial⟩
        · refine zW_bipush (pc' := 43) dX11_dark_1.1.2.1.1 rfl rfl ?_
          exact zV_iret rfl dX11_dark_1.1.2.1.2 ⟨hF, trivial⟩
      · refine zW_iconst (pc' := 27) dX11_dark_0.2.2.1.1 rfl ?_
        exact zV_iret rfl dX11_dark_0.2.2.1.2 ⟨hF, trivial⟩

abbrev q_X11_middle (b : Bd) (κ : Hp) (x1 : Int) (x2 : Int) (x3 : Int) : Int → Hp → Prop := fun r h' => Fr b κ h' ∧ (True)
set_option maxHeartbeats 4000000 in
set_option maxRecDepth 20000 in
theorem s_X11_middle {G : Ga} {b : Bd} {κ h : Hp} (hK : KC κ) (hF : Fr b κ h) (x1 : Int) (hx1 : rng x1) (x2 : Int) (hx2 : rng x2) (x3 : Int) (hx3 : rng x3) (hSh : SheetOK b) : zM G mX11_middle yX11_middle [.inr (.inr 30), .inl x1, .inl x2, .inl x3] h (q_X11_middle b κ x1 x2 x3) := by
  have f_33_0 := KCw hK
  have f_33_1 := KCh hK
  have f_41_0 := KCm hK
  unfold rng at hx1
  unfold rng at hx2
  unfold rng at hx3
  refine zM_of [some (.inr (.inr 30)), some (.inl x1), some (.inl x2), some (.inl x3)] 0 rfl rfl (Nat.le_of_ble_eq_true rfl) rfl ?_
  refine zW_aload_n (pc' := 1) dX11_middle_0.1.1.1.1 rfl rfl ?_
  refine zG_ref (pc' := 4) 41 fg_X11_33 tb30 rfl dX11_middle_0.1.1.1.2 rfl ?_
  refine zW_iload_n (pc' := 5) dX11_middle_0.1.1.2.1 rfl rfl ?_
  refine cvI1 (pc' := 8) kX7_has vX7_has lk_X11_178 ⟨Nat.le_of_ble_eq_true rfl, Nat.le_of_ble_eq_true rfl⟩ tb41 vq7 rfl rfl (s_X7_has hK hF _ ⟨by omega, by omega⟩) dX11_middle_0.1.1.2.2 (Nat.le_of_ble_eq_true rfl) rfl ?_
  rintro r5 z5 ⟨hz5, p5⟩; subst z5
  refine zV_if_eq (tgt := 23) (pc' := 11) dX11_middle_0.1.2.1.1 rfl rfl ⟨by omega, by omega⟩ (fun c8 => ?_) (fun c8 => ?_)
  · refine zW_iconst (pc' := 24) dX11_middle_0.2.1.2.2 rfl ?_
    exact zV_iret rfl dX11_middle_0.2.2.1.1 ⟨hF, trivial⟩
  · refine zW_aload_n (pc' := 12) dX11_middle_0.1.2.1.2 rfl rfl ?_
    refine zG_ref (pc' := 15) 33 fg_X11_19 tb30 rfl dX11_middle_0.1.2.2.1 rfl ?_
    refine zW_iload_n (pc' := 16) dX11_middle_0.1.2.2.2 rfl rfl ?_
    refine zW_iload_n (pc' := 17) dX11_middle_0.2.1.1.1 rfl rfl ?_
    refine cvI2 (pc' := 20) kX5_has vX5_has lk_X11_140 ⟨Nat.le_of_ble_eq_true rfl, Nat.le_of_ble_eq_true rfl⟩ tb33 vq5 rfl rfl (s_X5_has hK hF _ ⟨by omega, by omega⟩ _ ⟨by omega, by omega⟩) dX11_middle_0.2.1.1.2 (Nat.le_of_ble_eq_true rfl) rfl ?_
    rintro r17 z17 ⟨hz17, p17⟩; subst z17
    refine zV_if_ne (tgt := 25) (pc' := 23) dX11_middle_0.2.1.2.1 rfl rfl ⟨by omega, by omega⟩ (fun c20 => ?_) (fun c20 => ?_)
    · refine zW_aload_n (pc' := 26) dX11_middle_0.2.2.1.2 rfl rfl ?_
      refine zG_ref (pc' := 29) 41 fg_X11_33 tb30 rfl dX11_middle_0.2.2.2.1 rfl ?_
      refine zW_iload_n (pc' := 30) dX11_middle_0.2.2.2.2 rfl rfl ?_
      refine cvI1 (pc' := 33) kX7_letterOf vX7_letterOf lk_X11_180 ⟨Nat.le_of_ble_eq_true rfl, Nat.le_of_ble_eq_true rfl⟩ tb41 vq7 rfl rfl (s_X7_letterOf hK hF _ ⟨by omega, by omega⟩) dX11_middle_1.1.1.1.1 (Nat.le_of_ble_eq_true rfl) rfl ?_
      rintro r30 z30 ⟨hz30, p30⟩; subst z30
      refine zW_bipush (pc' := 35) dX11_middle_1.1.1.1.2 rfl rfl ?_
      refine zV_cm_eq (tgt := 41) (pc' := 38) dX11_middle_1.1.1.2.1 rfl rfl ⟨by omega, by omega⟩ ⟨by omega, by omega⟩ (fun c35 => ?_) (fun c35 => ?_)
      · refine zW_aload_n (pc' := 42) dX11_middle_1.1.2.1.2 rfl rfl ?_
        refine zG_ref (pc' := 45) 54 fg_X11_51 tb30 rfl dX11_middle_1.1.2.2.1 rfl ?_
        refine zG_ref (pc' := 48) 86 fg_X11_231 tb54 rfl dX11_middle_1.1.2.2.2 rfl ?_
        refine zW_aload_n (pc' := 49) dX11_middle_1.2.1.1.1 rfl rfl ?_
        refine zG_ref (pc' := 52) 54 fg_X11_51 tb30 rfl dX11_middle_1.2.1.1.2 rfl ?_
        refine zW_iload_n (pc' := 53) dX11_middle_1.2.1.2.1 rfl rfl ?_
        refine zW_iconst (pc' := 54) dX11_middle_1.2.1.2.2 rfl ?_
        refine zW_isub (pc' := 55) dX11_middle_1.2.2.1.1 rfl ?_
        refine cvA1 (pc' := 58) kX1_sheetOf vX1_sheetOf lk_X11_192 ⟨Nat.le_of_ble_eq_true rfl, Nat.le_of_ble_eq_true rfl⟩ tb54 vq1 rfl rfl (hSh hK hF _ ⟨by omega, by omega⟩) dX11_middle_1.2.2.1.2 (Nat.le_of_ble_eq_true rfl) rfl ?_
        rintro r55 h ⟨hF, p55⟩
        obtain ⟨q55, z55⟩ : ∃ z : Nat, z = r55.toNat := ⟨_, rfl⟩
        rw [← z55]
        refine zW_iload_n (pc' := 59) dX11_middle_1.2.2.2.1 rfl rfl ?_
        refine zW_iload_n (pc' := 60) dX11_middle_1.2.2.2.2 rfl rfl ?_
        refine cvI3 (pc' := 63) kX2_middleOf vX2_middleOf lk_X11_241 ⟨Nat.le_of_ble_eq_true rfl, Nat.le_of_ble_eq_true rfl⟩ tb86 vq2 rfl rfl (s_X2_middleOf hK hF _ ⟨by omega, by omega⟩ _ ⟨by omega, by omega, by omega⟩ _ ⟨by omega, by omega, by omega⟩) dX11_middle_2.1 (Nat.le_of_ble_eq_true rfl) rfl ?_
        rintro r60 z60 ⟨hz60, p60⟩; subst z60
        exact zV_iret rfl dX11_middle_2.2 ⟨hF, trivial⟩
      · refine zW_bipush (pc' := 40) dX11_middle_1.1.1.2.2 rfl rfl ?_
        exact zV_iret rfl dX11_middle_1.1.2.1.1 ⟨hF, trivial⟩
    · refine zW_iconst (pc' := 24) dX11_middle_0.2.1.2.2 rfl ?_
      exact zV_iret rfl dX11_middle_0.2.2.1.1 ⟨hF, trivial⟩

abbrev q_X11_way (b : Bd) (κ : Hp) (x1 : Int) (x2 : Int) : Int → Hp → Prop := fun r h' => Fr b κ h' ∧ (True)
set_option maxHeartbeats 4000000 in
set_option maxRecDepth 20000 in
theorem s_X11_way {G : Ga} {b : Bd} {κ h : Hp} (hK : KC κ) (hF : Fr b κ h) (x1 : Int) (hx1 : rng x1) (x2 : Int) (hx2 : rng x2) (hSh : SheetOK b) : zM G mX11_way yX11_way [.inr (.inr 30), .inl x1, .inl x2] h (q_X11_way b κ x1 x2) := by
  have f_33_0 := KCw hK
  have f_33_1 := KCh hK
  have f_41_1 := KCf hK
  unfold rng at hx1
  unfold rng at hx2
  refine zM_of [some (.inr (.inr 30)), some (.inl x1), some (.inl x2)] 0 rfl rfl (Nat.le_of_ble_eq_true rfl) rfl ?_
  refine zW_aload_n (pc' := 1) dX11_way_0.1.1.1.1 rfl rfl ?_
  refine zG_ref (pc' := 4) 33 fg_X11_19 tb30 rfl dX11_way_0.1.1.1.2 rfl ?_
  refine zW_iload_n (pc' := 5) dX11_way_0.1.1.2.1 rfl rfl ?_
  refine zW_iload_n (pc' := 6) dX11_way_0.1.1.2.2 rfl rfl ?_
  refine cvI2 (pc' := 9) kX5_has vX5_has lk_X11_140 ⟨Nat.le_of_ble_eq_true rfl, Nat.le_of_ble_eq_true rfl⟩ tb33 vq5 rfl rfl (s_X5_has hK hF _ ⟨by omega, by omega⟩ _ ⟨by omega, by omega⟩) dX11_way_0.1.2.1.1 (Nat.le_of_ble_eq_true rfl) rfl ?_
  rintro r6 z6 ⟨hz6, p6⟩; subst z6
  refine zV_if_ne (tgt := 14) (pc' := 12) dX11_way_0.1.2.1.2 rfl rfl ⟨by omega, by omega⟩ (fun c9 => ?_) (fun c9 => ?_)
  · refine zW_aload_n (pc' := 15) dX11_way_0.2.1.1.1 rfl rfl ?_
    refine zG_ref (pc' := 18) 33 fg_X11_19 tb30 rfl dX11_way_0.2.1.1.2 rfl ?_
    refine zW_iload_n (pc' := 19) dX11_way_0.2.1.2.1 rfl rfl ?_
    refine zW_iload_n (pc' := 20) dX11_way_0.2.1.2.2 rfl rfl ?_
    refine cvI2 (pc' := 23) kX5_colourOf vX5_colourOf lk_X11_166 ⟨Nat.le_of_ble_eq_true rfl, Nat.le_of_ble_eq_true rfl⟩ tb33 vq5 rfl rfl (s_X5_colourOf hK hF _ _) dX11_way_0.2.2.1.1 (Nat.le_of_ble_eq_true rfl) rfl ?_
    rintro r20 z20 ⟨hz20, p20⟩; subst z20
    refine zW_iconst (pc' := 24) dX11_way_0.2.2.1.2 rfl ?_
    refine zV_cm_ne (tgt := 30) (pc' := 27) dX11_way_0.2.2.2.1 rfl rfl ⟨by omega, by omega⟩ ⟨by omega, by omega⟩ (fun c24 => ?_) (fun c24 => ?_)
    · refine zW_aload_n (pc' := 31) dX11_way_1.1.1.1.2 rfl rfl ?_
      refine zG_ref (pc' := 34) 41 fg_X11_33 tb30 rfl dX11_way_1.1.1.2.1 rfl ?_
      refine cvI0 (pc' := 37) kX7_fillsAlongEdges vX7_fillsAlongEdges lk_X11_244 ⟨Nat.le_of_ble_eq_true rfl, Nat.le_of_ble_eq_true rfl⟩ tb41 vq7 rfl rfl (s_X7_fillsAlongEdges hK hF) dX11_way_1.1.1.2.2 (Nat.le_of_ble_eq_true rfl) rfl ?_
      rintro r34 z34 ⟨hz34, p34⟩; subst z34
      refine zV_if_ne (tgt := 43) (pc' := 40) dX11_way_1.1.2.1.1 rfl rfl ⟨by omega, by omega⟩ (fun c37 => ?_) (fun c37 => ?_)
      · refine zW_aload_n (pc' := 44) dX11_way_1.1.2.2.2 rfl rfl ?_
        refine zG_ref (pc' := 47) 54 fg_X11_51 tb30 rfl dX11_way_1.2.1.1.1 rfl ?_
        refine zG_ref (pc' := 50) 86 fg_X11_231 tb54 rfl dX11_way_1.2.1.1.2 rfl ?_
        refine zW_aload_n (pc' := 51) dX11_way_1.2.1.2.1 rfl rfl ?_
        refine zG_ref (pc' := 54) 54 fg_X11_51 tb30 rfl dX11_way_1.2.1.2.2 rfl ?_
        refine zW_aload_n (pc' := 55) dX11_way_1.2.2.1.1 rfl rfl ?_
        refine zG_ref (pc' := 58) 41 fg_X11_33 tb30 rfl dX11_way_1.2.2.1.2 rfl ?_
        refine zG_key (pc' := 61) hF rfl fg_X11_248 tb41 rfl dX11_way_1.2.2.2.1 rfl ?_
        refine zW_iconst (pc' := 62) dX11_way_1.2.2.2.2 rfl ?_
        refine zW_isub (pc' := 63) dX11_way_2.1.1.1 rfl ?_
        refine cvA1 (pc' := 66) kX1_sheetOf vX1_sheetOf lk_X11_192 ⟨Nat.le_of_ble_eq_true rfl, Nat.le_of_ble_eq_true rfl⟩ tb54 vq1 rfl rfl (hSh hK hF _ ⟨by omega, by omega⟩) dX11_way_2.1.1.2 (Nat.le_of_ble_eq_true rfl) rfl ?_
        rintro r63 h ⟨hF, p63⟩
        obtain ⟨q63, z63⟩ : ∃ z : Nat, z = r63.toNat := ⟨_, rfl⟩
        rw [← z63]
        refine zW_iload_n (pc' := 67) dX11_way_2.1.2 rfl rfl ?_
        refine zW_iload_n (pc' := 68) dX11_way_2.2.1.1 rfl rfl ?_
        refine cvI3 (pc' := 71) kX2_wayOf vX2_wayOf lk_X11_251 ⟨Nat.le_of_ble_eq_true rfl, Nat.le_of_ble_eq_true rfl⟩ tb86 vq2 rfl rfl (s_X2_wayOf hK hF _ ⟨by omega, by omega⟩ _ ⟨by omega, by omega, by omega⟩ _ ⟨by omega, by omega, by omega⟩) dX11_way_2.2.1.2 (Nat.le_of_ble_eq_true rfl) rfl ?_
        rintro r68 z68 ⟨hz68, p68⟩; subst z68
        exact zV_iret rfl dX11_way_2.2.2 ⟨hF, trivial⟩
      · refine zW_bipush (pc' := 42) dX11_way_1.1.2.1.2 rfl rfl ?_
        exact zV_iret rfl dX11_way_1.1.2.2.1 ⟨hF, trivial⟩
    · refine zW_bipush (pc' := 29) dX11_way_0.2.2.2.2 rfl rfl ?_
      exact zV_iret rfl dX11_way_1.1.1.1.1 ⟨hF, trivial⟩
  · refine zW_iconst (pc' := 13) dX11_way_0.1.2.2.1 rfl ?_
    exact zV_iret rfl dX11_way_0.1.2.2.2 ⟨hF, trivial⟩

abbrev q_X11_ways (b : Bd) (κ : Hp) (x1 : Int) : Int → Hp → Prop := fun r h' => Fr b κ h' ∧ (True)
set_option maxHeartbeats 4000000 in
set_option maxRecDepth 20000 in
theorem s_X11_ways {G : Ga} {b : Bd} {κ h : Hp} (hK : KC κ) (hF : Fr b κ h) (x1 : Int) (hx1 : rng x1) (hSh : SheetOK b) : zM G mX11_ways yX11_ways [.inr (.inr 30), .inl x1] h (q_X11_ways b κ x1) := by
  have f_33_0 := KCw hK
  have f_33_1 := KCh hK
  have f_41_1 := KCf hK
  unfold rng at hx1
  have main : ∀ N : Nat, (∀ (v3 v4 : Int) (t2 : Nat) (h : Hp), Fr b κ h → (0 ≤ x1 ∧ x1 ≤ 2) → (56 ≤ t2 ∧ t2 ≤ 70) → (0 ≤ v4 ∧ v4 ≤ 16) → (v4 - κ 33 1 ≤ 0) → 17003520 + 23616 * (16 - v4) + 23040 < (N : Int) → zV G mX11_ways (q_X11_ways b κ x1) 45 [some (.inr (.inr 30)), some (.inl x1), some (.inr (.inr t2)), some (.inl v3), some (.inl v4), none] [] h) ∧ (∀ (v3 v4 v5 : Int) (t2 : Nat) (h : Hp), Fr b κ h → (0 ≤ x1 ∧ x1 ≤ 2) → (56 ≤ t2 ∧ t2 ≤ 70) → (0 ≤ v4 ∧ v4 ≤ 15) → (v4 - κ 33 1 ≤ -1) → (0 ≤ v5 ∧ v5 ≤ 16) → (v5 - κ 33 0 ≤ 0) → 17003520 + 23616 * (16 - v4) + 17856 + 32 * (16 - v5) + 31 < (N : Int) → zV G mX11_ways (q_X11_ways b κ x1) 60 [some (.inr (.inr 30)), some (.inl x1), some (.inr (.inr t2)), some (.inl v3), some (.inl v4), some (.inl v5)] [] h) := by
    intro N
    induction N with
    | zero =>
      refine ⟨?_, ?_⟩
      · intro v3 v4 t2 h hF g0 g1 g2 g3 hm
        exfalso; omega
      · intro v3 v4 v5 t2 h hF g0 g1 g2 g3 g4 g5 hm
        exfalso; omega
    | succ N ih =>
      obtain ⟨k45, k60⟩ := ih
      refine ⟨?_, ?_⟩
      · intro v3 v4 t2 h hF g0 g1 g2 g3 hm
        refine zW_iload (pc' := 47) dX11_ways_1.2.1.1.2 rfl rfl ?_
        refine zW_aload_n (pc' := 48) dX11_ways_1.2.1.2.1 rfl rfl ?_
        refine zG_ref (pc' := 51) 33 fg_X11_19 tb30 rfl dX11_ways_1.2.1.2.2 rfl ?_
        refine zG_key (pc' := 54) hF rfl fg_X11_127 tb33 rfl dX11_ways_1.2.2.1.1 rfl ?_
        refine zV_cm_ge (tgt := 121) (pc' := 57) dX11_ways_1.2.2.1.2 rfl rfl ⟨by omega, by omega⟩ ⟨by omega, by omega⟩ (fun c54 => ?_) (fun c54 => ?_)
        · refine zW_iload_n (pc' := 122) dX11_ways_3.2.2.1.2 rfl rfl ?_
          exact zV_iret rfl dX11_ways_3.2.2.2 ⟨hF, trivial⟩
        · refine zW_iconst (pc' := 58) dX11_ways_1.2.2.2.1 rfl ?_
          refine zW_istore (ls' := [_, _, _, _, _, _]) (pc' := 60) dX11_ways_1.2.2.2.2 (by decide) rfl rfl rfl ?_
          exact k60 _ _ _ _ _ hF (by omega) (by omega) (by omega) (by omega) (by omega) (by omega) (by omega)
      · intro v3 v4 v5 t2 h hF g0 g1 g2 g3 g4 g5 hm
        refine zW_iload (pc' := 62) dX11_ways_2.1.1.1.1 rfl rfl ?_
        refine zW_aload_n (pc' := 63) dX11_ways_2.1.1.1.2 rfl rfl ?_
        refine zG_ref (pc' := 66) 33 fg_X11_19 tb30 rfl dX11_ways_2.1.1.2.1 rfl ?_
        refine zG_key (pc' := 69) hF rfl fg_X11_130 tb33 rfl dX11_ways_2.1.1.2.2 rfl ?_
        refine zV_cm_ge (tgt := 115) (pc' := 72) dX11_ways_2.1.2.1.1 rfl rfl ⟨by omega, by omega⟩ ⟨by omega, by omega⟩ (fun c69 => ?_) (fun c69 => ?_)
        · refine zW_iinc (ls' := [_, _, _, _, _, _]) (pc' := 118) dX11_ways_3.2.1.2 rfl (by decide) rfl rfl rfl ?_
          refine zV_goto 45 dX11_ways_3.2.2.1.1 rfl ?_
          refine zV_clr 5 (ls' := [_, _, _, _, _, _]) rfl ?_
          exact k45 _ _ _ _ hF (by omega) (by omega) (by omega) (by omega) (by omega)
        · refine zW_aload_n (pc' := 73) dX11_ways_2.1.2.1.2 rfl rfl ?_
          refine zG_ref (pc' := 76) 33 fg_X11_19 tb30 rfl dX11_ways_2.1.2.2.1 rfl ?_
          refine zW_iload (pc' := 78) dX11_ways_2.1.2.2.2 rfl rfl ?_
          refine zW_iload (pc' := 80) dX11_ways_2.2.1.1.1 rfl rfl ?_
          refine cvI2 (pc' := 83) kX5_colourOf vX5_colourOf lk_X11_166 ⟨Nat.le_of_ble_eq_true rfl, Nat.le_of_ble_eq_true rfl⟩ tb33 vq5 rfl rfl (s_X5_colourOf hK hF _ _) dX11_ways_2.2.1.1.2 (Nat.le_of_ble_eq_true rfl) rfl ?_
          rintro r80 z80 ⟨hz80, p80⟩; subst z80
          refine zW_iconst (pc' := 84) dX11_ways_2.2.1.2.1 rfl ?_
          refine zV_cm_eq (tgt := 109) (pc' := 87) dX11_ways_2.2.1.2.2 rfl rfl ⟨by omega, by omega⟩ ⟨by omega, by omega⟩ (fun c84 => ?_) (fun c84 => ?_)
          · refine zW_iinc (ls' := [_, _, _, _, _, _]) (pc' := 112) dX11_ways_3.2.1.1.1 rfl (by decide) rfl rfl rfl ?_
            refine zV_goto 60 dX11_ways_3.2.1.1.2 rfl ?_
            exact k60 _ _ _ _ _ hF (by omega) (by omega) (by omega) (by omega) (by omega) (by omega) (by omega)
          · refine zW_aload_n (pc' := 88) dX11_ways_2.2.2.1.1 rfl rfl ?_
            refine zG_ref (pc' := 91) 54 fg_X11_51 tb30 rfl dX11_ways_2.2.2.1.2 rfl ?_
            refine zG_ref (pc' := 94) 86 fg_X11_231 tb54 rfl dX11_ways_2.2.2.2.1 rfl ?_
            refine zW_aload_n (pc' := 95) dX11_ways_2.2.2.2.2 rfl rfl ?_
            refine zW_iload (pc' := 97) dX11_ways_3.1.1.1.1 rfl rfl ?_
            refine zW_iload (pc' := 99) dX11_ways_3.1.1.1.2 rfl rfl ?_
            refine cvI3 (pc' := 102) kX2_wayOf vX2_wayOf lk_X11_251 ⟨Nat.le_of_ble_eq_true rfl, Nat.le_of_ble_eq_true rfl⟩ tb86 vq2 rfl rfl (s_X2_wayOf hK hF _ ⟨by omega, by omega⟩ _ ⟨by omega, by omega, by omega⟩ _ ⟨by omega, by omega, by omega⟩) dX11_ways_3.1.1.2 (Nat.le_of_ble_eq_true rfl) rfl ?_
            rintro r99 z99 ⟨hz99, p99⟩; subst z99
            refine zW_iload_n (pc' := 103) dX11_ways_3.1.2.1.1 rfl rfl ?_
            refine zV_cm_ne (tgt := 109) (pc' := 106) dX11_ways_3.1.2.1.2 rfl rfl ⟨by omega, by omega⟩ ⟨by omega, by omega⟩ (fun c103 => ?_) (fun c103 => ?_)
            · refine zW_iinc (ls' := [_, _, _, _, _, _]) (pc' := 112) dX11_ways_3.2.1.1.1 rfl (by decide) rfl rfl rfl ?_
              refine zV_goto 60 dX11_ways_3.2.1.1.2 rfl ?_
              exact k60 _ _ _ _ _ hF (by omega) (by omega) (by omega) (by omega) (by omega) (by omega) (by omega)
            · refine zW_iinc (ls' := [_, _, _, _, _, _]) (pc' := 109) dX11_ways_3.1.2.2 rfl (by decide) rfl rfl rfl ?_
              refine zW_iinc (ls' := [_, _, _, _, _, _]) (pc' := 112) dX11_ways_3.2.1.1.1 rfl (by decide) rfl rfl rfl ?_
              refine zV_goto 60 dX11_ways_3.2.1.1.2 rfl ?_
              exact k60 _ _ _ _ _ hF (by omega) (by omega) (by omega) (by omega) (by omega) (by omega) (by omega)
  refine zM_of [some (.inr (.inr 30)), some (.inl x1), none, none, none, none] 4 rfl rfl (Nat.le_of_ble_eq_true rfl) rfl ?_
  refine zW_iload_n (pc' := 1) dX11_ways_0.1.1.1.1 rfl rfl ?_
  refine zW_iconst (pc' := 2) dX11_ways_0.1.1.1.2 rfl ?_
  refine csI2 (pc' := 5) kX11_isWithin vX11_isWithin lk_X11_116 ⟨Nat.le_of_ble_eq_true rfl, Nat.le_of_ble_eq_true rfl⟩ rfl (s_X11_isWithinR hF _ ⟨by omega, by omega⟩ _ ⟨by omega, by omega⟩) dX11_ways_0.1.1.2.1 (Nat.le_of_ble_eq_true rfl) rfl ?_
  rintro r2 z2 ⟨hz2, p2⟩; subst z2
  refine zV_if_ne (tgt := 10) (pc' := 8) dX11_ways_0.1.1.2.2 rfl rfl ⟨by omega, by omega⟩ (fun c5 => ?_) (fun c5 => ?_)
  · refine zW_aload_n (pc' := 11) dX11_ways_0.1.2.2.1 rfl rfl ?_
    refine zG_ref (pc' := 14) 41 fg_X11_33 tb30 rfl dX11_ways_0.1.2.2.2 rfl ?_
    refine cvI0 (pc' := 17) kX7_fillsAlongEdges vX7_fillsAlongEdges lk_X11_244 ⟨Nat.le_of_ble_eq_true rfl, Nat.le_of_ble_eq_true rfl⟩ tb41 vq7 rfl rfl (s_X7_fillsAlongEdges hK hF) dX11_ways_0.2.1.1.1 (Nat.le_of_ble_eq_true rfl) rfl ?_
    rintro r14 z14 ⟨hz14, p14⟩; subst z14
    refine zV_if_ne (tgt := 23) (pc' := 20) dX11_ways_0.2.1.1.2 rfl rfl ⟨by omega, by omega⟩ (fun c17 => ?_) (fun c17 => ?_)
    · refine zW_aload_n (pc' := 24) dX11_ways_0.2.2.1.1 rfl rfl ?_
      refine zG_ref (pc' := 27) 54 fg_X11_51 tb30 rfl dX11_ways_0.2.2.1.2 rfl ?_
      refine zW_aload_n (pc' := 28) dX11_ways_0.2.2.2.1 rfl rfl ?_
      refine zG_ref (pc' := 31) 41 fg_X11_33 tb30 rfl dX11_ways_0.2.2.2.2 rfl ?_
      refine zG_key (pc' := 34) hF rfl fg_X11_248 tb41 rfl dX11_ways_1.1.1.1.1 rfl ?_
      refine zW_iconst (pc' := 35) dX11_ways_1.1.1.1.2 rfl ?_
      refine zW_isub (pc' := 36) dX11_ways_1.1.1.2.1 rfl ?_
      refine cvA1 (pc' := 39) kX1_sheetOf vX1_sheetOf lk_X11_192 ⟨Nat.le_of_ble_eq_true rfl, Nat.le_of_ble_eq_true rfl⟩ tb54 vq1 rfl rfl (hSh hK hF _ ⟨by omega, by omega⟩) dX11_ways_1.1.1.2.2 (Nat.le_of_ble_eq_true rfl) rfl ?_
      rintro r36 h ⟨hF, p36⟩
      obtain ⟨q36, z36⟩ : ∃ z : Nat, z = r36.toNat := ⟨_, rfl⟩
      rw [← z36]
      refine zW_astore_n (ls' := [_, _, _, _, _, _]) (pc' := 40) dX11_ways_1.1.2.1.1 (by decide) rfl rfl rfl ?_
      refine zW_iconst (pc' := 41) dX11_ways_1.1.2.1.2 rfl ?_
      refine zW_istore_n (ls' := [_, _, _, _, _, _]) (pc' := 42) dX11_ways_1.1.2.2.1 (by decide) rfl rfl rfl ?_
      refine zW_iconst (pc' := 43) dX11_ways_1.1.2.2.2 rfl ?_
      refine zW_istore (ls' := [_, _, _, _, _, _]) (pc' := 45) dX11_ways_1.2.1.1.1 (by decide) rfl rfl rfl ?_
      exact (main 10000000000000000000000000000000000000000).1 _ _ _ _ hF (by omega) (by omega) (by omega) (by omega) (by omega)
    · refine zW_bipush (pc' := 22) dX11_ways_0.2.1.2.1 rfl rfl ?_
      exact zV_iret rfl dX11_ways_0.2.1.2.2 ⟨hF, trivial⟩
  · refine zW_iconst (pc' := 9) dX11_ways_0.1.2.1.1 rfl ?_
    exact zV_iret rfl dX11_ways_0.1.2.1.2 ⟨hF, trivial⟩

abbrev q_X11_white (b : Bd) (κ : Hp) (x1 : Int) (x2 : Int) : Int → Hp → Prop := fun r h' => Fr b κ h' ∧ (True)
set_option maxHeartbeats 4000000 in
set_option maxRecDepth 20000 in
theorem s_X11_white {G : Ga} {b : Bd} {κ h : Hp} (hK : KC κ) (hF : Fr b κ h) (x1 : Int) (hx1 : rng x1) (x2 : Int) (hx2 : rng x2) (hSh : SheetOK b) : zM G mX11_white yX11_white [.inr (.inr 30), .inl x1, .inl x2] h (q_X11_white b κ x1 x2) := by
  have f_41_0 := KCm hK
  unfold rng at hx1
  unfold rng at hx2
  refine zM_of [some (.inr (.inr 30)), some (.inl x1), some (.inl x2)] 0 rfl rfl (Nat.le_of_ble_eq_true rfl) rfl ?_
  refine zW_aload_n (pc' := 1) dX11_white_0.1.1.1.1 rfl rfl ?_
  refine zG_ref (pc' := 4) 41 fg_X11_33 tb30 rfl dX11_white_0.1.1.1.2 rfl ?_
  refine zW_iload_n (pc' := 5) dX11_white_0.1.1.2.1 rfl rfl ?_
  refine cvI1 (pc' := 8) kX7_has vX7_has lk_X11_178 ⟨Nat.le_of_ble_eq_true rfl, Nat.le_of_ble_eq_true rfl⟩ tb41 vq7 rfl rfl (s_X7_has hK hF _ ⟨by omega, by omega⟩) dX11_white_0.1.1.2.2 (Nat.le_of_ble_eq_true rfl) rfl ?_
  rintro r5 z5 ⟨hz5, p5⟩; subst z5
  refine zV_if_eq (tgt := 19) (pc' := 11) dX11_white_0.1.2.1.1 rfl rfl ⟨by omega, by omega⟩ (fun c8 => ?_) (fun c8 => ?_)
  · refine zW_iconst (pc' := 20) dX11_white_0.2.1.1.2 rfl ?_
    exact zV_iret rfl dX11_white_0.2.1.2.1 ⟨hF, trivial⟩
  · refine zW_iload_n (pc' := 12) dX11_white_0.1.2.1.2 rfl rfl ?_
    refine zW_iconst (pc' := 13) dX11_white_0.1.2.2.1 rfl ?_
    refine csI2 (pc' := 16) kX11_isWithin vX11_isWithin lk_X11_116 ⟨Nat.le_of_ble_eq_true rfl, Nat.le_of_ble_eq_true rfl⟩ rfl (s_X11_isWithinR hF _ ⟨by omega, by omega⟩ _ ⟨by omega, by omega⟩) dX11_white_0.1.2.2.2 (Nat.le_of_ble_eq_true rfl) rfl ?_
    rintro r13 z13 ⟨hz13, p13⟩; subst z13
    refine zV_if_ne (tgt := 21) (pc' := 19) dX11_white_0.2.1.1.1 rfl rfl ⟨by omega, by omega⟩ (fun c16 => ?_) (fun c16 => ?_)
    · refine zW_aload_n (pc' := 22) dX11_white_0.2.1.2.2 rfl rfl ?_
      refine zG_ref (pc' := 25) 41 fg_X11_33 tb30 rfl dX11_white_0.2.2.1.1 rfl ?_
      refine zW_iload_n (pc' := 26) dX11_white_0.2.2.1.2 rfl rfl ?_
      refine cvI1 (pc' := 29) kX7_letterOf vX7_letterOf lk_X11_180 ⟨Nat.le_of_ble_eq_true rfl, Nat.le_of_ble_eq_true rfl⟩ tb41 vq7 rfl rfl (s_X7_letterOf hK hF _ ⟨by omega, by omega⟩) dX11_white_0.2.2.2.1 (Nat.le_of_ble_eq_true rfl) rfl ?_
      rintro r26 z26 ⟨hz26, p26⟩; subst z26
      refine zW_bipush (pc' := 31) dX11_white_0.2.2.2.2 rfl rfl ?_
      refine zV_cm_eq (tgt := 37) (pc' := 34) dX11_white_1.1.1.1.1 rfl rfl ⟨by omega, by omega⟩ ⟨by omega, by omega⟩ (fun c31 => ?_) (fun c31 => ?_)
      · refine zW_aload_n (pc' := 38) dX11_white_1.1.1.2.2 rfl rfl ?_
        refine zG_ref (pc' := 41) 54 fg_X11_51 tb30 rfl dX11_white_1.1.2.1.1 rfl ?_
        refine zG_ref (pc' := 44) 87 fg_X11_254 tb54 rfl dX11_white_1.1.2.1.2 rfl ?_
        refine zW_aload_n (pc' := 45) dX11_white_1.1.2.2.1 rfl rfl ?_
        refine zG_ref (pc' := 48) 54 fg_X11_51 tb30 rfl dX11_white_1.1.2.2.2 rfl ?_
        refine zW_iload_n (pc' := 49) dX11_white_1.2.1.1.1 rfl rfl ?_
        refine zW_iconst (pc' := 50) dX11_white_1.2.1.1.2 rfl ?_
        refine zW_isub (pc' := 51) dX11_white_1.2.1.2.1 rfl ?_
        refine cvA1 (pc' := 54) kX1_sheetOf vX1_sheetOf lk_X11_192 ⟨Nat.le_of_ble_eq_true rfl, Nat.le_of_ble_eq_true rfl⟩ tb54 vq1 rfl rfl (hSh hK hF _ ⟨by omega, by omega⟩) dX11_white_1.2.1.2.2 (Nat.le_of_ble_eq_true rfl) rfl ?_
        rintro r51 h ⟨hF, p51⟩
        obtain ⟨q51, z51⟩ : ∃ z : Nat, z = r51.toNat := ⟨_, rfl⟩
        rw [← z51]
        refine zW_aload_n (pc' := 55) dX11_white_1.2.2.1.1 rfl rfl ?_
        refine zG_ref (pc' := 58) 41 fg_X11_33 tb30 rfl dX11_white_1.2.2.1.2 rfl ?_
        refine zW_iload_n (pc' := 59) dX11_white_1.2.2.2.1 rfl rfl ?_
        refine zW_iconst (pc' := 60) dX11_white_1.2.2.2.2 rfl ?_
        refine cvI2 (pc' := 63) kX7_numberOf vX7_numberOf lk_X11_186 ⟨Nat.le_of_ble_eq_true rfl, Nat.le_of_ble_eq_true rfl⟩ tb41 vq7 rfl rfl (s_X7_numberOf hK hF _ ⟨by omega, by omega⟩ _ ⟨by omega, by omega⟩) dX11_white_2.1.1.1.1 (Nat.le_of_ble_eq_true rfl) rfl ?_
        rintro r60 z60 ⟨hz60, p60⟩; subst z60
        refine cvV2 (pc' := 66) kX3_findWhite vX3_findWhite lk_X11_258 ⟨Nat.le_of_ble_eq_true rfl, Nat.le_of_ble_eq_true rfl⟩ tb87 vq3 rfl rfl (s_X3_findWhite hK hF _ ⟨by omega, by omega⟩ _) dX11_white_2.1.1.1.2 (Nat.le_of_ble_eq_true rfl) rfl ?_
        rintro r63 h ⟨hF, p63⟩
        refine zW_iload_n (pc' := 67) dX11_white_2.1.1.2.1 rfl rfl ?_
        refine zW_iconst (pc' := 68) dX11_white_2.1.1.2.2 rfl ?_
        refine zV_cm_ne (tgt := 82) (pc' := 71) dX11_white_2.1.2.1.1 rfl rfl ⟨by omega, by omega⟩ ⟨by omega, by omega⟩ (fun c68 => ?_) (fun c68 => ?_)
        · refine zW_iload_n (pc' := 83) dX11_white_2.2.1.2.1 rfl rfl ?_
          refine zV_if_ne (tgt := 99) (pc' := 86) dX11_white_2.2.1.2.2 rfl rfl ⟨by omega, by omega⟩ (fun c83 => ?_) (fun c83 => ?_)
          · refine zW_aload_n (pc' := 100) dX11_white_3.1.1.2 rfl rfl ?_
            refine zG_ref (pc' := 103) 54 fg_X11_51 tb30 rfl dX11_white_3.1.2 rfl ?_
            refine zG_ref (pc' := 106) 87 fg_X11_254 tb54 rfl dX11_white_3.2.1.1 rfl ?_
            refine zG_int (pc' := 109) fg_X11_270 tb87 rfl dX11_white_3.2.1.2 rfl ?_
            exact zV_iret rfl dX11_white_3.2.2 ⟨hF, trivial⟩
          · refine zW_aload_n (pc' := 87) dX11_white_2.2.2.1.1 rfl rfl ?_
            refine zG_ref (pc' := 90) 54 fg_X11_51 tb30 rfl dX11_white_2.2.2.1.2 rfl ?_
            refine zG_ref (pc' := 93) 87 fg_X11_254 tb54 rfl dX11_white_2.2.2.2.1 rfl ?_
            refine zG_int (pc' := 96) fg_X11_267 tb87 rfl dX11_white_2.2.2.2.2 rfl ?_
            refine zV_goto 109 dX11_white_3.1.1.1 rfl ?_
            exact zV_iret rfl dX11_white_3.2.2 ⟨hF, trivial⟩
        · refine zW_aload_n (pc' := 72) dX11_white_2.1.2.1.2 rfl rfl ?_
          refine zG_ref (pc' := 75) 54 fg_X11_51 tb30 rfl dX11_white_2.1.2.2.1 rfl ?_
          refine zG_ref (pc' := 78) 87 fg_X11_254 tb54 rfl dX11_white_2.1.2.2.2 rfl ?_
          refine zG_int (pc' := 81) fg_X11_264 tb87 rfl dX11_white_2.2.1.1.1 rfl ?_
          exact zV_iret rfl dX11_white_2.2.1.1.2 ⟨hF, trivial⟩
      · refine zW_bipush (pc' := 36) dX11_white_1.1.1.1.2 rfl rfl ?_
        exact zV_iret rfl dX11_white_1.1.1.2.1 ⟨hF, trivial⟩
    · refine zW_iconst (pc' := 20) dX11_white_0.2.1.1.2 rfl ?_
      exact zV_iret rfl dX11_white_0.2.1.2.1 ⟨hF, trivial⟩

abbrev q_X11_base (b : Bd) (κ : Hp) (x1 : Int) (x2 : Int) (x3 : Int) : Int → Hp → Prop := fun r h' => Fr b κ h' ∧ (True)
set_option maxHeartbeats 4000000 in
set_option maxRecDepth 20000 in
theorem s_X11_base {G : Ga} {b : Bd} {κ h : Hp} (hK : KC κ) (hF : Fr b κ h) (x1 : Int) (hx1 : rng x1) (x2 : Int) (hx2 : rng x2) (x3 : Int) (hx3 : rng x3) (hSh : SheetOK b) : zM G mX11_base yX11_base [.inr (.inr 30), .inl x1, .inl x2, .inl x3] h (q_X11_base b κ x1 x2 x3) := by
  have f_33_0 := KCw hK
  have f_33_1 := KCh hK
  have f_41_0 := KCm hK
  unfold rng at hx1
  unfold rng at hx2
  unfold rng at hx3
  refine zM_of [some (.inr (.inr 30)), some (.inl x1), some (.inl x2), some (.inl x3)] 0 rfl rfl (Nat.le_of_ble_eq_true rfl) rfl ?_
  refine zW_aload_n (pc' := 1) dX11_base_0.1.1.1.1 rfl rfl ?_
  refine zG_ref (pc' := 4) 41 fg_X11_33 tb30 rfl dX11_base_0.1.1.1.2 rfl ?_
  refine zW_iload_n (pc' := 5) dX11_base_0.1.1.2.1 rfl rfl ?_
  refine cvI1 (pc' := 8) kX7_has vX7_has lk_X11_178 ⟨Nat.le_of_ble_eq_true rfl, Nat.le_of_ble_eq_true rfl⟩ tb41 vq7 rfl rfl (s_X7_has hK hF _ ⟨by omega, by omega⟩) dX11_base_0.1.1.2.2 (Nat.le_of_ble_eq_true rfl) rfl ?_
  rintro r5 z5 ⟨hz5, p5⟩; subst z5
  refine zV_if_eq (tgt := 23) (pc' := 11) dX11_base_0.1.2.1.1 rfl rfl ⟨by omega, by omega⟩ (fun c8 => ?_) (fun c8 => ?_)
  · refine zW_iconst (pc' := 24) dX11_base_0.2.1.2.2 rfl ?_
    exact zV_iret rfl dX11_base_0.2.2.1.1 ⟨hF, trivial⟩
  · refine zW_aload_n (pc' := 12) dX11_base_0.1.2.1.2 rfl rfl ?_
    refine zG_ref (pc' := 15) 33 fg_X11_19 tb30 rfl dX11_base_0.1.2.2.1 rfl ?_
    refine zW_iload_n (pc' := 16) dX11_base_0.1.2.2.2 rfl rfl ?_
    refine zW_iload_n (pc' := 17) dX11_base_0.2.1.1.1 rfl rfl ?_
    refine cvI2 (pc' := 20) kX5_has vX5_has lk_X11_140 ⟨Nat.le_of_ble_eq_true rfl, Nat.le_of_ble_eq_true rfl⟩ tb33 vq5 rfl rfl (s_X5_has hK hF _ ⟨by omega, by omega⟩ _ ⟨by omega, by omega⟩) dX11_base_0.2.1.1.2 (Nat.le_of_ble_eq_true rfl) rfl ?_
    rintro r17 z17 ⟨hz17, p17⟩; subst z17
    refine zV_if_ne (tgt := 25) (pc' := 23) dX11_base_0.2.1.2.1 rfl rfl ⟨by omega, by omega⟩ (fun c20 => ?_) (fun c20 => ?_)
    · refine zW_aload_n (pc' := 26) dX11_base_0.2.2.1.2 rfl rfl ?_
      refine zG_ref (pc' := 29) 41 fg_X11_33 tb30 rfl dX11_base_0.2.2.2.1 rfl ?_
      refine zW_iload_n (pc' := 30) dX11_base_0.2.2.2.2 rfl rfl ?_
      refine cvI1 (pc' := 33) kX7_letterOf vX7_letterOf lk_X11_180 ⟨Nat.le_of_ble_eq_true rfl, Nat.le_of_ble_eq_true rfl⟩ tb41 vq7 rfl rfl (s_X7_letterOf hK hF _ ⟨by omega, by omega⟩) dX11_base_1.1.1.1.1 (Nat.le_of_ble_eq_true rfl) rfl ?_
      rintro r30 z30 ⟨hz30, p30⟩; subst z30
      refine zW_bipush (pc' := 35) dX11_base_1.1.1.1.2 rfl rfl ?_
      refine zV_cm_eq (tgt := 41) (pc' := 38) dX11_base_1.1.1.2.1 rfl rfl ⟨by omega, by omega⟩ ⟨by omega, by omega⟩ (fun c35 => ?_) (fun c35 => ?_)
      · refine zW_aload_n (pc' := 42) dX11_base_1.1.2.1.2 rfl rfl ?_
        refine zG_ref (pc' := 45) 54 fg_X11_51 tb30 rfl dX11_base_1.1.2.2.1 rfl ?_
        refine zG_ref (pc' := 48) 87 fg_X11_254 tb54 rfl dX11_base_1.1.2.2.2 rfl ?_
        refine zW_aload_n (pc' := 49) dX11_base_1.2.1.1.1 rfl rfl ?_
        refine zG_ref (pc' := 52) 54 fg_X11_51 tb30 rfl dX11_base_1.2.1.1.2 rfl ?_
        refine zW_iload_n (pc' := 53) dX11_base_1.2.1.2.1 rfl rfl ?_
        refine zW_iconst (pc' := 54) dX11_base_1.2.1.2.2 rfl ?_
        refine zW_isub (pc' := 55) dX11_base_1.2.2.1.1 rfl ?_
        refine cvA1 (pc' := 58) kX1_sheetOf vX1_sheetOf lk_X11_192 ⟨Nat.le_of_ble_eq_true rfl, Nat.le_of_ble_eq_true rfl⟩ tb54 vq1 rfl rfl (hSh hK hF _ ⟨by omega, by omega⟩) dX11_base_1.2.2.1.2 (Nat.le_of_ble_eq_true rfl) rfl ?_
        rintro r55 h ⟨hF, p55⟩
        obtain ⟨q55, z55⟩ : ∃ z : Nat, z = r55.toNat := ⟨_, rfl⟩
        rw [← z55]
        refine zW_aload_n (pc' := 59) dX11_base_1.2.2.2.1 rfl rfl ?_
        refine zG_ref (pc' := 62) 41 fg_X11_33 tb30 rfl dX11_base_1.2.2.2.2 rfl ?_
        refine zW_iload_n (pc' := 63) dX11_base_2.1.1.1.1 rfl rfl ?_
        refine zW_iconst (pc' := 64) dX11_base_2.1.1.1.2 rfl ?_
        refine cvI2 (pc' := 67) kX7_numberOf vX7_numberOf lk_X11_186 ⟨Nat.le_of_ble_eq_true rfl, Nat.le_of_ble_eq_true rfl⟩ tb41 vq7 rfl rfl (s_X7_numberOf hK hF _ ⟨by omega, by omega⟩ _ ⟨by omega, by omega⟩) dX11_base_2.1.1.2.1 (Nat.le_of_ble_eq_true rfl) rfl ?_
        rintro r64 z64 ⟨hz64, p64⟩; subst z64
        refine cvV2 (pc' := 70) kX3_findBases vX3_findBases lk_X11_273 ⟨Nat.le_of_ble_eq_true rfl, Nat.le_of_ble_eq_true rfl⟩ tb87 vq3 rfl rfl (s_X3_findBases hK hF _ ⟨by omega, by omega⟩ _ ⟨by omega, by omega⟩) dX11_base_2.1.1.2.2 (Nat.le_of_ble_eq_true rfl) rfl ?_
        rintro r67 h ⟨hF, p67⟩
        refine zW_aload_n (pc' := 71) dX11_base_2.1.2.1.1 rfl rfl ?_
        refine zG_ref (pc' := 74) 54 fg_X11_51 tb30 rfl dX11_base_2.1.2.1.2 rfl ?_
        refine zG_ref (pc' := 77) 87 fg_X11_254 tb54 rfl dX11_base_2.1.2.2.1 rfl ?_
        refine zG_ref (pc' := 80) 88 fg_X11_276 tb87 rfl dX11_base_2.1.2.2.2 rfl ?_
        refine zW_iload_n (pc' := 81) dX11_base_2.2.1.1.1 rfl rfl ?_
        refine zW_bipush (pc' := 83) dX11_base_2.2.1.1.2 rfl rfl ?_
        refine zW_imul (pc' := 84) dX11_base_2.2.1.2.1 rfl ?_
        refine zW_iload_n (pc' := 85) dX11_base_2.2.1.2.2 rfl rfl ?_
        refine zW_iadd (pc' := 86) dX11_base_2.2.2.1.1 rfl ?_
        refine zV_iald (pc' := 87) tb88 (by omega) dX11_base_2.2.2.1.2 (by decide) rfl ?_
        exact zV_iret rfl dX11_base_2.2.2.2 ⟨hF, trivial⟩
      · refine zW_bipush (pc' := 40) dX11_base_1.1.1.2.2 rfl rfl ?_
        exact zV_iret rfl dX11_base_1.1.2.1.1 ⟨hF, trivial⟩
    · refine zW_iconst (pc' := 24) dX11_base_0.2.1.2.2 rfl ?_
      exact zV_iret rfl dX11_base_0.2.2.1.1 ⟨hF, trivial⟩

abbrev q_X11_tone (b : Bd) (κ : Hp) (x1 : Int) (x2 : Int) (x3 : Int) (x4 : Int) : Int → Hp → Prop := fun r h' => Fr b κ h' ∧ (True)
set_option maxHeartbeats 4000000 in
set_option maxRecDepth 20000 in
theorem s_X11_tone {G : Ga} {b : Bd} {κ h : Hp} (hK : KC κ) (hF : Fr b κ h) (x1 : Int) (hx1 : rng x1) (x2 : Int) (hx2 : rng x2) (x3 : Int) (hx3 : rng x3) (x4 : Int) (hx4 : rng x4) (hSh : SheetOK b) : zM G mX11_tone yX11_tone [.inr (.inr 30), .inl x1, .inl x2, .inl x3, .inl x4] h (q_X11_tone b κ x1 x2 x3 x4) := by
  have f_33_0 := KCw hK
  have f_33_1 := KCh hK
  have f_41_0 := KCm hK
  unfold rng at hx1
  unfold rng at hx2
  unfold rng at hx3
  unfold rng at hx4
  refine zM_of [some (.inr (.inr 30)), some (.inl x1), some (.inl x2), some (.inl x3), some (.inl x4)] 0 rfl rfl (Nat.le_of_ble_eq_true rfl) rfl ?_
  refine zW_aload_n (pc' := 1) dX11_tone_0.1.1.1.1 rfl rfl ?_
  refine zG_ref (pc' := 4) 41 fg_X11_33 tb30 rfl dX11_tone_0.1.1.1.2 rfl ?_
  refine zW_iload_n (pc' := 5) dX11_tone_0.1.1.2.1 rfl rfl ?_
  refine cvI1 (pc' := 8) kX7_has vX7_has lk_X11_178 ⟨Nat.le_of_ble_eq_true rfl, Nat.le_of_ble_eq_true rfl⟩ tb41 vq7 rfl rfl (s_X7_has hK hF _ ⟨by omega, by omega⟩) dX11_tone_0.1.1.2.2 (Nat.le_of_ble_eq_true rfl) rfl ?_
  rintro r5 z5 ⟨hz5, p5⟩; subst z5
  refine zV_if_eq (tgt := 32) (pc' := 11) dX11_tone_0.1.2.1.1 rfl rfl ⟨by omega, by omega⟩ (fun c8 => ?_) (fun c8 => ?_)
  · refine zW_iconst (pc' := 33) dX11_tone_0.2.2.2.2 rfl ?_
    exact zV_iret rfl dX11_tone_1.1.1.1.1 ⟨hF, trivial⟩
  · refine zW_iload_n (pc' := 12) dX11_tone_0.1.2.1.2 rfl rfl ?_
    refine zW_iconst (pc' := 13) dX11_tone_0.1.2.2.1 rfl ?_
    refine csI2 (pc' := 16) kX11_isWithin vX11_isWithin lk_X11_116 ⟨Nat.le_of_ble_eq_true rfl, Nat.le_of_ble_eq_true rfl⟩ rfl (s_X11_isWithinR hF _ ⟨by omega, by omega⟩ _ ⟨by omega, by omega⟩) dX11_tone_0.1.2.2.2 (Nat.le_of_ble_eq_true rfl) rfl ?_
    rintro r13 z13 ⟨hz13, p13⟩; subst z13
    refine zV_if_eq (tgt := 32) (pc' := 19) dX11_tone_0.2.1.1.1 rfl rfl ⟨by omega, by omega⟩ (fun c16 => ?_) (fun c16 => ?_)
    · refine zW_iconst (pc' := 33) dX11_tone_0.2.2.2.2 rfl ?_
      exact zV_iret rfl dX11_tone_1.1.1.1.1 ⟨hF, trivial⟩
    · refine zW_aload_n (pc' := 20) dX11_tone_0.2.1.1.2 rfl rfl ?_
      refine zG_ref (pc' := 23) 33 fg_X11_19 tb30 rfl dX11_tone_0.2.1.2.1 rfl ?_
      refine zW_iload_n (pc' := 24) dX11_tone_0.2.1.2.2 rfl rfl ?_
      refine zW_iload (pc' := 26) dX11_tone_0.2.2.1.1 rfl rfl ?_
      refine cvI2 (pc' := 29) kX5_has vX5_has lk_X11_140 ⟨Nat.le_of_ble_eq_true rfl, Nat.le_of_ble_eq_true rfl⟩ tb33 vq5 rfl rfl (s_X5_has hK hF _ ⟨by omega, by omega⟩ _ ⟨by omega, by omega⟩) dX11_tone_0.2.2.1.2 (Nat.le_of_ble_eq_true rfl) rfl ?_
      rintro r26 z26 ⟨hz26, p26⟩; subst z26
      refine zV_if_ne (tgt := 34) (pc' := 32) dX11_tone_0.2.2.2.1 rfl rfl ⟨by omega, by omega⟩ (fun c29 => ?_) (fun c29 => ?_)
      · refine zW_aload_n (pc' := 35) dX11_tone_1.1.1.1.2 rfl rfl ?_
        refine zG_ref (pc' := 38) 41 fg_X11_33 tb30 rfl dX11_tone_1.1.1.2.1 rfl ?_
        refine zW_iload_n (pc' := 39) dX11_tone_1.1.1.2.2 rfl rfl ?_
        refine cvI1 (pc' := 42) kX7_letterOf vX7_letterOf lk_X11_180 ⟨Nat.le_of_ble_eq_true rfl, Nat.le_of_ble_eq_true rfl⟩ tb41 vq7 rfl rfl (s_X7_letterOf hK hF _ ⟨by omega, by omega⟩) dX11_tone_1.1.2.1.1 (Nat.le_of_ble_eq_true rfl) rfl ?_
        rintro r39 z39 ⟨hz39, p39⟩; subst z39
        refine zW_bipush (pc' := 44) dX11_tone_1.1.2.1.2 rfl rfl ?_
        refine zV_cm_eq (tgt := 50) (pc' := 47) dX11_tone_1.1.2.2.1 rfl rfl ⟨by omega, by omega⟩ ⟨by omega, by omega⟩ (fun c44 => ?_) (fun c44 => ?_)
        · refine zW_aload_n (pc' := 51) dX11_tone_1.2.1.1.2 rfl rfl ?_
          refine zG_ref (pc' := 54) 54 fg_X11_51 tb30 rfl dX11_tone_1.2.1.2.1 rfl ?_
          refine zG_ref (pc' := 57) 87 fg_X11_254 tb54 rfl dX11_tone_1.2.1.2.2 rfl ?_
          refine zW_aload_n (pc' := 58) dX11_tone_1.2.2.1.1 rfl rfl ?_
          refine zG_ref (pc' := 61) 54 fg_X11_51 tb30 rfl dX11_tone_1.2.2.1.2 rfl ?_
          refine zW_iload_n (pc' := 62) dX11_tone_1.2.2.2.1 rfl rfl ?_
          refine zW_iconst (pc' := 63) dX11_tone_1.2.2.2.2 rfl ?_
          refine zW_isub (pc' := 64) dX11_tone_2.1.1.1.1 rfl ?_
          refine cvA1 (pc' := 67) kX1_sheetOf vX1_sheetOf lk_X11_192 ⟨Nat.le_of_ble_eq_true rfl, Nat.le_of_ble_eq_true rfl⟩ tb54 vq1 rfl rfl (hSh hK hF _ ⟨by omega, by omega⟩) dX11_tone_2.1.1.1.2 (Nat.le_of_ble_eq_true rfl) rfl ?_
          rintro r64 h ⟨hF, p64⟩
          obtain ⟨q64, z64⟩ : ∃ z : Nat, z = r64.toNat := ⟨_, rfl⟩
          rw [← z64]
          refine cvV1 (pc' := 70) kX3_buildFloors vX3_buildFloors lk_X11_279 ⟨Nat.le_of_ble_eq_true rfl, Nat.le_of_ble_eq_true rfl⟩ tb87 vq3 rfl rfl (s_X3_buildFloors hK hF _ ⟨by omega, by omega⟩) dX11_tone_2.1.1.2.1 (Nat.le_of_ble_eq_true rfl) rfl ?_
          rintro r67 h ⟨hF, p67⟩
          refine zW_iload_n (pc' := 71) dX11_tone_2.1.1.2.2 rfl rfl ?_
          refine zW_iconst (pc' := 72) dX11_tone_2.1.2.1.1 rfl ?_
          refine zV_cm_ne (tgt := 116) (pc' := 75) dX11_tone_2.1.2.1.2 rfl rfl ⟨by omega, by omega⟩ ⟨by omega, by omega⟩ (fun c72 => ?_) (fun c72 => ?_)
          · refine zW_aload_n (pc' := 117) dX11_tone_3.2.2.1.1 rfl rfl ?_
            refine zG_ref (pc' := 120) 54 fg_X11_51 tb30 rfl dX11_tone_3.2.2.1.2 rfl ?_
            refine zG_ref (pc' := 123) 87 fg_X11_254 tb54 rfl dX11_tone_3.2.2.2.1 rfl ?_
            refine zW_iload_n (pc' := 124) dX11_tone_3.2.2.2.2 rfl rfl ?_
            refine zW_iload_n (pc' := 125) dX11_tone_4.1.1 rfl rfl ?_
            refine zW_iload (pc' := 127) dX11_tone_4.1.2 rfl rfl ?_
            refine cvI3 (pc' := 130) kX3_floorOf vX3_floorOf lk_X11_286 ⟨Nat.le_of_ble_eq_true rfl, Nat.le_of_ble_eq_true rfl⟩ tb87 vq3 rfl rfl (s_X3_floorOf hK hF _ ⟨by omega, by omega⟩ _ ⟨by omega, by omega, by omega⟩ _ ⟨by omega, by omega, by omega⟩) dX11_tone_4.2.1 (Nat.le_of_ble_eq_true rfl) rfl ?_
            rintro r127 z127 ⟨hz127, p127⟩; subst z127
            exact zV_iret rfl dX11_tone_4.2.2 ⟨hF, trivial⟩
          · refine zW_aload_n (pc' := 76) dX11_tone_2.1.2.2.1 rfl rfl ?_
            refine zG_ref (pc' := 79) 54 fg_X11_51 tb30 rfl dX11_tone_2.1.2.2.2 rfl ?_
            refine zG_ref (pc' := 82) 87 fg_X11_254 tb54 rfl dX11_tone_2.2.1.1.1 rfl ?_
            refine zW_iload_n (pc' := 83) dX11_tone_2.2.1.1.2 rfl rfl ?_
            refine zW_iload (pc' := 85) dX11_tone_2.2.1.2.1 rfl rfl ?_
            refine zW_aload_n (pc' := 86) dX11_tone_2.2.1.2.2 rfl rfl ?_
            refine zG_ref (pc' := 89) 41 fg_X11_33 tb30 rfl dX11_tone_2.2.2.1.1 rfl ?_
            refine zW_iload_n (pc' := 90) dX11_tone_2.2.2.1.2 rfl rfl ?_
            refine zW_iconst (pc' := 91) dX11_tone_2.2.2.2.1 rfl ?_
            refine cvI2 (pc' := 94) kX7_numberOf vX7_numberOf lk_X11_186 ⟨Nat.le_of_ble_eq_true rfl, Nat.le_of_ble_eq_true rfl⟩ tb41 vq7 rfl rfl (s_X7_numberOf hK hF _ ⟨by omega, by omega⟩ _ ⟨by omega, by omega⟩) dX11_tone_2.2.2.2.2 (Nat.le_of_ble_eq_true rfl) rfl ?_
            rintro r91 z91 ⟨hz91, p91⟩; subst z91
            refine zW_aload_n (pc' := 95) dX11_tone_3.1.1.1.1 rfl rfl ?_
            refine zG_ref (pc' := 98) 41 fg_X11_33 tb30 rfl dX11_tone_3.1.1.1.2 rfl ?_
            refine zW_iload_n (pc' := 99) dX11_tone_3.1.1.2.1 rfl rfl ?_
            refine zW_iconst (pc' := 100) dX11_tone_3.1.1.2.2 rfl ?_
            refine cvI2 (pc' := 103) kX7_numberOf vX7_numberOf lk_X11_186 ⟨Nat.le_of_ble_eq_true rfl, Nat.le_of_ble_eq_true rfl⟩ tb41 vq7 rfl rfl (s_X7_numberOf hK hF _ ⟨by omega, by omega⟩ _ ⟨by omega, by omega⟩) dX11_tone_3.1.2.1.1 (Nat.le_of_ble_eq_true rfl) rfl ?_
            rintro r100 z100 ⟨hz100, p100⟩; subst z100
            refine zW_aload_n (pc' := 104) dX11_tone_3.1.2.1.2 rfl rfl ?_
            refine zG_ref (pc' := 107) 41 fg_X11_33 tb30 rfl dX11_tone_3.1.2.2.1 rfl ?_
            refine zW_iload_n (pc' := 108) dX11_tone_3.1.2.2.2 rfl rfl ?_
            refine zW_iconst (pc' := 109) dX11_tone_3.2.1.1.1 rfl ?_
            refine cvI2 (pc' := 112) kX7_numberOf vX7_numberOf lk_X11_186 ⟨Nat.le_of_ble_eq_true rfl, Nat.le_of_ble_eq_true rfl⟩ tb41 vq7 rfl rfl (s_X7_numberOf hK hF _ ⟨by omega, by omega⟩ _ ⟨by omega, by omega⟩) dX11_tone_3.2.1.1.2 (Nat.le_of_ble_eq_true rfl) rfl ?_
            rintro r109 z109 ⟨hz109, p109⟩; subst z109
            refine cvI5 (pc' := 115) kX3_toneOf vX3_toneOf lk_X11_283 ⟨Nat.le_of_ble_eq_true rfl, Nat.le_of_ble_eq_true rfl⟩ tb87 vq3 rfl rfl (s_X3_toneOf hK hF _ ⟨by omega, by omega, by omega⟩ _ ⟨by omega, by omega, by omega⟩ _ _ _) dX11_tone_3.2.1.2.1 (Nat.le_of_ble_eq_true rfl) rfl ?_
            rintro r112 z112 ⟨hz112, p112⟩; subst z112
            exact zV_iret rfl dX11_tone_3.2.1.2.2 ⟨hF, trivial⟩
        · refine zW_bipush (pc' := 49) dX11_tone_1.1.2.2.2 rfl rfl ?_
          exact zV_iret rfl dX11_tone_1.2.1.1.1 ⟨hF, trivial⟩
      · refine zW_iconst (pc' := 33) dX11_tone_0.2.2.2.2 rfl ?_
        exact zV_iret rfl dX11_tone_1.1.1.1.1 ⟨hF, trivial⟩

abbrev q_X11_levels (b : Bd) (κ : Hp) (x1 : Int) (x2 : Int) (x3 : Int) : Int → Hp → Prop := fun r h' => Fr b κ h' ∧ (True)
set_option maxHeartbeats 4000000 in
set_option maxRecDepth 20000 in
theorem s_X11_levels {G : Ga} {b : Bd} {κ h : Hp} (hK : KC κ) (hF : Fr b κ h) (x1 : Int) (hx1 : rng x1) (x2 : Int) (hx2 : rng x2) (x3 : Int) (hx3 : rng x3) (hSh : SheetOK b) : zM G mX11_levels yX11_levels [.inr (.inr 30), .inl x1, .inl x2, .inl x3] h (q_X11_levels b κ x1 x2 x3) := by
  have f_41_0 := KCm hK
  unfold rng at hx1
  unfold rng at hx2
  unfold rng at hx3
  have k43 : ∀ (v4 : Int) (h : Hp), Fr b κ h → (0 ≤ x1 ∧ x1 ≤ 12) → (x1 - κ 41 0 ≤ 0) → (0 ≤ x2 ∧ x2 ≤ 2) → (0 ≤ v4 ∧ v4 ≤ 1) → zV G mX11_levels (q_X11_levels b κ x1 x2 x3) 43 [some (.inr (.inr 30)), some (.inl x1), some (.inl x2), some (.inl x3), some (.inl v4)] [] h := by
    intro v4 h hF g0 g1 g2 g3
    refine zW_aload_n (pc' := 44) dX11_levels_1.1.2.2.2 rfl rfl ?_
    refine zG_ref (pc' := 47) 95 fg_X11_60 tb30 rfl dX11_levels_1.2.1.1.1 rfl ?_
    refine zW_aload_n (pc' := 48) dX11_levels_1.2.1.1.2 rfl rfl ?_
    refine zG_ref (pc' := 51) 54 fg_X11_51 tb30 rfl dX11_levels_1.2.1.2.1 rfl ?_
    refine zW_iload_n (pc' := 52) dX11_levels_1.2.1.2.2 rfl rfl ?_
    refine cvA1 (pc' := 55) kX1_sheetOf vX1_sheetOf lk_X11_192 ⟨Nat.le_of_ble_eq_true rfl, Nat.le_of_ble_eq_true rfl⟩ tb54 vq1 rfl rfl (hSh hK hF _ ⟨by omega, by omega⟩) dX11_levels_1.2.2.1.1 (Nat.le_of_ble_eq_true rfl) rfl ?_
    rintro r52 h ⟨hF, p52⟩
    obtain ⟨q52, z52⟩ : ∃ z : Nat, z = r52.toNat := ⟨_, rfl⟩
    rw [← z52]
    refine zW_iload_n (pc' := 56) dX11_levels_1.2.2.1.2 rfl rfl ?_
    refine cvV2 (pc' := 59) kX4_gather vX4_gather lk_X11_293 ⟨Nat.le_of_ble_eq_true rfl, Nat.le_of_ble_eq_true rfl⟩ tb95 vq4 rfl rfl (s_X4_gather hK hF _ ⟨by omega, by omega⟩ _ ⟨by omega, by omega⟩) dX11_levels_1.2.2.2.1 (Nat.le_of_ble_eq_true rfl) rfl ?_
    rintro r56 h ⟨hF, p56⟩
    refine zW_iload_n (pc' := 60) dX11_levels_1.2.2.2.2 rfl rfl ?_
    refine zW_tsw2 (fun z t => (z = 0 ∧ t = 100) ∨ (z = 1 ∧ t = 108) ∨ (z = 2 ∧ t = 116) ∨ (z = 3 ∧ t = 124) ∨ (z = 4 ∧ t = 132) ∨ (z = 5 ∧ t = 146)) (fun z => if z = 0 then 100 else if z = 1 then 108 else if z = 2 then 116 else if z = 3 then 124 else if z = 4 then 132 else if z = 5 then 146 else 156) dX11_levels_2.1.1.1.1 ⟨by omega, by omega⟩ (tsw_ok (pc := 60) (lo := 0) (offs := #[40, 48, 56, 64, 72, 86]) (tg := fun z => if z = 0 then 100 else if z = 1 then 108 else if z = 2 then 116 else if z = 3 then 124 else if z = 4 then 132 else if z = 5 then 146 else 156) (by decide +kernel)) rfl (by decide +kernel) (td := 156) rfl (fun c60 => ?_) (fun t60 w60 => ?_)
    · refine zW_aload_n (pc' := 157) dX11_levels_3.2.2.1.2 rfl rfl ?_
      refine zG_ref (pc' := 160) 95 fg_X11_60 tb30 rfl dX11_levels_3.2.2.2.1 rfl ?_
      refine zW_iload_n (pc' := 161) dX11_levels_3.2.2.2.2 rfl rfl ?_
      refine zW_bipush (pc' := 163) dX11_levels_4.1.1.1.1 rfl rfl ?_
      refine zW_isub (pc' := 164) dX11_levels_4.1.1.1.2 rfl ?_
      refine zW_sipush (pc' := 167) dX11_levels_4.1.1.2.1 rfl rfl ?_
      refine zW_imul (pc' := 168) dX11_levels_4.1.1.2.2 rfl ?_
      refine zW_iload_n (pc' := 169) dX11_levels_4.1.2.1.1 rfl rfl ?_
      refine zW_bipush (pc' := 171) dX11_levels_4.1.2.1.2 rfl rfl ?_
      refine zW_isub (pc' := 172) dX11_levels_4.1.2.2 rfl ?_
      refine zW_sipush (pc' := 175) dX11_levels_4.2.1.1.1 rfl rfl ?_
      refine zW_imul (pc' := 176) dX11_levels_4.2.1.1.2 rfl ?_
      refine zW_sipush (pc' := 179) dX11_levels_4.2.1.2 rfl rfl ?_
      refine zW_iadd (pc' := 180) dX11_levels_4.2.2.1.1 rfl ?_
      refine cvI2 (pc' := 183) kX4_between vX4_between lk_X11_307 ⟨Nat.le_of_ble_eq_true rfl, Nat.le_of_ble_eq_true rfl⟩ tb95 vq4 rfl rfl (s_X4_between hK hF _ _) dX11_levels_4.2.2.1.2 (Nat.le_of_ble_eq_true rfl) rfl ?_
      rintro r180 z180 ⟨hz180, p180⟩; subst z180
      exact zV_iret rfl dX11_levels_4.2.2.2 ⟨hF, trivial⟩
    · rcases w60 with ⟨s0, rfl⟩ | ⟨s1, rfl⟩ | ⟨s2, rfl⟩ | ⟨s3, rfl⟩ | ⟨s4, rfl⟩ | ⟨s5, rfl⟩
      · refine zW_aload_n (pc' := 101) dX11_levels_2.1.1.1.2 rfl rfl ?_
        refine zG_ref (pc' := 104) 95 fg_X11_60 tb30 rfl dX11_levels_2.1.1.2.1 rfl ?_
        refine cvI0 (pc' := 107) kX4_least vX4_least lk_X11_295 ⟨Nat.le_of_ble_eq_true rfl, Nat.le_of_ble_eq_true rfl⟩ tb95 vq4 rfl rfl (s_X4_least hK hF) dX11_levels_2.1.1.2.2 (Nat.le_of_ble_eq_true rfl) rfl ?_
        rintro r104 z104 ⟨hz104, p104⟩; subst z104
        exact zV_iret rfl dX11_levels_2.1.2.1.1 ⟨hF, trivial⟩
      · refine zW_aload_n (pc' := 109) dX11_levels_2.1.2.1.2 rfl rfl ?_
        refine zG_ref (pc' := 112) 95 fg_X11_60 tb30 rfl dX11_levels_2.1.2.2.1 rfl ?_
        refine cvI0 (pc' := 115) kX4_greatest vX4_greatest lk_X11_298 ⟨Nat.le_of_ble_eq_true rfl, Nat.le_of_ble_eq_true rfl⟩ tb95 vq4 rfl rfl (s_X4_greatest hK hF) dX11_levels_2.1.2.2.2 (Nat.le_of_ble_eq_true rfl) rfl ?_
        rintro r112 z112 ⟨hz112, p112⟩; subst z112
        exact zV_iret rfl dX11_levels_2.2.1.1.1 ⟨hF, trivial⟩
      · refine zW_aload_n (pc' := 117) dX11_levels_2.2.1.1.2 rfl rfl ?_
        refine zG_ref (pc' := 120) 95 fg_X11_60 tb30 rfl dX11_levels_2.2.1.2.1 rfl ?_
        refine cvI0 (pc' := 123) kX4_together vX4_together lk_X11_301 ⟨Nat.le_of_ble_eq_true rfl, Nat.le_of_ble_eq_true rfl⟩ tb95 vq4 rfl rfl (s_X4_together hK hF) dX11_levels_2.2.1.2.2 (Nat.le_of_ble_eq_true rfl) rfl ?_
        rintro r120 z120 ⟨hz120, p120⟩; subst z120
        exact zV_iret rfl dX11_levels_2.2.2.1.1 ⟨hF, trivial⟩
      · refine zW_aload_n (pc' := 125) dX11_levels_2.2.2.1.2 rfl rfl ?_
        refine zG_ref (pc' := 128) 95 fg_X11_60 tb30 rfl dX11_levels_2.2.2.2.1 rfl ?_
        refine cvI0 (pc' := 131) kX4_unlikeOnes vX4_unlikeOnes lk_X11_304 ⟨Nat.le_of_ble_eq_true rfl, Nat.le_of_ble_eq_true rfl⟩ tb95 vq4 rfl rfl (s_X4_unlikeOnes hK hF) dX11_levels_2.2.2.2.2 (Nat.le_of_ble_eq_true rfl) rfl ?_
        rintro r128 h ⟨hF, p128⟩
        exact zV_iret rfl dX11_levels_3.1.1.1.1 ⟨hF, trivial⟩
      · refine zW_aload_n (pc' := 133) dX11_levels_3.1.1.1.2 rfl rfl ?_
        refine zG_ref (pc' := 136) 95 fg_X11_60 tb30 rfl dX11_levels_3.1.1.2.1 rfl ?_
        refine zW_sipush (pc' := 139) dX11_levels_3.1.1.2.2 rfl rfl ?_
        refine zW_sipush (pc' := 142) dX11_levels_3.1.2.1.1 rfl rfl ?_
        refine cvI2 (pc' := 145) kX4_between vX4_between lk_X11_307 ⟨Nat.le_of_ble_eq_true rfl, Nat.le_of_ble_eq_true rfl⟩ tb95 vq4 rfl rfl (s_X4_between hK hF _ _) dX11_levels_3.1.2.1.2 (Nat.le_of_ble_eq_true rfl) rfl ?_
        rintro r142 z142 ⟨hz142, p142⟩; subst z142
        exact zV_iret rfl dX11_levels_3.1.2.2.1 ⟨hF, trivial⟩
      · refine zW_aload_n (pc' := 147) dX11_levels_3.1.2.2.2 rfl rfl ?_
        refine zG_ref (pc' := 150) 95 fg_X11_60 tb30 rfl dX11_levels_3.2.1.1.1 rfl ?_
        refine zW_iconst (pc' := 151) dX11_levels_3.2.1.1.2 rfl ?_
        refine zW_iconst (pc' := 152) dX11_levels_3.2.1.2.1 rfl ?_
        refine cvI2 (pc' := 155) kX4_between vX4_between lk_X11_307 ⟨Nat.le_of_ble_eq_true rfl, Nat.le_of_ble_eq_true rfl⟩ tb95 vq4 rfl rfl (s_X4_between hK hF _ _) dX11_levels_3.2.1.2.2 (Nat.le_of_ble_eq_true rfl) rfl ?_
        rintro r152 z152 ⟨hz152, p152⟩; subst z152
        exact zV_iret rfl dX11_levels_3.2.2.1.1 ⟨hF, trivial⟩
  have k17 : ∀ (u0 : Int) (h : Hp), Fr b κ h → (0 ≤ u0 ∧ u0 ≤ 1) → zV G mX11_levels (q_X11_levels b κ x1 x2 x3) 17 [some (.inr (.inr 30)), some (.inl x1), some (.inl x2), some (.inl x3), none] [.inl u0] h := by
    intro u0 h hF g0
    refine zW_istore (ls' := [_, _, _, _, _]) (pc' := 19) dX11_levels_0.2.1.1.2 (by decide) rfl rfl rfl ?_
    refine zW_aload_n (pc' := 20) dX11_levels_0.2.1.2.1 rfl rfl ?_
    refine zW_iload_n (pc' := 21) dX11_levels_0.2.1.2.2 rfl rfl ?_
    refine zW_iload_n (pc' := 22) dX11_levels_0.2.2.1.1 rfl rfl ?_
    refine cvI2 (pc' := 25) kX11_isLeftOf vX11_isLeftOf lk_X11_290 ⟨Nat.le_of_ble_eq_true rfl, Nat.le_of_ble_eq_true rfl⟩ tb30 vq11 rfl rfl (s_X11_isLeftOf hK hF _ ⟨by omega, by omega⟩ _ ⟨by omega, by omega⟩) dX11_levels_0.2.2.1.2 (Nat.le_of_ble_eq_true rfl) rfl ?_
    rintro r22 z22 ⟨hz22, p22⟩; subst z22
    refine zV_if_eq (tgt := 41) (pc' := 28) dX11_levels_0.2.2.2.1 rfl rfl ⟨by omega, by omega⟩ (fun c25 => ?_) (fun c25 => ?_)
    · refine zW_iconst (pc' := 42) dX11_levels_1.1.2.1.2 rfl ?_
      exact zV_iret rfl dX11_levels_1.1.2.2.1 ⟨hF, trivial⟩
    · refine zW_iload_n (pc' := 29) dX11_levels_0.2.2.2.2 rfl rfl ?_
      refine zW_iconst (pc' := 30) dX11_levels_1.1.1.1.1 rfl ?_
      refine csI2 (pc' := 33) kX11_isWithin vX11_isWithin lk_X11_116 ⟨Nat.le_of_ble_eq_true rfl, Nat.le_of_ble_eq_true rfl⟩ rfl (s_X11_isWithinR hF _ ⟨by omega, by omega⟩ _ ⟨by omega, by omega⟩) dX11_levels_1.1.1.1.2 (Nat.le_of_ble_eq_true rfl) rfl ?_
      rintro r30 z30 ⟨hz30, p30⟩; subst z30
      refine zV_if_ne (tgt := 43) (pc' := 36) dX11_levels_1.1.1.2.1 rfl rfl ⟨by omega, by omega⟩ (fun c33 => ?_) (fun c33 => ?_)
      · exact k43 _ _ hF (by omega) (by omega) (by omega) (by omega)
      · refine zW_iload (pc' := 38) dX11_levels_1.1.1.2.2 rfl rfl ?_
        refine zV_if_ne (tgt := 43) (pc' := 41) dX11_levels_1.1.2.1.1 rfl rfl ⟨by omega, by omega⟩ (fun c38 => ?_) (fun c38 => ?_)
        · exact k43 _ _ hF (by omega) (by omega) (by omega) (by omega)
        · refine zW_iconst (pc' := 42) dX11_levels_1.1.2.1.2 rfl ?_
          exact zV_iret rfl dX11_levels_1.1.2.2.1 ⟨hF, trivial⟩
  refine zM_of [some (.inr (.inr 30)), some (.inl x1), some (.inl x2), some (.inl x3), none] 1 rfl rfl (Nat.le_of_ble_eq_true rfl) rfl ?_
  refine zW_iload_n (pc' := 1) dX11_levels_0.1.1.1.1 rfl rfl ?_
  refine zW_bipush (pc' := 3) dX11_levels_0.1.1.1.2 rfl rfl ?_
  refine zV_cm_lt (tgt := 16) (pc' := 6) dX11_levels_0.1.1.2.1 rfl rfl ⟨by omega, by omega⟩ ⟨by omega, by omega⟩ (fun c3 => ?_) (fun c3 => ?_)
  · refine zW_iconst (pc' := 17) dX11_levels_0.2.1.1.1 rfl ?_
    exact k17 _ _ hF (by omega)
  · refine zW_iload_n (pc' := 7) dX11_levels_0.1.1.2.2 rfl rfl ?_
    refine zW_bipush (pc' := 9) dX11_levels_0.1.2.1.1 rfl rfl ?_
    refine zV_cm_gt (tgt := 16) (pc' := 12) dX11_levels_0.1.2.1.2 rfl rfl ⟨by omega, by omega⟩ ⟨by omega, by omega⟩ (fun c9 => ?_) (fun c9 => ?_)
    · refine zW_iconst (pc' := 17) dX11_levels_0.2.1.1.1 rfl ?_
      exact k17 _ _ hF (by omega)
    · refine zW_iconst (pc' := 13) dX11_levels_0.1.2.2.1 rfl ?_
      refine zV_goto 17 dX11_levels_0.1.2.2.2 rfl ?_
      exact k17 _ _ hF (by omega)

abbrev q_X11_noise (b : Bd) (κ : Hp) (x1 : Int) (x2 : Int) (x3 : Int) (x4 : Int) : Int → Hp → Prop := fun r h' => Fr b κ h' ∧ (True)
set_option maxHeartbeats 4000000 in
set_option maxRecDepth 20000 in
theorem s_X11_noise {G : Ga} {b : Bd} {κ h : Hp} (hK : KC κ) (hF : Fr b κ h) (x1 : Int) (hx1 : rng x1) (x2 : Int) (hx2 : rng x2) (x3 : Int) (hx3 : rng x3) (x4 : Int) (hx4 : rng x4) (hSh : SheetOK b) : zM G mX11_noise yX11_noise [.inr (.inr 30), .inl x1, .inl x2, .inl x3, .inl x4] h (q_X11_noise b κ x1 x2 x3 x4) := by
  have f_41_0 := KCm hK
  unfold rng at hx1
  unfold rng at hx2
  unfold rng at hx3
  unfold rng at hx4
  refine zM_of [some (.inr (.inr 30)), some (.inl x1), some (.inl x2), some (.inl x3), some (.inl x4)] 0 rfl rfl (Nat.le_of_ble_eq_true rfl) rfl ?_
  refine zW_aload_n (pc' := 1) dX11_noise_0.1.1.1.1 rfl rfl ?_
  refine zW_iload_n (pc' := 2) dX11_noise_0.1.1.1.2 rfl rfl ?_
  refine zW_iload_n (pc' := 3) dX11_noise_0.1.1.2.1 rfl rfl ?_
  refine cvI2 (pc' := 6) kX11_isLeftOf vX11_isLeftOf lk_X11_290 ⟨Nat.le_of_ble_eq_true rfl, Nat.le_of_ble_eq_true rfl⟩ tb30 vq11 rfl rfl (s_X11_isLeftOf hK hF _ ⟨by omega, by omega⟩ _ ⟨by omega, by omega⟩) dX11_noise_0.1.1.2.2 (Nat.le_of_ble_eq_true rfl) rfl ?_
  rintro r3 z3 ⟨hz3, p3⟩; subst z3
  refine zV_if_eq (tgt := 26) (pc' := 9) dX11_noise_0.1.2.1.1 rfl rfl ⟨by omega, by omega⟩ (fun c6 => ?_) (fun c6 => ?_)
  · refine zW_iconst (pc' := 27) dX11_noise_0.2.2.1.2 rfl ?_
    exact zV_iret rfl dX11_noise_0.2.2.2.1 ⟨hF, trivial⟩
  · refine zW_iload_n (pc' := 10) dX11_noise_0.1.2.1.2 rfl rfl ?_
    refine zW_iconst (pc' := 11) dX11_noise_0.1.2.2.1 rfl ?_
    refine csI2 (pc' := 14) kX11_isWithin vX11_isWithin lk_X11_116 ⟨Nat.le_of_ble_eq_true rfl, Nat.le_of_ble_eq_true rfl⟩ rfl (s_X11_isWithinR hF _ ⟨by omega, by omega⟩ _ ⟨by omega, by omega⟩) dX11_noise_0.1.2.2.2 (Nat.le_of_ble_eq_true rfl) rfl ?_
    rintro r11 z11 ⟨hz11, p11⟩; subst z11
    refine zV_if_eq (tgt := 26) (pc' := 17) dX11_noise_0.2.1.1.1 rfl rfl ⟨by omega, by omega⟩ (fun c14 => ?_) (fun c14 => ?_)
    · refine zW_iconst (pc' := 27) dX11_noise_0.2.2.1.2 rfl ?_
      exact zV_iret rfl dX11_noise_0.2.2.2.1 ⟨hF, trivial⟩
    · refine zW_iload (pc' := 19) dX11_noise_0.2.1.1.2 rfl rfl ?_
      refine zW_iconst (pc' := 20) dX11_noise_0.2.1.2.1 rfl ?_
      refine csI2 (pc' := 23) kX11_isWithin vX11_isWithin lk_X11_116 ⟨Nat.le_of_ble_eq_true rfl, Nat.le_of_ble_eq_true rfl⟩ rfl (s_X11_isWithinR hF _ ⟨by omega, by omega⟩ _ ⟨by omega, by omega⟩) dX11_noise_0.2.1.2.2 (Nat.le_of_ble_eq_true rfl) rfl ?_
      rintro r20 z20 ⟨hz20, p20⟩; subst z20
      refine zV_if_ne (tgt := 28) (pc' := 26) dX11_noise_0.2.2.1.1 rfl rfl ⟨by omega, by omega⟩ (fun c23 => ?_) (fun c23 => ?_)
      · refine zW_aload_n (pc' := 29) dX11_noise_0.2.2.2.2 rfl rfl ?_
        refine zG_ref (pc' := 32) 41 fg_X11_33 tb30 rfl dX11_noise_1.1.1.1.1 rfl ?_
        refine zW_iload_n (pc' := 33) dX11_noise_1.1.1.1.2 rfl rfl ?_
        refine cvI1 (pc' := 36) kX7_isBehindF vX7_isBehindF lk_X11_310 ⟨Nat.le_of_ble_eq_true rfl, Nat.le_of_ble_eq_true rfl⟩ tb41 vq7 rfl rfl (s_X7_isBehindF hK hF _ ⟨by omega, by omega⟩) dX11_noise_1.1.1.2.1 (Nat.le_of_ble_eq_true rfl) rfl ?_
        rintro r33 z33 ⟨hz33, p33⟩; subst z33
        refine zV_if_ne (tgt := 42) (pc' := 39) dX11_noise_1.1.1.2.2 rfl rfl ⟨by omega, by omega⟩ (fun c36 => ?_) (fun c36 => ?_)
        · refine zW_aload_n (pc' := 43) dX11_noise_1.1.2.2.1 rfl rfl ?_
          refine zG_ref (pc' := 46) 95 fg_X11_60 tb30 rfl dX11_noise_1.1.2.2.2 rfl ?_
          refine zW_aload_n (pc' := 47) dX11_noise_1.2.1.1.1 rfl rfl ?_
          refine zG_ref (pc' := 50) 54 fg_X11_51 tb30 rfl dX11_noise_1.2.1.1.2 rfl ?_
          refine zW_iload_n (pc' := 51) dX11_noise_1.2.1.2.1 rfl rfl ?_
          refine cvA1 (pc' := 54) kX1_sheetOf vX1_sheetOf lk_X11_192 ⟨Nat.le_of_ble_eq_true rfl, Nat.le_of_ble_eq_true rfl⟩ tb54 vq1 rfl rfl (hSh hK hF _ ⟨by omega, by omega⟩) dX11_noise_1.2.1.2.2 (Nat.le_of_ble_eq_true rfl) rfl ?_
          rintro r51 h ⟨hF, p51⟩
          obtain ⟨q51, z51⟩ : ∃ z : Nat, z = r51.toNat := ⟨_, rfl⟩
          rw [← z51]
          refine zW_iload_n (pc' := 55) dX11_noise_1.2.2.1.1 rfl rfl ?_
          refine zW_iload_n (pc' := 56) dX11_noise_1.2.2.1.2 rfl rfl ?_
          refine cvV3 (pc' := 59) kX4_findNoise vX4_findNoise lk_X11_313 ⟨Nat.le_of_ble_eq_true rfl, Nat.le_of_ble_eq_true rfl⟩ tb95 vq4 rfl rfl (s_X4_findNoise hK hF _ ⟨by omega, by omega⟩ _ ⟨by omega, by omega⟩ _) dX11_noise_1.2.2.2.1 (Nat.le_of_ble_eq_true rfl) rfl ?_
          rintro r56 h ⟨hF, p56⟩
          refine zW_iload (pc' := 61) dX11_noise_1.2.2.2.2 rfl rfl ?_
          refine zW_iconst (pc' := 62) dX11_noise_2.1.1.1.1 rfl ?_
          refine zV_cm_ne (tgt := 73) (pc' := 65) dX11_noise_2.1.1.1.2 rfl rfl ⟨by omega, by omega⟩ ⟨by omega, by omega⟩ (fun c62 => ?_) (fun c62 => ?_)
          · refine zW_iload (pc' := 75) dX11_noise_2.1.2.2.1 rfl rfl ?_
            refine zV_if_ne (tgt := 88) (pc' := 78) dX11_noise_2.1.2.2.2 rfl rfl ⟨by omega, by omega⟩ (fun c75 => ?_) (fun c75 => ?_)
            · refine zW_aload_n (pc' := 89) dX11_noise_2.2.2.1.1 rfl rfl ?_
              refine zG_ref (pc' := 92) 95 fg_X11_60 tb30 rfl dX11_noise_2.2.2.1.2 rfl ?_
              refine zG_int (pc' := 95) fg_X11_323 tb95 rfl dX11_noise_2.2.2.2.1 rfl ?_
              exact zV_iret rfl dX11_noise_2.2.2.2.2 ⟨hF, trivial⟩
            · refine zW_aload_n (pc' := 79) dX11_noise_2.2.1.1.1 rfl rfl ?_
              refine zG_ref (pc' := 82) 95 fg_X11_60 tb30 rfl dX11_noise_2.2.1.1.2 rfl ?_
              refine zG_int (pc' := 85) fg_X11_320 tb95 rfl dX11_noise_2.2.1.2.1 rfl ?_
              refine zV_goto 95 dX11_noise_2.2.1.2.2 rfl ?_
              exact zV_iret rfl dX11_noise_2.2.2.2.2 ⟨hF, trivial⟩
          · refine zW_aload_n (pc' := 66) dX11_noise_2.1.1.2.1 rfl rfl ?_
            refine zG_ref (pc' := 69) 95 fg_X11_60 tb30 rfl dX11_noise_2.1.1.2.2 rfl ?_
            refine zG_int (pc' := 72) fg_X11_317 tb95 rfl dX11_noise_2.1.2.1.1 rfl ?_
            exact zV_iret rfl dX11_noise_2.1.2.1.2 ⟨hF, trivial⟩
        · refine zW_bipush (pc' := 41) dX11_noise_1.1.2.1.1 rfl rfl ?_
          exact zV_iret rfl dX11_noise_1.1.2.1.2 ⟨hF, trivial⟩
      · refine zW_iconst (pc' := 27) dX11_noise_0.2.2.1.2 rfl ?_
        exact zV_iret rfl dX11_noise_0.2.2.2.1 ⟨hF, trivial⟩

abbrev q_X11_percent (b : Bd) (κ : Hp) (x1 : Int) (x2 : Int) (x3 : Int) : Int → Hp → Prop := fun r h' => Fr b κ h' ∧ (True)
set_option maxHeartbeats 4000000 in
set_option maxRecDepth 20000 in
theorem s_X11_percent {G : Ga} {b : Bd} {κ h : Hp} (hK : KC κ) (hF : Fr b κ h) (x1 : Int) (hx1 : rng x1) (x2 : Int) (hx2 : rng x2) (x3 : Int) (hx3 : rng x3) (hSh : SheetOK b) : zM G mX11_percent yX11_percent [.inr (.inr 30), .inl x1, .inl x2, .inl x3] h (q_X11_percent b κ x1 x2 x3) := by
  have f_41_0 := KCm hK
  unfold rng at hx1
  unfold rng at hx2
  unfold rng at hx3
  refine zM_of [some (.inr (.inr 30)), some (.inl x1), some (.inl x2), some (.inl x3)] 0 rfl rfl (Nat.le_of_ble_eq_true rfl) rfl ?_
  refine zW_aload_n (pc' := 1) dX11_percent_0.1.1.1.1 rfl rfl ?_
  refine zW_iload_n (pc' := 2) dX11_percent_0.1.1.1.2 rfl rfl ?_
  refine zW_iload_n (pc' := 3) dX11_percent_0.1.1.2.1 rfl rfl ?_
  refine cvI2 (pc' := 6) kX11_isLeftOf vX11_isLeftOf lk_X11_290 ⟨Nat.le_of_ble_eq_true rfl, Nat.le_of_ble_eq_true rfl⟩ tb30 vq11 rfl rfl (s_X11_isLeftOf hK hF _ ⟨by omega, by omega⟩ _ ⟨by omega, by omega⟩) dX11_percent_0.1.1.2.2 (Nat.le_of_ble_eq_true rfl) rfl ?_
  rintro r3 z3 ⟨hz3, p3⟩; subst z3
  refine zV_if_eq (tgt := 20) (pc' := 9) dX11_percent_0.1.2.1.1 rfl rfl ⟨by omega, by omega⟩ (fun c6 => ?_) (fun c6 => ?_)
  · refine zW_iconst (pc' := 21) dX11_percent_0.2.1.2.2 rfl ?_
    exact zV_iret rfl dX11_percent_0.2.2.1.1 ⟨hF, trivial⟩
  · refine zW_iload_n (pc' := 10) dX11_percent_0.1.2.1.2 rfl rfl ?_
    refine zW_iconst (pc' := 11) dX11_percent_0.1.2.2.1 rfl ?_
    refine zV_cm_lt (tgt := 20) (pc' := 14) dX11_percent_0.1.2.2.2 rfl rfl ⟨by omega, by omega⟩ ⟨by omega, by omega⟩ (fun c11 => ?_) (fun c11 => ?_)
    · refine zW_iconst (pc' := 21) dX11_percent_0.2.1.2.2 rfl ?_
      exact zV_iret rfl dX11_percent_0.2.2.1.1 ⟨hF, trivial⟩
    · refine zW_iload_n (pc' := 15) dX11_percent_0.2.1.1.1 rfl rfl ?_
      refine zW_bipush (pc' := 17) dX11_percent_0.2.1.1.2 rfl rfl ?_
      refine zV_cm_le (tgt := 22) (pc' := 20) dX11_percent_0.2.1.2.1 rfl rfl ⟨by omega, by omega⟩ ⟨by omega, by omega⟩ (fun c17 => ?_) (fun c17 => ?_)
      · refine zW_aload_n (pc' := 23) dX11_percent_0.2.2.1.2 rfl rfl ?_
        refine zG_ref (pc' := 26) 95 fg_X11_60 tb30 rfl dX11_percent_0.2.2.2.1 rfl ?_
        refine zW_aload_n (pc' := 27) dX11_percent_0.2.2.2.2 rfl rfl ?_
        refine zG_ref (pc' := 30) 54 fg_X11_51 tb30 rfl dX11_percent_1.1.1.1.1 rfl ?_
        refine zW_iload_n (pc' := 31) dX11_percent_1.1.1.1.2 rfl rfl ?_
        refine cvA1 (pc' := 34) kX1_sheetOf vX1_sheetOf lk_X11_192 ⟨Nat.le_of_ble_eq_true rfl, Nat.le_of_ble_eq_true rfl⟩ tb54 vq1 rfl rfl (hSh hK hF _ ⟨by omega, by omega⟩) dX11_percent_1.1.1.2 (Nat.le_of_ble_eq_true rfl) rfl ?_
        rintro r31 h ⟨hF, p31⟩
        obtain ⟨q31, z31⟩ : ∃ z : Nat, z = r31.toNat := ⟨_, rfl⟩
        rw [← z31]
        refine zW_iload_n (pc' := 35) dX11_percent_1.1.2.1 rfl rfl ?_
        refine cvV2 (pc' := 38) kX4_gather vX4_gather lk_X11_293 ⟨Nat.le_of_ble_eq_true rfl, Nat.le_of_ble_eq_true rfl⟩ tb95 vq4 rfl rfl (s_X4_gather hK hF _ ⟨by omega, by omega⟩ _ ⟨by omega, by omega⟩) dX11_percent_1.1.2.2 (Nat.le_of_ble_eq_true rfl) rfl ?_
        rintro r35 h ⟨hF, p35⟩
        refine zW_aload_n (pc' := 39) dX11_percent_1.2.1.1.1 rfl rfl ?_
        refine zG_ref (pc' := 42) 95 fg_X11_60 tb30 rfl dX11_percent_1.2.1.1.2 rfl ?_
        refine zW_iload_n (pc' := 43) dX11_percent_1.2.1.2 rfl rfl ?_
        refine cvI1 (pc' := 46) kX4_percentile vX4_percentile lk_X11_326 ⟨Nat.le_of_ble_eq_true rfl, Nat.le_of_ble_eq_true rfl⟩ tb95 vq4 rfl rfl (s_X4_percentile hK hF _) dX11_percent_1.2.2.1 (Nat.le_of_ble_eq_true rfl) rfl ?_
        rintro r43 z43 ⟨hz43, p43⟩; subst z43
        exact zV_iret rfl dX11_percent_1.2.2.2 ⟨hF, trivial⟩
      · refine zW_iconst (pc' := 21) dX11_percent_0.2.1.2.2 rfl ?_
        exact zV_iret rfl dX11_percent_0.2.2.1.1 ⟨hF, trivial⟩

abbrev q_X11_bits (b : Bd) (κ : Hp) (x1 : Int) (x2 : Int) : Int → Hp → Prop := fun r h' => Fr b κ h' ∧ (True)
set_option maxHeartbeats 4000000 in
set_option maxRecDepth 20000 in
theorem s_X11_bits {G : Ga} {b : Bd} {κ h : Hp} (hK : KC κ) (hF : Fr b κ h) (x1 : Int) (hx1 : rng x1) (x2 : Int) (hx2 : rng x2) (hSh : SheetOK b) : zM G mX11_bits yX11_bits [.inr (.inr 30), .inl x1, .inl x2] h (q_X11_bits b κ x1 x2) := by
  have f_41_0 := KCm hK
  unfold rng at hx1
  unfold rng at hx2
  refine zM_of [some (.inr (.inr 30)), some (.inl x1), some (.inl x2)] 0 rfl rfl (Nat.le_of_ble_eq_true rfl) rfl ?_
  refine zW_aload_n (pc' := 1) dX11_bits_0.1.1.1.1 rfl rfl ?_
  refine zW_iload_n (pc' := 2) dX11_bits_0.1.1.1.2 rfl rfl ?_
  refine zW_iload_n (pc' := 3) dX11_bits_0.1.1.2.1 rfl rfl ?_
  refine cvI2 (pc' := 6) kX11_isLeftOf vX11_isLeftOf lk_X11_290 ⟨Nat.le_of_ble_eq_true rfl, Nat.le_of_ble_eq_true rfl⟩ tb30 vq11 rfl rfl (s_X11_isLeftOf hK hF _ ⟨by omega, by omega⟩ _ ⟨by omega, by omega⟩) dX11_bits_0.1.1.2.2 (Nat.le_of_ble_eq_true rfl) rfl ?_
  rintro r3 z3 ⟨hz3, p3⟩; subst z3
  refine zV_if_ne (tgt := 11) (pc' := 9) dX11_bits_0.1.2.1.1 rfl rfl ⟨by omega, by omega⟩ (fun c6 => ?_) (fun c6 => ?_)
  · refine zW_aload_n (pc' := 12) dX11_bits_0.1.2.2.2 rfl rfl ?_
    refine zG_ref (pc' := 15) 95 fg_X11_60 tb30 rfl dX11_bits_0.2.1.1.1 rfl ?_
    refine zW_aload_n (pc' := 16) dX11_bits_0.2.1.1.2 rfl rfl ?_
    refine zG_ref (pc' := 19) 54 fg_X11_51 tb30 rfl dX11_bits_0.2.1.2.1 rfl ?_
    refine zW_iload_n (pc' := 20) dX11_bits_0.2.1.2.2 rfl rfl ?_
    refine cvA1 (pc' := 23) kX1_sheetOf vX1_sheetOf lk_X11_192 ⟨Nat.le_of_ble_eq_true rfl, Nat.le_of_ble_eq_true rfl⟩ tb54 vq1 rfl rfl (hSh hK hF _ ⟨by omega, by omega⟩) dX11_bits_0.2.2.1.1 (Nat.le_of_ble_eq_true rfl) rfl ?_
    rintro r20 h ⟨hF, p20⟩
    obtain ⟨q20, z20⟩ : ∃ z : Nat, z = r20.toNat := ⟨_, rfl⟩
    rw [← z20]
    refine zW_iload_n (pc' := 24) dX11_bits_0.2.2.1.2 rfl rfl ?_
    refine cvV2 (pc' := 27) kX4_gather vX4_gather lk_X11_293 ⟨Nat.le_of_ble_eq_true rfl, Nat.le_of_ble_eq_true rfl⟩ tb95 vq4 rfl rfl (s_X4_gather hK hF _ ⟨by omega, by omega⟩ _ ⟨by omega, by omega⟩) dX11_bits_0.2.2.2.1 (Nat.le_of_ble_eq_true rfl) rfl ?_
    rintro r24 h ⟨hF, p24⟩
    refine zW_aload_n (pc' := 28) dX11_bits_0.2.2.2.2 rfl rfl ?_
    refine zG_ref (pc' := 31) 95 fg_X11_60 tb30 rfl dX11_bits_1.1.1 rfl ?_
    refine cvI0 (pc' := 34) kX4_bitsOfAll vX4_bitsOfAll lk_X11_329 ⟨Nat.le_of_ble_eq_true rfl, Nat.le_of_ble_eq_true rfl⟩ tb95 vq4 rfl rfl (s_X4_bitsOfAll hK hF) dX11_bits_1.1.2 (Nat.le_of_ble_eq_true rfl) rfl ?_
    rintro r31 z31 ⟨hz31, p31⟩; subst z31
    exact zV_iret rfl dX11_bits_1.2 ⟨hF, trivial⟩
  · refine zW_iconst (pc' := 10) dX11_bits_0.1.2.1.2 rfl ?_
    exact zV_iret rfl dX11_bits_0.1.2.2.1 ⟨hF, trivial⟩

abbrev q_X11_ring (b : Bd) (κ : Hp) (x1 : Int) (x2 : Int) (x3 : Int) (x4 : Int) : Int → Hp → Prop := fun r h' => Fr b κ h' ∧ (True)
set_option maxHeartbeats 4000000 in
set_option maxRecDepth 20000 in
theorem s_X11_ring {G : Ga} {b : Bd} {κ h : Hp} (hK : KC κ) (hF : Fr b κ h) (x1 : Int) (hx1 : rng x1) (x2 : Int) (hx2 : rng x2) (x3 : Int) (hx3 : rng x3) (x4 : Int) (hx4 : rng x4) (hSh : SheetOK b) : zM G mX11_ring yX11_ring [.inr (.inr 30), .inl x1, .inl x2, .inl x3, .inl x4] h (q_X11_ring b κ x1 x2 x3 x4) := by
  have f_41_0 := KCm hK
  unfold rng at hx1
  unfold rng at hx2
  unfold rng at hx3
  unfold rng at hx4
  refine zM_of [some (.inr (.inr 30)), some (.inl x1), some (.inl x2), some (.inl x3), some (.inl x4)] 0 rfl rfl (Nat.le_of_ble_eq_true rfl) rfl ?_
  refine zW_aload_n (pc' := 1) dX11_ring_0.1.1.1.1 rfl rfl ?_
  refine zW_iload_n (pc' := 2) dX11_ring_0.1.1.1.2 rfl rfl ?_
  refine zW_iload_n (pc' := 3) dX11_ring_0.1.1.2.1 rfl rfl ?_
  refine cvI2 (pc' := 6) kX11_isLeftOf vX11_isLeftOf lk_X11_290 ⟨Nat.le_of_ble_eq_true rfl, Nat.le_of_ble_eq_true rfl⟩ tb30 vq11 rfl rfl (s_X11_isLeftOf hK hF _ ⟨by omega, by omega⟩ _ ⟨by omega, by omega⟩) dX11_ring_0.1.1.2.2 (Nat.le_of_ble_eq_true rfl) rfl ?_
  rintro r3 z3 ⟨hz3, p3⟩; subst z3
  refine zV_if_eq (tgt := 26) (pc' := 9) dX11_ring_0.1.2.1.1 rfl rfl ⟨by omega, by omega⟩ (fun c6 => ?_) (fun c6 => ?_)
  · refine zW_iconst (pc' := 27) dX11_ring_0.2.2.1.2 rfl ?_
    exact zV_iret rfl dX11_ring_0.2.2.2.1 ⟨hF, trivial⟩
  · refine zW_iload_n (pc' := 10) dX11_ring_0.1.2.1.2 rfl rfl ?_
    refine zW_iconst (pc' := 11) dX11_ring_0.1.2.2.1 rfl ?_
    refine csI2 (pc' := 14) kX11_isWithin vX11_isWithin lk_X11_116 ⟨Nat.le_of_ble_eq_true rfl, Nat.le_of_ble_eq_true rfl⟩ rfl (s_X11_isWithinR hF _ ⟨by omega, by omega⟩ _ ⟨by omega, by omega⟩) dX11_ring_0.1.2.2.2 (Nat.le_of_ble_eq_true rfl) rfl ?_
    rintro r11 z11 ⟨hz11, p11⟩; subst z11
    refine zV_if_eq (tgt := 26) (pc' := 17) dX11_ring_0.2.1.1.1 rfl rfl ⟨by omega, by omega⟩ (fun c14 => ?_) (fun c14 => ?_)
    · refine zW_iconst (pc' := 27) dX11_ring_0.2.2.1.2 rfl ?_
      exact zV_iret rfl dX11_ring_0.2.2.2.1 ⟨hF, trivial⟩
    · refine zW_iload (pc' := 19) dX11_ring_0.2.1.1.2 rfl rfl ?_
      refine zW_iconst (pc' := 20) dX11_ring_0.2.1.2.1 rfl ?_
      refine csI2 (pc' := 23) kX11_isWithin vX11_isWithin lk_X11_116 ⟨Nat.le_of_ble_eq_true rfl, Nat.le_of_ble_eq_true rfl⟩ rfl (s_X11_isWithinR hF _ ⟨by omega, by omega⟩ _ ⟨by omega, by omega⟩) dX11_ring_0.2.1.2.2 (Nat.le_of_ble_eq_true rfl) rfl ?_
      rintro r20 z20 ⟨hz20, p20⟩; subst z20
      refine zV_if_ne (tgt := 28) (pc' := 26) dX11_ring_0.2.2.1.1 rfl rfl ⟨by omega, by omega⟩ (fun c23 => ?_) (fun c23 => ?_)
      · refine zW_aload_n (pc' := 29) dX11_ring_0.2.2.2.2 rfl rfl ?_
        refine zG_ref (pc' := 32) 95 fg_X11_60 tb30 rfl dX11_ring_1.1.1.1.1 rfl ?_
        refine zW_aload_n (pc' := 33) dX11_ring_1.1.1.1.2 rfl rfl ?_
        refine zG_ref (pc' := 36) 54 fg_X11_51 tb30 rfl dX11_ring_1.1.1.2.1 rfl ?_
        refine zW_iload_n (pc' := 37) dX11_ring_1.1.1.2.2 rfl rfl ?_
        refine cvA1 (pc' := 40) kX1_sheetOf vX1_sheetOf lk_X11_192 ⟨Nat.le_of_ble_eq_true rfl, Nat.le_of_ble_eq_true rfl⟩ tb54 vq1 rfl rfl (hSh hK hF _ ⟨by omega, by omega⟩) dX11_ring_1.1.2.1.1 (Nat.le_of_ble_eq_true rfl) rfl ?_
        rintro r37 h ⟨hF, p37⟩
        obtain ⟨q37, z37⟩ : ∃ z : Nat, z = r37.toNat := ⟨_, rfl⟩
        rw [← z37]
        refine zW_iload_n (pc' := 41) dX11_ring_1.1.2.1.2 rfl rfl ?_
        refine zW_iload_n (pc' := 42) dX11_ring_1.1.2.2.1 rfl rfl ?_
        refine cvV3 (pc' := 45) kX4_gatherRing vX4_gatherRing lk_X11_332 ⟨Nat.le_of_ble_eq_true rfl, Nat.le_of_ble_eq_true rfl⟩ tb95 vq4 rfl rfl (s_X4_gatherRing hK hF _ ⟨by omega, by omega⟩ _ ⟨by omega, by omega⟩ _ ⟨by omega, by omega⟩) dX11_ring_1.1.2.2.2 (Nat.le_of_ble_eq_true rfl) rfl ?_
        rintro r42 h ⟨hF, p42⟩
        refine zW_iload (pc' := 47) dX11_ring_1.2.1.1.1 rfl rfl ?_
        refine zV_if_ne (tgt := 58) (pc' := 50) dX11_ring_1.2.1.1.2 rfl rfl ⟨by omega, by omega⟩ (fun c47 => ?_) (fun c47 => ?_)
        · refine zW_aload_n (pc' := 59) dX11_ring_1.2.2.2.1 rfl rfl ?_
          refine zG_ref (pc' := 62) 95 fg_X11_60 tb30 rfl dX11_ring_1.2.2.2.2 rfl ?_
          refine zG_int (pc' := 65) fg_X11_335 tb95 rfl dX11_ring_2.1.1.1.1 rfl ?_
          have e62 := hF.2.2.2.2.1
          refine zV_if_ne (tgt := 73) (pc' := 68) dX11_ring_2.1.1.1.2 rfl rfl ⟨by omega, by omega⟩ (fun c65 => ?_) (fun c65 => ?_)
          · refine zW_aload_n (pc' := 74) dX11_ring_2.1.2.1.2 rfl rfl ?_
            refine zG_ref (pc' := 77) 95 fg_X11_60 tb30 rfl dX11_ring_2.1.2.2 rfl ?_
            refine cvI0 (pc' := 80) kX4_together vX4_together lk_X11_301 ⟨Nat.le_of_ble_eq_true rfl, Nat.le_of_ble_eq_true rfl⟩ tb95 vq4 rfl rfl (s_X4_together hK hF) dX11_ring_2.2.1.1.1 (Nat.le_of_ble_eq_true rfl) rfl ?_
            rintro r77 z77 ⟨hz77, p77⟩; subst z77
            refine zW_aload_n (pc' := 81) dX11_ring_2.2.1.1.2 rfl rfl ?_
            refine zG_ref (pc' := 84) 95 fg_X11_60 tb30 rfl dX11_ring_2.2.1.2 rfl ?_
            refine zG_int (pc' := 87) fg_X11_335 tb95 rfl dX11_ring_2.2.2.1.1 rfl ?_
            have e84 := hF.2.2.2.2.1
            refine zW_idivQ (pc' := 88) ⟨by omega, by omega⟩ (by omega) dX11_ring_2.2.2.1.2 rfl (fun v87 e87 => ?_)
            unfold rng at e87
            exact zV_iret rfl dX11_ring_2.2.2.2 ⟨hF, trivial⟩
          · refine zW_bipush (pc' := 70) dX11_ring_2.1.1.2 rfl rfl ?_
            refine zV_goto 88 dX11_ring_2.1.2.1.1 rfl ?_
            exact zV_iret rfl dX11_ring_2.2.2.2 ⟨hF, trivial⟩
        · refine zW_aload_n (pc' := 51) dX11_ring_1.2.1.2.1 rfl rfl ?_
          refine zG_ref (pc' := 54) 95 fg_X11_60 tb30 rfl dX11_ring_1.2.1.2.2 rfl ?_
          refine zG_int (pc' := 57) fg_X11_335 tb95 rfl dX11_ring_1.2.2.1.1 rfl ?_
          have e54 := hF.2.2.2.2.1
          exact zV_iret rfl dX11_ring_1.2.2.1.2 ⟨hF, trivial⟩
      · refine zW_iconst (pc' := 27) dX11_ring_0.2.2.1.2 rfl ?_
        exact zV_iret rfl dX11_ring_0.2.2.2.1 ⟨hF, trivial⟩

abbrev q_X11_edges (b : Bd) (κ : Hp) (x1 : Int) (x2 : Int) : Int → Hp → Prop := fun r h' => Fr b κ h' ∧ (True)
set_option maxHeartbeats 4000000 in
set_option maxRecDepth 20000 in
theorem s_X11_edges {G : Ga} {b : Bd} {κ h : Hp} (hK : KC κ) (hF : Fr b κ h) (x1 : Int) (hx1 : rng x1) (x2 : Int) (hx2 : rng x2) (hSh : SheetOK b) : zM G mX11_edges yX11_edges [.inr (.inr 30), .inl x1, .inl x2] h (q_X11_edges b κ x1 x2) := by
  have f_41_0 := KCm hK
  unfold rng at hx1
  unfold rng at hx2
  refine zM_of [some (.inr (.inr 30)), some (.inl x1), some (.inl x2)] 0 rfl rfl (Nat.le_of_ble_eq_true rfl) rfl ?_
  refine zW_aload_n (pc' := 1) dX11_edges_0.1.1.1.1 rfl rfl ?_
  refine zG_ref (pc' := 4) 41 fg_X11_33 tb30 rfl dX11_edges_0.1.1.1.2 rfl ?_
  refine zW_iload_n (pc' := 5) dX11_edges_0.1.1.2.1 rfl rfl ?_
  refine cvI1 (pc' := 8) kX7_leaves vX7_leaves lk_X11_189 ⟨Nat.le_of_ble_eq_true rfl, Nat.le_of_ble_eq_true rfl⟩ tb41 vq7 rfl rfl (s_X7_leaves hK hF _ ⟨by omega, by omega⟩) dX11_edges_0.1.1.2.2 (Nat.le_of_ble_eq_true rfl) rfl ?_
  rintro r5 z5 ⟨hz5, p5⟩; subst z5
  refine zV_if_eq (tgt := 21) (pc' := 11) dX11_edges_0.1.2.1.1 rfl rfl ⟨by omega, by omega⟩ (fun c8 => ?_) (fun c8 => ?_)
  · refine zW_iconst (pc' := 22) dX11_edges_0.2.1.1.2 rfl ?_
    exact zV_iret rfl dX11_edges_0.2.1.2.1 ⟨hF, trivial⟩
  · refine zW_iload_n (pc' := 12) dX11_edges_0.1.2.1.2 rfl rfl ?_
    refine zW_sipush (pc' := 15) dX11_edges_0.1.2.2.1 rfl rfl ?_
    refine csI2 (pc' := 18) kX11_isWithin vX11_isWithin lk_X11_116 ⟨Nat.le_of_ble_eq_true rfl, Nat.le_of_ble_eq_true rfl⟩ rfl (s_X11_isWithinR hF _ ⟨by omega, by omega⟩ _ ⟨by omega, by omega⟩) dX11_edges_0.1.2.2.2 (Nat.le_of_ble_eq_true rfl) rfl ?_
    rintro r15 z15 ⟨hz15, p15⟩; subst z15
    refine zV_if_ne (tgt := 23) (pc' := 21) dX11_edges_0.2.1.1.1 rfl rfl ⟨by omega, by omega⟩ (fun c18 => ?_) (fun c18 => ?_)
    · refine zW_aload_n (pc' := 24) dX11_edges_0.2.1.2.2 rfl rfl ?_
      refine zG_ref (pc' := 27) 41 fg_X11_33 tb30 rfl dX11_edges_0.2.2.1.1 rfl ?_
      refine zW_iload_n (pc' := 28) dX11_edges_0.2.2.1.2 rfl rfl ?_
      refine cvI1 (pc' := 31) kX7_isBehindF vX7_isBehindF lk_X11_310 ⟨Nat.le_of_ble_eq_true rfl, Nat.le_of_ble_eq_true rfl⟩ tb41 vq7 rfl rfl (s_X7_isBehindF hK hF _ ⟨by omega, by omega⟩) dX11_edges_0.2.2.2.1 (Nat.le_of_ble_eq_true rfl) rfl ?_
      rintro r28 z28 ⟨hz28, p28⟩; subst z28
      refine zV_if_eq (tgt := 53) (pc' := 34) dX11_edges_0.2.2.2.2 rfl rfl ⟨by omega, by omega⟩ (fun c31 => ?_) (fun c31 => ?_)
      · refine zW_bipush (pc' := 55) dX11_edges_1.2.2.1 rfl rfl ?_
        exact zV_iret rfl dX11_edges_1.2.2.2 ⟨hF, trivial⟩
      · refine zW_aload_n (pc' := 35) dX11_edges_1.1.1.1.1 rfl rfl ?_
        refine zG_ref (pc' := 38) 95 fg_X11_60 tb30 rfl dX11_edges_1.1.1.1.2 rfl ?_
        refine zW_aload_n (pc' := 39) dX11_edges_1.1.1.2 rfl rfl ?_
        refine zG_ref (pc' := 42) 54 fg_X11_51 tb30 rfl dX11_edges_1.1.2.1.1 rfl ?_
        refine zW_iload_n (pc' := 43) dX11_edges_1.1.2.1.2 rfl rfl ?_
        refine cvA1 (pc' := 46) kX1_sheetOf vX1_sheetOf lk_X11_192 ⟨Nat.le_of_ble_eq_true rfl, Nat.le_of_ble_eq_true rfl⟩ tb54 vq1 rfl rfl (hSh hK hF _ ⟨by omega, by omega⟩) dX11_edges_1.1.2.2 (Nat.le_of_ble_eq_true rfl) rfl ?_
        rintro r43 h ⟨hF, p43⟩
        obtain ⟨q43, z43⟩ : ∃ z : Nat, z = r43.toNat := ⟨_, rfl⟩
        rw [← z43]
        refine zW_iload_n (pc' := 47) dX11_edges_1.2.1.1.1 rfl rfl ?_
        refine cvI2 (pc' := 50) kX4_edgesOf vX4_edgesOf lk_X11_336 ⟨Nat.le_of_ble_eq_true rfl, Nat.le_of_ble_eq_true rfl⟩ tb95 vq4 rfl rfl (s_X4_edgesOf hK hF _ ⟨by omega, by omega⟩ _) dX11_edges_1.2.1.1.2 (Nat.le_of_ble_eq_true rfl) rfl ?_
        rintro r47 z47 ⟨hz47, p47⟩; subst z47
        refine zV_goto 55 dX11_edges_1.2.1.2 rfl ?_
        exact zV_iret rfl dX11_edges_1.2.2.2 ⟨hF, trivial⟩
    · refine zW_iconst (pc' := 22) dX11_edges_0.2.1.1.2 rfl ?_
      exact zV_iret rfl dX11_edges_0.2.1.2.1 ⟨hF, trivial⟩

abbrev q_X11_error (b : Bd) (κ : Hp) (x1 : Int) (x2 : Int) (x3 : Int) : Int → Hp → Prop := fun r h' => Fr b κ h' ∧ (True)
set_option maxHeartbeats 4000000 in
set_option maxRecDepth 20000 in
theorem s_X11_error {G : Ga} {b : Bd} {κ h : Hp} (hK : KC κ) (hF : Fr b κ h) (x1 : Int) (hx1 : rng x1) (x2 : Int) (hx2 : rng x2) (x3 : Int) (hx3 : rng x3) (hSh : SheetOK b) : zM G mX11_error yX11_error [.inr (.inr 30), .inl x1, .inl x2, .inl x3] h (q_X11_error b κ x1 x2 x3) := by
  have f_41_0 := KCm hK
  unfold rng at hx1
  unfold rng at hx2
  unfold rng at hx3
  refine zM_of [some (.inr (.inr 30)), some (.inl x1), some (.inl x2), some (.inl x3)] 0 rfl rfl (Nat.le_of_ble_eq_true rfl) rfl ?_
  refine zW_aload_n (pc' := 1) dX11_error_0.1.1.1.1 rfl rfl ?_
  refine zW_iload_n (pc' := 2) dX11_error_0.1.1.1.2 rfl rfl ?_
  refine zW_iload_n (pc' := 3) dX11_error_0.1.1.2.1 rfl rfl ?_
  refine cvI2 (pc' := 6) kX11_isLeftOf vX11_isLeftOf lk_X11_290 ⟨Nat.le_of_ble_eq_true rfl, Nat.le_of_ble_eq_true rfl⟩ tb30 vq11 rfl rfl (s_X11_isLeftOf hK hF _ ⟨by omega, by omega⟩ _ ⟨by omega, by omega⟩) dX11_error_0.1.1.2.2 (Nat.le_of_ble_eq_true rfl) rfl ?_
  rintro r3 z3 ⟨hz3, p3⟩; subst z3
  refine zV_if_eq (tgt := 17) (pc' := 9) dX11_error_0.1.2.1.1 rfl rfl ⟨by omega, by omega⟩ (fun c6 => ?_) (fun c6 => ?_)
  · refine zV_ldc2 (n := -1) (pc' := 20) kl_X11_340 rfl dX11_error_0.2.1.1.2 rfl ?_
    exact zV_lret rfl dX11_error_0.2.1.2.1 ⟨hF, trivial⟩
  · refine zW_iload_n (pc' := 10) dX11_error_0.1.2.1.2 rfl rfl ?_
    refine zW_iconst (pc' := 11) dX11_error_0.1.2.2.1 rfl ?_
    refine csI2 (pc' := 14) kX11_isWithin vX11_isWithin lk_X11_116 ⟨Nat.le_of_ble_eq_true rfl, Nat.le_of_ble_eq_true rfl⟩ rfl (s_X11_isWithinR hF _ ⟨by omega, by omega⟩ _ ⟨by omega, by omega⟩) dX11_error_0.1.2.2.2 (Nat.le_of_ble_eq_true rfl) rfl ?_
    rintro r11 z11 ⟨hz11, p11⟩; subst z11
    refine zV_if_ne (tgt := 21) (pc' := 17) dX11_error_0.2.1.1.1 rfl rfl ⟨by omega, by omega⟩ (fun c14 => ?_) (fun c14 => ?_)
    · refine zW_aload_n (pc' := 22) dX11_error_0.2.1.2.2 rfl rfl ?_
      refine zG_ref (pc' := 25) 41 fg_X11_33 tb30 rfl dX11_error_0.2.2.1.1 rfl ?_
      refine zW_iload_n (pc' := 26) dX11_error_0.2.2.1.2 rfl rfl ?_
      refine cvI1 (pc' := 29) kX7_isBehindF vX7_isBehindF lk_X11_310 ⟨Nat.le_of_ble_eq_true rfl, Nat.le_of_ble_eq_true rfl⟩ tb41 vq7 rfl rfl (s_X7_isBehindF hK hF _ ⟨by omega, by omega⟩) dX11_error_0.2.2.2.1 (Nat.le_of_ble_eq_true rfl) rfl ?_
      rintro r26 z26 ⟨hz26, p26⟩; subst z26
      refine zV_if_ne (tgt := 36) (pc' := 32) dX11_error_0.2.2.2.2 rfl rfl ⟨by omega, by omega⟩ (fun c29 => ?_) (fun c29 => ?_)
      · refine zW_aload_n (pc' := 37) dX11_error_1.1.1.2.1 rfl rfl ?_
        refine zG_ref (pc' := 40) 39 fg_X11_26 tb30 rfl dX11_error_1.1.1.2.2 rfl ?_
        refine zG_key (pc' := 43) hF rfl fg_X11_169 tb39 rfl dX11_error_1.1.2.1.1 rfl ?_
        refine zV_ifQ_ne (tgt := 50) (pc' := 46) dX11_error_1.1.2.1.2 rfl rfl ?_ ?_
        · refine zW_aload_n (pc' := 51) dX11_error_1.2.1.1.1 rfl rfl ?_
          refine zG_ref (pc' := 54) 95 fg_X11_60 tb30 rfl dX11_error_1.2.1.1.2 rfl ?_
          refine zW_aload_n (pc' := 55) dX11_error_1.2.1.2.1 rfl rfl ?_
          refine zG_ref (pc' := 58) 54 fg_X11_51 tb30 rfl dX11_error_1.2.1.2.2 rfl ?_
          refine zW_iload_n (pc' := 59) dX11_error_1.2.2.1.1 rfl rfl ?_
          refine cvA1 (pc' := 62) kX1_sheetOf vX1_sheetOf lk_X11_192 ⟨Nat.le_of_ble_eq_true rfl, Nat.le_of_ble_eq_true rfl⟩ tb54 vq1 rfl rfl (hSh hK hF _ ⟨by omega, by omega⟩) dX11_error_1.2.2.1.2 (Nat.le_of_ble_eq_true rfl) rfl ?_
          rintro r59 h ⟨hF, p59⟩
          obtain ⟨q59, z59⟩ : ∃ z : Nat, z = r59.toNat := ⟨_, rfl⟩
          rw [← z59]
          refine zW_aload_n (pc' := 63) dX11_error_1.2.2.2.1 rfl rfl ?_
          refine zG_ref (pc' := 66) 39 fg_X11_26 tb30 rfl dX11_error_1.2.2.2.2 rfl ?_
          refine zW_iload_n (pc' := 67) dX11_error_2.1.1.1.1 rfl rfl ?_
          refine cvV3 (pc' := 70) kX4_findErrors vX4_findErrors lk_X11_346 ⟨Nat.le_of_ble_eq_true rfl, Nat.le_of_ble_eq_true rfl⟩ tb95 vq4 rfl rfl (s_X4_findErrors hK hF _ ⟨by omega, by omega⟩ _ ⟨by omega, by omega⟩) dX11_error_2.1.1.1.2 (Nat.le_of_ble_eq_true rfl) rfl ?_
          rintro r67 h ⟨hF, p67⟩
          refine zW_iload_n (pc' := 71) dX11_error_2.1.1.2.1 rfl rfl ?_
          refine zW_iconst (pc' := 72) dX11_error_2.1.1.2.2 rfl ?_
          refine zV_cm_ne (tgt := 83) (pc' := 75) dX11_error_2.1.2.1.1 rfl rfl ⟨by omega, by omega⟩ ⟨by omega, by omega⟩ (fun c72 => ?_) (fun c72 => ?_)
          · refine zW_iload_n (pc' := 84) dX11_error_2.2.1.1.2 rfl rfl ?_
            refine zV_if_ne (tgt := 97) (pc' := 87) dX11_error_2.2.1.2.1 rfl rfl ⟨by omega, by omega⟩ (fun c84 => ?_) (fun c84 => ?_)
            · refine zW_aload_n (pc' := 98) dX11_error_2.2.2.2.2 rfl rfl ?_
              refine zG_ref (pc' := 101) 95 fg_X11_60 tb30 rfl dX11_error_3.1.1 rfl ?_
              refine zG_lng (pc' := 104) fg_X11_357 tb95 rfl dX11_error_3.1.2 rfl ?_
              exact zV_lret rfl dX11_error_3.2 ⟨hF, trivial⟩
            · refine zW_aload_n (pc' := 88) dX11_error_2.2.1.2.2 rfl rfl ?_
              refine zG_ref (pc' := 91) 95 fg_X11_60 tb30 rfl dX11_error_2.2.2.1.1 rfl ?_
              refine zG_lng (pc' := 94) fg_X11_354 tb95 rfl dX11_error_2.2.2.1.2 rfl ?_
              refine zV_goto 104 dX11_error_2.2.2.2.1 rfl ?_
              exact zV_lret rfl dX11_error_3.2 ⟨hF, trivial⟩
          · refine zW_aload_n (pc' := 76) dX11_error_2.1.2.1.2 rfl rfl ?_
            refine zG_ref (pc' := 79) 95 fg_X11_60 tb30 rfl dX11_error_2.1.2.2.1 rfl ?_
            refine zG_lng (pc' := 82) fg_X11_350 tb95 rfl dX11_error_2.1.2.2.2 rfl ?_
            exact zV_lret rfl dX11_error_2.2.1.1.1 ⟨hF, trivial⟩
        · refine zV_ldc2 (n := -4) (pc' := 49) kl_X11_344 rfl dX11_error_1.1.2.2.1 rfl ?_
          exact zV_lret rfl dX11_error_1.1.2.2.2 ⟨hF, trivial⟩
      · refine zV_ldc2 (n := -3) (pc' := 35) kl_X11_342 rfl dX11_error_1.1.1.1.1 rfl ?_
        exact zV_lret rfl dX11_error_1.1.1.1.2 ⟨hF, trivial⟩
    · refine zV_ldc2 (n := -1) (pc' := 20) kl_X11_340 rfl dX11_error_0.2.1.1.2 rfl ?_
      exact zV_lret rfl dX11_error_0.2.1.2.1 ⟨hF, trivial⟩

abbrev q_X11_falseOnes (b : Bd) (κ : Hp) (x1 : Int) (x2 : Int) : Int → Hp → Prop := fun r h' => Fr b κ h' ∧ (True)
set_option maxHeartbeats 4000000 in
set_option maxRecDepth 20000 in
theorem s_X11_falseOnes {G : Ga} {b : Bd} {κ h : Hp} (hK : KC κ) (hF : Fr b κ h) (x1 : Int) (hx1 : rng x1) (x2 : Int) (hx2 : rng x2) (hSh : SheetOK b) : zM G mX11_falseOnes yX11_falseOnes [.inr (.inr 30), .inl x1, .inl x2] h (q_X11_falseOnes b κ x1 x2) := by
  have f_41_0 := KCm hK
  unfold rng at hx1
  unfold rng at hx2
  refine zM_of [some (.inr (.inr 30)), some (.inl x1), some (.inl x2)] 0 rfl rfl (Nat.le_of_ble_eq_true rfl) rfl ?_
  refine zW_aload_n (pc' := 1) dX11_falseOnes_0.1.1.1.1 rfl rfl ?_
  refine zG_ref (pc' := 4) 41 fg_X11_33 tb30 rfl dX11_falseOnes_0.1.1.1.2 rfl ?_
  refine zW_iload_n (pc' := 5) dX11_falseOnes_0.1.1.2.1 rfl rfl ?_
  refine cvI1 (pc' := 8) kX7_leaves vX7_leaves lk_X11_189 ⟨Nat.le_of_ble_eq_true rfl, Nat.le_of_ble_eq_true rfl⟩ tb41 vq7 rfl rfl (s_X7_leaves hK hF _ ⟨by omega, by omega⟩) dX11_falseOnes_0.1.1.2.2 (Nat.le_of_ble_eq_true rfl) rfl ?_
  rintro r5 z5 ⟨hz5, p5⟩; subst z5
  refine zV_if_eq (tgt := 21) (pc' := 11) dX11_falseOnes_0.1.2.1.1 rfl rfl ⟨by omega, by omega⟩ (fun c8 => ?_) (fun c8 => ?_)
  · refine zW_iconst (pc' := 22) dX11_falseOnes_0.2.1.1.2 rfl ?_
    exact zV_iret rfl dX11_falseOnes_0.2.1.2.1 ⟨hF, trivial⟩
  · refine zW_iload_n (pc' := 12) dX11_falseOnes_0.1.2.1.2 rfl rfl ?_
    refine zW_sipush (pc' := 15) dX11_falseOnes_0.1.2.2.1 rfl rfl ?_
    refine csI2 (pc' := 18) kX11_isWithin vX11_isWithin lk_X11_116 ⟨Nat.le_of_ble_eq_true rfl, Nat.le_of_ble_eq_true rfl⟩ rfl (s_X11_isWithinR hF _ ⟨by omega, by omega⟩ _ ⟨by omega, by omega⟩) dX11_falseOnes_0.1.2.2.2 (Nat.le_of_ble_eq_true rfl) rfl ?_
    rintro r15 z15 ⟨hz15, p15⟩; subst z15
    refine zV_if_ne (tgt := 23) (pc' := 21) dX11_falseOnes_0.2.1.1.1 rfl rfl ⟨by omega, by omega⟩ (fun c18 => ?_) (fun c18 => ?_)
    · refine zW_aload_n (pc' := 24) dX11_falseOnes_0.2.1.2.2 rfl rfl ?_
      refine zG_ref (pc' := 27) 41 fg_X11_33 tb30 rfl dX11_falseOnes_0.2.2.1.1 rfl ?_
      refine zW_iload_n (pc' := 28) dX11_falseOnes_0.2.2.1.2 rfl rfl ?_
      refine cvI1 (pc' := 31) kX7_isBehindF vX7_isBehindF lk_X11_310 ⟨Nat.le_of_ble_eq_true rfl, Nat.le_of_ble_eq_true rfl⟩ tb41 vq7 rfl rfl (s_X7_isBehindF hK hF _ ⟨by omega, by omega⟩) dX11_falseOnes_0.2.2.2.1 (Nat.le_of_ble_eq_true rfl) rfl ?_
      rintro r28 z28 ⟨hz28, p28⟩; subst z28
      refine zV_if_eq (tgt := 53) (pc' := 34) dX11_falseOnes_0.2.2.2.2 rfl rfl ⟨by omega, by omega⟩ (fun c31 => ?_) (fun c31 => ?_)
      · refine zW_bipush (pc' := 55) dX11_falseOnes_1.2.2.1 rfl rfl ?_
        exact zV_iret rfl dX11_falseOnes_1.2.2.2 ⟨hF, trivial⟩
      · refine zW_aload_n (pc' := 35) dX11_falseOnes_1.1.1.1.1 rfl rfl ?_
        refine zG_ref (pc' := 38) 95 fg_X11_60 tb30 rfl dX11_falseOnes_1.1.1.1.2 rfl ?_
        refine zW_aload_n (pc' := 39) dX11_falseOnes_1.1.1.2 rfl rfl ?_
        refine zG_ref (pc' := 42) 54 fg_X11_51 tb30 rfl dX11_falseOnes_1.1.2.1.1 rfl ?_
        refine zW_iload_n (pc' := 43) dX11_falseOnes_1.1.2.1.2 rfl rfl ?_
        refine cvA1 (pc' := 46) kX1_sheetOf vX1_sheetOf lk_X11_192 ⟨Nat.le_of_ble_eq_true rfl, Nat.le_of_ble_eq_true rfl⟩ tb54 vq1 rfl rfl (hSh hK hF _ ⟨by omega, by omega⟩) dX11_falseOnes_1.1.2.2 (Nat.le_of_ble_eq_true rfl) rfl ?_
        rintro r43 h ⟨hF, p43⟩
        obtain ⟨q43, z43⟩ : ∃ z : Nat, z = r43.toNat := ⟨_, rfl⟩
        rw [← z43]
        refine zW_iload_n (pc' := 47) dX11_falseOnes_1.2.1.1.1 rfl rfl ?_
        refine cvI2 (pc' := 50) kX4_falseOf vX4_falseOf lk_X11_360 ⟨Nat.le_of_ble_eq_true rfl, Nat.le_of_ble_eq_true rfl⟩ tb95 vq4 rfl rfl (s_X4_falseOf hK hF _ ⟨by omega, by omega⟩ _) dX11_falseOnes_1.2.1.1.2 (Nat.le_of_ble_eq_true rfl) rfl ?_
        rintro r47 z47 ⟨hz47, p47⟩; subst z47
        refine zV_goto 55 dX11_falseOnes_1.2.1.2 rfl ?_
        exact zV_iret rfl dX11_falseOnes_1.2.2.2 ⟨hF, trivial⟩
    · refine zW_iconst (pc' := 22) dX11_falseOnes_0.2.1.1.2 rfl ?_
      exact zV_iret rfl dX11_falseOnes_0.2.1.2.1 ⟨hF, trivial⟩


abbrev q_X11_unlike (b : Bd) (κ : Hp) (x1 : Int) (x2 : Int) (x3 : Int) : Int → Hp → Prop := fun r h' => Fr b κ h' ∧ (True)
set_option maxHeartbeats 4000000 in
set_option maxRecDepth 20000 in
theorem s_X11_unlike {G : Ga} {b : Bd} {κ h : Hp} (hK : KC κ) (hF : Fr b κ h) (x1 : Int) (hx1 : rng x1) (x2 : Int) (hx2 : rng x2) (x3 : Int) (hx3 : rng x3) (hSh : SheetOK b) : zM G mX11_unlike yX11_unlike [.inr (.inr 30), .inl x1, .inl x2, .inl x3] h (q_X11_unlike b κ x1 x2 x3) := by
  have f_41_0 := KCm hK
  unfold rng at hx1
  unfold rng at hx2
  unfold rng at hx3
  refine zM_of [some (.inr (.inr 30)), some (.inl x1), some (.inl x2), some (.inl x3)] 0 rfl rfl (Nat.le_of_ble_eq_true rfl) rfl ?_
  refine zW_aload_n (pc' := 1) dX11_unlike_0.1.1.1.1 rfl rfl ?_
  refine zG_ref (pc' := 4) 41 fg_X11_33 tb30 rfl dX11_unlike_0.1.1.1.2 rfl ?_
  refine zW_iload_n (pc' := 5) dX11_unlike_0.1.1.2.1 rfl rfl ?_
  refine cvI1 (pc' := 8) kX7_leaves vX7_leaves lk_X11_189 ⟨Nat.le_of_ble_eq_true rfl, Nat.le_of_ble_eq_true rfl⟩ tb41 vq7 rfl rfl (s_X7_leaves hK hF _ ⟨by omega, by omega⟩) dX11_unlike_0.1.1.2.2 (Nat.le_of_ble_eq_true rfl) rfl ?_
  rintro r5 z5 ⟨hz5, p5⟩; subst z5
  refine zV_if_eq (tgt := 30) (pc' := 11) dX11_unlike_0.1.2.1.1 rfl rfl ⟨by omega, by omega⟩ (fun c8 => ?_) (fun c8 => ?_)
  · refine zW_iconst (pc' := 31) dX11_unlike_0.2.2.2.1 rfl ?_
    exact zV_iret rfl dX11_unlike_0.2.2.2.2 ⟨hF, trivial⟩
  · refine zW_aload_n (pc' := 12) dX11_unlike_0.1.2.1.2 rfl rfl ?_
    refine zG_ref (pc' := 15) 41 fg_X11_33 tb30 rfl dX11_unlike_0.1.2.2.1 rfl ?_
    refine zW_iload_n (pc' := 16) dX11_unlike_0.1.2.2.2 rfl rfl ?_
    refine cvI1 (pc' := 19) kX7_leaves vX7_leaves lk_X11_189 ⟨Nat.le_of_ble_eq_true rfl, Nat.le_of_ble_eq_true rfl⟩ tb41 vq7 rfl rfl (s_X7_leaves hK hF _ ⟨by omega, by omega⟩) dX11_unlike_0.2.1.1.1 (Nat.le_of_ble_eq_true rfl) rfl ?_
    rintro r16 z16 ⟨hz16, p16⟩; subst z16
    refine zV_if_eq (tgt := 30) (pc' := 22) dX11_unlike_0.2.1.1.2 rfl rfl ⟨by omega, by omega⟩ (fun c19 => ?_) (fun c19 => ?_)
    · refine zW_iconst (pc' := 31) dX11_unlike_0.2.2.2.1 rfl ?_
      exact zV_iret rfl dX11_unlike_0.2.2.2.2 ⟨hF, trivial⟩
    · refine zW_iload_n (pc' := 23) dX11_unlike_0.2.1.2.1 rfl rfl ?_
      refine zW_iconst (pc' := 24) dX11_unlike_0.2.1.2.2 rfl ?_
      refine csI2 (pc' := 27) kX11_isWithin vX11_isWithin lk_X11_116 ⟨Nat.le_of_ble_eq_true rfl, Nat.le_of_ble_eq_true rfl⟩ rfl (s_X11_isWithinR hF _ ⟨by omega, by omega⟩ _ ⟨by omega, by omega⟩) dX11_unlike_0.2.2.1.1 (Nat.le_of_ble_eq_true rfl) rfl ?_
      rintro r24 z24 ⟨hz24, p24⟩; subst z24
      refine zV_if_ne (tgt := 32) (pc' := 30) dX11_unlike_0.2.2.1.2 rfl rfl ⟨by omega, by omega⟩ (fun c27 => ?_) (fun c27 => ?_)
      · refine zW_aload_n (pc' := 33) dX11_unlike_1.1.1.1.1 rfl rfl ?_
        refine zG_ref (pc' := 36) 41 fg_X11_33 tb30 rfl dX11_unlike_1.1.1.1.2 rfl ?_
        refine zW_iload_n (pc' := 37) dX11_unlike_1.1.1.2.1 rfl rfl ?_
        refine cvI1 (pc' := 40) kX7_isBehindF vX7_isBehindF lk_X11_310 ⟨Nat.le_of_ble_eq_true rfl, Nat.le_of_ble_eq_true rfl⟩ tb41 vq7 rfl rfl (s_X7_isBehindF hK hF _ ⟨by omega, by omega⟩) dX11_unlike_1.1.1.2.2 (Nat.le_of_ble_eq_true rfl) rfl ?_
        rintro r37 z37 ⟨hz37, p37⟩; subst z37
        refine zW_aload_n (pc' := 41) dX11_unlike_1.1.2.1.1 rfl rfl ?_
        refine zG_ref (pc' := 44) 41 fg_X11_33 tb30 rfl dX11_unlike_1.1.2.1.2 rfl ?_
        refine zW_iload_n (pc' := 45) dX11_unlike_1.1.2.2.1 rfl rfl ?_
        refine cvI1 (pc' := 48) kX7_isBehindF vX7_isBehindF lk_X11_310 ⟨Nat.le_of_ble_eq_true rfl, Nat.le_of_ble_eq_true rfl⟩ tb41 vq7 rfl rfl (s_X7_isBehindF hK hF _ ⟨by omega, by omega⟩) dX11_unlike_1.1.2.2.2 (Nat.le_of_ble_eq_true rfl) rfl ?_
        rintro r45 z45 ⟨hz45, p45⟩; subst z45
        refine zV_cm_eq (tgt := 54) (pc' := 51) dX11_unlike_1.2.1.1.1 rfl rfl ⟨by omega, by omega⟩ ⟨by omega, by omega⟩ (fun c48 => ?_) (fun c48 => ?_)
        · refine zW_aload_n (pc' := 55) dX11_unlike_1.2.1.2.2 rfl rfl ?_
          refine zG_ref (pc' := 58) 95 fg_X11_60 tb30 rfl dX11_unlike_1.2.2.1.1 rfl ?_
          refine zW_aload_n (pc' := 59) dX11_unlike_1.2.2.1.2 rfl rfl ?_
          refine zG_ref (pc' := 62) 54 fg_X11_51 tb30 rfl dX11_unlike_1.2.2.2.1 rfl ?_
          refine zW_iload_n (pc' := 63) dX11_unlike_1.2.2.2.2 rfl rfl ?_
          refine cvA1 (pc' := 66) kX1_sheetOf vX1_sheetOf lk_X11_192 ⟨Nat.le_of_ble_eq_true rfl, Nat.le_of_ble_eq_true rfl⟩ tb54 vq1 rfl rfl (hSh hK hF _ ⟨by omega, by omega⟩) dX11_unlike_2.1.1.1.1 (Nat.le_of_ble_eq_true rfl) rfl ?_
          rintro r63 h ⟨hF, p63⟩
          obtain ⟨q63, z63⟩ : ∃ z : Nat, z = r63.toNat := ⟨_, rfl⟩
          rw [← z63]
          refine zW_aload_n (pc' := 67) dX11_unlike_2.1.1.1.2 rfl rfl ?_
          refine zG_ref (pc' := 70) 54 fg_X11_51 tb30 rfl dX11_unlike_2.1.1.2.1 rfl ?_
          refine zW_iload_n (pc' := 71) dX11_unlike_2.1.1.2.2 rfl rfl ?_
          refine cvA1 (pc' := 74) kX1_sheetOf vX1_sheetOf lk_X11_192 ⟨Nat.le_of_ble_eq_true rfl, Nat.le_of_ble_eq_true rfl⟩ tb54 vq1 rfl rfl (hSh hK hF _ ⟨by omega, by omega⟩) dX11_unlike_2.1.2.1.1 (Nat.le_of_ble_eq_true rfl) rfl ?_
          rintro r71 h ⟨hF, p71⟩
          obtain ⟨q71, z71⟩ : ∃ z : Nat, z = r71.toNat := ⟨_, rfl⟩
          rw [← z71]
          refine cvV2 (pc' := 77) kX4_compare vX4_compare lk_X11_369 ⟨Nat.le_of_ble_eq_true rfl, Nat.le_of_ble_eq_true rfl⟩ tb95 vq4 rfl rfl (s_X4_compare hK hF _ ⟨by omega, by omega⟩ _ ⟨by omega, by omega⟩) dX11_unlike_2.1.2.1.2 (Nat.le_of_ble_eq_true rfl) rfl ?_
          rintro r74 h ⟨hF, p74⟩
          refine zW_iload_n (pc' := 78) dX11_unlike_2.1.2.2.1 rfl rfl ?_
          refine zV_if_ne (tgt := 91) (pc' := 81) dX11_unlike_2.1.2.2.2 rfl rfl ⟨by omega, by omega⟩ (fun c78 => ?_) (fun c78 => ?_)
          · refine zW_aload_n (pc' := 92) dX11_unlike_2.2.2.1.1 rfl rfl ?_
            refine zG_ref (pc' := 95) 95 fg_X11_60 tb30 rfl dX11_unlike_2.2.2.1.2 rfl ?_
            refine zG_int (pc' := 98) fg_X11_376 tb95 rfl dX11_unlike_2.2.2.2.1 rfl ?_
            exact zV_iret rfl dX11_unlike_2.2.2.2.2 ⟨hF, trivial⟩
          · refine zW_aload_n (pc' := 82) dX11_unlike_2.2.1.1.1 rfl rfl ?_
            refine zG_ref (pc' := 85) 95 fg_X11_60 tb30 rfl dX11_unlike_2.2.1.1.2 rfl ?_
            refine zG_int (pc' := 88) fg_X11_373 tb95 rfl dX11_unlike_2.2.1.2.1 rfl ?_
            refine zV_goto 98 dX11_unlike_2.2.1.2.2 rfl ?_
            exact zV_iret rfl dX11_unlike_2.2.2.2.2 ⟨hF, trivial⟩
        · refine zW_bipush (pc' := 53) dX11_unlike_1.2.1.1.2 rfl rfl ?_
          exact zV_iret rfl dX11_unlike_1.2.1.2.1 ⟨hF, trivial⟩
      · refine zW_iconst (pc' := 31) dX11_unlike_0.2.2.2.1 rfl ?_
        exact zV_iret rfl dX11_unlike_0.2.2.2.2 ⟨hF, trivial⟩

abbrev q_X11_without (b : Bd) (κ : Hp) (x1 : Int) (x2 : Int) : Int → Hp → Prop := fun r h' => Fr b κ h' ∧ (True)
set_option maxHeartbeats 4000000 in
set_option maxRecDepth 20000 in
theorem s_X11_without {G : Ga} {b : Bd} {κ h : Hp} (hK : KC κ) (hF : Fr b κ h) (x1 : Int) (hx1 : rng x1) (x2 : Int) (hx2 : rng x2) (hSh : SheetOK b) (hTr : OkT b) : zM G mX11_without yX11_without [.inr (.inr 30), .inl x1, .inl x2] h (q_X11_without b κ x1 x2) := by
  have f_41_0 := KCm hK
  have f_41_1 := KCf hK
  unfold rng at hx1
  unfold rng at hx2
  refine zM_of [some (.inr (.inr 30)), some (.inl x1), some (.inl x2)] 0 rfl rfl (Nat.le_of_ble_eq_true rfl) rfl ?_
  refine zW_aload_n (pc' := 1) dX11_without_0.1.1.1.1 rfl rfl ?_
  refine zG_ref (pc' := 4) 41 fg_X11_33 tb30 rfl dX11_without_0.1.1.1.2 rfl ?_
  refine zW_iload_n (pc' := 5) dX11_without_0.1.1.2.1 rfl rfl ?_
  refine cvI1 (pc' := 8) kX7_has vX7_has lk_X11_178 ⟨Nat.le_of_ble_eq_true rfl, Nat.le_of_ble_eq_true rfl⟩ tb41 vq7 rfl rfl (s_X7_has hK hF _ ⟨by omega, by omega⟩) dX11_without_0.1.1.2.2 (Nat.le_of_ble_eq_true rfl) rfl ?_
  rintro r5 z5 ⟨hz5, p5⟩; subst z5
  refine zV_if_eq (tgt := 19) (pc' := 11) dX11_without_0.1.2.1.1 rfl rfl ⟨by omega, by omega⟩ (fun c8 => ?_) (fun c8 => ?_)
  · refine zW_iconst (pc' := 20) dX11_without_0.2.1.1.2 rfl ?_
    exact zV_iret rfl dX11_without_0.2.1.2.1 ⟨hF, trivial⟩
  · refine zW_iload_n (pc' := 12) dX11_without_0.1.2.1.2 rfl rfl ?_
    refine zW_iconst (pc' := 13) dX11_without_0.1.2.2.1 rfl ?_
    refine csI2 (pc' := 16) kX11_isWithin vX11_isWithin lk_X11_116 ⟨Nat.le_of_ble_eq_true rfl, Nat.le_of_ble_eq_true rfl⟩ rfl (s_X11_isWithinR hF _ ⟨by omega, by omega⟩ _ ⟨by omega, by omega⟩) dX11_without_0.1.2.2.2 (Nat.le_of_ble_eq_true rfl) rfl ?_
    rintro r13 z13 ⟨hz13, p13⟩; subst z13
    refine zV_if_ne (tgt := 21) (pc' := 19) dX11_without_0.2.1.1.1 rfl rfl ⟨by omega, by omega⟩ (fun c16 => ?_) (fun c16 => ?_)
    · refine zW_iload_n (pc' := 22) dX11_without_0.2.1.2.2 rfl rfl ?_
      refine zW_aload_n (pc' := 23) dX11_without_0.2.2.1.1 rfl rfl ?_
      refine zG_ref (pc' := 26) 41 fg_X11_33 tb30 rfl dX11_without_0.2.2.1.2 rfl ?_
      refine zG_key (pc' := 29) hF rfl fg_X11_248 tb41 rfl dX11_without_0.2.2.2.1 rfl ?_
      refine zV_cm_ne (tgt := 35) (pc' := 32) dX11_without_0.2.2.2.2 rfl rfl ⟨by omega, by omega⟩ ⟨by omega, by omega⟩ (fun c29 => ?_) (fun c29 => ?_)
      · refine zW_aload_n (pc' := 36) dX11_without_1.1.1.2.1 rfl rfl ?_
        refine zG_ref (pc' := 39) 95 fg_X11_60 tb30 rfl dX11_without_1.1.1.2.2 rfl ?_
        refine zW_aload_n (pc' := 40) dX11_without_1.1.2.1.1 rfl rfl ?_
        refine zG_ref (pc' := 43) 54 fg_X11_51 tb30 rfl dX11_without_1.1.2.1.2 rfl ?_
        refine zW_aload_n (pc' := 44) dX11_without_1.1.2.2.1 rfl rfl ?_
        refine zG_ref (pc' := 47) 41 fg_X11_33 tb30 rfl dX11_without_1.1.2.2.2 rfl ?_
        refine zG_key (pc' := 50) hF rfl fg_X11_379 tb41 rfl dX11_without_1.2.1.1.1 rfl ?_
        refine cvA1 (pc' := 53) kX1_sheetOf vX1_sheetOf lk_X11_192 ⟨Nat.le_of_ble_eq_true rfl, Nat.le_of_ble_eq_true rfl⟩ tb54 vq1 rfl rfl (hSh hK hF _ ⟨by omega, by omega⟩) dX11_without_1.2.1.1.2 (Nat.le_of_ble_eq_true rfl) rfl ?_
        rintro r50 h ⟨hF, p50⟩
        obtain ⟨q50, z50⟩ : ∃ z : Nat, z = r50.toNat := ⟨_, rfl⟩
        rw [← z50]
        refine zW_aload_n (pc' := 54) dX11_without_1.2.1.2.1 rfl rfl ?_
        refine zG_ref (pc' := 57) 54 fg_X11_51 tb30 rfl dX11_without_1.2.1.2.2 rfl ?_
        refine zW_iload_n (pc' := 58) dX11_without_1.2.2.1.1 rfl rfl ?_
        refine zW_iconst (pc' := 59) dX11_without_1.2.2.1.2 rfl ?_
        refine cvA2 (pc' := 62) kX1_lastWith vX1_lastWith lk_X11_380 ⟨Nat.le_of_ble_eq_true rfl, Nat.le_of_ble_eq_true rfl⟩ tb54 vq1 rfl rfl (s_X1_lastWith hK hF _ ⟨by omega, by omega, by omega⟩ _ ⟨by omega, by omega⟩ hSh hTr) dX11_without_1.2.2.2.1 (Nat.le_of_ble_eq_true rfl) rfl ?_
        rintro r59 h ⟨hF, p59⟩
        obtain ⟨q59, z59⟩ : ∃ z : Nat, z = r59.toNat := ⟨_, rfl⟩
        rw [← z59]
        refine cvV2 (pc' := 65) kX4_compare vX4_compare lk_X11_369 ⟨Nat.le_of_ble_eq_true rfl, Nat.le_of_ble_eq_true rfl⟩ tb95 vq4 rfl rfl (s_X4_compare hK hF _ ⟨by omega, by omega⟩ _ ⟨by omega, by omega⟩) dX11_without_1.2.2.2.2 (Nat.le_of_ble_eq_true rfl) rfl ?_
        rintro r62 h ⟨hF, p62⟩
        refine zW_iload_n (pc' := 66) dX11_without_2.1.1.1.1 rfl rfl ?_
        refine zV_if_ne (tgt := 79) (pc' := 69) dX11_without_2.1.1.1.2 rfl rfl ⟨by omega, by omega⟩ (fun c66 => ?_) (fun c66 => ?_)
        · refine zW_aload_n (pc' := 80) dX11_without_2.2.1.1.2 rfl rfl ?_
          refine zG_ref (pc' := 83) 95 fg_X11_60 tb30 rfl dX11_without_2.2.1.2 rfl ?_
          refine zG_int (pc' := 86) fg_X11_376 tb95 rfl dX11_without_2.2.2.1 rfl ?_
          exact zV_iret rfl dX11_without_2.2.2.2 ⟨hF, trivial⟩
        · refine zW_aload_n (pc' := 70) dX11_without_2.1.1.2 rfl rfl ?_
          refine zG_ref (pc' := 73) 95 fg_X11_60 tb30 rfl dX11_without_2.1.2.1 rfl ?_
          refine zG_int (pc' := 76) fg_X11_373 tb95 rfl dX11_without_2.1.2.2 rfl ?_
          refine zV_goto 86 dX11_without_2.2.1.1.1 rfl ?_
          exact zV_iret rfl dX11_without_2.2.2.2 ⟨hF, trivial⟩
      · refine zW_bipush (pc' := 34) dX11_without_1.1.1.1.1 rfl rfl ?_
        exact zV_iret rfl dX11_without_1.1.1.1.2 ⟨hF, trivial⟩
    · refine zW_iconst (pc' := 20) dX11_without_0.2.1.1.2 rfl ?_
      exact zV_iret rfl dX11_without_0.2.1.2.1 ⟨hF, trivial⟩

abbrev q_X11_count (κ h : Hp) (x1 : Int) : Int → Hp → Prop := fun r h' => h' = h ∧ (True)
set_option maxHeartbeats 4000000 in
set_option maxRecDepth 20000 in
theorem s_X11_count {G : Ga} {b : Bd} {κ h : Hp} (hK : KC κ) (hF : Fr b κ h) (x1 : Int) (hx1 : rng x1) : zM G mX11_count yX11_count [.inr (.inr 30), .inl x1] h (q_X11_count κ h x1) := by
  have f_30_12 := KCc hK
  have f_31_1 := KCt hK
  have f_41_0 := KCm hK
  have f_41_1 := KCf hK
  unfold rng at hx1
  refine zM_of [some (.inr (.inr 30)), some (.inl x1)] 0 rfl rfl (Nat.le_of_ble_eq_true rfl) rfl ?_
  refine zW_iload_n (pc' := 1) dX11_count_0.1.1.1.1 rfl rfl ?_
  refine zW_tsw2 (fun z t => (z = 0 ∧ t = 32) ∨ (z = 1 ∧ t = 40) ∨ (z = 2 ∧ t = 48) ∨ (z = 3 ∧ t = 53)) (fun z => if z = 0 then 32 else if z = 1 then 40 else if z = 2 then 48 else if z = 3 then 53 else 61) dX11_count_0.1.1.1.2 ⟨by omega, by omega⟩ (tsw_ok (pc := 1) (lo := 0) (offs := #[31, 39, 47, 52]) (tg := fun z => if z = 0 then 32 else if z = 1 then 40 else if z = 2 then 48 else if z = 3 then 53 else 61) (by decide +kernel)) rfl (by decide +kernel) (td := 61) rfl (fun c1 => ?_) (fun t1 w1 => ?_)
  · refine zW_iconst (pc' := 62) dX11_count_1.1.2 rfl ?_
    exact zV_iret rfl dX11_count_1.2 ⟨rfl, trivial⟩
  · rcases w1 with ⟨s0, rfl⟩ | ⟨s1, rfl⟩ | ⟨s2, rfl⟩ | ⟨s3, rfl⟩
    · refine zW_aload_n (pc' := 33) dX11_count_0.1.1.2.1 rfl rfl ?_
      refine zG_ref (pc' := 36) 41 fg_X11_33 tb30 rfl dX11_count_0.1.1.2.2 rfl ?_
      refine zG_key (pc' := 39) hF rfl fg_X11_379 tb41 rfl dX11_count_0.1.2.1.1 rfl ?_
      exact zV_iret rfl dX11_count_0.1.2.1.2 ⟨rfl, trivial⟩
    · refine zW_aload_n (pc' := 41) dX11_count_0.1.2.2.1 rfl rfl ?_
      refine zG_ref (pc' := 44) 31 fg_X11_10 tb30 rfl dX11_count_0.1.2.2.2 rfl ?_
      refine zG_key (pc' := 47) hF rfl fg_X11_88 tb31 rfl dX11_count_0.2.1.1.1 rfl ?_
      exact zV_iret rfl dX11_count_0.2.1.1.2 ⟨rfl, trivial⟩
    · refine zW_aload_n (pc' := 49) dX11_count_0.2.1.2.1 rfl rfl ?_
      refine zG_key (pc' := 52) hF rfl fg_X11_85 tb30 rfl dX11_count_0.2.1.2.2 rfl ?_
      exact zV_iret rfl dX11_count_0.2.2.1.1 ⟨rfl, trivial⟩
    · refine zW_aload_n (pc' := 54) dX11_count_0.2.2.1.2 rfl rfl ?_
      refine zG_ref (pc' := 57) 41 fg_X11_33 tb30 rfl dX11_count_0.2.2.2.1 rfl ?_
      refine zG_key (pc' := 60) hF rfl fg_X11_248 tb41 rfl dX11_count_0.2.2.2.2 rfl ?_
      exact zV_iret rfl dX11_count_1.1.1 ⟨rfl, trivial⟩
