abbrev q_X3_medianAt (b : Bd) (κ : Hp) (l1 : Nat) (x2 : Int) (x3 : Int) (x4 : Int) : Int → Hp → Prop := fun r h' => Fr b κ h' ∧ (True)
set_option maxHeartbeats 4000000 in
set_option maxRecDepth 20000 in
theorem s_X3_medianAt {G : Ga} {b : Bd} {κ h : Hp} (hK : KC κ) (hF : Fr b κ h) (l1 : Nat) (hl1 : 71 ≤ l1 ∧ l1 ≤ 85) (x2 : Int) (hx2 : 0 ≤ x2 ∧ x2 ≤ 2) (x3 : Int) (hx3 : 0 ≤ x3 ∧ x3 ≤ 15 ∧ x3 - κ 33 0 ≤ -1) (x4 : Int) (hx4 : 0 ≤ x4 ∧ x4 ≤ 15 ∧ x4 - κ 33 1 ≤ -1) : zM G mX3_medianAt yX3_medianAt [.inr (.inr 87), .inr (.inr l1), .inl x2, .inl x3, .inl x4] h (q_X3_medianAt b κ l1 x2 x3 x4) := by
  have f_33_0 := KCw hK
  have f_33_1 := KCh hK
  have main : ∀ N : Nat, (∀ (v5 v6 : Int) (h : Hp), Fr b κ h → (0 ≤ v5 ∧ v5 ≤ 9) → (-1 ≤ v6 ∧ v6 ≤ 2) → (v5 = 3 * (v6 + 1)) → 3430224000 + 8366400 * (2 - v6) + 8265600 < (N : Int) → zV G mX3_medianAt (q_X3_medianAt b κ l1 x2 x3 x4) 6 [some (.inr (.inr 87)), some (.inr (.inr l1)), some (.inl x2), some (.inl x3), some (.inl x4), some (.inl v5), some (.inl v6), none, none, none, none, none] [] h) ∧ (∀ (v5 v6 v7 v8 : Int) (h : Hp), Fr b κ h → (0 ≤ v5 ∧ v5 ≤ 9) → (-1 ≤ v6 ∧ v6 ≤ 1) → (0 ≤ v7 ∧ v7 ≤ 240) → (-1 ≤ v8 ∧ v8 ≤ 2) → (v5 = 3 * (v6 + 1) + (v8 + 1)) → 3430224000 + 8366400 * (2 - v6) + 6249600 + 20160 * (2 - v8) + 19840 < (N : Int) → zV G mX3_medianAt (q_X3_medianAt b κ l1 x2 x3 x4) 35 [some (.inr (.inr 87)), some (.inr (.inr l1)), some (.inl x2), some (.inl x3), some (.inl x4), some (.inl v5), some (.inl v6), some (.inl v7), some (.inl v8), none, none, none] [] h) ∧ (∀ (v5 v6 v7 v8 v9 v10 v11 : Int) (h : Hp), Fr b κ h → (0 ≤ v5 ∧ v5 ≤ 8) → (-1 ≤ v6 ∧ v6 ≤ 1) → (0 ≤ v7 ∧ v7 ≤ 240) → (-1 ≤ v8 ∧ v8 ≤ 1) → (0 ≤ v9 ∧ v9 ≤ 255) → (0 ≤ v11 ∧ v11 ≤ 8) → (v5 = 3 * (v6 + 1) + (v8 + 1)) → (v11 ≤ v5) → 3430224000 + 8366400 * (2 - v6) + 6249600 + 20160 * (2 - v8) + 9920 + 32 * (v11 - 0) + 31 < (N : Int) → zV G mX3_medianAt (q_X3_medianAt b κ l1 x2 x3 x4) 85 [some (.inr (.inr 87)), some (.inr (.inr l1)), some (.inl x2), some (.inl x3), some (.inl x4), some (.inl v5), some (.inl v6), some (.inl v7), some (.inl v8), some (.inl v9), some (.inl v10), some (.inl v11)] [] h) ∧ (∀ (v5 v6 v7 v8 v9 v10 v11 : Int) (h : Hp), Fr b κ h → (0 ≤ v5 ∧ v5 ≤ 8) → (-1 ≤ v6 ∧ v6 ≤ 1) → (0 ≤ v7 ∧ v7 ≤ 240) → (-1 ≤ v8 ∧ v8 ≤ 1) → (0 ≤ v9 ∧ v9 ≤ 255) → (0 ≤ v11 ∧ v11 ≤ 8) → (v5 = 3 * (v6 + 1) + (v8 + 1)) → (v11 ≤ v5) → 3430224000 + 8366400 * (2 - v6) + 6249600 + 20160 * (2 - v8) + 6720 < (N : Int) → zV G mX3_medianAt (q_X3_medianAt b κ l1 x2 x3 x4) 126 [some (.inr (.inr 87)), some (.inr (.inr l1)), some (.inl x2), some (.inl x3), some (.inl x4), some (.inl v5), some (.inl v6), some (.inl v7), some (.inl v8), some (.inl v9), some (.inl v10), some (.inl v11)] [] h) := by
    intro N
    induction N with
    | zero =>
      refine ⟨?_, ?_, ?_, ?_⟩
      · intro v5 v6 h hF g0 g1 gc0 hm
        exfalso; omega
      · intro v5 v6 v7 v8 h hF g0 g1 g2 g3 gc0 hm
        exfalso; omega
      · intro v5 v6 v7 v8 v9 v10 v11 h hF g0 g1 g2 g3 g4 g5 gc0 gc1 hm
        exfalso; omega
      · intro v5 v6 v7 v8 v9 v10 v11 h hF g0 g1 g2 g3 g4 g5 gc0 gc1 hm
        exfalso; omega
    | succ N ih =>
      obtain ⟨k6, k35, k85, k126⟩ := ih
      refine ⟨?_, ?_, ?_, ?_⟩
      · intro v5 v6 h hF g0 g1 gc0 hm
        refine zW_iload (pc' := 8) dX3_medianAt_0.1.2.1.1 rfl rfl ?_
        refine zW_iconst (pc' := 9) dX3_medianAt_0.1.2.1.2 rfl ?_
        refine zV_cm_gt (tgt := 150) (pc' := 12) dX3_medianAt_0.1.2.2.1 rfl rfl ⟨by omega, by omega⟩ ⟨by omega, by omega⟩ (fun c9 => ?_) (fun c9 => ?_)
        · refine zW_aload_n (pc' := 151) dX3_medianAt_5.1.1.1 rfl rfl ?_
          refine zG_ref (pc' := 154) 94 fg_X3_20 tb87 rfl dX3_medianAt_5.1.1.2 rfl ?_
          refine zW_iconst (pc' := 155) dX3_medianAt_5.1.2 rfl ?_
          refine zV_iald (pc' := 156) tb94 (by omega) dX3_medianAt_5.2.1 (by decide) rfl ?_
          exact zV_iret rfl dX3_medianAt_5.2.2 ⟨hF, trivial⟩
        · refine zW_iload (pc' := 14) dX3_medianAt_0.1.2.2.2 rfl rfl ?_
          refine zW_iload (pc' := 16) dX3_medianAt_0.2.1.1.1 rfl rfl ?_
          refine zW_iadd (pc' := 17) dX3_medianAt_0.2.1.1.2 rfl ?_
          refine zW_aload_n (pc' := 18) dX3_medianAt_0.2.1.2.1 rfl rfl ?_
          refine zG_ref (pc' := 21) 33 fg_X3_23 tb87 rfl dX3_medianAt_0.2.1.2.2 rfl ?_
          refine zG_key (pc' := 24) hF rfl fg_X3_42 tb33 rfl dX3_medianAt_0.2.2.1.1 rfl ?_
          refine csI2 (pc' := 27) kX11_mirrored vX11_mirrored lk_X3_59 ⟨Nat.le_of_ble_eq_true rfl, Nat.le_of_ble_eq_true rfl⟩ rfl (s_X11_mirrored hF _ ⟨by omega, by omega⟩ _ ⟨by omega, by omega⟩ (by omega)) dX3_medianAt_0.2.2.1.2 (Nat.le_of_ble_eq_true rfl) rfl ?_
          rintro r24 z24 ⟨hz24, p24⟩; subst z24
          refine zW_bipush (pc' := 29) dX3_medianAt_0.2.2.2.1 rfl rfl ?_
          refine zW_imul (pc' := 30) dX3_medianAt_0.2.2.2.2 rfl ?_
          refine zW_istore (ls' := [_, _, _, _, _, _, _, _, _, _, _, _]) (pc' := 32) dX3_medianAt_1.1.1.1.1 (by decide) rfl rfl rfl ?_
          refine zW_iconst (pc' := 33) dX3_medianAt_1.1.1.1.2 rfl ?_
          refine zW_istore (ls' := [_, _, _, _, _, _, _, _, _, _, _, _]) (pc' := 35) dX3_medianAt_1.1.1.2.1 (by decide) rfl rfl rfl ?_
          exact k35 _ _ _ _ _ hF (by omega) (by omega) (by omega) (by omega) (by omega) (by omega)
      · intro v5 v6 v7 v8 h hF g0 g1 g2 g3 gc0 hm
        refine zW_iload (pc' := 37) dX3_medianAt_1.1.1.2.2 rfl rfl ?_
        refine zW_iconst (pc' := 38) dX3_medianAt_1.1.2.1.1 rfl ?_
        refine zV_cm_gt (tgt := 144) (pc' := 41) dX3_medianAt_1.1.2.1.2 rfl rfl ⟨by omega, by omega⟩ ⟨by omega, by omega⟩ (fun c38 => ?_) (fun c38 => ?_)
        · refine zW_iinc (ls' := [_, _, _, _, _, _, _, _, _, _, _, _]) (pc' := 147) dX3_medianAt_4.2.2.2.1 rfl (by decide) rfl rfl rfl ?_
          refine zV_goto 6 dX3_medianAt_4.2.2.2.2 rfl ?_
          refine zV_clr 7 (ls' := [_, _, _, _, _, _, _, _, _, _, _, _]) rfl ?_
          refine zV_clr 8 (ls' := [_, _, _, _, _, _, _, _, _, _, _, _]) rfl ?_
          exact k6 _ _ _ hF (by omega) (by omega) (by omega) (by omega)
        · refine zW_iload (pc' := 43) dX3_medianAt_1.1.2.2.1 rfl rfl ?_
          refine zW_iload_n (pc' := 44) dX3_medianAt_1.1.2.2.2 rfl rfl ?_
          refine zW_iload (pc' := 46) dX3_medianAt_1.2.1.1.1 rfl rfl ?_
          refine zW_iadd (pc' := 47) dX3_medianAt_1.2.1.1.2 rfl ?_
          refine zW_aload_n (pc' := 48) dX3_medianAt_1.2.1.2.1 rfl rfl ?_
          refine zG_ref (pc' := 51) 33 fg_X3_23 tb87 rfl dX3_medianAt_1.2.1.2.2 rfl ?_
          refine zG_key (pc' := 54) hF rfl fg_X3_48 tb33 rfl dX3_medianAt_1.2.2.1.1 rfl ?_
          refine csI2 (pc' := 57) kX11_mirrored vX11_mirrored lk_X3_59 ⟨Nat.le_of_ble_eq_true rfl, Nat.le_of_ble_eq_true rfl⟩ rfl (s_X11_mirrored hF _ ⟨by omega, by omega⟩ _ ⟨by omega, by omega⟩ (by omega)) dX3_medianAt_1.2.2.1.2 (Nat.le_of_ble_eq_true rfl) rfl ?_
          rintro r54 z54 ⟨hz54, p54⟩; subst z54
          refine zW_iadd (pc' := 58) dX3_medianAt_1.2.2.2.1 rfl ?_
          refine zW_istore (ls' := [_, _, _, _, _, _, _, _, _, _, _, _]) (pc' := 60) dX3_medianAt_1.2.2.2.2 (by decide) rfl rfl rfl ?_
          refine zW_aload_n (pc' := 61) dX3_medianAt_2.1.1.1.1 rfl rfl ?_
          refine zW_iload_n (pc' := 62) dX3_medianAt_2.1.1.1.2 rfl rfl ?_
          refine zW_sipush (pc' := 65) dX3_medianAt_2.1.1.2.1 rfl rfl ?_
          refine zW_imul (pc' := 66) dX3_medianAt_2.1.1.2.2 rfl ?_
          refine zW_iload (pc' := 68) dX3_medianAt_2.1.2.1.1 rfl rfl ?_
          refine zW_iadd (pc' := 69) dX3_medianAt_2.1.2.1.2 rfl ?_
          refine zV_iald (pc' := 70) (tabL (by omega) (by omega)) (by omega) dX3_medianAt_2.1.2.2.1 (by decide) rfl ?_
          refine zW_aload_n (pc' := 71) dX3_medianAt_2.1.2.2.2 rfl rfl ?_
          refine zW_sipush (pc' := 74) dX3_medianAt_2.2.1.1.1 rfl rfl ?_
          refine zW_iload (pc' := 76) dX3_medianAt_2.2.1.1.2 rfl rfl ?_
          refine zW_iadd (pc' := 77) dX3_medianAt_2.2.1.2.1 rfl ?_
          refine zV_iald (pc' := 78) (tabL (by omega) (by omega)) (by omega) dX3_medianAt_2.2.1.2.2 (by decide) rfl ?_
          refine zW_isub (pc' := 79) dX3_medianAt_2.2.2.1.1 rfl ?_
          refine zW_istore (ls' := [_, _, _, _, _, _, _, _, _, _, _, _]) (pc' := 81) dX3_medianAt_2.2.2.1.2 (by decide) rfl rfl rfl ?_
          refine zW_iload (pc' := 83) dX3_medianAt_2.2.2.2.1 rfl rfl ?_
          refine zW_istore (ls' := [_, _, _, _, _, _, _, _, _, _, _, _]) (pc' := 85) dX3_medianAt_2.2.2.2.2 (by decide) rfl rfl rfl ?_
          exact k85 _ _ _ _ _ _ _ _ hF (by omega) (by omega) (by omega) (by omega) (by omega) (by omega) (by omega) (by omega) (by omega)
      · intro v5 v6 v7 v8 v9 v10 v11 h hF g0 g1 g2 g3 g4 g5 gc0 gc1 hm
        refine zW_iload (pc' := 87) dX3_medianAt_3.1.1.1.1 rfl rfl ?_
        refine zV_if_le (tgt := 126) (pc' := 90) dX3_medianAt_3.1.1.1.2 rfl rfl ⟨by omega, by omega⟩ (fun c87 => ?_) (fun c87 => ?_)
        · exact k126 _ _ _ _ _ _ _ _ hF (by omega) (by omega) (by omega) (by omega) (by omega) (by omega) (by omega) (by omega) (by omega)
        · refine zW_aload_n (pc' := 91) dX3_medianAt_3.1.1.2.1 rfl rfl ?_
          refine zG_ref (pc' := 94) 94 fg_X3_20 tb87 rfl dX3_medianAt_3.1.1.2.2 rfl ?_
          refine zW_iload (pc' := 96) dX3_medianAt_3.1.2.1.1 rfl rfl ?_
          refine zW_iconst (pc' := 97) dX3_medianAt_3.1.2.1.2 rfl ?_
          refine zW_isub (pc' := 98) dX3_medianAt_3.1.2.2.1 rfl ?_
          refine zV_iald (pc' := 99) tb94 (by omega) dX3_medianAt_3.1.2.2.2 (by decide) rfl ?_
          refine zW_iload (pc' := 101) dX3_medianAt_3.2.1.1.1 rfl rfl ?_
          refine zV_cmQ_le (tgt := 126) (pc' := 104) dX3_medianAt_3.2.1.1.2 rfl rfl ?_ ?_
          · exact k126 _ _ _ _ _ _ _ _ hF (by omega) (by omega) (by omega) (by omega) (by omega) (by omega) (by omega) (by omega) (by omega)
          · refine zW_aload_n (pc' := 105) dX3_medianAt_3.2.1.2.1 rfl rfl ?_
            refine zG_ref (pc' := 108) 94 fg_X3_20 tb87 rfl dX3_medianAt_3.2.1.2.2 rfl ?_
            refine zW_iload (pc' := 110) dX3_medianAt_3.2.2.1.1 rfl rfl ?_
            refine zW_aload_n (pc' := 111) dX3_medianAt_3.2.2.1.2 rfl rfl ?_
            refine zG_ref (pc' := 114) 94 fg_X3_20 tb87 rfl dX3_medianAt_3.2.2.2.1 rfl ?_
            refine zW_iload (pc' := 116) dX3_medianAt_3.2.2.2.2 rfl rfl ?_
            refine zW_iconst (pc' := 117) dX3_medianAt_4.1.1.1.1 rfl ?_
            refine zW_isub (pc' := 118) dX3_medianAt_4.1.1.1.2 rfl ?_
            refine zV_iald (pc' := 119) tb94 (by omega) dX3_medianAt_4.1.1.2.1 (by decide) rfl ?_
            refine zS_i (pc' := 120) hF rfl tb94 (by omega) dX3_medianAt_4.1.1.2.2 (by decide) rfl (fun h i119 hF a119 b119 w119 => ?_)
            refine zW_iinc (ls' := [_, _, _, _, _, _, _, _, _, _, _, _]) (pc' := 123) dX3_medianAt_4.1.2.1.1 rfl (by decide) rfl rfl rfl ?_
            refine zV_goto 85 dX3_medianAt_4.1.2.1.2 rfl ?_
            exact k85 _ _ _ _ _ _ _ _ hF (by omega) (by omega) (by omega) (by omega) (by omega) (by omega) (by omega) (by omega) (by omega)
      · intro v5 v6 v7 v8 v9 v10 v11 h hF g0 g1 g2 g3 g4 g5 gc0 gc1 hm
        refine zW_aload_n (pc' := 127) dX3_medianAt_4.1.2.2.1 rfl rfl ?_
        refine zG_ref (pc' := 130) 94 fg_X3_20 tb87 rfl dX3_medianAt_4.1.2.2.2 rfl ?_
        refine zW_iload (pc' := 132) dX3_medianAt_4.2.1.1.1 rfl rfl ?_
        refine zW_iload (pc' := 134) dX3_medianAt_4.2.1.1.2 rfl rfl ?_
        refine zS_i (pc' := 135) hF rfl tb94 (by omega) dX3_medianAt_4.2.1.2.1 (by decide) rfl (fun h i134 hF a134 b134 w134 => ?_)
        refine zW_iinc (ls' := [_, _, _, _, _, _, _, _, _, _, _, _]) (pc' := 138) dX3_medianAt_4.2.1.2.2 rfl (by decide) rfl rfl rfl ?_
        refine zW_iinc (ls' := [_, _, _, _, _, _, _, _, _, _, _, _]) (pc' := 141) dX3_medianAt_4.2.2.1.1 rfl (by decide) rfl rfl rfl ?_
        refine zV_goto 35 dX3_medianAt_4.2.2.1.2 rfl ?_
        refine zV_clr 9 (ls' := [_, _, _, _, _, _, _, _, _, _, _, _]) rfl ?_
        refine zV_clr 10 (ls' := [_, _, _, _, _, _, _, _, _, _, _, _]) rfl ?_
        refine zV_clr 11 (ls' := [_, _, _, _, _, _, _, _, _, _, _, _]) rfl ?_
        exact k35 _ _ _ _ _ hF (by omega) (by omega) (by omega) (by omega) (by omega) (by omega)
  refine zM_of [some (.inr (.inr 87)), some (.inr (.inr l1)), some (.inl x2), some (.inl x3), some (.inl x4), none, none, none, none, none, none, none] 7 rfl rfl (Nat.le_of_ble_eq_true rfl) rfl ?_
  refine zW_iconst (pc' := 1) dX3_medianAt_0.1.1.1.1 rfl ?_
  refine zW_istore (ls' := [_, _, _, _, _, _, _, _, _, _, _, _]) (pc' := 3) dX3_medianAt_0.1.1.1.2 (by decide) rfl rfl rfl ?_
  refine zW_iconst (pc' := 4) dX3_medianAt_0.1.1.2.1 rfl ?_
  refine zW_istore (ls' := [_, _, _, _, _, _, _, _, _, _, _, _]) (pc' := 6) dX3_medianAt_0.1.1.2.2 (by decide) rfl rfl rfl ?_
  exact (main 10000000000000000000000000000000000000000).1 _ _ _ hF (by omega) (by omega) (by omega) (by omega)

abbrev q_X3_voteColour (b : Bd) (κ : Hp) (l1 : Nat) (x2 : Int) : Int → Hp → Prop := fun r h' => Fr b κ h' ∧ (True)
set_option maxHeartbeats 4000000 in
set_option maxRecDepth 20000 in
theorem s_X3_voteColour {G : Ga} {b : Bd} {κ h : Hp} (hK : KC κ) (hF : Fr b κ h) (l1 : Nat) (hl1 : 71 ≤ l1 ∧ l1 ≤ 85) (x2 : Int) (hx2 : 0 ≤ x2 ∧ x2 ≤ 2) (hto : OkL b l1) : zM G mX3_voteColour yX3_voteColour [.inr (.inr 87), .inr (.inr l1), .inl x2] h (q_X3_voteColour b κ l1 x2) := by
  have f_33_0 := KCw hK
  have f_33_1 := KCh hK
  have main : ∀ N : Nat, (∀ (v3 : Int) (h : Hp), Fr b κ h → (0 ≤ v3 ∧ v3 ≤ 16) → (v3 - κ 33 1 ≤ 0) → 28090800 + 31212 * (16 - v3) + 30600 < (N : Int) → zV G mX3_voteColour (q_X3_voteColour b κ l1 x2) 2 [some (.inr (.inr 87)), some (.inr (.inr l1)), some (.inl x2), some (.inl v3), none, none] [] h) ∧ (∀ (v3 v4 : Int) (h : Hp), Fr b κ h → (0 ≤ v3 ∧ v3 ≤ 15) → (v3 - κ 33 1 ≤ -1) → (0 ≤ v4 ∧ v4 ≤ 16) → (v4 - κ 33 0 ≤ 0) → 28090800 + 31212 * (16 - v3) + 20196 + 34 * (16 - v4) + 33 < (N : Int) → zV G mX3_voteColour (q_X3_voteColour b κ l1 x2) 16 [some (.inr (.inr 87)), some (.inr (.inr l1)), some (.inl x2), some (.inl v3), some (.inl v4), none] [] h) := by
    intro N
    induction N with
    | zero =>
      refine ⟨?_, ?_⟩
      · intro v3 h hF g0 g1 hm
        exfalso; omega
      · intro v3 v4 h hF g0 g1 g2 g3 hm
        exfalso; omega
    | succ N ih =>
      obtain ⟨k2, k16⟩ := ih
      refine ⟨?_, ?_⟩
      · intro v3 h hF g0 g1 hm
        refine zW_iload_n (pc' := 3) dX3_voteColour_0.1.1.2.1 rfl rfl ?_
        refine zW_aload_n (pc' := 4) dX3_voteColour_0.1.1.2.2 rfl rfl ?_
        refine zG_ref (pc' := 7) 33 fg_X3_23 tb87 rfl dX3_voteColour_0.1.2.1.1 rfl ?_
        refine zG_key (pc' := 10) hF rfl fg_X3_42 tb33 rfl dX3_voteColour_0.1.2.1.2 rfl ?_
        refine zV_cm_ge (tgt := 77) (pc' := 13) dX3_voteColour_0.1.2.2.1 rfl rfl ⟨by omega, by omega⟩ ⟨by omega, by omega⟩ (fun c10 => ?_) (fun c10 => ?_)
        · refine zW_aload_n (pc' := 78) dX3_voteColour_2.2.1.1.2 rfl rfl ?_
          refine zG_ref (pc' := 81) 88 fg_X3_9 tb87 rfl dX3_voteColour_2.2.1.2.1 rfl ?_
          refine zW_iconst (pc' := 82) dX3_voteColour_2.2.1.2.2 rfl ?_
          refine zW_aload_n (pc' := 83) dX3_voteColour_2.2.2.1.1 rfl rfl ?_
          refine zW_iload_n (pc' := 84) dX3_voteColour_2.2.2.1.2 rfl rfl ?_
          refine zW_sipush (pc' := 87) dX3_voteColour_2.2.2.2.1 rfl rfl ?_
          refine zW_imul (pc' := 88) dX3_voteColour_2.2.2.2.2 rfl ?_
          refine zW_sipush (pc' := 91) dX3_voteColour_3.1.1 rfl rfl ?_
          refine zV_acopy (pc' := 94) tb88 (tabL (by omega) (by omega)) (by omega) (by omega) (by omega) (by omega) (by decide) (by decide) ka_X3_32 (Nat.le_of_ble_eq_true rfl) (Nat.le_of_ble_eq_true rfl) dX3_voteColour_3.1.2 rfl ?_
          refine (show ∀ h : Hp, Fr b κ h → zV _ _ _ _ _ _ h from fun h hF => ?_) _ (hF.zcL (by omega) hto (by decide))
          exact zV_vret rfl dX3_voteColour_3.2 ⟨hF, trivial⟩
        · refine zW_iconst (pc' := 14) dX3_voteColour_0.1.2.2.2 rfl ?_
          refine zW_istore (ls' := [_, _, _, _, _, _]) (pc' := 16) dX3_voteColour_0.2.1.1.1 (by decide) rfl rfl rfl ?_
          exact k16 _ _ _ hF (by omega) (by omega) (by omega) (by omega) (by omega)
      · intro v3 v4 h hF g0 g1 g2 g3 hm
        refine zW_iload (pc' := 18) dX3_voteColour_0.2.1.1.2 rfl rfl ?_
        refine zW_aload_n (pc' := 19) dX3_voteColour_0.2.1.2.1 rfl rfl ?_
        refine zG_ref (pc' := 22) 33 fg_X3_23 tb87 rfl dX3_voteColour_0.2.1.2.2 rfl ?_
        refine zG_key (pc' := 25) hF rfl fg_X3_48 tb33 rfl dX3_voteColour_0.2.2.1.1 rfl ?_
        refine zV_cm_ge (tgt := 71) (pc' := 28) dX3_voteColour_0.2.2.1.2 rfl rfl ⟨by omega, by omega⟩ ⟨by omega, by omega⟩ (fun c25 => ?_) (fun c25 => ?_)
        · refine zW_iinc (ls' := [_, _, _, _, _, _]) (pc' := 74) dX3_voteColour_2.1.2.2.2 rfl (by decide) rfl rfl rfl ?_
          refine zV_goto 2 dX3_voteColour_2.2.1.1.1 rfl ?_
          refine zV_clr 4 (ls' := [_, _, _, _, _, _]) rfl ?_
          exact k2 _ _ hF (by omega) (by omega) (by omega)
        · refine zW_iload_n (pc' := 29) dX3_voteColour_0.2.2.2.1 rfl rfl ?_
          refine zW_bipush (pc' := 31) dX3_voteColour_0.2.2.2.2 rfl rfl ?_
          refine zW_imul (pc' := 32) dX3_voteColour_1.1.1.1.1 rfl ?_
          refine zW_iload (pc' := 34) dX3_voteColour_1.1.1.1.2 rfl rfl ?_
          refine zW_iadd (pc' := 35) dX3_voteColour_1.1.1.2.1 rfl ?_
          refine zW_istore (ls' := [_, _, _, _, _, _]) (pc' := 37) dX3_voteColour_1.1.1.2.2 (by decide) rfl rfl rfl ?_
          refine zW_aload_n (pc' := 38) dX3_voteColour_1.1.2.1.1 rfl rfl ?_
          refine zG_ref (pc' := 41) 88 fg_X3_9 tb87 rfl dX3_voteColour_1.1.2.1.2 rfl ?_
          refine zW_iload (pc' := 43) dX3_voteColour_1.1.2.2.1 rfl rfl ?_
          refine zW_aload_n (pc' := 44) dX3_voteColour_1.1.2.2.2 rfl rfl ?_
          refine zW_sipush (pc' := 47) dX3_voteColour_1.2.1.1.1 rfl rfl ?_
          refine zW_iload (pc' := 49) dX3_voteColour_1.2.1.1.2 rfl rfl ?_
          refine zW_iadd (pc' := 50) dX3_voteColour_1.2.1.2.1 rfl ?_
          refine zV_iald (pc' := 51) (tabL (by omega) (by omega)) (by omega) dX3_voteColour_1.2.1.2.2 (by decide) rfl ?_
          refine zW_aload_n (pc' := 52) dX3_voteColour_1.2.2.1.1 rfl rfl ?_
          refine zW_aload_n (pc' := 53) dX3_voteColour_1.2.2.1.2 rfl rfl ?_
          refine zW_iload_n (pc' := 54) dX3_voteColour_1.2.2.2.1 rfl rfl ?_
          refine zW_iload (pc' := 56) dX3_voteColour_1.2.2.2.2 rfl rfl ?_
          refine zW_iload_n (pc' := 57) dX3_voteColour_2.1.1.1.1 rfl rfl ?_
          refine cvI4 (pc' := 60) kX3_medianAt vX3_medianAt lk_X3_51 ⟨Nat.le_of_ble_eq_true rfl, Nat.le_of_ble_eq_true rfl⟩ tb87 vq3 rfl rfl (s_X3_medianAt hK hF _ ⟨by omega, by omega⟩ _ ⟨by omega, by omega⟩ _ ⟨by omega, by omega, by omega⟩ _ ⟨by omega, by omega, by omega⟩) dX3_voteColour_2.1.1.1.2 (Nat.le_of_ble_eq_true rfl) rfl ?_
          rintro r57 h ⟨hF, p57⟩
          refine zW_iadd (pc' := 61) dX3_voteColour_2.1.1.2.1 rfl ?_
          refine csI1 (pc' := 64) kX11_clipped vX11_clipped lk_X3_55 ⟨Nat.le_of_ble_eq_true rfl, Nat.le_of_ble_eq_true rfl⟩ rfl (s_X11_clipped hF _) dX3_voteColour_2.1.1.2.2 (Nat.le_of_ble_eq_true rfl) rfl ?_
          rintro r61 z61 ⟨hz61, p61⟩; subst z61
          refine zS_i (pc' := 65) hF rfl tb88 (by omega) dX3_voteColour_2.1.2.1.1 (by decide) rfl (fun h i64 hF a64 b64 w64 => ?_)
          refine zW_iinc (ls' := [_, _, _, _, _, _]) (pc' := 68) dX3_voteColour_2.1.2.1.2 rfl (by decide) rfl rfl rfl ?_
          refine zV_goto 16 dX3_voteColour_2.1.2.2.1 rfl ?_
          refine zV_clr 5 (ls' := [_, _, _, _, _, _]) rfl ?_
          exact k16 _ _ _ hF (by omega) (by omega) (by omega) (by omega) (by omega)
  refine zM_of [some (.inr (.inr 87)), some (.inr (.inr l1)), some (.inl x2), none, none, none] 3 rfl rfl (Nat.le_of_ble_eq_true rfl) rfl ?_
  refine zW_iconst (pc' := 1) dX3_voteColour_0.1.1.1.1 rfl ?_
  refine zW_istore_n (ls' := [_, _, _, _, _, _]) (pc' := 2) dX3_voteColour_0.1.1.1.2 (by decide) rfl rfl rfl ?_
  exact (main 10000000000000000000000000000000000000000).1 _ _ hF (by omega) (by omega) (by omega)

abbrev q_X3_voteDown (b : Bd) (κ : Hp) (s1 : Nat) (s2 : Nat) (x3 : Int) : Int → Hp → Prop := fun r h' => Fr b κ h' ∧ (True)
set_option maxHeartbeats 4000000 in
set_option maxRecDepth 20000 in
theorem s_X3_voteDown {G : Ga} {b : Bd} {κ h : Hp} (hK : KC κ) (hF : Fr b κ h) (s1 : Nat) (hs1 : 56 ≤ s1 ∧ s1 ≤ 70) (s2 : Nat) (hs2 : 56 ≤ s2 ∧ s2 ≤ 70) (x3 : Int) (hx3 : rng x3) (hto : OkL b (s2 + 15)) : zM G mX3_voteDown yX3_voteDown [.inr (.inr 87), .inr (.inr s1), .inr (.inr s2), .inl x3] h (q_X3_voteDown b κ s1 s2 x3) := by
  unfold rng at hx3
  have main : ∀ N : Nat, (∀ (v4 : Int) (h : Hp), Fr b κ h → (0 ≤ v4 ∧ v4 ≤ 2147483647) → 657129996594 + 18 * (2147483647 - v4) + 17 < (N : Int) → zV G mX3_voteDown (q_X3_voteDown b κ s1 s2 x3) 19 [some (.inr (.inr 87)), some (.inr (.inr s1)), some (.inr (.inr s2)), some (.inl x3), some (.inl v4)] [] h) := by
    intro N
    induction N with
    | zero =>
      intro v4 h hF g0 hm
      exfalso; omega
    | succ N ih =>
      have k19 := ih
      intro v4 h hF g0 hm
      refine zW_iload (pc' := 21) dX3_voteDown_0.2.1.2.1 rfl rfl ?_
      refine zW_iload_n (pc' := 22) dX3_voteDown_0.2.1.2.2 rfl rfl ?_
      refine zV_cm_ge (tgt := 49) (pc' := 25) dX3_voteDown_0.2.2.1.1 rfl rfl ⟨by omega, by omega⟩ ⟨by omega, by omega⟩ (fun c22 => ?_) (fun c22 => ?_)
      · exact zV_vret rfl dX3_voteDown_1.2.2.2 ⟨hF, trivial⟩
      · refine zW_aload_n (pc' := 26) dX3_voteDown_0.2.2.1.2 rfl rfl ?_
        refine zW_aload_n (pc' := 27) dX3_voteDown_0.2.2.2.1 rfl rfl ?_
        refine zG_lev (pc' := 30) (by omega) (by omega) fg_X3_27 dX3_voteDown_0.2.2.2.2 rfl ?_
        refine zW_iconst (pc' := 31) dX3_voteDown_1.1.1.1.1 rfl ?_
        refine cvV2 (pc' := 34) kX3_voteColour vX3_voteColour lk_X3_38 ⟨Nat.le_of_ble_eq_true rfl, Nat.le_of_ble_eq_true rfl⟩ tb87 vq3 rfl rfl (s_X3_voteColour hK hF _ ⟨by omega, by omega⟩ _ ⟨by omega, by omega⟩ hto) dX3_voteDown_1.1.1.1.2 (Nat.le_of_ble_eq_true rfl) rfl ?_
        rintro r31 h ⟨hF, p31⟩
        refine zW_aload_n (pc' := 35) dX3_voteDown_1.1.1.2 rfl rfl ?_
        refine zW_aload_n (pc' := 36) dX3_voteDown_1.1.2.1 rfl rfl ?_
        refine zG_lev (pc' := 39) (by omega) (by omega) fg_X3_27 dX3_voteDown_1.1.2.2 rfl ?_
        refine zW_iconst (pc' := 40) dX3_voteDown_1.2.1.1.1 rfl ?_
        refine cvV2 (pc' := 43) kX3_voteColour vX3_voteColour lk_X3_38 ⟨Nat.le_of_ble_eq_true rfl, Nat.le_of_ble_eq_true rfl⟩ tb87 vq3 rfl rfl (s_X3_voteColour hK hF _ ⟨by omega, by omega⟩ _ ⟨by omega, by omega⟩ hto) dX3_voteDown_1.2.1.1.2 (Nat.le_of_ble_eq_true rfl) rfl ?_
        rintro r40 h ⟨hF, p40⟩
        refine zW_iinc (ls' := [_, _, _, _, _]) (pc' := 46) dX3_voteDown_1.2.1.2 rfl (by decide) rfl rfl rfl ?_
        refine zV_goto 19 dX3_voteDown_1.2.2.1 rfl ?_
        exact k19 _ _ hF (by omega) (by omega)
  refine zM_of [some (.inr (.inr 87)), some (.inr (.inr s1)), some (.inr (.inr s2)), some (.inl x3), none] 1 rfl rfl (Nat.le_of_ble_eq_true rfl) rfl ?_
  refine zW_aload_n (pc' := 1) dX3_voteDown_0.1.1.1.1 rfl rfl ?_
  refine zG_lev (pc' := 4) (by omega) (by omega) fg_X3_27 dX3_voteDown_0.1.1.1.2 rfl ?_
  refine zW_iconst (pc' := 5) dX3_voteDown_0.1.1.2.1 rfl ?_
  refine zW_aload_n (pc' := 6) dX3_voteDown_0.1.1.2.2 rfl rfl ?_
  refine zG_lev (pc' := 9) (by omega) (by omega) fg_X3_27 dX3_voteDown_0.1.2.1.1 rfl ?_
  refine zW_iconst (pc' := 10) dX3_voteDown_0.1.2.1.2 rfl ?_
  refine zW_sipush (pc' := 13) dX3_voteDown_0.1.2.2.1 rfl rfl ?_
  refine zV_acopy (pc' := 16) (tabL (by omega) (by omega)) (tabL (by omega) (by omega)) (by omega) (by omega) (by omega) (by omega) (by decide) (by decide) ka_X3_32 (Nat.le_of_ble_eq_true rfl) (Nat.le_of_ble_eq_true rfl) dX3_voteDown_0.1.2.2.2 rfl ?_
  refine (show ∀ h : Hp, Fr b κ h → zV _ _ _ _ _ _ h from fun h hF => ?_) _ (hF.zcL (by omega) hto ⟨by omega, by omega⟩)
  refine zW_iconst (pc' := 17) dX3_voteDown_0.2.1.1.1 rfl ?_
  refine zW_istore (ls' := [_, _, _, _, _]) (pc' := 19) dX3_voteDown_0.2.1.1.2 (by decide) rfl rfl rfl ?_
  exact (main 10000000000000000000000000000000000000000) _ _ hF (by omega) (by omega)

abbrev q_X3_isGrey (κ h : Hp) (l1 : Nat) (x2 : Int) (x3 : Int) : Int → Hp → Prop := fun r h' => h' = h ∧ ((0 ≤ r) ∧ (r ≤ 1))
set_option maxHeartbeats 4000000 in
set_option maxRecDepth 20000 in
theorem s_X3_isGrey {G : Ga} {b : Bd} {κ h : Hp} (hF : Fr b κ h) (l1 : Nat) (hl1 : 71 ≤ l1 ∧ l1 ≤ 85) (x2 : Int) (hx2 : 0 ≤ x2 ∧ x2 ≤ 255) (x3 : Int) : zM G mX3_isGrey yX3_isGrey [.inr (.inr 87), .inr (.inr l1), .inl x2, .inl x3] h (q_X3_isGrey κ h l1 x2 x3) := by
  refine zM_of [some (.inr (.inr 87)), some (.inr (.inr l1)), some (.inl x2), some (.inl x3), none, none] 2 rfl rfl (Nat.le_of_ble_eq_true rfl) rfl ?_
  refine zW_aload_n (pc' := 1) dX3_isGrey_0.1.1.1.1 rfl rfl ?_
  refine zW_iload_n (pc' := 2) dX3_isGrey_0.1.1.1.2 rfl rfl ?_
  refine csI2 (pc' := 5) kX11_leastOf vX11_leastOf lk_X3_79 ⟨Nat.le_of_ble_eq_true rfl, Nat.le_of_ble_eq_true rfl⟩ rfl (s_X11_leastOf hF _ ⟨by omega, by omega⟩ _ ⟨by omega, by omega⟩) dX3_isGrey_0.1.1.2.1 (Nat.le_of_ble_eq_true rfl) rfl ?_
  rintro r2 z2 ⟨hz2, p2⟩; subst z2
  refine zW_istore (ls' := [_, _, _, _, _, _]) (pc' := 7) dX3_isGrey_0.1.1.2.2 (by decide) rfl rfl rfl ?_
  refine zW_aload_n (pc' := 8) dX3_isGrey_0.1.2.1.1 rfl rfl ?_
  refine zW_iload_n (pc' := 9) dX3_isGrey_0.1.2.1.2 rfl rfl ?_
  refine csI2 (pc' := 12) kX11_greatestOf vX11_greatestOf lk_X3_83 ⟨Nat.le_of_ble_eq_true rfl, Nat.le_of_ble_eq_true rfl⟩ rfl (s_X11_greatestOf hF _ ⟨by omega, by omega⟩ _ ⟨by omega, by omega⟩) dX3_isGrey_0.1.2.2.1 (Nat.le_of_ble_eq_true rfl) rfl ?_
  rintro r9 z9 ⟨hz9, p9⟩; subst z9
  refine zW_istore (ls' := [_, _, _, _, _, _]) (pc' := 14) dX3_isGrey_0.1.2.2.2 (by decide) rfl rfl rfl ?_
  refine zW_iload (pc' := 16) dX3_isGrey_0.2.1.1.1 rfl rfl ?_
  refine zW_bipush (pc' := 18) dX3_isGrey_0.2.1.1.2 rfl rfl ?_
  refine zV_cmQ_lt (tgt := 45) (pc' := 21) dX3_isGrey_0.2.1.2.1 rfl rfl ?_ ?_
  · refine zW_iconst (pc' := 46) dX3_isGrey_1.2.2.1 rfl ?_
    exact zV_zret rfl (by omega) dX3_isGrey_1.2.2.2 ⟨rfl, by omega⟩
  · refine zW_iload (pc' := 23) dX3_isGrey_0.2.1.2.2 rfl rfl ?_
    refine zW_sipush (pc' := 26) dX3_isGrey_0.2.2.1.1 rfl rfl ?_
    refine zV_cmQ_gt (tgt := 45) (pc' := 29) dX3_isGrey_0.2.2.1.2 rfl rfl ?_ ?_
    · refine zW_iconst (pc' := 46) dX3_isGrey_1.2.2.1 rfl ?_
      exact zV_zret rfl (by omega) dX3_isGrey_1.2.2.2 ⟨rfl, by omega⟩
    · refine zW_iload (pc' := 31) dX3_isGrey_0.2.2.2.1 rfl rfl ?_
      refine zW_iload (pc' := 33) dX3_isGrey_0.2.2.2.2 rfl rfl ?_
      refine zW_isub (pc' := 34) dX3_isGrey_1.1.1.1.1 rfl ?_
      refine zW_bipush (pc' := 36) dX3_isGrey_1.1.1.1.2 rfl rfl ?_
      refine zW_iload_n (pc' := 37) dX3_isGrey_1.1.1.2 rfl rfl ?_
      refine zW_imul (pc' := 38) dX3_isGrey_1.1.2.1 rfl ?_
      refine zV_cmQ_gt (tgt := 45) (pc' := 41) dX3_isGrey_1.1.2.2 rfl rfl ?_ ?_
      · refine zW_iconst (pc' := 46) dX3_isGrey_1.2.2.1 rfl ?_
        exact zV_zret rfl (by omega) dX3_isGrey_1.2.2.2 ⟨rfl, by omega⟩
      · refine zW_iconst (pc' := 42) dX3_isGrey_1.2.1.1 rfl ?_
        refine zV_goto 46 dX3_isGrey_1.2.1.2 rfl ?_
        exact zV_zret rfl (by omega) dX3_isGrey_1.2.2.2 ⟨rfl, by omega⟩

abbrev q_X3_gainOf (κ h : Hp) (x1 : Int) (x2 : Int) : Int → Hp → Prop := fun r h' => h' = h ∧ (True)
set_option maxHeartbeats 4000000 in
set_option maxRecDepth 20000 in
theorem s_X3_gainOf {G : Ga} {b : Bd} {κ h : Hp} (hF : Fr b κ h) (x1 : Int) (x2 : Int) (hx2 : rng x2) : zM G mX3_gainOf yX3_gainOf [.inr (.inr 87), .inl x1, .inl x2] h (q_X3_gainOf κ h x1 x2) := by
  unfold rng at hx2
  refine zM_of [some (.inr (.inr 87)), some (.inl x1), some (.inl x2)] 0 rfl rfl (Nat.le_of_ble_eq_true rfl) rfl ?_
  refine zW_iload_n (pc' := 1) dX3_gainOf_0.1.1.1.1 rfl rfl ?_
  refine zV_if_le (tgt := 25) (pc' := 4) dX3_gainOf_0.1.1.1.2 rfl rfl ⟨by omega, by omega⟩ (fun c1 => ?_) (fun c1 => ?_)
  · refine zW_sipush (pc' := 28) dX3_gainOf_0.2.2.1.2 rfl rfl ?_
    exact zV_iret rfl dX3_gainOf_0.2.2.2 ⟨rfl, trivial⟩
  · refine zW_bipush (pc' := 6) dX3_gainOf_0.1.1.2.1 rfl rfl ?_
    refine zW_sipush (pc' := 9) dX3_gainOf_0.1.1.2.2 rfl rfl ?_
    refine zW_sipush (pc' := 12) dX3_gainOf_0.1.2.1.1 rfl rfl ?_
    refine zW_iload_n (pc' := 13) dX3_gainOf_0.1.2.1.2 rfl rfl ?_
    refine zW_imul (pc' := 14) dX3_gainOf_0.1.2.2 rfl ?_
    refine zW_iload_n (pc' := 15) dX3_gainOf_0.2.1.1.1 rfl rfl ?_
    refine zW_idivQ (pc' := 16) ⟨by omega, by omega⟩ (by omega) dX3_gainOf_0.2.1.1.2 rfl (fun v15 e15 => ?_)
    unfold rng at e15
    refine zV_mmin (pc' := 19) km_X3_86 (Nat.le_of_ble_eq_true rfl) (Nat.le_of_ble_eq_true rfl) dX3_gainOf_0.2.1.2.1 rfl (fun v16 e16 => ?_)
    replace e16 := e16.2 ⟨by omega, by omega⟩ ⟨by omega, by omega⟩
    refine zV_mmax (pc' := 22) km_X3_91 (Nat.le_of_ble_eq_true rfl) (Nat.le_of_ble_eq_true rfl) dX3_gainOf_0.2.1.2.2 rfl (fun v19 e19 => ?_)
    replace e19 := e19.2 ⟨by omega, by omega⟩ ⟨by omega, by omega⟩
    refine zV_goto 28 dX3_gainOf_0.2.2.1.1 rfl ?_
    exact zV_iret rfl dX3_gainOf_0.2.2.2 ⟨rfl, trivial⟩

abbrev q_X3_findWhite (b : Bd) (κ : Hp) (s1 : Nat) (x2 : Int) : Int → Hp → Prop := fun r h' => Fr b κ h' ∧ (True)
set_option maxHeartbeats 4000000 in
set_option maxRecDepth 20000 in
theorem s_X3_findWhite {G : Ga} {b : Bd} {κ h : Hp} (hK : KC κ) (hF : Fr b κ h) (s1 : Nat) (hs1 : 56 ≤ s1 ∧ s1 ≤ 70) (x2 : Int) : zM G mX3_findWhite yX3_findWhite [.inr (.inr 87), .inr (.inr s1), .inl x2] h (q_X3_findWhite b κ s1 x2) := by
  have f_33_0 := KCw hK
  have f_33_1 := KCh hK
  have main : ∀ N : Nat, (∀ (v3 v4 v5 v6 : Int) (h : Hp), Fr b κ h → (rng v3) → (rng v4) → (rng v5) → (0 ≤ v6 ∧ v6 ≤ 16) → (v6 - κ 33 1 ≤ 0) → 98901000 + 74250 * (16 - v6) + 73260 < (N : Int) → zV G mX3_findWhite (q_X3_findWhite b κ s1 x2) 16 [some (.inr (.inr 87)), some (.inr (.inr s1)), some (.inl x2), some (.inl v3), some (.inl v4), some (.inl v5), some (.inl v6), none, none] [] h) ∧ (∀ (v3 v4 v5 v6 v7 : Int) (h : Hp), Fr b κ h → (rng v3) → (rng v4) → (rng v5) → (0 ≤ v6 ∧ v6 ≤ 15) → (v6 - κ 33 1 ≤ -1) → (0 ≤ v7 ∧ v7 ≤ 16) → (v7 - κ 33 0 ≤ 0) → 98901000 + 74250 * (16 - v6) + 53460 + 55 * (16 - v7) + 54 < (N : Int) → zV G mX3_findWhite (q_X3_findWhite b κ s1 x2) 31 [some (.inr (.inr 87)), some (.inr (.inr s1)), some (.inl x2), some (.inl v3), some (.inl v4), some (.inl v5), some (.inl v6), some (.inl v7), none] [] h) := by
    intro N
    induction N with
    | zero =>
      refine ⟨?_, ?_⟩
      · intro v3 v4 v5 v6 h hF g0 g1 g2 g3 g4 hm
        unfold rng at g0
        unfold rng at g1
        unfold rng at g2
        exfalso; omega
      · intro v3 v4 v5 v6 v7 h hF g0 g1 g2 g3 g4 g5 g6 hm
        unfold rng at g0
        unfold rng at g1
        unfold rng at g2
        exfalso; omega
    | succ N ih =>
      obtain ⟨k16, k31⟩ := ih
      refine ⟨?_, ?_⟩
      · intro v3 v4 v5 v6 h hF g0 g1 g2 g3 g4 hm
        unfold rng at g0
        unfold rng at g1
        unfold rng at g2
        refine zW_iload (pc' := 18) dX3_findWhite_0.2.1.2.2 rfl rfl ?_
        refine zW_aload_n (pc' := 19) dX3_findWhite_0.2.2.1.1 rfl rfl ?_
        refine zG_ref (pc' := 22) 33 fg_X3_23 tb87 rfl dX3_findWhite_0.2.2.1.2 rfl ?_
        refine zG_key (pc' := 25) hF rfl fg_X3_42 tb33 rfl dX3_findWhite_0.2.2.2.1 rfl ?_
        refine zV_cm_ge (tgt := 131) (pc' := 28) dX3_findWhite_0.2.2.2.2 rfl rfl ⟨by omega, by omega⟩ ⟨by omega, by omega⟩ (fun c25 => ?_) (fun c25 => ?_)
        · refine zW_aload_n (pc' := 132) dX3_findWhite_4.1.2.2.2 rfl rfl ?_
          refine zW_aload_n (pc' := 133) dX3_findWhite_4.2.1.1.1 rfl rfl ?_
          refine zW_iload (pc' := 135) dX3_findWhite_4.2.1.1.2 rfl rfl ?_
          refine zW_iload_n (pc' := 136) dX3_findWhite_4.2.1.2.1 rfl rfl ?_
          refine cvI2 (pc' := 139) kX3_gainOf vX3_gainOf lk_X3_70 ⟨Nat.le_of_ble_eq_true rfl, Nat.le_of_ble_eq_true rfl⟩ tb87 vq3 rfl rfl (s_X3_gainOf hF _ _ ⟨by omega, by omega⟩) dX3_findWhite_4.2.1.2.2 (Nat.le_of_ble_eq_true rfl) rfl ?_
          rintro r136 z136 ⟨hz136, p136⟩; subst z136
          refine zP_scf (pc' := 142) hF rfl fp_X3_73 tb87 rfl dX3_findWhite_4.2.2.1.1 rfl (fun h i139 hF a139 b139 w139 => ?_)
          refine zW_aload_n (pc' := 143) dX3_findWhite_4.2.2.1.2 rfl rfl ?_
          refine zW_aload_n (pc' := 144) dX3_findWhite_4.2.2.2.1 rfl rfl ?_
          refine zW_iload (pc' := 146) dX3_findWhite_4.2.2.2.2 rfl rfl ?_
          refine zW_iload (pc' := 148) dX3_findWhite_5.1.1 rfl rfl ?_
          refine cvI2 (pc' := 151) kX3_gainOf vX3_gainOf lk_X3_70 ⟨Nat.le_of_ble_eq_true rfl, Nat.le_of_ble_eq_true rfl⟩ tb87 vq3 rfl rfl (s_X3_gainOf hF _ _ ⟨by omega, by omega⟩) dX3_findWhite_5.1.2 (Nat.le_of_ble_eq_true rfl) rfl ?_
          rintro r148 z148 ⟨hz148, p148⟩; subst z148
          refine zP_scf (pc' := 154) hF rfl fp_X3_76 tb87 rfl dX3_findWhite_5.2.1 rfl (fun h i151 hF a151 b151 w151 => ?_)
          exact zV_vret rfl dX3_findWhite_5.2.2 ⟨hF, trivial⟩
        · refine zW_iconst (pc' := 29) dX3_findWhite_1.1.1.1.1 rfl ?_
          refine zW_istore (ls' := [_, _, _, _, _, _, _, _, _]) (pc' := 31) dX3_findWhite_1.1.1.1.2 (by decide) rfl rfl rfl ?_
          exact k31 _ _ _ _ _ _ hF ⟨by omega, by omega⟩ ⟨by omega, by omega⟩ ⟨by omega, by omega⟩ (by omega) (by omega) (by omega) (by omega) (by omega)
      · intro v3 v4 v5 v6 v7 h hF g0 g1 g2 g3 g4 g5 g6 hm
        unfold rng at g0
        unfold rng at g1
        unfold rng at g2
        refine zW_iload (pc' := 33) dX3_findWhite_1.1.1.2.1 rfl rfl ?_
        refine zW_aload_n (pc' := 34) dX3_findWhite_1.1.1.2.2 rfl rfl ?_
        refine zG_ref (pc' := 37) 33 fg_X3_23 tb87 rfl dX3_findWhite_1.1.2.1.1 rfl ?_
        refine zG_key (pc' := 40) hF rfl fg_X3_48 tb33 rfl dX3_findWhite_1.1.2.1.2 rfl ?_
        refine zV_cm_ge (tgt := 125) (pc' := 43) dX3_findWhite_1.1.2.2.1 rfl rfl ⟨by omega, by omega⟩ ⟨by omega, by omega⟩ (fun c40 => ?_) (fun c40 => ?_)
        · refine zW_iinc (ls' := [_, _, _, _, _, _, _, _, _]) (pc' := 128) dX3_findWhite_4.1.2.1.2 rfl (by decide) rfl rfl rfl ?_
          refine zV_goto 16 dX3_findWhite_4.1.2.2.1 rfl ?_
          refine zV_clr 7 (ls' := [_, _, _, _, _, _, _, _, _]) rfl ?_
          exact k16 _ _ _ _ _ hF ⟨by omega, by omega⟩ ⟨by omega, by omega⟩ ⟨by omega, by omega⟩ (by omega) (by omega) (by omega)
        · refine zW_iload (pc' := 45) dX3_findWhite_1.1.2.2.2 rfl rfl ?_
          refine zW_bipush (pc' := 47) dX3_findWhite_1.2.1.1.1 rfl rfl ?_
          refine zW_imul (pc' := 48) dX3_findWhite_1.2.1.1.2 rfl ?_
          refine zW_iload (pc' := 50) dX3_findWhite_1.2.1.2.1 rfl rfl ?_
          refine zW_iadd (pc' := 51) dX3_findWhite_1.2.1.2.2 rfl ?_
          refine zW_istore (ls' := [_, _, _, _, _, _, _, _, _]) (pc' := 53) dX3_findWhite_1.2.2.1.1 (by decide) rfl rfl rfl ?_
          refine zW_aload_n (pc' := 54) dX3_findWhite_1.2.2.1.2 rfl rfl ?_
          refine zW_aload_n (pc' := 55) dX3_findWhite_1.2.2.2.1 rfl rfl ?_
          refine zG_lev (pc' := 58) (by omega) (by omega) fg_X3_27 dX3_findWhite_1.2.2.2.2 rfl ?_
          refine zW_iload (pc' := 60) dX3_findWhite_2.1.1.1.1 rfl rfl ?_
          refine zW_iload_n (pc' := 61) dX3_findWhite_2.1.1.1.2 rfl rfl ?_
          refine cvI3 (pc' := 64) kX3_isGrey vX3_isGrey lk_X3_66 ⟨Nat.le_of_ble_eq_true rfl, Nat.le_of_ble_eq_true rfl⟩ tb87 vq3 rfl rfl (s_X3_isGrey hF _ ⟨by omega, by omega⟩ _ ⟨by omega, by omega⟩ _) dX3_findWhite_2.1.1.2.1 (Nat.le_of_ble_eq_true rfl) rfl ?_
          rintro r61 z61 ⟨hz61, p61⟩; subst z61
          refine zV_if_eq (tgt := 119) (pc' := 67) dX3_findWhite_2.1.1.2.2 rfl rfl ⟨by omega, by omega⟩ (fun c64 => ?_) (fun c64 => ?_)
          · refine zW_iinc (ls' := [_, _, _, _, _, _, _, _, _]) (pc' := 122) dX3_findWhite_4.1.1.2.2 rfl (by decide) rfl rfl rfl ?_
            refine zV_goto 31 dX3_findWhite_4.1.2.1.1 rfl ?_
            refine zV_clr 8 (ls' := [_, _, _, _, _, _, _, _, _]) rfl ?_
            exact k31 _ _ _ _ _ _ hF ⟨by omega, by omega⟩ ⟨by omega, by omega⟩ ⟨by omega, by omega⟩ (by omega) (by omega) (by omega) (by omega) (by omega)
          · refine zW_aload_n (pc' := 68) dX3_findWhite_2.1.2.1.1 rfl rfl ?_
            refine zW_dup (pc' := 69) dX3_findWhite_2.1.2.1.2 rfl rfl ?_
            refine zG_int (pc' := 72) fg_X3_63 tb87 rfl dX3_findWhite_2.1.2.2.1 rfl ?_
            refine zW_iconst (pc' := 73) dX3_findWhite_2.1.2.2.2 rfl ?_
            refine zW_iadd (pc' := 74) dX3_findWhite_2.2.1.1.1 rfl ?_
            refine zP_scf (pc' := 77) hF rfl fp_X3_63 tb87 rfl dX3_findWhite_2.2.1.1.2 rfl (fun h i74 hF a74 b74 w74 => ?_)
            refine zW_iload_n (pc' := 78) dX3_findWhite_2.2.1.2.1 rfl rfl ?_
            refine zW_aload_n (pc' := 79) dX3_findWhite_2.2.1.2.2 rfl rfl ?_
            refine zG_lev (pc' := 82) (by omega) (by omega) fg_X3_27 dX3_findWhite_2.2.2.1.1 rfl ?_
            refine zW_iload (pc' := 84) dX3_findWhite_2.2.2.1.2 rfl rfl ?_
            refine zV_iald (pc' := 85) (tabL (by omega) (by omega)) (by omega) dX3_findWhite_2.2.2.2.1 (by decide) rfl ?_
            refine zW_iadd (pc' := 86) dX3_findWhite_2.2.2.2.2 rfl ?_
            refine zV_anyI (fun v86a e86a => ?_)
            unfold rng at e86a
            refine zW_istore_n (ls' := [_, _, _, _, _, _, _, _, _]) (pc' := 87) dX3_findWhite_3.1.1.1.1 (by decide) rfl rfl rfl ?_
            refine zW_iload (pc' := 89) dX3_findWhite_3.1.1.1.2 rfl rfl ?_
            refine zW_aload_n (pc' := 90) dX3_findWhite_3.1.1.2.1 rfl rfl ?_
            refine zG_lev (pc' := 93) (by omega) (by omega) fg_X3_27 dX3_findWhite_3.1.1.2.2 rfl ?_
            refine zW_sipush (pc' := 96) dX3_findWhite_3.1.2.1.1 rfl rfl ?_
            refine zW_iload (pc' := 98) dX3_findWhite_3.1.2.1.2 rfl rfl ?_
            refine zW_iadd (pc' := 99) dX3_findWhite_3.1.2.2.1 rfl ?_
            refine zV_iald (pc' := 100) (tabL (by omega) (by omega)) (by omega) dX3_findWhite_3.1.2.2.2 (by decide) rfl ?_
            refine zW_iadd (pc' := 101) dX3_findWhite_3.2.1.1.1 rfl ?_
            refine zV_anyI (fun v101a e101a => ?_)
            unfold rng at e101a
            refine zW_istore (ls' := [_, _, _, _, _, _, _, _, _]) (pc' := 103) dX3_findWhite_3.2.1.1.2 (by decide) rfl rfl rfl ?_
            refine zW_iload (pc' := 105) dX3_findWhite_3.2.1.2.1 rfl rfl ?_
            refine zW_aload_n (pc' := 106) dX3_findWhite_3.2.1.2.2 rfl rfl ?_
            refine zG_lev (pc' := 109) (by omega) (by omega) fg_X3_27 dX3_findWhite_3.2.2.1.1 rfl ?_
            refine zW_sipush (pc' := 112) dX3_findWhite_3.2.2.1.2 rfl rfl ?_
            refine zW_iload (pc' := 114) dX3_findWhite_3.2.2.2.1 rfl rfl ?_
            refine zW_iadd (pc' := 115) dX3_findWhite_3.2.2.2.2 rfl ?_
            refine zV_iald (pc' := 116) (tabL (by omega) (by omega)) (by omega) dX3_findWhite_4.1.1.1.1 (by decide) rfl ?_
            refine zW_iadd (pc' := 117) dX3_findWhite_4.1.1.1.2 rfl ?_
            refine zV_anyI (fun v117a e117a => ?_)
            unfold rng at e117a
            refine zW_istore (ls' := [_, _, _, _, _, _, _, _, _]) (pc' := 119) dX3_findWhite_4.1.1.2.1 (by decide) rfl rfl rfl ?_
            refine zW_iinc (ls' := [_, _, _, _, _, _, _, _, _]) (pc' := 122) dX3_findWhite_4.1.1.2.2 rfl (by decide) rfl rfl rfl ?_
            refine zV_goto 31 dX3_findWhite_4.1.2.1.1 rfl ?_
            refine zV_clr 8 (ls' := [_, _, _, _, _, _, _, _, _]) rfl ?_
            exact k31 _ _ _ _ _ _ hF ⟨by omega, by omega⟩ ⟨by omega, by omega⟩ ⟨by omega, by omega⟩ (by omega) (by omega) (by omega) (by omega) (by omega)
  refine zM_of [some (.inr (.inr 87)), some (.inr (.inr s1)), some (.inl x2), none, none, none, none, none, none] 6 rfl rfl (Nat.le_of_ble_eq_true rfl) rfl ?_
  refine zW_iconst (pc' := 1) dX3_findWhite_0.1.1.1.1 rfl ?_
  refine zW_istore_n (ls' := [_, _, _, _, _, _, _, _, _]) (pc' := 2) dX3_findWhite_0.1.1.1.2 (by decide) rfl rfl rfl ?_
  refine zW_iconst (pc' := 3) dX3_findWhite_0.1.1.2.1 rfl ?_
  refine zW_istore (ls' := [_, _, _, _, _, _, _, _, _]) (pc' := 5) dX3_findWhite_0.1.1.2.2 (by decide) rfl rfl rfl ?_
  refine zW_iconst (pc' := 6) dX3_findWhite_0.1.2.1.1 rfl ?_
  refine zW_istore (ls' := [_, _, _, _, _, _, _, _, _]) (pc' := 8) dX3_findWhite_0.1.2.1.2 (by decide) rfl rfl rfl ?_
  refine zW_aload_n (pc' := 9) dX3_findWhite_0.1.2.2.1 rfl rfl ?_
  refine zW_iconst (pc' := 10) dX3_findWhite_0.1.2.2.2 rfl ?_
  refine zP_scf (pc' := 13) hF rfl fp_X3_63 tb87 rfl dX3_findWhite_0.2.1.1.1 rfl (fun h i10 hF a10 b10 w10 => ?_)
  refine zW_iconst (pc' := 14) dX3_findWhite_0.2.1.1.2 rfl ?_
  refine zW_istore (ls' := [_, _, _, _, _, _, _, _, _]) (pc' := 16) dX3_findWhite_0.2.1.2.1 (by decide) rfl rfl rfl ?_
  exact (main 10000000000000000000000000000000000000000).1 _ _ _ _ _ hF ⟨by omega, by omega⟩ ⟨by omega, by omega⟩ ⟨by omega, by omega⟩ (by omega) (by omega) (by omega)

abbrev q_X3_multiplyColour (b : Bd) (κ : Hp) (s1 : Nat) (s2 : Nat) (x3 : Int) (x4 : Int) (x5 : Int) : Int → Hp → Prop := fun r h' => Fr b κ h' ∧ (True)
set_option maxHeartbeats 4000000 in
set_option maxRecDepth 20000 in
theorem s_X3_multiplyColour {G : Ga} {b : Bd} {κ h : Hp} (hK : KC κ) (hF : Fr b κ h) (s1 : Nat) (hs1 : 56 ≤ s1 ∧ s1 ≤ 70) (s2 : Nat) (hs2 : 56 ≤ s2 ∧ s2 ≤ 70) (x3 : Int) (hx3 : 0 ≤ x3 ∧ x3 ≤ 2) (x4 : Int) (x5 : Int) (hx5 : 1 ≤ x5 ∧ x5 ≤ 65535) (hto : OkL b (s2 + 15)) : zM G mX3_multiplyColour yX3_multiplyColour [.inr (.inr 87), .inr (.inr s1), .inr (.inr s2), .inl x3, .inl x4, .inl x5] h (q_X3_multiplyColour b κ s1 s2 x3 x4 x5) := by
  have f_33_0 := KCw hK
  have f_33_1 := KCh hK
  have main : ∀ N : Nat, (∀ (v6 : Int) (h : Hp), Fr b κ h → (0 ≤ v6 ∧ v6 ≤ 16) → (v6 - κ 33 1 ≤ 0) → 20842272 + 26928 * (16 - v6) + 26316 < (N : Int) → zV G mX3_multiplyColour (q_X3_multiplyColour b κ s1 s2 x3 x4 x5) 3 [some (.inr (.inr 87)), some (.inr (.inr s1)), some (.inr (.inr s2)), some (.inl x3), some (.inl x4), some (.inl x5), some (.inl v6), none, none] [] h) ∧ (∀ (v6 v7 : Int) (h : Hp), Fr b κ h → (0 ≤ v6 ∧ v6 ≤ 15) → (v6 - κ 33 1 ≤ -1) → (0 ≤ v7 ∧ v7 ≤ 16) → (v7 - κ 33 0 ≤ 0) → 20842272 + 26928 * (16 - v6) + 20196 + 34 * (16 - v7) + 33 < (N : Int) → zV G mX3_multiplyColour (q_X3_multiplyColour b κ s1 s2 x3 x4 x5) 23 [some (.inr (.inr 87)), some (.inr (.inr s1)), some (.inr (.inr s2)), some (.inl x3), some (.inl x4), some (.inl x5), some (.inl v6), some (.inl v7), none] [] h) := by
    intro N
    induction N with
    | zero =>
      refine ⟨?_, ?_⟩
      · intro v6 h hF g0 g1 hm
        exfalso; omega
      · intro v6 v7 h hF g0 g1 g2 g3 hm
        exfalso; omega
    | succ N ih =>
      obtain ⟨k3, k23⟩ := ih
      refine ⟨?_, ?_⟩
      · intro v6 h hF g0 g1 hm
        refine zW_iload (pc' := 5) dX3_multiplyColour_0.1.1.2.1 rfl rfl ?_
        refine zW_aload_n (pc' := 6) dX3_multiplyColour_0.1.1.2.2 rfl rfl ?_
        refine zG_ref (pc' := 9) 33 fg_X3_23 tb87 rfl dX3_multiplyColour_0.1.2.1.1 rfl ?_
        refine zG_key (pc' := 12) hF rfl fg_X3_42 tb33 rfl dX3_multiplyColour_0.1.2.1.2 rfl ?_
        refine zV_cm_ge (tgt := 86) (pc' := 15) dX3_multiplyColour_0.1.2.2.1 rfl rfl ⟨by omega, by omega⟩ ⟨by omega, by omega⟩ (fun c12 => ?_) (fun c12 => ?_)
        · exact zV_vret rfl dX3_multiplyColour_2.2.2.2 ⟨hF, trivial⟩
        · refine zW_iload (pc' := 17) dX3_multiplyColour_0.1.2.2.2 rfl rfl ?_
          refine zV_if_le (tgt := 86) (pc' := 20) dX3_multiplyColour_0.2.1.1.1 rfl rfl ⟨by omega, by omega⟩ (fun c17 => ?_) (fun c17 => ?_)
          · exfalso; omega
          · refine zW_iconst (pc' := 21) dX3_multiplyColour_0.2.1.1.2 rfl ?_
            refine zW_istore (ls' := [_, _, _, _, _, _, _, _, _]) (pc' := 23) dX3_multiplyColour_0.2.1.2.1 (by decide) rfl rfl rfl ?_
            exact k23 _ _ _ hF (by omega) (by omega) (by omega) (by omega) (by omega)
      · intro v6 v7 h hF g0 g1 g2 g3 hm
        refine zW_iload (pc' := 25) dX3_multiplyColour_0.2.1.2.2 rfl rfl ?_
        refine zW_aload_n (pc' := 26) dX3_multiplyColour_0.2.2.1.1 rfl rfl ?_
        refine zG_ref (pc' := 29) 33 fg_X3_23 tb87 rfl dX3_multiplyColour_0.2.2.1.2 rfl ?_
        refine zG_key (pc' := 32) hF rfl fg_X3_48 tb33 rfl dX3_multiplyColour_0.2.2.2.1 rfl ?_
        refine zV_cm_ge (tgt := 80) (pc' := 35) dX3_multiplyColour_0.2.2.2.2 rfl rfl ⟨by omega, by omega⟩ ⟨by omega, by omega⟩ (fun c32 => ?_) (fun c32 => ?_)
        · refine zW_iinc (ls' := [_, _, _, _, _, _, _, _, _]) (pc' := 83) dX3_multiplyColour_2.2.2.1.1 rfl (by decide) rfl rfl rfl ?_
          refine zV_goto 3 dX3_multiplyColour_2.2.2.1.2 rfl ?_
          refine zV_clr 7 (ls' := [_, _, _, _, _, _, _, _, _]) rfl ?_
          exact k3 _ _ hF (by omega) (by omega) (by omega)
        · refine zW_iload_n (pc' := 36) dX3_multiplyColour_1.1.1.1.1 rfl rfl ?_
          refine zW_sipush (pc' := 39) dX3_multiplyColour_1.1.1.1.2 rfl rfl ?_
          refine zW_imul (pc' := 40) dX3_multiplyColour_1.1.1.2.1 rfl ?_
          refine zW_iload (pc' := 42) dX3_multiplyColour_1.1.1.2.2 rfl rfl ?_
          refine zW_bipush (pc' := 44) dX3_multiplyColour_1.1.2.1.1 rfl rfl ?_
          refine zW_imul (pc' := 45) dX3_multiplyColour_1.1.2.1.2 rfl ?_
          refine zW_iadd (pc' := 46) dX3_multiplyColour_1.1.2.2.1 rfl ?_
          refine zW_iload (pc' := 48) dX3_multiplyColour_1.1.2.2.2 rfl rfl ?_
          refine zW_iadd (pc' := 49) dX3_multiplyColour_1.2.1.1.1 rfl ?_
          refine zW_istore (ls' := [_, _, _, _, _, _, _, _, _]) (pc' := 51) dX3_multiplyColour_1.2.1.1.2 (by decide) rfl rfl rfl ?_
          refine zW_aload_n (pc' := 52) dX3_multiplyColour_1.2.1.2.1 rfl rfl ?_
          refine zG_lev (pc' := 55) (by omega) (by omega) fg_X3_27 dX3_multiplyColour_1.2.1.2.2 rfl ?_
          refine zW_iload (pc' := 57) dX3_multiplyColour_1.2.2.1.1 rfl rfl ?_
          refine zW_aload_n (pc' := 58) dX3_multiplyColour_1.2.2.1.2 rfl rfl ?_
          refine zG_lev (pc' := 61) (by omega) (by omega) fg_X3_27 dX3_multiplyColour_1.2.2.2.1 rfl ?_
          refine zW_iload (pc' := 63) dX3_multiplyColour_1.2.2.2.2 rfl rfl ?_
          refine zV_iald (pc' := 64) (tabL (by omega) (by omega)) (by omega) dX3_multiplyColour_2.1.1.1.1 (by decide) rfl ?_
          refine zW_iload (pc' := 66) dX3_multiplyColour_2.1.1.1.2 rfl rfl ?_
          refine zW_imul (pc' := 67) dX3_multiplyColour_2.1.1.2 rfl ?_
          refine zW_iload (pc' := 69) dX3_multiplyColour_2.1.2.1.1 rfl rfl ?_
          refine zW_idivQ (pc' := 70) ⟨by omega, by omega⟩ (by omega) dX3_multiplyColour_2.1.2.1.2 rfl (fun v69 e69 => ?_)
          unfold rng at e69
          refine csI1 (pc' := 73) kX11_clipped vX11_clipped lk_X3_55 ⟨Nat.le_of_ble_eq_true rfl, Nat.le_of_ble_eq_true rfl⟩ rfl (s_X11_clipped hF _) dX3_multiplyColour_2.1.2.2 (Nat.le_of_ble_eq_true rfl) rfl ?_
          rintro r70 z70 ⟨hz70, p70⟩; subst z70
          refine zS_lv (pc' := 74) hF (by omega) (by omega) hto (by omega) dX3_multiplyColour_2.2.1.1.1 rfl (fun h i73 hF a73 b73 w73 => ?_)
          refine zW_iinc (ls' := [_, _, _, _, _, _, _, _, _]) (pc' := 77) dX3_multiplyColour_2.2.1.1.2 rfl (by decide) rfl rfl rfl ?_
          refine zV_goto 23 dX3_multiplyColour_2.2.1.2 rfl ?_
          refine zV_clr 8 (ls' := [_, _, _, _, _, _, _, _, _]) rfl ?_
          exact k23 _ _ _ hF (by omega) (by omega) (by omega) (by omega) (by omega)
  refine zM_of [some (.inr (.inr 87)), some (.inr (.inr s1)), some (.inr (.inr s2)), some (.inl x3), some (.inl x4), some (.inl x5), none, none, none] 3 rfl rfl (Nat.le_of_ble_eq_true rfl) rfl ?_
  refine zW_iconst (pc' := 1) dX3_multiplyColour_0.1.1.1.1 rfl ?_
  refine zW_istore (ls' := [_, _, _, _, _, _, _, _, _]) (pc' := 3) dX3_multiplyColour_0.1.1.1.2 (by decide) rfl rfl rfl ?_
  exact (main 10000000000000000000000000000000000000000).1 _ _ hF (by omega) (by omega) (by omega)

abbrev q_X3_multiply (b : Bd) (κ : Hp) (s1 : Nat) (s2 : Nat) (x3 : Int) (x4 : Int) (x5 : Int) (x6 : Int) : Int → Hp → Prop := fun r h' => Fr b κ h' ∧ (True)
set_option maxHeartbeats 4000000 in
set_option maxRecDepth 20000 in
theorem s_X3_multiply {G : Ga} {b : Bd} {κ h : Hp} (hK : KC κ) (hF : Fr b κ h) (s1 : Nat) (hs1 : 56 ≤ s1 ∧ s1 ≤ 70) (s2 : Nat) (hs2 : 56 ≤ s2 ∧ s2 ≤ 70) (x3 : Int) (x4 : Int) (x5 : Int) (x6 : Int) (hx6 : 1 ≤ x6 ∧ x6 ≤ 65535) (hto : OkL b (s2 + 15)) : zM G mX3_multiply yX3_multiply [.inr (.inr 87), .inr (.inr s1), .inr (.inr s2), .inl x3, .inl x4, .inl x5, .inl x6] h (q_X3_multiply b κ s1 s2 x3 x4 x5 x6) := by
  refine zM_of [some (.inr (.inr 87)), some (.inr (.inr s1)), some (.inr (.inr s2)), some (.inl x3), some (.inl x4), some (.inl x5), some (.inl x6)] 0 rfl rfl (Nat.le_of_ble_eq_true rfl) rfl ?_
  refine zW_aload_n (pc' := 1) dX3_multiply_0.1.1.1.1 rfl rfl ?_
  refine zW_aload_n (pc' := 2) dX3_multiply_0.1.1.1.2 rfl rfl ?_
  refine zW_aload_n (pc' := 3) dX3_multiply_0.1.1.2.1 rfl rfl ?_
  refine zW_iconst (pc' := 4) dX3_multiply_0.1.1.2.2 rfl ?_
  refine zW_iload_n (pc' := 5) dX3_multiply_0.1.2.1.1 rfl rfl ?_
  refine zW_iload (pc' := 7) dX3_multiply_0.1.2.1.2 rfl rfl ?_
  refine cvV5 (pc' := 10) kX3_multiplyColour vX3_multiplyColour lk_X3_94 ⟨Nat.le_of_ble_eq_true rfl, Nat.le_of_ble_eq_true rfl⟩ tb87 vq3 rfl rfl (s_X3_multiplyColour hK hF _ ⟨by omega, by omega⟩ _ ⟨by omega, by omega⟩ _ ⟨by omega, by omega⟩ _ _ ⟨by omega, by omega⟩ hto) dX3_multiply_0.1.2.2.1 (Nat.le_of_ble_eq_true rfl) rfl ?_
  rintro r7 h ⟨hF, p7⟩
  refine zW_aload_n (pc' := 11) dX3_multiply_0.1.2.2.2 rfl rfl ?_
  refine zW_aload_n (pc' := 12) dX3_multiply_0.2.1.1.1 rfl rfl ?_
  refine zW_aload_n (pc' := 13) dX3_multiply_0.2.1.1.2 rfl rfl ?_
  refine zW_iconst (pc' := 14) dX3_multiply_0.2.1.2.1 rfl ?_
  refine zW_iload (pc' := 16) dX3_multiply_0.2.1.2.2 rfl rfl ?_
  refine zW_iload (pc' := 18) dX3_multiply_0.2.2.1.1 rfl rfl ?_
  refine cvV5 (pc' := 21) kX3_multiplyColour vX3_multiplyColour lk_X3_94 ⟨Nat.le_of_ble_eq_true rfl, Nat.le_of_ble_eq_true rfl⟩ tb87 vq3 rfl rfl (s_X3_multiplyColour hK hF _ ⟨by omega, by omega⟩ _ ⟨by omega, by omega⟩ _ ⟨by omega, by omega⟩ _ _ ⟨by omega, by omega⟩ hto) dX3_multiply_0.2.2.1.2 (Nat.le_of_ble_eq_true rfl) rfl ?_
  rintro r18 h ⟨hF, p18⟩
  refine zW_aload_n (pc' := 22) dX3_multiply_0.2.2.2.1 rfl rfl ?_
  refine zW_aload_n (pc' := 23) dX3_multiply_0.2.2.2.2 rfl rfl ?_
  refine zW_aload_n (pc' := 24) dX3_multiply_1.1.1.1 rfl rfl ?_
  refine zW_iconst (pc' := 25) dX3_multiply_1.1.1.2 rfl ?_
  refine zW_iload (pc' := 27) dX3_multiply_1.1.2 rfl rfl ?_
  refine zW_iload (pc' := 29) dX3_multiply_1.2.1.1 rfl rfl ?_
  refine cvV5 (pc' := 32) kX3_multiplyColour vX3_multiplyColour lk_X3_94 ⟨Nat.le_of_ble_eq_true rfl, Nat.le_of_ble_eq_true rfl⟩ tb87 vq3 rfl rfl (s_X3_multiplyColour hK hF _ ⟨by omega, by omega⟩ _ ⟨by omega, by omega⟩ _ ⟨by omega, by omega⟩ _ _ ⟨by omega, by omega⟩ hto) dX3_multiply_1.2.1.2 (Nat.le_of_ble_eq_true rfl) rfl ?_
  rintro r29 h ⟨hF, p29⟩
  exact zV_vret rfl dX3_multiply_1.2.2 ⟨hF, trivial⟩

abbrev q_X3_stretch (b : Bd) (κ : Hp) (s1 : Nat) (s2 : Nat) (x3 : Int) : Int → Hp → Prop := fun r h' => Fr b κ h' ∧ (True)
set_option maxHeartbeats 4000000 in
set_option maxRecDepth 20000 in
theorem s_X3_stretch {G : Ga} {b : Bd} {κ h : Hp} (hK : KC κ) (hF : Fr b κ h) (s1 : Nat) (hs1 : 56 ≤ s1 ∧ s1 ≤ 70) (s2 : Nat) (hs2 : 56 ≤ s2 ∧ s2 ≤ 70) (x3 : Int) (hto : OkL b (s2 + 15)) : zM G mX3_stretch yX3_stretch [.inr (.inr 87), .inr (.inr s1), .inr (.inr s2), .inl x3] h (q_X3_stretch b κ s1 s2 x3) := by
  have f_33_0 := KCw hK
  have f_33_1 := KCh hK
  have main : ∀ N : Nat, (∀ (v4 : Int) (h : Hp), Fr b κ h → (0 ≤ v4 ∧ v4 ≤ 16) → (v4 - κ 33 1 ≤ 0) → 1276539264000 + 1289433600 * (16 - v4) + 1266408000 < (N : Int) → zV G mX3_stretch (q_X3_stretch b κ s1 s2 x3) 3 [some (.inr (.inr 87)), some (.inr (.inr s1)), some (.inr (.inr s2)), some (.inl x3), some (.inl v4), none, none, none] [] h) ∧ (∀ (v4 v5 : Int) (h : Hp), Fr b κ h → (0 ≤ v4 ∧ v4 ≤ 15) → (v4 - κ 33 1 ≤ -1) → (0 ≤ v5 ∧ v5 ≤ 16) → (v5 - κ 33 0 ≤ 0) → 1276539264000 + 1289433600 * (16 - v4) + 1082203200 + 1279200 * (16 - v5) + 1252550 < (N : Int) → zV G mX3_stretch (q_X3_stretch b κ s1 s2 x3) 18 [some (.inr (.inr 87)), some (.inr (.inr s1)), some (.inr (.inr s2)), some (.inl x3), some (.inl v4), some (.inl v5), none, none] [] h) ∧ (∀ (v4 v5 v6 v7 : Int) (h : Hp), Fr b κ h → (0 ≤ v4 ∧ v4 ≤ 15) → (v4 - κ 33 1 ≤ -1) → (0 ≤ v5 ∧ v5 ≤ 15) → (v5 - κ 33 0 ≤ -1) → (0 ≤ v7 ∧ v7 ≤ 1023) → 1276539264000 + 1289433600 * (16 - v4) + 1082203200 + 1279200 * (16 - v5) + 666250 + 26 * (1023 - v7) + 25 < (N : Int) → zV G mX3_stretch (q_X3_stretch b κ s1 s2 x3) 57 [some (.inr (.inr 87)), some (.inr (.inr s1)), some (.inr (.inr s2)), some (.inl x3), some (.inl v4), some (.inl v5), some (.inl v6), some (.inl v7)] [] h) := by
    intro N
    induction N with
    | zero =>
      refine ⟨?_, ?_, ?_⟩
      · intro v4 h hF g0 g1 hm
        exfalso; omega
      · intro v4 v5 h hF g0 g1 g2 g3 hm
        exfalso; omega
      · intro v4 v5 v6 v7 h hF g0 g1 g2 g3 g4 hm
        exfalso; omega
    | succ N ih =>
      obtain ⟨k3, k18, k57⟩ := ih
      refine ⟨?_, ?_, ?_⟩
      · intro v4 h hF g0 g1 hm
        refine zW_iload (pc' := 5) dX3_stretch_0.1.1.2.1 rfl rfl ?_
        refine zW_aload_n (pc' := 6) dX3_stretch_0.1.1.2.2 rfl rfl ?_
        refine zG_ref (pc' := 9) 33 fg_X3_23 tb87 rfl dX3_stretch_0.1.2.1.1 rfl ?_
        refine zG_key (pc' := 12) hF rfl fg_X3_42 tb33 rfl dX3_stretch_0.1.2.1.2 rfl ?_
        refine zV_cm_ge (tgt := 114) (pc' := 15) dX3_stretch_0.1.2.2.1 rfl rfl ⟨by omega, by omega⟩ ⟨by omega, by omega⟩ (fun c12 => ?_) (fun c12 => ?_)
        · exact zV_vret rfl dX3_stretch_3.2.2.2 ⟨hF, trivial⟩
        · refine zW_iconst (pc' := 16) dX3_stretch_0.1.2.2.2 rfl ?_
          refine zW_istore (ls' := [_, _, _, _, _, _, _, _]) (pc' := 18) dX3_stretch_0.2.1.1.1 (by decide) rfl rfl rfl ?_
          exact k18 _ _ _ hF (by omega) (by omega) (by omega) (by omega) (by omega)
      · intro v4 v5 h hF g0 g1 g2 g3 hm
        refine zW_iload (pc' := 20) dX3_stretch_0.2.1.1.2 rfl rfl ?_
        refine zW_aload_n (pc' := 21) dX3_stretch_0.2.1.2.1 rfl rfl ?_
        refine zG_ref (pc' := 24) 33 fg_X3_23 tb87 rfl dX3_stretch_0.2.1.2.2 rfl ?_
        refine zG_key (pc' := 27) hF rfl fg_X3_48 tb33 rfl dX3_stretch_0.2.2.1.1 rfl ?_
        refine zV_cm_ge (tgt := 108) (pc' := 30) dX3_stretch_0.2.2.1.2 rfl rfl ⟨by omega, by omega⟩ ⟨by omega, by omega⟩ (fun c27 => ?_) (fun c27 => ?_)
        · refine zW_iinc (ls' := [_, _, _, _, _, _, _, _]) (pc' := 111) dX3_stretch_3.2.1.2 rfl (by decide) rfl rfl rfl ?_
          refine zV_goto 3 dX3_stretch_3.2.2.1 rfl ?_
          refine zV_clr 5 (ls' := [_, _, _, _, _, _, _, _]) rfl ?_
          exact k3 _ _ hF (by omega) (by omega) (by omega)
        · refine zW_aload_n (pc' := 31) dX3_stretch_0.2.2.2.1 rfl rfl ?_
          refine zG_lev (pc' := 34) (by omega) (by omega) fg_X3_27 dX3_stretch_0.2.2.2.2 rfl ?_
          refine zW_iload (pc' := 36) dX3_stretch_1.1.1.1.1 rfl rfl ?_
          refine zW_bipush (pc' := 38) dX3_stretch_1.1.1.1.2 rfl rfl ?_
          refine zW_imul (pc' := 39) dX3_stretch_1.1.1.2.1 rfl ?_
          refine zW_iload (pc' := 41) dX3_stretch_1.1.1.2.2 rfl rfl ?_
          refine zW_iadd (pc' := 42) dX3_stretch_1.1.2.1.1 rfl ?_
          refine csI2 (pc' := 45) kX11_lightOf vX11_lightOf lk_X3_98 ⟨Nat.le_of_ble_eq_true rfl, Nat.le_of_ble_eq_true rfl⟩ rfl (s_X11_lightOf hF _ ⟨by omega, by omega⟩ _ ⟨by omega, by omega⟩) dX3_stretch_1.1.2.1.2 (Nat.le_of_ble_eq_true rfl) rfl ?_
          rintro r42 z42 ⟨hz42, p42⟩; subst z42
          refine zW_istore (ls' := [_, _, _, _, _, _, _, _]) (pc' := 47) dX3_stretch_1.1.2.2.1 (by decide) rfl rfl rfl ?_
          refine zW_iload (pc' := 49) dX3_stretch_1.1.2.2.2 rfl rfl ?_
          refine zW_bipush (pc' := 51) dX3_stretch_1.2.1.1.1 rfl rfl ?_
          refine zW_imul (pc' := 52) dX3_stretch_1.2.1.1.2 rfl ?_
          refine zW_iload (pc' := 54) dX3_stretch_1.2.1.2.1 rfl rfl ?_
          refine zW_iadd (pc' := 55) dX3_stretch_1.2.1.2.2 rfl ?_
          refine zW_istore (ls' := [_, _, _, _, _, _, _, _]) (pc' := 57) dX3_stretch_1.2.2.1.1 (by decide) rfl rfl rfl ?_
          exact k57 _ _ _ _ _ hF (by omega) (by omega) (by omega) (by omega) (by omega) (by omega)
      · intro v4 v5 v6 v7 h hF g0 g1 g2 g3 g4 hm
        refine zW_iload (pc' := 59) dX3_stretch_1.2.2.1.2 rfl rfl ?_
        refine zW_sipush (pc' := 62) dX3_stretch_1.2.2.2.1 rfl rfl ?_
        refine zV_cm_ge (tgt := 102) (pc' := 65) dX3_stretch_1.2.2.2.2 rfl rfl ⟨by omega, by omega⟩ ⟨by omega, by omega⟩ (fun c62 => ?_) (fun c62 => ?_)
        · refine zW_iinc (ls' := [_, _, _, _, _, _, _, _]) (pc' := 105) dX3_stretch_3.1.2.2 rfl (by decide) rfl rfl rfl ?_
          refine zV_goto 18 dX3_stretch_3.2.1.1 rfl ?_
          refine zV_clr 6 (ls' := [_, _, _, _, _, _, _, _]) rfl ?_
          refine zV_clr 7 (ls' := [_, _, _, _, _, _, _, _]) rfl ?_
          exact k18 _ _ _ hF (by omega) (by omega) (by omega) (by omega) (by omega)
        · refine zW_aload_n (pc' := 66) dX3_stretch_2.1.1.1.1 rfl rfl ?_
          refine zG_lev (pc' := 69) (by omega) (by omega) fg_X3_27 dX3_stretch_2.1.1.1.2 rfl ?_
          refine zW_iload (pc' := 71) dX3_stretch_2.1.1.2.1 rfl rfl ?_
          refine zW_iload (pc' := 73) dX3_stretch_2.1.1.2.2 rfl rfl ?_
          refine zW_aload_n (pc' := 74) dX3_stretch_2.1.2.1.1 rfl rfl ?_
          refine zG_lev (pc' := 77) (by omega) (by omega) fg_X3_27 dX3_stretch_2.1.2.1.2 rfl ?_
          refine zW_iload (pc' := 79) dX3_stretch_2.1.2.2.1 rfl rfl ?_
          refine zV_iald (pc' := 80) (tabL (by omega) (by omega)) (by omega) dX3_stretch_2.1.2.2.2 (by decide) rfl ?_
          refine zW_iload (pc' := 82) dX3_stretch_2.2.1.1.1 rfl rfl ?_
          refine zW_isub (pc' := 83) dX3_stretch_2.2.1.1.2 rfl ?_
          refine zW_iload_n (pc' := 84) dX3_stretch_2.2.1.2.1 rfl rfl ?_
          refine zW_imul (pc' := 85) dX3_stretch_2.2.1.2.2 rfl ?_
          refine zW_bipush (pc' := 87) dX3_stretch_2.2.2.1.1 rfl rfl ?_
          refine zW_idivQ (pc' := 88) ⟨by omega, by omega⟩ (by omega) dX3_stretch_2.2.2.1.2 rfl (fun v87 e87 => ?_)
          unfold rng at e87
          refine zW_iadd (pc' := 89) dX3_stretch_2.2.2.2.1 rfl ?_
          refine csI1 (pc' := 92) kX11_clipped vX11_clipped lk_X3_55 ⟨Nat.le_of_ble_eq_true rfl, Nat.le_of_ble_eq_true rfl⟩ rfl (s_X11_clipped hF _) dX3_stretch_2.2.2.2.2 (Nat.le_of_ble_eq_true rfl) rfl ?_
          rintro r89 z89 ⟨hz89, p89⟩; subst z89
          refine zS_lv (pc' := 93) hF (by omega) (by omega) hto (by omega) dX3_stretch_3.1.1.1 rfl (fun h i92 hF a92 b92 w92 => ?_)
          refine zW_iincW (ls' := [_, _, _, _, _, _, _, _]) (pc' := 99) dX3_stretch_3.1.1.2 rfl (by decide) rfl rfl rfl ?_
          refine zV_goto 57 dX3_stretch_3.1.2.1 rfl ?_
          exact k57 _ _ _ _ _ hF (by omega) (by omega) (by omega) (by omega) (by omega) (by omega)
  refine zM_of [some (.inr (.inr 87)), some (.inr (.inr s1)), some (.inr (.inr s2)), some (.inl x3), none, none, none, none] 4 rfl rfl (Nat.le_of_ble_eq_true rfl) rfl ?_
  refine zW_iconst (pc' := 1) dX3_stretch_0.1.1.1.1 rfl ?_
  refine zW_istore (ls' := [_, _, _, _, _, _, _, _]) (pc' := 3) dX3_stretch_0.1.1.1.2 (by decide) rfl rfl rfl ?_
  exact (main 10000000000000000000000000000000000000000).1 _ _ hF (by omega) (by omega) (by omega)

abbrev q_X3_paled (κ h : Hp) (x1 : Int) (x2 : Int) (x3 : Int) : Int → Hp → Prop := fun r h' => h' = h ∧ (True)
set_option maxHeartbeats 4000000 in
set_option maxRecDepth 20000 in
theorem s_X3_paled {G : Ga} {b : Bd} {κ h : Hp} (hF : Fr b κ h) (x1 : Int) (x2 : Int) (x3 : Int) (hx3 : rng x3) : zM G mX3_paled yX3_paled [.inr (.inr 87), .inl x1, .inl x2, .inl x3] h (q_X3_paled κ h x1 x2 x3) := by
  unfold rng at hx3
  refine zM_of [some (.inr (.inr 87)), some (.inl x1), some (.inl x2), some (.inl x3), none] 1 rfl rfl (Nat.le_of_ble_eq_true rfl) rfl ?_
  refine zW_iload_n (pc' := 1) dX3_paled_0.1.1.1.1 rfl rfl ?_
  refine zW_iload_n (pc' := 2) dX3_paled_0.1.1.1.2 rfl rfl ?_
  refine zV_cmQ_le (tgt := 16) (pc' := 5) dX3_paled_0.1.1.2.1 rfl rfl ?_ ?_
  · refine zW_iconst (pc' := 17) dX3_paled_0.2.1.1.1 rfl ?_
    refine zW_istore (ls' := [_, _, _, _, _]) (pc' := 19) dX3_paled_0.2.1.1.2 (by decide) rfl rfl rfl ?_
    refine zW_iload (pc' := 21) dX3_paled_0.2.1.2.1 rfl rfl ?_
    refine zV_if_eq (tgt := 42) (pc' := 24) dX3_paled_0.2.1.2.2 rfl rfl ⟨by omega, by omega⟩ (fun c21 => ?_) (fun c21 => ?_)
    · refine zW_iload_n (pc' := 43) dX3_paled_1.2.2.1.2 rfl rfl ?_
      exact zV_iret rfl dX3_paled_1.2.2.2 ⟨rfl, trivial⟩
    · exfalso; omega
  · refine zW_iload_n (pc' := 6) dX3_paled_0.1.1.2.2 rfl rfl ?_
    refine zW_sipush (pc' := 9) dX3_paled_0.1.2.1.1 rfl rfl ?_
    refine zV_cm_ge (tgt := 16) (pc' := 12) dX3_paled_0.1.2.1.2 rfl rfl ⟨by omega, by omega⟩ ⟨by omega, by omega⟩ (fun c9 => ?_) (fun c9 => ?_)
    · refine zW_iconst (pc' := 17) dX3_paled_0.2.1.1.1 rfl ?_
      refine zW_istore (ls' := [_, _, _, _, _]) (pc' := 19) dX3_paled_0.2.1.1.2 (by decide) rfl rfl rfl ?_
      refine zW_iload (pc' := 21) dX3_paled_0.2.1.2.1 rfl rfl ?_
      refine zV_if_eq (tgt := 42) (pc' := 24) dX3_paled_0.2.1.2.2 rfl rfl ⟨by omega, by omega⟩ (fun c21 => ?_) (fun c21 => ?_)
      · refine zW_iload_n (pc' := 43) dX3_paled_1.2.2.1.2 rfl rfl ?_
        exact zV_iret rfl dX3_paled_1.2.2.2 ⟨rfl, trivial⟩
      · exfalso; omega
    · refine zW_iconst (pc' := 13) dX3_paled_0.1.2.2.1 rfl ?_
      refine zV_goto 17 dX3_paled_0.1.2.2.2 rfl ?_
      refine zW_istore (ls' := [_, _, _, _, _]) (pc' := 19) dX3_paled_0.2.1.1.2 (by decide) rfl rfl rfl ?_
      refine zW_iload (pc' := 21) dX3_paled_0.2.1.2.1 rfl rfl ?_
      refine zV_if_eq (tgt := 42) (pc' := 24) dX3_paled_0.2.1.2.2 rfl rfl ⟨by omega, by omega⟩ (fun c21 => ?_) (fun c21 => ?_)
      · exfalso; omega
      · refine zW_iload_n (pc' := 25) dX3_paled_0.2.2.1.1 rfl rfl ?_
        refine zW_iload_n (pc' := 26) dX3_paled_0.2.2.1.2 rfl rfl ?_
        refine zW_iload_n (pc' := 27) dX3_paled_0.2.2.2.1 rfl rfl ?_
        refine zW_isub (pc' := 28) dX3_paled_0.2.2.2.2 rfl ?_
        refine zW_iload_n (pc' := 29) dX3_paled_1.1.1.1.1 rfl rfl ?_
        refine zW_iload_n (pc' := 30) dX3_paled_1.1.1.1.2 rfl rfl ?_
        refine zW_isub (pc' := 31) dX3_paled_1.1.1.2 rfl ?_
        refine zW_imul (pc' := 32) dX3_paled_1.1.2.1.1 rfl ?_
        refine zW_sipush (pc' := 35) dX3_paled_1.1.2.1.2 rfl rfl ?_
        refine zW_iload_n (pc' := 36) dX3_paled_1.1.2.2 rfl rfl ?_
        refine zW_isub (pc' := 37) dX3_paled_1.2.1.1.1 rfl ?_
        refine zV_anyM (fun v37a k37a e37a f37a => ?_)
        unfold rng at e37a
        refine zW_idivQ (pc' := 38) ⟨by omega, by omega⟩ (by omega) dX3_paled_1.2.1.1.2 rfl (fun v37 e37 => ?_)
        unfold rng at e37
        refine zW_iadd (pc' := 39) dX3_paled_1.2.1.2 rfl ?_
        refine zV_goto 43 dX3_paled_1.2.2.1.1 rfl ?_
        exact zV_iret rfl dX3_paled_1.2.2.2 ⟨rfl, trivial⟩

abbrev q_X3_makePale (b : Bd) (κ : Hp) (s1 : Nat) (s2 : Nat) (x3 : Int) : Int → Hp → Prop := fun r h' => Fr b κ h' ∧ (True)
set_option maxHeartbeats 4000000 in
set_option maxRecDepth 20000 in
theorem s_X3_makePale {G : Ga} {b : Bd} {κ h : Hp} (hK : KC κ) (hF : Fr b κ h) (s1 : Nat) (hs1 : 56 ≤ s1 ∧ s1 ≤ 70) (s2 : Nat) (hs2 : 56 ≤ s2 ∧ s2 ≤ 70) (x3 : Int) (hto : OkL b (s2 + 15)) : zM G mX3_makePale yX3_makePale [.inr (.inr 87), .inr (.inr s1), .inr (.inr s2), .inl x3] h (q_X3_makePale b κ s1 s2 x3) := by
  have f_33_0 := KCw hK
  have f_33_1 := KCh hK
  have main : ∀ N : Nat, (∀ (v4 : Int) (h : Hp), Fr b κ h → (0 ≤ v4 ∧ v4 ≤ 16) → (v4 - κ 33 1 ≤ 0) → 947301966000 + 1012074750 * (16 - v4) + 992979000 < (N : Int) → zV G mX3_makePale (q_X3_makePale b κ s1 s2 x3) 3 [some (.inr (.inr 87)), some (.inr (.inr s1)), some (.inr (.inr s2)), some (.inl x3), some (.inl v4), none, none, none] [] h) ∧ (∀ (v4 v5 : Int) (h : Hp), Fr b κ h → (0 ≤ v4 ∧ v4 ≤ 15) → (v4 - κ 33 1 ≤ -1) → (0 ≤ v5 ∧ v5 ≤ 16) → (v5 - κ 33 0 ≤ 0) → 947301966000 + 1012074750 * (16 - v4) + 840213000 + 1060875 * (16 - v5) + 1037300 < (N : Int) → zV G mX3_makePale (q_X3_makePale b κ s1 s2 x3) 18 [some (.inr (.inr 87)), some (.inr (.inr s1)), some (.inr (.inr s2)), some (.inl x3), some (.inl v4), some (.inl v5), none, none] [] h) ∧ (∀ (v4 v5 v6 v7 : Int) (h : Hp), Fr b κ h → (0 ≤ v4 ∧ v4 ≤ 15) → (v4 - κ 33 1 ≤ -1) → (0 ≤ v5 ∧ v5 ≤ 15) → (v5 - κ 33 0 ≤ -1) → (0 ≤ v7 ∧ v7 ≤ 1023) → 947301966000 + 1012074750 * (16 - v4) + 840213000 + 1060875 * (16 - v5) + 518650 + 23 * (1023 - v7) + 22 < (N : Int) → zV G mX3_makePale (q_X3_makePale b κ s1 s2 x3) 57 [some (.inr (.inr 87)), some (.inr (.inr s1)), some (.inr (.inr s2)), some (.inl x3), some (.inl v4), some (.inl v5), some (.inl v6), some (.inl v7)] [] h) := by
    intro N
    induction N with
    | zero =>
      refine ⟨?_, ?_, ?_⟩
      · intro v4 h hF g0 g1 hm
        exfalso; omega
      · intro v4 v5 h hF g0 g1 g2 g3 hm
        exfalso; omega
      · intro v4 v5 v6 v7 h hF g0 g1 g2 g3 g4 hm
        exfalso; omega
    | succ N ih =>
      obtain ⟨k3, k18, k57⟩ := ih
      refine ⟨?_, ?_, ?_⟩
      · intro v4 h hF g0 g1 hm
        refine zW_iload (pc' := 5) dX3_makePale_0.1.1.2.1 rfl rfl ?_
        refine zW_aload_n (pc' := 6) dX3_makePale_0.1.1.2.2 rfl rfl ?_
        refine zG_ref (pc' := 9) 33 fg_X3_23 tb87 rfl dX3_makePale_0.1.2.1.1 rfl ?_
        refine zG_key (pc' := 12) hF rfl fg_X3_42 tb33 rfl dX3_makePale_0.1.2.1.2 rfl ?_
        refine zV_cm_ge (tgt := 110) (pc' := 15) dX3_makePale_0.1.2.2.1 rfl rfl ⟨by omega, by omega⟩ ⟨by omega, by omega⟩ (fun c12 => ?_) (fun c12 => ?_)
        · exact zV_vret rfl dX3_makePale_3.2.2 ⟨hF, trivial⟩
        · refine zW_iconst (pc' := 16) dX3_makePale_0.1.2.2.2 rfl ?_
          refine zW_istore (ls' := [_, _, _, _, _, _, _, _]) (pc' := 18) dX3_makePale_0.2.1.1.1 (by decide) rfl rfl rfl ?_
          exact k18 _ _ _ hF (by omega) (by omega) (by omega) (by omega) (by omega)
      · intro v4 v5 h hF g0 g1 g2 g3 hm
        refine zW_iload (pc' := 20) dX3_makePale_0.2.1.1.2 rfl rfl ?_
        refine zW_aload_n (pc' := 21) dX3_makePale_0.2.1.2.1 rfl rfl ?_
        refine zG_ref (pc' := 24) 33 fg_X3_23 tb87 rfl dX3_makePale_0.2.1.2.2 rfl ?_
        refine zG_key (pc' := 27) hF rfl fg_X3_48 tb33 rfl dX3_makePale_0.2.2.1.1 rfl ?_
        refine zV_cm_ge (tgt := 104) (pc' := 30) dX3_makePale_0.2.2.1.2 rfl rfl ⟨by omega, by omega⟩ ⟨by omega, by omega⟩ (fun c27 => ?_) (fun c27 => ?_)
        · refine zW_iinc (ls' := [_, _, _, _, _, _, _, _]) (pc' := 107) dX3_makePale_3.1.2 rfl (by decide) rfl rfl rfl ?_
          refine zV_goto 3 dX3_makePale_3.2.1 rfl ?_
          refine zV_clr 5 (ls' := [_, _, _, _, _, _, _, _]) rfl ?_
          exact k3 _ _ hF (by omega) (by omega) (by omega)
        · refine zW_aload_n (pc' := 31) dX3_makePale_0.2.2.2.1 rfl rfl ?_
          refine zG_lev (pc' := 34) (by omega) (by omega) fg_X3_27 dX3_makePale_0.2.2.2.2 rfl ?_
          refine zW_iload (pc' := 36) dX3_makePale_1.1.1.1.1 rfl rfl ?_
          refine zW_bipush (pc' := 38) dX3_makePale_1.1.1.1.2 rfl rfl ?_
          refine zW_imul (pc' := 39) dX3_makePale_1.1.1.2.1 rfl ?_
          refine zW_iload (pc' := 41) dX3_makePale_1.1.1.2.2 rfl rfl ?_
          refine zW_iadd (pc' := 42) dX3_makePale_1.1.2.1.1 rfl ?_
          refine csI2 (pc' := 45) kX11_greatestOf vX11_greatestOf lk_X3_83 ⟨Nat.le_of_ble_eq_true rfl, Nat.le_of_ble_eq_true rfl⟩ rfl (s_X11_greatestOf hF _ ⟨by omega, by omega⟩ _ ⟨by omega, by omega⟩) dX3_makePale_1.1.2.1.2 (Nat.le_of_ble_eq_true rfl) rfl ?_
          rintro r42 z42 ⟨hz42, p42⟩; subst z42
          refine zW_istore (ls' := [_, _, _, _, _, _, _, _]) (pc' := 47) dX3_makePale_1.1.2.2.1 (by decide) rfl rfl rfl ?_
          refine zW_iload (pc' := 49) dX3_makePale_1.1.2.2.2 rfl rfl ?_
          refine zW_bipush (pc' := 51) dX3_makePale_1.2.1.1.1 rfl rfl ?_
          refine zW_imul (pc' := 52) dX3_makePale_1.2.1.1.2 rfl ?_
          refine zW_iload (pc' := 54) dX3_makePale_1.2.1.2.1 rfl rfl ?_
          refine zW_iadd (pc' := 55) dX3_makePale_1.2.1.2.2 rfl ?_
          refine zW_istore (ls' := [_, _, _, _, _, _, _, _]) (pc' := 57) dX3_makePale_1.2.2.1.1 (by decide) rfl rfl rfl ?_
          exact k57 _ _ _ _ _ hF (by omega) (by omega) (by omega) (by omega) (by omega) (by omega)
      · intro v4 v5 v6 v7 h hF g0 g1 g2 g3 g4 hm
        refine zW_iload (pc' := 59) dX3_makePale_1.2.2.1.2 rfl rfl ?_
        refine zW_sipush (pc' := 62) dX3_makePale_1.2.2.2.1 rfl rfl ?_
        refine zV_cm_ge (tgt := 98) (pc' := 65) dX3_makePale_1.2.2.2.2 rfl rfl ⟨by omega, by omega⟩ ⟨by omega, by omega⟩ (fun c62 => ?_) (fun c62 => ?_)
        · refine zW_iinc (ls' := [_, _, _, _, _, _, _, _]) (pc' := 101) dX3_makePale_3.1.1.1 rfl (by decide) rfl rfl rfl ?_
          refine zV_goto 18 dX3_makePale_3.1.1.2 rfl ?_
          refine zV_clr 6 (ls' := [_, _, _, _, _, _, _, _]) rfl ?_
          refine zV_clr 7 (ls' := [_, _, _, _, _, _, _, _]) rfl ?_
          exact k18 _ _ _ hF (by omega) (by omega) (by omega) (by omega) (by omega)
        · refine zW_aload_n (pc' := 66) dX3_makePale_2.1.1.1.1 rfl rfl ?_
          refine zG_lev (pc' := 69) (by omega) (by omega) fg_X3_27 dX3_makePale_2.1.1.1.2 rfl ?_
          refine zW_iload (pc' := 71) dX3_makePale_2.1.1.2.1 rfl rfl ?_
          refine zW_aload_n (pc' := 72) dX3_makePale_2.1.1.2.2 rfl rfl ?_
          refine zW_aload_n (pc' := 73) dX3_makePale_2.1.2.1.1 rfl rfl ?_
          refine zG_lev (pc' := 76) (by omega) (by omega) fg_X3_27 dX3_makePale_2.1.2.1.2 rfl ?_
          refine zW_iload (pc' := 78) dX3_makePale_2.1.2.2.1 rfl rfl ?_
          refine zV_iald (pc' := 79) (tabL (by omega) (by omega)) (by omega) dX3_makePale_2.1.2.2.2 (by decide) rfl ?_
          refine zW_iload (pc' := 81) dX3_makePale_2.2.1.1.1 rfl rfl ?_
          refine zW_bipush (pc' := 83) dX3_makePale_2.2.1.1.2 rfl rfl ?_
          refine zW_iload_n (pc' := 84) dX3_makePale_2.2.1.2.1 rfl rfl ?_
          refine zW_imul (pc' := 85) dX3_makePale_2.2.1.2.2 rfl ?_
          refine zV_anyI (fun v85a e85a => ?_)
          unfold rng at e85a
          refine cvI3 (pc' := 88) kX3_paled vX3_paled lk_X3_101 ⟨Nat.le_of_ble_eq_true rfl, Nat.le_of_ble_eq_true rfl⟩ tb87 vq3 rfl rfl (s_X3_paled hF _ _ _ ⟨by omega, by omega⟩) dX3_makePale_2.2.2.1.1 (Nat.le_of_ble_eq_true rfl) rfl ?_
          rintro r85 z85 ⟨hz85, p85⟩; subst z85
          refine zS_lv (pc' := 89) hF (by omega) (by omega) hto (by omega) dX3_makePale_2.2.2.1.2 rfl (fun h i88 hF a88 b88 w88 => ?_)
          refine zW_iincW (ls' := [_, _, _, _, _, _, _, _]) (pc' := 95) dX3_makePale_2.2.2.2.1 rfl (by decide) rfl rfl rfl ?_
          refine zV_goto 57 dX3_makePale_2.2.2.2.2 rfl ?_
          exact k57 _ _ _ _ _ hF (by omega) (by omega) (by omega) (by omega) (by omega) (by omega)
  refine zM_of [some (.inr (.inr 87)), some (.inr (.inr s1)), some (.inr (.inr s2)), some (.inl x3), none, none, none, none] 4 rfl rfl (Nat.le_of_ble_eq_true rfl) rfl ?_
  refine zW_iconst (pc' := 1) dX3_makePale_0.1.1.1.1 rfl ?_
  refine zW_istore (ls' := [_, _, _, _, _, _, _, _]) (pc' := 3) dX3_makePale_0.1.1.1.2 (by decide) rfl rfl rfl ?_
  exact (main 10000000000000000000000000000000000000000).1 _ _ hF (by omega) (by omega) (by omega)

abbrev q_X3_bent (κ h : Hp) (x1 : Int) (x3 : Int) : Int → Hp → Prop := fun r h' => h' = h ∧ (True)
set_option maxHeartbeats 4000000 in
set_option maxRecDepth 20000 in
theorem s_X3_bent {G : Ga} {b : Bd} {κ h : Hp} (hK : KC κ) (hF : Fr b κ h) (x1 : Int) (x3 : Int) (hx3 : rng x3) : zM G mX3_bent yX3_bent [.inr (.inr 87), .inl x1, .inr (.inr 41), .inl x3] h (q_X3_bent κ h x1 x3) := by
  unfold rng at hx3
  have main : ∀ N : Nat, (∀ (v4 v5 : Int) , (-33 ≤ v4 ∧ v4 ≤ 31) → (0 ≤ v5 ∧ v5 ≤ 30) → 207360 + 81 * (30 - v5) + 80 < (N : Int) → zV G mX3_bent (q_X3_bent κ h x1 x3) 14 [some (.inr (.inr 87)), some (.inl x1), some (.inr (.inr 41)), some (.inl x3), some (.inl v4), some (.inl v5), none, none, none, none] [] h) ∧ (∀ (v4 v5 : Int) , (-33 ≤ v4 ∧ v4 ≤ 31) → (0 ≤ v5 ∧ v5 ≤ 30) → 163296 < (N : Int) → zV G mX3_bent (q_X3_bent κ h x1 x3) 47 [some (.inr (.inr 87)), some (.inl x1), some (.inr (.inr 41)), some (.inl x3), some (.inl v4), some (.inl v5), none, none, none, none] [] h) := by
    intro N
    induction N with
    | zero =>
      refine ⟨?_, ?_⟩
      · intro v4 v5 g0 g1 hm
        exfalso; omega
      · intro v4 v5 g0 g1 hm
        exfalso; omega
    | succ N ih =>
      obtain ⟨k14, k47⟩ := ih
      refine ⟨?_, ?_⟩
      · intro v4 v5 g0 g1 hm
        refine zW_iload (pc' := 16) dX3_bent_0.2.1.2.1 rfl rfl ?_
        refine zW_iload (pc' := 18) dX3_bent_0.2.1.2.2 rfl rfl ?_
        refine zW_iconst (pc' := 19) dX3_bent_0.2.2.1.1 rfl ?_
        refine zW_isub (pc' := 20) dX3_bent_0.2.2.1.2 rfl ?_
        refine zV_cm_ge (tgt := 47) (pc' := 23) dX3_bent_0.2.2.2.1 rfl rfl ⟨by omega, by omega⟩ ⟨by omega, by omega⟩ (fun c20 => ?_) (fun c20 => ?_)
        · exact k47 _ _ (by omega) (by omega) (by omega)
        · refine zW_bipush (pc' := 25) dX3_bent_0.2.2.2.2 rfl rfl ?_
          refine zW_aload_n (pc' := 26) dX3_bent_1.1.1.1.1 rfl rfl ?_
          refine zW_iload_n (pc' := 27) dX3_bent_1.1.1.1.2 rfl rfl ?_
          refine zW_iconst (pc' := 28) dX3_bent_1.1.1.2.1 rfl ?_
          refine zW_iload (pc' := 30) dX3_bent_1.1.1.2.2 rfl rfl ?_
          refine zW_imul (pc' := 31) dX3_bent_1.1.2.1.1 rfl ?_
          refine zW_iconst (pc' := 32) dX3_bent_1.1.2.1.2 rfl ?_
          refine zW_iadd (pc' := 33) dX3_bent_1.1.2.2.1 rfl ?_
          refine cvI2 (pc' := 36) kX7_numberOf vX7_numberOf lk_X3_114 ⟨Nat.le_of_ble_eq_true rfl, Nat.le_of_ble_eq_true rfl⟩ tb41 vq7 rfl rfl (s_X7_numberOf hK hF _ ⟨by omega, by omega⟩ _ ⟨by omega, by omega⟩) dX3_bent_1.1.2.2.2 (Nat.le_of_ble_eq_true rfl) rfl ?_
          rintro r33 z33 ⟨hz33, p33⟩; subst z33
          refine zW_imul (pc' := 37) dX3_bent_1.2.1.1.1 rfl ?_
          refine zW_iload_n (pc' := 38) dX3_bent_1.2.1.1.2 rfl rfl ?_
          refine zV_cmQ_gt (tgt := 47) (pc' := 41) dX3_bent_1.2.1.2.1 rfl rfl ?_ ?_
          · exact k47 _ _ (by omega) (by omega) (by omega)
          · refine zW_iinc (ls' := [_, _, _, _, _, _, _, _, _, _]) (pc' := 44) dX3_bent_1.2.1.2.2 rfl (by decide) rfl rfl rfl ?_
            refine zV_goto 14 dX3_bent_1.2.2.1.1 rfl ?_
            exact k14 _ _ (by omega) (by omega) (by omega)
      · intro v4 v5 g0 g1 hm
        refine zW_aload_n (pc' := 48) dX3_bent_1.2.2.1.2 rfl rfl ?_
        refine zW_iload_n (pc' := 49) dX3_bent_1.2.2.2.1 rfl rfl ?_
        refine zW_iconst (pc' := 50) dX3_bent_1.2.2.2.2 rfl ?_
        refine zW_iload (pc' := 52) dX3_bent_2.1.1.1.1 rfl rfl ?_
        refine zW_imul (pc' := 53) dX3_bent_2.1.1.1.2 rfl ?_
        refine cvI2 (pc' := 56) kX7_numberOf vX7_numberOf lk_X3_114 ⟨Nat.le_of_ble_eq_true rfl, Nat.le_of_ble_eq_true rfl⟩ tb41 vq7 rfl rfl (s_X7_numberOf hK hF _ ⟨by omega, by omega⟩ _ ⟨by omega, by omega⟩) dX3_bent_2.1.1.2.1 (Nat.le_of_ble_eq_true rfl) rfl ?_
        rintro r53 z53 ⟨hz53, p53⟩; subst z53
        refine zW_istore (ls' := [_, _, _, _, _, _, _, _, _, _]) (pc' := 58) dX3_bent_2.1.1.2.2 (by decide) rfl rfl rfl ?_
        refine zW_aload_n (pc' := 59) dX3_bent_2.1.2.1.1 rfl rfl ?_
        refine zW_iload_n (pc' := 60) dX3_bent_2.1.2.1.2 rfl rfl ?_
        refine zW_iconst (pc' := 61) dX3_bent_2.1.2.2.1 rfl ?_
        refine zW_iload (pc' := 63) dX3_bent_2.1.2.2.2 rfl rfl ?_
        refine zW_imul (pc' := 64) dX3_bent_2.2.1.1.1 rfl ?_
        refine zW_iconst (pc' := 65) dX3_bent_2.2.1.1.2 rfl ?_
        refine zW_iadd (pc' := 66) dX3_bent_2.2.1.2.1 rfl ?_
        refine cvI2 (pc' := 69) kX7_numberOf vX7_numberOf lk_X3_114 ⟨Nat.le_of_ble_eq_true rfl, Nat.le_of_ble_eq_true rfl⟩ tb41 vq7 rfl rfl (s_X7_numberOf hK hF _ ⟨by omega, by omega⟩ _ ⟨by omega, by omega⟩) dX3_bent_2.2.1.2.2 (Nat.le_of_ble_eq_true rfl) rfl ?_
        rintro r66 z66 ⟨hz66, p66⟩; subst z66
        refine zW_istore (ls' := [_, _, _, _, _, _, _, _, _, _]) (pc' := 71) dX3_bent_2.2.2.1.1 (by decide) rfl rfl rfl ?_
        refine zW_aload_n (pc' := 72) dX3_bent_2.2.2.1.2 rfl rfl ?_
        refine zW_iload_n (pc' := 73) dX3_bent_2.2.2.2.1 rfl rfl ?_
        refine zW_iconst (pc' := 74) dX3_bent_2.2.2.2.2 rfl ?_
        refine zW_iload (pc' := 76) dX3_bent_3.1.1.1.1 rfl rfl ?_
        refine zW_imul (pc' := 77) dX3_bent_3.1.1.1.2 rfl ?_
        refine zW_iconst (pc' := 78) dX3_bent_3.1.1.2.1 rfl ?_
        refine zW_iadd (pc' := 79) dX3_bent_3.1.1.2.2 rfl ?_
        refine cvI2 (pc' := 82) kX7_numberOf vX7_numberOf lk_X3_114 ⟨Nat.le_of_ble_eq_true rfl, Nat.le_of_ble_eq_true rfl⟩ tb41 vq7 rfl rfl (s_X7_numberOf hK hF _ ⟨by omega, by omega⟩ _ ⟨by omega, by omega⟩) dX3_bent_3.1.2.1.1 (Nat.le_of_ble_eq_true rfl) rfl ?_
        rintro r79 z79 ⟨hz79, p79⟩; subst z79
        refine zW_iload (pc' := 84) dX3_bent_3.1.2.1.2 rfl rfl ?_
        refine zW_isub (pc' := 85) dX3_bent_3.1.2.2.1 rfl ?_
        refine zV_anyI (fun v85a e85a => ?_)
        unfold rng at e85a
        refine zW_istore (ls' := [_, _, _, _, _, _, _, _, _, _]) (pc' := 87) dX3_bent_3.1.2.2.2 (by decide) rfl rfl rfl ?_
        refine zW_aload_n (pc' := 88) dX3_bent_3.2.1.1.1 rfl rfl ?_
        refine zW_iload_n (pc' := 89) dX3_bent_3.2.1.1.2 rfl rfl ?_
        refine zW_iconst (pc' := 90) dX3_bent_3.2.1.2.1 rfl ?_
        refine zW_iload (pc' := 92) dX3_bent_3.2.1.2.2 rfl rfl ?_
        refine zW_imul (pc' := 93) dX3_bent_3.2.2.1.1 rfl ?_
        refine zW_iconst (pc' := 94) dX3_bent_3.2.2.1.2 rfl ?_
        refine zW_iadd (pc' := 95) dX3_bent_3.2.2.2.1 rfl ?_
        refine cvI2 (pc' := 98) kX7_numberOf vX7_numberOf lk_X3_114 ⟨Nat.le_of_ble_eq_true rfl, Nat.le_of_ble_eq_true rfl⟩ tb41 vq7 rfl rfl (s_X7_numberOf hK hF _ ⟨by omega, by omega⟩ _ ⟨by omega, by omega⟩) dX3_bent_3.2.2.2.2 (Nat.le_of_ble_eq_true rfl) rfl ?_
        rintro r95 z95 ⟨hz95, p95⟩; subst z95
        refine zW_iload (pc' := 100) dX3_bent_4.1.1.1.1 rfl rfl ?_
        refine zW_isub (pc' := 101) dX3_bent_4.1.1.1.2 rfl ?_
        refine zW_istore (ls' := [_, _, _, _, _, _, _, _, _, _]) (pc' := 103) dX3_bent_4.1.1.2.1 (by decide) rfl rfl rfl ?_
        refine zW_iload (pc' := 105) dX3_bent_4.1.1.2.2 rfl rfl ?_
        refine zV_if_le (tgt := 133) (pc' := 108) dX3_bent_4.1.2.1.1 rfl rfl ⟨by omega, by omega⟩ (fun c105 => ?_) (fun c105 => ?_)
        · refine zW_bipush (pc' := 135) dX3_bent_5.1.2.2 rfl rfl ?_
          refine zW_iload (pc' := 137) dX3_bent_5.2.1.1 rfl rfl ?_
          refine zW_imul (pc' := 138) dX3_bent_5.2.1.2 rfl ?_
          refine csI1 (pc' := 141) kX11_clipped vX11_clipped lk_X3_55 ⟨Nat.le_of_ble_eq_true rfl, Nat.le_of_ble_eq_true rfl⟩ rfl (s_X11_clipped hF _) dX3_bent_5.2.2.1 (Nat.le_of_ble_eq_true rfl) rfl ?_
          rintro r138 z138 ⟨hz138, p138⟩; subst z138
          exact zV_iret rfl dX3_bent_5.2.2.2 ⟨rfl, trivial⟩
        · refine zW_bipush (pc' := 110) dX3_bent_4.1.2.1.2 rfl rfl ?_
          refine zW_iload (pc' := 112) dX3_bent_4.1.2.2.1 rfl rfl ?_
          refine zW_imul (pc' := 113) dX3_bent_4.1.2.2.2 rfl ?_
          refine zW_iload_n (pc' := 114) dX3_bent_4.2.1.1.1 rfl rfl ?_
          refine zW_bipush (pc' := 116) dX3_bent_4.2.1.1.2 rfl rfl ?_
          refine zW_iload (pc' := 118) dX3_bent_4.2.1.2.1 rfl rfl ?_
          refine zW_imul (pc' := 119) dX3_bent_4.2.1.2.2 rfl ?_
          refine zW_isub (pc' := 120) dX3_bent_4.2.2.1.1 rfl ?_
          refine zW_iload (pc' := 122) dX3_bent_4.2.2.1.2 rfl rfl ?_
          refine zW_imul (pc' := 123) dX3_bent_4.2.2.2.1 rfl ?_
          refine zW_iload (pc' := 125) dX3_bent_4.2.2.2.2 rfl rfl ?_
          refine zW_idivQ (pc' := 126) ⟨by omega, by omega⟩ (by omega) dX3_bent_5.1.1.1.1 rfl (fun v125 e125 => ?_)
          unfold rng at e125
          refine zW_iadd (pc' := 127) dX3_bent_5.1.1.1.2 rfl ?_
          refine csI1 (pc' := 130) kX11_clipped vX11_clipped lk_X3_55 ⟨Nat.le_of_ble_eq_true rfl, Nat.le_of_ble_eq_true rfl⟩ rfl (s_X11_clipped hF _) dX3_bent_5.1.1.2 (Nat.le_of_ble_eq_true rfl) rfl ?_
          rintro r127 z127 ⟨hz127, p127⟩; subst z127
          refine zV_goto 141 dX3_bent_5.1.2.1 rfl ?_
          exact zV_iret rfl dX3_bent_5.2.2.2 ⟨rfl, trivial⟩
  refine zM_of [some (.inr (.inr 87)), some (.inl x1), some (.inr (.inr 41)), some (.inl x3), none, none, none, none, none, none] 6 rfl rfl (Nat.le_of_ble_eq_true rfl) rfl ?_
  refine zW_aload_n (pc' := 1) dX3_bent_0.1.1.1.1 rfl rfl ?_
  refine zW_iload_n (pc' := 2) dX3_bent_0.1.1.1.2 rfl rfl ?_
  refine cvI1 (pc' := 5) kX7_numbersOf vX7_numbersOf lk_X3_109 ⟨Nat.le_of_ble_eq_true rfl, Nat.le_of_ble_eq_true rfl⟩ tb41 vq7 rfl rfl (s_X7_numbersOf hK hF _ ⟨by omega, by omega⟩) dX3_bent_0.1.1.2.1 (Nat.le_of_ble_eq_true rfl) rfl ?_
  rintro r2 z2 ⟨hz2, p2⟩; subst z2
  refine zW_iconst (pc' := 6) dX3_bent_0.1.1.2.2 rfl ?_
  refine zW_idivS (pc' := 7) ⟨by omega, by omega⟩ (by omega) dX3_bent_0.1.2.1.1 rfl (fun v6 e6 => ?_)
  refine zW_iconst (pc' := 8) dX3_bent_0.1.2.1.2 rfl ?_
  refine zW_isub (pc' := 9) dX3_bent_0.1.2.2.1 rfl ?_
  refine zW_istore (ls' := [_, _, _, _, _, _, _, _, _, _]) (pc' := 11) dX3_bent_0.1.2.2.2 (by decide) rfl rfl rfl ?_
  refine zW_iconst (pc' := 12) dX3_bent_0.2.1.1.1 rfl ?_
  refine zW_istore (ls' := [_, _, _, _, _, _, _, _, _, _]) (pc' := 14) dX3_bent_0.2.1.1.2 (by decide) rfl rfl rfl ?_
  exact (main 10000000000000000000000000000000000000000).1 _ _ (by omega) (by omega) (by omega)

abbrev q_X3_bend (b : Bd) (κ : Hp) (s1 : Nat) (s2 : Nat) (x4 : Int) : Int → Hp → Prop := fun r h' => Fr b κ h' ∧ (True)
set_option maxHeartbeats 4000000 in
set_option maxRecDepth 20000 in
theorem s_X3_bend {G : Ga} {b : Bd} {κ h : Hp} (hK : KC κ) (hF : Fr b κ h) (s1 : Nat) (hs1 : 56 ≤ s1 ∧ s1 ≤ 70) (s2 : Nat) (hs2 : 56 ≤ s2 ∧ s2 ≤ 70) (x4 : Int) (hx4 : rng x4) (hto : OkL b (s2 + 15)) : zM G mX3_bend yX3_bend [.inr (.inr 87), .inr (.inr s1), .inr (.inr s2), .inr (.inr 41), .inl x4] h (q_X3_bend b κ s1 s2 x4) := by
  have f_33_0 := KCw hK
  have f_33_1 := KCh hK
  unfold rng at hx4
  have main : ∀ N : Nat, (∀ (v5 : Int) (h : Hp), Fr b κ h → (0 ≤ v5 ∧ v5 ≤ 16) → (v5 - κ 33 1 ≤ 0) → 408319606800 + 553278600 * (16 - v5) + 540105300 < (N : Int) → zV G mX3_bend (q_X3_bend b κ s1 s2 x4) 3 [some (.inr (.inr 87)), some (.inr (.inr s1)), some (.inr (.inr s2)), some (.inr (.inr 41)), some (.inl x4), some (.inl v5), none, none] [] h) ∧ (∀ (v5 v6 : Int) (h : Hp), Fr b κ h → (0 ≤ v5 ∧ v5 ≤ 15) → (v5 - κ 33 1 ≤ -1) → (0 ≤ v6 ∧ v6 ≤ 16) → (v6 - κ 33 0 ≤ 0) → 408319606800 + 553278600 * (16 - v5) + 434718900 + 731850 * (16 - v6) + 710325 < (N : Int) → zV G mX3_bend (q_X3_bend b κ s1 s2 x4) 18 [some (.inr (.inr 87)), some (.inr (.inr s1)), some (.inr (.inr s2)), some (.inr (.inr 41)), some (.inl x4), some (.inl v5), some (.inl v6), none] [] h) ∧ (∀ (v5 v6 v7 : Int) (h : Hp), Fr b κ h → (0 ≤ v5 ∧ v5 ≤ 15) → (v5 - κ 33 1 ≤ -1) → (0 ≤ v6 ∧ v6 ≤ 15) → (v6 - κ 33 0 ≤ -1) → (0 ≤ v7 ∧ v7 ≤ 1023) → 408319606800 + 553278600 * (16 - v5) + 434718900 + 731850 * (16 - v6) + 430500 + 21 * (1023 - v7) + 20 < (N : Int) → zV G mX3_bend (q_X3_bend b κ s1 s2 x4) 40 [some (.inr (.inr 87)), some (.inr (.inr s1)), some (.inr (.inr s2)), some (.inr (.inr 41)), some (.inl x4), some (.inl v5), some (.inl v6), some (.inl v7)] [] h) := by
    intro N
    induction N with
    | zero =>
      refine ⟨?_, ?_, ?_⟩
      · intro v5 h hF g0 g1 hm
        exfalso; omega
      · intro v5 v6 h hF g0 g1 g2 g3 hm
        exfalso; omega
      · intro v5 v6 v7 h hF g0 g1 g2 g3 g4 hm
        exfalso; omega
    | succ N ih =>
      obtain ⟨k3, k18, k40⟩ := ih
      refine ⟨?_, ?_, ?_⟩
      · intro v5 h hF g0 g1 hm
        refine zW_iload (pc' := 5) dX3_bend_0.1.1.2.1 rfl rfl ?_
        refine zW_aload_n (pc' := 6) dX3_bend_0.1.1.2.2 rfl rfl ?_
        refine zG_ref (pc' := 9) 33 fg_X3_23 tb87 rfl dX3_bend_0.1.2.1.1 rfl ?_
        refine zG_key (pc' := 12) hF rfl fg_X3_42 tb33 rfl dX3_bend_0.1.2.1.2 rfl ?_
        refine zV_cm_ge (tgt := 90) (pc' := 15) dX3_bend_0.1.2.2.1 rfl rfl ⟨by omega, by omega⟩ ⟨by omega, by omega⟩ (fun c12 => ?_) (fun c12 => ?_)
        · exact zV_vret rfl dX3_bend_2.2.2.2 ⟨hF, trivial⟩
        · refine zW_iconst (pc' := 16) dX3_bend_0.1.2.2.2 rfl ?_
          refine zW_istore (ls' := [_, _, _, _, _, _, _, _]) (pc' := 18) dX3_bend_0.2.1.1.1 (by decide) rfl rfl rfl ?_
          exact k18 _ _ _ hF (by omega) (by omega) (by omega) (by omega) (by omega)
      · intro v5 v6 h hF g0 g1 g2 g3 hm
        refine zW_iload (pc' := 20) dX3_bend_0.2.1.1.2 rfl rfl ?_
        refine zW_aload_n (pc' := 21) dX3_bend_0.2.1.2.1 rfl rfl ?_
        refine zG_ref (pc' := 24) 33 fg_X3_23 tb87 rfl dX3_bend_0.2.1.2.2 rfl ?_
        refine zG_key (pc' := 27) hF rfl fg_X3_48 tb33 rfl dX3_bend_0.2.2.1.1 rfl ?_
        refine zV_cm_ge (tgt := 84) (pc' := 30) dX3_bend_0.2.2.1.2 rfl rfl ⟨by omega, by omega⟩ ⟨by omega, by omega⟩ (fun c27 => ?_) (fun c27 => ?_)
        · refine zW_iinc (ls' := [_, _, _, _, _, _, _, _]) (pc' := 87) dX3_bend_2.2.1.2 rfl (by decide) rfl rfl rfl ?_
          refine zV_goto 3 dX3_bend_2.2.2.1 rfl ?_
          refine zV_clr 6 (ls' := [_, _, _, _, _, _, _, _]) rfl ?_
          exact k3 _ _ hF (by omega) (by omega) (by omega)
        · refine zW_iload (pc' := 32) dX3_bend_0.2.2.2.1 rfl rfl ?_
          refine zW_bipush (pc' := 34) dX3_bend_0.2.2.2.2 rfl rfl ?_
          refine zW_imul (pc' := 35) dX3_bend_1.1.1.1.1 rfl ?_
          refine zW_iload (pc' := 37) dX3_bend_1.1.1.1.2 rfl rfl ?_
          refine zW_iadd (pc' := 38) dX3_bend_1.1.1.2.1 rfl ?_
          refine zW_istore (ls' := [_, _, _, _, _, _, _, _]) (pc' := 40) dX3_bend_1.1.1.2.2 (by decide) rfl rfl rfl ?_
          exact k40 _ _ _ _ hF (by omega) (by omega) (by omega) (by omega) (by omega) (by omega)
      · intro v5 v6 v7 h hF g0 g1 g2 g3 g4 hm
        refine zW_iload (pc' := 42) dX3_bend_1.1.2.1.1 rfl rfl ?_
        refine zW_sipush (pc' := 45) dX3_bend_1.1.2.1.2 rfl rfl ?_
        refine zV_cm_ge (tgt := 78) (pc' := 48) dX3_bend_1.1.2.2.1 rfl rfl ⟨by omega, by omega⟩ ⟨by omega, by omega⟩ (fun c45 => ?_) (fun c45 => ?_)
        · refine zW_iinc (ls' := [_, _, _, _, _, _, _, _]) (pc' := 81) dX3_bend_2.2.1.1.1 rfl (by decide) rfl rfl rfl ?_
          refine zV_goto 18 dX3_bend_2.2.1.1.2 rfl ?_
          refine zV_clr 7 (ls' := [_, _, _, _, _, _, _, _]) rfl ?_
          exact k18 _ _ _ hF (by omega) (by omega) (by omega) (by omega) (by omega)
        · refine zW_aload_n (pc' := 49) dX3_bend_1.1.2.2.2 rfl rfl ?_
          refine zG_lev (pc' := 52) (by omega) (by omega) fg_X3_27 dX3_bend_1.2.1.1.1 rfl ?_
          refine zW_iload (pc' := 54) dX3_bend_1.2.1.1.2 rfl rfl ?_
          refine zW_aload_n (pc' := 55) dX3_bend_1.2.1.2.1 rfl rfl ?_
          refine zW_aload_n (pc' := 56) dX3_bend_1.2.1.2.2 rfl rfl ?_
          refine zG_lev (pc' := 59) (by omega) (by omega) fg_X3_27 dX3_bend_1.2.2.1.1 rfl ?_
          refine zW_iload (pc' := 61) dX3_bend_1.2.2.1.2 rfl rfl ?_
          refine zV_iald (pc' := 62) (tabL (by omega) (by omega)) (by omega) dX3_bend_1.2.2.2.1 (by decide) rfl ?_
          refine zW_aload_n (pc' := 63) dX3_bend_1.2.2.2.2 rfl rfl ?_
          refine zW_iload (pc' := 65) dX3_bend_2.1.1.1.1 rfl rfl ?_
          refine cvI3 (pc' := 68) kX3_bent vX3_bent lk_X3_105 ⟨Nat.le_of_ble_eq_true rfl, Nat.le_of_ble_eq_true rfl⟩ tb87 vq3 rfl rfl (s_X3_bent hK hF _ _ ⟨by omega, by omega⟩) dX3_bend_2.1.1.1.2 (Nat.le_of_ble_eq_true rfl) rfl ?_
          rintro r65 z65 ⟨hz65, p65⟩; subst z65
          refine zS_lv (pc' := 69) hF (by omega) (by omega) hto (by omega) dX3_bend_2.1.1.2 rfl (fun h i68 hF a68 b68 w68 => ?_)
          refine zW_iincW (ls' := [_, _, _, _, _, _, _, _]) (pc' := 75) dX3_bend_2.1.2.1 rfl (by decide) rfl rfl rfl ?_
          refine zV_goto 40 dX3_bend_2.1.2.2 rfl ?_
          exact k40 _ _ _ _ hF (by omega) (by omega) (by omega) (by omega) (by omega) (by omega)
  refine zM_of [some (.inr (.inr 87)), some (.inr (.inr s1)), some (.inr (.inr s2)), some (.inr (.inr 41)), some (.inl x4), none, none, none] 3 rfl rfl (Nat.le_of_ble_eq_true rfl) rfl ?_
  refine zW_iconst (pc' := 1) dX3_bend_0.1.1.1.1 rfl ?_
  refine zW_istore (ls' := [_, _, _, _, _, _, _, _]) (pc' := 3) dX3_bend_0.1.1.1.2 (by decide) rfl rfl rfl ?_
  exact (main 10000000000000000000000000000000000000000).1 _ _ hF (by omega) (by omega) (by omega)

abbrev q_X3_layBase (b : Bd) (κ : Hp) (s1 : Nat) (x2 : Int) (x3 : Int) (x4 : Int) : Int → Hp → Prop := fun r h' => Fr b κ h' ∧ (True)
set_option maxHeartbeats 4000000 in
set_option maxRecDepth 20000 in
theorem s_X3_layBase {G : Ga} {b : Bd} {κ h : Hp} (hK : KC κ) (hF : Fr b κ h) (s1 : Nat) (hs1 : 56 ≤ s1 ∧ s1 ≤ 70) (x2 : Int) (hx2 : 0 ≤ x2 ∧ x2 ≤ 15 ∧ x2 - κ 33 0 ≤ -1) (x3 : Int) (hx3 : 0 ≤ x3 ∧ x3 ≤ 15 ∧ x3 - κ 33 1 ≤ -1) (x4 : Int) (hx4 : 1 ≤ x4 ∧ x4 ≤ 16) : zM G mX3_layBase yX3_layBase [.inr (.inr 87), .inr (.inr s1), .inl x2, .inl x3, .inl x4] h (q_X3_layBase b κ s1 x2 x3 x4) := by
  have f_33_0 := KCw hK
  have f_33_1 := KCh hK
  have main : ∀ N : Nat, (∀ (v5 v6 v7 v8 : Int) (h : Hp), Fr b κ h → (1 ≤ v5 ∧ v5 ≤ 16) → (1 ≤ v6 ∧ v6 ≤ 16) → (0 ≤ v8 ∧ v8 ≤ 16) → 51217920 + 44460 * (16 - v8) + 43776 < (N : Int) → zV G mX3_layBase (q_X3_layBase b κ s1 x2 x3 x4) 38 [some (.inr (.inr 87)), some (.inr (.inr s1)), some (.inl x2), some (.inl x3), some (.inl x4), some (.inl v5), some (.inl v6), some (.inl v7), some (.inl v8), none, none, none] [] h) ∧ (∀ (v5 v6 v7 v8 v9 v10 : Int) (h : Hp), Fr b κ h → (1 ≤ v5 ∧ v5 ≤ 16) → (1 ≤ v6 ∧ v6 ≤ 16) → (rng v8) → (rng v9) → (0 ≤ v10 ∧ v10 ≤ 16) → 34412040 + 44460 * (16 - v10) + 29412 < (N : Int) → zV G mX3_layBase (q_X3_layBase b κ s1 x2 x3 x4) 117 [some (.inr (.inr 87)), some (.inr (.inr s1)), some (.inl x2), some (.inl x3), some (.inl x4), some (.inl v5), some (.inl v6), some (.inl v7), some (.inl v8), some (.inl v9), some (.inl v10), none] [] h) ∧ (∀ (v5 v6 v7 v8 v9 v10 v11 : Int) (h : Hp), Fr b κ h → (1 ≤ v5 ∧ v5 ≤ 16) → (1 ≤ v6 ∧ v6 ≤ 16) → (rng v8) → (rng v9) → (0 ≤ v10 ∧ v10 ≤ 15) → (0 ≤ v11 ∧ v11 ≤ 16) → 34412040 + 44460 * (16 - v10) + 25308 + 38 * (16 - v11) + 37 < (N : Int) → zV G mX3_layBase (q_X3_layBase b κ s1 x2 x3 x4) 127 [some (.inr (.inr 87)), some (.inr (.inr s1)), some (.inl x2), some (.inl x3), some (.inl x4), some (.inl v5), some (.inl v6), some (.inl v7), some (.inl v8), some (.inl v9), some (.inl v10), some (.inl v11)] [] h) ∧ (∀ (v5 v6 v7 v8 v9 : Int) (h : Hp), Fr b κ h → (1 ≤ v5 ∧ v5 ≤ 16) → (1 ≤ v6 ∧ v6 ≤ 16) → (0 ≤ v8 ∧ v8 ≤ 15) → (0 ≤ v9 ∧ v9 ≤ 16) → 51217920 + 44460 * (16 - v8) + 12996 + 38 * (16 - v9) + 19 < (N : Int) → zV G mX3_layBase (q_X3_layBase b κ s1 x2 x3 x4) 48 [some (.inr (.inr 87)), some (.inr (.inr s1)), some (.inl x2), some (.inl x3), some (.inl x4), some (.inl v5), some (.inl v6), some (.inl v7), some (.inl v8), some (.inl v9), none, none] [] h) := by
    intro N
    induction N with
    | zero =>
      refine ⟨?_, ?_, ?_, ?_⟩
      · intro v5 v6 v7 v8 h hF g0 g1 g2 hm
        exfalso; omega
      · intro v5 v6 v7 v8 v9 v10 h hF g0 g1 g2 g3 g4 hm
        unfold rng at g2
        unfold rng at g3
        exfalso; omega
      · intro v5 v6 v7 v8 v9 v10 v11 h hF g0 g1 g2 g3 g4 g5 hm
        unfold rng at g2
        unfold rng at g3
        exfalso; omega
      · intro v5 v6 v7 v8 v9 h hF g0 g1 g2 g3 hm
        exfalso; omega
    | succ N ih =>
      obtain ⟨k38, k117, k127, k48⟩ := ih
      refine ⟨?_, ?_, ?_, ?_⟩
      · intro v5 v6 v7 v8 h hF g0 g1 g2 hm
        refine zW_iload (pc' := 40) dX3_layBase_1.1.2.1.1 rfl rfl ?_
        refine zW_iload (pc' := 42) dX3_layBase_1.1.2.1.2 rfl rfl ?_
        refine zV_cm_ge (tgt := 87) (pc' := 45) dX3_layBase_1.1.2.2.1 rfl rfl ⟨by omega, by omega⟩ ⟨by omega, by omega⟩ (fun c42 => ?_) (fun c42 => ?_)
        · refine zW_iload (pc' := 89) dX3_layBase_2.2.1.2.2 rfl rfl ?_
          refine zW_iload_n (pc' := 90) dX3_layBase_2.2.2.1.1 rfl rfl ?_
          refine zW_isub (pc' := 91) dX3_layBase_2.2.2.1.2 rfl ?_
          refine zW_iload (pc' := 93) dX3_layBase_2.2.2.2.1 rfl rfl ?_
          refine zW_iload_n (pc' := 94) dX3_layBase_2.2.2.2.2 rfl rfl ?_
          refine zW_isub (pc' := 95) dX3_layBase_3.1.1.1.1 rfl ?_
          refine zW_imul (pc' := 96) dX3_layBase_3.1.1.1.2 rfl ?_
          refine zV_anyI (fun v96a e96a => ?_)
          unfold rng at e96a
          refine zW_istore (ls' := [_, _, _, _, _, _, _, _, _, _, _, _]) (pc' := 98) dX3_layBase_3.1.1.2.1 (by decide) rfl rfl rfl ?_
          refine zW_iload (pc' := 100) dX3_layBase_3.1.1.2.2 rfl rfl ?_
          refine zV_if_le (tgt := 111) (pc' := 103) dX3_layBase_3.1.2.1.1 rfl rfl ⟨by omega, by omega⟩ (fun c100 => ?_) (fun c100 => ?_)
          · refine zW_iconst (pc' := 112) dX3_layBase_3.2.1.1.2 rfl ?_
            refine zW_istore (ls' := [_, _, _, _, _, _, _, _, _, _, _, _]) (pc' := 114) dX3_layBase_3.2.1.2.1 (by decide) rfl rfl rfl ?_
            refine zW_iload_n (pc' := 115) dX3_layBase_3.2.1.2.2 rfl rfl ?_
            refine zW_istore (ls' := [_, _, _, _, _, _, _, _, _, _, _, _]) (pc' := 117) dX3_layBase_3.2.2.1.1 (by decide) rfl rfl rfl ?_
            exact k117 _ _ _ _ _ _ _ hF (by omega) (by omega) ⟨by omega, by omega⟩ ⟨by omega, by omega⟩ (by omega) (by omega)
          · refine zW_iload (pc' := 105) dX3_layBase_3.1.2.1.2 rfl rfl ?_
            refine zW_iload (pc' := 107) dX3_layBase_3.1.2.2.1 rfl rfl ?_
            refine zW_idivQ (pc' := 108) ⟨by omega, by omega⟩ (by omega) dX3_layBase_3.1.2.2.2 rfl (fun v107 e107 => ?_)
            unfold rng at e107
            refine zV_goto 112 dX3_layBase_3.2.1.1.1 rfl ?_
            refine zW_istore (ls' := [_, _, _, _, _, _, _, _, _, _, _, _]) (pc' := 114) dX3_layBase_3.2.1.2.1 (by decide) rfl rfl rfl ?_
            refine zW_iload_n (pc' := 115) dX3_layBase_3.2.1.2.2 rfl rfl ?_
            refine zW_istore (ls' := [_, _, _, _, _, _, _, _, _, _, _, _]) (pc' := 117) dX3_layBase_3.2.2.1.1 (by decide) rfl rfl rfl ?_
            exact k117 _ _ _ _ _ _ _ hF (by omega) (by omega) ⟨by omega, by omega⟩ ⟨by omega, by omega⟩ (by omega) (by omega)
        · refine zW_iload_n (pc' := 46) dX3_layBase_1.1.2.2.2 rfl rfl ?_
          refine zW_istore (ls' := [_, _, _, _, _, _, _, _, _, _, _, _]) (pc' := 48) dX3_layBase_1.2.1.1.1 (by decide) rfl rfl rfl ?_
          exact k48 _ _ _ _ _ _ hF (by omega) (by omega) (by omega) (by omega) (by omega)
      · intro v5 v6 v7 v8 v9 v10 h hF g0 g1 g2 g3 g4 hm
        unfold rng at g2
        unfold rng at g3
        refine zW_iload (pc' := 119) dX3_layBase_3.2.2.1.2 rfl rfl ?_
        refine zW_iload (pc' := 121) dX3_layBase_3.2.2.2.1 rfl rfl ?_
        refine zV_cm_ge (tgt := 161) (pc' := 124) dX3_layBase_3.2.2.2.2 rfl rfl ⟨by omega, by omega⟩ ⟨by omega, by omega⟩ (fun c121 => ?_) (fun c121 => ?_)
        · exact zV_vret rfl dX3_layBase_5.2 ⟨hF, trivial⟩
        · refine zW_iload_n (pc' := 125) dX3_layBase_4.1.1.1.1 rfl rfl ?_
          refine zW_istore (ls' := [_, _, _, _, _, _, _, _, _, _, _, _]) (pc' := 127) dX3_layBase_4.1.1.1.2 (by decide) rfl rfl rfl ?_
          exact k127 _ _ _ _ _ _ _ _ hF (by omega) (by omega) ⟨by omega, by omega⟩ ⟨by omega, by omega⟩ (by omega) (by omega) (by omega)
      · intro v5 v6 v7 v8 v9 v10 v11 h hF g0 g1 g2 g3 g4 g5 hm
        unfold rng at g2
        unfold rng at g3
        refine zW_iload (pc' := 129) dX3_layBase_4.1.1.2.1 rfl rfl ?_
        refine zW_iload (pc' := 131) dX3_layBase_4.1.1.2.2 rfl rfl ?_
        refine zV_cm_ge (tgt := 155) (pc' := 134) dX3_layBase_4.1.2.1.1 rfl rfl ⟨by omega, by omega⟩ ⟨by omega, by omega⟩ (fun c131 => ?_) (fun c131 => ?_)
        · refine zW_iinc (ls' := [_, _, _, _, _, _, _, _, _, _, _, _]) (pc' := 158) dX3_layBase_5.1.1 rfl (by decide) rfl rfl rfl ?_
          refine zV_goto 117 dX3_layBase_5.1.2 rfl ?_
          refine zV_clr 11 (ls' := [_, _, _, _, _, _, _, _, _, _, _, _]) rfl ?_
          exact k117 _ _ _ _ _ _ _ hF (by omega) (by omega) ⟨by omega, by omega⟩ ⟨by omega, by omega⟩ (by omega) (by omega)
        · refine zW_aload_n (pc' := 135) dX3_layBase_4.1.2.1.2 rfl rfl ?_
          refine zG_ref (pc' := 138) 88 fg_X3_9 tb87 rfl dX3_layBase_4.1.2.2.1 rfl ?_
          refine zW_iload (pc' := 140) dX3_layBase_4.1.2.2.2 rfl rfl ?_
          refine zW_bipush (pc' := 142) dX3_layBase_4.2.1.1.1 rfl rfl ?_
          refine zW_imul (pc' := 143) dX3_layBase_4.2.1.1.2 rfl ?_
          refine zW_iload (pc' := 145) dX3_layBase_4.2.1.2.1 rfl rfl ?_
          refine zW_iadd (pc' := 146) dX3_layBase_4.2.1.2.2 rfl ?_
          refine zW_iload (pc' := 148) dX3_layBase_4.2.2.1.1 rfl rfl ?_
          refine zS_i (pc' := 149) hF rfl tb88 (by omega) dX3_layBase_4.2.2.1.2 (by decide) rfl (fun h i148 hF a148 b148 w148 => ?_)
          refine zW_iinc (ls' := [_, _, _, _, _, _, _, _, _, _, _, _]) (pc' := 152) dX3_layBase_4.2.2.2.1 rfl (by decide) rfl rfl rfl ?_
          refine zV_goto 127 dX3_layBase_4.2.2.2.2 rfl ?_
          exact k127 _ _ _ _ _ _ _ _ hF (by omega) (by omega) ⟨by omega, by omega⟩ ⟨by omega, by omega⟩ (by omega) (by omega) (by omega)
      · intro v5 v6 v7 v8 v9 h hF g0 g1 g2 g3 hm
        refine zW_iload (pc' := 50) dX3_layBase_1.2.1.1.2 rfl rfl ?_
        refine zW_iload (pc' := 52) dX3_layBase_1.2.1.2.1 rfl rfl ?_
        refine zV_cm_ge (tgt := 81) (pc' := 55) dX3_layBase_1.2.1.2.2 rfl rfl ⟨by omega, by omega⟩ ⟨by omega, by omega⟩ (fun c52 => ?_) (fun c52 => ?_)
        · refine zW_iinc (ls' := [_, _, _, _, _, _, _, _, _, _, _, _]) (pc' := 84) dX3_layBase_2.2.1.1.2 rfl (by decide) rfl rfl rfl ?_
          refine zV_goto 38 dX3_layBase_2.2.1.2.1 rfl ?_
          refine zV_clr 9 (ls' := [_, _, _, _, _, _, _, _, _, _, _, _]) rfl ?_
          exact k38 _ _ _ _ _ hF (by omega) (by omega) (by omega) (by omega)
        · refine zW_iload (pc' := 57) dX3_layBase_1.2.2.1.1 rfl rfl ?_
          refine zW_aload_n (pc' := 58) dX3_layBase_1.2.2.1.2 rfl rfl ?_
          refine zG_lev (pc' := 61) (by omega) (by omega) fg_X3_27 dX3_layBase_1.2.2.2.1 rfl ?_
          refine zW_iload (pc' := 63) dX3_layBase_1.2.2.2.2 rfl rfl ?_
          refine zW_bipush (pc' := 65) dX3_layBase_2.1.1.1.1 rfl rfl ?_
          refine zW_imul (pc' := 66) dX3_layBase_2.1.1.1.2 rfl ?_
          refine zW_iload (pc' := 68) dX3_layBase_2.1.1.2.1 rfl rfl ?_
          refine zW_iadd (pc' := 69) dX3_layBase_2.1.1.2.2 rfl ?_
          refine csI2 (pc' := 72) kX11_lightOf vX11_lightOf lk_X3_98 ⟨Nat.le_of_ble_eq_true rfl, Nat.le_of_ble_eq_true rfl⟩ rfl (s_X11_lightOf hF _ ⟨by omega, by omega⟩ _ ⟨by omega, by omega⟩) dX3_layBase_2.1.2.1.1 (Nat.le_of_ble_eq_true rfl) rfl ?_
          rintro r69 z69 ⟨hz69, p69⟩; subst z69
          refine zW_iadd (pc' := 73) dX3_layBase_2.1.2.1.2 rfl ?_
          refine zW_istore (ls' := [_, _, _, _, _, _, _, _, _, _, _, _]) (pc' := 75) dX3_layBase_2.1.2.2.1 (by decide) rfl rfl rfl ?_
          refine zW_iinc (ls' := [_, _, _, _, _, _, _, _, _, _, _, _]) (pc' := 78) dX3_layBase_2.1.2.2.2 rfl (by decide) rfl rfl rfl ?_
          refine zV_goto 48 dX3_layBase_2.2.1.1.1 rfl ?_
          exact k48 _ _ _ _ _ _ hF (by omega) (by omega) (by omega) (by omega) (by omega)
  refine zM_of [some (.inr (.inr 87)), some (.inr (.inr s1)), some (.inl x2), some (.inl x3), some (.inl x4), none, none, none, none, none, none, none] 7 rfl rfl (Nat.le_of_ble_eq_true rfl) rfl ?_
  refine zW_aload_n (pc' := 1) dX3_layBase_0.1.1.1.1 rfl rfl ?_
  refine zG_ref (pc' := 4) 33 fg_X3_23 tb87 rfl dX3_layBase_0.1.1.1.2 rfl ?_
  refine zG_key (pc' := 7) hF rfl fg_X3_48 tb33 rfl dX3_layBase_0.1.1.2.1 rfl ?_
  refine zW_iload_n (pc' := 8) dX3_layBase_0.1.1.2.2 rfl rfl ?_
  refine zW_iload (pc' := 10) dX3_layBase_0.1.2.1.1 rfl rfl ?_
  refine zW_iadd (pc' := 11) dX3_layBase_0.1.2.1.2 rfl ?_
  refine zV_mmin (pc' := 14) km_X3_86 (Nat.le_of_ble_eq_true rfl) (Nat.le_of_ble_eq_true rfl) dX3_layBase_0.1.2.2.1 rfl (fun v11 e11 => ?_)
  replace e11 := e11.2 ⟨by omega, by omega⟩ ⟨by omega, by omega⟩
  refine zW_istore (ls' := [_, _, _, _, _, _, _, _, _, _, _, _]) (pc' := 16) dX3_layBase_0.1.2.2.2 (by decide) rfl rfl rfl ?_
  refine zW_aload_n (pc' := 17) dX3_layBase_0.2.1.1.1 rfl rfl ?_
  refine zG_ref (pc' := 20) 33 fg_X3_23 tb87 rfl dX3_layBase_0.2.1.1.2 rfl ?_
  refine zG_key (pc' := 23) hF rfl fg_X3_42 tb33 rfl dX3_layBase_0.2.1.2.1 rfl ?_
  refine zW_iload_n (pc' := 24) dX3_layBase_0.2.1.2.2 rfl rfl ?_
  refine zW_iload (pc' := 26) dX3_layBase_0.2.2.1.1 rfl rfl ?_
  refine zW_iadd (pc' := 27) dX3_layBase_0.2.2.1.2 rfl ?_
  refine zV_mmin (pc' := 30) km_X3_86 (Nat.le_of_ble_eq_true rfl) (Nat.le_of_ble_eq_true rfl) dX3_layBase_0.2.2.2.1 rfl (fun v27 e27 => ?_)
  replace e27 := e27.2 ⟨by omega, by omega⟩ ⟨by omega, by omega⟩
  refine zW_istore (ls' := [_, _, _, _, _, _, _, _, _, _, _, _]) (pc' := 32) dX3_layBase_0.2.2.2.2 (by decide) rfl rfl rfl ?_
  refine zW_iconst (pc' := 33) dX3_layBase_1.1.1.1.1 rfl ?_
  refine zW_istore (ls' := [_, _, _, _, _, _, _, _, _, _, _, _]) (pc' := 35) dX3_layBase_1.1.1.1.2 (by decide) rfl rfl rfl ?_
  refine zW_iload_n (pc' := 36) dX3_layBase_1.1.1.2.1 rfl rfl ?_
  refine zW_istore (ls' := [_, _, _, _, _, _, _, _, _, _, _, _]) (pc' := 38) dX3_layBase_1.1.1.2.2 (by decide) rfl rfl rfl ?_
  exact (main 10000000000000000000000000000000000000000).1 _ _ _ _ _ hF (by omega) (by omega) (by omega) (by omega)

abbrev q_X3_findBases (b : Bd) (κ : Hp) (s1 : Nat) (x2 : Int) : Int → Hp → Prop := fun r h' => Fr b κ h' ∧ (True)
set_option maxHeartbeats 4000000 in
set_option maxRecDepth 20000 in
theorem s_X3_findBases {G : Ga} {b : Bd} {κ h : Hp} (hK : KC κ) (hF : Fr b κ h) (s1 : Nat) (hs1 : 56 ≤ s1 ∧ s1 ≤ 70) (x2 : Int) (hx2 : rng x2) : zM G mX3_findBases yX3_findBases [.inr (.inr 87), .inr (.inr s1), .inl x2] h (q_X3_findBases b κ s1 x2) := by
  have f_33_0 := KCw hK
  have f_33_1 := KCh hK
  unfold rng at hx2
  have main : ∀ N : Nat, (∀ (v3 v4 : Int) (h : Hp), Fr b κ h → (1 ≤ v3 ∧ v3 ≤ 16) → (0 ≤ v4 ∧ v4 ≤ 31) → 23293710 + 23529 * (31 - v4) + 22770 < (N : Int) → zV G mX3_findBases (q_X3_findBases b κ s1 x2) 15 [some (.inr (.inr 87)), some (.inr (.inr s1)), some (.inl x2), some (.inl v3), some (.inl v4), none] [] h) ∧ (∀ (v3 v4 v5 : Int) (h : Hp), Fr b κ h → (1 ≤ v3 ∧ v3 ≤ 16) → (0 ≤ v4 ∧ v4 ≤ 15) → (v4 - κ 33 1 ≤ -1) → (0 ≤ v5 ∧ v5 ≤ 31) → 23293710 + 23529 * (31 - v4) + 16698 + 23 * (31 - v5) + 22 < (N : Int) → zV G mX3_findBases (q_X3_findBases b κ s1 x2) 30 [some (.inr (.inr 87)), some (.inr (.inr s1)), some (.inl x2), some (.inl v3), some (.inl v4), some (.inl v5)] [] h) := by
    intro N
    induction N with
    | zero =>
      refine ⟨?_, ?_⟩
      · intro v3 v4 h hF g0 g1 hm
        exfalso; omega
      · intro v3 v4 v5 h hF g0 g1 g2 g3 hm
        exfalso; omega
    | succ N ih =>
      obtain ⟨k15, k30⟩ := ih
      refine ⟨?_, ?_⟩
      · intro v3 v4 h hF g0 g1 hm
        refine zW_iload (pc' := 17) dX3_findBases_0.2.1.2.1 rfl rfl ?_
        refine zW_aload_n (pc' := 18) dX3_findBases_0.2.1.2.2 rfl rfl ?_
        refine zG_ref (pc' := 21) 33 fg_X3_23 tb87 rfl dX3_findBases_0.2.2.1.1 rfl ?_
        refine zG_key (pc' := 24) hF rfl fg_X3_42 tb33 rfl dX3_findBases_0.2.2.1.2 rfl ?_
        refine zV_cm_ge (tgt := 70) (pc' := 27) dX3_findBases_0.2.2.2.1 rfl rfl ⟨by omega, by omega⟩ ⟨by omega, by omega⟩ (fun c24 => ?_) (fun c24 => ?_)
        · exact zV_vret rfl dX3_findBases_2.2.2 ⟨hF, trivial⟩
        · refine zW_iconst (pc' := 28) dX3_findBases_0.2.2.2.2 rfl ?_
          refine zW_istore (ls' := [_, _, _, _, _, _]) (pc' := 30) dX3_findBases_1.1.1.1.1 (by decide) rfl rfl rfl ?_
          exact k30 _ _ _ _ hF (by omega) (by omega) (by omega) (by omega) (by omega)
      · intro v3 v4 v5 h hF g0 g1 g2 g3 hm
        refine zW_iload (pc' := 32) dX3_findBases_1.1.1.1.2 rfl rfl ?_
        refine zW_aload_n (pc' := 33) dX3_findBases_1.1.1.2.1 rfl rfl ?_
        refine zG_ref (pc' := 36) 33 fg_X3_23 tb87 rfl dX3_findBases_1.1.1.2.2 rfl ?_
        refine zG_key (pc' := 39) hF rfl fg_X3_48 tb33 rfl dX3_findBases_1.1.2.1.1 rfl ?_
        refine zV_cm_ge (tgt := 61) (pc' := 42) dX3_findBases_1.1.2.1.2 rfl rfl ⟨by omega, by omega⟩ ⟨by omega, by omega⟩ (fun c39 => ?_) (fun c39 => ?_)
        · refine zW_iload (pc' := 63) dX3_findBases_2.1.1.2 rfl rfl ?_
          refine zW_iload_n (pc' := 64) dX3_findBases_2.1.2.1 rfl rfl ?_
          refine zW_iadd (pc' := 65) dX3_findBases_2.1.2.2 rfl ?_
          refine zW_istore (ls' := [_, _, _, _, _, _]) (pc' := 67) dX3_findBases_2.2.1.1 (by decide) rfl rfl rfl ?_
          refine zV_goto 15 dX3_findBases_2.2.1.2 rfl ?_
          refine zV_clr 5 (ls' := [_, _, _, _, _, _]) rfl ?_
          exact k15 _ _ _ hF (by omega) (by omega) (by omega)
        · refine zW_aload_n (pc' := 43) dX3_findBases_1.1.2.2.1 rfl rfl ?_
          refine zW_aload_n (pc' := 44) dX3_findBases_1.1.2.2.2 rfl rfl ?_
          refine zW_iload (pc' := 46) dX3_findBases_1.2.1.1.1 rfl rfl ?_
          refine zW_iload (pc' := 48) dX3_findBases_1.2.1.1.2 rfl rfl ?_
          refine zW_iload_n (pc' := 49) dX3_findBases_1.2.1.2.1 rfl rfl ?_
          refine cvV4 (pc' := 52) kX3_layBase vX3_layBase lk_X3_125 ⟨Nat.le_of_ble_eq_true rfl, Nat.le_of_ble_eq_true rfl⟩ tb87 vq3 rfl rfl (s_X3_layBase hK hF _ ⟨by omega, by omega⟩ _ ⟨by omega, by omega, by omega⟩ _ ⟨by omega, by omega, by omega⟩ _ ⟨by omega, by omega⟩) dX3_findBases_1.2.1.2.2 (Nat.le_of_ble_eq_true rfl) rfl ?_
          rintro r49 h ⟨hF, p49⟩
          refine zW_iload (pc' := 54) dX3_findBases_1.2.2.1.1 rfl rfl ?_
          refine zW_iload_n (pc' := 55) dX3_findBases_1.2.2.1.2 rfl rfl ?_
          refine zW_iadd (pc' := 56) dX3_findBases_1.2.2.2.1 rfl ?_
          refine zW_istore (ls' := [_, _, _, _, _, _]) (pc' := 58) dX3_findBases_1.2.2.2.2 (by decide) rfl rfl rfl ?_
          refine zV_goto 30 dX3_findBases_2.1.1.1 rfl ?_
          exact k30 _ _ _ _ hF (by omega) (by omega) (by omega) (by omega) (by omega)
  refine zM_of [some (.inr (.inr 87)), some (.inr (.inr s1)), some (.inl x2), none, none, none] 3 rfl rfl (Nat.le_of_ble_eq_true rfl) rfl ?_
  refine zW_iconst (pc' := 1) dX3_findBases_0.1.1.1.1 rfl ?_
  refine zW_iconst (pc' := 2) dX3_findBases_0.1.1.1.2 rfl ?_
  refine zW_iconst (pc' := 3) dX3_findBases_0.1.1.2.1 rfl ?_
  refine zW_iload_n (pc' := 4) dX3_findBases_0.1.1.2.2 rfl rfl ?_
  refine zV_mmin (pc' := 7) km_X3_86 (Nat.le_of_ble_eq_true rfl) (Nat.le_of_ble_eq_true rfl) dX3_findBases_0.1.2.1.1 rfl (fun v4 e4 => ?_)
  replace e4 := e4.2 ⟨by omega, by omega⟩ ⟨by omega, by omega⟩
  refine zV_mmax (pc' := 10) km_X3_91 (Nat.le_of_ble_eq_true rfl) (Nat.le_of_ble_eq_true rfl) dX3_findBases_0.1.2.1.2 rfl (fun v7 e7 => ?_)
  replace e7 := e7.2 ⟨by omega, by omega⟩ ⟨by omega, by omega⟩
  refine zW_shlV (pc' := 11) (by omega) dX3_findBases_0.1.2.2.1 rfl (fun v10 e10 => ?_)
  refine zW_istore_n (ls' := [_, _, _, _, _, _]) (pc' := 12) dX3_findBases_0.1.2.2.2 (by decide) rfl rfl rfl ?_
  refine zW_iconst (pc' := 13) dX3_findBases_0.2.1.1.1 rfl ?_
  refine zW_istore (ls' := [_, _, _, _, _, _]) (pc' := 15) dX3_findBases_0.2.1.1.2 (by decide) rfl rfl rfl ?_
  exact (main 10000000000000000000000000000000000000000).1 _ _ _ hF (by omega) (by omega) (by omega)

abbrev q_X3_addToAll (b : Bd) (κ : Hp) (s1 : Nat) (s2 : Nat) (x3 : Int) (x4 : Int) : Int → Hp → Prop := fun r h' => Fr b κ h' ∧ (True)
set_option maxHeartbeats 4000000 in
set_option maxRecDepth 20000 in
theorem s_X3_addToAll {G : Ga} {b : Bd} {κ h : Hp} (hF : Fr b κ h) (s1 : Nat) (hs1 : 56 ≤ s1 ∧ s1 ≤ 70) (s2 : Nat) (hs2 : 56 ≤ s2 ∧ s2 ≤ 70) (x3 : Int) (hx3 : 0 ≤ x3 ∧ x3 ≤ 255) (x4 : Int) (hto : OkL b (s2 + 15)) : zM G mX3_addToAll yX3_addToAll [.inr (.inr 87), .inr (.inr s1), .inr (.inr s2), .inl x3, .inl x4] h (q_X3_addToAll b κ s1 s2 x3 x4) := by
  have main : ∀ N : Nat, (∀ (v5 : Int) (h : Hp), Fr b κ h → (0 ≤ v5 ∧ v5 ≤ 1023) → 350550 + 19 * (1023 - v5) + 18 < (N : Int) → zV G mX3_addToAll (q_X3_addToAll b κ s1 s2 x3 x4) 3 [some (.inr (.inr 87)), some (.inr (.inr s1)), some (.inr (.inr s2)), some (.inl x3), some (.inl x4), some (.inl v5)] [] h) := by
    intro N
    induction N with
    | zero =>
      intro v5 h hF g0 hm
      exfalso; omega
    | succ N ih =>
      have k3 := ih
      intro v5 h hF g0 hm
      refine zW_iload (pc' := 5) dX3_addToAll_0.1.1.2.1 rfl rfl ?_
      refine zW_sipush (pc' := 8) dX3_addToAll_0.1.1.2.2 rfl rfl ?_
      refine zV_cm_ge (tgt := 40) (pc' := 11) dX3_addToAll_0.1.2.1.1 rfl rfl ⟨by omega, by omega⟩ ⟨by omega, by omega⟩ (fun c8 => ?_) (fun c8 => ?_)
      · exact zV_vret rfl dX3_addToAll_1.2 ⟨hF, trivial⟩
      · refine zW_aload_n (pc' := 12) dX3_addToAll_0.1.2.1.2 rfl rfl ?_
        refine zG_lev (pc' := 15) (by omega) (by omega) fg_X3_27 dX3_addToAll_0.1.2.2.1 rfl ?_
        refine zW_iload (pc' := 17) dX3_addToAll_0.1.2.2.2 rfl rfl ?_
        refine zW_aload_n (pc' := 18) dX3_addToAll_0.2.1.1.1 rfl rfl ?_
        refine zG_lev (pc' := 21) (by omega) (by omega) fg_X3_27 dX3_addToAll_0.2.1.1.2 rfl ?_
        refine zW_iload (pc' := 23) dX3_addToAll_0.2.1.2.1 rfl rfl ?_
        refine zV_iald (pc' := 24) (tabL (by omega) (by omega)) (by omega) dX3_addToAll_0.2.1.2.2 (by decide) rfl ?_
        refine zW_iload (pc' := 26) dX3_addToAll_0.2.2.1.1 rfl rfl ?_
        refine zW_iadd (pc' := 27) dX3_addToAll_0.2.2.1.2 rfl ?_
        refine csI1 (pc' := 30) kX11_clipped vX11_clipped lk_X3_55 ⟨Nat.le_of_ble_eq_true rfl, Nat.le_of_ble_eq_true rfl⟩ rfl (s_X11_clipped hF _) dX3_addToAll_0.2.2.2.1 (Nat.le_of_ble_eq_true rfl) rfl ?_
        rintro r27 z27 ⟨hz27, p27⟩; subst z27
        refine zS_lv (pc' := 31) hF (by omega) (by omega) hto (by omega) dX3_addToAll_0.2.2.2.2 rfl (fun h i30 hF a30 b30 w30 => ?_)
        refine zW_iincW (ls' := [_, _, _, _, _, _]) (pc' := 37) dX3_addToAll_1.1.1 rfl (by decide) rfl rfl rfl ?_
        refine zV_goto 3 dX3_addToAll_1.1.2 rfl ?_
        exact k3 _ _ hF (by omega) (by omega)
  refine zM_of [some (.inr (.inr 87)), some (.inr (.inr s1)), some (.inr (.inr s2)), some (.inl x3), some (.inl x4), none] 1 rfl rfl (Nat.le_of_ble_eq_true rfl) rfl ?_
  refine zW_iload_n (pc' := 1) dX3_addToAll_0.1.1.1.1 rfl rfl ?_
  refine zW_istore (ls' := [_, _, _, _, _, _]) (pc' := 3) dX3_addToAll_0.1.1.1.2 (by decide) rfl rfl rfl ?_
  exact (main 10000000000000000000000000000000000000000) _ _ hF (by omega) (by omega)

abbrev q_X3_evenBlocks (b : Bd) (κ : Hp) (s1 : Nat) (s2 : Nat) (x3 : Int) (x4 : Int) : Int → Hp → Prop := fun r h' => Fr b κ h' ∧ (True)
set_option maxHeartbeats 4000000 in
set_option maxRecDepth 20000 in
theorem s_X3_evenBlocks {G : Ga} {b : Bd} {κ h : Hp} (hK : KC κ) (hF : Fr b κ h) (s1 : Nat) (hs1 : 56 ≤ s1 ∧ s1 ≤ 70) (s2 : Nat) (hs2 : 56 ≤ s2 ∧ s2 ≤ 70) (x3 : Int) (hx3 : rng x3) (x4 : Int) (hto : OkL b (s2 + 15)) : zM G mX3_evenBlocks yX3_evenBlocks [.inr (.inr 87), .inr (.inr s1), .inr (.inr s2), .inl x3, .inl x4] h (q_X3_evenBlocks b κ s1 s2 x3 x4) := by
  have f_33_0 := KCw hK
  have f_33_1 := KCh hK
  unfold rng at hx3
  have main : ∀ N : Nat, (∀ (v5 v6 : Int) (h : Hp), Fr b κ h → (0 ≤ v6 ∧ v6 ≤ 16) → (v6 - κ 33 1 ≤ 0) → 135753408 + 87696 * (16 - v6) + 86688 < (N : Int) → zV G mX3_evenBlocks (q_X3_evenBlocks b κ s1 s2 x3 x4) 12 [some (.inr (.inr 87)), some (.inr (.inr s1)), some (.inr (.inr s2)), some (.inl x3), some (.inl x4), some (.inl v5), some (.inl v6), none, none, none] [] h) ∧ (∀ (v5 v6 v7 v8 : Int) (h : Hp), Fr b κ h → (rng v6) → (rng v7) → (0 ≤ v8 ∧ v8 ≤ 16) → (v8 - κ 33 1 ≤ 0) → 99447264 + 87696 * (16 - v8) + 63504 < (N : Int) → zV G mX3_evenBlocks (q_X3_evenBlocks b κ s1 s2 x3 x4) 107 [some (.inr (.inr 87)), some (.inr (.inr s1)), some (.inr (.inr s2)), some (.inl x3), some (.inl x4), some (.inl v5), some (.inl v6), some (.inl v7), some (.inl v8), none] [] h) ∧ (∀ (v5 v6 v7 v8 v9 : Int) (h : Hp), Fr b κ h → (rng v6) → (rng v7) → (0 ≤ v8 ∧ v8 ≤ 15) → (v8 - κ 33 1 ≤ -1) → (0 ≤ v9 ∧ v9 ≤ 16) → (v9 - κ 33 0 ≤ 0) → 99447264 + 87696 * (16 - v8) + 55440 + 56 * (16 - v9) + 55 < (N : Int) → zV G mX3_evenBlocks (q_X3_evenBlocks b κ s1 s2 x3 x4) 122 [some (.inr (.inr 87)), some (.inr (.inr s1)), some (.inr (.inr s2)), some (.inl x3), some (.inl x4), some (.inl v5), some (.inl v6), some (.inl v7), some (.inl v8), some (.inl v9)] [] h) ∧ (∀ (v5 v6 v7 : Int) (h : Hp), Fr b κ h → (0 ≤ v6 ∧ v6 ≤ 15) → (v6 - κ 33 1 ≤ -1) → (0 ≤ v7 ∧ v7 ≤ 16) → (v7 - κ 33 0 ≤ 0) → 135753408 + 87696 * (16 - v6) + 21168 + 56 * (16 - v7) + 21 < (N : Int) → zV G mX3_evenBlocks (q_X3_evenBlocks b κ s1 s2 x3 x4) 27 [some (.inr (.inr 87)), some (.inr (.inr s1)), some (.inr (.inr s2)), some (.inl x3), some (.inl x4), some (.inl v5), some (.inl v6), some (.inl v7), none, none] [] h) := by
    intro N
    induction N with
    | zero =>
      refine ⟨?_, ?_, ?_, ?_⟩
      · intro v5 v6 h hF g0 g1 hm
        exfalso; omega
      · intro v5 v6 v7 v8 h hF g0 g1 g2 g3 hm
        unfold rng at g0
        unfold rng at g1
        exfalso; omega
      · intro v5 v6 v7 v8 v9 h hF g0 g1 g2 g3 g4 g5 hm
        unfold rng at g0
        unfold rng at g1
        exfalso; omega
      · intro v5 v6 v7 h hF g0 g1 g2 g3 hm
        exfalso; omega
    | succ N ih =>
      obtain ⟨k12, k107, k122, k27⟩ := ih
      refine ⟨?_, ?_, ?_, ?_⟩
      · intro v5 v6 h hF g0 g1 hm
        refine zW_iload (pc' := 14) dX3_evenBlocks_0.2.1.1.1 rfl rfl ?_
        refine zW_aload_n (pc' := 15) dX3_evenBlocks_0.2.1.1.2 rfl rfl ?_
        refine zG_ref (pc' := 18) 33 fg_X3_23 tb87 rfl dX3_evenBlocks_0.2.1.2.1 rfl ?_
        refine zG_key (pc' := 21) hF rfl fg_X3_42 tb33 rfl dX3_evenBlocks_0.2.1.2.2 rfl ?_
        refine zV_cm_ge (tgt := 71) (pc' := 24) dX3_evenBlocks_0.2.2.1.1 rfl rfl ⟨by omega, by omega⟩ ⟨by omega, by omega⟩ (fun c21 => ?_) (fun c21 => ?_)
        · refine zW_aload_n (pc' := 72) dX3_evenBlocks_2.1.1.2.2 rfl rfl ?_
          refine zG_ref (pc' := 75) 33 fg_X3_23 tb87 rfl dX3_evenBlocks_2.1.2.1.1 rfl ?_
          refine zG_key (pc' := 78) hF rfl fg_X3_48 tb33 rfl dX3_evenBlocks_2.1.2.1.2 rfl ?_
          refine zW_aload_n (pc' := 79) dX3_evenBlocks_2.1.2.2.1 rfl rfl ?_
          refine zG_ref (pc' := 82) 33 fg_X3_23 tb87 rfl dX3_evenBlocks_2.1.2.2.2 rfl ?_
          refine zG_key (pc' := 85) hF rfl fg_X3_42 tb33 rfl dX3_evenBlocks_2.2.1.1.1 rfl ?_
          refine zW_imul (pc' := 86) dX3_evenBlocks_2.2.1.1.2 rfl ?_
          refine zV_anyI (fun v86a e86a => ?_)
          unfold rng at e86a
          refine zW_istore (ls' := [_, _, _, _, _, _, _, _, _, _]) (pc' := 88) dX3_evenBlocks_2.2.1.2.1 (by decide) rfl rfl rfl ?_
          refine zW_iload (pc' := 90) dX3_evenBlocks_2.2.1.2.2 rfl rfl ?_
          refine zV_if_le (tgt := 101) (pc' := 93) dX3_evenBlocks_2.2.2.1.1 rfl rfl ⟨by omega, by omega⟩ (fun c90 => ?_) (fun c90 => ?_)
          · refine zW_iconst (pc' := 102) dX3_evenBlocks_3.1.1.1.2 rfl ?_
            refine zW_istore (ls' := [_, _, _, _, _, _, _, _, _, _]) (pc' := 104) dX3_evenBlocks_3.1.1.2.1 (by decide) rfl rfl rfl ?_
            refine zW_iconst (pc' := 105) dX3_evenBlocks_3.1.1.2.2 rfl ?_
            refine zW_istore (ls' := [_, _, _, _, _, _, _, _, _, _]) (pc' := 107) dX3_evenBlocks_3.1.2.1.1 (by decide) rfl rfl rfl ?_
            exact k107 _ _ _ _ _ hF ⟨by omega, by omega⟩ ⟨by omega, by omega⟩ (by omega) (by omega) (by omega)
          · refine zW_iload (pc' := 95) dX3_evenBlocks_2.2.2.1.2 rfl rfl ?_
            refine zW_iload (pc' := 97) dX3_evenBlocks_2.2.2.2.1 rfl rfl ?_
            refine zW_idivQ (pc' := 98) ⟨by omega, by omega⟩ (by omega) dX3_evenBlocks_2.2.2.2.2 rfl (fun v97 e97 => ?_)
            unfold rng at e97
            refine zV_goto 102 dX3_evenBlocks_3.1.1.1.1 rfl ?_
            refine zW_istore (ls' := [_, _, _, _, _, _, _, _, _, _]) (pc' := 104) dX3_evenBlocks_3.1.1.2.1 (by decide) rfl rfl rfl ?_
            refine zW_iconst (pc' := 105) dX3_evenBlocks_3.1.1.2.2 rfl ?_
            refine zW_istore (ls' := [_, _, _, _, _, _, _, _, _, _]) (pc' := 107) dX3_evenBlocks_3.1.2.1.1 (by decide) rfl rfl rfl ?_
            exact k107 _ _ _ _ _ hF ⟨by omega, by omega⟩ ⟨by omega, by omega⟩ (by omega) (by omega) (by omega)
        · refine zW_iconst (pc' := 25) dX3_evenBlocks_0.2.2.1.2 rfl ?_
          refine zW_istore (ls' := [_, _, _, _, _, _, _, _, _, _]) (pc' := 27) dX3_evenBlocks_0.2.2.2.1 (by decide) rfl rfl rfl ?_
          exact k27 _ _ _ _ hF (by omega) (by omega) (by omega) (by omega) (by omega)
      · intro v5 v6 v7 v8 h hF g0 g1 g2 g3 hm
        unfold rng at g0
        unfold rng at g1
        refine zW_iload (pc' := 109) dX3_evenBlocks_3.1.2.1.2 rfl rfl ?_
        refine zW_aload_n (pc' := 110) dX3_evenBlocks_3.1.2.2.1 rfl rfl ?_
        refine zG_ref (pc' := 113) 33 fg_X3_23 tb87 rfl dX3_evenBlocks_3.1.2.2.2 rfl ?_
        refine zG_key (pc' := 116) hF rfl fg_X3_42 tb33 rfl dX3_evenBlocks_3.2.1.1.1 rfl ?_
        refine zV_cm_ge (tgt := 182) (pc' := 119) dX3_evenBlocks_3.2.1.1.2 rfl rfl ⟨by omega, by omega⟩ ⟨by omega, by omega⟩ (fun c116 => ?_) (fun c116 => ?_)
        · exact zV_vret rfl dX3_evenBlocks_5.2.2.2 ⟨hF, trivial⟩
        · refine zW_iconst (pc' := 120) dX3_evenBlocks_3.2.1.2.1 rfl ?_
          refine zW_istore (ls' := [_, _, _, _, _, _, _, _, _, _]) (pc' := 122) dX3_evenBlocks_3.2.1.2.2 (by decide) rfl rfl rfl ?_
          exact k122 _ _ _ _ _ _ hF ⟨by omega, by omega⟩ ⟨by omega, by omega⟩ (by omega) (by omega) (by omega) (by omega) (by omega)
      · intro v5 v6 v7 v8 v9 h hF g0 g1 g2 g3 g4 g5 hm
        unfold rng at g0
        unfold rng at g1
        refine zW_iload (pc' := 124) dX3_evenBlocks_3.2.2.1.1 rfl rfl ?_
        refine zW_aload_n (pc' := 125) dX3_evenBlocks_3.2.2.1.2 rfl rfl ?_
        refine zG_ref (pc' := 128) 33 fg_X3_23 tb87 rfl dX3_evenBlocks_3.2.2.2.1 rfl ?_
        refine zG_key (pc' := 131) hF rfl fg_X3_48 tb33 rfl dX3_evenBlocks_3.2.2.2.2 rfl ?_
        refine zV_cm_ge (tgt := 176) (pc' := 134) dX3_evenBlocks_4.1.1.1.1 rfl rfl ⟨by omega, by omega⟩ ⟨by omega, by omega⟩ (fun c131 => ?_) (fun c131 => ?_)
        · refine zW_iinc (ls' := [_, _, _, _, _, _, _, _, _, _]) (pc' := 179) dX3_evenBlocks_5.2.2.1.1 rfl (by decide) rfl rfl rfl ?_
          refine zV_goto 107 dX3_evenBlocks_5.2.2.1.2 rfl ?_
          refine zV_clr 9 (ls' := [_, _, _, _, _, _, _, _, _, _]) rfl ?_
          exact k107 _ _ _ _ _ hF ⟨by omega, by omega⟩ ⟨by omega, by omega⟩ (by omega) (by omega) (by omega)
        · refine zW_aload_n (pc' := 135) dX3_evenBlocks_4.1.1.1.2 rfl rfl ?_
          refine zW_aload_n (pc' := 136) dX3_evenBlocks_4.1.1.2.1 rfl rfl ?_
          refine zW_aload_n (pc' := 137) dX3_evenBlocks_4.1.1.2.2 rfl rfl ?_
          refine zW_iload (pc' := 139) dX3_evenBlocks_4.1.2.1.1 rfl rfl ?_
          refine zW_bipush (pc' := 141) dX3_evenBlocks_4.1.2.1.2 rfl rfl ?_
          refine zW_imul (pc' := 142) dX3_evenBlocks_4.1.2.2.1 rfl ?_
          refine zW_iload (pc' := 144) dX3_evenBlocks_4.1.2.2.2 rfl rfl ?_
          refine zW_iadd (pc' := 145) dX3_evenBlocks_4.2.1.1.1 rfl ?_
          refine zW_iload (pc' := 147) dX3_evenBlocks_4.2.1.1.2 rfl rfl ?_
          refine zW_aload_n (pc' := 148) dX3_evenBlocks_4.2.1.2.1 rfl rfl ?_
          refine zG_ref (pc' := 151) 88 fg_X3_9 tb87 rfl dX3_evenBlocks_4.2.1.2.2 rfl ?_
          refine zW_iload (pc' := 153) dX3_evenBlocks_4.2.2.1.1 rfl rfl ?_
          refine zW_bipush (pc' := 155) dX3_evenBlocks_4.2.2.1.2 rfl rfl ?_
          refine zW_imul (pc' := 156) dX3_evenBlocks_4.2.2.2.1 rfl ?_
          refine zW_iload (pc' := 158) dX3_evenBlocks_4.2.2.2.2 rfl rfl ?_
          refine zW_iadd (pc' := 159) dX3_evenBlocks_5.1.1.1.1 rfl ?_
          refine zV_iald (pc' := 160) tb88 (by omega) dX3_evenBlocks_5.1.1.1.2 (by decide) rfl ?_
          refine zW_isub (pc' := 161) dX3_evenBlocks_5.1.1.2.1 rfl ?_
          refine zW_iload (pc' := 163) dX3_evenBlocks_5.1.1.2.2 rfl rfl ?_
          refine zW_imul (pc' := 164) dX3_evenBlocks_5.1.2.1.1 rfl ?_
          refine zW_bipush (pc' := 166) dX3_evenBlocks_5.1.2.1.2 rfl rfl ?_
          refine zW_idivQ (pc' := 167) ⟨by omega, by omega⟩ (by omega) dX3_evenBlocks_5.1.2.2 rfl (fun v166 e166 => ?_)
          unfold rng at e166
          refine cvV4 (pc' := 170) kX3_addToAll vX3_addToAll lk_X3_121 ⟨Nat.le_of_ble_eq_true rfl, Nat.le_of_ble_eq_true rfl⟩ tb87 vq3 rfl rfl (s_X3_addToAll hF _ ⟨by omega, by omega⟩ _ ⟨by omega, by omega⟩ _ ⟨by omega, by omega⟩ _ hto) dX3_evenBlocks_5.2.1.1.1 (Nat.le_of_ble_eq_true rfl) rfl ?_
          rintro r167 h ⟨hF, p167⟩
          refine zW_iinc (ls' := [_, _, _, _, _, _, _, _, _, _]) (pc' := 173) dX3_evenBlocks_5.2.1.1.2 rfl (by decide) rfl rfl rfl ?_
          refine zV_goto 122 dX3_evenBlocks_5.2.1.2 rfl ?_
          exact k122 _ _ _ _ _ _ hF ⟨by omega, by omega⟩ ⟨by omega, by omega⟩ (by omega) (by omega) (by omega) (by omega) (by omega)
      · intro v5 v6 v7 h hF g0 g1 g2 g3 hm
        refine zW_iload (pc' := 29) dX3_evenBlocks_0.2.2.2.2 rfl rfl ?_
        refine zW_aload_n (pc' := 30) dX3_evenBlocks_1.1.1.1.1 rfl rfl ?_
        refine zG_ref (pc' := 33) 33 fg_X3_23 tb87 rfl dX3_evenBlocks_1.1.1.1.2 rfl ?_
        refine zG_key (pc' := 36) hF rfl fg_X3_48 tb33 rfl dX3_evenBlocks_1.1.1.2.1 rfl ?_
        refine zV_cm_ge (tgt := 65) (pc' := 39) dX3_evenBlocks_1.1.1.2.2 rfl rfl ⟨by omega, by omega⟩ ⟨by omega, by omega⟩ (fun c36 => ?_) (fun c36 => ?_)
        · refine zW_iinc (ls' := [_, _, _, _, _, _, _, _, _, _]) (pc' := 68) dX3_evenBlocks_2.1.1.1.2 rfl (by decide) rfl rfl rfl ?_
          refine zV_goto 12 dX3_evenBlocks_2.1.1.2.1 rfl ?_
          refine zV_clr 7 (ls' := [_, _, _, _, _, _, _, _, _, _]) rfl ?_
          exact k12 _ _ _ hF (by omega) (by omega) (by omega)
        · refine zW_iload (pc' := 41) dX3_evenBlocks_1.1.2.1.1 rfl rfl ?_
          refine zW_aload_n (pc' := 42) dX3_evenBlocks_1.1.2.1.2 rfl rfl ?_
          refine zG_lev (pc' := 45) (by omega) (by omega) fg_X3_27 dX3_evenBlocks_1.1.2.2.1 rfl ?_
          refine zW_iload (pc' := 47) dX3_evenBlocks_1.1.2.2.2 rfl rfl ?_
          refine zW_bipush (pc' := 49) dX3_evenBlocks_1.2.1.1.1 rfl rfl ?_
          refine zW_imul (pc' := 50) dX3_evenBlocks_1.2.1.1.2 rfl ?_
          refine zW_iload (pc' := 52) dX3_evenBlocks_1.2.1.2.1 rfl rfl ?_
          refine zW_iadd (pc' := 53) dX3_evenBlocks_1.2.1.2.2 rfl ?_
          refine csI2 (pc' := 56) kX11_lightOf vX11_lightOf lk_X3_98 ⟨Nat.le_of_ble_eq_true rfl, Nat.le_of_ble_eq_true rfl⟩ rfl (s_X11_lightOf hF _ ⟨by omega, by omega⟩ _ ⟨by omega, by omega⟩) dX3_evenBlocks_1.2.2.1.1 (Nat.le_of_ble_eq_true rfl) rfl ?_
          rintro r53 z53 ⟨hz53, p53⟩; subst z53
          refine zW_iadd (pc' := 57) dX3_evenBlocks_1.2.2.1.2 rfl ?_
          refine zW_istore (ls' := [_, _, _, _, _, _, _, _, _, _]) (pc' := 59) dX3_evenBlocks_1.2.2.2.1 (by decide) rfl rfl rfl ?_
          refine zW_iinc (ls' := [_, _, _, _, _, _, _, _, _, _]) (pc' := 62) dX3_evenBlocks_1.2.2.2.2 rfl (by decide) rfl rfl rfl ?_
          refine zV_goto 27 dX3_evenBlocks_2.1.1.1.1 rfl ?_
          exact k27 _ _ _ _ hF (by omega) (by omega) (by omega) (by omega) (by omega)
  refine zM_of [some (.inr (.inr 87)), some (.inr (.inr s1)), some (.inr (.inr s2)), some (.inl x3), some (.inl x4), none, none, none, none, none] 5 rfl rfl (Nat.le_of_ble_eq_true rfl) rfl ?_
  refine zW_aload_n (pc' := 1) dX3_evenBlocks_0.1.1.1.1 rfl rfl ?_
  refine zW_aload_n (pc' := 2) dX3_evenBlocks_0.1.1.1.2 rfl rfl ?_
  refine zW_iload_n (pc' := 3) dX3_evenBlocks_0.1.1.2.1 rfl rfl ?_
  refine cvV2 (pc' := 6) kX3_findBases vX3_findBases lk_X3_117 ⟨Nat.le_of_ble_eq_true rfl, Nat.le_of_ble_eq_true rfl⟩ tb87 vq3 rfl rfl (s_X3_findBases hK hF _ ⟨by omega, by omega⟩ _ ⟨by omega, by omega⟩) dX3_evenBlocks_0.1.1.2.2 (Nat.le_of_ble_eq_true rfl) rfl ?_
  rintro r3 h ⟨hF, p3⟩
  refine zW_iconst (pc' := 7) dX3_evenBlocks_0.1.2.1.1 rfl ?_
  refine zW_istore (ls' := [_, _, _, _, _, _, _, _, _, _]) (pc' := 9) dX3_evenBlocks_0.1.2.1.2 (by decide) rfl rfl rfl ?_
  refine zW_iconst (pc' := 10) dX3_evenBlocks_0.1.2.2.1 rfl ?_
  refine zW_istore (ls' := [_, _, _, _, _, _, _, _, _, _]) (pc' := 12) dX3_evenBlocks_0.1.2.2.2 (by decide) rfl rfl rfl ?_
  exact (main 10000000000000000000000000000000000000000).1 _ _ _ hF (by omega) (by omega) (by omega)

abbrev q_X3_buildFloor (b : Bd) (κ : Hp) (l1 : Nat) (l2 : Nat) (x3 : Int) (x4 : Int) : Int → Hp → Prop := fun r h' => Fr b κ h' ∧ (True)
set_option maxHeartbeats 4000000 in
set_option maxRecDepth 20000 in
theorem s_X3_buildFloor {G : Ga} {b : Bd} {κ h : Hp} (hF : Fr b κ h) (l1 : Nat) (hl1 : 90 ≤ l1 ∧ l1 ≤ 93) (l2 : Nat) (hl2 : 90 ≤ l2 ∧ l2 ≤ 93) (x3 : Int) (hx3 : 1 ≤ x3 ∧ x3 ≤ 16) (x4 : Int) (hx4 : 1 ≤ x4 ∧ x4 ≤ 16) : zM G mX3_buildFloor yX3_buildFloor [.inr (.inr 87), .inr (.inr l1), .inr (.inr l2), .inl x3, .inl x4] h (q_X3_buildFloor b κ l1 l2 x3 x4) := by
  have main : ∀ N : Nat, (∀ (v5 : Int) (h : Hp), Fr b κ h → (0 ≤ v5 ∧ v5 ≤ 17) → 346379500 + 182305 * (17 - v5) + 180500 < (N : Int) → zV G mX3_buildFloor (q_X3_buildFloor b κ l1 l2 x3 x4) 3 [some (.inr (.inr 87)), some (.inr (.inr l1)), some (.inr (.inr l2)), some (.inl x3), some (.inl x4), some (.inl v5), none, none, none, none, none] [] h) ∧ (∀ (v5 v6 : Int) (h : Hp), Fr b κ h → (0 ≤ v5 ∧ v5 ≤ 15) → (0 ≤ v6 ∧ v6 ≤ 17) → 346379500 + 182305 * (17 - v5) + 169670 + 95 * (17 - v6) + 94 < (N : Int) → zV G mX3_buildFloor (q_X3_buildFloor b κ l1 l2 x3 x4) 13 [some (.inr (.inr 87)), some (.inr (.inr l1)), some (.inr (.inr l2)), some (.inl x3), some (.inl x4), some (.inl v5), some (.inl v6), none, none, none, none] [] h) := by
    intro N
    induction N with
    | zero =>
      refine ⟨?_, ?_⟩
      · intro v5 h hF g0 hm
        exfalso; omega
      · intro v5 v6 h hF g0 g1 hm
        exfalso; omega
    | succ N ih =>
      obtain ⟨k3, k13⟩ := ih
      refine ⟨?_, ?_⟩
      · intro v5 h hF g0 hm
        refine zW_iload (pc' := 5) dX3_buildFloor_0.1.1.2.1 rfl rfl ?_
        refine zW_iload (pc' := 7) dX3_buildFloor_0.1.1.2.2 rfl rfl ?_
        refine zV_cm_ge (tgt := 173) (pc' := 10) dX3_buildFloor_0.1.2.1.1 rfl rfl ⟨by omega, by omega⟩ ⟨by omega, by omega⟩ (fun c7 => ?_) (fun c7 => ?_)
        · exact zV_vret rfl dX3_buildFloor_6.2.2 ⟨hF, trivial⟩
        · refine zW_iconst (pc' := 11) dX3_buildFloor_0.1.2.1.2 rfl ?_
          refine zW_istore (ls' := [_, _, _, _, _, _, _, _, _, _, _]) (pc' := 13) dX3_buildFloor_0.1.2.2.1 (by decide) rfl rfl rfl ?_
          exact k13 _ _ _ hF (by omega) (by omega) (by omega)
      · intro v5 v6 h hF g0 g1 hm
        refine zW_iload (pc' := 15) dX3_buildFloor_0.1.2.2.2 rfl rfl ?_
        refine zW_iload_n (pc' := 16) dX3_buildFloor_0.2.1.1.1 rfl rfl ?_
        refine zV_cm_ge (tgt := 167) (pc' := 19) dX3_buildFloor_0.2.1.1.2 rfl rfl ⟨by omega, by omega⟩ ⟨by omega, by omega⟩ (fun c16 => ?_) (fun c16 => ?_)
        · refine zW_iinc (ls' := [_, _, _, _, _, _, _, _, _, _, _]) (pc' := 170) dX3_buildFloor_6.1.2 rfl (by decide) rfl rfl rfl ?_
          refine zV_goto 3 dX3_buildFloor_6.2.1 rfl ?_
          refine zV_clr 6 (ls' := [_, _, _, _, _, _, _, _, _, _, _]) rfl ?_
          exact k3 _ _ hF (by omega) (by omega)
        · refine zW_iload (pc' := 21) dX3_buildFloor_0.2.1.2.1 rfl rfl ?_
          refine zW_iconst (pc' := 22) dX3_buildFloor_0.2.1.2.2 rfl ?_
          refine zW_iadd (pc' := 23) dX3_buildFloor_0.2.2.1.1 rfl ?_
          refine zW_iload_n (pc' := 24) dX3_buildFloor_0.2.2.1.2 rfl rfl ?_
          refine zV_cm_ge (tgt := 31) (pc' := 27) dX3_buildFloor_0.2.2.2.1 rfl rfl ⟨by omega, by omega⟩ ⟨by omega, by omega⟩ (fun c24 => ?_) (fun c24 => ?_)
          · refine zW_iconst (pc' := 32) dX3_buildFloor_1.1.1.1.2 rfl ?_
            refine zW_istore (ls' := [_, _, _, _, _, _, _, _, _, _, _]) (pc' := 34) dX3_buildFloor_1.1.1.2.1 (by decide) rfl rfl rfl ?_
            refine zW_iload (pc' := 36) dX3_buildFloor_1.1.1.2.2 rfl rfl ?_
            refine zW_iconst (pc' := 37) dX3_buildFloor_1.1.2.1.1 rfl ?_
            refine zW_iadd (pc' := 38) dX3_buildFloor_1.1.2.1.2 rfl ?_
            refine zW_iload (pc' := 40) dX3_buildFloor_1.1.2.2.1 rfl rfl ?_
            refine zV_cm_ge (tgt := 47) (pc' := 43) dX3_buildFloor_1.1.2.2.2 rfl rfl ⟨by omega, by omega⟩ ⟨by omega, by omega⟩ (fun c40 => ?_) (fun c40 => ?_)
            · refine zW_iconst (pc' := 48) dX3_buildFloor_1.2.1.2.1 rfl ?_
              refine zW_istore (ls' := [_, _, _, _, _, _, _, _, _, _, _]) (pc' := 50) dX3_buildFloor_1.2.1.2.2 (by decide) rfl rfl rfl ?_
              refine zW_iload (pc' := 52) dX3_buildFloor_1.2.2.1.1 rfl rfl ?_
              refine zW_bipush (pc' := 54) dX3_buildFloor_1.2.2.1.2 rfl rfl ?_
              refine zW_imul (pc' := 55) dX3_buildFloor_1.2.2.2.1 rfl ?_
              refine zW_iload (pc' := 57) dX3_buildFloor_1.2.2.2.2 rfl rfl ?_
              refine zW_iadd (pc' := 58) dX3_buildFloor_2.1.1.1.1 rfl ?_
              refine zW_istore (ls' := [_, _, _, _, _, _, _, _, _, _, _]) (pc' := 60) dX3_buildFloor_2.1.1.1.2 (by decide) rfl rfl rfl ?_
              refine zW_aload_n (pc' := 61) dX3_buildFloor_2.1.1.2.1 rfl rfl ?_
              refine zW_iload (pc' := 63) dX3_buildFloor_2.1.1.2.2 rfl rfl ?_
              refine zV_iald (pc' := 64) (tabP (by omega) (by omega)) (by omega) dX3_buildFloor_2.1.2.1.1 (by decide) rfl ?_
              refine zW_iload (pc' := 66) dX3_buildFloor_2.1.2.1.2 rfl rfl ?_
              refine zV_if_eq (tgt := 78) (pc' := 69) dX3_buildFloor_2.1.2.2.1 rfl rfl ⟨by omega, by omega⟩ (fun c66 => ?_) (fun c66 => ?_)
              · refine zW_iconst (pc' := 79) dX3_buildFloor_2.2.2.1.2 rfl ?_
                refine zW_iadd (pc' := 80) dX3_buildFloor_2.2.2.2.1 rfl ?_
                refine zW_iload (pc' := 82) dX3_buildFloor_2.2.2.2.2 rfl rfl ?_
                refine zV_if_eq (tgt := 95) (pc' := 85) dX3_buildFloor_3.1.1.1.1 rfl rfl ⟨by omega, by omega⟩ (fun c82 => ?_) (fun c82 => ?_)
                · refine zW_iconst (pc' := 96) dX3_buildFloor_3.1.2.2.2 rfl ?_
                  refine zW_iadd (pc' := 97) dX3_buildFloor_3.2.1.1.1 rfl ?_
                  refine zW_iload (pc' := 99) dX3_buildFloor_3.2.1.1.2 rfl rfl ?_
                  refine zV_if_eq (tgt := 119) (pc' := 102) dX3_buildFloor_3.2.1.2.1 rfl rfl ⟨by omega, by omega⟩ (fun c99 => ?_) (fun c99 => ?_)
                  · refine zW_iconst (pc' := 120) dX3_buildFloor_4.1.2.1.2 rfl ?_
                    refine zW_iadd (pc' := 121) dX3_buildFloor_4.1.2.2.1 rfl ?_
                    refine zW_istore (ls' := [_, _, _, _, _, _, _, _, _, _, _]) (pc' := 123) dX3_buildFloor_4.1.2.2.2 (by decide) rfl rfl rfl ?_
                    refine zW_aload_n (pc' := 124) dX3_buildFloor_4.2.1.1.1 rfl rfl ?_
                    refine zW_iload (pc' := 126) dX3_buildFloor_4.2.1.1.2 rfl rfl ?_
                    refine zW_iconst (pc' := 127) dX3_buildFloor_4.2.1.2.1 rfl ?_
                    refine zW_idiv (pc' := 128) (by omega) (by omega) dX3_buildFloor_4.2.1.2.2 rfl ?_
                    refine zW_bipush (pc' := 130) dX3_buildFloor_4.2.2.1.1 rfl rfl ?_
                    refine zW_imul (pc' := 131) dX3_buildFloor_4.2.2.1.2 rfl ?_
                    refine zW_iload (pc' := 133) dX3_buildFloor_4.2.2.2.1 rfl rfl ?_
                    refine zW_iconst (pc' := 134) dX3_buildFloor_4.2.2.2.2 rfl ?_
                    refine zW_idiv (pc' := 135) (by omega) (by omega) dX3_buildFloor_5.1.1.1.1 rfl ?_
                    refine zW_iadd (pc' := 136) dX3_buildFloor_5.1.1.1.2 rfl ?_
                    refine zW_iload (pc' := 138) dX3_buildFloor_5.1.1.2.1 rfl rfl ?_
                    refine zW_iload (pc' := 140) dX3_buildFloor_5.1.1.2.2 rfl rfl ?_
                    refine zV_if_eq (tgt := 147) (pc' := 143) dX3_buildFloor_5.1.2.1.1 rfl rfl ⟨by omega, by omega⟩ (fun c140 => ?_) (fun c140 => ?_)
                    · refine zW_iconst (pc' := 148) dX3_buildFloor_5.1.2.2.2 rfl ?_
                      refine zW_iload (pc' := 150) dX3_buildFloor_5.2.1.1.1 rfl rfl ?_
                      refine zV_if_eq (tgt := 157) (pc' := 153) dX3_buildFloor_5.2.1.1.2 rfl rfl ⟨by omega, by omega⟩ (fun c150 => ?_) (fun c150 => ?_)
                      · refine zW_iconst (pc' := 158) dX3_buildFloor_5.2.2.1.1 rfl ?_
                        refine zW_imul (pc' := 159) dX3_buildFloor_5.2.2.1.2 rfl ?_
                        refine zW_idivQ (pc' := 160) ⟨by omega, by omega⟩ (by omega) dX3_buildFloor_5.2.2.2.1 rfl (fun v159 e159 => ?_)
                        unfold rng at e159
                        refine zS_i (pc' := 161) hF (scrL (by omega) (by omega)) (tabP (by omega) (by omega)) (by omega) dX3_buildFloor_5.2.2.2.2 (by decide) rfl (fun h i160 hF a160 b160 w160 => ?_)
                        refine zW_iinc (ls' := [_, _, _, _, _, _, _, _, _, _, _]) (pc' := 164) dX3_buildFloor_6.1.1.1 rfl (by decide) rfl rfl rfl ?_
                        refine zV_goto 13 dX3_buildFloor_6.1.1.2 rfl ?_
                        refine zV_clr 7 (ls' := [_, _, _, _, _, _, _, _, _, _, _]) rfl ?_
                        refine zV_clr 8 (ls' := [_, _, _, _, _, _, _, _, _, _, _]) rfl ?_
                        refine zV_clr 9 (ls' := [_, _, _, _, _, _, _, _, _, _, _]) rfl ?_
                        refine zV_clr 10 (ls' := [_, _, _, _, _, _, _, _, _, _, _]) rfl ?_
                        exact k13 _ _ _ hF (by omega) (by omega) (by omega)
                      · exfalso; omega
                    · exfalso; omega
                  · exfalso; omega
                · exfalso; omega
              · exfalso; omega
            · refine zW_iconst (pc' := 44) dX3_buildFloor_1.2.1.1.1 rfl ?_
              refine zV_goto 48 dX3_buildFloor_1.2.1.1.2 rfl ?_
              refine zW_istore (ls' := [_, _, _, _, _, _, _, _, _, _, _]) (pc' := 50) dX3_buildFloor_1.2.1.2.2 (by decide) rfl rfl rfl ?_
              refine zW_iload (pc' := 52) dX3_buildFloor_1.2.2.1.1 rfl rfl ?_
              refine zW_bipush (pc' := 54) dX3_buildFloor_1.2.2.1.2 rfl rfl ?_
              refine zW_imul (pc' := 55) dX3_buildFloor_1.2.2.2.1 rfl ?_
              refine zW_iload (pc' := 57) dX3_buildFloor_1.2.2.2.2 rfl rfl ?_
              refine zW_iadd (pc' := 58) dX3_buildFloor_2.1.1.1.1 rfl ?_
              refine zW_istore (ls' := [_, _, _, _, _, _, _, _, _, _, _]) (pc' := 60) dX3_buildFloor_2.1.1.1.2 (by decide) rfl rfl rfl ?_
              refine zW_aload_n (pc' := 61) dX3_buildFloor_2.1.1.2.1 rfl rfl ?_
              refine zW_iload (pc' := 63) dX3_buildFloor_2.1.1.2.2 rfl rfl ?_
              refine zV_iald (pc' := 64) (tabP (by omega) (by omega)) (by omega) dX3_buildFloor_2.1.2.1.1 (by decide) rfl ?_
              refine zW_iload (pc' := 66) dX3_buildFloor_2.1.2.1.2 rfl rfl ?_
              refine zV_if_eq (tgt := 78) (pc' := 69) dX3_buildFloor_2.1.2.2.1 rfl rfl ⟨by omega, by omega⟩ (fun c66 => ?_) (fun c66 => ?_)
              · refine zW_iconst (pc' := 79) dX3_buildFloor_2.2.2.1.2 rfl ?_
                refine zW_iadd (pc' := 80) dX3_buildFloor_2.2.2.2.1 rfl ?_
                refine zW_iload (pc' := 82) dX3_buildFloor_2.2.2.2.2 rfl rfl ?_
                refine zV_if_eq (tgt := 95) (pc' := 85) dX3_buildFloor_3.1.1.1.1 rfl rfl ⟨by omega, by omega⟩ (fun c82 => ?_) (fun c82 => ?_)
                · exfalso; omega
                · refine zW_aload_n (pc' := 86) dX3_buildFloor_3.1.1.1.2 rfl rfl ?_
                  refine zW_iload (pc' := 88) dX3_buildFloor_3.1.1.2.1 rfl rfl ?_
                  refine zW_bipush (pc' := 90) dX3_buildFloor_3.1.1.2.2 rfl rfl ?_
                  refine zW_iadd (pc' := 91) dX3_buildFloor_3.1.2.1.1 rfl ?_
                  refine zV_iald (pc' := 92) (tabP (by omega) (by omega)) (by omega) dX3_buildFloor_3.1.2.1.2 (by decide) rfl ?_
                  refine zV_goto 96 dX3_buildFloor_3.1.2.2.1 rfl ?_
                  refine zW_iadd (pc' := 97) dX3_buildFloor_3.2.1.1.1 rfl ?_
                  refine zW_iload (pc' := 99) dX3_buildFloor_3.2.1.1.2 rfl rfl ?_
                  refine zV_if_eq (tgt := 119) (pc' := 102) dX3_buildFloor_3.2.1.2.1 rfl rfl ⟨by omega, by omega⟩ (fun c99 => ?_) (fun c99 => ?_)
                  · refine zW_iconst (pc' := 120) dX3_buildFloor_4.1.2.1.2 rfl ?_
                    refine zW_iadd (pc' := 121) dX3_buildFloor_4.1.2.2.1 rfl ?_
                    refine zW_istore (ls' := [_, _, _, _, _, _, _, _, _, _, _]) (pc' := 123) dX3_buildFloor_4.1.2.2.2 (by decide) rfl rfl rfl ?_
                    refine zW_aload_n (pc' := 124) dX3_buildFloor_4.2.1.1.1 rfl rfl ?_
                    refine zW_iload (pc' := 126) dX3_buildFloor_4.2.1.1.2 rfl rfl ?_
                    refine zW_iconst (pc' := 127) dX3_buildFloor_4.2.1.2.1 rfl ?_
                    refine zW_idiv (pc' := 128) (by omega) (by omega) dX3_buildFloor_4.2.1.2.2 rfl ?_
                    refine zW_bipush (pc' := 130) dX3_buildFloor_4.2.2.1.1 rfl rfl ?_
                    refine zW_imul (pc' := 131) dX3_buildFloor_4.2.2.1.2 rfl ?_
                    refine zW_iload (pc' := 133) dX3_buildFloor_4.2.2.2.1 rfl rfl ?_
                    refine zW_iconst (pc' := 134) dX3_buildFloor_4.2.2.2.2 rfl ?_
                    refine zW_idiv (pc' := 135) (by omega) (by omega) dX3_buildFloor_5.1.1.1.1 rfl ?_
                    refine zW_iadd (pc' := 136) dX3_buildFloor_5.1.1.1.2 rfl ?_
                    refine zW_iload (pc' := 138) dX3_buildFloor_5.1.1.2.1 rfl rfl ?_
                    refine zW_iload (pc' := 140) dX3_buildFloor_5.1.1.2.2 rfl rfl ?_
                    refine zV_if_eq (tgt := 147) (pc' := 143) dX3_buildFloor_5.1.2.1.1 rfl rfl ⟨by omega, by omega⟩ (fun c140 => ?_) (fun c140 => ?_)
                    · refine zW_iconst (pc' := 148) dX3_buildFloor_5.1.2.2.2 rfl ?_
                      refine zW_iload (pc' := 150) dX3_buildFloor_5.2.1.1.1 rfl rfl ?_
                      refine zV_if_eq (tgt := 157) (pc' := 153) dX3_buildFloor_5.2.1.1.2 rfl rfl ⟨by omega, by omega⟩ (fun c150 => ?_) (fun c150 => ?_)
                      · exfalso; omega
                      · refine zW_iconst (pc' := 154) dX3_buildFloor_5.2.1.2.1 rfl ?_
                        refine zV_goto 158 dX3_buildFloor_5.2.1.2.2 rfl ?_
                        refine zW_imul (pc' := 159) dX3_buildFloor_5.2.2.1.2 rfl ?_
                        refine zW_idivQ (pc' := 160) ⟨by omega, by omega⟩ (by omega) dX3_buildFloor_5.2.2.2.1 rfl (fun v159 e159 => ?_)
                        unfold rng at e159
                        refine zS_i (pc' := 161) hF (scrL (by omega) (by omega)) (tabP (by omega) (by omega)) (by omega) dX3_buildFloor_5.2.2.2.2 (by decide) rfl (fun h i160 hF a160 b160 w160 => ?_)
                        refine zW_iinc (ls' := [_, _, _, _, _, _, _, _, _, _, _]) (pc' := 164) dX3_buildFloor_6.1.1.1 rfl (by decide) rfl rfl rfl ?_
                        refine zV_goto 13 dX3_buildFloor_6.1.1.2 rfl ?_
                        refine zV_clr 7 (ls' := [_, _, _, _, _, _, _, _, _, _, _]) rfl ?_
                        refine zV_clr 8 (ls' := [_, _, _, _, _, _, _, _, _, _, _]) rfl ?_
                        refine zV_clr 9 (ls' := [_, _, _, _, _, _, _, _, _, _, _]) rfl ?_
                        refine zV_clr 10 (ls' := [_, _, _, _, _, _, _, _, _, _, _]) rfl ?_
                        exact k13 _ _ _ hF (by omega) (by omega) (by omega)
                    · exfalso; omega
                  · exfalso; omega
              · exfalso; omega
          · refine zW_iconst (pc' := 28) dX3_buildFloor_0.2.2.2.2 rfl ?_
            refine zV_goto 32 dX3_buildFloor_1.1.1.1.1 rfl ?_
            refine zW_istore (ls' := [_, _, _, _, _, _, _, _, _, _, _]) (pc' := 34) dX3_buildFloor_1.1.1.2.1 (by decide) rfl rfl rfl ?_
            refine zW_iload (pc' := 36) dX3_buildFloor_1.1.1.2.2 rfl rfl ?_
            refine zW_iconst (pc' := 37) dX3_buildFloor_1.1.2.1.1 rfl ?_
            refine zW_iadd (pc' := 38) dX3_buildFloor_1.1.2.1.2 rfl ?_
            refine zW_iload (pc' := 40) dX3_buildFloor_1.1.2.2.1 rfl rfl ?_
            refine zV_cm_ge (tgt := 47) (pc' := 43) dX3_buildFloor_1.1.2.2.2 rfl rfl ⟨by omega, by omega⟩ ⟨by omega, by omega⟩ (fun c40 => ?_) (fun c40 => ?_)
            · refine zW_iconst (pc' := 48) dX3_buildFloor_1.2.1.2.1 rfl ?_
              refine zW_istore (ls' := [_, _, _, _, _, _, _, _, _, _, _]) (pc' := 50) dX3_buildFloor_1.2.1.2.2 (by decide) rfl rfl rfl ?_
              refine zW_iload (pc' := 52) dX3_buildFloor_1.2.2.1.1 rfl rfl ?_
              refine zW_bipush (pc' := 54) dX3_buildFloor_1.2.2.1.2 rfl rfl ?_
              refine zW_imul (pc' := 55) dX3_buildFloor_1.2.2.2.1 rfl ?_
              refine zW_iload (pc' := 57) dX3_buildFloor_1.2.2.2.2 rfl rfl ?_
              refine zW_iadd (pc' := 58) dX3_buildFloor_2.1.1.1.1 rfl ?_
              refine zW_istore (ls' := [_, _, _, _, _, _, _, _, _, _, _]) (pc' := 60) dX3_buildFloor_2.1.1.1.2 (by decide) rfl rfl rfl ?_
              refine zW_aload_n (pc' := 61) dX3_buildFloor_2.1.1.2.1 rfl rfl ?_
              refine zW_iload (pc' := 63) dX3_buildFloor_2.1.1.2.2 rfl rfl ?_
              refine zV_iald (pc' := 64) (tabP (by omega) (by omega)) (by omega) dX3_buildFloor_2.1.2.1.1 (by decide) rfl ?_
              refine zW_iload (pc' := 66) dX3_buildFloor_2.1.2.1.2 rfl rfl ?_
              refine zV_if_eq (tgt := 78) (pc' := 69) dX3_buildFloor_2.1.2.2.1 rfl rfl ⟨by omega, by omega⟩ (fun c66 => ?_) (fun c66 => ?_)
              · exfalso; omega
              · refine zW_aload_n (pc' := 70) dX3_buildFloor_2.1.2.2.2 rfl rfl ?_
                refine zW_iload (pc' := 72) dX3_buildFloor_2.2.1.1.1 rfl rfl ?_
                refine zW_iconst (pc' := 73) dX3_buildFloor_2.2.1.1.2 rfl ?_
                refine zW_iadd (pc' := 74) dX3_buildFloor_2.2.1.2.1 rfl ?_
                refine zV_iald (pc' := 75) (tabP (by omega) (by omega)) (by omega) dX3_buildFloor_2.2.1.2.2 (by decide) rfl ?_
                refine zV_goto 79 dX3_buildFloor_2.2.2.1.1 rfl ?_
                refine zW_iadd (pc' := 80) dX3_buildFloor_2.2.2.2.1 rfl ?_
                refine zW_iload (pc' := 82) dX3_buildFloor_2.2.2.2.2 rfl rfl ?_
                refine zV_if_eq (tgt := 95) (pc' := 85) dX3_buildFloor_3.1.1.1.1 rfl rfl ⟨by omega, by omega⟩ (fun c82 => ?_) (fun c82 => ?_)
                · refine zW_iconst (pc' := 96) dX3_buildFloor_3.1.2.2.2 rfl ?_
                  refine zW_iadd (pc' := 97) dX3_buildFloor_3.2.1.1.1 rfl ?_
                  refine zW_iload (pc' := 99) dX3_buildFloor_3.2.1.1.2 rfl rfl ?_
                  refine zV_if_eq (tgt := 119) (pc' := 102) dX3_buildFloor_3.2.1.2.1 rfl rfl ⟨by omega, by omega⟩ (fun c99 => ?_) (fun c99 => ?_)
                  · exfalso; omega
                  · refine zW_iload (pc' := 104) dX3_buildFloor_3.2.1.2.2 rfl rfl ?_
                    refine zV_if_eq (tgt := 119) (pc' := 107) dX3_buildFloor_3.2.2.1.1 rfl rfl ⟨by omega, by omega⟩ (fun c104 => ?_) (fun c104 => ?_)
                    · refine zW_iconst (pc' := 120) dX3_buildFloor_4.1.2.1.2 rfl ?_
                      refine zW_iadd (pc' := 121) dX3_buildFloor_4.1.2.2.1 rfl ?_
                      refine zW_istore (ls' := [_, _, _, _, _, _, _, _, _, _, _]) (pc' := 123) dX3_buildFloor_4.1.2.2.2 (by decide) rfl rfl rfl ?_
                      refine zW_aload_n (pc' := 124) dX3_buildFloor_4.2.1.1.1 rfl rfl ?_
                      refine zW_iload (pc' := 126) dX3_buildFloor_4.2.1.1.2 rfl rfl ?_
                      refine zW_iconst (pc' := 127) dX3_buildFloor_4.2.1.2.1 rfl ?_
                      refine zW_idiv (pc' := 128) (by omega) (by omega) dX3_buildFloor_4.2.1.2.2 rfl ?_
                      refine zW_bipush (pc' := 130) dX3_buildFloor_4.2.2.1.1 rfl rfl ?_
                      refine zW_imul (pc' := 131) dX3_buildFloor_4.2.2.1.2 rfl ?_
                      refine zW_iload (pc' := 133) dX3_buildFloor_4.2.2.2.1 rfl rfl ?_
                      refine zW_iconst (pc' := 134) dX3_buildFloor_4.2.2.2.2 rfl ?_
                      refine zW_idiv (pc' := 135) (by omega) (by omega) dX3_buildFloor_5.1.1.1.1 rfl ?_
                      refine zW_iadd (pc' := 136) dX3_buildFloor_5.1.1.1.2 rfl ?_
                      refine zW_iload (pc' := 138) dX3_buildFloor_5.1.1.2.1 rfl rfl ?_
                      refine zW_iload (pc' := 140) dX3_buildFloor_5.1.1.2.2 rfl rfl ?_
                      refine zV_if_eq (tgt := 147) (pc' := 143) dX3_buildFloor_5.1.2.1.1 rfl rfl ⟨by omega, by omega⟩ (fun c140 => ?_) (fun c140 => ?_)
                      · exfalso; omega
                      · refine zW_iconst (pc' := 144) dX3_buildFloor_5.1.2.1.2 rfl ?_
                        refine zV_goto 148 dX3_buildFloor_5.1.2.2.1 rfl ?_
                        refine zW_iload (pc' := 150) dX3_buildFloor_5.2.1.1.1 rfl rfl ?_
                        refine zV_if_eq (tgt := 157) (pc' := 153) dX3_buildFloor_5.2.1.1.2 rfl rfl ⟨by omega, by omega⟩ (fun c150 => ?_) (fun c150 => ?_)
                        · refine zW_iconst (pc' := 158) dX3_buildFloor_5.2.2.1.1 rfl ?_
                          refine zW_imul (pc' := 159) dX3_buildFloor_5.2.2.1.2 rfl ?_
                          refine zW_idivQ (pc' := 160) ⟨by omega, by omega⟩ (by omega) dX3_buildFloor_5.2.2.2.1 rfl (fun v159 e159 => ?_)
                          unfold rng at e159
                          refine zS_i (pc' := 161) hF (scrL (by omega) (by omega)) (tabP (by omega) (by omega)) (by omega) dX3_buildFloor_5.2.2.2.2 (by decide) rfl (fun h i160 hF a160 b160 w160 => ?_)
                          refine zW_iinc (ls' := [_, _, _, _, _, _, _, _, _, _, _]) (pc' := 164) dX3_buildFloor_6.1.1.1 rfl (by decide) rfl rfl rfl ?_
                          refine zV_goto 13 dX3_buildFloor_6.1.1.2 rfl ?_
                          refine zV_clr 7 (ls' := [_, _, _, _, _, _, _, _, _, _, _]) rfl ?_
                          refine zV_clr 8 (ls' := [_, _, _, _, _, _, _, _, _, _, _]) rfl ?_
                          refine zV_clr 9 (ls' := [_, _, _, _, _, _, _, _, _, _, _]) rfl ?_
                          refine zV_clr 10 (ls' := [_, _, _, _, _, _, _, _, _, _, _]) rfl ?_
                          exact k13 _ _ _ hF (by omega) (by omega) (by omega)
                        · exfalso; omega
                    · exfalso; omega
                · exfalso; omega
            · refine zW_iconst (pc' := 44) dX3_buildFloor_1.2.1.1.1 rfl ?_
              refine zV_goto 48 dX3_buildFloor_1.2.1.1.2 rfl ?_
              refine zW_istore (ls' := [_, _, _, _, _, _, _, _, _, _, _]) (pc' := 50) dX3_buildFloor_1.2.1.2.2 (by decide) rfl rfl rfl ?_
              refine zW_iload (pc' := 52) dX3_buildFloor_1.2.2.1.1 rfl rfl ?_
              refine zW_bipush (pc' := 54) dX3_buildFloor_1.2.2.1.2 rfl rfl ?_
              refine zW_imul (pc' := 55) dX3_buildFloor_1.2.2.2.1 rfl ?_
              refine zW_iload (pc' := 57) dX3_buildFloor_1.2.2.2.2 rfl rfl ?_
              refine zW_iadd (pc' := 58) dX3_buildFloor_2.1.1.1.1 rfl ?_
              refine zW_istore (ls' := [_, _, _, _, _, _, _, _, _, _, _]) (pc' := 60) dX3_buildFloor_2.1.1.1.2 (by decide) rfl rfl rfl ?_
              refine zW_aload_n (pc' := 61) dX3_buildFloor_2.1.1.2.1 rfl rfl ?_
              refine zW_iload (pc' := 63) dX3_buildFloor_2.1.1.2.2 rfl rfl ?_
              refine zV_iald (pc' := 64) (tabP (by omega) (by omega)) (by omega) dX3_buildFloor_2.1.2.1.1 (by decide) rfl ?_
              refine zW_iload (pc' := 66) dX3_buildFloor_2.1.2.1.2 rfl rfl ?_
              refine zV_if_eq (tgt := 78) (pc' := 69) dX3_buildFloor_2.1.2.2.1 rfl rfl ⟨by omega, by omega⟩ (fun c66 => ?_) (fun c66 => ?_)
              · exfalso; omega
              · refine zW_aload_n (pc' := 70) dX3_buildFloor_2.1.2.2.2 rfl rfl ?_
                refine zW_iload (pc' := 72) dX3_buildFloor_2.2.1.1.1 rfl rfl ?_
                refine zW_iconst (pc' := 73) dX3_buildFloor_2.2.1.1.2 rfl ?_
                refine zW_iadd (pc' := 74) dX3_buildFloor_2.2.1.2.1 rfl ?_
                refine zV_iald (pc' := 75) (tabP (by omega) (by omega)) (by omega) dX3_buildFloor_2.2.1.2.2 (by decide) rfl ?_
                refine zV_goto 79 dX3_buildFloor_2.2.2.1.1 rfl ?_
                refine zW_iadd (pc' := 80) dX3_buildFloor_2.2.2.2.1 rfl ?_
                refine zW_iload (pc' := 82) dX3_buildFloor_2.2.2.2.2 rfl rfl ?_
                refine zV_if_eq (tgt := 95) (pc' := 85) dX3_buildFloor_3.1.1.1.1 rfl rfl ⟨by omega, by omega⟩ (fun c82 => ?_) (fun c82 => ?_)
                · exfalso; omega
                · refine zW_aload_n (pc' := 86) dX3_buildFloor_3.1.1.1.2 rfl rfl ?_
                  refine zW_iload (pc' := 88) dX3_buildFloor_3.1.1.2.1 rfl rfl ?_
                  refine zW_bipush (pc' := 90) dX3_buildFloor_3.1.1.2.2 rfl rfl ?_
                  refine zW_iadd (pc' := 91) dX3_buildFloor_3.1.2.1.1 rfl ?_
                  refine zV_iald (pc' := 92) (tabP (by omega) (by omega)) (by omega) dX3_buildFloor_3.1.2.1.2 (by decide) rfl ?_
                  refine zV_goto 96 dX3_buildFloor_3.1.2.2.1 rfl ?_
                  refine zW_iadd (pc' := 97) dX3_buildFloor_3.2.1.1.1 rfl ?_
                  refine zW_iload (pc' := 99) dX3_buildFloor_3.2.1.1.2 rfl rfl ?_
                  refine zV_if_eq (tgt := 119) (pc' := 102) dX3_buildFloor_3.2.1.2.1 rfl rfl ⟨by omega, by omega⟩ (fun c99 => ?_) (fun c99 => ?_)
                  · exfalso; omega
                  · refine zW_iload (pc' := 104) dX3_buildFloor_3.2.1.2.2 rfl rfl ?_
                    refine zV_if_eq (tgt := 119) (pc' := 107) dX3_buildFloor_3.2.2.1.1 rfl rfl ⟨by omega, by omega⟩ (fun c104 => ?_) (fun c104 => ?_)
                    · exfalso; omega
                    · refine zW_aload_n (pc' := 108) dX3_buildFloor_3.2.2.1.2 rfl rfl ?_
                      refine zW_iload (pc' := 110) dX3_buildFloor_3.2.2.2.1 rfl rfl ?_
                      refine zW_bipush (pc' := 112) dX3_buildFloor_3.2.2.2.2 rfl rfl ?_
                      refine zW_iadd (pc' := 113) dX3_buildFloor_4.1.1.1.1 rfl ?_
                      refine zW_iconst (pc' := 114) dX3_buildFloor_4.1.1.1.2 rfl ?_
                      refine zW_iadd (pc' := 115) dX3_buildFloor_4.1.1.2.1 rfl ?_
                      refine zV_iald (pc' := 116) (tabP (by omega) (by omega)) (by omega) dX3_buildFloor_4.1.1.2.2 (by decide) rfl ?_
                      refine zV_goto 120 dX3_buildFloor_4.1.2.1.1 rfl ?_
                      refine zW_iadd (pc' := 121) dX3_buildFloor_4.1.2.2.1 rfl ?_
                      refine zW_istore (ls' := [_, _, _, _, _, _, _, _, _, _, _]) (pc' := 123) dX3_buildFloor_4.1.2.2.2 (by decide) rfl rfl rfl ?_
                      refine zW_aload_n (pc' := 124) dX3_buildFloor_4.2.1.1.1 rfl rfl ?_
                      refine zW_iload (pc' := 126) dX3_buildFloor_4.2.1.1.2 rfl rfl ?_
                      refine zW_iconst (pc' := 127) dX3_buildFloor_4.2.1.2.1 rfl ?_
                      refine zW_idiv (pc' := 128) (by omega) (by omega) dX3_buildFloor_4.2.1.2.2 rfl ?_
                      refine zW_bipush (pc' := 130) dX3_buildFloor_4.2.2.1.1 rfl rfl ?_
                      refine zW_imul (pc' := 131) dX3_buildFloor_4.2.2.1.2 rfl ?_
                      refine zW_iload (pc' := 133) dX3_buildFloor_4.2.2.2.1 rfl rfl ?_
                      refine zW_iconst (pc' := 134) dX3_buildFloor_4.2.2.2.2 rfl ?_
                      refine zW_idiv (pc' := 135) (by omega) (by omega) dX3_buildFloor_5.1.1.1.1 rfl ?_
                      refine zW_iadd (pc' := 136) dX3_buildFloor_5.1.1.1.2 rfl ?_
                      refine zW_iload (pc' := 138) dX3_buildFloor_5.1.1.2.1 rfl rfl ?_
                      refine zW_iload (pc' := 140) dX3_buildFloor_5.1.1.2.2 rfl rfl ?_
                      refine zV_if_eq (tgt := 147) (pc' := 143) dX3_buildFloor_5.1.2.1.1 rfl rfl ⟨by omega, by omega⟩ (fun c140 => ?_) (fun c140 => ?_)
                      · exfalso; omega
                      · refine zW_iconst (pc' := 144) dX3_buildFloor_5.1.2.1.2 rfl ?_
                        refine zV_goto 148 dX3_buildFloor_5.1.2.2.1 rfl ?_
                        refine zW_iload (pc' := 150) dX3_buildFloor_5.2.1.1.1 rfl rfl ?_
                        refine zV_if_eq (tgt := 157) (pc' := 153) dX3_buildFloor_5.2.1.1.2 rfl rfl ⟨by omega, by omega⟩ (fun c150 => ?_) (fun c150 => ?_)
                        · exfalso; omega
                        · refine zW_iconst (pc' := 154) dX3_buildFloor_5.2.1.2.1 rfl ?_
                          refine zV_goto 158 dX3_buildFloor_5.2.1.2.2 rfl ?_
                          refine zW_imul (pc' := 159) dX3_buildFloor_5.2.2.1.2 rfl ?_
                          refine zW_idivQ (pc' := 160) ⟨by omega, by omega⟩ (by omega) dX3_buildFloor_5.2.2.2.1 rfl (fun v159 e159 => ?_)
                          unfold rng at e159
                          refine zS_i (pc' := 161) hF (scrL (by omega) (by omega)) (tabP (by omega) (by omega)) (by omega) dX3_buildFloor_5.2.2.2.2 (by decide) rfl (fun h i160 hF a160 b160 w160 => ?_)
                          refine zW_iinc (ls' := [_, _, _, _, _, _, _, _, _, _, _]) (pc' := 164) dX3_buildFloor_6.1.1.1 rfl (by decide) rfl rfl rfl ?_
                          refine zV_goto 13 dX3_buildFloor_6.1.1.2 rfl ?_
                          refine zV_clr 7 (ls' := [_, _, _, _, _, _, _, _, _, _, _]) rfl ?_
                          refine zV_clr 8 (ls' := [_, _, _, _, _, _, _, _, _, _, _]) rfl ?_
                          refine zV_clr 9 (ls' := [_, _, _, _, _, _, _, _, _, _, _]) rfl ?_
                          refine zV_clr 10 (ls' := [_, _, _, _, _, _, _, _, _, _, _]) rfl ?_
                          exact k13 _ _ _ hF (by omega) (by omega) (by omega)
  refine zM_of [some (.inr (.inr 87)), some (.inr (.inr l1)), some (.inr (.inr l2)), some (.inl x3), some (.inl x4), none, none, none, none, none, none] 6 rfl rfl (Nat.le_of_ble_eq_true rfl) rfl ?_
  refine zW_iconst (pc' := 1) dX3_buildFloor_0.1.1.1.1 rfl ?_
  refine zW_istore (ls' := [_, _, _, _, _, _, _, _, _, _, _]) (pc' := 3) dX3_buildFloor_0.1.1.1.2 (by decide) rfl rfl rfl ?_
  exact (main 10000000000000000000000000000000000000000).1 _ _ hF (by omega) (by omega)

abbrev q_X3_buildFloors (b : Bd) (κ : Hp) (s1 : Nat) : Int → Hp → Prop := fun r h' => Fr b κ h' ∧ (True)
set_option maxHeartbeats 4000000 in
set_option maxRecDepth 20000 in
theorem s_X3_buildFloors {G : Ga} {b : Bd} {κ h : Hp} (hK : KC κ) (hF : Fr b κ h) (s1 : Nat) (hs1 : 56 ≤ s1 ∧ s1 ≤ 70) : zM G mX3_buildFloors yX3_buildFloors [.inr (.inr 87), .inr (.inr s1)] h (q_X3_buildFloors b κ s1) := by
  have f_33_0 := KCw hK
  have f_33_1 := KCh hK
  have main : ∀ N : Nat, (∀ (v2 v3 v4 : Int) (h : Hp), Fr b κ h → (4 ≤ v2 ∧ v2 ≤ 16) → (v2 - κ 33 0 ≤ 0) → (4 ≤ v3 ∧ v3 ≤ 16) → (v3 - κ 33 1 ≤ 0) → (0 ≤ v4 ∧ v4 ≤ 16) → (v4 - κ 33 1 ≤ 0) → 37528920 + 32076 * (16 - v4) + 31590 < (N : Int) → zV G mX3_buildFloors (q_X3_buildFloors b κ s1) 19 [some (.inr (.inr 87)), some (.inr (.inr s1)), some (.inl v2), some (.inl v3), some (.inl v4), none] [] h) ∧ (∀ (v2 v3 v4 : Int) (h : Hp), Fr b κ h → (1 ≤ v2 ∧ v2 ≤ 16) → (1 ≤ v3 ∧ v3 ≤ 16) → (1 ≤ v4 ∧ v4 ≤ 4) → 34642080 + 32076 * (4 - v4) + 29160 < (N : Int) → zV G mX3_buildFloors (q_X3_buildFloors b κ s1) 79 [some (.inr (.inr 87)), some (.inr (.inr s1)), some (.inl v2), some (.inl v3), some (.inl v4), none] [] h) ∧ (∀ (v2 v3 v4 v5 : Int) (h : Hp), Fr b κ h → (4 ≤ v2 ∧ v2 ≤ 16) → (v2 - κ 33 0 ≤ 0) → (4 ≤ v3 ∧ v3 ≤ 16) → (v3 - κ 33 1 ≤ 0) → (0 ≤ v4 ∧ v4 ≤ 15) → (v4 - κ 33 1 ≤ -1) → (0 ≤ v5 ∧ v5 ≤ 16) → (v5 - κ 33 0 ≤ 0) → 37528920 + 32076 * (16 - v4) + 12636 + 27 * (16 - v5) + 26 < (N : Int) → zV G mX3_buildFloors (q_X3_buildFloors b κ s1) 28 [some (.inr (.inr 87)), some (.inr (.inr s1)), some (.inl v2), some (.inl v3), some (.inl v4), some (.inl v5)] [] h) := by
    intro N
    induction N with
    | zero =>
      refine ⟨?_, ?_, ?_⟩
      · intro v2 v3 v4 h hF g0 g1 g2 g3 g4 g5 hm
        exfalso; omega
      · intro v2 v3 v4 h hF g0 g1 g2 hm
        exfalso; omega
      · intro v2 v3 v4 v5 h hF g0 g1 g2 g3 g4 g5 g6 g7 hm
        exfalso; omega
    | succ N ih =>
      obtain ⟨k19, k79, k28⟩ := ih
      refine ⟨?_, ?_, ?_⟩
      · intro v2 v3 v4 h hF g0 g1 g2 g3 g4 g5 hm
        refine zW_iload (pc' := 21) dX3_buildFloors_0.2.1.2.1 rfl rfl ?_
        refine zW_iload_n (pc' := 22) dX3_buildFloors_0.2.1.2.2 rfl rfl ?_
        refine zV_cm_ge (tgt := 76) (pc' := 25) dX3_buildFloors_0.2.2.1.1 rfl rfl ⟨by omega, by omega⟩ ⟨by omega, by omega⟩ (fun c22 => ?_) (fun c22 => ?_)
        · refine zW_iconst (pc' := 77) dX3_buildFloors_2.2.1.1.1 rfl ?_
          refine zW_istore (ls' := [_, _, _, _, _, _]) (pc' := 79) dX3_buildFloors_2.2.1.1.2 (by decide) rfl rfl rfl ?_
          exact k79 _ _ _ _ hF (by omega) (by omega) (by omega) (by omega)
        · refine zW_iconst (pc' := 26) dX3_buildFloors_0.2.2.1.2 rfl ?_
          refine zW_istore (ls' := [_, _, _, _, _, _]) (pc' := 28) dX3_buildFloors_0.2.2.2.1 (by decide) rfl rfl rfl ?_
          exact k28 _ _ _ _ _ hF (by omega) (by omega) (by omega) (by omega) (by omega) (by omega) (by omega) (by omega) (by omega)
      · intro v2 v3 v4 h hF g0 g1 g2 hm
        refine zW_iload (pc' := 81) dX3_buildFloors_2.2.1.2.1 rfl rfl ?_
        refine zW_iconst (pc' := 82) dX3_buildFloors_2.2.1.2.2 rfl ?_
        refine zV_cm_gt (tgt := 125) (pc' := 85) dX3_buildFloors_2.2.2.1.1 rfl rfl ⟨by omega, by omega⟩ ⟨by omega, by omega⟩ (fun c82 => ?_) (fun c82 => ?_)
        · exact zV_vret rfl dX3_buildFloors_4.2.2.2 ⟨hF, trivial⟩
        · refine zW_aload_n (pc' := 86) dX3_buildFloors_2.2.2.1.2 rfl rfl ?_
          refine zW_aload_n (pc' := 87) dX3_buildFloors_2.2.2.2.1 rfl rfl ?_
          refine zG_ref (pc' := 90) 89 fg_X3_17 tb87 rfl dX3_buildFloors_2.2.2.2.2 rfl ?_
          refine zW_iload (pc' := 92) dX3_buildFloors_3.1.1.1.1 rfl rfl ?_
          refine zW_iconst (pc' := 93) dX3_buildFloors_3.1.1.1.2 rfl ?_
          refine zW_isub (pc' := 94) dX3_buildFloors_3.1.1.2.1 rfl ?_
          refine zV_aalF (pc' := 95) (by omega) dX3_buildFloors_3.1.1.2.2 rfl (fun q94 z94 => ?_)
          refine zW_aload_n (pc' := 96) dX3_buildFloors_3.1.2.1.1 rfl rfl ?_
          refine zG_ref (pc' := 99) 89 fg_X3_17 tb87 rfl dX3_buildFloors_3.1.2.1.2 rfl ?_
          refine zW_iload (pc' := 101) dX3_buildFloors_3.1.2.2.1 rfl rfl ?_
          refine zV_aalF (pc' := 102) (by omega) dX3_buildFloors_3.1.2.2.2 rfl (fun q101 z101 => ?_)
          refine zW_iload_n (pc' := 103) dX3_buildFloors_3.2.1.1.1 rfl rfl ?_
          refine zW_iload_n (pc' := 104) dX3_buildFloors_3.2.1.1.2 rfl rfl ?_
          refine cvV4 (pc' := 107) kX3_buildFloor vX3_buildFloor lk_X3_140 ⟨Nat.le_of_ble_eq_true rfl, Nat.le_of_ble_eq_true rfl⟩ tb87 vq3 rfl rfl (s_X3_buildFloor hF _ ⟨by omega, by omega⟩ _ ⟨by omega, by omega⟩ _ ⟨by omega, by omega⟩ _ ⟨by omega, by omega⟩) dX3_buildFloors_3.2.1.2.1 (Nat.le_of_ble_eq_true rfl) rfl ?_
          rintro r104 h ⟨hF, p104⟩
          refine zW_iload_n (pc' := 108) dX3_buildFloors_3.2.1.2.2 rfl rfl ?_
          refine zW_iconst (pc' := 109) dX3_buildFloors_3.2.2.1.1 rfl ?_
          refine zW_iadd (pc' := 110) dX3_buildFloors_3.2.2.1.2 rfl ?_
          refine zW_iconst (pc' := 111) dX3_buildFloors_3.2.2.2.1 rfl ?_
          refine zW_idiv (pc' := 112) (by omega) (by omega) dX3_buildFloors_3.2.2.2.2 rfl ?_
          refine zW_istore_n (ls' := [_, _, _, _, _, _]) (pc' := 113) dX3_buildFloors_4.1.1.1.1 (by decide) rfl rfl rfl ?_
          refine zW_iload_n (pc' := 114) dX3_buildFloors_4.1.1.1.2 rfl rfl ?_
          refine zW_iconst (pc' := 115) dX3_buildFloors_4.1.1.2 rfl ?_
          refine zW_iadd (pc' := 116) dX3_buildFloors_4.1.2.1 rfl ?_
          refine zW_iconst (pc' := 117) dX3_buildFloors_4.1.2.2 rfl ?_
          refine zW_idiv (pc' := 118) (by omega) (by omega) dX3_buildFloors_4.2.1.1.1 rfl ?_
          refine zW_istore_n (ls' := [_, _, _, _, _, _]) (pc' := 119) dX3_buildFloors_4.2.1.1.2 (by decide) rfl rfl rfl ?_
          refine zW_iinc (ls' := [_, _, _, _, _, _]) (pc' := 122) dX3_buildFloors_4.2.1.2 rfl (by decide) rfl rfl rfl ?_
          refine zV_goto 79 dX3_buildFloors_4.2.2.1 rfl ?_
          exact k79 _ _ _ _ hF (by omega) (by omega) (by omega) (by omega)
      · intro v2 v3 v4 v5 h hF g0 g1 g2 g3 g4 g5 g6 g7 hm
        refine zW_iload (pc' := 30) dX3_buildFloors_0.2.2.2.2 rfl rfl ?_
        refine zW_iload_n (pc' := 31) dX3_buildFloors_1.1.1.1.1 rfl rfl ?_
        refine zV_cm_ge (tgt := 70) (pc' := 34) dX3_buildFloors_1.1.1.1.2 rfl rfl ⟨by omega, by omega⟩ ⟨by omega, by omega⟩ (fun c31 => ?_) (fun c31 => ?_)
        · refine zW_iinc (ls' := [_, _, _, _, _, _]) (pc' := 73) dX3_buildFloors_2.1.2.2.1 rfl (by decide) rfl rfl rfl ?_
          refine zV_goto 19 dX3_buildFloors_2.1.2.2.2 rfl ?_
          refine zV_clr 5 (ls' := [_, _, _, _, _, _]) rfl ?_
          exact k19 _ _ _ _ hF (by omega) (by omega) (by omega) (by omega) (by omega) (by omega) (by omega)
        · refine zW_aload_n (pc' := 35) dX3_buildFloors_1.1.1.2.1 rfl rfl ?_
          refine zG_ref (pc' := 38) 89 fg_X3_17 tb87 rfl dX3_buildFloors_1.1.1.2.2 rfl ?_
          refine zW_iconst (pc' := 39) dX3_buildFloors_1.1.2.1.1 rfl ?_
          refine zV_aalF (pc' := 40) (by omega) dX3_buildFloors_1.1.2.1.2 rfl (fun q39 z39 => ?_)
          refine zW_iload (pc' := 42) dX3_buildFloors_1.1.2.2.1 rfl rfl ?_
          refine zW_bipush (pc' := 44) dX3_buildFloors_1.1.2.2.2 rfl rfl ?_
          refine zW_imul (pc' := 45) dX3_buildFloors_1.2.1.1.1 rfl ?_
          refine zW_iload (pc' := 47) dX3_buildFloors_1.2.1.1.2 rfl rfl ?_
          refine zW_iadd (pc' := 48) dX3_buildFloors_1.2.1.2.1 rfl ?_
          refine zW_aload_n (pc' := 49) dX3_buildFloors_1.2.1.2.2 rfl rfl ?_
          refine zG_lev (pc' := 52) (by omega) (by omega) fg_X3_27 dX3_buildFloors_1.2.2.1.1 rfl ?_
          refine zW_iload (pc' := 54) dX3_buildFloors_1.2.2.1.2 rfl rfl ?_
          refine zW_bipush (pc' := 56) dX3_buildFloors_1.2.2.2.1 rfl rfl ?_
          refine zW_imul (pc' := 57) dX3_buildFloors_1.2.2.2.2 rfl ?_
          refine zW_iload (pc' := 59) dX3_buildFloors_2.1.1.1.1 rfl rfl ?_
          refine zW_iadd (pc' := 60) dX3_buildFloors_2.1.1.1.2 rfl ?_
          refine csI2 (pc' := 63) kX11_lightOf vX11_lightOf lk_X3_98 ⟨Nat.le_of_ble_eq_true rfl, Nat.le_of_ble_eq_true rfl⟩ rfl (s_X11_lightOf hF _ ⟨by omega, by omega⟩ _ ⟨by omega, by omega⟩) dX3_buildFloors_2.1.1.2.1 (Nat.le_of_ble_eq_true rfl) rfl ?_
          rintro r60 z60 ⟨hz60, p60⟩; subst z60
          refine zS_i (pc' := 64) hF (scrL (by omega) (by omega)) (tabP (by omega) (by omega)) (by omega) dX3_buildFloors_2.1.1.2.2 (by decide) rfl (fun h i63 hF a63 b63 w63 => ?_)
          refine zW_iinc (ls' := [_, _, _, _, _, _]) (pc' := 67) dX3_buildFloors_2.1.2.1.1 rfl (by decide) rfl rfl rfl ?_
          refine zV_goto 28 dX3_buildFloors_2.1.2.1.2 rfl ?_
          exact k28 _ _ _ _ _ hF (by omega) (by omega) (by omega) (by omega) (by omega) (by omega) (by omega) (by omega) (by omega)
  refine zM_of [some (.inr (.inr 87)), some (.inr (.inr s1)), none, none, none, none] 4 rfl rfl (Nat.le_of_ble_eq_true rfl) rfl ?_
  refine zW_aload_n (pc' := 1) dX3_buildFloors_0.1.1.1.1 rfl rfl ?_
  refine zG_ref (pc' := 4) 33 fg_X3_23 tb87 rfl dX3_buildFloors_0.1.1.1.2 rfl ?_
  refine zG_key (pc' := 7) hF rfl fg_X3_48 tb33 rfl dX3_buildFloors_0.1.1.2.1 rfl ?_
  refine zW_istore_n (ls' := [_, _, _, _, _, _]) (pc' := 8) dX3_buildFloors_0.1.1.2.2 (by decide) rfl rfl rfl ?_
  refine zW_aload_n (pc' := 9) dX3_buildFloors_0.1.2.1.1 rfl rfl ?_
  refine zG_ref (pc' := 12) 33 fg_X3_23 tb87 rfl dX3_buildFloors_0.1.2.1.2 rfl ?_
  refine zG_key (pc' := 15) hF rfl fg_X3_42 tb33 rfl dX3_buildFloors_0.1.2.2.1 rfl ?_
  refine zW_istore_n (ls' := [_, _, _, _, _, _]) (pc' := 16) dX3_buildFloors_0.1.2.2.2 (by decide) rfl rfl rfl ?_
  refine zW_iconst (pc' := 17) dX3_buildFloors_0.2.1.1.1 rfl ?_
  refine zW_istore (ls' := [_, _, _, _, _, _]) (pc' := 19) dX3_buildFloors_0.2.1.1.2 (by decide) rfl rfl rfl ?_
  exact (main 10000000000000000000000000000000000000000).1 _ _ _ _ hF (by omega) (by omega) (by omega) (by omega) (by omega) (by omega) (by omega)

abbrev q_X3_floorOf (κ h : Hp) (x1 : Int) (x2 : Int) (x3 : Int) : Int → Hp → Prop := fun r h' => h' = h ∧ (True)
set_option maxHeartbeats 4000000 in
set_option maxRecDepth 20000 in
theorem s_X3_floorOf {G : Ga} {b : Bd} {κ h : Hp} (hK : KC κ) (hF : Fr b κ h) (x1 : Int) (hx1 : rng x1) (x2 : Int) (hx2 : 0 ≤ x2 ∧ x2 ≤ 15 ∧ x2 - κ 33 0 ≤ -1) (x3 : Int) (hx3 : 0 ≤ x3 ∧ x3 ≤ 15 ∧ x3 - κ 33 1 ≤ -1) : zM G mX3_floorOf yX3_floorOf [.inr (.inr 87), .inl x1, .inl x2, .inl x3] h (q_X3_floorOf κ h x1 x2 x3) := by
  have f_33_0 := KCw hK
  have f_33_1 := KCh hK
  unfold rng at hx1
  refine zM_of [some (.inr (.inr 87)), some (.inl x1), some (.inl x2), some (.inl x3)] 0 rfl rfl (Nat.le_of_ble_eq_true rfl) rfl ?_
  refine zW_iload_n (pc' := 1) dX3_floorOf_0.1.1.1.1 rfl rfl ?_
  refine zV_if_lt (tgt := 29) (pc' := 4) dX3_floorOf_0.1.1.1.2 rfl rfl ⟨by omega, by omega⟩ (fun c1 => ?_) (fun c1 => ?_)
  · refine zW_iconst (pc' := 30) dX3_floorOf_1.2.1.2 rfl ?_
    exact zV_iret rfl dX3_floorOf_1.2.2 ⟨rfl, trivial⟩
  · refine zW_iload_n (pc' := 5) dX3_floorOf_0.1.1.2.1 rfl rfl ?_
    refine zW_iconst (pc' := 6) dX3_floorOf_0.1.1.2.2 rfl ?_
    refine zV_cm_gt (tgt := 29) (pc' := 9) dX3_floorOf_0.1.2.1.1 rfl rfl ⟨by omega, by omega⟩ ⟨by omega, by omega⟩ (fun c6 => ?_) (fun c6 => ?_)
    · refine zW_iconst (pc' := 30) dX3_floorOf_1.2.1.2 rfl ?_
      exact zV_iret rfl dX3_floorOf_1.2.2 ⟨rfl, trivial⟩
    · refine zW_aload_n (pc' := 10) dX3_floorOf_0.1.2.1.2 rfl rfl ?_
      refine zG_ref (pc' := 13) 89 fg_X3_17 tb87 rfl dX3_floorOf_0.1.2.2.1 rfl ?_
      refine zW_iload_n (pc' := 14) dX3_floorOf_0.1.2.2.2 rfl rfl ?_
      refine zV_aalF (pc' := 15) (by omega) dX3_floorOf_0.2.1.1.1 rfl (fun q14 z14 => ?_)
      refine zW_iload_n (pc' := 16) dX3_floorOf_0.2.1.1.2 rfl rfl ?_
      refine zW_iload_n (pc' := 17) dX3_floorOf_0.2.1.2.1 rfl rfl ?_
      refine zW_ishrN (pc' := 18) (by omega) (by omega) dX3_floorOf_0.2.1.2.2 rfl (fun v17 e17 => ?_)
      replace e17 := And.intro e17.1 e17.2.1
      refine zW_bipush (pc' := 20) dX3_floorOf_0.2.2.1.1 rfl rfl ?_
      refine zW_imul (pc' := 21) dX3_floorOf_0.2.2.1.2 rfl ?_
      refine zW_iload_n (pc' := 22) dX3_floorOf_0.2.2.2.1 rfl rfl ?_
      refine zW_iload_n (pc' := 23) dX3_floorOf_0.2.2.2.2 rfl rfl ?_
      refine zW_ishrN (pc' := 24) (by omega) (by omega) dX3_floorOf_1.1.1.1 rfl (fun v23 e23 => ?_)
      replace e23 := And.intro e23.1 e23.2.1
      refine zW_iadd (pc' := 25) dX3_floorOf_1.1.1.2 rfl ?_
      refine zV_iald (pc' := 26) (tabP (by omega) (by omega)) (by omega) dX3_floorOf_1.1.2 (by decide) rfl ?_
      refine zV_goto 30 dX3_floorOf_1.2.1.1 rfl ?_
      exact zV_iret rfl dX3_floorOf_1.2.2 ⟨rfl, trivial⟩

abbrev q_X3_toneOf (κ h : Hp) (x1 : Int) (x2 : Int) (x3 : Int) (x4 : Int) (x5 : Int) : Int → Hp → Prop := fun r h' => h' = h ∧ (True)
set_option maxHeartbeats 4000000 in
set_option maxRecDepth 20000 in
theorem s_X3_toneOf {G : Ga} {b : Bd} {κ h : Hp} (hK : KC κ) (hF : Fr b κ h) (x1 : Int) (hx1 : 0 ≤ x1 ∧ x1 ≤ 15 ∧ x1 - κ 33 0 ≤ -1) (x2 : Int) (hx2 : 0 ≤ x2 ∧ x2 ≤ 15 ∧ x2 - κ 33 1 ≤ -1) (x3 : Int) (x4 : Int) (x5 : Int) : zM G mX3_toneOf yX3_toneOf [.inr (.inr 87), .inl x1, .inl x2, .inl x3, .inl x4, .inl x5] h (q_X3_toneOf κ h x1 x2 x3 x4 x5) := by
  have f_33_0 := KCw hK
  have f_33_1 := KCh hK
  refine zM_of [some (.inr (.inr 87)), some (.inl x1), some (.inl x2), some (.inl x3), some (.inl x4), some (.inl x5), none, none, none] 3 rfl rfl (Nat.le_of_ble_eq_true rfl) rfl ?_
  refine zW_aload_n (pc' := 1) dX3_toneOf_0.1.1.1.1 rfl rfl ?_
  refine zW_iconst (pc' := 2) dX3_toneOf_0.1.1.1.2 rfl ?_
  refine zW_iload_n (pc' := 3) dX3_toneOf_0.1.1.2.1 rfl rfl ?_
  refine zW_iload_n (pc' := 4) dX3_toneOf_0.1.1.2.2 rfl rfl ?_
  refine cvI3 (pc' := 7) kX3_floorOf vX3_floorOf lk_X3_137 ⟨Nat.le_of_ble_eq_true rfl, Nat.le_of_ble_eq_true rfl⟩ tb87 vq3 rfl rfl (s_X3_floorOf hK hF _ ⟨by omega, by omega⟩ _ ⟨by omega, by omega, by omega⟩ _ ⟨by omega, by omega, by omega⟩) dX3_toneOf_0.1.2.1.1 (Nat.le_of_ble_eq_true rfl) rfl ?_
  rintro r4 z4 ⟨hz4, p4⟩; subst z4
  refine zW_istore (ls' := [_, _, _, _, _, _, _, _, _]) (pc' := 9) dX3_toneOf_0.1.2.1.2 (by decide) rfl rfl rfl ?_
  refine zW_aload_n (pc' := 10) dX3_toneOf_0.1.2.2.1 rfl rfl ?_
  refine zW_iconst (pc' := 11) dX3_toneOf_0.1.2.2.2 rfl ?_
  refine zW_iload_n (pc' := 12) dX3_toneOf_0.2.1.1.1 rfl rfl ?_
  refine zW_iload_n (pc' := 13) dX3_toneOf_0.2.1.1.2 rfl rfl ?_
  refine cvI3 (pc' := 16) kX3_floorOf vX3_floorOf lk_X3_137 ⟨Nat.le_of_ble_eq_true rfl, Nat.le_of_ble_eq_true rfl⟩ tb87 vq3 rfl rfl (s_X3_floorOf hK hF _ ⟨by omega, by omega⟩ _ ⟨by omega, by omega, by omega⟩ _ ⟨by omega, by omega, by omega⟩) dX3_toneOf_0.2.1.2.1 (Nat.le_of_ble_eq_true rfl) rfl ?_
  rintro r13 z13 ⟨hz13, p13⟩; subst z13
  refine zW_istore (ls' := [_, _, _, _, _, _, _, _, _]) (pc' := 18) dX3_toneOf_0.2.1.2.2 (by decide) rfl rfl rfl ?_
  refine zW_aload_n (pc' := 19) dX3_toneOf_0.2.2.1.1 rfl rfl ?_
  refine zW_iconst (pc' := 20) dX3_toneOf_0.2.2.1.2 rfl ?_
  refine zW_iload_n (pc' := 21) dX3_toneOf_0.2.2.2.1 rfl rfl ?_
  refine zW_iload_n (pc' := 22) dX3_toneOf_0.2.2.2.2 rfl rfl ?_
  refine cvI3 (pc' := 25) kX3_floorOf vX3_floorOf lk_X3_137 ⟨Nat.le_of_ble_eq_true rfl, Nat.le_of_ble_eq_true rfl⟩ tb87 vq3 rfl rfl (s_X3_floorOf hK hF _ ⟨by omega, by omega⟩ _ ⟨by omega, by omega, by omega⟩ _ ⟨by omega, by omega, by omega⟩) dX3_toneOf_1.1.1.1.1 (Nat.le_of_ble_eq_true rfl) rfl ?_
  rintro r22 z22 ⟨hz22, p22⟩; subst z22
  refine zW_istore (ls' := [_, _, _, _, _, _, _, _, _]) (pc' := 27) dX3_toneOf_1.1.1.1.2 (by decide) rfl rfl rfl ?_
  refine zW_iload (pc' := 29) dX3_toneOf_1.1.1.2.1 rfl rfl ?_
  refine zW_aload_n (pc' := 30) dX3_toneOf_1.1.1.2.2 rfl rfl ?_
  refine zW_iconst (pc' := 31) dX3_toneOf_1.1.2.1.1 rfl ?_
  refine zW_iload_n (pc' := 32) dX3_toneOf_1.1.2.1.2 rfl rfl ?_
  refine zW_iload_n (pc' := 33) dX3_toneOf_1.1.2.2.1 rfl rfl ?_
  refine cvI3 (pc' := 36) kX3_floorOf vX3_floorOf lk_X3_137 ⟨Nat.le_of_ble_eq_true rfl, Nat.le_of_ble_eq_true rfl⟩ tb87 vq3 rfl rfl (s_X3_floorOf hK hF _ ⟨by omega, by omega⟩ _ ⟨by omega, by omega, by omega⟩ _ ⟨by omega, by omega, by omega⟩) dX3_toneOf_1.1.2.2.2 (Nat.le_of_ble_eq_true rfl) rfl ?_
  rintro r33 z33 ⟨hz33, p33⟩; subst z33
  refine zW_iload (pc' := 38) dX3_toneOf_1.2.1.1.1 rfl rfl ?_
  refine zW_isub (pc' := 39) dX3_toneOf_1.2.1.1.2 rfl ?_
  refine zW_iload_n (pc' := 40) dX3_toneOf_1.2.1.2.1 rfl rfl ?_
  refine zW_imul (pc' := 41) dX3_toneOf_1.2.1.2.2 rfl ?_
  refine zW_bipush (pc' := 43) dX3_toneOf_1.2.2.1.1 rfl rfl ?_
  refine zW_idivQ (pc' := 44) ⟨by omega, by omega⟩ (by omega) dX3_toneOf_1.2.2.1.2 rfl (fun v43 e43 => ?_)
  unfold rng at e43
  refine zW_iadd (pc' := 45) dX3_toneOf_1.2.2.2.1 rfl ?_
  refine zW_iload (pc' := 47) dX3_toneOf_1.2.2.2.2 rfl rfl ?_
  refine zW_iload (pc' := 49) dX3_toneOf_2.1.1.1.1 rfl rfl ?_
  refine zW_isub (pc' := 50) dX3_toneOf_2.1.1.1.2 rfl ?_
  refine zW_iload (pc' := 52) dX3_toneOf_2.1.1.2.1 rfl rfl ?_
  refine zW_imul (pc' := 53) dX3_toneOf_2.1.1.2.2 rfl ?_
  refine zW_bipush (pc' := 55) dX3_toneOf_2.1.2.1.1 rfl rfl ?_
  refine zW_idivQ (pc' := 56) ⟨by omega, by omega⟩ (by omega) dX3_toneOf_2.1.2.1.2 rfl (fun v55 e55 => ?_)
  unfold rng at e55
  refine zW_iadd (pc' := 57) dX3_toneOf_2.1.2.2.1 rfl ?_
  refine zW_iload (pc' := 59) dX3_toneOf_2.1.2.2.2 rfl rfl ?_
  refine zW_iload (pc' := 61) dX3_toneOf_2.2.1.1.1 rfl rfl ?_
  refine zW_isub (pc' := 62) dX3_toneOf_2.2.1.1.2 rfl ?_
  refine zW_iload (pc' := 64) dX3_toneOf_2.2.1.2.1 rfl rfl ?_
  refine zW_imul (pc' := 65) dX3_toneOf_2.2.1.2.2 rfl ?_
  refine zW_bipush (pc' := 67) dX3_toneOf_2.2.2.1.1 rfl rfl ?_
  refine zW_idivQ (pc' := 68) ⟨by omega, by omega⟩ (by omega) dX3_toneOf_2.2.2.1.2 rfl (fun v67 e67 => ?_)
  unfold rng at e67
  refine zW_iadd (pc' := 69) dX3_toneOf_2.2.2.2.1 rfl ?_
  exact zV_iret rfl dX3_toneOf_2.2.2.2.2 ⟨rfl, trivial⟩

abbrev q_X3_setTones (b : Bd) (κ : Hp) (s1 : Nat) (s2 : Nat) (x3 : Int) (x4 : Int) (x5 : Int) : Int → Hp → Prop := fun r h' => Fr b κ h' ∧ (True)
set_option maxHeartbeats 4000000 in
set_option maxRecDepth 20000 in
theorem s_X3_setTones {G : Ga} {b : Bd} {κ h : Hp} (hK : KC κ) (hF : Fr b κ h) (s1 : Nat) (hs1 : 56 ≤ s1 ∧ s1 ≤ 70) (s2 : Nat) (hs2 : 56 ≤ s2 ∧ s2 ≤ 70) (x3 : Int) (x4 : Int) (x5 : Int) (hto : OkL b (s2 + 15)) : zM G mX3_setTones yX3_setTones [.inr (.inr 87), .inr (.inr s1), .inr (.inr s2), .inl x3, .inl x4, .inl x5] h (q_X3_setTones b κ s1 s2 x3 x4 x5) := by
  have f_33_0 := KCw hK
  have f_33_1 := KCh hK
  have main : ∀ N : Nat, (∀ (v6 : Int) (h : Hp), Fr b κ h → (0 ≤ v6 ∧ v6 ≤ 16) → (v6 - κ 33 1 ≤ 0) → 17534880 + 24354 * (16 - v6) + 23760 < (N : Int) → zV G mX3_setTones (q_X3_setTones b κ s1 s2 x3 x4 x5) 8 [some (.inr (.inr 87)), some (.inr (.inr s1)), some (.inr (.inr s2)), some (.inl x3), some (.inl x4), some (.inl x5), some (.inl v6), none] [] h) ∧ (∀ (v6 v7 : Int) (h : Hp), Fr b κ h → (0 ≤ v6 ∧ v6 ≤ 15) → (v6 - κ 33 1 ≤ -1) → (0 ≤ v7 ∧ v7 ≤ 16) → (v7 - κ 33 0 ≤ 0) → 17534880 + 24354 * (16 - v6) + 19008 + 33 * (16 - v7) + 32 < (N : Int) → zV G mX3_setTones (q_X3_setTones b κ s1 s2 x3 x4 x5) 23 [some (.inr (.inr 87)), some (.inr (.inr s1)), some (.inr (.inr s2)), some (.inl x3), some (.inl x4), some (.inl x5), some (.inl v6), some (.inl v7)] [] h) := by
    intro N
    induction N with
    | zero =>
      refine ⟨?_, ?_⟩
      · intro v6 h hF g0 g1 hm
        exfalso; omega
      · intro v6 v7 h hF g0 g1 g2 g3 hm
        exfalso; omega
    | succ N ih =>
      obtain ⟨k8, k23⟩ := ih
      refine ⟨?_, ?_⟩
      · intro v6 h hF g0 g1 hm
        refine zW_iload (pc' := 10) dX3_setTones_0.1.2.1.2 rfl rfl ?_
        refine zW_aload_n (pc' := 11) dX3_setTones_0.1.2.2.1 rfl rfl ?_
        refine zG_ref (pc' := 14) 33 fg_X3_23 tb87 rfl dX3_setTones_0.1.2.2.2 rfl ?_
        refine zG_key (pc' := 17) hF rfl fg_X3_42 tb33 rfl dX3_setTones_0.2.1.1.1 rfl ?_
        refine zV_cm_ge (tgt := 84) (pc' := 20) dX3_setTones_0.2.1.1.2 rfl rfl ⟨by omega, by omega⟩ ⟨by omega, by omega⟩ (fun c17 => ?_) (fun c17 => ?_)
        · exact zV_vret rfl dX3_setTones_2.2.2.2 ⟨hF, trivial⟩
        · refine zW_iconst (pc' := 21) dX3_setTones_0.2.1.2.1 rfl ?_
          refine zW_istore (ls' := [_, _, _, _, _, _, _, _]) (pc' := 23) dX3_setTones_0.2.1.2.2 (by decide) rfl rfl rfl ?_
          exact k23 _ _ _ hF (by omega) (by omega) (by omega) (by omega) (by omega)
      · intro v6 v7 h hF g0 g1 g2 g3 hm
        refine zW_iload (pc' := 25) dX3_setTones_0.2.2.1.1 rfl rfl ?_
        refine zW_aload_n (pc' := 26) dX3_setTones_0.2.2.1.2 rfl rfl ?_
        refine zG_ref (pc' := 29) 33 fg_X3_23 tb87 rfl dX3_setTones_0.2.2.2.1 rfl ?_
        refine zG_key (pc' := 32) hF rfl fg_X3_48 tb33 rfl dX3_setTones_0.2.2.2.2 rfl ?_
        refine zV_cm_ge (tgt := 78) (pc' := 35) dX3_setTones_1.1.1.1.1 rfl rfl ⟨by omega, by omega⟩ ⟨by omega, by omega⟩ (fun c32 => ?_) (fun c32 => ?_)
        · refine zW_iinc (ls' := [_, _, _, _, _, _, _, _]) (pc' := 81) dX3_setTones_2.2.2.1.1 rfl (by decide) rfl rfl rfl ?_
          refine zV_goto 8 dX3_setTones_2.2.2.1.2 rfl ?_
          refine zV_clr 7 (ls' := [_, _, _, _, _, _, _, _]) rfl ?_
          exact k8 _ _ hF (by omega) (by omega) (by omega)
        · refine zW_aload_n (pc' := 36) dX3_setTones_1.1.1.1.2 rfl rfl ?_
          refine zW_aload_n (pc' := 37) dX3_setTones_1.1.1.2.1 rfl rfl ?_
          refine zW_aload_n (pc' := 38) dX3_setTones_1.1.1.2.2 rfl rfl ?_
          refine zW_iload (pc' := 40) dX3_setTones_1.1.2.1.1 rfl rfl ?_
          refine zW_bipush (pc' := 42) dX3_setTones_1.1.2.1.2 rfl rfl ?_
          refine zW_imul (pc' := 43) dX3_setTones_1.1.2.2.1 rfl ?_
          refine zW_iload (pc' := 45) dX3_setTones_1.1.2.2.2 rfl rfl ?_
          refine zW_iadd (pc' := 46) dX3_setTones_1.2.1.1.1 rfl ?_
          refine zW_aload_n (pc' := 47) dX3_setTones_1.2.1.1.2 rfl rfl ?_
          refine zW_iload (pc' := 49) dX3_setTones_1.2.1.2.1 rfl rfl ?_
          refine zW_iload (pc' := 51) dX3_setTones_1.2.1.2.2 rfl rfl ?_
          refine zW_iload_n (pc' := 52) dX3_setTones_1.2.2.1.1 rfl rfl ?_
          refine zW_iload (pc' := 54) dX3_setTones_1.2.2.1.2 rfl rfl ?_
          refine zW_iload (pc' := 56) dX3_setTones_1.2.2.2.1 rfl rfl ?_
          refine cvI5 (pc' := 59) kX3_toneOf vX3_toneOf lk_X3_133 ⟨Nat.le_of_ble_eq_true rfl, Nat.le_of_ble_eq_true rfl⟩ tb87 vq3 rfl rfl (s_X3_toneOf hK hF _ ⟨by omega, by omega, by omega⟩ _ ⟨by omega, by omega, by omega⟩ _ _ _) dX3_setTones_1.2.2.2.2 (Nat.le_of_ble_eq_true rfl) rfl ?_
          rintro r56 z56 ⟨hz56, p56⟩; subst z56
          refine zW_aload_n (pc' := 60) dX3_setTones_2.1.1.1.1 rfl rfl ?_
          refine zW_iconst (pc' := 61) dX3_setTones_2.1.1.1.2 rfl ?_
          refine zW_iload (pc' := 63) dX3_setTones_2.1.1.2 rfl rfl ?_
          refine zW_iload (pc' := 65) dX3_setTones_2.1.2.1.1 rfl rfl ?_
          refine cvI3 (pc' := 68) kX3_floorOf vX3_floorOf lk_X3_137 ⟨Nat.le_of_ble_eq_true rfl, Nat.le_of_ble_eq_true rfl⟩ tb87 vq3 rfl rfl (s_X3_floorOf hK hF _ ⟨by omega, by omega⟩ _ ⟨by omega, by omega, by omega⟩ _ ⟨by omega, by omega, by omega⟩) dX3_setTones_2.1.2.1.2 (Nat.le_of_ble_eq_true rfl) rfl ?_
          rintro r65 z65 ⟨hz65, p65⟩; subst z65
          refine zW_isub (pc' := 69) dX3_setTones_2.1.2.2 rfl ?_
          refine cvV4 (pc' := 72) kX3_addToAll vX3_addToAll lk_X3_121 ⟨Nat.le_of_ble_eq_true rfl, Nat.le_of_ble_eq_true rfl⟩ tb87 vq3 rfl rfl (s_X3_addToAll hF _ ⟨by omega, by omega⟩ _ ⟨by omega, by omega⟩ _ ⟨by omega, by omega⟩ _ hto) dX3_setTones_2.2.1.1.1 (Nat.le_of_ble_eq_true rfl) rfl ?_
          rintro r69 h ⟨hF, p69⟩
          refine zW_iinc (ls' := [_, _, _, _, _, _, _, _]) (pc' := 75) dX3_setTones_2.2.1.1.2 rfl (by decide) rfl rfl rfl ?_
          refine zV_goto 23 dX3_setTones_2.2.1.2 rfl ?_
          exact k23 _ _ _ hF (by omega) (by omega) (by omega) (by omega) (by omega)
  refine zM_of [some (.inr (.inr 87)), some (.inr (.inr s1)), some (.inr (.inr s2)), some (.inl x3), some (.inl x4), some (.inl x5), none, none] 2 rfl rfl (Nat.le_of_ble_eq_true rfl) rfl ?_
  refine zW_aload_n (pc' := 1) dX3_setTones_0.1.1.1.1 rfl rfl ?_
  refine zW_aload_n (pc' := 2) dX3_setTones_0.1.1.1.2 rfl rfl ?_
  refine cvV1 (pc' := 5) kX3_buildFloors vX3_buildFloors lk_X3_129 ⟨Nat.le_of_ble_eq_true rfl, Nat.le_of_ble_eq_true rfl⟩ tb87 vq3 rfl rfl (s_X3_buildFloors hK hF _ ⟨by omega, by omega⟩) dX3_setTones_0.1.1.2.1 (Nat.le_of_ble_eq_true rfl) rfl ?_
  rintro r2 h ⟨hF, p2⟩
  refine zW_iconst (pc' := 6) dX3_setTones_0.1.1.2.2 rfl ?_
  refine zW_istore (ls' := [_, _, _, _, _, _, _, _]) (pc' := 8) dX3_setTones_0.1.2.1.1 (by decide) rfl rfl rfl ?_
  exact (main 10000000000000000000000000000000000000000).1 _ _ hF (by omega) (by omega) (by omega)

abbrev q_X3_takeNoise (b : Bd) (κ : Hp) (s1 : Nat) (s2 : Nat) (x3 : Int) (x4 : Int) : Int → Hp → Prop := fun r h' => Fr b κ h' ∧ (True)
set_option maxHeartbeats 4000000 in
set_option maxRecDepth 20000 in
theorem s_X3_takeNoise {G : Ga} {b : Bd} {κ h : Hp} (hK : KC κ) (hF : Fr b κ h) (s1 : Nat) (hs1 : 56 ≤ s1 ∧ s1 ≤ 70) (s2 : Nat) (hs2 : 56 ≤ s2 ∧ s2 ≤ 70) (x3 : Int) (x4 : Int) (hto : OkL b (s2 + 15)) : zM G mX3_takeNoise yX3_takeNoise [.inr (.inr 87), .inr (.inr s1), .inr (.inr s2), .inl x3, .inl x4] h (q_X3_takeNoise b κ s1 s2 x3 x4) := by
  have f_33_0 := KCw hK
  have f_33_1 := KCh hK
  have main : ∀ N : Nat, (∀ (v5 : Int) (h : Hp), Fr b κ h → (0 ≤ v5 ∧ v5 ≤ 3) → 57730669920 + 140806512 * (3 - v5) + 139110048 < (N : Int) → zV G mX3_takeNoise (q_X3_takeNoise b κ s1 s2 x3 x4) 3 [some (.inr (.inr 87)), some (.inr (.inr s1)), some (.inr (.inr s2)), some (.inl x3), some (.inl x4), some (.inl v5), none, none, none, none, none, none, none] [] h) ∧ (∀ (v5 v6 : Int) (h : Hp), Fr b κ h → (0 ≤ v5 ∧ v5 ≤ 2) → (0 ≤ v6 ∧ v6 ≤ 16) → (v6 - κ 33 1 ≤ 0) → 57730669920 + 140806512 * (3 - v5) + 128931264 + 94248 * (16 - v6) + 93024 < (N : Int) → zV G mX3_takeNoise (q_X3_takeNoise b κ s1 s2 x3 x4) 12 [some (.inr (.inr 87)), some (.inr (.inr s1)), some (.inr (.inr s2)), some (.inl x3), some (.inl x4), some (.inl v5), some (.inl v6), none, none, none, none, none, none] [] h) ∧ (∀ (v5 v6 v7 : Int) (h : Hp), Fr b κ h → (0 ≤ v5 ∧ v5 ≤ 2) → (0 ≤ v6 ∧ v6 ≤ 15) → (v6 - κ 33 1 ≤ -1) → (0 ≤ v7 ∧ v7 ≤ 16) → (v7 - κ 33 0 ≤ 0) → 57730669920 + 140806512 * (3 - v5) + 128931264 + 94248 * (16 - v6) + 82008 + 68 * (16 - v7) + 67 < (N : Int) → zV G mX3_takeNoise (q_X3_takeNoise b κ s1 s2 x3 x4) 27 [some (.inr (.inr 87)), some (.inr (.inr s1)), some (.inr (.inr s2)), some (.inl x3), some (.inl x4), some (.inl v5), some (.inl v6), some (.inl v7), none, none, none, none, none] [] h) := by
    intro N
    induction N with
    | zero =>
      refine ⟨?_, ?_, ?_⟩
      · intro v5 h hF g0 hm
        exfalso; omega
      · intro v5 v6 h hF g0 g1 g2 hm
        exfalso; omega
      · intro v5 v6 v7 h hF g0 g1 g2 g3 g4 hm
        exfalso; omega
    | succ N ih =>
      obtain ⟨k3, k12, k27⟩ := ih
      refine ⟨?_, ?_, ?_⟩
      · intro v5 h hF g0 hm
        refine zW_iload (pc' := 5) dX3_takeNoise_0.1.1.2.1 rfl rfl ?_
        refine zW_iconst (pc' := 6) dX3_takeNoise_0.1.1.2.2 rfl ?_
        refine zV_cm_gt (tgt := 162) (pc' := 9) dX3_takeNoise_0.1.2.1.1 rfl rfl ⟨by omega, by omega⟩ ⟨by omega, by omega⟩ (fun c6 => ?_) (fun c6 => ?_)
        · exact zV_vret rfl dX3_takeNoise_5.2 ⟨hF, trivial⟩
        · refine zW_iconst (pc' := 10) dX3_takeNoise_0.1.2.1.2 rfl ?_
          refine zW_istore (ls' := [_, _, _, _, _, _, _, _, _, _, _, _, _]) (pc' := 12) dX3_takeNoise_0.1.2.2.1 (by decide) rfl rfl rfl ?_
          exact k12 _ _ _ hF (by omega) (by omega) (by omega) (by omega)
      · intro v5 v6 h hF g0 g1 g2 hm
        refine zW_iload (pc' := 14) dX3_takeNoise_0.1.2.2.2 rfl rfl ?_
        refine zW_aload_n (pc' := 15) dX3_takeNoise_0.2.1.1.1 rfl rfl ?_
        refine zG_ref (pc' := 18) 33 fg_X3_23 tb87 rfl dX3_takeNoise_0.2.1.1.2 rfl ?_
        refine zG_key (pc' := 21) hF rfl fg_X3_42 tb33 rfl dX3_takeNoise_0.2.1.2.1 rfl ?_
        refine zV_cm_ge (tgt := 156) (pc' := 24) dX3_takeNoise_0.2.1.2.2 rfl rfl ⟨by omega, by omega⟩ ⟨by omega, by omega⟩ (fun c21 => ?_) (fun c21 => ?_)
        · refine zW_iinc (ls' := [_, _, _, _, _, _, _, _, _, _, _, _, _]) (pc' := 159) dX3_takeNoise_5.1.1 rfl (by decide) rfl rfl rfl ?_
          refine zV_goto 3 dX3_takeNoise_5.1.2 rfl ?_
          refine zV_clr 6 (ls' := [_, _, _, _, _, _, _, _, _, _, _, _, _]) rfl ?_
          exact k3 _ _ hF (by omega) (by omega)
        · refine zW_iconst (pc' := 25) dX3_takeNoise_0.2.2.1.1 rfl ?_
          refine zW_istore (ls' := [_, _, _, _, _, _, _, _, _, _, _, _, _]) (pc' := 27) dX3_takeNoise_0.2.2.1.2 (by decide) rfl rfl rfl ?_
          exact k27 _ _ _ _ hF (by omega) (by omega) (by omega) (by omega) (by omega) (by omega)
      · intro v5 v6 v7 h hF g0 g1 g2 g3 g4 hm
        refine zW_iload (pc' := 29) dX3_takeNoise_0.2.2.2.1 rfl rfl ?_
        refine zW_aload_n (pc' := 30) dX3_takeNoise_0.2.2.2.2 rfl rfl ?_
        refine zG_ref (pc' := 33) 33 fg_X3_23 tb87 rfl dX3_takeNoise_1.1.1.1.1 rfl ?_
        refine zG_key (pc' := 36) hF rfl fg_X3_48 tb33 rfl dX3_takeNoise_1.1.1.1.2 rfl ?_
        refine zV_cm_ge (tgt := 150) (pc' := 39) dX3_takeNoise_1.1.1.2.1 rfl rfl ⟨by omega, by omega⟩ ⟨by omega, by omega⟩ (fun c36 => ?_) (fun c36 => ?_)
        · refine zW_iinc (ls' := [_, _, _, _, _, _, _, _, _, _, _, _, _]) (pc' := 153) dX3_takeNoise_4.2.2.2.1 rfl (by decide) rfl rfl rfl ?_
          refine zV_goto 12 dX3_takeNoise_4.2.2.2.2 rfl ?_
          refine zV_clr 7 (ls' := [_, _, _, _, _, _, _, _, _, _, _, _, _]) rfl ?_
          exact k12 _ _ _ hF (by omega) (by omega) (by omega) (by omega)
        · refine zW_iload (pc' := 41) dX3_takeNoise_1.1.1.2.2 rfl rfl ?_
          refine zW_sipush (pc' := 44) dX3_takeNoise_1.1.2.1.1 rfl rfl ?_
          refine zW_imul (pc' := 45) dX3_takeNoise_1.1.2.1.2 rfl ?_
          refine zW_iload (pc' := 47) dX3_takeNoise_1.1.2.2.1 rfl rfl ?_
          refine zW_bipush (pc' := 49) dX3_takeNoise_1.1.2.2.2 rfl rfl ?_
          refine zW_imul (pc' := 50) dX3_takeNoise_1.2.1.1.1 rfl ?_
          refine zW_iadd (pc' := 51) dX3_takeNoise_1.2.1.1.2 rfl ?_
          refine zW_iload (pc' := 53) dX3_takeNoise_1.2.1.2.1 rfl rfl ?_
          refine zW_iadd (pc' := 54) dX3_takeNoise_1.2.1.2.2 rfl ?_
          refine zW_istore (ls' := [_, _, _, _, _, _, _, _, _, _, _, _, _]) (pc' := 56) dX3_takeNoise_1.2.2.1.1 (by decide) rfl rfl rfl ?_
          refine zW_aload_n (pc' := 57) dX3_takeNoise_1.2.2.1.2 rfl rfl ?_
          refine zG_ref (pc' := 60) 33 fg_X3_23 tb87 rfl dX3_takeNoise_1.2.2.2.1 rfl ?_
          refine zW_aload_n (pc' := 61) dX3_takeNoise_1.2.2.2.2 rfl rfl ?_
          refine zG_lev (pc' := 64) (by omega) (by omega) fg_X3_27 dX3_takeNoise_2.1.1.1.1 rfl ?_
          refine zW_iload (pc' := 66) dX3_takeNoise_2.1.1.1.2 rfl rfl ?_
          refine zW_iload (pc' := 68) dX3_takeNoise_2.1.1.2.1 rfl rfl ?_
          refine zW_iload (pc' := 70) dX3_takeNoise_2.1.1.2.2 rfl rfl ?_
          refine csI5 (pc' := 73) kX11_blurOf vX11_blurOf lk_X3_144 ⟨Nat.le_of_ble_eq_true rfl, Nat.le_of_ble_eq_true rfl⟩ rfl (s_X11_blurOf hK hF _ ⟨by omega, by omega⟩ _ ⟨by omega, by omega⟩ _ ⟨by omega, by omega, by omega⟩ _ ⟨by omega, by omega, by omega⟩) dX3_takeNoise_2.1.2.1.1 (Nat.le_of_ble_eq_true rfl) rfl ?_
          rintro r70 z70 ⟨hz70, p70⟩; subst z70
          refine zW_istore (ls' := [_, _, _, _, _, _, _, _, _, _, _, _, _]) (pc' := 75) dX3_takeNoise_2.1.2.1.2 (by decide) rfl rfl rfl ?_
          refine zW_bipush (pc' := 77) dX3_takeNoise_2.1.2.2.1 rfl rfl ?_
          refine zW_iload_n (pc' := 78) dX3_takeNoise_2.1.2.2.2 rfl rfl ?_
          refine zW_imul (pc' := 79) dX3_takeNoise_2.2.1.1.1 rfl ?_
          refine zW_iload (pc' := 81) dX3_takeNoise_2.2.1.1.2 rfl rfl ?_
          refine zW_iload (pc' := 83) dX3_takeNoise_2.2.1.2.1 rfl rfl ?_
          refine zW_imul (pc' := 84) dX3_takeNoise_2.2.1.2.2 rfl ?_
          refine zW_bipush (pc' := 86) dX3_takeNoise_2.2.2.1.1 rfl rfl ?_
          refine zW_idivQ (pc' := 87) ⟨by omega, by omega⟩ (by omega) dX3_takeNoise_2.2.2.1.2 rfl (fun v86 e86 => ?_)
          unfold rng at e86
          refine zW_iadd (pc' := 88) dX3_takeNoise_2.2.2.2.1 rfl ?_
          refine zW_istore (ls' := [_, _, _, _, _, _, _, _, _, _, _, _, _]) (pc' := 90) dX3_takeNoise_2.2.2.2.2 (by decide) rfl rfl rfl ?_
          refine zW_aload_n (pc' := 91) dX3_takeNoise_3.1.1.1.1 rfl rfl ?_
          refine zG_lev (pc' := 94) (by omega) (by omega) fg_X3_27 dX3_takeNoise_3.1.1.1.2 rfl ?_
          refine zW_iload (pc' := 96) dX3_takeNoise_3.1.1.2.1 rfl rfl ?_
          refine zV_iald (pc' := 97) (tabL (by omega) (by omega)) (by omega) dX3_takeNoise_3.1.1.2.2 (by decide) rfl ?_
          refine zW_iload (pc' := 99) dX3_takeNoise_3.1.2.1.1 rfl rfl ?_
          refine zW_isub (pc' := 100) dX3_takeNoise_3.1.2.1.2 rfl ?_
          refine zW_istore (ls' := [_, _, _, _, _, _, _, _, _, _, _, _, _]) (pc' := 102) dX3_takeNoise_3.1.2.2.1 (by decide) rfl rfl rfl ?_
          refine zW_iconst (pc' := 103) dX3_takeNoise_3.1.2.2.2 rfl ?_
          refine zW_iload (pc' := 105) dX3_takeNoise_3.2.1.1.1 rfl rfl ?_
          refine zV_mabs (pc' := 108) km_X3_148 (Nat.le_of_ble_eq_true rfl) (Nat.le_of_ble_eq_true rfl) dX3_takeNoise_3.2.1.1.2 rfl (fun v105 e105 => ?_)
          replace e105 := e105.1
          unfold rng at e105
          refine zW_iload (pc' := 110) dX3_takeNoise_3.2.1.2.1 rfl rfl ?_
          refine zW_isub (pc' := 111) dX3_takeNoise_3.2.1.2.2 rfl ?_
          refine zV_mmax (pc' := 114) km_X3_91 (Nat.le_of_ble_eq_true rfl) (Nat.le_of_ble_eq_true rfl) dX3_takeNoise_3.2.2.1.1 rfl (fun v111 e111 => ?_)
          replace e111 := e111.1
          unfold rng at e111
          refine zW_istore (ls' := [_, _, _, _, _, _, _, _, _, _, _, _, _]) (pc' := 116) dX3_takeNoise_3.2.2.1.2 (by decide) rfl rfl rfl ?_
          refine zW_aload_n (pc' := 117) dX3_takeNoise_3.2.2.2.1 rfl rfl ?_
          refine zG_lev (pc' := 120) (by omega) (by omega) fg_X3_27 dX3_takeNoise_3.2.2.2.2 rfl ?_
          refine zW_iload (pc' := 122) dX3_takeNoise_4.1.1.1.1 rfl rfl ?_
          refine zW_iload (pc' := 124) dX3_takeNoise_4.1.1.1.2 rfl rfl ?_
          refine zV_ifQ_ge (tgt := 135) (pc' := 127) dX3_takeNoise_4.1.1.2.1 rfl rfl ?_ ?_
          · refine zW_iload (pc' := 137) dX3_takeNoise_4.1.2.2.2 rfl rfl ?_
            refine zW_iload (pc' := 139) dX3_takeNoise_4.2.1.1.1 rfl rfl ?_
            refine zW_iadd (pc' := 140) dX3_takeNoise_4.2.1.1.2 rfl ?_
            refine csI1 (pc' := 143) kX11_clipped vX11_clipped lk_X3_55 ⟨Nat.le_of_ble_eq_true rfl, Nat.le_of_ble_eq_true rfl⟩ rfl (s_X11_clipped hF _) dX3_takeNoise_4.2.1.2.1 (Nat.le_of_ble_eq_true rfl) rfl ?_
            rintro r140 z140 ⟨hz140, p140⟩; subst z140
            refine zS_lv (pc' := 144) hF (by omega) (by omega) hto (by omega) dX3_takeNoise_4.2.1.2.2 rfl (fun h i143 hF a143 b143 w143 => ?_)
            refine zW_iinc (ls' := [_, _, _, _, _, _, _, _, _, _, _, _, _]) (pc' := 147) dX3_takeNoise_4.2.2.1.1 rfl (by decide) rfl rfl rfl ?_
            refine zV_goto 27 dX3_takeNoise_4.2.2.1.2 rfl ?_
            refine zV_clr 8 (ls' := [_, _, _, _, _, _, _, _, _, _, _, _, _]) rfl ?_
            refine zV_clr 9 (ls' := [_, _, _, _, _, _, _, _, _, _, _, _, _]) rfl ?_
            refine zV_clr 10 (ls' := [_, _, _, _, _, _, _, _, _, _, _, _, _]) rfl ?_
            refine zV_clr 11 (ls' := [_, _, _, _, _, _, _, _, _, _, _, _, _]) rfl ?_
            refine zV_clr 12 (ls' := [_, _, _, _, _, _, _, _, _, _, _, _, _]) rfl ?_
            exact k27 _ _ _ _ hF (by omega) (by omega) (by omega) (by omega) (by omega) (by omega)
          · refine zW_iload (pc' := 129) dX3_takeNoise_4.1.1.2.2 rfl rfl ?_
            refine zW_iload (pc' := 131) dX3_takeNoise_4.1.2.1.1 rfl rfl ?_
            refine zW_isub (pc' := 132) dX3_takeNoise_4.1.2.1.2 rfl ?_
            refine zV_goto 140 dX3_takeNoise_4.1.2.2.1 rfl ?_
            refine csI1 (pc' := 143) kX11_clipped vX11_clipped lk_X3_55 ⟨Nat.le_of_ble_eq_true rfl, Nat.le_of_ble_eq_true rfl⟩ rfl (s_X11_clipped hF _) dX3_takeNoise_4.2.1.2.1 (Nat.le_of_ble_eq_true rfl) rfl ?_
            rintro r140 z140 ⟨hz140, p140⟩; subst z140
            refine zS_lv (pc' := 144) hF (by omega) (by omega) hto (by omega) dX3_takeNoise_4.2.1.2.2 rfl (fun h i143 hF a143 b143 w143 => ?_)
            refine zW_iinc (ls' := [_, _, _, _, _, _, _, _, _, _, _, _, _]) (pc' := 147) dX3_takeNoise_4.2.2.1.1 rfl (by decide) rfl rfl rfl ?_
            refine zV_goto 27 dX3_takeNoise_4.2.2.1.2 rfl ?_
            refine zV_clr 8 (ls' := [_, _, _, _, _, _, _, _, _, _, _, _, _]) rfl ?_
            refine zV_clr 9 (ls' := [_, _, _, _, _, _, _, _, _, _, _, _, _]) rfl ?_
            refine zV_clr 10 (ls' := [_, _, _, _, _, _, _, _, _, _, _, _, _]) rfl ?_
            refine zV_clr 11 (ls' := [_, _, _, _, _, _, _, _, _, _, _, _, _]) rfl ?_
            refine zV_clr 12 (ls' := [_, _, _, _, _, _, _, _, _, _, _, _, _]) rfl ?_
            exact k27 _ _ _ _ hF (by omega) (by omega) (by omega) (by omega) (by omega) (by omega)
  refine zM_of [some (.inr (.inr 87)), some (.inr (.inr s1)), some (.inr (.inr s2)), some (.inl x3), some (.inl x4), none, none, none, none, none, none, none, none] 8 rfl rfl (Nat.le_of_ble_eq_true rfl) rfl ?_
  refine zW_iconst (pc' := 1) dX3_takeNoise_0.1.1.1.1 rfl ?_
  refine zW_istore (ls' := [_, _, _, _, _, _, _, _, _, _, _, _, _]) (pc' := 3) dX3_takeNoise_0.1.1.1.2 (by decide) rfl rfl rfl ?_
  exact (main 10000000000000000000000000000000000000000).1 _ _ hF (by omega) (by omega)

abbrev q_X3_sharpen (b : Bd) (κ : Hp) (s1 : Nat) (s2 : Nat) (x3 : Int) (x4 : Int) : Int → Hp → Prop := fun r h' => Fr b κ h' ∧ (True)
set_option maxHeartbeats 4000000 in
set_option maxRecDepth 20000 in
theorem s_X3_sharpen {G : Ga} {b : Bd} {κ h : Hp} (hK : KC κ) (hF : Fr b κ h) (s1 : Nat) (hs1 : 56 ≤ s1 ∧ s1 ≤ 70) (s2 : Nat) (hs2 : 56 ≤ s2 ∧ s2 ≤ 70) (x3 : Int) (x4 : Int) (hto : OkL b (s2 + 15)) : zM G mX3_sharpen yX3_sharpen [.inr (.inr 87), .inr (.inr s1), .inr (.inr s2), .inl x3, .inl x4] h (q_X3_sharpen b κ s1 s2 x3 x4) := by
  have f_33_0 := KCw hK
  have f_33_1 := KCh hK
  have main : ∀ N : Nat, (∀ (v5 : Int) (h : Hp), Fr b κ h → (0 ≤ v5 ∧ v5 ≤ 3) → 37222740000 + 100602000 * (3 - v5) + 99260640 < (N : Int) → zV G mX3_sharpen (q_X3_sharpen b κ s1 s2 x3 x4) 3 [some (.inr (.inr 87)), some (.inr (.inr s1)), some (.inr (.inr s2)), some (.inl x3), some (.inl x4), some (.inl v5), none, none, none, none, none] [] h) ∧ (∀ (v5 v6 : Int) (h : Hp), Fr b κ h → (0 ≤ v5 ∧ v5 ≤ 2) → (0 ≤ v6 ∧ v6 ≤ 16) → (v6 - κ 33 1 ≤ 0) → 37222740000 + 100602000 * (3 - v5) + 91212480 + 74520 * (16 - v6) + 73440 < (N : Int) → zV G mX3_sharpen (q_X3_sharpen b κ s1 s2 x3 x4) 12 [some (.inr (.inr 87)), some (.inr (.inr s1)), some (.inr (.inr s2)), some (.inl x3), some (.inl x4), some (.inl v5), some (.inl v6), none, none, none, none] [] h) ∧ (∀ (v5 v6 v7 : Int) (h : Hp), Fr b κ h → (0 ≤ v5 ∧ v5 ≤ 2) → (0 ≤ v6 ∧ v6 ≤ 15) → (v6 - κ 33 1 ≤ -1) → (0 ≤ v7 ∧ v7 ≤ 16) → (v7 - κ 33 0 ≤ 0) → 37222740000 + 100602000 * (3 - v5) + 91212480 + 74520 * (16 - v6) + 63720 + 60 * (16 - v7) + 59 < (N : Int) → zV G mX3_sharpen (q_X3_sharpen b κ s1 s2 x3 x4) 27 [some (.inr (.inr 87)), some (.inr (.inr s1)), some (.inr (.inr s2)), some (.inl x3), some (.inl x4), some (.inl v5), some (.inl v6), some (.inl v7), none, none, none] [] h) := by
    intro N
    induction N with
    | zero =>
      refine ⟨?_, ?_, ?_⟩
      · intro v5 h hF g0 hm
        exfalso; omega
      · intro v5 v6 h hF g0 g1 g2 hm
        exfalso; omega
      · intro v5 v6 v7 h hF g0 g1 g2 g3 g4 hm
        exfalso; omega
    | succ N ih =>
      obtain ⟨k3, k12, k27⟩ := ih
      refine ⟨?_, ?_, ?_⟩
      · intro v5 h hF g0 hm
        refine zW_iload (pc' := 5) dX3_sharpen_0.1.1.2.1 rfl rfl ?_
        refine zW_iconst (pc' := 6) dX3_sharpen_0.1.1.2.2 rfl ?_
        refine zV_cm_gt (tgt := 146) (pc' := 9) dX3_sharpen_0.1.2.1.1 rfl rfl ⟨by omega, by omega⟩ ⟨by omega, by omega⟩ (fun c6 => ?_) (fun c6 => ?_)
        · exact zV_vret rfl dX3_sharpen_4.2.2.2 ⟨hF, trivial⟩
        · refine zW_iconst (pc' := 10) dX3_sharpen_0.1.2.1.2 rfl ?_
          refine zW_istore (ls' := [_, _, _, _, _, _, _, _, _, _, _]) (pc' := 12) dX3_sharpen_0.1.2.2.1 (by decide) rfl rfl rfl ?_
          exact k12 _ _ _ hF (by omega) (by omega) (by omega) (by omega)
      · intro v5 v6 h hF g0 g1 g2 hm
        refine zW_iload (pc' := 14) dX3_sharpen_0.1.2.2.2 rfl rfl ?_
        refine zW_aload_n (pc' := 15) dX3_sharpen_0.2.1.1.1 rfl rfl ?_
        refine zG_ref (pc' := 18) 33 fg_X3_23 tb87 rfl dX3_sharpen_0.2.1.1.2 rfl ?_
        refine zG_key (pc' := 21) hF rfl fg_X3_42 tb33 rfl dX3_sharpen_0.2.1.2.1 rfl ?_
        refine zV_cm_ge (tgt := 140) (pc' := 24) dX3_sharpen_0.2.1.2.2 rfl rfl ⟨by omega, by omega⟩ ⟨by omega, by omega⟩ (fun c21 => ?_) (fun c21 => ?_)
        · refine zW_iinc (ls' := [_, _, _, _, _, _, _, _, _, _, _]) (pc' := 143) dX3_sharpen_4.2.1.2 rfl (by decide) rfl rfl rfl ?_
          refine zV_goto 3 dX3_sharpen_4.2.2.1 rfl ?_
          refine zV_clr 6 (ls' := [_, _, _, _, _, _, _, _, _, _, _]) rfl ?_
          exact k3 _ _ hF (by omega) (by omega)
        · refine zW_iconst (pc' := 25) dX3_sharpen_0.2.2.1.1 rfl ?_
          refine zW_istore (ls' := [_, _, _, _, _, _, _, _, _, _, _]) (pc' := 27) dX3_sharpen_0.2.2.1.2 (by decide) rfl rfl rfl ?_
          exact k27 _ _ _ _ hF (by omega) (by omega) (by omega) (by omega) (by omega) (by omega)
      · intro v5 v6 v7 h hF g0 g1 g2 g3 g4 hm
        refine zW_iload (pc' := 29) dX3_sharpen_0.2.2.2.1 rfl rfl ?_
        refine zW_aload_n (pc' := 30) dX3_sharpen_0.2.2.2.2 rfl rfl ?_
        refine zG_ref (pc' := 33) 33 fg_X3_23 tb87 rfl dX3_sharpen_1.1.1.1.1 rfl ?_
        refine zG_key (pc' := 36) hF rfl fg_X3_48 tb33 rfl dX3_sharpen_1.1.1.1.2 rfl ?_
        refine zV_cm_ge (tgt := 134) (pc' := 39) dX3_sharpen_1.1.1.2.1 rfl rfl ⟨by omega, by omega⟩ ⟨by omega, by omega⟩ (fun c36 => ?_) (fun c36 => ?_)
        · refine zW_iinc (ls' := [_, _, _, _, _, _, _, _, _, _, _]) (pc' := 137) dX3_sharpen_4.2.1.1.1 rfl (by decide) rfl rfl rfl ?_
          refine zV_goto 12 dX3_sharpen_4.2.1.1.2 rfl ?_
          refine zV_clr 7 (ls' := [_, _, _, _, _, _, _, _, _, _, _]) rfl ?_
          exact k12 _ _ _ hF (by omega) (by omega) (by omega) (by omega)
        · refine zW_iload (pc' := 41) dX3_sharpen_1.1.1.2.2 rfl rfl ?_
          refine zW_sipush (pc' := 44) dX3_sharpen_1.1.2.1.1 rfl rfl ?_
          refine zW_imul (pc' := 45) dX3_sharpen_1.1.2.1.2 rfl ?_
          refine zW_iload (pc' := 47) dX3_sharpen_1.1.2.2.1 rfl rfl ?_
          refine zW_bipush (pc' := 49) dX3_sharpen_1.1.2.2.2 rfl rfl ?_
          refine zW_imul (pc' := 50) dX3_sharpen_1.2.1.1.1 rfl ?_
          refine zW_iadd (pc' := 51) dX3_sharpen_1.2.1.1.2 rfl ?_
          refine zW_iload (pc' := 53) dX3_sharpen_1.2.1.2.1 rfl rfl ?_
          refine zW_iadd (pc' := 54) dX3_sharpen_1.2.1.2.2 rfl ?_
          refine zW_istore (ls' := [_, _, _, _, _, _, _, _, _, _, _]) (pc' := 56) dX3_sharpen_1.2.2.1.1 (by decide) rfl rfl rfl ?_
          refine zW_aload_n (pc' := 57) dX3_sharpen_1.2.2.1.2 rfl rfl ?_
          refine zG_lev (pc' := 60) (by omega) (by omega) fg_X3_27 dX3_sharpen_1.2.2.2.1 rfl ?_
          refine zW_iload (pc' := 62) dX3_sharpen_1.2.2.2.2 rfl rfl ?_
          refine zV_iald (pc' := 63) (tabL (by omega) (by omega)) (by omega) dX3_sharpen_2.1.1.1.1 (by decide) rfl ?_
          refine zW_aload_n (pc' := 64) dX3_sharpen_2.1.1.1.2 rfl rfl ?_
          refine zG_ref (pc' := 67) 33 fg_X3_23 tb87 rfl dX3_sharpen_2.1.1.2.1 rfl ?_
          refine zW_aload_n (pc' := 68) dX3_sharpen_2.1.1.2.2 rfl rfl ?_
          refine zG_lev (pc' := 71) (by omega) (by omega) fg_X3_27 dX3_sharpen_2.1.2.1.1 rfl ?_
          refine zW_iload (pc' := 73) dX3_sharpen_2.1.2.1.2 rfl rfl ?_
          refine zW_iload (pc' := 75) dX3_sharpen_2.1.2.2.1 rfl rfl ?_
          refine zW_iload (pc' := 77) dX3_sharpen_2.1.2.2.2 rfl rfl ?_
          refine csI5 (pc' := 80) kX11_blurOf vX11_blurOf lk_X3_144 ⟨Nat.le_of_ble_eq_true rfl, Nat.le_of_ble_eq_true rfl⟩ rfl (s_X11_blurOf hK hF _ ⟨by omega, by omega⟩ _ ⟨by omega, by omega⟩ _ ⟨by omega, by omega, by omega⟩ _ ⟨by omega, by omega, by omega⟩) dX3_sharpen_2.2.1.1.1 (Nat.le_of_ble_eq_true rfl) rfl ?_
          rintro r77 z77 ⟨hz77, p77⟩; subst z77
          refine zW_isub (pc' := 81) dX3_sharpen_2.2.1.1.2 rfl ?_
          refine zW_istore (ls' := [_, _, _, _, _, _, _, _, _, _, _]) (pc' := 83) dX3_sharpen_2.2.1.2.1 (by decide) rfl rfl rfl ?_
          refine zW_bipush (pc' := 85) dX3_sharpen_2.2.1.2.2 rfl rfl ?_
          refine zW_iload (pc' := 87) dX3_sharpen_2.2.2.1.1 rfl rfl ?_
          refine zW_imul (pc' := 88) dX3_sharpen_2.2.2.1.2 rfl ?_
          refine zW_bipush (pc' := 90) dX3_sharpen_2.2.2.2.1 rfl rfl ?_
          refine zW_iload (pc' := 92) dX3_sharpen_2.2.2.2.2 rfl rfl ?_
          refine zW_imul (pc' := 93) dX3_sharpen_3.1.1.1.1 rfl ?_
          refine zW_iload (pc' := 95) dX3_sharpen_3.1.1.1.2 rfl rfl ?_
          refine zW_iload_n (pc' := 96) dX3_sharpen_3.1.1.2.1 rfl rfl ?_
          refine zW_imul (pc' := 97) dX3_sharpen_3.1.1.2.2 rfl ?_
          refine zW_bipush (pc' := 99) dX3_sharpen_3.1.2.1.1 rfl rfl ?_
          refine zW_idivQ (pc' := 100) ⟨by omega, by omega⟩ (by omega) dX3_sharpen_3.1.2.1.2 rfl (fun v99 e99 => ?_)
          unfold rng at e99
          refine zV_mmin (pc' := 103) km_X3_86 (Nat.le_of_ble_eq_true rfl) (Nat.le_of_ble_eq_true rfl) dX3_sharpen_3.1.2.2.1 rfl (fun v100 e100 => ?_)
          replace e100 := e100.1
          unfold rng at e100
          refine zV_mmax (pc' := 106) km_X3_91 (Nat.le_of_ble_eq_true rfl) (Nat.le_of_ble_eq_true rfl) dX3_sharpen_3.1.2.2.2 rfl (fun v103 e103 => ?_)
          replace e103 := e103.1
          unfold rng at e103
          refine zW_istore (ls' := [_, _, _, _, _, _, _, _, _, _, _]) (pc' := 108) dX3_sharpen_3.2.1.1.1 (by decide) rfl rfl rfl ?_
          refine zW_aload_n (pc' := 109) dX3_sharpen_3.2.1.1.2 rfl rfl ?_
          refine zG_lev (pc' := 112) (by omega) (by omega) fg_X3_27 dX3_sharpen_3.2.1.2.1 rfl ?_
          refine zW_iload (pc' := 114) dX3_sharpen_3.2.1.2.2 rfl rfl ?_
          refine zW_aload_n (pc' := 115) dX3_sharpen_3.2.2.1.1 rfl rfl ?_
          refine zG_lev (pc' := 118) (by omega) (by omega) fg_X3_27 dX3_sharpen_3.2.2.1.2 rfl ?_
          refine zW_iload (pc' := 120) dX3_sharpen_3.2.2.2.1 rfl rfl ?_
          refine zV_iald (pc' := 121) (tabL (by omega) (by omega)) (by omega) dX3_sharpen_3.2.2.2.2 (by decide) rfl ?_
          refine zW_iload (pc' := 123) dX3_sharpen_4.1.1.1.1 rfl rfl ?_
          refine zW_iadd (pc' := 124) dX3_sharpen_4.1.1.1.2 rfl ?_
          refine csI1 (pc' := 127) kX11_clipped vX11_clipped lk_X3_55 ⟨Nat.le_of_ble_eq_true rfl, Nat.le_of_ble_eq_true rfl⟩ rfl (s_X11_clipped hF _) dX3_sharpen_4.1.1.2 (Nat.le_of_ble_eq_true rfl) rfl ?_
          rintro r124 z124 ⟨hz124, p124⟩; subst z124
          refine zS_lv (pc' := 128) hF (by omega) (by omega) hto (by omega) dX3_sharpen_4.1.2.1.1 rfl (fun h i127 hF a127 b127 w127 => ?_)
          refine zW_iinc (ls' := [_, _, _, _, _, _, _, _, _, _, _]) (pc' := 131) dX3_sharpen_4.1.2.1.2 rfl (by decide) rfl rfl rfl ?_
          refine zV_goto 27 dX3_sharpen_4.1.2.2 rfl ?_
          refine zV_clr 8 (ls' := [_, _, _, _, _, _, _, _, _, _, _]) rfl ?_
          refine zV_clr 9 (ls' := [_, _, _, _, _, _, _, _, _, _, _]) rfl ?_
          refine zV_clr 10 (ls' := [_, _, _, _, _, _, _, _, _, _, _]) rfl ?_
          exact k27 _ _ _ _ hF (by omega) (by omega) (by omega) (by omega) (by omega) (by omega)
  refine zM_of [some (.inr (.inr 87)), some (.inr (.inr s1)), some (.inr (.inr s2)), some (.inl x3), some (.inl x4), none, none, none, none, none, none] 6 rfl rfl (Nat.le_of_ble_eq_true rfl) rfl ?_
  refine zW_iconst (pc' := 1) dX3_sharpen_0.1.1.1.1 rfl ?_
  refine zW_istore (ls' := [_, _, _, _, _, _, _, _, _, _, _]) (pc' := 3) dX3_sharpen_0.1.1.1.2 (by decide) rfl rfl rfl ?_
  exact (main 10000000000000000000000000000000000000000).1 _ _ hF (by omega) (by omega)
