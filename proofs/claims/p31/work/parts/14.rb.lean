abbrev q_X12_stage (κ h : Hp) (x1 : Int) (x2 : Int) : Int → Hp → Prop := fun r h' => h' = h ∧ (True)
set_option maxHeartbeats 4000000 in
set_option maxRecDepth 20000 in
theorem s_X12_stage {G : Ga} {b : Bd} {κ h : Hp} (hK : KR κ) (hF : Fr b κ h) (x1 : Int) (hx1 : rng x1) (x2 : Int) (hx2 : rng x2) : zM G mX12_stage yX12_stage [.inr (.inr 0), .inl x1, .inl x2] h (q_X12_stage κ h x1 x2) := by
  have f_0_14 := KRm hK
  unfold rng at hx1
  unfold rng at hx2
  refine zM_of [some (.inr (.inr 0)), some (.inl x1), some (.inl x2)] 0 rfl rfl (Nat.le_of_ble_eq_true rfl) rfl ?_
  refine zW_aload_n (pc' := 1) dX12_stage_0.1.1.1.1 rfl rfl ?_
  refine zW_iload_n (pc' := 2) dX12_stage_0.1.1.1.2 rfl rfl ?_
  refine cvI1 (pc' := 5) kX12_isStage vX12_isStage lk_X12_199 ⟨Nat.le_of_ble_eq_true rfl, Nat.le_of_ble_eq_true rfl⟩ tb0 vq12 rfl rfl (s_X12_isStage hK hF _ ⟨by omega, by omega⟩) dX12_stage_0.1.1.2.1 (Nat.le_of_ble_eq_true rfl) rfl ?_
  rintro r2 z2 ⟨hz2, p2⟩; subst z2
  refine zV_if_eq (tgt := 17) (pc' := 8) dX12_stage_0.1.1.2.2 rfl rfl ⟨by omega, by omega⟩ (fun c5 => ?_) (fun c5 => ?_)
  · refine zW_iconst (pc' := 18) dX12_stage_0.2.1.1.2 rfl ?_
    exact zV_iret rfl dX12_stage_0.2.1.2.1 ⟨rfl, trivial⟩
  · refine zW_iload_n (pc' := 9) dX12_stage_0.1.2.1.1 rfl rfl ?_
    refine zW_iconst (pc' := 10) dX12_stage_0.1.2.1.2 rfl ?_
    refine zW_iconst (pc' := 11) dX12_stage_0.1.2.2.1 rfl ?_
    refine csI3 (pc' := 14) kX12_in vX12_in lk_X12_140 ⟨Nat.le_of_ble_eq_true rfl, Nat.le_of_ble_eq_true rfl⟩ rfl (s_X12_inR hF _ ⟨by omega, by omega⟩ _ ⟨by omega, by omega⟩ _ ⟨by omega, by omega⟩) dX12_stage_0.1.2.2.2 (Nat.le_of_ble_eq_true rfl) rfl ?_
    rintro r11 z11 ⟨hz11, p11⟩; subst z11
    refine zV_if_ne (tgt := 19) (pc' := 17) dX12_stage_0.2.1.1.1 rfl rfl ⟨by omega, by omega⟩ (fun c14 => ?_) (fun c14 => ?_)
    · refine zW_iload_n (pc' := 20) dX12_stage_0.2.1.2.2 rfl rfl ?_
      refine zV_if_ne (tgt := 32) (pc' := 23) dX12_stage_0.2.2.1.1 rfl rfl ⟨by omega, by omega⟩ (fun c20 => ?_) (fun c20 => ?_)
      · refine zW_iload_n (pc' := 33) dX12_stage_1.1.2.1.1 rfl rfl ?_
        refine zW_iconst (pc' := 34) dX12_stage_1.1.2.1.2 rfl ?_
        refine zV_cm_ne (tgt := 43) (pc' := 37) dX12_stage_1.1.2.2.1 rfl rfl ⟨by omega, by omega⟩ ⟨by omega, by omega⟩ (fun c34 => ?_) (fun c34 => ?_)
        · refine zW_iload_n (pc' := 44) dX12_stage_1.2.1.2.2 rfl rfl ?_
          refine zW_aload_n (pc' := 45) dX12_stage_1.2.2.1.1 rfl rfl ?_
          refine zW_iload_n (pc' := 46) dX12_stage_1.2.2.1.2 rfl rfl ?_
          refine cvI1 (pc' := 49) kX12_numberMany vX12_numberMany lk_X12_202 ⟨Nat.le_of_ble_eq_true rfl, Nat.le_of_ble_eq_true rfl⟩ tb0 vq12 rfl rfl (s_X12_numberMany hK hF _ ⟨by omega, by omega⟩) dX12_stage_1.2.2.2.1 (Nat.le_of_ble_eq_true rfl) rfl ?_
          rintro r46 z46 ⟨hz46, p46⟩; subst z46
          refine zV_cm_gt (tgt := 63) (pc' := 52) dX12_stage_1.2.2.2.2 rfl rfl ⟨by omega, by omega⟩ ⟨by omega, by omega⟩ (fun c49 => ?_) (fun c49 => ?_)
          · refine zW_bipush (pc' := 65) dX12_stage_2.2.2.1 rfl rfl ?_
            exact zV_iret rfl dX12_stage_2.2.2.2 ⟨rfl, trivial⟩
          · refine zW_aload_n (pc' := 53) dX12_stage_2.1.1.1.1 rfl rfl ?_
            refine zW_iload_n (pc' := 54) dX12_stage_2.1.1.1.2 rfl rfl ?_
            refine zW_iload_n (pc' := 55) dX12_stage_2.1.1.2 rfl rfl ?_
            refine zW_iconst (pc' := 56) dX12_stage_2.1.2.1 rfl ?_
            refine zW_isub (pc' := 57) dX12_stage_2.1.2.2 rfl ?_
            refine cvI2 (pc' := 60) kX12_numberOf vX12_numberOf lk_X12_206 ⟨Nat.le_of_ble_eq_true rfl, Nat.le_of_ble_eq_true rfl⟩ tb0 vq12 rfl rfl (s_X12_numberOf hK hF _ ⟨by omega, by omega⟩ _ ⟨by omega, by omega⟩) dX12_stage_2.2.1.1 (Nat.le_of_ble_eq_true rfl) rfl ?_
            rintro r57 z57 ⟨hz57, p57⟩; subst z57
            refine zV_goto 65 dX12_stage_2.2.1.2 rfl ?_
            exact zV_iret rfl dX12_stage_2.2.2.2 ⟨rfl, trivial⟩
        · refine zW_aload_n (pc' := 38) dX12_stage_1.1.2.2.2 rfl rfl ?_
          refine zW_iload_n (pc' := 39) dX12_stage_1.2.1.1.1 rfl rfl ?_
          refine cvI1 (pc' := 42) kX12_numberMany vX12_numberMany lk_X12_202 ⟨Nat.le_of_ble_eq_true rfl, Nat.le_of_ble_eq_true rfl⟩ tb0 vq12 rfl rfl (s_X12_numberMany hK hF _ ⟨by omega, by omega⟩) dX12_stage_1.2.1.1.2 (Nat.le_of_ble_eq_true rfl) rfl ?_
          rintro r39 z39 ⟨hz39, p39⟩; subst z39
          exact zV_iret rfl dX12_stage_1.2.1.2.1 ⟨rfl, trivial⟩
      · refine zW_aload_n (pc' := 24) dX12_stage_0.2.2.1.2 rfl rfl ?_
        refine zG_ref (pc' := 27) 3 fg_X12_16 tb0 rfl dX12_stage_0.2.2.2.1 rfl ?_
        refine zW_iload_n (pc' := 28) dX12_stage_0.2.2.2.2 rfl rfl ?_
        refine zW_iconst (pc' := 29) dX12_stage_1.1.1.1.1 rfl ?_
        refine zW_isub (pc' := 30) dX12_stage_1.1.1.1.2 rfl ?_
        refine zA_key (pc' := 31) hF rfl tb3 (by omega) dX12_stage_1.1.1.2.1 (by decide) rfl ?_
        exact zV_iret rfl dX12_stage_1.1.1.2.2 ⟨rfl, trivial⟩
    · refine zW_iconst (pc' := 18) dX12_stage_0.2.1.1.2 rfl ?_
      exact zV_iret rfl dX12_stage_0.2.1.2.1 ⟨rfl, trivial⟩

abbrev q_X12_deadMany (κ h : Hp)  : Int → Hp → Prop := fun r h' => h' = h ∧ (True)
set_option maxHeartbeats 4000000 in
set_option maxRecDepth 20000 in
theorem s_X12_deadMany {G : Ga} {b : Bd} {κ h : Hp} (hK : KR κ) (hF : Fr b κ h)  : zM G mX12_deadMany yX12_deadMany [.inr (.inr 0)] h (q_X12_deadMany κ h) := by
  have main : ∀ N : Nat, (∀ (v1 v2 : Int) , (0 ≤ v2 ∧ v2 ≤ 256) → 78948 + 18 * (256 - v2) + 17 < (N : Int) → zV G mX12_deadMany (q_X12_deadMany κ h) 4 [some (.inr (.inr 0)), some (.inl v1), some (.inl v2)] [] h) := by
    intro N
    induction N with
    | zero =>
      intro v1 v2 g0 hm
      exfalso; omega
    | succ N ih =>
      have k4 := ih
      intro v1 v2 g0 hm
      refine zW_iload_n (pc' := 5) dX12_deadMany_0.1.2.1.1 rfl rfl ?_
      refine zW_sipush (pc' := 8) dX12_deadMany_0.1.2.1.2 rfl rfl ?_
      refine zV_cm_ge (tgt := 30) (pc' := 11) dX12_deadMany_0.1.2.2.1 rfl rfl ⟨by omega, by omega⟩ ⟨by omega, by omega⟩ (fun c8 => ?_) (fun c8 => ?_)
      · refine zW_iload_n (pc' := 31) dX12_deadMany_1.2.1 rfl rfl ?_
        exact zV_iret rfl dX12_deadMany_1.2.2 ⟨rfl, trivial⟩
      · refine zW_aload_n (pc' := 12) dX12_deadMany_0.1.2.2.2 rfl rfl ?_
        refine zG_ref (pc' := 15) 10 fg_X12_37 tb0 rfl dX12_deadMany_0.2.1.1.1 rfl ?_
        refine zW_iload_n (pc' := 16) dX12_deadMany_0.2.1.1.2 rfl rfl ?_
        refine zA_keyz (pc' := 17) hF rfl tb10 (by omega) dX12_deadMany_0.2.1.2.1 (by decide) rfl ?_
        refine zV_ifQ_eq (tgt := 24) (pc' := 20) dX12_deadMany_0.2.1.2.2 rfl rfl ?_ ?_
        · refine zW_iinc (ls' := [_, _, _]) (pc' := 27) dX12_deadMany_1.1.1 rfl (by decide) rfl rfl rfl ?_
          refine zV_goto 4 dX12_deadMany_1.1.2 rfl ?_
          exact k4 _ _ (by omega) (by omega)
        · refine zW_iload_n (pc' := 21) dX12_deadMany_0.2.2.1.1 rfl rfl ?_
          refine zW_iconst (pc' := 22) dX12_deadMany_0.2.2.1.2 rfl ?_
          refine zW_iadd (pc' := 23) dX12_deadMany_0.2.2.2.1 rfl ?_
          refine zW_istore_n (ls' := [_, _, _]) (pc' := 24) dX12_deadMany_0.2.2.2.2 (by decide) rfl rfl rfl ?_
          refine zW_iinc (ls' := [_, _, _]) (pc' := 27) dX12_deadMany_1.1.1 rfl (by decide) rfl rfl rfl ?_
          refine zV_goto 4 dX12_deadMany_1.1.2 rfl ?_
          exact k4 _ _ (by omega) (by omega)
  refine zM_of [some (.inr (.inr 0)), none, none] 2 rfl rfl (Nat.le_of_ble_eq_true rfl) rfl ?_
  refine zW_iconst (pc' := 1) dX12_deadMany_0.1.1.1.1 rfl ?_
  refine zW_istore_n (ls' := [_, _, _]) (pc' := 2) dX12_deadMany_0.1.1.1.2 (by decide) rfl rfl rfl ?_
  refine zW_iconst (pc' := 3) dX12_deadMany_0.1.1.2.1 rfl ?_
  refine zW_istore_n (ls' := [_, _, _]) (pc' := 4) dX12_deadMany_0.1.1.2.2 (by decide) rfl rfl rfl ?_
  exact (main 10000000000000000000000000000000000000000) _ _ (by omega) (by omega)

abbrev q_X12_rawIs (κ h : Hp) (x1 : Int) : Int → Hp → Prop := fun r h' => h' = h ∧ (True)
set_option maxHeartbeats 4000000 in
set_option maxRecDepth 20000 in
theorem s_X12_rawIs {G : Ga} {b : Bd} {κ h : Hp} (hK : KR κ) (hF : Fr b κ h) (x1 : Int) (hx1 : rng x1) : zM G mX12_rawIs yX12_rawIs [.inr (.inr 0), .inl x1] h (q_X12_rawIs κ h x1) := by
  have f_0_11 := KRw hK
  have f_0_12 := KRh hK
  have f_0_13 := KRp hK
  unfold rng at hx1
  have main : ∀ N : Nat, (∀ (v2 v3 v4 : Int) , (0 ≤ v4 ∧ v4 ≤ 16) → (v4 - κ 0 12 ≤ 0) → 36588024 + 35046 * (16 - v4) + 34452 < (N : Int) → zV G mX12_rawIs (q_X12_rawIs κ h x1) 7 [some (.inr (.inr 0)), some (.inl x1), some (.inl v2), some (.inl v3), some (.inl v4), none] [] h) ∧ (∀ (v2 v3 v4 v5 : Int) , (0 ≤ v4 ∧ v4 ≤ 15) → (v4 - κ 0 12 ≤ -1) → (0 ≤ v5 ∧ v5 ≤ 16) → (v5 - κ 0 11 ≤ 0) → 36588024 + 35046 * (16 - v4) + 19008 + 33 * (16 - v5) + 32 < (N : Int) → zV G mX12_rawIs (q_X12_rawIs κ h x1) 19 [some (.inr (.inr 0)), some (.inl x1), some (.inl v2), some (.inl v3), some (.inl v4), some (.inl v5)] [] h) := by
    intro N
    induction N with
    | zero =>
      refine ⟨?_, ?_⟩
      · intro v2 v3 v4 g0 g1 hm
        exfalso; omega
      · intro v2 v3 v4 v5 g0 g1 g2 g3 hm
        exfalso; omega
    | succ N ih =>
      obtain ⟨k7, k19⟩ := ih
      refine ⟨?_, ?_⟩
      · intro v2 v3 v4 g0 g1 hm
        refine zW_iload (pc' := 9) dX12_rawIs_0.1.2.2.1 rfl rfl ?_
        refine zW_aload_n (pc' := 10) dX12_rawIs_0.1.2.2.2 rfl rfl ?_
        refine zG_key (pc' := 13) hF rfl fg_X12_103 tb0 rfl dX12_rawIs_0.2.1.1.1 rfl ?_
        refine zV_cm_ge (tgt := 74) (pc' := 16) dX12_rawIs_0.2.1.1.2 rfl rfl ⟨by omega, by omega⟩ ⟨by omega, by omega⟩ (fun c13 => ?_) (fun c13 => ?_)
        · refine zW_iload_n (pc' := 75) dX12_rawIs_2.2.1.2.2 rfl rfl ?_
          refine zW_tsw dX12_rawIs_2.2.2.1.1 (fun z => if z = 0 then 120 else if z = 1 then 125 else if z = 2 then 130 else if z = 3 then 135 else if z = 4 then 140 else if z = 5 then 142 else if z = 6 then 142 else if z = 7 then 142 else 144) ⟨by omega, by omega⟩ (tsw_ok (pc := 75) (lo := 0) (offs := #[45, 50, 55, 60, 65, 67, 67, 67]) (tg := fun z => if z = 0 then 120 else if z = 1 then 125 else if z = 2 then 130 else if z = 3 then 135 else if z = 4 then 140 else if z = 5 then 142 else if z = 6 then 142 else if z = 7 then 142 else 144) (by decide +kernel)) rfl (td := 144) rfl (fun c75 => ?_) (fun c75 c75b => ?_)
          · refine zW_iconst (pc' := 145) dX12_rawIs_3.2.2.1.2 rfl ?_
            exact zV_iret rfl dX12_rawIs_3.2.2.2 ⟨rfl, trivial⟩
          · split
            · refine zW_aload_n (pc' := 121) dX12_rawIs_2.2.2.1.2 rfl rfl ?_
              refine zG_key (pc' := 124) hF rfl fg_X12_99 tb0 rfl dX12_rawIs_2.2.2.2.1 rfl ?_
              exact zV_iret rfl dX12_rawIs_2.2.2.2.2 ⟨rfl, trivial⟩
            · split
              · refine zW_aload_n (pc' := 126) dX12_rawIs_3.1.1.1.1 rfl rfl ?_
                refine zG_key (pc' := 129) hF rfl fg_X12_103 tb0 rfl dX12_rawIs_3.1.1.1.2 rfl ?_
                exact zV_iret rfl dX12_rawIs_3.1.1.2.1 ⟨rfl, trivial⟩
              · split
                · refine zW_aload_n (pc' := 131) dX12_rawIs_3.1.1.2.2 rfl rfl ?_
                  refine zG_key (pc' := 134) hF rfl fg_X12_209 tb0 rfl dX12_rawIs_3.1.2.1.1 rfl ?_
                  exact zV_iret rfl dX12_rawIs_3.1.2.1.2 ⟨rfl, trivial⟩
                · split
                  · refine zW_aload_n (pc' := 136) dX12_rawIs_3.1.2.2.1 rfl rfl ?_
                    refine cvI0 (pc' := 139) kX12_deadMany vX12_deadMany lk_X12_221 ⟨Nat.le_of_ble_eq_true rfl, Nat.le_of_ble_eq_true rfl⟩ tb0 vq12 rfl rfl (s_X12_deadMany hK hF) dX12_rawIs_3.1.2.2.2 (Nat.le_of_ble_eq_true rfl) rfl ?_
                    rintro r136 z136 ⟨hz136, p136⟩; subst z136
                    exact zV_iret rfl dX12_rawIs_3.2.1.1.1 ⟨rfl, trivial⟩
                  · split
                    · refine zW_iload_n (pc' := 141) dX12_rawIs_3.2.1.1.2 rfl rfl ?_
                      exact zV_iret rfl dX12_rawIs_3.2.1.2.1 ⟨rfl, trivial⟩
                    · split
                      · refine zW_iload_n (pc' := 143) dX12_rawIs_3.2.1.2.2 rfl rfl ?_
                        exact zV_iret rfl dX12_rawIs_3.2.2.1.1 ⟨rfl, trivial⟩
                      · split
                        · refine zW_iload_n (pc' := 143) dX12_rawIs_3.2.1.2.2 rfl rfl ?_
                          exact zV_iret rfl dX12_rawIs_3.2.2.1.1 ⟨rfl, trivial⟩
                        · split
                          · refine zW_iload_n (pc' := 143) dX12_rawIs_3.2.1.2.2 rfl rfl ?_
                            exact zV_iret rfl dX12_rawIs_3.2.2.1.1 ⟨rfl, trivial⟩
                          · refine zW_iconst (pc' := 145) dX12_rawIs_3.2.2.1.2 rfl ?_
                            exact zV_iret rfl dX12_rawIs_3.2.2.2 ⟨rfl, trivial⟩
        · refine zW_iconst (pc' := 17) dX12_rawIs_0.2.1.2.1 rfl ?_
          refine zW_istore (ls' := [_, _, _, _, _, _]) (pc' := 19) dX12_rawIs_0.2.1.2.2 (by decide) rfl rfl rfl ?_
          exact k19 _ _ _ _ (by omega) (by omega) (by omega) (by omega) (by omega)
      · intro v2 v3 v4 v5 g0 g1 g2 g3 hm
        refine zW_iload (pc' := 21) dX12_rawIs_0.2.2.1.1 rfl rfl ?_
        refine zW_aload_n (pc' := 22) dX12_rawIs_0.2.2.1.2 rfl rfl ?_
        refine zG_key (pc' := 25) hF rfl fg_X12_99 tb0 rfl dX12_rawIs_0.2.2.2.1 rfl ?_
        refine zV_cm_ge (tgt := 68) (pc' := 28) dX12_rawIs_0.2.2.2.2 rfl rfl ⟨by omega, by omega⟩ ⟨by omega, by omega⟩ (fun c25 => ?_) (fun c25 => ?_)
        · refine zW_iinc (ls' := [_, _, _, _, _, _]) (pc' := 71) dX12_rawIs_2.2.1.1.2 rfl (by decide) rfl rfl rfl ?_
          refine zV_goto 7 dX12_rawIs_2.2.1.2.1 rfl ?_
          refine zV_clr 5 (ls' := [_, _, _, _, _, _]) rfl ?_
          exact k7 _ _ _ (by omega) (by omega) (by omega)
        · refine zW_iload_n (pc' := 29) dX12_rawIs_1.1.1.1.1 rfl rfl ?_
          refine zW_aload_n (pc' := 30) dX12_rawIs_1.1.1.1.2 rfl rfl ?_
          refine zG_ref (pc' := 33) 1 fg_X12_7 tb0 rfl dX12_rawIs_1.1.1.2.1 rfl ?_
          refine zW_bipush (pc' := 35) dX12_rawIs_1.1.1.2.2 rfl rfl ?_
          refine zW_iload (pc' := 37) dX12_rawIs_1.1.2.1.1 rfl rfl ?_
          refine zW_imul (pc' := 38) dX12_rawIs_1.1.2.1.2 rfl ?_
          refine zW_iload (pc' := 40) dX12_rawIs_1.1.2.2.1 rfl rfl ?_
          refine zW_iadd (pc' := 41) dX12_rawIs_1.1.2.2.2 rfl ?_
          refine zA_key (pc' := 42) hF rfl tb1 (by omega) dX12_rawIs_1.2.1.1.1 (by decide) rfl ?_
          refine zW_iadd (pc' := 43) dX12_rawIs_1.2.1.1.2 rfl ?_
          refine zW_istore_n (ls' := [_, _, _, _, _, _]) (pc' := 44) dX12_rawIs_1.2.1.2.1 (by decide) rfl rfl rfl ?_
          refine zW_aload_n (pc' := 45) dX12_rawIs_1.2.1.2.2 rfl rfl ?_
          refine zW_iload (pc' := 47) dX12_rawIs_1.2.2.1.1 rfl rfl ?_
          refine zW_iload (pc' := 49) dX12_rawIs_1.2.2.1.2 rfl rfl ?_
          refine cvI2 (pc' := 52) kX12_colourAt vX12_colourAt lk_X12_225 ⟨Nat.le_of_ble_eq_true rfl, Nat.le_of_ble_eq_true rfl⟩ tb0 vq12 rfl rfl (s_X12_colourAt hK hF _ ⟨by omega, by omega⟩ _ ⟨by omega, by omega⟩) dX12_rawIs_1.2.2.2.1 (Nat.le_of_ble_eq_true rfl) rfl ?_
          rintro r49 z49 ⟨hz49, p49⟩; subst z49
          refine zW_iload_n (pc' := 53) dX12_rawIs_1.2.2.2.2 rfl rfl ?_
          refine zW_iconst (pc' := 54) dX12_rawIs_2.1.1.1.1 rfl ?_
          refine zW_isub (pc' := 55) dX12_rawIs_2.1.1.1.2 rfl ?_
          refine zV_cmQ_ne (tgt := 62) (pc' := 58) dX12_rawIs_2.1.1.2.1 rfl rfl ?_ ?_
          · refine zW_iinc (ls' := [_, _, _, _, _, _]) (pc' := 65) dX12_rawIs_2.1.2.2.2 rfl (by decide) rfl rfl rfl ?_
            refine zV_goto 19 dX12_rawIs_2.2.1.1.1 rfl ?_
            exact k19 _ _ _ _ (by omega) (by omega) (by omega) (by omega) (by omega)
          · refine zW_iload_n (pc' := 59) dX12_rawIs_2.1.1.2.2 rfl rfl ?_
            refine zW_iconst (pc' := 60) dX12_rawIs_2.1.2.1.1 rfl ?_
            refine zW_iadd (pc' := 61) dX12_rawIs_2.1.2.1.2 rfl ?_
            refine zW_istore_n (ls' := [_, _, _, _, _, _]) (pc' := 62) dX12_rawIs_2.1.2.2.1 (by decide) rfl rfl rfl ?_
            refine zW_iinc (ls' := [_, _, _, _, _, _]) (pc' := 65) dX12_rawIs_2.1.2.2.2 rfl (by decide) rfl rfl rfl ?_
            refine zV_goto 19 dX12_rawIs_2.2.1.1.1 rfl ?_
            exact k19 _ _ _ _ (by omega) (by omega) (by omega) (by omega) (by omega)
  refine zM_of [some (.inr (.inr 0)), some (.inl x1), none, none, none, none] 4 rfl rfl (Nat.le_of_ble_eq_true rfl) rfl ?_
  refine zW_iconst (pc' := 1) dX12_rawIs_0.1.1.1.1 rfl ?_
  refine zW_istore_n (ls' := [_, _, _, _, _, _]) (pc' := 2) dX12_rawIs_0.1.1.1.2 (by decide) rfl rfl rfl ?_
  refine zW_iconst (pc' := 3) dX12_rawIs_0.1.1.2.1 rfl ?_
  refine zW_istore_n (ls' := [_, _, _, _, _, _]) (pc' := 4) dX12_rawIs_0.1.1.2.2 (by decide) rfl rfl rfl ?_
  refine zW_iconst (pc' := 5) dX12_rawIs_0.1.2.1.1 rfl ?_
  refine zW_istore (ls' := [_, _, _, _, _, _]) (pc' := 7) dX12_rawIs_0.1.2.1.2 (by decide) rfl rfl rfl ?_
  exact (main 10000000000000000000000000000000000000000).1 _ _ _ (by omega) (by omega) (by omega)

abbrev q_X12_colour (κ h : Hp) (x1 : Int) (x2 : Int) : Int → Hp → Prop := fun r h' => h' = h ∧ (True)
set_option maxHeartbeats 4000000 in
set_option maxRecDepth 20000 in
theorem s_X12_colour {G : Ga} {b : Bd} {κ h : Hp} (hK : KR κ) (hF : Fr b κ h) (x1 : Int) (hx1 : rng x1) (x2 : Int) (hx2 : rng x2) : zM G mX12_colour yX12_colour [.inr (.inr 0), .inl x1, .inl x2] h (q_X12_colour κ h x1 x2) := by
  have f_0_11 := KRw hK
  have f_0_12 := KRh hK
  unfold rng at hx1
  unfold rng at hx2
  refine zM_of [some (.inr (.inr 0)), some (.inl x1), some (.inl x2)] 0 rfl rfl (Nat.le_of_ble_eq_true rfl) rfl ?_
  refine zW_aload_n (pc' := 1) dX12_colour_0.1.1.1.1 rfl rfl ?_
  refine zW_iload_n (pc' := 2) dX12_colour_0.1.1.1.2 rfl rfl ?_
  refine zW_iload_n (pc' := 3) dX12_colour_0.1.1.2 rfl rfl ?_
  refine cvI2 (pc' := 6) kX12_isSquare vX12_isSquare lk_X12_218 ⟨Nat.le_of_ble_eq_true rfl, Nat.le_of_ble_eq_true rfl⟩ tb0 vq12 rfl rfl (s_X12_isSquare hK hF _ ⟨by omega, by omega⟩ _ ⟨by omega, by omega⟩) dX12_colour_0.1.2.1.1 (Nat.le_of_ble_eq_true rfl) rfl ?_
  rintro r3 z3 ⟨hz3, p3⟩; subst z3
  refine zV_if_eq (tgt := 18) (pc' := 9) dX12_colour_0.1.2.1.2 rfl rfl ⟨by omega, by omega⟩ (fun c6 => ?_) (fun c6 => ?_)
  · refine zW_iconst (pc' := 19) dX12_colour_0.2.2.1.2 rfl ?_
    exact zV_iret rfl dX12_colour_0.2.2.2 ⟨rfl, trivial⟩
  · refine zW_aload_n (pc' := 10) dX12_colour_0.1.2.2 rfl rfl ?_
    refine zW_iload_n (pc' := 11) dX12_colour_0.2.1.1.1 rfl rfl ?_
    refine zW_iload_n (pc' := 12) dX12_colour_0.2.1.1.2 rfl rfl ?_
    refine cvI2 (pc' := 15) kX12_colourAt vX12_colourAt lk_X12_225 ⟨Nat.le_of_ble_eq_true rfl, Nat.le_of_ble_eq_true rfl⟩ tb0 vq12 rfl rfl (s_X12_colourAt hK hF _ ⟨by omega, by omega⟩ _ ⟨by omega, by omega⟩) dX12_colour_0.2.1.2 (Nat.le_of_ble_eq_true rfl) rfl ?_
    rintro r12 z12 ⟨hz12, p12⟩; subst z12
    refine zV_goto 19 dX12_colour_0.2.2.1.1 rfl ?_
    exact zV_iret rfl dX12_colour_0.2.2.2 ⟨rfl, trivial⟩

abbrev q_X12_darkOf (κ h : Hp) (x1 : Int) (x2 : Int) (x3 : Int) : Int → Hp → Prop := fun r h' => h' = h ∧ (True)
set_option maxHeartbeats 4000000 in
set_option maxRecDepth 20000 in
theorem s_X12_darkOf {G : Ga} {b : Bd} {κ h : Hp} (hK : KR κ) (hF : Fr b κ h) (x1 : Int) (hx1 : 0 ≤ x1 ∧ x1 ≤ 14) (x2 : Int) (hx2 : 0 ≤ x2 ∧ x2 ≤ 15 ∧ x2 - κ 0 12 ≤ -1) (x3 : Int) (hx3 : 1 ≤ x3 ∧ x3 ≤ 4) : zM G mX12_darkOf yX12_darkOf [.inr (.inr 0), .inl x1, .inl x2, .inl x3] h (q_X12_darkOf κ h x1 x2 x3) := by
  have f_0_11 := KRw hK
  have f_0_12 := KRh hK
  have main : ∀ N : Nat, (∀ (v4 v5 : Int) , (0 ≤ v5 ∧ v5 ≤ 4) → 2052 + 19 * (4 - v5) + 18 < (N : Int) → zV G mX12_darkOf (q_X12_darkOf κ h x1 x2 x3) 6 [some (.inr (.inr 0)), some (.inl x1), some (.inl x2), some (.inl x3), some (.inl v4), some (.inl v5)] [] h) := by
    intro N
    induction N with
    | zero =>
      intro v4 v5 g0 hm
      exfalso; omega
    | succ N ih =>
      have k6 := ih
      intro v4 v5 g0 hm
      refine zW_iload (pc' := 8) dX12_darkOf_0.1.2.1.1 rfl rfl ?_
      refine zW_iload_n (pc' := 9) dX12_darkOf_0.1.2.1.2 rfl rfl ?_
      refine zV_cm_ge (tgt := 31) (pc' := 12) dX12_darkOf_0.1.2.2.1 rfl rfl ⟨by omega, by omega⟩ ⟨by omega, by omega⟩ (fun c9 => ?_) (fun c9 => ?_)
      · refine zW_iload (pc' := 33) dX12_darkOf_1.1.1.2 rfl rfl ?_
        refine zW_iload_n (pc' := 34) dX12_darkOf_1.1.2 rfl rfl ?_
        refine zW_idivQ (pc' := 35) ⟨by omega, by omega⟩ (by omega) dX12_darkOf_1.2.1 rfl (fun v34 e34 => ?_)
        unfold rng at e34
        exact zV_iret rfl dX12_darkOf_1.2.2 ⟨rfl, trivial⟩
      · refine zW_iload (pc' := 14) dX12_darkOf_0.1.2.2.2 rfl rfl ?_
        refine zW_aload_n (pc' := 15) dX12_darkOf_0.2.1.1.1 rfl rfl ?_
        refine zW_iload_n (pc' := 16) dX12_darkOf_0.2.1.1.2 rfl rfl ?_
        refine zW_iload (pc' := 18) dX12_darkOf_0.2.1.2.1 rfl rfl ?_
        refine zW_iload_n (pc' := 19) dX12_darkOf_0.2.1.2.2 rfl rfl ?_
        refine cvI3 (pc' := 22) kX12_own vX12_own lk_X12_246 ⟨Nat.le_of_ble_eq_true rfl, Nat.le_of_ble_eq_true rfl⟩ tb0 vq12 rfl rfl (s_X12_own hK hF _ ⟨by omega, by omega⟩ _ ⟨by omega, by omega, by omega⟩ _ ⟨by omega, by omega, by omega⟩) dX12_darkOf_0.2.2.1.1 (Nat.le_of_ble_eq_true rfl) rfl ?_
        rintro r19 z19 ⟨hz19, p19⟩; subst z19
        refine zW_iadd (pc' := 23) dX12_darkOf_0.2.2.1.2 rfl ?_
        refine zW_istore (ls' := [_, _, _, _, _, _]) (pc' := 25) dX12_darkOf_0.2.2.2.1 (by decide) rfl rfl rfl ?_
        refine zW_iinc (ls' := [_, _, _, _, _, _]) (pc' := 28) dX12_darkOf_0.2.2.2.2 rfl (by decide) rfl rfl rfl ?_
        refine zV_goto 6 dX12_darkOf_1.1.1.1 rfl ?_
        exact k6 _ _ (by omega) (by omega)
  refine zM_of [some (.inr (.inr 0)), some (.inl x1), some (.inl x2), some (.inl x3), none, none] 2 rfl rfl (Nat.le_of_ble_eq_true rfl) rfl ?_
  refine zW_iconst (pc' := 1) dX12_darkOf_0.1.1.1.1 rfl ?_
  refine zW_istore (ls' := [_, _, _, _, _, _]) (pc' := 3) dX12_darkOf_0.1.1.1.2 (by decide) rfl rfl rfl ?_
  refine zW_iconst (pc' := 4) dX12_darkOf_0.1.1.2.1 rfl ?_
  refine zW_istore (ls' := [_, _, _, _, _, _]) (pc' := 6) dX12_darkOf_0.1.1.2.2 (by decide) rfl rfl rfl ?_
  exact (main 10000000000000000000000000000000000000000) _ _ (by omega) (by omega)

abbrev q_X12_sorts (b : Bd) (κ : Hp) (l1 : Nat) (x2 : Int) : Int → Hp → Prop := fun r h' => Fr b κ h' ∧ (True)
set_option maxHeartbeats 4000000 in
set_option maxRecDepth 20000 in
theorem s_X12_sorts {G : Ga} {b : Bd} {κ h : Hp} (hF : Fr b κ h) (l1 : Nat) {L1 : Nat} (ht_l1 : tab[l1]? = some (1, 0, [L1])) (hs_l1 : scr b l1 = true) (hb_l1 : L1 < 2147483648) (x2 : Int) (hx2 : 0 ≤ x2 ∧ x2 ≤ 256) (hn : x2 ≤ (L1 : Int)) : zM G mX12_sorts yX12_sorts [.inr (.inr l1), .inl x2] h (q_X12_sorts b κ l1 x2) := by
  have main : ∀ N : Nat, (∀ (v2 : Int) (h : Hp), Fr b κ h → (1 ≤ v2 ∧ v2 ≤ 256) → 3791212600 + 368795 * (256 - v2) + 359800 < (N : Int) → zV G mX12_sorts (q_X12_sorts b κ l1 x2) 2 [some (.inr (.inr l1)), some (.inl x2), some (.inl v2), none, none] [] h) ∧ (∀ (v2 v3 : Int) (h : Hp), Fr b κ h → (2 ≤ x2 ∧ x2 ≤ 256) → (1 ≤ v2 ∧ v2 ≤ 255) → (0 ≤ v3 ∧ v3 ≤ 255) → (v3 ≤ v2) → (v2 < x2) → 3791212600 + 368795 * (256 - v2) + 305830 + 35 * (v3 - 0) + 34 < (N : Int) → zV G mX12_sorts (q_X12_sorts b κ l1 x2) 9 [some (.inr (.inr l1)), some (.inl x2), some (.inl v2), some (.inl v3), none] [] h) := by
    intro N
    induction N with
    | zero =>
      refine ⟨?_, ?_⟩
      · intro v2 h hF g0 hm
        exfalso; omega
      · intro v2 v3 h hF g0 g1 g2 gc0 gc1 hm
        exfalso; omega
    | succ N ih =>
      obtain ⟨k2, k9⟩ := ih
      refine ⟨?_, ?_⟩
      · intro v2 h hF g0 hm
        refine zW_iload_n (pc' := 3) dX12_sorts_0.1.1.2.1 rfl rfl ?_
        refine zW_iload_n (pc' := 4) dX12_sorts_0.1.1.2.2 rfl rfl ?_
        refine zV_cm_ge (tgt := 56) (pc' := 7) dX12_sorts_0.1.2.1.1 rfl rfl ⟨by omega, by omega⟩ ⟨by omega, by omega⟩ (fun c4 => ?_) (fun c4 => ?_)
        · exact zV_vret rfl dX12_sorts_2.2.2.2 ⟨hF, trivial⟩
        · refine zW_iload_n (pc' := 8) dX12_sorts_0.1.2.1.2 rfl rfl ?_
          refine zW_istore_n (ls' := [_, _, _, _, _]) (pc' := 9) dX12_sorts_0.1.2.2.1 (by decide) rfl rfl rfl ?_
          exact k9 _ _ _ hF (by omega) (by omega) (by omega) (by omega) (by omega) (by omega)
      · intro v2 v3 h hF g0 g1 g2 gc0 gc1 hm
        refine zW_iload_n (pc' := 10) dX12_sorts_0.1.2.2.2 rfl rfl ?_
        refine zV_if_le (tgt := 50) (pc' := 13) dX12_sorts_0.2.1.1.1 rfl rfl ⟨by omega, by omega⟩ (fun c10 => ?_) (fun c10 => ?_)
        · refine zW_iinc (ls' := [_, _, _, _, _]) (pc' := 53) dX12_sorts_2.2.1.2 rfl (by decide) rfl rfl rfl ?_
          refine zV_goto 2 dX12_sorts_2.2.2.1 rfl ?_
          refine zV_clr 3 (ls' := [_, _, _, _, _]) rfl ?_
          exact k2 _ _ hF (by omega) (by omega)
        · refine zW_aload_n (pc' := 14) dX12_sorts_0.2.1.1.2 rfl rfl ?_
          refine zW_iload_n (pc' := 15) dX12_sorts_0.2.1.2.1 rfl rfl ?_
          refine zV_iald (pc' := 16) ht_l1 (by omega) dX12_sorts_0.2.1.2.2 hb_l1 rfl ?_
          refine zW_aload_n (pc' := 17) dX12_sorts_0.2.2.1.1 rfl rfl ?_
          refine zW_iload_n (pc' := 18) dX12_sorts_0.2.2.1.2 rfl rfl ?_
          refine zW_iconst (pc' := 19) dX12_sorts_0.2.2.2.1 rfl ?_
          refine zW_isub (pc' := 20) dX12_sorts_0.2.2.2.2 rfl ?_
          refine zV_iald (pc' := 21) ht_l1 (by omega) dX12_sorts_1.1.1.1.1 hb_l1 rfl ?_
          refine zV_cmQ_ge (tgt := 50) (pc' := 24) dX12_sorts_1.1.1.1.2 rfl rfl ?_ ?_
          · refine zW_iinc (ls' := [_, _, _, _, _]) (pc' := 53) dX12_sorts_2.2.1.2 rfl (by decide) rfl rfl rfl ?_
            refine zV_goto 2 dX12_sorts_2.2.2.1 rfl ?_
            refine zV_clr 3 (ls' := [_, _, _, _, _]) rfl ?_
            exact k2 _ _ hF (by omega) (by omega)
          · refine zW_aload_n (pc' := 25) dX12_sorts_1.1.1.2.1 rfl rfl ?_
            refine zW_iload_n (pc' := 26) dX12_sorts_1.1.1.2.2 rfl rfl ?_
            refine zV_iald (pc' := 27) ht_l1 (by omega) dX12_sorts_1.1.2.1.1 hb_l1 rfl ?_
            refine zW_istore (ls' := [_, _, _, _, _]) (pc' := 29) dX12_sorts_1.1.2.1.2 (by decide) rfl rfl rfl ?_
            refine zW_aload_n (pc' := 30) dX12_sorts_1.1.2.2.1 rfl rfl ?_
            refine zW_iload_n (pc' := 31) dX12_sorts_1.1.2.2.2 rfl rfl ?_
            refine zW_aload_n (pc' := 32) dX12_sorts_1.2.1.1.1 rfl rfl ?_
            refine zW_iload_n (pc' := 33) dX12_sorts_1.2.1.1.2 rfl rfl ?_
            refine zW_iconst (pc' := 34) dX12_sorts_1.2.1.2.1 rfl ?_
            refine zW_isub (pc' := 35) dX12_sorts_1.2.1.2.2 rfl ?_
            refine zV_iald (pc' := 36) ht_l1 (by omega) dX12_sorts_1.2.2.1.1 hb_l1 rfl ?_
            refine zS_i (pc' := 37) hF hs_l1 ht_l1 (by omega) dX12_sorts_1.2.2.1.2 hb_l1 rfl (fun h i36 hF a36 b36 w36 => ?_)
            refine zW_aload_n (pc' := 38) dX12_sorts_1.2.2.2.1 rfl rfl ?_
            refine zW_iload_n (pc' := 39) dX12_sorts_1.2.2.2.2 rfl rfl ?_
            refine zW_iconst (pc' := 40) dX12_sorts_2.1.1.1.1 rfl ?_
            refine zW_isub (pc' := 41) dX12_sorts_2.1.1.1.2 rfl ?_
            refine zW_iload (pc' := 43) dX12_sorts_2.1.1.2 rfl rfl ?_
            refine zS_i (pc' := 44) hF hs_l1 ht_l1 (by omega) dX12_sorts_2.1.2.1 hb_l1 rfl (fun h i43 hF a43 b43 w43 => ?_)
            refine zW_iinc (ls' := [_, _, _, _, _]) (pc' := 47) dX12_sorts_2.1.2.2 rfl (by decide) rfl rfl rfl ?_
            refine zV_goto 9 dX12_sorts_2.2.1.1 rfl ?_
            refine zV_clr 4 (ls' := [_, _, _, _, _]) rfl ?_
            exact k9 _ _ _ hF (by omega) (by omega) (by omega) (by omega) (by omega) (by omega)
  refine zM_of [some (.inr (.inr l1)), some (.inl x2), none, none, none] 3 rfl rfl (Nat.le_of_ble_eq_true rfl) rfl ?_
  refine zW_iconst (pc' := 1) dX12_sorts_0.1.1.1.1 rfl ?_
  refine zW_istore_n (ls' := [_, _, _, _, _]) (pc' := 2) dX12_sorts_0.1.1.1.2 (by decide) rfl rfl rfl ?_
  exact (main 10000000000000000000000000000000000000000).1 _ _ hF (by omega) (by omega)

abbrev q_X12_middleOf (b : Bd) (κ : Hp) (x1 : Int) (x2 : Int) (x3 : Int) : Int → Hp → Prop := fun r h' => Fr b κ h' ∧ (True)
set_option maxHeartbeats 4000000 in
set_option maxRecDepth 20000 in
theorem s_X12_middleOf {G : Ga} {b : Bd} {κ h : Hp} (hK : KR κ) (hF : Fr b κ h) (x1 : Int) (hx1 : 0 ≤ x1 ∧ x1 ≤ 14) (x2 : Int) (hx2 : 0 ≤ x2 ∧ x2 ≤ 15 ∧ x2 - κ 0 11 ≤ -1) (x3 : Int) (hx3 : 0 ≤ x3 ∧ x3 ≤ 15 ∧ x3 - κ 0 12 ≤ -1) : zM G mX12_middleOf yX12_middleOf [.inr (.inr 0), .inl x1, .inl x2, .inl x3] h (q_X12_middleOf b κ x1 x2 x3) := by
  have f_0_11 := KRw hK
  have f_0_12 := KRh hK
  refine zM_of [some (.inr (.inr 0)), some (.inl x1), some (.inl x2), some (.inl x3)] 0 rfl rfl (Nat.le_of_ble_eq_true rfl) rfl ?_
  refine zW_aload_n (pc' := 1) dX12_middleOf_0.1.1.1.1 rfl rfl ?_
  refine zG_ref (pc' := 4) 21 fg_X12_72 tb0 rfl dX12_middleOf_0.1.1.1.2 rfl ?_
  refine zW_iconst (pc' := 5) dX12_middleOf_0.1.1.2.1 rfl ?_
  refine zW_aload_n (pc' := 6) dX12_middleOf_0.1.1.2.2 rfl rfl ?_
  refine zW_iload_n (pc' := 7) dX12_middleOf_0.1.2.1.1 rfl rfl ?_
  refine zW_iload_n (pc' := 8) dX12_middleOf_0.1.2.1.2 rfl rfl ?_
  refine zW_iconst (pc' := 9) dX12_middleOf_0.1.2.2.1 rfl ?_
  refine zW_isub (pc' := 10) dX12_middleOf_0.1.2.2.2 rfl ?_
  refine zW_iload_n (pc' := 11) dX12_middleOf_0.2.1.1.1 rfl rfl ?_
  refine cvI3 (pc' := 14) kX12_own vX12_own lk_X12_246 ⟨Nat.le_of_ble_eq_true rfl, Nat.le_of_ble_eq_true rfl⟩ tb0 vq12 rfl rfl (s_X12_own hK hF _ ⟨by omega, by omega⟩ _ ⟨by omega, by omega, by omega⟩ _ ⟨by omega, by omega, by omega⟩) dX12_middleOf_0.2.1.1.2 (Nat.le_of_ble_eq_true rfl) rfl ?_
  rintro r11 z11 ⟨hz11, p11⟩; subst z11
  refine zS_i (pc' := 15) hF sr21 tb21 (by omega) dX12_middleOf_0.2.1.2.1 (by decide) rfl (fun h i14 hF a14 b14 w14 => ?_)
  refine zW_aload_n (pc' := 16) dX12_middleOf_0.2.1.2.2 rfl rfl ?_
  refine zG_ref (pc' := 19) 21 fg_X12_72 tb0 rfl dX12_middleOf_0.2.2.1.1 rfl ?_
  refine zW_iconst (pc' := 20) dX12_middleOf_0.2.2.1.2 rfl ?_
  refine zW_aload_n (pc' := 21) dX12_middleOf_0.2.2.2.1 rfl rfl ?_
  refine zW_iload_n (pc' := 22) dX12_middleOf_0.2.2.2.2 rfl rfl ?_
  refine zW_iload_n (pc' := 23) dX12_middleOf_1.1.1.1.1 rfl rfl ?_
  refine zW_iconst (pc' := 24) dX12_middleOf_1.1.1.1.2 rfl ?_
  refine zW_iadd (pc' := 25) dX12_middleOf_1.1.1.2.1 rfl ?_
  refine zW_iload_n (pc' := 26) dX12_middleOf_1.1.1.2.2 rfl rfl ?_
  refine cvI3 (pc' := 29) kX12_own vX12_own lk_X12_246 ⟨Nat.le_of_ble_eq_true rfl, Nat.le_of_ble_eq_true rfl⟩ tb0 vq12 rfl rfl (s_X12_own hK hF _ ⟨by omega, by omega⟩ _ ⟨by omega, by omega, by omega⟩ _ ⟨by omega, by omega, by omega⟩) dX12_middleOf_1.1.2.1.1 (Nat.le_of_ble_eq_true rfl) rfl ?_
  rintro r26 z26 ⟨hz26, p26⟩; subst z26
  refine zS_i (pc' := 30) hF sr21 tb21 (by omega) dX12_middleOf_1.1.2.1.2 (by decide) rfl (fun h i29 hF a29 b29 w29 => ?_)
  refine zW_aload_n (pc' := 31) dX12_middleOf_1.1.2.2.1 rfl rfl ?_
  refine zG_ref (pc' := 34) 21 fg_X12_72 tb0 rfl dX12_middleOf_1.1.2.2.2 rfl ?_
  refine zW_iconst (pc' := 35) dX12_middleOf_1.2.1.1.1 rfl ?_
  refine zW_aload_n (pc' := 36) dX12_middleOf_1.2.1.1.2 rfl rfl ?_
  refine zW_iload_n (pc' := 37) dX12_middleOf_1.2.1.2.1 rfl rfl ?_
  refine zW_iload_n (pc' := 38) dX12_middleOf_1.2.1.2.2 rfl rfl ?_
  refine zW_iload_n (pc' := 39) dX12_middleOf_1.2.2.1.1 rfl rfl ?_
  refine zW_iconst (pc' := 40) dX12_middleOf_1.2.2.1.2 rfl ?_
  refine zW_isub (pc' := 41) dX12_middleOf_1.2.2.2.1 rfl ?_
  refine cvI3 (pc' := 44) kX12_own vX12_own lk_X12_246 ⟨Nat.le_of_ble_eq_true rfl, Nat.le_of_ble_eq_true rfl⟩ tb0 vq12 rfl rfl (s_X12_own hK hF _ ⟨by omega, by omega⟩ _ ⟨by omega, by omega, by omega⟩ _ ⟨by omega, by omega, by omega⟩) dX12_middleOf_1.2.2.2.2 (Nat.le_of_ble_eq_true rfl) rfl ?_
  rintro r41 z41 ⟨hz41, p41⟩; subst z41
  refine zS_i (pc' := 45) hF sr21 tb21 (by omega) dX12_middleOf_2.1.1.1.1 (by decide) rfl (fun h i44 hF a44 b44 w44 => ?_)
  refine zW_aload_n (pc' := 46) dX12_middleOf_2.1.1.1.2 rfl rfl ?_
  refine zG_ref (pc' := 49) 21 fg_X12_72 tb0 rfl dX12_middleOf_2.1.1.2.1 rfl ?_
  refine zW_iconst (pc' := 50) dX12_middleOf_2.1.1.2.2 rfl ?_
  refine zW_aload_n (pc' := 51) dX12_middleOf_2.1.2.1.1 rfl rfl ?_
  refine zW_iload_n (pc' := 52) dX12_middleOf_2.1.2.1.2 rfl rfl ?_
  refine zW_iload_n (pc' := 53) dX12_middleOf_2.1.2.2.1 rfl rfl ?_
  refine zW_iload_n (pc' := 54) dX12_middleOf_2.1.2.2.2 rfl rfl ?_
  refine zW_iconst (pc' := 55) dX12_middleOf_2.2.1.1.1 rfl ?_
  refine zW_iadd (pc' := 56) dX12_middleOf_2.2.1.1.2 rfl ?_
  refine cvI3 (pc' := 59) kX12_own vX12_own lk_X12_246 ⟨Nat.le_of_ble_eq_true rfl, Nat.le_of_ble_eq_true rfl⟩ tb0 vq12 rfl rfl (s_X12_own hK hF _ ⟨by omega, by omega⟩ _ ⟨by omega, by omega, by omega⟩ _ ⟨by omega, by omega, by omega⟩) dX12_middleOf_2.2.1.2.1 (Nat.le_of_ble_eq_true rfl) rfl ?_
  rintro r56 z56 ⟨hz56, p56⟩; subst z56
  refine zS_i (pc' := 60) hF sr21 tb21 (by omega) dX12_middleOf_2.2.1.2.2 (by decide) rfl (fun h i59 hF a59 b59 w59 => ?_)
  refine zW_aload_n (pc' := 61) dX12_middleOf_2.2.2.1.1 rfl rfl ?_
  refine zG_ref (pc' := 64) 21 fg_X12_72 tb0 rfl dX12_middleOf_2.2.2.1.2 rfl ?_
  refine zW_iconst (pc' := 65) dX12_middleOf_2.2.2.2.1 rfl ?_
  refine csV2 (pc' := 68) kX12_sorts vX12_sorts lk_X12_250 ⟨Nat.le_of_ble_eq_true rfl, Nat.le_of_ble_eq_true rfl⟩ rfl (s_X12_sorts hF _ tb21 (sr21) (by decide) _ ⟨by omega, by omega⟩ (by omega)) dX12_middleOf_2.2.2.2.2 (Nat.le_of_ble_eq_true rfl) rfl ?_
  rintro r65 h ⟨hF, p65⟩
  refine zW_aload_n (pc' := 69) dX12_middleOf_3.1.1.1.1 rfl rfl ?_
  refine zG_ref (pc' := 72) 21 fg_X12_72 tb0 rfl dX12_middleOf_3.1.1.1.2 rfl ?_
  refine zW_iconst (pc' := 73) dX12_middleOf_3.1.1.2 rfl ?_
  refine zV_iald (pc' := 74) tb21 (by omega) dX12_middleOf_3.1.2.1.1 (by decide) rfl ?_
  refine zW_aload_n (pc' := 75) dX12_middleOf_3.1.2.1.2 rfl rfl ?_
  refine zG_ref (pc' := 78) 21 fg_X12_72 tb0 rfl dX12_middleOf_3.1.2.2 rfl ?_
  refine zW_iconst (pc' := 79) dX12_middleOf_3.2.1.1.1 rfl ?_
  refine zV_iald (pc' := 80) tb21 (by omega) dX12_middleOf_3.2.1.1.2 (by decide) rfl ?_
  refine zW_iadd (pc' := 81) dX12_middleOf_3.2.1.2 rfl ?_
  refine zW_iconst (pc' := 82) dX12_middleOf_3.2.2.1.1 rfl ?_
  refine zW_idivQ (pc' := 83) ⟨by omega, by omega⟩ (by omega) dX12_middleOf_3.2.2.1.2 rfl (fun v82 e82 => ?_)
  unfold rng at e82
  exact zV_iret rfl dX12_middleOf_3.2.2.2 ⟨hF, trivial⟩

abbrev q_X12_isFound (b : Bd) (κ : Hp) (x1 : Int) (x2 : Int) (x3 : Int) (x4 : Int) : Int → Hp → Prop := fun r h' => Fr b κ h' ∧ ((0 ≤ r) ∧ (r ≤ 1))
set_option maxHeartbeats 4000000 in
set_option maxRecDepth 20000 in
theorem s_X12_isFound {G : Ga} {b : Bd} {κ h : Hp} (hK : KR κ) (hF : Fr b κ h) (x1 : Int) (hx1 : 0 ≤ x1 ∧ x1 ≤ 14) (x2 : Int) (hx2 : 0 ≤ x2 ∧ x2 ≤ 15 ∧ x2 - κ 0 11 ≤ -1) (x3 : Int) (hx3 : 0 ≤ x3 ∧ x3 ≤ 15 ∧ x3 - κ 0 12 ≤ -1) (x4 : Int) : zM G mX12_isFound yX12_isFound [.inr (.inr 0), .inl x1, .inl x2, .inl x3, .inl x4] h (q_X12_isFound b κ x1 x2 x3 x4) := by
  have f_0_11 := KRw hK
  have f_0_12 := KRh hK
  refine zM_of [some (.inr (.inr 0)), some (.inl x1), some (.inl x2), some (.inl x3), some (.inl x4)] 0 rfl rfl (Nat.le_of_ble_eq_true rfl) rfl ?_
  refine zW_aload_n (pc' := 1) dX12_isFound_0.1.1.1.1 rfl rfl ?_
  refine zG_ref (pc' := 4) 10 fg_X12_37 tb0 rfl dX12_isFound_0.1.1.1.2 rfl ?_
  refine zW_bipush (pc' := 6) dX12_isFound_0.1.1.2.1 rfl rfl ?_
  refine zW_iload_n (pc' := 7) dX12_isFound_0.1.1.2.2 rfl rfl ?_
  refine zW_imul (pc' := 8) dX12_isFound_0.1.2.1.1 rfl ?_
  refine zW_iload_n (pc' := 9) dX12_isFound_0.1.2.1.2 rfl rfl ?_
  refine zW_iadd (pc' := 10) dX12_isFound_0.1.2.2.1 rfl ?_
  refine zA_keyz (pc' := 11) hF rfl tb10 (by omega) dX12_isFound_0.1.2.2.2 (by decide) rfl ?_
  refine zV_ifQ_ne (tgt := 40) (pc' := 14) dX12_isFound_0.2.1.1.1 rfl rfl ?_ ?_
  · refine zW_iconst (pc' := 41) dX12_isFound_1.2.1.2 rfl ?_
    refine zV_goto 45 dX12_isFound_1.2.2.1.1 rfl ?_
    exact zV_zret rfl (by omega) dX12_isFound_1.2.2.2 ⟨hF, by omega⟩
  · refine zW_aload_n (pc' := 15) dX12_isFound_0.2.1.1.2 rfl rfl ?_
    refine zW_iload_n (pc' := 16) dX12_isFound_0.2.1.2.1 rfl rfl ?_
    refine zW_iload_n (pc' := 17) dX12_isFound_0.2.1.2.2 rfl rfl ?_
    refine zW_iload_n (pc' := 18) dX12_isFound_0.2.2.1.1 rfl rfl ?_
    refine cvI3 (pc' := 21) kX12_own vX12_own lk_X12_246 ⟨Nat.le_of_ble_eq_true rfl, Nat.le_of_ble_eq_true rfl⟩ tb0 vq12 rfl rfl (s_X12_own hK hF _ ⟨by omega, by omega⟩ _ ⟨by omega, by omega, by omega⟩ _ ⟨by omega, by omega, by omega⟩) dX12_isFound_0.2.2.1.2 (Nat.le_of_ble_eq_true rfl) rfl ?_
    rintro r18 z18 ⟨hz18, p18⟩; subst z18
    refine zW_aload_n (pc' := 22) dX12_isFound_0.2.2.2.1 rfl rfl ?_
    refine zW_iload_n (pc' := 23) dX12_isFound_0.2.2.2.2 rfl rfl ?_
    refine zW_iload_n (pc' := 24) dX12_isFound_1.1.1.1.1 rfl rfl ?_
    refine zW_iload_n (pc' := 25) dX12_isFound_1.1.1.1.2 rfl rfl ?_
    refine cvI3 (pc' := 28) kX12_middleOf vX12_middleOf lk_X12_254 ⟨Nat.le_of_ble_eq_true rfl, Nat.le_of_ble_eq_true rfl⟩ tb0 vq12 rfl rfl (s_X12_middleOf hK hF _ ⟨by omega, by omega⟩ _ ⟨by omega, by omega, by omega⟩ _ ⟨by omega, by omega, by omega⟩) dX12_isFound_1.1.1.2.1 (Nat.le_of_ble_eq_true rfl) rfl ?_
    rintro r25 h ⟨hF, p25⟩
    refine zW_isub (pc' := 29) dX12_isFound_1.1.1.2.2 rfl ?_
    refine csI1 (pc' := 32) kX12_size vX12_size lk_X12_257 ⟨Nat.le_of_ble_eq_true rfl, Nat.le_of_ble_eq_true rfl⟩ rfl (s_X12_size hF _) dX12_isFound_1.1.2.1.1 (Nat.le_of_ble_eq_true rfl) rfl ?_
    rintro r29 z29 ⟨hz29, p29⟩; subst z29
    refine zW_bipush (pc' := 34) dX12_isFound_1.1.2.1.2 rfl rfl ?_
    refine zW_iload (pc' := 36) dX12_isFound_1.1.2.2 rfl rfl ?_
    refine zW_imul (pc' := 37) dX12_isFound_1.2.1.1.1 rfl ?_
    refine zV_cmQ_le (tgt := 44) (pc' := 40) dX12_isFound_1.2.1.1.2 rfl rfl ?_ ?_
    · refine zW_iconst (pc' := 45) dX12_isFound_1.2.2.1.2 rfl ?_
      exact zV_zret rfl (by omega) dX12_isFound_1.2.2.2 ⟨hF, by omega⟩
    · refine zW_iconst (pc' := 41) dX12_isFound_1.2.1.2 rfl ?_
      refine zV_goto 45 dX12_isFound_1.2.2.1.1 rfl ?_
      exact zV_zret rfl (by omega) dX12_isFound_1.2.2.2 ⟨hF, by omega⟩

abbrev q_X12_shaded (κ h : Hp) (x1 : Int) (x2 : Int) (x3 : Int) (x4 : Int) : Int → Hp → Prop := fun r h' => h' = h ∧ (True)
set_option maxHeartbeats 4000000 in
set_option maxRecDepth 20000 in
theorem s_X12_shaded {G : Ga} {b : Bd} {κ h : Hp} (hK : KR κ) (hF : Fr b κ h) (x1 : Int) (x2 : Int) (hx2 : 0 ≤ x2 ∧ x2 ≤ 15 ∧ x2 - κ 0 11 ≤ -1) (x3 : Int) (hx3 : 0 ≤ x3 ∧ x3 ≤ 15 ∧ x3 - κ 0 12 ≤ -1) (x4 : Int) : zM G mX12_shaded yX12_shaded [.inr (.inr 0), .inl x1, .inl x2, .inl x3, .inl x4] h (q_X12_shaded κ h x1 x2 x3 x4) := by
  have f_0_11 := KRw hK
  have f_0_12 := KRh hK
  refine zM_of [some (.inr (.inr 0)), some (.inl x1), some (.inl x2), some (.inl x3), some (.inl x4), none, none] 2 rfl rfl (Nat.le_of_ble_eq_true rfl) rfl ?_
  refine zW_iconst (pc' := 1) dX12_shaded_0.1.1.1.1 rfl ?_
  refine zW_iload_n (pc' := 2) dX12_shaded_0.1.1.1.2 rfl rfl ?_
  refine zW_imul (pc' := 3) dX12_shaded_0.1.1.2.1 rfl ?_
  refine zW_iconst (pc' := 4) dX12_shaded_0.1.1.2.2 rfl ?_
  refine zW_iadd (pc' := 5) dX12_shaded_0.1.2.1.1 rfl ?_
  refine zW_aload_n (pc' := 6) dX12_shaded_0.1.2.1.2 rfl rfl ?_
  refine zG_key (pc' := 9) hF rfl fg_X12_99 tb0 rfl dX12_shaded_0.1.2.2.1 rfl ?_
  refine zW_isub (pc' := 10) dX12_shaded_0.1.2.2.2 rfl ?_
  refine zW_istore (ls' := [_, _, _, _, _, _, _]) (pc' := 12) dX12_shaded_0.2.1.1.1 (by decide) rfl rfl rfl ?_
  refine zW_iconst (pc' := 13) dX12_shaded_0.2.1.1.2 rfl ?_
  refine zW_iload_n (pc' := 14) dX12_shaded_0.2.1.2.1 rfl rfl ?_
  refine zW_imul (pc' := 15) dX12_shaded_0.2.1.2.2 rfl ?_
  refine zW_iconst (pc' := 16) dX12_shaded_0.2.2.1.1 rfl ?_
  refine zW_iadd (pc' := 17) dX12_shaded_0.2.2.1.2 rfl ?_
  refine zW_aload_n (pc' := 18) dX12_shaded_0.2.2.2.1 rfl rfl ?_
  refine zG_key (pc' := 21) hF rfl fg_X12_103 tb0 rfl dX12_shaded_0.2.2.2.2 rfl ?_
  refine zW_isub (pc' := 22) dX12_shaded_1.1.1.1.1 rfl ?_
  refine zW_istore (ls' := [_, _, _, _, _, _, _]) (pc' := 24) dX12_shaded_1.1.1.1.2 (by decide) rfl rfl rfl ?_
  refine zW_iload_n (pc' := 25) dX12_shaded_1.1.1.2.1 rfl rfl ?_
  refine zW_sipush (pc' := 28) dX12_shaded_1.1.1.2.2 rfl rfl ?_
  refine zW_iload (pc' := 30) dX12_shaded_1.1.2.1.1 rfl rfl ?_
  refine zW_iload (pc' := 32) dX12_shaded_1.1.2.1.2 rfl rfl ?_
  refine zW_iload (pc' := 34) dX12_shaded_1.1.2.2.1 rfl rfl ?_
  refine zW_imul (pc' := 35) dX12_shaded_1.1.2.2.2 rfl ?_
  refine zW_iload (pc' := 37) dX12_shaded_1.2.1.1.1 rfl rfl ?_
  refine zW_iload (pc' := 39) dX12_shaded_1.2.1.1.2 rfl rfl ?_
  refine zW_imul (pc' := 40) dX12_shaded_1.2.1.2.1 rfl ?_
  refine zW_iadd (pc' := 41) dX12_shaded_1.2.1.2.2 rfl ?_
  refine zW_imul (pc' := 42) dX12_shaded_1.2.2.1.1 rfl ?_
  refine zW_bipush (pc' := 44) dX12_shaded_1.2.2.1.2 rfl rfl ?_
  refine zW_idivQ (pc' := 45) ⟨by omega, by omega⟩ (by omega) dX12_shaded_1.2.2.2.1 rfl (fun v44 e44 => ?_)
  unfold rng at e44
  refine zW_iadd (pc' := 46) dX12_shaded_1.2.2.2.2 rfl ?_
  refine zW_imul (pc' := 47) dX12_shaded_2.1.1 rfl ?_
  refine zW_sipush (pc' := 50) dX12_shaded_2.1.2 rfl rfl ?_
  refine zW_idivQ (pc' := 51) ⟨by omega, by omega⟩ (by omega) dX12_shaded_2.2.1 rfl (fun v50 e50 => ?_)
  unfold rng at e50
  exact zV_iret rfl dX12_shaded_2.2.2 ⟨rfl, trivial⟩

abbrev q_X12_wayOf (κ h : Hp) (x1 : Int) (x2 : Int) (x3 : Int) : Int → Hp → Prop := fun r h' => h' = h ∧ ((0 ≤ r) ∧ (r ≤ 2))
set_option maxHeartbeats 4000000 in
set_option maxRecDepth 20000 in
theorem s_X12_wayOf {G : Ga} {b : Bd} {κ h : Hp} (hK : KR κ) (hF : Fr b κ h) (x1 : Int) (hx1 : 0 ≤ x1 ∧ x1 ≤ 14) (x2 : Int) (hx2 : 0 ≤ x2 ∧ x2 ≤ 15 ∧ x2 - κ 0 11 ≤ -1) (x3 : Int) (hx3 : 0 ≤ x3 ∧ x3 ≤ 15 ∧ x3 - κ 0 12 ≤ -1) : zM G mX12_wayOf yX12_wayOf [.inr (.inr 0), .inl x1, .inl x2, .inl x3] h (q_X12_wayOf κ h x1 x2 x3) := by
  have f_0_11 := KRw hK
  have f_0_12 := KRh hK
  refine zM_of [some (.inr (.inr 0)), some (.inl x1), some (.inl x2), some (.inl x3), none, none, none] 3 rfl rfl (Nat.le_of_ble_eq_true rfl) rfl ?_
  refine zW_iconst (pc' := 1) dX12_wayOf_0.1.1.1.1 rfl ?_
  refine zW_aload_n (pc' := 2) dX12_wayOf_0.1.1.1.2 rfl rfl ?_
  refine zW_iload_n (pc' := 3) dX12_wayOf_0.1.1.2.1 rfl rfl ?_
  refine zW_iload_n (pc' := 4) dX12_wayOf_0.1.1.2.2 rfl rfl ?_
  refine zW_iload_n (pc' := 5) dX12_wayOf_0.1.2.1.1 rfl rfl ?_
  refine cvI3 (pc' := 8) kX12_own vX12_own lk_X12_246 ⟨Nat.le_of_ble_eq_true rfl, Nat.le_of_ble_eq_true rfl⟩ tb0 vq12 rfl rfl (s_X12_own hK hF _ ⟨by omega, by omega⟩ _ ⟨by omega, by omega, by omega⟩ _ ⟨by omega, by omega, by omega⟩) dX12_wayOf_0.1.2.1.2 (Nat.le_of_ble_eq_true rfl) rfl ?_
  rintro r5 z5 ⟨hz5, p5⟩; subst z5
  refine zW_imul (pc' := 9) dX12_wayOf_0.1.2.2.1 rfl ?_
  refine zW_istore (ls' := [_, _, _, _, _, _, _]) (pc' := 11) dX12_wayOf_0.1.2.2.2 (by decide) rfl rfl rfl ?_
  refine zW_aload_n (pc' := 12) dX12_wayOf_0.2.1.1.1 rfl rfl ?_
  refine zW_iload_n (pc' := 13) dX12_wayOf_0.2.1.1.2 rfl rfl ?_
  refine zW_iload_n (pc' := 14) dX12_wayOf_0.2.1.2.1 rfl rfl ?_
  refine zW_iconst (pc' := 15) dX12_wayOf_0.2.1.2.2 rfl ?_
  refine zW_isub (pc' := 16) dX12_wayOf_0.2.2.1.1 rfl ?_
  refine zW_iload_n (pc' := 17) dX12_wayOf_0.2.2.1.2 rfl rfl ?_
  refine cvI3 (pc' := 20) kX12_own vX12_own lk_X12_246 ⟨Nat.le_of_ble_eq_true rfl, Nat.le_of_ble_eq_true rfl⟩ tb0 vq12 rfl rfl (s_X12_own hK hF _ ⟨by omega, by omega⟩ _ ⟨by omega, by omega, by omega⟩ _ ⟨by omega, by omega, by omega⟩) dX12_wayOf_0.2.2.2.1 (Nat.le_of_ble_eq_true rfl) rfl ?_
  rintro r17 z17 ⟨hz17, p17⟩; subst z17
  refine zW_aload_n (pc' := 21) dX12_wayOf_0.2.2.2.2 rfl rfl ?_
  refine zW_iload_n (pc' := 22) dX12_wayOf_1.1.1.1.1 rfl rfl ?_
  refine zW_iload_n (pc' := 23) dX12_wayOf_1.1.1.1.2 rfl rfl ?_
  refine zW_iconst (pc' := 24) dX12_wayOf_1.1.1.2.1 rfl ?_
  refine zW_iadd (pc' := 25) dX12_wayOf_1.1.1.2.2 rfl ?_
  refine zW_iload_n (pc' := 26) dX12_wayOf_1.1.2.1.1 rfl rfl ?_
  refine cvI3 (pc' := 29) kX12_own vX12_own lk_X12_246 ⟨Nat.le_of_ble_eq_true rfl, Nat.le_of_ble_eq_true rfl⟩ tb0 vq12 rfl rfl (s_X12_own hK hF _ ⟨by omega, by omega⟩ _ ⟨by omega, by omega, by omega⟩ _ ⟨by omega, by omega, by omega⟩) dX12_wayOf_1.1.2.1.2 (Nat.le_of_ble_eq_true rfl) rfl ?_
  rintro r26 z26 ⟨hz26, p26⟩; subst z26
  refine zW_isub (pc' := 30) dX12_wayOf_1.1.2.2.1 rfl ?_
  refine csI1 (pc' := 33) kX12_size vX12_size lk_X12_257 ⟨Nat.le_of_ble_eq_true rfl, Nat.le_of_ble_eq_true rfl⟩ rfl (s_X12_size hF _) dX12_wayOf_1.1.2.2.2 (Nat.le_of_ble_eq_true rfl) rfl ?_
  rintro r30 z30 ⟨hz30, p30⟩; subst z30
  refine zW_iload (pc' := 35) dX12_wayOf_1.2.1.1.1 rfl rfl ?_
  refine zW_aload_n (pc' := 36) dX12_wayOf_1.2.1.1.2 rfl rfl ?_
  refine zW_iload_n (pc' := 37) dX12_wayOf_1.2.1.2.1 rfl rfl ?_
  refine zW_iload_n (pc' := 38) dX12_wayOf_1.2.1.2.2 rfl rfl ?_
  refine zW_iconst (pc' := 39) dX12_wayOf_1.2.2.1.1 rfl ?_
  refine zW_isub (pc' := 40) dX12_wayOf_1.2.2.1.2 rfl ?_
  refine zW_iload_n (pc' := 41) dX12_wayOf_1.2.2.2.1 rfl rfl ?_
  refine cvI3 (pc' := 44) kX12_own vX12_own lk_X12_246 ⟨Nat.le_of_ble_eq_true rfl, Nat.le_of_ble_eq_true rfl⟩ tb0 vq12 rfl rfl (s_X12_own hK hF _ ⟨by omega, by omega⟩ _ ⟨by omega, by omega, by omega⟩ _ ⟨by omega, by omega, by omega⟩) dX12_wayOf_1.2.2.2.2 (Nat.le_of_ble_eq_true rfl) rfl ?_
  rintro r41 z41 ⟨hz41, p41⟩; subst z41
  refine zW_isub (pc' := 45) dX12_wayOf_2.1.1.1.1 rfl ?_
  refine zW_aload_n (pc' := 46) dX12_wayOf_2.1.1.1.2 rfl rfl ?_
  refine zW_iload_n (pc' := 47) dX12_wayOf_2.1.1.2.1 rfl rfl ?_
  refine zW_iload_n (pc' := 48) dX12_wayOf_2.1.1.2.2 rfl rfl ?_
  refine zW_iconst (pc' := 49) dX12_wayOf_2.1.2.1.1 rfl ?_
  refine zW_iadd (pc' := 50) dX12_wayOf_2.1.2.1.2 rfl ?_
  refine zW_iload_n (pc' := 51) dX12_wayOf_2.1.2.2.1 rfl rfl ?_
  refine cvI3 (pc' := 54) kX12_own vX12_own lk_X12_246 ⟨Nat.le_of_ble_eq_true rfl, Nat.le_of_ble_eq_true rfl⟩ tb0 vq12 rfl rfl (s_X12_own hK hF _ ⟨by omega, by omega⟩ _ ⟨by omega, by omega, by omega⟩ _ ⟨by omega, by omega, by omega⟩) dX12_wayOf_2.1.2.2.2 (Nat.le_of_ble_eq_true rfl) rfl ?_
  rintro r51 z51 ⟨hz51, p51⟩; subst z51
  refine zW_isub (pc' := 55) dX12_wayOf_2.2.1.1.1 rfl ?_
  refine csI1 (pc' := 58) kX12_size vX12_size lk_X12_257 ⟨Nat.le_of_ble_eq_true rfl, Nat.le_of_ble_eq_true rfl⟩ rfl (s_X12_size hF _) dX12_wayOf_2.2.1.1.2 (Nat.le_of_ble_eq_true rfl) rfl ?_
  rintro r55 z55 ⟨hz55, p55⟩; subst z55
  refine zW_iadd (pc' := 59) dX12_wayOf_2.2.1.2.1 rfl ?_
  refine zW_istore (ls' := [_, _, _, _, _, _, _]) (pc' := 61) dX12_wayOf_2.2.1.2.2 (by decide) rfl rfl rfl ?_
  refine zW_aload_n (pc' := 62) dX12_wayOf_2.2.2.1.1 rfl rfl ?_
  refine zW_iload_n (pc' := 63) dX12_wayOf_2.2.2.1.2 rfl rfl ?_
  refine zW_iload_n (pc' := 64) dX12_wayOf_2.2.2.2.1 rfl rfl ?_
  refine zW_iload_n (pc' := 65) dX12_wayOf_2.2.2.2.2 rfl rfl ?_
  refine zW_iconst (pc' := 66) dX12_wayOf_3.1.1.1.1 rfl ?_
  refine zW_isub (pc' := 67) dX12_wayOf_3.1.1.1.2 rfl ?_
  refine cvI3 (pc' := 70) kX12_own vX12_own lk_X12_246 ⟨Nat.le_of_ble_eq_true rfl, Nat.le_of_ble_eq_true rfl⟩ tb0 vq12 rfl rfl (s_X12_own hK hF _ ⟨by omega, by omega⟩ _ ⟨by omega, by omega, by omega⟩ _ ⟨by omega, by omega, by omega⟩) dX12_wayOf_3.1.1.2.1 (Nat.le_of_ble_eq_true rfl) rfl ?_
  rintro r67 z67 ⟨hz67, p67⟩; subst z67
  refine zW_aload_n (pc' := 71) dX12_wayOf_3.1.1.2.2 rfl rfl ?_
  refine zW_iload_n (pc' := 72) dX12_wayOf_3.1.2.1.1 rfl rfl ?_
  refine zW_iload_n (pc' := 73) dX12_wayOf_3.1.2.1.2 rfl rfl ?_
  refine zW_iload_n (pc' := 74) dX12_wayOf_3.1.2.2.1 rfl rfl ?_
  refine zW_iconst (pc' := 75) dX12_wayOf_3.1.2.2.2 rfl ?_
  refine zW_iadd (pc' := 76) dX12_wayOf_3.2.1.1.1 rfl ?_
  refine cvI3 (pc' := 79) kX12_own vX12_own lk_X12_246 ⟨Nat.le_of_ble_eq_true rfl, Nat.le_of_ble_eq_true rfl⟩ tb0 vq12 rfl rfl (s_X12_own hK hF _ ⟨by omega, by omega⟩ _ ⟨by omega, by omega, by omega⟩ _ ⟨by omega, by omega, by omega⟩) dX12_wayOf_3.2.1.1.2 (Nat.le_of_ble_eq_true rfl) rfl ?_
  rintro r76 z76 ⟨hz76, p76⟩; subst z76
  refine zW_isub (pc' := 80) dX12_wayOf_3.2.1.2.1 rfl ?_
  refine csI1 (pc' := 83) kX12_size vX12_size lk_X12_257 ⟨Nat.le_of_ble_eq_true rfl, Nat.le_of_ble_eq_true rfl⟩ rfl (s_X12_size hF _) dX12_wayOf_3.2.1.2.2 (Nat.le_of_ble_eq_true rfl) rfl ?_
  rintro r80 z80 ⟨hz80, p80⟩; subst z80
  refine zW_iload (pc' := 85) dX12_wayOf_3.2.2.1.1 rfl rfl ?_
  refine zW_aload_n (pc' := 86) dX12_wayOf_3.2.2.1.2 rfl rfl ?_
  refine zW_iload_n (pc' := 87) dX12_wayOf_3.2.2.2.1 rfl rfl ?_
  refine zW_iload_n (pc' := 88) dX12_wayOf_3.2.2.2.2 rfl rfl ?_
  refine zW_iload_n (pc' := 89) dX12_wayOf_4.1.1.1.1 rfl rfl ?_
  refine zW_iconst (pc' := 90) dX12_wayOf_4.1.1.1.2 rfl ?_
  refine zW_isub (pc' := 91) dX12_wayOf_4.1.1.2.1 rfl ?_
  refine cvI3 (pc' := 94) kX12_own vX12_own lk_X12_246 ⟨Nat.le_of_ble_eq_true rfl, Nat.le_of_ble_eq_true rfl⟩ tb0 vq12 rfl rfl (s_X12_own hK hF _ ⟨by omega, by omega⟩ _ ⟨by omega, by omega, by omega⟩ _ ⟨by omega, by omega, by omega⟩) dX12_wayOf_4.1.1.2.2 (Nat.le_of_ble_eq_true rfl) rfl ?_
  rintro r91 z91 ⟨hz91, p91⟩; subst z91
  refine zW_isub (pc' := 95) dX12_wayOf_4.1.2.1.1 rfl ?_
  refine zW_aload_n (pc' := 96) dX12_wayOf_4.1.2.1.2 rfl rfl ?_
  refine zW_iload_n (pc' := 97) dX12_wayOf_4.1.2.2.1 rfl rfl ?_
  refine zW_iload_n (pc' := 98) dX12_wayOf_4.1.2.2.2 rfl rfl ?_
  refine zW_iload_n (pc' := 99) dX12_wayOf_4.2.1.1.1 rfl rfl ?_
  refine zW_iconst (pc' := 100) dX12_wayOf_4.2.1.1.2 rfl ?_
  refine zW_iadd (pc' := 101) dX12_wayOf_4.2.1.2.1 rfl ?_
  refine cvI3 (pc' := 104) kX12_own vX12_own lk_X12_246 ⟨Nat.le_of_ble_eq_true rfl, Nat.le_of_ble_eq_true rfl⟩ tb0 vq12 rfl rfl (s_X12_own hK hF _ ⟨by omega, by omega⟩ _ ⟨by omega, by omega, by omega⟩ _ ⟨by omega, by omega, by omega⟩) dX12_wayOf_4.2.1.2.2 (Nat.le_of_ble_eq_true rfl) rfl ?_
  rintro r101 z101 ⟨hz101, p101⟩; subst z101
  refine zW_isub (pc' := 105) dX12_wayOf_4.2.2.1.1 rfl ?_
  refine csI1 (pc' := 108) kX12_size vX12_size lk_X12_257 ⟨Nat.le_of_ble_eq_true rfl, Nat.le_of_ble_eq_true rfl⟩ rfl (s_X12_size hF _) dX12_wayOf_4.2.2.1.2 (Nat.le_of_ble_eq_true rfl) rfl ?_
  rintro r105 z105 ⟨hz105, p105⟩; subst z105
  refine zW_iadd (pc' := 109) dX12_wayOf_4.2.2.2.1 rfl ?_
  refine zW_istore (ls' := [_, _, _, _, _, _, _]) (pc' := 111) dX12_wayOf_4.2.2.2.2 (by decide) rfl rfl rfl ?_
  refine zW_iload (pc' := 113) dX12_wayOf_5.1.1.1.1 rfl rfl ?_
  refine zW_iload (pc' := 115) dX12_wayOf_5.1.1.1.2 rfl rfl ?_
  refine zV_cmQ_ge (tgt := 122) (pc' := 118) dX12_wayOf_5.1.1.2 rfl rfl ?_ ?_
  · refine zW_iload (pc' := 124) dX12_wayOf_5.1.2.2 rfl rfl ?_
    refine zW_iload (pc' := 126) dX12_wayOf_5.2.1.1.1 rfl rfl ?_
    refine zV_cmQ_ge (tgt := 133) (pc' := 129) dX12_wayOf_5.2.1.1.2 rfl rfl ?_ ?_
    · refine zW_iconst (pc' := 134) dX12_wayOf_5.2.2.1.2 rfl ?_
      exact zV_iret rfl dX12_wayOf_5.2.2.2 ⟨rfl, by omega⟩
    · refine zW_iconst (pc' := 130) dX12_wayOf_5.2.1.2 rfl ?_
      refine zV_goto 134 dX12_wayOf_5.2.2.1.1 rfl ?_
      exact zV_iret rfl dX12_wayOf_5.2.2.2 ⟨rfl, by omega⟩
  · refine zW_iconst (pc' := 119) dX12_wayOf_5.1.2.1.1 rfl ?_
    refine zV_goto 134 dX12_wayOf_5.1.2.1.2 rfl ?_
    exact zV_iret rfl dX12_wayOf_5.2.2.2 ⟨rfl, by omega⟩

abbrev q_X12_greenOf (κ h : Hp) (x1 : Int) (x2 : Int) (x3 : Int) (x4 : Int) : Int → Hp → Prop := fun r h' => h' = h ∧ (True)
set_option maxHeartbeats 4000000 in
set_option maxRecDepth 20000 in
theorem s_X12_greenOf {G : Ga} {b : Bd} {κ h : Hp} (hK : KR κ) (hF : Fr b κ h) (x1 : Int) (hx1 : 0 ≤ x1 ∧ x1 ≤ 14) (x2 : Int) (hx2 : 0 ≤ x2 ∧ x2 ≤ 15 ∧ x2 - κ 0 11 ≤ -1) (x3 : Int) (hx3 : 0 ≤ x3 ∧ x3 ≤ 15 ∧ x3 - κ 0 12 ≤ -1) (x4 : Int) : zM G mX12_greenOf yX12_greenOf [.inr (.inr 0), .inl x1, .inl x2, .inl x3, .inl x4] h (q_X12_greenOf κ h x1 x2 x3 x4) := by
  have f_0_11 := KRw hK
  have f_0_12 := KRh hK
  have k76 : ∀ (v5 v6 u0 : Int) , (0 ≤ u0 ∧ u0 ≤ 2) → zV G mX12_greenOf (q_X12_greenOf κ h x1 x2 x3 x4) 76 [some (.inr (.inr 0)), some (.inl x1), some (.inl x2), some (.inl x3), some (.inl x4), some (.inl v5), some (.inl v6), none] [.inl u0] h := by
    intro v5 v6 u0 g0
    refine zW_istore (ls' := [_, _, _, _, _, _, _, _]) (pc' := 78) dX12_greenOf_3.1.2.1.2 (by decide) rfl rfl rfl ?_
    refine zW_iload (pc' := 80) dX12_greenOf_3.1.2.2.1 rfl rfl ?_
    refine zV_if_ne (tgt := 90) (pc' := 83) dX12_greenOf_3.1.2.2.2 rfl rfl ⟨by omega, by omega⟩ (fun c80 => ?_) (fun c80 => ?_)
    · refine zW_iload (pc' := 92) dX12_greenOf_3.2.2.1.1 rfl rfl ?_
      refine zW_iconst (pc' := 93) dX12_greenOf_3.2.2.1.2 rfl ?_
      refine zV_cm_ne (tgt := 103) (pc' := 96) dX12_greenOf_3.2.2.2.1 rfl rfl ⟨by omega, by omega⟩ ⟨by omega, by omega⟩ (fun c93 => ?_) (fun c93 => ?_)
      · refine zW_iload (pc' := 105) dX12_greenOf_4.1.2.1 rfl rfl ?_
        refine zW_iload (pc' := 107) dX12_greenOf_4.1.2.2 rfl rfl ?_
        refine zW_iadd (pc' := 108) dX12_greenOf_4.2.1.1 rfl ?_
        refine zW_iconst (pc' := 109) dX12_greenOf_4.2.1.2 rfl ?_
        refine zW_idivQ (pc' := 110) ⟨by omega, by omega⟩ (by omega) dX12_greenOf_4.2.2.1 rfl (fun v109 e109 => ?_)
        unfold rng at e109
        exact zV_iret rfl dX12_greenOf_4.2.2.2 ⟨rfl, trivial⟩
      · refine zW_iload (pc' := 98) dX12_greenOf_3.2.2.2.2 rfl rfl ?_
        refine zW_iconst (pc' := 99) dX12_greenOf_4.1.1.1.1 rfl ?_
        refine zW_idivQ (pc' := 100) ⟨by omega, by omega⟩ (by omega) dX12_greenOf_4.1.1.1.2 rfl (fun v99 e99 => ?_)
        unfold rng at e99
        refine zV_goto 110 dX12_greenOf_4.1.1.2 rfl ?_
        exact zV_iret rfl dX12_greenOf_4.2.2.2 ⟨rfl, trivial⟩
    · refine zW_iload (pc' := 85) dX12_greenOf_3.2.1.1.1 rfl rfl ?_
      refine zW_iconst (pc' := 86) dX12_greenOf_3.2.1.1.2 rfl ?_
      refine zW_idivQ (pc' := 87) ⟨by omega, by omega⟩ (by omega) dX12_greenOf_3.2.1.2.1 rfl (fun v86 e86 => ?_)
      unfold rng at e86
      refine zV_goto 110 dX12_greenOf_3.2.1.2.2 rfl ?_
      exact zV_iret rfl dX12_greenOf_4.2.2.2 ⟨rfl, trivial⟩
  refine zM_of [some (.inr (.inr 0)), some (.inl x1), some (.inl x2), some (.inl x3), some (.inl x4), none, none, none] 3 rfl rfl (Nat.le_of_ble_eq_true rfl) rfl ?_
  refine zW_aload_n (pc' := 1) dX12_greenOf_0.1.1.1.1 rfl rfl ?_
  refine zW_iload_n (pc' := 2) dX12_greenOf_0.1.1.1.2 rfl rfl ?_
  refine zW_iload_n (pc' := 3) dX12_greenOf_0.1.1.2.1 rfl rfl ?_
  refine cvI2 (pc' := 6) kX12_colourAt vX12_colourAt lk_X12_225 ⟨Nat.le_of_ble_eq_true rfl, Nat.le_of_ble_eq_true rfl⟩ tb0 vq12 rfl rfl (s_X12_colourAt hK hF _ ⟨by omega, by omega⟩ _ ⟨by omega, by omega⟩) dX12_greenOf_0.1.1.2.2 (Nat.le_of_ble_eq_true rfl) rfl ?_
  rintro r3 z3 ⟨hz3, p3⟩; subst z3
  refine zW_iconst (pc' := 7) dX12_greenOf_0.1.2.1.1 rfl ?_
  refine zV_cm_ne (tgt := 18) (pc' := 10) dX12_greenOf_0.1.2.1.2 rfl rfl ⟨by omega, by omega⟩ ⟨by omega, by omega⟩ (fun c7 => ?_) (fun c7 => ?_)
  · refine zW_aload_n (pc' := 19) dX12_greenOf_0.2.2.1.1 rfl rfl ?_
    refine zW_iload_n (pc' := 20) dX12_greenOf_0.2.2.1.2 rfl rfl ?_
    refine zW_iload_n (pc' := 21) dX12_greenOf_0.2.2.2.1 rfl rfl ?_
    refine zW_iconst (pc' := 22) dX12_greenOf_0.2.2.2.2 rfl ?_
    refine zW_isub (pc' := 23) dX12_greenOf_1.1.1.1.1 rfl ?_
    refine zW_iload_n (pc' := 24) dX12_greenOf_1.1.1.1.2 rfl rfl ?_
    refine cvI3 (pc' := 27) kX12_own vX12_own lk_X12_246 ⟨Nat.le_of_ble_eq_true rfl, Nat.le_of_ble_eq_true rfl⟩ tb0 vq12 rfl rfl (s_X12_own hK hF _ ⟨by omega, by omega⟩ _ ⟨by omega, by omega, by omega⟩ _ ⟨by omega, by omega, by omega⟩) dX12_greenOf_1.1.1.2.1 (Nat.le_of_ble_eq_true rfl) rfl ?_
    rintro r24 z24 ⟨hz24, p24⟩; subst z24
    refine zW_aload_n (pc' := 28) dX12_greenOf_1.1.1.2.2 rfl rfl ?_
    refine zW_iload_n (pc' := 29) dX12_greenOf_1.1.2.1.1 rfl rfl ?_
    refine zW_iload_n (pc' := 30) dX12_greenOf_1.1.2.1.2 rfl rfl ?_
    refine zW_iconst (pc' := 31) dX12_greenOf_1.1.2.2.1 rfl ?_
    refine zW_iadd (pc' := 32) dX12_greenOf_1.1.2.2.2 rfl ?_
    refine zW_iload_n (pc' := 33) dX12_greenOf_1.2.1.1.1 rfl rfl ?_
    refine cvI3 (pc' := 36) kX12_own vX12_own lk_X12_246 ⟨Nat.le_of_ble_eq_true rfl, Nat.le_of_ble_eq_true rfl⟩ tb0 vq12 rfl rfl (s_X12_own hK hF _ ⟨by omega, by omega⟩ _ ⟨by omega, by omega, by omega⟩ _ ⟨by omega, by omega, by omega⟩) dX12_greenOf_1.2.1.1.2 (Nat.le_of_ble_eq_true rfl) rfl ?_
    rintro r33 z33 ⟨hz33, p33⟩; subst z33
    refine zW_iadd (pc' := 37) dX12_greenOf_1.2.1.2.1 rfl ?_
    refine zW_istore (ls' := [_, _, _, _, _, _, _, _]) (pc' := 39) dX12_greenOf_1.2.1.2.2 (by decide) rfl rfl rfl ?_
    refine zW_aload_n (pc' := 40) dX12_greenOf_1.2.2.1.1 rfl rfl ?_
    refine zW_iload_n (pc' := 41) dX12_greenOf_1.2.2.1.2 rfl rfl ?_
    refine zW_iload_n (pc' := 42) dX12_greenOf_1.2.2.2.1 rfl rfl ?_
    refine zW_iload_n (pc' := 43) dX12_greenOf_1.2.2.2.2 rfl rfl ?_
    refine zW_iconst (pc' := 44) dX12_greenOf_2.1.1.1.1 rfl ?_
    refine zW_isub (pc' := 45) dX12_greenOf_2.1.1.1.2 rfl ?_
    refine cvI3 (pc' := 48) kX12_own vX12_own lk_X12_246 ⟨Nat.le_of_ble_eq_true rfl, Nat.le_of_ble_eq_true rfl⟩ tb0 vq12 rfl rfl (s_X12_own hK hF _ ⟨by omega, by omega⟩ _ ⟨by omega, by omega, by omega⟩ _ ⟨by omega, by omega, by omega⟩) dX12_greenOf_2.1.1.2.1 (Nat.le_of_ble_eq_true rfl) rfl ?_
    rintro r45 z45 ⟨hz45, p45⟩; subst z45
    refine zW_aload_n (pc' := 49) dX12_greenOf_2.1.1.2.2 rfl rfl ?_
    refine zW_iload_n (pc' := 50) dX12_greenOf_2.1.2.1.1 rfl rfl ?_
    refine zW_iload_n (pc' := 51) dX12_greenOf_2.1.2.1.2 rfl rfl ?_
    refine zW_iload_n (pc' := 52) dX12_greenOf_2.1.2.2.1 rfl rfl ?_
    refine zW_iconst (pc' := 53) dX12_greenOf_2.1.2.2.2 rfl ?_
    refine zW_iadd (pc' := 54) dX12_greenOf_2.2.1.1.1 rfl ?_
    refine cvI3 (pc' := 57) kX12_own vX12_own lk_X12_246 ⟨Nat.le_of_ble_eq_true rfl, Nat.le_of_ble_eq_true rfl⟩ tb0 vq12 rfl rfl (s_X12_own hK hF _ ⟨by omega, by omega⟩ _ ⟨by omega, by omega, by omega⟩ _ ⟨by omega, by omega, by omega⟩) dX12_greenOf_2.2.1.1.2 (Nat.le_of_ble_eq_true rfl) rfl ?_
    rintro r54 z54 ⟨hz54, p54⟩; subst z54
    refine zW_iadd (pc' := 58) dX12_greenOf_2.2.1.2.1 rfl ?_
    refine zW_istore (ls' := [_, _, _, _, _, _, _, _]) (pc' := 60) dX12_greenOf_2.2.1.2.2 (by decide) rfl rfl rfl ?_
    refine zW_iload (pc' := 62) dX12_greenOf_2.2.2.1.1 rfl rfl ?_
    refine zV_ifQ_ne (tgt := 69) (pc' := 65) dX12_greenOf_2.2.2.1.2 rfl rfl ?_ ?_
    · refine zW_aload_n (pc' := 70) dX12_greenOf_3.1.1.1.1 rfl rfl ?_
      refine zW_iload_n (pc' := 71) dX12_greenOf_3.1.1.1.2 rfl rfl ?_
      refine zW_iload_n (pc' := 72) dX12_greenOf_3.1.1.2.1 rfl rfl ?_
      refine zW_iload_n (pc' := 73) dX12_greenOf_3.1.1.2.2 rfl rfl ?_
      refine cvI3 (pc' := 76) kX12_wayOf vX12_wayOf lk_X12_274 ⟨Nat.le_of_ble_eq_true rfl, Nat.le_of_ble_eq_true rfl⟩ tb0 vq12 rfl rfl (s_X12_wayOf hK hF _ ⟨by omega, by omega⟩ _ ⟨by omega, by omega, by omega⟩ _ ⟨by omega, by omega, by omega⟩) dX12_greenOf_3.1.2.1.1 (Nat.le_of_ble_eq_true rfl) rfl ?_
      rintro r73 z73 ⟨hz73, p73⟩; subst z73
      exact k76 _ _ _ (by omega)
    · refine zW_iconst (pc' := 66) dX12_greenOf_2.2.2.2.1 rfl ?_
      refine zV_goto 76 dX12_greenOf_2.2.2.2.2 rfl ?_
      exact k76 _ _ _ (by omega)
  · refine zW_aload_n (pc' := 11) dX12_greenOf_0.1.2.2.1 rfl rfl ?_
    refine zW_iload_n (pc' := 12) dX12_greenOf_0.1.2.2.2 rfl rfl ?_
    refine zW_iload_n (pc' := 13) dX12_greenOf_0.2.1.1.1 rfl rfl ?_
    refine zW_iload_n (pc' := 14) dX12_greenOf_0.2.1.1.2 rfl rfl ?_
    refine cvI3 (pc' := 17) kX12_own vX12_own lk_X12_246 ⟨Nat.le_of_ble_eq_true rfl, Nat.le_of_ble_eq_true rfl⟩ tb0 vq12 rfl rfl (s_X12_own hK hF _ ⟨by omega, by omega⟩ _ ⟨by omega, by omega, by omega⟩ _ ⟨by omega, by omega, by omega⟩) dX12_greenOf_0.2.1.2.1 (Nat.le_of_ble_eq_true rfl) rfl ?_
    rintro r14 z14 ⟨hz14, p14⟩; subst z14
    exact zV_iret rfl dX12_greenOf_0.2.1.2.2 ⟨rfl, trivial⟩

abbrev q_X12_over (κ h : Hp) (x1 : Int) (x2 : Int) (x3 : Int) (x4 : Int) : Int → Hp → Prop := fun r h' => h' = h ∧ (True)
set_option maxHeartbeats 4000000 in
set_option maxRecDepth 20000 in
theorem s_X12_over {G : Ga} {b : Bd} {κ h : Hp} (hK : KR κ) (hF : Fr b κ h) (x1 : Int) (hx1 : 0 ≤ x1 ∧ x1 ≤ 14) (x2 : Int) (hx2 : 0 ≤ x2 ∧ x2 ≤ 14) (x3 : Int) (hx3 : -2 ≤ x3 ∧ x3 ≤ 17 ∧ x3 - κ 0 11 ≤ 1) (x4 : Int) (hx4 : -2 ≤ x4 ∧ x4 ≤ 17 ∧ x4 - κ 0 12 ≤ 1) : zM G mX12_over yX12_over [.inr (.inr 0), .inl x1, .inl x2, .inl x3, .inl x4] h (q_X12_over κ h x1 x2 x3 x4) := by
  have f_0_11 := KRw hK
  have f_0_12 := KRh hK
  refine zM_of [some (.inr (.inr 0)), some (.inl x1), some (.inl x2), some (.inl x3), some (.inl x4)] 0 rfl rfl (Nat.le_of_ble_eq_true rfl) rfl ?_
  refine zW_aload_n (pc' := 1) dX12_over_0.1.1.1.1 rfl rfl ?_
  refine zW_iload_n (pc' := 2) dX12_over_0.1.1.1.2 rfl rfl ?_
  refine zW_iload_n (pc' := 3) dX12_over_0.1.1.2.1 rfl rfl ?_
  refine zW_iload (pc' := 5) dX12_over_0.1.1.2.2 rfl rfl ?_
  refine cvI3 (pc' := 8) kX12_own vX12_own lk_X12_246 ⟨Nat.le_of_ble_eq_true rfl, Nat.le_of_ble_eq_true rfl⟩ tb0 vq12 rfl rfl (s_X12_own hK hF _ ⟨by omega, by omega⟩ _ ⟨by omega, by omega, by omega⟩ _ ⟨by omega, by omega, by omega⟩) dX12_over_0.1.2.1.1 (Nat.le_of_ble_eq_true rfl) rfl ?_
  rintro r5 z5 ⟨hz5, p5⟩; subst z5
  refine zW_aload_n (pc' := 9) dX12_over_0.1.2.1.2 rfl rfl ?_
  refine zW_iload_n (pc' := 10) dX12_over_0.1.2.2 rfl rfl ?_
  refine zW_iconst (pc' := 11) dX12_over_0.2.1.1.1 rfl ?_
  refine zW_iload_n (pc' := 12) dX12_over_0.2.1.1.2 rfl rfl ?_
  refine zW_iload (pc' := 14) dX12_over_0.2.1.2 rfl rfl ?_
  refine cvI4 (pc' := 17) kX12_at vX12_at lk_X12_277 ⟨Nat.le_of_ble_eq_true rfl, Nat.le_of_ble_eq_true rfl⟩ tb0 vq12 rfl rfl (s_X12_at hK hF _ ⟨by omega, by omega⟩ _ ⟨by omega, by omega⟩ _ ⟨by omega, by omega, by omega⟩ _ ⟨by omega, by omega, by omega⟩) dX12_over_0.2.2.1.1 (Nat.le_of_ble_eq_true rfl) rfl ?_
  rintro r14 z14 ⟨hz14, p14⟩; subst z14
  refine zW_isub (pc' := 18) dX12_over_0.2.2.1.2 rfl ?_
  exact zV_iret rfl dX12_over_0.2.2.2 ⟨rfl, trivial⟩

abbrev q_X12_otherOf (κ h : Hp) (x1 : Int) (x2 : Int) (x3 : Int) (x4 : Int) (x5 : Int) : Int → Hp → Prop := fun r h' => h' = h ∧ (True)
set_option maxHeartbeats 4000000 in
set_option maxRecDepth 20000 in
theorem s_X12_otherOf {G : Ga} {b : Bd} {κ h : Hp} (hK : KR κ) (hF : Fr b κ h) (x1 : Int) (hx1 : 0 ≤ x1 ∧ x1 ≤ 14) (x2 : Int) (hx2 : 0 ≤ x2 ∧ x2 ≤ 14) (x3 : Int) (hx3 : 0 ≤ x3 ∧ x3 ≤ 2) (x4 : Int) (hx4 : 0 ≤ x4 ∧ x4 ≤ 15 ∧ x4 - κ 0 11 ≤ -1) (x5 : Int) (hx5 : 0 ≤ x5 ∧ x5 ≤ 15 ∧ x5 - κ 0 12 ≤ -1) : zM G mX12_otherOf yX12_otherOf [.inr (.inr 0), .inl x1, .inl x2, .inl x3, .inl x4, .inl x5] h (q_X12_otherOf κ h x1 x2 x3 x4 x5) := by
  have f_0_11 := KRw hK
  have f_0_12 := KRh hK
  have k138 : ∀ (v6 v7 u0 : Int) , (1 ≤ v6 ∧ v6 ≤ 1) → (0 ≤ u0 ∧ u0 ≤ 1) → zV G mX12_otherOf (q_X12_otherOf κ h x1 x2 x3 x4 x5) 138 [some (.inr (.inr 0)), some (.inl x1), some (.inl x2), some (.inl x3), some (.inl x4), some (.inl x5), some (.inl v6), some (.inl v7), none, none] [.inl u0] h := by
    intro v6 v7 u0 g0 g1
    refine zW_istore (ls' := [_, _, _, _, _, _, _, _, _, _]) (pc' := 140) dX12_otherOf_5.1.2.2.2 (by decide) rfl rfl rfl ?_
    refine zW_iload (pc' := 142) dX12_otherOf_5.2.1.1.1 rfl rfl ?_
    refine zV_if_eq (tgt := 173) (pc' := 145) dX12_otherOf_5.2.1.1.2 rfl rfl ⟨by omega, by omega⟩ (fun c142 => ?_) (fun c142 => ?_)
    · refine zW_aload_n (pc' := 174) dX12_otherOf_6.2.2.1.1 rfl rfl ?_
      refine zW_iload_n (pc' := 175) dX12_otherOf_6.2.2.1.2 rfl rfl ?_
      refine zW_iload_n (pc' := 176) dX12_otherOf_6.2.2.2.1 rfl rfl ?_
      refine zW_iload (pc' := 178) dX12_otherOf_6.2.2.2.2 rfl rfl ?_
      refine zW_iload (pc' := 180) dX12_otherOf_7.1.1.1.1 rfl rfl ?_
      refine zW_iconst (pc' := 181) dX12_otherOf_7.1.1.1.2 rfl ?_
      refine zW_isub (pc' := 182) dX12_otherOf_7.1.1.2.1 rfl ?_
      refine cvI4 (pc' := 185) kX12_over vX12_over lk_X12_280 ⟨Nat.le_of_ble_eq_true rfl, Nat.le_of_ble_eq_true rfl⟩ tb0 vq12 rfl rfl (s_X12_over hK hF _ ⟨by omega, by omega⟩ _ ⟨by omega, by omega⟩ _ ⟨by omega, by omega, by omega⟩ _ ⟨by omega, by omega, by omega⟩) dX12_otherOf_7.1.1.2.2 (Nat.le_of_ble_eq_true rfl) rfl ?_
      rintro r182 z182 ⟨hz182, p182⟩; subst z182
      refine zW_aload_n (pc' := 186) dX12_otherOf_7.1.2.1.1 rfl rfl ?_
      refine zW_iload_n (pc' := 187) dX12_otherOf_7.1.2.1.2 rfl rfl ?_
      refine zW_iload_n (pc' := 188) dX12_otherOf_7.1.2.2.1 rfl rfl ?_
      refine zW_iload (pc' := 190) dX12_otherOf_7.1.2.2.2 rfl rfl ?_
      refine zW_iload (pc' := 192) dX12_otherOf_7.2.1.1.1 rfl rfl ?_
      refine zW_iconst (pc' := 193) dX12_otherOf_7.2.1.1.2 rfl ?_
      refine zW_iadd (pc' := 194) dX12_otherOf_7.2.1.2.1 rfl ?_
      refine cvI4 (pc' := 197) kX12_over vX12_over lk_X12_280 ⟨Nat.le_of_ble_eq_true rfl, Nat.le_of_ble_eq_true rfl⟩ tb0 vq12 rfl rfl (s_X12_over hK hF _ ⟨by omega, by omega⟩ _ ⟨by omega, by omega⟩ _ ⟨by omega, by omega, by omega⟩ _ ⟨by omega, by omega, by omega⟩) dX12_otherOf_7.2.1.2.2 (Nat.le_of_ble_eq_true rfl) rfl ?_
      rintro r194 z194 ⟨hz194, p194⟩; subst z194
      refine zW_iadd (pc' := 198) dX12_otherOf_7.2.2.1.1 rfl ?_
      refine zW_istore (ls' := [_, _, _, _, _, _, _, _, _, _]) (pc' := 200) dX12_otherOf_7.2.2.1.2 (by decide) rfl rfl rfl ?_
      refine zW_iload (pc' := 202) dX12_otherOf_7.2.2.2.1 rfl rfl ?_
      refine zW_iload (pc' := 204) dX12_otherOf_7.2.2.2.2 rfl rfl ?_
      refine zW_iconst (pc' := 205) dX12_otherOf_8.1.1.1 rfl ?_
      refine zW_idivQ (pc' := 206) ⟨by omega, by omega⟩ (by omega) dX12_otherOf_8.1.1.2 rfl (fun v205 e205 => ?_)
      unfold rng at e205
      refine zW_iadd (pc' := 207) dX12_otherOf_8.1.2 rfl ?_
      refine csI1 (pc' := 210) kX12_clipped vX12_clipped lk_X12_239 ⟨Nat.le_of_ble_eq_true rfl, Nat.le_of_ble_eq_true rfl⟩ rfl (s_X12_clipped hF _) dX12_otherOf_8.2.1 (Nat.le_of_ble_eq_true rfl) rfl ?_
      rintro r207 z207 ⟨hz207, p207⟩; subst z207
      exact zV_iret rfl dX12_otherOf_8.2.2 ⟨rfl, trivial⟩
    · refine zW_aload_n (pc' := 146) dX12_otherOf_5.2.1.2.1 rfl rfl ?_
      refine zW_iload_n (pc' := 147) dX12_otherOf_5.2.1.2.2 rfl rfl ?_
      refine zW_iload_n (pc' := 148) dX12_otherOf_5.2.2.1.1 rfl rfl ?_
      refine zW_iload (pc' := 150) dX12_otherOf_5.2.2.1.2 rfl rfl ?_
      refine zW_iconst (pc' := 151) dX12_otherOf_5.2.2.2.1 rfl ?_
      refine zW_isub (pc' := 152) dX12_otherOf_5.2.2.2.2 rfl ?_
      refine zW_iload (pc' := 154) dX12_otherOf_6.1.1.1.1 rfl rfl ?_
      refine cvI4 (pc' := 157) kX12_over vX12_over lk_X12_280 ⟨Nat.le_of_ble_eq_true rfl, Nat.le_of_ble_eq_true rfl⟩ tb0 vq12 rfl rfl (s_X12_over hK hF _ ⟨by omega, by omega⟩ _ ⟨by omega, by omega⟩ _ ⟨by omega, by omega, by omega⟩ _ ⟨by omega, by omega, by omega⟩) dX12_otherOf_6.1.1.1.2 (Nat.le_of_ble_eq_true rfl) rfl ?_
      rintro r154 z154 ⟨hz154, p154⟩; subst z154
      refine zW_aload_n (pc' := 158) dX12_otherOf_6.1.1.2.1 rfl rfl ?_
      refine zW_iload_n (pc' := 159) dX12_otherOf_6.1.1.2.2 rfl rfl ?_
      refine zW_iload_n (pc' := 160) dX12_otherOf_6.1.2.1.1 rfl rfl ?_
      refine zW_iload (pc' := 162) dX12_otherOf_6.1.2.1.2 rfl rfl ?_
      refine zW_iconst (pc' := 163) dX12_otherOf_6.1.2.2.1 rfl ?_
      refine zW_iadd (pc' := 164) dX12_otherOf_6.1.2.2.2 rfl ?_
      refine zW_iload (pc' := 166) dX12_otherOf_6.2.1.1.1 rfl rfl ?_
      refine cvI4 (pc' := 169) kX12_over vX12_over lk_X12_280 ⟨Nat.le_of_ble_eq_true rfl, Nat.le_of_ble_eq_true rfl⟩ tb0 vq12 rfl rfl (s_X12_over hK hF _ ⟨by omega, by omega⟩ _ ⟨by omega, by omega⟩ _ ⟨by omega, by omega, by omega⟩ _ ⟨by omega, by omega, by omega⟩) dX12_otherOf_6.2.1.1.2 (Nat.le_of_ble_eq_true rfl) rfl ?_
      rintro r166 z166 ⟨hz166, p166⟩; subst z166
      refine zW_iadd (pc' := 170) dX12_otherOf_6.2.1.2.1 rfl ?_
      refine zV_goto 198 dX12_otherOf_6.2.1.2.2 rfl ?_
      refine zW_istore (ls' := [_, _, _, _, _, _, _, _, _, _]) (pc' := 200) dX12_otherOf_7.2.2.1.2 (by decide) rfl rfl rfl ?_
      refine zW_iload (pc' := 202) dX12_otherOf_7.2.2.2.1 rfl rfl ?_
      refine zW_iload (pc' := 204) dX12_otherOf_7.2.2.2.2 rfl rfl ?_
      refine zW_iconst (pc' := 205) dX12_otherOf_8.1.1.1 rfl ?_
      refine zW_idivQ (pc' := 206) ⟨by omega, by omega⟩ (by omega) dX12_otherOf_8.1.1.2 rfl (fun v205 e205 => ?_)
      unfold rng at e205
      refine zW_iadd (pc' := 207) dX12_otherOf_8.1.2 rfl ?_
      refine csI1 (pc' := 210) kX12_clipped vX12_clipped lk_X12_239 ⟨Nat.le_of_ble_eq_true rfl, Nat.le_of_ble_eq_true rfl⟩ rfl (s_X12_clipped hF _) dX12_otherOf_8.2.1 (Nat.le_of_ble_eq_true rfl) rfl ?_
      rintro r207 z207 ⟨hz207, p207⟩; subst z207
      exact zV_iret rfl dX12_otherOf_8.2.2 ⟨rfl, trivial⟩
  refine zM_of [some (.inr (.inr 0)), some (.inl x1), some (.inl x2), some (.inl x3), some (.inl x4), some (.inl x5), none, none, none, none] 4 rfl rfl (Nat.le_of_ble_eq_true rfl) rfl ?_
  refine zW_aload_n (pc' := 1) dX12_otherOf_0.1.1.1.1 rfl rfl ?_
  refine zW_iload (pc' := 3) dX12_otherOf_0.1.1.1.2 rfl rfl ?_
  refine zW_iload (pc' := 5) dX12_otherOf_0.1.1.2.1 rfl rfl ?_
  refine cvI2 (pc' := 8) kX12_colourAt vX12_colourAt lk_X12_225 ⟨Nat.le_of_ble_eq_true rfl, Nat.le_of_ble_eq_true rfl⟩ tb0 vq12 rfl rfl (s_X12_colourAt hK hF _ ⟨by omega, by omega⟩ _ ⟨by omega, by omega⟩) dX12_otherOf_0.1.1.2.2 (Nat.le_of_ble_eq_true rfl) rfl ?_
  rintro r5 z5 ⟨hz5, p5⟩; subst z5
  refine zW_istore (ls' := [_, _, _, _, _, _, _, _, _, _]) (pc' := 10) dX12_otherOf_0.1.2.1.1 (by decide) rfl rfl rfl ?_
  refine zW_iload (pc' := 12) dX12_otherOf_0.1.2.1.2 rfl rfl ?_
  refine zW_iload_n (pc' := 13) dX12_otherOf_0.1.2.2.1 rfl rfl ?_
  refine zV_cm_ne (tgt := 26) (pc' := 16) dX12_otherOf_0.1.2.2.2 rfl rfl ⟨by omega, by omega⟩ ⟨by omega, by omega⟩ (fun c13 => ?_) (fun c13 => ?_)
  · refine zW_aload_n (pc' := 27) dX12_otherOf_0.2.2.2.1 rfl rfl ?_
    refine zW_iload_n (pc' := 28) dX12_otherOf_0.2.2.2.2 rfl rfl ?_
    refine zW_iconst (pc' := 29) dX12_otherOf_1.1.1.1.1 rfl ?_
    refine zW_iload (pc' := 31) dX12_otherOf_1.1.1.1.2 rfl rfl ?_
    refine zW_iload (pc' := 33) dX12_otherOf_1.1.1.2.1 rfl rfl ?_
    refine cvI4 (pc' := 36) kX12_at vX12_at lk_X12_277 ⟨Nat.le_of_ble_eq_true rfl, Nat.le_of_ble_eq_true rfl⟩ tb0 vq12 rfl rfl (s_X12_at hK hF _ ⟨by omega, by omega⟩ _ ⟨by omega, by omega⟩ _ ⟨by omega, by omega, by omega⟩ _ ⟨by omega, by omega, by omega⟩) dX12_otherOf_1.1.1.2.2 (Nat.le_of_ble_eq_true rfl) rfl ?_
    rintro r33 z33 ⟨hz33, p33⟩; subst z33
    refine zW_istore (ls' := [_, _, _, _, _, _, _, _, _, _]) (pc' := 38) dX12_otherOf_1.1.2.1.1 (by decide) rfl rfl rfl ?_
    refine zW_iload (pc' := 40) dX12_otherOf_1.1.2.1.2 rfl rfl ?_
    refine zW_iconst (pc' := 41) dX12_otherOf_1.1.2.2.1 rfl ?_
    refine zV_cm_eq (tgt := 112) (pc' := 44) dX12_otherOf_1.1.2.2.2 rfl rfl ⟨by omega, by omega⟩ ⟨by omega, by omega⟩ (fun c41 => ?_) (fun c41 => ?_)
    · refine zW_aload_n (pc' := 113) dX12_otherOf_4.2.1.1.2 rfl rfl ?_
      refine zW_iload (pc' := 115) dX12_otherOf_4.2.1.2.1 rfl rfl ?_
      refine zW_iconst (pc' := 116) dX12_otherOf_4.2.1.2.2 rfl ?_
      refine zW_iadd (pc' := 117) dX12_otherOf_4.2.2.1.1 rfl ?_
      refine zW_aload_n (pc' := 118) dX12_otherOf_4.2.2.1.2 rfl rfl ?_
      refine zG_key (pc' := 121) hF rfl fg_X12_99 tb0 rfl dX12_otherOf_4.2.2.2.1 rfl ?_
      refine csI2 (pc' := 124) kX12_mirrored vX12_mirrored lk_X12_236 ⟨Nat.le_of_ble_eq_true rfl, Nat.le_of_ble_eq_true rfl⟩ rfl (s_X12_mirrored hF _ ⟨by omega, by omega⟩ _ ⟨by omega, by omega⟩ (by omega)) dX12_otherOf_4.2.2.2.2 (Nat.le_of_ble_eq_true rfl) rfl ?_
      rintro r121 z121 ⟨hz121, p121⟩; subst z121
      refine zW_iload (pc' := 126) dX12_otherOf_5.1.1.1.1 rfl rfl ?_
      refine cvI2 (pc' := 129) kX12_colourAt vX12_colourAt lk_X12_225 ⟨Nat.le_of_ble_eq_true rfl, Nat.le_of_ble_eq_true rfl⟩ tb0 vq12 rfl rfl (s_X12_colourAt hK hF _ ⟨by omega, by omega⟩ _ ⟨by omega, by omega⟩) dX12_otherOf_5.1.1.1.2 (Nat.le_of_ble_eq_true rfl) rfl ?_
      rintro r126 z126 ⟨hz126, p126⟩; subst z126
      refine zW_iload_n (pc' := 130) dX12_otherOf_5.1.1.2.1 rfl rfl ?_
      refine zV_cm_ne (tgt := 137) (pc' := 133) dX12_otherOf_5.1.1.2.2 rfl rfl ⟨by omega, by omega⟩ ⟨by omega, by omega⟩ (fun c130 => ?_) (fun c130 => ?_)
      · refine zW_iconst (pc' := 138) dX12_otherOf_5.1.2.2.1 rfl ?_
        exact k138 _ _ _ (by omega) (by omega)
      · refine zW_iconst (pc' := 134) dX12_otherOf_5.1.2.1.1 rfl ?_
        refine zV_goto 138 dX12_otherOf_5.1.2.1.2 rfl ?_
        exact k138 _ _ _ (by omega) (by omega)
    · refine zW_iload (pc' := 46) dX12_otherOf_1.2.1.1.1 rfl rfl ?_
      refine zW_aload_n (pc' := 47) dX12_otherOf_1.2.1.1.2 rfl rfl ?_
      refine zW_iload_n (pc' := 48) dX12_otherOf_1.2.1.2.1 rfl rfl ?_
      refine zW_iload_n (pc' := 49) dX12_otherOf_1.2.1.2.2 rfl rfl ?_
      refine zW_iload (pc' := 51) dX12_otherOf_1.2.2.1.1 rfl rfl ?_
      refine zW_iconst (pc' := 52) dX12_otherOf_1.2.2.1.2 rfl ?_
      refine zW_isub (pc' := 53) dX12_otherOf_1.2.2.2.1 rfl ?_
      refine zW_iload (pc' := 55) dX12_otherOf_1.2.2.2.2 rfl rfl ?_
      refine zW_iconst (pc' := 56) dX12_otherOf_2.1.1.1.1 rfl ?_
      refine zW_isub (pc' := 57) dX12_otherOf_2.1.1.1.2 rfl ?_
      refine cvI4 (pc' := 60) kX12_over vX12_over lk_X12_280 ⟨Nat.le_of_ble_eq_true rfl, Nat.le_of_ble_eq_true rfl⟩ tb0 vq12 rfl rfl (s_X12_over hK hF _ ⟨by omega, by omega⟩ _ ⟨by omega, by omega⟩ _ ⟨by omega, by omega, by omega⟩ _ ⟨by omega, by omega, by omega⟩) dX12_otherOf_2.1.1.2.1 (Nat.le_of_ble_eq_true rfl) rfl ?_
      rintro r57 z57 ⟨hz57, p57⟩; subst z57
      refine zW_aload_n (pc' := 61) dX12_otherOf_2.1.1.2.2 rfl rfl ?_
      refine zW_iload_n (pc' := 62) dX12_otherOf_2.1.2.1.1 rfl rfl ?_
      refine zW_iload_n (pc' := 63) dX12_otherOf_2.1.2.1.2 rfl rfl ?_
      refine zW_iload (pc' := 65) dX12_otherOf_2.1.2.2.1 rfl rfl ?_
      refine zW_iconst (pc' := 66) dX12_otherOf_2.1.2.2.2 rfl ?_
      refine zW_iadd (pc' := 67) dX12_otherOf_2.2.1.1.1 rfl ?_
      refine zW_iload (pc' := 69) dX12_otherOf_2.2.1.1.2 rfl rfl ?_
      refine zW_iconst (pc' := 70) dX12_otherOf_2.2.1.2.1 rfl ?_
      refine zW_isub (pc' := 71) dX12_otherOf_2.2.1.2.2 rfl ?_
      refine cvI4 (pc' := 74) kX12_over vX12_over lk_X12_280 ⟨Nat.le_of_ble_eq_true rfl, Nat.le_of_ble_eq_true rfl⟩ tb0 vq12 rfl rfl (s_X12_over hK hF _ ⟨by omega, by omega⟩ _ ⟨by omega, by omega⟩ _ ⟨by omega, by omega, by omega⟩ _ ⟨by omega, by omega, by omega⟩) dX12_otherOf_2.2.2.1.1 (Nat.le_of_ble_eq_true rfl) rfl ?_
      rintro r71 z71 ⟨hz71, p71⟩; subst z71
      refine zW_iadd (pc' := 75) dX12_otherOf_2.2.2.1.2 rfl ?_
      refine zW_aload_n (pc' := 76) dX12_otherOf_2.2.2.2.1 rfl rfl ?_
      refine zW_iload_n (pc' := 77) dX12_otherOf_2.2.2.2.2 rfl rfl ?_
      refine zW_iload_n (pc' := 78) dX12_otherOf_3.1.1.1.1 rfl rfl ?_
      refine zW_iload (pc' := 80) dX12_otherOf_3.1.1.1.2 rfl rfl ?_
      refine zW_iconst (pc' := 81) dX12_otherOf_3.1.1.2.1 rfl ?_
      refine zW_isub (pc' := 82) dX12_otherOf_3.1.1.2.2 rfl ?_
      refine zW_iload (pc' := 84) dX12_otherOf_3.1.2.1.1 rfl rfl ?_
      refine zW_iconst (pc' := 85) dX12_otherOf_3.1.2.1.2 rfl ?_
      refine zW_iadd (pc' := 86) dX12_otherOf_3.1.2.2.1 rfl ?_
      refine cvI4 (pc' := 89) kX12_over vX12_over lk_X12_280 ⟨Nat.le_of_ble_eq_true rfl, Nat.le_of_ble_eq_true rfl⟩ tb0 vq12 rfl rfl (s_X12_over hK hF _ ⟨by omega, by omega⟩ _ ⟨by omega, by omega⟩ _ ⟨by omega, by omega, by omega⟩ _ ⟨by omega, by omega, by omega⟩) dX12_otherOf_3.1.2.2.2 (Nat.le_of_ble_eq_true rfl) rfl ?_
      rintro r86 z86 ⟨hz86, p86⟩; subst z86
      refine zW_iadd (pc' := 90) dX12_otherOf_3.2.1.1.1 rfl ?_
      refine zW_aload_n (pc' := 91) dX12_otherOf_3.2.1.1.2 rfl rfl ?_
      refine zW_iload_n (pc' := 92) dX12_otherOf_3.2.1.2.1 rfl rfl ?_
      refine zW_iload_n (pc' := 93) dX12_otherOf_3.2.1.2.2 rfl rfl ?_
      refine zW_iload (pc' := 95) dX12_otherOf_3.2.2.1.1 rfl rfl ?_
      refine zW_iconst (pc' := 96) dX12_otherOf_3.2.2.1.2 rfl ?_
      refine zW_iadd (pc' := 97) dX12_otherOf_3.2.2.2.1 rfl ?_
      refine zW_iload (pc' := 99) dX12_otherOf_3.2.2.2.2 rfl rfl ?_
      refine zW_iconst (pc' := 100) dX12_otherOf_4.1.1.1.1 rfl ?_
      refine zW_iadd (pc' := 101) dX12_otherOf_4.1.1.1.2 rfl ?_
      refine cvI4 (pc' := 104) kX12_over vX12_over lk_X12_280 ⟨Nat.le_of_ble_eq_true rfl, Nat.le_of_ble_eq_true rfl⟩ tb0 vq12 rfl rfl (s_X12_over hK hF _ ⟨by omega, by omega⟩ _ ⟨by omega, by omega⟩ _ ⟨by omega, by omega, by omega⟩ _ ⟨by omega, by omega, by omega⟩) dX12_otherOf_4.1.1.2.1 (Nat.le_of_ble_eq_true rfl) rfl ?_
      rintro r101 z101 ⟨hz101, p101⟩; subst z101
      refine zW_iadd (pc' := 105) dX12_otherOf_4.1.1.2.2 rfl ?_
      refine zW_iconst (pc' := 106) dX12_otherOf_4.1.2.1.1 rfl ?_
      refine zW_idivQ (pc' := 107) ⟨by omega, by omega⟩ (by omega) dX12_otherOf_4.1.2.1.2 rfl (fun v106 e106 => ?_)
      unfold rng at e106
      refine zW_iadd (pc' := 108) dX12_otherOf_4.1.2.2.1 rfl ?_
      refine csI1 (pc' := 111) kX12_clipped vX12_clipped lk_X12_239 ⟨Nat.le_of_ble_eq_true rfl, Nat.le_of_ble_eq_true rfl⟩ rfl (s_X12_clipped hF _) dX12_otherOf_4.1.2.2.2 (Nat.le_of_ble_eq_true rfl) rfl ?_
      rintro r108 z108 ⟨hz108, p108⟩; subst z108
      exact zV_iret rfl dX12_otherOf_4.2.1.1.1 ⟨rfl, trivial⟩
  · refine zW_aload_n (pc' := 17) dX12_otherOf_0.2.1.1.1 rfl rfl ?_
    refine zW_iload_n (pc' := 18) dX12_otherOf_0.2.1.1.2 rfl rfl ?_
    refine zW_iload (pc' := 20) dX12_otherOf_0.2.1.2.1 rfl rfl ?_
    refine zW_iload (pc' := 22) dX12_otherOf_0.2.1.2.2 rfl rfl ?_
    refine cvI3 (pc' := 25) kX12_own vX12_own lk_X12_246 ⟨Nat.le_of_ble_eq_true rfl, Nat.le_of_ble_eq_true rfl⟩ tb0 vq12 rfl rfl (s_X12_own hK hF _ ⟨by omega, by omega⟩ _ ⟨by omega, by omega, by omega⟩ _ ⟨by omega, by omega, by omega⟩) dX12_otherOf_0.2.2.1.1 (Nat.le_of_ble_eq_true rfl) rfl ?_
    rintro r22 z22 ⟨hz22, p22⟩; subst z22
    exact zV_iret rfl dX12_otherOf_0.2.2.1.2 ⟨rfl, trivial⟩

abbrev q_X12_fills (b : Bd) (κ : Hp) (x1 : Int) (x2 : Int) (x3 : Int) : Int → Hp → Prop := fun r h' => Fr b κ h' ∧ (True)
set_option maxHeartbeats 4000000 in
set_option maxRecDepth 20000 in
theorem s_X12_fills {G : Ga} {b : Bd} {κ h : Hp} (hK : KR κ) (hF : Fr b κ h) (x1 : Int) (x2 : Int) (hx2 : 0 ≤ x2 ∧ x2 ≤ 14) (x3 : Int) (hx3 : 0 ≤ x3 ∧ x3 ≤ 14) (hJ : Ok17 b x3) : zM G mX12_fills yX12_fills [.inr (.inr 0), .inl x1, .inl x2, .inl x3] h (q_X12_fills b κ x1 x2 x3) := by
  have f_0_11 := KRw hK
  have f_0_12 := KRh hK
  have main : ∀ N : Nat, (∀ (v4 : Int) (h : Hp), Fr b κ h → (0 ≤ v4 ∧ v4 ≤ 16) → (v4 - κ 0 12 ≤ 0) → 111488400 + 83700 * (16 - v4) + 82584 < (N : Int) → zV G mX12_fills (q_X12_fills b κ x1 x2 x3) 3 [some (.inr (.inr 0)), some (.inl x1), some (.inl x2), some (.inl x3), some (.inl v4), none, none, none] [] h) ∧ (∀ (v4 : Int) (h : Hp), Fr b κ h → (0 ≤ v4 ∧ v4 ≤ 16) → (v4 - κ 0 12 ≤ 0) → 102448800 + 83700 * (16 - v4) + 75888 < (N : Int) → zV G mX12_fills (q_X12_fills b κ x1 x2 x3) 59 [some (.inr (.inr 0)), some (.inl x1), some (.inl x2), some (.inl x3), some (.inl v4), none, none, none] [] h) ∧ (∀ (v4 v5 : Int) (h : Hp), Fr b κ h → (0 ≤ v4 ∧ v4 ≤ 15) → (v4 - κ 0 12 ≤ -1) → (0 ≤ v5 ∧ v5 ≤ 16) → (v5 - κ 0 11 ≤ 0) → 102448800 + 83700 * (16 - v4) + 68076 + 62 * (16 - v5) + 61 < (N : Int) → zV G mX12_fills (q_X12_fills b κ x1 x2 x3) 71 [some (.inr (.inr 0)), some (.inl x1), some (.inl x2), some (.inl x3), some (.inl v4), some (.inl v5), none, none] [] h) ∧ (∀ (v4 v5 : Int) (h : Hp), Fr b κ h → (0 ≤ v4 ∧ v4 ≤ 15) → (v4 - κ 0 12 ≤ -1) → (0 ≤ v5 ∧ v5 ≤ 16) → (v5 - κ 0 11 ≤ 0) → 111488400 + 83700 * (16 - v4) + 23436 + 62 * (16 - v5) + 21 < (N : Int) → zV G mX12_fills (q_X12_fills b κ x1 x2 x3) 15 [some (.inr (.inr 0)), some (.inl x1), some (.inl x2), some (.inl x3), some (.inl v4), some (.inl v5), none, none] [] h) := by
    intro N
    induction N with
    | zero =>
      refine ⟨?_, ?_, ?_, ?_⟩
      · intro v4 h hF g0 g1 hm
        exfalso; omega
      · intro v4 h hF g0 g1 hm
        exfalso; omega
      · intro v4 v5 h hF g0 g1 g2 g3 hm
        exfalso; omega
      · intro v4 v5 h hF g0 g1 g2 g3 hm
        exfalso; omega
    | succ N ih =>
      obtain ⟨k3, k59, k71, k15⟩ := ih
      refine ⟨?_, ?_, ?_, ?_⟩
      · intro v4 h hF g0 g1 hm
        refine zW_iload (pc' := 5) dX12_fills_0.1.1.2.1 rfl rfl ?_
        refine zW_aload_n (pc' := 6) dX12_fills_0.1.1.2.2 rfl rfl ?_
        refine zG_key (pc' := 9) hF rfl fg_X12_103 tb0 rfl dX12_fills_0.1.2.1.1 rfl ?_
        refine zV_cm_ge (tgt := 56) (pc' := 12) dX12_fills_0.1.2.1.2 rfl rfl ⟨by omega, by omega⟩ ⟨by omega, by omega⟩ (fun c9 => ?_) (fun c9 => ?_)
        · refine zW_iconst (pc' := 57) dX12_fills_1.2.2.1.1 rfl ?_
          refine zW_istore (ls' := [_, _, _, _, _, _, _, _]) (pc' := 59) dX12_fills_1.2.2.1.2 (by decide) rfl rfl rfl ?_
          exact k59 _ _ hF (by omega) (by omega) (by omega)
        · refine zW_iconst (pc' := 13) dX12_fills_0.1.2.2.1 rfl ?_
          refine zW_istore (ls' := [_, _, _, _, _, _, _, _]) (pc' := 15) dX12_fills_0.1.2.2.2 (by decide) rfl rfl rfl ?_
          exact k15 _ _ _ hF (by omega) (by omega) (by omega) (by omega) (by omega)
      · intro v4 h hF g0 g1 hm
        refine zW_iload (pc' := 61) dX12_fills_1.2.2.2.1 rfl rfl ?_
        refine zW_aload_n (pc' := 62) dX12_fills_1.2.2.2.2 rfl rfl ?_
        refine zG_key (pc' := 65) hF rfl fg_X12_103 tb0 rfl dX12_fills_2.1.1.1.1 rfl ?_
        refine zV_cm_ge (tgt := 142) (pc' := 68) dX12_fills_2.1.1.1.2 rfl rfl ⟨by omega, by omega⟩ ⟨by omega, by omega⟩ (fun c65 => ?_) (fun c65 => ?_)
        · exact zV_vret rfl dX12_fills_4.2.2.2 ⟨hF, trivial⟩
        · refine zW_iconst (pc' := 69) dX12_fills_2.1.1.2.1 rfl ?_
          refine zW_istore (ls' := [_, _, _, _, _, _, _, _]) (pc' := 71) dX12_fills_2.1.1.2.2 (by decide) rfl rfl rfl ?_
          exact k71 _ _ _ hF (by omega) (by omega) (by omega) (by omega) (by omega)
      · intro v4 v5 h hF g0 g1 g2 g3 hm
        refine zW_iload (pc' := 73) dX12_fills_2.1.2.1.1 rfl rfl ?_
        refine zW_aload_n (pc' := 74) dX12_fills_2.1.2.1.2 rfl rfl ?_
        refine zG_key (pc' := 77) hF rfl fg_X12_99 tb0 rfl dX12_fills_2.1.2.2.1 rfl ?_
        refine zV_cm_ge (tgt := 136) (pc' := 80) dX12_fills_2.1.2.2.2 rfl rfl ⟨by omega, by omega⟩ ⟨by omega, by omega⟩ (fun c77 => ?_) (fun c77 => ?_)
        · refine zW_iinc (ls' := [_, _, _, _, _, _, _, _]) (pc' := 139) dX12_fills_4.2.1.2 rfl (by decide) rfl rfl rfl ?_
          refine zV_goto 59 dX12_fills_4.2.2.1 rfl ?_
          refine zV_clr 5 (ls' := [_, _, _, _, _, _, _, _]) rfl ?_
          exact k59 _ _ hF (by omega) (by omega) (by omega)
        · refine zW_aload_n (pc' := 81) dX12_fills_2.2.1.1.1 rfl rfl ?_
          refine zW_iload_n (pc' := 82) dX12_fills_2.2.1.1.2 rfl rfl ?_
          refine zW_iload_n (pc' := 83) dX12_fills_2.2.1.2.1 rfl rfl ?_
          refine zW_iconst (pc' := 84) dX12_fills_2.2.1.2.2 rfl ?_
          refine zW_iload (pc' := 86) dX12_fills_2.2.2.1.1 rfl rfl ?_
          refine zW_iload (pc' := 88) dX12_fills_2.2.2.1.2 rfl rfl ?_
          refine cvI5 (pc' := 91) kX12_otherOf vX12_otherOf lk_X12_286 ⟨Nat.le_of_ble_eq_true rfl, Nat.le_of_ble_eq_true rfl⟩ tb0 vq12 rfl rfl (s_X12_otherOf hK hF _ ⟨by omega, by omega⟩ _ ⟨by omega, by omega⟩ _ ⟨by omega, by omega⟩ _ ⟨by omega, by omega, by omega⟩ _ ⟨by omega, by omega, by omega⟩) dX12_fills_2.2.2.2.1 (Nat.le_of_ble_eq_true rfl) rfl ?_
          rintro r88 z88 ⟨hz88, p88⟩; subst z88
          refine zW_istore (ls' := [_, _, _, _, _, _, _, _]) (pc' := 93) dX12_fills_2.2.2.2.2 (by decide) rfl rfl rfl ?_
          refine zW_aload_n (pc' := 94) dX12_fills_3.1.1.1.1 rfl rfl ?_
          refine zW_iload_n (pc' := 95) dX12_fills_3.1.1.1.2 rfl rfl ?_
          refine zW_iload_n (pc' := 96) dX12_fills_3.1.1.2.1 rfl rfl ?_
          refine zW_iconst (pc' := 97) dX12_fills_3.1.1.2.2 rfl ?_
          refine zW_iload (pc' := 99) dX12_fills_3.1.2.1.1 rfl rfl ?_
          refine zW_iload (pc' := 101) dX12_fills_3.1.2.1.2 rfl rfl ?_
          refine cvI5 (pc' := 104) kX12_otherOf vX12_otherOf lk_X12_286 ⟨Nat.le_of_ble_eq_true rfl, Nat.le_of_ble_eq_true rfl⟩ tb0 vq12 rfl rfl (s_X12_otherOf hK hF _ ⟨by omega, by omega⟩ _ ⟨by omega, by omega⟩ _ ⟨by omega, by omega⟩ _ ⟨by omega, by omega, by omega⟩ _ ⟨by omega, by omega, by omega⟩) dX12_fills_3.1.2.2.1 (Nat.le_of_ble_eq_true rfl) rfl ?_
          rintro r101 z101 ⟨hz101, p101⟩; subst z101
          refine zW_istore (ls' := [_, _, _, _, _, _, _, _]) (pc' := 106) dX12_fills_3.1.2.2.2 (by decide) rfl rfl rfl ?_
          refine zW_aload_n (pc' := 107) dX12_fills_3.2.1.1.1 rfl rfl ?_
          refine zW_iload_n (pc' := 108) dX12_fills_3.2.1.1.2 rfl rfl ?_
          refine zW_iconst (pc' := 109) dX12_fills_3.2.1.2.1 rfl ?_
          refine zW_iload (pc' := 111) dX12_fills_3.2.1.2.2 rfl rfl ?_
          refine zW_iload (pc' := 113) dX12_fills_3.2.2.1.1 rfl rfl ?_
          refine zW_iload (pc' := 115) dX12_fills_3.2.2.1.2 rfl rfl ?_
          refine cvV5 (pc' := 118) kX12_lays vX12_lays lk_X12_242 ⟨Nat.le_of_ble_eq_true rfl, Nat.le_of_ble_eq_true rfl⟩ tb0 vq12 rfl rfl (s_X12_lays hK hF _ ⟨by omega, by omega⟩ _ ⟨by omega, by omega⟩ _ ⟨by omega, by omega, by omega⟩ _ ⟨by omega, by omega, by omega⟩ _ hJ) dX12_fills_3.2.2.2.1 (Nat.le_of_ble_eq_true rfl) rfl ?_
          rintro r115 h ⟨hF, p115⟩
          refine zW_aload_n (pc' := 119) dX12_fills_3.2.2.2.2 rfl rfl ?_
          refine zW_iload_n (pc' := 120) dX12_fills_4.1.1.1.1 rfl rfl ?_
          refine zW_iconst (pc' := 121) dX12_fills_4.1.1.1.2 rfl ?_
          refine zW_iload (pc' := 123) dX12_fills_4.1.1.2 rfl rfl ?_
          refine zW_iload (pc' := 125) dX12_fills_4.1.2.1.1 rfl rfl ?_
          refine zW_iload (pc' := 127) dX12_fills_4.1.2.1.2 rfl rfl ?_
          refine cvV5 (pc' := 130) kX12_lays vX12_lays lk_X12_242 ⟨Nat.le_of_ble_eq_true rfl, Nat.le_of_ble_eq_true rfl⟩ tb0 vq12 rfl rfl (s_X12_lays hK hF _ ⟨by omega, by omega⟩ _ ⟨by omega, by omega⟩ _ ⟨by omega, by omega, by omega⟩ _ ⟨by omega, by omega, by omega⟩ _ hJ) dX12_fills_4.1.2.2 (Nat.le_of_ble_eq_true rfl) rfl ?_
          rintro r127 h ⟨hF, p127⟩
          refine zW_iinc (ls' := [_, _, _, _, _, _, _, _]) (pc' := 133) dX12_fills_4.2.1.1.1 rfl (by decide) rfl rfl rfl ?_
          refine zV_goto 71 dX12_fills_4.2.1.1.2 rfl ?_
          refine zV_clr 6 (ls' := [_, _, _, _, _, _, _, _]) rfl ?_
          refine zV_clr 7 (ls' := [_, _, _, _, _, _, _, _]) rfl ?_
          exact k71 _ _ _ hF (by omega) (by omega) (by omega) (by omega) (by omega)
      · intro v4 v5 h hF g0 g1 g2 g3 hm
        refine zW_iload (pc' := 17) dX12_fills_0.2.1.1.1 rfl rfl ?_
        refine zW_aload_n (pc' := 18) dX12_fills_0.2.1.1.2 rfl rfl ?_
        refine zG_key (pc' := 21) hF rfl fg_X12_99 tb0 rfl dX12_fills_0.2.1.2.1 rfl ?_
        refine zV_cm_ge (tgt := 50) (pc' := 24) dX12_fills_0.2.1.2.2 rfl rfl ⟨by omega, by omega⟩ ⟨by omega, by omega⟩ (fun c21 => ?_) (fun c21 => ?_)
        · refine zW_iinc (ls' := [_, _, _, _, _, _, _, _]) (pc' := 53) dX12_fills_1.2.1.2.1 rfl (by decide) rfl rfl rfl ?_
          refine zV_goto 3 dX12_fills_1.2.1.2.2 rfl ?_
          refine zV_clr 5 (ls' := [_, _, _, _, _, _, _, _]) rfl ?_
          exact k3 _ _ hF (by omega) (by omega) (by omega)
        · refine zW_aload_n (pc' := 25) dX12_fills_0.2.2.1.1 rfl rfl ?_
          refine zW_iload_n (pc' := 26) dX12_fills_0.2.2.1.2 rfl rfl ?_
          refine zW_iconst (pc' := 27) dX12_fills_0.2.2.2.1 rfl ?_
          refine zW_iload (pc' := 29) dX12_fills_0.2.2.2.2 rfl rfl ?_
          refine zW_iload (pc' := 31) dX12_fills_1.1.1.1.1 rfl rfl ?_
          refine zW_aload_n (pc' := 32) dX12_fills_1.1.1.1.2 rfl rfl ?_
          refine zW_iload_n (pc' := 33) dX12_fills_1.1.1.2.1 rfl rfl ?_
          refine zW_iload (pc' := 35) dX12_fills_1.1.1.2.2 rfl rfl ?_
          refine zW_iload (pc' := 37) dX12_fills_1.1.2.1.1 rfl rfl ?_
          refine zW_iload_n (pc' := 38) dX12_fills_1.1.2.1.2 rfl rfl ?_
          refine cvI4 (pc' := 41) kX12_greenOf vX12_greenOf lk_X12_283 ⟨Nat.le_of_ble_eq_true rfl, Nat.le_of_ble_eq_true rfl⟩ tb0 vq12 rfl rfl (s_X12_greenOf hK hF _ ⟨by omega, by omega⟩ _ ⟨by omega, by omega, by omega⟩ _ ⟨by omega, by omega, by omega⟩ _) dX12_fills_1.1.2.2.1 (Nat.le_of_ble_eq_true rfl) rfl ?_
          rintro r38 z38 ⟨hz38, p38⟩; subst z38
          refine cvV5 (pc' := 44) kX12_lays vX12_lays lk_X12_242 ⟨Nat.le_of_ble_eq_true rfl, Nat.le_of_ble_eq_true rfl⟩ tb0 vq12 rfl rfl (s_X12_lays hK hF _ ⟨by omega, by omega⟩ _ ⟨by omega, by omega⟩ _ ⟨by omega, by omega, by omega⟩ _ ⟨by omega, by omega, by omega⟩ _ hJ) dX12_fills_1.1.2.2.2 (Nat.le_of_ble_eq_true rfl) rfl ?_
          rintro r41 h ⟨hF, p41⟩
          refine zW_iinc (ls' := [_, _, _, _, _, _, _, _]) (pc' := 47) dX12_fills_1.2.1.1.1 rfl (by decide) rfl rfl rfl ?_
          refine zV_goto 15 dX12_fills_1.2.1.1.2 rfl ?_
          exact k15 _ _ _ hF (by omega) (by omega) (by omega) (by omega) (by omega)
  refine zM_of [some (.inr (.inr 0)), some (.inl x1), some (.inl x2), some (.inl x3), none, none, none, none] 4 rfl rfl (Nat.le_of_ble_eq_true rfl) rfl ?_
  refine zW_iconst (pc' := 1) dX12_fills_0.1.1.1.1 rfl ?_
  refine zW_istore (ls' := [_, _, _, _, _, _, _, _]) (pc' := 3) dX12_fills_0.1.1.1.2 (by decide) rfl rfl rfl ?_
  exact (main 10000000000000000000000000000000000000000).1 _ _ hF (by omega) (by omega) (by omega)

abbrev q_X12_lightAt (κ h : Hp) (x1 : Int) (x2 : Int) (x3 : Int) : Int → Hp → Prop := fun r h' => h' = h ∧ (True)
set_option maxHeartbeats 4000000 in
set_option maxRecDepth 20000 in
theorem s_X12_lightAt {G : Ga} {b : Bd} {κ h : Hp} (hK : KR κ) (hF : Fr b κ h) (x1 : Int) (hx1 : 0 ≤ x1 ∧ x1 ≤ 14) (x2 : Int) (hx2 : -2 ≤ x2 ∧ x2 ≤ 17 ∧ x2 - κ 0 11 ≤ 1) (x3 : Int) (hx3 : -2 ≤ x3 ∧ x3 ≤ 17 ∧ x3 - κ 0 12 ≤ 1) : zM G mX12_lightAt yX12_lightAt [.inr (.inr 0), .inl x1, .inl x2, .inl x3] h (q_X12_lightAt κ h x1 x2 x3) := by
  have f_0_11 := KRw hK
  have f_0_12 := KRh hK
  refine zM_of [some (.inr (.inr 0)), some (.inl x1), some (.inl x2), some (.inl x3)] 0 rfl rfl (Nat.le_of_ble_eq_true rfl) rfl ?_
  refine zW_aload_n (pc' := 1) dX12_lightAt_0.1.1.1.1 rfl rfl ?_
  refine zW_iload_n (pc' := 2) dX12_lightAt_0.1.1.1.2 rfl rfl ?_
  refine zW_iconst (pc' := 3) dX12_lightAt_0.1.1.2.1 rfl ?_
  refine zW_iload_n (pc' := 4) dX12_lightAt_0.1.1.2.2 rfl rfl ?_
  refine zW_iload_n (pc' := 5) dX12_lightAt_0.1.2.1.1 rfl rfl ?_
  refine cvI4 (pc' := 8) kX12_at vX12_at lk_X12_277 ⟨Nat.le_of_ble_eq_true rfl, Nat.le_of_ble_eq_true rfl⟩ tb0 vq12 rfl rfl (s_X12_at hK hF _ ⟨by omega, by omega⟩ _ ⟨by omega, by omega⟩ _ ⟨by omega, by omega, by omega⟩ _ ⟨by omega, by omega, by omega⟩) dX12_lightAt_0.1.2.1.2 (Nat.le_of_ble_eq_true rfl) rfl ?_
  rintro r5 z5 ⟨hz5, p5⟩; subst z5
  refine zW_aload_n (pc' := 9) dX12_lightAt_0.1.2.2.1 rfl rfl ?_
  refine zW_iload_n (pc' := 10) dX12_lightAt_0.1.2.2.2 rfl rfl ?_
  refine zW_iconst (pc' := 11) dX12_lightAt_0.2.1.1.1 rfl ?_
  refine zW_iload_n (pc' := 12) dX12_lightAt_0.2.1.1.2 rfl rfl ?_
  refine zW_iload_n (pc' := 13) dX12_lightAt_0.2.1.2.1 rfl rfl ?_
  refine cvI4 (pc' := 16) kX12_at vX12_at lk_X12_277 ⟨Nat.le_of_ble_eq_true rfl, Nat.le_of_ble_eq_true rfl⟩ tb0 vq12 rfl rfl (s_X12_at hK hF _ ⟨by omega, by omega⟩ _ ⟨by omega, by omega⟩ _ ⟨by omega, by omega, by omega⟩ _ ⟨by omega, by omega, by omega⟩) dX12_lightAt_0.2.1.2.2 (Nat.le_of_ble_eq_true rfl) rfl ?_
  rintro r13 z13 ⟨hz13, p13⟩; subst z13
  refine zW_iadd (pc' := 17) dX12_lightAt_0.2.2.1.1 rfl ?_
  refine zW_iconst (pc' := 18) dX12_lightAt_0.2.2.1.2 rfl ?_
  refine zW_aload_n (pc' := 19) dX12_lightAt_0.2.2.2.1 rfl rfl ?_
  refine zW_iload_n (pc' := 20) dX12_lightAt_0.2.2.2.2 rfl rfl ?_
  refine zW_iconst (pc' := 21) dX12_lightAt_1.1.1.1.1 rfl ?_
  refine zW_iload_n (pc' := 22) dX12_lightAt_1.1.1.1.2 rfl rfl ?_
  refine zW_iload_n (pc' := 23) dX12_lightAt_1.1.1.2 rfl rfl ?_
  refine cvI4 (pc' := 26) kX12_at vX12_at lk_X12_277 ⟨Nat.le_of_ble_eq_true rfl, Nat.le_of_ble_eq_true rfl⟩ tb0 vq12 rfl rfl (s_X12_at hK hF _ ⟨by omega, by omega⟩ _ ⟨by omega, by omega⟩ _ ⟨by omega, by omega, by omega⟩ _ ⟨by omega, by omega, by omega⟩) dX12_lightAt_1.1.2.1 (Nat.le_of_ble_eq_true rfl) rfl ?_
  rintro r23 z23 ⟨hz23, p23⟩; subst z23
  refine zW_imul (pc' := 27) dX12_lightAt_1.1.2.2 rfl ?_
  refine zW_iadd (pc' := 28) dX12_lightAt_1.2.1.1 rfl ?_
  refine zW_iconst (pc' := 29) dX12_lightAt_1.2.1.2 rfl ?_
  refine zW_idivQ (pc' := 30) ⟨by omega, by omega⟩ (by omega) dX12_lightAt_1.2.2.1 rfl (fun v29 e29 => ?_)
  unfold rng at e29
  exact zV_iret rfl dX12_lightAt_1.2.2.2 ⟨rfl, trivial⟩

abbrev q_X12_median (b : Bd) (κ : Hp) (x1 : Int) (x2 : Int) (x3 : Int) (x4 : Int) : Int → Hp → Prop := fun r h' => Fr b κ h' ∧ (True)
set_option maxHeartbeats 4000000 in
set_option maxRecDepth 20000 in
theorem s_X12_median {G : Ga} {b : Bd} {κ h : Hp} (hK : KR κ) (hF : Fr b κ h) (x1 : Int) (hx1 : 0 ≤ x1 ∧ x1 ≤ 14) (x2 : Int) (hx2 : 0 ≤ x2 ∧ x2 ≤ 2) (x3 : Int) (hx3 : 0 ≤ x3 ∧ x3 ≤ 15 ∧ x3 - κ 0 11 ≤ -1) (x4 : Int) (hx4 : 0 ≤ x4 ∧ x4 ≤ 15 ∧ x4 - κ 0 12 ≤ -1) : zM G mX12_median yX12_median [.inr (.inr 0), .inl x1, .inl x2, .inl x3, .inl x4] h (q_X12_median b κ x1 x2 x3 x4) := by
  have f_0_11 := KRw hK
  have f_0_12 := KRh hK
  have main : ∀ N : Nat, (∀ (v5 : Int) (h : Hp), Fr b κ h → (0 ≤ v5 ∧ v5 ≤ 9) → 35112 + 57 * (9 - v5) + 56 < (N : Int) → zV G mX12_median (q_X12_median b κ x1 x2 x3 x4) 3 [some (.inr (.inr 0)), some (.inl x1), some (.inl x2), some (.inl x3), some (.inl x4), some (.inl v5)] [] h) := by
    intro N
    induction N with
    | zero =>
      intro v5 h hF g0 hm
      exfalso; omega
    | succ N ih =>
      have k3 := ih
      intro v5 h hF g0 hm
      refine zW_iload (pc' := 5) dX12_median_0.1.1.2.1 rfl rfl ?_
      refine zW_bipush (pc' := 7) dX12_median_0.1.1.2.2 rfl rfl ?_
      refine zV_cm_ge (tgt := 70) (pc' := 10) dX12_median_0.1.2.1.1 rfl rfl ⟨by omega, by omega⟩ ⟨by omega, by omega⟩ (fun c7 => ?_) (fun c7 => ?_)
      · refine zW_aload_n (pc' := 71) dX12_median_3.1.1.1.1 rfl rfl ?_
        refine zG_ref (pc' := 74) 20 fg_X12_69 tb0 rfl dX12_median_3.1.1.1.2 rfl ?_
        refine zW_bipush (pc' := 76) dX12_median_3.1.1.2 rfl rfl ?_
        refine csV2 (pc' := 79) kX12_sorts vX12_sorts lk_X12_250 ⟨Nat.le_of_ble_eq_true rfl, Nat.le_of_ble_eq_true rfl⟩ rfl (s_X12_sorts hF _ tb20 (sr20) (by decide) _ ⟨by omega, by omega⟩ (by omega)) dX12_median_3.1.2.1 (Nat.le_of_ble_eq_true rfl) rfl ?_
        rintro r76 h ⟨hF, p76⟩
        refine zW_aload_n (pc' := 80) dX12_median_3.1.2.2 rfl rfl ?_
        refine zG_ref (pc' := 83) 20 fg_X12_69 tb0 rfl dX12_median_3.2.1.1 rfl ?_
        refine zW_iconst (pc' := 84) dX12_median_3.2.1.2 rfl ?_
        refine zV_iald (pc' := 85) tb20 (by omega) dX12_median_3.2.2.1 (by decide) rfl ?_
        exact zV_iret rfl dX12_median_3.2.2.2 ⟨hF, trivial⟩
      · refine zW_aload_n (pc' := 11) dX12_median_0.1.2.1.2 rfl rfl ?_
        refine zG_ref (pc' := 14) 20 fg_X12_69 tb0 rfl dX12_median_0.1.2.2.1 rfl ?_
        refine zW_iload (pc' := 16) dX12_median_0.1.2.2.2 rfl rfl ?_
        refine zW_aload_n (pc' := 17) dX12_median_0.2.1.1.1 rfl rfl ?_
        refine zW_iload_n (pc' := 18) dX12_median_0.2.1.1.2 rfl rfl ?_
        refine zW_iload_n (pc' := 19) dX12_median_0.2.1.2.1 rfl rfl ?_
        refine zW_iload_n (pc' := 20) dX12_median_0.2.1.2.2 rfl rfl ?_
        refine zW_iload (pc' := 22) dX12_median_0.2.2.1.1 rfl rfl ?_
        refine zW_iconst (pc' := 23) dX12_median_0.2.2.1.2 rfl ?_
        refine zW_irem (pc' := 24) (by omega) (by omega) dX12_median_0.2.2.2.1 rfl ?_
        refine zW_iadd (pc' := 25) dX12_median_0.2.2.2.2 rfl ?_
        refine zW_iconst (pc' := 26) dX12_median_1.1.1.1.1 rfl ?_
        refine zW_isub (pc' := 27) dX12_median_1.1.1.1.2 rfl ?_
        refine zW_iload (pc' := 29) dX12_median_1.1.1.2.1 rfl rfl ?_
        refine zW_iload (pc' := 31) dX12_median_1.1.1.2.2 rfl rfl ?_
        refine zW_iconst (pc' := 32) dX12_median_1.1.2.1.1 rfl ?_
        refine zW_idiv (pc' := 33) (by omega) (by omega) dX12_median_1.1.2.1.2 rfl ?_
        refine zW_iadd (pc' := 34) dX12_median_1.1.2.2.1 rfl ?_
        refine zW_iconst (pc' := 35) dX12_median_1.1.2.2.2 rfl ?_
        refine zW_isub (pc' := 36) dX12_median_1.2.1.1.1 rfl ?_
        refine cvI4 (pc' := 39) kX12_at vX12_at lk_X12_277 ⟨Nat.le_of_ble_eq_true rfl, Nat.le_of_ble_eq_true rfl⟩ tb0 vq12 rfl rfl (s_X12_at hK hF _ ⟨by omega, by omega⟩ _ ⟨by omega, by omega⟩ _ ⟨by omega, by omega, by omega⟩ _ ⟨by omega, by omega, by omega⟩) dX12_median_1.2.1.1.2 (Nat.le_of_ble_eq_true rfl) rfl ?_
        rintro r36 z36 ⟨hz36, p36⟩; subst z36
        refine zW_aload_n (pc' := 40) dX12_median_1.2.1.2.1 rfl rfl ?_
        refine zW_iload_n (pc' := 41) dX12_median_1.2.1.2.2 rfl rfl ?_
        refine zW_iconst (pc' := 42) dX12_median_1.2.2.1.1 rfl ?_
        refine zW_iload_n (pc' := 43) dX12_median_1.2.2.1.2 rfl rfl ?_
        refine zW_iload (pc' := 45) dX12_median_1.2.2.2.1 rfl rfl ?_
        refine zW_iconst (pc' := 46) dX12_median_1.2.2.2.2 rfl ?_
        refine zW_irem (pc' := 47) (by omega) (by omega) dX12_median_2.1.1.1.1 rfl ?_
        refine zW_iadd (pc' := 48) dX12_median_2.1.1.1.2 rfl ?_
        refine zW_iconst (pc' := 49) dX12_median_2.1.1.2.1 rfl ?_
        refine zW_isub (pc' := 50) dX12_median_2.1.1.2.2 rfl ?_
        refine zW_iload (pc' := 52) dX12_median_2.1.2.1.1 rfl rfl ?_
        refine zW_iload (pc' := 54) dX12_median_2.1.2.1.2 rfl rfl ?_
        refine zW_iconst (pc' := 55) dX12_median_2.1.2.2.1 rfl ?_
        refine zW_idiv (pc' := 56) (by omega) (by omega) dX12_median_2.1.2.2.2 rfl ?_
        refine zW_iadd (pc' := 57) dX12_median_2.2.1.1.1 rfl ?_
        refine zW_iconst (pc' := 58) dX12_median_2.2.1.1.2 rfl ?_
        refine zW_isub (pc' := 59) dX12_median_2.2.1.2.1 rfl ?_
        refine cvI4 (pc' := 62) kX12_at vX12_at lk_X12_277 ⟨Nat.le_of_ble_eq_true rfl, Nat.le_of_ble_eq_true rfl⟩ tb0 vq12 rfl rfl (s_X12_at hK hF _ ⟨by omega, by omega⟩ _ ⟨by omega, by omega⟩ _ ⟨by omega, by omega, by omega⟩ _ ⟨by omega, by omega, by omega⟩) dX12_median_2.2.1.2.2 (Nat.le_of_ble_eq_true rfl) rfl ?_
        rintro r59 z59 ⟨hz59, p59⟩; subst z59
        refine zW_isub (pc' := 63) dX12_median_2.2.2.1.1 rfl ?_
        refine zS_i (pc' := 64) hF sr20 tb20 (by omega) dX12_median_2.2.2.1.2 (by decide) rfl (fun h i63 hF a63 b63 w63 => ?_)
        refine zW_iinc (ls' := [_, _, _, _, _, _]) (pc' := 67) dX12_median_2.2.2.2.1 rfl (by decide) rfl rfl rfl ?_
        refine zV_goto 3 dX12_median_2.2.2.2.2 rfl ?_
        exact k3 _ _ hF (by omega) (by omega)
  refine zM_of [some (.inr (.inr 0)), some (.inl x1), some (.inl x2), some (.inl x3), some (.inl x4), none] 1 rfl rfl (Nat.le_of_ble_eq_true rfl) rfl ?_
  refine zW_iconst (pc' := 1) dX12_median_0.1.1.1.1 rfl ?_
  refine zW_istore (ls' := [_, _, _, _, _, _]) (pc' := 3) dX12_median_0.1.1.1.2 (by decide) rfl rfl rfl ?_
  exact (main 10000000000000000000000000000000000000000) _ _ hF (by omega) (by omega)

abbrev q_X12_votes (b : Bd) (κ : Hp) (x1 : Int) (x2 : Int) (x3 : Int) : Int → Hp → Prop := fun r h' => Fr b κ h' ∧ (True)
set_option maxHeartbeats 4000000 in
set_option maxRecDepth 20000 in
theorem s_X12_votes {G : Ga} {b : Bd} {κ h : Hp} (hK : KR κ) (hF : Fr b κ h) (x1 : Int) (hx1 : rng x1) (x2 : Int) (hx2 : 0 ≤ x2 ∧ x2 ≤ 14) (x3 : Int) (hx3 : 0 ≤ x3 ∧ x3 ≤ 14) (hJ : Ok17 b x3) : zM G mX12_votes yX12_votes [.inr (.inr 0), .inl x1, .inl x2, .inl x3] h (q_X12_votes b κ x1 x2 x3) := by
  have f_0_11 := KRw hK
  have f_0_12 := KRh hK
  unfold rng at hx1
  have main : ∀ N : Nat, (∀ (v4 : Int) (h : Hp), Fr b κ h → (0 ≤ v4 ∧ v4 ≤ 768) → 1242824550899436720 + 4318920 * (768 - v4) + 4286928 < (N : Int) → zV G mX12_votes (q_X12_votes b κ x1 x2 x3) 3 [some (.inr (.inr 0)), some (.inl x1), some (.inl x2), some (.inl x3), some (.inl v4), none, none, none] [] h) ∧ (∀ (v4 : Int) (h : Hp), Fr b κ h → (0 ≤ v4 ∧ v4 ≤ 2147483647) → 1196450500492741320 + 4318920 * (2147483647 - v4) + 4126968 < (N : Int) → zV G mX12_votes (q_X12_votes b κ x1 x2 x3) 46 [some (.inr (.inr 0)), some (.inl x1), some (.inl x2), some (.inl x3), some (.inl v4), none, none, none] [] h) ∧ (∀ (v4 v5 : Int) (h : Hp), Fr b κ h → (1 ≤ x1 ∧ x1 ≤ 2147483647) → (0 ≤ v4 ∧ v4 ≤ 2147483646) → (0 ≤ v5 ∧ v5 ≤ 256) → 1196450500492741320 + 4318920 * (2147483647 - v4) + 3935016 + 124 * (256 - v5) + 123 < (N : Int) → zV G mX12_votes (q_X12_votes b κ x1 x2 x3) 55 [some (.inr (.inr 0)), some (.inl x1), some (.inl x2), some (.inl x3), some (.inl v4), some (.inl v5), none, none] [] h) ∧ (∀ (v4 v5 : Int) (h : Hp), Fr b κ h → (1 ≤ x1 ∧ x1 ≤ 2147483647) → (0 ≤ v4 ∧ v4 ≤ 2147483646) → (0 ≤ v5 ∧ v5 ≤ 256) → 1196450500492741320 + 4318920 * (2147483647 - v4) + 3775056 + 124 * (256 - v5) + 118 < (N : Int) → zV G mX12_votes (q_X12_votes b κ x1 x2 x3) 166 [some (.inr (.inr 0)), some (.inl x1), some (.inl x2), some (.inl x3), some (.inl v4), some (.inl v5), none, none] [] h) := by
    intro N
    induction N with
    | zero =>
      refine ⟨?_, ?_, ?_, ?_⟩
      · intro v4 h hF g0 hm
        exfalso; omega
      · intro v4 h hF g0 hm
        exfalso; omega
      · intro v4 v5 h hF g0 g1 g2 hm
        exfalso; omega
      · intro v4 v5 h hF g0 g1 g2 hm
        exfalso; omega
    | succ N ih =>
      obtain ⟨k3, k46, k55, k166⟩ := ih
      refine ⟨?_, ?_, ?_, ?_⟩
      · intro v4 h hF g0 hm
        refine zW_iload (pc' := 5) dX12_votes_0.1.1.2.1 rfl rfl ?_
        refine zW_sipush (pc' := 8) dX12_votes_0.1.1.2.2 rfl rfl ?_
        refine zV_cm_ge (tgt := 43) (pc' := 11) dX12_votes_0.1.2.1.1 rfl rfl ⟨by omega, by omega⟩ ⟨by omega, by omega⟩ (fun c8 => ?_) (fun c8 => ?_)
        · refine zW_iconst (pc' := 44) dX12_votes_1.1.2.2.2 rfl ?_
          refine zW_istore (ls' := [_, _, _, _, _, _, _, _]) (pc' := 46) dX12_votes_1.2.1.1.1 (by decide) rfl rfl rfl ?_
          exact k46 _ _ hF (by omega) (by omega)
        · refine zW_aload_n (pc' := 12) dX12_votes_0.1.2.1.2 rfl rfl ?_
          refine zG_ref (pc' := 15) 17 fg_X12_60 tb0 rfl dX12_votes_0.1.2.2.1 rfl ?_
          refine zW_sipush (pc' := 18) dX12_votes_0.1.2.2.2 rfl rfl ?_
          refine zW_iload_n (pc' := 19) dX12_votes_0.2.1.1.1 rfl rfl ?_
          refine zW_imul (pc' := 20) dX12_votes_0.2.1.1.2 rfl ?_
          refine zW_iload (pc' := 22) dX12_votes_0.2.1.2.1 rfl rfl ?_
          refine zW_iadd (pc' := 23) dX12_votes_0.2.1.2.2 rfl ?_
          refine zW_aload_n (pc' := 24) dX12_votes_0.2.2.1.1 rfl rfl ?_
          refine zG_ref (pc' := 27) 17 fg_X12_60 tb0 rfl dX12_votes_0.2.2.1.2 rfl ?_
          refine zW_sipush (pc' := 30) dX12_votes_0.2.2.2.1 rfl rfl ?_
          refine zW_iload_n (pc' := 31) dX12_votes_0.2.2.2.2 rfl rfl ?_
          refine zW_imul (pc' := 32) dX12_votes_1.1.1.1.1 rfl ?_
          refine zW_iload (pc' := 34) dX12_votes_1.1.1.1.2 rfl rfl ?_
          refine zW_iadd (pc' := 35) dX12_votes_1.1.1.2.1 rfl ?_
          refine zV_iald (pc' := 36) tb17 (by omega) dX12_votes_1.1.1.2.2 (by decide) rfl ?_
          refine zS_17 (pc' := 37) hF hJ (by omega) (by omega) dX12_votes_1.1.2.1.1 rfl (fun h i36 hF a36 b36 w36 => ?_)
          refine zW_iinc (ls' := [_, _, _, _, _, _, _, _]) (pc' := 40) dX12_votes_1.1.2.1.2 rfl (by decide) rfl rfl rfl ?_
          refine zV_goto 3 dX12_votes_1.1.2.2.1 rfl ?_
          exact k3 _ _ hF (by omega) (by omega)
      · intro v4 h hF g0 hm
        refine zW_iload (pc' := 48) dX12_votes_1.2.1.1.2 rfl rfl ?_
        refine zW_iload_n (pc' := 49) dX12_votes_1.2.1.2.1 rfl rfl ?_
        refine zV_cm_ge (tgt := 254) (pc' := 52) dX12_votes_1.2.1.2.2 rfl rfl ⟨by omega, by omega⟩ ⟨by omega, by omega⟩ (fun c49 => ?_) (fun c49 => ?_)
        · exact zV_vret rfl dX12_votes_8.2.2 ⟨hF, trivial⟩
        · refine zW_iconst (pc' := 53) dX12_votes_1.2.2.1.1 rfl ?_
          refine zW_istore (ls' := [_, _, _, _, _, _, _, _]) (pc' := 55) dX12_votes_1.2.2.1.2 (by decide) rfl rfl rfl ?_
          exact k55 _ _ _ hF (by omega) (by omega) (by omega) (by omega)
      · intro v4 v5 h hF g0 g1 g2 hm
        refine zW_iload (pc' := 57) dX12_votes_1.2.2.2.1 rfl rfl ?_
        refine zW_sipush (pc' := 60) dX12_votes_1.2.2.2.2 rfl rfl ?_
        refine zV_cm_ge (tgt := 163) (pc' := 63) dX12_votes_2.1.1.1.1 rfl rfl ⟨by omega, by omega⟩ ⟨by omega, by omega⟩ (fun c60 => ?_) (fun c60 => ?_)
        · refine zW_iconst (pc' := 164) dX12_votes_5.1.2.2.2 rfl ?_
          refine zW_istore (ls' := [_, _, _, _, _, _, _, _]) (pc' := 166) dX12_votes_5.2.1.1.1 (by decide) rfl rfl rfl ?_
          exact k166 _ _ _ hF (by omega) (by omega) (by omega) (by omega)
        · refine zW_iload (pc' := 65) dX12_votes_2.1.1.1.2 rfl rfl ?_
          refine zW_bipush (pc' := 67) dX12_votes_2.1.1.2.1 rfl rfl ?_
          refine zW_irem (pc' := 68) (by omega) (by omega) dX12_votes_2.1.1.2.2 rfl ?_
          refine zW_istore (ls' := [_, _, _, _, _, _, _, _]) (pc' := 70) dX12_votes_2.1.2.1.1 (by decide) rfl rfl rfl ?_
          refine zW_iload (pc' := 72) dX12_votes_2.1.2.1.2 rfl rfl ?_
          refine zW_bipush (pc' := 74) dX12_votes_2.1.2.2.1 rfl rfl ?_
          refine zW_idiv (pc' := 75) (by omega) (by omega) dX12_votes_2.1.2.2.2 rfl ?_
          refine zW_istore (ls' := [_, _, _, _, _, _, _, _]) (pc' := 77) dX12_votes_2.2.1.1.1 (by decide) rfl rfl rfl ?_
          refine zW_aload_n (pc' := 78) dX12_votes_2.2.1.1.2 rfl rfl ?_
          refine zW_iload (pc' := 80) dX12_votes_2.2.1.2.1 rfl rfl ?_
          refine zW_iload (pc' := 82) dX12_votes_2.2.1.2.2 rfl rfl ?_
          refine cvI2 (pc' := 85) kX12_isSquare vX12_isSquare lk_X12_218 ⟨Nat.le_of_ble_eq_true rfl, Nat.le_of_ble_eq_true rfl⟩ tb0 vq12 rfl rfl (s_X12_isSquare hK hF _ ⟨by omega, by omega⟩ _ ⟨by omega, by omega⟩) dX12_votes_2.2.2.1.1 (Nat.le_of_ble_eq_true rfl) rfl ?_
          rintro r82 z82 ⟨hz82, p82⟩; subst z82
          refine zV_if_ne (tgt := 91) (pc' := 88) dX12_votes_2.2.2.1.2 rfl rfl ⟨by omega, by omega⟩ (fun c85 => ?_) (fun c85 => ?_)
          · refine zW_aload_n (pc' := 92) dX12_votes_2.2.2.2.2 rfl rfl ?_
            refine zG_ref (pc' := 95) 19 fg_X12_66 tb0 rfl dX12_votes_3.1.1.1.1 rfl ?_
            refine zW_iload (pc' := 97) dX12_votes_3.1.1.1.2 rfl rfl ?_
            refine zW_aload_n (pc' := 98) dX12_votes_3.1.1.2.1 rfl rfl ?_
            refine zW_iload_n (pc' := 99) dX12_votes_3.1.1.2.2 rfl rfl ?_
            refine zW_iconst (pc' := 100) dX12_votes_3.1.2.1.1 rfl ?_
            refine zW_iload (pc' := 102) dX12_votes_3.1.2.1.2 rfl rfl ?_
            refine zW_iload (pc' := 104) dX12_votes_3.1.2.2.1 rfl rfl ?_
            refine cvI4 (pc' := 107) kX12_at vX12_at lk_X12_277 ⟨Nat.le_of_ble_eq_true rfl, Nat.le_of_ble_eq_true rfl⟩ tb0 vq12 rfl rfl (s_X12_at hK hF _ ⟨by omega, by omega⟩ _ ⟨by omega, by omega⟩ _ ⟨by omega, by omega, by omega⟩ _ ⟨by omega, by omega, by omega⟩) dX12_votes_3.1.2.2.2 (Nat.le_of_ble_eq_true rfl) rfl ?_
            rintro r104 z104 ⟨hz104, p104⟩; subst z104
            refine zW_aload_n (pc' := 108) dX12_votes_3.2.1.1.1 rfl rfl ?_
            refine zW_iload_n (pc' := 109) dX12_votes_3.2.1.1.2 rfl rfl ?_
            refine zW_iconst (pc' := 110) dX12_votes_3.2.1.2.1 rfl ?_
            refine zW_iload (pc' := 112) dX12_votes_3.2.1.2.2 rfl rfl ?_
            refine zW_iload (pc' := 114) dX12_votes_3.2.2.1.1 rfl rfl ?_
            refine cvI4 (pc' := 117) kX12_median vX12_median lk_X12_289 ⟨Nat.le_of_ble_eq_true rfl, Nat.le_of_ble_eq_true rfl⟩ tb0 vq12 rfl rfl (s_X12_median hK hF _ ⟨by omega, by omega⟩ _ ⟨by omega, by omega⟩ _ ⟨by omega, by omega, by omega⟩ _ ⟨by omega, by omega, by omega⟩) dX12_votes_3.2.2.1.2 (Nat.le_of_ble_eq_true rfl) rfl ?_
            rintro r114 h ⟨hF, p114⟩
            refine zW_iadd (pc' := 118) dX12_votes_3.2.2.2.1 rfl ?_
            refine csI1 (pc' := 121) kX12_clipped vX12_clipped lk_X12_239 ⟨Nat.le_of_ble_eq_true rfl, Nat.le_of_ble_eq_true rfl⟩ rfl (s_X12_clipped hF _) dX12_votes_3.2.2.2.2 (Nat.le_of_ble_eq_true rfl) rfl ?_
            rintro r118 z118 ⟨hz118, p118⟩; subst z118
            refine zS_i (pc' := 122) hF sr19 tb19 (by omega) dX12_votes_4.1.1.1.1 (by decide) rfl (fun h i121 hF a121 b121 w121 => ?_)
            refine zW_aload_n (pc' := 123) dX12_votes_4.1.1.1.2 rfl rfl ?_
            refine zG_ref (pc' := 126) 19 fg_X12_66 tb0 rfl dX12_votes_4.1.1.2.1 rfl ?_
            refine zW_sipush (pc' := 129) dX12_votes_4.1.1.2.2 rfl rfl ?_
            refine zW_iload (pc' := 131) dX12_votes_4.1.2.1.1 rfl rfl ?_
            refine zW_iadd (pc' := 132) dX12_votes_4.1.2.1.2 rfl ?_
            refine zW_aload_n (pc' := 133) dX12_votes_4.1.2.2.1 rfl rfl ?_
            refine zW_iload_n (pc' := 134) dX12_votes_4.1.2.2.2 rfl rfl ?_
            refine zW_iconst (pc' := 135) dX12_votes_4.2.1.1.1 rfl ?_
            refine zW_iload (pc' := 137) dX12_votes_4.2.1.1.2 rfl rfl ?_
            refine zW_iload (pc' := 139) dX12_votes_4.2.1.2.1 rfl rfl ?_
            refine cvI4 (pc' := 142) kX12_at vX12_at lk_X12_277 ⟨Nat.le_of_ble_eq_true rfl, Nat.le_of_ble_eq_true rfl⟩ tb0 vq12 rfl rfl (s_X12_at hK hF _ ⟨by omega, by omega⟩ _ ⟨by omega, by omega⟩ _ ⟨by omega, by omega, by omega⟩ _ ⟨by omega, by omega, by omega⟩) dX12_votes_4.2.1.2.2 (Nat.le_of_ble_eq_true rfl) rfl ?_
            rintro r139 z139 ⟨hz139, p139⟩; subst z139
            refine zW_aload_n (pc' := 143) dX12_votes_4.2.2.1.1 rfl rfl ?_
            refine zW_iload_n (pc' := 144) dX12_votes_4.2.2.1.2 rfl rfl ?_
            refine zW_iconst (pc' := 145) dX12_votes_4.2.2.2.1 rfl ?_
            refine zW_iload (pc' := 147) dX12_votes_4.2.2.2.2 rfl rfl ?_
            refine zW_iload (pc' := 149) dX12_votes_5.1.1.1.1 rfl rfl ?_
            refine cvI4 (pc' := 152) kX12_median vX12_median lk_X12_289 ⟨Nat.le_of_ble_eq_true rfl, Nat.le_of_ble_eq_true rfl⟩ tb0 vq12 rfl rfl (s_X12_median hK hF _ ⟨by omega, by omega⟩ _ ⟨by omega, by omega⟩ _ ⟨by omega, by omega, by omega⟩ _ ⟨by omega, by omega, by omega⟩) dX12_votes_5.1.1.1.2 (Nat.le_of_ble_eq_true rfl) rfl ?_
            rintro r149 h ⟨hF, p149⟩
            refine zW_iadd (pc' := 153) dX12_votes_5.1.1.2.1 rfl ?_
            refine csI1 (pc' := 156) kX12_clipped vX12_clipped lk_X12_239 ⟨Nat.le_of_ble_eq_true rfl, Nat.le_of_ble_eq_true rfl⟩ rfl (s_X12_clipped hF _) dX12_votes_5.1.1.2.2 (Nat.le_of_ble_eq_true rfl) rfl ?_
            rintro r153 z153 ⟨hz153, p153⟩; subst z153
            refine zS_i (pc' := 157) hF sr19 tb19 (by omega) dX12_votes_5.1.2.1.1 (by decide) rfl (fun h i156 hF a156 b156 w156 => ?_)
            refine zW_iinc (ls' := [_, _, _, _, _, _, _, _]) (pc' := 160) dX12_votes_5.1.2.1.2 rfl (by decide) rfl rfl rfl ?_
            refine zV_goto 55 dX12_votes_5.1.2.2.1 rfl ?_
            refine zV_clr 6 (ls' := [_, _, _, _, _, _, _, _]) rfl ?_
            refine zV_clr 7 (ls' := [_, _, _, _, _, _, _, _]) rfl ?_
            exact k55 _ _ _ hF (by omega) (by omega) (by omega) (by omega)
          · refine zV_goto 157 dX12_votes_2.2.2.2.1 rfl ?_
            refine zW_iinc (ls' := [_, _, _, _, _, _, _, _]) (pc' := 160) dX12_votes_5.1.2.1.2 rfl (by decide) rfl rfl rfl ?_
            refine zV_goto 55 dX12_votes_5.1.2.2.1 rfl ?_
            refine zV_clr 6 (ls' := [_, _, _, _, _, _, _, _]) rfl ?_
            refine zV_clr 7 (ls' := [_, _, _, _, _, _, _, _]) rfl ?_
            exact k55 _ _ _ hF (by omega) (by omega) (by omega) (by omega)
      · intro v4 v5 h hF g0 g1 g2 hm
        refine zW_iload (pc' := 168) dX12_votes_5.2.1.1.2 rfl rfl ?_
        refine zW_sipush (pc' := 171) dX12_votes_5.2.1.2.1 rfl rfl ?_
        refine zV_cm_ge (tgt := 248) (pc' := 174) dX12_votes_5.2.1.2.2 rfl rfl ⟨by omega, by omega⟩ ⟨by omega, by omega⟩ (fun c171 => ?_) (fun c171 => ?_)
        · refine zW_iinc (ls' := [_, _, _, _, _, _, _, _]) (pc' := 251) dX12_votes_8.2.1.1 rfl (by decide) rfl rfl rfl ?_
          refine zV_goto 46 dX12_votes_8.2.1.2 rfl ?_
          refine zV_clr 5 (ls' := [_, _, _, _, _, _, _, _]) rfl ?_
          exact k46 _ _ hF (by omega) (by omega)
        · refine zW_aload_n (pc' := 175) dX12_votes_5.2.2.1.1 rfl rfl ?_
          refine zW_iload (pc' := 177) dX12_votes_5.2.2.1.2 rfl rfl ?_
          refine zW_bipush (pc' := 179) dX12_votes_5.2.2.2.1 rfl rfl ?_
          refine zW_irem (pc' := 180) (by omega) (by omega) dX12_votes_5.2.2.2.2 rfl ?_
          refine zW_iload (pc' := 182) dX12_votes_6.1.1.1.1 rfl rfl ?_
          refine zW_bipush (pc' := 184) dX12_votes_6.1.1.1.2 rfl rfl ?_
          refine zW_idiv (pc' := 185) (by omega) (by omega) dX12_votes_6.1.1.2.1 rfl ?_
          refine cvI2 (pc' := 188) kX12_isSquare vX12_isSquare lk_X12_218 ⟨Nat.le_of_ble_eq_true rfl, Nat.le_of_ble_eq_true rfl⟩ tb0 vq12 rfl rfl (s_X12_isSquare hK hF _ ⟨by omega, by omega⟩ _ ⟨by omega, by omega⟩) dX12_votes_6.1.1.2.2 (Nat.le_of_ble_eq_true rfl) rfl ?_
          rintro r185 z185 ⟨hz185, p185⟩; subst z185
          refine zV_if_ne (tgt := 194) (pc' := 191) dX12_votes_6.1.2.1.1 rfl rfl ⟨by omega, by omega⟩ (fun c188 => ?_) (fun c188 => ?_)
          · refine zW_aload_n (pc' := 195) dX12_votes_6.1.2.2.1 rfl rfl ?_
            refine zG_ref (pc' := 198) 17 fg_X12_60 tb0 rfl dX12_votes_6.1.2.2.2 rfl ?_
            refine zW_sipush (pc' := 201) dX12_votes_6.2.1.1.1 rfl rfl ?_
            refine zW_iload_n (pc' := 202) dX12_votes_6.2.1.1.2 rfl rfl ?_
            refine zW_imul (pc' := 203) dX12_votes_6.2.1.2.1 rfl ?_
            refine zW_iload (pc' := 205) dX12_votes_6.2.1.2.2 rfl rfl ?_
            refine zW_iadd (pc' := 206) dX12_votes_6.2.2.1.1 rfl ?_
            refine zW_aload_n (pc' := 207) dX12_votes_6.2.2.1.2 rfl rfl ?_
            refine zG_ref (pc' := 210) 19 fg_X12_66 tb0 rfl dX12_votes_6.2.2.2.1 rfl ?_
            refine zW_iload (pc' := 212) dX12_votes_6.2.2.2.2 rfl rfl ?_
            refine zV_iald (pc' := 213) tb19 (by omega) dX12_votes_7.1.1.1.1 (by decide) rfl ?_
            refine zS_17 (pc' := 214) hF hJ (by omega) (by omega) dX12_votes_7.1.1.1.2 rfl (fun h i213 hF a213 b213 w213 => ?_)
            refine zW_aload_n (pc' := 215) dX12_votes_7.1.1.2.1 rfl rfl ?_
            refine zG_ref (pc' := 218) 17 fg_X12_60 tb0 rfl dX12_votes_7.1.1.2.2 rfl ?_
            refine zW_sipush (pc' := 221) dX12_votes_7.1.2.1.1 rfl rfl ?_
            refine zW_iload_n (pc' := 222) dX12_votes_7.1.2.1.2 rfl rfl ?_
            refine zW_imul (pc' := 223) dX12_votes_7.1.2.2.1 rfl ?_
            refine zW_sipush (pc' := 226) dX12_votes_7.1.2.2.2 rfl rfl ?_
            refine zW_iadd (pc' := 227) dX12_votes_7.2.1.1.1 rfl ?_
            refine zW_iload (pc' := 229) dX12_votes_7.2.1.1.2 rfl rfl ?_
            refine zW_iadd (pc' := 230) dX12_votes_7.2.1.2.1 rfl ?_
            refine zW_aload_n (pc' := 231) dX12_votes_7.2.1.2.2 rfl rfl ?_
            refine zG_ref (pc' := 234) 19 fg_X12_66 tb0 rfl dX12_votes_7.2.2.1.1 rfl ?_
            refine zW_sipush (pc' := 237) dX12_votes_7.2.2.1.2 rfl rfl ?_
            refine zW_iload (pc' := 239) dX12_votes_7.2.2.2.1 rfl rfl ?_
            refine zW_iadd (pc' := 240) dX12_votes_7.2.2.2.2 rfl ?_
            refine zV_iald (pc' := 241) tb19 (by omega) dX12_votes_8.1.1.1 (by decide) rfl ?_
            refine zS_17 (pc' := 242) hF hJ (by omega) (by omega) dX12_votes_8.1.1.2 rfl (fun h i241 hF a241 b241 w241 => ?_)
            refine zW_iinc (ls' := [_, _, _, _, _, _, _, _]) (pc' := 245) dX12_votes_8.1.2.1 rfl (by decide) rfl rfl rfl ?_
            refine zV_goto 166 dX12_votes_8.1.2.2 rfl ?_
            exact k166 _ _ _ hF (by omega) (by omega) (by omega) (by omega)
          · refine zV_goto 242 dX12_votes_6.1.2.1.2 rfl ?_
            refine zW_iinc (ls' := [_, _, _, _, _, _, _, _]) (pc' := 245) dX12_votes_8.1.2.1 rfl (by decide) rfl rfl rfl ?_
            refine zV_goto 166 dX12_votes_8.1.2.2 rfl ?_
            exact k166 _ _ _ hF (by omega) (by omega) (by omega) (by omega)
  refine zM_of [some (.inr (.inr 0)), some (.inl x1), some (.inl x2), some (.inl x3), none, none, none, none] 4 rfl rfl (Nat.le_of_ble_eq_true rfl) rfl ?_
  refine zW_iconst (pc' := 1) dX12_votes_0.1.1.1.1 rfl ?_
  refine zW_istore (ls' := [_, _, _, _, _, _, _, _]) (pc' := 3) dX12_votes_0.1.1.1.2 (by decide) rfl rfl rfl ?_
  exact (main 10000000000000000000000000000000000000000).1 _ _ hF (by omega) (by omega)

abbrev q_X12_greatest (κ h : Hp) (x1 : Int) (x2 : Int) (x3 : Int) : Int → Hp → Prop := fun r h' => h' = h ∧ (True)
set_option maxHeartbeats 4000000 in
set_option maxRecDepth 20000 in
theorem s_X12_greatest {G : Ga} {b : Bd} {κ h : Hp} (hK : KR κ) (hF : Fr b κ h) (x1 : Int) (hx1 : 0 ≤ x1 ∧ x1 ≤ 14) (x2 : Int) (hx2 : -2 ≤ x2 ∧ x2 ≤ 17 ∧ x2 - κ 0 11 ≤ 1) (x3 : Int) (hx3 : -2 ≤ x3 ∧ x3 ≤ 17 ∧ x3 - κ 0 12 ≤ 1) : zM G mX12_greatest yX12_greatest [.inr (.inr 0), .inl x1, .inl x2, .inl x3] h (q_X12_greatest κ h x1 x2 x3) := by
  have f_0_11 := KRw hK
  have f_0_12 := KRh hK
  refine zM_of [some (.inr (.inr 0)), some (.inl x1), some (.inl x2), some (.inl x3)] 0 rfl rfl (Nat.le_of_ble_eq_true rfl) rfl ?_
  refine zW_aload_n (pc' := 1) dX12_greatest_0.1.1.1.1 rfl rfl ?_
  refine zW_iload_n (pc' := 2) dX12_greatest_0.1.1.1.2 rfl rfl ?_
  refine zW_iconst (pc' := 3) dX12_greatest_0.1.1.2.1 rfl ?_
  refine zW_iload_n (pc' := 4) dX12_greatest_0.1.1.2.2 rfl rfl ?_
  refine zW_iload_n (pc' := 5) dX12_greatest_0.1.2.1.1 rfl rfl ?_
  refine cvI4 (pc' := 8) kX12_at vX12_at lk_X12_277 ⟨Nat.le_of_ble_eq_true rfl, Nat.le_of_ble_eq_true rfl⟩ tb0 vq12 rfl rfl (s_X12_at hK hF _ ⟨by omega, by omega⟩ _ ⟨by omega, by omega⟩ _ ⟨by omega, by omega, by omega⟩ _ ⟨by omega, by omega, by omega⟩) dX12_greatest_0.1.2.1.2 (Nat.le_of_ble_eq_true rfl) rfl ?_
  rintro r5 z5 ⟨hz5, p5⟩; subst z5
  refine zW_aload_n (pc' := 9) dX12_greatest_0.1.2.2.1 rfl rfl ?_
  refine zW_iload_n (pc' := 10) dX12_greatest_0.1.2.2.2 rfl rfl ?_
  refine zW_iconst (pc' := 11) dX12_greatest_0.2.1.1.1 rfl ?_
  refine zW_iload_n (pc' := 12) dX12_greatest_0.2.1.1.2 rfl rfl ?_
  refine zW_iload_n (pc' := 13) dX12_greatest_0.2.1.2.1 rfl rfl ?_
  refine cvI4 (pc' := 16) kX12_at vX12_at lk_X12_277 ⟨Nat.le_of_ble_eq_true rfl, Nat.le_of_ble_eq_true rfl⟩ tb0 vq12 rfl rfl (s_X12_at hK hF _ ⟨by omega, by omega⟩ _ ⟨by omega, by omega⟩ _ ⟨by omega, by omega, by omega⟩ _ ⟨by omega, by omega, by omega⟩) dX12_greatest_0.2.1.2.2 (Nat.le_of_ble_eq_true rfl) rfl ?_
  rintro r13 z13 ⟨hz13, p13⟩; subst z13
  refine zW_aload_n (pc' := 17) dX12_greatest_0.2.2.1.1 rfl rfl ?_
  refine zW_iload_n (pc' := 18) dX12_greatest_0.2.2.1.2 rfl rfl ?_
  refine zW_iconst (pc' := 19) dX12_greatest_0.2.2.2.1 rfl ?_
  refine zW_iload_n (pc' := 20) dX12_greatest_0.2.2.2.2 rfl rfl ?_
  refine zW_iload_n (pc' := 21) dX12_greatest_1.1.1.1 rfl rfl ?_
  refine cvI4 (pc' := 24) kX12_at vX12_at lk_X12_277 ⟨Nat.le_of_ble_eq_true rfl, Nat.le_of_ble_eq_true rfl⟩ tb0 vq12 rfl rfl (s_X12_at hK hF _ ⟨by omega, by omega⟩ _ ⟨by omega, by omega⟩ _ ⟨by omega, by omega, by omega⟩ _ ⟨by omega, by omega, by omega⟩) dX12_greatest_1.1.1.2 (Nat.le_of_ble_eq_true rfl) rfl ?_
  rintro r21 z21 ⟨hz21, p21⟩; subst z21
  refine csI2 (pc' := 27) kX12_max vX12_max lk_X12_113 ⟨Nat.le_of_ble_eq_true rfl, Nat.le_of_ble_eq_true rfl⟩ rfl (s_X12_max hF _ _) dX12_greatest_1.1.2 (Nat.le_of_ble_eq_true rfl) rfl ?_
  rintro r24 z24 ⟨hz24, p24⟩; subst z24
  refine csI2 (pc' := 30) kX12_max vX12_max lk_X12_113 ⟨Nat.le_of_ble_eq_true rfl, Nat.le_of_ble_eq_true rfl⟩ rfl (s_X12_max hF _ _) dX12_greatest_1.2.1 (Nat.le_of_ble_eq_true rfl) rfl ?_
  rintro r27 z27 ⟨hz27, p27⟩; subst z27
  exact zV_iret rfl dX12_greatest_1.2.2 ⟨rfl, trivial⟩

abbrev q_X12_smallest (κ h : Hp) (x1 : Int) (x2 : Int) (x3 : Int) : Int → Hp → Prop := fun r h' => h' = h ∧ (True)
set_option maxHeartbeats 4000000 in
set_option maxRecDepth 20000 in
theorem s_X12_smallest {G : Ga} {b : Bd} {κ h : Hp} (hK : KR κ) (hF : Fr b κ h) (x1 : Int) (hx1 : 0 ≤ x1 ∧ x1 ≤ 14) (x2 : Int) (hx2 : -2 ≤ x2 ∧ x2 ≤ 17 ∧ x2 - κ 0 11 ≤ 1) (x3 : Int) (hx3 : -2 ≤ x3 ∧ x3 ≤ 17 ∧ x3 - κ 0 12 ≤ 1) : zM G mX12_smallest yX12_smallest [.inr (.inr 0), .inl x1, .inl x2, .inl x3] h (q_X12_smallest κ h x1 x2 x3) := by
  have f_0_11 := KRw hK
  have f_0_12 := KRh hK
  refine zM_of [some (.inr (.inr 0)), some (.inl x1), some (.inl x2), some (.inl x3)] 0 rfl rfl (Nat.le_of_ble_eq_true rfl) rfl ?_
  refine zW_aload_n (pc' := 1) dX12_smallest_0.1.1.1.1 rfl rfl ?_
  refine zW_iload_n (pc' := 2) dX12_smallest_0.1.1.1.2 rfl rfl ?_
  refine zW_iconst (pc' := 3) dX12_smallest_0.1.1.2.1 rfl ?_
  refine zW_iload_n (pc' := 4) dX12_smallest_0.1.1.2.2 rfl rfl ?_
  refine zW_iload_n (pc' := 5) dX12_smallest_0.1.2.1.1 rfl rfl ?_
  refine cvI4 (pc' := 8) kX12_at vX12_at lk_X12_277 ⟨Nat.le_of_ble_eq_true rfl, Nat.le_of_ble_eq_true rfl⟩ tb0 vq12 rfl rfl (s_X12_at hK hF _ ⟨by omega, by omega⟩ _ ⟨by omega, by omega⟩ _ ⟨by omega, by omega, by omega⟩ _ ⟨by omega, by omega, by omega⟩) dX12_smallest_0.1.2.1.2 (Nat.le_of_ble_eq_true rfl) rfl ?_
  rintro r5 z5 ⟨hz5, p5⟩; subst z5
  refine zW_aload_n (pc' := 9) dX12_smallest_0.1.2.2.1 rfl rfl ?_
  refine zW_iload_n (pc' := 10) dX12_smallest_0.1.2.2.2 rfl rfl ?_
  refine zW_iconst (pc' := 11) dX12_smallest_0.2.1.1.1 rfl ?_
  refine zW_iload_n (pc' := 12) dX12_smallest_0.2.1.1.2 rfl rfl ?_
  refine zW_iload_n (pc' := 13) dX12_smallest_0.2.1.2.1 rfl rfl ?_
  refine cvI4 (pc' := 16) kX12_at vX12_at lk_X12_277 ⟨Nat.le_of_ble_eq_true rfl, Nat.le_of_ble_eq_true rfl⟩ tb0 vq12 rfl rfl (s_X12_at hK hF _ ⟨by omega, by omega⟩ _ ⟨by omega, by omega⟩ _ ⟨by omega, by omega, by omega⟩ _ ⟨by omega, by omega, by omega⟩) dX12_smallest_0.2.1.2.2 (Nat.le_of_ble_eq_true rfl) rfl ?_
  rintro r13 z13 ⟨hz13, p13⟩; subst z13
  refine zW_aload_n (pc' := 17) dX12_smallest_0.2.2.1.1 rfl rfl ?_
  refine zW_iload_n (pc' := 18) dX12_smallest_0.2.2.1.2 rfl rfl ?_
  refine zW_iconst (pc' := 19) dX12_smallest_0.2.2.2.1 rfl ?_
  refine zW_iload_n (pc' := 20) dX12_smallest_0.2.2.2.2 rfl rfl ?_
  refine zW_iload_n (pc' := 21) dX12_smallest_1.1.1.1 rfl rfl ?_
  refine cvI4 (pc' := 24) kX12_at vX12_at lk_X12_277 ⟨Nat.le_of_ble_eq_true rfl, Nat.le_of_ble_eq_true rfl⟩ tb0 vq12 rfl rfl (s_X12_at hK hF _ ⟨by omega, by omega⟩ _ ⟨by omega, by omega⟩ _ ⟨by omega, by omega, by omega⟩ _ ⟨by omega, by omega, by omega⟩) dX12_smallest_1.1.1.2 (Nat.le_of_ble_eq_true rfl) rfl ?_
  rintro r21 z21 ⟨hz21, p21⟩; subst z21
  refine csI2 (pc' := 27) kX12_min vX12_min lk_X12_109 ⟨Nat.le_of_ble_eq_true rfl, Nat.le_of_ble_eq_true rfl⟩ rfl (s_X12_min hF _ _) dX12_smallest_1.1.2 (Nat.le_of_ble_eq_true rfl) rfl ?_
  rintro r24 z24 ⟨hz24, p24⟩; subst z24
  refine csI2 (pc' := 30) kX12_min vX12_min lk_X12_109 ⟨Nat.le_of_ble_eq_true rfl, Nat.le_of_ble_eq_true rfl⟩ rfl (s_X12_min hF _ _) dX12_smallest_1.2.1 (Nat.le_of_ble_eq_true rfl) rfl ?_
  rintro r27 z27 ⟨hz27, p27⟩; subst z27
  exact zV_iret rfl dX12_smallest_1.2.2 ⟨rfl, trivial⟩

abbrev q_X12_blurAt (κ h : Hp) (x1 : Int) (x2 : Int) (x3 : Int) (x4 : Int) : Int → Hp → Prop := fun r h' => h' = h ∧ (True)
set_option maxHeartbeats 4000000 in
set_option maxRecDepth 20000 in
theorem s_X12_blurAt {G : Ga} {b : Bd} {κ h : Hp} (hK : KR κ) (hF : Fr b κ h) (x1 : Int) (hx1 : 0 ≤ x1 ∧ x1 ≤ 14) (x2 : Int) (hx2 : 0 ≤ x2 ∧ x2 ≤ 2) (x3 : Int) (hx3 : 0 ≤ x3 ∧ x3 ≤ 15 ∧ x3 - κ 0 11 ≤ -1) (x4 : Int) (hx4 : 0 ≤ x4 ∧ x4 ≤ 15 ∧ x4 - κ 0 12 ≤ -1) : zM G mX12_blurAt yX12_blurAt [.inr (.inr 0), .inl x1, .inl x2, .inl x3, .inl x4] h (q_X12_blurAt κ h x1 x2 x3 x4) := by
  have f_0_11 := KRw hK
  have f_0_12 := KRh hK
  have main : ∀ N : Nat, (∀ (v5 v6 : Int) , (-1 ≤ v6 ∧ v6 ≤ 2) → 1312000 + 6560 * (2 - v6) + 6400 < (N : Int) → zV G mX12_blurAt (q_X12_blurAt κ h x1 x2 x3 x4) 6 [some (.inr (.inr 0)), some (.inl x1), some (.inl x2), some (.inl x3), some (.inl x4), some (.inl v5), some (.inl v6), none] [] h) ∧ (∀ (v5 v6 v7 : Int) , (-1 ≤ v6 ∧ v6 ≤ 1) → (-1 ≤ v7 ∧ v7 ≤ 2) → 1312000 + 6560 * (2 - v6) + 4960 + 32 * (2 - v7) + 31 < (N : Int) → zV G mX12_blurAt (q_X12_blurAt κ h x1 x2 x3 x4) 15 [some (.inr (.inr 0)), some (.inl x1), some (.inl x2), some (.inl x3), some (.inl x4), some (.inl v5), some (.inl v6), some (.inl v7)] [] h) := by
    intro N
    induction N with
    | zero =>
      refine ⟨?_, ?_⟩
      · intro v5 v6 g0 hm
        exfalso; omega
      · intro v5 v6 v7 g0 g1 hm
        exfalso; omega
    | succ N ih =>
      obtain ⟨k6, k15⟩ := ih
      refine ⟨?_, ?_⟩
      · intro v5 v6 g0 hm
        refine zW_iload (pc' := 8) dX12_blurAt_0.1.2.1.1 rfl rfl ?_
        refine zW_iconst (pc' := 9) dX12_blurAt_0.1.2.1.2 rfl ?_
        refine zV_cm_ge (tgt := 69) (pc' := 12) dX12_blurAt_0.1.2.2.1 rfl rfl ⟨by omega, by omega⟩ ⟨by omega, by omega⟩ (fun c9 => ?_) (fun c9 => ?_)
        · refine zW_iload (pc' := 71) dX12_blurAt_2.2.1.1.2 rfl rfl ?_
          refine zW_bipush (pc' := 73) dX12_blurAt_2.2.1.2 rfl rfl ?_
          refine zW_idivQ (pc' := 74) ⟨by omega, by omega⟩ (by omega) dX12_blurAt_2.2.2.1 rfl (fun v73 e73 => ?_)
          unfold rng at e73
          exact zV_iret rfl dX12_blurAt_2.2.2.2 ⟨rfl, trivial⟩
        · refine zW_iconst (pc' := 13) dX12_blurAt_0.1.2.2.2 rfl ?_
          refine zW_istore (ls' := [_, _, _, _, _, _, _, _]) (pc' := 15) dX12_blurAt_0.2.1.1.1 (by decide) rfl rfl rfl ?_
          exact k15 _ _ _ (by omega) (by omega) (by omega)
      · intro v5 v6 v7 g0 g1 hm
        refine zW_iload (pc' := 17) dX12_blurAt_0.2.1.1.2 rfl rfl ?_
        refine zW_iconst (pc' := 18) dX12_blurAt_0.2.1.2.1 rfl ?_
        refine zV_cm_ge (tgt := 63) (pc' := 21) dX12_blurAt_0.2.1.2.2 rfl rfl ⟨by omega, by omega⟩ ⟨by omega, by omega⟩ (fun c18 => ?_) (fun c18 => ?_)
        · refine zW_iinc (ls' := [_, _, _, _, _, _, _, _]) (pc' := 66) dX12_blurAt_2.1.2.2 rfl (by decide) rfl rfl rfl ?_
          refine zV_goto 6 dX12_blurAt_2.2.1.1.1 rfl ?_
          refine zV_clr 7 (ls' := [_, _, _, _, _, _, _, _]) rfl ?_
          exact k6 _ _ (by omega) (by omega)
        · refine zW_iload (pc' := 23) dX12_blurAt_0.2.2.1.1 rfl rfl ?_
          refine zW_iconst (pc' := 24) dX12_blurAt_0.2.2.1.2 rfl ?_
          refine zW_iload (pc' := 26) dX12_blurAt_0.2.2.2.1 rfl rfl ?_
          refine csI1 (pc' := 29) kX12_size vX12_size lk_X12_257 ⟨Nat.le_of_ble_eq_true rfl, Nat.le_of_ble_eq_true rfl⟩ rfl (s_X12_sizeR hF _ ⟨by omega, by omega⟩) dX12_blurAt_0.2.2.2.2 (Nat.le_of_ble_eq_true rfl) rfl ?_
          rintro r26 z26 ⟨hz26, p26⟩; subst z26
          refine zW_isub (pc' := 30) dX12_blurAt_1.1.1.1.1 rfl ?_
          refine zW_iconst (pc' := 31) dX12_blurAt_1.1.1.1.2 rfl ?_
          refine zW_iload (pc' := 33) dX12_blurAt_1.1.1.2.1 rfl rfl ?_
          refine csI1 (pc' := 36) kX12_size vX12_size lk_X12_257 ⟨Nat.le_of_ble_eq_true rfl, Nat.le_of_ble_eq_true rfl⟩ rfl (s_X12_sizeR hF _ ⟨by omega, by omega⟩) dX12_blurAt_1.1.1.2.2 (Nat.le_of_ble_eq_true rfl) rfl ?_
          rintro r33 z33 ⟨hz33, p33⟩; subst z33
          refine zW_isub (pc' := 37) dX12_blurAt_1.1.2.1.1 rfl ?_
          refine zW_imul (pc' := 38) dX12_blurAt_1.1.2.1.2 rfl ?_
          refine zW_aload_n (pc' := 39) dX12_blurAt_1.1.2.2.1 rfl rfl ?_
          refine zW_iload_n (pc' := 40) dX12_blurAt_1.1.2.2.2 rfl rfl ?_
          refine zW_iload_n (pc' := 41) dX12_blurAt_1.2.1.1.1 rfl rfl ?_
          refine zW_iload_n (pc' := 42) dX12_blurAt_1.2.1.1.2 rfl rfl ?_
          refine zW_iload (pc' := 44) dX12_blurAt_1.2.1.2.1 rfl rfl ?_
          refine zW_iadd (pc' := 45) dX12_blurAt_1.2.1.2.2 rfl ?_
          refine zW_iload (pc' := 47) dX12_blurAt_1.2.2.1.1 rfl rfl ?_
          refine zW_iload (pc' := 49) dX12_blurAt_1.2.2.1.2 rfl rfl ?_
          refine zW_iadd (pc' := 50) dX12_blurAt_1.2.2.2.1 rfl ?_
          refine cvI4 (pc' := 53) kX12_at vX12_at lk_X12_277 ⟨Nat.le_of_ble_eq_true rfl, Nat.le_of_ble_eq_true rfl⟩ tb0 vq12 rfl rfl (s_X12_at hK hF _ ⟨by omega, by omega⟩ _ ⟨by omega, by omega⟩ _ ⟨by omega, by omega, by omega⟩ _ ⟨by omega, by omega, by omega⟩) dX12_blurAt_1.2.2.2.2 (Nat.le_of_ble_eq_true rfl) rfl ?_
          rintro r50 z50 ⟨hz50, p50⟩; subst z50
          refine zW_imul (pc' := 54) dX12_blurAt_2.1.1.1.1 rfl ?_
          refine zW_iadd (pc' := 55) dX12_blurAt_2.1.1.1.2 rfl ?_
          refine zW_istore (ls' := [_, _, _, _, _, _, _, _]) (pc' := 57) dX12_blurAt_2.1.1.2 (by decide) rfl rfl rfl ?_
          refine zW_iinc (ls' := [_, _, _, _, _, _, _, _]) (pc' := 60) dX12_blurAt_2.1.2.1.1 rfl (by decide) rfl rfl rfl ?_
          refine zV_goto 15 dX12_blurAt_2.1.2.1.2 rfl ?_
          exact k15 _ _ _ (by omega) (by omega) (by omega)
  refine zM_of [some (.inr (.inr 0)), some (.inl x1), some (.inl x2), some (.inl x3), some (.inl x4), none, none, none] 3 rfl rfl (Nat.le_of_ble_eq_true rfl) rfl ?_
  refine zW_iconst (pc' := 1) dX12_blurAt_0.1.1.1.1 rfl ?_
  refine zW_istore (ls' := [_, _, _, _, _, _, _, _]) (pc' := 3) dX12_blurAt_0.1.1.1.2 (by decide) rfl rfl rfl ?_
  refine zW_iconst (pc' := 4) dX12_blurAt_0.1.1.2.1 rfl ?_
  refine zW_istore (ls' := [_, _, _, _, _, _, _, _]) (pc' := 6) dX12_blurAt_0.1.1.2.2 (by decide) rfl rfl rfl ?_
  exact (main 10000000000000000000000000000000000000000).1 _ _ (by omega) (by omega)

abbrev q_X12_calmed (κ h : Hp) (x1 : Int) (x2 : Int) (x3 : Int) (x4 : Int) (x5 : Int) (x6 : Int) : Int → Hp → Prop := fun r h' => h' = h ∧ (True)
set_option maxHeartbeats 4000000 in
set_option maxRecDepth 20000 in
theorem s_X12_calmed {G : Ga} {b : Bd} {κ h : Hp} (hK : KR κ) (hF : Fr b κ h) (x1 : Int) (hx1 : 0 ≤ x1 ∧ x1 ≤ 14) (x2 : Int) (hx2 : 0 ≤ x2 ∧ x2 ≤ 2) (x3 : Int) (hx3 : 0 ≤ x3 ∧ x3 ≤ 15 ∧ x3 - κ 0 11 ≤ -1) (x4 : Int) (hx4 : 0 ≤ x4 ∧ x4 ≤ 15 ∧ x4 - κ 0 12 ≤ -1) (x5 : Int) (x6 : Int) : zM G mX12_calmed yX12_calmed [.inr (.inr 0), .inl x1, .inl x2, .inl x3, .inl x4, .inl x5, .inl x6] h (q_X12_calmed κ h x1 x2 x3 x4 x5 x6) := by
  have f_0_11 := KRw hK
  have f_0_12 := KRh hK
  refine zM_of [some (.inr (.inr 0)), some (.inl x1), some (.inl x2), some (.inl x3), some (.inl x4), some (.inl x5), some (.inl x6), none, none, none] 3 rfl rfl (Nat.le_of_ble_eq_true rfl) rfl ?_
  refine zW_aload_n (pc' := 1) dX12_calmed_0.1.1.1.1 rfl rfl ?_
  refine zW_iload_n (pc' := 2) dX12_calmed_0.1.1.1.2 rfl rfl ?_
  refine zW_iload_n (pc' := 3) dX12_calmed_0.1.1.2.1 rfl rfl ?_
  refine zW_iload_n (pc' := 4) dX12_calmed_0.1.1.2.2 rfl rfl ?_
  refine zW_iload (pc' := 6) dX12_calmed_0.1.2.1.1 rfl rfl ?_
  refine cvI4 (pc' := 9) kX12_blurAt vX12_blurAt lk_X12_319 ⟨Nat.le_of_ble_eq_true rfl, Nat.le_of_ble_eq_true rfl⟩ tb0 vq12 rfl rfl (s_X12_blurAt hK hF _ ⟨by omega, by omega⟩ _ ⟨by omega, by omega⟩ _ ⟨by omega, by omega, by omega⟩ _ ⟨by omega, by omega, by omega⟩) dX12_calmed_0.1.2.1.2 (Nat.le_of_ble_eq_true rfl) rfl ?_
  rintro r6 z6 ⟨hz6, p6⟩; subst z6
  refine zW_istore (ls' := [_, _, _, _, _, _, _, _, _, _]) (pc' := 11) dX12_calmed_0.1.2.2.1 (by decide) rfl rfl rfl ?_
  refine zW_aload_n (pc' := 12) dX12_calmed_0.1.2.2.2 rfl rfl ?_
  refine zW_iload_n (pc' := 13) dX12_calmed_0.2.1.1.1 rfl rfl ?_
  refine zW_iload_n (pc' := 14) dX12_calmed_0.2.1.1.2 rfl rfl ?_
  refine zW_iload_n (pc' := 15) dX12_calmed_0.2.1.2.1 rfl rfl ?_
  refine zW_iload (pc' := 17) dX12_calmed_0.2.1.2.2 rfl rfl ?_
  refine cvI4 (pc' := 20) kX12_at vX12_at lk_X12_277 ⟨Nat.le_of_ble_eq_true rfl, Nat.le_of_ble_eq_true rfl⟩ tb0 vq12 rfl rfl (s_X12_at hK hF _ ⟨by omega, by omega⟩ _ ⟨by omega, by omega⟩ _ ⟨by omega, by omega, by omega⟩ _ ⟨by omega, by omega, by omega⟩) dX12_calmed_0.2.2.1.1 (Nat.le_of_ble_eq_true rfl) rfl ?_
  rintro r17 z17 ⟨hz17, p17⟩; subst z17
  refine zW_iload (pc' := 22) dX12_calmed_0.2.2.1.2 rfl rfl ?_
  refine zW_isub (pc' := 23) dX12_calmed_0.2.2.2.1 rfl ?_
  refine zW_istore (ls' := [_, _, _, _, _, _, _, _, _, _]) (pc' := 25) dX12_calmed_0.2.2.2.2 (by decide) rfl rfl rfl ?_
  refine zW_bipush (pc' := 27) dX12_calmed_1.1.1.1.1 rfl rfl ?_
  refine zW_iload (pc' := 29) dX12_calmed_1.1.1.1.2 rfl rfl ?_
  refine zW_imul (pc' := 30) dX12_calmed_1.1.1.2.1 rfl ?_
  refine zW_iload (pc' := 32) dX12_calmed_1.1.1.2.2 rfl rfl ?_
  refine zW_iload (pc' := 34) dX12_calmed_1.1.2.1.1 rfl rfl ?_
  refine zW_imul (pc' := 35) dX12_calmed_1.1.2.1.2 rfl ?_
  refine zW_bipush (pc' := 37) dX12_calmed_1.1.2.2.1 rfl rfl ?_
  refine zW_idivQ (pc' := 38) ⟨by omega, by omega⟩ (by omega) dX12_calmed_1.1.2.2.2 rfl (fun v37 e37 => ?_)
  unfold rng at e37
  refine zW_iadd (pc' := 39) dX12_calmed_1.2.1.1.1 rfl ?_
  refine zW_istore (ls' := [_, _, _, _, _, _, _, _, _, _]) (pc' := 41) dX12_calmed_1.2.1.1.2 (by decide) rfl rfl rfl ?_
  refine zW_iload (pc' := 43) dX12_calmed_1.2.1.2.1 rfl rfl ?_
  refine csI1 (pc' := 46) kX12_size vX12_size lk_X12_257 ⟨Nat.le_of_ble_eq_true rfl, Nat.le_of_ble_eq_true rfl⟩ rfl (s_X12_size hF _) dX12_calmed_1.2.1.2.2 (Nat.le_of_ble_eq_true rfl) rfl ?_
  rintro r43 z43 ⟨hz43, p43⟩; subst z43
  refine zW_iload (pc' := 48) dX12_calmed_1.2.2.1.1 rfl rfl ?_
  refine zV_cmQ_gt (tgt := 54) (pc' := 51) dX12_calmed_1.2.2.1.2 rfl rfl ?_ ?_
  · refine zW_iload (pc' := 56) dX12_calmed_2.1.1.1.1 rfl rfl ?_
    refine zW_iload (pc' := 58) dX12_calmed_2.1.1.1.2 rfl rfl ?_
    refine zV_ifQ_le (tgt := 69) (pc' := 61) dX12_calmed_2.1.1.2 rfl rfl ?_ ?_
    · refine zW_iload (pc' := 71) dX12_calmed_2.2.1.1.2 rfl rfl ?_
      refine zW_iload (pc' := 73) dX12_calmed_2.2.1.2 rfl rfl ?_
      refine zW_iadd (pc' := 74) dX12_calmed_2.2.2.1.1 rfl ?_
      refine zW_iadd (pc' := 75) dX12_calmed_2.2.2.1.2 rfl ?_
      exact zV_iret rfl dX12_calmed_2.2.2.2 ⟨rfl, trivial⟩
    · refine zW_iload (pc' := 63) dX12_calmed_2.1.2.1.1 rfl rfl ?_
      refine zW_iload (pc' := 65) dX12_calmed_2.1.2.1.2 rfl rfl ?_
      refine zW_isub (pc' := 66) dX12_calmed_2.1.2.2 rfl ?_
      refine zV_goto 74 dX12_calmed_2.2.1.1.1 rfl ?_
      refine zW_iadd (pc' := 75) dX12_calmed_2.2.2.1.2 rfl ?_
      exact zV_iret rfl dX12_calmed_2.2.2.2 ⟨rfl, trivial⟩
  · refine zW_iload (pc' := 53) dX12_calmed_1.2.2.2.1 rfl rfl ?_
    exact zV_iret rfl dX12_calmed_1.2.2.2.2 ⟨rfl, trivial⟩

abbrev q_X12_sharpened (κ h : Hp) (x1 : Int) (x2 : Int) (x3 : Int) (x4 : Int) (x5 : Int) (x6 : Int) : Int → Hp → Prop := fun r h' => h' = h ∧ (True)
set_option maxHeartbeats 4000000 in
set_option maxRecDepth 20000 in
theorem s_X12_sharpened {G : Ga} {b : Bd} {κ h : Hp} (hK : KR κ) (hF : Fr b κ h) (x1 : Int) (hx1 : 0 ≤ x1 ∧ x1 ≤ 14) (x2 : Int) (hx2 : 0 ≤ x2 ∧ x2 ≤ 2) (x3 : Int) (hx3 : 0 ≤ x3 ∧ x3 ≤ 15 ∧ x3 - κ 0 11 ≤ -1) (x4 : Int) (hx4 : 0 ≤ x4 ∧ x4 ≤ 15 ∧ x4 - κ 0 12 ≤ -1) (x5 : Int) (x6 : Int) : zM G mX12_sharpened yX12_sharpened [.inr (.inr 0), .inl x1, .inl x2, .inl x3, .inl x4, .inl x5, .inl x6] h (q_X12_sharpened κ h x1 x2 x3 x4 x5 x6) := by
  have f_0_11 := KRw hK
  have f_0_12 := KRh hK
  refine zM_of [some (.inr (.inr 0)), some (.inl x1), some (.inl x2), some (.inl x3), some (.inl x4), some (.inl x5), some (.inl x6), none] 1 rfl rfl (Nat.le_of_ble_eq_true rfl) rfl ?_
  refine zW_aload_n (pc' := 1) dX12_sharpened_0.1.1.1.1 rfl rfl ?_
  refine zW_iload_n (pc' := 2) dX12_sharpened_0.1.1.1.2 rfl rfl ?_
  refine zW_iload_n (pc' := 3) dX12_sharpened_0.1.1.2.1 rfl rfl ?_
  refine zW_iload_n (pc' := 4) dX12_sharpened_0.1.1.2.2 rfl rfl ?_
  refine zW_iload (pc' := 6) dX12_sharpened_0.1.2.1.1 rfl rfl ?_
  refine cvI4 (pc' := 9) kX12_at vX12_at lk_X12_277 ⟨Nat.le_of_ble_eq_true rfl, Nat.le_of_ble_eq_true rfl⟩ tb0 vq12 rfl rfl (s_X12_at hK hF _ ⟨by omega, by omega⟩ _ ⟨by omega, by omega⟩ _ ⟨by omega, by omega, by omega⟩ _ ⟨by omega, by omega, by omega⟩) dX12_sharpened_0.1.2.1.2 (Nat.le_of_ble_eq_true rfl) rfl ?_
  rintro r6 z6 ⟨hz6, p6⟩; subst z6
  refine zW_aload_n (pc' := 10) dX12_sharpened_0.1.2.2.1 rfl rfl ?_
  refine zW_iload_n (pc' := 11) dX12_sharpened_0.1.2.2.2 rfl rfl ?_
  refine zW_iload_n (pc' := 12) dX12_sharpened_0.2.1.1.1 rfl rfl ?_
  refine zW_iload_n (pc' := 13) dX12_sharpened_0.2.1.1.2 rfl rfl ?_
  refine zW_iload (pc' := 15) dX12_sharpened_0.2.1.2.1 rfl rfl ?_
  refine cvI4 (pc' := 18) kX12_blurAt vX12_blurAt lk_X12_319 ⟨Nat.le_of_ble_eq_true rfl, Nat.le_of_ble_eq_true rfl⟩ tb0 vq12 rfl rfl (s_X12_blurAt hK hF _ ⟨by omega, by omega⟩ _ ⟨by omega, by omega⟩ _ ⟨by omega, by omega, by omega⟩ _ ⟨by omega, by omega, by omega⟩) dX12_sharpened_0.2.1.2.2 (Nat.le_of_ble_eq_true rfl) rfl ?_
  rintro r15 z15 ⟨hz15, p15⟩; subst z15
  refine zW_isub (pc' := 19) dX12_sharpened_0.2.2.1.1 rfl ?_
  refine zW_iload (pc' := 21) dX12_sharpened_0.2.2.1.2 rfl rfl ?_
  refine zW_imul (pc' := 22) dX12_sharpened_0.2.2.2.1 rfl ?_
  refine zW_bipush (pc' := 24) dX12_sharpened_0.2.2.2.2 rfl rfl ?_
  refine zW_idivQ (pc' := 25) ⟨by omega, by omega⟩ (by omega) dX12_sharpened_1.1.1.1.1 rfl (fun v24 e24 => ?_)
  unfold rng at e24
  refine zW_istore (ls' := [_, _, _, _, _, _, _, _]) (pc' := 27) dX12_sharpened_1.1.1.1.2 (by decide) rfl rfl rfl ?_
  refine zW_aload_n (pc' := 28) dX12_sharpened_1.1.1.2.1 rfl rfl ?_
  refine zW_iload_n (pc' := 29) dX12_sharpened_1.1.1.2.2 rfl rfl ?_
  refine zW_iload_n (pc' := 30) dX12_sharpened_1.1.2.1.1 rfl rfl ?_
  refine zW_iload_n (pc' := 31) dX12_sharpened_1.1.2.1.2 rfl rfl ?_
  refine zW_iload (pc' := 33) dX12_sharpened_1.1.2.2.1 rfl rfl ?_
  refine cvI4 (pc' := 36) kX12_at vX12_at lk_X12_277 ⟨Nat.le_of_ble_eq_true rfl, Nat.le_of_ble_eq_true rfl⟩ tb0 vq12 rfl rfl (s_X12_at hK hF _ ⟨by omega, by omega⟩ _ ⟨by omega, by omega⟩ _ ⟨by omega, by omega, by omega⟩ _ ⟨by omega, by omega, by omega⟩) dX12_sharpened_1.1.2.2.2 (Nat.le_of_ble_eq_true rfl) rfl ?_
  rintro r33 z33 ⟨hz33, p33⟩; subst z33
  refine zW_bipush (pc' := 38) dX12_sharpened_1.2.1.1.1 rfl rfl ?_
  refine zW_iload (pc' := 40) dX12_sharpened_1.2.1.1.2 rfl rfl ?_
  refine zW_imul (pc' := 41) dX12_sharpened_1.2.1.2.1 rfl ?_
  refine zW_bipush (pc' := 43) dX12_sharpened_1.2.1.2.2 rfl rfl ?_
  refine zW_iload (pc' := 45) dX12_sharpened_1.2.2.1.1 rfl rfl ?_
  refine zW_imul (pc' := 46) dX12_sharpened_1.2.2.1.2 rfl ?_
  refine zW_iload (pc' := 48) dX12_sharpened_1.2.2.2.1 rfl rfl ?_
  refine csI2 (pc' := 51) kX12_min vX12_min lk_X12_109 ⟨Nat.le_of_ble_eq_true rfl, Nat.le_of_ble_eq_true rfl⟩ rfl (s_X12_min hF _ _) dX12_sharpened_1.2.2.2.2 (Nat.le_of_ble_eq_true rfl) rfl ?_
  rintro r48 z48 ⟨hz48, p48⟩; subst z48
  refine csI2 (pc' := 54) kX12_max vX12_max lk_X12_113 ⟨Nat.le_of_ble_eq_true rfl, Nat.le_of_ble_eq_true rfl⟩ rfl (s_X12_max hF _ _) dX12_sharpened_2.1.1 (Nat.le_of_ble_eq_true rfl) rfl ?_
  rintro r51 z51 ⟨hz51, p51⟩; subst z51
  refine zW_iadd (pc' := 55) dX12_sharpened_2.1.2 rfl ?_
  exact zV_iret rfl dX12_sharpened_2.2 ⟨rfl, trivial⟩

abbrev q_X12_paled (κ h : Hp) (x1 : Int) (x2 : Int) (x3 : Int) (x4 : Int) (x5 : Int) : Int → Hp → Prop := fun r h' => h' = h ∧ (True)
set_option maxHeartbeats 4000000 in
set_option maxRecDepth 20000 in
theorem s_X12_paled {G : Ga} {b : Bd} {κ h : Hp} (hK : KR κ) (hF : Fr b κ h) (x1 : Int) (hx1 : 0 ≤ x1 ∧ x1 ≤ 14) (x2 : Int) (hx2 : 0 ≤ x2 ∧ x2 ≤ 2) (x3 : Int) (hx3 : 0 ≤ x3 ∧ x3 ≤ 15 ∧ x3 - κ 0 11 ≤ -1) (x4 : Int) (hx4 : 0 ≤ x4 ∧ x4 ≤ 15 ∧ x4 - κ 0 12 ≤ -1) (x5 : Int) (hx5 : 0 ≤ x5 ∧ x5 ≤ 255) : zM G mX12_paled yX12_paled [.inr (.inr 0), .inl x1, .inl x2, .inl x3, .inl x4, .inl x5] h (q_X12_paled κ h x1 x2 x3 x4 x5) := by
  have f_0_11 := KRw hK
  have f_0_12 := KRh hK
  refine zM_of [some (.inr (.inr 0)), some (.inl x1), some (.inl x2), some (.inl x3), some (.inl x4), some (.inl x5), none, none] 2 rfl rfl (Nat.le_of_ble_eq_true rfl) rfl ?_
  refine zW_aload_n (pc' := 1) dX12_paled_0.1.1.1.1 rfl rfl ?_
  refine zW_iload_n (pc' := 2) dX12_paled_0.1.1.1.2 rfl rfl ?_
  refine zW_iload_n (pc' := 3) dX12_paled_0.1.1.2.1 rfl rfl ?_
  refine zW_iload (pc' := 5) dX12_paled_0.1.1.2.2 rfl rfl ?_
  refine cvI3 (pc' := 8) kX12_greatest vX12_greatest lk_X12_295 ⟨Nat.le_of_ble_eq_true rfl, Nat.le_of_ble_eq_true rfl⟩ tb0 vq12 rfl rfl (s_X12_greatest hK hF _ ⟨by omega, by omega⟩ _ ⟨by omega, by omega, by omega⟩ _ ⟨by omega, by omega, by omega⟩) dX12_paled_0.1.2.1.1 (Nat.le_of_ble_eq_true rfl) rfl ?_
  rintro r5 z5 ⟨hz5, p5⟩; subst z5
  refine zW_istore (ls' := [_, _, _, _, _, _, _, _]) (pc' := 10) dX12_paled_0.1.2.1.2 (by decide) rfl rfl rfl ?_
  refine zW_aload_n (pc' := 11) dX12_paled_0.1.2.2.1 rfl rfl ?_
  refine zW_iload_n (pc' := 12) dX12_paled_0.1.2.2.2 rfl rfl ?_
  refine zW_iload_n (pc' := 13) dX12_paled_0.2.1.1.1 rfl rfl ?_
  refine zW_iload_n (pc' := 14) dX12_paled_0.2.1.1.2 rfl rfl ?_
  refine zW_iload (pc' := 16) dX12_paled_0.2.1.2.1 rfl rfl ?_
  refine cvI4 (pc' := 19) kX12_at vX12_at lk_X12_277 ⟨Nat.le_of_ble_eq_true rfl, Nat.le_of_ble_eq_true rfl⟩ tb0 vq12 rfl rfl (s_X12_at hK hF _ ⟨by omega, by omega⟩ _ ⟨by omega, by omega⟩ _ ⟨by omega, by omega, by omega⟩ _ ⟨by omega, by omega, by omega⟩) dX12_paled_0.2.1.2.2 (Nat.le_of_ble_eq_true rfl) rfl ?_
  rintro r16 z16 ⟨hz16, p16⟩; subst z16
  refine zW_istore (ls' := [_, _, _, _, _, _, _, _]) (pc' := 21) dX12_paled_0.2.2.1.1 (by decide) rfl rfl rfl ?_
  refine zW_iload (pc' := 23) dX12_paled_0.2.2.1.2 rfl rfl ?_
  refine zW_bipush (pc' := 25) dX12_paled_0.2.2.2.1 rfl rfl ?_
  refine zW_iload (pc' := 27) dX12_paled_0.2.2.2.2 rfl rfl ?_
  refine zW_imul (pc' := 28) dX12_paled_1.1.1.1.1 rfl ?_
  refine zV_cmQ_gt (tgt := 36) (pc' := 31) dX12_paled_1.1.1.1.2 rfl rfl ?_ ?_
  · refine zW_iload (pc' := 38) dX12_paled_1.1.2.1.1 rfl rfl ?_
    refine zW_iload (pc' := 40) dX12_paled_1.1.2.1.2 rfl rfl ?_
    refine zW_iload (pc' := 42) dX12_paled_1.1.2.2.1 rfl rfl ?_
    refine zW_isub (pc' := 43) dX12_paled_1.1.2.2.2 rfl ?_
    refine zW_iload (pc' := 45) dX12_paled_1.2.1.1.1 rfl rfl ?_
    refine zW_bipush (pc' := 47) dX12_paled_1.2.1.1.2 rfl rfl ?_
    refine zW_iload (pc' := 49) dX12_paled_1.2.1.2.1 rfl rfl ?_
    refine zW_imul (pc' := 50) dX12_paled_1.2.1.2.2 rfl ?_
    refine zW_isub (pc' := 51) dX12_paled_1.2.2.1.1 rfl ?_
    refine zW_imul (pc' := 52) dX12_paled_1.2.2.1.2 rfl ?_
    refine zW_sipush (pc' := 55) dX12_paled_1.2.2.2.1 rfl rfl ?_
    refine zW_bipush (pc' := 57) dX12_paled_1.2.2.2.2 rfl rfl ?_
    refine zW_iload (pc' := 59) dX12_paled_2.1.1.1 rfl rfl ?_
    refine zW_imul (pc' := 60) dX12_paled_2.1.1.2 rfl ?_
    refine zW_isub (pc' := 61) dX12_paled_2.1.2 rfl ?_
    refine zW_idivQ (pc' := 62) ⟨by omega, by omega⟩ (by omega) dX12_paled_2.2.1.1 rfl (fun v61 e61 => ?_)
    unfold rng at e61
    refine zW_iadd (pc' := 63) dX12_paled_2.2.1.2 rfl ?_
    exact zV_iret rfl dX12_paled_2.2.2 ⟨rfl, trivial⟩
  · refine zW_iload (pc' := 33) dX12_paled_1.1.1.2.1 rfl rfl ?_
    refine zV_goto 63 dX12_paled_1.1.1.2.2 rfl ?_
    exact zV_iret rfl dX12_paled_2.2.2 ⟨rfl, trivial⟩

abbrev q_X12_gained (κ h : Hp) (x1 : Int) (x2 : Int) : Int → Hp → Prop := fun r h' => h' = h ∧ (True)
set_option maxHeartbeats 4000000 in
set_option maxRecDepth 20000 in
theorem s_X12_gained {G : Ga} {b : Bd} {κ h : Hp} (hK : KR κ) (hF : Fr b κ h) (x1 : Int) (x2 : Int) : zM G mX12_gained yX12_gained [.inr (.inr 0), .inl x1, .inl x2] h (q_X12_gained κ h x1 x2) := by
  refine zM_of [some (.inr (.inr 0)), some (.inl x1), some (.inl x2)] 0 rfl rfl (Nat.le_of_ble_eq_true rfl) rfl ?_
  refine zW_iload_n (pc' := 1) dX12_gained_0.1.1.1.1 rfl rfl ?_
  refine zW_iconst (pc' := 2) dX12_gained_0.1.1.1.2 rfl ?_
  refine zV_cmQ_ne (tgt := 9) (pc' := 5) dX12_gained_0.1.1.2.1 rfl rfl ?_ ?_
  · refine zW_iload_n (pc' := 10) dX12_gained_0.1.2.1.2 rfl rfl ?_
    refine zW_iload_n (pc' := 11) dX12_gained_0.1.2.2.1 rfl rfl ?_
    refine zV_ifQ_ne (tgt := 21) (pc' := 14) dX12_gained_0.1.2.2.2 rfl rfl ?_ ?_
    · refine zW_aload_n (pc' := 22) dX12_gained_0.2.1.2.2 rfl rfl ?_
      refine zG_int (pc' := 25) fg_X12_304 tb0 rfl dX12_gained_0.2.2.1.1 rfl ?_
      refine zW_imul (pc' := 26) dX12_gained_0.2.2.1.2 rfl ?_
      refine zW_sipush (pc' := 29) dX12_gained_0.2.2.2.1 rfl rfl ?_
      refine zW_idivQ (pc' := 30) ⟨by omega, by omega⟩ (by omega) dX12_gained_0.2.2.2.2 rfl (fun v29 e29 => ?_)
      unfold rng at e29
      exact zV_iret rfl dX12_gained_1 ⟨rfl, trivial⟩
    · refine zW_aload_n (pc' := 15) dX12_gained_0.2.1.1.1 rfl rfl ?_
      refine zG_int (pc' := 18) fg_X12_301 tb0 rfl dX12_gained_0.2.1.1.2 rfl ?_
      refine zV_goto 25 dX12_gained_0.2.1.2.1 rfl ?_
      refine zW_imul (pc' := 26) dX12_gained_0.2.2.1.2 rfl ?_
      refine zW_sipush (pc' := 29) dX12_gained_0.2.2.2.1 rfl rfl ?_
      refine zW_idivQ (pc' := 30) ⟨by omega, by omega⟩ (by omega) dX12_gained_0.2.2.2.2 rfl (fun v29 e29 => ?_)
      unfold rng at e29
      exact zV_iret rfl dX12_gained_1 ⟨rfl, trivial⟩
  · refine zW_iload_n (pc' := 6) dX12_gained_0.1.1.2.2 rfl rfl ?_
    refine zV_goto 30 dX12_gained_0.1.2.1.1 rfl ?_
    exact zV_iret rfl dX12_gained_1 ⟨rfl, trivial⟩

abbrev q_X12_isKind (κ h : Hp) (x1 : Int) (x2 : Int) : Int → Hp → Prop := fun r h' => h' = h ∧ ((0 ≤ r) ∧ (r ≤ 1) ∧ (r = 1 ↔ κ 3 (x1 - 1).toNat = x2))
set_option maxHeartbeats 4000000 in
set_option maxRecDepth 20000 in
theorem s_X12_isKind {G : Ga} {b : Bd} {κ h : Hp} (hK : KR κ) (hF : Fr b κ h) (x1 : Int) (hx1 : 1 ≤ x1 ∧ x1 ≤ 12) (x2 : Int) (hx2 : rng x2) : zM G mX12_isKind yX12_isKind [.inr (.inr 0), .inl x1, .inl x2] h (q_X12_isKind κ h x1 x2) := by
  unfold rng at hx2
  refine zM_of [some (.inr (.inr 0)), some (.inl x1), some (.inl x2)] 0 rfl rfl (Nat.le_of_ble_eq_true rfl) rfl ?_
  refine zW_aload_n (pc' := 1) dX12_isKind_0.1.1.1.1 rfl rfl ?_
  refine zG_ref (pc' := 4) 3 fg_X12_16 tb0 rfl dX12_isKind_0.1.1.1.2 rfl ?_
  refine zW_iload_n (pc' := 5) dX12_isKind_0.1.1.2 rfl rfl ?_
  refine zW_iconst (pc' := 6) dX12_isKind_0.1.2.1.1 rfl ?_
  refine zW_isub (pc' := 7) dX12_isKind_0.1.2.1.2 rfl ?_
  refine zA_keyI (pc' := 8) hF rfl (by decide) (by decide) tb3 (by omega) dX12_isKind_0.1.2.2 (by decide) rfl (fun e7 => ?_)
  refine zW_iload_n (pc' := 9) dX12_isKind_0.2.1.1.1 rfl rfl ?_
  refine zV_cm_ne (tgt := 16) (pc' := 12) dX12_isKind_0.2.1.1.2 rfl rfl ⟨by omega, by omega⟩ ⟨by omega, by omega⟩ (fun c9 => ?_) (fun c9 => ?_)
  · refine zW_iconst (pc' := 17) dX12_isKind_0.2.2.1.2 rfl ?_
    exact zV_zret rfl (by omega) dX12_isKind_0.2.2.2 ⟨rfl, by omega⟩
  · refine zW_iconst (pc' := 13) dX12_isKind_0.2.1.2 rfl ?_
    refine zV_goto 17 dX12_isKind_0.2.2.1.1 rfl ?_
    exact zV_zret rfl (by omega) dX12_isKind_0.2.2.2 ⟨rfl, by omega⟩

abbrev q_X12_isAlongEdges (κ h : Hp)  : Int → Hp → Prop := fun r h' => h' = h ∧ ((0 ≤ r) ∧ (r ≤ 1) ∧ (r = 1 → 1 ≤ FL κ))
set_option maxHeartbeats 4000000 in
set_option maxRecDepth 20000 in
theorem s_X12_isAlongEdges {G : Ga} {b : Bd} {κ h : Hp} (hK : KR κ) (hF : Fr b κ h)  : zM G mX12_isAlongEdges yX12_isAlongEdges [.inr (.inr 0)] h (q_X12_isAlongEdges κ h) := by
  have f_0_14 := KRm hK
  refine zM_of [some (.inr (.inr 0))] 0 rfl rfl (Nat.le_of_ble_eq_true rfl) rfl ?_
  refine zW_aload_n (pc' := 1) dX12_isAlongEdges_0.1.1.1.1 rfl rfl ?_
  refine cvI0 (pc' := 4) kX12_filler vX12_filler lk_X12_196 ⟨Nat.le_of_ble_eq_true rfl, Nat.le_of_ble_eq_true rfl⟩ tb0 vq12 rfl rfl (s_X12_filler hK hF) dX12_isAlongEdges_0.1.1.1.2 (Nat.le_of_ble_eq_true rfl) rfl ?_
  rintro r1 z1 ⟨hz1, p1⟩; subst z1
  refine zV_if_le (tgt := 24) (pc' := 7) dX12_isAlongEdges_0.1.1.2.1 rfl rfl ⟨by omega, by omega⟩ (fun c4 => ?_) (fun c4 => ?_)
  · refine zW_iconst (pc' := 25) dX12_isAlongEdges_0.2.2.1.2 rfl ?_
    exact zV_zret rfl (by omega) dX12_isAlongEdges_0.2.2.2 ⟨rfl, by omega⟩
  · refine zW_aload_n (pc' := 8) dX12_isAlongEdges_0.1.1.2.2 rfl rfl ?_
    refine zW_aload_n (pc' := 9) dX12_isAlongEdges_0.1.2.1.1 rfl rfl ?_
    refine cvI0 (pc' := 12) kX12_filler vX12_filler lk_X12_196 ⟨Nat.le_of_ble_eq_true rfl, Nat.le_of_ble_eq_true rfl⟩ tb0 vq12 rfl rfl (s_X12_filler hK hF) dX12_isAlongEdges_0.1.2.1.2 (Nat.le_of_ble_eq_true rfl) rfl ?_
    rintro r9 z9 ⟨hz9, p9⟩; subst z9
    refine zW_iconst (pc' := 13) dX12_isAlongEdges_0.1.2.2 rfl ?_
    refine cvI2 (pc' := 16) kX12_numberOf vX12_numberOf lk_X12_206 ⟨Nat.le_of_ble_eq_true rfl, Nat.le_of_ble_eq_true rfl⟩ tb0 vq12 rfl rfl (s_X12_numberOf hK hF _ ⟨by omega, by omega⟩ _ ⟨by omega, by omega⟩) dX12_isAlongEdges_0.2.1.1.1 (Nat.le_of_ble_eq_true rfl) rfl ?_
    rintro r13 z13 ⟨hz13, p13⟩; subst z13
    refine zW_iconst (pc' := 17) dX12_isAlongEdges_0.2.1.1.2 rfl ?_
    refine zV_cmQ_ne (tgt := 24) (pc' := 20) dX12_isAlongEdges_0.2.1.2.1 rfl rfl ?_ ?_
    · refine zW_iconst (pc' := 25) dX12_isAlongEdges_0.2.2.1.2 rfl ?_
      exact zV_zret rfl (by omega) dX12_isAlongEdges_0.2.2.2 ⟨rfl, by omega⟩
    · refine zW_iconst (pc' := 21) dX12_isAlongEdges_0.2.1.2.2 rfl ?_
      refine zV_goto 25 dX12_isAlongEdges_0.2.2.1.1 rfl ?_
      exact zV_zret rfl (by omega) dX12_isAlongEdges_0.2.2.2 ⟨rfl, by omega⟩

abbrev q_X12_isLeftOf (κ h : Hp) (x1 : Int) (x2 : Int) : Int → Hp → Prop := fun r h' => h' = h ∧ ((0 ≤ r) ∧ (r ≤ 1) ∧ (r = 1 → 0 ≤ x1 ∧ x1 ≤ κ 0 14 ∧ 0 ≤ x2 ∧ x2 ≤ 2))
set_option maxHeartbeats 4000000 in
set_option maxRecDepth 20000 in
theorem s_X12_isLeftOf {G : Ga} {b : Bd} {κ h : Hp} (hK : KR κ) (hF : Fr b κ h) (x1 : Int) (hx1 : rng x1) (x2 : Int) (hx2 : rng x2) : zM G mX12_isLeftOf yX12_isLeftOf [.inr (.inr 0), .inl x1, .inl x2] h (q_X12_isLeftOf κ h x1 x2) := by
  have f_0_14 := KRm hK
  unfold rng at hx1
  unfold rng at hx2
  refine zM_of [some (.inr (.inr 0)), some (.inl x1), some (.inl x2)] 0 rfl rfl (Nat.le_of_ble_eq_true rfl) rfl ?_
  refine zW_aload_n (pc' := 1) dX12_isLeftOf_0.1.1.1.1 rfl rfl ?_
  refine zW_iload_n (pc' := 2) dX12_isLeftOf_0.1.1.1.2 rfl rfl ?_
  refine cvI1 (pc' := 5) kX12_isRow vX12_isRow lk_X12_374 ⟨Nat.le_of_ble_eq_true rfl, Nat.le_of_ble_eq_true rfl⟩ tb0 vq12 rfl rfl (s_X12_isRow hK hF _ ⟨by omega, by omega⟩) dX12_isLeftOf_0.1.1.2.1 (Nat.le_of_ble_eq_true rfl) rfl ?_
  rintro r2 z2 ⟨hz2, p2⟩; subst z2
  refine zV_if_eq (tgt := 21) (pc' := 8) dX12_isLeftOf_0.1.1.2.2 rfl rfl ⟨by omega, by omega⟩ (fun c5 => ?_) (fun c5 => ?_)
  · refine zW_iconst (pc' := 22) dX12_isLeftOf_0.2.2.1.2 rfl ?_
    exact zV_zret rfl (by omega) dX12_isLeftOf_0.2.2.2 ⟨rfl, by omega⟩
  · refine zW_iload_n (pc' := 9) dX12_isLeftOf_0.1.2.1.1 rfl rfl ?_
    refine zW_iconst (pc' := 10) dX12_isLeftOf_0.1.2.1.2 rfl ?_
    refine zW_iconst (pc' := 11) dX12_isLeftOf_0.1.2.2 rfl ?_
    refine csI3 (pc' := 14) kX12_in vX12_in lk_X12_140 ⟨Nat.le_of_ble_eq_true rfl, Nat.le_of_ble_eq_true rfl⟩ rfl (s_X12_inR hF _ ⟨by omega, by omega⟩ _ ⟨by omega, by omega⟩ _ ⟨by omega, by omega⟩) dX12_isLeftOf_0.2.1.1.1 (Nat.le_of_ble_eq_true rfl) rfl ?_
    rintro r11 z11 ⟨hz11, p11⟩; subst z11
    refine zV_if_eq (tgt := 21) (pc' := 17) dX12_isLeftOf_0.2.1.1.2 rfl rfl ⟨by omega, by omega⟩ (fun c14 => ?_) (fun c14 => ?_)
    · refine zW_iconst (pc' := 22) dX12_isLeftOf_0.2.2.1.2 rfl ?_
      exact zV_zret rfl (by omega) dX12_isLeftOf_0.2.2.2 ⟨rfl, by omega⟩
    · refine zW_iconst (pc' := 18) dX12_isLeftOf_0.2.1.2 rfl ?_
      refine zV_goto 22 dX12_isLeftOf_0.2.2.1.1 rfl ?_
      exact zV_zret rfl (by omega) dX12_isLeftOf_0.2.2.2 ⟨rfl, by omega⟩

abbrev q_X12_within (κ h : Hp) (x1 : Int) (x2 : Int) : Int → Hp → Prop := fun r h' => h' = h ∧ (True)
set_option maxHeartbeats 4000000 in
set_option maxRecDepth 20000 in
theorem s_X12_within {G : Ga} {b : Bd} {κ h : Hp} (hK : KR κ) (hF : Fr b κ h) (x1 : Int) (x2 : Int) : zM G mX12_within yX12_within [.inr (.inr 0), .inl x1, .inl x2] h (q_X12_within κ h x1 x2) := by
  have main : ∀ N : Nat, (∀ (v3 v4 : Int) , (0 ≤ v4 ∧ v4 ≤ 256) → 119196 + 22 * (256 - v4) + 21 < (N : Int) → zV G mX12_within (q_X12_within κ h x1 x2) 5 [some (.inr (.inr 0)), some (.inl x1), some (.inl x2), some (.inl v3), some (.inl v4)] [] h) := by
    intro N
    induction N with
    | zero =>
      intro v3 v4 g0 hm
      exfalso; omega
    | succ N ih =>
      have k5 := ih
      intro v3 v4 g0 hm
      refine zW_iload (pc' := 7) dX12_within_0.1.2.1.1 rfl rfl ?_
      refine zW_aload_n (pc' := 8) dX12_within_0.1.2.1.2 rfl rfl ?_
      refine zG_int (pc' := 11) fg_X12_403 tb0 rfl dX12_within_0.1.2.2.1 rfl ?_
      have e8 := hF.2.2.1
      refine zV_cm_ge (tgt := 39) (pc' := 14) dX12_within_0.1.2.2.2 rfl rfl ⟨by omega, by omega⟩ ⟨by omega, by omega⟩ (fun c11 => ?_) (fun c11 => ?_)
      · refine zW_iload_n (pc' := 40) dX12_within_1.2.2.1 rfl rfl ?_
        exact zV_iret rfl dX12_within_1.2.2.2 ⟨rfl, trivial⟩
      · refine zW_aload_n (pc' := 15) dX12_within_0.2.1.1.1 rfl rfl ?_
        refine zG_ref (pc' := 18) 29 fg_X12_96 tb0 rfl dX12_within_0.2.1.1.2 rfl ?_
        refine zW_iload (pc' := 20) dX12_within_0.2.1.2.1 rfl rfl ?_
        refine zV_iald (pc' := 21) tb29 (by omega) dX12_within_0.2.1.2.2 (by decide) rfl ?_
        refine zW_iload_n (pc' := 22) dX12_within_0.2.2.1.1 rfl rfl ?_
        refine zW_iload_n (pc' := 23) dX12_within_0.2.2.1.2 rfl rfl ?_
        refine csI3 (pc' := 26) kX12_in vX12_in lk_X12_140 ⟨Nat.le_of_ble_eq_true rfl, Nat.le_of_ble_eq_true rfl⟩ rfl (s_X12_in hF _ _ _) dX12_within_0.2.2.2.1 (Nat.le_of_ble_eq_true rfl) rfl ?_
        rintro r23 z23 ⟨hz23, p23⟩; subst z23
        refine zV_if_eq (tgt := 33) (pc' := 29) dX12_within_0.2.2.2.2 rfl rfl ⟨by omega, by omega⟩ (fun c26 => ?_) (fun c26 => ?_)
        · refine zW_iinc (ls' := [_, _, _, _, _]) (pc' := 36) dX12_within_1.2.1.1 rfl (by decide) rfl rfl rfl ?_
          refine zV_goto 5 dX12_within_1.2.1.2 rfl ?_
          exact k5 _ _ (by omega) (by omega)
        · refine zW_iload_n (pc' := 30) dX12_within_1.1.1.1 rfl rfl ?_
          refine zW_iconst (pc' := 31) dX12_within_1.1.1.2 rfl ?_
          refine zW_iadd (pc' := 32) dX12_within_1.1.2.1 rfl ?_
          refine zW_istore_n (ls' := [_, _, _, _, _]) (pc' := 33) dX12_within_1.1.2.2 (by decide) rfl rfl rfl ?_
          refine zW_iinc (ls' := [_, _, _, _, _]) (pc' := 36) dX12_within_1.2.1.1 rfl (by decide) rfl rfl rfl ?_
          refine zV_goto 5 dX12_within_1.2.1.2 rfl ?_
          exact k5 _ _ (by omega) (by omega)
  refine zM_of [some (.inr (.inr 0)), some (.inl x1), some (.inl x2), none, none] 2 rfl rfl (Nat.le_of_ble_eq_true rfl) rfl ?_
  refine zW_iconst (pc' := 1) dX12_within_0.1.1.1.1 rfl ?_
  refine zW_istore_n (ls' := [_, _, _, _, _]) (pc' := 2) dX12_within_0.1.1.1.2 (by decide) rfl rfl rfl ?_
  refine zW_iconst (pc' := 3) dX12_within_0.1.1.2.1 rfl ?_
  refine zW_istore (ls' := [_, _, _, _, _]) (pc' := 5) dX12_within_0.1.1.2.2 (by decide) rfl rfl rfl ?_
  exact (main 10000000000000000000000000000000000000000) _ _ (by omega) (by omega)

abbrev q_X12_unlikeOnes (κ h : Hp)  : Int → Hp → Prop := fun r h' => h' = h ∧ (True)
set_option maxHeartbeats 4000000 in
set_option maxRecDepth 20000 in
theorem s_X12_unlikeOnes {G : Ga} {b : Bd} {κ h : Hp} (hK : KR κ) (hF : Fr b κ h)  : zM G mX12_unlikeOnes yX12_unlikeOnes [.inr (.inr 0)] h (q_X12_unlikeOnes κ h) := by
  have main : ∀ N : Nat, (∀ (v1 v2 : Int) , (0 ≤ v2 ∧ v2 ≤ 256) → 3103120800 + 308400 * (256 - v2) + 300690 < (N : Int) → zV G mX12_unlikeOnes (q_X12_unlikeOnes κ h) 4 [some (.inr (.inr 0)), some (.inl v1), some (.inl v2), none, none] [] h) ∧ (∀ (v1 v2 v3 v4 : Int) , (0 ≤ v2 ∧ v2 ≤ 255) → (0 ≤ v3 ∧ v3 ≤ 1) → (0 ≤ v4 ∧ v4 ≤ 255) → 3103120800 + 308400 * (256 - v2) + 223590 + 30 * (255 - v4) + 29 < (N : Int) → zV G mX12_unlikeOnes (q_X12_unlikeOnes κ h) 17 [some (.inr (.inr 0)), some (.inl v1), some (.inl v2), some (.inl v3), some (.inl v4)] [] h) := by
    intro N
    induction N with
    | zero =>
      refine ⟨?_, ?_⟩
      · intro v1 v2 g0 hm
        exfalso; omega
      · intro v1 v2 v3 v4 g0 g1 g2 hm
        exfalso; omega
    | succ N ih =>
      obtain ⟨k4, k17⟩ := ih
      refine ⟨?_, ?_⟩
      · intro v1 v2 g0 hm
        refine zW_iload_n (pc' := 5) dX12_unlikeOnes_0.1.2.1.1 rfl rfl ?_
        refine zW_aload_n (pc' := 6) dX12_unlikeOnes_0.1.2.1.2 rfl rfl ?_
        refine zG_int (pc' := 9) fg_X12_403 tb0 rfl dX12_unlikeOnes_0.1.2.2.1 rfl ?_
        have e6 := hF.2.2.1
        refine zV_cm_ge (tgt := 69) (pc' := 12) dX12_unlikeOnes_0.1.2.2.2 rfl rfl ⟨by omega, by omega⟩ ⟨by omega, by omega⟩ (fun c9 => ?_) (fun c9 => ?_)
        · refine zW_iload_n (pc' := 70) dX12_unlikeOnes_2.2.2.1 rfl rfl ?_
          exact zV_iret rfl dX12_unlikeOnes_2.2.2.2 ⟨rfl, trivial⟩
        · refine zW_iconst (pc' := 13) dX12_unlikeOnes_0.2.1.1.1 rfl ?_
          refine zW_istore_n (ls' := [_, _, _, _, _]) (pc' := 14) dX12_unlikeOnes_0.2.1.1.2 (by decide) rfl rfl rfl ?_
          refine zW_iconst (pc' := 15) dX12_unlikeOnes_0.2.1.2.1 rfl ?_
          refine zW_istore (ls' := [_, _, _, _, _]) (pc' := 17) dX12_unlikeOnes_0.2.1.2.2 (by decide) rfl rfl rfl ?_
          exact k17 _ _ _ _ (by omega) (by omega) (by omega) (by omega)
      · intro v1 v2 v3 v4 g0 g1 g2 hm
        refine zW_iload (pc' := 19) dX12_unlikeOnes_0.2.2.1.1 rfl rfl ?_
        refine zW_iload_n (pc' := 20) dX12_unlikeOnes_0.2.2.1.2 rfl rfl ?_
        refine zV_cm_ge (tgt := 55) (pc' := 23) dX12_unlikeOnes_0.2.2.2.1 rfl rfl ⟨by omega, by omega⟩ ⟨by omega, by omega⟩ (fun c20 => ?_) (fun c20 => ?_)
        · refine zW_iload_n (pc' := 56) dX12_unlikeOnes_2.1.1.1.1 rfl rfl ?_
          refine zV_if_eq (tgt := 63) (pc' := 59) dX12_unlikeOnes_2.1.1.1.2 rfl rfl ⟨by omega, by omega⟩ (fun c56 => ?_) (fun c56 => ?_)
          · refine zW_iinc (ls' := [_, _, _, _, _]) (pc' := 66) dX12_unlikeOnes_2.2.1.1.2 rfl (by decide) rfl rfl rfl ?_
            refine zV_goto 4 dX12_unlikeOnes_2.2.1.2 rfl ?_
            refine zV_clr 3 (ls' := [_, _, _, _, _]) rfl ?_
            refine zV_clr 4 (ls' := [_, _, _, _, _]) rfl ?_
            exact k4 _ _ (by omega) (by omega)
          · refine zW_iload_n (pc' := 60) dX12_unlikeOnes_2.1.1.2 rfl rfl ?_
            refine zW_iconst (pc' := 61) dX12_unlikeOnes_2.1.2.1 rfl ?_
            refine zW_iadd (pc' := 62) dX12_unlikeOnes_2.1.2.2 rfl ?_
            refine zW_istore_n (ls' := [_, _, _, _, _]) (pc' := 63) dX12_unlikeOnes_2.2.1.1.1 (by decide) rfl rfl rfl ?_
            refine zW_iinc (ls' := [_, _, _, _, _]) (pc' := 66) dX12_unlikeOnes_2.2.1.1.2 rfl (by decide) rfl rfl rfl ?_
            refine zV_goto 4 dX12_unlikeOnes_2.2.1.2 rfl ?_
            refine zV_clr 3 (ls' := [_, _, _, _, _]) rfl ?_
            refine zV_clr 4 (ls' := [_, _, _, _, _]) rfl ?_
            exact k4 _ _ (by omega) (by omega)
        · refine zW_iload_n (pc' := 24) dX12_unlikeOnes_0.2.2.2.2 rfl rfl ?_
          refine zV_if_eq (tgt := 47) (pc' := 27) dX12_unlikeOnes_1.1.1.1.1 rfl rfl ⟨by omega, by omega⟩ (fun c24 => ?_) (fun c24 => ?_)
          · refine zW_iconst (pc' := 48) dX12_unlikeOnes_1.2.2.1.1 rfl ?_
            refine zW_istore_n (ls' := [_, _, _, _, _]) (pc' := 49) dX12_unlikeOnes_1.2.2.1.2 (by decide) rfl rfl rfl ?_
            refine zW_iinc (ls' := [_, _, _, _, _]) (pc' := 52) dX12_unlikeOnes_1.2.2.2.1 rfl (by decide) rfl rfl rfl ?_
            refine zV_goto 17 dX12_unlikeOnes_1.2.2.2.2 rfl ?_
            exact k17 _ _ _ _ (by omega) (by omega) (by omega) (by omega)
          · refine zW_aload_n (pc' := 28) dX12_unlikeOnes_1.1.1.1.2 rfl rfl ?_
            refine zG_ref (pc' := 31) 29 fg_X12_96 tb0 rfl dX12_unlikeOnes_1.1.1.2.1 rfl ?_
            refine zW_iload (pc' := 33) dX12_unlikeOnes_1.1.1.2.2 rfl rfl ?_
            refine zV_iald (pc' := 34) tb29 (by omega) dX12_unlikeOnes_1.1.2.1.1 (by decide) rfl ?_
            refine zW_aload_n (pc' := 35) dX12_unlikeOnes_1.1.2.1.2 rfl rfl ?_
            refine zG_ref (pc' := 38) 29 fg_X12_96 tb0 rfl dX12_unlikeOnes_1.1.2.2.1 rfl ?_
            refine zW_iload_n (pc' := 39) dX12_unlikeOnes_1.1.2.2.2 rfl rfl ?_
            refine zV_iald (pc' := 40) tb29 (by omega) dX12_unlikeOnes_1.2.1.1.1 (by decide) rfl ?_
            refine zV_cmQ_eq (tgt := 47) (pc' := 43) dX12_unlikeOnes_1.2.1.1.2 rfl rfl ?_ ?_
            · refine zW_iconst (pc' := 48) dX12_unlikeOnes_1.2.2.1.1 rfl ?_
              refine zW_istore_n (ls' := [_, _, _, _, _]) (pc' := 49) dX12_unlikeOnes_1.2.2.1.2 (by decide) rfl rfl rfl ?_
              refine zW_iinc (ls' := [_, _, _, _, _]) (pc' := 52) dX12_unlikeOnes_1.2.2.2.1 rfl (by decide) rfl rfl rfl ?_
              refine zV_goto 17 dX12_unlikeOnes_1.2.2.2.2 rfl ?_
              exact k17 _ _ _ _ (by omega) (by omega) (by omega) (by omega)
            · refine zW_iconst (pc' := 44) dX12_unlikeOnes_1.2.1.2.1 rfl ?_
              refine zV_goto 48 dX12_unlikeOnes_1.2.1.2.2 rfl ?_
              refine zW_istore_n (ls' := [_, _, _, _, _]) (pc' := 49) dX12_unlikeOnes_1.2.2.1.2 (by decide) rfl rfl rfl ?_
              refine zW_iinc (ls' := [_, _, _, _, _]) (pc' := 52) dX12_unlikeOnes_1.2.2.2.1 rfl (by decide) rfl rfl rfl ?_
              refine zV_goto 17 dX12_unlikeOnes_1.2.2.2.2 rfl ?_
              exact k17 _ _ _ _ (by omega) (by omega) (by omega) (by omega)
  refine zM_of [some (.inr (.inr 0)), none, none, none, none] 4 rfl rfl (Nat.le_of_ble_eq_true rfl) rfl ?_
  refine zW_iconst (pc' := 1) dX12_unlikeOnes_0.1.1.1.1 rfl ?_
  refine zW_istore_n (ls' := [_, _, _, _, _]) (pc' := 2) dX12_unlikeOnes_0.1.1.1.2 (by decide) rfl rfl rfl ?_
  refine zW_iconst (pc' := 3) dX12_unlikeOnes_0.1.1.2.1 rfl ?_
  refine zW_istore_n (ls' := [_, _, _, _, _]) (pc' := 4) dX12_unlikeOnes_0.1.1.2.2 (by decide) rfl rfl rfl ?_
  exact (main 10000000000000000000000000000000000000000).1 _ _ (by omega) (by omega)

abbrev q_X12_noiseOf (κ h : Hp) (x1 : Int) (x2 : Int) (x3 : Int) (x4 : Int) : Int → Hp → Prop := fun r h' => h' = h ∧ (True)
set_option maxHeartbeats 4000000 in
set_option maxRecDepth 20000 in
theorem s_X12_noiseOf {G : Ga} {b : Bd} {κ h : Hp} (hK : KR κ) (hF : Fr b κ h) (x1 : Int) (hx1 : 0 ≤ x1 ∧ x1 ≤ 14) (x2 : Int) (hx2 : 0 ≤ x2 ∧ x2 ≤ 2) (x3 : Int) (x4 : Int) : zM G mX12_noiseOf yX12_noiseOf [.inr (.inr 0), .inl x1, .inl x2, .inl x3, .inl x4] h (q_X12_noiseOf κ h x1 x2 x3 x4) := by
  have f_0_11 := KRw hK
  have f_0_12 := KRh hK
  have main : ∀ N : Nat, (∀ (v5 v6 v7 v8 : Int) , (0 ≤ v8 ∧ v8 ≤ 16) → (v8 - κ 0 12 ≤ 0) → 64696320 + 56160 * (16 - v8) + 55296 < (N : Int) → zV G mX12_noiseOf (q_X12_noiseOf κ h x1 x2 x3 x4) 12 [some (.inr (.inr 0)), some (.inl x1), some (.inl x2), some (.inl x3), some (.inl x4), some (.inl v5), some (.inl v6), some (.inl v7), some (.inl v8), none, none, none] [] h) ∧ (∀ (v5 v6 v7 v8 v9 : Int) , (0 ≤ v8 ∧ v8 ≤ 15) → (v8 - κ 0 12 ≤ -1) → (0 ≤ v9 ∧ v9 ≤ 16) → (v9 - κ 0 11 ≤ 0) → 64696320 + 56160 * (16 - v8) + 40608 + 48 * (16 - v9) + 47 < (N : Int) → zV G mX12_noiseOf (q_X12_noiseOf κ h x1 x2 x3 x4) 24 [some (.inr (.inr 0)), some (.inl x1), some (.inl x2), some (.inl x3), some (.inl x4), some (.inl v5), some (.inl v6), some (.inl v7), some (.inl v8), some (.inl v9), none, none] [] h) ∧ (∀ (v5 v6 v7 v8 v9 v10 : Int) , (0 ≤ v8 ∧ v8 ≤ 15) → (v8 - κ 0 12 ≤ -1) → (0 ≤ v9 ∧ v9 ≤ 15) → (v9 - κ 0 11 ≤ -1) → 64696320 + 56160 * (16 - v8) + 40608 + 48 * (16 - v9) + 26 < (N : Int) → zV G mX12_noiseOf (q_X12_noiseOf κ h x1 x2 x3 x4) 63 [some (.inr (.inr 0)), some (.inl x1), some (.inl x2), some (.inl x3), some (.inl x4), some (.inl v5), some (.inl v6), some (.inl v7), some (.inl v8), some (.inl v9), some (.inl v10), none] [] h) := by
    intro N
    induction N with
    | zero =>
      refine ⟨?_, ?_, ?_⟩
      · intro v5 v6 v7 v8 g0 g1 hm
        exfalso; omega
      · intro v5 v6 v7 v8 v9 g0 g1 g2 g3 hm
        exfalso; omega
      · intro v5 v6 v7 v8 v9 v10 g0 g1 g2 g3 hm
        exfalso; omega
    | succ N ih =>
      obtain ⟨k12, k24, k63⟩ := ih
      refine ⟨?_, ?_, ?_⟩
      · intro v5 v6 v7 v8 g0 g1 hm
        refine zW_iload (pc' := 14) dX12_noiseOf_0.2.1.1.1 rfl rfl ?_
        refine zW_aload_n (pc' := 15) dX12_noiseOf_0.2.1.1.2 rfl rfl ?_
        refine zG_key (pc' := 18) hF rfl fg_X12_103 tb0 rfl dX12_noiseOf_0.2.1.2.1 rfl ?_
        refine zV_cm_ge (tgt := 115) (pc' := 21) dX12_noiseOf_0.2.1.2.2 rfl rfl ⟨by omega, by omega⟩ ⟨by omega, by omega⟩ (fun c18 => ?_) (fun c18 => ?_)
        · refine zW_iload (pc' := 117) dX12_noiseOf_3.2.2.1.1 rfl rfl ?_
          refine zV_ifQ_ne (tgt := 125) (pc' := 120) dX12_noiseOf_3.2.2.1.2 rfl rfl ?_ ?_
          · refine zW_iload (pc' := 127) dX12_noiseOf_4.1.1.1 rfl rfl ?_
            refine zW_iconst (pc' := 128) dX12_noiseOf_4.1.1.2 rfl ?_
            refine zV_cmQ_ne (tgt := 136) (pc' := 131) dX12_noiseOf_4.1.2.1 rfl rfl ?_ ?_
            · refine zW_iload (pc' := 138) dX12_noiseOf_4.2.1.2 rfl rfl ?_
              exact zV_iret rfl dX12_noiseOf_4.2.2 ⟨rfl, trivial⟩
            · refine zW_iload (pc' := 133) dX12_noiseOf_4.1.2.2 rfl rfl ?_
              refine zV_goto 138 dX12_noiseOf_4.2.1.1 rfl ?_
              exact zV_iret rfl dX12_noiseOf_4.2.2 ⟨rfl, trivial⟩
          · refine zW_iload (pc' := 122) dX12_noiseOf_3.2.2.2.1 rfl rfl ?_
            refine zV_goto 138 dX12_noiseOf_3.2.2.2.2 rfl ?_
            exact zV_iret rfl dX12_noiseOf_4.2.2 ⟨rfl, trivial⟩
        · refine zW_iconst (pc' := 22) dX12_noiseOf_0.2.2.1.1 rfl ?_
          refine zW_istore (ls' := [_, _, _, _, _, _, _, _, _, _, _, _]) (pc' := 24) dX12_noiseOf_0.2.2.1.2 (by decide) rfl rfl rfl ?_
          exact k24 _ _ _ _ _ (by omega) (by omega) (by omega) (by omega) (by omega)
      · intro v5 v6 v7 v8 v9 g0 g1 g2 g3 hm
        refine zW_iload (pc' := 26) dX12_noiseOf_0.2.2.2.1 rfl rfl ?_
        refine zW_aload_n (pc' := 27) dX12_noiseOf_0.2.2.2.2 rfl rfl ?_
        refine zG_key (pc' := 30) hF rfl fg_X12_99 tb0 rfl dX12_noiseOf_1.1.1.1.1 rfl ?_
        refine zV_cm_ge (tgt := 109) (pc' := 33) dX12_noiseOf_1.1.1.1.2 rfl rfl ⟨by omega, by omega⟩ ⟨by omega, by omega⟩ (fun c30 => ?_) (fun c30 => ?_)
        · refine zW_iinc (ls' := [_, _, _, _, _, _, _, _, _, _, _, _]) (pc' := 112) dX12_noiseOf_3.2.1.2.1 rfl (by decide) rfl rfl rfl ?_
          refine zV_goto 12 dX12_noiseOf_3.2.1.2.2 rfl ?_
          refine zV_clr 9 (ls' := [_, _, _, _, _, _, _, _, _, _, _, _]) rfl ?_
          exact k12 _ _ _ _ (by omega) (by omega) (by omega)
        · refine zW_aload_n (pc' := 34) dX12_noiseOf_1.1.1.2.1 rfl rfl ?_
          refine zW_iload_n (pc' := 35) dX12_noiseOf_1.1.1.2.2 rfl rfl ?_
          refine zW_iload_n (pc' := 36) dX12_noiseOf_1.1.2.1.1 rfl rfl ?_
          refine zW_iload (pc' := 38) dX12_noiseOf_1.1.2.1.2 rfl rfl ?_
          refine zW_iload (pc' := 40) dX12_noiseOf_1.1.2.2.1 rfl rfl ?_
          refine cvI4 (pc' := 43) kX12_blurAt vX12_blurAt lk_X12_319 ⟨Nat.le_of_ble_eq_true rfl, Nat.le_of_ble_eq_true rfl⟩ tb0 vq12 rfl rfl (s_X12_blurAt hK hF _ ⟨by omega, by omega⟩ _ ⟨by omega, by omega⟩ _ ⟨by omega, by omega, by omega⟩ _ ⟨by omega, by omega, by omega⟩) dX12_noiseOf_1.1.2.2.2 (Nat.le_of_ble_eq_true rfl) rfl ?_
          rintro r40 z40 ⟨hz40, p40⟩; subst z40
          refine zW_istore (ls' := [_, _, _, _, _, _, _, _, _, _, _, _]) (pc' := 45) dX12_noiseOf_1.2.1.1.1 (by decide) rfl rfl rfl ?_
          refine zW_iload_n (pc' := 46) dX12_noiseOf_1.2.1.1.2 rfl rfl ?_
          refine zW_iconst (pc' := 47) dX12_noiseOf_1.2.1.2.1 rfl ?_
          refine zV_cmQ_ge (tgt := 63) (pc' := 50) dX12_noiseOf_1.2.1.2.2 rfl rfl ?_ ?_
          · exact k63 _ _ _ _ _ _ (by omega) (by omega) (by omega) (by omega) (by omega)
          · refine zW_iload (pc' := 52) dX12_noiseOf_1.2.2.1.1 rfl rfl ?_
            refine zW_sipush (pc' := 55) dX12_noiseOf_1.2.2.1.2 rfl rfl ?_
            refine zW_idivQ (pc' := 56) ⟨by omega, by omega⟩ (by omega) dX12_noiseOf_1.2.2.2.1 rfl (fun v55 e55 => ?_)
            unfold rng at e55
            refine zW_iload_n (pc' := 57) dX12_noiseOf_1.2.2.2.2 rfl rfl ?_
            refine zV_cmQ_eq (tgt := 63) (pc' := 60) dX12_noiseOf_2.1.1.1.1 rfl rfl ?_ ?_
            · exact k63 _ _ _ _ _ _ (by omega) (by omega) (by omega) (by omega) (by omega)
            · refine zV_goto 103 dX12_noiseOf_2.1.1.1.2 rfl ?_
              refine zW_iinc (ls' := [_, _, _, _, _, _, _, _, _, _, _, _]) (pc' := 106) dX12_noiseOf_3.2.1.1.1 rfl (by decide) rfl rfl rfl ?_
              refine zV_goto 24 dX12_noiseOf_3.2.1.1.2 rfl ?_
              refine zV_clr 10 (ls' := [_, _, _, _, _, _, _, _, _, _, _, _]) rfl ?_
              exact k24 _ _ _ _ _ (by omega) (by omega) (by omega) (by omega) (by omega)
      · intro v5 v6 v7 v8 v9 v10 g0 g1 g2 g3 hm
        refine zW_aload_n (pc' := 64) dX12_noiseOf_2.1.1.2.1 rfl rfl ?_
        refine zW_iload_n (pc' := 65) dX12_noiseOf_2.1.1.2.2 rfl rfl ?_
        refine zW_iload_n (pc' := 66) dX12_noiseOf_2.1.2.1.1 rfl rfl ?_
        refine zW_iload (pc' := 68) dX12_noiseOf_2.1.2.1.2 rfl rfl ?_
        refine zW_iload (pc' := 70) dX12_noiseOf_2.1.2.2.1 rfl rfl ?_
        refine cvI4 (pc' := 73) kX12_at vX12_at lk_X12_277 ⟨Nat.le_of_ble_eq_true rfl, Nat.le_of_ble_eq_true rfl⟩ tb0 vq12 rfl rfl (s_X12_at hK hF _ ⟨by omega, by omega⟩ _ ⟨by omega, by omega⟩ _ ⟨by omega, by omega, by omega⟩ _ ⟨by omega, by omega, by omega⟩) dX12_noiseOf_2.1.2.2.2 (Nat.le_of_ble_eq_true rfl) rfl ?_
        rintro r70 z70 ⟨hz70, p70⟩; subst z70
        refine zW_iload (pc' := 75) dX12_noiseOf_2.2.1.1.1 rfl rfl ?_
        refine zW_isub (pc' := 76) dX12_noiseOf_2.2.1.1.2 rfl ?_
        refine csI1 (pc' := 79) kX12_size vX12_size lk_X12_257 ⟨Nat.le_of_ble_eq_true rfl, Nat.le_of_ble_eq_true rfl⟩ rfl (s_X12_size hF _) dX12_noiseOf_2.2.1.2.1 (Nat.le_of_ble_eq_true rfl) rfl ?_
        rintro r76 z76 ⟨hz76, p76⟩; subst z76
        refine zW_istore (ls' := [_, _, _, _, _, _, _, _, _, _, _, _]) (pc' := 81) dX12_noiseOf_2.2.1.2.2 (by decide) rfl rfl rfl ?_
        refine zW_iload (pc' := 83) dX12_noiseOf_2.2.2.1.1 rfl rfl ?_
        refine zW_iconst (pc' := 84) dX12_noiseOf_2.2.2.1.2 rfl ?_
        refine zW_iadd (pc' := 85) dX12_noiseOf_2.2.2.2.1 rfl ?_
        refine zW_istore (ls' := [_, _, _, _, _, _, _, _, _, _, _, _]) (pc' := 87) dX12_noiseOf_2.2.2.2.2 (by decide) rfl rfl rfl ?_
        refine zW_iload (pc' := 89) dX12_noiseOf_3.1.1.1.1 rfl rfl ?_
        refine zW_iload (pc' := 91) dX12_noiseOf_3.1.1.1.2 rfl rfl ?_
        refine zW_iadd (pc' := 92) dX12_noiseOf_3.1.1.2.1 rfl ?_
        refine zW_istore (ls' := [_, _, _, _, _, _, _, _, _, _, _, _]) (pc' := 94) dX12_noiseOf_3.1.1.2.2 (by decide) rfl rfl rfl ?_
        refine zW_iload (pc' := 96) dX12_noiseOf_3.1.2.1.1 rfl rfl ?_
        refine zW_iload (pc' := 98) dX12_noiseOf_3.1.2.1.2 rfl rfl ?_
        refine csI2 (pc' := 101) kX12_max vX12_max lk_X12_113 ⟨Nat.le_of_ble_eq_true rfl, Nat.le_of_ble_eq_true rfl⟩ rfl (s_X12_max hF _ _) dX12_noiseOf_3.1.2.2.1 (Nat.le_of_ble_eq_true rfl) rfl ?_
        rintro r98 z98 ⟨hz98, p98⟩; subst z98
        refine zW_istore (ls' := [_, _, _, _, _, _, _, _, _, _, _, _]) (pc' := 103) dX12_noiseOf_3.1.2.2.2 (by decide) rfl rfl rfl ?_
        refine zW_iinc (ls' := [_, _, _, _, _, _, _, _, _, _, _, _]) (pc' := 106) dX12_noiseOf_3.2.1.1.1 rfl (by decide) rfl rfl rfl ?_
        refine zV_goto 24 dX12_noiseOf_3.2.1.1.2 rfl ?_
        refine zV_clr 10 (ls' := [_, _, _, _, _, _, _, _, _, _, _, _]) rfl ?_
        refine zV_clr 11 (ls' := [_, _, _, _, _, _, _, _, _, _, _, _]) rfl ?_
        exact k24 _ _ _ _ _ (by omega) (by omega) (by omega) (by omega) (by omega)
  refine zM_of [some (.inr (.inr 0)), some (.inl x1), some (.inl x2), some (.inl x3), some (.inl x4), none, none, none, none, none, none, none] 7 rfl rfl (Nat.le_of_ble_eq_true rfl) rfl ?_
  refine zW_iconst (pc' := 1) dX12_noiseOf_0.1.1.1.1 rfl ?_
  refine zW_istore (ls' := [_, _, _, _, _, _, _, _, _, _, _, _]) (pc' := 3) dX12_noiseOf_0.1.1.1.2 (by decide) rfl rfl rfl ?_
  refine zW_iconst (pc' := 4) dX12_noiseOf_0.1.1.2.1 rfl ?_
  refine zW_istore (ls' := [_, _, _, _, _, _, _, _, _, _, _, _]) (pc' := 6) dX12_noiseOf_0.1.1.2.2 (by decide) rfl rfl rfl ?_
  refine zW_iconst (pc' := 7) dX12_noiseOf_0.1.2.1.1 rfl ?_
  refine zW_istore (ls' := [_, _, _, _, _, _, _, _, _, _, _, _]) (pc' := 9) dX12_noiseOf_0.1.2.1.2 (by decide) rfl rfl rfl ?_
  refine zW_iconst (pc' := 10) dX12_noiseOf_0.1.2.2.1 rfl ?_
  refine zW_istore (ls' := [_, _, _, _, _, _, _, _, _, _, _, _]) (pc' := 12) dX12_noiseOf_0.1.2.2.2 (by decide) rfl rfl rfl ?_
  exact (main 10000000000000000000000000000000000000000).1 _ _ _ _ (by omega) (by omega) (by omega)

abbrev q_X12_errorOf (κ h : Hp) (x1 : Int) (x2 : Int) (x3 : Int) : Int → Hp → Prop := fun r h' => h' = h ∧ (True)
set_option maxHeartbeats 4000000 in
set_option maxRecDepth 20000 in
theorem s_X12_errorOf {G : Ga} {b : Bd} {κ h : Hp} (hK : KR κ) (hF : Fr b κ h) (x1 : Int) (hx1 : 0 ≤ x1 ∧ x1 ≤ 14) (x2 : Int) (hx2 : 0 ≤ x2 ∧ x2 ≤ 2) (x3 : Int) : zM G mX12_errorOf yX12_errorOf [.inr (.inr 0), .inl x1, .inl x2, .inl x3] h (q_X12_errorOf κ h x1 x2 x3) := by
  have f_0_11 := KRw hK
  have f_0_12 := KRh hK
  have main : ∀ N : Nat, (∀ (v4 v6 v8 v10 : Int) , (0 ≤ v10 ∧ v10 ≤ 16) → (v10 - κ 0 12 ≤ 0) → 79050816 + 64584 * (16 - v10) + 63648 < (N : Int) → zV G mX12_errorOf (q_X12_errorOf κ h x1 x2 x3) 12 [some (.inr (.inr 0)), some (.inl x1), some (.inl x2), some (.inl x3), some (.inr (.inl v4)), none, some (.inr (.inl v6)), none, some (.inr (.inl v8)), none, some (.inl v10), none, none, none] [] h) ∧ (∀ (v4 v6 v8 v10 v11 : Int) , (0 ≤ v10 ∧ v10 ≤ 15) → (v10 - κ 0 12 ≤ -1) → (0 ≤ v11 ∧ v11 ≤ 16) → (v11 - κ 0 11 ≤ 0) → 79050816 + 64584 * (16 - v10) + 47736 + 52 * (16 - v11) + 51 < (N : Int) → zV G mX12_errorOf (q_X12_errorOf κ h x1 x2 x3) 24 [some (.inr (.inr 0)), some (.inl x1), some (.inl x2), some (.inl x3), some (.inr (.inl v4)), none, some (.inr (.inl v6)), none, some (.inr (.inl v8)), none, some (.inl v10), some (.inl v11), none, none] [] h) := by
    intro N
    induction N with
    | zero =>
      refine ⟨?_, ?_⟩
      · intro v4 v6 v8 v10 g0 g1 hm
        exfalso; omega
      · intro v4 v6 v8 v10 v11 g0 g1 g2 g3 hm
        exfalso; omega
    | succ N ih =>
      obtain ⟨k12, k24⟩ := ih
      refine ⟨?_, ?_⟩
      · intro v4 v6 v8 v10 g0 g1 hm
        refine zW_iload (pc' := 14) dX12_errorOf_0.2.1.1.1 rfl rfl ?_
        refine zW_aload_n (pc' := 15) dX12_errorOf_0.2.1.1.2 rfl rfl ?_
        refine zG_key (pc' := 18) hF rfl fg_X12_103 tb0 rfl dX12_errorOf_0.2.1.2.1 rfl ?_
        refine zV_cm_ge (tgt := 118) (pc' := 21) dX12_errorOf_0.2.1.2.2 rfl rfl ⟨by omega, by omega⟩ ⟨by omega, by omega⟩ (fun c18 => ?_) (fun c18 => ?_)
        · refine zW_iload_n (pc' := 119) dX12_errorOf_4.1.1.1.1 rfl rfl ?_
          refine zV_ifQ_ne (tgt := 127) (pc' := 122) dX12_errorOf_4.1.1.1.2 rfl rfl ?_ ?_
          · refine zW_iload_n (pc' := 128) dX12_errorOf_4.1.2.1.2 rfl rfl ?_
            refine zW_iconst (pc' := 129) dX12_errorOf_4.1.2.2 rfl ?_
            refine zV_cmQ_ne (tgt := 137) (pc' := 132) dX12_errorOf_4.2.1.1.1 rfl rfl ?_ ?_
            · refine zW_lload (pc' := 139) dX12_errorOf_4.2.2.1 rfl rfl ?_
              exact zV_lret rfl dX12_errorOf_4.2.2.2 ⟨rfl, trivial⟩
            · refine zW_lload (pc' := 134) dX12_errorOf_4.2.1.1.2 rfl rfl ?_
              refine zV_goto 139 dX12_errorOf_4.2.1.2 rfl ?_
              exact zV_lret rfl dX12_errorOf_4.2.2.2 ⟨rfl, trivial⟩
          · refine zW_lload (pc' := 124) dX12_errorOf_4.1.1.2 rfl rfl ?_
            refine zV_goto 139 dX12_errorOf_4.1.2.1.1 rfl ?_
            exact zV_lret rfl dX12_errorOf_4.2.2.2 ⟨rfl, trivial⟩
        · refine zW_iconst (pc' := 22) dX12_errorOf_0.2.2.1.1 rfl ?_
          refine zW_istore (ls' := [_, _, _, _, _, _, _, _, _, _, _, _, _, _]) (pc' := 24) dX12_errorOf_0.2.2.1.2 (by decide) rfl rfl rfl ?_
          exact k24 _ _ _ _ _ (by omega) (by omega) (by omega) (by omega) (by omega)
      · intro v4 v6 v8 v10 v11 g0 g1 g2 g3 hm
        refine zW_iload (pc' := 26) dX12_errorOf_0.2.2.2.1 rfl rfl ?_
        refine zW_aload_n (pc' := 27) dX12_errorOf_0.2.2.2.2 rfl rfl ?_
        refine zG_key (pc' := 30) hF rfl fg_X12_99 tb0 rfl dX12_errorOf_1.1.1.1.1 rfl ?_
        refine zV_cm_ge (tgt := 112) (pc' := 33) dX12_errorOf_1.1.1.1.2 rfl rfl ⟨by omega, by omega⟩ ⟨by omega, by omega⟩ (fun c30 => ?_) (fun c30 => ?_)
        · refine zW_iinc (ls' := [_, _, _, _, _, _, _, _, _, _, _, _, _, _]) (pc' := 115) dX12_errorOf_3.2.2.2.1 rfl (by decide) rfl rfl rfl ?_
          refine zV_goto 12 dX12_errorOf_3.2.2.2.2 rfl ?_
          refine zV_clr 11 (ls' := [_, _, _, _, _, _, _, _, _, _, _, _, _, _]) rfl ?_
          exact k12 _ _ _ _ (by omega) (by omega) (by omega)
        · refine zW_aload_n (pc' := 34) dX12_errorOf_1.1.1.2.1 rfl rfl ?_
          refine zW_iload_n (pc' := 35) dX12_errorOf_1.1.1.2.2 rfl rfl ?_
          refine zW_iload_n (pc' := 36) dX12_errorOf_1.1.2.1.1 rfl rfl ?_
          refine zW_iload (pc' := 38) dX12_errorOf_1.1.2.1.2 rfl rfl ?_
          refine zW_iload (pc' := 40) dX12_errorOf_1.1.2.2.1 rfl rfl ?_
          refine cvI4 (pc' := 43) kX12_at vX12_at lk_X12_277 ⟨Nat.le_of_ble_eq_true rfl, Nat.le_of_ble_eq_true rfl⟩ tb0 vq12 rfl rfl (s_X12_at hK hF _ ⟨by omega, by omega⟩ _ ⟨by omega, by omega⟩ _ ⟨by omega, by omega, by omega⟩ _ ⟨by omega, by omega, by omega⟩) dX12_errorOf_1.1.2.2.2 (Nat.le_of_ble_eq_true rfl) rfl ?_
          rintro r40 z40 ⟨hz40, p40⟩; subst z40
          refine zW_bipush (pc' := 45) dX12_errorOf_1.2.1.1.1 rfl rfl ?_
          refine zW_aload_n (pc' := 46) dX12_errorOf_1.2.1.1.2 rfl rfl ?_
          refine zG_ref (pc' := 49) 2 fg_X12_13 tb0 rfl dX12_errorOf_1.2.1.2.1 rfl ?_
          refine zW_sipush (pc' := 52) dX12_errorOf_1.2.1.2.2 rfl rfl ?_
          refine zW_iload_n (pc' := 53) dX12_errorOf_1.2.2.1.1 rfl rfl ?_
          refine zW_imul (pc' := 54) dX12_errorOf_1.2.2.1.2 rfl ?_
          refine zW_bipush (pc' := 56) dX12_errorOf_1.2.2.2.1 rfl rfl ?_
          refine zW_iload (pc' := 58) dX12_errorOf_1.2.2.2.2 rfl rfl ?_
          refine zW_imul (pc' := 59) dX12_errorOf_2.1.1.1.1 rfl ?_
          refine zW_iadd (pc' := 60) dX12_errorOf_2.1.1.1.2 rfl ?_
          refine zW_iload (pc' := 62) dX12_errorOf_2.1.1.2.1 rfl rfl ?_
          refine zW_iadd (pc' := 63) dX12_errorOf_2.1.1.2.2 rfl ?_
          refine zA_key (pc' := 64) hF rfl tb2 (by omega) dX12_errorOf_2.1.2.1.1 (by decide) rfl ?_
          refine zW_imul (pc' := 65) dX12_errorOf_2.1.2.1.2 rfl ?_
          refine zW_isub (pc' := 66) dX12_errorOf_2.1.2.2.1 rfl ?_
          refine csI1 (pc' := 69) kX12_size vX12_size lk_X12_257 ⟨Nat.le_of_ble_eq_true rfl, Nat.le_of_ble_eq_true rfl⟩ rfl (s_X12_size hF _) dX12_errorOf_2.1.2.2.2 (Nat.le_of_ble_eq_true rfl) rfl ?_
          rintro r66 z66 ⟨hz66, p66⟩; subst z66
          refine zW_i2l (pc' := 70) dX12_errorOf_2.2.1.1.1 rfl (fun v69 => ?_)
          refine zW_lstore (ls' := [_, _, _, _, _, _, _, _, _, _, _, _, _, _]) (pc' := 72) dX12_errorOf_2.2.1.1.2 (by decide) rfl rfl rfl ?_
          refine zW_lload (pc' := 74) dX12_errorOf_2.2.1.2.1 rfl rfl ?_
          refine zW_lload (pc' := 76) dX12_errorOf_2.2.1.2.2 rfl rfl ?_
          refine zW_ladd (pc' := 77) dX12_errorOf_2.2.2.1.1 rfl ?_
          refine zW_lstore (ls' := [_, _, _, _, _, _, _, _, _, _, _, _, _, _]) (pc' := 79) dX12_errorOf_2.2.2.1.2 (by decide) rfl rfl rfl ?_
          refine zW_lload (pc' := 81) dX12_errorOf_2.2.2.2.1 rfl rfl ?_
          refine zW_lload (pc' := 83) dX12_errorOf_2.2.2.2.2 rfl rfl ?_
          refine zV_lcmp (pc' := 84) dX12_errorOf_3.1.1.1.1 rfl (fun v83 e83 => ?_)
          unfold rng at e83
          refine zV_if_le (tgt := 92) (pc' := 87) dX12_errorOf_3.1.1.1.2 rfl rfl ⟨by omega, by omega⟩ (fun c84 => ?_) (fun c84 => ?_)
          · refine zW_lload (pc' := 94) dX12_errorOf_3.1.2.1.1 rfl rfl ?_
            refine zW_lstore (ls' := [_, _, _, _, _, _, _, _, _, _, _, _, _, _]) (pc' := 96) dX12_errorOf_3.1.2.1.2 (by decide) rfl rfl rfl ?_
            refine zW_lload (pc' := 98) dX12_errorOf_3.1.2.2.1 rfl rfl ?_
            refine zW_lload (pc' := 100) dX12_errorOf_3.1.2.2.2 rfl rfl ?_
            refine zW_lload (pc' := 102) dX12_errorOf_3.2.1.1.1 rfl rfl ?_
            refine zW_lmul (pc' := 103) dX12_errorOf_3.2.1.1.2 rfl ?_
            refine zW_ladd (pc' := 104) dX12_errorOf_3.2.1.2.1 rfl ?_
            refine zW_lstore (ls' := [_, _, _, _, _, _, _, _, _, _, _, _, _, _]) (pc' := 106) dX12_errorOf_3.2.1.2.2 (by decide) rfl rfl rfl ?_
            refine zW_iinc (ls' := [_, _, _, _, _, _, _, _, _, _, _, _, _, _]) (pc' := 109) dX12_errorOf_3.2.2.1.1 rfl (by decide) rfl rfl rfl ?_
            refine zV_goto 24 dX12_errorOf_3.2.2.1.2 rfl ?_
            refine zV_clr 12 (ls' := [_, _, _, _, _, _, _, _, _, _, _, _, _, _]) rfl ?_
            exact k24 _ _ _ _ _ (by omega) (by omega) (by omega) (by omega) (by omega)
          · refine zW_lload (pc' := 89) dX12_errorOf_3.1.1.2.1 rfl rfl ?_
            refine zV_goto 94 dX12_errorOf_3.1.1.2.2 rfl ?_
            refine zW_lstore (ls' := [_, _, _, _, _, _, _, _, _, _, _, _, _, _]) (pc' := 96) dX12_errorOf_3.1.2.1.2 (by decide) rfl rfl rfl ?_
            refine zW_lload (pc' := 98) dX12_errorOf_3.1.2.2.1 rfl rfl ?_
            refine zW_lload (pc' := 100) dX12_errorOf_3.1.2.2.2 rfl rfl ?_
            refine zW_lload (pc' := 102) dX12_errorOf_3.2.1.1.1 rfl rfl ?_
            refine zW_lmul (pc' := 103) dX12_errorOf_3.2.1.1.2 rfl ?_
            refine zW_ladd (pc' := 104) dX12_errorOf_3.2.1.2.1 rfl ?_
            refine zW_lstore (ls' := [_, _, _, _, _, _, _, _, _, _, _, _, _, _]) (pc' := 106) dX12_errorOf_3.2.1.2.2 (by decide) rfl rfl rfl ?_
            refine zW_iinc (ls' := [_, _, _, _, _, _, _, _, _, _, _, _, _, _]) (pc' := 109) dX12_errorOf_3.2.2.1.1 rfl (by decide) rfl rfl rfl ?_
            refine zV_goto 24 dX12_errorOf_3.2.2.1.2 rfl ?_
            refine zV_clr 12 (ls' := [_, _, _, _, _, _, _, _, _, _, _, _, _, _]) rfl ?_
            exact k24 _ _ _ _ _ (by omega) (by omega) (by omega) (by omega) (by omega)
  refine zM_of [some (.inr (.inr 0)), some (.inl x1), some (.inl x2), some (.inl x3), none, none, none, none, none, none, none, none, none, none] 10 rfl rfl (Nat.le_of_ble_eq_true rfl) rfl ?_
  refine zW_lconst (pc' := 1) dX12_errorOf_0.1.1.1.1 rfl ?_
  refine zW_lstore (ls' := [_, _, _, _, _, _, _, _, _, _, _, _, _, _]) (pc' := 3) dX12_errorOf_0.1.1.1.2 (by decide) rfl rfl rfl ?_
  refine zW_lconst (pc' := 4) dX12_errorOf_0.1.1.2.1 rfl ?_
  refine zW_lstore (ls' := [_, _, _, _, _, _, _, _, _, _, _, _, _, _]) (pc' := 6) dX12_errorOf_0.1.1.2.2 (by decide) rfl rfl rfl ?_
  refine zW_lconst (pc' := 7) dX12_errorOf_0.1.2.1.1 rfl ?_
  refine zW_lstore (ls' := [_, _, _, _, _, _, _, _, _, _, _, _, _, _]) (pc' := 9) dX12_errorOf_0.1.2.1.2 (by decide) rfl rfl rfl ?_
  refine zW_iconst (pc' := 10) dX12_errorOf_0.1.2.2.1 rfl ?_
  refine zW_istore (ls' := [_, _, _, _, _, _, _, _, _, _, _, _, _, _]) (pc' := 12) dX12_errorOf_0.1.2.2.2 (by decide) rfl rfl rfl ?_
  exact (main 10000000000000000000000000000000000000000).1 _ _ _ _ (by omega) (by omega) (by omega)

abbrev q_X12_falseOf (κ h : Hp) (x1 : Int) (x2 : Int) : Int → Hp → Prop := fun r h' => h' = h ∧ (True)
set_option maxHeartbeats 4000000 in
set_option maxRecDepth 20000 in
theorem s_X12_falseOf {G : Ga} {b : Bd} {κ h : Hp} (hK : KR κ) (hF : Fr b κ h) (x1 : Int) (hx1 : 0 ≤ x1 ∧ x1 ≤ 14) (x2 : Int) : zM G mX12_falseOf yX12_falseOf [.inr (.inr 0), .inl x1, .inl x2] h (q_X12_falseOf κ h x1 x2) := by
  have f_0_11 := KRw hK
  have f_0_12 := KRh hK
  have main : ∀ N : Nat, (∀ (v3 v4 : Int) , (0 ≤ v4 ∧ v4 ≤ 16) → (v4 - κ 0 12 ≤ 0) → 10410120 + 17010 * (16 - v4) + 16524 < (N : Int) → zV G mX12_falseOf (q_X12_falseOf κ h x1 x2) 5 [some (.inr (.inr 0)), some (.inl x1), some (.inl x2), some (.inl v3), some (.inl v4), none] [] h) ∧ (∀ (v3 v4 v5 : Int) , (0 ≤ v4 ∧ v4 ≤ 15) → (v4 - κ 0 12 ≤ -1) → (0 ≤ v5 ∧ v5 ≤ 16) → (v5 - κ 0 11 ≤ 0) → 10410120 + 17010 * (16 - v4) + 12636 + 27 * (16 - v5) + 26 < (N : Int) → zV G mX12_falseOf (q_X12_falseOf κ h x1 x2) 17 [some (.inr (.inr 0)), some (.inl x1), some (.inl x2), some (.inl v3), some (.inl v4), some (.inl v5)] [] h) := by
    intro N
    induction N with
    | zero =>
      refine ⟨?_, ?_⟩
      · intro v3 v4 g0 g1 hm
        exfalso; omega
      · intro v3 v4 v5 g0 g1 g2 g3 hm
        exfalso; omega
    | succ N ih =>
      obtain ⟨k5, k17⟩ := ih
      refine ⟨?_, ?_⟩
      · intro v3 v4 g0 g1 hm
        refine zW_iload (pc' := 7) dX12_falseOf_0.1.2.1.1 rfl rfl ?_
        refine zW_aload_n (pc' := 8) dX12_falseOf_0.1.2.1.2 rfl rfl ?_
        refine zG_key (pc' := 11) hF rfl fg_X12_103 tb0 rfl dX12_falseOf_0.1.2.2.1 rfl ?_
        refine zV_cm_ge (tgt := 65) (pc' := 14) dX12_falseOf_0.1.2.2.2 rfl rfl ⟨by omega, by omega⟩ ⟨by omega, by omega⟩ (fun c11 => ?_) (fun c11 => ?_)
        · refine zW_iload_n (pc' := 66) dX12_falseOf_2.2.1 rfl rfl ?_
          exact zV_iret rfl dX12_falseOf_2.2.2 ⟨rfl, trivial⟩
        · refine zW_iconst (pc' := 15) dX12_falseOf_0.2.1.1.1 rfl ?_
          refine zW_istore (ls' := [_, _, _, _, _, _]) (pc' := 17) dX12_falseOf_0.2.1.1.2 (by decide) rfl rfl rfl ?_
          exact k17 _ _ _ (by omega) (by omega) (by omega) (by omega) (by omega)
      · intro v3 v4 v5 g0 g1 g2 g3 hm
        refine zW_iload (pc' := 19) dX12_falseOf_0.2.1.2.1 rfl rfl ?_
        refine zW_aload_n (pc' := 20) dX12_falseOf_0.2.1.2.2 rfl rfl ?_
        refine zG_key (pc' := 23) hF rfl fg_X12_99 tb0 rfl dX12_falseOf_0.2.2.1.1 rfl ?_
        refine zV_cm_ge (tgt := 59) (pc' := 26) dX12_falseOf_0.2.2.1.2 rfl rfl ⟨by omega, by omega⟩ ⟨by omega, by omega⟩ (fun c23 => ?_) (fun c23 => ?_)
        · refine zW_iinc (ls' := [_, _, _, _, _, _]) (pc' := 62) dX12_falseOf_2.1.1.2 rfl (by decide) rfl rfl rfl ?_
          refine zV_goto 5 dX12_falseOf_2.1.2 rfl ?_
          refine zV_clr 5 (ls' := [_, _, _, _, _, _]) rfl ?_
          exact k5 _ _ (by omega) (by omega) (by omega)
        · refine zW_aload_n (pc' := 27) dX12_falseOf_0.2.2.2.1 rfl rfl ?_
          refine zW_iload_n (pc' := 28) dX12_falseOf_0.2.2.2.2 rfl rfl ?_
          refine zW_iload (pc' := 30) dX12_falseOf_1.1.1.1.1 rfl rfl ?_
          refine zW_iload (pc' := 32) dX12_falseOf_1.1.1.1.2 rfl rfl ?_
          refine cvI3 (pc' := 35) kX12_greatest vX12_greatest lk_X12_295 ⟨Nat.le_of_ble_eq_true rfl, Nat.le_of_ble_eq_true rfl⟩ tb0 vq12 rfl rfl (s_X12_greatest hK hF _ ⟨by omega, by omega⟩ _ ⟨by omega, by omega, by omega⟩ _ ⟨by omega, by omega, by omega⟩) dX12_falseOf_1.1.1.2.1 (Nat.le_of_ble_eq_true rfl) rfl ?_
          rintro r32 z32 ⟨hz32, p32⟩; subst z32
          refine zW_aload_n (pc' := 36) dX12_falseOf_1.1.1.2.2 rfl rfl ?_
          refine zW_iload_n (pc' := 37) dX12_falseOf_1.1.2.1.1 rfl rfl ?_
          refine zW_iload (pc' := 39) dX12_falseOf_1.1.2.1.2 rfl rfl ?_
          refine zW_iload (pc' := 41) dX12_falseOf_1.1.2.2.1 rfl rfl ?_
          refine cvI3 (pc' := 44) kX12_smallest vX12_smallest lk_X12_298 ⟨Nat.le_of_ble_eq_true rfl, Nat.le_of_ble_eq_true rfl⟩ tb0 vq12 rfl rfl (s_X12_smallest hK hF _ ⟨by omega, by omega⟩ _ ⟨by omega, by omega, by omega⟩ _ ⟨by omega, by omega, by omega⟩) dX12_falseOf_1.1.2.2.2 (Nat.le_of_ble_eq_true rfl) rfl ?_
          rintro r41 z41 ⟨hz41, p41⟩; subst z41
          refine zW_isub (pc' := 45) dX12_falseOf_1.2.1.1.1 rfl ?_
          refine zW_iload_n (pc' := 46) dX12_falseOf_1.2.1.1.2 rfl rfl ?_
          refine zV_cmQ_le (tgt := 53) (pc' := 49) dX12_falseOf_1.2.1.2.1 rfl rfl ?_ ?_
          · refine zW_iinc (ls' := [_, _, _, _, _, _]) (pc' := 56) dX12_falseOf_1.2.2.2.2 rfl (by decide) rfl rfl rfl ?_
            refine zV_goto 17 dX12_falseOf_2.1.1.1 rfl ?_
            exact k17 _ _ _ (by omega) (by omega) (by omega) (by omega) (by omega)
          · refine zW_iload_n (pc' := 50) dX12_falseOf_1.2.1.2.2 rfl rfl ?_
            refine zW_iconst (pc' := 51) dX12_falseOf_1.2.2.1.1 rfl ?_
            refine zW_iadd (pc' := 52) dX12_falseOf_1.2.2.1.2 rfl ?_
            refine zW_istore_n (ls' := [_, _, _, _, _, _]) (pc' := 53) dX12_falseOf_1.2.2.2.1 (by decide) rfl rfl rfl ?_
            refine zW_iinc (ls' := [_, _, _, _, _, _]) (pc' := 56) dX12_falseOf_1.2.2.2.2 rfl (by decide) rfl rfl rfl ?_
            refine zV_goto 17 dX12_falseOf_2.1.1.1 rfl ?_
            exact k17 _ _ _ (by omega) (by omega) (by omega) (by omega) (by omega)
  refine zM_of [some (.inr (.inr 0)), some (.inl x1), some (.inl x2), none, none, none] 3 rfl rfl (Nat.le_of_ble_eq_true rfl) rfl ?_
  refine zW_iconst (pc' := 1) dX12_falseOf_0.1.1.1.1 rfl ?_
  refine zW_istore_n (ls' := [_, _, _, _, _, _]) (pc' := 2) dX12_falseOf_0.1.1.1.2 (by decide) rfl rfl rfl ?_
  refine zW_iconst (pc' := 3) dX12_falseOf_0.1.1.2.1 rfl ?_
  refine zW_istore (ls' := [_, _, _, _, _, _]) (pc' := 5) dX12_falseOf_0.1.1.2.2 (by decide) rfl rfl rfl ?_
  exact (main 10000000000000000000000000000000000000000).1 _ _ (by omega) (by omega) (by omega)

abbrev q_X12_unlikeOf (κ h : Hp) (x1 : Int) (x2 : Int) (x3 : Int) (x4 : Int) : Int → Hp → Prop := fun r h' => h' = h ∧ (True)
set_option maxHeartbeats 4000000 in
set_option maxRecDepth 20000 in
theorem s_X12_unlikeOf {G : Ga} {b : Bd} {κ h : Hp} (hK : KR κ) (hF : Fr b κ h) (x1 : Int) (hx1 : 0 ≤ x1 ∧ x1 ≤ 14) (x2 : Int) (hx2 : 0 ≤ x2 ∧ x2 ≤ 14) (x3 : Int) (x4 : Int) : zM G mX12_unlikeOf yX12_unlikeOf [.inr (.inr 0), .inl x1, .inl x2, .inl x3, .inl x4] h (q_X12_unlikeOf κ h x1 x2 x3 x4) := by
  have f_0_11 := KRw hK
  have f_0_12 := KRh hK
  have main : ∀ N : Nat, (∀ (v5 v6 v7 : Int) , (0 ≤ v7 ∧ v7 ≤ 16) → (v7 - κ 0 12 ≤ 0) → 13876689960 + 12434310 * (16 - v7) + 12236940 < (N : Int) → zV G mX12_unlikeOf (q_X12_unlikeOf κ h x1 x2 x3 x4) 9 [some (.inr (.inr 0)), some (.inl x1), some (.inl x2), some (.inl x3), some (.inl x4), some (.inl v5), some (.inl v6), some (.inl v7), none, none, none] [] h) ∧ (∀ (v5 v6 v7 v8 : Int) , (0 ≤ v7 ∧ v7 ≤ 15) → (v7 - κ 0 12 ≤ -1) → (0 ≤ v8 ∧ v8 ≤ 16) → (v8 - κ 0 11 ≤ 0) → 13876689960 + 12434310 * (16 - v7) + 9868500 + 10965 * (16 - v8) + 10750 < (N : Int) → zV G mX12_unlikeOf (q_X12_unlikeOf κ h x1 x2 x3 x4) 21 [some (.inr (.inr 0)), some (.inl x1), some (.inl x2), some (.inl x3), some (.inl x4), some (.inl v5), some (.inl v6), some (.inl v7), some (.inl v8), none, none] [] h) ∧ (∀ (v5 v6 v7 v8 v9 : Int) , (0 ≤ v7 ∧ v7 ≤ 15) → (v7 - κ 0 12 ≤ -1) → (0 ≤ v8 ∧ v8 ≤ 15) → (v8 - κ 0 11 ≤ -1) → (0 ≤ v9 ∧ v9 ≤ 3) → 13876689960 + 12434310 * (16 - v7) + 9868500 + 10965 * (16 - v8) + 9030 + 43 * (3 - v9) + 42 < (N : Int) → zV G mX12_unlikeOf (q_X12_unlikeOf κ h x1 x2 x3 x4) 33 [some (.inr (.inr 0)), some (.inl x1), some (.inl x2), some (.inl x3), some (.inl x4), some (.inl v5), some (.inl v6), some (.inl v7), some (.inl v8), some (.inl v9), none] [] h) ∧ (∀ (v5 v6 v7 v8 v9 : Int) , (0 ≤ v7 ∧ v7 ≤ 15) → (v7 - κ 0 12 ≤ -1) → (0 ≤ v8 ∧ v8 ≤ 15) → (v8 - κ 0 11 ≤ -1) → (0 ≤ v9 ∧ v9 ≤ 2) → 13876689960 + 12434310 * (16 - v7) + 9868500 + 10965 * (16 - v8) + 9030 + 43 * (3 - v9) + 29 < (N : Int) → zV G mX12_unlikeOf (q_X12_unlikeOf κ h x1 x2 x3 x4) 59 [some (.inr (.inr 0)), some (.inl x1), some (.inl x2), some (.inl x3), some (.inl x4), some (.inl v5), some (.inl v6), some (.inl v7), some (.inl v8), some (.inl v9), none] [] h) := by
    intro N
    induction N with
    | zero =>
      refine ⟨?_, ?_, ?_, ?_⟩
      · intro v5 v6 v7 g0 g1 hm
        exfalso; omega
      · intro v5 v6 v7 v8 g0 g1 g2 g3 hm
        exfalso; omega
      · intro v5 v6 v7 v8 v9 g0 g1 g2 g3 g4 hm
        exfalso; omega
      · intro v5 v6 v7 v8 v9 g0 g1 g2 g3 g4 hm
        exfalso; omega
    | succ N ih =>
      obtain ⟨k9, k21, k33, k59⟩ := ih
      refine ⟨?_, ?_, ?_, ?_⟩
      · intro v5 v6 v7 g0 g1 hm
        refine zW_iload (pc' := 11) dX12_unlikeOf_0.1.2.2.1 rfl rfl ?_
        refine zW_aload_n (pc' := 12) dX12_unlikeOf_0.1.2.2.2 rfl rfl ?_
        refine zG_key (pc' := 15) hF rfl fg_X12_103 tb0 rfl dX12_unlikeOf_0.2.1.1.1 rfl ?_
        refine zV_cm_ge (tgt := 125) (pc' := 18) dX12_unlikeOf_0.2.1.1.2 rfl rfl ⟨by omega, by omega⟩ ⟨by omega, by omega⟩ (fun c15 => ?_) (fun c15 => ?_)
        · refine zW_iload (pc' := 127) dX12_unlikeOf_3.2.2.1.2 rfl rfl ?_
          refine zV_ifQ_ne (tgt := 135) (pc' := 130) dX12_unlikeOf_3.2.2.2.1 rfl rfl ?_ ?_
          · refine zW_iload (pc' := 137) dX12_unlikeOf_4.1.2 rfl rfl ?_
            exact zV_iret rfl dX12_unlikeOf_4.2 ⟨rfl, trivial⟩
          · refine zW_iload (pc' := 132) dX12_unlikeOf_3.2.2.2.2 rfl rfl ?_
            refine zV_goto 137 dX12_unlikeOf_4.1.1 rfl ?_
            exact zV_iret rfl dX12_unlikeOf_4.2 ⟨rfl, trivial⟩
        · refine zW_iconst (pc' := 19) dX12_unlikeOf_0.2.1.2.1 rfl ?_
          refine zW_istore (ls' := [_, _, _, _, _, _, _, _, _, _, _]) (pc' := 21) dX12_unlikeOf_0.2.1.2.2 (by decide) rfl rfl rfl ?_
          exact k21 _ _ _ _ (by omega) (by omega) (by omega) (by omega) (by omega)
      · intro v5 v6 v7 v8 g0 g1 g2 g3 hm
        refine zW_iload (pc' := 23) dX12_unlikeOf_0.2.2.1.1 rfl rfl ?_
        refine zW_aload_n (pc' := 24) dX12_unlikeOf_0.2.2.1.2 rfl rfl ?_
        refine zG_key (pc' := 27) hF rfl fg_X12_99 tb0 rfl dX12_unlikeOf_0.2.2.2.1 rfl ?_
        refine zV_cm_ge (tgt := 119) (pc' := 30) dX12_unlikeOf_0.2.2.2.2 rfl rfl ⟨by omega, by omega⟩ ⟨by omega, by omega⟩ (fun c27 => ?_) (fun c27 => ?_)
        · refine zW_iinc (ls' := [_, _, _, _, _, _, _, _, _, _, _]) (pc' := 122) dX12_unlikeOf_3.2.1.2.2 rfl (by decide) rfl rfl rfl ?_
          refine zV_goto 9 dX12_unlikeOf_3.2.2.1.1 rfl ?_
          refine zV_clr 8 (ls' := [_, _, _, _, _, _, _, _, _, _, _]) rfl ?_
          exact k9 _ _ _ (by omega) (by omega) (by omega)
        · refine zW_iconst (pc' := 31) dX12_unlikeOf_1.1.1.1.1 rfl ?_
          refine zW_istore (ls' := [_, _, _, _, _, _, _, _, _, _, _]) (pc' := 33) dX12_unlikeOf_1.1.1.1.2 (by decide) rfl rfl rfl ?_
          exact k33 _ _ _ _ _ (by omega) (by omega) (by omega) (by omega) (by omega) (by omega)
      · intro v5 v6 v7 v8 v9 g0 g1 g2 g3 g4 hm
        refine zW_iload (pc' := 35) dX12_unlikeOf_1.1.1.2.1 rfl rfl ?_
        refine zW_iconst (pc' := 36) dX12_unlikeOf_1.1.1.2.2 rfl ?_
        refine zV_cm_ge (tgt := 113) (pc' := 39) dX12_unlikeOf_1.1.2.1.1 rfl rfl ⟨by omega, by omega⟩ ⟨by omega, by omega⟩ (fun c36 => ?_) (fun c36 => ?_)
        · refine zW_iinc (ls' := [_, _, _, _, _, _, _, _, _, _, _]) (pc' := 116) dX12_unlikeOf_3.2.1.1.2 rfl (by decide) rfl rfl rfl ?_
          refine zV_goto 21 dX12_unlikeOf_3.2.1.2.1 rfl ?_
          refine zV_clr 9 (ls' := [_, _, _, _, _, _, _, _, _, _, _]) rfl ?_
          exact k21 _ _ _ _ (by omega) (by omega) (by omega) (by omega) (by omega)
        · refine zW_iload_n (pc' := 40) dX12_unlikeOf_1.1.2.1.2 rfl rfl ?_
          refine zV_ifQ_ne (tgt := 59) (pc' := 43) dX12_unlikeOf_1.1.2.2.1 rfl rfl ?_ ?_
          · exact k59 _ _ _ _ _ (by omega) (by omega) (by omega) (by omega) (by omega) (by omega)
          · refine zW_aload_n (pc' := 44) dX12_unlikeOf_1.1.2.2.2 rfl rfl ?_
            refine zW_iload (pc' := 46) dX12_unlikeOf_1.2.1.1.1 rfl rfl ?_
            refine zW_iload (pc' := 48) dX12_unlikeOf_1.2.1.1.2 rfl rfl ?_
            refine cvI2 (pc' := 51) kX12_colourAt vX12_colourAt lk_X12_225 ⟨Nat.le_of_ble_eq_true rfl, Nat.le_of_ble_eq_true rfl⟩ tb0 vq12 rfl rfl (s_X12_colourAt hK hF _ ⟨by omega, by omega⟩ _ ⟨by omega, by omega⟩) dX12_unlikeOf_1.2.1.2.1 (Nat.le_of_ble_eq_true rfl) rfl ?_
            rintro r48 z48 ⟨hz48, p48⟩; subst z48
            refine zW_iload (pc' := 53) dX12_unlikeOf_1.2.1.2.2 rfl rfl ?_
            refine zV_cm_eq (tgt := 59) (pc' := 56) dX12_unlikeOf_1.2.2.1.1 rfl rfl ⟨by omega, by omega⟩ ⟨by omega, by omega⟩ (fun c53 => ?_) (fun c53 => ?_)
            · exact k59 _ _ _ _ _ (by omega) (by omega) (by omega) (by omega) (by omega) (by omega)
            · refine zV_goto 107 dX12_unlikeOf_1.2.2.1.2 rfl ?_
              refine zW_iinc (ls' := [_, _, _, _, _, _, _, _, _, _, _]) (pc' := 110) dX12_unlikeOf_3.1.2.2.2 rfl (by decide) rfl rfl rfl ?_
              refine zV_goto 33 dX12_unlikeOf_3.2.1.1.1 rfl ?_
              exact k33 _ _ _ _ _ (by omega) (by omega) (by omega) (by omega) (by omega) (by omega)
      · intro v5 v6 v7 v8 v9 g0 g1 g2 g3 g4 hm
        refine zW_aload_n (pc' := 60) dX12_unlikeOf_1.2.2.2.1 rfl rfl ?_
        refine zW_iload_n (pc' := 61) dX12_unlikeOf_1.2.2.2.2 rfl rfl ?_
        refine zW_iload (pc' := 63) dX12_unlikeOf_2.1.1.1.1 rfl rfl ?_
        refine zW_iload (pc' := 65) dX12_unlikeOf_2.1.1.1.2 rfl rfl ?_
        refine zW_iload (pc' := 67) dX12_unlikeOf_2.1.1.2.1 rfl rfl ?_
        refine cvI4 (pc' := 70) kX12_at vX12_at lk_X12_277 ⟨Nat.le_of_ble_eq_true rfl, Nat.le_of_ble_eq_true rfl⟩ tb0 vq12 rfl rfl (s_X12_at hK hF _ ⟨by omega, by omega⟩ _ ⟨by omega, by omega⟩ _ ⟨by omega, by omega, by omega⟩ _ ⟨by omega, by omega, by omega⟩) dX12_unlikeOf_2.1.1.2.2 (Nat.le_of_ble_eq_true rfl) rfl ?_
        rintro r67 z67 ⟨hz67, p67⟩; subst z67
        refine zW_aload_n (pc' := 71) dX12_unlikeOf_2.1.2.1.1 rfl rfl ?_
        refine zW_iload_n (pc' := 72) dX12_unlikeOf_2.1.2.1.2 rfl rfl ?_
        refine zW_iload (pc' := 74) dX12_unlikeOf_2.1.2.2.1 rfl rfl ?_
        refine zW_iload (pc' := 76) dX12_unlikeOf_2.1.2.2.2 rfl rfl ?_
        refine zW_iload (pc' := 78) dX12_unlikeOf_2.2.1.1.1 rfl rfl ?_
        refine cvI4 (pc' := 81) kX12_at vX12_at lk_X12_277 ⟨Nat.le_of_ble_eq_true rfl, Nat.le_of_ble_eq_true rfl⟩ tb0 vq12 rfl rfl (s_X12_at hK hF _ ⟨by omega, by omega⟩ _ ⟨by omega, by omega⟩ _ ⟨by omega, by omega, by omega⟩ _ ⟨by omega, by omega, by omega⟩) dX12_unlikeOf_2.2.1.1.2 (Nat.le_of_ble_eq_true rfl) rfl ?_
        rintro r78 z78 ⟨hz78, p78⟩; subst z78
        refine zW_isub (pc' := 82) dX12_unlikeOf_2.2.1.2.1 rfl ?_
        refine csI1 (pc' := 85) kX12_size vX12_size lk_X12_257 ⟨Nat.le_of_ble_eq_true rfl, Nat.le_of_ble_eq_true rfl⟩ rfl (s_X12_size hF _) dX12_unlikeOf_2.2.1.2.2 (Nat.le_of_ble_eq_true rfl) rfl ?_
        rintro r82 z82 ⟨hz82, p82⟩; subst z82
        refine zW_istore (ls' := [_, _, _, _, _, _, _, _, _, _, _]) (pc' := 87) dX12_unlikeOf_2.2.2.1.1 (by decide) rfl rfl rfl ?_
        refine zW_iload (pc' := 89) dX12_unlikeOf_2.2.2.1.2 rfl rfl ?_
        refine zV_ifQ_le (tgt := 98) (pc' := 92) dX12_unlikeOf_2.2.2.2.1 rfl rfl ?_ ?_
        · refine zW_iload (pc' := 100) dX12_unlikeOf_3.1.1.2.2 rfl rfl ?_
          refine zW_iload (pc' := 102) dX12_unlikeOf_3.1.2.1.1 rfl rfl ?_
          refine csI2 (pc' := 105) kX12_max vX12_max lk_X12_113 ⟨Nat.le_of_ble_eq_true rfl, Nat.le_of_ble_eq_true rfl⟩ rfl (s_X12_max hF _ _) dX12_unlikeOf_3.1.2.1.2 (Nat.le_of_ble_eq_true rfl) rfl ?_
          rintro r102 z102 ⟨hz102, p102⟩; subst z102
          refine zW_istore (ls' := [_, _, _, _, _, _, _, _, _, _, _]) (pc' := 107) dX12_unlikeOf_3.1.2.2.1 (by decide) rfl rfl rfl ?_
          refine zW_iinc (ls' := [_, _, _, _, _, _, _, _, _, _, _]) (pc' := 110) dX12_unlikeOf_3.1.2.2.2 rfl (by decide) rfl rfl rfl ?_
          refine zV_goto 33 dX12_unlikeOf_3.2.1.1.1 rfl ?_
          refine zV_clr 10 (ls' := [_, _, _, _, _, _, _, _, _, _, _]) rfl ?_
          exact k33 _ _ _ _ _ (by omega) (by omega) (by omega) (by omega) (by omega) (by omega)
        · refine zW_iload (pc' := 94) dX12_unlikeOf_2.2.2.2.2 rfl rfl ?_
          refine zW_iconst (pc' := 95) dX12_unlikeOf_3.1.1.1.1 rfl ?_
          refine zW_iadd (pc' := 96) dX12_unlikeOf_3.1.1.1.2 rfl ?_
          refine zW_istore (ls' := [_, _, _, _, _, _, _, _, _, _, _]) (pc' := 98) dX12_unlikeOf_3.1.1.2.1 (by decide) rfl rfl rfl ?_
          refine zW_iload (pc' := 100) dX12_unlikeOf_3.1.1.2.2 rfl rfl ?_
          refine zW_iload (pc' := 102) dX12_unlikeOf_3.1.2.1.1 rfl rfl ?_
          refine csI2 (pc' := 105) kX12_max vX12_max lk_X12_113 ⟨Nat.le_of_ble_eq_true rfl, Nat.le_of_ble_eq_true rfl⟩ rfl (s_X12_max hF _ _) dX12_unlikeOf_3.1.2.1.2 (Nat.le_of_ble_eq_true rfl) rfl ?_
          rintro r102 z102 ⟨hz102, p102⟩; subst z102
          refine zW_istore (ls' := [_, _, _, _, _, _, _, _, _, _, _]) (pc' := 107) dX12_unlikeOf_3.1.2.2.1 (by decide) rfl rfl rfl ?_
          refine zW_iinc (ls' := [_, _, _, _, _, _, _, _, _, _, _]) (pc' := 110) dX12_unlikeOf_3.1.2.2.2 rfl (by decide) rfl rfl rfl ?_
          refine zV_goto 33 dX12_unlikeOf_3.2.1.1.1 rfl ?_
          refine zV_clr 10 (ls' := [_, _, _, _, _, _, _, _, _, _, _]) rfl ?_
          exact k33 _ _ _ _ _ (by omega) (by omega) (by omega) (by omega) (by omega) (by omega)
  refine zM_of [some (.inr (.inr 0)), some (.inl x1), some (.inl x2), some (.inl x3), some (.inl x4), none, none, none, none, none, none] 6 rfl rfl (Nat.le_of_ble_eq_true rfl) rfl ?_
  refine zW_iconst (pc' := 1) dX12_unlikeOf_0.1.1.1.1 rfl ?_
  refine zW_istore (ls' := [_, _, _, _, _, _, _, _, _, _, _]) (pc' := 3) dX12_unlikeOf_0.1.1.1.2 (by decide) rfl rfl rfl ?_
  refine zW_iconst (pc' := 4) dX12_unlikeOf_0.1.1.2.1 rfl ?_
  refine zW_istore (ls' := [_, _, _, _, _, _, _, _, _, _, _]) (pc' := 6) dX12_unlikeOf_0.1.1.2.2 (by decide) rfl rfl rfl ?_
  refine zW_iconst (pc' := 7) dX12_unlikeOf_0.1.2.1.1 rfl ?_
  refine zW_istore (ls' := [_, _, _, _, _, _, _, _, _, _, _]) (pc' := 9) dX12_unlikeOf_0.1.2.1.2 (by decide) rfl rfl rfl ?_
  exact (main 10000000000000000000000000000000000000000).1 _ _ _ (by omega) (by omega) (by omega)

abbrev q_X12_badness (κ h : Hp) (x1 : Int) (x2 : Int) : Int → Hp → Prop := fun r h' => h' = h ∧ (True)
set_option maxHeartbeats 4000000 in
set_option maxRecDepth 20000 in
theorem s_X12_badness {G : Ga} {b : Bd} {κ h : Hp} (hK : KR κ) (hF : Fr b κ h) (x1 : Int) (hx1 : 0 ≤ x1 ∧ x1 ≤ 14) (x2 : Int) : zM G mX12_badness yX12_badness [.inr (.inr 0), .inl x1, .inl x2] h (q_X12_badness κ h x1 x2) := by
  have main : ∀ N : Nat, (∀ (v3 v5 : Int) , (0 ≤ v5 ∧ v5 ≤ 3) → 5280 + 33 * (3 - v5) + 32 < (N : Int) → zV G mX12_badness (q_X12_badness κ h x1 x2) 20 [some (.inr (.inr 0)), some (.inl x1), some (.inl x2), some (.inr (.inl v3)), none, some (.inl v5)] [] h) := by
    intro N
    induction N with
    | zero =>
      intro v3 v5 g0 hm
      exfalso; omega
    | succ N ih =>
      have k20 := ih
      intro v3 v5 g0 hm
      refine zW_iload (pc' := 22) dX12_badness_0.2.2.1.2 rfl rfl ?_
      refine zW_iconst (pc' := 23) dX12_badness_0.2.2.2.1 rfl ?_
      refine zV_cm_ge (tgt := 60) (pc' := 26) dX12_badness_0.2.2.2.2 rfl rfl ⟨by omega, by omega⟩ ⟨by omega, by omega⟩ (fun c23 => ?_) (fun c23 => ?_)
      · refine zW_lload_n (pc' := 61) dX12_badness_2.2.1.2 rfl rfl ?_
        exact zV_lret rfl dX12_badness_2.2.2 ⟨rfl, trivial⟩
      · refine zW_lload_n (pc' := 27) dX12_badness_1.1.1.1.1 rfl rfl ?_
        refine zW_iload_n (pc' := 28) dX12_badness_1.1.1.1.2 rfl rfl ?_
        refine zV_ifQ_ne (tgt := 44) (pc' := 31) dX12_badness_1.1.1.2.1 rfl rfl ?_ ?_
        · refine zW_aload_n (pc' := 45) dX12_badness_1.2.1.2.2 rfl rfl ?_
          refine zW_iload_n (pc' := 46) dX12_badness_1.2.2.1.1 rfl rfl ?_
          refine zW_iload (pc' := 48) dX12_badness_1.2.2.1.2 rfl rfl ?_
          refine zW_iconst (pc' := 49) dX12_badness_1.2.2.2.1 rfl ?_
          refine cvL3 (pc' := 52) kX12_errorOf vX12_errorOf lk_X12_433 ⟨Nat.le_of_ble_eq_true rfl, Nat.le_of_ble_eq_true rfl⟩ tb0 vq12 rfl rfl (s_X12_errorOf hK hF _ ⟨by omega, by omega⟩ _ ⟨by omega, by omega⟩ _) dX12_badness_1.2.2.2.2 (Nat.le_of_ble_eq_true rfl) rfl ?_
          rintro r49 z49 ⟨hz49, p49⟩; subst z49
          refine zW_ladd (pc' := 53) dX12_badness_2.1.1.1 rfl ?_
          refine zW_lstore_n (ls' := [_, _, _, _, _, _]) (pc' := 54) dX12_badness_2.1.1.2 (by decide) rfl rfl rfl ?_
          refine zW_iinc (ls' := [_, _, _, _, _, _]) (pc' := 57) dX12_badness_2.1.2 rfl (by decide) rfl rfl rfl ?_
          refine zV_goto 20 dX12_badness_2.2.1.1 rfl ?_
          exact k20 _ _ (by omega) (by omega)
        · refine zW_aload_n (pc' := 32) dX12_badness_1.1.1.2.2 rfl rfl ?_
          refine zW_iload_n (pc' := 33) dX12_badness_1.1.2.1.1 rfl rfl ?_
          refine zW_iload (pc' := 35) dX12_badness_1.1.2.1.2 rfl rfl ?_
          refine zW_iconst (pc' := 36) dX12_badness_1.1.2.2.1 rfl ?_
          refine zW_iconst (pc' := 37) dX12_badness_1.1.2.2.2 rfl ?_
          refine cvI4 (pc' := 40) kX12_noiseOf vX12_noiseOf lk_X12_418 ⟨Nat.le_of_ble_eq_true rfl, Nat.le_of_ble_eq_true rfl⟩ tb0 vq12 rfl rfl (s_X12_noiseOf hK hF _ ⟨by omega, by omega⟩ _ ⟨by omega, by omega⟩ _ _) dX12_badness_1.2.1.1.1 (Nat.le_of_ble_eq_true rfl) rfl ?_
          rintro r37 z37 ⟨hz37, p37⟩; subst z37
          refine zW_i2l (pc' := 41) dX12_badness_1.2.1.1.2 rfl (fun v40 => ?_)
          refine zV_goto 52 dX12_badness_1.2.1.2.1 rfl ?_
          refine zW_ladd (pc' := 53) dX12_badness_2.1.1.1 rfl ?_
          refine zW_lstore_n (ls' := [_, _, _, _, _, _]) (pc' := 54) dX12_badness_2.1.1.2 (by decide) rfl rfl rfl ?_
          refine zW_iinc (ls' := [_, _, _, _, _, _]) (pc' := 57) dX12_badness_2.1.2 rfl (by decide) rfl rfl rfl ?_
          refine zV_goto 20 dX12_badness_2.2.1.1 rfl ?_
          exact k20 _ _ (by omega) (by omega)
  refine zM_of [some (.inr (.inr 0)), some (.inl x1), some (.inl x2), none, none, none] 3 rfl rfl (Nat.le_of_ble_eq_true rfl) rfl ?_
  refine zW_iload_n (pc' := 1) dX12_badness_0.1.1.1.1 rfl rfl ?_
  refine zW_iconst (pc' := 2) dX12_badness_0.1.1.1.2 rfl ?_
  refine zV_cmQ_ne (tgt := 15) (pc' := 5) dX12_badness_0.1.1.2.1 rfl rfl ?_ ?_
  · refine zW_lconst (pc' := 16) dX12_badness_0.2.1.1.2 rfl ?_
    refine zW_lstore_n (ls' := [_, _, _, _, _, _]) (pc' := 17) dX12_badness_0.2.1.2.1 (by decide) rfl rfl rfl ?_
    refine zW_iconst (pc' := 18) dX12_badness_0.2.1.2.2 rfl ?_
    refine zW_istore (ls' := [_, _, _, _, _, _]) (pc' := 20) dX12_badness_0.2.2.1.1 (by decide) rfl rfl rfl ?_
    exact (main 10000000000000000000000000000000000000000) _ _ (by omega) (by omega)
  · refine zW_aload_n (pc' := 6) dX12_badness_0.1.1.2.2 rfl rfl ?_
    refine zW_iload_n (pc' := 7) dX12_badness_0.1.2.1.1 rfl rfl ?_
    refine zW_sipush (pc' := 10) dX12_badness_0.1.2.1.2 rfl rfl ?_
    refine cvI2 (pc' := 13) kX12_falseOf vX12_falseOf lk_X12_437 ⟨Nat.le_of_ble_eq_true rfl, Nat.le_of_ble_eq_true rfl⟩ tb0 vq12 rfl rfl (s_X12_falseOf hK hF _ ⟨by omega, by omega⟩ _) dX12_badness_0.1.2.2.1 (Nat.le_of_ble_eq_true rfl) rfl ?_
    rintro r10 z10 ⟨hz10, p10⟩; subst z10
    refine zW_i2l (pc' := 14) dX12_badness_0.1.2.2.2 rfl (fun v13 => ?_)
    exact zV_lret rfl dX12_badness_0.2.1.1.1 ⟨rfl, trivial⟩

abbrev q_X12_isTunable (κ h : Hp) (x1 : Int) : Int → Hp → Prop := fun r h' => h' = h ∧ ((0 ≤ r) ∧ (r ≤ 1) ∧ (r = 1 → ¬ x1 = 111 ∧ ¬ x1 = 112 ∧ ¬ x1 = 116))
set_option maxHeartbeats 4000000 in
set_option maxRecDepth 20000 in
theorem s_X12_isTunable {G : Ga} {b : Bd} {κ h : Hp} (hF : Fr b κ h) (x1 : Int) (hx1 : rng x1) : zM G mX12_isTunable yX12_isTunable [.inl x1] h (q_X12_isTunable κ h x1) := by
  unfold rng at hx1
  refine zM_of [some (.inl x1)] 0 rfl rfl (Nat.le_of_ble_eq_true rfl) rfl ?_
  refine zW_iload_n (pc' := 1) dX12_isTunable_0.1.1.1.1 rfl rfl ?_
  refine zW_bipush (pc' := 3) dX12_isTunable_0.1.1.1.2 rfl rfl ?_
  refine zV_cm_eq (tgt := 54) (pc' := 6) dX12_isTunable_0.1.1.2.1 rfl rfl ⟨by omega, by omega⟩ ⟨by omega, by omega⟩ (fun c3 => ?_) (fun c3 => ?_)
  · refine zW_iconst (pc' := 55) dX12_isTunable_1.2.1.2.2 rfl ?_
    refine zV_goto 59 dX12_isTunable_1.2.2.1.1 rfl ?_
    exact zV_zret rfl (by omega) dX12_isTunable_1.2.2.2 ⟨rfl, by omega⟩
  · refine zW_iload_n (pc' := 7) dX12_isTunable_0.1.1.2.2 rfl rfl ?_
    refine zW_bipush (pc' := 9) dX12_isTunable_0.1.2.1.1 rfl rfl ?_
    refine zV_cm_eq (tgt := 54) (pc' := 12) dX12_isTunable_0.1.2.1.2 rfl rfl ⟨by omega, by omega⟩ ⟨by omega, by omega⟩ (fun c9 => ?_) (fun c9 => ?_)
    · refine zW_iconst (pc' := 55) dX12_isTunable_1.2.1.2.2 rfl ?_
      refine zV_goto 59 dX12_isTunable_1.2.2.1.1 rfl ?_
      exact zV_zret rfl (by omega) dX12_isTunable_1.2.2.2 ⟨rfl, by omega⟩
    · refine zW_iload_n (pc' := 13) dX12_isTunable_0.1.2.2.1 rfl rfl ?_
      refine zW_bipush (pc' := 15) dX12_isTunable_0.1.2.2.2 rfl rfl ?_
      refine zV_cm_eq (tgt := 54) (pc' := 18) dX12_isTunable_0.2.1.1.1 rfl rfl ⟨by omega, by omega⟩ ⟨by omega, by omega⟩ (fun c15 => ?_) (fun c15 => ?_)
      · refine zW_iconst (pc' := 55) dX12_isTunable_1.2.1.2.2 rfl ?_
        refine zV_goto 59 dX12_isTunable_1.2.2.1.1 rfl ?_
        exact zV_zret rfl (by omega) dX12_isTunable_1.2.2.2 ⟨rfl, by omega⟩
      · refine zW_iload_n (pc' := 19) dX12_isTunable_0.2.1.1.2 rfl rfl ?_
        refine zW_bipush (pc' := 21) dX12_isTunable_0.2.1.2.1 rfl rfl ?_
        refine zV_cm_eq (tgt := 54) (pc' := 24) dX12_isTunable_0.2.1.2.2 rfl rfl ⟨by omega, by omega⟩ ⟨by omega, by omega⟩ (fun c21 => ?_) (fun c21 => ?_)
        · refine zW_iconst (pc' := 55) dX12_isTunable_1.2.1.2.2 rfl ?_
          refine zV_goto 59 dX12_isTunable_1.2.2.1.1 rfl ?_
          exact zV_zret rfl (by omega) dX12_isTunable_1.2.2.2 ⟨rfl, by omega⟩
        · refine zW_iload_n (pc' := 25) dX12_isTunable_0.2.2.1.1 rfl rfl ?_
          refine zW_bipush (pc' := 27) dX12_isTunable_0.2.2.1.2 rfl rfl ?_
          refine zV_cm_eq (tgt := 54) (pc' := 30) dX12_isTunable_0.2.2.2.1 rfl rfl ⟨by omega, by omega⟩ ⟨by omega, by omega⟩ (fun c27 => ?_) (fun c27 => ?_)
          · refine zW_iconst (pc' := 55) dX12_isTunable_1.2.1.2.2 rfl ?_
            refine zV_goto 59 dX12_isTunable_1.2.2.1.1 rfl ?_
            exact zV_zret rfl (by omega) dX12_isTunable_1.2.2.2 ⟨rfl, by omega⟩
          · refine zW_iload_n (pc' := 31) dX12_isTunable_0.2.2.2.2 rfl rfl ?_
            refine zW_bipush (pc' := 33) dX12_isTunable_1.1.1.1.1 rfl rfl ?_
            refine zV_cm_eq (tgt := 54) (pc' := 36) dX12_isTunable_1.1.1.1.2 rfl rfl ⟨by omega, by omega⟩ ⟨by omega, by omega⟩ (fun c33 => ?_) (fun c33 => ?_)
            · refine zW_iconst (pc' := 55) dX12_isTunable_1.2.1.2.2 rfl ?_
              refine zV_goto 59 dX12_isTunable_1.2.2.1.1 rfl ?_
              exact zV_zret rfl (by omega) dX12_isTunable_1.2.2.2 ⟨rfl, by omega⟩
            · refine zW_iload_n (pc' := 37) dX12_isTunable_1.1.1.2.1 rfl rfl ?_
              refine zW_bipush (pc' := 39) dX12_isTunable_1.1.1.2.2 rfl rfl ?_
              refine zV_cm_eq (tgt := 54) (pc' := 42) dX12_isTunable_1.1.2.1.1 rfl rfl ⟨by omega, by omega⟩ ⟨by omega, by omega⟩ (fun c39 => ?_) (fun c39 => ?_)
              · refine zW_iconst (pc' := 55) dX12_isTunable_1.2.1.2.2 rfl ?_
                refine zV_goto 59 dX12_isTunable_1.2.2.1.1 rfl ?_
                exact zV_zret rfl (by omega) dX12_isTunable_1.2.2.2 ⟨rfl, by omega⟩
              · refine zW_iload_n (pc' := 43) dX12_isTunable_1.1.2.1.2 rfl rfl ?_
                refine zW_bipush (pc' := 45) dX12_isTunable_1.1.2.2.1 rfl rfl ?_
                refine zV_cm_eq (tgt := 54) (pc' := 48) dX12_isTunable_1.1.2.2.2 rfl rfl ⟨by omega, by omega⟩ ⟨by omega, by omega⟩ (fun c45 => ?_) (fun c45 => ?_)
                · refine zW_iconst (pc' := 55) dX12_isTunable_1.2.1.2.2 rfl ?_
                  refine zV_goto 59 dX12_isTunable_1.2.2.1.1 rfl ?_
                  exact zV_zret rfl (by omega) dX12_isTunable_1.2.2.2 ⟨rfl, by omega⟩
                · refine zW_iload_n (pc' := 49) dX12_isTunable_1.2.1.1.1 rfl rfl ?_
                  refine zW_bipush (pc' := 51) dX12_isTunable_1.2.1.1.2 rfl rfl ?_
                  refine zV_cm_ne (tgt := 58) (pc' := 54) dX12_isTunable_1.2.1.2.1 rfl rfl ⟨by omega, by omega⟩ ⟨by omega, by omega⟩ (fun c51 => ?_) (fun c51 => ?_)
                  · refine zW_iconst (pc' := 59) dX12_isTunable_1.2.2.1.2 rfl ?_
                    exact zV_zret rfl (by omega) dX12_isTunable_1.2.2.2 ⟨rfl, by omega⟩
                  · refine zW_iconst (pc' := 55) dX12_isTunable_1.2.1.2.2 rfl ?_
                    refine zV_goto 59 dX12_isTunable_1.2.2.1.1 rfl ?_
                    exact zV_zret rfl (by omega) dX12_isTunable_1.2.2.2 ⟨rfl, by omega⟩

abbrev q_X12_count (κ h : Hp) (x1 : Int) : Int → Hp → Prop := fun r h' => h' = h ∧ (True)
set_option maxHeartbeats 4000000 in
set_option maxRecDepth 20000 in
theorem s_X12_count {G : Ga} {b : Bd} {κ h : Hp} (hK : KR κ) (hF : Fr b κ h) (x1 : Int) (hx1 : rng x1) : zM G mX12_count yX12_count [.inr (.inr 0), .inl x1] h (q_X12_count κ h x1) := by
  have f_0_14 := KRm hK
  have f_0_15 := KRl hK
  have f_0_25 := KRt hK
  unfold rng at hx1
  refine zM_of [some (.inr (.inr 0)), some (.inl x1)] 0 rfl rfl (Nat.le_of_ble_eq_true rfl) rfl ?_
  refine zW_iload_n (pc' := 1) dX12_count_0.1.1.1.1 rfl rfl ?_
  refine zV_if_ne (tgt := 11) (pc' := 4) dX12_count_0.1.1.1.2 rfl rfl ⟨by omega, by omega⟩ (fun c1 => ?_) (fun c1 => ?_)
  · refine zW_iload_n (pc' := 12) dX12_count_0.1.2.1.2 rfl rfl ?_
    refine zW_iconst (pc' := 13) dX12_count_0.1.2.2.1 rfl ?_
    refine zV_cm_ne (tgt := 23) (pc' := 16) dX12_count_0.1.2.2.2 rfl rfl ⟨by omega, by omega⟩ ⟨by omega, by omega⟩ (fun c13 => ?_) (fun c13 => ?_)
    · refine zW_iload_n (pc' := 24) dX12_count_0.2.1.2.2 rfl rfl ?_
      refine zW_iconst (pc' := 25) dX12_count_0.2.2.1.1 rfl ?_
      refine zV_cm_ne (tgt := 35) (pc' := 28) dX12_count_0.2.2.1.2 rfl rfl ⟨by omega, by omega⟩ ⟨by omega, by omega⟩ (fun c25 => ?_) (fun c25 => ?_)
      · refine zW_iload_n (pc' := 36) dX12_count_1.1.1.1.2 rfl rfl ?_
        refine zW_iconst (pc' := 37) dX12_count_1.1.1.2 rfl ?_
        refine zV_cm_ne (tgt := 47) (pc' := 40) dX12_count_1.1.2.1 rfl rfl ⟨by omega, by omega⟩ ⟨by omega, by omega⟩ (fun c37 => ?_) (fun c37 => ?_)
        · refine zW_iconst (pc' := 48) dX12_count_1.2.2.1 rfl ?_
          exact zV_iret rfl dX12_count_1.2.2.2 ⟨rfl, trivial⟩
        · refine zW_aload_n (pc' := 41) dX12_count_1.1.2.2 rfl rfl ?_
          refine cvI0 (pc' := 44) kX12_filler vX12_filler lk_X12_196 ⟨Nat.le_of_ble_eq_true rfl, Nat.le_of_ble_eq_true rfl⟩ tb0 vq12 rfl rfl (s_X12_filler hK hF) dX12_count_1.2.1.1 (Nat.le_of_ble_eq_true rfl) rfl ?_
          rintro r41 z41 ⟨hz41, p41⟩; subst z41
          refine zV_goto 48 dX12_count_1.2.1.2 rfl ?_
          exact zV_iret rfl dX12_count_1.2.2.2 ⟨rfl, trivial⟩
      · refine zW_aload_n (pc' := 29) dX12_count_0.2.2.2.1 rfl rfl ?_
        refine zG_key (pc' := 32) hF rfl fg_X12_106 tb0 rfl dX12_count_0.2.2.2.2 rfl ?_
        refine zV_goto 48 dX12_count_1.1.1.1.1 rfl ?_
        exact zV_iret rfl dX12_count_1.2.2.2 ⟨rfl, trivial⟩
    · refine zW_aload_n (pc' := 17) dX12_count_0.2.1.1.1 rfl rfl ?_
      refine zG_key (pc' := 20) hF rfl fg_X12_116 tb0 rfl dX12_count_0.2.1.1.2 rfl ?_
      refine zV_goto 48 dX12_count_0.2.1.2.1 rfl ?_
      exact zV_iret rfl dX12_count_1.2.2.2 ⟨rfl, trivial⟩
  · refine zW_aload_n (pc' := 5) dX12_count_0.1.1.2.1 rfl rfl ?_
    refine zG_key (pc' := 8) hF rfl fg_X12_185 tb0 rfl dX12_count_0.1.1.2.2 rfl ?_
    refine zV_goto 48 dX12_count_0.1.2.1.1 rfl ?_
    exact zV_iret rfl dX12_count_1.2.2.2 ⟨rfl, trivial⟩

abbrev q_X12_binaryDigits (κ h : Hp) (x1 : Int) : Int → Hp → Prop := fun r h' => h' = h ∧ (True)
set_option maxHeartbeats 4000000 in
set_option maxRecDepth 20000 in
theorem s_X12_binaryDigits {G : Ga} {b : Bd} {κ h : Hp} (hF : Fr b κ h) (x1 : Int) (hx1 : 0 ≤ x1 ∧ x1 ≤ 2147483647) : zM G mX12_binaryDigits yX12_binaryDigits [.inl x1] h (q_X12_binaryDigits κ h x1) := by
  have main : ∀ N : Nat, (∀ (v1 v2 : Int) , (0 ≤ v2 ∧ v2 ≤ 2147483647) → 450971566290 + 15 * (v2) + 14 < (N : Int) → zV G mX12_binaryDigits (q_X12_binaryDigits κ h x1) 4 [some (.inl x1), some (.inl v1), some (.inl v2)] [] h) := by
    intro N
    induction N with
    | zero =>
      intro v1 v2 g0 hm
      exfalso; omega
    | succ N ih =>
      have k4 := ih
      intro v1 v2 g0 hm
      refine zW_iload_n (pc' := 5) dX12_binaryDigits_0.1.2.1.1 rfl rfl ?_
      refine zV_if_le (tgt := 19) (pc' := 8) dX12_binaryDigits_0.1.2.1.2 rfl rfl ⟨by omega, by omega⟩ (fun c5 => ?_) (fun c5 => ?_)
      · refine zW_iload_n (pc' := 20) dX12_binaryDigits_0.2.2.2.2 rfl rfl ?_
        exact zV_iret rfl dX12_binaryDigits_1 ⟨rfl, trivial⟩
      · refine zW_iload_n (pc' := 9) dX12_binaryDigits_0.1.2.2.1 rfl rfl ?_
        refine zW_iconst (pc' := 10) dX12_binaryDigits_0.1.2.2.2 rfl ?_
        refine zW_iadd (pc' := 11) dX12_binaryDigits_0.2.1.1.1 rfl ?_
        refine zW_istore_n (ls' := [_, _, _]) (pc' := 12) dX12_binaryDigits_0.2.1.1.2 (by decide) rfl rfl rfl ?_
        refine zW_iload_n (pc' := 13) dX12_binaryDigits_0.2.1.2.1 rfl rfl ?_
        refine zW_iconst (pc' := 14) dX12_binaryDigits_0.2.1.2.2 rfl ?_
        refine zW_idiv (pc' := 15) (by omega) (by omega) dX12_binaryDigits_0.2.2.1.1 rfl ?_
        refine zW_istore_n (ls' := [_, _, _]) (pc' := 16) dX12_binaryDigits_0.2.2.1.2 (by decide) rfl rfl rfl ?_
        refine zV_goto 4 dX12_binaryDigits_0.2.2.2.1 rfl ?_
        exact k4 _ _ (by omega) (by omega)
  refine zM_of [some (.inl x1), none, none] 2 rfl rfl (Nat.le_of_ble_eq_true rfl) rfl ?_
  refine zW_iconst (pc' := 1) dX12_binaryDigits_0.1.1.1.1 rfl ?_
  refine zW_istore_n (ls' := [_, _, _]) (pc' := 2) dX12_binaryDigits_0.1.1.1.2 (by decide) rfl rfl rfl ?_
  refine zW_iload_n (pc' := 3) dX12_binaryDigits_0.1.1.2.1 rfl rfl ?_
  refine zW_istore_n (ls' := [_, _, _]) (pc' := 4) dX12_binaryDigits_0.1.1.2.2 (by decide) rfl rfl rfl ?_
  exact (main 10000000000000000000000000000000000000000) _ _ (by omega) (by omega)
