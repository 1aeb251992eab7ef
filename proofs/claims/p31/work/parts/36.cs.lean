
abbrev q_X11_best (b : Bd) (κ : Hp) (x1 : Int) (x2 : Int) : Int → Hp → Prop := fun r h' => Fr b κ h' ∧ (True)
set_option maxHeartbeats 4000000 in
set_option maxRecDepth 20000 in
theorem s_X11_best {G : Ga} {b : Bd} {κ h : Hp} (hK : KC κ) (hF : Fr b κ h) (x1 : Int) (hx1 : rng x1) (x2 : Int) (hx2 : rng x2) (hSh : SheetOK b) (hTr : OkT b) (hX : XI G) : zM G mX11_best yX11_best [.inr (.inr 30), .inl x1, .inl x2] h (q_X11_best b κ x1 x2) := by
  have f_41_0 := KCm hK
  have f_41_1 := KCf hK
  have f_45_1 := KCr1 hK
  have f_49_1 := KCd1 hK
  unfold rng at hx1
  unfold rng at hx2
  have main : ∀ N : Nat, (∀ (v3 v4 v6 : Int) (h : Hp), Fr b κ h → (1 ≤ x1 ∧ x1 ≤ 12) → (x1 - κ 41 0 ≤ 0) → (0 ≤ x2 ∧ x2 ≤ 2) → (0 ≤ v3 ∧ v3 ≤ 8) → (0 ≤ v6 ∧ v6 ≤ 9) → 12342 + 34 * (9 - v6) + 33 < (N : Int) → zV G mX11_best (q_X11_best b κ x1 x2) 78 [some (.inr (.inr 30)), some (.inl x1), some (.inl x2), some (.inl v3), some (.inr (.inl v4)), none, some (.inl v6), none, none] [] h) := by
    intro N
    induction N with
    | zero =>
      intro v3 v4 v6 h hF g0 g1 g2 g3 g4 hm
      exfalso; omega
    | succ N ih =>
      have k78 := ih
      intro v3 v4 v6 h hF g0 g1 g2 g3 g4 hm
      refine zW_iload (pc' := 80) dX11_best_2.2.1.1.1 rfl rfl ?_
      refine zW_bipush (pc' := 82) dX11_best_2.2.1.1.2 rfl rfl ?_
      refine zV_cm_gt (tgt := 128) (pc' := 85) dX11_best_2.2.1.2.1 rfl rfl ⟨by omega, by omega⟩ ⟨by omega, by omega⟩ (fun c82 => ?_) (fun c82 => ?_)
      · refine zW_iload_n (pc' := 129) dX11_best_4.1 rfl rfl ?_
        exact zV_iret rfl dX11_best_4.2 ⟨hF, trivial⟩
      · refine zW_aload_n (pc' := 86) dX11_best_2.2.1.2.2 rfl rfl ?_
        refine zW_aload_n (pc' := 87) dX11_best_2.2.2.1.1 rfl rfl ?_
        refine zG_ref (pc' := 90) 54 fg_X11_51 tb30 rfl dX11_best_2.2.2.1.2 rfl ?_
        refine zW_iload_n (pc' := 91) dX11_best_2.2.2.2.1 rfl rfl ?_
        refine zW_iload (pc' := 93) dX11_best_2.2.2.2.2 rfl rfl ?_
        refine cvA2 (pc' := 96) kX1_lastWith vX1_lastWith lk_X11_380 ⟨Nat.le_of_ble_eq_true rfl, Nat.le_of_ble_eq_true rfl⟩ tb54 vq1 rfl rfl (s_X1_lastWith hK hF _ ⟨by omega, by omega, by omega⟩ _ ⟨by omega, by omega⟩ hSh hTr) dX11_best_3.1.1.1.1 (Nat.le_of_ble_eq_true rfl) rfl ?_
        rintro r93 h ⟨hF, p93⟩
        obtain ⟨q93, z93⟩ : ∃ z : Nat, z = r93.toNat := ⟨_, rfl⟩
        rw [← z93]
        refine zW_iload_n (pc' := 97) dX11_best_3.1.1.1.2 rfl rfl ?_
        refine cvL2 (pc' := 100) kX11_badness vX11_badness lk_X11_391 ⟨Nat.le_of_ble_eq_true rfl, Nat.le_of_ble_eq_true rfl⟩ tb30 vq11 rfl rfl (s_X11_badness hK hF _ ⟨by omega, by omega⟩ _ ⟨by omega, by omega⟩) dX11_best_3.1.1.2.1 (Nat.le_of_ble_eq_true rfl) rfl ?_
        rintro r97 h ⟨hF, p97⟩
        refine zW_lstore (ls' := [_, _, _, _, _, _, _, _, _]) (pc' := 102) dX11_best_3.1.1.2.2 (by decide) rfl rfl rfl ?_
        refine zW_iload (pc' := 104) dX11_best_3.1.2.1.1 rfl rfl ?_
        refine zV_if_eq (tgt := 115) (pc' := 107) dX11_best_3.1.2.1.2 rfl rfl ⟨by omega, by omega⟩ (fun c104 => ?_) (fun c104 => ?_)
        · refine zW_lload (pc' := 117) dX11_best_3.2.1.2.1 rfl rfl ?_
          refine zW_lstore (ls' := [_, _, _, _, _, _, _, _, _]) (pc' := 119) dX11_best_3.2.1.2.2 (by decide) rfl rfl rfl ?_
          refine zW_iload (pc' := 121) dX11_best_3.2.2.1.1 rfl rfl ?_
          refine zW_istore_n (ls' := [_, _, _, _, _, _, _, _, _]) (pc' := 122) dX11_best_3.2.2.1.2 (by decide) rfl rfl rfl ?_
          refine zW_iinc (ls' := [_, _, _, _, _, _, _, _, _]) (pc' := 125) dX11_best_3.2.2.2.1 rfl (by decide) rfl rfl rfl ?_
          refine zV_goto 78 dX11_best_3.2.2.2.2 rfl ?_
          refine zV_clr 7 (ls' := [_, _, _, _, _, _, _, _, _]) rfl ?_
          exact k78 _ _ _ _ hF (by omega) (by omega) (by omega) (by omega) (by omega) (by omega)
        · refine zW_lload (pc' := 109) dX11_best_3.1.2.2.1 rfl rfl ?_
          refine zW_lload (pc' := 111) dX11_best_3.1.2.2.2 rfl rfl ?_
          refine zV_lcmp (pc' := 112) dX11_best_3.2.1.1.1 rfl (fun v111 e111 => ?_)
          unfold rng at e111
          refine zV_if_ge (tgt := 122) (pc' := 115) dX11_best_3.2.1.1.2 rfl rfl ⟨by omega, by omega⟩ (fun c112 => ?_) (fun c112 => ?_)
          · refine zW_iinc (ls' := [_, _, _, _, _, _, _, _, _]) (pc' := 125) dX11_best_3.2.2.2.1 rfl (by decide) rfl rfl rfl ?_
            refine zV_goto 78 dX11_best_3.2.2.2.2 rfl ?_
            refine zV_clr 7 (ls' := [_, _, _, _, _, _, _, _, _]) rfl ?_
            exact k78 _ _ _ _ hF (by omega) (by omega) (by omega) (by omega) (by omega) (by omega)
          · refine zW_lload (pc' := 117) dX11_best_3.2.1.2.1 rfl rfl ?_
            refine zW_lstore (ls' := [_, _, _, _, _, _, _, _, _]) (pc' := 119) dX11_best_3.2.1.2.2 (by decide) rfl rfl rfl ?_
            refine zW_iload (pc' := 121) dX11_best_3.2.2.1.1 rfl rfl ?_
            refine zW_istore_n (ls' := [_, _, _, _, _, _, _, _, _]) (pc' := 122) dX11_best_3.2.2.1.2 (by decide) rfl rfl rfl ?_
            refine zW_iinc (ls' := [_, _, _, _, _, _, _, _, _]) (pc' := 125) dX11_best_3.2.2.2.1 rfl (by decide) rfl rfl rfl ?_
            refine zV_goto 78 dX11_best_3.2.2.2.2 rfl ?_
            refine zV_clr 7 (ls' := [_, _, _, _, _, _, _, _, _]) rfl ?_
            exact k78 _ _ _ _ hF (by omega) (by omega) (by omega) (by omega) (by omega) (by omega)
  refine zM_of [some (.inr (.inr 30)), some (.inl x1), some (.inl x2), none, none, none, none, none, none] 6 rfl rfl (Nat.le_of_ble_eq_true rfl) rfl ?_
  refine zW_aload_n (pc' := 1) dX11_best_0.1.1.1.1 rfl rfl ?_
  refine zG_ref (pc' := 4) 41 fg_X11_33 tb30 rfl dX11_best_0.1.1.1.2 rfl ?_
  refine zW_iload_n (pc' := 5) dX11_best_0.1.1.2.1 rfl rfl ?_
  refine cvI1 (pc' := 8) kX7_has vX7_has lk_X11_178 ⟨Nat.le_of_ble_eq_true rfl, Nat.le_of_ble_eq_true rfl⟩ tb41 vq7 rfl rfl (s_X7_has hK hF _ ⟨by omega, by omega⟩) dX11_best_0.1.1.2.2 (Nat.le_of_ble_eq_true rfl) rfl ?_
  rintro r5 z5 ⟨hz5, p5⟩; subst z5
  refine zV_if_eq (tgt := 19) (pc' := 11) dX11_best_0.1.2.1.1 rfl rfl ⟨by omega, by omega⟩ (fun c8 => ?_) (fun c8 => ?_)
  · refine zW_iconst (pc' := 20) dX11_best_0.2.1.1.2 rfl ?_
    exact zV_iret rfl dX11_best_0.2.1.2.1 ⟨hF, trivial⟩
  · refine zW_iload_n (pc' := 12) dX11_best_0.1.2.1.2 rfl rfl ?_
    refine zW_iconst (pc' := 13) dX11_best_0.1.2.2.1 rfl ?_
    refine csI2 (pc' := 16) kX11_isWithin vX11_isWithin lk_X11_116 ⟨Nat.le_of_ble_eq_true rfl, Nat.le_of_ble_eq_true rfl⟩ rfl (s_X11_isWithinR hF _ ⟨by omega, by omega⟩ _ ⟨by omega, by omega⟩) dX11_best_0.1.2.2.2 (Nat.le_of_ble_eq_true rfl) rfl ?_
    rintro r13 z13 ⟨hz13, p13⟩; subst z13
    refine zV_if_ne (tgt := 21) (pc' := 19) dX11_best_0.2.1.1.1 rfl rfl ⟨by omega, by omega⟩ (fun c16 => ?_) (fun c16 => ?_)
    · refine zV_ldc_wS (k := 107) (pc' := 24) (fun U hU => (hX U hU).2.2.2.1) dX11_best_0.2.1.2.2 rfl ?_
      refine zW_aload_n (pc' := 25) dX11_best_0.2.2.1.1 rfl rfl ?_
      refine zG_ref (pc' := 28) 41 fg_X11_33 tb30 rfl dX11_best_0.2.2.1.2 rfl ?_
      refine zW_iload_n (pc' := 29) dX11_best_0.2.2.2.1 rfl rfl ?_
      refine cvI1 (pc' := 32) kX7_letterOf vX7_letterOf lk_X11_180 ⟨Nat.le_of_ble_eq_true rfl, Nat.le_of_ble_eq_true rfl⟩ tb41 vq7 rfl rfl (s_X7_letterOf hK hF _ ⟨by omega, by omega⟩) dX11_best_0.2.2.2.2 (Nat.le_of_ble_eq_true rfl) rfl ?_
      rintro r29 z29 ⟨hz29, p29⟩; subst z29
      refine zW_i2c (pc' := 33) dX11_best_1.1.1.1.1 rfl (fun v32 e32 => ?_)
      unfold rng at e32
      refine cwI1 (z := 1) hX (by decide) rfl (pc' := 36) kJ0_indexOf_0f7a4 vJ0_indexOf_0f7a4 lk_X11_386 ⟨Nat.le_of_ble_eq_true rfl, Nat.le_of_ble_eq_true rfl⟩ rfl (s_J0_indexOf_0f7a4S1 hF _ ⟨by omega, by omega⟩ hX) dX11_best_1.1.1.1.2 (Nat.le_of_ble_eq_true rfl) rfl ?_
      rintro r33 z33 ⟨hz33, p33⟩; subst z33
      refine zV_if_ge (tgt := 42) (pc' := 39) dX11_best_1.1.1.2.1 rfl rfl ⟨by omega, by omega⟩ (fun c36 => ?_) (fun c36 => ?_)
      · refine zW_aload_n (pc' := 43) dX11_best_1.1.2.1.2 rfl rfl ?_
        refine zG_ref (pc' := 46) 41 fg_X11_33 tb30 rfl dX11_best_1.1.2.2.1 rfl ?_
        refine zG_key (pc' := 49) hF rfl fg_X11_248 tb41 rfl dX11_best_1.1.2.2.2 rfl ?_
        refine zV_if_eq (tgt := 67) (pc' := 52) dX11_best_1.2.1.1.1 rfl rfl ⟨by omega, by omega⟩ (fun c49 => ?_) (fun c49 => ?_)
        · refine zW_bipush (pc' := 69) dX11_best_2.1.1.1.1 rfl rfl ?_
          exact zV_iret rfl dX11_best_2.1.1.1.2 ⟨hF, trivial⟩
        · refine zW_iload_n (pc' := 53) dX11_best_1.2.1.1.2 rfl rfl ?_
          refine zW_iconst (pc' := 54) dX11_best_1.2.1.2.1 rfl ?_
          refine zV_cm_ne (tgt := 70) (pc' := 57) dX11_best_1.2.1.2.2 rfl rfl ⟨by omega, by omega⟩ ⟨by omega, by omega⟩ (fun c54 => ?_) (fun c54 => ?_)
          · refine zW_iconst (pc' := 71) dX11_best_2.1.1.2.1 rfl ?_
            refine zW_istore_n (ls' := [_, _, _, _, _, _, _, _, _]) (pc' := 72) dX11_best_2.1.1.2.2 (by decide) rfl rfl rfl ?_
            refine zW_lconst (pc' := 73) dX11_best_2.1.2.1.1 rfl ?_
            refine zW_lstore (ls' := [_, _, _, _, _, _, _, _, _]) (pc' := 75) dX11_best_2.1.2.1.2 (by decide) rfl rfl rfl ?_
            refine zW_iconst (pc' := 76) dX11_best_2.1.2.2.1 rfl ?_
            refine zW_istore (ls' := [_, _, _, _, _, _, _, _, _]) (pc' := 78) dX11_best_2.1.2.2.2 (by decide) rfl rfl rfl ?_
            exact (main 10000000000000000000000000000000000000000) _ _ _ _ hF (by omega) (by omega) (by omega) (by omega) (by omega) (by omega)
          · refine zW_aload_n (pc' := 58) dX11_best_1.2.2.1.1 rfl rfl ?_
            refine zG_ref (pc' := 61) 39 fg_X11_26 tb30 rfl dX11_best_1.2.2.1.2 rfl ?_
            refine zG_key (pc' := 64) hF rfl fg_X11_169 tb39 rfl dX11_best_1.2.2.2.1 rfl ?_
            refine zV_ifQ_ne (tgt := 70) (pc' := 67) dX11_best_1.2.2.2.2 rfl rfl ?_ ?_
            · refine zW_iconst (pc' := 71) dX11_best_2.1.1.2.1 rfl ?_
              refine zW_istore_n (ls' := [_, _, _, _, _, _, _, _, _]) (pc' := 72) dX11_best_2.1.1.2.2 (by decide) rfl rfl rfl ?_
              refine zW_lconst (pc' := 73) dX11_best_2.1.2.1.1 rfl ?_
              refine zW_lstore (ls' := [_, _, _, _, _, _, _, _, _]) (pc' := 75) dX11_best_2.1.2.1.2 (by decide) rfl rfl rfl ?_
              refine zW_iconst (pc' := 76) dX11_best_2.1.2.2.1 rfl ?_
              refine zW_istore (ls' := [_, _, _, _, _, _, _, _, _]) (pc' := 78) dX11_best_2.1.2.2.2 (by decide) rfl rfl rfl ?_
              exact (main 10000000000000000000000000000000000000000) _ _ _ _ hF (by omega) (by omega) (by omega) (by omega) (by omega) (by omega)
            · refine zW_bipush (pc' := 69) dX11_best_2.1.1.1.1 rfl rfl ?_
              exact zV_iret rfl dX11_best_2.1.1.1.2 ⟨hF, trivial⟩
      · refine zW_bipush (pc' := 41) dX11_best_1.1.1.2.2 rfl rfl ?_
        exact zV_iret rfl dX11_best_1.1.2.1.1 ⟨hF, trivial⟩
    · refine zW_iconst (pc' := 20) dX11_best_0.2.1.1.2 rfl ?_
      exact zV_iret rfl dX11_best_0.2.1.2.1 ⟨hF, trivial⟩
