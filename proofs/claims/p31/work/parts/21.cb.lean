abbrev q_X0_put (b : Bd) (κ : Hp) (x1 : Int) (x2 : Int) (x3 : Int) : Int → Hp → Prop := fun r h' => Fr b κ h' ∧ (True)
set_option maxHeartbeats 4000000 in
set_option maxRecDepth 20000 in
theorem s_X0_put {G : Ga} {b : Bd} {κ h : Hp} (hK : KC κ) (hF : Fr b κ h) (x1 : Int) (hx1 : rng x1) (x2 : Int) (hx2 : rng x2) (x3 : Int) (hx3 : 0 ≤ x3 ∧ x3 ≤ 1) : zM G mX0_put yX0_put [.inr (.inr 98), .inl x1, .inl x2, .inl x3] h (q_X0_put b κ x1 x2 x3) := by
  have f_33_0 := KCw hK
  have f_33_1 := KCh hK
  unfold rng at hx1
  unfold rng at hx2
  refine zM_of [some (.inr (.inr 98)), some (.inl x1), some (.inl x2), some (.inl x3)] 0 rfl rfl (Nat.le_of_ble_eq_true rfl) rfl ?_
  refine zW_aload_n (pc' := 1) dX0_put_0.1.1.1.1 rfl rfl ?_
  refine zG_ref (pc' := 4) 33 fg_X0_21 tb98 rfl dX0_put_0.1.1.1.2 rfl ?_
  refine zW_iload_n (pc' := 5) dX0_put_0.1.1.2.1 rfl rfl ?_
  refine zW_iload_n (pc' := 6) dX0_put_0.1.1.2.2 rfl rfl ?_
  refine cvI2 (pc' := 9) kX5_has vX5_has lk_X0_25 ⟨Nat.le_of_ble_eq_true rfl, Nat.le_of_ble_eq_true rfl⟩ tb33 vq5 rfl rfl (s_X5_has hK hF _ ⟨by omega, by omega⟩ _ ⟨by omega, by omega⟩) dX0_put_0.1.2.1.1 (Nat.le_of_ble_eq_true rfl) rfl ?_
  rintro r6 z6 ⟨hz6, p6⟩; subst z6
  refine zV_if_eq (tgt := 32) (pc' := 12) dX0_put_0.1.2.1.2 rfl rfl ⟨by omega, by omega⟩ (fun c9 => ?_) (fun c9 => ?_)
  · exact zV_vret rfl dX0_put_1.2.2 ⟨hF, trivial⟩
  · refine zW_aload_n (pc' := 13) dX0_put_0.1.2.2.1 rfl rfl ?_
    refine zG_ref (pc' := 16) 99 fg_X0_9 tb98 rfl dX0_put_0.1.2.2.2 rfl ?_
    refine zW_iload_n (pc' := 17) dX0_put_0.2.1.1.1 rfl rfl ?_
    refine zW_bipush (pc' := 19) dX0_put_0.2.1.1.2 rfl rfl ?_
    refine zW_imul (pc' := 20) dX0_put_0.2.1.2.1 rfl ?_
    refine zW_iload_n (pc' := 21) dX0_put_0.2.1.2.2 rfl rfl ?_
    refine zW_iadd (pc' := 22) dX0_put_0.2.2.1.1 rfl ?_
    refine zW_iload_n (pc' := 23) dX0_put_0.2.2.1.2 rfl rfl ?_
    refine zV_if_eq (tgt := 30) (pc' := 26) dX0_put_0.2.2.2.1 rfl rfl ⟨by omega, by omega⟩ (fun c23 => ?_) (fun c23 => ?_)
    · refine zW_iconst (pc' := 31) dX0_put_1.1.2 rfl ?_
      refine zS_i (pc' := 32) hF rfl tb99 (by omega) dX0_put_1.2.1 (by decide) rfl (fun h i31 hF a31 b31 w31 => ?_)
      exact zV_vret rfl dX0_put_1.2.2 ⟨hF, trivial⟩
    · refine zW_iconst (pc' := 27) dX0_put_0.2.2.2.2 rfl ?_
      refine zV_goto 31 dX0_put_1.1.1 rfl ?_
      refine zS_i (pc' := 32) hF rfl tb99 (by omega) dX0_put_1.2.1 (by decide) rfl (fun h i31 hF a31 b31 w31 => ?_)
      exact zV_vret rfl dX0_put_1.2.2 ⟨hF, trivial⟩


abbrev q_X0_marked (κ h : Hp)  : Int → Hp → Prop := fun r h' => h' = h ∧ (True)
set_option maxHeartbeats 4000000 in
set_option maxRecDepth 20000 in
theorem s_X0_marked {G : Ga} {b : Bd} {κ h : Hp} (hK : KC κ) (hF : Fr b κ h)  : zM G mX0_marked yX0_marked [.inr (.inr 98)] h (q_X0_marked κ h) := by
  refine zM_of [some (.inr (.inr 98))] 0 rfl rfl (Nat.le_of_ble_eq_true rfl) rfl ?_
  refine zW_aload_n (pc' := 1) dX0_marked_0.1.1.1 rfl rfl ?_
  refine zG_ref (pc' := 4) 33 fg_X0_21 tb98 rfl dX0_marked_0.1.1.2 rfl ?_
  refine zW_aload_n (pc' := 5) dX0_marked_0.1.2 rfl rfl ?_
  refine zG_ref (pc' := 8) 99 fg_X0_9 tb98 rfl dX0_marked_0.2.1.1 rfl ?_
  refine cvI1 (pc' := 11) kX5_sumOf vX5_sumOf lk_X0_48 ⟨Nat.le_of_ble_eq_true rfl, Nat.le_of_ble_eq_true rfl⟩ tb33 vq5 rfl rfl (s_X5_sumOf hK hF _ tb99 (by decide)) dX0_marked_0.2.1.2 (Nat.le_of_ble_eq_true rfl) rfl ?_
  rintro r8 z8 ⟨hz8, p8⟩; subst z8
  exact zV_iret rfl dX0_marked_0.2.2 ⟨rfl, trivial⟩

abbrev q_X0_markedAnd (κ h : Hp) (l1 : Nat) : Int → Hp → Prop := fun r h' => h' = h ∧ (True)
set_option maxHeartbeats 4000000 in
set_option maxRecDepth 20000 in
theorem s_X0_markedAnd {G : Ga} {b : Bd} {κ h : Hp} (hK : KC κ) (hF : Fr b κ h) (l1 : Nat) (ht_l1 : tab[l1]? = some (1, 0, [256])) (hb_l1 : 256 < 2147483648) : zM G mX0_markedAnd yX0_markedAnd [.inr (.inr 98), .inr (.inr l1)] h (q_X0_markedAnd κ h l1) := by
  have f_33_0 := KCw hK
  have f_33_1 := KCh hK
  have main : ∀ N : Nat, (∀ (v2 v3 : Int) , (0 ≤ v3 ∧ v3 ≤ 16) → (v3 - κ 33 1 ≤ 0) → 14405040 + 21060 * (16 - v3) + 20520 < (N : Int) → zV G mX0_markedAnd (q_X0_markedAnd κ h l1) 4 [some (.inr (.inr 98)), some (.inr (.inr l1)), some (.inl v2), some (.inl v3), none] [] h) ∧ (∀ (v2 v3 v4 : Int) , (0 ≤ v3 ∧ v3 ≤ 15) → (v3 - κ 33 1 ≤ -1) → (0 ≤ v4 ∧ v4 ≤ 16) → (v4 - κ 33 0 ≤ 0) → 14405040 + 21060 * (16 - v3) + 15660 + 30 * (16 - v4) + 29 < (N : Int) → zV G mX0_markedAnd (q_X0_markedAnd κ h l1) 18 [some (.inr (.inr 98)), some (.inr (.inr l1)), some (.inl v2), some (.inl v3), some (.inl v4)] [] h) := by
    intro N
    induction N with
    | zero =>
      refine ⟨?_, ?_⟩
      · intro v2 v3 g0 g1 hm
        exfalso; omega
      · intro v2 v3 v4 g0 g1 g2 g3 hm
        exfalso; omega
    | succ N ih =>
      obtain ⟨k4, k18⟩ := ih
      refine ⟨?_, ?_⟩
      · intro v2 v3 g0 g1 hm
        refine zW_iload_n (pc' := 5) dX0_markedAnd_0.1.2.1.1 rfl rfl ?_
        refine zW_aload_n (pc' := 6) dX0_markedAnd_0.1.2.1.2 rfl rfl ?_
        refine zG_ref (pc' := 9) 33 fg_X0_21 tb98 rfl dX0_markedAnd_0.1.2.2.1 rfl ?_
        refine zG_key (pc' := 12) hF rfl fg_X0_31 tb33 rfl dX0_markedAnd_0.1.2.2.2 rfl ?_
        refine zV_cm_ge (tgt := 67) (pc' := 15) dX0_markedAnd_0.2.1.1.1 rfl rfl ⟨by omega, by omega⟩ ⟨by omega, by omega⟩ (fun c12 => ?_) (fun c12 => ?_)
        · refine zW_iload_n (pc' := 68) dX0_markedAnd_2.2.2.1 rfl rfl ?_
          exact zV_iret rfl dX0_markedAnd_2.2.2.2 ⟨rfl, trivial⟩
        · refine zW_iconst (pc' := 16) dX0_markedAnd_0.2.1.1.2 rfl ?_
          refine zW_istore (ls' := [_, _, _, _, _]) (pc' := 18) dX0_markedAnd_0.2.1.2.1 (by decide) rfl rfl rfl ?_
          exact k18 _ _ _ (by omega) (by omega) (by omega) (by omega) (by omega)
      · intro v2 v3 v4 g0 g1 g2 g3 hm
        refine zW_iload (pc' := 20) dX0_markedAnd_0.2.1.2.2 rfl rfl ?_
        refine zW_aload_n (pc' := 21) dX0_markedAnd_0.2.2.1.1 rfl rfl ?_
        refine zG_ref (pc' := 24) 33 fg_X0_21 tb98 rfl dX0_markedAnd_0.2.2.1.2 rfl ?_
        refine zG_key (pc' := 27) hF rfl fg_X0_35 tb33 rfl dX0_markedAnd_0.2.2.2.1 rfl ?_
        refine zV_cm_ge (tgt := 61) (pc' := 30) dX0_markedAnd_0.2.2.2.2 rfl rfl ⟨by omega, by omega⟩ ⟨by omega, by omega⟩ (fun c27 => ?_) (fun c27 => ?_)
        · refine zW_iinc (ls' := [_, _, _, _, _]) (pc' := 64) dX0_markedAnd_2.2.1.1 rfl (by decide) rfl rfl rfl ?_
          refine zV_goto 4 dX0_markedAnd_2.2.1.2 rfl ?_
          refine zV_clr 4 (ls' := [_, _, _, _, _]) rfl ?_
          exact k4 _ _ (by omega) (by omega) (by omega)
        · refine zW_iload_n (pc' := 31) dX0_markedAnd_1.1.1.1.1 rfl rfl ?_
          refine zW_aload_n (pc' := 32) dX0_markedAnd_1.1.1.1.2 rfl rfl ?_
          refine zG_ref (pc' := 35) 99 fg_X0_9 tb98 rfl dX0_markedAnd_1.1.1.2.1 rfl ?_
          refine zW_iload_n (pc' := 36) dX0_markedAnd_1.1.1.2.2 rfl rfl ?_
          refine zW_bipush (pc' := 38) dX0_markedAnd_1.1.2.1.1 rfl rfl ?_
          refine zW_imul (pc' := 39) dX0_markedAnd_1.1.2.1.2 rfl ?_
          refine zW_iload (pc' := 41) dX0_markedAnd_1.1.2.2.1 rfl rfl ?_
          refine zW_iadd (pc' := 42) dX0_markedAnd_1.1.2.2.2 rfl ?_
          refine zV_iald (pc' := 43) tb99 (by omega) dX0_markedAnd_1.2.1.1.1 (by decide) rfl ?_
          refine zW_aload_n (pc' := 44) dX0_markedAnd_1.2.1.1.2 rfl rfl ?_
          refine zW_iload_n (pc' := 45) dX0_markedAnd_1.2.1.2.1 rfl rfl ?_
          refine zW_bipush (pc' := 47) dX0_markedAnd_1.2.1.2.2 rfl rfl ?_
          refine zW_imul (pc' := 48) dX0_markedAnd_1.2.2.1.1 rfl ?_
          refine zW_iload (pc' := 50) dX0_markedAnd_1.2.2.1.2 rfl rfl ?_
          refine zW_iadd (pc' := 51) dX0_markedAnd_1.2.2.2.1 rfl ?_
          refine zV_iald (pc' := 52) ht_l1 (by omega) dX0_markedAnd_1.2.2.2.2 hb_l1 rfl ?_
          refine zW_iandQ (pc' := 53) dX0_markedAnd_2.1.1.1.1 rfl (fun v52 e52 => ?_)
          unfold rng at e52
          refine zW_iadd (pc' := 54) dX0_markedAnd_2.1.1.1.2 rfl ?_
          refine zW_istore_n (ls' := [_, _, _, _, _]) (pc' := 55) dX0_markedAnd_2.1.1.2 (by decide) rfl rfl rfl ?_
          refine zW_iinc (ls' := [_, _, _, _, _]) (pc' := 58) dX0_markedAnd_2.1.2.1 rfl (by decide) rfl rfl rfl ?_
          refine zV_goto 18 dX0_markedAnd_2.1.2.2 rfl ?_
          exact k18 _ _ _ (by omega) (by omega) (by omega) (by omega) (by omega)
  refine zM_of [some (.inr (.inr 98)), some (.inr (.inr l1)), none, none, none] 3 rfl rfl (Nat.le_of_ble_eq_true rfl) rfl ?_
  refine zW_iconst (pc' := 1) dX0_markedAnd_0.1.1.1.1 rfl ?_
  refine zW_istore_n (ls' := [_, _, _, _, _]) (pc' := 2) dX0_markedAnd_0.1.1.1.2 (by decide) rfl rfl rfl ?_
  refine zW_iconst (pc' := 3) dX0_markedAnd_0.1.1.2.1 rfl ?_
  refine zW_istore_n (ls' := [_, _, _, _, _]) (pc' := 4) dX0_markedAnd_0.1.1.2.2 (by decide) rfl rfl rfl ?_
  exact (main 10000000000000000000000000000000000000000).1 _ _ (by omega) (by omega) (by omega)

abbrev q_X0_firstMarked (κ h : Hp)  : Int → Hp → Prop := fun r h' => h' = h ∧ (True)
set_option maxHeartbeats 4000000 in
set_option maxRecDepth 20000 in
theorem s_X0_firstMarked {G : Ga} {b : Bd} {κ h : Hp} (hK : KC κ) (hF : Fr b κ h)  : zM G mX0_firstMarked yX0_firstMarked [.inr (.inr 98)] h (q_X0_firstMarked κ h) := by
  have f_33_0 := KCw hK
  have f_33_1 := KCh hK
  have main : ∀ N : Nat, (∀ (v1 : Int) , (0 ≤ v1 ∧ v1 ≤ 16) → (v1 - κ 33 1 ≤ 0) → 11022480 + 17496 * (16 - v1) + 17010 < (N : Int) → zV G mX0_firstMarked (q_X0_firstMarked κ h) 2 [some (.inr (.inr 98)), some (.inl v1), none] [] h) ∧ (∀ (v1 v2 : Int) , (0 ≤ v1 ∧ v1 ≤ 15) → (v1 - κ 33 1 ≤ -1) → (0 ≤ v2 ∧ v2 ≤ 16) → (v2 - κ 33 0 ≤ 0) → 11022480 + 17496 * (16 - v1) + 12636 + 27 * (16 - v2) + 26 < (N : Int) → zV G mX0_firstMarked (q_X0_firstMarked κ h) 15 [some (.inr (.inr 98)), some (.inl v1), some (.inl v2)] [] h) := by
    intro N
    induction N with
    | zero =>
      refine ⟨?_, ?_⟩
      · intro v1 g0 g1 hm
        exfalso; omega
      · intro v1 v2 g0 g1 g2 g3 hm
        exfalso; omega
    | succ N ih =>
      obtain ⟨k2, k15⟩ := ih
      refine ⟨?_, ?_⟩
      · intro v1 g0 g1 hm
        refine zW_iload_n (pc' := 3) dX0_firstMarked_0.1.1.2.1 rfl rfl ?_
        refine zW_aload_n (pc' := 4) dX0_firstMarked_0.1.1.2.2 rfl rfl ?_
        refine zG_ref (pc' := 7) 33 fg_X0_21 tb98 rfl dX0_firstMarked_0.1.2.1.1 rfl ?_
        refine zG_key (pc' := 10) hF rfl fg_X0_31 tb33 rfl dX0_firstMarked_0.1.2.1.2 rfl ?_
        refine zV_cm_ge (tgt := 60) (pc' := 13) dX0_firstMarked_0.1.2.2.1 rfl rfl ⟨by omega, by omega⟩ ⟨by omega, by omega⟩ (fun c10 => ?_) (fun c10 => ?_)
        · refine zW_bipush (pc' := 62) dX0_firstMarked_2.2.1 rfl rfl ?_
          exact zV_iret rfl dX0_firstMarked_2.2.2 ⟨rfl, trivial⟩
        · refine zW_iconst (pc' := 14) dX0_firstMarked_0.1.2.2.2 rfl ?_
          refine zW_istore_n (ls' := [_, _, _]) (pc' := 15) dX0_firstMarked_0.2.1.1.1 (by decide) rfl rfl rfl ?_
          exact k15 _ _ (by omega) (by omega) (by omega) (by omega) (by omega)
      · intro v1 v2 g0 g1 g2 g3 hm
        refine zW_iload_n (pc' := 16) dX0_firstMarked_0.2.1.1.2 rfl rfl ?_
        refine zW_aload_n (pc' := 17) dX0_firstMarked_0.2.1.2.1 rfl rfl ?_
        refine zG_ref (pc' := 20) 33 fg_X0_21 tb98 rfl dX0_firstMarked_0.2.1.2.2 rfl ?_
        refine zG_key (pc' := 23) hF rfl fg_X0_35 tb33 rfl dX0_firstMarked_0.2.2.1.1 rfl ?_
        refine zV_cm_ge (tgt := 54) (pc' := 26) dX0_firstMarked_0.2.2.1.2 rfl rfl ⟨by omega, by omega⟩ ⟨by omega, by omega⟩ (fun c23 => ?_) (fun c23 => ?_)
        · refine zW_iinc (ls' := [_, _, _]) (pc' := 57) dX0_firstMarked_2.1.1 rfl (by decide) rfl rfl rfl ?_
          refine zV_goto 2 dX0_firstMarked_2.1.2 rfl ?_
          refine zV_clr 2 (ls' := [_, _, _]) rfl ?_
          exact k2 _ (by omega) (by omega) (by omega)
        · refine zW_aload_n (pc' := 27) dX0_firstMarked_0.2.2.2.1 rfl rfl ?_
          refine zG_ref (pc' := 30) 99 fg_X0_9 tb98 rfl dX0_firstMarked_0.2.2.2.2 rfl ?_
          refine zW_iload_n (pc' := 31) dX0_firstMarked_1.1.1.1.1 rfl rfl ?_
          refine zW_bipush (pc' := 33) dX0_firstMarked_1.1.1.1.2 rfl rfl ?_
          refine zW_imul (pc' := 34) dX0_firstMarked_1.1.1.2.1 rfl ?_
          refine zW_iload_n (pc' := 35) dX0_firstMarked_1.1.1.2.2 rfl rfl ?_
          refine zW_iadd (pc' := 36) dX0_firstMarked_1.1.2.1.1 rfl ?_
          refine zV_iald (pc' := 37) tb99 (by omega) dX0_firstMarked_1.1.2.1.2 (by decide) rfl ?_
          refine zW_iconst (pc' := 38) dX0_firstMarked_1.1.2.2.1 rfl ?_
          refine zV_cmQ_ne (tgt := 48) (pc' := 41) dX0_firstMarked_1.1.2.2.2 rfl rfl ?_ ?_
          · refine zW_iinc (ls' := [_, _, _]) (pc' := 51) dX0_firstMarked_1.2.2.2.1 rfl (by decide) rfl rfl rfl ?_
            refine zV_goto 15 dX0_firstMarked_1.2.2.2.2 rfl ?_
            exact k15 _ _ (by omega) (by omega) (by omega) (by omega) (by omega)
          · refine zW_iload_n (pc' := 42) dX0_firstMarked_1.2.1.1.1 rfl rfl ?_
            refine zW_bipush (pc' := 44) dX0_firstMarked_1.2.1.1.2 rfl rfl ?_
            refine zW_imul (pc' := 45) dX0_firstMarked_1.2.1.2.1 rfl ?_
            refine zW_iload_n (pc' := 46) dX0_firstMarked_1.2.1.2.2 rfl rfl ?_
            refine zW_iadd (pc' := 47) dX0_firstMarked_1.2.2.1.1 rfl ?_
            exact zV_iret rfl dX0_firstMarked_1.2.2.1.2 ⟨rfl, trivial⟩
  refine zM_of [some (.inr (.inr 98)), none, none] 2 rfl rfl (Nat.le_of_ble_eq_true rfl) rfl ?_
  refine zW_iconst (pc' := 1) dX0_firstMarked_0.1.1.1.1 rfl ?_
  refine zW_istore_n (ls' := [_, _, _]) (pc' := 2) dX0_firstMarked_0.1.1.1.2 (by decide) rfl rfl rfl ?_
  exact (main 10000000000000000000000000000000000000000).1 _ (by omega) (by omega) (by omega)

abbrev q_X0_lastMarked (κ h : Hp)  : Int → Hp → Prop := fun r h' => h' = h ∧ (True)
set_option maxHeartbeats 4000000 in
set_option maxRecDepth 20000 in
theorem s_X0_lastMarked {G : Ga} {b : Bd} {κ h : Hp} (hK : KC κ) (hF : Fr b κ h)  : zM G mX0_lastMarked yX0_lastMarked [.inr (.inr 98)] h (q_X0_lastMarked κ h) := by
  have f_33_0 := KCw hK
  have f_33_1 := KCh hK
  have main : ∀ N : Nat, (∀ (v1 v2 : Int) , (-2 ≤ v1 ∧ v1 ≤ 255) → (0 ≤ v2 ∧ v2 ≤ 16) → (v2 - κ 33 1 ≤ 0) → 11022480 + 17496 * (16 - v2) + 17010 < (N : Int) → zV G mX0_lastMarked (q_X0_lastMarked κ h) 5 [some (.inr (.inr 98)), some (.inl v1), some (.inl v2), none] [] h) ∧ (∀ (v1 v2 v3 : Int) , (-2 ≤ v1 ∧ v1 ≤ 255) → (0 ≤ v2 ∧ v2 ≤ 15) → (v2 - κ 33 1 ≤ -1) → (0 ≤ v3 ∧ v3 ≤ 16) → (v3 - κ 33 0 ≤ 0) → 11022480 + 17496 * (16 - v2) + 12636 + 27 * (16 - v3) + 26 < (N : Int) → zV G mX0_lastMarked (q_X0_lastMarked κ h) 18 [some (.inr (.inr 98)), some (.inl v1), some (.inl v2), some (.inl v3)] [] h) := by
    intro N
    induction N with
    | zero =>
      refine ⟨?_, ?_⟩
      · intro v1 v2 g0 g1 g2 hm
        exfalso; omega
      · intro v1 v2 v3 g0 g1 g2 g3 g4 hm
        exfalso; omega
    | succ N ih =>
      obtain ⟨k5, k18⟩ := ih
      refine ⟨?_, ?_⟩
      · intro v1 v2 g0 g1 g2 hm
        refine zW_iload_n (pc' := 6) dX0_lastMarked_0.1.2.1.1 rfl rfl ?_
        refine zW_aload_n (pc' := 7) dX0_lastMarked_0.1.2.1.2 rfl rfl ?_
        refine zG_ref (pc' := 10) 33 fg_X0_21 tb98 rfl dX0_lastMarked_0.1.2.2.1 rfl ?_
        refine zG_key (pc' := 13) hF rfl fg_X0_31 tb33 rfl dX0_lastMarked_0.1.2.2.2 rfl ?_
        refine zV_cm_ge (tgt := 63) (pc' := 16) dX0_lastMarked_0.2.1.1.1 rfl rfl ⟨by omega, by omega⟩ ⟨by omega, by omega⟩ (fun c13 => ?_) (fun c13 => ?_)
        · refine zW_iload_n (pc' := 64) dX0_lastMarked_2.2.1.2 rfl rfl ?_
          exact zV_iret rfl dX0_lastMarked_2.2.2 ⟨rfl, trivial⟩
        · refine zW_iconst (pc' := 17) dX0_lastMarked_0.2.1.1.2 rfl ?_
          refine zW_istore_n (ls' := [_, _, _, _]) (pc' := 18) dX0_lastMarked_0.2.1.2.1 (by decide) rfl rfl rfl ?_
          exact k18 _ _ _ (by omega) (by omega) (by omega) (by omega) (by omega) (by omega)
      · intro v1 v2 v3 g0 g1 g2 g3 g4 hm
        refine zW_iload_n (pc' := 19) dX0_lastMarked_0.2.1.2.2 rfl rfl ?_
        refine zW_aload_n (pc' := 20) dX0_lastMarked_0.2.2.1.1 rfl rfl ?_
        refine zG_ref (pc' := 23) 33 fg_X0_21 tb98 rfl dX0_lastMarked_0.2.2.1.2 rfl ?_
        refine zG_key (pc' := 26) hF rfl fg_X0_35 tb33 rfl dX0_lastMarked_0.2.2.2.1 rfl ?_
        refine zV_cm_ge (tgt := 57) (pc' := 29) dX0_lastMarked_0.2.2.2.2 rfl rfl ⟨by omega, by omega⟩ ⟨by omega, by omega⟩ (fun c26 => ?_) (fun c26 => ?_)
        · refine zW_iinc (ls' := [_, _, _, _]) (pc' := 60) dX0_lastMarked_2.1.2 rfl (by decide) rfl rfl rfl ?_
          refine zV_goto 5 dX0_lastMarked_2.2.1.1 rfl ?_
          refine zV_clr 3 (ls' := [_, _, _, _]) rfl ?_
          exact k5 _ _ (by omega) (by omega) (by omega) (by omega)
        · refine zW_aload_n (pc' := 30) dX0_lastMarked_1.1.1.1.1 rfl rfl ?_
          refine zG_ref (pc' := 33) 99 fg_X0_9 tb98 rfl dX0_lastMarked_1.1.1.1.2 rfl ?_
          refine zW_iload_n (pc' := 34) dX0_lastMarked_1.1.1.2.1 rfl rfl ?_
          refine zW_bipush (pc' := 36) dX0_lastMarked_1.1.1.2.2 rfl rfl ?_
          refine zW_imul (pc' := 37) dX0_lastMarked_1.1.2.1.1 rfl ?_
          refine zW_iload_n (pc' := 38) dX0_lastMarked_1.1.2.1.2 rfl rfl ?_
          refine zW_iadd (pc' := 39) dX0_lastMarked_1.1.2.2.1 rfl ?_
          refine zV_iald (pc' := 40) tb99 (by omega) dX0_lastMarked_1.1.2.2.2 (by decide) rfl ?_
          refine zW_iconst (pc' := 41) dX0_lastMarked_1.2.1.1.1 rfl ?_
          refine zV_cmQ_ne (tgt := 51) (pc' := 44) dX0_lastMarked_1.2.1.1.2 rfl rfl ?_ ?_
          · refine zW_iinc (ls' := [_, _, _, _]) (pc' := 54) dX0_lastMarked_2.1.1.1 rfl (by decide) rfl rfl rfl ?_
            refine zV_goto 18 dX0_lastMarked_2.1.1.2 rfl ?_
            exact k18 _ _ _ (by omega) (by omega) (by omega) (by omega) (by omega) (by omega)
          · refine zW_iload_n (pc' := 45) dX0_lastMarked_1.2.1.2.1 rfl rfl ?_
            refine zW_bipush (pc' := 47) dX0_lastMarked_1.2.1.2.2 rfl rfl ?_
            refine zW_imul (pc' := 48) dX0_lastMarked_1.2.2.1.1 rfl ?_
            refine zW_iload_n (pc' := 49) dX0_lastMarked_1.2.2.1.2 rfl rfl ?_
            refine zW_iadd (pc' := 50) dX0_lastMarked_1.2.2.2.1 rfl ?_
            refine zW_istore_n (ls' := [_, _, _, _]) (pc' := 51) dX0_lastMarked_1.2.2.2.2 (by decide) rfl rfl rfl ?_
            refine zW_iinc (ls' := [_, _, _, _]) (pc' := 54) dX0_lastMarked_2.1.1.1 rfl (by decide) rfl rfl rfl ?_
            refine zV_goto 18 dX0_lastMarked_2.1.1.2 rfl ?_
            exact k18 _ _ _ (by omega) (by omega) (by omega) (by omega) (by omega) (by omega)
  refine zM_of [some (.inr (.inr 98)), none, none, none] 3 rfl rfl (Nat.le_of_ble_eq_true rfl) rfl ?_
  refine zW_bipush (pc' := 2) dX0_lastMarked_0.1.1.1.1 rfl rfl ?_
  refine zW_istore_n (ls' := [_, _, _, _]) (pc' := 3) dX0_lastMarked_0.1.1.1.2 (by decide) rfl rfl rfl ?_
  refine zW_iconst (pc' := 4) dX0_lastMarked_0.1.1.2.1 rfl ?_
  refine zW_istore_n (ls' := [_, _, _, _]) (pc' := 5) dX0_lastMarked_0.1.1.2.2 (by decide) rfl rfl rfl ?_
  exact (main 10000000000000000000000000000000000000000).1 _ _ (by omega) (by omega) (by omega) (by omega)

abbrev q_X0_enqueue (b : Bd) (κ : Hp) (x1 : Int) (x2 : Int) : Int → Hp → Prop := fun r h' => Fr b κ h' ∧ (True)
set_option maxHeartbeats 4000000 in
set_option maxRecDepth 20000 in
theorem s_X0_enqueue {G : Ga} {b : Bd} {κ h : Hp} (hK : KC κ) (hF : Fr b κ h) (x1 : Int) (hx1 : rng x1) (x2 : Int) (hx2 : rng x2) : zM G mX0_enqueue yX0_enqueue [.inr (.inr 98), .inl x1, .inl x2] h (q_X0_enqueue b κ x1 x2) := by
  have f_33_0 := KCw hK
  have f_33_1 := KCh hK
  unfold rng at hx1
  unfold rng at hx2
  refine zM_of [some (.inr (.inr 98)), some (.inl x1), some (.inl x2)] 0 rfl rfl (Nat.le_of_ble_eq_true rfl) rfl ?_
  refine zW_aload_n (pc' := 1) dX0_enqueue_0.1.1.1.1 rfl rfl ?_
  refine zG_ref (pc' := 4) 33 fg_X0_21 tb98 rfl dX0_enqueue_0.1.1.1.2 rfl ?_
  refine zW_iload_n (pc' := 5) dX0_enqueue_0.1.1.2.1 rfl rfl ?_
  refine zW_iload_n (pc' := 6) dX0_enqueue_0.1.1.2.2 rfl rfl ?_
  refine cvI2 (pc' := 9) kX5_has vX5_has lk_X0_25 ⟨Nat.le_of_ble_eq_true rfl, Nat.le_of_ble_eq_true rfl⟩ tb33 vq5 rfl rfl (s_X5_has hK hF _ ⟨by omega, by omega⟩ _ ⟨by omega, by omega⟩) dX0_enqueue_0.1.2.1.1 (Nat.le_of_ble_eq_true rfl) rfl ?_
  rintro r6 z6 ⟨hz6, p6⟩; subst z6
  refine zV_if_eq (tgt := 74) (pc' := 12) dX0_enqueue_0.1.2.1.2 rfl rfl ⟨by omega, by omega⟩ (fun c9 => ?_) (fun c9 => ?_)
  · exact zV_vret rfl dX0_enqueue_2.2.2.2 ⟨hF, trivial⟩
  · refine zW_aload_n (pc' := 13) dX0_enqueue_0.1.2.2.1 rfl rfl ?_
    refine zG_int (pc' := 16) fg_X0_71 tb98 rfl dX0_enqueue_0.1.2.2.2 rfl ?_
    have e13 := hF.2.2.2.2.2.1
    refine zW_sipush (pc' := 19) dX0_enqueue_0.2.1.1.1 rfl rfl ?_
    refine zV_cm_ge (tgt := 74) (pc' := 22) dX0_enqueue_0.2.1.1.2 rfl rfl ⟨by omega, by omega⟩ ⟨by omega, by omega⟩ (fun c19 => ?_) (fun c19 => ?_)
    · exact zV_vret rfl dX0_enqueue_2.2.2.2 ⟨hF, trivial⟩
    · refine zW_aload_n (pc' := 23) dX0_enqueue_0.2.1.2.1 rfl rfl ?_
      refine zG_ref (pc' := 26) 100 fg_X0_15 tb98 rfl dX0_enqueue_0.2.1.2.2 rfl ?_
      refine zW_iload_n (pc' := 27) dX0_enqueue_0.2.2.1.1 rfl rfl ?_
      refine zW_bipush (pc' := 29) dX0_enqueue_0.2.2.1.2 rfl rfl ?_
      refine zW_imul (pc' := 30) dX0_enqueue_0.2.2.2.1 rfl ?_
      refine zW_iload_n (pc' := 31) dX0_enqueue_0.2.2.2.2 rfl rfl ?_
      refine zW_iadd (pc' := 32) dX0_enqueue_1.1.1.1.1 rfl ?_
      refine zV_iald (pc' := 33) tb100 (by omega) dX0_enqueue_1.1.1.1.2 (by decide) rfl ?_
      refine zW_iconst (pc' := 34) dX0_enqueue_1.1.1.2.1 rfl ?_
      refine zV_cmQ_ne (tgt := 74) (pc' := 37) dX0_enqueue_1.1.1.2.2 rfl rfl ?_ ?_
      · exact zV_vret rfl dX0_enqueue_2.2.2.2 ⟨hF, trivial⟩
      · refine zW_aload_n (pc' := 38) dX0_enqueue_1.1.2.1.1 rfl rfl ?_
        refine zG_ref (pc' := 41) 100 fg_X0_15 tb98 rfl dX0_enqueue_1.1.2.1.2 rfl ?_
        refine zW_iload_n (pc' := 42) dX0_enqueue_1.1.2.2.1 rfl rfl ?_
        refine zW_bipush (pc' := 44) dX0_enqueue_1.1.2.2.2 rfl rfl ?_
        refine zW_imul (pc' := 45) dX0_enqueue_1.2.1.1.1 rfl ?_
        refine zW_iload_n (pc' := 46) dX0_enqueue_1.2.1.1.2 rfl rfl ?_
        refine zW_iadd (pc' := 47) dX0_enqueue_1.2.1.2.1 rfl ?_
        refine zW_iconst (pc' := 48) dX0_enqueue_1.2.1.2.2 rfl ?_
        obtain ⟨ysv, hysv⟩ : ∃ z : Int, z = h 98 6 := ⟨_, rfl⟩
        refine zS_i (pc' := 49) hF rfl tb100 (by omega) dX0_enqueue_1.2.2.1.1 (by decide) rfl (fun h i48 hF a48 b48 w48 => ?_)
        have z48 : h 98 6 = ysv := by rw [w48, hysv]; exact zwr_ne (Or.inl (by decide))
        refine zW_aload_n (pc' := 50) dX0_enqueue_1.2.2.1.2 rfl rfl ?_
        refine zG_ref (pc' := 53) 101 fg_X0_18 tb98 rfl dX0_enqueue_1.2.2.2.1 rfl ?_
        refine zW_aload_n (pc' := 54) dX0_enqueue_1.2.2.2.2 rfl rfl ?_
        refine zG_int (pc' := 57) fg_X0_71 tb98 rfl dX0_enqueue_2.1.1.1.1 rfl ?_
        have e54 := hF.2.2.2.2.2.1
        refine zW_iload_n (pc' := 58) dX0_enqueue_2.1.1.1.2 rfl rfl ?_
        refine zW_bipush (pc' := 60) dX0_enqueue_2.1.1.2.1 rfl rfl ?_
        refine zW_imul (pc' := 61) dX0_enqueue_2.1.1.2.2 rfl ?_
        refine zW_iload_n (pc' := 62) dX0_enqueue_2.1.2.1.1 rfl rfl ?_
        refine zW_iadd (pc' := 63) dX0_enqueue_2.1.2.1.2 rfl ?_
        obtain ⟨ysv, hysv⟩ : ∃ z : Int, z = h 98 6 := ⟨_, rfl⟩
        refine zS_i (pc' := 64) hF rfl tb101 (by omega) dX0_enqueue_2.1.2.2 (by decide) rfl (fun h i63 hF a63 b63 w63 => ?_)
        have z63 : h 98 6 = ysv := by rw [w63, hysv]; exact zwr_ne (Or.inl (by decide))
        refine zW_aload_n (pc' := 65) dX0_enqueue_2.2.1.1.1 rfl rfl ?_
        refine zW_dup (pc' := 66) dX0_enqueue_2.2.1.1.2 rfl rfl ?_
        refine zG_int (pc' := 69) fg_X0_71 tb98 rfl dX0_enqueue_2.2.1.2.1 rfl ?_
        have e66 := hF.2.2.2.2.2.1
        refine zW_iconst (pc' := 70) dX0_enqueue_2.2.1.2.2 rfl ?_
        refine zW_iadd (pc' := 71) dX0_enqueue_2.2.2.1.1 rfl ?_
        refine zP_98 (pc' := 74) hF (by omega) fp_X0_71 dX0_enqueue_2.2.2.1.2 rfl (fun h hF w71 => ?_)
        exact zV_vret rfl dX0_enqueue_2.2.2.2 ⟨hF, trivial⟩

abbrev q_X0_take (b : Bd) (κ : Hp) (x1 : Int) (x2 : Int) (x3 : Int) : Int → Hp → Prop := fun r h' => Fr b κ h' ∧ (True)
set_option maxHeartbeats 4000000 in
set_option maxRecDepth 20000 in
theorem s_X0_take {G : Ga} {b : Bd} {κ h : Hp} (hK : KC κ) (hF : Fr b κ h) (x1 : Int) (hx1 : 0 ≤ x1 ∧ x1 ≤ 15 ∧ x1 - κ 33 0 ≤ -1) (x2 : Int) (hx2 : 0 ≤ x2 ∧ x2 ≤ 15 ∧ x2 - κ 33 1 ≤ -1) (x3 : Int) : zM G mX0_take yX0_take [.inr (.inr 98), .inl x1, .inl x2, .inl x3] h (q_X0_take b κ x1 x2 x3) := by
  have f_33_0 := KCw hK
  have f_33_1 := KCh hK
  have main : ∀ N : Nat, (∀ (v4 : Int) (h : Hp), Fr b κ h → (0 ≤ v4 ∧ v4 ≤ 256) → 13707540000 + 966000 * (256 - v4) + 948750 < (N : Int) → zV G mX0_take (q_X0_take b κ x1 x2 x3) 14 [some (.inr (.inr 98)), some (.inl x1), some (.inl x2), some (.inl x3), some (.inl v4), none, none, none, none] [] h) ∧ (∀ (v4 v5 v6 v7 : Int) (h : Hp), Fr b κ h → (0 ≤ v4 ∧ v4 ≤ 255) → (rng v5) → (rng v6) → (-1 ≤ v7 ∧ v7 ≤ 2) → 13707540000 + 966000 * (256 - v4) + 500250 + 3450 * (2 - v7) + 3335 < (N : Int) → zV G mX0_take (q_X0_take b κ x1 x2 x3) 58 [some (.inr (.inr 98)), some (.inl x1), some (.inl x2), some (.inl x3), some (.inl v4), some (.inl v5), some (.inl v6), some (.inl v7), none] [] h) ∧ (∀ (v4 v5 v6 v7 v8 : Int) (h : Hp), Fr b κ h → (0 ≤ v4 ∧ v4 ≤ 255) → (rng v5) → (rng v6) → (-1 ≤ v7 ∧ v7 ≤ 1) → (-1 ≤ v8 ∧ v8 ≤ 2) → 13707540000 + 966000 * (256 - v4) + 500250 + 3450 * (2 - v7) + 2530 + 23 * (2 - v8) + 22 < (N : Int) → zV G mX0_take (q_X0_take b κ x1 x2 x3) 67 [some (.inr (.inr 98)), some (.inl x1), some (.inl x2), some (.inl x3), some (.inl v4), some (.inl v5), some (.inl v6), some (.inl v7), some (.inl v8)] [] h) := by
    intro N
    induction N with
    | zero =>
      refine ⟨?_, ?_, ?_⟩
      · intro v4 h hF g0 hm
        exfalso; omega
      · intro v4 v5 v6 v7 h hF g0 g1 g2 g3 hm
        unfold rng at g1
        unfold rng at g2
        exfalso; omega
      · intro v4 v5 v6 v7 v8 h hF g0 g1 g2 g3 g4 hm
        unfold rng at g1
        unfold rng at g2
        exfalso; omega
    | succ N ih =>
      obtain ⟨k14, k58, k67⟩ := ih
      refine ⟨?_, ?_, ?_⟩
      · intro v4 h hF g0 hm
        refine zW_iload (pc' := 16) dX0_take_0.2.1.1.2 rfl rfl ?_
        refine zW_aload_n (pc' := 17) dX0_take_0.2.1.2.1 rfl rfl ?_
        refine zG_int (pc' := 20) fg_X0_71 tb98 rfl dX0_take_0.2.1.2.2 rfl ?_
        have e17 := hF.2.2.2.2.2.1
        refine zV_cm_ge (tgt := 119) (pc' := 23) dX0_take_0.2.2.1.1 rfl rfl ⟨by omega, by omega⟩ ⟨by omega, by omega⟩ (fun c20 => ?_) (fun c20 => ?_)
        · refine zW_aload_n (pc' := 120) dX0_take_3.2.2.1.1 rfl rfl ?_
          refine zG_int (pc' := 123) fg_X0_71 tb98 rfl dX0_take_3.2.2.1.2 rfl ?_
          have e120 := hF.2.2.2.2.2.1
          exact zV_iret rfl dX0_take_3.2.2.2 ⟨hF, trivial⟩
        · refine zW_iload (pc' := 25) dX0_take_0.2.2.1.2 rfl rfl ?_
          refine zW_sipush (pc' := 28) dX0_take_0.2.2.2.1 rfl rfl ?_
          refine zV_cm_ge (tgt := 119) (pc' := 31) dX0_take_0.2.2.2.2 rfl rfl ⟨by omega, by omega⟩ ⟨by omega, by omega⟩ (fun c28 => ?_) (fun c28 => ?_)
          · exfalso; omega
          · refine zW_aload_n (pc' := 32) dX0_take_1.1.1.1.1 rfl rfl ?_
            refine zG_ref (pc' := 35) 101 fg_X0_18 tb98 rfl dX0_take_1.1.1.1.2 rfl ?_
            refine zW_iload (pc' := 37) dX0_take_1.1.1.2.1 rfl rfl ?_
            refine zV_iald (pc' := 38) tb101 (by omega) dX0_take_1.1.1.2.2 (by decide) rfl ?_
            refine zW_bipush (pc' := 40) dX0_take_1.1.2.1.1 rfl rfl ?_
            refine zW_iremQ (pc' := 41) ⟨by omega, by omega⟩ (by omega) dX0_take_1.1.2.1.2 rfl (fun v40 e40 => ?_)
            unfold rng at e40
            refine zW_istore (ls' := [_, _, _, _, _, _, _, _, _]) (pc' := 43) dX0_take_1.1.2.2.1 (by decide) rfl rfl rfl ?_
            refine zW_aload_n (pc' := 44) dX0_take_1.1.2.2.2 rfl rfl ?_
            refine zG_ref (pc' := 47) 101 fg_X0_18 tb98 rfl dX0_take_1.2.1.1.1 rfl ?_
            refine zW_iload (pc' := 49) dX0_take_1.2.1.1.2 rfl rfl ?_
            refine zV_iald (pc' := 50) tb101 (by omega) dX0_take_1.2.1.2.1 (by decide) rfl ?_
            refine zW_bipush (pc' := 52) dX0_take_1.2.1.2.2 rfl rfl ?_
            refine zW_idivQ (pc' := 53) ⟨by omega, by omega⟩ (by omega) dX0_take_1.2.2.1.1 rfl (fun v52 e52 => ?_)
            unfold rng at e52
            refine zW_istore (ls' := [_, _, _, _, _, _, _, _, _]) (pc' := 55) dX0_take_1.2.2.1.2 (by decide) rfl rfl rfl ?_
            refine zW_iconst (pc' := 56) dX0_take_1.2.2.2.1 rfl ?_
            refine zW_istore (ls' := [_, _, _, _, _, _, _, _, _]) (pc' := 58) dX0_take_1.2.2.2.2 (by decide) rfl rfl rfl ?_
            exact k58 _ _ _ _ _ hF (by omega) ⟨by omega, by omega⟩ ⟨by omega, by omega⟩ (by omega) (by omega)
      · intro v4 v5 v6 v7 h hF g0 g1 g2 g3 hm
        unfold rng at g1
        unfold rng at g2
        refine zW_iload (pc' := 60) dX0_take_2.1.1.1.1 rfl rfl ?_
        refine zW_iconst (pc' := 61) dX0_take_2.1.1.1.2 rfl ?_
        refine zV_cm_gt (tgt := 113) (pc' := 64) dX0_take_2.1.1.2.1 rfl rfl ⟨by omega, by omega⟩ ⟨by omega, by omega⟩ (fun c61 => ?_) (fun c61 => ?_)
        · refine zW_iinc (ls' := [_, _, _, _, _, _, _, _, _]) (pc' := 116) dX0_take_3.2.1.2.1 rfl (by decide) rfl rfl rfl ?_
          refine zV_goto 14 dX0_take_3.2.1.2.2 rfl ?_
          refine zV_clr 5 (ls' := [_, _, _, _, _, _, _, _, _]) rfl ?_
          refine zV_clr 6 (ls' := [_, _, _, _, _, _, _, _, _]) rfl ?_
          refine zV_clr 7 (ls' := [_, _, _, _, _, _, _, _, _]) rfl ?_
          exact k14 _ _ hF (by omega) (by omega)
        · refine zW_iconst (pc' := 65) dX0_take_2.1.1.2.2 rfl ?_
          refine zW_istore (ls' := [_, _, _, _, _, _, _, _, _]) (pc' := 67) dX0_take_2.1.2.1.1 (by decide) rfl rfl rfl ?_
          exact k67 _ _ _ _ _ _ hF (by omega) ⟨by omega, by omega⟩ ⟨by omega, by omega⟩ (by omega) (by omega) (by omega)
      · intro v4 v5 v6 v7 v8 h hF g0 g1 g2 g3 g4 hm
        unfold rng at g1
        unfold rng at g2
        refine zW_iload (pc' := 69) dX0_take_2.1.2.1.2 rfl rfl ?_
        refine zW_iconst (pc' := 70) dX0_take_2.1.2.2.1 rfl ?_
        refine zV_cm_gt (tgt := 107) (pc' := 73) dX0_take_2.1.2.2.2 rfl rfl ⟨by omega, by omega⟩ ⟨by omega, by omega⟩ (fun c70 => ?_) (fun c70 => ?_)
        · refine zW_iinc (ls' := [_, _, _, _, _, _, _, _, _]) (pc' := 110) dX0_take_3.2.1.1.1 rfl (by decide) rfl rfl rfl ?_
          refine zV_goto 58 dX0_take_3.2.1.1.2 rfl ?_
          refine zV_clr 8 (ls' := [_, _, _, _, _, _, _, _, _]) rfl ?_
          exact k58 _ _ _ _ _ hF (by omega) ⟨by omega, by omega⟩ ⟨by omega, by omega⟩ (by omega) (by omega)
        · refine zW_iload_n (pc' := 74) dX0_take_2.2.1.1.1 rfl rfl ?_
          refine zV_ifQ_ne (tgt := 87) (pc' := 77) dX0_take_2.2.1.1.2 rfl rfl ?_ ?_
          · refine zW_aload_n (pc' := 88) dX0_take_2.2.2.2.1 rfl rfl ?_
            refine zW_iload (pc' := 90) dX0_take_2.2.2.2.2 rfl rfl ?_
            refine zW_iload (pc' := 92) dX0_take_3.1.1.1.1 rfl rfl ?_
            refine zW_iadd (pc' := 93) dX0_take_3.1.1.1.2 rfl ?_
            refine zV_anyI (fun v93a e93a => ?_)
            unfold rng at e93a
            refine zW_iload (pc' := 95) dX0_take_3.1.1.2.1 rfl rfl ?_
            refine zW_iload (pc' := 97) dX0_take_3.1.1.2.2 rfl rfl ?_
            refine zW_iadd (pc' := 98) dX0_take_3.1.2.1.1 rfl ?_
            refine zV_anyI (fun v98a e98a => ?_)
            unfold rng at e98a
            refine cvV2 (pc' := 101) kX0_enqueue vX0_enqueue lk_X0_74 ⟨Nat.le_of_ble_eq_true rfl, Nat.le_of_ble_eq_true rfl⟩ tb98 vq0 rfl rfl (s_X0_enqueue hK hF _ ⟨by omega, by omega⟩ _ ⟨by omega, by omega⟩) dX0_take_3.1.2.1.2 (Nat.le_of_ble_eq_true rfl) rfl ?_
            rintro r98 h ⟨hF, p98⟩
            refine zW_iinc (ls' := [_, _, _, _, _, _, _, _, _]) (pc' := 104) dX0_take_3.1.2.2.1 rfl (by decide) rfl rfl rfl ?_
            refine zV_goto 67 dX0_take_3.1.2.2.2 rfl ?_
            exact k67 _ _ _ _ _ _ hF (by omega) ⟨by omega, by omega⟩ ⟨by omega, by omega⟩ (by omega) (by omega) (by omega)
          · refine zW_iload (pc' := 79) dX0_take_2.2.1.2.1 rfl rfl ?_
            refine zV_if_eq (tgt := 87) (pc' := 82) dX0_take_2.2.1.2.2 rfl rfl ⟨by omega, by omega⟩ (fun c79 => ?_) (fun c79 => ?_)
            · refine zW_aload_n (pc' := 88) dX0_take_2.2.2.2.1 rfl rfl ?_
              refine zW_iload (pc' := 90) dX0_take_2.2.2.2.2 rfl rfl ?_
              refine zW_iload (pc' := 92) dX0_take_3.1.1.1.1 rfl rfl ?_
              refine zW_iadd (pc' := 93) dX0_take_3.1.1.1.2 rfl ?_
              refine zV_anyI (fun v93a e93a => ?_)
              unfold rng at e93a
              refine zW_iload (pc' := 95) dX0_take_3.1.1.2.1 rfl rfl ?_
              refine zW_iload (pc' := 97) dX0_take_3.1.1.2.2 rfl rfl ?_
              refine zW_iadd (pc' := 98) dX0_take_3.1.2.1.1 rfl ?_
              refine zV_anyI (fun v98a e98a => ?_)
              unfold rng at e98a
              refine cvV2 (pc' := 101) kX0_enqueue vX0_enqueue lk_X0_74 ⟨Nat.le_of_ble_eq_true rfl, Nat.le_of_ble_eq_true rfl⟩ tb98 vq0 rfl rfl (s_X0_enqueue hK hF _ ⟨by omega, by omega⟩ _ ⟨by omega, by omega⟩) dX0_take_3.1.2.1.2 (Nat.le_of_ble_eq_true rfl) rfl ?_
              rintro r98 h ⟨hF, p98⟩
              refine zW_iinc (ls' := [_, _, _, _, _, _, _, _, _]) (pc' := 104) dX0_take_3.1.2.2.1 rfl (by decide) rfl rfl rfl ?_
              refine zV_goto 67 dX0_take_3.1.2.2.2 rfl ?_
              exact k67 _ _ _ _ _ _ hF (by omega) ⟨by omega, by omega⟩ ⟨by omega, by omega⟩ (by omega) (by omega) (by omega)
            · refine zW_iload (pc' := 84) dX0_take_2.2.2.1.1 rfl rfl ?_
              refine zV_if_ne (tgt := 101) (pc' := 87) dX0_take_2.2.2.1.2 rfl rfl ⟨by omega, by omega⟩ (fun c84 => ?_) (fun c84 => ?_)
              · refine zW_iinc (ls' := [_, _, _, _, _, _, _, _, _]) (pc' := 104) dX0_take_3.1.2.2.1 rfl (by decide) rfl rfl rfl ?_
                refine zV_goto 67 dX0_take_3.1.2.2.2 rfl ?_
                exact k67 _ _ _ _ _ _ hF (by omega) ⟨by omega, by omega⟩ ⟨by omega, by omega⟩ (by omega) (by omega) (by omega)
              · refine zW_aload_n (pc' := 88) dX0_take_2.2.2.2.1 rfl rfl ?_
                refine zW_iload (pc' := 90) dX0_take_2.2.2.2.2 rfl rfl ?_
                refine zW_iload (pc' := 92) dX0_take_3.1.1.1.1 rfl rfl ?_
                refine zW_iadd (pc' := 93) dX0_take_3.1.1.1.2 rfl ?_
                refine zV_anyI (fun v93a e93a => ?_)
                unfold rng at e93a
                refine zW_iload (pc' := 95) dX0_take_3.1.1.2.1 rfl rfl ?_
                refine zW_iload (pc' := 97) dX0_take_3.1.1.2.2 rfl rfl ?_
                refine zW_iadd (pc' := 98) dX0_take_3.1.2.1.1 rfl ?_
                refine zV_anyI (fun v98a e98a => ?_)
                unfold rng at e98a
                refine cvV2 (pc' := 101) kX0_enqueue vX0_enqueue lk_X0_74 ⟨Nat.le_of_ble_eq_true rfl, Nat.le_of_ble_eq_true rfl⟩ tb98 vq0 rfl rfl (s_X0_enqueue hK hF _ ⟨by omega, by omega⟩ _ ⟨by omega, by omega⟩) dX0_take_3.1.2.1.2 (Nat.le_of_ble_eq_true rfl) rfl ?_
                rintro r98 h ⟨hF, p98⟩
                refine zW_iinc (ls' := [_, _, _, _, _, _, _, _, _]) (pc' := 104) dX0_take_3.1.2.2.1 rfl (by decide) rfl rfl rfl ?_
                refine zV_goto 67 dX0_take_3.1.2.2.2 rfl ?_
                exact k67 _ _ _ _ _ _ hF (by omega) ⟨by omega, by omega⟩ ⟨by omega, by omega⟩ (by omega) (by omega) (by omega)
  refine zM_of [some (.inr (.inr 98)), some (.inl x1), some (.inl x2), some (.inl x3), none, none, none, none, none] 5 rfl rfl (Nat.le_of_ble_eq_true rfl) rfl ?_
  refine zW_aload_n (pc' := 1) dX0_take_0.1.1.1.1 rfl rfl ?_
  refine zW_iconst (pc' := 2) dX0_take_0.1.1.1.2 rfl ?_
  refine zP_98 (pc' := 5) hF (by omega) fp_X0_71 dX0_take_0.1.1.2.1 rfl (fun h hF w2 => ?_)
  refine zW_aload_n (pc' := 6) dX0_take_0.1.1.2.2 rfl rfl ?_
  refine zW_iload_n (pc' := 7) dX0_take_0.1.2.1.1 rfl rfl ?_
  refine zW_iload_n (pc' := 8) dX0_take_0.1.2.1.2 rfl rfl ?_
  refine cvV2 (pc' := 11) kX0_enqueue vX0_enqueue lk_X0_74 ⟨Nat.le_of_ble_eq_true rfl, Nat.le_of_ble_eq_true rfl⟩ tb98 vq0 rfl rfl (s_X0_enqueue hK hF _ ⟨by omega, by omega⟩ _ ⟨by omega, by omega⟩) dX0_take_0.1.2.2.1 (Nat.le_of_ble_eq_true rfl) rfl ?_
  rintro r8 h ⟨hF, p8⟩
  refine zW_iconst (pc' := 12) dX0_take_0.1.2.2.2 rfl ?_
  refine zW_istore (ls' := [_, _, _, _, _, _, _, _, _]) (pc' := 14) dX0_take_0.2.1.1.1 (by decide) rfl rfl rfl ?_
  exact (main 10000000000000000000000000000000000000000).1 _ _ hF (by omega) (by omega)

abbrev q_X0_gather (b : Bd) (κ : Hp) (x1 : Int) : Int → Hp → Prop := fun r h' => Fr b κ h' ∧ (True)
set_option maxHeartbeats 4000000 in
set_option maxRecDepth 20000 in
theorem s_X0_gather {G : Ga} {b : Bd} {κ h : Hp} (hK : KC κ) (hF : Fr b κ h) (x1 : Int) : zM G mX0_gather yX0_gather [.inr (.inr 98), .inl x1] h (q_X0_gather b κ x1) := by
  have f_33_0 := KCw hK
  have f_33_1 := KCh hK
  have main : ∀ N : Nat, (∀ (v2 : Int) (h : Hp), Fr b κ h → (0 ≤ v2 ∧ v2 ≤ 16) → (v2 - κ 33 1 ≤ 0) → 45227160 + 46530 * (16 - v2) + 45684 < (N : Int) → zV G mX0_gather (q_X0_gather b κ x1) 34 [some (.inr (.inr 98)), some (.inl x1), some (.inl v2), none, none] [] h) ∧ (∀ (v2 v3 : Int) (h : Hp), Fr b κ h → (0 ≤ v2 ∧ v2 ≤ 15) → (v2 - κ 33 1 ≤ -1) → (0 ≤ v3 ∧ v3 ≤ 16) → (v3 - κ 33 0 ≤ 0) → 45227160 + 46530 * (16 - v2) + 38916 + 47 * (16 - v3) + 46 < (N : Int) → zV G mX0_gather (q_X0_gather b κ x1) 47 [some (.inr (.inr 98)), some (.inl x1), some (.inl v2), some (.inl v3), none] [] h) := by
    intro N
    induction N with
    | zero =>
      refine ⟨?_, ?_⟩
      · intro v2 h hF g0 g1 hm
        exfalso; omega
      · intro v2 v3 h hF g0 g1 g2 g3 hm
        exfalso; omega
    | succ N ih =>
      obtain ⟨k34, k47⟩ := ih
      refine ⟨?_, ?_⟩
      · intro v2 h hF g0 g1 hm
        refine zW_iload_n (pc' := 35) dX0_gather_1.1.1.2.2 rfl rfl ?_
        refine zW_aload_n (pc' := 36) dX0_gather_1.1.2.1.1 rfl rfl ?_
        refine zG_ref (pc' := 39) 33 fg_X0_21 tb98 rfl dX0_gather_1.1.2.1.2 rfl ?_
        refine zG_key (pc' := 42) hF rfl fg_X0_31 tb33 rfl dX0_gather_1.1.2.2.1 rfl ?_
        refine zV_cm_ge (tgt := 129) (pc' := 45) dX0_gather_1.1.2.2.2 rfl rfl ⟨by omega, by omega⟩ ⟨by omega, by omega⟩ (fun c42 => ?_) (fun c42 => ?_)
        · exact zV_vret rfl dX0_gather_4.2.2.2 ⟨hF, trivial⟩
        · refine zW_iconst (pc' := 46) dX0_gather_1.2.1.1.1 rfl ?_
          refine zW_istore_n (ls' := [_, _, _, _, _]) (pc' := 47) dX0_gather_1.2.1.1.2 (by decide) rfl rfl rfl ?_
          exact k47 _ _ _ hF (by omega) (by omega) (by omega) (by omega) (by omega)
      · intro v2 v3 h hF g0 g1 g2 g3 hm
        refine zW_iload_n (pc' := 48) dX0_gather_1.2.1.2.1 rfl rfl ?_
        refine zW_aload_n (pc' := 49) dX0_gather_1.2.1.2.2 rfl rfl ?_
        refine zG_ref (pc' := 52) 33 fg_X0_21 tb98 rfl dX0_gather_1.2.2.1.1 rfl ?_
        refine zG_key (pc' := 55) hF rfl fg_X0_35 tb33 rfl dX0_gather_1.2.2.1.2 rfl ?_
        refine zV_cm_ge (tgt := 123) (pc' := 58) dX0_gather_1.2.2.2.1 rfl rfl ⟨by omega, by omega⟩ ⟨by omega, by omega⟩ (fun c55 => ?_) (fun c55 => ?_)
        · refine zW_iinc (ls' := [_, _, _, _, _]) (pc' := 126) dX0_gather_4.2.1.2 rfl (by decide) rfl rfl rfl ?_
          refine zV_goto 34 dX0_gather_4.2.2.1 rfl ?_
          refine zV_clr 3 (ls' := [_, _, _, _, _]) rfl ?_
          exact k34 _ _ hF (by omega) (by omega) (by omega)
        · refine zW_aload_n (pc' := 59) dX0_gather_1.2.2.2.2 rfl rfl ?_
          refine zG_ref (pc' := 62) 100 fg_X0_15 tb98 rfl dX0_gather_2.1.1.1.1 rfl ?_
          refine zW_iload_n (pc' := 63) dX0_gather_2.1.1.1.2 rfl rfl ?_
          refine zW_bipush (pc' := 65) dX0_gather_2.1.1.2.1 rfl rfl ?_
          refine zW_imul (pc' := 66) dX0_gather_2.1.1.2.2 rfl ?_
          refine zW_iload_n (pc' := 67) dX0_gather_2.1.2.1.1 rfl rfl ?_
          refine zW_iadd (pc' := 68) dX0_gather_2.1.2.1.2 rfl ?_
          refine zV_iald (pc' := 69) tb100 (by omega) dX0_gather_2.1.2.2.1 (by decide) rfl ?_
          refine zW_iconst (pc' := 70) dX0_gather_2.1.2.2.2 rfl ?_
          refine zV_cmQ_ne (tgt := 117) (pc' := 73) dX0_gather_2.2.1.1.1 rfl rfl ?_ ?_
          · refine zW_iinc (ls' := [_, _, _, _, _]) (pc' := 120) dX0_gather_4.1.2.2 rfl (by decide) rfl rfl rfl ?_
            refine zV_goto 47 dX0_gather_4.2.1.1 rfl ?_
            exact k47 _ _ _ hF (by omega) (by omega) (by omega) (by omega) (by omega)
          · refine zW_aload_n (pc' := 74) dX0_gather_2.2.1.1.2 rfl rfl ?_
            refine zW_dup (pc' := 75) dX0_gather_2.2.1.2.1 rfl rfl ?_
            refine zG_int (pc' := 78) fg_X0_52 tb98 rfl dX0_gather_2.2.1.2.2 rfl ?_
            refine zW_iconst (pc' := 79) dX0_gather_2.2.2.1.1 rfl ?_
            refine zW_iadd (pc' := 80) dX0_gather_2.2.2.1.2 rfl ?_
            refine zP_scf (pc' := 83) hF rfl fp_X0_52 tb98 rfl dX0_gather_2.2.2.2.1 rfl (fun h i80 hF a80 b80 w80 => ?_)
            refine zW_aload_n (pc' := 84) dX0_gather_2.2.2.2.2 rfl rfl ?_
            refine zW_iload_n (pc' := 85) dX0_gather_3.1.1.1.1 rfl rfl ?_
            refine zW_iload_n (pc' := 86) dX0_gather_3.1.1.1.2 rfl rfl ?_
            refine zW_iload_n (pc' := 87) dX0_gather_3.1.1.2.1 rfl rfl ?_
            refine cvI3 (pc' := 90) kX0_take vX0_take lk_X0_67 ⟨Nat.le_of_ble_eq_true rfl, Nat.le_of_ble_eq_true rfl⟩ tb98 vq0 rfl rfl (s_X0_take hK hF _ ⟨by omega, by omega, by omega⟩ _ ⟨by omega, by omega, by omega⟩ _) dX0_gather_3.1.1.2.2 (Nat.le_of_ble_eq_true rfl) rfl ?_
            rintro r87 h ⟨hF, p87⟩
            refine zW_istore (ls' := [_, _, _, _, _]) (pc' := 92) dX0_gather_3.1.2.1.1 (by decide) rfl rfl rfl ?_
            refine zW_iload (pc' := 94) dX0_gather_3.1.2.1.2 rfl rfl ?_
            refine zW_aload_n (pc' := 95) dX0_gather_3.1.2.2.1 rfl rfl ?_
            refine zG_int (pc' := 98) fg_X0_55 tb98 rfl dX0_gather_3.1.2.2.2 rfl ?_
            refine zV_cmQ_le (tgt := 117) (pc' := 101) dX0_gather_3.2.1.1.1 rfl rfl ?_ ?_
            · refine zW_iinc (ls' := [_, _, _, _, _]) (pc' := 120) dX0_gather_4.1.2.2 rfl (by decide) rfl rfl rfl ?_
              refine zV_goto 47 dX0_gather_4.2.1.1 rfl ?_
              refine zV_clr 4 (ls' := [_, _, _, _, _]) rfl ?_
              exact k47 _ _ _ hF (by omega) (by omega) (by omega) (by omega) (by omega)
            · refine zW_aload_n (pc' := 102) dX0_gather_3.2.1.1.2 rfl rfl ?_
              refine zW_iload (pc' := 104) dX0_gather_3.2.1.2.1 rfl rfl ?_
              refine zP_scf (pc' := 107) hF rfl fp_X0_55 tb98 rfl dX0_gather_3.2.1.2.2 rfl (fun h i104 hF a104 b104 w104 => ?_)
              refine zW_aload_n (pc' := 108) dX0_gather_3.2.2.1.1 rfl rfl ?_
              refine zW_iload_n (pc' := 109) dX0_gather_3.2.2.1.2 rfl rfl ?_
              refine zW_bipush (pc' := 111) dX0_gather_3.2.2.2.1 rfl rfl ?_
              refine zW_imul (pc' := 112) dX0_gather_3.2.2.2.2 rfl ?_
              refine zW_iload_n (pc' := 113) dX0_gather_4.1.1.1 rfl rfl ?_
              refine zW_iadd (pc' := 114) dX0_gather_4.1.1.2 rfl ?_
              refine zP_scf (pc' := 117) hF rfl fp_X0_58 tb98 rfl dX0_gather_4.1.2.1 rfl (fun h i114 hF a114 b114 w114 => ?_)
              refine zW_iinc (ls' := [_, _, _, _, _]) (pc' := 120) dX0_gather_4.1.2.2 rfl (by decide) rfl rfl rfl ?_
              refine zV_goto 47 dX0_gather_4.2.1.1 rfl ?_
              refine zV_clr 4 (ls' := [_, _, _, _, _]) rfl ?_
              exact k47 _ _ _ hF (by omega) (by omega) (by omega) (by omega) (by omega)
  refine zM_of [some (.inr (.inr 98)), some (.inl x1), none, none, none] 3 rfl rfl (Nat.le_of_ble_eq_true rfl) rfl ?_
  refine zW_aload_n (pc' := 1) dX0_gather_0.1.1.1.1 rfl rfl ?_
  refine zW_iconst (pc' := 2) dX0_gather_0.1.1.1.2 rfl ?_
  refine zP_scf (pc' := 5) hF rfl fp_X0_52 tb98 rfl dX0_gather_0.1.1.2.1 rfl (fun h i2 hF a2 b2 w2 => ?_)
  refine zW_aload_n (pc' := 6) dX0_gather_0.1.1.2.2 rfl rfl ?_
  refine zW_iconst (pc' := 7) dX0_gather_0.1.2.1.1 rfl ?_
  refine zP_scf (pc' := 10) hF rfl fp_X0_55 tb98 rfl dX0_gather_0.1.2.1.2 rfl (fun h i7 hF a7 b7 w7 => ?_)
  refine zW_aload_n (pc' := 11) dX0_gather_0.1.2.2.1 rfl rfl ?_
  refine zW_bipush (pc' := 13) dX0_gather_0.1.2.2.2 rfl rfl ?_
  refine zP_scf (pc' := 16) hF rfl fp_X0_58 tb98 rfl dX0_gather_0.2.1.1.1 rfl (fun h i13 hF a13 b13 w13 => ?_)
  refine zW_aload_n (pc' := 17) dX0_gather_0.2.1.1.2 rfl rfl ?_
  refine zG_ref (pc' := 20) 99 fg_X0_9 tb98 rfl dX0_gather_0.2.1.2.1 rfl ?_
  refine zW_iconst (pc' := 21) dX0_gather_0.2.1.2.2 rfl ?_
  refine zW_aload_n (pc' := 22) dX0_gather_0.2.2.1.1 rfl rfl ?_
  refine zG_ref (pc' := 25) 100 fg_X0_15 tb98 rfl dX0_gather_0.2.2.1.2 rfl ?_
  refine zW_iconst (pc' := 26) dX0_gather_0.2.2.2.1 rfl ?_
  refine zW_sipush (pc' := 29) dX0_gather_0.2.2.2.2 rfl rfl ?_
  refine zV_acopy (pc' := 32) tb99 tb100 (by omega) (by omega) (by omega) (by omega) (by decide) (by decide) ka_X0_61 (Nat.le_of_ble_eq_true rfl) (Nat.le_of_ble_eq_true rfl) dX0_gather_1.1.1.1.1 rfl ?_
  refine (show ∀ h : Hp, Fr b κ h → zV _ _ _ _ _ _ h from fun h hF => ?_) _ (hF.zc rfl (by decide))
  refine zW_iconst (pc' := 33) dX0_gather_1.1.1.1.2 rfl ?_
  refine zW_istore_n (ls' := [_, _, _, _, _]) (pc' := 34) dX0_gather_1.1.1.2.1 (by decide) rfl rfl rfl ?_
  exact (main 10000000000000000000000000000000000000000).1 _ _ hF (by omega) (by omega) (by omega)

abbrev q_X4_ringOf (κ h : Hp) (x1 : Int) (x2 : Int) : Int → Hp → Prop := fun r h' => h' = h ∧ (True)
set_option maxHeartbeats 4000000 in
set_option maxRecDepth 20000 in
theorem s_X4_ringOf {G : Ga} {b : Bd} {κ h : Hp} (hK : KC κ) (hF : Fr b κ h) (x1 : Int) (hx1 : 0 ≤ x1 ∧ x1 ≤ 15 ∧ x1 - κ 33 0 ≤ -1) (x2 : Int) (hx2 : 0 ≤ x2 ∧ x2 ≤ 15 ∧ x2 - κ 33 1 ≤ -1) : zM G mX4_ringOf yX4_ringOf [.inr (.inr 95), .inl x1, .inl x2] h (q_X4_ringOf κ h x1 x2) := by
  have f_33_0 := KCw hK
  have f_33_1 := KCh hK
  refine zM_of [some (.inr (.inr 95)), some (.inl x1), some (.inl x2), none, none, none] 3 rfl rfl (Nat.le_of_ble_eq_true rfl) rfl ?_
  refine zW_iconst (pc' := 1) dX4_ringOf_0.1.1.1.1 rfl ?_
  refine zW_iload_n (pc' := 2) dX4_ringOf_0.1.1.1.2 rfl rfl ?_
  refine zW_imul (pc' := 3) dX4_ringOf_0.1.1.2.1 rfl ?_
  refine zW_iconst (pc' := 4) dX4_ringOf_0.1.1.2.2 rfl ?_
  refine zW_iadd (pc' := 5) dX4_ringOf_0.1.2.1.1 rfl ?_
  refine zW_aload_n (pc' := 6) dX4_ringOf_0.1.2.1.2 rfl rfl ?_
  refine zG_ref (pc' := 9) 33 fg_X4_19 tb95 rfl dX4_ringOf_0.1.2.2.1 rfl ?_
  refine zG_key (pc' := 12) hF rfl fg_X4_36 tb33 rfl dX4_ringOf_0.1.2.2.2 rfl ?_
  refine zW_isub (pc' := 13) dX4_ringOf_0.2.1.1.1 rfl ?_
  refine zW_istore_n (ls' := [_, _, _, _, _, _]) (pc' := 14) dX4_ringOf_0.2.1.1.2 (by decide) rfl rfl rfl ?_
  refine zW_iconst (pc' := 15) dX4_ringOf_0.2.1.2.1 rfl ?_
  refine zW_iload_n (pc' := 16) dX4_ringOf_0.2.1.2.2 rfl rfl ?_
  refine zW_imul (pc' := 17) dX4_ringOf_0.2.2.1.1 rfl ?_
  refine zW_iconst (pc' := 18) dX4_ringOf_0.2.2.1.2 rfl ?_
  refine zW_iadd (pc' := 19) dX4_ringOf_0.2.2.2.1 rfl ?_
  refine zW_aload_n (pc' := 20) dX4_ringOf_0.2.2.2.2 rfl rfl ?_
  refine zG_ref (pc' := 23) 33 fg_X4_19 tb95 rfl dX4_ringOf_1.1.1.1.1 rfl ?_
  refine zG_key (pc' := 26) hF rfl fg_X4_31 tb33 rfl dX4_ringOf_1.1.1.1.2 rfl ?_
  refine zW_isub (pc' := 27) dX4_ringOf_1.1.1.2.1 rfl ?_
  refine zW_istore (ls' := [_, _, _, _, _, _]) (pc' := 29) dX4_ringOf_1.1.1.2.2 (by decide) rfl rfl rfl ?_
  refine zW_aload_n (pc' := 30) dX4_ringOf_1.1.2.1.1 rfl rfl ?_
  refine zG_ref (pc' := 33) 33 fg_X4_19 tb95 rfl dX4_ringOf_1.1.2.1.2 rfl ?_
  refine zG_key (pc' := 36) hF rfl fg_X4_36 tb33 rfl dX4_ringOf_1.1.2.2.1 rfl ?_
  refine zW_aload_n (pc' := 37) dX4_ringOf_1.1.2.2.2 rfl rfl ?_
  refine zG_ref (pc' := 40) 33 fg_X4_19 tb95 rfl dX4_ringOf_1.2.1.1.1 rfl ?_
  refine zG_key (pc' := 43) hF rfl fg_X4_36 tb33 rfl dX4_ringOf_1.2.1.1.2 rfl ?_
  refine zW_imul (pc' := 44) dX4_ringOf_1.2.1.2.1 rfl ?_
  refine zW_aload_n (pc' := 45) dX4_ringOf_1.2.1.2.2 rfl rfl ?_
  refine zG_ref (pc' := 48) 33 fg_X4_19 tb95 rfl dX4_ringOf_1.2.2.1.1 rfl ?_
  refine zG_key (pc' := 51) hF rfl fg_X4_31 tb33 rfl dX4_ringOf_1.2.2.1.2 rfl ?_
  refine zW_aload_n (pc' := 52) dX4_ringOf_1.2.2.2.1 rfl rfl ?_
  refine zG_ref (pc' := 55) 33 fg_X4_19 tb95 rfl dX4_ringOf_1.2.2.2.2 rfl ?_
  refine zG_key (pc' := 58) hF rfl fg_X4_31 tb33 rfl dX4_ringOf_2.1.1.1.1 rfl ?_
  refine zW_imul (pc' := 59) dX4_ringOf_2.1.1.1.2 rfl ?_
  refine zW_iadd (pc' := 60) dX4_ringOf_2.1.1.2.1 rfl ?_
  refine zW_istore (ls' := [_, _, _, _, _, _]) (pc' := 62) dX4_ringOf_2.1.1.2.2 (by decide) rfl rfl rfl ?_
  refine zW_iload (pc' := 64) dX4_ringOf_2.1.2.1.1 rfl rfl ?_
  refine zV_ifQ_le (tgt := 84) (pc' := 67) dX4_ringOf_2.1.2.1.2 rfl rfl ?_ ?_
  · refine zW_iconst (pc' := 85) dX4_ringOf_3.2.1 rfl ?_
    exact zV_iret rfl dX4_ringOf_3.2.2 ⟨rfl, trivial⟩
  · refine zW_iload_n (pc' := 68) dX4_ringOf_2.1.2.2.1 rfl rfl ?_
    refine zW_iload_n (pc' := 69) dX4_ringOf_2.1.2.2.2 rfl rfl ?_
    refine zW_imul (pc' := 70) dX4_ringOf_2.2.1.1.1 rfl ?_
    refine zW_iload (pc' := 72) dX4_ringOf_2.2.1.1.2 rfl rfl ?_
    refine zW_iload (pc' := 74) dX4_ringOf_2.2.1.2.1 rfl rfl ?_
    refine zW_imul (pc' := 75) dX4_ringOf_2.2.1.2.2 rfl ?_
    refine zW_iadd (pc' := 76) dX4_ringOf_2.2.2.1.1 rfl ?_
    refine zW_iconst (pc' := 77) dX4_ringOf_2.2.2.1.2 rfl ?_
    refine zW_imul (pc' := 78) dX4_ringOf_2.2.2.2.1 rfl ?_
    refine zW_iload (pc' := 80) dX4_ringOf_2.2.2.2.2 rfl rfl ?_
    have hm1 := mul_b f_33_0 f_33_0
    have hm2 := mul_b f_33_1 f_33_1
    refine zW_idivQ (pc' := 81) ⟨by omega, by omega⟩ (by omega) dX4_ringOf_3.1.1 rfl (fun v80 e80 => ?_)
    unfold rng at e80
    refine zV_goto 85 dX4_ringOf_3.1.2 rfl ?_
    exact zV_iret rfl dX4_ringOf_3.2.2 ⟨rfl, trivial⟩

abbrev q_X4_gatherRing (b : Bd) (κ : Hp) (s1 : Nat) (x2 : Int) (x3 : Int) : Int → Hp → Prop := fun r h' => Fr b κ h' ∧ (True)
set_option maxHeartbeats 4000000 in
set_option maxRecDepth 20000 in
theorem s_X4_gatherRing {G : Ga} {b : Bd} {κ h : Hp} (hK : KC κ) (hF : Fr b κ h) (s1 : Nat) (hs1 : 56 ≤ s1 ∧ s1 ≤ 70) (x2 : Int) (hx2 : 0 ≤ x2 ∧ x2 ≤ 2) (x3 : Int) (hx3 : rng x3) : zM G mX4_gatherRing yX4_gatherRing [.inr (.inr 95), .inr (.inr s1), .inl x2, .inl x3] h (q_X4_gatherRing b κ s1 x2 x3) := by
  have f_33_0 := KCw hK
  have f_33_1 := KCh hK
  unfold rng at hx3
  have main : ∀ N : Nat, (∀ (v4 : Int) (h : Hp), Fr b κ h → (0 ≤ v4 ∧ v4 ≤ 16) → (v4 - κ 33 1 ≤ 0) → 76826880 + 66690 * (16 - v4) + 65664 < (N : Int) → zV G mX4_gatherRing (q_X4_gatherRing b κ s1 x2 x3) 8 [some (.inr (.inr 95)), some (.inr (.inr s1)), some (.inl x2), some (.inl x3), some (.inl v4), none, none] [] h) ∧ (∀ (v4 v5 : Int) (h : Hp), Fr b κ h → (0 ≤ v4 ∧ v4 ≤ 15) → (v4 - κ 33 1 ≤ -1) → (0 ≤ v5 ∧ v5 ≤ 16) → (v5 - κ 33 0 ≤ 0) → 76826880 + 66690 * (16 - v4) + 57456 + 57 * (16 - v5) + 56 < (N : Int) → zV G mX4_gatherRing (q_X4_gatherRing b κ s1 x2 x3) 23 [some (.inr (.inr 95)), some (.inr (.inr s1)), some (.inl x2), some (.inl x3), some (.inl v4), some (.inl v5), none] [] h) ∧ (∀ (v4 v5 u0 : Int) (h : Hp), Fr b κ h → (0 ≤ v4 ∧ v4 ≤ 15) → (v4 - κ 33 1 ≤ -1) → (0 ≤ v5 ∧ v5 ≤ 15) → (v5 - κ 33 0 ≤ -1) → (0 ≤ u0 ∧ u0 ≤ 1) → 76826880 + 66690 * (16 - v4) + 57456 + 57 * (16 - v5) + 37 < (N : Int) → zV G mX4_gatherRing (q_X4_gatherRing b κ s1 x2 x3) 57 [some (.inr (.inr 95)), some (.inr (.inr s1)), some (.inl x2), some (.inl x3), some (.inl v4), some (.inl v5), none] [.inl u0] h) := by
    intro N
    induction N with
    | zero =>
      refine ⟨?_, ?_, ?_⟩
      · intro v4 h hF g0 g1 hm
        exfalso; omega
      · intro v4 v5 h hF g0 g1 g2 g3 hm
        exfalso; omega
      · intro v4 v5 u0 h hF g0 g1 g2 g3 g4 hm
        exfalso; omega
    | succ N ih =>
      obtain ⟨k8, k23, k57⟩ := ih
      refine ⟨?_, ?_, ?_⟩
      · intro v4 h hF g0 g1 hm
        refine zW_iload (pc' := 10) dX4_gatherRing_0.1.2.1.2 rfl rfl ?_
        refine zW_aload_n (pc' := 11) dX4_gatherRing_0.1.2.2.1 rfl rfl ?_
        refine zG_ref (pc' := 14) 33 fg_X4_19 tb95 rfl dX4_gatherRing_0.1.2.2.2 rfl ?_
        refine zG_key (pc' := 17) hF rfl fg_X4_31 tb33 rfl dX4_gatherRing_0.2.1.1.1 rfl ?_
        refine zV_cm_ge (tgt := 134) (pc' := 20) dX4_gatherRing_0.2.1.1.2 rfl rfl ⟨by omega, by omega⟩ ⟨by omega, by omega⟩ (fun c17 => ?_) (fun c17 => ?_)
        · exact zV_vret rfl dX4_gatherRing_4.2.2 ⟨hF, trivial⟩
        · refine zW_iconst (pc' := 21) dX4_gatherRing_0.2.1.2.1 rfl ?_
          refine zW_istore (ls' := [_, _, _, _, _, _, _]) (pc' := 23) dX4_gatherRing_0.2.1.2.2 (by decide) rfl rfl rfl ?_
          exact k23 _ _ _ hF (by omega) (by omega) (by omega) (by omega) (by omega)
      · intro v4 v5 h hF g0 g1 g2 g3 hm
        refine zW_iload (pc' := 25) dX4_gatherRing_0.2.2.1.1 rfl rfl ?_
        refine zW_aload_n (pc' := 26) dX4_gatherRing_0.2.2.1.2 rfl rfl ?_
        refine zG_ref (pc' := 29) 33 fg_X4_19 tb95 rfl dX4_gatherRing_0.2.2.2.1 rfl ?_
        refine zG_key (pc' := 32) hF rfl fg_X4_36 tb33 rfl dX4_gatherRing_0.2.2.2.2 rfl ?_
        refine zV_cm_ge (tgt := 128) (pc' := 35) dX4_gatherRing_1.1.1.1.1 rfl rfl ⟨by omega, by omega⟩ ⟨by omega, by omega⟩ (fun c32 => ?_) (fun c32 => ?_)
        · refine zW_iinc (ls' := [_, _, _, _, _, _, _]) (pc' := 131) dX4_gatherRing_4.1.2 rfl (by decide) rfl rfl rfl ?_
          refine zV_goto 8 dX4_gatherRing_4.2.1 rfl ?_
          refine zV_clr 5 (ls' := [_, _, _, _, _, _, _]) rfl ?_
          exact k8 _ _ hF (by omega) (by omega) (by omega)
        · refine zW_iload_n (pc' := 36) dX4_gatherRing_1.1.1.1.2 rfl rfl ?_
          refine zW_iconst (pc' := 37) dX4_gatherRing_1.1.1.2.1 rfl ?_
          refine zV_cm_eq (tgt := 52) (pc' := 40) dX4_gatherRing_1.1.1.2.2 rfl rfl ⟨by omega, by omega⟩ ⟨by omega, by omega⟩ (fun c37 => ?_) (fun c37 => ?_)
          · refine zW_iconst (pc' := 53) dX4_gatherRing_1.2.1.2.1 rfl ?_
            refine zV_goto 57 dX4_gatherRing_1.2.1.2.2 rfl ?_
            exact k57 _ _ _ _ hF (by omega) (by omega) (by omega) (by omega) (by omega) (by omega)
          · refine zW_aload_n (pc' := 41) dX4_gatherRing_1.1.2.1.1 rfl rfl ?_
            refine zW_iload (pc' := 43) dX4_gatherRing_1.1.2.1.2 rfl rfl ?_
            refine zW_iload (pc' := 45) dX4_gatherRing_1.1.2.2.1 rfl rfl ?_
            refine cvI2 (pc' := 48) kX4_ringOf vX4_ringOf lk_X4_39 ⟨Nat.le_of_ble_eq_true rfl, Nat.le_of_ble_eq_true rfl⟩ tb95 vq4 rfl rfl (s_X4_ringOf hK hF _ ⟨by omega, by omega, by omega⟩ _ ⟨by omega, by omega, by omega⟩) dX4_gatherRing_1.1.2.2.2 (Nat.le_of_ble_eq_true rfl) rfl ?_
            rintro r45 z45 ⟨hz45, p45⟩; subst z45
            refine zW_iload_n (pc' := 49) dX4_gatherRing_1.2.1.1.1 rfl rfl ?_
            refine zV_cmQ_ne (tgt := 56) (pc' := 52) dX4_gatherRing_1.2.1.1.2 rfl rfl ?_ ?_
            · refine zW_iconst (pc' := 57) dX4_gatherRing_1.2.2.1.1 rfl ?_
              exact k57 _ _ _ _ hF (by omega) (by omega) (by omega) (by omega) (by omega) (by omega)
            · refine zW_iconst (pc' := 53) dX4_gatherRing_1.2.1.2.1 rfl ?_
              refine zV_goto 57 dX4_gatherRing_1.2.1.2.2 rfl ?_
              exact k57 _ _ _ _ hF (by omega) (by omega) (by omega) (by omega) (by omega) (by omega)
      · intro v4 v5 u0 h hF g0 g1 g2 g3 g4 hm
        refine zW_istore (ls' := [_, _, _, _, _, _, _]) (pc' := 59) dX4_gatherRing_1.2.2.1.2 (by decide) rfl rfl rfl ?_
        refine zW_iload (pc' := 61) dX4_gatherRing_1.2.2.2.1 rfl rfl ?_
        refine zV_if_eq (tgt := 122) (pc' := 64) dX4_gatherRing_1.2.2.2.2 rfl rfl ⟨by omega, by omega⟩ (fun c61 => ?_) (fun c61 => ?_)
        · refine zW_iinc (ls' := [_, _, _, _, _, _, _]) (pc' := 125) dX4_gatherRing_3.2.2.2.2 rfl (by decide) rfl rfl rfl ?_
          refine zV_goto 23 dX4_gatherRing_4.1.1 rfl ?_
          refine zV_clr 6 (ls' := [_, _, _, _, _, _, _]) rfl ?_
          exact k23 _ _ _ hF (by omega) (by omega) (by omega) (by omega) (by omega)
        · refine zW_aload_n (pc' := 65) dX4_gatherRing_2.1.1.1.1 rfl rfl ?_
          refine zG_int (pc' := 68) fg_X4_27 tb95 rfl dX4_gatherRing_2.1.1.1.2 rfl ?_
          have e65 := hF.2.2.2.2.1
          refine zW_sipush (pc' := 71) dX4_gatherRing_2.1.1.2.1 rfl rfl ?_
          refine zV_cm_ge (tgt := 122) (pc' := 74) dX4_gatherRing_2.1.1.2.2 rfl rfl ⟨by omega, by omega⟩ ⟨by omega, by omega⟩ (fun c71 => ?_) (fun c71 => ?_)
          · refine zW_iinc (ls' := [_, _, _, _, _, _, _]) (pc' := 125) dX4_gatherRing_3.2.2.2.2 rfl (by decide) rfl rfl rfl ?_
            refine zV_goto 23 dX4_gatherRing_4.1.1 rfl ?_
            refine zV_clr 6 (ls' := [_, _, _, _, _, _, _]) rfl ?_
            exact k23 _ _ _ hF (by omega) (by omega) (by omega) (by omega) (by omega)
          · refine zW_aload_n (pc' := 75) dX4_gatherRing_2.1.2.1.1 rfl rfl ?_
            refine zW_aload_n (pc' := 76) dX4_gatherRing_2.1.2.1.2 rfl rfl ?_
            refine zG_ref (pc' := 79) 33 fg_X4_19 tb95 rfl dX4_gatherRing_2.1.2.2.1 rfl ?_
            refine zW_iload (pc' := 81) dX4_gatherRing_2.1.2.2.2 rfl rfl ?_
            refine zW_iload (pc' := 83) dX4_gatherRing_2.2.1.1.1 rfl rfl ?_
            refine zW_iload_n (pc' := 84) dX4_gatherRing_2.2.1.1.2 rfl rfl ?_
            refine cvI4 (pc' := 87) kX8_tells vX8_tells lk_X4_43 ⟨Nat.le_of_ble_eq_true rfl, Nat.le_of_ble_eq_true rfl⟩ (tabS (by omega) (by omega)) vq8 rfl rfl (s_X8_tells hK hF _ ⟨by omega, by omega⟩ _ _ _) dX4_gatherRing_2.2.1.2.1 (Nat.le_of_ble_eq_true rfl) rfl ?_
            rintro r84 z84 ⟨hz84, p84⟩; subst z84
            refine zV_if_eq (tgt := 122) (pc' := 90) dX4_gatherRing_2.2.1.2.2 rfl rfl ⟨by omega, by omega⟩ (fun c87 => ?_) (fun c87 => ?_)
            · refine zW_iinc (ls' := [_, _, _, _, _, _, _]) (pc' := 125) dX4_gatherRing_3.2.2.2.2 rfl (by decide) rfl rfl rfl ?_
              refine zV_goto 23 dX4_gatherRing_4.1.1 rfl ?_
              refine zV_clr 6 (ls' := [_, _, _, _, _, _, _]) rfl ?_
              exact k23 _ _ _ hF (by omega) (by omega) (by omega) (by omega) (by omega)
            · refine zW_aload_n (pc' := 91) dX4_gatherRing_2.2.2.1.1 rfl rfl ?_
              refine zG_ref (pc' := 94) 96 fg_X4_9 tb95 rfl dX4_gatherRing_2.2.2.1.2 rfl ?_
              refine zW_aload_n (pc' := 95) dX4_gatherRing_2.2.2.2.1 rfl rfl ?_
              refine zG_int (pc' := 98) fg_X4_27 tb95 rfl dX4_gatherRing_2.2.2.2.2 rfl ?_
              have e95 := hF.2.2.2.2.1
              refine zW_aload_n (pc' := 99) dX4_gatherRing_3.1.1.1.1 rfl rfl ?_
              refine zW_iload (pc' := 101) dX4_gatherRing_3.1.1.1.2 rfl rfl ?_
              refine zW_bipush (pc' := 103) dX4_gatherRing_3.1.1.2.1 rfl rfl ?_
              refine zW_imul (pc' := 104) dX4_gatherRing_3.1.1.2.2 rfl ?_
              refine zW_iload (pc' := 106) dX4_gatherRing_3.1.2.1.1 rfl rfl ?_
              refine zW_iadd (pc' := 107) dX4_gatherRing_3.1.2.1.2 rfl ?_
              refine zW_iload_n (pc' := 108) dX4_gatherRing_3.1.2.2.1 rfl rfl ?_
              refine cvI2 (pc' := 111) kX8_levelAt vX8_levelAt lk_X4_49 ⟨Nat.le_of_ble_eq_true rfl, Nat.le_of_ble_eq_true rfl⟩ (tabS (by omega) (by omega)) vq8 rfl rfl (s_X8_levelAt hF _ ⟨by omega, by omega⟩ _ ⟨by omega, by omega⟩ _ ⟨by omega, by omega⟩) dX4_gatherRing_3.1.2.2.2 (Nat.le_of_ble_eq_true rfl) rfl ?_
              rintro r108 z108 ⟨hz108, p108⟩; subst z108
              obtain ⟨ysv, hysv⟩ : ∃ z : Int, z = h 95 0 := ⟨_, rfl⟩
              refine zS_i (pc' := 112) hF rfl tb96 (by omega) dX4_gatherRing_3.2.1.1.1 (by decide) rfl (fun h i111 hF a111 b111 w111 => ?_)
              have z111 : h 95 0 = ysv := by rw [w111, hysv]; exact zwr_ne (Or.inl (by decide))
              refine zW_aload_n (pc' := 113) dX4_gatherRing_3.2.1.1.2 rfl rfl ?_
              refine zW_dup (pc' := 114) dX4_gatherRing_3.2.1.2.1 rfl rfl ?_
              refine zG_int (pc' := 117) fg_X4_27 tb95 rfl dX4_gatherRing_3.2.1.2.2 rfl ?_
              have e114 := hF.2.2.2.2.1
              refine zW_iconst (pc' := 118) dX4_gatherRing_3.2.2.1.1 rfl ?_
              refine zW_iadd (pc' := 119) dX4_gatherRing_3.2.2.1.2 rfl ?_
              refine zP_95 (pc' := 122) hF (by omega) fp_X4_27 dX4_gatherRing_3.2.2.2.1 rfl (fun h hF w119 => ?_)
              refine zW_iinc (ls' := [_, _, _, _, _, _, _]) (pc' := 125) dX4_gatherRing_3.2.2.2.2 rfl (by decide) rfl rfl rfl ?_
              refine zV_goto 23 dX4_gatherRing_4.1.1 rfl ?_
              refine zV_clr 6 (ls' := [_, _, _, _, _, _, _]) rfl ?_
              exact k23 _ _ _ hF (by omega) (by omega) (by omega) (by omega) (by omega)
  refine zM_of [some (.inr (.inr 95)), some (.inr (.inr s1)), some (.inl x2), some (.inl x3), none, none, none] 3 rfl rfl (Nat.le_of_ble_eq_true rfl) rfl ?_
  refine zW_aload_n (pc' := 1) dX4_gatherRing_0.1.1.1.1 rfl rfl ?_
  refine zW_iconst (pc' := 2) dX4_gatherRing_0.1.1.1.2 rfl ?_
  refine zP_95 (pc' := 5) hF (by omega) fp_X4_27 dX4_gatherRing_0.1.1.2.1 rfl (fun h hF w2 => ?_)
  refine zW_iconst (pc' := 6) dX4_gatherRing_0.1.1.2.2 rfl ?_
  refine zW_istore (ls' := [_, _, _, _, _, _, _]) (pc' := 8) dX4_gatherRing_0.1.2.1.1 (by decide) rfl rfl rfl ?_
  exact (main 10000000000000000000000000000000000000000).1 _ _ hF (by omega) (by omega) (by omega)

abbrev q_X4_gather (b : Bd) (κ : Hp) (s1 : Nat) (x2 : Int) : Int → Hp → Prop := fun r h' => Fr b κ h' ∧ (True)
set_option maxHeartbeats 4000000 in
set_option maxRecDepth 20000 in
theorem s_X4_gather {G : Ga} {b : Bd} {κ h : Hp} (hK : KC κ) (hF : Fr b κ h) (s1 : Nat) (hs1 : 56 ≤ s1 ∧ s1 ≤ 70) (x2 : Int) (hx2 : 0 ≤ x2 ∧ x2 ≤ 2) : zM G mX4_gather yX4_gather [.inr (.inr 95), .inr (.inr s1), .inl x2] h (q_X4_gather b κ s1 x2) := by
  refine zM_of [some (.inr (.inr 95)), some (.inr (.inr s1)), some (.inl x2)] 0 rfl rfl (Nat.le_of_ble_eq_true rfl) rfl ?_
  refine zW_aload_n (pc' := 1) dX4_gather_0.1.1.1 rfl rfl ?_
  refine zW_aload_n (pc' := 2) dX4_gather_0.1.1.2 rfl rfl ?_
  refine zW_iload_n (pc' := 3) dX4_gather_0.1.2 rfl rfl ?_
  refine zW_iconst (pc' := 4) dX4_gather_0.2.1.1 rfl ?_
  refine cvV3 (pc' := 7) kX4_gatherRing vX4_gatherRing lk_X4_23 ⟨Nat.le_of_ble_eq_true rfl, Nat.le_of_ble_eq_true rfl⟩ tb95 vq4 rfl rfl (s_X4_gatherRing hK hF _ ⟨by omega, by omega⟩ _ ⟨by omega, by omega⟩ _ ⟨by omega, by omega⟩) dX4_gather_0.2.1.2 (Nat.le_of_ble_eq_true rfl) rfl ?_
  rintro r4 h ⟨hF, p4⟩
  exact zV_vret rfl dX4_gather_0.2.2 ⟨hF, trivial⟩

abbrev q_X4_least (κ h : Hp)  : Int → Hp → Prop := fun r h' => h' = h ∧ (True)
set_option maxHeartbeats 4000000 in
set_option maxRecDepth 20000 in
theorem s_X4_least {G : Ga} {b : Bd} {κ h : Hp} (hK : KC κ) (hF : Fr b κ h)  : zM G mX4_least yX4_least [.inr (.inr 95)] h (q_X4_least κ h) := by
  have main : ∀ N : Nat, (∀ (v1 v2 : Int) , (rng v1) → (0 ≤ v2 ∧ v2 ≤ 256) → 70176 + 17 * (256 - v2) + 16 < (N : Int) → zV G mX4_least (q_X4_least κ h) 6 [some (.inr (.inr 95)), some (.inl v1), some (.inl v2)] [] h) := by
    intro N
    induction N with
    | zero =>
      intro v1 v2 g0 g1 hm
      unfold rng at g0
      exfalso; omega
    | succ N ih =>
      have k6 := ih
      intro v1 v2 g0 g1 hm
      unfold rng at g0
      refine zW_iload_n (pc' := 7) dX4_least_0.1.2.1.1 rfl rfl ?_
      refine zW_aload_n (pc' := 8) dX4_least_0.1.2.1.2 rfl rfl ?_
      refine zG_int (pc' := 11) fg_X4_27 tb95 rfl dX4_least_0.1.2.2.1 rfl ?_
      have e8 := hF.2.2.2.2.1
      refine zV_cm_ge (tgt := 31) (pc' := 14) dX4_least_0.1.2.2.2 rfl rfl ⟨by omega, by omega⟩ ⟨by omega, by omega⟩ (fun c11 => ?_) (fun c11 => ?_)
      · refine zW_iload_n (pc' := 32) dX4_least_1.1.2 rfl rfl ?_
        exact zV_iret rfl dX4_least_1.2 ⟨rfl, trivial⟩
      · refine zW_iload_n (pc' := 15) dX4_least_0.2.1.1.1 rfl rfl ?_
        refine zW_aload_n (pc' := 16) dX4_least_0.2.1.1.2 rfl rfl ?_
        refine zG_ref (pc' := 19) 96 fg_X4_9 tb95 rfl dX4_least_0.2.1.2.1 rfl ?_
        refine zW_iload_n (pc' := 20) dX4_least_0.2.1.2.2 rfl rfl ?_
        refine zV_iald (pc' := 21) tb96 (by omega) dX4_least_0.2.2.1.1 (by decide) rfl ?_
        refine zV_mmin (pc' := 24) km_X4_52 (Nat.le_of_ble_eq_true rfl) (Nat.le_of_ble_eq_true rfl) dX4_least_0.2.2.1.2 rfl (fun v21 e21 => ?_)
        replace e21 := e21.1
        unfold rng at e21
        refine zW_istore_n (ls' := [_, _, _]) (pc' := 25) dX4_least_0.2.2.2.1 (by decide) rfl rfl rfl ?_
        refine zW_iinc (ls' := [_, _, _]) (pc' := 28) dX4_least_0.2.2.2.2 rfl (by decide) rfl rfl rfl ?_
        refine zV_goto 6 dX4_least_1.1.1 rfl ?_
        exact k6 _ _ ⟨by omega, by omega⟩ (by omega) (by omega)
  refine zM_of [some (.inr (.inr 95)), none, none] 2 rfl rfl (Nat.le_of_ble_eq_true rfl) rfl ?_
  refine zW_sipush (pc' := 3) dX4_least_0.1.1.1.1 rfl rfl ?_
  refine zW_istore_n (ls' := [_, _, _]) (pc' := 4) dX4_least_0.1.1.1.2 (by decide) rfl rfl rfl ?_
  refine zW_iconst (pc' := 5) dX4_least_0.1.1.2.1 rfl ?_
  refine zW_istore_n (ls' := [_, _, _]) (pc' := 6) dX4_least_0.1.1.2.2 (by decide) rfl rfl rfl ?_
  exact (main 10000000000000000000000000000000000000000) _ _ ⟨by omega, by omega⟩ (by omega) (by omega)

abbrev q_X4_greatest (κ h : Hp)  : Int → Hp → Prop := fun r h' => h' = h ∧ (True)
set_option maxHeartbeats 4000000 in
set_option maxRecDepth 20000 in
theorem s_X4_greatest {G : Ga} {b : Bd} {κ h : Hp} (hK : KC κ) (hF : Fr b κ h)  : zM G mX4_greatest yX4_greatest [.inr (.inr 95)] h (q_X4_greatest κ h) := by
  have main : ∀ N : Nat, (∀ (v1 v2 : Int) , (rng v1) → (0 ≤ v2 ∧ v2 ≤ 256) → 70176 + 17 * (256 - v2) + 16 < (N : Int) → zV G mX4_greatest (q_X4_greatest κ h) 4 [some (.inr (.inr 95)), some (.inl v1), some (.inl v2)] [] h) := by
    intro N
    induction N with
    | zero =>
      intro v1 v2 g0 g1 hm
      unfold rng at g0
      exfalso; omega
    | succ N ih =>
      have k4 := ih
      intro v1 v2 g0 g1 hm
      unfold rng at g0
      refine zW_iload_n (pc' := 5) dX4_greatest_0.1.2.1.1 rfl rfl ?_
      refine zW_aload_n (pc' := 6) dX4_greatest_0.1.2.1.2 rfl rfl ?_
      refine zG_int (pc' := 9) fg_X4_27 tb95 rfl dX4_greatest_0.1.2.2.1 rfl ?_
      have e6 := hF.2.2.2.2.1
      refine zV_cm_ge (tgt := 29) (pc' := 12) dX4_greatest_0.1.2.2.2 rfl rfl ⟨by omega, by omega⟩ ⟨by omega, by omega⟩ (fun c9 => ?_) (fun c9 => ?_)
      · refine zW_iload_n (pc' := 30) dX4_greatest_1.1.2 rfl rfl ?_
        exact zV_iret rfl dX4_greatest_1.2 ⟨rfl, trivial⟩
      · refine zW_iload_n (pc' := 13) dX4_greatest_0.2.1.1.1 rfl rfl ?_
        refine zW_aload_n (pc' := 14) dX4_greatest_0.2.1.1.2 rfl rfl ?_
        refine zG_ref (pc' := 17) 96 fg_X4_9 tb95 rfl dX4_greatest_0.2.1.2.1 rfl ?_
        refine zW_iload_n (pc' := 18) dX4_greatest_0.2.1.2.2 rfl rfl ?_
        refine zV_iald (pc' := 19) tb96 (by omega) dX4_greatest_0.2.2.1.1 (by decide) rfl ?_
        refine zV_mmax (pc' := 22) km_X4_57 (Nat.le_of_ble_eq_true rfl) (Nat.le_of_ble_eq_true rfl) dX4_greatest_0.2.2.1.2 rfl (fun v19 e19 => ?_)
        replace e19 := e19.1
        unfold rng at e19
        refine zW_istore_n (ls' := [_, _, _]) (pc' := 23) dX4_greatest_0.2.2.2.1 (by decide) rfl rfl rfl ?_
        refine zW_iinc (ls' := [_, _, _]) (pc' := 26) dX4_greatest_0.2.2.2.2 rfl (by decide) rfl rfl rfl ?_
        refine zV_goto 4 dX4_greatest_1.1.1 rfl ?_
        exact k4 _ _ ⟨by omega, by omega⟩ (by omega) (by omega)
  refine zM_of [some (.inr (.inr 95)), none, none] 2 rfl rfl (Nat.le_of_ble_eq_true rfl) rfl ?_
  refine zW_iconst (pc' := 1) dX4_greatest_0.1.1.1.1 rfl ?_
  refine zW_istore_n (ls' := [_, _, _]) (pc' := 2) dX4_greatest_0.1.1.1.2 (by decide) rfl rfl rfl ?_
  refine zW_iconst (pc' := 3) dX4_greatest_0.1.1.2.1 rfl ?_
  refine zW_istore_n (ls' := [_, _, _]) (pc' := 4) dX4_greatest_0.1.1.2.2 (by decide) rfl rfl rfl ?_
  exact (main 10000000000000000000000000000000000000000) _ _ ⟨by omega, by omega⟩ (by omega) (by omega)

abbrev q_X4_together (κ h : Hp)  : Int → Hp → Prop := fun r h' => h' = h ∧ (True)
set_option maxHeartbeats 4000000 in
set_option maxRecDepth 20000 in
theorem s_X4_together {G : Ga} {b : Bd} {κ h : Hp} (hK : KC κ) (hF : Fr b κ h)  : zM G mX4_together yX4_together [.inr (.inr 95)] h (q_X4_together κ h) := by
  have main : ∀ N : Nat, (∀ (v1 v2 : Int) , (0 ≤ v2 ∧ v2 ≤ 256) → 70176 + 17 * (256 - v2) + 16 < (N : Int) → zV G mX4_together (q_X4_together κ h) 4 [some (.inr (.inr 95)), some (.inl v1), some (.inl v2)] [] h) := by
    intro N
    induction N with
    | zero =>
      intro v1 v2 g0 hm
      exfalso; omega
    | succ N ih =>
      have k4 := ih
      intro v1 v2 g0 hm
      refine zW_iload_n (pc' := 5) dX4_together_0.1.2.1.1 rfl rfl ?_
      refine zW_aload_n (pc' := 6) dX4_together_0.1.2.1.2 rfl rfl ?_
      refine zG_int (pc' := 9) fg_X4_27 tb95 rfl dX4_together_0.1.2.2.1 rfl ?_
      have e6 := hF.2.2.2.2.1
      refine zV_cm_ge (tgt := 27) (pc' := 12) dX4_together_0.1.2.2.2 rfl rfl ⟨by omega, by omega⟩ ⟨by omega, by omega⟩ (fun c9 => ?_) (fun c9 => ?_)
      · refine zW_iload_n (pc' := 28) dX4_together_1.1.2 rfl rfl ?_
        exact zV_iret rfl dX4_together_1.2 ⟨rfl, trivial⟩
      · refine zW_iload_n (pc' := 13) dX4_together_0.2.1.1.1 rfl rfl ?_
        refine zW_aload_n (pc' := 14) dX4_together_0.2.1.1.2 rfl rfl ?_
        refine zG_ref (pc' := 17) 96 fg_X4_9 tb95 rfl dX4_together_0.2.1.2.1 rfl ?_
        refine zW_iload_n (pc' := 18) dX4_together_0.2.1.2.2 rfl rfl ?_
        refine zV_iald (pc' := 19) tb96 (by omega) dX4_together_0.2.2.1.1 (by decide) rfl ?_
        refine zW_iadd (pc' := 20) dX4_together_0.2.2.1.2 rfl ?_
        refine zW_istore_n (ls' := [_, _, _]) (pc' := 21) dX4_together_0.2.2.2.1 (by decide) rfl rfl rfl ?_
        refine zW_iinc (ls' := [_, _, _]) (pc' := 24) dX4_together_0.2.2.2.2 rfl (by decide) rfl rfl rfl ?_
        refine zV_goto 4 dX4_together_1.1.1 rfl ?_
        exact k4 _ _ (by omega) (by omega)
  refine zM_of [some (.inr (.inr 95)), none, none] 2 rfl rfl (Nat.le_of_ble_eq_true rfl) rfl ?_
  refine zW_iconst (pc' := 1) dX4_together_0.1.1.1.1 rfl ?_
  refine zW_istore_n (ls' := [_, _, _]) (pc' := 2) dX4_together_0.1.1.1.2 (by decide) rfl rfl rfl ?_
  refine zW_iconst (pc' := 3) dX4_together_0.1.1.2.1 rfl ?_
  refine zW_istore_n (ls' := [_, _, _]) (pc' := 4) dX4_together_0.1.1.2.2 (by decide) rfl rfl rfl ?_
  exact (main 10000000000000000000000000000000000000000) _ _ (by omega) (by omega)

abbrev q_X4_between (κ h : Hp) (x1 : Int) (x2 : Int) : Int → Hp → Prop := fun r h' => h' = h ∧ (True)
set_option maxHeartbeats 4000000 in
set_option maxRecDepth 20000 in
theorem s_X4_between {G : Ga} {b : Bd} {κ h : Hp} (hK : KC κ) (hF : Fr b κ h) (x1 : Int) (x2 : Int) : zM G mX4_between yX4_between [.inr (.inr 95), .inl x1, .inl x2] h (q_X4_between κ h x1 x2) := by
  have main : ∀ N : Nat, (∀ (v3 v4 : Int) , (0 ≤ v4 ∧ v4 ≤ 256) → 130548 + 23 * (256 - v4) + 22 < (N : Int) → zV G mX4_between (q_X4_between κ h x1 x2) 5 [some (.inr (.inr 95)), some (.inl x1), some (.inl x2), some (.inl v3), some (.inl v4)] [] h) := by
    intro N
    induction N with
    | zero =>
      intro v3 v4 g0 hm
      exfalso; omega
    | succ N ih =>
      have k5 := ih
      intro v3 v4 g0 hm
      refine zW_iload (pc' := 7) dX4_between_0.1.2.1.1 rfl rfl ?_
      refine zW_aload_n (pc' := 8) dX4_between_0.1.2.1.2 rfl rfl ?_
      refine zG_int (pc' := 11) fg_X4_27 tb95 rfl dX4_between_0.1.2.2.1 rfl ?_
      have e8 := hF.2.2.2.2.1
      refine zV_cm_ge (tgt := 45) (pc' := 14) dX4_between_0.1.2.2.2 rfl rfl ⟨by omega, by omega⟩ ⟨by omega, by omega⟩ (fun c11 => ?_) (fun c11 => ?_)
      · refine zW_iload_n (pc' := 46) dX4_between_1.2.2.1 rfl rfl ?_
        exact zV_iret rfl dX4_between_1.2.2.2 ⟨rfl, trivial⟩
      · refine zW_aload_n (pc' := 15) dX4_between_0.2.1.1.1 rfl rfl ?_
        refine zG_ref (pc' := 18) 96 fg_X4_9 tb95 rfl dX4_between_0.2.1.1.2 rfl ?_
        refine zW_iload (pc' := 20) dX4_between_0.2.1.2.1 rfl rfl ?_
        refine zV_iald (pc' := 21) tb96 (by omega) dX4_between_0.2.1.2.2 (by decide) rfl ?_
        refine zW_iload_n (pc' := 22) dX4_between_0.2.2.1.1 rfl rfl ?_
        refine zV_cmQ_lt (tgt := 39) (pc' := 25) dX4_between_0.2.2.1.2 rfl rfl ?_ ?_
        · refine zW_iinc (ls' := [_, _, _, _, _]) (pc' := 42) dX4_between_1.2.1.1 rfl (by decide) rfl rfl rfl ?_
          refine zV_goto 5 dX4_between_1.2.1.2 rfl ?_
          exact k5 _ _ (by omega) (by omega)
        · refine zW_aload_n (pc' := 26) dX4_between_0.2.2.2.1 rfl rfl ?_
          refine zG_ref (pc' := 29) 96 fg_X4_9 tb95 rfl dX4_between_0.2.2.2.2 rfl ?_
          refine zW_iload (pc' := 31) dX4_between_1.1.1.1.1 rfl rfl ?_
          refine zV_iald (pc' := 32) tb96 (by omega) dX4_between_1.1.1.1.2 (by decide) rfl ?_
          refine zW_iload_n (pc' := 33) dX4_between_1.1.1.2 rfl rfl ?_
          refine zV_cmQ_gt (tgt := 39) (pc' := 36) dX4_between_1.1.2.1 rfl rfl ?_ ?_
          · refine zW_iinc (ls' := [_, _, _, _, _]) (pc' := 42) dX4_between_1.2.1.1 rfl (by decide) rfl rfl rfl ?_
            refine zV_goto 5 dX4_between_1.2.1.2 rfl ?_
            exact k5 _ _ (by omega) (by omega)
          · refine zW_iinc (ls' := [_, _, _, _, _]) (pc' := 39) dX4_between_1.1.2.2 rfl (by decide) rfl rfl rfl ?_
            refine zW_iinc (ls' := [_, _, _, _, _]) (pc' := 42) dX4_between_1.2.1.1 rfl (by decide) rfl rfl rfl ?_
            refine zV_goto 5 dX4_between_1.2.1.2 rfl ?_
            exact k5 _ _ (by omega) (by omega)
  refine zM_of [some (.inr (.inr 95)), some (.inl x1), some (.inl x2), none, none] 2 rfl rfl (Nat.le_of_ble_eq_true rfl) rfl ?_
  refine zW_iconst (pc' := 1) dX4_between_0.1.1.1.1 rfl ?_
  refine zW_istore_n (ls' := [_, _, _, _, _]) (pc' := 2) dX4_between_0.1.1.1.2 (by decide) rfl rfl rfl ?_
  refine zW_iconst (pc' := 3) dX4_between_0.1.1.2.1 rfl ?_
  refine zW_istore (ls' := [_, _, _, _, _]) (pc' := 5) dX4_between_0.1.1.2.2 (by decide) rfl rfl rfl ?_
  exact (main 10000000000000000000000000000000000000000) _ _ (by omega) (by omega)

abbrev q_J7_fill_d0a16 (b : Bd) (κ : Hp) (x2 : Int) : Int → Hp → Prop := fun r h' => Fr b κ h' ∧ (True)
set_option maxHeartbeats 4000000 in
set_option maxRecDepth 20000 in
theorem s_J7_fill_d0a16 {G : Ga} {b : Bd} {κ h : Hp} (hF : Fr b κ h) (x2 : Int) : zM G mJ7_fill_d0a16 yJ7_fill_d0a16 [.inr (.inr 97), .inr (.inl x2)] h (q_J7_fill_d0a16 b κ x2) := by
  have main : ∀ N : Nat, (∀ (v3 v4 : Int) (h : Hp), Fr b κ h → (0 ≤ v3 ∧ v3 ≤ 64) → (64 ≤ v4 ∧ v4 ≤ 64) → 8712 + 12 * (64 - v3) + 11 < (N : Int) → zV G mJ7_fill_d0a16 (q_J7_fill_d0a16 b κ x2) 6 [some (.inr (.inr 97)), some (.inr (.inl x2)), none, some (.inl v3), some (.inl v4)] [] h) := by
    intro N
    induction N with
    | zero =>
      intro v3 v4 h hF g0 g1 hm
      exfalso; omega
    | succ N ih =>
      have k6 := ih
      intro v3 v4 h hF g0 g1 hm
      refine zW_iload_n (pc' := 7) dJ7_fill_d0a16_0.1.2.1.2 rfl rfl ?_
      refine zW_iload (pc' := 9) dJ7_fill_d0a16_0.1.2.2.1 rfl rfl ?_
      refine zV_cm_ge (tgt := 22) (pc' := 12) dJ7_fill_d0a16_0.1.2.2.2 rfl rfl ⟨by omega, by omega⟩ ⟨by omega, by omega⟩ (fun c9 => ?_) (fun c9 => ?_)
      · exact zV_vret rfl dJ7_fill_d0a16_0.2.2.2 ⟨hF, trivial⟩
      · refine zW_aload_n (pc' := 13) dJ7_fill_d0a16_0.2.1.1.1 rfl rfl ?_
        refine zW_iload_n (pc' := 14) dJ7_fill_d0a16_0.2.1.1.2 rfl rfl ?_
        refine zW_lload_n (pc' := 15) dJ7_fill_d0a16_0.2.1.2.1 rfl rfl ?_
        refine zS_l (pc' := 16) hF rfl rfl tb97 (by omega) dJ7_fill_d0a16_0.2.1.2.2 (by decide) rfl (fun h hF => ?_)
        refine zW_iinc (ls' := [_, _, _, _, _]) (pc' := 19) dJ7_fill_d0a16_0.2.2.1.1 rfl (by decide) rfl rfl rfl ?_
        refine zV_goto 6 dJ7_fill_d0a16_0.2.2.1.2 rfl ?_
        exact k6 _ _ _ hF (by omega) (by omega) (by omega)
  refine zM_of [some (.inr (.inr 97)), some (.inr (.inl x2)), none, none, none] 2 (by decide +kernel) rfl (Nat.le_of_ble_eq_true rfl) rfl ?_
  refine zW_iconst (pc' := 1) dJ7_fill_d0a16_0.1.1.1.1 rfl ?_
  refine zW_istore_n (ls' := [_, _, _, _, _]) (pc' := 2) dJ7_fill_d0a16_0.1.1.1.2 (by decide) rfl rfl rfl ?_
  refine zW_aload_n (pc' := 3) dJ7_fill_d0a16_0.1.1.2.1 rfl rfl ?_
  refine zV_alenL (pc' := 4) tb97 dJ7_fill_d0a16_0.1.1.2.2 rfl ?_
  refine zW_istore (ls' := [_, _, _, _, _]) (pc' := 6) dJ7_fill_d0a16_0.1.2.1.1 (by decide) rfl rfl rfl ?_
  exact (main 10000000000000000000000000000000000000000) _ _ _ hF (by omega) (by omega) (by omega)

abbrev q_J13_bitCount_95d88 (κ h : Hp) (x1 : Int) : Int → Hp → Prop := fun r h' => h' = h ∧ (True)
set_option maxHeartbeats 4000000 in
set_option maxRecDepth 20000 in
theorem s_J13_bitCount_95d88 {G : Ga} {b : Bd} {κ h : Hp} (hF : Fr b κ h) (x1 : Int) : zM G mJ13_bitCount_95d88 yJ13_bitCount_95d88 [.inr (.inl x1)] h (q_J13_bitCount_95d88 κ h x1) := by
  refine zM_of [some (.inr (.inl x1)), none] 0 (by decide +kernel) rfl (Nat.le_of_ble_eq_true rfl) rfl ?_
  refine zW_lload_n (pc' := 1) dJ13_bitCount_95d88_0.1.1.1.1 rfl rfl ?_
  refine zW_lload_n (pc' := 2) dJ13_bitCount_95d88_0.1.1.1.2 rfl rfl ?_
  refine zW_iconst (pc' := 3) dJ13_bitCount_95d88_0.1.1.2.1 rfl ?_
  refine zW_lushr (pc' := 4) dJ13_bitCount_95d88_0.1.1.2.2 rfl (fun v3 => ?_)
  refine zV_ldc2 (n := 6148914691236517205) (pc' := 7) kl_J13_314 rfl dJ13_bitCount_95d88_0.1.2.1.1 rfl ?_
  refine zW_land (pc' := 8) dJ13_bitCount_95d88_0.1.2.1.2 rfl (fun v7 => ?_)
  refine zW_lsub (pc' := 9) dJ13_bitCount_95d88_0.1.2.2.1 rfl (fun v8 => ?_)
  refine zW_lstore_n (ls' := [_, _]) (pc' := 10) dJ13_bitCount_95d88_0.1.2.2.2 (by decide) rfl rfl rfl ?_
  refine zW_lload_n (pc' := 11) dJ13_bitCount_95d88_0.2.1.1.1 rfl rfl ?_
  refine zV_ldc2 (n := 3689348814741910323) (pc' := 14) kl_J13_316 rfl dJ13_bitCount_95d88_0.2.1.1.2 rfl ?_
  refine zW_land (pc' := 15) dJ13_bitCount_95d88_0.2.1.2.1 rfl (fun v14 => ?_)
  refine zW_lload_n (pc' := 16) dJ13_bitCount_95d88_0.2.1.2.2 rfl rfl ?_
  refine zW_iconst (pc' := 17) dJ13_bitCount_95d88_0.2.2.1.1 rfl ?_
  refine zW_lushr (pc' := 18) dJ13_bitCount_95d88_0.2.2.1.2 rfl (fun v17 => ?_)
  refine zV_ldc2 (n := 3689348814741910323) (pc' := 21) kl_J13_316 rfl dJ13_bitCount_95d88_0.2.2.2.1 rfl ?_
  refine zW_land (pc' := 22) dJ13_bitCount_95d88_0.2.2.2.2 rfl (fun v21 => ?_)
  refine zW_ladd (pc' := 23) dJ13_bitCount_95d88_1.1.1.1.1 rfl ?_
  refine zW_lstore_n (ls' := [_, _]) (pc' := 24) dJ13_bitCount_95d88_1.1.1.1.2 (by decide) rfl rfl rfl ?_
  refine zW_lload_n (pc' := 25) dJ13_bitCount_95d88_1.1.1.2.1 rfl rfl ?_
  refine zW_lload_n (pc' := 26) dJ13_bitCount_95d88_1.1.1.2.2 rfl rfl ?_
  refine zW_iconst (pc' := 27) dJ13_bitCount_95d88_1.1.2.1.1 rfl ?_
  refine zW_lushr (pc' := 28) dJ13_bitCount_95d88_1.1.2.1.2 rfl (fun v27 => ?_)
  refine zW_ladd (pc' := 29) dJ13_bitCount_95d88_1.1.2.2.1 rfl ?_
  refine zV_ldc2 (n := 1085102592571150095) (pc' := 32) kl_J13_318 rfl dJ13_bitCount_95d88_1.1.2.2.2 rfl ?_
  refine zW_land (pc' := 33) dJ13_bitCount_95d88_1.2.1.1.1 rfl (fun v32 => ?_)
  refine zW_lstore_n (ls' := [_, _]) (pc' := 34) dJ13_bitCount_95d88_1.2.1.1.2 (by decide) rfl rfl rfl ?_
  refine zW_lload_n (pc' := 35) dJ13_bitCount_95d88_1.2.1.2.1 rfl rfl ?_
  refine zW_lload_n (pc' := 36) dJ13_bitCount_95d88_1.2.1.2.2 rfl rfl ?_
  refine zW_bipush (pc' := 38) dJ13_bitCount_95d88_1.2.2.1.1 rfl rfl ?_
  refine zW_lushr (pc' := 39) dJ13_bitCount_95d88_1.2.2.1.2 rfl (fun v38 => ?_)
  refine zW_ladd (pc' := 40) dJ13_bitCount_95d88_1.2.2.2.1 rfl ?_
  refine zW_lstore_n (ls' := [_, _]) (pc' := 41) dJ13_bitCount_95d88_1.2.2.2.2 (by decide) rfl rfl rfl ?_
  refine zW_lload_n (pc' := 42) dJ13_bitCount_95d88_2.1.1.1.1 rfl rfl ?_
  refine zW_lload_n (pc' := 43) dJ13_bitCount_95d88_2.1.1.1.2 rfl rfl ?_
  refine zW_bipush (pc' := 45) dJ13_bitCount_95d88_2.1.1.2.1 rfl rfl ?_
  refine zW_lushr (pc' := 46) dJ13_bitCount_95d88_2.1.1.2.2 rfl (fun v45 => ?_)
  refine zW_ladd (pc' := 47) dJ13_bitCount_95d88_2.1.2.1.1 rfl ?_
  refine zW_lstore_n (ls' := [_, _]) (pc' := 48) dJ13_bitCount_95d88_2.1.2.1.2 (by decide) rfl rfl rfl ?_
  refine zW_lload_n (pc' := 49) dJ13_bitCount_95d88_2.1.2.2.1 rfl rfl ?_
  refine zW_lload_n (pc' := 50) dJ13_bitCount_95d88_2.1.2.2.2 rfl rfl ?_
  refine zW_bipush (pc' := 52) dJ13_bitCount_95d88_2.2.1.1.1 rfl rfl ?_
  refine zW_lushr (pc' := 53) dJ13_bitCount_95d88_2.2.1.1.2 rfl (fun v52 => ?_)
  refine zW_ladd (pc' := 54) dJ13_bitCount_95d88_2.2.1.2.1 rfl ?_
  refine zW_lstore_n (ls' := [_, _]) (pc' := 55) dJ13_bitCount_95d88_2.2.1.2.2 (by decide) rfl rfl rfl ?_
  refine zW_lload_n (pc' := 56) dJ13_bitCount_95d88_2.2.2.1.1 rfl rfl ?_
  refine zW_l2i (pc' := 57) dJ13_bitCount_95d88_2.2.2.1.2 rfl (fun v56 e56 => ?_)
  unfold rng at e56
  refine zW_bipush (pc' := 59) dJ13_bitCount_95d88_2.2.2.2.1 rfl rfl ?_
  refine zW_iandC (pc' := 60) (by omega) dJ13_bitCount_95d88_2.2.2.2.2 rfl (fun v59 e59 => ?_)
  exact zV_iret rfl dJ13_bitCount_95d88_3 ⟨rfl, trivial⟩

abbrev q_X4_unlikeOnes (b : Bd) (κ : Hp)  : Int → Hp → Prop := fun r h' => Fr b κ h' ∧ (True)
set_option maxHeartbeats 4000000 in
set_option maxRecDepth 20000 in
theorem s_X4_unlikeOnes {G : Ga} {b : Bd} {κ h : Hp} (hK : KC κ) (hF : Fr b κ h)  : zM G mX4_unlikeOnes yX4_unlikeOnes [.inr (.inr 95)] h (q_X4_unlikeOnes b κ) := by
  have main : ∀ N : Nat, (∀ (v1 : Int) (h : Hp), Fr b κ h → (0 ≤ v1 ∧ v1 ≤ 256) → 606816 + 49 * (256 - v1) + 48 < (N : Int) → zV G mX4_unlikeOnes (q_X4_unlikeOnes b κ) 10 [some (.inr (.inr 95)), some (.inl v1), none] [] h) ∧ (∀ (v1 v2 : Int) (h : Hp), Fr b κ h → (0 ≤ v2 ∧ v2 ≤ 64) → 505680 + 49 * (64 - v2) + 40 < (N : Int) → zV G mX4_unlikeOnes (q_X4_unlikeOnes b κ) 56 [some (.inr (.inr 95)), some (.inl v1), some (.inl v2)] [] h) := by
    intro N
    induction N with
    | zero =>
      refine ⟨?_, ?_⟩
      · intro v1 h hF g0 hm
        exfalso; omega
      · intro v1 v2 h hF g0 hm
        exfalso; omega
    | succ N ih =>
      obtain ⟨k10, k56⟩ := ih
      refine ⟨?_, ?_⟩
      · intro v1 h hF g0 hm
        refine zW_iload_n (pc' := 11) dX4_unlikeOnes_0.1.2.2.1 rfl rfl ?_
        refine zW_aload_n (pc' := 12) dX4_unlikeOnes_0.1.2.2.2 rfl rfl ?_
        refine zG_int (pc' := 15) fg_X4_27 tb95 rfl dX4_unlikeOnes_0.2.1.1.1 rfl ?_
        have e12 := hF.2.2.2.2.1
        refine zV_cm_ge (tgt := 52) (pc' := 18) dX4_unlikeOnes_0.2.1.1.2 rfl rfl ⟨by omega, by omega⟩ ⟨by omega, by omega⟩ (fun c15 => ?_) (fun c15 => ?_)
        · refine zW_iconst (pc' := 53) dX4_unlikeOnes_2.1.1.1.1 rfl ?_
          refine zW_istore_n (ls' := [_, _, _]) (pc' := 54) dX4_unlikeOnes_2.1.1.1.2 (by decide) rfl rfl rfl ?_
          refine zW_iconst (pc' := 55) dX4_unlikeOnes_2.1.1.2.1 rfl ?_
          refine zW_istore_n (ls' := [_, _, _]) (pc' := 56) dX4_unlikeOnes_2.1.1.2.2 (by decide) rfl rfl rfl ?_
          exact k56 _ _ _ hF (by omega) (by omega)
        · refine zW_aload_n (pc' := 19) dX4_unlikeOnes_0.2.1.2.1 rfl rfl ?_
          refine zG_ref (pc' := 22) 96 fg_X4_9 tb95 rfl dX4_unlikeOnes_0.2.1.2.2 rfl ?_
          refine zW_iload_n (pc' := 23) dX4_unlikeOnes_0.2.2.1.1 rfl rfl ?_
          refine zV_iald (pc' := 24) tb96 (by omega) dX4_unlikeOnes_0.2.2.1.2 (by decide) rfl ?_
          refine csI1 (pc' := 27) kX11_clipped vX11_clipped lk_X4_66 ⟨Nat.le_of_ble_eq_true rfl, Nat.le_of_ble_eq_true rfl⟩ rfl (s_X11_clipped hF _) dX4_unlikeOnes_0.2.2.2.1 (Nat.le_of_ble_eq_true rfl) rfl ?_
          rintro r24 z24 ⟨hz24, p24⟩; subst z24
          refine zW_istore_n (ls' := [_, _, _]) (pc' := 28) dX4_unlikeOnes_0.2.2.2.2 (by decide) rfl rfl rfl ?_
          refine zW_aload_n (pc' := 29) dX4_unlikeOnes_1.1.1.1.1 rfl rfl ?_
          refine zG_ref (pc' := 32) 97 fg_X4_15 tb95 rfl dX4_unlikeOnes_1.1.1.1.2 rfl ?_
          refine zW_iload_n (pc' := 33) dX4_unlikeOnes_1.1.1.2.1 rfl rfl ?_
          refine zW_bipush (pc' := 35) dX4_unlikeOnes_1.1.1.2.2 rfl rfl ?_
          refine zW_idiv (pc' := 36) (by omega) (by omega) dX4_unlikeOnes_1.1.2.1.1 rfl ?_
          refine zW_dup2 (pc' := 37) dX4_unlikeOnes_1.1.2.1.2 rfl rfl rfl ?_
          refine zV_lald (pc' := 38) tb97 (by omega) dX4_unlikeOnes_1.1.2.2.1 (by decide) rfl ?_
          refine zW_lconst (pc' := 39) dX4_unlikeOnes_1.1.2.2.2 rfl ?_
          refine zW_iload_n (pc' := 40) dX4_unlikeOnes_1.2.1.1.1 rfl rfl ?_
          refine zW_bipush (pc' := 42) dX4_unlikeOnes_1.2.1.1.2 rfl rfl ?_
          refine zW_irem (pc' := 43) (by omega) (by omega) dX4_unlikeOnes_1.2.1.2.1 rfl ?_
          refine zW_lshl (pc' := 44) dX4_unlikeOnes_1.2.1.2.2 rfl (fun v43 => ?_)
          refine zW_lor (pc' := 45) dX4_unlikeOnes_1.2.2.1.1 rfl (fun v44 => ?_)
          refine zS_l (pc' := 46) hF rfl rfl tb97 (by omega) dX4_unlikeOnes_1.2.2.1.2 (by decide) rfl (fun h hF => ?_)
          refine zW_iinc (ls' := [_, _, _]) (pc' := 49) dX4_unlikeOnes_1.2.2.2.1 rfl (by decide) rfl rfl rfl ?_
          refine zV_goto 10 dX4_unlikeOnes_1.2.2.2.2 rfl ?_
          refine zV_clr 2 (ls' := [_, _, _]) rfl ?_
          exact k10 _ _ hF (by omega) (by omega)
      · intro v1 v2 h hF g0 hm
        refine zW_iload_n (pc' := 57) dX4_unlikeOnes_2.1.2.1.1 rfl rfl ?_
        refine zW_aload_n (pc' := 58) dX4_unlikeOnes_2.1.2.1.2 rfl rfl ?_
        refine zG_ref (pc' := 61) 97 fg_X4_15 tb95 rfl dX4_unlikeOnes_2.1.2.2.1 rfl ?_
        refine zV_alenL (pc' := 62) tb97 dX4_unlikeOnes_2.1.2.2.2 rfl ?_
        refine zV_cm_ge (tgt := 83) (pc' := 65) dX4_unlikeOnes_2.2.1.1.1 rfl rfl ⟨by omega, by omega⟩ ⟨by omega, by omega⟩ (fun c62 => ?_) (fun c62 => ?_)
        · refine zW_iload_n (pc' := 84) dX4_unlikeOnes_3.2.1 rfl rfl ?_
          exact zV_iret rfl dX4_unlikeOnes_3.2.2 ⟨hF, trivial⟩
        · refine zW_iload_n (pc' := 66) dX4_unlikeOnes_2.2.1.1.2 rfl rfl ?_
          refine zW_aload_n (pc' := 67) dX4_unlikeOnes_2.2.1.2.1 rfl rfl ?_
          refine zG_ref (pc' := 70) 97 fg_X4_15 tb95 rfl dX4_unlikeOnes_2.2.1.2.2 rfl ?_
          refine zW_iload_n (pc' := 71) dX4_unlikeOnes_2.2.2.1.1 rfl rfl ?_
          refine zV_lald (pc' := 72) tb97 (by omega) dX4_unlikeOnes_2.2.2.1.2 (by decide) rfl ?_
          refine csI1 (pc' := 75) kJ13_bitCount_95d88 vJ13_bitCount_95d88 lk_X4_70 ⟨Nat.le_of_ble_eq_true rfl, Nat.le_of_ble_eq_true rfl⟩ rfl (s_J13_bitCount_95d88 hF _) dX4_unlikeOnes_2.2.2.2.1 (Nat.le_of_ble_eq_true rfl) rfl ?_
          rintro r72 z72 ⟨hz72, p72⟩; subst z72
          refine zW_iadd (pc' := 76) dX4_unlikeOnes_2.2.2.2.2 rfl ?_
          refine zW_istore_n (ls' := [_, _, _]) (pc' := 77) dX4_unlikeOnes_3.1.1.1 (by decide) rfl rfl rfl ?_
          refine zW_iinc (ls' := [_, _, _]) (pc' := 80) dX4_unlikeOnes_3.1.1.2 rfl (by decide) rfl rfl rfl ?_
          refine zV_goto 56 dX4_unlikeOnes_3.1.2 rfl ?_
          exact k56 _ _ _ hF (by omega) (by omega)
  refine zM_of [some (.inr (.inr 95)), none, none] 2 rfl rfl (Nat.le_of_ble_eq_true rfl) rfl ?_
  refine zW_aload_n (pc' := 1) dX4_unlikeOnes_0.1.1.1.1 rfl rfl ?_
  refine zG_ref (pc' := 4) 97 fg_X4_15 tb95 rfl dX4_unlikeOnes_0.1.1.1.2 rfl ?_
  refine zW_lconst (pc' := 5) dX4_unlikeOnes_0.1.1.2.1 rfl ?_
  refine csV2 (pc' := 8) kJ7_fill_d0a16 vJ7_fill_d0a16 lk_X4_60 ⟨Nat.le_of_ble_eq_true rfl, Nat.le_of_ble_eq_true rfl⟩ rfl (s_J7_fill_d0a16 hF _) dX4_unlikeOnes_0.1.1.2.2 (Nat.le_of_ble_eq_true rfl) rfl ?_
  rintro r5 h ⟨hF, p5⟩
  refine zW_iconst (pc' := 9) dX4_unlikeOnes_0.1.2.1.1 rfl ?_
  refine zW_istore_n (ls' := [_, _, _]) (pc' := 10) dX4_unlikeOnes_0.1.2.1.2 (by decide) rfl rfl rfl ?_
  exact (main 10000000000000000000000000000000000000000).1 _ _ hF (by omega) (by omega)

abbrev q_X4_percentile (κ h : Hp) (x1 : Int) : Int → Hp → Prop := fun r h' => h' = h ∧ (True)
set_option maxHeartbeats 4000000 in
set_option maxRecDepth 20000 in
theorem s_X4_percentile {G : Ga} {b : Bd} {κ h : Hp} (hK : KC κ) (hF : Fr b κ h) (x1 : Int) : zM G mX4_percentile yX4_percentile [.inr (.inr 95), .inl x1] h (q_X4_percentile κ h x1) := by
  have main : ∀ N : Nat, (∀ (v2 v3 v4 : Int) , (0 ≤ v2 ∧ v2 ≤ 4095) → (0 ≤ v3 ∧ v3 ≤ 4095) → (0 ≤ v4 ∧ v4 ≤ 12) → 17640 + 36 * (12 - v4) + 35 < (N : Int) → zV G mX4_percentile (q_X4_percentile κ h x1) 9 [some (.inr (.inr 95)), some (.inl x1), some (.inl v2), some (.inl v3), some (.inl v4), none] [] h) := by
    intro N
    induction N with
    | zero =>
      intro v2 v3 v4 g0 g1 g2 hm
      exfalso; omega
    | succ N ih =>
      have k9 := ih
      intro v2 v3 v4 g0 g1 g2 hm
      refine zW_iload (pc' := 11) dX4_percentile_0.1.2.2.1 rfl rfl ?_
      refine zW_bipush (pc' := 13) dX4_percentile_0.1.2.2.2 rfl rfl ?_
      refine zV_cm_ge (tgt := 64) (pc' := 16) dX4_percentile_0.2.1.1.1 rfl rfl ⟨by omega, by omega⟩ ⟨by omega, by omega⟩ (fun c13 => ?_) (fun c13 => ?_)
      · refine zW_iload_n (pc' := 65) dX4_percentile_2.2.2.1 rfl rfl ?_
        exact zV_iret rfl dX4_percentile_2.2.2.2 ⟨rfl, trivial⟩
      · refine zW_iload_n (pc' := 17) dX4_percentile_0.2.1.1.2 rfl rfl ?_
        refine zW_iload_n (pc' := 18) dX4_percentile_0.2.1.2.1 rfl rfl ?_
        refine zV_cm_ge (tgt := 64) (pc' := 21) dX4_percentile_0.2.1.2.2 rfl rfl ⟨by omega, by omega⟩ ⟨by omega, by omega⟩ (fun c18 => ?_) (fun c18 => ?_)
        · refine zW_iload_n (pc' := 65) dX4_percentile_2.2.2.1 rfl rfl ?_
          exact zV_iret rfl dX4_percentile_2.2.2.2 ⟨rfl, trivial⟩
        · refine zW_iload_n (pc' := 22) dX4_percentile_0.2.2.1.1 rfl rfl ?_
          refine zW_iload_n (pc' := 23) dX4_percentile_0.2.2.1.2 rfl rfl ?_
          refine zW_iadd (pc' := 24) dX4_percentile_0.2.2.2.1 rfl ?_
          refine zW_iconst (pc' := 25) dX4_percentile_0.2.2.2.2 rfl ?_
          refine zW_idiv (pc' := 26) (by omega) (by omega) dX4_percentile_1.1.1.1.1 rfl ?_
          refine zW_istore (ls' := [_, _, _, _, _, _]) (pc' := 28) dX4_percentile_1.1.1.1.2 (by decide) rfl rfl rfl ?_
          refine zW_bipush (pc' := 30) dX4_percentile_1.1.1.2.1 rfl rfl ?_
          refine zW_aload_n (pc' := 31) dX4_percentile_1.1.1.2.2 rfl rfl ?_
          refine zW_iconst (pc' := 32) dX4_percentile_1.1.2.1.1 rfl ?_
          refine zW_iload (pc' := 34) dX4_percentile_1.1.2.1.2 rfl rfl ?_
          refine cvI2 (pc' := 37) kX4_between vX4_between lk_X4_76 ⟨Nat.le_of_ble_eq_true rfl, Nat.le_of_ble_eq_true rfl⟩ tb95 vq4 rfl rfl (s_X4_between hK hF _ _) dX4_percentile_1.1.2.2.1 (Nat.le_of_ble_eq_true rfl) rfl ?_
          rintro r34 z34 ⟨hz34, p34⟩; subst z34
          refine zW_imul (pc' := 38) dX4_percentile_1.1.2.2.2 rfl ?_
          refine zW_iload_n (pc' := 39) dX4_percentile_1.2.1.1.1 rfl rfl ?_
          refine zW_aload_n (pc' := 40) dX4_percentile_1.2.1.1.2 rfl rfl ?_
          refine zG_int (pc' := 43) fg_X4_27 tb95 rfl dX4_percentile_1.2.1.2.1 rfl ?_
          have e40 := hF.2.2.2.2.1
          refine zW_imul (pc' := 44) dX4_percentile_1.2.1.2.2 rfl ?_
          refine zV_cmQ_lt (tgt := 53) (pc' := 47) dX4_percentile_1.2.2.1.1 rfl rfl ?_ ?_
          · refine zW_iload (pc' := 55) dX4_percentile_2.1.1.1 rfl rfl ?_
            refine zW_iconst (pc' := 56) dX4_percentile_2.1.1.2 rfl ?_
            refine zW_iadd (pc' := 57) dX4_percentile_2.1.2.1 rfl ?_
            refine zW_istore_n (ls' := [_, _, _, _, _, _]) (pc' := 58) dX4_percentile_2.1.2.2 (by decide) rfl rfl rfl ?_
            refine zW_iinc (ls' := [_, _, _, _, _, _]) (pc' := 61) dX4_percentile_2.2.1.1 rfl (by decide) rfl rfl rfl ?_
            refine zV_goto 9 dX4_percentile_2.2.1.2 rfl ?_
            refine zV_clr 5 (ls' := [_, _, _, _, _, _]) rfl ?_
            exact k9 _ _ _ (by omega) (by omega) (by omega) (by omega)
          · refine zW_iload (pc' := 49) dX4_percentile_1.2.2.1.2 rfl rfl ?_
            refine zW_istore_n (ls' := [_, _, _, _, _, _]) (pc' := 50) dX4_percentile_1.2.2.2.1 (by decide) rfl rfl rfl ?_
            refine zV_goto 58 dX4_percentile_1.2.2.2.2 rfl ?_
            refine zW_iinc (ls' := [_, _, _, _, _, _]) (pc' := 61) dX4_percentile_2.2.1.1 rfl (by decide) rfl rfl rfl ?_
            refine zV_goto 9 dX4_percentile_2.2.1.2 rfl ?_
            refine zV_clr 5 (ls' := [_, _, _, _, _, _]) rfl ?_
            exact k9 _ _ _ (by omega) (by omega) (by omega) (by omega)
  refine zM_of [some (.inr (.inr 95)), some (.inl x1), none, none, none, none] 4 rfl rfl (Nat.le_of_ble_eq_true rfl) rfl ?_
  refine zW_iconst (pc' := 1) dX4_percentile_0.1.1.1.1 rfl ?_
  refine zW_istore_n (ls' := [_, _, _, _, _, _]) (pc' := 2) dX4_percentile_0.1.1.1.2 (by decide) rfl rfl rfl ?_
  refine zW_sipush (pc' := 5) dX4_percentile_0.1.1.2.1 rfl rfl ?_
  refine zW_istore_n (ls' := [_, _, _, _, _, _]) (pc' := 6) dX4_percentile_0.1.1.2.2 (by decide) rfl rfl rfl ?_
  refine zW_iconst (pc' := 7) dX4_percentile_0.1.2.1.1 rfl ?_
  refine zW_istore (ls' := [_, _, _, _, _, _]) (pc' := 9) dX4_percentile_0.1.2.1.2 (by decide) rfl rfl rfl ?_
  exact (main 10000000000000000000000000000000000000000) _ _ _ (by omega) (by omega) (by omega) (by omega)

abbrev q_X4_digitsOf (κ h : Hp) (x1 : Int) : Int → Hp → Prop := fun r h' => h' = h ∧ (True)
set_option maxHeartbeats 4000000 in
set_option maxRecDepth 20000 in
theorem s_X4_digitsOf {G : Ga} {b : Bd} {κ h : Hp} (hF : Fr b κ h) (x1 : Int) : zM G mX4_digitsOf yX4_digitsOf [.inr (.inr 95), .inl x1] h (q_X4_digitsOf κ h x1) := by
  have main : ∀ N : Nat, (∀ (v2 : Int) , (0 ≤ v2 ∧ v2 ≤ 31) → 5148 + 13 * (31 - v2) + 12 < (N : Int) → zV G mX4_digitsOf (q_X4_digitsOf κ h x1) 2 [some (.inr (.inr 95)), some (.inl x1), some (.inl v2)] [] h) := by
    intro N
    induction N with
    | zero =>
      intro v2 g0 hm
      exfalso; omega
    | succ N ih =>
      have k2 := ih
      intro v2 g0 hm
      refine zW_iload_n (pc' := 3) dX4_digitsOf_0.1.1.2.1 rfl rfl ?_
      refine zW_bipush (pc' := 5) dX4_digitsOf_0.1.1.2.2 rfl rfl ?_
      refine zV_cm_ge (tgt := 20) (pc' := 8) dX4_digitsOf_0.1.2.1.1 rfl rfl ⟨by omega, by omega⟩ ⟨by omega, by omega⟩ (fun c5 => ?_) (fun c5 => ?_)
      · refine zW_iload_n (pc' := 21) dX4_digitsOf_0.2.2.1.2 rfl rfl ?_
        exact zV_iret rfl dX4_digitsOf_0.2.2.2 ⟨rfl, trivial⟩
      · refine zW_iload_n (pc' := 9) dX4_digitsOf_0.1.2.1.2 rfl rfl ?_
        refine zW_iload_n (pc' := 10) dX4_digitsOf_0.1.2.2 rfl rfl ?_
        refine zW_ishrQ (pc' := 11) dX4_digitsOf_0.2.1.1.1 rfl (fun v10 e10 => ?_)
        unfold rng at e10
        refine zV_if_le (tgt := 20) (pc' := 14) dX4_digitsOf_0.2.1.1.2 rfl rfl ⟨by omega, by omega⟩ (fun c11 => ?_) (fun c11 => ?_)
        · refine zW_iload_n (pc' := 21) dX4_digitsOf_0.2.2.1.2 rfl rfl ?_
          exact zV_iret rfl dX4_digitsOf_0.2.2.2 ⟨rfl, trivial⟩
        · refine zW_iinc (ls' := [_, _, _]) (pc' := 17) dX4_digitsOf_0.2.1.2 rfl (by decide) rfl rfl rfl ?_
          refine zV_goto 2 dX4_digitsOf_0.2.2.1.1 rfl ?_
          exact k2 _ (by omega) (by omega)
  refine zM_of [some (.inr (.inr 95)), some (.inl x1), none] 1 rfl rfl (Nat.le_of_ble_eq_true rfl) rfl ?_
  refine zW_iconst (pc' := 1) dX4_digitsOf_0.1.1.1.1 rfl ?_
  refine zW_istore_n (ls' := [_, _, _]) (pc' := 2) dX4_digitsOf_0.1.1.1.2 (by decide) rfl rfl rfl ?_
  exact (main 10000000000000000000000000000000000000000) _ (by omega) (by omega)

abbrev q_X4_bitsOfAll (κ h : Hp)  : Int → Hp → Prop := fun r h' => h' = h ∧ (True)
set_option maxHeartbeats 4000000 in
set_option maxRecDepth 20000 in
theorem s_X4_bitsOfAll {G : Ga} {b : Bd} {κ h : Hp} (hK : KC κ) (hF : Fr b κ h)  : zM G mX4_bitsOfAll yX4_bitsOfAll [.inr (.inr 95)] h (q_X4_bitsOfAll κ h) := by
  have main : ∀ N : Nat, (∀ (v1 v2 v3 : Int) , (rng v2) → (0 ≤ v3 ∧ v3 ≤ 256) → 255936 + 32 * (256 - v3) + 31 < (N : Int) → zV G mX4_bitsOfAll (q_X4_bitsOfAll κ h) 6 [some (.inr (.inr 95)), some (.inl v1), some (.inl v2), some (.inl v3), none] [] h) := by
    intro N
    induction N with
    | zero =>
      intro v1 v2 v3 g0 g1 hm
      unfold rng at g0
      exfalso; omega
    | succ N ih =>
      have k6 := ih
      intro v1 v2 v3 g0 g1 hm
      unfold rng at g0
      refine zW_iload_n (pc' := 7) dX4_bitsOfAll_0.1.2.2.1 rfl rfl ?_
      refine zW_aload_n (pc' := 8) dX4_bitsOfAll_0.1.2.2.2 rfl rfl ?_
      refine zG_int (pc' := 11) fg_X4_27 tb95 rfl dX4_bitsOfAll_0.2.1.1.1 rfl ?_
      have e8 := hF.2.2.2.2.1
      refine zV_cm_ge (tgt := 52) (pc' := 14) dX4_bitsOfAll_0.2.1.1.2 rfl rfl ⟨by omega, by omega⟩ ⟨by omega, by omega⟩ (fun c11 => ?_) (fun c11 => ?_)
      · refine zW_iload_n (pc' := 53) dX4_bitsOfAll_2.2.1 rfl rfl ?_
        exact zV_iret rfl dX4_bitsOfAll_2.2.2 ⟨rfl, trivial⟩
      · refine zW_aload_n (pc' := 15) dX4_bitsOfAll_0.2.1.2.1 rfl rfl ?_
        refine zG_ref (pc' := 18) 96 fg_X4_9 tb95 rfl dX4_bitsOfAll_0.2.1.2.2 rfl ?_
        refine zW_iload_n (pc' := 19) dX4_bitsOfAll_0.2.2.1.1 rfl rfl ?_
        refine zV_iald (pc' := 20) tb96 (by omega) dX4_bitsOfAll_0.2.2.1.2 (by decide) rfl ?_
        refine zW_bipush (pc' := 22) dX4_bitsOfAll_0.2.2.2.1 rfl rfl ?_
        refine zW_idivQ (pc' := 23) ⟨by omega, by omega⟩ (by omega) dX4_bitsOfAll_0.2.2.2.2 rfl (fun v22 e22 => ?_)
        unfold rng at e22
        refine zW_istore (ls' := [_, _, _, _, _]) (pc' := 25) dX4_bitsOfAll_1.1.1.1.1 (by decide) rfl rfl rfl ?_
        refine zW_iload_n (pc' := 26) dX4_bitsOfAll_1.1.1.1.2 rfl rfl ?_
        refine zW_iconst (pc' := 27) dX4_bitsOfAll_1.1.1.2.1 rfl ?_
        refine zW_iconst (pc' := 28) dX4_bitsOfAll_1.1.1.2.2 rfl ?_
        refine zW_aload_n (pc' := 29) dX4_bitsOfAll_1.1.2.1.1 rfl rfl ?_
        refine zW_iload (pc' := 31) dX4_bitsOfAll_1.1.2.1.2 rfl rfl ?_
        refine zW_iload_n (pc' := 32) dX4_bitsOfAll_1.1.2.2.1 rfl rfl ?_
        refine zW_isub (pc' := 33) dX4_bitsOfAll_1.1.2.2.2 rfl ?_
        refine zV_mabs (pc' := 36) km_X4_79 (Nat.le_of_ble_eq_true rfl) (Nat.le_of_ble_eq_true rfl) dX4_bitsOfAll_1.2.1.1.1 rfl (fun v33 e33 => ?_)
        replace e33 := e33.1
        unfold rng at e33
        refine cvI1 (pc' := 39) kX4_digitsOf vX4_digitsOf lk_X4_82 ⟨Nat.le_of_ble_eq_true rfl, Nat.le_of_ble_eq_true rfl⟩ tb95 vq4 rfl rfl (s_X4_digitsOf hF _) dX4_bitsOfAll_1.2.1.1.2 (Nat.le_of_ble_eq_true rfl) rfl ?_
        rintro r36 z36 ⟨hz36, p36⟩; subst z36
        refine zW_imul (pc' := 40) dX4_bitsOfAll_1.2.1.2.1 rfl ?_
        refine zW_iadd (pc' := 41) dX4_bitsOfAll_1.2.1.2.2 rfl ?_
        refine zW_iadd (pc' := 42) dX4_bitsOfAll_1.2.2.1.1 rfl ?_
        refine zW_istore_n (ls' := [_, _, _, _, _]) (pc' := 43) dX4_bitsOfAll_1.2.2.1.2 (by decide) rfl rfl rfl ?_
        refine zW_iload (pc' := 45) dX4_bitsOfAll_1.2.2.2.1 rfl rfl ?_
        refine zW_istore_n (ls' := [_, _, _, _, _]) (pc' := 46) dX4_bitsOfAll_1.2.2.2.2 (by decide) rfl rfl rfl ?_
        refine zW_iinc (ls' := [_, _, _, _, _]) (pc' := 49) dX4_bitsOfAll_2.1.1 rfl (by decide) rfl rfl rfl ?_
        refine zV_goto 6 dX4_bitsOfAll_2.1.2 rfl ?_
        refine zV_clr 4 (ls' := [_, _, _, _, _]) rfl ?_
        exact k6 _ _ _ ⟨by omega, by omega⟩ (by omega) (by omega)
  refine zM_of [some (.inr (.inr 95)), none, none, none, none] 4 rfl rfl (Nat.le_of_ble_eq_true rfl) rfl ?_
  refine zW_iconst (pc' := 1) dX4_bitsOfAll_0.1.1.1.1 rfl ?_
  refine zW_istore_n (ls' := [_, _, _, _, _]) (pc' := 2) dX4_bitsOfAll_0.1.1.1.2 (by decide) rfl rfl rfl ?_
  refine zW_iconst (pc' := 3) dX4_bitsOfAll_0.1.1.2.1 rfl ?_
  refine zW_istore_n (ls' := [_, _, _, _, _]) (pc' := 4) dX4_bitsOfAll_0.1.1.2.2 (by decide) rfl rfl rfl ?_
  refine zW_iconst (pc' := 5) dX4_bitsOfAll_0.1.2.1.1 rfl ?_
  refine zW_istore_n (ls' := [_, _, _, _, _]) (pc' := 6) dX4_bitsOfAll_0.1.2.1.2 (by decide) rfl rfl rfl ?_
  exact (main 10000000000000000000000000000000000000000) _ _ _ ⟨by omega, by omega⟩ (by omega) (by omega)

abbrev q_X4_findNoise (b : Bd) (κ : Hp) (s1 : Nat) (x2 : Int) (x3 : Int) : Int → Hp → Prop := fun r h' => Fr b κ h' ∧ (True)
set_option maxHeartbeats 4000000 in
set_option maxRecDepth 20000 in
theorem s_X4_findNoise {G : Ga} {b : Bd} {κ h : Hp} (hK : KC κ) (hF : Fr b κ h) (s1 : Nat) (hs1 : 56 ≤ s1 ∧ s1 ≤ 70) (x2 : Int) (hx2 : 0 ≤ x2 ∧ x2 ≤ 2) (x3 : Int) : zM G mX4_findNoise yX4_findNoise [.inr (.inr 95), .inr (.inr s1), .inl x2, .inl x3] h (q_X4_findNoise b κ s1 x2 x3) := by
  have f_33_0 := KCw hK
  have f_33_1 := KCh hK
  have main : ∀ N : Nat, (∀ (v4 : Int) (h : Hp), Fr b κ h → (0 ≤ v4 ∧ v4 ≤ 16) → (v4 - κ 33 1 ≤ 0) → 97025040 + 78120 * (16 - v4) + 77004 < (N : Int) → zV G mX4_findNoise (q_X4_findNoise b κ s1 x2 x3) 18 [some (.inr (.inr 95)), some (.inr (.inr s1)), some (.inl x2), some (.inl x3), some (.inl v4), none, none, none] [] h) ∧ (∀ (v4 v5 : Int) (h : Hp), Fr b κ h → (0 ≤ v4 ∧ v4 ≤ 15) → (v4 - κ 33 1 ≤ -1) → (0 ≤ v5 ∧ v5 ≤ 16) → (v5 - κ 33 0 ≤ 0) → 97025040 + 78120 * (16 - v4) + 68076 + 62 * (16 - v5) + 61 < (N : Int) → zV G mX4_findNoise (q_X4_findNoise b κ s1 x2 x3) 33 [some (.inr (.inr 95)), some (.inr (.inr s1)), some (.inl x2), some (.inl x3), some (.inl v4), some (.inl v5), none, none] [] h) ∧ (∀ (v4 v5 v6 : Int) (h : Hp), Fr b κ h → (0 ≤ v4 ∧ v4 ≤ 15) → (v4 - κ 33 1 ≤ -1) → (0 ≤ v5 ∧ v5 ≤ 15) → (v5 - κ 33 0 ≤ -1) → 97025040 + 78120 * (16 - v4) + 68076 + 62 * (16 - v5) + 37 < (N : Int) → zV G mX4_findNoise (q_X4_findNoise b κ s1 x2 x3) 78 [some (.inr (.inr 95)), some (.inr (.inr s1)), some (.inl x2), some (.inl x3), some (.inl v4), some (.inl v5), some (.inl v6), none] [] h) := by
    intro N
    induction N with
    | zero =>
      refine ⟨?_, ?_, ?_⟩
      · intro v4 h hF g0 g1 hm
        exfalso; omega
      · intro v4 v5 h hF g0 g1 g2 g3 hm
        exfalso; omega
      · intro v4 v5 v6 h hF g0 g1 g2 g3 hm
        exfalso; omega
    | succ N ih =>
      obtain ⟨k18, k33, k78⟩ := ih
      refine ⟨?_, ?_, ?_⟩
      · intro v4 h hF g0 g1 hm
        refine zW_iload (pc' := 20) dX4_findNoise_0.2.1.2.2 rfl rfl ?_
        refine zW_aload_n (pc' := 21) dX4_findNoise_0.2.2.1.1 rfl rfl ?_
        refine zG_ref (pc' := 24) 33 fg_X4_19 tb95 rfl dX4_findNoise_0.2.2.1.2 rfl ?_
        refine zG_key (pc' := 27) hF rfl fg_X4_31 tb33 rfl dX4_findNoise_0.2.2.2.1 rfl ?_
        refine zV_cm_ge (tgt := 151) (pc' := 30) dX4_findNoise_0.2.2.2.2 rfl rfl ⟨by omega, by omega⟩ ⟨by omega, by omega⟩ (fun c27 => ?_) (fun c27 => ?_)
        · exact zV_vret rfl dX4_findNoise_4.2.2.2 ⟨hF, trivial⟩
        · refine zW_iconst (pc' := 31) dX4_findNoise_1.1.1.1.1 rfl ?_
          refine zW_istore (ls' := [_, _, _, _, _, _, _, _]) (pc' := 33) dX4_findNoise_1.1.1.1.2 (by decide) rfl rfl rfl ?_
          exact k33 _ _ _ hF (by omega) (by omega) (by omega) (by omega) (by omega)
      · intro v4 v5 h hF g0 g1 g2 g3 hm
        refine zW_iload (pc' := 35) dX4_findNoise_1.1.1.2.1 rfl rfl ?_
        refine zW_aload_n (pc' := 36) dX4_findNoise_1.1.1.2.2 rfl rfl ?_
        refine zG_ref (pc' := 39) 33 fg_X4_19 tb95 rfl dX4_findNoise_1.1.2.1.1 rfl ?_
        refine zG_key (pc' := 42) hF rfl fg_X4_36 tb33 rfl dX4_findNoise_1.1.2.1.2 rfl ?_
        refine zV_cm_ge (tgt := 145) (pc' := 45) dX4_findNoise_1.1.2.2.1 rfl rfl ⟨by omega, by omega⟩ ⟨by omega, by omega⟩ (fun c42 => ?_) (fun c42 => ?_)
        · refine zW_iinc (ls' := [_, _, _, _, _, _, _, _]) (pc' := 148) dX4_findNoise_4.2.2.1.1 rfl (by decide) rfl rfl rfl ?_
          refine zV_goto 18 dX4_findNoise_4.2.2.1.2 rfl ?_
          refine zV_clr 5 (ls' := [_, _, _, _, _, _, _, _]) rfl ?_
          exact k18 _ _ hF (by omega) (by omega) (by omega)
        · refine zW_aload_n (pc' := 46) dX4_findNoise_1.1.2.2.2 rfl rfl ?_
          refine zG_ref (pc' := 49) 33 fg_X4_19 tb95 rfl dX4_findNoise_1.2.1.1.1 rfl ?_
          refine zW_aload_n (pc' := 50) dX4_findNoise_1.2.1.1.2 rfl rfl ?_
          refine zG_lev (pc' := 53) (by omega) (by omega) fg_X4_94 dX4_findNoise_1.2.1.2.1 rfl ?_
          refine zW_iload_n (pc' := 54) dX4_findNoise_1.2.1.2.2 rfl rfl ?_
          refine zW_iload (pc' := 56) dX4_findNoise_1.2.2.1.1 rfl rfl ?_
          refine zW_iload (pc' := 58) dX4_findNoise_1.2.2.1.2 rfl rfl ?_
          refine csI5 (pc' := 61) kX11_blurOf vX11_blurOf lk_X4_97 ⟨Nat.le_of_ble_eq_true rfl, Nat.le_of_ble_eq_true rfl⟩ rfl (s_X11_blurOf hK hF _ ⟨by omega, by omega⟩ _ ⟨by omega, by omega⟩ _ ⟨by omega, by omega, by omega⟩ _ ⟨by omega, by omega, by omega⟩) dX4_findNoise_1.2.2.2.1 (Nat.le_of_ble_eq_true rfl) rfl ?_
          rintro r58 z58 ⟨hz58, p58⟩; subst z58
          refine zW_istore (ls' := [_, _, _, _, _, _, _, _]) (pc' := 63) dX4_findNoise_1.2.2.2.2 (by decide) rfl rfl rfl ?_
          refine zW_iload_n (pc' := 64) dX4_findNoise_2.1.1.1.1 rfl rfl ?_
          refine zW_iconst (pc' := 65) dX4_findNoise_2.1.1.1.2 rfl ?_
          refine zV_cmQ_eq (tgt := 78) (pc' := 68) dX4_findNoise_2.1.1.2.1 rfl rfl ?_ ?_
          · exact k78 _ _ _ _ hF (by omega) (by omega) (by omega) (by omega) (by omega)
          · refine zW_iload (pc' := 70) dX4_findNoise_2.1.1.2.2 rfl rfl ?_
            refine zW_sipush (pc' := 73) dX4_findNoise_2.1.2.1.1 rfl rfl ?_
            refine zW_idivQ (pc' := 74) ⟨by omega, by omega⟩ (by omega) dX4_findNoise_2.1.2.1.2 rfl (fun v73 e73 => ?_)
            unfold rng at e73
            refine zW_iload_n (pc' := 75) dX4_findNoise_2.1.2.2.1 rfl rfl ?_
            refine zV_cmQ_ne (tgt := 139) (pc' := 78) dX4_findNoise_2.1.2.2.2 rfl rfl ?_ ?_
            · refine zW_iinc (ls' := [_, _, _, _, _, _, _, _]) (pc' := 142) dX4_findNoise_4.2.1.2.1 rfl (by decide) rfl rfl rfl ?_
              refine zV_goto 33 dX4_findNoise_4.2.1.2.2 rfl ?_
              refine zV_clr 6 (ls' := [_, _, _, _, _, _, _, _]) rfl ?_
              exact k33 _ _ _ hF (by omega) (by omega) (by omega) (by omega) (by omega)
            · exact k78 _ _ _ _ hF (by omega) (by omega) (by omega) (by omega) (by omega)
      · intro v4 v5 v6 h hF g0 g1 g2 g3 hm
        refine zW_aload_n (pc' := 79) dX4_findNoise_2.2.1.1.1 rfl rfl ?_
        refine zG_lev (pc' := 82) (by omega) (by omega) fg_X4_94 dX4_findNoise_2.2.1.1.2 rfl ?_
        refine zW_iload_n (pc' := 83) dX4_findNoise_2.2.1.2.1 rfl rfl ?_
        refine zW_sipush (pc' := 86) dX4_findNoise_2.2.1.2.2 rfl rfl ?_
        refine zW_imul (pc' := 87) dX4_findNoise_2.2.2.1.1 rfl ?_
        refine zW_iload (pc' := 89) dX4_findNoise_2.2.2.1.2 rfl rfl ?_
        refine zW_bipush (pc' := 91) dX4_findNoise_2.2.2.2.1 rfl rfl ?_
        refine zW_imul (pc' := 92) dX4_findNoise_2.2.2.2.2 rfl ?_
        refine zW_iadd (pc' := 93) dX4_findNoise_3.1.1.1.1 rfl ?_
        refine zW_iload (pc' := 95) dX4_findNoise_3.1.1.1.2 rfl rfl ?_
        refine zW_iadd (pc' := 96) dX4_findNoise_3.1.1.2.1 rfl ?_
        refine zV_iald (pc' := 97) (tabL (by omega) (by omega)) (by omega) dX4_findNoise_3.1.1.2.2 (by decide) rfl ?_
        refine zW_iload (pc' := 99) dX4_findNoise_3.1.2.1.1 rfl rfl ?_
        refine zW_isub (pc' := 100) dX4_findNoise_3.1.2.1.2 rfl ?_
        refine zV_mabs (pc' := 103) km_X4_79 (Nat.le_of_ble_eq_true rfl) (Nat.le_of_ble_eq_true rfl) dX4_findNoise_3.1.2.2.1 rfl (fun v100 e100 => ?_)
        replace e100 := e100.1
        unfold rng at e100
        refine zW_istore (ls' := [_, _, _, _, _, _, _, _]) (pc' := 105) dX4_findNoise_3.1.2.2.2 (by decide) rfl rfl rfl ?_
        refine zW_aload_n (pc' := 106) dX4_findNoise_3.2.1.1.1 rfl rfl ?_
        refine zW_dup (pc' := 107) dX4_findNoise_3.2.1.1.2 rfl rfl ?_
        refine zG_int (pc' := 110) fg_X4_85 tb95 rfl dX4_findNoise_3.2.1.2.1 rfl ?_
        refine zW_iconst (pc' := 111) dX4_findNoise_3.2.1.2.2 rfl ?_
        refine zW_iadd (pc' := 112) dX4_findNoise_3.2.2.1.1 rfl ?_
        refine zP_scf (pc' := 115) hF rfl fp_X4_85 tb95 rfl dX4_findNoise_3.2.2.1.2 rfl (fun h i112 hF a112 b112 w112 => ?_)
        refine zW_aload_n (pc' := 116) dX4_findNoise_3.2.2.2.1 rfl rfl ?_
        refine zW_dup (pc' := 117) dX4_findNoise_3.2.2.2.2 rfl rfl ?_
        refine zG_int (pc' := 120) fg_X4_88 tb95 rfl dX4_findNoise_4.1.1.1.1 rfl ?_
        refine zW_iload (pc' := 122) dX4_findNoise_4.1.1.1.2 rfl rfl ?_
        refine zW_iadd (pc' := 123) dX4_findNoise_4.1.1.2.1 rfl ?_
        refine zP_scf (pc' := 126) hF rfl fp_X4_88 tb95 rfl dX4_findNoise_4.1.1.2.2 rfl (fun h i123 hF a123 b123 w123 => ?_)
        refine zW_aload_n (pc' := 127) dX4_findNoise_4.1.2.1.1 rfl rfl ?_
        refine zW_aload_n (pc' := 128) dX4_findNoise_4.1.2.1.2 rfl rfl ?_
        refine zG_int (pc' := 131) fg_X4_91 tb95 rfl dX4_findNoise_4.1.2.2.1 rfl ?_
        refine zW_iload (pc' := 133) dX4_findNoise_4.1.2.2.2 rfl rfl ?_
        refine zV_mmax (pc' := 136) km_X4_57 (Nat.le_of_ble_eq_true rfl) (Nat.le_of_ble_eq_true rfl) dX4_findNoise_4.2.1.1.1 rfl (fun v133 e133 => ?_)
        replace e133 := e133.1
        unfold rng at e133
        refine zP_scf (pc' := 139) hF rfl fp_X4_91 tb95 rfl dX4_findNoise_4.2.1.1.2 rfl (fun h i136 hF a136 b136 w136 => ?_)
        refine zW_iinc (ls' := [_, _, _, _, _, _, _, _]) (pc' := 142) dX4_findNoise_4.2.1.2.1 rfl (by decide) rfl rfl rfl ?_
        refine zV_goto 33 dX4_findNoise_4.2.1.2.2 rfl ?_
        refine zV_clr 6 (ls' := [_, _, _, _, _, _, _, _]) rfl ?_
        refine zV_clr 7 (ls' := [_, _, _, _, _, _, _, _]) rfl ?_
        exact k33 _ _ _ hF (by omega) (by omega) (by omega) (by omega) (by omega)
  refine zM_of [some (.inr (.inr 95)), some (.inr (.inr s1)), some (.inl x2), some (.inl x3), none, none, none, none] 4 rfl rfl (Nat.le_of_ble_eq_true rfl) rfl ?_
  refine zW_aload_n (pc' := 1) dX4_findNoise_0.1.1.1.1 rfl rfl ?_
  refine zW_iconst (pc' := 2) dX4_findNoise_0.1.1.1.2 rfl ?_
  refine zP_scf (pc' := 5) hF rfl fp_X4_85 tb95 rfl dX4_findNoise_0.1.1.2.1 rfl (fun h i2 hF a2 b2 w2 => ?_)
  refine zW_aload_n (pc' := 6) dX4_findNoise_0.1.1.2.2 rfl rfl ?_
  refine zW_iconst (pc' := 7) dX4_findNoise_0.1.2.1.1 rfl ?_
  refine zP_scf (pc' := 10) hF rfl fp_X4_88 tb95 rfl dX4_findNoise_0.1.2.1.2 rfl (fun h i7 hF a7 b7 w7 => ?_)
  refine zW_aload_n (pc' := 11) dX4_findNoise_0.1.2.2.1 rfl rfl ?_
  refine zW_iconst (pc' := 12) dX4_findNoise_0.1.2.2.2 rfl ?_
  refine zP_scf (pc' := 15) hF rfl fp_X4_91 tb95 rfl dX4_findNoise_0.2.1.1.1 rfl (fun h i12 hF a12 b12 w12 => ?_)
  refine zW_iconst (pc' := 16) dX4_findNoise_0.2.1.1.2 rfl ?_
  refine zW_istore (ls' := [_, _, _, _, _, _, _, _]) (pc' := 18) dX4_findNoise_0.2.1.2.1 (by decide) rfl rfl rfl ?_
  exact (main 10000000000000000000000000000000000000000).1 _ _ hF (by omega) (by omega) (by omega)

abbrev q_X4_lightAt (κ h : Hp) (s1 : Nat) (x2 : Int) (x3 : Int) : Int → Hp → Prop := fun r h' => h' = h ∧ (True)
set_option maxHeartbeats 4000000 in
set_option maxRecDepth 20000 in
theorem s_X4_lightAt {G : Ga} {b : Bd} {κ h : Hp} (hK : KC κ) (hF : Fr b κ h) (s1 : Nat) (hs1 : 56 ≤ s1 ∧ s1 ≤ 70) (x2 : Int) (hx2 : -2 ≤ x2 ∧ x2 ≤ 17 ∧ x2 - κ 33 0 ≤ 1) (x3 : Int) (hx3 : -2 ≤ x3 ∧ x3 ≤ 17 ∧ x3 - κ 33 1 ≤ 1) : zM G mX4_lightAt yX4_lightAt [.inr (.inr 95), .inr (.inr s1), .inl x2, .inl x3] h (q_X4_lightAt κ h s1 x2 x3) := by
  have f_33_0 := KCw hK
  have f_33_1 := KCh hK
  refine zM_of [some (.inr (.inr 95)), some (.inr (.inr s1)), some (.inl x2), some (.inl x3)] 0 rfl rfl (Nat.le_of_ble_eq_true rfl) rfl ?_
  refine zW_aload_n (pc' := 1) dX4_lightAt_0.1.1.1.1 rfl rfl ?_
  refine zG_lev (pc' := 4) (by omega) (by omega) fg_X4_94 dX4_lightAt_0.1.1.1.2 rfl ?_
  refine zW_iload_n (pc' := 5) dX4_lightAt_0.1.1.2.1 rfl rfl ?_
  refine zW_aload_n (pc' := 6) dX4_lightAt_0.1.1.2.2 rfl rfl ?_
  refine zG_ref (pc' := 9) 33 fg_X4_19 tb95 rfl dX4_lightAt_0.1.2.1.1 rfl ?_
  refine zG_key (pc' := 12) hF rfl fg_X4_31 tb33 rfl dX4_lightAt_0.1.2.1.2 rfl ?_
  refine csI2 (pc' := 15) kX11_mirrored vX11_mirrored lk_X4_105 ⟨Nat.le_of_ble_eq_true rfl, Nat.le_of_ble_eq_true rfl⟩ rfl (s_X11_mirrored hF _ ⟨by omega, by omega⟩ _ ⟨by omega, by omega⟩ (by omega)) dX4_lightAt_0.1.2.2.1 (Nat.le_of_ble_eq_true rfl) rfl ?_
  rintro r12 z12 ⟨hz12, p12⟩; subst z12
  refine zW_bipush (pc' := 17) dX4_lightAt_0.1.2.2.2 rfl rfl ?_
  refine zW_imul (pc' := 18) dX4_lightAt_0.2.1.1.1 rfl ?_
  refine zW_iload_n (pc' := 19) dX4_lightAt_0.2.1.1.2 rfl rfl ?_
  refine zW_aload_n (pc' := 20) dX4_lightAt_0.2.1.2.1 rfl rfl ?_
  refine zG_ref (pc' := 23) 33 fg_X4_19 tb95 rfl dX4_lightAt_0.2.1.2.2 rfl ?_
  refine zG_key (pc' := 26) hF rfl fg_X4_36 tb33 rfl dX4_lightAt_0.2.2.1.1 rfl ?_
  refine csI2 (pc' := 29) kX11_mirrored vX11_mirrored lk_X4_105 ⟨Nat.le_of_ble_eq_true rfl, Nat.le_of_ble_eq_true rfl⟩ rfl (s_X11_mirrored hF _ ⟨by omega, by omega⟩ _ ⟨by omega, by omega⟩ (by omega)) dX4_lightAt_0.2.2.1.2 (Nat.le_of_ble_eq_true rfl) rfl ?_
  rintro r26 z26 ⟨hz26, p26⟩; subst z26
  refine zW_iadd (pc' := 30) dX4_lightAt_0.2.2.2.1 rfl ?_
  refine csI2 (pc' := 33) kX11_lightOf vX11_lightOf lk_X4_108 ⟨Nat.le_of_ble_eq_true rfl, Nat.le_of_ble_eq_true rfl⟩ rfl (s_X11_lightOf hF _ ⟨by omega, by omega⟩ _ ⟨by omega, by omega⟩) dX4_lightAt_0.2.2.2.2 (Nat.le_of_ble_eq_true rfl) rfl ?_
  rintro r30 z30 ⟨hz30, p30⟩; subst z30
  exact zV_iret rfl dX4_lightAt_1 ⟨rfl, trivial⟩

abbrev q_X4_edgesOf (κ h : Hp) (s1 : Nat) (x2 : Int) : Int → Hp → Prop := fun r h' => h' = h ∧ (True)
set_option maxHeartbeats 4000000 in
set_option maxRecDepth 20000 in
theorem s_X4_edgesOf {G : Ga} {b : Bd} {κ h : Hp} (hK : KC κ) (hF : Fr b κ h) (s1 : Nat) (hs1 : 56 ≤ s1 ∧ s1 ≤ 70) (x2 : Int) : zM G mX4_edgesOf yX4_edgesOf [.inr (.inr 95), .inr (.inr s1), .inl x2] h (q_X4_edgesOf κ h s1 x2) := by
  have f_33_0 := KCw hK
  have f_33_1 := KCh hK
  have main : ∀ N : Nat, (∀ (v3 v4 : Int) , (0 ≤ v4 ∧ v4 ≤ 16) → (v4 - κ 33 1 ≤ 0) → 58494960 + 55080 * (16 - v4) + 54162 < (N : Int) → zV G mX4_edgesOf (q_X4_edgesOf κ h s1 x2) 5 [some (.inr (.inr 95)), some (.inr (.inr s1)), some (.inl x2), some (.inl v3), some (.inl v4), none, none, none] [] h) ∧ (∀ (v3 v4 v5 : Int) , (0 ≤ v4 ∧ v4 ≤ 15) → (v4 - κ 33 1 ≤ -1) → (0 ≤ v5 ∧ v5 ≤ 16) → (v5 - κ 33 0 ≤ 0) → 58494960 + 55080 * (16 - v4) + 45900 + 51 * (16 - v5) + 50 < (N : Int) → zV G mX4_edgesOf (q_X4_edgesOf κ h s1 x2) 20 [some (.inr (.inr 95)), some (.inr (.inr s1)), some (.inl x2), some (.inl v3), some (.inl v4), some (.inl v5), none, none] [] h) := by
    intro N
    induction N with
    | zero =>
      refine ⟨?_, ?_⟩
      · intro v3 v4 g0 g1 hm
        exfalso; omega
      · intro v3 v4 v5 g0 g1 g2 g3 hm
        exfalso; omega
    | succ N ih =>
      obtain ⟨k5, k20⟩ := ih
      refine ⟨?_, ?_⟩
      · intro v3 v4 g0 g1 hm
        refine zW_iload (pc' := 7) dX4_edgesOf_0.1.2.1.1 rfl rfl ?_
        refine zW_aload_n (pc' := 8) dX4_edgesOf_0.1.2.1.2 rfl rfl ?_
        refine zG_ref (pc' := 11) 33 fg_X4_19 tb95 rfl dX4_edgesOf_0.1.2.2.1 rfl ?_
        refine zG_key (pc' := 14) hF rfl fg_X4_31 tb33 rfl dX4_edgesOf_0.1.2.2.2 rfl ?_
        refine zV_cm_ge (tgt := 112) (pc' := 17) dX4_edgesOf_0.2.1.1.1 rfl rfl ⟨by omega, by omega⟩ ⟨by omega, by omega⟩ (fun c14 => ?_) (fun c14 => ?_)
        · refine zW_iload_n (pc' := 113) dX4_edgesOf_3.2.2.1.2 rfl rfl ?_
          exact zV_iret rfl dX4_edgesOf_3.2.2.2 ⟨rfl, trivial⟩
        · refine zW_iconst (pc' := 18) dX4_edgesOf_0.2.1.1.2 rfl ?_
          refine zW_istore (ls' := [_, _, _, _, _, _, _, _]) (pc' := 20) dX4_edgesOf_0.2.1.2.1 (by decide) rfl rfl rfl ?_
          exact k20 _ _ _ (by omega) (by omega) (by omega) (by omega) (by omega)
      · intro v3 v4 v5 g0 g1 g2 g3 hm
        refine zW_iload (pc' := 22) dX4_edgesOf_0.2.1.2.2 rfl rfl ?_
        refine zW_aload_n (pc' := 23) dX4_edgesOf_0.2.2.1.1 rfl rfl ?_
        refine zG_ref (pc' := 26) 33 fg_X4_19 tb95 rfl dX4_edgesOf_0.2.2.1.2 rfl ?_
        refine zG_key (pc' := 29) hF rfl fg_X4_36 tb33 rfl dX4_edgesOf_0.2.2.2.1 rfl ?_
        refine zV_cm_ge (tgt := 106) (pc' := 32) dX4_edgesOf_0.2.2.2.2 rfl rfl ⟨by omega, by omega⟩ ⟨by omega, by omega⟩ (fun c29 => ?_) (fun c29 => ?_)
        · refine zW_iinc (ls' := [_, _, _, _, _, _, _, _]) (pc' := 109) dX4_edgesOf_3.2.1.2.2 rfl (by decide) rfl rfl rfl ?_
          refine zV_goto 5 dX4_edgesOf_3.2.2.1.1 rfl ?_
          refine zV_clr 5 (ls' := [_, _, _, _, _, _, _, _]) rfl ?_
          exact k5 _ _ (by omega) (by omega) (by omega)
        · refine zW_aload_n (pc' := 33) dX4_edgesOf_1.1.1.1.1 rfl rfl ?_
          refine zW_aload_n (pc' := 34) dX4_edgesOf_1.1.1.1.2 rfl rfl ?_
          refine zW_iload (pc' := 36) dX4_edgesOf_1.1.1.2.1 rfl rfl ?_
          refine zW_iconst (pc' := 37) dX4_edgesOf_1.1.1.2.2 rfl ?_
          refine zW_isub (pc' := 38) dX4_edgesOf_1.1.2.1.1 rfl ?_
          refine zW_iload (pc' := 40) dX4_edgesOf_1.1.2.1.2 rfl rfl ?_
          refine cvI3 (pc' := 43) kX4_lightAt vX4_lightAt lk_X4_101 ⟨Nat.le_of_ble_eq_true rfl, Nat.le_of_ble_eq_true rfl⟩ tb95 vq4 rfl rfl (s_X4_lightAt hK hF _ ⟨by omega, by omega⟩ _ ⟨by omega, by omega, by omega⟩ _ ⟨by omega, by omega, by omega⟩) dX4_edgesOf_1.1.2.2.1 (Nat.le_of_ble_eq_true rfl) rfl ?_
          rintro r40 z40 ⟨hz40, p40⟩; subst z40
          refine zW_aload_n (pc' := 44) dX4_edgesOf_1.1.2.2.2 rfl rfl ?_
          refine zW_aload_n (pc' := 45) dX4_edgesOf_1.2.1.1.1 rfl rfl ?_
          refine zW_iload (pc' := 47) dX4_edgesOf_1.2.1.1.2 rfl rfl ?_
          refine zW_iconst (pc' := 48) dX4_edgesOf_1.2.1.2.1 rfl ?_
          refine zW_iadd (pc' := 49) dX4_edgesOf_1.2.1.2.2 rfl ?_
          refine zW_iload (pc' := 51) dX4_edgesOf_1.2.2.1.1 rfl rfl ?_
          refine cvI3 (pc' := 54) kX4_lightAt vX4_lightAt lk_X4_101 ⟨Nat.le_of_ble_eq_true rfl, Nat.le_of_ble_eq_true rfl⟩ tb95 vq4 rfl rfl (s_X4_lightAt hK hF _ ⟨by omega, by omega⟩ _ ⟨by omega, by omega, by omega⟩ _ ⟨by omega, by omega, by omega⟩) dX4_edgesOf_1.2.2.1.2 (Nat.le_of_ble_eq_true rfl) rfl ?_
          rintro r51 z51 ⟨hz51, p51⟩; subst z51
          refine zW_isub (pc' := 55) dX4_edgesOf_1.2.2.2.1 rfl ?_
          refine zW_istore (ls' := [_, _, _, _, _, _, _, _]) (pc' := 57) dX4_edgesOf_1.2.2.2.2 (by decide) rfl rfl rfl ?_
          refine zW_aload_n (pc' := 58) dX4_edgesOf_2.1.1.1.1 rfl rfl ?_
          refine zW_aload_n (pc' := 59) dX4_edgesOf_2.1.1.1.2 rfl rfl ?_
          refine zW_iload (pc' := 61) dX4_edgesOf_2.1.1.2.1 rfl rfl ?_
          refine zW_iload (pc' := 63) dX4_edgesOf_2.1.1.2.2 rfl rfl ?_
          refine zW_iconst (pc' := 64) dX4_edgesOf_2.1.2.1.1 rfl ?_
          refine zW_isub (pc' := 65) dX4_edgesOf_2.1.2.1.2 rfl ?_
          refine cvI3 (pc' := 68) kX4_lightAt vX4_lightAt lk_X4_101 ⟨Nat.le_of_ble_eq_true rfl, Nat.le_of_ble_eq_true rfl⟩ tb95 vq4 rfl rfl (s_X4_lightAt hK hF _ ⟨by omega, by omega⟩ _ ⟨by omega, by omega, by omega⟩ _ ⟨by omega, by omega, by omega⟩) dX4_edgesOf_2.1.2.2.1 (Nat.le_of_ble_eq_true rfl) rfl ?_
          rintro r65 z65 ⟨hz65, p65⟩; subst z65
          refine zW_aload_n (pc' := 69) dX4_edgesOf_2.1.2.2.2 rfl rfl ?_
          refine zW_aload_n (pc' := 70) dX4_edgesOf_2.2.1.1.1 rfl rfl ?_
          refine zW_iload (pc' := 72) dX4_edgesOf_2.2.1.1.2 rfl rfl ?_
          refine zW_iload (pc' := 74) dX4_edgesOf_2.2.1.2.1 rfl rfl ?_
          refine zW_iconst (pc' := 75) dX4_edgesOf_2.2.1.2.2 rfl ?_
          refine zW_iadd (pc' := 76) dX4_edgesOf_2.2.2.1.1 rfl ?_
          refine cvI3 (pc' := 79) kX4_lightAt vX4_lightAt lk_X4_101 ⟨Nat.le_of_ble_eq_true rfl, Nat.le_of_ble_eq_true rfl⟩ tb95 vq4 rfl rfl (s_X4_lightAt hK hF _ ⟨by omega, by omega⟩ _ ⟨by omega, by omega, by omega⟩ _ ⟨by omega, by omega, by omega⟩) dX4_edgesOf_2.2.2.1.2 (Nat.le_of_ble_eq_true rfl) rfl ?_
          rintro r76 z76 ⟨hz76, p76⟩; subst z76
          refine zW_isub (pc' := 80) dX4_edgesOf_2.2.2.2.1 rfl ?_
          refine zW_istore (ls' := [_, _, _, _, _, _, _, _]) (pc' := 82) dX4_edgesOf_2.2.2.2.2 (by decide) rfl rfl rfl ?_
          refine zW_iload (pc' := 84) dX4_edgesOf_3.1.1.1.1 rfl rfl ?_
          refine zV_mabs (pc' := 87) km_X4_79 (Nat.le_of_ble_eq_true rfl) (Nat.le_of_ble_eq_true rfl) dX4_edgesOf_3.1.1.1.2 rfl (fun v84 e84 => ?_)
          replace e84 := e84.1
          unfold rng at e84
          refine zW_iload (pc' := 89) dX4_edgesOf_3.1.1.2.1 rfl rfl ?_
          refine zV_mabs (pc' := 92) km_X4_79 (Nat.le_of_ble_eq_true rfl) (Nat.le_of_ble_eq_true rfl) dX4_edgesOf_3.1.1.2.2 rfl (fun v89 e89 => ?_)
          replace e89 := e89.1
          unfold rng at e89
          refine zW_iadd (pc' := 93) dX4_edgesOf_3.1.2.1.1 rfl ?_
          refine zW_iload_n (pc' := 94) dX4_edgesOf_3.1.2.1.2 rfl rfl ?_
          refine zV_cmQ_lt (tgt := 100) (pc' := 97) dX4_edgesOf_3.1.2.2 rfl rfl ?_ ?_
          · refine zW_iinc (ls' := [_, _, _, _, _, _, _, _]) (pc' := 103) dX4_edgesOf_3.2.1.1.2 rfl (by decide) rfl rfl rfl ?_
            refine zV_goto 20 dX4_edgesOf_3.2.1.2.1 rfl ?_
            refine zV_clr 6 (ls' := [_, _, _, _, _, _, _, _]) rfl ?_
            refine zV_clr 7 (ls' := [_, _, _, _, _, _, _, _]) rfl ?_
            exact k20 _ _ _ (by omega) (by omega) (by omega) (by omega) (by omega)
          · refine zW_iinc (ls' := [_, _, _, _, _, _, _, _]) (pc' := 100) dX4_edgesOf_3.2.1.1.1 rfl (by decide) rfl rfl rfl ?_
            refine zW_iinc (ls' := [_, _, _, _, _, _, _, _]) (pc' := 103) dX4_edgesOf_3.2.1.1.2 rfl (by decide) rfl rfl rfl ?_
            refine zV_goto 20 dX4_edgesOf_3.2.1.2.1 rfl ?_
            refine zV_clr 6 (ls' := [_, _, _, _, _, _, _, _]) rfl ?_
            refine zV_clr 7 (ls' := [_, _, _, _, _, _, _, _]) rfl ?_
            exact k20 _ _ _ (by omega) (by omega) (by omega) (by omega) (by omega)
  refine zM_of [some (.inr (.inr 95)), some (.inr (.inr s1)), some (.inl x2), none, none, none, none, none] 5 rfl rfl (Nat.le_of_ble_eq_true rfl) rfl ?_
  refine zW_iconst (pc' := 1) dX4_edgesOf_0.1.1.1.1 rfl ?_
  refine zW_istore_n (ls' := [_, _, _, _, _, _, _, _]) (pc' := 2) dX4_edgesOf_0.1.1.1.2 (by decide) rfl rfl rfl ?_
  refine zW_iconst (pc' := 3) dX4_edgesOf_0.1.1.2.1 rfl ?_
  refine zW_istore (ls' := [_, _, _, _, _, _, _, _]) (pc' := 5) dX4_edgesOf_0.1.1.2.2 (by decide) rfl rfl rfl ?_
  exact (main 10000000000000000000000000000000000000000).1 _ _ (by omega) (by omega) (by omega)

abbrev q_X4_findErrors (b : Bd) (κ : Hp) (s1 : Nat) (x3 : Int) : Int → Hp → Prop := fun r h' => Fr b κ h' ∧ (True)
set_option maxHeartbeats 4000000 in
set_option maxRecDepth 20000 in
theorem s_X4_findErrors {G : Ga} {b : Bd} {κ h : Hp} (hK : KC κ) (hF : Fr b κ h) (s1 : Nat) (hs1 : 56 ≤ s1 ∧ s1 ≤ 70) (x3 : Int) (hx3 : 0 ≤ x3 ∧ x3 ≤ 2) : zM G mX4_findErrors yX4_findErrors [.inr (.inr 95), .inr (.inr s1), .inr (.inr 39), .inl x3] h (q_X4_findErrors b κ s1 x3) := by
  have f_33_0 := KCw hK
  have f_33_1 := KCh hK
  have main : ∀ N : Nat, (∀ (v4 : Int) (h : Hp), Fr b κ h → (0 ≤ v4 ∧ v4 ≤ 16) → (v4 - κ 33 1 ≤ 0) → 69604920 + 62370 * (16 - v4) + 61380 < (N : Int) → zV G mX4_findErrors (q_X4_findErrors b κ s1 x3) 18 [some (.inr (.inr 95)), some (.inr (.inr s1)), some (.inr (.inr 39)), some (.inl x3), some (.inl v4), none, none, none, none] [] h) ∧ (∀ (v4 v5 : Int) (h : Hp), Fr b κ h → (0 ≤ v4 ∧ v4 ≤ 15) → (v4 - κ 33 1 ≤ -1) → (0 ≤ v5 ∧ v5 ≤ 16) → (v5 - κ 33 0 ≤ 0) → 69604920 + 62370 * (16 - v4) + 53460 + 55 * (16 - v5) + 54 < (N : Int) → zV G mX4_findErrors (q_X4_findErrors b κ s1 x3) 33 [some (.inr (.inr 95)), some (.inr (.inr s1)), some (.inr (.inr 39)), some (.inl x3), some (.inl v4), some (.inl v5), none, none, none] [] h) := by
    intro N
    induction N with
    | zero =>
      refine ⟨?_, ?_⟩
      · intro v4 h hF g0 g1 hm
        exfalso; omega
      · intro v4 v5 h hF g0 g1 g2 g3 hm
        exfalso; omega
    | succ N ih =>
      obtain ⟨k18, k33⟩ := ih
      refine ⟨?_, ?_⟩
      · intro v4 h hF g0 g1 hm
        refine zW_iload (pc' := 20) dX4_findErrors_0.2.1.2.2 rfl rfl ?_
        refine zW_aload_n (pc' := 21) dX4_findErrors_0.2.2.1.1 rfl rfl ?_
        refine zG_ref (pc' := 24) 33 fg_X4_19 tb95 rfl dX4_findErrors_0.2.2.1.2 rfl ?_
        refine zG_key (pc' := 27) hF rfl fg_X4_31 tb33 rfl dX4_findErrors_0.2.2.2.1 rfl ?_
        refine zV_cm_ge (tgt := 135) (pc' := 30) dX4_findErrors_0.2.2.2.2 rfl rfl ⟨by omega, by omega⟩ ⟨by omega, by omega⟩ (fun c27 => ?_) (fun c27 => ?_)
        · exact zV_vret rfl dX4_findErrors_4.2.2.2 ⟨hF, trivial⟩
        · refine zW_iconst (pc' := 31) dX4_findErrors_1.1.1.1.1 rfl ?_
          refine zW_istore (ls' := [_, _, _, _, _, _, _, _, _]) (pc' := 33) dX4_findErrors_1.1.1.1.2 (by decide) rfl rfl rfl ?_
          exact k33 _ _ _ hF (by omega) (by omega) (by omega) (by omega) (by omega)
      · intro v4 v5 h hF g0 g1 g2 g3 hm
        refine zW_iload (pc' := 35) dX4_findErrors_1.1.1.2.1 rfl rfl ?_
        refine zW_aload_n (pc' := 36) dX4_findErrors_1.1.1.2.2 rfl rfl ?_
        refine zG_ref (pc' := 39) 33 fg_X4_19 tb95 rfl dX4_findErrors_1.1.2.1.1 rfl ?_
        refine zG_key (pc' := 42) hF rfl fg_X4_36 tb33 rfl dX4_findErrors_1.1.2.1.2 rfl ?_
        refine zV_cm_ge (tgt := 129) (pc' := 45) dX4_findErrors_1.1.2.2.1 rfl rfl ⟨by omega, by omega⟩ ⟨by omega, by omega⟩ (fun c42 => ?_) (fun c42 => ?_)
        · refine zW_iinc (ls' := [_, _, _, _, _, _, _, _, _]) (pc' := 132) dX4_findErrors_4.2.1.2 rfl (by decide) rfl rfl rfl ?_
          refine zV_goto 18 dX4_findErrors_4.2.2.1 rfl ?_
          refine zV_clr 5 (ls' := [_, _, _, _, _, _, _, _, _]) rfl ?_
          exact k18 _ _ hF (by omega) (by omega) (by omega)
        · refine zW_iload_n (pc' := 46) dX4_findErrors_1.1.2.2.2 rfl rfl ?_
          refine zW_sipush (pc' := 49) dX4_findErrors_1.2.1.1.1 rfl rfl ?_
          refine zW_imul (pc' := 50) dX4_findErrors_1.2.1.1.2 rfl ?_
          refine zW_iload (pc' := 52) dX4_findErrors_1.2.1.2.1 rfl rfl ?_
          refine zW_bipush (pc' := 54) dX4_findErrors_1.2.1.2.2 rfl rfl ?_
          refine zW_imul (pc' := 55) dX4_findErrors_1.2.2.1.1 rfl ?_
          refine zW_iadd (pc' := 56) dX4_findErrors_1.2.2.1.2 rfl ?_
          refine zW_iload (pc' := 58) dX4_findErrors_1.2.2.2.1 rfl rfl ?_
          refine zW_iadd (pc' := 59) dX4_findErrors_1.2.2.2.2 rfl ?_
          refine zW_istore (ls' := [_, _, _, _, _, _, _, _, _]) (pc' := 61) dX4_findErrors_2.1.1.1.1 (by decide) rfl rfl rfl ?_
          refine zW_aload_n (pc' := 62) dX4_findErrors_2.1.1.1.2 rfl rfl ?_
          refine zG_lev (pc' := 65) (by omega) (by omega) fg_X4_94 dX4_findErrors_2.1.1.2.1 rfl ?_
          refine zW_iload (pc' := 67) dX4_findErrors_2.1.1.2.2 rfl rfl ?_
          refine zV_iald (pc' := 68) (tabL (by omega) (by omega)) (by omega) dX4_findErrors_2.1.2.1.1 (by decide) rfl ?_
          refine zW_bipush (pc' := 70) dX4_findErrors_2.1.2.1.2 rfl rfl ?_
          refine zW_aload_n (pc' := 71) dX4_findErrors_2.1.2.2.1 rfl rfl ?_
          refine zG_ref (pc' := 74) 40 fg_X4_122 tb39 rfl dX4_findErrors_2.1.2.2.2 rfl ?_
          refine zW_iload (pc' := 76) dX4_findErrors_2.2.1.1.1 rfl rfl ?_
          refine zA_key (pc' := 77) hF rfl tb40 (by omega) dX4_findErrors_2.2.1.1.2 (by decide) rfl ?_
          refine zW_imul (pc' := 78) dX4_findErrors_2.2.1.2.1 rfl ?_
          refine zW_isub (pc' := 79) dX4_findErrors_2.2.1.2.2 rfl ?_
          refine zV_mabs (pc' := 82) km_X4_79 (Nat.le_of_ble_eq_true rfl) (Nat.le_of_ble_eq_true rfl) dX4_findErrors_2.2.2.1.1 rfl (fun v79 e79 => ?_)
          replace e79 := e79.1
          unfold rng at e79
          refine zW_i2l (pc' := 83) dX4_findErrors_2.2.2.1.2 rfl (fun v82 => ?_)
          refine zW_lstore (ls' := [_, _, _, _, _, _, _, _, _]) (pc' := 85) dX4_findErrors_2.2.2.2.1 (by decide) rfl rfl rfl ?_
          refine zW_aload_n (pc' := 86) dX4_findErrors_2.2.2.2.2 rfl rfl ?_
          refine zW_dup (pc' := 87) dX4_findErrors_3.1.1.1.1 rfl rfl ?_
          refine zG_lng (pc' := 90) fg_X4_112 tb95 rfl dX4_findErrors_3.1.1.1.2 rfl ?_
          refine zW_lload (pc' := 92) dX4_findErrors_3.1.1.2.1 rfl rfl ?_
          refine zW_ladd (pc' := 93) dX4_findErrors_3.1.1.2.2 rfl ?_
          refine zP_scl (pc' := 96) hF rfl rfl fp_X4_112 tb95 rfl dX4_findErrors_3.1.2.1.1 rfl (fun h hF w93 => ?_)
          refine zW_aload_n (pc' := 97) dX4_findErrors_3.1.2.1.2 rfl rfl ?_
          refine zW_aload_n (pc' := 98) dX4_findErrors_3.1.2.2.1 rfl rfl ?_
          refine zG_lng (pc' := 101) fg_X4_116 tb95 rfl dX4_findErrors_3.1.2.2.2 rfl ?_
          refine zW_lload (pc' := 103) dX4_findErrors_3.2.1.1.1 rfl rfl ?_
          refine zV_mmaxl (pc' := 106) km_X4_127 (Nat.le_of_ble_eq_true rfl) (Nat.le_of_ble_eq_true rfl) dX4_findErrors_3.2.1.1.2 rfl (fun v103 => ?_)
          refine zP_scl (pc' := 109) hF rfl rfl fp_X4_116 tb95 rfl dX4_findErrors_3.2.1.2.1 rfl (fun h hF w106 => ?_)
          refine zW_aload_n (pc' := 110) dX4_findErrors_3.2.1.2.2 rfl rfl ?_
          refine zW_dup (pc' := 111) dX4_findErrors_3.2.2.1.1 rfl rfl ?_
          refine zG_lng (pc' := 114) fg_X4_119 tb95 rfl dX4_findErrors_3.2.2.1.2 rfl ?_
          refine zW_lload (pc' := 116) dX4_findErrors_3.2.2.2.1 rfl rfl ?_
          refine zW_lload (pc' := 118) dX4_findErrors_3.2.2.2.2 rfl rfl ?_
          refine zW_lmul (pc' := 119) dX4_findErrors_4.1.1.1 rfl ?_
          refine zW_ladd (pc' := 120) dX4_findErrors_4.1.1.2 rfl ?_
          refine zP_scl (pc' := 123) hF rfl rfl fp_X4_119 tb95 rfl dX4_findErrors_4.1.2.1 rfl (fun h hF w120 => ?_)
          refine zW_iinc (ls' := [_, _, _, _, _, _, _, _, _]) (pc' := 126) dX4_findErrors_4.1.2.2 rfl (by decide) rfl rfl rfl ?_
          refine zV_goto 33 dX4_findErrors_4.2.1.1 rfl ?_
          refine zV_clr 6 (ls' := [_, _, _, _, _, _, _, _, _]) rfl ?_
          refine zV_clr 7 (ls' := [_, _, _, _, _, _, _, _, _]) rfl ?_
          exact k33 _ _ _ hF (by omega) (by omega) (by omega) (by omega) (by omega)
  refine zM_of [some (.inr (.inr 95)), some (.inr (.inr s1)), some (.inr (.inr 39)), some (.inl x3), none, none, none, none, none] 5 rfl rfl (Nat.le_of_ble_eq_true rfl) rfl ?_
  refine zW_aload_n (pc' := 1) dX4_findErrors_0.1.1.1.1 rfl rfl ?_
  refine zW_lconst (pc' := 2) dX4_findErrors_0.1.1.1.2 rfl ?_
  refine zP_scl (pc' := 5) hF rfl rfl fp_X4_112 tb95 rfl dX4_findErrors_0.1.1.2.1 rfl (fun h hF w2 => ?_)
  refine zW_aload_n (pc' := 6) dX4_findErrors_0.1.1.2.2 rfl rfl ?_
  refine zW_lconst (pc' := 7) dX4_findErrors_0.1.2.1.1 rfl ?_
  refine zP_scl (pc' := 10) hF rfl rfl fp_X4_116 tb95 rfl dX4_findErrors_0.1.2.1.2 rfl (fun h hF w7 => ?_)
  refine zW_aload_n (pc' := 11) dX4_findErrors_0.1.2.2.1 rfl rfl ?_
  refine zW_lconst (pc' := 12) dX4_findErrors_0.1.2.2.2 rfl ?_
  refine zP_scl (pc' := 15) hF rfl rfl fp_X4_119 tb95 rfl dX4_findErrors_0.2.1.1.1 rfl (fun h hF w12 => ?_)
  refine zW_iconst (pc' := 16) dX4_findErrors_0.2.1.1.2 rfl ?_
  refine zW_istore (ls' := [_, _, _, _, _, _, _, _, _]) (pc' := 18) dX4_findErrors_0.2.1.2.1 (by decide) rfl rfl rfl ?_
  exact (main 10000000000000000000000000000000000000000).1 _ _ hF (by omega) (by omega) (by omega)

abbrev q_X4_falseOf (κ h : Hp) (s1 : Nat) (x2 : Int) : Int → Hp → Prop := fun r h' => h' = h ∧ (True)
set_option maxHeartbeats 4000000 in
set_option maxRecDepth 20000 in
theorem s_X4_falseOf {G : Ga} {b : Bd} {κ h : Hp} (hK : KC κ) (hF : Fr b κ h) (s1 : Nat) (hs1 : 56 ≤ s1 ∧ s1 ≤ 70) (x2 : Int) : zM G mX4_falseOf yX4_falseOf [.inr (.inr 95), .inr (.inr s1), .inl x2] h (q_X4_falseOf κ h s1 x2) := by
  have f_33_0 := KCw hK
  have f_33_1 := KCh hK
  have main : ∀ N : Nat, (∀ (v3 v4 : Int) , (0 ≤ v4 ∧ v4 ≤ 16) → (v4 - κ 33 1 ≤ 0) → 13210776 + 19836 * (16 - v4) + 19314 < (N : Int) → zV G mX4_falseOf (q_X4_falseOf κ h s1 x2) 5 [some (.inr (.inr 95)), some (.inr (.inr s1)), some (.inl x2), some (.inl v3), some (.inl v4), none, none] [] h) ∧ (∀ (v3 v4 v5 : Int) , (0 ≤ v4 ∧ v4 ≤ 15) → (v4 - κ 33 1 ≤ -1) → (0 ≤ v5 ∧ v5 ≤ 16) → (v5 - κ 33 0 ≤ 0) → 13210776 + 19836 * (16 - v4) + 14616 + 29 * (16 - v5) + 28 < (N : Int) → zV G mX4_falseOf (q_X4_falseOf κ h s1 x2) 20 [some (.inr (.inr 95)), some (.inr (.inr s1)), some (.inl x2), some (.inl v3), some (.inl v4), some (.inl v5), none] [] h) := by
    intro N
    induction N with
    | zero =>
      refine ⟨?_, ?_⟩
      · intro v3 v4 g0 g1 hm
        exfalso; omega
      · intro v3 v4 v5 g0 g1 g2 g3 hm
        exfalso; omega
    | succ N ih =>
      obtain ⟨k5, k20⟩ := ih
      refine ⟨?_, ?_⟩
      · intro v3 v4 g0 g1 hm
        refine zW_iload (pc' := 7) dX4_falseOf_0.1.2.1.1 rfl rfl ?_
        refine zW_aload_n (pc' := 8) dX4_falseOf_0.1.2.1.2 rfl rfl ?_
        refine zG_ref (pc' := 11) 33 fg_X4_19 tb95 rfl dX4_falseOf_0.1.2.2.1 rfl ?_
        refine zG_key (pc' := 14) hF rfl fg_X4_31 tb33 rfl dX4_falseOf_0.1.2.2.2 rfl ?_
        refine zV_cm_ge (tgt := 80) (pc' := 17) dX4_falseOf_0.2.1.1.1 rfl rfl ⟨by omega, by omega⟩ ⟨by omega, by omega⟩ (fun c14 => ?_) (fun c14 => ?_)
        · refine zW_iload_n (pc' := 81) dX4_falseOf_2.2.2.1 rfl rfl ?_
          exact zV_iret rfl dX4_falseOf_2.2.2.2 ⟨rfl, trivial⟩
        · refine zW_iconst (pc' := 18) dX4_falseOf_0.2.1.1.2 rfl ?_
          refine zW_istore (ls' := [_, _, _, _, _, _, _]) (pc' := 20) dX4_falseOf_0.2.1.2.1 (by decide) rfl rfl rfl ?_
          exact k20 _ _ _ (by omega) (by omega) (by omega) (by omega) (by omega)
      · intro v3 v4 v5 g0 g1 g2 g3 hm
        refine zW_iload (pc' := 22) dX4_falseOf_0.2.1.2.2 rfl rfl ?_
        refine zW_aload_n (pc' := 23) dX4_falseOf_0.2.2.1.1 rfl rfl ?_
        refine zG_ref (pc' := 26) 33 fg_X4_19 tb95 rfl dX4_falseOf_0.2.2.1.2 rfl ?_
        refine zG_key (pc' := 29) hF rfl fg_X4_36 tb33 rfl dX4_falseOf_0.2.2.2.1 rfl ?_
        refine zV_cm_ge (tgt := 74) (pc' := 32) dX4_falseOf_0.2.2.2.2 rfl rfl ⟨by omega, by omega⟩ ⟨by omega, by omega⟩ (fun c29 => ?_) (fun c29 => ?_)
        · refine zW_iinc (ls' := [_, _, _, _, _, _, _]) (pc' := 77) dX4_falseOf_2.2.1.1 rfl (by decide) rfl rfl rfl ?_
          refine zV_goto 5 dX4_falseOf_2.2.1.2 rfl ?_
          refine zV_clr 5 (ls' := [_, _, _, _, _, _, _]) rfl ?_
          exact k5 _ _ (by omega) (by omega) (by omega)
        · refine zW_iload (pc' := 34) dX4_falseOf_1.1.1.1.1 rfl rfl ?_
          refine zW_bipush (pc' := 36) dX4_falseOf_1.1.1.1.2 rfl rfl ?_
          refine zW_imul (pc' := 37) dX4_falseOf_1.1.1.2.1 rfl ?_
          refine zW_iload (pc' := 39) dX4_falseOf_1.1.1.2.2 rfl rfl ?_
          refine zW_iadd (pc' := 40) dX4_falseOf_1.1.2.1.1 rfl ?_
          refine zW_istore (ls' := [_, _, _, _, _, _, _]) (pc' := 42) dX4_falseOf_1.1.2.1.2 (by decide) rfl rfl rfl ?_
          refine zW_aload_n (pc' := 43) dX4_falseOf_1.1.2.2.1 rfl rfl ?_
          refine zG_lev (pc' := 46) (by omega) (by omega) fg_X4_94 dX4_falseOf_1.1.2.2.2 rfl ?_
          refine zW_iload (pc' := 48) dX4_falseOf_1.2.1.1.1 rfl rfl ?_
          refine csI2 (pc' := 51) kX11_greatestOf vX11_greatestOf lk_X4_130 ⟨Nat.le_of_ble_eq_true rfl, Nat.le_of_ble_eq_true rfl⟩ rfl (s_X11_greatestOf hF _ ⟨by omega, by omega⟩ _ ⟨by omega, by omega⟩) dX4_falseOf_1.2.1.1.2 (Nat.le_of_ble_eq_true rfl) rfl ?_
          rintro r48 z48 ⟨hz48, p48⟩; subst z48
          refine zW_aload_n (pc' := 52) dX4_falseOf_1.2.1.2.1 rfl rfl ?_
          refine zG_lev (pc' := 55) (by omega) (by omega) fg_X4_94 dX4_falseOf_1.2.1.2.2 rfl ?_
          refine zW_iload (pc' := 57) dX4_falseOf_1.2.2.1.1 rfl rfl ?_
          refine csI2 (pc' := 60) kX11_leastOf vX11_leastOf lk_X4_133 ⟨Nat.le_of_ble_eq_true rfl, Nat.le_of_ble_eq_true rfl⟩ rfl (s_X11_leastOf hF _ ⟨by omega, by omega⟩ _ ⟨by omega, by omega⟩) dX4_falseOf_1.2.2.1.2 (Nat.le_of_ble_eq_true rfl) rfl ?_
          rintro r57 z57 ⟨hz57, p57⟩; subst z57
          refine zW_isub (pc' := 61) dX4_falseOf_1.2.2.2.1 rfl ?_
          refine zW_iload_n (pc' := 62) dX4_falseOf_1.2.2.2.2 rfl rfl ?_
          refine zV_cmQ_le (tgt := 68) (pc' := 65) dX4_falseOf_2.1.1.1 rfl rfl ?_ ?_
          · refine zW_iinc (ls' := [_, _, _, _, _, _, _]) (pc' := 71) dX4_falseOf_2.1.2.1 rfl (by decide) rfl rfl rfl ?_
            refine zV_goto 20 dX4_falseOf_2.1.2.2 rfl ?_
            refine zV_clr 6 (ls' := [_, _, _, _, _, _, _]) rfl ?_
            exact k20 _ _ _ (by omega) (by omega) (by omega) (by omega) (by omega)
          · refine zW_iinc (ls' := [_, _, _, _, _, _, _]) (pc' := 68) dX4_falseOf_2.1.1.2 rfl (by decide) rfl rfl rfl ?_
            refine zW_iinc (ls' := [_, _, _, _, _, _, _]) (pc' := 71) dX4_falseOf_2.1.2.1 rfl (by decide) rfl rfl rfl ?_
            refine zV_goto 20 dX4_falseOf_2.1.2.2 rfl ?_
            refine zV_clr 6 (ls' := [_, _, _, _, _, _, _]) rfl ?_
            exact k20 _ _ _ (by omega) (by omega) (by omega) (by omega) (by omega)
  refine zM_of [some (.inr (.inr 95)), some (.inr (.inr s1)), some (.inl x2), none, none, none, none] 4 rfl rfl (Nat.le_of_ble_eq_true rfl) rfl ?_
  refine zW_iconst (pc' := 1) dX4_falseOf_0.1.1.1.1 rfl ?_
  refine zW_istore_n (ls' := [_, _, _, _, _, _, _]) (pc' := 2) dX4_falseOf_0.1.1.1.2 (by decide) rfl rfl rfl ?_
  refine zW_iconst (pc' := 3) dX4_falseOf_0.1.1.2.1 rfl ?_
  refine zW_istore (ls' := [_, _, _, _, _, _, _]) (pc' := 5) dX4_falseOf_0.1.1.2.2 (by decide) rfl rfl rfl ?_
  exact (main 10000000000000000000000000000000000000000).1 _ _ (by omega) (by omega) (by omega)

abbrev q_X4_compare (b : Bd) (κ : Hp) (s1 : Nat) (s2 : Nat) : Int → Hp → Prop := fun r h' => Fr b κ h' ∧ (True)
set_option maxHeartbeats 4000000 in
set_option maxRecDepth 20000 in
theorem s_X4_compare {G : Ga} {b : Bd} {κ h : Hp} (hK : KC κ) (hF : Fr b κ h) (s1 : Nat) (hs1 : 56 ≤ s1 ∧ s1 ≤ 70) (s2 : Nat) (hs2 : 56 ≤ s2 ∧ s2 ≤ 70) : zM G mX4_compare yX4_compare [.inr (.inr 95), .inr (.inr s1), .inr (.inr s2)] h (q_X4_compare b κ s1 s2) := by
  have f_33_0 := KCw hK
  have f_33_1 := KCh hK
  have main : ∀ N : Nat, (∀ (v3 v4 : Int) (h : Hp), Fr b κ h → (1 ≤ v3 ∧ v3 ≤ 3) → (0 ≤ v4 ∧ v4 ≤ 3) → 17312641920 + 55847232 * (3 - v4) + 54960768 < (N : Int) → zV G mX4_compare (q_X4_compare b κ s1 s2) 33 [some (.inr (.inr 95)), some (.inr (.inr s1)), some (.inr (.inr s2)), some (.inl v3), some (.inl v4), none, none, none, none] [] h) ∧ (∀ (v3 v4 v5 : Int) (h : Hp), Fr b κ h → (1 ≤ v3 ∧ v3 ≤ 3) → (0 ≤ v4 ∧ v4 ≤ 2) → (0 ≤ v5 ∧ v5 ≤ 16) → (v5 - κ 33 1 ≤ 0) → 17312641920 + 55847232 * (3 - v4) + 49641984 + 49248 * (16 - v5) + 48384 < (N : Int) → zV G mX4_compare (q_X4_compare b κ s1 s2) 42 [some (.inr (.inr 95)), some (.inr (.inr s1)), some (.inr (.inr s2)), some (.inl v3), some (.inl v4), some (.inl v5), none, none, none] [] h) ∧ (∀ (v3 v4 v5 v6 : Int) (h : Hp), Fr b κ h → (1 ≤ v3 ∧ v3 ≤ 3) → (0 ≤ v4 ∧ v4 ≤ 2) → (0 ≤ v5 ∧ v5 ≤ 15) → (v5 - κ 33 1 ≤ -1) → (0 ≤ v6 ∧ v6 ≤ 16) → (v6 - κ 33 0 ≤ 0) → 17312641920 + 55847232 * (3 - v4) + 49641984 + 49248 * (16 - v5) + 40608 + 48 * (16 - v6) + 47 < (N : Int) → zV G mX4_compare (q_X4_compare b κ s1 s2) 57 [some (.inr (.inr 95)), some (.inr (.inr s1)), some (.inr (.inr s2)), some (.inl v3), some (.inl v4), some (.inl v5), some (.inl v6), none, none] [] h) := by
    intro N
    induction N with
    | zero =>
      refine ⟨?_, ?_, ?_⟩
      · intro v3 v4 h hF g0 g1 hm
        exfalso; omega
      · intro v3 v4 v5 h hF g0 g1 g2 g3 hm
        exfalso; omega
      · intro v3 v4 v5 v6 h hF g0 g1 g2 g3 g4 g5 hm
        exfalso; omega
    | succ N ih =>
      obtain ⟨k33, k42, k57⟩ := ih
      refine ⟨?_, ?_, ?_⟩
      · intro v3 v4 h hF g0 g1 hm
        refine zW_iload (pc' := 35) dX4_compare_1.1.1.2.1 rfl rfl ?_
        refine zW_iload_n (pc' := 36) dX4_compare_1.1.1.2.2 rfl rfl ?_
        refine zV_cm_ge (tgt := 156) (pc' := 39) dX4_compare_1.1.2.1.1 rfl rfl ⟨by omega, by omega⟩ ⟨by omega, by omega⟩ (fun c36 => ?_) (fun c36 => ?_)
        · exact zV_vret rfl dX4_compare_4.2.2.2 ⟨hF, trivial⟩
        · refine zW_iconst (pc' := 40) dX4_compare_1.1.2.1.2 rfl ?_
          refine zW_istore (ls' := [_, _, _, _, _, _, _, _, _]) (pc' := 42) dX4_compare_1.1.2.2.1 (by decide) rfl rfl rfl ?_
          exact k42 _ _ _ _ hF (by omega) (by omega) (by omega) (by omega) (by omega)
      · intro v3 v4 v5 h hF g0 g1 g2 g3 hm
        refine zW_iload (pc' := 44) dX4_compare_1.1.2.2.2 rfl rfl ?_
        refine zW_aload_n (pc' := 45) dX4_compare_1.2.1.1.1 rfl rfl ?_
        refine zG_ref (pc' := 48) 33 fg_X4_19 tb95 rfl dX4_compare_1.2.1.1.2 rfl ?_
        refine zG_key (pc' := 51) hF rfl fg_X4_31 tb33 rfl dX4_compare_1.2.1.2.1 rfl ?_
        refine zV_cm_ge (tgt := 150) (pc' := 54) dX4_compare_1.2.1.2.2 rfl rfl ⟨by omega, by omega⟩ ⟨by omega, by omega⟩ (fun c51 => ?_) (fun c51 => ?_)
        · refine zW_iinc (ls' := [_, _, _, _, _, _, _, _, _]) (pc' := 153) dX4_compare_4.2.2.1.1 rfl (by decide) rfl rfl rfl ?_
          refine zV_goto 33 dX4_compare_4.2.2.1.2 rfl ?_
          refine zV_clr 5 (ls' := [_, _, _, _, _, _, _, _, _]) rfl ?_
          exact k33 _ _ _ hF (by omega) (by omega) (by omega)
        · refine zW_iconst (pc' := 55) dX4_compare_1.2.2.1.1 rfl ?_
          refine zW_istore (ls' := [_, _, _, _, _, _, _, _, _]) (pc' := 57) dX4_compare_1.2.2.1.2 (by decide) rfl rfl rfl ?_
          exact k57 _ _ _ _ _ hF (by omega) (by omega) (by omega) (by omega) (by omega) (by omega) (by omega)
      · intro v3 v4 v5 v6 h hF g0 g1 g2 g3 g4 g5 hm
        refine zW_iload (pc' := 59) dX4_compare_1.2.2.2.1 rfl rfl ?_
        refine zW_aload_n (pc' := 60) dX4_compare_1.2.2.2.2 rfl rfl ?_
        refine zG_ref (pc' := 63) 33 fg_X4_19 tb95 rfl dX4_compare_2.1.1.1.1 rfl ?_
        refine zG_key (pc' := 66) hF rfl fg_X4_36 tb33 rfl dX4_compare_2.1.1.1.2 rfl ?_
        refine zV_cm_ge (tgt := 144) (pc' := 69) dX4_compare_2.1.1.2.1 rfl rfl ⟨by omega, by omega⟩ ⟨by omega, by omega⟩ (fun c66 => ?_) (fun c66 => ?_)
        · refine zW_iinc (ls' := [_, _, _, _, _, _, _, _, _]) (pc' := 147) dX4_compare_4.2.1.2.1 rfl (by decide) rfl rfl rfl ?_
          refine zV_goto 42 dX4_compare_4.2.1.2.2 rfl ?_
          refine zV_clr 6 (ls' := [_, _, _, _, _, _, _, _, _]) rfl ?_
          exact k42 _ _ _ _ hF (by omega) (by omega) (by omega) (by omega) (by omega)
        · refine zW_iload (pc' := 71) dX4_compare_2.1.1.2.2 rfl rfl ?_
          refine zW_sipush (pc' := 74) dX4_compare_2.1.2.1.1 rfl rfl ?_
          refine zW_imul (pc' := 75) dX4_compare_2.1.2.1.2 rfl ?_
          refine zW_iload (pc' := 77) dX4_compare_2.1.2.2.1 rfl rfl ?_
          refine zW_bipush (pc' := 79) dX4_compare_2.1.2.2.2 rfl rfl ?_
          refine zW_imul (pc' := 80) dX4_compare_2.2.1.1.1 rfl ?_
          refine zW_iadd (pc' := 81) dX4_compare_2.2.1.1.2 rfl ?_
          refine zW_iload (pc' := 83) dX4_compare_2.2.1.2.1 rfl rfl ?_
          refine zW_iadd (pc' := 84) dX4_compare_2.2.1.2.2 rfl ?_
          refine zW_istore (ls' := [_, _, _, _, _, _, _, _, _]) (pc' := 86) dX4_compare_2.2.2.1.1 (by decide) rfl rfl rfl ?_
          refine zW_aload_n (pc' := 87) dX4_compare_2.2.2.1.2 rfl rfl ?_
          refine zG_lev (pc' := 90) (by omega) (by omega) fg_X4_94 dX4_compare_2.2.2.2.1 rfl ?_
          refine zW_iload (pc' := 92) dX4_compare_2.2.2.2.2 rfl rfl ?_
          refine zV_iald (pc' := 93) (tabL (by omega) (by omega)) (by omega) dX4_compare_3.1.1.1.1 (by decide) rfl ?_
          refine zW_aload_n (pc' := 94) dX4_compare_3.1.1.1.2 rfl rfl ?_
          refine zG_lev (pc' := 97) (by omega) (by omega) fg_X4_94 dX4_compare_3.1.1.2.1 rfl ?_
          refine zW_iload (pc' := 99) dX4_compare_3.1.1.2.2 rfl rfl ?_
          refine zV_iald (pc' := 100) (tabL (by omega) (by omega)) (by omega) dX4_compare_3.1.2.1.1 (by decide) rfl ?_
          refine zW_isub (pc' := 101) dX4_compare_3.1.2.1.2 rfl ?_
          refine zV_mabs (pc' := 104) km_X4_79 (Nat.le_of_ble_eq_true rfl) (Nat.le_of_ble_eq_true rfl) dX4_compare_3.1.2.2.1 rfl (fun v101 e101 => ?_)
          replace e101 := e101.1
          unfold rng at e101
          refine zW_istore (ls' := [_, _, _, _, _, _, _, _, _]) (pc' := 106) dX4_compare_3.1.2.2.2 (by decide) rfl rfl rfl ?_
          refine zW_aload_n (pc' := 107) dX4_compare_3.2.1.1.1 rfl rfl ?_
          refine zW_dup (pc' := 108) dX4_compare_3.2.1.1.2 rfl rfl ?_
          refine zG_int (pc' := 111) fg_X4_136 tb95 rfl dX4_compare_3.2.1.2.1 rfl ?_
          refine zW_iload (pc' := 113) dX4_compare_3.2.1.2.2 rfl rfl ?_
          refine zV_if_le (tgt := 120) (pc' := 116) dX4_compare_3.2.2.1.1 rfl rfl ⟨by omega, by omega⟩ (fun c113 => ?_) (fun c113 => ?_)
          · refine zW_iconst (pc' := 121) dX4_compare_3.2.2.2.2 rfl ?_
            refine zW_iadd (pc' := 122) dX4_compare_4.1.1.1.1 rfl ?_
            refine zP_scf (pc' := 125) hF rfl fp_X4_136 tb95 rfl dX4_compare_4.1.1.1.2 rfl (fun h i122 hF a122 b122 w122 => ?_)
            refine zW_aload_n (pc' := 126) dX4_compare_4.1.1.2.1 rfl rfl ?_
            refine zW_aload_n (pc' := 127) dX4_compare_4.1.1.2.2 rfl rfl ?_
            refine zG_int (pc' := 130) fg_X4_139 tb95 rfl dX4_compare_4.1.2.1.1 rfl ?_
            refine zW_iload (pc' := 132) dX4_compare_4.1.2.1.2 rfl rfl ?_
            refine zV_mmax (pc' := 135) km_X4_57 (Nat.le_of_ble_eq_true rfl) (Nat.le_of_ble_eq_true rfl) dX4_compare_4.1.2.2.1 rfl (fun v132 e132 => ?_)
            replace e132 := e132.1
            unfold rng at e132
            refine zP_scf (pc' := 138) hF rfl fp_X4_139 tb95 rfl dX4_compare_4.1.2.2.2 rfl (fun h i135 hF a135 b135 w135 => ?_)
            refine zW_iinc (ls' := [_, _, _, _, _, _, _, _, _]) (pc' := 141) dX4_compare_4.2.1.1.1 rfl (by decide) rfl rfl rfl ?_
            refine zV_goto 57 dX4_compare_4.2.1.1.2 rfl ?_
            refine zV_clr 7 (ls' := [_, _, _, _, _, _, _, _, _]) rfl ?_
            refine zV_clr 8 (ls' := [_, _, _, _, _, _, _, _, _]) rfl ?_
            exact k57 _ _ _ _ _ hF (by omega) (by omega) (by omega) (by omega) (by omega) (by omega) (by omega)
          · refine zW_iconst (pc' := 117) dX4_compare_3.2.2.1.2 rfl ?_
            refine zV_goto 121 dX4_compare_3.2.2.2.1 rfl ?_
            refine zW_iadd (pc' := 122) dX4_compare_4.1.1.1.1 rfl ?_
            refine zP_scf (pc' := 125) hF rfl fp_X4_136 tb95 rfl dX4_compare_4.1.1.1.2 rfl (fun h i122 hF a122 b122 w122 => ?_)
            refine zW_aload_n (pc' := 126) dX4_compare_4.1.1.2.1 rfl rfl ?_
            refine zW_aload_n (pc' := 127) dX4_compare_4.1.1.2.2 rfl rfl ?_
            refine zG_int (pc' := 130) fg_X4_139 tb95 rfl dX4_compare_4.1.2.1.1 rfl ?_
            refine zW_iload (pc' := 132) dX4_compare_4.1.2.1.2 rfl rfl ?_
            refine zV_mmax (pc' := 135) km_X4_57 (Nat.le_of_ble_eq_true rfl) (Nat.le_of_ble_eq_true rfl) dX4_compare_4.1.2.2.1 rfl (fun v132 e132 => ?_)
            replace e132 := e132.1
            unfold rng at e132
            refine zP_scf (pc' := 138) hF rfl fp_X4_139 tb95 rfl dX4_compare_4.1.2.2.2 rfl (fun h i135 hF a135 b135 w135 => ?_)
            refine zW_iinc (ls' := [_, _, _, _, _, _, _, _, _]) (pc' := 141) dX4_compare_4.2.1.1.1 rfl (by decide) rfl rfl rfl ?_
            refine zV_goto 57 dX4_compare_4.2.1.1.2 rfl ?_
            refine zV_clr 7 (ls' := [_, _, _, _, _, _, _, _, _]) rfl ?_
            refine zV_clr 8 (ls' := [_, _, _, _, _, _, _, _, _]) rfl ?_
            exact k57 _ _ _ _ _ hF (by omega) (by omega) (by omega) (by omega) (by omega) (by omega) (by omega)
  refine zM_of [some (.inr (.inr 95)), some (.inr (.inr s1)), some (.inr (.inr s2)), none, none, none, none, none, none] 6 rfl rfl (Nat.le_of_ble_eq_true rfl) rfl ?_
  refine zW_aload_n (pc' := 1) dX4_compare_0.1.1.1.1 rfl rfl ?_
  refine zW_iconst (pc' := 2) dX4_compare_0.1.1.1.2 rfl ?_
  refine zP_scf (pc' := 5) hF rfl fp_X4_136 tb95 rfl dX4_compare_0.1.1.2.1 rfl (fun h i2 hF a2 b2 w2 => ?_)
  refine zW_aload_n (pc' := 6) dX4_compare_0.1.1.2.2 rfl rfl ?_
  refine zW_iconst (pc' := 7) dX4_compare_0.1.2.1.1 rfl ?_
  refine zP_scf (pc' := 10) hF rfl fp_X4_139 tb95 rfl dX4_compare_0.1.2.1.2 rfl (fun h i7 hF a7 b7 w7 => ?_)
  refine zW_aload_n (pc' := 11) dX4_compare_0.1.2.2.1 rfl rfl ?_
  refine zG_ful (pc' := 14) (by omega) (by omega) fg_X4_142 dX4_compare_0.1.2.2.2 rfl ?_
  refine zV_ifQ_eq (tgt := 28) (pc' := 17) dX4_compare_0.2.1.1.1 rfl rfl ?_ ?_
  · refine zW_iconst (pc' := 29) dX4_compare_0.2.2.2.1 rfl ?_
    refine zW_istore_n (ls' := [_, _, _, _, _, _, _, _, _]) (pc' := 30) dX4_compare_0.2.2.2.2 (by decide) rfl rfl rfl ?_
    refine zW_iconst (pc' := 31) dX4_compare_1.1.1.1.1 rfl ?_
    refine zW_istore (ls' := [_, _, _, _, _, _, _, _, _]) (pc' := 33) dX4_compare_1.1.1.1.2 (by decide) rfl rfl rfl ?_
    exact (main 10000000000000000000000000000000000000000).1 _ _ _ hF (by omega) (by omega) (by omega)
  · refine zW_aload_n (pc' := 18) dX4_compare_0.2.1.1.2 rfl rfl ?_
    refine zG_ful (pc' := 21) (by omega) (by omega) fg_X4_142 dX4_compare_0.2.1.2.1 rfl ?_
    refine zV_ifQ_eq (tgt := 28) (pc' := 24) dX4_compare_0.2.1.2.2 rfl rfl ?_ ?_
    · refine zW_iconst (pc' := 29) dX4_compare_0.2.2.2.1 rfl ?_
      refine zW_istore_n (ls' := [_, _, _, _, _, _, _, _, _]) (pc' := 30) dX4_compare_0.2.2.2.2 (by decide) rfl rfl rfl ?_
      refine zW_iconst (pc' := 31) dX4_compare_1.1.1.1.1 rfl ?_
      refine zW_istore (ls' := [_, _, _, _, _, _, _, _, _]) (pc' := 33) dX4_compare_1.1.1.1.2 (by decide) rfl rfl rfl ?_
      exact (main 10000000000000000000000000000000000000000).1 _ _ _ hF (by omega) (by omega) (by omega)
    · refine zW_iconst (pc' := 25) dX4_compare_0.2.2.1.1 rfl ?_
      refine zV_goto 29 dX4_compare_0.2.2.1.2 rfl ?_
      refine zW_istore_n (ls' := [_, _, _, _, _, _, _, _, _]) (pc' := 30) dX4_compare_0.2.2.2.2 (by decide) rfl rfl rfl ?_
      refine zW_iconst (pc' := 31) dX4_compare_1.1.1.1.1 rfl ?_
      refine zW_istore (ls' := [_, _, _, _, _, _, _, _, _]) (pc' := 33) dX4_compare_1.1.1.1.2 (by decide) rfl rfl rfl ?_
      exact (main 10000000000000000000000000000000000000000).1 _ _ _ hF (by omega) (by omega) (by omega)
