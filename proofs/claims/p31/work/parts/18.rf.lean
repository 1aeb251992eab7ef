abbrev q_X12_leavesByQ (b : Bd) (κ : Hp) (x1 x2 : Int) : Int → Hp → Prop := fun r h' => Fr b κ h' ∧ ((0 ≤ r) ∧ (r ≤ 14) ∧ GivH κ h')
theorem s_X12_leavesByQ {G : Ga} {b : Bd} {κ h : Hp} (hK : KR κ) (hF : Fr b.fo κ h) (x1 : Int) (hx1 : 1 ≤ x1 ∧ x1 ≤ 13) (x2 : Int) (hx2 : 0 ≤ x2 ∧ x2 ≤ 14) (hJ : Ok17 b 13) (hG : GivH κ h) : zM G mX12_leavesBy yX12_leavesBy [.inr (.inr 0), .inl x1, .inl x2] h (q_X12_leavesByQ b.fo κ x1 x2) :=
  (s_X12_leavesBy (b := b) (KR_tr hK hF) (Fr.rf (b := b.to) hF.2.2 hF.inv) x1 hx1 x2 hx2 hJ (hG.ok hF)).mono (fun r h' hq => ⟨hF.tr hq.1 (fun q => by cases q), hq.2.1, hq.2.2, hG.mv hq.1⟩)

abbrev q_X12_lists (b : Bd) (κ : Hp) (x1 : Int) (x2 : Int) : Int → Hp → Prop := fun r h' => Fr b κ h' ∧ (True)
set_option maxHeartbeats 4000000 in
set_option maxRecDepth 20000 in
theorem s_X12_lists {G : Ga} {b : Bd} {κ h : Hp} (hK : KR κ) (hF : Fr b κ h) (x1 : Int) (hx1 : 0 ≤ x1 ∧ x1 ≤ 14) (x2 : Int) (hx2 : 0 ≤ x2 ∧ x2 ≤ 2) : zM G mX12_lists yX12_lists [.inr (.inr 0), .inl x1, .inl x2] h (q_X12_lists b κ x1 x2) := by
  have f_0_11 := KRw hK
  have f_0_12 := KRh hK
  have main : ∀ N : Nat, (∀ (v3 : Int) (h : Hp), Fr b κ h → (0 ≤ v3 ∧ v3 ≤ 16) → (v3 - κ 0 12 ≤ 0) → (h 0 53 ≤ 16 * v3) → 24377760 + 30780 * (16 - v3) + 30096 < (N : Int) → zV G mX12_lists (q_X12_lists b κ x1 x2) 7 [some (.inr (.inr 0)), some (.inl x1), some (.inl x2), some (.inl v3), none] [] h) ∧ (∀ (v3 v4 : Int) (h : Hp), Fr b κ h → (0 ≤ v3 ∧ v3 ≤ 15) → (v3 - κ 0 12 ≤ -1) → (0 ≤ v4 ∧ v4 ≤ 16) → (v4 - κ 0 11 ≤ 0) → (h 0 53 ≤ 16 * v3 + v4) → 24377760 + 30780 * (16 - v3) + 25308 + 38 * (16 - v4) + 37 < (N : Int) → zV G mX12_lists (q_X12_lists b κ x1 x2) 18 [some (.inr (.inr 0)), some (.inl x1), some (.inl x2), some (.inl v3), some (.inl v4)] [] h) ∧ (∀ (v3 v4 : Int) (h : Hp), Fr b κ h → (0 ≤ v3 ∧ v3 ≤ 15) → (v3 - κ 0 12 ≤ -1) → (0 ≤ v4 ∧ v4 ≤ 15) → (v4 - κ 0 11 ≤ -1) → (h 0 53 ≤ 16 * v3 + v4) → 24377760 + 30780 * (16 - v3) + 25308 + 38 * (16 - v4) + 21 < (N : Int) → zV G mX12_lists (q_X12_lists b κ x1 x2) 49 [some (.inr (.inr 0)), some (.inl x1), some (.inl x2), some (.inl v3), some (.inl v4)] [] h) := by
    intro N
    induction N with
    | zero =>
      refine ⟨?_, ?_, ?_⟩
      · intro v3 h hF g0 g1 gc0 hm
        exfalso; omega
      · intro v3 v4 h hF g0 g1 g2 g3 gc0 hm
        exfalso; omega
      · intro v3 v4 h hF g0 g1 g2 g3 gc0 hm
        exfalso; omega
    | succ N ih =>
      obtain ⟨k7, k18, k49⟩ := ih
      refine ⟨?_, ?_, ?_⟩
      · intro v3 h hF g0 g1 gc0 hm
        refine zW_iload_n (pc' := 8) dX12_lists_0.1.2.1.2 rfl rfl ?_
        refine zW_aload_n (pc' := 9) dX12_lists_0.1.2.2.1 rfl rfl ?_
        refine zG_key (pc' := 12) hF rfl fg_X12_103 tb0 rfl dX12_lists_0.1.2.2.2 rfl ?_
        refine zV_cm_ge (tgt := 89) (pc' := 15) dX12_lists_0.2.1.1.1 rfl rfl ⟨by omega, by omega⟩ ⟨by omega, by omega⟩ (fun c12 => ?_) (fun c12 => ?_)
        · exact zV_vret rfl dX12_lists_2.2.2.2.2 ⟨hF, trivial⟩
        · refine zW_iconst (pc' := 16) dX12_lists_0.2.1.1.2 rfl ?_
          refine zW_istore (ls' := [_, _, _, _, _]) (pc' := 18) dX12_lists_0.2.1.2.1 (by decide) rfl rfl rfl ?_
          exact k18 _ _ _ hF (by omega) (by omega) (by omega) (by omega) (by omega) (by omega)
      · intro v3 v4 h hF g0 g1 g2 g3 gc0 hm
        refine zW_iload (pc' := 20) dX12_lists_0.2.1.2.2 rfl rfl ?_
        refine zW_aload_n (pc' := 21) dX12_lists_0.2.2.1.1 rfl rfl ?_
        refine zG_key (pc' := 24) hF rfl fg_X12_99 tb0 rfl dX12_lists_0.2.2.1.2 rfl ?_
        refine zV_cm_ge (tgt := 83) (pc' := 27) dX12_lists_0.2.2.2.1 rfl rfl ⟨by omega, by omega⟩ ⟨by omega, by omega⟩ (fun c24 => ?_) (fun c24 => ?_)
        · refine zW_iinc (ls' := [_, _, _, _, _]) (pc' := 86) dX12_lists_2.2.2.1.2 rfl (by decide) rfl rfl rfl ?_
          refine zV_goto 7 dX12_lists_2.2.2.2.1 rfl ?_
          refine zV_clr 4 (ls' := [_, _, _, _, _]) rfl ?_
          exact k7 _ _ hF (by omega) (by omega) (by omega) (by omega)
        · refine zW_aload_n (pc' := 28) dX12_lists_0.2.2.2.2 rfl rfl ?_
          refine zW_iload_n (pc' := 29) dX12_lists_1.1.1.1.1 rfl rfl ?_
          refine cvI1 (pc' := 32) kX12_isBehind vX12_isBehind lk_X12_380 ⟨Nat.le_of_ble_eq_true rfl, Nat.le_of_ble_eq_true rfl⟩ tb0 vq12 rfl rfl (s_X12_isBehind hK hF _ ⟨by omega, by omega⟩) dX12_lists_1.1.1.1.2 (Nat.le_of_ble_eq_true rfl) rfl ?_
          rintro r29 z29 ⟨hz29, p29⟩; subst z29
          refine zV_if_ne (tgt := 49) (pc' := 35) dX12_lists_1.1.1.2.1 rfl rfl ⟨by omega, by omega⟩ (fun c32 => ?_) (fun c32 => ?_)
          · exact k49 _ _ _ hF (by omega) (by omega) (by omega) (by omega) (by omega) (by omega)
          · refine zW_aload_n (pc' := 36) dX12_lists_1.1.1.2.2 rfl rfl ?_
            refine zW_iload (pc' := 38) dX12_lists_1.1.2.1.1 rfl rfl ?_
            refine zW_iload_n (pc' := 39) dX12_lists_1.1.2.1.2 rfl rfl ?_
            refine cvI2 (pc' := 42) kX12_colourAt vX12_colourAt lk_X12_225 ⟨Nat.le_of_ble_eq_true rfl, Nat.le_of_ble_eq_true rfl⟩ tb0 vq12 rfl rfl (s_X12_colourAt hK hF _ ⟨by omega, by omega⟩ _ ⟨by omega, by omega⟩) dX12_lists_1.1.2.2.1 (Nat.le_of_ble_eq_true rfl) rfl ?_
            rintro r39 z39 ⟨hz39, p39⟩; subst z39
            refine zW_iload_n (pc' := 43) dX12_lists_1.1.2.2.2 rfl rfl ?_
            refine zV_cm_eq (tgt := 49) (pc' := 46) dX12_lists_1.2.1.1.1 rfl rfl ⟨by omega, by omega⟩ ⟨by omega, by omega⟩ (fun c43 => ?_) (fun c43 => ?_)
            · exact k49 _ _ _ hF (by omega) (by omega) (by omega) (by omega) (by omega) (by omega)
            · refine zV_goto 77 dX12_lists_1.2.1.1.2 rfl ?_
              refine zW_iinc (ls' := [_, _, _, _, _]) (pc' := 80) dX12_lists_2.2.1.2.2 rfl (by decide) rfl rfl rfl ?_
              refine zV_goto 18 dX12_lists_2.2.2.1.1 rfl ?_
              exact k18 _ _ _ hF (by omega) (by omega) (by omega) (by omega) (by omega) (by omega)
      · intro v3 v4 h hF g0 g1 g2 g3 gc0 hm
        refine zW_aload_n (pc' := 50) dX12_lists_1.2.1.2.1 rfl rfl ?_
        refine zG_ref (pc' := 53) 29 fg_X12_96 tb0 rfl dX12_lists_1.2.1.2.2 rfl ?_
        refine zW_aload_n (pc' := 54) dX12_lists_1.2.2.1.1 rfl rfl ?_
        refine zG_int (pc' := 57) fg_X12_403 tb0 rfl dX12_lists_1.2.2.1.2 rfl ?_
        have e54 := hF.2.2.1
        refine zW_aload_n (pc' := 58) dX12_lists_1.2.2.2.1 rfl rfl ?_
        refine zW_iload_n (pc' := 59) dX12_lists_1.2.2.2.2 rfl rfl ?_
        refine zW_iload_n (pc' := 60) dX12_lists_2.1.1.1.1 rfl rfl ?_
        refine zW_iload (pc' := 62) dX12_lists_2.1.1.1.2 rfl rfl ?_
        refine zW_iload_n (pc' := 63) dX12_lists_2.1.1.2.1 rfl rfl ?_
        refine cvI4 (pc' := 66) kX12_at vX12_at lk_X12_277 ⟨Nat.le_of_ble_eq_true rfl, Nat.le_of_ble_eq_true rfl⟩ tb0 vq12 rfl rfl (s_X12_at hK hF _ ⟨by omega, by omega⟩ _ ⟨by omega, by omega⟩ _ ⟨by omega, by omega, by omega⟩ _ ⟨by omega, by omega, by omega⟩) dX12_lists_2.1.1.2.2 (Nat.le_of_ble_eq_true rfl) rfl ?_
        rintro r63 z63 ⟨hz63, p63⟩; subst z63
        obtain ⟨y53, hy53⟩ : ∃ z : Int, z = h 0 53 := ⟨_, rfl⟩
        refine zS_i (pc' := 67) hF sr29 tb29 (by omega) dX12_lists_2.1.2.1.1 (by decide) rfl (fun h i66 hF a66 b66 w66 => ?_)
        have z66 : h 0 53 = y53 := by rw [w66, hy53]; exact zwr_ne (Or.inl (by decide))
        refine zW_aload_n (pc' := 68) dX12_lists_2.1.2.1.2 rfl rfl ?_
        refine zW_aload_n (pc' := 69) dX12_lists_2.1.2.2.1 rfl rfl ?_
        refine zG_int (pc' := 72) fg_X12_403 tb0 rfl dX12_lists_2.1.2.2.2 rfl ?_
        have e69 := hF.2.2.1
        refine zW_iconst (pc' := 73) dX12_lists_2.2.1.1.1 rfl ?_
        refine zW_iadd (pc' := 74) dX12_lists_2.2.1.1.2 rfl ?_
        refine zP_53 (pc' := 77) hF (by omega) fp_X12_403 dX12_lists_2.2.1.2.1 rfl (fun h hF w74 => ?_)
        refine zW_iinc (ls' := [_, _, _, _, _]) (pc' := 80) dX12_lists_2.2.1.2.2 rfl (by decide) rfl rfl rfl ?_
        refine zV_goto 18 dX12_lists_2.2.2.1.1 rfl ?_
        exact k18 _ _ _ hF (by omega) (by omega) (by omega) (by omega) (by omega) (by omega)
  refine zM_of [some (.inr (.inr 0)), some (.inl x1), some (.inl x2), none, none] 2 rfl rfl (Nat.le_of_ble_eq_true rfl) rfl ?_
  refine zW_aload_n (pc' := 1) dX12_lists_0.1.1.1.1 rfl rfl ?_
  refine zW_iconst (pc' := 2) dX12_lists_0.1.1.1.2 rfl ?_
  refine zP_53 (pc' := 5) hF (by omega) fp_X12_403 dX12_lists_0.1.1.2.1 rfl (fun h hF w2 => ?_)
  refine zW_iconst (pc' := 6) dX12_lists_0.1.1.2.2 rfl ?_
  refine zW_istore_n (ls' := [_, _, _, _, _]) (pc' := 7) dX12_lists_0.1.2.1.1 (by decide) rfl rfl rfl ?_
  exact (main 10000000000000000000000000000000000000000).1 _ _ hF (by omega) (by omega) (by omega) (by omega)

abbrev q_X12_spreads (b : Bd) (κ : Hp) (x1 : Int) (x2 : Int) (x3 : Int) : Int → Hp → Prop := fun r h' => Fr b κ h' ∧ (True)
set_option maxHeartbeats 4000000 in
set_option maxRecDepth 20000 in
theorem s_X12_spreads {G : Ga} {b : Bd} {κ h : Hp} (hK : KR κ) (hF : Fr b κ h) (x1 : Int) (hx1 : 0 ≤ x1 ∧ x1 ≤ 255) (x2 : Int) (hx2 : 0 ≤ x2 ∧ x2 ≤ 255) (x3 : Int) (hp : h 25 x1.toNat = -1) : zM G mX12_spreads yX12_spreads [.inr (.inr 0), .inl x1, .inl x2, .inl x3] h (q_X12_spreads b κ x1 x2 x3) := by
  have f_0_11 := KRw hK
  have f_0_12 := KRh hK
  have main : ∀ N : Nat, (∀ (v4 v5 : Int) (h : Hp), Fr b κ h → (1 ≤ v4 ∧ v4 ≤ 256) → (0 ≤ v5 ∧ v5 ≤ 256) → (v4 ≤ (cntN (h 25) 256 : Int)) → 1886787540 + 82170 * (256 - v5) + 81257 < (N : Int) → zV G mX12_spreads (q_X12_spreads b κ x1 x2 x3) 20 [some (.inr (.inr 0)), some (.inl x1), some (.inl x2), some (.inl x3), some (.inl v4), some (.inl v5), none, none, none, none, none, none] [] h) ∧ (∀ (v4 v5 v6 : Int) (h : Hp), Fr b κ h → (1 ≤ v4 ∧ v4 ≤ 256) → (0 ≤ v5 ∧ v5 ≤ 255) → (0 ≤ v6 ∧ v6 ≤ 9) → (v4 ≤ (cntN (h 25) 256 : Int)) → (v5 < v4) → 1886787540 + 82170 * (256 - v5) + 74866 + 83 * (9 - v6) + 82 < (N : Int) → zV G mX12_spreads (q_X12_spreads b κ x1 x2 x3) 30 [some (.inr (.inr 0)), some (.inl x1), some (.inl x2), some (.inl x3), some (.inl v4), some (.inl v5), some (.inl v6), none, none, none, none, none] [] h) ∧ (∀ (v4 v5 v6 v7 v8 v9 v10 : Int) (h : Hp), Fr b κ h → (1 ≤ v4 ∧ v4 ≤ 256) → (0 ≤ v5 ∧ v5 ≤ 255) → (0 ≤ v6 ∧ v6 ≤ 8) → (-1 ≤ v7 ∧ v7 ≤ 1) → (-1 ≤ v8 ∧ v8 ≤ 1) → (0 ≤ v9 ∧ v9 ≤ 15) → (v9 - κ 0 11 ≤ -1) → (0 ≤ v10 ∧ v10 ≤ 15) → (v10 - κ 0 12 ≤ -1) → (v4 ≤ (cntN (h 25) 256 : Int)) → (v5 < v4) → 1886787540 + 82170 * (256 - v5) + 74866 + 83 * (9 - v6) + 36 < (N : Int) → zV G mX12_spreads (q_X12_spreads b κ x1 x2 x3) 111 [some (.inr (.inr 0)), some (.inl x1), some (.inl x2), some (.inl x3), some (.inl v4), some (.inl v5), some (.inl v6), some (.inl v7), some (.inl v8), some (.inl v9), some (.inl v10), none] [] h) := by
    intro N
    induction N with
    | zero =>
      refine ⟨?_, ?_, ?_⟩
      · intro v4 v5 h hF g0 g1 gc0 hm
        exfalso; omega
      · intro v4 v5 v6 h hF g0 g1 g2 gc0 gc1 hm
        exfalso; omega
      · intro v4 v5 v6 v7 v8 v9 v10 h hF g0 g1 g2 g3 g4 g5 g6 g7 g8 gc0 gc1 hm
        exfalso; omega
    | succ N ih =>
      obtain ⟨k20, k30, k111⟩ := ih
      refine ⟨?_, ?_, ?_⟩
      · intro v4 v5 h hF g0 g1 gc0 hm
        refine zW_iload (pc' := 22) dX12_spreads_0.2.2.2.1 rfl rfl ?_
        refine zW_iload (pc' := 24) dX12_spreads_0.2.2.2.2 rfl rfl ?_
        refine zV_cm_ge (tgt := 180) (pc' := 27) dX12_spreads_1.1.1.1.1 rfl rfl ⟨by omega, by omega⟩ ⟨by omega, by omega⟩ (fun c24 => ?_) (fun c24 => ?_)
        · refine zW_iload (pc' := 182) dX12_spreads_6.2.1.2 rfl rfl ?_
          exact zV_iret rfl dX12_spreads_6.2.2 ⟨hF, trivial⟩
        · refine zW_iconst (pc' := 28) dX12_spreads_1.1.1.1.2 rfl ?_
          refine zW_istore (ls' := [_, _, _, _, _, _, _, _, _, _, _, _]) (pc' := 30) dX12_spreads_1.1.1.2.1 (by decide) rfl rfl rfl ?_
          exact k30 _ _ _ _ hF (by omega) (by omega) (by omega) (by omega) (by omega) (by omega)
      · intro v4 v5 v6 h hF g0 g1 g2 gc0 gc1 hm
        refine zW_iload (pc' := 32) dX12_spreads_1.1.1.2.2 rfl rfl ?_
        refine zW_bipush (pc' := 34) dX12_spreads_1.1.2.1.1 rfl rfl ?_
        refine zV_cm_ge (tgt := 174) (pc' := 37) dX12_spreads_1.1.2.1.2 rfl rfl ⟨by omega, by omega⟩ ⟨by omega, by omega⟩ (fun c34 => ?_) (fun c34 => ?_)
        · refine zW_iinc (ls' := [_, _, _, _, _, _, _, _, _, _, _, _]) (pc' := 177) dX12_spreads_6.1.2 rfl (by decide) rfl rfl rfl ?_
          refine zV_goto 20 dX12_spreads_6.2.1.1 rfl ?_
          refine zV_clr 6 (ls' := [_, _, _, _, _, _, _, _, _, _, _, _]) rfl ?_
          exact k20 _ _ _ hF (by omega) (by omega) (by omega) (by omega)
        · refine zW_iload (pc' := 39) dX12_spreads_1.1.2.2.1 rfl rfl ?_
          refine zW_iconst (pc' := 40) dX12_spreads_1.1.2.2.2 rfl ?_
          refine zW_irem (pc' := 41) (by omega) (by omega) dX12_spreads_1.2.1.1.1 rfl ?_
          refine zW_iconst (pc' := 42) dX12_spreads_1.2.1.1.2 rfl ?_
          refine zW_isub (pc' := 43) dX12_spreads_1.2.1.2.1 rfl ?_
          refine zW_istore (ls' := [_, _, _, _, _, _, _, _, _, _, _, _]) (pc' := 45) dX12_spreads_1.2.1.2.2 (by decide) rfl rfl rfl ?_
          refine zW_iload (pc' := 47) dX12_spreads_1.2.2.1.1 rfl rfl ?_
          refine zW_iconst (pc' := 48) dX12_spreads_1.2.2.1.2 rfl ?_
          refine zW_idiv (pc' := 49) (by omega) (by omega) dX12_spreads_1.2.2.2.1 rfl ?_
          refine zW_iconst (pc' := 50) dX12_spreads_1.2.2.2.2 rfl ?_
          refine zW_isub (pc' := 51) dX12_spreads_2.1.1.1.1 rfl ?_
          refine zW_istore (ls' := [_, _, _, _, _, _, _, _, _, _, _, _]) (pc' := 53) dX12_spreads_2.1.1.1.2 (by decide) rfl rfl rfl ?_
          refine zW_aload_n (pc' := 54) dX12_spreads_2.1.1.2.1 rfl rfl ?_
          refine zG_ref (pc' := 57) 26 fg_X12_87 tb0 rfl dX12_spreads_2.1.1.2.2 rfl ?_
          refine zW_iload (pc' := 59) dX12_spreads_2.1.2.1.1 rfl rfl ?_
          refine zV_ialdI (pc' := 60) hF (by decide) (by decide) tb26 (by omega) dX12_spreads_2.1.2.1.2 (by decide) rfl (fun e59 => ?_)
          refine zW_bipush (pc' := 62) dX12_spreads_2.1.2.2.1 rfl rfl ?_
          refine zW_iremQ (pc' := 63) ⟨by omega, by omega⟩ (by omega) dX12_spreads_2.1.2.2.2 rfl (fun v62 e62 => ?_)
          unfold rng at e62
          refine zW_iload (pc' := 65) dX12_spreads_2.2.1.1.1 rfl rfl ?_
          refine zW_iadd (pc' := 66) dX12_spreads_2.2.1.1.2 rfl ?_
          refine zV_anyI (fun v66 e66 => ?_)
          unfold rng at e66
          refine zW_istore (ls' := [_, _, _, _, _, _, _, _, _, _, _, _]) (pc' := 68) dX12_spreads_2.2.1.2.1 (by decide) rfl rfl rfl ?_
          refine zW_aload_n (pc' := 69) dX12_spreads_2.2.1.2.2 rfl rfl ?_
          refine zG_ref (pc' := 72) 26 fg_X12_87 tb0 rfl dX12_spreads_2.2.2.1.1 rfl ?_
          refine zW_iload (pc' := 74) dX12_spreads_2.2.2.1.2 rfl rfl ?_
          refine zV_ialdI (pc' := 75) hF (by decide) (by decide) tb26 (by omega) dX12_spreads_2.2.2.2.1 (by decide) rfl (fun e74 => ?_)
          refine zW_bipush (pc' := 77) dX12_spreads_2.2.2.2.2 rfl rfl ?_
          refine zW_idivC (pc' := 78) (by omega) dX12_spreads_3.1.1.1.1 rfl (fun v77 e77 => ?_)
          refine zW_iload (pc' := 80) dX12_spreads_3.1.1.1.2 rfl rfl ?_
          refine zW_iadd (pc' := 81) dX12_spreads_3.1.1.2.1 rfl ?_
          refine zV_anyI (fun v81 e81 => ?_)
          unfold rng at e81
          refine zW_istore (ls' := [_, _, _, _, _, _, _, _, _, _, _, _]) (pc' := 83) dX12_spreads_3.1.1.2.2 (by decide) rfl rfl rfl ?_
          refine zW_aload_n (pc' := 84) dX12_spreads_3.1.2.1.1 rfl rfl ?_
          refine zW_iload (pc' := 86) dX12_spreads_3.1.2.1.2 rfl rfl ?_
          refine zW_iload (pc' := 88) dX12_spreads_3.1.2.2.1 rfl rfl ?_
          refine cvI2 (pc' := 91) kX12_isSquare vX12_isSquare lk_X12_218 ⟨Nat.le_of_ble_eq_true rfl, Nat.le_of_ble_eq_true rfl⟩ tb0 vq12 rfl rfl (s_X12_isSquare hK hF _ ⟨by omega, by omega⟩ _ ⟨by omega, by omega⟩) dX12_spreads_3.1.2.2.2 (Nat.le_of_ble_eq_true rfl) rfl ?_
          rintro r88 z88 ⟨hz88, p88⟩; subst z88
          refine zV_if_eq (tgt := 168) (pc' := 94) dX12_spreads_3.2.1.1.1 rfl rfl ⟨by omega, by omega⟩ (fun c91 => ?_) (fun c91 => ?_)
          · refine zW_iinc (ls' := [_, _, _, _, _, _, _, _, _, _, _, _]) (pc' := 171) dX12_spreads_6.1.1.1 rfl (by decide) rfl rfl rfl ?_
            refine zV_goto 30 dX12_spreads_6.1.1.2 rfl ?_
            refine zV_clr 7 (ls' := [_, _, _, _, _, _, _, _, _, _, _, _]) rfl ?_
            refine zV_clr 8 (ls' := [_, _, _, _, _, _, _, _, _, _, _, _]) rfl ?_
            refine zV_clr 9 (ls' := [_, _, _, _, _, _, _, _, _, _, _, _]) rfl ?_
            refine zV_clr 10 (ls' := [_, _, _, _, _, _, _, _, _, _, _, _]) rfl ?_
            exact k30 _ _ _ _ hF (by omega) (by omega) (by omega) (by omega) (by omega) (by omega)
          · refine zW_iload_n (pc' := 95) dX12_spreads_3.2.1.1.2 rfl rfl ?_
            refine zV_ifQ_ne (tgt := 111) (pc' := 98) dX12_spreads_3.2.1.2.1 rfl rfl ?_ ?_
            · exact k111 _ _ _ _ _ _ _ _ hF (by omega) (by omega) (by omega) (by omega) (by omega) (by omega) (by omega) (by omega) (by omega) (by omega) (by omega) (by omega)
            · refine zW_iload (pc' := 100) dX12_spreads_3.2.1.2.2 rfl rfl ?_
              refine zV_if_eq (tgt := 111) (pc' := 103) dX12_spreads_3.2.2.1.1 rfl rfl ⟨by omega, by omega⟩ (fun c100 => ?_) (fun c100 => ?_)
              · exact k111 _ _ _ _ _ _ _ _ hF (by omega) (by omega) (by omega) (by omega) (by omega) (by omega) (by omega) (by omega) (by omega) (by omega) (by omega) (by omega)
              · refine zW_iload (pc' := 105) dX12_spreads_3.2.2.1.2 rfl rfl ?_
                refine zV_if_eq (tgt := 111) (pc' := 108) dX12_spreads_3.2.2.2.1 rfl rfl ⟨by omega, by omega⟩ (fun c105 => ?_) (fun c105 => ?_)
                · exact k111 _ _ _ _ _ _ _ _ hF (by omega) (by omega) (by omega) (by omega) (by omega) (by omega) (by omega) (by omega) (by omega) (by omega) (by omega) (by omega)
                · refine zV_goto 168 dX12_spreads_3.2.2.2.2 rfl ?_
                  refine zW_iinc (ls' := [_, _, _, _, _, _, _, _, _, _, _, _]) (pc' := 171) dX12_spreads_6.1.1.1 rfl (by decide) rfl rfl rfl ?_
                  refine zV_goto 30 dX12_spreads_6.1.1.2 rfl ?_
                  refine zV_clr 7 (ls' := [_, _, _, _, _, _, _, _, _, _, _, _]) rfl ?_
                  refine zV_clr 8 (ls' := [_, _, _, _, _, _, _, _, _, _, _, _]) rfl ?_
                  refine zV_clr 9 (ls' := [_, _, _, _, _, _, _, _, _, _, _, _]) rfl ?_
                  refine zV_clr 10 (ls' := [_, _, _, _, _, _, _, _, _, _, _, _]) rfl ?_
                  exact k30 _ _ _ _ hF (by omega) (by omega) (by omega) (by omega) (by omega) (by omega)
      · intro v4 v5 v6 v7 v8 v9 v10 h hF g0 g1 g2 g3 g4 g5 g6 g7 g8 gc0 gc1 hm
        refine zW_bipush (pc' := 113) dX12_spreads_4.1.1.1.1 rfl rfl ?_
        refine zW_iload (pc' := 115) dX12_spreads_4.1.1.1.2 rfl rfl ?_
        refine zW_imul (pc' := 116) dX12_spreads_4.1.1.2.1 rfl ?_
        refine zW_iload (pc' := 118) dX12_spreads_4.1.1.2.2 rfl rfl ?_
        refine zW_iadd (pc' := 119) dX12_spreads_4.1.2.1.1 rfl ?_
        refine zW_istore (ls' := [_, _, _, _, _, _, _, _, _, _, _, _]) (pc' := 121) dX12_spreads_4.1.2.1.2 (by decide) rfl rfl rfl ?_
        refine zW_aload_n (pc' := 122) dX12_spreads_4.1.2.2.1 rfl rfl ?_
        refine zG_ref (pc' := 125) 24 fg_X12_81 tb0 rfl dX12_spreads_4.1.2.2.2 rfl ?_
        refine zW_iload (pc' := 127) dX12_spreads_4.2.1.1.1 rfl rfl ?_
        refine zV_zald (pc' := 128) tb24 (by omega) dX12_spreads_4.2.1.1.2 (by decide) rfl ?_
        refine zV_ifQ_eq (tgt := 168) (pc' := 131) dX12_spreads_4.2.1.2.1 rfl rfl ?_ ?_
        · refine zW_iinc (ls' := [_, _, _, _, _, _, _, _, _, _, _, _]) (pc' := 171) dX12_spreads_6.1.1.1 rfl (by decide) rfl rfl rfl ?_
          refine zV_goto 30 dX12_spreads_6.1.1.2 rfl ?_
          refine zV_clr 7 (ls' := [_, _, _, _, _, _, _, _, _, _, _, _]) rfl ?_
          refine zV_clr 8 (ls' := [_, _, _, _, _, _, _, _, _, _, _, _]) rfl ?_
          refine zV_clr 9 (ls' := [_, _, _, _, _, _, _, _, _, _, _, _]) rfl ?_
          refine zV_clr 10 (ls' := [_, _, _, _, _, _, _, _, _, _, _, _]) rfl ?_
          refine zV_clr 11 (ls' := [_, _, _, _, _, _, _, _, _, _, _, _]) rfl ?_
          exact k30 _ _ _ _ hF (by omega) (by omega) (by omega) (by omega) (by omega) (by omega)
        · refine zW_aload_n (pc' := 132) dX12_spreads_4.2.1.2.2 rfl rfl ?_
          refine zG_ref (pc' := 135) 25 fg_X12_84 tb0 rfl dX12_spreads_4.2.2.1.1 rfl ?_
          refine zW_iload (pc' := 137) dX12_spreads_4.2.2.1.2 rfl rfl ?_
          refine zV_ialdI (pc' := 138) hF (by decide) (by decide) tb25 (by omega) dX12_spreads_4.2.2.2.1 (by decide) rfl (fun e137 => ?_)
          refine zW_iconst (pc' := 139) dX12_spreads_4.2.2.2.2 rfl ?_
          refine zV_cm_eq (tgt := 145) (pc' := 142) dX12_spreads_5.1.1.1.1 rfl rfl ⟨by omega, by omega⟩ ⟨by omega, by omega⟩ (fun c139 => ?_) (fun c139 => ?_)
          · have hq1 : cntN (h 25) 256 < 256 := cntN_lt (by omega) c139
            refine zW_aload_n (pc' := 146) dX12_spreads_5.1.1.2.1 rfl rfl ?_
            refine zG_ref (pc' := 149) 25 fg_X12_84 tb0 rfl dX12_spreads_5.1.1.2.2 rfl ?_
            refine zW_iload (pc' := 151) dX12_spreads_5.1.2.1.1 rfl rfl ?_
            refine zW_iload_n (pc' := 152) dX12_spreads_5.1.2.1.2 rfl rfl ?_
            obtain ⟨ye, hye⟩ : ∃ z : Hp, z = h := ⟨_, rfl⟩
            refine zS_i (pc' := 153) hF sr25 tb25 (by omega) dX12_spreads_5.1.2.2.1 (by decide) rfl (fun h i152 hF a152 b152 w152 => ?_)
            have z152 : cntN (h 25) 256 = cntN (ye 25) 256 + 1 := by rw [w152, b152 ⟨by omega, by omega⟩, hye]; exact cntN_set (by omega) c139 (by omega)
            rw [hye] at z152
            refine zW_aload_n (pc' := 154) dX12_spreads_5.1.2.2.2 rfl rfl ?_
            refine zG_ref (pc' := 157) 26 fg_X12_87 tb0 rfl dX12_spreads_5.2.1.1.1 rfl ?_
            refine zW_iload (pc' := 159) dX12_spreads_5.2.1.1.2 rfl rfl ?_
            refine zW_iload (pc' := 161) dX12_spreads_5.2.1.2.1 rfl rfl ?_
            obtain ⟨yf, hyf⟩ : ∃ z : Hp, z = h := ⟨_, rfl⟩
            refine zS_i (pc' := 162) hF sr26 tb26 (by omega) dX12_spreads_5.2.1.2.2 (by decide) rfl (fun h i161 hF a161 b161 w161 => ?_)
            have z161 : cntN (h 25) 256 = cntN (yf 25) 256 := by rw [w161, hyf]; exact cntN_oth (by decide)
            rw [hyf] at z161
            refine zW_iload (pc' := 164) dX12_spreads_5.2.2.1.1 rfl rfl ?_
            refine zW_iconst (pc' := 165) dX12_spreads_5.2.2.1.2 rfl ?_
            refine zW_iadd (pc' := 166) dX12_spreads_5.2.2.2.1 rfl ?_
            refine zW_istore (ls' := [_, _, _, _, _, _, _, _, _, _, _, _]) (pc' := 168) dX12_spreads_5.2.2.2.2 (by decide) rfl rfl rfl ?_
            refine zW_iinc (ls' := [_, _, _, _, _, _, _, _, _, _, _, _]) (pc' := 171) dX12_spreads_6.1.1.1 rfl (by decide) rfl rfl rfl ?_
            refine zV_goto 30 dX12_spreads_6.1.1.2 rfl ?_
            refine zV_clr 7 (ls' := [_, _, _, _, _, _, _, _, _, _, _, _]) rfl ?_
            refine zV_clr 8 (ls' := [_, _, _, _, _, _, _, _, _, _, _, _]) rfl ?_
            refine zV_clr 9 (ls' := [_, _, _, _, _, _, _, _, _, _, _, _]) rfl ?_
            refine zV_clr 10 (ls' := [_, _, _, _, _, _, _, _, _, _, _, _]) rfl ?_
            refine zV_clr 11 (ls' := [_, _, _, _, _, _, _, _, _, _, _, _]) rfl ?_
            exact k30 _ _ _ _ hF (by omega) (by omega) (by omega) (by omega) (by omega) (by omega)
          · refine zV_goto 168 dX12_spreads_5.1.1.1.2 rfl ?_
            refine zW_iinc (ls' := [_, _, _, _, _, _, _, _, _, _, _, _]) (pc' := 171) dX12_spreads_6.1.1.1 rfl (by decide) rfl rfl rfl ?_
            refine zV_goto 30 dX12_spreads_6.1.1.2 rfl ?_
            refine zV_clr 7 (ls' := [_, _, _, _, _, _, _, _, _, _, _, _]) rfl ?_
            refine zV_clr 8 (ls' := [_, _, _, _, _, _, _, _, _, _, _, _]) rfl ?_
            refine zV_clr 9 (ls' := [_, _, _, _, _, _, _, _, _, _, _, _]) rfl ?_
            refine zV_clr 10 (ls' := [_, _, _, _, _, _, _, _, _, _, _, _]) rfl ?_
            refine zV_clr 11 (ls' := [_, _, _, _, _, _, _, _, _, _, _, _]) rfl ?_
            exact k30 _ _ _ _ hF (by omega) (by omega) (by omega) (by omega) (by omega) (by omega)
  refine zM_of [some (.inr (.inr 0)), some (.inl x1), some (.inl x2), some (.inl x3), none, none, none, none, none, none, none, none] 8 rfl rfl (Nat.le_of_ble_eq_true rfl) rfl ?_
  refine zW_aload_n (pc' := 1) dX12_spreads_0.1.1.1.1 rfl rfl ?_
  refine zG_ref (pc' := 4) 25 fg_X12_84 tb0 rfl dX12_spreads_0.1.1.1.2 rfl ?_
  refine zW_iload_n (pc' := 5) dX12_spreads_0.1.1.2.1 rfl rfl ?_
  refine zW_iload_n (pc' := 6) dX12_spreads_0.1.1.2.2 rfl rfl ?_
  obtain ⟨yc, hyc⟩ : ∃ z : Hp, z = h := ⟨_, rfl⟩
  refine zS_i (pc' := 7) hF sr25 tb25 (by omega) dX12_spreads_0.1.2.1.1 (by decide) rfl (fun h i6 hF a6 b6 w6 => ?_)
  have z6 : cntN (h 25) 256 = cntN (yc 25) 256 + 1 := by rw [w6, b6 ⟨by omega, by omega⟩, hyc]; exact cntN_set (by omega) hp (by omega)
  refine zW_aload_n (pc' := 8) dX12_spreads_0.1.2.1.2 rfl rfl ?_
  refine zG_ref (pc' := 11) 26 fg_X12_87 tb0 rfl dX12_spreads_0.1.2.2.1 rfl ?_
  refine zW_iconst (pc' := 12) dX12_spreads_0.1.2.2.2 rfl ?_
  refine zW_iload_n (pc' := 13) dX12_spreads_0.2.1.1.1 rfl rfl ?_
  obtain ⟨yd, hyd⟩ : ∃ z : Hp, z = h := ⟨_, rfl⟩
  refine zS_i (pc' := 14) hF sr26 tb26 (by omega) dX12_spreads_0.2.1.1.2 (by decide) rfl (fun h i13 hF a13 b13 w13 => ?_)
  have z13 : cntN (h 25) 256 = cntN (yd 25) 256 := by rw [w13, hyd]; exact cntN_oth (by decide)
  rw [hyd] at z13
  refine zW_iconst (pc' := 15) dX12_spreads_0.2.1.2.1 rfl ?_
  refine zW_istore (ls' := [_, _, _, _, _, _, _, _, _, _, _, _]) (pc' := 17) dX12_spreads_0.2.1.2.2 (by decide) rfl rfl rfl ?_
  refine zW_iconst (pc' := 18) dX12_spreads_0.2.2.1.1 rfl ?_
  refine zW_istore (ls' := [_, _, _, _, _, _, _, _, _, _, _, _]) (pc' := 20) dX12_spreads_0.2.2.1.2 (by decide) rfl rfl rfl ?_
  exact (main 10000000000000000000000000000000000000000).1 _ _ _ hF (by omega) (by omega) (by omega) (by omega)

abbrev q_X12_gathers (b : Bd) (κ : Hp) (x1 : Int) : Int → Hp → Prop := fun r h' => Fr b κ h' ∧ ((0 ≤ r) ∧ (r ≤ 256))
set_option maxHeartbeats 4000000 in
set_option maxRecDepth 20000 in
theorem s_X12_gathers {G : Ga} {b : Bd} {κ h : Hp} (hK : KR κ) (hF : Fr b κ h) (x1 : Int) : zM G mX12_gathers yX12_gathers [.inr (.inr 0), .inl x1] h (q_X12_gathers b κ x1) := by
  have main : ∀ N : Nat, (∀ (v2 : Int) (h : Hp), Fr b κ h → (0 ≤ v2 ∧ v2 ≤ 256) → 711048 + 53 * (256 - v2) + 52 < (N : Int) → zV G mX12_gathers (q_X12_gathers b κ x1) 2 [some (.inr (.inr 0)), some (.inl x1), some (.inl v2), none] [] h) ∧ (∀ (v2 v3 : Int) (h : Hp), Fr b κ h → (0 ≤ v2 ∧ v2 ≤ 256) → (0 ≤ v3 ∧ v3 ≤ 256) → (v2 ≤ v3) → 615330 + 53 * (256 - v3) + 45 < (N : Int) → zV G mX12_gathers (q_X12_gathers b κ x1) 26 [some (.inr (.inr 0)), some (.inl x1), some (.inl v2), some (.inl v3)] [] h) := by
    intro N
    induction N with
    | zero =>
      refine ⟨?_, ?_⟩
      · intro v2 h hF g0 hm
        exfalso; omega
      · intro v2 v3 h hF g0 g1 gc0 hm
        exfalso; omega
    | succ N ih =>
      obtain ⟨k2, k26⟩ := ih
      refine ⟨?_, ?_⟩
      · intro v2 h hF g0 hm
        refine zW_iload_n (pc' := 3) dX12_gathers_0.1.1.2.1 rfl rfl ?_
        refine zW_sipush (pc' := 6) dX12_gathers_0.1.1.2.2 rfl rfl ?_
        refine zV_cm_ge (tgt := 22) (pc' := 9) dX12_gathers_0.1.2.1.1 rfl rfl ⟨by omega, by omega⟩ ⟨by omega, by omega⟩ (fun c6 => ?_) (fun c6 => ?_)
        · refine zW_iconst (pc' := 23) dX12_gathers_0.2.2.1.1 rfl ?_
          refine zW_istore_n (ls' := [_, _, _, _]) (pc' := 24) dX12_gathers_0.2.2.1.2 (by decide) rfl rfl rfl ?_
          refine zW_iconst (pc' := 25) dX12_gathers_0.2.2.2.1 rfl ?_
          refine zW_istore_n (ls' := [_, _, _, _]) (pc' := 26) dX12_gathers_0.2.2.2.2 (by decide) rfl rfl rfl ?_
          exact k26 _ _ _ hF (by omega) (by omega) (by omega) (by omega)
        · refine zW_aload_n (pc' := 10) dX12_gathers_0.1.2.1.2 rfl rfl ?_
          refine zG_ref (pc' := 13) 25 fg_X12_84 tb0 rfl dX12_gathers_0.1.2.2.1 rfl ?_
          refine zW_iload_n (pc' := 14) dX12_gathers_0.1.2.2.2 rfl rfl ?_
          refine zW_iconst (pc' := 15) dX12_gathers_0.2.1.1.1 rfl ?_
          refine zS_i (pc' := 16) hF sr25 tb25 (by omega) dX12_gathers_0.2.1.1.2 (by decide) rfl (fun h i15 hF a15 b15 w15 => ?_)
          refine zW_iinc (ls' := [_, _, _, _]) (pc' := 19) dX12_gathers_0.2.1.2.1 rfl (by decide) rfl rfl rfl ?_
          refine zV_goto 2 dX12_gathers_0.2.1.2.2 rfl ?_
          exact k2 _ _ hF (by omega) (by omega)
      · intro v2 v3 h hF g0 g1 gc0 hm
        refine zW_iload_n (pc' := 27) dX12_gathers_1.1.1.1.1 rfl rfl ?_
        refine zW_sipush (pc' := 30) dX12_gathers_1.1.1.1.2 rfl rfl ?_
        refine zV_cm_ge (tgt := 85) (pc' := 33) dX12_gathers_1.1.1.2.1 rfl rfl ⟨by omega, by omega⟩ ⟨by omega, by omega⟩ (fun c30 => ?_) (fun c30 => ?_)
        · refine zW_iload_n (pc' := 86) dX12_gathers_3.2.1 rfl rfl ?_
          exact zV_iret rfl dX12_gathers_3.2.2 ⟨hF, by omega⟩
        · refine zW_aload_n (pc' := 34) dX12_gathers_1.1.1.2.2 rfl rfl ?_
          refine zG_ref (pc' := 37) 24 fg_X12_81 tb0 rfl dX12_gathers_1.1.2.1.1 rfl ?_
          refine zW_iload_n (pc' := 38) dX12_gathers_1.1.2.1.2 rfl rfl ?_
          refine zV_zald (pc' := 39) tb24 (by omega) dX12_gathers_1.1.2.2.1 (by decide) rfl ?_
          refine zV_ifQ_eq (tgt := 79) (pc' := 42) dX12_gathers_1.1.2.2.2 rfl rfl ?_ ?_
          · refine zW_iinc (ls' := [_, _, _, _]) (pc' := 82) dX12_gathers_3.1.1.2 rfl (by decide) rfl rfl rfl ?_
            refine zV_goto 26 dX12_gathers_3.1.2 rfl ?_
            exact k26 _ _ _ hF (by omega) (by omega) (by omega) (by omega)
          · refine zW_aload_n (pc' := 43) dX12_gathers_1.2.1.1.1 rfl rfl ?_
            refine zG_ref (pc' := 46) 25 fg_X12_84 tb0 rfl dX12_gathers_1.2.1.1.2 rfl ?_
            refine zW_iload_n (pc' := 47) dX12_gathers_1.2.1.2.1 rfl rfl ?_
            refine zV_ialdI (pc' := 48) hF (by decide) (by decide) tb25 (by omega) dX12_gathers_1.2.1.2.2 (by decide) rfl (fun e47 => ?_)
            refine zW_iconst (pc' := 49) dX12_gathers_1.2.2.1.1 rfl ?_
            refine zV_cm_eq (tgt := 55) (pc' := 52) dX12_gathers_1.2.2.1.2 rfl rfl ⟨by omega, by omega⟩ ⟨by omega, by omega⟩ (fun c49 => ?_) (fun c49 => ?_)
            · refine zW_aload_n (pc' := 56) dX12_gathers_1.2.2.2.2 rfl rfl ?_
              refine zG_ref (pc' := 59) 28 fg_X12_93 tb0 rfl dX12_gathers_2.1.1.1.1 rfl ?_
              refine zW_iload_n (pc' := 60) dX12_gathers_2.1.1.1.2 rfl rfl ?_
              refine zW_iload_n (pc' := 61) dX12_gathers_2.1.1.2.1 rfl rfl ?_
              refine zS_i (pc' := 62) hF sr28 tb28 (by omega) dX12_gathers_2.1.1.2.2 (by decide) rfl (fun h i61 hF a61 b61 w61 => ?_)
              have hgp : h 25 v3.toNat = -1 := by rw [w61]; exact (zwr_ne (Or.inl (by decide))).trans c49
              refine zW_aload_n (pc' := 63) dX12_gathers_2.1.2.1.1 rfl rfl ?_
              refine zG_ref (pc' := 66) 27 fg_X12_90 tb0 rfl dX12_gathers_2.1.2.1.2 rfl ?_
              refine zW_iload_n (pc' := 67) dX12_gathers_2.1.2.2.1 rfl rfl ?_
              refine zW_aload_n (pc' := 68) dX12_gathers_2.1.2.2.2 rfl rfl ?_
              refine zW_iload_n (pc' := 69) dX12_gathers_2.2.1.1.1 rfl rfl ?_
              refine zW_iload_n (pc' := 70) dX12_gathers_2.2.1.1.2 rfl rfl ?_
              refine zW_iload_n (pc' := 71) dX12_gathers_2.2.1.2.1 rfl rfl ?_
              refine cvI3 (pc' := 74) kX12_spreads vX12_spreads lk_X12_389 ⟨Nat.le_of_ble_eq_true rfl, Nat.le_of_ble_eq_true rfl⟩ tb0 vq12 rfl rfl (s_X12_spreads hK hF _ ⟨by omega, by omega⟩ _ ⟨by omega, by omega⟩ _ hgp) dX12_gathers_2.2.1.2.2 (Nat.le_of_ble_eq_true rfl) rfl ?_
              rintro r71 h ⟨hF, p71⟩
              refine zS_i (pc' := 75) hF sr27 tb27 (by omega) dX12_gathers_2.2.2.1.1 (by decide) rfl (fun h i74 hF a74 b74 w74 => ?_)
              refine zW_iload_n (pc' := 76) dX12_gathers_2.2.2.1.2 rfl rfl ?_
              refine zW_iconst (pc' := 77) dX12_gathers_2.2.2.2.1 rfl ?_
              refine zW_iadd (pc' := 78) dX12_gathers_2.2.2.2.2 rfl ?_
              refine zW_istore_n (ls' := [_, _, _, _]) (pc' := 79) dX12_gathers_3.1.1.1 (by decide) rfl rfl rfl ?_
              refine zW_iinc (ls' := [_, _, _, _]) (pc' := 82) dX12_gathers_3.1.1.2 rfl (by decide) rfl rfl rfl ?_
              refine zV_goto 26 dX12_gathers_3.1.2 rfl ?_
              exact k26 _ _ _ hF (by omega) (by omega) (by omega) (by omega)
            · refine zV_goto 79 dX12_gathers_1.2.2.2.1 rfl ?_
              refine zW_iinc (ls' := [_, _, _, _]) (pc' := 82) dX12_gathers_3.1.1.2 rfl (by decide) rfl rfl rfl ?_
              refine zV_goto 26 dX12_gathers_3.1.2 rfl ?_
              exact k26 _ _ _ hF (by omega) (by omega) (by omega) (by omega)
  refine zM_of [some (.inr (.inr 0)), some (.inl x1), none, none] 2 rfl rfl (Nat.le_of_ble_eq_true rfl) rfl ?_
  refine zW_iconst (pc' := 1) dX12_gathers_0.1.1.1.1 rfl ?_
  refine zW_istore_n (ls' := [_, _, _, _]) (pc' := 2) dX12_gathers_0.1.1.1.2 (by decide) rfl rfl rfl ?_
  exact (main 10000000000000000000000000000000000000000).1 _ _ hF (by omega) (by omega)

abbrev q_X12_largest (κ h : Hp) (x1 : Int) : Int → Hp → Prop := fun r h' => h' = h ∧ ((-1 ≤ r) ∧ (r ≤ 255))
set_option maxHeartbeats 4000000 in
set_option maxRecDepth 20000 in
theorem s_X12_largest {G : Ga} {b : Bd} {κ h : Hp} (hK : KR κ) (hF : Fr b κ h) (x1 : Int) (hx1 : 0 ≤ x1 ∧ x1 ≤ 256) : zM G mX12_largest yX12_largest [.inr (.inr 0), .inl x1] h (q_X12_largest κ h x1) := by
  have main : ∀ N : Nat, (∀ (v2 v3 : Int) , (-1 ≤ v2 ∧ v2 ≤ 255) → (0 ≤ v3 ∧ v3 ≤ 256) → 130548 + 23 * (256 - v3) + 22 < (N : Int) → zV G mX12_largest (q_X12_largest κ h x1) 4 [some (.inr (.inr 0)), some (.inl x1), some (.inl v2), some (.inl v3)] [] h) := by
    intro N
    induction N with
    | zero =>
      intro v2 v3 g0 g1 hm
      exfalso; omega
    | succ N ih =>
      have k4 := ih
      intro v2 v3 g0 g1 hm
      refine zW_iload_n (pc' := 5) dX12_largest_0.1.2.1.1 rfl rfl ?_
      refine zW_iload_n (pc' := 6) dX12_largest_0.1.2.1.2 rfl rfl ?_
      refine zV_cm_ge (tgt := 37) (pc' := 9) dX12_largest_0.1.2.2.1 rfl rfl ⟨by omega, by omega⟩ ⟨by omega, by omega⟩ (fun c6 => ?_) (fun c6 => ?_)
      · refine zW_iload_n (pc' := 38) dX12_largest_1.2.2.1 rfl rfl ?_
        exact zV_iret rfl dX12_largest_1.2.2.2 ⟨rfl, by omega⟩
      · refine zW_iload_n (pc' := 10) dX12_largest_0.1.2.2.2 rfl rfl ?_
        refine zW_iconst (pc' := 11) dX12_largest_0.2.1.1.1 rfl ?_
        refine zV_cm_eq (tgt := 29) (pc' := 14) dX12_largest_0.2.1.1.2 rfl rfl ⟨by omega, by omega⟩ ⟨by omega, by omega⟩ (fun c11 => ?_) (fun c11 => ?_)
        · refine zW_iload_n (pc' := 30) dX12_largest_1.1.2.1 rfl rfl ?_
          refine zW_istore_n (ls' := [_, _, _, _]) (pc' := 31) dX12_largest_1.1.2.2 (by decide) rfl rfl rfl ?_
          refine zW_iinc (ls' := [_, _, _, _]) (pc' := 34) dX12_largest_1.2.1.1 rfl (by decide) rfl rfl rfl ?_
          refine zV_goto 4 dX12_largest_1.2.1.2 rfl ?_
          exact k4 _ _ (by omega) (by omega) (by omega)
        · refine zW_aload_n (pc' := 15) dX12_largest_0.2.1.2.1 rfl rfl ?_
          refine zG_ref (pc' := 18) 27 fg_X12_90 tb0 rfl dX12_largest_0.2.1.2.2 rfl ?_
          refine zW_iload_n (pc' := 19) dX12_largest_0.2.2.1.1 rfl rfl ?_
          refine zV_iald (pc' := 20) tb27 (by omega) dX12_largest_0.2.2.1.2 (by decide) rfl ?_
          refine zW_aload_n (pc' := 21) dX12_largest_0.2.2.2.1 rfl rfl ?_
          refine zG_ref (pc' := 24) 27 fg_X12_90 tb0 rfl dX12_largest_0.2.2.2.2 rfl ?_
          refine zW_iload_n (pc' := 25) dX12_largest_1.1.1.1.1 rfl rfl ?_
          refine zV_iald (pc' := 26) tb27 (by omega) dX12_largest_1.1.1.1.2 (by decide) rfl ?_
          refine zV_cmQ_le (tgt := 31) (pc' := 29) dX12_largest_1.1.1.2 rfl rfl ?_ ?_
          · refine zW_iinc (ls' := [_, _, _, _]) (pc' := 34) dX12_largest_1.2.1.1 rfl (by decide) rfl rfl rfl ?_
            refine zV_goto 4 dX12_largest_1.2.1.2 rfl ?_
            exact k4 _ _ (by omega) (by omega) (by omega)
          · refine zW_iload_n (pc' := 30) dX12_largest_1.1.2.1 rfl rfl ?_
            refine zW_istore_n (ls' := [_, _, _, _]) (pc' := 31) dX12_largest_1.1.2.2 (by decide) rfl rfl rfl ?_
            refine zW_iinc (ls' := [_, _, _, _]) (pc' := 34) dX12_largest_1.2.1.1 rfl (by decide) rfl rfl rfl ?_
            refine zV_goto 4 dX12_largest_1.2.1.2 rfl ?_
            exact k4 _ _ (by omega) (by omega) (by omega)
  refine zM_of [some (.inr (.inr 0)), some (.inl x1), none, none] 2 rfl rfl (Nat.le_of_ble_eq_true rfl) rfl ?_
  refine zW_iconst (pc' := 1) dX12_largest_0.1.1.1.1 rfl ?_
  refine zW_istore_n (ls' := [_, _, _, _]) (pc' := 2) dX12_largest_0.1.1.1.2 (by decide) rfl rfl rfl ?_
  refine zW_iconst (pc' := 3) dX12_largest_0.1.1.2.1 rfl ?_
  refine zW_istore_n (ls' := [_, _, _, _]) (pc' := 4) dX12_largest_0.1.1.2.2 (by decide) rfl rfl rfl ?_
  exact (main 10000000000000000000000000000000000000000) _ _ (by omega) (by omega) (by omega)

abbrev q_X12_ringOf (κ h : Hp) (x1 : Int) (x2 : Int) : Int → Hp → Prop := fun r h' => h' = h ∧ (True)
set_option maxHeartbeats 4000000 in
set_option maxRecDepth 20000 in
theorem s_X12_ringOf {G : Ga} {b : Bd} {κ h : Hp} (hK : KR κ) (hF : Fr b κ h) (x1 : Int) (hx1 : 0 ≤ x1 ∧ x1 ≤ 15 ∧ x1 - κ 0 11 ≤ -1) (x2 : Int) (hx2 : 0 ≤ x2 ∧ x2 ≤ 15 ∧ x2 - κ 0 12 ≤ -1) : zM G mX12_ringOf yX12_ringOf [.inr (.inr 0), .inl x1, .inl x2] h (q_X12_ringOf κ h x1 x2) := by
  have f_0_11 := KRw hK
  have f_0_12 := KRh hK
  refine zM_of [some (.inr (.inr 0)), some (.inl x1), some (.inl x2), none, none] 2 rfl rfl (Nat.le_of_ble_eq_true rfl) rfl ?_
  refine zW_iconst (pc' := 1) dX12_ringOf_0.1.1.1.1 rfl ?_
  refine zW_iload_n (pc' := 2) dX12_ringOf_0.1.1.1.2 rfl rfl ?_
  refine zW_imul (pc' := 3) dX12_ringOf_0.1.1.2.1 rfl ?_
  refine zW_iconst (pc' := 4) dX12_ringOf_0.1.1.2.2 rfl ?_
  refine zW_iadd (pc' := 5) dX12_ringOf_0.1.2.1.1 rfl ?_
  refine zW_aload_n (pc' := 6) dX12_ringOf_0.1.2.1.2 rfl rfl ?_
  refine zG_key (pc' := 9) hF rfl fg_X12_99 tb0 rfl dX12_ringOf_0.1.2.2.1 rfl ?_
  refine zW_isub (pc' := 10) dX12_ringOf_0.1.2.2.2 rfl ?_
  refine zW_istore_n (ls' := [_, _, _, _, _]) (pc' := 11) dX12_ringOf_0.2.1.1.1 (by decide) rfl rfl rfl ?_
  refine zW_iconst (pc' := 12) dX12_ringOf_0.2.1.1.2 rfl ?_
  refine zW_iload_n (pc' := 13) dX12_ringOf_0.2.1.2.1 rfl rfl ?_
  refine zW_imul (pc' := 14) dX12_ringOf_0.2.1.2.2 rfl ?_
  refine zW_iconst (pc' := 15) dX12_ringOf_0.2.2.1.1 rfl ?_
  refine zW_iadd (pc' := 16) dX12_ringOf_0.2.2.1.2 rfl ?_
  refine zW_aload_n (pc' := 17) dX12_ringOf_0.2.2.2.1 rfl rfl ?_
  refine zG_key (pc' := 20) hF rfl fg_X12_103 tb0 rfl dX12_ringOf_0.2.2.2.2 rfl ?_
  refine zW_isub (pc' := 21) dX12_ringOf_1.1.1.1.1 rfl ?_
  refine zW_istore (ls' := [_, _, _, _, _]) (pc' := 23) dX12_ringOf_1.1.1.1.2 (by decide) rfl rfl rfl ?_
  refine zW_iload_n (pc' := 24) dX12_ringOf_1.1.1.2.1 rfl rfl ?_
  refine zW_iload_n (pc' := 25) dX12_ringOf_1.1.1.2.2 rfl rfl ?_
  refine zW_imul (pc' := 26) dX12_ringOf_1.1.2.1.1 rfl ?_
  refine zW_iload (pc' := 28) dX12_ringOf_1.1.2.1.2 rfl rfl ?_
  refine zW_iload (pc' := 30) dX12_ringOf_1.1.2.2.1 rfl rfl ?_
  refine zW_imul (pc' := 31) dX12_ringOf_1.1.2.2.2 rfl ?_
  refine zW_iadd (pc' := 32) dX12_ringOf_1.2.1.1.1 rfl ?_
  refine zW_iconst (pc' := 33) dX12_ringOf_1.2.1.1.2 rfl ?_
  refine zW_imul (pc' := 34) dX12_ringOf_1.2.1.2.1 rfl ?_
  refine zW_aload_n (pc' := 35) dX12_ringOf_1.2.1.2.2 rfl rfl ?_
  refine zG_key (pc' := 38) hF rfl fg_X12_99 tb0 rfl dX12_ringOf_1.2.2.1.1 rfl ?_
  refine zW_aload_n (pc' := 39) dX12_ringOf_1.2.2.1.2 rfl rfl ?_
  refine zG_key (pc' := 42) hF rfl fg_X12_99 tb0 rfl dX12_ringOf_1.2.2.2.1 rfl ?_
  refine zW_imul (pc' := 43) dX12_ringOf_1.2.2.2.2 rfl ?_
  refine zW_aload_n (pc' := 44) dX12_ringOf_2.1.1.1 rfl rfl ?_
  refine zG_key (pc' := 47) hF rfl fg_X12_103 tb0 rfl dX12_ringOf_2.1.1.2 rfl ?_
  refine zW_aload_n (pc' := 48) dX12_ringOf_2.1.2.1 rfl rfl ?_
  refine zG_key (pc' := 51) hF rfl fg_X12_103 tb0 rfl dX12_ringOf_2.1.2.2 rfl ?_
  refine zW_imul (pc' := 52) dX12_ringOf_2.2.1.1 rfl ?_
  refine zW_iadd (pc' := 53) dX12_ringOf_2.2.1.2 rfl ?_
  have hm1 := mul_b f_0_11 f_0_11
  have hm2 := mul_b f_0_12 f_0_12
  refine zW_idivQ (pc' := 54) ⟨by omega, by omega⟩ (by omega) dX12_ringOf_2.2.2.1 rfl (fun v53 e53 => ?_)
  unfold rng at e53
  exact zV_iret rfl dX12_ringOf_2.2.2.2 ⟨rfl, trivial⟩

abbrev q_X12_marksFound (b : Bd) (κ : Hp) (x1 : Int) : Int → Hp → Prop := fun r h' => Fr b κ h' ∧ (True)
set_option maxHeartbeats 4000000 in
set_option maxRecDepth 20000 in
theorem s_X12_marksFound {G : Ga} {b : Bd} {κ h : Hp} (hK : KR κ) (hF : Fr b κ h) (x1 : Int) (hx1 : 1 ≤ x1 ∧ x1 ≤ 12) : zM G mX12_marksFound yX12_marksFound [.inr (.inr 0), .inl x1] h (q_X12_marksFound b κ x1) := by
  have f_0_11 := KRw hK
  have f_0_12 := KRh hK
  have main : ∀ N : Nat, (∀ (v2 : Int) (h : Hp), Fr b κ h → (0 ≤ v2 ∧ v2 ≤ 256) → 402480 + 40 * (256 - v2) + 39 < (N : Int) → zV G mX12_marksFound (q_X12_marksFound b κ x1) 2 [some (.inr (.inr 0)), some (.inl x1), some (.inl v2)] [] h) := by
    intro N
    induction N with
    | zero =>
      intro v2 h hF g0 hm
      exfalso; omega
    | succ N ih =>
      have k2 := ih
      intro v2 h hF g0 hm
      refine zW_iload_n (pc' := 3) dX12_marksFound_0.1.1.2.1 rfl rfl ?_
      refine zW_sipush (pc' := 6) dX12_marksFound_0.1.1.2.2 rfl rfl ?_
      refine zV_cm_ge (tgt := 65) (pc' := 9) dX12_marksFound_0.1.2.1.1 rfl rfl ⟨by omega, by omega⟩ ⟨by omega, by omega⟩ (fun c6 => ?_) (fun c6 => ?_)
      · exact zV_vret rfl dX12_marksFound_2.2.2.2 ⟨hF, trivial⟩
      · refine zW_aload_n (pc' := 10) dX12_marksFound_0.1.2.1.2 rfl rfl ?_
        refine zG_ref (pc' := 13) 24 fg_X12_81 tb0 rfl dX12_marksFound_0.1.2.2.1 rfl ?_
        refine zW_iload_n (pc' := 14) dX12_marksFound_0.1.2.2.2 rfl rfl ?_
        refine zW_aload_n (pc' := 15) dX12_marksFound_0.2.1.1.1 rfl rfl ?_
        refine zW_iload_n (pc' := 16) dX12_marksFound_0.2.1.1.2 rfl rfl ?_
        refine zW_bipush (pc' := 18) dX12_marksFound_0.2.1.2.1 rfl rfl ?_
        refine zW_irem (pc' := 19) (by omega) (by omega) dX12_marksFound_0.2.1.2.2 rfl ?_
        refine zW_iload_n (pc' := 20) dX12_marksFound_0.2.2.1.1 rfl rfl ?_
        refine zW_bipush (pc' := 22) dX12_marksFound_0.2.2.1.2 rfl rfl ?_
        refine zW_idiv (pc' := 23) (by omega) (by omega) dX12_marksFound_0.2.2.2.1 rfl ?_
        refine cvI2 (pc' := 26) kX12_isSquare vX12_isSquare lk_X12_218 ⟨Nat.le_of_ble_eq_true rfl, Nat.le_of_ble_eq_true rfl⟩ tb0 vq12 rfl rfl (s_X12_isSquare hK hF _ ⟨by omega, by omega⟩ _ ⟨by omega, by omega⟩) dX12_marksFound_0.2.2.2.2 (Nat.le_of_ble_eq_true rfl) rfl ?_
        rintro r23 z23 ⟨hz23, p23⟩; subst z23
        refine zV_if_eq (tgt := 57) (pc' := 29) dX12_marksFound_1.1.1.1.1 rfl rfl ⟨by omega, by omega⟩ (fun c26 => ?_) (fun c26 => ?_)
        · refine zW_iconst (pc' := 58) dX12_marksFound_2.1.2.2 rfl ?_
          refine zS_z (pc' := 59) hF sr24 tb24 (by omega) (by omega) dX12_marksFound_2.2.1.1 (by decide) rfl (fun h hF w58 => ?_)
          refine zW_iinc (ls' := [_, _, _]) (pc' := 62) dX12_marksFound_2.2.1.2 rfl (by decide) rfl rfl rfl ?_
          refine zV_goto 2 dX12_marksFound_2.2.2.1 rfl ?_
          exact k2 _ _ hF (by omega) (by omega)
        · refine zW_aload_n (pc' := 30) dX12_marksFound_1.1.1.1.2 rfl rfl ?_
          refine zW_iload_n (pc' := 31) dX12_marksFound_1.1.1.2.1 rfl rfl ?_
          refine zW_iconst (pc' := 32) dX12_marksFound_1.1.1.2.2 rfl ?_
          refine zW_isub (pc' := 33) dX12_marksFound_1.1.2.1.1 rfl ?_
          refine zW_iload_n (pc' := 34) dX12_marksFound_1.1.2.1.2 rfl rfl ?_
          refine zW_bipush (pc' := 36) dX12_marksFound_1.1.2.2.1 rfl rfl ?_
          refine zW_irem (pc' := 37) (by omega) (by omega) dX12_marksFound_1.1.2.2.2 rfl ?_
          refine zW_iload_n (pc' := 38) dX12_marksFound_1.2.1.1.1 rfl rfl ?_
          refine zW_bipush (pc' := 40) dX12_marksFound_1.2.1.1.2 rfl rfl ?_
          refine zW_idiv (pc' := 41) (by omega) (by omega) dX12_marksFound_1.2.1.2.1 rfl ?_
          refine zW_aload_n (pc' := 42) dX12_marksFound_1.2.1.2.2 rfl rfl ?_
          refine zW_iload_n (pc' := 43) dX12_marksFound_1.2.2.1.1 rfl rfl ?_
          refine zW_iconst (pc' := 44) dX12_marksFound_1.2.2.1.2 rfl ?_
          refine cvI2 (pc' := 47) kX12_numberOf vX12_numberOf lk_X12_206 ⟨Nat.le_of_ble_eq_true rfl, Nat.le_of_ble_eq_true rfl⟩ tb0 vq12 rfl rfl (s_X12_numberOf hK hF _ ⟨by omega, by omega⟩ _ ⟨by omega, by omega⟩) dX12_marksFound_1.2.2.2.1 (Nat.le_of_ble_eq_true rfl) rfl ?_
          rintro r44 z44 ⟨hz44, p44⟩; subst z44
          refine cvI4 (pc' := 50) kX12_isFound vX12_isFound lk_X12_263 ⟨Nat.le_of_ble_eq_true rfl, Nat.le_of_ble_eq_true rfl⟩ tb0 vq12 rfl rfl (s_X12_isFound hK hF _ ⟨by omega, by omega⟩ _ ⟨by omega, by omega, by omega⟩ _ ⟨by omega, by omega, by omega⟩ _) dX12_marksFound_1.2.2.2.2 (Nat.le_of_ble_eq_true rfl) rfl ?_
          rintro r47 h ⟨hF, p47⟩
          refine zV_if_eq (tgt := 57) (pc' := 53) dX12_marksFound_2.1.1.1 rfl rfl ⟨by omega, by omega⟩ (fun c50 => ?_) (fun c50 => ?_)
          · refine zW_iconst (pc' := 58) dX12_marksFound_2.1.2.2 rfl ?_
            refine zS_z (pc' := 59) hF sr24 tb24 (by omega) (by omega) dX12_marksFound_2.2.1.1 (by decide) rfl (fun h hF w58 => ?_)
            refine zW_iinc (ls' := [_, _, _]) (pc' := 62) dX12_marksFound_2.2.1.2 rfl (by decide) rfl rfl rfl ?_
            refine zV_goto 2 dX12_marksFound_2.2.2.1 rfl ?_
            exact k2 _ _ hF (by omega) (by omega)
          · refine zW_iconst (pc' := 54) dX12_marksFound_2.1.1.2 rfl ?_
            refine zV_goto 58 dX12_marksFound_2.1.2.1 rfl ?_
            refine zS_z (pc' := 59) hF sr24 tb24 (by omega) (by omega) dX12_marksFound_2.2.1.1 (by decide) rfl (fun h hF w58 => ?_)
            refine zW_iinc (ls' := [_, _, _]) (pc' := 62) dX12_marksFound_2.2.1.2 rfl (by decide) rfl rfl rfl ?_
            refine zV_goto 2 dX12_marksFound_2.2.2.1 rfl ?_
            exact k2 _ _ hF (by omega) (by omega)
  refine zM_of [some (.inr (.inr 0)), some (.inl x1), none] 1 rfl rfl (Nat.le_of_ble_eq_true rfl) rfl ?_
  refine zW_iconst (pc' := 1) dX12_marksFound_0.1.1.1.1 rfl ?_
  refine zW_istore_n (ls' := [_, _, _]) (pc' := 2) dX12_marksFound_0.1.1.1.2 (by decide) rfl rfl rfl ?_
  exact (main 10000000000000000000000000000000000000000) _ _ hF (by omega) (by omega)

abbrev q_X12_left (b : Bd) (κ : Hp) (x1 : Int) (x2 : Int) (x3 : Int) (x4 : Int) : Int → Hp → Prop := fun r h' => Fr b κ h' ∧ (True)
set_option maxHeartbeats 4000000 in
set_option maxRecDepth 20000 in
theorem s_X12_left {G : Ga} {b : Bd} {κ h : Hp} (hK : KR κ) (hF : Fr b.fo κ h) (x1 : Int) (hx1 : rng x1) (x2 : Int) (hx2 : rng x2) (x3 : Int) (hx3 : rng x3) (x4 : Int) (hx4 : rng x4) (hLv : LeavesOK b) : zM G mX12_left yX12_left [.inr (.inr 0), .inl x1, .inl x2, .inl x3, .inl x4] h (q_X12_left b.fo κ x1 x2 x3 x4) := by
  have f_0_11 := KRw hK
  have f_0_12 := KRh hK
  have f_0_14 := KRm hK
  unfold rng at hx1
  unfold rng at hx2
  unfold rng at hx3
  unfold rng at hx4
  refine zM_of [some (.inr (.inr 0)), some (.inl x1), some (.inl x2), some (.inl x3), some (.inl x4)] 0 rfl rfl (Nat.le_of_ble_eq_true rfl) rfl ?_
  refine zW_aload_n (pc' := 1) dX12_left_0.1.1.1.1 rfl rfl ?_
  refine zW_iload_n (pc' := 2) dX12_left_0.1.1.1.2 rfl rfl ?_
  refine cvI1 (pc' := 5) kX12_isRow vX12_isRow lk_X12_374 ⟨Nat.le_of_ble_eq_true rfl, Nat.le_of_ble_eq_true rfl⟩ tb0 vq12 rfl rfl (s_X12_isRow hK hF _ ⟨by omega, by omega⟩) dX12_left_0.1.1.2.1 (Nat.le_of_ble_eq_true rfl) rfl ?_
  rintro r2 z2 ⟨hz2, p2⟩; subst z2
  refine zV_if_eq (tgt := 27) (pc' := 8) dX12_left_0.1.1.2.2 rfl rfl ⟨by omega, by omega⟩ (fun c5 => ?_) (fun c5 => ?_)
  · refine zW_iconst (pc' := 28) dX12_left_0.2.2.2.1 rfl ?_
    exact zV_iret rfl dX12_left_0.2.2.2.2 ⟨hF, trivial⟩
  · refine zW_aload_n (pc' := 9) dX12_left_0.1.2.1.1 rfl rfl ?_
    refine zW_iload_n (pc' := 10) dX12_left_0.1.2.1.2 rfl rfl ?_
    refine zW_iload_n (pc' := 11) dX12_left_0.1.2.2.1 rfl rfl ?_
    refine cvI2 (pc' := 14) kX12_isSquare vX12_isSquare lk_X12_218 ⟨Nat.le_of_ble_eq_true rfl, Nat.le_of_ble_eq_true rfl⟩ tb0 vq12 rfl rfl (s_X12_isSquare hK hF _ ⟨by omega, by omega⟩ _ ⟨by omega, by omega⟩) dX12_left_0.1.2.2.2 (Nat.le_of_ble_eq_true rfl) rfl ?_
    rintro r11 z11 ⟨hz11, p11⟩; subst z11
    refine zV_if_eq (tgt := 27) (pc' := 17) dX12_left_0.2.1.1.1 rfl rfl ⟨by omega, by omega⟩ (fun c14 => ?_) (fun c14 => ?_)
    · refine zW_iconst (pc' := 28) dX12_left_0.2.2.2.1 rfl ?_
      exact zV_iret rfl dX12_left_0.2.2.2.2 ⟨hF, trivial⟩
    · refine zW_iload (pc' := 19) dX12_left_0.2.1.1.2 rfl rfl ?_
      refine zW_iconst (pc' := 20) dX12_left_0.2.1.2.1 rfl ?_
      refine zW_iconst (pc' := 21) dX12_left_0.2.1.2.2 rfl ?_
      refine csI3 (pc' := 24) kX12_in vX12_in lk_X12_140 ⟨Nat.le_of_ble_eq_true rfl, Nat.le_of_ble_eq_true rfl⟩ rfl (s_X12_inR hF _ ⟨by omega, by omega⟩ _ ⟨by omega, by omega⟩ _ ⟨by omega, by omega⟩) dX12_left_0.2.2.1.1 (Nat.le_of_ble_eq_true rfl) rfl ?_
      rintro r21 z21 ⟨hz21, p21⟩; subst z21
      refine zV_if_ne (tgt := 29) (pc' := 27) dX12_left_0.2.2.1.2 rfl rfl ⟨by omega, by omega⟩ (fun c24 => ?_) (fun c24 => ?_)
      · refine zW_aload_n (pc' := 30) dX12_left_1.1.1.1.1 rfl rfl ?_
        refine cvV0 (pc' := 33) kX12_leaves vX12_leaves lk_X12_377 ⟨Nat.le_of_ble_eq_true rfl, Nat.le_of_ble_eq_true rfl⟩ tb0 vq12 rfl rfl (hLv hK hF) dX12_left_1.1.1.1.2 (Nat.le_of_ble_eq_true rfl) rfl ?_
        rintro r30 h ⟨hF, p30⟩
        refine zW_aload_n (pc' := 34) dX12_left_1.1.1.2.1 rfl rfl ?_
        refine zW_iload_n (pc' := 35) dX12_left_1.1.1.2.2 rfl rfl ?_
        refine cvI1 (pc' := 38) kX12_isBehind vX12_isBehind lk_X12_380 ⟨Nat.le_of_ble_eq_true rfl, Nat.le_of_ble_eq_true rfl⟩ tb0 vq12 rfl rfl (s_X12_isBehind hK hF _ ⟨by omega, by omega⟩) dX12_left_1.1.2.1.1 (Nat.le_of_ble_eq_true rfl) rfl ?_
        rintro r35 z35 ⟨hz35, p35⟩; subst z35
        refine zV_if_ne (tgt := 57) (pc' := 41) dX12_left_1.1.2.1.2 rfl rfl ⟨by omega, by omega⟩ (fun c38 => ?_) (fun c38 => ?_)
        · refine zW_aload_n (pc' := 58) dX12_left_1.2.2.2.1 rfl rfl ?_
          refine zW_iload_n (pc' := 59) dX12_left_1.2.2.2.2 rfl rfl ?_
          refine zW_iload (pc' := 61) dX12_left_2.1.1.1 rfl rfl ?_
          refine zW_iload_n (pc' := 62) dX12_left_2.1.1.2 rfl rfl ?_
          refine zW_iload_n (pc' := 63) dX12_left_2.1.2 rfl rfl ?_
          refine cvI4 (pc' := 66) kX12_at vX12_at lk_X12_277 ⟨Nat.le_of_ble_eq_true rfl, Nat.le_of_ble_eq_true rfl⟩ tb0 vq12 rfl rfl (s_X12_at hK hF _ ⟨by omega, by omega⟩ _ ⟨by omega, by omega⟩ _ ⟨by omega, by omega, by omega⟩ _ ⟨by omega, by omega, by omega⟩) dX12_left_2.2.1 (Nat.le_of_ble_eq_true rfl) rfl ?_
          rintro r63 z63 ⟨hz63, p63⟩; subst z63
          exact zV_iret rfl dX12_left_2.2.2 ⟨hF, trivial⟩
        · refine zW_aload_n (pc' := 42) dX12_left_1.1.2.2.1 rfl rfl ?_
          refine zW_iload_n (pc' := 43) dX12_left_1.1.2.2.2 rfl rfl ?_
          refine zW_iload_n (pc' := 44) dX12_left_1.2.1.1.1 rfl rfl ?_
          refine cvI2 (pc' := 47) kX12_colourAt vX12_colourAt lk_X12_225 ⟨Nat.le_of_ble_eq_true rfl, Nat.le_of_ble_eq_true rfl⟩ tb0 vq12 rfl rfl (s_X12_colourAt hK hF _ ⟨by omega, by omega⟩ _ ⟨by omega, by omega⟩) dX12_left_1.2.1.1.2 (Nat.le_of_ble_eq_true rfl) rfl ?_
          rintro r44 z44 ⟨hz44, p44⟩; subst z44
          refine zW_iload (pc' := 49) dX12_left_1.2.1.2.1 rfl rfl ?_
          refine zV_cm_eq (tgt := 57) (pc' := 52) dX12_left_1.2.1.2.2 rfl rfl ⟨by omega, by omega⟩ ⟨by omega, by omega⟩ (fun c49 => ?_) (fun c49 => ?_)
          · refine zW_aload_n (pc' := 58) dX12_left_1.2.2.2.1 rfl rfl ?_
            refine zW_iload_n (pc' := 59) dX12_left_1.2.2.2.2 rfl rfl ?_
            refine zW_iload (pc' := 61) dX12_left_2.1.1.1 rfl rfl ?_
            refine zW_iload_n (pc' := 62) dX12_left_2.1.1.2 rfl rfl ?_
            refine zW_iload_n (pc' := 63) dX12_left_2.1.2 rfl rfl ?_
            refine cvI4 (pc' := 66) kX12_at vX12_at lk_X12_277 ⟨Nat.le_of_ble_eq_true rfl, Nat.le_of_ble_eq_true rfl⟩ tb0 vq12 rfl rfl (s_X12_at hK hF _ ⟨by omega, by omega⟩ _ ⟨by omega, by omega⟩ _ ⟨by omega, by omega, by omega⟩ _ ⟨by omega, by omega, by omega⟩) dX12_left_2.2.1 (Nat.le_of_ble_eq_true rfl) rfl ?_
            rintro r63 z63 ⟨hz63, p63⟩; subst z63
            exact zV_iret rfl dX12_left_2.2.2 ⟨hF, trivial⟩
          · refine zW_bipush (pc' := 54) dX12_left_1.2.2.1.1 rfl rfl ?_
            refine zV_goto 66 dX12_left_1.2.2.1.2 rfl ?_
            exact zV_iret rfl dX12_left_2.2.2 ⟨hF, trivial⟩
      · refine zW_iconst (pc' := 28) dX12_left_0.2.2.2.1 rfl ?_
        exact zV_iret rfl dX12_left_0.2.2.2.2 ⟨hF, trivial⟩

abbrev q_X12_found (b : Bd) (κ : Hp) (x1 : Int) (x2 : Int) : Int → Hp → Prop := fun r h' => Fr b κ h' ∧ (True)
set_option maxHeartbeats 4000000 in
set_option maxRecDepth 20000 in
theorem s_X12_found {G : Ga} {b : Bd} {κ h : Hp} (hK : KR κ) (hF : Fr b.fo κ h) (x1 : Int) (hx1 : rng x1) (x2 : Int) (hx2 : rng x2) (hLv : LeavesOK b) : zM G mX12_found yX12_found [.inr (.inr 0), .inl x1, .inl x2] h (q_X12_found b.fo κ x1 x2) := by
  have f_0_14 := KRm hK
  unfold rng at hx1
  unfold rng at hx2
  have main : ∀ N : Nat, (∀ (v3 v4 v5 v6 : Int) (h : Hp), Fr b.fo κ h → (1 ≤ x1 ∧ x1 ≤ 12) → (x1 - κ 0 14 ≤ 0) → (0 ≤ x2 ∧ x2 ≤ 3) → (-2 ≤ v4 ∧ v4 ≤ 255) → (-2 ≤ v5 ∧ v5 ≤ 255) → (0 ≤ v6 ∧ v6 ≤ 256) → 534060 + 46 * (256 - v6) + 45 < (N : Int) → zV G mX12_found (q_X12_found b.fo κ x1 x2) 54 [some (.inr (.inr 0)), some (.inl x1), some (.inl x2), some (.inl v3), some (.inl v4), some (.inl v5), some (.inl v6)] [] h) := by
    intro N
    induction N with
    | zero =>
      intro v3 v4 v5 v6 h hF g0 g1 g2 g3 g4 g5 hm
      exfalso; omega
    | succ N ih =>
      have k54 := ih
      intro v3 v4 v5 v6 h hF g0 g1 g2 g3 g4 g5 hm
      refine zW_iload (pc' := 56) dX12_found_1.2.2.2.2 rfl rfl ?_
      refine zW_sipush (pc' := 59) dX12_found_2.1.1.1.1 rfl rfl ?_
      refine zV_cm_ge (tgt := 103) (pc' := 62) dX12_found_2.1.1.1.2 rfl rfl ⟨by omega, by omega⟩ ⟨by omega, by omega⟩ (fun c59 => ?_) (fun c59 => ?_)
      · refine zW_iload_n (pc' := 104) dX12_found_3.1.2.2.1 rfl rfl ?_
        refine zV_if_ne (tgt := 111) (pc' := 107) dX12_found_3.1.2.2.2 rfl rfl ⟨by omega, by omega⟩ (fun c104 => ?_) (fun c104 => ?_)
        · refine zW_iload_n (pc' := 112) dX12_found_3.2.1.2.1 rfl rfl ?_
          refine zW_iconst (pc' := 113) dX12_found_3.2.1.2.2 rfl ?_
          refine zV_cm_ne (tgt := 123) (pc' := 116) dX12_found_3.2.2.1.1 rfl rfl ⟨by omega, by omega⟩ ⟨by omega, by omega⟩ (fun c113 => ?_) (fun c113 => ?_)
          · refine zW_iload_n (pc' := 124) dX12_found_4.1.1.1 rfl rfl ?_
            refine zW_iconst (pc' := 125) dX12_found_4.1.1.2 rfl ?_
            refine zV_cm_ne (tgt := 133) (pc' := 128) dX12_found_4.1.2.1 rfl rfl ⟨by omega, by omega⟩ ⟨by omega, by omega⟩ (fun c125 => ?_) (fun c125 => ?_)
            · refine zW_iload (pc' := 135) dX12_found_4.2.1.2 rfl rfl ?_
              exact zV_iret rfl dX12_found_4.2.2 ⟨hF, trivial⟩
            · refine zW_iload (pc' := 130) dX12_found_4.1.2.2 rfl rfl ?_
              refine zV_goto 135 dX12_found_4.2.1.1 rfl ?_
              exact zV_iret rfl dX12_found_4.2.2 ⟨hF, trivial⟩
          · refine zW_aload_n (pc' := 117) dX12_found_3.2.2.1.2 rfl rfl ?_
            refine cvI0 (pc' := 120) kX12_deadMany vX12_deadMany lk_X12_221 ⟨Nat.le_of_ble_eq_true rfl, Nat.le_of_ble_eq_true rfl⟩ tb0 vq12 rfl rfl (s_X12_deadMany hK hF) dX12_found_3.2.2.2.1 (Nat.le_of_ble_eq_true rfl) rfl ?_
            rintro r117 z117 ⟨hz117, p117⟩; subst z117
            refine zV_goto 135 dX12_found_3.2.2.2.2 rfl ?_
            exact zV_iret rfl dX12_found_4.2.2 ⟨hF, trivial⟩
        · refine zW_iload_n (pc' := 108) dX12_found_3.2.1.1.1 rfl rfl ?_
          refine zV_goto 135 dX12_found_3.2.1.1.2 rfl ?_
          exact zV_iret rfl dX12_found_4.2.2 ⟨hF, trivial⟩
      · refine zW_aload_n (pc' := 63) dX12_found_2.1.1.2.1 rfl rfl ?_
        refine zG_ref (pc' := 66) 24 fg_X12_81 tb0 rfl dX12_found_2.1.1.2.2 rfl ?_
        refine zW_iload (pc' := 68) dX12_found_2.1.2.1.1 rfl rfl ?_
        refine zV_zald (pc' := 69) tb24 (by omega) dX12_found_2.1.2.1.2 (by decide) rfl ?_
        refine zV_ifQ_ne (tgt := 75) (pc' := 72) dX12_found_2.1.2.2.1 rfl rfl ?_ ?_
        · refine zW_iload_n (pc' := 76) dX12_found_2.2.1.1.1 rfl rfl ?_
          refine zW_iconst (pc' := 77) dX12_found_2.2.1.1.2 rfl ?_
          refine zW_iadd (pc' := 78) dX12_found_2.2.1.2.1 rfl ?_
          refine zW_istore_n (ls' := [_, _, _, _, _, _, _]) (pc' := 79) dX12_found_2.2.1.2.2 (by decide) rfl rfl rfl ?_
          refine zW_iload (pc' := 81) dX12_found_2.2.2.1.1 rfl rfl ?_
          refine zV_if_ge (tgt := 89) (pc' := 84) dX12_found_2.2.2.1.2 rfl rfl ⟨by omega, by omega⟩ (fun c81 => ?_) (fun c81 => ?_)
          · refine zW_iload (pc' := 91) dX12_found_3.1.1.1.1 rfl rfl ?_
            refine zW_istore (ls' := [_, _, _, _, _, _, _]) (pc' := 93) dX12_found_3.1.1.1.2 (by decide) rfl rfl rfl ?_
            refine zW_iload (pc' := 95) dX12_found_3.1.1.2.1 rfl rfl ?_
            refine zW_istore (ls' := [_, _, _, _, _, _, _]) (pc' := 97) dX12_found_3.1.1.2.2 (by decide) rfl rfl rfl ?_
            refine zW_iinc (ls' := [_, _, _, _, _, _, _]) (pc' := 100) dX12_found_3.1.2.1.1 rfl (by decide) rfl rfl rfl ?_
            refine zV_goto 54 dX12_found_3.1.2.1.2 rfl ?_
            exact k54 _ _ _ _ _ hF (by omega) (by omega) (by omega) (by omega) (by omega) (by omega) (by omega)
          · refine zW_iload (pc' := 86) dX12_found_2.2.2.2.1 rfl rfl ?_
            refine zV_goto 91 dX12_found_2.2.2.2.2 rfl ?_
            refine zW_istore (ls' := [_, _, _, _, _, _, _]) (pc' := 93) dX12_found_3.1.1.1.2 (by decide) rfl rfl rfl ?_
            refine zW_iload (pc' := 95) dX12_found_3.1.1.2.1 rfl rfl ?_
            refine zW_istore (ls' := [_, _, _, _, _, _, _]) (pc' := 97) dX12_found_3.1.1.2.2 (by decide) rfl rfl rfl ?_
            refine zW_iinc (ls' := [_, _, _, _, _, _, _]) (pc' := 100) dX12_found_3.1.2.1.1 rfl (by decide) rfl rfl rfl ?_
            refine zV_goto 54 dX12_found_3.1.2.1.2 rfl ?_
            exact k54 _ _ _ _ _ hF (by omega) (by omega) (by omega) (by omega) (by omega) (by omega) (by omega)
        · refine zV_goto 97 dX12_found_2.1.2.2.2 rfl ?_
          refine zW_iinc (ls' := [_, _, _, _, _, _, _]) (pc' := 100) dX12_found_3.1.2.1.1 rfl (by decide) rfl rfl rfl ?_
          refine zV_goto 54 dX12_found_3.1.2.1.2 rfl ?_
          exact k54 _ _ _ _ _ hF (by omega) (by omega) (by omega) (by omega) (by omega) (by omega) (by omega)
  refine zM_of [some (.inr (.inr 0)), some (.inl x1), some (.inl x2), none, none, none, none] 4 rfl rfl (Nat.le_of_ble_eq_true rfl) rfl ?_
  refine zW_aload_n (pc' := 1) dX12_found_0.1.1.1.1 rfl rfl ?_
  refine zW_iload_n (pc' := 2) dX12_found_0.1.1.1.2 rfl rfl ?_
  refine cvI1 (pc' := 5) kX12_isStage vX12_isStage lk_X12_199 ⟨Nat.le_of_ble_eq_true rfl, Nat.le_of_ble_eq_true rfl⟩ tb0 vq12 rfl rfl (s_X12_isStage hK hF _ ⟨by omega, by omega⟩) dX12_found_0.1.1.2.1 (Nat.le_of_ble_eq_true rfl) rfl ?_
  rintro r2 z2 ⟨hz2, p2⟩; subst z2
  refine zV_if_eq (tgt := 17) (pc' := 8) dX12_found_0.1.1.2.2 rfl rfl ⟨by omega, by omega⟩ (fun c5 => ?_) (fun c5 => ?_)
  · refine zW_iconst (pc' := 18) dX12_found_0.2.1.1.2 rfl ?_
    exact zV_iret rfl dX12_found_0.2.1.2.1 ⟨hF, trivial⟩
  · refine zW_iload_n (pc' := 9) dX12_found_0.1.2.1.1 rfl rfl ?_
    refine zW_iconst (pc' := 10) dX12_found_0.1.2.1.2 rfl ?_
    refine zW_iconst (pc' := 11) dX12_found_0.1.2.2.1 rfl ?_
    refine csI3 (pc' := 14) kX12_in vX12_in lk_X12_140 ⟨Nat.le_of_ble_eq_true rfl, Nat.le_of_ble_eq_true rfl⟩ rfl (s_X12_inR hF _ ⟨by omega, by omega⟩ _ ⟨by omega, by omega⟩ _ ⟨by omega, by omega⟩) dX12_found_0.1.2.2.2 (Nat.le_of_ble_eq_true rfl) rfl ?_
    rintro r11 z11 ⟨hz11, p11⟩; subst z11
    refine zV_if_ne (tgt := 19) (pc' := 17) dX12_found_0.2.1.1.1 rfl rfl ⟨by omega, by omega⟩ (fun c14 => ?_) (fun c14 => ?_)
    · refine zW_aload_n (pc' := 20) dX12_found_0.2.1.2.2 rfl rfl ?_
      refine zW_iload_n (pc' := 21) dX12_found_0.2.2.1.1 rfl rfl ?_
      refine zW_bipush (pc' := 23) dX12_found_0.2.2.1.2 rfl rfl ?_
      refine cvI2 (pc' := 26) kX12_isKind vX12_isKind lk_X12_383 ⟨Nat.le_of_ble_eq_true rfl, Nat.le_of_ble_eq_true rfl⟩ tb0 vq12 rfl rfl (s_X12_isKind hK hF _ ⟨by omega, by omega⟩ _ ⟨by omega, by omega⟩) dX12_found_0.2.2.2.1 (Nat.le_of_ble_eq_true rfl) rfl ?_
      rintro r23 z23 ⟨hz23, p23⟩; subst z23
      refine zV_if_ne (tgt := 32) (pc' := 29) dX12_found_0.2.2.2.2 rfl rfl ⟨by omega, by omega⟩ (fun c26 => ?_) (fun c26 => ?_)
      · refine zW_aload_n (pc' := 33) dX12_found_1.1.1.2.1 rfl rfl ?_
        refine cvV0 (pc' := 36) kX12_leaves vX12_leaves lk_X12_377 ⟨Nat.le_of_ble_eq_true rfl, Nat.le_of_ble_eq_true rfl⟩ tb0 vq12 rfl rfl (hLv hK hF) dX12_found_1.1.1.2.2 (Nat.le_of_ble_eq_true rfl) rfl ?_
        rintro r33 h ⟨hF, p33⟩
        refine zW_aload_n (pc' := 37) dX12_found_1.1.2.1.1 rfl rfl ?_
        refine zW_iload_n (pc' := 38) dX12_found_1.1.2.1.2 rfl rfl ?_
        refine cvV1 (pc' := 41) kX12_marksFound vX12_marksFound lk_X12_386 ⟨Nat.le_of_ble_eq_true rfl, Nat.le_of_ble_eq_true rfl⟩ tb0 vq12 rfl rfl (s_X12_marksFound hK hF _ ⟨by omega, by omega⟩) dX12_found_1.1.2.2.1 (Nat.le_of_ble_eq_true rfl) rfl ?_
        rintro r38 h ⟨hF, p38⟩
        refine zW_iconst (pc' := 42) dX12_found_1.1.2.2.2 rfl ?_
        refine zW_istore_n (ls' := [_, _, _, _, _, _, _]) (pc' := 43) dX12_found_1.2.1.1.1 (by decide) rfl rfl rfl ?_
        refine zW_bipush (pc' := 45) dX12_found_1.2.1.1.2 rfl rfl ?_
        refine zW_istore (ls' := [_, _, _, _, _, _, _]) (pc' := 47) dX12_found_1.2.1.2.1 (by decide) rfl rfl rfl ?_
        refine zW_bipush (pc' := 49) dX12_found_1.2.1.2.2 rfl rfl ?_
        refine zW_istore (ls' := [_, _, _, _, _, _, _]) (pc' := 51) dX12_found_1.2.2.1.1 (by decide) rfl rfl rfl ?_
        refine zW_iconst (pc' := 52) dX12_found_1.2.2.1.2 rfl ?_
        refine zW_istore (ls' := [_, _, _, _, _, _, _]) (pc' := 54) dX12_found_1.2.2.2.1 (by decide) rfl rfl rfl ?_
        exact (main 10000000000000000000000000000000000000000) _ _ _ _ _ hF (by omega) (by omega) (by omega) (by omega) (by omega) (by omega) (by omega)
      · refine zW_bipush (pc' := 31) dX12_found_1.1.1.1.1 rfl rfl ?_
        exact zV_iret rfl dX12_found_1.1.1.1.2 ⟨hF, trivial⟩
    · refine zW_iconst (pc' := 18) dX12_found_0.2.1.1.2 rfl ?_
      exact zV_iret rfl dX12_found_0.2.1.2.1 ⟨hF, trivial⟩

abbrev q_X12_groups (b : Bd) (κ : Hp) (x1 : Int) (x2 : Int) : Int → Hp → Prop := fun r h' => Fr b κ h' ∧ (True)
set_option maxHeartbeats 4000000 in
set_option maxRecDepth 20000 in
theorem s_X12_groups {G : Ga} {b : Bd} {κ h : Hp} (hK : KR κ) (hF : Fr b.fo κ h) (x1 : Int) (hx1 : rng x1) (x2 : Int) (hx2 : rng x2) (hLv : LeavesOK b) : zM G mX12_groups yX12_groups [.inr (.inr 0), .inl x1, .inl x2] h (q_X12_groups b.fo κ x1 x2) := by
  have f_0_14 := KRm hK
  unfold rng at hx1
  unfold rng at hx2
  refine zM_of [some (.inr (.inr 0)), some (.inl x1), some (.inl x2), none, none] 2 rfl rfl (Nat.le_of_ble_eq_true rfl) rfl ?_
  refine zW_aload_n (pc' := 1) dX12_groups_0.1.1.1.1 rfl rfl ?_
  refine zW_iload_n (pc' := 2) dX12_groups_0.1.1.1.2 rfl rfl ?_
  refine cvI1 (pc' := 5) kX12_isStage vX12_isStage lk_X12_199 ⟨Nat.le_of_ble_eq_true rfl, Nat.le_of_ble_eq_true rfl⟩ tb0 vq12 rfl rfl (s_X12_isStage hK hF _ ⟨by omega, by omega⟩) dX12_groups_0.1.1.2.1 (Nat.le_of_ble_eq_true rfl) rfl ?_
  rintro r2 z2 ⟨hz2, p2⟩; subst z2
  refine zV_if_eq (tgt := 17) (pc' := 8) dX12_groups_0.1.1.2.2 rfl rfl ⟨by omega, by omega⟩ (fun c5 => ?_) (fun c5 => ?_)
  · refine zW_iconst (pc' := 18) dX12_groups_0.2.1.1.2 rfl ?_
    exact zV_iret rfl dX12_groups_0.2.1.2.1 ⟨hF, trivial⟩
  · refine zW_iload_n (pc' := 9) dX12_groups_0.1.2.1.1 rfl rfl ?_
    refine zW_iconst (pc' := 10) dX12_groups_0.1.2.1.2 rfl ?_
    refine zW_iconst (pc' := 11) dX12_groups_0.1.2.2.1 rfl ?_
    refine csI3 (pc' := 14) kX12_in vX12_in lk_X12_140 ⟨Nat.le_of_ble_eq_true rfl, Nat.le_of_ble_eq_true rfl⟩ rfl (s_X12_inR hF _ ⟨by omega, by omega⟩ _ ⟨by omega, by omega⟩ _ ⟨by omega, by omega⟩) dX12_groups_0.1.2.2.2 (Nat.le_of_ble_eq_true rfl) rfl ?_
    rintro r11 z11 ⟨hz11, p11⟩; subst z11
    refine zV_if_ne (tgt := 19) (pc' := 17) dX12_groups_0.2.1.1.1 rfl rfl ⟨by omega, by omega⟩ (fun c14 => ?_) (fun c14 => ?_)
    · refine zW_aload_n (pc' := 20) dX12_groups_0.2.1.2.2 rfl rfl ?_
      refine zW_iload_n (pc' := 21) dX12_groups_0.2.2.1.1 rfl rfl ?_
      refine zW_bipush (pc' := 23) dX12_groups_0.2.2.1.2 rfl rfl ?_
      refine cvI2 (pc' := 26) kX12_isKind vX12_isKind lk_X12_383 ⟨Nat.le_of_ble_eq_true rfl, Nat.le_of_ble_eq_true rfl⟩ tb0 vq12 rfl rfl (s_X12_isKind hK hF _ ⟨by omega, by omega⟩ _ ⟨by omega, by omega⟩) dX12_groups_0.2.2.2.1 (Nat.le_of_ble_eq_true rfl) rfl ?_
      rintro r23 z23 ⟨hz23, p23⟩; subst z23
      refine zV_if_ne (tgt := 32) (pc' := 29) dX12_groups_0.2.2.2.2 rfl rfl ⟨by omega, by omega⟩ (fun c26 => ?_) (fun c26 => ?_)
      · refine zW_aload_n (pc' := 33) dX12_groups_1.1.1.2.1 rfl rfl ?_
        refine cvV0 (pc' := 36) kX12_leaves vX12_leaves lk_X12_377 ⟨Nat.le_of_ble_eq_true rfl, Nat.le_of_ble_eq_true rfl⟩ tb0 vq12 rfl rfl (hLv hK hF) dX12_groups_1.1.1.2.2 (Nat.le_of_ble_eq_true rfl) rfl ?_
        rintro r33 h ⟨hF, p33⟩
        refine zW_aload_n (pc' := 37) dX12_groups_1.1.2.1.1 rfl rfl ?_
        refine zW_iload_n (pc' := 38) dX12_groups_1.1.2.1.2 rfl rfl ?_
        refine cvV1 (pc' := 41) kX12_marksFound vX12_marksFound lk_X12_386 ⟨Nat.le_of_ble_eq_true rfl, Nat.le_of_ble_eq_true rfl⟩ tb0 vq12 rfl rfl (s_X12_marksFound hK hF _ ⟨by omega, by omega⟩) dX12_groups_1.1.2.2.1 (Nat.le_of_ble_eq_true rfl) rfl ?_
        rintro r38 h ⟨hF, p38⟩
        refine zW_aload_n (pc' := 42) dX12_groups_1.1.2.2.2 rfl rfl ?_
        refine zW_iconst (pc' := 43) dX12_groups_1.2.1.1.1 rfl ?_
        refine cvI1 (pc' := 46) kX12_gathers vX12_gathers lk_X12_393 ⟨Nat.le_of_ble_eq_true rfl, Nat.le_of_ble_eq_true rfl⟩ tb0 vq12 rfl rfl (s_X12_gathers hK hF _) dX12_groups_1.2.1.1.2 (Nat.le_of_ble_eq_true rfl) rfl ?_
        rintro r43 h ⟨hF, p43⟩
        refine zW_istore_n (ls' := [_, _, _, _, _]) (pc' := 47) dX12_groups_1.2.1.2.1 (by decide) rfl rfl rfl ?_
        refine zW_aload_n (pc' := 48) dX12_groups_1.2.1.2.2 rfl rfl ?_
        refine zW_iload_n (pc' := 49) dX12_groups_1.2.2.1.1 rfl rfl ?_
        refine cvI1 (pc' := 52) kX12_largest vX12_largest lk_X12_397 ⟨Nat.le_of_ble_eq_true rfl, Nat.le_of_ble_eq_true rfl⟩ tb0 vq12 rfl rfl (s_X12_largest hK hF _ ⟨by omega, by omega⟩) dX12_groups_1.2.2.1.2 (Nat.le_of_ble_eq_true rfl) rfl ?_
        rintro r49 z49 ⟨hz49, p49⟩; subst z49
        refine zW_istore (ls' := [_, _, _, _, _]) (pc' := 54) dX12_groups_1.2.2.2.1 (by decide) rfl rfl rfl ?_
        refine zW_iload_n (pc' := 55) dX12_groups_1.2.2.2.2 rfl rfl ?_
        refine zV_if_ne (tgt := 62) (pc' := 58) dX12_groups_2.1.1.1.1 rfl rfl ⟨by omega, by omega⟩ (fun c55 => ?_) (fun c55 => ?_)
        · refine zW_iload (pc' := 64) dX12_groups_2.1.1.2.2 rfl rfl ?_
          refine zW_iconst (pc' := 65) dX12_groups_2.1.2.1.1 rfl ?_
          refine zV_cm_ne (tgt := 72) (pc' := 68) dX12_groups_2.1.2.1.2 rfl rfl ⟨by omega, by omega⟩ ⟨by omega, by omega⟩ (fun c65 => ?_) (fun c65 => ?_)
          · refine zW_aload_n (pc' := 73) dX12_groups_2.2.1.1.2 rfl rfl ?_
            refine zG_ref (pc' := 76) 27 fg_X12_90 tb0 rfl dX12_groups_2.2.1.2 rfl ?_
            refine zW_iload (pc' := 78) dX12_groups_2.2.2.1.1 rfl rfl ?_
            refine zV_iald (pc' := 79) tb27 (by omega) dX12_groups_2.2.2.1.2 (by decide) rfl ?_
            exact zV_iret rfl dX12_groups_2.2.2.2 ⟨hF, trivial⟩
          · refine zW_iconst (pc' := 69) dX12_groups_2.1.2.2 rfl ?_
            refine zV_goto 79 dX12_groups_2.2.1.1.1 rfl ?_
            exact zV_iret rfl dX12_groups_2.2.2.2 ⟨hF, trivial⟩
        · refine zW_iload_n (pc' := 59) dX12_groups_2.1.1.1.2 rfl rfl ?_
          refine zV_goto 79 dX12_groups_2.1.1.2.1 rfl ?_
          exact zV_iret rfl dX12_groups_2.2.2.2 ⟨hF, trivial⟩
      · refine zW_bipush (pc' := 31) dX12_groups_1.1.1.1.1 rfl rfl ?_
        exact zV_iret rfl dX12_groups_1.1.1.1.2 ⟨hF, trivial⟩
    · refine zW_iconst (pc' := 18) dX12_groups_0.2.1.1.2 rfl ?_
      exact zV_iret rfl dX12_groups_0.2.1.2.1 ⟨hF, trivial⟩

abbrev q_X12_dark (b : Bd) (κ : Hp) (x1 : Int) (x2 : Int) : Int → Hp → Prop := fun r h' => Fr b κ h' ∧ (True)
set_option maxHeartbeats 4000000 in
set_option maxRecDepth 20000 in
theorem s_X12_dark {G : Ga} {b : Bd} {κ h : Hp} (hK : KR κ) (hF : Fr b.fo κ h) (x1 : Int) (hx1 : rng x1) (x2 : Int) (hx2 : rng x2) (hLv : LeavesOK b) : zM G mX12_dark yX12_dark [.inr (.inr 0), .inl x1, .inl x2] h (q_X12_dark b.fo κ x1 x2) := by
  have f_0_12 := KRh hK
  have f_0_14 := KRm hK
  unfold rng at hx1
  unfold rng at hx2
  refine zM_of [some (.inr (.inr 0)), some (.inl x1), some (.inl x2)] 0 rfl rfl (Nat.le_of_ble_eq_true rfl) rfl ?_
  refine zW_aload_n (pc' := 1) dX12_dark_0.1.1.1.1 rfl rfl ?_
  refine zW_iload_n (pc' := 2) dX12_dark_0.1.1.1.2 rfl rfl ?_
  refine cvI1 (pc' := 5) kX12_isStage vX12_isStage lk_X12_199 ⟨Nat.le_of_ble_eq_true rfl, Nat.le_of_ble_eq_true rfl⟩ tb0 vq12 rfl rfl (s_X12_isStage hK hF _ ⟨by omega, by omega⟩) dX12_dark_0.1.1.2.1 (Nat.le_of_ble_eq_true rfl) rfl ?_
  rintro r2 z2 ⟨hz2, p2⟩; subst z2
  refine zV_if_eq (tgt := 22) (pc' := 8) dX12_dark_0.1.1.2.2 rfl rfl ⟨by omega, by omega⟩ (fun c5 => ?_) (fun c5 => ?_)
  · refine zW_iconst (pc' := 23) dX12_dark_0.2.2.1.1 rfl ?_
    exact zV_iret rfl dX12_dark_0.2.2.1.2 ⟨hF, trivial⟩
  · refine zW_iload_n (pc' := 9) dX12_dark_0.1.2.1.1 rfl rfl ?_
    refine zW_iconst (pc' := 10) dX12_dark_0.1.2.1.2 rfl ?_
    refine zW_aload_n (pc' := 11) dX12_dark_0.1.2.2.1 rfl rfl ?_
    refine zG_key (pc' := 14) hF rfl fg_X12_103 tb0 rfl dX12_dark_0.1.2.2.2 rfl ?_
    refine zW_iconst (pc' := 15) dX12_dark_0.2.1.1.1 rfl ?_
    refine zW_isub (pc' := 16) dX12_dark_0.2.1.1.2 rfl ?_
    refine csI3 (pc' := 19) kX12_in vX12_in lk_X12_140 ⟨Nat.le_of_ble_eq_true rfl, Nat.le_of_ble_eq_true rfl⟩ rfl (s_X12_inR hF _ ⟨by omega, by omega⟩ _ ⟨by omega, by omega⟩ _ ⟨by omega, by omega⟩) dX12_dark_0.2.1.2.1 (Nat.le_of_ble_eq_true rfl) rfl ?_
    rintro r16 z16 ⟨hz16, p16⟩; subst z16
    refine zV_if_ne (tgt := 24) (pc' := 22) dX12_dark_0.2.1.2.2 rfl rfl ⟨by omega, by omega⟩ (fun c19 => ?_) (fun c19 => ?_)
    · refine zW_aload_n (pc' := 25) dX12_dark_0.2.2.2.1 rfl rfl ?_
      refine zW_iload_n (pc' := 26) dX12_dark_0.2.2.2.2 rfl rfl ?_
      refine zW_bipush (pc' := 28) dX12_dark_1.1.1.1.1 rfl rfl ?_
      refine cvI2 (pc' := 31) kX12_isKind vX12_isKind lk_X12_383 ⟨Nat.le_of_ble_eq_true rfl, Nat.le_of_ble_eq_true rfl⟩ tb0 vq12 rfl rfl (s_X12_isKind hK hF _ ⟨by omega, by omega⟩ _ ⟨by omega, by omega⟩) dX12_dark_1.1.1.1.2 (Nat.le_of_ble_eq_true rfl) rfl ?_
      rintro r28 z28 ⟨hz28, p28⟩; subst z28
      refine zV_if_ne (tgt := 37) (pc' := 34) dX12_dark_1.1.1.2.1 rfl rfl ⟨by omega, by omega⟩ (fun c31 => ?_) (fun c31 => ?_)
      · refine zW_aload_n (pc' := 38) dX12_dark_1.1.2.1.2 rfl rfl ?_
        refine cvV0 (pc' := 41) kX12_leaves vX12_leaves lk_X12_377 ⟨Nat.le_of_ble_eq_true rfl, Nat.le_of_ble_eq_true rfl⟩ tb0 vq12 rfl rfl (hLv hK hF) dX12_dark_1.1.2.2.1 (Nat.le_of_ble_eq_true rfl) rfl ?_
        rintro r38 h ⟨hF, p38⟩
        refine zW_aload_n (pc' := 42) dX12_dark_1.1.2.2.2 rfl rfl ?_
        refine zW_iload_n (pc' := 43) dX12_dark_1.2.1.1.1 rfl rfl ?_
        refine zW_iconst (pc' := 44) dX12_dark_1.2.1.1.2 rfl ?_
        refine zW_isub (pc' := 45) dX12_dark_1.2.1.2.1 rfl ?_
        refine zW_iload_n (pc' := 46) dX12_dark_1.2.1.2.2 rfl rfl ?_
        refine zW_aload_n (pc' := 47) dX12_dark_1.2.2.1.1 rfl rfl ?_
        refine zW_iload_n (pc' := 48) dX12_dark_1.2.2.1.2 rfl rfl ?_
        refine zW_iconst (pc' := 49) dX12_dark_1.2.2.2.1 rfl ?_
        refine cvI2 (pc' := 52) kX12_numberOf vX12_numberOf lk_X12_206 ⟨Nat.le_of_ble_eq_true rfl, Nat.le_of_ble_eq_true rfl⟩ tb0 vq12 rfl rfl (s_X12_numberOf hK hF _ ⟨by omega, by omega⟩ _ ⟨by omega, by omega⟩) dX12_dark_1.2.2.2.2 (Nat.le_of_ble_eq_true rfl) rfl ?_
        rintro r49 z49 ⟨hz49, p49⟩; subst z49
        have ho := KRo hK (k := x1) (by omega) (by omega) (Or.inl (by omega))
        refine cvI3 (pc' := 55) kX12_darkOf vX12_darkOf lk_X12_260 ⟨Nat.le_of_ble_eq_true rfl, Nat.le_of_ble_eq_true rfl⟩ tb0 vq12 rfl rfl (s_X12_darkOf hK hF _ ⟨by omega, by omega⟩ _ ⟨by omega, by omega, by omega⟩ _ ⟨by omega, by omega⟩) dX12_dark_2.1 (Nat.le_of_ble_eq_true rfl) rfl ?_
        rintro r52 z52 ⟨hz52, p52⟩; subst z52
        exact zV_iret rfl dX12_dark_2.2 ⟨hF, trivial⟩
      · refine zW_bipush (pc' := 36) dX12_dark_1.1.1.2.2 rfl rfl ?_
        exact zV_iret rfl dX12_dark_1.1.2.1.1 ⟨hF, trivial⟩
    · refine zW_iconst (pc' := 23) dX12_dark_0.2.2.1.1 rfl ?_
      exact zV_iret rfl dX12_dark_0.2.2.1.2 ⟨hF, trivial⟩

abbrev q_X12_middle (b : Bd) (κ : Hp) (x1 : Int) (x2 : Int) (x3 : Int) : Int → Hp → Prop := fun r h' => Fr b κ h' ∧ (True)
set_option maxHeartbeats 4000000 in
set_option maxRecDepth 20000 in
theorem s_X12_middle {G : Ga} {b : Bd} {κ h : Hp} (hK : KR κ) (hF : Fr b.fo κ h) (x1 : Int) (hx1 : rng x1) (x2 : Int) (hx2 : rng x2) (x3 : Int) (hx3 : rng x3) (hLv : LeavesOK b) : zM G mX12_middle yX12_middle [.inr (.inr 0), .inl x1, .inl x2, .inl x3] h (q_X12_middle b.fo κ x1 x2 x3) := by
  have f_0_11 := KRw hK
  have f_0_12 := KRh hK
  have f_0_14 := KRm hK
  unfold rng at hx1
  unfold rng at hx2
  unfold rng at hx3
  refine zM_of [some (.inr (.inr 0)), some (.inl x1), some (.inl x2), some (.inl x3)] 0 rfl rfl (Nat.le_of_ble_eq_true rfl) rfl ?_
  refine zW_aload_n (pc' := 1) dX12_middle_0.1.1.1.1 rfl rfl ?_
  refine zW_iload_n (pc' := 2) dX12_middle_0.1.1.1.2 rfl rfl ?_
  refine cvI1 (pc' := 5) kX12_isStage vX12_isStage lk_X12_199 ⟨Nat.le_of_ble_eq_true rfl, Nat.le_of_ble_eq_true rfl⟩ tb0 vq12 rfl rfl (s_X12_isStage hK hF _ ⟨by omega, by omega⟩) dX12_middle_0.1.1.2.1 (Nat.le_of_ble_eq_true rfl) rfl ?_
  rintro r2 z2 ⟨hz2, p2⟩; subst z2
  refine zV_if_eq (tgt := 17) (pc' := 8) dX12_middle_0.1.1.2.2 rfl rfl ⟨by omega, by omega⟩ (fun c5 => ?_) (fun c5 => ?_)
  · refine zW_iconst (pc' := 18) dX12_middle_0.2.1.1.2 rfl ?_
    exact zV_iret rfl dX12_middle_0.2.1.2.1 ⟨hF, trivial⟩
  · refine zW_aload_n (pc' := 9) dX12_middle_0.1.2.1.1 rfl rfl ?_
    refine zW_iload_n (pc' := 10) dX12_middle_0.1.2.1.2 rfl rfl ?_
    refine zW_iload_n (pc' := 11) dX12_middle_0.1.2.2.1 rfl rfl ?_
    refine cvI2 (pc' := 14) kX12_isSquare vX12_isSquare lk_X12_218 ⟨Nat.le_of_ble_eq_true rfl, Nat.le_of_ble_eq_true rfl⟩ tb0 vq12 rfl rfl (s_X12_isSquare hK hF _ ⟨by omega, by omega⟩ _ ⟨by omega, by omega⟩) dX12_middle_0.1.2.2.2 (Nat.le_of_ble_eq_true rfl) rfl ?_
    rintro r11 z11 ⟨hz11, p11⟩; subst z11
    refine zV_if_ne (tgt := 19) (pc' := 17) dX12_middle_0.2.1.1.1 rfl rfl ⟨by omega, by omega⟩ (fun c14 => ?_) (fun c14 => ?_)
    · refine zW_aload_n (pc' := 20) dX12_middle_0.2.1.2.2 rfl rfl ?_
      refine zW_iload_n (pc' := 21) dX12_middle_0.2.2.1.1 rfl rfl ?_
      refine zW_bipush (pc' := 23) dX12_middle_0.2.2.1.2 rfl rfl ?_
      refine cvI2 (pc' := 26) kX12_isKind vX12_isKind lk_X12_383 ⟨Nat.le_of_ble_eq_true rfl, Nat.le_of_ble_eq_true rfl⟩ tb0 vq12 rfl rfl (s_X12_isKind hK hF _ ⟨by omega, by omega⟩ _ ⟨by omega, by omega⟩) dX12_middle_0.2.2.2.1 (Nat.le_of_ble_eq_true rfl) rfl ?_
      rintro r23 z23 ⟨hz23, p23⟩; subst z23
      refine zV_if_ne (tgt := 32) (pc' := 29) dX12_middle_0.2.2.2.2 rfl rfl ⟨by omega, by omega⟩ (fun c26 => ?_) (fun c26 => ?_)
      · refine zW_aload_n (pc' := 33) dX12_middle_1.1.1.2 rfl rfl ?_
        refine cvV0 (pc' := 36) kX12_leaves vX12_leaves lk_X12_377 ⟨Nat.le_of_ble_eq_true rfl, Nat.le_of_ble_eq_true rfl⟩ tb0 vq12 rfl rfl (hLv hK hF) dX12_middle_1.1.2.1.1 (Nat.le_of_ble_eq_true rfl) rfl ?_
        rintro r33 h ⟨hF, p33⟩
        refine zW_aload_n (pc' := 37) dX12_middle_1.1.2.1.2 rfl rfl ?_
        refine zW_iload_n (pc' := 38) dX12_middle_1.1.2.2 rfl rfl ?_
        refine zW_iconst (pc' := 39) dX12_middle_1.2.1.1.1 rfl ?_
        refine zW_isub (pc' := 40) dX12_middle_1.2.1.1.2 rfl ?_
        refine zW_iload_n (pc' := 41) dX12_middle_1.2.1.2 rfl rfl ?_
        refine zW_iload_n (pc' := 42) dX12_middle_1.2.2.1.1 rfl rfl ?_
        refine cvI3 (pc' := 45) kX12_middleOf vX12_middleOf lk_X12_254 ⟨Nat.le_of_ble_eq_true rfl, Nat.le_of_ble_eq_true rfl⟩ tb0 vq12 rfl rfl (s_X12_middleOf hK hF _ ⟨by omega, by omega⟩ _ ⟨by omega, by omega, by omega⟩ _ ⟨by omega, by omega, by omega⟩) dX12_middle_1.2.2.1.2 (Nat.le_of_ble_eq_true rfl) rfl ?_
        rintro r42 h ⟨hF, p42⟩
        exact zV_iret rfl dX12_middle_1.2.2.2 ⟨hF, trivial⟩
      · refine zW_bipush (pc' := 31) dX12_middle_1.1.1.1.1 rfl rfl ?_
        exact zV_iret rfl dX12_middle_1.1.1.1.2 ⟨hF, trivial⟩
    · refine zW_iconst (pc' := 18) dX12_middle_0.2.1.1.2 rfl ?_
      exact zV_iret rfl dX12_middle_0.2.1.2.1 ⟨hF, trivial⟩

abbrev q_X12_way (b : Bd) (κ : Hp) (x1 : Int) (x2 : Int) : Int → Hp → Prop := fun r h' => Fr b κ h' ∧ (True)
set_option maxHeartbeats 4000000 in
set_option maxRecDepth 20000 in
theorem s_X12_way {G : Ga} {b : Bd} {κ h : Hp} (hK : KR κ) (hF : Fr b.fo κ h) (x1 : Int) (hx1 : rng x1) (x2 : Int) (hx2 : rng x2) (hLv : LeavesOK b) : zM G mX12_way yX12_way [.inr (.inr 0), .inl x1, .inl x2] h (q_X12_way b.fo κ x1 x2) := by
  have f_0_11 := KRw hK
  have f_0_12 := KRh hK
  have f_0_14 := KRm hK
  unfold rng at hx1
  unfold rng at hx2
  refine zM_of [some (.inr (.inr 0)), some (.inl x1), some (.inl x2)] 0 rfl rfl (Nat.le_of_ble_eq_true rfl) rfl ?_
  refine zW_aload_n (pc' := 1) dX12_way_0.1.1.1.1 rfl rfl ?_
  refine zW_iload_n (pc' := 2) dX12_way_0.1.1.1.2 rfl rfl ?_
  refine zW_iload_n (pc' := 3) dX12_way_0.1.1.2.1 rfl rfl ?_
  refine cvI2 (pc' := 6) kX12_isSquare vX12_isSquare lk_X12_218 ⟨Nat.le_of_ble_eq_true rfl, Nat.le_of_ble_eq_true rfl⟩ tb0 vq12 rfl rfl (s_X12_isSquare hK hF _ ⟨by omega, by omega⟩ _ ⟨by omega, by omega⟩) dX12_way_0.1.1.2.2 (Nat.le_of_ble_eq_true rfl) rfl ?_
  rintro r3 z3 ⟨hz3, p3⟩; subst z3
  refine zV_if_ne (tgt := 11) (pc' := 9) dX12_way_0.1.2.1.1 rfl rfl ⟨by omega, by omega⟩ (fun c6 => ?_) (fun c6 => ?_)
  · refine zW_aload_n (pc' := 12) dX12_way_0.1.2.2.2 rfl rfl ?_
    refine cvI0 (pc' := 15) kX12_isAlongEdges vX12_isAlongEdges lk_X12_400 ⟨Nat.le_of_ble_eq_true rfl, Nat.le_of_ble_eq_true rfl⟩ tb0 vq12 rfl rfl (s_X12_isAlongEdges hK hF) dX12_way_0.2.1.1.1 (Nat.le_of_ble_eq_true rfl) rfl ?_
    rintro r12 z12 ⟨hz12, p12⟩; subst z12
    refine zV_if_ne (tgt := 21) (pc' := 18) dX12_way_0.2.1.1.2 rfl rfl ⟨by omega, by omega⟩ (fun c15 => ?_) (fun c15 => ?_)
    · refine zW_aload_n (pc' := 22) dX12_way_0.2.2.1.1 rfl rfl ?_
      refine cvV0 (pc' := 25) kX12_leaves vX12_leaves lk_X12_377 ⟨Nat.le_of_ble_eq_true rfl, Nat.le_of_ble_eq_true rfl⟩ tb0 vq12 rfl rfl (hLv hK hF) dX12_way_0.2.2.1.2 (Nat.le_of_ble_eq_true rfl) rfl ?_
      rintro r22 h ⟨hF, p22⟩
      refine zW_aload_n (pc' := 26) dX12_way_0.2.2.2.1 rfl rfl ?_
      refine zW_iload_n (pc' := 27) dX12_way_0.2.2.2.2 rfl rfl ?_
      refine zW_iload_n (pc' := 28) dX12_way_1.1.1.1.1 rfl rfl ?_
      refine cvI2 (pc' := 31) kX12_colourAt vX12_colourAt lk_X12_225 ⟨Nat.le_of_ble_eq_true rfl, Nat.le_of_ble_eq_true rfl⟩ tb0 vq12 rfl rfl (s_X12_colourAt hK hF _ ⟨by omega, by omega⟩ _ ⟨by omega, by omega⟩) dX12_way_1.1.1.1.2 (Nat.le_of_ble_eq_true rfl) rfl ?_
      rintro r28 z28 ⟨hz28, p28⟩; subst z28
      refine zW_iconst (pc' := 32) dX12_way_1.1.1.2.1 rfl ?_
      refine zV_cm_ne (tgt := 40) (pc' := 35) dX12_way_1.1.1.2.2 rfl rfl ⟨by omega, by omega⟩ ⟨by omega, by omega⟩ (fun c32 => ?_) (fun c32 => ?_)
      · refine zW_aload_n (pc' := 41) dX12_way_1.1.2.2.1 rfl rfl ?_
        refine zW_aload_n (pc' := 42) dX12_way_1.1.2.2.2 rfl rfl ?_
        refine cvI0 (pc' := 45) kX12_filler vX12_filler lk_X12_196 ⟨Nat.le_of_ble_eq_true rfl, Nat.le_of_ble_eq_true rfl⟩ tb0 vq12 rfl rfl (s_X12_filler hK hF) dX12_way_1.2.1.1.1 (Nat.le_of_ble_eq_true rfl) rfl ?_
        rintro r42 z42 ⟨hz42, p42⟩; subst z42
        refine zW_iconst (pc' := 46) dX12_way_1.2.1.1.2 rfl ?_
        refine zW_isub (pc' := 47) dX12_way_1.2.1.2.1 rfl ?_
        refine zW_iload_n (pc' := 48) dX12_way_1.2.1.2.2 rfl rfl ?_
        refine zW_iload_n (pc' := 49) dX12_way_1.2.2.1.1 rfl rfl ?_
        refine cvI3 (pc' := 52) kX12_wayOf vX12_wayOf lk_X12_274 ⟨Nat.le_of_ble_eq_true rfl, Nat.le_of_ble_eq_true rfl⟩ tb0 vq12 rfl rfl (s_X12_wayOf hK hF _ ⟨by omega, by omega⟩ _ ⟨by omega, by omega, by omega⟩ _ ⟨by omega, by omega, by omega⟩) dX12_way_1.2.2.1.2 (Nat.le_of_ble_eq_true rfl) rfl ?_
        rintro r49 z49 ⟨hz49, p49⟩; subst z49
        exact zV_iret rfl dX12_way_1.2.2.2 ⟨hF, trivial⟩
      · refine zW_bipush (pc' := 37) dX12_way_1.1.2.1.1 rfl rfl ?_
        refine zV_goto 52 dX12_way_1.1.2.1.2 rfl ?_
        exact zV_iret rfl dX12_way_1.2.2.2 ⟨hF, trivial⟩
    · refine zW_bipush (pc' := 20) dX12_way_0.2.1.2.1 rfl rfl ?_
      exact zV_iret rfl dX12_way_0.2.1.2.2 ⟨hF, trivial⟩
  · refine zW_iconst (pc' := 10) dX12_way_0.1.2.1.2 rfl ?_
    exact zV_iret rfl dX12_way_0.1.2.2.1 ⟨hF, trivial⟩

abbrev q_X12_ways (b : Bd) (κ : Hp) (x1 : Int) : Int → Hp → Prop := fun r h' => Fr b κ h' ∧ (True)
set_option maxHeartbeats 4000000 in
set_option maxRecDepth 20000 in
theorem s_X12_ways {G : Ga} {b : Bd} {κ h : Hp} (hK : KR κ) (hF : Fr b.fo κ h) (x1 : Int) (hx1 : rng x1) (hLv : LeavesOK b) : zM G mX12_ways yX12_ways [.inr (.inr 0), .inl x1] h (q_X12_ways b.fo κ x1) := by
  have f_0_11 := KRw hK
  have f_0_12 := KRh hK
  have f_0_14 := KRm hK
  unfold rng at hx1
  have main : ∀ N : Nat, (∀ (v2 v3 : Int) (h : Hp), Fr b.fo κ h → (0 ≤ x1 ∧ x1 ≤ 2) → (0 ≤ v3 ∧ v3 ≤ 16) → (v3 - κ 0 12 ≤ 0) → (1 ≤ FL κ) → 18969552 + 25704 * (16 - v3) + 25092 < (N : Int) → zV G mX12_ways (q_X12_ways b.fo κ x1) 29 [some (.inr (.inr 0)), some (.inl x1), some (.inl v2), some (.inl v3), none] [] h) ∧ (∀ (v2 v3 v4 : Int) (h : Hp), Fr b.fo κ h → (0 ≤ x1 ∧ x1 ≤ 2) → (0 ≤ v3 ∧ v3 ≤ 15) → (v3 - κ 0 12 ≤ -1) → (0 ≤ v4 ∧ v4 ≤ 16) → (v4 - κ 0 11 ≤ 0) → (1 ≤ FL κ) → 18969552 + 25704 * (16 - v3) + 20196 + 34 * (16 - v4) + 33 < (N : Int) → zV G mX12_ways (q_X12_ways b.fo κ x1) 40 [some (.inr (.inr 0)), some (.inl x1), some (.inl v2), some (.inl v3), some (.inl v4)] [] h) := by
    intro N
    induction N with
    | zero =>
      refine ⟨?_, ?_⟩
      · intro v2 v3 h hF g0 g1 g2 gc0 hm
        exfalso; omega
      · intro v2 v3 v4 h hF g0 g1 g2 g3 g4 gc0 hm
        exfalso; omega
    | succ N ih =>
      obtain ⟨k29, k40⟩ := ih
      refine ⟨?_, ?_⟩
      · intro v2 v3 h hF g0 g1 g2 gc0 hm
        refine zW_iload_n (pc' := 30) dX12_ways_1.1.1.2.1 rfl rfl ?_
        refine zW_aload_n (pc' := 31) dX12_ways_1.1.1.2.2 rfl rfl ?_
        refine zG_key (pc' := 34) hF rfl fg_X12_103 tb0 rfl dX12_ways_1.1.2.1.1 rfl ?_
        refine zV_cm_ge (tgt := 93) (pc' := 37) dX12_ways_1.1.2.1.2 rfl rfl ⟨by omega, by omega⟩ ⟨by omega, by omega⟩ (fun c34 => ?_) (fun c34 => ?_)
        · refine zW_iload_n (pc' := 94) dX12_ways_3.2.1.2 rfl rfl ?_
          exact zV_iret rfl dX12_ways_3.2.2 ⟨hF, trivial⟩
        · refine zW_iconst (pc' := 38) dX12_ways_1.1.2.2.1 rfl ?_
          refine zW_istore (ls' := [_, _, _, _, _]) (pc' := 40) dX12_ways_1.1.2.2.2 (by decide) rfl rfl rfl ?_
          exact k40 _ _ _ _ hF (by omega) (by omega) (by omega) (by omega) (by omega) (by omega) (by omega)
      · intro v2 v3 v4 h hF g0 g1 g2 g3 g4 gc0 hm
        refine zW_iload (pc' := 42) dX12_ways_1.2.1.1.1 rfl rfl ?_
        refine zW_aload_n (pc' := 43) dX12_ways_1.2.1.1.2 rfl rfl ?_
        refine zG_key (pc' := 46) hF rfl fg_X12_99 tb0 rfl dX12_ways_1.2.1.2.1 rfl ?_
        refine zV_cm_ge (tgt := 87) (pc' := 49) dX12_ways_1.2.1.2.2 rfl rfl ⟨by omega, by omega⟩ ⟨by omega, by omega⟩ (fun c46 => ?_) (fun c46 => ?_)
        · refine zW_iinc (ls' := [_, _, _, _, _]) (pc' := 90) dX12_ways_3.1.2 rfl (by decide) rfl rfl rfl ?_
          refine zV_goto 29 dX12_ways_3.2.1.1 rfl ?_
          refine zV_clr 4 (ls' := [_, _, _, _, _]) rfl ?_
          exact k29 _ _ _ hF (by omega) (by omega) (by omega) (by omega) (by omega)
        · refine zW_aload_n (pc' := 50) dX12_ways_1.2.2.1.1 rfl rfl ?_
          refine zW_iload (pc' := 52) dX12_ways_1.2.2.1.2 rfl rfl ?_
          refine zW_iload_n (pc' := 53) dX12_ways_1.2.2.2.1 rfl rfl ?_
          refine cvI2 (pc' := 56) kX12_colourAt vX12_colourAt lk_X12_225 ⟨Nat.le_of_ble_eq_true rfl, Nat.le_of_ble_eq_true rfl⟩ tb0 vq12 rfl rfl (s_X12_colourAt hK hF _ ⟨by omega, by omega⟩ _ ⟨by omega, by omega⟩) dX12_ways_1.2.2.2.2 (Nat.le_of_ble_eq_true rfl) rfl ?_
          rintro r53 z53 ⟨hz53, p53⟩; subst z53
          refine zW_iconst (pc' := 57) dX12_ways_2.1.1.1.1 rfl ?_
          refine zV_cm_eq (tgt := 81) (pc' := 60) dX12_ways_2.1.1.1.2 rfl rfl ⟨by omega, by omega⟩ ⟨by omega, by omega⟩ (fun c57 => ?_) (fun c57 => ?_)
          · refine zW_iinc (ls' := [_, _, _, _, _]) (pc' := 84) dX12_ways_3.1.1.1 rfl (by decide) rfl rfl rfl ?_
            refine zV_goto 40 dX12_ways_3.1.1.2 rfl ?_
            exact k40 _ _ _ _ hF (by omega) (by omega) (by omega) (by omega) (by omega) (by omega) (by omega)
          · refine zW_aload_n (pc' := 61) dX12_ways_2.1.1.2.1 rfl rfl ?_
            refine zW_aload_n (pc' := 62) dX12_ways_2.1.1.2.2 rfl rfl ?_
            refine cvI0 (pc' := 65) kX12_filler vX12_filler lk_X12_196 ⟨Nat.le_of_ble_eq_true rfl, Nat.le_of_ble_eq_true rfl⟩ tb0 vq12 rfl rfl (s_X12_filler hK hF) dX12_ways_2.1.2.1.1 (Nat.le_of_ble_eq_true rfl) rfl ?_
            rintro r62 z62 ⟨hz62, p62⟩; subst z62
            refine zW_iconst (pc' := 66) dX12_ways_2.1.2.1.2 rfl ?_
            refine zW_isub (pc' := 67) dX12_ways_2.1.2.2.1 rfl ?_
            refine zW_iload (pc' := 69) dX12_ways_2.1.2.2.2 rfl rfl ?_
            refine zW_iload_n (pc' := 70) dX12_ways_2.2.1.1.1 rfl rfl ?_
            refine cvI3 (pc' := 73) kX12_wayOf vX12_wayOf lk_X12_274 ⟨Nat.le_of_ble_eq_true rfl, Nat.le_of_ble_eq_true rfl⟩ tb0 vq12 rfl rfl (s_X12_wayOf hK hF _ ⟨by omega, by omega⟩ _ ⟨by omega, by omega, by omega⟩ _ ⟨by omega, by omega, by omega⟩) dX12_ways_2.2.1.1.2 (Nat.le_of_ble_eq_true rfl) rfl ?_
            rintro r70 z70 ⟨hz70, p70⟩; subst z70
            refine zW_iload_n (pc' := 74) dX12_ways_2.2.1.2.1 rfl rfl ?_
            refine zV_cm_ne (tgt := 81) (pc' := 77) dX12_ways_2.2.1.2.2 rfl rfl ⟨by omega, by omega⟩ ⟨by omega, by omega⟩ (fun c74 => ?_) (fun c74 => ?_)
            · refine zW_iinc (ls' := [_, _, _, _, _]) (pc' := 84) dX12_ways_3.1.1.1 rfl (by decide) rfl rfl rfl ?_
              refine zV_goto 40 dX12_ways_3.1.1.2 rfl ?_
              exact k40 _ _ _ _ hF (by omega) (by omega) (by omega) (by omega) (by omega) (by omega) (by omega)
            · refine zW_iload_n (pc' := 78) dX12_ways_2.2.2.1.1 rfl rfl ?_
              refine zW_iconst (pc' := 79) dX12_ways_2.2.2.1.2 rfl ?_
              refine zW_iadd (pc' := 80) dX12_ways_2.2.2.2.1 rfl ?_
              refine zW_istore_n (ls' := [_, _, _, _, _]) (pc' := 81) dX12_ways_2.2.2.2.2 (by decide) rfl rfl rfl ?_
              refine zW_iinc (ls' := [_, _, _, _, _]) (pc' := 84) dX12_ways_3.1.1.1 rfl (by decide) rfl rfl rfl ?_
              refine zV_goto 40 dX12_ways_3.1.1.2 rfl ?_
              exact k40 _ _ _ _ hF (by omega) (by omega) (by omega) (by omega) (by omega) (by omega) (by omega)
  refine zM_of [some (.inr (.inr 0)), some (.inl x1), none, none, none] 3 rfl rfl (Nat.le_of_ble_eq_true rfl) rfl ?_
  refine zW_iload_n (pc' := 1) dX12_ways_0.1.1.1.1 rfl rfl ?_
  refine zW_iconst (pc' := 2) dX12_ways_0.1.1.1.2 rfl ?_
  refine zW_iconst (pc' := 3) dX12_ways_0.1.1.2.1 rfl ?_
  refine csI3 (pc' := 6) kX12_in vX12_in lk_X12_140 ⟨Nat.le_of_ble_eq_true rfl, Nat.le_of_ble_eq_true rfl⟩ rfl (s_X12_inR hF _ ⟨by omega, by omega⟩ _ ⟨by omega, by omega⟩ _ ⟨by omega, by omega⟩) dX12_ways_0.1.1.2.2 (Nat.le_of_ble_eq_true rfl) rfl ?_
  rintro r3 z3 ⟨hz3, p3⟩; subst z3
  refine zV_if_ne (tgt := 11) (pc' := 9) dX12_ways_0.1.2.1.1 rfl rfl ⟨by omega, by omega⟩ (fun c6 => ?_) (fun c6 => ?_)
  · refine zW_aload_n (pc' := 12) dX12_ways_0.1.2.2.2 rfl rfl ?_
    refine cvI0 (pc' := 15) kX12_isAlongEdges vX12_isAlongEdges lk_X12_400 ⟨Nat.le_of_ble_eq_true rfl, Nat.le_of_ble_eq_true rfl⟩ tb0 vq12 rfl rfl (s_X12_isAlongEdges hK hF) dX12_ways_0.2.1.1.1 (Nat.le_of_ble_eq_true rfl) rfl ?_
    rintro r12 z12 ⟨hz12, p12⟩; subst z12
    refine zV_if_ne (tgt := 21) (pc' := 18) dX12_ways_0.2.1.1.2 rfl rfl ⟨by omega, by omega⟩ (fun c15 => ?_) (fun c15 => ?_)
    · refine zW_aload_n (pc' := 22) dX12_ways_0.2.2.1.1 rfl rfl ?_
      refine cvV0 (pc' := 25) kX12_leaves vX12_leaves lk_X12_377 ⟨Nat.le_of_ble_eq_true rfl, Nat.le_of_ble_eq_true rfl⟩ tb0 vq12 rfl rfl (hLv hK hF) dX12_ways_0.2.2.1.2 (Nat.le_of_ble_eq_true rfl) rfl ?_
      rintro r22 h ⟨hF, p22⟩
      refine zW_iconst (pc' := 26) dX12_ways_0.2.2.2.1 rfl ?_
      refine zW_istore_n (ls' := [_, _, _, _, _]) (pc' := 27) dX12_ways_0.2.2.2.2 (by decide) rfl rfl rfl ?_
      refine zW_iconst (pc' := 28) dX12_ways_1.1.1.1.1 rfl ?_
      refine zW_istore_n (ls' := [_, _, _, _, _]) (pc' := 29) dX12_ways_1.1.1.1.2 (by decide) rfl rfl rfl ?_
      exact (main 10000000000000000000000000000000000000000).1 _ _ _ hF (by omega) (by omega) (by omega) (by omega) (by omega)
    · refine zW_bipush (pc' := 20) dX12_ways_0.2.1.2.1 rfl rfl ?_
      exact zV_iret rfl dX12_ways_0.2.1.2.2 ⟨hF, trivial⟩
  · refine zW_iconst (pc' := 10) dX12_ways_0.1.2.1.2 rfl ?_
    exact zV_iret rfl dX12_ways_0.1.2.2.1 ⟨hF, trivial⟩

abbrev q_X12_white (b : Bd) (κ : Hp) (x1 : Int) (x2 : Int) : Int → Hp → Prop := fun r h' => Fr b κ h' ∧ (True)
set_option maxHeartbeats 4000000 in
set_option maxRecDepth 20000 in
theorem s_X12_white {G : Ga} {b : Bd} {κ h : Hp} (hK : KR κ) (hF : Fr b.fo κ h) (x1 : Int) (hx1 : rng x1) (x2 : Int) (hx2 : rng x2) (hLv : LeavesOK b) : zM G mX12_white yX12_white [.inr (.inr 0), .inl x1, .inl x2] h (q_X12_white b.fo κ x1 x2) := by
  have f_0_14 := KRm hK
  unfold rng at hx1
  unfold rng at hx2
  refine zM_of [some (.inr (.inr 0)), some (.inl x1), some (.inl x2)] 0 rfl rfl (Nat.le_of_ble_eq_true rfl) rfl ?_
  refine zW_aload_n (pc' := 1) dX12_white_0.1.1.1.1 rfl rfl ?_
  refine zW_iload_n (pc' := 2) dX12_white_0.1.1.1.2 rfl rfl ?_
  refine cvI1 (pc' := 5) kX12_isStage vX12_isStage lk_X12_199 ⟨Nat.le_of_ble_eq_true rfl, Nat.le_of_ble_eq_true rfl⟩ tb0 vq12 rfl rfl (s_X12_isStage hK hF _ ⟨by omega, by omega⟩) dX12_white_0.1.1.2.1 (Nat.le_of_ble_eq_true rfl) rfl ?_
  rintro r2 z2 ⟨hz2, p2⟩; subst z2
  refine zV_if_eq (tgt := 17) (pc' := 8) dX12_white_0.1.1.2.2 rfl rfl ⟨by omega, by omega⟩ (fun c5 => ?_) (fun c5 => ?_)
  · refine zW_iconst (pc' := 18) dX12_white_0.2.1.1.2 rfl ?_
    exact zV_iret rfl dX12_white_0.2.1.2.1 ⟨hF, trivial⟩
  · refine zW_iload_n (pc' := 9) dX12_white_0.1.2.1.1 rfl rfl ?_
    refine zW_iconst (pc' := 10) dX12_white_0.1.2.1.2 rfl ?_
    refine zW_iconst (pc' := 11) dX12_white_0.1.2.2.1 rfl ?_
    refine csI3 (pc' := 14) kX12_in vX12_in lk_X12_140 ⟨Nat.le_of_ble_eq_true rfl, Nat.le_of_ble_eq_true rfl⟩ rfl (s_X12_inR hF _ ⟨by omega, by omega⟩ _ ⟨by omega, by omega⟩ _ ⟨by omega, by omega⟩) dX12_white_0.1.2.2.2 (Nat.le_of_ble_eq_true rfl) rfl ?_
    rintro r11 z11 ⟨hz11, p11⟩; subst z11
    refine zV_if_ne (tgt := 19) (pc' := 17) dX12_white_0.2.1.1.1 rfl rfl ⟨by omega, by omega⟩ (fun c14 => ?_) (fun c14 => ?_)
    · refine zW_aload_n (pc' := 20) dX12_white_0.2.1.2.2 rfl rfl ?_
      refine zW_iload_n (pc' := 21) dX12_white_0.2.2.1.1 rfl rfl ?_
      refine zW_bipush (pc' := 23) dX12_white_0.2.2.1.2 rfl rfl ?_
      refine cvI2 (pc' := 26) kX12_isKind vX12_isKind lk_X12_383 ⟨Nat.le_of_ble_eq_true rfl, Nat.le_of_ble_eq_true rfl⟩ tb0 vq12 rfl rfl (s_X12_isKind hK hF _ ⟨by omega, by omega⟩ _ ⟨by omega, by omega⟩) dX12_white_0.2.2.2.1 (Nat.le_of_ble_eq_true rfl) rfl ?_
      rintro r23 z23 ⟨hz23, p23⟩; subst z23
      refine zV_if_ne (tgt := 32) (pc' := 29) dX12_white_0.2.2.2.2 rfl rfl ⟨by omega, by omega⟩ (fun c26 => ?_) (fun c26 => ?_)
      · refine zW_aload_n (pc' := 33) dX12_white_1.1.1.2.1 rfl rfl ?_
        refine cvV0 (pc' := 36) kX12_leaves vX12_leaves lk_X12_377 ⟨Nat.le_of_ble_eq_true rfl, Nat.le_of_ble_eq_true rfl⟩ tb0 vq12 rfl rfl (hLv hK hF) dX12_white_1.1.1.2.2 (Nat.le_of_ble_eq_true rfl) rfl ?_
        rintro r33 h ⟨hF, p33⟩
        refine zW_aload_n (pc' := 37) dX12_white_1.1.2.1.1 rfl rfl ?_
        refine zW_iload_n (pc' := 38) dX12_white_1.1.2.1.2 rfl rfl ?_
        refine zW_iconst (pc' := 39) dX12_white_1.1.2.2.1 rfl ?_
        refine zW_isub (pc' := 40) dX12_white_1.1.2.2.2 rfl ?_
        refine zW_aload_n (pc' := 41) dX12_white_1.2.1.1.1 rfl rfl ?_
        refine zW_iload_n (pc' := 42) dX12_white_1.2.1.1.2 rfl rfl ?_
        refine zW_iconst (pc' := 43) dX12_white_1.2.1.2.1 rfl ?_
        refine cvI2 (pc' := 46) kX12_numberOf vX12_numberOf lk_X12_206 ⟨Nat.le_of_ble_eq_true rfl, Nat.le_of_ble_eq_true rfl⟩ tb0 vq12 rfl rfl (s_X12_numberOf hK hF _ ⟨by omega, by omega⟩ _ ⟨by omega, by omega⟩) dX12_white_1.2.1.2.2 (Nat.le_of_ble_eq_true rfl) rfl ?_
        rintro r43 z43 ⟨hz43, p43⟩; subst z43
        refine cvV2 (pc' := 49) kX12_findsWhite vX12_findsWhite lk_X12_344 ⟨Nat.le_of_ble_eq_true rfl, Nat.le_of_ble_eq_true rfl⟩ tb0 vq12 rfl rfl (s_X12_findsWhite hK hF _ ⟨by omega, by omega⟩ _) dX12_white_1.2.2.1.1 (Nat.le_of_ble_eq_true rfl) rfl ?_
        rintro r46 h ⟨hF, p46⟩
        refine zW_iload_n (pc' := 50) dX12_white_1.2.2.1.2 rfl rfl ?_
        refine zV_if_ne (tgt := 60) (pc' := 53) dX12_white_1.2.2.2.1 rfl rfl ⟨by omega, by omega⟩ (fun c50 => ?_) (fun c50 => ?_)
        · refine zW_iload_n (pc' := 61) dX12_white_2.1.1.2 rfl rfl ?_
          refine zW_iconst (pc' := 62) dX12_white_2.1.2.1.1 rfl ?_
          refine zV_cm_ne (tgt := 72) (pc' := 65) dX12_white_2.1.2.1.2 rfl rfl ⟨by omega, by omega⟩ ⟨by omega, by omega⟩ (fun c62 => ?_) (fun c62 => ?_)
          · refine zW_aload_n (pc' := 73) dX12_white_2.2.1.2 rfl rfl ?_
            refine zG_int (pc' := 76) fg_X12_292 tb0 rfl dX12_white_2.2.2.1 rfl ?_
            exact zV_iret rfl dX12_white_2.2.2.2 ⟨hF, trivial⟩
          · refine zW_aload_n (pc' := 66) dX12_white_2.1.2.2 rfl rfl ?_
            refine zG_int (pc' := 69) fg_X12_304 tb0 rfl dX12_white_2.2.1.1.1 rfl ?_
            refine zV_goto 76 dX12_white_2.2.1.1.2 rfl ?_
            exact zV_iret rfl dX12_white_2.2.2.2 ⟨hF, trivial⟩
        · refine zW_aload_n (pc' := 54) dX12_white_1.2.2.2.2 rfl rfl ?_
          refine zG_int (pc' := 57) fg_X12_301 tb0 rfl dX12_white_2.1.1.1.1 rfl ?_
          refine zV_goto 76 dX12_white_2.1.1.1.2 rfl ?_
          exact zV_iret rfl dX12_white_2.2.2.2 ⟨hF, trivial⟩
      · refine zW_bipush (pc' := 31) dX12_white_1.1.1.1.1 rfl rfl ?_
        exact zV_iret rfl dX12_white_1.1.1.1.2 ⟨hF, trivial⟩
    · refine zW_iconst (pc' := 18) dX12_white_0.2.1.1.2 rfl ?_
      exact zV_iret rfl dX12_white_0.2.1.2.1 ⟨hF, trivial⟩

abbrev q_X12_base (b : Bd) (κ : Hp) (x1 : Int) (x2 : Int) (x3 : Int) : Int → Hp → Prop := fun r h' => Fr b κ h' ∧ (True)
set_option maxHeartbeats 4000000 in
set_option maxRecDepth 20000 in
theorem s_X12_base {G : Ga} {b : Bd} {κ h : Hp} (hK : KR κ) (hF : Fr b.fo κ h) (x1 : Int) (hx1 : rng x1) (x2 : Int) (hx2 : rng x2) (x3 : Int) (hx3 : rng x3) (hLv : LeavesOK b) : zM G mX12_base yX12_base [.inr (.inr 0), .inl x1, .inl x2, .inl x3] h (q_X12_base b.fo κ x1 x2 x3) := by
  have f_0_11 := KRw hK
  have f_0_12 := KRh hK
  have f_0_14 := KRm hK
  unfold rng at hx1
  unfold rng at hx2
  unfold rng at hx3
  refine zM_of [some (.inr (.inr 0)), some (.inl x1), some (.inl x2), some (.inl x3)] 0 rfl rfl (Nat.le_of_ble_eq_true rfl) rfl ?_
  refine zW_aload_n (pc' := 1) dX12_base_0.1.1.1.1 rfl rfl ?_
  refine zW_iload_n (pc' := 2) dX12_base_0.1.1.1.2 rfl rfl ?_
  refine cvI1 (pc' := 5) kX12_isStage vX12_isStage lk_X12_199 ⟨Nat.le_of_ble_eq_true rfl, Nat.le_of_ble_eq_true rfl⟩ tb0 vq12 rfl rfl (s_X12_isStage hK hF _ ⟨by omega, by omega⟩) dX12_base_0.1.1.2.1 (Nat.le_of_ble_eq_true rfl) rfl ?_
  rintro r2 z2 ⟨hz2, p2⟩; subst z2
  refine zV_if_eq (tgt := 17) (pc' := 8) dX12_base_0.1.1.2.2 rfl rfl ⟨by omega, by omega⟩ (fun c5 => ?_) (fun c5 => ?_)
  · refine zW_iconst (pc' := 18) dX12_base_0.2.1.1.2 rfl ?_
    exact zV_iret rfl dX12_base_0.2.1.2.1 ⟨hF, trivial⟩
  · refine zW_aload_n (pc' := 9) dX12_base_0.1.2.1.1 rfl rfl ?_
    refine zW_iload_n (pc' := 10) dX12_base_0.1.2.1.2 rfl rfl ?_
    refine zW_iload_n (pc' := 11) dX12_base_0.1.2.2.1 rfl rfl ?_
    refine cvI2 (pc' := 14) kX12_isSquare vX12_isSquare lk_X12_218 ⟨Nat.le_of_ble_eq_true rfl, Nat.le_of_ble_eq_true rfl⟩ tb0 vq12 rfl rfl (s_X12_isSquare hK hF _ ⟨by omega, by omega⟩ _ ⟨by omega, by omega⟩) dX12_base_0.1.2.2.2 (Nat.le_of_ble_eq_true rfl) rfl ?_
    rintro r11 z11 ⟨hz11, p11⟩; subst z11
    refine zV_if_ne (tgt := 19) (pc' := 17) dX12_base_0.2.1.1.1 rfl rfl ⟨by omega, by omega⟩ (fun c14 => ?_) (fun c14 => ?_)
    · refine zW_aload_n (pc' := 20) dX12_base_0.2.1.2.2 rfl rfl ?_
      refine zW_iload_n (pc' := 21) dX12_base_0.2.2.1.1 rfl rfl ?_
      refine zW_bipush (pc' := 23) dX12_base_0.2.2.1.2 rfl rfl ?_
      refine cvI2 (pc' := 26) kX12_isKind vX12_isKind lk_X12_383 ⟨Nat.le_of_ble_eq_true rfl, Nat.le_of_ble_eq_true rfl⟩ tb0 vq12 rfl rfl (s_X12_isKind hK hF _ ⟨by omega, by omega⟩ _ ⟨by omega, by omega⟩) dX12_base_0.2.2.2.1 (Nat.le_of_ble_eq_true rfl) rfl ?_
      rintro r23 z23 ⟨hz23, p23⟩; subst z23
      refine zV_if_ne (tgt := 32) (pc' := 29) dX12_base_0.2.2.2.2 rfl rfl ⟨by omega, by omega⟩ (fun c26 => ?_) (fun c26 => ?_)
      · refine zW_aload_n (pc' := 33) dX12_base_1.1.1.2.1 rfl rfl ?_
        refine cvV0 (pc' := 36) kX12_leaves vX12_leaves lk_X12_377 ⟨Nat.le_of_ble_eq_true rfl, Nat.le_of_ble_eq_true rfl⟩ tb0 vq12 rfl rfl (hLv hK hF) dX12_base_1.1.1.2.2 (Nat.le_of_ble_eq_true rfl) rfl ?_
        rintro r33 h ⟨hF, p33⟩
        refine zW_aload_n (pc' := 37) dX12_base_1.1.2.1.1 rfl rfl ?_
        refine zW_iload_n (pc' := 38) dX12_base_1.1.2.1.2 rfl rfl ?_
        refine zW_iconst (pc' := 39) dX12_base_1.1.2.2.1 rfl ?_
        refine zW_isub (pc' := 40) dX12_base_1.1.2.2.2 rfl ?_
        refine zW_iload_n (pc' := 41) dX12_base_1.2.1.1.1 rfl rfl ?_
        refine zW_iload_n (pc' := 42) dX12_base_1.2.1.1.2 rfl rfl ?_
        refine zW_aload_n (pc' := 43) dX12_base_1.2.1.2.1 rfl rfl ?_
        refine zW_iload_n (pc' := 44) dX12_base_1.2.1.2.2 rfl rfl ?_
        refine zW_iconst (pc' := 45) dX12_base_1.2.2.1.1 rfl ?_
        refine cvI2 (pc' := 48) kX12_numberOf vX12_numberOf lk_X12_206 ⟨Nat.le_of_ble_eq_true rfl, Nat.le_of_ble_eq_true rfl⟩ tb0 vq12 rfl rfl (s_X12_numberOf hK hF _ ⟨by omega, by omega⟩ _ ⟨by omega, by omega⟩) dX12_base_1.2.2.1.2 (Nat.le_of_ble_eq_true rfl) rfl ?_
        rintro r45 z45 ⟨hz45, p45⟩; subst z45
        have ho := KRo hK (k := x1) (by omega) (by omega) (Or.inr (by omega))
        refine cvI4 (pc' := 51) kX12_baseOf vX12_baseOf lk_X12_331 ⟨Nat.le_of_ble_eq_true rfl, Nat.le_of_ble_eq_true rfl⟩ tb0 vq12 rfl rfl (s_X12_baseOf hK hF _ ⟨by omega, by omega⟩ _ ⟨by omega, by omega, by omega⟩ _ ⟨by omega, by omega, by omega⟩ _ ⟨by omega, by omega⟩) dX12_base_1.2.2.2.1 (Nat.le_of_ble_eq_true rfl) rfl ?_
        rintro r48 z48 ⟨hz48, p48⟩; subst z48
        exact zV_iret rfl dX12_base_1.2.2.2.2 ⟨hF, trivial⟩
      · refine zW_bipush (pc' := 31) dX12_base_1.1.1.1.1 rfl rfl ?_
        exact zV_iret rfl dX12_base_1.1.1.1.2 ⟨hF, trivial⟩
    · refine zW_iconst (pc' := 18) dX12_base_0.2.1.1.2 rfl ?_
      exact zV_iret rfl dX12_base_0.2.1.2.1 ⟨hF, trivial⟩

abbrev q_X12_tone (b : Bd) (κ : Hp) (x1 : Int) (x2 : Int) (x3 : Int) (x4 : Int) : Int → Hp → Prop := fun r h' => Fr b κ h' ∧ (True)
set_option maxHeartbeats 4000000 in
set_option maxRecDepth 20000 in
theorem s_X12_tone {G : Ga} {b : Bd} {κ h : Hp} (hK : KR κ) (hF : Fr b.fo κ h) (x1 : Int) (hx1 : rng x1) (x2 : Int) (hx2 : rng x2) (x3 : Int) (hx3 : rng x3) (x4 : Int) (hx4 : rng x4) (hLv : LeavesOK b) : zM G mX12_tone yX12_tone [.inr (.inr 0), .inl x1, .inl x2, .inl x3, .inl x4] h (q_X12_tone b.fo κ x1 x2 x3 x4) := by
  have f_0_11 := KRw hK
  have f_0_12 := KRh hK
  have f_0_14 := KRm hK
  unfold rng at hx1
  unfold rng at hx2
  unfold rng at hx3
  unfold rng at hx4
  refine zM_of [some (.inr (.inr 0)), some (.inl x1), some (.inl x2), some (.inl x3), some (.inl x4)] 0 rfl rfl (Nat.le_of_ble_eq_true rfl) rfl ?_
  refine zW_aload_n (pc' := 1) dX12_tone_0.1.1.1.1 rfl rfl ?_
  refine zW_iload_n (pc' := 2) dX12_tone_0.1.1.1.2 rfl rfl ?_
  refine cvI1 (pc' := 5) kX12_isStage vX12_isStage lk_X12_199 ⟨Nat.le_of_ble_eq_true rfl, Nat.le_of_ble_eq_true rfl⟩ tb0 vq12 rfl rfl (s_X12_isStage hK hF _ ⟨by omega, by omega⟩) dX12_tone_0.1.1.2.1 (Nat.le_of_ble_eq_true rfl) rfl ?_
  rintro r2 z2 ⟨hz2, p2⟩; subst z2
  refine zV_if_eq (tgt := 27) (pc' := 8) dX12_tone_0.1.1.2.2 rfl rfl ⟨by omega, by omega⟩ (fun c5 => ?_) (fun c5 => ?_)
  · refine zW_iconst (pc' := 28) dX12_tone_0.2.2.2.1 rfl ?_
    exact zV_iret rfl dX12_tone_0.2.2.2.2 ⟨hF, trivial⟩
  · refine zW_iload_n (pc' := 9) dX12_tone_0.1.2.1.1 rfl rfl ?_
    refine zW_iconst (pc' := 10) dX12_tone_0.1.2.1.2 rfl ?_
    refine zW_iconst (pc' := 11) dX12_tone_0.1.2.2.1 rfl ?_
    refine csI3 (pc' := 14) kX12_in vX12_in lk_X12_140 ⟨Nat.le_of_ble_eq_true rfl, Nat.le_of_ble_eq_true rfl⟩ rfl (s_X12_inR hF _ ⟨by omega, by omega⟩ _ ⟨by omega, by omega⟩ _ ⟨by omega, by omega⟩) dX12_tone_0.1.2.2.2 (Nat.le_of_ble_eq_true rfl) rfl ?_
    rintro r11 z11 ⟨hz11, p11⟩; subst z11
    refine zV_if_eq (tgt := 27) (pc' := 17) dX12_tone_0.2.1.1.1 rfl rfl ⟨by omega, by omega⟩ (fun c14 => ?_) (fun c14 => ?_)
    · refine zW_iconst (pc' := 28) dX12_tone_0.2.2.2.1 rfl ?_
      exact zV_iret rfl dX12_tone_0.2.2.2.2 ⟨hF, trivial⟩
    · refine zW_aload_n (pc' := 18) dX12_tone_0.2.1.1.2 rfl rfl ?_
      refine zW_iload_n (pc' := 19) dX12_tone_0.2.1.2.1 rfl rfl ?_
      refine zW_iload (pc' := 21) dX12_tone_0.2.1.2.2 rfl rfl ?_
      refine cvI2 (pc' := 24) kX12_isSquare vX12_isSquare lk_X12_218 ⟨Nat.le_of_ble_eq_true rfl, Nat.le_of_ble_eq_true rfl⟩ tb0 vq12 rfl rfl (s_X12_isSquare hK hF _ ⟨by omega, by omega⟩ _ ⟨by omega, by omega⟩) dX12_tone_0.2.2.1.1 (Nat.le_of_ble_eq_true rfl) rfl ?_
      rintro r21 z21 ⟨hz21, p21⟩; subst z21
      refine zV_if_ne (tgt := 29) (pc' := 27) dX12_tone_0.2.2.1.2 rfl rfl ⟨by omega, by omega⟩ (fun c24 => ?_) (fun c24 => ?_)
      · refine zW_aload_n (pc' := 30) dX12_tone_1.1.1.1.1 rfl rfl ?_
        refine zW_iload_n (pc' := 31) dX12_tone_1.1.1.1.2 rfl rfl ?_
        refine zW_bipush (pc' := 33) dX12_tone_1.1.1.2.1 rfl rfl ?_
        refine cvI2 (pc' := 36) kX12_isKind vX12_isKind lk_X12_383 ⟨Nat.le_of_ble_eq_true rfl, Nat.le_of_ble_eq_true rfl⟩ tb0 vq12 rfl rfl (s_X12_isKind hK hF _ ⟨by omega, by omega⟩ _ ⟨by omega, by omega⟩) dX12_tone_1.1.1.2.2 (Nat.le_of_ble_eq_true rfl) rfl ?_
        rintro r33 z33 ⟨hz33, p33⟩; subst z33
        refine zV_if_ne (tgt := 42) (pc' := 39) dX12_tone_1.1.2.1.1 rfl rfl ⟨by omega, by omega⟩ (fun c36 => ?_) (fun c36 => ?_)
        · refine zW_aload_n (pc' := 43) dX12_tone_1.1.2.2.2 rfl rfl ?_
          refine cvV0 (pc' := 46) kX12_leaves vX12_leaves lk_X12_377 ⟨Nat.le_of_ble_eq_true rfl, Nat.le_of_ble_eq_true rfl⟩ tb0 vq12 rfl rfl (hLv hK hF) dX12_tone_1.2.1.1.1 (Nat.le_of_ble_eq_true rfl) rfl ?_
          rintro r43 h ⟨hF, p43⟩
          refine zW_aload_n (pc' := 47) dX12_tone_1.2.1.1.2 rfl rfl ?_
          refine zW_iload_n (pc' := 48) dX12_tone_1.2.1.2.1 rfl rfl ?_
          refine zW_iconst (pc' := 49) dX12_tone_1.2.1.2.2 rfl ?_
          refine zW_isub (pc' := 50) dX12_tone_1.2.2.1.1 rfl ?_
          refine cvV1 (pc' := 53) kX12_findsFloors vX12_findsFloors lk_X12_351 ⟨Nat.le_of_ble_eq_true rfl, Nat.le_of_ble_eq_true rfl⟩ tb0 vq12 rfl rfl (s_X12_findsFloors hK hF _ ⟨by omega, by omega⟩) dX12_tone_1.2.2.1.2 (Nat.le_of_ble_eq_true rfl) rfl ?_
          rintro r50 h ⟨hF, p50⟩
          refine zW_iload_n (pc' := 54) dX12_tone_1.2.2.2.1 rfl rfl ?_
          refine zW_iconst (pc' := 55) dX12_tone_1.2.2.2.2 rfl ?_
          refine zV_cm_ge (tgt := 69) (pc' := 58) dX12_tone_2.1.1.1.1 rfl rfl ⟨by omega, by omega⟩ ⟨by omega, by omega⟩ (fun c55 => ?_) (fun c55 => ?_)
          · refine zW_aload_n (pc' := 70) dX12_tone_2.1.2.2.2 rfl rfl ?_
            refine zW_iload_n (pc' := 71) dX12_tone_2.2.1.1.1 rfl rfl ?_
            refine zW_iload (pc' := 73) dX12_tone_2.2.1.1.2 rfl rfl ?_
            refine zW_aload_n (pc' := 74) dX12_tone_2.2.1.2.1 rfl rfl ?_
            refine zG_ref (pc' := 77) 4 fg_X12_19 tb0 rfl dX12_tone_2.2.1.2.2 rfl ?_
            refine zW_iload_n (pc' := 78) dX12_tone_2.2.2.1.1 rfl rfl ?_
            refine zW_iconst (pc' := 79) dX12_tone_2.2.2.1.2 rfl ?_
            refine zW_isub (pc' := 80) dX12_tone_2.2.2.2.1 rfl ?_
            refine zA_keyB (KRna hK) (pc' := 81) hF rfl tb4 (by omega) dX12_tone_2.2.2.2.2 (by decide) rfl (fun e80 => ?_)
            refine cvI3 (pc' := 84) kX12_toneAt vX12_toneAt lk_X12_334 ⟨Nat.le_of_ble_eq_true rfl, Nat.le_of_ble_eq_true rfl⟩ tb0 vq12 rfl rfl (s_X12_toneAt hK hF _ ⟨by omega, by omega, by omega⟩ _ ⟨by omega, by omega, by omega⟩ _ ⟨by omega, by omega⟩) dX12_tone_3.1 (Nat.le_of_ble_eq_true rfl) rfl ?_
            rintro r81 z81 ⟨hz81, p81⟩; subst z81
            exact zV_iret rfl dX12_tone_3.2 ⟨hF, trivial⟩
          · refine zW_aload_n (pc' := 59) dX12_tone_2.1.1.1.2 rfl rfl ?_
            refine zW_iload_n (pc' := 60) dX12_tone_2.1.1.2.1 rfl rfl ?_
            refine zW_iload_n (pc' := 61) dX12_tone_2.1.1.2.2 rfl rfl ?_
            refine zW_iload (pc' := 63) dX12_tone_2.1.2.1.1 rfl rfl ?_
            refine cvI3 (pc' := 66) kX12_floorAt vX12_floorAt lk_X12_316 ⟨Nat.le_of_ble_eq_true rfl, Nat.le_of_ble_eq_true rfl⟩ tb0 vq12 rfl rfl (s_X12_floorAt hK hF _ ⟨by omega, by omega⟩ _ ⟨by omega, by omega, by omega⟩ _ ⟨by omega, by omega, by omega⟩) dX12_tone_2.1.2.1.2 (Nat.le_of_ble_eq_true rfl) rfl ?_
            rintro r63 z63 ⟨hz63, p63⟩; subst z63
            refine zV_goto 84 dX12_tone_2.1.2.2.1 rfl ?_
            exact zV_iret rfl dX12_tone_3.2 ⟨hF, trivial⟩
        · refine zW_bipush (pc' := 41) dX12_tone_1.1.2.1.2 rfl rfl ?_
          exact zV_iret rfl dX12_tone_1.1.2.2.1 ⟨hF, trivial⟩
      · refine zW_iconst (pc' := 28) dX12_tone_0.2.2.2.1 rfl ?_
        exact zV_iret rfl dX12_tone_0.2.2.2.2 ⟨hF, trivial⟩

abbrev q_X12_levels (b : Bd) (κ : Hp) (x1 : Int) (x2 : Int) (x3 : Int) : Int → Hp → Prop := fun r h' => Fr b κ h' ∧ (True)
set_option maxHeartbeats 4000000 in
set_option maxRecDepth 20000 in
theorem s_X12_levels {G : Ga} {b : Bd} {κ h : Hp} (hK : KR κ) (hF : Fr b.fo κ h) (x1 : Int) (hx1 : rng x1) (x2 : Int) (hx2 : rng x2) (x3 : Int) (hx3 : rng x3) (hLv : LeavesOK b) : zM G mX12_levels yX12_levels [.inr (.inr 0), .inl x1, .inl x2, .inl x3] h (q_X12_levels b.fo κ x1 x2 x3) := by
  have f_0_14 := KRm hK
  unfold rng at hx1
  unfold rng at hx2
  unfold rng at hx3
  have main : ∀ N : Nat, (∀ (h : Hp), Fr b.fo κ h → (0 ≤ x1 ∧ x1 ≤ 12) → (x1 - κ 0 14 ≤ 0) → (0 ≤ x2 ∧ x2 ≤ 2) → (0 ≤ x3 ∧ x3 ≤ 25) → 1434738 < (N : Int) → zV G mX12_levels (q_X12_levels b.fo κ x1 x2 x3) 31 [some (.inr (.inr 0)), some (.inl x1), some (.inl x2), some (.inl x3), none, none, none, none] [] h) ∧ (∀ (v4 v5 v6 v7 : Int) (h : Hp), Fr b.fo κ h → (0 ≤ x1 ∧ x1 ≤ 12) → (x1 - κ 0 14 ≤ 0) → (0 ≤ x2 ∧ x2 ≤ 2) → (0 ≤ x3 ∧ x3 ≤ 9) → (0 ≤ v7 ∧ v7 ≤ 256) → 1140876 + 67 * (256 - v7) + 66 < (N : Int) → zV G mX12_levels (q_X12_levels b.fo κ x1 x2 x3) 86 [some (.inr (.inr 0)), some (.inl x1), some (.inl x2), some (.inl x3), some (.inl v4), some (.inl v5), some (.inl v6), some (.inl v7)] [] h) := by
    intro N
    induction N with
    | zero =>
      refine ⟨?_, ?_⟩
      · intro h hF g0 g1 g2 g3 hm
        exfalso; omega
      · intro v4 v5 v6 v7 h hF g0 g1 g2 g3 g4 hm
        exfalso; omega
    | succ N ih =>
      obtain ⟨k31, k86⟩ := ih
      refine ⟨?_, ?_⟩
      · intro h hF g0 g1 g2 g3 hm
        refine zW_aload_n (pc' := 32) dX12_levels_1.1.1.1.2 rfl rfl ?_
        refine cvV0 (pc' := 35) kX12_leaves vX12_leaves lk_X12_377 ⟨Nat.le_of_ble_eq_true rfl, Nat.le_of_ble_eq_true rfl⟩ tb0 vq12 rfl rfl (hLv hK hF) dX12_levels_1.1.1.2.1 (Nat.le_of_ble_eq_true rfl) rfl ?_
        rintro r32 h ⟨hF, p32⟩
        refine zW_aload_n (pc' := 36) dX12_levels_1.1.1.2.2 rfl rfl ?_
        refine zW_iload_n (pc' := 37) dX12_levels_1.1.2.1.1 rfl rfl ?_
        refine zW_iload_n (pc' := 38) dX12_levels_1.1.2.1.2 rfl rfl ?_
        refine cvV2 (pc' := 41) kX12_lists vX12_lists lk_X12_409 ⟨Nat.le_of_ble_eq_true rfl, Nat.le_of_ble_eq_true rfl⟩ tb0 vq12 rfl rfl (s_X12_lists hK hF _ ⟨by omega, by omega⟩ _ ⟨by omega, by omega⟩) dX12_levels_1.1.2.2.1 (Nat.le_of_ble_eq_true rfl) rfl ?_
        rintro r38 h ⟨hF, p38⟩
        refine zW_iload_n (pc' := 42) dX12_levels_1.1.2.2.2 rfl rfl ?_
        refine zW_bipush (pc' := 44) dX12_levels_1.2.1.1.1 rfl rfl ?_
        refine zV_cm_lt (tgt := 72) (pc' := 47) dX12_levels_1.2.1.1.2 rfl rfl ⟨by omega, by omega⟩ ⟨by omega, by omega⟩ (fun c44 => ?_) (fun c44 => ?_)
        · refine zW_sipush (pc' := 75) dX12_levels_2.2.1.1.2 rfl rfl ?_
          refine zW_istore (ls' := [_, _, _, _, _, _, _, _]) (pc' := 77) dX12_levels_2.2.1.2.1 (by decide) rfl rfl rfl ?_
          refine zW_iconst (pc' := 78) dX12_levels_2.2.1.2.2 rfl ?_
          refine zW_istore (ls' := [_, _, _, _, _, _, _, _]) (pc' := 80) dX12_levels_2.2.2.1.1 (by decide) rfl rfl rfl ?_
          refine zW_iconst (pc' := 81) dX12_levels_2.2.2.1.2 rfl ?_
          refine zW_istore (ls' := [_, _, _, _, _, _, _, _]) (pc' := 83) dX12_levels_2.2.2.2.1 (by decide) rfl rfl rfl ?_
          refine zW_iconst (pc' := 84) dX12_levels_2.2.2.2.2 rfl ?_
          refine zW_istore (ls' := [_, _, _, _, _, _, _, _]) (pc' := 86) dX12_levels_3.1.1.1.1 (by decide) rfl rfl rfl ?_
          exact k86 _ _ _ _ _ hF (by omega) (by omega) (by omega) (by omega) (by omega) (by omega)
        · refine zW_aload_n (pc' := 48) dX12_levels_1.2.1.2.1 rfl rfl ?_
          refine zW_sipush (pc' := 51) dX12_levels_1.2.1.2.2 rfl rfl ?_
          refine zW_iload_n (pc' := 52) dX12_levels_1.2.2.1.1 rfl rfl ?_
          refine zW_bipush (pc' := 54) dX12_levels_1.2.2.1.2 rfl rfl ?_
          refine zW_isub (pc' := 55) dX12_levels_1.2.2.2.1 rfl ?_
          refine zW_imul (pc' := 56) dX12_levels_1.2.2.2.2 rfl ?_
          refine zW_sipush (pc' := 59) dX12_levels_2.1.1.1.1 rfl rfl ?_
          refine zW_iload_n (pc' := 60) dX12_levels_2.1.1.1.2 rfl rfl ?_
          refine zW_bipush (pc' := 62) dX12_levels_2.1.1.2.1 rfl rfl ?_
          refine zW_isub (pc' := 63) dX12_levels_2.1.1.2.2 rfl ?_
          refine zW_imul (pc' := 64) dX12_levels_2.1.2.1.1 rfl ?_
          refine zW_sipush (pc' := 67) dX12_levels_2.1.2.1.2 rfl rfl ?_
          refine zW_iadd (pc' := 68) dX12_levels_2.1.2.2.1 rfl ?_
          refine cvI2 (pc' := 71) kX12_within vX12_within lk_X12_412 ⟨Nat.le_of_ble_eq_true rfl, Nat.le_of_ble_eq_true rfl⟩ tb0 vq12 rfl rfl (s_X12_within hK hF _ _) dX12_levels_2.1.2.2.2 (Nat.le_of_ble_eq_true rfl) rfl ?_
          rintro r68 z68 ⟨hz68, p68⟩; subst z68
          exact zV_iret rfl dX12_levels_2.2.1.1.1 ⟨hF, trivial⟩
      · intro v4 v5 v6 v7 h hF g0 g1 g2 g3 g4 hm
        refine zW_iload (pc' := 88) dX12_levels_3.1.1.1.2 rfl rfl ?_
        refine zW_aload_n (pc' := 89) dX12_levels_3.1.1.2.1 rfl rfl ?_
        refine zG_int (pc' := 92) fg_X12_403 tb0 rfl dX12_levels_3.1.1.2.2 rfl ?_
        have e89 := hF.2.2.1
        refine zV_cm_ge (tgt := 141) (pc' := 95) dX12_levels_3.1.2.1.1 rfl rfl ⟨by omega, by omega⟩ ⟨by omega, by omega⟩ (fun c92 => ?_) (fun c92 => ?_)
        · refine zW_iload_n (pc' := 142) dX12_levels_4.2.2.1.1 rfl rfl ?_
          refine zW_tsw dX12_levels_4.2.2.1.2 (fun z => if z = 0 then 176 else if z = 1 then 179 else if z = 2 then 182 else if z = 3 then 185 else if z = 4 then 190 else 201) ⟨by omega, by omega⟩ (tsw_ok (pc := 142) (lo := 0) (offs := #[34, 37, 40, 43, 48]) (tg := fun z => if z = 0 then 176 else if z = 1 then 179 else if z = 2 then 182 else if z = 3 then 185 else if z = 4 then 190 else 201) (by decide +kernel)) rfl (td := 201) rfl (fun c142 => ?_) (fun c142 c142b => ?_)
          · refine zW_aload_n (pc' := 202) dX12_levels_5.2.2.1.1 rfl rfl ?_
            refine zW_iconst (pc' := 203) dX12_levels_5.2.2.1.2 rfl ?_
            refine zW_iconst (pc' := 204) dX12_levels_5.2.2.2.1 rfl ?_
            refine cvI2 (pc' := 207) kX12_within vX12_within lk_X12_412 ⟨Nat.le_of_ble_eq_true rfl, Nat.le_of_ble_eq_true rfl⟩ tb0 vq12 rfl rfl (s_X12_within hK hF _ _) dX12_levels_5.2.2.2.2 (Nat.le_of_ble_eq_true rfl) rfl ?_
            rintro r204 z204 ⟨hz204, p204⟩; subst z204
            exact zV_iret rfl dX12_levels_6 ⟨hF, trivial⟩
          · split
            · refine zW_iload (pc' := 178) dX12_levels_4.2.2.2.1 rfl rfl ?_
              exact zV_iret rfl dX12_levels_4.2.2.2.2 ⟨hF, trivial⟩
            · split
              · refine zW_iload (pc' := 181) dX12_levels_5.1.1.1.1 rfl rfl ?_
                exact zV_iret rfl dX12_levels_5.1.1.1.2 ⟨hF, trivial⟩
              · split
                · refine zW_iload (pc' := 184) dX12_levels_5.1.1.2.1 rfl rfl ?_
                  exact zV_iret rfl dX12_levels_5.1.1.2.2 ⟨hF, trivial⟩
                · split
                  · refine zW_aload_n (pc' := 186) dX12_levels_5.1.2.1.1 rfl rfl ?_
                    refine cvI0 (pc' := 189) kX12_unlikeOnes vX12_unlikeOnes lk_X12_415 ⟨Nat.le_of_ble_eq_true rfl, Nat.le_of_ble_eq_true rfl⟩ tb0 vq12 rfl rfl (s_X12_unlikeOnes hK hF) dX12_levels_5.1.2.1.2 (Nat.le_of_ble_eq_true rfl) rfl ?_
                    rintro r186 z186 ⟨hz186, p186⟩; subst z186
                    exact zV_iret rfl dX12_levels_5.1.2.2.1 ⟨hF, trivial⟩
                  · split
                    · refine zW_aload_n (pc' := 191) dX12_levels_5.1.2.2.2 rfl rfl ?_
                      refine zW_sipush (pc' := 194) dX12_levels_5.2.1.1.1 rfl rfl ?_
                      refine zW_sipush (pc' := 197) dX12_levels_5.2.1.1.2 rfl rfl ?_
                      refine cvI2 (pc' := 200) kX12_within vX12_within lk_X12_412 ⟨Nat.le_of_ble_eq_true rfl, Nat.le_of_ble_eq_true rfl⟩ tb0 vq12 rfl rfl (s_X12_within hK hF _ _) dX12_levels_5.2.1.2.1 (Nat.le_of_ble_eq_true rfl) rfl ?_
                      rintro r197 z197 ⟨hz197, p197⟩; subst z197
                      exact zV_iret rfl dX12_levels_5.2.1.2.2 ⟨hF, trivial⟩
                    · refine zW_aload_n (pc' := 202) dX12_levels_5.2.2.1.1 rfl rfl ?_
                      refine zW_iconst (pc' := 203) dX12_levels_5.2.2.1.2 rfl ?_
                      refine zW_iconst (pc' := 204) dX12_levels_5.2.2.2.1 rfl ?_
                      refine cvI2 (pc' := 207) kX12_within vX12_within lk_X12_412 ⟨Nat.le_of_ble_eq_true rfl, Nat.le_of_ble_eq_true rfl⟩ tb0 vq12 rfl rfl (s_X12_within hK hF _ _) dX12_levels_5.2.2.2.2 (Nat.le_of_ble_eq_true rfl) rfl ?_
                      rintro r204 z204 ⟨hz204, p204⟩; subst z204
                      exact zV_iret rfl dX12_levels_6 ⟨hF, trivial⟩
        · refine zW_iload (pc' := 97) dX12_levels_3.1.2.1.2 rfl rfl ?_
          refine zW_aload_n (pc' := 98) dX12_levels_3.1.2.2.1 rfl rfl ?_
          refine zG_ref (pc' := 101) 29 fg_X12_96 tb0 rfl dX12_levels_3.1.2.2.2 rfl ?_
          refine zW_iload (pc' := 103) dX12_levels_3.2.1.1.1 rfl rfl ?_
          refine zV_iald (pc' := 104) tb29 (by omega) dX12_levels_3.2.1.1.2 (by decide) rfl ?_
          refine csI2 (pc' := 107) kX12_min vX12_min lk_X12_109 ⟨Nat.le_of_ble_eq_true rfl, Nat.le_of_ble_eq_true rfl⟩ rfl (s_X12_min hF _ _) dX12_levels_3.2.1.2.1 (Nat.le_of_ble_eq_true rfl) rfl ?_
          rintro r104 z104 ⟨hz104, p104⟩; subst z104
          refine zW_istore (ls' := [_, _, _, _, _, _, _, _]) (pc' := 109) dX12_levels_3.2.1.2.2 (by decide) rfl rfl rfl ?_
          refine zW_iload (pc' := 111) dX12_levels_3.2.2.1.1 rfl rfl ?_
          refine zW_aload_n (pc' := 112) dX12_levels_3.2.2.1.2 rfl rfl ?_
          refine zG_ref (pc' := 115) 29 fg_X12_96 tb0 rfl dX12_levels_3.2.2.2.1 rfl ?_
          refine zW_iload (pc' := 117) dX12_levels_3.2.2.2.2 rfl rfl ?_
          refine zV_iald (pc' := 118) tb29 (by omega) dX12_levels_4.1.1.1.1 (by decide) rfl ?_
          refine csI2 (pc' := 121) kX12_max vX12_max lk_X12_113 ⟨Nat.le_of_ble_eq_true rfl, Nat.le_of_ble_eq_true rfl⟩ rfl (s_X12_max hF _ _) dX12_levels_4.1.1.1.2 (Nat.le_of_ble_eq_true rfl) rfl ?_
          rintro r118 z118 ⟨hz118, p118⟩; subst z118
          refine zW_istore (ls' := [_, _, _, _, _, _, _, _]) (pc' := 123) dX12_levels_4.1.1.2.1 (by decide) rfl rfl rfl ?_
          refine zW_iload (pc' := 125) dX12_levels_4.1.1.2.2 rfl rfl ?_
          refine zW_aload_n (pc' := 126) dX12_levels_4.1.2.1.1 rfl rfl ?_
          refine zG_ref (pc' := 129) 29 fg_X12_96 tb0 rfl dX12_levels_4.1.2.1.2 rfl ?_
          refine zW_iload (pc' := 131) dX12_levels_4.1.2.2.1 rfl rfl ?_
          refine zV_iald (pc' := 132) tb29 (by omega) dX12_levels_4.1.2.2.2 (by decide) rfl ?_
          refine zW_iadd (pc' := 133) dX12_levels_4.2.1.1.1 rfl ?_
          refine zW_istore (ls' := [_, _, _, _, _, _, _, _]) (pc' := 135) dX12_levels_4.2.1.1.2 (by decide) rfl rfl rfl ?_
          refine zW_iinc (ls' := [_, _, _, _, _, _, _, _]) (pc' := 138) dX12_levels_4.2.1.2.1 rfl (by decide) rfl rfl rfl ?_
          refine zV_goto 86 dX12_levels_4.2.1.2.2 rfl ?_
          exact k86 _ _ _ _ _ hF (by omega) (by omega) (by omega) (by omega) (by omega) (by omega)
  refine zM_of [some (.inr (.inr 0)), some (.inl x1), some (.inl x2), some (.inl x3), none, none, none, none] 4 rfl rfl (Nat.le_of_ble_eq_true rfl) rfl ?_
  refine zW_aload_n (pc' := 1) dX12_levels_0.1.1.1.1 rfl rfl ?_
  refine zW_iload_n (pc' := 2) dX12_levels_0.1.1.1.2 rfl rfl ?_
  refine zW_iload_n (pc' := 3) dX12_levels_0.1.1.2.1 rfl rfl ?_
  refine cvI2 (pc' := 6) kX12_isLeftOf vX12_isLeftOf lk_X12_406 ⟨Nat.le_of_ble_eq_true rfl, Nat.le_of_ble_eq_true rfl⟩ tb0 vq12 rfl rfl (s_X12_isLeftOf hK hF _ ⟨by omega, by omega⟩ _ ⟨by omega, by omega⟩) dX12_levels_0.1.1.2.2 (Nat.le_of_ble_eq_true rfl) rfl ?_
  rintro r3 z3 ⟨hz3, p3⟩; subst z3
  refine zV_if_eq (tgt := 29) (pc' := 9) dX12_levels_0.1.2.1.1 rfl rfl ⟨by omega, by omega⟩ (fun c6 => ?_) (fun c6 => ?_)
  · refine zW_iconst (pc' := 30) dX12_levels_0.2.2.2.2 rfl ?_
    exact zV_iret rfl dX12_levels_1.1.1.1.1 ⟨hF, trivial⟩
  · refine zW_iload_n (pc' := 10) dX12_levels_0.1.2.1.2 rfl rfl ?_
    refine zW_iconst (pc' := 11) dX12_levels_0.1.2.2.1 rfl ?_
    refine zW_iconst (pc' := 12) dX12_levels_0.1.2.2.2 rfl ?_
    refine csI3 (pc' := 15) kX12_in vX12_in lk_X12_140 ⟨Nat.le_of_ble_eq_true rfl, Nat.le_of_ble_eq_true rfl⟩ rfl (s_X12_inR hF _ ⟨by omega, by omega⟩ _ ⟨by omega, by omega⟩ _ ⟨by omega, by omega⟩) dX12_levels_0.2.1.1.1 (Nat.le_of_ble_eq_true rfl) rfl ?_
    rintro r12 z12 ⟨hz12, p12⟩; subst z12
    refine zV_if_ne (tgt := 31) (pc' := 18) dX12_levels_0.2.1.1.2 rfl rfl ⟨by omega, by omega⟩ (fun c15 => ?_) (fun c15 => ?_)
    · exact (main 10000000000000000000000000000000000000000).1 _ hF (by omega) (by omega) (by omega) (by omega) (by omega)
    · refine zW_iload_n (pc' := 19) dX12_levels_0.2.1.2.1 rfl rfl ?_
      refine zW_bipush (pc' := 21) dX12_levels_0.2.1.2.2 rfl rfl ?_
      refine zW_bipush (pc' := 23) dX12_levels_0.2.2.1.1 rfl rfl ?_
      refine csI3 (pc' := 26) kX12_in vX12_in lk_X12_140 ⟨Nat.le_of_ble_eq_true rfl, Nat.le_of_ble_eq_true rfl⟩ rfl (s_X12_inR hF _ ⟨by omega, by omega⟩ _ ⟨by omega, by omega⟩ _ ⟨by omega, by omega⟩) dX12_levels_0.2.2.1.2 (Nat.le_of_ble_eq_true rfl) rfl ?_
      rintro r23 z23 ⟨hz23, p23⟩; subst z23
      refine zV_if_ne (tgt := 31) (pc' := 29) dX12_levels_0.2.2.2.1 rfl rfl ⟨by omega, by omega⟩ (fun c26 => ?_) (fun c26 => ?_)
      · exact (main 10000000000000000000000000000000000000000).1 _ hF (by omega) (by omega) (by omega) (by omega) (by omega)
      · refine zW_iconst (pc' := 30) dX12_levels_0.2.2.2.2 rfl ?_
        exact zV_iret rfl dX12_levels_1.1.1.1.1 ⟨hF, trivial⟩

abbrev q_X12_noise (b : Bd) (κ : Hp) (x1 : Int) (x2 : Int) (x3 : Int) (x4 : Int) : Int → Hp → Prop := fun r h' => Fr b κ h' ∧ (True)
set_option maxHeartbeats 4000000 in
set_option maxRecDepth 20000 in
theorem s_X12_noise {G : Ga} {b : Bd} {κ h : Hp} (hK : KR κ) (hF : Fr b.fo κ h) (x1 : Int) (hx1 : rng x1) (x2 : Int) (hx2 : rng x2) (x3 : Int) (hx3 : rng x3) (x4 : Int) (hx4 : rng x4) (hLv : LeavesOK b) : zM G mX12_noise yX12_noise [.inr (.inr 0), .inl x1, .inl x2, .inl x3, .inl x4] h (q_X12_noise b.fo κ x1 x2 x3 x4) := by
  have f_0_14 := KRm hK
  unfold rng at hx1
  unfold rng at hx2
  unfold rng at hx3
  unfold rng at hx4
  refine zM_of [some (.inr (.inr 0)), some (.inl x1), some (.inl x2), some (.inl x3), some (.inl x4)] 0 rfl rfl (Nat.le_of_ble_eq_true rfl) rfl ?_
  refine zW_aload_n (pc' := 1) dX12_noise_0.1.1.1.1 rfl rfl ?_
  refine zW_iload_n (pc' := 2) dX12_noise_0.1.1.1.2 rfl rfl ?_
  refine zW_iload_n (pc' := 3) dX12_noise_0.1.1.2.1 rfl rfl ?_
  refine cvI2 (pc' := 6) kX12_isLeftOf vX12_isLeftOf lk_X12_406 ⟨Nat.le_of_ble_eq_true rfl, Nat.le_of_ble_eq_true rfl⟩ tb0 vq12 rfl rfl (s_X12_isLeftOf hK hF _ ⟨by omega, by omega⟩ _ ⟨by omega, by omega⟩) dX12_noise_0.1.1.2.2 (Nat.le_of_ble_eq_true rfl) rfl ?_
  rintro r3 z3 ⟨hz3, p3⟩; subst z3
  refine zV_if_eq (tgt := 28) (pc' := 9) dX12_noise_0.1.2.1.1 rfl rfl ⟨by omega, by omega⟩ (fun c6 => ?_) (fun c6 => ?_)
  · refine zW_iconst (pc' := 29) dX12_noise_0.2.2.2.2 rfl ?_
    exact zV_iret rfl dX12_noise_1.1.1.1.1 ⟨hF, trivial⟩
  · refine zW_iload_n (pc' := 10) dX12_noise_0.1.2.1.2 rfl rfl ?_
    refine zW_iconst (pc' := 11) dX12_noise_0.1.2.2.1 rfl ?_
    refine zW_iconst (pc' := 12) dX12_noise_0.1.2.2.2 rfl ?_
    refine csI3 (pc' := 15) kX12_in vX12_in lk_X12_140 ⟨Nat.le_of_ble_eq_true rfl, Nat.le_of_ble_eq_true rfl⟩ rfl (s_X12_inR hF _ ⟨by omega, by omega⟩ _ ⟨by omega, by omega⟩ _ ⟨by omega, by omega⟩) dX12_noise_0.2.1.1.1 (Nat.le_of_ble_eq_true rfl) rfl ?_
    rintro r12 z12 ⟨hz12, p12⟩; subst z12
    refine zV_if_eq (tgt := 28) (pc' := 18) dX12_noise_0.2.1.1.2 rfl rfl ⟨by omega, by omega⟩ (fun c15 => ?_) (fun c15 => ?_)
    · refine zW_iconst (pc' := 29) dX12_noise_0.2.2.2.2 rfl ?_
      exact zV_iret rfl dX12_noise_1.1.1.1.1 ⟨hF, trivial⟩
    · refine zW_iload (pc' := 20) dX12_noise_0.2.1.2.1 rfl rfl ?_
      refine zW_iconst (pc' := 21) dX12_noise_0.2.1.2.2 rfl ?_
      refine zW_iconst (pc' := 22) dX12_noise_0.2.2.1.1 rfl ?_
      refine csI3 (pc' := 25) kX12_in vX12_in lk_X12_140 ⟨Nat.le_of_ble_eq_true rfl, Nat.le_of_ble_eq_true rfl⟩ rfl (s_X12_inR hF _ ⟨by omega, by omega⟩ _ ⟨by omega, by omega⟩ _ ⟨by omega, by omega⟩) dX12_noise_0.2.2.1.2 (Nat.le_of_ble_eq_true rfl) rfl ?_
      rintro r22 z22 ⟨hz22, p22⟩; subst z22
      refine zV_if_ne (tgt := 30) (pc' := 28) dX12_noise_0.2.2.2.1 rfl rfl ⟨by omega, by omega⟩ (fun c25 => ?_) (fun c25 => ?_)
      · refine zW_aload_n (pc' := 31) dX12_noise_1.1.1.1.2 rfl rfl ?_
        refine zW_iload_n (pc' := 32) dX12_noise_1.1.1.2.1 rfl rfl ?_
        refine cvI1 (pc' := 35) kX12_isBehind vX12_isBehind lk_X12_380 ⟨Nat.le_of_ble_eq_true rfl, Nat.le_of_ble_eq_true rfl⟩ tb0 vq12 rfl rfl (s_X12_isBehind hK hF _ ⟨by omega, by omega⟩) dX12_noise_1.1.1.2.2 (Nat.le_of_ble_eq_true rfl) rfl ?_
        rintro r32 z32 ⟨hz32, p32⟩; subst z32
        refine zV_if_ne (tgt := 41) (pc' := 38) dX12_noise_1.1.2.1.1 rfl rfl ⟨by omega, by omega⟩ (fun c35 => ?_) (fun c35 => ?_)
        · refine zW_aload_n (pc' := 42) dX12_noise_1.1.2.2.2 rfl rfl ?_
          refine cvV0 (pc' := 45) kX12_leaves vX12_leaves lk_X12_377 ⟨Nat.le_of_ble_eq_true rfl, Nat.le_of_ble_eq_true rfl⟩ tb0 vq12 rfl rfl (hLv hK hF) dX12_noise_1.2.1.1.1 (Nat.le_of_ble_eq_true rfl) rfl ?_
          rintro r42 h ⟨hF, p42⟩
          refine zW_aload_n (pc' := 46) dX12_noise_1.2.1.1.2 rfl rfl ?_
          refine zW_iload_n (pc' := 47) dX12_noise_1.2.1.2.1 rfl rfl ?_
          refine zW_iload_n (pc' := 48) dX12_noise_1.2.1.2.2 rfl rfl ?_
          refine zW_iload_n (pc' := 49) dX12_noise_1.2.2.1.1 rfl rfl ?_
          refine zW_iload (pc' := 51) dX12_noise_1.2.2.1.2 rfl rfl ?_
          refine cvI4 (pc' := 54) kX12_noiseOf vX12_noiseOf lk_X12_418 ⟨Nat.le_of_ble_eq_true rfl, Nat.le_of_ble_eq_true rfl⟩ tb0 vq12 rfl rfl (s_X12_noiseOf hK hF _ ⟨by omega, by omega⟩ _ ⟨by omega, by omega⟩ _ _) dX12_noise_1.2.2.2.1 (Nat.le_of_ble_eq_true rfl) rfl ?_
          rintro r51 z51 ⟨hz51, p51⟩; subst z51
          exact zV_iret rfl dX12_noise_1.2.2.2.2 ⟨hF, trivial⟩
        · refine zW_bipush (pc' := 40) dX12_noise_1.1.2.1.2 rfl rfl ?_
          exact zV_iret rfl dX12_noise_1.1.2.2.1 ⟨hF, trivial⟩
      · refine zW_iconst (pc' := 29) dX12_noise_0.2.2.2.2 rfl ?_
        exact zV_iret rfl dX12_noise_1.1.1.1.1 ⟨hF, trivial⟩

abbrev q_X12_percent (b : Bd) (κ : Hp) (x1 : Int) (x2 : Int) (x3 : Int) : Int → Hp → Prop := fun r h' => Fr b κ h' ∧ (True)
set_option maxHeartbeats 4000000 in
set_option maxRecDepth 20000 in
theorem s_X12_percent {G : Ga} {b : Bd} {κ h : Hp} (hK : KR κ) (hF : Fr b.fo κ h) (x1 : Int) (hx1 : rng x1) (x2 : Int) (hx2 : rng x2) (x3 : Int) (hx3 : rng x3) (hLv : LeavesOK b) : zM G mX12_percent yX12_percent [.inr (.inr 0), .inl x1, .inl x2, .inl x3] h (q_X12_percent b.fo κ x1 x2 x3) := by
  have f_0_14 := KRm hK
  unfold rng at hx1
  unfold rng at hx2
  unfold rng at hx3
  have main : ∀ N : Nat, (∀ (v4 : Int) (h : Hp), Fr b.fo κ h → (0 ≤ x1 ∧ x1 ≤ 12) → (x1 - κ 0 14 ≤ 0) → (0 ≤ x2 ∧ x2 ≤ 2) → (1 ≤ x3 ∧ x3 ≤ 100) → (0 ≤ v4 ∧ v4 ≤ 255) → 141864 + 24 * (255 - v4) + 23 < (N : Int) → zV G mX12_percent (q_X12_percent b.fo κ x1 x2 x3) 45 [some (.inr (.inr 0)), some (.inl x1), some (.inl x2), some (.inl x3), some (.inl v4)] [] h) := by
    intro N
    induction N with
    | zero =>
      intro v4 h hF g0 g1 g2 g3 g4 hm
      exfalso; omega
    | succ N ih =>
      have k45 := ih
      intro v4 h hF g0 g1 g2 g3 g4 hm
      refine zW_bipush (pc' := 47) dX12_percent_1.2.1.1.2 rfl rfl ?_
      refine zW_iload (pc' := 49) dX12_percent_1.2.1.2.1 rfl rfl ?_
      refine zW_iconst (pc' := 50) dX12_percent_1.2.1.2.2 rfl ?_
      refine zW_iadd (pc' := 51) dX12_percent_1.2.2.1.1 rfl ?_
      refine zW_imul (pc' := 52) dX12_percent_1.2.2.1.2 rfl ?_
      refine zW_iload_n (pc' := 53) dX12_percent_1.2.2.2.1 rfl rfl ?_
      refine zW_aload_n (pc' := 54) dX12_percent_1.2.2.2.2 rfl rfl ?_
      refine zG_int (pc' := 57) fg_X12_403 tb0 rfl dX12_percent_2.1.1.1.1 rfl ?_
      have e54 := hF.2.2.1
      have hm3 := mul_c (a := x3) (b := h 0 53) (by omega) hF.2.2.1
      refine zW_imul (pc' := 58) dX12_percent_2.1.1.1.2 rfl ?_
      refine zV_cm_ge (tgt := 70) (pc' := 61) dX12_percent_2.1.1.2.1 rfl rfl ⟨by omega, by omega⟩ ⟨by omega, by omega⟩ (fun c58 => ?_) (fun c58 => ?_)
      · refine zW_aload_n (pc' := 71) dX12_percent_2.2.1.1.2 rfl rfl ?_
        refine zG_ref (pc' := 74) 29 fg_X12_96 tb0 rfl dX12_percent_2.2.1.2 rfl ?_
        refine zW_iload (pc' := 76) dX12_percent_2.2.2.1.1 rfl rfl ?_
        refine zV_iald (pc' := 77) tb29 (by omega) dX12_percent_2.2.2.1.2 (by decide) rfl ?_
        exact zV_iret rfl dX12_percent_2.2.2.2 ⟨hF, trivial⟩
      · refine zW_iload (pc' := 63) dX12_percent_2.1.1.2.2 rfl rfl ?_
        refine zW_iconst (pc' := 64) dX12_percent_2.1.2.1.1 rfl ?_
        refine zW_iadd (pc' := 65) dX12_percent_2.1.2.1.2 rfl ?_
        refine zW_istore (ls' := [_, _, _, _, _]) (pc' := 67) dX12_percent_2.1.2.2 (by decide) rfl rfl rfl ?_
        refine zV_goto 45 dX12_percent_2.2.1.1.1 rfl ?_
        exact k45 _ _ hF (by omega) (by omega) (by omega) (by omega) (by omega) (by omega)
  refine zM_of [some (.inr (.inr 0)), some (.inl x1), some (.inl x2), some (.inl x3), none] 1 rfl rfl (Nat.le_of_ble_eq_true rfl) rfl ?_
  refine zW_aload_n (pc' := 1) dX12_percent_0.1.1.1.1 rfl rfl ?_
  refine zW_iload_n (pc' := 2) dX12_percent_0.1.1.1.2 rfl rfl ?_
  refine zW_iload_n (pc' := 3) dX12_percent_0.1.1.2.1 rfl rfl ?_
  refine cvI2 (pc' := 6) kX12_isLeftOf vX12_isLeftOf lk_X12_406 ⟨Nat.le_of_ble_eq_true rfl, Nat.le_of_ble_eq_true rfl⟩ tb0 vq12 rfl rfl (s_X12_isLeftOf hK hF _ ⟨by omega, by omega⟩ _ ⟨by omega, by omega⟩) dX12_percent_0.1.1.2.2 (Nat.le_of_ble_eq_true rfl) rfl ?_
  rintro r3 z3 ⟨hz3, p3⟩; subst z3
  refine zV_if_eq (tgt := 19) (pc' := 9) dX12_percent_0.1.2.1.1 rfl rfl ⟨by omega, by omega⟩ (fun c6 => ?_) (fun c6 => ?_)
  · refine zW_iconst (pc' := 20) dX12_percent_0.2.1.2.1 rfl ?_
    exact zV_iret rfl dX12_percent_0.2.1.2.2 ⟨hF, trivial⟩
  · refine zW_iload_n (pc' := 10) dX12_percent_0.1.2.1.2 rfl rfl ?_
    refine zW_iconst (pc' := 11) dX12_percent_0.1.2.2.1 rfl ?_
    refine zW_bipush (pc' := 13) dX12_percent_0.1.2.2.2 rfl rfl ?_
    refine csI3 (pc' := 16) kX12_in vX12_in lk_X12_140 ⟨Nat.le_of_ble_eq_true rfl, Nat.le_of_ble_eq_true rfl⟩ rfl (s_X12_inR hF _ ⟨by omega, by omega⟩ _ ⟨by omega, by omega⟩ _ ⟨by omega, by omega⟩) dX12_percent_0.2.1.1.1 (Nat.le_of_ble_eq_true rfl) rfl ?_
    rintro r13 z13 ⟨hz13, p13⟩; subst z13
    refine zV_if_ne (tgt := 21) (pc' := 19) dX12_percent_0.2.1.1.2 rfl rfl ⟨by omega, by omega⟩ (fun c16 => ?_) (fun c16 => ?_)
    · refine zW_aload_n (pc' := 22) dX12_percent_0.2.2.1.1 rfl rfl ?_
      refine cvV0 (pc' := 25) kX12_leaves vX12_leaves lk_X12_377 ⟨Nat.le_of_ble_eq_true rfl, Nat.le_of_ble_eq_true rfl⟩ tb0 vq12 rfl rfl (hLv hK hF) dX12_percent_0.2.2.1.2 (Nat.le_of_ble_eq_true rfl) rfl ?_
      rintro r22 h ⟨hF, p22⟩
      refine zW_aload_n (pc' := 26) dX12_percent_0.2.2.2.1 rfl rfl ?_
      refine zW_iload_n (pc' := 27) dX12_percent_0.2.2.2.2 rfl rfl ?_
      refine zW_iload_n (pc' := 28) dX12_percent_1.1.1.1.1 rfl rfl ?_
      refine cvV2 (pc' := 31) kX12_lists vX12_lists lk_X12_409 ⟨Nat.le_of_ble_eq_true rfl, Nat.le_of_ble_eq_true rfl⟩ tb0 vq12 rfl rfl (s_X12_lists hK hF _ ⟨by omega, by omega⟩ _ ⟨by omega, by omega⟩) dX12_percent_1.1.1.1.2 (Nat.le_of_ble_eq_true rfl) rfl ?_
      rintro r28 h ⟨hF, p28⟩
      refine zW_aload_n (pc' := 32) dX12_percent_1.1.1.2.1 rfl rfl ?_
      refine zG_ref (pc' := 35) 29 fg_X12_96 tb0 rfl dX12_percent_1.1.1.2.2 rfl ?_
      refine zW_aload_n (pc' := 36) dX12_percent_1.1.2.1.1 rfl rfl ?_
      refine zG_int (pc' := 39) fg_X12_403 tb0 rfl dX12_percent_1.1.2.1.2 rfl ?_
      have e36 := hF.2.2.1
      refine csV2 (pc' := 42) kX12_sorts vX12_sorts lk_X12_250 ⟨Nat.le_of_ble_eq_true rfl, Nat.le_of_ble_eq_true rfl⟩ rfl (s_X12_sorts hF _ tb29 (sr29) (by decide) _ ⟨by omega, by omega⟩ (by omega)) dX12_percent_1.1.2.2.1 (Nat.le_of_ble_eq_true rfl) rfl ?_
      rintro r39 h ⟨hF, p39⟩
      refine zW_iconst (pc' := 43) dX12_percent_1.1.2.2.2 rfl ?_
      refine zW_istore (ls' := [_, _, _, _, _]) (pc' := 45) dX12_percent_1.2.1.1.1 (by decide) rfl rfl rfl ?_
      exact (main 10000000000000000000000000000000000000000) _ _ hF (by omega) (by omega) (by omega) (by omega) (by omega) (by omega)
    · refine zW_iconst (pc' := 20) dX12_percent_0.2.1.2.1 rfl ?_
      exact zV_iret rfl dX12_percent_0.2.1.2.2 ⟨hF, trivial⟩

abbrev q_X12_bits (b : Bd) (κ : Hp) (x1 : Int) (x2 : Int) : Int → Hp → Prop := fun r h' => Fr b κ h' ∧ (True)
set_option maxHeartbeats 4000000 in
set_option maxRecDepth 20000 in
theorem s_X12_bits {G : Ga} {b : Bd} {κ h : Hp} (hK : KR κ) (hF : Fr b.fo κ h) (x1 : Int) (hx1 : rng x1) (x2 : Int) (hx2 : rng x2) (hLv : LeavesOK b) : zM G mX12_bits yX12_bits [.inr (.inr 0), .inl x1, .inl x2] h (q_X12_bits b.fo κ x1 x2) := by
  have f_0_14 := KRm hK
  unfold rng at hx1
  unfold rng at hx2
  have main : ∀ N : Nat, (∀ (v3 v4 v5 : Int) (h : Hp), Fr b.fo κ h → (0 ≤ x1 ∧ x1 ≤ 12) → (x1 - κ 0 14 ≤ 0) → (0 ≤ x2 ∧ x2 ≤ 2) → (-134217728 ≤ v4 ∧ v4 ≤ 134217728) → (0 ≤ v5 ∧ v5 ≤ 256) → 325080 + 36 * (256 - v5) + 35 < (N : Int) → zV G mX12_bits (q_X12_bits b.fo κ x1 x2) 29 [some (.inr (.inr 0)), some (.inl x1), some (.inl x2), some (.inl v3), some (.inl v4), some (.inl v5)] [] h) := by
    intro N
    induction N with
    | zero =>
      intro v3 v4 v5 h hF g0 g1 g2 g3 g4 hm
      exfalso; omega
    | succ N ih =>
      have k29 := ih
      intro v3 v4 v5 h hF g0 g1 g2 g3 g4 hm
      refine zW_iload (pc' := 31) dX12_bits_1.1.1.2.2 rfl rfl ?_
      refine zW_aload_n (pc' := 32) dX12_bits_1.1.2.1.1 rfl rfl ?_
      refine zG_int (pc' := 35) fg_X12_403 tb0 rfl dX12_bits_1.1.2.1.2 rfl ?_
      have e32 := hF.2.2.1
      refine zV_cm_ge (tgt := 82) (pc' := 38) dX12_bits_1.1.2.2.1 rfl rfl ⟨by omega, by omega⟩ ⟨by omega, by omega⟩ (fun c35 => ?_) (fun c35 => ?_)
      · refine zW_iload_n (pc' := 83) dX12_bits_3.1.2 rfl rfl ?_
        exact zV_iret rfl dX12_bits_3.2 ⟨hF, trivial⟩
      · refine zW_iload_n (pc' := 39) dX12_bits_1.1.2.2.2 rfl rfl ?_
        refine zW_iconst (pc' := 40) dX12_bits_1.2.1.1.1 rfl ?_
        refine zW_iadd (pc' := 41) dX12_bits_1.2.1.1.2 rfl ?_
        refine zW_iconst (pc' := 42) dX12_bits_1.2.1.2.1 rfl ?_
        refine zW_aload_n (pc' := 43) dX12_bits_1.2.1.2.2 rfl rfl ?_
        refine zG_ref (pc' := 46) 29 fg_X12_96 tb0 rfl dX12_bits_1.2.2.1.1 rfl ?_
        refine zW_iload (pc' := 48) dX12_bits_1.2.2.1.2 rfl rfl ?_
        refine zV_ialdI (pc' := 49) hF (by decide) (by decide) tb29 (by omega) dX12_bits_1.2.2.2.1 (by decide) rfl (fun e48 => ?_)
        refine zW_bipush (pc' := 51) dX12_bits_1.2.2.2.2 rfl rfl ?_
        refine zW_idivC (pc' := 52) (by omega) dX12_bits_2.1.1.1.1 rfl (fun v51 e51 => ?_)
        refine zW_iload (pc' := 54) dX12_bits_2.1.1.1.2 rfl rfl ?_
        refine zW_isub (pc' := 55) dX12_bits_2.1.1.2.1 rfl ?_
        refine csI1 (pc' := 58) kX12_size vX12_size lk_X12_257 ⟨Nat.le_of_ble_eq_true rfl, Nat.le_of_ble_eq_true rfl⟩ rfl (s_X12_sizeR hF _ ⟨by omega, by omega⟩) dX12_bits_2.1.1.2.2 (Nat.le_of_ble_eq_true rfl) rfl ?_
        rintro r55 z55 ⟨hz55, p55⟩; subst z55
        refine csI1 (pc' := 61) kX12_binaryDigits vX12_binaryDigits lk_X12_421 ⟨Nat.le_of_ble_eq_true rfl, Nat.le_of_ble_eq_true rfl⟩ rfl (s_X12_binaryDigits hF _ ⟨by omega, by omega⟩) dX12_bits_2.1.2.1.1 (Nat.le_of_ble_eq_true rfl) rfl ?_
        rintro r58 z58 ⟨hz58, p58⟩; subst z58
        refine zW_imul (pc' := 62) dX12_bits_2.1.2.1.2 rfl ?_
        refine zW_iadd (pc' := 63) dX12_bits_2.1.2.2.1 rfl ?_
        refine zW_istore_n (ls' := [_, _, _, _, _, _]) (pc' := 64) dX12_bits_2.1.2.2.2 (by decide) rfl rfl rfl ?_
        refine zW_aload_n (pc' := 65) dX12_bits_2.2.1.1.1 rfl rfl ?_
        refine zG_ref (pc' := 68) 29 fg_X12_96 tb0 rfl dX12_bits_2.2.1.1.2 rfl ?_
        refine zW_iload (pc' := 70) dX12_bits_2.2.1.2.1 rfl rfl ?_
        refine zV_ialdI (pc' := 71) hF (by decide) (by decide) tb29 (by omega) dX12_bits_2.2.1.2.2 (by decide) rfl (fun e70 => ?_)
        refine zW_bipush (pc' := 73) dX12_bits_2.2.2.1.1 rfl rfl ?_
        refine zW_idivC (pc' := 74) (by omega) dX12_bits_2.2.2.1.2 rfl (fun v73 e73 => ?_)
        refine zW_istore (ls' := [_, _, _, _, _, _]) (pc' := 76) dX12_bits_2.2.2.2.1 (by decide) rfl rfl rfl ?_
        refine zW_iinc (ls' := [_, _, _, _, _, _]) (pc' := 79) dX12_bits_2.2.2.2.2 rfl (by decide) rfl rfl rfl ?_
        refine zV_goto 29 dX12_bits_3.1.1 rfl ?_
        exact k29 _ _ _ _ hF (by omega) (by omega) (by omega) (by omega) (by omega) (by omega)
  refine zM_of [some (.inr (.inr 0)), some (.inl x1), some (.inl x2), none, none, none] 3 rfl rfl (Nat.le_of_ble_eq_true rfl) rfl ?_
  refine zW_aload_n (pc' := 1) dX12_bits_0.1.1.1.1 rfl rfl ?_
  refine zW_iload_n (pc' := 2) dX12_bits_0.1.1.1.2 rfl rfl ?_
  refine zW_iload_n (pc' := 3) dX12_bits_0.1.1.2.1 rfl rfl ?_
  refine cvI2 (pc' := 6) kX12_isLeftOf vX12_isLeftOf lk_X12_406 ⟨Nat.le_of_ble_eq_true rfl, Nat.le_of_ble_eq_true rfl⟩ tb0 vq12 rfl rfl (s_X12_isLeftOf hK hF _ ⟨by omega, by omega⟩ _ ⟨by omega, by omega⟩) dX12_bits_0.1.1.2.2 (Nat.le_of_ble_eq_true rfl) rfl ?_
  rintro r3 z3 ⟨hz3, p3⟩; subst z3
  refine zV_if_ne (tgt := 11) (pc' := 9) dX12_bits_0.1.2.1.1 rfl rfl ⟨by omega, by omega⟩ (fun c6 => ?_) (fun c6 => ?_)
  · refine zW_aload_n (pc' := 12) dX12_bits_0.1.2.2.2 rfl rfl ?_
    refine cvV0 (pc' := 15) kX12_leaves vX12_leaves lk_X12_377 ⟨Nat.le_of_ble_eq_true rfl, Nat.le_of_ble_eq_true rfl⟩ tb0 vq12 rfl rfl (hLv hK hF) dX12_bits_0.2.1.1.1 (Nat.le_of_ble_eq_true rfl) rfl ?_
    rintro r12 h ⟨hF, p12⟩
    refine zW_aload_n (pc' := 16) dX12_bits_0.2.1.1.2 rfl rfl ?_
    refine zW_iload_n (pc' := 17) dX12_bits_0.2.1.2.1 rfl rfl ?_
    refine zW_iload_n (pc' := 18) dX12_bits_0.2.1.2.2 rfl rfl ?_
    refine cvV2 (pc' := 21) kX12_lists vX12_lists lk_X12_409 ⟨Nat.le_of_ble_eq_true rfl, Nat.le_of_ble_eq_true rfl⟩ tb0 vq12 rfl rfl (s_X12_lists hK hF _ ⟨by omega, by omega⟩ _ ⟨by omega, by omega⟩) dX12_bits_0.2.2.1.1 (Nat.le_of_ble_eq_true rfl) rfl ?_
    rintro r18 h ⟨hF, p18⟩
    refine zW_iconst (pc' := 22) dX12_bits_0.2.2.1.2 rfl ?_
    refine zW_istore_n (ls' := [_, _, _, _, _, _]) (pc' := 23) dX12_bits_0.2.2.2.1 (by decide) rfl rfl rfl ?_
    refine zW_iconst (pc' := 24) dX12_bits_0.2.2.2.2 rfl ?_
    refine zW_istore (ls' := [_, _, _, _, _, _]) (pc' := 26) dX12_bits_1.1.1.1.1 (by decide) rfl rfl rfl ?_
    refine zW_iconst (pc' := 27) dX12_bits_1.1.1.1.2 rfl ?_
    refine zW_istore (ls' := [_, _, _, _, _, _]) (pc' := 29) dX12_bits_1.1.1.2.1 (by decide) rfl rfl rfl ?_
    exact (main 10000000000000000000000000000000000000000) _ _ _ _ hF (by omega) (by omega) (by omega) (by omega) (by omega) (by omega)
  · refine zW_iconst (pc' := 10) dX12_bits_0.1.2.1.2 rfl ?_
    exact zV_iret rfl dX12_bits_0.1.2.2.1 ⟨hF, trivial⟩

abbrev q_X12_ring (b : Bd) (κ : Hp) (x1 : Int) (x2 : Int) (x3 : Int) (x4 : Int) : Int → Hp → Prop := fun r h' => Fr b κ h' ∧ (True)
set_option maxHeartbeats 4000000 in
set_option maxRecDepth 20000 in
theorem s_X12_ring {G : Ga} {b : Bd} {κ h : Hp} (hK : KR κ) (hF : Fr b.fo κ h) (x1 : Int) (hx1 : rng x1) (x2 : Int) (hx2 : rng x2) (x3 : Int) (hx3 : rng x3) (x4 : Int) (hx4 : rng x4) (hLv : LeavesOK b) : zM G mX12_ring yX12_ring [.inr (.inr 0), .inl x1, .inl x2, .inl x3, .inl x4] h (q_X12_ring b.fo κ x1 x2 x3 x4) := by
  have f_0_11 := KRw hK
  have f_0_12 := KRh hK
  have f_0_14 := KRm hK
  unfold rng at hx1
  unfold rng at hx2
  unfold rng at hx3
  unfold rng at hx4
  have main : ∀ N : Nat, (∀ (v5 v6 v7 : Int) (h : Hp), Fr b.fo κ h → (0 ≤ x1 ∧ x1 ≤ 12) → (x1 - κ 0 14 ≤ 0) → (0 ≤ x2 ∧ x2 ≤ 2) → (0 ≤ x3 ∧ x3 ≤ 3) → (0 ≤ x4 ∧ x4 ≤ 1) → (0 ≤ v5 ∧ v5 ≤ 256) → (0 ≤ v7 ∧ v7 ≤ 16) → (v7 - κ 0 12 ≤ 0) → (v5 ≤ 16 * v7) → 48172320 + 45360 * (16 - v7) + 44604 < (N : Int) → zV G mX12_ring (q_X12_ring b.fo κ x1 x2 x3 x4) 43 [some (.inr (.inr 0)), some (.inl x1), some (.inl x2), some (.inl x3), some (.inl x4), some (.inl v5), some (.inl v6), some (.inl v7), none] [] h) ∧ (∀ (v5 v6 v7 v8 : Int) (h : Hp), Fr b.fo κ h → (0 ≤ x1 ∧ x1 ≤ 12) → (x1 - κ 0 14 ≤ 0) → (0 ≤ x2 ∧ x2 ≤ 2) → (0 ≤ x3 ∧ x3 ≤ 3) → (0 ≤ x4 ∧ x4 ≤ 1) → (0 ≤ v5 ∧ v5 ≤ 256) → (0 ≤ v7 ∧ v7 ≤ 15) → (v7 - κ 0 12 ≤ -1) → (0 ≤ v8 ∧ v8 ≤ 16) → (v8 - κ 0 11 ≤ 0) → (v5 ≤ 16 * v7 + v8) → 48172320 + 45360 * (16 - v7) + 30996 + 42 * (16 - v8) + 41 < (N : Int) → zV G mX12_ring (q_X12_ring b.fo κ x1 x2 x3 x4) 55 [some (.inr (.inr 0)), some (.inl x1), some (.inl x2), some (.inl x3), some (.inl x4), some (.inl v5), some (.inl v6), some (.inl v7), some (.inl v8)] [] h) ∧ (∀ (v5 v6 v7 v8 : Int) (h : Hp), Fr b.fo κ h → (0 ≤ x1 ∧ x1 ≤ 12) → (x1 - κ 0 14 ≤ 0) → (0 ≤ x2 ∧ x2 ≤ 2) → (0 ≤ x3 ∧ x3 ≤ 3) → (0 ≤ x4 ∧ x4 ≤ 1) → (0 ≤ v5 ∧ v5 ≤ 256) → (0 ≤ v7 ∧ v7 ≤ 15) → (v7 - κ 0 12 ≤ -1) → (0 ≤ v8 ∧ v8 ≤ 15) → (v8 - κ 0 11 ≤ -1) → (v5 ≤ 16 * v7 + v8) → 48172320 + 45360 * (16 - v7) + 30996 + 42 * (16 - v8) + 19 < (N : Int) → zV G mX12_ring (q_X12_ring b.fo κ x1 x2 x3 x4) 99 [some (.inr (.inr 0)), some (.inl x1), some (.inl x2), some (.inl x3), some (.inl x4), some (.inl v5), some (.inl v6), some (.inl v7), some (.inl v8)] [] h) := by
    intro N
    induction N with
    | zero =>
      refine ⟨?_, ?_, ?_⟩
      · intro v5 v6 v7 h hF g0 g1 g2 g3 g4 g5 g6 g7 gc0 hm
        exfalso; omega
      · intro v5 v6 v7 v8 h hF g0 g1 g2 g3 g4 g5 g6 g7 g8 g9 gc0 hm
        exfalso; omega
      · intro v5 v6 v7 v8 h hF g0 g1 g2 g3 g4 g5 g6 g7 g8 g9 gc0 hm
        exfalso; omega
    | succ N ih =>
      obtain ⟨k43, k55, k99⟩ := ih
      refine ⟨?_, ?_, ?_⟩
      · intro v5 v6 v7 h hF g0 g1 g2 g3 g4 g5 g6 g7 gc0 hm
        refine zW_iload (pc' := 45) dX12_ring_1.2.1.1.2 rfl rfl ?_
        refine zW_aload_n (pc' := 46) dX12_ring_1.2.1.2.1 rfl rfl ?_
        refine zG_key (pc' := 49) hF rfl fg_X12_103 tb0 rfl dX12_ring_1.2.1.2.2 rfl ?_
        refine zV_cm_ge (tgt := 132) (pc' := 52) dX12_ring_1.2.2.1.1 rfl rfl ⟨by omega, by omega⟩ ⟨by omega, by omega⟩ (fun c49 => ?_) (fun c49 => ?_)
        · refine zW_iload (pc' := 134) dX12_ring_4.1.2.1.2 rfl rfl ?_
          refine zV_if_ne (tgt := 142) (pc' := 137) dX12_ring_4.1.2.2.1 rfl rfl ⟨by omega, by omega⟩ (fun c134 => ?_) (fun c134 => ?_)
          · refine zW_iload (pc' := 144) dX12_ring_4.2.1.1.2 rfl rfl ?_
            refine zV_if_ne (tgt := 152) (pc' := 147) dX12_ring_4.2.1.2.1 rfl rfl ⟨by omega, by omega⟩ (fun c144 => ?_) (fun c144 => ?_)
            · refine zW_iload (pc' := 154) dX12_ring_4.2.2.1.2 rfl rfl ?_
              refine zW_iload (pc' := 156) dX12_ring_4.2.2.2.1 rfl rfl ?_
              refine zW_idivQ (pc' := 157) ⟨by omega, by omega⟩ (by omega) dX12_ring_4.2.2.2.2 rfl (fun v156 e156 => ?_)
              unfold rng at e156
              exact zV_iret rfl dX12_ring_5 ⟨hF, trivial⟩
            · refine zW_bipush (pc' := 149) dX12_ring_4.2.1.2.2 rfl rfl ?_
              refine zV_goto 157 dX12_ring_4.2.2.1.1 rfl ?_
              exact zV_iret rfl dX12_ring_5 ⟨hF, trivial⟩
          · refine zW_iload (pc' := 139) dX12_ring_4.1.2.2.2 rfl rfl ?_
            refine zV_goto 157 dX12_ring_4.2.1.1.1 rfl ?_
            exact zV_iret rfl dX12_ring_5 ⟨hF, trivial⟩
        · refine zW_iconst (pc' := 53) dX12_ring_1.2.2.1.2 rfl ?_
          refine zW_istore (ls' := [_, _, _, _, _, _, _, _, _]) (pc' := 55) dX12_ring_1.2.2.2.1 (by decide) rfl rfl rfl ?_
          exact k55 _ _ _ _ _ hF (by omega) (by omega) (by omega) (by omega) (by omega) (by omega) (by omega) (by omega) (by omega) (by omega) (by omega) (by omega)
      · intro v5 v6 v7 v8 h hF g0 g1 g2 g3 g4 g5 g6 g7 g8 g9 gc0 hm
        refine zW_iload (pc' := 57) dX12_ring_1.2.2.2.2 rfl rfl ?_
        refine zW_aload_n (pc' := 58) dX12_ring_2.1.1.1.1 rfl rfl ?_
        refine zG_key (pc' := 61) hF rfl fg_X12_99 tb0 rfl dX12_ring_2.1.1.1.2 rfl ?_
        refine zV_cm_ge (tgt := 126) (pc' := 64) dX12_ring_2.1.1.2.1 rfl rfl ⟨by omega, by omega⟩ ⟨by omega, by omega⟩ (fun c61 => ?_) (fun c61 => ?_)
        · refine zW_iinc (ls' := [_, _, _, _, _, _, _, _, _]) (pc' := 129) dX12_ring_4.1.1.2.2 rfl (by decide) rfl rfl rfl ?_
          refine zV_goto 43 dX12_ring_4.1.2.1.1 rfl ?_
          refine zV_clr 8 (ls' := [_, _, _, _, _, _, _, _, _]) rfl ?_
          exact k43 _ _ _ _ hF (by omega) (by omega) (by omega) (by omega) (by omega) (by omega) (by omega) (by omega) (by omega) (by omega)
        · refine zW_aload_n (pc' := 65) dX12_ring_2.1.1.2.2 rfl rfl ?_
          refine zW_iload (pc' := 67) dX12_ring_2.1.2.1.1 rfl rfl ?_
          refine zW_iload (pc' := 69) dX12_ring_2.1.2.1.2 rfl rfl ?_
          refine cvI2 (pc' := 72) kX12_ringOf vX12_ringOf lk_X12_424 ⟨Nat.le_of_ble_eq_true rfl, Nat.le_of_ble_eq_true rfl⟩ tb0 vq12 rfl rfl (s_X12_ringOf hK hF _ ⟨by omega, by omega, by omega⟩ _ ⟨by omega, by omega, by omega⟩) dX12_ring_2.1.2.2.1 (Nat.le_of_ble_eq_true rfl) rfl ?_
          rintro r69 z69 ⟨hz69, p69⟩; subst z69
          refine zW_iload_n (pc' := 73) dX12_ring_2.1.2.2.2 rfl rfl ?_
          refine zV_cmQ_ne (tgt := 120) (pc' := 76) dX12_ring_2.2.1.1.1 rfl rfl ?_ ?_
          · refine zW_iinc (ls' := [_, _, _, _, _, _, _, _, _]) (pc' := 123) dX12_ring_4.1.1.1.2 rfl (by decide) rfl rfl rfl ?_
            refine zV_goto 55 dX12_ring_4.1.1.2.1 rfl ?_
            exact k55 _ _ _ _ _ hF (by omega) (by omega) (by omega) (by omega) (by omega) (by omega) (by omega) (by omega) (by omega) (by omega) (by omega) (by omega)
          · refine zW_aload_n (pc' := 77) dX12_ring_2.2.1.1.2 rfl rfl ?_
            refine zW_iload_n (pc' := 78) dX12_ring_2.2.1.2.1 rfl rfl ?_
            refine cvI1 (pc' := 81) kX12_isBehind vX12_isBehind lk_X12_380 ⟨Nat.le_of_ble_eq_true rfl, Nat.le_of_ble_eq_true rfl⟩ tb0 vq12 rfl rfl (s_X12_isBehind hK hF _ ⟨by omega, by omega⟩) dX12_ring_2.2.1.2.2 (Nat.le_of_ble_eq_true rfl) rfl ?_
            rintro r78 z78 ⟨hz78, p78⟩; subst z78
            refine zV_if_ne (tgt := 99) (pc' := 84) dX12_ring_2.2.2.1.1 rfl rfl ⟨by omega, by omega⟩ (fun c81 => ?_) (fun c81 => ?_)
            · exact k99 _ _ _ _ _ hF (by omega) (by omega) (by omega) (by omega) (by omega) (by omega) (by omega) (by omega) (by omega) (by omega) (by omega) (by omega)
            · refine zW_aload_n (pc' := 85) dX12_ring_2.2.2.1.2 rfl rfl ?_
              refine zW_iload (pc' := 87) dX12_ring_2.2.2.2.1 rfl rfl ?_
              refine zW_iload (pc' := 89) dX12_ring_2.2.2.2.2 rfl rfl ?_
              refine cvI2 (pc' := 92) kX12_colourAt vX12_colourAt lk_X12_225 ⟨Nat.le_of_ble_eq_true rfl, Nat.le_of_ble_eq_true rfl⟩ tb0 vq12 rfl rfl (s_X12_colourAt hK hF _ ⟨by omega, by omega⟩ _ ⟨by omega, by omega⟩) dX12_ring_3.1.1.1.1 (Nat.le_of_ble_eq_true rfl) rfl ?_
              rintro r89 z89 ⟨hz89, p89⟩; subst z89
              refine zW_iload_n (pc' := 93) dX12_ring_3.1.1.1.2 rfl rfl ?_
              refine zV_cm_eq (tgt := 99) (pc' := 96) dX12_ring_3.1.1.2.1 rfl rfl ⟨by omega, by omega⟩ ⟨by omega, by omega⟩ (fun c93 => ?_) (fun c93 => ?_)
              · exact k99 _ _ _ _ _ hF (by omega) (by omega) (by omega) (by omega) (by omega) (by omega) (by omega) (by omega) (by omega) (by omega) (by omega) (by omega)
              · refine zV_goto 120 dX12_ring_3.1.1.2.2 rfl ?_
                refine zW_iinc (ls' := [_, _, _, _, _, _, _, _, _]) (pc' := 123) dX12_ring_4.1.1.1.2 rfl (by decide) rfl rfl rfl ?_
                refine zV_goto 55 dX12_ring_4.1.1.2.1 rfl ?_
                exact k55 _ _ _ _ _ hF (by omega) (by omega) (by omega) (by omega) (by omega) (by omega) (by omega) (by omega) (by omega) (by omega) (by omega) (by omega)
      · intro v5 v6 v7 v8 h hF g0 g1 g2 g3 g4 g5 g6 g7 g8 g9 gc0 hm
        refine zW_iload (pc' := 101) dX12_ring_3.1.2.1.1 rfl rfl ?_
        refine zW_iconst (pc' := 102) dX12_ring_3.1.2.1.2 rfl ?_
        refine zW_iadd (pc' := 103) dX12_ring_3.1.2.2.1 rfl ?_
        refine zW_istore (ls' := [_, _, _, _, _, _, _, _, _]) (pc' := 105) dX12_ring_3.1.2.2.2 (by decide) rfl rfl rfl ?_
        refine zW_iload (pc' := 107) dX12_ring_3.2.1.1.1 rfl rfl ?_
        refine zW_aload_n (pc' := 108) dX12_ring_3.2.1.1.2 rfl rfl ?_
        refine zW_iload_n (pc' := 109) dX12_ring_3.2.1.2.1 rfl rfl ?_
        refine zW_iload_n (pc' := 110) dX12_ring_3.2.1.2.2 rfl rfl ?_
        refine zW_iload (pc' := 112) dX12_ring_3.2.2.1.1 rfl rfl ?_
        refine zW_iload (pc' := 114) dX12_ring_3.2.2.1.2 rfl rfl ?_
        refine cvI4 (pc' := 117) kX12_at vX12_at lk_X12_277 ⟨Nat.le_of_ble_eq_true rfl, Nat.le_of_ble_eq_true rfl⟩ tb0 vq12 rfl rfl (s_X12_at hK hF _ ⟨by omega, by omega⟩ _ ⟨by omega, by omega⟩ _ ⟨by omega, by omega, by omega⟩ _ ⟨by omega, by omega, by omega⟩) dX12_ring_3.2.2.2.1 (Nat.le_of_ble_eq_true rfl) rfl ?_
        rintro r114 z114 ⟨hz114, p114⟩; subst z114
        refine zW_iadd (pc' := 118) dX12_ring_3.2.2.2.2 rfl ?_
        refine zW_istore (ls' := [_, _, _, _, _, _, _, _, _]) (pc' := 120) dX12_ring_4.1.1.1.1 (by decide) rfl rfl rfl ?_
        refine zW_iinc (ls' := [_, _, _, _, _, _, _, _, _]) (pc' := 123) dX12_ring_4.1.1.1.2 rfl (by decide) rfl rfl rfl ?_
        refine zV_goto 55 dX12_ring_4.1.1.2.1 rfl ?_
        exact k55 _ _ _ _ _ hF (by omega) (by omega) (by omega) (by omega) (by omega) (by omega) (by omega) (by omega) (by omega) (by omega) (by omega) (by omega)
  refine zM_of [some (.inr (.inr 0)), some (.inl x1), some (.inl x2), some (.inl x3), some (.inl x4), none, none, none, none] 4 rfl rfl (Nat.le_of_ble_eq_true rfl) rfl ?_
  refine zW_aload_n (pc' := 1) dX12_ring_0.1.1.1.1 rfl rfl ?_
  refine zW_iload_n (pc' := 2) dX12_ring_0.1.1.1.2 rfl rfl ?_
  refine zW_iload_n (pc' := 3) dX12_ring_0.1.1.2.1 rfl rfl ?_
  refine cvI2 (pc' := 6) kX12_isLeftOf vX12_isLeftOf lk_X12_406 ⟨Nat.le_of_ble_eq_true rfl, Nat.le_of_ble_eq_true rfl⟩ tb0 vq12 rfl rfl (s_X12_isLeftOf hK hF _ ⟨by omega, by omega⟩ _ ⟨by omega, by omega⟩) dX12_ring_0.1.1.2.2 (Nat.le_of_ble_eq_true rfl) rfl ?_
  rintro r3 z3 ⟨hz3, p3⟩; subst z3
  refine zV_if_eq (tgt := 28) (pc' := 9) dX12_ring_0.1.2.1.1 rfl rfl ⟨by omega, by omega⟩ (fun c6 => ?_) (fun c6 => ?_)
  · refine zW_iconst (pc' := 29) dX12_ring_0.2.2.2.2 rfl ?_
    exact zV_iret rfl dX12_ring_1.1.1.1.1 ⟨hF, trivial⟩
  · refine zW_iload_n (pc' := 10) dX12_ring_0.1.2.1.2 rfl rfl ?_
    refine zW_iconst (pc' := 11) dX12_ring_0.1.2.2.1 rfl ?_
    refine zW_iconst (pc' := 12) dX12_ring_0.1.2.2.2 rfl ?_
    refine csI3 (pc' := 15) kX12_in vX12_in lk_X12_140 ⟨Nat.le_of_ble_eq_true rfl, Nat.le_of_ble_eq_true rfl⟩ rfl (s_X12_inR hF _ ⟨by omega, by omega⟩ _ ⟨by omega, by omega⟩ _ ⟨by omega, by omega⟩) dX12_ring_0.2.1.1.1 (Nat.le_of_ble_eq_true rfl) rfl ?_
    rintro r12 z12 ⟨hz12, p12⟩; subst z12
    refine zV_if_eq (tgt := 28) (pc' := 18) dX12_ring_0.2.1.1.2 rfl rfl ⟨by omega, by omega⟩ (fun c15 => ?_) (fun c15 => ?_)
    · refine zW_iconst (pc' := 29) dX12_ring_0.2.2.2.2 rfl ?_
      exact zV_iret rfl dX12_ring_1.1.1.1.1 ⟨hF, trivial⟩
    · refine zW_iload (pc' := 20) dX12_ring_0.2.1.2.1 rfl rfl ?_
      refine zW_iconst (pc' := 21) dX12_ring_0.2.1.2.2 rfl ?_
      refine zW_iconst (pc' := 22) dX12_ring_0.2.2.1.1 rfl ?_
      refine csI3 (pc' := 25) kX12_in vX12_in lk_X12_140 ⟨Nat.le_of_ble_eq_true rfl, Nat.le_of_ble_eq_true rfl⟩ rfl (s_X12_inR hF _ ⟨by omega, by omega⟩ _ ⟨by omega, by omega⟩ _ ⟨by omega, by omega⟩) dX12_ring_0.2.2.1.2 (Nat.le_of_ble_eq_true rfl) rfl ?_
      rintro r22 z22 ⟨hz22, p22⟩; subst z22
      refine zV_if_ne (tgt := 30) (pc' := 28) dX12_ring_0.2.2.2.1 rfl rfl ⟨by omega, by omega⟩ (fun c25 => ?_) (fun c25 => ?_)
      · refine zW_aload_n (pc' := 31) dX12_ring_1.1.1.1.2 rfl rfl ?_
        refine cvV0 (pc' := 34) kX12_leaves vX12_leaves lk_X12_377 ⟨Nat.le_of_ble_eq_true rfl, Nat.le_of_ble_eq_true rfl⟩ tb0 vq12 rfl rfl (hLv hK hF) dX12_ring_1.1.1.2.1 (Nat.le_of_ble_eq_true rfl) rfl ?_
        rintro r31 h ⟨hF, p31⟩
        refine zW_iconst (pc' := 35) dX12_ring_1.1.1.2.2 rfl ?_
        refine zW_istore (ls' := [_, _, _, _, _, _, _, _, _]) (pc' := 37) dX12_ring_1.1.2.1.1 (by decide) rfl rfl rfl ?_
        refine zW_iconst (pc' := 38) dX12_ring_1.1.2.1.2 rfl ?_
        refine zW_istore (ls' := [_, _, _, _, _, _, _, _, _]) (pc' := 40) dX12_ring_1.1.2.2.1 (by decide) rfl rfl rfl ?_
        refine zW_iconst (pc' := 41) dX12_ring_1.1.2.2.2 rfl ?_
        refine zW_istore (ls' := [_, _, _, _, _, _, _, _, _]) (pc' := 43) dX12_ring_1.2.1.1.1 (by decide) rfl rfl rfl ?_
        exact (main 10000000000000000000000000000000000000000).1 _ _ _ _ hF (by omega) (by omega) (by omega) (by omega) (by omega) (by omega) (by omega) (by omega) (by omega) (by omega)
      · refine zW_iconst (pc' := 29) dX12_ring_0.2.2.2.2 rfl ?_
        exact zV_iret rfl dX12_ring_1.1.1.1.1 ⟨hF, trivial⟩

abbrev q_X12_edges (b : Bd) (κ : Hp) (x1 : Int) (x2 : Int) : Int → Hp → Prop := fun r h' => Fr b κ h' ∧ (True)
set_option maxHeartbeats 4000000 in
set_option maxRecDepth 20000 in
theorem s_X12_edges {G : Ga} {b : Bd} {κ h : Hp} (hK : KR κ) (hF : Fr b.fo κ h) (x1 : Int) (hx1 : rng x1) (x2 : Int) (hx2 : rng x2) (hLv : LeavesOK b) : zM G mX12_edges yX12_edges [.inr (.inr 0), .inl x1, .inl x2] h (q_X12_edges b.fo κ x1 x2) := by
  have f_0_11 := KRw hK
  have f_0_12 := KRh hK
  have f_0_14 := KRm hK
  unfold rng at hx1
  unfold rng at hx2
  have main : ∀ N : Nat, (∀ (v3 v4 : Int) (h : Hp), Fr b.fo κ h → (0 ≤ x1 ∧ x1 ≤ 12) → (x1 - κ 0 14 ≤ 0) → (0 ≤ x2 ∧ x2 ≤ 8190) → (0 ≤ v4 ∧ v4 ≤ 16) → (v4 - κ 0 12 ≤ 0) → 62849520 + 58194 * (16 - v4) + 57240 < (N : Int) → zV G mX12_edges (q_X12_edges b.fo κ x1 x2) 41 [some (.inr (.inr 0)), some (.inl x1), some (.inl x2), some (.inl v3), some (.inl v4), none] [] h) ∧ (∀ (v3 v4 v5 : Int) (h : Hp), Fr b.fo κ h → (0 ≤ x1 ∧ x1 ≤ 12) → (x1 - κ 0 14 ≤ 0) → (0 ≤ x2 ∧ x2 ≤ 8190) → (0 ≤ v4 ∧ v4 ≤ 15) → (v4 - κ 0 12 ≤ -1) → (0 ≤ v5 ∧ v5 ≤ 16) → (v5 - κ 0 11 ≤ 0) → 62849520 + 58194 * (16 - v4) + 49608 + 53 * (16 - v5) + 52 < (N : Int) → zV G mX12_edges (q_X12_edges b.fo κ x1 x2) 53 [some (.inr (.inr 0)), some (.inl x1), some (.inl x2), some (.inl v3), some (.inl v4), some (.inl v5)] [] h) := by
    intro N
    induction N with
    | zero =>
      refine ⟨?_, ?_⟩
      · intro v3 v4 h hF g0 g1 g2 g3 g4 hm
        exfalso; omega
      · intro v3 v4 v5 h hF g0 g1 g2 g3 g4 g5 g6 hm
        exfalso; omega
    | succ N ih =>
      obtain ⟨k41, k53⟩ := ih
      refine ⟨?_, ?_⟩
      · intro v3 v4 h hF g0 g1 g2 g3 g4 hm
        refine zW_iload (pc' := 43) dX12_edges_1.1.2.2.2 rfl rfl ?_
        refine zW_aload_n (pc' := 44) dX12_edges_1.2.1.1.1 rfl rfl ?_
        refine zG_key (pc' := 47) hF rfl fg_X12_103 tb0 rfl dX12_edges_1.2.1.1.2 rfl ?_
        refine zV_cm_ge (tgt := 135) (pc' := 50) dX12_edges_1.2.1.2.1 rfl rfl ⟨by omega, by omega⟩ ⟨by omega, by omega⟩ (fun c47 => ?_) (fun c47 => ?_)
        · refine zW_iload_n (pc' := 136) dX12_edges_4.2.2.1.2 rfl rfl ?_
          exact zV_iret rfl dX12_edges_4.2.2.2 ⟨hF, trivial⟩
        · refine zW_iconst (pc' := 51) dX12_edges_1.2.1.2.2 rfl ?_
          refine zW_istore (ls' := [_, _, _, _, _, _]) (pc' := 53) dX12_edges_1.2.2.1.1 (by decide) rfl rfl rfl ?_
          exact k53 _ _ _ _ hF (by omega) (by omega) (by omega) (by omega) (by omega) (by omega) (by omega) (by omega)
      · intro v3 v4 v5 h hF g0 g1 g2 g3 g4 g5 g6 hm
        refine zW_iload (pc' := 55) dX12_edges_1.2.2.1.2 rfl rfl ?_
        refine zW_aload_n (pc' := 56) dX12_edges_1.2.2.2.1 rfl rfl ?_
        refine zG_key (pc' := 59) hF rfl fg_X12_99 tb0 rfl dX12_edges_1.2.2.2.2 rfl ?_
        refine zV_cm_ge (tgt := 129) (pc' := 62) dX12_edges_2.1.1.1.1 rfl rfl ⟨by omega, by omega⟩ ⟨by omega, by omega⟩ (fun c59 => ?_) (fun c59 => ?_)
        · refine zW_iinc (ls' := [_, _, _, _, _, _]) (pc' := 132) dX12_edges_4.2.1.2.2 rfl (by decide) rfl rfl rfl ?_
          refine zV_goto 41 dX12_edges_4.2.2.1.1 rfl ?_
          refine zV_clr 5 (ls' := [_, _, _, _, _, _]) rfl ?_
          exact k41 _ _ _ hF (by omega) (by omega) (by omega) (by omega) (by omega) (by omega)
        · refine zW_aload_n (pc' := 63) dX12_edges_2.1.1.1.2 rfl rfl ?_
          refine zW_iload_n (pc' := 64) dX12_edges_2.1.1.2.1 rfl rfl ?_
          refine zW_iload (pc' := 66) dX12_edges_2.1.1.2.2 rfl rfl ?_
          refine zW_iconst (pc' := 67) dX12_edges_2.1.2.1.1 rfl ?_
          refine zW_isub (pc' := 68) dX12_edges_2.1.2.1.2 rfl ?_
          refine zW_iload (pc' := 70) dX12_edges_2.1.2.2.1 rfl rfl ?_
          refine cvI3 (pc' := 73) kX12_lightAt vX12_lightAt lk_X12_307 ⟨Nat.le_of_ble_eq_true rfl, Nat.le_of_ble_eq_true rfl⟩ tb0 vq12 rfl rfl (s_X12_lightAt hK hF _ ⟨by omega, by omega⟩ _ ⟨by omega, by omega, by omega⟩ _ ⟨by omega, by omega, by omega⟩) dX12_edges_2.1.2.2.2 (Nat.le_of_ble_eq_true rfl) rfl ?_
          rintro r70 z70 ⟨hz70, p70⟩; subst z70
          refine zW_aload_n (pc' := 74) dX12_edges_2.2.1.1.1 rfl rfl ?_
          refine zW_iload_n (pc' := 75) dX12_edges_2.2.1.1.2 rfl rfl ?_
          refine zW_iload (pc' := 77) dX12_edges_2.2.1.2.1 rfl rfl ?_
          refine zW_iconst (pc' := 78) dX12_edges_2.2.1.2.2 rfl ?_
          refine zW_iadd (pc' := 79) dX12_edges_2.2.2.1.1 rfl ?_
          refine zW_iload (pc' := 81) dX12_edges_2.2.2.1.2 rfl rfl ?_
          refine cvI3 (pc' := 84) kX12_lightAt vX12_lightAt lk_X12_307 ⟨Nat.le_of_ble_eq_true rfl, Nat.le_of_ble_eq_true rfl⟩ tb0 vq12 rfl rfl (s_X12_lightAt hK hF _ ⟨by omega, by omega⟩ _ ⟨by omega, by omega, by omega⟩ _ ⟨by omega, by omega, by omega⟩) dX12_edges_2.2.2.2.1 (Nat.le_of_ble_eq_true rfl) rfl ?_
          rintro r81 z81 ⟨hz81, p81⟩; subst z81
          refine zW_isub (pc' := 85) dX12_edges_2.2.2.2.2 rfl ?_
          refine csI1 (pc' := 88) kX12_size vX12_size lk_X12_257 ⟨Nat.le_of_ble_eq_true rfl, Nat.le_of_ble_eq_true rfl⟩ rfl (s_X12_size hF _) dX12_edges_3.1.1.1.1 (Nat.le_of_ble_eq_true rfl) rfl ?_
          rintro r85 z85 ⟨hz85, p85⟩; subst z85
          refine zW_aload_n (pc' := 89) dX12_edges_3.1.1.1.2 rfl rfl ?_
          refine zW_iload_n (pc' := 90) dX12_edges_3.1.1.2.1 rfl rfl ?_
          refine zW_iload (pc' := 92) dX12_edges_3.1.1.2.2 rfl rfl ?_
          refine zW_iload (pc' := 94) dX12_edges_3.1.2.1.1 rfl rfl ?_
          refine zW_iconst (pc' := 95) dX12_edges_3.1.2.1.2 rfl ?_
          refine zW_isub (pc' := 96) dX12_edges_3.1.2.2.1 rfl ?_
          refine cvI3 (pc' := 99) kX12_lightAt vX12_lightAt lk_X12_307 ⟨Nat.le_of_ble_eq_true rfl, Nat.le_of_ble_eq_true rfl⟩ tb0 vq12 rfl rfl (s_X12_lightAt hK hF _ ⟨by omega, by omega⟩ _ ⟨by omega, by omega, by omega⟩ _ ⟨by omega, by omega, by omega⟩) dX12_edges_3.1.2.2.2 (Nat.le_of_ble_eq_true rfl) rfl ?_
          rintro r96 z96 ⟨hz96, p96⟩; subst z96
          refine zW_aload_n (pc' := 100) dX12_edges_3.2.1.1.1 rfl rfl ?_
          refine zW_iload_n (pc' := 101) dX12_edges_3.2.1.1.2 rfl rfl ?_
          refine zW_iload (pc' := 103) dX12_edges_3.2.1.2.1 rfl rfl ?_
          refine zW_iload (pc' := 105) dX12_edges_3.2.1.2.2 rfl rfl ?_
          refine zW_iconst (pc' := 106) dX12_edges_3.2.2.1.1 rfl ?_
          refine zW_iadd (pc' := 107) dX12_edges_3.2.2.1.2 rfl ?_
          refine cvI3 (pc' := 110) kX12_lightAt vX12_lightAt lk_X12_307 ⟨Nat.le_of_ble_eq_true rfl, Nat.le_of_ble_eq_true rfl⟩ tb0 vq12 rfl rfl (s_X12_lightAt hK hF _ ⟨by omega, by omega⟩ _ ⟨by omega, by omega, by omega⟩ _ ⟨by omega, by omega, by omega⟩) dX12_edges_3.2.2.2.1 (Nat.le_of_ble_eq_true rfl) rfl ?_
          rintro r107 z107 ⟨hz107, p107⟩; subst z107
          refine zW_isub (pc' := 111) dX12_edges_3.2.2.2.2 rfl ?_
          refine csI1 (pc' := 114) kX12_size vX12_size lk_X12_257 ⟨Nat.le_of_ble_eq_true rfl, Nat.le_of_ble_eq_true rfl⟩ rfl (s_X12_size hF _) dX12_edges_4.1.1.1.1 (Nat.le_of_ble_eq_true rfl) rfl ?_
          rintro r111 z111 ⟨hz111, p111⟩; subst z111
          refine zW_iadd (pc' := 115) dX12_edges_4.1.1.1.2 rfl ?_
          refine zW_iload_n (pc' := 116) dX12_edges_4.1.1.2.1 rfl rfl ?_
          refine zV_cmQ_lt (tgt := 123) (pc' := 119) dX12_edges_4.1.1.2.2 rfl rfl ?_ ?_
          · refine zW_iinc (ls' := [_, _, _, _, _, _]) (pc' := 126) dX12_edges_4.2.1.1.2 rfl (by decide) rfl rfl rfl ?_
            refine zV_goto 53 dX12_edges_4.2.1.2.1 rfl ?_
            exact k53 _ _ _ _ hF (by omega) (by omega) (by omega) (by omega) (by omega) (by omega) (by omega) (by omega)
          · refine zW_iload_n (pc' := 120) dX12_edges_4.1.2.1.1 rfl rfl ?_
            refine zW_iconst (pc' := 121) dX12_edges_4.1.2.1.2 rfl ?_
            refine zW_iadd (pc' := 122) dX12_edges_4.1.2.2 rfl ?_
            refine zW_istore_n (ls' := [_, _, _, _, _, _]) (pc' := 123) dX12_edges_4.2.1.1.1 (by decide) rfl rfl rfl ?_
            refine zW_iinc (ls' := [_, _, _, _, _, _]) (pc' := 126) dX12_edges_4.2.1.1.2 rfl (by decide) rfl rfl rfl ?_
            refine zV_goto 53 dX12_edges_4.2.1.2.1 rfl ?_
            exact k53 _ _ _ _ hF (by omega) (by omega) (by omega) (by omega) (by omega) (by omega) (by omega) (by omega)
  refine zM_of [some (.inr (.inr 0)), some (.inl x1), some (.inl x2), none, none, none] 3 rfl rfl (Nat.le_of_ble_eq_true rfl) rfl ?_
  refine zW_aload_n (pc' := 1) dX12_edges_0.1.1.1.1 rfl rfl ?_
  refine zW_iload_n (pc' := 2) dX12_edges_0.1.1.1.2 rfl rfl ?_
  refine cvI1 (pc' := 5) kX12_isRow vX12_isRow lk_X12_374 ⟨Nat.le_of_ble_eq_true rfl, Nat.le_of_ble_eq_true rfl⟩ tb0 vq12 rfl rfl (s_X12_isRow hK hF _ ⟨by omega, by omega⟩) dX12_edges_0.1.1.2.1 (Nat.le_of_ble_eq_true rfl) rfl ?_
  rintro r2 z2 ⟨hz2, p2⟩; subst z2
  refine zV_if_eq (tgt := 19) (pc' := 8) dX12_edges_0.1.1.2.2 rfl rfl ⟨by omega, by omega⟩ (fun c5 => ?_) (fun c5 => ?_)
  · refine zW_iconst (pc' := 20) dX12_edges_0.2.1.1.2 rfl ?_
    exact zV_iret rfl dX12_edges_0.2.1.2.1 ⟨hF, trivial⟩
  · refine zW_iload_n (pc' := 9) dX12_edges_0.1.2.1.1 rfl rfl ?_
    refine zW_iconst (pc' := 10) dX12_edges_0.1.2.1.2 rfl ?_
    refine zW_sipush (pc' := 13) dX12_edges_0.1.2.2.1 rfl rfl ?_
    refine csI3 (pc' := 16) kX12_in vX12_in lk_X12_140 ⟨Nat.le_of_ble_eq_true rfl, Nat.le_of_ble_eq_true rfl⟩ rfl (s_X12_inR hF _ ⟨by omega, by omega⟩ _ ⟨by omega, by omega⟩ _ ⟨by omega, by omega⟩) dX12_edges_0.1.2.2.2 (Nat.le_of_ble_eq_true rfl) rfl ?_
    rintro r13 z13 ⟨hz13, p13⟩; subst z13
    refine zV_if_ne (tgt := 21) (pc' := 19) dX12_edges_0.2.1.1.1 rfl rfl ⟨by omega, by omega⟩ (fun c16 => ?_) (fun c16 => ?_)
    · refine zW_aload_n (pc' := 22) dX12_edges_0.2.1.2.2 rfl rfl ?_
      refine zW_iload_n (pc' := 23) dX12_edges_0.2.2.1.1 rfl rfl ?_
      refine cvI1 (pc' := 26) kX12_isBehind vX12_isBehind lk_X12_380 ⟨Nat.le_of_ble_eq_true rfl, Nat.le_of_ble_eq_true rfl⟩ tb0 vq12 rfl rfl (s_X12_isBehind hK hF _ ⟨by omega, by omega⟩) dX12_edges_0.2.2.1.2 (Nat.le_of_ble_eq_true rfl) rfl ?_
      rintro r23 z23 ⟨hz23, p23⟩; subst z23
      refine zV_if_ne (tgt := 32) (pc' := 29) dX12_edges_0.2.2.2.1 rfl rfl ⟨by omega, by omega⟩ (fun c26 => ?_) (fun c26 => ?_)
      · refine zW_aload_n (pc' := 33) dX12_edges_1.1.1.1.2 rfl rfl ?_
        refine cvV0 (pc' := 36) kX12_leaves vX12_leaves lk_X12_377 ⟨Nat.le_of_ble_eq_true rfl, Nat.le_of_ble_eq_true rfl⟩ tb0 vq12 rfl rfl (hLv hK hF) dX12_edges_1.1.1.2.1 (Nat.le_of_ble_eq_true rfl) rfl ?_
        rintro r33 h ⟨hF, p33⟩
        refine zW_iconst (pc' := 37) dX12_edges_1.1.1.2.2 rfl ?_
        refine zW_istore_n (ls' := [_, _, _, _, _, _]) (pc' := 38) dX12_edges_1.1.2.1.1 (by decide) rfl rfl rfl ?_
        refine zW_iconst (pc' := 39) dX12_edges_1.1.2.1.2 rfl ?_
        refine zW_istore (ls' := [_, _, _, _, _, _]) (pc' := 41) dX12_edges_1.1.2.2.1 (by decide) rfl rfl rfl ?_
        exact (main 10000000000000000000000000000000000000000).1 _ _ _ hF (by omega) (by omega) (by omega) (by omega) (by omega) (by omega)
      · refine zW_bipush (pc' := 31) dX12_edges_0.2.2.2.2 rfl rfl ?_
        exact zV_iret rfl dX12_edges_1.1.1.1.1 ⟨hF, trivial⟩
    · refine zW_iconst (pc' := 20) dX12_edges_0.2.1.1.2 rfl ?_
      exact zV_iret rfl dX12_edges_0.2.1.2.1 ⟨hF, trivial⟩

abbrev q_X12_error (b : Bd) (κ : Hp) (x1 : Int) (x2 : Int) (x3 : Int) : Int → Hp → Prop := fun r h' => Fr b κ h' ∧ (True)
set_option maxHeartbeats 4000000 in
set_option maxRecDepth 20000 in
theorem s_X12_error {G : Ga} {b : Bd} {κ h : Hp} (hK : KR κ) (hF : Fr b.fo κ h) (x1 : Int) (hx1 : rng x1) (x2 : Int) (hx2 : rng x2) (x3 : Int) (hx3 : rng x3) (hLv : LeavesOK b) : zM G mX12_error yX12_error [.inr (.inr 0), .inl x1, .inl x2, .inl x3] h (q_X12_error b.fo κ x1 x2 x3) := by
  have f_0_14 := KRm hK
  have f_0_21 := KRi hK
  unfold rng at hx1
  unfold rng at hx2
  unfold rng at hx3
  refine zM_of [some (.inr (.inr 0)), some (.inl x1), some (.inl x2), some (.inl x3)] 0 rfl rfl (Nat.le_of_ble_eq_true rfl) rfl ?_
  refine zW_aload_n (pc' := 1) dX12_error_0.1.1.1.1 rfl rfl ?_
  refine zW_iload_n (pc' := 2) dX12_error_0.1.1.1.2 rfl rfl ?_
  refine zW_iload_n (pc' := 3) dX12_error_0.1.1.2.1 rfl rfl ?_
  refine cvI2 (pc' := 6) kX12_isLeftOf vX12_isLeftOf lk_X12_406 ⟨Nat.le_of_ble_eq_true rfl, Nat.le_of_ble_eq_true rfl⟩ tb0 vq12 rfl rfl (s_X12_isLeftOf hK hF _ ⟨by omega, by omega⟩ _ ⟨by omega, by omega⟩) dX12_error_0.1.1.2.2 (Nat.le_of_ble_eq_true rfl) rfl ?_
  rintro r3 z3 ⟨hz3, p3⟩; subst z3
  refine zV_if_eq (tgt := 18) (pc' := 9) dX12_error_0.1.2.1.1 rfl rfl ⟨by omega, by omega⟩ (fun c6 => ?_) (fun c6 => ?_)
  · refine zV_ldc2 (n := -1) (pc' := 21) kl_X12_427 rfl dX12_error_0.2.1.2.1 rfl ?_
    exact zV_lret rfl dX12_error_0.2.1.2.2 ⟨hF, trivial⟩
  · refine zW_iload_n (pc' := 10) dX12_error_0.1.2.1.2 rfl rfl ?_
    refine zW_iconst (pc' := 11) dX12_error_0.1.2.2.1 rfl ?_
    refine zW_iconst (pc' := 12) dX12_error_0.1.2.2.2 rfl ?_
    refine csI3 (pc' := 15) kX12_in vX12_in lk_X12_140 ⟨Nat.le_of_ble_eq_true rfl, Nat.le_of_ble_eq_true rfl⟩ rfl (s_X12_inR hF _ ⟨by omega, by omega⟩ _ ⟨by omega, by omega⟩ _ ⟨by omega, by omega⟩) dX12_error_0.2.1.1.1 (Nat.le_of_ble_eq_true rfl) rfl ?_
    rintro r12 z12 ⟨hz12, p12⟩; subst z12
    refine zV_if_ne (tgt := 22) (pc' := 18) dX12_error_0.2.1.1.2 rfl rfl ⟨by omega, by omega⟩ (fun c15 => ?_) (fun c15 => ?_)
    · refine zW_aload_n (pc' := 23) dX12_error_0.2.2.1.1 rfl rfl ?_
      refine zW_iload_n (pc' := 24) dX12_error_0.2.2.1.2 rfl rfl ?_
      refine cvI1 (pc' := 27) kX12_isBehind vX12_isBehind lk_X12_380 ⟨Nat.le_of_ble_eq_true rfl, Nat.le_of_ble_eq_true rfl⟩ tb0 vq12 rfl rfl (s_X12_isBehind hK hF _ ⟨by omega, by omega⟩) dX12_error_0.2.2.2.1 (Nat.le_of_ble_eq_true rfl) rfl ?_
      rintro r24 z24 ⟨hz24, p24⟩; subst z24
      refine zV_if_ne (tgt := 34) (pc' := 30) dX12_error_0.2.2.2.2 rfl rfl ⟨by omega, by omega⟩ (fun c27 => ?_) (fun c27 => ?_)
      · refine zW_aload_n (pc' := 35) dX12_error_1.1.1.2.1 rfl rfl ?_
        refine zG_key (pc' := 38) hF rfl fg_X12_212 tb0 rfl dX12_error_1.1.1.2.2 rfl ?_
        refine zV_if_ne (tgt := 45) (pc' := 41) dX12_error_1.1.2.1.1 rfl rfl ⟨by omega, by omega⟩ (fun c38 => ?_) (fun c38 => ?_)
        · refine zW_aload_n (pc' := 46) dX12_error_1.1.2.2.2 rfl rfl ?_
          refine cvV0 (pc' := 49) kX12_leaves vX12_leaves lk_X12_377 ⟨Nat.le_of_ble_eq_true rfl, Nat.le_of_ble_eq_true rfl⟩ tb0 vq12 rfl rfl (hLv hK hF) dX12_error_1.2.1.1.1 (Nat.le_of_ble_eq_true rfl) rfl ?_
          rintro r46 h ⟨hF, p46⟩
          refine zW_aload_n (pc' := 50) dX12_error_1.2.1.1.2 rfl rfl ?_
          refine zW_iload_n (pc' := 51) dX12_error_1.2.1.2.1 rfl rfl ?_
          refine zW_iload_n (pc' := 52) dX12_error_1.2.1.2.2 rfl rfl ?_
          refine zW_iload_n (pc' := 53) dX12_error_1.2.2.1.1 rfl rfl ?_
          refine cvL3 (pc' := 56) kX12_errorOf vX12_errorOf lk_X12_433 ⟨Nat.le_of_ble_eq_true rfl, Nat.le_of_ble_eq_true rfl⟩ tb0 vq12 rfl rfl (s_X12_errorOf hK hF _ ⟨by omega, by omega⟩ _ ⟨by omega, by omega⟩ _) dX12_error_1.2.2.1.2 (Nat.le_of_ble_eq_true rfl) rfl ?_
          rintro r53 z53 ⟨hz53, p53⟩; subst z53
          exact zV_lret rfl dX12_error_1.2.2.2 ⟨hF, trivial⟩
        · refine zV_ldc2 (n := -4) (pc' := 44) kl_X12_431 rfl dX12_error_1.1.2.1.2 rfl ?_
          exact zV_lret rfl dX12_error_1.1.2.2.1 ⟨hF, trivial⟩
      · refine zV_ldc2 (n := -3) (pc' := 33) kl_X12_429 rfl dX12_error_1.1.1.1.1 rfl ?_
        exact zV_lret rfl dX12_error_1.1.1.1.2 ⟨hF, trivial⟩
    · refine zV_ldc2 (n := -1) (pc' := 21) kl_X12_427 rfl dX12_error_0.2.1.2.1 rfl ?_
      exact zV_lret rfl dX12_error_0.2.1.2.2 ⟨hF, trivial⟩

abbrev q_X12_falseOnes (b : Bd) (κ : Hp) (x1 : Int) (x2 : Int) : Int → Hp → Prop := fun r h' => Fr b κ h' ∧ (True)
set_option maxHeartbeats 4000000 in
set_option maxRecDepth 20000 in
theorem s_X12_falseOnes {G : Ga} {b : Bd} {κ h : Hp} (hK : KR κ) (hF : Fr b.fo κ h) (x1 : Int) (hx1 : rng x1) (x2 : Int) (hx2 : rng x2) (hLv : LeavesOK b) : zM G mX12_falseOnes yX12_falseOnes [.inr (.inr 0), .inl x1, .inl x2] h (q_X12_falseOnes b.fo κ x1 x2) := by
  have f_0_14 := KRm hK
  unfold rng at hx1
  unfold rng at hx2
  refine zM_of [some (.inr (.inr 0)), some (.inl x1), some (.inl x2)] 0 rfl rfl (Nat.le_of_ble_eq_true rfl) rfl ?_
  refine zW_aload_n (pc' := 1) dX12_falseOnes_0.1.1.1.1 rfl rfl ?_
  refine zW_iload_n (pc' := 2) dX12_falseOnes_0.1.1.1.2 rfl rfl ?_
  refine cvI1 (pc' := 5) kX12_isRow vX12_isRow lk_X12_374 ⟨Nat.le_of_ble_eq_true rfl, Nat.le_of_ble_eq_true rfl⟩ tb0 vq12 rfl rfl (s_X12_isRow hK hF _ ⟨by omega, by omega⟩) dX12_falseOnes_0.1.1.2.1 (Nat.le_of_ble_eq_true rfl) rfl ?_
  rintro r2 z2 ⟨hz2, p2⟩; subst z2
  refine zV_if_eq (tgt := 19) (pc' := 8) dX12_falseOnes_0.1.1.2.2 rfl rfl ⟨by omega, by omega⟩ (fun c5 => ?_) (fun c5 => ?_)
  · refine zW_iconst (pc' := 20) dX12_falseOnes_0.2.1.1.2 rfl ?_
    exact zV_iret rfl dX12_falseOnes_0.2.1.2.1 ⟨hF, trivial⟩
  · refine zW_iload_n (pc' := 9) dX12_falseOnes_0.1.2.1.1 rfl rfl ?_
    refine zW_iconst (pc' := 10) dX12_falseOnes_0.1.2.1.2 rfl ?_
    refine zW_sipush (pc' := 13) dX12_falseOnes_0.1.2.2.1 rfl rfl ?_
    refine csI3 (pc' := 16) kX12_in vX12_in lk_X12_140 ⟨Nat.le_of_ble_eq_true rfl, Nat.le_of_ble_eq_true rfl⟩ rfl (s_X12_inR hF _ ⟨by omega, by omega⟩ _ ⟨by omega, by omega⟩ _ ⟨by omega, by omega⟩) dX12_falseOnes_0.1.2.2.2 (Nat.le_of_ble_eq_true rfl) rfl ?_
    rintro r13 z13 ⟨hz13, p13⟩; subst z13
    refine zV_if_ne (tgt := 21) (pc' := 19) dX12_falseOnes_0.2.1.1.1 rfl rfl ⟨by omega, by omega⟩ (fun c16 => ?_) (fun c16 => ?_)
    · refine zW_aload_n (pc' := 22) dX12_falseOnes_0.2.1.2.2 rfl rfl ?_
      refine zW_iload_n (pc' := 23) dX12_falseOnes_0.2.2.1.1 rfl rfl ?_
      refine cvI1 (pc' := 26) kX12_isBehind vX12_isBehind lk_X12_380 ⟨Nat.le_of_ble_eq_true rfl, Nat.le_of_ble_eq_true rfl⟩ tb0 vq12 rfl rfl (s_X12_isBehind hK hF _ ⟨by omega, by omega⟩) dX12_falseOnes_0.2.2.1.2 (Nat.le_of_ble_eq_true rfl) rfl ?_
      rintro r23 z23 ⟨hz23, p23⟩; subst z23
      refine zV_if_ne (tgt := 32) (pc' := 29) dX12_falseOnes_0.2.2.2.1 rfl rfl ⟨by omega, by omega⟩ (fun c26 => ?_) (fun c26 => ?_)
      · refine zW_aload_n (pc' := 33) dX12_falseOnes_1.1.1.2 rfl rfl ?_
        refine cvV0 (pc' := 36) kX12_leaves vX12_leaves lk_X12_377 ⟨Nat.le_of_ble_eq_true rfl, Nat.le_of_ble_eq_true rfl⟩ tb0 vq12 rfl rfl (hLv hK hF) dX12_falseOnes_1.1.2.1 (Nat.le_of_ble_eq_true rfl) rfl ?_
        rintro r33 h ⟨hF, p33⟩
        refine zW_aload_n (pc' := 37) dX12_falseOnes_1.1.2.2 rfl rfl ?_
        refine zW_iload_n (pc' := 38) dX12_falseOnes_1.2.1.1 rfl rfl ?_
        refine zW_iload_n (pc' := 39) dX12_falseOnes_1.2.1.2 rfl rfl ?_
        refine cvI2 (pc' := 42) kX12_falseOf vX12_falseOf lk_X12_437 ⟨Nat.le_of_ble_eq_true rfl, Nat.le_of_ble_eq_true rfl⟩ tb0 vq12 rfl rfl (s_X12_falseOf hK hF _ ⟨by omega, by omega⟩ _) dX12_falseOnes_1.2.2.1 (Nat.le_of_ble_eq_true rfl) rfl ?_
        rintro r39 z39 ⟨hz39, p39⟩; subst z39
        exact zV_iret rfl dX12_falseOnes_1.2.2.2 ⟨hF, trivial⟩
      · refine zW_bipush (pc' := 31) dX12_falseOnes_0.2.2.2.2 rfl rfl ?_
        exact zV_iret rfl dX12_falseOnes_1.1.1.1 ⟨hF, trivial⟩
    · refine zW_iconst (pc' := 20) dX12_falseOnes_0.2.1.1.2 rfl ?_
      exact zV_iret rfl dX12_falseOnes_0.2.1.2.1 ⟨hF, trivial⟩


abbrev q_X12_unlike (b : Bd) (κ : Hp) (x1 : Int) (x2 : Int) (x3 : Int) : Int → Hp → Prop := fun r h' => Fr b κ h' ∧ (True)
set_option maxHeartbeats 4000000 in
set_option maxRecDepth 20000 in
theorem s_X12_unlike {G : Ga} {b : Bd} {κ h : Hp} (hK : KR κ) (hF : Fr b.fo κ h) (x1 : Int) (hx1 : rng x1) (x2 : Int) (hx2 : rng x2) (x3 : Int) (hx3 : rng x3) (hLv : LeavesOK b) : zM G mX12_unlike yX12_unlike [.inr (.inr 0), .inl x1, .inl x2, .inl x3] h (q_X12_unlike b.fo κ x1 x2 x3) := by
  have f_0_14 := KRm hK
  unfold rng at hx1
  unfold rng at hx2
  unfold rng at hx3
  refine zM_of [some (.inr (.inr 0)), some (.inl x1), some (.inl x2), some (.inl x3)] 0 rfl rfl (Nat.le_of_ble_eq_true rfl) rfl ?_
  refine zW_aload_n (pc' := 1) dX12_unlike_0.1.1.1.1 rfl rfl ?_
  refine zW_iload_n (pc' := 2) dX12_unlike_0.1.1.1.2 rfl rfl ?_
  refine cvI1 (pc' := 5) kX12_isRow vX12_isRow lk_X12_374 ⟨Nat.le_of_ble_eq_true rfl, Nat.le_of_ble_eq_true rfl⟩ tb0 vq12 rfl rfl (s_X12_isRow hK hF _ ⟨by omega, by omega⟩) dX12_unlike_0.1.1.2.1 (Nat.le_of_ble_eq_true rfl) rfl ?_
  rintro r2 z2 ⟨hz2, p2⟩; subst z2
  refine zV_if_eq (tgt := 25) (pc' := 8) dX12_unlike_0.1.1.2.2 rfl rfl ⟨by omega, by omega⟩ (fun c5 => ?_) (fun c5 => ?_)
  · refine zW_iconst (pc' := 26) dX12_unlike_0.2.2.1.2 rfl ?_
    exact zV_iret rfl dX12_unlike_0.2.2.2.1 ⟨hF, trivial⟩
  · refine zW_aload_n (pc' := 9) dX12_unlike_0.1.2.1.1 rfl rfl ?_
    refine zW_iload_n (pc' := 10) dX12_unlike_0.1.2.1.2 rfl rfl ?_
    refine cvI1 (pc' := 13) kX12_isRow vX12_isRow lk_X12_374 ⟨Nat.le_of_ble_eq_true rfl, Nat.le_of_ble_eq_true rfl⟩ tb0 vq12 rfl rfl (s_X12_isRow hK hF _ ⟨by omega, by omega⟩) dX12_unlike_0.1.2.2.1 (Nat.le_of_ble_eq_true rfl) rfl ?_
    rintro r10 z10 ⟨hz10, p10⟩; subst z10
    refine zV_if_eq (tgt := 25) (pc' := 16) dX12_unlike_0.1.2.2.2 rfl rfl ⟨by omega, by omega⟩ (fun c13 => ?_) (fun c13 => ?_)
    · refine zW_iconst (pc' := 26) dX12_unlike_0.2.2.1.2 rfl ?_
      exact zV_iret rfl dX12_unlike_0.2.2.2.1 ⟨hF, trivial⟩
    · refine zW_iload_n (pc' := 17) dX12_unlike_0.2.1.1.1 rfl rfl ?_
      refine zW_iconst (pc' := 18) dX12_unlike_0.2.1.1.2 rfl ?_
      refine zW_iconst (pc' := 19) dX12_unlike_0.2.1.2.1 rfl ?_
      refine csI3 (pc' := 22) kX12_in vX12_in lk_X12_140 ⟨Nat.le_of_ble_eq_true rfl, Nat.le_of_ble_eq_true rfl⟩ rfl (s_X12_inR hF _ ⟨by omega, by omega⟩ _ ⟨by omega, by omega⟩ _ ⟨by omega, by omega⟩) dX12_unlike_0.2.1.2.2 (Nat.le_of_ble_eq_true rfl) rfl ?_
      rintro r19 z19 ⟨hz19, p19⟩; subst z19
      refine zV_if_ne (tgt := 27) (pc' := 25) dX12_unlike_0.2.2.1.1 rfl rfl ⟨by omega, by omega⟩ (fun c22 => ?_) (fun c22 => ?_)
      · refine zW_aload_n (pc' := 28) dX12_unlike_0.2.2.2.2 rfl rfl ?_
        refine zW_iload_n (pc' := 29) dX12_unlike_1.1.1.1.1 rfl rfl ?_
        refine cvI1 (pc' := 32) kX12_isBehind vX12_isBehind lk_X12_380 ⟨Nat.le_of_ble_eq_true rfl, Nat.le_of_ble_eq_true rfl⟩ tb0 vq12 rfl rfl (s_X12_isBehind hK hF _ ⟨by omega, by omega⟩) dX12_unlike_1.1.1.1.2 (Nat.le_of_ble_eq_true rfl) rfl ?_
        rintro r29 z29 ⟨hz29, p29⟩; subst z29
        refine zW_aload_n (pc' := 33) dX12_unlike_1.1.1.2.1 rfl rfl ?_
        refine zW_iload_n (pc' := 34) dX12_unlike_1.1.1.2.2 rfl rfl ?_
        refine cvI1 (pc' := 37) kX12_isBehind vX12_isBehind lk_X12_380 ⟨Nat.le_of_ble_eq_true rfl, Nat.le_of_ble_eq_true rfl⟩ tb0 vq12 rfl rfl (s_X12_isBehind hK hF _ ⟨by omega, by omega⟩) dX12_unlike_1.1.2.1.1 (Nat.le_of_ble_eq_true rfl) rfl ?_
        rintro r34 z34 ⟨hz34, p34⟩; subst z34
        refine zV_cm_eq (tgt := 43) (pc' := 40) dX12_unlike_1.1.2.1.2 rfl rfl ⟨by omega, by omega⟩ ⟨by omega, by omega⟩ (fun c37 => ?_) (fun c37 => ?_)
        · refine zW_aload_n (pc' := 44) dX12_unlike_1.2.1.1.1 rfl rfl ?_
          refine cvV0 (pc' := 47) kX12_leaves vX12_leaves lk_X12_377 ⟨Nat.le_of_ble_eq_true rfl, Nat.le_of_ble_eq_true rfl⟩ tb0 vq12 rfl rfl (hLv hK hF) dX12_unlike_1.2.1.1.2 (Nat.le_of_ble_eq_true rfl) rfl ?_
          rintro r44 h ⟨hF, p44⟩
          refine zW_aload_n (pc' := 48) dX12_unlike_1.2.1.2.1 rfl rfl ?_
          refine zW_iload_n (pc' := 49) dX12_unlike_1.2.1.2.2 rfl rfl ?_
          refine zW_iload_n (pc' := 50) dX12_unlike_1.2.2.1.1 rfl rfl ?_
          refine zW_aload_n (pc' := 51) dX12_unlike_1.2.2.1.2 rfl rfl ?_
          refine zW_iload_n (pc' := 52) dX12_unlike_1.2.2.2.1 rfl rfl ?_
          refine cvI1 (pc' := 55) kX12_isBehind vX12_isBehind lk_X12_380 ⟨Nat.le_of_ble_eq_true rfl, Nat.le_of_ble_eq_true rfl⟩ tb0 vq12 rfl rfl (s_X12_isBehind hK hF _ ⟨by omega, by omega⟩) dX12_unlike_1.2.2.2.2 (Nat.le_of_ble_eq_true rfl) rfl ?_
          rintro r52 z52 ⟨hz52, p52⟩; subst z52
          refine zW_iload_n (pc' := 56) dX12_unlike_2.1.1 rfl rfl ?_
          refine cvI4 (pc' := 59) kX12_unlikeOf vX12_unlikeOf lk_X12_440 ⟨Nat.le_of_ble_eq_true rfl, Nat.le_of_ble_eq_true rfl⟩ tb0 vq12 rfl rfl (s_X12_unlikeOf hK hF _ ⟨by omega, by omega⟩ _ ⟨by omega, by omega⟩ _ _) dX12_unlike_2.1.2 (Nat.le_of_ble_eq_true rfl) rfl ?_
          rintro r56 z56 ⟨hz56, p56⟩; subst z56
          exact zV_iret rfl dX12_unlike_2.2 ⟨hF, trivial⟩
        · refine zW_bipush (pc' := 42) dX12_unlike_1.1.2.2.1 rfl rfl ?_
          exact zV_iret rfl dX12_unlike_1.1.2.2.2 ⟨hF, trivial⟩
      · refine zW_iconst (pc' := 26) dX12_unlike_0.2.2.1.2 rfl ?_
        exact zV_iret rfl dX12_unlike_0.2.2.2.1 ⟨hF, trivial⟩

abbrev q_X12_without (b : Bd) (κ : Hp) (x1 : Int) (x2 : Int) : Int → Hp → Prop := fun r h' => Fr b κ h' ∧ (True)
set_option maxHeartbeats 4000000 in
set_option maxRecDepth 20000 in
theorem s_X12_without {G : Ga} {b : Bd} {κ h : Hp} (hK : KR κ) (hF : Fr b.fo κ h) (x1 : Int) (hx1 : rng x1) (x2 : Int) (hx2 : rng x2) (hLv : LeavesOK b) (hJ : Ok17 b 13) : zM G mX12_without yX12_without [.inr (.inr 0), .inl x1, .inl x2] h (q_X12_without b.fo κ x1 x2) := by
  have f_0_14 := KRm hK
  unfold rng at hx1
  unfold rng at hx2
  refine zM_of [some (.inr (.inr 0)), some (.inl x1), some (.inl x2)] 0 rfl rfl (Nat.le_of_ble_eq_true rfl) rfl ?_
  refine zW_aload_n (pc' := 1) dX12_without_0.1.1.1.1 rfl rfl ?_
  refine zW_iload_n (pc' := 2) dX12_without_0.1.1.1.2 rfl rfl ?_
  refine cvI1 (pc' := 5) kX12_isStage vX12_isStage lk_X12_199 ⟨Nat.le_of_ble_eq_true rfl, Nat.le_of_ble_eq_true rfl⟩ tb0 vq12 rfl rfl (s_X12_isStage hK hF _ ⟨by omega, by omega⟩) dX12_without_0.1.1.2.1 (Nat.le_of_ble_eq_true rfl) rfl ?_
  rintro r2 z2 ⟨hz2, p2⟩; subst z2
  refine zV_if_eq (tgt := 17) (pc' := 8) dX12_without_0.1.1.2.2 rfl rfl ⟨by omega, by omega⟩ (fun c5 => ?_) (fun c5 => ?_)
  · refine zW_iconst (pc' := 18) dX12_without_0.2.1.1.2 rfl ?_
    exact zV_iret rfl dX12_without_0.2.1.2.1 ⟨hF, trivial⟩
  · refine zW_iload_n (pc' := 9) dX12_without_0.1.2.1.1 rfl rfl ?_
    refine zW_iconst (pc' := 10) dX12_without_0.1.2.1.2 rfl ?_
    refine zW_iconst (pc' := 11) dX12_without_0.1.2.2.1 rfl ?_
    refine csI3 (pc' := 14) kX12_in vX12_in lk_X12_140 ⟨Nat.le_of_ble_eq_true rfl, Nat.le_of_ble_eq_true rfl⟩ rfl (s_X12_inR hF _ ⟨by omega, by omega⟩ _ ⟨by omega, by omega⟩ _ ⟨by omega, by omega⟩) dX12_without_0.1.2.2.2 (Nat.le_of_ble_eq_true rfl) rfl ?_
    rintro r11 z11 ⟨hz11, p11⟩; subst z11
    refine zV_if_ne (tgt := 19) (pc' := 17) dX12_without_0.2.1.1.1 rfl rfl ⟨by omega, by omega⟩ (fun c14 => ?_) (fun c14 => ?_)
    · refine zW_aload_n (pc' := 20) dX12_without_0.2.1.2.2 rfl rfl ?_
      refine zW_iload_n (pc' := 21) dX12_without_0.2.2.1.1 rfl rfl ?_
      refine zW_bipush (pc' := 23) dX12_without_0.2.2.1.2 rfl rfl ?_
      refine cvI2 (pc' := 26) kX12_isKind vX12_isKind lk_X12_383 ⟨Nat.le_of_ble_eq_true rfl, Nat.le_of_ble_eq_true rfl⟩ tb0 vq12 rfl rfl (s_X12_isKind hK hF _ ⟨by omega, by omega⟩ _ ⟨by omega, by omega⟩) dX12_without_0.2.2.2.1 (Nat.le_of_ble_eq_true rfl) rfl ?_
      rintro r23 z23 ⟨hz23, p23⟩; subst z23
      refine zV_if_eq (tgt := 32) (pc' := 29) dX12_without_0.2.2.2.2 rfl rfl ⟨by omega, by omega⟩ (fun c26 => ?_) (fun c26 => ?_)
      · refine zW_aload_n (pc' := 33) dX12_without_1.1.1.2.1 rfl rfl ?_
        refine cvV0 (pc' := 36) kX12_leaves vX12_leaves lk_X12_377 ⟨Nat.le_of_ble_eq_true rfl, Nat.le_of_ble_eq_true rfl⟩ tb0 vq12 rfl rfl (hLv hK hF) dX12_without_1.1.1.2.2 (Nat.le_of_ble_eq_true rfl) rfl ?_
        rintro r33 h ⟨hF, p33⟩
        refine zW_aload_n (pc' := 37) dX12_without_1.1.2.1.1 rfl rfl ?_
        refine zW_aload_n (pc' := 38) dX12_without_1.1.2.1.2 rfl rfl ?_
        refine zG_key (pc' := 41) hF rfl fg_X12_185 tb0 rfl dX12_without_1.1.2.2.1 rfl ?_
        refine zW_aload_n (pc' := 42) dX12_without_1.1.2.2.2 rfl rfl ?_
        refine zW_iload_n (pc' := 43) dX12_without_1.2.1.1.1 rfl rfl ?_
        refine zW_iconst (pc' := 44) dX12_without_1.2.1.1.2 rfl ?_
        refine zW_iadd (pc' := 45) dX12_without_1.2.1.2.1 rfl ?_
        refine zW_iload_n (pc' := 46) dX12_without_1.2.1.2.2 rfl rfl ?_
        refine zW_iconst (pc' := 47) dX12_without_1.2.2.1.1 rfl ?_
        refine zW_isub (pc' := 48) dX12_without_1.2.2.1.2 rfl ?_
        refine cvI2 (pc' := 51) kX12_leavesBy vX12_leavesBy lk_X12_444 ⟨Nat.le_of_ble_eq_true rfl, Nat.le_of_ble_eq_true rfl⟩ tb0 vq12 rfl rfl (s_X12_leavesByQ hK hF _ ⟨by omega, by omega⟩ _ ⟨by omega, by omega⟩ hJ (GivH.of hK p33)) dX12_without_1.2.2.2.1 (Nat.le_of_ble_eq_true rfl) rfl ?_
        rintro r48 h ⟨hF, p48⟩
        refine zW_aload_n (pc' := 52) dX12_without_1.2.2.2.2 rfl rfl ?_
        refine zW_aload_n (pc' := 53) dX12_without_2.1.1.1 rfl rfl ?_
        refine zG_key (pc' := 56) hF rfl fg_X12_185 tb0 rfl dX12_without_2.1.1.2 rfl ?_
        refine cvI1 (pc' := 59) kX12_isBehind vX12_isBehind lk_X12_380 ⟨Nat.le_of_ble_eq_true rfl, Nat.le_of_ble_eq_true rfl⟩ tb0 vq12 rfl rfl (s_X12_isBehind hK hF _ ⟨by omega, by omega⟩) dX12_without_2.1.2 (Nat.le_of_ble_eq_true rfl) rfl ?_
        rintro r56 z56 ⟨hz56, p56⟩; subst z56
        refine zW_iload_n (pc' := 60) dX12_without_2.2.1.1 rfl rfl ?_
        refine cvI4 (pc' := 63) kX12_unlikeOf vX12_unlikeOf lk_X12_440 ⟨Nat.le_of_ble_eq_true rfl, Nat.le_of_ble_eq_true rfl⟩ tb0 vq12 rfl rfl (s_X12_unlikeOf hK hF _ ⟨by omega, by omega⟩ _ ⟨by omega, by omega⟩ _ _) dX12_without_2.2.1.2 (Nat.le_of_ble_eq_true rfl) rfl ?_
        rintro r60 z60 ⟨hz60, p60⟩; subst z60
        exact zV_iret rfl dX12_without_2.2.2 ⟨hF, trivial⟩
      · refine zW_bipush (pc' := 31) dX12_without_1.1.1.1.1 rfl rfl ?_
        exact zV_iret rfl dX12_without_1.1.1.1.2 ⟨hF, trivial⟩
    · refine zW_iconst (pc' := 18) dX12_without_0.2.1.1.2 rfl ?_
      exact zV_iret rfl dX12_without_0.2.1.2.1 ⟨hF, trivial⟩

abbrev q_X12_best (b : Bd) (κ : Hp) (x1 : Int) (x2 : Int) : Int → Hp → Prop := fun r h' => Fr b κ h' ∧ (True)
set_option maxHeartbeats 4000000 in
set_option maxRecDepth 20000 in
theorem s_X12_best {G : Ga} {b : Bd} {κ h : Hp} (hK : KR κ) (hF : Fr b.fo κ h) (x1 : Int) (hx1 : rng x1) (x2 : Int) (hx2 : rng x2) (hLv : LeavesOK b) (hJ : Ok17 b 13) : zM G mX12_best yX12_best [.inr (.inr 0), .inl x1, .inl x2] h (q_X12_best b.fo κ x1 x2) := by
  have f_0_14 := KRm hK
  have f_0_21 := KRi hK
  unfold rng at hx1
  unfold rng at hx2
  have main : ∀ N : Nat, (∀ (v3 v4 v6 : Int) (h : Hp), Fr b.fo κ h → (1 ≤ x1 ∧ x1 ≤ 12) → (x1 - κ 0 14 ≤ 0) → (0 ≤ x2 ∧ x2 ≤ 2) → (-1 ≤ v3 ∧ v3 ≤ 8) → (0 ≤ v6 ∧ v6 ≤ 9) → (GivH κ h) → (¬ κ 3 (x1.toNat - 1) = 111 ∧ ¬ κ 3 (x1.toNat - 1) = 112 ∧ ¬ κ 3 (x1.toNat - 1) = 116) → (1 ≤ x1 ∧ x1 ≤ κ 0 14) → 24816 + 48 * (9 - v6) + 47 < (N : Int) → zV G mX12_best (q_X12_best b.fo κ x1 x2) 72 [some (.inr (.inr 0)), some (.inl x1), some (.inl x2), some (.inl v3), some (.inr (.inl v4)), none, some (.inl v6), none, none] [] h) := by
    intro N
    induction N with
    | zero =>
      intro v3 v4 v6 h hF g0 g1 g2 g3 g4 gc0 gc1 gc2 hm
      exfalso; omega
    | succ N ih =>
      have k72 := ih
      intro v3 v4 v6 h hF g0 g1 g2 g3 g4 gc0 gc1 gc2 hm
      refine zW_iload (pc' := 74) dX12_best_2.2.1.1.1 rfl rfl ?_
      refine zW_bipush (pc' := 76) dX12_best_2.2.1.1.2 rfl rfl ?_
      refine zV_cm_ge (tgt := 130) (pc' := 79) dX12_best_2.2.1.2.1 rfl rfl ⟨by omega, by omega⟩ ⟨by omega, by omega⟩ (fun c76 => ?_) (fun c76 => ?_)
      · refine zW_aload_n (pc' := 131) dX12_best_4.2.1.1.2 rfl rfl ?_
        refine zG_ref (pc' := 134) 5 fg_X12_22 tb0 rfl dX12_best_4.2.1.2.1 rfl ?_
        refine zW_aload_n (pc' := 135) dX12_best_4.2.1.2.2 rfl rfl ?_
        refine zG_ref (pc' := 138) 23 fg_X12_78 tb0 rfl dX12_best_4.2.2.1.1 rfl ?_
        refine csV2 (pc' := 141) kX12_copies vX12_copies lk_X12_188 ⟨Nat.le_of_ble_eq_true rfl, Nat.le_of_ble_eq_true rfl⟩ rfl (s_X12_copies tb5 tb23 (by decide) (by decide)) dX12_best_4.2.2.1.2 (Nat.le_of_ble_eq_true rfl) rfl ?_
        rintro r138 h1 e1
        refine zW_iload_n (pc' := 142) dX12_best_4.2.2.2.1 rfl rfl ?_
        exact zV_iret rfl dX12_best_4.2.2.2.2 ⟨by rw [e1]; exact Fr_cpy hF, trivial⟩
      · refine zW_aload_n (pc' := 80) dX12_best_2.2.1.2.2 rfl rfl ?_
        refine zG_ref (pc' := 83) 23 fg_X12_78 tb0 rfl dX12_best_2.2.2.1.1 rfl ?_
        refine zW_aload_n (pc' := 84) dX12_best_2.2.2.1.2 rfl rfl ?_
        refine zG_ref (pc' := 87) 4 fg_X12_19 tb0 rfl dX12_best_2.2.2.2.1 rfl ?_
        refine zW_iload_n (pc' := 88) dX12_best_2.2.2.2.2 rfl rfl ?_
        refine zW_iconst (pc' := 89) dX12_best_3.1.1.1.1 rfl ?_
        refine zW_isub (pc' := 90) dX12_best_3.1.1.1.2 rfl ?_
        refine zA_keyB (KRna hK) (pc' := 91) hF rfl tb4 (by omega) dX12_best_3.1.1.2.1 (by decide) rfl (fun e90 => ?_)
        refine zW_iload (pc' := 93) dX12_best_3.1.1.2.2 rfl rfl ?_
        refine zS_i (pc' := 94) hF rfl tb23 (by omega) dX12_best_3.1.2.1.1 (by decide) rfl (fun h i93 hF a93 b93 w93 => ?_)
        have hG2 : GivH κ h := by rw [w93, b93 ⟨by omega, by omega⟩, show (x1 - 1).toNat = x1.toNat - 1 by omega]; exact gc0.wr (by omega) (by omega) (by omega) gc1
        refine zW_aload_n (pc' := 95) dX12_best_3.1.2.1.2 rfl rfl ?_
        refine zW_aload_n (pc' := 96) dX12_best_3.1.2.2.1 rfl rfl ?_
        refine zW_iload_n (pc' := 97) dX12_best_3.1.2.2.2 rfl rfl ?_
        refine zW_iload_n (pc' := 98) dX12_best_3.2.1.1.1 rfl rfl ?_
        refine zW_iconst (pc' := 99) dX12_best_3.2.1.1.2 rfl ?_
        refine zW_isub (pc' := 100) dX12_best_3.2.1.2.1 rfl ?_
        refine cvI2 (pc' := 103) kX12_leavesBy vX12_leavesBy lk_X12_444 ⟨Nat.le_of_ble_eq_true rfl, Nat.le_of_ble_eq_true rfl⟩ tb0 vq12 rfl rfl (s_X12_leavesByQ hK hF _ ⟨by omega, by omega⟩ _ ⟨by omega, by omega⟩ hJ hG2) dX12_best_3.2.1.2.2 (Nat.le_of_ble_eq_true rfl) rfl ?_
        rintro r100 h ⟨hF, p100⟩
        refine zW_iload_n (pc' := 104) dX12_best_3.2.2.1.1 rfl rfl ?_
        refine cvL2 (pc' := 107) kX12_badness vX12_badness lk_X12_452 ⟨Nat.le_of_ble_eq_true rfl, Nat.le_of_ble_eq_true rfl⟩ tb0 vq12 rfl rfl (s_X12_badness hK hF _ ⟨by omega, by omega⟩ _) dX12_best_3.2.2.1.2 (Nat.le_of_ble_eq_true rfl) rfl ?_
        rintro r104 z104 ⟨hz104, p104⟩; subst z104
        refine zW_lstore (ls' := [_, _, _, _, _, _, _, _, _]) (pc' := 109) dX12_best_3.2.2.2.1 (by decide) rfl rfl rfl ?_
        refine zW_lload (pc' := 111) dX12_best_3.2.2.2.2 rfl rfl ?_
        refine zW_lload (pc' := 113) dX12_best_4.1.1.1.1 rfl rfl ?_
        refine zV_lcmp (pc' := 114) dX12_best_4.1.1.1.2 rfl (fun v113 e113 => ?_)
        unfold rng at e113
        refine zV_if_ge (tgt := 124) (pc' := 117) dX12_best_4.1.1.2.1 rfl rfl ⟨by omega, by omega⟩ (fun c114 => ?_) (fun c114 => ?_)
        · refine zW_iinc (ls' := [_, _, _, _, _, _, _, _, _]) (pc' := 127) dX12_best_4.1.2.2.2 rfl (by decide) rfl rfl rfl ?_
          refine zV_goto 72 dX12_best_4.2.1.1.1 rfl ?_
          refine zV_clr 7 (ls' := [_, _, _, _, _, _, _, _, _]) rfl ?_
          exact k72 _ _ _ _ hF (by omega) (by omega) (by omega) (by omega) (by omega) (by first | exact GivH.of hK p59 | exact p100.2.2) (by first | exact htun | exact gc1) (by omega) (by omega)
        · refine zW_lload (pc' := 119) dX12_best_4.1.1.2.2 rfl rfl ?_
          refine zW_lstore (ls' := [_, _, _, _, _, _, _, _, _]) (pc' := 121) dX12_best_4.1.2.1.1 (by decide) rfl rfl rfl ?_
          refine zW_iload (pc' := 123) dX12_best_4.1.2.1.2 rfl rfl ?_
          refine zW_istore_n (ls' := [_, _, _, _, _, _, _, _, _]) (pc' := 124) dX12_best_4.1.2.2.1 (by decide) rfl rfl rfl ?_
          refine zW_iinc (ls' := [_, _, _, _, _, _, _, _, _]) (pc' := 127) dX12_best_4.1.2.2.2 rfl (by decide) rfl rfl rfl ?_
          refine zV_goto 72 dX12_best_4.2.1.1.1 rfl ?_
          refine zV_clr 7 (ls' := [_, _, _, _, _, _, _, _, _]) rfl ?_
          exact k72 _ _ _ _ hF (by omega) (by omega) (by omega) (by omega) (by omega) (by first | exact GivH.of hK p59 | exact p100.2.2) (by first | exact htun | exact gc1) (by omega) (by omega)
  refine zM_of [some (.inr (.inr 0)), some (.inl x1), some (.inl x2), none, none, none, none, none, none] 6 rfl rfl (Nat.le_of_ble_eq_true rfl) rfl ?_
  refine zW_aload_n (pc' := 1) dX12_best_0.1.1.1.1 rfl rfl ?_
  refine zW_iload_n (pc' := 2) dX12_best_0.1.1.1.2 rfl rfl ?_
  refine cvI1 (pc' := 5) kX12_isStage vX12_isStage lk_X12_199 ⟨Nat.le_of_ble_eq_true rfl, Nat.le_of_ble_eq_true rfl⟩ tb0 vq12 rfl rfl (s_X12_isStage hK hF _ ⟨by omega, by omega⟩) dX12_best_0.1.1.2.1 (Nat.le_of_ble_eq_true rfl) rfl ?_
  rintro r2 z2 ⟨hz2, p2⟩; subst z2
  refine zV_if_eq (tgt := 17) (pc' := 8) dX12_best_0.1.1.2.2 rfl rfl ⟨by omega, by omega⟩ (fun c5 => ?_) (fun c5 => ?_)
  · refine zW_iconst (pc' := 18) dX12_best_0.2.1.1.2 rfl ?_
    exact zV_iret rfl dX12_best_0.2.1.2.1 ⟨hF, trivial⟩
  · refine zW_iload_n (pc' := 9) dX12_best_0.1.2.1.1 rfl rfl ?_
    refine zW_iconst (pc' := 10) dX12_best_0.1.2.1.2 rfl ?_
    refine zW_iconst (pc' := 11) dX12_best_0.1.2.2.1 rfl ?_
    refine csI3 (pc' := 14) kX12_in vX12_in lk_X12_140 ⟨Nat.le_of_ble_eq_true rfl, Nat.le_of_ble_eq_true rfl⟩ rfl (s_X12_inR hF _ ⟨by omega, by omega⟩ _ ⟨by omega, by omega⟩ _ ⟨by omega, by omega⟩) dX12_best_0.1.2.2.2 (Nat.le_of_ble_eq_true rfl) rfl ?_
    rintro r11 z11 ⟨hz11, p11⟩; subst z11
    refine zV_if_ne (tgt := 19) (pc' := 17) dX12_best_0.2.1.1.1 rfl rfl ⟨by omega, by omega⟩ (fun c14 => ?_) (fun c14 => ?_)
    · refine zW_aload_n (pc' := 20) dX12_best_0.2.1.2.2 rfl rfl ?_
      refine zG_ref (pc' := 23) 3 fg_X12_16 tb0 rfl dX12_best_0.2.2.1.1 rfl ?_
      refine zW_iload_n (pc' := 24) dX12_best_0.2.2.1.2 rfl rfl ?_
      refine zW_iconst (pc' := 25) dX12_best_0.2.2.2.1 rfl ?_
      refine zW_isub (pc' := 26) dX12_best_0.2.2.2.2 rfl ?_
      refine zA_keyI (pc' := 27) hF rfl (by decide) (by decide) tb3 (by omega) dX12_best_1.1.1.1.1 (by decide) rfl (fun e26 => ?_)
      refine csI1 (pc' := 30) kX12_isTunable vX12_isTunable lk_X12_447 ⟨Nat.le_of_ble_eq_true rfl, Nat.le_of_ble_eq_true rfl⟩ rfl (s_X12_isTunable hF _ ⟨by omega, by omega⟩) dX12_best_1.1.1.1.2 (Nat.le_of_ble_eq_true rfl) rfl ?_
      rintro r27 z27 ⟨hz27, p27⟩; subst z27
      refine zV_if_ne (tgt := 36) (pc' := 33) dX12_best_1.1.1.2.1 rfl rfl ⟨by omega, by omega⟩ (fun c30 => ?_) (fun c30 => ?_)
      · refine zW_aload_n (pc' := 37) dX12_best_1.1.2.1.2 rfl rfl ?_
        refine cvI0 (pc' := 40) kX12_filler vX12_filler lk_X12_196 ⟨Nat.le_of_ble_eq_true rfl, Nat.le_of_ble_eq_true rfl⟩ tb0 vq12 rfl rfl (s_X12_filler hK hF) dX12_best_1.1.2.2.1 (Nat.le_of_ble_eq_true rfl) rfl ?_
        rintro r37 z37 ⟨hz37, p37⟩; subst z37
        refine zV_if_eq (tgt := 55) (pc' := 43) dX12_best_1.1.2.2.2 rfl rfl ⟨by omega, by omega⟩ (fun c40 => ?_) (fun c40 => ?_)
        · refine zW_bipush (pc' := 57) dX12_best_1.2.2.2.1 rfl rfl ?_
          exact zV_iret rfl dX12_best_1.2.2.2.2 ⟨hF, trivial⟩
        · refine zW_iload_n (pc' := 44) dX12_best_1.2.1.1.1 rfl rfl ?_
          refine zW_iconst (pc' := 45) dX12_best_1.2.1.1.2 rfl ?_
          refine zV_cm_ne (tgt := 58) (pc' := 48) dX12_best_1.2.1.2.1 rfl rfl ⟨by omega, by omega⟩ ⟨by omega, by omega⟩ (fun c45 => ?_) (fun c45 => ?_)
          · refine zW_aload_n (pc' := 59) dX12_best_2.1.1.1.1 rfl rfl ?_
            refine cvV0 (pc' := 62) kX12_leaves vX12_leaves lk_X12_377 ⟨Nat.le_of_ble_eq_true rfl, Nat.le_of_ble_eq_true rfl⟩ tb0 vq12 rfl rfl (hLv hK hF) dX12_best_2.1.1.1.2 (Nat.le_of_ble_eq_true rfl) rfl ?_
            rintro r59 h ⟨hF, p59⟩
            have htun : ¬ κ 3 (x1.toNat - 1) = 111 ∧ ¬ κ 3 (x1.toNat - 1) = 112 ∧ ¬ κ 3 (x1.toNat - 1) = 116 := by rw [show x1.toNat - 1 = (x1 - 1).toNat by omega]; exact p27.2.2 (by omega)
            refine zW_iconst (pc' := 63) dX12_best_2.1.1.2.1 rfl ?_
            refine zW_istore_n (ls' := [_, _, _, _, _, _, _, _, _]) (pc' := 64) dX12_best_2.1.1.2.2 (by decide) rfl rfl rfl ?_
            refine zV_ldc2 (n := 1000000000) (pc' := 67) kl_X12_450 rfl dX12_best_2.1.2.1.1 rfl ?_
            refine zW_lstore (ls' := [_, _, _, _, _, _, _, _, _]) (pc' := 69) dX12_best_2.1.2.1.2 (by decide) rfl rfl rfl ?_
            refine zW_iconst (pc' := 70) dX12_best_2.1.2.2.1 rfl ?_
            refine zW_istore (ls' := [_, _, _, _, _, _, _, _, _]) (pc' := 72) dX12_best_2.1.2.2.2 (by decide) rfl rfl rfl ?_
            exact (main 10000000000000000000000000000000000000000) _ _ _ _ hF (by omega) (by omega) (by omega) (by omega) (by omega) (by first | exact GivH.of hK p59 | exact p100.2.2) (by first | exact htun | exact gc1) (by omega) (by omega)
          · refine zW_aload_n (pc' := 49) dX12_best_1.2.1.2.2 rfl rfl ?_
            refine zG_key (pc' := 52) hF rfl fg_X12_212 tb0 rfl dX12_best_1.2.2.1.1 rfl ?_
            refine zV_if_ne (tgt := 58) (pc' := 55) dX12_best_1.2.2.1.2 rfl rfl ⟨by omega, by omega⟩ (fun c52 => ?_) (fun c52 => ?_)
            · refine zW_aload_n (pc' := 59) dX12_best_2.1.1.1.1 rfl rfl ?_
              refine cvV0 (pc' := 62) kX12_leaves vX12_leaves lk_X12_377 ⟨Nat.le_of_ble_eq_true rfl, Nat.le_of_ble_eq_true rfl⟩ tb0 vq12 rfl rfl (hLv hK hF) dX12_best_2.1.1.1.2 (Nat.le_of_ble_eq_true rfl) rfl ?_
              rintro r59 h ⟨hF, p59⟩
              have htun : ¬ κ 3 (x1.toNat - 1) = 111 ∧ ¬ κ 3 (x1.toNat - 1) = 112 ∧ ¬ κ 3 (x1.toNat - 1) = 116 := by rw [show x1.toNat - 1 = (x1 - 1).toNat by omega]; exact p27.2.2 (by omega)
              refine zW_iconst (pc' := 63) dX12_best_2.1.1.2.1 rfl ?_
              refine zW_istore_n (ls' := [_, _, _, _, _, _, _, _, _]) (pc' := 64) dX12_best_2.1.1.2.2 (by decide) rfl rfl rfl ?_
              refine zV_ldc2 (n := 1000000000) (pc' := 67) kl_X12_450 rfl dX12_best_2.1.2.1.1 rfl ?_
              refine zW_lstore (ls' := [_, _, _, _, _, _, _, _, _]) (pc' := 69) dX12_best_2.1.2.1.2 (by decide) rfl rfl rfl ?_
              refine zW_iconst (pc' := 70) dX12_best_2.1.2.2.1 rfl ?_
              refine zW_istore (ls' := [_, _, _, _, _, _, _, _, _]) (pc' := 72) dX12_best_2.1.2.2.2 (by decide) rfl rfl rfl ?_
              exact (main 10000000000000000000000000000000000000000) _ _ _ _ hF (by omega) (by omega) (by omega) (by omega) (by omega) (by first | exact GivH.of hK p59 | exact p100.2.2) (by first | exact htun | exact gc1) (by omega) (by omega)
            · refine zW_bipush (pc' := 57) dX12_best_1.2.2.2.1 rfl rfl ?_
              exact zV_iret rfl dX12_best_1.2.2.2.2 ⟨hF, trivial⟩
      · refine zW_bipush (pc' := 35) dX12_best_1.1.1.2.2 rfl rfl ?_
        exact zV_iret rfl dX12_best_1.1.2.1.1 ⟨hF, trivial⟩
    · refine zW_iconst (pc' := 18) dX12_best_0.2.1.1.2 rfl ?_
      exact zV_iret rfl dX12_best_0.2.1.2.1 ⟨hF, trivial⟩
