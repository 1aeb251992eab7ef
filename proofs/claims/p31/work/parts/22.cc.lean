abbrev q_X2_takeBlack (b : Bd) (κ : Hp) (s1 : Nat) (s2 : Nat) (x3 : Int) : Int → Hp → Prop := fun r h' => Fr b κ h' ∧ (True)
set_option maxHeartbeats 4000000 in
set_option maxRecDepth 20000 in
theorem s_X2_takeBlack {G : Ga} {b : Bd} {κ h : Hp} (hK : KC κ) (hF : Fr b κ h) (s1 : Nat) (hs1 : 56 ≤ s1 ∧ s1 ≤ 70) (s2 : Nat) (hs2 : 56 ≤ s2 ∧ s2 ≤ 70) (x3 : Int) (hto : OkL b (s2 + 15)) : zM G mX2_takeBlack yX2_takeBlack [.inr (.inr 86), .inr (.inr s1), .inr (.inr s2), .inl x3] h (q_X2_takeBlack b κ s1 s2 x3) := by
  have f_33_0 := KCw hK
  have f_33_1 := KCh hK
  have main : ∀ N : Nat, (∀ (v4 : Int) (h : Hp), Fr b κ h → (0 ≤ v4 ∧ v4 ≤ 16) → (v4 - κ 33 1 ≤ 0) → 16174080 + 23040 * (16 - v4) + 22464 < (N : Int) → zV G mX2_takeBlack (q_X2_takeBlack b κ s1 s2 x3) 3 [some (.inr (.inr 86)), some (.inr (.inr s1)), some (.inr (.inr s2)), some (.inl x3), some (.inl v4), none] [] h) ∧ (∀ (v4 v5 : Int) (h : Hp), Fr b κ h → (0 ≤ v4 ∧ v4 ≤ 15) → (v4 - κ 33 1 ≤ -1) → (0 ≤ v5 ∧ v5 ≤ 16) → (v5 - κ 33 0 ≤ 0) → 16174080 + 23040 * (16 - v4) + 17856 + 32 * (16 - v5) + 31 < (N : Int) → zV G mX2_takeBlack (q_X2_takeBlack b κ s1 s2 x3) 18 [some (.inr (.inr 86)), some (.inr (.inr s1)), some (.inr (.inr s2)), some (.inl x3), some (.inl v4), some (.inl v5)] [] h) := by
    intro N
    induction N with
    | zero =>
      refine ⟨?_, ?_⟩
      · intro v4 h hF g0 g1 hm
        exfalso; omega
      · intro v4 v5 h hF g0 g1 g2 g3 hm
        exfalso; omega
    | succ N ih =>
      obtain ⟨k3, k18⟩ := ih
      refine ⟨?_, ?_⟩
      · intro v4 h hF g0 g1 hm
        refine zW_iload (pc' := 5) dX2_takeBlack_0.1.1.2.1 rfl rfl ?_
        refine zW_aload_n (pc' := 6) dX2_takeBlack_0.1.1.2.2 rfl rfl ?_
        refine zG_ref (pc' := 9) 33 fg_X2_9 tb86 rfl dX2_takeBlack_0.1.2.1.1 rfl ?_
        refine zG_key (pc' := 12) hF rfl fg_X2_15 tb33 rfl dX2_takeBlack_0.1.2.1.2 rfl ?_
        refine zV_cm_ge (tgt := 76) (pc' := 15) dX2_takeBlack_0.1.2.2.1 rfl rfl ⟨by omega, by omega⟩ ⟨by omega, by omega⟩ (fun c12 => ?_) (fun c12 => ?_)
        · exact zV_vret rfl dX2_takeBlack_2.2.2.2 ⟨hF, trivial⟩
        · refine zW_iconst (pc' := 16) dX2_takeBlack_0.1.2.2.2 rfl ?_
          refine zW_istore (ls' := [_, _, _, _, _, _]) (pc' := 18) dX2_takeBlack_0.2.1.1.1 (by decide) rfl rfl rfl ?_
          exact k18 _ _ _ hF (by omega) (by omega) (by omega) (by omega) (by omega)
      · intro v4 v5 h hF g0 g1 g2 g3 hm
        refine zW_iload (pc' := 20) dX2_takeBlack_0.2.1.1.2 rfl rfl ?_
        refine zW_aload_n (pc' := 21) dX2_takeBlack_0.2.1.2.1 rfl rfl ?_
        refine zG_ref (pc' := 24) 33 fg_X2_9 tb86 rfl dX2_takeBlack_0.2.1.2.2 rfl ?_
        refine zG_key (pc' := 27) hF rfl fg_X2_21 tb33 rfl dX2_takeBlack_0.2.2.1.1 rfl ?_
        refine zV_cm_ge (tgt := 70) (pc' := 30) dX2_takeBlack_0.2.2.1.2 rfl rfl ⟨by omega, by omega⟩ ⟨by omega, by omega⟩ (fun c27 => ?_) (fun c27 => ?_)
        · refine zW_iinc (ls' := [_, _, _, _, _, _]) (pc' := 73) dX2_takeBlack_2.2.1.2 rfl (by decide) rfl rfl rfl ?_
          refine zV_goto 3 dX2_takeBlack_2.2.2.1 rfl ?_
          refine zV_clr 5 (ls' := [_, _, _, _, _, _]) rfl ?_
          exact k3 _ _ hF (by omega) (by omega) (by omega)
        · refine zW_aload_n (pc' := 31) dX2_takeBlack_0.2.2.2.1 rfl rfl ?_
          refine zG_lev (pc' := 34) (by omega) (by omega) fg_X2_24 dX2_takeBlack_0.2.2.2.2 rfl ?_
          refine zW_iload (pc' := 36) dX2_takeBlack_1.1.1.1.1 rfl rfl ?_
          refine zW_bipush (pc' := 38) dX2_takeBlack_1.1.1.1.2 rfl rfl ?_
          refine zW_imul (pc' := 39) dX2_takeBlack_1.1.1.2.1 rfl ?_
          refine zW_iload (pc' := 41) dX2_takeBlack_1.1.1.2.2 rfl rfl ?_
          refine zW_iadd (pc' := 42) dX2_takeBlack_1.1.2.1.1 rfl ?_
          refine zW_aload_n (pc' := 43) dX2_takeBlack_1.1.2.1.2 rfl rfl ?_
          refine zG_lev (pc' := 46) (by omega) (by omega) fg_X2_24 dX2_takeBlack_1.1.2.2.1 rfl ?_
          refine zW_iload (pc' := 48) dX2_takeBlack_1.1.2.2.2 rfl rfl ?_
          refine zW_bipush (pc' := 50) dX2_takeBlack_1.2.1.1.1 rfl rfl ?_
          refine zW_imul (pc' := 51) dX2_takeBlack_1.2.1.1.2 rfl ?_
          refine zW_iload (pc' := 53) dX2_takeBlack_1.2.1.2.1 rfl rfl ?_
          refine zW_iadd (pc' := 54) dX2_takeBlack_1.2.1.2.2 rfl ?_
          refine zV_iald (pc' := 55) (tabL (by omega) (by omega)) (by omega) dX2_takeBlack_1.2.2.1.1 (by decide) rfl ?_
          refine zW_bipush (pc' := 57) dX2_takeBlack_1.2.2.1.2 rfl rfl ?_
          refine zW_iload_n (pc' := 58) dX2_takeBlack_1.2.2.2.1 rfl rfl ?_
          refine zW_imul (pc' := 59) dX2_takeBlack_1.2.2.2.2 rfl ?_
          refine zW_isub (pc' := 60) dX2_takeBlack_2.1.1.1 rfl ?_
          refine csI1 (pc' := 63) kX11_clipped vX11_clipped lk_X2_30 ⟨Nat.le_of_ble_eq_true rfl, Nat.le_of_ble_eq_true rfl⟩ rfl (s_X11_clipped hF _) dX2_takeBlack_2.1.1.2 (Nat.le_of_ble_eq_true rfl) rfl ?_
          rintro r60 z60 ⟨hz60, p60⟩; subst z60
          refine zS_lv (pc' := 64) hF (by omega) (by omega) hto (by omega) dX2_takeBlack_2.1.2.1 rfl (fun h i63 hF a63 b63 w63 => ?_)
          refine zW_iinc (ls' := [_, _, _, _, _, _]) (pc' := 67) dX2_takeBlack_2.1.2.2 rfl (by decide) rfl rfl rfl ?_
          refine zV_goto 18 dX2_takeBlack_2.2.1.1 rfl ?_
          exact k18 _ _ _ hF (by omega) (by omega) (by omega) (by omega) (by omega)
  refine zM_of [some (.inr (.inr 86)), some (.inr (.inr s1)), some (.inr (.inr s2)), some (.inl x3), none, none] 2 rfl rfl (Nat.le_of_ble_eq_true rfl) rfl ?_
  refine zW_iconst (pc' := 1) dX2_takeBlack_0.1.1.1.1 rfl ?_
  refine zW_istore (ls' := [_, _, _, _, _, _]) (pc' := 3) dX2_takeBlack_0.1.1.1.2 (by decide) rfl rfl rfl ?_
  exact (main 10000000000000000000000000000000000000000).1 _ _ hF (by omega) (by omega) (by omega)

abbrev q_X2_darkOf (κ h : Hp) (s1 : Nat) (x2 : Int) (x3 : Int) : Int → Hp → Prop := fun r h' => h' = h ∧ (True)
set_option maxHeartbeats 4000000 in
set_option maxRecDepth 20000 in
theorem s_X2_darkOf {G : Ga} {b : Bd} {κ h : Hp} (hK : KC κ) (hF : Fr b κ h) (s1 : Nat) (hs1 : 56 ≤ s1 ∧ s1 ≤ 70) (x2 : Int) (hx2 : 0 ≤ x2 ∧ x2 ≤ 15 ∧ x2 - κ 33 1 ≤ -1) (x3 : Int) (hx3 : rng x3) : zM G mX2_darkOf yX2_darkOf [.inr (.inr 86), .inr (.inr s1), .inl x2, .inl x3] h (q_X2_darkOf κ h s1 x2 x3) := by
  have f_33_0 := KCw hK
  have f_33_1 := KCh hK
  unfold rng at hx3
  have main : ∀ N : Nat, (∀ (v4 v5 : Int) , (0 ≤ v5 ∧ v5 ≤ 16) → (v5 - κ 33 0 ≤ 0) → 16740 + 31 * (16 - v5) + 30 < (N : Int) → zV G mX2_darkOf (q_X2_darkOf κ h s1 x2 x3) 6 [some (.inr (.inr 86)), some (.inr (.inr s1)), some (.inl x2), some (.inl x3), some (.inl v4), some (.inl v5)] [] h) := by
    intro N
    induction N with
    | zero =>
      intro v4 v5 g0 g1 hm
      exfalso; omega
    | succ N ih =>
      have k6 := ih
      intro v4 v5 g0 g1 hm
      refine zW_iload (pc' := 8) dX2_darkOf_0.1.2.1.1 rfl rfl ?_
      refine zW_iload_n (pc' := 9) dX2_darkOf_0.1.2.1.2 rfl rfl ?_
      refine zV_cm_ge (tgt := 47) (pc' := 12) dX2_darkOf_0.1.2.2.1 rfl rfl ⟨by omega, by omega⟩ ⟨by omega, by omega⟩ (fun c9 => ?_) (fun c9 => ?_)
      · refine zW_iload_n (pc' := 48) dX2_darkOf_1.2.1.1.2 rfl rfl ?_
        refine zV_if_le (tgt := 58) (pc' := 51) dX2_darkOf_1.2.1.2.1 rfl rfl ⟨by omega, by omega⟩ (fun c48 => ?_) (fun c48 => ?_)
        · refine zW_iconst (pc' := 59) dX2_darkOf_1.2.2.2.2 rfl ?_
          exact zV_iret rfl dX2_darkOf_2 ⟨rfl, trivial⟩
        · refine zW_iload (pc' := 53) dX2_darkOf_1.2.1.2.2 rfl rfl ?_
          refine zW_iload_n (pc' := 54) dX2_darkOf_1.2.2.1.1 rfl rfl ?_
          refine zW_idivQ (pc' := 55) ⟨by omega, by omega⟩ (by omega) dX2_darkOf_1.2.2.1.2 rfl (fun v54 e54 => ?_)
          unfold rng at e54
          refine zV_goto 59 dX2_darkOf_1.2.2.2.1 rfl ?_
          exact zV_iret rfl dX2_darkOf_2 ⟨rfl, trivial⟩
      · refine zW_iload (pc' := 14) dX2_darkOf_0.1.2.2.2 rfl rfl ?_
        refine zW_aload_n (pc' := 15) dX2_darkOf_0.2.1.1.1 rfl rfl ?_
        refine zG_ref (pc' := 18) 33 fg_X2_9 tb86 rfl dX2_darkOf_0.2.1.1.2 rfl ?_
        refine zG_key (pc' := 21) hF rfl fg_X2_21 tb33 rfl dX2_darkOf_0.2.1.2.1 rfl ?_
        refine zV_cm_ge (tgt := 47) (pc' := 24) dX2_darkOf_0.2.1.2.2 rfl rfl ⟨by omega, by omega⟩ ⟨by omega, by omega⟩ (fun c21 => ?_) (fun c21 => ?_)
        · refine zW_iload_n (pc' := 48) dX2_darkOf_1.2.1.1.2 rfl rfl ?_
          refine zV_if_le (tgt := 58) (pc' := 51) dX2_darkOf_1.2.1.2.1 rfl rfl ⟨by omega, by omega⟩ (fun c48 => ?_) (fun c48 => ?_)
          · exfalso; omega
          · refine zW_iload (pc' := 53) dX2_darkOf_1.2.1.2.2 rfl rfl ?_
            refine zW_iload_n (pc' := 54) dX2_darkOf_1.2.2.1.1 rfl rfl ?_
            refine zW_idivQ (pc' := 55) ⟨by omega, by omega⟩ (by omega) dX2_darkOf_1.2.2.1.2 rfl (fun v54 e54 => ?_)
            unfold rng at e54
            refine zV_goto 59 dX2_darkOf_1.2.2.2.1 rfl ?_
            exact zV_iret rfl dX2_darkOf_2 ⟨rfl, trivial⟩
        · refine zW_iload (pc' := 26) dX2_darkOf_0.2.2.1.1 rfl rfl ?_
          refine zW_aload_n (pc' := 27) dX2_darkOf_0.2.2.1.2 rfl rfl ?_
          refine zG_lev (pc' := 30) (by omega) (by omega) fg_X2_24 dX2_darkOf_0.2.2.2.1 rfl ?_
          refine zW_iload_n (pc' := 31) dX2_darkOf_0.2.2.2.2 rfl rfl ?_
          refine zW_bipush (pc' := 33) dX2_darkOf_1.1.1.1.1 rfl rfl ?_
          refine zW_imul (pc' := 34) dX2_darkOf_1.1.1.1.2 rfl ?_
          refine zW_iload (pc' := 36) dX2_darkOf_1.1.1.2.1 rfl rfl ?_
          refine zW_iadd (pc' := 37) dX2_darkOf_1.1.1.2.2 rfl ?_
          refine zV_iald (pc' := 38) (tabL (by omega) (by omega)) (by omega) dX2_darkOf_1.1.2.1.1 (by decide) rfl ?_
          refine zW_iadd (pc' := 39) dX2_darkOf_1.1.2.1.2 rfl ?_
          refine zW_istore (ls' := [_, _, _, _, _, _]) (pc' := 41) dX2_darkOf_1.1.2.2.1 (by decide) rfl rfl rfl ?_
          refine zW_iinc (ls' := [_, _, _, _, _, _]) (pc' := 44) dX2_darkOf_1.1.2.2.2 rfl (by decide) rfl rfl rfl ?_
          refine zV_goto 6 dX2_darkOf_1.2.1.1.1 rfl ?_
          exact k6 _ _ (by omega) (by omega) (by omega)
  refine zM_of [some (.inr (.inr 86)), some (.inr (.inr s1)), some (.inl x2), some (.inl x3), none, none] 2 rfl rfl (Nat.le_of_ble_eq_true rfl) rfl ?_
  refine zW_iconst (pc' := 1) dX2_darkOf_0.1.1.1.1 rfl ?_
  refine zW_istore (ls' := [_, _, _, _, _, _]) (pc' := 3) dX2_darkOf_0.1.1.1.2 (by decide) rfl rfl rfl ?_
  refine zW_iconst (pc' := 4) dX2_darkOf_0.1.1.2.1 rfl ?_
  refine zW_istore (ls' := [_, _, _, _, _, _]) (pc' := 6) dX2_darkOf_0.1.1.2.2 (by decide) rfl rfl rfl ?_
  exact (main 10000000000000000000000000000000000000000) _ _ (by omega) (by omega) (by omega)

abbrev q_X2_takeDark (b : Bd) (κ : Hp) (s1 : Nat) (s2 : Nat) (x3 : Int) : Int → Hp → Prop := fun r h' => Fr b κ h' ∧ (True)
set_option maxHeartbeats 4000000 in
set_option maxRecDepth 20000 in
theorem s_X2_takeDark {G : Ga} {b : Bd} {κ h : Hp} (hK : KC κ) (hF : Fr b κ h) (s1 : Nat) (hs1 : 56 ≤ s1 ∧ s1 ≤ 70) (s2 : Nat) (hs2 : 56 ≤ s2 ∧ s2 ≤ 70) (x3 : Int) (hx3 : rng x3) (hto : OkL b (s2 + 15)) : zM G mX2_takeDark yX2_takeDark [.inr (.inr 86), .inr (.inr s1), .inr (.inr s2), .inl x3] h (q_X2_takeDark b κ s1 s2 x3) := by
  have f_33_0 := KCw hK
  have f_33_1 := KCh hK
  unfold rng at hx3
  have main : ∀ N : Nat, (∀ (v4 : Int) (h : Hp), Fr b κ h → (0 ≤ v4 ∧ v4 ≤ 16) → (v4 - κ 33 1 ≤ 0) → 18390240 + 23760 * (16 - v4) + 23220 < (N : Int) → zV G mX2_takeDark (q_X2_takeDark b κ s1 s2 x3) 3 [some (.inr (.inr 86)), some (.inr (.inr s1)), some (.inr (.inr s2)), some (.inl x3), some (.inl v4), none, none] [] h) ∧ (∀ (v4 v5 v6 : Int) (h : Hp), Fr b κ h → (0 ≤ v4 ∧ v4 ≤ 15) → (v4 - κ 33 1 ≤ -1) → (0 ≤ v6 ∧ v6 ≤ 16) → (v6 - κ 33 0 ≤ 0) → 18390240 + 23760 * (16 - v4) + 15660 + 30 * (16 - v6) + 29 < (N : Int) → zV G mX2_takeDark (q_X2_takeDark b κ s1 s2 x3) 28 [some (.inr (.inr 86)), some (.inr (.inr s1)), some (.inr (.inr s2)), some (.inl x3), some (.inl v4), some (.inl v5), some (.inl v6)] [] h) := by
    intro N
    induction N with
    | zero =>
      refine ⟨?_, ?_⟩
      · intro v4 h hF g0 g1 hm
        exfalso; omega
      · intro v4 v5 v6 h hF g0 g1 g2 g3 hm
        exfalso; omega
    | succ N ih =>
      obtain ⟨k3, k28⟩ := ih
      refine ⟨?_, ?_⟩
      · intro v4 h hF g0 g1 hm
        refine zW_iload (pc' := 5) dX2_takeDark_0.1.1.2.1 rfl rfl ?_
        refine zW_aload_n (pc' := 6) dX2_takeDark_0.1.1.2.2 rfl rfl ?_
        refine zG_ref (pc' := 9) 33 fg_X2_9 tb86 rfl dX2_takeDark_0.1.2.1.1 rfl ?_
        refine zG_key (pc' := 12) hF rfl fg_X2_15 tb33 rfl dX2_takeDark_0.1.2.1.2 rfl ?_
        refine zV_cm_ge (tgt := 84) (pc' := 15) dX2_takeDark_0.1.2.2.1 rfl rfl ⟨by omega, by omega⟩ ⟨by omega, by omega⟩ (fun c12 => ?_) (fun c12 => ?_)
        · exact zV_vret rfl dX2_takeDark_2.2.2.2 ⟨hF, trivial⟩
        · refine zW_aload_n (pc' := 16) dX2_takeDark_0.1.2.2.2 rfl rfl ?_
          refine zW_aload_n (pc' := 17) dX2_takeDark_0.2.1.1.1 rfl rfl ?_
          refine zW_iload (pc' := 19) dX2_takeDark_0.2.1.1.2 rfl rfl ?_
          refine zW_iload_n (pc' := 20) dX2_takeDark_0.2.1.2.1 rfl rfl ?_
          refine cvI3 (pc' := 23) kX2_darkOf vX2_darkOf lk_X2_34 ⟨Nat.le_of_ble_eq_true rfl, Nat.le_of_ble_eq_true rfl⟩ tb86 vq2 rfl rfl (s_X2_darkOf hK hF _ ⟨by omega, by omega⟩ _ ⟨by omega, by omega, by omega⟩ _ ⟨by omega, by omega⟩) dX2_takeDark_0.2.1.2.2 (Nat.le_of_ble_eq_true rfl) rfl ?_
          rintro r20 z20 ⟨hz20, p20⟩; subst z20
          refine zW_istore (ls' := [_, _, _, _, _, _, _]) (pc' := 25) dX2_takeDark_0.2.2.1.1 (by decide) rfl rfl rfl ?_
          refine zW_iconst (pc' := 26) dX2_takeDark_0.2.2.1.2 rfl ?_
          refine zW_istore (ls' := [_, _, _, _, _, _, _]) (pc' := 28) dX2_takeDark_0.2.2.2.1 (by decide) rfl rfl rfl ?_
          exact k28 _ _ _ _ hF (by omega) (by omega) (by omega) (by omega) (by omega)
      · intro v4 v5 v6 h hF g0 g1 g2 g3 hm
        refine zW_iload (pc' := 30) dX2_takeDark_0.2.2.2.2 rfl rfl ?_
        refine zW_aload_n (pc' := 31) dX2_takeDark_1.1.1.1.1 rfl rfl ?_
        refine zG_ref (pc' := 34) 33 fg_X2_9 tb86 rfl dX2_takeDark_1.1.1.1.2 rfl ?_
        refine zG_key (pc' := 37) hF rfl fg_X2_21 tb33 rfl dX2_takeDark_1.1.1.2.1 rfl ?_
        refine zV_cm_ge (tgt := 78) (pc' := 40) dX2_takeDark_1.1.1.2.2 rfl rfl ⟨by omega, by omega⟩ ⟨by omega, by omega⟩ (fun c37 => ?_) (fun c37 => ?_)
        · refine zW_iinc (ls' := [_, _, _, _, _, _, _]) (pc' := 81) dX2_takeDark_2.2.2.1.1 rfl (by decide) rfl rfl rfl ?_
          refine zV_goto 3 dX2_takeDark_2.2.2.1.2 rfl ?_
          refine zV_clr 5 (ls' := [_, _, _, _, _, _, _]) rfl ?_
          refine zV_clr 6 (ls' := [_, _, _, _, _, _, _]) rfl ?_
          exact k3 _ _ hF (by omega) (by omega) (by omega)
        · refine zW_aload_n (pc' := 41) dX2_takeDark_1.1.2.1.1 rfl rfl ?_
          refine zG_lev (pc' := 44) (by omega) (by omega) fg_X2_24 dX2_takeDark_1.1.2.1.2 rfl ?_
          refine zW_iload (pc' := 46) dX2_takeDark_1.1.2.2.1 rfl rfl ?_
          refine zW_bipush (pc' := 48) dX2_takeDark_1.1.2.2.2 rfl rfl ?_
          refine zW_imul (pc' := 49) dX2_takeDark_1.2.1.1.1 rfl ?_
          refine zW_iload (pc' := 51) dX2_takeDark_1.2.1.1.2 rfl rfl ?_
          refine zW_iadd (pc' := 52) dX2_takeDark_1.2.1.2.1 rfl ?_
          refine zW_aload_n (pc' := 53) dX2_takeDark_1.2.1.2.2 rfl rfl ?_
          refine zG_lev (pc' := 56) (by omega) (by omega) fg_X2_24 dX2_takeDark_1.2.2.1.1 rfl ?_
          refine zW_iload (pc' := 58) dX2_takeDark_1.2.2.1.2 rfl rfl ?_
          refine zW_bipush (pc' := 60) dX2_takeDark_1.2.2.2.1 rfl rfl ?_
          refine zW_imul (pc' := 61) dX2_takeDark_1.2.2.2.2 rfl ?_
          refine zW_iload (pc' := 63) dX2_takeDark_2.1.1.1.1 rfl rfl ?_
          refine zW_iadd (pc' := 64) dX2_takeDark_2.1.1.1.2 rfl ?_
          refine zV_iald (pc' := 65) (tabL (by omega) (by omega)) (by omega) dX2_takeDark_2.1.1.2 (by decide) rfl ?_
          refine zW_iload (pc' := 67) dX2_takeDark_2.1.2.1.1 rfl rfl ?_
          refine zW_isub (pc' := 68) dX2_takeDark_2.1.2.1.2 rfl ?_
          refine csI1 (pc' := 71) kX11_clipped vX11_clipped lk_X2_30 ⟨Nat.le_of_ble_eq_true rfl, Nat.le_of_ble_eq_true rfl⟩ rfl (s_X11_clipped hF _) dX2_takeDark_2.1.2.2 (Nat.le_of_ble_eq_true rfl) rfl ?_
          rintro r68 z68 ⟨hz68, p68⟩; subst z68
          refine zS_lv (pc' := 72) hF (by omega) (by omega) hto (by omega) dX2_takeDark_2.2.1.1.1 rfl (fun h i71 hF a71 b71 w71 => ?_)
          refine zW_iinc (ls' := [_, _, _, _, _, _, _]) (pc' := 75) dX2_takeDark_2.2.1.1.2 rfl (by decide) rfl rfl rfl ?_
          refine zV_goto 28 dX2_takeDark_2.2.1.2 rfl ?_
          exact k28 _ _ _ _ hF (by omega) (by omega) (by omega) (by omega) (by omega)
  refine zM_of [some (.inr (.inr 86)), some (.inr (.inr s1)), some (.inr (.inr s2)), some (.inl x3), none, none, none] 3 rfl rfl (Nat.le_of_ble_eq_true rfl) rfl ?_
  refine zW_iconst (pc' := 1) dX2_takeDark_0.1.1.1.1 rfl ?_
  refine zW_istore (ls' := [_, _, _, _, _, _, _]) (pc' := 3) dX2_takeDark_0.1.1.1.2 (by decide) rfl rfl rfl ?_
  exact (main 10000000000000000000000000000000000000000).1 _ _ hF (by omega) (by omega) (by omega)

abbrev q_X2_middleOf (κ h : Hp) (s1 : Nat) (x2 : Int) (x3 : Int) : Int → Hp → Prop := fun r h' => h' = h ∧ (True)
set_option maxHeartbeats 4000000 in
set_option maxRecDepth 20000 in
theorem s_X2_middleOf {G : Ga} {b : Bd} {κ h : Hp} (hK : KC κ) (hF : Fr b κ h) (s1 : Nat) (hs1 : 56 ≤ s1 ∧ s1 ≤ 70) (x2 : Int) (hx2 : 0 ≤ x2 ∧ x2 ≤ 15 ∧ x2 - κ 33 0 ≤ -1) (x3 : Int) (hx3 : 0 ≤ x3 ∧ x3 ≤ 15 ∧ x3 - κ 33 1 ≤ -1) : zM G mX2_middleOf yX2_middleOf [.inr (.inr 86), .inr (.inr s1), .inl x2, .inl x3] h (q_X2_middleOf κ h s1 x2 x3) := by
  have f_33_0 := KCw hK
  have f_33_1 := KCh hK
  refine zM_of [some (.inr (.inr 86)), some (.inr (.inr s1)), some (.inl x2), some (.inl x3), none, none, none, none, none, none, none] 7 rfl rfl (Nat.le_of_ble_eq_true rfl) rfl ?_
  refine zW_aload_n (pc' := 1) dX2_middleOf_0.1.1.1.1 rfl rfl ?_
  refine zG_lev (pc' := 4) (by omega) (by omega) fg_X2_24 dX2_middleOf_0.1.1.1.2 rfl ?_
  refine zW_astore (ls' := [_, _, _, _, _, _, _, _, _, _, _]) (pc' := 6) dX2_middleOf_0.1.1.2.1 (by decide) rfl rfl rfl ?_
  refine zW_aload (pc' := 8) dX2_middleOf_0.1.1.2.2 rfl rfl ?_
  refine zW_iload_n (pc' := 9) dX2_middleOf_0.1.2.1.1 rfl rfl ?_
  refine zW_bipush (pc' := 11) dX2_middleOf_0.1.2.1.2 rfl rfl ?_
  refine zW_imul (pc' := 12) dX2_middleOf_0.1.2.2.1 rfl ?_
  refine zW_iload_n (pc' := 13) dX2_middleOf_0.1.2.2.2 rfl rfl ?_
  refine zW_iconst (pc' := 14) dX2_middleOf_0.2.1.1.1 rfl ?_
  refine zW_isub (pc' := 15) dX2_middleOf_0.2.1.1.2 rfl ?_
  refine zW_aload_n (pc' := 16) dX2_middleOf_0.2.1.2.1 rfl rfl ?_
  refine zG_ref (pc' := 19) 33 fg_X2_9 tb86 rfl dX2_middleOf_0.2.1.2.2 rfl ?_
  refine zG_key (pc' := 22) hF rfl fg_X2_21 tb33 rfl dX2_middleOf_0.2.2.1.1 rfl ?_
  refine csI2 (pc' := 25) kX11_mirrored vX11_mirrored lk_X2_38 ⟨Nat.le_of_ble_eq_true rfl, Nat.le_of_ble_eq_true rfl⟩ rfl (s_X11_mirrored hF _ ⟨by omega, by omega⟩ _ ⟨by omega, by omega⟩ (by omega)) dX2_middleOf_0.2.2.1.2 (Nat.le_of_ble_eq_true rfl) rfl ?_
  rintro r22 z22 ⟨hz22, p22⟩; subst z22
  refine zW_iadd (pc' := 26) dX2_middleOf_0.2.2.2.1 rfl ?_
  refine zV_iald (pc' := 27) (tabL (by omega) (by omega)) (by omega) dX2_middleOf_0.2.2.2.2 (by decide) rfl ?_
  refine zW_istore (ls' := [_, _, _, _, _, _, _, _, _, _, _]) (pc' := 29) dX2_middleOf_1.1.1.1.1 (by decide) rfl rfl rfl ?_
  refine zW_aload (pc' := 31) dX2_middleOf_1.1.1.1.2 rfl rfl ?_
  refine zW_iload_n (pc' := 32) dX2_middleOf_1.1.1.2.1 rfl rfl ?_
  refine zW_bipush (pc' := 34) dX2_middleOf_1.1.1.2.2 rfl rfl ?_
  refine zW_imul (pc' := 35) dX2_middleOf_1.1.2.1.1 rfl ?_
  refine zW_iload_n (pc' := 36) dX2_middleOf_1.1.2.1.2 rfl rfl ?_
  refine zW_iconst (pc' := 37) dX2_middleOf_1.1.2.2.1 rfl ?_
  refine zW_iadd (pc' := 38) dX2_middleOf_1.1.2.2.2 rfl ?_
  refine zW_aload_n (pc' := 39) dX2_middleOf_1.2.1.1.1 rfl rfl ?_
  refine zG_ref (pc' := 42) 33 fg_X2_9 tb86 rfl dX2_middleOf_1.2.1.1.2 rfl ?_
  refine zG_key (pc' := 45) hF rfl fg_X2_21 tb33 rfl dX2_middleOf_1.2.1.2.1 rfl ?_
  refine csI2 (pc' := 48) kX11_mirrored vX11_mirrored lk_X2_38 ⟨Nat.le_of_ble_eq_true rfl, Nat.le_of_ble_eq_true rfl⟩ rfl (s_X11_mirrored hF _ ⟨by omega, by omega⟩ _ ⟨by omega, by omega⟩ (by omega)) dX2_middleOf_1.2.1.2.2 (Nat.le_of_ble_eq_true rfl) rfl ?_
  rintro r45 z45 ⟨hz45, p45⟩; subst z45
  refine zW_iadd (pc' := 49) dX2_middleOf_1.2.2.1.1 rfl ?_
  refine zV_iald (pc' := 50) (tabL (by omega) (by omega)) (by omega) dX2_middleOf_1.2.2.1.2 (by decide) rfl ?_
  refine zW_istore (ls' := [_, _, _, _, _, _, _, _, _, _, _]) (pc' := 52) dX2_middleOf_1.2.2.2.1 (by decide) rfl rfl rfl ?_
  refine zW_aload (pc' := 54) dX2_middleOf_1.2.2.2.2 rfl rfl ?_
  refine zW_iload_n (pc' := 55) dX2_middleOf_2.1.1.1.1 rfl rfl ?_
  refine zW_iconst (pc' := 56) dX2_middleOf_2.1.1.1.2 rfl ?_
  refine zW_isub (pc' := 57) dX2_middleOf_2.1.1.2.1 rfl ?_
  refine zW_aload_n (pc' := 58) dX2_middleOf_2.1.1.2.2 rfl rfl ?_
  refine zG_ref (pc' := 61) 33 fg_X2_9 tb86 rfl dX2_middleOf_2.1.2.1.1 rfl ?_
  refine zG_key (pc' := 64) hF rfl fg_X2_15 tb33 rfl dX2_middleOf_2.1.2.1.2 rfl ?_
  refine csI2 (pc' := 67) kX11_mirrored vX11_mirrored lk_X2_38 ⟨Nat.le_of_ble_eq_true rfl, Nat.le_of_ble_eq_true rfl⟩ rfl (s_X11_mirrored hF _ ⟨by omega, by omega⟩ _ ⟨by omega, by omega⟩ (by omega)) dX2_middleOf_2.1.2.2.1 (Nat.le_of_ble_eq_true rfl) rfl ?_
  rintro r64 z64 ⟨hz64, p64⟩; subst z64
  refine zW_bipush (pc' := 69) dX2_middleOf_2.1.2.2.2 rfl rfl ?_
  refine zW_imul (pc' := 70) dX2_middleOf_2.2.1.1.1 rfl ?_
  refine zW_iload_n (pc' := 71) dX2_middleOf_2.2.1.1.2 rfl rfl ?_
  refine zW_iadd (pc' := 72) dX2_middleOf_2.2.1.2.1 rfl ?_
  refine zV_iald (pc' := 73) (tabL (by omega) (by omega)) (by omega) dX2_middleOf_2.2.1.2.2 (by decide) rfl ?_
  refine zW_istore (ls' := [_, _, _, _, _, _, _, _, _, _, _]) (pc' := 75) dX2_middleOf_2.2.2.1.1 (by decide) rfl rfl rfl ?_
  refine zW_aload (pc' := 77) dX2_middleOf_2.2.2.1.2 rfl rfl ?_
  refine zW_iload_n (pc' := 78) dX2_middleOf_2.2.2.2.1 rfl rfl ?_
  refine zW_iconst (pc' := 79) dX2_middleOf_2.2.2.2.2 rfl ?_
  refine zW_iadd (pc' := 80) dX2_middleOf_3.1.1.1.1 rfl ?_
  refine zW_aload_n (pc' := 81) dX2_middleOf_3.1.1.1.2 rfl rfl ?_
  refine zG_ref (pc' := 84) 33 fg_X2_9 tb86 rfl dX2_middleOf_3.1.1.2.1 rfl ?_
  refine zG_key (pc' := 87) hF rfl fg_X2_15 tb33 rfl dX2_middleOf_3.1.1.2.2 rfl ?_
  refine csI2 (pc' := 90) kX11_mirrored vX11_mirrored lk_X2_38 ⟨Nat.le_of_ble_eq_true rfl, Nat.le_of_ble_eq_true rfl⟩ rfl (s_X11_mirrored hF _ ⟨by omega, by omega⟩ _ ⟨by omega, by omega⟩ (by omega)) dX2_middleOf_3.1.2.1.1 (Nat.le_of_ble_eq_true rfl) rfl ?_
  rintro r87 z87 ⟨hz87, p87⟩; subst z87
  refine zW_bipush (pc' := 92) dX2_middleOf_3.1.2.1.2 rfl rfl ?_
  refine zW_imul (pc' := 93) dX2_middleOf_3.1.2.2.1 rfl ?_
  refine zW_iload_n (pc' := 94) dX2_middleOf_3.1.2.2.2 rfl rfl ?_
  refine zW_iadd (pc' := 95) dX2_middleOf_3.2.1.1.1 rfl ?_
  refine zV_iald (pc' := 96) (tabL (by omega) (by omega)) (by omega) dX2_middleOf_3.2.1.1.2 (by decide) rfl ?_
  refine zW_istore (ls' := [_, _, _, _, _, _, _, _, _, _, _]) (pc' := 98) dX2_middleOf_3.2.1.2.1 (by decide) rfl rfl rfl ?_
  refine zW_iload (pc' := 100) dX2_middleOf_3.2.1.2.2 rfl rfl ?_
  refine zW_iload (pc' := 102) dX2_middleOf_3.2.2.1.1 rfl rfl ?_
  refine zV_mmax (pc' := 105) km_X2_42 (Nat.le_of_ble_eq_true rfl) (Nat.le_of_ble_eq_true rfl) dX2_middleOf_3.2.2.1.2 rfl (fun v102 e102 => ?_)
  replace e102 := e102.1
  unfold rng at e102
  refine zW_iload (pc' := 107) dX2_middleOf_3.2.2.2.1 rfl rfl ?_
  refine zW_iload (pc' := 109) dX2_middleOf_3.2.2.2.2 rfl rfl ?_
  refine zV_mmax (pc' := 112) km_X2_42 (Nat.le_of_ble_eq_true rfl) (Nat.le_of_ble_eq_true rfl) dX2_middleOf_4.1.1.1.1 rfl (fun v109 e109 => ?_)
  replace e109 := e109.1
  unfold rng at e109
  refine zV_mmax (pc' := 115) km_X2_42 (Nat.le_of_ble_eq_true rfl) (Nat.le_of_ble_eq_true rfl) dX2_middleOf_4.1.1.1.2 rfl (fun v112 e112 => ?_)
  replace e112 := e112.2 ⟨by omega, by omega⟩ ⟨by omega, by omega⟩
  refine zW_istore (ls' := [_, _, _, _, _, _, _, _, _, _, _]) (pc' := 117) dX2_middleOf_4.1.1.2.1 (by decide) rfl rfl rfl ?_
  refine zW_iload (pc' := 119) dX2_middleOf_4.1.1.2.2 rfl rfl ?_
  refine zW_iload (pc' := 121) dX2_middleOf_4.1.2.1.1 rfl rfl ?_
  refine zV_mmin (pc' := 124) km_X2_47 (Nat.le_of_ble_eq_true rfl) (Nat.le_of_ble_eq_true rfl) dX2_middleOf_4.1.2.1.2 rfl (fun v121 e121 => ?_)
  replace e121 := e121.1
  unfold rng at e121
  refine zW_iload (pc' := 126) dX2_middleOf_4.1.2.2.1 rfl rfl ?_
  refine zW_iload (pc' := 128) dX2_middleOf_4.1.2.2.2 rfl rfl ?_
  refine zV_mmin (pc' := 131) km_X2_47 (Nat.le_of_ble_eq_true rfl) (Nat.le_of_ble_eq_true rfl) dX2_middleOf_4.2.1.1.1 rfl (fun v128 e128 => ?_)
  replace e128 := e128.1
  unfold rng at e128
  refine zV_mmin (pc' := 134) km_X2_47 (Nat.le_of_ble_eq_true rfl) (Nat.le_of_ble_eq_true rfl) dX2_middleOf_4.2.1.1.2 rfl (fun v131 e131 => ?_)
  replace e131 := e131.2 ⟨by omega, by omega⟩ ⟨by omega, by omega⟩
  refine zW_istore (ls' := [_, _, _, _, _, _, _, _, _, _, _]) (pc' := 136) dX2_middleOf_4.2.1.2.1 (by decide) rfl rfl rfl ?_
  refine zW_iload (pc' := 138) dX2_middleOf_4.2.1.2.2 rfl rfl ?_
  refine zW_iload (pc' := 140) dX2_middleOf_4.2.2.1.1 rfl rfl ?_
  refine zW_iadd (pc' := 141) dX2_middleOf_4.2.2.1.2 rfl ?_
  refine zW_iload (pc' := 143) dX2_middleOf_4.2.2.2.1 rfl rfl ?_
  refine zW_iadd (pc' := 144) dX2_middleOf_4.2.2.2.2 rfl ?_
  refine zW_iload (pc' := 146) dX2_middleOf_5.1.1.1.1 rfl rfl ?_
  refine zW_iadd (pc' := 147) dX2_middleOf_5.1.1.1.2 rfl ?_
  refine zW_iload (pc' := 149) dX2_middleOf_5.1.1.2 rfl rfl ?_
  refine zW_isub (pc' := 150) dX2_middleOf_5.1.2.1 rfl ?_
  refine zW_iload (pc' := 152) dX2_middleOf_5.1.2.2 rfl rfl ?_
  refine zW_isub (pc' := 153) dX2_middleOf_5.2.1.1 rfl ?_
  refine zW_iconst (pc' := 154) dX2_middleOf_5.2.1.2 rfl ?_
  refine zW_idivQ (pc' := 155) ⟨by omega, by omega⟩ (by omega) dX2_middleOf_5.2.2.1 rfl (fun v154 e154 => ?_)
  unfold rng at e154
  exact zV_iret rfl dX2_middleOf_5.2.2.2 ⟨rfl, trivial⟩

abbrev q_X2_isFound (κ h : Hp) (s1 : Nat) (x2 : Int) (x3 : Int) (x4 : Int) : Int → Hp → Prop := fun r h' => h' = h ∧ ((0 ≤ r) ∧ (r ≤ 1))
set_option maxHeartbeats 4000000 in
set_option maxRecDepth 20000 in
theorem s_X2_isFound {G : Ga} {b : Bd} {κ h : Hp} (hK : KC κ) (hF : Fr b κ h) (s1 : Nat) (hs1 : 56 ≤ s1 ∧ s1 ≤ 70) (x2 : Int) (hx2 : 0 ≤ x2 ∧ x2 ≤ 15 ∧ x2 - κ 33 0 ≤ -1) (x3 : Int) (hx3 : 0 ≤ x3 ∧ x3 ≤ 15 ∧ x3 - κ 33 1 ≤ -1) (x4 : Int) : zM G mX2_isFound yX2_isFound [.inr (.inr 86), .inr (.inr s1), .inl x2, .inl x3, .inl x4] h (q_X2_isFound κ h s1 x2 x3 x4) := by
  have f_33_0 := KCw hK
  have f_33_1 := KCh hK
  refine zM_of [some (.inr (.inr 86)), some (.inr (.inr s1)), some (.inl x2), some (.inl x3), some (.inl x4), none] 1 rfl rfl (Nat.le_of_ble_eq_true rfl) rfl ?_
  refine zW_iload_n (pc' := 1) dX2_isFound_0.1.1.1.1 rfl rfl ?_
  refine zW_bipush (pc' := 3) dX2_isFound_0.1.1.1.2 rfl rfl ?_
  refine zW_imul (pc' := 4) dX2_isFound_0.1.1.2.1 rfl ?_
  refine zW_iload_n (pc' := 5) dX2_isFound_0.1.1.2.2 rfl rfl ?_
  refine zW_iadd (pc' := 6) dX2_isFound_0.1.2.1.1 rfl ?_
  refine zW_istore (ls' := [_, _, _, _, _, _]) (pc' := 8) dX2_isFound_0.1.2.1.2 (by decide) rfl rfl rfl ?_
  refine zW_aload_n (pc' := 9) dX2_isFound_0.1.2.2.1 rfl rfl ?_
  refine zG_ref (pc' := 12) 33 fg_X2_9 tb86 rfl dX2_isFound_0.1.2.2.2 rfl ?_
  refine zG_ref (pc' := 15) 35 fg_X2_50 tb33 rfl dX2_isFound_0.2.1.1.1 rfl ?_
  refine zW_iload (pc' := 17) dX2_isFound_0.2.1.1.2 rfl rfl ?_
  refine zA_key (pc' := 18) hF rfl tb35 (by omega) dX2_isFound_0.2.1.2.1 (by decide) rfl ?_
  refine zW_iconst (pc' := 19) dX2_isFound_0.2.1.2.2 rfl ?_
  refine zV_cmQ_eq (tgt := 48) (pc' := 22) dX2_isFound_0.2.2.1.1 rfl rfl ?_ ?_
  · refine zW_iconst (pc' := 49) dX2_isFound_1.2.2.1.1 rfl ?_
    refine zV_goto 53 dX2_isFound_1.2.2.1.2 rfl ?_
    exact zV_zret rfl (by omega) dX2_isFound_1.2.2.2.2 ⟨rfl, by omega⟩
  · refine zW_aload_n (pc' := 23) dX2_isFound_0.2.2.1.2 rfl rfl ?_
    refine zG_lev (pc' := 26) (by omega) (by omega) fg_X2_24 dX2_isFound_0.2.2.2.1 rfl ?_
    refine zW_iload (pc' := 28) dX2_isFound_0.2.2.2.2 rfl rfl ?_
    refine zV_iald (pc' := 29) (tabL (by omega) (by omega)) (by omega) dX2_isFound_1.1.1.1.1 (by decide) rfl ?_
    refine zW_aload_n (pc' := 30) dX2_isFound_1.1.1.1.2 rfl rfl ?_
    refine zW_aload_n (pc' := 31) dX2_isFound_1.1.1.2.1 rfl rfl ?_
    refine zW_iload_n (pc' := 32) dX2_isFound_1.1.1.2.2 rfl rfl ?_
    refine zW_iload_n (pc' := 33) dX2_isFound_1.1.2.1.1 rfl rfl ?_
    refine cvI3 (pc' := 36) kX2_middleOf vX2_middleOf lk_X2_53 ⟨Nat.le_of_ble_eq_true rfl, Nat.le_of_ble_eq_true rfl⟩ tb86 vq2 rfl rfl (s_X2_middleOf hK hF _ ⟨by omega, by omega⟩ _ ⟨by omega, by omega, by omega⟩ _ ⟨by omega, by omega, by omega⟩) dX2_isFound_1.1.2.1.2 (Nat.le_of_ble_eq_true rfl) rfl ?_
    rintro r33 z33 ⟨hz33, p33⟩; subst z33
    refine zW_isub (pc' := 37) dX2_isFound_1.1.2.2.1 rfl ?_
    refine zV_mabs (pc' := 40) km_X2_56 (Nat.le_of_ble_eq_true rfl) (Nat.le_of_ble_eq_true rfl) dX2_isFound_1.1.2.2.2 rfl (fun v37 e37 => ?_)
    replace e37 := e37.1
    unfold rng at e37
    refine zW_bipush (pc' := 42) dX2_isFound_1.2.1.1.1 rfl rfl ?_
    refine zW_iload (pc' := 44) dX2_isFound_1.2.1.1.2 rfl rfl ?_
    refine zW_imul (pc' := 45) dX2_isFound_1.2.1.2.1 rfl ?_
    refine zV_cmQ_le (tgt := 52) (pc' := 48) dX2_isFound_1.2.1.2.2 rfl rfl ?_ ?_
    · refine zW_iconst (pc' := 53) dX2_isFound_1.2.2.2.1 rfl ?_
      exact zV_zret rfl (by omega) dX2_isFound_1.2.2.2.2 ⟨rfl, by omega⟩
    · refine zW_iconst (pc' := 49) dX2_isFound_1.2.2.1.1 rfl ?_
      refine zV_goto 53 dX2_isFound_1.2.2.1.2 rfl ?_
      exact zV_zret rfl (by omega) dX2_isFound_1.2.2.2.2 ⟨rfl, by omega⟩

abbrev q_X2_fillFound (b : Bd) (κ : Hp) (s1 : Nat) (s2 : Nat) (x3 : Int) : Int → Hp → Prop := fun r h' => Fr b κ h' ∧ (True)
set_option maxHeartbeats 4000000 in
set_option maxRecDepth 20000 in
theorem s_X2_fillFound {G : Ga} {b : Bd} {κ h : Hp} (hK : KC κ) (hF : Fr b κ h) (s1 : Nat) (hs1 : 56 ≤ s1 ∧ s1 ≤ 70) (s2 : Nat) (hs2 : 56 ≤ s2 ∧ s2 ≤ 70) (x3 : Int) (hto : OkL b (s2 + 15)) : zM G mX2_fillFound yX2_fillFound [.inr (.inr 86), .inr (.inr s1), .inr (.inr s2), .inl x3] h (q_X2_fillFound b κ s1 s2 x3) := by
  have f_33_0 := KCw hK
  have f_33_1 := KCh hK
  have main : ∀ N : Nat, (∀ (v4 : Int) (h : Hp), Fr b κ h → (0 ≤ v4 ∧ v4 ≤ 16) → (v4 - κ 33 1 ≤ 0) → 25485840 + 31464 * (16 - v4) + 30780 < (N : Int) → zV G mX2_fillFound (q_X2_fillFound b κ s1 s2 x3) 3 [some (.inr (.inr 86)), some (.inr (.inr s1)), some (.inr (.inr s2)), some (.inl x3), some (.inl v4), none, none] [] h) ∧ (∀ (v4 v5 : Int) (h : Hp), Fr b κ h → (0 ≤ v4 ∧ v4 ≤ 15) → (v4 - κ 33 1 ≤ -1) → (0 ≤ v5 ∧ v5 ≤ 16) → (v5 - κ 33 0 ≤ 0) → 25485840 + 31464 * (16 - v4) + 25308 + 38 * (16 - v5) + 37 < (N : Int) → zV G mX2_fillFound (q_X2_fillFound b κ s1 s2 x3) 18 [some (.inr (.inr 86)), some (.inr (.inr s1)), some (.inr (.inr s2)), some (.inl x3), some (.inl v4), some (.inl v5), none] [] h) := by
    intro N
    induction N with
    | zero =>
      refine ⟨?_, ?_⟩
      · intro v4 h hF g0 g1 hm
        exfalso; omega
      · intro v4 v5 h hF g0 g1 g2 g3 hm
        exfalso; omega
    | succ N ih =>
      obtain ⟨k3, k18⟩ := ih
      refine ⟨?_, ?_⟩
      · intro v4 h hF g0 g1 hm
        refine zW_iload (pc' := 5) dX2_fillFound_0.1.1.2.1 rfl rfl ?_
        refine zW_aload_n (pc' := 6) dX2_fillFound_0.1.1.2.2 rfl rfl ?_
        refine zG_ref (pc' := 9) 33 fg_X2_9 tb86 rfl dX2_fillFound_0.1.2.1.1 rfl ?_
        refine zG_key (pc' := 12) hF rfl fg_X2_15 tb33 rfl dX2_fillFound_0.1.2.1.2 rfl ?_
        refine zV_cm_ge (tgt := 91) (pc' := 15) dX2_fillFound_0.1.2.2.1 rfl rfl ⟨by omega, by omega⟩ ⟨by omega, by omega⟩ (fun c12 => ?_) (fun c12 => ?_)
        · exact zV_vret rfl dX2_fillFound_2.2.2.2 ⟨hF, trivial⟩
        · refine zW_iconst (pc' := 16) dX2_fillFound_0.1.2.2.2 rfl ?_
          refine zW_istore (ls' := [_, _, _, _, _, _, _]) (pc' := 18) dX2_fillFound_0.2.1.1.1 (by decide) rfl rfl rfl ?_
          exact k18 _ _ _ hF (by omega) (by omega) (by omega) (by omega) (by omega)
      · intro v4 v5 h hF g0 g1 g2 g3 hm
        refine zW_iload (pc' := 20) dX2_fillFound_0.2.1.1.2 rfl rfl ?_
        refine zW_aload_n (pc' := 21) dX2_fillFound_0.2.1.2.1 rfl rfl ?_
        refine zG_ref (pc' := 24) 33 fg_X2_9 tb86 rfl dX2_fillFound_0.2.1.2.2 rfl ?_
        refine zG_key (pc' := 27) hF rfl fg_X2_21 tb33 rfl dX2_fillFound_0.2.2.1.1 rfl ?_
        refine zV_cm_ge (tgt := 85) (pc' := 30) dX2_fillFound_0.2.2.1.2 rfl rfl ⟨by omega, by omega⟩ ⟨by omega, by omega⟩ (fun c27 => ?_) (fun c27 => ?_)
        · refine zW_iinc (ls' := [_, _, _, _, _, _, _]) (pc' := 88) dX2_fillFound_2.2.2.1.1 rfl (by decide) rfl rfl rfl ?_
          refine zV_goto 3 dX2_fillFound_2.2.2.1.2 rfl ?_
          refine zV_clr 5 (ls' := [_, _, _, _, _, _, _]) rfl ?_
          exact k3 _ _ hF (by omega) (by omega) (by omega)
        · refine zW_iload (pc' := 32) dX2_fillFound_0.2.2.2.1 rfl rfl ?_
          refine zW_bipush (pc' := 34) dX2_fillFound_0.2.2.2.2 rfl rfl ?_
          refine zW_imul (pc' := 35) dX2_fillFound_1.1.1.1.1 rfl ?_
          refine zW_iload (pc' := 37) dX2_fillFound_1.1.1.1.2 rfl rfl ?_
          refine zW_iadd (pc' := 38) dX2_fillFound_1.1.1.2.1 rfl ?_
          refine zW_istore (ls' := [_, _, _, _, _, _, _]) (pc' := 40) dX2_fillFound_1.1.1.2.2 (by decide) rfl rfl rfl ?_
          refine zW_aload_n (pc' := 41) dX2_fillFound_1.1.2.1.1 rfl rfl ?_
          refine zG_lev (pc' := 44) (by omega) (by omega) fg_X2_24 dX2_fillFound_1.1.2.1.2 rfl ?_
          refine zW_iload (pc' := 46) dX2_fillFound_1.1.2.2.1 rfl rfl ?_
          refine zW_aload_n (pc' := 47) dX2_fillFound_1.1.2.2.2 rfl rfl ?_
          refine zW_aload_n (pc' := 48) dX2_fillFound_1.2.1.1.1 rfl rfl ?_
          refine zW_iload (pc' := 50) dX2_fillFound_1.2.1.1.2 rfl rfl ?_
          refine zW_iload (pc' := 52) dX2_fillFound_1.2.1.2.1 rfl rfl ?_
          refine zW_iload_n (pc' := 53) dX2_fillFound_1.2.1.2.2 rfl rfl ?_
          refine cvI4 (pc' := 56) kX2_isFound vX2_isFound lk_X2_59 ⟨Nat.le_of_ble_eq_true rfl, Nat.le_of_ble_eq_true rfl⟩ tb86 vq2 rfl rfl (s_X2_isFound hK hF _ ⟨by omega, by omega⟩ _ ⟨by omega, by omega, by omega⟩ _ ⟨by omega, by omega, by omega⟩ _) dX2_fillFound_1.2.2.1.1 (Nat.le_of_ble_eq_true rfl) rfl ?_
          rintro r53 z53 ⟨hz53, p53⟩; subst z53
          refine zV_if_eq (tgt := 71) (pc' := 59) dX2_fillFound_1.2.2.1.2 rfl rfl ⟨by omega, by omega⟩ (fun c56 => ?_) (fun c56 => ?_)
          · refine zW_aload_n (pc' := 72) dX2_fillFound_2.1.2.1.1 rfl rfl ?_
            refine zG_lev (pc' := 75) (by omega) (by omega) fg_X2_24 dX2_fillFound_2.1.2.1.2 rfl ?_
            refine zW_iload (pc' := 77) dX2_fillFound_2.1.2.2 rfl rfl ?_
            refine zV_iald (pc' := 78) (tabL (by omega) (by omega)) (by omega) dX2_fillFound_2.2.1.1.1 (by decide) rfl ?_
            refine zS_lv (pc' := 79) hF (by omega) (by omega) hto (by omega) dX2_fillFound_2.2.1.1.2 rfl (fun h i78 hF a78 b78 w78 => ?_)
            refine zW_iinc (ls' := [_, _, _, _, _, _, _]) (pc' := 82) dX2_fillFound_2.2.1.2.1 rfl (by decide) rfl rfl rfl ?_
            refine zV_goto 18 dX2_fillFound_2.2.1.2.2 rfl ?_
            refine zV_clr 6 (ls' := [_, _, _, _, _, _, _]) rfl ?_
            exact k18 _ _ _ hF (by omega) (by omega) (by omega) (by omega) (by omega)
          · refine zW_aload_n (pc' := 60) dX2_fillFound_1.2.2.2.1 rfl rfl ?_
            refine zW_aload_n (pc' := 61) dX2_fillFound_1.2.2.2.2 rfl rfl ?_
            refine zW_iload (pc' := 63) dX2_fillFound_2.1.1.1.1 rfl rfl ?_
            refine zW_iload (pc' := 65) dX2_fillFound_2.1.1.1.2 rfl rfl ?_
            refine cvI3 (pc' := 68) kX2_middleOf vX2_middleOf lk_X2_53 ⟨Nat.le_of_ble_eq_true rfl, Nat.le_of_ble_eq_true rfl⟩ tb86 vq2 rfl rfl (s_X2_middleOf hK hF _ ⟨by omega, by omega⟩ _ ⟨by omega, by omega, by omega⟩ _ ⟨by omega, by omega, by omega⟩) dX2_fillFound_2.1.1.2.1 (Nat.le_of_ble_eq_true rfl) rfl ?_
            rintro r65 z65 ⟨hz65, p65⟩; subst z65
            refine zV_goto 78 dX2_fillFound_2.1.1.2.2 rfl ?_
            refine zS_lv (pc' := 79) hF (by omega) (by omega) hto (by omega) dX2_fillFound_2.2.1.1.2 rfl (fun h i78 hF a78 b78 w78 => ?_)
            refine zW_iinc (ls' := [_, _, _, _, _, _, _]) (pc' := 82) dX2_fillFound_2.2.1.2.1 rfl (by decide) rfl rfl rfl ?_
            refine zV_goto 18 dX2_fillFound_2.2.1.2.2 rfl ?_
            refine zV_clr 6 (ls' := [_, _, _, _, _, _, _]) rfl ?_
            exact k18 _ _ _ hF (by omega) (by omega) (by omega) (by omega) (by omega)
  refine zM_of [some (.inr (.inr 86)), some (.inr (.inr s1)), some (.inr (.inr s2)), some (.inl x3), none, none, none] 3 rfl rfl (Nat.le_of_ble_eq_true rfl) rfl ?_
  refine zW_iconst (pc' := 1) dX2_fillFound_0.1.1.1.1 rfl ?_
  refine zW_istore (ls' := [_, _, _, _, _, _, _]) (pc' := 3) dX2_fillFound_0.1.1.1.2 (by decide) rfl rfl rfl ?_
  exact (main 10000000000000000000000000000000000000000).1 _ _ hF (by omega) (by omega) (by omega)

abbrev q_X2_liftShade (b : Bd) (κ : Hp) (s1 : Nat) (s2 : Nat) (x3 : Int) : Int → Hp → Prop := fun r h' => Fr b κ h' ∧ (True)
set_option maxHeartbeats 4000000 in
set_option maxRecDepth 20000 in
theorem s_X2_liftShade {G : Ga} {b : Bd} {κ h : Hp} (hK : KC κ) (hF : Fr b κ h) (s1 : Nat) (hs1 : 56 ≤ s1 ∧ s1 ≤ 70) (s2 : Nat) (hs2 : 56 ≤ s2 ∧ s2 ≤ 70) (x3 : Int) (hto : OkL b (s2 + 15)) : zM G mX2_liftShade yX2_liftShade [.inr (.inr 86), .inr (.inr s1), .inr (.inr s2), .inl x3] h (q_X2_liftShade b κ s1 s2 x3) := by
  have f_33_0 := KCw hK
  have f_33_1 := KCh hK
  have main : ∀ N : Nat, (∀ (v4 : Int) (h : Hp), Fr b κ h → (0 ≤ v4 ∧ v4 ≤ 16) → (v4 - κ 33 1 ≤ 0) → 115516368 + 87912 * (16 - v4) + 86724 < (N : Int) → zV G mX2_liftShade (q_X2_liftShade b κ s1 s2 x3) 3 [some (.inr (.inr 86)), some (.inr (.inr s1)), some (.inr (.inr s2)), some (.inl x3), some (.inl v4), none, none, none, none] [] h) ∧ (∀ (v4 v5 : Int) (h : Hp), Fr b κ h → (0 ≤ v4 ∧ v4 ≤ 15) → (v4 - κ 33 1 ≤ -1) → (0 ≤ v5 ∧ v5 ≤ 16) → (v5 - κ 33 0 ≤ 0) → 115516368 + 87912 * (16 - v4) + 77220 + 66 * (16 - v5) + 65 < (N : Int) → zV G mX2_liftShade (q_X2_liftShade b κ s1 s2 x3) 18 [some (.inr (.inr 86)), some (.inr (.inr s1)), some (.inr (.inr s2)), some (.inl x3), some (.inl v4), some (.inl v5), none, none, none] [] h) := by
    intro N
    induction N with
    | zero =>
      refine ⟨?_, ?_⟩
      · intro v4 h hF g0 g1 hm
        exfalso; omega
      · intro v4 v5 h hF g0 g1 g2 g3 hm
        exfalso; omega
    | succ N ih =>
      obtain ⟨k3, k18⟩ := ih
      refine ⟨?_, ?_⟩
      · intro v4 h hF g0 g1 hm
        refine zW_iload (pc' := 5) dX2_liftShade_0.1.1.2.1 rfl rfl ?_
        refine zW_aload_n (pc' := 6) dX2_liftShade_0.1.1.2.2 rfl rfl ?_
        refine zG_ref (pc' := 9) 33 fg_X2_9 tb86 rfl dX2_liftShade_0.1.2.1.1 rfl ?_
        refine zG_key (pc' := 12) hF rfl fg_X2_15 tb33 rfl dX2_liftShade_0.1.2.1.2 rfl ?_
        refine zV_cm_ge (tgt := 132) (pc' := 15) dX2_liftShade_0.1.2.2.1 rfl rfl ⟨by omega, by omega⟩ ⟨by omega, by omega⟩ (fun c12 => ?_) (fun c12 => ?_)
        · exact zV_vret rfl dX2_liftShade_4.2.2.2 ⟨hF, trivial⟩
        · refine zW_iconst (pc' := 16) dX2_liftShade_0.1.2.2.2 rfl ?_
          refine zW_istore (ls' := [_, _, _, _, _, _, _, _, _]) (pc' := 18) dX2_liftShade_0.2.1.1.1 (by decide) rfl rfl rfl ?_
          exact k18 _ _ _ hF (by omega) (by omega) (by omega) (by omega) (by omega)
      · intro v4 v5 h hF g0 g1 g2 g3 hm
        refine zW_iload (pc' := 20) dX2_liftShade_0.2.1.1.2 rfl rfl ?_
        refine zW_aload_n (pc' := 21) dX2_liftShade_0.2.1.2.1 rfl rfl ?_
        refine zG_ref (pc' := 24) 33 fg_X2_9 tb86 rfl dX2_liftShade_0.2.1.2.2 rfl ?_
        refine zG_key (pc' := 27) hF rfl fg_X2_21 tb33 rfl dX2_liftShade_0.2.2.1.1 rfl ?_
        refine zV_cm_ge (tgt := 126) (pc' := 30) dX2_liftShade_0.2.2.1.2 rfl rfl ⟨by omega, by omega⟩ ⟨by omega, by omega⟩ (fun c27 => ?_) (fun c27 => ?_)
        · refine zW_iinc (ls' := [_, _, _, _, _, _, _, _, _]) (pc' := 129) dX2_liftShade_4.2.1.2 rfl (by decide) rfl rfl rfl ?_
          refine zV_goto 3 dX2_liftShade_4.2.2.1 rfl ?_
          refine zV_clr 5 (ls' := [_, _, _, _, _, _, _, _, _]) rfl ?_
          exact k3 _ _ hF (by omega) (by omega) (by omega)
        · refine zW_iconst (pc' := 31) dX2_liftShade_0.2.2.2.1 rfl ?_
          refine zW_iload (pc' := 33) dX2_liftShade_0.2.2.2.2 rfl rfl ?_
          refine zW_imul (pc' := 34) dX2_liftShade_1.1.1.1.1 rfl ?_
          refine zW_iconst (pc' := 35) dX2_liftShade_1.1.1.1.2 rfl ?_
          refine zW_iadd (pc' := 36) dX2_liftShade_1.1.1.2.1 rfl ?_
          refine zW_aload_n (pc' := 37) dX2_liftShade_1.1.1.2.2 rfl rfl ?_
          refine zG_ref (pc' := 40) 33 fg_X2_9 tb86 rfl dX2_liftShade_1.1.2.1.1 rfl ?_
          refine zG_key (pc' := 43) hF rfl fg_X2_21 tb33 rfl dX2_liftShade_1.1.2.1.2 rfl ?_
          refine zW_isub (pc' := 44) dX2_liftShade_1.1.2.2.1 rfl ?_
          refine zW_istore (ls' := [_, _, _, _, _, _, _, _, _]) (pc' := 46) dX2_liftShade_1.1.2.2.2 (by decide) rfl rfl rfl ?_
          refine zW_iconst (pc' := 47) dX2_liftShade_1.2.1.1.1 rfl ?_
          refine zW_iload (pc' := 49) dX2_liftShade_1.2.1.1.2 rfl rfl ?_
          refine zW_imul (pc' := 50) dX2_liftShade_1.2.1.2.1 rfl ?_
          refine zW_iconst (pc' := 51) dX2_liftShade_1.2.1.2.2 rfl ?_
          refine zW_iadd (pc' := 52) dX2_liftShade_1.2.2.1.1 rfl ?_
          refine zW_aload_n (pc' := 53) dX2_liftShade_1.2.2.1.2 rfl rfl ?_
          refine zG_ref (pc' := 56) 33 fg_X2_9 tb86 rfl dX2_liftShade_1.2.2.2.1 rfl ?_
          refine zG_key (pc' := 59) hF rfl fg_X2_15 tb33 rfl dX2_liftShade_1.2.2.2.2 rfl ?_
          refine zW_isub (pc' := 60) dX2_liftShade_2.1.1.1.1 rfl ?_
          refine zW_istore (ls' := [_, _, _, _, _, _, _, _, _]) (pc' := 62) dX2_liftShade_2.1.1.1.2 (by decide) rfl rfl rfl ?_
          refine zW_sipush (pc' := 65) dX2_liftShade_2.1.1.2.1 rfl rfl ?_
          refine zW_iload_n (pc' := 66) dX2_liftShade_2.1.1.2.2 rfl rfl ?_
          refine zW_iload (pc' := 68) dX2_liftShade_2.1.2.1.1 rfl rfl ?_
          refine zW_iload (pc' := 70) dX2_liftShade_2.1.2.1.2 rfl rfl ?_
          refine zW_imul (pc' := 71) dX2_liftShade_2.1.2.2.1 rfl ?_
          refine zW_iload (pc' := 73) dX2_liftShade_2.1.2.2.2 rfl rfl ?_
          refine zW_iload (pc' := 75) dX2_liftShade_2.2.1.1.1 rfl rfl ?_
          refine zW_imul (pc' := 76) dX2_liftShade_2.2.1.1.2 rfl ?_
          refine zW_iadd (pc' := 77) dX2_liftShade_2.2.1.2.1 rfl ?_
          refine zW_imul (pc' := 78) dX2_liftShade_2.2.1.2.2 rfl ?_
          refine zW_bipush (pc' := 80) dX2_liftShade_2.2.2.1.1 rfl rfl ?_
          refine zW_idivQ (pc' := 81) ⟨by omega, by omega⟩ (by omega) dX2_liftShade_2.2.2.1.2 rfl (fun v80 e80 => ?_)
          unfold rng at e80
          refine zW_iadd (pc' := 82) dX2_liftShade_2.2.2.2.1 rfl ?_
          refine zW_istore (ls' := [_, _, _, _, _, _, _, _, _]) (pc' := 84) dX2_liftShade_2.2.2.2.2 (by decide) rfl rfl rfl ?_
          refine zW_aload_n (pc' := 85) dX2_liftShade_3.1.1.1.1 rfl rfl ?_
          refine zG_lev (pc' := 88) (by omega) (by omega) fg_X2_24 dX2_liftShade_3.1.1.1.2 rfl ?_
          refine zW_iload (pc' := 90) dX2_liftShade_3.1.1.2.1 rfl rfl ?_
          refine zW_bipush (pc' := 92) dX2_liftShade_3.1.1.2.2 rfl rfl ?_
          refine zW_imul (pc' := 93) dX2_liftShade_3.1.2.1.1 rfl ?_
          refine zW_iload (pc' := 95) dX2_liftShade_3.1.2.1.2 rfl rfl ?_
          refine zW_iadd (pc' := 96) dX2_liftShade_3.1.2.2.1 rfl ?_
          refine zW_aload_n (pc' := 97) dX2_liftShade_3.1.2.2.2 rfl rfl ?_
          refine zG_lev (pc' := 100) (by omega) (by omega) fg_X2_24 dX2_liftShade_3.2.1.1.1 rfl ?_
          refine zW_iload (pc' := 102) dX2_liftShade_3.2.1.1.2 rfl rfl ?_
          refine zW_bipush (pc' := 104) dX2_liftShade_3.2.1.2.1 rfl rfl ?_
          refine zW_imul (pc' := 105) dX2_liftShade_3.2.1.2.2 rfl ?_
          refine zW_iload (pc' := 107) dX2_liftShade_3.2.2.1.1 rfl rfl ?_
          refine zW_iadd (pc' := 108) dX2_liftShade_3.2.2.1.2 rfl ?_
          refine zV_iald (pc' := 109) (tabL (by omega) (by omega)) (by omega) dX2_liftShade_3.2.2.2.1 (by decide) rfl ?_
          refine zW_iload (pc' := 111) dX2_liftShade_3.2.2.2.2 rfl rfl ?_
          refine zW_imul (pc' := 112) dX2_liftShade_4.1.1.1.1 rfl ?_
          refine zW_sipush (pc' := 115) dX2_liftShade_4.1.1.1.2 rfl rfl ?_
          refine zW_idivQ (pc' := 116) ⟨by omega, by omega⟩ (by omega) dX2_liftShade_4.1.1.2 rfl (fun v115 e115 => ?_)
          unfold rng at e115
          refine csI1 (pc' := 119) kX11_clipped vX11_clipped lk_X2_30 ⟨Nat.le_of_ble_eq_true rfl, Nat.le_of_ble_eq_true rfl⟩ rfl (s_X11_clipped hF _) dX2_liftShade_4.1.2.1 (Nat.le_of_ble_eq_true rfl) rfl ?_
          rintro r116 z116 ⟨hz116, p116⟩; subst z116
          refine zS_lv (pc' := 120) hF (by omega) (by omega) hto (by omega) dX2_liftShade_4.1.2.2 rfl (fun h i119 hF a119 b119 w119 => ?_)
          refine zW_iinc (ls' := [_, _, _, _, _, _, _, _, _]) (pc' := 123) dX2_liftShade_4.2.1.1.1 rfl (by decide) rfl rfl rfl ?_
          refine zV_goto 18 dX2_liftShade_4.2.1.1.2 rfl ?_
          refine zV_clr 6 (ls' := [_, _, _, _, _, _, _, _, _]) rfl ?_
          refine zV_clr 7 (ls' := [_, _, _, _, _, _, _, _, _]) rfl ?_
          refine zV_clr 8 (ls' := [_, _, _, _, _, _, _, _, _]) rfl ?_
          exact k18 _ _ _ hF (by omega) (by omega) (by omega) (by omega) (by omega)
  refine zM_of [some (.inr (.inr 86)), some (.inr (.inr s1)), some (.inr (.inr s2)), some (.inl x3), none, none, none, none, none] 5 rfl rfl (Nat.le_of_ble_eq_true rfl) rfl ?_
  refine zW_iconst (pc' := 1) dX2_liftShade_0.1.1.1.1 rfl ?_
  refine zW_istore (ls' := [_, _, _, _, _, _, _, _, _]) (pc' := 3) dX2_liftShade_0.1.1.1.2 (by decide) rfl rfl rfl ?_
  exact (main 10000000000000000000000000000000000000000).1 _ _ hF (by omega) (by omega) (by omega)

abbrev q_X2_wayOf (κ h : Hp) (s1 : Nat) (x2 : Int) (x3 : Int) : Int → Hp → Prop := fun r h' => h' = h ∧ ((0 ≤ r) ∧ (r ≤ 2))
set_option maxHeartbeats 4000000 in
set_option maxRecDepth 20000 in
theorem s_X2_wayOf {G : Ga} {b : Bd} {κ h : Hp} (hK : KC κ) (hF : Fr b κ h) (s1 : Nat) (hs1 : 56 ≤ s1 ∧ s1 ≤ 70) (x2 : Int) (hx2 : 0 ≤ x2 ∧ x2 ≤ 15 ∧ x2 - κ 33 0 ≤ -1) (x3 : Int) (hx3 : 0 ≤ x3 ∧ x3 ≤ 15 ∧ x3 - κ 33 1 ≤ -1) : zM G mX2_wayOf yX2_wayOf [.inr (.inr 86), .inr (.inr s1), .inl x2, .inl x3] h (q_X2_wayOf κ h s1 x2 x3) := by
  have f_33_0 := KCw hK
  have f_33_1 := KCh hK
  refine zM_of [some (.inr (.inr 86)), some (.inr (.inr s1)), some (.inl x2), some (.inl x3), none, none, none, none, none, none, none, none] 8 rfl rfl (Nat.le_of_ble_eq_true rfl) rfl ?_
  refine zW_aload_n (pc' := 1) dX2_wayOf_0.1.1.1.1 rfl rfl ?_
  refine zG_lev (pc' := 4) (by omega) (by omega) fg_X2_24 dX2_wayOf_0.1.1.1.2 rfl ?_
  refine zW_astore (ls' := [_, _, _, _, _, _, _, _, _, _, _, _]) (pc' := 6) dX2_wayOf_0.1.1.2.1 (by decide) rfl rfl rfl ?_
  refine zW_iload_n (pc' := 7) dX2_wayOf_0.1.1.2.2 rfl rfl ?_
  refine zW_bipush (pc' := 9) dX2_wayOf_0.1.2.1.1 rfl rfl ?_
  refine zW_imul (pc' := 10) dX2_wayOf_0.1.2.1.2 rfl ?_
  refine zW_istore (ls' := [_, _, _, _, _, _, _, _, _, _, _, _]) (pc' := 12) dX2_wayOf_0.1.2.2.1 (by decide) rfl rfl rfl ?_
  refine zW_aload (pc' := 14) dX2_wayOf_0.1.2.2.2 rfl rfl ?_
  refine zW_iload (pc' := 16) dX2_wayOf_0.2.1.1.1 rfl rfl ?_
  refine zW_iload_n (pc' := 17) dX2_wayOf_0.2.1.1.2 rfl rfl ?_
  refine zW_iconst (pc' := 18) dX2_wayOf_0.2.1.2.1 rfl ?_
  refine zW_isub (pc' := 19) dX2_wayOf_0.2.1.2.2 rfl ?_
  refine zW_aload_n (pc' := 20) dX2_wayOf_0.2.2.1.1 rfl rfl ?_
  refine zG_ref (pc' := 23) 33 fg_X2_9 tb86 rfl dX2_wayOf_0.2.2.1.2 rfl ?_
  refine zG_key (pc' := 26) hF rfl fg_X2_21 tb33 rfl dX2_wayOf_0.2.2.2.1 rfl ?_
  refine csI2 (pc' := 29) kX11_mirrored vX11_mirrored lk_X2_38 ⟨Nat.le_of_ble_eq_true rfl, Nat.le_of_ble_eq_true rfl⟩ rfl (s_X11_mirrored hF _ ⟨by omega, by omega⟩ _ ⟨by omega, by omega⟩ (by omega)) dX2_wayOf_0.2.2.2.2 (Nat.le_of_ble_eq_true rfl) rfl ?_
  rintro r26 z26 ⟨hz26, p26⟩; subst z26
  refine zW_iadd (pc' := 30) dX2_wayOf_1.1.1.1.1 rfl ?_
  refine zV_iald (pc' := 31) (tabL (by omega) (by omega)) (by omega) dX2_wayOf_1.1.1.1.2 (by decide) rfl ?_
  refine zW_aload (pc' := 33) dX2_wayOf_1.1.1.2.1 rfl rfl ?_
  refine zW_iload (pc' := 35) dX2_wayOf_1.1.1.2.2 rfl rfl ?_
  refine zW_iload_n (pc' := 36) dX2_wayOf_1.1.2.1.1 rfl rfl ?_
  refine zW_iconst (pc' := 37) dX2_wayOf_1.1.2.1.2 rfl ?_
  refine zW_iadd (pc' := 38) dX2_wayOf_1.1.2.2.1 rfl ?_
  refine zW_aload_n (pc' := 39) dX2_wayOf_1.1.2.2.2 rfl rfl ?_
  refine zG_ref (pc' := 42) 33 fg_X2_9 tb86 rfl dX2_wayOf_1.2.1.1.1 rfl ?_
  refine zG_key (pc' := 45) hF rfl fg_X2_21 tb33 rfl dX2_wayOf_1.2.1.1.2 rfl ?_
  refine csI2 (pc' := 48) kX11_mirrored vX11_mirrored lk_X2_38 ⟨Nat.le_of_ble_eq_true rfl, Nat.le_of_ble_eq_true rfl⟩ rfl (s_X11_mirrored hF _ ⟨by omega, by omega⟩ _ ⟨by omega, by omega⟩ (by omega)) dX2_wayOf_1.2.1.2.1 (Nat.le_of_ble_eq_true rfl) rfl ?_
  rintro r45 z45 ⟨hz45, p45⟩; subst z45
  refine zW_iadd (pc' := 49) dX2_wayOf_1.2.1.2.2 rfl ?_
  refine zV_iald (pc' := 50) (tabL (by omega) (by omega)) (by omega) dX2_wayOf_1.2.2.1.1 (by decide) rfl ?_
  refine zW_isub (pc' := 51) dX2_wayOf_1.2.2.1.2 rfl ?_
  refine zW_istore (ls' := [_, _, _, _, _, _, _, _, _, _, _, _]) (pc' := 53) dX2_wayOf_1.2.2.2.1 (by decide) rfl rfl rfl ?_
  refine zW_aload (pc' := 55) dX2_wayOf_1.2.2.2.2 rfl rfl ?_
  refine zW_iload (pc' := 57) dX2_wayOf_2.1.1.1.1 rfl rfl ?_
  refine zW_iload_n (pc' := 58) dX2_wayOf_2.1.1.1.2 rfl rfl ?_
  refine zW_iconst (pc' := 59) dX2_wayOf_2.1.1.2.1 rfl ?_
  refine zW_isub (pc' := 60) dX2_wayOf_2.1.1.2.2 rfl ?_
  refine zW_aload_n (pc' := 61) dX2_wayOf_2.1.2.1.1 rfl rfl ?_
  refine zG_ref (pc' := 64) 33 fg_X2_9 tb86 rfl dX2_wayOf_2.1.2.1.2 rfl ?_
  refine zG_key (pc' := 67) hF rfl fg_X2_21 tb33 rfl dX2_wayOf_2.1.2.2.1 rfl ?_
  refine csI2 (pc' := 70) kX11_mirrored vX11_mirrored lk_X2_38 ⟨Nat.le_of_ble_eq_true rfl, Nat.le_of_ble_eq_true rfl⟩ rfl (s_X11_mirrored hF _ ⟨by omega, by omega⟩ _ ⟨by omega, by omega⟩ (by omega)) dX2_wayOf_2.1.2.2.2 (Nat.le_of_ble_eq_true rfl) rfl ?_
  rintro r67 z67 ⟨hz67, p67⟩; subst z67
  refine zW_iadd (pc' := 71) dX2_wayOf_2.2.1.1.1 rfl ?_
  refine zV_iald (pc' := 72) (tabL (by omega) (by omega)) (by omega) dX2_wayOf_2.2.1.1.2 (by decide) rfl ?_
  refine zW_aload (pc' := 74) dX2_wayOf_2.2.1.2.1 rfl rfl ?_
  refine zW_iload (pc' := 76) dX2_wayOf_2.2.1.2.2 rfl rfl ?_
  refine zW_iload_n (pc' := 77) dX2_wayOf_2.2.2.1.1 rfl rfl ?_
  refine zW_iconst (pc' := 78) dX2_wayOf_2.2.2.1.2 rfl ?_
  refine zW_iadd (pc' := 79) dX2_wayOf_2.2.2.2.1 rfl ?_
  refine zW_aload_n (pc' := 80) dX2_wayOf_2.2.2.2.2 rfl rfl ?_
  refine zG_ref (pc' := 83) 33 fg_X2_9 tb86 rfl dX2_wayOf_3.1.1.1.1 rfl ?_
  refine zG_key (pc' := 86) hF rfl fg_X2_21 tb33 rfl dX2_wayOf_3.1.1.1.2 rfl ?_
  refine csI2 (pc' := 89) kX11_mirrored vX11_mirrored lk_X2_38 ⟨Nat.le_of_ble_eq_true rfl, Nat.le_of_ble_eq_true rfl⟩ rfl (s_X11_mirrored hF _ ⟨by omega, by omega⟩ _ ⟨by omega, by omega⟩ (by omega)) dX2_wayOf_3.1.1.2.1 (Nat.le_of_ble_eq_true rfl) rfl ?_
  rintro r86 z86 ⟨hz86, p86⟩; subst z86
  refine zW_iadd (pc' := 90) dX2_wayOf_3.1.1.2.2 rfl ?_
  refine zV_iald (pc' := 91) (tabL (by omega) (by omega)) (by omega) dX2_wayOf_3.1.2.1.1 (by decide) rfl ?_
  refine zW_iadd (pc' := 92) dX2_wayOf_3.1.2.1.2 rfl ?_
  refine zW_istore (ls' := [_, _, _, _, _, _, _, _, _, _, _, _]) (pc' := 94) dX2_wayOf_3.1.2.2.1 (by decide) rfl rfl rfl ?_
  refine zW_aload (pc' := 96) dX2_wayOf_3.1.2.2.2 rfl rfl ?_
  refine zW_iload_n (pc' := 97) dX2_wayOf_3.2.1.1.1 rfl rfl ?_
  refine zW_iconst (pc' := 98) dX2_wayOf_3.2.1.1.2 rfl ?_
  refine zW_isub (pc' := 99) dX2_wayOf_3.2.1.2.1 rfl ?_
  refine zW_aload_n (pc' := 100) dX2_wayOf_3.2.1.2.2 rfl rfl ?_
  refine zG_ref (pc' := 103) 33 fg_X2_9 tb86 rfl dX2_wayOf_3.2.2.1.1 rfl ?_
  refine zG_key (pc' := 106) hF rfl fg_X2_15 tb33 rfl dX2_wayOf_3.2.2.1.2 rfl ?_
  refine csI2 (pc' := 109) kX11_mirrored vX11_mirrored lk_X2_38 ⟨Nat.le_of_ble_eq_true rfl, Nat.le_of_ble_eq_true rfl⟩ rfl (s_X11_mirrored hF _ ⟨by omega, by omega⟩ _ ⟨by omega, by omega⟩ (by omega)) dX2_wayOf_3.2.2.2.1 (Nat.le_of_ble_eq_true rfl) rfl ?_
  rintro r106 z106 ⟨hz106, p106⟩; subst z106
  refine zW_bipush (pc' := 111) dX2_wayOf_3.2.2.2.2 rfl rfl ?_
  refine zW_imul (pc' := 112) dX2_wayOf_4.1.1.1.1 rfl ?_
  refine zW_iload_n (pc' := 113) dX2_wayOf_4.1.1.1.2 rfl rfl ?_
  refine zW_iadd (pc' := 114) dX2_wayOf_4.1.1.2.1 rfl ?_
  refine zV_iald (pc' := 115) (tabL (by omega) (by omega)) (by omega) dX2_wayOf_4.1.1.2.2 (by decide) rfl ?_
  refine zW_aload (pc' := 117) dX2_wayOf_4.1.2.1.1 rfl rfl ?_
  refine zW_iload_n (pc' := 118) dX2_wayOf_4.1.2.1.2 rfl rfl ?_
  refine zW_iconst (pc' := 119) dX2_wayOf_4.1.2.2.1 rfl ?_
  refine zW_iadd (pc' := 120) dX2_wayOf_4.1.2.2.2 rfl ?_
  refine zW_aload_n (pc' := 121) dX2_wayOf_4.2.1.1.1 rfl rfl ?_
  refine zG_ref (pc' := 124) 33 fg_X2_9 tb86 rfl dX2_wayOf_4.2.1.1.2 rfl ?_
  refine zG_key (pc' := 127) hF rfl fg_X2_15 tb33 rfl dX2_wayOf_4.2.1.2.1 rfl ?_
  refine csI2 (pc' := 130) kX11_mirrored vX11_mirrored lk_X2_38 ⟨Nat.le_of_ble_eq_true rfl, Nat.le_of_ble_eq_true rfl⟩ rfl (s_X11_mirrored hF _ ⟨by omega, by omega⟩ _ ⟨by omega, by omega⟩ (by omega)) dX2_wayOf_4.2.1.2.2 (Nat.le_of_ble_eq_true rfl) rfl ?_
  rintro r127 z127 ⟨hz127, p127⟩; subst z127
  refine zW_bipush (pc' := 132) dX2_wayOf_4.2.2.1.1 rfl rfl ?_
  refine zW_imul (pc' := 133) dX2_wayOf_4.2.2.1.2 rfl ?_
  refine zW_iload_n (pc' := 134) dX2_wayOf_4.2.2.2.1 rfl rfl ?_
  refine zW_iadd (pc' := 135) dX2_wayOf_4.2.2.2.2 rfl ?_
  refine zV_iald (pc' := 136) (tabL (by omega) (by omega)) (by omega) dX2_wayOf_5.1.1.1.1 (by decide) rfl ?_
  refine zW_isub (pc' := 137) dX2_wayOf_5.1.1.1.2 rfl ?_
  refine zW_istore (ls' := [_, _, _, _, _, _, _, _, _, _, _, _]) (pc' := 139) dX2_wayOf_5.1.1.2.1 (by decide) rfl rfl rfl ?_
  refine zW_aload (pc' := 141) dX2_wayOf_5.1.1.2.2 rfl rfl ?_
  refine zW_iload_n (pc' := 142) dX2_wayOf_5.1.2.1.1 rfl rfl ?_
  refine zW_iconst (pc' := 143) dX2_wayOf_5.1.2.1.2 rfl ?_
  refine zW_isub (pc' := 144) dX2_wayOf_5.1.2.2.1 rfl ?_
  refine zW_aload_n (pc' := 145) dX2_wayOf_5.1.2.2.2 rfl rfl ?_
  refine zG_ref (pc' := 148) 33 fg_X2_9 tb86 rfl dX2_wayOf_5.2.1.1.1 rfl ?_
  refine zG_key (pc' := 151) hF rfl fg_X2_15 tb33 rfl dX2_wayOf_5.2.1.1.2 rfl ?_
  refine csI2 (pc' := 154) kX11_mirrored vX11_mirrored lk_X2_38 ⟨Nat.le_of_ble_eq_true rfl, Nat.le_of_ble_eq_true rfl⟩ rfl (s_X11_mirrored hF _ ⟨by omega, by omega⟩ _ ⟨by omega, by omega⟩ (by omega)) dX2_wayOf_5.2.1.2.1 (Nat.le_of_ble_eq_true rfl) rfl ?_
  rintro r151 z151 ⟨hz151, p151⟩; subst z151
  refine zW_bipush (pc' := 156) dX2_wayOf_5.2.1.2.2 rfl rfl ?_
  refine zW_imul (pc' := 157) dX2_wayOf_5.2.2.1.1 rfl ?_
  refine zW_iload_n (pc' := 158) dX2_wayOf_5.2.2.1.2 rfl rfl ?_
  refine zW_iadd (pc' := 159) dX2_wayOf_5.2.2.2.1 rfl ?_
  refine zV_iald (pc' := 160) (tabL (by omega) (by omega)) (by omega) dX2_wayOf_5.2.2.2.2 (by decide) rfl ?_
  refine zW_aload (pc' := 162) dX2_wayOf_6.1.1.1.1 rfl rfl ?_
  refine zW_iload_n (pc' := 163) dX2_wayOf_6.1.1.1.2 rfl rfl ?_
  refine zW_iconst (pc' := 164) dX2_wayOf_6.1.1.2.1 rfl ?_
  refine zW_iadd (pc' := 165) dX2_wayOf_6.1.1.2.2 rfl ?_
  refine zW_aload_n (pc' := 166) dX2_wayOf_6.1.2.1.1 rfl rfl ?_
  refine zG_ref (pc' := 169) 33 fg_X2_9 tb86 rfl dX2_wayOf_6.1.2.1.2 rfl ?_
  refine zG_key (pc' := 172) hF rfl fg_X2_15 tb33 rfl dX2_wayOf_6.1.2.2.1 rfl ?_
  refine csI2 (pc' := 175) kX11_mirrored vX11_mirrored lk_X2_38 ⟨Nat.le_of_ble_eq_true rfl, Nat.le_of_ble_eq_true rfl⟩ rfl (s_X11_mirrored hF _ ⟨by omega, by omega⟩ _ ⟨by omega, by omega⟩ (by omega)) dX2_wayOf_6.1.2.2.2 (Nat.le_of_ble_eq_true rfl) rfl ?_
  rintro r172 z172 ⟨hz172, p172⟩; subst z172
  refine zW_bipush (pc' := 177) dX2_wayOf_6.2.1.1.1 rfl rfl ?_
  refine zW_imul (pc' := 178) dX2_wayOf_6.2.1.1.2 rfl ?_
  refine zW_iload_n (pc' := 179) dX2_wayOf_6.2.1.2.1 rfl rfl ?_
  refine zW_iadd (pc' := 180) dX2_wayOf_6.2.1.2.2 rfl ?_
  refine zV_iald (pc' := 181) (tabL (by omega) (by omega)) (by omega) dX2_wayOf_6.2.2.1.1 (by decide) rfl ?_
  refine zW_iadd (pc' := 182) dX2_wayOf_6.2.2.1.2 rfl ?_
  refine zW_istore (ls' := [_, _, _, _, _, _, _, _, _, _, _, _]) (pc' := 184) dX2_wayOf_6.2.2.2.1 (by decide) rfl rfl rfl ?_
  refine zW_iload (pc' := 186) dX2_wayOf_6.2.2.2.2 rfl rfl ?_
  refine zV_mabs (pc' := 189) km_X2_56 (Nat.le_of_ble_eq_true rfl) (Nat.le_of_ble_eq_true rfl) dX2_wayOf_7.1.1.1.1 rfl (fun v186 e186 => ?_)
  replace e186 := e186.1
  unfold rng at e186
  refine zW_iconst (pc' := 190) dX2_wayOf_7.1.1.1.2 rfl ?_
  refine zW_aload (pc' := 192) dX2_wayOf_7.1.1.2.1 rfl rfl ?_
  refine zW_iload (pc' := 194) dX2_wayOf_7.1.1.2.2 rfl rfl ?_
  refine zW_iload_n (pc' := 195) dX2_wayOf_7.1.2.1.1 rfl rfl ?_
  refine zW_iadd (pc' := 196) dX2_wayOf_7.1.2.1.2 rfl ?_
  refine zV_iald (pc' := 197) (tabL (by omega) (by omega)) (by omega) dX2_wayOf_7.1.2.2.1 (by decide) rfl ?_
  refine zW_imul (pc' := 198) dX2_wayOf_7.1.2.2.2 rfl ?_
  refine zW_iload (pc' := 200) dX2_wayOf_7.2.1.1.1 rfl rfl ?_
  refine zW_isub (pc' := 201) dX2_wayOf_7.2.1.1.2 rfl ?_
  refine zV_mabs (pc' := 204) km_X2_56 (Nat.le_of_ble_eq_true rfl) (Nat.le_of_ble_eq_true rfl) dX2_wayOf_7.2.1.2.1 rfl (fun v201 e201 => ?_)
  replace e201 := e201.1
  unfold rng at e201
  refine zW_iadd (pc' := 205) dX2_wayOf_7.2.1.2.2 rfl ?_
  refine zW_istore (ls' := [_, _, _, _, _, _, _, _, _, _, _, _]) (pc' := 207) dX2_wayOf_7.2.2.1.1 (by decide) rfl rfl rfl ?_
  refine zW_iload (pc' := 209) dX2_wayOf_7.2.2.1.2 rfl rfl ?_
  refine zV_mabs (pc' := 212) km_X2_56 (Nat.le_of_ble_eq_true rfl) (Nat.le_of_ble_eq_true rfl) dX2_wayOf_7.2.2.2.1 rfl (fun v209 e209 => ?_)
  replace e209 := e209.1
  unfold rng at e209
  refine zW_iconst (pc' := 213) dX2_wayOf_7.2.2.2.2 rfl ?_
  refine zW_aload (pc' := 215) dX2_wayOf_8.1.1.1.1 rfl rfl ?_
  refine zW_iload (pc' := 217) dX2_wayOf_8.1.1.1.2 rfl rfl ?_
  refine zW_iload_n (pc' := 218) dX2_wayOf_8.1.1.2.1 rfl rfl ?_
  refine zW_iadd (pc' := 219) dX2_wayOf_8.1.1.2.2 rfl ?_
  refine zV_iald (pc' := 220) (tabL (by omega) (by omega)) (by omega) dX2_wayOf_8.1.2.1.1 (by decide) rfl ?_
  refine zW_imul (pc' := 221) dX2_wayOf_8.1.2.1.2 rfl ?_
  refine zW_iload (pc' := 223) dX2_wayOf_8.1.2.2.1 rfl rfl ?_
  refine zW_isub (pc' := 224) dX2_wayOf_8.1.2.2.2 rfl ?_
  refine zV_mabs (pc' := 227) km_X2_56 (Nat.le_of_ble_eq_true rfl) (Nat.le_of_ble_eq_true rfl) dX2_wayOf_8.2.1.1.1 rfl (fun v224 e224 => ?_)
  replace e224 := e224.1
  unfold rng at e224
  refine zW_iadd (pc' := 228) dX2_wayOf_8.2.1.1.2 rfl ?_
  refine zW_istore (ls' := [_, _, _, _, _, _, _, _, _, _, _, _]) (pc' := 230) dX2_wayOf_8.2.1.2.1 (by decide) rfl rfl rfl ?_
  refine zW_iload (pc' := 232) dX2_wayOf_8.2.1.2.2 rfl rfl ?_
  refine zW_iload (pc' := 234) dX2_wayOf_8.2.2.1.1 rfl rfl ?_
  refine zV_cmQ_ge (tgt := 239) (pc' := 237) dX2_wayOf_8.2.2.1.2 rfl rfl ?_ ?_
  · refine zW_iload (pc' := 241) dX2_wayOf_9.1.1.1 rfl rfl ?_
    refine zW_iload (pc' := 243) dX2_wayOf_9.1.1.2 rfl rfl ?_
    refine zV_cmQ_ge (tgt := 250) (pc' := 246) dX2_wayOf_9.1.2.1 rfl rfl ?_ ?_
    · refine zW_iconst (pc' := 251) dX2_wayOf_9.2.1.2 rfl ?_
      exact zV_iret rfl dX2_wayOf_9.2.2 ⟨rfl, by omega⟩
    · refine zW_iconst (pc' := 247) dX2_wayOf_9.1.2.2 rfl ?_
      refine zV_goto 251 dX2_wayOf_9.2.1.1 rfl ?_
      exact zV_iret rfl dX2_wayOf_9.2.2 ⟨rfl, by omega⟩
  · refine zW_iconst (pc' := 238) dX2_wayOf_8.2.2.2.1 rfl ?_
    exact zV_iret rfl dX2_wayOf_8.2.2.2.2 ⟨rfl, by omega⟩

abbrev q_X2_greenOf (κ h : Hp) (s1 : Nat) (x2 : Int) (x3 : Int) (x4 : Int) : Int → Hp → Prop := fun r h' => h' = h ∧ (True)
set_option maxHeartbeats 4000000 in
set_option maxRecDepth 20000 in
theorem s_X2_greenOf {G : Ga} {b : Bd} {κ h : Hp} (hK : KC κ) (hF : Fr b κ h) (s1 : Nat) (hs1 : 56 ≤ s1 ∧ s1 ≤ 70) (x2 : Int) (hx2 : 0 ≤ x2 ∧ x2 ≤ 15 ∧ x2 - κ 33 0 ≤ -1) (x3 : Int) (hx3 : 0 ≤ x3 ∧ x3 ≤ 15 ∧ x3 - κ 33 1 ≤ -1) (x4 : Int) : zM G mX2_greenOf yX2_greenOf [.inr (.inr 86), .inr (.inr s1), .inl x2, .inl x3, .inl x4] h (q_X2_greenOf κ h s1 x2 x3 x4) := by
  have f_33_0 := KCw hK
  have f_33_1 := KCh hK
  have k136 : ∀ (v6 v7 u0 : Int) , (0 ≤ u0 ∧ u0 ≤ 2) → zV G mX2_greenOf (q_X2_greenOf κ h s1 x2 x3 x4) 136 [some (.inr (.inr 86)), some (.inr (.inr s1)), some (.inl x2), some (.inl x3), some (.inl x4), some (.inr (.inr (s1 + 15))), some (.inl v6), some (.inl v7), none] [.inl u0] h := by
    intro v6 v7 u0 g0
    refine zW_istore (ls' := [_, _, _, _, _, _, _, _, _]) (pc' := 138) dX2_greenOf_5.1.2.1.1 (by decide) rfl rfl rfl ?_
    refine zW_iload (pc' := 140) dX2_greenOf_5.1.2.1.2 rfl rfl ?_
    refine zW_iconst (pc' := 141) dX2_greenOf_5.1.2.2.1 rfl ?_
    refine zV_cm_ne (tgt := 152) (pc' := 144) dX2_greenOf_5.1.2.2.2 rfl rfl ⟨by omega, by omega⟩ ⟨by omega, by omega⟩ (fun c141 => ?_) (fun c141 => ?_)
    · refine zW_iload (pc' := 154) dX2_greenOf_5.2.2.2.1 rfl rfl ?_
      refine zV_if_ne (tgt := 164) (pc' := 157) dX2_greenOf_5.2.2.2.2 rfl rfl ⟨by omega, by omega⟩ (fun c154 => ?_) (fun c154 => ?_)
      · refine zW_iload (pc' := 166) dX2_greenOf_6.2.1.1 rfl rfl ?_
        refine zW_iconst (pc' := 167) dX2_greenOf_6.2.1.2 rfl ?_
        refine zW_idivQ (pc' := 168) ⟨by omega, by omega⟩ (by omega) dX2_greenOf_6.2.2.1 rfl (fun v167 e167 => ?_)
        unfold rng at e167
        exact zV_iret rfl dX2_greenOf_6.2.2.2 ⟨rfl, trivial⟩
      · refine zW_iload (pc' := 159) dX2_greenOf_6.1.1.1 rfl rfl ?_
        refine zW_iconst (pc' := 160) dX2_greenOf_6.1.1.2 rfl ?_
        refine zW_idivQ (pc' := 161) ⟨by omega, by omega⟩ (by omega) dX2_greenOf_6.1.2.1 rfl (fun v160 e160 => ?_)
        unfold rng at e160
        refine zV_goto 168 dX2_greenOf_6.1.2.2 rfl ?_
        exact zV_iret rfl dX2_greenOf_6.2.2.2 ⟨rfl, trivial⟩
    · refine zW_iload (pc' := 146) dX2_greenOf_5.2.1.1.1 rfl rfl ?_
      refine zW_iload (pc' := 148) dX2_greenOf_5.2.1.1.2 rfl rfl ?_
      refine zW_iadd (pc' := 149) dX2_greenOf_5.2.1.2.1 rfl ?_
      refine zW_iconst (pc' := 150) dX2_greenOf_5.2.1.2.2 rfl ?_
      refine zW_idivQ (pc' := 151) ⟨by omega, by omega⟩ (by omega) dX2_greenOf_5.2.2.1.1 rfl (fun v150 e150 => ?_)
      unfold rng at e150
      exact zV_iret rfl dX2_greenOf_5.2.2.1.2 ⟨rfl, trivial⟩
  refine zM_of [some (.inr (.inr 86)), some (.inr (.inr s1)), some (.inl x2), some (.inl x3), some (.inl x4), none, none, none, none] 4 rfl rfl (Nat.le_of_ble_eq_true rfl) rfl ?_
  refine zW_aload_n (pc' := 1) dX2_greenOf_0.1.1.1.1 rfl rfl ?_
  refine zG_lev (pc' := 4) (by omega) (by omega) fg_X2_24 dX2_greenOf_0.1.1.1.2 rfl ?_
  refine zW_astore (ls' := [_, _, _, _, _, _, _, _, _]) (pc' := 6) dX2_greenOf_0.1.1.2.1 (by decide) rfl rfl rfl ?_
  refine zW_aload_n (pc' := 7) dX2_greenOf_0.1.1.2.2 rfl rfl ?_
  refine zG_ref (pc' := 10) 33 fg_X2_9 tb86 rfl dX2_greenOf_0.1.2.1.1 rfl ?_
  refine zW_iload_n (pc' := 11) dX2_greenOf_0.1.2.1.2 rfl rfl ?_
  refine zW_iload_n (pc' := 12) dX2_greenOf_0.1.2.2.1 rfl rfl ?_
  refine cvI2 (pc' := 15) kX5_colourOf vX5_colourOf lk_X2_71 ⟨Nat.le_of_ble_eq_true rfl, Nat.le_of_ble_eq_true rfl⟩ tb33 vq5 rfl rfl (s_X5_colourOf hK hF _ _) dX2_greenOf_0.1.2.2.2 (Nat.le_of_ble_eq_true rfl) rfl ?_
  rintro r12 z12 ⟨hz12, p12⟩; subst z12
  refine zW_iconst (pc' := 16) dX2_greenOf_0.2.1.1.1 rfl ?_
  refine zV_cm_ne (tgt := 29) (pc' := 19) dX2_greenOf_0.2.1.1.2 rfl rfl ⟨by omega, by omega⟩ ⟨by omega, by omega⟩ (fun c16 => ?_) (fun c16 => ?_)
  · refine zW_aload (pc' := 31) dX2_greenOf_1.1.1.2.1 rfl rfl ?_
    refine zW_iload_n (pc' := 32) dX2_greenOf_1.1.1.2.2 rfl rfl ?_
    refine zW_bipush (pc' := 34) dX2_greenOf_1.1.2.1.1 rfl rfl ?_
    refine zW_imul (pc' := 35) dX2_greenOf_1.1.2.1.2 rfl ?_
    refine zW_iload_n (pc' := 36) dX2_greenOf_1.1.2.2.1 rfl rfl ?_
    refine zW_iconst (pc' := 37) dX2_greenOf_1.1.2.2.2 rfl ?_
    refine zW_isub (pc' := 38) dX2_greenOf_1.2.1.1.1 rfl ?_
    refine zW_aload_n (pc' := 39) dX2_greenOf_1.2.1.1.2 rfl rfl ?_
    refine zG_ref (pc' := 42) 33 fg_X2_9 tb86 rfl dX2_greenOf_1.2.1.2.1 rfl ?_
    refine zG_key (pc' := 45) hF rfl fg_X2_21 tb33 rfl dX2_greenOf_1.2.1.2.2 rfl ?_
    refine csI2 (pc' := 48) kX11_mirrored vX11_mirrored lk_X2_38 ⟨Nat.le_of_ble_eq_true rfl, Nat.le_of_ble_eq_true rfl⟩ rfl (s_X11_mirrored hF _ ⟨by omega, by omega⟩ _ ⟨by omega, by omega⟩ (by omega)) dX2_greenOf_1.2.2.1.1 (Nat.le_of_ble_eq_true rfl) rfl ?_
    rintro r45 z45 ⟨hz45, p45⟩; subst z45
    refine zW_iadd (pc' := 49) dX2_greenOf_1.2.2.1.2 rfl ?_
    refine zV_iald (pc' := 50) (tabL (by omega) (by omega)) (by omega) dX2_greenOf_1.2.2.2.1 (by decide) rfl ?_
    refine zW_aload (pc' := 52) dX2_greenOf_1.2.2.2.2 rfl rfl ?_
    refine zW_iload_n (pc' := 53) dX2_greenOf_2.1.1.1.1 rfl rfl ?_
    refine zW_bipush (pc' := 55) dX2_greenOf_2.1.1.1.2 rfl rfl ?_
    refine zW_imul (pc' := 56) dX2_greenOf_2.1.1.2.1 rfl ?_
    refine zW_iload_n (pc' := 57) dX2_greenOf_2.1.1.2.2 rfl rfl ?_
    refine zW_iconst (pc' := 58) dX2_greenOf_2.1.2.1.1 rfl ?_
    refine zW_iadd (pc' := 59) dX2_greenOf_2.1.2.1.2 rfl ?_
    refine zW_aload_n (pc' := 60) dX2_greenOf_2.1.2.2.1 rfl rfl ?_
    refine zG_ref (pc' := 63) 33 fg_X2_9 tb86 rfl dX2_greenOf_2.1.2.2.2 rfl ?_
    refine zG_key (pc' := 66) hF rfl fg_X2_21 tb33 rfl dX2_greenOf_2.2.1.1.1 rfl ?_
    refine csI2 (pc' := 69) kX11_mirrored vX11_mirrored lk_X2_38 ⟨Nat.le_of_ble_eq_true rfl, Nat.le_of_ble_eq_true rfl⟩ rfl (s_X11_mirrored hF _ ⟨by omega, by omega⟩ _ ⟨by omega, by omega⟩ (by omega)) dX2_greenOf_2.2.1.1.2 (Nat.le_of_ble_eq_true rfl) rfl ?_
    rintro r66 z66 ⟨hz66, p66⟩; subst z66
    refine zW_iadd (pc' := 70) dX2_greenOf_2.2.1.2.1 rfl ?_
    refine zV_iald (pc' := 71) (tabL (by omega) (by omega)) (by omega) dX2_greenOf_2.2.1.2.2 (by decide) rfl ?_
    refine zW_iadd (pc' := 72) dX2_greenOf_2.2.2.1.1 rfl ?_
    refine zW_istore (ls' := [_, _, _, _, _, _, _, _, _]) (pc' := 74) dX2_greenOf_2.2.2.1.2 (by decide) rfl rfl rfl ?_
    refine zW_aload (pc' := 76) dX2_greenOf_2.2.2.2.1 rfl rfl ?_
    refine zW_iload_n (pc' := 77) dX2_greenOf_2.2.2.2.2 rfl rfl ?_
    refine zW_iconst (pc' := 78) dX2_greenOf_3.1.1.1.1 rfl ?_
    refine zW_isub (pc' := 79) dX2_greenOf_3.1.1.1.2 rfl ?_
    refine zW_aload_n (pc' := 80) dX2_greenOf_3.1.1.2.1 rfl rfl ?_
    refine zG_ref (pc' := 83) 33 fg_X2_9 tb86 rfl dX2_greenOf_3.1.1.2.2 rfl ?_
    refine zG_key (pc' := 86) hF rfl fg_X2_15 tb33 rfl dX2_greenOf_3.1.2.1.1 rfl ?_
    refine csI2 (pc' := 89) kX11_mirrored vX11_mirrored lk_X2_38 ⟨Nat.le_of_ble_eq_true rfl, Nat.le_of_ble_eq_true rfl⟩ rfl (s_X11_mirrored hF _ ⟨by omega, by omega⟩ _ ⟨by omega, by omega⟩ (by omega)) dX2_greenOf_3.1.2.1.2 (Nat.le_of_ble_eq_true rfl) rfl ?_
    rintro r86 z86 ⟨hz86, p86⟩; subst z86
    refine zW_bipush (pc' := 91) dX2_greenOf_3.1.2.2.1 rfl rfl ?_
    refine zW_imul (pc' := 92) dX2_greenOf_3.1.2.2.2 rfl ?_
    refine zW_iload_n (pc' := 93) dX2_greenOf_3.2.1.1.1 rfl rfl ?_
    refine zW_iadd (pc' := 94) dX2_greenOf_3.2.1.1.2 rfl ?_
    refine zV_iald (pc' := 95) (tabL (by omega) (by omega)) (by omega) dX2_greenOf_3.2.1.2.1 (by decide) rfl ?_
    refine zW_aload (pc' := 97) dX2_greenOf_3.2.1.2.2 rfl rfl ?_
    refine zW_iload_n (pc' := 98) dX2_greenOf_3.2.2.1.1 rfl rfl ?_
    refine zW_iconst (pc' := 99) dX2_greenOf_3.2.2.1.2 rfl ?_
    refine zW_iadd (pc' := 100) dX2_greenOf_3.2.2.2.1 rfl ?_
    refine zW_aload_n (pc' := 101) dX2_greenOf_3.2.2.2.2 rfl rfl ?_
    refine zG_ref (pc' := 104) 33 fg_X2_9 tb86 rfl dX2_greenOf_4.1.1.1.1 rfl ?_
    refine zG_key (pc' := 107) hF rfl fg_X2_15 tb33 rfl dX2_greenOf_4.1.1.1.2 rfl ?_
    refine csI2 (pc' := 110) kX11_mirrored vX11_mirrored lk_X2_38 ⟨Nat.le_of_ble_eq_true rfl, Nat.le_of_ble_eq_true rfl⟩ rfl (s_X11_mirrored hF _ ⟨by omega, by omega⟩ _ ⟨by omega, by omega⟩ (by omega)) dX2_greenOf_4.1.1.2.1 (Nat.le_of_ble_eq_true rfl) rfl ?_
    rintro r107 z107 ⟨hz107, p107⟩; subst z107
    refine zW_bipush (pc' := 112) dX2_greenOf_4.1.1.2.2 rfl rfl ?_
    refine zW_imul (pc' := 113) dX2_greenOf_4.1.2.1.1 rfl ?_
    refine zW_iload_n (pc' := 114) dX2_greenOf_4.1.2.1.2 rfl rfl ?_
    refine zW_iadd (pc' := 115) dX2_greenOf_4.1.2.2.1 rfl ?_
    refine zV_iald (pc' := 116) (tabL (by omega) (by omega)) (by omega) dX2_greenOf_4.1.2.2.2 (by decide) rfl ?_
    refine zW_iadd (pc' := 117) dX2_greenOf_4.2.1.1.1 rfl ?_
    refine zW_istore (ls' := [_, _, _, _, _, _, _, _, _]) (pc' := 119) dX2_greenOf_4.2.1.1.2 (by decide) rfl rfl rfl ?_
    refine zW_iload (pc' := 121) dX2_greenOf_4.2.1.2.1 rfl rfl ?_
    refine zW_iconst (pc' := 122) dX2_greenOf_4.2.1.2.2 rfl ?_
    refine zV_cmQ_ne (tgt := 135) (pc' := 125) dX2_greenOf_4.2.2.1.1 rfl rfl ?_ ?_
    · refine zW_iconst (pc' := 136) dX2_greenOf_5.1.1.2.2 rfl ?_
      exact k136 _ _ _ (by omega)
    · refine zW_aload_n (pc' := 126) dX2_greenOf_4.2.2.1.2 rfl rfl ?_
      refine zW_aload_n (pc' := 127) dX2_greenOf_4.2.2.2.1 rfl rfl ?_
      refine zW_iload_n (pc' := 128) dX2_greenOf_4.2.2.2.2 rfl rfl ?_
      refine zW_iload_n (pc' := 129) dX2_greenOf_5.1.1.1.1 rfl rfl ?_
      refine cvI3 (pc' := 132) kX2_wayOf vX2_wayOf lk_X2_74 ⟨Nat.le_of_ble_eq_true rfl, Nat.le_of_ble_eq_true rfl⟩ tb86 vq2 rfl rfl (s_X2_wayOf hK hF _ ⟨by omega, by omega⟩ _ ⟨by omega, by omega, by omega⟩ _ ⟨by omega, by omega, by omega⟩) dX2_greenOf_5.1.1.1.2 (Nat.le_of_ble_eq_true rfl) rfl ?_
      rintro r129 z129 ⟨hz129, p129⟩; subst z129
      refine zV_goto 136 dX2_greenOf_5.1.1.2.1 rfl ?_
      exact k136 _ _ _ (by omega)
  · refine zW_aload (pc' := 21) dX2_greenOf_0.2.1.2.1 rfl rfl ?_
    refine zW_iload_n (pc' := 22) dX2_greenOf_0.2.1.2.2 rfl rfl ?_
    refine zW_bipush (pc' := 24) dX2_greenOf_0.2.2.1.1 rfl rfl ?_
    refine zW_imul (pc' := 25) dX2_greenOf_0.2.2.1.2 rfl ?_
    refine zW_iload_n (pc' := 26) dX2_greenOf_0.2.2.2.1 rfl rfl ?_
    refine zW_iadd (pc' := 27) dX2_greenOf_0.2.2.2.2 rfl ?_
    refine zV_iald (pc' := 28) (tabL (by omega) (by omega)) (by omega) dX2_greenOf_1.1.1.1.1 (by decide) rfl ?_
    exact zV_iret rfl dX2_greenOf_1.1.1.1.2 ⟨rfl, trivial⟩

abbrev q_X2_aboveGreen (κ h : Hp) (s1 : Nat) (s2 : Nat) (x3 : Int) (x4 : Int) : Int → Hp → Prop := fun r h' => h' = h ∧ (True)
set_option maxHeartbeats 4000000 in
set_option maxRecDepth 20000 in
theorem s_X2_aboveGreen {G : Ga} {b : Bd} {κ h : Hp} (hK : KC κ) (hF : Fr b κ h) (s1 : Nat) (hs1 : 56 ≤ s1 ∧ s1 ≤ 70) (s2 : Nat) (hs2 : 56 ≤ s2 ∧ s2 ≤ 70) (x3 : Int) (hx3 : -2 ≤ x3 ∧ x3 ≤ 17 ∧ x3 - κ 33 0 ≤ 1) (x4 : Int) (hx4 : -2 ≤ x4 ∧ x4 ≤ 17 ∧ x4 - κ 33 1 ≤ 1) : zM G mX2_aboveGreen yX2_aboveGreen [.inr (.inr 86), .inr (.inr s1), .inr (.inr s2), .inl x3, .inl x4] h (q_X2_aboveGreen κ h s1 s2 x3 x4) := by
  have f_33_0 := KCw hK
  have f_33_1 := KCh hK
  refine zM_of [some (.inr (.inr 86)), some (.inr (.inr s1)), some (.inr (.inr s2)), some (.inl x3), some (.inl x4), none] 1 rfl rfl (Nat.le_of_ble_eq_true rfl) rfl ?_
  refine zW_iload (pc' := 2) dX2_aboveGreen_0.1.1.1.1 rfl rfl ?_
  refine zW_aload_n (pc' := 3) dX2_aboveGreen_0.1.1.1.2 rfl rfl ?_
  refine zG_ref (pc' := 6) 33 fg_X2_9 tb86 rfl dX2_aboveGreen_0.1.1.2.1 rfl ?_
  refine zG_key (pc' := 9) hF rfl fg_X2_15 tb33 rfl dX2_aboveGreen_0.1.1.2.2 rfl ?_
  refine csI2 (pc' := 12) kX11_mirrored vX11_mirrored lk_X2_38 ⟨Nat.le_of_ble_eq_true rfl, Nat.le_of_ble_eq_true rfl⟩ rfl (s_X11_mirrored hF _ ⟨by omega, by omega⟩ _ ⟨by omega, by omega⟩ (by omega)) dX2_aboveGreen_0.1.2.1.1 (Nat.le_of_ble_eq_true rfl) rfl ?_
  rintro r9 z9 ⟨hz9, p9⟩; subst z9
  refine zW_bipush (pc' := 14) dX2_aboveGreen_0.1.2.1.2 rfl rfl ?_
  refine zW_imul (pc' := 15) dX2_aboveGreen_0.1.2.2.1 rfl ?_
  refine zW_iload_n (pc' := 16) dX2_aboveGreen_0.1.2.2.2 rfl rfl ?_
  refine zW_aload_n (pc' := 17) dX2_aboveGreen_0.2.1.1.1 rfl rfl ?_
  refine zG_ref (pc' := 20) 33 fg_X2_9 tb86 rfl dX2_aboveGreen_0.2.1.1.2 rfl ?_
  refine zG_key (pc' := 23) hF rfl fg_X2_21 tb33 rfl dX2_aboveGreen_0.2.1.2.1 rfl ?_
  refine csI2 (pc' := 26) kX11_mirrored vX11_mirrored lk_X2_38 ⟨Nat.le_of_ble_eq_true rfl, Nat.le_of_ble_eq_true rfl⟩ rfl (s_X11_mirrored hF _ ⟨by omega, by omega⟩ _ ⟨by omega, by omega⟩ (by omega)) dX2_aboveGreen_0.2.1.2.2 (Nat.le_of_ble_eq_true rfl) rfl ?_
  rintro r23 z23 ⟨hz23, p23⟩; subst z23
  refine zW_iadd (pc' := 27) dX2_aboveGreen_0.2.2.1.1 rfl ?_
  refine zW_istore (ls' := [_, _, _, _, _, _]) (pc' := 29) dX2_aboveGreen_0.2.2.1.2 (by decide) rfl rfl rfl ?_
  refine zW_aload_n (pc' := 30) dX2_aboveGreen_0.2.2.2.1 rfl rfl ?_
  refine zG_lev (pc' := 33) (by omega) (by omega) fg_X2_24 dX2_aboveGreen_0.2.2.2.2 rfl ?_
  refine zW_iload (pc' := 35) dX2_aboveGreen_1.1.1.1.1 rfl rfl ?_
  refine zV_iald (pc' := 36) (tabL (by omega) (by omega)) (by omega) dX2_aboveGreen_1.1.1.1.2 (by decide) rfl ?_
  refine zW_aload_n (pc' := 37) dX2_aboveGreen_1.1.1.2 rfl rfl ?_
  refine zG_lev (pc' := 40) (by omega) (by omega) fg_X2_24 dX2_aboveGreen_1.1.2.1 rfl ?_
  refine zW_sipush (pc' := 43) dX2_aboveGreen_1.1.2.2 rfl rfl ?_
  refine zW_iload (pc' := 45) dX2_aboveGreen_1.2.1.1.1 rfl rfl ?_
  refine zW_iadd (pc' := 46) dX2_aboveGreen_1.2.1.1.2 rfl ?_
  refine zV_iald (pc' := 47) (tabL (by omega) (by omega)) (by omega) dX2_aboveGreen_1.2.1.2 (by decide) rfl ?_
  refine zW_isub (pc' := 48) dX2_aboveGreen_1.2.2.1 rfl ?_
  exact zV_iret rfl dX2_aboveGreen_1.2.2.2 ⟨rfl, trivial⟩

abbrev q_X2_fillRedAndBlue (b : Bd) (κ : Hp) (s1 : Nat) (s2 : Nat) (x3 : Int) (x4 : Int) : Int → Hp → Prop := fun r h' => Fr b κ h' ∧ (True)
set_option maxHeartbeats 4000000 in
set_option maxRecDepth 20000 in
theorem s_X2_fillRedAndBlue {G : Ga} {b : Bd} {κ h : Hp} (hK : KC κ) (hF : Fr b κ h) (s1 : Nat) (hs1 : 56 ≤ s1 ∧ s1 ≤ 70) (s2 : Nat) (hs2 : 56 ≤ s2 ∧ s2 ≤ 70) (x3 : Int) (hx3 : 0 ≤ x3 ∧ x3 ≤ 15 ∧ x3 - κ 33 0 ≤ -1) (x4 : Int) (hx4 : 0 ≤ x4 ∧ x4 ≤ 15 ∧ x4 - κ 33 1 ≤ -1) (hto : OkL b (s2 + 15)) : zM G mX2_fillRedAndBlue yX2_fillRedAndBlue [.inr (.inr 86), .inr (.inr s1), .inr (.inr s2), .inl x3, .inl x4] h (q_X2_fillRedAndBlue b κ s1 s2 x3 x4) := by
  have f_33_0 := KCw hK
  have f_33_1 := KCh hK
  refine zM_of [some (.inr (.inr 86)), some (.inr (.inr s1)), some (.inr (.inr s2)), some (.inl x3), some (.inl x4), none, none, none, none, none, none] 6 rfl rfl (Nat.le_of_ble_eq_true rfl) rfl ?_
  refine zW_iload (pc' := 2) dX2_fillRedAndBlue_0.1.1.1.1 rfl rfl ?_
  refine zW_bipush (pc' := 4) dX2_fillRedAndBlue_0.1.1.1.2 rfl rfl ?_
  refine zW_imul (pc' := 5) dX2_fillRedAndBlue_0.1.1.2.1 rfl ?_
  refine zW_iload_n (pc' := 6) dX2_fillRedAndBlue_0.1.1.2.2 rfl rfl ?_
  refine zW_iadd (pc' := 7) dX2_fillRedAndBlue_0.1.2.1.1 rfl ?_
  refine zW_istore (ls' := [_, _, _, _, _, _, _, _, _, _, _]) (pc' := 9) dX2_fillRedAndBlue_0.1.2.1.2 (by decide) rfl rfl rfl ?_
  refine zW_aload_n (pc' := 10) dX2_fillRedAndBlue_0.1.2.2.1 rfl rfl ?_
  refine zG_ref (pc' := 13) 33 fg_X2_9 tb86 rfl dX2_fillRedAndBlue_0.1.2.2.2 rfl ?_
  refine zW_iload_n (pc' := 14) dX2_fillRedAndBlue_0.2.1.1.1 rfl rfl ?_
  refine zW_iload (pc' := 16) dX2_fillRedAndBlue_0.2.1.1.2 rfl rfl ?_
  refine cvI2 (pc' := 19) kX5_colourOf vX5_colourOf lk_X2_71 ⟨Nat.le_of_ble_eq_true rfl, Nat.le_of_ble_eq_true rfl⟩ tb33 vq5 rfl rfl (s_X5_colourOf hK hF _ _) dX2_fillRedAndBlue_0.2.1.2.1 (Nat.le_of_ble_eq_true rfl) rfl ?_
  rintro r16 z16 ⟨hz16, p16⟩; subst z16
  refine zW_istore (ls' := [_, _, _, _, _, _, _, _, _, _, _]) (pc' := 21) dX2_fillRedAndBlue_0.2.1.2.2 (by decide) rfl rfl rfl ?_
  refine zW_aload_n (pc' := 22) dX2_fillRedAndBlue_0.2.2.1.1 rfl rfl ?_
  refine zG_lev (pc' := 25) (by omega) (by omega) fg_X2_24 dX2_fillRedAndBlue_0.2.2.1.2 rfl ?_
  refine zW_sipush (pc' := 28) dX2_fillRedAndBlue_0.2.2.2.1 rfl rfl ?_
  refine zW_iload (pc' := 30) dX2_fillRedAndBlue_0.2.2.2.2 rfl rfl ?_
  refine zW_iadd (pc' := 31) dX2_fillRedAndBlue_1.1.1.1.1 rfl ?_
  refine zV_iald (pc' := 32) (tabL (by omega) (by omega)) (by omega) dX2_fillRedAndBlue_1.1.1.1.2 (by decide) rfl ?_
  refine zW_istore (ls' := [_, _, _, _, _, _, _, _, _, _, _]) (pc' := 34) dX2_fillRedAndBlue_1.1.1.2.1 (by decide) rfl rfl rfl ?_
  refine zW_iload (pc' := 36) dX2_fillRedAndBlue_1.1.1.2.2 rfl rfl ?_
  refine zW_iconst (pc' := 37) dX2_fillRedAndBlue_1.1.2.1.1 rfl ?_
  refine zV_cm_ne (tgt := 157) (pc' := 40) dX2_fillRedAndBlue_1.1.2.1.2 rfl rfl ⟨by omega, by omega⟩ ⟨by omega, by omega⟩ (fun c37 => ?_) (fun c37 => ?_)
  · refine zW_aload_n (pc' := 158) dX2_fillRedAndBlue_6.1.1.1.2 rfl rfl ?_
    refine zW_aload_n (pc' := 159) dX2_fillRedAndBlue_6.1.1.2.1 rfl rfl ?_
    refine zW_aload_n (pc' := 160) dX2_fillRedAndBlue_6.1.1.2.2 rfl rfl ?_
    refine zW_iload_n (pc' := 161) dX2_fillRedAndBlue_6.1.2.1.1 rfl rfl ?_
    refine zW_iconst (pc' := 162) dX2_fillRedAndBlue_6.1.2.1.2 rfl ?_
    refine zW_isub (pc' := 163) dX2_fillRedAndBlue_6.1.2.2.1 rfl ?_
    refine zW_iload (pc' := 165) dX2_fillRedAndBlue_6.1.2.2.2 rfl rfl ?_
    refine zW_iconst (pc' := 166) dX2_fillRedAndBlue_6.2.1.1.1 rfl ?_
    refine zW_isub (pc' := 167) dX2_fillRedAndBlue_6.2.1.1.2 rfl ?_
    refine cvI4 (pc' := 170) kX2_aboveGreen vX2_aboveGreen lk_X2_77 ⟨Nat.le_of_ble_eq_true rfl, Nat.le_of_ble_eq_true rfl⟩ tb86 vq2 rfl rfl (s_X2_aboveGreen hK hF _ ⟨by omega, by omega⟩ _ ⟨by omega, by omega⟩ _ ⟨by omega, by omega, by omega⟩ _ ⟨by omega, by omega, by omega⟩) dX2_fillRedAndBlue_6.2.1.2.1 (Nat.le_of_ble_eq_true rfl) rfl ?_
    rintro r167 z167 ⟨hz167, p167⟩; subst z167
    refine zW_aload_n (pc' := 171) dX2_fillRedAndBlue_6.2.1.2.2 rfl rfl ?_
    refine zW_aload_n (pc' := 172) dX2_fillRedAndBlue_6.2.2.1.1 rfl rfl ?_
    refine zW_aload_n (pc' := 173) dX2_fillRedAndBlue_6.2.2.1.2 rfl rfl ?_
    refine zW_iload_n (pc' := 174) dX2_fillRedAndBlue_6.2.2.2.1 rfl rfl ?_
    refine zW_iconst (pc' := 175) dX2_fillRedAndBlue_6.2.2.2.2 rfl ?_
    refine zW_iadd (pc' := 176) dX2_fillRedAndBlue_7.1.1.1.1 rfl ?_
    refine zW_iload (pc' := 178) dX2_fillRedAndBlue_7.1.1.1.2 rfl rfl ?_
    refine zW_iconst (pc' := 179) dX2_fillRedAndBlue_7.1.1.2.1 rfl ?_
    refine zW_isub (pc' := 180) dX2_fillRedAndBlue_7.1.1.2.2 rfl ?_
    refine cvI4 (pc' := 183) kX2_aboveGreen vX2_aboveGreen lk_X2_77 ⟨Nat.le_of_ble_eq_true rfl, Nat.le_of_ble_eq_true rfl⟩ tb86 vq2 rfl rfl (s_X2_aboveGreen hK hF _ ⟨by omega, by omega⟩ _ ⟨by omega, by omega⟩ _ ⟨by omega, by omega, by omega⟩ _ ⟨by omega, by omega, by omega⟩) dX2_fillRedAndBlue_7.1.2.1.1 (Nat.le_of_ble_eq_true rfl) rfl ?_
    rintro r180 z180 ⟨hz180, p180⟩; subst z180
    refine zW_iadd (pc' := 184) dX2_fillRedAndBlue_7.1.2.1.2 rfl ?_
    refine zW_aload_n (pc' := 185) dX2_fillRedAndBlue_7.1.2.2.1 rfl rfl ?_
    refine zW_aload_n (pc' := 186) dX2_fillRedAndBlue_7.1.2.2.2 rfl rfl ?_
    refine zW_aload_n (pc' := 187) dX2_fillRedAndBlue_7.2.1.1.1 rfl rfl ?_
    refine zW_iload_n (pc' := 188) dX2_fillRedAndBlue_7.2.1.1.2 rfl rfl ?_
    refine zW_iconst (pc' := 189) dX2_fillRedAndBlue_7.2.1.2.1 rfl ?_
    refine zW_isub (pc' := 190) dX2_fillRedAndBlue_7.2.1.2.2 rfl ?_
    refine zW_iload (pc' := 192) dX2_fillRedAndBlue_7.2.2.1.1 rfl rfl ?_
    refine zW_iconst (pc' := 193) dX2_fillRedAndBlue_7.2.2.1.2 rfl ?_
    refine zW_iadd (pc' := 194) dX2_fillRedAndBlue_7.2.2.2.1 rfl ?_
    refine cvI4 (pc' := 197) kX2_aboveGreen vX2_aboveGreen lk_X2_77 ⟨Nat.le_of_ble_eq_true rfl, Nat.le_of_ble_eq_true rfl⟩ tb86 vq2 rfl rfl (s_X2_aboveGreen hK hF _ ⟨by omega, by omega⟩ _ ⟨by omega, by omega⟩ _ ⟨by omega, by omega, by omega⟩ _ ⟨by omega, by omega, by omega⟩) dX2_fillRedAndBlue_7.2.2.2.2 (Nat.le_of_ble_eq_true rfl) rfl ?_
    rintro r194 z194 ⟨hz194, p194⟩; subst z194
    refine zW_iadd (pc' := 198) dX2_fillRedAndBlue_8.1.1.1.1 rfl ?_
    refine zW_aload_n (pc' := 199) dX2_fillRedAndBlue_8.1.1.1.2 rfl rfl ?_
    refine zW_aload_n (pc' := 200) dX2_fillRedAndBlue_8.1.1.2.1 rfl rfl ?_
    refine zW_aload_n (pc' := 201) dX2_fillRedAndBlue_8.1.1.2.2 rfl rfl ?_
    refine zW_iload_n (pc' := 202) dX2_fillRedAndBlue_8.1.2.1.1 rfl rfl ?_
    refine zW_iconst (pc' := 203) dX2_fillRedAndBlue_8.1.2.1.2 rfl ?_
    refine zW_iadd (pc' := 204) dX2_fillRedAndBlue_8.1.2.2.1 rfl ?_
    refine zW_iload (pc' := 206) dX2_fillRedAndBlue_8.1.2.2.2 rfl rfl ?_
    refine zW_iconst (pc' := 207) dX2_fillRedAndBlue_8.2.1.1.1 rfl ?_
    refine zW_iadd (pc' := 208) dX2_fillRedAndBlue_8.2.1.1.2 rfl ?_
    refine cvI4 (pc' := 211) kX2_aboveGreen vX2_aboveGreen lk_X2_77 ⟨Nat.le_of_ble_eq_true rfl, Nat.le_of_ble_eq_true rfl⟩ tb86 vq2 rfl rfl (s_X2_aboveGreen hK hF _ ⟨by omega, by omega⟩ _ ⟨by omega, by omega⟩ _ ⟨by omega, by omega, by omega⟩ _ ⟨by omega, by omega, by omega⟩) dX2_fillRedAndBlue_8.2.1.2.1 (Nat.le_of_ble_eq_true rfl) rfl ?_
    rintro r208 z208 ⟨hz208, p208⟩; subst z208
    refine zW_iadd (pc' := 212) dX2_fillRedAndBlue_8.2.1.2.2 rfl ?_
    refine zW_istore (ls' := [_, _, _, _, _, _, _, _, _, _, _]) (pc' := 214) dX2_fillRedAndBlue_8.2.2.1.1 (by decide) rfl rfl rfl ?_
    refine zW_aload_n (pc' := 215) dX2_fillRedAndBlue_8.2.2.1.2 rfl rfl ?_
    refine zG_lev (pc' := 218) (by omega) (by omega) fg_X2_24 dX2_fillRedAndBlue_8.2.2.2.1 rfl ?_
    refine zW_iload (pc' := 220) dX2_fillRedAndBlue_8.2.2.2.2 rfl rfl ?_
    refine zW_sipush (pc' := 223) dX2_fillRedAndBlue_9.1.1.1.1 rfl rfl ?_
    refine zW_imul (pc' := 224) dX2_fillRedAndBlue_9.1.1.1.2 rfl ?_
    refine zW_iload (pc' := 226) dX2_fillRedAndBlue_9.1.1.2.1 rfl rfl ?_
    refine zW_iadd (pc' := 227) dX2_fillRedAndBlue_9.1.1.2.2 rfl ?_
    refine zW_aload_n (pc' := 228) dX2_fillRedAndBlue_9.1.2.1.1 rfl rfl ?_
    refine zG_lev (pc' := 231) (by omega) (by omega) fg_X2_24 dX2_fillRedAndBlue_9.1.2.1.2 rfl ?_
    refine zW_iload (pc' := 233) dX2_fillRedAndBlue_9.1.2.2.1 rfl rfl ?_
    refine zV_iald (pc' := 234) (tabL (by omega) (by omega)) (by omega) dX2_fillRedAndBlue_9.1.2.2.2 (by decide) rfl ?_
    refine zS_lv (pc' := 235) hF (by omega) (by omega) hto (by omega) dX2_fillRedAndBlue_9.2.1.1.1 rfl (fun h i234 hF a234 b234 w234 => ?_)
    refine zW_aload_n (pc' := 236) dX2_fillRedAndBlue_9.2.1.1.2 rfl rfl ?_
    refine zG_lev (pc' := 239) (by omega) (by omega) fg_X2_24 dX2_fillRedAndBlue_9.2.1.2.1 rfl ?_
    refine zW_iconst (pc' := 240) dX2_fillRedAndBlue_9.2.1.2.2 rfl ?_
    refine zW_iload (pc' := 242) dX2_fillRedAndBlue_9.2.2.1.1 rfl rfl ?_
    refine zW_isub (pc' := 243) dX2_fillRedAndBlue_9.2.2.1.2 rfl ?_
    refine zW_sipush (pc' := 246) dX2_fillRedAndBlue_9.2.2.2.1 rfl rfl ?_
    refine zW_imul (pc' := 247) dX2_fillRedAndBlue_9.2.2.2.2 rfl ?_
    refine zW_iload (pc' := 249) dX2_fillRedAndBlue_10.1.1.1.1 rfl rfl ?_
    refine zW_iadd (pc' := 250) dX2_fillRedAndBlue_10.1.1.1.2 rfl ?_
    refine zW_iload (pc' := 252) dX2_fillRedAndBlue_10.1.1.2 rfl rfl ?_
    refine zW_iload (pc' := 254) dX2_fillRedAndBlue_10.1.2.1 rfl rfl ?_
    refine zW_iconst (pc' := 255) dX2_fillRedAndBlue_10.1.2.2 rfl ?_
    refine zW_idivQ (pc' := 256) ⟨by omega, by omega⟩ (by omega) dX2_fillRedAndBlue_10.2.1.1.1 rfl (fun v255 e255 => ?_)
    unfold rng at e255
    refine zW_iadd (pc' := 257) dX2_fillRedAndBlue_10.2.1.1.2 rfl ?_
    refine csI1 (pc' := 260) kX11_clipped vX11_clipped lk_X2_30 ⟨Nat.le_of_ble_eq_true rfl, Nat.le_of_ble_eq_true rfl⟩ rfl (s_X11_clipped hF _) dX2_fillRedAndBlue_10.2.1.2 (Nat.le_of_ble_eq_true rfl) rfl ?_
    rintro r257 z257 ⟨hz257, p257⟩; subst z257
    refine zS_lv (pc' := 261) hF (by omega) (by omega) hto (by omega) dX2_fillRedAndBlue_10.2.2.1 rfl (fun h i260 hF a260 b260 w260 => ?_)
    exact zV_vret rfl dX2_fillRedAndBlue_10.2.2.2 ⟨hF, trivial⟩
  · refine zW_aload_n (pc' := 41) dX2_fillRedAndBlue_1.1.2.2.1 rfl rfl ?_
    refine zW_aload_n (pc' := 42) dX2_fillRedAndBlue_1.1.2.2.2 rfl rfl ?_
    refine zW_aload_n (pc' := 43) dX2_fillRedAndBlue_1.2.1.1.1 rfl rfl ?_
    refine zW_iload_n (pc' := 44) dX2_fillRedAndBlue_1.2.1.1.2 rfl rfl ?_
    refine zW_iconst (pc' := 45) dX2_fillRedAndBlue_1.2.1.2.1 rfl ?_
    refine zW_isub (pc' := 46) dX2_fillRedAndBlue_1.2.1.2.2 rfl ?_
    refine zW_iload (pc' := 48) dX2_fillRedAndBlue_1.2.2.1.1 rfl rfl ?_
    refine cvI4 (pc' := 51) kX2_aboveGreen vX2_aboveGreen lk_X2_77 ⟨Nat.le_of_ble_eq_true rfl, Nat.le_of_ble_eq_true rfl⟩ tb86 vq2 rfl rfl (s_X2_aboveGreen hK hF _ ⟨by omega, by omega⟩ _ ⟨by omega, by omega⟩ _ ⟨by omega, by omega, by omega⟩ _ ⟨by omega, by omega, by omega⟩) dX2_fillRedAndBlue_1.2.2.1.2 (Nat.le_of_ble_eq_true rfl) rfl ?_
    rintro r48 z48 ⟨hz48, p48⟩; subst z48
    refine zW_aload_n (pc' := 52) dX2_fillRedAndBlue_1.2.2.2.1 rfl rfl ?_
    refine zW_aload_n (pc' := 53) dX2_fillRedAndBlue_1.2.2.2.2 rfl rfl ?_
    refine zW_aload_n (pc' := 54) dX2_fillRedAndBlue_2.1.1.1.1 rfl rfl ?_
    refine zW_iload_n (pc' := 55) dX2_fillRedAndBlue_2.1.1.1.2 rfl rfl ?_
    refine zW_iconst (pc' := 56) dX2_fillRedAndBlue_2.1.1.2.1 rfl ?_
    refine zW_iadd (pc' := 57) dX2_fillRedAndBlue_2.1.1.2.2 rfl ?_
    refine zW_iload (pc' := 59) dX2_fillRedAndBlue_2.1.2.1.1 rfl rfl ?_
    refine cvI4 (pc' := 62) kX2_aboveGreen vX2_aboveGreen lk_X2_77 ⟨Nat.le_of_ble_eq_true rfl, Nat.le_of_ble_eq_true rfl⟩ tb86 vq2 rfl rfl (s_X2_aboveGreen hK hF _ ⟨by omega, by omega⟩ _ ⟨by omega, by omega⟩ _ ⟨by omega, by omega, by omega⟩ _ ⟨by omega, by omega, by omega⟩) dX2_fillRedAndBlue_2.1.2.1.2 (Nat.le_of_ble_eq_true rfl) rfl ?_
    rintro r59 z59 ⟨hz59, p59⟩; subst z59
    refine zW_iadd (pc' := 63) dX2_fillRedAndBlue_2.1.2.2.1 rfl ?_
    refine zW_istore (ls' := [_, _, _, _, _, _, _, _, _, _, _]) (pc' := 65) dX2_fillRedAndBlue_2.1.2.2.2 (by decide) rfl rfl rfl ?_
    refine zW_aload_n (pc' := 66) dX2_fillRedAndBlue_2.2.1.1.1 rfl rfl ?_
    refine zW_aload_n (pc' := 67) dX2_fillRedAndBlue_2.2.1.1.2 rfl rfl ?_
    refine zW_aload_n (pc' := 68) dX2_fillRedAndBlue_2.2.1.2.1 rfl rfl ?_
    refine zW_iload_n (pc' := 69) dX2_fillRedAndBlue_2.2.1.2.2 rfl rfl ?_
    refine zW_iload (pc' := 71) dX2_fillRedAndBlue_2.2.2.1.1 rfl rfl ?_
    refine zW_iconst (pc' := 72) dX2_fillRedAndBlue_2.2.2.1.2 rfl ?_
    refine zW_isub (pc' := 73) dX2_fillRedAndBlue_2.2.2.2.1 rfl ?_
    refine cvI4 (pc' := 76) kX2_aboveGreen vX2_aboveGreen lk_X2_77 ⟨Nat.le_of_ble_eq_true rfl, Nat.le_of_ble_eq_true rfl⟩ tb86 vq2 rfl rfl (s_X2_aboveGreen hK hF _ ⟨by omega, by omega⟩ _ ⟨by omega, by omega⟩ _ ⟨by omega, by omega, by omega⟩ _ ⟨by omega, by omega, by omega⟩) dX2_fillRedAndBlue_2.2.2.2.2 (Nat.le_of_ble_eq_true rfl) rfl ?_
    rintro r73 z73 ⟨hz73, p73⟩; subst z73
    refine zW_aload_n (pc' := 77) dX2_fillRedAndBlue_3.1.1.1.1 rfl rfl ?_
    refine zW_aload_n (pc' := 78) dX2_fillRedAndBlue_3.1.1.1.2 rfl rfl ?_
    refine zW_aload_n (pc' := 79) dX2_fillRedAndBlue_3.1.1.2.1 rfl rfl ?_
    refine zW_iload_n (pc' := 80) dX2_fillRedAndBlue_3.1.1.2.2 rfl rfl ?_
    refine zW_iload (pc' := 82) dX2_fillRedAndBlue_3.1.2.1.1 rfl rfl ?_
    refine zW_iconst (pc' := 83) dX2_fillRedAndBlue_3.1.2.1.2 rfl ?_
    refine zW_iadd (pc' := 84) dX2_fillRedAndBlue_3.1.2.2.1 rfl ?_
    refine cvI4 (pc' := 87) kX2_aboveGreen vX2_aboveGreen lk_X2_77 ⟨Nat.le_of_ble_eq_true rfl, Nat.le_of_ble_eq_true rfl⟩ tb86 vq2 rfl rfl (s_X2_aboveGreen hK hF _ ⟨by omega, by omega⟩ _ ⟨by omega, by omega⟩ _ ⟨by omega, by omega, by omega⟩ _ ⟨by omega, by omega, by omega⟩) dX2_fillRedAndBlue_3.1.2.2.2 (Nat.le_of_ble_eq_true rfl) rfl ?_
    rintro r84 z84 ⟨hz84, p84⟩; subst z84
    refine zW_iadd (pc' := 88) dX2_fillRedAndBlue_3.2.1.1.1 rfl ?_
    refine zW_istore (ls' := [_, _, _, _, _, _, _, _, _, _, _]) (pc' := 90) dX2_fillRedAndBlue_3.2.1.1.2 (by decide) rfl rfl rfl ?_
    refine zW_aload_n (pc' := 91) dX2_fillRedAndBlue_3.2.1.2.1 rfl rfl ?_
    refine zG_ref (pc' := 94) 33 fg_X2_9 tb86 rfl dX2_fillRedAndBlue_3.2.1.2.2 rfl ?_
    refine zW_iload_n (pc' := 95) dX2_fillRedAndBlue_3.2.2.1.1 rfl rfl ?_
    refine zW_iconst (pc' := 96) dX2_fillRedAndBlue_3.2.2.1.2 rfl ?_
    refine zW_iadd (pc' := 97) dX2_fillRedAndBlue_3.2.2.2.1 rfl ?_
    refine zW_iload (pc' := 99) dX2_fillRedAndBlue_3.2.2.2.2 rfl rfl ?_
    refine cvI2 (pc' := 102) kX5_colourOf vX5_colourOf lk_X2_71 ⟨Nat.le_of_ble_eq_true rfl, Nat.le_of_ble_eq_true rfl⟩ tb33 vq5 rfl rfl (s_X5_colourOf hK hF _ _) dX2_fillRedAndBlue_4.1.1.1.1 (Nat.le_of_ble_eq_true rfl) rfl ?_
    rintro r99 z99 ⟨hz99, p99⟩; subst z99
    refine zW_istore (ls' := [_, _, _, _, _, _, _, _, _, _, _]) (pc' := 104) dX2_fillRedAndBlue_4.1.1.1.2 (by decide) rfl rfl rfl ?_
    refine zW_aload_n (pc' := 105) dX2_fillRedAndBlue_4.1.1.2.1 rfl rfl ?_
    refine zG_lev (pc' := 108) (by omega) (by omega) fg_X2_24 dX2_fillRedAndBlue_4.1.1.2.2 rfl ?_
    refine zW_iload (pc' := 110) dX2_fillRedAndBlue_4.1.2.1.1 rfl rfl ?_
    refine zW_sipush (pc' := 113) dX2_fillRedAndBlue_4.1.2.1.2 rfl rfl ?_
    refine zW_imul (pc' := 114) dX2_fillRedAndBlue_4.1.2.2.1 rfl ?_
    refine zW_iload (pc' := 116) dX2_fillRedAndBlue_4.1.2.2.2 rfl rfl ?_
    refine zW_iadd (pc' := 117) dX2_fillRedAndBlue_4.2.1.1.1 rfl ?_
    refine zW_iload (pc' := 119) dX2_fillRedAndBlue_4.2.1.1.2 rfl rfl ?_
    refine zW_iload (pc' := 121) dX2_fillRedAndBlue_4.2.1.2.1 rfl rfl ?_
    refine zW_iconst (pc' := 122) dX2_fillRedAndBlue_4.2.1.2.2 rfl ?_
    refine zW_idivQ (pc' := 123) ⟨by omega, by omega⟩ (by omega) dX2_fillRedAndBlue_4.2.2.1.1 rfl (fun v122 e122 => ?_)
    unfold rng at e122
    refine zW_iadd (pc' := 124) dX2_fillRedAndBlue_4.2.2.1.2 rfl ?_
    refine csI1 (pc' := 127) kX11_clipped vX11_clipped lk_X2_30 ⟨Nat.le_of_ble_eq_true rfl, Nat.le_of_ble_eq_true rfl⟩ rfl (s_X11_clipped hF _) dX2_fillRedAndBlue_4.2.2.2.1 (Nat.le_of_ble_eq_true rfl) rfl ?_
    rintro r124 z124 ⟨hz124, p124⟩; subst z124
    refine zS_lv (pc' := 128) hF (by omega) (by omega) hto (by omega) dX2_fillRedAndBlue_4.2.2.2.2 rfl (fun h i127 hF a127 b127 w127 => ?_)
    refine zW_aload_n (pc' := 129) dX2_fillRedAndBlue_5.1.1.1.1 rfl rfl ?_
    refine zG_lev (pc' := 132) (by omega) (by omega) fg_X2_24 dX2_fillRedAndBlue_5.1.1.1.2 rfl ?_
    refine zW_iconst (pc' := 133) dX2_fillRedAndBlue_5.1.1.2.1 rfl ?_
    refine zW_iload (pc' := 135) dX2_fillRedAndBlue_5.1.1.2.2 rfl rfl ?_
    refine zW_isub (pc' := 136) dX2_fillRedAndBlue_5.1.2.1.1 rfl ?_
    refine zW_sipush (pc' := 139) dX2_fillRedAndBlue_5.1.2.1.2 rfl rfl ?_
    refine zW_imul (pc' := 140) dX2_fillRedAndBlue_5.1.2.2.1 rfl ?_
    refine zW_iload (pc' := 142) dX2_fillRedAndBlue_5.1.2.2.2 rfl rfl ?_
    refine zW_iadd (pc' := 143) dX2_fillRedAndBlue_5.2.1.1.1 rfl ?_
    refine zW_iload (pc' := 145) dX2_fillRedAndBlue_5.2.1.1.2 rfl rfl ?_
    refine zW_iload (pc' := 147) dX2_fillRedAndBlue_5.2.1.2.1 rfl rfl ?_
    refine zW_iconst (pc' := 148) dX2_fillRedAndBlue_5.2.1.2.2 rfl ?_
    refine zW_idivQ (pc' := 149) ⟨by omega, by omega⟩ (by omega) dX2_fillRedAndBlue_5.2.2.1.1 rfl (fun v148 e148 => ?_)
    unfold rng at e148
    refine zW_iadd (pc' := 150) dX2_fillRedAndBlue_5.2.2.1.2 rfl ?_
    refine csI1 (pc' := 153) kX11_clipped vX11_clipped lk_X2_30 ⟨Nat.le_of_ble_eq_true rfl, Nat.le_of_ble_eq_true rfl⟩ rfl (s_X11_clipped hF _) dX2_fillRedAndBlue_5.2.2.2.1 (Nat.le_of_ble_eq_true rfl) rfl ?_
    rintro r150 z150 ⟨hz150, p150⟩; subst z150
    refine zS_lv (pc' := 154) hF (by omega) (by omega) hto (by omega) dX2_fillRedAndBlue_5.2.2.2.2 rfl (fun h i153 hF a153 b153 w153 => ?_)
    refine zV_goto 261 dX2_fillRedAndBlue_6.1.1.1.1 rfl ?_
    exact zV_vret rfl dX2_fillRedAndBlue_10.2.2.2 ⟨hF, trivial⟩

abbrev q_X2_fillMosaic (b : Bd) (κ : Hp) (s1 : Nat) (s2 : Nat) (x3 : Int) : Int → Hp → Prop := fun r h' => Fr b κ h' ∧ (True)
set_option maxHeartbeats 4000000 in
set_option maxRecDepth 20000 in
theorem s_X2_fillMosaic {G : Ga} {b : Bd} {κ h : Hp} (hK : KC κ) (hF : Fr b κ h) (s1 : Nat) (hs1 : 56 ≤ s1 ∧ s1 ≤ 70) (s2 : Nat) (hs2 : 56 ≤ s2 ∧ s2 ≤ 70) (x3 : Int) (hto : OkL b (s2 + 15)) : zM G mX2_fillMosaic yX2_fillMosaic [.inr (.inr 86), .inr (.inr s1), .inr (.inr s2), .inl x3] h (q_X2_fillMosaic b κ s1 s2 x3) := by
  have f_33_0 := KCw hK
  have f_33_1 := KCh hK
  have main : ∀ N : Nat, (∀ (v4 : Int) (h : Hp), Fr b κ h → (0 ≤ v4 ∧ v4 ≤ 16) → (v4 - κ 33 1 ≤ 0) → 48784032 + 46728 * (16 - v4) + 45936 < (N : Int) → zV G mX2_fillMosaic (q_X2_fillMosaic b κ s1 s2 x3) 3 [some (.inr (.inr 86)), some (.inr (.inr s1)), some (.inr (.inr s2)), some (.inl x3), some (.inl v4), none] [] h) ∧ (∀ (v4 : Int) (h : Hp), Fr b κ h → (0 ≤ v4 ∧ v4 ≤ 16) → (v4 - κ 33 1 ≤ 0) → 42896304 + 46728 * (16 - v4) + 40392 < (N : Int) → zV G mX2_fillMosaic (q_X2_fillMosaic b κ s1 s2 x3) 72 [some (.inr (.inr 86)), some (.inr (.inr s1)), some (.inr (.inr s2)), some (.inl x3), some (.inl v4), none] [] h) ∧ (∀ (v4 v5 : Int) (h : Hp), Fr b κ h → (0 ≤ v4 ∧ v4 ≤ 15) → (v4 - κ 33 1 ≤ -1) → (0 ≤ v5 ∧ v5 ≤ 16) → (v5 - κ 33 0 ≤ 0) → 42896304 + 46728 * (16 - v4) + 34056 + 44 * (16 - v5) + 43 < (N : Int) → zV G mX2_fillMosaic (q_X2_fillMosaic b κ s1 s2 x3) 87 [some (.inr (.inr 86)), some (.inr (.inr s1)), some (.inr (.inr s2)), some (.inl x3), some (.inl v4), some (.inl v5)] [] h) ∧ (∀ (v4 v5 : Int) (h : Hp), Fr b κ h → (0 ≤ v4 ∧ v4 ≤ 15) → (v4 - κ 33 1 ≤ -1) → (0 ≤ v5 ∧ v5 ≤ 16) → (v5 - κ 33 0 ≤ 0) → 48784032 + 46728 * (16 - v4) + 20592 + 44 * (16 - v5) + 26 < (N : Int) → zV G mX2_fillMosaic (q_X2_fillMosaic b κ s1 s2 x3) 18 [some (.inr (.inr 86)), some (.inr (.inr s1)), some (.inr (.inr s2)), some (.inl x3), some (.inl v4), some (.inl v5)] [] h) := by
    intro N
    induction N with
    | zero =>
      refine ⟨?_, ?_, ?_, ?_⟩
      · intro v4 h hF g0 g1 hm
        exfalso; omega
      · intro v4 h hF g0 g1 hm
        exfalso; omega
      · intro v4 v5 h hF g0 g1 g2 g3 hm
        exfalso; omega
      · intro v4 v5 h hF g0 g1 g2 g3 hm
        exfalso; omega
    | succ N ih =>
      obtain ⟨k3, k72, k87, k18⟩ := ih
      refine ⟨?_, ?_, ?_, ?_⟩
      · intro v4 h hF g0 g1 hm
        refine zW_iload (pc' := 5) dX2_fillMosaic_0.1.1.2.1 rfl rfl ?_
        refine zW_aload_n (pc' := 6) dX2_fillMosaic_0.1.1.2.2 rfl rfl ?_
        refine zG_ref (pc' := 9) 33 fg_X2_9 tb86 rfl dX2_fillMosaic_0.1.2.1.1 rfl ?_
        refine zG_key (pc' := 12) hF rfl fg_X2_15 tb33 rfl dX2_fillMosaic_0.1.2.1.2 rfl ?_
        refine zV_cm_ge (tgt := 69) (pc' := 15) dX2_fillMosaic_0.1.2.2.1 rfl rfl ⟨by omega, by omega⟩ ⟨by omega, by omega⟩ (fun c12 => ?_) (fun c12 => ?_)
        · refine zW_iconst (pc' := 70) dX2_fillMosaic_2.1.1.2.1 rfl ?_
          refine zW_istore (ls' := [_, _, _, _, _, _]) (pc' := 72) dX2_fillMosaic_2.1.1.2.2 (by decide) rfl rfl rfl ?_
          exact k72 _ _ hF (by omega) (by omega) (by omega)
        · refine zW_iconst (pc' := 16) dX2_fillMosaic_0.1.2.2.2 rfl ?_
          refine zW_istore (ls' := [_, _, _, _, _, _]) (pc' := 18) dX2_fillMosaic_0.2.1.1.1 (by decide) rfl rfl rfl ?_
          exact k18 _ _ _ hF (by omega) (by omega) (by omega) (by omega) (by omega)
      · intro v4 h hF g0 g1 hm
        refine zW_iload (pc' := 74) dX2_fillMosaic_2.1.2.1.1 rfl rfl ?_
        refine zW_aload_n (pc' := 75) dX2_fillMosaic_2.1.2.1.2 rfl rfl ?_
        refine zG_ref (pc' := 78) 33 fg_X2_9 tb86 rfl dX2_fillMosaic_2.1.2.2.1 rfl ?_
        refine zG_key (pc' := 81) hF rfl fg_X2_15 tb33 rfl dX2_fillMosaic_2.1.2.2.2 rfl ?_
        refine zV_cm_ge (tgt := 121) (pc' := 84) dX2_fillMosaic_2.2.1.1.1 rfl rfl ⟨by omega, by omega⟩ ⟨by omega, by omega⟩ (fun c81 => ?_) (fun c81 => ?_)
        · exact zV_vret rfl dX2_fillMosaic_3.2.2.2 ⟨hF, trivial⟩
        · refine zW_iconst (pc' := 85) dX2_fillMosaic_2.2.1.1.2 rfl ?_
          refine zW_istore (ls' := [_, _, _, _, _, _]) (pc' := 87) dX2_fillMosaic_2.2.1.2.1 (by decide) rfl rfl rfl ?_
          exact k87 _ _ _ hF (by omega) (by omega) (by omega) (by omega) (by omega)
      · intro v4 v5 h hF g0 g1 g2 g3 hm
        refine zW_iload (pc' := 89) dX2_fillMosaic_2.2.1.2.2 rfl rfl ?_
        refine zW_aload_n (pc' := 90) dX2_fillMosaic_2.2.2.1.1 rfl rfl ?_
        refine zG_ref (pc' := 93) 33 fg_X2_9 tb86 rfl dX2_fillMosaic_2.2.2.1.2 rfl ?_
        refine zG_key (pc' := 96) hF rfl fg_X2_21 tb33 rfl dX2_fillMosaic_2.2.2.2.1 rfl ?_
        refine zV_cm_ge (tgt := 115) (pc' := 99) dX2_fillMosaic_2.2.2.2.2 rfl rfl ⟨by omega, by omega⟩ ⟨by omega, by omega⟩ (fun c96 => ?_) (fun c96 => ?_)
        · refine zW_iinc (ls' := [_, _, _, _, _, _]) (pc' := 118) dX2_fillMosaic_3.2.1.2 rfl (by decide) rfl rfl rfl ?_
          refine zV_goto 72 dX2_fillMosaic_3.2.2.1 rfl ?_
          refine zV_clr 5 (ls' := [_, _, _, _, _, _]) rfl ?_
          exact k72 _ _ hF (by omega) (by omega) (by omega)
        · refine zW_aload_n (pc' := 100) dX2_fillMosaic_3.1.1.1.1 rfl rfl ?_
          refine zW_aload_n (pc' := 101) dX2_fillMosaic_3.1.1.1.2 rfl rfl ?_
          refine zW_aload_n (pc' := 102) dX2_fillMosaic_3.1.1.2 rfl rfl ?_
          refine zW_iload (pc' := 104) dX2_fillMosaic_3.1.2.1.1 rfl rfl ?_
          refine zW_iload (pc' := 106) dX2_fillMosaic_3.1.2.1.2 rfl rfl ?_
          refine cvV4 (pc' := 109) kX2_fillRedAndBlue vX2_fillRedAndBlue lk_X2_67 ⟨Nat.le_of_ble_eq_true rfl, Nat.le_of_ble_eq_true rfl⟩ tb86 vq2 rfl rfl (s_X2_fillRedAndBlue hK hF _ ⟨by omega, by omega⟩ _ ⟨by omega, by omega⟩ _ ⟨by omega, by omega, by omega⟩ _ ⟨by omega, by omega, by omega⟩ hto) dX2_fillMosaic_3.1.2.2 (Nat.le_of_ble_eq_true rfl) rfl ?_
          rintro r106 h ⟨hF, p106⟩
          refine zW_iinc (ls' := [_, _, _, _, _, _]) (pc' := 112) dX2_fillMosaic_3.2.1.1.1 rfl (by decide) rfl rfl rfl ?_
          refine zV_goto 87 dX2_fillMosaic_3.2.1.1.2 rfl ?_
          exact k87 _ _ _ hF (by omega) (by omega) (by omega) (by omega) (by omega)
      · intro v4 v5 h hF g0 g1 g2 g3 hm
        refine zW_iload (pc' := 20) dX2_fillMosaic_0.2.1.1.2 rfl rfl ?_
        refine zW_aload_n (pc' := 21) dX2_fillMosaic_0.2.1.2.1 rfl rfl ?_
        refine zG_ref (pc' := 24) 33 fg_X2_9 tb86 rfl dX2_fillMosaic_0.2.1.2.2 rfl ?_
        refine zG_key (pc' := 27) hF rfl fg_X2_21 tb33 rfl dX2_fillMosaic_0.2.2.1.1 rfl ?_
        refine zV_cm_ge (tgt := 63) (pc' := 30) dX2_fillMosaic_0.2.2.1.2 rfl rfl ⟨by omega, by omega⟩ ⟨by omega, by omega⟩ (fun c27 => ?_) (fun c27 => ?_)
        · refine zW_iinc (ls' := [_, _, _, _, _, _]) (pc' := 66) dX2_fillMosaic_2.1.1.1.1 rfl (by decide) rfl rfl rfl ?_
          refine zV_goto 3 dX2_fillMosaic_2.1.1.1.2 rfl ?_
          refine zV_clr 5 (ls' := [_, _, _, _, _, _]) rfl ?_
          exact k3 _ _ hF (by omega) (by omega) (by omega)
        · refine zW_aload_n (pc' := 31) dX2_fillMosaic_0.2.2.2.1 rfl rfl ?_
          refine zG_lev (pc' := 34) (by omega) (by omega) fg_X2_24 dX2_fillMosaic_0.2.2.2.2 rfl ?_
          refine zW_sipush (pc' := 37) dX2_fillMosaic_1.1.1.1.1 rfl rfl ?_
          refine zW_iload (pc' := 39) dX2_fillMosaic_1.1.1.1.2 rfl rfl ?_
          refine zW_bipush (pc' := 41) dX2_fillMosaic_1.1.1.2.1 rfl rfl ?_
          refine zW_imul (pc' := 42) dX2_fillMosaic_1.1.1.2.2 rfl ?_
          refine zW_iadd (pc' := 43) dX2_fillMosaic_1.1.2.1.1 rfl ?_
          refine zW_iload (pc' := 45) dX2_fillMosaic_1.1.2.1.2 rfl rfl ?_
          refine zW_iadd (pc' := 46) dX2_fillMosaic_1.1.2.2.1 rfl ?_
          refine zW_aload_n (pc' := 47) dX2_fillMosaic_1.1.2.2.2 rfl rfl ?_
          refine zW_aload_n (pc' := 48) dX2_fillMosaic_1.2.1.1.1 rfl rfl ?_
          refine zW_iload (pc' := 50) dX2_fillMosaic_1.2.1.1.2 rfl rfl ?_
          refine zW_iload (pc' := 52) dX2_fillMosaic_1.2.1.2.1 rfl rfl ?_
          refine zW_iload_n (pc' := 53) dX2_fillMosaic_1.2.1.2.2 rfl rfl ?_
          refine cvI4 (pc' := 56) kX2_greenOf vX2_greenOf lk_X2_63 ⟨Nat.le_of_ble_eq_true rfl, Nat.le_of_ble_eq_true rfl⟩ tb86 vq2 rfl rfl (s_X2_greenOf hK hF _ ⟨by omega, by omega⟩ _ ⟨by omega, by omega, by omega⟩ _ ⟨by omega, by omega, by omega⟩ _) dX2_fillMosaic_1.2.2.1.1 (Nat.le_of_ble_eq_true rfl) rfl ?_
          rintro r53 z53 ⟨hz53, p53⟩; subst z53
          refine zS_lv (pc' := 57) hF (by omega) (by omega) hto (by omega) dX2_fillMosaic_1.2.2.1.2 rfl (fun h i56 hF a56 b56 w56 => ?_)
          refine zW_iinc (ls' := [_, _, _, _, _, _]) (pc' := 60) dX2_fillMosaic_1.2.2.2.1 rfl (by decide) rfl rfl rfl ?_
          refine zV_goto 18 dX2_fillMosaic_1.2.2.2.2 rfl ?_
          exact k18 _ _ _ hF (by omega) (by omega) (by omega) (by omega) (by omega)
  refine zM_of [some (.inr (.inr 86)), some (.inr (.inr s1)), some (.inr (.inr s2)), some (.inl x3), none, none] 2 rfl rfl (Nat.le_of_ble_eq_true rfl) rfl ?_
  refine zW_iconst (pc' := 1) dX2_fillMosaic_0.1.1.1.1 rfl ?_
  refine zW_istore (ls' := [_, _, _, _, _, _]) (pc' := 3) dX2_fillMosaic_0.1.1.1.2 (by decide) rfl rfl rfl ?_
  exact (main 10000000000000000000000000000000000000000).1 _ _ hF (by omega) (by omega) (by omega)
