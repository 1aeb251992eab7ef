/-! which way a square is filled; how many are -/
def acW (W : Int) (f : Int → Int → Int) (x y : Int) : Int := ab (f (mir (x - 1) W) y - f (mir (x + 1) W) y) + ab (2 * f x y - f (mir (x - 2) W) y - f (mir (x + 2) W) y)
def dnW (H : Int) (f : Int → Int → Int) (x y : Int) : Int := ab (f x (mir (y - 1) H) - f x (mir (y + 1) H)) + ab (2 * f x y - f x (mir (y - 2) H) - f x (mir (y + 2) H))
def wy (W H : Int) (f : Int → Int → Int) (x y : Int) : Int := if acW W f x y < dnW H f x y then 0 else if dnW H f x y < acW W f x y then 1 else 2

abbrev q_X12_wayOfZ (κ h : Hp) (x1 : Int) (x2 : Int) (x3 : Int) (f : Int → Int → Int) : Int → Hp → Prop := fun r h' => h' = h ∧ ((0 ≤ r) ∧ (r ≤ 2) ∧ (r = wy (κ 0 11) (κ 0 12) f x2 x3))
set_option maxHeartbeats 4000000 in
set_option maxRecDepth 20000 in
theorem s_X12_wayOfZ {G : Ga} {b : Bd} {κ h : Hp} (hK : KR κ) (hF : Fr b κ h) (x1 : Int) (hx1 : 0 ≤ x1 ∧ x1 ≤ 14) (x2 : Int) (hx2 : 0 ≤ x2 ∧ x2 ≤ 15 ∧ x2 - κ 0 11 ≤ -1) (x3 : Int) (hx3 : 0 ≤ x3 ∧ x3 ≤ 15 ∧ x3 - κ 0 12 ≤ -1) (f : Int → Int → Int) (hf : Row17 κ (h 17) x1 f) (hfb : FB (κ 0 11) (κ 0 12) f) : zM G mX12_wayOf yX12_wayOf [.inr (.inr 0), .inl x1, .inl x2, .inl x3] h (q_X12_wayOfZ κ h x1 x2 x3 f) := by
  have f_0_11 := KRw hK
  have f_0_12 := KRh hK
  refine zM_of [some (.inr (.inr 0)), some (.inl x1), some (.inl x2), some (.inl x3), none, none, none] 3 rfl rfl (Nat.le_of_ble_eq_true rfl) rfl ?_
  refine zW_iconst (pc' := 1) dX12_wayOf_0.1.1.1.1 rfl ?_
  refine zW_aload_n (pc' := 2) dX12_wayOf_0.1.1.1.2 rfl rfl ?_
  refine zW_iload_n (pc' := 3) dX12_wayOf_0.1.1.2.1 rfl rfl ?_
  refine zW_iload_n (pc' := 4) dX12_wayOf_0.1.1.2.2 rfl rfl ?_
  refine zW_iload_n (pc' := 5) dX12_wayOf_0.1.2.1.1 rfl rfl ?_
  refine cvI3 (pc' := 8) kX12_own vX12_own lk_X12_246 ⟨Nat.le_of_ble_eq_true rfl, Nat.le_of_ble_eq_true rfl⟩ tb0 vq12 rfl rfl (s_X12_ownZ hK hF _ ⟨by omega, by omega⟩ _ ⟨by omega, by omega, by omega⟩ _ ⟨by omega, by omega, by omega⟩ f (by omega) (by omega)) dX12_wayOf_0.1.2.1.2 (Nat.le_of_ble_eq_true rfl) rfl ?_
  rintro r5 z5 ⟨hz5, p5⟩; subst z5
  refine zW_imul (pc' := 9) dX12_wayOf_0.1.2.2.1 rfl ?_
  refine zW_istore (ls' := [_, _, _, _, _, _, _]) (pc' := 11) dX12_wayOf_0.1.2.2.2 (by decide) rfl rfl rfl ?_
  refine zW_aload_n (pc' := 12) dX12_wayOf_0.2.1.1.1 rfl rfl ?_
  refine zW_iload_n (pc' := 13) dX12_wayOf_0.2.1.1.2 rfl rfl ?_
  refine zW_iload_n (pc' := 14) dX12_wayOf_0.2.1.2.1 rfl rfl ?_
  refine zW_iconst (pc' := 15) dX12_wayOf_0.2.1.2.2 rfl ?_
  refine zW_isub (pc' := 16) dX12_wayOf_0.2.2.1.1 rfl ?_
  refine zW_iload_n (pc' := 17) dX12_wayOf_0.2.2.1.2 rfl rfl ?_
  refine cvI3 (pc' := 20) kX12_own vX12_own lk_X12_246 ⟨Nat.le_of_ble_eq_true rfl, Nat.le_of_ble_eq_true rfl⟩ tb0 vq12 rfl rfl (s_X12_ownZ hK hF _ ⟨by omega, by omega⟩ _ ⟨by omega, by omega, by omega⟩ _ ⟨by omega, by omega, by omega⟩ f (by omega) (by omega)) dX12_wayOf_0.2.2.2.1 (Nat.le_of_ble_eq_true rfl) rfl ?_
  rintro r17 z17 ⟨hz17, p17⟩; subst z17
  refine zW_aload_n (pc' := 21) dX12_wayOf_0.2.2.2.2 rfl rfl ?_
  refine zW_iload_n (pc' := 22) dX12_wayOf_1.1.1.1.1 rfl rfl ?_
  refine zW_iload_n (pc' := 23) dX12_wayOf_1.1.1.1.2 rfl rfl ?_
  refine zW_iconst (pc' := 24) dX12_wayOf_1.1.1.2.1 rfl ?_
  refine zW_iadd (pc' := 25) dX12_wayOf_1.1.1.2.2 rfl ?_
  refine zW_iload_n (pc' := 26) dX12_wayOf_1.1.2.1.1 rfl rfl ?_
  refine cvI3 (pc' := 29) kX12_own vX12_own lk_X12_246 ⟨Nat.le_of_ble_eq_true rfl, Nat.le_of_ble_eq_true rfl⟩ tb0 vq12 rfl rfl (s_X12_ownZ hK hF _ ⟨by omega, by omega⟩ _ ⟨by omega, by omega, by omega⟩ _ ⟨by omega, by omega, by omega⟩ f (by omega) (by omega)) dX12_wayOf_1.1.2.1.2 (Nat.le_of_ble_eq_true rfl) rfl ?_
  rintro r26 z26 ⟨hz26, p26⟩; subst z26
  refine zW_isub (pc' := 30) dX12_wayOf_1.1.2.2.1 rfl ?_
  refine csI1 (pc' := 33) kX12_size vX12_size lk_X12_257 ⟨Nat.le_of_ble_eq_true rfl, Nat.le_of_ble_eq_true rfl⟩ rfl (s_X12_sizeR hF _ ⟨by omega, by omega⟩) dX12_wayOf_1.1.2.2.2 (Nat.le_of_ble_eq_true rfl) rfl ?_
  rintro r30 z30 ⟨hz30, p30⟩; subst z30
  refine zW_iload (pc' := 35) dX12_wayOf_1.2.1.1.1 rfl rfl ?_
  refine zW_aload_n (pc' := 36) dX12_wayOf_1.2.1.1.2 rfl rfl ?_
  refine zW_iload_n (pc' := 37) dX12_wayOf_1.2.1.2.1 rfl rfl ?_
  refine zW_iload_n (pc' := 38) dX12_wayOf_1.2.1.2.2 rfl rfl ?_
  refine zW_iconst (pc' := 39) dX12_wayOf_1.2.2.1.1 rfl ?_
  refine zW_isub (pc' := 40) dX12_wayOf_1.2.2.1.2 rfl ?_
  refine zW_iload_n (pc' := 41) dX12_wayOf_1.2.2.2.1 rfl rfl ?_
  refine cvI3 (pc' := 44) kX12_own vX12_own lk_X12_246 ⟨Nat.le_of_ble_eq_true rfl, Nat.le_of_ble_eq_true rfl⟩ tb0 vq12 rfl rfl (s_X12_ownZ hK hF _ ⟨by omega, by omega⟩ _ ⟨by omega, by omega, by omega⟩ _ ⟨by omega, by omega, by omega⟩ f (by omega) (by omega)) dX12_wayOf_1.2.2.2.2 (Nat.le_of_ble_eq_true rfl) rfl ?_
  rintro r41 z41 ⟨hz41, p41⟩; subst z41
  refine zW_isub (pc' := 45) dX12_wayOf_2.1.1.1.1 rfl ?_
  refine zW_aload_n (pc' := 46) dX12_wayOf_2.1.1.1.2 rfl rfl ?_
  refine zW_iload_n (pc' := 47) dX12_wayOf_2.1.1.2.1 rfl rfl ?_
  refine zW_iload_n (pc' := 48) dX12_wayOf_2.1.1.2.2 rfl rfl ?_
  refine zW_iconst (pc' := 49) dX12_wayOf_2.1.2.1.1 rfl ?_
  refine zW_iadd (pc' := 50) dX12_wayOf_2.1.2.1.2 rfl ?_
  refine zW_iload_n (pc' := 51) dX12_wayOf_2.1.2.2.1 rfl rfl ?_
  refine cvI3 (pc' := 54) kX12_own vX12_own lk_X12_246 ⟨Nat.le_of_ble_eq_true rfl, Nat.le_of_ble_eq_true rfl⟩ tb0 vq12 rfl rfl (s_X12_ownZ hK hF _ ⟨by omega, by omega⟩ _ ⟨by omega, by omega, by omega⟩ _ ⟨by omega, by omega, by omega⟩ f (by omega) (by omega)) dX12_wayOf_2.1.2.2.2 (Nat.le_of_ble_eq_true rfl) rfl ?_
  rintro r51 z51 ⟨hz51, p51⟩; subst z51
  refine zW_isub (pc' := 55) dX12_wayOf_2.2.1.1.1 rfl ?_
  refine csI1 (pc' := 58) kX12_size vX12_size lk_X12_257 ⟨Nat.le_of_ble_eq_true rfl, Nat.le_of_ble_eq_true rfl⟩ rfl (s_X12_sizeR hF _ ⟨by omega, by omega⟩) dX12_wayOf_2.2.1.1.2 (Nat.le_of_ble_eq_true rfl) rfl ?_
  rintro r55 z55 ⟨hz55, p55⟩; subst z55
  refine zW_iadd (pc' := 59) dX12_wayOf_2.2.1.2.1 rfl ?_
  refine zW_istore (ls' := [_, _, _, _, _, _, _]) (pc' := 61) dX12_wayOf_2.2.1.2.2 (by decide) rfl rfl rfl ?_
  refine zW_aload_n (pc' := 62) dX12_wayOf_2.2.2.1.1 rfl rfl ?_
  refine zW_iload_n (pc' := 63) dX12_wayOf_2.2.2.1.2 rfl rfl ?_
  refine zW_iload_n (pc' := 64) dX12_wayOf_2.2.2.2.1 rfl rfl ?_
  refine zW_iload_n (pc' := 65) dX12_wayOf_2.2.2.2.2 rfl rfl ?_
  refine zW_iconst (pc' := 66) dX12_wayOf_3.1.1.1.1 rfl ?_
  refine zW_isub (pc' := 67) dX12_wayOf_3.1.1.1.2 rfl ?_
  refine cvI3 (pc' := 70) kX12_own vX12_own lk_X12_246 ⟨Nat.le_of_ble_eq_true rfl, Nat.le_of_ble_eq_true rfl⟩ tb0 vq12 rfl rfl (s_X12_ownZ hK hF _ ⟨by omega, by omega⟩ _ ⟨by omega, by omega, by omega⟩ _ ⟨by omega, by omega, by omega⟩ f (by omega) (by omega)) dX12_wayOf_3.1.1.2.1 (Nat.le_of_ble_eq_true rfl) rfl ?_
  rintro r67 z67 ⟨hz67, p67⟩; subst z67
  refine zW_aload_n (pc' := 71) dX12_wayOf_3.1.1.2.2 rfl rfl ?_
  refine zW_iload_n (pc' := 72) dX12_wayOf_3.1.2.1.1 rfl rfl ?_
  refine zW_iload_n (pc' := 73) dX12_wayOf_3.1.2.1.2 rfl rfl ?_
  refine zW_iload_n (pc' := 74) dX12_wayOf_3.1.2.2.1 rfl rfl ?_
  refine zW_iconst (pc' := 75) dX12_wayOf_3.1.2.2.2 rfl ?_
  refine zW_iadd (pc' := 76) dX12_wayOf_3.2.1.1.1 rfl ?_
  refine cvI3 (pc' := 79) kX12_own vX12_own lk_X12_246 ⟨Nat.le_of_ble_eq_true rfl, Nat.le_of_ble_eq_true rfl⟩ tb0 vq12 rfl rfl (s_X12_ownZ hK hF _ ⟨by omega, by omega⟩ _ ⟨by omega, by omega, by omega⟩ _ ⟨by omega, by omega, by omega⟩ f (by omega) (by omega)) dX12_wayOf_3.2.1.1.2 (Nat.le_of_ble_eq_true rfl) rfl ?_
  rintro r76 z76 ⟨hz76, p76⟩; subst z76
  refine zW_isub (pc' := 80) dX12_wayOf_3.2.1.2.1 rfl ?_
  refine csI1 (pc' := 83) kX12_size vX12_size lk_X12_257 ⟨Nat.le_of_ble_eq_true rfl, Nat.le_of_ble_eq_true rfl⟩ rfl (s_X12_sizeR hF _ ⟨by omega, by omega⟩) dX12_wayOf_3.2.1.2.2 (Nat.le_of_ble_eq_true rfl) rfl ?_
  rintro r80 z80 ⟨hz80, p80⟩; subst z80
  refine zW_iload (pc' := 85) dX12_wayOf_3.2.2.1.1 rfl rfl ?_
  refine zW_aload_n (pc' := 86) dX12_wayOf_3.2.2.1.2 rfl rfl ?_
  refine zW_iload_n (pc' := 87) dX12_wayOf_3.2.2.2.1 rfl rfl ?_
  refine zW_iload_n (pc' := 88) dX12_wayOf_3.2.2.2.2 rfl rfl ?_
  refine zW_iload_n (pc' := 89) dX12_wayOf_4.1.1.1.1 rfl rfl ?_
  refine zW_iconst (pc' := 90) dX12_wayOf_4.1.1.1.2 rfl ?_
  refine zW_isub (pc' := 91) dX12_wayOf_4.1.1.2.1 rfl ?_
  refine cvI3 (pc' := 94) kX12_own vX12_own lk_X12_246 ⟨Nat.le_of_ble_eq_true rfl, Nat.le_of_ble_eq_true rfl⟩ tb0 vq12 rfl rfl (s_X12_ownZ hK hF _ ⟨by omega, by omega⟩ _ ⟨by omega, by omega, by omega⟩ _ ⟨by omega, by omega, by omega⟩ f (by omega) (by omega)) dX12_wayOf_4.1.1.2.2 (Nat.le_of_ble_eq_true rfl) rfl ?_
  rintro r91 z91 ⟨hz91, p91⟩; subst z91
  refine zW_isub (pc' := 95) dX12_wayOf_4.1.2.1.1 rfl ?_
  refine zW_aload_n (pc' := 96) dX12_wayOf_4.1.2.1.2 rfl rfl ?_
  refine zW_iload_n (pc' := 97) dX12_wayOf_4.1.2.2.1 rfl rfl ?_
  refine zW_iload_n (pc' := 98) dX12_wayOf_4.1.2.2.2 rfl rfl ?_
  refine zW_iload_n (pc' := 99) dX12_wayOf_4.2.1.1.1 rfl rfl ?_
  refine zW_iconst (pc' := 100) dX12_wayOf_4.2.1.1.2 rfl ?_
  refine zW_iadd (pc' := 101) dX12_wayOf_4.2.1.2.1 rfl ?_
  refine cvI3 (pc' := 104) kX12_own vX12_own lk_X12_246 ⟨Nat.le_of_ble_eq_true rfl, Nat.le_of_ble_eq_true rfl⟩ tb0 vq12 rfl rfl (s_X12_ownZ hK hF _ ⟨by omega, by omega⟩ _ ⟨by omega, by omega, by omega⟩ _ ⟨by omega, by omega, by omega⟩ f (by omega) (by omega)) dX12_wayOf_4.2.1.2.2 (Nat.le_of_ble_eq_true rfl) rfl ?_
  rintro r101 z101 ⟨hz101, p101⟩; subst z101
  refine zW_isub (pc' := 105) dX12_wayOf_4.2.2.1.1 rfl ?_
  refine csI1 (pc' := 108) kX12_size vX12_size lk_X12_257 ⟨Nat.le_of_ble_eq_true rfl, Nat.le_of_ble_eq_true rfl⟩ rfl (s_X12_sizeR hF _ ⟨by omega, by omega⟩) dX12_wayOf_4.2.2.1.2 (Nat.le_of_ble_eq_true rfl) rfl ?_
  rintro r105 z105 ⟨hz105, p105⟩; subst z105
  refine zW_iadd (pc' := 109) dX12_wayOf_4.2.2.2.1 rfl ?_
  refine zW_istore (ls' := [_, _, _, _, _, _, _]) (pc' := 111) dX12_wayOf_4.2.2.2.2 (by decide) rfl rfl rfl ?_
  have mx := mir_i (v := x2) (n := κ 0 11) ⟨by omega, by omega⟩
  have my := mir_i (v := x3) (n := κ 0 12) ⟨by omega, by omega⟩
  rw [mx, my] at p5
  rw [my] at p17 p26 p41 p51
  rw [mx] at p67 p76 p91 p101
  have z1 := abc (f (mir (x2 - 1) (κ 0 11)) x3 - f (mir (x2 + 1) (κ 0 11)) x3)
  have z2 := abc (2 * f x2 x3 - f (mir (x2 - 2) (κ 0 11)) x3 - f (mir (x2 + 2) (κ 0 11)) x3)
  have z3 := abc (f x2 (mir (x3 - 1) (κ 0 12)) - f x2 (mir (x3 + 1) (κ 0 12)))
  have z4 := abc (2 * f x2 x3 - f x2 (mir (x3 - 2) (κ 0 12)) - f x2 (mir (x3 + 2) (κ 0 12)))
  have ea : r30 + r55 = acW (κ 0 11) f x2 x3 := by unfold acW; omega
  have ed : r80 + r105 = dnW (κ 0 12) f x2 x3 := by unfold dnW; omega
  refine zW_iload (pc' := 113) dX12_wayOf_5.1.1.1.1 rfl rfl ?_
  refine zW_iload (pc' := 115) dX12_wayOf_5.1.1.1.2 rfl rfl ?_
  refine zV_cm_ge (tgt := 122) (pc' := 118) dX12_wayOf_5.1.1.2 rfl rfl ⟨by omega, by omega⟩ ⟨by omega, by omega⟩ (fun c115 => ?_) (fun c115 => ?_)
  · refine zW_iload (pc' := 124) dX12_wayOf_5.1.2.2 rfl rfl ?_
    refine zW_iload (pc' := 126) dX12_wayOf_5.2.1.1.1 rfl rfl ?_
    refine zV_cm_ge (tgt := 133) (pc' := 129) dX12_wayOf_5.2.1.1.2 rfl rfl ⟨by omega, by omega⟩ ⟨by omega, by omega⟩ (fun c126 => ?_) (fun c126 => ?_)
    · refine zW_iconst (pc' := 134) dX12_wayOf_5.2.2.1.2 rfl ?_
      exact zV_iret rfl dX12_wayOf_5.2.2.2 ⟨rfl, (by refine ⟨by omega, by omega, ?_⟩; unfold wy; rw [← ea, ← ed]; first | (rw [if_pos (by omega)]) | (rw [if_neg (by omega), if_pos (by omega)]) | (rw [if_neg (by omega), if_neg (by omega)]))⟩
    · refine zW_iconst (pc' := 130) dX12_wayOf_5.2.1.2 rfl ?_
      refine zV_goto 134 dX12_wayOf_5.2.2.1.1 rfl ?_
      exact zV_iret rfl dX12_wayOf_5.2.2.2 ⟨rfl, (by refine ⟨by omega, by omega, ?_⟩; unfold wy; rw [← ea, ← ed]; first | (rw [if_pos (by omega)]) | (rw [if_neg (by omega), if_pos (by omega)]) | (rw [if_neg (by omega), if_neg (by omega)]))⟩
  · refine zW_iconst (pc' := 119) dX12_wayOf_5.1.2.1.1 rfl ?_
    refine zV_goto 134 dX12_wayOf_5.1.2.1.2 rfl ?_
    exact zV_iret rfl dX12_wayOf_5.2.2.2 ⟨rfl, (by refine ⟨by omega, by omega, ?_⟩; unfold wy; rw [← ea, ← ed]; first | (rw [if_pos (by omega)]) | (rw [if_neg (by omega), if_pos (by omega)]) | (rw [if_neg (by omega), if_neg (by omega)]))⟩

abbrev q_X2_wayOfZ (κ h : Hp) (s1 : Nat) (x2 : Int) (x3 : Int) (f : Int → Int → Int) : Int → Hp → Prop := fun r h' => h' = h ∧ ((0 ≤ r) ∧ (r ≤ 2) ∧ (r = wy (κ 33 0) (κ 33 1) f x2 x3))
set_option maxHeartbeats 4000000 in
set_option maxRecDepth 20000 in
theorem s_X2_wayOfZ {G : Ga} {b : Bd} {κ h : Hp} (hK : KC κ) (hF : Fr b κ h) (s1 : Nat) (hs1 : 56 ≤ s1 ∧ s1 ≤ 70) (x2 : Int) (hx2 : 0 ≤ x2 ∧ x2 ≤ 15 ∧ x2 - κ 33 0 ≤ -1) (x3 : Int) (hx3 : 0 ≤ x3 ∧ x3 ≤ 15 ∧ x3 - κ 33 1 ≤ -1) (f : Int → Int → Int) (hf : ShE (κ 33 0) (κ 33 1) (h (s1 + 15)) f) (hfb : FB (κ 33 0) (κ 33 1) f) : zM G mX2_wayOf yX2_wayOf [.inr (.inr 86), .inr (.inr s1), .inl x2, .inl x3] h (q_X2_wayOfZ κ h s1 x2 x3 f) := by
  have f_33_0 := KCw hK
  have f_33_1 := KCh hK
  refine zM_of [some (.inr (.inr 86)), some (.inr (.inr s1)), some (.inl x2), some (.inl x3), none, none, none, none, none, none, none, none] 8 rfl rfl (Nat.le_of_ble_eq_true rfl) rfl ?_
  refine zW_aload_n (pc' := 1) dX2_wayOf_0.1.1.1.1 rfl rfl ?_
  refine zG_lev (pc' := 4) (by omega) (by omega) fg_X2_24 dX2_wayOf_0.1.1.1.2 rfl ?_
  refine zW_astore (ls' := [_, _, _, _, _, _, _, _, _, _, _, _]) (pc' := 6) dX2_wayOf_0.1.1.2.1 (by decide) rfl rfl rfl ?_
  refine zW_iload_n (pc' := 7) dX2_wayOf_0.1.1.2.2 rfl rfl ?_
  refine zW_bipush (pc' := 9) dX2_wayOf_0.1.2.1.1 rfl rfl ?_
  refine zW_imul (pc' := 10) dX2_wayOf_0.1.2.1.2 rfl ?_
  refine zW_istore (ls' := [_, _, _, _, _, _, _, _, _, _, _, _]) (pc' := 12) dX2_wayOf_0.1.2.2.1 (by decide) rfl rfl rfl ?_
  refine zW_aload (pc' := 14) dX2_wayOf_0.1.2.2.2 rfl rfl ?_
  refine zW_iload (pc' := 16) dX2_wayOf_0.2.1.1.1 rfl rfl ?_
  refine zW_iload_n (pc' := 17) dX2_wayOf_0.2.1.1.2 rfl rfl ?_
  refine zW_iconst (pc' := 18) dX2_wayOf_0.2.1.2.1 rfl ?_
  refine zW_isub (pc' := 19) dX2_wayOf_0.2.1.2.2 rfl ?_
  refine zW_aload_n (pc' := 20) dX2_wayOf_0.2.2.1.1 rfl rfl ?_
  refine zG_ref (pc' := 23) 33 fg_X2_9 tb86 rfl dX2_wayOf_0.2.2.1.2 rfl ?_
  refine zG_key (pc' := 26) hF rfl fg_X2_21 tb33 rfl dX2_wayOf_0.2.2.2.1 rfl ?_
  refine csI2 (pc' := 29) kX11_mirrored vX11_mirrored lk_X2_38 ⟨Nat.le_of_ble_eq_true rfl, Nat.le_of_ble_eq_true rfl⟩ rfl (s_X11_mirroredZ hF _ ⟨by omega, by omega⟩ _ ⟨by omega, by omega⟩ (by omega)) dX2_wayOf_0.2.2.2.2 (Nat.le_of_ble_eq_true rfl) rfl ?_
  rintro r26 z26 ⟨hz26, p26⟩; subst z26
  refine zW_iadd (pc' := 30) dX2_wayOf_1.1.1.1.1 rfl ?_
  refine zV_iald (pc' := 31) (tabL (by omega) (by omega)) (by omega) dX2_wayOf_1.1.1.1.2 (by decide) rfl ?_
  have q30 := hf.at (i := x3 * 16 + r26) (x := r26) (y := x3) ⟨by omega, by omega, by omega, by omega⟩ (by omega)
  have b30 := hfb (r26) (x3) ⟨by omega, by omega, by omega, by omega⟩
  rw [← q30] at b30
  refine zW_aload (pc' := 33) dX2_wayOf_1.1.1.2.1 rfl rfl ?_
  refine zW_iload (pc' := 35) dX2_wayOf_1.1.1.2.2 rfl rfl ?_
  refine zW_iload_n (pc' := 36) dX2_wayOf_1.1.2.1.1 rfl rfl ?_
  refine zW_iconst (pc' := 37) dX2_wayOf_1.1.2.1.2 rfl ?_
  refine zW_iadd (pc' := 38) dX2_wayOf_1.1.2.2.1 rfl ?_
  refine zW_aload_n (pc' := 39) dX2_wayOf_1.1.2.2.2 rfl rfl ?_
  refine zG_ref (pc' := 42) 33 fg_X2_9 tb86 rfl dX2_wayOf_1.2.1.1.1 rfl ?_
  refine zG_key (pc' := 45) hF rfl fg_X2_21 tb33 rfl dX2_wayOf_1.2.1.1.2 rfl ?_
  refine csI2 (pc' := 48) kX11_mirrored vX11_mirrored lk_X2_38 ⟨Nat.le_of_ble_eq_true rfl, Nat.le_of_ble_eq_true rfl⟩ rfl (s_X11_mirroredZ hF _ ⟨by omega, by omega⟩ _ ⟨by omega, by omega⟩ (by omega)) dX2_wayOf_1.2.1.2.1 (Nat.le_of_ble_eq_true rfl) rfl ?_
  rintro r45 z45 ⟨hz45, p45⟩; subst z45
  refine zW_iadd (pc' := 49) dX2_wayOf_1.2.1.2.2 rfl ?_
  refine zV_iald (pc' := 50) (tabL (by omega) (by omega)) (by omega) dX2_wayOf_1.2.2.1.1 (by decide) rfl ?_
  have q49 := hf.at (i := x3 * 16 + r45) (x := r45) (y := x3) ⟨by omega, by omega, by omega, by omega⟩ (by omega)
  have b49 := hfb (r45) (x3) ⟨by omega, by omega, by omega, by omega⟩
  rw [← q49] at b49
  refine zW_isub (pc' := 51) dX2_wayOf_1.2.2.1.2 rfl ?_
  refine zW_istore (ls' := [_, _, _, _, _, _, _, _, _, _, _, _]) (pc' := 53) dX2_wayOf_1.2.2.2.1 (by decide) rfl rfl rfl ?_
  refine zW_aload (pc' := 55) dX2_wayOf_1.2.2.2.2 rfl rfl ?_
  refine zW_iload (pc' := 57) dX2_wayOf_2.1.1.1.1 rfl rfl ?_
  refine zW_iload_n (pc' := 58) dX2_wayOf_2.1.1.1.2 rfl rfl ?_
  refine zW_iconst (pc' := 59) dX2_wayOf_2.1.1.2.1 rfl ?_
  refine zW_isub (pc' := 60) dX2_wayOf_2.1.1.2.2 rfl ?_
  refine zW_aload_n (pc' := 61) dX2_wayOf_2.1.2.1.1 rfl rfl ?_
  refine zG_ref (pc' := 64) 33 fg_X2_9 tb86 rfl dX2_wayOf_2.1.2.1.2 rfl ?_
  refine zG_key (pc' := 67) hF rfl fg_X2_21 tb33 rfl dX2_wayOf_2.1.2.2.1 rfl ?_
  refine csI2 (pc' := 70) kX11_mirrored vX11_mirrored lk_X2_38 ⟨Nat.le_of_ble_eq_true rfl, Nat.le_of_ble_eq_true rfl⟩ rfl (s_X11_mirroredZ hF _ ⟨by omega, by omega⟩ _ ⟨by omega, by omega⟩ (by omega)) dX2_wayOf_2.1.2.2.2 (Nat.le_of_ble_eq_true rfl) rfl ?_
  rintro r67 z67 ⟨hz67, p67⟩; subst z67
  refine zW_iadd (pc' := 71) dX2_wayOf_2.2.1.1.1 rfl ?_
  refine zV_iald (pc' := 72) (tabL (by omega) (by omega)) (by omega) dX2_wayOf_2.2.1.1.2 (by decide) rfl ?_
  have q71 := hf.at (i := x3 * 16 + r67) (x := r67) (y := x3) ⟨by omega, by omega, by omega, by omega⟩ (by omega)
  have b71 := hfb (r67) (x3) ⟨by omega, by omega, by omega, by omega⟩
  rw [← q71] at b71
  refine zW_aload (pc' := 74) dX2_wayOf_2.2.1.2.1 rfl rfl ?_
  refine zW_iload (pc' := 76) dX2_wayOf_2.2.1.2.2 rfl rfl ?_
  refine zW_iload_n (pc' := 77) dX2_wayOf_2.2.2.1.1 rfl rfl ?_
  refine zW_iconst (pc' := 78) dX2_wayOf_2.2.2.1.2 rfl ?_
  refine zW_iadd (pc' := 79) dX2_wayOf_2.2.2.2.1 rfl ?_
  refine zW_aload_n (pc' := 80) dX2_wayOf_2.2.2.2.2 rfl rfl ?_
  refine zG_ref (pc' := 83) 33 fg_X2_9 tb86 rfl dX2_wayOf_3.1.1.1.1 rfl ?_
  refine zG_key (pc' := 86) hF rfl fg_X2_21 tb33 rfl dX2_wayOf_3.1.1.1.2 rfl ?_
  refine csI2 (pc' := 89) kX11_mirrored vX11_mirrored lk_X2_38 ⟨Nat.le_of_ble_eq_true rfl, Nat.le_of_ble_eq_true rfl⟩ rfl (s_X11_mirroredZ hF _ ⟨by omega, by omega⟩ _ ⟨by omega, by omega⟩ (by omega)) dX2_wayOf_3.1.1.2.1 (Nat.le_of_ble_eq_true rfl) rfl ?_
  rintro r86 z86 ⟨hz86, p86⟩; subst z86
  refine zW_iadd (pc' := 90) dX2_wayOf_3.1.1.2.2 rfl ?_
  refine zV_iald (pc' := 91) (tabL (by omega) (by omega)) (by omega) dX2_wayOf_3.1.2.1.1 (by decide) rfl ?_
  have q90 := hf.at (i := x3 * 16 + r86) (x := r86) (y := x3) ⟨by omega, by omega, by omega, by omega⟩ (by omega)
  have b90 := hfb (r86) (x3) ⟨by omega, by omega, by omega, by omega⟩
  rw [← q90] at b90
  refine zW_iadd (pc' := 92) dX2_wayOf_3.1.2.1.2 rfl ?_
  refine zW_istore (ls' := [_, _, _, _, _, _, _, _, _, _, _, _]) (pc' := 94) dX2_wayOf_3.1.2.2.1 (by decide) rfl rfl rfl ?_
  refine zW_aload (pc' := 96) dX2_wayOf_3.1.2.2.2 rfl rfl ?_
  refine zW_iload_n (pc' := 97) dX2_wayOf_3.2.1.1.1 rfl rfl ?_
  refine zW_iconst (pc' := 98) dX2_wayOf_3.2.1.1.2 rfl ?_
  refine zW_isub (pc' := 99) dX2_wayOf_3.2.1.2.1 rfl ?_
  refine zW_aload_n (pc' := 100) dX2_wayOf_3.2.1.2.2 rfl rfl ?_
  refine zG_ref (pc' := 103) 33 fg_X2_9 tb86 rfl dX2_wayOf_3.2.2.1.1 rfl ?_
  refine zG_key (pc' := 106) hF rfl fg_X2_15 tb33 rfl dX2_wayOf_3.2.2.1.2 rfl ?_
  refine csI2 (pc' := 109) kX11_mirrored vX11_mirrored lk_X2_38 ⟨Nat.le_of_ble_eq_true rfl, Nat.le_of_ble_eq_true rfl⟩ rfl (s_X11_mirroredZ hF _ ⟨by omega, by omega⟩ _ ⟨by omega, by omega⟩ (by omega)) dX2_wayOf_3.2.2.2.1 (Nat.le_of_ble_eq_true rfl) rfl ?_
  rintro r106 z106 ⟨hz106, p106⟩; subst z106
  refine zW_bipush (pc' := 111) dX2_wayOf_3.2.2.2.2 rfl rfl ?_
  refine zW_imul (pc' := 112) dX2_wayOf_4.1.1.1.1 rfl ?_
  refine zW_iload_n (pc' := 113) dX2_wayOf_4.1.1.1.2 rfl rfl ?_
  refine zW_iadd (pc' := 114) dX2_wayOf_4.1.1.2.1 rfl ?_
  refine zV_iald (pc' := 115) (tabL (by omega) (by omega)) (by omega) dX2_wayOf_4.1.1.2.2 (by decide) rfl ?_
  have q114 := hf.at (i := r106 * 16 + x2) (x := x2) (y := r106) ⟨by omega, by omega, by omega, by omega⟩ (by omega)
  have b114 := hfb (x2) (r106) ⟨by omega, by omega, by omega, by omega⟩
  rw [← q114] at b114
  refine zW_aload (pc' := 117) dX2_wayOf_4.1.2.1.1 rfl rfl ?_
  refine zW_iload_n (pc' := 118) dX2_wayOf_4.1.2.1.2 rfl rfl ?_
  refine zW_iconst (pc' := 119) dX2_wayOf_4.1.2.2.1 rfl ?_
  refine zW_iadd (pc' := 120) dX2_wayOf_4.1.2.2.2 rfl ?_
  refine zW_aload_n (pc' := 121) dX2_wayOf_4.2.1.1.1 rfl rfl ?_
  refine zG_ref (pc' := 124) 33 fg_X2_9 tb86 rfl dX2_wayOf_4.2.1.1.2 rfl ?_
  refine zG_key (pc' := 127) hF rfl fg_X2_15 tb33 rfl dX2_wayOf_4.2.1.2.1 rfl ?_
  refine csI2 (pc' := 130) kX11_mirrored vX11_mirrored lk_X2_38 ⟨Nat.le_of_ble_eq_true rfl, Nat.le_of_ble_eq_true rfl⟩ rfl (s_X11_mirroredZ hF _ ⟨by omega, by omega⟩ _ ⟨by omega, by omega⟩ (by omega)) dX2_wayOf_4.2.1.2.2 (Nat.le_of_ble_eq_true rfl) rfl ?_
  rintro r127 z127 ⟨hz127, p127⟩; subst z127
  refine zW_bipush (pc' := 132) dX2_wayOf_4.2.2.1.1 rfl rfl ?_
  refine zW_imul (pc' := 133) dX2_wayOf_4.2.2.1.2 rfl ?_
  refine zW_iload_n (pc' := 134) dX2_wayOf_4.2.2.2.1 rfl rfl ?_
  refine zW_iadd (pc' := 135) dX2_wayOf_4.2.2.2.2 rfl ?_
  refine zV_iald (pc' := 136) (tabL (by omega) (by omega)) (by omega) dX2_wayOf_5.1.1.1.1 (by decide) rfl ?_
  have q135 := hf.at (i := r127 * 16 + x2) (x := x2) (y := r127) ⟨by omega, by omega, by omega, by omega⟩ (by omega)
  have b135 := hfb (x2) (r127) ⟨by omega, by omega, by omega, by omega⟩
  rw [← q135] at b135
  refine zW_isub (pc' := 137) dX2_wayOf_5.1.1.1.2 rfl ?_
  refine zW_istore (ls' := [_, _, _, _, _, _, _, _, _, _, _, _]) (pc' := 139) dX2_wayOf_5.1.1.2.1 (by decide) rfl rfl rfl ?_
  refine zW_aload (pc' := 141) dX2_wayOf_5.1.1.2.2 rfl rfl ?_
  refine zW_iload_n (pc' := 142) dX2_wayOf_5.1.2.1.1 rfl rfl ?_
  refine zW_iconst (pc' := 143) dX2_wayOf_5.1.2.1.2 rfl ?_
  refine zW_isub (pc' := 144) dX2_wayOf_5.1.2.2.1 rfl ?_
  refine zW_aload_n (pc' := 145) dX2_wayOf_5.1.2.2.2 rfl rfl ?_
  refine zG_ref (pc' := 148) 33 fg_X2_9 tb86 rfl dX2_wayOf_5.2.1.1.1 rfl ?_
  refine zG_key (pc' := 151) hF rfl fg_X2_15 tb33 rfl dX2_wayOf_5.2.1.1.2 rfl ?_
  refine csI2 (pc' := 154) kX11_mirrored vX11_mirrored lk_X2_38 ⟨Nat.le_of_ble_eq_true rfl, Nat.le_of_ble_eq_true rfl⟩ rfl (s_X11_mirroredZ hF _ ⟨by omega, by omega⟩ _ ⟨by omega, by omega⟩ (by omega)) dX2_wayOf_5.2.1.2.1 (Nat.le_of_ble_eq_true rfl) rfl ?_
  rintro r151 z151 ⟨hz151, p151⟩; subst z151
  refine zW_bipush (pc' := 156) dX2_wayOf_5.2.1.2.2 rfl rfl ?_
  refine zW_imul (pc' := 157) dX2_wayOf_5.2.2.1.1 rfl ?_
  refine zW_iload_n (pc' := 158) dX2_wayOf_5.2.2.1.2 rfl rfl ?_
  refine zW_iadd (pc' := 159) dX2_wayOf_5.2.2.2.1 rfl ?_
  refine zV_iald (pc' := 160) (tabL (by omega) (by omega)) (by omega) dX2_wayOf_5.2.2.2.2 (by decide) rfl ?_
  have q159 := hf.at (i := r151 * 16 + x2) (x := x2) (y := r151) ⟨by omega, by omega, by omega, by omega⟩ (by omega)
  have b159 := hfb (x2) (r151) ⟨by omega, by omega, by omega, by omega⟩
  rw [← q159] at b159
  refine zW_aload (pc' := 162) dX2_wayOf_6.1.1.1.1 rfl rfl ?_
  refine zW_iload_n (pc' := 163) dX2_wayOf_6.1.1.1.2 rfl rfl ?_
  refine zW_iconst (pc' := 164) dX2_wayOf_6.1.1.2.1 rfl ?_
  refine zW_iadd (pc' := 165) dX2_wayOf_6.1.1.2.2 rfl ?_
  refine zW_aload_n (pc' := 166) dX2_wayOf_6.1.2.1.1 rfl rfl ?_
  refine zG_ref (pc' := 169) 33 fg_X2_9 tb86 rfl dX2_wayOf_6.1.2.1.2 rfl ?_
  refine zG_key (pc' := 172) hF rfl fg_X2_15 tb33 rfl dX2_wayOf_6.1.2.2.1 rfl ?_
  refine csI2 (pc' := 175) kX11_mirrored vX11_mirrored lk_X2_38 ⟨Nat.le_of_ble_eq_true rfl, Nat.le_of_ble_eq_true rfl⟩ rfl (s_X11_mirroredZ hF _ ⟨by omega, by omega⟩ _ ⟨by omega, by omega⟩ (by omega)) dX2_wayOf_6.1.2.2.2 (Nat.le_of_ble_eq_true rfl) rfl ?_
  rintro r172 z172 ⟨hz172, p172⟩; subst z172
  refine zW_bipush (pc' := 177) dX2_wayOf_6.2.1.1.1 rfl rfl ?_
  refine zW_imul (pc' := 178) dX2_wayOf_6.2.1.1.2 rfl ?_
  refine zW_iload_n (pc' := 179) dX2_wayOf_6.2.1.2.1 rfl rfl ?_
  refine zW_iadd (pc' := 180) dX2_wayOf_6.2.1.2.2 rfl ?_
  refine zV_iald (pc' := 181) (tabL (by omega) (by omega)) (by omega) dX2_wayOf_6.2.2.1.1 (by decide) rfl ?_
  have q180 := hf.at (i := r172 * 16 + x2) (x := x2) (y := r172) ⟨by omega, by omega, by omega, by omega⟩ (by omega)
  have b180 := hfb (x2) (r172) ⟨by omega, by omega, by omega, by omega⟩
  rw [← q180] at b180
  refine zW_iadd (pc' := 182) dX2_wayOf_6.2.2.1.2 rfl ?_
  refine zW_istore (ls' := [_, _, _, _, _, _, _, _, _, _, _, _]) (pc' := 184) dX2_wayOf_6.2.2.2.1 (by decide) rfl rfl rfl ?_
  refine zW_iload (pc' := 186) dX2_wayOf_6.2.2.2.2 rfl rfl ?_
  refine zV_mabs (pc' := 189) km_X2_56 (Nat.le_of_ble_eq_true rfl) (Nat.le_of_ble_eq_true rfl) dX2_wayOf_7.1.1.1.1 rfl (fun v186 e186 => ?_)
  replace e186 := e186.2 ⟨by omega, by omega⟩ (by omega)
  refine zW_iconst (pc' := 190) dX2_wayOf_7.1.1.1.2 rfl ?_
  refine zW_aload (pc' := 192) dX2_wayOf_7.1.1.2.1 rfl rfl ?_
  refine zW_iload (pc' := 194) dX2_wayOf_7.1.1.2.2 rfl rfl ?_
  refine zW_iload_n (pc' := 195) dX2_wayOf_7.1.2.1.1 rfl rfl ?_
  refine zW_iadd (pc' := 196) dX2_wayOf_7.1.2.1.2 rfl ?_
  refine zV_iald (pc' := 197) (tabL (by omega) (by omega)) (by omega) dX2_wayOf_7.1.2.2.1 (by decide) rfl ?_
  have q196 := hf.at (i := x3 * 16 + x2) (x := x2) (y := x3) ⟨by omega, by omega, by omega, by omega⟩ (by omega)
  have b196 := hfb (x2) (x3) ⟨by omega, by omega, by omega, by omega⟩
  rw [← q196] at b196
  refine zW_imul (pc' := 198) dX2_wayOf_7.1.2.2.2 rfl ?_
  refine zW_iload (pc' := 200) dX2_wayOf_7.2.1.1.1 rfl rfl ?_
  refine zW_isub (pc' := 201) dX2_wayOf_7.2.1.1.2 rfl ?_
  refine zV_mabs (pc' := 204) km_X2_56 (Nat.le_of_ble_eq_true rfl) (Nat.le_of_ble_eq_true rfl) dX2_wayOf_7.2.1.2.1 rfl (fun v201 e201 => ?_)
  replace e201 := e201.2 ⟨by omega, by omega⟩ (by omega)
  refine zW_iadd (pc' := 205) dX2_wayOf_7.2.1.2.2 rfl ?_
  refine zW_istore (ls' := [_, _, _, _, _, _, _, _, _, _, _, _]) (pc' := 207) dX2_wayOf_7.2.2.1.1 (by decide) rfl rfl rfl ?_
  refine zW_iload (pc' := 209) dX2_wayOf_7.2.2.1.2 rfl rfl ?_
  refine zV_mabs (pc' := 212) km_X2_56 (Nat.le_of_ble_eq_true rfl) (Nat.le_of_ble_eq_true rfl) dX2_wayOf_7.2.2.2.1 rfl (fun v209 e209 => ?_)
  replace e209 := e209.2 ⟨by omega, by omega⟩ (by omega)
  refine zW_iconst (pc' := 213) dX2_wayOf_7.2.2.2.2 rfl ?_
  refine zW_aload (pc' := 215) dX2_wayOf_8.1.1.1.1 rfl rfl ?_
  refine zW_iload (pc' := 217) dX2_wayOf_8.1.1.1.2 rfl rfl ?_
  refine zW_iload_n (pc' := 218) dX2_wayOf_8.1.1.2.1 rfl rfl ?_
  refine zW_iadd (pc' := 219) dX2_wayOf_8.1.1.2.2 rfl ?_
  refine zV_iald (pc' := 220) (tabL (by omega) (by omega)) (by omega) dX2_wayOf_8.1.2.1.1 (by decide) rfl ?_
  have q219 := hf.at (i := x3 * 16 + x2) (x := x2) (y := x3) ⟨by omega, by omega, by omega, by omega⟩ (by omega)
  have b219 := hfb (x2) (x3) ⟨by omega, by omega, by omega, by omega⟩
  rw [← q219] at b219
  refine zW_imul (pc' := 221) dX2_wayOf_8.1.2.1.2 rfl ?_
  refine zW_iload (pc' := 223) dX2_wayOf_8.1.2.2.1 rfl rfl ?_
  refine zW_isub (pc' := 224) dX2_wayOf_8.1.2.2.2 rfl ?_
  refine zV_mabs (pc' := 227) km_X2_56 (Nat.le_of_ble_eq_true rfl) (Nat.le_of_ble_eq_true rfl) dX2_wayOf_8.2.1.1.1 rfl (fun v224 e224 => ?_)
  replace e224 := e224.2 ⟨by omega, by omega⟩ (by omega)
  refine zW_iadd (pc' := 228) dX2_wayOf_8.2.1.1.2 rfl ?_
  refine zW_istore (ls' := [_, _, _, _, _, _, _, _, _, _, _, _]) (pc' := 230) dX2_wayOf_8.2.1.2.1 (by decide) rfl rfl rfl ?_
  have k26 := p26.2.2.2; have k45 := p45.2.2.2; have k67 := p67.2.2.2; have k86 := p86.2.2.2; have k106 := p106.2.2.2; have k127 := p127.2.2.2; have k151 := p151.2.2.2; have k172 := p172.2.2.2
  skip
  have z1 := abc (f (mir (x2 - 1) (κ 33 0)) x3 - f (mir (x2 + 1) (κ 33 0)) x3)
  have z2 := abc (2 * f x2 x3 - f (mir (x2 - 2) (κ 33 0)) x3 - f (mir (x2 + 2) (κ 33 0)) x3)
  have z3 := abc (f x2 (mir (x3 - 1) (κ 33 1)) - f x2 (mir (x3 + 1) (κ 33 1)))
  have z4 := abc (2 * f x2 x3 - f x2 (mir (x3 - 2) (κ 33 1)) - f x2 (mir (x3 + 2) (κ 33 1)))
  rw [← k26, ← k45] at z1
  rw [← k67, ← k86] at z2
  rw [← k106, ← k127] at z3
  rw [← k151, ← k172] at z4
  have ea : v186 + v201 = acW (κ 33 0) f x2 x3 := by unfold acW; rw [← k26, ← k45, ← k67, ← k86]; omega
  have ed : v209 + v224 = dnW (κ 33 1) f x2 x3 := by unfold dnW; rw [← k106, ← k127, ← k151, ← k172]; omega
  refine zW_iload (pc' := 232) dX2_wayOf_8.2.1.2.2 rfl rfl ?_
  refine zW_iload (pc' := 234) dX2_wayOf_8.2.2.1.1 rfl rfl ?_
  refine zV_cm_ge (tgt := 239) (pc' := 237) dX2_wayOf_8.2.2.1.2 rfl rfl ⟨by omega, by omega⟩ ⟨by omega, by omega⟩ (fun c234 => ?_) (fun c234 => ?_)
  · refine zW_iload (pc' := 241) dX2_wayOf_9.1.1.1 rfl rfl ?_
    refine zW_iload (pc' := 243) dX2_wayOf_9.1.1.2 rfl rfl ?_
    refine zV_cm_ge (tgt := 250) (pc' := 246) dX2_wayOf_9.1.2.1 rfl rfl ⟨by omega, by omega⟩ ⟨by omega, by omega⟩ (fun c243 => ?_) (fun c243 => ?_)
    · refine zW_iconst (pc' := 251) dX2_wayOf_9.2.1.2 rfl ?_
      exact zV_iret rfl dX2_wayOf_9.2.2 ⟨rfl, (by refine ⟨by omega, by omega, ?_⟩; unfold wy; rw [← ea, ← ed]; first | (rw [if_pos (by omega)]) | (rw [if_neg (by omega), if_pos (by omega)]) | (rw [if_neg (by omega), if_neg (by omega)]))⟩
    · refine zW_iconst (pc' := 247) dX2_wayOf_9.1.2.2 rfl ?_
      refine zV_goto 251 dX2_wayOf_9.2.1.1 rfl ?_
      exact zV_iret rfl dX2_wayOf_9.2.2 ⟨rfl, (by refine ⟨by omega, by omega, ?_⟩; unfold wy; rw [← ea, ← ed]; first | (rw [if_pos (by omega)]) | (rw [if_neg (by omega), if_pos (by omega)]) | (rw [if_neg (by omega), if_neg (by omega)]))⟩
  · refine zW_iconst (pc' := 238) dX2_wayOf_8.2.2.2.1 rfl ?_
    exact zV_iret rfl dX2_wayOf_8.2.2.2.2 ⟨rfl, (by refine ⟨by omega, by omega, ?_⟩; unfold wy; rw [← ea, ← ed]; first | (rw [if_pos (by omega)]) | (rw [if_neg (by omega), if_pos (by omega)]) | (rw [if_neg (by omega), if_neg (by omega)]))⟩

abbrev q_X5_colourOfZ (κ h : Hp) (x1 : Int) (x2 : Int) : Int → Hp → Prop := fun r h' => h' = h ∧ ((0 ≤ r) ∧ (r ≤ 2) ∧ (r = (x1 + κ 33 2) % 2 + (x2 + κ 33 2 / 2) % 2))
set_option maxHeartbeats 4000000 in
set_option maxRecDepth 20000 in
theorem s_X5_colourOfZ {G : Ga} {b : Bd} {κ h : Hp} (hK : KC κ) (hF : Fr b κ h) (x1 : Int) (hx1 : 0 ≤ x1 ∧ x1 ≤ 16) (x2 : Int) (hx2 : 0 ≤ x2 ∧ x2 ≤ 15) : zM G mX5_colourOf yX5_colourOf [.inr (.inr 33), .inl x1, .inl x2] h (q_X5_colourOfZ κ h x1 x2) := by
  have f_33_2 := KCp hK
  refine zM_of [some (.inr (.inr 33)), some (.inl x1), some (.inl x2), none, none] 2 rfl rfl (Nat.le_of_ble_eq_true rfl) rfl ?_
  refine zW_iload_n (pc' := 1) dX5_colourOf_0.1.1.1.1 rfl rfl ?_
  refine zW_aload_n (pc' := 2) dX5_colourOf_0.1.1.1.2 rfl rfl ?_
  refine zG_key (pc' := 5) hF rfl fg_X5_25 tb33 rfl dX5_colourOf_0.1.1.2.1 rfl ?_
  refine zW_iadd (pc' := 6) dX5_colourOf_0.1.1.2.2 rfl ?_
  refine zW_iconst (pc' := 7) dX5_colourOf_0.1.2.1.1 rfl ?_
  refine zW_iand1 (pc' := 8) dX5_colourOf_0.1.2.1.2 rfl (fun v7 e7 => ?_)
  refine zW_istore_n (ls' := [_, _, _, _, _]) (pc' := 9) dX5_colourOf_0.1.2.2.1 (by decide) rfl rfl rfl ?_
  refine zW_iload_n (pc' := 10) dX5_colourOf_0.1.2.2.2 rfl rfl ?_
  refine zW_aload_n (pc' := 11) dX5_colourOf_0.2.1.1.1 rfl rfl ?_
  refine zG_key (pc' := 14) hF rfl fg_X5_25 tb33 rfl dX5_colourOf_0.2.1.1.2 rfl ?_
  refine zW_iconst (pc' := 15) dX5_colourOf_0.2.1.2.1 rfl ?_
  refine zW_idiv (pc' := 16) (by omega) (by omega) dX5_colourOf_0.2.1.2.2 rfl ?_
  refine zW_iadd (pc' := 17) dX5_colourOf_0.2.2.1.1 rfl ?_
  refine zW_iconst (pc' := 18) dX5_colourOf_0.2.2.1.2 rfl ?_
  refine zW_iand1 (pc' := 19) dX5_colourOf_0.2.2.2.1 rfl (fun v18 e18 => ?_)
  refine zW_istore (ls' := [_, _, _, _, _]) (pc' := 21) dX5_colourOf_0.2.2.2.2 (by decide) rfl rfl rfl ?_
  refine zW_iload_n (pc' := 22) dX5_colourOf_1.1.1.1.1 rfl rfl ?_
  refine zW_iload (pc' := 24) dX5_colourOf_1.1.1.1.2 rfl rfl ?_
  refine zV_cm_ne (tgt := 33) (pc' := 27) dX5_colourOf_1.1.1.2 rfl rfl ⟨by omega, by omega⟩ ⟨by omega, by omega⟩ (fun c24 => ?_) (fun c24 => ?_)
  · refine zW_iconst (pc' := 34) dX5_colourOf_1.2.2.1 rfl ?_
    exact zV_iret rfl dX5_colourOf_1.2.2.2 ⟨rfl, by omega⟩
  · refine zW_iconst (pc' := 28) dX5_colourOf_1.1.2.1 rfl ?_
    refine zW_iload_n (pc' := 29) dX5_colourOf_1.1.2.2 rfl rfl ?_
    refine zW_imul (pc' := 30) dX5_colourOf_1.2.1.1 rfl ?_
    refine zV_goto 34 dX5_colourOf_1.2.1.2 rfl ?_
    exact zV_iret rfl dX5_colourOf_1.2.2.2 ⟨rfl, by omega⟩




