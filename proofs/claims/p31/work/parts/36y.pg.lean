/-- a plane of a sheet of the class -/
def PlS (W H : Int) (A : Nat → Int) (c : Int) (g : Int → Int → Int) : Prop := ∀ x y : Int, inP W H x y → A (256 * c + 16 * y + x).toNat = g x y
def PlSu (W H : Int) (A : Nat → Int) (c : Int) (g : Int → Int → Int) (x0 y0 : Int) : Prop := ∀ x y : Int, inP W H x y → (y < y0 ∨ (y = y0 ∧ x < x0)) → A (256 * c + 16 * y + x).toNat = g x y
theorem PlS.at {W H : Int} {A : Nat → Int} {c : Int} {g : Int → Int → Int} {x y i : Int} (h : PlS W H A c g) (hp : inP W H x y) (e : i = 256 * c + 16 * y + x) : A i.toNat = g x y := by
  rw [e]; exact h x y hp
theorem PlSu.nx {W H : Int} {h : Hp} {l : Nat} {c : Int} {g : Int → Int → Int} {x0 y0 v i : Int} (hc : 0 ≤ c) (hW : W ≤ 16) (h0 : inP W H x0 y0) (r : PlSu W H (h l) c g x0 y0) (hi : i = 256 * c + 16 * y0 + x0) (hv : v = g x0 y0) : PlSu W H (zwr h l i.toNat v l) c g (x0 + 1) y0 := by
  intro x y h1 h2
  obtain ⟨g1, g2, g3, g4⟩ := h0
  obtain ⟨k1, k2, k3, k4⟩ := h1
  by_cases e : x = x0 ∧ y = y0
  · rw [e.1, e.2, ← hi, zwr_eq]; exact hv
  · rw [zwr_ne (Or.inr (fun q => e (by omega)))]
    exact r x y ⟨k1, k2, k3, k4⟩ (by omega)
theorem PlSu.rowx {W H : Int} {A : Nat → Int} {c : Int} {g : Int → Int → Int} {x0 y0 : Int} (r : PlSu W H A c g x0 y0) (hx : W ≤ x0) : PlSu W H A c g 0 (y0 + 1) := fun x y h1 h2 => r x y h1 (by have a := h1.1; have b := h1.2.1; omega)
theorem PlSu.all {W H : Int} {A : Nat → Int} {c : Int} {g : Int → Int → Int} {y0 : Int} (r : PlSu W H A c g 0 y0) (hy : H ≤ y0) : PlS W H A c g := fun x y h1 => r x y h1 (Or.inl (by have := h1.2.2.2; omega))
theorem PlSu.no {W H : Int} {A : Nat → Int} {c : Int} {g : Int → Int → Int} : PlSu W H A c g 0 0 := fun x y h1 h2 => by obtain ⟨_, _, _, _⟩ := h1; omega
theorem PlS.w {W H : Int} {h : Hp} {l : Nat} {c : Int} {g : Int → Int → Int} {i : Nat} {v : Int} (r : PlS W H (h l) c g) (hc : 0 ≤ c) (hW : W ≤ 16) (hH : H ≤ 16) (hi : (i : Int) < 256 * c ∨ 256 * c + 256 ≤ (i : Int)) : PlS W H (zwr h l i v l) c g := fun x y h1 => by
  have h1' := h1
  obtain ⟨k1, k2, k3, k4⟩ := h1
  rw [zwr_ne (Or.inr (by omega))]
  exact r x y h1'
theorem PlSu.w {W H : Int} {h : Hp} {l : Nat} {c : Int} {g : Int → Int → Int} {x0 y0 : Int} {i : Nat} {v : Int} (r : PlSu W H (h l) c g x0 y0) (hc : 0 ≤ c) (hW : W ≤ 16) (hH : H ≤ 16) (hi : (i : Int) < 256 * c ∨ 256 * c + 256 ≤ (i : Int)) : PlSu W H (zwr h l i v l) c g x0 y0 := fun x y h1 h2 => by
  have h1' := h1
  obtain ⟨k1, k2, k3, k4⟩ := h1
  rw [zwr_ne (Or.inr (by omega))]
  exact r x y h1' h2
theorem cl_mir {P W x y : Int} (h : 0 ≤ x ∧ x < W) : cl P (mir (x + 1) W) y = cl P (x + 1) y := by
  unfold cl mir
  rw [if_neg (by omega)]
  by_cases c : W ≤ x + 1
  · rw [if_pos c]; omega
  · rw [if_neg c]

abbrev q_X2_greenOfZ (κ h : Hp) (s1 : Nat) (x2 : Int) (x3 : Int) (x4 : Int) (f : Int → Int → Int) : Int → Hp → Prop := fun r h' => h' = h ∧ ((0 ≤ r) ∧ (r ≤ 4095) ∧ (r = grn (κ 33 0) (κ 33 1) (κ 33 2) x4 f x2 x3))
set_option maxHeartbeats 4000000 in
set_option maxRecDepth 20000 in
theorem s_X2_greenOfZ {G : Ga} {b : Bd} {κ h : Hp} (hK : KC κ) (hF : Fr b κ h) (s1 : Nat) (hs1 : 56 ≤ s1 ∧ s1 ≤ 70) (x2 : Int) (hx2 : 0 ≤ x2 ∧ x2 ≤ 15 ∧ x2 - κ 33 0 ≤ -1) (x3 : Int) (hx3 : 0 ≤ x3 ∧ x3 ≤ 15 ∧ x3 - κ 33 1 ≤ -1) (x4 : Int) (hx4 : 0 ≤ x4 ∧ x4 ≤ 1) (f : Int → Int → Int) (hf : ShE (κ 33 0) (κ 33 1) (h (s1 + 15)) f) (hfb : FB (κ 33 0) (κ 33 1) f) : zM G mX2_greenOf yX2_greenOf [.inr (.inr 86), .inr (.inr s1), .inl x2, .inl x3, .inl x4] h (q_X2_greenOfZ κ h s1 x2 x3 x4 f) := by
  have f_33_0 := KCw hK
  have f_33_1 := KCh hK
  have f_33_2 := KCp hK
  refine zM_of [some (.inr (.inr 86)), some (.inr (.inr s1)), some (.inl x2), some (.inl x3), some (.inl x4), none, none, none, none] 4 rfl rfl (Nat.le_of_ble_eq_true rfl) rfl ?_
  refine zW_aload_n (pc' := 1) dX2_greenOf_0.1.1.1.1 rfl rfl ?_
  refine zG_lev (pc' := 4) (by omega) (by omega) fg_X2_24 dX2_greenOf_0.1.1.1.2 rfl ?_
  refine zW_astore (ls' := [_, _, _, _, _, _, _, _, _]) (pc' := 6) dX2_greenOf_0.1.1.2.1 (by decide) rfl rfl rfl ?_
  refine zW_aload_n (pc' := 7) dX2_greenOf_0.1.1.2.2 rfl rfl ?_
  refine zG_ref (pc' := 10) 33 fg_X2_9 tb86 rfl dX2_greenOf_0.1.2.1.1 rfl ?_
  refine zW_iload_n (pc' := 11) dX2_greenOf_0.1.2.1.2 rfl rfl ?_
  refine zW_iload_n (pc' := 12) dX2_greenOf_0.1.2.2.1 rfl rfl ?_
  refine cvI2 (pc' := 15) kX5_colourOf vX5_colourOf lk_X2_71 ⟨Nat.le_of_ble_eq_true rfl, Nat.le_of_ble_eq_true rfl⟩ tb33 vq5 rfl rfl (s_X5_colourOfZ hK hF _ ⟨by omega, by omega⟩ _ ⟨by omega, by omega⟩) dX2_greenOf_0.1.2.2.2 (Nat.le_of_ble_eq_true rfl) rfl ?_
  rintro r12 z12 ⟨hz12, p12⟩; subst z12
  refine zW_iconst (pc' := 16) dX2_greenOf_0.2.1.1.1 rfl ?_
  refine zV_cm_ne (tgt := 29) (pc' := 19) dX2_greenOf_0.2.1.1.2 rfl rfl ⟨by omega, by omega⟩ ⟨by omega, by omega⟩ (fun c16 => ?_) (fun c16 => ?_)
  · refine zW_aload (pc' := 31) dX2_greenOf_1.1.1.2.1 rfl rfl ?_
    refine zW_iload_n (pc' := 32) dX2_greenOf_1.1.1.2.2 rfl rfl ?_
    refine zW_bipush (pc' := 34) dX2_greenOf_1.1.2.1.1 rfl rfl ?_
    refine zW_imul (pc' := 35) dX2_greenOf_1.1.2.1.2 rfl ?_
    refine zW_iload_n (pc' := 36) dX2_greenOf_1.1.2.2.1 rfl rfl ?_
    refine zW_iconst (pc' := 37) dX2_greenOf_1.1.2.2.2 rfl ?_
    refine zW_isub (pc' := 38) dX2_greenOf_1.2.1.1.1 rfl ?_
    refine zW_aload_n (pc' := 39) dX2_greenOf_1.2.1.1.2 rfl rfl ?_
    refine zG_ref (pc' := 42) 33 fg_X2_9 tb86 rfl dX2_greenOf_1.2.1.2.1 rfl ?_
    refine zG_key (pc' := 45) hF rfl fg_X2_21 tb33 rfl dX2_greenOf_1.2.1.2.2 rfl ?_
    refine csI2 (pc' := 48) kX11_mirrored vX11_mirrored lk_X2_38 ⟨Nat.le_of_ble_eq_true rfl, Nat.le_of_ble_eq_true rfl⟩ rfl (s_X11_mirroredZ hF _ ⟨by omega, by omega⟩ _ ⟨by omega, by omega⟩ (by omega)) dX2_greenOf_1.2.2.1.1 (Nat.le_of_ble_eq_true rfl) rfl ?_
    rintro r45 z45 ⟨hz45, p45⟩; subst z45
    refine zW_iadd (pc' := 49) dX2_greenOf_1.2.2.1.2 rfl ?_
    refine zV_iald (pc' := 50) (tabL (by omega) (by omega)) (by omega) dX2_greenOf_1.2.2.2.1 (by decide) rfl ?_
    have q49 := hf.at (i := x3 * 16 + r45) (x := r45) (y := x3) ⟨by omega, by omega, by omega, by omega⟩ (by omega)
    have b49 := hfb (r45) (x3) ⟨by omega, by omega, by omega, by omega⟩
    rw [← q49] at b49
    refine zW_aload (pc' := 52) dX2_greenOf_1.2.2.2.2 rfl rfl ?_
    refine zW_iload_n (pc' := 53) dX2_greenOf_2.1.1.1.1 rfl rfl ?_
    refine zW_bipush (pc' := 55) dX2_greenOf_2.1.1.1.2 rfl rfl ?_
    refine zW_imul (pc' := 56) dX2_greenOf_2.1.1.2.1 rfl ?_
    refine zW_iload_n (pc' := 57) dX2_greenOf_2.1.1.2.2 rfl rfl ?_
    refine zW_iconst (pc' := 58) dX2_greenOf_2.1.2.1.1 rfl ?_
    refine zW_iadd (pc' := 59) dX2_greenOf_2.1.2.1.2 rfl ?_
    refine zW_aload_n (pc' := 60) dX2_greenOf_2.1.2.2.1 rfl rfl ?_
    refine zG_ref (pc' := 63) 33 fg_X2_9 tb86 rfl dX2_greenOf_2.1.2.2.2 rfl ?_
    refine zG_key (pc' := 66) hF rfl fg_X2_21 tb33 rfl dX2_greenOf_2.2.1.1.1 rfl ?_
    refine csI2 (pc' := 69) kX11_mirrored vX11_mirrored lk_X2_38 ⟨Nat.le_of_ble_eq_true rfl, Nat.le_of_ble_eq_true rfl⟩ rfl (s_X11_mirroredZ hF _ ⟨by omega, by omega⟩ _ ⟨by omega, by omega⟩ (by omega)) dX2_greenOf_2.2.1.1.2 (Nat.le_of_ble_eq_true rfl) rfl ?_
    rintro r66 z66 ⟨hz66, p66⟩; subst z66
    refine zW_iadd (pc' := 70) dX2_greenOf_2.2.1.2.1 rfl ?_
    refine zV_iald (pc' := 71) (tabL (by omega) (by omega)) (by omega) dX2_greenOf_2.2.1.2.2 (by decide) rfl ?_
    have q70 := hf.at (i := x3 * 16 + r66) (x := r66) (y := x3) ⟨by omega, by omega, by omega, by omega⟩ (by omega)
    have b70 := hfb (r66) (x3) ⟨by omega, by omega, by omega, by omega⟩
    rw [← q70] at b70
    refine zW_iadd (pc' := 72) dX2_greenOf_2.2.2.1.1 rfl ?_
    refine zW_istore (ls' := [_, _, _, _, _, _, _, _, _]) (pc' := 74) dX2_greenOf_2.2.2.1.2 (by decide) rfl rfl rfl ?_
    refine zW_aload (pc' := 76) dX2_greenOf_2.2.2.2.1 rfl rfl ?_
    refine zW_iload_n (pc' := 77) dX2_greenOf_2.2.2.2.2 rfl rfl ?_
    refine zW_iconst (pc' := 78) dX2_greenOf_3.1.1.1.1 rfl ?_
    refine zW_isub (pc' := 79) dX2_greenOf_3.1.1.1.2 rfl ?_
    refine zW_aload_n (pc' := 80) dX2_greenOf_3.1.1.2.1 rfl rfl ?_
    refine zG_ref (pc' := 83) 33 fg_X2_9 tb86 rfl dX2_greenOf_3.1.1.2.2 rfl ?_
    refine zG_key (pc' := 86) hF rfl fg_X2_15 tb33 rfl dX2_greenOf_3.1.2.1.1 rfl ?_
    refine csI2 (pc' := 89) kX11_mirrored vX11_mirrored lk_X2_38 ⟨Nat.le_of_ble_eq_true rfl, Nat.le_of_ble_eq_true rfl⟩ rfl (s_X11_mirroredZ hF _ ⟨by omega, by omega⟩ _ ⟨by omega, by omega⟩ (by omega)) dX2_greenOf_3.1.2.1.2 (Nat.le_of_ble_eq_true rfl) rfl ?_
    rintro r86 z86 ⟨hz86, p86⟩; subst z86
    refine zW_bipush (pc' := 91) dX2_greenOf_3.1.2.2.1 rfl rfl ?_
    refine zW_imul (pc' := 92) dX2_greenOf_3.1.2.2.2 rfl ?_
    refine zW_iload_n (pc' := 93) dX2_greenOf_3.2.1.1.1 rfl rfl ?_
    refine zW_iadd (pc' := 94) dX2_greenOf_3.2.1.1.2 rfl ?_
    refine zV_iald (pc' := 95) (tabL (by omega) (by omega)) (by omega) dX2_greenOf_3.2.1.2.1 (by decide) rfl ?_
    have q94 := hf.at (i := r86 * 16 + x2) (x := x2) (y := r86) ⟨by omega, by omega, by omega, by omega⟩ (by omega)
    have b94 := hfb (x2) (r86) ⟨by omega, by omega, by omega, by omega⟩
    rw [← q94] at b94
    refine zW_aload (pc' := 97) dX2_greenOf_3.2.1.2.2 rfl rfl ?_
    refine zW_iload_n (pc' := 98) dX2_greenOf_3.2.2.1.1 rfl rfl ?_
    refine zW_iconst (pc' := 99) dX2_greenOf_3.2.2.1.2 rfl ?_
    refine zW_iadd (pc' := 100) dX2_greenOf_3.2.2.2.1 rfl ?_
    refine zW_aload_n (pc' := 101) dX2_greenOf_3.2.2.2.2 rfl rfl ?_
    refine zG_ref (pc' := 104) 33 fg_X2_9 tb86 rfl dX2_greenOf_4.1.1.1.1 rfl ?_
    refine zG_key (pc' := 107) hF rfl fg_X2_15 tb33 rfl dX2_greenOf_4.1.1.1.2 rfl ?_
    refine csI2 (pc' := 110) kX11_mirrored vX11_mirrored lk_X2_38 ⟨Nat.le_of_ble_eq_true rfl, Nat.le_of_ble_eq_true rfl⟩ rfl (s_X11_mirroredZ hF _ ⟨by omega, by omega⟩ _ ⟨by omega, by omega⟩ (by omega)) dX2_greenOf_4.1.1.2.1 (Nat.le_of_ble_eq_true rfl) rfl ?_
    rintro r107 z107 ⟨hz107, p107⟩; subst z107
    refine zW_bipush (pc' := 112) dX2_greenOf_4.1.1.2.2 rfl rfl ?_
    refine zW_imul (pc' := 113) dX2_greenOf_4.1.2.1.1 rfl ?_
    refine zW_iload_n (pc' := 114) dX2_greenOf_4.1.2.1.2 rfl rfl ?_
    refine zW_iadd (pc' := 115) dX2_greenOf_4.1.2.2.1 rfl ?_
    refine zV_iald (pc' := 116) (tabL (by omega) (by omega)) (by omega) dX2_greenOf_4.1.2.2.2 (by decide) rfl ?_
    have q115 := hf.at (i := r107 * 16 + x2) (x := x2) (y := r107) ⟨by omega, by omega, by omega, by omega⟩ (by omega)
    have b115 := hfb (x2) (r107) ⟨by omega, by omega, by omega, by omega⟩
    rw [← q115] at b115
    refine zW_iadd (pc' := 117) dX2_greenOf_4.2.1.1.1 rfl ?_
    refine zW_istore (ls' := [_, _, _, _, _, _, _, _, _]) (pc' := 119) dX2_greenOf_4.2.1.1.2 (by decide) rfl rfl rfl ?_
    have ef : h (s1 + 15) (x3 * 16 + r45).toNat + h (s1 + 15) (x3 * 16 + r66).toNat = flt (κ 33 0) f x2 x3 := by unfold flt; rw [← p45.2.2.2, ← p66.2.2.2]; omega
    have eu : h (s1 + 15) (r86 * 16 + x2).toNat + h (s1 + 15) (r107 * 16 + x2).toNat = upr (κ 33 1) f x2 x3 := by unfold upr; rw [← p86.2.2.2, ← p107.2.2.2]; omega
    refine zW_iload (pc' := 121) dX2_greenOf_4.2.1.2.1 rfl rfl ?_
    refine zW_iconst (pc' := 122) dX2_greenOf_4.2.1.2.2 rfl ?_
    refine zV_cm_ne (tgt := 135) (pc' := 125) dX2_greenOf_4.2.2.1.1 rfl rfl ⟨by omega, by omega⟩ ⟨by omega, by omega⟩ (fun c122 => ?_) (fun c122 => ?_)
    · refine zW_iconst (pc' := 136) dX2_greenOf_5.1.1.2.2 rfl ?_
      refine zW_istore (ls' := [_, _, _, _, _, _, _, _, _]) (pc' := 138) dX2_greenOf_5.1.2.1.1 (by decide) rfl rfl rfl ?_
      refine zW_iload (pc' := 140) dX2_greenOf_5.1.2.1.2 rfl rfl ?_
      refine zW_iconst (pc' := 141) dX2_greenOf_5.1.2.2.1 rfl ?_
      refine zV_cm_ne (tgt := 152) (pc' := 144) dX2_greenOf_5.1.2.2.2 rfl rfl ⟨by omega, by omega⟩ ⟨by omega, by omega⟩ (fun c141 => ?_) (fun c141 => ?_)
      · exfalso; omega
      · refine zW_iload (pc' := 146) dX2_greenOf_5.2.1.1.1 rfl rfl ?_
        refine zW_iload (pc' := 148) dX2_greenOf_5.2.1.1.2 rfl rfl ?_
        refine zW_iadd (pc' := 149) dX2_greenOf_5.2.1.2.1 rfl ?_
        refine zW_iconst (pc' := 150) dX2_greenOf_5.2.1.2.2 rfl ?_
        refine zW_idiv (pc' := 151) (by omega) (by omega) dX2_greenOf_5.2.2.1.1 rfl ?_
        exact zV_iret rfl dX2_greenOf_5.2.2.1.2 ⟨rfl, (by unfold grn; unfold cl; rw [if_neg (by omega)]; first | (rw [if_pos (by omega), ← ef, ← eu]; exact ⟨by omega, by omega, rfl⟩) | (rw [if_neg (by omega), if_pos (by omega), ← ef]; exact ⟨by omega, by omega, rfl⟩) | (rw [if_neg (by omega), if_neg (by omega), if_pos (by omega), ← eu]; exact ⟨by omega, by omega, rfl⟩) | (rw [if_neg (by omega), if_neg (by omega), if_neg (by omega), ← ef, ← eu]; exact ⟨by omega, by omega, rfl⟩))⟩
    · refine zW_aload_n (pc' := 126) dX2_greenOf_4.2.2.1.2 rfl rfl ?_
      refine zW_aload_n (pc' := 127) dX2_greenOf_4.2.2.2.1 rfl rfl ?_
      refine zW_iload_n (pc' := 128) dX2_greenOf_4.2.2.2.2 rfl rfl ?_
      refine zW_iload_n (pc' := 129) dX2_greenOf_5.1.1.1.1 rfl rfl ?_
      refine cvI3 (pc' := 132) kX2_wayOf vX2_wayOf lk_X2_74 ⟨Nat.le_of_ble_eq_true rfl, Nat.le_of_ble_eq_true rfl⟩ tb86 vq2 rfl rfl (s_X2_wayOfZ hK hF _ ⟨by omega, by omega⟩ _ ⟨by omega, by omega, by omega⟩ _ ⟨by omega, by omega, by omega⟩ f (by omega) (by omega)) dX2_greenOf_5.1.1.1.2 (Nat.le_of_ble_eq_true rfl) rfl ?_
      rintro r129 z129 ⟨hz129, p129⟩; subst z129
      refine zV_goto 136 dX2_greenOf_5.1.1.2.1 rfl ?_
      refine zW_istore (ls' := [_, _, _, _, _, _, _, _, _]) (pc' := 138) dX2_greenOf_5.1.2.1.1 (by decide) rfl rfl rfl ?_
      refine zW_iload (pc' := 140) dX2_greenOf_5.1.2.1.2 rfl rfl ?_
      refine zW_iconst (pc' := 141) dX2_greenOf_5.1.2.2.1 rfl ?_
      refine zV_cm_ne (tgt := 152) (pc' := 144) dX2_greenOf_5.1.2.2.2 rfl rfl ⟨by omega, by omega⟩ ⟨by omega, by omega⟩ (fun c141 => ?_) (fun c141 => ?_)
      · refine zW_iload (pc' := 154) dX2_greenOf_5.2.2.2.1 rfl rfl ?_
        refine zV_if_ne (tgt := 164) (pc' := 157) dX2_greenOf_5.2.2.2.2 rfl rfl ⟨by omega, by omega⟩ (fun c154 => ?_) (fun c154 => ?_)
        · refine zW_iload (pc' := 166) dX2_greenOf_6.2.1.1 rfl rfl ?_
          refine zW_iconst (pc' := 167) dX2_greenOf_6.2.1.2 rfl ?_
          refine zW_idiv (pc' := 168) (by omega) (by omega) dX2_greenOf_6.2.2.1 rfl ?_
          exact zV_iret rfl dX2_greenOf_6.2.2.2 ⟨rfl, (by unfold grn; unfold cl; rw [if_neg (by omega)]; first | (rw [if_pos (by omega), ← ef, ← eu]; exact ⟨by omega, by omega, rfl⟩) | (rw [if_neg (by omega), if_pos (by omega), ← ef]; exact ⟨by omega, by omega, rfl⟩) | (rw [if_neg (by omega), if_neg (by omega), if_pos (by omega), ← eu]; exact ⟨by omega, by omega, rfl⟩) | (rw [if_neg (by omega), if_neg (by omega), if_neg (by omega), ← ef, ← eu]; exact ⟨by omega, by omega, rfl⟩))⟩
        · refine zW_iload (pc' := 159) dX2_greenOf_6.1.1.1 rfl rfl ?_
          refine zW_iconst (pc' := 160) dX2_greenOf_6.1.1.2 rfl ?_
          refine zW_idiv (pc' := 161) (by omega) (by omega) dX2_greenOf_6.1.2.1 rfl ?_
          refine zV_goto 168 dX2_greenOf_6.1.2.2 rfl ?_
          exact zV_iret rfl dX2_greenOf_6.2.2.2 ⟨rfl, (by unfold grn; unfold cl; rw [if_neg (by omega)]; first | (rw [if_pos (by omega), ← ef, ← eu]; exact ⟨by omega, by omega, rfl⟩) | (rw [if_neg (by omega), if_pos (by omega), ← ef]; exact ⟨by omega, by omega, rfl⟩) | (rw [if_neg (by omega), if_neg (by omega), if_pos (by omega), ← eu]; exact ⟨by omega, by omega, rfl⟩) | (rw [if_neg (by omega), if_neg (by omega), if_neg (by omega), ← ef, ← eu]; exact ⟨by omega, by omega, rfl⟩))⟩
      · refine zW_iload (pc' := 146) dX2_greenOf_5.2.1.1.1 rfl rfl ?_
        refine zW_iload (pc' := 148) dX2_greenOf_5.2.1.1.2 rfl rfl ?_
        refine zW_iadd (pc' := 149) dX2_greenOf_5.2.1.2.1 rfl ?_
        refine zW_iconst (pc' := 150) dX2_greenOf_5.2.1.2.2 rfl ?_
        refine zW_idiv (pc' := 151) (by omega) (by omega) dX2_greenOf_5.2.2.1.1 rfl ?_
        exact zV_iret rfl dX2_greenOf_5.2.2.1.2 ⟨rfl, (by unfold grn; unfold cl; rw [if_neg (by omega)]; first | (rw [if_pos (by omega), ← ef, ← eu]; exact ⟨by omega, by omega, rfl⟩) | (rw [if_neg (by omega), if_pos (by omega), ← ef]; exact ⟨by omega, by omega, rfl⟩) | (rw [if_neg (by omega), if_neg (by omega), if_pos (by omega), ← eu]; exact ⟨by omega, by omega, rfl⟩) | (rw [if_neg (by omega), if_neg (by omega), if_neg (by omega), ← ef, ← eu]; exact ⟨by omega, by omega, rfl⟩))⟩
  · refine zW_aload (pc' := 21) dX2_greenOf_0.2.1.2.1 rfl rfl ?_
    refine zW_iload_n (pc' := 22) dX2_greenOf_0.2.1.2.2 rfl rfl ?_
    refine zW_bipush (pc' := 24) dX2_greenOf_0.2.2.1.1 rfl rfl ?_
    refine zW_imul (pc' := 25) dX2_greenOf_0.2.2.1.2 rfl ?_
    refine zW_iload_n (pc' := 26) dX2_greenOf_0.2.2.2.1 rfl rfl ?_
    refine zW_iadd (pc' := 27) dX2_greenOf_0.2.2.2.2 rfl ?_
    refine zV_iald (pc' := 28) (tabL (by omega) (by omega)) (by omega) dX2_greenOf_1.1.1.1.1 (by decide) rfl ?_
    have q27 := hf.at (i := x3 * 16 + x2) (x := x2) (y := x3) ⟨by omega, by omega, by omega, by omega⟩ (by omega)
    have b27 := hfb (x2) (x3) ⟨by omega, by omega, by omega, by omega⟩
    rw [← q27] at b27
    exact zV_iret rfl dX2_greenOf_1.1.1.1.2 ⟨rfl, (by unfold grn; rw [if_pos (by unfold cl; omega)]; exact ⟨by omega, by omega, q27⟩)⟩

abbrev q_X2_aboveGreenZ (κ h : Hp) (s1 : Nat) (s2 : Nat) (x3 : Int) (x4 : Int) (f : Int → Int → Int) (g : Int → Int → Int) : Int → Hp → Prop := fun r h' => h' = h ∧ ((-4095 ≤ r) ∧ (r ≤ 4095) ∧ (r = ovr (κ 33 0) (κ 33 1) f g x3 x4))
set_option maxHeartbeats 4000000 in
set_option maxRecDepth 20000 in
theorem s_X2_aboveGreenZ {G : Ga} {b : Bd} {κ h : Hp} (hK : KC κ) (hF : Fr b κ h) (s1 : Nat) (hs1 : 56 ≤ s1 ∧ s1 ≤ 70) (s2 : Nat) (hs2 : 56 ≤ s2 ∧ s2 ≤ 70) (x3 : Int) (hx3 : -2 ≤ x3 ∧ x3 ≤ 17 ∧ x3 - κ 33 0 ≤ 1) (x4 : Int) (hx4 : -2 ≤ x4 ∧ x4 ≤ 17 ∧ x4 - κ 33 1 ≤ 1) (f : Int → Int → Int) (g : Int → Int → Int) (hf : ShE (κ 33 0) (κ 33 1) (h (s1 + 15)) f) (hfb : FB (κ 33 0) (κ 33 1) f) (hg : PlS (κ 33 0) (κ 33 1) (h (s2 + 15)) 1 g) (hgb : FB (κ 33 0) (κ 33 1) g) : zM G mX2_aboveGreen yX2_aboveGreen [.inr (.inr 86), .inr (.inr s1), .inr (.inr s2), .inl x3, .inl x4] h (q_X2_aboveGreenZ κ h s1 s2 x3 x4 f g) := by
  have f_33_0 := KCw hK
  have f_33_1 := KCh hK
  refine zM_of [some (.inr (.inr 86)), some (.inr (.inr s1)), some (.inr (.inr s2)), some (.inl x3), some (.inl x4), none] 1 rfl rfl (Nat.le_of_ble_eq_true rfl) rfl ?_
  refine zW_iload (pc' := 2) dX2_aboveGreen_0.1.1.1.1 rfl rfl ?_
  refine zW_aload_n (pc' := 3) dX2_aboveGreen_0.1.1.1.2 rfl rfl ?_
  refine zG_ref (pc' := 6) 33 fg_X2_9 tb86 rfl dX2_aboveGreen_0.1.1.2.1 rfl ?_
  refine zG_key (pc' := 9) hF rfl fg_X2_15 tb33 rfl dX2_aboveGreen_0.1.1.2.2 rfl ?_
  refine csI2 (pc' := 12) kX11_mirrored vX11_mirrored lk_X2_38 ⟨Nat.le_of_ble_eq_true rfl, Nat.le_of_ble_eq_true rfl⟩ rfl (s_X11_mirroredZ hF _ ⟨by omega, by omega⟩ _ ⟨by omega, by omega⟩ (by omega)) dX2_aboveGreen_0.1.2.1.1 (Nat.le_of_ble_eq_true rfl) rfl ?_
  rintro r9 z9 ⟨hz9, p9⟩; subst z9
  refine zW_bipush (pc' := 14) dX2_aboveGreen_0.1.2.1.2 rfl rfl ?_
  refine zW_imul (pc' := 15) dX2_aboveGreen_0.1.2.2.1 rfl ?_
  refine zW_iload_n (pc' := 16) dX2_aboveGreen_0.1.2.2.2 rfl rfl ?_
  refine zW_aload_n (pc' := 17) dX2_aboveGreen_0.2.1.1.1 rfl rfl ?_
  refine zG_ref (pc' := 20) 33 fg_X2_9 tb86 rfl dX2_aboveGreen_0.2.1.1.2 rfl ?_
  refine zG_key (pc' := 23) hF rfl fg_X2_21 tb33 rfl dX2_aboveGreen_0.2.1.2.1 rfl ?_
  refine csI2 (pc' := 26) kX11_mirrored vX11_mirrored lk_X2_38 ⟨Nat.le_of_ble_eq_true rfl, Nat.le_of_ble_eq_true rfl⟩ rfl (s_X11_mirroredZ hF _ ⟨by omega, by omega⟩ _ ⟨by omega, by omega⟩ (by omega)) dX2_aboveGreen_0.2.1.2.2 (Nat.le_of_ble_eq_true rfl) rfl ?_
  rintro r23 z23 ⟨hz23, p23⟩; subst z23
  refine zW_iadd (pc' := 27) dX2_aboveGreen_0.2.2.1.1 rfl ?_
  refine zW_istore (ls' := [_, _, _, _, _, _]) (pc' := 29) dX2_aboveGreen_0.2.2.1.2 (by decide) rfl rfl rfl ?_
  refine zW_aload_n (pc' := 30) dX2_aboveGreen_0.2.2.2.1 rfl rfl ?_
  refine zG_lev (pc' := 33) (by omega) (by omega) fg_X2_24 dX2_aboveGreen_0.2.2.2.2 rfl ?_
  refine zW_iload (pc' := 35) dX2_aboveGreen_1.1.1.1.1 rfl rfl ?_
  refine zV_iald (pc' := 36) (tabL (by omega) (by omega)) (by omega) dX2_aboveGreen_1.1.1.1.2 (by decide) rfl ?_
  have q35 := hf.at (i := r9 * 16 + r23) (x := r23) (y := r9) ⟨by omega, by omega, by omega, by omega⟩ (by omega)
  have b35 := hfb (r23) (r9) ⟨by omega, by omega, by omega, by omega⟩
  rw [← q35] at b35
  refine zW_aload_n (pc' := 37) dX2_aboveGreen_1.1.1.2 rfl rfl ?_
  refine zG_lev (pc' := 40) (by omega) (by omega) fg_X2_24 dX2_aboveGreen_1.1.2.1 rfl ?_
  refine zW_sipush (pc' := 43) dX2_aboveGreen_1.1.2.2 rfl rfl ?_
  refine zW_iload (pc' := 45) dX2_aboveGreen_1.2.1.1.1 rfl rfl ?_
  refine zW_iadd (pc' := 46) dX2_aboveGreen_1.2.1.1.2 rfl ?_
  refine zV_iald (pc' := 47) (tabL (by omega) (by omega)) (by omega) dX2_aboveGreen_1.2.1.2 (by decide) rfl ?_
  have q46 := hg.at (i := 256 + (r9 * 16 + r23)) (x := r23) (y := r9) ⟨by omega, by omega, by omega, by omega⟩ (by omega)
  have b46 := hgb (r23) (r9) ⟨by omega, by omega, by omega, by omega⟩
  rw [← q46] at b46
  refine zW_isub (pc' := 48) dX2_aboveGreen_1.2.2.1 rfl ?_
  exact zV_iret rfl dX2_aboveGreen_1.2.2.2 ⟨rfl, ⟨by omega, by omega, by unfold ovr; rw [← p9.2.2.2, ← p23.2.2.2]; omega⟩⟩

abbrev q_X2_fillRedAndBlueZ (b : Bd) (κ : Hp) (s1 : Nat) (s2 : Nat) (x3 : Int) (x4 : Int) (f : Int → Int → Int) (g : Int → Int → Int) (gh0 : Hp) : Int → Hp → Prop := fun r h' => Fr b κ h' ∧ ((Fw [(s2 + 15)] [] gh0 h') ∧ (PlS (κ 33 0) (κ 33 1) (h' (s2 + 15)) 1 g ∧ PlSu (κ 33 0) (κ 33 1) (h' (s2 + 15)) 0 (otg (κ 33 0) (κ 33 1) (κ 33 2) f g 0) (x3 + 1) x4 ∧ PlSu (κ 33 0) (κ 33 1) (h' (s2 + 15)) 2 (otg (κ 33 0) (κ 33 1) (κ 33 2) f g 2) (x3 + 1) x4))
set_option maxHeartbeats 4000000 in
set_option maxRecDepth 20000 in
theorem s_X2_fillRedAndBlueZ {G : Ga} {b : Bd} {κ h : Hp} (hK : KC κ) (hF : Fr b κ h) (s1 : Nat) (hs1 : 56 ≤ s1 ∧ s1 ≤ 70) (s2 : Nat) (hs2 : 56 ≤ s2 ∧ s2 ≤ 70) (x3 : Int) (hx3 : 0 ≤ x3 ∧ x3 ≤ 15 ∧ x3 - κ 33 0 ≤ -1) (x4 : Int) (hx4 : 0 ≤ x4 ∧ x4 ≤ 15 ∧ x4 - κ 33 1 ≤ -1) (f : Int → Int → Int) (g : Int → Int → Int) (gh0 : Hp) (hto : OkL b (s2 + 15)) (hne : s1 ≠ s2) (hf : ShE (κ 33 0) (κ 33 1) (h (s1 + 15)) f) (hfb : FB (κ 33 0) (κ 33 1) f) (hg : PlS (κ 33 0) (κ 33 1) (h (s2 + 15)) 1 g) (hgb : FB (κ 33 0) (κ 33 1) g) (h00 : PlSu (κ 33 0) (κ 33 1) (h (s2 + 15)) 0 (otg (κ 33 0) (κ 33 1) (κ 33 2) f g 0) x3 x4) (h02 : PlSu (κ 33 0) (κ 33 1) (h (s2 + 15)) 2 (otg (κ 33 0) (κ 33 1) (κ 33 2) f g 2) x3 x4) (hgh : Fw [(s2 + 15)] [] gh0 h) : zM G mX2_fillRedAndBlue yX2_fillRedAndBlue [.inr (.inr 86), .inr (.inr s1), .inr (.inr s2), .inl x3, .inl x4] h (q_X2_fillRedAndBlueZ b κ s1 s2 x3 x4 f g gh0) := by
  have f_33_0 := KCw hK
  have f_33_1 := KCh hK
  have f_33_2 := KCp hK
  refine zM_of [some (.inr (.inr 86)), some (.inr (.inr s1)), some (.inr (.inr s2)), some (.inl x3), some (.inl x4), none, none, none, none, none, none] 6 rfl rfl (Nat.le_of_ble_eq_true rfl) rfl ?_
  refine zW_iload (pc' := 2) dX2_fillRedAndBlue_0.1.1.1.1 rfl rfl ?_
  refine zW_bipush (pc' := 4) dX2_fillRedAndBlue_0.1.1.1.2 rfl rfl ?_
  refine zW_imul (pc' := 5) dX2_fillRedAndBlue_0.1.1.2.1 rfl ?_
  refine zW_iload_n (pc' := 6) dX2_fillRedAndBlue_0.1.1.2.2 rfl rfl ?_
  refine zW_iadd (pc' := 7) dX2_fillRedAndBlue_0.1.2.1.1 rfl ?_
  refine zW_istore (ls' := [_, _, _, _, _, _, _, _, _, _, _]) (pc' := 9) dX2_fillRedAndBlue_0.1.2.1.2 (by decide) rfl rfl rfl ?_
  refine zW_aload_n (pc' := 10) dX2_fillRedAndBlue_0.1.2.2.1 rfl rfl ?_
  refine zG_ref (pc' := 13) 33 fg_X2_9 tb86 rfl dX2_fillRedAndBlue_0.1.2.2.2 rfl ?_
  refine zW_iload_n (pc' := 14) dX2_fillRedAndBlue_0.2.1.1.1 rfl rfl ?_
  refine zW_iload (pc' := 16) dX2_fillRedAndBlue_0.2.1.1.2 rfl rfl ?_
  refine cvI2 (pc' := 19) kX5_colourOf vX5_colourOf lk_X2_71 ⟨Nat.le_of_ble_eq_true rfl, Nat.le_of_ble_eq_true rfl⟩ tb33 vq5 rfl rfl (s_X5_colourOfZ hK hF _ ⟨by omega, by omega⟩ _ ⟨by omega, by omega⟩) dX2_fillRedAndBlue_0.2.1.2.1 (Nat.le_of_ble_eq_true rfl) rfl ?_
  rintro r16 z16 ⟨hz16, p16⟩; subst z16
  refine zW_istore (ls' := [_, _, _, _, _, _, _, _, _, _, _]) (pc' := 21) dX2_fillRedAndBlue_0.2.1.2.2 (by decide) rfl rfl rfl ?_
  refine zW_aload_n (pc' := 22) dX2_fillRedAndBlue_0.2.2.1.1 rfl rfl ?_
  refine zG_lev (pc' := 25) (by omega) (by omega) fg_X2_24 dX2_fillRedAndBlue_0.2.2.1.2 rfl ?_
  refine zW_sipush (pc' := 28) dX2_fillRedAndBlue_0.2.2.2.1 rfl rfl ?_
  refine zW_iload (pc' := 30) dX2_fillRedAndBlue_0.2.2.2.2 rfl rfl ?_
  refine zW_iadd (pc' := 31) dX2_fillRedAndBlue_1.1.1.1.1 rfl ?_
  refine zV_iald (pc' := 32) (tabL (by omega) (by omega)) (by omega) dX2_fillRedAndBlue_1.1.1.1.2 (by decide) rfl ?_
  have q31 := hg.at (i := 256 + (x4 * 16 + x3)) (x := x3) (y := x4) ⟨by omega, by omega, by omega, by omega⟩ (by omega)
  have b31 := hgb (x3) (x4) ⟨by omega, by omega, by omega, by omega⟩
  rw [← q31] at b31
  have ec0 : cl (κ 33 2) x3 x4 = r16 := by unfold cl; omega
  refine zW_istore (ls' := [_, _, _, _, _, _, _, _, _, _, _]) (pc' := 34) dX2_fillRedAndBlue_1.1.1.2.1 (by decide) rfl rfl rfl ?_
  refine zW_iload (pc' := 36) dX2_fillRedAndBlue_1.1.1.2.2 rfl rfl ?_
  refine zW_iconst (pc' := 37) dX2_fillRedAndBlue_1.1.2.1.1 rfl ?_
  refine zV_cm_ne (tgt := 157) (pc' := 40) dX2_fillRedAndBlue_1.1.2.1.2 rfl rfl ⟨by omega, by omega⟩ ⟨by omega, by omega⟩ (fun c37 => ?_) (fun c37 => ?_)
  · refine zW_aload_n (pc' := 158) dX2_fillRedAndBlue_6.1.1.1.2 rfl rfl ?_
    refine zW_aload_n (pc' := 159) dX2_fillRedAndBlue_6.1.1.2.1 rfl rfl ?_
    refine zW_aload_n (pc' := 160) dX2_fillRedAndBlue_6.1.1.2.2 rfl rfl ?_
    refine zW_iload_n (pc' := 161) dX2_fillRedAndBlue_6.1.2.1.1 rfl rfl ?_
    refine zW_iconst (pc' := 162) dX2_fillRedAndBlue_6.1.2.1.2 rfl ?_
    refine zW_isub (pc' := 163) dX2_fillRedAndBlue_6.1.2.2.1 rfl ?_
    refine zW_iload (pc' := 165) dX2_fillRedAndBlue_6.1.2.2.2 rfl rfl ?_
    refine zW_iconst (pc' := 166) dX2_fillRedAndBlue_6.2.1.1.1 rfl ?_
    refine zW_isub (pc' := 167) dX2_fillRedAndBlue_6.2.1.1.2 rfl ?_
    refine cvI4 (pc' := 170) kX2_aboveGreen vX2_aboveGreen lk_X2_77 ⟨Nat.le_of_ble_eq_true rfl, Nat.le_of_ble_eq_true rfl⟩ tb86 vq2 rfl rfl (s_X2_aboveGreenZ hK hF _ ⟨by omega, by omega⟩ _ ⟨by omega, by omega⟩ _ ⟨by omega, by omega, by omega⟩ _ ⟨by omega, by omega, by omega⟩ f g (by omega) (by omega) hg (by omega)) dX2_fillRedAndBlue_6.2.1.2.1 (Nat.le_of_ble_eq_true rfl) rfl ?_
    rintro r167 z167 ⟨hz167, p167⟩; subst z167
    refine zW_aload_n (pc' := 171) dX2_fillRedAndBlue_6.2.1.2.2 rfl rfl ?_
    refine zW_aload_n (pc' := 172) dX2_fillRedAndBlue_6.2.2.1.1 rfl rfl ?_
    refine zW_aload_n (pc' := 173) dX2_fillRedAndBlue_6.2.2.1.2 rfl rfl ?_
    refine zW_iload_n (pc' := 174) dX2_fillRedAndBlue_6.2.2.2.1 rfl rfl ?_
    refine zW_iconst (pc' := 175) dX2_fillRedAndBlue_6.2.2.2.2 rfl ?_
    refine zW_iadd (pc' := 176) dX2_fillRedAndBlue_7.1.1.1.1 rfl ?_
    refine zW_iload (pc' := 178) dX2_fillRedAndBlue_7.1.1.1.2 rfl rfl ?_
    refine zW_iconst (pc' := 179) dX2_fillRedAndBlue_7.1.1.2.1 rfl ?_
    refine zW_isub (pc' := 180) dX2_fillRedAndBlue_7.1.1.2.2 rfl ?_
    refine cvI4 (pc' := 183) kX2_aboveGreen vX2_aboveGreen lk_X2_77 ⟨Nat.le_of_ble_eq_true rfl, Nat.le_of_ble_eq_true rfl⟩ tb86 vq2 rfl rfl (s_X2_aboveGreenZ hK hF _ ⟨by omega, by omega⟩ _ ⟨by omega, by omega⟩ _ ⟨by omega, by omega, by omega⟩ _ ⟨by omega, by omega, by omega⟩ f g (by omega) (by omega) hg (by omega)) dX2_fillRedAndBlue_7.1.2.1.1 (Nat.le_of_ble_eq_true rfl) rfl ?_
    rintro r180 z180 ⟨hz180, p180⟩; subst z180
    refine zW_iadd (pc' := 184) dX2_fillRedAndBlue_7.1.2.1.2 rfl ?_
    refine zW_aload_n (pc' := 185) dX2_fillRedAndBlue_7.1.2.2.1 rfl rfl ?_
    refine zW_aload_n (pc' := 186) dX2_fillRedAndBlue_7.1.2.2.2 rfl rfl ?_
    refine zW_aload_n (pc' := 187) dX2_fillRedAndBlue_7.2.1.1.1 rfl rfl ?_
    refine zW_iload_n (pc' := 188) dX2_fillRedAndBlue_7.2.1.1.2 rfl rfl ?_
    refine zW_iconst (pc' := 189) dX2_fillRedAndBlue_7.2.1.2.1 rfl ?_
    refine zW_isub (pc' := 190) dX2_fillRedAndBlue_7.2.1.2.2 rfl ?_
    refine zW_iload (pc' := 192) dX2_fillRedAndBlue_7.2.2.1.1 rfl rfl ?_
    refine zW_iconst (pc' := 193) dX2_fillRedAndBlue_7.2.2.1.2 rfl ?_
    refine zW_iadd (pc' := 194) dX2_fillRedAndBlue_7.2.2.2.1 rfl ?_
    refine cvI4 (pc' := 197) kX2_aboveGreen vX2_aboveGreen lk_X2_77 ⟨Nat.le_of_ble_eq_true rfl, Nat.le_of_ble_eq_true rfl⟩ tb86 vq2 rfl rfl (s_X2_aboveGreenZ hK hF _ ⟨by omega, by omega⟩ _ ⟨by omega, by omega⟩ _ ⟨by omega, by omega, by omega⟩ _ ⟨by omega, by omega, by omega⟩ f g (by omega) (by omega) hg (by omega)) dX2_fillRedAndBlue_7.2.2.2.2 (Nat.le_of_ble_eq_true rfl) rfl ?_
    rintro r194 z194 ⟨hz194, p194⟩; subst z194
    refine zW_iadd (pc' := 198) dX2_fillRedAndBlue_8.1.1.1.1 rfl ?_
    refine zW_aload_n (pc' := 199) dX2_fillRedAndBlue_8.1.1.1.2 rfl rfl ?_
    refine zW_aload_n (pc' := 200) dX2_fillRedAndBlue_8.1.1.2.1 rfl rfl ?_
    refine zW_aload_n (pc' := 201) dX2_fillRedAndBlue_8.1.1.2.2 rfl rfl ?_
    refine zW_iload_n (pc' := 202) dX2_fillRedAndBlue_8.1.2.1.1 rfl rfl ?_
    refine zW_iconst (pc' := 203) dX2_fillRedAndBlue_8.1.2.1.2 rfl ?_
    refine zW_iadd (pc' := 204) dX2_fillRedAndBlue_8.1.2.2.1 rfl ?_
    refine zW_iload (pc' := 206) dX2_fillRedAndBlue_8.1.2.2.2 rfl rfl ?_
    refine zW_iconst (pc' := 207) dX2_fillRedAndBlue_8.2.1.1.1 rfl ?_
    refine zW_iadd (pc' := 208) dX2_fillRedAndBlue_8.2.1.1.2 rfl ?_
    refine cvI4 (pc' := 211) kX2_aboveGreen vX2_aboveGreen lk_X2_77 ⟨Nat.le_of_ble_eq_true rfl, Nat.le_of_ble_eq_true rfl⟩ tb86 vq2 rfl rfl (s_X2_aboveGreenZ hK hF _ ⟨by omega, by omega⟩ _ ⟨by omega, by omega⟩ _ ⟨by omega, by omega, by omega⟩ _ ⟨by omega, by omega, by omega⟩ f g (by omega) (by omega) hg (by omega)) dX2_fillRedAndBlue_8.2.1.2.1 (Nat.le_of_ble_eq_true rfl) rfl ?_
    rintro r208 z208 ⟨hz208, p208⟩; subst z208
    refine zW_iadd (pc' := 212) dX2_fillRedAndBlue_8.2.1.2.2 rfl ?_
    refine zW_istore (ls' := [_, _, _, _, _, _, _, _, _, _, _]) (pc' := 214) dX2_fillRedAndBlue_8.2.2.1.1 (by decide) rfl rfl rfl ?_
    have tdd := tdc (a := r167 + r180 + r194 + r208) (d := 4) (by omega)
    refine zW_aload_n (pc' := 215) dX2_fillRedAndBlue_8.2.2.1.2 rfl rfl ?_
    refine zG_lev (pc' := 218) (by omega) (by omega) fg_X2_24 dX2_fillRedAndBlue_8.2.2.2.1 rfl ?_
    refine zW_iload (pc' := 220) dX2_fillRedAndBlue_8.2.2.2.2 rfl rfl ?_
    refine zW_sipush (pc' := 223) dX2_fillRedAndBlue_9.1.1.1.1 rfl rfl ?_
    refine zW_imul (pc' := 224) dX2_fillRedAndBlue_9.1.1.1.2 rfl ?_
    refine zW_iload (pc' := 226) dX2_fillRedAndBlue_9.1.1.2.1 rfl rfl ?_
    refine zW_iadd (pc' := 227) dX2_fillRedAndBlue_9.1.1.2.2 rfl ?_
    refine zW_aload_n (pc' := 228) dX2_fillRedAndBlue_9.1.2.1.1 rfl rfl ?_
    refine zG_lev (pc' := 231) (by omega) (by omega) fg_X2_24 dX2_fillRedAndBlue_9.1.2.1.2 rfl ?_
    refine zW_iload (pc' := 233) dX2_fillRedAndBlue_9.1.2.2.1 rfl rfl ?_
    refine zV_iald (pc' := 234) (tabL (by omega) (by omega)) (by omega) dX2_fillRedAndBlue_9.1.2.2.2 (by decide) rfl ?_
    have q233 := hf.at (i := x4 * 16 + x3) (x := x3) (y := x4) ⟨by omega, by omega, by omega, by omega⟩ (by omega)
    have b233 := hfb x3 x4 ⟨by omega, by omega, by omega, by omega⟩
    rw [← q233] at b233
    refine zS_lv (pc' := 235) hF (by omega) (by omega) hto (by omega) dX2_fillRedAndBlue_9.2.1.1.1 rfl (fun h i234 hF a234 b234 w234 => ?_)
    replace b234 := b234 ⟨by omega, by omega⟩
    replace hgh : Fw [(s2 + 15)] [] gh0 h := by rw [w234]; exact hgh.wc (by simp)
    replace hf : ShE (κ 33 0) (κ 33 1) (h (s1 + 15)) f := by have q0_ := (congrFun w234 (s1 + 15)).trans (zfun (by omega)); rw [q0_]; exact hf
    have hg1 : PlS (κ 33 0) (κ 33 1) (h (s2 + 15)) 1 g := by rw [w234]; exact hg.w (by omega) (by omega) (by omega) (by omega)
    have ha0 : (r16 = 0 → PlSu (κ 33 0) (κ 33 1) (h (s2 + 15)) 0 (otg (κ 33 0) (κ 33 1) (κ 33 2) f g 0) (x3 + 1) x4) ∧ (¬ r16 = 0 → PlSu (κ 33 0) (κ 33 1) (h (s2 + 15)) 0 (otg (κ 33 0) (κ 33 1) (κ 33 2) f g 0) x3 x4) := ⟨fun q => by rw [w234, b234]; exact PlSu.nx (by omega) (by omega) ⟨by omega, by omega, by omega, by omega⟩ h00 (by omega) (by unfold otg; rw [ec0, if_pos (by omega)]; exact q233), fun q => by rw [w234]; exact h00.w (by omega) (by omega) (by omega) (by omega)⟩
    have ha2 : (r16 = 2 → PlSu (κ 33 0) (κ 33 1) (h (s2 + 15)) 2 (otg (κ 33 0) (κ 33 1) (κ 33 2) f g 2) (x3 + 1) x4) ∧ (¬ r16 = 2 → PlSu (κ 33 0) (κ 33 1) (h (s2 + 15)) 2 (otg (κ 33 0) (κ 33 1) (κ 33 2) f g 2) x3 x4) := ⟨fun q => by rw [w234, b234]; exact PlSu.nx (by omega) (by omega) ⟨by omega, by omega, by omega, by omega⟩ h02 (by omega) (by unfold otg; rw [ec0, if_pos (by omega)]; exact q233), fun q => by rw [w234]; exact h02.w (by omega) (by omega) (by omega) (by omega)⟩
    refine zW_aload_n (pc' := 236) dX2_fillRedAndBlue_9.2.1.1.2 rfl rfl ?_
    refine zG_lev (pc' := 239) (by omega) (by omega) fg_X2_24 dX2_fillRedAndBlue_9.2.1.2.1 rfl ?_
    refine zW_iconst (pc' := 240) dX2_fillRedAndBlue_9.2.1.2.2 rfl ?_
    refine zW_iload (pc' := 242) dX2_fillRedAndBlue_9.2.2.1.1 rfl rfl ?_
    refine zW_isub (pc' := 243) dX2_fillRedAndBlue_9.2.2.1.2 rfl ?_
    refine zW_sipush (pc' := 246) dX2_fillRedAndBlue_9.2.2.2.1 rfl rfl ?_
    refine zW_imul (pc' := 247) dX2_fillRedAndBlue_9.2.2.2.2 rfl ?_
    refine zW_iload (pc' := 249) dX2_fillRedAndBlue_10.1.1.1.1 rfl rfl ?_
    refine zW_iadd (pc' := 250) dX2_fillRedAndBlue_10.1.1.1.2 rfl ?_
    refine zW_iload (pc' := 252) dX2_fillRedAndBlue_10.1.1.2 rfl rfl ?_
    refine zW_iload (pc' := 254) dX2_fillRedAndBlue_10.1.2.1 rfl rfl ?_
    refine zW_iconst (pc' := 255) dX2_fillRedAndBlue_10.1.2.2 rfl ?_
    refine zW_idivS (pc' := 256) ⟨by omega, by omega⟩ (by omega) dX2_fillRedAndBlue_10.2.1.1.1 rfl (fun v255 e255 => ?_)
    refine zW_iadd (pc' := 257) dX2_fillRedAndBlue_10.2.1.1.2 rfl ?_
    refine csI1 (pc' := 260) kX11_clipped vX11_clipped lk_X2_30 ⟨Nat.le_of_ble_eq_true rfl, Nat.le_of_ble_eq_true rfl⟩ rfl (s_X11_clippedZ hF _ ⟨by omega, by omega⟩) dX2_fillRedAndBlue_10.2.1.2 (Nat.le_of_ble_eq_true rfl) rfl ?_
    rintro r257 z257 ⟨hz257, p257⟩; subst z257
    refine zS_lv (pc' := 261) hF (by omega) (by omega) hto (by omega) dX2_fillRedAndBlue_10.2.2.1 rfl (fun h i260 hF a260 b260 w260 => ?_)
    replace b260 := b260 ⟨by omega, by omega⟩
    replace hgh : Fw [(s2 + 15)] [] gh0 h := by rw [w260]; exact hgh.wc (by simp)
    replace hf : ShE (κ 33 0) (κ 33 1) (h (s1 + 15)) f := by have q0_ := (congrFun w260 (s1 + 15)).trans (zfun (by omega)); rw [q0_]; exact hf
    exact zV_vret rfl dX2_fillRedAndBlue_10.2.2.2 ⟨hF, ⟨hgh, (by first | exact ⟨hg2, hb0, hb2⟩ | (refine ⟨by rw [w260]; exact hg1.w (by omega) (by omega) (by omega) (by omega), ?_, ?_⟩; (by_cases q : r16 = 0; (rw [w260]; exact (ha0.1 q).w (by omega) (by omega) (by omega) (by omega)); (rw [w260, b260]; exact PlSu.nx (by omega) (by omega) ⟨by omega, by omega, by omega, by omega⟩ (ha0.2 q) (by omega) (by unfold otg; rw [ec0, if_neg (by omega), if_pos (by omega), ← p167.2.2, ← p180.2.2, ← p194.2.2, ← p208.2.2, ← q31, show (r167 + r180 + r194 + r208).tdiv 4 = v255 by omega]; exact p257.2.2))); (by_cases q : r16 = 2; (rw [w260]; exact (ha2.1 q).w (by omega) (by omega) (by omega) (by omega)); (rw [w260, b260]; exact PlSu.nx (by omega) (by omega) ⟨by omega, by omega, by omega, by omega⟩ (ha2.2 q) (by omega) (by unfold otg; rw [ec0, if_neg (by omega), if_pos (by omega), ← p167.2.2, ← p180.2.2, ← p194.2.2, ← p208.2.2, ← q31, show (r167 + r180 + r194 + r208).tdiv 4 = v255 by omega]; exact p257.2.2)))))⟩⟩
  · refine zW_aload_n (pc' := 41) dX2_fillRedAndBlue_1.1.2.2.1 rfl rfl ?_
    refine zW_aload_n (pc' := 42) dX2_fillRedAndBlue_1.1.2.2.2 rfl rfl ?_
    refine zW_aload_n (pc' := 43) dX2_fillRedAndBlue_1.2.1.1.1 rfl rfl ?_
    refine zW_iload_n (pc' := 44) dX2_fillRedAndBlue_1.2.1.1.2 rfl rfl ?_
    refine zW_iconst (pc' := 45) dX2_fillRedAndBlue_1.2.1.2.1 rfl ?_
    refine zW_isub (pc' := 46) dX2_fillRedAndBlue_1.2.1.2.2 rfl ?_
    refine zW_iload (pc' := 48) dX2_fillRedAndBlue_1.2.2.1.1 rfl rfl ?_
    refine cvI4 (pc' := 51) kX2_aboveGreen vX2_aboveGreen lk_X2_77 ⟨Nat.le_of_ble_eq_true rfl, Nat.le_of_ble_eq_true rfl⟩ tb86 vq2 rfl rfl (s_X2_aboveGreenZ hK hF _ ⟨by omega, by omega⟩ _ ⟨by omega, by omega⟩ _ ⟨by omega, by omega, by omega⟩ _ ⟨by omega, by omega, by omega⟩ f g (by omega) (by omega) hg (by omega)) dX2_fillRedAndBlue_1.2.2.1.2 (Nat.le_of_ble_eq_true rfl) rfl ?_
    rintro r48 z48 ⟨hz48, p48⟩; subst z48
    refine zW_aload_n (pc' := 52) dX2_fillRedAndBlue_1.2.2.2.1 rfl rfl ?_
    refine zW_aload_n (pc' := 53) dX2_fillRedAndBlue_1.2.2.2.2 rfl rfl ?_
    refine zW_aload_n (pc' := 54) dX2_fillRedAndBlue_2.1.1.1.1 rfl rfl ?_
    refine zW_iload_n (pc' := 55) dX2_fillRedAndBlue_2.1.1.1.2 rfl rfl ?_
    refine zW_iconst (pc' := 56) dX2_fillRedAndBlue_2.1.1.2.1 rfl ?_
    refine zW_iadd (pc' := 57) dX2_fillRedAndBlue_2.1.1.2.2 rfl ?_
    refine zW_iload (pc' := 59) dX2_fillRedAndBlue_2.1.2.1.1 rfl rfl ?_
    refine cvI4 (pc' := 62) kX2_aboveGreen vX2_aboveGreen lk_X2_77 ⟨Nat.le_of_ble_eq_true rfl, Nat.le_of_ble_eq_true rfl⟩ tb86 vq2 rfl rfl (s_X2_aboveGreenZ hK hF _ ⟨by omega, by omega⟩ _ ⟨by omega, by omega⟩ _ ⟨by omega, by omega, by omega⟩ _ ⟨by omega, by omega, by omega⟩ f g (by omega) (by omega) hg (by omega)) dX2_fillRedAndBlue_2.1.2.1.2 (Nat.le_of_ble_eq_true rfl) rfl ?_
    rintro r59 z59 ⟨hz59, p59⟩; subst z59
    refine zW_iadd (pc' := 63) dX2_fillRedAndBlue_2.1.2.2.1 rfl ?_
    refine zW_istore (ls' := [_, _, _, _, _, _, _, _, _, _, _]) (pc' := 65) dX2_fillRedAndBlue_2.1.2.2.2 (by decide) rfl rfl rfl ?_
    refine zW_aload_n (pc' := 66) dX2_fillRedAndBlue_2.2.1.1.1 rfl rfl ?_
    refine zW_aload_n (pc' := 67) dX2_fillRedAndBlue_2.2.1.1.2 rfl rfl ?_
    refine zW_aload_n (pc' := 68) dX2_fillRedAndBlue_2.2.1.2.1 rfl rfl ?_
    refine zW_iload_n (pc' := 69) dX2_fillRedAndBlue_2.2.1.2.2 rfl rfl ?_
    refine zW_iload (pc' := 71) dX2_fillRedAndBlue_2.2.2.1.1 rfl rfl ?_
    refine zW_iconst (pc' := 72) dX2_fillRedAndBlue_2.2.2.1.2 rfl ?_
    refine zW_isub (pc' := 73) dX2_fillRedAndBlue_2.2.2.2.1 rfl ?_
    refine cvI4 (pc' := 76) kX2_aboveGreen vX2_aboveGreen lk_X2_77 ⟨Nat.le_of_ble_eq_true rfl, Nat.le_of_ble_eq_true rfl⟩ tb86 vq2 rfl rfl (s_X2_aboveGreenZ hK hF _ ⟨by omega, by omega⟩ _ ⟨by omega, by omega⟩ _ ⟨by omega, by omega, by omega⟩ _ ⟨by omega, by omega, by omega⟩ f g (by omega) (by omega) hg (by omega)) dX2_fillRedAndBlue_2.2.2.2.2 (Nat.le_of_ble_eq_true rfl) rfl ?_
    rintro r73 z73 ⟨hz73, p73⟩; subst z73
    refine zW_aload_n (pc' := 77) dX2_fillRedAndBlue_3.1.1.1.1 rfl rfl ?_
    refine zW_aload_n (pc' := 78) dX2_fillRedAndBlue_3.1.1.1.2 rfl rfl ?_
    refine zW_aload_n (pc' := 79) dX2_fillRedAndBlue_3.1.1.2.1 rfl rfl ?_
    refine zW_iload_n (pc' := 80) dX2_fillRedAndBlue_3.1.1.2.2 rfl rfl ?_
    refine zW_iload (pc' := 82) dX2_fillRedAndBlue_3.1.2.1.1 rfl rfl ?_
    refine zW_iconst (pc' := 83) dX2_fillRedAndBlue_3.1.2.1.2 rfl ?_
    refine zW_iadd (pc' := 84) dX2_fillRedAndBlue_3.1.2.2.1 rfl ?_
    refine cvI4 (pc' := 87) kX2_aboveGreen vX2_aboveGreen lk_X2_77 ⟨Nat.le_of_ble_eq_true rfl, Nat.le_of_ble_eq_true rfl⟩ tb86 vq2 rfl rfl (s_X2_aboveGreenZ hK hF _ ⟨by omega, by omega⟩ _ ⟨by omega, by omega⟩ _ ⟨by omega, by omega, by omega⟩ _ ⟨by omega, by omega, by omega⟩ f g (by omega) (by omega) hg (by omega)) dX2_fillRedAndBlue_3.1.2.2.2 (Nat.le_of_ble_eq_true rfl) rfl ?_
    rintro r84 z84 ⟨hz84, p84⟩; subst z84
    refine zW_iadd (pc' := 88) dX2_fillRedAndBlue_3.2.1.1.1 rfl ?_
    refine zW_istore (ls' := [_, _, _, _, _, _, _, _, _, _, _]) (pc' := 90) dX2_fillRedAndBlue_3.2.1.1.2 (by decide) rfl rfl rfl ?_
    refine zW_aload_n (pc' := 91) dX2_fillRedAndBlue_3.2.1.2.1 rfl rfl ?_
    refine zG_ref (pc' := 94) 33 fg_X2_9 tb86 rfl dX2_fillRedAndBlue_3.2.1.2.2 rfl ?_
    refine zW_iload_n (pc' := 95) dX2_fillRedAndBlue_3.2.2.1.1 rfl rfl ?_
    refine zW_iconst (pc' := 96) dX2_fillRedAndBlue_3.2.2.1.2 rfl ?_
    refine zW_iadd (pc' := 97) dX2_fillRedAndBlue_3.2.2.2.1 rfl ?_
    refine zW_iload (pc' := 99) dX2_fillRedAndBlue_3.2.2.2.2 rfl rfl ?_
    refine cvI2 (pc' := 102) kX5_colourOf vX5_colourOf lk_X2_71 ⟨Nat.le_of_ble_eq_true rfl, Nat.le_of_ble_eq_true rfl⟩ tb33 vq5 rfl rfl (s_X5_colourOfZ hK hF _ ⟨by omega, by omega⟩ _ ⟨by omega, by omega⟩) dX2_fillRedAndBlue_4.1.1.1.1 (Nat.le_of_ble_eq_true rfl) rfl ?_
    rintro r99 z99 ⟨hz99, p99⟩; subst z99
    refine zW_istore (ls' := [_, _, _, _, _, _, _, _, _, _, _]) (pc' := 104) dX2_fillRedAndBlue_4.1.1.1.2 (by decide) rfl rfl rfl ?_
    have ec1 : cl (κ 33 2) (mir (x3 + 1) (κ 33 0)) x4 = r99 := by rw [cl_mir ⟨by omega, by omega⟩]; unfold cl; omega
    have h99 : r99 = 0 ∨ r99 = 2 := by omega
    have tda := tdc (a := r48 + r59) (d := 2) (by omega)
    have tdb := tdc (a := r73 + r84) (d := 2) (by omega)
    skip
    refine zW_aload_n (pc' := 105) dX2_fillRedAndBlue_4.1.1.2.1 rfl rfl ?_
    refine zG_lev (pc' := 108) (by omega) (by omega) fg_X2_24 dX2_fillRedAndBlue_4.1.1.2.2 rfl ?_
    refine zW_iload (pc' := 110) dX2_fillRedAndBlue_4.1.2.1.1 rfl rfl ?_
    refine zW_sipush (pc' := 113) dX2_fillRedAndBlue_4.1.2.1.2 rfl rfl ?_
    refine zW_imul (pc' := 114) dX2_fillRedAndBlue_4.1.2.2.1 rfl ?_
    refine zW_iload (pc' := 116) dX2_fillRedAndBlue_4.1.2.2.2 rfl rfl ?_
    refine zW_iadd (pc' := 117) dX2_fillRedAndBlue_4.2.1.1.1 rfl ?_
    refine zW_iload (pc' := 119) dX2_fillRedAndBlue_4.2.1.1.2 rfl rfl ?_
    refine zW_iload (pc' := 121) dX2_fillRedAndBlue_4.2.1.2.1 rfl rfl ?_
    refine zW_iconst (pc' := 122) dX2_fillRedAndBlue_4.2.1.2.2 rfl ?_
    refine zW_idivS (pc' := 123) ⟨by omega, by omega⟩ (by omega) dX2_fillRedAndBlue_4.2.2.1.1 rfl (fun v122 e122 => ?_)
    refine zW_iadd (pc' := 124) dX2_fillRedAndBlue_4.2.2.1.2 rfl ?_
    refine csI1 (pc' := 127) kX11_clipped vX11_clipped lk_X2_30 ⟨Nat.le_of_ble_eq_true rfl, Nat.le_of_ble_eq_true rfl⟩ rfl (s_X11_clippedZ hF _ ⟨by omega, by omega⟩) dX2_fillRedAndBlue_4.2.2.2.1 (Nat.le_of_ble_eq_true rfl) rfl ?_
    rintro r124 z124 ⟨hz124, p124⟩; subst z124
    refine zS_lv (pc' := 128) hF (by omega) (by omega) hto (by omega) dX2_fillRedAndBlue_4.2.2.2.2 rfl (fun h i127 hF a127 b127 w127 => ?_)
    replace b127 := b127 ⟨by omega, by omega⟩
    replace hgh : Fw [(s2 + 15)] [] gh0 h := by rw [w127]; exact hgh.wc (by simp)
    replace hf : ShE (κ 33 0) (κ 33 1) (h (s1 + 15)) f := by have q0_ := (congrFun w127 (s1 + 15)).trans (zfun (by omega)); rw [q0_]; exact hf
    have hg1 : PlS (κ 33 0) (κ 33 1) (h (s2 + 15)) 1 g := by rw [w127]; exact hg.w (by omega) (by omega) (by omega) (by omega)
    have ha0 : (r99 = 0 → PlSu (κ 33 0) (κ 33 1) (h (s2 + 15)) 0 (otg (κ 33 0) (κ 33 1) (κ 33 2) f g 0) (x3 + 1) x4) ∧ (¬ r99 = 0 → PlSu (κ 33 0) (κ 33 1) (h (s2 + 15)) 0 (otg (κ 33 0) (κ 33 1) (κ 33 2) f g 0) x3 x4) := ⟨fun q => by rw [w127, b127]; exact PlSu.nx (by omega) (by omega) ⟨by omega, by omega, by omega, by omega⟩ h00 (by omega) (by unfold otg; rw [ec0, ec1, if_neg (by omega), if_neg (by omega), if_pos (by omega), ← p48.2.2, ← p59.2.2, ← q31, show (r48 + r59).tdiv 2 = v122 by omega]; exact p124.2.2), fun q => by rw [w127]; exact h00.w (by omega) (by omega) (by omega) (by omega)⟩
    have ha2 : (r99 = 2 → PlSu (κ 33 0) (κ 33 1) (h (s2 + 15)) 2 (otg (κ 33 0) (κ 33 1) (κ 33 2) f g 2) (x3 + 1) x4) ∧ (¬ r99 = 2 → PlSu (κ 33 0) (κ 33 1) (h (s2 + 15)) 2 (otg (κ 33 0) (κ 33 1) (κ 33 2) f g 2) x3 x4) := ⟨fun q => by rw [w127, b127]; exact PlSu.nx (by omega) (by omega) ⟨by omega, by omega, by omega, by omega⟩ h02 (by omega) (by unfold otg; rw [ec0, ec1, if_neg (by omega), if_neg (by omega), if_pos (by omega), ← p48.2.2, ← p59.2.2, ← q31, show (r48 + r59).tdiv 2 = v122 by omega]; exact p124.2.2), fun q => by rw [w127]; exact h02.w (by omega) (by omega) (by omega) (by omega)⟩
    refine zW_aload_n (pc' := 129) dX2_fillRedAndBlue_5.1.1.1.1 rfl rfl ?_
    refine zG_lev (pc' := 132) (by omega) (by omega) fg_X2_24 dX2_fillRedAndBlue_5.1.1.1.2 rfl ?_
    refine zW_iconst (pc' := 133) dX2_fillRedAndBlue_5.1.1.2.1 rfl ?_
    refine zW_iload (pc' := 135) dX2_fillRedAndBlue_5.1.1.2.2 rfl rfl ?_
    refine zW_isub (pc' := 136) dX2_fillRedAndBlue_5.1.2.1.1 rfl ?_
    refine zW_sipush (pc' := 139) dX2_fillRedAndBlue_5.1.2.1.2 rfl rfl ?_
    refine zW_imul (pc' := 140) dX2_fillRedAndBlue_5.1.2.2.1 rfl ?_
    refine zW_iload (pc' := 142) dX2_fillRedAndBlue_5.1.2.2.2 rfl rfl ?_
    refine zW_iadd (pc' := 143) dX2_fillRedAndBlue_5.2.1.1.1 rfl ?_
    refine zW_iload (pc' := 145) dX2_fillRedAndBlue_5.2.1.1.2 rfl rfl ?_
    refine zW_iload (pc' := 147) dX2_fillRedAndBlue_5.2.1.2.1 rfl rfl ?_
    refine zW_iconst (pc' := 148) dX2_fillRedAndBlue_5.2.1.2.2 rfl ?_
    refine zW_idivS (pc' := 149) ⟨by omega, by omega⟩ (by omega) dX2_fillRedAndBlue_5.2.2.1.1 rfl (fun v148 e148 => ?_)
    refine zW_iadd (pc' := 150) dX2_fillRedAndBlue_5.2.2.1.2 rfl ?_
    refine csI1 (pc' := 153) kX11_clipped vX11_clipped lk_X2_30 ⟨Nat.le_of_ble_eq_true rfl, Nat.le_of_ble_eq_true rfl⟩ rfl (s_X11_clippedZ hF _ ⟨by omega, by omega⟩) dX2_fillRedAndBlue_5.2.2.2.1 (Nat.le_of_ble_eq_true rfl) rfl ?_
    rintro r150 z150 ⟨hz150, p150⟩; subst z150
    refine zS_lv (pc' := 154) hF (by omega) (by omega) hto (by omega) dX2_fillRedAndBlue_5.2.2.2.2 rfl (fun h i153 hF a153 b153 w153 => ?_)
    replace b153 := b153 ⟨by omega, by omega⟩
    replace hgh : Fw [(s2 + 15)] [] gh0 h := by rw [w153]; exact hgh.wc (by simp)
    replace hf : ShE (κ 33 0) (κ 33 1) (h (s1 + 15)) f := by have q0_ := (congrFun w153 (s1 + 15)).trans (zfun (by omega)); rw [q0_]; exact hf
    have hg2 : PlS (κ 33 0) (κ 33 1) (h (s2 + 15)) 1 g := by rw [w153]; exact hg1.w (by omega) (by omega) (by omega) (by omega)
    have hb0 : PlSu (κ 33 0) (κ 33 1) (h (s2 + 15)) 0 (otg (κ 33 0) (κ 33 1) (κ 33 2) f g 0) (x3 + 1) x4 := by by_cases q : r99 = 0; (rw [w153]; exact (ha0.1 q).w (by omega) (by omega) (by omega) (by omega)); (rw [w153, b153]; exact PlSu.nx (by omega) (by omega) ⟨by omega, by omega, by omega, by omega⟩ (ha0.2 q) (by omega) (by unfold otg; rw [ec0, ec1, if_neg (by omega), if_neg (by omega), if_neg (by omega), ← p73.2.2, ← p84.2.2, ← q31, show (r73 + r84).tdiv 2 = v148 by omega]; exact p150.2.2))
    have hb2 : PlSu (κ 33 0) (κ 33 1) (h (s2 + 15)) 2 (otg (κ 33 0) (κ 33 1) (κ 33 2) f g 2) (x3 + 1) x4 := by by_cases q : r99 = 2; (rw [w153]; exact (ha2.1 q).w (by omega) (by omega) (by omega) (by omega)); (rw [w153, b153]; exact PlSu.nx (by omega) (by omega) ⟨by omega, by omega, by omega, by omega⟩ (ha2.2 q) (by omega) (by unfold otg; rw [ec0, ec1, if_neg (by omega), if_neg (by omega), if_neg (by omega), ← p73.2.2, ← p84.2.2, ← q31, show (r73 + r84).tdiv 2 = v148 by omega]; exact p150.2.2))
    refine zV_goto 261 dX2_fillRedAndBlue_6.1.1.1.1 rfl ?_
    exact zV_vret rfl dX2_fillRedAndBlue_10.2.2.2 ⟨hF, ⟨hgh, (by first | exact ⟨hg2, hb0, hb2⟩ | (refine ⟨by rw [w260]; exact hg1.w (by omega) (by omega) (by omega) (by omega), ?_, ?_⟩; (by_cases q : r16 = 0; (rw [w260]; exact (ha0.1 q).w (by omega) (by omega) (by omega) (by omega)); (rw [w260, b260]; exact PlSu.nx (by omega) (by omega) ⟨by omega, by omega, by omega, by omega⟩ (ha0.2 q) (by omega) (by unfold otg; rw [ec0, if_neg (by omega), if_pos (by omega), ← p167.2.2, ← p180.2.2, ← p194.2.2, ← p208.2.2, ← q31, show (r167 + r180 + r194 + r208).tdiv 4 = v255 by omega]; exact p257.2.2))); (by_cases q : r16 = 2; (rw [w260]; exact (ha2.1 q).w (by omega) (by omega) (by omega) (by omega)); (rw [w260, b260]; exact PlSu.nx (by omega) (by omega) ⟨by omega, by omega, by omega, by omega⟩ (ha2.2 q) (by omega) (by unfold otg; rw [ec0, if_neg (by omega), if_pos (by omega), ← p167.2.2, ← p180.2.2, ← p194.2.2, ← p208.2.2, ← q31, show (r167 + r180 + r194 + r208).tdiv 4 = v255 by omega]; exact p257.2.2)))))⟩⟩

abbrev q_X2_fillMosaicZ (b : Bd) (κ : Hp) (s1 : Nat) (s2 : Nat) (x3 : Int) (f : Int → Int → Int) (gh0 : Hp) : Int → Hp → Prop := fun r h' => Fr b κ h' ∧ ((Fw [(s2 + 15)] [] gh0 h') ∧ (PlS (κ 33 0) (κ 33 1) (h' (s2 + 15)) 0 (otg (κ 33 0) (κ 33 1) (κ 33 2) f (grn (κ 33 0) (κ 33 1) (κ 33 2) x3 f) 0) ∧ PlS (κ 33 0) (κ 33 1) (h' (s2 + 15)) 1 (grn (κ 33 0) (κ 33 1) (κ 33 2) x3 f) ∧ PlS (κ 33 0) (κ 33 1) (h' (s2 + 15)) 2 (otg (κ 33 0) (κ 33 1) (κ 33 2) f (grn (κ 33 0) (κ 33 1) (κ 33 2) x3 f) 2)))
set_option maxHeartbeats 4000000 in
set_option maxRecDepth 20000 in
theorem s_X2_fillMosaicZ {G : Ga} {b : Bd} {κ h : Hp} (hK : KC κ) (hF : Fr b κ h) (s1 : Nat) (hs1 : 56 ≤ s1 ∧ s1 ≤ 70) (s2 : Nat) (hs2 : 56 ≤ s2 ∧ s2 ≤ 70) (x3 : Int) (hx3 : 0 ≤ x3 ∧ x3 ≤ 1) (f : Int → Int → Int) (gh0 : Hp) (hto : OkL b (s2 + 15)) (hne : s1 ≠ s2) (hf : ShE (κ 33 0) (κ 33 1) (h (s1 + 15)) f) (hfb : FB (κ 33 0) (κ 33 1) f) (hgh : Fw [(s2 + 15)] [] gh0 h) : zM G mX2_fillMosaic yX2_fillMosaic [.inr (.inr 86), .inr (.inr s1), .inr (.inr s2), .inl x3] h (q_X2_fillMosaicZ b κ s1 s2 x3 f gh0) := by
  have f_33_0 := KCw hK
  have f_33_1 := KCh hK
  have f_33_2 := KCp hK
  have hgb := grn_b (P := κ 33 2) (K := x3) (KCw hK).1 (KCh hK).1 hfb
  have main : ∀ N : Nat, (∀ (v4 : Int) (h : Hp), Fr b κ h → (0 ≤ v4 ∧ v4 ≤ 16) → (v4 - κ 33 1 ≤ 0) → (PlSu (κ 33 0) (κ 33 1) (h (s2 + 15)) 1 (grn (κ 33 0) (κ 33 1) (κ 33 2) x3 f) 0 v4) → (ShE (κ 33 0) (κ 33 1) (h (s1 + 15)) f) → (Fw [(s2 + 15)] [] gh0 h) → 48784032 + 46728 * (16 - v4) + 45936 < (N : Int) → zV G mX2_fillMosaic (q_X2_fillMosaicZ b κ s1 s2 x3 f gh0) 3 [some (.inr (.inr 86)), some (.inr (.inr s1)), some (.inr (.inr s2)), some (.inl x3), some (.inl v4), none] [] h) ∧ (∀ (v4 : Int) (h : Hp), Fr b κ h → (0 ≤ v4 ∧ v4 ≤ 16) → (v4 - κ 33 1 ≤ 0) → (PlS (κ 33 0) (κ 33 1) (h (s2 + 15)) 1 (grn (κ 33 0) (κ 33 1) (κ 33 2) x3 f)) → (PlSu (κ 33 0) (κ 33 1) (h (s2 + 15)) 0 (otg (κ 33 0) (κ 33 1) (κ 33 2) f (grn (κ 33 0) (κ 33 1) (κ 33 2) x3 f) 0) 0 v4) → (PlSu (κ 33 0) (κ 33 1) (h (s2 + 15)) 2 (otg (κ 33 0) (κ 33 1) (κ 33 2) f (grn (κ 33 0) (κ 33 1) (κ 33 2) x3 f) 2) 0 v4) → (ShE (κ 33 0) (κ 33 1) (h (s1 + 15)) f) → (Fw [(s2 + 15)] [] gh0 h) → 42896304 + 46728 * (16 - v4) + 40392 < (N : Int) → zV G mX2_fillMosaic (q_X2_fillMosaicZ b κ s1 s2 x3 f gh0) 72 [some (.inr (.inr 86)), some (.inr (.inr s1)), some (.inr (.inr s2)), some (.inl x3), some (.inl v4), none] [] h) ∧ (∀ (v4 v5 : Int) (h : Hp), Fr b κ h → (0 ≤ v4 ∧ v4 ≤ 15) → (v4 - κ 33 1 ≤ -1) → (0 ≤ v5 ∧ v5 ≤ 16) → (v5 - κ 33 0 ≤ 0) → (PlS (κ 33 0) (κ 33 1) (h (s2 + 15)) 1 (grn (κ 33 0) (κ 33 1) (κ 33 2) x3 f)) → (PlSu (κ 33 0) (κ 33 1) (h (s2 + 15)) 0 (otg (κ 33 0) (κ 33 1) (κ 33 2) f (grn (κ 33 0) (κ 33 1) (κ 33 2) x3 f) 0) v5 v4) → (PlSu (κ 33 0) (κ 33 1) (h (s2 + 15)) 2 (otg (κ 33 0) (κ 33 1) (κ 33 2) f (grn (κ 33 0) (κ 33 1) (κ 33 2) x3 f) 2) v5 v4) → (ShE (κ 33 0) (κ 33 1) (h (s1 + 15)) f) → (Fw [(s2 + 15)] [] gh0 h) → 42896304 + 46728 * (16 - v4) + 34056 + 44 * (16 - v5) + 43 < (N : Int) → zV G mX2_fillMosaic (q_X2_fillMosaicZ b κ s1 s2 x3 f gh0) 87 [some (.inr (.inr 86)), some (.inr (.inr s1)), some (.inr (.inr s2)), some (.inl x3), some (.inl v4), some (.inl v5)] [] h) ∧ (∀ (v4 v5 : Int) (h : Hp), Fr b κ h → (0 ≤ v4 ∧ v4 ≤ 15) → (v4 - κ 33 1 ≤ -1) → (0 ≤ v5 ∧ v5 ≤ 16) → (v5 - κ 33 0 ≤ 0) → (PlSu (κ 33 0) (κ 33 1) (h (s2 + 15)) 1 (grn (κ 33 0) (κ 33 1) (κ 33 2) x3 f) v5 v4) → (ShE (κ 33 0) (κ 33 1) (h (s1 + 15)) f) → (Fw [(s2 + 15)] [] gh0 h) → 48784032 + 46728 * (16 - v4) + 20592 + 44 * (16 - v5) + 26 < (N : Int) → zV G mX2_fillMosaic (q_X2_fillMosaicZ b κ s1 s2 x3 f gh0) 18 [some (.inr (.inr 86)), some (.inr (.inr s1)), some (.inr (.inr s2)), some (.inl x3), some (.inl v4), some (.inl v5)] [] h) := by
    intro N
    induction N with
    | zero =>
      refine ⟨?_, ?_, ?_, ?_⟩
      · intro v4 h hF g0 g1 gc0 hf hgh hm
        exfalso; omega
      · intro v4 h hF g0 g1 gc0 gc1 gc2 hf hgh hm
        exfalso; omega
      · intro v4 v5 h hF g0 g1 g2 g3 gc0 gc1 gc2 hf hgh hm
        exfalso; omega
      · intro v4 v5 h hF g0 g1 g2 g3 gc0 hf hgh hm
        exfalso; omega
    | succ N ih =>
      obtain ⟨k3, k72, k87, k18⟩ := ih
      refine ⟨?_, ?_, ?_, ?_⟩
      · intro v4 h hF g0 g1 gc0 hf hgh hm
        refine zW_iload (pc' := 5) dX2_fillMosaic_0.1.1.2.1 rfl rfl ?_
        refine zW_aload_n (pc' := 6) dX2_fillMosaic_0.1.1.2.2 rfl rfl ?_
        refine zG_ref (pc' := 9) 33 fg_X2_9 tb86 rfl dX2_fillMosaic_0.1.2.1.1 rfl ?_
        refine zG_key (pc' := 12) hF rfl fg_X2_15 tb33 rfl dX2_fillMosaic_0.1.2.1.2 rfl ?_
        refine zV_cm_ge (tgt := 69) (pc' := 15) dX2_fillMosaic_0.1.2.2.1 rfl rfl ⟨by omega, by omega⟩ ⟨by omega, by omega⟩ (fun c12 => ?_) (fun c12 => ?_)
        · refine zW_iconst (pc' := 70) dX2_fillMosaic_2.1.1.2.1 rfl ?_
          refine zW_istore (ls' := [_, _, _, _, _, _]) (pc' := 72) dX2_fillMosaic_2.1.1.2.2 (by decide) rfl rfl rfl ?_
          exact k72 _ _ hF (by omega) (by omega) (by first | exact gc0.all (by omega) | exact gc0) (by first | exact gc1.rowx (by omega) | exact PlSu.no) (by first | exact gc2.rowx (by omega) | exact PlSu.no) hf hgh (by omega)
        · refine zW_iconst (pc' := 16) dX2_fillMosaic_0.1.2.2.2 rfl ?_
          refine zW_istore (ls' := [_, _, _, _, _, _]) (pc' := 18) dX2_fillMosaic_0.2.1.1.1 (by decide) rfl rfl rfl ?_
          exact k18 _ _ _ hF (by omega) (by omega) (by omega) (by omega) (by first | exact hr2 | exact gc0) hf hgh (by omega)
      · intro v4 h hF g0 g1 gc0 gc1 gc2 hf hgh hm
        refine zW_iload (pc' := 74) dX2_fillMosaic_2.1.2.1.1 rfl rfl ?_
        refine zW_aload_n (pc' := 75) dX2_fillMosaic_2.1.2.1.2 rfl rfl ?_
        refine zG_ref (pc' := 78) 33 fg_X2_9 tb86 rfl dX2_fillMosaic_2.1.2.2.1 rfl ?_
        refine zG_key (pc' := 81) hF rfl fg_X2_15 tb33 rfl dX2_fillMosaic_2.1.2.2.2 rfl ?_
        refine zV_cm_ge (tgt := 121) (pc' := 84) dX2_fillMosaic_2.2.1.1.1 rfl rfl ⟨by omega, by omega⟩ ⟨by omega, by omega⟩ (fun c81 => ?_) (fun c81 => ?_)
        · exact zV_vret rfl dX2_fillMosaic_3.2.2.2 ⟨hF, ⟨hgh, ⟨gc1.all (by omega), gc0, gc2.all (by omega)⟩⟩⟩
        · refine zW_iconst (pc' := 85) dX2_fillMosaic_2.2.1.1.2 rfl ?_
          refine zW_istore (ls' := [_, _, _, _, _, _]) (pc' := 87) dX2_fillMosaic_2.2.1.2.1 (by decide) rfl rfl rfl ?_
          exact k87 _ _ _ hF (by omega) (by omega) (by omega) (by omega) (by first | exact p106.1 | exact gc0) (by first | exact p106.2.1 | exact gc1) (by first | exact p106.2.2 | exact gc2) hf hgh (by omega)
      · intro v4 v5 h hF g0 g1 g2 g3 gc0 gc1 gc2 hf hgh hm
        refine zW_iload (pc' := 89) dX2_fillMosaic_2.2.1.2.2 rfl rfl ?_
        refine zW_aload_n (pc' := 90) dX2_fillMosaic_2.2.2.1.1 rfl rfl ?_
        refine zG_ref (pc' := 93) 33 fg_X2_9 tb86 rfl dX2_fillMosaic_2.2.2.1.2 rfl ?_
        refine zG_key (pc' := 96) hF rfl fg_X2_21 tb33 rfl dX2_fillMosaic_2.2.2.2.1 rfl ?_
        refine zV_cm_ge (tgt := 115) (pc' := 99) dX2_fillMosaic_2.2.2.2.2 rfl rfl ⟨by omega, by omega⟩ ⟨by omega, by omega⟩ (fun c96 => ?_) (fun c96 => ?_)
        · refine zW_iinc (ls' := [_, _, _, _, _, _]) (pc' := 118) dX2_fillMosaic_3.2.1.2 rfl (by decide) rfl rfl rfl ?_
          refine zV_goto 72 dX2_fillMosaic_3.2.2.1 rfl ?_
          refine zV_clr 5 (ls' := [_, _, _, _, _, _]) rfl ?_
          exact k72 _ _ hF (by omega) (by omega) (by first | exact gc0.all (by omega) | exact gc0) (by first | exact gc1.rowx (by omega) | exact PlSu.no) (by first | exact gc2.rowx (by omega) | exact PlSu.no) hf hgh (by omega)
        · refine zW_aload_n (pc' := 100) dX2_fillMosaic_3.1.1.1.1 rfl rfl ?_
          refine zW_aload_n (pc' := 101) dX2_fillMosaic_3.1.1.1.2 rfl rfl ?_
          refine zW_aload_n (pc' := 102) dX2_fillMosaic_3.1.1.2 rfl rfl ?_
          refine zW_iload (pc' := 104) dX2_fillMosaic_3.1.2.1.1 rfl rfl ?_
          refine zW_iload (pc' := 106) dX2_fillMosaic_3.1.2.1.2 rfl rfl ?_
          refine cvV4 (pc' := 109) kX2_fillRedAndBlue vX2_fillRedAndBlue lk_X2_67 ⟨Nat.le_of_ble_eq_true rfl, Nat.le_of_ble_eq_true rfl⟩ tb86 vq2 rfl rfl (s_X2_fillRedAndBlueZ hK hF _ ⟨by omega, by omega⟩ _ ⟨by omega, by omega⟩ _ ⟨by omega, by omega, by omega⟩ _ ⟨by omega, by omega, by omega⟩ f (grn (κ 33 0) (κ 33 1) (κ 33 2) x3 f) h hto (by omega) (by omega) (by omega) gc0 hgb gc1 gc2 Fw.rf) dX2_fillMosaic_3.1.2.2 (Nat.le_of_ble_eq_true rfl) rfl ?_
          rintro r106 h ⟨hF, d106, p106⟩
          replace hf : ShE (κ 33 0) (κ 33 1) (h (s1 + 15)) f := by have q0_ := (d106.cell (k := (s1 + 15)) (by intro c hc; simp at hc <;> omega) (by rintro ⟨a, b⟩ hp; simp at hp <;> (show _ ≠ a; omega))); rw [q0_]; exact hf
          replace hgh : Fw [(s2 + 15)] [] gh0 h := hgh.tr d106 (by simp) (by simp)
          refine zW_iinc (ls' := [_, _, _, _, _, _]) (pc' := 112) dX2_fillMosaic_3.2.1.1.1 rfl (by decide) rfl rfl rfl ?_
          refine zV_goto 87 dX2_fillMosaic_3.2.1.1.2 rfl ?_
          exact k87 _ _ _ hF (by omega) (by omega) (by omega) (by omega) (by first | exact p106.1 | exact gc0) (by first | exact p106.2.1 | exact gc1) (by first | exact p106.2.2 | exact gc2) hf hgh (by omega)
      · intro v4 v5 h hF g0 g1 g2 g3 gc0 hf hgh hm
        refine zW_iload (pc' := 20) dX2_fillMosaic_0.2.1.1.2 rfl rfl ?_
        refine zW_aload_n (pc' := 21) dX2_fillMosaic_0.2.1.2.1 rfl rfl ?_
        refine zG_ref (pc' := 24) 33 fg_X2_9 tb86 rfl dX2_fillMosaic_0.2.1.2.2 rfl ?_
        refine zG_key (pc' := 27) hF rfl fg_X2_21 tb33 rfl dX2_fillMosaic_0.2.2.1.1 rfl ?_
        refine zV_cm_ge (tgt := 63) (pc' := 30) dX2_fillMosaic_0.2.2.1.2 rfl rfl ⟨by omega, by omega⟩ ⟨by omega, by omega⟩ (fun c27 => ?_) (fun c27 => ?_)
        · refine zW_iinc (ls' := [_, _, _, _, _, _]) (pc' := 66) dX2_fillMosaic_2.1.1.1.1 rfl (by decide) rfl rfl rfl ?_
          refine zV_goto 3 dX2_fillMosaic_2.1.1.1.2 rfl ?_
          refine zV_clr 5 (ls' := [_, _, _, _, _, _]) rfl ?_
          exact k3 _ _ hF (by omega) (by omega) (by first | exact gc0.rowx (by omega) | exact PlSu.no) hf hgh (by omega)
        · refine zW_aload_n (pc' := 31) dX2_fillMosaic_0.2.2.2.1 rfl rfl ?_
          refine zG_lev (pc' := 34) (by omega) (by omega) fg_X2_24 dX2_fillMosaic_0.2.2.2.2 rfl ?_
          refine zW_sipush (pc' := 37) dX2_fillMosaic_1.1.1.1.1 rfl rfl ?_
          refine zW_iload (pc' := 39) dX2_fillMosaic_1.1.1.1.2 rfl rfl ?_
          refine zW_bipush (pc' := 41) dX2_fillMosaic_1.1.1.2.1 rfl rfl ?_
          refine zW_imul (pc' := 42) dX2_fillMosaic_1.1.1.2.2 rfl ?_
          refine zW_iadd (pc' := 43) dX2_fillMosaic_1.1.2.1.1 rfl ?_
          refine zW_iload (pc' := 45) dX2_fillMosaic_1.1.2.1.2 rfl rfl ?_
          refine zW_iadd (pc' := 46) dX2_fillMosaic_1.1.2.2.1 rfl ?_
          refine zW_aload_n (pc' := 47) dX2_fillMosaic_1.1.2.2.2 rfl rfl ?_
          refine zW_aload_n (pc' := 48) dX2_fillMosaic_1.2.1.1.1 rfl rfl ?_
          refine zW_iload (pc' := 50) dX2_fillMosaic_1.2.1.1.2 rfl rfl ?_
          refine zW_iload (pc' := 52) dX2_fillMosaic_1.2.1.2.1 rfl rfl ?_
          refine zW_iload_n (pc' := 53) dX2_fillMosaic_1.2.1.2.2 rfl rfl ?_
          refine cvI4 (pc' := 56) kX2_greenOf vX2_greenOf lk_X2_63 ⟨Nat.le_of_ble_eq_true rfl, Nat.le_of_ble_eq_true rfl⟩ tb86 vq2 rfl rfl (s_X2_greenOfZ hK hF _ ⟨by omega, by omega⟩ _ ⟨by omega, by omega, by omega⟩ _ ⟨by omega, by omega, by omega⟩ _ ⟨by omega, by omega⟩ f (by omega) (by omega)) dX2_fillMosaic_1.2.2.1.1 (Nat.le_of_ble_eq_true rfl) rfl ?_
          rintro r53 z53 ⟨hz53, p53⟩; subst z53
          refine zS_lv (pc' := 57) hF (by omega) (by omega) hto (by omega) dX2_fillMosaic_1.2.2.1.2 rfl (fun h i56 hF a56 b56 w56 => ?_)
          replace b56 := b56 ⟨by omega, by omega⟩
          replace hgh : Fw [(s2 + 15)] [] gh0 h := by rw [w56]; exact hgh.wc (by simp)
          replace hf : ShE (κ 33 0) (κ 33 1) (h (s1 + 15)) f := by have q0_ := (congrFun w56 (s1 + 15)).trans (zfun (by omega)); rw [q0_]; exact hf
          have hr2 : PlSu (κ 33 0) (κ 33 1) (h (s2 + 15)) 1 (grn (κ 33 0) (κ 33 1) (κ 33 2) x3 f) (v5 + 1) v4 := by rw [w56, b56]; exact PlSu.nx (by omega) (by omega) ⟨by omega, by omega, by omega, by omega⟩ gc0 (by omega) p53.2.2
          refine zW_iinc (ls' := [_, _, _, _, _, _]) (pc' := 60) dX2_fillMosaic_1.2.2.2.1 rfl (by decide) rfl rfl rfl ?_
          refine zV_goto 18 dX2_fillMosaic_1.2.2.2.2 rfl ?_
          exact k18 _ _ _ hF (by omega) (by omega) (by omega) (by omega) (by first | exact hr2 | exact gc0) hf hgh (by omega)
  refine zM_of [some (.inr (.inr 86)), some (.inr (.inr s1)), some (.inr (.inr s2)), some (.inl x3), none, none] 2 rfl rfl (Nat.le_of_ble_eq_true rfl) rfl ?_
  refine zW_iconst (pc' := 1) dX2_fillMosaic_0.1.1.1.1 rfl ?_
  refine zW_istore (ls' := [_, _, _, _, _, _]) (pc' := 3) dX2_fillMosaic_0.1.1.1.2 (by decide) rfl rfl rfl ?_
  exact (main 10000000000000000000000000000000000000000).1 _ _ hF (by omega) (by omega) (by first | exact gc0.rowx (by omega) | exact PlSu.no) hf hgh (by omega)
