/-! the mosaic filled -/
def cl (P x y : Int) : Int := (x + P) % 2 + (y + P / 2) % 2
def flt (W : Int) (f : Int → Int → Int) (x y : Int) : Int := f (mir (x - 1) W) y + f (mir (x + 1) W) y
def upr (H : Int) (f : Int → Int → Int) (x y : Int) : Int := f x (mir (y - 1) H) + f x (mir (y + 1) H)
def grn (W H P K : Int) (f : Int → Int → Int) (x y : Int) : Int := if cl P x y = 1 then f x y else if K = 0 then (flt W f x y + upr H f x y) / 4 else if wy W H f x y = 0 then flt W f x y / 2 else if wy W H f x y = 1 then upr H f x y / 2 else (flt W f x y + upr H f x y) / 4
def ovr (W H : Int) (f g : Int → Int → Int) (x y : Int) : Int := f (mir x W) (mir y H) - g (mir x W) (mir y H)
def otg (W H P : Int) (f g : Int → Int → Int) (c x y : Int) : Int := if cl P x y = c then f x y else if cl P x y ≠ 1 then clp (g x y + (ovr W H f g (x - 1) (y - 1) + ovr W H f g (x + 1) (y - 1) + ovr W H f g (x - 1) (y + 1) + ovr W H f g (x + 1) (y + 1)).tdiv 4) else if cl P (mir (x + 1) W) y = c then clp (g x y + (ovr W H f g (x - 1) y + ovr W H f g (x + 1) y).tdiv 2) else clp (g x y + (ovr W H f g x (y - 1) + ovr W H f g x (y + 1)).tdiv 2)
def flP (W H P K : Int) (f : Int → Int → Int) (c x y : Int) : Int := if c = 1 then grn W H P K f x y else otg W H P f (grn W H P K f) c x y
theorem grn_b {W H P K : Int} {f : Int → Int → Int} (hW : 4 ≤ W) (hH : 4 ≤ H) (hf : FB W H f) : FB W H (grn W H P K f) := by
  intro x y hp
  obtain ⟨h1, h2, h3, h4⟩ := hp
  have m5 := mir_b (v := x - 1) hW (by omega) (by omega)
  have m6 := mir_b (v := x + 1) hW (by omega) (by omega)
  have m7 := mir_b (v := y - 1) hH (by omega) (by omega)
  have m8 := mir_b (v := y + 1) hH (by omega) (by omega)
  have b0 := hf x y ⟨h1, h2, h3, h4⟩
  have b1 := hf _ _ ⟨m5.1, m5.2, h3, h4⟩
  have b2 := hf _ _ ⟨m6.1, m6.2, h3, h4⟩
  have b3 := hf _ _ ⟨h1, h2, m7.1, m7.2⟩
  have b4 := hf _ _ ⟨h1, h2, m8.1, m8.2⟩
  unfold grn flt upr
  repeat' split
  all_goals omega
theorem otg_b {W H P : Int} {f g : Int → Int → Int} {c : Int} (hf : FB W H f) : FB W H (otg W H P f g c) := by
  intro x y hp
  have b0 := hf x y hp
  unfold otg
  repeat' split
  all_goals first | exact b0 | exact clp_b _
theorem flP_b {W H P K : Int} {f : Int → Int → Int} {c : Int} (hW : 4 ≤ W) (hH : 4 ≤ H) (hf : FB W H f) : FB W H (flP W H P K f c) := by
  intro x y hp
  unfold flP
  split
  · exact grn_b hW hH hf x y hp
  · exact otg_b hf x y hp
/-- a plane of a row of the reference -/
def Pl17 (κ : Hp) (A : Nat → Int) (k c : Int) (g : Int → Int → Int) : Prop := ∀ x y : Int, inP (κ 0 11) (κ 0 12) x y → A (768 * k + 256 * c + 16 * y + x).toNat = g x y
def Pl17u (κ : Hp) (A : Nat → Int) (k c : Int) (g : Int → Int → Int) (x0 y0 : Int) : Prop := ∀ x y : Int, inP (κ 0 11) (κ 0 12) x y → (y < y0 ∨ (y = y0 ∧ x < x0)) → A (768 * k + 256 * c + 16 * y + x).toNat = g x y
theorem Pl17u.nx {κ h : Hp} {k c : Int} {g : Int → Int → Int} {x0 y0 v : Int} (hk : 0 ≤ k) (hc : 0 ≤ c) (hW : κ 0 11 ≤ 16) (h0 : inP (κ 0 11) (κ 0 12) x0 y0) (r : Pl17u κ (h 17) k c g x0 y0) (hv : v = g x0 y0) : Pl17u κ (zwr h 17 (768 * k + 256 * c + 16 * y0 + x0).toNat v 17) k c g (x0 + 1) y0 := by
  intro x y h1 h2
  obtain ⟨g1, g2, g3, g4⟩ := h0
  obtain ⟨k1, k2, k3, k4⟩ := h1
  by_cases e : x = x0 ∧ y = y0
  · rw [e.1, e.2, zwr_eq]; exact hv
  · rw [zwr_ne (Or.inr (fun q => e (by omega)))]
    exact r x y ⟨k1, k2, k3, k4⟩ (by omega)
theorem Pl17u.rowx {κ : Hp} {A : Nat → Int} {k c : Int} {g : Int → Int → Int} {x0 y0 : Int} (r : Pl17u κ A k c g x0 y0) (hx : κ 0 11 ≤ x0) : Pl17u κ A k c g 0 (y0 + 1) := fun x y h1 h2 => r x y h1 (by have a := h1.1; have b := h1.2.1; omega)
theorem Pl17u.all {κ : Hp} {A : Nat → Int} {k c : Int} {g : Int → Int → Int} {y0 : Int} (r : Pl17u κ A k c g 0 y0) (hy : κ 0 12 ≤ y0) : Pl17 κ A k c g := fun x y h1 => r x y h1 (Or.inl (by have := h1.2.2.2; omega))
theorem Pl17u.no {κ : Hp} {A : Nat → Int} {k c : Int} {g : Int → Int → Int} : Pl17u κ A k c g 0 0 := fun x y h1 h2 => by obtain ⟨_, _, _, _⟩ := h1; omega
theorem pl_b {k c x y W H : Int} (h : inP W H x y) (hk : 0 ≤ k) (hc : 0 ≤ c ∧ c ≤ 2) (hW : W ≤ 16) (hH : H ≤ 16) : 768 * k + 256 * c ≤ ((768 * k + 256 * c + 16 * y + x).toNat : Int) ∧ ((768 * k + 256 * c + 16 * y + x).toNat : Int) < 768 * k + 256 * c + 256 := by
  obtain ⟨k1, k2, k3, k4⟩ := h
  omega
theorem Pl17.w {κ h : Hp} {k c : Int} {g : Int → Int → Int} {i : Nat} {v : Int} (r : Pl17 κ (h 17) k c g) (hk : 0 ≤ k) (hc : 0 ≤ c ∧ c ≤ 2) (hW : κ 0 11 ≤ 16) (hH : κ 0 12 ≤ 16) (hi : (i : Int) < 768 * k + 256 * c ∨ 768 * k + 256 * c + 256 ≤ (i : Int)) : Pl17 κ (zwr h 17 i v 17) k c g := fun x y h1 => by
  have b := pl_b h1 hk hc hW hH
  rw [zwr_ne (Or.inr (by omega))]
  exact r x y h1
theorem Pl17u.w {κ h : Hp} {k c : Int} {g : Int → Int → Int} {x0 y0 : Int} {i : Nat} {v : Int} (r : Pl17u κ (h 17) k c g x0 y0) (hk : 0 ≤ k) (hc : 0 ≤ c ∧ c ≤ 2) (hW : κ 0 11 ≤ 16) (hH : κ 0 12 ≤ 16) (hi : (i : Int) < 768 * k + 256 * c ∨ 768 * k + 256 * c + 256 ≤ (i : Int)) : Pl17u κ (zwr h 17 i v 17) k c g x0 y0 := fun x y h1 h2 => by
  have b := pl_b h1 hk hc hW hH
  rw [zwr_ne (Or.inr (by omega))]
  exact r x y h1 h2
theorem Pl17.oth {κ : Hp} {A B : Nat → Int} {j k c : Int} {g : Int → Int → Int} (hjk : j ≠ k) (hj : 0 ≤ j) (hk : 0 ≤ k) (hc : 0 ≤ c ∧ c ≤ 2) (hW : κ 0 11 ≤ 16) (hH : κ 0 12 ≤ 16) (o : Oth k A B) (r : Pl17 κ A j c g) : Pl17 κ B j c g := fun x y h1 => by
  have b := pl_b h1 hj hc hW hH
  rw [o _ (by omega)]
  exact r x y h1

abbrev q_X12_atZ (κ h : Hp) (x1 : Int) (x2 : Int) (x3 : Int) (x4 : Int) (g : Int → Int → Int) : Int → Hp → Prop := fun r h' => h' = h ∧ ((0 ≤ r) ∧ (r ≤ 4095) ∧ (r = g (mir x3 (κ 0 11)) (mir x4 (κ 0 12))))
set_option maxHeartbeats 4000000 in
set_option maxRecDepth 20000 in
theorem s_X12_atZ {G : Ga} {b : Bd} {κ h : Hp} (hK : KR κ) (hF : Fr b κ h) (x1 : Int) (hx1 : 0 ≤ x1 ∧ x1 ≤ 14) (x2 : Int) (hx2 : 0 ≤ x2 ∧ x2 ≤ 2) (x3 : Int) (hx3 : -2 ≤ x3 ∧ x3 ≤ 17 ∧ x3 - κ 0 11 ≤ 1) (x4 : Int) (hx4 : -2 ≤ x4 ∧ x4 ≤ 17 ∧ x4 - κ 0 12 ≤ 1) (g : Int → Int → Int) (hg : Pl17 κ (h 17) x1 x2 g) (hgb : FB (κ 0 11) (κ 0 12) g) : zM G mX12_at yX12_at [.inr (.inr 0), .inl x1, .inl x2, .inl x3, .inl x4] h (q_X12_atZ κ h x1 x2 x3 x4 g) := by
  have f_0_11 := KRw hK
  have f_0_12 := KRh hK
  refine zM_of [some (.inr (.inr 0)), some (.inl x1), some (.inl x2), some (.inl x3), some (.inl x4)] 0 rfl rfl (Nat.le_of_ble_eq_true rfl) rfl ?_
  refine zW_aload_n (pc' := 1) dX12_at_0.1.1.1.1 rfl rfl ?_
  refine zG_ref (pc' := 4) 17 fg_X12_60 tb0 rfl dX12_at_0.1.1.1.2 rfl ?_
  refine zW_sipush (pc' := 7) dX12_at_0.1.1.2.1 rfl rfl ?_
  refine zW_iload_n (pc' := 8) dX12_at_0.1.1.2.2 rfl rfl ?_
  refine zW_imul (pc' := 9) dX12_at_0.1.2.1.1 rfl ?_
  refine zW_sipush (pc' := 12) dX12_at_0.1.2.1.2 rfl rfl ?_
  refine zW_iload_n (pc' := 13) dX12_at_0.1.2.2.1 rfl rfl ?_
  refine zW_imul (pc' := 14) dX12_at_0.1.2.2.2 rfl ?_
  refine zW_iadd (pc' := 15) dX12_at_0.2.1.1.1 rfl ?_
  refine zW_bipush (pc' := 17) dX12_at_0.2.1.1.2 rfl rfl ?_
  refine zW_iload (pc' := 19) dX12_at_0.2.1.2.1 rfl rfl ?_
  refine zW_aload_n (pc' := 20) dX12_at_0.2.1.2.2 rfl rfl ?_
  refine zG_key (pc' := 23) hF rfl fg_X12_103 tb0 rfl dX12_at_0.2.2.1.1 rfl ?_
  refine csI2 (pc' := 26) kX12_mirrored vX12_mirrored lk_X12_236 ⟨Nat.le_of_ble_eq_true rfl, Nat.le_of_ble_eq_true rfl⟩ rfl (s_X12_mirroredZ hF _ ⟨by omega, by omega⟩ _ ⟨by omega, by omega⟩ (by omega)) dX12_at_0.2.2.1.2 (Nat.le_of_ble_eq_true rfl) rfl ?_
  rintro r23 z23 ⟨hz23, p23⟩; subst z23
  refine zW_imul (pc' := 27) dX12_at_0.2.2.2.1 rfl ?_
  refine zW_iadd (pc' := 28) dX12_at_0.2.2.2.2 rfl ?_
  refine zW_iload_n (pc' := 29) dX12_at_1.1.1.1 rfl rfl ?_
  refine zW_aload_n (pc' := 30) dX12_at_1.1.1.2 rfl rfl ?_
  refine zG_key (pc' := 33) hF rfl fg_X12_99 tb0 rfl dX12_at_1.1.2.1 rfl ?_
  refine csI2 (pc' := 36) kX12_mirrored vX12_mirrored lk_X12_236 ⟨Nat.le_of_ble_eq_true rfl, Nat.le_of_ble_eq_true rfl⟩ rfl (s_X12_mirroredZ hF _ ⟨by omega, by omega⟩ _ ⟨by omega, by omega⟩ (by omega)) dX12_at_1.1.2.2 (Nat.le_of_ble_eq_true rfl) rfl ?_
  rintro r33 z33 ⟨hz33, p33⟩; subst z33
  refine zW_iadd (pc' := 37) dX12_at_1.2.1.1 rfl ?_
  refine zV_iald (pc' := 38) tb17 (by omega) dX12_at_1.2.1.2 (by decide) rfl ?_
  exact zV_iret rfl dX12_at_1.2.2 ⟨rfl, (by have m1 := mir_b (v := x3) (n := κ 0 11) (by omega) (by omega) (by omega); have m2 := mir_b (v := x4) (n := κ 0 12) (by omega) (by omega) (by omega); have z := hg (mir x3 (κ 0 11)) (mir x4 (κ 0 12)) ⟨m1.1, m1.2, m2.1, m2.2⟩; have b := hgb (mir x3 (κ 0 11)) (mir x4 (κ 0 12)) ⟨m1.1, m1.2, m2.1, m2.2⟩; rw [← z] at b ⊢; have e : 768 * x1 + 256 * x2 + 16 * r23 + r33 = 768 * x1 + 256 * x2 + 16 * mir x4 (κ 0 12) + mir x3 (κ 0 11) := (by omega); rw [e]; exact ⟨b.1, b.2, rfl⟩)⟩

abbrev q_X12_greenOfZ (κ h : Hp) (x1 : Int) (x2 : Int) (x3 : Int) (x4 : Int) (f : Int → Int → Int) : Int → Hp → Prop := fun r h' => h' = h ∧ ((0 ≤ r) ∧ (r ≤ 4095) ∧ (r = grn (κ 0 11) (κ 0 12) (κ 0 13) x4 f x2 x3))
set_option maxHeartbeats 4000000 in
set_option maxRecDepth 20000 in
theorem s_X12_greenOfZ {G : Ga} {b : Bd} {κ h : Hp} (hK : KR κ) (hF : Fr b κ h) (x1 : Int) (hx1 : 0 ≤ x1 ∧ x1 ≤ 14) (x2 : Int) (hx2 : 0 ≤ x2 ∧ x2 ≤ 15 ∧ x2 - κ 0 11 ≤ -1) (x3 : Int) (hx3 : 0 ≤ x3 ∧ x3 ≤ 15 ∧ x3 - κ 0 12 ≤ -1) (x4 : Int) (hx4 : 0 ≤ x4 ∧ x4 ≤ 1) (f : Int → Int → Int) (hf : Row17 κ (h 17) x1 f) (hfb : FB (κ 0 11) (κ 0 12) f) : zM G mX12_greenOf yX12_greenOf [.inr (.inr 0), .inl x1, .inl x2, .inl x3, .inl x4] h (q_X12_greenOfZ κ h x1 x2 x3 x4 f) := by
  have f_0_11 := KRw hK
  have f_0_12 := KRh hK
  have f_0_13 := KRp hK
  refine zM_of [some (.inr (.inr 0)), some (.inl x1), some (.inl x2), some (.inl x3), some (.inl x4), none, none, none] 3 rfl rfl (Nat.le_of_ble_eq_true rfl) rfl ?_
  refine zW_aload_n (pc' := 1) dX12_greenOf_0.1.1.1.1 rfl rfl ?_
  refine zW_iload_n (pc' := 2) dX12_greenOf_0.1.1.1.2 rfl rfl ?_
  refine zW_iload_n (pc' := 3) dX12_greenOf_0.1.1.2.1 rfl rfl ?_
  refine cvI2 (pc' := 6) kX12_colourAt vX12_colourAt lk_X12_225 ⟨Nat.le_of_ble_eq_true rfl, Nat.le_of_ble_eq_true rfl⟩ tb0 vq12 rfl rfl (s_X12_colourAtZ hK hF _ ⟨by omega, by omega⟩ _ ⟨by omega, by omega⟩) dX12_greenOf_0.1.1.2.2 (Nat.le_of_ble_eq_true rfl) rfl ?_
  rintro r3 z3 ⟨hz3, p3⟩; subst z3
  refine zW_iconst (pc' := 7) dX12_greenOf_0.1.2.1.1 rfl ?_
  refine zV_cm_ne (tgt := 18) (pc' := 10) dX12_greenOf_0.1.2.1.2 rfl rfl ⟨by omega, by omega⟩ ⟨by omega, by omega⟩ (fun c7 => ?_) (fun c7 => ?_)
  · refine zW_aload_n (pc' := 19) dX12_greenOf_0.2.2.1.1 rfl rfl ?_
    refine zW_iload_n (pc' := 20) dX12_greenOf_0.2.2.1.2 rfl rfl ?_
    refine zW_iload_n (pc' := 21) dX12_greenOf_0.2.2.2.1 rfl rfl ?_
    refine zW_iconst (pc' := 22) dX12_greenOf_0.2.2.2.2 rfl ?_
    refine zW_isub (pc' := 23) dX12_greenOf_1.1.1.1.1 rfl ?_
    refine zW_iload_n (pc' := 24) dX12_greenOf_1.1.1.1.2 rfl rfl ?_
    refine cvI3 (pc' := 27) kX12_own vX12_own lk_X12_246 ⟨Nat.le_of_ble_eq_true rfl, Nat.le_of_ble_eq_true rfl⟩ tb0 vq12 rfl rfl (s_X12_ownZ hK hF _ ⟨by omega, by omega⟩ _ ⟨by omega, by omega, by omega⟩ _ ⟨by omega, by omega, by omega⟩ f (by omega) (by omega)) dX12_greenOf_1.1.1.2.1 (Nat.le_of_ble_eq_true rfl) rfl ?_
    rintro r24 z24 ⟨hz24, p24⟩; subst z24
    refine zW_aload_n (pc' := 28) dX12_greenOf_1.1.1.2.2 rfl rfl ?_
    refine zW_iload_n (pc' := 29) dX12_greenOf_1.1.2.1.1 rfl rfl ?_
    refine zW_iload_n (pc' := 30) dX12_greenOf_1.1.2.1.2 rfl rfl ?_
    refine zW_iconst (pc' := 31) dX12_greenOf_1.1.2.2.1 rfl ?_
    refine zW_iadd (pc' := 32) dX12_greenOf_1.1.2.2.2 rfl ?_
    refine zW_iload_n (pc' := 33) dX12_greenOf_1.2.1.1.1 rfl rfl ?_
    refine cvI3 (pc' := 36) kX12_own vX12_own lk_X12_246 ⟨Nat.le_of_ble_eq_true rfl, Nat.le_of_ble_eq_true rfl⟩ tb0 vq12 rfl rfl (s_X12_ownZ hK hF _ ⟨by omega, by omega⟩ _ ⟨by omega, by omega, by omega⟩ _ ⟨by omega, by omega, by omega⟩ f (by omega) (by omega)) dX12_greenOf_1.2.1.1.2 (Nat.le_of_ble_eq_true rfl) rfl ?_
    rintro r33 z33 ⟨hz33, p33⟩; subst z33
    refine zW_iadd (pc' := 37) dX12_greenOf_1.2.1.2.1 rfl ?_
    refine zW_istore (ls' := [_, _, _, _, _, _, _, _]) (pc' := 39) dX12_greenOf_1.2.1.2.2 (by decide) rfl rfl rfl ?_
    refine zW_aload_n (pc' := 40) dX12_greenOf_1.2.2.1.1 rfl rfl ?_
    refine zW_iload_n (pc' := 41) dX12_greenOf_1.2.2.1.2 rfl rfl ?_
    refine zW_iload_n (pc' := 42) dX12_greenOf_1.2.2.2.1 rfl rfl ?_
    refine zW_iload_n (pc' := 43) dX12_greenOf_1.2.2.2.2 rfl rfl ?_
    refine zW_iconst (pc' := 44) dX12_greenOf_2.1.1.1.1 rfl ?_
    refine zW_isub (pc' := 45) dX12_greenOf_2.1.1.1.2 rfl ?_
    refine cvI3 (pc' := 48) kX12_own vX12_own lk_X12_246 ⟨Nat.le_of_ble_eq_true rfl, Nat.le_of_ble_eq_true rfl⟩ tb0 vq12 rfl rfl (s_X12_ownZ hK hF _ ⟨by omega, by omega⟩ _ ⟨by omega, by omega, by omega⟩ _ ⟨by omega, by omega, by omega⟩ f (by omega) (by omega)) dX12_greenOf_2.1.1.2.1 (Nat.le_of_ble_eq_true rfl) rfl ?_
    rintro r45 z45 ⟨hz45, p45⟩; subst z45
    refine zW_aload_n (pc' := 49) dX12_greenOf_2.1.1.2.2 rfl rfl ?_
    refine zW_iload_n (pc' := 50) dX12_greenOf_2.1.2.1.1 rfl rfl ?_
    refine zW_iload_n (pc' := 51) dX12_greenOf_2.1.2.1.2 rfl rfl ?_
    refine zW_iload_n (pc' := 52) dX12_greenOf_2.1.2.2.1 rfl rfl ?_
    refine zW_iconst (pc' := 53) dX12_greenOf_2.1.2.2.2 rfl ?_
    refine zW_iadd (pc' := 54) dX12_greenOf_2.2.1.1.1 rfl ?_
    refine cvI3 (pc' := 57) kX12_own vX12_own lk_X12_246 ⟨Nat.le_of_ble_eq_true rfl, Nat.le_of_ble_eq_true rfl⟩ tb0 vq12 rfl rfl (s_X12_ownZ hK hF _ ⟨by omega, by omega⟩ _ ⟨by omega, by omega, by omega⟩ _ ⟨by omega, by omega, by omega⟩ f (by omega) (by omega)) dX12_greenOf_2.2.1.1.2 (Nat.le_of_ble_eq_true rfl) rfl ?_
    rintro r54 z54 ⟨hz54, p54⟩; subst z54
    refine zW_iadd (pc' := 58) dX12_greenOf_2.2.1.2.1 rfl ?_
    refine zW_istore (ls' := [_, _, _, _, _, _, _, _]) (pc' := 60) dX12_greenOf_2.2.1.2.2 (by decide) rfl rfl rfl ?_
    have mx := mir_i (v := x2) (n := κ 0 11) ⟨by omega, by omega⟩
    have my := mir_i (v := x3) (n := κ 0 12) ⟨by omega, by omega⟩
    rw [my] at p24 p33
    rw [mx] at p45 p54
    have ef : r24 + r33 = flt (κ 0 11) f x2 x3 := by unfold flt; omega
    have eu : r45 + r54 = upr (κ 0 12) f x2 x3 := by unfold upr; omega
    refine zW_iload (pc' := 62) dX12_greenOf_2.2.2.1.1 rfl rfl ?_
    refine zV_if_ne (tgt := 69) (pc' := 65) dX12_greenOf_2.2.2.1.2 rfl rfl ⟨by omega, by omega⟩ (fun c62 => ?_) (fun c62 => ?_)
    · refine zW_aload_n (pc' := 70) dX12_greenOf_3.1.1.1.1 rfl rfl ?_
      refine zW_iload_n (pc' := 71) dX12_greenOf_3.1.1.1.2 rfl rfl ?_
      refine zW_iload_n (pc' := 72) dX12_greenOf_3.1.1.2.1 rfl rfl ?_
      refine zW_iload_n (pc' := 73) dX12_greenOf_3.1.1.2.2 rfl rfl ?_
      refine cvI3 (pc' := 76) kX12_wayOf vX12_wayOf lk_X12_274 ⟨Nat.le_of_ble_eq_true rfl, Nat.le_of_ble_eq_true rfl⟩ tb0 vq12 rfl rfl (s_X12_wayOfZ hK hF _ ⟨by omega, by omega⟩ _ ⟨by omega, by omega, by omega⟩ _ ⟨by omega, by omega, by omega⟩ f (by omega) (by omega)) dX12_greenOf_3.1.2.1.1 (Nat.le_of_ble_eq_true rfl) rfl ?_
      rintro r73 z73 ⟨hz73, p73⟩; subst z73
      refine zW_istore (ls' := [_, _, _, _, _, _, _, _]) (pc' := 78) dX12_greenOf_3.1.2.1.2 (by decide) rfl rfl rfl ?_
      refine zW_iload (pc' := 80) dX12_greenOf_3.1.2.2.1 rfl rfl ?_
      refine zV_if_ne (tgt := 90) (pc' := 83) dX12_greenOf_3.1.2.2.2 rfl rfl ⟨by omega, by omega⟩ (fun c80 => ?_) (fun c80 => ?_)
      · refine zW_iload (pc' := 92) dX12_greenOf_3.2.2.1.1 rfl rfl ?_
        refine zW_iconst (pc' := 93) dX12_greenOf_3.2.2.1.2 rfl ?_
        refine zV_cm_ne (tgt := 103) (pc' := 96) dX12_greenOf_3.2.2.2.1 rfl rfl ⟨by omega, by omega⟩ ⟨by omega, by omega⟩ (fun c93 => ?_) (fun c93 => ?_)
        · refine zW_iload (pc' := 105) dX12_greenOf_4.1.2.1 rfl rfl ?_
          refine zW_iload (pc' := 107) dX12_greenOf_4.1.2.2 rfl rfl ?_
          refine zW_iadd (pc' := 108) dX12_greenOf_4.2.1.1 rfl ?_
          refine zW_iconst (pc' := 109) dX12_greenOf_4.2.1.2 rfl ?_
          refine zW_idiv (pc' := 110) (by omega) (by omega) dX12_greenOf_4.2.2.1 rfl ?_
          exact zV_iret rfl dX12_greenOf_4.2.2.2 ⟨rfl, (by unfold grn; unfold cl; rw [if_neg (by omega)]; first | (rw [if_pos (by omega), ← ef, ← eu]; exact ⟨by omega, by omega, rfl⟩) | (rw [if_neg (by omega), if_pos (by omega), ← ef]; exact ⟨by omega, by omega, rfl⟩) | (rw [if_neg (by omega), if_neg (by omega), if_pos (by omega), ← eu]; exact ⟨by omega, by omega, rfl⟩) | (rw [if_neg (by omega), if_neg (by omega), if_neg (by omega), ← ef, ← eu]; exact ⟨by omega, by omega, rfl⟩))⟩
        · refine zW_iload (pc' := 98) dX12_greenOf_3.2.2.2.2 rfl rfl ?_
          refine zW_iconst (pc' := 99) dX12_greenOf_4.1.1.1.1 rfl ?_
          refine zW_idiv (pc' := 100) (by omega) (by omega) dX12_greenOf_4.1.1.1.2 rfl ?_
          refine zV_goto 110 dX12_greenOf_4.1.1.2 rfl ?_
          exact zV_iret rfl dX12_greenOf_4.2.2.2 ⟨rfl, (by unfold grn; unfold cl; rw [if_neg (by omega)]; first | (rw [if_pos (by omega), ← ef, ← eu]; exact ⟨by omega, by omega, rfl⟩) | (rw [if_neg (by omega), if_pos (by omega), ← ef]; exact ⟨by omega, by omega, rfl⟩) | (rw [if_neg (by omega), if_neg (by omega), if_pos (by omega), ← eu]; exact ⟨by omega, by omega, rfl⟩) | (rw [if_neg (by omega), if_neg (by omega), if_neg (by omega), ← ef, ← eu]; exact ⟨by omega, by omega, rfl⟩))⟩
      · refine zW_iload (pc' := 85) dX12_greenOf_3.2.1.1.1 rfl rfl ?_
        refine zW_iconst (pc' := 86) dX12_greenOf_3.2.1.1.2 rfl ?_
        refine zW_idiv (pc' := 87) (by omega) (by omega) dX12_greenOf_3.2.1.2.1 rfl ?_
        refine zV_goto 110 dX12_greenOf_3.2.1.2.2 rfl ?_
        exact zV_iret rfl dX12_greenOf_4.2.2.2 ⟨rfl, (by unfold grn; unfold cl; rw [if_neg (by omega)]; first | (rw [if_pos (by omega), ← ef, ← eu]; exact ⟨by omega, by omega, rfl⟩) | (rw [if_neg (by omega), if_pos (by omega), ← ef]; exact ⟨by omega, by omega, rfl⟩) | (rw [if_neg (by omega), if_neg (by omega), if_pos (by omega), ← eu]; exact ⟨by omega, by omega, rfl⟩) | (rw [if_neg (by omega), if_neg (by omega), if_neg (by omega), ← ef, ← eu]; exact ⟨by omega, by omega, rfl⟩))⟩
    · refine zW_iconst (pc' := 66) dX12_greenOf_2.2.2.2.1 rfl ?_
      refine zV_goto 76 dX12_greenOf_2.2.2.2.2 rfl ?_
      refine zW_istore (ls' := [_, _, _, _, _, _, _, _]) (pc' := 78) dX12_greenOf_3.1.2.1.2 (by decide) rfl rfl rfl ?_
      refine zW_iload (pc' := 80) dX12_greenOf_3.1.2.2.1 rfl rfl ?_
      refine zV_if_ne (tgt := 90) (pc' := 83) dX12_greenOf_3.1.2.2.2 rfl rfl ⟨by omega, by omega⟩ (fun c80 => ?_) (fun c80 => ?_)
      · refine zW_iload (pc' := 92) dX12_greenOf_3.2.2.1.1 rfl rfl ?_
        refine zW_iconst (pc' := 93) dX12_greenOf_3.2.2.1.2 rfl ?_
        refine zV_cm_ne (tgt := 103) (pc' := 96) dX12_greenOf_3.2.2.2.1 rfl rfl ⟨by omega, by omega⟩ ⟨by omega, by omega⟩ (fun c93 => ?_) (fun c93 => ?_)
        · refine zW_iload (pc' := 105) dX12_greenOf_4.1.2.1 rfl rfl ?_
          refine zW_iload (pc' := 107) dX12_greenOf_4.1.2.2 rfl rfl ?_
          refine zW_iadd (pc' := 108) dX12_greenOf_4.2.1.1 rfl ?_
          refine zW_iconst (pc' := 109) dX12_greenOf_4.2.1.2 rfl ?_
          refine zW_idiv (pc' := 110) (by omega) (by omega) dX12_greenOf_4.2.2.1 rfl ?_
          exact zV_iret rfl dX12_greenOf_4.2.2.2 ⟨rfl, (by unfold grn; unfold cl; rw [if_neg (by omega)]; first | (rw [if_pos (by omega), ← ef, ← eu]; exact ⟨by omega, by omega, rfl⟩) | (rw [if_neg (by omega), if_pos (by omega), ← ef]; exact ⟨by omega, by omega, rfl⟩) | (rw [if_neg (by omega), if_neg (by omega), if_pos (by omega), ← eu]; exact ⟨by omega, by omega, rfl⟩) | (rw [if_neg (by omega), if_neg (by omega), if_neg (by omega), ← ef, ← eu]; exact ⟨by omega, by omega, rfl⟩))⟩
        · exfalso; omega
      · exfalso; omega
  · refine zW_aload_n (pc' := 11) dX12_greenOf_0.1.2.2.1 rfl rfl ?_
    refine zW_iload_n (pc' := 12) dX12_greenOf_0.1.2.2.2 rfl rfl ?_
    refine zW_iload_n (pc' := 13) dX12_greenOf_0.2.1.1.1 rfl rfl ?_
    refine zW_iload_n (pc' := 14) dX12_greenOf_0.2.1.1.2 rfl rfl ?_
    refine cvI3 (pc' := 17) kX12_own vX12_own lk_X12_246 ⟨Nat.le_of_ble_eq_true rfl, Nat.le_of_ble_eq_true rfl⟩ tb0 vq12 rfl rfl (s_X12_ownZ hK hF _ ⟨by omega, by omega⟩ _ ⟨by omega, by omega, by omega⟩ _ ⟨by omega, by omega, by omega⟩ f (by omega) (by omega)) dX12_greenOf_0.2.1.2.1 (Nat.le_of_ble_eq_true rfl) rfl ?_
    rintro r14 z14 ⟨hz14, p14⟩; subst z14
    exact zV_iret rfl dX12_greenOf_0.2.1.2.2 ⟨rfl, (by have mx := mir_i (v := x2) (n := κ 0 11) ⟨by omega, by omega⟩; have my := mir_i (v := x3) (n := κ 0 12) ⟨by omega, by omega⟩; rw [mx, my] at p14; unfold grn; rw [if_pos (by unfold cl; omega)]; exact p14)⟩

abbrev q_X12_overZ (κ h : Hp) (x1 : Int) (x2 : Int) (x3 : Int) (x4 : Int) (f : Int → Int → Int) (g : Int → Int → Int) : Int → Hp → Prop := fun r h' => h' = h ∧ ((-4095 ≤ r) ∧ (r ≤ 4095) ∧ (r = ovr (κ 0 11) (κ 0 12) f g x3 x4))
set_option maxHeartbeats 4000000 in
set_option maxRecDepth 20000 in
theorem s_X12_overZ {G : Ga} {b : Bd} {κ h : Hp} (hK : KR κ) (hF : Fr b κ h) (x1 : Int) (hx1 : 0 ≤ x1 ∧ x1 ≤ 14) (x2 : Int) (hx2 : 0 ≤ x2 ∧ x2 ≤ 14) (x3 : Int) (hx3 : -2 ≤ x3 ∧ x3 ≤ 17 ∧ x3 - κ 0 11 ≤ 1) (x4 : Int) (hx4 : -2 ≤ x4 ∧ x4 ≤ 17 ∧ x4 - κ 0 12 ≤ 1) (f : Int → Int → Int) (g : Int → Int → Int) (hf : Row17 κ (h 17) x1 f) (hfb : FB (κ 0 11) (κ 0 12) f) (hg : Pl17 κ (h 17) x2 1 g) (hgb : FB (κ 0 11) (κ 0 12) g) : zM G mX12_over yX12_over [.inr (.inr 0), .inl x1, .inl x2, .inl x3, .inl x4] h (q_X12_overZ κ h x1 x2 x3 x4 f g) := by
  have f_0_11 := KRw hK
  have f_0_12 := KRh hK
  refine zM_of [some (.inr (.inr 0)), some (.inl x1), some (.inl x2), some (.inl x3), some (.inl x4)] 0 rfl rfl (Nat.le_of_ble_eq_true rfl) rfl ?_
  refine zW_aload_n (pc' := 1) dX12_over_0.1.1.1.1 rfl rfl ?_
  refine zW_iload_n (pc' := 2) dX12_over_0.1.1.1.2 rfl rfl ?_
  refine zW_iload_n (pc' := 3) dX12_over_0.1.1.2.1 rfl rfl ?_
  refine zW_iload (pc' := 5) dX12_over_0.1.1.2.2 rfl rfl ?_
  refine cvI3 (pc' := 8) kX12_own vX12_own lk_X12_246 ⟨Nat.le_of_ble_eq_true rfl, Nat.le_of_ble_eq_true rfl⟩ tb0 vq12 rfl rfl (s_X12_ownZ hK hF _ ⟨by omega, by omega⟩ _ ⟨by omega, by omega, by omega⟩ _ ⟨by omega, by omega, by omega⟩ f (by omega) (by omega)) dX12_over_0.1.2.1.1 (Nat.le_of_ble_eq_true rfl) rfl ?_
  rintro r5 z5 ⟨hz5, p5⟩; subst z5
  refine zW_aload_n (pc' := 9) dX12_over_0.1.2.1.2 rfl rfl ?_
  refine zW_iload_n (pc' := 10) dX12_over_0.1.2.2 rfl rfl ?_
  refine zW_iconst (pc' := 11) dX12_over_0.2.1.1.1 rfl ?_
  refine zW_iload_n (pc' := 12) dX12_over_0.2.1.1.2 rfl rfl ?_
  refine zW_iload (pc' := 14) dX12_over_0.2.1.2 rfl rfl ?_
  refine cvI4 (pc' := 17) kX12_at vX12_at lk_X12_277 ⟨Nat.le_of_ble_eq_true rfl, Nat.le_of_ble_eq_true rfl⟩ tb0 vq12 rfl rfl (s_X12_atZ hK hF _ ⟨by omega, by omega⟩ _ ⟨by omega, by omega⟩ _ ⟨by omega, by omega, by omega⟩ _ ⟨by omega, by omega, by omega⟩ g hg (by omega)) dX12_over_0.2.2.1.1 (Nat.le_of_ble_eq_true rfl) rfl ?_
  rintro r14 z14 ⟨hz14, p14⟩; subst z14
  refine zW_isub (pc' := 18) dX12_over_0.2.2.1.2 rfl ?_
  exact zV_iret rfl dX12_over_0.2.2.2 ⟨rfl, ⟨by omega, by omega, by unfold ovr; omega⟩⟩

abbrev q_X12_otherOfZ (κ h : Hp) (x1 : Int) (x2 : Int) (x3 : Int) (x4 : Int) (x5 : Int) (f : Int → Int → Int) (g : Int → Int → Int) : Int → Hp → Prop := fun r h' => h' = h ∧ ((0 ≤ r) ∧ (r ≤ 4095) ∧ (r = otg (κ 0 11) (κ 0 12) (κ 0 13) f g x3 x4 x5))
set_option maxHeartbeats 4000000 in
set_option maxRecDepth 20000 in
theorem s_X12_otherOfZ {G : Ga} {b : Bd} {κ h : Hp} (hK : KR κ) (hF : Fr b κ h) (x1 : Int) (hx1 : 0 ≤ x1 ∧ x1 ≤ 14) (x2 : Int) (hx2 : 0 ≤ x2 ∧ x2 ≤ 14) (x3 : Int) (hx3 : 0 ≤ x3 ∧ x3 ≤ 2) (x4 : Int) (hx4 : 0 ≤ x4 ∧ x4 ≤ 15 ∧ x4 - κ 0 11 ≤ -1) (x5 : Int) (hx5 : 0 ≤ x5 ∧ x5 ≤ 15 ∧ x5 - κ 0 12 ≤ -1) (f : Int → Int → Int) (g : Int → Int → Int) (hf : Row17 κ (h 17) x1 f) (hfb : FB (κ 0 11) (κ 0 12) f) (hg : Pl17 κ (h 17) x2 1 g) (hgb : FB (κ 0 11) (κ 0 12) g) (hc : x3 ≠ 1) : zM G mX12_otherOf yX12_otherOf [.inr (.inr 0), .inl x1, .inl x2, .inl x3, .inl x4, .inl x5] h (q_X12_otherOfZ κ h x1 x2 x3 x4 x5 f g) := by
  have f_0_11 := KRw hK
  have f_0_12 := KRh hK
  have f_0_13 := KRp hK
  refine zM_of [some (.inr (.inr 0)), some (.inl x1), some (.inl x2), some (.inl x3), some (.inl x4), some (.inl x5), none, none, none, none] 4 rfl rfl (Nat.le_of_ble_eq_true rfl) rfl ?_
  refine zW_aload_n (pc' := 1) dX12_otherOf_0.1.1.1.1 rfl rfl ?_
  refine zW_iload (pc' := 3) dX12_otherOf_0.1.1.1.2 rfl rfl ?_
  refine zW_iload (pc' := 5) dX12_otherOf_0.1.1.2.1 rfl rfl ?_
  refine cvI2 (pc' := 8) kX12_colourAt vX12_colourAt lk_X12_225 ⟨Nat.le_of_ble_eq_true rfl, Nat.le_of_ble_eq_true rfl⟩ tb0 vq12 rfl rfl (s_X12_colourAtZ hK hF _ ⟨by omega, by omega⟩ _ ⟨by omega, by omega⟩) dX12_otherOf_0.1.1.2.2 (Nat.le_of_ble_eq_true rfl) rfl ?_
  rintro r5 z5 ⟨hz5, p5⟩; subst z5
  refine zW_istore (ls' := [_, _, _, _, _, _, _, _, _, _]) (pc' := 10) dX12_otherOf_0.1.2.1.1 (by decide) rfl rfl rfl ?_
  refine zW_iload (pc' := 12) dX12_otherOf_0.1.2.1.2 rfl rfl ?_
  refine zW_iload_n (pc' := 13) dX12_otherOf_0.1.2.2.1 rfl rfl ?_
  refine zV_cm_ne (tgt := 26) (pc' := 16) dX12_otherOf_0.1.2.2.2 rfl rfl ⟨by omega, by omega⟩ ⟨by omega, by omega⟩ (fun c13 => ?_) (fun c13 => ?_)
  · have mx := mir_i (v := x4) (n := κ 0 11) ⟨by omega, by omega⟩
    have my := mir_i (v := x5) (n := κ 0 12) ⟨by omega, by omega⟩
    refine zW_aload_n (pc' := 27) dX12_otherOf_0.2.2.2.1 rfl rfl ?_
    refine zW_iload_n (pc' := 28) dX12_otherOf_0.2.2.2.2 rfl rfl ?_
    refine zW_iconst (pc' := 29) dX12_otherOf_1.1.1.1.1 rfl ?_
    refine zW_iload (pc' := 31) dX12_otherOf_1.1.1.1.2 rfl rfl ?_
    refine zW_iload (pc' := 33) dX12_otherOf_1.1.1.2.1 rfl rfl ?_
    refine cvI4 (pc' := 36) kX12_at vX12_at lk_X12_277 ⟨Nat.le_of_ble_eq_true rfl, Nat.le_of_ble_eq_true rfl⟩ tb0 vq12 rfl rfl (s_X12_atZ hK hF _ ⟨by omega, by omega⟩ _ ⟨by omega, by omega⟩ _ ⟨by omega, by omega, by omega⟩ _ ⟨by omega, by omega, by omega⟩ g hg (by omega)) dX12_otherOf_1.1.1.2.2 (Nat.le_of_ble_eq_true rfl) rfl ?_
    rintro r33 z33 ⟨hz33, p33⟩; subst z33
    rw [mx, my] at p33
    refine zW_istore (ls' := [_, _, _, _, _, _, _, _, _, _]) (pc' := 38) dX12_otherOf_1.1.2.1.1 (by decide) rfl rfl rfl ?_
    refine zW_iload (pc' := 40) dX12_otherOf_1.1.2.1.2 rfl rfl ?_
    refine zW_iconst (pc' := 41) dX12_otherOf_1.1.2.2.1 rfl ?_
    refine zV_cm_eq (tgt := 112) (pc' := 44) dX12_otherOf_1.1.2.2.2 rfl rfl ⟨by omega, by omega⟩ ⟨by omega, by omega⟩ (fun c41 => ?_) (fun c41 => ?_)
    · refine zW_aload_n (pc' := 113) dX12_otherOf_4.2.1.1.2 rfl rfl ?_
      refine zW_iload (pc' := 115) dX12_otherOf_4.2.1.2.1 rfl rfl ?_
      refine zW_iconst (pc' := 116) dX12_otherOf_4.2.1.2.2 rfl ?_
      refine zW_iadd (pc' := 117) dX12_otherOf_4.2.2.1.1 rfl ?_
      refine zW_aload_n (pc' := 118) dX12_otherOf_4.2.2.1.2 rfl rfl ?_
      refine zG_key (pc' := 121) hF rfl fg_X12_99 tb0 rfl dX12_otherOf_4.2.2.2.1 rfl ?_
      refine csI2 (pc' := 124) kX12_mirrored vX12_mirrored lk_X12_236 ⟨Nat.le_of_ble_eq_true rfl, Nat.le_of_ble_eq_true rfl⟩ rfl (s_X12_mirroredZ hF _ ⟨by omega, by omega⟩ _ ⟨by omega, by omega⟩ (by omega)) dX12_otherOf_4.2.2.2.2 (Nat.le_of_ble_eq_true rfl) rfl ?_
      rintro r121 z121 ⟨hz121, p121⟩; subst z121
      refine zW_iload (pc' := 126) dX12_otherOf_5.1.1.1.1 rfl rfl ?_
      refine cvI2 (pc' := 129) kX12_colourAt vX12_colourAt lk_X12_225 ⟨Nat.le_of_ble_eq_true rfl, Nat.le_of_ble_eq_true rfl⟩ tb0 vq12 rfl rfl (s_X12_colourAtZ hK hF _ ⟨by omega, by omega⟩ _ ⟨by omega, by omega⟩) dX12_otherOf_5.1.1.1.2 (Nat.le_of_ble_eq_true rfl) rfl ?_
      rintro r126 z126 ⟨hz126, p126⟩; subst z126
      refine zW_iload_n (pc' := 130) dX12_otherOf_5.1.1.2.1 rfl rfl ?_
      refine zV_cm_ne (tgt := 137) (pc' := 133) dX12_otherOf_5.1.1.2.2 rfl rfl ⟨by omega, by omega⟩ ⟨by omega, by omega⟩ (fun c130 => ?_) (fun c130 => ?_)
      · refine zW_iconst (pc' := 138) dX12_otherOf_5.1.2.2.1 rfl ?_
        refine zW_istore (ls' := [_, _, _, _, _, _, _, _, _, _]) (pc' := 140) dX12_otherOf_5.1.2.2.2 (by decide) rfl rfl rfl ?_
        refine zW_iload (pc' := 142) dX12_otherOf_5.2.1.1.1 rfl rfl ?_
        refine zV_if_eq (tgt := 173) (pc' := 145) dX12_otherOf_5.2.1.1.2 rfl rfl ⟨by omega, by omega⟩ (fun c142 => ?_) (fun c142 => ?_)
        · refine zW_aload_n (pc' := 174) dX12_otherOf_6.2.2.1.1 rfl rfl ?_
          refine zW_iload_n (pc' := 175) dX12_otherOf_6.2.2.1.2 rfl rfl ?_
          refine zW_iload_n (pc' := 176) dX12_otherOf_6.2.2.2.1 rfl rfl ?_
          refine zW_iload (pc' := 178) dX12_otherOf_6.2.2.2.2 rfl rfl ?_
          refine zW_iload (pc' := 180) dX12_otherOf_7.1.1.1.1 rfl rfl ?_
          refine zW_iconst (pc' := 181) dX12_otherOf_7.1.1.1.2 rfl ?_
          refine zW_isub (pc' := 182) dX12_otherOf_7.1.1.2.1 rfl ?_
          refine cvI4 (pc' := 185) kX12_over vX12_over lk_X12_280 ⟨Nat.le_of_ble_eq_true rfl, Nat.le_of_ble_eq_true rfl⟩ tb0 vq12 rfl rfl (s_X12_overZ hK hF _ ⟨by omega, by omega⟩ _ ⟨by omega, by omega⟩ _ ⟨by omega, by omega, by omega⟩ _ ⟨by omega, by omega, by omega⟩ f g (by omega) (by omega) hg (by omega)) dX12_otherOf_7.1.1.2.2 (Nat.le_of_ble_eq_true rfl) rfl ?_
          rintro r182 z182 ⟨hz182, p182⟩; subst z182
          refine zW_aload_n (pc' := 186) dX12_otherOf_7.1.2.1.1 rfl rfl ?_
          refine zW_iload_n (pc' := 187) dX12_otherOf_7.1.2.1.2 rfl rfl ?_
          refine zW_iload_n (pc' := 188) dX12_otherOf_7.1.2.2.1 rfl rfl ?_
          refine zW_iload (pc' := 190) dX12_otherOf_7.1.2.2.2 rfl rfl ?_
          refine zW_iload (pc' := 192) dX12_otherOf_7.2.1.1.1 rfl rfl ?_
          refine zW_iconst (pc' := 193) dX12_otherOf_7.2.1.1.2 rfl ?_
          refine zW_iadd (pc' := 194) dX12_otherOf_7.2.1.2.1 rfl ?_
          refine cvI4 (pc' := 197) kX12_over vX12_over lk_X12_280 ⟨Nat.le_of_ble_eq_true rfl, Nat.le_of_ble_eq_true rfl⟩ tb0 vq12 rfl rfl (s_X12_overZ hK hF _ ⟨by omega, by omega⟩ _ ⟨by omega, by omega⟩ _ ⟨by omega, by omega, by omega⟩ _ ⟨by omega, by omega, by omega⟩ f g (by omega) (by omega) hg (by omega)) dX12_otherOf_7.2.1.2.2 (Nat.le_of_ble_eq_true rfl) rfl ?_
          rintro r194 z194 ⟨hz194, p194⟩; subst z194
          refine zW_iadd (pc' := 198) dX12_otherOf_7.2.2.1.1 rfl ?_
          refine zW_istore (ls' := [_, _, _, _, _, _, _, _, _, _]) (pc' := 200) dX12_otherOf_7.2.2.1.2 (by decide) rfl rfl rfl ?_
          refine zW_iload (pc' := 202) dX12_otherOf_7.2.2.2.1 rfl rfl ?_
          refine zW_iload (pc' := 204) dX12_otherOf_7.2.2.2.2 rfl rfl ?_
          refine zW_iconst (pc' := 205) dX12_otherOf_8.1.1.1 rfl ?_
          refine zW_idivS (pc' := 206) ⟨by omega, by omega⟩ (by omega) dX12_otherOf_8.1.1.2 rfl (fun v205 e205 => ?_)
          refine zW_iadd (pc' := 207) dX12_otherOf_8.1.2 rfl ?_
          refine csI1 (pc' := 210) kX12_clipped vX12_clipped lk_X12_239 ⟨Nat.le_of_ble_eq_true rfl, Nat.le_of_ble_eq_true rfl⟩ rfl (s_X12_clippedZ hF _ ⟨by omega, by omega⟩) dX12_otherOf_8.2.1 (Nat.le_of_ble_eq_true rfl) rfl ?_
          rintro r207 z207 ⟨hz207, p207⟩; subst z207
          exact zV_iret rfl dX12_otherOf_8.2.2 ⟨rfl, (by have ec : cl (κ 0 13) (mir (x4 + 1) (κ 0 11)) x5 = r126 := (by unfold cl; rw [← p121.2.2.2]; omega); unfold otg; rw [if_neg (by unfold cl; omega), if_neg (by unfold cl; omega), ec]; first | (rw [if_pos (by omega), ← p33.2.2, ← p154.2.2, ← p166.2.2]; have td := tdc (a := r154 + r166) (d := 2) (by omega); rw [show (r154 + r166).tdiv 2 = v205 by omega]; exact p207) | (rw [if_neg (by omega), ← p33.2.2, ← p182.2.2, ← p194.2.2]; have td := tdc (a := r182 + r194) (d := 2) (by omega); rw [show (r182 + r194).tdiv 2 = v205 by omega]; exact p207))⟩
        · exfalso; omega
      · refine zW_iconst (pc' := 134) dX12_otherOf_5.1.2.1.1 rfl ?_
        refine zV_goto 138 dX12_otherOf_5.1.2.1.2 rfl ?_
        refine zW_istore (ls' := [_, _, _, _, _, _, _, _, _, _]) (pc' := 140) dX12_otherOf_5.1.2.2.2 (by decide) rfl rfl rfl ?_
        refine zW_iload (pc' := 142) dX12_otherOf_5.2.1.1.1 rfl rfl ?_
        refine zV_if_eq (tgt := 173) (pc' := 145) dX12_otherOf_5.2.1.1.2 rfl rfl ⟨by omega, by omega⟩ (fun c142 => ?_) (fun c142 => ?_)
        · exfalso; omega
        · refine zW_aload_n (pc' := 146) dX12_otherOf_5.2.1.2.1 rfl rfl ?_
          refine zW_iload_n (pc' := 147) dX12_otherOf_5.2.1.2.2 rfl rfl ?_
          refine zW_iload_n (pc' := 148) dX12_otherOf_5.2.2.1.1 rfl rfl ?_
          refine zW_iload (pc' := 150) dX12_otherOf_5.2.2.1.2 rfl rfl ?_
          refine zW_iconst (pc' := 151) dX12_otherOf_5.2.2.2.1 rfl ?_
          refine zW_isub (pc' := 152) dX12_otherOf_5.2.2.2.2 rfl ?_
          refine zW_iload (pc' := 154) dX12_otherOf_6.1.1.1.1 rfl rfl ?_
          refine cvI4 (pc' := 157) kX12_over vX12_over lk_X12_280 ⟨Nat.le_of_ble_eq_true rfl, Nat.le_of_ble_eq_true rfl⟩ tb0 vq12 rfl rfl (s_X12_overZ hK hF _ ⟨by omega, by omega⟩ _ ⟨by omega, by omega⟩ _ ⟨by omega, by omega, by omega⟩ _ ⟨by omega, by omega, by omega⟩ f g (by omega) (by omega) hg (by omega)) dX12_otherOf_6.1.1.1.2 (Nat.le_of_ble_eq_true rfl) rfl ?_
          rintro r154 z154 ⟨hz154, p154⟩; subst z154
          refine zW_aload_n (pc' := 158) dX12_otherOf_6.1.1.2.1 rfl rfl ?_
          refine zW_iload_n (pc' := 159) dX12_otherOf_6.1.1.2.2 rfl rfl ?_
          refine zW_iload_n (pc' := 160) dX12_otherOf_6.1.2.1.1 rfl rfl ?_
          refine zW_iload (pc' := 162) dX12_otherOf_6.1.2.1.2 rfl rfl ?_
          refine zW_iconst (pc' := 163) dX12_otherOf_6.1.2.2.1 rfl ?_
          refine zW_iadd (pc' := 164) dX12_otherOf_6.1.2.2.2 rfl ?_
          refine zW_iload (pc' := 166) dX12_otherOf_6.2.1.1.1 rfl rfl ?_
          refine cvI4 (pc' := 169) kX12_over vX12_over lk_X12_280 ⟨Nat.le_of_ble_eq_true rfl, Nat.le_of_ble_eq_true rfl⟩ tb0 vq12 rfl rfl (s_X12_overZ hK hF _ ⟨by omega, by omega⟩ _ ⟨by omega, by omega⟩ _ ⟨by omega, by omega, by omega⟩ _ ⟨by omega, by omega, by omega⟩ f g (by omega) (by omega) hg (by omega)) dX12_otherOf_6.2.1.1.2 (Nat.le_of_ble_eq_true rfl) rfl ?_
          rintro r166 z166 ⟨hz166, p166⟩; subst z166
          refine zW_iadd (pc' := 170) dX12_otherOf_6.2.1.2.1 rfl ?_
          refine zV_goto 198 dX12_otherOf_6.2.1.2.2 rfl ?_
          refine zW_istore (ls' := [_, _, _, _, _, _, _, _, _, _]) (pc' := 200) dX12_otherOf_7.2.2.1.2 (by decide) rfl rfl rfl ?_
          refine zW_iload (pc' := 202) dX12_otherOf_7.2.2.2.1 rfl rfl ?_
          refine zW_iload (pc' := 204) dX12_otherOf_7.2.2.2.2 rfl rfl ?_
          refine zW_iconst (pc' := 205) dX12_otherOf_8.1.1.1 rfl ?_
          refine zW_idivS (pc' := 206) ⟨by omega, by omega⟩ (by omega) dX12_otherOf_8.1.1.2 rfl (fun v205 e205 => ?_)
          refine zW_iadd (pc' := 207) dX12_otherOf_8.1.2 rfl ?_
          refine csI1 (pc' := 210) kX12_clipped vX12_clipped lk_X12_239 ⟨Nat.le_of_ble_eq_true rfl, Nat.le_of_ble_eq_true rfl⟩ rfl (s_X12_clippedZ hF _ ⟨by omega, by omega⟩) dX12_otherOf_8.2.1 (Nat.le_of_ble_eq_true rfl) rfl ?_
          rintro r207 z207 ⟨hz207, p207⟩; subst z207
          exact zV_iret rfl dX12_otherOf_8.2.2 ⟨rfl, (by have ec : cl (κ 0 13) (mir (x4 + 1) (κ 0 11)) x5 = r126 := (by unfold cl; rw [← p121.2.2.2]; omega); unfold otg; rw [if_neg (by unfold cl; omega), if_neg (by unfold cl; omega), ec]; first | (rw [if_pos (by omega), ← p33.2.2, ← p154.2.2, ← p166.2.2]; have td := tdc (a := r154 + r166) (d := 2) (by omega); rw [show (r154 + r166).tdiv 2 = v205 by omega]; exact p207) | (rw [if_neg (by omega), ← p33.2.2, ← p182.2.2, ← p194.2.2]; have td := tdc (a := r182 + r194) (d := 2) (by omega); rw [show (r182 + r194).tdiv 2 = v205 by omega]; exact p207))⟩
    · refine zW_iload (pc' := 46) dX12_otherOf_1.2.1.1.1 rfl rfl ?_
      refine zW_aload_n (pc' := 47) dX12_otherOf_1.2.1.1.2 rfl rfl ?_
      refine zW_iload_n (pc' := 48) dX12_otherOf_1.2.1.2.1 rfl rfl ?_
      refine zW_iload_n (pc' := 49) dX12_otherOf_1.2.1.2.2 rfl rfl ?_
      refine zW_iload (pc' := 51) dX12_otherOf_1.2.2.1.1 rfl rfl ?_
      refine zW_iconst (pc' := 52) dX12_otherOf_1.2.2.1.2 rfl ?_
      refine zW_isub (pc' := 53) dX12_otherOf_1.2.2.2.1 rfl ?_
      refine zW_iload (pc' := 55) dX12_otherOf_1.2.2.2.2 rfl rfl ?_
      refine zW_iconst (pc' := 56) dX12_otherOf_2.1.1.1.1 rfl ?_
      refine zW_isub (pc' := 57) dX12_otherOf_2.1.1.1.2 rfl ?_
      refine cvI4 (pc' := 60) kX12_over vX12_over lk_X12_280 ⟨Nat.le_of_ble_eq_true rfl, Nat.le_of_ble_eq_true rfl⟩ tb0 vq12 rfl rfl (s_X12_overZ hK hF _ ⟨by omega, by omega⟩ _ ⟨by omega, by omega⟩ _ ⟨by omega, by omega, by omega⟩ _ ⟨by omega, by omega, by omega⟩ f g (by omega) (by omega) hg (by omega)) dX12_otherOf_2.1.1.2.1 (Nat.le_of_ble_eq_true rfl) rfl ?_
      rintro r57 z57 ⟨hz57, p57⟩; subst z57
      refine zW_aload_n (pc' := 61) dX12_otherOf_2.1.1.2.2 rfl rfl ?_
      refine zW_iload_n (pc' := 62) dX12_otherOf_2.1.2.1.1 rfl rfl ?_
      refine zW_iload_n (pc' := 63) dX12_otherOf_2.1.2.1.2 rfl rfl ?_
      refine zW_iload (pc' := 65) dX12_otherOf_2.1.2.2.1 rfl rfl ?_
      refine zW_iconst (pc' := 66) dX12_otherOf_2.1.2.2.2 rfl ?_
      refine zW_iadd (pc' := 67) dX12_otherOf_2.2.1.1.1 rfl ?_
      refine zW_iload (pc' := 69) dX12_otherOf_2.2.1.1.2 rfl rfl ?_
      refine zW_iconst (pc' := 70) dX12_otherOf_2.2.1.2.1 rfl ?_
      refine zW_isub (pc' := 71) dX12_otherOf_2.2.1.2.2 rfl ?_
      refine cvI4 (pc' := 74) kX12_over vX12_over lk_X12_280 ⟨Nat.le_of_ble_eq_true rfl, Nat.le_of_ble_eq_true rfl⟩ tb0 vq12 rfl rfl (s_X12_overZ hK hF _ ⟨by omega, by omega⟩ _ ⟨by omega, by omega⟩ _ ⟨by omega, by omega, by omega⟩ _ ⟨by omega, by omega, by omega⟩ f g (by omega) (by omega) hg (by omega)) dX12_otherOf_2.2.2.1.1 (Nat.le_of_ble_eq_true rfl) rfl ?_
      rintro r71 z71 ⟨hz71, p71⟩; subst z71
      refine zW_iadd (pc' := 75) dX12_otherOf_2.2.2.1.2 rfl ?_
      refine zW_aload_n (pc' := 76) dX12_otherOf_2.2.2.2.1 rfl rfl ?_
      refine zW_iload_n (pc' := 77) dX12_otherOf_2.2.2.2.2 rfl rfl ?_
      refine zW_iload_n (pc' := 78) dX12_otherOf_3.1.1.1.1 rfl rfl ?_
      refine zW_iload (pc' := 80) dX12_otherOf_3.1.1.1.2 rfl rfl ?_
      refine zW_iconst (pc' := 81) dX12_otherOf_3.1.1.2.1 rfl ?_
      refine zW_isub (pc' := 82) dX12_otherOf_3.1.1.2.2 rfl ?_
      refine zW_iload (pc' := 84) dX12_otherOf_3.1.2.1.1 rfl rfl ?_
      refine zW_iconst (pc' := 85) dX12_otherOf_3.1.2.1.2 rfl ?_
      refine zW_iadd (pc' := 86) dX12_otherOf_3.1.2.2.1 rfl ?_
      refine cvI4 (pc' := 89) kX12_over vX12_over lk_X12_280 ⟨Nat.le_of_ble_eq_true rfl, Nat.le_of_ble_eq_true rfl⟩ tb0 vq12 rfl rfl (s_X12_overZ hK hF _ ⟨by omega, by omega⟩ _ ⟨by omega, by omega⟩ _ ⟨by omega, by omega, by omega⟩ _ ⟨by omega, by omega, by omega⟩ f g (by omega) (by omega) hg (by omega)) dX12_otherOf_3.1.2.2.2 (Nat.le_of_ble_eq_true rfl) rfl ?_
      rintro r86 z86 ⟨hz86, p86⟩; subst z86
      refine zW_iadd (pc' := 90) dX12_otherOf_3.2.1.1.1 rfl ?_
      refine zW_aload_n (pc' := 91) dX12_otherOf_3.2.1.1.2 rfl rfl ?_
      refine zW_iload_n (pc' := 92) dX12_otherOf_3.2.1.2.1 rfl rfl ?_
      refine zW_iload_n (pc' := 93) dX12_otherOf_3.2.1.2.2 rfl rfl ?_
      refine zW_iload (pc' := 95) dX12_otherOf_3.2.2.1.1 rfl rfl ?_
      refine zW_iconst (pc' := 96) dX12_otherOf_3.2.2.1.2 rfl ?_
      refine zW_iadd (pc' := 97) dX12_otherOf_3.2.2.2.1 rfl ?_
      refine zW_iload (pc' := 99) dX12_otherOf_3.2.2.2.2 rfl rfl ?_
      refine zW_iconst (pc' := 100) dX12_otherOf_4.1.1.1.1 rfl ?_
      refine zW_iadd (pc' := 101) dX12_otherOf_4.1.1.1.2 rfl ?_
      refine cvI4 (pc' := 104) kX12_over vX12_over lk_X12_280 ⟨Nat.le_of_ble_eq_true rfl, Nat.le_of_ble_eq_true rfl⟩ tb0 vq12 rfl rfl (s_X12_overZ hK hF _ ⟨by omega, by omega⟩ _ ⟨by omega, by omega⟩ _ ⟨by omega, by omega, by omega⟩ _ ⟨by omega, by omega, by omega⟩ f g (by omega) (by omega) hg (by omega)) dX12_otherOf_4.1.1.2.1 (Nat.le_of_ble_eq_true rfl) rfl ?_
      rintro r101 z101 ⟨hz101, p101⟩; subst z101
      refine zW_iadd (pc' := 105) dX12_otherOf_4.1.1.2.2 rfl ?_
      refine zW_iconst (pc' := 106) dX12_otherOf_4.1.2.1.1 rfl ?_
      refine zW_idivS (pc' := 107) ⟨by omega, by omega⟩ (by omega) dX12_otherOf_4.1.2.1.2 rfl (fun v106 e106 => ?_)
      refine zW_iadd (pc' := 108) dX12_otherOf_4.1.2.2.1 rfl ?_
      refine csI1 (pc' := 111) kX12_clipped vX12_clipped lk_X12_239 ⟨Nat.le_of_ble_eq_true rfl, Nat.le_of_ble_eq_true rfl⟩ rfl (s_X12_clippedZ hF _ ⟨by omega, by omega⟩) dX12_otherOf_4.1.2.2.2 (Nat.le_of_ble_eq_true rfl) rfl ?_
      rintro r108 z108 ⟨hz108, p108⟩; subst z108
      exact zV_iret rfl dX12_otherOf_4.2.1.1.1 ⟨rfl, (by unfold otg; rw [if_neg (by unfold cl; omega), if_pos (by unfold cl; omega)]; rw [← p33.2.2, ← p57.2.2, ← p71.2.2, ← p86.2.2, ← p101.2.2]; have td := tdc (a := r57 + r71 + r86 + r101) (d := 4) (by omega); rw [show (r57 + r71 + r86 + r101).tdiv 4 = v106 by omega]; exact p108)⟩
  · have mx := mir_i (v := x4) (n := κ 0 11) ⟨by omega, by omega⟩
    have my := mir_i (v := x5) (n := κ 0 12) ⟨by omega, by omega⟩
    refine zW_aload_n (pc' := 17) dX12_otherOf_0.2.1.1.1 rfl rfl ?_
    refine zW_iload_n (pc' := 18) dX12_otherOf_0.2.1.1.2 rfl rfl ?_
    refine zW_iload (pc' := 20) dX12_otherOf_0.2.1.2.1 rfl rfl ?_
    refine zW_iload (pc' := 22) dX12_otherOf_0.2.1.2.2 rfl rfl ?_
    refine cvI3 (pc' := 25) kX12_own vX12_own lk_X12_246 ⟨Nat.le_of_ble_eq_true rfl, Nat.le_of_ble_eq_true rfl⟩ tb0 vq12 rfl rfl (s_X12_ownZ hK hF _ ⟨by omega, by omega⟩ _ ⟨by omega, by omega, by omega⟩ _ ⟨by omega, by omega, by omega⟩ f (by omega) (by omega)) dX12_otherOf_0.2.2.1.1 (Nat.le_of_ble_eq_true rfl) rfl ?_
    rintro r22 z22 ⟨hz22, p22⟩; subst z22
    exact zV_iret rfl dX12_otherOf_0.2.2.1.2 ⟨rfl, (by rw [mx, my] at p22; unfold otg; rw [if_pos (by unfold cl; omega)]; exact p22)⟩

abbrev q_X12_fillsZ (b : Bd) (κ : Hp) (x1 : Int) (x2 : Int) (x3 : Int) (f : Int → Int → Int) (gh0 : Hp) : Int → Hp → Prop := fun r h' => Fr b κ h' ∧ ((Fw [17] [] gh0 h') ∧ (Pl17 κ (h' 17) x3 0 (otg (κ 0 11) (κ 0 12) (κ 0 13) f (grn (κ 0 11) (κ 0 12) (κ 0 13) x1 f) 0) ∧ Pl17 κ (h' 17) x3 1 (grn (κ 0 11) (κ 0 12) (κ 0 13) x1 f) ∧ Pl17 κ (h' 17) x3 2 (otg (κ 0 11) (κ 0 12) (κ 0 13) f (grn (κ 0 11) (κ 0 12) (κ 0 13) x1 f) 2) ∧ Oth x3 (gh0 17) (h' 17)))
set_option maxHeartbeats 4000000 in
set_option maxRecDepth 20000 in
theorem s_X12_fillsZ {G : Ga} {b : Bd} {κ h : Hp} (hK : KR κ) (hF : Fr b κ h) (x1 : Int) (hx1 : 0 ≤ x1 ∧ x1 ≤ 1) (x2 : Int) (hx2 : 0 ≤ x2 ∧ x2 ≤ 14) (x3 : Int) (hx3 : 0 ≤ x3 ∧ x3 ≤ 14) (f : Int → Int → Int) (gh0 : Hp) (hJ : Ok17 b x3) (hne : x2 ≠ x3) (hf : Row17 κ (h 17) x2 f) (hfb : FB (κ 0 11) (κ 0 12) f) (hge : h = gh0) (hgh : Fw [17] [] gh0 h) : zM G mX12_fills yX12_fills [.inr (.inr 0), .inl x1, .inl x2, .inl x3] h (q_X12_fillsZ b κ x1 x2 x3 f gh0) := by
  have f_0_11 := KRw hK
  have f_0_12 := KRh hK
  have f_0_13 := KRp hK
  have h0f : Row17 κ (gh0 17) x2 f := by rw [← hge]; exact hf
  have hgb := grn_b (P := κ 0 13) (K := x1) (KRw hK).1 (KRh hK).1 hfb
  have main : ∀ N : Nat, (∀ (v4 : Int) (h : Hp), Fr b κ h → (0 ≤ v4 ∧ v4 ≤ 16) → (v4 - κ 0 12 ≤ 0) → (Pl17u κ (h 17) x3 1 (grn (κ 0 11) (κ 0 12) (κ 0 13) x1 f) 0 v4) → (Oth x3 (gh0 17) (h 17)) → (Fw [17] [] gh0 h) → 111488400 + 83700 * (16 - v4) + 82584 < (N : Int) → zV G mX12_fills (q_X12_fillsZ b κ x1 x2 x3 f gh0) 3 [some (.inr (.inr 0)), some (.inl x1), some (.inl x2), some (.inl x3), some (.inl v4), none, none, none] [] h) ∧ (∀ (v4 : Int) (h : Hp), Fr b κ h → (0 ≤ v4 ∧ v4 ≤ 16) → (v4 - κ 0 12 ≤ 0) → (Pl17 κ (h 17) x3 1 (grn (κ 0 11) (κ 0 12) (κ 0 13) x1 f)) → (Pl17u κ (h 17) x3 0 (otg (κ 0 11) (κ 0 12) (κ 0 13) f (grn (κ 0 11) (κ 0 12) (κ 0 13) x1 f) 0) 0 v4) → (Pl17u κ (h 17) x3 2 (otg (κ 0 11) (κ 0 12) (κ 0 13) f (grn (κ 0 11) (κ 0 12) (κ 0 13) x1 f) 2) 0 v4) → (Oth x3 (gh0 17) (h 17)) → (Fw [17] [] gh0 h) → 102448800 + 83700 * (16 - v4) + 75888 < (N : Int) → zV G mX12_fills (q_X12_fillsZ b κ x1 x2 x3 f gh0) 59 [some (.inr (.inr 0)), some (.inl x1), some (.inl x2), some (.inl x3), some (.inl v4), none, none, none] [] h) ∧ (∀ (v4 v5 : Int) (h : Hp), Fr b κ h → (0 ≤ v4 ∧ v4 ≤ 15) → (v4 - κ 0 12 ≤ -1) → (0 ≤ v5 ∧ v5 ≤ 16) → (v5 - κ 0 11 ≤ 0) → (Pl17 κ (h 17) x3 1 (grn (κ 0 11) (κ 0 12) (κ 0 13) x1 f)) → (Pl17u κ (h 17) x3 0 (otg (κ 0 11) (κ 0 12) (κ 0 13) f (grn (κ 0 11) (κ 0 12) (κ 0 13) x1 f) 0) v5 v4) → (Pl17u κ (h 17) x3 2 (otg (κ 0 11) (κ 0 12) (κ 0 13) f (grn (κ 0 11) (κ 0 12) (κ 0 13) x1 f) 2) v5 v4) → (Oth x3 (gh0 17) (h 17)) → (Fw [17] [] gh0 h) → 102448800 + 83700 * (16 - v4) + 68076 + 62 * (16 - v5) + 61 < (N : Int) → zV G mX12_fills (q_X12_fillsZ b κ x1 x2 x3 f gh0) 71 [some (.inr (.inr 0)), some (.inl x1), some (.inl x2), some (.inl x3), some (.inl v4), some (.inl v5), none, none] [] h) ∧ (∀ (v4 v5 : Int) (h : Hp), Fr b κ h → (0 ≤ v4 ∧ v4 ≤ 15) → (v4 - κ 0 12 ≤ -1) → (0 ≤ v5 ∧ v5 ≤ 16) → (v5 - κ 0 11 ≤ 0) → (Pl17u κ (h 17) x3 1 (grn (κ 0 11) (κ 0 12) (κ 0 13) x1 f) v5 v4) → (Oth x3 (gh0 17) (h 17)) → (Fw [17] [] gh0 h) → 111488400 + 83700 * (16 - v4) + 23436 + 62 * (16 - v5) + 21 < (N : Int) → zV G mX12_fills (q_X12_fillsZ b κ x1 x2 x3 f gh0) 15 [some (.inr (.inr 0)), some (.inl x1), some (.inl x2), some (.inl x3), some (.inl v4), some (.inl v5), none, none] [] h) := by
    intro N
    induction N with
    | zero =>
      refine ⟨?_, ?_, ?_, ?_⟩
      · intro v4 h hF g0 g1 gc0 gc1 hgh hm
        exfalso; omega
      · intro v4 h hF g0 g1 gc0 gc1 gc2 gc3 hgh hm
        exfalso; omega
      · intro v4 v5 h hF g0 g1 g2 g3 gc0 gc1 gc2 gc3 hgh hm
        exfalso; omega
      · intro v4 v5 h hF g0 g1 g2 g3 gc0 gc1 hgh hm
        exfalso; omega
    | succ N ih =>
      obtain ⟨k3, k59, k71, k15⟩ := ih
      refine ⟨?_, ?_, ?_, ?_⟩
      · intro v4 h hF g0 g1 gc0 gc1 hgh hm
        refine zW_iload (pc' := 5) dX12_fills_0.1.1.2.1 rfl rfl ?_
        refine zW_aload_n (pc' := 6) dX12_fills_0.1.1.2.2 rfl rfl ?_
        refine zG_key (pc' := 9) hF rfl fg_X12_103 tb0 rfl dX12_fills_0.1.2.1.1 rfl ?_
        refine zV_cm_ge (tgt := 56) (pc' := 12) dX12_fills_0.1.2.1.2 rfl rfl ⟨by omega, by omega⟩ ⟨by omega, by omega⟩ (fun c9 => ?_) (fun c9 => ?_)
        · refine zW_iconst (pc' := 57) dX12_fills_1.2.2.1.1 rfl ?_
          refine zW_istore (ls' := [_, _, _, _, _, _, _, _]) (pc' := 59) dX12_fills_1.2.2.1.2 (by decide) rfl rfl rfl ?_
          exact k59 _ _ hF (by omega) (by omega) (by first | exact gc0.all (by omega) | exact gc0) (by first | exact gc1.rowx (by omega) | exact Pl17u.no) (by first | exact gc2.rowx (by omega) | exact Pl17u.no) (by first | exact gc3 | exact gc1) hgh (by omega)
        · refine zW_iconst (pc' := 13) dX12_fills_0.1.2.2.1 rfl ?_
          refine zW_istore (ls' := [_, _, _, _, _, _, _, _]) (pc' := 15) dX12_fills_0.1.2.2.2 (by decide) rfl rfl rfl ?_
          exact k15 _ _ _ hF (by omega) (by omega) (by omega) (by omega) (by first | exact hr2 | exact gc0) (by first | exact ho2 | exact gc1) hgh (by omega)
      · intro v4 h hF g0 g1 gc0 gc1 gc2 gc3 hgh hm
        refine zW_iload (pc' := 61) dX12_fills_1.2.2.2.1 rfl rfl ?_
        refine zW_aload_n (pc' := 62) dX12_fills_1.2.2.2.2 rfl rfl ?_
        refine zG_key (pc' := 65) hF rfl fg_X12_103 tb0 rfl dX12_fills_2.1.1.1.1 rfl ?_
        refine zV_cm_ge (tgt := 142) (pc' := 68) dX12_fills_2.1.1.1.2 rfl rfl ⟨by omega, by omega⟩ ⟨by omega, by omega⟩ (fun c65 => ?_) (fun c65 => ?_)
        · exact zV_vret rfl dX12_fills_4.2.2.2 ⟨hF, ⟨hgh, ⟨gc1.all (by omega), gc0, gc2.all (by omega), gc3⟩⟩⟩
        · refine zW_iconst (pc' := 69) dX12_fills_2.1.1.2.1 rfl ?_
          refine zW_istore (ls' := [_, _, _, _, _, _, _, _]) (pc' := 71) dX12_fills_2.1.1.2.2 (by decide) rfl rfl rfl ?_
          exact k71 _ _ _ hF (by omega) (by omega) (by omega) (by omega) (by first | exact hb1 | exact gc0) (by first | exact hb0 | exact gc1) (by first | exact hb2 | exact gc2) (by first | exact hbo | exact gc3) hgh (by omega)
      · intro v4 v5 h hF g0 g1 g2 g3 gc0 gc1 gc2 gc3 hgh hm
        refine zW_iload (pc' := 73) dX12_fills_2.1.2.1.1 rfl rfl ?_
        refine zW_aload_n (pc' := 74) dX12_fills_2.1.2.1.2 rfl rfl ?_
        refine zG_key (pc' := 77) hF rfl fg_X12_99 tb0 rfl dX12_fills_2.1.2.2.1 rfl ?_
        refine zV_cm_ge (tgt := 136) (pc' := 80) dX12_fills_2.1.2.2.2 rfl rfl ⟨by omega, by omega⟩ ⟨by omega, by omega⟩ (fun c77 => ?_) (fun c77 => ?_)
        · refine zW_iinc (ls' := [_, _, _, _, _, _, _, _]) (pc' := 139) dX12_fills_4.2.1.2 rfl (by decide) rfl rfl rfl ?_
          refine zV_goto 59 dX12_fills_4.2.2.1 rfl ?_
          refine zV_clr 5 (ls' := [_, _, _, _, _, _, _, _]) rfl ?_
          exact k59 _ _ hF (by omega) (by omega) (by first | exact gc0.all (by omega) | exact gc0) (by first | exact gc1.rowx (by omega) | exact Pl17u.no) (by first | exact gc2.rowx (by omega) | exact Pl17u.no) (by first | exact gc3 | exact gc1) hgh (by omega)
        · have hf : Row17 κ (h 17) x2 f := Row17.oth (by omega) (by omega) (by omega) (by omega) (by omega) (by omega) gc3 h0f
          have b0 := pl_b (k := x3) (c := 0) (x := v5) (y := v4) (W := κ 0 11) (H := κ 0 12) ⟨by omega, by omega, by omega, by omega⟩ (by omega) (by omega) (by omega) (by omega)
          have b2 := pl_b (k := x3) (c := 2) (x := v5) (y := v4) (W := κ 0 11) (H := κ 0 12) ⟨by omega, by omega, by omega, by omega⟩ (by omega) (by omega) (by omega) (by omega)
          refine zW_aload_n (pc' := 81) dX12_fills_2.2.1.1.1 rfl rfl ?_
          refine zW_iload_n (pc' := 82) dX12_fills_2.2.1.1.2 rfl rfl ?_
          refine zW_iload_n (pc' := 83) dX12_fills_2.2.1.2.1 rfl rfl ?_
          refine zW_iconst (pc' := 84) dX12_fills_2.2.1.2.2 rfl ?_
          refine zW_iload (pc' := 86) dX12_fills_2.2.2.1.1 rfl rfl ?_
          refine zW_iload (pc' := 88) dX12_fills_2.2.2.1.2 rfl rfl ?_
          refine cvI5 (pc' := 91) kX12_otherOf vX12_otherOf lk_X12_286 ⟨Nat.le_of_ble_eq_true rfl, Nat.le_of_ble_eq_true rfl⟩ tb0 vq12 rfl rfl (s_X12_otherOfZ hK hF _ ⟨by omega, by omega⟩ _ ⟨by omega, by omega⟩ _ ⟨by omega, by omega⟩ _ ⟨by omega, by omega, by omega⟩ _ ⟨by omega, by omega, by omega⟩ f (grn (κ 0 11) (κ 0 12) (κ 0 13) x1 f) (by omega) (by omega) gc0 hgb (by omega)) dX12_fills_2.2.2.2.1 (Nat.le_of_ble_eq_true rfl) rfl ?_
          rintro r88 z88 ⟨hz88, p88⟩; subst z88
          refine zW_istore (ls' := [_, _, _, _, _, _, _, _]) (pc' := 93) dX12_fills_2.2.2.2.2 (by decide) rfl rfl rfl ?_
          refine zW_aload_n (pc' := 94) dX12_fills_3.1.1.1.1 rfl rfl ?_
          refine zW_iload_n (pc' := 95) dX12_fills_3.1.1.1.2 rfl rfl ?_
          refine zW_iload_n (pc' := 96) dX12_fills_3.1.1.2.1 rfl rfl ?_
          refine zW_iconst (pc' := 97) dX12_fills_3.1.1.2.2 rfl ?_
          refine zW_iload (pc' := 99) dX12_fills_3.1.2.1.1 rfl rfl ?_
          refine zW_iload (pc' := 101) dX12_fills_3.1.2.1.2 rfl rfl ?_
          refine cvI5 (pc' := 104) kX12_otherOf vX12_otherOf lk_X12_286 ⟨Nat.le_of_ble_eq_true rfl, Nat.le_of_ble_eq_true rfl⟩ tb0 vq12 rfl rfl (s_X12_otherOfZ hK hF _ ⟨by omega, by omega⟩ _ ⟨by omega, by omega⟩ _ ⟨by omega, by omega⟩ _ ⟨by omega, by omega, by omega⟩ _ ⟨by omega, by omega, by omega⟩ f (grn (κ 0 11) (κ 0 12) (κ 0 13) x1 f) (by omega) (by omega) gc0 hgb (by omega)) dX12_fills_3.1.2.2.1 (Nat.le_of_ble_eq_true rfl) rfl ?_
          rintro r101 z101 ⟨hz101, p101⟩; subst z101
          refine zW_istore (ls' := [_, _, _, _, _, _, _, _]) (pc' := 106) dX12_fills_3.1.2.2.2 (by decide) rfl rfl rfl ?_
          refine zW_aload_n (pc' := 107) dX12_fills_3.2.1.1.1 rfl rfl ?_
          refine zW_iload_n (pc' := 108) dX12_fills_3.2.1.1.2 rfl rfl ?_
          refine zW_iconst (pc' := 109) dX12_fills_3.2.1.2.1 rfl ?_
          refine zW_iload (pc' := 111) dX12_fills_3.2.1.2.2 rfl rfl ?_
          refine zW_iload (pc' := 113) dX12_fills_3.2.2.1.1 rfl rfl ?_
          refine zW_iload (pc' := 115) dX12_fills_3.2.2.1.2 rfl rfl ?_
          refine cvV5 (pc' := 118) kX12_lays vX12_lays lk_X12_242 ⟨Nat.le_of_ble_eq_true rfl, Nat.le_of_ble_eq_true rfl⟩ tb0 vq12 rfl rfl (s_X12_laysZ hK hF _ ⟨by omega, by omega⟩ _ ⟨by omega, by omega⟩ _ ⟨by omega, by omega, by omega⟩ _ ⟨by omega, by omega, by omega⟩ _ ⟨by omega, by omega⟩ h hJ rfl) dX12_fills_3.2.2.2.1 (Nat.le_of_ble_eq_true rfl) rfl ?_
          rintro r115 h ⟨hF, p115⟩
          have ha1 : Pl17 κ (h 17) x3 1 (grn (κ 0 11) (κ 0 12) (κ 0 13) x1 f) := by rw [p115]; exact gc0.w (by omega) (by omega) (by omega) (by omega) (by omega)
          have ha0 : Pl17u κ (h 17) x3 0 (otg (κ 0 11) (κ 0 12) (κ 0 13) f (grn (κ 0 11) (κ 0 12) (κ 0 13) x1 f) 0) (v5 + 1) v4 := by rw [p115]; exact Pl17u.nx (by omega) (by omega) (by omega) ⟨by omega, by omega, by omega, by omega⟩ gc1 p88.2.2
          have ha2 : Pl17u κ (h 17) x3 2 (otg (κ 0 11) (κ 0 12) (κ 0 13) f (grn (κ 0 11) (κ 0 12) (κ 0 13) x1 f) 2) v5 v4 := by rw [p115]; exact gc2.w (by omega) (by omega) (by omega) (by omega) (by omega)
          have hao : Oth x3 (gh0 17) (h 17) := by rw [p115]; exact gc3.w (by omega)
          replace hgh : Fw [17] [] gh0 h := by rw [p115]; exact hgh.wc (by simp)
          refine zW_aload_n (pc' := 119) dX12_fills_3.2.2.2.2 rfl rfl ?_
          refine zW_iload_n (pc' := 120) dX12_fills_4.1.1.1.1 rfl rfl ?_
          refine zW_iconst (pc' := 121) dX12_fills_4.1.1.1.2 rfl ?_
          refine zW_iload (pc' := 123) dX12_fills_4.1.1.2 rfl rfl ?_
          refine zW_iload (pc' := 125) dX12_fills_4.1.2.1.1 rfl rfl ?_
          refine zW_iload (pc' := 127) dX12_fills_4.1.2.1.2 rfl rfl ?_
          refine cvV5 (pc' := 130) kX12_lays vX12_lays lk_X12_242 ⟨Nat.le_of_ble_eq_true rfl, Nat.le_of_ble_eq_true rfl⟩ tb0 vq12 rfl rfl (s_X12_laysZ hK hF _ ⟨by omega, by omega⟩ _ ⟨by omega, by omega⟩ _ ⟨by omega, by omega, by omega⟩ _ ⟨by omega, by omega, by omega⟩ _ ⟨by omega, by omega⟩ h hJ rfl) dX12_fills_4.1.2.2 (Nat.le_of_ble_eq_true rfl) rfl ?_
          rintro r127 h ⟨hF, p127⟩
          have hb1 : Pl17 κ (h 17) x3 1 (grn (κ 0 11) (κ 0 12) (κ 0 13) x1 f) := by rw [p127]; exact ha1.w (by omega) (by omega) (by omega) (by omega) (by omega)
          have hb0 : Pl17u κ (h 17) x3 0 (otg (κ 0 11) (κ 0 12) (κ 0 13) f (grn (κ 0 11) (κ 0 12) (κ 0 13) x1 f) 0) (v5 + 1) v4 := by rw [p127]; exact ha0.w (by omega) (by omega) (by omega) (by omega) (by omega)
          have hb2 : Pl17u κ (h 17) x3 2 (otg (κ 0 11) (κ 0 12) (κ 0 13) f (grn (κ 0 11) (κ 0 12) (κ 0 13) x1 f) 2) (v5 + 1) v4 := by rw [p127]; exact Pl17u.nx (by omega) (by omega) (by omega) ⟨by omega, by omega, by omega, by omega⟩ ha2 p101.2.2
          have hbo : Oth x3 (gh0 17) (h 17) := by rw [p127]; exact hao.w (by omega)
          replace hgh : Fw [17] [] gh0 h := by rw [p127]; exact hgh.wc (by simp)
          refine zW_iinc (ls' := [_, _, _, _, _, _, _, _]) (pc' := 133) dX12_fills_4.2.1.1.1 rfl (by decide) rfl rfl rfl ?_
          refine zV_goto 71 dX12_fills_4.2.1.1.2 rfl ?_
          refine zV_clr 6 (ls' := [_, _, _, _, _, _, _, _]) rfl ?_
          refine zV_clr 7 (ls' := [_, _, _, _, _, _, _, _]) rfl ?_
          exact k71 _ _ _ hF (by omega) (by omega) (by omega) (by omega) (by first | exact hb1 | exact gc0) (by first | exact hb0 | exact gc1) (by first | exact hb2 | exact gc2) (by first | exact hbo | exact gc3) hgh (by omega)
      · intro v4 v5 h hF g0 g1 g2 g3 gc0 gc1 hgh hm
        refine zW_iload (pc' := 17) dX12_fills_0.2.1.1.1 rfl rfl ?_
        refine zW_aload_n (pc' := 18) dX12_fills_0.2.1.1.2 rfl rfl ?_
        refine zG_key (pc' := 21) hF rfl fg_X12_99 tb0 rfl dX12_fills_0.2.1.2.1 rfl ?_
        refine zV_cm_ge (tgt := 50) (pc' := 24) dX12_fills_0.2.1.2.2 rfl rfl ⟨by omega, by omega⟩ ⟨by omega, by omega⟩ (fun c21 => ?_) (fun c21 => ?_)
        · refine zW_iinc (ls' := [_, _, _, _, _, _, _, _]) (pc' := 53) dX12_fills_1.2.1.2.1 rfl (by decide) rfl rfl rfl ?_
          refine zV_goto 3 dX12_fills_1.2.1.2.2 rfl ?_
          refine zV_clr 5 (ls' := [_, _, _, _, _, _, _, _]) rfl ?_
          exact k3 _ _ hF (by omega) (by omega) (by first | exact gc0.rowx (by omega) | exact Pl17u.no) (by first | exact gc1 | (rw [hge]; exact Oth.rf)) hgh (by omega)
        · have hf : Row17 κ (h 17) x2 f := Row17.oth (by omega) (by omega) (by omega) (by omega) (by omega) (by omega) gc1 h0f
          refine zW_aload_n (pc' := 25) dX12_fills_0.2.2.1.1 rfl rfl ?_
          refine zW_iload_n (pc' := 26) dX12_fills_0.2.2.1.2 rfl rfl ?_
          refine zW_iconst (pc' := 27) dX12_fills_0.2.2.2.1 rfl ?_
          refine zW_iload (pc' := 29) dX12_fills_0.2.2.2.2 rfl rfl ?_
          refine zW_iload (pc' := 31) dX12_fills_1.1.1.1.1 rfl rfl ?_
          refine zW_aload_n (pc' := 32) dX12_fills_1.1.1.1.2 rfl rfl ?_
          refine zW_iload_n (pc' := 33) dX12_fills_1.1.1.2.1 rfl rfl ?_
          refine zW_iload (pc' := 35) dX12_fills_1.1.1.2.2 rfl rfl ?_
          refine zW_iload (pc' := 37) dX12_fills_1.1.2.1.1 rfl rfl ?_
          refine zW_iload_n (pc' := 38) dX12_fills_1.1.2.1.2 rfl rfl ?_
          refine cvI4 (pc' := 41) kX12_greenOf vX12_greenOf lk_X12_283 ⟨Nat.le_of_ble_eq_true rfl, Nat.le_of_ble_eq_true rfl⟩ tb0 vq12 rfl rfl (s_X12_greenOfZ hK hF _ ⟨by omega, by omega⟩ _ ⟨by omega, by omega, by omega⟩ _ ⟨by omega, by omega, by omega⟩ _ ⟨by omega, by omega⟩ f (by omega) (by omega)) dX12_fills_1.1.2.2.1 (Nat.le_of_ble_eq_true rfl) rfl ?_
          rintro r38 z38 ⟨hz38, p38⟩; subst z38
          refine cvV5 (pc' := 44) kX12_lays vX12_lays lk_X12_242 ⟨Nat.le_of_ble_eq_true rfl, Nat.le_of_ble_eq_true rfl⟩ tb0 vq12 rfl rfl (s_X12_laysZ hK hF _ ⟨by omega, by omega⟩ _ ⟨by omega, by omega⟩ _ ⟨by omega, by omega, by omega⟩ _ ⟨by omega, by omega, by omega⟩ _ ⟨by omega, by omega⟩ h hJ rfl) dX12_fills_1.1.2.2.2 (Nat.le_of_ble_eq_true rfl) rfl ?_
          rintro r41 h ⟨hF, p41⟩
          have hr2 : Pl17u κ (h 17) x3 1 (grn (κ 0 11) (κ 0 12) (κ 0 13) x1 f) (v5 + 1) v4 := by rw [p41]; exact Pl17u.nx (by omega) (by omega) (by omega) ⟨by omega, by omega, by omega, by omega⟩ gc0 p38.2.2
          have ho2 : Oth x3 (gh0 17) (h 17) := by rw [p41]; exact gc1.w (by have b := pl_b (k := x3) (c := 1) (x := v5) (y := v4) (W := κ 0 11) (H := κ 0 12) ⟨by omega, by omega, by omega, by omega⟩ (by omega) (by omega) (by omega) (by omega); omega)
          replace hgh : Fw [17] [] gh0 h := by rw [p41]; exact hgh.wc (by simp)
          refine zW_iinc (ls' := [_, _, _, _, _, _, _, _]) (pc' := 47) dX12_fills_1.2.1.1.1 rfl (by decide) rfl rfl rfl ?_
          refine zV_goto 15 dX12_fills_1.2.1.1.2 rfl ?_
          exact k15 _ _ _ hF (by omega) (by omega) (by omega) (by omega) (by first | exact hr2 | exact gc0) (by first | exact ho2 | exact gc1) hgh (by omega)
  refine zM_of [some (.inr (.inr 0)), some (.inl x1), some (.inl x2), some (.inl x3), none, none, none, none] 4 rfl rfl (Nat.le_of_ble_eq_true rfl) rfl ?_
  refine zW_iconst (pc' := 1) dX12_fills_0.1.1.1.1 rfl ?_
  refine zW_istore (ls' := [_, _, _, _, _, _, _, _]) (pc' := 3) dX12_fills_0.1.1.1.2 (by decide) rfl rfl rfl ?_
  exact (main 10000000000000000000000000000000000000000).1 _ _ hF (by omega) (by omega) (by first | exact gc0.rowx (by omega) | exact Pl17u.no) (by first | exact gc1 | (rw [hge]; exact Oth.rf)) hgh (by omega)
