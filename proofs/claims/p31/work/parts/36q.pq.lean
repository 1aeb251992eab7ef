
/-- a sheet of the class holds a picture -/
def ShE (W H : Int) (A : Nat → Int) (f : Int → Int → Int) : Prop := ∀ x y : Int, inP W H x y → A (16 * y + x).toNat = f x y
def ShEu (W H : Int) (A : Nat → Int) (f : Int → Int → Int) (x0 y0 : Int) : Prop := ∀ x y : Int, inP W H x y → (y < y0 ∨ (y = y0 ∧ x < x0)) → A (16 * y + x).toNat = f x y
theorem ShE.at {W H : Int} {A : Nat → Int} {f : Int → Int → Int} {x y i : Int} (h : ShE W H A f) (hp : inP W H x y) (e : i = 16 * y + x) : A i.toNat = f x y := by
  rw [e]; exact h x y hp
theorem ShEu.nx {W H : Int} {h : Hp} {c : Nat} {f : Int → Int → Int} {x0 y0 v i : Int} (hW : W ≤ 16) (h0 : inP W H x0 y0) (r : ShEu W H (h c) f x0 y0) (hi : i = 16 * y0 + x0) (hv : v = f x0 y0) : ShEu W H (zwr h c i.toNat v c) f (x0 + 1) y0 := by
  intro x y h1 h2
  obtain ⟨g1, g2, g3, g4⟩ := h0
  obtain ⟨k1, k2, k3, k4⟩ := h1
  by_cases e : x = x0 ∧ y = y0
  · rw [e.1, e.2, ← hi, zwr_eq]; exact hv
  · rw [zwr_ne (Or.inr (fun q => e (by omega)))]
    exact r x y ⟨k1, k2, k3, k4⟩ (by omega)
theorem ShEu.rowx {W H : Int} {A : Nat → Int} {f : Int → Int → Int} {x0 y0 : Int} (r : ShEu W H A f x0 y0) (hx : W ≤ x0) : ShEu W H A f 0 (y0 + 1) := fun x y h1 h2 => r x y h1 (by have a := h1.1; have b := h1.2.1; omega)
theorem ShEu.all {W H : Int} {A : Nat → Int} {f : Int → Int → Int} {y0 : Int} (r : ShEu W H A f 0 y0) (hy : H ≤ y0) : ShE W H A f := fun x y h1 => r x y h1 (Or.inl (by have := h1.2.2.2; omega))
theorem ShEu.no {W H : Int} {A : Nat → Int} {f : Int → Int → Int} : ShEu W H A f 0 0 := fun x y h1 h2 => by obtain ⟨_, _, _, _⟩ := h1; omega

abbrev q_X11_mirroredZ (κ h : Hp) (x1 : Int) (x2 : Int) : Int → Hp → Prop := fun r h' => h' = h ∧ ((0 ≤ r) ∧ (r ≤ 15) ∧ (r ≤ x2 - 1 ∧ r = mir x1 x2))
set_option maxHeartbeats 4000000 in
set_option maxRecDepth 20000 in
theorem s_X11_mirroredZ {G : Ga} {b : Bd} {κ h : Hp} (hF : Fr b κ h) (x1 : Int) (hx1 : -2 ≤ x1 ∧ x1 ≤ 17) (x2 : Int) (hx2 : 4 ≤ x2 ∧ x2 ≤ 16) (hm : x1 ≤ x2 + 1) : zM G mX11_mirrored yX11_mirrored [.inl x1, .inl x2] h (q_X11_mirroredZ κ h x1 x2) := by
  refine zM_of [some (.inl x1), some (.inl x2)] 0 rfl rfl (Nat.le_of_ble_eq_true rfl) rfl ?_
  refine zW_iload_n (pc' := 1) dX11_mirrored_0.1.1.1.1 rfl rfl ?_
  refine zV_if_ge (tgt := 7) (pc' := 4) dX11_mirrored_0.1.1.1.2 rfl rfl ⟨by omega, by omega⟩ (fun c1 => ?_) (fun c1 => ?_)
  · refine zW_iload_n (pc' := 8) dX11_mirrored_0.1.2.1.2 rfl rfl ?_
    refine zW_iload_n (pc' := 9) dX11_mirrored_0.1.2.2.1 rfl rfl ?_
    refine zV_cm_ge (tgt := 16) (pc' := 12) dX11_mirrored_0.1.2.2.2 rfl rfl ⟨by omega, by omega⟩ ⟨by omega, by omega⟩ (fun c9 => ?_) (fun c9 => ?_)
    · refine zW_iconst (pc' := 17) dX11_mirrored_0.2.1.2.1 rfl ?_
      refine zW_iload_n (pc' := 18) dX11_mirrored_0.2.1.2.2 rfl rfl ?_
      refine zW_imul (pc' := 19) dX11_mirrored_0.2.2.1.1 rfl ?_
      refine zW_iconst (pc' := 20) dX11_mirrored_0.2.2.1.2 rfl ?_
      refine zW_isub (pc' := 21) dX11_mirrored_0.2.2.2.1 rfl ?_
      refine zW_iload_n (pc' := 22) dX11_mirrored_0.2.2.2.2 rfl rfl ?_
      refine zW_isub (pc' := 23) dX11_mirrored_1.1 rfl ?_
      exact zV_iret rfl dX11_mirrored_1.2 ⟨rfl, (by refine ⟨by omega, by omega, by omega, ?_⟩; unfold mir; first | (rw [if_neg (by omega), if_pos (by omega)]) | (rw [if_neg (by omega), if_neg (by omega)]))⟩
    · refine zW_iload_n (pc' := 13) dX11_mirrored_0.2.1.1.1 rfl rfl ?_
      refine zV_goto 23 dX11_mirrored_0.2.1.1.2 rfl ?_
      exact zV_iret rfl dX11_mirrored_1.2 ⟨rfl, (by refine ⟨by omega, by omega, by omega, ?_⟩; unfold mir; first | (rw [if_neg (by omega), if_pos (by omega)]) | (rw [if_neg (by omega), if_neg (by omega)]))⟩
  · refine zW_iload_n (pc' := 5) dX11_mirrored_0.1.1.2.1 rfl rfl ?_
    refine zW_ineg (pc' := 6) dX11_mirrored_0.1.1.2.2 rfl ?_
    exact zV_iret rfl dX11_mirrored_0.1.2.1.1 ⟨rfl, (by refine ⟨by omega, by omega, by omega, ?_⟩; unfold mir; rw [if_pos (by omega)])⟩

abbrev q_X11_clippedZ (κ h : Hp) (x1 : Int) : Int → Hp → Prop := fun r h' => h' = h ∧ ((0 ≤ r) ∧ (r ≤ 4095) ∧ (r = clp x1))
set_option maxHeartbeats 4000000 in
set_option maxRecDepth 20000 in
theorem s_X11_clippedZ {G : Ga} {b : Bd} {κ h : Hp} (hF : Fr b κ h) (x1 : Int) (hx1 : rng x1) : zM G mX11_clipped yX11_clipped [.inl x1] h (q_X11_clippedZ κ h x1) := by
  unfold rng at hx1
  refine zM_of [some (.inl x1)] 0 rfl rfl (Nat.le_of_ble_eq_true rfl) rfl ?_
  refine zW_iconst (pc' := 1) dX11_clipped_0.1.1.1 rfl ?_
  refine zW_sipush (pc' := 4) dX11_clipped_0.1.1.2 rfl rfl ?_
  refine zW_iload_n (pc' := 5) dX11_clipped_0.1.2 rfl rfl ?_
  refine zV_mmin (pc' := 8) km_X11_407 (Nat.le_of_ble_eq_true rfl) (Nat.le_of_ble_eq_true rfl) dX11_clipped_0.2.1.1 rfl (fun v5 e5 => ?_)
  replace e5 := e5.2 ⟨by omega, by omega⟩ ⟨by omega, by omega⟩
  refine zV_mmax (pc' := 11) km_X11_412 (Nat.le_of_ble_eq_true rfl) (Nat.le_of_ble_eq_true rfl) dX11_clipped_0.2.1.2 rfl (fun v8 e8 => ?_)
  replace e8 := e8.2 ⟨by omega, by omega⟩ ⟨by omega, by omega⟩
  exact zV_iret rfl dX11_clipped_0.2.2 ⟨rfl, (by have z := clpc x1; omega)⟩

abbrev q_X2_darkOfZ (κ h : Hp) (s1 : Nat) (x2 : Int) (x3 : Int) (f : Int → Int → Int) : Int → Hp → Prop := fun r h' => h' = h ∧ ((0 ≤ r) ∧ (r ≤ 4095) ∧ (1 ≤ x3 → r = dkS f x2 x3.toNat / x3))
set_option maxHeartbeats 4000000 in
set_option maxRecDepth 20000 in
theorem s_X2_darkOfZ {G : Ga} {b : Bd} {κ h : Hp} (hK : KC κ) (hF : Fr b κ h) (s1 : Nat) (hs1 : 56 ≤ s1 ∧ s1 ≤ 70) (x2 : Int) (hx2 : 0 ≤ x2 ∧ x2 ≤ 15 ∧ x2 - κ 33 1 ≤ -1) (x3 : Int) (hx3 : 0 ≤ x3 ∧ x3 ≤ 4) (f : Int → Int → Int) (hf : ShE (κ 33 0) (κ 33 1) (h (s1 + 15)) f) (hfb : FB (κ 33 0) (κ 33 1) f) : zM G mX2_darkOf yX2_darkOf [.inr (.inr 86), .inr (.inr s1), .inl x2, .inl x3] h (q_X2_darkOfZ κ h s1 x2 x3 f) := by
  have f_33_0 := KCw hK
  have f_33_1 := KCh hK
  have main : ∀ N : Nat, (∀ (v4 v5 : Int) , (0 ≤ v4 ∧ v4 ≤ 16380) → (0 ≤ v5 ∧ v5 ≤ 4) → (v4 = dkS f x2 v5.toNat) → (v5 ≤ x3) → 5580 + 31 * (4 - v5) + 30 < (N : Int) → zV G mX2_darkOf (q_X2_darkOfZ κ h s1 x2 x3 f) 6 [some (.inr (.inr 86)), some (.inr (.inr s1)), some (.inl x2), some (.inl x3), some (.inl v4), some (.inl v5)] [] h) := by
    intro N
    induction N with
    | zero =>
      intro v4 v5 g0 g1 gc0 gc1 hm
      exfalso; omega
    | succ N ih =>
      have k6 := ih
      intro v4 v5 g0 g1 gc0 gc1 hm
      refine zW_iload (pc' := 8) dX2_darkOf_0.1.2.1.1 rfl rfl ?_
      refine zW_iload_n (pc' := 9) dX2_darkOf_0.1.2.1.2 rfl rfl ?_
      refine zV_cm_ge (tgt := 47) (pc' := 12) dX2_darkOf_0.1.2.2.1 rfl rfl ⟨by omega, by omega⟩ ⟨by omega, by omega⟩ (fun c9 => ?_) (fun c9 => ?_)
      · refine zW_iload_n (pc' := 48) dX2_darkOf_1.2.1.1.2 rfl rfl ?_
        refine zV_if_le (tgt := 58) (pc' := 51) dX2_darkOf_1.2.1.2.1 rfl rfl ⟨by omega, by omega⟩ (fun c48 => ?_) (fun c48 => ?_)
        · refine zW_iconst (pc' := 59) dX2_darkOf_1.2.2.2.2 rfl ?_
          exact zV_iret rfl dX2_darkOf_2 ⟨rfl, (by first | exact ⟨by omega, by omega, fun q => by omega⟩ | (have e : v5 = x3 := (by omega); have db := dkS_b (f := f) (y := x2) x3.toNat (fun x h1 h2 => hfb x x2 ⟨h1, by omega, by omega, by omega⟩); rw [e] at gc0; rw [t54, gc0, Int.tdiv_eq_ediv_of_nonneg db.1]; rcases (by omega : x3 = 1 ∨ x3 = 2 ∨ x3 = 3 ∨ x3 = 4) with q | q | q | q <;> (rw [q] at db ⊢; exact ⟨by omega, by omega, fun _ => rfl⟩)))⟩
        · refine zW_iload (pc' := 53) dX2_darkOf_1.2.1.2.2 rfl rfl ?_
          refine zW_iload_n (pc' := 54) dX2_darkOf_1.2.2.1.1 rfl rfl ?_
          refine zW_idivX (pc' := 55) ⟨by omega, by omega⟩ ⟨by omega, by omega⟩ dX2_darkOf_1.2.2.1.2 rfl (fun v54 t54 e54 => ?_)
          unfold rng at e54
          refine zV_goto 59 dX2_darkOf_1.2.2.2.1 rfl ?_
          exact zV_iret rfl dX2_darkOf_2 ⟨rfl, (by first | exact ⟨by omega, by omega, fun q => by omega⟩ | (have e : v5 = x3 := (by omega); have db := dkS_b (f := f) (y := x2) x3.toNat (fun x h1 h2 => hfb x x2 ⟨h1, by omega, by omega, by omega⟩); rw [e] at gc0; rw [t54, gc0, Int.tdiv_eq_ediv_of_nonneg db.1]; rcases (by omega : x3 = 1 ∨ x3 = 2 ∨ x3 = 3 ∨ x3 = 4) with q | q | q | q <;> (rw [q] at db ⊢; exact ⟨by omega, by omega, fun _ => rfl⟩)))⟩
      · refine zW_iload (pc' := 14) dX2_darkOf_0.1.2.2.2 rfl rfl ?_
        refine zW_aload_n (pc' := 15) dX2_darkOf_0.2.1.1.1 rfl rfl ?_
        refine zG_ref (pc' := 18) 33 fg_X2_9 tb86 rfl dX2_darkOf_0.2.1.1.2 rfl ?_
        refine zG_key (pc' := 21) hF rfl fg_X2_21 tb33 rfl dX2_darkOf_0.2.1.2.1 rfl ?_
        refine zV_cm_ge (tgt := 47) (pc' := 24) dX2_darkOf_0.2.1.2.2 rfl rfl ⟨by omega, by omega⟩ ⟨by omega, by omega⟩ (fun c21 => ?_) (fun c21 => ?_)
        · exfalso; omega
        · refine zW_iload (pc' := 26) dX2_darkOf_0.2.2.1.1 rfl rfl ?_
          refine zW_aload_n (pc' := 27) dX2_darkOf_0.2.2.1.2 rfl rfl ?_
          refine zG_lev (pc' := 30) (by omega) (by omega) fg_X2_24 dX2_darkOf_0.2.2.2.1 rfl ?_
          refine zW_iload_n (pc' := 31) dX2_darkOf_0.2.2.2.2 rfl rfl ?_
          refine zW_bipush (pc' := 33) dX2_darkOf_1.1.1.1.1 rfl rfl ?_
          refine zW_imul (pc' := 34) dX2_darkOf_1.1.1.1.2 rfl ?_
          refine zW_iload (pc' := 36) dX2_darkOf_1.1.1.2.1 rfl rfl ?_
          refine zW_iadd (pc' := 37) dX2_darkOf_1.1.1.2.2 rfl ?_
          refine zV_iald (pc' := 38) (tabL (by omega) (by omega)) (by omega) dX2_darkOf_1.1.2.1.1 (by decide) rfl ?_
          have q37 := hf.at (i := x2 * 16 + v5) (x := v5) (y := x2) ⟨by omega, by omega, by omega, by omega⟩ (by omega)
          have b37 := hfb (v5) (x2) ⟨by omega, by omega, by omega, by omega⟩
          rw [← q37] at b37
          have ds : dkS f x2 (v5 + 1).toNat = dkS f x2 v5.toNat + f v5 x2 := by rw [show (v5 + 1).toNat = v5.toNat + 1 by omega]; show dkS f x2 v5.toNat + f ((v5.toNat : Nat) : Int) x2 = _; rw [show ((v5.toNat : Nat) : Int) = v5 by omega]
          have db := dkS_b (f := f) (y := x2) (v5 + 1).toNat (fun x h1 h2 => hfb x x2 ⟨h1, by omega, by omega, by omega⟩)
          refine zW_iadd (pc' := 39) dX2_darkOf_1.1.2.1.2 rfl ?_
          refine zW_istore (ls' := [_, _, _, _, _, _]) (pc' := 41) dX2_darkOf_1.1.2.2.1 (by decide) rfl rfl rfl ?_
          refine zW_iinc (ls' := [_, _, _, _, _, _]) (pc' := 44) dX2_darkOf_1.1.2.2.2 rfl (by decide) rfl rfl rfl ?_
          refine zV_goto 6 dX2_darkOf_1.2.1.1.1 rfl ?_
          exact k6 _ _ (by omega) (by omega) (by first | rfl | omega) (by omega) (by omega)
  refine zM_of [some (.inr (.inr 86)), some (.inr (.inr s1)), some (.inl x2), some (.inl x3), none, none] 2 rfl rfl (Nat.le_of_ble_eq_true rfl) rfl ?_
  refine zW_iconst (pc' := 1) dX2_darkOf_0.1.1.1.1 rfl ?_
  refine zW_istore (ls' := [_, _, _, _, _, _]) (pc' := 3) dX2_darkOf_0.1.1.1.2 (by decide) rfl rfl rfl ?_
  refine zW_iconst (pc' := 4) dX2_darkOf_0.1.1.2.1 rfl ?_
  refine zW_istore (ls' := [_, _, _, _, _, _]) (pc' := 6) dX2_darkOf_0.1.1.2.2 (by decide) rfl rfl rfl ?_
  exact (main 10000000000000000000000000000000000000000) _ _ (by omega) (by omega) (by first | rfl | omega) (by omega) (by omega)

abbrev q_X2_middleOfZ (κ h : Hp) (s1 : Nat) (x2 : Int) (x3 : Int) (f : Int → Int → Int) : Int → Hp → Prop := fun r h' => h' = h ∧ ((0 ≤ r) ∧ (r ≤ 4095) ∧ (r = mdl (κ 33 0) (κ 33 1) f x2 x3))
set_option maxHeartbeats 4000000 in
set_option maxRecDepth 20000 in
theorem s_X2_middleOfZ {G : Ga} {b : Bd} {κ h : Hp} (hK : KC κ) (hF : Fr b κ h) (s1 : Nat) (hs1 : 56 ≤ s1 ∧ s1 ≤ 70) (x2 : Int) (hx2 : 0 ≤ x2 ∧ x2 ≤ 15 ∧ x2 - κ 33 0 ≤ -1) (x3 : Int) (hx3 : 0 ≤ x3 ∧ x3 ≤ 15 ∧ x3 - κ 33 1 ≤ -1) (f : Int → Int → Int) (hf : ShE (κ 33 0) (κ 33 1) (h (s1 + 15)) f) (hfb : FB (κ 33 0) (κ 33 1) f) : zM G mX2_middleOf yX2_middleOf [.inr (.inr 86), .inr (.inr s1), .inl x2, .inl x3] h (q_X2_middleOfZ κ h s1 x2 x3 f) := by
  have f_33_0 := KCw hK
  have f_33_1 := KCh hK
  refine zM_of [some (.inr (.inr 86)), some (.inr (.inr s1)), some (.inl x2), some (.inl x3), none, none, none, none, none, none, none] 7 rfl rfl (Nat.le_of_ble_eq_true rfl) rfl ?_
  refine zW_aload_n (pc' := 1) dX2_middleOf_0.1.1.1.1 rfl rfl ?_
  refine zG_lev (pc' := 4) (by omega) (by omega) fg_X2_24 dX2_middleOf_0.1.1.1.2 rfl ?_
  refine zW_astore (ls' := [_, _, _, _, _, _, _, _, _, _, _]) (pc' := 6) dX2_middleOf_0.1.1.2.1 (by decide) rfl rfl rfl ?_
  refine zW_aload (pc' := 8) dX2_middleOf_0.1.1.2.2 rfl rfl ?_
  refine zW_iload_n (pc' := 9) dX2_middleOf_0.1.2.1.1 rfl rfl ?_
  refine zW_bipush (pc' := 11) dX2_middleOf_0.1.2.1.2 rfl rfl ?_
  refine zW_imul (pc' := 12) dX2_middleOf_0.1.2.2.1 rfl ?_
  refine zW_iload_n (pc' := 13) dX2_middleOf_0.1.2.2.2 rfl rfl ?_
  refine zW_iconst (pc' := 14) dX2_middleOf_0.2.1.1.1 rfl ?_
  refine zW_isub (pc' := 15) dX2_middleOf_0.2.1.1.2 rfl ?_
  refine zW_aload_n (pc' := 16) dX2_middleOf_0.2.1.2.1 rfl rfl ?_
  refine zG_ref (pc' := 19) 33 fg_X2_9 tb86 rfl dX2_middleOf_0.2.1.2.2 rfl ?_
  refine zG_key (pc' := 22) hF rfl fg_X2_21 tb33 rfl dX2_middleOf_0.2.2.1.1 rfl ?_
  refine csI2 (pc' := 25) kX11_mirrored vX11_mirrored lk_X2_38 ⟨Nat.le_of_ble_eq_true rfl, Nat.le_of_ble_eq_true rfl⟩ rfl (s_X11_mirroredZ hF _ ⟨by omega, by omega⟩ _ ⟨by omega, by omega⟩ (by omega)) dX2_middleOf_0.2.2.1.2 (Nat.le_of_ble_eq_true rfl) rfl ?_
  rintro r22 z22 ⟨hz22, p22⟩; subst z22
  refine zW_iadd (pc' := 26) dX2_middleOf_0.2.2.2.1 rfl ?_
  refine zV_iald (pc' := 27) (tabL (by omega) (by omega)) (by omega) dX2_middleOf_0.2.2.2.2 (by decide) rfl ?_
  have q26 := hf.at (i := x3 * 16 + r22) (x := r22) (y := x3) ⟨by omega, by omega, by omega, by omega⟩ (by omega)
  have b26 := hfb (r22) (x3) ⟨by omega, by omega, by omega, by omega⟩
  rw [← q26] at b26
  refine zW_istore (ls' := [_, _, _, _, _, _, _, _, _, _, _]) (pc' := 29) dX2_middleOf_1.1.1.1.1 (by decide) rfl rfl rfl ?_
  refine zW_aload (pc' := 31) dX2_middleOf_1.1.1.1.2 rfl rfl ?_
  refine zW_iload_n (pc' := 32) dX2_middleOf_1.1.1.2.1 rfl rfl ?_
  refine zW_bipush (pc' := 34) dX2_middleOf_1.1.1.2.2 rfl rfl ?_
  refine zW_imul (pc' := 35) dX2_middleOf_1.1.2.1.1 rfl ?_
  refine zW_iload_n (pc' := 36) dX2_middleOf_1.1.2.1.2 rfl rfl ?_
  refine zW_iconst (pc' := 37) dX2_middleOf_1.1.2.2.1 rfl ?_
  refine zW_iadd (pc' := 38) dX2_middleOf_1.1.2.2.2 rfl ?_
  refine zW_aload_n (pc' := 39) dX2_middleOf_1.2.1.1.1 rfl rfl ?_
  refine zG_ref (pc' := 42) 33 fg_X2_9 tb86 rfl dX2_middleOf_1.2.1.1.2 rfl ?_
  refine zG_key (pc' := 45) hF rfl fg_X2_21 tb33 rfl dX2_middleOf_1.2.1.2.1 rfl ?_
  refine csI2 (pc' := 48) kX11_mirrored vX11_mirrored lk_X2_38 ⟨Nat.le_of_ble_eq_true rfl, Nat.le_of_ble_eq_true rfl⟩ rfl (s_X11_mirroredZ hF _ ⟨by omega, by omega⟩ _ ⟨by omega, by omega⟩ (by omega)) dX2_middleOf_1.2.1.2.2 (Nat.le_of_ble_eq_true rfl) rfl ?_
  rintro r45 z45 ⟨hz45, p45⟩; subst z45
  refine zW_iadd (pc' := 49) dX2_middleOf_1.2.2.1.1 rfl ?_
  refine zV_iald (pc' := 50) (tabL (by omega) (by omega)) (by omega) dX2_middleOf_1.2.2.1.2 (by decide) rfl ?_
  have q49 := hf.at (i := x3 * 16 + r45) (x := r45) (y := x3) ⟨by omega, by omega, by omega, by omega⟩ (by omega)
  have b49 := hfb (r45) (x3) ⟨by omega, by omega, by omega, by omega⟩
  rw [← q49] at b49
  refine zW_istore (ls' := [_, _, _, _, _, _, _, _, _, _, _]) (pc' := 52) dX2_middleOf_1.2.2.2.1 (by decide) rfl rfl rfl ?_
  refine zW_aload (pc' := 54) dX2_middleOf_1.2.2.2.2 rfl rfl ?_
  refine zW_iload_n (pc' := 55) dX2_middleOf_2.1.1.1.1 rfl rfl ?_
  refine zW_iconst (pc' := 56) dX2_middleOf_2.1.1.1.2 rfl ?_
  refine zW_isub (pc' := 57) dX2_middleOf_2.1.1.2.1 rfl ?_
  refine zW_aload_n (pc' := 58) dX2_middleOf_2.1.1.2.2 rfl rfl ?_
  refine zG_ref (pc' := 61) 33 fg_X2_9 tb86 rfl dX2_middleOf_2.1.2.1.1 rfl ?_
  refine zG_key (pc' := 64) hF rfl fg_X2_15 tb33 rfl dX2_middleOf_2.1.2.1.2 rfl ?_
  refine csI2 (pc' := 67) kX11_mirrored vX11_mirrored lk_X2_38 ⟨Nat.le_of_ble_eq_true rfl, Nat.le_of_ble_eq_true rfl⟩ rfl (s_X11_mirroredZ hF _ ⟨by omega, by omega⟩ _ ⟨by omega, by omega⟩ (by omega)) dX2_middleOf_2.1.2.2.1 (Nat.le_of_ble_eq_true rfl) rfl ?_
  rintro r64 z64 ⟨hz64, p64⟩; subst z64
  refine zW_bipush (pc' := 69) dX2_middleOf_2.1.2.2.2 rfl rfl ?_
  refine zW_imul (pc' := 70) dX2_middleOf_2.2.1.1.1 rfl ?_
  refine zW_iload_n (pc' := 71) dX2_middleOf_2.2.1.1.2 rfl rfl ?_
  refine zW_iadd (pc' := 72) dX2_middleOf_2.2.1.2.1 rfl ?_
  refine zV_iald (pc' := 73) (tabL (by omega) (by omega)) (by omega) dX2_middleOf_2.2.1.2.2 (by decide) rfl ?_
  have q72 := hf.at (i := r64 * 16 + x2) (x := x2) (y := r64) ⟨by omega, by omega, by omega, by omega⟩ (by omega)
  have b72 := hfb (x2) (r64) ⟨by omega, by omega, by omega, by omega⟩
  rw [← q72] at b72
  refine zW_istore (ls' := [_, _, _, _, _, _, _, _, _, _, _]) (pc' := 75) dX2_middleOf_2.2.2.1.1 (by decide) rfl rfl rfl ?_
  refine zW_aload (pc' := 77) dX2_middleOf_2.2.2.1.2 rfl rfl ?_
  refine zW_iload_n (pc' := 78) dX2_middleOf_2.2.2.2.1 rfl rfl ?_
  refine zW_iconst (pc' := 79) dX2_middleOf_2.2.2.2.2 rfl ?_
  refine zW_iadd (pc' := 80) dX2_middleOf_3.1.1.1.1 rfl ?_
  refine zW_aload_n (pc' := 81) dX2_middleOf_3.1.1.1.2 rfl rfl ?_
  refine zG_ref (pc' := 84) 33 fg_X2_9 tb86 rfl dX2_middleOf_3.1.1.2.1 rfl ?_
  refine zG_key (pc' := 87) hF rfl fg_X2_15 tb33 rfl dX2_middleOf_3.1.1.2.2 rfl ?_
  refine csI2 (pc' := 90) kX11_mirrored vX11_mirrored lk_X2_38 ⟨Nat.le_of_ble_eq_true rfl, Nat.le_of_ble_eq_true rfl⟩ rfl (s_X11_mirroredZ hF _ ⟨by omega, by omega⟩ _ ⟨by omega, by omega⟩ (by omega)) dX2_middleOf_3.1.2.1.1 (Nat.le_of_ble_eq_true rfl) rfl ?_
  rintro r87 z87 ⟨hz87, p87⟩; subst z87
  refine zW_bipush (pc' := 92) dX2_middleOf_3.1.2.1.2 rfl rfl ?_
  refine zW_imul (pc' := 93) dX2_middleOf_3.1.2.2.1 rfl ?_
  refine zW_iload_n (pc' := 94) dX2_middleOf_3.1.2.2.2 rfl rfl ?_
  refine zW_iadd (pc' := 95) dX2_middleOf_3.2.1.1.1 rfl ?_
  refine zV_iald (pc' := 96) (tabL (by omega) (by omega)) (by omega) dX2_middleOf_3.2.1.1.2 (by decide) rfl ?_
  have q95 := hf.at (i := r87 * 16 + x2) (x := x2) (y := r87) ⟨by omega, by omega, by omega, by omega⟩ (by omega)
  have b95 := hfb (x2) (r87) ⟨by omega, by omega, by omega, by omega⟩
  rw [← q95] at b95
  refine zW_istore (ls' := [_, _, _, _, _, _, _, _, _, _, _]) (pc' := 98) dX2_middleOf_3.2.1.2.1 (by decide) rfl rfl rfl ?_
  refine zW_iload (pc' := 100) dX2_middleOf_3.2.1.2.2 rfl rfl ?_
  refine zW_iload (pc' := 102) dX2_middleOf_3.2.2.1.1 rfl rfl ?_
  refine zV_mmax (pc' := 105) km_X2_42 (Nat.le_of_ble_eq_true rfl) (Nat.le_of_ble_eq_true rfl) dX2_middleOf_3.2.2.1.2 rfl (fun v102 e102 => ?_)
  replace e102 := e102.2 ⟨by omega, by omega⟩ ⟨by omega, by omega⟩
  refine zW_iload (pc' := 107) dX2_middleOf_3.2.2.2.1 rfl rfl ?_
  refine zW_iload (pc' := 109) dX2_middleOf_3.2.2.2.2 rfl rfl ?_
  refine zV_mmax (pc' := 112) km_X2_42 (Nat.le_of_ble_eq_true rfl) (Nat.le_of_ble_eq_true rfl) dX2_middleOf_4.1.1.1.1 rfl (fun v109 e109 => ?_)
  replace e109 := e109.2 ⟨by omega, by omega⟩ ⟨by omega, by omega⟩
  refine zV_mmax (pc' := 115) km_X2_42 (Nat.le_of_ble_eq_true rfl) (Nat.le_of_ble_eq_true rfl) dX2_middleOf_4.1.1.1.2 rfl (fun v112 e112 => ?_)
  replace e112 := e112.2 ⟨by omega, by omega⟩ ⟨by omega, by omega⟩
  refine zW_istore (ls' := [_, _, _, _, _, _, _, _, _, _, _]) (pc' := 117) dX2_middleOf_4.1.1.2.1 (by decide) rfl rfl rfl ?_
  refine zW_iload (pc' := 119) dX2_middleOf_4.1.1.2.2 rfl rfl ?_
  refine zW_iload (pc' := 121) dX2_middleOf_4.1.2.1.1 rfl rfl ?_
  refine zV_mmin (pc' := 124) km_X2_47 (Nat.le_of_ble_eq_true rfl) (Nat.le_of_ble_eq_true rfl) dX2_middleOf_4.1.2.1.2 rfl (fun v121 e121 => ?_)
  replace e121 := e121.2 ⟨by omega, by omega⟩ ⟨by omega, by omega⟩
  refine zW_iload (pc' := 126) dX2_middleOf_4.1.2.2.1 rfl rfl ?_
  refine zW_iload (pc' := 128) dX2_middleOf_4.1.2.2.2 rfl rfl ?_
  refine zV_mmin (pc' := 131) km_X2_47 (Nat.le_of_ble_eq_true rfl) (Nat.le_of_ble_eq_true rfl) dX2_middleOf_4.2.1.1.1 rfl (fun v128 e128 => ?_)
  replace e128 := e128.2 ⟨by omega, by omega⟩ ⟨by omega, by omega⟩
  refine zV_mmin (pc' := 134) km_X2_47 (Nat.le_of_ble_eq_true rfl) (Nat.le_of_ble_eq_true rfl) dX2_middleOf_4.2.1.1.2 rfl (fun v131 e131 => ?_)
  replace e131 := e131.2 ⟨by omega, by omega⟩ ⟨by omega, by omega⟩
  refine zW_istore (ls' := [_, _, _, _, _, _, _, _, _, _, _]) (pc' := 136) dX2_middleOf_4.2.1.2.1 (by decide) rfl rfl rfl ?_
  refine zW_iload (pc' := 138) dX2_middleOf_4.2.1.2.2 rfl rfl ?_
  refine zW_iload (pc' := 140) dX2_middleOf_4.2.2.1.1 rfl rfl ?_
  refine zW_iadd (pc' := 141) dX2_middleOf_4.2.2.1.2 rfl ?_
  refine zW_iload (pc' := 143) dX2_middleOf_4.2.2.2.1 rfl rfl ?_
  refine zW_iadd (pc' := 144) dX2_middleOf_4.2.2.2.2 rfl ?_
  refine zW_iload (pc' := 146) dX2_middleOf_5.1.1.1.1 rfl rfl ?_
  refine zW_iadd (pc' := 147) dX2_middleOf_5.1.1.1.2 rfl ?_
  refine zW_iload (pc' := 149) dX2_middleOf_5.1.1.2 rfl rfl ?_
  refine zW_isub (pc' := 150) dX2_middleOf_5.1.2.1 rfl ?_
  refine zW_iload (pc' := 152) dX2_middleOf_5.1.2.2 rfl rfl ?_
  refine zW_isub (pc' := 153) dX2_middleOf_5.2.1.1 rfl ?_
  refine zW_iconst (pc' := 154) dX2_middleOf_5.2.1.2 rfl ?_
  refine zW_idiv (pc' := 155) (by omega) (by omega) dX2_middleOf_5.2.2.1 rfl ?_
  exact zV_iret rfl dX2_middleOf_5.2.2.2 ⟨rfl, (by have e : mdl (κ 33 0) (κ 33 1) f x2 x3 = mid4 (f r22 x3) (f r45 x3) (f x2 r64) (f x2 r87) / 2 := (by unfold mdl; rw [p22.2.2.2, p45.2.2.2, p64.2.2.2, p87.2.2.2]); rw [← q26, ← q49, ← q72, ← q95] at e; have h1 := max2c (h (s1 + 15) (x3 * 16 + r22).toNat) (h (s1 + 15) (x3 * 16 + r45).toNat); have h2 := max2c (h (s1 + 15) (r64 * 16 + x2).toNat) (h (s1 + 15) (r87 * 16 + x2).toNat); have e5 : v112 = max2 (max2 (h (s1 + 15) (x3 * 16 + r22).toNat) (h (s1 + 15) (x3 * 16 + r45).toNat)) (max2 (h (s1 + 15) (r64 * 16 + x2).toNat) (h (s1 + 15) (r87 * 16 + x2).toNat)) := (by have h3 := max2c (max2 (h (s1 + 15) (x3 * 16 + r22).toNat) (h (s1 + 15) (x3 * 16 + r45).toNat)) (max2 (h (s1 + 15) (r64 * 16 + x2).toNat) (h (s1 + 15) (r87 * 16 + x2).toNat)); omega); have h4 := min2c (h (s1 + 15) (x3 * 16 + r22).toNat) (h (s1 + 15) (x3 * 16 + r45).toNat); have h5 := min2c (h (s1 + 15) (r64 * 16 + x2).toNat) (h (s1 + 15) (r87 * 16 + x2).toNat); have e6 : v131 = min2 (min2 (h (s1 + 15) (x3 * 16 + r22).toNat) (h (s1 + 15) (x3 * 16 + r45).toNat)) (min2 (h (s1 + 15) (r64 * 16 + x2).toNat) (h (s1 + 15) (r87 * 16 + x2).toNat)) := (by have h6 := min2c (min2 (h (s1 + 15) (x3 * 16 + r22).toNat) (h (s1 + 15) (x3 * 16 + r45).toNat)) (min2 (h (s1 + 15) (r64 * 16 + x2).toNat) (h (s1 + 15) (r87 * 16 + x2).toNat)); omega); rw [e]; unfold mid4; rw [← e5, ← e6]; exact ⟨by omega, by omega, rfl⟩)⟩

abbrev q_X2_isFoundZ (κ h : Hp) (s1 : Nat) (x2 : Int) (x3 : Int) (x4 : Int) (f : Int → Int → Int) : Int → Hp → Prop := fun r h' => h' = h ∧ ((0 ≤ r) ∧ (r ≤ 1) ∧ (r = 1 ↔ fnd (κ 33 0) (κ 33 1) (κ 35) f x4 x2 x3))
set_option maxHeartbeats 4000000 in
set_option maxRecDepth 20000 in
theorem s_X2_isFoundZ {G : Ga} {b : Bd} {κ h : Hp} (hK : KC κ) (hF : Fr b κ h) (s1 : Nat) (hs1 : 56 ≤ s1 ∧ s1 ≤ 70) (x2 : Int) (hx2 : 0 ≤ x2 ∧ x2 ≤ 15 ∧ x2 - κ 33 0 ≤ -1) (x3 : Int) (hx3 : 0 ≤ x3 ∧ x3 ≤ 15 ∧ x3 - κ 33 1 ≤ -1) (x4 : Int) (hx4 : 0 ≤ x4 ∧ x4 ≤ 255) (f : Int → Int → Int) (hf : ShE (κ 33 0) (κ 33 1) (h (s1 + 15)) f) (hfb : FB (κ 33 0) (κ 33 1) f) : zM G mX2_isFound yX2_isFound [.inr (.inr 86), .inr (.inr s1), .inl x2, .inl x3, .inl x4] h (q_X2_isFoundZ κ h s1 x2 x3 x4 f) := by
  have f_33_0 := KCw hK
  have f_33_1 := KCh hK
  refine zM_of [some (.inr (.inr 86)), some (.inr (.inr s1)), some (.inl x2), some (.inl x3), some (.inl x4), none] 1 rfl rfl (Nat.le_of_ble_eq_true rfl) rfl ?_
  refine zW_iload_n (pc' := 1) dX2_isFound_0.1.1.1.1 rfl rfl ?_
  refine zW_bipush (pc' := 3) dX2_isFound_0.1.1.1.2 rfl rfl ?_
  refine zW_imul (pc' := 4) dX2_isFound_0.1.1.2.1 rfl ?_
  refine zW_iload_n (pc' := 5) dX2_isFound_0.1.1.2.2 rfl rfl ?_
  refine zW_iadd (pc' := 6) dX2_isFound_0.1.2.1.1 rfl ?_
  refine zW_istore (ls' := [_, _, _, _, _, _]) (pc' := 8) dX2_isFound_0.1.2.1.2 (by decide) rfl rfl rfl ?_
  refine zW_aload_n (pc' := 9) dX2_isFound_0.1.2.2.1 rfl rfl ?_
  refine zG_ref (pc' := 12) 33 fg_X2_9 tb86 rfl dX2_isFound_0.1.2.2.2 rfl ?_
  refine zG_ref (pc' := 15) 35 fg_X2_50 tb33 rfl dX2_isFound_0.2.1.1.1 rfl ?_
  refine zW_iload (pc' := 17) dX2_isFound_0.2.1.1.2 rfl rfl ?_
  refine zA_keyI (pc' := 18) hF rfl (by decide) (by decide) tb35 (by omega) dX2_isFound_0.2.1.2.1 (by decide) rfl (fun e17 => ?_)
  refine zW_iconst (pc' := 19) dX2_isFound_0.2.1.2.2 rfl ?_
  refine zV_cm_eq (tgt := 48) (pc' := 22) dX2_isFound_0.2.2.1.1 rfl rfl ⟨by omega, by omega⟩ ⟨by omega, by omega⟩ (fun c19 => ?_) (fun c19 => ?_)
  · refine zW_iconst (pc' := 49) dX2_isFound_1.2.2.1.1 rfl ?_
    refine zV_goto 53 dX2_isFound_1.2.2.1.2 rfl ?_
    exact zV_zret rfl (by omega) dX2_isFound_1.2.2.2.2 ⟨rfl, (by have ei : (x3 * 16 + x2).toNat = (16 * x3 + x2).toNat := (by omega); have ek : κ 35 (x3 * 16 + x2).toNat = κ 35 (16 * x3 + x2).toNat := (by rw [ei]); refine ⟨by omega, by omega, ?_⟩; have za := abc (f x2 x3 - mdl (κ 33 0) (κ 33 1) f x2 x3); unfold fnd; omega)⟩
  · refine zW_aload_n (pc' := 23) dX2_isFound_0.2.2.1.2 rfl rfl ?_
    refine zG_lev (pc' := 26) (by omega) (by omega) fg_X2_24 dX2_isFound_0.2.2.2.1 rfl ?_
    refine zW_iload (pc' := 28) dX2_isFound_0.2.2.2.2 rfl rfl ?_
    refine zV_iald (pc' := 29) (tabL (by omega) (by omega)) (by omega) dX2_isFound_1.1.1.1.1 (by decide) rfl ?_
    have q28 := hf.at (i := x3 * 16 + x2) (x := x2) (y := x3) ⟨by omega, by omega, by omega, by omega⟩ (by omega)
    have b28 := hfb (x2) (x3) ⟨by omega, by omega, by omega, by omega⟩
    rw [← q28] at b28
    refine zW_aload_n (pc' := 30) dX2_isFound_1.1.1.1.2 rfl rfl ?_
    refine zW_aload_n (pc' := 31) dX2_isFound_1.1.1.2.1 rfl rfl ?_
    refine zW_iload_n (pc' := 32) dX2_isFound_1.1.1.2.2 rfl rfl ?_
    refine zW_iload_n (pc' := 33) dX2_isFound_1.1.2.1.1 rfl rfl ?_
    refine cvI3 (pc' := 36) kX2_middleOf vX2_middleOf lk_X2_53 ⟨Nat.le_of_ble_eq_true rfl, Nat.le_of_ble_eq_true rfl⟩ tb86 vq2 rfl rfl (s_X2_middleOfZ hK hF _ ⟨by omega, by omega⟩ _ ⟨by omega, by omega, by omega⟩ _ ⟨by omega, by omega, by omega⟩ f (by omega) (by omega)) dX2_isFound_1.1.2.1.2 (Nat.le_of_ble_eq_true rfl) rfl ?_
    rintro r33 z33 ⟨hz33, p33⟩; subst z33
    refine zW_isub (pc' := 37) dX2_isFound_1.1.2.2.1 rfl ?_
    refine zV_mabs (pc' := 40) km_X2_56 (Nat.le_of_ble_eq_true rfl) (Nat.le_of_ble_eq_true rfl) dX2_isFound_1.1.2.2.2 rfl (fun v37 e37 => ?_)
    replace e37 := e37.2 ⟨by omega, by omega⟩ (by omega)
    refine zW_bipush (pc' := 42) dX2_isFound_1.2.1.1.1 rfl rfl ?_
    refine zW_iload (pc' := 44) dX2_isFound_1.2.1.1.2 rfl rfl ?_
    refine zW_imul (pc' := 45) dX2_isFound_1.2.1.2.1 rfl ?_
    refine zV_cm_le (tgt := 52) (pc' := 48) dX2_isFound_1.2.1.2.2 rfl rfl ⟨by omega, by omega⟩ ⟨by omega, by omega⟩ (fun c45 => ?_) (fun c45 => ?_)
    · refine zW_iconst (pc' := 53) dX2_isFound_1.2.2.2.1 rfl ?_
      exact zV_zret rfl (by omega) dX2_isFound_1.2.2.2.2 ⟨rfl, (by have ei : (x3 * 16 + x2).toNat = (16 * x3 + x2).toNat := (by omega); have ek : κ 35 (x3 * 16 + x2).toNat = κ 35 (16 * x3 + x2).toNat := (by rw [ei]); refine ⟨by omega, by omega, ?_⟩; have za := abc (f x2 x3 - mdl (κ 33 0) (κ 33 1) f x2 x3); unfold fnd; omega)⟩
    · refine zW_iconst (pc' := 49) dX2_isFound_1.2.2.1.1 rfl ?_
      refine zV_goto 53 dX2_isFound_1.2.2.1.2 rfl ?_
      exact zV_zret rfl (by omega) dX2_isFound_1.2.2.2.2 ⟨rfl, (by have ei : (x3 * 16 + x2).toNat = (16 * x3 + x2).toNat := (by omega); have ek : κ 35 (x3 * 16 + x2).toNat = κ 35 (16 * x3 + x2).toNat := (by rw [ei]); refine ⟨by omega, by omega, ?_⟩; have za := abc (f x2 x3 - mdl (κ 33 0) (κ 33 1) f x2 x3); unfold fnd; omega)⟩

abbrev q_X2_takeBlackZ (b : Bd) (κ : Hp) (s1 : Nat) (s2 : Nat) (x3 : Int) (f : Int → Int → Int) (gh0 : Hp) : Int → Hp → Prop := fun r h' => Fr b κ h' ∧ ((Fw [(s2 + 15)] [] gh0 h') ∧ (ShE (κ 33 0) (κ 33 1) (h' (s2 + 15)) (fun x y => clp (f x y - 16 * x3))))
set_option maxHeartbeats 4000000 in
set_option maxRecDepth 20000 in
theorem s_X2_takeBlackZ {G : Ga} {b : Bd} {κ h : Hp} (hK : KC κ) (hF : Fr b κ h) (s1 : Nat) (hs1 : 56 ≤ s1 ∧ s1 ≤ 70) (s2 : Nat) (hs2 : 56 ≤ s2 ∧ s2 ≤ 70) (x3 : Int) (hx3 : 0 ≤ x3 ∧ x3 ≤ 255) (f : Int → Int → Int) (gh0 : Hp) (hto : OkL b (s2 + 15)) (hne : s1 ≠ s2) (hf : ShE (κ 33 0) (κ 33 1) (h (s1 + 15)) f) (hfb : FB (κ 33 0) (κ 33 1) f) (hgh : Fw [(s2 + 15)] [] gh0 h) : zM G mX2_takeBlack yX2_takeBlack [.inr (.inr 86), .inr (.inr s1), .inr (.inr s2), .inl x3] h (q_X2_takeBlackZ b κ s1 s2 x3 f gh0) := by
  have f_33_0 := KCw hK
  have f_33_1 := KCh hK
  have main : ∀ N : Nat, (∀ (v4 : Int) (h : Hp), Fr b κ h → (0 ≤ v4 ∧ v4 ≤ 16) → (v4 - κ 33 1 ≤ 0) → (ShEu (κ 33 0) (κ 33 1) (h (s2 + 15)) (fun x y => clp (f x y - 16 * x3)) 0 v4) → (ShE (κ 33 0) (κ 33 1) (h (s1 + 15)) f) → (Fw [(s2 + 15)] [] gh0 h) → 16174080 + 23040 * (16 - v4) + 22464 < (N : Int) → zV G mX2_takeBlack (q_X2_takeBlackZ b κ s1 s2 x3 f gh0) 3 [some (.inr (.inr 86)), some (.inr (.inr s1)), some (.inr (.inr s2)), some (.inl x3), some (.inl v4), none] [] h) ∧ (∀ (v4 v5 : Int) (h : Hp), Fr b κ h → (0 ≤ v4 ∧ v4 ≤ 15) → (v4 - κ 33 1 ≤ -1) → (0 ≤ v5 ∧ v5 ≤ 16) → (v5 - κ 33 0 ≤ 0) → (ShEu (κ 33 0) (κ 33 1) (h (s2 + 15)) (fun x y => clp (f x y - 16 * x3)) v5 v4) → (ShE (κ 33 0) (κ 33 1) (h (s1 + 15)) f) → (Fw [(s2 + 15)] [] gh0 h) → 16174080 + 23040 * (16 - v4) + 17856 + 32 * (16 - v5) + 31 < (N : Int) → zV G mX2_takeBlack (q_X2_takeBlackZ b κ s1 s2 x3 f gh0) 18 [some (.inr (.inr 86)), some (.inr (.inr s1)), some (.inr (.inr s2)), some (.inl x3), some (.inl v4), some (.inl v5)] [] h) := by
    intro N
    induction N with
    | zero =>
      refine ⟨?_, ?_⟩
      · intro v4 h hF g0 g1 gc0 hf hgh hm
        exfalso; omega
      · intro v4 v5 h hF g0 g1 g2 g3 gc0 hf hgh hm
        exfalso; omega
    | succ N ih =>
      obtain ⟨k3, k18⟩ := ih
      refine ⟨?_, ?_⟩
      · intro v4 h hF g0 g1 gc0 hf hgh hm
        refine zW_iload (pc' := 5) dX2_takeBlack_0.1.1.2.1 rfl rfl ?_
        refine zW_aload_n (pc' := 6) dX2_takeBlack_0.1.1.2.2 rfl rfl ?_
        refine zG_ref (pc' := 9) 33 fg_X2_9 tb86 rfl dX2_takeBlack_0.1.2.1.1 rfl ?_
        refine zG_key (pc' := 12) hF rfl fg_X2_15 tb33 rfl dX2_takeBlack_0.1.2.1.2 rfl ?_
        refine zV_cm_ge (tgt := 76) (pc' := 15) dX2_takeBlack_0.1.2.2.1 rfl rfl ⟨by omega, by omega⟩ ⟨by omega, by omega⟩ (fun c12 => ?_) (fun c12 => ?_)
        · exact zV_vret rfl dX2_takeBlack_2.2.2.2 ⟨hF, ⟨hgh, gc0.all (by omega)⟩⟩
        · refine zW_iconst (pc' := 16) dX2_takeBlack_0.1.2.2.2 rfl ?_
          refine zW_istore (ls' := [_, _, _, _, _, _]) (pc' := 18) dX2_takeBlack_0.2.1.1.1 (by decide) rfl rfl rfl ?_
          exact k18 _ _ _ hF (by omega) (by omega) (by omega) (by omega) (by first | exact hr2 | exact gc0) hf hgh (by omega)
      · intro v4 v5 h hF g0 g1 g2 g3 gc0 hf hgh hm
        refine zW_iload (pc' := 20) dX2_takeBlack_0.2.1.1.2 rfl rfl ?_
        refine zW_aload_n (pc' := 21) dX2_takeBlack_0.2.1.2.1 rfl rfl ?_
        refine zG_ref (pc' := 24) 33 fg_X2_9 tb86 rfl dX2_takeBlack_0.2.1.2.2 rfl ?_
        refine zG_key (pc' := 27) hF rfl fg_X2_21 tb33 rfl dX2_takeBlack_0.2.2.1.1 rfl ?_
        refine zV_cm_ge (tgt := 70) (pc' := 30) dX2_takeBlack_0.2.2.1.2 rfl rfl ⟨by omega, by omega⟩ ⟨by omega, by omega⟩ (fun c27 => ?_) (fun c27 => ?_)
        · refine zW_iinc (ls' := [_, _, _, _, _, _]) (pc' := 73) dX2_takeBlack_2.2.1.2 rfl (by decide) rfl rfl rfl ?_
          refine zV_goto 3 dX2_takeBlack_2.2.2.1 rfl ?_
          refine zV_clr 5 (ls' := [_, _, _, _, _, _]) rfl ?_
          exact k3 _ _ hF (by omega) (by omega) (by first | exact gc0.rowx (by omega) | exact ShEu.no) hf hgh (by omega)
        · refine zW_aload_n (pc' := 31) dX2_takeBlack_0.2.2.2.1 rfl rfl ?_
          refine zG_lev (pc' := 34) (by omega) (by omega) fg_X2_24 dX2_takeBlack_0.2.2.2.2 rfl ?_
          refine zW_iload (pc' := 36) dX2_takeBlack_1.1.1.1.1 rfl rfl ?_
          refine zW_bipush (pc' := 38) dX2_takeBlack_1.1.1.1.2 rfl rfl ?_
          refine zW_imul (pc' := 39) dX2_takeBlack_1.1.1.2.1 rfl ?_
          refine zW_iload (pc' := 41) dX2_takeBlack_1.1.1.2.2 rfl rfl ?_
          refine zW_iadd (pc' := 42) dX2_takeBlack_1.1.2.1.1 rfl ?_
          refine zW_aload_n (pc' := 43) dX2_takeBlack_1.1.2.1.2 rfl rfl ?_
          refine zG_lev (pc' := 46) (by omega) (by omega) fg_X2_24 dX2_takeBlack_1.1.2.2.1 rfl ?_
          refine zW_iload (pc' := 48) dX2_takeBlack_1.1.2.2.2 rfl rfl ?_
          refine zW_bipush (pc' := 50) dX2_takeBlack_1.2.1.1.1 rfl rfl ?_
          refine zW_imul (pc' := 51) dX2_takeBlack_1.2.1.1.2 rfl ?_
          refine zW_iload (pc' := 53) dX2_takeBlack_1.2.1.2.1 rfl rfl ?_
          refine zW_iadd (pc' := 54) dX2_takeBlack_1.2.1.2.2 rfl ?_
          refine zV_iald (pc' := 55) (tabL (by omega) (by omega)) (by omega) dX2_takeBlack_1.2.2.1.1 (by decide) rfl ?_
          have q54 := hf.at (i := v4 * 16 + v5) (x := v5) (y := v4) ⟨by omega, by omega, by omega, by omega⟩ (by omega)
          have b54 := hfb (v5) (v4) ⟨by omega, by omega, by omega, by omega⟩
          rw [← q54] at b54
          refine zW_bipush (pc' := 57) dX2_takeBlack_1.2.2.1.2 rfl rfl ?_
          refine zW_iload_n (pc' := 58) dX2_takeBlack_1.2.2.2.1 rfl rfl ?_
          refine zW_imul (pc' := 59) dX2_takeBlack_1.2.2.2.2 rfl ?_
          refine zW_isub (pc' := 60) dX2_takeBlack_2.1.1.1 rfl ?_
          refine csI1 (pc' := 63) kX11_clipped vX11_clipped lk_X2_30 ⟨Nat.le_of_ble_eq_true rfl, Nat.le_of_ble_eq_true rfl⟩ rfl (s_X11_clippedZ hF _ ⟨by omega, by omega⟩) dX2_takeBlack_2.1.1.2 (Nat.le_of_ble_eq_true rfl) rfl ?_
          rintro r60 z60 ⟨hz60, p60⟩; subst z60
          refine zS_lv (pc' := 64) hF (by omega) (by omega) hto (by omega) dX2_takeBlack_2.1.2.1 rfl (fun h i63 hF a63 b63 w63 => ?_)
          replace b63 := b63 ⟨by omega, by omega⟩
          replace hgh : Fw [(s2 + 15)] [] gh0 h := by rw [w63]; exact hgh.wc (by simp)
          replace hf : ShE (κ 33 0) (κ 33 1) (h (s1 + 15)) f := by have q0_ := (congrFun w63 (s1 + 15)).trans (zfun (by omega)); rw [q0_]; exact hf
          have hr2 : ShEu (κ 33 0) (κ 33 1) (h (s2 + 15)) (fun x y => clp (f x y - 16 * x3)) (v5 + 1) v4 := by rw [w63, b63]; exact ShEu.nx (by omega) ⟨by omega, by omega, by omega, by omega⟩ gc0 (by omega) (by rw [p60.2.2, q54])
          refine zW_iinc (ls' := [_, _, _, _, _, _]) (pc' := 67) dX2_takeBlack_2.1.2.2 rfl (by decide) rfl rfl rfl ?_
          refine zV_goto 18 dX2_takeBlack_2.2.1.1 rfl ?_
          exact k18 _ _ _ hF (by omega) (by omega) (by omega) (by omega) (by first | exact hr2 | exact gc0) hf hgh (by omega)
  refine zM_of [some (.inr (.inr 86)), some (.inr (.inr s1)), some (.inr (.inr s2)), some (.inl x3), none, none] 2 rfl rfl (Nat.le_of_ble_eq_true rfl) rfl ?_
  refine zW_iconst (pc' := 1) dX2_takeBlack_0.1.1.1.1 rfl ?_
  refine zW_istore (ls' := [_, _, _, _, _, _]) (pc' := 3) dX2_takeBlack_0.1.1.1.2 (by decide) rfl rfl rfl ?_
  exact (main 10000000000000000000000000000000000000000).1 _ _ hF (by omega) (by omega) (by first | exact gc0.rowx (by omega) | exact ShEu.no) hf hgh (by omega)

abbrev q_X2_takeDarkZ (b : Bd) (κ : Hp) (s1 : Nat) (s2 : Nat) (x3 : Int) (f : Int → Int → Int) (gh0 : Hp) : Int → Hp → Prop := fun r h' => Fr b κ h' ∧ ((Fw [(s2 + 15)] [] gh0 h') ∧ (ShE (κ 33 0) (κ 33 1) (h' (s2 + 15)) (fun x y => clp (f x y - dkS f y x3.toNat / x3))))
set_option maxHeartbeats 4000000 in
set_option maxRecDepth 20000 in
theorem s_X2_takeDarkZ {G : Ga} {b : Bd} {κ h : Hp} (hK : KC κ) (hF : Fr b κ h) (s1 : Nat) (hs1 : 56 ≤ s1 ∧ s1 ≤ 70) (s2 : Nat) (hs2 : 56 ≤ s2 ∧ s2 ≤ 70) (x3 : Int) (hx3 : 1 ≤ x3 ∧ x3 ≤ 4) (f : Int → Int → Int) (gh0 : Hp) (hto : OkL b (s2 + 15)) (hne : s1 ≠ s2) (hf : ShE (κ 33 0) (κ 33 1) (h (s1 + 15)) f) (hfb : FB (κ 33 0) (κ 33 1) f) (hgh : Fw [(s2 + 15)] [] gh0 h) : zM G mX2_takeDark yX2_takeDark [.inr (.inr 86), .inr (.inr s1), .inr (.inr s2), .inl x3] h (q_X2_takeDarkZ b κ s1 s2 x3 f gh0) := by
  have f_33_0 := KCw hK
  have f_33_1 := KCh hK
  have main : ∀ N : Nat, (∀ (v4 : Int) (h : Hp), Fr b κ h → (0 ≤ v4 ∧ v4 ≤ 16) → (v4 - κ 33 1 ≤ 0) → (ShEu (κ 33 0) (κ 33 1) (h (s2 + 15)) (fun x y => clp (f x y - dkS f y x3.toNat / x3)) 0 v4) → (ShE (κ 33 0) (κ 33 1) (h (s1 + 15)) f) → (Fw [(s2 + 15)] [] gh0 h) → 18390240 + 23760 * (16 - v4) + 23220 < (N : Int) → zV G mX2_takeDark (q_X2_takeDarkZ b κ s1 s2 x3 f gh0) 3 [some (.inr (.inr 86)), some (.inr (.inr s1)), some (.inr (.inr s2)), some (.inl x3), some (.inl v4), none, none] [] h) ∧ (∀ (v4 v5 v6 : Int) (h : Hp), Fr b κ h → (0 ≤ v4 ∧ v4 ≤ 15) → (v4 - κ 33 1 ≤ -1) → (0 ≤ v5 ∧ v5 ≤ 4095) → (0 ≤ v6 ∧ v6 ≤ 16) → (v6 - κ 33 0 ≤ 0) → (ShEu (κ 33 0) (κ 33 1) (h (s2 + 15)) (fun x y => clp (f x y - dkS f y x3.toNat / x3)) v6 v4) → (v5 = dkS f v4 x3.toNat / x3) → (ShE (κ 33 0) (κ 33 1) (h (s1 + 15)) f) → (Fw [(s2 + 15)] [] gh0 h) → 18390240 + 23760 * (16 - v4) + 15660 + 30 * (16 - v6) + 29 < (N : Int) → zV G mX2_takeDark (q_X2_takeDarkZ b κ s1 s2 x3 f gh0) 28 [some (.inr (.inr 86)), some (.inr (.inr s1)), some (.inr (.inr s2)), some (.inl x3), some (.inl v4), some (.inl v5), some (.inl v6)] [] h) := by
    intro N
    induction N with
    | zero =>
      refine ⟨?_, ?_⟩
      · intro v4 h hF g0 g1 gc0 hf hgh hm
        exfalso; omega
      · intro v4 v5 v6 h hF g0 g1 g2 g3 g4 gc0 gc1 hf hgh hm
        exfalso; omega
    | succ N ih =>
      obtain ⟨k3, k28⟩ := ih
      refine ⟨?_, ?_⟩
      · intro v4 h hF g0 g1 gc0 hf hgh hm
        refine zW_iload (pc' := 5) dX2_takeDark_0.1.1.2.1 rfl rfl ?_
        refine zW_aload_n (pc' := 6) dX2_takeDark_0.1.1.2.2 rfl rfl ?_
        refine zG_ref (pc' := 9) 33 fg_X2_9 tb86 rfl dX2_takeDark_0.1.2.1.1 rfl ?_
        refine zG_key (pc' := 12) hF rfl fg_X2_15 tb33 rfl dX2_takeDark_0.1.2.1.2 rfl ?_
        refine zV_cm_ge (tgt := 84) (pc' := 15) dX2_takeDark_0.1.2.2.1 rfl rfl ⟨by omega, by omega⟩ ⟨by omega, by omega⟩ (fun c12 => ?_) (fun c12 => ?_)
        · exact zV_vret rfl dX2_takeDark_2.2.2.2 ⟨hF, ⟨hgh, gc0.all (by omega)⟩⟩
        · refine zW_aload_n (pc' := 16) dX2_takeDark_0.1.2.2.2 rfl rfl ?_
          refine zW_aload_n (pc' := 17) dX2_takeDark_0.2.1.1.1 rfl rfl ?_
          refine zW_iload (pc' := 19) dX2_takeDark_0.2.1.1.2 rfl rfl ?_
          refine zW_iload_n (pc' := 20) dX2_takeDark_0.2.1.2.1 rfl rfl ?_
          refine cvI3 (pc' := 23) kX2_darkOf vX2_darkOf lk_X2_34 ⟨Nat.le_of_ble_eq_true rfl, Nat.le_of_ble_eq_true rfl⟩ tb86 vq2 rfl rfl (s_X2_darkOfZ hK hF _ ⟨by omega, by omega⟩ _ ⟨by omega, by omega, by omega⟩ _ ⟨by omega, by omega⟩ f (by omega) (by omega)) dX2_takeDark_0.2.1.2.2 (Nat.le_of_ble_eq_true rfl) rfl ?_
          rintro r20 z20 ⟨hz20, p20⟩; subst z20
          refine zW_istore (ls' := [_, _, _, _, _, _, _]) (pc' := 25) dX2_takeDark_0.2.2.1.1 (by decide) rfl rfl rfl ?_
          refine zW_iconst (pc' := 26) dX2_takeDark_0.2.2.1.2 rfl ?_
          refine zW_istore (ls' := [_, _, _, _, _, _, _]) (pc' := 28) dX2_takeDark_0.2.2.2.1 (by decide) rfl rfl rfl ?_
          exact k28 _ _ _ _ hF (by omega) (by omega) (by omega) (by omega) (by omega) (by first | exact hr2 | exact gc0) (by first | exact p20.2.2 (by omega) | exact gc1) hf hgh (by omega)
      · intro v4 v5 v6 h hF g0 g1 g2 g3 g4 gc0 gc1 hf hgh hm
        refine zW_iload (pc' := 30) dX2_takeDark_0.2.2.2.2 rfl rfl ?_
        refine zW_aload_n (pc' := 31) dX2_takeDark_1.1.1.1.1 rfl rfl ?_
        refine zG_ref (pc' := 34) 33 fg_X2_9 tb86 rfl dX2_takeDark_1.1.1.1.2 rfl ?_
        refine zG_key (pc' := 37) hF rfl fg_X2_21 tb33 rfl dX2_takeDark_1.1.1.2.1 rfl ?_
        refine zV_cm_ge (tgt := 78) (pc' := 40) dX2_takeDark_1.1.1.2.2 rfl rfl ⟨by omega, by omega⟩ ⟨by omega, by omega⟩ (fun c37 => ?_) (fun c37 => ?_)
        · refine zW_iinc (ls' := [_, _, _, _, _, _, _]) (pc' := 81) dX2_takeDark_2.2.2.1.1 rfl (by decide) rfl rfl rfl ?_
          refine zV_goto 3 dX2_takeDark_2.2.2.1.2 rfl ?_
          refine zV_clr 5 (ls' := [_, _, _, _, _, _, _]) rfl ?_
          refine zV_clr 6 (ls' := [_, _, _, _, _, _, _]) rfl ?_
          exact k3 _ _ hF (by omega) (by omega) (by first | exact gc0.rowx (by omega) | exact ShEu.no) hf hgh (by omega)
        · refine zW_aload_n (pc' := 41) dX2_takeDark_1.1.2.1.1 rfl rfl ?_
          refine zG_lev (pc' := 44) (by omega) (by omega) fg_X2_24 dX2_takeDark_1.1.2.1.2 rfl ?_
          refine zW_iload (pc' := 46) dX2_takeDark_1.1.2.2.1 rfl rfl ?_
          refine zW_bipush (pc' := 48) dX2_takeDark_1.1.2.2.2 rfl rfl ?_
          refine zW_imul (pc' := 49) dX2_takeDark_1.2.1.1.1 rfl ?_
          refine zW_iload (pc' := 51) dX2_takeDark_1.2.1.1.2 rfl rfl ?_
          refine zW_iadd (pc' := 52) dX2_takeDark_1.2.1.2.1 rfl ?_
          refine zW_aload_n (pc' := 53) dX2_takeDark_1.2.1.2.2 rfl rfl ?_
          refine zG_lev (pc' := 56) (by omega) (by omega) fg_X2_24 dX2_takeDark_1.2.2.1.1 rfl ?_
          refine zW_iload (pc' := 58) dX2_takeDark_1.2.2.1.2 rfl rfl ?_
          refine zW_bipush (pc' := 60) dX2_takeDark_1.2.2.2.1 rfl rfl ?_
          refine zW_imul (pc' := 61) dX2_takeDark_1.2.2.2.2 rfl ?_
          refine zW_iload (pc' := 63) dX2_takeDark_2.1.1.1.1 rfl rfl ?_
          refine zW_iadd (pc' := 64) dX2_takeDark_2.1.1.1.2 rfl ?_
          refine zV_iald (pc' := 65) (tabL (by omega) (by omega)) (by omega) dX2_takeDark_2.1.1.2 (by decide) rfl ?_
          have q64 := hf.at (i := v4 * 16 + v6) (x := v6) (y := v4) ⟨by omega, by omega, by omega, by omega⟩ (by omega)
          have b64 := hfb (v6) (v4) ⟨by omega, by omega, by omega, by omega⟩
          rw [← q64] at b64
          refine zW_iload (pc' := 67) dX2_takeDark_2.1.2.1.1 rfl rfl ?_
          refine zW_isub (pc' := 68) dX2_takeDark_2.1.2.1.2 rfl ?_
          refine csI1 (pc' := 71) kX11_clipped vX11_clipped lk_X2_30 ⟨Nat.le_of_ble_eq_true rfl, Nat.le_of_ble_eq_true rfl⟩ rfl (s_X11_clippedZ hF _ ⟨by omega, by omega⟩) dX2_takeDark_2.1.2.2 (Nat.le_of_ble_eq_true rfl) rfl ?_
          rintro r68 z68 ⟨hz68, p68⟩; subst z68
          refine zS_lv (pc' := 72) hF (by omega) (by omega) hto (by omega) dX2_takeDark_2.2.1.1.1 rfl (fun h i71 hF a71 b71 w71 => ?_)
          replace b71 := b71 ⟨by omega, by omega⟩
          replace hgh : Fw [(s2 + 15)] [] gh0 h := by rw [w71]; exact hgh.wc (by simp)
          replace hf : ShE (κ 33 0) (κ 33 1) (h (s1 + 15)) f := by have q0_ := (congrFun w71 (s1 + 15)).trans (zfun (by omega)); rw [q0_]; exact hf
          have hr2 : ShEu (κ 33 0) (κ 33 1) (h (s2 + 15)) (fun x y => clp (f x y - dkS f y x3.toNat / x3)) (v6 + 1) v4 := by rw [w71, b71]; exact ShEu.nx (by omega) ⟨by omega, by omega, by omega, by omega⟩ gc0 (by omega) (by rw [p68.2.2, q64, gc1])
          refine zW_iinc (ls' := [_, _, _, _, _, _, _]) (pc' := 75) dX2_takeDark_2.2.1.1.2 rfl (by decide) rfl rfl rfl ?_
          refine zV_goto 28 dX2_takeDark_2.2.1.2 rfl ?_
          exact k28 _ _ _ _ hF (by omega) (by omega) (by omega) (by omega) (by omega) (by first | exact hr2 | exact gc0) (by first | exact p20.2.2 (by omega) | exact gc1) hf hgh (by omega)
  refine zM_of [some (.inr (.inr 86)), some (.inr (.inr s1)), some (.inr (.inr s2)), some (.inl x3), none, none, none] 3 rfl rfl (Nat.le_of_ble_eq_true rfl) rfl ?_
  refine zW_iconst (pc' := 1) dX2_takeDark_0.1.1.1.1 rfl ?_
  refine zW_istore (ls' := [_, _, _, _, _, _, _]) (pc' := 3) dX2_takeDark_0.1.1.1.2 (by decide) rfl rfl rfl ?_
  exact (main 10000000000000000000000000000000000000000).1 _ _ hF (by omega) (by omega) (by first | exact gc0.rowx (by omega) | exact ShEu.no) hf hgh (by omega)

abbrev q_X2_fillFoundZ (b : Bd) (κ : Hp) (s1 : Nat) (s2 : Nat) (x3 : Int) (f : Int → Int → Int) (gh0 : Hp) : Int → Hp → Prop := fun r h' => Fr b κ h' ∧ ((Fw [(s2 + 15)] [] gh0 h') ∧ (ShE (κ 33 0) (κ 33 1) (h' (s2 + 15)) (fun x y => if fnd (κ 33 0) (κ 33 1) (κ 35) f x3 x y then mdl (κ 33 0) (κ 33 1) f x y else f x y)))
set_option maxHeartbeats 4000000 in
set_option maxRecDepth 20000 in
theorem s_X2_fillFoundZ {G : Ga} {b : Bd} {κ h : Hp} (hK : KC κ) (hF : Fr b κ h) (s1 : Nat) (hs1 : 56 ≤ s1 ∧ s1 ≤ 70) (s2 : Nat) (hs2 : 56 ≤ s2 ∧ s2 ≤ 70) (x3 : Int) (hx3 : 0 ≤ x3 ∧ x3 ≤ 255) (f : Int → Int → Int) (gh0 : Hp) (hto : OkL b (s2 + 15)) (hne : s1 ≠ s2) (hf : ShE (κ 33 0) (κ 33 1) (h (s1 + 15)) f) (hfb : FB (κ 33 0) (κ 33 1) f) (hgh : Fw [(s2 + 15)] [] gh0 h) : zM G mX2_fillFound yX2_fillFound [.inr (.inr 86), .inr (.inr s1), .inr (.inr s2), .inl x3] h (q_X2_fillFoundZ b κ s1 s2 x3 f gh0) := by
  have f_33_0 := KCw hK
  have f_33_1 := KCh hK
  have main : ∀ N : Nat, (∀ (v4 : Int) (h : Hp), Fr b κ h → (0 ≤ v4 ∧ v4 ≤ 16) → (v4 - κ 33 1 ≤ 0) → (ShEu (κ 33 0) (κ 33 1) (h (s2 + 15)) (fun x y => if fnd (κ 33 0) (κ 33 1) (κ 35) f x3 x y then mdl (κ 33 0) (κ 33 1) f x y else f x y) 0 v4) → (ShE (κ 33 0) (κ 33 1) (h (s1 + 15)) f) → (Fw [(s2 + 15)] [] gh0 h) → 25485840 + 31464 * (16 - v4) + 30780 < (N : Int) → zV G mX2_fillFound (q_X2_fillFoundZ b κ s1 s2 x3 f gh0) 3 [some (.inr (.inr 86)), some (.inr (.inr s1)), some (.inr (.inr s2)), some (.inl x3), some (.inl v4), none, none] [] h) ∧ (∀ (v4 v5 : Int) (h : Hp), Fr b κ h → (0 ≤ v4 ∧ v4 ≤ 15) → (v4 - κ 33 1 ≤ -1) → (0 ≤ v5 ∧ v5 ≤ 16) → (v5 - κ 33 0 ≤ 0) → (ShEu (κ 33 0) (κ 33 1) (h (s2 + 15)) (fun x y => if fnd (κ 33 0) (κ 33 1) (κ 35) f x3 x y then mdl (κ 33 0) (κ 33 1) f x y else f x y) v5 v4) → (ShE (κ 33 0) (κ 33 1) (h (s1 + 15)) f) → (Fw [(s2 + 15)] [] gh0 h) → 25485840 + 31464 * (16 - v4) + 25308 + 38 * (16 - v5) + 37 < (N : Int) → zV G mX2_fillFound (q_X2_fillFoundZ b κ s1 s2 x3 f gh0) 18 [some (.inr (.inr 86)), some (.inr (.inr s1)), some (.inr (.inr s2)), some (.inl x3), some (.inl v4), some (.inl v5), none] [] h) := by
    intro N
    induction N with
    | zero =>
      refine ⟨?_, ?_⟩
      · intro v4 h hF g0 g1 gc0 hf hgh hm
        exfalso; omega
      · intro v4 v5 h hF g0 g1 g2 g3 gc0 hf hgh hm
        exfalso; omega
    | succ N ih =>
      obtain ⟨k3, k18⟩ := ih
      refine ⟨?_, ?_⟩
      · intro v4 h hF g0 g1 gc0 hf hgh hm
        refine zW_iload (pc' := 5) dX2_fillFound_0.1.1.2.1 rfl rfl ?_
        refine zW_aload_n (pc' := 6) dX2_fillFound_0.1.1.2.2 rfl rfl ?_
        refine zG_ref (pc' := 9) 33 fg_X2_9 tb86 rfl dX2_fillFound_0.1.2.1.1 rfl ?_
        refine zG_key (pc' := 12) hF rfl fg_X2_15 tb33 rfl dX2_fillFound_0.1.2.1.2 rfl ?_
        refine zV_cm_ge (tgt := 91) (pc' := 15) dX2_fillFound_0.1.2.2.1 rfl rfl ⟨by omega, by omega⟩ ⟨by omega, by omega⟩ (fun c12 => ?_) (fun c12 => ?_)
        · exact zV_vret rfl dX2_fillFound_2.2.2.2 ⟨hF, ⟨hgh, gc0.all (by omega)⟩⟩
        · refine zW_iconst (pc' := 16) dX2_fillFound_0.1.2.2.2 rfl ?_
          refine zW_istore (ls' := [_, _, _, _, _, _, _]) (pc' := 18) dX2_fillFound_0.2.1.1.1 (by decide) rfl rfl rfl ?_
          exact k18 _ _ _ hF (by omega) (by omega) (by omega) (by omega) (by first | exact hr2 | exact gc0) hf hgh (by omega)
      · intro v4 v5 h hF g0 g1 g2 g3 gc0 hf hgh hm
        refine zW_iload (pc' := 20) dX2_fillFound_0.2.1.1.2 rfl rfl ?_
        refine zW_aload_n (pc' := 21) dX2_fillFound_0.2.1.2.1 rfl rfl ?_
        refine zG_ref (pc' := 24) 33 fg_X2_9 tb86 rfl dX2_fillFound_0.2.1.2.2 rfl ?_
        refine zG_key (pc' := 27) hF rfl fg_X2_21 tb33 rfl dX2_fillFound_0.2.2.1.1 rfl ?_
        refine zV_cm_ge (tgt := 85) (pc' := 30) dX2_fillFound_0.2.2.1.2 rfl rfl ⟨by omega, by omega⟩ ⟨by omega, by omega⟩ (fun c27 => ?_) (fun c27 => ?_)
        · refine zW_iinc (ls' := [_, _, _, _, _, _, _]) (pc' := 88) dX2_fillFound_2.2.2.1.1 rfl (by decide) rfl rfl rfl ?_
          refine zV_goto 3 dX2_fillFound_2.2.2.1.2 rfl ?_
          refine zV_clr 5 (ls' := [_, _, _, _, _, _, _]) rfl ?_
          exact k3 _ _ hF (by omega) (by omega) (by first | exact gc0.rowx (by omega) | exact ShEu.no) hf hgh (by omega)
        · refine zW_iload (pc' := 32) dX2_fillFound_0.2.2.2.1 rfl rfl ?_
          refine zW_bipush (pc' := 34) dX2_fillFound_0.2.2.2.2 rfl rfl ?_
          refine zW_imul (pc' := 35) dX2_fillFound_1.1.1.1.1 rfl ?_
          refine zW_iload (pc' := 37) dX2_fillFound_1.1.1.1.2 rfl rfl ?_
          refine zW_iadd (pc' := 38) dX2_fillFound_1.1.1.2.1 rfl ?_
          refine zW_istore (ls' := [_, _, _, _, _, _, _]) (pc' := 40) dX2_fillFound_1.1.1.2.2 (by decide) rfl rfl rfl ?_
          refine zW_aload_n (pc' := 41) dX2_fillFound_1.1.2.1.1 rfl rfl ?_
          refine zG_lev (pc' := 44) (by omega) (by omega) fg_X2_24 dX2_fillFound_1.1.2.1.2 rfl ?_
          refine zW_iload (pc' := 46) dX2_fillFound_1.1.2.2.1 rfl rfl ?_
          refine zW_aload_n (pc' := 47) dX2_fillFound_1.1.2.2.2 rfl rfl ?_
          refine zW_aload_n (pc' := 48) dX2_fillFound_1.2.1.1.1 rfl rfl ?_
          refine zW_iload (pc' := 50) dX2_fillFound_1.2.1.1.2 rfl rfl ?_
          refine zW_iload (pc' := 52) dX2_fillFound_1.2.1.2.1 rfl rfl ?_
          refine zW_iload_n (pc' := 53) dX2_fillFound_1.2.1.2.2 rfl rfl ?_
          refine cvI4 (pc' := 56) kX2_isFound vX2_isFound lk_X2_59 ⟨Nat.le_of_ble_eq_true rfl, Nat.le_of_ble_eq_true rfl⟩ tb86 vq2 rfl rfl (s_X2_isFoundZ hK hF _ ⟨by omega, by omega⟩ _ ⟨by omega, by omega, by omega⟩ _ ⟨by omega, by omega, by omega⟩ _ ⟨by omega, by omega⟩ f (by omega) (by omega)) dX2_fillFound_1.2.2.1.1 (Nat.le_of_ble_eq_true rfl) rfl ?_
          rintro r53 z53 ⟨hz53, p53⟩; subst z53
          refine zV_if_eq (tgt := 71) (pc' := 59) dX2_fillFound_1.2.2.1.2 rfl rfl ⟨by omega, by omega⟩ (fun c56 => ?_) (fun c56 => ?_)
          · refine zW_aload_n (pc' := 72) dX2_fillFound_2.1.2.1.1 rfl rfl ?_
            refine zG_lev (pc' := 75) (by omega) (by omega) fg_X2_24 dX2_fillFound_2.1.2.1.2 rfl ?_
            refine zW_iload (pc' := 77) dX2_fillFound_2.1.2.2 rfl rfl ?_
            refine zV_iald (pc' := 78) (tabL (by omega) (by omega)) (by omega) dX2_fillFound_2.2.1.1.1 (by decide) rfl ?_
            have hf0 := hf
            have qx := hf.at (i := v4 * 16 + v5) (x := v5) (y := v4) ⟨by omega, by omega, by omega, by omega⟩ (by omega)
            have bx := hfb v5 v4 ⟨by omega, by omega, by omega, by omega⟩
            rw [← qx] at bx
            refine zS_lv (pc' := 79) hF (by omega) (by omega) hto (by omega) dX2_fillFound_2.2.1.1.2 rfl (fun h i78 hF a78 b78 w78 => ?_)
            replace b78 := b78 ⟨by omega, by omega⟩
            replace hgh : Fw [(s2 + 15)] [] gh0 h := by rw [w78]; exact hgh.wc (by simp)
            replace hf : ShE (κ 33 0) (κ 33 1) (h (s1 + 15)) f := by have q0_ := (congrFun w78 (s1 + 15)).trans (zfun (by omega)); rw [q0_]; exact hf
            have hr2 : ShEu (κ 33 0) (κ 33 1) (h (s2 + 15)) (fun x y => if fnd (κ 33 0) (κ 33 1) (κ 35) f x3 x y then mdl (κ 33 0) (κ 33 1) f x y else f x y) (v5 + 1) v4 := by rw [w78, b78]; exact ShEu.nx (by omega) ⟨by omega, by omega, by omega, by omega⟩ gc0 (by omega) (by first | exact (p65.2.2).trans (if_pos (p53.2.2.mp (by omega))).symm | exact (hf0.at (i := v4 * 16 + v5) (x := v5) (y := v4) ⟨by omega, by omega, by omega, by omega⟩ (by omega)).trans (if_neg (fun q => by have z := p53.2.2.mpr q; omega)).symm)
            refine zW_iinc (ls' := [_, _, _, _, _, _, _]) (pc' := 82) dX2_fillFound_2.2.1.2.1 rfl (by decide) rfl rfl rfl ?_
            refine zV_goto 18 dX2_fillFound_2.2.1.2.2 rfl ?_
            refine zV_clr 6 (ls' := [_, _, _, _, _, _, _]) rfl ?_
            exact k18 _ _ _ hF (by omega) (by omega) (by omega) (by omega) (by first | exact hr2 | exact gc0) hf hgh (by omega)
          · refine zW_aload_n (pc' := 60) dX2_fillFound_1.2.2.2.1 rfl rfl ?_
            refine zW_aload_n (pc' := 61) dX2_fillFound_1.2.2.2.2 rfl rfl ?_
            refine zW_iload (pc' := 63) dX2_fillFound_2.1.1.1.1 rfl rfl ?_
            refine zW_iload (pc' := 65) dX2_fillFound_2.1.1.1.2 rfl rfl ?_
            refine cvI3 (pc' := 68) kX2_middleOf vX2_middleOf lk_X2_53 ⟨Nat.le_of_ble_eq_true rfl, Nat.le_of_ble_eq_true rfl⟩ tb86 vq2 rfl rfl (s_X2_middleOfZ hK hF _ ⟨by omega, by omega⟩ _ ⟨by omega, by omega, by omega⟩ _ ⟨by omega, by omega, by omega⟩ f (by omega) (by omega)) dX2_fillFound_2.1.1.2.1 (Nat.le_of_ble_eq_true rfl) rfl ?_
            rintro r65 z65 ⟨hz65, p65⟩; subst z65
            refine zV_goto 78 dX2_fillFound_2.1.1.2.2 rfl ?_
            have hf0 := hf
            have qx := hf.at (i := v4 * 16 + v5) (x := v5) (y := v4) ⟨by omega, by omega, by omega, by omega⟩ (by omega)
            have bx := hfb v5 v4 ⟨by omega, by omega, by omega, by omega⟩
            rw [← qx] at bx
            refine zS_lv (pc' := 79) hF (by omega) (by omega) hto (by omega) dX2_fillFound_2.2.1.1.2 rfl (fun h i78 hF a78 b78 w78 => ?_)
            replace b78 := b78 ⟨by omega, by omega⟩
            replace hgh : Fw [(s2 + 15)] [] gh0 h := by rw [w78]; exact hgh.wc (by simp)
            replace hf : ShE (κ 33 0) (κ 33 1) (h (s1 + 15)) f := by have q0_ := (congrFun w78 (s1 + 15)).trans (zfun (by omega)); rw [q0_]; exact hf
            have hr2 : ShEu (κ 33 0) (κ 33 1) (h (s2 + 15)) (fun x y => if fnd (κ 33 0) (κ 33 1) (κ 35) f x3 x y then mdl (κ 33 0) (κ 33 1) f x y else f x y) (v5 + 1) v4 := by rw [w78, b78]; exact ShEu.nx (by omega) ⟨by omega, by omega, by omega, by omega⟩ gc0 (by omega) (by first | exact (p65.2.2).trans (if_pos (p53.2.2.mp (by omega))).symm | exact (hf0.at (i := v4 * 16 + v5) (x := v5) (y := v4) ⟨by omega, by omega, by omega, by omega⟩ (by omega)).trans (if_neg (fun q => by have z := p53.2.2.mpr q; omega)).symm)
            refine zW_iinc (ls' := [_, _, _, _, _, _, _]) (pc' := 82) dX2_fillFound_2.2.1.2.1 rfl (by decide) rfl rfl rfl ?_
            refine zV_goto 18 dX2_fillFound_2.2.1.2.2 rfl ?_
            refine zV_clr 6 (ls' := [_, _, _, _, _, _, _]) rfl ?_
            exact k18 _ _ _ hF (by omega) (by omega) (by omega) (by omega) (by first | exact hr2 | exact gc0) hf hgh (by omega)
  refine zM_of [some (.inr (.inr 86)), some (.inr (.inr s1)), some (.inr (.inr s2)), some (.inl x3), none, none, none] 3 rfl rfl (Nat.le_of_ble_eq_true rfl) rfl ?_
  refine zW_iconst (pc' := 1) dX2_fillFound_0.1.1.1.1 rfl ?_
  refine zW_istore (ls' := [_, _, _, _, _, _, _]) (pc' := 3) dX2_fillFound_0.1.1.1.2 (by decide) rfl rfl rfl ?_
  exact (main 10000000000000000000000000000000000000000).1 _ _ hF (by omega) (by omega) (by first | exact gc0.rowx (by omega) | exact ShEu.no) hf hgh (by omega)

abbrev q_X2_liftShadeZ (b : Bd) (κ : Hp) (s1 : Nat) (s2 : Nat) (x3 : Int) (f : Int → Int → Int) (gh0 : Hp) : Int → Hp → Prop := fun r h' => Fr b κ h' ∧ ((Fw [(s2 + 15)] [] gh0 h') ∧ (ShE (κ 33 0) (κ 33 1) (h' (s2 + 15)) (fun x y => clp (shd (κ 33 0) (κ 33 1) x3 (f x y) x y))))
set_option maxHeartbeats 4000000 in
set_option maxRecDepth 20000 in
theorem s_X2_liftShadeZ {G : Ga} {b : Bd} {κ h : Hp} (hK : KC κ) (hF : Fr b κ h) (s1 : Nat) (hs1 : 56 ≤ s1 ∧ s1 ≤ 70) (s2 : Nat) (hs2 : 56 ≤ s2 ∧ s2 ≤ 70) (x3 : Int) (hx3 : 0 ≤ x3 ∧ x3 ≤ 255) (f : Int → Int → Int) (gh0 : Hp) (hto : OkL b (s2 + 15)) (hne : s1 ≠ s2) (hf : ShE (κ 33 0) (κ 33 1) (h (s1 + 15)) f) (hfb : FB (κ 33 0) (κ 33 1) f) (hgh : Fw [(s2 + 15)] [] gh0 h) : zM G mX2_liftShade yX2_liftShade [.inr (.inr 86), .inr (.inr s1), .inr (.inr s2), .inl x3] h (q_X2_liftShadeZ b κ s1 s2 x3 f gh0) := by
  have f_33_0 := KCw hK
  have f_33_1 := KCh hK
  have main : ∀ N : Nat, (∀ (v4 : Int) (h : Hp), Fr b κ h → (0 ≤ v4 ∧ v4 ≤ 16) → (v4 - κ 33 1 ≤ 0) → (ShEu (κ 33 0) (κ 33 1) (h (s2 + 15)) (fun x y => clp (shd (κ 33 0) (κ 33 1) x3 (f x y) x y)) 0 v4) → (ShE (κ 33 0) (κ 33 1) (h (s1 + 15)) f) → (Fw [(s2 + 15)] [] gh0 h) → 115516368 + 87912 * (16 - v4) + 86724 < (N : Int) → zV G mX2_liftShade (q_X2_liftShadeZ b κ s1 s2 x3 f gh0) 3 [some (.inr (.inr 86)), some (.inr (.inr s1)), some (.inr (.inr s2)), some (.inl x3), some (.inl v4), none, none, none, none] [] h) ∧ (∀ (v4 v5 : Int) (h : Hp), Fr b κ h → (0 ≤ v4 ∧ v4 ≤ 15) → (v4 - κ 33 1 ≤ -1) → (0 ≤ v5 ∧ v5 ≤ 16) → (v5 - κ 33 0 ≤ 0) → (ShEu (κ 33 0) (κ 33 1) (h (s2 + 15)) (fun x y => clp (shd (κ 33 0) (κ 33 1) x3 (f x y) x y)) v5 v4) → (ShE (κ 33 0) (κ 33 1) (h (s1 + 15)) f) → (Fw [(s2 + 15)] [] gh0 h) → 115516368 + 87912 * (16 - v4) + 77220 + 66 * (16 - v5) + 65 < (N : Int) → zV G mX2_liftShade (q_X2_liftShadeZ b κ s1 s2 x3 f gh0) 18 [some (.inr (.inr 86)), some (.inr (.inr s1)), some (.inr (.inr s2)), some (.inl x3), some (.inl v4), some (.inl v5), none, none, none] [] h) := by
    intro N
    induction N with
    | zero =>
      refine ⟨?_, ?_⟩
      · intro v4 h hF g0 g1 gc0 hf hgh hm
        exfalso; omega
      · intro v4 v5 h hF g0 g1 g2 g3 gc0 hf hgh hm
        exfalso; omega
    | succ N ih =>
      obtain ⟨k3, k18⟩ := ih
      refine ⟨?_, ?_⟩
      · intro v4 h hF g0 g1 gc0 hf hgh hm
        refine zW_iload (pc' := 5) dX2_liftShade_0.1.1.2.1 rfl rfl ?_
        refine zW_aload_n (pc' := 6) dX2_liftShade_0.1.1.2.2 rfl rfl ?_
        refine zG_ref (pc' := 9) 33 fg_X2_9 tb86 rfl dX2_liftShade_0.1.2.1.1 rfl ?_
        refine zG_key (pc' := 12) hF rfl fg_X2_15 tb33 rfl dX2_liftShade_0.1.2.1.2 rfl ?_
        refine zV_cm_ge (tgt := 132) (pc' := 15) dX2_liftShade_0.1.2.2.1 rfl rfl ⟨by omega, by omega⟩ ⟨by omega, by omega⟩ (fun c12 => ?_) (fun c12 => ?_)
        · exact zV_vret rfl dX2_liftShade_4.2.2.2 ⟨hF, ⟨hgh, gc0.all (by omega)⟩⟩
        · refine zW_iconst (pc' := 16) dX2_liftShade_0.1.2.2.2 rfl ?_
          refine zW_istore (ls' := [_, _, _, _, _, _, _, _, _]) (pc' := 18) dX2_liftShade_0.2.1.1.1 (by decide) rfl rfl rfl ?_
          exact k18 _ _ _ hF (by omega) (by omega) (by omega) (by omega) (by first | exact hr2 | exact gc0) hf hgh (by omega)
      · intro v4 v5 h hF g0 g1 g2 g3 gc0 hf hgh hm
        refine zW_iload (pc' := 20) dX2_liftShade_0.2.1.1.2 rfl rfl ?_
        refine zW_aload_n (pc' := 21) dX2_liftShade_0.2.1.2.1 rfl rfl ?_
        refine zG_ref (pc' := 24) 33 fg_X2_9 tb86 rfl dX2_liftShade_0.2.1.2.2 rfl ?_
        refine zG_key (pc' := 27) hF rfl fg_X2_21 tb33 rfl dX2_liftShade_0.2.2.1.1 rfl ?_
        refine zV_cm_ge (tgt := 126) (pc' := 30) dX2_liftShade_0.2.2.1.2 rfl rfl ⟨by omega, by omega⟩ ⟨by omega, by omega⟩ (fun c27 => ?_) (fun c27 => ?_)
        · refine zW_iinc (ls' := [_, _, _, _, _, _, _, _, _]) (pc' := 129) dX2_liftShade_4.2.1.2 rfl (by decide) rfl rfl rfl ?_
          refine zV_goto 3 dX2_liftShade_4.2.2.1 rfl ?_
          refine zV_clr 5 (ls' := [_, _, _, _, _, _, _, _, _]) rfl ?_
          exact k3 _ _ hF (by omega) (by omega) (by first | exact gc0.rowx (by omega) | exact ShEu.no) hf hgh (by omega)
        · refine zW_iconst (pc' := 31) dX2_liftShade_0.2.2.2.1 rfl ?_
          refine zW_iload (pc' := 33) dX2_liftShade_0.2.2.2.2 rfl rfl ?_
          refine zW_imul (pc' := 34) dX2_liftShade_1.1.1.1.1 rfl ?_
          refine zW_iconst (pc' := 35) dX2_liftShade_1.1.1.1.2 rfl ?_
          refine zW_iadd (pc' := 36) dX2_liftShade_1.1.1.2.1 rfl ?_
          refine zW_aload_n (pc' := 37) dX2_liftShade_1.1.1.2.2 rfl rfl ?_
          refine zG_ref (pc' := 40) 33 fg_X2_9 tb86 rfl dX2_liftShade_1.1.2.1.1 rfl ?_
          refine zG_key (pc' := 43) hF rfl fg_X2_21 tb33 rfl dX2_liftShade_1.1.2.1.2 rfl ?_
          refine zW_isub (pc' := 44) dX2_liftShade_1.1.2.2.1 rfl ?_
          refine zW_istore (ls' := [_, _, _, _, _, _, _, _, _]) (pc' := 46) dX2_liftShade_1.1.2.2.2 (by decide) rfl rfl rfl ?_
          refine zW_iconst (pc' := 47) dX2_liftShade_1.2.1.1.1 rfl ?_
          refine zW_iload (pc' := 49) dX2_liftShade_1.2.1.1.2 rfl rfl ?_
          refine zW_imul (pc' := 50) dX2_liftShade_1.2.1.2.1 rfl ?_
          refine zW_iconst (pc' := 51) dX2_liftShade_1.2.1.2.2 rfl ?_
          refine zW_iadd (pc' := 52) dX2_liftShade_1.2.2.1.1 rfl ?_
          refine zW_aload_n (pc' := 53) dX2_liftShade_1.2.2.1.2 rfl rfl ?_
          refine zG_ref (pc' := 56) 33 fg_X2_9 tb86 rfl dX2_liftShade_1.2.2.2.1 rfl ?_
          refine zG_key (pc' := 59) hF rfl fg_X2_15 tb33 rfl dX2_liftShade_1.2.2.2.2 rfl ?_
          refine zW_isub (pc' := 60) dX2_liftShade_2.1.1.1.1 rfl ?_
          refine zW_istore (ls' := [_, _, _, _, _, _, _, _, _]) (pc' := 62) dX2_liftShade_2.1.1.1.2 (by decide) rfl rfl rfl ?_
          refine zW_sipush (pc' := 65) dX2_liftShade_2.1.1.2.1 rfl rfl ?_
          refine zW_iload_n (pc' := 66) dX2_liftShade_2.1.1.2.2 rfl rfl ?_
          refine zW_iload (pc' := 68) dX2_liftShade_2.1.2.1.1 rfl rfl ?_
          refine zW_iload (pc' := 70) dX2_liftShade_2.1.2.1.2 rfl rfl ?_
          refine zW_imul (pc' := 71) dX2_liftShade_2.1.2.2.1 rfl ?_
          have q70 := sqb (a := 2 * v5 + 1 - κ 33 0) (A := 15) ⟨by omega, by omega⟩
          refine zW_iload (pc' := 73) dX2_liftShade_2.1.2.2.2 rfl rfl ?_
          refine zW_iload (pc' := 75) dX2_liftShade_2.2.1.1.1 rfl rfl ?_
          refine zW_imul (pc' := 76) dX2_liftShade_2.2.1.1.2 rfl ?_
          have q75 := sqb (a := 2 * v4 + 1 - κ 33 1) (A := 15) ⟨by omega, by omega⟩
          refine zW_iadd (pc' := 77) dX2_liftShade_2.2.1.2.1 rfl ?_
          refine zW_imul (pc' := 78) dX2_liftShade_2.2.1.2.2 rfl ?_
          have q77 := mulq (a := x3) (b := (2 * v5 + 1 - κ 33 0) * (2 * v5 + 1 - κ 33 0) + (2 * v4 + 1 - κ 33 1) * (2 * v4 + 1 - κ 33 1)) (A := 255) (B := 450) ⟨by omega, by omega⟩ ⟨by omega, by omega⟩
          refine zW_bipush (pc' := 80) dX2_liftShade_2.2.2.1.1 rfl rfl ?_
          refine zW_idiv (pc' := 81) (by omega) (by omega) dX2_liftShade_2.2.2.1.2 rfl ?_
          refine zW_iadd (pc' := 82) dX2_liftShade_2.2.2.2.1 rfl ?_
          refine zW_istore (ls' := [_, _, _, _, _, _, _, _, _]) (pc' := 84) dX2_liftShade_2.2.2.2.2 (by decide) rfl rfl rfl ?_
          refine zW_aload_n (pc' := 85) dX2_liftShade_3.1.1.1.1 rfl rfl ?_
          refine zG_lev (pc' := 88) (by omega) (by omega) fg_X2_24 dX2_liftShade_3.1.1.1.2 rfl ?_
          refine zW_iload (pc' := 90) dX2_liftShade_3.1.1.2.1 rfl rfl ?_
          refine zW_bipush (pc' := 92) dX2_liftShade_3.1.1.2.2 rfl rfl ?_
          refine zW_imul (pc' := 93) dX2_liftShade_3.1.2.1.1 rfl ?_
          refine zW_iload (pc' := 95) dX2_liftShade_3.1.2.1.2 rfl rfl ?_
          refine zW_iadd (pc' := 96) dX2_liftShade_3.1.2.2.1 rfl ?_
          refine zW_aload_n (pc' := 97) dX2_liftShade_3.1.2.2.2 rfl rfl ?_
          refine zG_lev (pc' := 100) (by omega) (by omega) fg_X2_24 dX2_liftShade_3.2.1.1.1 rfl ?_
          refine zW_iload (pc' := 102) dX2_liftShade_3.2.1.1.2 rfl rfl ?_
          refine zW_bipush (pc' := 104) dX2_liftShade_3.2.1.2.1 rfl rfl ?_
          refine zW_imul (pc' := 105) dX2_liftShade_3.2.1.2.2 rfl ?_
          refine zW_iload (pc' := 107) dX2_liftShade_3.2.2.1.1 rfl rfl ?_
          refine zW_iadd (pc' := 108) dX2_liftShade_3.2.2.1.2 rfl ?_
          refine zV_iald (pc' := 109) (tabL (by omega) (by omega)) (by omega) dX2_liftShade_3.2.2.2.1 (by decide) rfl ?_
          have q108 := hf.at (i := v4 * 16 + v5) (x := v5) (y := v4) ⟨by omega, by omega, by omega, by omega⟩ (by omega)
          have b108 := hfb (v5) (v4) ⟨by omega, by omega, by omega, by omega⟩
          rw [← q108] at b108
          refine zW_iload (pc' := 111) dX2_liftShade_3.2.2.2.2 rfl rfl ?_
          refine zW_imul (pc' := 112) dX2_liftShade_4.1.1.1.1 rfl ?_
          have q111 := mulq (a := h (s1 + 15) (v4 * 16 + v5).toNat) (b := 256 + x3 * ((2 * v5 + 1 - κ 33 0) * (2 * v5 + 1 - κ 33 0) + (2 * v4 + 1 - κ 33 1) * (2 * v4 + 1 - κ 33 1)) / 16) (A := 4095) (B := 7427) ⟨by omega, by omega⟩ ⟨by omega, by omega⟩
          refine zW_sipush (pc' := 115) dX2_liftShade_4.1.1.1.2 rfl rfl ?_
          refine zW_idiv (pc' := 116) (by omega) (by omega) dX2_liftShade_4.1.1.2 rfl ?_
          refine csI1 (pc' := 119) kX11_clipped vX11_clipped lk_X2_30 ⟨Nat.le_of_ble_eq_true rfl, Nat.le_of_ble_eq_true rfl⟩ rfl (s_X11_clippedZ hF _ ⟨by omega, by omega⟩) dX2_liftShade_4.1.2.1 (Nat.le_of_ble_eq_true rfl) rfl ?_
          rintro r116 z116 ⟨hz116, p116⟩; subst z116
          refine zS_lv (pc' := 120) hF (by omega) (by omega) hto (by omega) dX2_liftShade_4.1.2.2 rfl (fun h i119 hF a119 b119 w119 => ?_)
          replace b119 := b119 ⟨by omega, by omega⟩
          replace hgh : Fw [(s2 + 15)] [] gh0 h := by rw [w119]; exact hgh.wc (by simp)
          replace hf : ShE (κ 33 0) (κ 33 1) (h (s1 + 15)) f := by have q0_ := (congrFun w119 (s1 + 15)).trans (zfun (by omega)); rw [q0_]; exact hf
          have hr2 : ShEu (κ 33 0) (κ 33 1) (h (s2 + 15)) (fun x y => clp (shd (κ 33 0) (κ 33 1) x3 (f x y) x y)) (v5 + 1) v4 := by rw [w119, b119]; exact ShEu.nx (by omega) ⟨by omega, by omega, by omega, by omega⟩ gc0 (by omega) (by rw [p116.2.2, q108]; rfl)
          refine zW_iinc (ls' := [_, _, _, _, _, _, _, _, _]) (pc' := 123) dX2_liftShade_4.2.1.1.1 rfl (by decide) rfl rfl rfl ?_
          refine zV_goto 18 dX2_liftShade_4.2.1.1.2 rfl ?_
          refine zV_clr 6 (ls' := [_, _, _, _, _, _, _, _, _]) rfl ?_
          refine zV_clr 7 (ls' := [_, _, _, _, _, _, _, _, _]) rfl ?_
          refine zV_clr 8 (ls' := [_, _, _, _, _, _, _, _, _]) rfl ?_
          exact k18 _ _ _ hF (by omega) (by omega) (by omega) (by omega) (by first | exact hr2 | exact gc0) hf hgh (by omega)
  refine zM_of [some (.inr (.inr 86)), some (.inr (.inr s1)), some (.inr (.inr s2)), some (.inl x3), none, none, none, none, none] 5 rfl rfl (Nat.le_of_ble_eq_true rfl) rfl ?_
  refine zW_iconst (pc' := 1) dX2_liftShade_0.1.1.1.1 rfl ?_
  refine zW_istore (ls' := [_, _, _, _, _, _, _, _, _]) (pc' := 3) dX2_liftShade_0.1.1.1.2 (by decide) rfl rfl rfl ?_
  exact (main 10000000000000000000000000000000000000000).1 _ _ hF (by omega) (by omega) (by first | exact gc0.rowx (by omega) | exact ShEu.no) hf hgh (by omega)
