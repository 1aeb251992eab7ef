/-! white, base, tone -/
def whQ (W H P n : Int) (lt bh : Int → Int) (pc : Int → P3) (nm : Int → Nat → Int) (k w : Int) : Int := if 1 ≤ k ∧ k ≤ n ∧ 0 ≤ w ∧ w ≤ 2 then (if lt k = 119 then (if w = 0 then gnR W H (pc (k - 1)) (nm k 0) 0 else if w = 1 then gnR W H (pc (k - 1)) (nm k 0) 2 else whK W H (pc (k - 1)) (nm k 0) (fun _ _ => 1)) else -3) else -1
def bsQ (W H P n : Int) (lt bh : Int → Int) (pc : Int → P3) (nm : Int → Nat → Int) (k x y : Int) : Int := if 1 ≤ k ∧ k ≤ n ∧ 0 ≤ x ∧ x < W ∧ 0 ≤ y ∧ y < H then (if lt k = 112 then bsF W H (pc (k - 1)) (2 ^ (nm k 0).toNat) x y else -3) else -1
def tnQ (W H P n : Int) (lt bh : Int → Int) (pc : Int → P3) (nm : Int → Nat → Int) (k f x y : Int) : Int := if 1 ≤ k ∧ k ≤ n ∧ 0 ≤ f ∧ f ≤ 4 ∧ 0 ≤ x ∧ x < W ∧ 0 ≤ y ∧ y < H then (if lt k = 121 then (if f = 4 then tnF W H (pc (k - 1)) (nm k 0) (nm k 1) (nm k 2) x y else flo W H (pc (k - 1)) f.toNat (x / 2 ^ f.toNat) (y / 2 ^ f.toNat)) else -3) else -1
theorem s_X12_toneAtQ {G : Ga} {b : Bd} {κ h : Hp} (hK : KR κ) (hF : Fr b.fo κ h) (x1 : Int) (hx1 : 0 ≤ x1 ∧ x1 ≤ 15 ∧ x1 - κ 0 11 ≤ -1) (x2 : Int) (hx2 : 0 ≤ x2 ∧ x2 ≤ 15 ∧ x2 - κ 0 12 ≤ -1) (x3 : Int) (hx3 : 0 ≤ x3 ∧ x3 ≤ 120) (F : P3) (hG : GivH κ h) (hfl : ∀ k : Nat, (k : Int) ≤ 3 → PlS (hfN k (κ 0 11)) (hfN k (κ 0 12)) (h 22) k (flo (κ 0 11) (κ 0 12) F k)) (hb3 : FB3 (κ 0 11) (κ 0 12) F) : zM G mX12_toneAt yX12_toneAt [.inr (.inr 0), .inl x1, .inl x2, .inl x3] h (fun r h' => h' = h ∧ (r = tnF (κ 0 11) (κ 0 12) F (h 23 x3.toNat) (h 23 (x3 + 1).toNat) (h 23 (x3 + 2).toNat) x1 x2)) := by
  have e11 := hF.1 0 11 rfl
  have e12 := hF.1 0 12 rfl
  refine (s_X12_toneAtZ (b := bdB true) (κ := h) (KR_tr hK hF) (Fr.rf (b := (bdB true).to) hF.2.2) x1 (by omega) x2 (by omega) x3 hx3 F (hG.ok hF) (by rw [e11, e12]; exact hfl) (by rw [e11, e12]; exact hb3)).mono (fun r h' q => ⟨q.1, ?_⟩)
  have z := q.2.2.2
  rw [e11, e12] at z
  exact z

abbrev q_X12_numberOfZ (κ h : Hp) (x1 : Int) (x2 : Int) : Int → Hp → Prop := fun r h' => h' = h ∧ ((0 ≤ r) ∧ (r ≤ 255) ∧ (r = XN (κ 4) (κ 5) (x1 - 1).toNat 0))
set_option maxHeartbeats 4000000 in
set_option maxRecDepth 20000 in
theorem s_X12_numberOfZ {G : Ga} {b : Bd} {κ h : Hp} (hK : KR κ) (hF : Fr b κ h) (x1 : Int) (hx1 : 1 ≤ x1 ∧ x1 ≤ 12 ∧ x1 - κ 0 14 ≤ 0) (x2 : Int) (hx2 : 0 ≤ x2 ∧ x2 ≤ 0) : zM G mX12_numberOf yX12_numberOf [.inr (.inr 0), .inl x1, .inl x2] h (q_X12_numberOfZ κ h x1 x2) := by
  have f_0_14 := KRm hK
  obtain ⟨d1, -, d3, -⟩ := KRr hK x1.toNat (by omega) (by omega)
  rw [show x1.toNat - 1 = (x1 - 1).toNat by omega, show x1.toNat = (x1 - 1).toNat + 1 by omega] at d1
  have hxn := XN_0 (N := κ 5) d1
  refine zM_of [some (.inr (.inr 0)), some (.inl x1), some (.inl x2)] 0 rfl rfl (Nat.le_of_ble_eq_true rfl) rfl ?_
  refine zW_aload_n (pc' := 1) dX12_numberOf_0.1.1.1.1 rfl rfl ?_
  refine zG_ref (pc' := 4) 5 fg_X12_22 tb0 rfl dX12_numberOf_0.1.1.1.2 rfl ?_
  refine zW_aload_n (pc' := 5) dX12_numberOf_0.1.1.2 rfl rfl ?_
  refine zG_ref (pc' := 8) 4 fg_X12_19 tb0 rfl dX12_numberOf_0.1.2.1.1 rfl ?_
  refine zW_iload_n (pc' := 9) dX12_numberOf_0.1.2.1.2 rfl rfl ?_
  refine zW_iconst (pc' := 10) dX12_numberOf_0.1.2.2 rfl ?_
  refine zW_isub (pc' := 11) dX12_numberOf_0.2.1.1.1 rfl ?_
  refine zA_keyB (KRna hK) (pc' := 12) hF rfl tb4 (by omega) dX12_numberOf_0.2.1.1.2 (by decide) rfl (fun e11 => ?_)
  refine zW_iload_n (pc' := 13) dX12_numberOf_0.2.1.2 rfl rfl ?_
  refine zW_iadd (pc' := 14) dX12_numberOf_0.2.2.1.1 rfl ?_
  refine zA_keyB (KRnu hK) (pc' := 15) hF rfl tb5 (by omega) dX12_numberOf_0.2.2.1.2 (by decide) rfl (fun e14 => ?_)
  exact zV_iret rfl dX12_numberOf_0.2.2.2 ⟨rfl, (by rw [show κ 4 (x1 - 1).toNat + x2 = κ 4 (x1 - 1).toNat by omega]; have b := KRnu hK (κ 4 (x1 - 1).toNat).toNat; exact ⟨b.1, b.2, hxn.symm⟩)⟩

abbrev q_X12_whiteZ (b : Bd) (κ : Hp) (x1 : Int) (x2 : Int) : Int → Hp → Prop := fun r h' => Fr b κ h' ∧ ((r = whQ (κ 0 11) (κ 0 12) (κ 0 13) (κ 0 14) (ltV (κ 3) (κ 0 14)) (bhV (κ 3) (κ 0 14)) (pcV (κ 0 14) (PF κ)) (nmV (κ 0 14) (XN (κ 4) (κ 5))) x1 x2))
set_option maxHeartbeats 4000000 in
set_option maxRecDepth 20000 in
theorem s_X12_whiteZ {G : Ga} {b : Bd} {κ h : Hp} (hK : KR κ) (hF : Fr b.fo κ h) (x1 : Int) (hx1 : rng x1) (x2 : Int) (hx2 : rng x2) (hLw : LeavesW b) (hV : VOK (κ 1)) (hE : EaOK (κ 3) (κ 0 14)) : zM G mX12_white yX12_white [.inr (.inr 0), .inl x1, .inl x2] h (q_X12_whiteZ b.fo κ x1 x2) := by
  have f_0_11 := KRw hK
  have f_0_12 := KRh hK
  have f_0_13 := KRp hK
  have f_0_14 := KRm hK
  unfold rng at hx1
  unfold rng at hx2
  refine zM_of [some (.inr (.inr 0)), some (.inl x1), some (.inl x2)] 0 rfl rfl (Nat.le_of_ble_eq_true rfl) rfl ?_
  refine zW_aload_n (pc' := 1) dX12_white_0.1.1.1.1 rfl rfl ?_
  refine zW_iload_n (pc' := 2) dX12_white_0.1.1.1.2 rfl rfl ?_
  refine cvI1 (pc' := 5) kX12_isStage vX12_isStage lk_X12_199 ⟨Nat.le_of_ble_eq_true rfl, Nat.le_of_ble_eq_true rfl⟩ tb0 vq12 rfl rfl (s_X12_isStageZ hK hF _ ⟨by omega, by omega⟩) dX12_white_0.1.1.2.1 (Nat.le_of_ble_eq_true rfl) rfl ?_
  rintro r2 z2 ⟨hz2, p2⟩; subst z2
  refine zV_if_eq (tgt := 17) (pc' := 8) dX12_white_0.1.1.2.2 rfl rfl ⟨by omega, by omega⟩ (fun c5 => ?_) (fun c5 => ?_)
  · refine zW_iconst (pc' := 18) dX12_white_0.2.1.1.2 rfl ?_
    exact zV_iret rfl dX12_white_0.2.1.2.1 ⟨hF, (by unfold whQ; rw [if_neg (by omega)])⟩
  · refine zW_iload_n (pc' := 9) dX12_white_0.1.2.1.1 rfl rfl ?_
    refine zW_iconst (pc' := 10) dX12_white_0.1.2.1.2 rfl ?_
    refine zW_iconst (pc' := 11) dX12_white_0.1.2.2.1 rfl ?_
    refine csI3 (pc' := 14) kX12_in vX12_in lk_X12_140 ⟨Nat.le_of_ble_eq_true rfl, Nat.le_of_ble_eq_true rfl⟩ rfl (s_X12_inR hF _ ⟨by omega, by omega⟩ _ ⟨by omega, by omega⟩ _ ⟨by omega, by omega⟩) dX12_white_0.1.2.2.2 (Nat.le_of_ble_eq_true rfl) rfl ?_
    rintro r11 z11 ⟨hz11, p11⟩; subst z11
    refine zV_if_ne (tgt := 19) (pc' := 17) dX12_white_0.2.1.1.1 rfl rfl ⟨by omega, by omega⟩ (fun c14 => ?_) (fun c14 => ?_)
    · refine zW_aload_n (pc' := 20) dX12_white_0.2.1.2.2 rfl rfl ?_
      refine zW_iload_n (pc' := 21) dX12_white_0.2.2.1.1 rfl rfl ?_
      refine zW_bipush (pc' := 23) dX12_white_0.2.2.1.2 rfl rfl ?_
      refine cvI2 (pc' := 26) kX12_isKind vX12_isKind lk_X12_383 ⟨Nat.le_of_ble_eq_true rfl, Nat.le_of_ble_eq_true rfl⟩ tb0 vq12 rfl rfl (s_X12_isKind hK hF _ ⟨by omega, by omega⟩ _ ⟨by omega, by omega⟩) dX12_white_0.2.2.2.1 (Nat.le_of_ble_eq_true rfl) rfl ?_
      rintro r23 z23 ⟨hz23, p23⟩; subst z23
      refine zV_if_ne (tgt := 32) (pc' := 29) dX12_white_0.2.2.2.2 rfl rfl ⟨by omega, by omega⟩ (fun c26 => ?_) (fun c26 => ?_)
      · refine zW_aload_n (pc' := 33) dX12_white_1.1.1.2.1 rfl rfl ?_
        refine cvV0 (pc' := 36) kX12_leaves vX12_leaves lk_X12_377 ⟨Nat.le_of_ble_eq_true rfl, Nat.le_of_ble_eq_true rfl⟩ tb0 vq12 rfl rfl (hLw hK hF) dX12_white_1.1.1.2.2 (Nat.le_of_ble_eq_true rfl) rfl ?_
        rintro r33 h ⟨hF, p33⟩
        have hl : κ 3 (x1 - 1).toNat = 119 := by omega
        have hnn : ¬ noF (κ 3) (x1 - 1).toNat := fun q => by have z := (hE (x1 - 1).toNat (by omega)).mp q; omega
        have hF3 := (p33.2 (x1 - 1).toNat (by omega)).2 hnn
        rw [show (((x1 - 1).toNat : Nat) : Int) = x1 - 1 by omega] at hF3
        have hb3 := PF_b hK hV (x1 - 1).toNat
        refine zW_aload_n (pc' := 37) dX12_white_1.1.2.1.1 rfl rfl ?_
        refine zW_iload_n (pc' := 38) dX12_white_1.1.2.1.2 rfl rfl ?_
        refine zW_iconst (pc' := 39) dX12_white_1.1.2.2.1 rfl ?_
        refine zW_isub (pc' := 40) dX12_white_1.1.2.2.2 rfl ?_
        refine zW_aload_n (pc' := 41) dX12_white_1.2.1.1.1 rfl rfl ?_
        refine zW_iload_n (pc' := 42) dX12_white_1.2.1.1.2 rfl rfl ?_
        refine zW_iconst (pc' := 43) dX12_white_1.2.1.2.1 rfl ?_
        refine cvI2 (pc' := 46) kX12_numberOf vX12_numberOf lk_X12_206 ⟨Nat.le_of_ble_eq_true rfl, Nat.le_of_ble_eq_true rfl⟩ tb0 vq12 rfl rfl (s_X12_numberOfZ hK hF _ ⟨by omega, by omega, by omega⟩ _ ⟨by omega, by omega⟩) dX12_white_1.2.1.2.2 (Nat.le_of_ble_eq_true rfl) rfl ?_
        rintro r43 z43 ⟨hz43, p43⟩; subst z43
        refine cvV2 (pc' := 49) kX12_findsWhite vX12_findsWhite lk_X12_344 ⟨Nat.le_of_ble_eq_true rfl, Nat.le_of_ble_eq_true rfl⟩ tb0 vq12 rfl rfl (s_X12_findsWhiteZ hK hF _ ⟨by omega, by omega⟩ _ ⟨by omega, by omega⟩ (PF κ (x1 - 1).toNat) h hF3 hb3 Fw.rf) dX12_white_1.2.2.1.1 (Nat.le_of_ble_eq_true rfl) rfl ?_
        rintro r46 h ⟨hF, d46, p46⟩
        have k0 := p46.1; have k1 := p46.2.1; have k2 := p46.2.2
        rw [p43.2.2] at k0 k1 k2
        refine zW_iload_n (pc' := 50) dX12_white_1.2.2.1.2 rfl rfl ?_
        refine zV_if_ne (tgt := 60) (pc' := 53) dX12_white_1.2.2.2.1 rfl rfl ⟨by omega, by omega⟩ (fun c50 => ?_) (fun c50 => ?_)
        · refine zW_iload_n (pc' := 61) dX12_white_2.1.1.2 rfl rfl ?_
          refine zW_iconst (pc' := 62) dX12_white_2.1.2.1.1 rfl ?_
          refine zV_cm_ne (tgt := 72) (pc' := 65) dX12_white_2.1.2.1.2 rfl rfl ⟨by omega, by omega⟩ ⟨by omega, by omega⟩ (fun c62 => ?_) (fun c62 => ?_)
          · refine zW_aload_n (pc' := 73) dX12_white_2.2.1.2 rfl rfl ?_
            refine zG_int (pc' := 76) fg_X12_292 tb0 rfl dX12_white_2.2.2.1 rfl ?_
            exact zV_iret rfl dX12_white_2.2.2.2 ⟨hF, (by unfold whQ; rw [if_pos ⟨by omega, by omega, by omega, by omega⟩, ltV_in ⟨by omega, by omega⟩, if_pos hl, pcV_in ⟨by omega, by omega⟩, nmV_in ⟨by omega, by omega⟩]; first | (rw [if_pos (by omega)]; exact k1) | (rw [if_neg (by omega), if_pos (by omega)]; exact k2) | (rw [if_neg (by omega), if_neg (by omega)]; exact k0))⟩
          · refine zW_aload_n (pc' := 66) dX12_white_2.1.2.2 rfl rfl ?_
            refine zG_int (pc' := 69) fg_X12_304 tb0 rfl dX12_white_2.2.1.1.1 rfl ?_
            refine zV_goto 76 dX12_white_2.2.1.1.2 rfl ?_
            exact zV_iret rfl dX12_white_2.2.2.2 ⟨hF, (by unfold whQ; rw [if_pos ⟨by omega, by omega, by omega, by omega⟩, ltV_in ⟨by omega, by omega⟩, if_pos hl, pcV_in ⟨by omega, by omega⟩, nmV_in ⟨by omega, by omega⟩]; first | (rw [if_pos (by omega)]; exact k1) | (rw [if_neg (by omega), if_pos (by omega)]; exact k2) | (rw [if_neg (by omega), if_neg (by omega)]; exact k0))⟩
        · refine zW_aload_n (pc' := 54) dX12_white_1.2.2.2.2 rfl rfl ?_
          refine zG_int (pc' := 57) fg_X12_301 tb0 rfl dX12_white_2.1.1.1.1 rfl ?_
          refine zV_goto 76 dX12_white_2.1.1.1.2 rfl ?_
          exact zV_iret rfl dX12_white_2.2.2.2 ⟨hF, (by unfold whQ; rw [if_pos ⟨by omega, by omega, by omega, by omega⟩, ltV_in ⟨by omega, by omega⟩, if_pos hl, pcV_in ⟨by omega, by omega⟩, nmV_in ⟨by omega, by omega⟩]; first | (rw [if_pos (by omega)]; exact k1) | (rw [if_neg (by omega), if_pos (by omega)]; exact k2) | (rw [if_neg (by omega), if_neg (by omega)]; exact k0))⟩
      · refine zW_bipush (pc' := 31) dX12_white_1.1.1.1.1 rfl rfl ?_
        exact zV_iret rfl dX12_white_1.1.1.1.2 ⟨hF, (by unfold whQ; rw [if_pos ⟨by omega, by omega, by omega, by omega⟩, ltV_in ⟨by omega, by omega⟩, if_neg (by omega)])⟩
    · refine zW_iconst (pc' := 18) dX12_white_0.2.1.1.2 rfl ?_
      exact zV_iret rfl dX12_white_0.2.1.2.1 ⟨hF, (by unfold whQ; rw [if_neg (by omega)])⟩

abbrev q_X11_whiteZ (b : Bd) (κ : Hp) (x1 : Int) (x2 : Int) : Int → Hp → Prop := fun r h' => Fr b κ h' ∧ ((r = whQ (κ 33 0) (κ 33 1) (κ 33 2) (κ 41 0) (ltV (LC κ) (κ 41 0)) (bhV (LC κ) (κ 41 0)) (pcV (κ 41 0) (PFc κ)) (nmV (κ 41 0) (XNc κ)) x1 x2))
set_option maxHeartbeats 4000000 in
set_option maxRecDepth 20000 in
theorem s_X11_whiteZ {G : Ga} {b : Bd} {κ h : Hp} (hK : KC κ) (hF : Fr b κ h) (x1 : Int) (hx1 : rng x1) (x2 : Int) (hx2 : rng x2) (hSw : SheetW b) (hV : VOK (κ 34)) (hE : EaOK (LC κ) (κ 41 0)) (hRc : RecW κ) : zM G mX11_white yX11_white [.inr (.inr 30), .inl x1, .inl x2] h (q_X11_whiteZ b κ x1 x2) := by
  have f_33_0 := KCw hK
  have f_33_1 := KCh hK
  have f_33_2 := KCp hK
  have f_41_0 := KCm hK
  unfold rng at hx1
  unfold rng at hx2
  refine zM_of [some (.inr (.inr 30)), some (.inl x1), some (.inl x2)] 0 rfl rfl (Nat.le_of_ble_eq_true rfl) rfl ?_
  refine zW_aload_n (pc' := 1) dX11_white_0.1.1.1.1 rfl rfl ?_
  refine zG_ref (pc' := 4) 41 fg_X11_33 tb30 rfl dX11_white_0.1.1.1.2 rfl ?_
  refine zW_iload_n (pc' := 5) dX11_white_0.1.1.2.1 rfl rfl ?_
  refine cvI1 (pc' := 8) kX7_has vX7_has lk_X11_178 ⟨Nat.le_of_ble_eq_true rfl, Nat.le_of_ble_eq_true rfl⟩ tb41 vq7 rfl rfl (s_X7_has hK hF _ ⟨by omega, by omega⟩) dX11_white_0.1.1.2.2 (Nat.le_of_ble_eq_true rfl) rfl ?_
  rintro r5 z5 ⟨hz5, p5⟩; subst z5
  refine zV_if_eq (tgt := 19) (pc' := 11) dX11_white_0.1.2.1.1 rfl rfl ⟨by omega, by omega⟩ (fun c8 => ?_) (fun c8 => ?_)
  · refine zW_iconst (pc' := 20) dX11_white_0.2.1.1.2 rfl ?_
    exact zV_iret rfl dX11_white_0.2.1.2.1 ⟨hF, (by unfold whQ; rw [if_neg (by omega)])⟩
  · refine zW_iload_n (pc' := 12) dX11_white_0.1.2.1.2 rfl rfl ?_
    refine zW_iconst (pc' := 13) dX11_white_0.1.2.2.1 rfl ?_
    refine csI2 (pc' := 16) kX11_isWithin vX11_isWithin lk_X11_116 ⟨Nat.le_of_ble_eq_true rfl, Nat.le_of_ble_eq_true rfl⟩ rfl (s_X11_isWithinR hF _ ⟨by omega, by omega⟩ _ ⟨by omega, by omega⟩) dX11_white_0.1.2.2.2 (Nat.le_of_ble_eq_true rfl) rfl ?_
    rintro r13 z13 ⟨hz13, p13⟩; subst z13
    refine zV_if_ne (tgt := 21) (pc' := 19) dX11_white_0.2.1.1.1 rfl rfl ⟨by omega, by omega⟩ (fun c16 => ?_) (fun c16 => ?_)
    · refine zW_aload_n (pc' := 22) dX11_white_0.2.1.2.2 rfl rfl ?_
      refine zG_ref (pc' := 25) 41 fg_X11_33 tb30 rfl dX11_white_0.2.2.1.1 rfl ?_
      refine zW_iload_n (pc' := 26) dX11_white_0.2.2.1.2 rfl rfl ?_
      refine cvI1 (pc' := 29) kX7_letterOf vX7_letterOf lk_X11_180 ⟨Nat.le_of_ble_eq_true rfl, Nat.le_of_ble_eq_true rfl⟩ tb41 vq7 rfl rfl (s_X7_letterOfZ hK hF _ ⟨by omega, by omega, by omega⟩) dX11_white_0.2.2.2.1 (Nat.le_of_ble_eq_true rfl) rfl ?_
      rintro r26 z26 ⟨hz26, p26⟩; subst z26
      refine zW_bipush (pc' := 31) dX11_white_0.2.2.2.2 rfl rfl ?_
      refine zV_cm_eq (tgt := 37) (pc' := 34) dX11_white_1.1.1.1.1 rfl rfl ⟨by omega, by omega⟩ ⟨by omega, by omega⟩ (fun c31 => ?_) (fun c31 => ?_)
      · refine zW_aload_n (pc' := 38) dX11_white_1.1.1.2.2 rfl rfl ?_
        refine zG_ref (pc' := 41) 54 fg_X11_51 tb30 rfl dX11_white_1.1.2.1.1 rfl ?_
        refine zG_ref (pc' := 44) 87 fg_X11_254 tb54 rfl dX11_white_1.1.2.1.2 rfl ?_
        refine zW_aload_n (pc' := 45) dX11_white_1.1.2.2.1 rfl rfl ?_
        refine zG_ref (pc' := 48) 54 fg_X11_51 tb30 rfl dX11_white_1.1.2.2.2 rfl ?_
        refine zW_iload_n (pc' := 49) dX11_white_1.2.1.1.1 rfl rfl ?_
        refine zW_iconst (pc' := 50) dX11_white_1.2.1.1.2 rfl ?_
        refine zW_isub (pc' := 51) dX11_white_1.2.1.2.1 rfl ?_
        refine cvA1 (pc' := 54) kX1_sheetOf vX1_sheetOf lk_X11_192 ⟨Nat.le_of_ble_eq_true rfl, Nat.le_of_ble_eq_true rfl⟩ tb54 vq1 rfl rfl (hSw hK hF _ ⟨by omega, by omega⟩) dX11_white_1.2.1.2.2 (Nat.le_of_ble_eq_true rfl) rfl ?_
        rintro r51 h ⟨hF, p51⟩
        obtain ⟨q51, z51⟩ : ∃ z : Nat, z = r51.toNat := ⟨_, rfl⟩
        rw [← z51]
        have hl : LC κ (x1 - 1).toNat = 119 := by have e : LC κ (x1 - 1).toNat = κ 42 x1.toNat := (by show κ 42 ((x1 - 1).toNat + 1) = _; rw [show (x1 - 1).toNat + 1 = x1.toNat by omega]); omega
        have hnn : ¬ noF (LC κ) (x1 - 1).toNat := fun q => by have z := (hE (x1 - 1).toNat (by omega)).mp q; omega
        have hF3 := (((p51.2.2 (by omega) (by omega)).2 (x1 - 1).toNat (by omega)).2 hnn).1
        have hqs := (p51.2.2 (by omega) (by omega)).1
        rw [show 56 + (x1 - 1).toNat + 15 = q51 + 15 by omega] at hF3
        have hb3 := PFc_b hK hV (x1 - 1).toNat
        have hxb : ∀ j : Nat, 0 ≤ XNc κ (x1 - 1).toNat j ∧ XNc κ (x1 - 1).toNat j ≤ 255 := (hRc (x1 - 1).toNat (by omega)).2.2.1
        refine zW_aload_n (pc' := 55) dX11_white_1.2.2.1.1 rfl rfl ?_
        refine zG_ref (pc' := 58) 41 fg_X11_33 tb30 rfl dX11_white_1.2.2.1.2 rfl ?_
        refine zW_iload_n (pc' := 59) dX11_white_1.2.2.2.1 rfl rfl ?_
        refine zW_iconst (pc' := 60) dX11_white_1.2.2.2.2 rfl ?_
        refine cvI2 (pc' := 63) kX7_numberOf vX7_numberOf lk_X11_186 ⟨Nat.le_of_ble_eq_true rfl, Nat.le_of_ble_eq_true rfl⟩ tb41 vq7 rfl rfl (s_X7_numberOfW hK hF _ ⟨by omega, by omega, by omega⟩ _ ⟨by omega, by omega⟩ hxb) dX11_white_2.1.1.1.1 (Nat.le_of_ble_eq_true rfl) rfl ?_
        rintro r60 z60 ⟨hz60, p60⟩; subst z60
        refine cvV2 (pc' := 66) kX3_findWhite vX3_findWhite lk_X11_258 ⟨Nat.le_of_ble_eq_true rfl, Nat.le_of_ble_eq_true rfl⟩ tb87 vq3 rfl rfl (s_X3_findWhiteZ hK hF _ ⟨by omega, by omega⟩ _ ⟨by omega, by omega⟩ (PFc κ (x1 - 1).toNat) h hF3 hb3 Fw.rf) dX11_white_2.1.1.1.2 (Nat.le_of_ble_eq_true rfl) rfl ?_
        rintro r63 h ⟨hF, d63, p63⟩
        have k0 := p63.1; have k1 := p63.2.1; have k2 := p63.2.2
        rw [p60.2.2] at k0 k1 k2
        refine zW_iload_n (pc' := 67) dX11_white_2.1.1.2.1 rfl rfl ?_
        refine zW_iconst (pc' := 68) dX11_white_2.1.1.2.2 rfl ?_
        refine zV_cm_ne (tgt := 82) (pc' := 71) dX11_white_2.1.2.1.1 rfl rfl ⟨by omega, by omega⟩ ⟨by omega, by omega⟩ (fun c68 => ?_) (fun c68 => ?_)
        · refine zW_iload_n (pc' := 83) dX11_white_2.2.1.2.1 rfl rfl ?_
          refine zV_if_ne (tgt := 99) (pc' := 86) dX11_white_2.2.1.2.2 rfl rfl ⟨by omega, by omega⟩ (fun c83 => ?_) (fun c83 => ?_)
          · refine zW_aload_n (pc' := 100) dX11_white_3.1.1.2 rfl rfl ?_
            refine zG_ref (pc' := 103) 54 fg_X11_51 tb30 rfl dX11_white_3.1.2 rfl ?_
            refine zG_ref (pc' := 106) 87 fg_X11_254 tb54 rfl dX11_white_3.2.1.1 rfl ?_
            refine zG_int (pc' := 109) fg_X11_270 tb87 rfl dX11_white_3.2.1.2 rfl ?_
            exact zV_iret rfl dX11_white_3.2.2 ⟨hF, (by unfold whQ; rw [if_pos ⟨by omega, by omega, by omega, by omega⟩, ltV_in ⟨by omega, by omega⟩, if_pos hl, pcV_in ⟨by omega, by omega⟩, nmV_in ⟨by omega, by omega⟩]; first | (rw [if_pos (by omega)]; exact k1) | (rw [if_neg (by omega), if_pos (by omega)]; exact k2) | (rw [if_neg (by omega), if_neg (by omega)]; exact k0))⟩
          · refine zW_aload_n (pc' := 87) dX11_white_2.2.2.1.1 rfl rfl ?_
            refine zG_ref (pc' := 90) 54 fg_X11_51 tb30 rfl dX11_white_2.2.2.1.2 rfl ?_
            refine zG_ref (pc' := 93) 87 fg_X11_254 tb54 rfl dX11_white_2.2.2.2.1 rfl ?_
            refine zG_int (pc' := 96) fg_X11_267 tb87 rfl dX11_white_2.2.2.2.2 rfl ?_
            refine zV_goto 109 dX11_white_3.1.1.1 rfl ?_
            exact zV_iret rfl dX11_white_3.2.2 ⟨hF, (by unfold whQ; rw [if_pos ⟨by omega, by omega, by omega, by omega⟩, ltV_in ⟨by omega, by omega⟩, if_pos hl, pcV_in ⟨by omega, by omega⟩, nmV_in ⟨by omega, by omega⟩]; first | (rw [if_pos (by omega)]; exact k1) | (rw [if_neg (by omega), if_pos (by omega)]; exact k2) | (rw [if_neg (by omega), if_neg (by omega)]; exact k0))⟩
        · refine zW_aload_n (pc' := 72) dX11_white_2.1.2.1.2 rfl rfl ?_
          refine zG_ref (pc' := 75) 54 fg_X11_51 tb30 rfl dX11_white_2.1.2.2.1 rfl ?_
          refine zG_ref (pc' := 78) 87 fg_X11_254 tb54 rfl dX11_white_2.1.2.2.2 rfl ?_
          refine zG_int (pc' := 81) fg_X11_264 tb87 rfl dX11_white_2.2.1.1.1 rfl ?_
          exact zV_iret rfl dX11_white_2.2.1.1.2 ⟨hF, (by unfold whQ; rw [if_pos ⟨by omega, by omega, by omega, by omega⟩, ltV_in ⟨by omega, by omega⟩, if_pos hl, pcV_in ⟨by omega, by omega⟩, nmV_in ⟨by omega, by omega⟩]; first | (rw [if_pos (by omega)]; exact k1) | (rw [if_neg (by omega), if_pos (by omega)]; exact k2) | (rw [if_neg (by omega), if_neg (by omega)]; exact k0))⟩
      · refine zW_bipush (pc' := 36) dX11_white_1.1.1.1.2 rfl rfl ?_
        exact zV_iret rfl dX11_white_1.1.1.2.1 ⟨hF, (by have eLC : LC κ (x1 - 1).toNat = κ 42 x1.toNat := (by show κ 42 ((x1 - 1).toNat + 1) = _; rw [show (x1 - 1).toNat + 1 = x1.toNat by omega]); unfold whQ; rw [if_pos ⟨by omega, by omega, by omega, by omega⟩, ltV_in ⟨by omega, by omega⟩, if_neg (by rw [eLC]; omega)])⟩
    · refine zW_iconst (pc' := 20) dX11_white_0.2.1.1.2 rfl ?_
      exact zV_iret rfl dX11_white_0.2.1.2.1 ⟨hF, (by unfold whQ; rw [if_neg (by omega)])⟩

abbrev q_X12_baseZ (b : Bd) (κ : Hp) (x1 : Int) (x2 : Int) (x3 : Int) : Int → Hp → Prop := fun r h' => Fr b κ h' ∧ ((r = bsQ (κ 0 11) (κ 0 12) (κ 0 13) (κ 0 14) (ltV (κ 3) (κ 0 14)) (bhV (κ 3) (κ 0 14)) (pcV (κ 0 14) (PF κ)) (nmV (κ 0 14) (XN (κ 4) (κ 5))) x1 x2 x3))
set_option maxHeartbeats 4000000 in
set_option maxRecDepth 20000 in
theorem s_X12_baseZ {G : Ga} {b : Bd} {κ h : Hp} (hK : KR κ) (hF : Fr b.fo κ h) (x1 : Int) (hx1 : rng x1) (x2 : Int) (hx2 : rng x2) (x3 : Int) (hx3 : rng x3) (hLw : LeavesW b) (hV : VOK (κ 1)) (hE : EaOK (κ 3) (κ 0 14)) : zM G mX12_base yX12_base [.inr (.inr 0), .inl x1, .inl x2, .inl x3] h (q_X12_baseZ b.fo κ x1 x2 x3) := by
  have f_0_11 := KRw hK
  have f_0_12 := KRh hK
  have f_0_13 := KRp hK
  have f_0_14 := KRm hK
  unfold rng at hx1
  unfold rng at hx2
  unfold rng at hx3
  refine zM_of [some (.inr (.inr 0)), some (.inl x1), some (.inl x2), some (.inl x3)] 0 rfl rfl (Nat.le_of_ble_eq_true rfl) rfl ?_
  refine zW_aload_n (pc' := 1) dX12_base_0.1.1.1.1 rfl rfl ?_
  refine zW_iload_n (pc' := 2) dX12_base_0.1.1.1.2 rfl rfl ?_
  refine cvI1 (pc' := 5) kX12_isStage vX12_isStage lk_X12_199 ⟨Nat.le_of_ble_eq_true rfl, Nat.le_of_ble_eq_true rfl⟩ tb0 vq12 rfl rfl (s_X12_isStageZ hK hF _ ⟨by omega, by omega⟩) dX12_base_0.1.1.2.1 (Nat.le_of_ble_eq_true rfl) rfl ?_
  rintro r2 z2 ⟨hz2, p2⟩; subst z2
  refine zV_if_eq (tgt := 17) (pc' := 8) dX12_base_0.1.1.2.2 rfl rfl ⟨by omega, by omega⟩ (fun c5 => ?_) (fun c5 => ?_)
  · refine zW_iconst (pc' := 18) dX12_base_0.2.1.1.2 rfl ?_
    exact zV_iret rfl dX12_base_0.2.1.2.1 ⟨hF, (by unfold bsQ; rw [if_neg (by omega)])⟩
  · refine zW_aload_n (pc' := 9) dX12_base_0.1.2.1.1 rfl rfl ?_
    refine zW_iload_n (pc' := 10) dX12_base_0.1.2.1.2 rfl rfl ?_
    refine zW_iload_n (pc' := 11) dX12_base_0.1.2.2.1 rfl rfl ?_
    refine cvI2 (pc' := 14) kX12_isSquare vX12_isSquare lk_X12_218 ⟨Nat.le_of_ble_eq_true rfl, Nat.le_of_ble_eq_true rfl⟩ tb0 vq12 rfl rfl (s_X12_isSquare hK hF _ ⟨by omega, by omega⟩ _ ⟨by omega, by omega⟩) dX12_base_0.1.2.2.2 (Nat.le_of_ble_eq_true rfl) rfl ?_
    rintro r11 z11 ⟨hz11, p11⟩; subst z11
    refine zV_if_ne (tgt := 19) (pc' := 17) dX12_base_0.2.1.1.1 rfl rfl ⟨by omega, by omega⟩ (fun c14 => ?_) (fun c14 => ?_)
    · refine zW_aload_n (pc' := 20) dX12_base_0.2.1.2.2 rfl rfl ?_
      refine zW_iload_n (pc' := 21) dX12_base_0.2.2.1.1 rfl rfl ?_
      refine zW_bipush (pc' := 23) dX12_base_0.2.2.1.2 rfl rfl ?_
      refine cvI2 (pc' := 26) kX12_isKind vX12_isKind lk_X12_383 ⟨Nat.le_of_ble_eq_true rfl, Nat.le_of_ble_eq_true rfl⟩ tb0 vq12 rfl rfl (s_X12_isKind hK hF _ ⟨by omega, by omega⟩ _ ⟨by omega, by omega⟩) dX12_base_0.2.2.2.1 (Nat.le_of_ble_eq_true rfl) rfl ?_
      rintro r23 z23 ⟨hz23, p23⟩; subst z23
      refine zV_if_ne (tgt := 32) (pc' := 29) dX12_base_0.2.2.2.2 rfl rfl ⟨by omega, by omega⟩ (fun c26 => ?_) (fun c26 => ?_)
      · refine zW_aload_n (pc' := 33) dX12_base_1.1.1.2.1 rfl rfl ?_
        refine cvV0 (pc' := 36) kX12_leaves vX12_leaves lk_X12_377 ⟨Nat.le_of_ble_eq_true rfl, Nat.le_of_ble_eq_true rfl⟩ tb0 vq12 rfl rfl (hLw hK hF) dX12_base_1.1.1.2.2 (Nat.le_of_ble_eq_true rfl) rfl ?_
        rintro r33 h ⟨hF, p33⟩
        have hl : κ 3 (x1 - 1).toNat = 112 := by omega
        have hnn : ¬ noF (κ 3) (x1 - 1).toNat := fun q => by have z := (hE (x1 - 1).toNat (by omega)).mp q; omega
        have hF3 := (p33.2 (x1 - 1).toNat (by omega)).2 hnn
        rw [show (((x1 - 1).toNat : Nat) : Int) = x1 - 1 by omega] at hF3
        have hb3 := PF_b hK hV (x1 - 1).toNat
        refine zW_aload_n (pc' := 37) dX12_base_1.1.2.1.1 rfl rfl ?_
        refine zW_iload_n (pc' := 38) dX12_base_1.1.2.1.2 rfl rfl ?_
        refine zW_iconst (pc' := 39) dX12_base_1.1.2.2.1 rfl ?_
        refine zW_isub (pc' := 40) dX12_base_1.1.2.2.2 rfl ?_
        refine zW_iload_n (pc' := 41) dX12_base_1.2.1.1.1 rfl rfl ?_
        refine zW_iload_n (pc' := 42) dX12_base_1.2.1.1.2 rfl rfl ?_
        refine zW_aload_n (pc' := 43) dX12_base_1.2.1.2.1 rfl rfl ?_
        refine zW_iload_n (pc' := 44) dX12_base_1.2.1.2.2 rfl rfl ?_
        refine zW_iconst (pc' := 45) dX12_base_1.2.2.1.1 rfl ?_
        refine cvI2 (pc' := 48) kX12_numberOf vX12_numberOf lk_X12_206 ⟨Nat.le_of_ble_eq_true rfl, Nat.le_of_ble_eq_true rfl⟩ tb0 vq12 rfl rfl (s_X12_numberOfZ hK hF _ ⟨by omega, by omega, by omega⟩ _ ⟨by omega, by omega⟩) dX12_base_1.2.2.1.2 (Nat.le_of_ble_eq_true rfl) rfl ?_
        rintro r45 z45 ⟨hz45, p45⟩; subst z45
        have ho := KRo hK (k := x1) (by omega) (by omega) (Or.inr (by omega))
        have ho4 : 1 ≤ r45 ∧ r45 ≤ 4 := by (rw [p45.2.2]; obtain ⟨d1, -, -, -⟩ := KRr hK x1.toNat (by omega) (by omega); rw [show x1.toNat - 1 = (x1 - 1).toNat by omega, show x1.toNat = (x1 - 1).toNat + 1 by omega] at d1; rw [XN_0 d1]; rw [Int.add_zero] at ho; exact ho)
        refine cvI4 (pc' := 51) kX12_baseOf vX12_baseOf lk_X12_331 ⟨Nat.le_of_ble_eq_true rfl, Nat.le_of_ble_eq_true rfl⟩ tb0 vq12 rfl rfl (s_X12_baseOfZ hK hF _ ⟨by omega, by omega⟩ _ ⟨by omega, by omega, by omega⟩ _ ⟨by omega, by omega, by omega⟩ _ ⟨by omega, by omega⟩ (PF κ (x1 - 1).toNat) hF3 hb3) dX12_base_1.2.2.2.1 (Nat.le_of_ble_eq_true rfl) rfl ?_
        rintro r48 z48 ⟨hz48, p48⟩; subst z48
        exact zV_iret rfl dX12_base_1.2.2.2.2 ⟨hF, (by unfold bsQ; rw [if_pos ⟨by omega, by omega, by omega, by omega, by omega, by omega⟩, ltV_in ⟨by omega, by omega⟩, if_pos hl, pcV_in ⟨by omega, by omega⟩, nmV_in ⟨by omega, by omega⟩]; rw [← p45.2.2]; exact p48.2.2)⟩
      · refine zW_bipush (pc' := 31) dX12_base_1.1.1.1.1 rfl rfl ?_
        exact zV_iret rfl dX12_base_1.1.1.1.2 ⟨hF, (by unfold bsQ; rw [if_pos ⟨by omega, by omega, by omega, by omega, by omega, by omega⟩, ltV_in ⟨by omega, by omega⟩, if_neg (by omega)])⟩
    · refine zW_iconst (pc' := 18) dX12_base_0.2.1.1.2 rfl ?_
      exact zV_iret rfl dX12_base_0.2.1.2.1 ⟨hF, (by unfold bsQ; rw [if_neg (by omega)])⟩

abbrev q_X11_baseZ (b : Bd) (κ : Hp) (x1 : Int) (x2 : Int) (x3 : Int) : Int → Hp → Prop := fun r h' => Fr b κ h' ∧ ((r = bsQ (κ 33 0) (κ 33 1) (κ 33 2) (κ 41 0) (ltV (LC κ) (κ 41 0)) (bhV (LC κ) (κ 41 0)) (pcV (κ 41 0) (PFc κ)) (nmV (κ 41 0) (XNc κ)) x1 x2 x3))
set_option maxHeartbeats 4000000 in
set_option maxRecDepth 20000 in
theorem s_X11_baseZ {G : Ga} {b : Bd} {κ h : Hp} (hK : KC κ) (hF : Fr b κ h) (x1 : Int) (hx1 : rng x1) (x2 : Int) (hx2 : rng x2) (x3 : Int) (hx3 : rng x3) (hSw : SheetW b) (hV : VOK (κ 34)) (hE : EaOK (LC κ) (κ 41 0)) (hRc : RecW κ) : zM G mX11_base yX11_base [.inr (.inr 30), .inl x1, .inl x2, .inl x3] h (q_X11_baseZ b κ x1 x2 x3) := by
  have f_33_0 := KCw hK
  have f_33_1 := KCh hK
  have f_33_2 := KCp hK
  have f_41_0 := KCm hK
  unfold rng at hx1
  unfold rng at hx2
  unfold rng at hx3
  refine zM_of [some (.inr (.inr 30)), some (.inl x1), some (.inl x2), some (.inl x3)] 0 rfl rfl (Nat.le_of_ble_eq_true rfl) rfl ?_
  refine zW_aload_n (pc' := 1) dX11_base_0.1.1.1.1 rfl rfl ?_
  refine zG_ref (pc' := 4) 41 fg_X11_33 tb30 rfl dX11_base_0.1.1.1.2 rfl ?_
  refine zW_iload_n (pc' := 5) dX11_base_0.1.1.2.1 rfl rfl ?_
  refine cvI1 (pc' := 8) kX7_has vX7_has lk_X11_178 ⟨Nat.le_of_ble_eq_true rfl, Nat.le_of_ble_eq_true rfl⟩ tb41 vq7 rfl rfl (s_X7_has hK hF _ ⟨by omega, by omega⟩) dX11_base_0.1.1.2.2 (Nat.le_of_ble_eq_true rfl) rfl ?_
  rintro r5 z5 ⟨hz5, p5⟩; subst z5
  refine zV_if_eq (tgt := 23) (pc' := 11) dX11_base_0.1.2.1.1 rfl rfl ⟨by omega, by omega⟩ (fun c8 => ?_) (fun c8 => ?_)
  · refine zW_iconst (pc' := 24) dX11_base_0.2.1.2.2 rfl ?_
    exact zV_iret rfl dX11_base_0.2.2.1.1 ⟨hF, (by unfold bsQ; rw [if_neg (by omega)])⟩
  · refine zW_aload_n (pc' := 12) dX11_base_0.1.2.1.2 rfl rfl ?_
    refine zG_ref (pc' := 15) 33 fg_X11_19 tb30 rfl dX11_base_0.1.2.2.1 rfl ?_
    refine zW_iload_n (pc' := 16) dX11_base_0.1.2.2.2 rfl rfl ?_
    refine zW_iload_n (pc' := 17) dX11_base_0.2.1.1.1 rfl rfl ?_
    refine cvI2 (pc' := 20) kX5_has vX5_has lk_X11_140 ⟨Nat.le_of_ble_eq_true rfl, Nat.le_of_ble_eq_true rfl⟩ tb33 vq5 rfl rfl (s_X5_has hK hF _ ⟨by omega, by omega⟩ _ ⟨by omega, by omega⟩) dX11_base_0.2.1.1.2 (Nat.le_of_ble_eq_true rfl) rfl ?_
    rintro r17 z17 ⟨hz17, p17⟩; subst z17
    refine zV_if_ne (tgt := 25) (pc' := 23) dX11_base_0.2.1.2.1 rfl rfl ⟨by omega, by omega⟩ (fun c20 => ?_) (fun c20 => ?_)
    · refine zW_aload_n (pc' := 26) dX11_base_0.2.2.1.2 rfl rfl ?_
      refine zG_ref (pc' := 29) 41 fg_X11_33 tb30 rfl dX11_base_0.2.2.2.1 rfl ?_
      refine zW_iload_n (pc' := 30) dX11_base_0.2.2.2.2 rfl rfl ?_
      refine cvI1 (pc' := 33) kX7_letterOf vX7_letterOf lk_X11_180 ⟨Nat.le_of_ble_eq_true rfl, Nat.le_of_ble_eq_true rfl⟩ tb41 vq7 rfl rfl (s_X7_letterOfZ hK hF _ ⟨by omega, by omega, by omega⟩) dX11_base_1.1.1.1.1 (Nat.le_of_ble_eq_true rfl) rfl ?_
      rintro r30 z30 ⟨hz30, p30⟩; subst z30
      refine zW_bipush (pc' := 35) dX11_base_1.1.1.1.2 rfl rfl ?_
      refine zV_cm_eq (tgt := 41) (pc' := 38) dX11_base_1.1.1.2.1 rfl rfl ⟨by omega, by omega⟩ ⟨by omega, by omega⟩ (fun c35 => ?_) (fun c35 => ?_)
      · refine zW_aload_n (pc' := 42) dX11_base_1.1.2.1.2 rfl rfl ?_
        refine zG_ref (pc' := 45) 54 fg_X11_51 tb30 rfl dX11_base_1.1.2.2.1 rfl ?_
        refine zG_ref (pc' := 48) 87 fg_X11_254 tb54 rfl dX11_base_1.1.2.2.2 rfl ?_
        refine zW_aload_n (pc' := 49) dX11_base_1.2.1.1.1 rfl rfl ?_
        refine zG_ref (pc' := 52) 54 fg_X11_51 tb30 rfl dX11_base_1.2.1.1.2 rfl ?_
        refine zW_iload_n (pc' := 53) dX11_base_1.2.1.2.1 rfl rfl ?_
        refine zW_iconst (pc' := 54) dX11_base_1.2.1.2.2 rfl ?_
        refine zW_isub (pc' := 55) dX11_base_1.2.2.1.1 rfl ?_
        refine cvA1 (pc' := 58) kX1_sheetOf vX1_sheetOf lk_X11_192 ⟨Nat.le_of_ble_eq_true rfl, Nat.le_of_ble_eq_true rfl⟩ tb54 vq1 rfl rfl (hSw hK hF _ ⟨by omega, by omega⟩) dX11_base_1.2.2.1.2 (Nat.le_of_ble_eq_true rfl) rfl ?_
        rintro r55 h ⟨hF, p55⟩
        obtain ⟨q55, z55⟩ : ∃ z : Nat, z = r55.toNat := ⟨_, rfl⟩
        rw [← z55]
        have hl : LC κ (x1 - 1).toNat = 112 := by have e : LC κ (x1 - 1).toNat = κ 42 x1.toNat := (by show κ 42 ((x1 - 1).toNat + 1) = _; rw [show (x1 - 1).toNat + 1 = x1.toNat by omega]); omega
        have hnn : ¬ noF (LC κ) (x1 - 1).toNat := fun q => by have z := (hE (x1 - 1).toNat (by omega)).mp q; omega
        have hF3 := (((p55.2.2 (by omega) (by omega)).2 (x1 - 1).toNat (by omega)).2 hnn).1
        have hqs := (p55.2.2 (by omega) (by omega)).1
        rw [show 56 + (x1 - 1).toNat + 15 = q55 + 15 by omega] at hF3
        have hb3 := PFc_b hK hV (x1 - 1).toNat
        have hxb : ∀ j : Nat, 0 ≤ XNc κ (x1 - 1).toNat j ∧ XNc κ (x1 - 1).toNat j ≤ 255 := (hRc (x1 - 1).toNat (by omega)).2.2.1
        refine zW_aload_n (pc' := 59) dX11_base_1.2.2.2.1 rfl rfl ?_
        refine zG_ref (pc' := 62) 41 fg_X11_33 tb30 rfl dX11_base_1.2.2.2.2 rfl ?_
        refine zW_iload_n (pc' := 63) dX11_base_2.1.1.1.1 rfl rfl ?_
        refine zW_iconst (pc' := 64) dX11_base_2.1.1.1.2 rfl ?_
        refine cvI2 (pc' := 67) kX7_numberOf vX7_numberOf lk_X11_186 ⟨Nat.le_of_ble_eq_true rfl, Nat.le_of_ble_eq_true rfl⟩ tb41 vq7 rfl rfl (s_X7_numberOfW hK hF _ ⟨by omega, by omega, by omega⟩ _ ⟨by omega, by omega⟩ hxb) dX11_base_2.1.1.2.1 (Nat.le_of_ble_eq_true rfl) rfl ?_
        rintro r64 z64 ⟨hz64, p64⟩; subst z64
        have ho4 : 1 ≤ r64 ∧ r64 ≤ 4 := by (rw [p64.2.2]; exact (hRc (x1 - 1).toNat (by omega)).2.2.2.1.2.1 hl)
        refine cvV2 (pc' := 70) kX3_findBases vX3_findBases lk_X11_273 ⟨Nat.le_of_ble_eq_true rfl, Nat.le_of_ble_eq_true rfl⟩ tb87 vq3 rfl rfl (s_X3_findBasesZ hK hF _ ⟨by omega, by omega⟩ _ ⟨by omega, by omega⟩ (PFc κ (x1 - 1).toNat) h hF3 hb3 Fw.rf) dX11_base_2.1.1.2.2 (Nat.le_of_ble_eq_true rfl) rfl ?_
        rintro r67 h ⟨hF, d67, p67⟩
        refine zW_aload_n (pc' := 71) dX11_base_2.1.2.1.1 rfl rfl ?_
        refine zG_ref (pc' := 74) 54 fg_X11_51 tb30 rfl dX11_base_2.1.2.1.2 rfl ?_
        refine zG_ref (pc' := 77) 87 fg_X11_254 tb54 rfl dX11_base_2.1.2.2.1 rfl ?_
        refine zG_ref (pc' := 80) 88 fg_X11_276 tb87 rfl dX11_base_2.1.2.2.2 rfl ?_
        refine zW_iload_n (pc' := 81) dX11_base_2.2.1.1.1 rfl rfl ?_
        refine zW_bipush (pc' := 83) dX11_base_2.2.1.1.2 rfl rfl ?_
        refine zW_imul (pc' := 84) dX11_base_2.2.1.2.1 rfl ?_
        refine zW_iload_n (pc' := 85) dX11_base_2.2.1.2.2 rfl rfl ?_
        refine zW_iadd (pc' := 86) dX11_base_2.2.2.1.1 rfl ?_
        refine zV_iald (pc' := 87) tb88 (by omega) dX11_base_2.2.2.1.2 (by decide) rfl ?_
        exact zV_iret rfl dX11_base_2.2.2.2 ⟨hF, (by unfold bsQ; rw [if_pos ⟨by omega, by omega, by omega, by omega, by omega, by omega⟩, ltV_in ⟨by omega, by omega⟩, if_pos hl, pcV_in ⟨by omega, by omega⟩, nmV_in ⟨by omega, by omega⟩]; have z := p67 x2 x3 ⟨by omega, by omega, by omega, by omega⟩ True.intro; rw [p64.2.2] at z; rw [show x3 * 16 + x2 = 16 * x3 + x2 by omega]; exact z)⟩
      · refine zW_bipush (pc' := 40) dX11_base_1.1.1.2.2 rfl rfl ?_
        exact zV_iret rfl dX11_base_1.1.2.1.1 ⟨hF, (by have eLC : LC κ (x1 - 1).toNat = κ 42 x1.toNat := (by show κ 42 ((x1 - 1).toNat + 1) = _; rw [show (x1 - 1).toNat + 1 = x1.toNat by omega]); unfold bsQ; rw [if_pos ⟨by omega, by omega, by omega, by omega, by omega, by omega⟩, ltV_in ⟨by omega, by omega⟩, if_neg (by rw [eLC]; omega)])⟩
    · refine zW_iconst (pc' := 24) dX11_base_0.2.1.2.2 rfl ?_
      exact zV_iret rfl dX11_base_0.2.2.1.1 ⟨hF, (by unfold bsQ; rw [if_neg (by omega)])⟩

abbrev q_X12_toneZ (b : Bd) (κ : Hp) (x1 : Int) (x2 : Int) (x3 : Int) (x4 : Int) : Int → Hp → Prop := fun r h' => Fr b κ h' ∧ ((r = tnQ (κ 0 11) (κ 0 12) (κ 0 13) (κ 0 14) (ltV (κ 3) (κ 0 14)) (bhV (κ 3) (κ 0 14)) (pcV (κ 0 14) (PF κ)) (nmV (κ 0 14) (XN (κ 4) (κ 5))) x1 x2 x3 x4))
set_option maxHeartbeats 4000000 in
set_option maxRecDepth 20000 in
theorem s_X12_toneZ {G : Ga} {b : Bd} {κ h : Hp} (hK : KR κ) (hF : Fr b.fo κ h) (x1 : Int) (hx1 : rng x1) (x2 : Int) (hx2 : rng x2) (x3 : Int) (hx3 : rng x3) (x4 : Int) (hx4 : rng x4) (hLw : LeavesW b) (hV : VOK (κ 1)) (hE : EaOK (κ 3) (κ 0 14)) (hSt : StOK (κ 3) (κ 4) (κ 5) (κ 0 14)) : zM G mX12_tone yX12_tone [.inr (.inr 0), .inl x1, .inl x2, .inl x3, .inl x4] h (q_X12_toneZ b.fo κ x1 x2 x3 x4) := by
  have f_0_11 := KRw hK
  have f_0_12 := KRh hK
  have f_0_13 := KRp hK
  have f_0_14 := KRm hK
  unfold rng at hx1
  unfold rng at hx2
  unfold rng at hx3
  unfold rng at hx4
  refine zM_of [some (.inr (.inr 0)), some (.inl x1), some (.inl x2), some (.inl x3), some (.inl x4)] 0 rfl rfl (Nat.le_of_ble_eq_true rfl) rfl ?_
  refine zW_aload_n (pc' := 1) dX12_tone_0.1.1.1.1 rfl rfl ?_
  refine zW_iload_n (pc' := 2) dX12_tone_0.1.1.1.2 rfl rfl ?_
  refine cvI1 (pc' := 5) kX12_isStage vX12_isStage lk_X12_199 ⟨Nat.le_of_ble_eq_true rfl, Nat.le_of_ble_eq_true rfl⟩ tb0 vq12 rfl rfl (s_X12_isStageZ hK hF _ ⟨by omega, by omega⟩) dX12_tone_0.1.1.2.1 (Nat.le_of_ble_eq_true rfl) rfl ?_
  rintro r2 z2 ⟨hz2, p2⟩; subst z2
  refine zV_if_eq (tgt := 27) (pc' := 8) dX12_tone_0.1.1.2.2 rfl rfl ⟨by omega, by omega⟩ (fun c5 => ?_) (fun c5 => ?_)
  · refine zW_iconst (pc' := 28) dX12_tone_0.2.2.2.1 rfl ?_
    exact zV_iret rfl dX12_tone_0.2.2.2.2 ⟨hF, (by unfold tnQ; rw [if_neg (by omega)])⟩
  · refine zW_iload_n (pc' := 9) dX12_tone_0.1.2.1.1 rfl rfl ?_
    refine zW_iconst (pc' := 10) dX12_tone_0.1.2.1.2 rfl ?_
    refine zW_iconst (pc' := 11) dX12_tone_0.1.2.2.1 rfl ?_
    refine csI3 (pc' := 14) kX12_in vX12_in lk_X12_140 ⟨Nat.le_of_ble_eq_true rfl, Nat.le_of_ble_eq_true rfl⟩ rfl (s_X12_inR hF _ ⟨by omega, by omega⟩ _ ⟨by omega, by omega⟩ _ ⟨by omega, by omega⟩) dX12_tone_0.1.2.2.2 (Nat.le_of_ble_eq_true rfl) rfl ?_
    rintro r11 z11 ⟨hz11, p11⟩; subst z11
    refine zV_if_eq (tgt := 27) (pc' := 17) dX12_tone_0.2.1.1.1 rfl rfl ⟨by omega, by omega⟩ (fun c14 => ?_) (fun c14 => ?_)
    · refine zW_iconst (pc' := 28) dX12_tone_0.2.2.2.1 rfl ?_
      exact zV_iret rfl dX12_tone_0.2.2.2.2 ⟨hF, (by unfold tnQ; rw [if_neg (by omega)])⟩
    · refine zW_aload_n (pc' := 18) dX12_tone_0.2.1.1.2 rfl rfl ?_
      refine zW_iload_n (pc' := 19) dX12_tone_0.2.1.2.1 rfl rfl ?_
      refine zW_iload (pc' := 21) dX12_tone_0.2.1.2.2 rfl rfl ?_
      refine cvI2 (pc' := 24) kX12_isSquare vX12_isSquare lk_X12_218 ⟨Nat.le_of_ble_eq_true rfl, Nat.le_of_ble_eq_true rfl⟩ tb0 vq12 rfl rfl (s_X12_isSquare hK hF _ ⟨by omega, by omega⟩ _ ⟨by omega, by omega⟩) dX12_tone_0.2.2.1.1 (Nat.le_of_ble_eq_true rfl) rfl ?_
      rintro r21 z21 ⟨hz21, p21⟩; subst z21
      refine zV_if_ne (tgt := 29) (pc' := 27) dX12_tone_0.2.2.1.2 rfl rfl ⟨by omega, by omega⟩ (fun c24 => ?_) (fun c24 => ?_)
      · refine zW_aload_n (pc' := 30) dX12_tone_1.1.1.1.1 rfl rfl ?_
        refine zW_iload_n (pc' := 31) dX12_tone_1.1.1.1.2 rfl rfl ?_
        refine zW_bipush (pc' := 33) dX12_tone_1.1.1.2.1 rfl rfl ?_
        refine cvI2 (pc' := 36) kX12_isKind vX12_isKind lk_X12_383 ⟨Nat.le_of_ble_eq_true rfl, Nat.le_of_ble_eq_true rfl⟩ tb0 vq12 rfl rfl (s_X12_isKind hK hF _ ⟨by omega, by omega⟩ _ ⟨by omega, by omega⟩) dX12_tone_1.1.1.2.2 (Nat.le_of_ble_eq_true rfl) rfl ?_
        rintro r33 z33 ⟨hz33, p33⟩; subst z33
        refine zV_if_ne (tgt := 42) (pc' := 39) dX12_tone_1.1.2.1.1 rfl rfl ⟨by omega, by omega⟩ (fun c36 => ?_) (fun c36 => ?_)
        · refine zW_aload_n (pc' := 43) dX12_tone_1.1.2.2.2 rfl rfl ?_
          refine cvV0 (pc' := 46) kX12_leaves vX12_leaves lk_X12_377 ⟨Nat.le_of_ble_eq_true rfl, Nat.le_of_ble_eq_true rfl⟩ tb0 vq12 rfl rfl (hLw hK hF) dX12_tone_1.2.1.1.1 (Nat.le_of_ble_eq_true rfl) rfl ?_
          rintro r43 h ⟨hF, p43⟩
          have hl : κ 3 (x1 - 1).toNat = 121 := by omega
          have hnn : ¬ noF (κ 3) (x1 - 1).toNat := fun q => by have z := (hE (x1 - 1).toNat (by omega)).mp q; omega
          have hF3 := (p43.2 (x1 - 1).toNat (by omega)).2 hnn
          rw [show (((x1 - 1).toNat : Nat) : Int) = x1 - 1 by omega] at hF3
          have hb3 := PF_b hK hV (x1 - 1).toNat
          have hgv := p43.1
          refine zW_aload_n (pc' := 47) dX12_tone_1.2.1.1.2 rfl rfl ?_
          refine zW_iload_n (pc' := 48) dX12_tone_1.2.1.2.1 rfl rfl ?_
          refine zW_iconst (pc' := 49) dX12_tone_1.2.1.2.2 rfl ?_
          refine zW_isub (pc' := 50) dX12_tone_1.2.2.1.1 rfl ?_
          refine cvV1 (pc' := 53) kX12_findsFloors vX12_findsFloors lk_X12_351 ⟨Nat.le_of_ble_eq_true rfl, Nat.le_of_ble_eq_true rfl⟩ tb0 vq12 rfl rfl (s_X12_findsFloorsZ hK hF _ ⟨by omega, by omega⟩ (PF κ (x1 - 1).toNat) h hF3 hb3 Fw.rf) dX12_tone_1.2.2.1.2 (Nat.le_of_ble_eq_true rfl) rfl ?_
          rintro r50 h ⟨hF, d50, p50⟩
          have hgv2 : ∀ i, i < 130 → h 23 i = κ 5 i := fun i hi => by rw [d50.cell (k := 23) (by intro c hc; simp at hc; omega) (by intro p hp; simp at hp)]; exact hgv i hi
          refine zW_iload_n (pc' := 54) dX12_tone_1.2.2.2.1 rfl rfl ?_
          refine zW_iconst (pc' := 55) dX12_tone_1.2.2.2.2 rfl ?_
          refine zV_cm_ge (tgt := 69) (pc' := 58) dX12_tone_2.1.1.1.1 rfl rfl ⟨by omega, by omega⟩ ⟨by omega, by omega⟩ (fun c55 => ?_) (fun c55 => ?_)
          · refine zW_aload_n (pc' := 70) dX12_tone_2.1.2.2.2 rfl rfl ?_
            refine zW_iload_n (pc' := 71) dX12_tone_2.2.1.1.1 rfl rfl ?_
            refine zW_iload (pc' := 73) dX12_tone_2.2.1.1.2 rfl rfl ?_
            refine zW_aload_n (pc' := 74) dX12_tone_2.2.1.2.1 rfl rfl ?_
            refine zG_ref (pc' := 77) 4 fg_X12_19 tb0 rfl dX12_tone_2.2.1.2.2 rfl ?_
            refine zW_iload_n (pc' := 78) dX12_tone_2.2.2.1.1 rfl rfl ?_
            refine zW_iconst (pc' := 79) dX12_tone_2.2.2.1.2 rfl ?_
            refine zW_isub (pc' := 80) dX12_tone_2.2.2.2.1 rfl ?_
            refine zA_keyB (KRna hK) (pc' := 81) hF rfl tb4 (by omega) dX12_tone_2.2.2.2.2 (by decide) rfl (fun e80 => ?_)
            have hs3 := (hSt (x1 - 1).toNat (by omega)).2.2.1 (Or.inr hl)
            have ka := KRna hK ((x1 - 1).toNat + 1)
            have ka0 := KRna hK (x1 - 1).toNat
            have kj : ∀ j : Nat, j < 3 → h 23 (κ 4 (x1 - 1).toNat + (j : Int)).toNat = XN (κ 4) (κ 5) (x1 - 1).toNat j := fun j hj => by rw [XN_in (by omega)]; exact hgv2 _ (by omega)
            refine cvI3 (pc' := 84) kX12_toneAt vX12_toneAt lk_X12_334 ⟨Nat.le_of_ble_eq_true rfl, Nat.le_of_ble_eq_true rfl⟩ tb0 vq12 rfl rfl (s_X12_toneAtQ hK hF _ ⟨by omega, by omega, by omega⟩ _ ⟨by omega, by omega, by omega⟩ _ ⟨by omega, by omega⟩ (PF κ (x1 - 1).toNat) (GivH.of hK hgv2) p50 hb3) dX12_tone_3.1 (Nat.le_of_ble_eq_true rfl) rfl ?_
            rintro r81 z81 ⟨hz81, p81⟩; subst z81
            exact zV_iret rfl dX12_tone_3.2 ⟨hF, (by unfold tnQ; rw [if_pos ⟨by omega, by omega, by omega, by omega, by omega, by omega, by omega, by omega⟩, ltV_in ⟨by omega, by omega⟩, if_pos hl, pcV_in ⟨by omega, by omega⟩, nmV_in ⟨by omega, by omega⟩]; first | (rw [if_neg (by omega)]; exact p63.2.2) | (rw [if_pos (by omega)]; have k0 := kj 0 (by decide); rw [show κ 4 (x1 - 1).toNat + ((0 : Nat) : Int) = κ 4 (x1 - 1).toNat by omega] at k0; have k1 := kj 1 (by decide); have k2 := kj 2 (by decide); rw [← k0, ← k1, ← k2]; exact p81))⟩
          · refine zW_aload_n (pc' := 59) dX12_tone_2.1.1.1.2 rfl rfl ?_
            refine zW_iload_n (pc' := 60) dX12_tone_2.1.1.2.1 rfl rfl ?_
            refine zW_iload_n (pc' := 61) dX12_tone_2.1.1.2.2 rfl rfl ?_
            refine zW_iload (pc' := 63) dX12_tone_2.1.2.1.1 rfl rfl ?_
            refine cvI3 (pc' := 66) kX12_floorAt vX12_floorAt lk_X12_316 ⟨Nat.le_of_ble_eq_true rfl, Nat.le_of_ble_eq_true rfl⟩ tb0 vq12 rfl rfl (s_X12_floorAtZ hK hF _ ⟨by omega, by omega⟩ _ ⟨by omega, by omega, by omega⟩ _ ⟨by omega, by omega, by omega⟩ (PF κ (x1 - 1).toNat) p50 hb3) dX12_tone_2.1.2.1.2 (Nat.le_of_ble_eq_true rfl) rfl ?_
            rintro r63 z63 ⟨hz63, p63⟩; subst z63
            refine zV_goto 84 dX12_tone_2.1.2.2.1 rfl ?_
            exact zV_iret rfl dX12_tone_3.2 ⟨hF, (by unfold tnQ; rw [if_pos ⟨by omega, by omega, by omega, by omega, by omega, by omega, by omega, by omega⟩, ltV_in ⟨by omega, by omega⟩, if_pos hl, pcV_in ⟨by omega, by omega⟩, nmV_in ⟨by omega, by omega⟩]; first | (rw [if_neg (by omega)]; exact p63.2.2) | (rw [if_pos (by omega)]; have k0 := kj 0 (by decide); rw [show κ 4 (x1 - 1).toNat + ((0 : Nat) : Int) = κ 4 (x1 - 1).toNat by omega] at k0; have k1 := kj 1 (by decide); have k2 := kj 2 (by decide); rw [← k0, ← k1, ← k2]; exact p81))⟩
        · refine zW_bipush (pc' := 41) dX12_tone_1.1.2.1.2 rfl rfl ?_
          exact zV_iret rfl dX12_tone_1.1.2.2.1 ⟨hF, (by unfold tnQ; rw [if_pos ⟨by omega, by omega, by omega, by omega, by omega, by omega, by omega, by omega⟩, ltV_in ⟨by omega, by omega⟩, if_neg (by omega)])⟩
      · refine zW_iconst (pc' := 28) dX12_tone_0.2.2.2.1 rfl ?_
        exact zV_iret rfl dX12_tone_0.2.2.2.2 ⟨hF, (by unfold tnQ; rw [if_neg (by omega)])⟩

abbrev q_X11_toneZ (b : Bd) (κ : Hp) (x1 : Int) (x2 : Int) (x3 : Int) (x4 : Int) : Int → Hp → Prop := fun r h' => Fr b κ h' ∧ ((r = tnQ (κ 33 0) (κ 33 1) (κ 33 2) (κ 41 0) (ltV (LC κ) (κ 41 0)) (bhV (LC κ) (κ 41 0)) (pcV (κ 41 0) (PFc κ)) (nmV (κ 41 0) (XNc κ)) x1 x2 x3 x4))
set_option maxHeartbeats 4000000 in
set_option maxRecDepth 20000 in
theorem s_X11_toneZ {G : Ga} {b : Bd} {κ h : Hp} (hK : KC κ) (hF : Fr b κ h) (x1 : Int) (hx1 : rng x1) (x2 : Int) (hx2 : rng x2) (x3 : Int) (hx3 : rng x3) (x4 : Int) (hx4 : rng x4) (hSw : SheetW b) (hV : VOK (κ 34)) (hE : EaOK (LC κ) (κ 41 0)) (hRc : RecW κ) : zM G mX11_tone yX11_tone [.inr (.inr 30), .inl x1, .inl x2, .inl x3, .inl x4] h (q_X11_toneZ b κ x1 x2 x3 x4) := by
  have f_33_0 := KCw hK
  have f_33_1 := KCh hK
  have f_33_2 := KCp hK
  have f_41_0 := KCm hK
  unfold rng at hx1
  unfold rng at hx2
  unfold rng at hx3
  unfold rng at hx4
  refine zM_of [some (.inr (.inr 30)), some (.inl x1), some (.inl x2), some (.inl x3), some (.inl x4)] 0 rfl rfl (Nat.le_of_ble_eq_true rfl) rfl ?_
  refine zW_aload_n (pc' := 1) dX11_tone_0.1.1.1.1 rfl rfl ?_
  refine zG_ref (pc' := 4) 41 fg_X11_33 tb30 rfl dX11_tone_0.1.1.1.2 rfl ?_
  refine zW_iload_n (pc' := 5) dX11_tone_0.1.1.2.1 rfl rfl ?_
  refine cvI1 (pc' := 8) kX7_has vX7_has lk_X11_178 ⟨Nat.le_of_ble_eq_true rfl, Nat.le_of_ble_eq_true rfl⟩ tb41 vq7 rfl rfl (s_X7_has hK hF _ ⟨by omega, by omega⟩) dX11_tone_0.1.1.2.2 (Nat.le_of_ble_eq_true rfl) rfl ?_
  rintro r5 z5 ⟨hz5, p5⟩; subst z5
  refine zV_if_eq (tgt := 32) (pc' := 11) dX11_tone_0.1.2.1.1 rfl rfl ⟨by omega, by omega⟩ (fun c8 => ?_) (fun c8 => ?_)
  · refine zW_iconst (pc' := 33) dX11_tone_0.2.2.2.2 rfl ?_
    exact zV_iret rfl dX11_tone_1.1.1.1.1 ⟨hF, (by unfold tnQ; rw [if_neg (by omega)])⟩
  · refine zW_iload_n (pc' := 12) dX11_tone_0.1.2.1.2 rfl rfl ?_
    refine zW_iconst (pc' := 13) dX11_tone_0.1.2.2.1 rfl ?_
    refine csI2 (pc' := 16) kX11_isWithin vX11_isWithin lk_X11_116 ⟨Nat.le_of_ble_eq_true rfl, Nat.le_of_ble_eq_true rfl⟩ rfl (s_X11_isWithinR hF _ ⟨by omega, by omega⟩ _ ⟨by omega, by omega⟩) dX11_tone_0.1.2.2.2 (Nat.le_of_ble_eq_true rfl) rfl ?_
    rintro r13 z13 ⟨hz13, p13⟩; subst z13
    refine zV_if_eq (tgt := 32) (pc' := 19) dX11_tone_0.2.1.1.1 rfl rfl ⟨by omega, by omega⟩ (fun c16 => ?_) (fun c16 => ?_)
    · refine zW_iconst (pc' := 33) dX11_tone_0.2.2.2.2 rfl ?_
      exact zV_iret rfl dX11_tone_1.1.1.1.1 ⟨hF, (by unfold tnQ; rw [if_neg (by omega)])⟩
    · refine zW_aload_n (pc' := 20) dX11_tone_0.2.1.1.2 rfl rfl ?_
      refine zG_ref (pc' := 23) 33 fg_X11_19 tb30 rfl dX11_tone_0.2.1.2.1 rfl ?_
      refine zW_iload_n (pc' := 24) dX11_tone_0.2.1.2.2 rfl rfl ?_
      refine zW_iload (pc' := 26) dX11_tone_0.2.2.1.1 rfl rfl ?_
      refine cvI2 (pc' := 29) kX5_has vX5_has lk_X11_140 ⟨Nat.le_of_ble_eq_true rfl, Nat.le_of_ble_eq_true rfl⟩ tb33 vq5 rfl rfl (s_X5_has hK hF _ ⟨by omega, by omega⟩ _ ⟨by omega, by omega⟩) dX11_tone_0.2.2.1.2 (Nat.le_of_ble_eq_true rfl) rfl ?_
      rintro r26 z26 ⟨hz26, p26⟩; subst z26
      refine zV_if_ne (tgt := 34) (pc' := 32) dX11_tone_0.2.2.2.1 rfl rfl ⟨by omega, by omega⟩ (fun c29 => ?_) (fun c29 => ?_)
      · refine zW_aload_n (pc' := 35) dX11_tone_1.1.1.1.2 rfl rfl ?_
        refine zG_ref (pc' := 38) 41 fg_X11_33 tb30 rfl dX11_tone_1.1.1.2.1 rfl ?_
        refine zW_iload_n (pc' := 39) dX11_tone_1.1.1.2.2 rfl rfl ?_
        refine cvI1 (pc' := 42) kX7_letterOf vX7_letterOf lk_X11_180 ⟨Nat.le_of_ble_eq_true rfl, Nat.le_of_ble_eq_true rfl⟩ tb41 vq7 rfl rfl (s_X7_letterOfZ hK hF _ ⟨by omega, by omega, by omega⟩) dX11_tone_1.1.2.1.1 (Nat.le_of_ble_eq_true rfl) rfl ?_
        rintro r39 z39 ⟨hz39, p39⟩; subst z39
        refine zW_bipush (pc' := 44) dX11_tone_1.1.2.1.2 rfl rfl ?_
        refine zV_cm_eq (tgt := 50) (pc' := 47) dX11_tone_1.1.2.2.1 rfl rfl ⟨by omega, by omega⟩ ⟨by omega, by omega⟩ (fun c44 => ?_) (fun c44 => ?_)
        · refine zW_aload_n (pc' := 51) dX11_tone_1.2.1.1.2 rfl rfl ?_
          refine zG_ref (pc' := 54) 54 fg_X11_51 tb30 rfl dX11_tone_1.2.1.2.1 rfl ?_
          refine zG_ref (pc' := 57) 87 fg_X11_254 tb54 rfl dX11_tone_1.2.1.2.2 rfl ?_
          refine zW_aload_n (pc' := 58) dX11_tone_1.2.2.1.1 rfl rfl ?_
          refine zG_ref (pc' := 61) 54 fg_X11_51 tb30 rfl dX11_tone_1.2.2.1.2 rfl ?_
          refine zW_iload_n (pc' := 62) dX11_tone_1.2.2.2.1 rfl rfl ?_
          refine zW_iconst (pc' := 63) dX11_tone_1.2.2.2.2 rfl ?_
          refine zW_isub (pc' := 64) dX11_tone_2.1.1.1.1 rfl ?_
          refine cvA1 (pc' := 67) kX1_sheetOf vX1_sheetOf lk_X11_192 ⟨Nat.le_of_ble_eq_true rfl, Nat.le_of_ble_eq_true rfl⟩ tb54 vq1 rfl rfl (hSw hK hF _ ⟨by omega, by omega⟩) dX11_tone_2.1.1.1.2 (Nat.le_of_ble_eq_true rfl) rfl ?_
          rintro r64 h ⟨hF, p64⟩
          obtain ⟨q64, z64⟩ : ∃ z : Nat, z = r64.toNat := ⟨_, rfl⟩
          rw [← z64]
          have hl : LC κ (x1 - 1).toNat = 121 := by have e : LC κ (x1 - 1).toNat = κ 42 x1.toNat := (by show κ 42 ((x1 - 1).toNat + 1) = _; rw [show (x1 - 1).toNat + 1 = x1.toNat by omega]); omega
          have hnn : ¬ noF (LC κ) (x1 - 1).toNat := fun q => by have z := (hE (x1 - 1).toNat (by omega)).mp q; omega
          have hF3 := (((p64.2.2 (by omega) (by omega)).2 (x1 - 1).toNat (by omega)).2 hnn).1
          have hqs := (p64.2.2 (by omega) (by omega)).1
          rw [show 56 + (x1 - 1).toNat + 15 = q64 + 15 by omega] at hF3
          have hb3 := PFc_b hK hV (x1 - 1).toNat
          have hxb : ∀ j : Nat, 0 ≤ XNc κ (x1 - 1).toNat j ∧ XNc κ (x1 - 1).toNat j ≤ 255 := (hRc (x1 - 1).toNat (by omega)).2.2.1
          refine cvV1 (pc' := 70) kX3_buildFloors vX3_buildFloors lk_X11_279 ⟨Nat.le_of_ble_eq_true rfl, Nat.le_of_ble_eq_true rfl⟩ tb87 vq3 rfl rfl (s_X3_buildFloorsZ hK hF _ ⟨by omega, by omega⟩ (PFc κ (x1 - 1).toNat) h hF3 hb3 Fw.rf) dX11_tone_2.1.1.2.1 (Nat.le_of_ble_eq_true rfl) rfl ?_
          rintro r67 h ⟨hF, d67, p67⟩
          refine zW_iload_n (pc' := 71) dX11_tone_2.1.1.2.2 rfl rfl ?_
          refine zW_iconst (pc' := 72) dX11_tone_2.1.2.1.1 rfl ?_
          refine zV_cm_ne (tgt := 116) (pc' := 75) dX11_tone_2.1.2.1.2 rfl rfl ⟨by omega, by omega⟩ ⟨by omega, by omega⟩ (fun c72 => ?_) (fun c72 => ?_)
          · refine zW_aload_n (pc' := 117) dX11_tone_3.2.2.1.1 rfl rfl ?_
            refine zG_ref (pc' := 120) 54 fg_X11_51 tb30 rfl dX11_tone_3.2.2.1.2 rfl ?_
            refine zG_ref (pc' := 123) 87 fg_X11_254 tb54 rfl dX11_tone_3.2.2.2.1 rfl ?_
            refine zW_iload_n (pc' := 124) dX11_tone_3.2.2.2.2 rfl rfl ?_
            refine zW_iload_n (pc' := 125) dX11_tone_4.1.1 rfl rfl ?_
            refine zW_iload (pc' := 127) dX11_tone_4.1.2 rfl rfl ?_
            refine cvI3 (pc' := 130) kX3_floorOf vX3_floorOf lk_X11_286 ⟨Nat.le_of_ble_eq_true rfl, Nat.le_of_ble_eq_true rfl⟩ tb87 vq3 rfl rfl (s_X3_floorOfZ hK hF _ ⟨by omega, by omega⟩ _ ⟨by omega, by omega, by omega⟩ _ ⟨by omega, by omega, by omega⟩ (PFc κ (x1 - 1).toNat) p67 hb3) dX11_tone_4.2.1 (Nat.le_of_ble_eq_true rfl) rfl ?_
            rintro r127 z127 ⟨hz127, p127⟩; subst z127
            exact zV_iret rfl dX11_tone_4.2.2 ⟨hF, (by unfold tnQ; rw [if_pos ⟨by omega, by omega, by omega, by omega, by omega, by omega, by omega, by omega⟩, ltV_in ⟨by omega, by omega⟩, if_pos hl, pcV_in ⟨by omega, by omega⟩, nmV_in ⟨by omega, by omega⟩]; rw [if_neg (by omega)]; exact p127.2.2)⟩
          · refine zW_aload_n (pc' := 76) dX11_tone_2.1.2.2.1 rfl rfl ?_
            refine zG_ref (pc' := 79) 54 fg_X11_51 tb30 rfl dX11_tone_2.1.2.2.2 rfl ?_
            refine zG_ref (pc' := 82) 87 fg_X11_254 tb54 rfl dX11_tone_2.2.1.1.1 rfl ?_
            refine zW_iload_n (pc' := 83) dX11_tone_2.2.1.1.2 rfl rfl ?_
            refine zW_iload (pc' := 85) dX11_tone_2.2.1.2.1 rfl rfl ?_
            refine zW_aload_n (pc' := 86) dX11_tone_2.2.1.2.2 rfl rfl ?_
            refine zG_ref (pc' := 89) 41 fg_X11_33 tb30 rfl dX11_tone_2.2.2.1.1 rfl ?_
            refine zW_iload_n (pc' := 90) dX11_tone_2.2.2.1.2 rfl rfl ?_
            refine zW_iconst (pc' := 91) dX11_tone_2.2.2.2.1 rfl ?_
            have hfl := p67
            refine cvI2 (pc' := 94) kX7_numberOf vX7_numberOf lk_X11_186 ⟨Nat.le_of_ble_eq_true rfl, Nat.le_of_ble_eq_true rfl⟩ tb41 vq7 rfl rfl (s_X7_numberOfW hK hF _ ⟨by omega, by omega, by omega⟩ _ ⟨by omega, by omega⟩ hxb) dX11_tone_2.2.2.2.2 (Nat.le_of_ble_eq_true rfl) rfl ?_
            rintro r91 z91 ⟨hz91, p91⟩; subst z91
            refine zW_aload_n (pc' := 95) dX11_tone_3.1.1.1.1 rfl rfl ?_
            refine zG_ref (pc' := 98) 41 fg_X11_33 tb30 rfl dX11_tone_3.1.1.1.2 rfl ?_
            refine zW_iload_n (pc' := 99) dX11_tone_3.1.1.2.1 rfl rfl ?_
            refine zW_iconst (pc' := 100) dX11_tone_3.1.1.2.2 rfl ?_
            refine cvI2 (pc' := 103) kX7_numberOf vX7_numberOf lk_X11_186 ⟨Nat.le_of_ble_eq_true rfl, Nat.le_of_ble_eq_true rfl⟩ tb41 vq7 rfl rfl (s_X7_numberOfW hK hF _ ⟨by omega, by omega, by omega⟩ _ ⟨by omega, by omega⟩ hxb) dX11_tone_3.1.2.1.1 (Nat.le_of_ble_eq_true rfl) rfl ?_
            rintro r100 z100 ⟨hz100, p100⟩; subst z100
            refine zW_aload_n (pc' := 104) dX11_tone_3.1.2.1.2 rfl rfl ?_
            refine zG_ref (pc' := 107) 41 fg_X11_33 tb30 rfl dX11_tone_3.1.2.2.1 rfl ?_
            refine zW_iload_n (pc' := 108) dX11_tone_3.1.2.2.2 rfl rfl ?_
            refine zW_iconst (pc' := 109) dX11_tone_3.2.1.1.1 rfl ?_
            refine cvI2 (pc' := 112) kX7_numberOf vX7_numberOf lk_X11_186 ⟨Nat.le_of_ble_eq_true rfl, Nat.le_of_ble_eq_true rfl⟩ tb41 vq7 rfl rfl (s_X7_numberOfW hK hF _ ⟨by omega, by omega, by omega⟩ _ ⟨by omega, by omega⟩ hxb) dX11_tone_3.2.1.1.2 (Nat.le_of_ble_eq_true rfl) rfl ?_
            rintro r109 z109 ⟨hz109, p109⟩; subst z109
            refine cvI5 (pc' := 115) kX3_toneOf vX3_toneOf lk_X11_283 ⟨Nat.le_of_ble_eq_true rfl, Nat.le_of_ble_eq_true rfl⟩ tb87 vq3 rfl rfl (s_X3_toneOfZ hK hF _ ⟨by omega, by omega, by omega⟩ _ ⟨by omega, by omega, by omega⟩ _ ⟨by omega, by omega⟩ _ ⟨by omega, by omega⟩ _ ⟨by omega, by omega⟩ (PFc κ (x1 - 1).toNat) p67 hb3) dX11_tone_3.2.1.2.1 (Nat.le_of_ble_eq_true rfl) rfl ?_
            rintro r112 z112 ⟨hz112, p112⟩; subst z112
            exact zV_iret rfl dX11_tone_3.2.1.2.2 ⟨hF, (by unfold tnQ; rw [if_pos ⟨by omega, by omega, by omega, by omega, by omega, by omega, by omega, by omega⟩, ltV_in ⟨by omega, by omega⟩, if_pos hl, pcV_in ⟨by omega, by omega⟩, nmV_in ⟨by omega, by omega⟩]; rw [if_pos (by omega)]; have k0 := p91.2.2; have k1 := p100.2.2; have k2 := p109.2.2; have z := p112.2.2; rw [k0, k1, k2] at z; exact z)⟩
        · refine zW_bipush (pc' := 49) dX11_tone_1.1.2.2.2 rfl rfl ?_
          exact zV_iret rfl dX11_tone_1.2.1.1.1 ⟨hF, (by have eLC : LC κ (x1 - 1).toNat = κ 42 x1.toNat := (by show κ 42 ((x1 - 1).toNat + 1) = _; rw [show (x1 - 1).toNat + 1 = x1.toNat by omega]); unfold tnQ; rw [if_pos ⟨by omega, by omega, by omega, by omega, by omega, by omega, by omega, by omega⟩, ltV_in ⟨by omega, by omega⟩, if_neg (by rw [eLC]; omega)])⟩
      · refine zW_iconst (pc' := 33) dX11_tone_0.2.2.2.2 rfl ?_
        exact zV_iret rfl dX11_tone_1.1.1.1.1 ⟨hF, (by unfold tnQ; rw [if_neg (by omega)])⟩
