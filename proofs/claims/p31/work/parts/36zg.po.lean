/-! late stages of the reference: gains, curve, pyramid -/
def gnd (v c gr gb : Int) : Int := if c = 1 then v else v * (if c = 0 then gr else gb) / 256
abbrev XR (κ : Hp) (a : Int) : Nat → Int := fun j => κ 23 (a + (j : Int)).toNat
theorem XR_at {κ : Hp} {a j : Int} (h : 0 ≤ j) : XR κ a j.toNat = κ 23 (a + j).toNat := by
  show κ 23 (a + ((j.toNat : Nat) : Int)).toNat = _
  rw [show ((j.toNat : Nat) : Int) = j by omega]

theorem sum11 {t : Int → Int → Int} : sumS t 1 1 = t 0 0 := by
  show 0 + (0 + t 0 0) = _
  omega
theorem sum21 {t : Int → Int → Int} : sumS t 2 1 = t 0 0 + t 1 0 := by
  show 0 + (0 + t 0 0 + t 1 0) = _
  omega
theorem sum12 {t : Int → Int → Int} : sumS t 1 2 = t 0 0 + t 0 1 := by
  show 0 + (0 + t 0 0) + (0 + t 0 1) = _
  omega
theorem sum22 {t : Int → Int → Int} : sumS t 2 2 = t 0 0 + t 1 0 + t 0 1 + t 1 1 := by
  show 0 + (0 + t 0 0 + t 1 0) + (0 + t 0 1 + t 1 1) = _
  omega
theorem up_sum {g : Int → Int → Int} {w h x y e d : Int} (hx : 0 ≤ x ∧ x < w ∧ x % 2 = 0) (hy : 0 ≤ y ∧ y < h ∧ y % 2 = 0) (he : (x + 1 < w ∧ e = 2) ∨ (¬ x + 1 < w ∧ e = 1)) (hd : (y + 1 < h ∧ d = 2) ∨ (¬ y + 1 < h ∧ d = 1)) : upF g w h (x / 2) (y / 2) = sumS (fun u v => g (x + u) (y + v)) e.toNat d.toNat / sumS (fun _ _ => 1) e.toNat d.toNat := by
  unfold upF
  rw [show 2 * (x / 2) = x by omega, show 2 * (y / 2) = y by omega]
  rcases he with ⟨c, rfl⟩ | ⟨c, rfl⟩ <;> rcases hd with ⟨c2, rfl⟩ | ⟨c2, rfl⟩
  · rw [if_pos c, if_pos c2, if_pos ⟨c, c2⟩, if_pos c, if_pos c2]
    show _ = sumS _ 2 2 / sumS _ 2 2
    rw [sum22, sum22]
    show _ = (g (x + 0) (y + 0) + g (x + 1) (y + 0) + g (x + 0) (y + 1) + g (x + 1) (y + 1)) / 4
    rw [show x + 0 = x by omega, show y + 0 = y by omega]; rfl
  · rw [if_pos c, if_neg c2, if_neg (fun q => c2 q.2), if_pos c, if_neg c2]
    show _ = sumS _ 2 1 / sumS _ 2 1
    rw [sum21, sum21]
    show _ = (g (x + 0) (y + 0) + g (x + 1) (y + 0)) / 2
    rw [show x + 0 = x by omega, show y + 0 = y by omega]; omega
  · rw [if_neg c, if_pos c2, if_neg (fun q => c q.1), if_neg c, if_pos c2]
    show _ = sumS _ 1 2 / sumS _ 1 2
    rw [sum12, sum12]
    show _ = (g (x + 0) (y + 0) + g (x + 0) (y + 1)) / 2
    rw [show x + 0 = x by omega, show y + 0 = y by omega]; omega
  · rw [if_neg c, if_neg c2, if_neg (fun q => c q.1), if_neg c, if_neg c2]
    show _ = sumS _ 1 1 / sumS _ 1 1
    rw [sum11, sum11]
    show _ = g (x + 0) (y + 0) / 1
    rw [show x + 0 = x by omega, show y + 0 = y by omega]; omega

abbrev q_X12_gainedZ (κ h : Hp) (x1 : Int) (x2 : Int) (gr : Int) (gb : Int) : Int → Hp → Prop := fun r h' => h' = h ∧ ((0 ≤ r) ∧ (r ≤ 16380) ∧ (r = gnd x1 x2 gr gb))
set_option maxHeartbeats 4000000 in
set_option maxRecDepth 20000 in
theorem s_X12_gainedZ {G : Ga} {b : Bd} {κ h : Hp} (hK : KR κ) (hF : Fr b κ h) (x1 : Int) (hx1 : 0 ≤ x1 ∧ x1 ≤ 4095) (x2 : Int) (hx2 : 0 ≤ x2 ∧ x2 ≤ 2) (gr : Int) (gb : Int) (hgr : h 0 44 = gr ∧ 64 ≤ gr ∧ gr ≤ 1024) (hgb : h 0 45 = gb ∧ 64 ≤ gb ∧ gb ≤ 1024) : zM G mX12_gained yX12_gained [.inr (.inr 0), .inl x1, .inl x2] h (q_X12_gainedZ κ h x1 x2 gr gb) := by
  refine zM_of [some (.inr (.inr 0)), some (.inl x1), some (.inl x2)] 0 rfl rfl (Nat.le_of_ble_eq_true rfl) rfl ?_
  refine zW_iload_n (pc' := 1) dX12_gained_0.1.1.1.1 rfl rfl ?_
  refine zW_iconst (pc' := 2) dX12_gained_0.1.1.1.2 rfl ?_
  refine zV_cm_ne (tgt := 9) (pc' := 5) dX12_gained_0.1.1.2.1 rfl rfl ⟨by omega, by omega⟩ ⟨by omega, by omega⟩ (fun c2 => ?_) (fun c2 => ?_)
  · refine zW_iload_n (pc' := 10) dX12_gained_0.1.2.1.2 rfl rfl ?_
    refine zW_iload_n (pc' := 11) dX12_gained_0.1.2.2.1 rfl rfl ?_
    refine zV_if_ne (tgt := 21) (pc' := 14) dX12_gained_0.1.2.2.2 rfl rfl ⟨by omega, by omega⟩ (fun c11 => ?_) (fun c11 => ?_)
    · refine zW_aload_n (pc' := 22) dX12_gained_0.2.1.2.2 rfl rfl ?_
      refine zG_int (pc' := 25) fg_X12_304 tb0 rfl dX12_gained_0.2.2.1.1 rfl ?_
      refine zW_imul (pc' := 26) dX12_gained_0.2.2.1.2 rfl ?_
      have q25 := mulq (a := x1) (b := h 0 44) (A := 4095) (B := 1024) ⟨by omega, by omega⟩ ⟨by omega, by omega⟩
      have q25b := mulq (a := x1) (b := h 0 45) (A := 4095) (B := 1024) ⟨by omega, by omega⟩ ⟨by omega, by omega⟩
      refine zW_sipush (pc' := 29) dX12_gained_0.2.2.2.1 rfl rfl ?_
      refine zW_idiv (pc' := 30) (by omega) (by omega) dX12_gained_0.2.2.2.2 rfl ?_
      exact zV_iret rfl dX12_gained_1 ⟨rfl, (by unfold gnd; first | (rw [if_pos (by omega)]; exact ⟨by omega, by omega, rfl⟩) | (rw [if_neg (by omega), if_pos (by omega), ← hgr.1]; exact ⟨by omega, by omega, rfl⟩) | (rw [if_neg (by omega), if_neg (by omega), ← hgb.1]; exact ⟨by omega, by omega, rfl⟩))⟩
    · refine zW_aload_n (pc' := 15) dX12_gained_0.2.1.1.1 rfl rfl ?_
      refine zG_int (pc' := 18) fg_X12_301 tb0 rfl dX12_gained_0.2.1.1.2 rfl ?_
      refine zV_goto 25 dX12_gained_0.2.1.2.1 rfl ?_
      refine zW_imul (pc' := 26) dX12_gained_0.2.2.1.2 rfl ?_
      have q25 := mulq (a := x1) (b := h 0 44) (A := 4095) (B := 1024) ⟨by omega, by omega⟩ ⟨by omega, by omega⟩
      have q25b := mulq (a := x1) (b := h 0 45) (A := 4095) (B := 1024) ⟨by omega, by omega⟩ ⟨by omega, by omega⟩
      refine zW_sipush (pc' := 29) dX12_gained_0.2.2.2.1 rfl rfl ?_
      refine zW_idiv (pc' := 30) (by omega) (by omega) dX12_gained_0.2.2.2.2 rfl ?_
      exact zV_iret rfl dX12_gained_1 ⟨rfl, (by unfold gnd; first | (rw [if_pos (by omega)]; exact ⟨by omega, by omega, rfl⟩) | (rw [if_neg (by omega), if_pos (by omega), ← hgr.1]; exact ⟨by omega, by omega, rfl⟩) | (rw [if_neg (by omega), if_neg (by omega), ← hgb.1]; exact ⟨by omega, by omega, rfl⟩))⟩
  · refine zW_iload_n (pc' := 6) dX12_gained_0.1.1.2.2 rfl rfl ?_
    refine zV_goto 30 dX12_gained_0.1.2.1.1 rfl ?_
    exact zV_iret rfl dX12_gained_1 ⟨rfl, (by unfold gnd; first | (rw [if_pos (by omega)]; exact ⟨by omega, by omega, rfl⟩) | (rw [if_neg (by omega), if_pos (by omega), ← hgr.1]; exact ⟨by omega, by omega, rfl⟩) | (rw [if_neg (by omega), if_neg (by omega), ← hgb.1]; exact ⟨by omega, by omega, rfl⟩))⟩

abbrev q_X12_curvedZ (κ h : Hp) (x1 : Int) (x2 : Int) (x3 : Int) : Int → Hp → Prop := fun r h' => h' = h ∧ ((-2100000 ≤ r) ∧ (r ≤ 2100000) ∧ (r = crv (XR κ x2) (x3 / 2) x1))
set_option maxHeartbeats 4000000 in
set_option maxRecDepth 20000 in
theorem s_X12_curvedZ {G : Ga} {b : Bd} {κ h : Hp} (hK : KR κ) (hF : Fr b.to κ h) (x1 : Int) (hx1 : 0 ≤ x1 ∧ x1 ≤ 4095) (x2 : Int) (hx2 : 0 ≤ x2 ∧ x2 ≤ 120) (x3 : Int) (hx3 : 4 ≤ x3 ∧ x3 ≤ 120) (hR : GivOK κ) (ha : x2 + x3 ≤ 120) (hc : ∀ i : Int, 0 ≤ i → x2 + 2 * i + 2 < x2 + x3 → 0 ≤ κ 23 (x2 + 2 * i).toNat ∧ κ 23 (x2 + 2 * i).toNat < κ 23 (x2 + 2 * i + 2).toNat ∧ κ 23 (x2 + 2 * i + 2).toNat ≤ 255) : zM G mX12_curved yX12_curved [.inr (.inr 0), .inl x1, .inl x2, .inl x3] h (q_X12_curvedZ κ h x1 x2 x3) := by
  have main : ∀ N : Nat, (∀ (v4 : Int) , (0 ≤ v4 ∧ v4 ≤ 60) → (2 * v4 + 4 ≤ x3) → (crI (XR κ x2) (x3 / 2) x1 70 0 = crI (XR κ x2) (x3 / 2) x1 (70 - v4).toNat v4) → 474672 + 88 * (60 - v4) + 87 < (N : Int) → zV G mX12_curved (q_X12_curvedZ κ h x1 x2 x3) 3 [some (.inr (.inr 0)), some (.inl x1), some (.inl x2), some (.inl x3), some (.inl v4), none, none, none, none] [] h) := by
    intro N
    induction N with
    | zero =>
      intro v4 g0 gc0 gc1 hm
      exfalso; omega
    | succ N ih =>
      have k3 := ih
      intro v4 g0 gc0 gc1 hm
      refine zW_iload (pc' := 5) dX12_curved_0.1.1.2.1 rfl rfl ?_
      refine zW_iconst (pc' := 6) dX12_curved_0.1.1.2.2 rfl ?_
      refine zW_iadd (pc' := 7) dX12_curved_0.1.2.1.1 rfl ?_
      refine zW_iload_n (pc' := 8) dX12_curved_0.1.2.1.2 rfl rfl ?_
      refine zW_iconst (pc' := 9) dX12_curved_0.1.2.2.1 rfl ?_
      refine zW_idiv (pc' := 10) (by omega) (by omega) dX12_curved_0.1.2.2.2 rfl ?_
      refine zV_cm_ge (tgt := 42) (pc' := 13) dX12_curved_0.2.1.1.1 rfl rfl ⟨by omega, by omega⟩ ⟨by omega, by omega⟩ (fun c10 => ?_) (fun c10 => ?_)
      · have hce : crI (XR κ x2) (x3 / 2) x1 70 0 = v4 := by rw [gc1, show (70 - v4).toNat = (69 - v4).toNat + 1 by omega]; exact crI_e (by rw [XR_at (by omega), ← Int.add_assoc]; omega)
        have hq := hc v4 (by omega) (by omega)
        refine zW_aload_n (pc' := 43) dX12_curved_1.2.2.1.1 rfl rfl ?_
        refine zG_ref (pc' := 46) 23 fg_X12_78 tb0 rfl dX12_curved_1.2.2.1.2 rfl ?_
        refine zW_iload_n (pc' := 47) dX12_curved_1.2.2.2.1 rfl rfl ?_
        refine zW_iconst (pc' := 48) dX12_curved_1.2.2.2.2 rfl ?_
        refine zW_iload (pc' := 50) dX12_curved_2.1.1.1.1 rfl rfl ?_
        refine zW_imul (pc' := 51) dX12_curved_2.1.1.1.2 rfl ?_
        refine zW_iadd (pc' := 52) dX12_curved_2.1.1.2.1 rfl ?_
        refine zA_givB (pc' := 53) hR hF (by omega) dX12_curved_2.1.1.2.2 rfl (fun e52 => ?_)
        refine zW_istore (ls' := [_, _, _, _, _, _, _, _, _]) (pc' := 55) dX12_curved_2.1.2.1.1 (by decide) rfl rfl rfl ?_
        refine zW_aload_n (pc' := 56) dX12_curved_2.1.2.1.2 rfl rfl ?_
        refine zG_ref (pc' := 59) 23 fg_X12_78 tb0 rfl dX12_curved_2.1.2.2.1 rfl ?_
        refine zW_iload_n (pc' := 60) dX12_curved_2.1.2.2.2 rfl rfl ?_
        refine zW_iconst (pc' := 61) dX12_curved_2.2.1.1.1 rfl ?_
        refine zW_iload (pc' := 63) dX12_curved_2.2.1.1.2 rfl rfl ?_
        refine zW_imul (pc' := 64) dX12_curved_2.2.1.2.1 rfl ?_
        refine zW_iadd (pc' := 65) dX12_curved_2.2.1.2.2 rfl ?_
        refine zW_iconst (pc' := 66) dX12_curved_2.2.2.1.1 rfl ?_
        refine zW_iadd (pc' := 67) dX12_curved_2.2.2.1.2 rfl ?_
        refine zA_givB (pc' := 68) hR hF (by omega) dX12_curved_2.2.2.2.1 rfl (fun e67 => ?_)
        refine zW_istore (ls' := [_, _, _, _, _, _, _, _, _]) (pc' := 70) dX12_curved_2.2.2.2.2 (by decide) rfl rfl rfl ?_
        refine zW_aload_n (pc' := 71) dX12_curved_3.1.1.1.1 rfl rfl ?_
        refine zG_ref (pc' := 74) 23 fg_X12_78 tb0 rfl dX12_curved_3.1.1.1.2 rfl ?_
        refine zW_iload_n (pc' := 75) dX12_curved_3.1.1.2.1 rfl rfl ?_
        refine zW_iconst (pc' := 76) dX12_curved_3.1.1.2.2 rfl ?_
        refine zW_iload (pc' := 78) dX12_curved_3.1.2.1.1 rfl rfl ?_
        refine zW_imul (pc' := 79) dX12_curved_3.1.2.1.2 rfl ?_
        refine zW_iadd (pc' := 80) dX12_curved_3.1.2.2.1 rfl ?_
        refine zW_iconst (pc' := 81) dX12_curved_3.1.2.2.2 rfl ?_
        refine zW_iadd (pc' := 82) dX12_curved_3.2.1.1.1 rfl ?_
        refine zA_givB (pc' := 83) hR hF (by omega) dX12_curved_3.2.1.1.2 rfl (fun e82 => ?_)
        refine zW_istore (ls' := [_, _, _, _, _, _, _, _, _]) (pc' := 85) dX12_curved_3.2.1.2.1 (by decide) rfl rfl rfl ?_
        refine zW_aload_n (pc' := 86) dX12_curved_3.2.1.2.2 rfl rfl ?_
        refine zG_ref (pc' := 89) 23 fg_X12_78 tb0 rfl dX12_curved_3.2.2.1.1 rfl ?_
        refine zW_iload_n (pc' := 90) dX12_curved_3.2.2.1.2 rfl rfl ?_
        refine zW_iconst (pc' := 91) dX12_curved_3.2.2.2.1 rfl ?_
        refine zW_iload (pc' := 93) dX12_curved_3.2.2.2.2 rfl rfl ?_
        refine zW_imul (pc' := 94) dX12_curved_4.1.1.1.1 rfl ?_
        refine zW_iadd (pc' := 95) dX12_curved_4.1.1.1.2 rfl ?_
        refine zW_iconst (pc' := 96) dX12_curved_4.1.1.2.1 rfl ?_
        refine zW_iadd (pc' := 97) dX12_curved_4.1.1.2.2 rfl ?_
        refine zA_givB (pc' := 98) hR hF (by omega) dX12_curved_4.1.2.1.1 rfl (fun e97 => ?_)
        refine zW_istore (ls' := [_, _, _, _, _, _, _, _, _]) (pc' := 100) dX12_curved_4.1.2.1.2 (by decide) rfl rfl rfl ?_
        refine zW_bipush (pc' := 102) dX12_curved_4.1.2.2.1 rfl rfl ?_
        refine zW_iload (pc' := 104) dX12_curved_4.1.2.2.2 rfl rfl ?_
        refine zW_imul (pc' := 105) dX12_curved_4.2.1.1.1 rfl ?_
        refine zW_iload_n (pc' := 106) dX12_curved_4.2.1.1.2 rfl rfl ?_
        refine zW_bipush (pc' := 108) dX12_curved_4.2.1.2.1 rfl rfl ?_
        refine zW_iload (pc' := 110) dX12_curved_4.2.1.2.2 rfl rfl ?_
        refine zW_imul (pc' := 111) dX12_curved_4.2.2.1.1 rfl ?_
        refine zW_isub (pc' := 112) dX12_curved_4.2.2.1.2 rfl ?_
        refine zW_iload (pc' := 114) dX12_curved_4.2.2.2.1 rfl rfl ?_
        refine zW_iload (pc' := 116) dX12_curved_4.2.2.2.2 rfl rfl ?_
        refine zW_isub (pc' := 117) dX12_curved_5.1.1.1 rfl ?_
        have q117 := mulS2 (a := x1 - 16 * κ 23 (x2 + 2 * v4).toNat) (b := κ 23 (x2 + 2 * v4 + 3).toNat - κ 23 (x2 + 2 * v4 + 1).toNat) (A := 4095) (B := 255) ⟨by omega, by omega⟩ ⟨by omega, by omega⟩
        refine zW_imul (pc' := 118) dX12_curved_5.1.1.2 rfl ?_
        refine zW_iload (pc' := 120) dX12_curved_5.1.2.1 rfl rfl ?_
        refine zW_iload (pc' := 122) dX12_curved_5.1.2.2 rfl rfl ?_
        refine zW_isub (pc' := 123) dX12_curved_5.2.1.1 rfl ?_
        refine zW_idivX (pc' := 124) ⟨by omega, by omega⟩ ⟨by omega, by omega⟩ dX12_curved_5.2.1.2 rfl (fun v123 t123 e123 => ?_)
        unfold rng at e123
        have b123 := tdS (a := (x1 - 16 * κ 23 (x2 + 2 * v4).toNat) * (κ 23 (x2 + 2 * v4 + 3).toNat - κ 23 (x2 + 2 * v4 + 1).toNat)) (d := κ 23 (x2 + 2 * v4 + 2).toNat - κ 23 (x2 + 2 * v4).toNat) (A := 2080000) ⟨by omega, by omega⟩ (by omega)
        rw [← t123] at b123
        refine zW_iadd (pc' := 125) dX12_curved_5.2.2.1 rfl ?_
        exact zV_iret rfl dX12_curved_5.2.2.2 ⟨rfl, (by refine ⟨by omega, by omega, ?_⟩; unfold crv; rw [hce, XR_at (by omega), XR_at (by omega), XR_at (by omega), XR_at (by omega), ← Int.add_assoc, ← Int.add_assoc, ← Int.add_assoc, ← t123])⟩
      · refine zW_iload_n (pc' := 14) dX12_curved_0.2.1.1.2 rfl rfl ?_
        refine zW_bipush (pc' := 16) dX12_curved_0.2.1.2.1 rfl rfl ?_
        refine zW_aload_n (pc' := 17) dX12_curved_0.2.1.2.2 rfl rfl ?_
        refine zG_ref (pc' := 20) 23 fg_X12_78 tb0 rfl dX12_curved_0.2.2.1.1 rfl ?_
        refine zW_iload_n (pc' := 21) dX12_curved_0.2.2.1.2 rfl rfl ?_
        refine zW_iconst (pc' := 22) dX12_curved_0.2.2.2.1 rfl ?_
        refine zW_iload (pc' := 24) dX12_curved_0.2.2.2.2 rfl rfl ?_
        refine zW_imul (pc' := 25) dX12_curved_1.1.1.1.1 rfl ?_
        refine zW_iadd (pc' := 26) dX12_curved_1.1.1.1.2 rfl ?_
        refine zW_iconst (pc' := 27) dX12_curved_1.1.1.2.1 rfl ?_
        refine zW_iadd (pc' := 28) dX12_curved_1.1.1.2.2 rfl ?_
        refine zA_givB (pc' := 29) hR hF (by omega) dX12_curved_1.1.2.1.1 rfl (fun e28 => ?_)
        refine zW_imul (pc' := 30) dX12_curved_1.1.2.1.2 rfl ?_
        refine zV_cm_lt (tgt := 42) (pc' := 33) dX12_curved_1.1.2.2.1 rfl rfl ⟨by omega, by omega⟩ ⟨by omega, by omega⟩ (fun c30 => ?_) (fun c30 => ?_)
        · have hce : crI (XR κ x2) (x3 / 2) x1 70 0 = v4 := by rw [gc1, show (70 - v4).toNat = (69 - v4).toNat + 1 by omega]; exact crI_e (by rw [XR_at (by omega), ← Int.add_assoc]; omega)
          have hq := hc v4 (by omega) (by omega)
          refine zW_aload_n (pc' := 43) dX12_curved_1.2.2.1.1 rfl rfl ?_
          refine zG_ref (pc' := 46) 23 fg_X12_78 tb0 rfl dX12_curved_1.2.2.1.2 rfl ?_
          refine zW_iload_n (pc' := 47) dX12_curved_1.2.2.2.1 rfl rfl ?_
          refine zW_iconst (pc' := 48) dX12_curved_1.2.2.2.2 rfl ?_
          refine zW_iload (pc' := 50) dX12_curved_2.1.1.1.1 rfl rfl ?_
          refine zW_imul (pc' := 51) dX12_curved_2.1.1.1.2 rfl ?_
          refine zW_iadd (pc' := 52) dX12_curved_2.1.1.2.1 rfl ?_
          refine zA_givB (pc' := 53) hR hF (by omega) dX12_curved_2.1.1.2.2 rfl (fun e52 => ?_)
          refine zW_istore (ls' := [_, _, _, _, _, _, _, _, _]) (pc' := 55) dX12_curved_2.1.2.1.1 (by decide) rfl rfl rfl ?_
          refine zW_aload_n (pc' := 56) dX12_curved_2.1.2.1.2 rfl rfl ?_
          refine zG_ref (pc' := 59) 23 fg_X12_78 tb0 rfl dX12_curved_2.1.2.2.1 rfl ?_
          refine zW_iload_n (pc' := 60) dX12_curved_2.1.2.2.2 rfl rfl ?_
          refine zW_iconst (pc' := 61) dX12_curved_2.2.1.1.1 rfl ?_
          refine zW_iload (pc' := 63) dX12_curved_2.2.1.1.2 rfl rfl ?_
          refine zW_imul (pc' := 64) dX12_curved_2.2.1.2.1 rfl ?_
          refine zW_iadd (pc' := 65) dX12_curved_2.2.1.2.2 rfl ?_
          refine zW_iconst (pc' := 66) dX12_curved_2.2.2.1.1 rfl ?_
          refine zW_iadd (pc' := 67) dX12_curved_2.2.2.1.2 rfl ?_
          refine zA_givB (pc' := 68) hR hF (by omega) dX12_curved_2.2.2.2.1 rfl (fun e67 => ?_)
          refine zW_istore (ls' := [_, _, _, _, _, _, _, _, _]) (pc' := 70) dX12_curved_2.2.2.2.2 (by decide) rfl rfl rfl ?_
          refine zW_aload_n (pc' := 71) dX12_curved_3.1.1.1.1 rfl rfl ?_
          refine zG_ref (pc' := 74) 23 fg_X12_78 tb0 rfl dX12_curved_3.1.1.1.2 rfl ?_
          refine zW_iload_n (pc' := 75) dX12_curved_3.1.1.2.1 rfl rfl ?_
          refine zW_iconst (pc' := 76) dX12_curved_3.1.1.2.2 rfl ?_
          refine zW_iload (pc' := 78) dX12_curved_3.1.2.1.1 rfl rfl ?_
          refine zW_imul (pc' := 79) dX12_curved_3.1.2.1.2 rfl ?_
          refine zW_iadd (pc' := 80) dX12_curved_3.1.2.2.1 rfl ?_
          refine zW_iconst (pc' := 81) dX12_curved_3.1.2.2.2 rfl ?_
          refine zW_iadd (pc' := 82) dX12_curved_3.2.1.1.1 rfl ?_
          refine zA_givB (pc' := 83) hR hF (by omega) dX12_curved_3.2.1.1.2 rfl (fun e82 => ?_)
          refine zW_istore (ls' := [_, _, _, _, _, _, _, _, _]) (pc' := 85) dX12_curved_3.2.1.2.1 (by decide) rfl rfl rfl ?_
          refine zW_aload_n (pc' := 86) dX12_curved_3.2.1.2.2 rfl rfl ?_
          refine zG_ref (pc' := 89) 23 fg_X12_78 tb0 rfl dX12_curved_3.2.2.1.1 rfl ?_
          refine zW_iload_n (pc' := 90) dX12_curved_3.2.2.1.2 rfl rfl ?_
          refine zW_iconst (pc' := 91) dX12_curved_3.2.2.2.1 rfl ?_
          refine zW_iload (pc' := 93) dX12_curved_3.2.2.2.2 rfl rfl ?_
          refine zW_imul (pc' := 94) dX12_curved_4.1.1.1.1 rfl ?_
          refine zW_iadd (pc' := 95) dX12_curved_4.1.1.1.2 rfl ?_
          refine zW_iconst (pc' := 96) dX12_curved_4.1.1.2.1 rfl ?_
          refine zW_iadd (pc' := 97) dX12_curved_4.1.1.2.2 rfl ?_
          refine zA_givB (pc' := 98) hR hF (by omega) dX12_curved_4.1.2.1.1 rfl (fun e97 => ?_)
          refine zW_istore (ls' := [_, _, _, _, _, _, _, _, _]) (pc' := 100) dX12_curved_4.1.2.1.2 (by decide) rfl rfl rfl ?_
          refine zW_bipush (pc' := 102) dX12_curved_4.1.2.2.1 rfl rfl ?_
          refine zW_iload (pc' := 104) dX12_curved_4.1.2.2.2 rfl rfl ?_
          refine zW_imul (pc' := 105) dX12_curved_4.2.1.1.1 rfl ?_
          refine zW_iload_n (pc' := 106) dX12_curved_4.2.1.1.2 rfl rfl ?_
          refine zW_bipush (pc' := 108) dX12_curved_4.2.1.2.1 rfl rfl ?_
          refine zW_iload (pc' := 110) dX12_curved_4.2.1.2.2 rfl rfl ?_
          refine zW_imul (pc' := 111) dX12_curved_4.2.2.1.1 rfl ?_
          refine zW_isub (pc' := 112) dX12_curved_4.2.2.1.2 rfl ?_
          refine zW_iload (pc' := 114) dX12_curved_4.2.2.2.1 rfl rfl ?_
          refine zW_iload (pc' := 116) dX12_curved_4.2.2.2.2 rfl rfl ?_
          refine zW_isub (pc' := 117) dX12_curved_5.1.1.1 rfl ?_
          have q117 := mulS2 (a := x1 - 16 * κ 23 (x2 + 2 * v4).toNat) (b := κ 23 (x2 + 2 * v4 + 3).toNat - κ 23 (x2 + 2 * v4 + 1).toNat) (A := 4095) (B := 255) ⟨by omega, by omega⟩ ⟨by omega, by omega⟩
          refine zW_imul (pc' := 118) dX12_curved_5.1.1.2 rfl ?_
          refine zW_iload (pc' := 120) dX12_curved_5.1.2.1 rfl rfl ?_
          refine zW_iload (pc' := 122) dX12_curved_5.1.2.2 rfl rfl ?_
          refine zW_isub (pc' := 123) dX12_curved_5.2.1.1 rfl ?_
          refine zW_idivX (pc' := 124) ⟨by omega, by omega⟩ ⟨by omega, by omega⟩ dX12_curved_5.2.1.2 rfl (fun v123 t123 e123 => ?_)
          unfold rng at e123
          have b123 := tdS (a := (x1 - 16 * κ 23 (x2 + 2 * v4).toNat) * (κ 23 (x2 + 2 * v4 + 3).toNat - κ 23 (x2 + 2 * v4 + 1).toNat)) (d := κ 23 (x2 + 2 * v4 + 2).toNat - κ 23 (x2 + 2 * v4).toNat) (A := 2080000) ⟨by omega, by omega⟩ (by omega)
          rw [← t123] at b123
          refine zW_iadd (pc' := 125) dX12_curved_5.2.2.1 rfl ?_
          exact zV_iret rfl dX12_curved_5.2.2.2 ⟨rfl, (by refine ⟨by omega, by omega, ?_⟩; unfold crv; rw [hce, XR_at (by omega), XR_at (by omega), XR_at (by omega), XR_at (by omega), ← Int.add_assoc, ← Int.add_assoc, ← Int.add_assoc, ← t123])⟩
        · have hcs := crI_s (X := (XR κ x2)) (m := (x3 / 2)) (v := x1) (i := v4) (k := (69 - v4).toNat) ⟨by omega, by rw [XR_at (by omega), ← Int.add_assoc]; omega⟩
          refine zW_iload (pc' := 35) dX12_curved_1.1.2.2.2 rfl rfl ?_
          refine zW_iconst (pc' := 36) dX12_curved_1.2.1.1.1 rfl ?_
          refine zW_iadd (pc' := 37) dX12_curved_1.2.1.1.2 rfl ?_
          refine zW_istore (ls' := [_, _, _, _, _, _, _, _, _]) (pc' := 39) dX12_curved_1.2.1.2.1 (by decide) rfl rfl rfl ?_
          refine zV_goto 3 dX12_curved_1.2.1.2.2 rfl ?_
          exact k3 _ (by omega) (by omega) (by first | rfl | (rw [gc1, show (70 - v4).toNat = (69 - v4).toNat + 1 by omega, hcs, show (69 - v4).toNat = (70 - (v4 + 1)).toNat by omega])) (by omega)
  refine zM_of [some (.inr (.inr 0)), some (.inl x1), some (.inl x2), some (.inl x3), none, none, none, none, none] 5 rfl rfl (Nat.le_of_ble_eq_true rfl) rfl ?_
  refine zW_iconst (pc' := 1) dX12_curved_0.1.1.1.1 rfl ?_
  refine zW_istore (ls' := [_, _, _, _, _, _, _, _, _]) (pc' := 3) dX12_curved_0.1.1.1.2 (by decide) rfl rfl rfl ?_
  exact (main 10000000000000000000000000000000000000000) _ (by omega) (by omega) (by first | rfl | (rw [gc1, show (70 - v4).toNat = (69 - v4).toNat + 1 by omega, hcs, show (69 - v4).toNat = (70 - (v4 + 1)).toNat by omega])) (by omega)

abbrev q_X12_floorAtZ (κ h : Hp) (x1 : Int) (x2 : Int) (x3 : Int) (F : P3) : Int → Hp → Prop := fun r h' => h' = h ∧ ((0 ≤ r) ∧ (r ≤ 4095) ∧ (r = flo (κ 0 11) (κ 0 12) F x1.toNat (x2 / 2 ^ x1.toNat) (x3 / 2 ^ x1.toNat)))
set_option maxHeartbeats 4000000 in
set_option maxRecDepth 20000 in
theorem s_X12_floorAtZ {G : Ga} {b : Bd} {κ h : Hp} (hK : KR κ) (hF : Fr b κ h) (x1 : Int) (hx1 : 0 ≤ x1 ∧ x1 ≤ 3) (x2 : Int) (hx2 : 0 ≤ x2 ∧ x2 ≤ 15 ∧ x2 - κ 0 11 ≤ -1) (x3 : Int) (hx3 : 0 ≤ x3 ∧ x3 ≤ 15 ∧ x3 - κ 0 12 ≤ -1) (F : P3) (hfl : ∀ k : Nat, (k : Int) ≤ 3 → PlS (hfN k (κ 0 11)) (hfN k (κ 0 12)) (h 22) k (flo (κ 0 11) (κ 0 12) F k)) (hb3 : FB3 (κ 0 11) (κ 0 12) F) : zM G mX12_floorAt yX12_floorAt [.inr (.inr 0), .inl x1, .inl x2, .inl x3] h (q_X12_floorAtZ κ h x1 x2 x3 F) := by
  have f_0_11 := KRw hK
  have f_0_12 := KRh hK
  refine zM_of [some (.inr (.inr 0)), some (.inl x1), some (.inl x2), some (.inl x3)] 0 rfl rfl (Nat.le_of_ble_eq_true rfl) rfl ?_
  refine zW_aload_n (pc' := 1) dX12_floorAt_0.1.1.1.1 rfl rfl ?_
  refine zG_ref (pc' := 4) 22 fg_X12_75 tb0 rfl dX12_floorAt_0.1.1.1.2 rfl ?_
  refine zW_sipush (pc' := 7) dX12_floorAt_0.1.1.2.1 rfl rfl ?_
  refine zW_iload_n (pc' := 8) dX12_floorAt_0.1.1.2.2 rfl rfl ?_
  refine zW_imul (pc' := 9) dX12_floorAt_0.1.2.1.1 rfl ?_
  refine zW_bipush (pc' := 11) dX12_floorAt_0.1.2.1.2 rfl rfl ?_
  refine zW_iload_n (pc' := 12) dX12_floorAt_0.1.2.2.1 rfl rfl ?_
  refine zW_iload_n (pc' := 13) dX12_floorAt_0.1.2.2.2 rfl rfl ?_
  refine zW_ishrN (pc' := 14) (by omega) (by omega) dX12_floorAt_0.2.1.1.1 rfl (fun v13 e13 => ?_)
  refine zW_imul (pc' := 15) dX12_floorAt_0.2.1.1.2 rfl ?_
  refine zW_iadd (pc' := 16) dX12_floorAt_0.2.1.2.1 rfl ?_
  refine zW_iload_n (pc' := 17) dX12_floorAt_0.2.1.2.2 rfl rfl ?_
  refine zW_iload_n (pc' := 18) dX12_floorAt_0.2.2.1.1 rfl rfl ?_
  refine zW_ishrN (pc' := 19) (by omega) (by omega) dX12_floorAt_0.2.2.1.2 rfl (fun v18 e18 => ?_)
  refine zW_iadd (pc' := 20) dX12_floorAt_0.2.2.2.1 rfl ?_
  refine zV_ialdI (pc' := 21) hF (by decide) (by decide) tb22 (by omega) dX12_floorAt_0.2.2.2.2 (by decide) rfl (fun e20 => ?_)
  have m1 := hfN_lt (n := κ 0 11) (x := x2) ⟨by omega, by omega⟩ x1.toNat (by omega)
  have m2 := hfN_lt (n := κ 0 12) (x := x3) ⟨by omega, by omega⟩ x1.toNat (by omega)
  have i1 := e18.2.2
  have i2 := e13.2.2
  rw [← i1] at m1
  rw [← i2] at m2
  have q20 : h 22 (256 * x1 + 16 * v13 + v18).toNat = flo (κ 0 11) (κ 0 12) F x1.toNat v18 v13 := (hfl x1.toNat (by omega)).at (i := 256 * x1 + 16 * v13 + v18) (x := v18) (y := v13) ⟨m1.1, m1.2, m2.1, m2.2⟩ (by omega)
  have b20 := flo_b hb3 x1.toNat v18 v13 ⟨m1.1, m1.2, m2.1, m2.2⟩
  rw [← q20] at b20
  have r20 := q20
  rw [i1, i2] at r20
  exact zV_iret rfl dX12_floorAt_1 ⟨rfl, ⟨by omega, by omega, by first | exact r20 | (rw [q20, i1, i2])⟩⟩

abbrev q_X12_toneAtZ (κ h : Hp) (x1 : Int) (x2 : Int) (x3 : Int) (F : P3) : Int → Hp → Prop := fun r h' => h' = h ∧ ((-300000 ≤ r) ∧ (r ≤ 300000) ∧ (r = tnF (κ 0 11) (κ 0 12) F (κ 23 (x3).toNat) (κ 23 (x3 + 1).toNat) (κ 23 (x3 + 2).toNat) x1 x2))
set_option maxHeartbeats 4000000 in
set_option maxRecDepth 20000 in
theorem s_X12_toneAtZ {G : Ga} {b : Bd} {κ h : Hp} (hK : KR κ) (hF : Fr b.to κ h) (x1 : Int) (hx1 : 0 ≤ x1 ∧ x1 ≤ 15 ∧ x1 - κ 0 11 ≤ -1) (x2 : Int) (hx2 : 0 ≤ x2 ∧ x2 ≤ 15 ∧ x2 - κ 0 12 ≤ -1) (x3 : Int) (hx3 : 0 ≤ x3 ∧ x3 ≤ 120) (F : P3) (hR : GivOK κ) (hfl : ∀ k : Nat, (k : Int) ≤ 3 → PlS (hfN k (κ 0 11)) (hfN k (κ 0 12)) (h 22) k (flo (κ 0 11) (κ 0 12) F k)) (hb3 : FB3 (κ 0 11) (κ 0 12) F) : zM G mX12_toneAt yX12_toneAt [.inr (.inr 0), .inl x1, .inl x2, .inl x3] h (q_X12_toneAtZ κ h x1 x2 x3 F) := by
  have f_0_11 := KRw hK
  have f_0_12 := KRh hK
  refine zM_of [some (.inr (.inr 0)), some (.inl x1), some (.inl x2), some (.inl x3), none, none, none] 3 rfl rfl (Nat.le_of_ble_eq_true rfl) rfl ?_
  refine zW_aload_n (pc' := 1) dX12_toneAt_0.1.1.1.1 rfl rfl ?_
  refine zW_iconst (pc' := 2) dX12_toneAt_0.1.1.1.2 rfl ?_
  refine zW_iload_n (pc' := 3) dX12_toneAt_0.1.1.2.1 rfl rfl ?_
  refine zW_iload_n (pc' := 4) dX12_toneAt_0.1.1.2.2 rfl rfl ?_
  refine cvI3 (pc' := 7) kX12_floorAt vX12_floorAt lk_X12_316 ⟨Nat.le_of_ble_eq_true rfl, Nat.le_of_ble_eq_true rfl⟩ tb0 vq12 rfl rfl (s_X12_floorAtZ hK hF _ ⟨by omega, by omega⟩ _ ⟨by omega, by omega, by omega⟩ _ ⟨by omega, by omega, by omega⟩ F (by omega) (by omega)) dX12_toneAt_0.1.2.1.1 (Nat.le_of_ble_eq_true rfl) rfl ?_
  rintro r4 z4 ⟨hz4, p4⟩; subst z4
  refine zW_aload_n (pc' := 8) dX12_toneAt_0.1.2.1.2 rfl rfl ?_
  refine zW_iconst (pc' := 9) dX12_toneAt_0.1.2.2.1 rfl ?_
  refine zW_iload_n (pc' := 10) dX12_toneAt_0.1.2.2.2 rfl rfl ?_
  refine zW_iload_n (pc' := 11) dX12_toneAt_0.2.1.1.1 rfl rfl ?_
  refine cvI3 (pc' := 14) kX12_floorAt vX12_floorAt lk_X12_316 ⟨Nat.le_of_ble_eq_true rfl, Nat.le_of_ble_eq_true rfl⟩ tb0 vq12 rfl rfl (s_X12_floorAtZ hK hF _ ⟨by omega, by omega⟩ _ ⟨by omega, by omega, by omega⟩ _ ⟨by omega, by omega, by omega⟩ F (by omega) (by omega)) dX12_toneAt_0.2.1.1.2 (Nat.le_of_ble_eq_true rfl) rfl ?_
  rintro r11 z11 ⟨hz11, p11⟩; subst z11
  refine zW_isub (pc' := 15) dX12_toneAt_0.2.1.2.1 rfl ?_
  have k4 : r4 = flo (κ 0 11) (κ 0 12) F 0 x1 x2 := by have z := p4.2.2; rw [show x1 / 2 ^ (0 : Int).toNat = x1 by show x1 / 1 = x1; omega, show x2 / 2 ^ (0 : Int).toNat = x2 by show x2 / 1 = x2; omega] at z; exact z
  have k11 : r11 = flo (κ 0 11) (κ 0 12) F 1 (x1 / 2) (x2 / 2) := p11.2.2
  refine zW_aload_n (pc' := 16) dX12_toneAt_0.2.1.2.2 rfl rfl ?_
  refine zG_ref (pc' := 19) 23 fg_X12_78 tb0 rfl dX12_toneAt_0.2.2.1.1 rfl ?_
  refine zW_iload_n (pc' := 20) dX12_toneAt_0.2.2.1.2 rfl rfl ?_
  refine zA_givB (pc' := 21) hR hF (by omega) dX12_toneAt_0.2.2.2.1 rfl (fun e20 => ?_)
  refine zW_imul (pc' := 22) dX12_toneAt_0.2.2.2.2 rfl ?_
  have q21 := mulS (a := r4 - r11) (b := κ 23 (x3).toNat) (A := 4095) (B := 255) ⟨by omega, by omega⟩ ⟨by omega, by omega⟩
  refine zW_bipush (pc' := 24) dX12_toneAt_1.1.1.1.1 rfl rfl ?_
  refine zW_idivS (pc' := 25) ⟨by omega, by omega⟩ (by omega) dX12_toneAt_1.1.1.1.2 rfl (fun v24 e24 => ?_)
  refine zW_istore (ls' := [_, _, _, _, _, _, _]) (pc' := 27) dX12_toneAt_1.1.1.2.1 (by decide) rfl rfl rfl ?_
  refine zW_aload_n (pc' := 28) dX12_toneAt_1.1.1.2.2 rfl rfl ?_
  refine zW_iconst (pc' := 29) dX12_toneAt_1.1.2.1.1 rfl ?_
  refine zW_iload_n (pc' := 30) dX12_toneAt_1.1.2.1.2 rfl rfl ?_
  refine zW_iload_n (pc' := 31) dX12_toneAt_1.1.2.2.1 rfl rfl ?_
  refine cvI3 (pc' := 34) kX12_floorAt vX12_floorAt lk_X12_316 ⟨Nat.le_of_ble_eq_true rfl, Nat.le_of_ble_eq_true rfl⟩ tb0 vq12 rfl rfl (s_X12_floorAtZ hK hF _ ⟨by omega, by omega⟩ _ ⟨by omega, by omega, by omega⟩ _ ⟨by omega, by omega, by omega⟩ F (by omega) (by omega)) dX12_toneAt_1.1.2.2.2 (Nat.le_of_ble_eq_true rfl) rfl ?_
  rintro r31 z31 ⟨hz31, p31⟩; subst z31
  refine zW_aload_n (pc' := 35) dX12_toneAt_1.2.1.1.1 rfl rfl ?_
  refine zW_iconst (pc' := 36) dX12_toneAt_1.2.1.1.2 rfl ?_
  refine zW_iload_n (pc' := 37) dX12_toneAt_1.2.1.2.1 rfl rfl ?_
  refine zW_iload_n (pc' := 38) dX12_toneAt_1.2.1.2.2 rfl rfl ?_
  refine cvI3 (pc' := 41) kX12_floorAt vX12_floorAt lk_X12_316 ⟨Nat.le_of_ble_eq_true rfl, Nat.le_of_ble_eq_true rfl⟩ tb0 vq12 rfl rfl (s_X12_floorAtZ hK hF _ ⟨by omega, by omega⟩ _ ⟨by omega, by omega, by omega⟩ _ ⟨by omega, by omega, by omega⟩ F (by omega) (by omega)) dX12_toneAt_1.2.2.1.1 (Nat.le_of_ble_eq_true rfl) rfl ?_
  rintro r38 z38 ⟨hz38, p38⟩; subst z38
  refine zW_isub (pc' := 42) dX12_toneAt_1.2.2.1.2 rfl ?_
  have k31 : r31 = flo (κ 0 11) (κ 0 12) F 1 (x1 / 2) (x2 / 2) := p31.2.2
  have k38 : r38 = flo (κ 0 11) (κ 0 12) F 2 (x1 / 4) (x2 / 4) := p38.2.2
  refine zW_aload_n (pc' := 43) dX12_toneAt_1.2.2.2.1 rfl rfl ?_
  refine zG_ref (pc' := 46) 23 fg_X12_78 tb0 rfl dX12_toneAt_1.2.2.2.2 rfl ?_
  refine zW_iload_n (pc' := 47) dX12_toneAt_2.1.1.1.1 rfl rfl ?_
  refine zW_iconst (pc' := 48) dX12_toneAt_2.1.1.1.2 rfl ?_
  refine zW_iadd (pc' := 49) dX12_toneAt_2.1.1.2.1 rfl ?_
  refine zA_givB (pc' := 50) hR hF (by omega) dX12_toneAt_2.1.1.2.2 rfl (fun e49 => ?_)
  refine zW_imul (pc' := 51) dX12_toneAt_2.1.2.1.1 rfl ?_
  have q50 := mulS (a := r31 - r38) (b := κ 23 (x3 + 1).toNat) (A := 4095) (B := 255) ⟨by omega, by omega⟩ ⟨by omega, by omega⟩
  refine zW_bipush (pc' := 53) dX12_toneAt_2.1.2.1.2 rfl rfl ?_
  refine zW_idivS (pc' := 54) ⟨by omega, by omega⟩ (by omega) dX12_toneAt_2.1.2.2.1 rfl (fun v53 e53 => ?_)
  refine zW_istore (ls' := [_, _, _, _, _, _, _]) (pc' := 56) dX12_toneAt_2.1.2.2.2 (by decide) rfl rfl rfl ?_
  refine zW_aload_n (pc' := 57) dX12_toneAt_2.2.1.1.1 rfl rfl ?_
  refine zW_iconst (pc' := 58) dX12_toneAt_2.2.1.1.2 rfl ?_
  refine zW_iload_n (pc' := 59) dX12_toneAt_2.2.1.2.1 rfl rfl ?_
  refine zW_iload_n (pc' := 60) dX12_toneAt_2.2.1.2.2 rfl rfl ?_
  refine cvI3 (pc' := 63) kX12_floorAt vX12_floorAt lk_X12_316 ⟨Nat.le_of_ble_eq_true rfl, Nat.le_of_ble_eq_true rfl⟩ tb0 vq12 rfl rfl (s_X12_floorAtZ hK hF _ ⟨by omega, by omega⟩ _ ⟨by omega, by omega, by omega⟩ _ ⟨by omega, by omega, by omega⟩ F (by omega) (by omega)) dX12_toneAt_2.2.2.1.1 (Nat.le_of_ble_eq_true rfl) rfl ?_
  rintro r60 z60 ⟨hz60, p60⟩; subst z60
  refine zW_aload_n (pc' := 64) dX12_toneAt_2.2.2.1.2 rfl rfl ?_
  refine zW_iconst (pc' := 65) dX12_toneAt_2.2.2.2.1 rfl ?_
  refine zW_iload_n (pc' := 66) dX12_toneAt_2.2.2.2.2 rfl rfl ?_
  refine zW_iload_n (pc' := 67) dX12_toneAt_3.1.1.1.1 rfl rfl ?_
  refine cvI3 (pc' := 70) kX12_floorAt vX12_floorAt lk_X12_316 ⟨Nat.le_of_ble_eq_true rfl, Nat.le_of_ble_eq_true rfl⟩ tb0 vq12 rfl rfl (s_X12_floorAtZ hK hF _ ⟨by omega, by omega⟩ _ ⟨by omega, by omega, by omega⟩ _ ⟨by omega, by omega, by omega⟩ F (by omega) (by omega)) dX12_toneAt_3.1.1.1.2 (Nat.le_of_ble_eq_true rfl) rfl ?_
  rintro r67 z67 ⟨hz67, p67⟩; subst z67
  refine zW_isub (pc' := 71) dX12_toneAt_3.1.1.2.1 rfl ?_
  have k60 : r60 = flo (κ 0 11) (κ 0 12) F 2 (x1 / 4) (x2 / 4) := p60.2.2
  have k67 : r67 = flo (κ 0 11) (κ 0 12) F 3 (x1 / 8) (x2 / 8) := p67.2.2
  refine zW_aload_n (pc' := 72) dX12_toneAt_3.1.1.2.2 rfl rfl ?_
  refine zG_ref (pc' := 75) 23 fg_X12_78 tb0 rfl dX12_toneAt_3.1.2.1.1 rfl ?_
  refine zW_iload_n (pc' := 76) dX12_toneAt_3.1.2.1.2 rfl rfl ?_
  refine zW_iconst (pc' := 77) dX12_toneAt_3.1.2.2.1 rfl ?_
  refine zW_iadd (pc' := 78) dX12_toneAt_3.1.2.2.2 rfl ?_
  refine zA_givB (pc' := 79) hR hF (by omega) dX12_toneAt_3.2.1.1.1 rfl (fun e78 => ?_)
  refine zW_imul (pc' := 80) dX12_toneAt_3.2.1.1.2 rfl ?_
  have q79 := mulS (a := r60 - r67) (b := κ 23 (x3 + 2).toNat) (A := 4095) (B := 255) ⟨by omega, by omega⟩ ⟨by omega, by omega⟩
  refine zW_bipush (pc' := 82) dX12_toneAt_3.2.1.2.1 rfl rfl ?_
  refine zW_idivS (pc' := 83) ⟨by omega, by omega⟩ (by omega) dX12_toneAt_3.2.1.2.2 rfl (fun v82 e82 => ?_)
  refine zW_istore (ls' := [_, _, _, _, _, _, _]) (pc' := 85) dX12_toneAt_3.2.2.1.1 (by decide) rfl rfl rfl ?_
  refine zW_aload_n (pc' := 86) dX12_toneAt_3.2.2.1.2 rfl rfl ?_
  refine zW_iconst (pc' := 87) dX12_toneAt_3.2.2.2.1 rfl ?_
  refine zW_iload_n (pc' := 88) dX12_toneAt_3.2.2.2.2 rfl rfl ?_
  refine zW_iload_n (pc' := 89) dX12_toneAt_4.1.1.1.1 rfl rfl ?_
  refine cvI3 (pc' := 92) kX12_floorAt vX12_floorAt lk_X12_316 ⟨Nat.le_of_ble_eq_true rfl, Nat.le_of_ble_eq_true rfl⟩ tb0 vq12 rfl rfl (s_X12_floorAtZ hK hF _ ⟨by omega, by omega⟩ _ ⟨by omega, by omega, by omega⟩ _ ⟨by omega, by omega, by omega⟩ F (by omega) (by omega)) dX12_toneAt_4.1.1.1.2 (Nat.le_of_ble_eq_true rfl) rfl ?_
  rintro r89 z89 ⟨hz89, p89⟩; subst z89
  have k89 : r89 = flo (κ 0 11) (κ 0 12) F 3 (x1 / 8) (x2 / 8) := p89.2.2
  refine zW_iload (pc' := 94) dX12_toneAt_4.1.1.2 rfl rfl ?_
  refine zW_iadd (pc' := 95) dX12_toneAt_4.1.2.1 rfl ?_
  refine zW_iload (pc' := 97) dX12_toneAt_4.1.2.2 rfl rfl ?_
  refine zW_iadd (pc' := 98) dX12_toneAt_4.2.1.1 rfl ?_
  refine zW_iload (pc' := 100) dX12_toneAt_4.2.1.2 rfl rfl ?_
  refine zW_iadd (pc' := 101) dX12_toneAt_4.2.2.1 rfl ?_
  exact zV_iret rfl dX12_toneAt_4.2.2.2 ⟨rfl, (by have t1 := tdc (a := (r4 - r11) * κ 23 (x3).toNat) (d := 16) (by omega); have t2 := tdc (a := (r31 - r38) * κ 23 (x3 + 1).toNat) (d := 16) (by omega); have t3 := tdc (a := (r60 - r67) * κ 23 (x3 + 2).toNat) (d := 16) (by omega); refine ⟨by omega, by omega, ?_⟩; unfold tnF; rw [← k4, ← k11, ← k38, ← k67, show r11 = r31 by omega, show r38 = r60 by omega] at *; omega)⟩

abbrev q_X12_togetherZ (κ h : Hp) (x1 : Int) (x2 : Int) (x3 : Int) (x4 : Int) (x5 : Int) (g : Int → Int → Int) : Int → Hp → Prop := fun r h' => h' = h ∧ ((0 ≤ r) ∧ (r ≤ 65520) ∧ (r = upF g x4 x5 (x2 / 2) (x3 / 2)))
set_option maxHeartbeats 4000000 in
set_option maxRecDepth 20000 in
theorem s_X12_togetherZ {G : Ga} {b : Bd} {κ h : Hp} (hF : Fr b κ h) (x1 : Int) (hx1 : 0 ≤ x1 ∧ x1 ≤ 2) (x2 : Int) (hx2 : 0 ≤ x2 ∧ x2 ≤ 15) (x3 : Int) (hx3 : 0 ≤ x3 ∧ x3 ≤ 15) (x4 : Int) (hx4 : 1 ≤ x4 ∧ x4 ≤ 16) (x5 : Int) (hx5 : 1 ≤ x5 ∧ x5 ≤ 16) (g : Int → Int → Int) (hxw : x2 < x4) (hyh : x3 < x5) (hxe : x2 % 2 = 0) (hye : x3 % 2 = 0) (hg : PlS x4 x5 (h 22) x1 g) (hgb : FB x4 x5 g) : zM G mX12_together yX12_together [.inr (.inr 0), .inl x1, .inl x2, .inl x3, .inl x4, .inl x5] h (q_X12_togetherZ κ h x1 x2 x3 x4 x5 g) := by
  obtain ⟨ew, hew⟩ : ∃ e : Int, (x2 + 1 < x4 ∧ e = 2) ∨ (¬ x2 + 1 < x4 ∧ e = 1) := by (by_cases c : x2 + 1 < x4; exact ⟨2, Or.inl ⟨c, rfl⟩⟩; exact ⟨1, Or.inr ⟨c, rfl⟩⟩)
  obtain ⟨eh, heh⟩ : ∃ e : Int, (x3 + 1 < x5 ∧ e = 2) ∨ (¬ x3 + 1 < x5 ∧ e = 1) := by (by_cases c : x3 + 1 < x5; exact ⟨2, Or.inl ⟨c, rfl⟩⟩; exact ⟨1, Or.inr ⟨c, rfl⟩⟩)
  have main : ∀ N : Nat, (∀ (v6 v7 v8 : Int) , (0 ≤ v6 ∧ v6 ≤ 16380) → (0 ≤ v7 ∧ v7 ≤ 4) → (0 ≤ v8 ∧ v8 ≤ 16) → (v6 = sumS (fun u v => g (x2 + u) (x3 + v)) ew.toNat (v8 - x3).toNat) → (v7 = sumS (fun _ _ => (1 : Int)) ew.toNat (v8 - x3).toNat) → (x3 ≤ v8 ∧ v8 ≤ x3 + eh) → (v6 ≤ 8190 * (v8 - x3)) → (v8 - x3 ≤ v7 ∧ v7 ≤ 2 * (v8 - x3)) → 20528640 + 25920 * (16 - v8) + 25344 < (N : Int) → zV G mX12_together (q_X12_togetherZ κ h x1 x2 x3 x4 x5 g) 9 [some (.inr (.inr 0)), some (.inl x1), some (.inl x2), some (.inl x3), some (.inl x4), some (.inl x5), some (.inl v6), some (.inl v7), some (.inl v8), none] [] h) ∧ (∀ (v6 v7 v8 v9 : Int) , (0 ≤ v6 ∧ v6 ≤ 16380) → (0 ≤ v7 ∧ v7 ≤ 4) → (0 ≤ v8 ∧ v8 ≤ 15) → (0 ≤ v9 ∧ v9 ≤ 16) → (v6 = sumS (fun u v => g (x2 + u) (x3 + v)) ew.toNat (v8 - x3).toNat + sumR (fun u v => g (x2 + u) (x3 + v)) (v8 - x3) (v9 - x2).toNat) → (v7 = sumS (fun _ _ => (1 : Int)) ew.toNat (v8 - x3).toNat + sumR (fun _ _ => (1 : Int)) (v8 - x3) (v9 - x2).toNat) → (x3 ≤ v8 ∧ v8 < x3 + eh) → (x2 ≤ v9 ∧ v9 ≤ x2 + ew) → (v6 ≤ 8190 * (v8 - x3) + 4095 * (v9 - x2)) → (v8 - x3 ≤ v7 ∧ v9 - x2 + (v8 - x3) ≤ v7 ∧ v7 ≤ 2 * (v8 - x3) + (v9 - x2)) → 20528640 + 25920 * (16 - v8) + 17856 + 32 * (16 - v9) + 31 < (N : Int) → zV G mX12_together (q_X12_togetherZ κ h x1 x2 x3 x4 x5 g) 25 [some (.inr (.inr 0)), some (.inl x1), some (.inl x2), some (.inl x3), some (.inl x4), some (.inl x5), some (.inl v6), some (.inl v7), some (.inl v8), some (.inl v9)] [] h) := by
    intro N
    induction N with
    | zero =>
      refine ⟨?_, ?_⟩
      · intro v6 v7 v8 g0 g1 g2 gc0 gc1 gc2 gc3 gc4 hm
        exfalso; omega
      · intro v6 v7 v8 v9 g0 g1 g2 g3 gc0 gc1 gc2 gc3 gc4 gc5 hm
        exfalso; omega
    | succ N ih =>
      obtain ⟨k9, k25⟩ := ih
      refine ⟨?_, ?_⟩
      · intro v6 v7 v8 g0 g1 g2 gc0 gc1 gc2 gc3 gc4 hm
        refine zW_iload (pc' := 11) dX12_together_0.1.2.2.1 rfl rfl ?_
        refine zW_iload (pc' := 13) dX12_together_0.1.2.2.2 rfl rfl ?_
        refine zW_iload_n (pc' := 14) dX12_together_0.2.1.1.1 rfl rfl ?_
        refine zW_iconst (pc' := 15) dX12_together_0.2.1.1.2 rfl ?_
        refine zW_iadd (pc' := 16) dX12_together_0.2.1.2.1 rfl ?_
        refine csI2 (pc' := 19) kX12_min vX12_min lk_X12_109 ⟨Nat.le_of_ble_eq_true rfl, Nat.le_of_ble_eq_true rfl⟩ rfl (s_X12_minR hF _ ⟨by omega, by omega⟩ _ ⟨by omega, by omega⟩) dX12_together_0.2.1.2.2 (Nat.le_of_ble_eq_true rfl) rfl ?_
        rintro r16 z16 ⟨hz16, p16⟩; subst z16
        refine zV_cm_ge (tgt := 80) (pc' := 22) dX12_together_0.2.2.1.1 rfl rfl ⟨by omega, by omega⟩ ⟨by omega, by omega⟩ (fun c19 => ?_) (fun c19 => ?_)
        · refine zW_iload (pc' := 82) dX12_together_2.2.2.1.2 rfl rfl ?_
          refine zW_iload (pc' := 84) dX12_together_2.2.2.2.1 rfl rfl ?_
          refine zW_idivX (pc' := 85) ⟨by omega, by omega⟩ ⟨by omega, by omega⟩ dX12_together_2.2.2.2.2 rfl (fun v84 t84 e84 => ?_)
          unfold rng at e84
          have hq84 : v84 = v6 / v7 := by rw [t84, Int.tdiv_eq_ediv_of_nonneg (by omega)]
          have h84 := tdb2 (a := v6) (d := v7) (by omega) (by omega)
          rw [← t84] at h84
          exact zV_iret rfl dX12_together_3 ⟨rfl, (by refine ⟨by omega, by omega, ?_⟩; rw [up_sum (e := ew) (d := eh) ⟨by omega, by omega, by omega⟩ ⟨by omega, by omega, by omega⟩ hew heh, hq84, gc0, gc1, show v8 - x3 = eh by omega])⟩
        · refine zW_iload_n (pc' := 23) dX12_together_0.2.2.1.2 rfl rfl ?_
          refine zW_istore (ls' := [_, _, _, _, _, _, _, _, _, _]) (pc' := 25) dX12_together_0.2.2.2.1 (by decide) rfl rfl rfl ?_
          exact k25 _ _ _ _ (by omega) (by omega) (by omega) (by omega) (by first | (rw [show (v9 + 1 - x2).toNat = (v9 - x2 + 1).toNat by omega, sr, gc0, Int.add_assoc, e58]) | (rw [show (x2 - x2).toNat = 0 by omega]; show _ = _ + 0; omega)) (by first | (rw [show (v9 + 1 - x2).toNat = (v9 - x2 + 1).toNat by omega, s1, gc1, Int.add_assoc]) | (rw [show (x2 - x2).toNat = 0 by omega]; show _ = _ + 0; omega)) (by omega) (by omega) (by omega) (by omega) (by omega)
      · intro v6 v7 v8 v9 g0 g1 g2 g3 gc0 gc1 gc2 gc3 gc4 gc5 hm
        refine zW_iload (pc' := 27) dX12_together_0.2.2.2.2 rfl rfl ?_
        refine zW_iload (pc' := 29) dX12_together_1.1.1.1.1 rfl rfl ?_
        refine zW_iload_n (pc' := 30) dX12_together_1.1.1.1.2 rfl rfl ?_
        refine zW_iconst (pc' := 31) dX12_together_1.1.1.2.1 rfl ?_
        refine zW_iadd (pc' := 32) dX12_together_1.1.1.2.2 rfl ?_
        refine csI2 (pc' := 35) kX12_min vX12_min lk_X12_109 ⟨Nat.le_of_ble_eq_true rfl, Nat.le_of_ble_eq_true rfl⟩ rfl (s_X12_minR hF _ ⟨by omega, by omega⟩ _ ⟨by omega, by omega⟩) dX12_together_1.1.2.1.1 (Nat.le_of_ble_eq_true rfl) rfl ?_
        rintro r32 z32 ⟨hz32, p32⟩; subst z32
        refine zV_cm_ge (tgt := 74) (pc' := 38) dX12_together_1.1.2.1.2 rfl rfl ⟨by omega, by omega⟩ ⟨by omega, by omega⟩ (fun c35 => ?_) (fun c35 => ?_)
        · have ss := sumS_s (t := (fun u v => g (x2 + u) (x3 + v))) (w := ew.toNat) (v := v8 - x3) (by omega)
          have s2 := sumS_s (t := (fun _ _ => (1 : Int))) (w := ew.toNat) (v := v8 - x3) (by omega)
          refine zW_iinc (ls' := [_, _, _, _, _, _, _, _, _, _]) (pc' := 77) dX12_together_2.2.1.2.2 rfl (by decide) rfl rfl rfl ?_
          refine zV_goto 9 dX12_together_2.2.2.1.1 rfl ?_
          refine zV_clr 9 (ls' := [_, _, _, _, _, _, _, _, _, _]) rfl ?_
          exact k9 _ _ _ (by omega) (by omega) (by omega) (by first | (rw [show (v9 - x2).toNat = ew.toNat by omega] at gc0; rw [show (v8 + 1 - x3).toNat = (v8 - x3 + 1).toNat by omega, ss]; exact gc0) | (rw [show (x3 - x3).toNat = 0 by omega]; rfl)) (by first | (rw [show (v9 - x2).toNat = ew.toNat by omega] at gc1; rw [show (v8 + 1 - x3).toNat = (v8 - x3 + 1).toNat by omega, s2]; exact gc1) | (rw [show (x3 - x3).toNat = 0 by omega]; rfl)) (by omega) (by omega) (by omega) (by omega)
        · have sr := sumR_s (t := (fun u v => g (x2 + u) (x3 + v))) (y := v8 - x3) (v := v9 - x2) (by omega)
          have s1 := sumR_s (t := (fun _ _ => (1 : Int))) (y := v8 - x3) (v := v9 - x2) (by omega)
          refine zW_iload (pc' := 40) dX12_together_1.1.2.2.1 rfl rfl ?_
          refine zW_aload_n (pc' := 41) dX12_together_1.1.2.2.2 rfl rfl ?_
          refine zG_ref (pc' := 44) 22 fg_X12_75 tb0 rfl dX12_together_1.2.1.1.1 rfl ?_
          refine zW_sipush (pc' := 47) dX12_together_1.2.1.1.2 rfl rfl ?_
          refine zW_iload_n (pc' := 48) dX12_together_1.2.1.2.1 rfl rfl ?_
          refine zW_imul (pc' := 49) dX12_together_1.2.1.2.2 rfl ?_
          refine zW_bipush (pc' := 51) dX12_together_1.2.2.1.1 rfl rfl ?_
          refine zW_iload (pc' := 53) dX12_together_1.2.2.1.2 rfl rfl ?_
          refine zW_imul (pc' := 54) dX12_together_1.2.2.2.1 rfl ?_
          refine zW_iadd (pc' := 55) dX12_together_1.2.2.2.2 rfl ?_
          refine zW_iload (pc' := 57) dX12_together_2.1.1.1.1 rfl rfl ?_
          refine zW_iadd (pc' := 58) dX12_together_2.1.1.1.2 rfl ?_
          refine zV_iald (pc' := 59) tb22 (by omega) dX12_together_2.1.1.2.1 (by decide) rfl ?_
          have q58 := hg.at (i := 256 * x1 + 16 * v8 + v9) (x := v9) (y := v8) ⟨by omega, by omega, by omega, by omega⟩ (by omega)
          have b58 := hgb v9 v8 ⟨by omega, by omega, by omega, by omega⟩
          rw [← q58] at b58
          have e58 : h 22 (256 * x1 + 16 * v8 + v9).toNat = g (x2 + (v9 - x2)) (x3 + (v8 - x3)) := by rw [show x2 + (v9 - x2) = v9 by omega, show x3 + (v8 - x3) = v8 by omega]; exact q58
          refine zW_iadd (pc' := 60) dX12_together_2.1.1.2.2 rfl ?_
          refine zW_istore (ls' := [_, _, _, _, _, _, _, _, _, _]) (pc' := 62) dX12_together_2.1.2.1.1 (by decide) rfl rfl rfl ?_
          refine zW_iload (pc' := 64) dX12_together_2.1.2.1.2 rfl rfl ?_
          refine zW_iconst (pc' := 65) dX12_together_2.1.2.2.1 rfl ?_
          refine zW_iadd (pc' := 66) dX12_together_2.1.2.2.2 rfl ?_
          refine zW_istore (ls' := [_, _, _, _, _, _, _, _, _, _]) (pc' := 68) dX12_together_2.2.1.1.1 (by decide) rfl rfl rfl ?_
          refine zW_iinc (ls' := [_, _, _, _, _, _, _, _, _, _]) (pc' := 71) dX12_together_2.2.1.1.2 rfl (by decide) rfl rfl rfl ?_
          refine zV_goto 25 dX12_together_2.2.1.2.1 rfl ?_
          exact k25 _ _ _ _ (by omega) (by omega) (by omega) (by omega) (by first | (rw [show (v9 + 1 - x2).toNat = (v9 - x2 + 1).toNat by omega, sr, gc0, Int.add_assoc, e58]) | (rw [show (x2 - x2).toNat = 0 by omega]; show _ = _ + 0; omega)) (by first | (rw [show (v9 + 1 - x2).toNat = (v9 - x2 + 1).toNat by omega, s1, gc1, Int.add_assoc]) | (rw [show (x2 - x2).toNat = 0 by omega]; show _ = _ + 0; omega)) (by omega) (by omega) (by omega) (by omega) (by omega)
  refine zM_of [some (.inr (.inr 0)), some (.inl x1), some (.inl x2), some (.inl x3), some (.inl x4), some (.inl x5), none, none, none, none] 4 rfl rfl (Nat.le_of_ble_eq_true rfl) rfl ?_
  refine zW_iconst (pc' := 1) dX12_together_0.1.1.1.1 rfl ?_
  refine zW_istore (ls' := [_, _, _, _, _, _, _, _, _, _]) (pc' := 3) dX12_together_0.1.1.1.2 (by decide) rfl rfl rfl ?_
  refine zW_iconst (pc' := 4) dX12_together_0.1.1.2.1 rfl ?_
  refine zW_istore (ls' := [_, _, _, _, _, _, _, _, _, _]) (pc' := 6) dX12_together_0.1.1.2.2 (by decide) rfl rfl rfl ?_
  refine zW_iload_n (pc' := 7) dX12_together_0.1.2.1.1 rfl rfl ?_
  refine zW_istore (ls' := [_, _, _, _, _, _, _, _, _, _]) (pc' := 9) dX12_together_0.1.2.1.2 (by decide) rfl rfl rfl ?_
  exact (main 10000000000000000000000000000000000000000).1 _ _ _ (by omega) (by omega) (by omega) (by first | (rw [show (v9 - x2).toNat = ew.toNat by omega] at gc0; rw [show (v8 + 1 - x3).toNat = (v8 - x3 + 1).toNat by omega, ss]; exact gc0) | (rw [show (x3 - x3).toNat = 0 by omega]; rfl)) (by first | (rw [show (v9 - x2).toNat = ew.toNat by omega] at gc1; rw [show (v8 + 1 - x3).toNat = (v8 - x3 + 1).toNat by omega, s2]; exact gc1) | (rw [show (x3 - x3).toNat = 0 by omega]; rfl)) (by omega) (by omega) (by omega) (by omega)

abbrev q_X12_findsFloorsZ (b : Bd) (κ : Hp) (x1 : Int) (F : P3) (gh0 : Hp) : Int → Hp → Prop := fun r h' => Fr b κ h' ∧ ((Fw [22] [] gh0 h') ∧ (∀ k : Nat, (k : Int) ≤ 3 → PlS (hfN k (κ 0 11)) (hfN k (κ 0 12)) (h' 22) k (flo (κ 0 11) (κ 0 12) F k)))
set_option maxHeartbeats 4000000 in
set_option maxRecDepth 20000 in
theorem s_X12_findsFloorsZ {G : Ga} {b : Bd} {κ h : Hp} (hK : KR κ) (hF : Fr b κ h) (x1 : Int) (hx1 : 0 ≤ x1 ∧ x1 ≤ 14) (F : P3) (gh0 : Hp) (hF3 : Fu17 κ (h 17) x1 F) (hb3 : FB3 (κ 0 11) (κ 0 12) F) (hgh : Fw [22] [] gh0 h) : zM G mX12_findsFloors yX12_findsFloors [.inr (.inr 0), .inl x1] h (q_X12_findsFloorsZ b κ x1 F gh0) := by
  have f_0_11 := KRw hK
  have f_0_12 := KRh hK
  have main : ∀ N : Nat, (∀ (v2 : Int) (h : Hp), Fr b κ h → (0 ≤ v2 ∧ v2 ≤ 16) → (v2 - κ 0 12 ≤ 0) → (PlSu (κ 0 11) (κ 0 12) (h 22) 0 (lgt F) 0 v2) → (Fu17 κ (h 17) x1 F) → (Fw [22] [] gh0 h) → 224703460800 + 120033900 * (16 - v2) + 118890720 < (N : Int) → zV G mX12_findsFloors (q_X12_findsFloorsZ b κ x1 F gh0) 2 [some (.inr (.inr 0)), some (.inl x1), some (.inl v2), none, none, none, none] [] h) ∧ (∀ (v2 : Int) (h : Hp), Fr b κ h → (1 ≤ v2 ∧ v2 ≤ 4) → (∀ k : Nat, (k : Int) < v2 → PlS (hfN k (κ 0 11)) (hfN k (κ 0 12)) (h 22) k (flo (κ 0 11) (κ 0 12) F k)) → (Fu17 κ (h 17) x1 F) → (Fw [22] [] gh0 h) → 211739799600 + 120033900 * (4 - v2) + 112031640 < (N : Int) → zV G mX12_findsFloors (q_X12_findsFloorsZ b κ x1 F gh0) 52 [some (.inr (.inr 0)), some (.inl x1), some (.inl v2), none, none, none, none] [] h) ∧ (∀ (v2 v3 v4 v5 : Int) (h : Hp), Fr b κ h → (1 ≤ v2 ∧ v2 ≤ 3) → (1 ≤ v3 ∧ v3 ≤ 16) → (1 ≤ v4 ∧ v4 ≤ 16) → (1 ≤ v5 ∧ v5 ≤ 3) → (∀ k : Nat, (k : Int) < v2 → PlS (hfN k (κ 0 11)) (hfN k (κ 0 12)) (h 22) k (flo (κ 0 11) (κ 0 12) F k)) → (v3 = hfN (v5 - 1).toNat (κ 0 11)) → (v4 = hfN (v5 - 1).toNat (κ 0 12)) → (v5 ≤ v2) → (Fu17 κ (h 17) x1 F) → (Fw [22] [] gh0 h) → 211739799600 + 120033900 * (4 - v2) + 98313480 + 63510 * (3 - v5) + 62780 < (N : Int) → zV G mX12_findsFloors (q_X12_findsFloorsZ b κ x1 F gh0) 71 [some (.inr (.inr 0)), some (.inl x1), some (.inl v2), some (.inl v3), some (.inl v4), some (.inl v5), none] [] h) ∧ (∀ (v2 v3 v4 v5 : Int) (h : Hp), Fr b κ h → (1 ≤ v2 ∧ v2 ≤ 3) → (1 ≤ v3 ∧ v3 ≤ 16) → (1 ≤ v4 ∧ v4 ≤ 16) → (0 ≤ v5 ∧ v5 ≤ 8) → (∀ k : Nat, (k : Int) < v2 → PlS (hfN k (κ 0 11)) (hfN k (κ 0 12)) (h 22) k (flo (κ 0 11) (κ 0 12) F k)) → (v3 = hfN (v2 - 1).toNat (κ 0 11)) → (v4 = hfN (v2 - 1).toNat (κ 0 12)) → (PlSu ((v3 + 1) / 2) ((v4 + 1) / 2) (h 22) v2 (upF (flo (κ 0 11) (κ 0 12) F (v2 - 1).toNat) v3 v4) 0 v5) → (Fu17 κ (h 17) x1 F) → (Fw [22] [] gh0 h) → 211739799600 + 120033900 * (4 - v2) + 92597580 + 63510 * (8 - v5) + 59130 < (N : Int) → zV G mX12_findsFloors (q_X12_findsFloorsZ b κ x1 F gh0) 100 [some (.inr (.inr 0)), some (.inl x1), some (.inl v2), some (.inl v3), some (.inl v4), some (.inl v5), none] [] h) ∧ (∀ (v2 v3 v4 v5 v6 : Int) (h : Hp), Fr b κ h → (1 ≤ v2 ∧ v2 ≤ 3) → (1 ≤ v3 ∧ v3 ≤ 16) → (1 ≤ v4 ∧ v4 ≤ 16) → (0 ≤ v5 ∧ v5 ≤ 7) → (0 ≤ v6 ∧ v6 ≤ 8) → (∀ k : Nat, (k : Int) < v2 → PlS (hfN k (κ 0 11)) (hfN k (κ 0 12)) (h 22) k (flo (κ 0 11) (κ 0 12) F k)) → (v3 = hfN (v2 - 1).toNat (κ 0 11)) → (v4 = hfN (v2 - 1).toNat (κ 0 12)) → (PlSu ((v3 + 1) / 2) ((v4 + 1) / 2) (h 22) v2 (upF (flo (κ 0 11) (κ 0 12) F (v2 - 1).toNat) v3 v4) v6 v5) → (2 * v5 < v4) → (Fu17 κ (h 17) x1 F) → (Fw [22] [] gh0 h) → 211739799600 + 120033900 * (4 - v2) + 92597580 + 63510 * (8 - v5) + 52560 + 73 * (8 - v6) + 72 < (N : Int) → zV G mX12_findsFloors (q_X12_findsFloorsZ b κ x1 F gh0) 112 [some (.inr (.inr 0)), some (.inl x1), some (.inl v2), some (.inl v3), some (.inl v4), some (.inl v5), some (.inl v6)] [] h) ∧ (∀ (v2 v3 : Int) (h : Hp), Fr b κ h → (0 ≤ v2 ∧ v2 ≤ 15) → (v2 - κ 0 12 ≤ -1) → (0 ≤ v3 ∧ v3 ≤ 16) → (v3 - κ 0 11 ≤ 0) → (PlSu (κ 0 11) (κ 0 12) (h 22) 0 (lgt F) v3 v2) → (Fu17 κ (h 17) x1 F) → (Fw [22] [] gh0 h) → 224703460800 + 120033900 * (16 - v2) + 25149960 + 63510 * (16 - v3) + 16060 < (N : Int) → zV G mX12_findsFloors (q_X12_findsFloorsZ b κ x1 F gh0) 12 [some (.inr (.inr 0)), some (.inl x1), some (.inl v2), some (.inl v3), none, none, none] [] h) := by
    intro N
    induction N with
    | zero =>
      refine ⟨?_, ?_, ?_, ?_, ?_, ?_⟩
      · intro v2 h hF g0 g1 gc0 hF3 hgh hm
        exfalso; omega
      · intro v2 h hF g0 gc0 hF3 hgh hm
        exfalso; omega
      · intro v2 v3 v4 v5 h hF g0 g1 g2 g3 gc0 gc1 gc2 gc3 hF3 hgh hm
        exfalso; omega
      · intro v2 v3 v4 v5 h hF g0 g1 g2 g3 gc0 gc1 gc2 gc3 hF3 hgh hm
        exfalso; omega
      · intro v2 v3 v4 v5 v6 h hF g0 g1 g2 g3 g4 gc0 gc1 gc2 gc3 gc4 hF3 hgh hm
        exfalso; omega
      · intro v2 v3 h hF g0 g1 g2 g3 gc0 hF3 hgh hm
        exfalso; omega
    | succ N ih =>
      obtain ⟨k2, k52, k71, k100, k112, k12⟩ := ih
      refine ⟨?_, ?_, ?_, ?_, ?_, ?_⟩
      · intro v2 h hF g0 g1 gc0 hF3 hgh hm
        refine zW_iload_n (pc' := 3) dX12_findsFloors_0.1.1.2.1 rfl rfl ?_
        refine zW_aload_n (pc' := 4) dX12_findsFloors_0.1.1.2.2 rfl rfl ?_
        refine zG_key (pc' := 7) hF rfl fg_X12_103 tb0 rfl dX12_findsFloors_0.1.2.1.1 rfl ?_
        refine zV_cm_ge (tgt := 50) (pc' := 10) dX12_findsFloors_0.1.2.1.2 rfl rfl ⟨by omega, by omega⟩ ⟨by omega, by omega⟩ (fun c7 => ?_) (fun c7 => ?_)
        · refine zW_iconst (pc' := 51) dX12_findsFloors_1.2.2.1.2 rfl ?_
          refine zW_istore_n (ls' := [_, _, _, _, _, _, _]) (pc' := 52) dX12_findsFloors_1.2.2.2.1 (by decide) rfl rfl rfl ?_
          exact k52 _ _ hF (by omega) (by first | exact hn2 | (intro k hk; have e0 : k = 0 := (by omega); subst e0; exact gc0.all (by omega))) hF3 hgh (by omega)
        · refine zW_iconst (pc' := 11) dX12_findsFloors_0.1.2.2.1 rfl ?_
          refine zW_istore_n (ls' := [_, _, _, _, _, _, _]) (pc' := 12) dX12_findsFloors_0.1.2.2.2 (by decide) rfl rfl rfl ?_
          exact k12 _ _ _ hF (by omega) (by omega) (by omega) (by omega) (by first | exact hr2 | exact gc0) hF3 hgh (by omega)
      · intro v2 h hF g0 gc0 hF3 hgh hm
        refine zW_iload_n (pc' := 53) dX12_findsFloors_1.2.2.2.2 rfl rfl ?_
        refine zW_iconst (pc' := 54) dX12_findsFloors_2.1.1.1.1 rfl ?_
        refine zV_cm_ge (tgt := 175) (pc' := 57) dX12_findsFloors_2.1.1.1.2 rfl rfl ⟨by omega, by omega⟩ ⟨by omega, by omega⟩ (fun c54 => ?_) (fun c54 => ?_)
        · exact zV_vret rfl dX12_findsFloors_6.2.2.2 ⟨hF, ⟨hgh, (fun k hk => gc0 k (by omega))⟩⟩
        · refine zW_aload_n (pc' := 58) dX12_findsFloors_2.1.1.2.1 rfl rfl ?_
          refine zG_key (pc' := 61) hF rfl fg_X12_99 tb0 rfl dX12_findsFloors_2.1.1.2.2 rfl ?_
          refine zW_istore_n (ls' := [_, _, _, _, _, _, _]) (pc' := 62) dX12_findsFloors_2.1.2.1.1 (by decide) rfl rfl rfl ?_
          refine zW_aload_n (pc' := 63) dX12_findsFloors_2.1.2.1.2 rfl rfl ?_
          refine zG_key (pc' := 66) hF rfl fg_X12_103 tb0 rfl dX12_findsFloors_2.1.2.2.1 rfl ?_
          refine zW_istore (ls' := [_, _, _, _, _, _, _]) (pc' := 68) dX12_findsFloors_2.1.2.2.2 (by decide) rfl rfl rfl ?_
          refine zW_iconst (pc' := 69) dX12_findsFloors_2.2.1.1.1 rfl ?_
          refine zW_istore (ls' := [_, _, _, _, _, _, _]) (pc' := 71) dX12_findsFloors_2.2.1.1.2 (by decide) rfl rfl rfl ?_
          exact k71 _ _ _ _ _ hF (by omega) (by omega) (by omega) (by omega) gc0 (by first | exact hh2.1 | rfl) (by first | exact hh2.2 | rfl) (by omega) hF3 hgh (by omega)
      · intro v2 v3 v4 v5 h hF g0 g1 g2 g3 gc0 gc1 gc2 gc3 hF3 hgh hm
        refine zW_iload (pc' := 73) dX12_findsFloors_2.2.1.2.1 rfl rfl ?_
        refine zW_iload_n (pc' := 74) dX12_findsFloors_2.2.1.2.2 rfl rfl ?_
        refine zV_cm_ge (tgt := 97) (pc' := 77) dX12_findsFloors_2.2.2.1.1 rfl rfl ⟨by omega, by omega⟩ ⟨by omega, by omega⟩ (fun c74 => ?_) (fun c74 => ?_)
        · refine zW_iconst (pc' := 98) dX12_findsFloors_3.2.1.2.2 rfl ?_
          refine zW_istore (ls' := [_, _, _, _, _, _, _]) (pc' := 100) dX12_findsFloors_3.2.2.1.1 (by decide) rfl rfl rfl ?_
          exact k100 _ _ _ _ _ hF (by omega) (by omega) (by omega) (by omega) gc0 (by first | (rw [show v2 = v5 by omega]; exact gc1) | exact gc1) (by first | (rw [show v2 = v5 by omega]; exact gc2) | exact gc2) (by first | exact gc3.rowx (by omega) | exact PlSu.no) hF3 hgh (by omega)
        · refine zW_iload_n (pc' := 78) dX12_findsFloors_2.2.2.1.2 rfl rfl ?_
          refine zW_iconst (pc' := 79) dX12_findsFloors_2.2.2.2.1 rfl ?_
          refine zW_iadd (pc' := 80) dX12_findsFloors_2.2.2.2.2 rfl ?_
          refine zW_iconst (pc' := 81) dX12_findsFloors_3.1.1.1.1 rfl ?_
          refine zW_idiv (pc' := 82) (by omega) (by omega) dX12_findsFloors_3.1.1.1.2 rfl ?_
          refine zW_istore_n (ls' := [_, _, _, _, _, _, _]) (pc' := 83) dX12_findsFloors_3.1.1.2.1 (by decide) rfl rfl rfl ?_
          refine zW_iload (pc' := 85) dX12_findsFloors_3.1.1.2.2 rfl rfl ?_
          refine zW_iconst (pc' := 86) dX12_findsFloors_3.1.2.1.1 rfl ?_
          refine zW_iadd (pc' := 87) dX12_findsFloors_3.1.2.1.2 rfl ?_
          refine zW_iconst (pc' := 88) dX12_findsFloors_3.1.2.2.1 rfl ?_
          refine zW_idiv (pc' := 89) (by omega) (by omega) dX12_findsFloors_3.1.2.2.2 rfl ?_
          refine zW_istore (ls' := [_, _, _, _, _, _, _]) (pc' := 91) dX12_findsFloors_3.2.1.1.1 (by decide) rfl rfl rfl ?_
          have hh2 : (v3 + 1) / 2 = hfN (v5 + 1 - 1).toNat (κ 0 11) ∧ (v4 + 1) / 2 = hfN (v5 + 1 - 1).toNat (κ 0 12) := by rw [show (v5 + 1 - 1).toNat = (v5 - 1).toNat + 1 by omega, gc1, gc2]; exact ⟨rfl, rfl⟩
          refine zW_iinc (ls' := [_, _, _, _, _, _, _]) (pc' := 94) dX12_findsFloors_3.2.1.1.2 rfl (by decide) rfl rfl rfl ?_
          refine zV_goto 71 dX12_findsFloors_3.2.1.2.1 rfl ?_
          exact k71 _ _ _ _ _ hF (by omega) (by omega) (by omega) (by omega) gc0 (by first | exact hh2.1 | rfl) (by first | exact hh2.2 | rfl) (by omega) hF3 hgh (by omega)
      · intro v2 v3 v4 v5 h hF g0 g1 g2 g3 gc0 gc1 gc2 gc3 hF3 hgh hm
        refine zW_iconst (pc' := 101) dX12_findsFloors_3.2.2.1.2 rfl ?_
        refine zW_iload (pc' := 103) dX12_findsFloors_3.2.2.2.1 rfl rfl ?_
        refine zW_imul (pc' := 104) dX12_findsFloors_3.2.2.2.2 rfl ?_
        refine zW_iload (pc' := 106) dX12_findsFloors_4.1.1.1.1 rfl rfl ?_
        refine zV_cm_ge (tgt := 169) (pc' := 109) dX12_findsFloors_4.1.1.1.2 rfl rfl ⟨by omega, by omega⟩ ⟨by omega, by omega⟩ (fun c106 => ?_) (fun c106 => ?_)
        · have hn2 : ∀ k : Nat, (k : Int) < v2 + 1 → PlS (hfN k (κ 0 11)) (hfN k (κ 0 12)) (h 22) k (flo (κ 0 11) (κ 0 12) F k) := by (intro k hk; by_cases e : (k : Int) = v2; (have e2 : k = (v2 - 1).toNat + 1 := by omega); (rw [e2]; show PlS ((hfN (v2 - 1).toNat (κ 0 11) + 1) / 2) ((hfN (v2 - 1).toNat (κ 0 12) + 1) / 2) (h 22) (((v2 - 1).toNat + 1 : Nat) : Int) (upF (flo (κ 0 11) (κ 0 12) F (v2 - 1).toNat) (hfN (v2 - 1).toNat (κ 0 11)) (hfN (v2 - 1).toNat (κ 0 12))); rw [← gc1, ← gc2, show (((v2 - 1).toNat + 1 : Nat) : Int) = v2 by omega]; exact gc3.all (by omega)); exact gc0 k (by omega))
          refine zW_iinc (ls' := [_, _, _, _, _, _, _]) (pc' := 172) dX12_findsFloors_6.2.1.2 rfl (by decide) rfl rfl rfl ?_
          refine zV_goto 52 dX12_findsFloors_6.2.2.1 rfl ?_
          refine zV_clr 3 (ls' := [_, _, _, _, _, _, _]) rfl ?_
          refine zV_clr 4 (ls' := [_, _, _, _, _, _, _]) rfl ?_
          refine zV_clr 5 (ls' := [_, _, _, _, _, _, _]) rfl ?_
          exact k52 _ _ hF (by omega) (by first | exact hn2 | (intro k hk; have e0 : k = 0 := (by omega); subst e0; exact gc0.all (by omega))) hF3 hgh (by omega)
        · refine zW_iconst (pc' := 110) dX12_findsFloors_4.1.1.2.1 rfl ?_
          refine zW_istore (ls' := [_, _, _, _, _, _, _]) (pc' := 112) dX12_findsFloors_4.1.1.2.2 (by decide) rfl rfl rfl ?_
          exact k112 _ _ _ _ _ _ hF (by omega) (by omega) (by omega) (by omega) (by omega) (by first | exact hf2 | exact gc0) gc1 gc2 (by first | exact hr2 | exact gc3) (by omega) hF3 hgh (by omega)
      · intro v2 v3 v4 v5 v6 h hF g0 g1 g2 g3 g4 gc0 gc1 gc2 gc3 gc4 hF3 hgh hm
        refine zW_iconst (pc' := 113) dX12_findsFloors_4.1.2.1.1 rfl ?_
        refine zW_iload (pc' := 115) dX12_findsFloors_4.1.2.1.2 rfl rfl ?_
        refine zW_imul (pc' := 116) dX12_findsFloors_4.1.2.2.1 rfl ?_
        refine zW_iload_n (pc' := 117) dX12_findsFloors_4.1.2.2.2 rfl rfl ?_
        refine zV_cm_ge (tgt := 163) (pc' := 120) dX12_findsFloors_4.2.1.1.1 rfl rfl ⟨by omega, by omega⟩ ⟨by omega, by omega⟩ (fun c117 => ?_) (fun c117 => ?_)
        · refine zW_iinc (ls' := [_, _, _, _, _, _, _]) (pc' := 166) dX12_findsFloors_6.1.2.2 rfl (by decide) rfl rfl rfl ?_
          refine zV_goto 100 dX12_findsFloors_6.2.1.1 rfl ?_
          refine zV_clr 6 (ls' := [_, _, _, _, _, _, _]) rfl ?_
          exact k100 _ _ _ _ _ hF (by omega) (by omega) (by omega) (by omega) gc0 (by first | (rw [show v2 = v5 by omega]; exact gc1) | exact gc1) (by first | (rw [show v2 = v5 by omega]; exact gc2) | exact gc2) (by first | exact gc3.rowx (by omega) | exact PlSu.no) hF3 hgh (by omega)
        · refine zW_aload_n (pc' := 121) dX12_findsFloors_4.2.1.1.2 rfl rfl ?_
          refine zG_ref (pc' := 124) 22 fg_X12_75 tb0 rfl dX12_findsFloors_4.2.1.2.1 rfl ?_
          refine zW_sipush (pc' := 127) dX12_findsFloors_4.2.1.2.2 rfl rfl ?_
          refine zW_iload_n (pc' := 128) dX12_findsFloors_4.2.2.1.1 rfl rfl ?_
          refine zW_imul (pc' := 129) dX12_findsFloors_4.2.2.1.2 rfl ?_
          refine zW_bipush (pc' := 131) dX12_findsFloors_4.2.2.2.1 rfl rfl ?_
          refine zW_iload (pc' := 133) dX12_findsFloors_4.2.2.2.2 rfl rfl ?_
          refine zW_imul (pc' := 134) dX12_findsFloors_5.1.1.1.1 rfl ?_
          refine zW_iadd (pc' := 135) dX12_findsFloors_5.1.1.1.2 rfl ?_
          refine zW_iload (pc' := 137) dX12_findsFloors_5.1.1.2.1 rfl rfl ?_
          refine zW_iadd (pc' := 138) dX12_findsFloors_5.1.1.2.2 rfl ?_
          refine zW_aload_n (pc' := 139) dX12_findsFloors_5.1.2.1.1 rfl rfl ?_
          refine zW_iload_n (pc' := 140) dX12_findsFloors_5.1.2.1.2 rfl rfl ?_
          refine zW_iconst (pc' := 141) dX12_findsFloors_5.1.2.2.1 rfl ?_
          refine zW_isub (pc' := 142) dX12_findsFloors_5.1.2.2.2 rfl ?_
          refine zW_iconst (pc' := 143) dX12_findsFloors_5.2.1.1.1 rfl ?_
          refine zW_iload (pc' := 145) dX12_findsFloors_5.2.1.1.2 rfl rfl ?_
          refine zW_imul (pc' := 146) dX12_findsFloors_5.2.1.2.1 rfl ?_
          refine zW_iconst (pc' := 147) dX12_findsFloors_5.2.1.2.2 rfl ?_
          refine zW_iload (pc' := 149) dX12_findsFloors_5.2.2.1.1 rfl rfl ?_
          refine zW_imul (pc' := 150) dX12_findsFloors_5.2.2.1.2 rfl ?_
          refine zW_iload_n (pc' := 151) dX12_findsFloors_5.2.2.2.1 rfl rfl ?_
          refine zW_iload (pc' := 153) dX12_findsFloors_5.2.2.2.2 rfl rfl ?_
          refine cvI5 (pc' := 156) kX12_together vX12_together lk_X12_313 ⟨Nat.le_of_ble_eq_true rfl, Nat.le_of_ble_eq_true rfl⟩ tb0 vq12 rfl rfl (s_X12_togetherZ hF _ ⟨by omega, by omega⟩ _ ⟨by omega, by omega⟩ _ ⟨by omega, by omega⟩ _ ⟨by omega, by omega⟩ _ ⟨by omega, by omega⟩ (flo (κ 0 11) (κ 0 12) F (v2 - 1).toNat) (by omega) (by omega) (by omega) (by omega) (by have z := gc0 (v2 - 1).toNat (by omega); rw [← gc1, ← gc2, show (((v2 - 1).toNat : Nat) : Int) = v2 - 1 by omega] at z; exact z) (by have z := flo_b hb3 (v2 - 1).toNat; rw [← gc1, ← gc2] at z; exact z)) dX12_findsFloors_6.1.1.1.1 (Nat.le_of_ble_eq_true rfl) rfl ?_
          rintro r153 z153 ⟨hz153, p153⟩; subst z153
          refine zS_i (pc' := 157) hF sr22 tb22 (by omega) dX12_findsFloors_6.1.1.1.2 (by decide) rfl (fun h i156 hF a156 b156 w156 => ?_)
          replace b156 := b156 ⟨by omega, by omega⟩
          replace hgh : Fw [22] [] gh0 h := by rw [w156]; exact hgh.wc (by simp)
          replace hF3 : Fu17 κ (h 17) x1 F := by have q0_ := (congrFun w156 17).trans (zfun (by decide)); rw [q0_]; exact hF3
          have hr2 : PlSu ((v3 + 1) / 2) ((v4 + 1) / 2) (h 22) v2 (upF (flo (κ 0 11) (κ 0 12) F (v2 - 1).toNat) v3 v4) (v6 + 1) v5 := by rw [w156, b156]; exact PlSu.nx (by omega) (by omega) ⟨by omega, by omega, by omega, by omega⟩ gc3 (by omega) (by rw [p153.2.2, show 2 * v6 / 2 = v6 by omega, show 2 * v5 / 2 = v5 by omega])
          have hf2 : ∀ k : Nat, (k : Int) < v2 → PlS (hfN k (κ 0 11)) (hfN k (κ 0 12)) (h 22) k (flo (κ 0 11) (κ 0 12) F k) := by (intro k hk; have zw := hfN_b (n := κ 0 11) ⟨by omega, by omega⟩ k; have zh := hfN_b (n := κ 0 12) ⟨by omega, by omega⟩ k; rw [w156]; exact (gc0 k hk).w (by omega) (by omega) (by omega) (by omega))
          refine zW_iinc (ls' := [_, _, _, _, _, _, _]) (pc' := 160) dX12_findsFloors_6.1.1.2 rfl (by decide) rfl rfl rfl ?_
          refine zV_goto 112 dX12_findsFloors_6.1.2.1 rfl ?_
          exact k112 _ _ _ _ _ _ hF (by omega) (by omega) (by omega) (by omega) (by omega) (by first | exact hf2 | exact gc0) gc1 gc2 (by first | exact hr2 | exact gc3) (by omega) hF3 hgh (by omega)
      · intro v2 v3 h hF g0 g1 g2 g3 gc0 hF3 hgh hm
        refine zW_iload_n (pc' := 13) dX12_findsFloors_0.2.1.1.1 rfl rfl ?_
        refine zW_aload_n (pc' := 14) dX12_findsFloors_0.2.1.1.2 rfl rfl ?_
        refine zG_key (pc' := 17) hF rfl fg_X12_99 tb0 rfl dX12_findsFloors_0.2.1.2.1 rfl ?_
        refine zV_cm_ge (tgt := 44) (pc' := 20) dX12_findsFloors_0.2.1.2.2 rfl rfl ⟨by omega, by omega⟩ ⟨by omega, by omega⟩ (fun c17 => ?_) (fun c17 => ?_)
        · refine zW_iinc (ls' := [_, _, _, _, _, _, _]) (pc' := 47) dX12_findsFloors_1.2.1.2.2 rfl (by decide) rfl rfl rfl ?_
          refine zV_goto 2 dX12_findsFloors_1.2.2.1.1 rfl ?_
          refine zV_clr 3 (ls' := [_, _, _, _, _, _, _]) rfl ?_
          exact k2 _ _ hF (by omega) (by omega) (by first | exact gc0.rowx (by omega) | exact PlSu.no) hF3 hgh (by omega)
        · refine zW_aload_n (pc' := 21) dX12_findsFloors_0.2.2.1.1 rfl rfl ?_
          refine zG_ref (pc' := 24) 22 fg_X12_75 tb0 rfl dX12_findsFloors_0.2.2.1.2 rfl ?_
          refine zW_bipush (pc' := 26) dX12_findsFloors_0.2.2.2.1 rfl rfl ?_
          refine zW_iload_n (pc' := 27) dX12_findsFloors_0.2.2.2.2 rfl rfl ?_
          refine zW_imul (pc' := 28) dX12_findsFloors_1.1.1.1.1 rfl ?_
          refine zW_iload_n (pc' := 29) dX12_findsFloors_1.1.1.1.2 rfl rfl ?_
          refine zW_iadd (pc' := 30) dX12_findsFloors_1.1.1.2.1 rfl ?_
          refine zW_aload_n (pc' := 31) dX12_findsFloors_1.1.1.2.2 rfl rfl ?_
          refine zW_iload_n (pc' := 32) dX12_findsFloors_1.1.2.1.1 rfl rfl ?_
          refine zW_iload_n (pc' := 33) dX12_findsFloors_1.1.2.1.2 rfl rfl ?_
          refine zW_iload_n (pc' := 34) dX12_findsFloors_1.1.2.2.1 rfl rfl ?_
          refine cvI3 (pc' := 37) kX12_lightAt vX12_lightAt lk_X12_307 ⟨Nat.le_of_ble_eq_true rfl, Nat.le_of_ble_eq_true rfl⟩ tb0 vq12 rfl rfl (s_X12_lightAtZ hK hF _ ⟨by omega, by omega⟩ _ ⟨by omega, by omega, by omega⟩ _ ⟨by omega, by omega, by omega⟩ F (by omega) (by omega)) dX12_findsFloors_1.1.2.2.2 (Nat.le_of_ble_eq_true rfl) rfl ?_
          rintro r34 z34 ⟨hz34, p34⟩; subst z34
          refine zS_i (pc' := 38) hF sr22 tb22 (by omega) dX12_findsFloors_1.2.1.1.1 (by decide) rfl (fun h i37 hF a37 b37 w37 => ?_)
          replace b37 := b37 ⟨by omega, by omega⟩
          replace hgh : Fw [22] [] gh0 h := by rw [w37]; exact hgh.wc (by simp)
          replace hF3 : Fu17 κ (h 17) x1 F := by have q0_ := (congrFun w37 17).trans (zfun (by decide)); rw [q0_]; exact hF3
          have hr2 : PlSu (κ 0 11) (κ 0 12) (h 22) 0 (lgt F) (v3 + 1) v2 := by rw [w37, b37]; exact PlSu.nx (by omega) (by omega) ⟨by omega, by omega, by omega, by omega⟩ gc0 (by omega) (by have mx := mir_i (v := v3) (n := κ 0 11) ⟨by omega, by omega⟩; have my := mir_i (v := v2) (n := κ 0 12) ⟨by omega, by omega⟩; have z := p34.2.2; rw [mx, my] at z; exact z)
          refine zW_iinc (ls' := [_, _, _, _, _, _, _]) (pc' := 41) dX12_findsFloors_1.2.1.1.2 rfl (by decide) rfl rfl rfl ?_
          refine zV_goto 12 dX12_findsFloors_1.2.1.2.1 rfl ?_
          exact k12 _ _ _ hF (by omega) (by omega) (by omega) (by omega) (by first | exact hr2 | exact gc0) hF3 hgh (by omega)
  refine zM_of [some (.inr (.inr 0)), some (.inl x1), none, none, none, none, none] 5 rfl rfl (Nat.le_of_ble_eq_true rfl) rfl ?_
  refine zW_iconst (pc' := 1) dX12_findsFloors_0.1.1.1.1 rfl ?_
  refine zW_istore_n (ls' := [_, _, _, _, _, _, _]) (pc' := 2) dX12_findsFloors_0.1.1.1.2 (by decide) rfl rfl rfl ?_
  exact (main 10000000000000000000000000000000000000000).1 _ _ hF (by omega) (by omega) (by first | exact gc0.rowx (by omega) | exact PlSu.no) hF3 hgh (by omega)
