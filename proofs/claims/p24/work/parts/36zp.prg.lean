/-! the greatest over the squares -/
def mxR (t : Int → Int → Int) (y : Int) : Nat → Int
  | 0 => 0
  | n + 1 => max2 (mxR t y n) (t n y)
def mxS (t : Int → Int → Int) (w : Nat) : Nat → Int
  | 0 => 0
  | n + 1 => max2 (mxS t w n) (mxR t n w)
theorem mxR_s {t : Int → Int → Int} {y v : Int} (h : 0 ≤ v) : mxR t y (v + 1).toNat = max2 (mxR t y v.toNat) (t v y) := by
  rw [show (v + 1).toNat = v.toNat + 1 by omega]
  show max2 (mxR t y v.toNat) (t ((v.toNat : Nat) : Int) y) = _
  rw [show ((v.toNat : Nat) : Int) = v by omega]
theorem mxS_s {t : Int → Int → Int} {w : Nat} {v : Int} (h : 0 ≤ v) : mxS t w (v + 1).toNat = max2 (mxS t w v.toNat) (mxR t v w) := by
  rw [show (v + 1).toNat = v.toNat + 1 by omega]
  show max2 (mxS t w v.toNat) (mxR t ((v.toNat : Nat) : Int) w) = _
  rw [show ((v.toNat : Nat) : Int) = v by omega]
theorem max2_as {a b c : Int} : max2 (max2 a b) c = max2 a (max2 b c) := by
  have h1 := max2c a b
  have h2 := max2c (max2 a b) c
  have h3 := max2c b c
  have h4 := max2c a (max2 b c)
  omega
theorem max2_0 {a : Int} (h : 0 ≤ a) : max2 a 0 = a := by
  have h1 := max2c a 0
  omega
theorem mxR_n {t : Int → Int → Int} {y : Int} : ∀ n : Nat, 0 ≤ mxR t y n
  | 0 => Int.le_refl 0
  | n + 1 => by
    have a := mxR_n (t := t) (y := y) n
    have b := max2c (mxR t y n) (t n y)
    show 0 ≤ max2 (mxR t y n) (t n y)
    omega
theorem mxS_n {t : Int → Int → Int} {w : Nat} : ∀ n : Nat, 0 ≤ mxS t w n
  | 0 => Int.le_refl 0
  | n + 1 => by
    have a := mxS_n (t := t) (w := w) n
    have b := max2c (mxS t w n) (mxR t n w)
    show 0 ≤ max2 (mxS t w n) (mxR t n w)
    omega
/-- noise: where it counts, how much it is -/
def nzT (W H b : Int) (g t : Int → Int → Int) (x y : Int) : Int := if b = 4 ∨ blr W H g x y / 1024 = b then t x y else 0
def ndF (W H : Int) (g : Int → Int → Int) (x y : Int) : Int := ab (g x y - blr W H g x y)
def nz3 (W H b w : Int) (g : Int → Int → Int) : Int := if w = 0 then sumS (nzT W H b g (fun _ _ => 1)) W.toNat H.toNat else if w = 1 then sumS (nzT W H b g (ndF W H g)) W.toNat H.toNat else mxS (nzT W H b g (ndF W H g)) W.toNat H.toNat
def nsQ (W H P n : Int) (lt bh : Int → Int) (pc : Int → P3) (nm : Int → Nat → Int) (k c b w : Int) : Int := if 0 ≤ k ∧ k ≤ n ∧ 0 ≤ c ∧ c ≤ 2 ∧ 0 ≤ b ∧ b ≤ 4 ∧ 0 ≤ w ∧ w ≤ 2 then (if bh k = 1 then nz3 W H b w (pc k c) else -3) else -1

abbrev q_X12_noiseOfZ (κ h : Hp) (x1 : Int) (x2 : Int) (x3 : Int) (x4 : Int) (g : Int → Int → Int) : Int → Hp → Prop := fun r h' => h' = h ∧ ((r = nz3 (κ 0 11) (κ 0 12) x3 x4 g))
set_option maxHeartbeats 4000000 in
set_option maxRecDepth 20000 in
theorem s_X12_noiseOfZ {G : Ga} {b : Bd} {κ h : Hp} (hK : KR κ) (hF : Fr b κ h) (x1 : Int) (hx1 : 0 ≤ x1 ∧ x1 ≤ 14) (x2 : Int) (hx2 : 0 ≤ x2 ∧ x2 ≤ 2) (x3 : Int) (hx3 : 0 ≤ x3 ∧ x3 ≤ 4) (x4 : Int) (hx4 : 0 ≤ x4 ∧ x4 ≤ 2) (g : Int → Int → Int) (hg : Pl17 κ (h 17) x1 x2 g) (hgb : FB (κ 0 11) (κ 0 12) g) : zM G mX12_noiseOf yX12_noiseOf [.inr (.inr 0), .inl x1, .inl x2, .inl x3, .inl x4] h (q_X12_noiseOfZ κ h x1 x2 x3 x4 g) := by
  have f_0_11 := KRw hK
  have f_0_12 := KRh hK
  have main : ∀ N : Nat, (∀ (v5 v6 v7 v8 : Int) , (0 ≤ v5 ∧ v5 ≤ 256) → (0 ≤ v6 ∧ v6 ≤ 1048320) → (0 ≤ v7 ∧ v7 ≤ 4095) → (0 ≤ v8 ∧ v8 ≤ 16) → (v8 - κ 0 12 ≤ 0) → (v5 = sumS (nzT (κ 0 11) (κ 0 12) x3 g (fun _ _ => 1)) (κ 0 11).toNat v8.toNat) → (v6 = sumS (nzT (κ 0 11) (κ 0 12) x3 g (ndF (κ 0 11) (κ 0 12) g)) (κ 0 11).toNat v8.toNat) → (v7 = mxS (nzT (κ 0 11) (κ 0 12) x3 g (ndF (κ 0 11) (κ 0 12) g)) (κ 0 11).toNat v8.toNat) → (0 ≤ v5 ∧ v5 ≤ 16 * v8) → (0 ≤ v6 ∧ v6 ≤ 65520 * v8) → 64696320 + 56160 * (16 - v8) + 55296 < (N : Int) → zV G mX12_noiseOf (q_X12_noiseOfZ κ h x1 x2 x3 x4 g) 12 [some (.inr (.inr 0)), some (.inl x1), some (.inl x2), some (.inl x3), some (.inl x4), some (.inl v5), some (.inl v6), some (.inl v7), some (.inl v8), none, none, none] [] h) ∧ (∀ (v5 v6 v7 v8 v9 : Int) , (0 ≤ v5 ∧ v5 ≤ 256) → (0 ≤ v6 ∧ v6 ≤ 1048320) → (0 ≤ v7 ∧ v7 ≤ 4095) → (0 ≤ v8 ∧ v8 ≤ 15) → (v8 - κ 0 12 ≤ -1) → (0 ≤ v9 ∧ v9 ≤ 16) → (v9 - κ 0 11 ≤ 0) → (v5 = sumS (nzT (κ 0 11) (κ 0 12) x3 g (fun _ _ => 1)) (κ 0 11).toNat v8.toNat + sumR (nzT (κ 0 11) (κ 0 12) x3 g (fun _ _ => 1)) v8 v9.toNat) → (v6 = sumS (nzT (κ 0 11) (κ 0 12) x3 g (ndF (κ 0 11) (κ 0 12) g)) (κ 0 11).toNat v8.toNat + sumR (nzT (κ 0 11) (κ 0 12) x3 g (ndF (κ 0 11) (κ 0 12) g)) v8 v9.toNat) → (v7 = max2 (mxS (nzT (κ 0 11) (κ 0 12) x3 g (ndF (κ 0 11) (κ 0 12) g)) (κ 0 11).toNat v8.toNat) (mxR (nzT (κ 0 11) (κ 0 12) x3 g (ndF (κ 0 11) (κ 0 12) g)) v8 v9.toNat)) → (0 ≤ v5 ∧ v5 ≤ 16 * v8 + v9) → (0 ≤ v6 ∧ v6 ≤ 65520 * v8 + 4095 * v9) → 64696320 + 56160 * (16 - v8) + 40608 + 48 * (16 - v9) + 47 < (N : Int) → zV G mX12_noiseOf (q_X12_noiseOfZ κ h x1 x2 x3 x4 g) 24 [some (.inr (.inr 0)), some (.inl x1), some (.inl x2), some (.inl x3), some (.inl x4), some (.inl v5), some (.inl v6), some (.inl v7), some (.inl v8), some (.inl v9), none, none] [] h) := by
    intro N
    induction N with
    | zero =>
      refine ⟨?_, ?_⟩
      · intro v5 v6 v7 v8 g0 g1 g2 g3 g4 gc0 gc1 gc2 gc3 gc4 hm
        exfalso; omega
      · intro v5 v6 v7 v8 v9 g0 g1 g2 g3 g4 g5 g6 gc0 gc1 gc2 gc3 gc4 hm
        exfalso; omega
    | succ N ih =>
      obtain ⟨k12, k24⟩ := ih
      refine ⟨?_, ?_⟩
      · intro v5 v6 v7 v8 g0 g1 g2 g3 g4 gc0 gc1 gc2 gc3 gc4 hm
        refine zW_iload (pc' := 14) dX12_noiseOf_0.2.1.1.1 rfl rfl ?_
        refine zW_aload_n (pc' := 15) dX12_noiseOf_0.2.1.1.2 rfl rfl ?_
        refine zG_key (pc' := 18) hF rfl fg_X12_103 tb0 rfl dX12_noiseOf_0.2.1.2.1 rfl ?_
        refine zV_cm_ge (tgt := 115) (pc' := 21) dX12_noiseOf_0.2.1.2.2 rfl rfl ⟨by omega, by omega⟩ ⟨by omega, by omega⟩ (fun c18 => ?_) (fun c18 => ?_)
        · refine zW_iload (pc' := 117) dX12_noiseOf_3.2.2.1.1 rfl rfl ?_
          refine zV_if_ne (tgt := 125) (pc' := 120) dX12_noiseOf_3.2.2.1.2 rfl rfl ⟨by omega, by omega⟩ (fun c117 => ?_) (fun c117 => ?_)
          · refine zW_iload (pc' := 127) dX12_noiseOf_4.1.1.1 rfl rfl ?_
            refine zW_iconst (pc' := 128) dX12_noiseOf_4.1.1.2 rfl ?_
            refine zV_cm_ne (tgt := 136) (pc' := 131) dX12_noiseOf_4.1.2.1 rfl rfl ⟨by omega, by omega⟩ ⟨by omega, by omega⟩ (fun c128 => ?_) (fun c128 => ?_)
            · refine zW_iload (pc' := 138) dX12_noiseOf_4.2.1.2 rfl rfl ?_
              exact zV_iret rfl dX12_noiseOf_4.2.2 ⟨rfl, (by unfold nz3; first | (rw [if_pos (by omega), gc0, show v8 = κ 0 12 by omega]) | (rw [if_neg (by omega), if_pos (by omega), gc1, show v8 = κ 0 12 by omega]) | (rw [if_neg (by omega), if_neg (by omega), gc2, show v8 = κ 0 12 by omega]))⟩
            · refine zW_iload (pc' := 133) dX12_noiseOf_4.1.2.2 rfl rfl ?_
              refine zV_goto 138 dX12_noiseOf_4.2.1.1 rfl ?_
              exact zV_iret rfl dX12_noiseOf_4.2.2 ⟨rfl, (by unfold nz3; first | (rw [if_pos (by omega), gc0, show v8 = κ 0 12 by omega]) | (rw [if_neg (by omega), if_pos (by omega), gc1, show v8 = κ 0 12 by omega]) | (rw [if_neg (by omega), if_neg (by omega), gc2, show v8 = κ 0 12 by omega]))⟩
          · refine zW_iload (pc' := 122) dX12_noiseOf_3.2.2.2.1 rfl rfl ?_
            refine zV_goto 138 dX12_noiseOf_3.2.2.2.2 rfl ?_
            exact zV_iret rfl dX12_noiseOf_4.2.2 ⟨rfl, (by unfold nz3; first | (rw [if_pos (by omega), gc0, show v8 = κ 0 12 by omega]) | (rw [if_neg (by omega), if_pos (by omega), gc1, show v8 = κ 0 12 by omega]) | (rw [if_neg (by omega), if_neg (by omega), gc2, show v8 = κ 0 12 by omega]))⟩
        · refine zW_iconst (pc' := 22) dX12_noiseOf_0.2.2.1.1 rfl ?_
          refine zW_istore (ls' := [_, _, _, _, _, _, _, _, _, _, _, _]) (pc' := 24) dX12_noiseOf_0.2.2.1.2 (by decide) rfl rfl rfl ?_
          exact k24 _ _ _ _ _ (by omega) (by omega) (by omega) (by omega) (by omega) (by omega) (by omega) (by first | (rw [sg0, t0, gc0]; omega) | (rw [gc0]; exact (Int.add_zero _).symm)) (by first | (rw [sg1, t1, gc1, ← hd]; omega) | (rw [sg1, t1, gc1]; omega) | (rw [gc1]; exact (Int.add_zero _).symm)) (by first | (rw [sg2, t1, max2_0 hR7]; exact gc2) | (rw [sg2, t1, ← max2_as, ← gc2, ← hd]; omega) | (rw [gc2]; exact (max2_0 (mxS_n _)).symm)) (by omega) (by omega) (by omega)
      · intro v5 v6 v7 v8 v9 g0 g1 g2 g3 g4 g5 g6 gc0 gc1 gc2 gc3 gc4 hm
        refine zW_iload (pc' := 26) dX12_noiseOf_0.2.2.2.1 rfl rfl ?_
        refine zW_aload_n (pc' := 27) dX12_noiseOf_0.2.2.2.2 rfl rfl ?_
        refine zG_key (pc' := 30) hF rfl fg_X12_99 tb0 rfl dX12_noiseOf_1.1.1.1.1 rfl ?_
        refine zV_cm_ge (tgt := 109) (pc' := 33) dX12_noiseOf_1.1.1.1.2 rfl rfl ⟨by omega, by omega⟩ ⟨by omega, by omega⟩ (fun c30 => ?_) (fun c30 => ?_)
        · have ug0 := sumS_s (t := (nzT (κ 0 11) (κ 0 12) x3 g (fun _ _ => 1))) (w := (κ 0 11).toNat) (v := v8) (by omega)
          have ug1 := sumS_s (t := (nzT (κ 0 11) (κ 0 12) x3 g (ndF (κ 0 11) (κ 0 12) g))) (w := (κ 0 11).toNat) (v := v8) (by omega)
          have ug2 := mxS_s (t := (nzT (κ 0 11) (κ 0 12) x3 g (ndF (κ 0 11) (κ 0 12) g))) (w := (κ 0 11).toNat) (v := v8) (by omega)
          refine zW_iinc (ls' := [_, _, _, _, _, _, _, _, _, _, _, _]) (pc' := 112) dX12_noiseOf_3.2.1.2.1 rfl (by decide) rfl rfl rfl ?_
          refine zV_goto 12 dX12_noiseOf_3.2.1.2.2 rfl ?_
          refine zV_clr 9 (ls' := [_, _, _, _, _, _, _, _, _, _, _, _]) rfl ?_
          exact k12 _ _ _ _ (by omega) (by omega) (by omega) (by omega) (by omega) (by first | rfl | (rw [ug0, gc0, show v9 = κ 0 11 by omega])) (by first | rfl | (rw [ug1, gc1, show v9 = κ 0 11 by omega])) (by first | rfl | (rw [ug2, gc2, show v9 = κ 0 11 by omega])) (by omega) (by omega) (by omega)
        · have sg0 := sumR_s (t := (nzT (κ 0 11) (κ 0 12) x3 g (fun _ _ => 1))) (y := v8) (v := v9) (by omega)
          have sg1 := sumR_s (t := (nzT (κ 0 11) (κ 0 12) x3 g (ndF (κ 0 11) (κ 0 12) g))) (y := v8) (v := v9) (by omega)
          have sg2 := mxR_s (t := (nzT (κ 0 11) (κ 0 12) x3 g (ndF (κ 0 11) (κ 0 12) g))) (y := v8) (v := v9) (by omega)
          have mx := mir_i (v := v9) (n := κ 0 11) ⟨by omega, by omega⟩
          have my := mir_i (v := v8) (n := κ 0 12) ⟨by omega, by omega⟩
          refine zW_aload_n (pc' := 34) dX12_noiseOf_1.1.1.2.1 rfl rfl ?_
          refine zW_iload_n (pc' := 35) dX12_noiseOf_1.1.1.2.2 rfl rfl ?_
          refine zW_iload_n (pc' := 36) dX12_noiseOf_1.1.2.1.1 rfl rfl ?_
          refine zW_iload (pc' := 38) dX12_noiseOf_1.1.2.1.2 rfl rfl ?_
          refine zW_iload (pc' := 40) dX12_noiseOf_1.1.2.2.1 rfl rfl ?_
          refine cvI4 (pc' := 43) kX12_blurAt vX12_blurAt lk_X12_319 ⟨Nat.le_of_ble_eq_true rfl, Nat.le_of_ble_eq_true rfl⟩ tb0 vq12 rfl rfl (s_X12_blurAtZ hK hF _ ⟨by omega, by omega⟩ _ ⟨by omega, by omega⟩ _ ⟨by omega, by omega, by omega⟩ _ ⟨by omega, by omega, by omega⟩ g hg hgb) dX12_noiseOf_1.1.2.2.2 (Nat.le_of_ble_eq_true rfl) rfl ?_
          rintro r40 z40 ⟨hz40, p40⟩; subst z40
          refine zW_istore (ls' := [_, _, _, _, _, _, _, _, _, _, _, _]) (pc' := 45) dX12_noiseOf_1.2.1.1.1 (by decide) rfl rfl rfl ?_
          refine zW_iload_n (pc' := 46) dX12_noiseOf_1.2.1.1.2 rfl rfl ?_
          refine zW_iconst (pc' := 47) dX12_noiseOf_1.2.1.2.1 rfl ?_
          refine zV_cm_ge (tgt := 63) (pc' := 50) dX12_noiseOf_1.2.1.2.2 rfl rfl ⟨by omega, by omega⟩ ⟨by omega, by omega⟩ (fun c47 => ?_) (fun c47 => ?_)
          · have hc : x3 = 4 ∨ blr (κ 0 11) (κ 0 12) g v9 v8 / 1024 = x3 := by rw [← p40.2.2]; omega
            have t0 : (nzT (κ 0 11) (κ 0 12) x3 g (fun _ _ => 1)) v9 v8 = 1 := if_pos hc
            have t1 : (nzT (κ 0 11) (κ 0 12) x3 g (ndF (κ 0 11) (κ 0 12) g)) v9 v8 = ndF (κ 0 11) (κ 0 12) g v9 v8 := if_pos hc
            refine zW_aload_n (pc' := 64) dX12_noiseOf_2.1.1.2.1 rfl rfl ?_
            refine zW_iload_n (pc' := 65) dX12_noiseOf_2.1.1.2.2 rfl rfl ?_
            refine zW_iload_n (pc' := 66) dX12_noiseOf_2.1.2.1.1 rfl rfl ?_
            refine zW_iload (pc' := 68) dX12_noiseOf_2.1.2.1.2 rfl rfl ?_
            refine zW_iload (pc' := 70) dX12_noiseOf_2.1.2.2.1 rfl rfl ?_
            refine cvI4 (pc' := 73) kX12_at vX12_at lk_X12_277 ⟨Nat.le_of_ble_eq_true rfl, Nat.le_of_ble_eq_true rfl⟩ tb0 vq12 rfl rfl (s_X12_atZ hK hF _ ⟨by omega, by omega⟩ _ ⟨by omega, by omega⟩ _ ⟨by omega, by omega, by omega⟩ _ ⟨by omega, by omega, by omega⟩ g hg hgb) dX12_noiseOf_2.1.2.2.2 (Nat.le_of_ble_eq_true rfl) rfl ?_
            rintro r70 z70 ⟨hz70, p70⟩; subst z70
            refine zW_iload (pc' := 75) dX12_noiseOf_2.2.1.1.1 rfl rfl ?_
            refine zW_isub (pc' := 76) dX12_noiseOf_2.2.1.1.2 rfl ?_
            refine csI1 (pc' := 79) kX12_size vX12_size lk_X12_257 ⟨Nat.le_of_ble_eq_true rfl, Nat.le_of_ble_eq_true rfl⟩ rfl (s_X12_sizeR hF _ ⟨by omega, by omega⟩) dX12_noiseOf_2.2.1.2.1 (Nat.le_of_ble_eq_true rfl) rfl ?_
            rintro r76 z76 ⟨hz76, p76⟩; subst z76
            have hd : r76 = ndF (κ 0 11) (κ 0 12) g v9 v8 := by (have z := abc (r70 - r40); unfold ndF; rw [mx, my] at p70; rw [← p70.2.2, ← p40.2.2]; omega)
            refine zW_istore (ls' := [_, _, _, _, _, _, _, _, _, _, _, _]) (pc' := 81) dX12_noiseOf_2.2.1.2.2 (by decide) rfl rfl rfl ?_
            refine zW_iload (pc' := 83) dX12_noiseOf_2.2.2.1.1 rfl rfl ?_
            refine zW_iconst (pc' := 84) dX12_noiseOf_2.2.2.1.2 rfl ?_
            refine zW_iadd (pc' := 85) dX12_noiseOf_2.2.2.2.1 rfl ?_
            refine zW_istore (ls' := [_, _, _, _, _, _, _, _, _, _, _, _]) (pc' := 87) dX12_noiseOf_2.2.2.2.2 (by decide) rfl rfl rfl ?_
            refine zW_iload (pc' := 89) dX12_noiseOf_3.1.1.1.1 rfl rfl ?_
            refine zW_iload (pc' := 91) dX12_noiseOf_3.1.1.1.2 rfl rfl ?_
            refine zW_iadd (pc' := 92) dX12_noiseOf_3.1.1.2.1 rfl ?_
            refine zW_istore (ls' := [_, _, _, _, _, _, _, _, _, _, _, _]) (pc' := 94) dX12_noiseOf_3.1.1.2.2 (by decide) rfl rfl rfl ?_
            refine zW_iload (pc' := 96) dX12_noiseOf_3.1.2.1.1 rfl rfl ?_
            refine zW_iload (pc' := 98) dX12_noiseOf_3.1.2.1.2 rfl rfl ?_
            refine csI2 (pc' := 101) kX12_max vX12_max lk_X12_113 ⟨Nat.le_of_ble_eq_true rfl, Nat.le_of_ble_eq_true rfl⟩ rfl (s_X12_maxR hF _ ⟨by omega, by omega⟩ _ ⟨by omega, by omega⟩) dX12_noiseOf_3.1.2.2.1 (Nat.le_of_ble_eq_true rfl) rfl ?_
            rintro r98 z98 ⟨hz98, p98⟩; subst z98
            have hm := max2c v7 r76
            refine zW_istore (ls' := [_, _, _, _, _, _, _, _, _, _, _, _]) (pc' := 103) dX12_noiseOf_3.1.2.2.2 (by decide) rfl rfl rfl ?_
            refine zW_iinc (ls' := [_, _, _, _, _, _, _, _, _, _, _, _]) (pc' := 106) dX12_noiseOf_3.2.1.1.1 rfl (by decide) rfl rfl rfl ?_
            refine zV_goto 24 dX12_noiseOf_3.2.1.1.2 rfl ?_
            refine zV_clr 10 (ls' := [_, _, _, _, _, _, _, _, _, _, _, _]) rfl ?_
            refine zV_clr 11 (ls' := [_, _, _, _, _, _, _, _, _, _, _, _]) rfl ?_
            exact k24 _ _ _ _ _ (by omega) (by omega) (by omega) (by omega) (by omega) (by omega) (by omega) (by first | (rw [sg0, t0, gc0]; omega) | (rw [gc0]; exact (Int.add_zero _).symm)) (by first | (rw [sg1, t1, gc1, ← hd]; omega) | (rw [sg1, t1, gc1]; omega) | (rw [gc1]; exact (Int.add_zero _).symm)) (by first | (rw [sg2, t1, max2_0 hR7]; exact gc2) | (rw [sg2, t1, ← max2_as, ← gc2, ← hd]; omega) | (rw [gc2]; exact (max2_0 (mxS_n _)).symm)) (by omega) (by omega) (by omega)
          · refine zW_iload (pc' := 52) dX12_noiseOf_1.2.2.1.1 rfl rfl ?_
            refine zW_sipush (pc' := 55) dX12_noiseOf_1.2.2.1.2 rfl rfl ?_
            refine zW_idiv (pc' := 56) (by omega) (by omega) dX12_noiseOf_1.2.2.2.1 rfl ?_
            refine zW_iload_n (pc' := 57) dX12_noiseOf_1.2.2.2.2 rfl rfl ?_
            refine zV_cm_eq (tgt := 63) (pc' := 60) dX12_noiseOf_2.1.1.1.1 rfl rfl ⟨by omega, by omega⟩ ⟨by omega, by omega⟩ (fun c57 => ?_) (fun c57 => ?_)
            · have hc : x3 = 4 ∨ blr (κ 0 11) (κ 0 12) g v9 v8 / 1024 = x3 := by rw [← p40.2.2]; omega
              have t0 : (nzT (κ 0 11) (κ 0 12) x3 g (fun _ _ => 1)) v9 v8 = 1 := if_pos hc
              have t1 : (nzT (κ 0 11) (κ 0 12) x3 g (ndF (κ 0 11) (κ 0 12) g)) v9 v8 = ndF (κ 0 11) (κ 0 12) g v9 v8 := if_pos hc
              refine zW_aload_n (pc' := 64) dX12_noiseOf_2.1.1.2.1 rfl rfl ?_
              refine zW_iload_n (pc' := 65) dX12_noiseOf_2.1.1.2.2 rfl rfl ?_
              refine zW_iload_n (pc' := 66) dX12_noiseOf_2.1.2.1.1 rfl rfl ?_
              refine zW_iload (pc' := 68) dX12_noiseOf_2.1.2.1.2 rfl rfl ?_
              refine zW_iload (pc' := 70) dX12_noiseOf_2.1.2.2.1 rfl rfl ?_
              refine cvI4 (pc' := 73) kX12_at vX12_at lk_X12_277 ⟨Nat.le_of_ble_eq_true rfl, Nat.le_of_ble_eq_true rfl⟩ tb0 vq12 rfl rfl (s_X12_atZ hK hF _ ⟨by omega, by omega⟩ _ ⟨by omega, by omega⟩ _ ⟨by omega, by omega, by omega⟩ _ ⟨by omega, by omega, by omega⟩ g hg hgb) dX12_noiseOf_2.1.2.2.2 (Nat.le_of_ble_eq_true rfl) rfl ?_
              rintro r70 z70 ⟨hz70, p70⟩; subst z70
              refine zW_iload (pc' := 75) dX12_noiseOf_2.2.1.1.1 rfl rfl ?_
              refine zW_isub (pc' := 76) dX12_noiseOf_2.2.1.1.2 rfl ?_
              refine csI1 (pc' := 79) kX12_size vX12_size lk_X12_257 ⟨Nat.le_of_ble_eq_true rfl, Nat.le_of_ble_eq_true rfl⟩ rfl (s_X12_sizeR hF _ ⟨by omega, by omega⟩) dX12_noiseOf_2.2.1.2.1 (Nat.le_of_ble_eq_true rfl) rfl ?_
              rintro r76 z76 ⟨hz76, p76⟩; subst z76
              have hd : r76 = ndF (κ 0 11) (κ 0 12) g v9 v8 := by (have z := abc (r70 - r40); unfold ndF; rw [mx, my] at p70; rw [← p70.2.2, ← p40.2.2]; omega)
              refine zW_istore (ls' := [_, _, _, _, _, _, _, _, _, _, _, _]) (pc' := 81) dX12_noiseOf_2.2.1.2.2 (by decide) rfl rfl rfl ?_
              refine zW_iload (pc' := 83) dX12_noiseOf_2.2.2.1.1 rfl rfl ?_
              refine zW_iconst (pc' := 84) dX12_noiseOf_2.2.2.1.2 rfl ?_
              refine zW_iadd (pc' := 85) dX12_noiseOf_2.2.2.2.1 rfl ?_
              refine zW_istore (ls' := [_, _, _, _, _, _, _, _, _, _, _, _]) (pc' := 87) dX12_noiseOf_2.2.2.2.2 (by decide) rfl rfl rfl ?_
              refine zW_iload (pc' := 89) dX12_noiseOf_3.1.1.1.1 rfl rfl ?_
              refine zW_iload (pc' := 91) dX12_noiseOf_3.1.1.1.2 rfl rfl ?_
              refine zW_iadd (pc' := 92) dX12_noiseOf_3.1.1.2.1 rfl ?_
              refine zW_istore (ls' := [_, _, _, _, _, _, _, _, _, _, _, _]) (pc' := 94) dX12_noiseOf_3.1.1.2.2 (by decide) rfl rfl rfl ?_
              refine zW_iload (pc' := 96) dX12_noiseOf_3.1.2.1.1 rfl rfl ?_
              refine zW_iload (pc' := 98) dX12_noiseOf_3.1.2.1.2 rfl rfl ?_
              refine csI2 (pc' := 101) kX12_max vX12_max lk_X12_113 ⟨Nat.le_of_ble_eq_true rfl, Nat.le_of_ble_eq_true rfl⟩ rfl (s_X12_maxR hF _ ⟨by omega, by omega⟩ _ ⟨by omega, by omega⟩) dX12_noiseOf_3.1.2.2.1 (Nat.le_of_ble_eq_true rfl) rfl ?_
              rintro r98 z98 ⟨hz98, p98⟩; subst z98
              have hm := max2c v7 r76
              refine zW_istore (ls' := [_, _, _, _, _, _, _, _, _, _, _, _]) (pc' := 103) dX12_noiseOf_3.1.2.2.2 (by decide) rfl rfl rfl ?_
              refine zW_iinc (ls' := [_, _, _, _, _, _, _, _, _, _, _, _]) (pc' := 106) dX12_noiseOf_3.2.1.1.1 rfl (by decide) rfl rfl rfl ?_
              refine zV_goto 24 dX12_noiseOf_3.2.1.1.2 rfl ?_
              refine zV_clr 10 (ls' := [_, _, _, _, _, _, _, _, _, _, _, _]) rfl ?_
              refine zV_clr 11 (ls' := [_, _, _, _, _, _, _, _, _, _, _, _]) rfl ?_
              exact k24 _ _ _ _ _ (by omega) (by omega) (by omega) (by omega) (by omega) (by omega) (by omega) (by first | (rw [sg0, t0, gc0]; omega) | (rw [gc0]; exact (Int.add_zero _).symm)) (by first | (rw [sg1, t1, gc1, ← hd]; omega) | (rw [sg1, t1, gc1]; omega) | (rw [gc1]; exact (Int.add_zero _).symm)) (by first | (rw [sg2, t1, max2_0 hR7]; exact gc2) | (rw [sg2, t1, ← max2_as, ← gc2, ← hd]; omega) | (rw [gc2]; exact (max2_0 (mxS_n _)).symm)) (by omega) (by omega) (by omega)
            · have hc : ¬ (x3 = 4 ∨ blr (κ 0 11) (κ 0 12) g v9 v8 / 1024 = x3) := by rw [← p40.2.2]; omega
              have t0 : (nzT (κ 0 11) (κ 0 12) x3 g (fun _ _ => 1)) v9 v8 = 0 := if_neg hc
              have t1 : (nzT (κ 0 11) (κ 0 12) x3 g (ndF (κ 0 11) (κ 0 12) g)) v9 v8 = 0 := if_neg hc
              have hR7 := mxR_n (t := (nzT (κ 0 11) (κ 0 12) x3 g (ndF (κ 0 11) (κ 0 12) g))) (y := v8) v9.toNat
              refine zV_goto 103 dX12_noiseOf_2.1.1.1.2 rfl ?_
              refine zW_iinc (ls' := [_, _, _, _, _, _, _, _, _, _, _, _]) (pc' := 106) dX12_noiseOf_3.2.1.1.1 rfl (by decide) rfl rfl rfl ?_
              refine zV_goto 24 dX12_noiseOf_3.2.1.1.2 rfl ?_
              refine zV_clr 10 (ls' := [_, _, _, _, _, _, _, _, _, _, _, _]) rfl ?_
              exact k24 _ _ _ _ _ (by omega) (by omega) (by omega) (by omega) (by omega) (by omega) (by omega) (by first | (rw [sg0, t0, gc0]; omega) | (rw [gc0]; exact (Int.add_zero _).symm)) (by first | (rw [sg1, t1, gc1, ← hd]; omega) | (rw [sg1, t1, gc1]; omega) | (rw [gc1]; exact (Int.add_zero _).symm)) (by first | (rw [sg2, t1, max2_0 hR7]; exact gc2) | (rw [sg2, t1, ← max2_as, ← gc2, ← hd]; omega) | (rw [gc2]; exact (max2_0 (mxS_n _)).symm)) (by omega) (by omega) (by omega)
  refine zM_of [some (.inr (.inr 0)), some (.inl x1), some (.inl x2), some (.inl x3), some (.inl x4), none, none, none, none, none, none, none] 7 rfl rfl (Nat.le_of_ble_eq_true rfl) rfl ?_
  refine zW_iconst (pc' := 1) dX12_noiseOf_0.1.1.1.1 rfl ?_
  refine zW_istore (ls' := [_, _, _, _, _, _, _, _, _, _, _, _]) (pc' := 3) dX12_noiseOf_0.1.1.1.2 (by decide) rfl rfl rfl ?_
  refine zW_iconst (pc' := 4) dX12_noiseOf_0.1.1.2.1 rfl ?_
  refine zW_istore (ls' := [_, _, _, _, _, _, _, _, _, _, _, _]) (pc' := 6) dX12_noiseOf_0.1.1.2.2 (by decide) rfl rfl rfl ?_
  refine zW_iconst (pc' := 7) dX12_noiseOf_0.1.2.1.1 rfl ?_
  refine zW_istore (ls' := [_, _, _, _, _, _, _, _, _, _, _, _]) (pc' := 9) dX12_noiseOf_0.1.2.1.2 (by decide) rfl rfl rfl ?_
  refine zW_iconst (pc' := 10) dX12_noiseOf_0.1.2.2.1 rfl ?_
  refine zW_istore (ls' := [_, _, _, _, _, _, _, _, _, _, _, _]) (pc' := 12) dX12_noiseOf_0.1.2.2.2 (by decide) rfl rfl rfl ?_
  exact (main 10000000000000000000000000000000000000000).1 _ _ _ _ (by omega) (by omega) (by omega) (by omega) (by omega) (by first | rfl | (rw [ug0, gc0, show v9 = κ 0 11 by omega])) (by first | rfl | (rw [ug1, gc1, show v9 = κ 0 11 by omega])) (by first | rfl | (rw [ug2, gc2, show v9 = κ 0 11 by omega])) (by omega) (by omega) (by omega)

abbrev q_X12_noiseZ (b : Bd) (κ : Hp) (x1 : Int) (x2 : Int) (x3 : Int) (x4 : Int) : Int → Hp → Prop := fun r h' => Fr b κ h' ∧ ((r = nsQ (κ 0 11) (κ 0 12) (κ 0 13) (κ 0 14) (ltV (κ 3) (κ 0 14)) (bhV (κ 3) (κ 0 14)) (pcV (κ 0 14) (PF κ)) (nmV (κ 0 14) (XN (κ 4) (κ 5))) x1 x2 x3 x4))
set_option maxHeartbeats 4000000 in
set_option maxRecDepth 20000 in
theorem s_X12_noiseZ {G : Ga} {b : Bd} {κ h : Hp} (hK : KR κ) (hF : Fr b.fo κ h) (x1 : Int) (hx1 : rng x1) (x2 : Int) (hx2 : rng x2) (x3 : Int) (hx3 : rng x3) (x4 : Int) (hx4 : rng x4) (hLw : LeavesW b) (hV : VOK (κ 1)) (hE : EaOK (κ 3) (κ 0 14)) : zM G mX12_noise yX12_noise [.inr (.inr 0), .inl x1, .inl x2, .inl x3, .inl x4] h (q_X12_noiseZ b.fo κ x1 x2 x3 x4) := by
  have f_0_11 := KRw hK
  have f_0_12 := KRh hK
  have f_0_13 := KRp hK
  have f_0_14 := KRm hK
  unfold rng at hx1
  unfold rng at hx2
  unfold rng at hx3
  unfold rng at hx4
  refine zM_of [some (.inr (.inr 0)), some (.inl x1), some (.inl x2), some (.inl x3), some (.inl x4)] 0 rfl rfl (Nat.le_of_ble_eq_true rfl) rfl ?_
  refine zW_aload_n (pc' := 1) dX12_noise_0.1.1.1.1 rfl rfl ?_
  refine zW_iload_n (pc' := 2) dX12_noise_0.1.1.1.2 rfl rfl ?_
  refine zW_iload_n (pc' := 3) dX12_noise_0.1.1.2.1 rfl rfl ?_
  refine cvI2 (pc' := 6) kX12_isLeftOf vX12_isLeftOf lk_X12_406 ⟨Nat.le_of_ble_eq_true rfl, Nat.le_of_ble_eq_true rfl⟩ tb0 vq12 rfl rfl (s_X12_isLeftOfZ hK hF _ ⟨by omega, by omega⟩ _ ⟨by omega, by omega⟩) dX12_noise_0.1.1.2.2 (Nat.le_of_ble_eq_true rfl) rfl ?_
  rintro r3 z3 ⟨hz3, p3⟩; subst z3
  refine zV_if_eq (tgt := 28) (pc' := 9) dX12_noise_0.1.2.1.1 rfl rfl ⟨by omega, by omega⟩ (fun c6 => ?_) (fun c6 => ?_)
  · refine zW_iconst (pc' := 29) dX12_noise_0.2.2.2.2 rfl ?_
    exact zV_iret rfl dX12_noise_1.1.1.1.1 ⟨hF, (by unfold nsQ; rw [if_neg (by omega)])⟩
  · refine zW_iload_n (pc' := 10) dX12_noise_0.1.2.1.2 rfl rfl ?_
    refine zW_iconst (pc' := 11) dX12_noise_0.1.2.2.1 rfl ?_
    refine zW_iconst (pc' := 12) dX12_noise_0.1.2.2.2 rfl ?_
    refine csI3 (pc' := 15) kX12_in vX12_in lk_X12_140 ⟨Nat.le_of_ble_eq_true rfl, Nat.le_of_ble_eq_true rfl⟩ rfl (s_X12_inR hF _ ⟨by omega, by omega⟩ _ ⟨by omega, by omega⟩ _ ⟨by omega, by omega⟩) dX12_noise_0.2.1.1.1 (Nat.le_of_ble_eq_true rfl) rfl ?_
    rintro r12 z12 ⟨hz12, p12⟩; subst z12
    refine zV_if_eq (tgt := 28) (pc' := 18) dX12_noise_0.2.1.1.2 rfl rfl ⟨by omega, by omega⟩ (fun c15 => ?_) (fun c15 => ?_)
    · refine zW_iconst (pc' := 29) dX12_noise_0.2.2.2.2 rfl ?_
      exact zV_iret rfl dX12_noise_1.1.1.1.1 ⟨hF, (by unfold nsQ; rw [if_neg (by omega)])⟩
    · refine zW_iload (pc' := 20) dX12_noise_0.2.1.2.1 rfl rfl ?_
      refine zW_iconst (pc' := 21) dX12_noise_0.2.1.2.2 rfl ?_
      refine zW_iconst (pc' := 22) dX12_noise_0.2.2.1.1 rfl ?_
      refine csI3 (pc' := 25) kX12_in vX12_in lk_X12_140 ⟨Nat.le_of_ble_eq_true rfl, Nat.le_of_ble_eq_true rfl⟩ rfl (s_X12_inR hF _ ⟨by omega, by omega⟩ _ ⟨by omega, by omega⟩ _ ⟨by omega, by omega⟩) dX12_noise_0.2.2.1.2 (Nat.le_of_ble_eq_true rfl) rfl ?_
      rintro r22 z22 ⟨hz22, p22⟩; subst z22
      refine zV_if_ne (tgt := 30) (pc' := 28) dX12_noise_0.2.2.2.1 rfl rfl ⟨by omega, by omega⟩ (fun c25 => ?_) (fun c25 => ?_)
      · refine zW_aload_n (pc' := 31) dX12_noise_1.1.1.1.2 rfl rfl ?_
        refine zW_iload_n (pc' := 32) dX12_noise_1.1.1.2.1 rfl rfl ?_
        refine cvI1 (pc' := 35) kX12_isBehind vX12_isBehind lk_X12_380 ⟨Nat.le_of_ble_eq_true rfl, Nat.le_of_ble_eq_true rfl⟩ tb0 vq12 rfl rfl (s_X12_isBehindZ hK hF _ ⟨by omega, by omega, by omega⟩) dX12_noise_1.1.1.2.2 (Nat.le_of_ble_eq_true rfl) rfl ?_
        rintro r32 z32 ⟨hz32, p32⟩; subst z32
        refine zV_if_ne (tgt := 41) (pc' := 38) dX12_noise_1.1.2.1.1 rfl rfl ⟨by omega, by omega⟩ (fun c35 => ?_) (fun c35 => ?_)
        · refine zW_aload_n (pc' := 42) dX12_noise_1.1.2.2.2 rfl rfl ?_
          refine cvV0 (pc' := 45) kX12_leaves vX12_leaves lk_X12_377 ⟨Nat.le_of_ble_eq_true rfl, Nat.le_of_ble_eq_true rfl⟩ tb0 vq12 rfl rfl (hLw hK hF) dX12_noise_1.2.1.1.1 (Nat.le_of_ble_eq_true rfl) rfl ?_
          rintro r42 h ⟨hF, p42⟩
          have hbc := bhI_c (κ 3) x1.toNat
          have hnn : ¬ noF (κ 3) x1.toNat := by rcases hbc with q | q; (exfalso; omega); exact q.2
          have hF3 := (p42.2 x1.toNat (by omega)).2 hnn
          rw [show ((x1.toNat : Nat) : Int) = x1 by omega] at hF3
          have hb3 := PF_b hK hV x1.toNat
          refine zW_aload_n (pc' := 46) dX12_noise_1.2.1.1.2 rfl rfl ?_
          refine zW_iload_n (pc' := 47) dX12_noise_1.2.1.2.1 rfl rfl ?_
          refine zW_iload_n (pc' := 48) dX12_noise_1.2.1.2.2 rfl rfl ?_
          refine zW_iload_n (pc' := 49) dX12_noise_1.2.2.1.1 rfl rfl ?_
          refine zW_iload (pc' := 51) dX12_noise_1.2.2.1.2 rfl rfl ?_
          refine cvI4 (pc' := 54) kX12_noiseOf vX12_noiseOf lk_X12_418 ⟨Nat.le_of_ble_eq_true rfl, Nat.le_of_ble_eq_true rfl⟩ tb0 vq12 rfl rfl (s_X12_noiseOfZ hK hF _ ⟨by omega, by omega⟩ _ ⟨by omega, by omega⟩ _ ⟨by omega, by omega⟩ _ ⟨by omega, by omega⟩ (PF κ x1.toNat x2) (hF3 x2 (by omega)) (hb3 x2 (by omega))) dX12_noise_1.2.2.2.1 (Nat.le_of_ble_eq_true rfl) rfl ?_
          rintro r51 z51 ⟨hz51, p51⟩; subst z51
          exact zV_iret rfl dX12_noise_1.2.2.2.2 ⟨hF, (by unfold nsQ; rw [if_pos ⟨by omega, by omega, by omega, by omega, by omega, by omega, by omega, by omega⟩, bhV_in ⟨by omega, by omega⟩, if_pos (by omega), pcV_in ⟨by omega, by omega⟩]; exact p51)⟩
        · refine zW_bipush (pc' := 40) dX12_noise_1.1.2.1.2 rfl rfl ?_
          exact zV_iret rfl dX12_noise_1.1.2.2.1 ⟨hF, (by unfold nsQ; rw [if_pos ⟨by omega, by omega, by omega, by omega, by omega, by omega, by omega, by omega⟩, bhV_in ⟨by omega, by omega⟩, if_neg (by omega)])⟩
      · refine zW_iconst (pc' := 29) dX12_noise_0.2.2.2.2 rfl ?_
        exact zV_iret rfl dX12_noise_1.1.1.1.1 ⟨hF, (by unfold nsQ; rw [if_neg (by omega)])⟩

abbrev q_X7_isBehindFZ (κ h : Hp) (x1 : Int) : Int → Hp → Prop := fun r h' => h' = h ∧ ((0 ≤ r) ∧ (r ≤ 1) ∧ (r = bhI (LC κ) x1.toNat))
set_option maxHeartbeats 4000000 in
set_option maxRecDepth 20000 in
theorem s_X7_isBehindFZ {G : Ga} {b : Bd} {κ h : Hp} (hK : KC κ) (hF : Fr b κ h) (x1 : Int) (hx1 : 0 ≤ x1 ∧ x1 ≤ 12 ∧ x1 - κ 41 0 ≤ 0) (hfB : ∀ k : Nat, (k : Int) ≤ κ 41 0 → ((0 < κ 41 1 ∧ κ 41 1 ≤ (k : Int)) ↔ bhI (LC κ) k = 1)) : zM G mX7_isBehindF yX7_isBehindF [.inr (.inr 41), .inl x1] h (q_X7_isBehindFZ κ h x1) := by
  have f_41_0 := KCm hK
  have f_41_1 := KCf hK
  refine zM_of [some (.inr (.inr 41)), some (.inl x1)] 0 rfl rfl (Nat.le_of_ble_eq_true rfl) rfl ?_
  refine zW_aload_n (pc' := 1) dX7_isBehindF_0.1.1.1.1 rfl rfl ?_
  refine zG_key (pc' := 4) hF rfl fg_X7_25 tb41 rfl dX7_isBehindF_0.1.1.1.2 rfl ?_
  refine zV_if_le (tgt := 19) (pc' := 7) dX7_isBehindF_0.1.1.2 rfl rfl ⟨by omega, by omega⟩ (fun c4 => ?_) (fun c4 => ?_)
  · refine zW_iconst (pc' := 20) dX7_isBehindF_0.2.2.1 rfl ?_
    exact zV_zret rfl (by omega) dX7_isBehindF_0.2.2.2 ⟨rfl, (by have z := hfB x1.toNat (by omega); rw [show ((x1.toNat : Nat) : Int) = x1 by omega] at z; have c := bhI_c (LC κ) x1.toNat; omega)⟩
  · refine zW_iload_n (pc' := 8) dX7_isBehindF_0.1.2.1.1 rfl rfl ?_
    refine zW_aload_n (pc' := 9) dX7_isBehindF_0.1.2.1.2 rfl rfl ?_
    refine zG_key (pc' := 12) hF rfl fg_X7_25 tb41 rfl dX7_isBehindF_0.1.2.2 rfl ?_
    refine zV_cm_lt (tgt := 19) (pc' := 15) dX7_isBehindF_0.2.1.1.1 rfl rfl ⟨by omega, by omega⟩ ⟨by omega, by omega⟩ (fun c12 => ?_) (fun c12 => ?_)
    · refine zW_iconst (pc' := 20) dX7_isBehindF_0.2.2.1 rfl ?_
      exact zV_zret rfl (by omega) dX7_isBehindF_0.2.2.2 ⟨rfl, (by have z := hfB x1.toNat (by omega); rw [show ((x1.toNat : Nat) : Int) = x1 by omega] at z; have c := bhI_c (LC κ) x1.toNat; omega)⟩
    · refine zW_iconst (pc' := 16) dX7_isBehindF_0.2.1.1.2 rfl ?_
      refine zV_goto 20 dX7_isBehindF_0.2.1.2 rfl ?_
      exact zV_zret rfl (by omega) dX7_isBehindF_0.2.2.2 ⟨rfl, (by have z := hfB x1.toNat (by omega); rw [show ((x1.toNat : Nat) : Int) = x1 by omega] at z; have c := bhI_c (LC κ) x1.toNat; omega)⟩

abbrev q_X4_findNoiseZ (b : Bd) (κ : Hp) (s1 : Nat) (x2 : Int) (x3 : Int) (g : Int → Int → Int) (gh0 : Hp) : Int → Hp → Prop := fun r h' => Fr b κ h' ∧ ((Fw [] [(95, 1), (95, 2), (95, 3)] gh0 h') ∧ (h' 95 1 = nz3 (κ 33 0) (κ 33 1) x3 0 g ∧ h' 95 2 = nz3 (κ 33 0) (κ 33 1) x3 1 g ∧ h' 95 3 = nz3 (κ 33 0) (κ 33 1) x3 2 g))
set_option maxHeartbeats 4000000 in
set_option maxRecDepth 20000 in
theorem s_X4_findNoiseZ {G : Ga} {b : Bd} {κ h : Hp} (hK : KC κ) (hF : Fr b κ h) (s1 : Nat) (hs1 : 56 ≤ s1 ∧ s1 ≤ 70) (x2 : Int) (hx2 : 0 ≤ x2 ∧ x2 ≤ 2) (x3 : Int) (hx3 : 0 ≤ x3 ∧ x3 ≤ 4) (g : Int → Int → Int) (gh0 : Hp) (hg : PlS (κ 33 0) (κ 33 1) (h (s1 + 15)) x2 g) (hgb : FB (κ 33 0) (κ 33 1) g) (hgh : Fw [] [(95, 1), (95, 2), (95, 3)] gh0 h) : zM G mX4_findNoise yX4_findNoise [.inr (.inr 95), .inr (.inr s1), .inl x2, .inl x3] h (q_X4_findNoiseZ b κ s1 x2 x3 g gh0) := by
  have f_33_0 := KCw hK
  have f_33_1 := KCh hK
  have main : ∀ N : Nat, (∀ (v4 : Int) (h : Hp), Fr b κ h → (0 ≤ v4 ∧ v4 ≤ 16) → (v4 - κ 33 1 ≤ 0) → (h 95 1 = sumS (nzT (κ 33 0) (κ 33 1) x3 g (fun _ _ => 1)) (κ 33 0).toNat v4.toNat) → (h 95 2 = sumS (nzT (κ 33 0) (κ 33 1) x3 g (ndF (κ 33 0) (κ 33 1) g)) (κ 33 0).toNat v4.toNat) → (h 95 3 = mxS (nzT (κ 33 0) (κ 33 1) x3 g (ndF (κ 33 0) (κ 33 1) g)) (κ 33 0).toNat v4.toNat) → (0 ≤ h 95 1 ∧ h 95 1 ≤ 16 * v4) → (0 ≤ h 95 2 ∧ h 95 2 ≤ 65520 * v4) → (0 ≤ h 95 3 ∧ h 95 3 ≤ 4095) → (PlS (κ 33 0) (κ 33 1) (h (s1 + 15)) x2 g) → (Fw [] [(95, 1), (95, 2), (95, 3)] gh0 h) → 97025040 + 78120 * (16 - v4) + 77004 < (N : Int) → zV G mX4_findNoise (q_X4_findNoiseZ b κ s1 x2 x3 g gh0) 18 [some (.inr (.inr 95)), some (.inr (.inr s1)), some (.inl x2), some (.inl x3), some (.inl v4), none, none, none] [] h) ∧ (∀ (v4 v5 : Int) (h : Hp), Fr b κ h → (0 ≤ v4 ∧ v4 ≤ 15) → (v4 - κ 33 1 ≤ -1) → (0 ≤ v5 ∧ v5 ≤ 16) → (v5 - κ 33 0 ≤ 0) → (h 95 1 = sumS (nzT (κ 33 0) (κ 33 1) x3 g (fun _ _ => 1)) (κ 33 0).toNat v4.toNat + sumR (nzT (κ 33 0) (κ 33 1) x3 g (fun _ _ => 1)) v4 v5.toNat) → (h 95 2 = sumS (nzT (κ 33 0) (κ 33 1) x3 g (ndF (κ 33 0) (κ 33 1) g)) (κ 33 0).toNat v4.toNat + sumR (nzT (κ 33 0) (κ 33 1) x3 g (ndF (κ 33 0) (κ 33 1) g)) v4 v5.toNat) → (h 95 3 = max2 (mxS (nzT (κ 33 0) (κ 33 1) x3 g (ndF (κ 33 0) (κ 33 1) g)) (κ 33 0).toNat v4.toNat) (mxR (nzT (κ 33 0) (κ 33 1) x3 g (ndF (κ 33 0) (κ 33 1) g)) v4 v5.toNat)) → (0 ≤ h 95 1 ∧ h 95 1 ≤ 16 * v4 + v5) → (0 ≤ h 95 2 ∧ h 95 2 ≤ 65520 * v4 + 4095 * v5) → (0 ≤ h 95 3 ∧ h 95 3 ≤ 4095) → (PlS (κ 33 0) (κ 33 1) (h (s1 + 15)) x2 g) → (Fw [] [(95, 1), (95, 2), (95, 3)] gh0 h) → 97025040 + 78120 * (16 - v4) + 68076 + 62 * (16 - v5) + 61 < (N : Int) → zV G mX4_findNoise (q_X4_findNoiseZ b κ s1 x2 x3 g gh0) 33 [some (.inr (.inr 95)), some (.inr (.inr s1)), some (.inl x2), some (.inl x3), some (.inl v4), some (.inl v5), none, none] [] h) := by
    intro N
    induction N with
    | zero =>
      refine ⟨?_, ?_⟩
      · intro v4 h hF g0 g1 gc0 gc1 gc2 gc3 gc4 gc5 hg hgh hm
        exfalso; omega
      · intro v4 v5 h hF g0 g1 g2 g3 gc0 gc1 gc2 gc3 gc4 gc5 hg hgh hm
        exfalso; omega
    | succ N ih =>
      obtain ⟨k18, k33⟩ := ih
      refine ⟨?_, ?_⟩
      · intro v4 h hF g0 g1 gc0 gc1 gc2 gc3 gc4 gc5 hg hgh hm
        refine zW_iload (pc' := 20) dX4_findNoise_0.2.1.2.2 rfl rfl ?_
        refine zW_aload_n (pc' := 21) dX4_findNoise_0.2.2.1.1 rfl rfl ?_
        refine zG_ref (pc' := 24) 33 fg_X4_19 tb95 rfl dX4_findNoise_0.2.2.1.2 rfl ?_
        refine zG_key (pc' := 27) hF rfl fg_X4_31 tb33 rfl dX4_findNoise_0.2.2.2.1 rfl ?_
        refine zV_cm_ge (tgt := 151) (pc' := 30) dX4_findNoise_0.2.2.2.2 rfl rfl ⟨by omega, by omega⟩ ⟨by omega, by omega⟩ (fun c27 => ?_) (fun c27 => ?_)
        · exact zV_vret rfl dX4_findNoise_4.2.2.2 ⟨hF, ⟨hgh, (by have e : v4 = κ 33 1 := (by omega); rw [e] at gc0 gc1 gc2; unfold nz3; exact ⟨by rw [if_pos rfl]; exact gc0, by rw [if_neg (by decide), if_pos rfl]; exact gc1, by rw [if_neg (by decide), if_neg (by decide)]; exact gc2⟩)⟩⟩
        · refine zW_iconst (pc' := 31) dX4_findNoise_1.1.1.1.1 rfl ?_
          refine zW_istore (ls' := [_, _, _, _, _, _, _, _]) (pc' := 33) dX4_findNoise_1.1.1.1.2 (by decide) rfl rfl rfl ?_
          exact k33 _ _ _ hF (by omega) (by omega) (by omega) (by omega) (by first | (rw [sg0, t0, k136.1, hy1, gc0]; omega) | (rw [sg0, t0, gc0]; omega) | (rw [gc0]; exact (Int.add_zero _).symm)) (by first | (rw [sg1, t1, k136.2.1, hy2, gc1, ← hd]; omega) | (rw [sg1, t1, gc1]; omega) | (rw [gc1]; exact (Int.add_zero _).symm)) (by first | (rw [sg2, t1, max2_0 hR7]; exact gc2) | (rw [sg2, t1, ← max2_as, ← gc2, ← hy3, ← hd]; exact k136.2.2) | (rw [gc2]; exact (max2_0 (mxS_n _)).symm)) (by omega) (by omega) (by omega) hg hgh (by omega)
      · intro v4 v5 h hF g0 g1 g2 g3 gc0 gc1 gc2 gc3 gc4 gc5 hg hgh hm
        refine zW_iload (pc' := 35) dX4_findNoise_1.1.1.2.1 rfl rfl ?_
        refine zW_aload_n (pc' := 36) dX4_findNoise_1.1.1.2.2 rfl rfl ?_
        refine zG_ref (pc' := 39) 33 fg_X4_19 tb95 rfl dX4_findNoise_1.1.2.1.1 rfl ?_
        refine zG_key (pc' := 42) hF rfl fg_X4_36 tb33 rfl dX4_findNoise_1.1.2.1.2 rfl ?_
        refine zV_cm_ge (tgt := 145) (pc' := 45) dX4_findNoise_1.1.2.2.1 rfl rfl ⟨by omega, by omega⟩ ⟨by omega, by omega⟩ (fun c42 => ?_) (fun c42 => ?_)
        · have ug0 := sumS_s (t := (nzT (κ 33 0) (κ 33 1) x3 g (fun _ _ => 1))) (w := (κ 33 0).toNat) (v := v4) (by omega)
          have ug1 := sumS_s (t := (nzT (κ 33 0) (κ 33 1) x3 g (ndF (κ 33 0) (κ 33 1) g))) (w := (κ 33 0).toNat) (v := v4) (by omega)
          have ug2 := mxS_s (t := (nzT (κ 33 0) (κ 33 1) x3 g (ndF (κ 33 0) (κ 33 1) g))) (w := (κ 33 0).toNat) (v := v4) (by omega)
          refine zW_iinc (ls' := [_, _, _, _, _, _, _, _]) (pc' := 148) dX4_findNoise_4.2.2.1.1 rfl (by decide) rfl rfl rfl ?_
          refine zV_goto 18 dX4_findNoise_4.2.2.1.2 rfl ?_
          refine zV_clr 5 (ls' := [_, _, _, _, _, _, _, _]) rfl ?_
          exact k18 _ _ hF (by omega) (by omega) (by first | (rw [z0.1]; rfl) | (rw [ug0, gc0, show v5 = κ 33 0 by omega])) (by first | (rw [z0.2.1]; rfl) | (rw [ug1, gc1, show v5 = κ 33 0 by omega])) (by first | (rw [z0.2.2]; rfl) | (rw [ug2, gc2, show v5 = κ 33 0 by omega])) (by omega) (by omega) (by omega) hg hgh (by omega)
        · have sg0 := sumR_s (t := (nzT (κ 33 0) (κ 33 1) x3 g (fun _ _ => 1))) (y := v4) (v := v5) (by omega)
          have sg1 := sumR_s (t := (nzT (κ 33 0) (κ 33 1) x3 g (ndF (κ 33 0) (κ 33 1) g))) (y := v4) (v := v5) (by omega)
          have sg2 := mxR_s (t := (nzT (κ 33 0) (κ 33 1) x3 g (ndF (κ 33 0) (κ 33 1) g))) (y := v4) (v := v5) (by omega)
          refine zW_aload_n (pc' := 46) dX4_findNoise_1.1.2.2.2 rfl rfl ?_
          refine zG_ref (pc' := 49) 33 fg_X4_19 tb95 rfl dX4_findNoise_1.2.1.1.1 rfl ?_
          refine zW_aload_n (pc' := 50) dX4_findNoise_1.2.1.1.2 rfl rfl ?_
          refine zG_lev (pc' := 53) (by omega) (by omega) fg_X4_94 dX4_findNoise_1.2.1.2.1 rfl ?_
          refine zW_iload_n (pc' := 54) dX4_findNoise_1.2.1.2.2 rfl rfl ?_
          refine zW_iload (pc' := 56) dX4_findNoise_1.2.2.1.1 rfl rfl ?_
          refine zW_iload (pc' := 58) dX4_findNoise_1.2.2.1.2 rfl rfl ?_
          refine csI5 (pc' := 61) kX11_blurOf vX11_blurOf lk_X4_97 ⟨Nat.le_of_ble_eq_true rfl, Nat.le_of_ble_eq_true rfl⟩ rfl (s_X11_blurOfZ hK hF _ ⟨by omega, by omega⟩ _ ⟨by omega, by omega⟩ _ ⟨by omega, by omega, by omega⟩ _ ⟨by omega, by omega, by omega⟩ g hg hgb) dX4_findNoise_1.2.2.2.1 (Nat.le_of_ble_eq_true rfl) rfl ?_
          rintro r58 z58 ⟨hz58, p58⟩; subst z58
          refine zW_istore (ls' := [_, _, _, _, _, _, _, _]) (pc' := 63) dX4_findNoise_1.2.2.2.2 (by decide) rfl rfl rfl ?_
          refine zW_iload_n (pc' := 64) dX4_findNoise_2.1.1.1.1 rfl rfl ?_
          refine zW_iconst (pc' := 65) dX4_findNoise_2.1.1.1.2 rfl ?_
          refine zV_cm_eq (tgt := 78) (pc' := 68) dX4_findNoise_2.1.1.2.1 rfl rfl ⟨by omega, by omega⟩ ⟨by omega, by omega⟩ (fun c65 => ?_) (fun c65 => ?_)
          · have hc : x3 = 4 ∨ blr (κ 33 0) (κ 33 1) g v5 v4 / 1024 = x3 := by rw [← p58.2.2]; omega
            have t0 : (nzT (κ 33 0) (κ 33 1) x3 g (fun _ _ => 1)) v5 v4 = 1 := if_pos hc
            have t1 : (nzT (κ 33 0) (κ 33 1) x3 g (ndF (κ 33 0) (κ 33 1) g)) v5 v4 = ndF (κ 33 0) (κ 33 1) g v5 v4 := if_pos hc
            obtain ⟨y1, hy1⟩ : ∃ z : Int, z = h 95 1 := ⟨_, rfl⟩
            obtain ⟨y2, hy2⟩ : ∃ z : Int, z = h 95 2 := ⟨_, rfl⟩
            obtain ⟨y3, hy3⟩ : ∃ z : Int, z = h 95 3 := ⟨_, rfl⟩
            refine zW_aload_n (pc' := 79) dX4_findNoise_2.2.1.1.1 rfl rfl ?_
            refine zG_lev (pc' := 82) (by omega) (by omega) fg_X4_94 dX4_findNoise_2.2.1.1.2 rfl ?_
            refine zW_iload_n (pc' := 83) dX4_findNoise_2.2.1.2.1 rfl rfl ?_
            refine zW_sipush (pc' := 86) dX4_findNoise_2.2.1.2.2 rfl rfl ?_
            refine zW_imul (pc' := 87) dX4_findNoise_2.2.2.1.1 rfl ?_
            refine zW_iload (pc' := 89) dX4_findNoise_2.2.2.1.2 rfl rfl ?_
            refine zW_bipush (pc' := 91) dX4_findNoise_2.2.2.2.1 rfl rfl ?_
            refine zW_imul (pc' := 92) dX4_findNoise_2.2.2.2.2 rfl ?_
            refine zW_iadd (pc' := 93) dX4_findNoise_3.1.1.1.1 rfl ?_
            refine zW_iload (pc' := 95) dX4_findNoise_3.1.1.1.2 rfl rfl ?_
            refine zW_iadd (pc' := 96) dX4_findNoise_3.1.1.2.1 rfl ?_
            refine zV_iald (pc' := 97) (tabL (by omega) (by omega)) (by omega) dX4_findNoise_3.1.1.2.2 (by decide) rfl ?_
            have q96 := hg.at (i := x2 * 256 + v4 * 16 + v5) (x := v5) (y := v4) ⟨by omega, by omega, by omega, by omega⟩ (by omega)
            have b96 := hgb v5 v4 ⟨by omega, by omega, by omega, by omega⟩
            rw [← q96] at b96
            refine zW_iload (pc' := 99) dX4_findNoise_3.1.2.1.1 rfl rfl ?_
            refine zW_isub (pc' := 100) dX4_findNoise_3.1.2.1.2 rfl ?_
            refine zV_mabs (pc' := 103) km_X4_79 (Nat.le_of_ble_eq_true rfl) (Nat.le_of_ble_eq_true rfl) dX4_findNoise_3.1.2.2.1 rfl (fun v100 e100 => ?_)
            replace e100 := e100.2 ⟨by omega, by omega⟩ (by omega)
            have hd : v100 = ndF (κ 33 0) (κ 33 1) g v5 v4 := by (have z := abc (h (s1 + 15) (x2 * 256 + v4 * 16 + v5).toNat - r58); unfold ndF; rw [← p58.2.2, ← q96]; omega)
            have hdb : 0 ≤ v100 ∧ v100 ≤ 4095 := by omega
            refine zW_istore (ls' := [_, _, _, _, _, _, _, _]) (pc' := 105) dX4_findNoise_3.1.2.2.2 (by decide) rfl rfl rfl ?_
            refine zW_aload_n (pc' := 106) dX4_findNoise_3.2.1.1.1 rfl rfl ?_
            refine zW_dup (pc' := 107) dX4_findNoise_3.2.1.1.2 rfl rfl ?_
            refine zG_int (pc' := 110) fg_X4_85 tb95 rfl dX4_findNoise_3.2.1.2.1 rfl ?_
            refine zW_iconst (pc' := 111) dX4_findNoise_3.2.1.2.2 rfl ?_
            refine zW_iadd (pc' := 112) dX4_findNoise_3.2.2.1.1 rfl ?_
            refine zP_scf (pc' := 115) hF rfl fp_X4_85 tb95 rfl dX4_findNoise_3.2.2.1.2 rfl (fun h i112 hF a112 b112 w112 => ?_)
            replace b112 := b112 ⟨by omega, by omega⟩
            replace hgh : Fw [] [(95, 1), (95, 2), (95, 3)] gh0 h := by rw [w112]; exact hgh.wf (by simp)
            replace hg : PlS (κ 33 0) (κ 33 1) (h (s1 + 15)) x2 g := by have q0_ := (congrFun w112 (s1 + 15)).trans (zfun (by omega)); rw [q0_]; exact hg
            have k112 : h 95 1 = y1 + 1 ∧ h 95 2 = y2 ∧ h 95 3 = y3 := by rw [w112, b112]; exact ⟨zwr_eq.trans (by rw [hy1]), (zwr_ne (Or.inr (by decide))).trans hy2.symm, (zwr_ne (Or.inr (by decide))).trans hy3.symm⟩
            refine zW_aload_n (pc' := 116) dX4_findNoise_3.2.2.2.1 rfl rfl ?_
            refine zW_dup (pc' := 117) dX4_findNoise_3.2.2.2.2 rfl rfl ?_
            refine zG_int (pc' := 120) fg_X4_88 tb95 rfl dX4_findNoise_4.1.1.1.1 rfl ?_
            refine zW_iload (pc' := 122) dX4_findNoise_4.1.1.1.2 rfl rfl ?_
            refine zW_iadd (pc' := 123) dX4_findNoise_4.1.1.2.1 rfl ?_
            refine zP_scf (pc' := 126) hF rfl fp_X4_88 tb95 rfl dX4_findNoise_4.1.1.2.2 rfl (fun h i123 hF a123 b123 w123 => ?_)
            replace b123 := b123 ⟨by omega, by omega⟩
            replace hgh : Fw [] [(95, 1), (95, 2), (95, 3)] gh0 h := by rw [w123]; exact hgh.wf (by simp)
            replace hg : PlS (κ 33 0) (κ 33 1) (h (s1 + 15)) x2 g := by have q0_ := (congrFun w123 (s1 + 15)).trans (zfun (by omega)); rw [q0_]; exact hg
            have k123 : h 95 1 = y1 + 1 ∧ h 95 2 = y2 + v100 ∧ h 95 3 = y3 := by rw [w123, b123]; exact ⟨(zwr_ne (Or.inr (by decide))).trans k112.1, zwr_eq.trans (by rw [k112.2.1]), (zwr_ne (Or.inr (by decide))).trans k112.2.2⟩
            refine zW_aload_n (pc' := 127) dX4_findNoise_4.1.2.1.1 rfl rfl ?_
            refine zW_aload_n (pc' := 128) dX4_findNoise_4.1.2.1.2 rfl rfl ?_
            refine zG_int (pc' := 131) fg_X4_91 tb95 rfl dX4_findNoise_4.1.2.2.1 rfl ?_
            refine zW_iload (pc' := 133) dX4_findNoise_4.1.2.2.2 rfl rfl ?_
            refine zV_mmax (pc' := 136) km_X4_57 (Nat.le_of_ble_eq_true rfl) (Nat.le_of_ble_eq_true rfl) dX4_findNoise_4.2.1.1.1 rfl (fun v133 e133 => ?_)
            replace e133 := e133.2 ⟨by omega, by omega⟩ ⟨by omega, by omega⟩
            refine zP_scf (pc' := 139) hF rfl fp_X4_91 tb95 rfl dX4_findNoise_4.2.1.1.2 rfl (fun h i136 hF a136 b136 w136 => ?_)
            replace b136 := b136 ⟨by omega, by omega⟩
            replace hgh : Fw [] [(95, 1), (95, 2), (95, 3)] gh0 h := by rw [w136]; exact hgh.wf (by simp)
            replace hg : PlS (κ 33 0) (κ 33 1) (h (s1 + 15)) x2 g := by have q0_ := (congrFun w136 (s1 + 15)).trans (zfun (by omega)); rw [q0_]; exact hg
            first | (have k136 : h 95 1 = y1 + 1 ∧ h 95 2 = y2 + v100 ∧ h 95 3 = max2 y3 v100 := by (rw [w136, b136]; exact ⟨(zwr_ne (Or.inr (by decide))).trans k123.1, (zwr_ne (Or.inr (by decide))).trans k123.2.1, zwr_eq.trans (by have z := max2c y3 v100; have z2 := k123.2.2; omega)⟩)) | (have hc : ¬ (x3 = 4 ∨ blr (κ 33 0) (κ 33 1) g v5 v4 / 1024 = x3) := by (rw [← p58.2.2]; omega))
            try (have hm3 := max2c y3 v100)
            try (have t0 : (nzT (κ 33 0) (κ 33 1) x3 g (fun _ _ => 1)) v5 v4 = 0 := if_neg hc)
            try (have t1 : (nzT (κ 33 0) (κ 33 1) x3 g (ndF (κ 33 0) (κ 33 1) g)) v5 v4 = 0 := if_neg hc)
            have hR7 := mxR_n (t := (nzT (κ 33 0) (κ 33 1) x3 g (ndF (κ 33 0) (κ 33 1) g))) (y := v4) v5.toNat
            refine zW_iinc (ls' := [_, _, _, _, _, _, _, _]) (pc' := 142) dX4_findNoise_4.2.1.2.1 rfl (by decide) rfl rfl rfl ?_
            refine zV_goto 33 dX4_findNoise_4.2.1.2.2 rfl ?_
            refine zV_clr 6 (ls' := [_, _, _, _, _, _, _, _]) rfl ?_
            refine zV_clr 7 (ls' := [_, _, _, _, _, _, _, _]) rfl ?_
            exact k33 _ _ _ hF (by omega) (by omega) (by omega) (by omega) (by first | (rw [sg0, t0, k136.1, hy1, gc0]; omega) | (rw [sg0, t0, gc0]; omega) | (rw [gc0]; exact (Int.add_zero _).symm)) (by first | (rw [sg1, t1, k136.2.1, hy2, gc1, ← hd]; omega) | (rw [sg1, t1, gc1]; omega) | (rw [gc1]; exact (Int.add_zero _).symm)) (by first | (rw [sg2, t1, max2_0 hR7]; exact gc2) | (rw [sg2, t1, ← max2_as, ← gc2, ← hy3, ← hd]; exact k136.2.2) | (rw [gc2]; exact (max2_0 (mxS_n _)).symm)) (by omega) (by omega) (by omega) hg hgh (by omega)
          · refine zW_iload (pc' := 70) dX4_findNoise_2.1.1.2.2 rfl rfl ?_
            refine zW_sipush (pc' := 73) dX4_findNoise_2.1.2.1.1 rfl rfl ?_
            refine zW_idiv (pc' := 74) (by omega) (by omega) dX4_findNoise_2.1.2.1.2 rfl ?_
            refine zW_iload_n (pc' := 75) dX4_findNoise_2.1.2.2.1 rfl rfl ?_
            refine zV_cm_ne (tgt := 139) (pc' := 78) dX4_findNoise_2.1.2.2.2 rfl rfl ⟨by omega, by omega⟩ ⟨by omega, by omega⟩ (fun c75 => ?_) (fun c75 => ?_)
            · first | (have k136 : h 95 1 = y1 + 1 ∧ h 95 2 = y2 + v100 ∧ h 95 3 = max2 y3 v100 := by (rw [w136, b136]; exact ⟨(zwr_ne (Or.inr (by decide))).trans k123.1, (zwr_ne (Or.inr (by decide))).trans k123.2.1, zwr_eq.trans (by have z := max2c y3 v100; have z2 := k123.2.2; omega)⟩)) | (have hc : ¬ (x3 = 4 ∨ blr (κ 33 0) (κ 33 1) g v5 v4 / 1024 = x3) := by (rw [← p58.2.2]; omega))
              try (have hm3 := max2c y3 v100)
              try (have t0 : (nzT (κ 33 0) (κ 33 1) x3 g (fun _ _ => 1)) v5 v4 = 0 := if_neg hc)
              try (have t1 : (nzT (κ 33 0) (κ 33 1) x3 g (ndF (κ 33 0) (κ 33 1) g)) v5 v4 = 0 := if_neg hc)
              have hR7 := mxR_n (t := (nzT (κ 33 0) (κ 33 1) x3 g (ndF (κ 33 0) (κ 33 1) g))) (y := v4) v5.toNat
              refine zW_iinc (ls' := [_, _, _, _, _, _, _, _]) (pc' := 142) dX4_findNoise_4.2.1.2.1 rfl (by decide) rfl rfl rfl ?_
              refine zV_goto 33 dX4_findNoise_4.2.1.2.2 rfl ?_
              refine zV_clr 6 (ls' := [_, _, _, _, _, _, _, _]) rfl ?_
              exact k33 _ _ _ hF (by omega) (by omega) (by omega) (by omega) (by first | (rw [sg0, t0, k136.1, hy1, gc0]; omega) | (rw [sg0, t0, gc0]; omega) | (rw [gc0]; exact (Int.add_zero _).symm)) (by first | (rw [sg1, t1, k136.2.1, hy2, gc1, ← hd]; omega) | (rw [sg1, t1, gc1]; omega) | (rw [gc1]; exact (Int.add_zero _).symm)) (by first | (rw [sg2, t1, max2_0 hR7]; exact gc2) | (rw [sg2, t1, ← max2_as, ← gc2, ← hy3, ← hd]; exact k136.2.2) | (rw [gc2]; exact (max2_0 (mxS_n _)).symm)) (by omega) (by omega) (by omega) hg hgh (by omega)
            · have hc : x3 = 4 ∨ blr (κ 33 0) (κ 33 1) g v5 v4 / 1024 = x3 := by rw [← p58.2.2]; omega
              have t0 : (nzT (κ 33 0) (κ 33 1) x3 g (fun _ _ => 1)) v5 v4 = 1 := if_pos hc
              have t1 : (nzT (κ 33 0) (κ 33 1) x3 g (ndF (κ 33 0) (κ 33 1) g)) v5 v4 = ndF (κ 33 0) (κ 33 1) g v5 v4 := if_pos hc
              obtain ⟨y1, hy1⟩ : ∃ z : Int, z = h 95 1 := ⟨_, rfl⟩
              obtain ⟨y2, hy2⟩ : ∃ z : Int, z = h 95 2 := ⟨_, rfl⟩
              obtain ⟨y3, hy3⟩ : ∃ z : Int, z = h 95 3 := ⟨_, rfl⟩
              refine zW_aload_n (pc' := 79) dX4_findNoise_2.2.1.1.1 rfl rfl ?_
              refine zG_lev (pc' := 82) (by omega) (by omega) fg_X4_94 dX4_findNoise_2.2.1.1.2 rfl ?_
              refine zW_iload_n (pc' := 83) dX4_findNoise_2.2.1.2.1 rfl rfl ?_
              refine zW_sipush (pc' := 86) dX4_findNoise_2.2.1.2.2 rfl rfl ?_
              refine zW_imul (pc' := 87) dX4_findNoise_2.2.2.1.1 rfl ?_
              refine zW_iload (pc' := 89) dX4_findNoise_2.2.2.1.2 rfl rfl ?_
              refine zW_bipush (pc' := 91) dX4_findNoise_2.2.2.2.1 rfl rfl ?_
              refine zW_imul (pc' := 92) dX4_findNoise_2.2.2.2.2 rfl ?_
              refine zW_iadd (pc' := 93) dX4_findNoise_3.1.1.1.1 rfl ?_
              refine zW_iload (pc' := 95) dX4_findNoise_3.1.1.1.2 rfl rfl ?_
              refine zW_iadd (pc' := 96) dX4_findNoise_3.1.1.2.1 rfl ?_
              refine zV_iald (pc' := 97) (tabL (by omega) (by omega)) (by omega) dX4_findNoise_3.1.1.2.2 (by decide) rfl ?_
              have q96 := hg.at (i := x2 * 256 + v4 * 16 + v5) (x := v5) (y := v4) ⟨by omega, by omega, by omega, by omega⟩ (by omega)
              have b96 := hgb v5 v4 ⟨by omega, by omega, by omega, by omega⟩
              rw [← q96] at b96
              refine zW_iload (pc' := 99) dX4_findNoise_3.1.2.1.1 rfl rfl ?_
              refine zW_isub (pc' := 100) dX4_findNoise_3.1.2.1.2 rfl ?_
              refine zV_mabs (pc' := 103) km_X4_79 (Nat.le_of_ble_eq_true rfl) (Nat.le_of_ble_eq_true rfl) dX4_findNoise_3.1.2.2.1 rfl (fun v100 e100 => ?_)
              replace e100 := e100.2 ⟨by omega, by omega⟩ (by omega)
              have hd : v100 = ndF (κ 33 0) (κ 33 1) g v5 v4 := by (have z := abc (h (s1 + 15) (x2 * 256 + v4 * 16 + v5).toNat - r58); unfold ndF; rw [← p58.2.2, ← q96]; omega)
              have hdb : 0 ≤ v100 ∧ v100 ≤ 4095 := by omega
              refine zW_istore (ls' := [_, _, _, _, _, _, _, _]) (pc' := 105) dX4_findNoise_3.1.2.2.2 (by decide) rfl rfl rfl ?_
              refine zW_aload_n (pc' := 106) dX4_findNoise_3.2.1.1.1 rfl rfl ?_
              refine zW_dup (pc' := 107) dX4_findNoise_3.2.1.1.2 rfl rfl ?_
              refine zG_int (pc' := 110) fg_X4_85 tb95 rfl dX4_findNoise_3.2.1.2.1 rfl ?_
              refine zW_iconst (pc' := 111) dX4_findNoise_3.2.1.2.2 rfl ?_
              refine zW_iadd (pc' := 112) dX4_findNoise_3.2.2.1.1 rfl ?_
              refine zP_scf (pc' := 115) hF rfl fp_X4_85 tb95 rfl dX4_findNoise_3.2.2.1.2 rfl (fun h i112 hF a112 b112 w112 => ?_)
              replace b112 := b112 ⟨by omega, by omega⟩
              replace hgh : Fw [] [(95, 1), (95, 2), (95, 3)] gh0 h := by rw [w112]; exact hgh.wf (by simp)
              replace hg : PlS (κ 33 0) (κ 33 1) (h (s1 + 15)) x2 g := by have q0_ := (congrFun w112 (s1 + 15)).trans (zfun (by omega)); rw [q0_]; exact hg
              have k112 : h 95 1 = y1 + 1 ∧ h 95 2 = y2 ∧ h 95 3 = y3 := by rw [w112, b112]; exact ⟨zwr_eq.trans (by rw [hy1]), (zwr_ne (Or.inr (by decide))).trans hy2.symm, (zwr_ne (Or.inr (by decide))).trans hy3.symm⟩
              refine zW_aload_n (pc' := 116) dX4_findNoise_3.2.2.2.1 rfl rfl ?_
              refine zW_dup (pc' := 117) dX4_findNoise_3.2.2.2.2 rfl rfl ?_
              refine zG_int (pc' := 120) fg_X4_88 tb95 rfl dX4_findNoise_4.1.1.1.1 rfl ?_
              refine zW_iload (pc' := 122) dX4_findNoise_4.1.1.1.2 rfl rfl ?_
              refine zW_iadd (pc' := 123) dX4_findNoise_4.1.1.2.1 rfl ?_
              refine zP_scf (pc' := 126) hF rfl fp_X4_88 tb95 rfl dX4_findNoise_4.1.1.2.2 rfl (fun h i123 hF a123 b123 w123 => ?_)
              replace b123 := b123 ⟨by omega, by omega⟩
              replace hgh : Fw [] [(95, 1), (95, 2), (95, 3)] gh0 h := by rw [w123]; exact hgh.wf (by simp)
              replace hg : PlS (κ 33 0) (κ 33 1) (h (s1 + 15)) x2 g := by have q0_ := (congrFun w123 (s1 + 15)).trans (zfun (by omega)); rw [q0_]; exact hg
              have k123 : h 95 1 = y1 + 1 ∧ h 95 2 = y2 + v100 ∧ h 95 3 = y3 := by rw [w123, b123]; exact ⟨(zwr_ne (Or.inr (by decide))).trans k112.1, zwr_eq.trans (by rw [k112.2.1]), (zwr_ne (Or.inr (by decide))).trans k112.2.2⟩
              refine zW_aload_n (pc' := 127) dX4_findNoise_4.1.2.1.1 rfl rfl ?_
              refine zW_aload_n (pc' := 128) dX4_findNoise_4.1.2.1.2 rfl rfl ?_
              refine zG_int (pc' := 131) fg_X4_91 tb95 rfl dX4_findNoise_4.1.2.2.1 rfl ?_
              refine zW_iload (pc' := 133) dX4_findNoise_4.1.2.2.2 rfl rfl ?_
              refine zV_mmax (pc' := 136) km_X4_57 (Nat.le_of_ble_eq_true rfl) (Nat.le_of_ble_eq_true rfl) dX4_findNoise_4.2.1.1.1 rfl (fun v133 e133 => ?_)
              replace e133 := e133.2 ⟨by omega, by omega⟩ ⟨by omega, by omega⟩
              refine zP_scf (pc' := 139) hF rfl fp_X4_91 tb95 rfl dX4_findNoise_4.2.1.1.2 rfl (fun h i136 hF a136 b136 w136 => ?_)
              replace b136 := b136 ⟨by omega, by omega⟩
              replace hgh : Fw [] [(95, 1), (95, 2), (95, 3)] gh0 h := by rw [w136]; exact hgh.wf (by simp)
              replace hg : PlS (κ 33 0) (κ 33 1) (h (s1 + 15)) x2 g := by have q0_ := (congrFun w136 (s1 + 15)).trans (zfun (by omega)); rw [q0_]; exact hg
              first | (have k136 : h 95 1 = y1 + 1 ∧ h 95 2 = y2 + v100 ∧ h 95 3 = max2 y3 v100 := by (rw [w136, b136]; exact ⟨(zwr_ne (Or.inr (by decide))).trans k123.1, (zwr_ne (Or.inr (by decide))).trans k123.2.1, zwr_eq.trans (by have z := max2c y3 v100; have z2 := k123.2.2; omega)⟩)) | (have hc : ¬ (x3 = 4 ∨ blr (κ 33 0) (κ 33 1) g v5 v4 / 1024 = x3) := by (rw [← p58.2.2]; omega))
              try (have hm3 := max2c y3 v100)
              try (have t0 : (nzT (κ 33 0) (κ 33 1) x3 g (fun _ _ => 1)) v5 v4 = 0 := if_neg hc)
              try (have t1 : (nzT (κ 33 0) (κ 33 1) x3 g (ndF (κ 33 0) (κ 33 1) g)) v5 v4 = 0 := if_neg hc)
              have hR7 := mxR_n (t := (nzT (κ 33 0) (κ 33 1) x3 g (ndF (κ 33 0) (κ 33 1) g))) (y := v4) v5.toNat
              refine zW_iinc (ls' := [_, _, _, _, _, _, _, _]) (pc' := 142) dX4_findNoise_4.2.1.2.1 rfl (by decide) rfl rfl rfl ?_
              refine zV_goto 33 dX4_findNoise_4.2.1.2.2 rfl ?_
              refine zV_clr 6 (ls' := [_, _, _, _, _, _, _, _]) rfl ?_
              refine zV_clr 7 (ls' := [_, _, _, _, _, _, _, _]) rfl ?_
              exact k33 _ _ _ hF (by omega) (by omega) (by omega) (by omega) (by first | (rw [sg0, t0, k136.1, hy1, gc0]; omega) | (rw [sg0, t0, gc0]; omega) | (rw [gc0]; exact (Int.add_zero _).symm)) (by first | (rw [sg1, t1, k136.2.1, hy2, gc1, ← hd]; omega) | (rw [sg1, t1, gc1]; omega) | (rw [gc1]; exact (Int.add_zero _).symm)) (by first | (rw [sg2, t1, max2_0 hR7]; exact gc2) | (rw [sg2, t1, ← max2_as, ← gc2, ← hy3, ← hd]; exact k136.2.2) | (rw [gc2]; exact (max2_0 (mxS_n _)).symm)) (by omega) (by omega) (by omega) hg hgh (by omega)
  refine zM_of [some (.inr (.inr 95)), some (.inr (.inr s1)), some (.inl x2), some (.inl x3), none, none, none, none] 4 rfl rfl (Nat.le_of_ble_eq_true rfl) rfl ?_
  refine zW_aload_n (pc' := 1) dX4_findNoise_0.1.1.1.1 rfl rfl ?_
  refine zW_iconst (pc' := 2) dX4_findNoise_0.1.1.1.2 rfl ?_
  refine zP_scf (pc' := 5) hF rfl fp_X4_85 tb95 rfl dX4_findNoise_0.1.1.2.1 rfl (fun h i2 hF a2 b2 w2 => ?_)
  replace b2 := b2 ⟨by omega, by omega⟩
  replace hgh : Fw [] [(95, 1), (95, 2), (95, 3)] gh0 h := by rw [w2]; exact hgh.wf (by simp)
  replace hg : PlS (κ 33 0) (κ 33 1) (h (s1 + 15)) x2 g := by have q0_ := (congrFun w2 (s1 + 15)).trans (zfun (by omega)); rw [q0_]; exact hg
  refine zW_aload_n (pc' := 6) dX4_findNoise_0.1.1.2.2 rfl rfl ?_
  refine zW_iconst (pc' := 7) dX4_findNoise_0.1.2.1.1 rfl ?_
  refine zP_scf (pc' := 10) hF rfl fp_X4_88 tb95 rfl dX4_findNoise_0.1.2.1.2 rfl (fun h i7 hF a7 b7 w7 => ?_)
  replace b7 := b7 ⟨by omega, by omega⟩
  replace hgh : Fw [] [(95, 1), (95, 2), (95, 3)] gh0 h := by rw [w7]; exact hgh.wf (by simp)
  replace hg : PlS (κ 33 0) (κ 33 1) (h (s1 + 15)) x2 g := by have q0_ := (congrFun w7 (s1 + 15)).trans (zfun (by omega)); rw [q0_]; exact hg
  refine zW_aload_n (pc' := 11) dX4_findNoise_0.1.2.2.1 rfl rfl ?_
  refine zW_iconst (pc' := 12) dX4_findNoise_0.1.2.2.2 rfl ?_
  refine zP_scf (pc' := 15) hF rfl fp_X4_91 tb95 rfl dX4_findNoise_0.2.1.1.1 rfl (fun h i12 hF a12 b12 w12 => ?_)
  replace b12 := b12 ⟨by omega, by omega⟩
  replace hgh : Fw [] [(95, 1), (95, 2), (95, 3)] gh0 h := by rw [w12]; exact hgh.wf (by simp)
  replace hg : PlS (κ 33 0) (κ 33 1) (h (s1 + 15)) x2 g := by have q0_ := (congrFun w12 (s1 + 15)).trans (zfun (by omega)); rw [q0_]; exact hg
  have z0 : h 95 1 = 0 ∧ h 95 2 = 0 ∧ h 95 3 = 0 := by rw [w12, b12]; refine ⟨?_, ?_, zwr_eq⟩; (rw [zwr_ne (Or.inr (by decide)), w7, zwr_ne (Or.inr (by decide)), w2, b2]; exact zwr_eq); (rw [zwr_ne (Or.inr (by decide)), w7, b7]; exact zwr_eq)
  refine zW_iconst (pc' := 16) dX4_findNoise_0.2.1.1.2 rfl ?_
  refine zW_istore (ls' := [_, _, _, _, _, _, _, _]) (pc' := 18) dX4_findNoise_0.2.1.2.1 (by decide) rfl rfl rfl ?_
  exact (main 10000000000000000000000000000000000000000).1 _ _ hF (by omega) (by omega) (by first | (rw [z0.1]; rfl) | (rw [ug0, gc0, show v5 = κ 33 0 by omega])) (by first | (rw [z0.2.1]; rfl) | (rw [ug1, gc1, show v5 = κ 33 0 by omega])) (by first | (rw [z0.2.2]; rfl) | (rw [ug2, gc2, show v5 = κ 33 0 by omega])) (by omega) (by omega) (by omega) hg hgh (by omega)

abbrev q_X11_noiseZ (b : Bd) (κ : Hp) (x1 : Int) (x2 : Int) (x3 : Int) (x4 : Int) : Int → Hp → Prop := fun r h' => Fr b κ h' ∧ ((r = nsQ (κ 33 0) (κ 33 1) (κ 33 2) (κ 41 0) (ltV (LC κ) (κ 41 0)) (bhV (LC κ) (κ 41 0)) (pcV (κ 41 0) (PFc κ)) (nmV (κ 41 0) (XNc κ)) x1 x2 x3 x4))
set_option maxHeartbeats 4000000 in
set_option maxRecDepth 20000 in
theorem s_X11_noiseZ {G : Ga} {b : Bd} {κ h : Hp} (hK : KC κ) (hF : Fr b κ h) (x1 : Int) (hx1 : rng x1) (x2 : Int) (hx2 : rng x2) (x3 : Int) (hx3 : rng x3) (x4 : Int) (hx4 : rng x4) (hSw : SheetW b) (hV : VOK (κ 34)) (hE : EaOK (LC κ) (κ 41 0)) (hfB : ∀ k : Nat, (k : Int) ≤ κ 41 0 → ((0 < κ 41 1 ∧ κ 41 1 ≤ (k : Int)) ↔ bhI (LC κ) k = 1)) : zM G mX11_noise yX11_noise [.inr (.inr 30), .inl x1, .inl x2, .inl x3, .inl x4] h (q_X11_noiseZ b κ x1 x2 x3 x4) := by
  have f_33_0 := KCw hK
  have f_33_1 := KCh hK
  have f_33_2 := KCp hK
  have f_41_0 := KCm hK
  have f_41_1 := KCf hK
  unfold rng at hx1
  unfold rng at hx2
  unfold rng at hx3
  unfold rng at hx4
  refine zM_of [some (.inr (.inr 30)), some (.inl x1), some (.inl x2), some (.inl x3), some (.inl x4)] 0 rfl rfl (Nat.le_of_ble_eq_true rfl) rfl ?_
  refine zW_aload_n (pc' := 1) dX11_noise_0.1.1.1.1 rfl rfl ?_
  refine zW_iload_n (pc' := 2) dX11_noise_0.1.1.1.2 rfl rfl ?_
  refine zW_iload_n (pc' := 3) dX11_noise_0.1.1.2.1 rfl rfl ?_
  refine cvI2 (pc' := 6) kX11_isLeftOf vX11_isLeftOf lk_X11_290 ⟨Nat.le_of_ble_eq_true rfl, Nat.le_of_ble_eq_true rfl⟩ tb30 vq11 rfl rfl (s_X11_isLeftOfZ hK hF _ ⟨by omega, by omega⟩ _ ⟨by omega, by omega⟩) dX11_noise_0.1.1.2.2 (Nat.le_of_ble_eq_true rfl) rfl ?_
  rintro r3 z3 ⟨hz3, p3⟩; subst z3
  refine zV_if_eq (tgt := 26) (pc' := 9) dX11_noise_0.1.2.1.1 rfl rfl ⟨by omega, by omega⟩ (fun c6 => ?_) (fun c6 => ?_)
  · refine zW_iconst (pc' := 27) dX11_noise_0.2.2.1.2 rfl ?_
    exact zV_iret rfl dX11_noise_0.2.2.2.1 ⟨hF, (by unfold nsQ; rw [if_neg (by omega)])⟩
  · refine zW_iload_n (pc' := 10) dX11_noise_0.1.2.1.2 rfl rfl ?_
    refine zW_iconst (pc' := 11) dX11_noise_0.1.2.2.1 rfl ?_
    refine csI2 (pc' := 14) kX11_isWithin vX11_isWithin lk_X11_116 ⟨Nat.le_of_ble_eq_true rfl, Nat.le_of_ble_eq_true rfl⟩ rfl (s_X11_isWithinR hF _ ⟨by omega, by omega⟩ _ ⟨by omega, by omega⟩) dX11_noise_0.1.2.2.2 (Nat.le_of_ble_eq_true rfl) rfl ?_
    rintro r11 z11 ⟨hz11, p11⟩; subst z11
    refine zV_if_eq (tgt := 26) (pc' := 17) dX11_noise_0.2.1.1.1 rfl rfl ⟨by omega, by omega⟩ (fun c14 => ?_) (fun c14 => ?_)
    · refine zW_iconst (pc' := 27) dX11_noise_0.2.2.1.2 rfl ?_
      exact zV_iret rfl dX11_noise_0.2.2.2.1 ⟨hF, (by unfold nsQ; rw [if_neg (by omega)])⟩
    · refine zW_iload (pc' := 19) dX11_noise_0.2.1.1.2 rfl rfl ?_
      refine zW_iconst (pc' := 20) dX11_noise_0.2.1.2.1 rfl ?_
      refine csI2 (pc' := 23) kX11_isWithin vX11_isWithin lk_X11_116 ⟨Nat.le_of_ble_eq_true rfl, Nat.le_of_ble_eq_true rfl⟩ rfl (s_X11_isWithinR hF _ ⟨by omega, by omega⟩ _ ⟨by omega, by omega⟩) dX11_noise_0.2.1.2.2 (Nat.le_of_ble_eq_true rfl) rfl ?_
      rintro r20 z20 ⟨hz20, p20⟩; subst z20
      refine zV_if_ne (tgt := 28) (pc' := 26) dX11_noise_0.2.2.1.1 rfl rfl ⟨by omega, by omega⟩ (fun c23 => ?_) (fun c23 => ?_)
      · refine zW_aload_n (pc' := 29) dX11_noise_0.2.2.2.2 rfl rfl ?_
        refine zG_ref (pc' := 32) 41 fg_X11_33 tb30 rfl dX11_noise_1.1.1.1.1 rfl ?_
        refine zW_iload_n (pc' := 33) dX11_noise_1.1.1.1.2 rfl rfl ?_
        refine cvI1 (pc' := 36) kX7_isBehindF vX7_isBehindF lk_X11_310 ⟨Nat.le_of_ble_eq_true rfl, Nat.le_of_ble_eq_true rfl⟩ tb41 vq7 rfl rfl (s_X7_isBehindFZ hK hF _ ⟨by omega, by omega, by omega⟩ hfB) dX11_noise_1.1.1.2.1 (Nat.le_of_ble_eq_true rfl) rfl ?_
        rintro r33 z33 ⟨hz33, p33⟩; subst z33
        refine zV_if_ne (tgt := 42) (pc' := 39) dX11_noise_1.1.1.2.2 rfl rfl ⟨by omega, by omega⟩ (fun c36 => ?_) (fun c36 => ?_)
        · refine zW_aload_n (pc' := 43) dX11_noise_1.1.2.2.1 rfl rfl ?_
          refine zG_ref (pc' := 46) 95 fg_X11_60 tb30 rfl dX11_noise_1.1.2.2.2 rfl ?_
          refine zW_aload_n (pc' := 47) dX11_noise_1.2.1.1.1 rfl rfl ?_
          refine zG_ref (pc' := 50) 54 fg_X11_51 tb30 rfl dX11_noise_1.2.1.1.2 rfl ?_
          refine zW_iload_n (pc' := 51) dX11_noise_1.2.1.2.1 rfl rfl ?_
          refine cvA1 (pc' := 54) kX1_sheetOf vX1_sheetOf lk_X11_192 ⟨Nat.le_of_ble_eq_true rfl, Nat.le_of_ble_eq_true rfl⟩ tb54 vq1 rfl rfl (hSw hK hF _ ⟨by omega, by omega⟩) dX11_noise_1.2.1.2.2 (Nat.le_of_ble_eq_true rfl) rfl ?_
          rintro r51 h ⟨hF, p51⟩
          obtain ⟨q51, z51⟩ : ∃ z : Nat, z = r51.toNat := ⟨_, rfl⟩
          rw [← z51]
          have hbc := bhI_c (LC κ) x1.toNat
          have hnn : ¬ noF (LC κ) x1.toNat := by rcases hbc with q | q; (exfalso; omega); exact q.2
          have hF3 := (((p51.2.2 (by omega) (by omega)).2 x1.toNat (by omega)).2 hnn).1
          have hqs := (p51.2.2 (by omega) (by omega)).1
          rw [show 56 + x1.toNat + 15 = q51 + 15 by omega] at hF3
          have hb3 := PFc_b hK hV x1.toNat
          refine zW_iload_n (pc' := 55) dX11_noise_1.2.2.1.1 rfl rfl ?_
          refine zW_iload_n (pc' := 56) dX11_noise_1.2.2.1.2 rfl rfl ?_
          refine cvV3 (pc' := 59) kX4_findNoise vX4_findNoise lk_X11_313 ⟨Nat.le_of_ble_eq_true rfl, Nat.le_of_ble_eq_true rfl⟩ tb95 vq4 rfl rfl (s_X4_findNoiseZ hK hF _ ⟨by omega, by omega⟩ _ ⟨by omega, by omega⟩ _ ⟨by omega, by omega⟩ (PFc κ x1.toNat x2) h (hF3 x2 (by omega)) (hb3 x2 (by omega)) Fw.rf) dX11_noise_1.2.2.2.1 (Nat.le_of_ble_eq_true rfl) rfl ?_
          rintro r56 h ⟨hF, d56, p56⟩
          have k1 := p56.1; have k2 := p56.2.1; have k3 := p56.2.2
          refine zW_iload (pc' := 61) dX11_noise_1.2.2.2.2 rfl rfl ?_
          refine zW_iconst (pc' := 62) dX11_noise_2.1.1.1.1 rfl ?_
          refine zV_cm_ne (tgt := 73) (pc' := 65) dX11_noise_2.1.1.1.2 rfl rfl ⟨by omega, by omega⟩ ⟨by omega, by omega⟩ (fun c62 => ?_) (fun c62 => ?_)
          · refine zW_iload (pc' := 75) dX11_noise_2.1.2.2.1 rfl rfl ?_
            refine zV_if_ne (tgt := 88) (pc' := 78) dX11_noise_2.1.2.2.2 rfl rfl ⟨by omega, by omega⟩ (fun c75 => ?_) (fun c75 => ?_)
            · refine zW_aload_n (pc' := 89) dX11_noise_2.2.2.1.1 rfl rfl ?_
              refine zG_ref (pc' := 92) 95 fg_X11_60 tb30 rfl dX11_noise_2.2.2.1.2 rfl ?_
              refine zG_int (pc' := 95) fg_X11_323 tb95 rfl dX11_noise_2.2.2.2.1 rfl ?_
              exact zV_iret rfl dX11_noise_2.2.2.2.2 ⟨hF, (by unfold nsQ; rw [if_pos ⟨by omega, by omega, by omega, by omega, by omega, by omega, by omega, by omega⟩, bhV_in ⟨by omega, by omega⟩, if_pos (by omega), pcV_in ⟨by omega, by omega⟩]; first | (rw [show x4 = 0 by omega]; exact k1) | (rw [show x4 = 1 by omega]; exact k2))⟩
            · refine zW_aload_n (pc' := 79) dX11_noise_2.2.1.1.1 rfl rfl ?_
              refine zG_ref (pc' := 82) 95 fg_X11_60 tb30 rfl dX11_noise_2.2.1.1.2 rfl ?_
              refine zG_int (pc' := 85) fg_X11_320 tb95 rfl dX11_noise_2.2.1.2.1 rfl ?_
              refine zV_goto 95 dX11_noise_2.2.1.2.2 rfl ?_
              exact zV_iret rfl dX11_noise_2.2.2.2.2 ⟨hF, (by unfold nsQ; rw [if_pos ⟨by omega, by omega, by omega, by omega, by omega, by omega, by omega, by omega⟩, bhV_in ⟨by omega, by omega⟩, if_pos (by omega), pcV_in ⟨by omega, by omega⟩]; first | (rw [show x4 = 0 by omega]; exact k1) | (rw [show x4 = 1 by omega]; exact k2))⟩
          · refine zW_aload_n (pc' := 66) dX11_noise_2.1.1.2.1 rfl rfl ?_
            refine zG_ref (pc' := 69) 95 fg_X11_60 tb30 rfl dX11_noise_2.1.1.2.2 rfl ?_
            refine zG_int (pc' := 72) fg_X11_317 tb95 rfl dX11_noise_2.1.2.1.1 rfl ?_
            exact zV_iret rfl dX11_noise_2.1.2.1.2 ⟨hF, (by unfold nsQ; rw [if_pos ⟨by omega, by omega, by omega, by omega, by omega, by omega, by omega, by omega⟩, bhV_in ⟨by omega, by omega⟩, if_pos (by omega), pcV_in ⟨by omega, by omega⟩]; rw [show x4 = 2 by omega]; exact k3)⟩
        · refine zW_bipush (pc' := 41) dX11_noise_1.1.2.1.1 rfl rfl ?_
          exact zV_iret rfl dX11_noise_1.1.2.1.2 ⟨hF, (by unfold nsQ; rw [if_pos ⟨by omega, by omega, by omega, by omega, by omega, by omega, by omega, by omega⟩, bhV_in ⟨by omega, by omega⟩, if_neg (by omega)])⟩
      · refine zW_iconst (pc' := 27) dX11_noise_0.2.2.1.2 rfl ?_
        exact zV_iret rfl dX11_noise_0.2.2.2.1 ⟨hF, (by unfold nsQ; rw [if_neg (by omega)])⟩








