/-! the greatest over the squares -/
def foT (m : Int) (F : P3) (x y : Int) : Int := if m < mx3 F x y - mn3 F x y then 1 else 0
def foQ (W H P n : Int) (lt bh : Int → Int) (pc : Int → P3) (nm : Int → Nat → Int) (k m : Int) : Int := if 0 ≤ k ∧ k ≤ n ∧ 0 ≤ m ∧ m ≤ 4095 then (if bh k = 1 then sumS (foT m (pc k)) W.toNat H.toNat else -3) else -1



abbrev q_X7_isBehindFZ (κ h : Hp) (x1 : Int) : Int → Hp → Prop := fun r h' => h' = h ∧ ((0 ≤ r) ∧ (r ≤ 1) ∧ (r = bhI (LC κ) x1.toNat))
set_option maxHeartbeats 4000000 in
set_option maxRecDepth 20000 in
theorem s_X7_isBehindFZ {G : Ga} {b : Bd} {κ h : Hp} (hK : KC κ) (hF : Fr b κ h) (x1 : Int) (hx1 : 0 ≤ x1 ∧ x1 ≤ 12 ∧ x1 - κ 41 0 ≤ 0) (hfB : ∀ k : Nat, (k : Int) ≤ κ 41 0 → ((0 < κ 41 1 ∧ κ 41 1 ≤ (k : Int)) ↔ bhI (LC κ) k = 1)) : zM G mX7_isBehindF yX7_isBehindF [.inr (.inr 41), .inl x1] h (q_X7_isBehindFZ κ h x1) := by
  have f_41_0 := KCm hK
  have f_41_1 := KCf hK
  refine zM_of [some (.inr (.inr 41)), some (.inl x1)] 0 rfl rfl (Nat.le_of_ble_eq_true rfl) rfl ?_
  refine zW_aload_n (pc' := 1) dX7_isBehindF_0.1.1.1.1 rfl rfl ?_
  refine zG_key (pc' := 4) hF rfl fg_X7_25 tb41 rfl dX7_isBehindF_0.1.1.1.2 rfl ?_
  refine zV_if_le (tgt := 19) (pc' := 7) dX7_isBehindF_0.1.1.2 rfl rfl ⟨by omega, by omega⟩ (fun c4 => ?_) (fun c4 => ?_)
  · refine zW_iconst (pc' := 20) dX7_isBehindF_0.2.2.1 rfl ?_
    exact zV_zret rfl (by omega) dX7_isBehindF_0.2.2.2 ⟨rfl, (by have z := hfB x1.toNat (by omega); rw [show ((x1.toNat : Nat) : Int) = x1 by omega] at z; have c := bhI_c (LC κ) x1.toNat; omega)⟩
  · refine zW_iload_n (pc' := 8) dX7_isBehindF_0.1.2.1.1 rfl rfl ?_
    refine zW_aload_n (pc' := 9) dX7_isBehindF_0.1.2.1.2 rfl rfl ?_
    refine zG_key (pc' := 12) hF rfl fg_X7_25 tb41 rfl dX7_isBehindF_0.1.2.2 rfl ?_
    refine zV_cm_lt (tgt := 19) (pc' := 15) dX7_isBehindF_0.2.1.1.1 rfl rfl ⟨by omega, by omega⟩ ⟨by omega, by omega⟩ (fun c12 => ?_) (fun c12 => ?_)
    · refine zW_iconst (pc' := 20) dX7_isBehindF_0.2.2.1 rfl ?_
      exact zV_zret rfl (by omega) dX7_isBehindF_0.2.2.2 ⟨rfl, (by have z := hfB x1.toNat (by omega); rw [show ((x1.toNat : Nat) : Int) = x1 by omega] at z; have c := bhI_c (LC κ) x1.toNat; omega)⟩
    · refine zW_iconst (pc' := 16) dX7_isBehindF_0.2.1.1.2 rfl ?_
      refine zV_goto 20 dX7_isBehindF_0.2.1.2 rfl ?_
      exact zV_zret rfl (by omega) dX7_isBehindF_0.2.2.2 ⟨rfl, (by have z := hfB x1.toNat (by omega); rw [show ((x1.toNat : Nat) : Int) = x1 by omega] at z; have c := bhI_c (LC κ) x1.toNat; omega)⟩







abbrev q_X12_falseOfZ (κ h : Hp) (x1 : Int) (x2 : Int) (F : P3) : Int → Hp → Prop := fun r h' => h' = h ∧ ((r = sumS (foT x2 F) (κ 0 11).toNat (κ 0 12).toNat))
set_option maxHeartbeats 4000000 in
set_option maxRecDepth 20000 in
theorem s_X12_falseOfZ {G : Ga} {b : Bd} {κ h : Hp} (hK : KR κ) (hF : Fr b κ h) (x1 : Int) (hx1 : 0 ≤ x1 ∧ x1 ≤ 14) (x2 : Int) (hx2 : 0 ≤ x2 ∧ x2 ≤ 4095) (F : P3) (hF3 : Fu17 κ (h 17) x1 F) (hb3 : FB3 (κ 0 11) (κ 0 12) F) : zM G mX12_falseOf yX12_falseOf [.inr (.inr 0), .inl x1, .inl x2] h (q_X12_falseOfZ κ h x1 x2 F) := by
  have f_0_11 := KRw hK
  have f_0_12 := KRh hK
  have main : ∀ N : Nat, (∀ (v3 v4 : Int) , (0 ≤ v3 ∧ v3 ≤ 256) → (0 ≤ v4 ∧ v4 ≤ 16) → (v4 - κ 0 12 ≤ 0) → (v3 = sumS (foT x2 F) (κ 0 11).toNat v4.toNat) → (0 ≤ v3 ∧ v3 ≤ 16 * v4) → 10410120 + 17010 * (16 - v4) + 16524 < (N : Int) → zV G mX12_falseOf (q_X12_falseOfZ κ h x1 x2 F) 5 [some (.inr (.inr 0)), some (.inl x1), some (.inl x2), some (.inl v3), some (.inl v4), none] [] h) ∧ (∀ (v3 v4 v5 : Int) , (0 ≤ v3 ∧ v3 ≤ 256) → (0 ≤ v4 ∧ v4 ≤ 15) → (v4 - κ 0 12 ≤ -1) → (0 ≤ v5 ∧ v5 ≤ 16) → (v5 - κ 0 11 ≤ 0) → (v3 = sumS (foT x2 F) (κ 0 11).toNat v4.toNat + sumR (foT x2 F) v4 v5.toNat) → (0 ≤ v3 ∧ v3 ≤ 16 * v4 + v5) → 10410120 + 17010 * (16 - v4) + 12636 + 27 * (16 - v5) + 26 < (N : Int) → zV G mX12_falseOf (q_X12_falseOfZ κ h x1 x2 F) 17 [some (.inr (.inr 0)), some (.inl x1), some (.inl x2), some (.inl v3), some (.inl v4), some (.inl v5)] [] h) := by
    intro N
    induction N with
    | zero =>
      refine ⟨?_, ?_⟩
      · intro v3 v4 g0 g1 g2 gc0 gc1 hm
        exfalso; omega
      · intro v3 v4 v5 g0 g1 g2 g3 g4 gc0 gc1 hm
        exfalso; omega
    | succ N ih =>
      obtain ⟨k5, k17⟩ := ih
      refine ⟨?_, ?_⟩
      · intro v3 v4 g0 g1 g2 gc0 gc1 hm
        refine zW_iload (pc' := 7) dX12_falseOf_0.1.2.1.1 rfl rfl ?_
        refine zW_aload_n (pc' := 8) dX12_falseOf_0.1.2.1.2 rfl rfl ?_
        refine zG_key (pc' := 11) hF rfl fg_X12_103 tb0 rfl dX12_falseOf_0.1.2.2.1 rfl ?_
        refine zV_cm_ge (tgt := 65) (pc' := 14) dX12_falseOf_0.1.2.2.2 rfl rfl ⟨by omega, by omega⟩ ⟨by omega, by omega⟩ (fun c11 => ?_) (fun c11 => ?_)
        · refine zW_iload_n (pc' := 66) dX12_falseOf_2.2.1 rfl rfl ?_
          exact zV_iret rfl dX12_falseOf_2.2.2 ⟨rfl, (by rw [gc0, show v4 = κ 0 12 by omega])⟩
        · refine zW_iconst (pc' := 15) dX12_falseOf_0.2.1.1.1 rfl ?_
          refine zW_istore (ls' := [_, _, _, _, _, _]) (pc' := 17) dX12_falseOf_0.2.1.1.2 (by decide) rfl rfl rfl ?_
          exact k17 _ _ _ (by omega) (by omega) (by omega) (by omega) (by omega) (by first | (rw [sg0, te, gc0]; omega) | (rw [gc0]; exact (Int.add_zero _).symm)) (by omega) (by omega)
      · intro v3 v4 v5 g0 g1 g2 g3 g4 gc0 gc1 hm
        refine zW_iload (pc' := 19) dX12_falseOf_0.2.1.2.1 rfl rfl ?_
        refine zW_aload_n (pc' := 20) dX12_falseOf_0.2.1.2.2 rfl rfl ?_
        refine zG_key (pc' := 23) hF rfl fg_X12_99 tb0 rfl dX12_falseOf_0.2.2.1.1 rfl ?_
        refine zV_cm_ge (tgt := 59) (pc' := 26) dX12_falseOf_0.2.2.1.2 rfl rfl ⟨by omega, by omega⟩ ⟨by omega, by omega⟩ (fun c23 => ?_) (fun c23 => ?_)
        · have ug0 := sumS_s (t := (foT x2 F)) (w := (κ 0 11).toNat) (v := v4) (by omega)
          refine zW_iinc (ls' := [_, _, _, _, _, _]) (pc' := 62) dX12_falseOf_2.1.1.2 rfl (by decide) rfl rfl rfl ?_
          refine zV_goto 5 dX12_falseOf_2.1.2 rfl ?_
          refine zV_clr 5 (ls' := [_, _, _, _, _, _]) rfl ?_
          exact k5 _ _ (by omega) (by omega) (by omega) (by first | rfl | (rw [ug0, gc0, show v5 = κ 0 11 by omega])) (by omega) (by omega)
        · have sg0 := sumR_s (t := (foT x2 F)) (y := v4) (v := v5) (by omega)
          have mx := mir_i (v := v5) (n := κ 0 11) ⟨by omega, by omega⟩
          have my := mir_i (v := v4) (n := κ 0 12) ⟨by omega, by omega⟩
          refine zW_aload_n (pc' := 27) dX12_falseOf_0.2.2.2.1 rfl rfl ?_
          refine zW_iload_n (pc' := 28) dX12_falseOf_0.2.2.2.2 rfl rfl ?_
          refine zW_iload (pc' := 30) dX12_falseOf_1.1.1.1.1 rfl rfl ?_
          refine zW_iload (pc' := 32) dX12_falseOf_1.1.1.1.2 rfl rfl ?_
          refine cvI3 (pc' := 35) kX12_greatest vX12_greatest lk_X12_295 ⟨Nat.le_of_ble_eq_true rfl, Nat.le_of_ble_eq_true rfl⟩ tb0 vq12 rfl rfl (s_X12_greatestZ hK hF _ ⟨by omega, by omega⟩ _ ⟨by omega, by omega, by omega⟩ _ ⟨by omega, by omega, by omega⟩ F hF3 hb3) dX12_falseOf_1.1.1.2.1 (Nat.le_of_ble_eq_true rfl) rfl ?_
          rintro r32 z32 ⟨hz32, p32⟩; subst z32
          refine zW_aload_n (pc' := 36) dX12_falseOf_1.1.1.2.2 rfl rfl ?_
          refine zW_iload_n (pc' := 37) dX12_falseOf_1.1.2.1.1 rfl rfl ?_
          refine zW_iload (pc' := 39) dX12_falseOf_1.1.2.1.2 rfl rfl ?_
          refine zW_iload (pc' := 41) dX12_falseOf_1.1.2.2.1 rfl rfl ?_
          refine cvI3 (pc' := 44) kX12_smallest vX12_smallest lk_X12_298 ⟨Nat.le_of_ble_eq_true rfl, Nat.le_of_ble_eq_true rfl⟩ tb0 vq12 rfl rfl (s_X12_smallestZ hK hF _ ⟨by omega, by omega⟩ _ ⟨by omega, by omega, by omega⟩ _ ⟨by omega, by omega, by omega⟩ F hF3 hb3) dX12_falseOf_1.1.2.2.2 (Nat.le_of_ble_eq_true rfl) rfl ?_
          rintro r41 z41 ⟨hz41, p41⟩; subst z41
          refine zW_isub (pc' := 45) dX12_falseOf_1.2.1.1.1 rfl ?_
          rw [mx, my] at p32 p41
          have hk1 := p32.2.2; have hk2 := p41.2.2
          refine zW_iload_n (pc' := 46) dX12_falseOf_1.2.1.1.2 rfl rfl ?_
          refine zV_cm_le (tgt := 53) (pc' := 49) dX12_falseOf_1.2.1.2.1 rfl rfl ⟨by omega, by omega⟩ ⟨by omega, by omega⟩ (fun c46 => ?_) (fun c46 => ?_)
          · have te : (foT x2 F) v5 v4 = (if x2 < r32 - r41 then 1 else 0) := by unfold foT; rw [hk1, hk2]
            first | rw [if_pos (by omega)] at te | rw [if_neg (by omega)] at te
            refine zW_iinc (ls' := [_, _, _, _, _, _]) (pc' := 56) dX12_falseOf_1.2.2.2.2 rfl (by decide) rfl rfl rfl ?_
            refine zV_goto 17 dX12_falseOf_2.1.1.1 rfl ?_
            exact k17 _ _ _ (by omega) (by omega) (by omega) (by omega) (by omega) (by first | (rw [sg0, te, gc0]; omega) | (rw [gc0]; exact (Int.add_zero _).symm)) (by omega) (by omega)
          · refine zW_iload_n (pc' := 50) dX12_falseOf_1.2.1.2.2 rfl rfl ?_
            refine zW_iconst (pc' := 51) dX12_falseOf_1.2.2.1.1 rfl ?_
            refine zW_iadd (pc' := 52) dX12_falseOf_1.2.2.1.2 rfl ?_
            refine zW_istore_n (ls' := [_, _, _, _, _, _]) (pc' := 53) dX12_falseOf_1.2.2.2.1 (by decide) rfl rfl rfl ?_
            have te : (foT x2 F) v5 v4 = (if x2 < r32 - r41 then 1 else 0) := by unfold foT; rw [hk1, hk2]
            first | rw [if_pos (by omega)] at te | rw [if_neg (by omega)] at te
            refine zW_iinc (ls' := [_, _, _, _, _, _]) (pc' := 56) dX12_falseOf_1.2.2.2.2 rfl (by decide) rfl rfl rfl ?_
            refine zV_goto 17 dX12_falseOf_2.1.1.1 rfl ?_
            exact k17 _ _ _ (by omega) (by omega) (by omega) (by omega) (by omega) (by first | (rw [sg0, te, gc0]; omega) | (rw [gc0]; exact (Int.add_zero _).symm)) (by omega) (by omega)
  refine zM_of [some (.inr (.inr 0)), some (.inl x1), some (.inl x2), none, none, none] 3 rfl rfl (Nat.le_of_ble_eq_true rfl) rfl ?_
  refine zW_iconst (pc' := 1) dX12_falseOf_0.1.1.1.1 rfl ?_
  refine zW_istore_n (ls' := [_, _, _, _, _, _]) (pc' := 2) dX12_falseOf_0.1.1.1.2 (by decide) rfl rfl rfl ?_
  refine zW_iconst (pc' := 3) dX12_falseOf_0.1.1.2.1 rfl ?_
  refine zW_istore (ls' := [_, _, _, _, _, _]) (pc' := 5) dX12_falseOf_0.1.1.2.2 (by decide) rfl rfl rfl ?_
  exact (main 10000000000000000000000000000000000000000).1 _ _ (by omega) (by omega) (by omega) (by first | rfl | (rw [ug0, gc0, show v5 = κ 0 11 by omega])) (by omega) (by omega)

abbrev q_X12_falseOnesZ (b : Bd) (κ : Hp) (x1 : Int) (x2 : Int) : Int → Hp → Prop := fun r h' => Fr b κ h' ∧ ((r = foQ (κ 0 11) (κ 0 12) (κ 0 13) (κ 0 14) (ltV (κ 3) (κ 0 14)) (bhV (κ 3) (κ 0 14)) (pcV (κ 0 14) (PF κ)) (nmV (κ 0 14) (XN (κ 4) (κ 5))) x1 x2))
set_option maxHeartbeats 4000000 in
set_option maxRecDepth 20000 in
theorem s_X12_falseOnesZ {G : Ga} {b : Bd} {κ h : Hp} (hK : KR κ) (hF : Fr b.fo κ h) (x1 : Int) (hx1 : rng x1) (x2 : Int) (hx2 : rng x2) (hLw : LeavesW b) (hV : VOK (κ 1)) (hE : EaOK (κ 3) (κ 0 14)) : zM G mX12_falseOnes yX12_falseOnes [.inr (.inr 0), .inl x1, .inl x2] h (q_X12_falseOnesZ b.fo κ x1 x2) := by
  have f_0_11 := KRw hK
  have f_0_12 := KRh hK
  have f_0_13 := KRp hK
  have f_0_14 := KRm hK
  unfold rng at hx1
  unfold rng at hx2
  refine zM_of [some (.inr (.inr 0)), some (.inl x1), some (.inl x2)] 0 rfl rfl (Nat.le_of_ble_eq_true rfl) rfl ?_
  refine zW_aload_n (pc' := 1) dX12_falseOnes_0.1.1.1.1 rfl rfl ?_
  refine zW_iload_n (pc' := 2) dX12_falseOnes_0.1.1.1.2 rfl rfl ?_
  refine cvI1 (pc' := 5) kX12_isRow vX12_isRow lk_X12_374 ⟨Nat.le_of_ble_eq_true rfl, Nat.le_of_ble_eq_true rfl⟩ tb0 vq12 rfl rfl (s_X12_isRowZ hK hF _ ⟨by omega, by omega⟩) dX12_falseOnes_0.1.1.2.1 (Nat.le_of_ble_eq_true rfl) rfl ?_
  rintro r2 z2 ⟨hz2, p2⟩; subst z2
  refine zV_if_eq (tgt := 19) (pc' := 8) dX12_falseOnes_0.1.1.2.2 rfl rfl ⟨by omega, by omega⟩ (fun c5 => ?_) (fun c5 => ?_)
  · refine zW_iconst (pc' := 20) dX12_falseOnes_0.2.1.1.2 rfl ?_
    exact zV_iret rfl dX12_falseOnes_0.2.1.2.1 ⟨hF, (by unfold foQ; rw [if_neg (by omega)])⟩
  · refine zW_iload_n (pc' := 9) dX12_falseOnes_0.1.2.1.1 rfl rfl ?_
    refine zW_iconst (pc' := 10) dX12_falseOnes_0.1.2.1.2 rfl ?_
    refine zW_sipush (pc' := 13) dX12_falseOnes_0.1.2.2.1 rfl rfl ?_
    refine csI3 (pc' := 16) kX12_in vX12_in lk_X12_140 ⟨Nat.le_of_ble_eq_true rfl, Nat.le_of_ble_eq_true rfl⟩ rfl (s_X12_inR hF _ ⟨by omega, by omega⟩ _ ⟨by omega, by omega⟩ _ ⟨by omega, by omega⟩) dX12_falseOnes_0.1.2.2.2 (Nat.le_of_ble_eq_true rfl) rfl ?_
    rintro r13 z13 ⟨hz13, p13⟩; subst z13
    refine zV_if_ne (tgt := 21) (pc' := 19) dX12_falseOnes_0.2.1.1.1 rfl rfl ⟨by omega, by omega⟩ (fun c16 => ?_) (fun c16 => ?_)
    · refine zW_aload_n (pc' := 22) dX12_falseOnes_0.2.1.2.2 rfl rfl ?_
      refine zW_iload_n (pc' := 23) dX12_falseOnes_0.2.2.1.1 rfl rfl ?_
      refine cvI1 (pc' := 26) kX12_isBehind vX12_isBehind lk_X12_380 ⟨Nat.le_of_ble_eq_true rfl, Nat.le_of_ble_eq_true rfl⟩ tb0 vq12 rfl rfl (s_X12_isBehindZ hK hF _ ⟨by omega, by omega, by omega⟩) dX12_falseOnes_0.2.2.1.2 (Nat.le_of_ble_eq_true rfl) rfl ?_
      rintro r23 z23 ⟨hz23, p23⟩; subst z23
      refine zV_if_ne (tgt := 32) (pc' := 29) dX12_falseOnes_0.2.2.2.1 rfl rfl ⟨by omega, by omega⟩ (fun c26 => ?_) (fun c26 => ?_)
      · refine zW_aload_n (pc' := 33) dX12_falseOnes_1.1.1.2 rfl rfl ?_
        refine cvV0 (pc' := 36) kX12_leaves vX12_leaves lk_X12_377 ⟨Nat.le_of_ble_eq_true rfl, Nat.le_of_ble_eq_true rfl⟩ tb0 vq12 rfl rfl (hLw hK hF) dX12_falseOnes_1.1.2.1 (Nat.le_of_ble_eq_true rfl) rfl ?_
        rintro r33 h ⟨hF, p33⟩
        have hbc := bhI_c (κ 3) x1.toNat
        have hnn : ¬ noF (κ 3) x1.toNat := by rcases hbc with q | q; (exfalso; omega); exact q.2
        have hF3 := (p33.2 x1.toNat (by omega)).2 hnn
        rw [show ((x1.toNat : Nat) : Int) = x1 by omega] at hF3
        have hb3 := PF_b hK hV x1.toNat
        refine zW_aload_n (pc' := 37) dX12_falseOnes_1.1.2.2 rfl rfl ?_
        refine zW_iload_n (pc' := 38) dX12_falseOnes_1.2.1.1 rfl rfl ?_
        refine zW_iload_n (pc' := 39) dX12_falseOnes_1.2.1.2 rfl rfl ?_
        refine cvI2 (pc' := 42) kX12_falseOf vX12_falseOf lk_X12_437 ⟨Nat.le_of_ble_eq_true rfl, Nat.le_of_ble_eq_true rfl⟩ tb0 vq12 rfl rfl (s_X12_falseOfZ hK hF _ ⟨by omega, by omega⟩ _ ⟨by omega, by omega⟩ (PF κ x1.toNat) hF3 hb3) dX12_falseOnes_1.2.2.1 (Nat.le_of_ble_eq_true rfl) rfl ?_
        rintro r39 z39 ⟨hz39, p39⟩; subst z39
        exact zV_iret rfl dX12_falseOnes_1.2.2.2 ⟨hF, (by unfold foQ; rw [if_pos ⟨by omega, by omega, by omega, by omega⟩, bhV_in ⟨by omega, by omega⟩, if_pos (by omega), pcV_in ⟨by omega, by omega⟩]; exact p39)⟩
      · refine zW_bipush (pc' := 31) dX12_falseOnes_0.2.2.2.2 rfl rfl ?_
        exact zV_iret rfl dX12_falseOnes_1.1.1.1 ⟨hF, (by unfold foQ; rw [if_pos ⟨by omega, by omega, by omega, by omega⟩, bhV_in ⟨by omega, by omega⟩, if_neg (by omega)])⟩
    · refine zW_iconst (pc' := 20) dX12_falseOnes_0.2.1.1.2 rfl ?_
      exact zV_iret rfl dX12_falseOnes_0.2.1.2.1 ⟨hF, (by unfold foQ; rw [if_neg (by omega)])⟩

abbrev q_X4_falseOfZ (κ h : Hp) (s1 : Nat) (x2 : Int) (F : P3) : Int → Hp → Prop := fun r h' => h' = h ∧ ((r = sumS (foT x2 F) (κ 33 0).toNat (κ 33 1).toNat))
set_option maxHeartbeats 4000000 in
set_option maxRecDepth 20000 in
theorem s_X4_falseOfZ {G : Ga} {b : Bd} {κ h : Hp} (hK : KC κ) (hF : Fr b κ h) (s1 : Nat) (hs1 : 56 ≤ s1 ∧ s1 ≤ 70) (x2 : Int) (hx2 : 0 ≤ x2 ∧ x2 ≤ 4095) (F : P3) (hF3 : FuS (κ 33 0) (κ 33 1) (h (s1 + 15)) F) (hb3 : FB3 (κ 33 0) (κ 33 1) F) : zM G mX4_falseOf yX4_falseOf [.inr (.inr 95), .inr (.inr s1), .inl x2] h (q_X4_falseOfZ κ h s1 x2 F) := by
  have f_33_0 := KCw hK
  have f_33_1 := KCh hK
  have main : ∀ N : Nat, (∀ (v3 v4 : Int) , (0 ≤ v3 ∧ v3 ≤ 256) → (0 ≤ v4 ∧ v4 ≤ 16) → (v4 - κ 33 1 ≤ 0) → (v3 = sumS (foT x2 F) (κ 33 0).toNat v4.toNat) → (0 ≤ v3 ∧ v3 ≤ 16 * v4) → 13210776 + 19836 * (16 - v4) + 19314 < (N : Int) → zV G mX4_falseOf (q_X4_falseOfZ κ h s1 x2 F) 5 [some (.inr (.inr 95)), some (.inr (.inr s1)), some (.inl x2), some (.inl v3), some (.inl v4), none, none] [] h) ∧ (∀ (v3 v4 v5 : Int) , (0 ≤ v3 ∧ v3 ≤ 256) → (0 ≤ v4 ∧ v4 ≤ 15) → (v4 - κ 33 1 ≤ -1) → (0 ≤ v5 ∧ v5 ≤ 16) → (v5 - κ 33 0 ≤ 0) → (v3 = sumS (foT x2 F) (κ 33 0).toNat v4.toNat + sumR (foT x2 F) v4 v5.toNat) → (0 ≤ v3 ∧ v3 ≤ 16 * v4 + v5) → 13210776 + 19836 * (16 - v4) + 14616 + 29 * (16 - v5) + 28 < (N : Int) → zV G mX4_falseOf (q_X4_falseOfZ κ h s1 x2 F) 20 [some (.inr (.inr 95)), some (.inr (.inr s1)), some (.inl x2), some (.inl v3), some (.inl v4), some (.inl v5), none] [] h) := by
    intro N
    induction N with
    | zero =>
      refine ⟨?_, ?_⟩
      · intro v3 v4 g0 g1 g2 gc0 gc1 hm
        exfalso; omega
      · intro v3 v4 v5 g0 g1 g2 g3 g4 gc0 gc1 hm
        exfalso; omega
    | succ N ih =>
      obtain ⟨k5, k20⟩ := ih
      refine ⟨?_, ?_⟩
      · intro v3 v4 g0 g1 g2 gc0 gc1 hm
        refine zW_iload (pc' := 7) dX4_falseOf_0.1.2.1.1 rfl rfl ?_
        refine zW_aload_n (pc' := 8) dX4_falseOf_0.1.2.1.2 rfl rfl ?_
        refine zG_ref (pc' := 11) 33 fg_X4_19 tb95 rfl dX4_falseOf_0.1.2.2.1 rfl ?_
        refine zG_key (pc' := 14) hF rfl fg_X4_31 tb33 rfl dX4_falseOf_0.1.2.2.2 rfl ?_
        refine zV_cm_ge (tgt := 80) (pc' := 17) dX4_falseOf_0.2.1.1.1 rfl rfl ⟨by omega, by omega⟩ ⟨by omega, by omega⟩ (fun c14 => ?_) (fun c14 => ?_)
        · refine zW_iload_n (pc' := 81) dX4_falseOf_2.2.2.1 rfl rfl ?_
          exact zV_iret rfl dX4_falseOf_2.2.2.2 ⟨rfl, (by rw [gc0, show v4 = κ 33 1 by omega])⟩
        · refine zW_iconst (pc' := 18) dX4_falseOf_0.2.1.1.2 rfl ?_
          refine zW_istore (ls' := [_, _, _, _, _, _, _]) (pc' := 20) dX4_falseOf_0.2.1.2.1 (by decide) rfl rfl rfl ?_
          exact k20 _ _ _ (by omega) (by omega) (by omega) (by omega) (by omega) (by first | (rw [sg0, te, gc0]; omega) | (rw [gc0]; exact (Int.add_zero _).symm)) (by omega) (by omega)
      · intro v3 v4 v5 g0 g1 g2 g3 g4 gc0 gc1 hm
        refine zW_iload (pc' := 22) dX4_falseOf_0.2.1.2.2 rfl rfl ?_
        refine zW_aload_n (pc' := 23) dX4_falseOf_0.2.2.1.1 rfl rfl ?_
        refine zG_ref (pc' := 26) 33 fg_X4_19 tb95 rfl dX4_falseOf_0.2.2.1.2 rfl ?_
        refine zG_key (pc' := 29) hF rfl fg_X4_36 tb33 rfl dX4_falseOf_0.2.2.2.1 rfl ?_
        refine zV_cm_ge (tgt := 74) (pc' := 32) dX4_falseOf_0.2.2.2.2 rfl rfl ⟨by omega, by omega⟩ ⟨by omega, by omega⟩ (fun c29 => ?_) (fun c29 => ?_)
        · have ug0 := sumS_s (t := (foT x2 F)) (w := (κ 33 0).toNat) (v := v4) (by omega)
          refine zW_iinc (ls' := [_, _, _, _, _, _, _]) (pc' := 77) dX4_falseOf_2.2.1.1 rfl (by decide) rfl rfl rfl ?_
          refine zV_goto 5 dX4_falseOf_2.2.1.2 rfl ?_
          refine zV_clr 5 (ls' := [_, _, _, _, _, _, _]) rfl ?_
          exact k5 _ _ (by omega) (by omega) (by omega) (by first | rfl | (rw [ug0, gc0, show v5 = κ 33 0 by omega])) (by omega) (by omega)
        · have sg0 := sumR_s (t := (foT x2 F)) (y := v4) (v := v5) (by omega)
          refine zW_iload (pc' := 34) dX4_falseOf_1.1.1.1.1 rfl rfl ?_
          refine zW_bipush (pc' := 36) dX4_falseOf_1.1.1.1.2 rfl rfl ?_
          refine zW_imul (pc' := 37) dX4_falseOf_1.1.1.2.1 rfl ?_
          refine zW_iload (pc' := 39) dX4_falseOf_1.1.1.2.2 rfl rfl ?_
          refine zW_iadd (pc' := 40) dX4_falseOf_1.1.2.1.1 rfl ?_
          refine zW_istore (ls' := [_, _, _, _, _, _, _]) (pc' := 42) dX4_falseOf_1.1.2.1.2 (by decide) rfl rfl rfl ?_
          refine zW_aload_n (pc' := 43) dX4_falseOf_1.1.2.2.1 rfl rfl ?_
          refine zG_lev (pc' := 46) (by omega) (by omega) fg_X4_94 dX4_falseOf_1.1.2.2.2 rfl ?_
          refine zW_iload (pc' := 48) dX4_falseOf_1.2.1.1.1 rfl rfl ?_
          refine csI2 (pc' := 51) kX11_greatestOf vX11_greatestOf lk_X4_130 ⟨Nat.le_of_ble_eq_true rfl, Nat.le_of_ble_eq_true rfl⟩ rfl (s_X11_greatestOfZ hF _ ⟨by omega, by omega⟩ _ ⟨by omega, by omega⟩ (κ 33 0) (κ 33 1) F v5 v4 hF3 hb3 ⟨by omega, by omega, by omega, by omega⟩ (by omega)) dX4_falseOf_1.2.1.1.2 (Nat.le_of_ble_eq_true rfl) rfl ?_
          rintro r48 z48 ⟨hz48, p48⟩; subst z48
          refine zW_aload_n (pc' := 52) dX4_falseOf_1.2.1.2.1 rfl rfl ?_
          refine zG_lev (pc' := 55) (by omega) (by omega) fg_X4_94 dX4_falseOf_1.2.1.2.2 rfl ?_
          refine zW_iload (pc' := 57) dX4_falseOf_1.2.2.1.1 rfl rfl ?_
          refine csI2 (pc' := 60) kX11_leastOf vX11_leastOf lk_X4_133 ⟨Nat.le_of_ble_eq_true rfl, Nat.le_of_ble_eq_true rfl⟩ rfl (s_X11_leastOfZ hF _ ⟨by omega, by omega⟩ _ ⟨by omega, by omega⟩ (κ 33 0) (κ 33 1) F v5 v4 hF3 hb3 ⟨by omega, by omega, by omega, by omega⟩ (by omega)) dX4_falseOf_1.2.2.1.2 (Nat.le_of_ble_eq_true rfl) rfl ?_
          rintro r57 z57 ⟨hz57, p57⟩; subst z57
          refine zW_isub (pc' := 61) dX4_falseOf_1.2.2.2.1 rfl ?_
          have hk1 := p48.2.2; have hk2 := p57.2.2
          refine zW_iload_n (pc' := 62) dX4_falseOf_1.2.2.2.2 rfl rfl ?_
          refine zV_cm_le (tgt := 68) (pc' := 65) dX4_falseOf_2.1.1.1 rfl rfl ⟨by omega, by omega⟩ ⟨by omega, by omega⟩ (fun c62 => ?_) (fun c62 => ?_)
          · have te : (foT x2 F) v5 v4 = (if x2 < r48 - r57 then 1 else 0) := by unfold foT; rw [hk1, hk2]
            first | rw [if_pos (by omega)] at te | rw [if_neg (by omega)] at te
            refine zW_iinc (ls' := [_, _, _, _, _, _, _]) (pc' := 71) dX4_falseOf_2.1.2.1 rfl (by decide) rfl rfl rfl ?_
            refine zV_goto 20 dX4_falseOf_2.1.2.2 rfl ?_
            refine zV_clr 6 (ls' := [_, _, _, _, _, _, _]) rfl ?_
            exact k20 _ _ _ (by omega) (by omega) (by omega) (by omega) (by omega) (by first | (rw [sg0, te, gc0]; omega) | (rw [gc0]; exact (Int.add_zero _).symm)) (by omega) (by omega)
          · refine zW_iinc (ls' := [_, _, _, _, _, _, _]) (pc' := 68) dX4_falseOf_2.1.1.2 rfl (by decide) rfl rfl rfl ?_
            have te : (foT x2 F) v5 v4 = (if x2 < r48 - r57 then 1 else 0) := by unfold foT; rw [hk1, hk2]
            first | rw [if_pos (by omega)] at te | rw [if_neg (by omega)] at te
            refine zW_iinc (ls' := [_, _, _, _, _, _, _]) (pc' := 71) dX4_falseOf_2.1.2.1 rfl (by decide) rfl rfl rfl ?_
            refine zV_goto 20 dX4_falseOf_2.1.2.2 rfl ?_
            refine zV_clr 6 (ls' := [_, _, _, _, _, _, _]) rfl ?_
            exact k20 _ _ _ (by omega) (by omega) (by omega) (by omega) (by omega) (by first | (rw [sg0, te, gc0]; omega) | (rw [gc0]; exact (Int.add_zero _).symm)) (by omega) (by omega)
  refine zM_of [some (.inr (.inr 95)), some (.inr (.inr s1)), some (.inl x2), none, none, none, none] 4 rfl rfl (Nat.le_of_ble_eq_true rfl) rfl ?_
  refine zW_iconst (pc' := 1) dX4_falseOf_0.1.1.1.1 rfl ?_
  refine zW_istore_n (ls' := [_, _, _, _, _, _, _]) (pc' := 2) dX4_falseOf_0.1.1.1.2 (by decide) rfl rfl rfl ?_
  refine zW_iconst (pc' := 3) dX4_falseOf_0.1.1.2.1 rfl ?_
  refine zW_istore (ls' := [_, _, _, _, _, _, _]) (pc' := 5) dX4_falseOf_0.1.1.2.2 (by decide) rfl rfl rfl ?_
  exact (main 10000000000000000000000000000000000000000).1 _ _ (by omega) (by omega) (by omega) (by first | rfl | (rw [ug0, gc0, show v5 = κ 33 0 by omega])) (by omega) (by omega)

abbrev q_X11_falseOnesZ (b : Bd) (κ : Hp) (x1 : Int) (x2 : Int) : Int → Hp → Prop := fun r h' => Fr b κ h' ∧ ((r = foQ (κ 33 0) (κ 33 1) (κ 33 2) (κ 41 0) (ltV (LC κ) (κ 41 0)) (bhV (LC κ) (κ 41 0)) (pcV (κ 41 0) (PFc κ)) (nmV (κ 41 0) (XNc κ)) x1 x2))
set_option maxHeartbeats 4000000 in
set_option maxRecDepth 20000 in
theorem s_X11_falseOnesZ {G : Ga} {b : Bd} {κ h : Hp} (hK : KC κ) (hF : Fr b κ h) (x1 : Int) (hx1 : rng x1) (x2 : Int) (hx2 : rng x2) (hSw : SheetW b) (hV : VOK (κ 34)) (hE : EaOK (LC κ) (κ 41 0)) (hfB : ∀ k : Nat, (k : Int) ≤ κ 41 0 → ((0 < κ 41 1 ∧ κ 41 1 ≤ (k : Int)) ↔ bhI (LC κ) k = 1)) : zM G mX11_falseOnes yX11_falseOnes [.inr (.inr 30), .inl x1, .inl x2] h (q_X11_falseOnesZ b κ x1 x2) := by
  have f_33_0 := KCw hK
  have f_33_1 := KCh hK
  have f_33_2 := KCp hK
  have f_41_0 := KCm hK
  have f_41_1 := KCf hK
  unfold rng at hx1
  unfold rng at hx2
  refine zM_of [some (.inr (.inr 30)), some (.inl x1), some (.inl x2)] 0 rfl rfl (Nat.le_of_ble_eq_true rfl) rfl ?_
  refine zW_aload_n (pc' := 1) dX11_falseOnes_0.1.1.1.1 rfl rfl ?_
  refine zG_ref (pc' := 4) 41 fg_X11_33 tb30 rfl dX11_falseOnes_0.1.1.1.2 rfl ?_
  refine zW_iload_n (pc' := 5) dX11_falseOnes_0.1.1.2.1 rfl rfl ?_
  refine cvI1 (pc' := 8) kX7_leaves vX7_leaves lk_X11_189 ⟨Nat.le_of_ble_eq_true rfl, Nat.le_of_ble_eq_true rfl⟩ tb41 vq7 rfl rfl (s_X7_leaves hK hF _ ⟨by omega, by omega⟩) dX11_falseOnes_0.1.1.2.2 (Nat.le_of_ble_eq_true rfl) rfl ?_
  rintro r5 z5 ⟨hz5, p5⟩; subst z5
  refine zV_if_eq (tgt := 21) (pc' := 11) dX11_falseOnes_0.1.2.1.1 rfl rfl ⟨by omega, by omega⟩ (fun c8 => ?_) (fun c8 => ?_)
  · refine zW_iconst (pc' := 22) dX11_falseOnes_0.2.1.1.2 rfl ?_
    exact zV_iret rfl dX11_falseOnes_0.2.1.2.1 ⟨hF, (by unfold foQ; rw [if_neg (by omega)])⟩
  · refine zW_iload_n (pc' := 12) dX11_falseOnes_0.1.2.1.2 rfl rfl ?_
    refine zW_sipush (pc' := 15) dX11_falseOnes_0.1.2.2.1 rfl rfl ?_
    refine csI2 (pc' := 18) kX11_isWithin vX11_isWithin lk_X11_116 ⟨Nat.le_of_ble_eq_true rfl, Nat.le_of_ble_eq_true rfl⟩ rfl (s_X11_isWithinR hF _ ⟨by omega, by omega⟩ _ ⟨by omega, by omega⟩) dX11_falseOnes_0.1.2.2.2 (Nat.le_of_ble_eq_true rfl) rfl ?_
    rintro r15 z15 ⟨hz15, p15⟩; subst z15
    refine zV_if_ne (tgt := 23) (pc' := 21) dX11_falseOnes_0.2.1.1.1 rfl rfl ⟨by omega, by omega⟩ (fun c18 => ?_) (fun c18 => ?_)
    · refine zW_aload_n (pc' := 24) dX11_falseOnes_0.2.1.2.2 rfl rfl ?_
      refine zG_ref (pc' := 27) 41 fg_X11_33 tb30 rfl dX11_falseOnes_0.2.2.1.1 rfl ?_
      refine zW_iload_n (pc' := 28) dX11_falseOnes_0.2.2.1.2 rfl rfl ?_
      refine cvI1 (pc' := 31) kX7_isBehindF vX7_isBehindF lk_X11_310 ⟨Nat.le_of_ble_eq_true rfl, Nat.le_of_ble_eq_true rfl⟩ tb41 vq7 rfl rfl (s_X7_isBehindFZ hK hF _ ⟨by omega, by omega, by omega⟩ hfB) dX11_falseOnes_0.2.2.2.1 (Nat.le_of_ble_eq_true rfl) rfl ?_
      rintro r28 z28 ⟨hz28, p28⟩; subst z28
      refine zV_if_eq (tgt := 53) (pc' := 34) dX11_falseOnes_0.2.2.2.2 rfl rfl ⟨by omega, by omega⟩ (fun c31 => ?_) (fun c31 => ?_)
      · refine zW_bipush (pc' := 55) dX11_falseOnes_1.2.2.1 rfl rfl ?_
        exact zV_iret rfl dX11_falseOnes_1.2.2.2 ⟨hF, (by first | exact (by unfold foQ; rw [if_pos ⟨by omega, by omega, by omega, by omega⟩, bhV_in ⟨by omega, by omega⟩, if_neg (by omega)]) | exact (by unfold foQ; rw [if_pos ⟨by omega, by omega, by omega, by omega⟩, bhV_in ⟨by omega, by omega⟩, if_pos (by omega), pcV_in ⟨by omega, by omega⟩]; exact p47))⟩
      · refine zW_aload_n (pc' := 35) dX11_falseOnes_1.1.1.1.1 rfl rfl ?_
        refine zG_ref (pc' := 38) 95 fg_X11_60 tb30 rfl dX11_falseOnes_1.1.1.1.2 rfl ?_
        refine zW_aload_n (pc' := 39) dX11_falseOnes_1.1.1.2 rfl rfl ?_
        refine zG_ref (pc' := 42) 54 fg_X11_51 tb30 rfl dX11_falseOnes_1.1.2.1.1 rfl ?_
        refine zW_iload_n (pc' := 43) dX11_falseOnes_1.1.2.1.2 rfl rfl ?_
        refine cvA1 (pc' := 46) kX1_sheetOf vX1_sheetOf lk_X11_192 ⟨Nat.le_of_ble_eq_true rfl, Nat.le_of_ble_eq_true rfl⟩ tb54 vq1 rfl rfl (hSw hK hF _ ⟨by omega, by omega⟩) dX11_falseOnes_1.1.2.2 (Nat.le_of_ble_eq_true rfl) rfl ?_
        rintro r43 h ⟨hF, p43⟩
        obtain ⟨q43, z43⟩ : ∃ z : Nat, z = r43.toNat := ⟨_, rfl⟩
        rw [← z43]
        have hbc := bhI_c (LC κ) x1.toNat
        have hnn : ¬ noF (LC κ) x1.toNat := by rcases hbc with q | q; (exfalso; omega); exact q.2
        have hF3 := (((p43.2.2 (by omega) (by omega)).2 x1.toNat (by omega)).2 hnn).1
        have hqs := (p43.2.2 (by omega) (by omega)).1
        rw [show 56 + x1.toNat + 15 = q43 + 15 by omega] at hF3
        have hb3 := PFc_b hK hV x1.toNat
        refine zW_iload_n (pc' := 47) dX11_falseOnes_1.2.1.1.1 rfl rfl ?_
        refine cvI2 (pc' := 50) kX4_falseOf vX4_falseOf lk_X11_360 ⟨Nat.le_of_ble_eq_true rfl, Nat.le_of_ble_eq_true rfl⟩ tb95 vq4 rfl rfl (s_X4_falseOfZ hK hF _ ⟨by omega, by omega⟩ _ ⟨by omega, by omega⟩ (PFc κ x1.toNat) hF3 hb3) dX11_falseOnes_1.2.1.1.2 (Nat.le_of_ble_eq_true rfl) rfl ?_
        rintro r47 z47 ⟨hz47, p47⟩; subst z47
        refine zV_goto 55 dX11_falseOnes_1.2.1.2 rfl ?_
        exact zV_iret rfl dX11_falseOnes_1.2.2.2 ⟨hF, (by first | exact (by unfold foQ; rw [if_pos ⟨by omega, by omega, by omega, by omega⟩, bhV_in ⟨by omega, by omega⟩, if_neg (by omega)]) | exact (by unfold foQ; rw [if_pos ⟨by omega, by omega, by omega, by omega⟩, bhV_in ⟨by omega, by omega⟩, if_pos (by omega), pcV_in ⟨by omega, by omega⟩]; exact p47))⟩
    · refine zW_iconst (pc' := 22) dX11_falseOnes_0.2.1.1.2 rfl ?_
      exact zV_iret rfl dX11_falseOnes_0.2.1.2.1 ⟨hF, (by unfold foQ; rw [if_neg (by omega)])⟩
