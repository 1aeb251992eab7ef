/-! the greatest over the squares -/
def egT (W H m : Int) (F : P3) (x y : Int) : Int := if m ≤ ab (lgt F (mir (x - 1) W) y - lgt F (mir (x + 1) W) y) + ab (lgt F x (mir (y - 1) H) - lgt F x (mir (y + 1) H)) then 1 else 0
def edQ (W H P n : Int) (lt bh : Int → Int) (pc : Int → P3) (nm : Int → Nat → Int) (k m : Int) : Int := if 0 ≤ k ∧ k ≤ n ∧ 0 ≤ m ∧ m ≤ 8190 then (if bh k = 1 then sumS (egT W H m (pc k)) W.toNat H.toNat else -3) else -1



abbrev q_X7_isBehindFZ (κ h : Hp) (x1 : Int) : Int → Hp → Prop := fun r h' => h' = h ∧ ((0 ≤ r) ∧ (r ≤ 1) ∧ (r = bhI (LC κ) x1.toNat))
set_option maxHeartbeats 4000000 in
set_option maxRecDepth 20000 in
theorem s_X7_isBehindFZ {G : Ga} {b : Bd} {κ h : Hp} (hK : KC κ) (hF : Fr b κ h) (x1 : Int) (hx1 : 0 ≤ x1 ∧ x1 ≤ 12 ∧ x1 - κ 41 0 ≤ 0) (hfB : ∀ k : Nat, (k : Int) ≤ κ 41 0 → ((0 < κ 41 1 ∧ κ 41 1 ≤ (k : Int)) ↔ bhI (LC κ) k = 1)) : zM G mX7_isBehindF yX7_isBehindF [.inr (.inr 41), .inl x1] h (q_X7_isBehindFZ κ h x1) := by
  have f_41_0 := KCm hK
  have f_41_1 := KCf hK
  refine zM_of [some (.inr (.inr 41)), some (.inl x1)] 0 rfl rfl (Nat.le_of_ble_eq_true rfl) rfl ?_
  refine zW_aload_n (pc' := 1) dX7_isBehindF_0.1.1.1.1 rfl rfl ?_
  refine zG_key (pc' := 4) hF rfl fg_X7_25 tb41 rfl dX7_isBehindF_0.1.1.1.2 rfl ?_
  refine zV_if_le (tgt := 19) (pc' := 7) dX7_isBehindF_0.1.1.2 rfl rfl ⟨by omega, by omega⟩ (fun c4 => ?_) (fun c4 => ?_)
  · refine zW_iconst (pc' := 20) dX7_isBehindF_0.2.2.1 rfl ?_
    exact zV_zret rfl (by omega) dX7_isBehindF_0.2.2.2 ⟨rfl, (by have z := hfB x1.toNat (by omega); rw [show ((x1.toNat : Nat) : Int) = x1 by omega] at z; have c := bhI_c (LC κ) x1.toNat; omega)⟩
  · refine zW_iload_n (pc' := 8) dX7_isBehindF_0.1.2.1.1 rfl rfl ?_
    refine zW_aload_n (pc' := 9) dX7_isBehindF_0.1.2.1.2 rfl rfl ?_
    refine zG_key (pc' := 12) hF rfl fg_X7_25 tb41 rfl dX7_isBehindF_0.1.2.2 rfl ?_
    refine zV_cm_lt (tgt := 19) (pc' := 15) dX7_isBehindF_0.2.1.1.1 rfl rfl ⟨by omega, by omega⟩ ⟨by omega, by omega⟩ (fun c12 => ?_) (fun c12 => ?_)
    · refine zW_iconst (pc' := 20) dX7_isBehindF_0.2.2.1 rfl ?_
      exact zV_zret rfl (by omega) dX7_isBehindF_0.2.2.2 ⟨rfl, (by have z := hfB x1.toNat (by omega); rw [show ((x1.toNat : Nat) : Int) = x1 by omega] at z; have c := bhI_c (LC κ) x1.toNat; omega)⟩
    · refine zW_iconst (pc' := 16) dX7_isBehindF_0.2.1.1.2 rfl ?_
      refine zV_goto 20 dX7_isBehindF_0.2.1.2 rfl ?_
      exact zV_zret rfl (by omega) dX7_isBehindF_0.2.2.2 ⟨rfl, (by have z := hfB x1.toNat (by omega); rw [show ((x1.toNat : Nat) : Int) = x1 by omega] at z; have c := bhI_c (LC κ) x1.toNat; omega)⟩



abbrev q_X12_edgesZ (b : Bd) (κ : Hp) (x1 : Int) (x2 : Int) : Int → Hp → Prop := fun r h' => Fr b κ h' ∧ ((r = edQ (κ 0 11) (κ 0 12) (κ 0 13) (κ 0 14) (ltV (κ 3) (κ 0 14)) (bhV (κ 3) (κ 0 14)) (pcV (κ 0 14) (PF κ)) (nmV (κ 0 14) (XN (κ 4) (κ 5))) x1 x2))
set_option maxHeartbeats 4000000 in
set_option maxRecDepth 20000 in
theorem s_X12_edgesZ {G : Ga} {b : Bd} {κ h : Hp} (hK : KR κ) (hF : Fr b.fo κ h) (x1 : Int) (hx1 : rng x1) (x2 : Int) (hx2 : rng x2) (hLw : LeavesW b) (hV : VOK (κ 1)) (hE : EaOK (κ 3) (κ 0 14)) : zM G mX12_edges yX12_edges [.inr (.inr 0), .inl x1, .inl x2] h (q_X12_edgesZ b.fo κ x1 x2) := by
  have f_0_11 := KRw hK
  have f_0_12 := KRh hK
  have f_0_13 := KRp hK
  have f_0_14 := KRm hK
  unfold rng at hx1
  unfold rng at hx2
  have main : ∀ N : Nat, (∀ (v3 v4 : Int) (h : Hp), Fr b.fo κ h → (0 ≤ x1 ∧ x1 ≤ 12) → (x1 - κ 0 14 ≤ 0) → (0 ≤ x2 ∧ x2 ≤ 8190) → (0 ≤ v3 ∧ v3 ≤ 256) → (0 ≤ v4 ∧ v4 ≤ 16) → (v4 - κ 0 12 ≤ 0) → (Fu17 κ (h 17) x1 (PF κ x1.toNat)) → (bhI (κ 3) x1.toNat = 1) → (0 ≤ x1 ∧ x1 ≤ κ 0 14 ∧ 0 ≤ x2 ∧ x2 ≤ 8190) → (v3 = sumS (egT (κ 0 11) (κ 0 12) x2 (PF κ x1.toNat)) (κ 0 11).toNat v4.toNat) → (0 ≤ v3 ∧ v3 ≤ 16 * v4) → 62849520 + 58194 * (16 - v4) + 57240 < (N : Int) → zV G mX12_edges (q_X12_edgesZ b.fo κ x1 x2) 41 [some (.inr (.inr 0)), some (.inl x1), some (.inl x2), some (.inl v3), some (.inl v4), none] [] h) ∧ (∀ (v3 v4 v5 : Int) (h : Hp), Fr b.fo κ h → (0 ≤ x1 ∧ x1 ≤ 12) → (x1 - κ 0 14 ≤ 0) → (0 ≤ x2 ∧ x2 ≤ 8190) → (0 ≤ v3 ∧ v3 ≤ 256) → (0 ≤ v4 ∧ v4 ≤ 15) → (v4 - κ 0 12 ≤ -1) → (0 ≤ v5 ∧ v5 ≤ 16) → (v5 - κ 0 11 ≤ 0) → (Fu17 κ (h 17) x1 (PF κ x1.toNat)) → (bhI (κ 3) x1.toNat = 1) → (0 ≤ x1 ∧ x1 ≤ κ 0 14 ∧ 0 ≤ x2 ∧ x2 ≤ 8190) → (v3 = sumS (egT (κ 0 11) (κ 0 12) x2 (PF κ x1.toNat)) (κ 0 11).toNat v4.toNat + sumR (egT (κ 0 11) (κ 0 12) x2 (PF κ x1.toNat)) v4 v5.toNat) → (0 ≤ v3 ∧ v3 ≤ 16 * v4 + v5) → 62849520 + 58194 * (16 - v4) + 49608 + 53 * (16 - v5) + 52 < (N : Int) → zV G mX12_edges (q_X12_edgesZ b.fo κ x1 x2) 53 [some (.inr (.inr 0)), some (.inl x1), some (.inl x2), some (.inl v3), some (.inl v4), some (.inl v5)] [] h) := by
    intro N
    induction N with
    | zero =>
      refine ⟨?_, ?_⟩
      · intro v3 v4 h hF g0 g1 g2 g3 g4 g5 gc0 gc1 gc2 gc3 gc4 hm
        exfalso; omega
      · intro v3 v4 v5 h hF g0 g1 g2 g3 g4 g5 g6 g7 gc0 gc1 gc2 gc3 gc4 hm
        exfalso; omega
    | succ N ih =>
      obtain ⟨k41, k53⟩ := ih
      refine ⟨?_, ?_⟩
      · intro v3 v4 h hF g0 g1 g2 g3 g4 g5 gc0 gc1 gc2 gc3 gc4 hm
        refine zW_iload (pc' := 43) dX12_edges_1.1.2.2.2 rfl rfl ?_
        refine zW_aload_n (pc' := 44) dX12_edges_1.2.1.1.1 rfl rfl ?_
        refine zG_key (pc' := 47) hF rfl fg_X12_103 tb0 rfl dX12_edges_1.2.1.1.2 rfl ?_
        refine zV_cm_ge (tgt := 135) (pc' := 50) dX12_edges_1.2.1.2.1 rfl rfl ⟨by omega, by omega⟩ ⟨by omega, by omega⟩ (fun c47 => ?_) (fun c47 => ?_)
        · refine zW_iload_n (pc' := 136) dX12_edges_4.2.2.1.2 rfl rfl ?_
          exact zV_iret rfl dX12_edges_4.2.2.2 ⟨hF, (by unfold edQ; rw [if_pos ⟨by omega, by omega, by omega, by omega⟩, bhV_in ⟨by omega, by omega⟩, if_pos (by omega), pcV_in ⟨by omega, by omega⟩]; have e : v4 = κ 0 12 := (by omega); rw [e] at gc3; exact gc3)⟩
        · refine zW_iconst (pc' := 51) dX12_edges_1.2.1.2.2 rfl ?_
          refine zW_istore (ls' := [_, _, _, _, _, _]) (pc' := 53) dX12_edges_1.2.2.1.1 (by decide) rfl rfl rfl ?_
          exact k53 _ _ _ _ hF (by omega) (by omega) (by omega) (by omega) (by omega) (by omega) (by omega) (by omega) gc0 (by omega) (by omega) (by first | (rw [sg0, te, gc3]; omega) | (rw [gc3]; exact (Int.add_zero _).symm)) (by omega) (by omega)
      · intro v3 v4 v5 h hF g0 g1 g2 g3 g4 g5 g6 g7 gc0 gc1 gc2 gc3 gc4 hm
        refine zW_iload (pc' := 55) dX12_edges_1.2.2.1.2 rfl rfl ?_
        refine zW_aload_n (pc' := 56) dX12_edges_1.2.2.2.1 rfl rfl ?_
        refine zG_key (pc' := 59) hF rfl fg_X12_99 tb0 rfl dX12_edges_1.2.2.2.2 rfl ?_
        refine zV_cm_ge (tgt := 129) (pc' := 62) dX12_edges_2.1.1.1.1 rfl rfl ⟨by omega, by omega⟩ ⟨by omega, by omega⟩ (fun c59 => ?_) (fun c59 => ?_)
        · have ug0 := sumS_s (t := (egT (κ 0 11) (κ 0 12) x2 (PF κ x1.toNat))) (w := (κ 0 11).toNat) (v := v4) (by omega)
          refine zW_iinc (ls' := [_, _, _, _, _, _]) (pc' := 132) dX12_edges_4.2.1.2.2 rfl (by decide) rfl rfl rfl ?_
          refine zV_goto 41 dX12_edges_4.2.2.1.1 rfl ?_
          refine zV_clr 5 (ls' := [_, _, _, _, _, _]) rfl ?_
          exact k41 _ _ _ hF (by omega) (by omega) (by omega) (by omega) (by omega) (by omega) (by first | exact gc0 | exact hF3) (by omega) (by omega) (by first | rfl | (rw [ug0, gc3, show v5 = κ 0 11 by omega])) (by omega) (by omega)
        · have hF3 := gc0
          have hb3 := PF_b hK hV x1.toNat
          have sg0 := sumR_s (t := (egT (κ 0 11) (κ 0 12) x2 (PF κ x1.toNat))) (y := v4) (v := v5) (by omega)
          have mx := mir_i (v := v5) (n := κ 0 11) ⟨by omega, by omega⟩
          have my := mir_i (v := v4) (n := κ 0 12) ⟨by omega, by omega⟩
          refine zW_aload_n (pc' := 63) dX12_edges_2.1.1.1.2 rfl rfl ?_
          refine zW_iload_n (pc' := 64) dX12_edges_2.1.1.2.1 rfl rfl ?_
          refine zW_iload (pc' := 66) dX12_edges_2.1.1.2.2 rfl rfl ?_
          refine zW_iconst (pc' := 67) dX12_edges_2.1.2.1.1 rfl ?_
          refine zW_isub (pc' := 68) dX12_edges_2.1.2.1.2 rfl ?_
          refine zW_iload (pc' := 70) dX12_edges_2.1.2.2.1 rfl rfl ?_
          refine cvI3 (pc' := 73) kX12_lightAt vX12_lightAt lk_X12_307 ⟨Nat.le_of_ble_eq_true rfl, Nat.le_of_ble_eq_true rfl⟩ tb0 vq12 rfl rfl (s_X12_lightAtZ hK hF _ ⟨by omega, by omega⟩ _ ⟨by omega, by omega, by omega⟩ _ ⟨by omega, by omega, by omega⟩ (PF κ x1.toNat) hF3 hb3) dX12_edges_2.1.2.2.2 (Nat.le_of_ble_eq_true rfl) rfl ?_
          rintro r70 z70 ⟨hz70, p70⟩; subst z70
          refine zW_aload_n (pc' := 74) dX12_edges_2.2.1.1.1 rfl rfl ?_
          refine zW_iload_n (pc' := 75) dX12_edges_2.2.1.1.2 rfl rfl ?_
          refine zW_iload (pc' := 77) dX12_edges_2.2.1.2.1 rfl rfl ?_
          refine zW_iconst (pc' := 78) dX12_edges_2.2.1.2.2 rfl ?_
          refine zW_iadd (pc' := 79) dX12_edges_2.2.2.1.1 rfl ?_
          refine zW_iload (pc' := 81) dX12_edges_2.2.2.1.2 rfl rfl ?_
          refine cvI3 (pc' := 84) kX12_lightAt vX12_lightAt lk_X12_307 ⟨Nat.le_of_ble_eq_true rfl, Nat.le_of_ble_eq_true rfl⟩ tb0 vq12 rfl rfl (s_X12_lightAtZ hK hF _ ⟨by omega, by omega⟩ _ ⟨by omega, by omega, by omega⟩ _ ⟨by omega, by omega, by omega⟩ (PF κ x1.toNat) hF3 hb3) dX12_edges_2.2.2.2.1 (Nat.le_of_ble_eq_true rfl) rfl ?_
          rintro r81 z81 ⟨hz81, p81⟩; subst z81
          refine zW_isub (pc' := 85) dX12_edges_2.2.2.2.2 rfl ?_
          refine csI1 (pc' := 88) kX12_size vX12_size lk_X12_257 ⟨Nat.le_of_ble_eq_true rfl, Nat.le_of_ble_eq_true rfl⟩ rfl (s_X12_sizeR hF _ ⟨by omega, by omega⟩) dX12_edges_3.1.1.1.1 (Nat.le_of_ble_eq_true rfl) rfl ?_
          rintro r85 z85 ⟨hz85, p85⟩; subst z85
          refine zW_aload_n (pc' := 89) dX12_edges_3.1.1.1.2 rfl rfl ?_
          refine zW_iload_n (pc' := 90) dX12_edges_3.1.1.2.1 rfl rfl ?_
          refine zW_iload (pc' := 92) dX12_edges_3.1.1.2.2 rfl rfl ?_
          refine zW_iload (pc' := 94) dX12_edges_3.1.2.1.1 rfl rfl ?_
          refine zW_iconst (pc' := 95) dX12_edges_3.1.2.1.2 rfl ?_
          refine zW_isub (pc' := 96) dX12_edges_3.1.2.2.1 rfl ?_
          refine cvI3 (pc' := 99) kX12_lightAt vX12_lightAt lk_X12_307 ⟨Nat.le_of_ble_eq_true rfl, Nat.le_of_ble_eq_true rfl⟩ tb0 vq12 rfl rfl (s_X12_lightAtZ hK hF _ ⟨by omega, by omega⟩ _ ⟨by omega, by omega, by omega⟩ _ ⟨by omega, by omega, by omega⟩ (PF κ x1.toNat) hF3 hb3) dX12_edges_3.1.2.2.2 (Nat.le_of_ble_eq_true rfl) rfl ?_
          rintro r96 z96 ⟨hz96, p96⟩; subst z96
          refine zW_aload_n (pc' := 100) dX12_edges_3.2.1.1.1 rfl rfl ?_
          refine zW_iload_n (pc' := 101) dX12_edges_3.2.1.1.2 rfl rfl ?_
          refine zW_iload (pc' := 103) dX12_edges_3.2.1.2.1 rfl rfl ?_
          refine zW_iload (pc' := 105) dX12_edges_3.2.1.2.2 rfl rfl ?_
          refine zW_iconst (pc' := 106) dX12_edges_3.2.2.1.1 rfl ?_
          refine zW_iadd (pc' := 107) dX12_edges_3.2.2.1.2 rfl ?_
          refine cvI3 (pc' := 110) kX12_lightAt vX12_lightAt lk_X12_307 ⟨Nat.le_of_ble_eq_true rfl, Nat.le_of_ble_eq_true rfl⟩ tb0 vq12 rfl rfl (s_X12_lightAtZ hK hF _ ⟨by omega, by omega⟩ _ ⟨by omega, by omega, by omega⟩ _ ⟨by omega, by omega, by omega⟩ (PF κ x1.toNat) hF3 hb3) dX12_edges_3.2.2.2.1 (Nat.le_of_ble_eq_true rfl) rfl ?_
          rintro r107 z107 ⟨hz107, p107⟩; subst z107
          refine zW_isub (pc' := 111) dX12_edges_3.2.2.2.2 rfl ?_
          refine csI1 (pc' := 114) kX12_size vX12_size lk_X12_257 ⟨Nat.le_of_ble_eq_true rfl, Nat.le_of_ble_eq_true rfl⟩ rfl (s_X12_sizeR hF _ ⟨by omega, by omega⟩) dX12_edges_4.1.1.1.1 (Nat.le_of_ble_eq_true rfl) rfl ?_
          rintro r111 z111 ⟨hz111, p111⟩; subst z111
          refine zW_iadd (pc' := 115) dX12_edges_4.1.1.1.2 rfl ?_
          rw [my] at p70 p81
          rw [mx] at p96 p107
          have zA := abc (lgt (PF κ x1.toNat) (mir (v5 - 1) (κ 0 11)) v4 - lgt (PF κ x1.toNat) (mir (v5 + 1) (κ 0 11)) v4)
          have zB := abc (lgt (PF κ x1.toNat) v5 (mir (v4 - 1) (κ 0 12)) - lgt (PF κ x1.toNat) v5 (mir (v4 + 1) (κ 0 12)))
          have hk1 := p70.2.2; have hk2 := p81.2.2; have hk3 := p96.2.2; have hk4 := p107.2.2
          refine zW_iload_n (pc' := 116) dX12_edges_4.1.1.2.1 rfl rfl ?_
          refine zV_cm_lt (tgt := 123) (pc' := 119) dX12_edges_4.1.1.2.2 rfl rfl ⟨by omega, by omega⟩ ⟨by omega, by omega⟩ (fun c116 => ?_) (fun c116 => ?_)
          · have te : (egT (κ 0 11) (κ 0 12) x2 (PF κ x1.toNat)) v5 v4 = (if x2 ≤ r85 + r111 then 1 else 0) := by (unfold egT; rw [show ab (lgt (PF κ x1.toNat) (mir (v5 - 1) (κ 0 11)) v4 - lgt (PF κ x1.toNat) (mir (v5 + 1) (κ 0 11)) v4) = r85 by omega, show ab (lgt (PF κ x1.toNat) v5 (mir (v4 - 1) (κ 0 12)) - lgt (PF κ x1.toNat) v5 (mir (v4 + 1) (κ 0 12))) = r111 by omega])
            first | rw [if_pos (by omega)] at te | rw [if_neg (by omega)] at te
            refine zW_iinc (ls' := [_, _, _, _, _, _]) (pc' := 126) dX12_edges_4.2.1.1.2 rfl (by decide) rfl rfl rfl ?_
            refine zV_goto 53 dX12_edges_4.2.1.2.1 rfl ?_
            exact k53 _ _ _ _ hF (by omega) (by omega) (by omega) (by omega) (by omega) (by omega) (by omega) (by omega) gc0 (by omega) (by omega) (by first | (rw [sg0, te, gc3]; omega) | (rw [gc3]; exact (Int.add_zero _).symm)) (by omega) (by omega)
          · refine zW_iload_n (pc' := 120) dX12_edges_4.1.2.1.1 rfl rfl ?_
            refine zW_iconst (pc' := 121) dX12_edges_4.1.2.1.2 rfl ?_
            refine zW_iadd (pc' := 122) dX12_edges_4.1.2.2 rfl ?_
            refine zW_istore_n (ls' := [_, _, _, _, _, _]) (pc' := 123) dX12_edges_4.2.1.1.1 (by decide) rfl rfl rfl ?_
            have te : (egT (κ 0 11) (κ 0 12) x2 (PF κ x1.toNat)) v5 v4 = (if x2 ≤ r85 + r111 then 1 else 0) := by (unfold egT; rw [show ab (lgt (PF κ x1.toNat) (mir (v5 - 1) (κ 0 11)) v4 - lgt (PF κ x1.toNat) (mir (v5 + 1) (κ 0 11)) v4) = r85 by omega, show ab (lgt (PF κ x1.toNat) v5 (mir (v4 - 1) (κ 0 12)) - lgt (PF κ x1.toNat) v5 (mir (v4 + 1) (κ 0 12))) = r111 by omega])
            first | rw [if_pos (by omega)] at te | rw [if_neg (by omega)] at te
            refine zW_iinc (ls' := [_, _, _, _, _, _]) (pc' := 126) dX12_edges_4.2.1.1.2 rfl (by decide) rfl rfl rfl ?_
            refine zV_goto 53 dX12_edges_4.2.1.2.1 rfl ?_
            exact k53 _ _ _ _ hF (by omega) (by omega) (by omega) (by omega) (by omega) (by omega) (by omega) (by omega) gc0 (by omega) (by omega) (by first | (rw [sg0, te, gc3]; omega) | (rw [gc3]; exact (Int.add_zero _).symm)) (by omega) (by omega)
  refine zM_of [some (.inr (.inr 0)), some (.inl x1), some (.inl x2), none, none, none] 3 rfl rfl (Nat.le_of_ble_eq_true rfl) rfl ?_
  refine zW_aload_n (pc' := 1) dX12_edges_0.1.1.1.1 rfl rfl ?_
  refine zW_iload_n (pc' := 2) dX12_edges_0.1.1.1.2 rfl rfl ?_
  refine cvI1 (pc' := 5) kX12_isRow vX12_isRow lk_X12_374 ⟨Nat.le_of_ble_eq_true rfl, Nat.le_of_ble_eq_true rfl⟩ tb0 vq12 rfl rfl (s_X12_isRowZ hK hF _ ⟨by omega, by omega⟩) dX12_edges_0.1.1.2.1 (Nat.le_of_ble_eq_true rfl) rfl ?_
  rintro r2 z2 ⟨hz2, p2⟩; subst z2
  refine zV_if_eq (tgt := 19) (pc' := 8) dX12_edges_0.1.1.2.2 rfl rfl ⟨by omega, by omega⟩ (fun c5 => ?_) (fun c5 => ?_)
  · refine zW_iconst (pc' := 20) dX12_edges_0.2.1.1.2 rfl ?_
    exact zV_iret rfl dX12_edges_0.2.1.2.1 ⟨hF, (by unfold edQ; rw [if_neg (by omega)])⟩
  · refine zW_iload_n (pc' := 9) dX12_edges_0.1.2.1.1 rfl rfl ?_
    refine zW_iconst (pc' := 10) dX12_edges_0.1.2.1.2 rfl ?_
    refine zW_sipush (pc' := 13) dX12_edges_0.1.2.2.1 rfl rfl ?_
    refine csI3 (pc' := 16) kX12_in vX12_in lk_X12_140 ⟨Nat.le_of_ble_eq_true rfl, Nat.le_of_ble_eq_true rfl⟩ rfl (s_X12_inR hF _ ⟨by omega, by omega⟩ _ ⟨by omega, by omega⟩ _ ⟨by omega, by omega⟩) dX12_edges_0.1.2.2.2 (Nat.le_of_ble_eq_true rfl) rfl ?_
    rintro r13 z13 ⟨hz13, p13⟩; subst z13
    refine zV_if_ne (tgt := 21) (pc' := 19) dX12_edges_0.2.1.1.1 rfl rfl ⟨by omega, by omega⟩ (fun c16 => ?_) (fun c16 => ?_)
    · refine zW_aload_n (pc' := 22) dX12_edges_0.2.1.2.2 rfl rfl ?_
      refine zW_iload_n (pc' := 23) dX12_edges_0.2.2.1.1 rfl rfl ?_
      refine cvI1 (pc' := 26) kX12_isBehind vX12_isBehind lk_X12_380 ⟨Nat.le_of_ble_eq_true rfl, Nat.le_of_ble_eq_true rfl⟩ tb0 vq12 rfl rfl (s_X12_isBehindZ hK hF _ ⟨by omega, by omega, by omega⟩) dX12_edges_0.2.2.1.2 (Nat.le_of_ble_eq_true rfl) rfl ?_
      rintro r23 z23 ⟨hz23, p23⟩; subst z23
      refine zV_if_ne (tgt := 32) (pc' := 29) dX12_edges_0.2.2.2.1 rfl rfl ⟨by omega, by omega⟩ (fun c26 => ?_) (fun c26 => ?_)
      · refine zW_aload_n (pc' := 33) dX12_edges_1.1.1.1.2 rfl rfl ?_
        refine cvV0 (pc' := 36) kX12_leaves vX12_leaves lk_X12_377 ⟨Nat.le_of_ble_eq_true rfl, Nat.le_of_ble_eq_true rfl⟩ tb0 vq12 rfl rfl (hLw hK hF) dX12_edges_1.1.1.2.1 (Nat.le_of_ble_eq_true rfl) rfl ?_
        rintro r33 h ⟨hF, p33⟩
        have hbc := bhI_c (κ 3) x1.toNat
        have hnn : ¬ noF (κ 3) x1.toNat := by rcases hbc with q | q; (exfalso; omega); exact q.2
        have hF3 := (p33.2 x1.toNat (by omega)).2 hnn
        rw [show ((x1.toNat : Nat) : Int) = x1 by omega] at hF3
        have hb3 := PF_b hK hV x1.toNat
        refine zW_iconst (pc' := 37) dX12_edges_1.1.1.2.2 rfl ?_
        refine zW_istore_n (ls' := [_, _, _, _, _, _]) (pc' := 38) dX12_edges_1.1.2.1.1 (by decide) rfl rfl rfl ?_
        refine zW_iconst (pc' := 39) dX12_edges_1.1.2.1.2 rfl ?_
        refine zW_istore (ls' := [_, _, _, _, _, _]) (pc' := 41) dX12_edges_1.1.2.2.1 (by decide) rfl rfl rfl ?_
        exact (main 10000000000000000000000000000000000000000).1 _ _ _ hF (by omega) (by omega) (by omega) (by omega) (by omega) (by omega) (by first | exact gc0 | exact hF3) (by omega) (by omega) (by first | rfl | (rw [ug0, gc3, show v5 = κ 0 11 by omega])) (by omega) (by omega)
      · refine zW_bipush (pc' := 31) dX12_edges_0.2.2.2.2 rfl rfl ?_
        exact zV_iret rfl dX12_edges_1.1.1.1.1 ⟨hF, (by unfold edQ; rw [if_pos ⟨by omega, by omega, by omega, by omega⟩, bhV_in ⟨by omega, by omega⟩, if_neg (by omega)])⟩
    · refine zW_iconst (pc' := 20) dX12_edges_0.2.1.1.2 rfl ?_
      exact zV_iret rfl dX12_edges_0.2.1.2.1 ⟨hF, (by unfold edQ; rw [if_neg (by omega)])⟩

abbrev q_X4_lightAtZ (κ h : Hp) (s1 : Nat) (x2 : Int) (x3 : Int) (F : P3) : Int → Hp → Prop := fun r h' => h' = h ∧ ((0 ≤ r) ∧ (r ≤ 4095) ∧ (r = lgt F (mir x2 (κ 33 0)) (mir x3 (κ 33 1))))
set_option maxHeartbeats 4000000 in
set_option maxRecDepth 20000 in
theorem s_X4_lightAtZ {G : Ga} {b : Bd} {κ h : Hp} (hK : KC κ) (hF : Fr b κ h) (s1 : Nat) (hs1 : 56 ≤ s1 ∧ s1 ≤ 70) (x2 : Int) (hx2 : -2 ≤ x2 ∧ x2 ≤ 17 ∧ x2 - κ 33 0 ≤ 1) (x3 : Int) (hx3 : -2 ≤ x3 ∧ x3 ≤ 17 ∧ x3 - κ 33 1 ≤ 1) (F : P3) (hF3 : FuS (κ 33 0) (κ 33 1) (h (s1 + 15)) F) (hb3 : FB3 (κ 33 0) (κ 33 1) F) : zM G mX4_lightAt yX4_lightAt [.inr (.inr 95), .inr (.inr s1), .inl x2, .inl x3] h (q_X4_lightAtZ κ h s1 x2 x3 F) := by
  have f_33_0 := KCw hK
  have f_33_1 := KCh hK
  refine zM_of [some (.inr (.inr 95)), some (.inr (.inr s1)), some (.inl x2), some (.inl x3)] 0 rfl rfl (Nat.le_of_ble_eq_true rfl) rfl ?_
  refine zW_aload_n (pc' := 1) dX4_lightAt_0.1.1.1.1 rfl rfl ?_
  refine zG_lev (pc' := 4) (by omega) (by omega) fg_X4_94 dX4_lightAt_0.1.1.1.2 rfl ?_
  refine zW_iload_n (pc' := 5) dX4_lightAt_0.1.1.2.1 rfl rfl ?_
  refine zW_aload_n (pc' := 6) dX4_lightAt_0.1.1.2.2 rfl rfl ?_
  refine zG_ref (pc' := 9) 33 fg_X4_19 tb95 rfl dX4_lightAt_0.1.2.1.1 rfl ?_
  refine zG_key (pc' := 12) hF rfl fg_X4_31 tb33 rfl dX4_lightAt_0.1.2.1.2 rfl ?_
  refine csI2 (pc' := 15) kX11_mirrored vX11_mirrored lk_X4_105 ⟨Nat.le_of_ble_eq_true rfl, Nat.le_of_ble_eq_true rfl⟩ rfl (s_X11_mirroredZ hF _ ⟨by omega, by omega⟩ _ ⟨by omega, by omega⟩ (by omega)) dX4_lightAt_0.1.2.2.1 (Nat.le_of_ble_eq_true rfl) rfl ?_
  rintro r12 z12 ⟨hz12, p12⟩; subst z12
  refine zW_bipush (pc' := 17) dX4_lightAt_0.1.2.2.2 rfl rfl ?_
  refine zW_imul (pc' := 18) dX4_lightAt_0.2.1.1.1 rfl ?_
  refine zW_iload_n (pc' := 19) dX4_lightAt_0.2.1.1.2 rfl rfl ?_
  refine zW_aload_n (pc' := 20) dX4_lightAt_0.2.1.2.1 rfl rfl ?_
  refine zG_ref (pc' := 23) 33 fg_X4_19 tb95 rfl dX4_lightAt_0.2.1.2.2 rfl ?_
  refine zG_key (pc' := 26) hF rfl fg_X4_36 tb33 rfl dX4_lightAt_0.2.2.1.1 rfl ?_
  refine csI2 (pc' := 29) kX11_mirrored vX11_mirrored lk_X4_105 ⟨Nat.le_of_ble_eq_true rfl, Nat.le_of_ble_eq_true rfl⟩ rfl (s_X11_mirroredZ hF _ ⟨by omega, by omega⟩ _ ⟨by omega, by omega⟩ (by omega)) dX4_lightAt_0.2.2.1.2 (Nat.le_of_ble_eq_true rfl) rfl ?_
  rintro r26 z26 ⟨hz26, p26⟩; subst z26
  refine zW_iadd (pc' := 30) dX4_lightAt_0.2.2.2.1 rfl ?_
  have m1 := mir_b (v := x2) (n := κ 33 0) (by omega) (by omega) (by omega)
  have m2 := mir_b (v := x3) (n := κ 33 1) (by omega) (by omega) (by omega)
  have e12 := p12.2.2.2; have e26 := p26.2.2.2
  refine csI2 (pc' := 33) kX11_lightOf vX11_lightOf lk_X4_108 ⟨Nat.le_of_ble_eq_true rfl, Nat.le_of_ble_eq_true rfl⟩ rfl (s_X11_lightOfZ hF _ ⟨by omega, by omega⟩ _ ⟨by omega, by omega⟩ (κ 33 0) (κ 33 1) F (mir x2 (κ 33 0)) (mir x3 (κ 33 1)) hF3 hb3 ⟨m1.1, m1.2, m2.1, m2.2⟩ (by omega)) dX4_lightAt_0.2.2.2.2 (Nat.le_of_ble_eq_true rfl) rfl ?_
  rintro r30 z30 ⟨hz30, p30⟩; subst z30
  exact zV_iret rfl dX4_lightAt_1 ⟨rfl, by omega⟩

abbrev q_X4_edgesOfZ (κ h : Hp) (s1 : Nat) (x2 : Int) (F : P3) : Int → Hp → Prop := fun r h' => h' = h ∧ ((r = sumS (egT (κ 33 0) (κ 33 1) x2 F) (κ 33 0).toNat (κ 33 1).toNat))
set_option maxHeartbeats 4000000 in
set_option maxRecDepth 20000 in
theorem s_X4_edgesOfZ {G : Ga} {b : Bd} {κ h : Hp} (hK : KC κ) (hF : Fr b κ h) (s1 : Nat) (hs1 : 56 ≤ s1 ∧ s1 ≤ 70) (x2 : Int) (hx2 : 0 ≤ x2 ∧ x2 ≤ 8190) (F : P3) (hF3 : FuS (κ 33 0) (κ 33 1) (h (s1 + 15)) F) (hb3 : FB3 (κ 33 0) (κ 33 1) F) : zM G mX4_edgesOf yX4_edgesOf [.inr (.inr 95), .inr (.inr s1), .inl x2] h (q_X4_edgesOfZ κ h s1 x2 F) := by
  have f_33_0 := KCw hK
  have f_33_1 := KCh hK
  have main : ∀ N : Nat, (∀ (v3 v4 : Int) , (0 ≤ v3 ∧ v3 ≤ 256) → (0 ≤ v4 ∧ v4 ≤ 16) → (v4 - κ 33 1 ≤ 0) → (v3 = sumS (egT (κ 33 0) (κ 33 1) x2 F) (κ 33 0).toNat v4.toNat) → (0 ≤ v3 ∧ v3 ≤ 16 * v4) → 58494960 + 55080 * (16 - v4) + 54162 < (N : Int) → zV G mX4_edgesOf (q_X4_edgesOfZ κ h s1 x2 F) 5 [some (.inr (.inr 95)), some (.inr (.inr s1)), some (.inl x2), some (.inl v3), some (.inl v4), none, none, none] [] h) ∧ (∀ (v3 v4 v5 : Int) , (0 ≤ v3 ∧ v3 ≤ 256) → (0 ≤ v4 ∧ v4 ≤ 15) → (v4 - κ 33 1 ≤ -1) → (0 ≤ v5 ∧ v5 ≤ 16) → (v5 - κ 33 0 ≤ 0) → (v3 = sumS (egT (κ 33 0) (κ 33 1) x2 F) (κ 33 0).toNat v4.toNat + sumR (egT (κ 33 0) (κ 33 1) x2 F) v4 v5.toNat) → (0 ≤ v3 ∧ v3 ≤ 16 * v4 + v5) → 58494960 + 55080 * (16 - v4) + 45900 + 51 * (16 - v5) + 50 < (N : Int) → zV G mX4_edgesOf (q_X4_edgesOfZ κ h s1 x2 F) 20 [some (.inr (.inr 95)), some (.inr (.inr s1)), some (.inl x2), some (.inl v3), some (.inl v4), some (.inl v5), none, none] [] h) := by
    intro N
    induction N with
    | zero =>
      refine ⟨?_, ?_⟩
      · intro v3 v4 g0 g1 g2 gc0 gc1 hm
        exfalso; omega
      · intro v3 v4 v5 g0 g1 g2 g3 g4 gc0 gc1 hm
        exfalso; omega
    | succ N ih =>
      obtain ⟨k5, k20⟩ := ih
      refine ⟨?_, ?_⟩
      · intro v3 v4 g0 g1 g2 gc0 gc1 hm
        refine zW_iload (pc' := 7) dX4_edgesOf_0.1.2.1.1 rfl rfl ?_
        refine zW_aload_n (pc' := 8) dX4_edgesOf_0.1.2.1.2 rfl rfl ?_
        refine zG_ref (pc' := 11) 33 fg_X4_19 tb95 rfl dX4_edgesOf_0.1.2.2.1 rfl ?_
        refine zG_key (pc' := 14) hF rfl fg_X4_31 tb33 rfl dX4_edgesOf_0.1.2.2.2 rfl ?_
        refine zV_cm_ge (tgt := 112) (pc' := 17) dX4_edgesOf_0.2.1.1.1 rfl rfl ⟨by omega, by omega⟩ ⟨by omega, by omega⟩ (fun c14 => ?_) (fun c14 => ?_)
        · refine zW_iload_n (pc' := 113) dX4_edgesOf_3.2.2.1.2 rfl rfl ?_
          exact zV_iret rfl dX4_edgesOf_3.2.2.2 ⟨rfl, (by rw [gc0, show v4 = κ 33 1 by omega])⟩
        · refine zW_iconst (pc' := 18) dX4_edgesOf_0.2.1.1.2 rfl ?_
          refine zW_istore (ls' := [_, _, _, _, _, _, _, _]) (pc' := 20) dX4_edgesOf_0.2.1.2.1 (by decide) rfl rfl rfl ?_
          exact k20 _ _ _ (by omega) (by omega) (by omega) (by omega) (by omega) (by first | (rw [sg0, te, gc0]; omega) | (rw [gc0]; exact (Int.add_zero _).symm)) (by omega) (by omega)
      · intro v3 v4 v5 g0 g1 g2 g3 g4 gc0 gc1 hm
        refine zW_iload (pc' := 22) dX4_edgesOf_0.2.1.2.2 rfl rfl ?_
        refine zW_aload_n (pc' := 23) dX4_edgesOf_0.2.2.1.1 rfl rfl ?_
        refine zG_ref (pc' := 26) 33 fg_X4_19 tb95 rfl dX4_edgesOf_0.2.2.1.2 rfl ?_
        refine zG_key (pc' := 29) hF rfl fg_X4_36 tb33 rfl dX4_edgesOf_0.2.2.2.1 rfl ?_
        refine zV_cm_ge (tgt := 106) (pc' := 32) dX4_edgesOf_0.2.2.2.2 rfl rfl ⟨by omega, by omega⟩ ⟨by omega, by omega⟩ (fun c29 => ?_) (fun c29 => ?_)
        · have ug0 := sumS_s (t := (egT (κ 33 0) (κ 33 1) x2 F)) (w := (κ 33 0).toNat) (v := v4) (by omega)
          refine zW_iinc (ls' := [_, _, _, _, _, _, _, _]) (pc' := 109) dX4_edgesOf_3.2.1.2.2 rfl (by decide) rfl rfl rfl ?_
          refine zV_goto 5 dX4_edgesOf_3.2.2.1.1 rfl ?_
          refine zV_clr 5 (ls' := [_, _, _, _, _, _, _, _]) rfl ?_
          exact k5 _ _ (by omega) (by omega) (by omega) (by first | rfl | (rw [ug0, gc0, show v5 = κ 33 0 by omega])) (by omega) (by omega)
        · have sg0 := sumR_s (t := (egT (κ 33 0) (κ 33 1) x2 F)) (y := v4) (v := v5) (by omega)
          have mx := mir_i (v := v5) (n := κ 33 0) ⟨by omega, by omega⟩
          have my := mir_i (v := v4) (n := κ 33 1) ⟨by omega, by omega⟩
          refine zW_aload_n (pc' := 33) dX4_edgesOf_1.1.1.1.1 rfl rfl ?_
          refine zW_aload_n (pc' := 34) dX4_edgesOf_1.1.1.1.2 rfl rfl ?_
          refine zW_iload (pc' := 36) dX4_edgesOf_1.1.1.2.1 rfl rfl ?_
          refine zW_iconst (pc' := 37) dX4_edgesOf_1.1.1.2.2 rfl ?_
          refine zW_isub (pc' := 38) dX4_edgesOf_1.1.2.1.1 rfl ?_
          refine zW_iload (pc' := 40) dX4_edgesOf_1.1.2.1.2 rfl rfl ?_
          refine cvI3 (pc' := 43) kX4_lightAt vX4_lightAt lk_X4_101 ⟨Nat.le_of_ble_eq_true rfl, Nat.le_of_ble_eq_true rfl⟩ tb95 vq4 rfl rfl (s_X4_lightAtZ hK hF _ ⟨by omega, by omega⟩ _ ⟨by omega, by omega, by omega⟩ _ ⟨by omega, by omega, by omega⟩ F hF3 hb3) dX4_edgesOf_1.1.2.2.1 (Nat.le_of_ble_eq_true rfl) rfl ?_
          rintro r40 z40 ⟨hz40, p40⟩; subst z40
          refine zW_aload_n (pc' := 44) dX4_edgesOf_1.1.2.2.2 rfl rfl ?_
          refine zW_aload_n (pc' := 45) dX4_edgesOf_1.2.1.1.1 rfl rfl ?_
          refine zW_iload (pc' := 47) dX4_edgesOf_1.2.1.1.2 rfl rfl ?_
          refine zW_iconst (pc' := 48) dX4_edgesOf_1.2.1.2.1 rfl ?_
          refine zW_iadd (pc' := 49) dX4_edgesOf_1.2.1.2.2 rfl ?_
          refine zW_iload (pc' := 51) dX4_edgesOf_1.2.2.1.1 rfl rfl ?_
          refine cvI3 (pc' := 54) kX4_lightAt vX4_lightAt lk_X4_101 ⟨Nat.le_of_ble_eq_true rfl, Nat.le_of_ble_eq_true rfl⟩ tb95 vq4 rfl rfl (s_X4_lightAtZ hK hF _ ⟨by omega, by omega⟩ _ ⟨by omega, by omega, by omega⟩ _ ⟨by omega, by omega, by omega⟩ F hF3 hb3) dX4_edgesOf_1.2.2.1.2 (Nat.le_of_ble_eq_true rfl) rfl ?_
          rintro r51 z51 ⟨hz51, p51⟩; subst z51
          refine zW_isub (pc' := 55) dX4_edgesOf_1.2.2.2.1 rfl ?_
          refine zW_istore (ls' := [_, _, _, _, _, _, _, _]) (pc' := 57) dX4_edgesOf_1.2.2.2.2 (by decide) rfl rfl rfl ?_
          refine zW_aload_n (pc' := 58) dX4_edgesOf_2.1.1.1.1 rfl rfl ?_
          refine zW_aload_n (pc' := 59) dX4_edgesOf_2.1.1.1.2 rfl rfl ?_
          refine zW_iload (pc' := 61) dX4_edgesOf_2.1.1.2.1 rfl rfl ?_
          refine zW_iload (pc' := 63) dX4_edgesOf_2.1.1.2.2 rfl rfl ?_
          refine zW_iconst (pc' := 64) dX4_edgesOf_2.1.2.1.1 rfl ?_
          refine zW_isub (pc' := 65) dX4_edgesOf_2.1.2.1.2 rfl ?_
          refine cvI3 (pc' := 68) kX4_lightAt vX4_lightAt lk_X4_101 ⟨Nat.le_of_ble_eq_true rfl, Nat.le_of_ble_eq_true rfl⟩ tb95 vq4 rfl rfl (s_X4_lightAtZ hK hF _ ⟨by omega, by omega⟩ _ ⟨by omega, by omega, by omega⟩ _ ⟨by omega, by omega, by omega⟩ F hF3 hb3) dX4_edgesOf_2.1.2.2.1 (Nat.le_of_ble_eq_true rfl) rfl ?_
          rintro r65 z65 ⟨hz65, p65⟩; subst z65
          refine zW_aload_n (pc' := 69) dX4_edgesOf_2.1.2.2.2 rfl rfl ?_
          refine zW_aload_n (pc' := 70) dX4_edgesOf_2.2.1.1.1 rfl rfl ?_
          refine zW_iload (pc' := 72) dX4_edgesOf_2.2.1.1.2 rfl rfl ?_
          refine zW_iload (pc' := 74) dX4_edgesOf_2.2.1.2.1 rfl rfl ?_
          refine zW_iconst (pc' := 75) dX4_edgesOf_2.2.1.2.2 rfl ?_
          refine zW_iadd (pc' := 76) dX4_edgesOf_2.2.2.1.1 rfl ?_
          refine cvI3 (pc' := 79) kX4_lightAt vX4_lightAt lk_X4_101 ⟨Nat.le_of_ble_eq_true rfl, Nat.le_of_ble_eq_true rfl⟩ tb95 vq4 rfl rfl (s_X4_lightAtZ hK hF _ ⟨by omega, by omega⟩ _ ⟨by omega, by omega, by omega⟩ _ ⟨by omega, by omega, by omega⟩ F hF3 hb3) dX4_edgesOf_2.2.2.1.2 (Nat.le_of_ble_eq_true rfl) rfl ?_
          rintro r76 z76 ⟨hz76, p76⟩; subst z76
          refine zW_isub (pc' := 80) dX4_edgesOf_2.2.2.2.1 rfl ?_
          refine zW_istore (ls' := [_, _, _, _, _, _, _, _]) (pc' := 82) dX4_edgesOf_2.2.2.2.2 (by decide) rfl rfl rfl ?_
          refine zW_iload (pc' := 84) dX4_edgesOf_3.1.1.1.1 rfl rfl ?_
          refine zV_mabs (pc' := 87) km_X4_79 (Nat.le_of_ble_eq_true rfl) (Nat.le_of_ble_eq_true rfl) dX4_edgesOf_3.1.1.1.2 rfl (fun v84 e84 => ?_)
          replace e84 := e84.2 ⟨by omega, by omega⟩ (by omega)
          refine zW_iload (pc' := 89) dX4_edgesOf_3.1.1.2.1 rfl rfl ?_
          refine zV_mabs (pc' := 92) km_X4_79 (Nat.le_of_ble_eq_true rfl) (Nat.le_of_ble_eq_true rfl) dX4_edgesOf_3.1.1.2.2 rfl (fun v89 e89 => ?_)
          replace e89 := e89.2 ⟨by omega, by omega⟩ (by omega)
          refine zW_iadd (pc' := 93) dX4_edgesOf_3.1.2.1.1 rfl ?_
          rw [my] at p40 p51
          rw [mx] at p65 p76
          have zA := abc (lgt F (mir (v5 - 1) (κ 33 0)) v4 - lgt F (mir (v5 + 1) (κ 33 0)) v4)
          have zB := abc (lgt F v5 (mir (v4 - 1) (κ 33 1)) - lgt F v5 (mir (v4 + 1) (κ 33 1)))
          have hk1 := p40.2.2; have hk2 := p51.2.2; have hk3 := p65.2.2; have hk4 := p76.2.2
          refine zW_iload_n (pc' := 94) dX4_edgesOf_3.1.2.1.2 rfl rfl ?_
          refine zV_cm_lt (tgt := 100) (pc' := 97) dX4_edgesOf_3.1.2.2 rfl rfl ⟨by omega, by omega⟩ ⟨by omega, by omega⟩ (fun c94 => ?_) (fun c94 => ?_)
          · have te : (egT (κ 33 0) (κ 33 1) x2 F) v5 v4 = (if x2 ≤ v84 + v89 then 1 else 0) := by (unfold egT; rw [show ab (lgt F (mir (v5 - 1) (κ 33 0)) v4 - lgt F (mir (v5 + 1) (κ 33 0)) v4) = v84 by omega, show ab (lgt F v5 (mir (v4 - 1) (κ 33 1)) - lgt F v5 (mir (v4 + 1) (κ 33 1))) = v89 by omega])
            first | rw [if_pos (by omega)] at te | rw [if_neg (by omega)] at te
            refine zW_iinc (ls' := [_, _, _, _, _, _, _, _]) (pc' := 103) dX4_edgesOf_3.2.1.1.2 rfl (by decide) rfl rfl rfl ?_
            refine zV_goto 20 dX4_edgesOf_3.2.1.2.1 rfl ?_
            refine zV_clr 6 (ls' := [_, _, _, _, _, _, _, _]) rfl ?_
            refine zV_clr 7 (ls' := [_, _, _, _, _, _, _, _]) rfl ?_
            exact k20 _ _ _ (by omega) (by omega) (by omega) (by omega) (by omega) (by first | (rw [sg0, te, gc0]; omega) | (rw [gc0]; exact (Int.add_zero _).symm)) (by omega) (by omega)
          · refine zW_iinc (ls' := [_, _, _, _, _, _, _, _]) (pc' := 100) dX4_edgesOf_3.2.1.1.1 rfl (by decide) rfl rfl rfl ?_
            have te : (egT (κ 33 0) (κ 33 1) x2 F) v5 v4 = (if x2 ≤ v84 + v89 then 1 else 0) := by (unfold egT; rw [show ab (lgt F (mir (v5 - 1) (κ 33 0)) v4 - lgt F (mir (v5 + 1) (κ 33 0)) v4) = v84 by omega, show ab (lgt F v5 (mir (v4 - 1) (κ 33 1)) - lgt F v5 (mir (v4 + 1) (κ 33 1))) = v89 by omega])
            first | rw [if_pos (by omega)] at te | rw [if_neg (by omega)] at te
            refine zW_iinc (ls' := [_, _, _, _, _, _, _, _]) (pc' := 103) dX4_edgesOf_3.2.1.1.2 rfl (by decide) rfl rfl rfl ?_
            refine zV_goto 20 dX4_edgesOf_3.2.1.2.1 rfl ?_
            refine zV_clr 6 (ls' := [_, _, _, _, _, _, _, _]) rfl ?_
            refine zV_clr 7 (ls' := [_, _, _, _, _, _, _, _]) rfl ?_
            exact k20 _ _ _ (by omega) (by omega) (by omega) (by omega) (by omega) (by first | (rw [sg0, te, gc0]; omega) | (rw [gc0]; exact (Int.add_zero _).symm)) (by omega) (by omega)
  refine zM_of [some (.inr (.inr 95)), some (.inr (.inr s1)), some (.inl x2), none, none, none, none, none] 5 rfl rfl (Nat.le_of_ble_eq_true rfl) rfl ?_
  refine zW_iconst (pc' := 1) dX4_edgesOf_0.1.1.1.1 rfl ?_
  refine zW_istore_n (ls' := [_, _, _, _, _, _, _, _]) (pc' := 2) dX4_edgesOf_0.1.1.1.2 (by decide) rfl rfl rfl ?_
  refine zW_iconst (pc' := 3) dX4_edgesOf_0.1.1.2.1 rfl ?_
  refine zW_istore (ls' := [_, _, _, _, _, _, _, _]) (pc' := 5) dX4_edgesOf_0.1.1.2.2 (by decide) rfl rfl rfl ?_
  exact (main 10000000000000000000000000000000000000000).1 _ _ (by omega) (by omega) (by omega) (by first | rfl | (rw [ug0, gc0, show v5 = κ 33 0 by omega])) (by omega) (by omega)

abbrev q_X11_edgesZ (b : Bd) (κ : Hp) (x1 : Int) (x2 : Int) : Int → Hp → Prop := fun r h' => Fr b κ h' ∧ ((r = edQ (κ 33 0) (κ 33 1) (κ 33 2) (κ 41 0) (ltV (LC κ) (κ 41 0)) (bhV (LC κ) (κ 41 0)) (pcV (κ 41 0) (PFc κ)) (nmV (κ 41 0) (XNc κ)) x1 x2))
set_option maxHeartbeats 4000000 in
set_option maxRecDepth 20000 in
theorem s_X11_edgesZ {G : Ga} {b : Bd} {κ h : Hp} (hK : KC κ) (hF : Fr b κ h) (x1 : Int) (hx1 : rng x1) (x2 : Int) (hx2 : rng x2) (hSw : SheetW b) (hV : VOK (κ 34)) (hE : EaOK (LC κ) (κ 41 0)) (hfB : ∀ k : Nat, (k : Int) ≤ κ 41 0 → ((0 < κ 41 1 ∧ κ 41 1 ≤ (k : Int)) ↔ bhI (LC κ) k = 1)) : zM G mX11_edges yX11_edges [.inr (.inr 30), .inl x1, .inl x2] h (q_X11_edgesZ b κ x1 x2) := by
  have f_33_0 := KCw hK
  have f_33_1 := KCh hK
  have f_33_2 := KCp hK
  have f_41_0 := KCm hK
  have f_41_1 := KCf hK
  unfold rng at hx1
  unfold rng at hx2
  refine zM_of [some (.inr (.inr 30)), some (.inl x1), some (.inl x2)] 0 rfl rfl (Nat.le_of_ble_eq_true rfl) rfl ?_
  refine zW_aload_n (pc' := 1) dX11_edges_0.1.1.1.1 rfl rfl ?_
  refine zG_ref (pc' := 4) 41 fg_X11_33 tb30 rfl dX11_edges_0.1.1.1.2 rfl ?_
  refine zW_iload_n (pc' := 5) dX11_edges_0.1.1.2.1 rfl rfl ?_
  refine cvI1 (pc' := 8) kX7_leaves vX7_leaves lk_X11_189 ⟨Nat.le_of_ble_eq_true rfl, Nat.le_of_ble_eq_true rfl⟩ tb41 vq7 rfl rfl (s_X7_leaves hK hF _ ⟨by omega, by omega⟩) dX11_edges_0.1.1.2.2 (Nat.le_of_ble_eq_true rfl) rfl ?_
  rintro r5 z5 ⟨hz5, p5⟩; subst z5
  refine zV_if_eq (tgt := 21) (pc' := 11) dX11_edges_0.1.2.1.1 rfl rfl ⟨by omega, by omega⟩ (fun c8 => ?_) (fun c8 => ?_)
  · refine zW_iconst (pc' := 22) dX11_edges_0.2.1.1.2 rfl ?_
    exact zV_iret rfl dX11_edges_0.2.1.2.1 ⟨hF, (by unfold edQ; rw [if_neg (by omega)])⟩
  · refine zW_iload_n (pc' := 12) dX11_edges_0.1.2.1.2 rfl rfl ?_
    refine zW_sipush (pc' := 15) dX11_edges_0.1.2.2.1 rfl rfl ?_
    refine csI2 (pc' := 18) kX11_isWithin vX11_isWithin lk_X11_116 ⟨Nat.le_of_ble_eq_true rfl, Nat.le_of_ble_eq_true rfl⟩ rfl (s_X11_isWithinR hF _ ⟨by omega, by omega⟩ _ ⟨by omega, by omega⟩) dX11_edges_0.1.2.2.2 (Nat.le_of_ble_eq_true rfl) rfl ?_
    rintro r15 z15 ⟨hz15, p15⟩; subst z15
    refine zV_if_ne (tgt := 23) (pc' := 21) dX11_edges_0.2.1.1.1 rfl rfl ⟨by omega, by omega⟩ (fun c18 => ?_) (fun c18 => ?_)
    · refine zW_aload_n (pc' := 24) dX11_edges_0.2.1.2.2 rfl rfl ?_
      refine zG_ref (pc' := 27) 41 fg_X11_33 tb30 rfl dX11_edges_0.2.2.1.1 rfl ?_
      refine zW_iload_n (pc' := 28) dX11_edges_0.2.2.1.2 rfl rfl ?_
      refine cvI1 (pc' := 31) kX7_isBehindF vX7_isBehindF lk_X11_310 ⟨Nat.le_of_ble_eq_true rfl, Nat.le_of_ble_eq_true rfl⟩ tb41 vq7 rfl rfl (s_X7_isBehindFZ hK hF _ ⟨by omega, by omega, by omega⟩ hfB) dX11_edges_0.2.2.2.1 (Nat.le_of_ble_eq_true rfl) rfl ?_
      rintro r28 z28 ⟨hz28, p28⟩; subst z28
      refine zV_if_eq (tgt := 53) (pc' := 34) dX11_edges_0.2.2.2.2 rfl rfl ⟨by omega, by omega⟩ (fun c31 => ?_) (fun c31 => ?_)
      · refine zW_bipush (pc' := 55) dX11_edges_1.2.2.1 rfl rfl ?_
        exact zV_iret rfl dX11_edges_1.2.2.2 ⟨hF, (by first | exact (by unfold edQ; rw [if_pos ⟨by omega, by omega, by omega, by omega⟩, bhV_in ⟨by omega, by omega⟩, if_neg (by omega)]) | exact (by unfold edQ; rw [if_pos ⟨by omega, by omega, by omega, by omega⟩, bhV_in ⟨by omega, by omega⟩, if_pos (by omega), pcV_in ⟨by omega, by omega⟩]; exact p47))⟩
      · refine zW_aload_n (pc' := 35) dX11_edges_1.1.1.1.1 rfl rfl ?_
        refine zG_ref (pc' := 38) 95 fg_X11_60 tb30 rfl dX11_edges_1.1.1.1.2 rfl ?_
        refine zW_aload_n (pc' := 39) dX11_edges_1.1.1.2 rfl rfl ?_
        refine zG_ref (pc' := 42) 54 fg_X11_51 tb30 rfl dX11_edges_1.1.2.1.1 rfl ?_
        refine zW_iload_n (pc' := 43) dX11_edges_1.1.2.1.2 rfl rfl ?_
        refine cvA1 (pc' := 46) kX1_sheetOf vX1_sheetOf lk_X11_192 ⟨Nat.le_of_ble_eq_true rfl, Nat.le_of_ble_eq_true rfl⟩ tb54 vq1 rfl rfl (hSw hK hF _ ⟨by omega, by omega⟩) dX11_edges_1.1.2.2 (Nat.le_of_ble_eq_true rfl) rfl ?_
        rintro r43 h ⟨hF, p43⟩
        obtain ⟨q43, z43⟩ : ∃ z : Nat, z = r43.toNat := ⟨_, rfl⟩
        rw [← z43]
        have hbc := bhI_c (LC κ) x1.toNat
        have hnn : ¬ noF (LC κ) x1.toNat := by rcases hbc with q | q; (exfalso; omega); exact q.2
        have hF3 := (((p43.2.2 (by omega) (by omega)).2 x1.toNat (by omega)).2 hnn).1
        have hqs := (p43.2.2 (by omega) (by omega)).1
        rw [show 56 + x1.toNat + 15 = q43 + 15 by omega] at hF3
        have hb3 := PFc_b hK hV x1.toNat
        refine zW_iload_n (pc' := 47) dX11_edges_1.2.1.1.1 rfl rfl ?_
        refine cvI2 (pc' := 50) kX4_edgesOf vX4_edgesOf lk_X11_336 ⟨Nat.le_of_ble_eq_true rfl, Nat.le_of_ble_eq_true rfl⟩ tb95 vq4 rfl rfl (s_X4_edgesOfZ hK hF _ ⟨by omega, by omega⟩ _ ⟨by omega, by omega⟩ (PFc κ x1.toNat) hF3 hb3) dX11_edges_1.2.1.1.2 (Nat.le_of_ble_eq_true rfl) rfl ?_
        rintro r47 z47 ⟨hz47, p47⟩; subst z47
        refine zV_goto 55 dX11_edges_1.2.1.2 rfl ?_
        exact zV_iret rfl dX11_edges_1.2.2.2 ⟨hF, (by first | exact (by unfold edQ; rw [if_pos ⟨by omega, by omega, by omega, by omega⟩, bhV_in ⟨by omega, by omega⟩, if_neg (by omega)]) | exact (by unfold edQ; rw [if_pos ⟨by omega, by omega, by omega, by omega⟩, bhV_in ⟨by omega, by omega⟩, if_pos (by omega), pcV_in ⟨by omega, by omega⟩]; exact p47))⟩
    · refine zW_iconst (pc' := 22) dX11_edges_0.2.1.1.2 rfl ?_
      exact zV_iret rfl dX11_edges_0.2.1.2.1 ⟨hF, (by unfold edQ; rw [if_neg (by omega)])⟩




