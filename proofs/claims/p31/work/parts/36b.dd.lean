/-! the dead squares, place by place -/
theorem zwr_pt {h : Hp} {k i j : Nat} {v x : Int} (e : x = zwr h k i v k j) : (j = i → x = v) ∧ (j ≠ i → x = h k j) := by
  refine ⟨fun q => ?_, fun q => ?_⟩
  · subst q; exact e.trans zwr_eq
  · exact e.trans (zwr_ne (Or.inr q))
theorem zcp_pt {h : Hp} {a c n j : Nat} {x : Int} (e : x = zcp h a c 0 n c j) : (j < n → x = h a j) ∧ (n ≤ j → x = h c j) := by
  refine ⟨fun q => ?_, fun q => ?_⟩
  · exact e.trans (zcp_in ⟨Nat.zero_le _, by omega⟩)
  · exact e.trans (zcp_out (by omega))
/-- how many of the first n are not 0 -/
def cntZ (f : Nat → Int) : Nat → Int
  | 0 => 0
  | n + 1 => cntZ f n + (if f n = 0 then 0 else 1)
theorem cntZ_step {f : Nat → Int} {v : Int} (h : 0 ≤ v) : cntZ f (v + 1).toNat = cntZ f v.toNat + (if f v.toNat = 0 then 0 else 1) := by
  rw [show (v + 1).toNat = v.toNat + 1 by omega]
  rfl
/-- a row's sum, and the sum of rows -/
def smR (f : Nat → Int) (y : Nat) : Nat → Int
  | 0 => 0
  | n + 1 => smR f y n + f (16 * y + n)
def smS (f : Nat → Int) (w : Nat) : Nat → Int
  | 0 => 0
  | n + 1 => smS f w n + smR f n w
theorem smR_step {f : Nat → Int} {y v : Int} (hy : 0 ≤ y) (h : 0 ≤ v) : smR f y.toNat (v + 1).toNat = smR f y.toNat v.toNat + f (y * 16 + v).toNat := by
  rw [show (v + 1).toNat = v.toNat + 1 by omega, show (y * 16 + v).toNat = 16 * y.toNat + v.toNat by omega]
  rfl
theorem smS_step {f : Nat → Int} {w : Nat} {v : Int} (h : 0 ≤ v) : smS f w (v + 1).toNat = smS f w v.toNat + smR f v.toNat w := by
  rw [show (v + 1).toNat = v.toNat + 1 by omega]
  rfl

abbrev q_X12_deadManyD (κ h : Hp)  : Int → Hp → Prop := fun r h' => h' = h ∧ ((r = cntZ (κ 10) 256))
set_option maxHeartbeats 4000000 in
set_option maxRecDepth 20000 in
theorem s_X12_deadManyD {G : Ga} {b : Bd} {κ h : Hp} (hK : KR κ) (hF : Fr b κ h)  : zM G mX12_deadMany yX12_deadMany [.inr (.inr 0)] h (q_X12_deadManyD κ h) := by
  have main : ∀ N : Nat, (∀ (v1 v2 : Int) , (0 ≤ v2 ∧ v2 ≤ 256) → (v1 = cntZ (κ 10) v2.toNat) → 78948 + 18 * (256 - v2) + 17 < (N : Int) → zV G mX12_deadMany (q_X12_deadManyD κ h) 4 [some (.inr (.inr 0)), some (.inl v1), some (.inl v2)] [] h) := by
    intro N
    induction N with
    | zero =>
      intro v1 v2 g0 gc0 hm
      exfalso; omega
    | succ N ih =>
      have k4 := ih
      intro v1 v2 g0 gc0 hm
      refine zW_iload_n (pc' := 5) dX12_deadMany_0.1.2.1.1 rfl rfl ?_
      refine zW_sipush (pc' := 8) dX12_deadMany_0.1.2.1.2 rfl rfl ?_
      refine zV_cm_ge (tgt := 30) (pc' := 11) dX12_deadMany_0.1.2.2.1 rfl rfl ⟨by omega, by omega⟩ ⟨by omega, by omega⟩ (fun c8 => ?_) (fun c8 => ?_)
      · refine zW_iload_n (pc' := 31) dX12_deadMany_1.2.1 rfl rfl ?_
        exact zV_iret rfl dX12_deadMany_1.2.2 ⟨rfl, by rw [show (256 : Nat) = v2.toNat by omega]; exact gc0⟩
      · refine zW_aload_n (pc' := 12) dX12_deadMany_0.1.2.2.2 rfl rfl ?_
        refine zG_ref (pc' := 15) 10 fg_X12_37 tb0 rfl dX12_deadMany_0.2.1.1.1 rfl ?_
        refine zW_iload_n (pc' := 16) dX12_deadMany_0.2.1.1.2 rfl rfl ?_
        refine zA_keyz (pc' := 17) hF rfl tb10 (by omega) dX12_deadMany_0.2.1.2.1 (by decide) rfl ?_
        have hb17 := KRd hK v2.toNat
        refine zV_if_eq (tgt := 24) (pc' := 20) dX12_deadMany_0.2.1.2.2 rfl rfl ⟨by omega, by omega⟩ (fun c17 => ?_) (fun c17 => ?_)
        · refine zW_iinc (ls' := [_, _, _]) (pc' := 27) dX12_deadMany_1.1.1 rfl (by decide) rfl rfl rfl ?_
          refine zV_goto 4 dX12_deadMany_1.1.2 rfl ?_
          exact k4 _ _ (by omega) (by first | rfl | (have q := cntZ_step (f := κ 10) (v := v2) (by omega); first | (rw [if_pos (by omega)] at q; omega) | (rw [if_neg (by omega)] at q; omega))) (by omega)
        · refine zW_iload_n (pc' := 21) dX12_deadMany_0.2.2.1.1 rfl rfl ?_
          refine zW_iconst (pc' := 22) dX12_deadMany_0.2.2.1.2 rfl ?_
          refine zW_iadd (pc' := 23) dX12_deadMany_0.2.2.2.1 rfl ?_
          refine zW_istore_n (ls' := [_, _, _]) (pc' := 24) dX12_deadMany_0.2.2.2.2 (by decide) rfl rfl rfl ?_
          refine zW_iinc (ls' := [_, _, _]) (pc' := 27) dX12_deadMany_1.1.1 rfl (by decide) rfl rfl rfl ?_
          refine zV_goto 4 dX12_deadMany_1.1.2 rfl ?_
          exact k4 _ _ (by omega) (by first | rfl | (have q := cntZ_step (f := κ 10) (v := v2) (by omega); first | (rw [if_pos (by omega)] at q; omega) | (rw [if_neg (by omega)] at q; omega))) (by omega)
  refine zM_of [some (.inr (.inr 0)), none, none] 2 rfl rfl (Nat.le_of_ble_eq_true rfl) rfl ?_
  refine zW_iconst (pc' := 1) dX12_deadMany_0.1.1.1.1 rfl ?_
  refine zW_istore_n (ls' := [_, _, _]) (pc' := 2) dX12_deadMany_0.1.1.1.2 (by decide) rfl rfl rfl ?_
  refine zW_iconst (pc' := 3) dX12_deadMany_0.1.1.2.1 rfl ?_
  refine zW_istore_n (ls' := [_, _, _]) (pc' := 4) dX12_deadMany_0.1.1.2.2 (by decide) rfl rfl rfl ?_
  exact (main 10000000000000000000000000000000000000000) _ _ (by omega) (by first | rfl | (have q := cntZ_step (f := κ 10) (v := v2) (by omega); first | (rw [if_pos (by omega)] at q; omega) | (rw [if_neg (by omega)] at q; omega))) (by omega)

abbrev q_X12_deadD (κ : Hp) (x1 : Int) (x2 : Int) (x3 : Int) : Int → Hp → Prop := fun r h' => Fm [(10, 999), (0, 21), (0, 23)] κ h' ∧ ((((¬ (0 ≤ x1 ∧ x1 < κ 0 11 ∧ 0 ≤ x2 ∧ x2 < κ 0 12) ∧ r = -1) ∨ ((0 ≤ x1 ∧ x1 < κ 0 11 ∧ 0 ≤ x2 ∧ x2 < κ 0 12) ∧ r = cntZ (h' 10) 256)) ∧ (∀ j : Nat, ((0 ≤ x1 ∧ x1 < κ 0 11 ∧ 0 ≤ x2 ∧ x2 < κ 0 12) → (j : Int) = 16 * x2 + x1 → h' 10 j = x3) ∧ (¬ ((0 ≤ x1 ∧ x1 < κ 0 11 ∧ 0 ≤ x2 ∧ x2 < κ 0 12) ∧ (j : Int) = 16 * x2 + x1) → h' 10 j = κ 10 j))) ∧ ChR κ h')
set_option maxHeartbeats 4000000 in
set_option maxRecDepth 20000 in
theorem s_X12_deadD {G : Ga} {κ : Hp} (hS : SI κ) (hR : KR κ) (hC : KC κ) (x1 : Int) (hx1 : rng x1) (x2 : Int) (hx2 : rng x2) (x3 : Int) (hx3 : 0 ≤ x3 ∧ x3 ≤ 1) : zM G mX12_dead yX12_dead [.inr (.inr 0), .inl x1, .inl x2, .inl x3] κ (q_X12_deadD κ x1 x2 x3) := by
  have f_0_11 := KRw hR
  have f_0_12 := KRh hR
  unfold rng at hx1
  unfold rng at hx2
  refine zM_of [some (.inr (.inr 0)), some (.inl x1), some (.inl x2), some (.inl x3)] 0 rfl rfl (Nat.le_of_ble_eq_true rfl) rfl ?_
  refine (show ∀ h : Hp, Fm [(10, 999), (0, 21), (0, 23)] κ h → h = κ → zV G mX12_dead (q_X12_deadD κ x1 x2 x3) 0 [some (.inr (.inr 0)), some (.inl x1), some (.inl x2), some (.inl x3)] [] h from fun h hF hk0 => ?_) κ (Fm.rf hS hR hC) rfl
  have a0_10 := fun j : Nat => congrFun (congrFun hk0 10) j
  refine zW_aload_n (pc' := 1) dX12_dead_0.1.1.1.1 rfl rfl ?_
  refine zW_iload_n (pc' := 2) dX12_dead_0.1.1.1.2 rfl rfl ?_
  refine zW_iload_n (pc' := 3) dX12_dead_0.1.1.2.1 rfl rfl ?_
  have y3_0_11 := hF.1 0 11 rfl rfl
  have y3_0_12 := hF.1 0 12 rfl rfl
  refine cvI2 (pc' := 6) kX12_isSquare vX12_isSquare lk_X12_218 ⟨Nat.le_of_ble_eq_true rfl, Nat.le_of_ble_eq_true rfl⟩ tb0 vq12 rfl rfl (s_X12_isSquare (b := bdB true) (κ := h) hF.2.2.1 (Fr.rf hF.2.1) _ ⟨by omega, by omega⟩ _ ⟨by omega, by omega⟩) dX12_dead_0.1.1.2.2 (Nat.le_of_ble_eq_true rfl) rfl ?_
  rintro r3 z3 ⟨hz3, p3⟩; subst z3
  refine zV_if_ne (tgt := 11) (pc' := 9) dX12_dead_0.1.2.1.1 rfl rfl ⟨by omega, by omega⟩ (fun c6 => ?_) (fun c6 => ?_)
  · refine zW_aload_n (pc' := 12) dX12_dead_0.1.2.2.2 rfl rfl ?_
    refine zG_ref (pc' := 15) 10 fg_X12_37 tb0 rfl dX12_dead_0.2.1.1.1 rfl ?_
    refine zW_bipush (pc' := 17) dX12_dead_0.2.1.1.2 rfl rfl ?_
    refine zW_iload_n (pc' := 18) dX12_dead_0.2.1.2.1 rfl rfl ?_
    refine zW_imul (pc' := 19) dX12_dead_0.2.1.2.2 rfl ?_
    refine zW_iload_n (pc' := 20) dX12_dead_0.2.2.1.1 rfl rfl ?_
    refine zW_iadd (pc' := 21) dX12_dead_0.2.2.1.2 rfl ?_
    refine zW_iload_n (pc' := 22) dX12_dead_0.2.2.2.1 rfl rfl ?_
    refine zSmz (pc' := 23) hF rfl ⟨(SI_irr hF.2.1 (Or.inl (key_of rfl _)) (fun _ _ => ⟨by omega, by omega⟩)), (KR_c10 hF.2.2.1 (by omega)), (KC_irr hF.2.2.2 rfl)⟩ tb10 (by omega) (by omega) dX12_dead_0.2.2.2.2 (by decide) rfl (fun h hF w22 => ?_)
    have a22_10 := fun j : Nat => zwr_pt (congrFun (congrFun w22 10) j)
    have t22_0_23 := congrFun (congrFun w22 0) 23
    rw [zwr_ne (Or.inl (by decide))] at t22_0_23
    refine zW_aload_n (pc' := 24) dX12_dead_1.1.1.1 rfl rfl ?_
    refine cvV0 (pc' := 27) kX12_changed vX12_changed lk_X12_215 ⟨Nat.le_of_ble_eq_true rfl, Nat.le_of_ble_eq_true rfl⟩ tb0 vq12 rfl rfl (s_X12_changed hF.2.1 hF.2.2.1 hF.2.2.2) dX12_dead_1.1.1.2 (Nat.le_of_ble_eq_true rfl) rfl ?_
    rintro r24 h ⟨hF1, p24⟩; replace hF := hF.tr hF1 rfl
    have f24_10 := fun j : Nat => hF1.1 10 j rfl rfl
    refine zW_aload_n (pc' := 28) dX12_dead_1.1.2 rfl rfl ?_
    refine cvI0 (pc' := 31) kX12_deadMany vX12_deadMany lk_X12_221 ⟨Nat.le_of_ble_eq_true rfl, Nat.le_of_ble_eq_true rfl⟩ tb0 vq12 rfl rfl (s_X12_deadManyD (b := bdB true) (κ := h) hF.2.2.1 (Fr.rf hF.2.1)) dX12_dead_1.2.1 (Nat.le_of_ble_eq_true rfl) rfl ?_
    rintro r28 z28 ⟨hz28, p28⟩; subst z28
    exact zV_iret rfl dX12_dead_1.2.2 ⟨hF, ⟨⟨by omega, (fun j => by have q0 := a0_10 j; have q1 := a22_10 j; have q2 := f24_10 j; omega)⟩, (by first | exact Or.inl (by omega) | exact Or.inr hU | exact Or.inr (by rw [hk0]; exact UnR.rf))⟩⟩
  · refine zW_iconst (pc' := 10) dX12_dead_0.1.2.1.2 rfl ?_
    exact zV_iret rfl dX12_dead_0.1.2.2.1 ⟨hF, ⟨⟨by omega, (fun j => by have q0 := a0_10 j; omega)⟩, (by first | exact Or.inl (by omega) | exact Or.inr hU | exact Or.inr (by rw [hk0]; exact UnR.rf))⟩⟩

abbrev q_X5_sumOfD (κ h : Hp) (l1 : Nat) : Int → Hp → Prop := fun r h' => h' = h ∧ ((r = smS (h l1) (κ 33 0).toNat (κ 33 1).toNat))
set_option maxHeartbeats 4000000 in
set_option maxRecDepth 20000 in
theorem s_X5_sumOfD {G : Ga} {b : Bd} {κ h : Hp} (hK : KC κ) (hF : Fr b κ h) (l1 : Nat) (ht_l1 : tab[l1]? = some (1, 0, [256])) (hb_l1 : 256 < 2147483648) : zM G mX5_sumOf yX5_sumOf [.inr (.inr 33), .inr (.inr l1)] h (q_X5_sumOfD κ h l1) := by
  have f_33_0 := KCw hK
  have f_33_1 := KCh hK
  have f_36_0 := KCk0 hK
  have f_36_1 := KCk1 hK
  have main : ∀ N : Nat, (∀ (v2 v3 : Int) , (0 ≤ v3 ∧ v3 ≤ 16) → (v3 - κ 33 1 ≤ 0) → (v2 = smS (h l1) (κ 33 0).toNat v3.toNat) → 4898880 + 10080 * (16 - v3) + 9720 < (N : Int) → zV G mX5_sumOf (q_X5_sumOfD κ h l1) 4 [some (.inr (.inr 33)), some (.inr (.inr l1)), some (.inl v2), some (.inl v3), none] [] h) ∧ (∀ (v2 v3 v4 : Int) , (0 ≤ v3 ∧ v3 ≤ 15) → (v3 - κ 33 1 ≤ -1) → (0 ≤ v4 ∧ v4 ≤ 16) → (v4 - κ 33 0 ≤ 0) → (v2 = smS (h l1) (κ 33 0).toNat v3.toNat + smR (h l1) v3.toNat v4.toNat) → 4898880 + 10080 * (16 - v3) + 6840 + 20 * (16 - v4) + 19 < (N : Int) → zV G mX5_sumOf (q_X5_sumOfD κ h l1) 15 [some (.inr (.inr 33)), some (.inr (.inr l1)), some (.inl v2), some (.inl v3), some (.inl v4)] [] h) := by
    intro N
    induction N with
    | zero =>
      refine ⟨?_, ?_⟩
      · intro v2 v3 g0 g1 gc0 hm
        exfalso; omega
      · intro v2 v3 v4 g0 g1 g2 g3 gc0 hm
        exfalso; omega
    | succ N ih =>
      obtain ⟨k4, k15⟩ := ih
      refine ⟨?_, ?_⟩
      · intro v2 v3 g0 g1 gc0 hm
        refine zW_iload_n (pc' := 5) dX5_sumOf_0.1.2.1.1 rfl rfl ?_
        refine zW_aload_n (pc' := 6) dX5_sumOf_0.1.2.1.2 rfl rfl ?_
        refine zG_key (pc' := 9) hF rfl fg_X5_15 tb33 rfl dX5_sumOf_0.1.2.2.1 rfl ?_
        refine zV_cm_ge (tgt := 48) (pc' := 12) dX5_sumOf_0.1.2.2.2 rfl rfl ⟨by omega, by omega⟩ ⟨by omega, by omega⟩ (fun c9 => ?_) (fun c9 => ?_)
        · refine zW_iload_n (pc' := 49) dX5_sumOf_1.2.2.1.2 rfl rfl ?_
          exact zV_iret rfl dX5_sumOf_1.2.2.2 ⟨rfl, by rw [show κ 33 1 = v3 by omega]; exact gc0⟩
        · refine zW_iconst (pc' := 13) dX5_sumOf_0.2.1.1.1 rfl ?_
          refine zW_istore (ls' := [_, _, _, _, _]) (pc' := 15) dX5_sumOf_0.2.1.1.2 (by decide) rfl rfl rfl ?_
          exact k15 _ _ _ (by omega) (by omega) (by omega) (by omega) (by first | (have q := smR_step (f := h l1) (y := v3) (v := v4) (by omega) (by omega); rw [q]; omega) | (show _ = _ + 0; omega)) (by omega)
      · intro v2 v3 v4 g0 g1 g2 g3 gc0 hm
        refine zW_iload (pc' := 17) dX5_sumOf_0.2.1.2.1 rfl rfl ?_
        refine zW_aload_n (pc' := 18) dX5_sumOf_0.2.1.2.2 rfl rfl ?_
        refine zG_key (pc' := 21) hF rfl fg_X5_9 tb33 rfl dX5_sumOf_0.2.2.1.1 rfl ?_
        refine zV_cm_ge (tgt := 42) (pc' := 24) dX5_sumOf_0.2.2.1.2 rfl rfl ⟨by omega, by omega⟩ ⟨by omega, by omega⟩ (fun c21 => ?_) (fun c21 => ?_)
        · refine zW_iinc (ls' := [_, _, _, _, _]) (pc' := 45) dX5_sumOf_1.2.1.2.2 rfl (by decide) rfl rfl rfl ?_
          refine zV_goto 4 dX5_sumOf_1.2.2.1.1 rfl ?_
          refine zV_clr 4 (ls' := [_, _, _, _, _]) rfl ?_
          exact k4 _ _ (by omega) (by omega) (by first | rfl | (have q := smS_step (f := h l1) (w := (κ 33 0).toNat) (v := v3) (by omega); have e4 : v4.toNat = (κ 33 0).toNat := (by omega); rw [e4] at gc0; rw [q]; exact gc0)) (by omega)
        · refine zW_iload_n (pc' := 25) dX5_sumOf_0.2.2.2.1 rfl rfl ?_
          refine zW_aload_n (pc' := 26) dX5_sumOf_0.2.2.2.2 rfl rfl ?_
          refine zW_iload_n (pc' := 27) dX5_sumOf_1.1.1.1.1 rfl rfl ?_
          refine zW_bipush (pc' := 29) dX5_sumOf_1.1.1.1.2 rfl rfl ?_
          refine zW_imul (pc' := 30) dX5_sumOf_1.1.1.2.1 rfl ?_
          refine zW_iload (pc' := 32) dX5_sumOf_1.1.1.2.2 rfl rfl ?_
          refine zW_iadd (pc' := 33) dX5_sumOf_1.1.2.1.1 rfl ?_
          refine zV_iald (pc' := 34) ht_l1 (by omega) dX5_sumOf_1.1.2.1.2 hb_l1 rfl ?_
          refine zW_iadd (pc' := 35) dX5_sumOf_1.1.2.2 rfl ?_
          refine zW_istore_n (ls' := [_, _, _, _, _]) (pc' := 36) dX5_sumOf_1.2.1.1.1 (by decide) rfl rfl rfl ?_
          refine zW_iinc (ls' := [_, _, _, _, _]) (pc' := 39) dX5_sumOf_1.2.1.1.2 rfl (by decide) rfl rfl rfl ?_
          refine zV_goto 15 dX5_sumOf_1.2.1.2.1 rfl ?_
          exact k15 _ _ _ (by omega) (by omega) (by omega) (by omega) (by first | (have q := smR_step (f := h l1) (y := v3) (v := v4) (by omega) (by omega); rw [q]; omega) | (show _ = _ + 0; omega)) (by omega)
  refine zM_of [some (.inr (.inr 33)), some (.inr (.inr l1)), none, none, none] 3 rfl rfl (Nat.le_of_ble_eq_true rfl) rfl ?_
  refine zW_iconst (pc' := 1) dX5_sumOf_0.1.1.1.1 rfl ?_
  refine zW_istore_n (ls' := [_, _, _, _, _]) (pc' := 2) dX5_sumOf_0.1.1.1.2 (by decide) rfl rfl rfl ?_
  refine zW_iconst (pc' := 3) dX5_sumOf_0.1.1.2.1 rfl ?_
  refine zW_istore_n (ls' := [_, _, _, _, _]) (pc' := 4) dX5_sumOf_0.1.1.2.2 (by decide) rfl rfl rfl ?_
  exact (main 10000000000000000000000000000000000000000).1 _ _ (by omega) (by omega) (by first | rfl | (have q := smS_step (f := h l1) (w := (κ 33 0).toNat) (v := v3) (by omega); have e4 : v4.toNat = (κ 33 0).toNat := (by omega); rw [e4] at gc0; rw [q]; exact gc0)) (by omega)

abbrev q_X11_deadD (κ : Hp) (x1 : Int) (x2 : Int) (x3 : Int) : Int → Hp → Prop := fun r h' => Fm [(35, 999), (39, 1), (54, 7)] κ h' ∧ ((((¬ (0 ≤ x1 ∧ x1 < κ 33 0 ∧ 0 ≤ x2 ∧ x2 < κ 33 1) ∧ r = -1) ∨ ((0 ≤ x1 ∧ x1 < κ 33 0 ∧ 0 ≤ x2 ∧ x2 < κ 33 1) ∧ r = smS (h' 35) (κ 33 0).toNat (κ 33 1).toNat)) ∧ (∀ j : Nat, ((0 ≤ x1 ∧ x1 < κ 33 0 ∧ 0 ≤ x2 ∧ x2 < κ 33 1) → (j : Int) = 16 * x2 + x1 → h' 35 j = x3) ∧ (¬ ((0 ≤ x1 ∧ x1 < κ 33 0 ∧ 0 ≤ x2 ∧ x2 < κ 33 1) ∧ (j : Int) = 16 * x2 + x1) → h' 35 j = κ 35 j))) ∧ ChC κ h')
set_option maxHeartbeats 4000000 in
set_option maxRecDepth 20000 in
theorem s_X11_deadD {G : Ga} {κ : Hp} (hS : SI κ) (hR : KR κ) (hC : KC κ) (x1 : Int) (hx1 : rng x1) (x2 : Int) (hx2 : rng x2) (x3 : Int) (hx3 : 0 ≤ x3 ∧ x3 ≤ 1) : zM G mX11_dead yX11_dead [.inr (.inr 30), .inl x1, .inl x2, .inl x3] κ (q_X11_deadD κ x1 x2 x3) := by
  have f_33_0 := KCw hC
  have f_33_1 := KCh hC
  unfold rng at hx1
  unfold rng at hx2
  refine zM_of [some (.inr (.inr 30)), some (.inl x1), some (.inl x2), some (.inl x3)] 0 rfl rfl (Nat.le_of_ble_eq_true rfl) rfl ?_
  refine (show ∀ h : Hp, Fm [(35, 999), (39, 1), (54, 7)] κ h → h = κ → zV G mX11_dead (q_X11_deadD κ x1 x2 x3) 0 [some (.inr (.inr 30)), some (.inl x1), some (.inl x2), some (.inl x3)] [] h from fun h hF hk0 => ?_) κ (Fm.rf hS hR hC) rfl
  have a0_35 := fun j : Nat => congrFun (congrFun hk0 35) j
  refine zW_aload_n (pc' := 1) dX11_dead_0.1.1.1.1 rfl rfl ?_
  refine zG_ref (pc' := 4) 33 fg_X11_19 tb30 rfl dX11_dead_0.1.1.1.2 rfl ?_
  refine zW_iload_n (pc' := 5) dX11_dead_0.1.1.2.1 rfl rfl ?_
  refine zW_iload_n (pc' := 6) dX11_dead_0.1.1.2.2 rfl rfl ?_
  have y6_33_0 := hF.1 33 0 rfl rfl
  have y6_33_1 := hF.1 33 1 rfl rfl
  refine cvI2 (pc' := 9) kX5_has vX5_has lk_X11_140 ⟨Nat.le_of_ble_eq_true rfl, Nat.le_of_ble_eq_true rfl⟩ tb33 vq5 rfl rfl (s_X5_has (b := bdB true) (κ := h) hF.2.2.2 (Fr.rf hF.2.1) _ ⟨by omega, by omega⟩ _ ⟨by omega, by omega⟩) dX11_dead_0.1.2.1.1 (Nat.le_of_ble_eq_true rfl) rfl ?_
  rintro r6 z6 ⟨hz6, p6⟩; subst z6
  refine zV_if_ne (tgt := 14) (pc' := 12) dX11_dead_0.1.2.1.2 rfl rfl ⟨by omega, by omega⟩ (fun c9 => ?_) (fun c9 => ?_)
  · refine zW_aload_n (pc' := 15) dX11_dead_0.2.1.1.1 rfl rfl ?_
    refine zG_ref (pc' := 18) 33 fg_X11_19 tb30 rfl dX11_dead_0.2.1.1.2 rfl ?_
    refine zG_ref (pc' := 21) 35 fg_X11_143 tb33 rfl dX11_dead_0.2.1.2.1 rfl ?_
    refine zW_iload_n (pc' := 22) dX11_dead_0.2.1.2.2 rfl rfl ?_
    refine zW_bipush (pc' := 24) dX11_dead_0.2.2.1.1 rfl rfl ?_
    refine zW_imul (pc' := 25) dX11_dead_0.2.2.1.2 rfl ?_
    refine zW_iload_n (pc' := 26) dX11_dead_0.2.2.2.1 rfl rfl ?_
    refine zW_iadd (pc' := 27) dX11_dead_0.2.2.2.2 rfl ?_
    refine zW_iload_n (pc' := 28) dX11_dead_1.1.1.1.1 rfl rfl ?_
    refine zV_if_eq (tgt := 35) (pc' := 31) dX11_dead_1.1.1.1.2 rfl rfl ⟨by omega, by omega⟩ (fun c28 => ?_) (fun c28 => ?_)
    · refine zW_iconst (pc' := 36) dX11_dead_1.1.2.1.1 rfl ?_
      refine zSm (pc' := 37) hF rfl (fun v' hv he => ⟨(SI_irr hF.2.1 (Or.inl (key_of rfl _)) (fun _ _ => hv)), (KR_irr hF.2.2.1 rfl), (KC_irr hF.2.2.2 rfl)⟩) tb35 (by omega) dX11_dead_1.1.2.1.2 (by decide) rfl (fun h i36 hF a36 b36 w36 => ?_)
      have a36_35 := fun j : Nat => zwr_pt (congrFun (congrFun w36 35) j)
      replace b36 := b36 ⟨by omega, by omega⟩
      have t36_54_7 := congrFun (congrFun w36 54) 7
      rw [zwr_ne (Or.inl (by decide))] at t36_54_7
      refine zW_aload_n (pc' := 38) dX11_dead_1.1.2.2.1 rfl rfl ?_
      refine cvV0 (pc' := 41) kX11_rawChanged vX11_rawChanged lk_X11_124 ⟨Nat.le_of_ble_eq_true rfl, Nat.le_of_ble_eq_true rfl⟩ tb30 vq11 rfl rfl (s_X11_rawChanged hF.2.1 hF.2.2.1 hF.2.2.2) dX11_dead_1.1.2.2.2 (Nat.le_of_ble_eq_true rfl) rfl ?_
      rintro r38 h ⟨hF1, p38⟩; replace hF := hF.tr hF1 rfl
      have f38_35 := fun j : Nat => hF1.1 35 j rfl rfl
      refine zW_aload_n (pc' := 42) dX11_dead_1.2.1.1.1 rfl rfl ?_
      refine zG_ref (pc' := 45) 33 fg_X11_19 tb30 rfl dX11_dead_1.2.1.1.2 rfl ?_
      refine zW_aload_n (pc' := 46) dX11_dead_1.2.1.2.1 rfl rfl ?_
      refine zG_ref (pc' := 49) 33 fg_X11_19 tb30 rfl dX11_dead_1.2.1.2.2 rfl ?_
      refine zG_ref (pc' := 52) 35 fg_X11_143 tb33 rfl dX11_dead_1.2.2.1.1 rfl ?_
      have y52_33_0 := hF.1 33 0 rfl rfl
      have y52_33_1 := hF.1 33 1 rfl rfl
      refine cvI1 (pc' := 55) kX5_sumOf vX5_sumOf lk_X11_146 ⟨Nat.le_of_ble_eq_true rfl, Nat.le_of_ble_eq_true rfl⟩ tb33 vq5 rfl rfl (s_X5_sumOfD (b := bdB true) (κ := h) hF.2.2.2 (Fr.rf hF.2.1) _ tb35 (by decide)) dX11_dead_1.2.2.1.2 (Nat.le_of_ble_eq_true rfl) rfl ?_
      rintro r52 z52 ⟨hz52, p52⟩; subst z52
      rw [hF.1 33 0 rfl rfl, hF.1 33 1 rfl rfl] at p52
      exact zV_iret rfl dX11_dead_1.2.2.2 ⟨hF, ⟨⟨by omega, (fun j => by have q0 := a0_35 j; have q1 := a36_35 j; have q2 := f38_35 j; omega)⟩, (by first | exact Or.inl (by omega) | exact Or.inr hU | exact Or.inr (by rw [hk0]; exact UnC.rf))⟩⟩
    · refine zW_iconst (pc' := 32) dX11_dead_1.1.1.2.1 rfl ?_
      refine zV_goto 36 dX11_dead_1.1.1.2.2 rfl ?_
      refine zSm (pc' := 37) hF rfl (fun v' hv he => ⟨(SI_irr hF.2.1 (Or.inl (key_of rfl _)) (fun _ _ => hv)), (KR_irr hF.2.2.1 rfl), (KC_irr hF.2.2.2 rfl)⟩) tb35 (by omega) dX11_dead_1.1.2.1.2 (by decide) rfl (fun h i36 hF a36 b36 w36 => ?_)
      have a36_35 := fun j : Nat => zwr_pt (congrFun (congrFun w36 35) j)
      replace b36 := b36 ⟨by omega, by omega⟩
      have t36_54_7 := congrFun (congrFun w36 54) 7
      rw [zwr_ne (Or.inl (by decide))] at t36_54_7
      refine zW_aload_n (pc' := 38) dX11_dead_1.1.2.2.1 rfl rfl ?_
      refine cvV0 (pc' := 41) kX11_rawChanged vX11_rawChanged lk_X11_124 ⟨Nat.le_of_ble_eq_true rfl, Nat.le_of_ble_eq_true rfl⟩ tb30 vq11 rfl rfl (s_X11_rawChanged hF.2.1 hF.2.2.1 hF.2.2.2) dX11_dead_1.1.2.2.2 (Nat.le_of_ble_eq_true rfl) rfl ?_
      rintro r38 h ⟨hF1, p38⟩; replace hF := hF.tr hF1 rfl
      have f38_35 := fun j : Nat => hF1.1 35 j rfl rfl
      refine zW_aload_n (pc' := 42) dX11_dead_1.2.1.1.1 rfl rfl ?_
      refine zG_ref (pc' := 45) 33 fg_X11_19 tb30 rfl dX11_dead_1.2.1.1.2 rfl ?_
      refine zW_aload_n (pc' := 46) dX11_dead_1.2.1.2.1 rfl rfl ?_
      refine zG_ref (pc' := 49) 33 fg_X11_19 tb30 rfl dX11_dead_1.2.1.2.2 rfl ?_
      refine zG_ref (pc' := 52) 35 fg_X11_143 tb33 rfl dX11_dead_1.2.2.1.1 rfl ?_
      have y52_33_0 := hF.1 33 0 rfl rfl
      have y52_33_1 := hF.1 33 1 rfl rfl
      refine cvI1 (pc' := 55) kX5_sumOf vX5_sumOf lk_X11_146 ⟨Nat.le_of_ble_eq_true rfl, Nat.le_of_ble_eq_true rfl⟩ tb33 vq5 rfl rfl (s_X5_sumOfD (b := bdB true) (κ := h) hF.2.2.2 (Fr.rf hF.2.1) _ tb35 (by decide)) dX11_dead_1.2.2.1.2 (Nat.le_of_ble_eq_true rfl) rfl ?_
      rintro r52 z52 ⟨hz52, p52⟩; subst z52
      rw [hF.1 33 0 rfl rfl, hF.1 33 1 rfl rfl] at p52
      exact zV_iret rfl dX11_dead_1.2.2.2 ⟨hF, ⟨⟨by omega, (fun j => by have q0 := a0_35 j; have q1 := a36_35 j; have q2 := f38_35 j; omega)⟩, (by first | exact Or.inl (by omega) | exact Or.inr hU | exact Or.inr (by rw [hk0]; exact UnC.rf))⟩⟩
  · refine zW_iconst (pc' := 13) dX11_dead_0.1.2.2.1 rfl ?_
    exact zV_iret rfl dX11_dead_0.1.2.2.2 ⟨hF, ⟨⟨by omega, (fun j => by have q0 := a0_35 j; omega)⟩, (by first | exact Or.inl (by omega) | exact Or.inr hU | exact Or.inr (by rw [hk0]; exact UnC.rf))⟩⟩
