abbrev q_J1_canEncode_9a6ad (κ h : Hp) (x1 : Int) : Int → Hp → Prop := fun r h' => h' = h ∧ ((0 ≤ r) ∧ (r ≤ 1))
set_option maxHeartbeats 4000000 in
set_option maxRecDepth 20000 in
theorem s_J1_canEncode_9a6ad {G : Ga} {b : Bd} {κ h : Hp} (hF : Fr b κ h) (x1 : Int) (hx1 : rng x1) : zM G mJ1_canEncode_9a6ad yJ1_canEncode_9a6ad [.inl x1] h (q_J1_canEncode_9a6ad κ h x1) := by
  unfold rng at hx1
  refine zM_of [some (.inl x1)] 0 (by decide +kernel) rfl (Nat.le_of_ble_eq_true rfl) rfl ?_
  refine zW_iload_n (pc' := 1) dJ1_canEncode_9a6ad_0.1.1.1.1 rfl rfl ?_
  refine zV_if_lt (tgt := 15) (pc' := 4) dJ1_canEncode_9a6ad_0.1.1.1.2 rfl rfl ⟨by omega, by omega⟩ (fun c1 => ?_) (fun c1 => ?_)
  · refine zW_iconst (pc' := 16) dJ1_canEncode_9a6ad_0.2.2.1 rfl ?_
    exact zV_zret rfl (by omega) dJ1_canEncode_9a6ad_0.2.2.2 ⟨rfl, by omega⟩
  · refine zW_iload_n (pc' := 5) dJ1_canEncode_9a6ad_0.1.1.2 rfl rfl ?_
    refine zW_sipush (pc' := 8) dJ1_canEncode_9a6ad_0.1.2.1 rfl rfl ?_
    refine zV_cm_gt (tgt := 15) (pc' := 11) dJ1_canEncode_9a6ad_0.1.2.2 rfl rfl ⟨by omega, by omega⟩ ⟨by omega, by omega⟩ (fun c8 => ?_) (fun c8 => ?_)
    · refine zW_iconst (pc' := 16) dJ1_canEncode_9a6ad_0.2.2.1 rfl ?_
      exact zV_zret rfl (by omega) dJ1_canEncode_9a6ad_0.2.2.2 ⟨rfl, by omega⟩
    · refine zW_iconst (pc' := 12) dJ1_canEncode_9a6ad_0.2.1.1 rfl ?_
      refine zV_goto 16 dJ1_canEncode_9a6ad_0.2.1.2 rfl ?_
      exact zV_zret rfl (by omega) dJ1_canEncode_9a6ad_0.2.2.2 ⟨rfl, by omega⟩

abbrev q_J0_coder_7d493S0 (κ h : Hp)  : Int → Hp → Prop := fun r h' => h' = h ∧ ((0 ≤ r) ∧ (r ≤ 0))
set_option maxHeartbeats 4000000 in
set_option maxRecDepth 20000 in
theorem s_J0_coder_7d493S0 {G : Ga} {b : Bd} {κ h : Hp} (hF : Fr b κ h) (hX : XI G) : zM G mJ0_coder_7d493 yJ0_coder_7d493 [.inr (.inr 106)] h (q_J0_coder_7d493S0 κ h) := by
  refine zM_of [some (.inr (.inr 106))] 0 (by decide +kernel) rfl (Nat.le_of_ble_eq_true rfl) rfl ?_
  refine zV_gsc (pc' := 3) hX w_COMPACT dJ0_coder_7d493_0.1.1.1 rfl ?_
  refine zV_if_eq (tgt := 13) (pc' := 6) dJ0_coder_7d493_0.1.1.2 rfl rfl ⟨by omega, by omega⟩ (fun c3 => ?_) (fun c3 => ?_)
  · exfalso; omega
  · refine zW_aload_n (pc' := 7) dJ0_coder_7d493_0.1.2.1 rfl rfl ?_
    refine zV_scod (z := 0) (pc' := 10) hX (by decide) w_scoder dJ0_coder_7d493_0.1.2.2 rfl ?_
    refine zV_goto 14 dJ0_coder_7d493_0.2.1.1 rfl ?_
    exact zV_bret rfl (by omega) dJ0_coder_7d493_0.2.2 ⟨rfl, by omega⟩

abbrev q_J0_isLatin1_aae02S0 (κ h : Hp)  : Int → Hp → Prop := fun r h' => h' = h ∧ ((1 ≤ r) ∧ (r ≤ 1))
set_option maxHeartbeats 4000000 in
set_option maxRecDepth 20000 in
theorem s_J0_isLatin1_aae02S0 {G : Ga} {b : Bd} {κ h : Hp} (hF : Fr b κ h) (hX : XI G) : zM G mJ0_isLatin1_aae02 yJ0_isLatin1_aae02 [.inr (.inr 106)] h (q_J0_isLatin1_aae02S0 κ h) := by
  refine zM_of [some (.inr (.inr 106))] 0 (by decide +kernel) rfl (Nat.le_of_ble_eq_true rfl) rfl ?_
  refine zV_gsc (pc' := 3) hX w_COMPACT dJ0_isLatin1_aae02_0.1.1.1.1 rfl ?_
  refine zV_if_eq (tgt := 17) (pc' := 6) dJ0_isLatin1_aae02_0.1.1.1.2 rfl rfl ⟨by omega, by omega⟩ (fun c3 => ?_) (fun c3 => ?_)
  · exfalso; omega
  · refine zW_aload_n (pc' := 7) dJ0_isLatin1_aae02_0.1.1.2 rfl rfl ?_
    refine zV_scod (z := 0) (pc' := 10) hX (by decide) w_scoder dJ0_isLatin1_aae02_0.1.2.1 rfl ?_
    refine zV_if_ne (tgt := 17) (pc' := 13) dJ0_isLatin1_aae02_0.1.2.2 rfl rfl ⟨by omega, by omega⟩ (fun c10 => ?_) (fun c10 => ?_)
    · exfalso; omega
    · refine zW_iconst (pc' := 14) dJ0_isLatin1_aae02_0.2.1.1 rfl ?_
      refine zV_goto 18 dJ0_isLatin1_aae02_0.2.1.2 rfl ?_
      exact zV_zret rfl (by omega) dJ0_isLatin1_aae02_0.2.2.2 ⟨rfl, by omega⟩

abbrev q_J0_length_8abf5S0 (κ h : Hp)  : Int → Hp → Prop := fun r h' => h' = h ∧ ((15 ≤ r) ∧ (r ≤ 15))
set_option maxHeartbeats 4000000 in
set_option maxRecDepth 20000 in
theorem s_J0_length_8abf5S0 {G : Ga} {b : Bd} {κ h : Hp} (hF : Fr b κ h) (hX : XI G) : zM G mJ0_length_8abf5 yJ0_length_8abf5 [.inr (.inr 106)] h (q_J0_length_8abf5S0 κ h) := by
  refine zM_of [some (.inr (.inr 106))] 0 (by decide +kernel) rfl (Nat.le_of_ble_eq_true rfl) rfl ?_
  refine zW_aload_n (pc' := 1) dJ0_length_8abf5_0.1.1.1 rfl rfl ?_
  refine zV_sval (z := 0) (pc' := 4) hX (by decide) w_svalue dJ0_length_8abf5_0.1.1.2 rfl ?_
  refine zV_sblen0 (pc' := 5) hX dJ0_length_8abf5_0.1.2.1 rfl ?_
  refine zW_aload_n (pc' := 6) dJ0_length_8abf5_0.1.2.2 rfl rfl ?_
  refine cwI0 (z := 0) hX (by decide) rfl (pc' := 9) kJ0_coder_7d493 vJ0_coder_7d493 lk_J0_335 ⟨Nat.le_of_ble_eq_true rfl, Nat.le_of_ble_eq_true rfl⟩ rfl (s_J0_coder_7d493S0 hF hX) dJ0_length_8abf5_0.2.1.1 (Nat.le_of_ble_eq_true rfl) rfl ?_
  rintro r6 z6 ⟨hz6, p6⟩; subst z6
  have z6 : r6 = 0 := by omega
  subst z6
  refine zW_ishrE (pc' := 10) ⟨by omega, by omega⟩ ⟨by omega, by omega⟩ dJ0_length_8abf5_0.2.1.2 rfl ?_
  exact zV_iret rfl dJ0_length_8abf5_0.2.2 ⟨rfl, by decide⟩

abbrev q_J1_indexOfChar_4cfefS0 (κ h : Hp) (x2 : Int) (x3 : Int) (x4 : Int) : Int → Hp → Prop := fun r h' => h' = h ∧ ((-1 ≤ r) ∧ (r ≤ 14))
set_option maxHeartbeats 4000000 in
set_option maxRecDepth 20000 in
theorem s_J1_indexOfChar_4cfefS0 {G : Ga} {b : Bd} {κ h : Hp} (hF : Fr b κ h) (x2 : Int) (hx2 : rng x2) (x3 : Int) (hx3 : 0 ≤ x3 ∧ x3 ≤ 0) (x4 : Int) (hx4 : 0 ≤ x4 ∧ x4 ≤ 15) (hX : XI G) : zM G mJ1_indexOfChar_4cfef yJ1_indexOfChar_4cfef [.inr (.inr 108), .inl x2, .inl x3, .inl x4] h (q_J1_indexOfChar_4cfefS0 κ h x2 x3 x4) := by
  unfold rng at hx2
  have main : ∀ N : Nat, (∀ (v4 v5 : Int) , (-128 ≤ v4 ∧ v4 ≤ 127) → (0 ≤ v5 ∧ v5 ≤ 15) → 4080 + 16 * (15 - v5) + 15 < (N : Int) → zV G mJ1_indexOfChar_4cfef (q_J1_indexOfChar_4cfefS0 κ h x2 x3 x4) 7 [some (.inr (.inr 108)), some (.inl x2), some (.inl x3), some (.inl x4), some (.inl v4), some (.inl v5)] [] h) := by
    intro N
    induction N with
    | zero =>
      intro v4 v5 g0 g1 hm
      exfalso; omega
    | succ N ih =>
      have k7 := ih
      intro v4 v5 g0 g1 hm
      refine zW_iload (pc' := 9) dJ1_indexOfChar_4cfef_0.1.2.1.2 rfl rfl ?_
      refine zW_iload_n (pc' := 10) dJ1_indexOfChar_4cfef_0.1.2.2.1 rfl rfl ?_
      refine zV_cm_ge (tgt := 31) (pc' := 13) dJ1_indexOfChar_4cfef_0.1.2.2.2 rfl rfl ⟨by omega, by omega⟩ ⟨by omega, by omega⟩ (fun c10 => ?_) (fun c10 => ?_)
      · refine zW_iconst (pc' := 32) dJ1_indexOfChar_4cfef_1.1.2 rfl ?_
        exact zV_iret rfl dJ1_indexOfChar_4cfef_1.2 ⟨rfl, by omega⟩
      · refine zW_aload_n (pc' := 14) dJ1_indexOfChar_4cfef_0.2.1.1.1 rfl rfl ?_
        refine zW_iload (pc' := 16) dJ1_indexOfChar_4cfef_0.2.1.1.2 rfl rfl ?_
        refine zV_sbald (z := 0) (pc' := 17) hX (by decide) (show _ ∧ _ < ((15 : Nat) : Int) from (by omega)) dJ1_indexOfChar_4cfef_0.2.1.2.1 rfl (fun v16 e16 => ?_)
        unfold rng at e16
        refine zW_iload (pc' := 19) dJ1_indexOfChar_4cfef_0.2.1.2.2 rfl rfl ?_
        refine zV_cm_ne (tgt := 25) (pc' := 22) dJ1_indexOfChar_4cfef_0.2.2.1.1 rfl rfl ⟨by omega, by omega⟩ ⟨by omega, by omega⟩ (fun c19 => ?_) (fun c19 => ?_)
        · refine zW_iinc (ls' := [_, _, _, _, _, _]) (pc' := 28) dJ1_indexOfChar_4cfef_0.2.2.2.2 rfl (by decide) rfl rfl rfl ?_
          refine zV_goto 7 dJ1_indexOfChar_4cfef_1.1.1 rfl ?_
          exact k7 _ _ (by omega) (by omega) (by omega)
        · refine zW_iload (pc' := 24) dJ1_indexOfChar_4cfef_0.2.2.1.2 rfl rfl ?_
          exact zV_iret rfl dJ1_indexOfChar_4cfef_0.2.2.2.1 ⟨rfl, by omega⟩
  refine zM_of [some (.inr (.inr 108)), some (.inl x2), some (.inl x3), some (.inl x4), none, none] 2 (by decide +kernel) rfl (Nat.le_of_ble_eq_true rfl) rfl ?_
  refine zW_iload_n (pc' := 1) dJ1_indexOfChar_4cfef_0.1.1.1.1 rfl rfl ?_
  refine zW_i2b (pc' := 2) dJ1_indexOfChar_4cfef_0.1.1.1.2 rfl (fun v1 e1 => ?_)
  refine zW_istore (ls' := [_, _, _, _, _, _]) (pc' := 4) dJ1_indexOfChar_4cfef_0.1.1.2.1 (by decide) rfl rfl rfl ?_
  refine zW_iload_n (pc' := 5) dJ1_indexOfChar_4cfef_0.1.1.2.2 rfl rfl ?_
  refine zW_istore (ls' := [_, _, _, _, _, _]) (pc' := 7) dJ1_indexOfChar_4cfef_0.1.2.1.1 (by decide) rfl rfl rfl ?_
  exact (main 10000000000000000000000000000000000000000) _ _ (by omega) (by omega) (by omega)

abbrev q_J1_indexOf_4cfefS0 (κ h : Hp) (x2 : Int) (x3 : Int) (x4 : Int) : Int → Hp → Prop := fun r h' => h' = h ∧ ((-1 ≤ r) ∧ (r ≤ 14))
set_option maxHeartbeats 4000000 in
set_option maxRecDepth 20000 in
theorem s_J1_indexOf_4cfefS0 {G : Ga} {b : Bd} {κ h : Hp} (hF : Fr b κ h) (x2 : Int) (hx2 : rng x2) (x3 : Int) (hx3 : 0 ≤ x3 ∧ x3 ≤ 0) (x4 : Int) (hx4 : 15 ≤ x4 ∧ x4 ≤ 15) (hX : XI G) : zM G mJ1_indexOf_4cfef yJ1_indexOf_4cfef [.inr (.inr 108), .inl x2, .inl x3, .inl x4] h (q_J1_indexOf_4cfefS0 κ h x2 x3 x4) := by
  unfold rng at hx2
  refine zM_of [some (.inr (.inr 108)), some (.inl x2), some (.inl x3), some (.inl x4)] 0 (by decide +kernel) rfl (Nat.le_of_ble_eq_true rfl) rfl ?_
  refine zW_iload_n (pc' := 1) dJ1_indexOf_4cfef_0.1.1.1.1 rfl rfl ?_
  refine csI1 (pc' := 4) kJ1_canEncode_9a6ad vJ1_canEncode_9a6ad lk_J1_88 ⟨Nat.le_of_ble_eq_true rfl, Nat.le_of_ble_eq_true rfl⟩ rfl (s_J1_canEncode_9a6ad hF _ ⟨by omega, by omega⟩) dJ1_indexOf_4cfef_0.1.1.1.2 (Nat.le_of_ble_eq_true rfl) rfl ?_
  rintro r1 z1 ⟨hz1, p1⟩; subst z1
  refine zV_if_ne (tgt := 9) (pc' := 7) dJ1_indexOf_4cfef_0.1.1.2.1 rfl rfl ⟨by omega, by omega⟩ (fun c4 => ?_) (fun c4 => ?_)
  · refine zW_iload_n (pc' := 10) dJ1_indexOf_4cfef_0.1.2.1.2 rfl rfl ?_
    refine zW_iconst (pc' := 11) dJ1_indexOf_4cfef_0.1.2.2.1 rfl ?_
    refine zV_mmax (pc' := 14) km_J1_92 (Nat.le_of_ble_eq_true rfl) (Nat.le_of_ble_eq_true rfl) dJ1_indexOf_4cfef_0.1.2.2.2 rfl (fun v11 e11 => ?_)
    replace e11 := e11.2 ⟨by omega, by omega⟩ ⟨by omega, by omega⟩
    refine zW_istore_n (ls' := [_, _, _, _]) (pc' := 15) dJ1_indexOf_4cfef_0.2.1.1.1 (by decide) rfl rfl rfl ?_
    refine zW_iload_n (pc' := 16) dJ1_indexOf_4cfef_0.2.1.1.2 rfl rfl ?_
    refine zW_aload_n (pc' := 17) dJ1_indexOf_4cfef_0.2.1.2.1 rfl rfl ?_
    refine zV_sblen0 (pc' := 18) hX dJ1_indexOf_4cfef_0.2.1.2.2 rfl ?_
    refine zV_mmin (pc' := 21) km_J1_38 (Nat.le_of_ble_eq_true rfl) (Nat.le_of_ble_eq_true rfl) dJ1_indexOf_4cfef_0.2.2.1.1 rfl (fun v18 e18 => ?_)
    replace e18 := e18.2 ⟨by omega, by omega⟩ ⟨by omega, by omega⟩
    refine zW_istore_n (ls' := [_, _, _, _]) (pc' := 22) dJ1_indexOf_4cfef_0.2.2.1.2 (by decide) rfl rfl rfl ?_
    refine zW_iload_n (pc' := 23) dJ1_indexOf_4cfef_0.2.2.2.1 rfl rfl ?_
    refine zW_iload_n (pc' := 24) dJ1_indexOf_4cfef_0.2.2.2.2 rfl rfl ?_
    refine zV_cm_lt (tgt := 29) (pc' := 27) dJ1_indexOf_4cfef_1.1.1.1.1 rfl rfl ⟨by omega, by omega⟩ ⟨by omega, by omega⟩ (fun c24 => ?_) (fun c24 => ?_)
    · refine zW_aload_n (pc' := 30) dJ1_indexOf_4cfef_1.1.2.1 rfl rfl ?_
      refine zW_iload_n (pc' := 31) dJ1_indexOf_4cfef_1.1.2.2 rfl rfl ?_
      refine zW_iload_n (pc' := 32) dJ1_indexOf_4cfef_1.2.1.1 rfl rfl ?_
      refine zW_iload_n (pc' := 33) dJ1_indexOf_4cfef_1.2.1.2 rfl rfl ?_
      refine csI4 (pc' := 36) kJ1_indexOfChar_4cfef vJ1_indexOfChar_4cfef lk_J1_95 ⟨Nat.le_of_ble_eq_true rfl, Nat.le_of_ble_eq_true rfl⟩ rfl (s_J1_indexOfChar_4cfefS0 hF _ ⟨by omega, by omega⟩ _ ⟨by omega, by omega⟩ _ ⟨by omega, by omega⟩ hX) dJ1_indexOf_4cfef_1.2.2.1 (Nat.le_of_ble_eq_true rfl) rfl ?_
      rintro r33 z33 ⟨hz33, p33⟩; subst z33
      exact zV_iret rfl dJ1_indexOf_4cfef_1.2.2.2 ⟨rfl, by omega⟩
    · exfalso; omega
  · refine zW_iconst (pc' := 8) dJ1_indexOf_4cfef_0.1.1.2.2 rfl ?_
    exact zV_iret rfl dJ1_indexOf_4cfef_0.1.2.1.1 ⟨rfl, by omega⟩

abbrev q_J0_indexOf_7cf53S0 (κ h : Hp) (x1 : Int) (x2 : Int) : Int → Hp → Prop := fun r h' => h' = h ∧ ((-1 ≤ r) ∧ (r ≤ 14))
set_option maxHeartbeats 4000000 in
set_option maxRecDepth 20000 in
theorem s_J0_indexOf_7cf53S0 {G : Ga} {b : Bd} {κ h : Hp} (hF : Fr b κ h) (x1 : Int) (hx1 : rng x1) (x2 : Int) (hx2 : 0 ≤ x2 ∧ x2 ≤ 0) (hX : XI G) : zM G mJ0_indexOf_7cf53 yJ0_indexOf_7cf53 [.inr (.inr 106), .inl x1, .inl x2] h (q_J0_indexOf_7cf53S0 κ h x1 x2) := by
  unfold rng at hx1
  refine zM_of [some (.inr (.inr 106)), some (.inl x1), some (.inl x2)] 0 (by decide +kernel) rfl (Nat.le_of_ble_eq_true rfl) rfl ?_
  refine zW_aload_n (pc' := 1) dJ0_indexOf_7cf53_0.1.1.1.1 rfl rfl ?_
  refine cwI0 (z := 0) hX (by decide) rfl (pc' := 4) kJ0_isLatin1_aae02 vJ0_isLatin1_aae02 lk_J0_492 ⟨Nat.le_of_ble_eq_true rfl, Nat.le_of_ble_eq_true rfl⟩ rfl (s_J0_isLatin1_aae02S0 hF hX) dJ0_indexOf_7cf53_0.1.1.1.2 (Nat.le_of_ble_eq_true rfl) rfl ?_
  rintro r1 z1 ⟨hz1, p1⟩; subst z1
  refine zV_if_eq (tgt := 23) (pc' := 7) dJ0_indexOf_7cf53_0.1.1.2.1 rfl rfl ⟨by omega, by omega⟩ (fun c4 => ?_) (fun c4 => ?_)
  · exfalso; omega
  · refine zW_aload_n (pc' := 8) dJ0_indexOf_7cf53_0.1.1.2.2 rfl rfl ?_
    refine zV_sval (z := 0) (pc' := 11) hX (by decide) w_svalue dJ0_indexOf_7cf53_0.1.2.1.1 rfl ?_
    refine zW_iload_n (pc' := 12) dJ0_indexOf_7cf53_0.1.2.1.2 rfl rfl ?_
    refine zW_iload_n (pc' := 13) dJ0_indexOf_7cf53_0.1.2.2.1 rfl rfl ?_
    refine zW_aload_n (pc' := 14) dJ0_indexOf_7cf53_0.1.2.2.2 rfl rfl ?_
    refine cwI0 (z := 0) hX (by decide) rfl (pc' := 17) kJ0_length_8abf5 vJ0_length_8abf5 lk_J0_505 ⟨Nat.le_of_ble_eq_true rfl, Nat.le_of_ble_eq_true rfl⟩ rfl (s_J0_length_8abf5S0 hF hX) dJ0_indexOf_7cf53_0.2.1.1.1 (Nat.le_of_ble_eq_true rfl) rfl ?_
    rintro r14 z14 ⟨hz14, p14⟩; subst z14
    refine csI4 (pc' := 20) kJ1_indexOf_4cfef vJ1_indexOf_4cfef lk_J0_637 ⟨Nat.le_of_ble_eq_true rfl, Nat.le_of_ble_eq_true rfl⟩ rfl (s_J1_indexOf_4cfefS0 hF _ ⟨by omega, by omega⟩ _ ⟨by omega, by omega⟩ _ ⟨by omega, by omega⟩ hX) dJ0_indexOf_7cf53_0.2.1.1.2 (Nat.le_of_ble_eq_true rfl) rfl ?_
    rintro r17 z17 ⟨hz17, p17⟩; subst z17
    refine zV_goto 36 dJ0_indexOf_7cf53_0.2.1.2.1 rfl ?_
    exact zV_iret rfl dJ0_indexOf_7cf53_1.2 ⟨rfl, by omega⟩

abbrev q_J0_indexOf_0f7a4S0 (κ h : Hp) (x1 : Int) : Int → Hp → Prop := fun r h' => h' = h ∧ ((-1 ≤ r) ∧ (r ≤ 14))
set_option maxHeartbeats 4000000 in
set_option maxRecDepth 20000 in
theorem s_J0_indexOf_0f7a4S0 {G : Ga} {b : Bd} {κ h : Hp} (hF : Fr b κ h) (x1 : Int) (hx1 : rng x1) (hX : XI G) : zM G mJ0_indexOf_0f7a4 yJ0_indexOf_0f7a4 [.inr (.inr 106), .inl x1] h (q_J0_indexOf_0f7a4S0 κ h x1) := by
  unfold rng at hx1
  refine zM_of [some (.inr (.inr 106)), some (.inl x1)] 0 (by decide +kernel) rfl (Nat.le_of_ble_eq_true rfl) rfl ?_
  refine zW_aload_n (pc' := 1) dJ0_indexOf_0f7a4_0.1.1.1 rfl rfl ?_
  refine zW_iload_n (pc' := 2) dJ0_indexOf_0f7a4_0.1.1.2 rfl rfl ?_
  refine zW_iconst (pc' := 3) dJ0_indexOf_0f7a4_0.1.2 rfl ?_
  refine cwI2 (z := 0) hX (by decide) rfl (pc' := 6) kJ0_indexOf_7cf53 vJ0_indexOf_7cf53 lk_J0_633 ⟨Nat.le_of_ble_eq_true rfl, Nat.le_of_ble_eq_true rfl⟩ rfl (s_J0_indexOf_7cf53S0 hF _ ⟨by omega, by omega⟩ _ ⟨by omega, by omega⟩ hX) dJ0_indexOf_0f7a4_0.2.1 (Nat.le_of_ble_eq_true rfl) rfl ?_
  rintro r3 z3 ⟨hz3, p3⟩; subst z3
  exact zV_iret rfl dJ0_indexOf_0f7a4_0.2.2 ⟨rfl, by omega⟩

abbrev q_J0_coder_7d493S1 (κ h : Hp)  : Int → Hp → Prop := fun r h' => h' = h ∧ ((0 ≤ r) ∧ (r ≤ 0))
set_option maxHeartbeats 4000000 in
set_option maxRecDepth 20000 in
theorem s_J0_coder_7d493S1 {G : Ga} {b : Bd} {κ h : Hp} (hF : Fr b κ h) (hX : XI G) : zM G mJ0_coder_7d493 yJ0_coder_7d493 [.inr (.inr 107)] h (q_J0_coder_7d493S1 κ h) := by
  refine zM_of [some (.inr (.inr 107))] 0 (by decide +kernel) rfl (Nat.le_of_ble_eq_true rfl) rfl ?_
  refine zV_gsc (pc' := 3) hX w_COMPACT dJ0_coder_7d493_0.1.1.1 rfl ?_
  refine zV_if_eq (tgt := 13) (pc' := 6) dJ0_coder_7d493_0.1.1.2 rfl rfl ⟨by omega, by omega⟩ (fun c3 => ?_) (fun c3 => ?_)
  · exfalso; omega
  · refine zW_aload_n (pc' := 7) dJ0_coder_7d493_0.1.2.1 rfl rfl ?_
    refine zV_scod (z := 1) (pc' := 10) hX (by decide) w_scoder dJ0_coder_7d493_0.1.2.2 rfl ?_
    refine zV_goto 14 dJ0_coder_7d493_0.2.1.1 rfl ?_
    exact zV_bret rfl (by omega) dJ0_coder_7d493_0.2.2 ⟨rfl, by omega⟩

abbrev q_J0_isLatin1_aae02S1 (κ h : Hp)  : Int → Hp → Prop := fun r h' => h' = h ∧ ((1 ≤ r) ∧ (r ≤ 1))
set_option maxHeartbeats 4000000 in
set_option maxRecDepth 20000 in
theorem s_J0_isLatin1_aae02S1 {G : Ga} {b : Bd} {κ h : Hp} (hF : Fr b κ h) (hX : XI G) : zM G mJ0_isLatin1_aae02 yJ0_isLatin1_aae02 [.inr (.inr 107)] h (q_J0_isLatin1_aae02S1 κ h) := by
  refine zM_of [some (.inr (.inr 107))] 0 (by decide +kernel) rfl (Nat.le_of_ble_eq_true rfl) rfl ?_
  refine zV_gsc (pc' := 3) hX w_COMPACT dJ0_isLatin1_aae02_0.1.1.1.1 rfl ?_
  refine zV_if_eq (tgt := 17) (pc' := 6) dJ0_isLatin1_aae02_0.1.1.1.2 rfl rfl ⟨by omega, by omega⟩ (fun c3 => ?_) (fun c3 => ?_)
  · exfalso; omega
  · refine zW_aload_n (pc' := 7) dJ0_isLatin1_aae02_0.1.1.2 rfl rfl ?_
    refine zV_scod (z := 1) (pc' := 10) hX (by decide) w_scoder dJ0_isLatin1_aae02_0.1.2.1 rfl ?_
    refine zV_if_ne (tgt := 17) (pc' := 13) dJ0_isLatin1_aae02_0.1.2.2 rfl rfl ⟨by omega, by omega⟩ (fun c10 => ?_) (fun c10 => ?_)
    · exfalso; omega
    · refine zW_iconst (pc' := 14) dJ0_isLatin1_aae02_0.2.1.1 rfl ?_
      refine zV_goto 18 dJ0_isLatin1_aae02_0.2.1.2 rfl ?_
      exact zV_zret rfl (by omega) dJ0_isLatin1_aae02_0.2.2.2 ⟨rfl, by omega⟩

abbrev q_J0_length_8abf5S1 (κ h : Hp)  : Int → Hp → Prop := fun r h' => h' = h ∧ ((9 ≤ r) ∧ (r ≤ 9))
set_option maxHeartbeats 4000000 in
set_option maxRecDepth 20000 in
theorem s_J0_length_8abf5S1 {G : Ga} {b : Bd} {κ h : Hp} (hF : Fr b κ h) (hX : XI G) : zM G mJ0_length_8abf5 yJ0_length_8abf5 [.inr (.inr 107)] h (q_J0_length_8abf5S1 κ h) := by
  refine zM_of [some (.inr (.inr 107))] 0 (by decide +kernel) rfl (Nat.le_of_ble_eq_true rfl) rfl ?_
  refine zW_aload_n (pc' := 1) dJ0_length_8abf5_0.1.1.1 rfl rfl ?_
  refine zV_sval (z := 1) (pc' := 4) hX (by decide) w_svalue dJ0_length_8abf5_0.1.1.2 rfl ?_
  refine zV_sblen1 (pc' := 5) hX dJ0_length_8abf5_0.1.2.1 rfl ?_
  refine zW_aload_n (pc' := 6) dJ0_length_8abf5_0.1.2.2 rfl rfl ?_
  refine cwI0 (z := 1) hX (by decide) rfl (pc' := 9) kJ0_coder_7d493 vJ0_coder_7d493 lk_J0_335 ⟨Nat.le_of_ble_eq_true rfl, Nat.le_of_ble_eq_true rfl⟩ rfl (s_J0_coder_7d493S1 hF hX) dJ0_length_8abf5_0.2.1.1 (Nat.le_of_ble_eq_true rfl) rfl ?_
  rintro r6 z6 ⟨hz6, p6⟩; subst z6
  have z6 : r6 = 0 := by omega
  subst z6
  refine zW_ishrE (pc' := 10) ⟨by omega, by omega⟩ ⟨by omega, by omega⟩ dJ0_length_8abf5_0.2.1.2 rfl ?_
  exact zV_iret rfl dJ0_length_8abf5_0.2.2 ⟨rfl, by decide⟩

abbrev q_J1_indexOfChar_4cfefS1 (κ h : Hp) (x2 : Int) (x3 : Int) (x4 : Int) : Int → Hp → Prop := fun r h' => h' = h ∧ ((-1 ≤ r) ∧ (r ≤ 8))
set_option maxHeartbeats 4000000 in
set_option maxRecDepth 20000 in
theorem s_J1_indexOfChar_4cfefS1 {G : Ga} {b : Bd} {κ h : Hp} (hF : Fr b κ h) (x2 : Int) (hx2 : rng x2) (x3 : Int) (hx3 : 0 ≤ x3 ∧ x3 ≤ 0) (x4 : Int) (hx4 : 0 ≤ x4 ∧ x4 ≤ 9) (hX : XI G) : zM G mJ1_indexOfChar_4cfef yJ1_indexOfChar_4cfef [.inr (.inr 109), .inl x2, .inl x3, .inl x4] h (q_J1_indexOfChar_4cfefS1 κ h x2 x3 x4) := by
  unfold rng at hx2
  have main : ∀ N : Nat, (∀ (v4 v5 : Int) , (-128 ≤ v4 ∧ v4 ≤ 127) → (0 ≤ v5 ∧ v5 ≤ 9) → 2640 + 16 * (9 - v5) + 15 < (N : Int) → zV G mJ1_indexOfChar_4cfef (q_J1_indexOfChar_4cfefS1 κ h x2 x3 x4) 7 [some (.inr (.inr 109)), some (.inl x2), some (.inl x3), some (.inl x4), some (.inl v4), some (.inl v5)] [] h) := by
    intro N
    induction N with
    | zero =>
      intro v4 v5 g0 g1 hm
      exfalso; omega
    | succ N ih =>
      have k7 := ih
      intro v4 v5 g0 g1 hm
      refine zW_iload (pc' := 9) dJ1_indexOfChar_4cfef_0.1.2.1.2 rfl rfl ?_
      refine zW_iload_n (pc' := 10) dJ1_indexOfChar_4cfef_0.1.2.2.1 rfl rfl ?_
      refine zV_cm_ge (tgt := 31) (pc' := 13) dJ1_indexOfChar_4cfef_0.1.2.2.2 rfl rfl ⟨by omega, by omega⟩ ⟨by omega, by omega⟩ (fun c10 => ?_) (fun c10 => ?_)
      · refine zW_iconst (pc' := 32) dJ1_indexOfChar_4cfef_1.1.2 rfl ?_
        exact zV_iret rfl dJ1_indexOfChar_4cfef_1.2 ⟨rfl, by omega⟩
      · refine zW_aload_n (pc' := 14) dJ1_indexOfChar_4cfef_0.2.1.1.1 rfl rfl ?_
        refine zW_iload (pc' := 16) dJ1_indexOfChar_4cfef_0.2.1.1.2 rfl rfl ?_
        refine zV_sbald (z := 1) (pc' := 17) hX (by decide) (show _ ∧ _ < ((9 : Nat) : Int) from (by omega)) dJ1_indexOfChar_4cfef_0.2.1.2.1 rfl (fun v16 e16 => ?_)
        unfold rng at e16
        refine zW_iload (pc' := 19) dJ1_indexOfChar_4cfef_0.2.1.2.2 rfl rfl ?_
        refine zV_cm_ne (tgt := 25) (pc' := 22) dJ1_indexOfChar_4cfef_0.2.2.1.1 rfl rfl ⟨by omega, by omega⟩ ⟨by omega, by omega⟩ (fun c19 => ?_) (fun c19 => ?_)
        · refine zW_iinc (ls' := [_, _, _, _, _, _]) (pc' := 28) dJ1_indexOfChar_4cfef_0.2.2.2.2 rfl (by decide) rfl rfl rfl ?_
          refine zV_goto 7 dJ1_indexOfChar_4cfef_1.1.1 rfl ?_
          exact k7 _ _ (by omega) (by omega) (by omega)
        · refine zW_iload (pc' := 24) dJ1_indexOfChar_4cfef_0.2.2.1.2 rfl rfl ?_
          exact zV_iret rfl dJ1_indexOfChar_4cfef_0.2.2.2.1 ⟨rfl, by omega⟩
  refine zM_of [some (.inr (.inr 109)), some (.inl x2), some (.inl x3), some (.inl x4), none, none] 2 (by decide +kernel) rfl (Nat.le_of_ble_eq_true rfl) rfl ?_
  refine zW_iload_n (pc' := 1) dJ1_indexOfChar_4cfef_0.1.1.1.1 rfl rfl ?_
  refine zW_i2b (pc' := 2) dJ1_indexOfChar_4cfef_0.1.1.1.2 rfl (fun v1 e1 => ?_)
  refine zW_istore (ls' := [_, _, _, _, _, _]) (pc' := 4) dJ1_indexOfChar_4cfef_0.1.1.2.1 (by decide) rfl rfl rfl ?_
  refine zW_iload_n (pc' := 5) dJ1_indexOfChar_4cfef_0.1.1.2.2 rfl rfl ?_
  refine zW_istore (ls' := [_, _, _, _, _, _]) (pc' := 7) dJ1_indexOfChar_4cfef_0.1.2.1.1 (by decide) rfl rfl rfl ?_
  exact (main 10000000000000000000000000000000000000000) _ _ (by omega) (by omega) (by omega)

abbrev q_J1_indexOf_4cfefS1 (κ h : Hp) (x2 : Int) (x3 : Int) (x4 : Int) : Int → Hp → Prop := fun r h' => h' = h ∧ ((-1 ≤ r) ∧ (r ≤ 8))
set_option maxHeartbeats 4000000 in
set_option maxRecDepth 20000 in
theorem s_J1_indexOf_4cfefS1 {G : Ga} {b : Bd} {κ h : Hp} (hF : Fr b κ h) (x2 : Int) (hx2 : rng x2) (x3 : Int) (hx3 : 0 ≤ x3 ∧ x3 ≤ 0) (x4 : Int) (hx4 : 9 ≤ x4 ∧ x4 ≤ 9) (hX : XI G) : zM G mJ1_indexOf_4cfef yJ1_indexOf_4cfef [.inr (.inr 109), .inl x2, .inl x3, .inl x4] h (q_J1_indexOf_4cfefS1 κ h x2 x3 x4) := by
  unfold rng at hx2
  refine zM_of [some (.inr (.inr 109)), some (.inl x2), some (.inl x3), some (.inl x4)] 0 (by decide +kernel) rfl (Nat.le_of_ble_eq_true rfl) rfl ?_
  refine zW_iload_n (pc' := 1) dJ1_indexOf_4cfef_0.1.1.1.1 rfl rfl ?_
  refine csI1 (pc' := 4) kJ1_canEncode_9a6ad vJ1_canEncode_9a6ad lk_J1_88 ⟨Nat.le_of_ble_eq_true rfl, Nat.le_of_ble_eq_true rfl⟩ rfl (s_J1_canEncode_9a6ad hF _ ⟨by omega, by omega⟩) dJ1_indexOf_4cfef_0.1.1.1.2 (Nat.le_of_ble_eq_true rfl) rfl ?_
  rintro r1 z1 ⟨hz1, p1⟩; subst z1
  refine zV_if_ne (tgt := 9) (pc' := 7) dJ1_indexOf_4cfef_0.1.1.2.1 rfl rfl ⟨by omega, by omega⟩ (fun c4 => ?_) (fun c4 => ?_)
  · refine zW_iload_n (pc' := 10) dJ1_indexOf_4cfef_0.1.2.1.2 rfl rfl ?_
    refine zW_iconst (pc' := 11) dJ1_indexOf_4cfef_0.1.2.2.1 rfl ?_
    refine zV_mmax (pc' := 14) km_J1_92 (Nat.le_of_ble_eq_true rfl) (Nat.le_of_ble_eq_true rfl) dJ1_indexOf_4cfef_0.1.2.2.2 rfl (fun v11 e11 => ?_)
    replace e11 := e11.2 ⟨by omega, by omega⟩ ⟨by omega, by omega⟩
    refine zW_istore_n (ls' := [_, _, _, _]) (pc' := 15) dJ1_indexOf_4cfef_0.2.1.1.1 (by decide) rfl rfl rfl ?_
    refine zW_iload_n (pc' := 16) dJ1_indexOf_4cfef_0.2.1.1.2 rfl rfl ?_
    refine zW_aload_n (pc' := 17) dJ1_indexOf_4cfef_0.2.1.2.1 rfl rfl ?_
    refine zV_sblen1 (pc' := 18) hX dJ1_indexOf_4cfef_0.2.1.2.2 rfl ?_
    refine zV_mmin (pc' := 21) km_J1_38 (Nat.le_of_ble_eq_true rfl) (Nat.le_of_ble_eq_true rfl) dJ1_indexOf_4cfef_0.2.2.1.1 rfl (fun v18 e18 => ?_)
    replace e18 := e18.2 ⟨by omega, by omega⟩ ⟨by omega, by omega⟩
    refine zW_istore_n (ls' := [_, _, _, _]) (pc' := 22) dJ1_indexOf_4cfef_0.2.2.1.2 (by decide) rfl rfl rfl ?_
    refine zW_iload_n (pc' := 23) dJ1_indexOf_4cfef_0.2.2.2.1 rfl rfl ?_
    refine zW_iload_n (pc' := 24) dJ1_indexOf_4cfef_0.2.2.2.2 rfl rfl ?_
    refine zV_cm_lt (tgt := 29) (pc' := 27) dJ1_indexOf_4cfef_1.1.1.1.1 rfl rfl ⟨by omega, by omega⟩ ⟨by omega, by omega⟩ (fun c24 => ?_) (fun c24 => ?_)
    · refine zW_aload_n (pc' := 30) dJ1_indexOf_4cfef_1.1.2.1 rfl rfl ?_
      refine zW_iload_n (pc' := 31) dJ1_indexOf_4cfef_1.1.2.2 rfl rfl ?_
      refine zW_iload_n (pc' := 32) dJ1_indexOf_4cfef_1.2.1.1 rfl rfl ?_
      refine zW_iload_n (pc' := 33) dJ1_indexOf_4cfef_1.2.1.2 rfl rfl ?_
      refine csI4 (pc' := 36) kJ1_indexOfChar_4cfef vJ1_indexOfChar_4cfef lk_J1_95 ⟨Nat.le_of_ble_eq_true rfl, Nat.le_of_ble_eq_true rfl⟩ rfl (s_J1_indexOfChar_4cfefS1 hF _ ⟨by omega, by omega⟩ _ ⟨by omega, by omega⟩ _ ⟨by omega, by omega⟩ hX) dJ1_indexOf_4cfef_1.2.2.1 (Nat.le_of_ble_eq_true rfl) rfl ?_
      rintro r33 z33 ⟨hz33, p33⟩; subst z33
      exact zV_iret rfl dJ1_indexOf_4cfef_1.2.2.2 ⟨rfl, by omega⟩
    · exfalso; omega
  · refine zW_iconst (pc' := 8) dJ1_indexOf_4cfef_0.1.1.2.2 rfl ?_
    exact zV_iret rfl dJ1_indexOf_4cfef_0.1.2.1.1 ⟨rfl, by omega⟩

abbrev q_J0_indexOf_7cf53S1 (κ h : Hp) (x1 : Int) (x2 : Int) : Int → Hp → Prop := fun r h' => h' = h ∧ ((-1 ≤ r) ∧ (r ≤ 8))
set_option maxHeartbeats 4000000 in
set_option maxRecDepth 20000 in
theorem s_J0_indexOf_7cf53S1 {G : Ga} {b : Bd} {κ h : Hp} (hF : Fr b κ h) (x1 : Int) (hx1 : rng x1) (x2 : Int) (hx2 : 0 ≤ x2 ∧ x2 ≤ 0) (hX : XI G) : zM G mJ0_indexOf_7cf53 yJ0_indexOf_7cf53 [.inr (.inr 107), .inl x1, .inl x2] h (q_J0_indexOf_7cf53S1 κ h x1 x2) := by
  unfold rng at hx1
  refine zM_of [some (.inr (.inr 107)), some (.inl x1), some (.inl x2)] 0 (by decide +kernel) rfl (Nat.le_of_ble_eq_true rfl) rfl ?_
  refine zW_aload_n (pc' := 1) dJ0_indexOf_7cf53_0.1.1.1.1 rfl rfl ?_
  refine cwI0 (z := 1) hX (by decide) rfl (pc' := 4) kJ0_isLatin1_aae02 vJ0_isLatin1_aae02 lk_J0_492 ⟨Nat.le_of_ble_eq_true rfl, Nat.le_of_ble_eq_true rfl⟩ rfl (s_J0_isLatin1_aae02S1 hF hX) dJ0_indexOf_7cf53_0.1.1.1.2 (Nat.le_of_ble_eq_true rfl) rfl ?_
  rintro r1 z1 ⟨hz1, p1⟩; subst z1
  refine zV_if_eq (tgt := 23) (pc' := 7) dJ0_indexOf_7cf53_0.1.1.2.1 rfl rfl ⟨by omega, by omega⟩ (fun c4 => ?_) (fun c4 => ?_)
  · exfalso; omega
  · refine zW_aload_n (pc' := 8) dJ0_indexOf_7cf53_0.1.1.2.2 rfl rfl ?_
    refine zV_sval (z := 1) (pc' := 11) hX (by decide) w_svalue dJ0_indexOf_7cf53_0.1.2.1.1 rfl ?_
    refine zW_iload_n (pc' := 12) dJ0_indexOf_7cf53_0.1.2.1.2 rfl rfl ?_
    refine zW_iload_n (pc' := 13) dJ0_indexOf_7cf53_0.1.2.2.1 rfl rfl ?_
    refine zW_aload_n (pc' := 14) dJ0_indexOf_7cf53_0.1.2.2.2 rfl rfl ?_
    refine cwI0 (z := 1) hX (by decide) rfl (pc' := 17) kJ0_length_8abf5 vJ0_length_8abf5 lk_J0_505 ⟨Nat.le_of_ble_eq_true rfl, Nat.le_of_ble_eq_true rfl⟩ rfl (s_J0_length_8abf5S1 hF hX) dJ0_indexOf_7cf53_0.2.1.1.1 (Nat.le_of_ble_eq_true rfl) rfl ?_
    rintro r14 z14 ⟨hz14, p14⟩; subst z14
    refine csI4 (pc' := 20) kJ1_indexOf_4cfef vJ1_indexOf_4cfef lk_J0_637 ⟨Nat.le_of_ble_eq_true rfl, Nat.le_of_ble_eq_true rfl⟩ rfl (s_J1_indexOf_4cfefS1 hF _ ⟨by omega, by omega⟩ _ ⟨by omega, by omega⟩ _ ⟨by omega, by omega⟩ hX) dJ0_indexOf_7cf53_0.2.1.1.2 (Nat.le_of_ble_eq_true rfl) rfl ?_
    rintro r17 z17 ⟨hz17, p17⟩; subst z17
    refine zV_goto 36 dJ0_indexOf_7cf53_0.2.1.2.1 rfl ?_
    exact zV_iret rfl dJ0_indexOf_7cf53_1.2 ⟨rfl, by omega⟩

abbrev q_J0_indexOf_0f7a4S1 (κ h : Hp) (x1 : Int) : Int → Hp → Prop := fun r h' => h' = h ∧ ((-1 ≤ r) ∧ (r ≤ 8))
set_option maxHeartbeats 4000000 in
set_option maxRecDepth 20000 in
theorem s_J0_indexOf_0f7a4S1 {G : Ga} {b : Bd} {κ h : Hp} (hF : Fr b κ h) (x1 : Int) (hx1 : rng x1) (hX : XI G) : zM G mJ0_indexOf_0f7a4 yJ0_indexOf_0f7a4 [.inr (.inr 107), .inl x1] h (q_J0_indexOf_0f7a4S1 κ h x1) := by
  unfold rng at hx1
  refine zM_of [some (.inr (.inr 107)), some (.inl x1)] 0 (by decide +kernel) rfl (Nat.le_of_ble_eq_true rfl) rfl ?_
  refine zW_aload_n (pc' := 1) dJ0_indexOf_0f7a4_0.1.1.1 rfl rfl ?_
  refine zW_iload_n (pc' := 2) dJ0_indexOf_0f7a4_0.1.1.2 rfl rfl ?_
  refine zW_iconst (pc' := 3) dJ0_indexOf_0f7a4_0.1.2 rfl ?_
  refine cwI2 (z := 1) hX (by decide) rfl (pc' := 6) kJ0_indexOf_7cf53 vJ0_indexOf_7cf53 lk_J0_633 ⟨Nat.le_of_ble_eq_true rfl, Nat.le_of_ble_eq_true rfl⟩ rfl (s_J0_indexOf_7cf53S1 hF _ ⟨by omega, by omega⟩ _ ⟨by omega, by omega⟩ hX) dJ0_indexOf_0f7a4_0.2.1 (Nat.le_of_ble_eq_true rfl) rfl ?_
  rintro r3 z3 ⟨hz3, p3⟩; subst z3
  exact zV_iret rfl dJ0_indexOf_0f7a4_0.2.2 ⟨rfl, by omega⟩

abbrev q_X6_readNumbers (κ : Hp) (x1 : Int) : Int → Hp → Prop := fun r h' => Fm [(53, 3), (53, 4), (51, 999), (52, 999)] κ h' ∧ (True)
set_option maxHeartbeats 4000000 in
set_option maxRecDepth 20000 in
theorem s_X6_readNumbers {G : Ga} {κ : Hp} (hS : SI κ) (hR : KR κ) (hC : KC κ) (x1 : Int) (hx1 : rng x1) (hX : XI G) : zM G mX6_readNumbers yX6_readNumbers [.inr (.inr 53), .inl x1] κ (q_X6_readNumbers κ x1) := by
  unfold rng at hx1
  have main : ∀ N : Nat, (∀ (v2 v3 : Int) (h : Hp), Fm [(53, 3), (53, 4), (51, 999), (52, 999)] κ h → (rng v2) → (0 ≤ v3 ∧ v3 ≤ 2147483647) → ((0 ≤ x1 ∧ x1 ≤ 14) ∨ v2 ≤ 0) → 2267742733344 + 33 * (2147483647 - v3) + 32 < (N : Int) → zV G mX6_readNumbers (q_X6_readNumbers κ x1) 24 [some (.inr (.inr 53)), some (.inl x1), some (.inl v2), some (.inl v3)] [] h) := by
    intro N
    induction N with
    | zero =>
      intro v2 v3 h hF g0 g1 gc0 hm
      unfold rng at g0
      exfalso; omega
    | succ N ih =>
      have k24 := ih
      intro v2 v3 h hF g0 g1 gc0 hm
      unfold rng at g0
      refine zW_iload_n (pc' := 25) dX6_readNumbers_0.2.2.2.1 rfl rfl ?_
      refine zW_iload_n (pc' := 26) dX6_readNumbers_0.2.2.2.2 rfl rfl ?_
      refine zV_cm_ge (tgt := 81) (pc' := 29) dX6_readNumbers_1.1.1.1.1 rfl rfl ⟨by omega, by omega⟩ ⟨by omega, by omega⟩ (fun c26 => ?_) (fun c26 => ?_)
      · exact zV_vret rfl dX6_readNumbers_2.2.2.2 ⟨hF, trivial⟩
      · refine zW_aload_n (pc' := 30) dX6_readNumbers_1.1.1.1.2 rfl rfl ?_
        refine zG_int (pc' := 33) fg_X6_32 tb53 rfl dX6_readNumbers_1.1.1.2.1 rfl ?_
        have e30 := hF.rh 53 4
        refine zV_if_ne (tgt := 81) (pc' := 36) dX6_readNumbers_1.1.1.2.2 rfl rfl ⟨by omega, by omega⟩ (fun c33 => ?_) (fun c33 => ?_)
        · exact zV_vret rfl dX6_readNumbers_2.2.2.2 ⟨hF, trivial⟩
        · refine zW_iload_n (pc' := 37) dX6_readNumbers_1.1.2.1.1 rfl rfl ?_
          refine zV_if_ne (tgt := 58) (pc' := 40) dX6_readNumbers_1.1.2.1.2 rfl rfl ⟨by omega, by omega⟩ (fun c37 => ?_) (fun c37 => ?_)
          · refine zW_aload_n (pc' := 59) dX6_readNumbers_2.1.1.1.1 rfl rfl ?_
            refine zW_bipush (pc' := 61) dX6_readNumbers_2.1.1.1.2 rfl rfl ?_
            refine cvV1 (pc' := 64) kX6_expect vX6_expect lk_X6_45 ⟨Nat.le_of_ble_eq_true rfl, Nat.le_of_ble_eq_true rfl⟩ tb53 vq6 rfl rfl (s_X6_expect hF.2.1 hF.2.2.1 hF.2.2.2 _ ⟨by omega, by omega⟩) dX6_readNumbers_2.1.1.2.1 (Nat.le_of_ble_eq_true rfl) rfl ?_
            rintro r61 h ⟨hF1, p61⟩; replace hF := hF.tr hF1 rfl
            refine zW_aload_n (pc' := 65) dX6_readNumbers_2.1.1.2.2 rfl rfl ?_
            refine zW_iconst (pc' := 66) dX6_readNumbers_2.1.2.1.1 rfl ?_
            refine zV_gsr (k := 105) (pc' := 69) (fun U hU => (hX U hU).1.2.2.2) w_GREATEST_LATER dX6_readNumbers_2.1.2.1.2 rfl ?_
            refine zW_iload_n (pc' := 70) dX6_readNumbers_2.1.2.2 rfl rfl ?_
            refine zV_tald (k := 105) (pc' := 71) (fun U hU => (hX U hU).1.2.2.2) (by omega) dX6_readNumbers_2.2.1.1.1 rfl (fun v70 e70 => ?_)
            unfold rng at e70
            refine cvI2 (pc' := 74) kX6_readNumber vX6_readNumber lk_X6_87 ⟨Nat.le_of_ble_eq_true rfl, Nat.le_of_ble_eq_true rfl⟩ tb53 vq6 rfl rfl (s_X6_readNumber hF.2.1 hF.2.2.1 hF.2.2.2 _ ⟨by omega, by omega⟩ _ ⟨by omega, by omega⟩) dX6_readNumbers_2.2.1.1.2 (Nat.le_of_ble_eq_true rfl) rfl ?_
            rintro r71 h ⟨hF1, p71⟩; replace hF := hF.tr hF1 rfl
            refine zW_pop (pc' := 75) dX6_readNumbers_2.2.1.2 rfl rfl ?_
            refine zW_iinc (ls' := [_, _, _, _]) (pc' := 78) dX6_readNumbers_2.2.2.1.1 rfl (by decide) rfl rfl rfl ?_
            refine zV_goto 24 dX6_readNumbers_2.2.2.1.2 rfl ?_
            exact k24 _ _ _ hF ⟨by omega, by omega⟩ (by omega) (by omega) (by omega)
          · refine zW_aload_n (pc' := 41) dX6_readNumbers_1.1.2.2.1 rfl rfl ?_
            refine zV_gsr (k := 103) (pc' := 44) (fun U hU => (hX U hU).1.2.1) w_LEAST_FIRST dX6_readNumbers_1.1.2.2.2 rfl ?_
            refine zW_iload_n (pc' := 45) dX6_readNumbers_1.2.1.1.1 rfl rfl ?_
            refine zV_tald (k := 103) (pc' := 46) (fun U hU => (hX U hU).1.2.1) (by omega) dX6_readNumbers_1.2.1.1.2 rfl (fun v45 e45 => ?_)
            unfold rng at e45
            refine zV_gsr (k := 104) (pc' := 49) (fun U hU => (hX U hU).1.2.2.1) w_GREATEST_FIRST dX6_readNumbers_1.2.1.2.1 rfl ?_
            refine zW_iload_n (pc' := 50) dX6_readNumbers_1.2.1.2.2 rfl rfl ?_
            refine zV_tald (k := 104) (pc' := 51) (fun U hU => (hX U hU).1.2.2.1) (by omega) dX6_readNumbers_1.2.2.1.1 rfl (fun v50 e50 => ?_)
            unfold rng at e50
            refine cvI2 (pc' := 54) kX6_readNumber vX6_readNumber lk_X6_87 ⟨Nat.le_of_ble_eq_true rfl, Nat.le_of_ble_eq_true rfl⟩ tb53 vq6 rfl rfl (s_X6_readNumber hF.2.1 hF.2.2.1 hF.2.2.2 _ ⟨by omega, by omega⟩ _ ⟨by omega, by omega⟩) dX6_readNumbers_1.2.2.1.2 (Nat.le_of_ble_eq_true rfl) rfl ?_
            rintro r51 h ⟨hF1, p51⟩; replace hF := hF.tr hF1 rfl
            refine zW_pop (pc' := 55) dX6_readNumbers_1.2.2.2.1 rfl rfl ?_
            refine zV_goto 75 dX6_readNumbers_1.2.2.2.2 rfl ?_
            refine zW_iinc (ls' := [_, _, _, _]) (pc' := 78) dX6_readNumbers_2.2.2.1.1 rfl (by decide) rfl rfl rfl ?_
            refine zV_goto 24 dX6_readNumbers_2.2.2.1.2 rfl ?_
            exact k24 _ _ _ hF ⟨by omega, by omega⟩ (by omega) (by omega) (by omega)
  refine zM_of [some (.inr (.inr 53)), some (.inl x1), none, none] 2 rfl rfl (Nat.le_of_ble_eq_true rfl) rfl ?_
  refine (show ∀ h : Hp, Fm [(53, 3), (53, 4), (51, 999), (52, 999)] κ h → h = κ → zV G mX6_readNumbers (q_X6_readNumbers κ x1) 0 [some (.inr (.inr 53)), some (.inl x1), none, none] [] h from fun h hF hk0 => ?_) κ (Fm.rf hS hR hC) rfl
  refine zW_iload_n (pc' := 1) dX6_readNumbers_0.1.1.1.1 rfl rfl ?_
  refine zV_if_lt (tgt := 20) (pc' := 4) dX6_readNumbers_0.1.1.1.2 rfl rfl ⟨by omega, by omega⟩ (fun c1 => ?_) (fun c1 => ?_)
  · refine zW_iconst (pc' := 21) dX6_readNumbers_0.2.1.2.1 rfl ?_
    refine zW_istore_n (ls' := [_, _, _, _]) (pc' := 22) dX6_readNumbers_0.2.1.2.2 (by decide) rfl rfl rfl ?_
    refine zW_iconst (pc' := 23) dX6_readNumbers_0.2.2.1.1 rfl ?_
    refine zW_istore_n (ls' := [_, _, _, _]) (pc' := 24) dX6_readNumbers_0.2.2.1.2 (by decide) rfl rfl rfl ?_
    exact (main 10000000000000000000000000000000000000000) _ _ _ hF ⟨by omega, by omega⟩ (by omega) (by omega) (by omega)
  · refine zW_iload_n (pc' := 5) dX6_readNumbers_0.1.1.2.1 rfl rfl ?_
    refine zV_gsr (k := 102) (pc' := 8) (fun U hU => (hX U hU).1.1) w_HOW_MANY_NUMBERS dX6_readNumbers_0.1.1.2.2 rfl ?_
    refine zV_talen (k := 102) (pc' := 9) (fun U hU => (hX U hU).1.1) dX6_readNumbers_0.1.2.1.1 rfl ?_
    refine zV_cm_ge (tgt := 20) (pc' := 12) dX6_readNumbers_0.1.2.1.2 rfl rfl ⟨by omega, by omega⟩ ⟨by omega, by omega⟩ (fun c9 => ?_) (fun c9 => ?_)
    · refine zW_iconst (pc' := 21) dX6_readNumbers_0.2.1.2.1 rfl ?_
      refine zW_istore_n (ls' := [_, _, _, _]) (pc' := 22) dX6_readNumbers_0.2.1.2.2 (by decide) rfl rfl rfl ?_
      refine zW_iconst (pc' := 23) dX6_readNumbers_0.2.2.1.1 rfl ?_
      refine zW_istore_n (ls' := [_, _, _, _]) (pc' := 24) dX6_readNumbers_0.2.2.1.2 (by decide) rfl rfl rfl ?_
      exact (main 10000000000000000000000000000000000000000) _ _ _ hF ⟨by omega, by omega⟩ (by omega) (by omega) (by omega)
    · refine zV_gsr (k := 102) (pc' := 15) (fun U hU => (hX U hU).1.1) w_HOW_MANY_NUMBERS dX6_readNumbers_0.1.2.2.1 rfl ?_
      refine zW_iload_n (pc' := 16) dX6_readNumbers_0.1.2.2.2 rfl rfl ?_
      refine zV_tald (k := 102) (pc' := 17) (fun U hU => (hX U hU).1.1) (by omega) dX6_readNumbers_0.2.1.1.1 rfl (fun v16 e16 => ?_)
      unfold rng at e16
      refine zV_goto 21 dX6_readNumbers_0.2.1.1.2 rfl ?_
      refine zW_istore_n (ls' := [_, _, _, _]) (pc' := 22) dX6_readNumbers_0.2.1.2.2 (by decide) rfl rfl rfl ?_
      refine zW_iconst (pc' := 23) dX6_readNumbers_0.2.2.1.1 rfl ?_
      refine zW_istore_n (ls' := [_, _, _, _]) (pc' := 24) dX6_readNumbers_0.2.2.1.2 (by decide) rfl rfl rfl ?_
      exact (main 10000000000000000000000000000000000000000) _ _ _ hF ⟨by omega, by omega⟩ (by omega) (by omega) (by omega)

abbrev q_X6_readLetter (κ : Hp)  : Int → Hp → Prop := fun r h' => Fm [(53, 3), (53, 4), (49, 0), (49, 1), (50, 999), (51, 999), (52, 999)] κ h' ∧ ((-1 ≤ r) ∧ (r ≤ 14))
set_option maxHeartbeats 4000000 in
set_option maxRecDepth 20000 in
theorem s_X6_readLetter {G : Ga} {κ : Hp} (hS : SI κ) (hR : KR κ) (hC : KC κ) (hX : XI G) : zM G mX6_readLetter yX6_readLetter [.inr (.inr 53)] κ (q_X6_readLetter κ) := by
  have f_41_0 := KCm hC
  have f_41_1 := KCf hC
  have f_45_0 := KCr0 hC
  have f_45_1 := KCr1 hC
  have f_49_0 := KCd0 hC
  have f_49_1 := KCd1 hC
  have k86 : ∀ (v1 v2 u0 u1 : Int) (h : Hp), Fm [(53, 3), (53, 4), (49, 0), (49, 1), (50, 999), (51, 999), (52, 999)] κ h → (rng v1) → (0 ≤ v2 ∧ v2 ≤ 14) → (0 ≤ u0 ∧ u0 ≤ 1) → (0 ≤ u1 ∧ u1 ≤ 1) → zV G mX6_readLetter (q_X6_readLetter κ) 86 [some (.inr (.inr 53)), some (.inl v1), some (.inl v2)] [.inl u1, .inl u0] h := by
    intro v1 v2 u0 u1 h hF g0 g1 g2 g3
    unfold rng at g0
    refine zV_cm_eq (tgt := 102) (pc' := 89) dX6_readLetter_2.2.2.1.1 rfl rfl ⟨by omega, by omega⟩ ⟨by omega, by omega⟩ (fun c86 => ?_) (fun c86 => ?_)
    · refine zW_aload_n (pc' := 103) dX6_readLetter_3.1.1.2.2 rfl rfl ?_
      refine zG_ref (pc' := 106) 49 fg_X6_12 tb53 rfl dX6_readLetter_3.1.2.1.1 rfl ?_
      refine zW_iload_n (pc' := 107) dX6_readLetter_3.1.2.1.2 rfl rfl ?_
      refine cvV1 (pc' := 110) kX7_addStage vX7_addStage lk_X6_74 ⟨Nat.le_of_ble_eq_true rfl, Nat.le_of_ble_eq_true rfl⟩ tb49 vq7 rfl rfl (s_X7_addStageV49 hF.2.1 hF.2.2.1 hF.2.2.2 _) dX6_readLetter_3.1.2.2.1 (Nat.le_of_ble_eq_true rfl) rfl ?_
      rintro r107 h ⟨hF1, p107⟩; replace hF := hF.tr hF1 rfl
      refine zW_aload_n (pc' := 111) dX6_readLetter_3.1.2.2.2 rfl rfl ?_
      refine zW_dup (pc' := 112) dX6_readLetter_3.2.1.1.1 rfl rfl ?_
      refine zG_int (pc' := 115) fg_X6_29 tb53 rfl dX6_readLetter_3.2.1.1.2 rfl ?_
      have e112 := hF.rh 53 3
      refine zW_iconst (pc' := 116) dX6_readLetter_3.2.1.2.1 rfl ?_
      refine zW_iadd (pc' := 117) dX6_readLetter_3.2.1.2.2 rfl ?_
      refine zV_anyI (fun p117 ⟨q117, s117⟩ => ?_)
      refine zPm (pc' := 120) hF (Or.inl rfl) (SI_irr hF.2.1 (Or.inl rfl) (fun _ _ => ⟨by omega, by omega⟩)) (KR_irr hF.2.2.1 rfl) (KC_irr hF.2.2.2 rfl) fp_X6_29 tb53 rfl dX6_readLetter_3.2.2.1.1 rfl (fun h hF w117 => ?_)
      refine zW_iload_n (pc' := 121) dX6_readLetter_3.2.2.1.2 rfl rfl ?_
      exact zV_iret rfl dX6_readLetter_3.2.2.2 ⟨hF, by omega⟩
    · refine zW_aload_n (pc' := 90) dX6_readLetter_2.2.2.1.2 rfl rfl ?_
      refine zW_bipush (pc' := 92) dX6_readLetter_2.2.2.2.1 rfl rfl ?_
      refine zW_aload_n (pc' := 93) dX6_readLetter_2.2.2.2.2 rfl rfl ?_
      refine zG_int (pc' := 96) fg_X6_29 tb53 rfl dX6_readLetter_3.1.1.1.1 rfl ?_
      have e93 := hF.rh 53 3
      refine cvV2 (pc' := 99) kX6_tell vX6_tell lk_X6_59 ⟨Nat.le_of_ble_eq_true rfl, Nat.le_of_ble_eq_true rfl⟩ tb53 vq6 rfl rfl (s_X6_tell hF.2.1 hF.2.2.1 hF.2.2.2 _ _) dX6_readLetter_3.1.1.1.2 (Nat.le_of_ble_eq_true rfl) rfl ?_
      rintro r96 h ⟨hF1, p96⟩; replace hF := hF.tr hF1 rfl
      refine zV_goto 120 dX6_readLetter_3.1.1.2.1 rfl ?_
      refine zW_iload_n (pc' := 121) dX6_readLetter_3.2.2.1.2 rfl rfl ?_
      exact zV_iret rfl dX6_readLetter_3.2.2.2 ⟨hF, by omega⟩
  have k20 : ∀ (v1 u0 : Int) (h : Hp), Fm [(53, 3), (53, 4), (49, 0), (49, 1), (50, 999), (51, 999), (52, 999)] κ h → (rng v1) → (-1 ≤ u0 ∧ u0 ≤ 14) → zV G mX6_readLetter (q_X6_readLetter κ) 20 [some (.inr (.inr 53)), some (.inl v1), none] [.inl u0] h := by
    intro v1 u0 h hF g0 g1
    unfold rng at g0
    refine zW_istore_n (ls' := [_, _, _]) (pc' := 21) dX6_readLetter_0.2.1.2.2 (by decide) rfl rfl rfl ?_
    refine zW_iload_n (pc' := 22) dX6_readLetter_0.2.2.1.1 rfl rfl ?_
    refine zV_if_ge (tgt := 37) (pc' := 25) dX6_readLetter_0.2.2.1.2 rfl rfl ⟨by omega, by omega⟩ (fun c22 => ?_) (fun c22 => ?_)
    · refine zW_aload_n (pc' := 38) dX6_readLetter_1.1.2.1.1 rfl rfl ?_
      refine zG_ref (pc' := 41) 49 fg_X6_12 tb53 rfl dX6_readLetter_1.1.2.1.2 rfl ?_
      refine zG_int (pc' := 44) fg_X6_38 tb49 rfl dX6_readLetter_1.1.2.2.1 rfl ?_
      have e41 := KCd0 hF.2.2.2
      refine zW_bipush (pc' := 46) dX6_readLetter_1.1.2.2.2 rfl rfl ?_
      refine zV_cm_ne (tgt := 61) (pc' := 49) dX6_readLetter_1.2.1.1.1 rfl rfl ⟨by omega, by omega⟩ ⟨by omega, by omega⟩ (fun c46 => ?_) (fun c46 => ?_)
      · refine zW_iload_n (pc' := 62) dX6_readLetter_1.2.2.2.2 rfl rfl ?_
        refine zW_iconst (pc' := 63) dX6_readLetter_2.1.1.1.1 rfl ?_
        refine zV_cm_gt (tgt := 70) (pc' := 66) dX6_readLetter_2.1.1.1.2 rfl rfl ⟨by omega, by omega⟩ ⟨by omega, by omega⟩ (fun c63 => ?_) (fun c63 => ?_)
        · refine zW_iconst (pc' := 71) dX6_readLetter_2.1.2.1.1 rfl ?_
          refine zW_aload_n (pc' := 72) dX6_readLetter_2.1.2.1.2 rfl rfl ?_
          refine zG_ref (pc' := 75) 49 fg_X6_12 tb53 rfl dX6_readLetter_2.1.2.2.1 rfl ?_
          refine zG_int (pc' := 78) fg_X6_71 tb49 rfl dX6_readLetter_2.1.2.2.2 rfl ?_
          have e75 := KCd1 hF.2.2.2
          refine zV_if_ne (tgt := 85) (pc' := 81) dX6_readLetter_2.2.1.1.1 rfl rfl ⟨by omega, by omega⟩ (fun c78 => ?_) (fun c78 => ?_)
          · refine zW_iconst (pc' := 86) dX6_readLetter_2.2.1.2.2 rfl ?_
            exact k86 _ _ _ _ _ hF ⟨by omega, by omega⟩ (by omega) (by omega) (by omega)
          · refine zW_iconst (pc' := 82) dX6_readLetter_2.2.1.1.2 rfl ?_
            refine zV_goto 86 dX6_readLetter_2.2.1.2.1 rfl ?_
            exact k86 _ _ _ _ _ hF ⟨by omega, by omega⟩ (by omega) (by omega) (by omega)
        · refine zW_iconst (pc' := 67) dX6_readLetter_2.1.1.2.1 rfl ?_
          refine zV_goto 71 dX6_readLetter_2.1.1.2.2 rfl ?_
          refine zW_aload_n (pc' := 72) dX6_readLetter_2.1.2.1.2 rfl rfl ?_
          refine zG_ref (pc' := 75) 49 fg_X6_12 tb53 rfl dX6_readLetter_2.1.2.2.1 rfl ?_
          refine zG_int (pc' := 78) fg_X6_71 tb49 rfl dX6_readLetter_2.1.2.2.2 rfl ?_
          have e75 := KCd1 hF.2.2.2
          refine zV_if_ne (tgt := 85) (pc' := 81) dX6_readLetter_2.2.1.1.1 rfl rfl ⟨by omega, by omega⟩ (fun c78 => ?_) (fun c78 => ?_)
          · refine zW_iconst (pc' := 86) dX6_readLetter_2.2.1.2.2 rfl ?_
            exact k86 _ _ _ _ _ hF ⟨by omega, by omega⟩ (by omega) (by omega) (by omega)
          · refine zW_iconst (pc' := 82) dX6_readLetter_2.2.1.1.2 rfl ?_
            refine zV_goto 86 dX6_readLetter_2.2.1.2.1 rfl ?_
            exact k86 _ _ _ _ _ hF ⟨by omega, by omega⟩ (by omega) (by omega) (by omega)
      · refine zW_aload_n (pc' := 50) dX6_readLetter_1.2.1.1.2 rfl rfl ?_
        refine zW_iconst (pc' := 51) dX6_readLetter_1.2.1.2.1 rfl ?_
        refine zW_aload_n (pc' := 52) dX6_readLetter_1.2.1.2.2 rfl rfl ?_
        refine zG_int (pc' := 55) fg_X6_29 tb53 rfl dX6_readLetter_1.2.2.1.1 rfl ?_
        have e52 := hF.rh 53 3
        refine cvV2 (pc' := 58) kX6_tell vX6_tell lk_X6_59 ⟨Nat.le_of_ble_eq_true rfl, Nat.le_of_ble_eq_true rfl⟩ tb53 vq6 rfl rfl (s_X6_tell hF.2.1 hF.2.2.1 hF.2.2.2 _ _) dX6_readLetter_1.2.2.1.2 (Nat.le_of_ble_eq_true rfl) rfl ?_
        rintro r55 h ⟨hF1, p55⟩; replace hF := hF.tr hF1 rfl
        refine zV_goto 120 dX6_readLetter_1.2.2.2.1 rfl ?_
        refine zW_iload_n (pc' := 121) dX6_readLetter_3.2.2.1.2 rfl rfl ?_
        exact zV_iret rfl dX6_readLetter_3.2.2.2 ⟨hF, by omega⟩
    · refine zW_aload_n (pc' := 26) dX6_readLetter_0.2.2.2.1 rfl rfl ?_
      refine zW_iconst (pc' := 27) dX6_readLetter_0.2.2.2.2 rfl ?_
      refine zW_aload_n (pc' := 28) dX6_readLetter_1.1.1.1.1 rfl rfl ?_
      refine zG_int (pc' := 31) fg_X6_29 tb53 rfl dX6_readLetter_1.1.1.1.2 rfl ?_
      have e28 := hF.rh 53 3
      refine cvV2 (pc' := 34) kX6_tell vX6_tell lk_X6_59 ⟨Nat.le_of_ble_eq_true rfl, Nat.le_of_ble_eq_true rfl⟩ tb53 vq6 rfl rfl (s_X6_tell hF.2.1 hF.2.2.1 hF.2.2.2 _ _) dX6_readLetter_1.1.1.2.1 (Nat.le_of_ble_eq_true rfl) rfl ?_
      rintro r31 h ⟨hF1, p31⟩; replace hF := hF.tr hF1 rfl
      refine zV_goto 120 dX6_readLetter_1.1.1.2.2 rfl ?_
      refine zW_iload_n (pc' := 121) dX6_readLetter_3.2.2.1.2 rfl rfl ?_
      exact zV_iret rfl dX6_readLetter_3.2.2.2 ⟨hF, by omega⟩
  refine zM_of [some (.inr (.inr 53)), none, none] 2 rfl rfl (Nat.le_of_ble_eq_true rfl) rfl ?_
  refine (show ∀ h : Hp, Fm [(53, 3), (53, 4), (49, 0), (49, 1), (50, 999), (51, 999), (52, 999)] κ h → h = κ → zV G mX6_readLetter (q_X6_readLetter κ) 0 [some (.inr (.inr 53)), none, none] [] h from fun h hF hk0 => ?_) κ (Fm.rf hS hR hC) rfl
  refine zW_aload_n (pc' := 1) dX6_readLetter_0.1.1.1.1 rfl rfl ?_
  refine cvI0 (pc' := 4) kX6_here vX6_here lk_X6_56 ⟨Nat.le_of_ble_eq_true rfl, Nat.le_of_ble_eq_true rfl⟩ tb53 vq6 rfl rfl (s_X6_here (b := bdB true) (κ := h) hF.2.2.2 (Fr.rf hF.2.1)) dX6_readLetter_0.1.1.1.2 (Nat.le_of_ble_eq_true rfl) rfl ?_
  rintro r1 z1 ⟨hz1, p1⟩; subst z1
  refine zW_istore_n (ls' := [_, _, _]) (pc' := 5) dX6_readLetter_0.1.1.2.1 (by decide) rfl rfl rfl ?_
  refine zW_iload_n (pc' := 6) dX6_readLetter_0.1.1.2.2 rfl rfl ?_
  refine zV_if_ge (tgt := 13) (pc' := 9) dX6_readLetter_0.1.2.1.1 rfl rfl ⟨by omega, by omega⟩ (fun c6 => ?_) (fun c6 => ?_)
  · refine zV_ldcS (k := 106) (pc' := 15) (fun U hU => (hX U hU).2.2.1) dX6_readLetter_0.1.2.2.2 rfl ?_
    refine zW_iload_n (pc' := 16) dX6_readLetter_0.2.1.1.1 rfl rfl ?_
    refine zW_i2c (pc' := 17) dX6_readLetter_0.2.1.1.2 rfl (fun v16 e16 => ?_)
    unfold rng at e16
    refine cwI1 (z := 0) hX (by decide) rfl (pc' := 20) kJ0_indexOf_0f7a4 vJ0_indexOf_0f7a4 lk_X6_65 ⟨Nat.le_of_ble_eq_true rfl, Nat.le_of_ble_eq_true rfl⟩ rfl (s_J0_indexOf_0f7a4S0 (b := bdB true) (κ := h) (Fr.rf hF.2.1) _ ⟨by omega, by omega⟩ hX) dX6_readLetter_0.2.1.2.1 (Nat.le_of_ble_eq_true rfl) rfl ?_
    rintro r17 z17 ⟨hz17, p17⟩; subst z17
    exact k20 _ _ _ hF ⟨by omega, by omega⟩ (by omega)
  · refine zW_iconst (pc' := 10) dX6_readLetter_0.1.2.1.2 rfl ?_
    refine zV_goto 20 dX6_readLetter_0.1.2.2.1 rfl ?_
    exact k20 _ _ _ hF ⟨by omega, by omega⟩ (by omega)

abbrev q_X6_readStage (κ : Hp)  : Int → Hp → Prop := fun r h' => Fm [(53, 3), (53, 4), (49, 0), (49, 1), (50, 999), (51, 999), (52, 999)] κ h' ∧ (True)
set_option maxHeartbeats 4000000 in
set_option maxRecDepth 20000 in
theorem s_X6_readStage {G : Ga} {κ : Hp} (hS : SI κ) (hR : KR κ) (hC : KC κ) (hX : XI G) : zM G mX6_readStage yX6_readStage [.inr (.inr 53)] κ (q_X6_readStage κ) := by
  have k43 : ∀ (v1 : Int) (h : Hp), Fm [(53, 3), (53, 4), (49, 0), (49, 1), (50, 999), (51, 999), (52, 999)] κ h → (-1 ≤ v1 ∧ v1 ≤ 14) → zV G mX6_readStage (q_X6_readStage κ) 43 [some (.inr (.inr 53)), some (.inl v1)] [] h := by
    intro v1 h hF g0
    refine zW_aload_n (pc' := 44) dX6_readStage_1.1.2.1.2 rfl rfl ?_
    refine zG_int (pc' := 47) fg_X6_32 tb53 rfl dX6_readStage_1.1.2.2.1 rfl ?_
    have e44 := hF.rh 53 4
    refine zV_if_ne (tgt := 79) (pc' := 50) dX6_readStage_1.1.2.2.2 rfl rfl ⟨by omega, by omega⟩ (fun c47 => ?_) (fun c47 => ?_)
    · exact zV_vret rfl dX6_readStage_2.2.2 ⟨hF, trivial⟩
    · refine zW_aload_n (pc' := 51) dX6_readStage_1.2.1.1.1 rfl rfl ?_
      refine zG_int (pc' := 54) fg_X6_29 tb53 rfl dX6_readStage_1.2.1.1.2 rfl ?_
      have e51 := hF.rh 53 3
      refine zW_aload_n (pc' := 55) dX6_readStage_1.2.1.2.1 rfl rfl ?_
      refine zGm (pc' := 58) hF rfl rfl fg_X6_25 tb53 rfl dX6_readStage_1.2.1.2.2 rfl ?_
      have e55 : -2147483648 ≤ κ 53 2 ∧ κ 53 2 ≤ 2147483647 := by rw [← hF.1 53 2 rfl rfl]; exact hF.rh 53 2
      refine zV_cm_ge (tgt := 79) (pc' := 61) dX6_readStage_1.2.2.1.1 rfl rfl ⟨by omega, by omega⟩ ⟨by omega, by omega⟩ (fun c58 => ?_) (fun c58 => ?_)
      · exact zV_vret rfl dX6_readStage_2.2.2 ⟨hF, trivial⟩
      · refine zW_aload_n (pc' := 62) dX6_readStage_1.2.2.1.2 rfl rfl ?_
        refine cvI0 (pc' := 65) kX6_here vX6_here lk_X6_56 ⟨Nat.le_of_ble_eq_true rfl, Nat.le_of_ble_eq_true rfl⟩ tb53 vq6 rfl rfl (s_X6_here (b := bdB true) (κ := h) hF.2.2.2 (Fr.rf hF.2.1)) dX6_readStage_1.2.2.2.1 (Nat.le_of_ble_eq_true rfl) rfl ?_
        rintro r62 z62 ⟨hz62, p62⟩; subst z62
        refine zW_bipush (pc' := 67) dX6_readStage_1.2.2.2.2 rfl rfl ?_
        refine zV_cm_eq (tgt := 79) (pc' := 70) dX6_readStage_2.1.1.1 rfl rfl ⟨by omega, by omega⟩ ⟨by omega, by omega⟩ (fun c67 => ?_) (fun c67 => ?_)
        · exact zV_vret rfl dX6_readStage_2.2.2 ⟨hF, trivial⟩
        · refine zW_aload_n (pc' := 71) dX6_readStage_2.1.1.2 rfl rfl ?_
          refine zW_iconst (pc' := 72) dX6_readStage_2.1.2.1 rfl ?_
          refine zW_aload_n (pc' := 73) dX6_readStage_2.1.2.2 rfl rfl ?_
          refine zG_int (pc' := 76) fg_X6_29 tb53 rfl dX6_readStage_2.2.1.1 rfl ?_
          have e73 := hF.rh 53 3
          refine cvV2 (pc' := 79) kX6_tell vX6_tell lk_X6_59 ⟨Nat.le_of_ble_eq_true rfl, Nat.le_of_ble_eq_true rfl⟩ tb53 vq6 rfl rfl (s_X6_tell hF.2.1 hF.2.2.1 hF.2.2.2 _ _) dX6_readStage_2.2.1.2 (Nat.le_of_ble_eq_true rfl) rfl ?_
          rintro r76 h ⟨hF1, p76⟩; replace hF := hF.tr hF1 rfl
          exact zV_vret rfl dX6_readStage_2.2.2 ⟨hF, trivial⟩
  refine zM_of [some (.inr (.inr 53)), none] 1 rfl rfl (Nat.le_of_ble_eq_true rfl) rfl ?_
  refine (show ∀ h : Hp, Fm [(53, 3), (53, 4), (49, 0), (49, 1), (50, 999), (51, 999), (52, 999)] κ h → h = κ → zV G mX6_readStage (q_X6_readStage κ) 0 [some (.inr (.inr 53)), none] [] h from fun h hF hk0 => ?_) κ (Fm.rf hS hR hC) rfl
  refine zW_aload_n (pc' := 1) dX6_readStage_0.1.1.1.1 rfl rfl ?_
  refine cvI0 (pc' := 4) kX6_readLetter vX6_readLetter lk_X6_41 ⟨Nat.le_of_ble_eq_true rfl, Nat.le_of_ble_eq_true rfl⟩ tb53 vq6 rfl rfl (s_X6_readLetter hF.2.1 hF.2.2.1 hF.2.2.2 hX) dX6_readStage_0.1.1.1.2 (Nat.le_of_ble_eq_true rfl) rfl ?_
  rintro r1 h ⟨hF1, p1⟩; replace hF := hF.tr hF1 rfl
  refine zW_istore_n (ls' := [_, _]) (pc' := 5) dX6_readStage_0.1.1.2.1 (by decide) rfl rfl rfl ?_
  refine zW_aload_n (pc' := 6) dX6_readStage_0.1.1.2.2 rfl rfl ?_
  refine zW_bipush (pc' := 8) dX6_readStage_0.1.2.1.1 rfl rfl ?_
  refine cvV1 (pc' := 11) kX6_expect vX6_expect lk_X6_45 ⟨Nat.le_of_ble_eq_true rfl, Nat.le_of_ble_eq_true rfl⟩ tb53 vq6 rfl rfl (s_X6_expect hF.2.1 hF.2.2.1 hF.2.2.2 _ ⟨by omega, by omega⟩) dX6_readStage_0.1.2.1.2 (Nat.le_of_ble_eq_true rfl) rfl ?_
  rintro r8 h ⟨hF1, p8⟩; replace hF := hF.tr hF1 rfl
  refine zW_aload_n (pc' := 12) dX6_readStage_0.1.2.2.1 rfl rfl ?_
  refine zG_int (pc' := 15) fg_X6_32 tb53 rfl dX6_readStage_0.1.2.2.2 rfl ?_
  have e12 := hF.rh 53 4
  refine zV_if_ne (tgt := 31) (pc' := 18) dX6_readStage_0.2.1.1.1 rfl rfl ⟨by omega, by omega⟩ (fun c15 => ?_) (fun c15 => ?_)
  · refine zW_aload_n (pc' := 32) dX6_readStage_0.2.2.2.2 rfl rfl ?_
    refine zG_int (pc' := 35) fg_X6_32 tb53 rfl dX6_readStage_1.1.1.1.1 rfl ?_
    have e32 := hF.rh 53 4
    refine zV_if_ne (tgt := 43) (pc' := 38) dX6_readStage_1.1.1.1.2 rfl rfl ⟨by omega, by omega⟩ (fun c35 => ?_) (fun c35 => ?_)
    · exact k43 _ _ hF (by omega)
    · refine zW_aload_n (pc' := 39) dX6_readStage_1.1.1.2.1 rfl rfl ?_
      refine zW_iload_n (pc' := 40) dX6_readStage_1.1.1.2.2 rfl rfl ?_
      refine cvV1 (pc' := 43) kX6_readNumbers vX6_readNumbers lk_X6_52 ⟨Nat.le_of_ble_eq_true rfl, Nat.le_of_ble_eq_true rfl⟩ tb53 vq6 rfl rfl (s_X6_readNumbers hF.2.1 hF.2.2.1 hF.2.2.2 _ ⟨by omega, by omega⟩ hX) dX6_readStage_1.1.2.1.1 (Nat.le_of_ble_eq_true rfl) rfl ?_
      rintro r40 h ⟨hF1, p40⟩; replace hF := hF.tr hF1 rfl
      exact k43 _ _ hF (by omega)
  · refine zW_iload_n (pc' := 19) dX6_readStage_0.2.1.1.2 rfl rfl ?_
    refine zW_bipush (pc' := 21) dX6_readStage_0.2.1.2.1 rfl rfl ?_
    refine zV_cm_ne (tgt := 31) (pc' := 24) dX6_readStage_0.2.1.2.2 rfl rfl ⟨by omega, by omega⟩ ⟨by omega, by omega⟩ (fun c21 => ?_) (fun c21 => ?_)
    · refine zW_aload_n (pc' := 32) dX6_readStage_0.2.2.2.2 rfl rfl ?_
      refine zG_int (pc' := 35) fg_X6_32 tb53 rfl dX6_readStage_1.1.1.1.1 rfl ?_
      have e32 := hF.rh 53 4
      refine zV_if_ne (tgt := 43) (pc' := 38) dX6_readStage_1.1.1.1.2 rfl rfl ⟨by omega, by omega⟩ (fun c35 => ?_) (fun c35 => ?_)
      · exact k43 _ _ hF (by omega)
      · refine zW_aload_n (pc' := 39) dX6_readStage_1.1.1.2.1 rfl rfl ?_
        refine zW_iload_n (pc' := 40) dX6_readStage_1.1.1.2.2 rfl rfl ?_
        refine cvV1 (pc' := 43) kX6_readNumbers vX6_readNumbers lk_X6_52 ⟨Nat.le_of_ble_eq_true rfl, Nat.le_of_ble_eq_true rfl⟩ tb53 vq6 rfl rfl (s_X6_readNumbers hF.2.1 hF.2.2.1 hF.2.2.2 _ ⟨by omega, by omega⟩ hX) dX6_readStage_1.1.2.1.1 (Nat.le_of_ble_eq_true rfl) rfl ?_
        rintro r40 h ⟨hF1, p40⟩; replace hF := hF.tr hF1 rfl
        exact k43 _ _ hF (by omega)
    · refine zW_aload_n (pc' := 25) dX6_readStage_0.2.2.1.1 rfl rfl ?_
      refine cvV0 (pc' := 28) kX6_readPoints vX6_readPoints lk_X6_49 ⟨Nat.le_of_ble_eq_true rfl, Nat.le_of_ble_eq_true rfl⟩ tb53 vq6 rfl rfl (s_X6_readPoints hF.2.1 hF.2.2.1 hF.2.2.2) dX6_readStage_0.2.2.1.2 (Nat.le_of_ble_eq_true rfl) rfl ?_
      rintro r25 h ⟨hF1, p25⟩; replace hF := hF.tr hF1 rfl
      refine zV_goto 43 dX6_readStage_0.2.2.2.1 rfl ?_
      exact k43 _ _ hF (by omega)

abbrev q_X6_read (κ : Hp) (x1 : Int) : Int → Hp → Prop := fun r h' => Fm [(53, 2), (53, 3), (53, 4), (49, 0), (49, 1), (50, 999), (51, 999), (52, 999)] κ h' ∧ ((-2147483648 ≤ r) ∧ (r ≤ 2147483647))
set_option maxHeartbeats 4000000 in
set_option maxRecDepth 20000 in
theorem s_X6_read {G : Ga} {κ : Hp} (hS : SI κ) (hR : KR κ) (hC : KC κ) (x1 : Int) (hx1 : rng x1) (hX : XI G) : zM G mX6_read yX6_read [.inr (.inr 53), .inl x1] κ (q_X6_read κ x1) := by
  have f_41_0 := KCm hC
  have f_45_0 := KCr0 hC
  have f_49_0 := KCd0 hC
  unfold rng at hx1
  have main : ∀ N : Nat, (∀ (v2 v3 : Int) (h : Hp), Fm [(53, 2), (53, 3), (53, 4), (49, 0), (49, 1), (50, 999), (51, 999), (52, 999)] κ h → (0 ≤ v2 ∧ v2 ≤ 1) → (0 ≤ v3 ∧ v3 ≤ 13) → 22230 + 39 * (13 - v3) + 38 < (N : Int) → zV G mX6_read (q_X6_read κ x1) 34 [some (.inr (.inr 53)), some (.inl x1), some (.inl v2), some (.inl v3)] [] h) := by
    intro N
    induction N with
    | zero =>
      intro v2 v3 h hF g0 g1 hm
      exfalso; omega
    | succ N ih =>
      have k34 := ih
      intro v2 v3 h hF g0 g1 hm
      refine zW_iload_n (pc' := 35) dX6_read_1.1.2.1.1 rfl rfl ?_
      refine zV_if_eq (tgt := 88) (pc' := 38) dX6_read_1.1.2.1.2 rfl rfl ⟨by omega, by omega⟩ (fun c35 => ?_) (fun c35 => ?_)
      · refine zW_aload_n (pc' := 89) dX6_read_2.2.2.2.2 rfl rfl ?_
        refine zG_int (pc' := 92) fg_X6_32 tb53 rfl dX6_read_3.1.1.1.1 rfl ?_
        have e89 := hF.rh 53 4
        refine zV_if_ne (tgt := 105) (pc' := 95) dX6_read_3.1.1.1.2 rfl rfl ⟨by omega, by omega⟩ (fun c92 => ?_) (fun c92 => ?_)
        · refine zW_aload_n (pc' := 106) dX6_read_3.2.1.2 rfl rfl ?_
          refine zG_int (pc' := 109) fg_X6_32 tb53 rfl dX6_read_3.2.2.1 rfl ?_
          have e106 := hF.rh 53 4
          exact zV_iret rfl dX6_read_3.2.2.2 ⟨hF, by omega⟩
        · refine zW_aload_n (pc' := 96) dX6_read_3.1.1.2 rfl rfl ?_
          refine zG_ref (pc' := 99) 49 fg_X6_12 tb53 rfl dX6_read_3.1.2.1 rfl ?_
          refine zG_int (pc' := 102) fg_X6_38 tb49 rfl dX6_read_3.1.2.2 rfl ?_
          have e99 := KCd0 hF.2.2.2
          refine zV_goto 109 dX6_read_3.2.1.1 rfl ?_
          exact zV_iret rfl dX6_read_3.2.2.2 ⟨hF, by omega⟩
      · refine zW_iload_n (pc' := 39) dX6_read_1.1.2.2.1 rfl rfl ?_
        refine zW_bipush (pc' := 41) dX6_read_1.1.2.2.2 rfl rfl ?_
        refine zV_cm_gt (tgt := 88) (pc' := 44) dX6_read_1.2.1.1.1 rfl rfl ⟨by omega, by omega⟩ ⟨by omega, by omega⟩ (fun c41 => ?_) (fun c41 => ?_)
        · refine zW_aload_n (pc' := 89) dX6_read_2.2.2.2.2 rfl rfl ?_
          refine zG_int (pc' := 92) fg_X6_32 tb53 rfl dX6_read_3.1.1.1.1 rfl ?_
          have e89 := hF.rh 53 4
          refine zV_if_ne (tgt := 105) (pc' := 95) dX6_read_3.1.1.1.2 rfl rfl ⟨by omega, by omega⟩ (fun c92 => ?_) (fun c92 => ?_)
          · refine zW_aload_n (pc' := 106) dX6_read_3.2.1.2 rfl rfl ?_
            refine zG_int (pc' := 109) fg_X6_32 tb53 rfl dX6_read_3.2.2.1 rfl ?_
            have e106 := hF.rh 53 4
            exact zV_iret rfl dX6_read_3.2.2.2 ⟨hF, by omega⟩
          · refine zW_aload_n (pc' := 96) dX6_read_3.1.1.2 rfl rfl ?_
            refine zG_ref (pc' := 99) 49 fg_X6_12 tb53 rfl dX6_read_3.1.2.1 rfl ?_
            refine zG_int (pc' := 102) fg_X6_38 tb49 rfl dX6_read_3.1.2.2 rfl ?_
            have e99 := KCd0 hF.2.2.2
            refine zV_goto 109 dX6_read_3.2.1.1 rfl ?_
            exact zV_iret rfl dX6_read_3.2.2.2 ⟨hF, by omega⟩
        · refine zW_aload_n (pc' := 45) dX6_read_1.2.1.1.2 rfl rfl ?_
          refine cvV0 (pc' := 48) kX6_readStage vX6_readStage lk_X6_35 ⟨Nat.le_of_ble_eq_true rfl, Nat.le_of_ble_eq_true rfl⟩ tb53 vq6 rfl rfl (s_X6_readStage hF.2.1 hF.2.2.1 hF.2.2.2 hX) dX6_read_1.2.1.2.1 (Nat.le_of_ble_eq_true rfl) rfl ?_
          rintro r45 h ⟨hF1, p45⟩; replace hF := hF.tr hF1 rfl
          refine zW_aload_n (pc' := 49) dX6_read_1.2.1.2.2 rfl rfl ?_
          refine zG_int (pc' := 52) fg_X6_32 tb53 rfl dX6_read_1.2.2.1.1 rfl ?_
          have e49 := hF.rh 53 4
          refine zV_if_ne (tgt := 70) (pc' := 55) dX6_read_1.2.2.1.2 rfl rfl ⟨by omega, by omega⟩ (fun c52 => ?_) (fun c52 => ?_)
          · refine zW_iconst (pc' := 71) dX6_read_2.1.2.1.2 rfl ?_
            refine zW_istore_n (ls' := [_, _, _, _]) (pc' := 72) dX6_read_2.1.2.2.1 (by decide) rfl rfl rfl ?_
            refine zW_aload_n (pc' := 73) dX6_read_2.1.2.2.2 rfl rfl ?_
            refine zW_dup (pc' := 74) dX6_read_2.2.1.1.1 rfl rfl ?_
            refine zG_int (pc' := 77) fg_X6_29 tb53 rfl dX6_read_2.2.1.1.2 rfl ?_
            have e74 := hF.rh 53 3
            refine zW_iconst (pc' := 78) dX6_read_2.2.1.2.1 rfl ?_
            refine zW_iadd (pc' := 79) dX6_read_2.2.1.2.2 rfl ?_
            refine zV_anyI (fun p79 ⟨q79, s79⟩ => ?_)
            refine zPm (pc' := 82) hF (Or.inl rfl) (SI_irr hF.2.1 (Or.inl rfl) (fun _ _ => ⟨by omega, by omega⟩)) (KR_irr hF.2.2.1 rfl) (KC_irr hF.2.2.2 rfl) fp_X6_29 tb53 rfl dX6_read_2.2.2.1.1 rfl (fun h hF w79 => ?_)
            refine zW_iinc (ls' := [_, _, _, _]) (pc' := 85) dX6_read_2.2.2.1.2 rfl (by decide) rfl rfl rfl ?_
            refine zV_goto 34 dX6_read_2.2.2.2.1 rfl ?_
            exact k34 _ _ _ hF (by omega) (by omega) (by omega)
          · refine zW_aload_n (pc' := 56) dX6_read_1.2.2.2.1 rfl rfl ?_
            refine zG_int (pc' := 59) fg_X6_29 tb53 rfl dX6_read_1.2.2.2.2 rfl ?_
            have e56 := hF.rh 53 3
            refine zW_aload_n (pc' := 60) dX6_read_2.1.1.1.1 rfl rfl ?_
            refine zG_int (pc' := 63) fg_X6_25 tb53 rfl dX6_read_2.1.1.1.2 rfl ?_
            have e60 := hF.rh 53 2
            refine zV_cm_ge (tgt := 70) (pc' := 66) dX6_read_2.1.1.2.1 rfl rfl ⟨by omega, by omega⟩ ⟨by omega, by omega⟩ (fun c63 => ?_) (fun c63 => ?_)
            · refine zW_iconst (pc' := 71) dX6_read_2.1.2.1.2 rfl ?_
              refine zW_istore_n (ls' := [_, _, _, _]) (pc' := 72) dX6_read_2.1.2.2.1 (by decide) rfl rfl rfl ?_
              refine zW_aload_n (pc' := 73) dX6_read_2.1.2.2.2 rfl rfl ?_
              refine zW_dup (pc' := 74) dX6_read_2.2.1.1.1 rfl rfl ?_
              refine zG_int (pc' := 77) fg_X6_29 tb53 rfl dX6_read_2.2.1.1.2 rfl ?_
              have e74 := hF.rh 53 3
              refine zW_iconst (pc' := 78) dX6_read_2.2.1.2.1 rfl ?_
              refine zW_iadd (pc' := 79) dX6_read_2.2.1.2.2 rfl ?_
              refine zV_anyI (fun p79 ⟨q79, s79⟩ => ?_)
              refine zPm (pc' := 82) hF (Or.inl rfl) (SI_irr hF.2.1 (Or.inl rfl) (fun _ _ => ⟨by omega, by omega⟩)) (KR_irr hF.2.2.1 rfl) (KC_irr hF.2.2.2 rfl) fp_X6_29 tb53 rfl dX6_read_2.2.2.1.1 rfl (fun h hF w79 => ?_)
              refine zW_iinc (ls' := [_, _, _, _]) (pc' := 85) dX6_read_2.2.2.1.2 rfl (by decide) rfl rfl rfl ?_
              refine zV_goto 34 dX6_read_2.2.2.2.1 rfl ?_
              exact k34 _ _ _ hF (by omega) (by omega) (by omega)
            · refine zW_iconst (pc' := 67) dX6_read_2.1.1.2.2 rfl ?_
              refine zV_goto 71 dX6_read_2.1.2.1.1 rfl ?_
              refine zW_istore_n (ls' := [_, _, _, _]) (pc' := 72) dX6_read_2.1.2.2.1 (by decide) rfl rfl rfl ?_
              refine zW_aload_n (pc' := 73) dX6_read_2.1.2.2.2 rfl rfl ?_
              refine zW_dup (pc' := 74) dX6_read_2.2.1.1.1 rfl rfl ?_
              refine zG_int (pc' := 77) fg_X6_29 tb53 rfl dX6_read_2.2.1.1.2 rfl ?_
              have e74 := hF.rh 53 3
              refine zW_iconst (pc' := 78) dX6_read_2.2.1.2.1 rfl ?_
              refine zW_iadd (pc' := 79) dX6_read_2.2.1.2.2 rfl ?_
              refine zV_anyI (fun p79 ⟨q79, s79⟩ => ?_)
              refine zPm (pc' := 82) hF (Or.inl rfl) (SI_irr hF.2.1 (Or.inl rfl) (fun _ _ => ⟨by omega, by omega⟩)) (KR_irr hF.2.2.1 rfl) (KC_irr hF.2.2.2 rfl) fp_X6_29 tb53 rfl dX6_read_2.2.2.1.1 rfl (fun h hF w79 => ?_)
              refine zW_iinc (ls' := [_, _, _, _]) (pc' := 85) dX6_read_2.2.2.1.2 rfl (by decide) rfl rfl rfl ?_
              refine zV_goto 34 dX6_read_2.2.2.2.1 rfl ?_
              exact k34 _ _ _ hF (by omega) (by omega) (by omega)
  refine zM_of [some (.inr (.inr 53)), some (.inl x1), none, none] 2 rfl rfl (Nat.le_of_ble_eq_true rfl) rfl ?_
  refine (show ∀ h : Hp, Fm [(53, 2), (53, 3), (53, 4), (49, 0), (49, 1), (50, 999), (51, 999), (52, 999)] κ h → h = κ → zV G mX6_read (q_X6_read κ x1) 0 [some (.inr (.inr 53)), some (.inl x1), none, none] [] h from fun h hF hk0 => ?_) κ (Fm.rf hS hR hC) rfl
  refine zW_aload_n (pc' := 1) dX6_read_0.1.1.1.1 rfl rfl ?_
  refine zG_ref (pc' := 4) 49 fg_X6_12 tb53 rfl dX6_read_0.1.1.1.2 rfl ?_
  refine cvV0 (pc' := 7) kX7_clear vX7_clear lk_X6_22 ⟨Nat.le_of_ble_eq_true rfl, Nat.le_of_ble_eq_true rfl⟩ tb49 vq7 rfl rfl (s_X7_clearV49 hF.2.1 hF.2.2.1 hF.2.2.2) dX6_read_0.1.1.2.1 (Nat.le_of_ble_eq_true rfl) rfl ?_
  rintro r4 h ⟨hF1, p4⟩; replace hF := hF.tr hF1 rfl
  refine zW_aload_n (pc' := 8) dX6_read_0.1.1.2.2 rfl rfl ?_
  refine zW_iload_n (pc' := 9) dX6_read_0.1.2.1.1 rfl rfl ?_
  refine zPm (pc' := 12) hF (Or.inl rfl) (SI_irr hF.2.1 (Or.inl rfl) (fun _ _ => ⟨by omega, by omega⟩)) (KR_irr hF.2.2.1 rfl) (KC_irr hF.2.2.2 rfl) fp_X6_25 tb53 rfl dX6_read_0.1.2.1.2 rfl (fun h hF w9 => ?_)
  refine zW_aload_n (pc' := 13) dX6_read_0.1.2.2.1 rfl rfl ?_
  refine zW_iconst (pc' := 14) dX6_read_0.1.2.2.2 rfl ?_
  refine zPm (pc' := 17) hF (Or.inl rfl) (SI_irr hF.2.1 (Or.inl rfl) (fun _ _ => ⟨by omega, by omega⟩)) (KR_irr hF.2.2.1 rfl) (KC_irr hF.2.2.2 rfl) fp_X6_29 tb53 rfl dX6_read_0.2.1.1.1 rfl (fun h hF w14 => ?_)
  refine zW_aload_n (pc' := 18) dX6_read_0.2.1.1.2 rfl rfl ?_
  refine zW_iconst (pc' := 19) dX6_read_0.2.1.2.1 rfl ?_
  refine zPm (pc' := 22) hF (Or.inl rfl) (SI_irr hF.2.1 (Or.inl rfl) (fun _ _ => ⟨by omega, by omega⟩)) (KR_irr hF.2.2.1 rfl) (KC_irr hF.2.2.2 rfl) fp_X6_32 tb53 rfl dX6_read_0.2.1.2.2 rfl (fun h hF w19 => ?_)
  refine zW_iload_n (pc' := 23) dX6_read_0.2.2.1.1 rfl rfl ?_
  refine zV_if_le (tgt := 30) (pc' := 26) dX6_read_0.2.2.1.2 rfl rfl ⟨by omega, by omega⟩ (fun c23 => ?_) (fun c23 => ?_)
  · refine zW_iconst (pc' := 31) dX6_read_1.1.1.1.1 rfl ?_
    refine zW_istore_n (ls' := [_, _, _, _]) (pc' := 32) dX6_read_1.1.1.1.2 (by decide) rfl rfl rfl ?_
    refine zW_iconst (pc' := 33) dX6_read_1.1.1.2.1 rfl ?_
    refine zW_istore_n (ls' := [_, _, _, _]) (pc' := 34) dX6_read_1.1.1.2.2 (by decide) rfl rfl rfl ?_
    exact (main 10000000000000000000000000000000000000000) _ _ _ hF (by omega) (by omega) (by omega)
  · refine zW_iconst (pc' := 27) dX6_read_0.2.2.2.1 rfl ?_
    refine zV_goto 31 dX6_read_0.2.2.2.2 rfl ?_
    refine zW_istore_n (ls' := [_, _, _, _]) (pc' := 32) dX6_read_1.1.1.1.2 (by decide) rfl rfl rfl ?_
    refine zW_iconst (pc' := 33) dX6_read_1.1.1.2.1 rfl ?_
    refine zW_istore_n (ls' := [_, _, _, _]) (pc' := 34) dX6_read_1.1.1.2.2 (by decide) rfl rfl rfl ?_
    exact (main 10000000000000000000000000000000000000000) _ _ _ hF (by omega) (by omega) (by omega)
