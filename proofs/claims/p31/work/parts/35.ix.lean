abbrev q_J1_canEncode_9a6ad (κ h : Hp) (x1 : Int) : Int → Hp → Prop := fun r h' => h' = h ∧ ((0 ≤ r) ∧ (r ≤ 1))
set_option maxHeartbeats 4000000 in
set_option maxRecDepth 20000 in
theorem s_J1_canEncode_9a6ad {G : Ga} {b : Bd} {κ h : Hp} (hF : Fr b κ h) (x1 : Int) (hx1 : rng x1) : zM G mJ1_canEncode_9a6ad yJ1_canEncode_9a6ad [.inl x1] h (q_J1_canEncode_9a6ad κ h x1) := by
  unfold rng at hx1
  refine zM_of [some (.inl x1)] 0 (by decide +kernel) rfl (Nat.le_of_ble_eq_true rfl) rfl ?_
  refine zW_iload_n (pc' := 1) dJ1_canEncode_9a6ad_0.1.1.1.1 rfl rfl ?_
  refine zV_if_lt (tgt := 15) (pc' := 4) dJ1_canEncode_9a6ad_0.1.1.1.2 rfl rfl ⟨by omega, by omega⟩ (fun c1 => ?_) (fun c1 => ?_)
  · refine zW_iconst (pc' := 16) dJ1_canEncode_9a6ad_0.2.2.1 rfl ?_
    exact zV_zret rfl (by omega) dJ1_canEncode_9a6ad_0.2.2.2 ⟨rfl, by omega⟩
  · refine zW_iload_n (pc' := 5) dJ1_canEncode_9a6ad_0.1.1.2 rfl rfl ?_
    refine zW_sipush (pc' := 8) dJ1_canEncode_9a6ad_0.1.2.1 rfl rfl ?_
    refine zV_cm_gt (tgt := 15) (pc' := 11) dJ1_canEncode_9a6ad_0.1.2.2 rfl rfl ⟨by omega, by omega⟩ ⟨by omega, by omega⟩ (fun c8 => ?_) (fun c8 => ?_)
    · refine zW_iconst (pc' := 16) dJ1_canEncode_9a6ad_0.2.2.1 rfl ?_
      exact zV_zret rfl (by omega) dJ1_canEncode_9a6ad_0.2.2.2 ⟨rfl, by omega⟩
    · refine zW_iconst (pc' := 12) dJ1_canEncode_9a6ad_0.2.1.1 rfl ?_
      refine zV_goto 16 dJ1_canEncode_9a6ad_0.2.1.2 rfl ?_
      exact zV_zret rfl (by omega) dJ1_canEncode_9a6ad_0.2.2.2 ⟨rfl, by omega⟩

abbrev q_J0_coder_7d493S0 (κ h : Hp)  : Int → Hp → Prop := fun r h' => h' = h ∧ ((0 ≤ r) ∧ (r ≤ 0))
set_option maxHeartbeats 4000000 in
set_option maxRecDepth 20000 in
theorem s_J0_coder_7d493S0 {G : Ga} {b : Bd} {κ h : Hp} (hF : Fr b κ h) (hX : XI G) : zM G mJ0_coder_7d493 yJ0_coder_7d493 [.inr (.inr 106)] h (q_J0_coder_7d493S0 κ h) := by
  refine zM_of [some (.inr (.inr 106))] 0 (by decide +kernel) rfl (Nat.le_of_ble_eq_true rfl) rfl ?_
  refine zV_gsc (pc' := 3) hX w_COMPACT dJ0_coder_7d493_0.1.1.1 rfl ?_
  refine zV_if_eq (tgt := 13) (pc' := 6) dJ0_coder_7d493_0.1.1.2 rfl rfl ⟨by omega, by omega⟩ (fun c3 => ?_) (fun c3 => ?_)
  · exfalso; omega
  · refine zW_aload_n (pc' := 7) dJ0_coder_7d493_0.1.2.1 rfl rfl ?_
    refine zV_scod (z := 0) (pc' := 10) hX (by decide) w_scoder dJ0_coder_7d493_0.1.2.2 rfl ?_
    refine zV_goto 14 dJ0_coder_7d493_0.2.1.1 rfl ?_
    exact zV_bret rfl (by omega) dJ0_coder_7d493_0.2.2 ⟨rfl, by omega⟩

abbrev q_J0_isLatin1_aae02S0 (κ h : Hp)  : Int → Hp → Prop := fun r h' => h' = h ∧ ((1 ≤ r) ∧ (r ≤ 1))
set_option maxHeartbeats 4000000 in
set_option maxRecDepth 20000 in
theorem s_J0_isLatin1_aae02S0 {G : Ga} {b : Bd} {κ h : Hp} (hF : Fr b κ h) (hX : XI G) : zM G mJ0_isLatin1_aae02 yJ0_isLatin1_aae02 [.inr (.inr 106)] h (q_J0_isLatin1_aae02S0 κ h) := by
  refine zM_of [some (.inr (.inr 106))] 0 (by decide +kernel) rfl (Nat.le_of_ble_eq_true rfl) rfl ?_
  refine zV_gsc (pc' := 3) hX w_COMPACT dJ0_isLatin1_aae02_0.1.1.1.1 rfl ?_
  refine zV_if_eq (tgt := 17) (pc' := 6) dJ0_isLatin1_aae02_0.1.1.1.2 rfl rfl ⟨by omega, by omega⟩ (fun c3 => ?_) (fun c3 => ?_)
  · exfalso; omega
  · refine zW_aload_n (pc' := 7) dJ0_isLatin1_aae02_0.1.1.2 rfl rfl ?_
    refine zV_scod (z := 0) (pc' := 10) hX (by decide) w_scoder dJ0_isLatin1_aae02_0.1.2.1 rfl ?_
    refine zV_if_ne (tgt := 17) (pc' := 13) dJ0_isLatin1_aae02_0.1.2.2 rfl rfl ⟨by omega, by omega⟩ (fun c10 => ?_) (fun c10 => ?_)
    · exfalso; omega
    · refine zW_iconst (pc' := 14) dJ0_isLatin1_aae02_0.2.1.1 rfl ?_
      refine zV_goto 18 dJ0_isLatin1_aae02_0.2.1.2 rfl ?_
      exact zV_zret rfl (by omega) dJ0_isLatin1_aae02_0.2.2.2 ⟨rfl, by omega⟩

abbrev q_J0_length_8abf5S0 (κ h : Hp)  : Int → Hp → Prop := fun r h' => h' = h ∧ ((15 ≤ r) ∧ (r ≤ 15))
set_option maxHeartbeats 4000000 in
set_option maxRecDepth 20000 in
theorem s_J0_length_8abf5S0 {G : Ga} {b : Bd} {κ h : Hp} (hF : Fr b κ h) (hX : XI G) : zM G mJ0_length_8abf5 yJ0_length_8abf5 [.inr (.inr 106)] h (q_J0_length_8abf5S0 κ h) := by
  refine zM_of [some (.inr (.inr 106))] 0 (by decide +kernel) rfl (Nat.le_of_ble_eq_true rfl) rfl ?_
  refine zW_aload_n (pc' := 1) dJ0_length_8abf5_0.1.1.1 rfl rfl ?_
  refine zV_sval (z := 0) (pc' := 4) hX (by decide) w_svalue dJ0_length_8abf5_0.1.1.2 rfl ?_
  refine zV_sblen0 (pc' := 5) hX dJ0_length_8abf5_0.1.2.1 rfl ?_
  refine zW_aload_n (pc' := 6) dJ0_length_8abf5_0.1.2.2 rfl rfl ?_
  refine cwI0 (z := 0) hX (by decide) rfl (pc' := 9) kJ0_coder_7d493 vJ0_coder_7d493 lk_J0_335 ⟨Nat.le_of_ble_eq_true rfl, Nat.le_of_ble_eq_true rfl⟩ rfl (s_J0_coder_7d493S0 hF hX) dJ0_length_8abf5_0.2.1.1 (Nat.le_of_ble_eq_true rfl) rfl ?_
  rintro r6 z6 ⟨hz6, p6⟩; subst z6
  have z6 : r6 = 0 := by omega
  subst z6
  refine zW_ishrE (pc' := 10) ⟨by omega, by omega⟩ ⟨by omega, by omega⟩ dJ0_length_8abf5_0.2.1.2 rfl ?_
  exact zV_iret rfl dJ0_length_8abf5_0.2.2 ⟨rfl, by decide⟩





abbrev q_J0_coder_7d493S1 (κ h : Hp)  : Int → Hp → Prop := fun r h' => h' = h ∧ ((0 ≤ r) ∧ (r ≤ 0))
set_option maxHeartbeats 4000000 in
set_option maxRecDepth 20000 in
theorem s_J0_coder_7d493S1 {G : Ga} {b : Bd} {κ h : Hp} (hF : Fr b κ h) (hX : XI G) : zM G mJ0_coder_7d493 yJ0_coder_7d493 [.inr (.inr 107)] h (q_J0_coder_7d493S1 κ h) := by
  refine zM_of [some (.inr (.inr 107))] 0 (by decide +kernel) rfl (Nat.le_of_ble_eq_true rfl) rfl ?_
  refine zV_gsc (pc' := 3) hX w_COMPACT dJ0_coder_7d493_0.1.1.1 rfl ?_
  refine zV_if_eq (tgt := 13) (pc' := 6) dJ0_coder_7d493_0.1.1.2 rfl rfl ⟨by omega, by omega⟩ (fun c3 => ?_) (fun c3 => ?_)
  · exfalso; omega
  · refine zW_aload_n (pc' := 7) dJ0_coder_7d493_0.1.2.1 rfl rfl ?_
    refine zV_scod (z := 1) (pc' := 10) hX (by decide) w_scoder dJ0_coder_7d493_0.1.2.2 rfl ?_
    refine zV_goto 14 dJ0_coder_7d493_0.2.1.1 rfl ?_
    exact zV_bret rfl (by omega) dJ0_coder_7d493_0.2.2 ⟨rfl, by omega⟩

abbrev q_J0_isLatin1_aae02S1 (κ h : Hp)  : Int → Hp → Prop := fun r h' => h' = h ∧ ((1 ≤ r) ∧ (r ≤ 1))
set_option maxHeartbeats 4000000 in
set_option maxRecDepth 20000 in
theorem s_J0_isLatin1_aae02S1 {G : Ga} {b : Bd} {κ h : Hp} (hF : Fr b κ h) (hX : XI G) : zM G mJ0_isLatin1_aae02 yJ0_isLatin1_aae02 [.inr (.inr 107)] h (q_J0_isLatin1_aae02S1 κ h) := by
  refine zM_of [some (.inr (.inr 107))] 0 (by decide +kernel) rfl (Nat.le_of_ble_eq_true rfl) rfl ?_
  refine zV_gsc (pc' := 3) hX w_COMPACT dJ0_isLatin1_aae02_0.1.1.1.1 rfl ?_
  refine zV_if_eq (tgt := 17) (pc' := 6) dJ0_isLatin1_aae02_0.1.1.1.2 rfl rfl ⟨by omega, by omega⟩ (fun c3 => ?_) (fun c3 => ?_)
  · exfalso; omega
  · refine zW_aload_n (pc' := 7) dJ0_isLatin1_aae02_0.1.1.2 rfl rfl ?_
    refine zV_scod (z := 1) (pc' := 10) hX (by decide) w_scoder dJ0_isLatin1_aae02_0.1.2.1 rfl ?_
    refine zV_if_ne (tgt := 17) (pc' := 13) dJ0_isLatin1_aae02_0.1.2.2 rfl rfl ⟨by omega, by omega⟩ (fun c10 => ?_) (fun c10 => ?_)
    · exfalso; omega
    · refine zW_iconst (pc' := 14) dJ0_isLatin1_aae02_0.2.1.1 rfl ?_
      refine zV_goto 18 dJ0_isLatin1_aae02_0.2.1.2 rfl ?_
      exact zV_zret rfl (by omega) dJ0_isLatin1_aae02_0.2.2.2 ⟨rfl, by omega⟩

abbrev q_J0_length_8abf5S1 (κ h : Hp)  : Int → Hp → Prop := fun r h' => h' = h ∧ ((9 ≤ r) ∧ (r ≤ 9))
set_option maxHeartbeats 4000000 in
set_option maxRecDepth 20000 in
theorem s_J0_length_8abf5S1 {G : Ga} {b : Bd} {κ h : Hp} (hF : Fr b κ h) (hX : XI G) : zM G mJ0_length_8abf5 yJ0_length_8abf5 [.inr (.inr 107)] h (q_J0_length_8abf5S1 κ h) := by
  refine zM_of [some (.inr (.inr 107))] 0 (by decide +kernel) rfl (Nat.le_of_ble_eq_true rfl) rfl ?_
  refine zW_aload_n (pc' := 1) dJ0_length_8abf5_0.1.1.1 rfl rfl ?_
  refine zV_sval (z := 1) (pc' := 4) hX (by decide) w_svalue dJ0_length_8abf5_0.1.1.2 rfl ?_
  refine zV_sblen1 (pc' := 5) hX dJ0_length_8abf5_0.1.2.1 rfl ?_
  refine zW_aload_n (pc' := 6) dJ0_length_8abf5_0.1.2.2 rfl rfl ?_
  refine cwI0 (z := 1) hX (by decide) rfl (pc' := 9) kJ0_coder_7d493 vJ0_coder_7d493 lk_J0_335 ⟨Nat.le_of_ble_eq_true rfl, Nat.le_of_ble_eq_true rfl⟩ rfl (s_J0_coder_7d493S1 hF hX) dJ0_length_8abf5_0.2.1.1 (Nat.le_of_ble_eq_true rfl) rfl ?_
  rintro r6 z6 ⟨hz6, p6⟩; subst z6
  have z6 : r6 = 0 := by omega
  subst z6
  refine zW_ishrE (pc' := 10) ⟨by omega, by omega⟩ ⟨by omega, by omega⟩ dJ0_length_8abf5_0.2.1.2 rfl ?_
  exact zV_iret rfl dJ0_length_8abf5_0.2.2 ⟨rfl, by decide⟩

abbrev q_J1_indexOfChar_4cfefS1 (κ h : Hp) (x2 : Int) (x3 : Int) (x4 : Int) : Int → Hp → Prop := fun r h' => h' = h ∧ ((-1 ≤ r) ∧ (r ≤ 8))
set_option maxHeartbeats 4000000 in
set_option maxRecDepth 20000 in
theorem s_J1_indexOfChar_4cfefS1 {G : Ga} {b : Bd} {κ h : Hp} (hF : Fr b κ h) (x2 : Int) (hx2 : rng x2) (x3 : Int) (hx3 : 0 ≤ x3 ∧ x3 ≤ 0) (x4 : Int) (hx4 : 0 ≤ x4 ∧ x4 ≤ 9) (hX : XI G) : zM G mJ1_indexOfChar_4cfef yJ1_indexOfChar_4cfef [.inr (.inr 109), .inl x2, .inl x3, .inl x4] h (q_J1_indexOfChar_4cfefS1 κ h x2 x3 x4) := by
  unfold rng at hx2
  have main : ∀ N : Nat, (∀ (v4 v5 : Int) , (-128 ≤ v4 ∧ v4 ≤ 127) → (0 ≤ v5 ∧ v5 ≤ 9) → 2640 + 16 * (9 - v5) + 15 < (N : Int) → zV G mJ1_indexOfChar_4cfef (q_J1_indexOfChar_4cfefS1 κ h x2 x3 x4) 7 [some (.inr (.inr 109)), some (.inl x2), some (.inl x3), some (.inl x4), some (.inl v4), some (.inl v5)] [] h) := by
    intro N
    induction N with
    | zero =>
      intro v4 v5 g0 g1 hm
      exfalso; omega
    | succ N ih =>
      have k7 := ih
      intro v4 v5 g0 g1 hm
      refine zW_iload (pc' := 9) dJ1_indexOfChar_4cfef_0.1.2.1.2 rfl rfl ?_
      refine zW_iload_n (pc' := 10) dJ1_indexOfChar_4cfef_0.1.2.2.1 rfl rfl ?_
      refine zV_cm_ge (tgt := 31) (pc' := 13) dJ1_indexOfChar_4cfef_0.1.2.2.2 rfl rfl ⟨by omega, by omega⟩ ⟨by omega, by omega⟩ (fun c10 => ?_) (fun c10 => ?_)
      · refine zW_iconst (pc' := 32) dJ1_indexOfChar_4cfef_1.1.2 rfl ?_
        exact zV_iret rfl dJ1_indexOfChar_4cfef_1.2 ⟨rfl, by omega⟩
      · refine zW_aload_n (pc' := 14) dJ1_indexOfChar_4cfef_0.2.1.1.1 rfl rfl ?_
        refine zW_iload (pc' := 16) dJ1_indexOfChar_4cfef_0.2.1.1.2 rfl rfl ?_
        refine zV_sbald (z := 1) (pc' := 17) hX (by decide) (show _ ∧ _ < ((9 : Nat) : Int) from (by omega)) dJ1_indexOfChar_4cfef_0.2.1.2.1 rfl (fun v16 e16 => ?_)
        unfold rng at e16
        refine zW_iload (pc' := 19) dJ1_indexOfChar_4cfef_0.2.1.2.2 rfl rfl ?_
        refine zV_cm_ne (tgt := 25) (pc' := 22) dJ1_indexOfChar_4cfef_0.2.2.1.1 rfl rfl ⟨by omega, by omega⟩ ⟨by omega, by omega⟩ (fun c19 => ?_) (fun c19 => ?_)
        · refine zW_iinc (ls' := [_, _, _, _, _, _]) (pc' := 28) dJ1_indexOfChar_4cfef_0.2.2.2.2 rfl (by decide) rfl rfl rfl ?_
          refine zV_goto 7 dJ1_indexOfChar_4cfef_1.1.1 rfl ?_
          exact k7 _ _ (by omega) (by omega) (by omega)
        · refine zW_iload (pc' := 24) dJ1_indexOfChar_4cfef_0.2.2.1.2 rfl rfl ?_
          exact zV_iret rfl dJ1_indexOfChar_4cfef_0.2.2.2.1 ⟨rfl, by omega⟩
  refine zM_of [some (.inr (.inr 109)), some (.inl x2), some (.inl x3), some (.inl x4), none, none] 2 (by decide +kernel) rfl (Nat.le_of_ble_eq_true rfl) rfl ?_
  refine zW_iload_n (pc' := 1) dJ1_indexOfChar_4cfef_0.1.1.1.1 rfl rfl ?_
  refine zW_i2b (pc' := 2) dJ1_indexOfChar_4cfef_0.1.1.1.2 rfl (fun v1 e1 => ?_)
  refine zW_istore (ls' := [_, _, _, _, _, _]) (pc' := 4) dJ1_indexOfChar_4cfef_0.1.1.2.1 (by decide) rfl rfl rfl ?_
  refine zW_iload_n (pc' := 5) dJ1_indexOfChar_4cfef_0.1.1.2.2 rfl rfl ?_
  refine zW_istore (ls' := [_, _, _, _, _, _]) (pc' := 7) dJ1_indexOfChar_4cfef_0.1.2.1.1 (by decide) rfl rfl rfl ?_
  exact (main 10000000000000000000000000000000000000000) _ _ (by omega) (by omega) (by omega)

abbrev q_J1_indexOf_4cfefS1 (κ h : Hp) (x2 : Int) (x3 : Int) (x4 : Int) : Int → Hp → Prop := fun r h' => h' = h ∧ ((-1 ≤ r) ∧ (r ≤ 8))
set_option maxHeartbeats 4000000 in
set_option maxRecDepth 20000 in
theorem s_J1_indexOf_4cfefS1 {G : Ga} {b : Bd} {κ h : Hp} (hF : Fr b κ h) (x2 : Int) (hx2 : rng x2) (x3 : Int) (hx3 : 0 ≤ x3 ∧ x3 ≤ 0) (x4 : Int) (hx4 : 9 ≤ x4 ∧ x4 ≤ 9) (hX : XI G) : zM G mJ1_indexOf_4cfef yJ1_indexOf_4cfef [.inr (.inr 109), .inl x2, .inl x3, .inl x4] h (q_J1_indexOf_4cfefS1 κ h x2 x3 x4) := by
  unfold rng at hx2
  refine zM_of [some (.inr (.inr 109)), some (.inl x2), some (.inl x3), some (.inl x4)] 0 (by decide +kernel) rfl (Nat.le_of_ble_eq_true rfl) rfl ?_
  refine zW_iload_n (pc' := 1) dJ1_indexOf_4cfef_0.1.1.1.1 rfl rfl ?_
  refine csI1 (pc' := 4) kJ1_canEncode_9a6ad vJ1_canEncode_9a6ad lk_J1_88 ⟨Nat.le_of_ble_eq_true rfl, Nat.le_of_ble_eq_true rfl⟩ rfl (s_J1_canEncode_9a6ad hF _ ⟨by omega, by omega⟩) dJ1_indexOf_4cfef_0.1.1.1.2 (Nat.le_of_ble_eq_true rfl) rfl ?_
  rintro r1 z1 ⟨hz1, p1⟩; subst z1
  refine zV_if_ne (tgt := 9) (pc' := 7) dJ1_indexOf_4cfef_0.1.1.2.1 rfl rfl ⟨by omega, by omega⟩ (fun c4 => ?_) (fun c4 => ?_)
  · refine zW_iload_n (pc' := 10) dJ1_indexOf_4cfef_0.1.2.1.2 rfl rfl ?_
    refine zW_iconst (pc' := 11) dJ1_indexOf_4cfef_0.1.2.2.1 rfl ?_
    refine zV_mmax (pc' := 14) km_J1_92 (Nat.le_of_ble_eq_true rfl) (Nat.le_of_ble_eq_true rfl) dJ1_indexOf_4cfef_0.1.2.2.2 rfl (fun v11 e11 => ?_)
    replace e11 := e11.2 ⟨by omega, by omega⟩ ⟨by omega, by omega⟩
    refine zW_istore_n (ls' := [_, _, _, _]) (pc' := 15) dJ1_indexOf_4cfef_0.2.1.1.1 (by decide) rfl rfl rfl ?_
    refine zW_iload_n (pc' := 16) dJ1_indexOf_4cfef_0.2.1.1.2 rfl rfl ?_
    refine zW_aload_n (pc' := 17) dJ1_indexOf_4cfef_0.2.1.2.1 rfl rfl ?_
    refine zV_sblen1 (pc' := 18) hX dJ1_indexOf_4cfef_0.2.1.2.2 rfl ?_
    refine zV_mmin (pc' := 21) km_J1_38 (Nat.le_of_ble_eq_true rfl) (Nat.le_of_ble_eq_true rfl) dJ1_indexOf_4cfef_0.2.2.1.1 rfl (fun v18 e18 => ?_)
    replace e18 := e18.2 ⟨by omega, by omega⟩ ⟨by omega, by omega⟩
    refine zW_istore_n (ls' := [_, _, _, _]) (pc' := 22) dJ1_indexOf_4cfef_0.2.2.1.2 (by decide) rfl rfl rfl ?_
    refine zW_iload_n (pc' := 23) dJ1_indexOf_4cfef_0.2.2.2.1 rfl rfl ?_
    refine zW_iload_n (pc' := 24) dJ1_indexOf_4cfef_0.2.2.2.2 rfl rfl ?_
    refine zV_cm_lt (tgt := 29) (pc' := 27) dJ1_indexOf_4cfef_1.1.1.1.1 rfl rfl ⟨by omega, by omega⟩ ⟨by omega, by omega⟩ (fun c24 => ?_) (fun c24 => ?_)
    · refine zW_aload_n (pc' := 30) dJ1_indexOf_4cfef_1.1.2.1 rfl rfl ?_
      refine zW_iload_n (pc' := 31) dJ1_indexOf_4cfef_1.1.2.2 rfl rfl ?_
      refine zW_iload_n (pc' := 32) dJ1_indexOf_4cfef_1.2.1.1 rfl rfl ?_
      refine zW_iload_n (pc' := 33) dJ1_indexOf_4cfef_1.2.1.2 rfl rfl ?_
      refine csI4 (pc' := 36) kJ1_indexOfChar_4cfef vJ1_indexOfChar_4cfef lk_J1_95 ⟨Nat.le_of_ble_eq_true rfl, Nat.le_of_ble_eq_true rfl⟩ rfl (s_J1_indexOfChar_4cfefS1 hF _ ⟨by omega, by omega⟩ _ ⟨by omega, by omega⟩ _ ⟨by omega, by omega⟩ hX) dJ1_indexOf_4cfef_1.2.2.1 (Nat.le_of_ble_eq_true rfl) rfl ?_
      rintro r33 z33 ⟨hz33, p33⟩; subst z33
      exact zV_iret rfl dJ1_indexOf_4cfef_1.2.2.2 ⟨rfl, by omega⟩
    · exfalso; omega
  · refine zW_iconst (pc' := 8) dJ1_indexOf_4cfef_0.1.1.2.2 rfl ?_
    exact zV_iret rfl dJ1_indexOf_4cfef_0.1.2.1.1 ⟨rfl, by omega⟩

abbrev q_J0_indexOf_7cf53S1 (κ h : Hp) (x1 : Int) (x2 : Int) : Int → Hp → Prop := fun r h' => h' = h ∧ ((-1 ≤ r) ∧ (r ≤ 8))
set_option maxHeartbeats 4000000 in
set_option maxRecDepth 20000 in
theorem s_J0_indexOf_7cf53S1 {G : Ga} {b : Bd} {κ h : Hp} (hF : Fr b κ h) (x1 : Int) (hx1 : rng x1) (x2 : Int) (hx2 : 0 ≤ x2 ∧ x2 ≤ 0) (hX : XI G) : zM G mJ0_indexOf_7cf53 yJ0_indexOf_7cf53 [.inr (.inr 107), .inl x1, .inl x2] h (q_J0_indexOf_7cf53S1 κ h x1 x2) := by
  unfold rng at hx1
  refine zM_of [some (.inr (.inr 107)), some (.inl x1), some (.inl x2)] 0 (by decide +kernel) rfl (Nat.le_of_ble_eq_true rfl) rfl ?_
  refine zW_aload_n (pc' := 1) dJ0_indexOf_7cf53_0.1.1.1.1 rfl rfl ?_
  refine cwI0 (z := 1) hX (by decide) rfl (pc' := 4) kJ0_isLatin1_aae02 vJ0_isLatin1_aae02 lk_J0_492 ⟨Nat.le_of_ble_eq_true rfl, Nat.le_of_ble_eq_true rfl⟩ rfl (s_J0_isLatin1_aae02S1 hF hX) dJ0_indexOf_7cf53_0.1.1.1.2 (Nat.le_of_ble_eq_true rfl) rfl ?_
  rintro r1 z1 ⟨hz1, p1⟩; subst z1
  refine zV_if_eq (tgt := 23) (pc' := 7) dJ0_indexOf_7cf53_0.1.1.2.1 rfl rfl ⟨by omega, by omega⟩ (fun c4 => ?_) (fun c4 => ?_)
  · exfalso; omega
  · refine zW_aload_n (pc' := 8) dJ0_indexOf_7cf53_0.1.1.2.2 rfl rfl ?_
    refine zV_sval (z := 1) (pc' := 11) hX (by decide) w_svalue dJ0_indexOf_7cf53_0.1.2.1.1 rfl ?_
    refine zW_iload_n (pc' := 12) dJ0_indexOf_7cf53_0.1.2.1.2 rfl rfl ?_
    refine zW_iload_n (pc' := 13) dJ0_indexOf_7cf53_0.1.2.2.1 rfl rfl ?_
    refine zW_aload_n (pc' := 14) dJ0_indexOf_7cf53_0.1.2.2.2 rfl rfl ?_
    refine cwI0 (z := 1) hX (by decide) rfl (pc' := 17) kJ0_length_8abf5 vJ0_length_8abf5 lk_J0_505 ⟨Nat.le_of_ble_eq_true rfl, Nat.le_of_ble_eq_true rfl⟩ rfl (s_J0_length_8abf5S1 hF hX) dJ0_indexOf_7cf53_0.2.1.1.1 (Nat.le_of_ble_eq_true rfl) rfl ?_
    rintro r14 z14 ⟨hz14, p14⟩; subst z14
    refine csI4 (pc' := 20) kJ1_indexOf_4cfef vJ1_indexOf_4cfef lk_J0_637 ⟨Nat.le_of_ble_eq_true rfl, Nat.le_of_ble_eq_true rfl⟩ rfl (s_J1_indexOf_4cfefS1 hF _ ⟨by omega, by omega⟩ _ ⟨by omega, by omega⟩ _ ⟨by omega, by omega⟩ hX) dJ0_indexOf_7cf53_0.2.1.1.2 (Nat.le_of_ble_eq_true rfl) rfl ?_
    rintro r17 z17 ⟨hz17, p17⟩; subst z17
    refine zV_goto 36 dJ0_indexOf_7cf53_0.2.1.2.1 rfl ?_
    exact zV_iret rfl dJ0_indexOf_7cf53_1.2 ⟨rfl, by omega⟩

abbrev q_J0_indexOf_0f7a4S1 (κ h : Hp) (x1 : Int) : Int → Hp → Prop := fun r h' => h' = h ∧ ((-1 ≤ r) ∧ (r ≤ 8))
set_option maxHeartbeats 4000000 in
set_option maxRecDepth 20000 in
theorem s_J0_indexOf_0f7a4S1 {G : Ga} {b : Bd} {κ h : Hp} (hF : Fr b κ h) (x1 : Int) (hx1 : rng x1) (hX : XI G) : zM G mJ0_indexOf_0f7a4 yJ0_indexOf_0f7a4 [.inr (.inr 107), .inl x1] h (q_J0_indexOf_0f7a4S1 κ h x1) := by
  unfold rng at hx1
  refine zM_of [some (.inr (.inr 107)), some (.inl x1)] 0 (by decide +kernel) rfl (Nat.le_of_ble_eq_true rfl) rfl ?_
  refine zW_aload_n (pc' := 1) dJ0_indexOf_0f7a4_0.1.1.1 rfl rfl ?_
  refine zW_iload_n (pc' := 2) dJ0_indexOf_0f7a4_0.1.1.2 rfl rfl ?_
  refine zW_iconst (pc' := 3) dJ0_indexOf_0f7a4_0.1.2 rfl ?_
  refine cwI2 (z := 1) hX (by decide) rfl (pc' := 6) kJ0_indexOf_7cf53 vJ0_indexOf_7cf53 lk_J0_633 ⟨Nat.le_of_ble_eq_true rfl, Nat.le_of_ble_eq_true rfl⟩ rfl (s_J0_indexOf_7cf53S1 hF _ ⟨by omega, by omega⟩ _ ⟨by omega, by omega⟩ hX) dJ0_indexOf_0f7a4_0.2.1 (Nat.le_of_ble_eq_true rfl) rfl ?_
  rintro r3 z3 ⟨hz3, p3⟩; subst z3
  exact zV_iret rfl dJ0_indexOf_0f7a4_0.2.2 ⟨rfl, by omega⟩




