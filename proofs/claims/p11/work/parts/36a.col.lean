/-! the colour of a square, as a number -/
theorem and1 {a : Int} : (Int32.ofInt a &&& Int32.ofInt 1).toInt = a % 2 := by
  have e1 : (Int32.ofInt a &&& Int32.ofInt 1).toBitVec.toNat = (a % 4294967296).toNat % 2 := by
    rw [Int32.toBitVec_and, BitVec.toNat_and]
    show (BitVec.ofInt 32 a).toNat &&& 1 = _
    rw [Nat.and_one_is_mod, BitVec.toNat_ofInt]
    rfl
  have e2 : (Int32.ofInt a &&& Int32.ofInt 1).toInt = ((Int32.ofInt a &&& Int32.ofInt 1).toBitVec).toInt := rfl
  rw [e2, BitVec.toInt_eq_toNat_of_lt (by rw [e1]; omega), e1]
  omega
theorem zW_iand1 {G : Ga} {μ : Mt} {Q : Int → Hp → Prop} {pc pc' : Nat} {ls : Lo} {st : List Sv} {h : Hp} {a : Int} (hd : decode μ.1 pc = .ok (.iand, 1)) (hn : pc + 1 = pc') (kk : ∀ v : Int, v = a % 2 → zV G μ Q pc' ls (.inl v :: st) h) : zV G μ Q pc ls (.inl 1 :: .inl a :: st) h := by
  subst hn
  intro p e s m args below meth c0 H locs lsA C hP hS hL
  exact lv_iand C.1 C.2.1 hd (zV_any32 C hP hS hL (kk _ and1))

abbrev q_X12_colourAtV (κ h : Hp) (x1 : Int) (x2 : Int) : Int → Hp → Prop := fun r h' => h' = h ∧ (r = (x1 + κ 0 13) % 2 + (x2 + κ 0 13 / 2) % 2)
set_option maxHeartbeats 4000000 in
set_option maxRecDepth 20000 in
theorem s_X12_colourAtV {G : Ga} {b : Bool} {κ h : Hp} (hK : KR κ) (hF : Fr b κ h) (x1 : Int) (hx1 : 0 ≤ x1 ∧ x1 ≤ 31) (x2 : Int) (hx2 : 0 ≤ x2 ∧ x2 ≤ 31) : zM G mX12_colourAt yX12_colourAt [.inr (.inr 0), .inl x1, .inl x2] h (q_X12_colourAtV κ h x1 x2) := by
  have f_0_13 := KRp hK
  refine zM_of [some (.inr (.inr 0)), some (.inl x1), some (.inl x2), none, none] 2 rfl rfl (Nat.le_of_ble_eq_true rfl) rfl ?_
  refine zW_iload_n (pc' := 1) dX12_colourAt_0.1.1.1.1 rfl rfl ?_
  refine zW_aload_n (pc' := 2) dX12_colourAt_0.1.1.1.2 rfl rfl ?_
  refine zG_key (pc' := 5) hF rfl fg_X12_209 tb0 rfl dX12_colourAt_0.1.1.2.1 rfl ?_
  refine zW_iadd (pc' := 6) dX12_colourAt_0.1.1.2.2 rfl ?_
  refine zW_iconst (pc' := 7) dX12_colourAt_0.1.2.1.1 rfl ?_
  refine zW_irem (pc' := 8) (by omega) (by omega) dX12_colourAt_0.1.2.1.2 rfl ?_
  refine zW_istore_n (ls' := [_, _, _, _, _]) (pc' := 9) dX12_colourAt_0.1.2.2.1 (by decide) rfl rfl rfl ?_
  refine zW_iload_n (pc' := 10) dX12_colourAt_0.1.2.2.2 rfl rfl ?_
  refine zW_aload_n (pc' := 11) dX12_colourAt_0.2.1.1.1 rfl rfl ?_
  refine zG_key (pc' := 14) hF rfl fg_X12_209 tb0 rfl dX12_colourAt_0.2.1.1.2 rfl ?_
  refine zW_iconst (pc' := 15) dX12_colourAt_0.2.1.2.1 rfl ?_
  refine zW_idiv (pc' := 16) (by omega) (by omega) dX12_colourAt_0.2.1.2.2 rfl ?_
  refine zW_iadd (pc' := 17) dX12_colourAt_0.2.2.1.1 rfl ?_
  refine zW_iconst (pc' := 18) dX12_colourAt_0.2.2.1.2 rfl ?_
  refine zW_irem (pc' := 19) (by omega) (by omega) dX12_colourAt_0.2.2.2.1 rfl ?_
  refine zW_istore (ls' := [_, _, _, _, _]) (pc' := 21) dX12_colourAt_0.2.2.2.2 (by decide) rfl rfl rfl ?_
  refine zW_iload_n (pc' := 22) dX12_colourAt_1.1.1 rfl rfl ?_
  refine zW_iload (pc' := 24) dX12_colourAt_1.1.2 rfl rfl ?_
  refine zW_iadd (pc' := 25) dX12_colourAt_1.2.1 rfl ?_
  exact zV_iret rfl dX12_colourAt_1.2.2 ⟨rfl, by omega⟩

abbrev q_X5_colourOfV (κ h : Hp) (x1 : Int) (x2 : Int) : Int → Hp → Prop := fun r h' => h' = h ∧ (r = (x1 + κ 33 2) % 2 + (x2 + κ 33 2 / 2) % 2)
set_option maxHeartbeats 4000000 in
set_option maxRecDepth 20000 in
theorem s_X5_colourOfV {G : Ga} {b : Bool} {κ h : Hp} (hK : KC κ) (hF : Fr b κ h) (x1 : Int) (x2 : Int) : zM G mX5_colourOf yX5_colourOf [.inr (.inr 33), .inl x1, .inl x2] h (q_X5_colourOfV κ h x1 x2) := by
  have f_33_2 := KCp hK
  refine zM_of [some (.inr (.inr 33)), some (.inl x1), some (.inl x2), none, none] 2 rfl rfl (Nat.le_of_ble_eq_true rfl) rfl ?_
  refine zW_iload_n (pc' := 1) dX5_colourOf_0.1.1.1.1 rfl rfl ?_
  refine zW_aload_n (pc' := 2) dX5_colourOf_0.1.1.1.2 rfl rfl ?_
  refine zG_key (pc' := 5) hF rfl fg_X5_25 tb33 rfl dX5_colourOf_0.1.1.2.1 rfl ?_
  refine zW_iadd (pc' := 6) dX5_colourOf_0.1.1.2.2 rfl ?_
  refine zW_iconst (pc' := 7) dX5_colourOf_0.1.2.1.1 rfl ?_
  refine zW_iand1 (pc' := 8) dX5_colourOf_0.1.2.1.2 rfl (fun v7 e7 => ?_)
  refine zW_istore_n (ls' := [_, _, _, _, _]) (pc' := 9) dX5_colourOf_0.1.2.2.1 (by decide) rfl rfl rfl ?_
  refine zW_iload_n (pc' := 10) dX5_colourOf_0.1.2.2.2 rfl rfl ?_
  refine zW_aload_n (pc' := 11) dX5_colourOf_0.2.1.1.1 rfl rfl ?_
  refine zG_key (pc' := 14) hF rfl fg_X5_25 tb33 rfl dX5_colourOf_0.2.1.1.2 rfl ?_
  refine zW_iconst (pc' := 15) dX5_colourOf_0.2.1.2.1 rfl ?_
  refine zW_idiv (pc' := 16) (by omega) (by omega) dX5_colourOf_0.2.1.2.2 rfl ?_
  refine zW_iadd (pc' := 17) dX5_colourOf_0.2.2.1.1 rfl ?_
  refine zW_iconst (pc' := 18) dX5_colourOf_0.2.2.1.2 rfl ?_
  refine zW_iand1 (pc' := 19) dX5_colourOf_0.2.2.2.1 rfl (fun v18 e18 => ?_)
  refine zW_istore (ls' := [_, _, _, _, _]) (pc' := 21) dX5_colourOf_0.2.2.2.2 (by decide) rfl rfl rfl ?_
  refine zW_iload_n (pc' := 22) dX5_colourOf_1.1.1.1.1 rfl rfl ?_
  refine zW_iload (pc' := 24) dX5_colourOf_1.1.1.1.2 rfl rfl ?_
  refine zV_cm_ne (tgt := 33) (pc' := 27) dX5_colourOf_1.1.1.2 rfl rfl ⟨by omega, by omega⟩ ⟨by omega, by omega⟩ (fun c24 => ?_) (fun c24 => ?_)
  · refine zW_iconst (pc' := 34) dX5_colourOf_1.2.2.1 rfl ?_
    exact zV_iret rfl dX5_colourOf_1.2.2.2 ⟨rfl, by omega⟩
  · refine zW_iconst (pc' := 28) dX5_colourOf_1.1.2.1 rfl ?_
    refine zW_iload_n (pc' := 29) dX5_colourOf_1.1.2.2 rfl rfl ?_
    refine zW_imul (pc' := 30) dX5_colourOf_1.2.1.1 rfl ?_
    refine zV_goto 34 dX5_colourOf_1.2.1.2 rfl ?_
    exact zV_iret rfl dX5_colourOf_1.2.2.2 ⟨rfl, by omega⟩

abbrev q_X12_colourV (κ h : Hp) (x1 : Int) (x2 : Int) : Int → Hp → Prop := fun r h' => h' = h ∧ ((0 ≤ x1 ∧ x1 < κ 0 11 ∧ 0 ≤ x2 ∧ x2 < κ 0 12 ∧ r = (x1 + κ 0 13) % 2 + (x2 + κ 0 13 / 2) % 2) ∨ (¬ (0 ≤ x1 ∧ x1 < κ 0 11 ∧ 0 ≤ x2 ∧ x2 < κ 0 12) ∧ r = -1))
set_option maxHeartbeats 4000000 in
set_option maxRecDepth 20000 in
theorem s_X12_colourV {G : Ga} {b : Bool} {κ h : Hp} (hK : KR κ) (hF : Fr b κ h) (x1 : Int) (hx1 : rng x1) (x2 : Int) (hx2 : rng x2) : zM G mX12_colour yX12_colour [.inr (.inr 0), .inl x1, .inl x2] h (q_X12_colourV κ h x1 x2) := by
  have f_0_11 := KRw hK
  have f_0_12 := KRh hK
  unfold rng at hx1
  unfold rng at hx2
  refine zM_of [some (.inr (.inr 0)), some (.inl x1), some (.inl x2)] 0 rfl rfl (Nat.le_of_ble_eq_true rfl) rfl ?_
  refine zW_aload_n (pc' := 1) dX12_colour_0.1.1.1.1 rfl rfl ?_
  refine zW_iload_n (pc' := 2) dX12_colour_0.1.1.1.2 rfl rfl ?_
  refine zW_iload_n (pc' := 3) dX12_colour_0.1.1.2 rfl rfl ?_
  refine cvI2 (pc' := 6) kX12_isSquare vX12_isSquare lk_X12_218 ⟨Nat.le_of_ble_eq_true rfl, Nat.le_of_ble_eq_true rfl⟩ tb0 vq12 rfl rfl (s_X12_isSquare hK hF _ ⟨by omega, by omega⟩ _ ⟨by omega, by omega⟩) dX12_colour_0.1.2.1.1 (Nat.le_of_ble_eq_true rfl) rfl ?_
  rintro r3 z3 ⟨hz3, p3⟩; subst z3
  refine zV_if_eq (tgt := 18) (pc' := 9) dX12_colour_0.1.2.1.2 rfl rfl ⟨by omega, by omega⟩ (fun c6 => ?_) (fun c6 => ?_)
  · refine zW_iconst (pc' := 19) dX12_colour_0.2.2.1.2 rfl ?_
    exact zV_iret rfl dX12_colour_0.2.2.2 ⟨rfl, by omega⟩
  · refine zW_aload_n (pc' := 10) dX12_colour_0.1.2.2 rfl rfl ?_
    refine zW_iload_n (pc' := 11) dX12_colour_0.2.1.1.1 rfl rfl ?_
    refine zW_iload_n (pc' := 12) dX12_colour_0.2.1.1.2 rfl rfl ?_
    refine cvI2 (pc' := 15) kX12_colourAt vX12_colourAt lk_X12_225 ⟨Nat.le_of_ble_eq_true rfl, Nat.le_of_ble_eq_true rfl⟩ tb0 vq12 rfl rfl (s_X12_colourAtV hK hF _ ⟨by omega, by omega⟩ _ ⟨by omega, by omega⟩) dX12_colour_0.2.1.2 (Nat.le_of_ble_eq_true rfl) rfl ?_
    rintro r12 z12 ⟨hz12, p12⟩; subst z12
    refine zV_goto 19 dX12_colour_0.2.2.1.1 rfl ?_
    exact zV_iret rfl dX12_colour_0.2.2.2 ⟨rfl, by omega⟩

abbrev q_X11_colourV (κ h : Hp) (x1 : Int) (x2 : Int) : Int → Hp → Prop := fun r h' => h' = h ∧ ((0 ≤ x1 ∧ x1 < κ 33 0 ∧ 0 ≤ x2 ∧ x2 < κ 33 1 ∧ r = (x1 + κ 33 2) % 2 + (x2 + κ 33 2 / 2) % 2) ∨ (¬ (0 ≤ x1 ∧ x1 < κ 33 0 ∧ 0 ≤ x2 ∧ x2 < κ 33 1) ∧ r = -1))
set_option maxHeartbeats 4000000 in
set_option maxRecDepth 20000 in
theorem s_X11_colourV {G : Ga} {b : Bool} {κ h : Hp} (hK : KC κ) (hF : Fr b κ h) (x1 : Int) (hx1 : rng x1) (x2 : Int) (hx2 : rng x2) : zM G mX11_colour yX11_colour [.inr (.inr 30), .inl x1, .inl x2] h (q_X11_colourV κ h x1 x2) := by
  have f_33_0 := KCw hK
  have f_33_1 := KCh hK
  unfold rng at hx1
  unfold rng at hx2
  refine zM_of [some (.inr (.inr 30)), some (.inl x1), some (.inl x2)] 0 rfl rfl (Nat.le_of_ble_eq_true rfl) rfl ?_
  refine zW_aload_n (pc' := 1) dX11_colour_0.1.1.1.1 rfl rfl ?_
  refine zG_ref (pc' := 4) 33 fg_X11_19 tb30 rfl dX11_colour_0.1.1.1.2 rfl ?_
  refine zW_iload_n (pc' := 5) dX11_colour_0.1.1.2.1 rfl rfl ?_
  refine zW_iload_n (pc' := 6) dX11_colour_0.1.1.2.2 rfl rfl ?_
  refine cvI2 (pc' := 9) kX5_has vX5_has lk_X11_140 ⟨Nat.le_of_ble_eq_true rfl, Nat.le_of_ble_eq_true rfl⟩ tb33 vq5 rfl rfl (s_X5_has hK hF _ ⟨by omega, by omega⟩ _ ⟨by omega, by omega⟩) dX11_colour_0.1.2.1.1 (Nat.le_of_ble_eq_true rfl) rfl ?_
  rintro r6 z6 ⟨hz6, p6⟩; subst z6
  refine zV_if_eq (tgt := 24) (pc' := 12) dX11_colour_0.1.2.1.2 rfl rfl ⟨by omega, by omega⟩ (fun c9 => ?_) (fun c9 => ?_)
  · refine zW_iconst (pc' := 25) dX11_colour_0.2.2.1.2 rfl ?_
    exact zV_iret rfl dX11_colour_0.2.2.2 ⟨rfl, by omega⟩
  · refine zW_aload_n (pc' := 13) dX11_colour_0.1.2.2 rfl rfl ?_
    refine zG_ref (pc' := 16) 33 fg_X11_19 tb30 rfl dX11_colour_0.2.1.1.1 rfl ?_
    refine zW_iload_n (pc' := 17) dX11_colour_0.2.1.1.2 rfl rfl ?_
    refine zW_iload_n (pc' := 18) dX11_colour_0.2.1.2.1 rfl rfl ?_
    refine cvI2 (pc' := 21) kX5_colourOf vX5_colourOf lk_X11_166 ⟨Nat.le_of_ble_eq_true rfl, Nat.le_of_ble_eq_true rfl⟩ tb33 vq5 rfl rfl (s_X5_colourOfV hK hF _ _) dX11_colour_0.2.1.2.2 (Nat.le_of_ble_eq_true rfl) rfl ?_
    rintro r18 z18 ⟨hz18, p18⟩; subst z18
    refine zV_goto 25 dX11_colour_0.2.2.1.1 rfl ?_
    exact zV_iret rfl dX11_colour_0.2.2.2 ⟨rfl, by omega⟩
