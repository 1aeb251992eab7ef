/-! the dead squares, place by place -/
theorem zwr_pt {h : Hp} {k i j : Nat} {v x : Int} (e : x = zwr h k i v k j) : (j = i → x = v) ∧ (j ≠ i → x = h k j) := by
  refine ⟨fun q => ?_, fun q => ?_⟩
  · subst q; exact e.trans zwr_eq
  · exact e.trans (zwr_ne (Or.inr q))
theorem zcp_pt {h : Hp} {a c n j : Nat} {x : Int} (e : x = zcp h a c 0 n c j) : (j < n → x = h a j) ∧ (n ≤ j → x = h c j) := by
  refine ⟨fun q => ?_, fun q => ?_⟩
  · exact e.trans (zcp_in ⟨Nat.zero_le _, by omega⟩)
  · exact e.trans (zcp_out (by omega))
/-- how many of the first n are not 0 -/
def cntZ (f : Nat → Int) : Nat → Int
  | 0 => 0
  | n + 1 => cntZ f n + (if f n = 0 then 0 else 1)
theorem cntZ_step {f : Nat → Int} {v : Int} (h : 0 ≤ v) : cntZ f (v + 1).toNat = cntZ f v.toNat + (if f v.toNat = 0 then 0 else 1) := by
  rw [show (v + 1).toNat = v.toNat + 1 by omega]
  rfl
/-- a row's sum, and the sum of rows -/
def smR (f : Nat → Int) (y : Nat) : Nat → Int
  | 0 => 0
  | n + 1 => smR f y n + f (16 * y + n)
def smS (f : Nat → Int) (w : Nat) : Nat → Int
  | 0 => 0
  | n + 1 => smS f w n + smR f n w
theorem smR_step {f : Nat → Int} {y v : Int} (hy : 0 ≤ y) (h : 0 ≤ v) : smR f y.toNat (v + 1).toNat = smR f y.toNat v.toNat + f (y * 16 + v).toNat := by
  rw [show (v + 1).toNat = v.toNat + 1 by omega, show (y * 16 + v).toNat = 16 * y.toNat + v.toNat by omega]
  rfl
theorem smS_step {f : Nat → Int} {w : Nat} {v : Int} (h : 0 ≤ v) : smS f w (v + 1).toNat = smS f w v.toNat + smR f v.toNat w := by
  rw [show (v + 1).toNat = v.toNat + 1 by omega]
  rfl
theorem smR_cong {f g : Nat → Int} {y : Nat} : ∀ n, n ≤ 16 → (∀ x, x < n → f (16 * y + x) = g (16 * y + x)) → smR f y n = smR g y n
  | 0, _, _ => rfl
  | n + 1, hn, h => by
    show smR f y n + f (16 * y + n) = smR g y n + g (16 * y + n)
    rw [smR_cong n (by omega) (fun x hx => h x (by omega)), h n (by omega)]
theorem smR_more {f : Nat → Int} {y w : Nat} : ∀ n, (∀ x, w ≤ x → x < w + n → f (16 * y + x) = 0) → smR f y (w + n) = smR f y w
  | 0, _ => rfl
  | n + 1, h => by
    show smR f y (w + n) + f (16 * y + (w + n)) = smR f y w
    rw [smR_more n (fun x h1 h2 => h x h1 (by omega)), h (w + n) (by omega) (by omega)]
    omega
theorem smR_zero {f : Nat → Int} {y : Nat} : ∀ n, (∀ x, x < n → f (16 * y + x) = 0) → smR f y n = 0
  | 0, _ => rfl
  | n + 1, h => by
    show smR f y n + f (16 * y + n) = 0
    rw [smR_zero n (fun x hx => h x (by omega)), h n (by omega)]
    rfl
theorem smS_cong {f g : Nat → Int} {w w' : Nat} : ∀ n, (∀ y, y < n → smR f y w = smR g y w') → smS f w n = smS g w' n
  | 0, _ => rfl
  | n + 1, h => by
    show smS f w n + smR f n w = smS g w' n + smR g n w'
    rw [smS_cong n (fun y hy => h y (by omega)), h n (by omega)]
theorem smS_more {f : Nat → Int} {w h : Nat} : ∀ n, (∀ y, h ≤ y → y < h + n → smR f y w = 0) → smS f w (h + n) = smS f w h
  | 0, _ => rfl
  | n + 1, e => by
    show smS f w (h + n) + smR f (h + n) w = smS f w h
    rw [smS_more n (fun y h1 h2 => e y h1 (by omega)), e (h + n) (by omega) (by omega)]
    omega
theorem cnt_row {f : Nat → Int} (hb : ∀ j, f j = 0 ∨ f j = 1) (y : Nat) : ∀ n, cntZ f (16 * y + n) = cntZ f (16 * y) + smR f y n
  | 0 => by show cntZ f (16 * y) = cntZ f (16 * y) + 0; omega
  | n + 1 => by
    show cntZ f (16 * y + n) + (if f (16 * y + n) = 0 then 0 else 1) = cntZ f (16 * y) + (smR f y n + f (16 * y + n))
    rw [cnt_row hb y n]
    rcases hb (16 * y + n) with e | e
    · rw [if_pos e]; omega
    · rw [if_neg (by omega)]; omega
theorem cnt_all {f : Nat → Int} (hb : ∀ j, f j = 0 ∨ f j = 1) : ∀ n, cntZ f (16 * n) = smS f 16 n
  | 0 => rfl
  | n + 1 => by
    rw [show 16 * (n + 1) = 16 * n + 16 by omega, cnt_row hb n 16, cnt_all hb n]
    rfl
/-- counted over all, or summed over the squares that there are -/
theorem cnt_sum {f g : Nat → Int} {W H : Nat} (hb : ∀ j, f j = 0 ∨ f j = 1) (hW : W ≤ 16) (hH : H ≤ 16) (he : ∀ j, j < 256 → f j = g j) (h0 : ∀ j, j < 256 → (W ≤ j % 16 ∨ H ≤ j / 16) → f j = 0) : cntZ f 256 = smS g W H := by
  rw [show (256 : Nat) = 16 * 16 from rfl, cnt_all hb 16]
  have e1 : smS f 16 16 = smS f 16 H := by
    have := smS_more (f := f) (w := 16) (h := H) (16 - H) (fun y h1 h2 => smR_zero 16 (fun x hx => h0 _ (by omega) (Or.inr (by omega))))
    rwa [show H + (16 - H) = 16 by omega] at this
  rw [e1]
  refine smS_cong H (fun y hy => ?_)
  have e2 : smR f y 16 = smR f y W := by
    have := smR_more (f := f) (y := y) (w := W) (16 - W) (fun x h1 h2 => h0 _ (by omega) (Or.inl (by omega)))
    rwa [show W + (16 - W) = 16 by omega] at this
  rw [e2]
  exact smR_cong W hW (fun x hx => he _ (by omega))

abbrev q_X12_rawD (κ : Hp) (x1 : Int) (x2 : Int) (x3 : Int) : Int → Hp → Prop := fun r h' => Fm [(0, 11), (0, 12), (0, 13), (1, 999), (10, 999), (0, 21)] κ h' ∧ ((0 ≤ r) ∧ (r ≤ 1) ∧ ((r = 1 ∧ (4 ≤ x1 ∧ x1 ≤ 16 ∧ x1 % 2 = 0) ∧ (4 ≤ x2 ∧ x2 ≤ 16 ∧ x2 % 2 = 0) ∧ (0 ≤ x3 ∧ x3 ≤ 3) ∧ h' 0 11 = x1 ∧ h' 0 12 = x2 ∧ h' 0 13 = x3) ∨ (r = 0 ∧ ¬ ((4 ≤ x1 ∧ x1 ≤ 16 ∧ x1 % 2 = 0) ∧ (4 ≤ x2 ∧ x2 ≤ 16 ∧ x2 % 2 = 0) ∧ (0 ≤ x3 ∧ x3 ≤ 3)) ∧ h' 0 11 = κ 0 11 ∧ h' 0 12 = κ 0 12 ∧ h' 0 13 = κ 0 13)) ∧ (∀ j : Nat, (r = 1 → j < 256 → h' 10 j = 0) ∧ (r = 0 → h' 10 j = κ 10 j)))
set_option maxHeartbeats 4000000 in
set_option maxRecDepth 20000 in
theorem s_X12_rawD {G : Ga} {κ : Hp} (hS : SI κ) (hR : KR κ) (hC : KC κ) (x1 : Int) (hx1 : rng x1) (x2 : Int) (hx2 : rng x2) (x3 : Int) (hx3 : rng x3) : zM G mX12_raw yX12_raw [.inr (.inr 0), .inl x1, .inl x2, .inl x3] κ (q_X12_rawD κ x1 x2 x3) := by
  have f_0_11 := KRw hR
  have f_0_12 := KRh hR
  have f_0_13 := KRp hR
  unfold rng at hx1
  unfold rng at hx2
  unfold rng at hx3
  have main : ∀ N : Nat, (∀ (v4 : Int) (h : Hp), Fm [(0, 11), (0, 12), (0, 13), (1, 999), (10, 999), (0, 21)] κ h → (4 ≤ x1 ∧ x1 ≤ 16) → (4 ≤ x2 ∧ x2 ≤ 16) → (0 ≤ x3 ∧ x3 ≤ 3) → (0 ≤ v4 ∧ v4 ≤ 256) → (h 0 11 = x1 ∧ h 0 12 = x2 ∧ h 0 13 = x3) → (x1 % 2 = 0 ∧ x2 % 2 = 0) → (∀ j : Nat, (j : Int) < v4 → h 10 j = 0) → 130548 + 23 * (256 - v4) + 22 < (N : Int) → zV G mX12_raw (q_X12_rawD κ x1 x2 x3) 63 [some (.inr (.inr 0)), some (.inl x1), some (.inl x2), some (.inl x3), some (.inl v4)] [] h) := by
    intro N
    induction N with
    | zero =>
      intro v4 h hF g0 g1 g2 g3 gc0 gc1 gc2 hm
      exfalso; omega
    | succ N ih =>
      have k63 := ih
      intro v4 h hF g0 g1 g2 g3 gc0 gc1 gc2 hm
      refine zW_iload (pc' := 65) dX12_raw_2.1.2.2.1 rfl rfl ?_
      refine zW_sipush (pc' := 68) dX12_raw_2.1.2.2.2 rfl rfl ?_
      refine zV_cm_ge (tgt := 93) (pc' := 71) dX12_raw_2.2.1.1.1 rfl rfl ⟨by omega, by omega⟩ ⟨by omega, by omega⟩ (fun c68 => ?_) (fun c68 => ?_)
      · refine zW_aload_n (pc' := 94) dX12_raw_3.2.1.1 rfl rfl ?_
        refine cvV0 (pc' := 97) kX12_changed vX12_changed lk_X12_215 ⟨Nat.le_of_ble_eq_true rfl, Nat.le_of_ble_eq_true rfl⟩ tb0 vq12 rfl rfl (s_X12_changed hF.2.1 hF.2.2.1 hF.2.2.2) dX12_raw_3.2.1.2 (Nat.le_of_ble_eq_true rfl) rfl ?_
        rintro r94 h ⟨hF1, p94⟩; replace hF := hF.tr hF1 rfl
        have f94_10 := fun j : Nat => hF1.1 10 j rfl rfl
        have t94_0_11 := hF1.1 0 11 rfl rfl
        have t94_0_12 := hF1.1 0 12 rfl rfl
        have t94_0_13 := hF1.1 0 13 rfl rfl
        refine zW_iconst (pc' := 98) dX12_raw_3.2.2.1 rfl ?_
        exact zV_zret rfl (by omega) dX12_raw_3.2.2.2 ⟨hF, ⟨by omega, by omega, by omega, (fun j => by have q0 := gc2 j; have q1 := f94_10 j; omega)⟩⟩
      · refine zW_aload_n (pc' := 72) dX12_raw_2.2.1.1.2 rfl rfl ?_
        refine zG_ref (pc' := 75) 1 fg_X12_7 tb0 rfl dX12_raw_2.2.1.2.1 rfl ?_
        refine zW_iload (pc' := 77) dX12_raw_2.2.1.2.2 rfl rfl ?_
        refine zW_iconst (pc' := 78) dX12_raw_2.2.2.1.1 rfl ?_
        refine zSm (pc' := 79) hF rfl (fun v' hv he => ⟨(SI_irr hF.2.1 (Or.inl (key_of rfl _)) (fun _ _ => hv)), (KR_irr hF.2.2.1 rfl), (KC_irr hF.2.2.2 rfl)⟩) tb1 (by omega) dX12_raw_2.2.2.1.2 (by decide) rfl (fun h i78 hF a78 b78 w78 => ?_)
        have a78_10 := fun j : Nat => (congrFun (congrFun w78 10) j).trans (zwr_ne (Or.inl (by decide)))
        have t78_0_11 := congrFun (congrFun w78 0) 11
        rw [zwr_ne (Or.inl (by decide))] at t78_0_11
        have t78_0_12 := congrFun (congrFun w78 0) 12
        rw [zwr_ne (Or.inl (by decide))] at t78_0_12
        have t78_0_13 := congrFun (congrFun w78 0) 13
        rw [zwr_ne (Or.inl (by decide))] at t78_0_13
        refine zW_aload_n (pc' := 80) dX12_raw_2.2.2.2.1 rfl rfl ?_
        refine zG_ref (pc' := 83) 10 fg_X12_37 tb0 rfl dX12_raw_2.2.2.2.2 rfl ?_
        refine zW_iload (pc' := 85) dX12_raw_3.1.1.1.1 rfl rfl ?_
        refine zW_iconst (pc' := 86) dX12_raw_3.1.1.1.2 rfl ?_
        refine zSmz (pc' := 87) hF rfl ⟨(SI_irr hF.2.1 (Or.inl (key_of rfl _)) (fun _ _ => ⟨by omega, by omega⟩)), (KR_c10 hF.2.2.1 (by omega)), (KC_irr hF.2.2.2 rfl)⟩ tb10 (by omega) (by omega) dX12_raw_3.1.1.2 (by decide) rfl (fun h hF w86 => ?_)
        have a86_10 := fun j : Nat => zwr_pt (congrFun (congrFun w86 10) j)
        have t86_0_11 := congrFun (congrFun w86 0) 11
        rw [zwr_ne (Or.inl (by decide))] at t86_0_11
        have t86_0_12 := congrFun (congrFun w86 0) 12
        rw [zwr_ne (Or.inl (by decide))] at t86_0_12
        have t86_0_13 := congrFun (congrFun w86 0) 13
        rw [zwr_ne (Or.inl (by decide))] at t86_0_13
        refine zW_iinc (ls' := [_, _, _, _, _]) (pc' := 90) dX12_raw_3.1.2.1 rfl (by decide) rfl rfl rfl ?_
        refine zV_goto 63 dX12_raw_3.1.2.2 rfl ?_
        exact k63 _ _ hF (by omega) (by omega) (by omega) (by omega) (by omega) (by omega) (fun j => by have q0 := gc2 j; have q1 := a78_10 j; have q2 := a86_10 j; omega) (by omega)
  refine zM_of [some (.inr (.inr 0)), some (.inl x1), some (.inl x2), some (.inl x3), none] 1 rfl rfl (Nat.le_of_ble_eq_true rfl) rfl ?_
  refine (show ∀ h : Hp, Fm [(0, 11), (0, 12), (0, 13), (1, 999), (10, 999), (0, 21)] κ h → h = κ → zV G mX12_raw (q_X12_rawD κ x1 x2 x3) 0 [some (.inr (.inr 0)), some (.inl x1), some (.inl x2), some (.inl x3), none] [] h from fun h hF hk0 => ?_) κ (Fm.rf hS hR hC) rfl
  have y0_0_11 : h 0 11 = κ 0 11 := by rw [hk0]
  have y0_0_12 : h 0 12 = κ 0 12 := by rw [hk0]
  have y0_0_13 : h 0 13 = κ 0 13 := by rw [hk0]
  have a0_10 := fun j : Nat => congrFun (congrFun hk0 10) j
  refine zW_iload_n (pc' := 1) dX12_raw_0.1.1.1.1 rfl rfl ?_
  refine zW_iconst (pc' := 2) dX12_raw_0.1.1.1.2 rfl ?_
  refine zW_bipush (pc' := 4) dX12_raw_0.1.1.2.1 rfl rfl ?_
  refine csI3 (pc' := 7) kX12_in vX12_in lk_X12_140 ⟨Nat.le_of_ble_eq_true rfl, Nat.le_of_ble_eq_true rfl⟩ rfl (s_X12_inR (b := true) (κ := h) (Fr.rf hF.2.1) _ ⟨by omega, by omega⟩ _ ⟨by omega, by omega⟩ _ ⟨by omega, by omega⟩) dX12_raw_0.1.1.2.2 (Nat.le_of_ble_eq_true rfl) rfl ?_
  rintro r4 z4 ⟨hz4, p4⟩; subst z4
  refine zV_if_eq (tgt := 43) (pc' := 10) dX12_raw_0.1.2.1.1 rfl rfl ⟨by omega, by omega⟩ (fun c7 => ?_) (fun c7 => ?_)
  · refine zW_iconst (pc' := 44) dX12_raw_1.2.1.1.2 rfl ?_
    exact zV_zret rfl (by omega) dX12_raw_1.2.1.2.1 ⟨hF, ⟨by omega, by omega, by omega, (fun j => by have q0 := a0_10 j; omega)⟩⟩
  · refine zW_iload_n (pc' := 11) dX12_raw_0.1.2.1.2 rfl rfl ?_
    refine zW_iconst (pc' := 12) dX12_raw_0.1.2.2.1 rfl ?_
    refine zW_bipush (pc' := 14) dX12_raw_0.1.2.2.2 rfl rfl ?_
    refine csI3 (pc' := 17) kX12_in vX12_in lk_X12_140 ⟨Nat.le_of_ble_eq_true rfl, Nat.le_of_ble_eq_true rfl⟩ rfl (s_X12_inR (b := true) (κ := h) (Fr.rf hF.2.1) _ ⟨by omega, by omega⟩ _ ⟨by omega, by omega⟩ _ ⟨by omega, by omega⟩) dX12_raw_0.2.1.1.1 (Nat.le_of_ble_eq_true rfl) rfl ?_
    rintro r14 z14 ⟨hz14, p14⟩; subst z14
    refine zV_if_eq (tgt := 43) (pc' := 20) dX12_raw_0.2.1.1.2 rfl rfl ⟨by omega, by omega⟩ (fun c17 => ?_) (fun c17 => ?_)
    · refine zW_iconst (pc' := 44) dX12_raw_1.2.1.1.2 rfl ?_
      exact zV_zret rfl (by omega) dX12_raw_1.2.1.2.1 ⟨hF, ⟨by omega, by omega, by omega, (fun j => by have q0 := a0_10 j; omega)⟩⟩
    · refine zW_iload_n (pc' := 21) dX12_raw_0.2.1.2.1 rfl rfl ?_
      refine zW_iconst (pc' := 22) dX12_raw_0.2.1.2.2 rfl ?_
      refine zW_irem (pc' := 23) (by omega) (by omega) dX12_raw_0.2.2.1.1 rfl ?_
      refine zW_iconst (pc' := 24) dX12_raw_0.2.2.1.2 rfl ?_
      refine zV_cm_eq (tgt := 43) (pc' := 27) dX12_raw_0.2.2.2.1 rfl rfl ⟨by omega, by omega⟩ ⟨by omega, by omega⟩ (fun c24 => ?_) (fun c24 => ?_)
      · refine zW_iconst (pc' := 44) dX12_raw_1.2.1.1.2 rfl ?_
        exact zV_zret rfl (by omega) dX12_raw_1.2.1.2.1 ⟨hF, ⟨by omega, by omega, by omega, (fun j => by have q0 := a0_10 j; omega)⟩⟩
      · refine zW_iload_n (pc' := 28) dX12_raw_0.2.2.2.2 rfl rfl ?_
        refine zW_iconst (pc' := 29) dX12_raw_1.1.1.1.1 rfl ?_
        refine zW_irem (pc' := 30) (by omega) (by omega) dX12_raw_1.1.1.1.2 rfl ?_
        refine zW_iconst (pc' := 31) dX12_raw_1.1.1.2.1 rfl ?_
        refine zV_cm_eq (tgt := 43) (pc' := 34) dX12_raw_1.1.1.2.2 rfl rfl ⟨by omega, by omega⟩ ⟨by omega, by omega⟩ (fun c31 => ?_) (fun c31 => ?_)
        · refine zW_iconst (pc' := 44) dX12_raw_1.2.1.1.2 rfl ?_
          exact zV_zret rfl (by omega) dX12_raw_1.2.1.2.1 ⟨hF, ⟨by omega, by omega, by omega, (fun j => by have q0 := a0_10 j; omega)⟩⟩
        · refine zW_iload_n (pc' := 35) dX12_raw_1.1.2.1.1 rfl rfl ?_
          refine zW_iconst (pc' := 36) dX12_raw_1.1.2.1.2 rfl ?_
          refine zW_iconst (pc' := 37) dX12_raw_1.1.2.2.1 rfl ?_
          refine csI3 (pc' := 40) kX12_in vX12_in lk_X12_140 ⟨Nat.le_of_ble_eq_true rfl, Nat.le_of_ble_eq_true rfl⟩ rfl (s_X12_inR (b := true) (κ := h) (Fr.rf hF.2.1) _ ⟨by omega, by omega⟩ _ ⟨by omega, by omega⟩ _ ⟨by omega, by omega⟩) dX12_raw_1.1.2.2.2 (Nat.le_of_ble_eq_true rfl) rfl ?_
          rintro r37 z37 ⟨hz37, p37⟩; subst z37
          refine zV_if_ne (tgt := 45) (pc' := 43) dX12_raw_1.2.1.1.1 rfl rfl ⟨by omega, by omega⟩ (fun c40 => ?_) (fun c40 => ?_)
          · refine zW_aload_n (pc' := 46) dX12_raw_1.2.1.2.2 rfl rfl ?_
            refine zW_iload_n (pc' := 47) dX12_raw_1.2.2.1.1 rfl rfl ?_
            refine zPm (pc' := 50) hF (Or.inl rfl) (SI_irr hF.2.1 (Or.inl rfl) (fun _ _ => ⟨by omega, by omega⟩)) (KR_11 hF.2.2.1 (by omega)) (KC_irr hF.2.2.2 rfl) fp_X12_99 tb0 rfl dX12_raw_1.2.2.1.2 rfl (fun h hF w47 => ?_)
            have a47_10 := fun j : Nat => (congrFun (congrFun w47 10) j).trans (zwr_ne (Or.inl (by decide)))
            have t47_0_11 := congrFun (congrFun w47 0) 11
            rw [zwr_eq] at t47_0_11
            have t47_0_12 := congrFun (congrFun w47 0) 12
            rw [zwr_ne (Or.inr (by decide))] at t47_0_12
            have t47_0_13 := congrFun (congrFun w47 0) 13
            rw [zwr_ne (Or.inr (by decide))] at t47_0_13
            refine zW_aload_n (pc' := 51) dX12_raw_1.2.2.2.1 rfl rfl ?_
            refine zW_iload_n (pc' := 52) dX12_raw_1.2.2.2.2 rfl rfl ?_
            refine zPm (pc' := 55) hF (Or.inl rfl) (SI_irr hF.2.1 (Or.inl rfl) (fun _ _ => ⟨by omega, by omega⟩)) (KR_12 hF.2.2.1 (by omega)) (KC_irr hF.2.2.2 rfl) fp_X12_103 tb0 rfl dX12_raw_2.1.1.1.1 rfl (fun h hF w52 => ?_)
            have a52_10 := fun j : Nat => (congrFun (congrFun w52 10) j).trans (zwr_ne (Or.inl (by decide)))
            have t52_0_11 := congrFun (congrFun w52 0) 11
            rw [zwr_ne (Or.inr (by decide))] at t52_0_11
            have t52_0_12 := congrFun (congrFun w52 0) 12
            rw [zwr_eq] at t52_0_12
            have t52_0_13 := congrFun (congrFun w52 0) 13
            rw [zwr_ne (Or.inr (by decide))] at t52_0_13
            refine zW_aload_n (pc' := 56) dX12_raw_2.1.1.1.2 rfl rfl ?_
            refine zW_iload_n (pc' := 57) dX12_raw_2.1.1.2.1 rfl rfl ?_
            refine zPm (pc' := 60) hF (Or.inl rfl) (SI_irr hF.2.1 (Or.inl rfl) (fun _ _ => ⟨by omega, by omega⟩)) (KR_13 hF.2.2.1 (by omega)) (KC_irr hF.2.2.2 rfl) fp_X12_209 tb0 rfl dX12_raw_2.1.1.2.2 rfl (fun h hF w57 => ?_)
            have a57_10 := fun j : Nat => (congrFun (congrFun w57 10) j).trans (zwr_ne (Or.inl (by decide)))
            have t57_0_11 := congrFun (congrFun w57 0) 11
            rw [zwr_ne (Or.inr (by decide))] at t57_0_11
            have t57_0_12 := congrFun (congrFun w57 0) 12
            rw [zwr_ne (Or.inr (by decide))] at t57_0_12
            have t57_0_13 := congrFun (congrFun w57 0) 13
            rw [zwr_eq] at t57_0_13
            refine zW_iconst (pc' := 61) dX12_raw_2.1.2.1.1 rfl ?_
            refine zW_istore (ls' := [_, _, _, _, _]) (pc' := 63) dX12_raw_2.1.2.1.2 (by decide) rfl rfl rfl ?_
            exact (main 10000000000000000000000000000000000000000) _ _ hF (by omega) (by omega) (by omega) (by omega) (by omega) (by omega) (fun j => by have q0 := a0_10 j; have q1 := a47_10 j; have q2 := a52_10 j; have q3 := a57_10 j; omega) (by omega)
          · refine zW_iconst (pc' := 44) dX12_raw_1.2.1.1.2 rfl ?_
            exact zV_zret rfl (by omega) dX12_raw_1.2.1.2.1 ⟨hF, ⟨by omega, by omega, by omega, (fun j => by have q0 := a0_10 j; omega)⟩⟩

abbrev q_X12_deadManyD (κ h : Hp)  : Int → Hp → Prop := fun r h' => h' = h ∧ ((r = cntZ (κ 10) 256))
set_option maxHeartbeats 4000000 in
set_option maxRecDepth 20000 in
theorem s_X12_deadManyD {G : Ga} {b : Bool} {κ h : Hp} (hK : KR κ) (hF : Fr b κ h)  : zM G mX12_deadMany yX12_deadMany [.inr (.inr 0)] h (q_X12_deadManyD κ h) := by
  have main : ∀ N : Nat, (∀ (v1 v2 : Int) , (0 ≤ v2 ∧ v2 ≤ 256) → (v1 = cntZ (κ 10) v2.toNat) → 78948 + 18 * (256 - v2) + 17 < (N : Int) → zV G mX12_deadMany (q_X12_deadManyD κ h) 4 [some (.inr (.inr 0)), some (.inl v1), some (.inl v2)] [] h) := by
    intro N
    induction N with
    | zero =>
      intro v1 v2 g0 gc0 hm
      exfalso; omega
    | succ N ih =>
      have k4 := ih
      intro v1 v2 g0 gc0 hm
      refine zW_iload_n (pc' := 5) dX12_deadMany_0.1.2.1.1 rfl rfl ?_
      refine zW_sipush (pc' := 8) dX12_deadMany_0.1.2.1.2 rfl rfl ?_
      refine zV_cm_ge (tgt := 30) (pc' := 11) dX12_deadMany_0.1.2.2.1 rfl rfl ⟨by omega, by omega⟩ ⟨by omega, by omega⟩ (fun c8 => ?_) (fun c8 => ?_)
      · refine zW_iload_n (pc' := 31) dX12_deadMany_1.2.1 rfl rfl ?_
        exact zV_iret rfl dX12_deadMany_1.2.2 ⟨rfl, by rw [show (256 : Nat) = v2.toNat by omega]; exact gc0⟩
      · refine zW_aload_n (pc' := 12) dX12_deadMany_0.1.2.2.2 rfl rfl ?_
        refine zG_ref (pc' := 15) 10 fg_X12_37 tb0 rfl dX12_deadMany_0.2.1.1.1 rfl ?_
        refine zW_iload_n (pc' := 16) dX12_deadMany_0.2.1.1.2 rfl rfl ?_
        refine zA_keyz (pc' := 17) hF rfl tb10 (by omega) dX12_deadMany_0.2.1.2.1 (by decide) rfl ?_
        have hb17 := KRd hK v2.toNat
        refine zV_if_eq (tgt := 24) (pc' := 20) dX12_deadMany_0.2.1.2.2 rfl rfl ⟨by omega, by omega⟩ (fun c17 => ?_) (fun c17 => ?_)
        · refine zW_iinc (ls' := [_, _, _]) (pc' := 27) dX12_deadMany_1.1.1 rfl (by decide) rfl rfl rfl ?_
          refine zV_goto 4 dX12_deadMany_1.1.2 rfl ?_
          exact k4 _ _ (by omega) (by first | rfl | (have q := cntZ_step (f := κ 10) (v := v2) (by omega); first | (rw [if_pos (by omega)] at q; omega) | (rw [if_neg (by omega)] at q; omega))) (by omega)
        · refine zW_iload_n (pc' := 21) dX12_deadMany_0.2.2.1.1 rfl rfl ?_
          refine zW_iconst (pc' := 22) dX12_deadMany_0.2.2.1.2 rfl ?_
          refine zW_iadd (pc' := 23) dX12_deadMany_0.2.2.2.1 rfl ?_
          refine zW_istore_n (ls' := [_, _, _]) (pc' := 24) dX12_deadMany_0.2.2.2.2 (by decide) rfl rfl rfl ?_
          refine zW_iinc (ls' := [_, _, _]) (pc' := 27) dX12_deadMany_1.1.1 rfl (by decide) rfl rfl rfl ?_
          refine zV_goto 4 dX12_deadMany_1.1.2 rfl ?_
          exact k4 _ _ (by omega) (by first | rfl | (have q := cntZ_step (f := κ 10) (v := v2) (by omega); first | (rw [if_pos (by omega)] at q; omega) | (rw [if_neg (by omega)] at q; omega))) (by omega)
  refine zM_of [some (.inr (.inr 0)), none, none] 2 rfl rfl (Nat.le_of_ble_eq_true rfl) rfl ?_
  refine zW_iconst (pc' := 1) dX12_deadMany_0.1.1.1.1 rfl ?_
  refine zW_istore_n (ls' := [_, _, _]) (pc' := 2) dX12_deadMany_0.1.1.1.2 (by decide) rfl rfl rfl ?_
  refine zW_iconst (pc' := 3) dX12_deadMany_0.1.1.2.1 rfl ?_
  refine zW_istore_n (ls' := [_, _, _]) (pc' := 4) dX12_deadMany_0.1.1.2.2 (by decide) rfl rfl rfl ?_
  exact (main 10000000000000000000000000000000000000000) _ _ (by omega) (by first | rfl | (have q := cntZ_step (f := κ 10) (v := v2) (by omega); first | (rw [if_pos (by omega)] at q; omega) | (rw [if_neg (by omega)] at q; omega))) (by omega)

abbrev q_X12_deadD (κ : Hp) (x1 : Int) (x2 : Int) (x3 : Int) : Int → Hp → Prop := fun r h' => Fm [(10, 999), (0, 21)] κ h' ∧ (((¬ (0 ≤ x1 ∧ x1 < κ 0 11 ∧ 0 ≤ x2 ∧ x2 < κ 0 12) ∧ r = -1) ∨ ((0 ≤ x1 ∧ x1 < κ 0 11 ∧ 0 ≤ x2 ∧ x2 < κ 0 12) ∧ r = cntZ (h' 10) 256)) ∧ (∀ j : Nat, ((0 ≤ x1 ∧ x1 < κ 0 11 ∧ 0 ≤ x2 ∧ x2 < κ 0 12) → (j : Int) = 16 * x2 + x1 → h' 10 j = x3) ∧ (¬ ((0 ≤ x1 ∧ x1 < κ 0 11 ∧ 0 ≤ x2 ∧ x2 < κ 0 12) ∧ (j : Int) = 16 * x2 + x1) → h' 10 j = κ 10 j)))
set_option maxHeartbeats 4000000 in
set_option maxRecDepth 20000 in
theorem s_X12_deadD {G : Ga} {κ : Hp} (hS : SI κ) (hR : KR κ) (hC : KC κ) (x1 : Int) (hx1 : rng x1) (x2 : Int) (hx2 : rng x2) (x3 : Int) (hx3 : 0 ≤ x3 ∧ x3 ≤ 1) : zM G mX12_dead yX12_dead [.inr (.inr 0), .inl x1, .inl x2, .inl x3] κ (q_X12_deadD κ x1 x2 x3) := by
  have f_0_11 := KRw hR
  have f_0_12 := KRh hR
  unfold rng at hx1
  unfold rng at hx2
  refine zM_of [some (.inr (.inr 0)), some (.inl x1), some (.inl x2), some (.inl x3)] 0 rfl rfl (Nat.le_of_ble_eq_true rfl) rfl ?_
  refine (show ∀ h : Hp, Fm [(10, 999), (0, 21)] κ h → h = κ → zV G mX12_dead (q_X12_deadD κ x1 x2 x3) 0 [some (.inr (.inr 0)), some (.inl x1), some (.inl x2), some (.inl x3)] [] h from fun h hF hk0 => ?_) κ (Fm.rf hS hR hC) rfl
  have a0_10 := fun j : Nat => congrFun (congrFun hk0 10) j
  refine zW_aload_n (pc' := 1) dX12_dead_0.1.1.1.1 rfl rfl ?_
  refine zW_iload_n (pc' := 2) dX12_dead_0.1.1.1.2 rfl rfl ?_
  refine zW_iload_n (pc' := 3) dX12_dead_0.1.1.2.1 rfl rfl ?_
  have y3_0_11 := hF.1 0 11 rfl rfl
  have y3_0_12 := hF.1 0 12 rfl rfl
  refine cvI2 (pc' := 6) kX12_isSquare vX12_isSquare lk_X12_218 ⟨Nat.le_of_ble_eq_true rfl, Nat.le_of_ble_eq_true rfl⟩ tb0 vq12 rfl rfl (s_X12_isSquare (b := true) (κ := h) hF.2.2.1 (Fr.rf hF.2.1) _ ⟨by omega, by omega⟩ _ ⟨by omega, by omega⟩) dX12_dead_0.1.1.2.2 (Nat.le_of_ble_eq_true rfl) rfl ?_
  rintro r3 z3 ⟨hz3, p3⟩; subst z3
  refine zV_if_ne (tgt := 11) (pc' := 9) dX12_dead_0.1.2.1.1 rfl rfl ⟨by omega, by omega⟩ (fun c6 => ?_) (fun c6 => ?_)
  · refine zW_aload_n (pc' := 12) dX12_dead_0.1.2.2.2 rfl rfl ?_
    refine zG_ref (pc' := 15) 10 fg_X12_37 tb0 rfl dX12_dead_0.2.1.1.1 rfl ?_
    refine zW_bipush (pc' := 17) dX12_dead_0.2.1.1.2 rfl rfl ?_
    refine zW_iload_n (pc' := 18) dX12_dead_0.2.1.2.1 rfl rfl ?_
    refine zW_imul (pc' := 19) dX12_dead_0.2.1.2.2 rfl ?_
    refine zW_iload_n (pc' := 20) dX12_dead_0.2.2.1.1 rfl rfl ?_
    refine zW_iadd (pc' := 21) dX12_dead_0.2.2.1.2 rfl ?_
    refine zW_iload_n (pc' := 22) dX12_dead_0.2.2.2.1 rfl rfl ?_
    refine zSmz (pc' := 23) hF rfl ⟨(SI_irr hF.2.1 (Or.inl (key_of rfl _)) (fun _ _ => ⟨by omega, by omega⟩)), (KR_c10 hF.2.2.1 (by omega)), (KC_irr hF.2.2.2 rfl)⟩ tb10 (by omega) (by omega) dX12_dead_0.2.2.2.2 (by decide) rfl (fun h hF w22 => ?_)
    have a22_10 := fun j : Nat => zwr_pt (congrFun (congrFun w22 10) j)
    refine zW_aload_n (pc' := 24) dX12_dead_1.1.1.1 rfl rfl ?_
    refine cvV0 (pc' := 27) kX12_changed vX12_changed lk_X12_215 ⟨Nat.le_of_ble_eq_true rfl, Nat.le_of_ble_eq_true rfl⟩ tb0 vq12 rfl rfl (s_X12_changed hF.2.1 hF.2.2.1 hF.2.2.2) dX12_dead_1.1.1.2 (Nat.le_of_ble_eq_true rfl) rfl ?_
    rintro r24 h ⟨hF1, p24⟩; replace hF := hF.tr hF1 rfl
    have f24_10 := fun j : Nat => hF1.1 10 j rfl rfl
    refine zW_aload_n (pc' := 28) dX12_dead_1.1.2 rfl rfl ?_
    refine cvI0 (pc' := 31) kX12_deadMany vX12_deadMany lk_X12_221 ⟨Nat.le_of_ble_eq_true rfl, Nat.le_of_ble_eq_true rfl⟩ tb0 vq12 rfl rfl (s_X12_deadManyD (b := true) (κ := h) hF.2.2.1 (Fr.rf hF.2.1)) dX12_dead_1.2.1 (Nat.le_of_ble_eq_true rfl) rfl ?_
    rintro r28 z28 ⟨hz28, p28⟩; subst z28
    exact zV_iret rfl dX12_dead_1.2.2 ⟨hF, ⟨by omega, (fun j => by have q0 := a0_10 j; have q1 := a22_10 j; have q2 := f24_10 j; omega)⟩⟩
  · refine zW_iconst (pc' := 10) dX12_dead_0.1.2.1.2 rfl ?_
    exact zV_iret rfl dX12_dead_0.1.2.2.1 ⟨hF, ⟨by omega, (fun j => by have q0 := a0_10 j; omega)⟩⟩

abbrev q_X12_sceneD (κ : Hp) (x1 : Int) (x2 : Int) (x3 : Int) : Int → Hp → Prop := fun r h' => Fm [(1, 999), (10, 999), (0, 21), (0, 15)] κ h' ∧ ((0 ≤ r) ∧ (r ≤ 1) ∧ (r = 1 ↔ (0 ≤ x1 ∧ x1 ≤ 6 ∧ 0 ≤ x2 ∧ x2 ≤ 255 ∧ 0 ≤ x3 ∧ x3 ≤ 255)) ∧ (∀ j : Nat, (r = 1 → ((((j / 16 : Nat) : Int) < κ 0 12 ∧ ((j % 16 : Nat) : Int) < κ 0 11) → h' 10 j = 0) ∧ (¬ (((j / 16 : Nat) : Int) < κ 0 12 ∧ ((j % 16 : Nat) : Int) < κ 0 11) → h' 10 j = κ 10 j)) ∧ (r = 0 → h' 10 j = κ 10 j)))
set_option maxHeartbeats 4000000 in
set_option maxRecDepth 20000 in
theorem s_X12_sceneD {G : Ga} {κ : Hp} (hS : SI κ) (hR : KR κ) (hC : KC κ) (x1 : Int) (hx1 : rng x1) (x2 : Int) (hx2 : rng x2) (x3 : Int) (hx3 : rng x3) : zM G mX12_scene yX12_scene [.inr (.inr 0), .inl x1, .inl x2, .inl x3] κ (q_X12_sceneD κ x1 x2 x3) := by
  have f_0_11 := KRw hR
  have f_0_12 := KRh hR
  unfold rng at hx1
  unfold rng at hx2
  unfold rng at hx3
  have main : ∀ N : Nat, (∀ (v4 : Int) (h : Hp), Fm [(1, 999), (10, 999), (0, 21), (0, 15)] κ h → (0 ≤ x1 ∧ x1 ≤ 6) → (0 ≤ x2 ∧ x2 ≤ 255) → (0 ≤ x3 ∧ x3 ≤ 255) → (0 ≤ v4 ∧ v4 ≤ 16) → (v4 - κ 0 12 ≤ 0) → (∀ j : Nat, ((((j / 16 : Nat) : Int) < v4 ∧ ((j % 16 : Nat) : Int) < κ 0 11) → h 10 j = 0) ∧ (¬ (((j / 16 : Nat) : Int) < v4 ∧ ((j % 16 : Nat) : Int) < κ 0 11) → h 10 j = κ 10 j)) → 24144480 + 29808 * (16 - v4) + 29160 < (N : Int) → zV G mX12_scene (q_X12_sceneD κ x1 x2 x3) 37 [some (.inr (.inr 0)), some (.inl x1), some (.inl x2), some (.inl x3), some (.inl v4), none] [] h) ∧ (∀ (v4 v5 : Int) (h : Hp), Fm [(1, 999), (10, 999), (0, 21), (0, 15)] κ h → (0 ≤ x1 ∧ x1 ≤ 6) → (0 ≤ x2 ∧ x2 ≤ 255) → (0 ≤ x3 ∧ x3 ≤ 255) → (0 ≤ v4 ∧ v4 ≤ 15) → (v4 - κ 0 12 ≤ -1) → (0 ≤ v5 ∧ v5 ≤ 16) → (v5 - κ 0 11 ≤ 0) → (∀ j : Nat, (((((j / 16 : Nat) : Int) < v4 ∧ ((j % 16 : Nat) : Int) < κ 0 11) ∨ (((j / 16 : Nat) : Int) = v4 ∧ ((j % 16 : Nat) : Int) < v5)) → h 10 j = 0) ∧ (¬ ((((j / 16 : Nat) : Int) < v4 ∧ ((j % 16 : Nat) : Int) < κ 0 11) ∨ (((j / 16 : Nat) : Int) = v4 ∧ ((j % 16 : Nat) : Int) < v5)) → h 10 j = κ 10 j)) → 24144480 + 29808 * (16 - v4) + 22680 + 36 * (16 - v5) + 35 < (N : Int) → zV G mX12_scene (q_X12_sceneD κ x1 x2 x3) 49 [some (.inr (.inr 0)), some (.inl x1), some (.inl x2), some (.inl x3), some (.inl v4), some (.inl v5)] [] h) := by
    intro N
    induction N with
    | zero =>
      refine ⟨?_, ?_⟩
      · intro v4 h hF g0 g1 g2 g3 g4 gc0 hm
        exfalso; omega
      · intro v4 v5 h hF g0 g1 g2 g3 g4 g5 g6 gc0 hm
        exfalso; omega
    | succ N ih =>
      obtain ⟨k37, k49⟩ := ih
      refine ⟨?_, ?_⟩
      · intro v4 h hF g0 g1 g2 g3 g4 gc0 hm
        refine zW_iload (pc' := 39) dX12_scene_1.1.1.2.2 rfl rfl ?_
        refine zW_aload_n (pc' := 40) dX12_scene_1.1.2.1.1 rfl rfl ?_
        refine zGm (pc' := 43) hF rfl rfl fg_X12_103 tb0 rfl dX12_scene_1.1.2.1.2 rfl ?_
        refine zV_cm_ge (tgt := 108) (pc' := 46) dX12_scene_1.1.2.2.1 rfl rfl ⟨by omega, by omega⟩ ⟨by omega, by omega⟩ (fun c43 => ?_) (fun c43 => ?_)
        · refine zW_aload_n (pc' := 109) dX12_scene_3.2.1.2 rfl rfl ?_
          refine cvV0 (pc' := 112) kX12_changed vX12_changed lk_X12_215 ⟨Nat.le_of_ble_eq_true rfl, Nat.le_of_ble_eq_true rfl⟩ tb0 vq12 rfl rfl (s_X12_changed hF.2.1 hF.2.2.1 hF.2.2.2) dX12_scene_3.2.2.1.1 (Nat.le_of_ble_eq_true rfl) rfl ?_
          rintro r109 h ⟨hF1, p109⟩; replace hF := hF.tr hF1 rfl
          have f109_10 := fun j : Nat => hF1.1 10 j rfl rfl
          refine zW_iconst (pc' := 113) dX12_scene_3.2.2.1.2 rfl ?_
          exact zV_zret rfl (by omega) dX12_scene_3.2.2.2 ⟨hF, ⟨by omega, by omega, by omega, (fun j => by have q0 := gc0 j; have q1 := f109_10 j; omega)⟩⟩
        · refine zW_iconst (pc' := 47) dX12_scene_1.1.2.2.2 rfl ?_
          refine zW_istore (ls' := [_, _, _, _, _, _]) (pc' := 49) dX12_scene_1.2.1.1.1 (by decide) rfl rfl rfl ?_
          exact k49 _ _ _ hF (by omega) (by omega) (by omega) (by omega) (by omega) (by omega) (by omega) (fun j => by have q0 := gc0 j; omega) (by omega)
      · intro v4 v5 h hF g0 g1 g2 g3 g4 g5 g6 gc0 hm
        refine zW_iload (pc' := 51) dX12_scene_1.2.1.1.2 rfl rfl ?_
        refine zW_aload_n (pc' := 52) dX12_scene_1.2.1.2.1 rfl rfl ?_
        refine zGm (pc' := 55) hF rfl rfl fg_X12_99 tb0 rfl dX12_scene_1.2.1.2.2 rfl ?_
        refine zV_cm_ge (tgt := 102) (pc' := 58) dX12_scene_1.2.2.1.1 rfl rfl ⟨by omega, by omega⟩ ⟨by omega, by omega⟩ (fun c55 => ?_) (fun c55 => ?_)
        · refine zW_iinc (ls' := [_, _, _, _, _, _]) (pc' := 105) dX12_scene_3.2.1.1.1 rfl (by decide) rfl rfl rfl ?_
          refine zV_goto 37 dX12_scene_3.2.1.1.2 rfl ?_
          refine zV_clr 5 (ls' := [_, _, _, _, _, _]) rfl ?_
          exact k37 _ _ hF (by omega) (by omega) (by omega) (by omega) (by omega) (fun j => by have q0 := gc0 j; omega) (by omega)
        · refine zW_aload_n (pc' := 59) dX12_scene_1.2.2.1.2 rfl rfl ?_
          refine zG_ref (pc' := 62) 1 fg_X12_7 tb0 rfl dX12_scene_1.2.2.2.1 rfl ?_
          refine zW_bipush (pc' := 64) dX12_scene_1.2.2.2.2 rfl rfl ?_
          refine zW_iload (pc' := 66) dX12_scene_2.1.1.1.1 rfl rfl ?_
          refine zW_imul (pc' := 67) dX12_scene_2.1.1.1.2 rfl ?_
          refine zW_iload (pc' := 69) dX12_scene_2.1.1.2.1 rfl rfl ?_
          refine zW_iadd (pc' := 70) dX12_scene_2.1.1.2.2 rfl ?_
          refine zW_aload_n (pc' := 71) dX12_scene_2.1.2.1.1 rfl rfl ?_
          refine zW_iload_n (pc' := 72) dX12_scene_2.1.2.1.2 rfl rfl ?_
          refine zW_iload_n (pc' := 73) dX12_scene_2.1.2.2.1 rfl rfl ?_
          refine zW_iload_n (pc' := 74) dX12_scene_2.1.2.2.2 rfl rfl ?_
          refine zW_iload (pc' := 76) dX12_scene_2.2.1.1.1 rfl rfl ?_
          refine zW_iload (pc' := 78) dX12_scene_2.2.1.1.2 rfl rfl ?_
          have y78_0_11 := hF.1 0 11 rfl rfl
          have y78_0_12 := hF.1 0 12 rfl rfl
          refine cvI5 (pc' := 81) kX12_sceneAt vX12_sceneAt lk_X12_228 ⟨Nat.le_of_ble_eq_true rfl, Nat.le_of_ble_eq_true rfl⟩ tb0 vq12 rfl rfl (s_X12_sceneAt hF.2.1 hF.2.2.1 hF.2.2.2 _ ⟨by omega, by omega⟩ _ ⟨by omega, by omega⟩ _ ⟨by omega, by omega⟩ _ ⟨by omega, by omega, by omega⟩ _ ⟨by omega, by omega, by omega⟩) dX12_scene_2.2.1.2.1 (Nat.le_of_ble_eq_true rfl) rfl ?_
          rintro r78 h ⟨hF1, p78⟩; replace hF := hF.tr hF1 rfl
          have f78_10 := fun j : Nat => hF1.1 10 j rfl rfl
          refine zSm (pc' := 82) hF rfl (fun v' hv he => ⟨(SI_irr hF.2.1 (Or.inl (key_of rfl _)) (fun _ _ => hv)), (KR_irr hF.2.2.1 rfl), (KC_irr hF.2.2.2 rfl)⟩) tb1 (by omega) dX12_scene_2.2.1.2.2 (by decide) rfl (fun h i81 hF a81 b81 w81 => ?_)
          have a81_10 := fun j : Nat => (congrFun (congrFun w81 10) j).trans (zwr_ne (Or.inl (by decide)))
          refine zW_aload_n (pc' := 83) dX12_scene_2.2.2.1.1 rfl rfl ?_
          refine zG_ref (pc' := 86) 10 fg_X12_37 tb0 rfl dX12_scene_2.2.2.1.2 rfl ?_
          refine zW_bipush (pc' := 88) dX12_scene_2.2.2.2.1 rfl rfl ?_
          refine zW_iload (pc' := 90) dX12_scene_2.2.2.2.2 rfl rfl ?_
          refine zW_imul (pc' := 91) dX12_scene_3.1.1.1.1 rfl ?_
          refine zW_iload (pc' := 93) dX12_scene_3.1.1.1.2 rfl rfl ?_
          refine zW_iadd (pc' := 94) dX12_scene_3.1.1.2.1 rfl ?_
          refine zW_iconst (pc' := 95) dX12_scene_3.1.1.2.2 rfl ?_
          refine zSmz (pc' := 96) hF rfl ⟨(SI_irr hF.2.1 (Or.inl (key_of rfl _)) (fun _ _ => ⟨by omega, by omega⟩)), (KR_c10 hF.2.2.1 (by omega)), (KC_irr hF.2.2.2 rfl)⟩ tb10 (by omega) (by omega) dX12_scene_3.1.2.1.1 (by decide) rfl (fun h hF w95 => ?_)
          have a95_10 := fun j : Nat => zwr_pt (congrFun (congrFun w95 10) j)
          refine zW_iinc (ls' := [_, _, _, _, _, _]) (pc' := 99) dX12_scene_3.1.2.1.2 rfl (by decide) rfl rfl rfl ?_
          refine zV_goto 49 dX12_scene_3.1.2.2 rfl ?_
          exact k49 _ _ _ hF (by omega) (by omega) (by omega) (by omega) (by omega) (by omega) (by omega) (fun j => by have q0 := gc0 j; have q1 := f78_10 j; have q2 := a81_10 j; have q3 := a95_10 j; omega) (by omega)
  refine zM_of [some (.inr (.inr 0)), some (.inl x1), some (.inl x2), some (.inl x3), none, none] 2 rfl rfl (Nat.le_of_ble_eq_true rfl) rfl ?_
  refine (show ∀ h : Hp, Fm [(1, 999), (10, 999), (0, 21), (0, 15)] κ h → h = κ → zV G mX12_scene (q_X12_sceneD κ x1 x2 x3) 0 [some (.inr (.inr 0)), some (.inl x1), some (.inl x2), some (.inl x3), none, none] [] h from fun h hF hk0 => ?_) κ (Fm.rf hS hR hC) rfl
  have a0_10 := fun j : Nat => congrFun (congrFun hk0 10) j
  refine zW_iload_n (pc' := 1) dX12_scene_0.1.1.1.1 rfl rfl ?_
  refine zW_iconst (pc' := 2) dX12_scene_0.1.1.1.2 rfl ?_
  refine zW_bipush (pc' := 4) dX12_scene_0.1.1.2.1 rfl rfl ?_
  refine csI3 (pc' := 7) kX12_in vX12_in lk_X12_140 ⟨Nat.le_of_ble_eq_true rfl, Nat.le_of_ble_eq_true rfl⟩ rfl (s_X12_inR (b := true) (κ := h) (Fr.rf hF.2.1) _ ⟨by omega, by omega⟩ _ ⟨by omega, by omega⟩ _ ⟨by omega, by omega⟩) dX12_scene_0.1.1.2.2 (Nat.le_of_ble_eq_true rfl) rfl ?_
  rintro r4 z4 ⟨hz4, p4⟩; subst z4
  refine zV_if_eq (tgt := 32) (pc' := 10) dX12_scene_0.1.2.1.1 rfl rfl ⟨by omega, by omega⟩ (fun c7 => ?_) (fun c7 => ?_)
  · refine zW_iconst (pc' := 33) dX12_scene_0.2.2.2.2 rfl ?_
    exact zV_zret rfl (by omega) dX12_scene_1.1.1.1.1 ⟨hF, ⟨by omega, by omega, by omega, (fun j => by have q0 := a0_10 j; omega)⟩⟩
  · refine zW_iload_n (pc' := 11) dX12_scene_0.1.2.1.2 rfl rfl ?_
    refine zW_iconst (pc' := 12) dX12_scene_0.1.2.2.1 rfl ?_
    refine zW_sipush (pc' := 15) dX12_scene_0.1.2.2.2 rfl rfl ?_
    refine csI3 (pc' := 18) kX12_in vX12_in lk_X12_140 ⟨Nat.le_of_ble_eq_true rfl, Nat.le_of_ble_eq_true rfl⟩ rfl (s_X12_inR (b := true) (κ := h) (Fr.rf hF.2.1) _ ⟨by omega, by omega⟩ _ ⟨by omega, by omega⟩ _ ⟨by omega, by omega⟩) dX12_scene_0.2.1.1.1 (Nat.le_of_ble_eq_true rfl) rfl ?_
    rintro r15 z15 ⟨hz15, p15⟩; subst z15
    refine zV_if_eq (tgt := 32) (pc' := 21) dX12_scene_0.2.1.1.2 rfl rfl ⟨by omega, by omega⟩ (fun c18 => ?_) (fun c18 => ?_)
    · refine zW_iconst (pc' := 33) dX12_scene_0.2.2.2.2 rfl ?_
      exact zV_zret rfl (by omega) dX12_scene_1.1.1.1.1 ⟨hF, ⟨by omega, by omega, by omega, (fun j => by have q0 := a0_10 j; omega)⟩⟩
    · refine zW_iload_n (pc' := 22) dX12_scene_0.2.1.2.1 rfl rfl ?_
      refine zW_iconst (pc' := 23) dX12_scene_0.2.1.2.2 rfl ?_
      refine zW_sipush (pc' := 26) dX12_scene_0.2.2.1.1 rfl rfl ?_
      refine csI3 (pc' := 29) kX12_in vX12_in lk_X12_140 ⟨Nat.le_of_ble_eq_true rfl, Nat.le_of_ble_eq_true rfl⟩ rfl (s_X12_inR (b := true) (κ := h) (Fr.rf hF.2.1) _ ⟨by omega, by omega⟩ _ ⟨by omega, by omega⟩ _ ⟨by omega, by omega⟩) dX12_scene_0.2.2.1.2 (Nat.le_of_ble_eq_true rfl) rfl ?_
      rintro r26 z26 ⟨hz26, p26⟩; subst z26
      refine zV_if_ne (tgt := 34) (pc' := 32) dX12_scene_0.2.2.2.1 rfl rfl ⟨by omega, by omega⟩ (fun c29 => ?_) (fun c29 => ?_)
      · refine zW_iconst (pc' := 35) dX12_scene_1.1.1.1.2 rfl ?_
        refine zW_istore (ls' := [_, _, _, _, _, _]) (pc' := 37) dX12_scene_1.1.1.2.1 (by decide) rfl rfl rfl ?_
        exact (main 10000000000000000000000000000000000000000).1 _ _ hF (by omega) (by omega) (by omega) (by omega) (by omega) (fun j => by have q0 := a0_10 j; omega) (by omega)
      · refine zW_iconst (pc' := 33) dX12_scene_0.2.2.2.2 rfl ?_
        exact zV_zret rfl (by omega) dX12_scene_1.1.1.1.1 ⟨hF, ⟨by omega, by omega, by omega, (fun j => by have q0 := a0_10 j; omega)⟩⟩

abbrev q_X12_truthD (κ : Hp) (x1 : Int) : Int → Hp → Prop := fun r h' => Fm [(1, 999), (2, 999), (10, 999), (16, 999), (0, 21), (0, 25)] κ h' ∧ ((0 ≤ r) ∧ (r ≤ 1) ∧ ((r = 1 ∧ (0 ≤ x1 ∧ x1 ≤ 5 ∧ 6 ≤ κ 0 25) ∧ h' 0 25 = 0) ∨ (r = 0 ∧ ¬ (0 ≤ x1 ∧ x1 ≤ 5 ∧ 6 ≤ κ 0 25) ∧ h' 0 25 = κ 0 25)) ∧ (∀ j : Nat, (r = 1 → ((((j / 16 : Nat) : Int) < κ 0 12 ∧ ((j % 16 : Nat) : Int) < κ 0 11) → h' 10 j = 0) ∧ (¬ (((j / 16 : Nat) : Int) < κ 0 12 ∧ ((j % 16 : Nat) : Int) < κ 0 11) → h' 10 j = κ 10 j)) ∧ (r = 0 → h' 10 j = κ 10 j)))
set_option maxHeartbeats 4000000 in
set_option maxRecDepth 20000 in
theorem s_X12_truthD {G : Ga} {κ : Hp} (hS : SI κ) (hR : KR κ) (hC : KC κ) (x1 : Int) (hx1 : rng x1) : zM G mX12_truth yX12_truth [.inr (.inr 0), .inl x1] κ (q_X12_truthD κ x1) := by
  have f_0_11 := KRw hR
  have f_0_12 := KRh hR
  have f_0_25 := KRt hR
  unfold rng at hx1
  have main : ∀ N : Nat, (∀ (v2 : Int) (h : Hp), Fm [(1, 999), (2, 999), (10, 999), (16, 999), (0, 21), (0, 25)] κ h → (0 ≤ x1 ∧ x1 ≤ 5) → (0 ≤ v2 ∧ v2 ≤ 6) → (6 ≤ κ 0 25) → (h 0 25 = κ 0 25) → (∀ j : Nat, h 10 j = κ 10 j) → 54888004080 + 33509160 * (6 - v2) + 33144930 < (N : Int) → zV G mX12_truth (q_X12_truthD κ x1) 22 [some (.inr (.inr 0)), some (.inl x1), some (.inl v2), none, none, none] [] h) ∧ (∀ (v2 : Int) (h : Hp), Fm [(1, 999), (2, 999), (10, 999), (16, 999), (0, 21), (0, 25)] κ h → (0 ≤ x1 ∧ x1 ≤ 5) → (0 ≤ v2 ∧ v2 ≤ 16) → (v2 - κ 0 12 ≤ 0) → (6 ≤ κ 0 25) → (h 0 25 = 0) → (∀ j : Nat, ((((j / 16 : Nat) : Int) < v2 ∧ ((j % 16 : Nat) : Int) < κ 0 11) → h 10 j = 0) ∧ (¬ (((j / 16 : Nat) : Int) < v2 ∧ ((j % 16 : Nat) : Int) < κ 0 11) → h 10 j = κ 10 j)) → 48856355280 + 33509160 * (16 - v2) + 29502630 < (N : Int) → zV G mX12_truth (q_X12_truthD κ x1) 61 [some (.inr (.inr 0)), some (.inl x1), some (.inl v2), none, none, none] [] h) ∧ (∀ (v2 v3 : Int) (h : Hp), Fm [(1, 999), (2, 999), (10, 999), (16, 999), (0, 21), (0, 25)] κ h → (0 ≤ x1 ∧ x1 ≤ 5) → (0 ≤ v2 ∧ v2 ≤ 15) → (v2 - κ 0 12 ≤ -1) → (0 ≤ v3 ∧ v3 ≤ 16) → (v3 - κ 0 11 ≤ 0) → (6 ≤ κ 0 25) → (h 0 25 = 0) → (∀ j : Nat, (((((j / 16 : Nat) : Int) < v2 ∧ ((j % 16 : Nat) : Int) < κ 0 11) ∨ (((j / 16 : Nat) : Int) = v2 ∧ ((j % 16 : Nat) : Int) < v3)) → h 10 j = 0) ∧ (¬ ((((j / 16 : Nat) : Int) < v2 ∧ ((j % 16 : Nat) : Int) < κ 0 11) ∨ (((j / 16 : Nat) : Int) = v2 ∧ ((j % 16 : Nat) : Int) < v3)) → h 10 j = κ 10 j)) → 48856355280 + 33509160 * (16 - v2) + 25496100 + 20235 * (16 - v3) + 19950 < (N : Int) → zV G mX12_truth (q_X12_truthD κ x1) 71 [some (.inr (.inr 0)), some (.inl x1), some (.inl v2), some (.inl v3), none, none] [] h) ∧ (∀ (v2 v3 v4 v5 : Int) (h : Hp), Fm [(1, 999), (2, 999), (10, 999), (16, 999), (0, 21), (0, 25)] κ h → (0 ≤ x1 ∧ x1 ≤ 5) → (0 ≤ v2 ∧ v2 ≤ 15) → (v2 - κ 0 12 ≤ -1) → (0 ≤ v3 ∧ v3 ≤ 15) → (v3 - κ 0 11 ≤ -1) → (0 ≤ v4 ∧ v4 ≤ 255) → (0 ≤ v5 ∧ v5 ≤ 3) → (6 ≤ κ 0 25) → (h 0 25 = 0) → (v4 = 16 * v2 + v3) → (∀ j : Nat, (((((j / 16 : Nat) : Int) < v2 ∧ ((j % 16 : Nat) : Int) < κ 0 11) ∨ (((j / 16 : Nat) : Int) = v2 ∧ ((j % 16 : Nat) : Int) < v3)) → h 10 j = 0) ∧ (¬ ((((j / 16 : Nat) : Int) < v2 ∧ ((j % 16 : Nat) : Int) < κ 0 11) ∨ (((j / 16 : Nat) : Int) = v2 ∧ ((j % 16 : Nat) : Int) < v3)) → h 10 j = κ 10 j)) → 48856355280 + 33509160 * (16 - v2) + 25496100 + 20235 * (16 - v3) + 15960 + 57 * (3 - v5) + 56 < (N : Int) → zV G mX12_truth (q_X12_truthD κ x1) 90 [some (.inr (.inr 0)), some (.inl x1), some (.inl v2), some (.inl v3), some (.inl v4), some (.inl v5)] [] h) := by
    intro N
    induction N with
    | zero =>
      refine ⟨?_, ?_, ?_, ?_⟩
      · intro v2 h hF g0 g1 gc0 gc1 gc2 hm
        exfalso; omega
      · intro v2 h hF g0 g1 g2 gc0 gc1 gc2 hm
        exfalso; omega
      · intro v2 v3 h hF g0 g1 g2 g3 g4 gc0 gc1 gc2 hm
        exfalso; omega
      · intro v2 v3 v4 v5 h hF g0 g1 g2 g3 g4 g5 g6 gc0 gc1 gc2 gc3 hm
        exfalso; omega
    | succ N ih =>
      obtain ⟨k22, k61, k71, k90⟩ := ih
      refine ⟨?_, ?_, ?_, ?_⟩
      · intro v2 h hF g0 g1 gc0 gc1 gc2 hm
        refine zW_iload_n (pc' := 23) dX12_truth_0.2.2.1.2 rfl rfl ?_
        refine zW_bipush (pc' := 25) dX12_truth_0.2.2.2.1 rfl rfl ?_
        refine zV_cm_ge (tgt := 50) (pc' := 28) dX12_truth_0.2.2.2.2 rfl rfl ⟨by omega, by omega⟩ ⟨by omega, by omega⟩ (fun c25 => ?_) (fun c25 => ?_)
        · refine zW_aload_n (pc' := 51) dX12_truth_1.2.2.1.1 rfl rfl ?_
          refine zW_iconst (pc' := 52) dX12_truth_1.2.2.1.2 rfl ?_
          refine zPm (pc' := 55) hF (Or.inl rfl) (SI_irr hF.2.1 (Or.inl rfl) (fun _ _ => ⟨by omega, by omega⟩)) (KR_25 hF.2.2.1 (by omega)) (KC_irr hF.2.2.2 rfl) fp_X12_116 tb0 rfl dX12_truth_1.2.2.2.1 rfl (fun h hF w52 => ?_)
          have a52_10 := fun j : Nat => (congrFun (congrFun w52 10) j).trans (zwr_ne (Or.inl (by decide)))
          have t52_0_25 := congrFun (congrFun w52 0) 25
          rw [zwr_eq] at t52_0_25
          refine zW_aload_n (pc' := 56) dX12_truth_1.2.2.2.2 rfl rfl ?_
          refine cvV0 (pc' := 59) kX12_changed vX12_changed lk_X12_215 ⟨Nat.le_of_ble_eq_true rfl, Nat.le_of_ble_eq_true rfl⟩ tb0 vq12 rfl rfl (s_X12_changed hF.2.1 hF.2.2.1 hF.2.2.2) dX12_truth_2.1.1.1.1 (Nat.le_of_ble_eq_true rfl) rfl ?_
          rintro r56 h ⟨hF1, p56⟩; replace hF := hF.tr hF1 rfl
          have f56_10 := fun j : Nat => hF1.1 10 j rfl rfl
          have t56_0_25 := hF1.1 0 25 rfl rfl
          refine zW_iconst (pc' := 60) dX12_truth_2.1.1.1.2 rfl ?_
          refine zW_istore_n (ls' := [_, _, _, _, _, _]) (pc' := 61) dX12_truth_2.1.1.2.1 (by decide) rfl rfl rfl ?_
          exact k61 _ _ hF (by omega) (by omega) (by omega) (by omega) (by omega) (fun j => by have q0 := gc2 j; have q1 := a52_10 j; have q2 := f56_10 j; omega) (by omega)
        · refine zW_aload_n (pc' := 29) dX12_truth_1.1.1.1.1 rfl rfl ?_
          refine zG_ref (pc' := 32) 16 fg_X12_57 tb0 rfl dX12_truth_1.1.1.1.2 rfl ?_
          refine zW_iload_n (pc' := 33) dX12_truth_1.1.1.2.1 rfl rfl ?_
          refine zW_aload_n (pc' := 34) dX12_truth_1.1.1.2.2 rfl rfl ?_
          refine zG_ref (pc' := 37) 12 fg_X12_44 tb0 rfl dX12_truth_1.1.2.1.1 rfl ?_
          refine zW_iload_n (pc' := 38) dX12_truth_1.1.2.1.2 rfl rfl ?_
          refine zV_bald (pc' := 39) tb12 (by omega) dX12_truth_1.1.2.2.1 (by decide) rfl ?_
          refine zW_sipush (pc' := 42) dX12_truth_1.1.2.2.2 rfl rfl ?_
          refine zW_iandC (pc' := 43) (by omega) dX12_truth_1.2.1.1.1 rfl (fun v42 e42 => ?_)
          refine zSm (pc' := 44) hF rfl (fun v' hv he => ⟨(SI_irr hF.2.1 (Or.inl (key_of rfl _)) (fun _ _ => hv)), (KR_irr hF.2.2.1 rfl), (KC_irr hF.2.2.2 rfl)⟩) tb16 (by omega) dX12_truth_1.2.1.1.2 (by decide) rfl (fun h i43 hF a43 b43 w43 => ?_)
          have a43_10 := fun j : Nat => (congrFun (congrFun w43 10) j).trans (zwr_ne (Or.inl (by decide)))
          have t43_0_25 := congrFun (congrFun w43 0) 25
          rw [zwr_ne (Or.inl (by decide))] at t43_0_25
          refine zW_iinc (ls' := [_, _, _, _, _, _]) (pc' := 47) dX12_truth_1.2.1.2.1 rfl (by decide) rfl rfl rfl ?_
          refine zV_goto 22 dX12_truth_1.2.1.2.2 rfl ?_
          exact k22 _ _ hF (by omega) (by omega) (by omega) (by omega) (fun j => by have q0 := gc2 j; have q1 := a43_10 j; omega) (by omega)
      · intro v2 h hF g0 g1 g2 gc0 gc1 gc2 hm
        refine zW_iload_n (pc' := 62) dX12_truth_2.1.1.2.2 rfl rfl ?_
        refine zW_aload_n (pc' := 63) dX12_truth_2.1.2.1.1 rfl rfl ?_
        refine zGm (pc' := 66) hF rfl rfl fg_X12_103 tb0 rfl dX12_truth_2.1.2.1.2 rfl ?_
        refine zV_cm_ge (tgt := 170) (pc' := 69) dX12_truth_2.1.2.2.1 rfl rfl ⟨by omega, by omega⟩ ⟨by omega, by omega⟩ (fun c66 => ?_) (fun c66 => ?_)
        · refine zW_aload_n (pc' := 171) dX12_truth_6.1.1.1 rfl rfl ?_
          refine zW_iconst (pc' := 172) dX12_truth_6.1.1.2 rfl ?_
          refine zPmz (pc' := 175) hF (Or.inl rfl) (SI_irr hF.2.1 (Or.inl rfl) (fun _ _ => ⟨by omega, by omega⟩)) (KR_21 hF.2.2.1 (by omega)) (KC_irr hF.2.2.2 rfl) (by omega) fp_X12_212 tb0 rfl dX12_truth_6.1.2 rfl (fun h hF w172 => ?_)
          have a172_10 := fun j : Nat => (congrFun (congrFun w172 10) j).trans (zwr_ne (Or.inl (by decide)))
          have t172_0_25 := congrFun (congrFun w172 0) 25
          rw [zwr_ne (Or.inr (by decide))] at t172_0_25
          refine zW_iconst (pc' := 176) dX12_truth_6.2.1 rfl ?_
          exact zV_zret rfl (by omega) dX12_truth_6.2.2 ⟨hF, ⟨by omega, by omega, by omega, (fun j => by have q0 := gc2 j; have q1 := a172_10 j; omega)⟩⟩
        · refine zW_iconst (pc' := 70) dX12_truth_2.1.2.2.2 rfl ?_
          refine zW_istore_n (ls' := [_, _, _, _, _, _]) (pc' := 71) dX12_truth_2.2.1.1.1 (by decide) rfl rfl rfl ?_
          exact k71 _ _ _ hF (by omega) (by omega) (by omega) (by omega) (by omega) (by omega) (by omega) (fun j => by have q0 := gc2 j; omega) (by omega)
      · intro v2 v3 h hF g0 g1 g2 g3 g4 gc0 gc1 gc2 hm
        refine zW_iload_n (pc' := 72) dX12_truth_2.2.1.1.2 rfl rfl ?_
        refine zW_aload_n (pc' := 73) dX12_truth_2.2.1.2.1 rfl rfl ?_
        refine zGm (pc' := 76) hF rfl rfl fg_X12_99 tb0 rfl dX12_truth_2.2.1.2.2 rfl ?_
        refine zV_cm_ge (tgt := 164) (pc' := 79) dX12_truth_2.2.2.1.1 rfl rfl ⟨by omega, by omega⟩ ⟨by omega, by omega⟩ (fun c76 => ?_) (fun c76 => ?_)
        · refine zW_iinc (ls' := [_, _, _, _, _, _]) (pc' := 167) dX12_truth_5.2.2.2.1 rfl (by decide) rfl rfl rfl ?_
          refine zV_goto 61 dX12_truth_5.2.2.2.2 rfl ?_
          refine zV_clr 3 (ls' := [_, _, _, _, _, _]) rfl ?_
          exact k61 _ _ hF (by omega) (by omega) (by omega) (by omega) (by omega) (fun j => by have q0 := gc2 j; omega) (by omega)
        · refine zW_bipush (pc' := 81) dX12_truth_2.2.2.1.2 rfl rfl ?_
          refine zW_iload_n (pc' := 82) dX12_truth_2.2.2.2.1 rfl rfl ?_
          refine zW_imul (pc' := 83) dX12_truth_2.2.2.2.2 rfl ?_
          refine zW_iload_n (pc' := 84) dX12_truth_3.1.1.1.1 rfl rfl ?_
          refine zW_iadd (pc' := 85) dX12_truth_3.1.1.1.2 rfl ?_
          refine zW_istore (ls' := [_, _, _, _, _, _]) (pc' := 87) dX12_truth_3.1.1.2.1 (by decide) rfl rfl rfl ?_
          refine zW_iconst (pc' := 88) dX12_truth_3.1.1.2.2 rfl ?_
          refine zW_istore (ls' := [_, _, _, _, _, _]) (pc' := 90) dX12_truth_3.1.2.1.1 (by decide) rfl rfl rfl ?_
          exact k90 _ _ _ _ _ hF (by omega) (by omega) (by omega) (by omega) (by omega) (by omega) (by omega) (by omega) (by omega) (by omega) (fun j => by have q0 := gc2 j; omega) (by omega)
      · intro v2 v3 v4 v5 h hF g0 g1 g2 g3 g4 g5 g6 gc0 gc1 gc2 gc3 hm
        refine zW_iload (pc' := 92) dX12_truth_3.1.2.1.2 rfl rfl ?_
        refine zW_iconst (pc' := 93) dX12_truth_3.1.2.2.1 rfl ?_
        refine zV_cm_ge (tgt := 125) (pc' := 96) dX12_truth_3.1.2.2.2 rfl rfl ⟨by omega, by omega⟩ ⟨by omega, by omega⟩ (fun c93 => ?_) (fun c93 => ?_)
        · refine zW_aload_n (pc' := 126) dX12_truth_4.2.1.1.1 rfl rfl ?_
          refine zG_ref (pc' := 129) 1 fg_X12_7 tb0 rfl dX12_truth_4.2.1.1.2 rfl ?_
          refine zW_iload (pc' := 131) dX12_truth_4.2.1.2.1 rfl rfl ?_
          refine zW_aload_n (pc' := 132) dX12_truth_4.2.1.2.2 rfl rfl ?_
          refine zG_ref (pc' := 135) 2 fg_X12_13 tb0 rfl dX12_truth_4.2.2.1.1 rfl ?_
          refine zW_sipush (pc' := 138) dX12_truth_4.2.2.1.2 rfl rfl ?_
          refine zW_aload_n (pc' := 139) dX12_truth_4.2.2.2.1 rfl rfl ?_
          refine zW_iload_n (pc' := 140) dX12_truth_4.2.2.2.2 rfl rfl ?_
          refine zW_iload_n (pc' := 141) dX12_truth_5.1.1.1.1 rfl rfl ?_
          refine cvI2 (pc' := 144) kX12_colourAt vX12_colourAt lk_X12_225 ⟨Nat.le_of_ble_eq_true rfl, Nat.le_of_ble_eq_true rfl⟩ tb0 vq12 rfl rfl (s_X12_colourAt (b := true) (κ := h) hF.2.2.1 (Fr.rf hF.2.1) _ ⟨by omega, by omega⟩ _ ⟨by omega, by omega⟩) dX12_truth_5.1.1.1.2 (Nat.le_of_ble_eq_true rfl) rfl ?_
          rintro r141 z141 ⟨hz141, p141⟩; subst z141
          refine zW_imul (pc' := 145) dX12_truth_5.1.1.2.1 rfl ?_
          refine zW_iload (pc' := 147) dX12_truth_5.1.1.2.2 rfl rfl ?_
          refine zW_iadd (pc' := 148) dX12_truth_5.1.2.1.1 rfl ?_
          refine zAmI (pc' := 149) hF (by decide) (by decide) tb2 (by omega) dX12_truth_5.1.2.1.2 (by decide) rfl (fun e148 => ?_)
          refine zSm (pc' := 150) hF rfl (fun v' hv he => ⟨(SI_irr hF.2.1 (Or.inl (key_of rfl _)) (fun _ _ => hv)), (KR_irr hF.2.2.1 rfl), (KC_irr hF.2.2.2 rfl)⟩) tb1 (by omega) dX12_truth_5.1.2.2.1 (by decide) rfl (fun h i149 hF a149 b149 w149 => ?_)
          have a149_10 := fun j : Nat => (congrFun (congrFun w149 10) j).trans (zwr_ne (Or.inl (by decide)))
          have t149_0_25 := congrFun (congrFun w149 0) 25
          rw [zwr_ne (Or.inl (by decide))] at t149_0_25
          refine zW_aload_n (pc' := 151) dX12_truth_5.1.2.2.2 rfl rfl ?_
          refine zG_ref (pc' := 154) 10 fg_X12_37 tb0 rfl dX12_truth_5.2.1.1.1 rfl ?_
          refine zW_iload (pc' := 156) dX12_truth_5.2.1.1.2 rfl rfl ?_
          refine zW_iconst (pc' := 157) dX12_truth_5.2.1.2.1 rfl ?_
          refine zSmz (pc' := 158) hF rfl ⟨(SI_irr hF.2.1 (Or.inl (key_of rfl _)) (fun _ _ => ⟨by omega, by omega⟩)), (KR_c10 hF.2.2.1 (by omega)), (KC_irr hF.2.2.2 rfl)⟩ tb10 (by omega) (by omega) dX12_truth_5.2.1.2.2 (by decide) rfl (fun h hF w157 => ?_)
          have a157_10 := fun j : Nat => zwr_pt (congrFun (congrFun w157 10) j)
          have t157_0_25 := congrFun (congrFun w157 0) 25
          rw [zwr_ne (Or.inl (by decide))] at t157_0_25
          refine zW_iinc (ls' := [_, _, _, _, _, _]) (pc' := 161) dX12_truth_5.2.2.1.1 rfl (by decide) rfl rfl rfl ?_
          refine zV_goto 71 dX12_truth_5.2.2.1.2 rfl ?_
          refine zV_clr 4 (ls' := [_, _, _, _, _, _]) rfl ?_
          refine zV_clr 5 (ls' := [_, _, _, _, _, _]) rfl ?_
          exact k71 _ _ _ hF (by omega) (by omega) (by omega) (by omega) (by omega) (by omega) (by omega) (fun j => by have q0 := gc3 j; have q1 := a149_10 j; have q2 := a157_10 j; omega) (by omega)
        · refine zW_aload_n (pc' := 97) dX12_truth_3.2.1.1.1 rfl rfl ?_
          refine zG_ref (pc' := 100) 2 fg_X12_13 tb0 rfl dX12_truth_3.2.1.1.2 rfl ?_
          refine zW_sipush (pc' := 103) dX12_truth_3.2.1.2.1 rfl rfl ?_
          refine zW_iload (pc' := 105) dX12_truth_3.2.1.2.2 rfl rfl ?_
          refine zW_imul (pc' := 106) dX12_truth_3.2.2.1.1 rfl ?_
          refine zW_iload (pc' := 108) dX12_truth_3.2.2.1.2 rfl rfl ?_
          refine zW_iadd (pc' := 109) dX12_truth_3.2.2.2.1 rfl ?_
          refine zW_aload_n (pc' := 110) dX12_truth_3.2.2.2.2 rfl rfl ?_
          refine zW_iload_n (pc' := 111) dX12_truth_4.1.1.1.1 rfl rfl ?_
          refine zW_iload_n (pc' := 112) dX12_truth_4.1.1.1.2 rfl rfl ?_
          refine zW_iload_n (pc' := 113) dX12_truth_4.1.1.2.1 rfl rfl ?_
          refine zW_iload (pc' := 115) dX12_truth_4.1.1.2.2 rfl rfl ?_
          have y115_0_11 := hF.1 0 11 rfl rfl
          have y115_0_12 := hF.1 0 12 rfl rfl
          refine cvI4 (pc' := 118) kX12_truthAt vX12_truthAt lk_X12_232 ⟨Nat.le_of_ble_eq_true rfl, Nat.le_of_ble_eq_true rfl⟩ tb0 vq12 rfl rfl (s_X12_truthAt (b := true) (κ := h) hF.2.2.1 (Fr.rf hF.2.1) _ ⟨by omega, by omega⟩ _ ⟨by omega, by omega, by omega⟩ _ ⟨by omega, by omega, by omega⟩ _ ⟨by omega, by omega⟩) dX12_truth_4.1.2.1.1 (Nat.le_of_ble_eq_true rfl) rfl ?_
          rintro r115 z115 ⟨hz115, p115⟩; subst z115
          refine zSm (pc' := 119) hF rfl (fun v' hv he => ⟨(SI_irr hF.2.1 (Or.inl (key_of rfl _)) (fun _ _ => hv)), (KR_irr hF.2.2.1 rfl), (KC_irr hF.2.2.2 rfl)⟩) tb2 (by omega) dX12_truth_4.1.2.1.2 (by decide) rfl (fun h i118 hF a118 b118 w118 => ?_)
          have a118_10 := fun j : Nat => (congrFun (congrFun w118 10) j).trans (zwr_ne (Or.inl (by decide)))
          have t118_0_25 := congrFun (congrFun w118 0) 25
          rw [zwr_ne (Or.inl (by decide))] at t118_0_25
          refine zW_iinc (ls' := [_, _, _, _, _, _]) (pc' := 122) dX12_truth_4.1.2.2.1 rfl (by decide) rfl rfl rfl ?_
          refine zV_goto 90 dX12_truth_4.1.2.2.2 rfl ?_
          exact k90 _ _ _ _ _ hF (by omega) (by omega) (by omega) (by omega) (by omega) (by omega) (by omega) (by omega) (by omega) (by omega) (fun j => by have q0 := gc3 j; have q1 := a118_10 j; omega) (by omega)
  refine zM_of [some (.inr (.inr 0)), some (.inl x1), none, none, none, none] 4 rfl rfl (Nat.le_of_ble_eq_true rfl) rfl ?_
  refine (show ∀ h : Hp, Fm [(1, 999), (2, 999), (10, 999), (16, 999), (0, 21), (0, 25)] κ h → h = κ → zV G mX12_truth (q_X12_truthD κ x1) 0 [some (.inr (.inr 0)), some (.inl x1), none, none, none, none] [] h from fun h hF hk0 => ?_) κ (Fm.rf hS hR hC) rfl
  have y0_0_25 : h 0 25 = κ 0 25 := by rw [hk0]
  have a0_10 := fun j : Nat => congrFun (congrFun hk0 10) j
  refine zW_iload_n (pc' := 1) dX12_truth_0.1.1.1.1 rfl rfl ?_
  refine zW_iconst (pc' := 2) dX12_truth_0.1.1.1.2 rfl ?_
  refine zW_iconst (pc' := 3) dX12_truth_0.1.1.2.1 rfl ?_
  refine csI3 (pc' := 6) kX12_in vX12_in lk_X12_140 ⟨Nat.le_of_ble_eq_true rfl, Nat.le_of_ble_eq_true rfl⟩ rfl (s_X12_inR (b := true) (κ := h) (Fr.rf hF.2.1) _ ⟨by omega, by omega⟩ _ ⟨by omega, by omega⟩ _ ⟨by omega, by omega⟩) dX12_truth_0.1.1.2.2 (Nat.le_of_ble_eq_true rfl) rfl ?_
  rintro r3 z3 ⟨hz3, p3⟩; subst z3
  refine zV_if_eq (tgt := 18) (pc' := 9) dX12_truth_0.1.2.1.1 rfl rfl ⟨by omega, by omega⟩ (fun c6 => ?_) (fun c6 => ?_)
  · refine zW_iconst (pc' := 19) dX12_truth_0.2.1.1.2 rfl ?_
    exact zV_zret rfl (by omega) dX12_truth_0.2.1.2.1 ⟨hF, ⟨by omega, by omega, by omega, (fun j => by have q0 := a0_10 j; omega)⟩⟩
  · refine zW_aload_n (pc' := 10) dX12_truth_0.1.2.1.2 rfl rfl ?_
    refine zG_int (pc' := 13) fg_X12_116 tb0 rfl dX12_truth_0.1.2.2.1 rfl ?_
    have e10 := KRt hF.2.2.1
    refine zW_bipush (pc' := 15) dX12_truth_0.1.2.2.2 rfl rfl ?_
    refine zV_cm_ge (tgt := 20) (pc' := 18) dX12_truth_0.2.1.1.1 rfl rfl ⟨by omega, by omega⟩ ⟨by omega, by omega⟩ (fun c15 => ?_) (fun c15 => ?_)
    · refine zW_iconst (pc' := 21) dX12_truth_0.2.1.2.2 rfl ?_
      refine zW_istore_n (ls' := [_, _, _, _, _, _]) (pc' := 22) dX12_truth_0.2.2.1.1 (by decide) rfl rfl rfl ?_
      exact (main 10000000000000000000000000000000000000000).1 _ _ hF (by omega) (by omega) (by omega) (by omega) (fun j => by have q0 := a0_10 j; omega) (by omega)
    · refine zW_iconst (pc' := 19) dX12_truth_0.2.1.1.2 rfl ?_
      exact zV_zret rfl (by omega) dX12_truth_0.2.1.2.1 ⟨hF, ⟨by omega, by omega, by omega, (fun j => by have q0 := a0_10 j; omega)⟩⟩

abbrev q_J7_fill_53178V35D (κ : Hp) (x2 : Int) : Int → Hp → Prop := fun r h' => Fm [(35, 999)] κ h' ∧ ((∀ j : Nat, j < 256 → h' 35 j = 0))
set_option maxHeartbeats 4000000 in
set_option maxRecDepth 20000 in
theorem s_J7_fill_53178V35D {G : Ga} {κ : Hp} (hS : SI κ) (hR : KR κ) (hC : KC κ) (x2 : Int) (hx2 : 0 ≤ x2 ∧ x2 ≤ 0) : zM G mJ7_fill_53178 yJ7_fill_53178 [.inr (.inr 35), .inl x2] κ (q_J7_fill_53178V35D κ x2) := by
  have main : ∀ N : Nat, (∀ (v2 v3 : Int) (h : Hp), Fm [(35, 999)] κ h → (0 ≤ v2 ∧ v2 ≤ 256) → (256 ≤ v3 ∧ v3 ≤ 256) → (∀ j : Nat, (j : Int) < v2 → h 35 j = 0) → 34056 + 12 * (256 - v2) + 11 < (N : Int) → zV G mJ7_fill_53178 (q_J7_fill_53178V35D κ x2) 5 [some (.inr (.inr 35)), some (.inl x2), some (.inl v2), some (.inl v3)] [] h) := by
    intro N
    induction N with
    | zero =>
      intro v2 v3 h hF g0 g1 gc0 hm
      exfalso; omega
    | succ N ih =>
      have k5 := ih
      intro v2 v3 h hF g0 g1 gc0 hm
      refine zW_iload_n (pc' := 6) dJ7_fill_53178_0.1.2.1.2 rfl rfl ?_
      refine zW_iload_n (pc' := 7) dJ7_fill_53178_0.1.2.2.1 rfl rfl ?_
      refine zV_cm_ge (tgt := 20) (pc' := 10) dJ7_fill_53178_0.1.2.2.2 rfl rfl ⟨by omega, by omega⟩ ⟨by omega, by omega⟩ (fun c7 => ?_) (fun c7 => ?_)
      · exact zV_vret rfl dJ7_fill_53178_0.2.2.2 ⟨hF, (fun j => by have q0 := gc0 j; omega)⟩
      · refine zW_aload_n (pc' := 11) dJ7_fill_53178_0.2.1.1.1 rfl rfl ?_
        refine zW_iload_n (pc' := 12) dJ7_fill_53178_0.2.1.1.2 rfl rfl ?_
        refine zW_iload_n (pc' := 13) dJ7_fill_53178_0.2.1.2.1 rfl rfl ?_
        refine zSm (pc' := 14) hF rfl (fun v' hv he => ⟨(SI_irr hF.2.1 (Or.inl (key_of rfl _)) (fun _ _ => hv)), (KR_irr hF.2.2.1 rfl), (KC_irr hF.2.2.2 rfl)⟩) tb35 (by omega) dJ7_fill_53178_0.2.1.2.2 (by decide) rfl (fun h i13 hF a13 b13 w13 => ?_)
        have a13_35 := fun j : Nat => zwr_pt (congrFun (congrFun w13 35) j)
        replace b13 := b13 ⟨by omega, by omega⟩
        refine zW_iinc (ls' := [_, _, _, _]) (pc' := 17) dJ7_fill_53178_0.2.2.1.1 rfl (by decide) rfl rfl rfl ?_
        refine zV_goto 5 dJ7_fill_53178_0.2.2.1.2 rfl ?_
        exact k5 _ _ _ hF (by omega) (by omega) (fun j => by have q0 := gc0 j; have q1 := a13_35 j; omega) (by omega)
  refine zM_of [some (.inr (.inr 35)), some (.inl x2), none, none] 2 (by decide +kernel) rfl (Nat.le_of_ble_eq_true rfl) rfl ?_
  refine (show ∀ h : Hp, Fm [(35, 999)] κ h → h = κ → zV G mJ7_fill_53178 (q_J7_fill_53178V35D κ x2) 0 [some (.inr (.inr 35)), some (.inl x2), none, none] [] h from fun h hF hk0 => ?_) κ (Fm.rf hS hR hC) rfl
  have a0_35 := fun j : Nat => congrFun (congrFun hk0 35) j
  refine zW_iconst (pc' := 1) dJ7_fill_53178_0.1.1.1.1 rfl ?_
  refine zW_istore_n (ls' := [_, _, _, _]) (pc' := 2) dJ7_fill_53178_0.1.1.1.2 (by decide) rfl rfl rfl ?_
  refine zW_aload_n (pc' := 3) dJ7_fill_53178_0.1.1.2.1 rfl rfl ?_
  refine zV_alen (pc' := 4) tb35 (by decide) dJ7_fill_53178_0.1.1.2.2 rfl ?_
  refine zW_istore_n (ls' := [_, _, _, _]) (pc' := 5) dJ7_fill_53178_0.1.2.1.1 (by decide) rfl rfl rfl ?_
  exact (main 10000000000000000000000000000000000000000) _ _ _ hF (by omega) (by omega) (fun j => by have q0 := a0_35 j; omega) (by omega)

abbrev q_X5_wakeD (κ : Hp)  : Int → Hp → Prop := fun r h' => Fm [(35, 999)] κ h' ∧ ((∀ j : Nat, j < 256 → h' 35 j = 0))
set_option maxHeartbeats 4000000 in
set_option maxRecDepth 20000 in
theorem s_X5_wakeD {G : Ga} {κ : Hp} (hS : SI κ) (hR : KR κ) (hC : KC κ)  : zM G mX5_wake yX5_wake [.inr (.inr 33)] κ (q_X5_wakeD κ) := by
  refine zM_of [some (.inr (.inr 33))] 0 rfl rfl (Nat.le_of_ble_eq_true rfl) rfl ?_
  refine (show ∀ h : Hp, Fm [(35, 999)] κ h → h = κ → zV G mX5_wake (q_X5_wakeD κ) 0 [some (.inr (.inr 33))] [] h from fun h hF hk0 => ?_) κ (Fm.rf hS hR hC) rfl
  have a0_35 := fun j : Nat => congrFun (congrFun hk0 35) j
  refine zW_aload_n (pc' := 1) dX5_wake_0.1.1.1 rfl rfl ?_
  refine zG_ref (pc' := 4) 35 fg_X5_22 tb33 rfl dX5_wake_0.1.1.2 rfl ?_
  refine zW_iconst (pc' := 5) dX5_wake_0.1.2 rfl ?_
  refine csV2 (pc' := 8) kJ7_fill_53178 vJ7_fill_53178 lk_X5_28 ⟨Nat.le_of_ble_eq_true rfl, Nat.le_of_ble_eq_true rfl⟩ rfl (s_J7_fill_53178V35D hF.2.1 hF.2.2.1 hF.2.2.2 _ ⟨by omega, by omega⟩) dX5_wake_0.2.1 (Nat.le_of_ble_eq_true rfl) rfl ?_
  rintro r5 h ⟨hF1, p5⟩; replace hF := hF.tr hF1 rfl
  have a5_0 := p5
  exact zV_vret rfl dX5_wake_0.2.2 ⟨hF, (fun j => by have q0 := a0_35 j; have q1 := a5_0 j; omega)⟩

abbrev q_X5_beginD (κ : Hp) (x1 : Int) (x2 : Int) (x3 : Int) : Int → Hp → Prop := fun r h' => Fm [(33, 0), (33, 1), (33, 2), (34, 999), (35, 999)] κ h' ∧ ((h' 33 0 = x1 ∧ h' 33 1 = x2 ∧ h' 33 2 = x3) ∧ (∀ j : Nat, j < 256 → h' 35 j = 0))
set_option maxHeartbeats 4000000 in
set_option maxRecDepth 20000 in
theorem s_X5_beginD {G : Ga} {κ : Hp} (hS : SI κ) (hR : KR κ) (hC : KC κ) (x1 : Int) (hx1 : 4 ≤ x1 ∧ x1 ≤ 16) (x2 : Int) (hx2 : 4 ≤ x2 ∧ x2 ≤ 16) (x3 : Int) (hx3 : 0 ≤ x3 ∧ x3 ≤ 3) : zM G mX5_begin yX5_begin [.inr (.inr 33), .inl x1, .inl x2, .inl x3] κ (q_X5_beginD κ x1 x2 x3) := by
  refine zM_of [some (.inr (.inr 33)), some (.inl x1), some (.inl x2), some (.inl x3)] 0 rfl rfl (Nat.le_of_ble_eq_true rfl) rfl ?_
  refine (show ∀ h : Hp, Fm [(33, 0), (33, 1), (33, 2), (34, 999), (35, 999)] κ h → h = κ → zV G mX5_begin (q_X5_beginD κ x1 x2 x3) 0 [some (.inr (.inr 33)), some (.inl x1), some (.inl x2), some (.inl x3)] [] h from fun h hF hk0 => ?_) κ (Fm.rf hS hR hC) rfl
  have a0_35 := fun j : Nat => congrFun (congrFun hk0 35) j
  refine zW_aload_n (pc' := 1) dX5_begin_0.1.1.1.1 rfl rfl ?_
  refine zW_iload_n (pc' := 2) dX5_begin_0.1.1.1.2 rfl rfl ?_
  refine zPm (pc' := 5) hF (Or.inl rfl) (SI_irr hF.2.1 (Or.inl rfl) (fun _ _ => ⟨by omega, by omega⟩)) (KR_irr hF.2.2.1 rfl) (KC_33_0 hF.2.2.2 (by omega)) fp_X5_9 tb33 rfl dX5_begin_0.1.1.2.1 rfl (fun h hF w2 => ?_)
  have a2_35 := fun j : Nat => (congrFun (congrFun w2 35) j).trans (zwr_ne (Or.inl (by decide)))
  have t2_33_0 := congrFun (congrFun w2 33) 0
  rw [zwr_eq] at t2_33_0
  have t2_33_1 := congrFun (congrFun w2 33) 1
  rw [zwr_ne (Or.inr (by decide))] at t2_33_1
  have t2_33_2 := congrFun (congrFun w2 33) 2
  rw [zwr_ne (Or.inr (by decide))] at t2_33_2
  refine zW_aload_n (pc' := 6) dX5_begin_0.1.1.2.2 rfl rfl ?_
  refine zW_iload_n (pc' := 7) dX5_begin_0.1.2.1.1 rfl rfl ?_
  refine zPm (pc' := 10) hF (Or.inl rfl) (SI_irr hF.2.1 (Or.inl rfl) (fun _ _ => ⟨by omega, by omega⟩)) (KR_irr hF.2.2.1 rfl) (KC_33_1 hF.2.2.2 (by omega)) fp_X5_15 tb33 rfl dX5_begin_0.1.2.1.2 rfl (fun h hF w7 => ?_)
  have a7_35 := fun j : Nat => (congrFun (congrFun w7 35) j).trans (zwr_ne (Or.inl (by decide)))
  have t7_33_0 := congrFun (congrFun w7 33) 0
  rw [zwr_ne (Or.inr (by decide))] at t7_33_0
  have t7_33_1 := congrFun (congrFun w7 33) 1
  rw [zwr_eq] at t7_33_1
  have t7_33_2 := congrFun (congrFun w7 33) 2
  rw [zwr_ne (Or.inr (by decide))] at t7_33_2
  refine zW_aload_n (pc' := 11) dX5_begin_0.1.2.2.1 rfl rfl ?_
  refine zW_iload_n (pc' := 12) dX5_begin_0.1.2.2.2 rfl rfl ?_
  refine zPm (pc' := 15) hF (Or.inl rfl) (SI_irr hF.2.1 (Or.inl rfl) (fun _ _ => ⟨by omega, by omega⟩)) (KR_irr hF.2.2.1 rfl) (KC_33_2 hF.2.2.2 (by omega)) fp_X5_25 tb33 rfl dX5_begin_0.2.1.1.1 rfl (fun h hF w12 => ?_)
  have a12_35 := fun j : Nat => (congrFun (congrFun w12 35) j).trans (zwr_ne (Or.inl (by decide)))
  have t12_33_0 := congrFun (congrFun w12 33) 0
  rw [zwr_ne (Or.inr (by decide))] at t12_33_0
  have t12_33_1 := congrFun (congrFun w12 33) 1
  rw [zwr_ne (Or.inr (by decide))] at t12_33_1
  have t12_33_2 := congrFun (congrFun w12 33) 2
  rw [zwr_eq] at t12_33_2
  refine zW_aload_n (pc' := 16) dX5_begin_0.2.1.1.2 rfl rfl ?_
  refine zG_ref (pc' := 19) 34 fg_X5_18 tb33 rfl dX5_begin_0.2.1.2.1 rfl ?_
  refine zW_iconst (pc' := 20) dX5_begin_0.2.1.2.2 rfl ?_
  refine csV2 (pc' := 23) kJ7_fill_53178 vJ7_fill_53178 lk_X5_28 ⟨Nat.le_of_ble_eq_true rfl, Nat.le_of_ble_eq_true rfl⟩ rfl (s_J7_fill_53178V34 hF.2.1 hF.2.2.1 hF.2.2.2 _) dX5_begin_0.2.2.1.1 (Nat.le_of_ble_eq_true rfl) rfl ?_
  rintro r20 h ⟨hF1, p20⟩; replace hF := hF.tr hF1 rfl
  have f20_35 := fun j : Nat => hF1.1 35 j rfl rfl
  have t20_33_0 := hF1.1 33 0 rfl rfl
  have t20_33_1 := hF1.1 33 1 rfl rfl
  have t20_33_2 := hF1.1 33 2 rfl rfl
  refine zW_aload_n (pc' := 24) dX5_begin_0.2.2.1.2 rfl rfl ?_
  refine cvV0 (pc' := 27) kX5_wake vX5_wake lk_X5_34 ⟨Nat.le_of_ble_eq_true rfl, Nat.le_of_ble_eq_true rfl⟩ tb33 vq5 rfl rfl (s_X5_wakeD hF.2.1 hF.2.2.1 hF.2.2.2) dX5_begin_0.2.2.2.1 (Nat.le_of_ble_eq_true rfl) rfl ?_
  rintro r24 h ⟨hF1, p24⟩; replace hF := hF.tr hF1 rfl
  have a24_0 := p24
  have t24_33_0 := hF1.1 33 0 rfl rfl
  have t24_33_1 := hF1.1 33 1 rfl rfl
  have t24_33_2 := hF1.1 33 2 rfl rfl
  exact zV_vret rfl dX5_begin_0.2.2.2.2 ⟨hF, ⟨by omega, (fun j => by have q0 := a0_35 j; have q1 := a2_35 j; have q2 := a7_35 j; have q3 := a12_35 j; have q4 := f20_35 j; have q5 := a24_0 j; omega)⟩⟩

abbrev q_X11_rawD (κ : Hp) (x1 : Int) (x2 : Int) (x3 : Int) : Int → Hp → Prop := fun r h' => Fm [(33, 0), (33, 1), (33, 2), (34, 999), (35, 999), (39, 1)] κ h' ∧ ((0 ≤ r) ∧ (r ≤ 1) ∧ ((r = 1 ∧ (4 ≤ x1 ∧ x1 ≤ 16 ∧ x1 % 2 = 0) ∧ (4 ≤ x2 ∧ x2 ≤ 16 ∧ x2 % 2 = 0) ∧ (0 ≤ x3 ∧ x3 ≤ 3) ∧ h' 33 0 = x1 ∧ h' 33 1 = x2 ∧ h' 33 2 = x3) ∨ (r = 0 ∧ ¬ ((4 ≤ x1 ∧ x1 ≤ 16 ∧ x1 % 2 = 0) ∧ (4 ≤ x2 ∧ x2 ≤ 16 ∧ x2 % 2 = 0) ∧ (0 ≤ x3 ∧ x3 ≤ 3)) ∧ h' 33 0 = κ 33 0 ∧ h' 33 1 = κ 33 1 ∧ h' 33 2 = κ 33 2)) ∧ (∀ j : Nat, (r = 1 → j < 256 → h' 35 j = 0) ∧ (r = 0 → h' 35 j = κ 35 j)))
set_option maxHeartbeats 4000000 in
set_option maxRecDepth 20000 in
theorem s_X11_rawD {G : Ga} {κ : Hp} (hS : SI κ) (hR : KR κ) (hC : KC κ) (x1 : Int) (hx1 : rng x1) (x2 : Int) (hx2 : rng x2) (x3 : Int) (hx3 : rng x3) : zM G mX11_raw yX11_raw [.inr (.inr 30), .inl x1, .inl x2, .inl x3] κ (q_X11_rawD κ x1 x2 x3) := by
  have f_33_0 := KCw hC
  have f_33_1 := KCh hC
  have f_33_2 := KCp hC
  unfold rng at hx1
  unfold rng at hx2
  unfold rng at hx3
  refine zM_of [some (.inr (.inr 30)), some (.inl x1), some (.inl x2), some (.inl x3)] 0 rfl rfl (Nat.le_of_ble_eq_true rfl) rfl ?_
  refine (show ∀ h : Hp, Fm [(33, 0), (33, 1), (33, 2), (34, 999), (35, 999), (39, 1)] κ h → h = κ → zV G mX11_raw (q_X11_rawD κ x1 x2 x3) 0 [some (.inr (.inr 30)), some (.inl x1), some (.inl x2), some (.inl x3)] [] h from fun h hF hk0 => ?_) κ (Fm.rf hS hR hC) rfl
  have y0_33_0 : h 33 0 = κ 33 0 := by rw [hk0]
  have y0_33_1 : h 33 1 = κ 33 1 := by rw [hk0]
  have y0_33_2 : h 33 2 = κ 33 2 := by rw [hk0]
  have a0_35 := fun j : Nat => congrFun (congrFun hk0 35) j
  refine zW_iload_n (pc' := 1) dX11_raw_0.1.1.1.1 rfl rfl ?_
  refine csI1 (pc' := 4) kX11_isSide vX11_isSide lk_X11_112 ⟨Nat.le_of_ble_eq_true rfl, Nat.le_of_ble_eq_true rfl⟩ rfl (s_X11_isSide (b := true) (κ := h) (Fr.rf hF.2.1) _ ⟨by omega, by omega⟩) dX11_raw_0.1.1.1.2 (Nat.le_of_ble_eq_true rfl) rfl ?_
  rintro r1 z1 ⟨hz1, p1⟩; subst z1
  refine zV_if_eq (tgt := 22) (pc' := 7) dX11_raw_0.1.1.2.1 rfl rfl ⟨by omega, by omega⟩ (fun c4 => ?_) (fun c4 => ?_)
  · refine zW_iconst (pc' := 23) dX11_raw_0.2.1.2.1 rfl ?_
    exact zV_zret rfl (by omega) dX11_raw_0.2.1.2.2 ⟨hF, ⟨by omega, by omega, by omega, (fun j => by have q0 := a0_35 j; omega)⟩⟩
  · refine zW_iload_n (pc' := 8) dX11_raw_0.1.1.2.2 rfl rfl ?_
    refine csI1 (pc' := 11) kX11_isSide vX11_isSide lk_X11_112 ⟨Nat.le_of_ble_eq_true rfl, Nat.le_of_ble_eq_true rfl⟩ rfl (s_X11_isSide (b := true) (κ := h) (Fr.rf hF.2.1) _ ⟨by omega, by omega⟩) dX11_raw_0.1.2.1.1 (Nat.le_of_ble_eq_true rfl) rfl ?_
    rintro r8 z8 ⟨hz8, p8⟩; subst z8
    refine zV_if_eq (tgt := 22) (pc' := 14) dX11_raw_0.1.2.1.2 rfl rfl ⟨by omega, by omega⟩ (fun c11 => ?_) (fun c11 => ?_)
    · refine zW_iconst (pc' := 23) dX11_raw_0.2.1.2.1 rfl ?_
      exact zV_zret rfl (by omega) dX11_raw_0.2.1.2.2 ⟨hF, ⟨by omega, by omega, by omega, (fun j => by have q0 := a0_35 j; omega)⟩⟩
    · refine zW_iload_n (pc' := 15) dX11_raw_0.1.2.2.1 rfl rfl ?_
      refine zW_iconst (pc' := 16) dX11_raw_0.1.2.2.2 rfl ?_
      refine csI2 (pc' := 19) kX11_isWithin vX11_isWithin lk_X11_116 ⟨Nat.le_of_ble_eq_true rfl, Nat.le_of_ble_eq_true rfl⟩ rfl (s_X11_isWithinR (b := true) (κ := h) (Fr.rf hF.2.1) _ ⟨by omega, by omega⟩ _ ⟨by omega, by omega⟩) dX11_raw_0.2.1.1.1 (Nat.le_of_ble_eq_true rfl) rfl ?_
      rintro r16 z16 ⟨hz16, p16⟩; subst z16
      refine zV_if_ne (tgt := 24) (pc' := 22) dX11_raw_0.2.1.1.2 rfl rfl ⟨by omega, by omega⟩ (fun c19 => ?_) (fun c19 => ?_)
      · refine zW_aload_n (pc' := 25) dX11_raw_0.2.2.1.1 rfl rfl ?_
        refine zG_ref (pc' := 28) 33 fg_X11_19 tb30 rfl dX11_raw_0.2.2.1.2 rfl ?_
        refine zW_iload_n (pc' := 29) dX11_raw_0.2.2.2.1 rfl rfl ?_
        refine zW_iload_n (pc' := 30) dX11_raw_0.2.2.2.2 rfl rfl ?_
        refine zW_iload_n (pc' := 31) dX11_raw_1.1.1.1 rfl rfl ?_
        refine cvV3 (pc' := 34) kX5_begin vX5_begin lk_X11_120 ⟨Nat.le_of_ble_eq_true rfl, Nat.le_of_ble_eq_true rfl⟩ tb33 vq5 rfl rfl (s_X5_beginD hF.2.1 hF.2.2.1 hF.2.2.2 _ ⟨by omega, by omega⟩ _ ⟨by omega, by omega⟩ _ ⟨by omega, by omega⟩) dX11_raw_1.1.1.2 (Nat.le_of_ble_eq_true rfl) rfl ?_
        rintro r31 h ⟨hF1, p31⟩; replace hF := hF.tr hF1 rfl
        obtain ⟨p31_0, a31_0⟩ := p31
        refine zW_aload_n (pc' := 35) dX11_raw_1.1.2 rfl rfl ?_
        refine cvV0 (pc' := 38) kX11_rawChanged vX11_rawChanged lk_X11_124 ⟨Nat.le_of_ble_eq_true rfl, Nat.le_of_ble_eq_true rfl⟩ tb30 vq11 rfl rfl (s_X11_rawChanged hF.2.1 hF.2.2.1 hF.2.2.2) dX11_raw_1.2.1.1 (Nat.le_of_ble_eq_true rfl) rfl ?_
        rintro r35 h ⟨hF1, p35⟩; replace hF := hF.tr hF1 rfl
        have f35_35 := fun j : Nat => hF1.1 35 j rfl rfl
        have t35_33_0 := hF1.1 33 0 rfl rfl
        have t35_33_1 := hF1.1 33 1 rfl rfl
        have t35_33_2 := hF1.1 33 2 rfl rfl
        refine zW_iconst (pc' := 39) dX11_raw_1.2.1.2 rfl ?_
        exact zV_zret rfl (by omega) dX11_raw_1.2.2 ⟨hF, ⟨by omega, by omega, by omega, (fun j => by have q0 := a0_35 j; have q1 := a31_0 j; have q2 := f35_35 j; omega)⟩⟩
      · refine zW_iconst (pc' := 23) dX11_raw_0.2.1.2.1 rfl ?_
        exact zV_zret rfl (by omega) dX11_raw_0.2.1.2.2 ⟨hF, ⟨by omega, by omega, by omega, (fun j => by have q0 := a0_35 j; omega)⟩⟩

abbrev q_X5_sumOfD (κ h : Hp) (l1 : Nat) : Int → Hp → Prop := fun r h' => h' = h ∧ ((r = smS (h l1) (κ 33 0).toNat (κ 33 1).toNat))
set_option maxHeartbeats 4000000 in
set_option maxRecDepth 20000 in
theorem s_X5_sumOfD {G : Ga} {b : Bool} {κ h : Hp} (hK : KC κ) (hF : Fr b κ h) (l1 : Nat) (ht_l1 : tab[l1]? = some (1, 0, [256])) (hb_l1 : 256 < 2147483648) : zM G mX5_sumOf yX5_sumOf [.inr (.inr 33), .inr (.inr l1)] h (q_X5_sumOfD κ h l1) := by
  have f_33_0 := KCw hK
  have f_33_1 := KCh hK
  have f_36_0 := KCk0 hK
  have f_36_1 := KCk1 hK
  have main : ∀ N : Nat, (∀ (v2 v3 : Int) , (0 ≤ v3 ∧ v3 ≤ 16) → (v3 - κ 33 1 ≤ 0) → (v2 = smS (h l1) (κ 33 0).toNat v3.toNat) → 4898880 + 10080 * (16 - v3) + 9720 < (N : Int) → zV G mX5_sumOf (q_X5_sumOfD κ h l1) 4 [some (.inr (.inr 33)), some (.inr (.inr l1)), some (.inl v2), some (.inl v3), none] [] h) ∧ (∀ (v2 v3 v4 : Int) , (0 ≤ v3 ∧ v3 ≤ 15) → (v3 - κ 33 1 ≤ -1) → (0 ≤ v4 ∧ v4 ≤ 16) → (v4 - κ 33 0 ≤ 0) → (v2 = smS (h l1) (κ 33 0).toNat v3.toNat + smR (h l1) v3.toNat v4.toNat) → 4898880 + 10080 * (16 - v3) + 6840 + 20 * (16 - v4) + 19 < (N : Int) → zV G mX5_sumOf (q_X5_sumOfD κ h l1) 15 [some (.inr (.inr 33)), some (.inr (.inr l1)), some (.inl v2), some (.inl v3), some (.inl v4)] [] h) := by
    intro N
    induction N with
    | zero =>
      refine ⟨?_, ?_⟩
      · intro v2 v3 g0 g1 gc0 hm
        exfalso; omega
      · intro v2 v3 v4 g0 g1 g2 g3 gc0 hm
        exfalso; omega
    | succ N ih =>
      obtain ⟨k4, k15⟩ := ih
      refine ⟨?_, ?_⟩
      · intro v2 v3 g0 g1 gc0 hm
        refine zW_iload_n (pc' := 5) dX5_sumOf_0.1.2.1.1 rfl rfl ?_
        refine zW_aload_n (pc' := 6) dX5_sumOf_0.1.2.1.2 rfl rfl ?_
        refine zG_key (pc' := 9) hF rfl fg_X5_15 tb33 rfl dX5_sumOf_0.1.2.2.1 rfl ?_
        refine zV_cm_ge (tgt := 48) (pc' := 12) dX5_sumOf_0.1.2.2.2 rfl rfl ⟨by omega, by omega⟩ ⟨by omega, by omega⟩ (fun c9 => ?_) (fun c9 => ?_)
        · refine zW_iload_n (pc' := 49) dX5_sumOf_1.2.2.1.2 rfl rfl ?_
          exact zV_iret rfl dX5_sumOf_1.2.2.2 ⟨rfl, by rw [show κ 33 1 = v3 by omega]; exact gc0⟩
        · refine zW_iconst (pc' := 13) dX5_sumOf_0.2.1.1.1 rfl ?_
          refine zW_istore (ls' := [_, _, _, _, _]) (pc' := 15) dX5_sumOf_0.2.1.1.2 (by decide) rfl rfl rfl ?_
          exact k15 _ _ _ (by omega) (by omega) (by omega) (by omega) (by first | (have q := smR_step (f := h l1) (y := v3) (v := v4) (by omega) (by omega); rw [q]; omega) | (show _ = _ + 0; omega)) (by omega)
      · intro v2 v3 v4 g0 g1 g2 g3 gc0 hm
        refine zW_iload (pc' := 17) dX5_sumOf_0.2.1.2.1 rfl rfl ?_
        refine zW_aload_n (pc' := 18) dX5_sumOf_0.2.1.2.2 rfl rfl ?_
        refine zG_key (pc' := 21) hF rfl fg_X5_9 tb33 rfl dX5_sumOf_0.2.2.1.1 rfl ?_
        refine zV_cm_ge (tgt := 42) (pc' := 24) dX5_sumOf_0.2.2.1.2 rfl rfl ⟨by omega, by omega⟩ ⟨by omega, by omega⟩ (fun c21 => ?_) (fun c21 => ?_)
        · refine zW_iinc (ls' := [_, _, _, _, _]) (pc' := 45) dX5_sumOf_1.2.1.2.2 rfl (by decide) rfl rfl rfl ?_
          refine zV_goto 4 dX5_sumOf_1.2.2.1.1 rfl ?_
          refine zV_clr 4 (ls' := [_, _, _, _, _]) rfl ?_
          exact k4 _ _ (by omega) (by omega) (by first | rfl | (have q := smS_step (f := h l1) (w := (κ 33 0).toNat) (v := v3) (by omega); have e4 : v4.toNat = (κ 33 0).toNat := (by omega); rw [e4] at gc0; rw [q]; exact gc0)) (by omega)
        · refine zW_iload_n (pc' := 25) dX5_sumOf_0.2.2.2.1 rfl rfl ?_
          refine zW_aload_n (pc' := 26) dX5_sumOf_0.2.2.2.2 rfl rfl ?_
          refine zW_iload_n (pc' := 27) dX5_sumOf_1.1.1.1.1 rfl rfl ?_
          refine zW_bipush (pc' := 29) dX5_sumOf_1.1.1.1.2 rfl rfl ?_
          refine zW_imul (pc' := 30) dX5_sumOf_1.1.1.2.1 rfl ?_
          refine zW_iload (pc' := 32) dX5_sumOf_1.1.1.2.2 rfl rfl ?_
          refine zW_iadd (pc' := 33) dX5_sumOf_1.1.2.1.1 rfl ?_
          refine zV_iald (pc' := 34) ht_l1 (by omega) dX5_sumOf_1.1.2.1.2 hb_l1 rfl ?_
          refine zW_iadd (pc' := 35) dX5_sumOf_1.1.2.2 rfl ?_
          refine zW_istore_n (ls' := [_, _, _, _, _]) (pc' := 36) dX5_sumOf_1.2.1.1.1 (by decide) rfl rfl rfl ?_
          refine zW_iinc (ls' := [_, _, _, _, _]) (pc' := 39) dX5_sumOf_1.2.1.1.2 rfl (by decide) rfl rfl rfl ?_
          refine zV_goto 15 dX5_sumOf_1.2.1.2.1 rfl ?_
          exact k15 _ _ _ (by omega) (by omega) (by omega) (by omega) (by first | (have q := smR_step (f := h l1) (y := v3) (v := v4) (by omega) (by omega); rw [q]; omega) | (show _ = _ + 0; omega)) (by omega)
  refine zM_of [some (.inr (.inr 33)), some (.inr (.inr l1)), none, none, none] 3 rfl rfl (Nat.le_of_ble_eq_true rfl) rfl ?_
  refine zW_iconst (pc' := 1) dX5_sumOf_0.1.1.1.1 rfl ?_
  refine zW_istore_n (ls' := [_, _, _, _, _]) (pc' := 2) dX5_sumOf_0.1.1.1.2 (by decide) rfl rfl rfl ?_
  refine zW_iconst (pc' := 3) dX5_sumOf_0.1.1.2.1 rfl ?_
  refine zW_istore_n (ls' := [_, _, _, _, _]) (pc' := 4) dX5_sumOf_0.1.1.2.2 (by decide) rfl rfl rfl ?_
  exact (main 10000000000000000000000000000000000000000).1 _ _ (by omega) (by omega) (by first | rfl | (have q := smS_step (f := h l1) (w := (κ 33 0).toNat) (v := v3) (by omega); have e4 : v4.toNat = (κ 33 0).toNat := (by omega); rw [e4] at gc0; rw [q]; exact gc0)) (by omega)

abbrev q_X11_deadD (κ : Hp) (x1 : Int) (x2 : Int) (x3 : Int) : Int → Hp → Prop := fun r h' => Fm [(35, 999), (39, 1)] κ h' ∧ (((¬ (0 ≤ x1 ∧ x1 < κ 33 0 ∧ 0 ≤ x2 ∧ x2 < κ 33 1) ∧ r = -1) ∨ ((0 ≤ x1 ∧ x1 < κ 33 0 ∧ 0 ≤ x2 ∧ x2 < κ 33 1) ∧ r = smS (h' 35) (κ 33 0).toNat (κ 33 1).toNat)) ∧ (∀ j : Nat, ((0 ≤ x1 ∧ x1 < κ 33 0 ∧ 0 ≤ x2 ∧ x2 < κ 33 1) → (j : Int) = 16 * x2 + x1 → h' 35 j = x3) ∧ (¬ ((0 ≤ x1 ∧ x1 < κ 33 0 ∧ 0 ≤ x2 ∧ x2 < κ 33 1) ∧ (j : Int) = 16 * x2 + x1) → h' 35 j = κ 35 j)))
set_option maxHeartbeats 4000000 in
set_option maxRecDepth 20000 in
theorem s_X11_deadD {G : Ga} {κ : Hp} (hS : SI κ) (hR : KR κ) (hC : KC κ) (x1 : Int) (hx1 : rng x1) (x2 : Int) (hx2 : rng x2) (x3 : Int) (hx3 : 0 ≤ x3 ∧ x3 ≤ 1) : zM G mX11_dead yX11_dead [.inr (.inr 30), .inl x1, .inl x2, .inl x3] κ (q_X11_deadD κ x1 x2 x3) := by
  have f_33_0 := KCw hC
  have f_33_1 := KCh hC
  unfold rng at hx1
  unfold rng at hx2
  refine zM_of [some (.inr (.inr 30)), some (.inl x1), some (.inl x2), some (.inl x3)] 0 rfl rfl (Nat.le_of_ble_eq_true rfl) rfl ?_
  refine (show ∀ h : Hp, Fm [(35, 999), (39, 1)] κ h → h = κ → zV G mX11_dead (q_X11_deadD κ x1 x2 x3) 0 [some (.inr (.inr 30)), some (.inl x1), some (.inl x2), some (.inl x3)] [] h from fun h hF hk0 => ?_) κ (Fm.rf hS hR hC) rfl
  have a0_35 := fun j : Nat => congrFun (congrFun hk0 35) j
  refine zW_aload_n (pc' := 1) dX11_dead_0.1.1.1.1 rfl rfl ?_
  refine zG_ref (pc' := 4) 33 fg_X11_19 tb30 rfl dX11_dead_0.1.1.1.2 rfl ?_
  refine zW_iload_n (pc' := 5) dX11_dead_0.1.1.2.1 rfl rfl ?_
  refine zW_iload_n (pc' := 6) dX11_dead_0.1.1.2.2 rfl rfl ?_
  have y6_33_0 := hF.1 33 0 rfl rfl
  have y6_33_1 := hF.1 33 1 rfl rfl
  refine cvI2 (pc' := 9) kX5_has vX5_has lk_X11_140 ⟨Nat.le_of_ble_eq_true rfl, Nat.le_of_ble_eq_true rfl⟩ tb33 vq5 rfl rfl (s_X5_has (b := true) (κ := h) hF.2.2.2 (Fr.rf hF.2.1) _ ⟨by omega, by omega⟩ _ ⟨by omega, by omega⟩) dX11_dead_0.1.2.1.1 (Nat.le_of_ble_eq_true rfl) rfl ?_
  rintro r6 z6 ⟨hz6, p6⟩; subst z6
  refine zV_if_ne (tgt := 14) (pc' := 12) dX11_dead_0.1.2.1.2 rfl rfl ⟨by omega, by omega⟩ (fun c9 => ?_) (fun c9 => ?_)
  · refine zW_aload_n (pc' := 15) dX11_dead_0.2.1.1.1 rfl rfl ?_
    refine zG_ref (pc' := 18) 33 fg_X11_19 tb30 rfl dX11_dead_0.2.1.1.2 rfl ?_
    refine zG_ref (pc' := 21) 35 fg_X11_143 tb33 rfl dX11_dead_0.2.1.2.1 rfl ?_
    refine zW_iload_n (pc' := 22) dX11_dead_0.2.1.2.2 rfl rfl ?_
    refine zW_bipush (pc' := 24) dX11_dead_0.2.2.1.1 rfl rfl ?_
    refine zW_imul (pc' := 25) dX11_dead_0.2.2.1.2 rfl ?_
    refine zW_iload_n (pc' := 26) dX11_dead_0.2.2.2.1 rfl rfl ?_
    refine zW_iadd (pc' := 27) dX11_dead_0.2.2.2.2 rfl ?_
    refine zW_iload_n (pc' := 28) dX11_dead_1.1.1.1.1 rfl rfl ?_
    refine zV_if_eq (tgt := 35) (pc' := 31) dX11_dead_1.1.1.1.2 rfl rfl ⟨by omega, by omega⟩ (fun c28 => ?_) (fun c28 => ?_)
    · refine zW_iconst (pc' := 36) dX11_dead_1.1.2.1.1 rfl ?_
      refine zSm (pc' := 37) hF rfl (fun v' hv he => ⟨(SI_irr hF.2.1 (Or.inl (key_of rfl _)) (fun _ _ => hv)), (KR_irr hF.2.2.1 rfl), (KC_irr hF.2.2.2 rfl)⟩) tb35 (by omega) dX11_dead_1.1.2.1.2 (by decide) rfl (fun h i36 hF a36 b36 w36 => ?_)
      have a36_35 := fun j : Nat => zwr_pt (congrFun (congrFun w36 35) j)
      replace b36 := b36 ⟨by omega, by omega⟩
      refine zW_aload_n (pc' := 38) dX11_dead_1.1.2.2.1 rfl rfl ?_
      refine cvV0 (pc' := 41) kX11_rawChanged vX11_rawChanged lk_X11_124 ⟨Nat.le_of_ble_eq_true rfl, Nat.le_of_ble_eq_true rfl⟩ tb30 vq11 rfl rfl (s_X11_rawChanged hF.2.1 hF.2.2.1 hF.2.2.2) dX11_dead_1.1.2.2.2 (Nat.le_of_ble_eq_true rfl) rfl ?_
      rintro r38 h ⟨hF1, p38⟩; replace hF := hF.tr hF1 rfl
      have f38_35 := fun j : Nat => hF1.1 35 j rfl rfl
      refine zW_aload_n (pc' := 42) dX11_dead_1.2.1.1.1 rfl rfl ?_
      refine zG_ref (pc' := 45) 33 fg_X11_19 tb30 rfl dX11_dead_1.2.1.1.2 rfl ?_
      refine zW_aload_n (pc' := 46) dX11_dead_1.2.1.2.1 rfl rfl ?_
      refine zG_ref (pc' := 49) 33 fg_X11_19 tb30 rfl dX11_dead_1.2.1.2.2 rfl ?_
      refine zG_ref (pc' := 52) 35 fg_X11_143 tb33 rfl dX11_dead_1.2.2.1.1 rfl ?_
      have y52_33_0 := hF.1 33 0 rfl rfl
      have y52_33_1 := hF.1 33 1 rfl rfl
      refine cvI1 (pc' := 55) kX5_sumOf vX5_sumOf lk_X11_146 ⟨Nat.le_of_ble_eq_true rfl, Nat.le_of_ble_eq_true rfl⟩ tb33 vq5 rfl rfl (s_X5_sumOfD (b := true) (κ := h) hF.2.2.2 (Fr.rf hF.2.1) _ tb35 (by decide)) dX11_dead_1.2.2.1.2 (Nat.le_of_ble_eq_true rfl) rfl ?_
      rintro r52 z52 ⟨hz52, p52⟩; subst z52
      rw [hF.1 33 0 rfl rfl, hF.1 33 1 rfl rfl] at p52
      exact zV_iret rfl dX11_dead_1.2.2.2 ⟨hF, ⟨by omega, (fun j => by have q0 := a0_35 j; have q1 := a36_35 j; have q2 := f38_35 j; omega)⟩⟩
    · refine zW_iconst (pc' := 32) dX11_dead_1.1.1.2.1 rfl ?_
      refine zV_goto 36 dX11_dead_1.1.1.2.2 rfl ?_
      refine zSm (pc' := 37) hF rfl (fun v' hv he => ⟨(SI_irr hF.2.1 (Or.inl (key_of rfl _)) (fun _ _ => hv)), (KR_irr hF.2.2.1 rfl), (KC_irr hF.2.2.2 rfl)⟩) tb35 (by omega) dX11_dead_1.1.2.1.2 (by decide) rfl (fun h i36 hF a36 b36 w36 => ?_)
      have a36_35 := fun j : Nat => zwr_pt (congrFun (congrFun w36 35) j)
      replace b36 := b36 ⟨by omega, by omega⟩
      refine zW_aload_n (pc' := 38) dX11_dead_1.1.2.2.1 rfl rfl ?_
      refine cvV0 (pc' := 41) kX11_rawChanged vX11_rawChanged lk_X11_124 ⟨Nat.le_of_ble_eq_true rfl, Nat.le_of_ble_eq_true rfl⟩ tb30 vq11 rfl rfl (s_X11_rawChanged hF.2.1 hF.2.2.1 hF.2.2.2) dX11_dead_1.1.2.2.2 (Nat.le_of_ble_eq_true rfl) rfl ?_
      rintro r38 h ⟨hF1, p38⟩; replace hF := hF.tr hF1 rfl
      have f38_35 := fun j : Nat => hF1.1 35 j rfl rfl
      refine zW_aload_n (pc' := 42) dX11_dead_1.2.1.1.1 rfl rfl ?_
      refine zG_ref (pc' := 45) 33 fg_X11_19 tb30 rfl dX11_dead_1.2.1.1.2 rfl ?_
      refine zW_aload_n (pc' := 46) dX11_dead_1.2.1.2.1 rfl rfl ?_
      refine zG_ref (pc' := 49) 33 fg_X11_19 tb30 rfl dX11_dead_1.2.1.2.2 rfl ?_
      refine zG_ref (pc' := 52) 35 fg_X11_143 tb33 rfl dX11_dead_1.2.2.1.1 rfl ?_
      have y52_33_0 := hF.1 33 0 rfl rfl
      have y52_33_1 := hF.1 33 1 rfl rfl
      refine cvI1 (pc' := 55) kX5_sumOf vX5_sumOf lk_X11_146 ⟨Nat.le_of_ble_eq_true rfl, Nat.le_of_ble_eq_true rfl⟩ tb33 vq5 rfl rfl (s_X5_sumOfD (b := true) (κ := h) hF.2.2.2 (Fr.rf hF.2.1) _ tb35 (by decide)) dX11_dead_1.2.2.1.2 (Nat.le_of_ble_eq_true rfl) rfl ?_
      rintro r52 z52 ⟨hz52, p52⟩; subst z52
      rw [hF.1 33 0 rfl rfl, hF.1 33 1 rfl rfl] at p52
      exact zV_iret rfl dX11_dead_1.2.2.2 ⟨hF, ⟨by omega, (fun j => by have q0 := a0_35 j; have q1 := a36_35 j; have q2 := f38_35 j; omega)⟩⟩
  · refine zW_iconst (pc' := 13) dX11_dead_0.1.2.2.1 rfl ?_
    exact zV_iret rfl dX11_dead_0.1.2.2.2 ⟨hF, ⟨by omega, (fun j => by have q0 := a0_35 j; omega)⟩⟩

abbrev q_X11_sceneD (κ : Hp) (x1 : Int) (x2 : Int) (x3 : Int) : Int → Hp → Prop := fun r h' => Fm [(34, 999), (35, 999), (39, 1), (30, 12)] κ h' ∧ ((0 ≤ r) ∧ (r ≤ 1) ∧ (r = 1 ↔ (0 ≤ x1 ∧ x1 ≤ 6 ∧ 0 ≤ x2 ∧ x2 ≤ 255 ∧ 0 ≤ x3 ∧ x3 ≤ 255)) ∧ (∀ j : Nat, (r = 1 → j < 256 → h' 35 j = 0) ∧ (r = 0 → h' 35 j = κ 35 j)))
set_option maxHeartbeats 4000000 in
set_option maxRecDepth 20000 in
theorem s_X11_sceneD {G : Ga} {κ : Hp} (hS : SI κ) (hR : KR κ) (hC : KC κ) (x1 : Int) (hx1 : rng x1) (x2 : Int) (hx2 : rng x2) (x3 : Int) (hx3 : rng x3) : zM G mX11_scene yX11_scene [.inr (.inr 30), .inl x1, .inl x2, .inl x3] κ (q_X11_sceneD κ x1 x2 x3) := by
  have f_33_0 := KCw hC
  have f_33_1 := KCh hC
  have f_36_0 := KCk0 hC
  have f_36_1 := KCk1 hC
  unfold rng at hx1
  unfold rng at hx2
  unfold rng at hx3
  have main : ∀ N : Nat, (∀ (v4 : Int) (h : Hp), Fm [(34, 999), (35, 999), (39, 1), (30, 12)] κ h → (0 ≤ x1 ∧ x1 ≤ 6) → (0 ≤ x2 ∧ x2 ≤ 255) → (0 ≤ x3 ∧ x3 ≤ 255) → (0 ≤ v4 ∧ v4 ≤ 16) → (v4 - κ 33 1 ≤ 0) → (∀ j : Nat, h 35 j = κ 35 j) → 32651424 + 35568 * (16 - v4) + 34884 < (N : Int) → zV G mX11_scene (q_X11_sceneD κ x1 x2 x3) 34 [some (.inr (.inr 30)), some (.inl x1), some (.inl x2), some (.inl x3), some (.inl v4), none] [] h) ∧ (∀ (v4 v5 : Int) (h : Hp), Fm [(34, 999), (35, 999), (39, 1), (30, 12)] κ h → (0 ≤ x1 ∧ x1 ≤ 6) → (0 ≤ x2 ∧ x2 ≤ 255) → (0 ≤ x3 ∧ x3 ≤ 255) → (0 ≤ v4 ∧ v4 ≤ 15) → (v4 - κ 33 1 ≤ -1) → (0 ≤ v5 ∧ v5 ≤ 16) → (v5 - κ 33 0 ≤ 0) → (∀ j : Nat, h 35 j = κ 35 j) → 32651424 + 35568 * (16 - v4) + 25308 + 38 * (16 - v5) + 37 < (N : Int) → zV G mX11_scene (q_X11_sceneD κ x1 x2 x3) 49 [some (.inr (.inr 30)), some (.inl x1), some (.inl x2), some (.inl x3), some (.inl v4), some (.inl v5)] [] h) := by
    intro N
    induction N with
    | zero =>
      refine ⟨?_, ?_⟩
      · intro v4 h hF g0 g1 g2 g3 g4 gc0 hm
        exfalso; omega
      · intro v4 v5 h hF g0 g1 g2 g3 g4 g5 g6 gc0 hm
        exfalso; omega
    | succ N ih =>
      obtain ⟨k34, k49⟩ := ih
      refine ⟨?_, ?_⟩
      · intro v4 h hF g0 g1 g2 g3 g4 gc0 hm
        refine zW_iload (pc' := 36) dX11_scene_1.1.1.1.1 rfl rfl ?_
        refine zW_aload_n (pc' := 37) dX11_scene_1.1.1.1.2 rfl rfl ?_
        refine zG_ref (pc' := 40) 33 fg_X11_19 tb30 rfl dX11_scene_1.1.1.2.1 rfl ?_
        refine zGm (pc' := 43) hF rfl rfl fg_X11_127 tb33 rfl dX11_scene_1.1.1.2.2 rfl ?_
        refine zV_cm_ge (tgt := 117) (pc' := 46) dX11_scene_1.1.2.1.1 rfl rfl ⟨by omega, by omega⟩ ⟨by omega, by omega⟩ (fun c43 => ?_) (fun c43 => ?_)
        · refine zW_aload_n (pc' := 118) dX11_scene_3.2.1.1.2 rfl rfl ?_
          refine zG_ref (pc' := 121) 33 fg_X11_19 tb30 rfl dX11_scene_3.2.1.2.1 rfl ?_
          refine cvV0 (pc' := 124) kX5_wake vX5_wake lk_X11_158 ⟨Nat.le_of_ble_eq_true rfl, Nat.le_of_ble_eq_true rfl⟩ tb33 vq5 rfl rfl (s_X5_wakeD hF.2.1 hF.2.2.1 hF.2.2.2) dX11_scene_3.2.1.2.2 (Nat.le_of_ble_eq_true rfl) rfl ?_
          rintro r121 h ⟨hF1, p121⟩; replace hF := hF.tr hF1 rfl
          have a121_0 := p121
          refine zW_aload_n (pc' := 125) dX11_scene_3.2.2.1.1 rfl rfl ?_
          refine cvV0 (pc' := 128) kX11_rawChanged vX11_rawChanged lk_X11_124 ⟨Nat.le_of_ble_eq_true rfl, Nat.le_of_ble_eq_true rfl⟩ tb30 vq11 rfl rfl (s_X11_rawChanged hF.2.1 hF.2.2.1 hF.2.2.2) dX11_scene_3.2.2.1.2 (Nat.le_of_ble_eq_true rfl) rfl ?_
          rintro r125 h ⟨hF1, p125⟩; replace hF := hF.tr hF1 rfl
          have f125_35 := fun j : Nat => hF1.1 35 j rfl rfl
          refine zW_iconst (pc' := 129) dX11_scene_3.2.2.2.1 rfl ?_
          exact zV_zret rfl (by omega) dX11_scene_3.2.2.2.2 ⟨hF, ⟨by omega, by omega, by omega, (fun j => by have q0 := gc0 j; have q1 := a121_0 j; have q2 := f125_35 j; omega)⟩⟩
        · refine zW_iconst (pc' := 47) dX11_scene_1.1.2.1.2 rfl ?_
          refine zW_istore (ls' := [_, _, _, _, _, _]) (pc' := 49) dX11_scene_1.1.2.2.1 (by decide) rfl rfl rfl ?_
          exact k49 _ _ _ hF (by omega) (by omega) (by omega) (by omega) (by omega) (by omega) (by omega) (fun j => by have q0 := gc0 j; omega) (by omega)
      · intro v4 v5 h hF g0 g1 g2 g3 g4 g5 g6 gc0 hm
        refine zW_iload (pc' := 51) dX11_scene_1.1.2.2.2 rfl rfl ?_
        refine zW_aload_n (pc' := 52) dX11_scene_1.2.1.1.1 rfl rfl ?_
        refine zG_ref (pc' := 55) 33 fg_X11_19 tb30 rfl dX11_scene_1.2.1.1.2 rfl ?_
        refine zGm (pc' := 58) hF rfl rfl fg_X11_130 tb33 rfl dX11_scene_1.2.1.2.1 rfl ?_
        refine zV_cm_ge (tgt := 111) (pc' := 61) dX11_scene_1.2.1.2.2 rfl rfl ⟨by omega, by omega⟩ ⟨by omega, by omega⟩ (fun c58 => ?_) (fun c58 => ?_)
        · refine zW_iinc (ls' := [_, _, _, _, _, _]) (pc' := 114) dX11_scene_3.1.2.2.2 rfl (by decide) rfl rfl rfl ?_
          refine zV_goto 34 dX11_scene_3.2.1.1.1 rfl ?_
          refine zV_clr 5 (ls' := [_, _, _, _, _, _]) rfl ?_
          exact k34 _ _ hF (by omega) (by omega) (by omega) (by omega) (by omega) (fun j => by have q0 := gc0 j; omega) (by omega)
        · refine zW_aload_n (pc' := 62) dX11_scene_1.2.2.1.1 rfl rfl ?_
          refine zG_ref (pc' := 65) 33 fg_X11_19 tb30 rfl dX11_scene_1.2.2.1.2 rfl ?_
          refine zG_ref (pc' := 68) 34 fg_X11_133 tb33 rfl dX11_scene_1.2.2.2.1 rfl ?_
          refine zW_iload (pc' := 70) dX11_scene_1.2.2.2.2 rfl rfl ?_
          refine zW_bipush (pc' := 72) dX11_scene_2.1.1.1.1 rfl rfl ?_
          refine zW_imul (pc' := 73) dX11_scene_2.1.1.1.2 rfl ?_
          refine zW_iload (pc' := 75) dX11_scene_2.1.1.2.1 rfl rfl ?_
          refine zW_iadd (pc' := 76) dX11_scene_2.1.1.2.2 rfl ?_
          refine zW_iload_n (pc' := 77) dX11_scene_2.1.2.1.1 rfl rfl ?_
          refine zW_iconst (pc' := 78) dX11_scene_2.1.2.1.2 rfl ?_
          refine zV_cm_ne (tgt := 90) (pc' := 81) dX11_scene_2.1.2.2.1 rfl rfl ⟨by omega, by omega⟩ ⟨by omega, by omega⟩ (fun c78 => ?_) (fun c78 => ?_)
          · refine zW_aload_n (pc' := 91) dX11_scene_2.2.2.1.1 rfl rfl ?_
            refine zG_ref (pc' := 94) 33 fg_X11_19 tb30 rfl dX11_scene_2.2.2.1.2 rfl ?_
            refine zW_iload_n (pc' := 95) dX11_scene_2.2.2.2.1 rfl rfl ?_
            refine zW_iload_n (pc' := 96) dX11_scene_2.2.2.2.2 rfl rfl ?_
            refine zW_iload_n (pc' := 97) dX11_scene_3.1.1.1.1 rfl rfl ?_
            refine zW_iload (pc' := 99) dX11_scene_3.1.1.1.2 rfl rfl ?_
            refine zW_iload (pc' := 101) dX11_scene_3.1.1.2.1 rfl rfl ?_
            have y101_33_0 := hF.1 33 0 rfl rfl
            have y101_33_1 := hF.1 33 1 rfl rfl
            refine cvI5 (pc' := 104) kX5_laid vX5_laid lk_X11_154 ⟨Nat.le_of_ble_eq_true rfl, Nat.le_of_ble_eq_true rfl⟩ tb33 vq5 rfl rfl (s_X5_laid (b := true) (κ := h) hF.2.2.2 (Fr.rf hF.2.1) _ ⟨by omega, by omega⟩ _ _ _ ⟨by omega, by omega, by omega⟩ _ ⟨by omega, by omega, by omega⟩) dX11_scene_3.1.1.2.2 (Nat.le_of_ble_eq_true rfl) rfl ?_
            rintro r101 z101 ⟨hz101, p101⟩; subst z101
            refine zSm (pc' := 105) hF rfl (fun v' hv he => ⟨(SI_irr hF.2.1 (Or.inl (key_of rfl _)) (fun _ _ => hv)), (KR_irr hF.2.2.1 rfl), (KC_irr hF.2.2.2 rfl)⟩) tb34 (by omega) dX11_scene_3.1.2.1.1 (by decide) rfl (fun h i104 hF a104 b104 w104 => ?_)
            have a104_35 := fun j : Nat => (congrFun (congrFun w104 35) j).trans (zwr_ne (Or.inl (by decide)))
            refine zW_iinc (ls' := [_, _, _, _, _, _]) (pc' := 108) dX11_scene_3.1.2.1.2 rfl (by decide) rfl rfl rfl ?_
            refine zV_goto 49 dX11_scene_3.1.2.2.1 rfl ?_
            exact k49 _ _ _ hF (by omega) (by omega) (by omega) (by omega) (by omega) (by omega) (by omega) (fun j => by have q0 := gc0 j; have q1 := a104_35 j; omega) (by omega)
          · refine zW_aload_n (pc' := 82) dX11_scene_2.1.2.2.2 rfl rfl ?_
            refine zW_iload_n (pc' := 83) dX11_scene_2.2.1.1.1 rfl rfl ?_
            refine zW_iload_n (pc' := 84) dX11_scene_2.2.1.1.2 rfl rfl ?_
            refine cvI2 (pc' := 87) kX11_drawn vX11_drawn lk_X11_150 ⟨Nat.le_of_ble_eq_true rfl, Nat.le_of_ble_eq_true rfl⟩ tb30 vq11 rfl rfl (s_X11_drawn hF.2.1 hF.2.2.1 hF.2.2.2 _ ⟨by omega, by omega⟩ _ ⟨by omega, by omega⟩) dX11_scene_2.2.1.2.1 (Nat.le_of_ble_eq_true rfl) rfl ?_
            rintro r84 h ⟨hF1, p84⟩; replace hF := hF.tr hF1 rfl
            have f84_35 := fun j : Nat => hF1.1 35 j rfl rfl
            refine zV_goto 104 dX11_scene_2.2.1.2.2 rfl ?_
            refine zSm (pc' := 105) hF rfl (fun v' hv he => ⟨(SI_irr hF.2.1 (Or.inl (key_of rfl _)) (fun _ _ => hv)), (KR_irr hF.2.2.1 rfl), (KC_irr hF.2.2.2 rfl)⟩) tb34 (by omega) dX11_scene_3.1.2.1.1 (by decide) rfl (fun h i104 hF a104 b104 w104 => ?_)
            have a104_35 := fun j : Nat => (congrFun (congrFun w104 35) j).trans (zwr_ne (Or.inl (by decide)))
            refine zW_iinc (ls' := [_, _, _, _, _, _]) (pc' := 108) dX11_scene_3.1.2.1.2 rfl (by decide) rfl rfl rfl ?_
            refine zV_goto 49 dX11_scene_3.1.2.2.1 rfl ?_
            exact k49 _ _ _ hF (by omega) (by omega) (by omega) (by omega) (by omega) (by omega) (by omega) (fun j => by have q0 := gc0 j; have q1 := f84_35 j; have q2 := a104_35 j; omega) (by omega)
  refine zM_of [some (.inr (.inr 30)), some (.inl x1), some (.inl x2), some (.inl x3), none, none] 2 rfl rfl (Nat.le_of_ble_eq_true rfl) rfl ?_
  refine (show ∀ h : Hp, Fm [(34, 999), (35, 999), (39, 1), (30, 12)] κ h → h = κ → zV G mX11_scene (q_X11_sceneD κ x1 x2 x3) 0 [some (.inr (.inr 30)), some (.inl x1), some (.inl x2), some (.inl x3), none, none] [] h from fun h hF hk0 => ?_) κ (Fm.rf hS hR hC) rfl
  have a0_35 := fun j : Nat => congrFun (congrFun hk0 35) j
  refine zW_iload_n (pc' := 1) dX11_scene_0.1.1.1.1 rfl rfl ?_
  refine zW_bipush (pc' := 3) dX11_scene_0.1.1.1.2 rfl rfl ?_
  refine csI2 (pc' := 6) kX11_isWithin vX11_isWithin lk_X11_116 ⟨Nat.le_of_ble_eq_true rfl, Nat.le_of_ble_eq_true rfl⟩ rfl (s_X11_isWithinR (b := true) (κ := h) (Fr.rf hF.2.1) _ ⟨by omega, by omega⟩ _ ⟨by omega, by omega⟩) dX11_scene_0.1.1.2.1 (Nat.le_of_ble_eq_true rfl) rfl ?_
  rintro r3 z3 ⟨hz3, p3⟩; subst z3
  refine zV_if_eq (tgt := 29) (pc' := 9) dX11_scene_0.1.1.2.2 rfl rfl ⟨by omega, by omega⟩ (fun c6 => ?_) (fun c6 => ?_)
  · refine zW_iconst (pc' := 30) dX11_scene_0.2.2.1.1 rfl ?_
    exact zV_zret rfl (by omega) dX11_scene_0.2.2.1.2 ⟨hF, ⟨by omega, by omega, by omega, (fun j => by have q0 := a0_35 j; omega)⟩⟩
  · refine zW_iload_n (pc' := 10) dX11_scene_0.1.2.1.1 rfl rfl ?_
    refine zW_sipush (pc' := 13) dX11_scene_0.1.2.1.2 rfl rfl ?_
    refine csI2 (pc' := 16) kX11_isWithin vX11_isWithin lk_X11_116 ⟨Nat.le_of_ble_eq_true rfl, Nat.le_of_ble_eq_true rfl⟩ rfl (s_X11_isWithinR (b := true) (κ := h) (Fr.rf hF.2.1) _ ⟨by omega, by omega⟩ _ ⟨by omega, by omega⟩) dX11_scene_0.1.2.2.1 (Nat.le_of_ble_eq_true rfl) rfl ?_
    rintro r13 z13 ⟨hz13, p13⟩; subst z13
    refine zV_if_eq (tgt := 29) (pc' := 19) dX11_scene_0.1.2.2.2 rfl rfl ⟨by omega, by omega⟩ (fun c16 => ?_) (fun c16 => ?_)
    · refine zW_iconst (pc' := 30) dX11_scene_0.2.2.1.1 rfl ?_
      exact zV_zret rfl (by omega) dX11_scene_0.2.2.1.2 ⟨hF, ⟨by omega, by omega, by omega, (fun j => by have q0 := a0_35 j; omega)⟩⟩
    · refine zW_iload_n (pc' := 20) dX11_scene_0.2.1.1.1 rfl rfl ?_
      refine zW_sipush (pc' := 23) dX11_scene_0.2.1.1.2 rfl rfl ?_
      refine csI2 (pc' := 26) kX11_isWithin vX11_isWithin lk_X11_116 ⟨Nat.le_of_ble_eq_true rfl, Nat.le_of_ble_eq_true rfl⟩ rfl (s_X11_isWithinR (b := true) (κ := h) (Fr.rf hF.2.1) _ ⟨by omega, by omega⟩ _ ⟨by omega, by omega⟩) dX11_scene_0.2.1.2.1 (Nat.le_of_ble_eq_true rfl) rfl ?_
      rintro r23 z23 ⟨hz23, p23⟩; subst z23
      refine zV_if_ne (tgt := 31) (pc' := 29) dX11_scene_0.2.1.2.2 rfl rfl ⟨by omega, by omega⟩ (fun c26 => ?_) (fun c26 => ?_)
      · refine zW_iconst (pc' := 32) dX11_scene_0.2.2.2.1 rfl ?_
        refine zW_istore (ls' := [_, _, _, _, _, _]) (pc' := 34) dX11_scene_0.2.2.2.2 (by decide) rfl rfl rfl ?_
        exact (main 10000000000000000000000000000000000000000).1 _ _ hF (by omega) (by omega) (by omega) (by omega) (by omega) (fun j => by have q0 := a0_35 j; omega) (by omega)
      · refine zW_iconst (pc' := 30) dX11_scene_0.2.2.1.1 rfl ?_
        exact zV_zret rfl (by omega) dX11_scene_0.2.2.1.2 ⟨hF, ⟨by omega, by omega, by omega, (fun j => by have q0 := a0_35 j; omega)⟩⟩

abbrev q_X11_truthD (κ : Hp) (x1 : Int) : Int → Hp → Prop := fun r h' => Fm [(34, 999), (35, 999), (40, 999), (39, 1), (31, 1)] κ h' ∧ ((0 ≤ r) ∧ (r ≤ 1) ∧ ((r = 1 ∧ (0 ≤ x1 ∧ x1 ≤ 5 ∧ 6 ≤ κ 31 1) ∧ h' 31 1 = 0) ∨ (r = 0 ∧ ¬ (0 ≤ x1 ∧ x1 ≤ 5 ∧ 6 ≤ κ 31 1) ∧ h' 31 1 = κ 31 1)) ∧ (∀ j : Nat, (r = 1 → j < 256 → h' 35 j = 0) ∧ (r = 0 → h' 35 j = κ 35 j)))
set_option maxHeartbeats 4000000 in
set_option maxRecDepth 20000 in
theorem s_X11_truthD {G : Ga} {κ : Hp} (hS : SI κ) (hR : KR κ) (hC : KC κ) (x1 : Int) (hx1 : rng x1) : zM G mX11_truth yX11_truth [.inr (.inr 30), .inl x1] κ (q_X11_truthD κ x1) := by
  have f_31_1 := KCt hC
  have f_33_0 := KCw hC
  have f_33_1 := KCh hC
  have f_36_0 := KCk0 hC
  have f_36_1 := KCk1 hC
  unfold rng at hx1
  have main : ∀ N : Nat, (∀ (v2 : Int) (h : Hp), Fm [(34, 999), (35, 999), (40, 999), (39, 1), (31, 1)] κ h → (0 ≤ x1 ∧ x1 ≤ 5) → (0 ≤ v2 ∧ v2 ≤ 16) → (v2 - κ 33 1 ≤ 0) → (6 ≤ κ 31 1) → (h 31 1 = 0) → (∀ j : Nat, h 35 j = κ 35 j) → 35604360 + 36630 * (16 - v2) + 35964 < (N : Int) → zV G mX11_truth (q_X11_truthD κ x1) 47 [some (.inr (.inr 30)), some (.inl x1), some (.inl v2), none, none] [] h) ∧ (∀ (v2 v3 : Int) (h : Hp), Fm [(34, 999), (35, 999), (40, 999), (39, 1), (31, 1)] κ h → (0 ≤ x1 ∧ x1 ≤ 5) → (0 ≤ v2 ∧ v2 ≤ 15) → (v2 - κ 33 1 ≤ -1) → (0 ≤ v3 ∧ v3 ≤ 16) → (v3 - κ 33 0 ≤ 0) → (6 ≤ κ 31 1) → (h 31 1 = 0) → (∀ j : Nat, h 35 j = κ 35 j) → 35604360 + 36630 * (16 - v2) + 23976 + 37 * (16 - v3) + 36 < (N : Int) → zV G mX11_truth (q_X11_truthD κ x1) 60 [some (.inr (.inr 30)), some (.inl x1), some (.inl v2), some (.inl v3), none] [] h) := by
    intro N
    induction N with
    | zero =>
      refine ⟨?_, ?_⟩
      · intro v2 h hF g0 g1 g2 gc0 gc1 gc2 hm
        exfalso; omega
      · intro v2 v3 h hF g0 g1 g2 g3 g4 gc0 gc1 gc2 hm
        exfalso; omega
    | succ N ih =>
      obtain ⟨k47, k60⟩ := ih
      refine ⟨?_, ?_⟩
      · intro v2 h hF g0 g1 g2 gc0 gc1 gc2 hm
        refine zW_iload_n (pc' := 48) dX11_truth_1.2.1.1.1 rfl rfl ?_
        refine zW_aload_n (pc' := 49) dX11_truth_1.2.1.1.2 rfl rfl ?_
        refine zG_ref (pc' := 52) 33 fg_X11_19 tb30 rfl dX11_truth_1.2.1.2.1 rfl ?_
        refine zGm (pc' := 55) hF rfl rfl fg_X11_127 tb33 rfl dX11_truth_1.2.1.2.2 rfl ?_
        refine zV_cm_ge (tgt := 125) (pc' := 58) dX11_truth_1.2.2.1.1 rfl rfl ⟨by omega, by omega⟩ ⟨by omega, by omega⟩ (fun c55 => ?_) (fun c55 => ?_)
        · refine zW_aload_n (pc' := 126) dX11_truth_4.1.1.1.1 rfl rfl ?_
          refine zG_ref (pc' := 129) 33 fg_X11_19 tb30 rfl dX11_truth_4.1.1.1.2 rfl ?_
          refine cvV0 (pc' := 132) kX5_wake vX5_wake lk_X11_158 ⟨Nat.le_of_ble_eq_true rfl, Nat.le_of_ble_eq_true rfl⟩ tb33 vq5 rfl rfl (s_X5_wakeD hF.2.1 hF.2.2.1 hF.2.2.2) dX11_truth_4.1.1.2 (Nat.le_of_ble_eq_true rfl) rfl ?_
          rintro r129 h ⟨hF1, p129⟩; replace hF := hF.tr hF1 rfl
          have a129_0 := p129
          have t129_31_1 := hF1.1 31 1 rfl rfl
          refine zW_aload_n (pc' := 133) dX11_truth_4.1.2.1.1 rfl rfl ?_
          refine cvV0 (pc' := 136) kX11_rawChanged vX11_rawChanged lk_X11_124 ⟨Nat.le_of_ble_eq_true rfl, Nat.le_of_ble_eq_true rfl⟩ tb30 vq11 rfl rfl (s_X11_rawChanged hF.2.1 hF.2.2.1 hF.2.2.2) dX11_truth_4.1.2.1.2 (Nat.le_of_ble_eq_true rfl) rfl ?_
          rintro r133 h ⟨hF1, p133⟩; replace hF := hF.tr hF1 rfl
          have f133_35 := fun j : Nat => hF1.1 35 j rfl rfl
          have t133_31_1 := hF1.1 31 1 rfl rfl
          refine zW_aload_n (pc' := 137) dX11_truth_4.1.2.2 rfl rfl ?_
          refine zG_ref (pc' := 140) 39 fg_X11_26 tb30 rfl dX11_truth_4.2.1.1.1 rfl ?_
          refine zW_iconst (pc' := 141) dX11_truth_4.2.1.1.2 rfl ?_
          refine zPmz (pc' := 144) hF (Or.inl rfl) (SI_irr hF.2.1 (Or.inl rfl) (fun _ _ => ⟨by omega, by omega⟩)) (KR_irr hF.2.2.1 rfl) (KC_irr hF.2.2.2 rfl) (by omega) fp_X11_169 tb39 rfl dX11_truth_4.2.1.2 rfl (fun h hF w141 => ?_)
          have a141_35 := fun j : Nat => (congrFun (congrFun w141 35) j).trans (zwr_ne (Or.inl (by decide)))
          have t141_31_1 := congrFun (congrFun w141 31) 1
          rw [zwr_ne (Or.inl (by decide))] at t141_31_1
          refine zW_iconst (pc' := 145) dX11_truth_4.2.2.1 rfl ?_
          exact zV_zret rfl (by omega) dX11_truth_4.2.2.2 ⟨hF, ⟨by omega, by omega, by omega, (fun j => by have q0 := gc2 j; have q1 := a129_0 j; have q2 := f133_35 j; have q3 := a141_35 j; omega)⟩⟩
        · refine zW_iconst (pc' := 59) dX11_truth_1.2.2.1.2 rfl ?_
          refine zW_istore_n (ls' := [_, _, _, _, _]) (pc' := 60) dX11_truth_1.2.2.2.1 (by decide) rfl rfl rfl ?_
          exact k60 _ _ _ hF (by omega) (by omega) (by omega) (by omega) (by omega) (by omega) (by omega) (fun j => by have q0 := gc2 j; omega) (by omega)
      · intro v2 v3 h hF g0 g1 g2 g3 g4 gc0 gc1 gc2 hm
        refine zW_iload_n (pc' := 61) dX11_truth_1.2.2.2.2 rfl rfl ?_
        refine zW_aload_n (pc' := 62) dX11_truth_2.1.1.1.1 rfl rfl ?_
        refine zG_ref (pc' := 65) 33 fg_X11_19 tb30 rfl dX11_truth_2.1.1.1.2 rfl ?_
        refine zGm (pc' := 68) hF rfl rfl fg_X11_130 tb33 rfl dX11_truth_2.1.1.2.1 rfl ?_
        refine zV_cm_ge (tgt := 119) (pc' := 71) dX11_truth_2.1.1.2.2 rfl rfl ⟨by omega, by omega⟩ ⟨by omega, by omega⟩ (fun c68 => ?_) (fun c68 => ?_)
        · refine zW_iinc (ls' := [_, _, _, _, _]) (pc' := 122) dX11_truth_3.2.2.2.1 rfl (by decide) rfl rfl rfl ?_
          refine zV_goto 47 dX11_truth_3.2.2.2.2 rfl ?_
          refine zV_clr 3 (ls' := [_, _, _, _, _]) rfl ?_
          exact k47 _ _ hF (by omega) (by omega) (by omega) (by omega) (by omega) (fun j => by have q0 := gc2 j; omega) (by omega)
        · refine zW_iload_n (pc' := 72) dX11_truth_2.1.2.1.1 rfl rfl ?_
          refine zW_bipush (pc' := 74) dX11_truth_2.1.2.1.2 rfl rfl ?_
          refine zW_imul (pc' := 75) dX11_truth_2.1.2.2.1 rfl ?_
          refine zW_iload_n (pc' := 76) dX11_truth_2.1.2.2.2 rfl rfl ?_
          refine zW_iadd (pc' := 77) dX11_truth_2.2.1.1.1 rfl ?_
          refine zW_istore (ls' := [_, _, _, _, _]) (pc' := 79) dX11_truth_2.2.1.1.2 (by decide) rfl rfl rfl ?_
          refine zW_aload_n (pc' := 80) dX11_truth_2.2.1.2.1 rfl rfl ?_
          refine zG_ref (pc' := 83) 33 fg_X11_19 tb30 rfl dX11_truth_2.2.1.2.2 rfl ?_
          refine zG_ref (pc' := 86) 34 fg_X11_133 tb33 rfl dX11_truth_2.2.2.1.1 rfl ?_
          refine zW_iload (pc' := 88) dX11_truth_2.2.2.1.2 rfl rfl ?_
          refine zW_aload_n (pc' := 89) dX11_truth_2.2.2.2.1 rfl rfl ?_
          refine zG_ref (pc' := 92) 39 fg_X11_26 tb30 rfl dX11_truth_2.2.2.2.2 rfl ?_
          refine zG_ref (pc' := 95) 40 fg_X11_165 tb39 rfl dX11_truth_3.1.1.1.1 rfl ?_
          refine zW_aload_n (pc' := 96) dX11_truth_3.1.1.1.2 rfl rfl ?_
          refine zG_ref (pc' := 99) 33 fg_X11_19 tb30 rfl dX11_truth_3.1.1.2.1 rfl ?_
          refine zW_iload_n (pc' := 100) dX11_truth_3.1.1.2.2 rfl rfl ?_
          refine zW_iload_n (pc' := 101) dX11_truth_3.1.2.1.1 rfl rfl ?_
          refine cvI2 (pc' := 104) kX5_colourOf vX5_colourOf lk_X11_166 ⟨Nat.le_of_ble_eq_true rfl, Nat.le_of_ble_eq_true rfl⟩ tb33 vq5 rfl rfl (s_X5_colourOf (b := true) (κ := h) hF.2.2.2 (Fr.rf hF.2.1) _ _) dX11_truth_3.1.2.1.2 (Nat.le_of_ble_eq_true rfl) rfl ?_
          rintro r101 z101 ⟨hz101, p101⟩; subst z101
          refine zW_sipush (pc' := 107) dX11_truth_3.1.2.2.1 rfl rfl ?_
          refine zW_imul (pc' := 108) dX11_truth_3.1.2.2.2 rfl ?_
          refine zW_iload (pc' := 110) dX11_truth_3.2.1.1.1 rfl rfl ?_
          refine zW_iadd (pc' := 111) dX11_truth_3.2.1.1.2 rfl ?_
          refine zAmI (pc' := 112) hF (by decide) (by decide) tb40 (by omega) dX11_truth_3.2.1.2.1 (by decide) rfl (fun e111 => ?_)
          refine zSm (pc' := 113) hF rfl (fun v' hv he => ⟨(SI_irr hF.2.1 (Or.inl (key_of rfl _)) (fun _ _ => hv)), (KR_irr hF.2.2.1 rfl), (KC_irr hF.2.2.2 rfl)⟩) tb34 (by omega) dX11_truth_3.2.1.2.2 (by decide) rfl (fun h i112 hF a112 b112 w112 => ?_)
          have a112_35 := fun j : Nat => (congrFun (congrFun w112 35) j).trans (zwr_ne (Or.inl (by decide)))
          have t112_31_1 := congrFun (congrFun w112 31) 1
          rw [zwr_ne (Or.inl (by decide))] at t112_31_1
          refine zW_iinc (ls' := [_, _, _, _, _]) (pc' := 116) dX11_truth_3.2.2.1.1 rfl (by decide) rfl rfl rfl ?_
          refine zV_goto 60 dX11_truth_3.2.2.1.2 rfl ?_
          refine zV_clr 4 (ls' := [_, _, _, _, _]) rfl ?_
          exact k60 _ _ _ hF (by omega) (by omega) (by omega) (by omega) (by omega) (by omega) (by omega) (fun j => by have q0 := gc2 j; have q1 := a112_35 j; omega) (by omega)
  refine zM_of [some (.inr (.inr 30)), some (.inl x1), none, none, none] 3 rfl rfl (Nat.le_of_ble_eq_true rfl) rfl ?_
  refine (show ∀ h : Hp, Fm [(34, 999), (35, 999), (40, 999), (39, 1), (31, 1)] κ h → h = κ → zV G mX11_truth (q_X11_truthD κ x1) 0 [some (.inr (.inr 30)), some (.inl x1), none, none, none] [] h from fun h hF hk0 => ?_) κ (Fm.rf hS hR hC) rfl
  have y0_31_1 : h 31 1 = κ 31 1 := by rw [hk0]
  have a0_35 := fun j : Nat => congrFun (congrFun hk0 35) j
  refine zW_iload_n (pc' := 1) dX11_truth_0.1.1.1.1 rfl rfl ?_
  refine zW_iconst (pc' := 2) dX11_truth_0.1.1.1.2 rfl ?_
  refine csI2 (pc' := 5) kX11_isWithin vX11_isWithin lk_X11_116 ⟨Nat.le_of_ble_eq_true rfl, Nat.le_of_ble_eq_true rfl⟩ rfl (s_X11_isWithinR (b := true) (κ := h) (Fr.rf hF.2.1) _ ⟨by omega, by omega⟩ _ ⟨by omega, by omega⟩) dX11_truth_0.1.1.2.1 (Nat.le_of_ble_eq_true rfl) rfl ?_
  rintro r2 z2 ⟨hz2, p2⟩; subst z2
  refine zV_if_eq (tgt := 20) (pc' := 8) dX11_truth_0.1.1.2.2 rfl rfl ⟨by omega, by omega⟩ (fun c5 => ?_) (fun c5 => ?_)
  · refine zW_iconst (pc' := 21) dX11_truth_0.2.1.1.2 rfl ?_
    exact zV_zret rfl (by omega) dX11_truth_0.2.1.2.1 ⟨hF, ⟨by omega, by omega, by omega, (fun j => by have q0 := a0_35 j; omega)⟩⟩
  · refine zW_aload_n (pc' := 9) dX11_truth_0.1.2.1.1 rfl rfl ?_
    refine zG_ref (pc' := 12) 31 fg_X11_10 tb30 rfl dX11_truth_0.1.2.1.2 rfl ?_
    refine zG_int (pc' := 15) fg_X11_88 tb31 rfl dX11_truth_0.1.2.2.1 rfl ?_
    have e12 := KCt hF.2.2.2
    refine zW_bipush (pc' := 17) dX11_truth_0.1.2.2.2 rfl rfl ?_
    refine zV_cm_ge (tgt := 22) (pc' := 20) dX11_truth_0.2.1.1.1 rfl rfl ⟨by omega, by omega⟩ ⟨by omega, by omega⟩ (fun c17 => ?_) (fun c17 => ?_)
    · refine zW_aload_n (pc' := 23) dX11_truth_0.2.1.2.2 rfl rfl ?_
      refine zG_ref (pc' := 26) 39 fg_X11_26 tb30 rfl dX11_truth_0.2.2.1.1 rfl ?_
      refine zW_iload_n (pc' := 27) dX11_truth_0.2.2.1.2 rfl rfl ?_
      refine zW_aload_n (pc' := 28) dX11_truth_0.2.2.2.1 rfl rfl ?_
      refine zG_ref (pc' := 31) 31 fg_X11_10 tb30 rfl dX11_truth_0.2.2.2.2 rfl ?_
      refine zW_aload_n (pc' := 32) dX11_truth_1.1.1.1.1 rfl rfl ?_
      refine zG_ref (pc' := 35) 33 fg_X11_19 tb30 rfl dX11_truth_1.1.1.1.2 rfl ?_
      refine cvV3 (pc' := 38) kX10_lay vX10_lay lk_X11_161 ⟨Nat.le_of_ble_eq_true rfl, Nat.le_of_ble_eq_true rfl⟩ tb39 vq10 rfl rfl (s_X10_lay hF.2.1 hF.2.2.1 hF.2.2.2 _ ⟨by omega, by omega⟩) dX11_truth_1.1.1.2.1 (Nat.le_of_ble_eq_true rfl) rfl ?_
      rintro r35 h ⟨hF1, p35⟩; replace hF := hF.tr hF1 rfl
      have f35_35 := fun j : Nat => hF1.1 35 j rfl rfl
      have t35_31_1 := hF1.1 31 1 rfl rfl
      refine zW_aload_n (pc' := 39) dX11_truth_1.1.1.2.2 rfl rfl ?_
      refine zG_ref (pc' := 42) 31 fg_X11_10 tb30 rfl dX11_truth_1.1.2.1.1 rfl ?_
      refine cvV0 (pc' := 45) kX9_empty vX9_empty lk_X11_99 ⟨Nat.le_of_ble_eq_true rfl, Nat.le_of_ble_eq_true rfl⟩ tb31 vq9 rfl rfl (s_X9_empty hF.2.1 hF.2.2.1 hF.2.2.2) dX11_truth_1.1.2.1.2 (Nat.le_of_ble_eq_true rfl) rfl ?_
      rintro r42 h ⟨hF1, p42⟩; replace hF := hF.tr hF1 rfl
      have f42_35 := fun j : Nat => hF1.1 35 j rfl rfl
      refine zW_iconst (pc' := 46) dX11_truth_1.1.2.2.1 rfl ?_
      refine zW_istore_n (ls' := [_, _, _, _, _]) (pc' := 47) dX11_truth_1.1.2.2.2 (by decide) rfl rfl rfl ?_
      exact (main 10000000000000000000000000000000000000000).1 _ _ hF (by omega) (by omega) (by omega) (by omega) (by omega) (fun j => by have q0 := a0_35 j; have q1 := f35_35 j; have q2 := f42_35 j; omega) (by omega)
    · refine zW_iconst (pc' := 21) dX11_truth_0.2.1.1.2 rfl ?_
      exact zV_zret rfl (by omega) dX11_truth_0.2.1.2.1 ⟨hF, ⟨by omega, by omega, by omega, (fun j => by have q0 := a0_35 j; omega)⟩⟩

abbrev q_X5_copyFromV36_33D (κ : Hp)  : Int → Hp → Prop := fun r h' => Fm [(36, 0), (36, 1), (36, 2), (37, 999), (38, 999)] κ h' ∧ ((h' 36 0 = κ 33 0 ∧ h' 36 1 = κ 33 1 ∧ h' 36 2 = κ 33 2) ∧ (∀ j : Nat, j < 256 → h' 38 j = κ 35 j))
set_option maxHeartbeats 4000000 in
set_option maxRecDepth 20000 in
theorem s_X5_copyFromV36_33D {G : Ga} {κ : Hp} (hS : SI κ) (hR : KR κ) (hC : KC κ)  : zM G mX5_copyFrom yX5_copyFrom [.inr (.inr 36), .inr (.inr 33)] κ (q_X5_copyFromV36_33D κ) := by
  have f_33_0 := KCw hC
  have f_33_1 := KCh hC
  have f_33_2 := KCp hC
  have f_36_0 := KCk0 hC
  have f_36_1 := KCk1 hC
  have f_36_2 := KCk2 hC
  refine zM_of [some (.inr (.inr 36)), some (.inr (.inr 33))] 0 rfl rfl (Nat.le_of_ble_eq_true rfl) rfl ?_
  refine (show ∀ h : Hp, Fm [(36, 0), (36, 1), (36, 2), (37, 999), (38, 999)] κ h → h = κ → zV G mX5_copyFrom (q_X5_copyFromV36_33D κ) 0 [some (.inr (.inr 36)), some (.inr (.inr 33))] [] h from fun h hF hk0 => ?_) κ (Fm.rf hS hR hC) rfl
  have a0_35 := fun j : Nat => congrFun (congrFun hk0 35) j
  have a0_38 := fun j : Nat => congrFun (congrFun hk0 38) j
  refine zW_aload_n (pc' := 1) dX5_copyFrom_0.1.1.1.1 rfl rfl ?_
  refine zW_aload_n (pc' := 2) dX5_copyFrom_0.1.1.1.2 rfl rfl ?_
  refine zGm (pc' := 5) hF rfl rfl fg_X5_9 tb33 rfl dX5_copyFrom_0.1.1.2.1 rfl ?_
  refine zPm (pc' := 8) hF (Or.inl rfl) (SI_irr hF.2.1 (Or.inl rfl) (fun _ _ => ⟨by omega, by omega⟩)) (KR_irr hF.2.2.1 rfl) (KC_36_0 hF.2.2.2 (by omega)) fp_X5_9 tb36 rfl dX5_copyFrom_0.1.1.2.2 rfl (fun h hF w5 => ?_)
  have a5_35 := fun j : Nat => (congrFun (congrFun w5 35) j).trans (zwr_ne (Or.inl (by decide)))
  have a5_38 := fun j : Nat => (congrFun (congrFun w5 38) j).trans (zwr_ne (Or.inl (by decide)))
  have t5_36_0 := congrFun (congrFun w5 36) 0
  rw [zwr_eq] at t5_36_0
  have t5_36_1 := congrFun (congrFun w5 36) 1
  rw [zwr_ne (Or.inr (by decide))] at t5_36_1
  have t5_36_2 := congrFun (congrFun w5 36) 2
  rw [zwr_ne (Or.inr (by decide))] at t5_36_2
  refine zW_aload_n (pc' := 9) dX5_copyFrom_0.1.2.1.1 rfl rfl ?_
  refine zW_aload_n (pc' := 10) dX5_copyFrom_0.1.2.1.2 rfl rfl ?_
  refine zGm (pc' := 13) hF rfl rfl fg_X5_15 tb33 rfl dX5_copyFrom_0.1.2.2.1 rfl ?_
  refine zPm (pc' := 16) hF (Or.inl rfl) (SI_irr hF.2.1 (Or.inl rfl) (fun _ _ => ⟨by omega, by omega⟩)) (KR_irr hF.2.2.1 rfl) (KC_36_1 hF.2.2.2 (by omega)) fp_X5_15 tb36 rfl dX5_copyFrom_0.1.2.2.2 rfl (fun h hF w13 => ?_)
  have a13_35 := fun j : Nat => (congrFun (congrFun w13 35) j).trans (zwr_ne (Or.inl (by decide)))
  have a13_38 := fun j : Nat => (congrFun (congrFun w13 38) j).trans (zwr_ne (Or.inl (by decide)))
  have t13_36_0 := congrFun (congrFun w13 36) 0
  rw [zwr_ne (Or.inr (by decide))] at t13_36_0
  have t13_36_1 := congrFun (congrFun w13 36) 1
  rw [zwr_eq] at t13_36_1
  have t13_36_2 := congrFun (congrFun w13 36) 2
  rw [zwr_ne (Or.inr (by decide))] at t13_36_2
  refine zW_aload_n (pc' := 17) dX5_copyFrom_0.2.1.1.1 rfl rfl ?_
  refine zW_aload_n (pc' := 18) dX5_copyFrom_0.2.1.1.2 rfl rfl ?_
  refine zGm (pc' := 21) hF rfl rfl fg_X5_25 tb33 rfl dX5_copyFrom_0.2.1.2.1 rfl ?_
  refine zPm (pc' := 24) hF (Or.inl rfl) (SI_irr hF.2.1 (Or.inl rfl) (fun _ _ => ⟨by omega, by omega⟩)) (KR_irr hF.2.2.1 rfl) (KC_36_2 hF.2.2.2 (by omega)) fp_X5_25 tb36 rfl dX5_copyFrom_0.2.1.2.2 rfl (fun h hF w21 => ?_)
  have a21_35 := fun j : Nat => (congrFun (congrFun w21 35) j).trans (zwr_ne (Or.inl (by decide)))
  have a21_38 := fun j : Nat => (congrFun (congrFun w21 38) j).trans (zwr_ne (Or.inl (by decide)))
  have t21_36_0 := congrFun (congrFun w21 36) 0
  rw [zwr_ne (Or.inr (by decide))] at t21_36_0
  have t21_36_1 := congrFun (congrFun w21 36) 1
  rw [zwr_ne (Or.inr (by decide))] at t21_36_1
  have t21_36_2 := congrFun (congrFun w21 36) 2
  rw [zwr_eq] at t21_36_2
  refine zW_aload_n (pc' := 25) dX5_copyFrom_0.2.2.1.1 rfl rfl ?_
  refine zG_ref (pc' := 28) 34 fg_X5_18 tb33 rfl dX5_copyFrom_0.2.2.1.2 rfl ?_
  refine zW_iconst (pc' := 29) dX5_copyFrom_0.2.2.2.1 rfl ?_
  refine zW_aload_n (pc' := 30) dX5_copyFrom_0.2.2.2.2 rfl rfl ?_
  refine zG_ref (pc' := 33) 37 fg_X5_18 tb36 rfl dX5_copyFrom_1.1.1.1.1 rfl ?_
  refine zW_iconst (pc' := 34) dX5_copyFrom_1.1.1.1.2 rfl ?_
  refine zW_sipush (pc' := 37) dX5_copyFrom_1.1.1.2.1 rfl rfl ?_
  refine zV_acopy (pc' := 40) tb34 tb37 (by omega) (by omega) (by omega) (by omega) (by decide) (by decide) ka_X5_37 (Nat.le_of_ble_eq_true rfl) (Nat.le_of_ble_eq_true rfl) dX5_copyFrom_1.1.1.2.2 rfl ?_
  have hz37 := hF.zc (a := 34) (c := 37) (d := 0) (n := 256) rfl rfl (by decide) (by decide) (KC_zc hF.2.2.2 rfl)
  refine (show ∀ h1 : Hp, Fm [(36, 0), (36, 1), (36, 2), (37, 999), (38, 999)] κ h1 → h1 = zcp h 34 37 0 256 → zV _ _ _ _ _ _ h1 from fun h hF w37 => ?_) _ hz37 rfl
  have a37_35 := fun j : Nat => (congrFun (congrFun w37 35) j).trans (zcp_ne (by decide))
  have a37_38 := fun j : Nat => (congrFun (congrFun w37 38) j).trans (zcp_ne (by decide))
  have t37_36_0 := congrFun (congrFun w37 36) 0
  rw [zcp_ne (by decide)] at t37_36_0
  have t37_36_1 := congrFun (congrFun w37 36) 1
  rw [zcp_ne (by decide)] at t37_36_1
  have t37_36_2 := congrFun (congrFun w37 36) 2
  rw [zcp_ne (by decide)] at t37_36_2
  refine zW_aload_n (pc' := 41) dX5_copyFrom_1.1.2.1.1 rfl rfl ?_
  refine zG_ref (pc' := 44) 35 fg_X5_22 tb33 rfl dX5_copyFrom_1.1.2.1.2 rfl ?_
  refine zW_iconst (pc' := 45) dX5_copyFrom_1.1.2.2 rfl ?_
  refine zW_aload_n (pc' := 46) dX5_copyFrom_1.2.1.1.1 rfl rfl ?_
  refine zG_ref (pc' := 49) 38 fg_X5_22 tb36 rfl dX5_copyFrom_1.2.1.1.2 rfl ?_
  refine zW_iconst (pc' := 50) dX5_copyFrom_1.2.1.2 rfl ?_
  refine zW_sipush (pc' := 53) dX5_copyFrom_1.2.2.1.1 rfl rfl ?_
  refine zV_acopy (pc' := 56) tb35 tb38 (by omega) (by omega) (by omega) (by omega) (by decide) (by decide) ka_X5_37 (Nat.le_of_ble_eq_true rfl) (Nat.le_of_ble_eq_true rfl) dX5_copyFrom_1.2.2.1.2 rfl ?_
  have hz53 := hF.zc (a := 35) (c := 38) (d := 0) (n := 256) rfl rfl (by decide) (by decide) (KC_zc hF.2.2.2 rfl)
  refine (show ∀ h1 : Hp, Fm [(36, 0), (36, 1), (36, 2), (37, 999), (38, 999)] κ h1 → h1 = zcp h 35 38 0 256 → zV _ _ _ _ _ _ h1 from fun h hF w53 => ?_) _ hz53 rfl
  have a53_35 := fun j : Nat => (congrFun (congrFun w53 35) j).trans (zcp_ne (by decide))
  have a53_38 := fun j : Nat => zcp_pt (congrFun (congrFun w53 38) j)
  have t53_36_0 := congrFun (congrFun w53 36) 0
  rw [zcp_ne (by decide)] at t53_36_0
  have t53_36_1 := congrFun (congrFun w53 36) 1
  rw [zcp_ne (by decide)] at t53_36_1
  have t53_36_2 := congrFun (congrFun w53 36) 2
  rw [zcp_ne (by decide)] at t53_36_2
  exact zV_vret rfl dX5_copyFrom_1.2.2.2 ⟨hF, ⟨by omega, (fun j => by have q0 := a0_35 j; have q1 := a0_38 j; have q2 := a5_35 j; have q3 := a5_38 j; have q4 := a13_35 j; have q5 := a13_38 j; have q6 := a21_35 j; have q7 := a21_38 j; have q8 := a37_35 j; have q9 := a37_38 j; have q10 := a53_35 j; have q11 := a53_38 j; omega)⟩⟩

abbrev q_X5_copyFromV33_36D (κ : Hp)  : Int → Hp → Prop := fun r h' => Fm [(33, 0), (33, 1), (33, 2), (34, 999), (35, 999)] κ h' ∧ ((h' 33 0 = κ 36 0 ∧ h' 33 1 = κ 36 1 ∧ h' 33 2 = κ 36 2) ∧ (∀ j : Nat, j < 256 → h' 35 j = κ 38 j))
set_option maxHeartbeats 4000000 in
set_option maxRecDepth 20000 in
theorem s_X5_copyFromV33_36D {G : Ga} {κ : Hp} (hS : SI κ) (hR : KR κ) (hC : KC κ)  : zM G mX5_copyFrom yX5_copyFrom [.inr (.inr 33), .inr (.inr 36)] κ (q_X5_copyFromV33_36D κ) := by
  have f_33_0 := KCw hC
  have f_33_1 := KCh hC
  have f_33_2 := KCp hC
  have f_36_0 := KCk0 hC
  have f_36_1 := KCk1 hC
  have f_36_2 := KCk2 hC
  refine zM_of [some (.inr (.inr 33)), some (.inr (.inr 36))] 0 rfl rfl (Nat.le_of_ble_eq_true rfl) rfl ?_
  refine (show ∀ h : Hp, Fm [(33, 0), (33, 1), (33, 2), (34, 999), (35, 999)] κ h → h = κ → zV G mX5_copyFrom (q_X5_copyFromV33_36D κ) 0 [some (.inr (.inr 33)), some (.inr (.inr 36))] [] h from fun h hF hk0 => ?_) κ (Fm.rf hS hR hC) rfl
  have a0_35 := fun j : Nat => congrFun (congrFun hk0 35) j
  have a0_38 := fun j : Nat => congrFun (congrFun hk0 38) j
  refine zW_aload_n (pc' := 1) dX5_copyFrom_0.1.1.1.1 rfl rfl ?_
  refine zW_aload_n (pc' := 2) dX5_copyFrom_0.1.1.1.2 rfl rfl ?_
  refine zGm (pc' := 5) hF rfl rfl fg_X5_9 tb36 rfl dX5_copyFrom_0.1.1.2.1 rfl ?_
  refine zPm (pc' := 8) hF (Or.inl rfl) (SI_irr hF.2.1 (Or.inl rfl) (fun _ _ => ⟨by omega, by omega⟩)) (KR_irr hF.2.2.1 rfl) (KC_33_0 hF.2.2.2 (by omega)) fp_X5_9 tb33 rfl dX5_copyFrom_0.1.1.2.2 rfl (fun h hF w5 => ?_)
  have a5_35 := fun j : Nat => (congrFun (congrFun w5 35) j).trans (zwr_ne (Or.inl (by decide)))
  have a5_38 := fun j : Nat => (congrFun (congrFun w5 38) j).trans (zwr_ne (Or.inl (by decide)))
  have t5_33_0 := congrFun (congrFun w5 33) 0
  rw [zwr_eq] at t5_33_0
  have t5_33_1 := congrFun (congrFun w5 33) 1
  rw [zwr_ne (Or.inr (by decide))] at t5_33_1
  have t5_33_2 := congrFun (congrFun w5 33) 2
  rw [zwr_ne (Or.inr (by decide))] at t5_33_2
  refine zW_aload_n (pc' := 9) dX5_copyFrom_0.1.2.1.1 rfl rfl ?_
  refine zW_aload_n (pc' := 10) dX5_copyFrom_0.1.2.1.2 rfl rfl ?_
  refine zGm (pc' := 13) hF rfl rfl fg_X5_15 tb36 rfl dX5_copyFrom_0.1.2.2.1 rfl ?_
  refine zPm (pc' := 16) hF (Or.inl rfl) (SI_irr hF.2.1 (Or.inl rfl) (fun _ _ => ⟨by omega, by omega⟩)) (KR_irr hF.2.2.1 rfl) (KC_33_1 hF.2.2.2 (by omega)) fp_X5_15 tb33 rfl dX5_copyFrom_0.1.2.2.2 rfl (fun h hF w13 => ?_)
  have a13_35 := fun j : Nat => (congrFun (congrFun w13 35) j).trans (zwr_ne (Or.inl (by decide)))
  have a13_38 := fun j : Nat => (congrFun (congrFun w13 38) j).trans (zwr_ne (Or.inl (by decide)))
  have t13_33_0 := congrFun (congrFun w13 33) 0
  rw [zwr_ne (Or.inr (by decide))] at t13_33_0
  have t13_33_1 := congrFun (congrFun w13 33) 1
  rw [zwr_eq] at t13_33_1
  have t13_33_2 := congrFun (congrFun w13 33) 2
  rw [zwr_ne (Or.inr (by decide))] at t13_33_2
  refine zW_aload_n (pc' := 17) dX5_copyFrom_0.2.1.1.1 rfl rfl ?_
  refine zW_aload_n (pc' := 18) dX5_copyFrom_0.2.1.1.2 rfl rfl ?_
  refine zGm (pc' := 21) hF rfl rfl fg_X5_25 tb36 rfl dX5_copyFrom_0.2.1.2.1 rfl ?_
  refine zPm (pc' := 24) hF (Or.inl rfl) (SI_irr hF.2.1 (Or.inl rfl) (fun _ _ => ⟨by omega, by omega⟩)) (KR_irr hF.2.2.1 rfl) (KC_33_2 hF.2.2.2 (by omega)) fp_X5_25 tb33 rfl dX5_copyFrom_0.2.1.2.2 rfl (fun h hF w21 => ?_)
  have a21_35 := fun j : Nat => (congrFun (congrFun w21 35) j).trans (zwr_ne (Or.inl (by decide)))
  have a21_38 := fun j : Nat => (congrFun (congrFun w21 38) j).trans (zwr_ne (Or.inl (by decide)))
  have t21_33_0 := congrFun (congrFun w21 33) 0
  rw [zwr_ne (Or.inr (by decide))] at t21_33_0
  have t21_33_1 := congrFun (congrFun w21 33) 1
  rw [zwr_ne (Or.inr (by decide))] at t21_33_1
  have t21_33_2 := congrFun (congrFun w21 33) 2
  rw [zwr_eq] at t21_33_2
  refine zW_aload_n (pc' := 25) dX5_copyFrom_0.2.2.1.1 rfl rfl ?_
  refine zG_ref (pc' := 28) 37 fg_X5_18 tb36 rfl dX5_copyFrom_0.2.2.1.2 rfl ?_
  refine zW_iconst (pc' := 29) dX5_copyFrom_0.2.2.2.1 rfl ?_
  refine zW_aload_n (pc' := 30) dX5_copyFrom_0.2.2.2.2 rfl rfl ?_
  refine zG_ref (pc' := 33) 34 fg_X5_18 tb33 rfl dX5_copyFrom_1.1.1.1.1 rfl ?_
  refine zW_iconst (pc' := 34) dX5_copyFrom_1.1.1.1.2 rfl ?_
  refine zW_sipush (pc' := 37) dX5_copyFrom_1.1.1.2.1 rfl rfl ?_
  refine zV_acopy (pc' := 40) tb37 tb34 (by omega) (by omega) (by omega) (by omega) (by decide) (by decide) ka_X5_37 (Nat.le_of_ble_eq_true rfl) (Nat.le_of_ble_eq_true rfl) dX5_copyFrom_1.1.1.2.2 rfl ?_
  have hz37 := hF.zc (a := 37) (c := 34) (d := 0) (n := 256) rfl rfl (by decide) (by decide) (KC_zc hF.2.2.2 rfl)
  refine (show ∀ h1 : Hp, Fm [(33, 0), (33, 1), (33, 2), (34, 999), (35, 999)] κ h1 → h1 = zcp h 37 34 0 256 → zV _ _ _ _ _ _ h1 from fun h hF w37 => ?_) _ hz37 rfl
  have a37_35 := fun j : Nat => (congrFun (congrFun w37 35) j).trans (zcp_ne (by decide))
  have a37_38 := fun j : Nat => (congrFun (congrFun w37 38) j).trans (zcp_ne (by decide))
  have t37_33_0 := congrFun (congrFun w37 33) 0
  rw [zcp_ne (by decide)] at t37_33_0
  have t37_33_1 := congrFun (congrFun w37 33) 1
  rw [zcp_ne (by decide)] at t37_33_1
  have t37_33_2 := congrFun (congrFun w37 33) 2
  rw [zcp_ne (by decide)] at t37_33_2
  refine zW_aload_n (pc' := 41) dX5_copyFrom_1.1.2.1.1 rfl rfl ?_
  refine zG_ref (pc' := 44) 38 fg_X5_22 tb36 rfl dX5_copyFrom_1.1.2.1.2 rfl ?_
  refine zW_iconst (pc' := 45) dX5_copyFrom_1.1.2.2 rfl ?_
  refine zW_aload_n (pc' := 46) dX5_copyFrom_1.2.1.1.1 rfl rfl ?_
  refine zG_ref (pc' := 49) 35 fg_X5_22 tb33 rfl dX5_copyFrom_1.2.1.1.2 rfl ?_
  refine zW_iconst (pc' := 50) dX5_copyFrom_1.2.1.2 rfl ?_
  refine zW_sipush (pc' := 53) dX5_copyFrom_1.2.2.1.1 rfl rfl ?_
  refine zV_acopy (pc' := 56) tb38 tb35 (by omega) (by omega) (by omega) (by omega) (by decide) (by decide) ka_X5_37 (Nat.le_of_ble_eq_true rfl) (Nat.le_of_ble_eq_true rfl) dX5_copyFrom_1.2.2.1.2 rfl ?_
  have hz53 := hF.zc (a := 38) (c := 35) (d := 0) (n := 256) rfl rfl (by decide) (by decide) (KC_zc hF.2.2.2 rfl)
  refine (show ∀ h1 : Hp, Fm [(33, 0), (33, 1), (33, 2), (34, 999), (35, 999)] κ h1 → h1 = zcp h 38 35 0 256 → zV _ _ _ _ _ _ h1 from fun h hF w53 => ?_) _ hz53 rfl
  have a53_35 := fun j : Nat => zcp_pt (congrFun (congrFun w53 35) j)
  have a53_38 := fun j : Nat => (congrFun (congrFun w53 38) j).trans (zcp_ne (by decide))
  have t53_33_0 := congrFun (congrFun w53 33) 0
  rw [zcp_ne (by decide)] at t53_33_0
  have t53_33_1 := congrFun (congrFun w53 33) 1
  rw [zcp_ne (by decide)] at t53_33_1
  have t53_33_2 := congrFun (congrFun w53 33) 2
  rw [zcp_ne (by decide)] at t53_33_2
  exact zV_vret rfl dX5_copyFrom_1.2.2.2 ⟨hF, ⟨by omega, (fun j => by have q0 := a0_35 j; have q1 := a0_38 j; have q2 := a5_35 j; have q3 := a5_38 j; have q4 := a13_35 j; have q5 := a13_38 j; have q6 := a21_35 j; have q7 := a21_38 j; have q8 := a37_35 j; have q9 := a37_38 j; have q10 := a53_35 j; have q11 := a53_38 j; omega)⟩⟩

abbrev q_X11_keepD (κ : Hp)  : Int → Hp → Prop := fun r h' => Fm [(36, 0), (36, 1), (36, 2), (37, 999), (38, 999), (45, 0), (45, 1), (46, 999), (47, 999), (48, 999), (30, 10), (30, 11)] κ h' ∧ ((r = κ 41 0 ∧ h' 30 11 = 1 ∧ h' 36 0 = κ 33 0 ∧ h' 36 1 = κ 33 1 ∧ h' 36 2 = κ 33 2 ∧ h' 30 10 = κ 30 12) ∧ (∀ j : Nat, j < 256 → h' 38 j = κ 35 j))
set_option maxHeartbeats 4000000 in
set_option maxRecDepth 20000 in
theorem s_X11_keepD {G : Ga} {κ : Hp} (hS : SI κ) (hR : KR κ) (hC : KC κ)  : zM G mX11_keep yX11_keep [.inr (.inr 30)] κ (q_X11_keepD κ) := by
  have f_30_12 := KCc hC
  have f_33_0 := KCw hC
  have f_33_1 := KCh hC
  have f_33_2 := KCp hC
  have f_41_0 := KCm hC
  have f_45_0 := KCr0 hC
  have f_49_0 := KCd0 hC
  refine zM_of [some (.inr (.inr 30))] 0 rfl rfl (Nat.le_of_ble_eq_true rfl) rfl ?_
  refine (show ∀ h : Hp, Fm [(36, 0), (36, 1), (36, 2), (37, 999), (38, 999), (45, 0), (45, 1), (46, 999), (47, 999), (48, 999), (30, 10), (30, 11)] κ h → h = κ → zV G mX11_keep (q_X11_keepD κ) 0 [some (.inr (.inr 30))] [] h from fun h hF hk0 => ?_) κ (Fm.rf hS hR hC) rfl
  have a0_35 := fun j : Nat => congrFun (congrFun hk0 35) j
  have a0_38 := fun j : Nat => congrFun (congrFun hk0 38) j
  refine zW_aload_n (pc' := 1) dX11_keep_0.1.1.1.1 rfl rfl ?_
  refine zG_ref (pc' := 4) 36 fg_X11_71 tb30 rfl dX11_keep_0.1.1.1.2 rfl ?_
  refine zW_aload_n (pc' := 5) dX11_keep_0.1.1.2.1 rfl rfl ?_
  refine zG_ref (pc' := 8) 33 fg_X11_19 tb30 rfl dX11_keep_0.1.1.2.2 rfl ?_
  have y8_33_0 := hF.1 33 0 rfl rfl
  have y8_33_1 := hF.1 33 1 rfl rfl
  have y8_33_2 := hF.1 33 2 rfl rfl
  refine cvV1 (pc' := 11) kX5_copyFrom vX5_copyFrom lk_X11_396 ⟨Nat.le_of_ble_eq_true rfl, Nat.le_of_ble_eq_true rfl⟩ tb36 vq5 rfl rfl (s_X5_copyFromV36_33D hF.2.1 hF.2.2.1 hF.2.2.2) dX11_keep_0.1.2.1.1 (Nat.le_of_ble_eq_true rfl) rfl ?_
  rintro r8 h ⟨hF1, p8⟩; replace hF := hF.tr hF1 rfl
  obtain ⟨p8_0, a8_0⟩ := p8
  have f8_35 := fun j : Nat => hF1.1 35 j rfl rfl
  have t8_30_10 := hF1.1 30 10 rfl rfl
  have t8_30_11 := hF1.1 30 11 rfl rfl
  refine zW_aload_n (pc' := 12) dX11_keep_0.1.2.1.2 rfl rfl ?_
  refine zG_ref (pc' := 15) 45 fg_X11_74 tb30 rfl dX11_keep_0.1.2.2.1 rfl ?_
  refine zW_aload_n (pc' := 16) dX11_keep_0.1.2.2.2 rfl rfl ?_
  refine zG_ref (pc' := 19) 41 fg_X11_33 tb30 rfl dX11_keep_0.2.1.1.1 rfl ?_
  refine cvV1 (pc' := 22) kX7_copyFrom vX7_copyFrom lk_X11_105 ⟨Nat.le_of_ble_eq_true rfl, Nat.le_of_ble_eq_true rfl⟩ tb45 vq7 rfl rfl (s_X7_copyFromV45_41 hF.2.1 hF.2.2.1 hF.2.2.2) dX11_keep_0.2.1.1.2 (Nat.le_of_ble_eq_true rfl) rfl ?_
  rintro r19 h ⟨hF1, p19⟩; replace hF := hF.tr hF1 rfl
  have f19_35 := fun j : Nat => hF1.1 35 j rfl rfl
  have f19_38 := fun j : Nat => hF1.1 38 j rfl rfl
  have t19_36_0 := hF1.1 36 0 rfl rfl
  have t19_36_1 := hF1.1 36 1 rfl rfl
  have t19_36_2 := hF1.1 36 2 rfl rfl
  have t19_30_10 := hF1.1 30 10 rfl rfl
  have t19_30_11 := hF1.1 30 11 rfl rfl
  refine zW_aload_n (pc' := 23) dX11_keep_0.2.1.2.1 rfl rfl ?_
  refine zW_aload_n (pc' := 24) dX11_keep_0.2.1.2.2 rfl rfl ?_
  refine zGm (pc' := 27) hF rfl rfl fg_X11_85 tb30 rfl dX11_keep_0.2.2.1.1 rfl ?_
  refine zPm (pc' := 30) hF (Or.inl rfl) (SI_irr hF.2.1 (Or.inl rfl) (fun _ _ => ⟨by omega, by omega⟩)) (KR_irr hF.2.2.1 rfl) (KC_30_10 hF.2.2.2 (by omega)) fp_X11_77 tb30 rfl dX11_keep_0.2.2.1.2 rfl (fun h hF w27 => ?_)
  have a27_35 := fun j : Nat => (congrFun (congrFun w27 35) j).trans (zwr_ne (Or.inl (by decide)))
  have a27_38 := fun j : Nat => (congrFun (congrFun w27 38) j).trans (zwr_ne (Or.inl (by decide)))
  have t27_36_0 := congrFun (congrFun w27 36) 0
  rw [zwr_ne (Or.inl (by decide))] at t27_36_0
  have t27_36_1 := congrFun (congrFun w27 36) 1
  rw [zwr_ne (Or.inl (by decide))] at t27_36_1
  have t27_36_2 := congrFun (congrFun w27 36) 2
  rw [zwr_ne (Or.inl (by decide))] at t27_36_2
  have t27_30_10 := congrFun (congrFun w27 30) 10
  rw [zwr_eq] at t27_30_10
  have t27_30_11 := congrFun (congrFun w27 30) 11
  rw [zwr_ne (Or.inr (by decide))] at t27_30_11
  refine zW_aload_n (pc' := 31) dX11_keep_0.2.2.2.1 rfl rfl ?_
  refine zW_iconst (pc' := 32) dX11_keep_0.2.2.2.2 rfl ?_
  refine zPmz (pc' := 35) hF (Or.inl rfl) (SI_irr hF.2.1 (Or.inl rfl) (fun _ _ => ⟨by omega, by omega⟩)) (KR_irr hF.2.2.1 rfl) (KC_irr hF.2.2.2 rfl) (by omega) fp_X11_81 tb30 rfl dX11_keep_1.1.1.1 rfl (fun h hF w32 => ?_)
  have a32_35 := fun j : Nat => (congrFun (congrFun w32 35) j).trans (zwr_ne (Or.inl (by decide)))
  have a32_38 := fun j : Nat => (congrFun (congrFun w32 38) j).trans (zwr_ne (Or.inl (by decide)))
  have t32_36_0 := congrFun (congrFun w32 36) 0
  rw [zwr_ne (Or.inl (by decide))] at t32_36_0
  have t32_36_1 := congrFun (congrFun w32 36) 1
  rw [zwr_ne (Or.inl (by decide))] at t32_36_1
  have t32_36_2 := congrFun (congrFun w32 36) 2
  rw [zwr_ne (Or.inl (by decide))] at t32_36_2
  have t32_30_10 := congrFun (congrFun w32 30) 10
  rw [zwr_ne (Or.inr (by decide))] at t32_30_10
  have t32_30_11 := congrFun (congrFun w32 30) 11
  rw [zwr_eq] at t32_30_11
  refine zW_aload_n (pc' := 36) dX11_keep_1.1.1.2 rfl rfl ?_
  refine zG_ref (pc' := 39) 41 fg_X11_33 tb30 rfl dX11_keep_1.1.2 rfl ?_
  refine zGm (pc' := 42) hF rfl rfl fg_X11_379 tb41 rfl dX11_keep_1.2.1 rfl ?_
  exact zV_iret rfl dX11_keep_1.2.2 ⟨hF, ⟨by omega, (fun j => by have q0 := a0_35 j; have q1 := a0_38 j; have q2 := a8_0 j; have q3 := f8_35 j; have q4 := f19_35 j; have q5 := f19_38 j; have q6 := a27_35 j; have q7 := a27_38 j; have q8 := a32_35 j; have q9 := a32_38 j; omega)⟩⟩

abbrev q_X11_undoD (κ : Hp)  : Int → Hp → Prop := fun r h' => Fm [(33, 0), (33, 1), (33, 2), (34, 999), (35, 999), (41, 0), (41, 1), (42, 999), (43, 999), (44, 999), (30, 12), (39, 1)] κ h' ∧ ((0 ≤ r) ∧ (r ≤ 1) ∧ ((κ 30 11 = 0 ∧ r = 0 ∧ h' 33 0 = κ 33 0 ∧ h' 33 1 = κ 33 1 ∧ h' 33 2 = κ 33 2 ∧ h' 30 12 = κ 30 12) ∨ (κ 30 11 ≠ 0 ∧ r = 1 ∧ h' 33 0 = κ 36 0 ∧ h' 33 1 = κ 36 1 ∧ h' 33 2 = κ 36 2 ∧ h' 30 12 = κ 30 10)) ∧ (∀ j : Nat, (r = 1 → j < 256 → h' 35 j = κ 38 j) ∧ (r = 0 → h' 35 j = κ 35 j)))
set_option maxHeartbeats 4000000 in
set_option maxRecDepth 20000 in
theorem s_X11_undoD {G : Ga} {κ : Hp} (hS : SI κ) (hR : KR κ) (hC : KC κ)  : zM G mX11_undo yX11_undo [.inr (.inr 30)] κ (q_X11_undoD κ) := by
  have f_30_10 := KCkc hC
  have f_30_12 := KCc hC
  have f_33_0 := KCw hC
  have f_33_1 := KCh hC
  have f_33_2 := KCp hC
  have f_36_0 := KCk0 hC
  have f_36_1 := KCk1 hC
  have f_36_2 := KCk2 hC
  refine zM_of [some (.inr (.inr 30))] 0 rfl rfl (Nat.le_of_ble_eq_true rfl) rfl ?_
  refine (show ∀ h : Hp, Fm [(33, 0), (33, 1), (33, 2), (34, 999), (35, 999), (41, 0), (41, 1), (42, 999), (43, 999), (44, 999), (30, 12), (39, 1)] κ h → h = κ → zV G mX11_undo (q_X11_undoD κ) 0 [some (.inr (.inr 30))] [] h from fun h hF hk0 => ?_) κ (Fm.rf hS hR hC) rfl
  have y0_33_0 : h 33 0 = κ 33 0 := by rw [hk0]
  have y0_33_1 : h 33 1 = κ 33 1 := by rw [hk0]
  have y0_33_2 : h 33 2 = κ 33 2 := by rw [hk0]
  have y0_30_12 : h 30 12 = κ 30 12 := by rw [hk0]
  have a0_35 := fun j : Nat => congrFun (congrFun hk0 35) j
  have a0_38 := fun j : Nat => congrFun (congrFun hk0 38) j
  refine zW_aload_n (pc' := 1) dX11_undo_0.1.1.1.1 rfl rfl ?_
  refine zGm (pc' := 4) hF rfl rfl fg_X11_81 tb30 rfl dX11_undo_0.1.1.1.2 rfl ?_
  have e1 : -2147483648 ≤ κ 30 11 ∧ κ 30 11 ≤ 2147483647 := by rw [← hF.1 30 11 rfl rfl]; exact hF.rh 30 11
  refine zV_if_ne (tgt := 9) (pc' := 7) dX11_undo_0.1.1.2.1 rfl rfl ⟨by omega, by omega⟩ (fun c4 => ?_) (fun c4 => ?_)
  · refine zW_aload_n (pc' := 10) dX11_undo_0.1.2.1.2 rfl rfl ?_
    refine zG_ref (pc' := 13) 33 fg_X11_19 tb30 rfl dX11_undo_0.1.2.2.1 rfl ?_
    refine zW_aload_n (pc' := 14) dX11_undo_0.1.2.2.2 rfl rfl ?_
    refine zG_ref (pc' := 17) 36 fg_X11_71 tb30 rfl dX11_undo_0.2.1.1.1 rfl ?_
    have y17_36_0 := hF.1 36 0 rfl rfl
    have y17_36_1 := hF.1 36 1 rfl rfl
    have y17_36_2 := hF.1 36 2 rfl rfl
    refine cvV1 (pc' := 20) kX5_copyFrom vX5_copyFrom lk_X11_396 ⟨Nat.le_of_ble_eq_true rfl, Nat.le_of_ble_eq_true rfl⟩ tb33 vq5 rfl rfl (s_X5_copyFromV33_36D hF.2.1 hF.2.2.1 hF.2.2.2) dX11_undo_0.2.1.1.2 (Nat.le_of_ble_eq_true rfl) rfl ?_
    rintro r17 h ⟨hF1, p17⟩; replace hF := hF.tr hF1 rfl
    obtain ⟨p17_0, a17_0⟩ := p17
    have f17_38 := fun j : Nat => hF1.1 38 j rfl rfl
    have t17_30_12 := hF1.1 30 12 rfl rfl
    refine zW_aload_n (pc' := 21) dX11_undo_0.2.1.2.1 rfl rfl ?_
    refine zG_ref (pc' := 24) 41 fg_X11_33 tb30 rfl dX11_undo_0.2.1.2.2 rfl ?_
    refine zW_aload_n (pc' := 25) dX11_undo_0.2.2.1.1 rfl rfl ?_
    refine zG_ref (pc' := 28) 45 fg_X11_74 tb30 rfl dX11_undo_0.2.2.1.2 rfl ?_
    refine cvV1 (pc' := 31) kX7_copyFrom vX7_copyFrom lk_X11_105 ⟨Nat.le_of_ble_eq_true rfl, Nat.le_of_ble_eq_true rfl⟩ tb41 vq7 rfl rfl (s_X7_copyFromV41_45 hF.2.1 hF.2.2.1 hF.2.2.2) dX11_undo_0.2.2.2.1 (Nat.le_of_ble_eq_true rfl) rfl ?_
    rintro r28 h ⟨hF1, p28⟩; replace hF := hF.tr hF1 rfl
    have f28_35 := fun j : Nat => hF1.1 35 j rfl rfl
    have f28_38 := fun j : Nat => hF1.1 38 j rfl rfl
    have t28_33_0 := hF1.1 33 0 rfl rfl
    have t28_33_1 := hF1.1 33 1 rfl rfl
    have t28_33_2 := hF1.1 33 2 rfl rfl
    have t28_30_12 := hF1.1 30 12 rfl rfl
    refine zW_aload_n (pc' := 32) dX11_undo_0.2.2.2.2 rfl rfl ?_
    refine zW_aload_n (pc' := 33) dX11_undo_1.1.1.1 rfl rfl ?_
    refine zGm (pc' := 36) hF rfl rfl fg_X11_77 tb30 rfl dX11_undo_1.1.1.2 rfl ?_
    refine zPm (pc' := 39) hF (Or.inl rfl) (SI_irr hF.2.1 (Or.inl rfl) (fun _ _ => ⟨by omega, by omega⟩)) (KR_irr hF.2.2.1 rfl) (KC_30_12 hF.2.2.2 (by omega)) fp_X11_85 tb30 rfl dX11_undo_1.1.2.1 rfl (fun h hF w36 => ?_)
    have a36_35 := fun j : Nat => (congrFun (congrFun w36 35) j).trans (zwr_ne (Or.inl (by decide)))
    have a36_38 := fun j : Nat => (congrFun (congrFun w36 38) j).trans (zwr_ne (Or.inl (by decide)))
    have t36_33_0 := congrFun (congrFun w36 33) 0
    rw [zwr_ne (Or.inl (by decide))] at t36_33_0
    have t36_33_1 := congrFun (congrFun w36 33) 1
    rw [zwr_ne (Or.inl (by decide))] at t36_33_1
    have t36_33_2 := congrFun (congrFun w36 33) 2
    rw [zwr_ne (Or.inl (by decide))] at t36_33_2
    have t36_30_12 := congrFun (congrFun w36 30) 12
    rw [zwr_eq] at t36_30_12
    refine zW_aload_n (pc' := 40) dX11_undo_1.1.2.2 rfl rfl ?_
    refine cvV0 (pc' := 43) kX11_rawChanged vX11_rawChanged lk_X11_124 ⟨Nat.le_of_ble_eq_true rfl, Nat.le_of_ble_eq_true rfl⟩ tb30 vq11 rfl rfl (s_X11_rawChanged hF.2.1 hF.2.2.1 hF.2.2.2) dX11_undo_1.2.1.1 (Nat.le_of_ble_eq_true rfl) rfl ?_
    rintro r40 h ⟨hF1, p40⟩; replace hF := hF.tr hF1 rfl
    have f40_35 := fun j : Nat => hF1.1 35 j rfl rfl
    have f40_38 := fun j : Nat => hF1.1 38 j rfl rfl
    have t40_33_0 := hF1.1 33 0 rfl rfl
    have t40_33_1 := hF1.1 33 1 rfl rfl
    have t40_33_2 := hF1.1 33 2 rfl rfl
    have t40_30_12 := hF1.1 30 12 rfl rfl
    refine zW_iconst (pc' := 44) dX11_undo_1.2.1.2 rfl ?_
    exact zV_zret rfl (by omega) dX11_undo_1.2.2 ⟨hF, ⟨by omega, by omega, by omega, (fun j => by have q0 := a0_35 j; have q1 := a0_38 j; have q2 := a17_0 j; have q3 := f17_38 j; have q4 := f28_35 j; have q5 := f28_38 j; have q6 := a36_35 j; have q7 := a36_38 j; have q8 := f40_35 j; have q9 := f40_38 j; omega)⟩⟩
  · refine zW_iconst (pc' := 8) dX11_undo_0.1.1.2.2 rfl ?_
    exact zV_zret rfl (by omega) dX11_undo_0.1.2.1.1 ⟨hF, ⟨by omega, by omega, by omega, (fun j => by have q0 := a0_35 j; have q1 := a0_38 j; omega)⟩⟩

abbrev q_X12_keepD (κ : Hp) : Int → Hp → Prop := fun r h' => Fm [(0, 22), (0, 16), (0, 17), (0, 18), (0, 19), (0, 20), (6, 999), (7, 999), (8, 999), (9, 999), (11, 999)] κ h' ∧ ((r = κ 0 14 ∧ h' 0 22 = 1 ∧ h' 0 16 = κ 0 11 ∧ h' 0 17 = κ 0 12 ∧ h' 0 18 = κ 0 13 ∧ h' 0 20 = κ 0 15) ∧ (∀ j : Nat, j < 256 → h' 11 j = κ 10 j))
set_option maxHeartbeats 4000000 in
set_option maxRecDepth 20000 in
theorem s_X12_keepD {G : Ga} {κ : Hp} (hS : SI κ) (hR : KR κ) (hC : KC κ) : zM G mX12_keep yX12_keep [.inr (.inr 0)] κ (q_X12_keepD κ) := by
  have f22 := KRk hR
  refine zM_of [some (.inr (.inr 0))] 0 rfl rfl (Nat.le_of_ble_eq_true rfl) rfl ?_
  refine zW_aload_n (pc' := 1) dX12_keep_0.1.1.1.1 rfl rfl ?_
  refine zW_iconst (pc' := 2) dX12_keep_0.1.1.1.2 rfl ?_
  refine zV_putz (pc' := 5) fp_X12_457 (by omega) tb0 rfl dX12_keep_0.1.1.2.1 rfl ?_
  have hS1 := SI_irr (k := 0) (i := 22) (v := 1) hS (Or.inl rfl) (fun _ _ => ⟨by omega, by omega⟩)
  generalize e1 : zwr κ 0 22 (1) = h1 at hS1 ⊢
  refine zW_aload_n (pc' := 6) dX12_keep_0.1.1.2.2 rfl rfl ?_
  refine zW_aload_n (pc' := 7) dX12_keep_0.1.2.1.1 rfl rfl ?_
  refine zG_int (pc' := 10) fg_X12_99 tb0 rfl dX12_keep_0.1.2.1.2 rfl ?_
  refine zV_puti (pc' := 13) fp_X12_460 tb0 rfl dX12_keep_0.1.2.2.1 rfl ?_
  have hS2 := SI_irr (k := 0) (i := 16) (v := h1 0 11) hS1 (Or.inl rfl) (fun _ _ => (hS1.2.2.2.2 _ _ (by decide) (by decide)))
  generalize e2 : zwr h1 0 16 (h1 0 11) = h2 at hS2 ⊢
  refine zW_aload_n (pc' := 14) dX12_keep_0.1.2.2.2 rfl rfl ?_
  refine zW_aload_n (pc' := 15) dX12_keep_0.2.1.1.1 rfl rfl ?_
  refine zG_int (pc' := 18) fg_X12_103 tb0 rfl dX12_keep_0.2.1.1.2 rfl ?_
  refine zV_puti (pc' := 21) fp_X12_463 tb0 rfl dX12_keep_0.2.1.2.1 rfl ?_
  have hS3 := SI_irr (k := 0) (i := 17) (v := h2 0 12) hS2 (Or.inl rfl) (fun _ _ => (hS2.2.2.2.2 _ _ (by decide) (by decide)))
  generalize e3 : zwr h2 0 17 (h2 0 12) = h3 at hS3 ⊢
  refine zW_aload_n (pc' := 22) dX12_keep_0.2.1.2.2 rfl rfl ?_
  refine zW_aload_n (pc' := 23) dX12_keep_0.2.2.1.1 rfl rfl ?_
  refine zG_int (pc' := 26) fg_X12_209 tb0 rfl dX12_keep_0.2.2.1.2 rfl ?_
  refine zV_puti (pc' := 29) fp_X12_466 tb0 rfl dX12_keep_0.2.2.2.1 rfl ?_
  have hS4 := SI_irr (k := 0) (i := 18) (v := h3 0 13) hS3 (Or.inl rfl) (fun _ _ => (hS3.2.2.2.2 _ _ (by decide) (by decide)))
  generalize e4 : zwr h3 0 18 (h3 0 13) = h4 at hS4 ⊢
  refine zW_aload_n (pc' := 30) dX12_keep_0.2.2.2.2 rfl rfl ?_
  refine zW_aload_n (pc' := 31) dX12_keep_1.1.1.1.1 rfl rfl ?_
  refine zG_int (pc' := 34) fg_X12_185 tb0 rfl dX12_keep_1.1.1.1.2 rfl ?_
  refine zV_puti (pc' := 37) fp_X12_469 tb0 rfl dX12_keep_1.1.1.2.1 rfl ?_
  have hS5 := SI_irr (k := 0) (i := 19) (v := h4 0 14) hS4 (Or.inl rfl) (fun _ _ => (hS4.2.2.2.2 _ _ (by decide) (by decide)))
  generalize e5 : zwr h4 0 19 (h4 0 14) = h5 at hS5 ⊢
  refine zW_aload_n (pc' := 38) dX12_keep_1.1.1.2.2 rfl rfl ?_
  refine zW_aload_n (pc' := 39) dX12_keep_1.1.2.1.1 rfl rfl ?_
  refine zG_int (pc' := 42) fg_X12_106 tb0 rfl dX12_keep_1.1.2.1.2 rfl ?_
  refine zV_puti (pc' := 45) fp_X12_472 tb0 rfl dX12_keep_1.1.2.2.1 rfl ?_
  have hS6 := SI_irr (k := 0) (i := 20) (v := h5 0 15) hS5 (Or.inl rfl) (fun _ _ => (hS5.2.2.2.2 _ _ (by decide) (by decide)))
  generalize e6 : zwr h5 0 20 (h5 0 15) = h6 at hS6 ⊢
  refine zW_aload_n (pc' := 46) dX12_keep_1.1.2.2.2 rfl rfl ?_
  refine zG_ref (pc' := 49) 1 fg_X12_7 tb0 rfl dX12_keep_1.2.1.1.1 rfl ?_
  refine zW_aload_n (pc' := 50) dX12_keep_1.2.1.1.2 rfl rfl ?_
  refine zG_ref (pc' := 53) 6 fg_X12_25 tb0 rfl dX12_keep_1.2.1.2.1 rfl ?_
  refine csV2 (pc' := 56) kX12_copies vX12_copies lk_X12_188 ⟨Nat.le_of_ble_eq_true rfl, Nat.le_of_ble_eq_true rfl⟩ rfl (s_X12_copies tb1 tb6 (by decide) (by decide)) dX12_keep_1.2.1.2.2 (Nat.le_of_ble_eq_true rfl) rfl ?_
  rintro _ h7 e7; replace e7 := e7.symm
  have hS7 : SI h7 := by rw [← e7]; exact SI_cpy hS6 rfl (by decide)
  refine zW_aload_n (pc' := 57) dX12_keep_1.2.2.1.1 rfl rfl ?_
  refine zG_ref (pc' := 60) 10 fg_X12_37 tb0 rfl dX12_keep_1.2.2.1.2 rfl ?_
  refine zW_aload_n (pc' := 61) dX12_keep_1.2.2.2.1 rfl rfl ?_
  refine zG_ref (pc' := 64) 11 fg_X12_41 tb0 rfl dX12_keep_1.2.2.2.2 rfl ?_
  have hb : ∀ i, h7 10 i = 0 ∨ h7 10 i = 1 := fun i => by have q := KRd hR i; rw [← e7, cpy_ne (by decide), ← e6, zwr_ne (Or.inl (by decide)), ← e5, zwr_ne (Or.inl (by decide)), ← e4, zwr_ne (Or.inl (by decide)), ← e3, zwr_ne (Or.inl (by decide)), ← e2, zwr_ne (Or.inl (by decide)), ← e1, zwr_ne (Or.inl (by decide))]; omega
  refine csV2 (pc' := 67) kX12_copiesMarks vX12_copiesMarks lk_X12_475 ⟨Nat.le_of_ble_eq_true rfl, Nat.le_of_ble_eq_true rfl⟩ rfl (s_X12_copiesMarks tb10 tb11 (by decide) (by decide) hb) dX12_keep_2.1.1.1.1 (Nat.le_of_ble_eq_true rfl) rfl ?_
  rintro _ h8 e8; replace e8 := e8.symm
  have hS8 : SI h8 := by rw [← e8]; exact SI_cpy hS7 rfl (by decide)
  refine zW_aload_n (pc' := 68) dX12_keep_2.1.1.1.2 rfl rfl ?_
  refine zG_ref (pc' := 71) 3 fg_X12_16 tb0 rfl dX12_keep_2.1.1.2.1 rfl ?_
  refine zW_aload_n (pc' := 72) dX12_keep_2.1.1.2.2 rfl rfl ?_
  refine zG_ref (pc' := 75) 7 fg_X12_28 tb0 rfl dX12_keep_2.1.2.1.1 rfl ?_
  refine csV2 (pc' := 78) kX12_copies vX12_copies lk_X12_188 ⟨Nat.le_of_ble_eq_true rfl, Nat.le_of_ble_eq_true rfl⟩ rfl (s_X12_copies tb3 tb7 (by decide) (by decide)) dX12_keep_2.1.2.1.2 (Nat.le_of_ble_eq_true rfl) rfl ?_
  rintro _ h9 e9; replace e9 := e9.symm
  have hS9 : SI h9 := by rw [← e9]; exact SI_cpy hS8 rfl (by decide)
  refine zW_aload_n (pc' := 79) dX12_keep_2.1.2.2.1 rfl rfl ?_
  refine zG_ref (pc' := 82) 4 fg_X12_19 tb0 rfl dX12_keep_2.1.2.2.2 rfl ?_
  refine zW_aload_n (pc' := 83) dX12_keep_2.2.1.1.1 rfl rfl ?_
  refine zG_ref (pc' := 86) 8 fg_X12_31 tb0 rfl dX12_keep_2.2.1.1.2 rfl ?_
  refine csV2 (pc' := 89) kX12_copies vX12_copies lk_X12_188 ⟨Nat.le_of_ble_eq_true rfl, Nat.le_of_ble_eq_true rfl⟩ rfl (s_X12_copies tb4 tb8 (by decide) (by decide)) dX12_keep_2.2.1.2.1 (Nat.le_of_ble_eq_true rfl) rfl ?_
  rintro _ h10 e10; replace e10 := e10.symm
  have hS10 : SI h10 := by rw [← e10]; exact SI_cpy hS9 rfl (by decide)
  refine zW_aload_n (pc' := 90) dX12_keep_2.2.1.2.2 rfl rfl ?_
  refine zG_ref (pc' := 93) 5 fg_X12_22 tb0 rfl dX12_keep_2.2.2.1.1 rfl ?_
  refine zW_aload_n (pc' := 94) dX12_keep_2.2.2.1.2 rfl rfl ?_
  refine zG_ref (pc' := 97) 9 fg_X12_34 tb0 rfl dX12_keep_2.2.2.2.1 rfl ?_
  refine csV2 (pc' := 100) kX12_copies vX12_copies lk_X12_188 ⟨Nat.le_of_ble_eq_true rfl, Nat.le_of_ble_eq_true rfl⟩ rfl (s_X12_copies tb5 tb9 (by decide) (by decide)) dX12_keep_2.2.2.2.2 (Nat.le_of_ble_eq_true rfl) rfl ?_
  rintro _ h11 e11; replace e11 := e11.symm
  have hS11 : SI h11 := by rw [← e11]; exact SI_cpy hS10 rfl (by decide)
  refine zW_aload_n (pc' := 101) dX12_keep_3.1.1 rfl rfl ?_
  refine zG_int (pc' := 104) fg_X12_185 tb0 rfl dX12_keep_3.1.2 rfl ?_
  have fr : ∀ k i, inW [(0, 22), (0, 16), (0, 17), (0, 18), (0, 19), (0, 20), (6, 999), (7, 999), (8, 999), (9, 999), (11, 999)] k i = false → h11 k i = κ k i := fun k i hl => by rw [← e11, cpy_ne (inW_nc (L := [(0, 22), (0, 16), (0, 17), (0, 18), (0, 19), (0, 20), (6, 999), (7, 999), (8, 999), (9, 999), (11, 999)]) (c := 9) rfl hl), ← e10, cpy_ne (inW_nc (L := [(0, 22), (0, 16), (0, 17), (0, 18), (0, 19), (0, 20), (6, 999), (7, 999), (8, 999), (9, 999), (11, 999)]) (c := 8) rfl hl), ← e9, cpy_ne (inW_nc (L := [(0, 22), (0, 16), (0, 17), (0, 18), (0, 19), (0, 20), (6, 999), (7, 999), (8, 999), (9, 999), (11, 999)]) (c := 7) rfl hl), ← e8, cpy_ne (inW_nc (L := [(0, 22), (0, 16), (0, 17), (0, 18), (0, 19), (0, 20), (6, 999), (7, 999), (8, 999), (9, 999), (11, 999)]) (c := 11) rfl hl), ← e7, cpy_ne (inW_nc (L := [(0, 22), (0, 16), (0, 17), (0, 18), (0, 19), (0, 20), (6, 999), (7, 999), (8, 999), (9, 999), (11, 999)]) (c := 6) rfl hl), ← e6, zwr_ne (inW_ne (L := [(0, 22), (0, 16), (0, 17), (0, 18), (0, 19), (0, 20), (6, 999), (7, 999), (8, 999), (9, 999), (11, 999)]) (k := 0) (i := 20) rfl hl), ← e5, zwr_ne (inW_ne (L := [(0, 22), (0, 16), (0, 17), (0, 18), (0, 19), (0, 20), (6, 999), (7, 999), (8, 999), (9, 999), (11, 999)]) (k := 0) (i := 19) rfl hl), ← e4, zwr_ne (inW_ne (L := [(0, 22), (0, 16), (0, 17), (0, 18), (0, 19), (0, 20), (6, 999), (7, 999), (8, 999), (9, 999), (11, 999)]) (k := 0) (i := 18) rfl hl), ← e3, zwr_ne (inW_ne (L := [(0, 22), (0, 16), (0, 17), (0, 18), (0, 19), (0, 20), (6, 999), (7, 999), (8, 999), (9, 999), (11, 999)]) (k := 0) (i := 17) rfl hl), ← e2, zwr_ne (inW_ne (L := [(0, 22), (0, 16), (0, 17), (0, 18), (0, 19), (0, 20), (6, 999), (7, 999), (8, 999), (9, 999), (11, 999)]) (k := 0) (i := 16) rfl hl), ← e1, zwr_ne (inW_ne (L := [(0, 22), (0, 16), (0, 17), (0, 18), (0, 19), (0, 20), (6, 999), (7, 999), (8, 999), (9, 999), (11, 999)]) (k := 0) (i := 22) rfl hl)]
  have hCf : KC h11 := KC_low hC (fun k i hk => fr k i (by unfold inW; simp [List.any_cons]; omega))
  have g11 : h11 0 11 = κ 0 11 := by rw [← e11, cpy_ne (by decide), ← e10, cpy_ne (by decide), ← e9, cpy_ne (by decide), ← e8, cpy_ne (by decide), ← e7, cpy_ne (by decide), ← e6, zwr_ne (Or.inr (by decide)), ← e5, zwr_ne (Or.inr (by decide)), ← e4, zwr_ne (Or.inr (by decide)), ← e3, zwr_ne (Or.inr (by decide)), ← e2, zwr_ne (Or.inr (by decide)), ← e1, zwr_ne (Or.inr (by decide))]
  have g12 : h11 0 12 = κ 0 12 := by rw [← e11, cpy_ne (by decide), ← e10, cpy_ne (by decide), ← e9, cpy_ne (by decide), ← e8, cpy_ne (by decide), ← e7, cpy_ne (by decide), ← e6, zwr_ne (Or.inr (by decide)), ← e5, zwr_ne (Or.inr (by decide)), ← e4, zwr_ne (Or.inr (by decide)), ← e3, zwr_ne (Or.inr (by decide)), ← e2, zwr_ne (Or.inr (by decide)), ← e1, zwr_ne (Or.inr (by decide))]
  have g13 : h11 0 13 = κ 0 13 := by rw [← e11, cpy_ne (by decide), ← e10, cpy_ne (by decide), ← e9, cpy_ne (by decide), ← e8, cpy_ne (by decide), ← e7, cpy_ne (by decide), ← e6, zwr_ne (Or.inr (by decide)), ← e5, zwr_ne (Or.inr (by decide)), ← e4, zwr_ne (Or.inr (by decide)), ← e3, zwr_ne (Or.inr (by decide)), ← e2, zwr_ne (Or.inr (by decide)), ← e1, zwr_ne (Or.inr (by decide))]
  have g14 : h11 0 14 = κ 0 14 := by rw [← e11, cpy_ne (by decide), ← e10, cpy_ne (by decide), ← e9, cpy_ne (by decide), ← e8, cpy_ne (by decide), ← e7, cpy_ne (by decide), ← e6, zwr_ne (Or.inr (by decide)), ← e5, zwr_ne (Or.inr (by decide)), ← e4, zwr_ne (Or.inr (by decide)), ← e3, zwr_ne (Or.inr (by decide)), ← e2, zwr_ne (Or.inr (by decide)), ← e1, zwr_ne (Or.inr (by decide))]
  have g15 : h11 0 15 = κ 0 15 := by rw [← e11, cpy_ne (by decide), ← e10, cpy_ne (by decide), ← e9, cpy_ne (by decide), ← e8, cpy_ne (by decide), ← e7, cpy_ne (by decide), ← e6, zwr_ne (Or.inr (by decide)), ← e5, zwr_ne (Or.inr (by decide)), ← e4, zwr_ne (Or.inr (by decide)), ← e3, zwr_ne (Or.inr (by decide)), ← e2, zwr_ne (Or.inr (by decide)), ← e1, zwr_ne (Or.inr (by decide))]
  have g16 : h11 0 16 = κ 0 11 := by rw [← e11, cpy_ne (by decide), ← e10, cpy_ne (by decide), ← e9, cpy_ne (by decide), ← e8, cpy_ne (by decide), ← e7, cpy_ne (by decide), ← e6, zwr_ne (Or.inr (by decide)), ← e5, zwr_ne (Or.inr (by decide)), ← e4, zwr_ne (Or.inr (by decide)), ← e3, zwr_ne (Or.inr (by decide)), ← e2, zwr_eq, ← e1, zwr_ne (Or.inr (by decide))]
  have g17 : h11 0 17 = κ 0 12 := by rw [← e11, cpy_ne (by decide), ← e10, cpy_ne (by decide), ← e9, cpy_ne (by decide), ← e8, cpy_ne (by decide), ← e7, cpy_ne (by decide), ← e6, zwr_ne (Or.inr (by decide)), ← e5, zwr_ne (Or.inr (by decide)), ← e4, zwr_ne (Or.inr (by decide)), ← e3, zwr_eq, ← e2, zwr_ne (Or.inr (by decide)), ← e1, zwr_ne (Or.inr (by decide))]
  have g18 : h11 0 18 = κ 0 13 := by rw [← e11, cpy_ne (by decide), ← e10, cpy_ne (by decide), ← e9, cpy_ne (by decide), ← e8, cpy_ne (by decide), ← e7, cpy_ne (by decide), ← e6, zwr_ne (Or.inr (by decide)), ← e5, zwr_ne (Or.inr (by decide)), ← e4, zwr_eq, ← e3, zwr_ne (Or.inr (by decide)), ← e2, zwr_ne (Or.inr (by decide)), ← e1, zwr_ne (Or.inr (by decide))]
  have g19 : h11 0 19 = κ 0 14 := by rw [← e11, cpy_ne (by decide), ← e10, cpy_ne (by decide), ← e9, cpy_ne (by decide), ← e8, cpy_ne (by decide), ← e7, cpy_ne (by decide), ← e6, zwr_ne (Or.inr (by decide)), ← e5, zwr_eq, ← e4, zwr_ne (Or.inr (by decide)), ← e3, zwr_ne (Or.inr (by decide)), ← e2, zwr_ne (Or.inr (by decide)), ← e1, zwr_ne (Or.inr (by decide))]
  have g20 : h11 0 20 = κ 0 15 := by rw [← e11, cpy_ne (by decide), ← e10, cpy_ne (by decide), ← e9, cpy_ne (by decide), ← e8, cpy_ne (by decide), ← e7, cpy_ne (by decide), ← e6, zwr_eq, ← e5, zwr_ne (Or.inr (by decide)), ← e4, zwr_ne (Or.inr (by decide)), ← e3, zwr_ne (Or.inr (by decide)), ← e2, zwr_ne (Or.inr (by decide)), ← e1, zwr_ne (Or.inr (by decide))]
  have g21 : h11 0 21 = κ 0 21 := by rw [← e11, cpy_ne (by decide), ← e10, cpy_ne (by decide), ← e9, cpy_ne (by decide), ← e8, cpy_ne (by decide), ← e7, cpy_ne (by decide), ← e6, zwr_ne (Or.inr (by decide)), ← e5, zwr_ne (Or.inr (by decide)), ← e4, zwr_ne (Or.inr (by decide)), ← e3, zwr_ne (Or.inr (by decide)), ← e2, zwr_ne (Or.inr (by decide)), ← e1, zwr_ne (Or.inr (by decide))]
  have g22 : h11 0 22 = 1 := by rw [← e11, cpy_ne (by decide), ← e10, cpy_ne (by decide), ← e9, cpy_ne (by decide), ← e8, cpy_ne (by decide), ← e7, cpy_ne (by decide), ← e6, zwr_ne (Or.inr (by decide)), ← e5, zwr_ne (Or.inr (by decide)), ← e4, zwr_ne (Or.inr (by decide)), ← e3, zwr_ne (Or.inr (by decide)), ← e2, zwr_ne (Or.inr (by decide)), ← e1, zwr_eq]
  have g25 : h11 0 25 = κ 0 25 := by rw [← e11, cpy_ne (by decide), ← e10, cpy_ne (by decide), ← e9, cpy_ne (by decide), ← e8, cpy_ne (by decide), ← e7, cpy_ne (by decide), ← e6, zwr_ne (Or.inr (by decide)), ← e5, zwr_ne (Or.inr (by decide)), ← e4, zwr_ne (Or.inr (by decide)), ← e3, zwr_ne (Or.inr (by decide)), ← e2, zwr_ne (Or.inr (by decide)), ← e1, zwr_ne (Or.inr (by decide))]
  have c3 : h11 3 = κ 3 := funext fun j => by rw [← e11, cpy_ne (by decide), ← e10, cpy_ne (by decide), ← e9, cpy_ne (by decide), ← e8, cpy_ne (by decide), ← e7, cpy_ne (by decide), ← e6, zwr_ne (Or.inl (by decide)), ← e5, zwr_ne (Or.inl (by decide)), ← e4, zwr_ne (Or.inl (by decide)), ← e3, zwr_ne (Or.inl (by decide)), ← e2, zwr_ne (Or.inl (by decide)), ← e1, zwr_ne (Or.inl (by decide))]
  have c4 : h11 4 = κ 4 := funext fun j => by rw [← e11, cpy_ne (by decide), ← e10, cpy_ne (by decide), ← e9, cpy_ne (by decide), ← e8, cpy_ne (by decide), ← e7, cpy_ne (by decide), ← e6, zwr_ne (Or.inl (by decide)), ← e5, zwr_ne (Or.inl (by decide)), ← e4, zwr_ne (Or.inl (by decide)), ← e3, zwr_ne (Or.inl (by decide)), ← e2, zwr_ne (Or.inl (by decide)), ← e1, zwr_ne (Or.inl (by decide))]
  have c5 : h11 5 = κ 5 := funext fun j => by rw [← e11, cpy_ne (by decide), ← e10, cpy_ne (by decide), ← e9, cpy_ne (by decide), ← e8, cpy_ne (by decide), ← e7, cpy_ne (by decide), ← e6, zwr_ne (Or.inl (by decide)), ← e5, zwr_ne (Or.inl (by decide)), ← e4, zwr_ne (Or.inl (by decide)), ← e3, zwr_ne (Or.inl (by decide)), ← e2, zwr_ne (Or.inl (by decide)), ← e1, zwr_ne (Or.inl (by decide))]
  have c7 : ∀ j, j < 12 → h11 7 j = κ 3 j := fun j hj => by rw [← e11, cpy_ne (by decide), ← e10, cpy_ne (by decide), ← e9, cpy_in hj, ← e8, cpy_ne (by decide), ← e7, cpy_ne (by decide), ← e6, zwr_ne (Or.inl (by decide)), ← e5, zwr_ne (Or.inl (by decide)), ← e4, zwr_ne (Or.inl (by decide)), ← e3, zwr_ne (Or.inl (by decide)), ← e2, zwr_ne (Or.inl (by decide)), ← e1, zwr_ne (Or.inl (by decide))]
  have o7 : ∀ j, 12 ≤ j → h11 7 j = κ 7 j := fun j hj => by rw [← e11, cpy_ne (by decide), ← e10, cpy_ne (by decide), ← e9, cpy_out hj, ← e8, cpy_ne (by decide), ← e7, cpy_ne (by decide), ← e6, zwr_ne (Or.inl (by decide)), ← e5, zwr_ne (Or.inl (by decide)), ← e4, zwr_ne (Or.inl (by decide)), ← e3, zwr_ne (Or.inl (by decide)), ← e2, zwr_ne (Or.inl (by decide)), ← e1, zwr_ne (Or.inl (by decide))]
  have c8 : ∀ j, j < 13 → h11 8 j = κ 4 j := fun j hj => by rw [← e11, cpy_ne (by decide), ← e10, cpy_in hj, ← e9, cpy_ne (by decide), ← e8, cpy_ne (by decide), ← e7, cpy_ne (by decide), ← e6, zwr_ne (Or.inl (by decide)), ← e5, zwr_ne (Or.inl (by decide)), ← e4, zwr_ne (Or.inl (by decide)), ← e3, zwr_ne (Or.inl (by decide)), ← e2, zwr_ne (Or.inl (by decide)), ← e1, zwr_ne (Or.inl (by decide))]
  have o8 : ∀ j, 13 ≤ j → h11 8 j = κ 8 j := fun j hj => by rw [← e11, cpy_ne (by decide), ← e10, cpy_out hj, ← e9, cpy_ne (by decide), ← e8, cpy_ne (by decide), ← e7, cpy_ne (by decide), ← e6, zwr_ne (Or.inl (by decide)), ← e5, zwr_ne (Or.inl (by decide)), ← e4, zwr_ne (Or.inl (by decide)), ← e3, zwr_ne (Or.inl (by decide)), ← e2, zwr_ne (Or.inl (by decide)), ← e1, zwr_ne (Or.inl (by decide))]
  have c9 : ∀ j, j < 130 → h11 9 j = κ 5 j := fun j hj => by rw [← e11, cpy_in hj, ← e10, cpy_ne (by decide), ← e9, cpy_ne (by decide), ← e8, cpy_ne (by decide), ← e7, cpy_ne (by decide), ← e6, zwr_ne (Or.inl (by decide)), ← e5, zwr_ne (Or.inl (by decide)), ← e4, zwr_ne (Or.inl (by decide)), ← e3, zwr_ne (Or.inl (by decide)), ← e2, zwr_ne (Or.inl (by decide)), ← e1, zwr_ne (Or.inl (by decide))]
  have o9 : ∀ j, 130 ≤ j → h11 9 j = κ 9 j := fun j hj => by rw [← e11, cpy_out hj, ← e10, cpy_ne (by decide), ← e9, cpy_ne (by decide), ← e8, cpy_ne (by decide), ← e7, cpy_ne (by decide), ← e6, zwr_ne (Or.inl (by decide)), ← e5, zwr_ne (Or.inl (by decide)), ← e4, zwr_ne (Or.inl (by decide)), ← e3, zwr_ne (Or.inl (by decide)), ← e2, zwr_ne (Or.inl (by decide)), ← e1, zwr_ne (Or.inl (by decide))]
  have c10 : h11 10 = κ 10 := funext fun j => by rw [← e11, cpy_ne (by decide), ← e10, cpy_ne (by decide), ← e9, cpy_ne (by decide), ← e8, cpy_ne (by decide), ← e7, cpy_ne (by decide), ← e6, zwr_ne (Or.inl (by decide)), ← e5, zwr_ne (Or.inl (by decide)), ← e4, zwr_ne (Or.inl (by decide)), ← e3, zwr_ne (Or.inl (by decide)), ← e2, zwr_ne (Or.inl (by decide)), ← e1, zwr_ne (Or.inl (by decide))]
  have c11 : ∀ j, j < 256 → h11 11 j = κ 10 j := fun j hj => by rw [← e11, cpy_ne (by decide), ← e10, cpy_ne (by decide), ← e9, cpy_ne (by decide), ← e8, cpy_in hj, ← e7, cpy_ne (by decide), ← e6, zwr_ne (Or.inl (by decide)), ← e5, zwr_ne (Or.inl (by decide)), ← e4, zwr_ne (Or.inl (by decide)), ← e3, zwr_ne (Or.inl (by decide)), ← e2, zwr_ne (Or.inl (by decide)), ← e1, zwr_ne (Or.inl (by decide))]
  have o11 : ∀ j, 256 ≤ j → h11 11 j = κ 11 j := fun j hj => by rw [← e11, cpy_ne (by decide), ← e10, cpy_ne (by decide), ← e9, cpy_ne (by decide), ← e8, cpy_out hj, ← e7, cpy_ne (by decide), ← e6, zwr_ne (Or.inl (by decide)), ← e5, zwr_ne (Or.inl (by decide)), ← e4, zwr_ne (Or.inl (by decide)), ← e3, zwr_ne (Or.inl (by decide)), ← e2, zwr_ne (Or.inl (by decide)), ← e1, zwr_ne (Or.inl (by decide))]
  have c14 : h11 14 = κ 14 := funext fun j => by rw [← e11, cpy_ne (by decide), ← e10, cpy_ne (by decide), ← e9, cpy_ne (by decide), ← e8, cpy_ne (by decide), ← e7, cpy_ne (by decide), ← e6, zwr_ne (Or.inl (by decide)), ← e5, zwr_ne (Or.inl (by decide)), ← e4, zwr_ne (Or.inl (by decide)), ← e3, zwr_ne (Or.inl (by decide)), ← e2, zwr_ne (Or.inl (by decide)), ← e1, zwr_ne (Or.inl (by decide))]
  have c15 : h11 15 = κ 15 := funext fun j => by rw [← e11, cpy_ne (by decide), ← e10, cpy_ne (by decide), ← e9, cpy_ne (by decide), ← e8, cpy_ne (by decide), ← e7, cpy_ne (by decide), ← e6, zwr_ne (Or.inl (by decide)), ← e5, zwr_ne (Or.inl (by decide)), ← e4, zwr_ne (Or.inl (by decide)), ← e3, zwr_ne (Or.inl (by decide)), ← e2, zwr_ne (Or.inl (by decide)), ← e1, zwr_ne (Or.inl (by decide))]
  obtain ⟨a0, a1, a2, a3, a4, a5, a6, a7, a8, a9, a10, a11, a12, a13, a14, a15, a16, a17⟩ := hR
  have hRf : KR h11 := by
    unfold KR
    rw [g11, g12, g13, g14, g15, g16, g17, g18, g19, g20, g21, g22, g25, c3, c4, c5, c10, c14, c15]
    refine ⟨a0, a1, a2, a3, a4, a5, a6, a7, a8, ⟨by omega, by omega⟩, fun _ => ⟨a0, a1, a2, a3, a4, (bd2 c8 o8 a6 a16), ?_, (bd2 c9 o9 a11 a17)⟩, a11, a12, (bd2 c11 o11 a12 a13), a14, a15, (bd2 c8 o8 a6 a16), (bd2 c9 o9 a11 a17)⟩
    exact a7.cong3 a3.2 c7 c8 c9
  have hFf : Fm [(0, 22), (0, 16), (0, 17), (0, 18), (0, 19), (0, 20), (6, 999), (7, 999), (8, 999), (9, 999), (11, 999)] κ h11 := ⟨fun k i _ hl => fr k i hl, hS11, hRf, hCf⟩
  exact zV_iret rfl dX12_keep_3.2 ⟨hFf, ⟨⟨by omega, g22, g16, g17, g18, g20⟩, c11⟩⟩

abbrev q_X12_undoD (κ : Hp) : Int → Hp → Prop := fun r h' => Fm [(0, 11), (0, 12), (0, 13), (0, 14), (0, 15), (1, 999), (3, 999), (4, 999), (5, 999), (10, 999), (0, 21)] κ h' ∧ (((κ 0 22 = 0 ∧ r = 0 ∧ h' 0 11 = κ 0 11 ∧ h' 0 12 = κ 0 12 ∧ h' 0 13 = κ 0 13 ∧ h' 0 15 = κ 0 15) ∨ (κ 0 22 = 1 ∧ r = 1 ∧ h' 0 11 = κ 0 16 ∧ h' 0 12 = κ 0 17 ∧ h' 0 13 = κ 0 18 ∧ h' 0 15 = κ 0 20)) ∧ (∀ j : Nat, (r = 1 → j < 256 → h' 10 j = κ 11 j) ∧ (r = 0 → h' 10 j = κ 10 j)))
set_option maxHeartbeats 4000000 in
set_option maxRecDepth 20000 in
theorem s_X12_undoD {G : Ga} {κ : Hp} (hS : SI κ) (hR : KR κ) (hC : KC κ) : zM G mX12_undo yX12_undo [.inr (.inr 0)] κ (q_X12_undoD κ) := by
  have f22 := KRk hR
  refine zM_of [some (.inr (.inr 0))] 0 rfl rfl (Nat.le_of_ble_eq_true rfl) rfl ?_
  refine zW_aload_n (pc' := 1) dX12_undo_0.1.1.1.1 rfl rfl ?_
  refine zG_int (pc' := 4) fg_X12_457 tb0 rfl dX12_undo_0.1.1.1.2 rfl ?_
  refine zV_if_ne (tgt := 9) (pc' := 7) dX12_undo_0.1.1.2.1 rfl rfl ⟨by omega, by omega⟩ (fun c => ?_) (fun c => ?_)
  rotate_left
  · refine zW_iconst (pc' := 8) dX12_undo_0.1.1.2.2 rfl ?_
    exact zV_zret rfl (by omega) dX12_undo_0.1.2.1.1 ⟨Fm.rf hS hR hC, ⟨Or.inl ⟨by omega, rfl, rfl, rfl, rfl, rfl⟩, fun j => ⟨fun q => by omega, fun _ => rfl⟩⟩⟩
  have hk1 : κ 0 22 = 1 := by omega
  obtain ⟨a0, a1, a2, a3, a4, a5, a6, a7, a8, a9, a10, a11, a12, a13, a14, a15, a16, a17⟩ := hR
  have hR : KR κ := ⟨a0, a1, a2, a3, a4, a5, a6, a7, a8, a9, a10, a11, a12, a13, a14, a15, a16, a17⟩
  obtain ⟨k1, k2, k3, k4, k5, k6, k7, k8⟩ := a10 hk1
  refine zW_aload_n (pc' := 10) dX12_undo_0.1.2.1.2 rfl rfl ?_
  refine zW_aload_n (pc' := 11) dX12_undo_0.1.2.2.1 rfl rfl ?_
  refine zG_int (pc' := 14) fg_X12_460 tb0 rfl dX12_undo_0.1.2.2.2 rfl ?_
  refine zV_puti (pc' := 17) fp_X12_99 tb0 rfl dX12_undo_0.2.1.1.1 rfl ?_
  have hS1 := SI_irr (k := 0) (i := 11) (v := κ 0 16) hS (Or.inl rfl) (fun _ _ => (hS.2.2.2.2 _ _ (by decide) (by decide)))
  generalize e1 : zwr κ 0 11 (κ 0 16) = h1 at hS1 ⊢
  refine zW_aload_n (pc' := 18) dX12_undo_0.2.1.1.2 rfl rfl ?_
  refine zW_aload_n (pc' := 19) dX12_undo_0.2.1.2.1 rfl rfl ?_
  refine zG_int (pc' := 22) fg_X12_463 tb0 rfl dX12_undo_0.2.1.2.2 rfl ?_
  refine zV_puti (pc' := 25) fp_X12_103 tb0 rfl dX12_undo_0.2.2.1.1 rfl ?_
  have hS2 := SI_irr (k := 0) (i := 12) (v := h1 0 17) hS1 (Or.inl rfl) (fun _ _ => (hS1.2.2.2.2 _ _ (by decide) (by decide)))
  generalize e2 : zwr h1 0 12 (h1 0 17) = h2 at hS2 ⊢
  refine zW_aload_n (pc' := 26) dX12_undo_0.2.2.1.2 rfl rfl ?_
  refine zW_aload_n (pc' := 27) dX12_undo_0.2.2.2.1 rfl rfl ?_
  refine zG_int (pc' := 30) fg_X12_466 tb0 rfl dX12_undo_0.2.2.2.2 rfl ?_
  refine zV_puti (pc' := 33) fp_X12_209 tb0 rfl dX12_undo_1.1.1.1.1 rfl ?_
  have hS3 := SI_irr (k := 0) (i := 13) (v := h2 0 18) hS2 (Or.inl rfl) (fun _ _ => (hS2.2.2.2.2 _ _ (by decide) (by decide)))
  generalize e3 : zwr h2 0 13 (h2 0 18) = h3 at hS3 ⊢
  refine zW_aload_n (pc' := 34) dX12_undo_1.1.1.1.2 rfl rfl ?_
  refine zW_aload_n (pc' := 35) dX12_undo_1.1.1.2.1 rfl rfl ?_
  refine zG_int (pc' := 38) fg_X12_469 tb0 rfl dX12_undo_1.1.1.2.2 rfl ?_
  refine zV_puti (pc' := 41) fp_X12_185 tb0 rfl dX12_undo_1.1.2.1.1 rfl ?_
  have hS4 := SI_irr (k := 0) (i := 14) (v := h3 0 19) hS3 (Or.inl rfl) (fun _ _ => (hS3.2.2.2.2 _ _ (by decide) (by decide)))
  generalize e4 : zwr h3 0 14 (h3 0 19) = h4 at hS4 ⊢
  refine zW_aload_n (pc' := 42) dX12_undo_1.1.2.1.2 rfl rfl ?_
  refine zW_aload_n (pc' := 43) dX12_undo_1.1.2.2.1 rfl rfl ?_
  refine zG_int (pc' := 46) fg_X12_472 tb0 rfl dX12_undo_1.1.2.2.2 rfl ?_
  refine zV_puti (pc' := 49) fp_X12_106 tb0 rfl dX12_undo_1.2.1.1.1 rfl ?_
  have hS5 := SI_irr (k := 0) (i := 15) (v := h4 0 20) hS4 (Or.inl rfl) (fun _ _ => (hS4.2.2.2.2 _ _ (by decide) (by decide)))
  generalize e5 : zwr h4 0 15 (h4 0 20) = h5 at hS5 ⊢
  refine zW_aload_n (pc' := 50) dX12_undo_1.2.1.1.2 rfl rfl ?_
  refine zG_ref (pc' := 53) 6 fg_X12_25 tb0 rfl dX12_undo_1.2.1.2.1 rfl ?_
  refine zW_aload_n (pc' := 54) dX12_undo_1.2.1.2.2 rfl rfl ?_
  refine zG_ref (pc' := 57) 1 fg_X12_7 tb0 rfl dX12_undo_1.2.2.1.1 rfl ?_
  refine csV2 (pc' := 60) kX12_copies vX12_copies lk_X12_188 ⟨Nat.le_of_ble_eq_true rfl, Nat.le_of_ble_eq_true rfl⟩ rfl (s_X12_copies tb6 tb1 (by decide) (by decide)) dX12_undo_1.2.2.1.2 (Nat.le_of_ble_eq_true rfl) rfl ?_
  rintro _ h6 e6; replace e6 := e6.symm
  have hS6 : SI h6 := by rw [← e6]; exact SI_cpy hS5 rfl (by decide)
  refine zW_aload_n (pc' := 61) dX12_undo_1.2.2.2.1 rfl rfl ?_
  refine zG_ref (pc' := 64) 11 fg_X12_41 tb0 rfl dX12_undo_1.2.2.2.2 rfl ?_
  refine zW_aload_n (pc' := 65) dX12_undo_2.1.1.1.1 rfl rfl ?_
  refine zG_ref (pc' := 68) 10 fg_X12_37 tb0 rfl dX12_undo_2.1.1.1.2 rfl ?_
  have hb : ∀ i, h6 11 i = 0 ∨ h6 11 i = 1 := fun i => by have q := hR.2.2.2.2.2.2.2.2.2.2.2.2.2.1 i; rw [← e6, cpy_ne (by decide), ← e5, zwr_ne (Or.inl (by decide)), ← e4, zwr_ne (Or.inl (by decide)), ← e3, zwr_ne (Or.inl (by decide)), ← e2, zwr_ne (Or.inl (by decide)), ← e1, zwr_ne (Or.inl (by decide))]; omega
  refine csV2 (pc' := 71) kX12_copiesMarks vX12_copiesMarks lk_X12_475 ⟨Nat.le_of_ble_eq_true rfl, Nat.le_of_ble_eq_true rfl⟩ rfl (s_X12_copiesMarks tb11 tb10 (by decide) (by decide) hb) dX12_undo_2.1.1.2.1 (Nat.le_of_ble_eq_true rfl) rfl ?_
  rintro _ h7 e7; replace e7 := e7.symm
  have hS7 : SI h7 := by rw [← e7]; exact SI_cpy hS6 rfl (by decide)
  refine zW_aload_n (pc' := 72) dX12_undo_2.1.1.2.2 rfl rfl ?_
  refine zG_ref (pc' := 75) 7 fg_X12_28 tb0 rfl dX12_undo_2.1.2.1.1 rfl ?_
  refine zW_aload_n (pc' := 76) dX12_undo_2.1.2.1.2 rfl rfl ?_
  refine zG_ref (pc' := 79) 3 fg_X12_16 tb0 rfl dX12_undo_2.1.2.2.1 rfl ?_
  refine csV2 (pc' := 82) kX12_copies vX12_copies lk_X12_188 ⟨Nat.le_of_ble_eq_true rfl, Nat.le_of_ble_eq_true rfl⟩ rfl (s_X12_copies tb7 tb3 (by decide) (by decide)) dX12_undo_2.1.2.2.2 (Nat.le_of_ble_eq_true rfl) rfl ?_
  rintro _ h8 e8; replace e8 := e8.symm
  have hS8 : SI h8 := by rw [← e8]; exact SI_cpy hS7 rfl (by decide)
  refine zW_aload_n (pc' := 83) dX12_undo_2.2.1.1.1 rfl rfl ?_
  refine zG_ref (pc' := 86) 8 fg_X12_31 tb0 rfl dX12_undo_2.2.1.1.2 rfl ?_
  refine zW_aload_n (pc' := 87) dX12_undo_2.2.1.2.1 rfl rfl ?_
  refine zG_ref (pc' := 90) 4 fg_X12_19 tb0 rfl dX12_undo_2.2.1.2.2 rfl ?_
  refine csV2 (pc' := 93) kX12_copies vX12_copies lk_X12_188 ⟨Nat.le_of_ble_eq_true rfl, Nat.le_of_ble_eq_true rfl⟩ rfl (s_X12_copies tb8 tb4 (by decide) (by decide)) dX12_undo_2.2.2.1.1 (Nat.le_of_ble_eq_true rfl) rfl ?_
  rintro _ h9 e9; replace e9 := e9.symm
  have hS9 : SI h9 := by rw [← e9]; exact SI_cpy hS8 rfl (by decide)
  refine zW_aload_n (pc' := 94) dX12_undo_2.2.2.1.2 rfl rfl ?_
  refine zG_ref (pc' := 97) 9 fg_X12_34 tb0 rfl dX12_undo_2.2.2.2.1 rfl ?_
  refine zW_aload_n (pc' := 98) dX12_undo_2.2.2.2.2 rfl rfl ?_
  refine zG_ref (pc' := 101) 5 fg_X12_22 tb0 rfl dX12_undo_3.1.1.1 rfl ?_
  refine csV2 (pc' := 104) kX12_copies vX12_copies lk_X12_188 ⟨Nat.le_of_ble_eq_true rfl, Nat.le_of_ble_eq_true rfl⟩ rfl (s_X12_copies tb9 tb5 (by decide) (by decide)) dX12_undo_3.1.1.2 (Nat.le_of_ble_eq_true rfl) rfl ?_
  rintro _ h10 e10; replace e10 := e10.symm
  have hS10 : SI h10 := by rw [← e10]; exact SI_cpy hS9 rfl (by decide)
  refine zW_aload_n (pc' := 105) dX12_undo_3.1.2 rfl rfl ?_
  have fr : ∀ k i, inW [(0, 11), (0, 12), (0, 13), (0, 14), (0, 15), (1, 999), (3, 999), (4, 999), (5, 999), (10, 999), (0, 21)] k i = false → h10 k i = κ k i := fun k i hl => by rw [← e10, cpy_ne (inW_nc (L := [(0, 11), (0, 12), (0, 13), (0, 14), (0, 15), (1, 999), (3, 999), (4, 999), (5, 999), (10, 999), (0, 21)]) (c := 5) rfl hl), ← e9, cpy_ne (inW_nc (L := [(0, 11), (0, 12), (0, 13), (0, 14), (0, 15), (1, 999), (3, 999), (4, 999), (5, 999), (10, 999), (0, 21)]) (c := 4) rfl hl), ← e8, cpy_ne (inW_nc (L := [(0, 11), (0, 12), (0, 13), (0, 14), (0, 15), (1, 999), (3, 999), (4, 999), (5, 999), (10, 999), (0, 21)]) (c := 3) rfl hl), ← e7, cpy_ne (inW_nc (L := [(0, 11), (0, 12), (0, 13), (0, 14), (0, 15), (1, 999), (3, 999), (4, 999), (5, 999), (10, 999), (0, 21)]) (c := 10) rfl hl), ← e6, cpy_ne (inW_nc (L := [(0, 11), (0, 12), (0, 13), (0, 14), (0, 15), (1, 999), (3, 999), (4, 999), (5, 999), (10, 999), (0, 21)]) (c := 1) rfl hl), ← e5, zwr_ne (inW_ne (L := [(0, 11), (0, 12), (0, 13), (0, 14), (0, 15), (1, 999), (3, 999), (4, 999), (5, 999), (10, 999), (0, 21)]) (k := 0) (i := 15) rfl hl), ← e4, zwr_ne (inW_ne (L := [(0, 11), (0, 12), (0, 13), (0, 14), (0, 15), (1, 999), (3, 999), (4, 999), (5, 999), (10, 999), (0, 21)]) (k := 0) (i := 14) rfl hl), ← e3, zwr_ne (inW_ne (L := [(0, 11), (0, 12), (0, 13), (0, 14), (0, 15), (1, 999), (3, 999), (4, 999), (5, 999), (10, 999), (0, 21)]) (k := 0) (i := 13) rfl hl), ← e2, zwr_ne (inW_ne (L := [(0, 11), (0, 12), (0, 13), (0, 14), (0, 15), (1, 999), (3, 999), (4, 999), (5, 999), (10, 999), (0, 21)]) (k := 0) (i := 12) rfl hl), ← e1, zwr_ne (inW_ne (L := [(0, 11), (0, 12), (0, 13), (0, 14), (0, 15), (1, 999), (3, 999), (4, 999), (5, 999), (10, 999), (0, 21)]) (k := 0) (i := 11) rfl hl)]
  have hCf : KC h10 := KC_low hC (fun k i hk => fr k i (by unfold inW; simp [List.any_cons]; omega))
  have g11 : h10 0 11 = κ 0 16 := by rw [← e10, cpy_ne (by decide), ← e9, cpy_ne (by decide), ← e8, cpy_ne (by decide), ← e7, cpy_ne (by decide), ← e6, cpy_ne (by decide), ← e5, zwr_ne (Or.inr (by decide)), ← e4, zwr_ne (Or.inr (by decide)), ← e3, zwr_ne (Or.inr (by decide)), ← e2, zwr_ne (Or.inr (by decide)), ← e1, zwr_eq]
  have g12 : h10 0 12 = κ 0 17 := by rw [← e10, cpy_ne (by decide), ← e9, cpy_ne (by decide), ← e8, cpy_ne (by decide), ← e7, cpy_ne (by decide), ← e6, cpy_ne (by decide), ← e5, zwr_ne (Or.inr (by decide)), ← e4, zwr_ne (Or.inr (by decide)), ← e3, zwr_ne (Or.inr (by decide)), ← e2, zwr_eq, ← e1, zwr_ne (Or.inr (by decide))]
  have g13 : h10 0 13 = κ 0 18 := by rw [← e10, cpy_ne (by decide), ← e9, cpy_ne (by decide), ← e8, cpy_ne (by decide), ← e7, cpy_ne (by decide), ← e6, cpy_ne (by decide), ← e5, zwr_ne (Or.inr (by decide)), ← e4, zwr_ne (Or.inr (by decide)), ← e3, zwr_eq, ← e2, zwr_ne (Or.inr (by decide)), ← e1, zwr_ne (Or.inr (by decide))]
  have g14 : h10 0 14 = κ 0 19 := by rw [← e10, cpy_ne (by decide), ← e9, cpy_ne (by decide), ← e8, cpy_ne (by decide), ← e7, cpy_ne (by decide), ← e6, cpy_ne (by decide), ← e5, zwr_ne (Or.inr (by decide)), ← e4, zwr_eq, ← e3, zwr_ne (Or.inr (by decide)), ← e2, zwr_ne (Or.inr (by decide)), ← e1, zwr_ne (Or.inr (by decide))]
  have g15 : h10 0 15 = κ 0 20 := by rw [← e10, cpy_ne (by decide), ← e9, cpy_ne (by decide), ← e8, cpy_ne (by decide), ← e7, cpy_ne (by decide), ← e6, cpy_ne (by decide), ← e5, zwr_eq, ← e4, zwr_ne (Or.inr (by decide)), ← e3, zwr_ne (Or.inr (by decide)), ← e2, zwr_ne (Or.inr (by decide)), ← e1, zwr_ne (Or.inr (by decide))]
  have g16 : h10 0 16 = κ 0 16 := by rw [← e10, cpy_ne (by decide), ← e9, cpy_ne (by decide), ← e8, cpy_ne (by decide), ← e7, cpy_ne (by decide), ← e6, cpy_ne (by decide), ← e5, zwr_ne (Or.inr (by decide)), ← e4, zwr_ne (Or.inr (by decide)), ← e3, zwr_ne (Or.inr (by decide)), ← e2, zwr_ne (Or.inr (by decide)), ← e1, zwr_ne (Or.inr (by decide))]
  have g17 : h10 0 17 = κ 0 17 := by rw [← e10, cpy_ne (by decide), ← e9, cpy_ne (by decide), ← e8, cpy_ne (by decide), ← e7, cpy_ne (by decide), ← e6, cpy_ne (by decide), ← e5, zwr_ne (Or.inr (by decide)), ← e4, zwr_ne (Or.inr (by decide)), ← e3, zwr_ne (Or.inr (by decide)), ← e2, zwr_ne (Or.inr (by decide)), ← e1, zwr_ne (Or.inr (by decide))]
  have g18 : h10 0 18 = κ 0 18 := by rw [← e10, cpy_ne (by decide), ← e9, cpy_ne (by decide), ← e8, cpy_ne (by decide), ← e7, cpy_ne (by decide), ← e6, cpy_ne (by decide), ← e5, zwr_ne (Or.inr (by decide)), ← e4, zwr_ne (Or.inr (by decide)), ← e3, zwr_ne (Or.inr (by decide)), ← e2, zwr_ne (Or.inr (by decide)), ← e1, zwr_ne (Or.inr (by decide))]
  have g19 : h10 0 19 = κ 0 19 := by rw [← e10, cpy_ne (by decide), ← e9, cpy_ne (by decide), ← e8, cpy_ne (by decide), ← e7, cpy_ne (by decide), ← e6, cpy_ne (by decide), ← e5, zwr_ne (Or.inr (by decide)), ← e4, zwr_ne (Or.inr (by decide)), ← e3, zwr_ne (Or.inr (by decide)), ← e2, zwr_ne (Or.inr (by decide)), ← e1, zwr_ne (Or.inr (by decide))]
  have g20 : h10 0 20 = κ 0 20 := by rw [← e10, cpy_ne (by decide), ← e9, cpy_ne (by decide), ← e8, cpy_ne (by decide), ← e7, cpy_ne (by decide), ← e6, cpy_ne (by decide), ← e5, zwr_ne (Or.inr (by decide)), ← e4, zwr_ne (Or.inr (by decide)), ← e3, zwr_ne (Or.inr (by decide)), ← e2, zwr_ne (Or.inr (by decide)), ← e1, zwr_ne (Or.inr (by decide))]
  have g21 : h10 0 21 = κ 0 21 := by rw [← e10, cpy_ne (by decide), ← e9, cpy_ne (by decide), ← e8, cpy_ne (by decide), ← e7, cpy_ne (by decide), ← e6, cpy_ne (by decide), ← e5, zwr_ne (Or.inr (by decide)), ← e4, zwr_ne (Or.inr (by decide)), ← e3, zwr_ne (Or.inr (by decide)), ← e2, zwr_ne (Or.inr (by decide)), ← e1, zwr_ne (Or.inr (by decide))]
  have g22 : h10 0 22 = κ 0 22 := by rw [← e10, cpy_ne (by decide), ← e9, cpy_ne (by decide), ← e8, cpy_ne (by decide), ← e7, cpy_ne (by decide), ← e6, cpy_ne (by decide), ← e5, zwr_ne (Or.inr (by decide)), ← e4, zwr_ne (Or.inr (by decide)), ← e3, zwr_ne (Or.inr (by decide)), ← e2, zwr_ne (Or.inr (by decide)), ← e1, zwr_ne (Or.inr (by decide))]
  have g25 : h10 0 25 = κ 0 25 := by rw [← e10, cpy_ne (by decide), ← e9, cpy_ne (by decide), ← e8, cpy_ne (by decide), ← e7, cpy_ne (by decide), ← e6, cpy_ne (by decide), ← e5, zwr_ne (Or.inr (by decide)), ← e4, zwr_ne (Or.inr (by decide)), ← e3, zwr_ne (Or.inr (by decide)), ← e2, zwr_ne (Or.inr (by decide)), ← e1, zwr_ne (Or.inr (by decide))]
  have c3 : ∀ j, j < 12 → h10 3 j = κ 7 j := fun j hj => by rw [← e10, cpy_ne (by decide), ← e9, cpy_ne (by decide), ← e8, cpy_in hj, ← e7, cpy_ne (by decide), ← e6, cpy_ne (by decide), ← e5, zwr_ne (Or.inl (by decide)), ← e4, zwr_ne (Or.inl (by decide)), ← e3, zwr_ne (Or.inl (by decide)), ← e2, zwr_ne (Or.inl (by decide)), ← e1, zwr_ne (Or.inl (by decide))]
  have o3 : ∀ j, 12 ≤ j → h10 3 j = κ 3 j := fun j hj => by rw [← e10, cpy_ne (by decide), ← e9, cpy_ne (by decide), ← e8, cpy_out hj, ← e7, cpy_ne (by decide), ← e6, cpy_ne (by decide), ← e5, zwr_ne (Or.inl (by decide)), ← e4, zwr_ne (Or.inl (by decide)), ← e3, zwr_ne (Or.inl (by decide)), ← e2, zwr_ne (Or.inl (by decide)), ← e1, zwr_ne (Or.inl (by decide))]
  have c4 : ∀ j, j < 13 → h10 4 j = κ 8 j := fun j hj => by rw [← e10, cpy_ne (by decide), ← e9, cpy_in hj, ← e8, cpy_ne (by decide), ← e7, cpy_ne (by decide), ← e6, cpy_ne (by decide), ← e5, zwr_ne (Or.inl (by decide)), ← e4, zwr_ne (Or.inl (by decide)), ← e3, zwr_ne (Or.inl (by decide)), ← e2, zwr_ne (Or.inl (by decide)), ← e1, zwr_ne (Or.inl (by decide))]
  have o4 : ∀ j, 13 ≤ j → h10 4 j = κ 4 j := fun j hj => by rw [← e10, cpy_ne (by decide), ← e9, cpy_out hj, ← e8, cpy_ne (by decide), ← e7, cpy_ne (by decide), ← e6, cpy_ne (by decide), ← e5, zwr_ne (Or.inl (by decide)), ← e4, zwr_ne (Or.inl (by decide)), ← e3, zwr_ne (Or.inl (by decide)), ← e2, zwr_ne (Or.inl (by decide)), ← e1, zwr_ne (Or.inl (by decide))]
  have c5 : ∀ j, j < 130 → h10 5 j = κ 9 j := fun j hj => by rw [← e10, cpy_in hj, ← e9, cpy_ne (by decide), ← e8, cpy_ne (by decide), ← e7, cpy_ne (by decide), ← e6, cpy_ne (by decide), ← e5, zwr_ne (Or.inl (by decide)), ← e4, zwr_ne (Or.inl (by decide)), ← e3, zwr_ne (Or.inl (by decide)), ← e2, zwr_ne (Or.inl (by decide)), ← e1, zwr_ne (Or.inl (by decide))]
  have o5 : ∀ j, 130 ≤ j → h10 5 j = κ 5 j := fun j hj => by rw [← e10, cpy_out hj, ← e9, cpy_ne (by decide), ← e8, cpy_ne (by decide), ← e7, cpy_ne (by decide), ← e6, cpy_ne (by decide), ← e5, zwr_ne (Or.inl (by decide)), ← e4, zwr_ne (Or.inl (by decide)), ← e3, zwr_ne (Or.inl (by decide)), ← e2, zwr_ne (Or.inl (by decide)), ← e1, zwr_ne (Or.inl (by decide))]
  have c7 : h10 7 = κ 7 := funext fun j => by rw [← e10, cpy_ne (by decide), ← e9, cpy_ne (by decide), ← e8, cpy_ne (by decide), ← e7, cpy_ne (by decide), ← e6, cpy_ne (by decide), ← e5, zwr_ne (Or.inl (by decide)), ← e4, zwr_ne (Or.inl (by decide)), ← e3, zwr_ne (Or.inl (by decide)), ← e2, zwr_ne (Or.inl (by decide)), ← e1, zwr_ne (Or.inl (by decide))]
  have c8 : h10 8 = κ 8 := funext fun j => by rw [← e10, cpy_ne (by decide), ← e9, cpy_ne (by decide), ← e8, cpy_ne (by decide), ← e7, cpy_ne (by decide), ← e6, cpy_ne (by decide), ← e5, zwr_ne (Or.inl (by decide)), ← e4, zwr_ne (Or.inl (by decide)), ← e3, zwr_ne (Or.inl (by decide)), ← e2, zwr_ne (Or.inl (by decide)), ← e1, zwr_ne (Or.inl (by decide))]
  have c9 : h10 9 = κ 9 := funext fun j => by rw [← e10, cpy_ne (by decide), ← e9, cpy_ne (by decide), ← e8, cpy_ne (by decide), ← e7, cpy_ne (by decide), ← e6, cpy_ne (by decide), ← e5, zwr_ne (Or.inl (by decide)), ← e4, zwr_ne (Or.inl (by decide)), ← e3, zwr_ne (Or.inl (by decide)), ← e2, zwr_ne (Or.inl (by decide)), ← e1, zwr_ne (Or.inl (by decide))]
  have c10 : ∀ j, j < 256 → h10 10 j = κ 11 j := fun j hj => by rw [← e10, cpy_ne (by decide), ← e9, cpy_ne (by decide), ← e8, cpy_ne (by decide), ← e7, cpy_in hj, ← e6, cpy_ne (by decide), ← e5, zwr_ne (Or.inl (by decide)), ← e4, zwr_ne (Or.inl (by decide)), ← e3, zwr_ne (Or.inl (by decide)), ← e2, zwr_ne (Or.inl (by decide)), ← e1, zwr_ne (Or.inl (by decide))]
  have o10 : ∀ j, 256 ≤ j → h10 10 j = κ 10 j := fun j hj => by rw [← e10, cpy_ne (by decide), ← e9, cpy_ne (by decide), ← e8, cpy_ne (by decide), ← e7, cpy_out hj, ← e6, cpy_ne (by decide), ← e5, zwr_ne (Or.inl (by decide)), ← e4, zwr_ne (Or.inl (by decide)), ← e3, zwr_ne (Or.inl (by decide)), ← e2, zwr_ne (Or.inl (by decide)), ← e1, zwr_ne (Or.inl (by decide))]
  have c11 : h10 11 = κ 11 := funext fun j => by rw [← e10, cpy_ne (by decide), ← e9, cpy_ne (by decide), ← e8, cpy_ne (by decide), ← e7, cpy_ne (by decide), ← e6, cpy_ne (by decide), ← e5, zwr_ne (Or.inl (by decide)), ← e4, zwr_ne (Or.inl (by decide)), ← e3, zwr_ne (Or.inl (by decide)), ← e2, zwr_ne (Or.inl (by decide)), ← e1, zwr_ne (Or.inl (by decide))]
  have c14 : h10 14 = κ 14 := funext fun j => by rw [← e10, cpy_ne (by decide), ← e9, cpy_ne (by decide), ← e8, cpy_ne (by decide), ← e7, cpy_ne (by decide), ← e6, cpy_ne (by decide), ← e5, zwr_ne (Or.inl (by decide)), ← e4, zwr_ne (Or.inl (by decide)), ← e3, zwr_ne (Or.inl (by decide)), ← e2, zwr_ne (Or.inl (by decide)), ← e1, zwr_ne (Or.inl (by decide))]
  have c15 : h10 15 = κ 15 := funext fun j => by rw [← e10, cpy_ne (by decide), ← e9, cpy_ne (by decide), ← e8, cpy_ne (by decide), ← e7, cpy_ne (by decide), ← e6, cpy_ne (by decide), ← e5, zwr_ne (Or.inl (by decide)), ← e4, zwr_ne (Or.inl (by decide)), ← e3, zwr_ne (Or.inl (by decide)), ← e2, zwr_ne (Or.inl (by decide)), ← e1, zwr_ne (Or.inl (by decide))]
  have hRf : KR h10 := by
    unfold KR
    rw [g11, g12, g13, g14, g15, g16, g17, g18, g19, g20, g21, g22, g25, c7, c8, c9, c11, c14, c15]
    refine ⟨k1, k2, k3, k4, k5, a5, (bd2 c4 o4 k6 a6), ?_, a8, a9, a10, (bd2 c5 o5 k8 a11), (bd2 c10 o10 a13 a12), a13, a14, a15, a16, a17⟩
    exact k7.cong3 k4.2 c3 c4 c5
  have hFf : Fm [(0, 11), (0, 12), (0, 13), (0, 14), (0, 15), (1, 999), (3, 999), (4, 999), (5, 999), (10, 999), (0, 21)] κ h10 := ⟨fun k i _ hl => fr k i hl, hS10, hRf, hCf⟩
  refine cvV0 (pc' := 108) kX12_changed vX12_changed lk_X12_215 ⟨Nat.le_of_ble_eq_true rfl, Nat.le_of_ble_eq_true rfl⟩ tb0 vq12 rfl rfl (s_X12_changed hS10 hRf hCf) dX12_undo_3.2.1.1 (Nat.le_of_ble_eq_true rfl) rfl ?_
  rintro r h ⟨hF1, -⟩
  refine zW_iconst (pc' := 109) dX12_undo_3.2.1.2 rfl ?_
  exact zV_zret rfl (by omega) dX12_undo_3.2.2 ⟨hFf.tr hF1 rfl, ⟨Or.inr ⟨hk1, rfl, (hF1.1 0 11 rfl rfl).trans g11, (hF1.1 0 12 rfl rfl).trans g12, (hF1.1 0 13 rfl rfl).trans g13, (hF1.1 0 15 rfl rfl).trans g15⟩, fun j => ⟨fun _ hj => (hF1.1 10 j rfl rfl).trans (c10 j hj), fun q => by omega⟩⟩⟩
