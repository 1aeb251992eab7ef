/-! the curve -/
theorem tdS {a d A : Int} (h : -A ≤ a ∧ a ≤ A) (hd : 1 ≤ d) : -A ≤ a.tdiv d ∧ a.tdiv d ≤ A := by
  by_cases c : 0 ≤ a
  · have z := tdb2 (a := a) (d := d) hd c
    omega
  · have z := tdb2 (a := -a) (d := d) hd (by omega)
    rw [Int.neg_tdiv] at z
    omega
theorem crI_s {X : Nat → Int} {m v i : Int} {k : Nat} (h : i + 2 < m ∧ 16 * X (2 * i + 2).toNat ≤ v) : crI X m v (k + 1) i = crI X m v k (i + 1) := if_pos h
theorem crI_e {X : Nat → Int} {m v i : Int} {k : Nat} (h : ¬ (i + 2 < m ∧ 16 * X (2 * i + 2).toNat ≤ v)) : crI X m v (k + 1) i = i := if_neg h
abbrev XC (κ : Hp) (k : Int) : Nat → Int := fun j => κ 44 (κ 43 k.toNat + (j : Int)).toNat
theorem XC_at {κ : Hp} {k j : Int} (h : 0 ≤ j) : XC κ k j.toNat = κ 44 (κ 43 k.toNat + j).toNat := by
  show κ 44 (κ 43 k.toNat + ((j.toNat : Nat) : Int)).toNat = _
  rw [show ((j.toNat : Nat) : Int) = j by omega]
/-- the numbers of a curve are in order -/
def CrC (κ : Hp) (k : Int) : Prop := (κ 43 (k + 1).toNat ≤ 64 ∧ 4 ≤ (κ 43 (k + 1).toNat - κ 43 k.toNat) ∧ (κ 43 (k + 1).toNat - κ 43 k.toNat) % 2 = 0) ∧ (∀ j : Int, 0 ≤ j → j < (κ 43 (k + 1).toNat - κ 43 k.toNat) → 0 ≤ XC κ k j.toNat ∧ XC κ k j.toNat ≤ 255) ∧ (∀ i : Int, 0 ≤ i → 2 * i + 2 < (κ 43 (k + 1).toNat - κ 43 k.toNat) → XC κ k (2 * i).toNat < XC κ k (2 * i + 2).toNat)
def bnF (κ : Hp) (k : Int) (F : P3) (c x y : Int) : Int := clp (crv (XC κ k) ((κ 43 (k + 1).toNat - κ 43 k.toNat) / 2) (F c x y))

theorem mulS2 {a b A B : Int} (ha : -4096 ≤ a ∧ a ≤ 4095) (hb : -255 ≤ b ∧ b ≤ 255) : -2080000 ≤ a * b ∧ a * b ≤ 2080000 := by
  have z := mulq (a := a + 4096) (b := b + 255) (A := 8191) (B := 510) ⟨by omega, by omega⟩ ⟨by omega, by omega⟩
  by_cases c : 0 ≤ b
  · have y := mulS (a := a) (b := b) (A := 4096) (B := 255) ⟨by omega, by omega⟩ ⟨by omega, by omega⟩
    omega
  · have y := mulS (a := a) (b := -b) (A := 4096) (B := 255) ⟨by omega, by omega⟩ ⟨by omega, by omega⟩
    rw [Int.mul_neg] at y
    omega

abbrev q_X7_numbersOfY (κ h : Hp) (x1 : Int) : Int → Hp → Prop := fun r h' => h' = h ∧ ((-2147483648 ≤ r) ∧ (r ≤ 2147483647) ∧ (r = κ 43 (x1 + 1).toNat - κ 43 x1.toNat))
set_option maxHeartbeats 4000000 in
set_option maxRecDepth 20000 in
theorem s_X7_numbersOfY {G : Ga} {b : Bd} {κ h : Hp} (hK : KC κ) (hF : Fr b κ h) (x1 : Int) (hx1 : 1 ≤ x1 ∧ x1 ≤ 12 ∧ x1 - κ 41 0 ≤ 0) : zM G mX7_numbersOf yX7_numbersOf [.inr (.inr 41), .inl x1] h (q_X7_numbersOfY κ h x1) := by
  have f_41_0 := KCm hK
  refine zM_of [some (.inr (.inr 41)), some (.inl x1)] 0 rfl rfl (Nat.le_of_ble_eq_true rfl) rfl ?_
  refine zW_aload_n (pc' := 1) dX7_numbersOf_0.1.1.1.1 rfl rfl ?_
  refine zW_iload_n (pc' := 2) dX7_numbersOf_0.1.1.1.2 rfl rfl ?_
  refine cvI1 (pc' := 5) kX7_has vX7_has lk_X7_38 ⟨Nat.le_of_ble_eq_true rfl, Nat.le_of_ble_eq_true rfl⟩ tb41 vq7 rfl rfl (s_X7_has hK hF _ ⟨by omega, by omega⟩) dX7_numbersOf_0.1.1.2.1 (Nat.le_of_ble_eq_true rfl) rfl ?_
  rintro r2 z2 ⟨hz2, p2⟩; subst z2
  refine zV_if_eq (tgt := 26) (pc' := 8) dX7_numbersOf_0.1.1.2.2 rfl rfl ⟨by omega, by omega⟩ (fun c5 => ?_) (fun c5 => ?_)
  · refine zW_iconst (pc' := 27) dX7_numbersOf_1.1 rfl ?_
    exact zV_iret rfl dX7_numbersOf_1.2 ⟨rfl, by omega⟩
  · refine zW_aload_n (pc' := 9) dX7_numbersOf_0.1.2.1.1 rfl rfl ?_
    refine zG_ref (pc' := 12) 43 fg_X7_15 tb41 rfl dX7_numbersOf_0.1.2.1.2 rfl ?_
    refine zW_iload_n (pc' := 13) dX7_numbersOf_0.1.2.2.1 rfl rfl ?_
    refine zW_iconst (pc' := 14) dX7_numbersOf_0.1.2.2.2 rfl ?_
    refine zW_iadd (pc' := 15) dX7_numbersOf_0.2.1.1.1 rfl ?_
    refine zA_keyB (KCst hK) (pc' := 16) hF rfl tb43 (by omega) dX7_numbersOf_0.2.1.1.2 (by decide) rfl (fun e15 => ?_)
    refine zW_aload_n (pc' := 17) dX7_numbersOf_0.2.1.2.1 rfl rfl ?_
    refine zG_ref (pc' := 20) 43 fg_X7_15 tb41 rfl dX7_numbersOf_0.2.1.2.2 rfl ?_
    refine zW_iload_n (pc' := 21) dX7_numbersOf_0.2.2.1.1 rfl rfl ?_
    refine zA_keyB (KCst hK) (pc' := 22) hF rfl tb43 (by omega) dX7_numbersOf_0.2.2.1.2 (by decide) rfl (fun e21 => ?_)
    refine zW_isub (pc' := 23) dX7_numbersOf_0.2.2.2.1 rfl ?_
    refine zV_goto 27 dX7_numbersOf_0.2.2.2.2 rfl ?_
    exact zV_iret rfl dX7_numbersOf_1.2 ⟨rfl, by omega⟩

abbrev q_X7_numberOfY (κ h : Hp) (x1 : Int) (x2 : Int) : Int → Hp → Prop := fun r h' => h' = h ∧ ((-2147483648 ≤ r) ∧ (r ≤ 2147483647) ∧ (r = κ 44 (κ 43 x1.toNat + x2).toNat))
set_option maxHeartbeats 4000000 in
set_option maxRecDepth 20000 in
theorem s_X7_numberOfY {G : Ga} {b : Bd} {κ h : Hp} (hK : KC κ) (hF : Fr b κ h) (x1 : Int) (hx1 : 1 ≤ x1 ∧ x1 ≤ 12 ∧ x1 - κ 41 0 ≤ 0) (x2 : Int) (hx2 : 0 ≤ x2 ∧ x2 ≤ 63) (hlt : x2 < κ 43 (x1 + 1).toNat - κ 43 x1.toNat ∧ κ 43 (x1 + 1).toNat ≤ 64) : zM G mX7_numberOf yX7_numberOf [.inr (.inr 41), .inl x1, .inl x2] h (q_X7_numberOfY κ h x1 x2) := by
  have f_41_0 := KCm hK
  refine zM_of [some (.inr (.inr 41)), some (.inl x1), some (.inl x2)] 0 rfl rfl (Nat.le_of_ble_eq_true rfl) rfl ?_
  refine zW_aload_n (pc' := 1) dX7_numberOf_0.1.1.1.1 rfl rfl ?_
  refine zW_iload_n (pc' := 2) dX7_numberOf_0.1.1.1.2 rfl rfl ?_
  refine cvI1 (pc' := 5) kX7_has vX7_has lk_X7_38 ⟨Nat.le_of_ble_eq_true rfl, Nat.le_of_ble_eq_true rfl⟩ tb41 vq7 rfl rfl (s_X7_has hK hF _ ⟨by omega, by omega⟩) dX7_numberOf_0.1.1.2.1 (Nat.le_of_ble_eq_true rfl) rfl ?_
  rintro r2 z2 ⟨hz2, p2⟩; subst z2
  refine zV_if_eq (tgt := 47) (pc' := 8) dX7_numberOf_0.1.1.2.2 rfl rfl ⟨by omega, by omega⟩ (fun c5 => ?_) (fun c5 => ?_)
  · refine zW_iconst (pc' := 48) dX7_numberOf_1.2.2.1.2 rfl ?_
    exact zV_iret rfl dX7_numberOf_1.2.2.2 ⟨rfl, (by first | exact ⟨by omega, by omega, rfl⟩ | (exfalso; omega))⟩
  · refine zW_iload_n (pc' := 9) dX7_numberOf_0.1.2.1.1 rfl rfl ?_
    refine zV_if_lt (tgt := 47) (pc' := 12) dX7_numberOf_0.1.2.1.2 rfl rfl ⟨by omega, by omega⟩ (fun c9 => ?_) (fun c9 => ?_)
    · exfalso; omega
    · refine zW_iload_n (pc' := 13) dX7_numberOf_0.1.2.2.1 rfl rfl ?_
      refine zW_aload_n (pc' := 14) dX7_numberOf_0.1.2.2.2 rfl rfl ?_
      refine zG_ref (pc' := 17) 43 fg_X7_15 tb41 rfl dX7_numberOf_0.2.1.1.1 rfl ?_
      refine zW_iload_n (pc' := 18) dX7_numberOf_0.2.1.1.2 rfl rfl ?_
      refine zW_iconst (pc' := 19) dX7_numberOf_0.2.1.2.1 rfl ?_
      refine zW_iadd (pc' := 20) dX7_numberOf_0.2.1.2.2 rfl ?_
      refine zA_keyB (KCst hK) (pc' := 21) hF rfl tb43 (by omega) dX7_numberOf_0.2.2.1.1 (by decide) rfl (fun e20 => ?_)
      refine zW_aload_n (pc' := 22) dX7_numberOf_0.2.2.1.2 rfl rfl ?_
      refine zG_ref (pc' := 25) 43 fg_X7_15 tb41 rfl dX7_numberOf_0.2.2.2.1 rfl ?_
      refine zW_iload_n (pc' := 26) dX7_numberOf_0.2.2.2.2 rfl rfl ?_
      refine zA_keyB (KCst hK) (pc' := 27) hF rfl tb43 (by omega) dX7_numberOf_1.1.1.1.1 (by decide) rfl (fun e26 => ?_)
      refine zW_isub (pc' := 28) dX7_numberOf_1.1.1.1.2 rfl ?_
      refine zV_cm_ge (tgt := 47) (pc' := 31) dX7_numberOf_1.1.1.2.1 rfl rfl ⟨by omega, by omega⟩ ⟨by omega, by omega⟩ (fun c28 => ?_) (fun c28 => ?_)
      · refine zW_iconst (pc' := 48) dX7_numberOf_1.2.2.1.2 rfl ?_
        exact zV_iret rfl dX7_numberOf_1.2.2.2 ⟨rfl, (by first | exact ⟨by omega, by omega, rfl⟩ | (exfalso; omega))⟩
      · refine zW_aload_n (pc' := 32) dX7_numberOf_1.1.1.2.2 rfl rfl ?_
        refine zG_ref (pc' := 35) 44 fg_X7_18 tb41 rfl dX7_numberOf_1.1.2.1.1 rfl ?_
        refine zW_aload_n (pc' := 36) dX7_numberOf_1.1.2.1.2 rfl rfl ?_
        refine zG_ref (pc' := 39) 43 fg_X7_15 tb41 rfl dX7_numberOf_1.1.2.2.1 rfl ?_
        refine zW_iload_n (pc' := 40) dX7_numberOf_1.1.2.2.2 rfl rfl ?_
        refine zA_keyB (KCst hK) (pc' := 41) hF rfl tb43 (by omega) dX7_numberOf_1.2.1.1.1 (by decide) rfl (fun e40 => ?_)
        refine zW_iload_n (pc' := 42) dX7_numberOf_1.2.1.1.2 rfl rfl ?_
        refine zW_iadd (pc' := 43) dX7_numberOf_1.2.1.2.1 rfl ?_
        refine zA_keyI (pc' := 44) hF rfl (by decide) (by decide) tb44 (by omega) dX7_numberOf_1.2.1.2.2 (by decide) rfl (fun e43 => ?_)
        refine zV_goto 48 dX7_numberOf_1.2.2.1.1 rfl ?_
        exact zV_iret rfl dX7_numberOf_1.2.2.2 ⟨rfl, (by first | exact ⟨by omega, by omega, rfl⟩ | (exfalso; omega))⟩

abbrev q_X3_bentZ (κ h : Hp) (x1 : Int) (x3 : Int) : Int → Hp → Prop := fun r h' => h' = h ∧ ((0 ≤ r) ∧ (r ≤ 4095) ∧ (r = clp (crv (XC κ x3) ((κ 43 (x3 + 1).toNat - κ 43 x3.toNat) / 2) x1)))
set_option maxHeartbeats 4000000 in
set_option maxRecDepth 20000 in
theorem s_X3_bentZ {G : Ga} {b : Bd} {κ h : Hp} (hK : KC κ) (hF : Fr b κ h) (x1 : Int) (hx1 : 0 ≤ x1 ∧ x1 ≤ 4095) (x3 : Int) (hx3 : 1 ≤ x3 ∧ x3 ≤ 12 ∧ x3 - κ 41 0 ≤ 0) (hcr : CrC κ x3) : zM G mX3_bent yX3_bent [.inr (.inr 87), .inl x1, .inr (.inr 41), .inl x3] h (q_X3_bentZ κ h x1 x3) := by
  have f_41_0 := KCm hK
  obtain ⟨⟨hc1, hc2, hc3⟩, -, -⟩ := id hcr
  have hst := KCst hK x3.toNat
  have main : ∀ N : Nat, (∀ (v4 v5 : Int) , (1 ≤ v4 ∧ v4 ≤ 31) → (0 ≤ v5 ∧ v5 ≤ 30) → (v4 = ((κ 43 (x3 + 1).toNat - κ 43 x3.toNat) / 2) - 1) → (v5 + 2 ≤ ((κ 43 (x3 + 1).toNat - κ 43 x3.toNat) / 2)) → (crI (XC κ x3) ((κ 43 (x3 + 1).toNat - κ 43 x3.toNat) / 2) x1 70 0 = crI (XC κ x3) ((κ 43 (x3 + 1).toNat - κ 43 x3.toNat) / 2) x1 (70 - v5).toNat v5) → 207360 + 81 * (30 - v5) + 80 < (N : Int) → zV G mX3_bent (q_X3_bentZ κ h x1 x3) 14 [some (.inr (.inr 87)), some (.inl x1), some (.inr (.inr 41)), some (.inl x3), some (.inl v4), some (.inl v5), none, none, none, none] [] h) := by
    intro N
    induction N with
    | zero =>
      intro v4 v5 g0 g1 gc0 gc1 gc2 hm
      exfalso; omega
    | succ N ih =>
      have k14 := ih
      intro v4 v5 g0 g1 gc0 gc1 gc2 hm
      refine zW_iload (pc' := 16) dX3_bent_0.2.1.2.1 rfl rfl ?_
      refine zW_iload (pc' := 18) dX3_bent_0.2.1.2.2 rfl rfl ?_
      refine zW_iconst (pc' := 19) dX3_bent_0.2.2.1.1 rfl ?_
      refine zW_isub (pc' := 20) dX3_bent_0.2.2.1.2 rfl ?_
      refine zV_cm_ge (tgt := 47) (pc' := 23) dX3_bent_0.2.2.2.1 rfl rfl ⟨by omega, by omega⟩ ⟨by omega, by omega⟩ (fun c20 => ?_) (fun c20 => ?_)
      · have hce : crI (XC κ x3) ((κ 43 (x3 + 1).toNat - κ 43 x3.toNat) / 2) x1 70 0 = v5 := by rw [gc2, show (70 - v5).toNat = (69 - v5).toNat + 1 by omega]; exact crI_e (by omega)
        refine zW_aload_n (pc' := 48) dX3_bent_1.2.2.1.2 rfl rfl ?_
        refine zW_iload_n (pc' := 49) dX3_bent_1.2.2.2.1 rfl rfl ?_
        refine zW_iconst (pc' := 50) dX3_bent_1.2.2.2.2 rfl ?_
        refine zW_iload (pc' := 52) dX3_bent_2.1.1.1.1 rfl rfl ?_
        refine zW_imul (pc' := 53) dX3_bent_2.1.1.1.2 rfl ?_
        refine cvI2 (pc' := 56) kX7_numberOf vX7_numberOf lk_X3_114 ⟨Nat.le_of_ble_eq_true rfl, Nat.le_of_ble_eq_true rfl⟩ tb41 vq7 rfl rfl (s_X7_numberOfY hK hF _ ⟨by omega, by omega, by omega⟩ _ ⟨by omega, by omega⟩ ⟨by omega, by omega⟩) dX3_bent_2.1.1.2.1 (Nat.le_of_ble_eq_true rfl) rfl ?_
        rintro r53 z53 ⟨hz53, p53⟩; subst z53
        have k53 : r53 = XC κ x3 (2 * v5).toNat := by rw [XC_at (by omega)]; exact p53.2.2
        have b53 := hcr.2.1 (2 * v5) (by omega) (by omega)
        rw [← k53] at b53
        refine zW_istore (ls' := [_, _, _, _, _, _, _, _, _, _]) (pc' := 58) dX3_bent_2.1.1.2.2 (by decide) rfl rfl rfl ?_
        refine zW_aload_n (pc' := 59) dX3_bent_2.1.2.1.1 rfl rfl ?_
        refine zW_iload_n (pc' := 60) dX3_bent_2.1.2.1.2 rfl rfl ?_
        refine zW_iconst (pc' := 61) dX3_bent_2.1.2.2.1 rfl ?_
        refine zW_iload (pc' := 63) dX3_bent_2.1.2.2.2 rfl rfl ?_
        refine zW_imul (pc' := 64) dX3_bent_2.2.1.1.1 rfl ?_
        refine zW_iconst (pc' := 65) dX3_bent_2.2.1.1.2 rfl ?_
        refine zW_iadd (pc' := 66) dX3_bent_2.2.1.2.1 rfl ?_
        refine cvI2 (pc' := 69) kX7_numberOf vX7_numberOf lk_X3_114 ⟨Nat.le_of_ble_eq_true rfl, Nat.le_of_ble_eq_true rfl⟩ tb41 vq7 rfl rfl (s_X7_numberOfY hK hF _ ⟨by omega, by omega, by omega⟩ _ ⟨by omega, by omega⟩ ⟨by omega, by omega⟩) dX3_bent_2.2.1.2.2 (Nat.le_of_ble_eq_true rfl) rfl ?_
        rintro r66 z66 ⟨hz66, p66⟩; subst z66
        have k66 : r66 = XC κ x3 (2 * v5 + 1).toNat := by rw [XC_at (by omega)]; exact p66.2.2
        have b66 := hcr.2.1 (2 * v5 + 1) (by omega) (by omega)
        rw [← k66] at b66
        refine zW_istore (ls' := [_, _, _, _, _, _, _, _, _, _]) (pc' := 71) dX3_bent_2.2.2.1.1 (by decide) rfl rfl rfl ?_
        refine zW_aload_n (pc' := 72) dX3_bent_2.2.2.1.2 rfl rfl ?_
        refine zW_iload_n (pc' := 73) dX3_bent_2.2.2.2.1 rfl rfl ?_
        refine zW_iconst (pc' := 74) dX3_bent_2.2.2.2.2 rfl ?_
        refine zW_iload (pc' := 76) dX3_bent_3.1.1.1.1 rfl rfl ?_
        refine zW_imul (pc' := 77) dX3_bent_3.1.1.1.2 rfl ?_
        refine zW_iconst (pc' := 78) dX3_bent_3.1.1.2.1 rfl ?_
        refine zW_iadd (pc' := 79) dX3_bent_3.1.1.2.2 rfl ?_
        refine cvI2 (pc' := 82) kX7_numberOf vX7_numberOf lk_X3_114 ⟨Nat.le_of_ble_eq_true rfl, Nat.le_of_ble_eq_true rfl⟩ tb41 vq7 rfl rfl (s_X7_numberOfY hK hF _ ⟨by omega, by omega, by omega⟩ _ ⟨by omega, by omega⟩ ⟨by omega, by omega⟩) dX3_bent_3.1.2.1.1 (Nat.le_of_ble_eq_true rfl) rfl ?_
        rintro r79 z79 ⟨hz79, p79⟩; subst z79
        have k79 : r79 = XC κ x3 (2 * v5 + 2).toNat := by rw [XC_at (by omega)]; exact p79.2.2
        have b79 := hcr.2.1 (2 * v5 + 2) (by omega) (by omega)
        rw [← k79] at b79
        have hin := hcr.2.2 v5 (by omega) (by omega)
        rw [← k53, ← k79] at hin
        refine zW_iload (pc' := 84) dX3_bent_3.1.2.1.2 rfl rfl ?_
        refine zW_isub (pc' := 85) dX3_bent_3.1.2.2.1 rfl ?_
        refine zW_istore (ls' := [_, _, _, _, _, _, _, _, _, _]) (pc' := 87) dX3_bent_3.1.2.2.2 (by decide) rfl rfl rfl ?_
        refine zW_aload_n (pc' := 88) dX3_bent_3.2.1.1.1 rfl rfl ?_
        refine zW_iload_n (pc' := 89) dX3_bent_3.2.1.1.2 rfl rfl ?_
        refine zW_iconst (pc' := 90) dX3_bent_3.2.1.2.1 rfl ?_
        refine zW_iload (pc' := 92) dX3_bent_3.2.1.2.2 rfl rfl ?_
        refine zW_imul (pc' := 93) dX3_bent_3.2.2.1.1 rfl ?_
        refine zW_iconst (pc' := 94) dX3_bent_3.2.2.1.2 rfl ?_
        refine zW_iadd (pc' := 95) dX3_bent_3.2.2.2.1 rfl ?_
        refine cvI2 (pc' := 98) kX7_numberOf vX7_numberOf lk_X3_114 ⟨Nat.le_of_ble_eq_true rfl, Nat.le_of_ble_eq_true rfl⟩ tb41 vq7 rfl rfl (s_X7_numberOfY hK hF _ ⟨by omega, by omega, by omega⟩ _ ⟨by omega, by omega⟩ ⟨by omega, by omega⟩) dX3_bent_3.2.2.2.2 (Nat.le_of_ble_eq_true rfl) rfl ?_
        rintro r95 z95 ⟨hz95, p95⟩; subst z95
        have k95 : r95 = XC κ x3 (2 * v5 + 3).toNat := by rw [XC_at (by omega)]; exact p95.2.2
        have b95 := hcr.2.1 (2 * v5 + 3) (by omega) (by omega)
        rw [← k95] at b95
        refine zW_iload (pc' := 100) dX3_bent_4.1.1.1.1 rfl rfl ?_
        refine zW_isub (pc' := 101) dX3_bent_4.1.1.1.2 rfl ?_
        refine zW_istore (ls' := [_, _, _, _, _, _, _, _, _, _]) (pc' := 103) dX3_bent_4.1.1.2.1 (by decide) rfl rfl rfl ?_
        refine zW_iload (pc' := 105) dX3_bent_4.1.1.2.2 rfl rfl ?_
        refine zV_if_le (tgt := 133) (pc' := 108) dX3_bent_4.1.2.1.1 rfl rfl ⟨by omega, by omega⟩ (fun c105 => ?_) (fun c105 => ?_)
        · exfalso; omega
        · refine zW_bipush (pc' := 110) dX3_bent_4.1.2.1.2 rfl rfl ?_
          refine zW_iload (pc' := 112) dX3_bent_4.1.2.2.1 rfl rfl ?_
          refine zW_imul (pc' := 113) dX3_bent_4.1.2.2.2 rfl ?_
          refine zW_iload_n (pc' := 114) dX3_bent_4.2.1.1.1 rfl rfl ?_
          refine zW_bipush (pc' := 116) dX3_bent_4.2.1.1.2 rfl rfl ?_
          refine zW_iload (pc' := 118) dX3_bent_4.2.1.2.1 rfl rfl ?_
          refine zW_imul (pc' := 119) dX3_bent_4.2.1.2.2 rfl ?_
          refine zW_isub (pc' := 120) dX3_bent_4.2.2.1.1 rfl ?_
          refine zW_iload (pc' := 122) dX3_bent_4.2.2.1.2 rfl rfl ?_
          refine zW_imul (pc' := 123) dX3_bent_4.2.2.2.1 rfl ?_
          have q122 := mulS2 (a := x1 - 16 * r53) (b := r95 - r66) (A := 4095) (B := 255) ⟨by omega, by omega⟩ ⟨by omega, by omega⟩
          refine zW_iload (pc' := 125) dX3_bent_4.2.2.2.2 rfl rfl ?_
          refine zW_idivX (pc' := 126) ⟨by omega, by omega⟩ ⟨by omega, by omega⟩ dX3_bent_5.1.1.1.1 rfl (fun v125 t125 e125 => ?_)
          unfold rng at e125
          have b125 := tdS (a := (x1 - 16 * r53) * (r95 - r66)) (d := r79 - r53) (A := 2080000) ⟨by omega, by omega⟩ (by omega)
          rw [← t125] at b125
          refine zW_iadd (pc' := 127) dX3_bent_5.1.1.1.2 rfl ?_
          refine csI1 (pc' := 130) kX11_clipped vX11_clipped lk_X3_55 ⟨Nat.le_of_ble_eq_true rfl, Nat.le_of_ble_eq_true rfl⟩ rfl (s_X11_clippedZ hF _ ⟨by omega, by omega⟩) dX3_bent_5.1.1.2 (Nat.le_of_ble_eq_true rfl) rfl ?_
          rintro r127 z127 ⟨hz127, p127⟩; subst z127
          refine zV_goto 141 dX3_bent_5.1.2.1 rfl ?_
          exact zV_iret rfl dX3_bent_5.2.2.2 ⟨rfl, (by unfold crv; rw [hce, ← k53, ← k66, ← k79, ← k95, ← t125]; first | exact p127 | exact ⟨p127.1, p127.2.1, p127.2.2⟩)⟩
      · refine zW_bipush (pc' := 25) dX3_bent_0.2.2.2.2 rfl rfl ?_
        refine zW_aload_n (pc' := 26) dX3_bent_1.1.1.1.1 rfl rfl ?_
        refine zW_iload_n (pc' := 27) dX3_bent_1.1.1.1.2 rfl rfl ?_
        refine zW_iconst (pc' := 28) dX3_bent_1.1.1.2.1 rfl ?_
        refine zW_iload (pc' := 30) dX3_bent_1.1.1.2.2 rfl rfl ?_
        refine zW_imul (pc' := 31) dX3_bent_1.1.2.1.1 rfl ?_
        refine zW_iconst (pc' := 32) dX3_bent_1.1.2.1.2 rfl ?_
        refine zW_iadd (pc' := 33) dX3_bent_1.1.2.2.1 rfl ?_
        refine cvI2 (pc' := 36) kX7_numberOf vX7_numberOf lk_X3_114 ⟨Nat.le_of_ble_eq_true rfl, Nat.le_of_ble_eq_true rfl⟩ tb41 vq7 rfl rfl (s_X7_numberOfY hK hF _ ⟨by omega, by omega, by omega⟩ _ ⟨by omega, by omega⟩ ⟨by omega, by omega⟩) dX3_bent_1.1.2.2.2 (Nat.le_of_ble_eq_true rfl) rfl ?_
        rintro r33 z33 ⟨hz33, p33⟩; subst z33
        have k33 : r33 = XC κ x3 (2 * v5 + 2).toNat := by rw [XC_at (by omega)]; exact p33.2.2
        have b33 := hcr.2.1 (2 * v5 + 2) (by omega) (by omega)
        rw [← k33] at b33
        refine zW_imul (pc' := 37) dX3_bent_1.2.1.1.1 rfl ?_
        refine zW_iload_n (pc' := 38) dX3_bent_1.2.1.1.2 rfl rfl ?_
        refine zV_cm_gt (tgt := 47) (pc' := 41) dX3_bent_1.2.1.2.1 rfl rfl ⟨by omega, by omega⟩ ⟨by omega, by omega⟩ (fun c38 => ?_) (fun c38 => ?_)
        · have hce : crI (XC κ x3) ((κ 43 (x3 + 1).toNat - κ 43 x3.toNat) / 2) x1 70 0 = v5 := by rw [gc2, show (70 - v5).toNat = (69 - v5).toNat + 1 by omega]; exact crI_e (by omega)
          refine zW_aload_n (pc' := 48) dX3_bent_1.2.2.1.2 rfl rfl ?_
          refine zW_iload_n (pc' := 49) dX3_bent_1.2.2.2.1 rfl rfl ?_
          refine zW_iconst (pc' := 50) dX3_bent_1.2.2.2.2 rfl ?_
          refine zW_iload (pc' := 52) dX3_bent_2.1.1.1.1 rfl rfl ?_
          refine zW_imul (pc' := 53) dX3_bent_2.1.1.1.2 rfl ?_
          refine cvI2 (pc' := 56) kX7_numberOf vX7_numberOf lk_X3_114 ⟨Nat.le_of_ble_eq_true rfl, Nat.le_of_ble_eq_true rfl⟩ tb41 vq7 rfl rfl (s_X7_numberOfY hK hF _ ⟨by omega, by omega, by omega⟩ _ ⟨by omega, by omega⟩ ⟨by omega, by omega⟩) dX3_bent_2.1.1.2.1 (Nat.le_of_ble_eq_true rfl) rfl ?_
          rintro r53 z53 ⟨hz53, p53⟩; subst z53
          have k53 : r53 = XC κ x3 (2 * v5).toNat := by rw [XC_at (by omega)]; exact p53.2.2
          have b53 := hcr.2.1 (2 * v5) (by omega) (by omega)
          rw [← k53] at b53
          refine zW_istore (ls' := [_, _, _, _, _, _, _, _, _, _]) (pc' := 58) dX3_bent_2.1.1.2.2 (by decide) rfl rfl rfl ?_
          refine zW_aload_n (pc' := 59) dX3_bent_2.1.2.1.1 rfl rfl ?_
          refine zW_iload_n (pc' := 60) dX3_bent_2.1.2.1.2 rfl rfl ?_
          refine zW_iconst (pc' := 61) dX3_bent_2.1.2.2.1 rfl ?_
          refine zW_iload (pc' := 63) dX3_bent_2.1.2.2.2 rfl rfl ?_
          refine zW_imul (pc' := 64) dX3_bent_2.2.1.1.1 rfl ?_
          refine zW_iconst (pc' := 65) dX3_bent_2.2.1.1.2 rfl ?_
          refine zW_iadd (pc' := 66) dX3_bent_2.2.1.2.1 rfl ?_
          refine cvI2 (pc' := 69) kX7_numberOf vX7_numberOf lk_X3_114 ⟨Nat.le_of_ble_eq_true rfl, Nat.le_of_ble_eq_true rfl⟩ tb41 vq7 rfl rfl (s_X7_numberOfY hK hF _ ⟨by omega, by omega, by omega⟩ _ ⟨by omega, by omega⟩ ⟨by omega, by omega⟩) dX3_bent_2.2.1.2.2 (Nat.le_of_ble_eq_true rfl) rfl ?_
          rintro r66 z66 ⟨hz66, p66⟩; subst z66
          have k66 : r66 = XC κ x3 (2 * v5 + 1).toNat := by rw [XC_at (by omega)]; exact p66.2.2
          have b66 := hcr.2.1 (2 * v5 + 1) (by omega) (by omega)
          rw [← k66] at b66
          refine zW_istore (ls' := [_, _, _, _, _, _, _, _, _, _]) (pc' := 71) dX3_bent_2.2.2.1.1 (by decide) rfl rfl rfl ?_
          refine zW_aload_n (pc' := 72) dX3_bent_2.2.2.1.2 rfl rfl ?_
          refine zW_iload_n (pc' := 73) dX3_bent_2.2.2.2.1 rfl rfl ?_
          refine zW_iconst (pc' := 74) dX3_bent_2.2.2.2.2 rfl ?_
          refine zW_iload (pc' := 76) dX3_bent_3.1.1.1.1 rfl rfl ?_
          refine zW_imul (pc' := 77) dX3_bent_3.1.1.1.2 rfl ?_
          refine zW_iconst (pc' := 78) dX3_bent_3.1.1.2.1 rfl ?_
          refine zW_iadd (pc' := 79) dX3_bent_3.1.1.2.2 rfl ?_
          refine cvI2 (pc' := 82) kX7_numberOf vX7_numberOf lk_X3_114 ⟨Nat.le_of_ble_eq_true rfl, Nat.le_of_ble_eq_true rfl⟩ tb41 vq7 rfl rfl (s_X7_numberOfY hK hF _ ⟨by omega, by omega, by omega⟩ _ ⟨by omega, by omega⟩ ⟨by omega, by omega⟩) dX3_bent_3.1.2.1.1 (Nat.le_of_ble_eq_true rfl) rfl ?_
          rintro r79 z79 ⟨hz79, p79⟩; subst z79
          have k79 : r79 = XC κ x3 (2 * v5 + 2).toNat := by rw [XC_at (by omega)]; exact p79.2.2
          have b79 := hcr.2.1 (2 * v5 + 2) (by omega) (by omega)
          rw [← k79] at b79
          have hin := hcr.2.2 v5 (by omega) (by omega)
          rw [← k53, ← k79] at hin
          refine zW_iload (pc' := 84) dX3_bent_3.1.2.1.2 rfl rfl ?_
          refine zW_isub (pc' := 85) dX3_bent_3.1.2.2.1 rfl ?_
          refine zW_istore (ls' := [_, _, _, _, _, _, _, _, _, _]) (pc' := 87) dX3_bent_3.1.2.2.2 (by decide) rfl rfl rfl ?_
          refine zW_aload_n (pc' := 88) dX3_bent_3.2.1.1.1 rfl rfl ?_
          refine zW_iload_n (pc' := 89) dX3_bent_3.2.1.1.2 rfl rfl ?_
          refine zW_iconst (pc' := 90) dX3_bent_3.2.1.2.1 rfl ?_
          refine zW_iload (pc' := 92) dX3_bent_3.2.1.2.2 rfl rfl ?_
          refine zW_imul (pc' := 93) dX3_bent_3.2.2.1.1 rfl ?_
          refine zW_iconst (pc' := 94) dX3_bent_3.2.2.1.2 rfl ?_
          refine zW_iadd (pc' := 95) dX3_bent_3.2.2.2.1 rfl ?_
          refine cvI2 (pc' := 98) kX7_numberOf vX7_numberOf lk_X3_114 ⟨Nat.le_of_ble_eq_true rfl, Nat.le_of_ble_eq_true rfl⟩ tb41 vq7 rfl rfl (s_X7_numberOfY hK hF _ ⟨by omega, by omega, by omega⟩ _ ⟨by omega, by omega⟩ ⟨by omega, by omega⟩) dX3_bent_3.2.2.2.2 (Nat.le_of_ble_eq_true rfl) rfl ?_
          rintro r95 z95 ⟨hz95, p95⟩; subst z95
          have k95 : r95 = XC κ x3 (2 * v5 + 3).toNat := by rw [XC_at (by omega)]; exact p95.2.2
          have b95 := hcr.2.1 (2 * v5 + 3) (by omega) (by omega)
          rw [← k95] at b95
          refine zW_iload (pc' := 100) dX3_bent_4.1.1.1.1 rfl rfl ?_
          refine zW_isub (pc' := 101) dX3_bent_4.1.1.1.2 rfl ?_
          refine zW_istore (ls' := [_, _, _, _, _, _, _, _, _, _]) (pc' := 103) dX3_bent_4.1.1.2.1 (by decide) rfl rfl rfl ?_
          refine zW_iload (pc' := 105) dX3_bent_4.1.1.2.2 rfl rfl ?_
          refine zV_if_le (tgt := 133) (pc' := 108) dX3_bent_4.1.2.1.1 rfl rfl ⟨by omega, by omega⟩ (fun c105 => ?_) (fun c105 => ?_)
          · exfalso; omega
          · refine zW_bipush (pc' := 110) dX3_bent_4.1.2.1.2 rfl rfl ?_
            refine zW_iload (pc' := 112) dX3_bent_4.1.2.2.1 rfl rfl ?_
            refine zW_imul (pc' := 113) dX3_bent_4.1.2.2.2 rfl ?_
            refine zW_iload_n (pc' := 114) dX3_bent_4.2.1.1.1 rfl rfl ?_
            refine zW_bipush (pc' := 116) dX3_bent_4.2.1.1.2 rfl rfl ?_
            refine zW_iload (pc' := 118) dX3_bent_4.2.1.2.1 rfl rfl ?_
            refine zW_imul (pc' := 119) dX3_bent_4.2.1.2.2 rfl ?_
            refine zW_isub (pc' := 120) dX3_bent_4.2.2.1.1 rfl ?_
            refine zW_iload (pc' := 122) dX3_bent_4.2.2.1.2 rfl rfl ?_
            refine zW_imul (pc' := 123) dX3_bent_4.2.2.2.1 rfl ?_
            have q122 := mulS2 (a := x1 - 16 * r53) (b := r95 - r66) (A := 4095) (B := 255) ⟨by omega, by omega⟩ ⟨by omega, by omega⟩
            refine zW_iload (pc' := 125) dX3_bent_4.2.2.2.2 rfl rfl ?_
            refine zW_idivX (pc' := 126) ⟨by omega, by omega⟩ ⟨by omega, by omega⟩ dX3_bent_5.1.1.1.1 rfl (fun v125 t125 e125 => ?_)
            unfold rng at e125
            have b125 := tdS (a := (x1 - 16 * r53) * (r95 - r66)) (d := r79 - r53) (A := 2080000) ⟨by omega, by omega⟩ (by omega)
            rw [← t125] at b125
            refine zW_iadd (pc' := 127) dX3_bent_5.1.1.1.2 rfl ?_
            refine csI1 (pc' := 130) kX11_clipped vX11_clipped lk_X3_55 ⟨Nat.le_of_ble_eq_true rfl, Nat.le_of_ble_eq_true rfl⟩ rfl (s_X11_clippedZ hF _ ⟨by omega, by omega⟩) dX3_bent_5.1.1.2 (Nat.le_of_ble_eq_true rfl) rfl ?_
            rintro r127 z127 ⟨hz127, p127⟩; subst z127
            refine zV_goto 141 dX3_bent_5.1.2.1 rfl ?_
            exact zV_iret rfl dX3_bent_5.2.2.2 ⟨rfl, (by unfold crv; rw [hce, ← k53, ← k66, ← k79, ← k95, ← t125]; first | exact p127 | exact ⟨p127.1, p127.2.1, p127.2.2⟩)⟩
        · have hcs := crI_s (X := (XC κ x3)) (m := ((κ 43 (x3 + 1).toNat - κ 43 x3.toNat) / 2)) (v := x1) (i := v5) (k := (69 - v5).toNat) ⟨by omega, by omega⟩
          refine zW_iinc (ls' := [_, _, _, _, _, _, _, _, _, _]) (pc' := 44) dX3_bent_1.2.1.2.2 rfl (by decide) rfl rfl rfl ?_
          refine zV_goto 14 dX3_bent_1.2.2.1.1 rfl ?_
          exact k14 _ _ (by omega) (by omega) (by first | exact gc0 | omega) (by omega) (by first | rfl | (rw [gc2, show (70 - v5).toNat = (69 - v5).toNat + 1 by omega, hcs, show (69 - v5).toNat = (70 - (v5 + 1)).toNat by omega])) (by omega)
  refine zM_of [some (.inr (.inr 87)), some (.inl x1), some (.inr (.inr 41)), some (.inl x3), none, none, none, none, none, none] 6 rfl rfl (Nat.le_of_ble_eq_true rfl) rfl ?_
  refine zW_aload_n (pc' := 1) dX3_bent_0.1.1.1.1 rfl rfl ?_
  refine zW_iload_n (pc' := 2) dX3_bent_0.1.1.1.2 rfl rfl ?_
  refine cvI1 (pc' := 5) kX7_numbersOf vX7_numbersOf lk_X3_109 ⟨Nat.le_of_ble_eq_true rfl, Nat.le_of_ble_eq_true rfl⟩ tb41 vq7 rfl rfl (s_X7_numbersOfY hK hF _ ⟨by omega, by omega, by omega⟩) dX3_bent_0.1.1.2.1 (Nat.le_of_ble_eq_true rfl) rfl ?_
  rintro r2 z2 ⟨hz2, p2⟩; subst z2
  have k2 := p2.2.2
  refine zW_iconst (pc' := 6) dX3_bent_0.1.1.2.2 rfl ?_
  refine zW_idiv (pc' := 7) (by omega) (by omega) dX3_bent_0.1.2.1.1 rfl ?_
  refine zW_iconst (pc' := 8) dX3_bent_0.1.2.1.2 rfl ?_
  refine zW_isub (pc' := 9) dX3_bent_0.1.2.2.1 rfl ?_
  refine zW_istore (ls' := [_, _, _, _, _, _, _, _, _, _]) (pc' := 11) dX3_bent_0.1.2.2.2 (by decide) rfl rfl rfl ?_
  refine zW_iconst (pc' := 12) dX3_bent_0.2.1.1.1 rfl ?_
  refine zW_istore (ls' := [_, _, _, _, _, _, _, _, _, _]) (pc' := 14) dX3_bent_0.2.1.1.2 (by decide) rfl rfl rfl ?_
  exact (main 10000000000000000000000000000000000000000) _ _ (by omega) (by omega) (by first | exact gc0 | omega) (by omega) (by first | rfl | (rw [gc2, show (70 - v5).toNat = (69 - v5).toNat + 1 by omega, hcs, show (69 - v5).toNat = (70 - (v5 + 1)).toNat by omega])) (by omega)

abbrev q_X3_bendZ (b : Bd) (κ : Hp) (s1 : Nat) (s2 : Nat) (x4 : Int) (F : P3) (gh0 : Hp) : Int → Hp → Prop := fun r h' => Fr b κ h' ∧ ((Fw [(s2 + 15)] [] gh0 h') ∧ (FuS (κ 33 0) (κ 33 1) (h' (s2 + 15)) (bnF κ x4 F)))
set_option maxHeartbeats 4000000 in
set_option maxRecDepth 20000 in
theorem s_X3_bendZ {G : Ga} {b : Bd} {κ h : Hp} (hK : KC κ) (hF : Fr b κ h) (s1 : Nat) (hs1 : 56 ≤ s1 ∧ s1 ≤ 70) (s2 : Nat) (hs2 : 56 ≤ s2 ∧ s2 ≤ 70) (x4 : Int) (hx4 : 1 ≤ x4 ∧ x4 ≤ 12 ∧ x4 - κ 41 0 ≤ 0) (F : P3) (gh0 : Hp) (hto : OkL b (s2 + 15)) (hne : s1 ≠ s2) (hF3 : FuS (κ 33 0) (κ 33 1) (h (s1 + 15)) F) (hb3 : FB3 (κ 33 0) (κ 33 1) F) (hcr : CrC κ x4) (hgh : Fw [(s2 + 15)] [] gh0 h) : zM G mX3_bend yX3_bend [.inr (.inr 87), .inr (.inr s1), .inr (.inr s2), .inr (.inr 41), .inl x4] h (q_X3_bendZ b κ s1 s2 x4 F gh0) := by
  have f_33_0 := KCw hK
  have f_33_1 := KCh hK
  have f_41_0 := KCm hK
  have main : ∀ N : Nat, (∀ (v5 : Int) (h : Hp), Fr b κ h → (0 ≤ v5 ∧ v5 ≤ 16) → (v5 - κ 33 1 ≤ 0) → (PuS (κ 33 0) (κ 33 1) (h (s2 + 15)) (bnF κ x4 F) 0 v5) → (FuS (κ 33 0) (κ 33 1) (h (s1 + 15)) F) → (Fw [(s2 + 15)] [] gh0 h) → 408319606800 + 553278600 * (16 - v5) + 540105300 < (N : Int) → zV G mX3_bend (q_X3_bendZ b κ s1 s2 x4 F gh0) 3 [some (.inr (.inr 87)), some (.inr (.inr s1)), some (.inr (.inr s2)), some (.inr (.inr 41)), some (.inl x4), some (.inl v5), none, none] [] h) ∧ (∀ (v5 v6 : Int) (h : Hp), Fr b κ h → (0 ≤ v5 ∧ v5 ≤ 15) → (v5 - κ 33 1 ≤ -1) → (0 ≤ v6 ∧ v6 ≤ 16) → (v6 - κ 33 0 ≤ 0) → (PuS (κ 33 0) (κ 33 1) (h (s2 + 15)) (bnF κ x4 F) v6 v5) → (FuS (κ 33 0) (κ 33 1) (h (s1 + 15)) F) → (Fw [(s2 + 15)] [] gh0 h) → 408319606800 + 553278600 * (16 - v5) + 434718900 + 731850 * (16 - v6) + 710325 < (N : Int) → zV G mX3_bend (q_X3_bendZ b κ s1 s2 x4 F gh0) 18 [some (.inr (.inr 87)), some (.inr (.inr s1)), some (.inr (.inr s2)), some (.inr (.inr 41)), some (.inl x4), some (.inl v5), some (.inl v6), none] [] h) ∧ (∀ (v5 v6 v7 : Int) (h : Hp), Fr b κ h → (0 ≤ v5 ∧ v5 ≤ 15) → (v5 - κ 33 1 ≤ -1) → (0 ≤ v6 ∧ v6 ≤ 15) → (v6 - κ 33 0 ≤ -1) → (0 ≤ v7 ∧ v7 ≤ 1023) → (PuC (κ 33 0) (κ 33 1) (h (s2 + 15)) (bnF κ x4 F) v6 v5 ((v7 - 16 * v5 - v6) / 256)) → ((v7 - 16 * v5 - v6) % 256 = 0) → (16 * v5 + v6 ≤ v7 ∧ v7 ≤ 1023) → (FuS (κ 33 0) (κ 33 1) (h (s1 + 15)) F) → (Fw [(s2 + 15)] [] gh0 h) → 408319606800 + 553278600 * (16 - v5) + 434718900 + 731850 * (16 - v6) + 430500 + 21 * (1023 - v7) + 20 < (N : Int) → zV G mX3_bend (q_X3_bendZ b κ s1 s2 x4 F gh0) 40 [some (.inr (.inr 87)), some (.inr (.inr s1)), some (.inr (.inr s2)), some (.inr (.inr 41)), some (.inl x4), some (.inl v5), some (.inl v6), some (.inl v7)] [] h) := by
    intro N
    induction N with
    | zero =>
      refine ⟨?_, ?_, ?_⟩
      · intro v5 h hF g0 g1 gc0 hF3 hgh hm
        exfalso; omega
      · intro v5 v6 h hF g0 g1 g2 g3 gc0 hF3 hgh hm
        exfalso; omega
      · intro v5 v6 v7 h hF g0 g1 g2 g3 g4 gc0 gc1 gc2 hF3 hgh hm
        exfalso; omega
    | succ N ih =>
      obtain ⟨k3, k18, k40⟩ := ih
      refine ⟨?_, ?_, ?_⟩
      · intro v5 h hF g0 g1 gc0 hF3 hgh hm
        refine zW_iload (pc' := 5) dX3_bend_0.1.1.2.1 rfl rfl ?_
        refine zW_aload_n (pc' := 6) dX3_bend_0.1.1.2.2 rfl rfl ?_
        refine zG_ref (pc' := 9) 33 fg_X3_23 tb87 rfl dX3_bend_0.1.2.1.1 rfl ?_
        refine zG_key (pc' := 12) hF rfl fg_X3_42 tb33 rfl dX3_bend_0.1.2.1.2 rfl ?_
        refine zV_cm_ge (tgt := 90) (pc' := 15) dX3_bend_0.1.2.2.1 rfl rfl ⟨by omega, by omega⟩ ⟨by omega, by omega⟩ (fun c12 => ?_) (fun c12 => ?_)
        · exact zV_vret rfl dX3_bend_2.2.2.2 ⟨hF, ⟨hgh, gc0.all (by omega)⟩⟩
        · refine zW_iconst (pc' := 16) dX3_bend_0.1.2.2.2 rfl ?_
          refine zW_istore (ls' := [_, _, _, _, _, _, _, _]) (pc' := 18) dX3_bend_0.2.1.1.1 (by decide) rfl rfl rfl ?_
          exact k18 _ _ _ hF (by omega) (by omega) (by omega) (by omega) (by first | exact gc0.en (by omega) | exact gc0) hF3 hgh (by omega)
      · intro v5 v6 h hF g0 g1 g2 g3 gc0 hF3 hgh hm
        refine zW_iload (pc' := 20) dX3_bend_0.2.1.1.2 rfl rfl ?_
        refine zW_aload_n (pc' := 21) dX3_bend_0.2.1.2.1 rfl rfl ?_
        refine zG_ref (pc' := 24) 33 fg_X3_23 tb87 rfl dX3_bend_0.2.1.2.2 rfl ?_
        refine zG_key (pc' := 27) hF rfl fg_X3_48 tb33 rfl dX3_bend_0.2.2.1.1 rfl ?_
        refine zV_cm_ge (tgt := 84) (pc' := 30) dX3_bend_0.2.2.1.2 rfl rfl ⟨by omega, by omega⟩ ⟨by omega, by omega⟩ (fun c27 => ?_) (fun c27 => ?_)
        · refine zW_iinc (ls' := [_, _, _, _, _, _, _, _]) (pc' := 87) dX3_bend_2.2.1.2 rfl (by decide) rfl rfl rfl ?_
          refine zV_goto 3 dX3_bend_2.2.2.1 rfl ?_
          refine zV_clr 6 (ls' := [_, _, _, _, _, _, _, _]) rfl ?_
          exact k3 _ _ hF (by omega) (by omega) (by first | exact gc0.rowx (by omega) | exact PuS.no) hF3 hgh (by omega)
        · refine zW_iload (pc' := 32) dX3_bend_0.2.2.2.1 rfl rfl ?_
          refine zW_bipush (pc' := 34) dX3_bend_0.2.2.2.2 rfl rfl ?_
          refine zW_imul (pc' := 35) dX3_bend_1.1.1.1.1 rfl ?_
          refine zW_iload (pc' := 37) dX3_bend_1.1.1.1.2 rfl rfl ?_
          refine zW_iadd (pc' := 38) dX3_bend_1.1.1.2.1 rfl ?_
          refine zW_istore (ls' := [_, _, _, _, _, _, _, _]) (pc' := 40) dX3_bend_1.1.1.2.2 (by decide) rfl rfl rfl ?_
          exact k40 _ _ _ _ hF (by omega) (by omega) (by omega) (by omega) (by omega) (by first | (rw [show (v7 + 256 - 16 * v5 - v6) / 256 = ((v7 - 16 * v5 - v6) / 256) + 1 by omega]; exact hr2) | (rw [show (v5 * 16 + v6 - 16 * v5 - v6) / 256 = 0 by omega]; exact PuC.st gc0)) (by omega) (by omega) hF3 hgh (by omega)
      · intro v5 v6 v7 h hF g0 g1 g2 g3 g4 gc0 gc1 gc2 hF3 hgh hm
        refine zW_iload (pc' := 42) dX3_bend_1.1.2.1.1 rfl rfl ?_
        refine zW_sipush (pc' := 45) dX3_bend_1.1.2.1.2 rfl rfl ?_
        refine zV_cm_ge (tgt := 78) (pc' := 48) dX3_bend_1.1.2.2.1 rfl rfl ⟨by omega, by omega⟩ ⟨by omega, by omega⟩ (fun c45 => ?_) (fun c45 => ?_)
        · refine zW_iinc (ls' := [_, _, _, _, _, _, _, _]) (pc' := 81) dX3_bend_2.2.1.1.1 rfl (by decide) rfl rfl rfl ?_
          refine zV_goto 18 dX3_bend_2.2.1.1.2 rfl ?_
          refine zV_clr 7 (ls' := [_, _, _, _, _, _, _, _]) rfl ?_
          exact k18 _ _ _ hF (by omega) (by omega) (by omega) (by omega) (by first | exact gc0.en (by omega) | exact gc0) hF3 hgh (by omega)
        · refine zW_aload_n (pc' := 49) dX3_bend_1.1.2.2.2 rfl rfl ?_
          refine zG_lev (pc' := 52) (by omega) (by omega) fg_X3_27 dX3_bend_1.2.1.1.1 rfl ?_
          refine zW_iload (pc' := 54) dX3_bend_1.2.1.1.2 rfl rfl ?_
          refine zW_aload_n (pc' := 55) dX3_bend_1.2.1.2.1 rfl rfl ?_
          refine zW_aload_n (pc' := 56) dX3_bend_1.2.1.2.2 rfl rfl ?_
          refine zG_lev (pc' := 59) (by omega) (by omega) fg_X3_27 dX3_bend_1.2.2.1.1 rfl ?_
          refine zW_iload (pc' := 61) dX3_bend_1.2.2.1.2 rfl rfl ?_
          refine zV_iald (pc' := 62) (tabL (by omega) (by omega)) (by omega) dX3_bend_1.2.2.2.1 (by decide) rfl ?_
          have q61 := (hF3 ((v7 - 16 * v5 - v6) / 256) (by omega)).at (i := v7) (x := v6) (y := v5) ⟨by omega, by omega, by omega, by omega⟩ (by omega)
          have b61 := hb3 ((v7 - 16 * v5 - v6) / 256) (by omega) (v6) (v5) ⟨by omega, by omega, by omega, by omega⟩
          rw [← q61] at b61
          generalize hyv : h (s1 + 15) v7.toNat = yv at q61 b61 ⊢
          refine zW_aload_n (pc' := 63) dX3_bend_1.2.2.2.2 rfl rfl ?_
          refine zW_iload (pc' := 65) dX3_bend_2.1.1.1.1 rfl rfl ?_
          refine cvI3 (pc' := 68) kX3_bent vX3_bent lk_X3_105 ⟨Nat.le_of_ble_eq_true rfl, Nat.le_of_ble_eq_true rfl⟩ tb87 vq3 rfl rfl (s_X3_bentZ hK hF _ ⟨by omega, by omega⟩ _ ⟨by omega, by omega, by omega⟩ hcr) dX3_bend_2.1.1.1.2 (Nat.le_of_ble_eq_true rfl) rfl ?_
          rintro r65 z65 ⟨hz65, p65⟩; subst z65
          refine zS_lv (pc' := 69) hF (by omega) (by omega) hto (by omega) dX3_bend_2.1.1.2 rfl (fun h i68 hF a68 b68 w68 => ?_)
          replace b68 := b68 ⟨by omega, by omega⟩
          replace hgh : Fw [(s2 + 15)] [] gh0 h := by rw [w68]; exact hgh.wc (by simp)
          replace hF3 : FuS (κ 33 0) (κ 33 1) (h (s1 + 15)) F := by have q0_ := (congrFun w68 (s1 + 15)).trans (zfun (by omega)); rw [q0_]; exact hF3
          have hr2 : PuC (κ 33 0) (κ 33 1) (h (s2 + 15)) (bnF κ x4 F) v6 v5 (((v7 - 16 * v5 - v6) / 256) + 1) := by rw [w68, b68]; exact PuC.nx (by omega) (by omega) ⟨by omega, by omega, by omega, by omega⟩ gc0 ⟨by omega, by omega⟩ (by omega) (by unfold bnF; rw [p65.2.2, ← q61])
          refine zW_iincW (ls' := [_, _, _, _, _, _, _, _]) (pc' := 75) dX3_bend_2.1.2.1 rfl (by decide) rfl rfl rfl ?_
          refine zV_goto 40 dX3_bend_2.1.2.2 rfl ?_
          exact k40 _ _ _ _ hF (by omega) (by omega) (by omega) (by omega) (by omega) (by first | (rw [show (v7 + 256 - 16 * v5 - v6) / 256 = ((v7 - 16 * v5 - v6) / 256) + 1 by omega]; exact hr2) | (rw [show (v5 * 16 + v6 - 16 * v5 - v6) / 256 = 0 by omega]; exact PuC.st gc0)) (by omega) (by omega) hF3 hgh (by omega)
  refine zM_of [some (.inr (.inr 87)), some (.inr (.inr s1)), some (.inr (.inr s2)), some (.inr (.inr 41)), some (.inl x4), none, none, none] 3 rfl rfl (Nat.le_of_ble_eq_true rfl) rfl ?_
  refine zW_iconst (pc' := 1) dX3_bend_0.1.1.1.1 rfl ?_
  refine zW_istore (ls' := [_, _, _, _, _, _, _, _]) (pc' := 3) dX3_bend_0.1.1.1.2 (by decide) rfl rfl rfl ?_
  exact (main 10000000000000000000000000000000000000000).1 _ _ hF (by omega) (by omega) (by first | exact gc0.rowx (by omega) | exact PuS.no) hF3 hgh (by omega)
