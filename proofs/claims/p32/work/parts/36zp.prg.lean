/-! the greatest over the squares -/
def mxR (t : Int → Int → Int) (y : Int) : Nat → Int
  | 0 => 0
  | n + 1 => max2 (mxR t y n) (t n y)
def mxS (t : Int → Int → Int) (w : Nat) : Nat → Int
  | 0 => 0
  | n + 1 => max2 (mxS t w n) (mxR t n w)
theorem mxR_s {t : Int → Int → Int} {y v : Int} (h : 0 ≤ v) : mxR t y (v + 1).toNat = max2 (mxR t y v.toNat) (t v y) := by
  rw [show (v + 1).toNat = v.toNat + 1 by omega]
  show max2 (mxR t y v.toNat) (t ((v.toNat : Nat) : Int) y) = _
  rw [show ((v.toNat : Nat) : Int) = v by omega]
theorem mxS_s {t : Int → Int → Int} {w : Nat} {v : Int} (h : 0 ≤ v) : mxS t w (v + 1).toNat = max2 (mxS t w v.toNat) (mxR t v w) := by
  rw [show (v + 1).toNat = v.toNat + 1 by omega]
  show max2 (mxS t w v.toNat) (mxR t ((v.toNat : Nat) : Int) w) = _
  rw [show ((v.toNat : Nat) : Int) = v by omega]
theorem max2_as {a b c : Int} : max2 (max2 a b) c = max2 a (max2 b c) := by
  have h1 := max2c a b
  have h2 := max2c (max2 a b) c
  have h3 := max2c b c
  have h4 := max2c a (max2 b c)
  omega
theorem max2_0 {a : Int} (h : 0 ≤ a) : max2 a 0 = a := by
  have h1 := max2c a 0
  omega
theorem mxS_n {t : Int → Int → Int} {w : Nat} : ∀ n : Nat, 0 ≤ mxS t w n
  | 0 => Int.le_refl 0
  | n + 1 => by
    have a := mxS_n (t := t) (w := w) n
    have b := max2c (mxS t w n) (mxR t n w)
    show 0 ≤ max2 (mxS t w n) (mxR t n w)
    omega



abbrev q_X7_isBehindFZ (κ h : Hp) (x1 : Int) : Int → Hp → Prop := fun r h' => h' = h ∧ ((0 ≤ r) ∧ (r ≤ 1) ∧ (r = bhI (LC κ) x1.toNat))
set_option maxHeartbeats 4000000 in
set_option maxRecDepth 20000 in
theorem s_X7_isBehindFZ {G : Ga} {b : Bd} {κ h : Hp} (hK : KC κ) (hF : Fr b κ h) (x1 : Int) (hx1 : 0 ≤ x1 ∧ x1 ≤ 12 ∧ x1 - κ 41 0 ≤ 0) (hfB : ∀ k : Nat, (k : Int) ≤ κ 41 0 → ((0 < κ 41 1 ∧ κ 41 1 ≤ (k : Int)) ↔ bhI (LC κ) k = 1)) : zM G mX7_isBehindF yX7_isBehindF [.inr (.inr 41), .inl x1] h (q_X7_isBehindFZ κ h x1) := by
  have f_41_0 := KCm hK
  have f_41_1 := KCf hK
  refine zM_of [some (.inr (.inr 41)), some (.inl x1)] 0 rfl rfl (Nat.le_of_ble_eq_true rfl) rfl ?_
  refine zW_aload_n (pc' := 1) dX7_isBehindF_0.1.1.1.1 rfl rfl ?_
  refine zG_key (pc' := 4) hF rfl fg_X7_25 tb41 rfl dX7_isBehindF_0.1.1.1.2 rfl ?_
  refine zV_if_le (tgt := 19) (pc' := 7) dX7_isBehindF_0.1.1.2 rfl rfl ⟨by omega, by omega⟩ (fun c4 => ?_) (fun c4 => ?_)
  · refine zW_iconst (pc' := 20) dX7_isBehindF_0.2.2.1 rfl ?_
    exact zV_zret rfl (by omega) dX7_isBehindF_0.2.2.2 ⟨rfl, (by have z := hfB x1.toNat (by omega); rw [show ((x1.toNat : Nat) : Int) = x1 by omega] at z; have c := bhI_c (LC κ) x1.toNat; omega)⟩
  · refine zW_iload_n (pc' := 8) dX7_isBehindF_0.1.2.1.1 rfl rfl ?_
    refine zW_aload_n (pc' := 9) dX7_isBehindF_0.1.2.1.2 rfl rfl ?_
    refine zG_key (pc' := 12) hF rfl fg_X7_25 tb41 rfl dX7_isBehindF_0.1.2.2 rfl ?_
    refine zV_cm_lt (tgt := 19) (pc' := 15) dX7_isBehindF_0.2.1.1.1 rfl rfl ⟨by omega, by omega⟩ ⟨by omega, by omega⟩ (fun c12 => ?_) (fun c12 => ?_)
    · refine zW_iconst (pc' := 20) dX7_isBehindF_0.2.2.1 rfl ?_
      exact zV_zret rfl (by omega) dX7_isBehindF_0.2.2.2 ⟨rfl, (by have z := hfB x1.toNat (by omega); rw [show ((x1.toNat : Nat) : Int) = x1 by omega] at z; have c := bhI_c (LC κ) x1.toNat; omega)⟩
    · refine zW_iconst (pc' := 16) dX7_isBehindF_0.2.1.1.2 rfl ?_
      refine zV_goto 20 dX7_isBehindF_0.2.1.2 rfl ?_
      exact zV_zret rfl (by omega) dX7_isBehindF_0.2.2.2 ⟨rfl, (by have z := hfB x1.toNat (by omega); rw [show ((x1.toNat : Nat) : Int) = x1 by omega] at z; have c := bhI_c (LC κ) x1.toNat; omega)⟩










