/-! how many are at most so bright; sorting -/
def Srd (A : Nat → Int) (n : Nat) : Prop := ∀ i, i + 1 < n → A i ≤ A (i + 1)
theorem Srd.le {A : Nat → Int} {n : Nat} (h : Srd A n) {i : Nat} : ∀ k, i + k < n → A i ≤ A (i + k)
  | 0, _ => Int.le_refl _
  | k + 1, hk => by
    have a := h.le (i := i) k (by omega)
    have b := h (i + k) (by omega)
    rw [show i + (k + 1) = i + k + 1 by omega]
    omega

def bwF (A : Nat → Int) (lo hi : Int) : Nat → Int
  | 0 => 0
  | n + 1 => bwF A lo hi n + (if lo ≤ A n ∧ A n ≤ hi then 1 else 0)
theorem bwF_s {A : Nat → Int} {lo hi i : Int} (h : 0 ≤ i) : bwF A lo hi (i + 1).toNat = bwF A lo hi i.toNat + (if lo ≤ A i.toNat ∧ A i.toNat ≤ hi then 1 else 0) := by
  rw [show (i + 1).toNat = i.toNat + 1 by omega]
  rfl

abbrev q_X4_betweenZ (κ h : Hp) (x1 : Int) (x2 : Int) (M : Nat → Int) : Int → Hp → Prop := fun r h' => h' = h ∧ ((0 ≤ r) ∧ (r ≤ 256) ∧ (r = bwF M x1 x2 (h 95 0).toNat))
set_option maxHeartbeats 4000000 in
set_option maxRecDepth 20000 in
theorem s_X4_betweenZ {G : Ga} {b : Bd} {κ h : Hp} (hF : Fr b κ h) (x1 : Int) (hx1 : rng x1) (x2 : Int) (hx2 : rng x2) (M : Nat → Int) (hLi : LiO (h 96) M (h 95 0)) : zM G mX4_between yX4_between [.inr (.inr 95), .inl x1, .inl x2] h (q_X4_betweenZ κ h x1 x2 M) := by
  have e53_ := hF.2.2.2.2.1
  unfold rng at hx1
  unfold rng at hx2
  have main : ∀ N : Nat, (∀ (v3 v4 : Int) , (0 ≤ v3 ∧ v3 ≤ 256) → (0 ≤ v4 ∧ v4 ≤ 256) → (v3 = bwF M x1 x2 v4.toNat) → (v4 ≤ h 95 0) → (v3 ≤ v4) → 130548 + 23 * (256 - v4) + 22 < (N : Int) → zV G mX4_between (q_X4_betweenZ κ h x1 x2 M) 5 [some (.inr (.inr 95)), some (.inl x1), some (.inl x2), some (.inl v3), some (.inl v4)] [] h) := by
    intro N
    induction N with
    | zero =>
      intro v3 v4 g0 g1 gc0 gc1 gc2 hm
      exfalso; omega
    | succ N ih =>
      have k5 := ih
      intro v3 v4 g0 g1 gc0 gc1 gc2 hm
      refine zW_iload (pc' := 7) dX4_between_0.1.2.1.1 rfl rfl ?_
      refine zW_aload_n (pc' := 8) dX4_between_0.1.2.1.2 rfl rfl ?_
      refine zG_int (pc' := 11) fg_X4_27 tb95 rfl dX4_between_0.1.2.2.1 rfl ?_
      have e8 := hF.2.2.2.2.1
      refine zV_cm_ge (tgt := 45) (pc' := 14) dX4_between_0.1.2.2.2 rfl rfl ⟨by omega, by omega⟩ ⟨by omega, by omega⟩ (fun c11 => ?_) (fun c11 => ?_)
      · refine zW_iload_n (pc' := 46) dX4_between_1.2.2.1 rfl rfl ?_
        exact zV_iret rfl dX4_between_1.2.2.2 ⟨rfl, (by rw [show (h 95 0).toNat = v4.toNat by omega]; exact ⟨by omega, by omega, gc0⟩)⟩
      · refine zW_aload_n (pc' := 15) dX4_between_0.2.1.1.1 rfl rfl ?_
        refine zG_ref (pc' := 18) 96 fg_X4_9 tb95 rfl dX4_between_0.2.1.1.2 rfl ?_
        refine zW_iload (pc' := 20) dX4_between_0.2.1.2.1 rfl rfl ?_
        refine zV_iald (pc' := 21) tb96 (by omega) dX4_between_0.2.1.2.2 (by decide) rfl ?_
        have ha := hLi v4.toNat (by omega)
        have b20 : 0 ≤ h 96 v4.toNat ∧ h 96 v4.toNat ≤ 4095 := by rw [ha.1]; exact ha.2
        have sq := bwF_s (A := M) (lo := x1) (hi := x2) (i := v4) (by omega)
        rw [← ha.1] at sq
        refine zW_iload_n (pc' := 22) dX4_between_0.2.2.1.1 rfl rfl ?_
        refine zV_cm_lt (tgt := 39) (pc' := 25) dX4_between_0.2.2.1.2 rfl rfl ⟨by omega, by omega⟩ ⟨by omega, by omega⟩ (fun c22 => ?_) (fun c22 => ?_)
        · first | rw [if_pos (by omega)] at sq | rw [if_neg (by omega)] at sq
          refine zW_iinc (ls' := [_, _, _, _, _]) (pc' := 42) dX4_between_1.2.1.1 rfl (by decide) rfl rfl rfl ?_
          refine zV_goto 5 dX4_between_1.2.1.2 rfl ?_
          exact k5 _ _ (by omega) (by omega) (by first | rfl | (rw [sq, gc0]; omega) | (rw [sq, gc0])) (by omega) (by omega) (by omega)
        · refine zW_aload_n (pc' := 26) dX4_between_0.2.2.2.1 rfl rfl ?_
          refine zG_ref (pc' := 29) 96 fg_X4_9 tb95 rfl dX4_between_0.2.2.2.2 rfl ?_
          refine zW_iload (pc' := 31) dX4_between_1.1.1.1.1 rfl rfl ?_
          refine zV_iald (pc' := 32) tb96 (by omega) dX4_between_1.1.1.1.2 (by decide) rfl ?_
          refine zW_iload_n (pc' := 33) dX4_between_1.1.1.2 rfl rfl ?_
          refine zV_cm_gt (tgt := 39) (pc' := 36) dX4_between_1.1.2.1 rfl rfl ⟨by omega, by omega⟩ ⟨by omega, by omega⟩ (fun c33 => ?_) (fun c33 => ?_)
          · first | rw [if_pos (by omega)] at sq | rw [if_neg (by omega)] at sq
            refine zW_iinc (ls' := [_, _, _, _, _]) (pc' := 42) dX4_between_1.2.1.1 rfl (by decide) rfl rfl rfl ?_
            refine zV_goto 5 dX4_between_1.2.1.2 rfl ?_
            exact k5 _ _ (by omega) (by omega) (by first | rfl | (rw [sq, gc0]; omega) | (rw [sq, gc0])) (by omega) (by omega) (by omega)
          · refine zW_iinc (ls' := [_, _, _, _, _]) (pc' := 39) dX4_between_1.1.2.2 rfl (by decide) rfl rfl rfl ?_
            first | rw [if_pos (by omega)] at sq | rw [if_neg (by omega)] at sq
            refine zW_iinc (ls' := [_, _, _, _, _]) (pc' := 42) dX4_between_1.2.1.1 rfl (by decide) rfl rfl rfl ?_
            refine zV_goto 5 dX4_between_1.2.1.2 rfl ?_
            exact k5 _ _ (by omega) (by omega) (by first | rfl | (rw [sq, gc0]; omega) | (rw [sq, gc0])) (by omega) (by omega) (by omega)
  refine zM_of [some (.inr (.inr 95)), some (.inl x1), some (.inl x2), none, none] 2 rfl rfl (Nat.le_of_ble_eq_true rfl) rfl ?_
  refine zW_iconst (pc' := 1) dX4_between_0.1.1.1.1 rfl ?_
  refine zW_istore_n (ls' := [_, _, _, _, _]) (pc' := 2) dX4_between_0.1.1.1.2 (by decide) rfl rfl rfl ?_
  refine zW_iconst (pc' := 3) dX4_between_0.1.1.2.1 rfl ?_
  refine zW_istore (ls' := [_, _, _, _, _]) (pc' := 5) dX4_between_0.1.1.2.2 (by decide) rfl rfl rfl ?_
  exact (main 10000000000000000000000000000000000000000) _ _ (by omega) (by omega) (by first | rfl | (rw [sq, gc0]; omega) | (rw [sq, gc0])) (by omega) (by omega) (by omega)



