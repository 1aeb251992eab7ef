/-! late stages of the reference: blocks, medians, votes -/
theorem bkT_in {W H x y x0 y0 u v : Int} {t : Int → Int → Int} (h : inP W H x y) (ex : x0 + u = x) (ey : y0 + v = y) : bkT W H t x0 y0 u v = t x y := by
  unfold bkT
  rw [ex, ey]; exact if_pos h
theorem bkT_out {W H x y x0 y0 u v : Int} {t : Int → Int → Int} (h : ¬ inP W H x y) (ex : x0 + u = x) (ey : y0 + v = y) : bkT W H t x0 y0 u v = 0 := by
  unfold bkT
  rw [ex, ey]; exact if_neg h

theorem bub_r {P : Int → Prop} : ∀ (j : Nat) (A : Nat → Int), (∀ i, i ≤ j → P (A i)) → ∀ i, i ≤ j → P (bub A j i)
  | 0, A, h, i, hi => h i hi
  | j + 1, A, h, i, hi => by
    rcases bubc A j with ⟨_, e⟩ | ⟨_, e⟩ <;> rw [e]
    · by_cases c : i = j + 1
      · rw [c, bub_hi j _ _ (by omega)]
        unfold swp
        rw [if_pos rfl]
        exact h j (by omega)
      · refine bub_r j (swp A j) (fun k hk => ?_) i (by omega)
        unfold swp
        rw [if_neg (by omega)]
        split
        · exact h (j + 1) (by omega)
        · exact h k (by omega)
    · exact h i hi
theorem srt_r {P : Int → Prop} {A : Nat → Int} : ∀ n, (∀ i, i < n → P (A i)) → ∀ i, i < n → P (srt A n i)
  | 0, _, _, hi => by omega
  | n + 1, h, i, hi => bub_r n (srt A n) (fun k hk => by
      by_cases c : k = n
      · rw [c, srt_hi n n (Nat.le_refl n)]; exact h n (by omega)
      · exact srt_r n (fun k hk => h k (by omega)) k (by omega)) i (by omega)
theorem df9_b {W H : Int} {F : P3} {c x y : Int} (hW : 4 ≤ W) (hH : 4 ≤ H) (hF : FB3 W H F) (hc : 0 ≤ c ∧ c ≤ 2) (hp : inP W H x y) {k : Nat} (hk : k < 9) : -4095 ≤ df9 W H F c x y k ∧ df9 W H F c x y k ≤ 4095 := by
  obtain ⟨h1, h2, h3, h4⟩ := hp
  have m1 := mir_b (v := x + ((k % 3 : Nat) - 1)) hW (by omega) (by omega)
  have m2 := mir_b (v := y + ((k / 3 : Nat) - 1)) hH (by omega) (by omega)
  have a := hF c hc _ _ ⟨m1.1, m1.2, m2.1, m2.2⟩
  have e := hF 1 (by omega) _ _ ⟨m1.1, m1.2, m2.1, m2.2⟩
  unfold df9
  omega
theorem med_b {W H : Int} {F : P3} {c x y : Int} (hW : 4 ≤ W) (hH : 4 ≤ H) (hF : FB3 W H F) (hc : 0 ≤ c ∧ c ≤ 2) (hp : inP W H x y) : -4095 ≤ med W H F c x y ∧ med W H F c x y ≤ 4095 :=
  srt_r (P := fun v => -4095 ≤ v ∧ v ≤ 4095) 9 (fun i hi => df9_b hW hH hF hc hp hi) 4 (by decide)

abbrev q_X12_baseOfZ1 (κ h : Hp) (x1 : Int) (x2 : Int) (x3 : Int) (x4 : Int) (F : P3) : Int → Hp → Prop := fun r h' => h' = h ∧ ((0 ≤ r) ∧ (r ≤ 1048320) ∧ (r = bsF (κ 0 11) (κ 0 12) F 2 x2 x3))
set_option maxHeartbeats 4000000 in
set_option maxRecDepth 20000 in
theorem s_X12_baseOfZ1 {G : Ga} {b : Bd} {κ h : Hp} (hK : KR κ) (hF : Fr b κ h) (x1 : Int) (hx1 : 0 ≤ x1 ∧ x1 ≤ 14) (x2 : Int) (hx2 : 0 ≤ x2 ∧ x2 ≤ 15 ∧ x2 - κ 0 11 ≤ -1) (x3 : Int) (hx3 : 0 ≤ x3 ∧ x3 ≤ 15 ∧ x3 - κ 0 12 ≤ -1) (x4 : Int) (hx4 : 1 ≤ x4 ∧ x4 ≤ 1) (F : P3) (hF3 : Fu17 κ (h 17) x1 F) (hb3 : FB3 (κ 0 11) (κ 0 12) F) : zM G mX12_baseOf yX12_baseOf [.inr (.inr 0), .inl x1, .inl x2, .inl x3, .inl x4] h (q_X12_baseOfZ1 κ h x1 x2 x3 x4 F) := by
  have f_0_11 := KRw hK
  have f_0_12 := KRh hK
  have main : ∀ N : Nat, (∀ (v6 v7 v8 : Int) , (0 ≤ v6 ∧ v6 ≤ 1048320) → (0 ≤ v7 ∧ v7 ≤ 256) → (0 ≤ v8 ∧ v8 ≤ 16) → (v6 = sumS (bkT (κ 0 11) (κ 0 12) (lgt F) (x2 / 2 * 2) (x3 / 2 * 2)) (2 : Int).toNat (v8 - (x3 / 2 * 2)).toNat) → (v7 = sumS (bkT (κ 0 11) (κ 0 12) (fun _ _ => 1) (x2 / 2 * 2) (x3 / 2 * 2)) (2 : Int).toNat (v8 - (x3 / 2 * 2)).toNat) → ((x3 / 2 * 2) ≤ v8 ∧ v8 ≤ (x3 / 2 * 2) + 2) → (v6 ≤ 65520 * (v8 - (x3 / 2 * 2))) → (x3 < v8 → 1 ≤ v7) → (v7 ≤ 16 * (v8 - (x3 / 2 * 2))) → 28355184 + 30888 * (16 - v8) + 30294 < (N : Int) → zV G mX12_baseOf (q_X12_baseOfZ1 κ h x1 x2 x3 x4 F) 21 [some (.inr (.inr 0)), some (.inl x1), some (.inl x2), some (.inl x3), some (.inl x4), some (.inl 2), some (.inl v6), some (.inl v7), some (.inl v8), none] [] h) ∧ (∀ (v6 v7 v8 v9 : Int) , (0 ≤ v6 ∧ v6 ≤ 1048320) → (0 ≤ v7 ∧ v7 ≤ 256) → (0 ≤ v8 ∧ v8 ≤ 15) → (0 ≤ v9 ∧ v9 ≤ 16) → (v6 = sumS (bkT (κ 0 11) (κ 0 12) (lgt F) (x2 / 2 * 2) (x3 / 2 * 2)) (2 : Int).toNat (v8 - (x3 / 2 * 2)).toNat + sumR (bkT (κ 0 11) (κ 0 12) (lgt F) (x2 / 2 * 2) (x3 / 2 * 2)) (v8 - (x3 / 2 * 2)) (v9 - (x2 / 2 * 2)).toNat) → (v7 = sumS (bkT (κ 0 11) (κ 0 12) (fun _ _ => 1) (x2 / 2 * 2) (x3 / 2 * 2)) (2 : Int).toNat (v8 - (x3 / 2 * 2)).toNat + sumR (bkT (κ 0 11) (κ 0 12) (fun _ _ => 1) (x2 / 2 * 2) (x3 / 2 * 2)) (v8 - (x3 / 2 * 2)) (v9 - (x2 / 2 * 2)).toNat) → ((x3 / 2 * 2) ≤ v8 ∧ v8 < (x3 / 2 * 2) + 2 ∧ (x2 / 2 * 2) ≤ v9 ∧ v9 ≤ (x2 / 2 * 2) + 2) → (v6 ≤ 65520 * (v8 - (x3 / 2 * 2)) + 4095 * (v9 - (x2 / 2 * 2))) → ((x3 < v8 → 1 ≤ v7) ∧ (x3 = v8 ∧ x2 < v9 → 1 ≤ v7)) → (v7 ≤ 16 * (v8 - (x3 / 2 * 2)) + (v9 - (x2 / 2 * 2))) → 28355184 + 30888 * (16 - v8) + 19008 + 33 * (16 - v9) + 32 < (N : Int) → zV G mX12_baseOf (q_X12_baseOfZ1 κ h x1 x2 x3 x4 F) 45 [some (.inr (.inr 0)), some (.inl x1), some (.inl x2), some (.inl x3), some (.inl x4), some (.inl 2), some (.inl v6), some (.inl v7), some (.inl v8), some (.inl v9)] [] h) := by
    intro N
    induction N with
    | zero =>
      refine ⟨?_, ?_⟩
      · intro v6 v7 v8 g0 g1 g2 gc0 gc1 gc2 gc3 gc4 gc5 hm
        exfalso; omega
      · intro v6 v7 v8 v9 g0 g1 g2 g3 gc0 gc1 gc2 gc3 gc4 gc5 hm
        exfalso; omega
    | succ N ih =>
      obtain ⟨k21, k45⟩ := ih
      refine ⟨?_, ?_⟩
      · intro v6 v7 v8 g0 g1 g2 gc0 gc1 gc2 gc3 gc4 gc5 hm
        refine zW_iload (pc' := 23) dX12_baseOf_0.2.2.2.1 rfl rfl ?_
        refine zW_iload_n (pc' := 24) dX12_baseOf_0.2.2.2.2 rfl rfl ?_
        refine zW_iload (pc' := 26) dX12_baseOf_1.1.1.1.1 rfl rfl ?_
        refine zW_idiv (pc' := 27) (by omega) (by omega) dX12_baseOf_1.1.1.1.2 rfl ?_
        refine zW_iload (pc' := 29) dX12_baseOf_1.1.1.2.1 rfl rfl ?_
        refine zW_imul (pc' := 30) dX12_baseOf_1.1.1.2.2 rfl ?_
        refine zW_iload (pc' := 32) dX12_baseOf_1.1.2.1.1 rfl rfl ?_
        refine zW_iadd (pc' := 33) dX12_baseOf_1.1.2.1.2 rfl ?_
        refine zV_cm_ge (tgt := 106) (pc' := 36) dX12_baseOf_1.1.2.2.1 rfl rfl ⟨by omega, by omega⟩ ⟨by omega, by omega⟩ (fun c33 => ?_) (fun c33 => ?_)
        · refine zW_iload (pc' := 108) dX12_baseOf_3.2.2.1.1 rfl rfl ?_
          refine zW_iload (pc' := 110) dX12_baseOf_3.2.2.1.2 rfl rfl ?_
          refine zW_idivX (pc' := 111) ⟨by omega, by omega⟩ ⟨by omega, by omega⟩ dX12_baseOf_3.2.2.2.1 rfl (fun v110 t110 e110 => ?_)
          unfold rng at e110
          have hq := tdb2 (a := v6) (d := v7) (by omega) (by omega)
          rw [← t110] at hq
          exact zV_iret rfl dX12_baseOf_3.2.2.2.2 ⟨rfl, (by refine ⟨by omega, by omega, ?_⟩; unfold bsF; rw [t110, Int.tdiv_eq_ediv_of_nonneg (by omega), gc0, gc1, show (v8 - (x3 / 2 * 2)).toNat = (2 : Int).toNat by omega])⟩
        · refine zW_iload_n (pc' := 37) dX12_baseOf_1.1.2.2.2 rfl rfl ?_
          refine zW_iload (pc' := 39) dX12_baseOf_1.2.1.1.1 rfl rfl ?_
          refine zW_idiv (pc' := 40) (by omega) (by omega) dX12_baseOf_1.2.1.1.2 rfl ?_
          refine zW_iload (pc' := 42) dX12_baseOf_1.2.1.2.1 rfl rfl ?_
          refine zW_imul (pc' := 43) dX12_baseOf_1.2.1.2.2 rfl ?_
          refine zW_istore (ls' := [_, _, _, _, _, _, _, _, _, _]) (pc' := 45) dX12_baseOf_1.2.2.1.1 (by decide) rfl rfl rfl ?_
          exact k45 _ _ _ _ (by omega) (by omega) (by omega) (by omega) (by first | (rw [show (v9 + 1 - (x2 / 2 * 2)).toNat = (v9 - (x2 / 2 * 2) + 1).toNat by omega, sr, gc0, Int.add_assoc, bkT_in (x := v9) (y := v8) ⟨by omega, by omega, by omega, by omega⟩ (by omega) (by omega), e82]) | (rw [show (v9 + 1 - (x2 / 2 * 2)).toNat = (v9 - (x2 / 2 * 2) + 1).toNat by omega, sr, gc0, bkT_out (x := v9) (y := v8) (fun q => by obtain ⟨q1, q2, q3, q4⟩ := q; omega) (by omega) (by omega), Int.add_zero]) | (rw [show ((x2 / 2 * 2) - (x2 / 2 * 2)).toNat = 0 by omega]; show _ = _ + 0; omega)) (by first | (rw [show (v9 + 1 - (x2 / 2 * 2)).toNat = (v9 - (x2 / 2 * 2) + 1).toNat by omega, s1, gc1, Int.add_assoc, bkT_in (x := v9) (y := v8) ⟨by omega, by omega, by omega, by omega⟩ (by omega) (by omega)]) | (rw [show (v9 + 1 - (x2 / 2 * 2)).toNat = (v9 - (x2 / 2 * 2) + 1).toNat by omega, s1, gc1, bkT_out (x := v9) (y := v8) (fun q => by obtain ⟨q1, q2, q3, q4⟩ := q; omega) (by omega) (by omega), Int.add_zero]) | (rw [show ((x2 / 2 * 2) - (x2 / 2 * 2)).toNat = 0 by omega]; show _ = _ + 0; omega)) (by omega) (by omega) (by omega) (by omega) (by omega)
      · intro v6 v7 v8 v9 g0 g1 g2 g3 gc0 gc1 gc2 gc3 gc4 gc5 hm
        refine zW_iload (pc' := 47) dX12_baseOf_1.2.2.1.2 rfl rfl ?_
        refine zW_iload_n (pc' := 48) dX12_baseOf_1.2.2.2.1 rfl rfl ?_
        refine zW_iload (pc' := 50) dX12_baseOf_1.2.2.2.2 rfl rfl ?_
        refine zW_idiv (pc' := 51) (by omega) (by omega) dX12_baseOf_2.1.1.1.1 rfl ?_
        refine zW_iload (pc' := 53) dX12_baseOf_2.1.1.1.2 rfl rfl ?_
        refine zW_imul (pc' := 54) dX12_baseOf_2.1.1.2.1 rfl ?_
        refine zW_iload (pc' := 56) dX12_baseOf_2.1.1.2.2 rfl rfl ?_
        refine zW_iadd (pc' := 57) dX12_baseOf_2.1.2.1.1 rfl ?_
        refine zV_cm_ge (tgt := 100) (pc' := 60) dX12_baseOf_2.1.2.1.2 rfl rfl ⟨by omega, by omega⟩ ⟨by omega, by omega⟩ (fun c57 => ?_) (fun c57 => ?_)
        · have ss := sumS_s (t := (bkT (κ 0 11) (κ 0 12) (lgt F) (x2 / 2 * 2) (x3 / 2 * 2))) (w := (2 : Int).toNat) (v := v8 - (x3 / 2 * 2)) (by omega)
          have s2 := sumS_s (t := (bkT (κ 0 11) (κ 0 12) (fun _ _ => 1) (x2 / 2 * 2) (x3 / 2 * 2))) (w := (2 : Int).toNat) (v := v8 - (x3 / 2 * 2)) (by omega)
          refine zW_iinc (ls' := [_, _, _, _, _, _, _, _, _, _]) (pc' := 103) dX12_baseOf_3.2.1.2.1 rfl (by decide) rfl rfl rfl ?_
          refine zV_goto 21 dX12_baseOf_3.2.1.2.2 rfl ?_
          refine zV_clr 9 (ls' := [_, _, _, _, _, _, _, _, _, _]) rfl ?_
          exact k21 _ _ _ (by omega) (by omega) (by omega) (by first | (rw [show (v9 - (x2 / 2 * 2)).toNat = (2 : Int).toNat by omega] at gc0; rw [show (v8 + 1 - (x3 / 2 * 2)).toNat = (v8 - (x3 / 2 * 2) + 1).toNat by omega, ss]; exact gc0) | (rw [show ((x3 / 2 * 2) - (x3 / 2 * 2)).toNat = 0 by omega]; rfl)) (by first | (rw [show (v9 - (x2 / 2 * 2)).toNat = (2 : Int).toNat by omega] at gc1; rw [show (v8 + 1 - (x3 / 2 * 2)).toNat = (v8 - (x3 / 2 * 2) + 1).toNat by omega, s2]; exact gc1) | (rw [show ((x3 / 2 * 2) - (x3 / 2 * 2)).toNat = 0 by omega]; rfl)) (by omega) (by omega) (by omega) (by omega) (by omega)
        · have sr := sumR_s (t := (bkT (κ 0 11) (κ 0 12) (lgt F) (x2 / 2 * 2) (x3 / 2 * 2))) (y := v8 - (x3 / 2 * 2)) (v := v9 - (x2 / 2 * 2)) (by omega)
          have s1 := sumR_s (t := (bkT (κ 0 11) (κ 0 12) (fun _ _ => 1) (x2 / 2 * 2) (x3 / 2 * 2))) (y := v8 - (x3 / 2 * 2)) (v := v9 - (x2 / 2 * 2)) (by omega)
          refine zW_aload_n (pc' := 61) dX12_baseOf_2.1.2.2.1 rfl rfl ?_
          refine zW_iload (pc' := 63) dX12_baseOf_2.1.2.2.2 rfl rfl ?_
          refine zW_iload (pc' := 65) dX12_baseOf_2.2.1.1.1 rfl rfl ?_
          refine cvI2 (pc' := 68) kX12_isSquare vX12_isSquare lk_X12_218 ⟨Nat.le_of_ble_eq_true rfl, Nat.le_of_ble_eq_true rfl⟩ tb0 vq12 rfl rfl (s_X12_isSquare hK hF _ ⟨by omega, by omega⟩ _ ⟨by omega, by omega⟩) dX12_baseOf_2.2.1.1.2 (Nat.le_of_ble_eq_true rfl) rfl ?_
          rintro r65 z65 ⟨hz65, p65⟩; subst z65
          refine zV_if_ne (tgt := 74) (pc' := 71) dX12_baseOf_2.2.1.2.1 rfl rfl ⟨by omega, by omega⟩ (fun c68 => ?_) (fun c68 => ?_)
          · refine zW_iload (pc' := 76) dX12_baseOf_2.2.2.1.1 rfl rfl ?_
            refine zW_aload_n (pc' := 77) dX12_baseOf_2.2.2.1.2 rfl rfl ?_
            refine zW_iload_n (pc' := 78) dX12_baseOf_2.2.2.2.1 rfl rfl ?_
            refine zW_iload (pc' := 80) dX12_baseOf_2.2.2.2.2 rfl rfl ?_
            refine zW_iload (pc' := 82) dX12_baseOf_3.1.1.1.1 rfl rfl ?_
            refine cvI3 (pc' := 85) kX12_lightAt vX12_lightAt lk_X12_307 ⟨Nat.le_of_ble_eq_true rfl, Nat.le_of_ble_eq_true rfl⟩ tb0 vq12 rfl rfl (s_X12_lightAtZ hK hF _ ⟨by omega, by omega⟩ _ ⟨by omega, by omega, by omega⟩ _ ⟨by omega, by omega, by omega⟩ F (by omega) (by omega)) dX12_baseOf_3.1.1.1.2 (Nat.le_of_ble_eq_true rfl) rfl ?_
            rintro r82 z82 ⟨hz82, p82⟩; subst z82
            refine zW_iadd (pc' := 86) dX12_baseOf_3.1.1.2.1 rfl ?_
            have e82 : r82 = lgt F v9 v8 := by have mx := mir_i (v := v9) (n := κ 0 11) ⟨by omega, by omega⟩; have my := mir_i (v := v8) (n := κ 0 12) ⟨by omega, by omega⟩; have z := p82.2.2; rw [mx, my] at z; exact z
            refine zW_istore (ls' := [_, _, _, _, _, _, _, _, _, _]) (pc' := 88) dX12_baseOf_3.1.1.2.2 (by decide) rfl rfl rfl ?_
            refine zW_iload (pc' := 90) dX12_baseOf_3.1.2.1.1 rfl rfl ?_
            refine zW_iconst (pc' := 91) dX12_baseOf_3.1.2.1.2 rfl ?_
            refine zW_iadd (pc' := 92) dX12_baseOf_3.1.2.2.1 rfl ?_
            refine zW_istore (ls' := [_, _, _, _, _, _, _, _, _, _]) (pc' := 94) dX12_baseOf_3.1.2.2.2 (by decide) rfl rfl rfl ?_
            refine zW_iinc (ls' := [_, _, _, _, _, _, _, _, _, _]) (pc' := 97) dX12_baseOf_3.2.1.1.1 rfl (by decide) rfl rfl rfl ?_
            refine zV_goto 45 dX12_baseOf_3.2.1.1.2 rfl ?_
            exact k45 _ _ _ _ (by omega) (by omega) (by omega) (by omega) (by first | (rw [show (v9 + 1 - (x2 / 2 * 2)).toNat = (v9 - (x2 / 2 * 2) + 1).toNat by omega, sr, gc0, Int.add_assoc, bkT_in (x := v9) (y := v8) ⟨by omega, by omega, by omega, by omega⟩ (by omega) (by omega), e82]) | (rw [show (v9 + 1 - (x2 / 2 * 2)).toNat = (v9 - (x2 / 2 * 2) + 1).toNat by omega, sr, gc0, bkT_out (x := v9) (y := v8) (fun q => by obtain ⟨q1, q2, q3, q4⟩ := q; omega) (by omega) (by omega), Int.add_zero]) | (rw [show ((x2 / 2 * 2) - (x2 / 2 * 2)).toNat = 0 by omega]; show _ = _ + 0; omega)) (by first | (rw [show (v9 + 1 - (x2 / 2 * 2)).toNat = (v9 - (x2 / 2 * 2) + 1).toNat by omega, s1, gc1, Int.add_assoc, bkT_in (x := v9) (y := v8) ⟨by omega, by omega, by omega, by omega⟩ (by omega) (by omega)]) | (rw [show (v9 + 1 - (x2 / 2 * 2)).toNat = (v9 - (x2 / 2 * 2) + 1).toNat by omega, s1, gc1, bkT_out (x := v9) (y := v8) (fun q => by obtain ⟨q1, q2, q3, q4⟩ := q; omega) (by omega) (by omega), Int.add_zero]) | (rw [show ((x2 / 2 * 2) - (x2 / 2 * 2)).toNat = 0 by omega]; show _ = _ + 0; omega)) (by omega) (by omega) (by omega) (by omega) (by omega)
          · refine zV_goto 94 dX12_baseOf_2.2.1.2.2 rfl ?_
            refine zW_iinc (ls' := [_, _, _, _, _, _, _, _, _, _]) (pc' := 97) dX12_baseOf_3.2.1.1.1 rfl (by decide) rfl rfl rfl ?_
            refine zV_goto 45 dX12_baseOf_3.2.1.1.2 rfl ?_
            exact k45 _ _ _ _ (by omega) (by omega) (by omega) (by omega) (by first | (rw [show (v9 + 1 - (x2 / 2 * 2)).toNat = (v9 - (x2 / 2 * 2) + 1).toNat by omega, sr, gc0, Int.add_assoc, bkT_in (x := v9) (y := v8) ⟨by omega, by omega, by omega, by omega⟩ (by omega) (by omega), e82]) | (rw [show (v9 + 1 - (x2 / 2 * 2)).toNat = (v9 - (x2 / 2 * 2) + 1).toNat by omega, sr, gc0, bkT_out (x := v9) (y := v8) (fun q => by obtain ⟨q1, q2, q3, q4⟩ := q; omega) (by omega) (by omega), Int.add_zero]) | (rw [show ((x2 / 2 * 2) - (x2 / 2 * 2)).toNat = 0 by omega]; show _ = _ + 0; omega)) (by first | (rw [show (v9 + 1 - (x2 / 2 * 2)).toNat = (v9 - (x2 / 2 * 2) + 1).toNat by omega, s1, gc1, Int.add_assoc, bkT_in (x := v9) (y := v8) ⟨by omega, by omega, by omega, by omega⟩ (by omega) (by omega)]) | (rw [show (v9 + 1 - (x2 / 2 * 2)).toNat = (v9 - (x2 / 2 * 2) + 1).toNat by omega, s1, gc1, bkT_out (x := v9) (y := v8) (fun q => by obtain ⟨q1, q2, q3, q4⟩ := q; omega) (by omega) (by omega), Int.add_zero]) | (rw [show ((x2 / 2 * 2) - (x2 / 2 * 2)).toNat = 0 by omega]; show _ = _ + 0; omega)) (by omega) (by omega) (by omega) (by omega) (by omega)
  refine zM_of [some (.inr (.inr 0)), some (.inl x1), some (.inl x2), some (.inl x3), some (.inl x4), none, none, none, none, none] 5 rfl rfl (Nat.le_of_ble_eq_true rfl) rfl ?_
  refine zW_iconst (pc' := 1) dX12_baseOf_0.1.1.1.1 rfl ?_
  refine zW_iload (pc' := 3) dX12_baseOf_0.1.1.1.2 rfl rfl ?_
  refine zW_shl1 (w := 2) (pc' := 4) (by omega) dX12_baseOf_0.1.1.2.1 rfl ?_
  refine zW_istore (ls' := [_, _, _, _, _, _, _, _, _, _]) (pc' := 6) dX12_baseOf_0.1.1.2.2 (by decide) rfl rfl rfl ?_
  refine zW_iconst (pc' := 7) dX12_baseOf_0.1.2.1.1 rfl ?_
  refine zW_istore (ls' := [_, _, _, _, _, _, _, _, _, _]) (pc' := 9) dX12_baseOf_0.1.2.1.2 (by decide) rfl rfl rfl ?_
  refine zW_iconst (pc' := 10) dX12_baseOf_0.1.2.2.1 rfl ?_
  refine zW_istore (ls' := [_, _, _, _, _, _, _, _, _, _]) (pc' := 12) dX12_baseOf_0.1.2.2.2 (by decide) rfl rfl rfl ?_
  refine zW_iload_n (pc' := 13) dX12_baseOf_0.2.1.1.1 rfl rfl ?_
  refine zW_iload (pc' := 15) dX12_baseOf_0.2.1.1.2 rfl rfl ?_
  refine zW_idiv (pc' := 16) (by omega) (by omega) dX12_baseOf_0.2.1.2.1 rfl ?_
  refine zW_iload (pc' := 18) dX12_baseOf_0.2.1.2.2 rfl rfl ?_
  refine zW_imul (pc' := 19) dX12_baseOf_0.2.2.1.1 rfl ?_
  refine zW_istore (ls' := [_, _, _, _, _, _, _, _, _, _]) (pc' := 21) dX12_baseOf_0.2.2.1.2 (by decide) rfl rfl rfl ?_
  exact (main 10000000000000000000000000000000000000000).1 _ _ _ (by omega) (by omega) (by omega) (by first | (rw [show (v9 - (x2 / 2 * 2)).toNat = (2 : Int).toNat by omega] at gc0; rw [show (v8 + 1 - (x3 / 2 * 2)).toNat = (v8 - (x3 / 2 * 2) + 1).toNat by omega, ss]; exact gc0) | (rw [show ((x3 / 2 * 2) - (x3 / 2 * 2)).toNat = 0 by omega]; rfl)) (by first | (rw [show (v9 - (x2 / 2 * 2)).toNat = (2 : Int).toNat by omega] at gc1; rw [show (v8 + 1 - (x3 / 2 * 2)).toNat = (v8 - (x3 / 2 * 2) + 1).toNat by omega, s2]; exact gc1) | (rw [show ((x3 / 2 * 2) - (x3 / 2 * 2)).toNat = 0 by omega]; rfl)) (by omega) (by omega) (by omega) (by omega) (by omega)

abbrev q_X12_baseOfZ2 (κ h : Hp) (x1 : Int) (x2 : Int) (x3 : Int) (x4 : Int) (F : P3) : Int → Hp → Prop := fun r h' => h' = h ∧ ((0 ≤ r) ∧ (r ≤ 1048320) ∧ (r = bsF (κ 0 11) (κ 0 12) F 4 x2 x3))
set_option maxHeartbeats 4000000 in
set_option maxRecDepth 20000 in
theorem s_X12_baseOfZ2 {G : Ga} {b : Bd} {κ h : Hp} (hK : KR κ) (hF : Fr b κ h) (x1 : Int) (hx1 : 0 ≤ x1 ∧ x1 ≤ 14) (x2 : Int) (hx2 : 0 ≤ x2 ∧ x2 ≤ 15 ∧ x2 - κ 0 11 ≤ -1) (x3 : Int) (hx3 : 0 ≤ x3 ∧ x3 ≤ 15 ∧ x3 - κ 0 12 ≤ -1) (x4 : Int) (hx4 : 2 ≤ x4 ∧ x4 ≤ 2) (F : P3) (hF3 : Fu17 κ (h 17) x1 F) (hb3 : FB3 (κ 0 11) (κ 0 12) F) : zM G mX12_baseOf yX12_baseOf [.inr (.inr 0), .inl x1, .inl x2, .inl x3, .inl x4] h (q_X12_baseOfZ2 κ h x1 x2 x3 x4 F) := by
  have f_0_11 := KRw hK
  have f_0_12 := KRh hK
  have main : ∀ N : Nat, (∀ (v6 v7 v8 : Int) , (0 ≤ v6 ∧ v6 ≤ 1048320) → (0 ≤ v7 ∧ v7 ≤ 256) → (0 ≤ v8 ∧ v8 ≤ 16) → (v6 = sumS (bkT (κ 0 11) (κ 0 12) (lgt F) (x2 / 4 * 4) (x3 / 4 * 4)) (4 : Int).toNat (v8 - (x3 / 4 * 4)).toNat) → (v7 = sumS (bkT (κ 0 11) (κ 0 12) (fun _ _ => 1) (x2 / 4 * 4) (x3 / 4 * 4)) (4 : Int).toNat (v8 - (x3 / 4 * 4)).toNat) → ((x3 / 4 * 4) ≤ v8 ∧ v8 ≤ (x3 / 4 * 4) + 4) → (v6 ≤ 65520 * (v8 - (x3 / 4 * 4))) → (x3 < v8 → 1 ≤ v7) → (v7 ≤ 16 * (v8 - (x3 / 4 * 4))) → 28355184 + 30888 * (16 - v8) + 30294 < (N : Int) → zV G mX12_baseOf (q_X12_baseOfZ2 κ h x1 x2 x3 x4 F) 21 [some (.inr (.inr 0)), some (.inl x1), some (.inl x2), some (.inl x3), some (.inl x4), some (.inl 4), some (.inl v6), some (.inl v7), some (.inl v8), none] [] h) ∧ (∀ (v6 v7 v8 v9 : Int) , (0 ≤ v6 ∧ v6 ≤ 1048320) → (0 ≤ v7 ∧ v7 ≤ 256) → (0 ≤ v8 ∧ v8 ≤ 15) → (0 ≤ v9 ∧ v9 ≤ 16) → (v6 = sumS (bkT (κ 0 11) (κ 0 12) (lgt F) (x2 / 4 * 4) (x3 / 4 * 4)) (4 : Int).toNat (v8 - (x3 / 4 * 4)).toNat + sumR (bkT (κ 0 11) (κ 0 12) (lgt F) (x2 / 4 * 4) (x3 / 4 * 4)) (v8 - (x3 / 4 * 4)) (v9 - (x2 / 4 * 4)).toNat) → (v7 = sumS (bkT (κ 0 11) (κ 0 12) (fun _ _ => 1) (x2 / 4 * 4) (x3 / 4 * 4)) (4 : Int).toNat (v8 - (x3 / 4 * 4)).toNat + sumR (bkT (κ 0 11) (κ 0 12) (fun _ _ => 1) (x2 / 4 * 4) (x3 / 4 * 4)) (v8 - (x3 / 4 * 4)) (v9 - (x2 / 4 * 4)).toNat) → ((x3 / 4 * 4) ≤ v8 ∧ v8 < (x3 / 4 * 4) + 4 ∧ (x2 / 4 * 4) ≤ v9 ∧ v9 ≤ (x2 / 4 * 4) + 4) → (v6 ≤ 65520 * (v8 - (x3 / 4 * 4)) + 4095 * (v9 - (x2 / 4 * 4))) → ((x3 < v8 → 1 ≤ v7) ∧ (x3 = v8 ∧ x2 < v9 → 1 ≤ v7)) → (v7 ≤ 16 * (v8 - (x3 / 4 * 4)) + (v9 - (x2 / 4 * 4))) → 28355184 + 30888 * (16 - v8) + 19008 + 33 * (16 - v9) + 32 < (N : Int) → zV G mX12_baseOf (q_X12_baseOfZ2 κ h x1 x2 x3 x4 F) 45 [some (.inr (.inr 0)), some (.inl x1), some (.inl x2), some (.inl x3), some (.inl x4), some (.inl 4), some (.inl v6), some (.inl v7), some (.inl v8), some (.inl v9)] [] h) := by
    intro N
    induction N with
    | zero =>
      refine ⟨?_, ?_⟩
      · intro v6 v7 v8 g0 g1 g2 gc0 gc1 gc2 gc3 gc4 gc5 hm
        exfalso; omega
      · intro v6 v7 v8 v9 g0 g1 g2 g3 gc0 gc1 gc2 gc3 gc4 gc5 hm
        exfalso; omega
    | succ N ih =>
      obtain ⟨k21, k45⟩ := ih
      refine ⟨?_, ?_⟩
      · intro v6 v7 v8 g0 g1 g2 gc0 gc1 gc2 gc3 gc4 gc5 hm
        refine zW_iload (pc' := 23) dX12_baseOf_0.2.2.2.1 rfl rfl ?_
        refine zW_iload_n (pc' := 24) dX12_baseOf_0.2.2.2.2 rfl rfl ?_
        refine zW_iload (pc' := 26) dX12_baseOf_1.1.1.1.1 rfl rfl ?_
        refine zW_idiv (pc' := 27) (by omega) (by omega) dX12_baseOf_1.1.1.1.2 rfl ?_
        refine zW_iload (pc' := 29) dX12_baseOf_1.1.1.2.1 rfl rfl ?_
        refine zW_imul (pc' := 30) dX12_baseOf_1.1.1.2.2 rfl ?_
        refine zW_iload (pc' := 32) dX12_baseOf_1.1.2.1.1 rfl rfl ?_
        refine zW_iadd (pc' := 33) dX12_baseOf_1.1.2.1.2 rfl ?_
        refine zV_cm_ge (tgt := 106) (pc' := 36) dX12_baseOf_1.1.2.2.1 rfl rfl ⟨by omega, by omega⟩ ⟨by omega, by omega⟩ (fun c33 => ?_) (fun c33 => ?_)
        · refine zW_iload (pc' := 108) dX12_baseOf_3.2.2.1.1 rfl rfl ?_
          refine zW_iload (pc' := 110) dX12_baseOf_3.2.2.1.2 rfl rfl ?_
          refine zW_idivX (pc' := 111) ⟨by omega, by omega⟩ ⟨by omega, by omega⟩ dX12_baseOf_3.2.2.2.1 rfl (fun v110 t110 e110 => ?_)
          unfold rng at e110
          have hq := tdb2 (a := v6) (d := v7) (by omega) (by omega)
          rw [← t110] at hq
          exact zV_iret rfl dX12_baseOf_3.2.2.2.2 ⟨rfl, (by refine ⟨by omega, by omega, ?_⟩; unfold bsF; rw [t110, Int.tdiv_eq_ediv_of_nonneg (by omega), gc0, gc1, show (v8 - (x3 / 4 * 4)).toNat = (4 : Int).toNat by omega])⟩
        · refine zW_iload_n (pc' := 37) dX12_baseOf_1.1.2.2.2 rfl rfl ?_
          refine zW_iload (pc' := 39) dX12_baseOf_1.2.1.1.1 rfl rfl ?_
          refine zW_idiv (pc' := 40) (by omega) (by omega) dX12_baseOf_1.2.1.1.2 rfl ?_
          refine zW_iload (pc' := 42) dX12_baseOf_1.2.1.2.1 rfl rfl ?_
          refine zW_imul (pc' := 43) dX12_baseOf_1.2.1.2.2 rfl ?_
          refine zW_istore (ls' := [_, _, _, _, _, _, _, _, _, _]) (pc' := 45) dX12_baseOf_1.2.2.1.1 (by decide) rfl rfl rfl ?_
          exact k45 _ _ _ _ (by omega) (by omega) (by omega) (by omega) (by first | (rw [show (v9 + 1 - (x2 / 4 * 4)).toNat = (v9 - (x2 / 4 * 4) + 1).toNat by omega, sr, gc0, Int.add_assoc, bkT_in (x := v9) (y := v8) ⟨by omega, by omega, by omega, by omega⟩ (by omega) (by omega), e82]) | (rw [show (v9 + 1 - (x2 / 4 * 4)).toNat = (v9 - (x2 / 4 * 4) + 1).toNat by omega, sr, gc0, bkT_out (x := v9) (y := v8) (fun q => by obtain ⟨q1, q2, q3, q4⟩ := q; omega) (by omega) (by omega), Int.add_zero]) | (rw [show ((x2 / 4 * 4) - (x2 / 4 * 4)).toNat = 0 by omega]; show _ = _ + 0; omega)) (by first | (rw [show (v9 + 1 - (x2 / 4 * 4)).toNat = (v9 - (x2 / 4 * 4) + 1).toNat by omega, s1, gc1, Int.add_assoc, bkT_in (x := v9) (y := v8) ⟨by omega, by omega, by omega, by omega⟩ (by omega) (by omega)]) | (rw [show (v9 + 1 - (x2 / 4 * 4)).toNat = (v9 - (x2 / 4 * 4) + 1).toNat by omega, s1, gc1, bkT_out (x := v9) (y := v8) (fun q => by obtain ⟨q1, q2, q3, q4⟩ := q; omega) (by omega) (by omega), Int.add_zero]) | (rw [show ((x2 / 4 * 4) - (x2 / 4 * 4)).toNat = 0 by omega]; show _ = _ + 0; omega)) (by omega) (by omega) (by omega) (by omega) (by omega)
      · intro v6 v7 v8 v9 g0 g1 g2 g3 gc0 gc1 gc2 gc3 gc4 gc5 hm
        refine zW_iload (pc' := 47) dX12_baseOf_1.2.2.1.2 rfl rfl ?_
        refine zW_iload_n (pc' := 48) dX12_baseOf_1.2.2.2.1 rfl rfl ?_
        refine zW_iload (pc' := 50) dX12_baseOf_1.2.2.2.2 rfl rfl ?_
        refine zW_idiv (pc' := 51) (by omega) (by omega) dX12_baseOf_2.1.1.1.1 rfl ?_
        refine zW_iload (pc' := 53) dX12_baseOf_2.1.1.1.2 rfl rfl ?_
        refine zW_imul (pc' := 54) dX12_baseOf_2.1.1.2.1 rfl ?_
        refine zW_iload (pc' := 56) dX12_baseOf_2.1.1.2.2 rfl rfl ?_
        refine zW_iadd (pc' := 57) dX12_baseOf_2.1.2.1.1 rfl ?_
        refine zV_cm_ge (tgt := 100) (pc' := 60) dX12_baseOf_2.1.2.1.2 rfl rfl ⟨by omega, by omega⟩ ⟨by omega, by omega⟩ (fun c57 => ?_) (fun c57 => ?_)
        · have ss := sumS_s (t := (bkT (κ 0 11) (κ 0 12) (lgt F) (x2 / 4 * 4) (x3 / 4 * 4))) (w := (4 : Int).toNat) (v := v8 - (x3 / 4 * 4)) (by omega)
          have s2 := sumS_s (t := (bkT (κ 0 11) (κ 0 12) (fun _ _ => 1) (x2 / 4 * 4) (x3 / 4 * 4))) (w := (4 : Int).toNat) (v := v8 - (x3 / 4 * 4)) (by omega)
          refine zW_iinc (ls' := [_, _, _, _, _, _, _, _, _, _]) (pc' := 103) dX12_baseOf_3.2.1.2.1 rfl (by decide) rfl rfl rfl ?_
          refine zV_goto 21 dX12_baseOf_3.2.1.2.2 rfl ?_
          refine zV_clr 9 (ls' := [_, _, _, _, _, _, _, _, _, _]) rfl ?_
          exact k21 _ _ _ (by omega) (by omega) (by omega) (by first | (rw [show (v9 - (x2 / 4 * 4)).toNat = (4 : Int).toNat by omega] at gc0; rw [show (v8 + 1 - (x3 / 4 * 4)).toNat = (v8 - (x3 / 4 * 4) + 1).toNat by omega, ss]; exact gc0) | (rw [show ((x3 / 4 * 4) - (x3 / 4 * 4)).toNat = 0 by omega]; rfl)) (by first | (rw [show (v9 - (x2 / 4 * 4)).toNat = (4 : Int).toNat by omega] at gc1; rw [show (v8 + 1 - (x3 / 4 * 4)).toNat = (v8 - (x3 / 4 * 4) + 1).toNat by omega, s2]; exact gc1) | (rw [show ((x3 / 4 * 4) - (x3 / 4 * 4)).toNat = 0 by omega]; rfl)) (by omega) (by omega) (by omega) (by omega) (by omega)
        · have sr := sumR_s (t := (bkT (κ 0 11) (κ 0 12) (lgt F) (x2 / 4 * 4) (x3 / 4 * 4))) (y := v8 - (x3 / 4 * 4)) (v := v9 - (x2 / 4 * 4)) (by omega)
          have s1 := sumR_s (t := (bkT (κ 0 11) (κ 0 12) (fun _ _ => 1) (x2 / 4 * 4) (x3 / 4 * 4))) (y := v8 - (x3 / 4 * 4)) (v := v9 - (x2 / 4 * 4)) (by omega)
          refine zW_aload_n (pc' := 61) dX12_baseOf_2.1.2.2.1 rfl rfl ?_
          refine zW_iload (pc' := 63) dX12_baseOf_2.1.2.2.2 rfl rfl ?_
          refine zW_iload (pc' := 65) dX12_baseOf_2.2.1.1.1 rfl rfl ?_
          refine cvI2 (pc' := 68) kX12_isSquare vX12_isSquare lk_X12_218 ⟨Nat.le_of_ble_eq_true rfl, Nat.le_of_ble_eq_true rfl⟩ tb0 vq12 rfl rfl (s_X12_isSquare hK hF _ ⟨by omega, by omega⟩ _ ⟨by omega, by omega⟩) dX12_baseOf_2.2.1.1.2 (Nat.le_of_ble_eq_true rfl) rfl ?_
          rintro r65 z65 ⟨hz65, p65⟩; subst z65
          refine zV_if_ne (tgt := 74) (pc' := 71) dX12_baseOf_2.2.1.2.1 rfl rfl ⟨by omega, by omega⟩ (fun c68 => ?_) (fun c68 => ?_)
          · refine zW_iload (pc' := 76) dX12_baseOf_2.2.2.1.1 rfl rfl ?_
            refine zW_aload_n (pc' := 77) dX12_baseOf_2.2.2.1.2 rfl rfl ?_
            refine zW_iload_n (pc' := 78) dX12_baseOf_2.2.2.2.1 rfl rfl ?_
            refine zW_iload (pc' := 80) dX12_baseOf_2.2.2.2.2 rfl rfl ?_
            refine zW_iload (pc' := 82) dX12_baseOf_3.1.1.1.1 rfl rfl ?_
            refine cvI3 (pc' := 85) kX12_lightAt vX12_lightAt lk_X12_307 ⟨Nat.le_of_ble_eq_true rfl, Nat.le_of_ble_eq_true rfl⟩ tb0 vq12 rfl rfl (s_X12_lightAtZ hK hF _ ⟨by omega, by omega⟩ _ ⟨by omega, by omega, by omega⟩ _ ⟨by omega, by omega, by omega⟩ F (by omega) (by omega)) dX12_baseOf_3.1.1.1.2 (Nat.le_of_ble_eq_true rfl) rfl ?_
            rintro r82 z82 ⟨hz82, p82⟩; subst z82
            refine zW_iadd (pc' := 86) dX12_baseOf_3.1.1.2.1 rfl ?_
            have e82 : r82 = lgt F v9 v8 := by have mx := mir_i (v := v9) (n := κ 0 11) ⟨by omega, by omega⟩; have my := mir_i (v := v8) (n := κ 0 12) ⟨by omega, by omega⟩; have z := p82.2.2; rw [mx, my] at z; exact z
            refine zW_istore (ls' := [_, _, _, _, _, _, _, _, _, _]) (pc' := 88) dX12_baseOf_3.1.1.2.2 (by decide) rfl rfl rfl ?_
            refine zW_iload (pc' := 90) dX12_baseOf_3.1.2.1.1 rfl rfl ?_
            refine zW_iconst (pc' := 91) dX12_baseOf_3.1.2.1.2 rfl ?_
            refine zW_iadd (pc' := 92) dX12_baseOf_3.1.2.2.1 rfl ?_
            refine zW_istore (ls' := [_, _, _, _, _, _, _, _, _, _]) (pc' := 94) dX12_baseOf_3.1.2.2.2 (by decide) rfl rfl rfl ?_
            refine zW_iinc (ls' := [_, _, _, _, _, _, _, _, _, _]) (pc' := 97) dX12_baseOf_3.2.1.1.1 rfl (by decide) rfl rfl rfl ?_
            refine zV_goto 45 dX12_baseOf_3.2.1.1.2 rfl ?_
            exact k45 _ _ _ _ (by omega) (by omega) (by omega) (by omega) (by first | (rw [show (v9 + 1 - (x2 / 4 * 4)).toNat = (v9 - (x2 / 4 * 4) + 1).toNat by omega, sr, gc0, Int.add_assoc, bkT_in (x := v9) (y := v8) ⟨by omega, by omega, by omega, by omega⟩ (by omega) (by omega), e82]) | (rw [show (v9 + 1 - (x2 / 4 * 4)).toNat = (v9 - (x2 / 4 * 4) + 1).toNat by omega, sr, gc0, bkT_out (x := v9) (y := v8) (fun q => by obtain ⟨q1, q2, q3, q4⟩ := q; omega) (by omega) (by omega), Int.add_zero]) | (rw [show ((x2 / 4 * 4) - (x2 / 4 * 4)).toNat = 0 by omega]; show _ = _ + 0; omega)) (by first | (rw [show (v9 + 1 - (x2 / 4 * 4)).toNat = (v9 - (x2 / 4 * 4) + 1).toNat by omega, s1, gc1, Int.add_assoc, bkT_in (x := v9) (y := v8) ⟨by omega, by omega, by omega, by omega⟩ (by omega) (by omega)]) | (rw [show (v9 + 1 - (x2 / 4 * 4)).toNat = (v9 - (x2 / 4 * 4) + 1).toNat by omega, s1, gc1, bkT_out (x := v9) (y := v8) (fun q => by obtain ⟨q1, q2, q3, q4⟩ := q; omega) (by omega) (by omega), Int.add_zero]) | (rw [show ((x2 / 4 * 4) - (x2 / 4 * 4)).toNat = 0 by omega]; show _ = _ + 0; omega)) (by omega) (by omega) (by omega) (by omega) (by omega)
          · refine zV_goto 94 dX12_baseOf_2.2.1.2.2 rfl ?_
            refine zW_iinc (ls' := [_, _, _, _, _, _, _, _, _, _]) (pc' := 97) dX12_baseOf_3.2.1.1.1 rfl (by decide) rfl rfl rfl ?_
            refine zV_goto 45 dX12_baseOf_3.2.1.1.2 rfl ?_
            exact k45 _ _ _ _ (by omega) (by omega) (by omega) (by omega) (by first | (rw [show (v9 + 1 - (x2 / 4 * 4)).toNat = (v9 - (x2 / 4 * 4) + 1).toNat by omega, sr, gc0, Int.add_assoc, bkT_in (x := v9) (y := v8) ⟨by omega, by omega, by omega, by omega⟩ (by omega) (by omega), e82]) | (rw [show (v9 + 1 - (x2 / 4 * 4)).toNat = (v9 - (x2 / 4 * 4) + 1).toNat by omega, sr, gc0, bkT_out (x := v9) (y := v8) (fun q => by obtain ⟨q1, q2, q3, q4⟩ := q; omega) (by omega) (by omega), Int.add_zero]) | (rw [show ((x2 / 4 * 4) - (x2 / 4 * 4)).toNat = 0 by omega]; show _ = _ + 0; omega)) (by first | (rw [show (v9 + 1 - (x2 / 4 * 4)).toNat = (v9 - (x2 / 4 * 4) + 1).toNat by omega, s1, gc1, Int.add_assoc, bkT_in (x := v9) (y := v8) ⟨by omega, by omega, by omega, by omega⟩ (by omega) (by omega)]) | (rw [show (v9 + 1 - (x2 / 4 * 4)).toNat = (v9 - (x2 / 4 * 4) + 1).toNat by omega, s1, gc1, bkT_out (x := v9) (y := v8) (fun q => by obtain ⟨q1, q2, q3, q4⟩ := q; omega) (by omega) (by omega), Int.add_zero]) | (rw [show ((x2 / 4 * 4) - (x2 / 4 * 4)).toNat = 0 by omega]; show _ = _ + 0; omega)) (by omega) (by omega) (by omega) (by omega) (by omega)
  refine zM_of [some (.inr (.inr 0)), some (.inl x1), some (.inl x2), some (.inl x3), some (.inl x4), none, none, none, none, none] 5 rfl rfl (Nat.le_of_ble_eq_true rfl) rfl ?_
  refine zW_iconst (pc' := 1) dX12_baseOf_0.1.1.1.1 rfl ?_
  refine zW_iload (pc' := 3) dX12_baseOf_0.1.1.1.2 rfl rfl ?_
  refine zW_shl1 (w := 4) (pc' := 4) (by omega) dX12_baseOf_0.1.1.2.1 rfl ?_
  refine zW_istore (ls' := [_, _, _, _, _, _, _, _, _, _]) (pc' := 6) dX12_baseOf_0.1.1.2.2 (by decide) rfl rfl rfl ?_
  refine zW_iconst (pc' := 7) dX12_baseOf_0.1.2.1.1 rfl ?_
  refine zW_istore (ls' := [_, _, _, _, _, _, _, _, _, _]) (pc' := 9) dX12_baseOf_0.1.2.1.2 (by decide) rfl rfl rfl ?_
  refine zW_iconst (pc' := 10) dX12_baseOf_0.1.2.2.1 rfl ?_
  refine zW_istore (ls' := [_, _, _, _, _, _, _, _, _, _]) (pc' := 12) dX12_baseOf_0.1.2.2.2 (by decide) rfl rfl rfl ?_
  refine zW_iload_n (pc' := 13) dX12_baseOf_0.2.1.1.1 rfl rfl ?_
  refine zW_iload (pc' := 15) dX12_baseOf_0.2.1.1.2 rfl rfl ?_
  refine zW_idiv (pc' := 16) (by omega) (by omega) dX12_baseOf_0.2.1.2.1 rfl ?_
  refine zW_iload (pc' := 18) dX12_baseOf_0.2.1.2.2 rfl rfl ?_
  refine zW_imul (pc' := 19) dX12_baseOf_0.2.2.1.1 rfl ?_
  refine zW_istore (ls' := [_, _, _, _, _, _, _, _, _, _]) (pc' := 21) dX12_baseOf_0.2.2.1.2 (by decide) rfl rfl rfl ?_
  exact (main 10000000000000000000000000000000000000000).1 _ _ _ (by omega) (by omega) (by omega) (by first | (rw [show (v9 - (x2 / 4 * 4)).toNat = (4 : Int).toNat by omega] at gc0; rw [show (v8 + 1 - (x3 / 4 * 4)).toNat = (v8 - (x3 / 4 * 4) + 1).toNat by omega, ss]; exact gc0) | (rw [show ((x3 / 4 * 4) - (x3 / 4 * 4)).toNat = 0 by omega]; rfl)) (by first | (rw [show (v9 - (x2 / 4 * 4)).toNat = (4 : Int).toNat by omega] at gc1; rw [show (v8 + 1 - (x3 / 4 * 4)).toNat = (v8 - (x3 / 4 * 4) + 1).toNat by omega, s2]; exact gc1) | (rw [show ((x3 / 4 * 4) - (x3 / 4 * 4)).toNat = 0 by omega]; rfl)) (by omega) (by omega) (by omega) (by omega) (by omega)

abbrev q_X12_baseOfZ3 (κ h : Hp) (x1 : Int) (x2 : Int) (x3 : Int) (x4 : Int) (F : P3) : Int → Hp → Prop := fun r h' => h' = h ∧ ((0 ≤ r) ∧ (r ≤ 1048320) ∧ (r = bsF (κ 0 11) (κ 0 12) F 8 x2 x3))
set_option maxHeartbeats 4000000 in
set_option maxRecDepth 20000 in
theorem s_X12_baseOfZ3 {G : Ga} {b : Bd} {κ h : Hp} (hK : KR κ) (hF : Fr b κ h) (x1 : Int) (hx1 : 0 ≤ x1 ∧ x1 ≤ 14) (x2 : Int) (hx2 : 0 ≤ x2 ∧ x2 ≤ 15 ∧ x2 - κ 0 11 ≤ -1) (x3 : Int) (hx3 : 0 ≤ x3 ∧ x3 ≤ 15 ∧ x3 - κ 0 12 ≤ -1) (x4 : Int) (hx4 : 3 ≤ x4 ∧ x4 ≤ 3) (F : P3) (hF3 : Fu17 κ (h 17) x1 F) (hb3 : FB3 (κ 0 11) (κ 0 12) F) : zM G mX12_baseOf yX12_baseOf [.inr (.inr 0), .inl x1, .inl x2, .inl x3, .inl x4] h (q_X12_baseOfZ3 κ h x1 x2 x3 x4 F) := by
  have f_0_11 := KRw hK
  have f_0_12 := KRh hK
  have main : ∀ N : Nat, (∀ (v6 v7 v8 : Int) , (0 ≤ v6 ∧ v6 ≤ 1048320) → (0 ≤ v7 ∧ v7 ≤ 256) → (0 ≤ v8 ∧ v8 ≤ 16) → (v6 = sumS (bkT (κ 0 11) (κ 0 12) (lgt F) (x2 / 8 * 8) (x3 / 8 * 8)) (8 : Int).toNat (v8 - (x3 / 8 * 8)).toNat) → (v7 = sumS (bkT (κ 0 11) (κ 0 12) (fun _ _ => 1) (x2 / 8 * 8) (x3 / 8 * 8)) (8 : Int).toNat (v8 - (x3 / 8 * 8)).toNat) → ((x3 / 8 * 8) ≤ v8 ∧ v8 ≤ (x3 / 8 * 8) + 8) → (v6 ≤ 65520 * (v8 - (x3 / 8 * 8))) → (x3 < v8 → 1 ≤ v7) → (v7 ≤ 16 * (v8 - (x3 / 8 * 8))) → 28355184 + 30888 * (16 - v8) + 30294 < (N : Int) → zV G mX12_baseOf (q_X12_baseOfZ3 κ h x1 x2 x3 x4 F) 21 [some (.inr (.inr 0)), some (.inl x1), some (.inl x2), some (.inl x3), some (.inl x4), some (.inl 8), some (.inl v6), some (.inl v7), some (.inl v8), none] [] h) ∧ (∀ (v6 v7 v8 v9 : Int) , (0 ≤ v6 ∧ v6 ≤ 1048320) → (0 ≤ v7 ∧ v7 ≤ 256) → (0 ≤ v8 ∧ v8 ≤ 15) → (0 ≤ v9 ∧ v9 ≤ 16) → (v6 = sumS (bkT (κ 0 11) (κ 0 12) (lgt F) (x2 / 8 * 8) (x3 / 8 * 8)) (8 : Int).toNat (v8 - (x3 / 8 * 8)).toNat + sumR (bkT (κ 0 11) (κ 0 12) (lgt F) (x2 / 8 * 8) (x3 / 8 * 8)) (v8 - (x3 / 8 * 8)) (v9 - (x2 / 8 * 8)).toNat) → (v7 = sumS (bkT (κ 0 11) (κ 0 12) (fun _ _ => 1) (x2 / 8 * 8) (x3 / 8 * 8)) (8 : Int).toNat (v8 - (x3 / 8 * 8)).toNat + sumR (bkT (κ 0 11) (κ 0 12) (fun _ _ => 1) (x2 / 8 * 8) (x3 / 8 * 8)) (v8 - (x3 / 8 * 8)) (v9 - (x2 / 8 * 8)).toNat) → ((x3 / 8 * 8) ≤ v8 ∧ v8 < (x3 / 8 * 8) + 8 ∧ (x2 / 8 * 8) ≤ v9 ∧ v9 ≤ (x2 / 8 * 8) + 8) → (v6 ≤ 65520 * (v8 - (x3 / 8 * 8)) + 4095 * (v9 - (x2 / 8 * 8))) → ((x3 < v8 → 1 ≤ v7) ∧ (x3 = v8 ∧ x2 < v9 → 1 ≤ v7)) → (v7 ≤ 16 * (v8 - (x3 / 8 * 8)) + (v9 - (x2 / 8 * 8))) → 28355184 + 30888 * (16 - v8) + 19008 + 33 * (16 - v9) + 32 < (N : Int) → zV G mX12_baseOf (q_X12_baseOfZ3 κ h x1 x2 x3 x4 F) 45 [some (.inr (.inr 0)), some (.inl x1), some (.inl x2), some (.inl x3), some (.inl x4), some (.inl 8), some (.inl v6), some (.inl v7), some (.inl v8), some (.inl v9)] [] h) := by
    intro N
    induction N with
    | zero =>
      refine ⟨?_, ?_⟩
      · intro v6 v7 v8 g0 g1 g2 gc0 gc1 gc2 gc3 gc4 gc5 hm
        exfalso; omega
      · intro v6 v7 v8 v9 g0 g1 g2 g3 gc0 gc1 gc2 gc3 gc4 gc5 hm
        exfalso; omega
    | succ N ih =>
      obtain ⟨k21, k45⟩ := ih
      refine ⟨?_, ?_⟩
      · intro v6 v7 v8 g0 g1 g2 gc0 gc1 gc2 gc3 gc4 gc5 hm
        refine zW_iload (pc' := 23) dX12_baseOf_0.2.2.2.1 rfl rfl ?_
        refine zW_iload_n (pc' := 24) dX12_baseOf_0.2.2.2.2 rfl rfl ?_
        refine zW_iload (pc' := 26) dX12_baseOf_1.1.1.1.1 rfl rfl ?_
        refine zW_idiv (pc' := 27) (by omega) (by omega) dX12_baseOf_1.1.1.1.2 rfl ?_
        refine zW_iload (pc' := 29) dX12_baseOf_1.1.1.2.1 rfl rfl ?_
        refine zW_imul (pc' := 30) dX12_baseOf_1.1.1.2.2 rfl ?_
        refine zW_iload (pc' := 32) dX12_baseOf_1.1.2.1.1 rfl rfl ?_
        refine zW_iadd (pc' := 33) dX12_baseOf_1.1.2.1.2 rfl ?_
        refine zV_cm_ge (tgt := 106) (pc' := 36) dX12_baseOf_1.1.2.2.1 rfl rfl ⟨by omega, by omega⟩ ⟨by omega, by omega⟩ (fun c33 => ?_) (fun c33 => ?_)
        · refine zW_iload (pc' := 108) dX12_baseOf_3.2.2.1.1 rfl rfl ?_
          refine zW_iload (pc' := 110) dX12_baseOf_3.2.2.1.2 rfl rfl ?_
          refine zW_idivX (pc' := 111) ⟨by omega, by omega⟩ ⟨by omega, by omega⟩ dX12_baseOf_3.2.2.2.1 rfl (fun v110 t110 e110 => ?_)
          unfold rng at e110
          have hq := tdb2 (a := v6) (d := v7) (by omega) (by omega)
          rw [← t110] at hq
          exact zV_iret rfl dX12_baseOf_3.2.2.2.2 ⟨rfl, (by refine ⟨by omega, by omega, ?_⟩; unfold bsF; rw [t110, Int.tdiv_eq_ediv_of_nonneg (by omega), gc0, gc1, show (v8 - (x3 / 8 * 8)).toNat = (8 : Int).toNat by omega])⟩
        · refine zW_iload_n (pc' := 37) dX12_baseOf_1.1.2.2.2 rfl rfl ?_
          refine zW_iload (pc' := 39) dX12_baseOf_1.2.1.1.1 rfl rfl ?_
          refine zW_idiv (pc' := 40) (by omega) (by omega) dX12_baseOf_1.2.1.1.2 rfl ?_
          refine zW_iload (pc' := 42) dX12_baseOf_1.2.1.2.1 rfl rfl ?_
          refine zW_imul (pc' := 43) dX12_baseOf_1.2.1.2.2 rfl ?_
          refine zW_istore (ls' := [_, _, _, _, _, _, _, _, _, _]) (pc' := 45) dX12_baseOf_1.2.2.1.1 (by decide) rfl rfl rfl ?_
          exact k45 _ _ _ _ (by omega) (by omega) (by omega) (by omega) (by first | (rw [show (v9 + 1 - (x2 / 8 * 8)).toNat = (v9 - (x2 / 8 * 8) + 1).toNat by omega, sr, gc0, Int.add_assoc, bkT_in (x := v9) (y := v8) ⟨by omega, by omega, by omega, by omega⟩ (by omega) (by omega), e82]) | (rw [show (v9 + 1 - (x2 / 8 * 8)).toNat = (v9 - (x2 / 8 * 8) + 1).toNat by omega, sr, gc0, bkT_out (x := v9) (y := v8) (fun q => by obtain ⟨q1, q2, q3, q4⟩ := q; omega) (by omega) (by omega), Int.add_zero]) | (rw [show ((x2 / 8 * 8) - (x2 / 8 * 8)).toNat = 0 by omega]; show _ = _ + 0; omega)) (by first | (rw [show (v9 + 1 - (x2 / 8 * 8)).toNat = (v9 - (x2 / 8 * 8) + 1).toNat by omega, s1, gc1, Int.add_assoc, bkT_in (x := v9) (y := v8) ⟨by omega, by omega, by omega, by omega⟩ (by omega) (by omega)]) | (rw [show (v9 + 1 - (x2 / 8 * 8)).toNat = (v9 - (x2 / 8 * 8) + 1).toNat by omega, s1, gc1, bkT_out (x := v9) (y := v8) (fun q => by obtain ⟨q1, q2, q3, q4⟩ := q; omega) (by omega) (by omega), Int.add_zero]) | (rw [show ((x2 / 8 * 8) - (x2 / 8 * 8)).toNat = 0 by omega]; show _ = _ + 0; omega)) (by omega) (by omega) (by omega) (by omega) (by omega)
      · intro v6 v7 v8 v9 g0 g1 g2 g3 gc0 gc1 gc2 gc3 gc4 gc5 hm
        refine zW_iload (pc' := 47) dX12_baseOf_1.2.2.1.2 rfl rfl ?_
        refine zW_iload_n (pc' := 48) dX12_baseOf_1.2.2.2.1 rfl rfl ?_
        refine zW_iload (pc' := 50) dX12_baseOf_1.2.2.2.2 rfl rfl ?_
        refine zW_idiv (pc' := 51) (by omega) (by omega) dX12_baseOf_2.1.1.1.1 rfl ?_
        refine zW_iload (pc' := 53) dX12_baseOf_2.1.1.1.2 rfl rfl ?_
        refine zW_imul (pc' := 54) dX12_baseOf_2.1.1.2.1 rfl ?_
        refine zW_iload (pc' := 56) dX12_baseOf_2.1.1.2.2 rfl rfl ?_
        refine zW_iadd (pc' := 57) dX12_baseOf_2.1.2.1.1 rfl ?_
        refine zV_cm_ge (tgt := 100) (pc' := 60) dX12_baseOf_2.1.2.1.2 rfl rfl ⟨by omega, by omega⟩ ⟨by omega, by omega⟩ (fun c57 => ?_) (fun c57 => ?_)
        · have ss := sumS_s (t := (bkT (κ 0 11) (κ 0 12) (lgt F) (x2 / 8 * 8) (x3 / 8 * 8))) (w := (8 : Int).toNat) (v := v8 - (x3 / 8 * 8)) (by omega)
          have s2 := sumS_s (t := (bkT (κ 0 11) (κ 0 12) (fun _ _ => 1) (x2 / 8 * 8) (x3 / 8 * 8))) (w := (8 : Int).toNat) (v := v8 - (x3 / 8 * 8)) (by omega)
          refine zW_iinc (ls' := [_, _, _, _, _, _, _, _, _, _]) (pc' := 103) dX12_baseOf_3.2.1.2.1 rfl (by decide) rfl rfl rfl ?_
          refine zV_goto 21 dX12_baseOf_3.2.1.2.2 rfl ?_
          refine zV_clr 9 (ls' := [_, _, _, _, _, _, _, _, _, _]) rfl ?_
          exact k21 _ _ _ (by omega) (by omega) (by omega) (by first | (rw [show (v9 - (x2 / 8 * 8)).toNat = (8 : Int).toNat by omega] at gc0; rw [show (v8 + 1 - (x3 / 8 * 8)).toNat = (v8 - (x3 / 8 * 8) + 1).toNat by omega, ss]; exact gc0) | (rw [show ((x3 / 8 * 8) - (x3 / 8 * 8)).toNat = 0 by omega]; rfl)) (by first | (rw [show (v9 - (x2 / 8 * 8)).toNat = (8 : Int).toNat by omega] at gc1; rw [show (v8 + 1 - (x3 / 8 * 8)).toNat = (v8 - (x3 / 8 * 8) + 1).toNat by omega, s2]; exact gc1) | (rw [show ((x3 / 8 * 8) - (x3 / 8 * 8)).toNat = 0 by omega]; rfl)) (by omega) (by omega) (by omega) (by omega) (by omega)
        · have sr := sumR_s (t := (bkT (κ 0 11) (κ 0 12) (lgt F) (x2 / 8 * 8) (x3 / 8 * 8))) (y := v8 - (x3 / 8 * 8)) (v := v9 - (x2 / 8 * 8)) (by omega)
          have s1 := sumR_s (t := (bkT (κ 0 11) (κ 0 12) (fun _ _ => 1) (x2 / 8 * 8) (x3 / 8 * 8))) (y := v8 - (x3 / 8 * 8)) (v := v9 - (x2 / 8 * 8)) (by omega)
          refine zW_aload_n (pc' := 61) dX12_baseOf_2.1.2.2.1 rfl rfl ?_
          refine zW_iload (pc' := 63) dX12_baseOf_2.1.2.2.2 rfl rfl ?_
          refine zW_iload (pc' := 65) dX12_baseOf_2.2.1.1.1 rfl rfl ?_
          refine cvI2 (pc' := 68) kX12_isSquare vX12_isSquare lk_X12_218 ⟨Nat.le_of_ble_eq_true rfl, Nat.le_of_ble_eq_true rfl⟩ tb0 vq12 rfl rfl (s_X12_isSquare hK hF _ ⟨by omega, by omega⟩ _ ⟨by omega, by omega⟩) dX12_baseOf_2.2.1.1.2 (Nat.le_of_ble_eq_true rfl) rfl ?_
          rintro r65 z65 ⟨hz65, p65⟩; subst z65
          refine zV_if_ne (tgt := 74) (pc' := 71) dX12_baseOf_2.2.1.2.1 rfl rfl ⟨by omega, by omega⟩ (fun c68 => ?_) (fun c68 => ?_)
          · refine zW_iload (pc' := 76) dX12_baseOf_2.2.2.1.1 rfl rfl ?_
            refine zW_aload_n (pc' := 77) dX12_baseOf_2.2.2.1.2 rfl rfl ?_
            refine zW_iload_n (pc' := 78) dX12_baseOf_2.2.2.2.1 rfl rfl ?_
            refine zW_iload (pc' := 80) dX12_baseOf_2.2.2.2.2 rfl rfl ?_
            refine zW_iload (pc' := 82) dX12_baseOf_3.1.1.1.1 rfl rfl ?_
            refine cvI3 (pc' := 85) kX12_lightAt vX12_lightAt lk_X12_307 ⟨Nat.le_of_ble_eq_true rfl, Nat.le_of_ble_eq_true rfl⟩ tb0 vq12 rfl rfl (s_X12_lightAtZ hK hF _ ⟨by omega, by omega⟩ _ ⟨by omega, by omega, by omega⟩ _ ⟨by omega, by omega, by omega⟩ F (by omega) (by omega)) dX12_baseOf_3.1.1.1.2 (Nat.le_of_ble_eq_true rfl) rfl ?_
            rintro r82 z82 ⟨hz82, p82⟩; subst z82
            refine zW_iadd (pc' := 86) dX12_baseOf_3.1.1.2.1 rfl ?_
            have e82 : r82 = lgt F v9 v8 := by have mx := mir_i (v := v9) (n := κ 0 11) ⟨by omega, by omega⟩; have my := mir_i (v := v8) (n := κ 0 12) ⟨by omega, by omega⟩; have z := p82.2.2; rw [mx, my] at z; exact z
            refine zW_istore (ls' := [_, _, _, _, _, _, _, _, _, _]) (pc' := 88) dX12_baseOf_3.1.1.2.2 (by decide) rfl rfl rfl ?_
            refine zW_iload (pc' := 90) dX12_baseOf_3.1.2.1.1 rfl rfl ?_
            refine zW_iconst (pc' := 91) dX12_baseOf_3.1.2.1.2 rfl ?_
            refine zW_iadd (pc' := 92) dX12_baseOf_3.1.2.2.1 rfl ?_
            refine zW_istore (ls' := [_, _, _, _, _, _, _, _, _, _]) (pc' := 94) dX12_baseOf_3.1.2.2.2 (by decide) rfl rfl rfl ?_
            refine zW_iinc (ls' := [_, _, _, _, _, _, _, _, _, _]) (pc' := 97) dX12_baseOf_3.2.1.1.1 rfl (by decide) rfl rfl rfl ?_
            refine zV_goto 45 dX12_baseOf_3.2.1.1.2 rfl ?_
            exact k45 _ _ _ _ (by omega) (by omega) (by omega) (by omega) (by first | (rw [show (v9 + 1 - (x2 / 8 * 8)).toNat = (v9 - (x2 / 8 * 8) + 1).toNat by omega, sr, gc0, Int.add_assoc, bkT_in (x := v9) (y := v8) ⟨by omega, by omega, by omega, by omega⟩ (by omega) (by omega), e82]) | (rw [show (v9 + 1 - (x2 / 8 * 8)).toNat = (v9 - (x2 / 8 * 8) + 1).toNat by omega, sr, gc0, bkT_out (x := v9) (y := v8) (fun q => by obtain ⟨q1, q2, q3, q4⟩ := q; omega) (by omega) (by omega), Int.add_zero]) | (rw [show ((x2 / 8 * 8) - (x2 / 8 * 8)).toNat = 0 by omega]; show _ = _ + 0; omega)) (by first | (rw [show (v9 + 1 - (x2 / 8 * 8)).toNat = (v9 - (x2 / 8 * 8) + 1).toNat by omega, s1, gc1, Int.add_assoc, bkT_in (x := v9) (y := v8) ⟨by omega, by omega, by omega, by omega⟩ (by omega) (by omega)]) | (rw [show (v9 + 1 - (x2 / 8 * 8)).toNat = (v9 - (x2 / 8 * 8) + 1).toNat by omega, s1, gc1, bkT_out (x := v9) (y := v8) (fun q => by obtain ⟨q1, q2, q3, q4⟩ := q; omega) (by omega) (by omega), Int.add_zero]) | (rw [show ((x2 / 8 * 8) - (x2 / 8 * 8)).toNat = 0 by omega]; show _ = _ + 0; omega)) (by omega) (by omega) (by omega) (by omega) (by omega)
          · refine zV_goto 94 dX12_baseOf_2.2.1.2.2 rfl ?_
            refine zW_iinc (ls' := [_, _, _, _, _, _, _, _, _, _]) (pc' := 97) dX12_baseOf_3.2.1.1.1 rfl (by decide) rfl rfl rfl ?_
            refine zV_goto 45 dX12_baseOf_3.2.1.1.2 rfl ?_
            exact k45 _ _ _ _ (by omega) (by omega) (by omega) (by omega) (by first | (rw [show (v9 + 1 - (x2 / 8 * 8)).toNat = (v9 - (x2 / 8 * 8) + 1).toNat by omega, sr, gc0, Int.add_assoc, bkT_in (x := v9) (y := v8) ⟨by omega, by omega, by omega, by omega⟩ (by omega) (by omega), e82]) | (rw [show (v9 + 1 - (x2 / 8 * 8)).toNat = (v9 - (x2 / 8 * 8) + 1).toNat by omega, sr, gc0, bkT_out (x := v9) (y := v8) (fun q => by obtain ⟨q1, q2, q3, q4⟩ := q; omega) (by omega) (by omega), Int.add_zero]) | (rw [show ((x2 / 8 * 8) - (x2 / 8 * 8)).toNat = 0 by omega]; show _ = _ + 0; omega)) (by first | (rw [show (v9 + 1 - (x2 / 8 * 8)).toNat = (v9 - (x2 / 8 * 8) + 1).toNat by omega, s1, gc1, Int.add_assoc, bkT_in (x := v9) (y := v8) ⟨by omega, by omega, by omega, by omega⟩ (by omega) (by omega)]) | (rw [show (v9 + 1 - (x2 / 8 * 8)).toNat = (v9 - (x2 / 8 * 8) + 1).toNat by omega, s1, gc1, bkT_out (x := v9) (y := v8) (fun q => by obtain ⟨q1, q2, q3, q4⟩ := q; omega) (by omega) (by omega), Int.add_zero]) | (rw [show ((x2 / 8 * 8) - (x2 / 8 * 8)).toNat = 0 by omega]; show _ = _ + 0; omega)) (by omega) (by omega) (by omega) (by omega) (by omega)
  refine zM_of [some (.inr (.inr 0)), some (.inl x1), some (.inl x2), some (.inl x3), some (.inl x4), none, none, none, none, none] 5 rfl rfl (Nat.le_of_ble_eq_true rfl) rfl ?_
  refine zW_iconst (pc' := 1) dX12_baseOf_0.1.1.1.1 rfl ?_
  refine zW_iload (pc' := 3) dX12_baseOf_0.1.1.1.2 rfl rfl ?_
  refine zW_shl1 (w := 8) (pc' := 4) (by omega) dX12_baseOf_0.1.1.2.1 rfl ?_
  refine zW_istore (ls' := [_, _, _, _, _, _, _, _, _, _]) (pc' := 6) dX12_baseOf_0.1.1.2.2 (by decide) rfl rfl rfl ?_
  refine zW_iconst (pc' := 7) dX12_baseOf_0.1.2.1.1 rfl ?_
  refine zW_istore (ls' := [_, _, _, _, _, _, _, _, _, _]) (pc' := 9) dX12_baseOf_0.1.2.1.2 (by decide) rfl rfl rfl ?_
  refine zW_iconst (pc' := 10) dX12_baseOf_0.1.2.2.1 rfl ?_
  refine zW_istore (ls' := [_, _, _, _, _, _, _, _, _, _]) (pc' := 12) dX12_baseOf_0.1.2.2.2 (by decide) rfl rfl rfl ?_
  refine zW_iload_n (pc' := 13) dX12_baseOf_0.2.1.1.1 rfl rfl ?_
  refine zW_iload (pc' := 15) dX12_baseOf_0.2.1.1.2 rfl rfl ?_
  refine zW_idiv (pc' := 16) (by omega) (by omega) dX12_baseOf_0.2.1.2.1 rfl ?_
  refine zW_iload (pc' := 18) dX12_baseOf_0.2.1.2.2 rfl rfl ?_
  refine zW_imul (pc' := 19) dX12_baseOf_0.2.2.1.1 rfl ?_
  refine zW_istore (ls' := [_, _, _, _, _, _, _, _, _, _]) (pc' := 21) dX12_baseOf_0.2.2.1.2 (by decide) rfl rfl rfl ?_
  exact (main 10000000000000000000000000000000000000000).1 _ _ _ (by omega) (by omega) (by omega) (by first | (rw [show (v9 - (x2 / 8 * 8)).toNat = (8 : Int).toNat by omega] at gc0; rw [show (v8 + 1 - (x3 / 8 * 8)).toNat = (v8 - (x3 / 8 * 8) + 1).toNat by omega, ss]; exact gc0) | (rw [show ((x3 / 8 * 8) - (x3 / 8 * 8)).toNat = 0 by omega]; rfl)) (by first | (rw [show (v9 - (x2 / 8 * 8)).toNat = (8 : Int).toNat by omega] at gc1; rw [show (v8 + 1 - (x3 / 8 * 8)).toNat = (v8 - (x3 / 8 * 8) + 1).toNat by omega, s2]; exact gc1) | (rw [show ((x3 / 8 * 8) - (x3 / 8 * 8)).toNat = 0 by omega]; rfl)) (by omega) (by omega) (by omega) (by omega) (by omega)

abbrev q_X12_baseOfZ4 (κ h : Hp) (x1 : Int) (x2 : Int) (x3 : Int) (x4 : Int) (F : P3) : Int → Hp → Prop := fun r h' => h' = h ∧ ((0 ≤ r) ∧ (r ≤ 1048320) ∧ (r = bsF (κ 0 11) (κ 0 12) F 16 x2 x3))
set_option maxHeartbeats 4000000 in
set_option maxRecDepth 20000 in
theorem s_X12_baseOfZ4 {G : Ga} {b : Bd} {κ h : Hp} (hK : KR κ) (hF : Fr b κ h) (x1 : Int) (hx1 : 0 ≤ x1 ∧ x1 ≤ 14) (x2 : Int) (hx2 : 0 ≤ x2 ∧ x2 ≤ 15 ∧ x2 - κ 0 11 ≤ -1) (x3 : Int) (hx3 : 0 ≤ x3 ∧ x3 ≤ 15 ∧ x3 - κ 0 12 ≤ -1) (x4 : Int) (hx4 : 4 ≤ x4 ∧ x4 ≤ 4) (F : P3) (hF3 : Fu17 κ (h 17) x1 F) (hb3 : FB3 (κ 0 11) (κ 0 12) F) : zM G mX12_baseOf yX12_baseOf [.inr (.inr 0), .inl x1, .inl x2, .inl x3, .inl x4] h (q_X12_baseOfZ4 κ h x1 x2 x3 x4 F) := by
  have f_0_11 := KRw hK
  have f_0_12 := KRh hK
  have main : ∀ N : Nat, (∀ (v6 v7 v8 : Int) , (0 ≤ v6 ∧ v6 ≤ 1048320) → (0 ≤ v7 ∧ v7 ≤ 256) → (0 ≤ v8 ∧ v8 ≤ 16) → (v6 = sumS (bkT (κ 0 11) (κ 0 12) (lgt F) (x2 / 16 * 16) (x3 / 16 * 16)) (16 : Int).toNat (v8 - (x3 / 16 * 16)).toNat) → (v7 = sumS (bkT (κ 0 11) (κ 0 12) (fun _ _ => 1) (x2 / 16 * 16) (x3 / 16 * 16)) (16 : Int).toNat (v8 - (x3 / 16 * 16)).toNat) → ((x3 / 16 * 16) ≤ v8 ∧ v8 ≤ (x3 / 16 * 16) + 16) → (v6 ≤ 65520 * (v8 - (x3 / 16 * 16))) → (x3 < v8 → 1 ≤ v7) → (v7 ≤ 16 * (v8 - (x3 / 16 * 16))) → 28355184 + 30888 * (16 - v8) + 30294 < (N : Int) → zV G mX12_baseOf (q_X12_baseOfZ4 κ h x1 x2 x3 x4 F) 21 [some (.inr (.inr 0)), some (.inl x1), some (.inl x2), some (.inl x3), some (.inl x4), some (.inl 16), some (.inl v6), some (.inl v7), some (.inl v8), none] [] h) ∧ (∀ (v6 v7 v8 v9 : Int) , (0 ≤ v6 ∧ v6 ≤ 1048320) → (0 ≤ v7 ∧ v7 ≤ 256) → (0 ≤ v8 ∧ v8 ≤ 15) → (0 ≤ v9 ∧ v9 ≤ 16) → (v6 = sumS (bkT (κ 0 11) (κ 0 12) (lgt F) (x2 / 16 * 16) (x3 / 16 * 16)) (16 : Int).toNat (v8 - (x3 / 16 * 16)).toNat + sumR (bkT (κ 0 11) (κ 0 12) (lgt F) (x2 / 16 * 16) (x3 / 16 * 16)) (v8 - (x3 / 16 * 16)) (v9 - (x2 / 16 * 16)).toNat) → (v7 = sumS (bkT (κ 0 11) (κ 0 12) (fun _ _ => 1) (x2 / 16 * 16) (x3 / 16 * 16)) (16 : Int).toNat (v8 - (x3 / 16 * 16)).toNat + sumR (bkT (κ 0 11) (κ 0 12) (fun _ _ => 1) (x2 / 16 * 16) (x3 / 16 * 16)) (v8 - (x3 / 16 * 16)) (v9 - (x2 / 16 * 16)).toNat) → ((x3 / 16 * 16) ≤ v8 ∧ v8 < (x3 / 16 * 16) + 16 ∧ (x2 / 16 * 16) ≤ v9 ∧ v9 ≤ (x2 / 16 * 16) + 16) → (v6 ≤ 65520 * (v8 - (x3 / 16 * 16)) + 4095 * (v9 - (x2 / 16 * 16))) → ((x3 < v8 → 1 ≤ v7) ∧ (x3 = v8 ∧ x2 < v9 → 1 ≤ v7)) → (v7 ≤ 16 * (v8 - (x3 / 16 * 16)) + (v9 - (x2 / 16 * 16))) → 28355184 + 30888 * (16 - v8) + 19008 + 33 * (16 - v9) + 32 < (N : Int) → zV G mX12_baseOf (q_X12_baseOfZ4 κ h x1 x2 x3 x4 F) 45 [some (.inr (.inr 0)), some (.inl x1), some (.inl x2), some (.inl x3), some (.inl x4), some (.inl 16), some (.inl v6), some (.inl v7), some (.inl v8), some (.inl v9)] [] h) := by
    intro N
    induction N with
    | zero =>
      refine ⟨?_, ?_⟩
      · intro v6 v7 v8 g0 g1 g2 gc0 gc1 gc2 gc3 gc4 gc5 hm
        exfalso; omega
      · intro v6 v7 v8 v9 g0 g1 g2 g3 gc0 gc1 gc2 gc3 gc4 gc5 hm
        exfalso; omega
    | succ N ih =>
      obtain ⟨k21, k45⟩ := ih
      refine ⟨?_, ?_⟩
      · intro v6 v7 v8 g0 g1 g2 gc0 gc1 gc2 gc3 gc4 gc5 hm
        refine zW_iload (pc' := 23) dX12_baseOf_0.2.2.2.1 rfl rfl ?_
        refine zW_iload_n (pc' := 24) dX12_baseOf_0.2.2.2.2 rfl rfl ?_
        refine zW_iload (pc' := 26) dX12_baseOf_1.1.1.1.1 rfl rfl ?_
        refine zW_idiv (pc' := 27) (by omega) (by omega) dX12_baseOf_1.1.1.1.2 rfl ?_
        refine zW_iload (pc' := 29) dX12_baseOf_1.1.1.2.1 rfl rfl ?_
        refine zW_imul (pc' := 30) dX12_baseOf_1.1.1.2.2 rfl ?_
        refine zW_iload (pc' := 32) dX12_baseOf_1.1.2.1.1 rfl rfl ?_
        refine zW_iadd (pc' := 33) dX12_baseOf_1.1.2.1.2 rfl ?_
        refine zV_cm_ge (tgt := 106) (pc' := 36) dX12_baseOf_1.1.2.2.1 rfl rfl ⟨by omega, by omega⟩ ⟨by omega, by omega⟩ (fun c33 => ?_) (fun c33 => ?_)
        · refine zW_iload (pc' := 108) dX12_baseOf_3.2.2.1.1 rfl rfl ?_
          refine zW_iload (pc' := 110) dX12_baseOf_3.2.2.1.2 rfl rfl ?_
          refine zW_idivX (pc' := 111) ⟨by omega, by omega⟩ ⟨by omega, by omega⟩ dX12_baseOf_3.2.2.2.1 rfl (fun v110 t110 e110 => ?_)
          unfold rng at e110
          have hq := tdb2 (a := v6) (d := v7) (by omega) (by omega)
          rw [← t110] at hq
          exact zV_iret rfl dX12_baseOf_3.2.2.2.2 ⟨rfl, (by refine ⟨by omega, by omega, ?_⟩; unfold bsF; rw [t110, Int.tdiv_eq_ediv_of_nonneg (by omega), gc0, gc1, show (v8 - (x3 / 16 * 16)).toNat = (16 : Int).toNat by omega])⟩
        · refine zW_iload_n (pc' := 37) dX12_baseOf_1.1.2.2.2 rfl rfl ?_
          refine zW_iload (pc' := 39) dX12_baseOf_1.2.1.1.1 rfl rfl ?_
          refine zW_idiv (pc' := 40) (by omega) (by omega) dX12_baseOf_1.2.1.1.2 rfl ?_
          refine zW_iload (pc' := 42) dX12_baseOf_1.2.1.2.1 rfl rfl ?_
          refine zW_imul (pc' := 43) dX12_baseOf_1.2.1.2.2 rfl ?_
          refine zW_istore (ls' := [_, _, _, _, _, _, _, _, _, _]) (pc' := 45) dX12_baseOf_1.2.2.1.1 (by decide) rfl rfl rfl ?_
          exact k45 _ _ _ _ (by omega) (by omega) (by omega) (by omega) (by first | (rw [show (v9 + 1 - (x2 / 16 * 16)).toNat = (v9 - (x2 / 16 * 16) + 1).toNat by omega, sr, gc0, Int.add_assoc, bkT_in (x := v9) (y := v8) ⟨by omega, by omega, by omega, by omega⟩ (by omega) (by omega), e82]) | (rw [show (v9 + 1 - (x2 / 16 * 16)).toNat = (v9 - (x2 / 16 * 16) + 1).toNat by omega, sr, gc0, bkT_out (x := v9) (y := v8) (fun q => by obtain ⟨q1, q2, q3, q4⟩ := q; omega) (by omega) (by omega), Int.add_zero]) | (rw [show ((x2 / 16 * 16) - (x2 / 16 * 16)).toNat = 0 by omega]; show _ = _ + 0; omega)) (by first | (rw [show (v9 + 1 - (x2 / 16 * 16)).toNat = (v9 - (x2 / 16 * 16) + 1).toNat by omega, s1, gc1, Int.add_assoc, bkT_in (x := v9) (y := v8) ⟨by omega, by omega, by omega, by omega⟩ (by omega) (by omega)]) | (rw [show (v9 + 1 - (x2 / 16 * 16)).toNat = (v9 - (x2 / 16 * 16) + 1).toNat by omega, s1, gc1, bkT_out (x := v9) (y := v8) (fun q => by obtain ⟨q1, q2, q3, q4⟩ := q; omega) (by omega) (by omega), Int.add_zero]) | (rw [show ((x2 / 16 * 16) - (x2 / 16 * 16)).toNat = 0 by omega]; show _ = _ + 0; omega)) (by omega) (by omega) (by omega) (by omega) (by omega)
      · intro v6 v7 v8 v9 g0 g1 g2 g3 gc0 gc1 gc2 gc3 gc4 gc5 hm
        refine zW_iload (pc' := 47) dX12_baseOf_1.2.2.1.2 rfl rfl ?_
        refine zW_iload_n (pc' := 48) dX12_baseOf_1.2.2.2.1 rfl rfl ?_
        refine zW_iload (pc' := 50) dX12_baseOf_1.2.2.2.2 rfl rfl ?_
        refine zW_idiv (pc' := 51) (by omega) (by omega) dX12_baseOf_2.1.1.1.1 rfl ?_
        refine zW_iload (pc' := 53) dX12_baseOf_2.1.1.1.2 rfl rfl ?_
        refine zW_imul (pc' := 54) dX12_baseOf_2.1.1.2.1 rfl ?_
        refine zW_iload (pc' := 56) dX12_baseOf_2.1.1.2.2 rfl rfl ?_
        refine zW_iadd (pc' := 57) dX12_baseOf_2.1.2.1.1 rfl ?_
        refine zV_cm_ge (tgt := 100) (pc' := 60) dX12_baseOf_2.1.2.1.2 rfl rfl ⟨by omega, by omega⟩ ⟨by omega, by omega⟩ (fun c57 => ?_) (fun c57 => ?_)
        · have ss := sumS_s (t := (bkT (κ 0 11) (κ 0 12) (lgt F) (x2 / 16 * 16) (x3 / 16 * 16))) (w := (16 : Int).toNat) (v := v8 - (x3 / 16 * 16)) (by omega)
          have s2 := sumS_s (t := (bkT (κ 0 11) (κ 0 12) (fun _ _ => 1) (x2 / 16 * 16) (x3 / 16 * 16))) (w := (16 : Int).toNat) (v := v8 - (x3 / 16 * 16)) (by omega)
          refine zW_iinc (ls' := [_, _, _, _, _, _, _, _, _, _]) (pc' := 103) dX12_baseOf_3.2.1.2.1 rfl (by decide) rfl rfl rfl ?_
          refine zV_goto 21 dX12_baseOf_3.2.1.2.2 rfl ?_
          refine zV_clr 9 (ls' := [_, _, _, _, _, _, _, _, _, _]) rfl ?_
          exact k21 _ _ _ (by omega) (by omega) (by omega) (by first | (rw [show (v9 - (x2 / 16 * 16)).toNat = (16 : Int).toNat by omega] at gc0; rw [show (v8 + 1 - (x3 / 16 * 16)).toNat = (v8 - (x3 / 16 * 16) + 1).toNat by omega, ss]; exact gc0) | (rw [show ((x3 / 16 * 16) - (x3 / 16 * 16)).toNat = 0 by omega]; rfl)) (by first | (rw [show (v9 - (x2 / 16 * 16)).toNat = (16 : Int).toNat by omega] at gc1; rw [show (v8 + 1 - (x3 / 16 * 16)).toNat = (v8 - (x3 / 16 * 16) + 1).toNat by omega, s2]; exact gc1) | (rw [show ((x3 / 16 * 16) - (x3 / 16 * 16)).toNat = 0 by omega]; rfl)) (by omega) (by omega) (by omega) (by omega) (by omega)
        · have sr := sumR_s (t := (bkT (κ 0 11) (κ 0 12) (lgt F) (x2 / 16 * 16) (x3 / 16 * 16))) (y := v8 - (x3 / 16 * 16)) (v := v9 - (x2 / 16 * 16)) (by omega)
          have s1 := sumR_s (t := (bkT (κ 0 11) (κ 0 12) (fun _ _ => 1) (x2 / 16 * 16) (x3 / 16 * 16))) (y := v8 - (x3 / 16 * 16)) (v := v9 - (x2 / 16 * 16)) (by omega)
          refine zW_aload_n (pc' := 61) dX12_baseOf_2.1.2.2.1 rfl rfl ?_
          refine zW_iload (pc' := 63) dX12_baseOf_2.1.2.2.2 rfl rfl ?_
          refine zW_iload (pc' := 65) dX12_baseOf_2.2.1.1.1 rfl rfl ?_
          refine cvI2 (pc' := 68) kX12_isSquare vX12_isSquare lk_X12_218 ⟨Nat.le_of_ble_eq_true rfl, Nat.le_of_ble_eq_true rfl⟩ tb0 vq12 rfl rfl (s_X12_isSquare hK hF _ ⟨by omega, by omega⟩ _ ⟨by omega, by omega⟩) dX12_baseOf_2.2.1.1.2 (Nat.le_of_ble_eq_true rfl) rfl ?_
          rintro r65 z65 ⟨hz65, p65⟩; subst z65
          refine zV_if_ne (tgt := 74) (pc' := 71) dX12_baseOf_2.2.1.2.1 rfl rfl ⟨by omega, by omega⟩ (fun c68 => ?_) (fun c68 => ?_)
          · refine zW_iload (pc' := 76) dX12_baseOf_2.2.2.1.1 rfl rfl ?_
            refine zW_aload_n (pc' := 77) dX12_baseOf_2.2.2.1.2 rfl rfl ?_
            refine zW_iload_n (pc' := 78) dX12_baseOf_2.2.2.2.1 rfl rfl ?_
            refine zW_iload (pc' := 80) dX12_baseOf_2.2.2.2.2 rfl rfl ?_
            refine zW_iload (pc' := 82) dX12_baseOf_3.1.1.1.1 rfl rfl ?_
            refine cvI3 (pc' := 85) kX12_lightAt vX12_lightAt lk_X12_307 ⟨Nat.le_of_ble_eq_true rfl, Nat.le_of_ble_eq_true rfl⟩ tb0 vq12 rfl rfl (s_X12_lightAtZ hK hF _ ⟨by omega, by omega⟩ _ ⟨by omega, by omega, by omega⟩ _ ⟨by omega, by omega, by omega⟩ F (by omega) (by omega)) dX12_baseOf_3.1.1.1.2 (Nat.le_of_ble_eq_true rfl) rfl ?_
            rintro r82 z82 ⟨hz82, p82⟩; subst z82
            refine zW_iadd (pc' := 86) dX12_baseOf_3.1.1.2.1 rfl ?_
            have e82 : r82 = lgt F v9 v8 := by have mx := mir_i (v := v9) (n := κ 0 11) ⟨by omega, by omega⟩; have my := mir_i (v := v8) (n := κ 0 12) ⟨by omega, by omega⟩; have z := p82.2.2; rw [mx, my] at z; exact z
            refine zW_istore (ls' := [_, _, _, _, _, _, _, _, _, _]) (pc' := 88) dX12_baseOf_3.1.1.2.2 (by decide) rfl rfl rfl ?_
            refine zW_iload (pc' := 90) dX12_baseOf_3.1.2.1.1 rfl rfl ?_
            refine zW_iconst (pc' := 91) dX12_baseOf_3.1.2.1.2 rfl ?_
            refine zW_iadd (pc' := 92) dX12_baseOf_3.1.2.2.1 rfl ?_
            refine zW_istore (ls' := [_, _, _, _, _, _, _, _, _, _]) (pc' := 94) dX12_baseOf_3.1.2.2.2 (by decide) rfl rfl rfl ?_
            refine zW_iinc (ls' := [_, _, _, _, _, _, _, _, _, _]) (pc' := 97) dX12_baseOf_3.2.1.1.1 rfl (by decide) rfl rfl rfl ?_
            refine zV_goto 45 dX12_baseOf_3.2.1.1.2 rfl ?_
            exact k45 _ _ _ _ (by omega) (by omega) (by omega) (by omega) (by first | (rw [show (v9 + 1 - (x2 / 16 * 16)).toNat = (v9 - (x2 / 16 * 16) + 1).toNat by omega, sr, gc0, Int.add_assoc, bkT_in (x := v9) (y := v8) ⟨by omega, by omega, by omega, by omega⟩ (by omega) (by omega), e82]) | (rw [show (v9 + 1 - (x2 / 16 * 16)).toNat = (v9 - (x2 / 16 * 16) + 1).toNat by omega, sr, gc0, bkT_out (x := v9) (y := v8) (fun q => by obtain ⟨q1, q2, q3, q4⟩ := q; omega) (by omega) (by omega), Int.add_zero]) | (rw [show ((x2 / 16 * 16) - (x2 / 16 * 16)).toNat = 0 by omega]; show _ = _ + 0; omega)) (by first | (rw [show (v9 + 1 - (x2 / 16 * 16)).toNat = (v9 - (x2 / 16 * 16) + 1).toNat by omega, s1, gc1, Int.add_assoc, bkT_in (x := v9) (y := v8) ⟨by omega, by omega, by omega, by omega⟩ (by omega) (by omega)]) | (rw [show (v9 + 1 - (x2 / 16 * 16)).toNat = (v9 - (x2 / 16 * 16) + 1).toNat by omega, s1, gc1, bkT_out (x := v9) (y := v8) (fun q => by obtain ⟨q1, q2, q3, q4⟩ := q; omega) (by omega) (by omega), Int.add_zero]) | (rw [show ((x2 / 16 * 16) - (x2 / 16 * 16)).toNat = 0 by omega]; show _ = _ + 0; omega)) (by omega) (by omega) (by omega) (by omega) (by omega)
          · refine zV_goto 94 dX12_baseOf_2.2.1.2.2 rfl ?_
            refine zW_iinc (ls' := [_, _, _, _, _, _, _, _, _, _]) (pc' := 97) dX12_baseOf_3.2.1.1.1 rfl (by decide) rfl rfl rfl ?_
            refine zV_goto 45 dX12_baseOf_3.2.1.1.2 rfl ?_
            exact k45 _ _ _ _ (by omega) (by omega) (by omega) (by omega) (by first | (rw [show (v9 + 1 - (x2 / 16 * 16)).toNat = (v9 - (x2 / 16 * 16) + 1).toNat by omega, sr, gc0, Int.add_assoc, bkT_in (x := v9) (y := v8) ⟨by omega, by omega, by omega, by omega⟩ (by omega) (by omega), e82]) | (rw [show (v9 + 1 - (x2 / 16 * 16)).toNat = (v9 - (x2 / 16 * 16) + 1).toNat by omega, sr, gc0, bkT_out (x := v9) (y := v8) (fun q => by obtain ⟨q1, q2, q3, q4⟩ := q; omega) (by omega) (by omega), Int.add_zero]) | (rw [show ((x2 / 16 * 16) - (x2 / 16 * 16)).toNat = 0 by omega]; show _ = _ + 0; omega)) (by first | (rw [show (v9 + 1 - (x2 / 16 * 16)).toNat = (v9 - (x2 / 16 * 16) + 1).toNat by omega, s1, gc1, Int.add_assoc, bkT_in (x := v9) (y := v8) ⟨by omega, by omega, by omega, by omega⟩ (by omega) (by omega)]) | (rw [show (v9 + 1 - (x2 / 16 * 16)).toNat = (v9 - (x2 / 16 * 16) + 1).toNat by omega, s1, gc1, bkT_out (x := v9) (y := v8) (fun q => by obtain ⟨q1, q2, q3, q4⟩ := q; omega) (by omega) (by omega), Int.add_zero]) | (rw [show ((x2 / 16 * 16) - (x2 / 16 * 16)).toNat = 0 by omega]; show _ = _ + 0; omega)) (by omega) (by omega) (by omega) (by omega) (by omega)
  refine zM_of [some (.inr (.inr 0)), some (.inl x1), some (.inl x2), some (.inl x3), some (.inl x4), none, none, none, none, none] 5 rfl rfl (Nat.le_of_ble_eq_true rfl) rfl ?_
  refine zW_iconst (pc' := 1) dX12_baseOf_0.1.1.1.1 rfl ?_
  refine zW_iload (pc' := 3) dX12_baseOf_0.1.1.1.2 rfl rfl ?_
  refine zW_shl1 (w := 16) (pc' := 4) (by omega) dX12_baseOf_0.1.1.2.1 rfl ?_
  refine zW_istore (ls' := [_, _, _, _, _, _, _, _, _, _]) (pc' := 6) dX12_baseOf_0.1.1.2.2 (by decide) rfl rfl rfl ?_
  refine zW_iconst (pc' := 7) dX12_baseOf_0.1.2.1.1 rfl ?_
  refine zW_istore (ls' := [_, _, _, _, _, _, _, _, _, _]) (pc' := 9) dX12_baseOf_0.1.2.1.2 (by decide) rfl rfl rfl ?_
  refine zW_iconst (pc' := 10) dX12_baseOf_0.1.2.2.1 rfl ?_
  refine zW_istore (ls' := [_, _, _, _, _, _, _, _, _, _]) (pc' := 12) dX12_baseOf_0.1.2.2.2 (by decide) rfl rfl rfl ?_
  refine zW_iload_n (pc' := 13) dX12_baseOf_0.2.1.1.1 rfl rfl ?_
  refine zW_iload (pc' := 15) dX12_baseOf_0.2.1.1.2 rfl rfl ?_
  refine zW_idiv (pc' := 16) (by omega) (by omega) dX12_baseOf_0.2.1.2.1 rfl ?_
  refine zW_iload (pc' := 18) dX12_baseOf_0.2.1.2.2 rfl rfl ?_
  refine zW_imul (pc' := 19) dX12_baseOf_0.2.2.1.1 rfl ?_
  refine zW_istore (ls' := [_, _, _, _, _, _, _, _, _, _]) (pc' := 21) dX12_baseOf_0.2.2.1.2 (by decide) rfl rfl rfl ?_
  exact (main 10000000000000000000000000000000000000000).1 _ _ _ (by omega) (by omega) (by omega) (by first | (rw [show (v9 - (x2 / 16 * 16)).toNat = (16 : Int).toNat by omega] at gc0; rw [show (v8 + 1 - (x3 / 16 * 16)).toNat = (v8 - (x3 / 16 * 16) + 1).toNat by omega, ss]; exact gc0) | (rw [show ((x3 / 16 * 16) - (x3 / 16 * 16)).toNat = 0 by omega]; rfl)) (by first | (rw [show (v9 - (x2 / 16 * 16)).toNat = (16 : Int).toNat by omega] at gc1; rw [show (v8 + 1 - (x3 / 16 * 16)).toNat = (v8 - (x3 / 16 * 16) + 1).toNat by omega, s2]; exact gc1) | (rw [show ((x3 / 16 * 16) - (x3 / 16 * 16)).toNat = 0 by omega]; rfl)) (by omega) (by omega) (by omega) (by omega) (by omega)

abbrev q_X12_medianZ (b : Bd) (κ : Hp) (x1 : Int) (x2 : Int) (x3 : Int) (x4 : Int) (F : P3) (gh0 : Hp) : Int → Hp → Prop := fun r h' => Fr b κ h' ∧ ((Fw [20] [] gh0 h') ∧ (-4095 ≤ r) ∧ (r ≤ 4095) ∧ (r = med (κ 0 11) (κ 0 12) F x2 x3 x4))
set_option maxHeartbeats 4000000 in
set_option maxRecDepth 20000 in
theorem s_X12_medianZ {G : Ga} {b : Bd} {κ h : Hp} (hK : KR κ) (hF : Fr b κ h) (x1 : Int) (hx1 : 0 ≤ x1 ∧ x1 ≤ 14) (x2 : Int) (hx2 : 0 ≤ x2 ∧ x2 ≤ 2) (x3 : Int) (hx3 : 0 ≤ x3 ∧ x3 ≤ 15 ∧ x3 - κ 0 11 ≤ -1) (x4 : Int) (hx4 : 0 ≤ x4 ∧ x4 ≤ 15 ∧ x4 - κ 0 12 ≤ -1) (F : P3) (gh0 : Hp) (hF3 : Fu17 κ (h 17) x1 F) (hb3 : FB3 (κ 0 11) (κ 0 12) F) (hgh : Fw [20] [] gh0 h) : zM G mX12_median yX12_median [.inr (.inr 0), .inl x1, .inl x2, .inl x3, .inl x4] h (q_X12_medianZ b κ x1 x2 x3 x4 F gh0) := by
  have f_0_11 := KRw hK
  have f_0_12 := KRh hK
  have main : ∀ N : Nat, (∀ (v5 : Int) (h : Hp), Fr b κ h → (0 ≤ v5 ∧ v5 ≤ 9) → (∀ j : Nat, (j : Int) < v5 → h 20 j = (df9 (κ 0 11) (κ 0 12) F x2 x3 x4) j) → (Fu17 κ (h 17) x1 F) → (Fw [20] [] gh0 h) → 35112 + 57 * (9 - v5) + 56 < (N : Int) → zV G mX12_median (q_X12_medianZ b κ x1 x2 x3 x4 F gh0) 3 [some (.inr (.inr 0)), some (.inl x1), some (.inl x2), some (.inl x3), some (.inl x4), some (.inl v5)] [] h) := by
    intro N
    induction N with
    | zero =>
      intro v5 h hF g0 gc0 hF3 hgh hm
      exfalso; omega
    | succ N ih =>
      have k3 := ih
      intro v5 h hF g0 gc0 hF3 hgh hm
      refine zW_iload (pc' := 5) dX12_median_0.1.1.2.1 rfl rfl ?_
      refine zW_bipush (pc' := 7) dX12_median_0.1.1.2.2 rfl rfl ?_
      refine zV_cm_ge (tgt := 70) (pc' := 10) dX12_median_0.1.2.1.1 rfl rfl ⟨by omega, by omega⟩ ⟨by omega, by omega⟩ (fun c7 => ?_) (fun c7 => ?_)
      · refine zW_aload_n (pc' := 71) dX12_median_3.1.1.1.1 rfl rfl ?_
        refine zG_ref (pc' := 74) 20 fg_X12_69 tb0 rfl dX12_median_3.1.1.1.2 rfl ?_
        refine zW_bipush (pc' := 76) dX12_median_3.1.1.2 rfl rfl ?_
        refine csV2 (pc' := 79) kX12_sorts vX12_sorts lk_X12_250 ⟨Nat.le_of_ble_eq_true rfl, Nat.le_of_ble_eq_true rfl⟩ rfl (s_X12_sortsZ hF _ tb20 (sr20) (by decide) _ ⟨by omega, by omega⟩ (df9 (κ 0 11) (κ 0 12) F x2 x3 x4) h (by omega) (fun j hj => gc0 j (by omega)) (by omega) (by decide) Fw.rf) dX12_median_3.1.2.1 (Nat.le_of_ble_eq_true rfl) rfl ?_
        rintro r76 h ⟨hF, d76, p76⟩
        replace hF3 : Fu17 κ (h 17) x1 F := by have q0_ := (d76.cell (k := 17) (by intro c hc; simp at hc <;> omega) (by rintro ⟨a, b⟩ hp; simp at hp <;> (show _ ≠ a; omega))); rw [q0_]; exact hF3
        replace hgh : Fw [20] [] gh0 h := hgh.tr d76 (by simp) (by simp)
        refine zW_aload_n (pc' := 80) dX12_median_3.1.2.2 rfl rfl ?_
        refine zG_ref (pc' := 83) 20 fg_X12_69 tb0 rfl dX12_median_3.2.1.1 rfl ?_
        refine zW_iconst (pc' := 84) dX12_median_3.2.1.2 rfl ?_
        refine zV_iald (pc' := 85) tb20 (by omega) dX12_median_3.2.2.1 (by decide) rfl ?_
        have e84 : h 20 (4 : Int).toNat = med (κ 0 11) (κ 0 12) F x2 x3 x4 := p76 4 (by decide)
        have b84 := med_b (x := x3) (y := x4) (KRw hK).1 (KRh hK).1 hb3 (c := x2) (by omega) ⟨by omega, by omega, by omega, by omega⟩
        rw [← e84] at b84
        exact zV_iret rfl dX12_median_3.2.2.2 ⟨hF, ⟨hgh, ⟨b84.1, b84.2, e84⟩⟩⟩
      · refine zW_aload_n (pc' := 11) dX12_median_0.1.2.1.2 rfl rfl ?_
        refine zG_ref (pc' := 14) 20 fg_X12_69 tb0 rfl dX12_median_0.1.2.2.1 rfl ?_
        refine zW_iload (pc' := 16) dX12_median_0.1.2.2.2 rfl rfl ?_
        refine zW_aload_n (pc' := 17) dX12_median_0.2.1.1.1 rfl rfl ?_
        refine zW_iload_n (pc' := 18) dX12_median_0.2.1.1.2 rfl rfl ?_
        refine zW_iload_n (pc' := 19) dX12_median_0.2.1.2.1 rfl rfl ?_
        refine zW_iload_n (pc' := 20) dX12_median_0.2.1.2.2 rfl rfl ?_
        refine zW_iload (pc' := 22) dX12_median_0.2.2.1.1 rfl rfl ?_
        refine zW_iconst (pc' := 23) dX12_median_0.2.2.1.2 rfl ?_
        refine zW_irem (pc' := 24) (by omega) (by omega) dX12_median_0.2.2.2.1 rfl ?_
        refine zW_iadd (pc' := 25) dX12_median_0.2.2.2.2 rfl ?_
        refine zW_iconst (pc' := 26) dX12_median_1.1.1.1.1 rfl ?_
        refine zW_isub (pc' := 27) dX12_median_1.1.1.1.2 rfl ?_
        refine zW_iload (pc' := 29) dX12_median_1.1.1.2.1 rfl rfl ?_
        refine zW_iload (pc' := 31) dX12_median_1.1.1.2.2 rfl rfl ?_
        refine zW_iconst (pc' := 32) dX12_median_1.1.2.1.1 rfl ?_
        refine zW_idiv (pc' := 33) (by omega) (by omega) dX12_median_1.1.2.1.2 rfl ?_
        refine zW_iadd (pc' := 34) dX12_median_1.1.2.2.1 rfl ?_
        refine zW_iconst (pc' := 35) dX12_median_1.1.2.2.2 rfl ?_
        refine zW_isub (pc' := 36) dX12_median_1.2.1.1.1 rfl ?_
        refine cvI4 (pc' := 39) kX12_at vX12_at lk_X12_277 ⟨Nat.le_of_ble_eq_true rfl, Nat.le_of_ble_eq_true rfl⟩ tb0 vq12 rfl rfl (s_X12_atZ hK hF _ ⟨by omega, by omega⟩ _ ⟨by omega, by omega⟩ _ ⟨by omega, by omega, by omega⟩ _ ⟨by omega, by omega, by omega⟩ (F x2) (hF3 x2 (by omega)) (hb3 x2 (by omega))) dX12_median_1.2.1.1.2 (Nat.le_of_ble_eq_true rfl) rfl ?_
        rintro r36 z36 ⟨hz36, p36⟩; subst z36
        refine zW_aload_n (pc' := 40) dX12_median_1.2.1.2.1 rfl rfl ?_
        refine zW_iload_n (pc' := 41) dX12_median_1.2.1.2.2 rfl rfl ?_
        refine zW_iconst (pc' := 42) dX12_median_1.2.2.1.1 rfl ?_
        refine zW_iload_n (pc' := 43) dX12_median_1.2.2.1.2 rfl rfl ?_
        refine zW_iload (pc' := 45) dX12_median_1.2.2.2.1 rfl rfl ?_
        refine zW_iconst (pc' := 46) dX12_median_1.2.2.2.2 rfl ?_
        refine zW_irem (pc' := 47) (by omega) (by omega) dX12_median_2.1.1.1.1 rfl ?_
        refine zW_iadd (pc' := 48) dX12_median_2.1.1.1.2 rfl ?_
        refine zW_iconst (pc' := 49) dX12_median_2.1.1.2.1 rfl ?_
        refine zW_isub (pc' := 50) dX12_median_2.1.1.2.2 rfl ?_
        refine zW_iload (pc' := 52) dX12_median_2.1.2.1.1 rfl rfl ?_
        refine zW_iload (pc' := 54) dX12_median_2.1.2.1.2 rfl rfl ?_
        refine zW_iconst (pc' := 55) dX12_median_2.1.2.2.1 rfl ?_
        refine zW_idiv (pc' := 56) (by omega) (by omega) dX12_median_2.1.2.2.2 rfl ?_
        refine zW_iadd (pc' := 57) dX12_median_2.2.1.1.1 rfl ?_
        refine zW_iconst (pc' := 58) dX12_median_2.2.1.1.2 rfl ?_
        refine zW_isub (pc' := 59) dX12_median_2.2.1.2.1 rfl ?_
        refine cvI4 (pc' := 62) kX12_at vX12_at lk_X12_277 ⟨Nat.le_of_ble_eq_true rfl, Nat.le_of_ble_eq_true rfl⟩ tb0 vq12 rfl rfl (s_X12_atZ hK hF _ ⟨by omega, by omega⟩ _ ⟨by omega, by omega⟩ _ ⟨by omega, by omega, by omega⟩ _ ⟨by omega, by omega, by omega⟩ (F 1) (hF3 1 (by omega)) (hb3 1 (by omega))) dX12_median_2.2.1.2.2 (Nat.le_of_ble_eq_true rfl) rfl ?_
        rintro r59 z59 ⟨hz59, p59⟩; subst z59
        refine zW_isub (pc' := 63) dX12_median_2.2.2.1.1 rfl ?_
        have hdf : r36 - r59 = (df9 (κ 0 11) (κ 0 12) F x2 x3 x4) v5.toNat := by (unfold df9; rw [show ((v5.toNat % 3 : Nat) : Int) = v5 % 3 by omega, show ((v5.toNat / 3 : Nat) : Int) = v5 / 3 by omega, show x3 + (v5 % 3 - 1) = x3 + v5 % 3 - 1 by omega, show x4 + (v5 / 3 - 1) = x4 + v5 / 3 - 1 by omega, p36.2.2, p59.2.2])
        refine zS_i (pc' := 64) hF sr20 tb20 (by omega) dX12_median_2.2.2.1.2 (by decide) rfl (fun h i63 hF a63 b63 w63 => ?_)
        replace b63 := b63 ⟨by omega, by omega⟩
        replace hgh : Fw [20] [] gh0 h := by rw [w63]; exact hgh.wc (by simp)
        replace hF3 : Fu17 κ (h 17) x1 F := by have q0_ := (congrFun w63 17).trans (zfun (by decide)); rw [q0_]; exact hF3
        have hr2 : ∀ j : Nat, (j : Int) < v5 + 1 → h 20 j = (df9 (κ 0 11) (κ 0 12) F x2 x3 x4) j := by (intro j hj; rw [w63, b63]; by_cases e : j = v5.toNat; (rw [e, zwr_eq]; exact hdf); (rw [zwr_ne (Or.inr e)]; exact gc0 j (by omega)))
        refine zW_iinc (ls' := [_, _, _, _, _, _]) (pc' := 67) dX12_median_2.2.2.2.1 rfl (by decide) rfl rfl rfl ?_
        refine zV_goto 3 dX12_median_2.2.2.2.2 rfl ?_
        exact k3 _ _ hF (by omega) (by first | exact hr2 | exact (fun j hj => by omega)) hF3 hgh (by omega)
  refine zM_of [some (.inr (.inr 0)), some (.inl x1), some (.inl x2), some (.inl x3), some (.inl x4), none] 1 rfl rfl (Nat.le_of_ble_eq_true rfl) rfl ?_
  refine zW_iconst (pc' := 1) dX12_median_0.1.1.1.1 rfl ?_
  refine zW_istore (ls' := [_, _, _, _, _, _]) (pc' := 3) dX12_median_0.1.1.1.2 (by decide) rfl rfl rfl ?_
  exact (main 10000000000000000000000000000000000000000) _ _ hF (by omega) (by first | exact hr2 | exact (fun j hj => by omega)) hF3 hgh (by omega)

abbrev q_X12_baseOfZ (κ h : Hp) (x1 : Int) (x2 : Int) (x3 : Int) (x4 : Int) (F : P3) : Int → Hp → Prop := fun r h' => h' = h ∧ ((0 ≤ r) ∧ (r ≤ 1048320) ∧ (r = bsF (κ 0 11) (κ 0 12) F (2 ^ x4.toNat) x2 x3))
theorem s_X12_baseOfZ {G : Ga} {b : Bd} {κ h : Hp} (hK : KR κ) (hF : Fr b κ h) (x1 : Int) (hx1 : 0 ≤ x1 ∧ x1 ≤ 14) (x2 : Int) (hx2 : 0 ≤ x2 ∧ x2 ≤ 15 ∧ x2 - κ 0 11 ≤ -1) (x3 : Int) (hx3 : 0 ≤ x3 ∧ x3 ≤ 15 ∧ x3 - κ 0 12 ≤ -1) (x4 : Int) (hx4 : 1 ≤ x4 ∧ x4 ≤ 4) (F : P3) (hF3 : Fu17 κ (h 17) x1 F) (hb3 : FB3 (κ 0 11) (κ 0 12) F) : zM G mX12_baseOf yX12_baseOf [.inr (.inr 0), .inl x1, .inl x2, .inl x3, .inl x4] h (q_X12_baseOfZ κ h x1 x2 x3 x4 F) := by
  have : x4 = 1 ∨ x4 = 2 ∨ x4 = 3 ∨ x4 = 4 := by omega
  rcases this with rfl | rfl | rfl | rfl
  · exact s_X12_baseOfZ1 hK hF x1 hx1 x2 hx2 x3 hx3 1 (by omega) F hF3 hb3
  · exact s_X12_baseOfZ2 hK hF x1 hx1 x2 hx2 x3 hx3 2 (by omega) F hF3 hb3
  · exact s_X12_baseOfZ3 hK hF x1 hx1 x2 hx2 x3 hx3 3 (by omega) F hF3 hb3
  · exact s_X12_baseOfZ4 hK hF x1 hx1 x2 hx2 x3 hx3 4 (by omega) F hF3 hb3
