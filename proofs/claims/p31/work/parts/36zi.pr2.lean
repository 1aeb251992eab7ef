/-! votes of the reference -/
theorem Fu17.cp {κ : Hp} {A B : Nat → Int} {j k : Int} {F : P3} (h : Fu17 κ A j F) (hj : 0 ≤ j) (hk : 0 ≤ k) (hW : κ 0 11 ≤ 16) (hH : κ 0 12 ≤ 16) (e : ∀ i : Int, 0 ≤ i → i < 768 → B (768 * k + i).toNat = A (768 * j + i).toNat) : Fu17 κ B k F := fun c hc x y hp => by
  obtain ⟨h1, h2, h3, h4⟩ := id hp
  have z := h c hc x y hp
  have q := e (256 * c + 16 * y + x) (by omega) (by omega)
  rw [show 768 * k + 256 * c + 16 * y + x = 768 * k + (256 * c + 16 * y + x) by omega, q, show 768 * j + (256 * c + 16 * y + x) = 768 * j + 256 * c + 16 * y + x by omega]
  exact z
theorem Fu17.oth {κ : Hp} {A B : Nat → Int} {j k : Int} {F : P3} (h : Fu17 κ A j F) (hjk : j ≠ k) (hj : 0 ≤ j) (hk : 0 ≤ k) (hW : κ 0 11 ≤ 16) (hH : κ 0 12 ≤ 16) (o : Oth k A B) : Fu17 κ B j F := fun c hc => Pl17.oth hjk hj hk hc hW hH o (h c hc)
/-- the planes of colours that were voted, so far -/
def BlU (W H : Int) (A : Nat → Int) (F : P3) (p : Int) : Prop := ∀ x y : Int, inP W H x y → 16 * y + x < p → A (16 * y + x).toNat = clp (F 1 x y + med W H F 0 x y) ∧ A (256 + (16 * y + x)).toNat = clp (F 1 x y + med W H F 2 x y)
theorem BlU.nx {W H : Int} {A B : Nat → Int} {F : P3} {p x y : Int} (r : BlU W H A F p) (hW : W ≤ 16) (hH : H ≤ 16) (hp : inP W H x y) (e : p = 16 * y + x) (h1 : B p.toNat = clp (F 1 x y + med W H F 0 x y)) (h2 : B (256 + p).toNat = clp (F 1 x y + med W H F 2 x y)) (h3 : ∀ i : Nat, i ≠ p.toNat → i ≠ (256 + p).toNat → B i = A i) : BlU W H B F (p + 1) := fun u v hq hl => by
  obtain ⟨k1, k2, k3, k4⟩ := id hp
  obtain ⟨g1, g2, g3, g4⟩ := id hq
  by_cases q : u = x ∧ v = y
  · rw [q.1, q.2, ← e]; exact ⟨h1, h2⟩
  · have k := r u v hq (by omega)
    rw [h3 _ (by omega) (by omega), h3 _ (by omega) (by omega)]
    exact k
theorem BlU.sk {W H : Int} {A : Nat → Int} {F : P3} {p : Int} (r : BlU W H A F p) (h : ¬ inP W H (p % 16) (p / 16)) (hp : 0 ≤ p) (hW : W ≤ 16) : BlU W H A F (p + 1) := fun u v hq hl => by
  obtain ⟨g1, g2, g3, g4⟩ := id hq
  by_cases e : 16 * v + u = p
  · exact absurd (by rw [show p % 16 = u by omega, show p / 16 = v by omega]; exact hq) h
  · exact r u v hq (by omega)
/-- the row's planes of colours voted so far, its green as it was -/
def W2U (κ : Hp) (A : Nat → Int) (k : Int) (F : P3) (p : Int) : Prop := ∀ x y : Int, inP (κ 0 11) (κ 0 12) x y → (16 * y + x < p → A (768 * k + (16 * y + x)).toNat = clp (F 1 x y + med (κ 0 11) (κ 0 12) F 0 x y) ∧ A (768 * k + 512 + (16 * y + x)).toNat = clp (F 1 x y + med (κ 0 11) (κ 0 12) F 2 x y)) ∧ A (768 * k + 256 + (16 * y + x)).toNat = F 1 x y
theorem W2U.st {κ : Hp} {A : Nat → Int} {k : Int} {F : P3} (r : Fu17 κ A k F) : W2U κ A k F 0 := fun x y hp => by
  obtain ⟨g1, g2, g3, g4⟩ := id hp
  have z := r 1 (by omega) x y hp
  rw [show 768 * k + 256 * 1 + 16 * y + x = 768 * k + 256 + (16 * y + x) by omega] at z
  exact ⟨fun q => absurd q (by omega), z⟩
theorem W2U.nx {κ : Hp} {A B : Nat → Int} {k : Int} {F : P3} {p x y : Int} (r : W2U κ A k F p) (hk : 0 ≤ k) (hW : κ 0 11 ≤ 16) (hH : κ 0 12 ≤ 16) (hp : inP (κ 0 11) (κ 0 12) x y) (e : p = 16 * y + x) (h1 : B (768 * k + p).toNat = clp (F 1 x y + med (κ 0 11) (κ 0 12) F 0 x y)) (h2 : B (768 * k + 512 + p).toNat = clp (F 1 x y + med (κ 0 11) (κ 0 12) F 2 x y)) (h3 : ∀ i : Nat, i ≠ (768 * k + p).toNat → i ≠ (768 * k + 512 + p).toNat → B i = A i) : W2U κ B k F (p + 1) := fun u v hq => by
  obtain ⟨k1, k2, k3, k4⟩ := id hp
  obtain ⟨g1, g2, g3, g4⟩ := id hq
  have w := r u v hq
  refine ⟨fun hl => ?_, ?_⟩
  · by_cases q : u = x ∧ v = y
    · rw [q.1, q.2, ← e]; exact ⟨h1, h2⟩
    · rw [h3 _ (by omega) (by omega), h3 _ (by omega) (by omega)]
      exact w.1 (by omega)
  · rw [h3 _ (by omega) (by omega)]
    exact w.2
theorem W2U.sk {κ : Hp} {A : Nat → Int} {k : Int} {F : P3} {p : Int} (r : W2U κ A k F p) (h : ¬ inP (κ 0 11) (κ 0 12) (p % 16) (p / 16)) (hp : 0 ≤ p) (hW : κ 0 11 ≤ 16) : W2U κ A k F (p + 1) := fun u v hq => by
  obtain ⟨g1, g2, g3, g4⟩ := id hq
  refine ⟨fun hl => ?_, (r u v hq).2⟩
  by_cases e : 16 * v + u = p
  · exact absurd (by rw [show p % 16 = u by omega, show p / 16 = v by omega]; exact hq) h
  · exact (r u v hq).1 (by omega)
theorem W2U.en {κ : Hp} {A : Nat → Int} {k : Int} {F : P3} (r : W2U κ A k F 256) (hW : κ 0 11 ≤ 16) (hH : κ 0 12 ≤ 16) : Fu17 κ A k (vc (κ 0 11) (κ 0 12) (vc (κ 0 11) (κ 0 12) F 0) 2) := fun c hc x y hp => by
  obtain ⟨g1, g2, g3, g4⟩ := id hp
  have w := r x y hp
  rw [vt_eq]
  rcases (by omega : c = 0 ∨ c = 1 ∨ c = 2) with q | q | q
  · subst q
    rw [if_neg (by decide), if_pos (Or.inl rfl), show 768 * k + 256 * 0 + 16 * y + x = 768 * k + (16 * y + x) by omega]
    exact (w.1 (by omega)).1
  · subst q
    rw [if_pos rfl, show 768 * k + 256 * 1 + 16 * y + x = 768 * k + 256 + (16 * y + x) by omega]
    exact w.2
  · subst q
    rw [if_neg (by decide), if_pos (Or.inr rfl), show 768 * k + 256 * 2 + 16 * y + x = 768 * k + 512 + (16 * y + x) by omega]
    exact (w.1 (by omega)).2

abbrev q_X12_votesZ (b : Bd) (κ : Hp) (x1 : Int) (x2 : Int) (x3 : Int) (F : P3) (gh0 : Hp) : Int → Hp → Prop := fun r h' => Fr b κ h' ∧ ((Fw [17, 19, 20] [] gh0 h') ∧ (Fu17 κ (h' 17) x3 (vtN (κ 0 11) (κ 0 12) F x1.toNat) ∧ Oth x3 (gh0 17) (h' 17)))
set_option maxHeartbeats 4000000 in
set_option maxRecDepth 20000 in
theorem s_X12_votesZ {G : Ga} {b : Bd} {κ h : Hp} (hK : KR κ) (hF : Fr b κ h) (x1 : Int) (hx1 : 0 ≤ x1 ∧ x1 ≤ 255) (x2 : Int) (hx2 : 0 ≤ x2 ∧ x2 ≤ 14) (x3 : Int) (hx3 : 0 ≤ x3 ∧ x3 ≤ 14) (F : P3) (gh0 : Hp) (hJ : Ok17 b x3) (hne : x2 ≠ x3) (hF3 : Fu17 κ (h 17) x2 F) (hb3 : FB3 (κ 0 11) (κ 0 12) F) (hge : h = gh0) (hgh : Fw [17, 19, 20] [] gh0 h) : zM G mX12_votes yX12_votes [.inr (.inr 0), .inl x1, .inl x2, .inl x3] h (q_X12_votesZ b κ x1 x2 x3 F gh0) := by
  have f_0_11 := KRw hK
  have f_0_12 := KRh hK
  have h0f : Fu17 κ (gh0 17) x2 F := by rw [← hge]; exact hF3
  have main : ∀ N : Nat, (∀ (v4 : Int) (h : Hp), Fr b κ h → (0 ≤ v4 ∧ v4 ≤ 768) → (∀ i : Int, 0 ≤ i → i < v4 → h 17 (768 * x3 + i).toNat = gh0 17 (768 * x2 + i).toNat) → (Oth x3 (gh0 17) (h 17)) → (Fw [17, 19, 20] [] gh0 h) → 445626165600 + 4318920 * (768 - v4) + 4286928 < (N : Int) → zV G mX12_votes (q_X12_votesZ b κ x1 x2 x3 F gh0) 3 [some (.inr (.inr 0)), some (.inl x1), some (.inl x2), some (.inl x3), some (.inl v4), none, none, none] [] h) ∧ (∀ (v4 : Int) (h : Hp), Fr b κ h → (0 ≤ v4 ∧ v4 ≤ 255) → (Fu17 κ (h 17) x3 (vtN (κ 0 11) (κ 0 12) F v4.toNat)) → (Oth x3 (gh0 17) (h 17)) → (v4 ≤ x1) → (Fw [17, 19, 20] [] gh0 h) → 428998323600 + 4318920 * (255 - v4) + 4126968 < (N : Int) → zV G mX12_votes (q_X12_votesZ b κ x1 x2 x3 F gh0) 46 [some (.inr (.inr 0)), some (.inl x1), some (.inl x2), some (.inl x3), some (.inl v4), none, none, none] [] h) ∧ (∀ (v4 v5 : Int) (h : Hp), Fr b κ h → (1 ≤ x1 ∧ x1 ≤ 255) → (0 ≤ v4 ∧ v4 ≤ 254) → (0 ≤ v5 ∧ v5 ≤ 256) → (Fu17 κ (h 17) x3 (vtN (κ 0 11) (κ 0 12) F v4.toNat)) → (Oth x3 (gh0 17) (h 17)) → (v4 < x1) → (BlU (κ 0 11) (κ 0 12) (h 19) (vtN (κ 0 11) (κ 0 12) F v4.toNat) v5) → (Fw [17, 19, 20] [] gh0 h) → 428998323600 + 4318920 * (255 - v4) + 3935016 + 124 * (256 - v5) + 123 < (N : Int) → zV G mX12_votes (q_X12_votesZ b κ x1 x2 x3 F gh0) 55 [some (.inr (.inr 0)), some (.inl x1), some (.inl x2), some (.inl x3), some (.inl v4), some (.inl v5), none, none] [] h) ∧ (∀ (v4 v5 : Int) (h : Hp), Fr b κ h → (1 ≤ x1 ∧ x1 ≤ 255) → (0 ≤ v4 ∧ v4 ≤ 254) → (0 ≤ v5 ∧ v5 ≤ 256) → (W2U κ (h 17) x3 (vtN (κ 0 11) (κ 0 12) F v4.toNat) v5) → (Oth x3 (gh0 17) (h 17)) → (v4 < x1) → (BlU (κ 0 11) (κ 0 12) (h 19) (vtN (κ 0 11) (κ 0 12) F v4.toNat) 256) → (Fw [17, 19, 20] [] gh0 h) → 428998323600 + 4318920 * (255 - v4) + 3775056 + 124 * (256 - v5) + 118 < (N : Int) → zV G mX12_votes (q_X12_votesZ b κ x1 x2 x3 F gh0) 166 [some (.inr (.inr 0)), some (.inl x1), some (.inl x2), some (.inl x3), some (.inl v4), some (.inl v5), none, none] [] h) := by
    intro N
    induction N with
    | zero =>
      refine ⟨?_, ?_, ?_, ?_⟩
      · intro v4 h hF g0 gc0 gc1 hgh hm
        exfalso; omega
      · intro v4 h hF g0 gc0 gc1 gc2 hgh hm
        exfalso; omega
      · intro v4 v5 h hF g0 g1 g2 gc0 gc1 gc2 gc3 hgh hm
        exfalso; omega
      · intro v4 v5 h hF g0 g1 g2 gc0 gc1 gc2 gc3 hgh hm
        exfalso; omega
    | succ N ih =>
      obtain ⟨k3, k46, k55, k166⟩ := ih
      refine ⟨?_, ?_, ?_, ?_⟩
      · intro v4 h hF g0 gc0 gc1 hgh hm
        refine zW_iload (pc' := 5) dX12_votes_0.1.1.2.1 rfl rfl ?_
        refine zW_sipush (pc' := 8) dX12_votes_0.1.1.2.2 rfl rfl ?_
        refine zV_cm_ge (tgt := 43) (pc' := 11) dX12_votes_0.1.2.1.1 rfl rfl ⟨by omega, by omega⟩ ⟨by omega, by omega⟩ (fun c8 => ?_) (fun c8 => ?_)
        · refine zW_iconst (pc' := 44) dX12_votes_1.1.2.2.2 rfl ?_
          refine zW_istore (ls' := [_, _, _, _, _, _, _, _]) (pc' := 46) dX12_votes_1.2.1.1.1 (by decide) rfl rfl rfl ?_
          exact k46 _ _ hF (by omega) (by first | exact Fu17.cp h0f (by omega) (by omega) (by omega) (by omega) (fun i h1 h2 => gc0 i h1 (by omega)) | (rw [show (v4 + 1).toNat = v4.toNat + 1 by omega]; rw [show v5 = 256 by omega] at gc0; exact gc0.en (by omega) (by omega))) gc1 (by omega) hgh (by omega)
        · refine zW_aload_n (pc' := 12) dX12_votes_0.1.2.1.2 rfl rfl ?_
          refine zG_ref (pc' := 15) 17 fg_X12_60 tb0 rfl dX12_votes_0.1.2.2.1 rfl ?_
          refine zW_sipush (pc' := 18) dX12_votes_0.1.2.2.2 rfl rfl ?_
          refine zW_iload_n (pc' := 19) dX12_votes_0.2.1.1.1 rfl rfl ?_
          refine zW_imul (pc' := 20) dX12_votes_0.2.1.1.2 rfl ?_
          refine zW_iload (pc' := 22) dX12_votes_0.2.1.2.1 rfl rfl ?_
          refine zW_iadd (pc' := 23) dX12_votes_0.2.1.2.2 rfl ?_
          refine zW_aload_n (pc' := 24) dX12_votes_0.2.2.1.1 rfl rfl ?_
          refine zG_ref (pc' := 27) 17 fg_X12_60 tb0 rfl dX12_votes_0.2.2.1.2 rfl ?_
          refine zW_sipush (pc' := 30) dX12_votes_0.2.2.2.1 rfl rfl ?_
          refine zW_iload_n (pc' := 31) dX12_votes_0.2.2.2.2 rfl rfl ?_
          refine zW_imul (pc' := 32) dX12_votes_1.1.1.1.1 rfl ?_
          refine zW_iload (pc' := 34) dX12_votes_1.1.1.1.2 rfl rfl ?_
          refine zW_iadd (pc' := 35) dX12_votes_1.1.1.2.1 rfl ?_
          refine zV_iald (pc' := 36) tb17 (by omega) dX12_votes_1.1.1.2.2 (by decide) rfl ?_
          have e35_ := hF.2.2.2.2.2.2 17 (768 * x2 + v4).toNat (by decide) (by decide)
          unfold rng at e35_
          refine zS_17 (pc' := 37) hF hJ (by omega) (by omega) dX12_votes_1.1.2.1.1 rfl (fun h i36 hF a36 b36 w36 => ?_)
          replace b36 := b36 ⟨by omega, by omega⟩
          replace hgh : Fw [17, 19, 20] [] gh0 h := by rw [w36]; exact hgh.wc (by simp)
          have ec : ∀ i : Int, 0 ≤ i → i < v4 + 1 → h 17 (768 * x3 + i).toNat = gh0 17 (768 * x2 + i).toNat := by (intro i h1 h2; rw [w36, b36]; by_cases e : i = v4; (rw [e, zwr_eq]; exact gc1 _ (by omega)); (rw [zwr_ne (Or.inr (by omega))]; exact gc0 i h1 (by omega)))
          have eo : Oth x3 (gh0 17) (h 17) := by rw [w36]; exact gc1.w (by omega)
          refine zW_iinc (ls' := [_, _, _, _, _, _, _, _]) (pc' := 40) dX12_votes_1.1.2.1.2 rfl (by decide) rfl rfl rfl ?_
          refine zV_goto 3 dX12_votes_1.1.2.2.1 rfl ?_
          exact k3 _ _ hF (by omega) (by first | exact ec | exact (fun i h1 h2 => by omega)) (by first | exact eo | (rw [hge]; exact Oth.rf)) hgh (by omega)
      · intro v4 h hF g0 gc0 gc1 gc2 hgh hm
        refine zW_iload (pc' := 48) dX12_votes_1.2.1.1.2 rfl rfl ?_
        refine zW_iload_n (pc' := 49) dX12_votes_1.2.1.2.1 rfl rfl ?_
        refine zV_cm_ge (tgt := 254) (pc' := 52) dX12_votes_1.2.1.2.2 rfl rfl ⟨by omega, by omega⟩ ⟨by omega, by omega⟩ (fun c49 => ?_) (fun c49 => ?_)
        · exact zV_vret rfl dX12_votes_8.2.2 ⟨hF, ⟨hgh, (by rw [show x1.toNat = v4.toNat by omega]; exact ⟨gc0, gc1⟩)⟩⟩
        · refine zW_iconst (pc' := 53) dX12_votes_1.2.2.1.1 rfl ?_
          refine zW_istore (ls' := [_, _, _, _, _, _, _, _]) (pc' := 55) dX12_votes_1.2.2.1.2 (by decide) rfl rfl rfl ?_
          exact k55 _ _ _ hF (by omega) (by omega) (by omega) (by first | exact gc0 | (rw [s156]; exact gc0)) (by first | exact gc1 | (rw [s156]; exact gc1)) (by omega) (by first | exact hb2 | exact (fun x y hp q => by obtain ⟨k1, k2, k3, k4⟩ := hp; omega)) hgh (by omega)
      · intro v4 v5 h hF g0 g1 g2 gc0 gc1 gc2 gc3 hgh hm
        refine zW_iload (pc' := 57) dX12_votes_1.2.2.2.1 rfl rfl ?_
        refine zW_sipush (pc' := 60) dX12_votes_1.2.2.2.2 rfl rfl ?_
        refine zV_cm_ge (tgt := 163) (pc' := 63) dX12_votes_2.1.1.1.1 rfl rfl ⟨by omega, by omega⟩ ⟨by omega, by omega⟩ (fun c60 => ?_) (fun c60 => ?_)
        · refine zW_iconst (pc' := 164) dX12_votes_5.1.2.2.2 rfl ?_
          refine zW_istore (ls' := [_, _, _, _, _, _, _, _]) (pc' := 166) dX12_votes_5.2.1.1.1 (by decide) rfl rfl rfl ?_
          exact k166 _ _ _ hF (by omega) (by omega) (by omega) (by first | exact hw2 | exact W2U.st gc0) (by first | exact ho2 | exact gc1) (by omega) (by first | exact hb2 | (rw [show (256 : Int) = v5 by omega]; exact gc3)) hgh (by omega)
        · refine zW_iload (pc' := 65) dX12_votes_2.1.1.1.2 rfl rfl ?_
          refine zW_bipush (pc' := 67) dX12_votes_2.1.1.2.1 rfl rfl ?_
          refine zW_irem (pc' := 68) (by omega) (by omega) dX12_votes_2.1.1.2.2 rfl ?_
          refine zW_istore (ls' := [_, _, _, _, _, _, _, _]) (pc' := 70) dX12_votes_2.1.2.1.1 (by decide) rfl rfl rfl ?_
          refine zW_iload (pc' := 72) dX12_votes_2.1.2.1.2 rfl rfl ?_
          refine zW_bipush (pc' := 74) dX12_votes_2.1.2.2.1 rfl rfl ?_
          refine zW_idiv (pc' := 75) (by omega) (by omega) dX12_votes_2.1.2.2.2 rfl ?_
          refine zW_istore (ls' := [_, _, _, _, _, _, _, _]) (pc' := 77) dX12_votes_2.2.1.1.1 (by decide) rfl rfl rfl ?_
          have hb5 := vtN_b hb3 v4.toNat
          obtain ⟨A7, hA7⟩ : ∃ A : Nat → Int, A = h 17 := ⟨_, rfl⟩
          obtain ⟨A9, hA9⟩ : ∃ A : Nat → Int, A = h 19 := ⟨_, rfl⟩
          rw [← hA7] at gc0 gc1
          rw [← hA9] at gc3
          refine zW_aload_n (pc' := 78) dX12_votes_2.2.1.1.2 rfl rfl ?_
          refine zW_iload (pc' := 80) dX12_votes_2.2.1.2.1 rfl rfl ?_
          refine zW_iload (pc' := 82) dX12_votes_2.2.1.2.2 rfl rfl ?_
          refine cvI2 (pc' := 85) kX12_isSquare vX12_isSquare lk_X12_218 ⟨Nat.le_of_ble_eq_true rfl, Nat.le_of_ble_eq_true rfl⟩ tb0 vq12 rfl rfl (s_X12_isSquare hK hF _ ⟨by omega, by omega⟩ _ ⟨by omega, by omega⟩) dX12_votes_2.2.2.1.1 (Nat.le_of_ble_eq_true rfl) rfl ?_
          rintro r82 z82 ⟨hz82, p82⟩; subst z82
          refine zV_if_ne (tgt := 91) (pc' := 88) dX12_votes_2.2.2.1.2 rfl rfl ⟨by omega, by omega⟩ (fun c85 => ?_) (fun c85 => ?_)
          · refine zW_aload_n (pc' := 92) dX12_votes_2.2.2.2.2 rfl rfl ?_
            refine zG_ref (pc' := 95) 19 fg_X12_66 tb0 rfl dX12_votes_3.1.1.1.1 rfl ?_
            refine zW_iload (pc' := 97) dX12_votes_3.1.1.1.2 rfl rfl ?_
            refine zW_aload_n (pc' := 98) dX12_votes_3.1.1.2.1 rfl rfl ?_
            refine zW_iload_n (pc' := 99) dX12_votes_3.1.1.2.2 rfl rfl ?_
            refine zW_iconst (pc' := 100) dX12_votes_3.1.2.1.1 rfl ?_
            refine zW_iload (pc' := 102) dX12_votes_3.1.2.1.2 rfl rfl ?_
            refine zW_iload (pc' := 104) dX12_votes_3.1.2.2.1 rfl rfl ?_
            refine cvI4 (pc' := 107) kX12_at vX12_at lk_X12_277 ⟨Nat.le_of_ble_eq_true rfl, Nat.le_of_ble_eq_true rfl⟩ tb0 vq12 rfl rfl (s_X12_atZ hK hF _ ⟨by omega, by omega⟩ _ ⟨by omega, by omega⟩ _ ⟨by omega, by omega, by omega⟩ _ ⟨by omega, by omega, by omega⟩ ((vtN (κ 0 11) (κ 0 12) F v4.toNat) 1) (by rw [← hA7]; exact gc0 1 (by omega)) (hb5 1 (by omega))) dX12_votes_3.1.2.2.2 (Nat.le_of_ble_eq_true rfl) rfl ?_
            rintro r104 z104 ⟨hz104, p104⟩; subst z104
            have mx := mir_i (v := (v5 % 16)) (n := κ 0 11) ⟨by omega, by omega⟩
            have my := mir_i (v := (v5 / 16)) (n := κ 0 12) ⟨by omega, by omega⟩
            have k104 := p104.2.2
            rw [mx, my] at k104
            refine zW_aload_n (pc' := 108) dX12_votes_3.2.1.1.1 rfl rfl ?_
            refine zW_iload_n (pc' := 109) dX12_votes_3.2.1.1.2 rfl rfl ?_
            refine zW_iconst (pc' := 110) dX12_votes_3.2.1.2.1 rfl ?_
            refine zW_iload (pc' := 112) dX12_votes_3.2.1.2.2 rfl rfl ?_
            refine zW_iload (pc' := 114) dX12_votes_3.2.2.1.1 rfl rfl ?_
            refine cvI4 (pc' := 117) kX12_median vX12_median lk_X12_289 ⟨Nat.le_of_ble_eq_true rfl, Nat.le_of_ble_eq_true rfl⟩ tb0 vq12 rfl rfl (s_X12_medianZ hK hF _ ⟨by omega, by omega⟩ _ ⟨by omega, by omega⟩ _ ⟨by omega, by omega, by omega⟩ _ ⟨by omega, by omega, by omega⟩ (vtN (κ 0 11) (κ 0 12) F v4.toNat) h (by rw [← hA7]; exact gc0) hb5 Fw.rf) dX12_votes_3.2.2.1.2 (Nat.le_of_ble_eq_true rfl) rfl ?_
            rintro r114 h ⟨hF, d114, p114⟩
            replace hgh : Fw [17, 19, 20] [] gh0 h := hgh.tr d114 (by simp) (by simp)
            have s114 : h 17 = A7 := by rw [d114.cell (k := 17) (by intro c hc; simp at hc <;> omega) (by intro c hc; simp at hc <;> omega)]; exact hA7.symm
            have c114 : h 19 = A9 := by rw [d114.cell (k := 19) (by intro c hc; simp at hc <;> omega) (by intro c hc; simp at hc <;> omega)]; exact hA9.symm
            refine zW_iadd (pc' := 118) dX12_votes_3.2.2.2.1 rfl ?_
            refine csI1 (pc' := 121) kX12_clipped vX12_clipped lk_X12_239 ⟨Nat.le_of_ble_eq_true rfl, Nat.le_of_ble_eq_true rfl⟩ rfl (s_X12_clippedZ hF _ ⟨by omega, by omega⟩) dX12_votes_3.2.2.2.2 (Nat.le_of_ble_eq_true rfl) rfl ?_
            rintro r118 z118 ⟨hz118, p118⟩; subst z118
            refine zS_i (pc' := 122) hF sr19 tb19 (by omega) dX12_votes_4.1.1.1.1 (by decide) rfl (fun h i121 hF a121 b121 w121 => ?_)
            replace b121 := b121 ⟨by omega, by omega⟩
            replace hgh : Fw [17, 19, 20] [] gh0 h := by rw [w121]; exact hgh.wc (by simp)
            have s121 : h 17 = A7 := by rw [w121, zfun (by decide)]; exact s114
            have n121 : h 19 v5.toNat = r118 ∧ ∀ i : Nat, i ≠ v5.toNat → h 19 i = A9 i := by rw [w121, b121]; exact ⟨zwr_eq, fun i hi => (zwr_ne (Or.inr hi)).trans (by rw [c114])⟩
            refine zW_aload_n (pc' := 123) dX12_votes_4.1.1.1.2 rfl rfl ?_
            refine zG_ref (pc' := 126) 19 fg_X12_66 tb0 rfl dX12_votes_4.1.1.2.1 rfl ?_
            refine zW_sipush (pc' := 129) dX12_votes_4.1.1.2.2 rfl rfl ?_
            refine zW_iload (pc' := 131) dX12_votes_4.1.2.1.1 rfl rfl ?_
            refine zW_iadd (pc' := 132) dX12_votes_4.1.2.1.2 rfl ?_
            refine zW_aload_n (pc' := 133) dX12_votes_4.1.2.2.1 rfl rfl ?_
            refine zW_iload_n (pc' := 134) dX12_votes_4.1.2.2.2 rfl rfl ?_
            refine zW_iconst (pc' := 135) dX12_votes_4.2.1.1.1 rfl ?_
            refine zW_iload (pc' := 137) dX12_votes_4.2.1.1.2 rfl rfl ?_
            refine zW_iload (pc' := 139) dX12_votes_4.2.1.2.1 rfl rfl ?_
            refine cvI4 (pc' := 142) kX12_at vX12_at lk_X12_277 ⟨Nat.le_of_ble_eq_true rfl, Nat.le_of_ble_eq_true rfl⟩ tb0 vq12 rfl rfl (s_X12_atZ hK hF _ ⟨by omega, by omega⟩ _ ⟨by omega, by omega⟩ _ ⟨by omega, by omega, by omega⟩ _ ⟨by omega, by omega, by omega⟩ ((vtN (κ 0 11) (κ 0 12) F v4.toNat) 1) (by rw [s121]; exact gc0 1 (by omega)) (hb5 1 (by omega))) dX12_votes_4.2.1.2.2 (Nat.le_of_ble_eq_true rfl) rfl ?_
            rintro r139 z139 ⟨hz139, p139⟩; subst z139
            have k139 := p139.2.2
            rw [mx, my] at k139
            refine zW_aload_n (pc' := 143) dX12_votes_4.2.2.1.1 rfl rfl ?_
            refine zW_iload_n (pc' := 144) dX12_votes_4.2.2.1.2 rfl rfl ?_
            refine zW_iconst (pc' := 145) dX12_votes_4.2.2.2.1 rfl ?_
            refine zW_iload (pc' := 147) dX12_votes_4.2.2.2.2 rfl rfl ?_
            refine zW_iload (pc' := 149) dX12_votes_5.1.1.1.1 rfl rfl ?_
            refine cvI4 (pc' := 152) kX12_median vX12_median lk_X12_289 ⟨Nat.le_of_ble_eq_true rfl, Nat.le_of_ble_eq_true rfl⟩ tb0 vq12 rfl rfl (s_X12_medianZ hK hF _ ⟨by omega, by omega⟩ _ ⟨by omega, by omega⟩ _ ⟨by omega, by omega, by omega⟩ _ ⟨by omega, by omega, by omega⟩ (vtN (κ 0 11) (κ 0 12) F v4.toNat) h (by rw [s121]; exact gc0) hb5 Fw.rf) dX12_votes_5.1.1.1.2 (Nat.le_of_ble_eq_true rfl) rfl ?_
            rintro r149 h ⟨hF, d149, p149⟩
            replace hgh : Fw [17, 19, 20] [] gh0 h := hgh.tr d149 (by simp) (by simp)
            have s149 : h 17 = A7 := by rw [d149.cell (k := 17) (by intro c hc; simp at hc <;> omega) (by intro c hc; simp at hc <;> omega)]; exact s121
            have n149 : h 19 v5.toNat = r118 ∧ ∀ i : Nat, i ≠ v5.toNat → h 19 i = A9 i := by rw [d149.cell (k := 19) (by intro c hc; simp at hc <;> omega) (by intro c hc; simp at hc <;> omega)]; exact n121
            refine zW_iadd (pc' := 153) dX12_votes_5.1.1.2.1 rfl ?_
            refine csI1 (pc' := 156) kX12_clipped vX12_clipped lk_X12_239 ⟨Nat.le_of_ble_eq_true rfl, Nat.le_of_ble_eq_true rfl⟩ rfl (s_X12_clippedZ hF _ ⟨by omega, by omega⟩) dX12_votes_5.1.1.2.2 (Nat.le_of_ble_eq_true rfl) rfl ?_
            rintro r153 z153 ⟨hz153, p153⟩; subst z153
            refine zS_i (pc' := 157) hF sr19 tb19 (by omega) dX12_votes_5.1.2.1.1 (by decide) rfl (fun h i156 hF a156 b156 w156 => ?_)
            replace b156 := b156 ⟨by omega, by omega⟩
            replace hgh : Fw [17, 19, 20] [] gh0 h := by rw [w156]; exact hgh.wc (by simp)
            first | (have s156 : h 17 = A7 := by rw [w156, zfun (by decide)]; exact s149) | (have s156 : h 17 = A7 := hA7.symm)
            first | (have hb2 : BlU (κ 0 11) (κ 0 12) (h 19) (vtN (κ 0 11) (κ 0 12) F v4.toNat) (v5 + 1) := by rw [w156, b156]; exact gc3.nx (by omega) (by omega) (x := (v5 % 16)) (y := (v5 / 16)) ⟨by omega, by omega, by omega, by omega⟩ (by omega) (by rw [zwr_ne (Or.inr (by omega)), n149.1, p118.2.2, k104, p114.2.2]) (by rw [zwr_eq, p153.2.2, k139, p149.2.2]) (fun i h1 h2 => (zwr_ne (Or.inr h2)).trans (n149.2 i h1))) | (have hb2 : BlU (κ 0 11) (κ 0 12) (h 19) (vtN (κ 0 11) (κ 0 12) F v4.toNat) (v5 + 1) := by rw [← hA9]; exact gc3.sk (fun q => by obtain ⟨q1, q2, q3, q4⟩ := q; omega) (by omega) (by omega))
            refine zW_iinc (ls' := [_, _, _, _, _, _, _, _]) (pc' := 160) dX12_votes_5.1.2.1.2 rfl (by decide) rfl rfl rfl ?_
            refine zV_goto 55 dX12_votes_5.1.2.2.1 rfl ?_
            refine zV_clr 6 (ls' := [_, _, _, _, _, _, _, _]) rfl ?_
            refine zV_clr 7 (ls' := [_, _, _, _, _, _, _, _]) rfl ?_
            exact k55 _ _ _ hF (by omega) (by omega) (by omega) (by first | exact gc0 | (rw [s156]; exact gc0)) (by first | exact gc1 | (rw [s156]; exact gc1)) (by omega) (by first | exact hb2 | exact (fun x y hp q => by obtain ⟨k1, k2, k3, k4⟩ := hp; omega)) hgh (by omega)
          · refine zV_goto 157 dX12_votes_2.2.2.2.1 rfl ?_
            first | (have s156 : h 17 = A7 := by rw [w156, zfun (by decide)]; exact s149) | (have s156 : h 17 = A7 := hA7.symm)
            first | (have hb2 : BlU (κ 0 11) (κ 0 12) (h 19) (vtN (κ 0 11) (κ 0 12) F v4.toNat) (v5 + 1) := by rw [w156, b156]; exact gc3.nx (by omega) (by omega) (x := (v5 % 16)) (y := (v5 / 16)) ⟨by omega, by omega, by omega, by omega⟩ (by omega) (by rw [zwr_ne (Or.inr (by omega)), n149.1, p118.2.2, k104, p114.2.2]) (by rw [zwr_eq, p153.2.2, k139, p149.2.2]) (fun i h1 h2 => (zwr_ne (Or.inr h2)).trans (n149.2 i h1))) | (have hb2 : BlU (κ 0 11) (κ 0 12) (h 19) (vtN (κ 0 11) (κ 0 12) F v4.toNat) (v5 + 1) := by rw [← hA9]; exact gc3.sk (fun q => by obtain ⟨q1, q2, q3, q4⟩ := q; omega) (by omega) (by omega))
            refine zW_iinc (ls' := [_, _, _, _, _, _, _, _]) (pc' := 160) dX12_votes_5.1.2.1.2 rfl (by decide) rfl rfl rfl ?_
            refine zV_goto 55 dX12_votes_5.1.2.2.1 rfl ?_
            refine zV_clr 6 (ls' := [_, _, _, _, _, _, _, _]) rfl ?_
            refine zV_clr 7 (ls' := [_, _, _, _, _, _, _, _]) rfl ?_
            exact k55 _ _ _ hF (by omega) (by omega) (by omega) (by first | exact gc0 | (rw [s156]; exact gc0)) (by first | exact gc1 | (rw [s156]; exact gc1)) (by omega) (by first | exact hb2 | exact (fun x y hp q => by obtain ⟨k1, k2, k3, k4⟩ := hp; omega)) hgh (by omega)
      · intro v4 v5 h hF g0 g1 g2 gc0 gc1 gc2 gc3 hgh hm
        refine zW_iload (pc' := 168) dX12_votes_5.2.1.1.2 rfl rfl ?_
        refine zW_sipush (pc' := 171) dX12_votes_5.2.1.2.1 rfl rfl ?_
        refine zV_cm_ge (tgt := 248) (pc' := 174) dX12_votes_5.2.1.2.2 rfl rfl ⟨by omega, by omega⟩ ⟨by omega, by omega⟩ (fun c171 => ?_) (fun c171 => ?_)
        · refine zW_iinc (ls' := [_, _, _, _, _, _, _, _]) (pc' := 251) dX12_votes_8.2.1.1 rfl (by decide) rfl rfl rfl ?_
          refine zV_goto 46 dX12_votes_8.2.1.2 rfl ?_
          refine zV_clr 5 (ls' := [_, _, _, _, _, _, _, _]) rfl ?_
          exact k46 _ _ hF (by omega) (by first | exact Fu17.cp h0f (by omega) (by omega) (by omega) (by omega) (fun i h1 h2 => gc0 i h1 (by omega)) | (rw [show (v4 + 1).toNat = v4.toNat + 1 by omega]; rw [show v5 = 256 by omega] at gc0; exact gc0.en (by omega) (by omega))) gc1 (by omega) hgh (by omega)
        · refine zW_aload_n (pc' := 175) dX12_votes_5.2.2.1.1 rfl rfl ?_
          refine zW_iload (pc' := 177) dX12_votes_5.2.2.1.2 rfl rfl ?_
          refine zW_bipush (pc' := 179) dX12_votes_5.2.2.2.1 rfl rfl ?_
          refine zW_irem (pc' := 180) (by omega) (by omega) dX12_votes_5.2.2.2.2 rfl ?_
          refine zW_iload (pc' := 182) dX12_votes_6.1.1.1.1 rfl rfl ?_
          refine zW_bipush (pc' := 184) dX12_votes_6.1.1.1.2 rfl rfl ?_
          refine zW_idiv (pc' := 185) (by omega) (by omega) dX12_votes_6.1.1.2.1 rfl ?_
          refine cvI2 (pc' := 188) kX12_isSquare vX12_isSquare lk_X12_218 ⟨Nat.le_of_ble_eq_true rfl, Nat.le_of_ble_eq_true rfl⟩ tb0 vq12 rfl rfl (s_X12_isSquare hK hF _ ⟨by omega, by omega⟩ _ ⟨by omega, by omega⟩) dX12_votes_6.1.1.2.2 (Nat.le_of_ble_eq_true rfl) rfl ?_
          rintro r185 z185 ⟨hz185, p185⟩; subst z185
          refine zV_if_ne (tgt := 194) (pc' := 191) dX12_votes_6.1.2.1.1 rfl rfl ⟨by omega, by omega⟩ (fun c188 => ?_) (fun c188 => ?_)
          · have pq : inP (κ 0 11) (κ 0 12) (v5 % 16) (v5 / 16) := ⟨by omega, by omega, by omega, by omega⟩
            have k19 := gc3 (v5 % 16) (v5 / 16) pq (by omega)
            rw [show 16 * (v5 / 16) + v5 % 16 = v5 by omega] at k19
            obtain ⟨A7, hA7⟩ : ∃ A : Nat → Int, A = h 17 := ⟨_, rfl⟩
            obtain ⟨A9, hA9⟩ : ∃ A : Nat → Int, A = h 19 := ⟨_, rfl⟩
            rw [← hA7] at gc0 gc1
            rw [← hA9] at gc3 k19
            refine zW_aload_n (pc' := 195) dX12_votes_6.1.2.2.1 rfl rfl ?_
            refine zG_ref (pc' := 198) 17 fg_X12_60 tb0 rfl dX12_votes_6.1.2.2.2 rfl ?_
            refine zW_sipush (pc' := 201) dX12_votes_6.2.1.1.1 rfl rfl ?_
            refine zW_iload_n (pc' := 202) dX12_votes_6.2.1.1.2 rfl rfl ?_
            refine zW_imul (pc' := 203) dX12_votes_6.2.1.2.1 rfl ?_
            refine zW_iload (pc' := 205) dX12_votes_6.2.1.2.2 rfl rfl ?_
            refine zW_iadd (pc' := 206) dX12_votes_6.2.2.1.1 rfl ?_
            refine zW_aload_n (pc' := 207) dX12_votes_6.2.2.1.2 rfl rfl ?_
            refine zG_ref (pc' := 210) 19 fg_X12_66 tb0 rfl dX12_votes_6.2.2.2.1 rfl ?_
            refine zW_iload (pc' := 212) dX12_votes_6.2.2.2.2 rfl rfl ?_
            refine zV_iald (pc' := 213) tb19 (by omega) dX12_votes_7.1.1.1.1 (by decide) rfl ?_
            have e212_ := hF.2.2.2.2.2.2 19 v5.toNat (by decide) (by decide)
            unfold rng at e212_
            refine zS_17 (pc' := 214) hF hJ (by omega) (by omega) dX12_votes_7.1.1.1.2 rfl (fun h i213 hF a213 b213 w213 => ?_)
            replace b213 := b213 ⟨by omega, by omega⟩
            replace hgh : Fw [17, 19, 20] [] gh0 h := by rw [w213]; exact hgh.wc (by simp)
            have n213 : h 17 (768 * x3 + v5).toNat = clp ((vtN (κ 0 11) (κ 0 12) F v4.toNat) 1 (v5 % 16) (v5 / 16) + med (κ 0 11) (κ 0 12) (vtN (κ 0 11) (κ 0 12) F v4.toNat) 0 (v5 % 16) (v5 / 16)) ∧ ∀ i : Nat, i ≠ (768 * x3 + v5).toNat → h 17 i = A7 i := by rw [w213, b213]; exact ⟨zwr_eq.trans (by rw [← hA9]; exact k19.1), fun i hi => (zwr_ne (Or.inr hi)).trans (by rw [hA7])⟩
            have s213 : h 19 = A9 := by rw [w213, zfun (by decide)]; exact hA9.symm
            refine zW_aload_n (pc' := 215) dX12_votes_7.1.1.2.1 rfl rfl ?_
            refine zG_ref (pc' := 218) 17 fg_X12_60 tb0 rfl dX12_votes_7.1.1.2.2 rfl ?_
            refine zW_sipush (pc' := 221) dX12_votes_7.1.2.1.1 rfl rfl ?_
            refine zW_iload_n (pc' := 222) dX12_votes_7.1.2.1.2 rfl rfl ?_
            refine zW_imul (pc' := 223) dX12_votes_7.1.2.2.1 rfl ?_
            refine zW_sipush (pc' := 226) dX12_votes_7.1.2.2.2 rfl rfl ?_
            refine zW_iadd (pc' := 227) dX12_votes_7.2.1.1.1 rfl ?_
            refine zW_iload (pc' := 229) dX12_votes_7.2.1.1.2 rfl rfl ?_
            refine zW_iadd (pc' := 230) dX12_votes_7.2.1.2.1 rfl ?_
            refine zW_aload_n (pc' := 231) dX12_votes_7.2.1.2.2 rfl rfl ?_
            refine zG_ref (pc' := 234) 19 fg_X12_66 tb0 rfl dX12_votes_7.2.2.1.1 rfl ?_
            refine zW_sipush (pc' := 237) dX12_votes_7.2.2.1.2 rfl rfl ?_
            refine zW_iload (pc' := 239) dX12_votes_7.2.2.2.1 rfl rfl ?_
            refine zW_iadd (pc' := 240) dX12_votes_7.2.2.2.2 rfl ?_
            refine zV_iald (pc' := 241) tb19 (by omega) dX12_votes_8.1.1.1 (by decide) rfl ?_
            have e240_ := hF.2.2.2.2.2.2 19 (256 + v5).toNat (by decide) (by decide)
            unfold rng at e240_
            refine zS_17 (pc' := 242) hF hJ (by omega) (by omega) dX12_votes_8.1.1.2 rfl (fun h i241 hF a241 b241 w241 => ?_)
            replace b241 := b241 ⟨by omega, by omega⟩
            replace hgh : Fw [17, 19, 20] [] gh0 h := by rw [w241]; exact hgh.wc (by simp)
            first | (have n241 : h 17 (768 * x3 + v5).toNat = clp ((vtN (κ 0 11) (κ 0 12) F v4.toNat) 1 (v5 % 16) (v5 / 16) + med (κ 0 11) (κ 0 12) (vtN (κ 0 11) (κ 0 12) F v4.toNat) 0 (v5 % 16) (v5 / 16)) ∧ h 17 (768 * x3 + 512 + v5).toNat = clp ((vtN (κ 0 11) (κ 0 12) F v4.toNat) 1 (v5 % 16) (v5 / 16) + med (κ 0 11) (κ 0 12) (vtN (κ 0 11) (κ 0 12) F v4.toNat) 2 (v5 % 16) (v5 / 16)) ∧ ∀ i : Nat, i ≠ (768 * x3 + v5).toNat → i ≠ (768 * x3 + 512 + v5).toNat → h 17 i = A7 i := by (rw [w241, b241]; refine ⟨(zwr_ne (Or.inr (by omega))).trans n213.1, zwr_eq.trans (by rw [s213]; exact k19.2), fun i hi hi2 => (zwr_ne (Or.inr hi2)).trans (n213.2 i hi)⟩)) | skip
            first | (have hw2 : W2U κ (h 17) x3 (vtN (κ 0 11) (κ 0 12) F v4.toNat) (v5 + 1) := by exact gc0.nx (by omega) (by omega) (by omega) pq (by omega) n241.1 n241.2.1 n241.2.2) | (have hw2 : W2U κ (h 17) x3 (vtN (κ 0 11) (κ 0 12) F v4.toNat) (v5 + 1) := by exact gc0.sk (fun q => by obtain ⟨q1, q2, q3, q4⟩ := q; omega) (by omega) (by omega))
            first | (have ho2 : Oth x3 (gh0 17) (h 17) := fun i hi => (n241.2.2 i (by omega) (by omega)).trans (gc1 i hi)) | (have ho2 : Oth x3 (gh0 17) (h 17) := gc1)
            first | (have hb2 : BlU (κ 0 11) (κ 0 12) (h 19) (vtN (κ 0 11) (κ 0 12) F v4.toNat) 256 := by rw [w241, zfun (by decide), s213]; exact gc3) | (have hb2 : BlU (κ 0 11) (κ 0 12) (h 19) (vtN (κ 0 11) (κ 0 12) F v4.toNat) 256 := gc3)
            refine zW_iinc (ls' := [_, _, _, _, _, _, _, _]) (pc' := 245) dX12_votes_8.1.2.1 rfl (by decide) rfl rfl rfl ?_
            refine zV_goto 166 dX12_votes_8.1.2.2 rfl ?_
            exact k166 _ _ _ hF (by omega) (by omega) (by omega) (by first | exact hw2 | exact W2U.st gc0) (by first | exact ho2 | exact gc1) (by omega) (by first | exact hb2 | (rw [show (256 : Int) = v5 by omega]; exact gc3)) hgh (by omega)
          · refine zV_goto 242 dX12_votes_6.1.2.1.2 rfl ?_
            first | (have n241 : h 17 (768 * x3 + v5).toNat = clp ((vtN (κ 0 11) (κ 0 12) F v4.toNat) 1 (v5 % 16) (v5 / 16) + med (κ 0 11) (κ 0 12) (vtN (κ 0 11) (κ 0 12) F v4.toNat) 0 (v5 % 16) (v5 / 16)) ∧ h 17 (768 * x3 + 512 + v5).toNat = clp ((vtN (κ 0 11) (κ 0 12) F v4.toNat) 1 (v5 % 16) (v5 / 16) + med (κ 0 11) (κ 0 12) (vtN (κ 0 11) (κ 0 12) F v4.toNat) 2 (v5 % 16) (v5 / 16)) ∧ ∀ i : Nat, i ≠ (768 * x3 + v5).toNat → i ≠ (768 * x3 + 512 + v5).toNat → h 17 i = A7 i := by (rw [w241, b241]; refine ⟨(zwr_ne (Or.inr (by omega))).trans n213.1, zwr_eq.trans (by rw [s213]; exact k19.2), fun i hi hi2 => (zwr_ne (Or.inr hi2)).trans (n213.2 i hi)⟩)) | skip
            first | (have hw2 : W2U κ (h 17) x3 (vtN (κ 0 11) (κ 0 12) F v4.toNat) (v5 + 1) := by exact gc0.nx (by omega) (by omega) (by omega) pq (by omega) n241.1 n241.2.1 n241.2.2) | (have hw2 : W2U κ (h 17) x3 (vtN (κ 0 11) (κ 0 12) F v4.toNat) (v5 + 1) := by exact gc0.sk (fun q => by obtain ⟨q1, q2, q3, q4⟩ := q; omega) (by omega) (by omega))
            first | (have ho2 : Oth x3 (gh0 17) (h 17) := fun i hi => (n241.2.2 i (by omega) (by omega)).trans (gc1 i hi)) | (have ho2 : Oth x3 (gh0 17) (h 17) := gc1)
            first | (have hb2 : BlU (κ 0 11) (κ 0 12) (h 19) (vtN (κ 0 11) (κ 0 12) F v4.toNat) 256 := by rw [w241, zfun (by decide), s213]; exact gc3) | (have hb2 : BlU (κ 0 11) (κ 0 12) (h 19) (vtN (κ 0 11) (κ 0 12) F v4.toNat) 256 := gc3)
            refine zW_iinc (ls' := [_, _, _, _, _, _, _, _]) (pc' := 245) dX12_votes_8.1.2.1 rfl (by decide) rfl rfl rfl ?_
            refine zV_goto 166 dX12_votes_8.1.2.2 rfl ?_
            exact k166 _ _ _ hF (by omega) (by omega) (by omega) (by first | exact hw2 | exact W2U.st gc0) (by first | exact ho2 | exact gc1) (by omega) (by first | exact hb2 | (rw [show (256 : Int) = v5 by omega]; exact gc3)) hgh (by omega)
  refine zM_of [some (.inr (.inr 0)), some (.inl x1), some (.inl x2), some (.inl x3), none, none, none, none] 4 rfl rfl (Nat.le_of_ble_eq_true rfl) rfl ?_
  refine zW_iconst (pc' := 1) dX12_votes_0.1.1.1.1 rfl ?_
  refine zW_istore (ls' := [_, _, _, _, _, _, _, _]) (pc' := 3) dX12_votes_0.1.1.1.2 (by decide) rfl rfl rfl ?_
  exact (main 10000000000000000000000000000000000000000).1 _ _ hF (by omega) (by first | exact ec | exact (fun i h1 h2 => by omega)) (by first | exact eo | (rw [hge]; exact Oth.rf)) hgh (by omega)
