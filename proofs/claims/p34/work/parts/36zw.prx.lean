/-! how far from the truth -/
def trN (W H : Int) (A : Nat → Int) : P3 := fun c x y => if (0 ≤ c ∧ c ≤ 2) ∧ (0 ≤ x ∧ x < W ∧ 0 ≤ y ∧ y < H) then A (256 * c + 16 * y + x).toNat else 0
def trV (tf W H : Int) (A : Nat → Int) : P3 := if tf = 0 then fun _ _ _ => 0 else trN W H A
theorem trV_in {tf W H : Int} {A : Nat → Int} (h : tf ≠ 0) {c x y : Int} (hc : 0 ≤ c ∧ c ≤ 2) (hp : inP W H x y) : trV tf W H A c x y = A (256 * c + 16 * y + x).toNat := by
  unfold trV
  rw [if_neg h]
  exact if_pos ⟨hc, hp⟩
theorem trV_eq {tf W H : Int} {A B : Nat → Int} (hW : W ≤ 16) (hH : H ≤ 16) (h : tf ≠ 0 → ∀ j : Nat, j < 768 → ((j % 16 : Nat) : Int) < W → ((j % 256 / 16 : Nat) : Int) < H → A j = B j) : trV tf W H A = trV tf W H B := by
  unfold trV
  by_cases e : tf = 0
  · rw [if_pos e, if_pos e]
  · rw [if_neg e, if_neg e]
    funext c x y
    unfold trN
    by_cases q : (0 ≤ c ∧ c ≤ 2) ∧ (0 ≤ x ∧ x < W ∧ 0 ≤ y ∧ y < H)
    · rw [if_pos q, if_pos q]
      obtain ⟨hc, p1, p2, p3, p4⟩ := q
      exact h e _ (by omega) (by omega) (by omega)
    · rw [if_neg q, if_neg q]
/-- the truth's levels are 0 to 255 -/
def TrB (tf W H : Int) (A : Nat → Int) : Prop := tf ≠ 0 → ∀ c x y : Int, 0 ≤ c ∧ c ≤ 2 → inP W H x y → 0 ≤ A (256 * c + 16 * y + x).toNat ∧ A (256 * c + 16 * y + x).toNat ≤ 255
theorem TrB_of {tf W H : Int} {A : Nat → Int} (hW : W ≤ 16) (hH : H ≤ 16) (h : tf ≠ 0 → ∀ j : Nat, j < 768 → ((j % 16 : Nat) : Int) < W → ((j % 256 / 16 : Nat) : Int) < H → 0 ≤ A j ∧ A j ≤ 255) : TrB tf W H A := fun e c x y hc hp => by
  obtain ⟨p1, p2, p3, p4⟩ := hp
  exact h e _ (by omega) (by omega) (by omega)
/-- where the truth's values stand -/
def TrO (W H : Int) (A : Nat → Int) (c : Int) (t : Int → Int → Int) : Prop := ∀ x y : Int, inP W H x y → A (256 * c + 16 * y + x).toNat = t x y ∧ 0 ≤ t x y ∧ t x y ≤ 255
theorem TrO_of {tf W H : Int} {A : Nat → Int} (e : tf ≠ 0) (b : TrB tf W H A) {c : Int} (hc : 0 ≤ c ∧ c ≤ 2) : TrO W H A c (trV tf W H A c) := fun x y hp => by
  rw [trV_in e hc hp]
  exact ⟨rfl, b e c x y hc hp⟩
def erT (g t : Int → Int → Int) (x y : Int) : Int := ab (g x y - 16 * t x y)
def erS (g t : Int → Int → Int) (x y : Int) : Int := erT g t x y * erT g t x y
def er3 (W H w : Int) (g t : Int → Int → Int) : Int := if w = 0 then sumS (erT g t) W.toNat H.toNat else if w = 1 then mxS (erT g t) W.toNat H.toNat else sumS (erS g t) W.toNat H.toNat
def erQ (W H P n : Int) (lt bh : Int → Int) (pc : Int → P3) (nm : Int → Nat → Int) (tf : Int) (tr : P3) (k c w : Int) : Int := if 0 ≤ k ∧ k ≤ n ∧ 0 ≤ c ∧ c ≤ 2 ∧ 0 ≤ w ∧ w ≤ 2 then (if bh k = 1 then (if tf = 0 then -4 else er3 W H w (pc k c) (tr c)) else -3) else -1
theorem cx4_eq {α : Type} (Q : Int → Int → Int → Int → (Int → Int) → (Int → Int) → (Int → P3) → (Int → Nat → Int) → Int → P3 → α) {h h1 : Hp} (e : ∀ k i, key k i = true → h1 k i = h k i) (hR : KR h) (eW : h 33 0 = h 0 11) (eH : h 33 1 = h 0 12) (eP : h 33 2 = h 0 13) (en : h 41 0 = h 0 14) (hv : ∀ j : Nat, j < 256 → h 34 j = h 1 j) (hd : ∀ j : Nat, j < 256 → h 35 j = h 10 j) (t : TR (h 0 14) (LC h) (AC h) (h 44) (h 3) (h 4) (h 5)) (ef : h 39 1 = h 0 21) (et : h 0 21 ≠ 0 → ∀ j : Nat, j < 768 → ((j % 16 : Nat) : Int) < h 0 11 → ((j % 256 / 16 : Nat) : Int) < h 0 12 → h 40 j = h 2 j) : Q (h 33 0) (h 33 1) (h 33 2) (h 41 0) (ltV (LC h) (h 41 0)) (bhV (LC h) (h 41 0)) (pcV (h 41 0) (PFc h)) (nmV (h 41 0) (XNc h)) (h 39 1) (trV (h 39 1) (h 33 0) (h 33 1) (h 40)) = Q (h1 0 11) (h1 0 12) (h1 0 13) (h1 0 14) (ltV (h1 3) (h1 0 14)) (bhV (h1 3) (h1 0 14)) (pcV (h1 0 14) (PF h1)) (nmV (h1 0 14) (XN (h1 4) (h1 5))) (h1 0 21) (trV (h1 0 21) (h1 0 11) (h1 0 12) (h1 2)) := by
  have ed : trV (h 39 1) (h 33 0) (h 33 1) (h 40) = trV (h1 0 21) (h1 0 11) (h1 0 12) (h1 2) := by
    rw [eW, eH, ef, e 0 11 rfl, e 0 12 rfl, e 0 21 rfl, show h1 2 = h 2 from funext fun i => e 2 i rfl]
    exact trV_eq (KRw hR).2 (KRh hR).2 et
  rw [ed, ef, ← e 0 21 rfl]
  exact cx_eq (fun W H P n lt bh pc nm => Q W H P n lt bh pc nm (h1 0 21) (trV (h1 0 21) (h1 0 11) (h1 0 12) (h1 2))) e hR eW eH eP en hv hd t

abbrev q_X12_errorOfZ (κ h : Hp) (x1 : Int) (x2 : Int) (x3 : Int) (g : Int → Int → Int) (t : Int → Int → Int) : Int → Hp → Prop := fun r h' => h' = h ∧ ((r = er3 (κ 0 11) (κ 0 12) x3 g t))
set_option maxHeartbeats 4000000 in
set_option maxRecDepth 20000 in
theorem s_X12_errorOfZ {G : Ga} {b : Bd} {κ h : Hp} (hK : KR κ) (hF : Fr b κ h) (x1 : Int) (hx1 : 0 ≤ x1 ∧ x1 ≤ 14) (x2 : Int) (hx2 : 0 ≤ x2 ∧ x2 ≤ 2) (x3 : Int) (hx3 : 0 ≤ x3 ∧ x3 ≤ 2) (g : Int → Int → Int) (t : Int → Int → Int) (hg : Pl17 κ (h 17) x1 x2 g) (hgb : FB (κ 0 11) (κ 0 12) g) (ht : TrO (κ 0 11) (κ 0 12) (κ 2) x2 t) : zM G mX12_errorOf yX12_errorOf [.inr (.inr 0), .inl x1, .inl x2, .inl x3] h (q_X12_errorOfZ κ h x1 x2 x3 g t) := by
  have f_0_11 := KRw hK
  have f_0_12 := KRh hK
  have main : ∀ N : Nat, (∀ (v4 v6 v8 v10 : Int) , (0 ≤ v10 ∧ v10 ≤ 16) → (v10 - κ 0 12 ≤ 0) → (v4 = sumS (erT g t) (κ 0 11).toNat v10.toNat) → (v6 = mxS (erT g t) (κ 0 11).toNat v10.toNat) → (v8 = sumS (erS g t) (κ 0 11).toNat v10.toNat) → (0 ≤ v6 ∧ v6 ≤ 8175) → 79050816 + 64584 * (16 - v10) + 63648 < (N : Int) → zV G mX12_errorOf (q_X12_errorOfZ κ h x1 x2 x3 g t) 12 [some (.inr (.inr 0)), some (.inl x1), some (.inl x2), some (.inl x3), some (.inr (.inl v4)), none, some (.inr (.inl v6)), none, some (.inr (.inl v8)), none, some (.inl v10), none, none, none] [] h) ∧ (∀ (v4 v6 v8 v10 v11 : Int) , (0 ≤ v10 ∧ v10 ≤ 15) → (v10 - κ 0 12 ≤ -1) → (0 ≤ v11 ∧ v11 ≤ 16) → (v11 - κ 0 11 ≤ 0) → (v4 = sumS (erT g t) (κ 0 11).toNat v10.toNat + sumR (erT g t) v10 v11.toNat) → (v6 = max2 (mxS (erT g t) (κ 0 11).toNat v10.toNat) (mxR (erT g t) v10 v11.toNat)) → (v8 = sumS (erS g t) (κ 0 11).toNat v10.toNat + sumR (erS g t) v10 v11.toNat) → (0 ≤ v6 ∧ v6 ≤ 8175) → 79050816 + 64584 * (16 - v10) + 47736 + 52 * (16 - v11) + 51 < (N : Int) → zV G mX12_errorOf (q_X12_errorOfZ κ h x1 x2 x3 g t) 24 [some (.inr (.inr 0)), some (.inl x1), some (.inl x2), some (.inl x3), some (.inr (.inl v4)), none, some (.inr (.inl v6)), none, some (.inr (.inl v8)), none, some (.inl v10), some (.inl v11), none, none] [] h) := by
    intro N
    induction N with
    | zero =>
      refine ⟨?_, ?_⟩
      · intro v4 v6 v8 v10 g0 g1 gc0 gc1 gc2 gc3 hm
        exfalso; omega
      · intro v4 v6 v8 v10 v11 g0 g1 g2 g3 gc0 gc1 gc2 gc3 hm
        exfalso; omega
    | succ N ih =>
      obtain ⟨k12, k24⟩ := ih
      refine ⟨?_, ?_⟩
      · intro v4 v6 v8 v10 g0 g1 gc0 gc1 gc2 gc3 hm
        refine zW_iload (pc' := 14) dX12_errorOf_0.2.1.1.1 rfl rfl ?_
        refine zW_aload_n (pc' := 15) dX12_errorOf_0.2.1.1.2 rfl rfl ?_
        refine zG_key (pc' := 18) hF rfl fg_X12_103 tb0 rfl dX12_errorOf_0.2.1.2.1 rfl ?_
        refine zV_cm_ge (tgt := 118) (pc' := 21) dX12_errorOf_0.2.1.2.2 rfl rfl ⟨by omega, by omega⟩ ⟨by omega, by omega⟩ (fun c18 => ?_) (fun c18 => ?_)
        · refine zW_iload_n (pc' := 119) dX12_errorOf_4.1.1.1.1 rfl rfl ?_
          refine zV_if_ne (tgt := 127) (pc' := 122) dX12_errorOf_4.1.1.1.2 rfl rfl ⟨by omega, by omega⟩ (fun c119 => ?_) (fun c119 => ?_)
          · refine zW_iload_n (pc' := 128) dX12_errorOf_4.1.2.1.2 rfl rfl ?_
            refine zW_iconst (pc' := 129) dX12_errorOf_4.1.2.2 rfl ?_
            refine zV_cm_ne (tgt := 137) (pc' := 132) dX12_errorOf_4.2.1.1.1 rfl rfl ⟨by omega, by omega⟩ ⟨by omega, by omega⟩ (fun c129 => ?_) (fun c129 => ?_)
            · refine zW_lload (pc' := 139) dX12_errorOf_4.2.2.1 rfl rfl ?_
              exact zV_lret rfl dX12_errorOf_4.2.2.2 ⟨rfl, (by unfold er3; first | (rw [if_pos (by omega), gc0, show v10 = κ 0 12 by omega]) | (rw [if_neg (by omega), if_pos (by omega), gc1, show v10 = κ 0 12 by omega]) | (rw [if_neg (by omega), if_neg (by omega), gc2, show v10 = κ 0 12 by omega]))⟩
            · refine zW_lload (pc' := 134) dX12_errorOf_4.2.1.1.2 rfl rfl ?_
              refine zV_goto 139 dX12_errorOf_4.2.1.2 rfl ?_
              exact zV_lret rfl dX12_errorOf_4.2.2.2 ⟨rfl, (by unfold er3; first | (rw [if_pos (by omega), gc0, show v10 = κ 0 12 by omega]) | (rw [if_neg (by omega), if_pos (by omega), gc1, show v10 = κ 0 12 by omega]) | (rw [if_neg (by omega), if_neg (by omega), gc2, show v10 = κ 0 12 by omega]))⟩
          · refine zW_lload (pc' := 124) dX12_errorOf_4.1.1.2 rfl rfl ?_
            refine zV_goto 139 dX12_errorOf_4.1.2.1.1 rfl ?_
            exact zV_lret rfl dX12_errorOf_4.2.2.2 ⟨rfl, (by unfold er3; first | (rw [if_pos (by omega), gc0, show v10 = κ 0 12 by omega]) | (rw [if_neg (by omega), if_pos (by omega), gc1, show v10 = κ 0 12 by omega]) | (rw [if_neg (by omega), if_neg (by omega), gc2, show v10 = κ 0 12 by omega]))⟩
        · refine zW_iconst (pc' := 22) dX12_errorOf_0.2.2.1.1 rfl ?_
          refine zW_istore (ls' := [_, _, _, _, _, _, _, _, _, _, _, _, _, _]) (pc' := 24) dX12_errorOf_0.2.2.1.2 (by decide) rfl rfl rfl ?_
          exact k24 _ _ _ _ _ (by omega) (by omega) (by omega) (by omega) (by first | (rw [sg0, ← hd69, e76, gc0]; omega) | (rw [gc0]; exact (Int.add_zero _).symm)) (by first | (rw [sg1, ← max2_as, ← gc1, ← hd69]; omega) | (rw [gc1]; exact (max2_0 (mxS_n _)).symm)) (by first | (rw [sg2, hs2, e103, gc2]; omega) | (rw [gc2]; exact (Int.add_zero _).symm)) (by omega) (by omega)
      · intro v4 v6 v8 v10 v11 g0 g1 g2 g3 gc0 gc1 gc2 gc3 hm
        refine zW_iload (pc' := 26) dX12_errorOf_0.2.2.2.1 rfl rfl ?_
        refine zW_aload_n (pc' := 27) dX12_errorOf_0.2.2.2.2 rfl rfl ?_
        refine zG_key (pc' := 30) hF rfl fg_X12_99 tb0 rfl dX12_errorOf_1.1.1.1.1 rfl ?_
        refine zV_cm_ge (tgt := 112) (pc' := 33) dX12_errorOf_1.1.1.1.2 rfl rfl ⟨by omega, by omega⟩ ⟨by omega, by omega⟩ (fun c30 => ?_) (fun c30 => ?_)
        · have ug0 := sumS_s (t := (erT g t)) (w := (κ 0 11).toNat) (v := v10) (by omega)
          have ug1 := mxS_s (t := (erT g t)) (w := (κ 0 11).toNat) (v := v10) (by omega)
          have ug2 := sumS_s (t := (erS g t)) (w := (κ 0 11).toNat) (v := v10) (by omega)
          refine zW_iinc (ls' := [_, _, _, _, _, _, _, _, _, _, _, _, _, _]) (pc' := 115) dX12_errorOf_3.2.2.2.1 rfl (by decide) rfl rfl rfl ?_
          refine zV_goto 12 dX12_errorOf_3.2.2.2.2 rfl ?_
          refine zV_clr 11 (ls' := [_, _, _, _, _, _, _, _, _, _, _, _, _, _]) rfl ?_
          exact k12 _ _ _ _ (by omega) (by omega) (by first | rfl | (rw [ug0, gc0, show v11 = κ 0 11 by omega])) (by first | rfl | (rw [ug1, gc1, show v11 = κ 0 11 by omega])) (by first | rfl | (rw [ug2, gc2, show v11 = κ 0 11 by omega])) (by omega) (by omega)
        · have sg0 := sumR_s (t := (erT g t)) (y := v10) (v := v11) (by omega)
          have sg1 := mxR_s (t := (erT g t)) (y := v10) (v := v11) (by omega)
          have sg2 := sumR_s (t := (erS g t)) (y := v10) (v := v11) (by omega)
          have mx := mir_i (v := v11) (n := κ 0 11) ⟨by omega, by omega⟩
          have my := mir_i (v := v10) (n := κ 0 12) ⟨by omega, by omega⟩
          refine zW_aload_n (pc' := 34) dX12_errorOf_1.1.1.2.1 rfl rfl ?_
          refine zW_iload_n (pc' := 35) dX12_errorOf_1.1.1.2.2 rfl rfl ?_
          refine zW_iload_n (pc' := 36) dX12_errorOf_1.1.2.1.1 rfl rfl ?_
          refine zW_iload (pc' := 38) dX12_errorOf_1.1.2.1.2 rfl rfl ?_
          refine zW_iload (pc' := 40) dX12_errorOf_1.1.2.2.1 rfl rfl ?_
          refine cvI4 (pc' := 43) kX12_at vX12_at lk_X12_277 ⟨Nat.le_of_ble_eq_true rfl, Nat.le_of_ble_eq_true rfl⟩ tb0 vq12 rfl rfl (s_X12_atZ hK hF _ ⟨by omega, by omega⟩ _ ⟨by omega, by omega⟩ _ ⟨by omega, by omega, by omega⟩ _ ⟨by omega, by omega, by omega⟩ g hg hgb) dX12_errorOf_1.1.2.2.2 (Nat.le_of_ble_eq_true rfl) rfl ?_
          rintro r40 z40 ⟨hz40, p40⟩; subst z40
          rw [mx, my] at p40
          have ha := hgb v11 v10 ⟨by omega, by omega, by omega, by omega⟩
          have e40_ := p40.2.2
          have b40 : 0 ≤ r40 ∧ r40 ≤ 4095 := by rw [e40_]; exact ha
          refine zW_bipush (pc' := 45) dX12_errorOf_1.2.1.1.1 rfl rfl ?_
          refine zW_aload_n (pc' := 46) dX12_errorOf_1.2.1.1.2 rfl rfl ?_
          refine zG_ref (pc' := 49) 2 fg_X12_13 tb0 rfl dX12_errorOf_1.2.1.2.1 rfl ?_
          refine zW_sipush (pc' := 52) dX12_errorOf_1.2.1.2.2 rfl rfl ?_
          refine zW_iload_n (pc' := 53) dX12_errorOf_1.2.2.1.1 rfl rfl ?_
          refine zW_imul (pc' := 54) dX12_errorOf_1.2.2.1.2 rfl ?_
          refine zW_bipush (pc' := 56) dX12_errorOf_1.2.2.2.1 rfl rfl ?_
          refine zW_iload (pc' := 58) dX12_errorOf_1.2.2.2.2 rfl rfl ?_
          refine zW_imul (pc' := 59) dX12_errorOf_2.1.1.1.1 rfl ?_
          refine zW_iadd (pc' := 60) dX12_errorOf_2.1.1.1.2 rfl ?_
          refine zW_iload (pc' := 62) dX12_errorOf_2.1.1.2.1 rfl rfl ?_
          refine zW_iadd (pc' := 63) dX12_errorOf_2.1.1.2.2 rfl ?_
          refine zA_key (pc' := 64) hF rfl tb2 (by omega) dX12_errorOf_2.1.2.1.1 (by decide) rfl ?_
          have hq := ht v11 v10 ⟨by omega, by omega, by omega, by omega⟩
          have b63 : 0 ≤ κ 2 (256 * x2 + 16 * v10 + v11).toNat ∧ κ 2 (256 * x2 + 16 * v10 + v11).toNat ≤ 255 := by rw [hq.1]; exact hq.2
          refine zW_imul (pc' := 65) dX12_errorOf_2.1.2.1.2 rfl ?_
          refine zW_isub (pc' := 66) dX12_errorOf_2.1.2.2.1 rfl ?_
          refine csI1 (pc' := 69) kX12_size vX12_size lk_X12_257 ⟨Nat.le_of_ble_eq_true rfl, Nat.le_of_ble_eq_true rfl⟩ rfl (s_X12_sizeR hF _ ⟨by omega, by omega⟩) dX12_errorOf_2.1.2.2.2 (Nat.le_of_ble_eq_true rfl) rfl ?_
          rintro r66 z66 ⟨hz66, p66⟩; subst z66
          have hd : r66 = erT g t v11 v10 := by (have z := abc (g v11 v10 - 16 * t v11 v10); unfold erT; have q1 := hq.1; omega)
          refine zY_i2l (pc' := 70) ⟨by omega, by omega⟩ dX12_errorOf_2.2.1.1.1 rfl (fun v69 e69 => ?_)
          have hdb : 0 ≤ v69 ∧ v69 ≤ 8175 := by omega
          refine zW_lstore (ls' := [_, _, _, _, _, _, _, _, _, _, _, _, _, _]) (pc' := 72) dX12_errorOf_2.2.1.1.2 (by decide) rfl rfl rfl ?_
          refine zW_lload (pc' := 74) dX12_errorOf_2.2.1.2.1 rfl rfl ?_
          refine zW_lload (pc' := 76) dX12_errorOf_2.2.1.2.2 rfl rfl ?_
          refine zY_ladd (pc' := 77) dX12_errorOf_2.2.2.1.1 rfl (fun v76 e76 => ?_)
          refine zW_lstore (ls' := [_, _, _, _, _, _, _, _, _, _, _, _, _, _]) (pc' := 79) dX12_errorOf_2.2.2.1.2 (by decide) rfl rfl rfl ?_
          refine zW_lload (pc' := 81) dX12_errorOf_2.2.2.2.1 rfl rfl ?_
          refine zW_lload (pc' := 83) dX12_errorOf_2.2.2.2.2 rfl rfl ?_
          refine zX_lcmp (pc' := 84) dX12_errorOf_3.1.1.1.1 rfl ⟨by omega, by omega⟩ ⟨by omega, by omega⟩ (fun v83 e83 => ?_)
          have b83 : -1 ≤ v83 ∧ v83 ≤ 1 := by omega
          refine zV_if_le (tgt := 92) (pc' := 87) dX12_errorOf_3.1.1.1.2 rfl rfl ⟨by omega, by omega⟩ (fun c84 => ?_) (fun c84 => ?_)
          · refine zW_lload (pc' := 94) dX12_errorOf_3.1.2.1.1 rfl rfl ?_
            refine zW_lstore (ls' := [_, _, _, _, _, _, _, _, _, _, _, _, _, _]) (pc' := 96) dX12_errorOf_3.1.2.1.2 (by decide) rfl rfl rfl ?_
            refine zW_lload (pc' := 98) dX12_errorOf_3.1.2.2.1 rfl rfl ?_
            refine zW_lload (pc' := 100) dX12_errorOf_3.1.2.2.2 rfl rfl ?_
            refine zW_lload (pc' := 102) dX12_errorOf_3.2.1.1.1 rfl rfl ?_
            refine zY_lmul (pc' := 103) dX12_errorOf_3.2.1.1.2 rfl (fun v102 e102 => ?_)
            have hs2 : erS g t v11 v10 = v102 := by rw [e102, e69, hd]; rfl
            refine zY_ladd (pc' := 104) dX12_errorOf_3.2.1.2.1 rfl (fun v103 e103 => ?_)
            refine zW_lstore (ls' := [_, _, _, _, _, _, _, _, _, _, _, _, _, _]) (pc' := 106) dX12_errorOf_3.2.1.2.2 (by decide) rfl rfl rfl ?_
            have hm := max2c v6 v69
            have hd69 : v69 = erT g t v11 v10 := e69.trans hd
            refine zW_iinc (ls' := [_, _, _, _, _, _, _, _, _, _, _, _, _, _]) (pc' := 109) dX12_errorOf_3.2.2.1.1 rfl (by decide) rfl rfl rfl ?_
            refine zV_goto 24 dX12_errorOf_3.2.2.1.2 rfl ?_
            refine zV_clr 12 (ls' := [_, _, _, _, _, _, _, _, _, _, _, _, _, _]) rfl ?_
            exact k24 _ _ _ _ _ (by omega) (by omega) (by omega) (by omega) (by first | (rw [sg0, ← hd69, e76, gc0]; omega) | (rw [gc0]; exact (Int.add_zero _).symm)) (by first | (rw [sg1, ← max2_as, ← gc1, ← hd69]; omega) | (rw [gc1]; exact (max2_0 (mxS_n _)).symm)) (by first | (rw [sg2, hs2, e103, gc2]; omega) | (rw [gc2]; exact (Int.add_zero _).symm)) (by omega) (by omega)
          · refine zW_lload (pc' := 89) dX12_errorOf_3.1.1.2.1 rfl rfl ?_
            refine zV_goto 94 dX12_errorOf_3.1.1.2.2 rfl ?_
            refine zW_lstore (ls' := [_, _, _, _, _, _, _, _, _, _, _, _, _, _]) (pc' := 96) dX12_errorOf_3.1.2.1.2 (by decide) rfl rfl rfl ?_
            refine zW_lload (pc' := 98) dX12_errorOf_3.1.2.2.1 rfl rfl ?_
            refine zW_lload (pc' := 100) dX12_errorOf_3.1.2.2.2 rfl rfl ?_
            refine zW_lload (pc' := 102) dX12_errorOf_3.2.1.1.1 rfl rfl ?_
            refine zY_lmul (pc' := 103) dX12_errorOf_3.2.1.1.2 rfl (fun v102 e102 => ?_)
            have hs2 : erS g t v11 v10 = v102 := by rw [e102, e69, hd]; rfl
            refine zY_ladd (pc' := 104) dX12_errorOf_3.2.1.2.1 rfl (fun v103 e103 => ?_)
            refine zW_lstore (ls' := [_, _, _, _, _, _, _, _, _, _, _, _, _, _]) (pc' := 106) dX12_errorOf_3.2.1.2.2 (by decide) rfl rfl rfl ?_
            have hm := max2c v6 v69
            have hd69 : v69 = erT g t v11 v10 := e69.trans hd
            refine zW_iinc (ls' := [_, _, _, _, _, _, _, _, _, _, _, _, _, _]) (pc' := 109) dX12_errorOf_3.2.2.1.1 rfl (by decide) rfl rfl rfl ?_
            refine zV_goto 24 dX12_errorOf_3.2.2.1.2 rfl ?_
            refine zV_clr 12 (ls' := [_, _, _, _, _, _, _, _, _, _, _, _, _, _]) rfl ?_
            exact k24 _ _ _ _ _ (by omega) (by omega) (by omega) (by omega) (by first | (rw [sg0, ← hd69, e76, gc0]; omega) | (rw [gc0]; exact (Int.add_zero _).symm)) (by first | (rw [sg1, ← max2_as, ← gc1, ← hd69]; omega) | (rw [gc1]; exact (max2_0 (mxS_n _)).symm)) (by first | (rw [sg2, hs2, e103, gc2]; omega) | (rw [gc2]; exact (Int.add_zero _).symm)) (by omega) (by omega)
  refine zM_of [some (.inr (.inr 0)), some (.inl x1), some (.inl x2), some (.inl x3), none, none, none, none, none, none, none, none, none, none] 10 rfl rfl (Nat.le_of_ble_eq_true rfl) rfl ?_
  refine zW_lconst (pc' := 1) dX12_errorOf_0.1.1.1.1 rfl ?_
  refine zW_lstore (ls' := [_, _, _, _, _, _, _, _, _, _, _, _, _, _]) (pc' := 3) dX12_errorOf_0.1.1.1.2 (by decide) rfl rfl rfl ?_
  refine zW_lconst (pc' := 4) dX12_errorOf_0.1.1.2.1 rfl ?_
  refine zW_lstore (ls' := [_, _, _, _, _, _, _, _, _, _, _, _, _, _]) (pc' := 6) dX12_errorOf_0.1.1.2.2 (by decide) rfl rfl rfl ?_
  refine zW_lconst (pc' := 7) dX12_errorOf_0.1.2.1.1 rfl ?_
  refine zW_lstore (ls' := [_, _, _, _, _, _, _, _, _, _, _, _, _, _]) (pc' := 9) dX12_errorOf_0.1.2.1.2 (by decide) rfl rfl rfl ?_
  refine zW_iconst (pc' := 10) dX12_errorOf_0.1.2.2.1 rfl ?_
  refine zW_istore (ls' := [_, _, _, _, _, _, _, _, _, _, _, _, _, _]) (pc' := 12) dX12_errorOf_0.1.2.2.2 (by decide) rfl rfl rfl ?_
  exact (main 10000000000000000000000000000000000000000).1 _ _ _ _ (by omega) (by omega) (by first | rfl | (rw [ug0, gc0, show v11 = κ 0 11 by omega])) (by first | rfl | (rw [ug1, gc1, show v11 = κ 0 11 by omega])) (by first | rfl | (rw [ug2, gc2, show v11 = κ 0 11 by omega])) (by omega) (by omega)

abbrev q_X12_errorZ (b : Bd) (κ : Hp) (x1 : Int) (x2 : Int) (x3 : Int) : Int → Hp → Prop := fun r h' => Fr b κ h' ∧ ((r = erQ (κ 0 11) (κ 0 12) (κ 0 13) (κ 0 14) (ltV (κ 3) (κ 0 14)) (bhV (κ 3) (κ 0 14)) (pcV (κ 0 14) (PF κ)) (nmV (κ 0 14) (XN (κ 4) (κ 5))) (κ 0 21) (trV (κ 0 21) (κ 0 11) (κ 0 12) (κ 2)) x1 x2 x3))
set_option maxHeartbeats 4000000 in
set_option maxRecDepth 20000 in
theorem s_X12_errorZ {G : Ga} {b : Bd} {κ h : Hp} (hK : KR κ) (hF : Fr b.fo κ h) (x1 : Int) (hx1 : rng x1) (x2 : Int) (hx2 : rng x2) (x3 : Int) (hx3 : rng x3) (hLw : LeavesW b) (hV : VOK (κ 1)) (hE : EaOK (κ 3) (κ 0 14)) (hTB : TrB (κ 0 21) (κ 0 11) (κ 0 12) (κ 2)) : zM G mX12_error yX12_error [.inr (.inr 0), .inl x1, .inl x2, .inl x3] h (q_X12_errorZ b.fo κ x1 x2 x3) := by
  have f_0_11 := KRw hK
  have f_0_12 := KRh hK
  have f_0_13 := KRp hK
  have f_0_14 := KRm hK
  have f_0_21 := KRi hK
  unfold rng at hx1
  unfold rng at hx2
  unfold rng at hx3
  refine zM_of [some (.inr (.inr 0)), some (.inl x1), some (.inl x2), some (.inl x3)] 0 rfl rfl (Nat.le_of_ble_eq_true rfl) rfl ?_
  refine zW_aload_n (pc' := 1) dX12_error_0.1.1.1.1 rfl rfl ?_
  refine zW_iload_n (pc' := 2) dX12_error_0.1.1.1.2 rfl rfl ?_
  refine zW_iload_n (pc' := 3) dX12_error_0.1.1.2.1 rfl rfl ?_
  refine cvI2 (pc' := 6) kX12_isLeftOf vX12_isLeftOf lk_X12_406 ⟨Nat.le_of_ble_eq_true rfl, Nat.le_of_ble_eq_true rfl⟩ tb0 vq12 rfl rfl (s_X12_isLeftOfZ hK hF _ ⟨by omega, by omega⟩ _ ⟨by omega, by omega⟩) dX12_error_0.1.1.2.2 (Nat.le_of_ble_eq_true rfl) rfl ?_
  rintro r3 z3 ⟨hz3, p3⟩; subst z3
  refine zV_if_eq (tgt := 18) (pc' := 9) dX12_error_0.1.2.1.1 rfl rfl ⟨by omega, by omega⟩ (fun c6 => ?_) (fun c6 => ?_)
  · refine zV_ldc2 (n := -1) (pc' := 21) kl_X12_427 rfl dX12_error_0.2.1.2.1 rfl ?_
    exact zV_lret rfl dX12_error_0.2.1.2.2 ⟨hF, (by unfold erQ; rw [if_neg (by omega)])⟩
  · refine zW_iload_n (pc' := 10) dX12_error_0.1.2.1.2 rfl rfl ?_
    refine zW_iconst (pc' := 11) dX12_error_0.1.2.2.1 rfl ?_
    refine zW_iconst (pc' := 12) dX12_error_0.1.2.2.2 rfl ?_
    refine csI3 (pc' := 15) kX12_in vX12_in lk_X12_140 ⟨Nat.le_of_ble_eq_true rfl, Nat.le_of_ble_eq_true rfl⟩ rfl (s_X12_inR hF _ ⟨by omega, by omega⟩ _ ⟨by omega, by omega⟩ _ ⟨by omega, by omega⟩) dX12_error_0.2.1.1.1 (Nat.le_of_ble_eq_true rfl) rfl ?_
    rintro r12 z12 ⟨hz12, p12⟩; subst z12
    refine zV_if_ne (tgt := 22) (pc' := 18) dX12_error_0.2.1.1.2 rfl rfl ⟨by omega, by omega⟩ (fun c15 => ?_) (fun c15 => ?_)
    · refine zW_aload_n (pc' := 23) dX12_error_0.2.2.1.1 rfl rfl ?_
      refine zW_iload_n (pc' := 24) dX12_error_0.2.2.1.2 rfl rfl ?_
      refine cvI1 (pc' := 27) kX12_isBehind vX12_isBehind lk_X12_380 ⟨Nat.le_of_ble_eq_true rfl, Nat.le_of_ble_eq_true rfl⟩ tb0 vq12 rfl rfl (s_X12_isBehindZ hK hF _ ⟨by omega, by omega, by omega⟩) dX12_error_0.2.2.2.1 (Nat.le_of_ble_eq_true rfl) rfl ?_
      rintro r24 z24 ⟨hz24, p24⟩; subst z24
      refine zV_if_ne (tgt := 34) (pc' := 30) dX12_error_0.2.2.2.2 rfl rfl ⟨by omega, by omega⟩ (fun c27 => ?_) (fun c27 => ?_)
      · refine zW_aload_n (pc' := 35) dX12_error_1.1.1.2.1 rfl rfl ?_
        refine zG_key (pc' := 38) hF rfl fg_X12_212 tb0 rfl dX12_error_1.1.1.2.2 rfl ?_
        refine zV_if_ne (tgt := 45) (pc' := 41) dX12_error_1.1.2.1.1 rfl rfl ⟨by omega, by omega⟩ (fun c38 => ?_) (fun c38 => ?_)
        · refine zW_aload_n (pc' := 46) dX12_error_1.1.2.2.2 rfl rfl ?_
          refine cvV0 (pc' := 49) kX12_leaves vX12_leaves lk_X12_377 ⟨Nat.le_of_ble_eq_true rfl, Nat.le_of_ble_eq_true rfl⟩ tb0 vq12 rfl rfl (hLw hK hF) dX12_error_1.2.1.1.1 (Nat.le_of_ble_eq_true rfl) rfl ?_
          rintro r46 h ⟨hF, p46⟩
          have hbc := bhI_c (κ 3) x1.toNat
          have hnn : ¬ noF (κ 3) x1.toNat := by rcases hbc with q | q; (exfalso; omega); exact q.2
          have hF3 := (p46.2 x1.toNat (by omega)).2 hnn
          rw [show ((x1.toNat : Nat) : Int) = x1 by omega] at hF3
          have hb3 := PF_b hK hV x1.toNat
          refine zW_aload_n (pc' := 50) dX12_error_1.2.1.1.2 rfl rfl ?_
          refine zW_iload_n (pc' := 51) dX12_error_1.2.1.2.1 rfl rfl ?_
          refine zW_iload_n (pc' := 52) dX12_error_1.2.1.2.2 rfl rfl ?_
          refine zW_iload_n (pc' := 53) dX12_error_1.2.2.1.1 rfl rfl ?_
          refine cvL3 (pc' := 56) kX12_errorOf vX12_errorOf lk_X12_433 ⟨Nat.le_of_ble_eq_true rfl, Nat.le_of_ble_eq_true rfl⟩ tb0 vq12 rfl rfl (s_X12_errorOfZ hK hF _ ⟨by omega, by omega⟩ _ ⟨by omega, by omega⟩ _ ⟨by omega, by omega⟩ (PF κ x1.toNat x2) (trV (κ 0 21) (κ 0 11) (κ 0 12) (κ 2) x2) (hF3 x2 (by omega)) (hb3 x2 (by omega)) (TrO_of (by omega) hTB ⟨by omega, by omega⟩)) dX12_error_1.2.2.1.2 (Nat.le_of_ble_eq_true rfl) rfl ?_
          rintro r53 z53 ⟨hz53, p53⟩; subst z53
          exact zV_lret rfl dX12_error_1.2.2.2 ⟨hF, (by unfold erQ; rw [if_pos ⟨by omega, by omega, by omega, by omega, by omega, by omega⟩, bhV_in ⟨by omega, by omega⟩, if_pos (by omega), if_neg (by omega), pcV_in ⟨by omega, by omega⟩]; exact p53)⟩
        · refine zV_ldc2 (n := -4) (pc' := 44) kl_X12_431 rfl dX12_error_1.1.2.1.2 rfl ?_
          exact zV_lret rfl dX12_error_1.1.2.2.1 ⟨hF, (by unfold erQ; rw [if_pos ⟨by omega, by omega, by omega, by omega, by omega, by omega⟩, bhV_in ⟨by omega, by omega⟩, if_pos (by omega), if_pos (by omega)])⟩
      · refine zV_ldc2 (n := -3) (pc' := 33) kl_X12_429 rfl dX12_error_1.1.1.1.1 rfl ?_
        exact zV_lret rfl dX12_error_1.1.1.1.2 ⟨hF, (by unfold erQ; rw [if_pos ⟨by omega, by omega, by omega, by omega, by omega, by omega⟩, bhV_in ⟨by omega, by omega⟩, if_neg (by omega)])⟩
    · refine zV_ldc2 (n := -1) (pc' := 21) kl_X12_427 rfl dX12_error_0.2.1.2.1 rfl ?_
      exact zV_lret rfl dX12_error_0.2.1.2.2 ⟨hF, (by unfold erQ; rw [if_neg (by omega)])⟩

abbrev q_X4_findErrorsZ (b : Bd) (κ : Hp) (s1 : Nat) (x3 : Int) (g : Int → Int → Int) (t : Int → Int → Int) (gh0 : Hp) : Int → Hp → Prop := fun r h' => Fr b κ h' ∧ ((Fw [] [(95, 4), (95, 5), (95, 6)] gh0 h') ∧ (h' 95 4 = er3 (κ 33 0) (κ 33 1) 0 g t ∧ h' 95 5 = er3 (κ 33 0) (κ 33 1) 1 g t ∧ h' 95 6 = er3 (κ 33 0) (κ 33 1) 2 g t))
set_option maxHeartbeats 4000000 in
set_option maxRecDepth 20000 in
theorem s_X4_findErrorsZ {G : Ga} {b : Bd} {κ h : Hp} (hK : KC κ) (hF : Fr b κ h) (s1 : Nat) (hs1 : 56 ≤ s1 ∧ s1 ≤ 70) (x3 : Int) (hx3 : 0 ≤ x3 ∧ x3 ≤ 2) (g : Int → Int → Int) (t : Int → Int → Int) (gh0 : Hp) (hg : PlS (κ 33 0) (κ 33 1) (h (s1 + 15)) x3 g) (hgb : FB (κ 33 0) (κ 33 1) g) (ht : TrO (κ 33 0) (κ 33 1) (κ 40) x3 t) (hgh : Fw [] [(95, 4), (95, 5), (95, 6)] gh0 h) : zM G mX4_findErrors yX4_findErrors [.inr (.inr 95), .inr (.inr s1), .inr (.inr 39), .inl x3] h (q_X4_findErrorsZ b κ s1 x3 g t gh0) := by
  have f_33_0 := KCw hK
  have f_33_1 := KCh hK
  have main : ∀ N : Nat, (∀ (v4 : Int) (h : Hp), Fr b κ h → (0 ≤ v4 ∧ v4 ≤ 16) → (v4 - κ 33 1 ≤ 0) → (h 95 4 = sumS (erT g t) (κ 33 0).toNat v4.toNat) → (h 95 5 = mxS (erT g t) (κ 33 0).toNat v4.toNat) → (h 95 6 = sumS (erS g t) (κ 33 0).toNat v4.toNat) → (0 ≤ h 95 5 ∧ h 95 5 ≤ 8175) → (PlS (κ 33 0) (κ 33 1) (h (s1 + 15)) x3 g) → (Fw [] [(95, 4), (95, 5), (95, 6)] gh0 h) → 69604920 + 62370 * (16 - v4) + 61380 < (N : Int) → zV G mX4_findErrors (q_X4_findErrorsZ b κ s1 x3 g t gh0) 18 [some (.inr (.inr 95)), some (.inr (.inr s1)), some (.inr (.inr 39)), some (.inl x3), some (.inl v4), none, none, none, none] [] h) ∧ (∀ (v4 v5 : Int) (h : Hp), Fr b κ h → (0 ≤ v4 ∧ v4 ≤ 15) → (v4 - κ 33 1 ≤ -1) → (0 ≤ v5 ∧ v5 ≤ 16) → (v5 - κ 33 0 ≤ 0) → (h 95 4 = sumS (erT g t) (κ 33 0).toNat v4.toNat + sumR (erT g t) v4 v5.toNat) → (h 95 5 = max2 (mxS (erT g t) (κ 33 0).toNat v4.toNat) (mxR (erT g t) v4 v5.toNat)) → (h 95 6 = sumS (erS g t) (κ 33 0).toNat v4.toNat + sumR (erS g t) v4 v5.toNat) → (0 ≤ h 95 5 ∧ h 95 5 ≤ 8175) → (PlS (κ 33 0) (κ 33 1) (h (s1 + 15)) x3 g) → (Fw [] [(95, 4), (95, 5), (95, 6)] gh0 h) → 69604920 + 62370 * (16 - v4) + 53460 + 55 * (16 - v5) + 54 < (N : Int) → zV G mX4_findErrors (q_X4_findErrorsZ b κ s1 x3 g t gh0) 33 [some (.inr (.inr 95)), some (.inr (.inr s1)), some (.inr (.inr 39)), some (.inl x3), some (.inl v4), some (.inl v5), none, none, none] [] h) := by
    intro N
    induction N with
    | zero =>
      refine ⟨?_, ?_⟩
      · intro v4 h hF g0 g1 gc0 gc1 gc2 gc3 hg hgh hm
        exfalso; omega
      · intro v4 v5 h hF g0 g1 g2 g3 gc0 gc1 gc2 gc3 hg hgh hm
        exfalso; omega
    | succ N ih =>
      obtain ⟨k18, k33⟩ := ih
      refine ⟨?_, ?_⟩
      · intro v4 h hF g0 g1 gc0 gc1 gc2 gc3 hg hgh hm
        refine zW_iload (pc' := 20) dX4_findErrors_0.2.1.2.2 rfl rfl ?_
        refine zW_aload_n (pc' := 21) dX4_findErrors_0.2.2.1.1 rfl rfl ?_
        refine zG_ref (pc' := 24) 33 fg_X4_19 tb95 rfl dX4_findErrors_0.2.2.1.2 rfl ?_
        refine zG_key (pc' := 27) hF rfl fg_X4_31 tb33 rfl dX4_findErrors_0.2.2.2.1 rfl ?_
        refine zV_cm_ge (tgt := 135) (pc' := 30) dX4_findErrors_0.2.2.2.2 rfl rfl ⟨by omega, by omega⟩ ⟨by omega, by omega⟩ (fun c27 => ?_) (fun c27 => ?_)
        · exact zV_vret rfl dX4_findErrors_4.2.2.2 ⟨hF, ⟨hgh, (by have e : v4 = κ 33 1 := (by omega); rw [e] at gc0 gc1 gc2; unfold er3; exact ⟨by rw [if_pos rfl]; exact gc0, by rw [if_neg (by decide), if_pos rfl]; exact gc1, by rw [if_neg (by decide), if_neg (by decide)]; exact gc2⟩)⟩⟩
        · refine zW_iconst (pc' := 31) dX4_findErrors_1.1.1.1.1 rfl ?_
          refine zW_istore (ls' := [_, _, _, _, _, _, _, _, _]) (pc' := 33) dX4_findErrors_1.1.1.1.2 (by decide) rfl rfl rfl ?_
          exact k33 _ _ _ hF (by omega) (by omega) (by omega) (by omega) (by first | (rw [sg0, ← hd8, k120.1, hy1, gc0]; omega) | (rw [gc0]; exact (Int.add_zero _).symm)) (by first | (rw [sg1, ← hd8, ← max2_as, ← gc1, ← hy2]; exact k120.2.1) | (rw [gc1]; exact (max2_0 (mxS_n _)).symm)) (by first | (rw [sg2, hs2, k120.2.2, hy3, gc2]; omega) | (rw [gc2]; exact (Int.add_zero _).symm)) (by first | (rw [k120.2.1]; omega) | exact gc3) hg hgh (by omega)
      · intro v4 v5 h hF g0 g1 g2 g3 gc0 gc1 gc2 gc3 hg hgh hm
        refine zW_iload (pc' := 35) dX4_findErrors_1.1.1.2.1 rfl rfl ?_
        refine zW_aload_n (pc' := 36) dX4_findErrors_1.1.1.2.2 rfl rfl ?_
        refine zG_ref (pc' := 39) 33 fg_X4_19 tb95 rfl dX4_findErrors_1.1.2.1.1 rfl ?_
        refine zG_key (pc' := 42) hF rfl fg_X4_36 tb33 rfl dX4_findErrors_1.1.2.1.2 rfl ?_
        refine zV_cm_ge (tgt := 129) (pc' := 45) dX4_findErrors_1.1.2.2.1 rfl rfl ⟨by omega, by omega⟩ ⟨by omega, by omega⟩ (fun c42 => ?_) (fun c42 => ?_)
        · have ug0 := sumS_s (t := (erT g t)) (w := (κ 33 0).toNat) (v := v4) (by omega)
          have ug1 := mxS_s (t := (erT g t)) (w := (κ 33 0).toNat) (v := v4) (by omega)
          have ug2 := sumS_s (t := (erS g t)) (w := (κ 33 0).toNat) (v := v4) (by omega)
          refine zW_iinc (ls' := [_, _, _, _, _, _, _, _, _]) (pc' := 132) dX4_findErrors_4.2.1.2 rfl (by decide) rfl rfl rfl ?_
          refine zV_goto 18 dX4_findErrors_4.2.2.1 rfl ?_
          refine zV_clr 5 (ls' := [_, _, _, _, _, _, _, _, _]) rfl ?_
          exact k18 _ _ hF (by omega) (by omega) (by first | (rw [z0.1]; rfl) | (rw [ug0, gc0, show v5 = κ 33 0 by omega])) (by first | (rw [z0.2.1]; rfl) | (rw [ug1, gc1, show v5 = κ 33 0 by omega])) (by first | (rw [z0.2.2]; rfl) | (rw [ug2, gc2, show v5 = κ 33 0 by omega])) (by first | omega | exact gc3) hg hgh (by omega)
        · have sg0 := sumR_s (t := (erT g t)) (y := v4) (v := v5) (by omega)
          have sg1 := mxR_s (t := (erT g t)) (y := v4) (v := v5) (by omega)
          have sg2 := sumR_s (t := (erS g t)) (y := v4) (v := v5) (by omega)
          refine zW_iload_n (pc' := 46) dX4_findErrors_1.1.2.2.2 rfl rfl ?_
          refine zW_sipush (pc' := 49) dX4_findErrors_1.2.1.1.1 rfl rfl ?_
          refine zW_imul (pc' := 50) dX4_findErrors_1.2.1.1.2 rfl ?_
          refine zW_iload (pc' := 52) dX4_findErrors_1.2.1.2.1 rfl rfl ?_
          refine zW_bipush (pc' := 54) dX4_findErrors_1.2.1.2.2 rfl rfl ?_
          refine zW_imul (pc' := 55) dX4_findErrors_1.2.2.1.1 rfl ?_
          refine zW_iadd (pc' := 56) dX4_findErrors_1.2.2.1.2 rfl ?_
          refine zW_iload (pc' := 58) dX4_findErrors_1.2.2.2.1 rfl rfl ?_
          refine zW_iadd (pc' := 59) dX4_findErrors_1.2.2.2.2 rfl ?_
          refine zW_istore (ls' := [_, _, _, _, _, _, _, _, _]) (pc' := 61) dX4_findErrors_2.1.1.1.1 (by decide) rfl rfl rfl ?_
          refine zW_aload_n (pc' := 62) dX4_findErrors_2.1.1.1.2 rfl rfl ?_
          refine zG_lev (pc' := 65) (by omega) (by omega) fg_X4_94 dX4_findErrors_2.1.1.2.1 rfl ?_
          refine zW_iload (pc' := 67) dX4_findErrors_2.1.1.2.2 rfl rfl ?_
          refine zV_iald (pc' := 68) (tabL (by omega) (by omega)) (by omega) dX4_findErrors_2.1.2.1.1 (by decide) rfl ?_
          have q67 := hg.at (i := x3 * 256 + v4 * 16 + v5) (x := v5) (y := v4) ⟨by omega, by omega, by omega, by omega⟩ (by omega)
          have b67 := hgb v5 v4 ⟨by omega, by omega, by omega, by omega⟩
          rw [← q67] at b67
          refine zW_bipush (pc' := 70) dX4_findErrors_2.1.2.1.2 rfl rfl ?_
          refine zW_aload_n (pc' := 71) dX4_findErrors_2.1.2.2.1 rfl rfl ?_
          refine zG_ref (pc' := 74) 40 fg_X4_122 tb39 rfl dX4_findErrors_2.1.2.2.2 rfl ?_
          refine zW_iload (pc' := 76) dX4_findErrors_2.2.1.1.1 rfl rfl ?_
          refine zA_key (pc' := 77) hF rfl tb40 (by omega) dX4_findErrors_2.2.1.1.2 (by decide) rfl ?_
          have hq := ht v5 v4 ⟨by omega, by omega, by omega, by omega⟩
          rw [show 256 * x3 + 16 * v4 + v5 = x3 * 256 + v4 * 16 + v5 by omega] at hq
          have b76 : 0 ≤ κ 40 (x3 * 256 + v4 * 16 + v5).toNat ∧ κ 40 (x3 * 256 + v4 * 16 + v5).toNat ≤ 255 := by rw [hq.1]; exact hq.2
          obtain ⟨y1, hy1⟩ : ∃ z : Int, z = h 95 4 := ⟨_, rfl⟩
          obtain ⟨y2, hy2⟩ : ∃ z : Int, z = h 95 5 := ⟨_, rfl⟩
          obtain ⟨y3, hy3⟩ : ∃ z : Int, z = h 95 6 := ⟨_, rfl⟩
          refine zW_imul (pc' := 78) dX4_findErrors_2.2.1.2.1 rfl ?_
          refine zW_isub (pc' := 79) dX4_findErrors_2.2.1.2.2 rfl ?_
          refine zV_mabs (pc' := 82) km_X4_79 (Nat.le_of_ble_eq_true rfl) (Nat.le_of_ble_eq_true rfl) dX4_findErrors_2.2.2.1.1 rfl (fun v79 e79 => ?_)
          replace e79 := e79.2 ⟨by omega, by omega⟩ (by omega)
          have hd : v79 = erT g t v5 v4 := by (have z := abc (g v5 v4 - 16 * t v5 v4); unfold erT; have q1 := hq.1; omega)
          have hdb : 0 ≤ v79 ∧ v79 ≤ 8175 := by omega
          refine zY_i2l (pc' := 83) ⟨by omega, by omega⟩ dX4_findErrors_2.2.2.1.2 rfl (fun v82 e82 => ?_)
          have hd8 : v82 = erT g t v5 v4 := e82.trans hd
          refine zW_lstore (ls' := [_, _, _, _, _, _, _, _, _]) (pc' := 85) dX4_findErrors_2.2.2.2.1 (by decide) rfl rfl rfl ?_
          refine zW_aload_n (pc' := 86) dX4_findErrors_2.2.2.2.2 rfl rfl ?_
          refine zW_dup (pc' := 87) dX4_findErrors_3.1.1.1.1 rfl rfl ?_
          refine zG_lng (pc' := 90) fg_X4_112 tb95 rfl dX4_findErrors_3.1.1.1.2 rfl ?_
          refine zW_lload (pc' := 92) dX4_findErrors_3.1.1.2.1 rfl rfl ?_
          refine zY_ladd (pc' := 93) dX4_findErrors_3.1.1.2.2 rfl (fun v92 e92 => ?_)
          refine zX_pl (pc' := 96) hF rfl rfl fp_X4_112 tb95 rfl dX4_findErrors_3.1.2.1.1 rfl (fun h hF w93 => ?_)
          replace hgh : Fw [] [(95, 4), (95, 5), (95, 6)] gh0 h := by rw [w93]; exact hgh.wf (by simp)
          replace hg : PlS (κ 33 0) (κ 33 1) (h (s1 + 15)) x3 g := by have q0_ := (congrFun w93 (s1 + 15)).trans (zfun (by omega)); rw [q0_]; exact hg
          have k93 : h 95 4 = y1 + v82 ∧ h 95 5 = y2 ∧ h 95 6 = y3 := by rw [w93]; exact ⟨zwr_eq.trans (by rw [e92, hy1]), (zwr_ne (Or.inr (by decide))).trans hy2.symm, (zwr_ne (Or.inr (by decide))).trans hy3.symm⟩
          refine zW_aload_n (pc' := 97) dX4_findErrors_3.1.2.1.2 rfl rfl ?_
          refine zW_aload_n (pc' := 98) dX4_findErrors_3.1.2.2.1 rfl rfl ?_
          refine zG_lng (pc' := 101) fg_X4_116 tb95 rfl dX4_findErrors_3.1.2.2.2 rfl ?_
          refine zW_lload (pc' := 103) dX4_findErrors_3.2.1.1.1 rfl rfl ?_
          have b2_ : 0 ≤ y2 ∧ y2 ≤ 8175 := by rw [hy2]; exact gc3
          refine zX_mmaxl (pc' := 106) ⟨by have := k93.2.1; omega, by have := k93.2.1; omega⟩ ⟨by omega, by omega⟩ km_X4_127 (Nat.le_of_ble_eq_true rfl) (Nat.le_of_ble_eq_true rfl) dX4_findErrors_3.2.1.1.2 rfl (fun v103 e103 => ?_)
          refine zX_pl (pc' := 109) hF rfl rfl fp_X4_116 tb95 rfl dX4_findErrors_3.2.1.2.1 rfl (fun h hF w106 => ?_)
          replace hgh : Fw [] [(95, 4), (95, 5), (95, 6)] gh0 h := by rw [w106]; exact hgh.wf (by simp)
          replace hg : PlS (κ 33 0) (κ 33 1) (h (s1 + 15)) x3 g := by have q0_ := (congrFun w106 (s1 + 15)).trans (zfun (by omega)); rw [q0_]; exact hg
          have hm3 := max2c y2 v82
          have k106 : h 95 4 = y1 + v82 ∧ h 95 5 = max2 y2 v82 ∧ h 95 6 = y3 := by rw [w106]; exact ⟨(zwr_ne (Or.inr (by decide))).trans k93.1, zwr_eq.trans (by have z2 := k93.2.1; omega), (zwr_ne (Or.inr (by decide))).trans k93.2.2⟩
          refine zW_aload_n (pc' := 110) dX4_findErrors_3.2.1.2.2 rfl rfl ?_
          refine zW_dup (pc' := 111) dX4_findErrors_3.2.2.1.1 rfl rfl ?_
          refine zG_lng (pc' := 114) fg_X4_119 tb95 rfl dX4_findErrors_3.2.2.1.2 rfl ?_
          refine zW_lload (pc' := 116) dX4_findErrors_3.2.2.2.1 rfl rfl ?_
          refine zW_lload (pc' := 118) dX4_findErrors_3.2.2.2.2 rfl rfl ?_
          refine zY_lmul (pc' := 119) dX4_findErrors_4.1.1.1 rfl (fun v118 e118 => ?_)
          have hs2 : erS g t v5 v4 = v118 := by rw [e118, hd8]; rfl
          refine zY_ladd (pc' := 120) dX4_findErrors_4.1.1.2 rfl (fun v119 e119 => ?_)
          refine zX_pl (pc' := 123) hF rfl rfl fp_X4_119 tb95 rfl dX4_findErrors_4.1.2.1 rfl (fun h hF w120 => ?_)
          replace hgh : Fw [] [(95, 4), (95, 5), (95, 6)] gh0 h := by rw [w120]; exact hgh.wf (by simp)
          replace hg : PlS (κ 33 0) (κ 33 1) (h (s1 + 15)) x3 g := by have q0_ := (congrFun w120 (s1 + 15)).trans (zfun (by omega)); rw [q0_]; exact hg
          have k120 : h 95 4 = y1 + v82 ∧ h 95 5 = max2 y2 v82 ∧ h 95 6 = y3 + v118 := by rw [w120]; exact ⟨(zwr_ne (Or.inr (by decide))).trans k106.1, (zwr_ne (Or.inr (by decide))).trans k106.2.1, zwr_eq.trans (by rw [e119, k106.2.2])⟩
          refine zW_iinc (ls' := [_, _, _, _, _, _, _, _, _]) (pc' := 126) dX4_findErrors_4.1.2.2 rfl (by decide) rfl rfl rfl ?_
          refine zV_goto 33 dX4_findErrors_4.2.1.1 rfl ?_
          refine zV_clr 6 (ls' := [_, _, _, _, _, _, _, _, _]) rfl ?_
          refine zV_clr 7 (ls' := [_, _, _, _, _, _, _, _, _]) rfl ?_
          exact k33 _ _ _ hF (by omega) (by omega) (by omega) (by omega) (by first | (rw [sg0, ← hd8, k120.1, hy1, gc0]; omega) | (rw [gc0]; exact (Int.add_zero _).symm)) (by first | (rw [sg1, ← hd8, ← max2_as, ← gc1, ← hy2]; exact k120.2.1) | (rw [gc1]; exact (max2_0 (mxS_n _)).symm)) (by first | (rw [sg2, hs2, k120.2.2, hy3, gc2]; omega) | (rw [gc2]; exact (Int.add_zero _).symm)) (by first | (rw [k120.2.1]; omega) | exact gc3) hg hgh (by omega)
  refine zM_of [some (.inr (.inr 95)), some (.inr (.inr s1)), some (.inr (.inr 39)), some (.inl x3), none, none, none, none, none] 5 rfl rfl (Nat.le_of_ble_eq_true rfl) rfl ?_
  refine zW_aload_n (pc' := 1) dX4_findErrors_0.1.1.1.1 rfl rfl ?_
  refine zW_lconst (pc' := 2) dX4_findErrors_0.1.1.1.2 rfl ?_
  refine zX_pl (pc' := 5) hF rfl rfl fp_X4_112 tb95 rfl dX4_findErrors_0.1.1.2.1 rfl (fun h hF w2 => ?_)
  replace hgh : Fw [] [(95, 4), (95, 5), (95, 6)] gh0 h := by rw [w2]; exact hgh.wf (by simp)
  replace hg : PlS (κ 33 0) (κ 33 1) (h (s1 + 15)) x3 g := by have q0_ := (congrFun w2 (s1 + 15)).trans (zfun (by omega)); rw [q0_]; exact hg
  refine zW_aload_n (pc' := 6) dX4_findErrors_0.1.1.2.2 rfl rfl ?_
  refine zW_lconst (pc' := 7) dX4_findErrors_0.1.2.1.1 rfl ?_
  refine zX_pl (pc' := 10) hF rfl rfl fp_X4_116 tb95 rfl dX4_findErrors_0.1.2.1.2 rfl (fun h hF w7 => ?_)
  replace hgh : Fw [] [(95, 4), (95, 5), (95, 6)] gh0 h := by rw [w7]; exact hgh.wf (by simp)
  replace hg : PlS (κ 33 0) (κ 33 1) (h (s1 + 15)) x3 g := by have q0_ := (congrFun w7 (s1 + 15)).trans (zfun (by omega)); rw [q0_]; exact hg
  refine zW_aload_n (pc' := 11) dX4_findErrors_0.1.2.2.1 rfl rfl ?_
  refine zW_lconst (pc' := 12) dX4_findErrors_0.1.2.2.2 rfl ?_
  refine zX_pl (pc' := 15) hF rfl rfl fp_X4_119 tb95 rfl dX4_findErrors_0.2.1.1.1 rfl (fun h hF w12 => ?_)
  replace hgh : Fw [] [(95, 4), (95, 5), (95, 6)] gh0 h := by rw [w12]; exact hgh.wf (by simp)
  replace hg : PlS (κ 33 0) (κ 33 1) (h (s1 + 15)) x3 g := by have q0_ := (congrFun w12 (s1 + 15)).trans (zfun (by omega)); rw [q0_]; exact hg
  have z0 : h 95 4 = 0 ∧ h 95 5 = 0 ∧ h 95 6 = 0 := by rw [w12]; refine ⟨?_, ?_, zwr_eq⟩; (rw [zwr_ne (Or.inr (by decide)), w7, zwr_ne (Or.inr (by decide)), w2]; exact zwr_eq); (rw [zwr_ne (Or.inr (by decide)), w7]; exact zwr_eq)
  refine zW_iconst (pc' := 16) dX4_findErrors_0.2.1.1.2 rfl ?_
  refine zW_istore (ls' := [_, _, _, _, _, _, _, _, _]) (pc' := 18) dX4_findErrors_0.2.1.2.1 (by decide) rfl rfl rfl ?_
  exact (main 10000000000000000000000000000000000000000).1 _ _ hF (by omega) (by omega) (by first | (rw [z0.1]; rfl) | (rw [ug0, gc0, show v5 = κ 33 0 by omega])) (by first | (rw [z0.2.1]; rfl) | (rw [ug1, gc1, show v5 = κ 33 0 by omega])) (by first | (rw [z0.2.2]; rfl) | (rw [ug2, gc2, show v5 = κ 33 0 by omega])) (by first | omega | exact gc3) hg hgh (by omega)

abbrev q_X11_errorZ (b : Bd) (κ : Hp) (x1 : Int) (x2 : Int) (x3 : Int) : Int → Hp → Prop := fun r h' => Fr b κ h' ∧ ((r = erQ (κ 33 0) (κ 33 1) (κ 33 2) (κ 41 0) (ltV (LC κ) (κ 41 0)) (bhV (LC κ) (κ 41 0)) (pcV (κ 41 0) (PFc κ)) (nmV (κ 41 0) (XNc κ)) (κ 39 1) (trV (κ 39 1) (κ 33 0) (κ 33 1) (κ 40)) x1 x2 x3))
set_option maxHeartbeats 4000000 in
set_option maxRecDepth 20000 in
theorem s_X11_errorZ {G : Ga} {b : Bd} {κ h : Hp} (hK : KC κ) (hF : Fr b κ h) (x1 : Int) (hx1 : rng x1) (x2 : Int) (hx2 : rng x2) (x3 : Int) (hx3 : rng x3) (hSw : SheetW b) (hV : VOK (κ 34)) (hE : EaOK (LC κ) (κ 41 0)) (hfB : ∀ k : Nat, (k : Int) ≤ κ 41 0 → ((0 < κ 41 1 ∧ κ 41 1 ≤ (k : Int)) ↔ bhI (LC κ) k = 1)) (hTB : TrB (κ 39 1) (κ 33 0) (κ 33 1) (κ 40)) (hTF : 0 ≤ κ 39 1 ∧ κ 39 1 ≤ 1) : zM G mX11_error yX11_error [.inr (.inr 30), .inl x1, .inl x2, .inl x3] h (q_X11_errorZ b κ x1 x2 x3) := by
  have f_33_0 := KCw hK
  have f_33_1 := KCh hK
  have f_33_2 := KCp hK
  have f_41_0 := KCm hK
  have f_41_1 := KCf hK
  unfold rng at hx1
  unfold rng at hx2
  unfold rng at hx3
  refine zM_of [some (.inr (.inr 30)), some (.inl x1), some (.inl x2), some (.inl x3)] 0 rfl rfl (Nat.le_of_ble_eq_true rfl) rfl ?_
  refine zW_aload_n (pc' := 1) dX11_error_0.1.1.1.1 rfl rfl ?_
  refine zW_iload_n (pc' := 2) dX11_error_0.1.1.1.2 rfl rfl ?_
  refine zW_iload_n (pc' := 3) dX11_error_0.1.1.2.1 rfl rfl ?_
  refine cvI2 (pc' := 6) kX11_isLeftOf vX11_isLeftOf lk_X11_290 ⟨Nat.le_of_ble_eq_true rfl, Nat.le_of_ble_eq_true rfl⟩ tb30 vq11 rfl rfl (s_X11_isLeftOfZ hK hF _ ⟨by omega, by omega⟩ _ ⟨by omega, by omega⟩) dX11_error_0.1.1.2.2 (Nat.le_of_ble_eq_true rfl) rfl ?_
  rintro r3 z3 ⟨hz3, p3⟩; subst z3
  refine zV_if_eq (tgt := 17) (pc' := 9) dX11_error_0.1.2.1.1 rfl rfl ⟨by omega, by omega⟩ (fun c6 => ?_) (fun c6 => ?_)
  · refine zV_ldc2 (n := -1) (pc' := 20) kl_X11_340 rfl dX11_error_0.2.1.1.2 rfl ?_
    exact zV_lret rfl dX11_error_0.2.1.2.1 ⟨hF, (by unfold erQ; rw [if_neg (by omega)])⟩
  · refine zW_iload_n (pc' := 10) dX11_error_0.1.2.1.2 rfl rfl ?_
    refine zW_iconst (pc' := 11) dX11_error_0.1.2.2.1 rfl ?_
    refine csI2 (pc' := 14) kX11_isWithin vX11_isWithin lk_X11_116 ⟨Nat.le_of_ble_eq_true rfl, Nat.le_of_ble_eq_true rfl⟩ rfl (s_X11_isWithinR hF _ ⟨by omega, by omega⟩ _ ⟨by omega, by omega⟩) dX11_error_0.1.2.2.2 (Nat.le_of_ble_eq_true rfl) rfl ?_
    rintro r11 z11 ⟨hz11, p11⟩; subst z11
    refine zV_if_ne (tgt := 21) (pc' := 17) dX11_error_0.2.1.1.1 rfl rfl ⟨by omega, by omega⟩ (fun c14 => ?_) (fun c14 => ?_)
    · refine zW_aload_n (pc' := 22) dX11_error_0.2.1.2.2 rfl rfl ?_
      refine zG_ref (pc' := 25) 41 fg_X11_33 tb30 rfl dX11_error_0.2.2.1.1 rfl ?_
      refine zW_iload_n (pc' := 26) dX11_error_0.2.2.1.2 rfl rfl ?_
      refine cvI1 (pc' := 29) kX7_isBehindF vX7_isBehindF lk_X11_310 ⟨Nat.le_of_ble_eq_true rfl, Nat.le_of_ble_eq_true rfl⟩ tb41 vq7 rfl rfl (s_X7_isBehindFZ hK hF _ ⟨by omega, by omega, by omega⟩ hfB) dX11_error_0.2.2.2.1 (Nat.le_of_ble_eq_true rfl) rfl ?_
      rintro r26 z26 ⟨hz26, p26⟩; subst z26
      refine zV_if_ne (tgt := 36) (pc' := 32) dX11_error_0.2.2.2.2 rfl rfl ⟨by omega, by omega⟩ (fun c29 => ?_) (fun c29 => ?_)
      · refine zW_aload_n (pc' := 37) dX11_error_1.1.1.2.1 rfl rfl ?_
        refine zG_ref (pc' := 40) 39 fg_X11_26 tb30 rfl dX11_error_1.1.1.2.2 rfl ?_
        refine zG_key (pc' := 43) hF rfl fg_X11_169 tb39 rfl dX11_error_1.1.2.1.1 rfl ?_
        refine zV_if_ne (tgt := 50) (pc' := 46) dX11_error_1.1.2.1.2 rfl rfl ⟨by omega, by omega⟩ (fun c43 => ?_) (fun c43 => ?_)
        · refine zW_aload_n (pc' := 51) dX11_error_1.2.1.1.1 rfl rfl ?_
          refine zG_ref (pc' := 54) 95 fg_X11_60 tb30 rfl dX11_error_1.2.1.1.2 rfl ?_
          refine zW_aload_n (pc' := 55) dX11_error_1.2.1.2.1 rfl rfl ?_
          refine zG_ref (pc' := 58) 54 fg_X11_51 tb30 rfl dX11_error_1.2.1.2.2 rfl ?_
          refine zW_iload_n (pc' := 59) dX11_error_1.2.2.1.1 rfl rfl ?_
          refine cvA1 (pc' := 62) kX1_sheetOf vX1_sheetOf lk_X11_192 ⟨Nat.le_of_ble_eq_true rfl, Nat.le_of_ble_eq_true rfl⟩ tb54 vq1 rfl rfl (hSw hK hF _ ⟨by omega, by omega⟩) dX11_error_1.2.2.1.2 (Nat.le_of_ble_eq_true rfl) rfl ?_
          rintro r59 h ⟨hF, p59⟩
          obtain ⟨q59, z59⟩ : ∃ z : Nat, z = r59.toNat := ⟨_, rfl⟩
          rw [← z59]
          have hbc := bhI_c (LC κ) x1.toNat
          have hnn : ¬ noF (LC κ) x1.toNat := by rcases hbc with q | q; (exfalso; omega); exact q.2
          have hF3 := (((p59.2.2 (by omega) (by omega)).2 x1.toNat (by omega)).2 hnn).1
          have hqs := (p59.2.2 (by omega) (by omega)).1
          rw [show 56 + x1.toNat + 15 = q59 + 15 by omega] at hF3
          have hb3 := PFc_b hK hV x1.toNat
          refine zW_aload_n (pc' := 63) dX11_error_1.2.2.2.1 rfl rfl ?_
          refine zG_ref (pc' := 66) 39 fg_X11_26 tb30 rfl dX11_error_1.2.2.2.2 rfl ?_
          refine zW_iload_n (pc' := 67) dX11_error_2.1.1.1.1 rfl rfl ?_
          refine cvV3 (pc' := 70) kX4_findErrors vX4_findErrors lk_X11_346 ⟨Nat.le_of_ble_eq_true rfl, Nat.le_of_ble_eq_true rfl⟩ tb95 vq4 rfl rfl (s_X4_findErrorsZ hK hF _ ⟨by omega, by omega⟩ _ ⟨by omega, by omega⟩ (PFc κ x1.toNat x2) (trV (κ 39 1) (κ 33 0) (κ 33 1) (κ 40) x2) h (hF3 x2 (by omega)) (hb3 x2 (by omega)) (TrO_of (by omega) hTB ⟨by omega, by omega⟩) Fw.rf) dX11_error_2.1.1.1.2 (Nat.le_of_ble_eq_true rfl) rfl ?_
          rintro r67 h ⟨hF, d67, p67⟩
          have k1 := p67.1; have k2 := p67.2.1; have k3 := p67.2.2
          refine zW_iload_n (pc' := 71) dX11_error_2.1.1.2.1 rfl rfl ?_
          refine zW_iconst (pc' := 72) dX11_error_2.1.1.2.2 rfl ?_
          refine zV_cm_ne (tgt := 83) (pc' := 75) dX11_error_2.1.2.1.1 rfl rfl ⟨by omega, by omega⟩ ⟨by omega, by omega⟩ (fun c72 => ?_) (fun c72 => ?_)
          · refine zW_iload_n (pc' := 84) dX11_error_2.2.1.1.2 rfl rfl ?_
            refine zV_if_ne (tgt := 97) (pc' := 87) dX11_error_2.2.1.2.1 rfl rfl ⟨by omega, by omega⟩ (fun c84 => ?_) (fun c84 => ?_)
            · refine zW_aload_n (pc' := 98) dX11_error_2.2.2.2.2 rfl rfl ?_
              refine zG_ref (pc' := 101) 95 fg_X11_60 tb30 rfl dX11_error_3.1.1 rfl ?_
              refine zG_lng (pc' := 104) fg_X11_357 tb95 rfl dX11_error_3.1.2 rfl ?_
              exact zV_lret rfl dX11_error_3.2 ⟨hF, (by unfold erQ; rw [if_pos ⟨by omega, by omega, by omega, by omega, by omega, by omega⟩, bhV_in ⟨by omega, by omega⟩, if_pos (by omega), if_neg (by omega), pcV_in ⟨by omega, by omega⟩]; first | (rw [show x3 = 0 by omega]; exact k1) | (rw [show x3 = 1 by omega]; exact k2))⟩
            · refine zW_aload_n (pc' := 88) dX11_error_2.2.1.2.2 rfl rfl ?_
              refine zG_ref (pc' := 91) 95 fg_X11_60 tb30 rfl dX11_error_2.2.2.1.1 rfl ?_
              refine zG_lng (pc' := 94) fg_X11_354 tb95 rfl dX11_error_2.2.2.1.2 rfl ?_
              refine zV_goto 104 dX11_error_2.2.2.2.1 rfl ?_
              exact zV_lret rfl dX11_error_3.2 ⟨hF, (by unfold erQ; rw [if_pos ⟨by omega, by omega, by omega, by omega, by omega, by omega⟩, bhV_in ⟨by omega, by omega⟩, if_pos (by omega), if_neg (by omega), pcV_in ⟨by omega, by omega⟩]; first | (rw [show x3 = 0 by omega]; exact k1) | (rw [show x3 = 1 by omega]; exact k2))⟩
          · refine zW_aload_n (pc' := 76) dX11_error_2.1.2.1.2 rfl rfl ?_
            refine zG_ref (pc' := 79) 95 fg_X11_60 tb30 rfl dX11_error_2.1.2.2.1 rfl ?_
            refine zG_lng (pc' := 82) fg_X11_350 tb95 rfl dX11_error_2.1.2.2.2 rfl ?_
            exact zV_lret rfl dX11_error_2.2.1.1.1 ⟨hF, (by unfold erQ; rw [if_pos ⟨by omega, by omega, by omega, by omega, by omega, by omega⟩, bhV_in ⟨by omega, by omega⟩, if_pos (by omega), if_neg (by omega), pcV_in ⟨by omega, by omega⟩]; rw [show x3 = 2 by omega]; exact k3)⟩
        · refine zV_ldc2 (n := -4) (pc' := 49) kl_X11_344 rfl dX11_error_1.1.2.2.1 rfl ?_
          exact zV_lret rfl dX11_error_1.1.2.2.2 ⟨hF, (by unfold erQ; rw [if_pos ⟨by omega, by omega, by omega, by omega, by omega, by omega⟩, bhV_in ⟨by omega, by omega⟩, if_pos (by omega), if_pos (by omega)])⟩
      · refine zV_ldc2 (n := -3) (pc' := 35) kl_X11_342 rfl dX11_error_1.1.1.1.1 rfl ?_
        exact zV_lret rfl dX11_error_1.1.1.1.2 ⟨hF, (by unfold erQ; rw [if_pos ⟨by omega, by omega, by omega, by omega, by omega, by omega⟩, bhV_in ⟨by omega, by omega⟩, if_neg (by omega)])⟩
    · refine zV_ldc2 (n := -1) (pc' := 20) kl_X11_340 rfl dX11_error_0.2.1.1.2 rfl ?_
      exact zV_lret rfl dX11_error_0.2.1.2.1 ⟨hF, (by unfold erQ; rw [if_neg (by omega)])⟩
