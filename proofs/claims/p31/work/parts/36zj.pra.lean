/-! a late stage of the reference -/
/-- what a late stage makes of a level, by its letter L and its numbers X; m: how many points -/
def lsv (W H L : Int) (X : Nat → Int) (m : Int) (F : P3) (c x y : Int) : Int :=
  if L = 119 then gnd (F c x y) c (gnR W H F (X 0) 0) (gnR W H F (X 0) 2) else if L = 103 then F c x y * X c.toNat / 16 else if L = 109 then lgt F x y + ((F c x y - lgt F x y) * X 0).tdiv 16 else if L = 104 then pal (F c x y) (mx3 F x y) (X 0) else if L = 116 then crv X m (F c x y) else if L = 112 then F c x y + ((mnL W H F - bsF W H F (2 ^ (X 0).toNat) x y) * X 1).tdiv 16 else if L = 121 then F c x y + tnF W H F (X 0) (X 1) (X 2) x y - lgt F x y else if L = 110 then clm (blr W H (F c) x y) (F c x y - blr W H (F c) x y) (16 * X 0 + X 1 * blr W H (F c) x y / 64) else shp (F c x y) (blr W H (F c) x y) (X 0) (X 1)
def lst (W H L : Int) (X : Nat → Int) (m : Int) (F : P3) : P3 := if L = 118 then vtN W H F (X 0).toNat else fun c x y => clp (lsv W H L X m F c x y)
theorem lsv_w {W H : Int} {X : Nat → Int} {m : Int} {F : P3} {c x y : Int} : lsv W H 119 X m F c x y = gnd (F c x y) c (gnR W H F (X 0) 0) (gnR W H F (X 0) 2) := if_pos rfl
theorem lsv_g {W H : Int} {X : Nat → Int} {m : Int} {F : P3} {c x y : Int} : lsv W H 103 X m F c x y = F c x y * X c.toNat / 16 := by
  unfold lsv
  rw [if_neg (by decide), if_pos rfl]
theorem lsv_m {W H : Int} {X : Nat → Int} {m : Int} {F : P3} {c x y : Int} : lsv W H 109 X m F c x y = lgt F x y + ((F c x y - lgt F x y) * X 0).tdiv 16 := by
  unfold lsv
  rw [if_neg (by decide), if_neg (by decide), if_pos rfl]
theorem lsv_h {W H : Int} {X : Nat → Int} {m : Int} {F : P3} {c x y : Int} : lsv W H 104 X m F c x y = pal (F c x y) (mx3 F x y) (X 0) := by
  unfold lsv
  rw [if_neg (by decide), if_neg (by decide), if_neg (by decide), if_pos rfl]
theorem lsv_t {W H : Int} {X : Nat → Int} {m : Int} {F : P3} {c x y : Int} : lsv W H 116 X m F c x y = crv X m (F c x y) := by
  unfold lsv
  rw [if_neg (by decide), if_neg (by decide), if_neg (by decide), if_neg (by decide), if_pos rfl]
theorem lsv_p {W H : Int} {X : Nat → Int} {m : Int} {F : P3} {c x y : Int} : lsv W H 112 X m F c x y = F c x y + ((mnL W H F - bsF W H F (2 ^ (X 0).toNat) x y) * X 1).tdiv 16 := by
  unfold lsv
  rw [if_neg (by decide), if_neg (by decide), if_neg (by decide), if_neg (by decide), if_neg (by decide), if_pos rfl]
theorem lsv_y {W H : Int} {X : Nat → Int} {m : Int} {F : P3} {c x y : Int} : lsv W H 121 X m F c x y = F c x y + tnF W H F (X 0) (X 1) (X 2) x y - lgt F x y := by
  unfold lsv
  rw [if_neg (by decide), if_neg (by decide), if_neg (by decide), if_neg (by decide), if_neg (by decide), if_neg (by decide), if_pos rfl]
theorem lsv_n {W H : Int} {X : Nat → Int} {m : Int} {F : P3} {c x y : Int} : lsv W H 110 X m F c x y = clm (blr W H (F c) x y) (F c x y - blr W H (F c) x y) (16 * X 0 + X 1 * blr W H (F c) x y / 64) := by
  unfold lsv
  rw [if_neg (by decide), if_neg (by decide), if_neg (by decide), if_neg (by decide), if_neg (by decide), if_neg (by decide), if_neg (by decide), if_pos rfl]
theorem lsv_s {W H L : Int} {X : Nat → Int} {m : Int} {F : P3} {c x y : Int} (h : L ≠ 119 ∧ L ≠ 103 ∧ L ≠ 109 ∧ L ≠ 104 ∧ L ≠ 116 ∧ L ≠ 112 ∧ L ≠ 121 ∧ L ≠ 110) : lsv W H L X m F c x y = shp (F c x y) (blr W H (F c) x y) (X 0) (X 1) := by
  obtain ⟨h1, h2, h3, h4, h5, h6, h7, h8⟩ := h
  unfold lsv
  rw [if_neg h1, if_neg h2, if_neg h3, if_neg h4, if_neg h5, if_neg h6, if_neg h7, if_neg h8]
/-- what was gathered ahead of a late stage -/
def LtC (κ h : Hp) (L a : Int) (F : P3) : Prop := (L = 119 → h 0 44 = gnR (κ 0 11) (κ 0 12) F (XR κ a 0) 0 ∧ h 0 45 = gnR (κ 0 11) (κ 0 12) F (XR κ a 0) 2) ∧ (L = 112 → h 0 47 = mnL (κ 0 11) (κ 0 12) F) ∧ (L = 121 → ∀ k : Nat, (k : Int) ≤ 3 → PlS (hfN k (κ 0 11)) (hfN k (κ 0 12)) (h 22) k (flo (κ 0 11) (κ 0 12) F k))
theorem LtC.w17 {κ h : Hp} {L a : Int} {F : P3} {i : Nat} {v : Int} (r : LtC κ h L a F) : LtC κ (zwr h 17 i v) L a F := by
  unfold LtC at r ⊢
  rw [zwr_ne (Or.inl (by decide)), zwr_ne (Or.inl (by decide)), zwr_ne (Or.inl (by decide)), zfun (by decide)]
  exact r
/-- the numbers of a late stage are in order -/
def LtN (κ : Hp) (L a m : Int) : Prop := (L = 112 → 1 ≤ κ 23 a.toNat ∧ κ 23 a.toNat ≤ 4) ∧ (L = 116 → 4 ≤ m ∧ a + m ≤ 120 ∧ ∀ i : Int, 0 ≤ i → 2 * i + 2 < m → κ 23 (a + 2 * i).toNat < κ 23 (a + 2 * i + 2).toNat)
theorem mnL_b {W H : Int} {F : P3} (hW : 1 ≤ W ∧ W ≤ 16) (hH : 1 ≤ H ∧ H ≤ 16) (hF : FB3 W H F) : 0 ≤ mnL W H F ∧ mnL W H F ≤ 1048320 := by
  have b1 := sumS_b (t := fun x y => lgt F x y) (w := W.toNat) (B := 4095) H.toNat (fun u v a b c d => lgt_b hF ⟨a, by omega, c, by omega⟩)
  have m := mulq (a := 4095 * (W.toNat : Int)) (b := (H.toNat : Int)) (A := 65520) (B := 16) ⟨by omega, by omega⟩ ⟨by omega, by omega⟩
  have p := Int.mul_pos (a := W) (b := H) (by omega) (by omega)
  have d := Int.ediv_le_self (a := sumS (fun x y => lgt F x y) W.toNat H.toNat) (W * H) b1.1
  unfold mnL
  exact ⟨Int.ediv_nonneg b1.1 (by omega), by omega⟩
/-- the planes below c are done -/
def D17 (κ : Hp) (A : Nat → Int) (k : Int) (G : P3) (cc : Int) : Prop := ∀ c : Int, 0 ≤ c → c < cc → c ≤ 2 → Pl17 κ A k c (G c)
theorem D17.no {κ : Hp} {A : Nat → Int} {k : Int} {G : P3} : D17 κ A k G 0 := fun c h1 h2 _ => by omega
theorem D17.nx {κ : Hp} {A : Nat → Int} {k : Int} {G : P3} {c : Int} (h : D17 κ A k G c) (p : Pl17 κ A k c (G c)) : D17 κ A k G (c + 1) := fun d h1 h2 h3 => by
  by_cases e : d = c
  · rw [e]; exact p
  · exact h d h1 (by omega) h3
theorem D17.all {κ : Hp} {A : Nat → Int} {k : Int} {G : P3} {c : Int} (h : D17 κ A k G c) (hc : 3 ≤ c) : Fu17 κ A k G := fun d hd => h d hd.1 (by omega) hd.2
theorem D17.w {κ h : Hp} {k : Int} {G : P3} {c : Int} {i : Nat} {v : Int} (r : D17 κ (h 17) k G c) (hk : 0 ≤ k) (hW : κ 0 11 ≤ 16) (hH : κ 0 12 ≤ 16) (hi : 768 * k + 256 * c ≤ (i : Int)) : D17 κ (zwr h 17 i v 17) k G c := fun d h1 h2 h3 => (r d h1 h2 h3).w hk ⟨h1, h3⟩ hW hH (by omega)

abbrev q_X12_lateAtZ (κ h : Hp) (x1 : Int) (x2 : Int) (x3 : Int) (x4 : Int) (x5 : Int) (x6 : Int) (x7 : Int) (F : P3) : Int → Hp → Prop := fun r h' => h' = h ∧ ((-18000000 ≤ r) ∧ (r ≤ 18000000) ∧ (r = lsv (κ 0 11) (κ 0 12) x1 (XR κ x2) (x3 / 2) F x5 x6 x7))
set_option maxHeartbeats 4000000 in
set_option maxRecDepth 20000 in
theorem s_X12_lateAtZ {G : Ga} {b : Bd} {κ h : Hp} (hK : KR κ) (hF : Fr b.to κ h) (x1 : Int) (hx1 : rng x1) (x2 : Int) (hx2 : 0 ≤ x2 ∧ x2 ≤ 120) (x3 : Int) (hx3 : -120 ≤ x3 ∧ x3 ≤ 120) (x4 : Int) (hx4 : 0 ≤ x4 ∧ x4 ≤ 14) (x5 : Int) (hx5 : 0 ≤ x5 ∧ x5 ≤ 2) (x6 : Int) (hx6 : 0 ≤ x6 ∧ x6 ≤ 15 ∧ x6 - κ 0 11 ≤ -1) (x7 : Int) (hx7 : 0 ≤ x7 ∧ x7 ≤ 15 ∧ x7 - κ 0 12 ≤ -1) (F : P3) (hR : GivOK κ) (hlc : LtC κ h x1 x2 F) (hln : LtN κ x1 x2 x3) (hF3 : Fu17 κ (h 17) x4 F) (hb3 : FB3 (κ 0 11) (κ 0 12) F) : zM G mX12_lateAt yX12_lateAt [.inr (.inr 0), .inl x1, .inl x2, .inl x3, .inl x4, .inl x5, .inl x6, .inl x7] h (q_X12_lateAtZ κ h x1 x2 x3 x4 x5 x6 x7 F) := by
  have f_0_11 := KRw hK
  have f_0_12 := KRh hK
  unfold rng at hx1
  refine zM_of [some (.inr (.inr 0)), some (.inl x1), some (.inl x2), some (.inl x3), some (.inl x4), some (.inl x5), some (.inl x6), some (.inl x7), none, none] 2 rfl rfl (Nat.le_of_ble_eq_true rfl) rfl ?_
  refine zW_aload_n (pc' := 1) dX12_lateAt_0.1.1.1.1 rfl rfl ?_
  refine zW_iload (pc' := 3) dX12_lateAt_0.1.1.1.2 rfl rfl ?_
  refine zW_iload (pc' := 5) dX12_lateAt_0.1.1.2.1 rfl rfl ?_
  refine zW_iload (pc' := 7) dX12_lateAt_0.1.1.2.2 rfl rfl ?_
  refine zW_iload (pc' := 9) dX12_lateAt_0.1.2.1.1 rfl rfl ?_
  refine cvI4 (pc' := 12) kX12_at vX12_at lk_X12_277 ⟨Nat.le_of_ble_eq_true rfl, Nat.le_of_ble_eq_true rfl⟩ tb0 vq12 rfl rfl (s_X12_atZ hK hF _ ⟨by omega, by omega⟩ _ ⟨by omega, by omega⟩ _ ⟨by omega, by omega, by omega⟩ _ ⟨by omega, by omega, by omega⟩ (F x5) (hF3 x5 (by omega)) (hb3 x5 (by omega))) dX12_lateAt_0.1.2.1.2 (Nat.le_of_ble_eq_true rfl) rfl ?_
  rintro r9 z9 ⟨hz9, p9⟩; subst z9
  have mx := mir_i (v := x6) (n := κ 0 11) ⟨by omega, by omega⟩
  have my := mir_i (v := x7) (n := κ 0 12) ⟨by omega, by omega⟩
  rw [mx, my] at p9
  have hx0 : κ 23 x2.toNat = XR κ x2 0 := (by show _ = κ 23 (x2 + ((0 : Nat) : Int)).toNat; rw [show x2 + ((0 : Nat) : Int) = x2 by omega])
  refine zW_istore (ls' := [_, _, _, _, _, _, _, _, _, _]) (pc' := 14) dX12_lateAt_0.1.2.2.1 (by decide) rfl rfl rfl ?_
  refine zW_aload_n (pc' := 15) dX12_lateAt_0.1.2.2.2 rfl rfl ?_
  refine zG_ref (pc' := 18) 23 fg_X12_78 tb0 rfl dX12_lateAt_0.2.1.1.1 rfl ?_
  refine zW_iload_n (pc' := 19) dX12_lateAt_0.2.1.1.2 rfl rfl ?_
  refine zA_givB (pc' := 20) hR hF (by omega) dX12_lateAt_0.2.1.2.1 rfl (fun e19 => ?_)
  refine zW_istore (ls' := [_, _, _, _, _, _, _, _, _, _]) (pc' := 22) dX12_lateAt_0.2.1.2.2 (by decide) rfl rfl rfl ?_
  refine zW_iload_n (pc' := 23) dX12_lateAt_0.2.2.1.1 rfl rfl ?_
  refine zW_tsw dX12_lateAt_0.2.2.1.2 (fun z => if z = 103 then 121 else if z = 104 then 168 else if z = 109 then 137 else if z = 110 then 249 else if z = 112 then 192 else if z = 116 then 183 else if z = 119 then 112 else if z = 121 then 225 else 272) ⟨by omega, by omega⟩ (tsw_ok (pc := 23) (lo := 103) (offs := #[98, 145, 249, 249, 249, 249, 114, 226, 249, 169, 249, 249, 249, 160, 249, 249, 89, 249, 202]) (tg := fun z => if z = 103 then 121 else if z = 104 then 168 else if z = 109 then 137 else if z = 110 then 249 else if z = 112 then 192 else if z = 116 then 183 else if z = 119 then 112 else if z = 121 then 225 else 272) (by decide +kernel)) rfl (td := 272) rfl (fun c23 => ?_) (fun c23 c23b => ?_)
  · refine zW_aload_n (pc' := 273) dX12_lateAt_6.2.2.2.2 rfl rfl ?_
    refine zW_iload (pc' := 275) dX12_lateAt_7.1.1.1.1 rfl rfl ?_
    refine zW_iload (pc' := 277) dX12_lateAt_7.1.1.1.2 rfl rfl ?_
    refine zW_iload (pc' := 279) dX12_lateAt_7.1.1.2.1 rfl rfl ?_
    refine zW_iload (pc' := 281) dX12_lateAt_7.1.1.2.2 rfl rfl ?_
    refine zW_iload (pc' := 283) dX12_lateAt_7.1.2.1.1 rfl rfl ?_
    refine zW_aload_n (pc' := 284) dX12_lateAt_7.1.2.1.2 rfl rfl ?_
    refine zG_ref (pc' := 287) 23 fg_X12_78 tb0 rfl dX12_lateAt_7.1.2.2 rfl ?_
    refine zW_iload_n (pc' := 288) dX12_lateAt_7.2.1.1.1 rfl rfl ?_
    refine zW_iconst (pc' := 289) dX12_lateAt_7.2.1.1.2 rfl ?_
    refine zW_iadd (pc' := 290) dX12_lateAt_7.2.1.2 rfl ?_
    refine zA_givB (pc' := 291) hR hF (by omega) dX12_lateAt_7.2.2.1.1 rfl (fun e290 => ?_)
    refine cvI6 (pc' := 294) kX12_sharpened vX12_sharpened lk_X12_341 ⟨Nat.le_of_ble_eq_true rfl, Nat.le_of_ble_eq_true rfl⟩ tb0 vq12 rfl rfl (s_X12_sharpenedZ hK hF _ ⟨by omega, by omega⟩ _ ⟨by omega, by omega⟩ _ ⟨by omega, by omega, by omega⟩ _ ⟨by omega, by omega, by omega⟩ _ ⟨by omega, by omega⟩ _ ⟨by omega, by omega⟩ (F x5) (hF3 x5 (by omega)) (hb3 x5 (by omega))) dX12_lateAt_7.2.2.1.2 (Nat.le_of_ble_eq_true rfl) rfl ?_
    rintro r291 z291 ⟨hz291, p291⟩; subst z291
    exact zV_iret rfl dX12_lateAt_7.2.2.2 ⟨rfl, (by refine ⟨by omega, by omega, ?_⟩; rw [lsv_s ⟨by omega, by omega, by omega, by omega, by omega, by omega, by omega, by omega⟩, ← hx0]; exact p291.2.2)⟩
  · split
    · refine zW_iload (pc' := 123) dX12_lateAt_1.1.1.2.2 rfl rfl ?_
      refine zW_aload_n (pc' := 124) dX12_lateAt_1.1.2.1.1 rfl rfl ?_
      refine zG_ref (pc' := 127) 23 fg_X12_78 tb0 rfl dX12_lateAt_1.1.2.1.2 rfl ?_
      refine zW_iload_n (pc' := 128) dX12_lateAt_1.1.2.2.1 rfl rfl ?_
      refine zW_iload (pc' := 130) dX12_lateAt_1.1.2.2.2 rfl rfl ?_
      refine zW_iadd (pc' := 131) dX12_lateAt_1.2.1.1.1 rfl ?_
      refine zA_givB (pc' := 132) hR hF (by omega) dX12_lateAt_1.2.1.1.2 rfl (fun e131 => ?_)
      refine zW_imul (pc' := 133) dX12_lateAt_1.2.1.2.1 rfl ?_
      have q132 := mulq (a := r9) (b := κ 23 (x2 + x5).toNat) (A := 4095) (B := 255) ⟨by omega, by omega⟩ ⟨by omega, by omega⟩
      refine zW_bipush (pc' := 135) dX12_lateAt_1.2.1.2.2 rfl rfl ?_
      refine zW_idiv (pc' := 136) (by omega) (by omega) dX12_lateAt_1.2.2.1.1 rfl ?_
      exact zV_iret rfl dX12_lateAt_1.2.2.1.2 ⟨rfl, (by have eL : x1 = 103 := (by omega); refine ⟨by omega, by omega, ?_⟩; rw [eL, lsv_g]; rw [← p9.2.2, XR_at (by omega)])⟩
    · split
      · refine zW_aload_n (pc' := 169) dX12_lateAt_3.1.1.1.1 rfl rfl ?_
        refine zW_iload (pc' := 171) dX12_lateAt_3.1.1.1.2 rfl rfl ?_
        refine zW_iload (pc' := 173) dX12_lateAt_3.1.1.2.1 rfl rfl ?_
        refine zW_iload (pc' := 175) dX12_lateAt_3.1.1.2.2 rfl rfl ?_
        refine zW_iload (pc' := 177) dX12_lateAt_3.1.2.1.1 rfl rfl ?_
        refine zW_iload (pc' := 179) dX12_lateAt_3.1.2.1.2 rfl rfl ?_
        refine cvI5 (pc' := 182) kX12_paled vX12_paled lk_X12_325 ⟨Nat.le_of_ble_eq_true rfl, Nat.le_of_ble_eq_true rfl⟩ tb0 vq12 rfl rfl (s_X12_paledZ hK hF _ ⟨by omega, by omega⟩ _ ⟨by omega, by omega⟩ _ ⟨by omega, by omega, by omega⟩ _ ⟨by omega, by omega, by omega⟩ _ ⟨by omega, by omega⟩ F hF3 hb3) dX12_lateAt_3.1.2.2.1 (Nat.le_of_ble_eq_true rfl) rfl ?_
        rintro r179 z179 ⟨hz179, p179⟩; subst z179
        exact zV_iret rfl dX12_lateAt_3.1.2.2.2 ⟨rfl, (by have eL : x1 = 104 := (by omega); refine ⟨by omega, by omega, ?_⟩; rw [eL, lsv_h]; rw [← hx0]; exact p179.2.2)⟩
      · split
        · refine zW_aload_n (pc' := 138) dX12_lateAt_1.2.2.2.1 rfl rfl ?_
          refine zW_iload (pc' := 140) dX12_lateAt_1.2.2.2.2 rfl rfl ?_
          refine zW_iload (pc' := 142) dX12_lateAt_2.1.1.1.1 rfl rfl ?_
          refine zW_iload (pc' := 144) dX12_lateAt_2.1.1.1.2 rfl rfl ?_
          refine cvI3 (pc' := 147) kX12_lightAt vX12_lightAt lk_X12_307 ⟨Nat.le_of_ble_eq_true rfl, Nat.le_of_ble_eq_true rfl⟩ tb0 vq12 rfl rfl (s_X12_lightAtZ hK hF _ ⟨by omega, by omega⟩ _ ⟨by omega, by omega, by omega⟩ _ ⟨by omega, by omega, by omega⟩ F hF3 hb3) dX12_lateAt_2.1.1.2.1 (Nat.le_of_ble_eq_true rfl) rfl ?_
          rintro r144 z144 ⟨hz144, p144⟩; subst z144
          rw [mx, my] at p144
          refine zW_iload (pc' := 149) dX12_lateAt_2.1.1.2.2 rfl rfl ?_
          refine zW_aload_n (pc' := 150) dX12_lateAt_2.1.2.1.1 rfl rfl ?_
          refine zW_iload (pc' := 152) dX12_lateAt_2.1.2.1.2 rfl rfl ?_
          refine zW_iload (pc' := 154) dX12_lateAt_2.1.2.2.1 rfl rfl ?_
          refine zW_iload (pc' := 156) dX12_lateAt_2.1.2.2.2 rfl rfl ?_
          refine cvI3 (pc' := 159) kX12_lightAt vX12_lightAt lk_X12_307 ⟨Nat.le_of_ble_eq_true rfl, Nat.le_of_ble_eq_true rfl⟩ tb0 vq12 rfl rfl (s_X12_lightAtZ hK hF _ ⟨by omega, by omega⟩ _ ⟨by omega, by omega, by omega⟩ _ ⟨by omega, by omega, by omega⟩ F hF3 hb3) dX12_lateAt_2.2.1.1.1 (Nat.le_of_ble_eq_true rfl) rfl ?_
          rintro r156 z156 ⟨hz156, p156⟩; subst z156
          rw [mx, my] at p156
          refine zW_isub (pc' := 160) dX12_lateAt_2.2.1.1.2 rfl ?_
          refine zW_iload (pc' := 162) dX12_lateAt_2.2.1.2.1 rfl rfl ?_
          refine zW_imul (pc' := 163) dX12_lateAt_2.2.1.2.2 rfl ?_
          have q162 := mulS (a := r9 - r156) (b := κ 23 x2.toNat) (A := 4095) (B := 255) ⟨by omega, by omega⟩ ⟨by omega, by omega⟩
          refine zW_bipush (pc' := 165) dX12_lateAt_2.2.2.1.1 rfl rfl ?_
          refine zW_idivS (pc' := 166) ⟨by omega, by omega⟩ (by omega) dX12_lateAt_2.2.2.1.2 rfl (fun v165 e165 => ?_)
          refine zW_iadd (pc' := 167) dX12_lateAt_2.2.2.2.1 rfl ?_
          exact zV_iret rfl dX12_lateAt_2.2.2.2.2 ⟨rfl, (by have eL : x1 = 109 := (by omega); refine ⟨by omega, by omega, ?_⟩; rw [eL, lsv_m]; rw [← p9.2.2, ← p156.2.2, ← hx0]; have td := tdc (a := (r9 - r156) * κ 23 x2.toNat) (d := 16) (by omega); omega)⟩
        · split
          · refine zW_aload_n (pc' := 250) dX12_lateAt_6.1.1.1.2 rfl rfl ?_
            refine zW_iload (pc' := 252) dX12_lateAt_6.1.1.2.1 rfl rfl ?_
            refine zW_iload (pc' := 254) dX12_lateAt_6.1.1.2.2 rfl rfl ?_
            refine zW_iload (pc' := 256) dX12_lateAt_6.1.2.1.1 rfl rfl ?_
            refine zW_iload (pc' := 258) dX12_lateAt_6.1.2.1.2 rfl rfl ?_
            refine zW_iload (pc' := 260) dX12_lateAt_6.1.2.2.1 rfl rfl ?_
            refine zW_aload_n (pc' := 261) dX12_lateAt_6.1.2.2.2 rfl rfl ?_
            refine zG_ref (pc' := 264) 23 fg_X12_78 tb0 rfl dX12_lateAt_6.2.1.1.1 rfl ?_
            refine zW_iload_n (pc' := 265) dX12_lateAt_6.2.1.1.2 rfl rfl ?_
            refine zW_iconst (pc' := 266) dX12_lateAt_6.2.1.2.1 rfl ?_
            refine zW_iadd (pc' := 267) dX12_lateAt_6.2.1.2.2 rfl ?_
            refine zA_givB (pc' := 268) hR hF (by omega) dX12_lateAt_6.2.2.1.1 rfl (fun e267 => ?_)
            refine cvI6 (pc' := 271) kX12_calmed vX12_calmed lk_X12_337 ⟨Nat.le_of_ble_eq_true rfl, Nat.le_of_ble_eq_true rfl⟩ tb0 vq12 rfl rfl (s_X12_calmedZ hK hF _ ⟨by omega, by omega⟩ _ ⟨by omega, by omega⟩ _ ⟨by omega, by omega, by omega⟩ _ ⟨by omega, by omega, by omega⟩ _ ⟨by omega, by omega⟩ _ ⟨by omega, by omega⟩ (F x5) (hF3 x5 (by omega)) (hb3 x5 (by omega))) dX12_lateAt_6.2.2.1.2 (Nat.le_of_ble_eq_true rfl) rfl ?_
            rintro r268 z268 ⟨hz268, p268⟩; subst z268
            exact zV_iret rfl dX12_lateAt_6.2.2.2.1 ⟨rfl, (by have eL : x1 = 110 := (by omega); refine ⟨by omega, by omega, ?_⟩; rw [eL, lsv_n]; rw [← hx0]; exact p268.2.2)⟩
          · split
            · refine zW_iload (pc' := 194) dX12_lateAt_3.2.2.2.1 rfl rfl ?_
              refine zW_aload_n (pc' := 195) dX12_lateAt_3.2.2.2.2 rfl rfl ?_
              refine zG_int (pc' := 198) fg_X12_310 tb0 rfl dX12_lateAt_4.1.1.1.1 rfl ?_
              have k195 := hlc.2.1 (by omega)
              have b195 := mnL_b ⟨by omega, by omega⟩ ⟨by omega, by omega⟩ hb3
              rw [← k195] at b195
              have hp1 := hln.1 (by omega)
              skip
              refine zW_aload_n (pc' := 199) dX12_lateAt_4.1.1.1.2 rfl rfl ?_
              refine zW_iload (pc' := 201) dX12_lateAt_4.1.1.2.1 rfl rfl ?_
              refine zW_iload (pc' := 203) dX12_lateAt_4.1.1.2.2 rfl rfl ?_
              refine zW_iload (pc' := 205) dX12_lateAt_4.1.2.1.1 rfl rfl ?_
              refine zW_iload (pc' := 207) dX12_lateAt_4.1.2.1.2 rfl rfl ?_
              refine cvI4 (pc' := 210) kX12_baseOf vX12_baseOf lk_X12_331 ⟨Nat.le_of_ble_eq_true rfl, Nat.le_of_ble_eq_true rfl⟩ tb0 vq12 rfl rfl (s_X12_baseOfZ hK hF _ ⟨by omega, by omega⟩ _ ⟨by omega, by omega, by omega⟩ _ ⟨by omega, by omega, by omega⟩ _ ⟨by omega, by omega⟩ F hF3 hb3) dX12_lateAt_4.1.2.2.1 (Nat.le_of_ble_eq_true rfl) rfl ?_
              rintro r207 z207 ⟨hz207, p207⟩; subst z207
              refine zW_isub (pc' := 211) dX12_lateAt_4.1.2.2.2 rfl ?_
              refine zW_aload_n (pc' := 212) dX12_lateAt_4.2.1.1.1 rfl rfl ?_
              refine zG_ref (pc' := 215) 23 fg_X12_78 tb0 rfl dX12_lateAt_4.2.1.1.2 rfl ?_
              refine zW_iload_n (pc' := 216) dX12_lateAt_4.2.1.2.1 rfl rfl ?_
              refine zW_iconst (pc' := 217) dX12_lateAt_4.2.1.2.2 rfl ?_
              refine zW_iadd (pc' := 218) dX12_lateAt_4.2.2.1.1 rfl ?_
              refine zA_givB (pc' := 219) hR hF (by omega) dX12_lateAt_4.2.2.1.2 rfl (fun e218 => ?_)
              refine zW_imul (pc' := 220) dX12_lateAt_4.2.2.2.1 rfl ?_
              have q219 := mulS (a := h 0 47 - r207) (b := κ 23 (x2 + 1).toNat) (A := 1048320) (B := 255) ⟨by omega, by omega⟩ ⟨by omega, by omega⟩
              refine zW_bipush (pc' := 222) dX12_lateAt_4.2.2.2.2 rfl rfl ?_
              refine zW_idivS (pc' := 223) ⟨by omega, by omega⟩ (by omega) dX12_lateAt_5.1.1.1.1 rfl (fun v222 e222 => ?_)
              refine zW_iadd (pc' := 224) dX12_lateAt_5.1.1.1.2 rfl ?_
              exact zV_iret rfl dX12_lateAt_5.1.1.2.1 ⟨rfl, (by have eL : x1 = 112 := (by omega); refine ⟨by omega, by omega, ?_⟩; rw [eL, lsv_p]; rw [← p9.2.2, ← hlc.2.1 (by omega), ← hx0, ← p207.2.2]; show _ = r9 + ((h 0 47 - r207) * κ 23 (x2 + 1).toNat).tdiv 16; have td := tdc (a := (h 0 47 - r207) * κ 23 (x2 + 1).toNat) (d := 16) (by omega); omega)⟩
            · split
              · have ht1 := hln.2 (by omega)
                refine zW_aload_n (pc' := 184) dX12_lateAt_3.2.1.1.1 rfl rfl ?_
                refine zW_iload (pc' := 186) dX12_lateAt_3.2.1.1.2 rfl rfl ?_
                refine zW_iload_n (pc' := 187) dX12_lateAt_3.2.1.2.1 rfl rfl ?_
                refine zW_iload_n (pc' := 188) dX12_lateAt_3.2.1.2.2 rfl rfl ?_
                refine cvI3 (pc' := 191) kX12_curved vX12_curved lk_X12_328 ⟨Nat.le_of_ble_eq_true rfl, Nat.le_of_ble_eq_true rfl⟩ tb0 vq12 rfl rfl (s_X12_curvedZ hK hF _ ⟨by omega, by omega⟩ _ ⟨by omega, by omega⟩ _ ⟨by omega, by omega⟩ hR ht1.2.1 (fun i a c => ⟨(hR.2 _ (by omega)).1, ht1.2.2 i a (by omega), (hR.2 _ (by omega)).2⟩)) dX12_lateAt_3.2.2.1.1 (Nat.le_of_ble_eq_true rfl) rfl ?_
                rintro r188 z188 ⟨hz188, p188⟩; subst z188
                exact zV_iret rfl dX12_lateAt_3.2.2.1.2 ⟨rfl, (by have eL : x1 = 116 := (by omega); refine ⟨by omega, by omega, ?_⟩; rw [eL, lsv_t]; rw [← p9.2.2]; exact p188.2.2)⟩
              · split
                · have hg1 := hlc.1 (by omega)
                  have gb0 := @gnF_b (whK (κ 0 11) (κ 0 12) F (XR κ x2 0) (fun _ _ => 1)) (whK (κ 0 11) (κ 0 12) F (XR κ x2 0) (F 1)) (whK (κ 0 11) (κ 0 12) F (XR κ x2 0) (F 0))
                  have gb2 := @gnF_b (whK (κ 0 11) (κ 0 12) F (XR κ x2 0) (fun _ _ => 1)) (whK (κ 0 11) (κ 0 12) F (XR κ x2 0) (F 1)) (whK (κ 0 11) (κ 0 12) F (XR κ x2 0) (F 2))
                  refine zW_aload_n (pc' := 113) dX12_lateAt_0.2.2.2.1 rfl rfl ?_
                  refine zW_iload (pc' := 115) dX12_lateAt_0.2.2.2.2 rfl rfl ?_
                  refine zW_iload (pc' := 117) dX12_lateAt_1.1.1.1.1 rfl rfl ?_
                  refine cvI2 (pc' := 120) kX12_gained vX12_gained lk_X12_322 ⟨Nat.le_of_ble_eq_true rfl, Nat.le_of_ble_eq_true rfl⟩ tb0 vq12 rfl rfl (s_X12_gainedZ hK hF _ ⟨by omega, by omega⟩ _ ⟨by omega, by omega⟩ (gnR (κ 0 11) (κ 0 12) F (XR κ x2 0) 0) (gnR (κ 0 11) (κ 0 12) F (XR κ x2 0) 2) ⟨hg1.1, by unfold gnR; exact gb0.1, by unfold gnR; exact gb0.2⟩ ⟨hg1.2, by unfold gnR; exact gb2.1, by unfold gnR; exact gb2.2⟩) dX12_lateAt_1.1.1.1.2 (Nat.le_of_ble_eq_true rfl) rfl ?_
                  rintro r117 z117 ⟨hz117, p117⟩; subst z117
                  exact zV_iret rfl dX12_lateAt_1.1.1.2.1 ⟨rfl, (by have eL : x1 = 119 := (by omega); refine ⟨by omega, by omega, ?_⟩; rw [eL, lsv_w]; rw [← p9.2.2]; exact p117.2.2)⟩
                · split
                  · refine zW_iload (pc' := 227) dX12_lateAt_5.1.1.2.2 rfl rfl ?_
                    refine zW_aload_n (pc' := 228) dX12_lateAt_5.1.2.1.1 rfl rfl ?_
                    refine zW_iload (pc' := 230) dX12_lateAt_5.1.2.1.2 rfl rfl ?_
                    refine zW_iload (pc' := 232) dX12_lateAt_5.1.2.2.1 rfl rfl ?_
                    refine zW_iload_n (pc' := 233) dX12_lateAt_5.1.2.2.2 rfl rfl ?_
                    refine cvI3 (pc' := 236) kX12_toneAt vX12_toneAt lk_X12_334 ⟨Nat.le_of_ble_eq_true rfl, Nat.le_of_ble_eq_true rfl⟩ tb0 vq12 rfl rfl (s_X12_toneAtZ hK hF _ ⟨by omega, by omega, by omega⟩ _ ⟨by omega, by omega, by omega⟩ _ ⟨by omega, by omega⟩ F hR (hlc.2.2 (by omega)) hb3) dX12_lateAt_5.2.1.1.1 (Nat.le_of_ble_eq_true rfl) rfl ?_
                    rintro r233 z233 ⟨hz233, p233⟩; subst z233
                    refine zW_iadd (pc' := 237) dX12_lateAt_5.2.1.1.2 rfl ?_
                    refine zW_aload_n (pc' := 238) dX12_lateAt_5.2.1.2.1 rfl rfl ?_
                    refine zW_iload (pc' := 240) dX12_lateAt_5.2.1.2.2 rfl rfl ?_
                    refine zW_iload (pc' := 242) dX12_lateAt_5.2.2.1.1 rfl rfl ?_
                    refine zW_iload (pc' := 244) dX12_lateAt_5.2.2.1.2 rfl rfl ?_
                    refine cvI3 (pc' := 247) kX12_lightAt vX12_lightAt lk_X12_307 ⟨Nat.le_of_ble_eq_true rfl, Nat.le_of_ble_eq_true rfl⟩ tb0 vq12 rfl rfl (s_X12_lightAtZ hK hF _ ⟨by omega, by omega⟩ _ ⟨by omega, by omega, by omega⟩ _ ⟨by omega, by omega, by omega⟩ F hF3 hb3) dX12_lateAt_5.2.2.2.1 (Nat.le_of_ble_eq_true rfl) rfl ?_
                    rintro r244 z244 ⟨hz244, p244⟩; subst z244
                    rw [mx, my] at p244
                    refine zW_isub (pc' := 248) dX12_lateAt_5.2.2.2.2 rfl ?_
                    exact zV_iret rfl dX12_lateAt_6.1.1.1.1 ⟨rfl, (by have eL : x1 = 121 := (by omega); refine ⟨by omega, by omega, ?_⟩; rw [eL, lsv_y]; rw [← p9.2.2, ← p244.2.2, ← hx0]; have z := p233.2.2; show _ = r9 + tnF _ _ F (κ 23 x2.toNat) (κ 23 (x2 + 1).toNat) (κ 23 (x2 + 2).toNat) x6 x7 - r244; rw [← z])⟩
                  · refine zW_aload_n (pc' := 273) dX12_lateAt_6.2.2.2.2 rfl rfl ?_
                    refine zW_iload (pc' := 275) dX12_lateAt_7.1.1.1.1 rfl rfl ?_
                    refine zW_iload (pc' := 277) dX12_lateAt_7.1.1.1.2 rfl rfl ?_
                    refine zW_iload (pc' := 279) dX12_lateAt_7.1.1.2.1 rfl rfl ?_
                    refine zW_iload (pc' := 281) dX12_lateAt_7.1.1.2.2 rfl rfl ?_
                    refine zW_iload (pc' := 283) dX12_lateAt_7.1.2.1.1 rfl rfl ?_
                    refine zW_aload_n (pc' := 284) dX12_lateAt_7.1.2.1.2 rfl rfl ?_
                    refine zG_ref (pc' := 287) 23 fg_X12_78 tb0 rfl dX12_lateAt_7.1.2.2 rfl ?_
                    refine zW_iload_n (pc' := 288) dX12_lateAt_7.2.1.1.1 rfl rfl ?_
                    refine zW_iconst (pc' := 289) dX12_lateAt_7.2.1.1.2 rfl ?_
                    refine zW_iadd (pc' := 290) dX12_lateAt_7.2.1.2 rfl ?_
                    refine zA_givB (pc' := 291) hR hF (by omega) dX12_lateAt_7.2.2.1.1 rfl (fun e290 => ?_)
                    refine cvI6 (pc' := 294) kX12_sharpened vX12_sharpened lk_X12_341 ⟨Nat.le_of_ble_eq_true rfl, Nat.le_of_ble_eq_true rfl⟩ tb0 vq12 rfl rfl (s_X12_sharpenedZ hK hF _ ⟨by omega, by omega⟩ _ ⟨by omega, by omega⟩ _ ⟨by omega, by omega, by omega⟩ _ ⟨by omega, by omega, by omega⟩ _ ⟨by omega, by omega⟩ _ ⟨by omega, by omega⟩ (F x5) (hF3 x5 (by omega)) (hb3 x5 (by omega))) dX12_lateAt_7.2.2.1.2 (Nat.le_of_ble_eq_true rfl) rfl ?_
                    rintro r291 z291 ⟨hz291, p291⟩; subst z291
                    exact zV_iret rfl dX12_lateAt_7.2.2.2 ⟨rfl, (by refine ⟨by omega, by omega, ?_⟩; rw [lsv_s ⟨by omega, by omega, by omega, by omega, by omega, by omega, by omega, by omega⟩, ← hx0]; exact p291.2.2)⟩

abbrev q_X12_lateZ (b : Bd) (κ : Hp) (x1 : Int) (x2 : Int) (x3 : Int) (x4 : Int) (x5 : Int) (F : P3) (gh0 : Hp) : Int → Hp → Prop := fun r h' => Fr b κ h' ∧ ((Fw [17, 22] [(0, 44), (0, 45), (0, 46), (0, 47)] gh0 h') ∧ (Fu17 κ (h' 17) x5 (fun c x y => clp (lsv (κ 0 11) (κ 0 12) x1 (XR κ x2) (x3 / 2) F c x y)) ∧ Oth x5 (gh0 17) (h' 17)))
set_option maxHeartbeats 4000000 in
set_option maxRecDepth 20000 in
theorem s_X12_lateZ {G : Ga} {b : Bd} {κ h : Hp} (hK : KR κ) (hF : Fr b.to κ h) (x1 : Int) (hx1 : rng x1) (x2 : Int) (hx2 : 0 ≤ x2 ∧ x2 ≤ 120) (x3 : Int) (hx3 : -120 ≤ x3 ∧ x3 ≤ 120) (x4 : Int) (hx4 : 0 ≤ x4 ∧ x4 ≤ 14) (x5 : Int) (hx5 : 0 ≤ x5 ∧ x5 ≤ 14) (F : P3) (gh0 : Hp) (hJ : Ok17 b x5) (hR : GivOK κ) (hne : x4 ≠ x5) (hln : LtN κ x1 x2 x3) (hF3 : Fu17 κ (h 17) x4 F) (hb3 : FB3 (κ 0 11) (κ 0 12) F) (hge : h = gh0) (hgh : Fw [17, 22] [(0, 44), (0, 45), (0, 46), (0, 47)] gh0 h) : zM G mX12_late yX12_late [.inr (.inr 0), .inl x1, .inl x2, .inl x3, .inl x4, .inl x5] h (q_X12_lateZ b.to κ x1 x2 x3 x4 x5 F gh0) := by
  have f_0_11 := KRw hK
  have f_0_12 := KRh hK
  have h0f : Fu17 κ (gh0 17) x4 F := by rw [← hge]; exact hF3
  have hx0 : κ 23 x2.toNat = XR κ x2 0 := (by show _ = κ 23 (x2 + ((0 : Nat) : Int)).toNat; rw [show x2 + ((0 : Nat) : Int) = x2 by omega])
  have hL0 : x1 ≠ 119 → x1 ≠ 112 → x1 ≠ 121 → ∀ g : Hp, LtC κ g x1 x2 F := fun a c d g => ⟨fun q => absurd q a, fun q => absurd q c, fun q => absurd q d⟩
  unfold rng at hx1
  have main : ∀ N : Nat, (∀ (v6 : Int) (h : Hp), Fr b.to κ h → (0 ≤ v6 ∧ v6 ≤ 3) → (D17 κ (h 17) x5 (fun c x y => clp (lsv (κ 0 11) (κ 0 12) x1 (XR κ x2) (x3 / 2) F c x y)) v6) → (Oth x5 (gh0 17) (h 17)) → (LtC κ h x1 x2 F) → (Fw [17, 22] [(0, 44), (0, 45), (0, 46), (0, 47)] gh0 h) → 2234044800 + 11456640 * (3 - v6) + 11170224 < (N : Int) → zV G mX12_late (q_X12_lateZ b.to κ x1 x2 x3 x4 x5 F gh0) 45 [some (.inr (.inr 0)), some (.inl x1), some (.inl x2), some (.inl x3), some (.inl x4), some (.inl x5), some (.inl v6), none, none] [] h) ∧ (∀ (v6 v7 : Int) (h : Hp), Fr b.to κ h → (0 ≤ v6 ∧ v6 ≤ 2) → (0 ≤ v7 ∧ v7 ≤ 16) → (v7 - κ 0 12 ≤ 0) → (D17 κ (h 17) x5 (fun c x y => clp (lsv (κ 0 11) (κ 0 12) x1 (XR κ x2) (x3 / 2) F c x y)) v6) → (Pl17u κ (h 17) x5 v6 ((fun c x y => clp (lsv (κ 0 11) (κ 0 12) x1 (XR κ x2) (x3 / 2) F c x y)) v6) 0 v7) → (Oth x5 (gh0 17) (h 17)) → (LtC κ h x1 x2 F) → (v6 ≤ 2) → (Fw [17, 22] [(0, 44), (0, 45), (0, 46), (0, 47)] gh0 h) → 2234044800 + 11456640 * (3 - v6) + 9451728 + 15912 * (16 - v7) + 15444 < (N : Int) → zV G mX12_late (q_X12_lateZ b.to κ x1 x2 x3 x4 x5 F gh0) 54 [some (.inr (.inr 0)), some (.inl x1), some (.inl x2), some (.inl x3), some (.inl x4), some (.inl x5), some (.inl v6), some (.inl v7), none] [] h) ∧ (∀ (v6 v7 v8 : Int) (h : Hp), Fr b.to κ h → (0 ≤ v6 ∧ v6 ≤ 2) → (0 ≤ v7 ∧ v7 ≤ 15) → (v7 - κ 0 12 ≤ -1) → (0 ≤ v8 ∧ v8 ≤ 16) → (v8 - κ 0 11 ≤ 0) → (D17 κ (h 17) x5 (fun c x y => clp (lsv (κ 0 11) (κ 0 12) x1 (XR κ x2) (x3 / 2) F c x y)) v6) → (Pl17u κ (h 17) x5 v6 ((fun c x y => clp (lsv (κ 0 11) (κ 0 12) x1 (XR κ x2) (x3 / 2) F c x y)) v6) v8 v7) → (Oth x5 (gh0 17) (h 17)) → (LtC κ h x1 x2 F) → (v6 ≤ 2) → (Fw [17, 22] [(0, 44), (0, 45), (0, 46), (0, 47)] gh0 h) → 2234044800 + 11456640 * (3 - v6) + 9451728 + 15912 * (16 - v7) + 11700 + 26 * (16 - v8) + 25 < (N : Int) → zV G mX12_late (q_X12_lateZ b.to κ x1 x2 x3 x4 x5 F gh0) 66 [some (.inr (.inr 0)), some (.inl x1), some (.inl x2), some (.inl x3), some (.inl x4), some (.inl x5), some (.inl v6), some (.inl v7), some (.inl v8)] [] h) := by
    intro N
    induction N with
    | zero =>
      refine ⟨?_, ?_, ?_⟩
      · intro v6 h hF g0 gc0 gc1 gc2 hgh hm
        exfalso; omega
      · intro v6 v7 h hF g0 g1 g2 gc0 gc1 gc2 gc3 gc4 hgh hm
        exfalso; omega
      · intro v6 v7 v8 h hF g0 g1 g2 g3 g4 gc0 gc1 gc2 gc3 gc4 hgh hm
        exfalso; omega
    | succ N ih =>
      obtain ⟨k45, k54, k66⟩ := ih
      refine ⟨?_, ?_, ?_⟩
      · intro v6 h hF g0 gc0 gc1 gc2 hgh hm
        refine zW_iload (pc' := 47) dX12_late_1.2.1.1.1 rfl rfl ?_
        refine zW_iconst (pc' := 48) dX12_late_1.2.1.1.2 rfl ?_
        refine zV_cm_ge (tgt := 123) (pc' := 51) dX12_late_1.2.1.2.1 rfl rfl ⟨by omega, by omega⟩ ⟨by omega, by omega⟩ (fun c48 => ?_) (fun c48 => ?_)
        · exact zV_vret rfl dX12_late_3.2.2.2 ⟨hF, ⟨hgh, ⟨gc0.all (by omega), gc1⟩⟩⟩
        · refine zW_iconst (pc' := 52) dX12_late_1.2.1.2.2 rfl ?_
          refine zW_istore (ls' := [_, _, _, _, _, _, _, _, _]) (pc' := 54) dX12_late_1.2.2.1.1 (by decide) rfl rfl rfl ?_
          exact k54 _ _ _ hF (by omega) (by omega) (by omega) gc0 (by first | exact gc1.rowx (by omega) | exact Pl17u.no) (by first | exact gc2 | exact gc1) (by first | exact gc3 | exact gc2) (by omega) hgh (by omega)
      · intro v6 v7 h hF g0 g1 g2 gc0 gc1 gc2 gc3 gc4 hgh hm
        refine zW_iload (pc' := 56) dX12_late_1.2.2.1.2 rfl rfl ?_
        refine zW_aload_n (pc' := 57) dX12_late_1.2.2.2.1 rfl rfl ?_
        refine zG_key (pc' := 60) hF rfl fg_X12_103 tb0 rfl dX12_late_1.2.2.2.2 rfl ?_
        refine zV_cm_ge (tgt := 117) (pc' := 63) dX12_late_2.1.1.1.1 rfl rfl ⟨by omega, by omega⟩ ⟨by omega, by omega⟩ (fun c60 => ?_) (fun c60 => ?_)
        · refine zW_iinc (ls' := [_, _, _, _, _, _, _, _, _]) (pc' := 120) dX12_late_3.2.2.1.1 rfl (by decide) rfl rfl rfl ?_
          refine zV_goto 45 dX12_late_3.2.2.1.2 rfl ?_
          refine zV_clr 7 (ls' := [_, _, _, _, _, _, _, _, _]) rfl ?_
          exact k45 _ _ hF (by omega) (by first | exact gc0.nx (gc1.all (by omega)) | exact D17.no) (by first | exact gc2 | (rw [e17b]; exact Oth.rf)) (by first | exact gc3 | exact hlA) hgh (by omega)
        · refine zW_iconst (pc' := 64) dX12_late_2.1.1.1.2 rfl ?_
          refine zW_istore (ls' := [_, _, _, _, _, _, _, _, _]) (pc' := 66) dX12_late_2.1.1.2.1 (by decide) rfl rfl rfl ?_
          exact k66 _ _ _ _ hF (by omega) (by omega) (by omega) (by omega) (by omega) (by first | exact hd2 | exact gc0) (by first | exact hr2 | exact gc1) (by first | exact ho2 | exact gc2) (by first | exact hl2 | exact gc3) (by omega) hgh (by omega)
      · intro v6 v7 v8 h hF g0 g1 g2 g3 g4 gc0 gc1 gc2 gc3 gc4 hgh hm
        refine zW_iload (pc' := 68) dX12_late_2.1.1.2.2 rfl rfl ?_
        refine zW_aload_n (pc' := 69) dX12_late_2.1.2.1.1 rfl rfl ?_
        refine zG_key (pc' := 72) hF rfl fg_X12_99 tb0 rfl dX12_late_2.1.2.1.2 rfl ?_
        refine zV_cm_ge (tgt := 111) (pc' := 75) dX12_late_2.1.2.2.1 rfl rfl ⟨by omega, by omega⟩ ⟨by omega, by omega⟩ (fun c72 => ?_) (fun c72 => ?_)
        · refine zW_iinc (ls' := [_, _, _, _, _, _, _, _, _]) (pc' := 114) dX12_late_3.2.1.2.1 rfl (by decide) rfl rfl rfl ?_
          refine zV_goto 54 dX12_late_3.2.1.2.2 rfl ?_
          refine zV_clr 8 (ls' := [_, _, _, _, _, _, _, _, _]) rfl ?_
          exact k54 _ _ _ hF (by omega) (by omega) (by omega) gc0 (by first | exact gc1.rowx (by omega) | exact Pl17u.no) (by first | exact gc2 | exact gc1) (by first | exact gc3 | exact gc2) (by omega) hgh (by omega)
        · have hF3 : Fu17 κ (h 17) x4 F := h0f.oth (by omega) (by omega) (by omega) (by omega) (by omega) gc2
          have bq := pl_b (k := x5) (c := v6) (x := v8) (y := v7) (W := κ 0 11) (H := κ 0 12) ⟨by omega, by omega, by omega, by omega⟩ (by omega) (by omega) (by omega) (by omega)
          refine zW_aload_n (pc' := 76) dX12_late_2.1.2.2.2 rfl rfl ?_
          refine zW_iload (pc' := 78) dX12_late_2.2.1.1.1 rfl rfl ?_
          refine zW_iload (pc' := 80) dX12_late_2.2.1.1.2 rfl rfl ?_
          refine zW_iload (pc' := 82) dX12_late_2.2.1.2.1 rfl rfl ?_
          refine zW_iload (pc' := 84) dX12_late_2.2.1.2.2 rfl rfl ?_
          refine zW_aload_n (pc' := 85) dX12_late_2.2.2.1.1 rfl rfl ?_
          refine zW_iload_n (pc' := 86) dX12_late_2.2.2.1.2 rfl rfl ?_
          refine zW_iload_n (pc' := 87) dX12_late_2.2.2.2.1 rfl rfl ?_
          refine zW_iload_n (pc' := 88) dX12_late_2.2.2.2.2 rfl rfl ?_
          refine zW_iload (pc' := 90) dX12_late_3.1.1.1.1 rfl rfl ?_
          refine zW_iload (pc' := 92) dX12_late_3.1.1.1.2 rfl rfl ?_
          refine zW_iload (pc' := 94) dX12_late_3.1.1.2.1 rfl rfl ?_
          refine zW_iload (pc' := 96) dX12_late_3.1.1.2.2 rfl rfl ?_
          refine cvI7 (pc' := 99) kX12_lateAt vX12_lateAt lk_X12_354 ⟨Nat.le_of_ble_eq_true rfl, Nat.le_of_ble_eq_true rfl⟩ tb0 vq12 rfl rfl (s_X12_lateAtZ hK hF _ ⟨by omega, by omega⟩ _ ⟨by omega, by omega⟩ _ ⟨by omega, by omega⟩ _ ⟨by omega, by omega⟩ _ ⟨by omega, by omega⟩ _ ⟨by omega, by omega, by omega⟩ _ ⟨by omega, by omega, by omega⟩ F hR gc3 hln hF3 hb3) dX12_late_3.1.2.1.1 (Nat.le_of_ble_eq_true rfl) rfl ?_
          rintro r96 z96 ⟨hz96, p96⟩; subst z96
          refine csI1 (pc' := 102) kX12_clipped vX12_clipped lk_X12_239 ⟨Nat.le_of_ble_eq_true rfl, Nat.le_of_ble_eq_true rfl⟩ rfl (s_X12_clippedZ hF _ ⟨by omega, by omega⟩) dX12_late_3.1.2.1.2 (Nat.le_of_ble_eq_true rfl) rfl ?_
          rintro r99 z99 ⟨hz99, p99⟩; subst z99
          refine cvV5 (pc' := 105) kX12_lays vX12_lays lk_X12_242 ⟨Nat.le_of_ble_eq_true rfl, Nat.le_of_ble_eq_true rfl⟩ tb0 vq12 rfl rfl (s_X12_laysZ hK hF _ ⟨by omega, by omega⟩ _ ⟨by omega, by omega⟩ _ ⟨by omega, by omega, by omega⟩ _ ⟨by omega, by omega, by omega⟩ _ ⟨by omega, by omega⟩ h hJ rfl) dX12_late_3.1.2.2 (Nat.le_of_ble_eq_true rfl) rfl ?_
          rintro r102 h ⟨hF, p102⟩
          have hd2 : D17 κ (h 17) x5 (fun c x y => clp (lsv (κ 0 11) (κ 0 12) x1 (XR κ x2) (x3 / 2) F c x y)) v6 := by rw [p102]; exact gc0.w (by omega) (by omega) (by omega) (by omega)
          have hr2 : Pl17u κ (h 17) x5 v6 ((fun c x y => clp (lsv (κ 0 11) (κ 0 12) x1 (XR κ x2) (x3 / 2) F c x y)) v6) (v8 + 1) v7 := by rw [p102]; exact Pl17u.nx (by omega) (by omega) (by omega) ⟨by omega, by omega, by omega, by omega⟩ gc1 (by rw [p99.2.2, p96.2.2])
          have ho2 : Oth x5 (gh0 17) (h 17) := by rw [p102]; exact gc2.w (by omega)
          have hl2 : LtC κ h x1 x2 F := by rw [p102]; exact gc3.w17
          replace hgh : Fw [17, 22] [(0, 44), (0, 45), (0, 46), (0, 47)] gh0 h := by rw [p102]; exact hgh.wc (by simp)
          refine zW_iinc (ls' := [_, _, _, _, _, _, _, _, _]) (pc' := 108) dX12_late_3.2.1.1.1 rfl (by decide) rfl rfl rfl ?_
          refine zV_goto 66 dX12_late_3.2.1.1.2 rfl ?_
          exact k66 _ _ _ _ hF (by omega) (by omega) (by omega) (by omega) (by omega) (by first | exact hd2 | exact gc0) (by first | exact hr2 | exact gc1) (by first | exact ho2 | exact gc2) (by first | exact hl2 | exact gc3) (by omega) hgh (by omega)
  refine zM_of [some (.inr (.inr 0)), some (.inl x1), some (.inl x2), some (.inl x3), some (.inl x4), some (.inl x5), none, none, none] 3 rfl rfl (Nat.le_of_ble_eq_true rfl) rfl ?_
  refine zW_iload_n (pc' := 1) dX12_late_0.1.1.1.1 rfl rfl ?_
  refine zW_bipush (pc' := 3) dX12_late_0.1.1.1.2 rfl rfl ?_
  refine zV_cm_ne (tgt := 18) (pc' := 6) dX12_late_0.1.1.2.1 rfl rfl ⟨by omega, by omega⟩ ⟨by omega, by omega⟩ (fun c3 => ?_) (fun c3 => ?_)
  · try (have e17 : h 17 = gh0 17 := by rw [d15.cell (k := 17) (by intro c hc; simp at hc) (by intro p hp; simp only [List.mem_cons, List.not_mem_nil, or_false] at hp; first | (subst hp; decide) | (rcases hp with rfl | rfl | rfl <;> decide)), hge])
    try (have hl15 : LtC κ h x1 x2 F := ⟨fun _ => by rw [p15.2.1, p15.2.2, ← hx0]; exact ⟨rfl, rfl⟩, fun q => absurd q (by omega), fun q => absurd q (by omega)⟩)
    refine zW_iload_n (pc' := 19) dX12_late_0.2.1.2.1 rfl rfl ?_
    refine zW_bipush (pc' := 21) dX12_late_0.2.1.2.2 rfl rfl ?_
    refine zV_cm_ne (tgt := 30) (pc' := 24) dX12_late_0.2.2.1.1 rfl rfl ⟨by omega, by omega⟩ ⟨by omega, by omega⟩ (fun c21 => ?_) (fun c21 => ?_)
    · try (have e17 : h 17 = gh0 17 := by rw [d27.cell (k := 17) (by intro c hc; simp at hc) (by intro p hp; simp only [List.mem_cons, List.not_mem_nil, or_false] at hp; first | (subst hp; decide) | (rcases hp with rfl | rfl | rfl <;> decide)), hge])
      try (have hl27 : LtC κ h x1 x2 F := ⟨fun q => absurd q (by omega), fun _ => p27, fun q => absurd q (by omega)⟩)
      refine zW_iload_n (pc' := 31) dX12_late_1.1.1.1.1 rfl rfl ?_
      refine zW_bipush (pc' := 33) dX12_late_1.1.1.1.2 rfl rfl ?_
      refine zV_cm_ne (tgt := 42) (pc' := 36) dX12_late_1.1.1.2.1 rfl rfl ⟨by omega, by omega⟩ ⟨by omega, by omega⟩ (fun c33 => ?_) (fun c33 => ?_)
      · try (have e17 : h 17 = gh0 17 := by rw [d39.cell (k := 17) (by intro c hc; simp at hc; omega) (by intro p hp; simp at hp), hge])
        try (have hl39 : LtC κ h x1 x2 F := ⟨fun q => absurd q (by omega), fun q => absurd q (by omega), fun _ => p39⟩)
        have e17b : h 17 = gh0 17 := by first | exact e17 | rw [hge]
        have hlA : LtC κ h x1 x2 F := by first | exact hl15 | exact hl27 | exact hl39 | exact hL0 (by omega) (by omega) (by omega) h
        refine zW_iconst (pc' := 43) dX12_late_1.1.2.2.1 rfl ?_
        refine zW_istore (ls' := [_, _, _, _, _, _, _, _, _]) (pc' := 45) dX12_late_1.1.2.2.2 (by decide) rfl rfl rfl ?_
        exact (main 10000000000000000000000000000000000000000).1 _ _ hF (by omega) (by first | exact gc0.nx (gc1.all (by omega)) | exact D17.no) (by first | exact gc2 | (rw [e17b]; exact Oth.rf)) (by first | exact gc3 | exact hlA) hgh (by omega)
      · refine zW_aload_n (pc' := 37) dX12_late_1.1.1.2.2 rfl rfl ?_
        refine zW_iload (pc' := 39) dX12_late_1.1.2.1.1 rfl rfl ?_
        refine cvV1 (pc' := 42) kX12_findsFloors vX12_findsFloors lk_X12_351 ⟨Nat.le_of_ble_eq_true rfl, Nat.le_of_ble_eq_true rfl⟩ tb0 vq12 rfl rfl (s_X12_findsFloorsZ hK hF _ ⟨by omega, by omega⟩ F h (by first | exact hF3 | (rw [e17]; exact h0f)) hb3 Fw.rf) dX12_late_1.1.2.1.2 (Nat.le_of_ble_eq_true rfl) rfl ?_
        rintro r39 h ⟨hF, d39, p39⟩
        replace hgh : Fw [17, 22] [(0, 44), (0, 45), (0, 46), (0, 47)] gh0 h := hgh.tr d39 (by simp) (by simp)
        try (have e17 : h 17 = gh0 17 := by rw [d39.cell (k := 17) (by intro c hc; simp at hc; omega) (by intro p hp; simp at hp), hge])
        try (have hl39 : LtC κ h x1 x2 F := ⟨fun q => absurd q (by omega), fun q => absurd q (by omega), fun _ => p39⟩)
        have e17b : h 17 = gh0 17 := by first | exact e17 | rw [hge]
        have hlA : LtC κ h x1 x2 F := by first | exact hl15 | exact hl27 | exact hl39 | exact hL0 (by omega) (by omega) (by omega) h
        refine zW_iconst (pc' := 43) dX12_late_1.1.2.2.1 rfl ?_
        refine zW_istore (ls' := [_, _, _, _, _, _, _, _, _]) (pc' := 45) dX12_late_1.1.2.2.2 (by decide) rfl rfl rfl ?_
        exact (main 10000000000000000000000000000000000000000).1 _ _ hF (by omega) (by first | exact gc0.nx (gc1.all (by omega)) | exact D17.no) (by first | exact gc2 | (rw [e17b]; exact Oth.rf)) (by first | exact gc3 | exact hlA) hgh (by omega)
    · refine zW_aload_n (pc' := 25) dX12_late_0.2.2.1.2 rfl rfl ?_
      refine zW_iload (pc' := 27) dX12_late_0.2.2.2.1 rfl rfl ?_
      refine cvV1 (pc' := 30) kX12_findsMean vX12_findsMean lk_X12_348 ⟨Nat.le_of_ble_eq_true rfl, Nat.le_of_ble_eq_true rfl⟩ tb0 vq12 rfl rfl (s_X12_findsMeanZ hK hF _ ⟨by omega, by omega⟩ F h (by first | exact hF3 | (rw [e17]; exact h0f)) hb3 Fw.rf) dX12_late_0.2.2.2.2 (Nat.le_of_ble_eq_true rfl) rfl ?_
      rintro r27 h ⟨hF, d27, p27⟩
      replace hgh : Fw [17, 22] [(0, 44), (0, 45), (0, 46), (0, 47)] gh0 h := hgh.tr d27 (by simp) (by simp)
      try (have e17 : h 17 = gh0 17 := by rw [d27.cell (k := 17) (by intro c hc; simp at hc) (by intro p hp; simp only [List.mem_cons, List.not_mem_nil, or_false] at hp; first | (subst hp; decide) | (rcases hp with rfl | rfl | rfl <;> decide)), hge])
      try (have hl27 : LtC κ h x1 x2 F := ⟨fun q => absurd q (by omega), fun _ => p27, fun q => absurd q (by omega)⟩)
      refine zW_iload_n (pc' := 31) dX12_late_1.1.1.1.1 rfl rfl ?_
      refine zW_bipush (pc' := 33) dX12_late_1.1.1.1.2 rfl rfl ?_
      refine zV_cm_ne (tgt := 42) (pc' := 36) dX12_late_1.1.1.2.1 rfl rfl ⟨by omega, by omega⟩ ⟨by omega, by omega⟩ (fun c33 => ?_) (fun c33 => ?_)
      · try (have e17 : h 17 = gh0 17 := by rw [d39.cell (k := 17) (by intro c hc; simp at hc; omega) (by intro p hp; simp at hp), hge])
        try (have hl39 : LtC κ h x1 x2 F := ⟨fun q => absurd q (by omega), fun q => absurd q (by omega), fun _ => p39⟩)
        have e17b : h 17 = gh0 17 := by first | exact e17 | rw [hge]
        have hlA : LtC κ h x1 x2 F := by first | exact hl15 | exact hl27 | exact hl39 | exact hL0 (by omega) (by omega) (by omega) h
        refine zW_iconst (pc' := 43) dX12_late_1.1.2.2.1 rfl ?_
        refine zW_istore (ls' := [_, _, _, _, _, _, _, _, _]) (pc' := 45) dX12_late_1.1.2.2.2 (by decide) rfl rfl rfl ?_
        exact (main 10000000000000000000000000000000000000000).1 _ _ hF (by omega) (by first | exact gc0.nx (gc1.all (by omega)) | exact D17.no) (by first | exact gc2 | (rw [e17b]; exact Oth.rf)) (by first | exact gc3 | exact hlA) hgh (by omega)
      · exfalso; omega
  · refine zW_aload_n (pc' := 7) dX12_late_0.1.1.2.2 rfl rfl ?_
    refine zW_iload (pc' := 9) dX12_late_0.1.2.1.1 rfl rfl ?_
    refine zW_aload_n (pc' := 10) dX12_late_0.1.2.1.2 rfl rfl ?_
    refine zG_ref (pc' := 13) 23 fg_X12_78 tb0 rfl dX12_late_0.1.2.2.1 rfl ?_
    refine zW_iload_n (pc' := 14) dX12_late_0.1.2.2.2 rfl rfl ?_
    refine zA_givB (pc' := 15) hR hF (by omega) dX12_late_0.2.1.1.1 rfl (fun e14 => ?_)
    refine cvV2 (pc' := 18) kX12_findsWhite vX12_findsWhite lk_X12_344 ⟨Nat.le_of_ble_eq_true rfl, Nat.le_of_ble_eq_true rfl⟩ tb0 vq12 rfl rfl (s_X12_findsWhiteZ hK hF _ ⟨by omega, by omega⟩ _ ⟨by omega, by omega⟩ F h (by first | exact hF3 | (rw [e17]; exact h0f)) hb3 Fw.rf) dX12_late_0.2.1.1.2 (Nat.le_of_ble_eq_true rfl) rfl ?_
    rintro r15 h ⟨hF, d15, p15⟩
    replace hgh : Fw [17, 22] [(0, 44), (0, 45), (0, 46), (0, 47)] gh0 h := hgh.tr d15 (by simp) (by simp)
    try (have e17 : h 17 = gh0 17 := by rw [d15.cell (k := 17) (by intro c hc; simp at hc) (by intro p hp; simp only [List.mem_cons, List.not_mem_nil, or_false] at hp; first | (subst hp; decide) | (rcases hp with rfl | rfl | rfl <;> decide)), hge])
    try (have hl15 : LtC κ h x1 x2 F := ⟨fun _ => by rw [p15.2.1, p15.2.2, ← hx0]; exact ⟨rfl, rfl⟩, fun q => absurd q (by omega), fun q => absurd q (by omega)⟩)
    refine zW_iload_n (pc' := 19) dX12_late_0.2.1.2.1 rfl rfl ?_
    refine zW_bipush (pc' := 21) dX12_late_0.2.1.2.2 rfl rfl ?_
    refine zV_cm_ne (tgt := 30) (pc' := 24) dX12_late_0.2.2.1.1 rfl rfl ⟨by omega, by omega⟩ ⟨by omega, by omega⟩ (fun c21 => ?_) (fun c21 => ?_)
    · try (have e17 : h 17 = gh0 17 := by rw [d27.cell (k := 17) (by intro c hc; simp at hc) (by intro p hp; simp only [List.mem_cons, List.not_mem_nil, or_false] at hp; first | (subst hp; decide) | (rcases hp with rfl | rfl | rfl <;> decide)), hge])
      try (have hl27 : LtC κ h x1 x2 F := ⟨fun q => absurd q (by omega), fun _ => p27, fun q => absurd q (by omega)⟩)
      refine zW_iload_n (pc' := 31) dX12_late_1.1.1.1.1 rfl rfl ?_
      refine zW_bipush (pc' := 33) dX12_late_1.1.1.1.2 rfl rfl ?_
      refine zV_cm_ne (tgt := 42) (pc' := 36) dX12_late_1.1.1.2.1 rfl rfl ⟨by omega, by omega⟩ ⟨by omega, by omega⟩ (fun c33 => ?_) (fun c33 => ?_)
      · try (have e17 : h 17 = gh0 17 := by rw [d39.cell (k := 17) (by intro c hc; simp at hc; omega) (by intro p hp; simp at hp), hge])
        try (have hl39 : LtC κ h x1 x2 F := ⟨fun q => absurd q (by omega), fun q => absurd q (by omega), fun _ => p39⟩)
        have e17b : h 17 = gh0 17 := by first | exact e17 | rw [hge]
        have hlA : LtC κ h x1 x2 F := by first | exact hl15 | exact hl27 | exact hl39 | exact hL0 (by omega) (by omega) (by omega) h
        refine zW_iconst (pc' := 43) dX12_late_1.1.2.2.1 rfl ?_
        refine zW_istore (ls' := [_, _, _, _, _, _, _, _, _]) (pc' := 45) dX12_late_1.1.2.2.2 (by decide) rfl rfl rfl ?_
        exact (main 10000000000000000000000000000000000000000).1 _ _ hF (by omega) (by first | exact gc0.nx (gc1.all (by omega)) | exact D17.no) (by first | exact gc2 | (rw [e17b]; exact Oth.rf)) (by first | exact gc3 | exact hlA) hgh (by omega)
      · exfalso; omega
    · exfalso; omega
