/-! late stages of the class -/
def FuS (W H : Int) (A : Nat → Int) (F : P3) : Prop := ∀ c : Int, 0 ≤ c ∧ c ≤ 2 → PlS W H A c (F c)
def PuS (W H : Int) (A : Nat → Int) (G : P3) (x y : Int) : Prop := ∀ c : Int, 0 ≤ c ∧ c ≤ 2 → PlSu W H A c (G c) x y
def PuC (W H : Int) (A : Nat → Int) (G : P3) (x y cc : Int) : Prop := ∀ c : Int, 0 ≤ c ∧ c ≤ 2 → (c < cc → PlSu W H A c (G c) (x + 1) y) ∧ (cc ≤ c → PlSu W H A c (G c) x y)
theorem PuS.no {W H : Int} {A : Nat → Int} {G : P3} : PuS W H A G 0 0 := fun _ _ => PlSu.no
theorem PuS.rowx {W H : Int} {A : Nat → Int} {G : P3} {x y : Int} (h : PuS W H A G x y) (hx : W ≤ x) : PuS W H A G 0 (y + 1) := fun c hc => (h c hc).rowx hx
theorem PuS.all {W H : Int} {A : Nat → Int} {G : P3} {y : Int} (h : PuS W H A G 0 y) (hy : H ≤ y) : FuS W H A G := fun c hc => (h c hc).all hy
theorem PuC.st {W H : Int} {A : Nat → Int} {G : P3} {x y : Int} (h : PuS W H A G x y) : PuC W H A G x y 0 := fun c hc => ⟨fun q => by omega, fun _ => h c hc⟩
theorem PuC.en {W H : Int} {A : Nat → Int} {G : P3} {x y cc : Int} (h : PuC W H A G x y cc) (h3 : 3 ≤ cc) : PuS W H A G (x + 1) y := fun c hc => (h c hc).1 (by omega)
theorem PuC.nx {W H : Int} {h : Hp} {l : Nat} {G : P3} {x y cc v i : Int} (hW : W ≤ 16) (hH : H ≤ 16) (hp : inP W H x y) (r : PuC W H (h l) G x y cc) (hc : 0 ≤ cc ∧ cc ≤ 2) (hi : i = 256 * cc + 16 * y + x) (hv : v = G cc x y) : PuC W H (zwr h l i.toNat v l) G x y (cc + 1) := by
  intro c hc2
  have hp2 := hp
  obtain ⟨g1, g2, g3, g4⟩ := hp2
  by_cases e : c = cc
  · subst e
    exact ⟨fun _ => PlSu.nx (by omega) hW hp ((r c hc2).2 (by omega)) hi hv, fun q => by omega⟩
  · exact ⟨fun q => ((r c hc2).1 (by omega)).w (by omega) hW hH (by omega), fun q => ((r c hc2).2 (by omega)).w (by omega) hW hH (by omega)⟩
/-- the planes below c are done -/
def Dn (W H : Int) (A : Nat → Int) (G : P3) (cc : Int) : Prop := ∀ c : Int, 0 ≤ c → c < cc → c ≤ 2 → PlS W H A c (G c)
theorem Dn.no {W H : Int} {A : Nat → Int} {G : P3} : Dn W H A G 0 := fun c h1 h2 _ => by omega
theorem Dn.nx {W H : Int} {A : Nat → Int} {G : P3} {c : Int} (h : Dn W H A G c) (p : PlS W H A c (G c)) : Dn W H A G (c + 1) := fun d h1 h2 h3 => by
  by_cases e : d = c
  · rw [e]; exact p
  · exact h d h1 (by omega) h3
theorem Dn.all {W H : Int} {A : Nat → Int} {G : P3} {c : Int} (h : Dn W H A G c) (hc : 3 ≤ c) : FuS W H A G := fun d hd => h d hd.1 (by omega) hd.2
theorem Dn.w {W H : Int} {h : Hp} {l : Nat} {G : P3} {c : Int} {i : Nat} {v : Int} (r : Dn W H (h l) G c) (hW : W ≤ 16) (hH : H ≤ 16) (hi : 256 * c ≤ (i : Int)) : Dn W H (zwr h l i v l) G c := fun d h1 h2 h3 => (r d h1 h2 h3).w h1 hW hH (by omega)
def nsF (W H : Int) (F : P3) (a b : Int) (c x y : Int) : Int := clp (clm (blr W H (F c) x y) (F c x y - blr W H (F c) x y) (16 * a + b * blr W H (F c) x y / 64))
def spF (W H : Int) (F : P3) (n m : Int) (c x y : Int) : Int := clp (shp (F c x y) (blr W H (F c) x y) n m)
def stF3 (F : P3) (n : Int) (c x y : Int) : Int := clp (lgt F x y + ((F c x y - lgt F x y) * n).tdiv 16)
def plF (F : P3) (n : Int) (c x y : Int) : Int := pal (F c x y) (mx3 F x y) n
def muF (F : P3) (t by_ : Int) (c x y : Int) : Int := clp (F c x y * t / by_)

theorem tdb4 {a b d : Int} (ha : 0 ≤ a) (hb : 0 ≤ b ∧ b ≤ d) (hd : 1 ≤ d) : 0 ≤ (a * b).tdiv d ∧ (a * b).tdiv d ≤ a := by
  have n : 0 ≤ a * b := Int.mul_nonneg ha hb.1
  have l : a * b ≤ a * d := Int.mul_le_mul_of_nonneg_left hb.2 ha
  rw [Int.tdiv_eq_ediv_of_nonneg n]
  exact ⟨Int.ediv_nonneg n (by omega), Int.ediv_le_of_le_mul (by omega) l⟩

/-- the other planes are as they were -/
def PlO (c : Int) (A B : Nat → Int) : Prop := ∀ i : Nat, ((i : Int) < 256 * c ∨ 256 * c + 256 ≤ (i : Int)) → B i = A i
theorem PlO.w {c : Int} {A : Nat → Int} {h : Hp} {l i : Nat} {v : Int} (r : PlO c A (h l)) (hi : 256 * c ≤ (i : Int) ∧ (i : Int) < 256 * c + 256) : PlO c A (zwr h l i v l) := fun j hj => (zwr_ne (Or.inr (by omega))).trans (r j hj)
theorem PlS.o {W H c d : Int} {A B : Nat → Int} {g : Int → Int → Int} (p : PlS W H A d g) (o : PlO c A B) (hcd : c ≠ d) (hc : 0 ≤ c) (hd : 0 ≤ d) (hW : W ≤ 16) (hH : H ≤ 16) : PlS W H B d g := fun x y h => by
  have h2 := h
  obtain ⟨k1, k2, k3, k4⟩ := h2
  rw [o _ (by omega)]
  exact p x y h

abbrev q_X11_lightOfZ (κ h : Hp) (l1 : Nat) (x2 : Int) (W : Int) (H : Int) (F : P3) (x : Int) (y : Int) : Int → Hp → Prop := fun r h' => h' = h ∧ ((0 ≤ r) ∧ (r ≤ 4095) ∧ (r = lgt F x y))
set_option maxHeartbeats 4000000 in
set_option maxRecDepth 20000 in
theorem s_X11_lightOfZ {G : Ga} {b : Bd} {κ h : Hp} (hF : Fr b κ h) (l1 : Nat) (hl1 : 71 ≤ l1 ∧ l1 ≤ 85) (x2 : Int) (hx2 : 0 ≤ x2 ∧ x2 ≤ 255) (W : Int) (H : Int) (F : P3) (x : Int) (y : Int) (hF3 : FuS W H (h l1) F) (hb3 : FB3 W H F) (hp : inP W H x y) (hs : x2 = 16 * y + x) : zM G mX11_lightOf yX11_lightOf [.inr (.inr l1), .inl x2] h (q_X11_lightOfZ κ h l1 x2 W H F x y) := by
  refine zM_of [some (.inr (.inr l1)), some (.inl x2)] 0 rfl rfl (Nat.le_of_ble_eq_true rfl) rfl ?_
  refine zW_aload_n (pc' := 1) dX11_lightOf_0.1.1.1.1 rfl rfl ?_
  refine zW_iload_n (pc' := 2) dX11_lightOf_0.1.1.1.2 rfl rfl ?_
  refine zV_iald (pc' := 3) (tabL (by omega) (by omega)) (by omega) dX11_lightOf_0.1.1.2.1 (by decide) rfl ?_
  have q2 := (hF3 0 (by omega)).at (i := x2) hp (by omega)
  have b2 := hb3 0 (by omega) x y hp
  rw [← q2] at b2
  refine zW_aload_n (pc' := 4) dX11_lightOf_0.1.1.2.2 rfl rfl ?_
  refine zW_sipush (pc' := 7) dX11_lightOf_0.1.2.1.1 rfl rfl ?_
  refine zW_iload_n (pc' := 8) dX11_lightOf_0.1.2.1.2 rfl rfl ?_
  refine zW_iadd (pc' := 9) dX11_lightOf_0.1.2.2.1 rfl ?_
  refine zV_iald (pc' := 10) (tabL (by omega) (by omega)) (by omega) dX11_lightOf_0.1.2.2.2 (by decide) rfl ?_
  have q9 := (hF3 2 (by omega)).at (i := 512 + x2) hp (by omega)
  have b9 := hb3 2 (by omega) x y hp
  rw [← q9] at b9
  refine zW_iadd (pc' := 11) dX11_lightOf_0.2.1.1.1 rfl ?_
  refine zW_iconst (pc' := 12) dX11_lightOf_0.2.1.1.2 rfl ?_
  refine zW_aload_n (pc' := 13) dX11_lightOf_0.2.1.2.1 rfl rfl ?_
  refine zW_sipush (pc' := 16) dX11_lightOf_0.2.1.2.2 rfl rfl ?_
  refine zW_iload_n (pc' := 17) dX11_lightOf_0.2.2.1.1 rfl rfl ?_
  refine zW_iadd (pc' := 18) dX11_lightOf_0.2.2.1.2 rfl ?_
  refine zV_iald (pc' := 19) (tabL (by omega) (by omega)) (by omega) dX11_lightOf_0.2.2.2.1 (by decide) rfl ?_
  have q18 := (hF3 1 (by omega)).at (i := 256 + x2) hp (by omega)
  have b18 := hb3 1 (by omega) x y hp
  rw [← q18] at b18
  refine zW_imul (pc' := 20) dX11_lightOf_0.2.2.2.2 rfl ?_
  refine zW_iadd (pc' := 21) dX11_lightOf_1.1.1 rfl ?_
  refine zW_iconst (pc' := 22) dX11_lightOf_1.1.2 rfl ?_
  refine zW_idiv (pc' := 23) (by omega) (by omega) dX11_lightOf_1.2.1 rfl ?_
  exact zV_iret rfl dX11_lightOf_1.2.2 ⟨rfl, ⟨by omega, by omega, by unfold lgt; omega⟩⟩

abbrev q_X11_greatestOfZ (κ h : Hp) (l1 : Nat) (x2 : Int) (W : Int) (H : Int) (F : P3) (x : Int) (y : Int) : Int → Hp → Prop := fun r h' => h' = h ∧ ((0 ≤ r) ∧ (r ≤ 4095) ∧ (r = mx3 F x y))
set_option maxHeartbeats 4000000 in
set_option maxRecDepth 20000 in
theorem s_X11_greatestOfZ {G : Ga} {b : Bd} {κ h : Hp} (hF : Fr b κ h) (l1 : Nat) (hl1 : 71 ≤ l1 ∧ l1 ≤ 85) (x2 : Int) (hx2 : 0 ≤ x2 ∧ x2 ≤ 255) (W : Int) (H : Int) (F : P3) (x : Int) (y : Int) (hF3 : FuS W H (h l1) F) (hb3 : FB3 W H F) (hp : inP W H x y) (hs : x2 = 16 * y + x) : zM G mX11_greatestOf yX11_greatestOf [.inr (.inr l1), .inl x2] h (q_X11_greatestOfZ κ h l1 x2 W H F x y) := by
  refine zM_of [some (.inr (.inr l1)), some (.inl x2)] 0 rfl rfl (Nat.le_of_ble_eq_true rfl) rfl ?_
  refine zW_aload_n (pc' := 1) dX11_greatestOf_0.1.1.1.1 rfl rfl ?_
  refine zW_iload_n (pc' := 2) dX11_greatestOf_0.1.1.1.2 rfl rfl ?_
  refine zV_iald (pc' := 3) (tabL (by omega) (by omega)) (by omega) dX11_greatestOf_0.1.1.2.1 (by decide) rfl ?_
  have q2 := (hF3 0 (by omega)).at (i := x2) hp (by omega)
  have b2 := hb3 0 (by omega) x y hp
  rw [← q2] at b2
  refine zW_aload_n (pc' := 4) dX11_greatestOf_0.1.1.2.2 rfl rfl ?_
  refine zW_sipush (pc' := 7) dX11_greatestOf_0.1.2.1.1 rfl rfl ?_
  refine zW_iload_n (pc' := 8) dX11_greatestOf_0.1.2.1.2 rfl rfl ?_
  refine zW_iadd (pc' := 9) dX11_greatestOf_0.1.2.2.1 rfl ?_
  refine zV_iald (pc' := 10) (tabL (by omega) (by omega)) (by omega) dX11_greatestOf_0.1.2.2.2 (by decide) rfl ?_
  have q9 := (hF3 1 (by omega)).at (i := 256 + x2) hp (by omega)
  have b9 := hb3 1 (by omega) x y hp
  rw [← q9] at b9
  refine zV_mmax (pc' := 13) km_X11_412 (Nat.le_of_ble_eq_true rfl) (Nat.le_of_ble_eq_true rfl) dX11_greatestOf_0.2.1.1.1 rfl (fun v10 e10 => ?_)
  replace e10 := e10.2 ⟨by omega, by omega⟩ ⟨by omega, by omega⟩
  refine zW_aload_n (pc' := 14) dX11_greatestOf_0.2.1.1.2 rfl rfl ?_
  refine zW_sipush (pc' := 17) dX11_greatestOf_0.2.1.2.1 rfl rfl ?_
  refine zW_iload_n (pc' := 18) dX11_greatestOf_0.2.1.2.2 rfl rfl ?_
  refine zW_iadd (pc' := 19) dX11_greatestOf_0.2.2.1.1 rfl ?_
  refine zV_iald (pc' := 20) (tabL (by omega) (by omega)) (by omega) dX11_greatestOf_0.2.2.1.2 (by decide) rfl ?_
  have q19 := (hF3 2 (by omega)).at (i := 512 + x2) hp (by omega)
  have b19 := hb3 2 (by omega) x y hp
  rw [← q19] at b19
  refine zV_mmax (pc' := 23) km_X11_412 (Nat.le_of_ble_eq_true rfl) (Nat.le_of_ble_eq_true rfl) dX11_greatestOf_0.2.2.2.1 rfl (fun v20 e20 => ?_)
  replace e20 := e20.2 ⟨by omega, by omega⟩ ⟨by omega, by omega⟩
  exact zV_iret rfl dX11_greatestOf_0.2.2.2.2 ⟨rfl, (by unfold mx3; rw [← q2, ← q9, ← q19]; have z1 := max2c (h l1 (256 + x2).toNat) (h l1 (512 + x2).toNat); have z2 := max2c (h l1 x2.toNat) (max2 (h l1 (256 + x2).toNat) (h l1 (512 + x2).toNat)); omega)⟩

abbrev q_X11_leastOfZ (κ h : Hp) (l1 : Nat) (x2 : Int) (W : Int) (H : Int) (F : P3) (x : Int) (y : Int) : Int → Hp → Prop := fun r h' => h' = h ∧ ((0 ≤ r) ∧ (r ≤ 4095) ∧ (r = mn3 F x y))
set_option maxHeartbeats 4000000 in
set_option maxRecDepth 20000 in
theorem s_X11_leastOfZ {G : Ga} {b : Bd} {κ h : Hp} (hF : Fr b κ h) (l1 : Nat) (hl1 : 71 ≤ l1 ∧ l1 ≤ 85) (x2 : Int) (hx2 : 0 ≤ x2 ∧ x2 ≤ 255) (W : Int) (H : Int) (F : P3) (x : Int) (y : Int) (hF3 : FuS W H (h l1) F) (hb3 : FB3 W H F) (hp : inP W H x y) (hs : x2 = 16 * y + x) : zM G mX11_leastOf yX11_leastOf [.inr (.inr l1), .inl x2] h (q_X11_leastOfZ κ h l1 x2 W H F x y) := by
  refine zM_of [some (.inr (.inr l1)), some (.inl x2)] 0 rfl rfl (Nat.le_of_ble_eq_true rfl) rfl ?_
  refine zW_aload_n (pc' := 1) dX11_leastOf_0.1.1.1.1 rfl rfl ?_
  refine zW_iload_n (pc' := 2) dX11_leastOf_0.1.1.1.2 rfl rfl ?_
  refine zV_iald (pc' := 3) (tabL (by omega) (by omega)) (by omega) dX11_leastOf_0.1.1.2.1 (by decide) rfl ?_
  have q2 := (hF3 0 (by omega)).at (i := x2) hp (by omega)
  have b2 := hb3 0 (by omega) x y hp
  rw [← q2] at b2
  refine zW_aload_n (pc' := 4) dX11_leastOf_0.1.1.2.2 rfl rfl ?_
  refine zW_sipush (pc' := 7) dX11_leastOf_0.1.2.1.1 rfl rfl ?_
  refine zW_iload_n (pc' := 8) dX11_leastOf_0.1.2.1.2 rfl rfl ?_
  refine zW_iadd (pc' := 9) dX11_leastOf_0.1.2.2.1 rfl ?_
  refine zV_iald (pc' := 10) (tabL (by omega) (by omega)) (by omega) dX11_leastOf_0.1.2.2.2 (by decide) rfl ?_
  have q9 := (hF3 1 (by omega)).at (i := 256 + x2) hp (by omega)
  have b9 := hb3 1 (by omega) x y hp
  rw [← q9] at b9
  refine zV_mmin (pc' := 13) km_X11_407 (Nat.le_of_ble_eq_true rfl) (Nat.le_of_ble_eq_true rfl) dX11_leastOf_0.2.1.1.1 rfl (fun v10 e10 => ?_)
  replace e10 := e10.2 ⟨by omega, by omega⟩ ⟨by omega, by omega⟩
  refine zW_aload_n (pc' := 14) dX11_leastOf_0.2.1.1.2 rfl rfl ?_
  refine zW_sipush (pc' := 17) dX11_leastOf_0.2.1.2.1 rfl rfl ?_
  refine zW_iload_n (pc' := 18) dX11_leastOf_0.2.1.2.2 rfl rfl ?_
  refine zW_iadd (pc' := 19) dX11_leastOf_0.2.2.1.1 rfl ?_
  refine zV_iald (pc' := 20) (tabL (by omega) (by omega)) (by omega) dX11_leastOf_0.2.2.1.2 (by decide) rfl ?_
  have q19 := (hF3 2 (by omega)).at (i := 512 + x2) hp (by omega)
  have b19 := hb3 2 (by omega) x y hp
  rw [← q19] at b19
  refine zV_mmin (pc' := 23) km_X11_407 (Nat.le_of_ble_eq_true rfl) (Nat.le_of_ble_eq_true rfl) dX11_leastOf_0.2.2.2.1 rfl (fun v20 e20 => ?_)
  replace e20 := e20.2 ⟨by omega, by omega⟩ ⟨by omega, by omega⟩
  exact zV_iret rfl dX11_leastOf_0.2.2.2.2 ⟨rfl, (by unfold mn3; rw [← q2, ← q9, ← q19]; have z1 := min2c (h l1 (256 + x2).toNat) (h l1 (512 + x2).toNat); have z2 := min2c (h l1 x2.toNat) (min2 (h l1 (256 + x2).toNat) (h l1 (512 + x2).toNat)); omega)⟩

abbrev q_X11_blurOfZ (κ h : Hp) (l2 : Nat) (x3 : Int) (x4 : Int) (x5 : Int) (g : Int → Int → Int) : Int → Hp → Prop := fun r h' => h' = h ∧ ((0 ≤ r) ∧ (r ≤ 4095) ∧ (r = blr (κ 33 0) (κ 33 1) g x4 x5))
set_option maxHeartbeats 4000000 in
set_option maxRecDepth 20000 in
theorem s_X11_blurOfZ {G : Ga} {b : Bd} {κ h : Hp} (hK : KC κ) (hF : Fr b κ h) (l2 : Nat) (hl2 : 71 ≤ l2 ∧ l2 ≤ 85) (x3 : Int) (hx3 : 0 ≤ x3 ∧ x3 ≤ 2) (x4 : Int) (hx4 : 0 ≤ x4 ∧ x4 ≤ 15 ∧ x4 - κ 33 0 ≤ -1) (x5 : Int) (hx5 : 0 ≤ x5 ∧ x5 ≤ 15 ∧ x5 - κ 33 1 ≤ -1) (g : Int → Int → Int) (hg : PlS (κ 33 0) (κ 33 1) (h l2) x3 g) (hgb : FB (κ 33 0) (κ 33 1) g) : zM G mX11_blurOf yX11_blurOf [.inr (.inr 33), .inr (.inr l2), .inl x3, .inl x4, .inl x5] h (q_X11_blurOfZ κ h l2 x3 x4 x5 g) := by
  have f_33_0 := KCw hK
  have f_33_1 := KCh hK
  refine zM_of [some (.inr (.inr 33)), some (.inr (.inr l2)), some (.inl x3), some (.inl x4), some (.inl x5), none, none, none, none, none, none, none] 7 rfl rfl (Nat.le_of_ble_eq_true rfl) rfl ?_
  refine zW_iload_n (pc' := 1) dX11_blurOf_0.1.1.1.1 rfl rfl ?_
  refine zW_iconst (pc' := 2) dX11_blurOf_0.1.1.1.2 rfl ?_
  refine zW_isub (pc' := 3) dX11_blurOf_0.1.1.2.1 rfl ?_
  refine zW_aload_n (pc' := 4) dX11_blurOf_0.1.1.2.2 rfl rfl ?_
  refine zG_key (pc' := 7) hF rfl fg_X11_130 tb33 rfl dX11_blurOf_0.1.2.1.1 rfl ?_
  refine csI2 (pc' := 10) kX11_mirrored vX11_mirrored lk_X11_415 ⟨Nat.le_of_ble_eq_true rfl, Nat.le_of_ble_eq_true rfl⟩ rfl (s_X11_mirroredZ hF _ ⟨by omega, by omega⟩ _ ⟨by omega, by omega⟩ (by omega)) dX11_blurOf_0.1.2.1.2 (Nat.le_of_ble_eq_true rfl) rfl ?_
  rintro r7 z7 ⟨hz7, p7⟩; subst z7
  refine zW_istore (ls' := [_, _, _, _, _, _, _, _, _, _, _, _]) (pc' := 12) dX11_blurOf_0.1.2.2.1 (by decide) rfl rfl rfl ?_
  refine zW_iload_n (pc' := 13) dX11_blurOf_0.1.2.2.2 rfl rfl ?_
  refine zW_iconst (pc' := 14) dX11_blurOf_0.2.1.1.1 rfl ?_
  refine zW_iadd (pc' := 15) dX11_blurOf_0.2.1.1.2 rfl ?_
  refine zW_aload_n (pc' := 16) dX11_blurOf_0.2.1.2.1 rfl rfl ?_
  refine zG_key (pc' := 19) hF rfl fg_X11_130 tb33 rfl dX11_blurOf_0.2.1.2.2 rfl ?_
  refine csI2 (pc' := 22) kX11_mirrored vX11_mirrored lk_X11_415 ⟨Nat.le_of_ble_eq_true rfl, Nat.le_of_ble_eq_true rfl⟩ rfl (s_X11_mirroredZ hF _ ⟨by omega, by omega⟩ _ ⟨by omega, by omega⟩ (by omega)) dX11_blurOf_0.2.2.1.1 (Nat.le_of_ble_eq_true rfl) rfl ?_
  rintro r19 z19 ⟨hz19, p19⟩; subst z19
  refine zW_istore (ls' := [_, _, _, _, _, _, _, _, _, _, _, _]) (pc' := 24) dX11_blurOf_0.2.2.1.2 (by decide) rfl rfl rfl ?_
  refine zW_iload_n (pc' := 25) dX11_blurOf_0.2.2.2.1 rfl rfl ?_
  refine zW_sipush (pc' := 28) dX11_blurOf_0.2.2.2.2 rfl rfl ?_
  refine zW_imul (pc' := 29) dX11_blurOf_1.1.1.1.1 rfl ?_
  refine zW_iload (pc' := 31) dX11_blurOf_1.1.1.1.2 rfl rfl ?_
  refine zW_bipush (pc' := 33) dX11_blurOf_1.1.1.2.1 rfl rfl ?_
  refine zW_imul (pc' := 34) dX11_blurOf_1.1.1.2.2 rfl ?_
  refine zW_iadd (pc' := 35) dX11_blurOf_1.1.2.1.1 rfl ?_
  refine zW_istore (ls' := [_, _, _, _, _, _, _, _, _, _, _, _]) (pc' := 37) dX11_blurOf_1.1.2.1.2 (by decide) rfl rfl rfl ?_
  refine zW_iload_n (pc' := 38) dX11_blurOf_1.1.2.2.1 rfl rfl ?_
  refine zW_sipush (pc' := 41) dX11_blurOf_1.1.2.2.2 rfl rfl ?_
  refine zW_imul (pc' := 42) dX11_blurOf_1.2.1.1.1 rfl ?_
  refine zW_iload (pc' := 44) dX11_blurOf_1.2.1.1.2 rfl rfl ?_
  refine zW_iconst (pc' := 45) dX11_blurOf_1.2.1.2.1 rfl ?_
  refine zW_isub (pc' := 46) dX11_blurOf_1.2.1.2.2 rfl ?_
  refine zW_aload_n (pc' := 47) dX11_blurOf_1.2.2.1.1 rfl rfl ?_
  refine zG_key (pc' := 50) hF rfl fg_X11_127 tb33 rfl dX11_blurOf_1.2.2.1.2 rfl ?_
  refine csI2 (pc' := 53) kX11_mirrored vX11_mirrored lk_X11_415 ⟨Nat.le_of_ble_eq_true rfl, Nat.le_of_ble_eq_true rfl⟩ rfl (s_X11_mirroredZ hF _ ⟨by omega, by omega⟩ _ ⟨by omega, by omega⟩ (by omega)) dX11_blurOf_1.2.2.2.1 (Nat.le_of_ble_eq_true rfl) rfl ?_
  rintro r50 z50 ⟨hz50, p50⟩; subst z50
  refine zW_bipush (pc' := 55) dX11_blurOf_1.2.2.2.2 rfl rfl ?_
  refine zW_imul (pc' := 56) dX11_blurOf_2.1.1.1.1 rfl ?_
  refine zW_iadd (pc' := 57) dX11_blurOf_2.1.1.1.2 rfl ?_
  refine zW_istore (ls' := [_, _, _, _, _, _, _, _, _, _, _, _]) (pc' := 59) dX11_blurOf_2.1.1.2.1 (by decide) rfl rfl rfl ?_
  refine zW_iload_n (pc' := 60) dX11_blurOf_2.1.1.2.2 rfl rfl ?_
  refine zW_sipush (pc' := 63) dX11_blurOf_2.1.2.1.1 rfl rfl ?_
  refine zW_imul (pc' := 64) dX11_blurOf_2.1.2.1.2 rfl ?_
  refine zW_iload (pc' := 66) dX11_blurOf_2.1.2.2.1 rfl rfl ?_
  refine zW_iconst (pc' := 67) dX11_blurOf_2.1.2.2.2 rfl ?_
  refine zW_iadd (pc' := 68) dX11_blurOf_2.2.1.1.1 rfl ?_
  refine zW_aload_n (pc' := 69) dX11_blurOf_2.2.1.1.2 rfl rfl ?_
  refine zG_key (pc' := 72) hF rfl fg_X11_127 tb33 rfl dX11_blurOf_2.2.1.2.1 rfl ?_
  refine csI2 (pc' := 75) kX11_mirrored vX11_mirrored lk_X11_415 ⟨Nat.le_of_ble_eq_true rfl, Nat.le_of_ble_eq_true rfl⟩ rfl (s_X11_mirroredZ hF _ ⟨by omega, by omega⟩ _ ⟨by omega, by omega⟩ (by omega)) dX11_blurOf_2.2.1.2.2 (Nat.le_of_ble_eq_true rfl) rfl ?_
  rintro r72 z72 ⟨hz72, p72⟩; subst z72
  refine zW_bipush (pc' := 77) dX11_blurOf_2.2.2.1.1 rfl rfl ?_
  refine zW_imul (pc' := 78) dX11_blurOf_2.2.2.1.2 rfl ?_
  refine zW_iadd (pc' := 79) dX11_blurOf_2.2.2.2.1 rfl ?_
  refine zW_istore (ls' := [_, _, _, _, _, _, _, _, _, _, _, _]) (pc' := 81) dX11_blurOf_2.2.2.2.2 (by decide) rfl rfl rfl ?_
  refine zW_aload_n (pc' := 82) dX11_blurOf_3.1.1.1.1 rfl rfl ?_
  refine zW_iload (pc' := 84) dX11_blurOf_3.1.1.1.2 rfl rfl ?_
  refine zW_iload (pc' := 86) dX11_blurOf_3.1.1.2.1 rfl rfl ?_
  refine zW_iadd (pc' := 87) dX11_blurOf_3.1.1.2.2 rfl ?_
  refine zV_iald (pc' := 88) (tabL (by omega) (by omega)) (by omega) dX11_blurOf_3.1.2.1.1 (by decide) rfl ?_
  have q87 := hg.at (i := x3 * 256 + x5 * 16 + r7) (x := r7) (y := x5) ⟨by omega, by omega, by omega, by omega⟩ (by omega)
  have b87 := hgb (r7) (x5) ⟨by omega, by omega, by omega, by omega⟩
  rw [← q87] at b87
  refine zW_aload_n (pc' := 89) dX11_blurOf_3.1.2.1.2 rfl rfl ?_
  refine zW_iload (pc' := 91) dX11_blurOf_3.1.2.2.1 rfl rfl ?_
  refine zW_iload (pc' := 93) dX11_blurOf_3.1.2.2.2 rfl rfl ?_
  refine zW_iadd (pc' := 94) dX11_blurOf_3.2.1.1.1 rfl ?_
  refine zV_iald (pc' := 95) (tabL (by omega) (by omega)) (by omega) dX11_blurOf_3.2.1.1.2 (by decide) rfl ?_
  have q94 := hg.at (i := x3 * 256 + x5 * 16 + r19) (x := r19) (y := x5) ⟨by omega, by omega, by omega, by omega⟩ (by omega)
  have b94 := hgb (r19) (x5) ⟨by omega, by omega, by omega, by omega⟩
  rw [← q94] at b94
  refine zW_iadd (pc' := 96) dX11_blurOf_3.2.1.2.1 rfl ?_
  refine zW_aload_n (pc' := 97) dX11_blurOf_3.2.1.2.2 rfl rfl ?_
  refine zW_iload (pc' := 99) dX11_blurOf_3.2.2.1.1 rfl rfl ?_
  refine zW_iload_n (pc' := 100) dX11_blurOf_3.2.2.1.2 rfl rfl ?_
  refine zW_iadd (pc' := 101) dX11_blurOf_3.2.2.2.1 rfl ?_
  refine zV_iald (pc' := 102) (tabL (by omega) (by omega)) (by omega) dX11_blurOf_3.2.2.2.2 (by decide) rfl ?_
  have q101 := hg.at (i := x3 * 256 + r50 * 16 + x4) (x := x4) (y := r50) ⟨by omega, by omega, by omega, by omega⟩ (by omega)
  have b101 := hgb (x4) (r50) ⟨by omega, by omega, by omega, by omega⟩
  rw [← q101] at b101
  refine zW_iadd (pc' := 103) dX11_blurOf_4.1.1.1.1 rfl ?_
  refine zW_aload_n (pc' := 104) dX11_blurOf_4.1.1.1.2 rfl rfl ?_
  refine zW_iload (pc' := 106) dX11_blurOf_4.1.1.2.1 rfl rfl ?_
  refine zW_iload_n (pc' := 107) dX11_blurOf_4.1.1.2.2 rfl rfl ?_
  refine zW_iadd (pc' := 108) dX11_blurOf_4.1.2.1.1 rfl ?_
  refine zV_iald (pc' := 109) (tabL (by omega) (by omega)) (by omega) dX11_blurOf_4.1.2.1.2 (by decide) rfl ?_
  have q108 := hg.at (i := x3 * 256 + r72 * 16 + x4) (x := x4) (y := r72) ⟨by omega, by omega, by omega, by omega⟩ (by omega)
  have b108 := hgb (x4) (r72) ⟨by omega, by omega, by omega, by omega⟩
  rw [← q108] at b108
  refine zW_iadd (pc' := 110) dX11_blurOf_4.1.2.2.1 rfl ?_
  refine zW_istore (ls' := [_, _, _, _, _, _, _, _, _, _, _, _]) (pc' := 112) dX11_blurOf_4.1.2.2.2 (by decide) rfl rfl rfl ?_
  refine zW_aload_n (pc' := 113) dX11_blurOf_4.2.1.1.1 rfl rfl ?_
  refine zW_iload (pc' := 115) dX11_blurOf_4.2.1.1.2 rfl rfl ?_
  refine zW_iload (pc' := 117) dX11_blurOf_4.2.1.2.1 rfl rfl ?_
  refine zW_iadd (pc' := 118) dX11_blurOf_4.2.1.2.2 rfl ?_
  refine zV_iald (pc' := 119) (tabL (by omega) (by omega)) (by omega) dX11_blurOf_4.2.2.1.1 (by decide) rfl ?_
  have q118 := hg.at (i := x3 * 256 + r50 * 16 + r7) (x := r7) (y := r50) ⟨by omega, by omega, by omega, by omega⟩ (by omega)
  have b118 := hgb (r7) (r50) ⟨by omega, by omega, by omega, by omega⟩
  rw [← q118] at b118
  refine zW_aload_n (pc' := 120) dX11_blurOf_4.2.2.1.2 rfl rfl ?_
  refine zW_iload (pc' := 122) dX11_blurOf_4.2.2.2.1 rfl rfl ?_
  refine zW_iload (pc' := 124) dX11_blurOf_4.2.2.2.2 rfl rfl ?_
  refine zW_iadd (pc' := 125) dX11_blurOf_5.1.1.1.1 rfl ?_
  refine zV_iald (pc' := 126) (tabL (by omega) (by omega)) (by omega) dX11_blurOf_5.1.1.1.2 (by decide) rfl ?_
  have q125 := hg.at (i := x3 * 256 + r50 * 16 + r19) (x := r19) (y := r50) ⟨by omega, by omega, by omega, by omega⟩ (by omega)
  have b125 := hgb (r19) (r50) ⟨by omega, by omega, by omega, by omega⟩
  rw [← q125] at b125
  refine zW_iadd (pc' := 127) dX11_blurOf_5.1.1.2.1 rfl ?_
  refine zW_aload_n (pc' := 128) dX11_blurOf_5.1.1.2.2 rfl rfl ?_
  refine zW_iload (pc' := 130) dX11_blurOf_5.1.2.1.1 rfl rfl ?_
  refine zW_iload (pc' := 132) dX11_blurOf_5.1.2.1.2 rfl rfl ?_
  refine zW_iadd (pc' := 133) dX11_blurOf_5.1.2.2.1 rfl ?_
  refine zV_iald (pc' := 134) (tabL (by omega) (by omega)) (by omega) dX11_blurOf_5.1.2.2.2 (by decide) rfl ?_
  have q133 := hg.at (i := x3 * 256 + r72 * 16 + r7) (x := r7) (y := r72) ⟨by omega, by omega, by omega, by omega⟩ (by omega)
  have b133 := hgb (r7) (r72) ⟨by omega, by omega, by omega, by omega⟩
  rw [← q133] at b133
  refine zW_iadd (pc' := 135) dX11_blurOf_5.2.1.1.1 rfl ?_
  refine zW_aload_n (pc' := 136) dX11_blurOf_5.2.1.1.2 rfl rfl ?_
  refine zW_iload (pc' := 138) dX11_blurOf_5.2.1.2.1 rfl rfl ?_
  refine zW_iload (pc' := 140) dX11_blurOf_5.2.1.2.2 rfl rfl ?_
  refine zW_iadd (pc' := 141) dX11_blurOf_5.2.2.1.1 rfl ?_
  refine zV_iald (pc' := 142) (tabL (by omega) (by omega)) (by omega) dX11_blurOf_5.2.2.1.2 (by decide) rfl ?_
  have q141 := hg.at (i := x3 * 256 + r72 * 16 + r19) (x := r19) (y := r72) ⟨by omega, by omega, by omega, by omega⟩ (by omega)
  have b141 := hgb (r19) (r72) ⟨by omega, by omega, by omega, by omega⟩
  rw [← q141] at b141
  refine zW_iadd (pc' := 143) dX11_blurOf_5.2.2.2.1 rfl ?_
  refine zW_istore (ls' := [_, _, _, _, _, _, _, _, _, _, _, _]) (pc' := 145) dX11_blurOf_5.2.2.2.2 (by decide) rfl rfl rfl ?_
  refine zW_iconst (pc' := 146) dX11_blurOf_6.1.1.1.1 rfl ?_
  refine zW_aload_n (pc' := 147) dX11_blurOf_6.1.1.1.2 rfl rfl ?_
  refine zW_iload (pc' := 149) dX11_blurOf_6.1.1.2.1 rfl rfl ?_
  refine zW_iload_n (pc' := 150) dX11_blurOf_6.1.1.2.2 rfl rfl ?_
  refine zW_iadd (pc' := 151) dX11_blurOf_6.1.2.1.1 rfl ?_
  refine zV_iald (pc' := 152) (tabL (by omega) (by omega)) (by omega) dX11_blurOf_6.1.2.1.2 (by decide) rfl ?_
  have q151 := hg.at (i := x3 * 256 + x5 * 16 + x4) (x := x4) (y := x5) ⟨by omega, by omega, by omega, by omega⟩ (by omega)
  have b151 := hgb (x4) (x5) ⟨by omega, by omega, by omega, by omega⟩
  rw [← q151] at b151
  refine zW_imul (pc' := 153) dX11_blurOf_6.1.2.2.1 rfl ?_
  refine zW_iconst (pc' := 154) dX11_blurOf_6.1.2.2.2 rfl ?_
  refine zW_iload (pc' := 156) dX11_blurOf_6.2.1.1.1 rfl rfl ?_
  refine zW_imul (pc' := 157) dX11_blurOf_6.2.1.1.2 rfl ?_
  refine zW_iadd (pc' := 158) dX11_blurOf_6.2.1.2.1 rfl ?_
  refine zW_iload (pc' := 160) dX11_blurOf_6.2.1.2.2 rfl rfl ?_
  refine zW_iadd (pc' := 161) dX11_blurOf_6.2.2.1.1 rfl ?_
  refine zW_bipush (pc' := 163) dX11_blurOf_6.2.2.1.2 rfl rfl ?_
  refine zW_idiv (pc' := 164) (by omega) (by omega) dX11_blurOf_6.2.2.2.1 rfl ?_
  exact zV_iret rfl dX11_blurOf_6.2.2.2.2 ⟨rfl, (by refine ⟨by omega, by omega, ?_⟩; unfold blr; rw [← p7.2.2.2, ← p19.2.2.2, ← p50.2.2.2, ← p72.2.2.2, ← q87, ← q94, ← q101, ← q108, ← q118, ← q125, ← q133, ← q141, ← q151])⟩

abbrev q_X3_isGreyZ (κ h : Hp) (l1 : Nat) (x2 : Int) (x3 : Int) (W : Int) (H : Int) (F : P3) (x : Int) (y : Int) : Int → Hp → Prop := fun r h' => h' = h ∧ ((0 ≤ r) ∧ (r ≤ 1) ∧ (r = 1 ↔ gy F x3 x y))
set_option maxHeartbeats 4000000 in
set_option maxRecDepth 20000 in
theorem s_X3_isGreyZ {G : Ga} {b : Bd} {κ h : Hp} (hF : Fr b κ h) (l1 : Nat) (hl1 : 71 ≤ l1 ∧ l1 ≤ 85) (x2 : Int) (hx2 : 0 ≤ x2 ∧ x2 ≤ 255) (x3 : Int) (hx3 : 0 ≤ x3 ∧ x3 ≤ 255) (W : Int) (H : Int) (F : P3) (x : Int) (y : Int) (hF3 : FuS W H (h l1) F) (hb3 : FB3 W H F) (hp : inP W H x y) (hs : x2 = 16 * y + x) : zM G mX3_isGrey yX3_isGrey [.inr (.inr 87), .inr (.inr l1), .inl x2, .inl x3] h (q_X3_isGreyZ κ h l1 x2 x3 W H F x y) := by
  refine zM_of [some (.inr (.inr 87)), some (.inr (.inr l1)), some (.inl x2), some (.inl x3), none, none] 2 rfl rfl (Nat.le_of_ble_eq_true rfl) rfl ?_
  refine zW_aload_n (pc' := 1) dX3_isGrey_0.1.1.1.1 rfl rfl ?_
  refine zW_iload_n (pc' := 2) dX3_isGrey_0.1.1.1.2 rfl rfl ?_
  refine csI2 (pc' := 5) kX11_leastOf vX11_leastOf lk_X3_79 ⟨Nat.le_of_ble_eq_true rfl, Nat.le_of_ble_eq_true rfl⟩ rfl (s_X11_leastOfZ hF _ ⟨by omega, by omega⟩ _ ⟨by omega, by omega⟩ W H F x y (by omega) (by omega) (by omega) (by omega)) dX3_isGrey_0.1.1.2.1 (Nat.le_of_ble_eq_true rfl) rfl ?_
  rintro r2 z2 ⟨hz2, p2⟩; subst z2
  refine zW_istore (ls' := [_, _, _, _, _, _]) (pc' := 7) dX3_isGrey_0.1.1.2.2 (by decide) rfl rfl rfl ?_
  refine zW_aload_n (pc' := 8) dX3_isGrey_0.1.2.1.1 rfl rfl ?_
  refine zW_iload_n (pc' := 9) dX3_isGrey_0.1.2.1.2 rfl rfl ?_
  refine csI2 (pc' := 12) kX11_greatestOf vX11_greatestOf lk_X3_83 ⟨Nat.le_of_ble_eq_true rfl, Nat.le_of_ble_eq_true rfl⟩ rfl (s_X11_greatestOfZ hF _ ⟨by omega, by omega⟩ _ ⟨by omega, by omega⟩ W H F x y (by omega) (by omega) (by omega) (by omega)) dX3_isGrey_0.1.2.2.1 (Nat.le_of_ble_eq_true rfl) rfl ?_
  rintro r9 z9 ⟨hz9, p9⟩; subst z9
  refine zW_istore (ls' := [_, _, _, _, _, _]) (pc' := 14) dX3_isGrey_0.1.2.2.2 (by decide) rfl rfl rfl ?_
  refine zW_iload (pc' := 16) dX3_isGrey_0.2.1.1.1 rfl rfl ?_
  refine zW_bipush (pc' := 18) dX3_isGrey_0.2.1.1.2 rfl rfl ?_
  refine zV_cm_lt (tgt := 45) (pc' := 21) dX3_isGrey_0.2.1.2.1 rfl rfl ⟨by omega, by omega⟩ ⟨by omega, by omega⟩ (fun c18 => ?_) (fun c18 => ?_)
  · refine zW_iconst (pc' := 46) dX3_isGrey_1.2.2.1 rfl ?_
    exact zV_zret rfl (by omega) dX3_isGrey_1.2.2.2 ⟨rfl, (by refine ⟨by omega, by omega, ?_⟩; unfold gy; rw [← p2.2.2, ← p9.2.2]; omega)⟩
  · refine zW_iload (pc' := 23) dX3_isGrey_0.2.1.2.2 rfl rfl ?_
    refine zW_sipush (pc' := 26) dX3_isGrey_0.2.2.1.1 rfl rfl ?_
    refine zV_cm_gt (tgt := 45) (pc' := 29) dX3_isGrey_0.2.2.1.2 rfl rfl ⟨by omega, by omega⟩ ⟨by omega, by omega⟩ (fun c26 => ?_) (fun c26 => ?_)
    · refine zW_iconst (pc' := 46) dX3_isGrey_1.2.2.1 rfl ?_
      exact zV_zret rfl (by omega) dX3_isGrey_1.2.2.2 ⟨rfl, (by refine ⟨by omega, by omega, ?_⟩; unfold gy; rw [← p2.2.2, ← p9.2.2]; omega)⟩
    · refine zW_iload (pc' := 31) dX3_isGrey_0.2.2.2.1 rfl rfl ?_
      refine zW_iload (pc' := 33) dX3_isGrey_0.2.2.2.2 rfl rfl ?_
      refine zW_isub (pc' := 34) dX3_isGrey_1.1.1.1.1 rfl ?_
      refine zW_bipush (pc' := 36) dX3_isGrey_1.1.1.1.2 rfl rfl ?_
      refine zW_iload_n (pc' := 37) dX3_isGrey_1.1.1.2 rfl rfl ?_
      refine zW_imul (pc' := 38) dX3_isGrey_1.1.2.1 rfl ?_
      refine zV_cm_gt (tgt := 45) (pc' := 41) dX3_isGrey_1.1.2.2 rfl rfl ⟨by omega, by omega⟩ ⟨by omega, by omega⟩ (fun c38 => ?_) (fun c38 => ?_)
      · refine zW_iconst (pc' := 46) dX3_isGrey_1.2.2.1 rfl ?_
        exact zV_zret rfl (by omega) dX3_isGrey_1.2.2.2 ⟨rfl, (by refine ⟨by omega, by omega, ?_⟩; unfold gy; rw [← p2.2.2, ← p9.2.2]; omega)⟩
      · refine zW_iconst (pc' := 42) dX3_isGrey_1.2.1.1 rfl ?_
        refine zV_goto 46 dX3_isGrey_1.2.1.2 rfl ?_
        exact zV_zret rfl (by omega) dX3_isGrey_1.2.2.2 ⟨rfl, (by refine ⟨by omega, by omega, ?_⟩; unfold gy; rw [← p2.2.2, ← p9.2.2]; omega)⟩

abbrev q_X3_gainOfZ (κ h : Hp) (x1 : Int) (x2 : Int) (kk : Int) : Int → Hp → Prop := fun r h' => h' = h ∧ ((64 ≤ r) ∧ (r ≤ 1024) ∧ (r = gnF kk x1 x2))
set_option maxHeartbeats 4000000 in
set_option maxRecDepth 20000 in
theorem s_X3_gainOfZ {G : Ga} {b : Bd} {κ h : Hp} (hF : Fr b κ h) (x1 : Int) (hx1 : 0 ≤ x1 ∧ x1 ≤ 1048576) (x2 : Int) (hx2 : 0 ≤ x2 ∧ x2 ≤ 1048576) (kk : Int) (hk0 : kk = 0 ↔ x2 = 0) : zM G mX3_gainOf yX3_gainOf [.inr (.inr 87), .inl x1, .inl x2] h (q_X3_gainOfZ κ h x1 x2 kk) := by
  refine zM_of [some (.inr (.inr 87)), some (.inl x1), some (.inl x2)] 0 rfl rfl (Nat.le_of_ble_eq_true rfl) rfl ?_
  refine zW_iload_n (pc' := 1) dX3_gainOf_0.1.1.1.1 rfl rfl ?_
  refine zV_if_le (tgt := 25) (pc' := 4) dX3_gainOf_0.1.1.1.2 rfl rfl ⟨by omega, by omega⟩ (fun c1 => ?_) (fun c1 => ?_)
  · refine zW_sipush (pc' := 28) dX3_gainOf_0.2.2.1.2 rfl rfl ?_
    exact zV_iret rfl dX3_gainOf_0.2.2.2 ⟨rfl, (by unfold gnF; first | (rw [if_pos (by omega)]; exact ⟨by omega, by omega, rfl⟩) | (rw [if_neg (by omega), ← Int.tdiv_eq_ediv_of_nonneg (by omega), ← t15]; have u1 := min2c 1024 v15; have u2 := max2c 64 (min2 1024 v15); exact ⟨by omega, by omega, by omega⟩))⟩
  · refine zW_bipush (pc' := 6) dX3_gainOf_0.1.1.2.1 rfl rfl ?_
    refine zW_sipush (pc' := 9) dX3_gainOf_0.1.1.2.2 rfl rfl ?_
    refine zW_sipush (pc' := 12) dX3_gainOf_0.1.2.1.1 rfl rfl ?_
    refine zW_iload_n (pc' := 13) dX3_gainOf_0.1.2.1.2 rfl rfl ?_
    refine zW_imul (pc' := 14) dX3_gainOf_0.1.2.2 rfl ?_
    refine zW_iload_n (pc' := 15) dX3_gainOf_0.2.1.1.1 rfl rfl ?_
    refine zW_idivX (pc' := 16) ⟨by omega, by omega⟩ ⟨by omega, by omega⟩ dX3_gainOf_0.2.1.1.2 rfl (fun v15 t15 e15 => ?_)
    unfold rng at e15
    have b15_ := tdb2 (a := 256 * x1) (d := x2) (by omega) (by omega)
    rw [← t15] at b15_
    refine zV_mmin (pc' := 19) km_X3_86 (Nat.le_of_ble_eq_true rfl) (Nat.le_of_ble_eq_true rfl) dX3_gainOf_0.2.1.2.1 rfl (fun v16 e16 => ?_)
    replace e16 := e16.2 ⟨by omega, by omega⟩ ⟨by omega, by omega⟩
    refine zV_mmax (pc' := 22) km_X3_91 (Nat.le_of_ble_eq_true rfl) (Nat.le_of_ble_eq_true rfl) dX3_gainOf_0.2.1.2.2 rfl (fun v19 e19 => ?_)
    replace e19 := e19.2 ⟨by omega, by omega⟩ ⟨by omega, by omega⟩
    refine zV_goto 28 dX3_gainOf_0.2.2.1.1 rfl ?_
    exact zV_iret rfl dX3_gainOf_0.2.2.2 ⟨rfl, (by unfold gnF; first | (rw [if_pos (by omega)]; exact ⟨by omega, by omega, rfl⟩) | (rw [if_neg (by omega), ← Int.tdiv_eq_ediv_of_nonneg (by omega), ← t15]; have u1 := min2c 1024 v15; have u2 := max2c 64 (min2 1024 v15); exact ⟨by omega, by omega, by omega⟩))⟩

abbrev q_X3_takeNoiseZ (b : Bd) (κ : Hp) (s1 : Nat) (s2 : Nat) (x3 : Int) (x4 : Int) (F : P3) (gh0 : Hp) : Int → Hp → Prop := fun r h' => Fr b κ h' ∧ ((Fw [(s2 + 15)] [] gh0 h') ∧ (FuS (κ 33 0) (κ 33 1) (h' (s2 + 15)) (nsF (κ 33 0) (κ 33 1) F x3 x4)))
set_option maxHeartbeats 4000000 in
set_option maxRecDepth 20000 in
theorem s_X3_takeNoiseZ {G : Ga} {b : Bd} {κ h : Hp} (hK : KC κ) (hF : Fr b κ h) (s1 : Nat) (hs1 : 56 ≤ s1 ∧ s1 ≤ 70) (s2 : Nat) (hs2 : 56 ≤ s2 ∧ s2 ≤ 70) (x3 : Int) (hx3 : 0 ≤ x3 ∧ x3 ≤ 255) (x4 : Int) (hx4 : 0 ≤ x4 ∧ x4 ≤ 255) (F : P3) (gh0 : Hp) (hto : OkL b (s2 + 15)) (hne : s1 ≠ s2) (hF3 : FuS (κ 33 0) (κ 33 1) (h (s1 + 15)) F) (hb3 : FB3 (κ 33 0) (κ 33 1) F) (hgh : Fw [(s2 + 15)] [] gh0 h) : zM G mX3_takeNoise yX3_takeNoise [.inr (.inr 87), .inr (.inr s1), .inr (.inr s2), .inl x3, .inl x4] h (q_X3_takeNoiseZ b κ s1 s2 x3 x4 F gh0) := by
  have f_33_0 := KCw hK
  have f_33_1 := KCh hK
  have main : ∀ N : Nat, (∀ (v5 : Int) (h : Hp), Fr b κ h → (0 ≤ v5 ∧ v5 ≤ 3) → (Dn (κ 33 0) (κ 33 1) (h (s2 + 15)) (nsF (κ 33 0) (κ 33 1) F x3 x4) v5) → (FuS (κ 33 0) (κ 33 1) (h (s1 + 15)) F) → (Fw [(s2 + 15)] [] gh0 h) → 57730669920 + 140806512 * (3 - v5) + 139110048 < (N : Int) → zV G mX3_takeNoise (q_X3_takeNoiseZ b κ s1 s2 x3 x4 F gh0) 3 [some (.inr (.inr 87)), some (.inr (.inr s1)), some (.inr (.inr s2)), some (.inl x3), some (.inl x4), some (.inl v5), none, none, none, none, none, none, none] [] h) ∧ (∀ (v5 v6 : Int) (h : Hp), Fr b κ h → (0 ≤ v5 ∧ v5 ≤ 2) → (0 ≤ v6 ∧ v6 ≤ 16) → (v6 - κ 33 1 ≤ 0) → (Dn (κ 33 0) (κ 33 1) (h (s2 + 15)) (nsF (κ 33 0) (κ 33 1) F x3 x4) v5) → (PlSu (κ 33 0) (κ 33 1) (h (s2 + 15)) v5 ((nsF (κ 33 0) (κ 33 1) F x3 x4) v5) 0 v6) → (FuS (κ 33 0) (κ 33 1) (h (s1 + 15)) F) → (Fw [(s2 + 15)] [] gh0 h) → 57730669920 + 140806512 * (3 - v5) + 128931264 + 94248 * (16 - v6) + 93024 < (N : Int) → zV G mX3_takeNoise (q_X3_takeNoiseZ b κ s1 s2 x3 x4 F gh0) 12 [some (.inr (.inr 87)), some (.inr (.inr s1)), some (.inr (.inr s2)), some (.inl x3), some (.inl x4), some (.inl v5), some (.inl v6), none, none, none, none, none, none] [] h) ∧ (∀ (v5 v6 v7 : Int) (h : Hp), Fr b κ h → (0 ≤ v5 ∧ v5 ≤ 2) → (0 ≤ v6 ∧ v6 ≤ 15) → (v6 - κ 33 1 ≤ -1) → (0 ≤ v7 ∧ v7 ≤ 16) → (v7 - κ 33 0 ≤ 0) → (Dn (κ 33 0) (κ 33 1) (h (s2 + 15)) (nsF (κ 33 0) (κ 33 1) F x3 x4) v5) → (PlSu (κ 33 0) (κ 33 1) (h (s2 + 15)) v5 ((nsF (κ 33 0) (κ 33 1) F x3 x4) v5) v7 v6) → (FuS (κ 33 0) (κ 33 1) (h (s1 + 15)) F) → (Fw [(s2 + 15)] [] gh0 h) → 57730669920 + 140806512 * (3 - v5) + 128931264 + 94248 * (16 - v6) + 82008 + 68 * (16 - v7) + 67 < (N : Int) → zV G mX3_takeNoise (q_X3_takeNoiseZ b κ s1 s2 x3 x4 F gh0) 27 [some (.inr (.inr 87)), some (.inr (.inr s1)), some (.inr (.inr s2)), some (.inl x3), some (.inl x4), some (.inl v5), some (.inl v6), some (.inl v7), none, none, none, none, none] [] h) := by
    intro N
    induction N with
    | zero =>
      refine ⟨?_, ?_, ?_⟩
      · intro v5 h hF g0 gc0 hF3 hgh hm
        exfalso; omega
      · intro v5 v6 h hF g0 g1 g2 gc0 gc1 hF3 hgh hm
        exfalso; omega
      · intro v5 v6 v7 h hF g0 g1 g2 g3 g4 gc0 gc1 hF3 hgh hm
        exfalso; omega
    | succ N ih =>
      obtain ⟨k3, k12, k27⟩ := ih
      refine ⟨?_, ?_, ?_⟩
      · intro v5 h hF g0 gc0 hF3 hgh hm
        refine zW_iload (pc' := 5) dX3_takeNoise_0.1.1.2.1 rfl rfl ?_
        refine zW_iconst (pc' := 6) dX3_takeNoise_0.1.1.2.2 rfl ?_
        refine zV_cm_gt (tgt := 162) (pc' := 9) dX3_takeNoise_0.1.2.1.1 rfl rfl ⟨by omega, by omega⟩ ⟨by omega, by omega⟩ (fun c6 => ?_) (fun c6 => ?_)
        · exact zV_vret rfl dX3_takeNoise_5.2 ⟨hF, ⟨hgh, gc0.all (by omega)⟩⟩
        · refine zW_iconst (pc' := 10) dX3_takeNoise_0.1.2.1.2 rfl ?_
          refine zW_istore (ls' := [_, _, _, _, _, _, _, _, _, _, _, _, _]) (pc' := 12) dX3_takeNoise_0.1.2.2.1 (by decide) rfl rfl rfl ?_
          exact k12 _ _ _ hF (by omega) (by omega) (by omega) gc0 (by first | exact gc1.rowx (by omega) | exact PlSu.no) hF3 hgh (by omega)
      · intro v5 v6 h hF g0 g1 g2 gc0 gc1 hF3 hgh hm
        refine zW_iload (pc' := 14) dX3_takeNoise_0.1.2.2.2 rfl rfl ?_
        refine zW_aload_n (pc' := 15) dX3_takeNoise_0.2.1.1.1 rfl rfl ?_
        refine zG_ref (pc' := 18) 33 fg_X3_23 tb87 rfl dX3_takeNoise_0.2.1.1.2 rfl ?_
        refine zG_key (pc' := 21) hF rfl fg_X3_42 tb33 rfl dX3_takeNoise_0.2.1.2.1 rfl ?_
        refine zV_cm_ge (tgt := 156) (pc' := 24) dX3_takeNoise_0.2.1.2.2 rfl rfl ⟨by omega, by omega⟩ ⟨by omega, by omega⟩ (fun c21 => ?_) (fun c21 => ?_)
        · refine zW_iinc (ls' := [_, _, _, _, _, _, _, _, _, _, _, _, _]) (pc' := 159) dX3_takeNoise_5.1.1 rfl (by decide) rfl rfl rfl ?_
          refine zV_goto 3 dX3_takeNoise_5.1.2 rfl ?_
          refine zV_clr 6 (ls' := [_, _, _, _, _, _, _, _, _, _, _, _, _]) rfl ?_
          exact k3 _ _ hF (by omega) (by first | exact Dn.no | exact gc0.nx (gc1.all (by omega))) hF3 hgh (by omega)
        · refine zW_iconst (pc' := 25) dX3_takeNoise_0.2.2.1.1 rfl ?_
          refine zW_istore (ls' := [_, _, _, _, _, _, _, _, _, _, _, _, _]) (pc' := 27) dX3_takeNoise_0.2.2.1.2 (by decide) rfl rfl rfl ?_
          exact k27 _ _ _ _ hF (by omega) (by omega) (by omega) (by omega) (by omega) (by first | exact hd2 | exact gc0) (by first | exact hr2 | exact gc1) hF3 hgh (by omega)
      · intro v5 v6 v7 h hF g0 g1 g2 g3 g4 gc0 gc1 hF3 hgh hm
        refine zW_iload (pc' := 29) dX3_takeNoise_0.2.2.2.1 rfl rfl ?_
        refine zW_aload_n (pc' := 30) dX3_takeNoise_0.2.2.2.2 rfl rfl ?_
        refine zG_ref (pc' := 33) 33 fg_X3_23 tb87 rfl dX3_takeNoise_1.1.1.1.1 rfl ?_
        refine zG_key (pc' := 36) hF rfl fg_X3_48 tb33 rfl dX3_takeNoise_1.1.1.1.2 rfl ?_
        refine zV_cm_ge (tgt := 150) (pc' := 39) dX3_takeNoise_1.1.1.2.1 rfl rfl ⟨by omega, by omega⟩ ⟨by omega, by omega⟩ (fun c36 => ?_) (fun c36 => ?_)
        · refine zW_iinc (ls' := [_, _, _, _, _, _, _, _, _, _, _, _, _]) (pc' := 153) dX3_takeNoise_4.2.2.2.1 rfl (by decide) rfl rfl rfl ?_
          refine zV_goto 12 dX3_takeNoise_4.2.2.2.2 rfl ?_
          refine zV_clr 7 (ls' := [_, _, _, _, _, _, _, _, _, _, _, _, _]) rfl ?_
          exact k12 _ _ _ hF (by omega) (by omega) (by omega) gc0 (by first | exact gc1.rowx (by omega) | exact PlSu.no) hF3 hgh (by omega)
        · refine zW_iload (pc' := 41) dX3_takeNoise_1.1.1.2.2 rfl rfl ?_
          refine zW_sipush (pc' := 44) dX3_takeNoise_1.1.2.1.1 rfl rfl ?_
          refine zW_imul (pc' := 45) dX3_takeNoise_1.1.2.1.2 rfl ?_
          refine zW_iload (pc' := 47) dX3_takeNoise_1.1.2.2.1 rfl rfl ?_
          refine zW_bipush (pc' := 49) dX3_takeNoise_1.1.2.2.2 rfl rfl ?_
          refine zW_imul (pc' := 50) dX3_takeNoise_1.2.1.1.1 rfl ?_
          refine zW_iadd (pc' := 51) dX3_takeNoise_1.2.1.1.2 rfl ?_
          refine zW_iload (pc' := 53) dX3_takeNoise_1.2.1.2.1 rfl rfl ?_
          refine zW_iadd (pc' := 54) dX3_takeNoise_1.2.1.2.2 rfl ?_
          refine zW_istore (ls' := [_, _, _, _, _, _, _, _, _, _, _, _, _]) (pc' := 56) dX3_takeNoise_1.2.2.1.1 (by decide) rfl rfl rfl ?_
          refine zW_aload_n (pc' := 57) dX3_takeNoise_1.2.2.1.2 rfl rfl ?_
          refine zG_ref (pc' := 60) 33 fg_X3_23 tb87 rfl dX3_takeNoise_1.2.2.2.1 rfl ?_
          refine zW_aload_n (pc' := 61) dX3_takeNoise_1.2.2.2.2 rfl rfl ?_
          refine zG_lev (pc' := 64) (by omega) (by omega) fg_X3_27 dX3_takeNoise_2.1.1.1.1 rfl ?_
          refine zW_iload (pc' := 66) dX3_takeNoise_2.1.1.1.2 rfl rfl ?_
          refine zW_iload (pc' := 68) dX3_takeNoise_2.1.1.2.1 rfl rfl ?_
          refine zW_iload (pc' := 70) dX3_takeNoise_2.1.1.2.2 rfl rfl ?_
          refine csI5 (pc' := 73) kX11_blurOf vX11_blurOf lk_X3_144 ⟨Nat.le_of_ble_eq_true rfl, Nat.le_of_ble_eq_true rfl⟩ rfl (s_X11_blurOfZ hK hF _ ⟨by omega, by omega⟩ _ ⟨by omega, by omega⟩ _ ⟨by omega, by omega, by omega⟩ _ ⟨by omega, by omega, by omega⟩ (F v5) (hF3 v5 (by omega)) (hb3 v5 (by omega))) dX3_takeNoise_2.1.2.1.1 (Nat.le_of_ble_eq_true rfl) rfl ?_
          rintro r70 z70 ⟨hz70, p70⟩; subst z70
          refine zW_istore (ls' := [_, _, _, _, _, _, _, _, _, _, _, _, _]) (pc' := 75) dX3_takeNoise_2.1.2.1.2 (by decide) rfl rfl rfl ?_
          refine zW_bipush (pc' := 77) dX3_takeNoise_2.1.2.2.1 rfl rfl ?_
          refine zW_iload_n (pc' := 78) dX3_takeNoise_2.1.2.2.2 rfl rfl ?_
          refine zW_imul (pc' := 79) dX3_takeNoise_2.2.1.1.1 rfl ?_
          refine zW_iload (pc' := 81) dX3_takeNoise_2.2.1.1.2 rfl rfl ?_
          refine zW_iload (pc' := 83) dX3_takeNoise_2.2.1.2.1 rfl rfl ?_
          refine zW_imul (pc' := 84) dX3_takeNoise_2.2.1.2.2 rfl ?_
          have q83 := mulq (a := x4) (b := r70) (A := 255) (B := 4095) ⟨by omega, by omega⟩ ⟨by omega, by omega⟩
          refine zW_bipush (pc' := 86) dX3_takeNoise_2.2.2.1.1 rfl rfl ?_
          refine zW_idiv (pc' := 87) (by omega) (by omega) dX3_takeNoise_2.2.2.1.2 rfl ?_
          refine zW_iadd (pc' := 88) dX3_takeNoise_2.2.2.2.1 rfl ?_
          refine zW_istore (ls' := [_, _, _, _, _, _, _, _, _, _, _, _, _]) (pc' := 90) dX3_takeNoise_2.2.2.2.2 (by decide) rfl rfl rfl ?_
          refine zW_aload_n (pc' := 91) dX3_takeNoise_3.1.1.1.1 rfl rfl ?_
          refine zG_lev (pc' := 94) (by omega) (by omega) fg_X3_27 dX3_takeNoise_3.1.1.1.2 rfl ?_
          refine zW_iload (pc' := 96) dX3_takeNoise_3.1.1.2.1 rfl rfl ?_
          refine zV_iald (pc' := 97) (tabL (by omega) (by omega)) (by omega) dX3_takeNoise_3.1.1.2.2 (by decide) rfl ?_
          have q96 := (hF3 v5 (by omega)).at (i := v5 * 256 + v6 * 16 + v7) (x := v7) (y := v6) ⟨by omega, by omega, by omega, by omega⟩ (by omega)
          have b96 := hb3 v5 (by omega) (v7) (v6) ⟨by omega, by omega, by omega, by omega⟩
          rw [← q96] at b96
          generalize hyv : h (s1 + 15) (v5 * 256 + v6 * 16 + v7).toNat = yv at q96 b96 ⊢
          refine zW_iload (pc' := 99) dX3_takeNoise_3.1.2.1.1 rfl rfl ?_
          refine zW_isub (pc' := 100) dX3_takeNoise_3.1.2.1.2 rfl ?_
          refine zW_istore (ls' := [_, _, _, _, _, _, _, _, _, _, _, _, _]) (pc' := 102) dX3_takeNoise_3.1.2.2.1 (by decide) rfl rfl rfl ?_
          refine zW_iconst (pc' := 103) dX3_takeNoise_3.1.2.2.2 rfl ?_
          refine zW_iload (pc' := 105) dX3_takeNoise_3.2.1.1.1 rfl rfl ?_
          refine zV_mabs (pc' := 108) km_X3_148 (Nat.le_of_ble_eq_true rfl) (Nat.le_of_ble_eq_true rfl) dX3_takeNoise_3.2.1.1.2 rfl (fun v105 e105 => ?_)
          replace e105 := e105.2 ⟨by omega, by omega⟩ (by omega)
          refine zW_iload (pc' := 110) dX3_takeNoise_3.2.1.2.1 rfl rfl ?_
          refine zW_isub (pc' := 111) dX3_takeNoise_3.2.1.2.2 rfl ?_
          refine zV_mmax (pc' := 114) km_X3_91 (Nat.le_of_ble_eq_true rfl) (Nat.le_of_ble_eq_true rfl) dX3_takeNoise_3.2.2.1.1 rfl (fun v111 e111 => ?_)
          replace e111 := e111.2 ⟨by omega, by omega⟩ ⟨by omega, by omega⟩
          refine zW_istore (ls' := [_, _, _, _, _, _, _, _, _, _, _, _, _]) (pc' := 116) dX3_takeNoise_3.2.2.1.2 (by decide) rfl rfl rfl ?_
          refine zW_aload_n (pc' := 117) dX3_takeNoise_3.2.2.2.1 rfl rfl ?_
          refine zG_lev (pc' := 120) (by omega) (by omega) fg_X3_27 dX3_takeNoise_3.2.2.2.2 rfl ?_
          refine zW_iload (pc' := 122) dX3_takeNoise_4.1.1.1.1 rfl rfl ?_
          refine zW_iload (pc' := 124) dX3_takeNoise_4.1.1.1.2 rfl rfl ?_
          refine zV_if_ge (tgt := 135) (pc' := 127) dX3_takeNoise_4.1.1.2.1 rfl rfl ⟨by omega, by omega⟩ (fun c124 => ?_) (fun c124 => ?_)
          · refine zW_iload (pc' := 137) dX3_takeNoise_4.1.2.2.2 rfl rfl ?_
            refine zW_iload (pc' := 139) dX3_takeNoise_4.2.1.1.1 rfl rfl ?_
            refine zW_iadd (pc' := 140) dX3_takeNoise_4.2.1.1.2 rfl ?_
            refine csI1 (pc' := 143) kX11_clipped vX11_clipped lk_X3_55 ⟨Nat.le_of_ble_eq_true rfl, Nat.le_of_ble_eq_true rfl⟩ rfl (s_X11_clippedZ hF _ ⟨by omega, by omega⟩) dX3_takeNoise_4.2.1.2.1 (Nat.le_of_ble_eq_true rfl) rfl ?_
            rintro r140 z140 ⟨hz140, p140⟩; subst z140
            refine zS_lv (pc' := 144) hF (by omega) (by omega) hto (by omega) dX3_takeNoise_4.2.1.2.2 rfl (fun h i143 hF a143 b143 w143 => ?_)
            replace b143 := b143 ⟨by omega, by omega⟩
            replace hgh : Fw [(s2 + 15)] [] gh0 h := by rw [w143]; exact hgh.wc (by simp)
            replace hF3 : FuS (κ 33 0) (κ 33 1) (h (s1 + 15)) F := by have q0_ := (congrFun w143 (s1 + 15)).trans (zfun (by omega)); rw [q0_]; exact hF3
            have hr2 : PlSu (κ 33 0) (κ 33 1) (h (s2 + 15)) v5 ((nsF (κ 33 0) (κ 33 1) F x3 x4) v5) (v7 + 1) v6 := by rw [w143, b143]; exact PlSu.nx (by omega) (by omega) ⟨by omega, by omega, by omega, by omega⟩ gc1 (by omega) (by unfold nsF; rw [p140.2.2]; congr 1; rw [← p70.2.2, ← q96]; have z := abc (yv - r70); unfold clm; by_cases c1 : ab (yv - r70) ≤ 16 * x3 + x4 * r70 / 64; (rw [if_pos c1]; omega); (rw [if_neg c1]; by_cases c2 : 0 < yv - r70; (rw [if_pos c2]; omega); (rw [if_neg c2]; omega)))
            have hd2 : Dn (κ 33 0) (κ 33 1) (h (s2 + 15)) (nsF (κ 33 0) (κ 33 1) F x3 x4) v5 := by rw [w143]; exact gc0.w (by omega) (by omega) (by omega)
            refine zW_iinc (ls' := [_, _, _, _, _, _, _, _, _, _, _, _, _]) (pc' := 147) dX3_takeNoise_4.2.2.1.1 rfl (by decide) rfl rfl rfl ?_
            refine zV_goto 27 dX3_takeNoise_4.2.2.1.2 rfl ?_
            refine zV_clr 8 (ls' := [_, _, _, _, _, _, _, _, _, _, _, _, _]) rfl ?_
            refine zV_clr 9 (ls' := [_, _, _, _, _, _, _, _, _, _, _, _, _]) rfl ?_
            refine zV_clr 10 (ls' := [_, _, _, _, _, _, _, _, _, _, _, _, _]) rfl ?_
            refine zV_clr 11 (ls' := [_, _, _, _, _, _, _, _, _, _, _, _, _]) rfl ?_
            refine zV_clr 12 (ls' := [_, _, _, _, _, _, _, _, _, _, _, _, _]) rfl ?_
            exact k27 _ _ _ _ hF (by omega) (by omega) (by omega) (by omega) (by omega) (by first | exact hd2 | exact gc0) (by first | exact hr2 | exact gc1) hF3 hgh (by omega)
          · refine zW_iload (pc' := 129) dX3_takeNoise_4.1.1.2.2 rfl rfl ?_
            refine zW_iload (pc' := 131) dX3_takeNoise_4.1.2.1.1 rfl rfl ?_
            refine zW_isub (pc' := 132) dX3_takeNoise_4.1.2.1.2 rfl ?_
            refine zV_goto 140 dX3_takeNoise_4.1.2.2.1 rfl ?_
            refine csI1 (pc' := 143) kX11_clipped vX11_clipped lk_X3_55 ⟨Nat.le_of_ble_eq_true rfl, Nat.le_of_ble_eq_true rfl⟩ rfl (s_X11_clippedZ hF _ ⟨by omega, by omega⟩) dX3_takeNoise_4.2.1.2.1 (Nat.le_of_ble_eq_true rfl) rfl ?_
            rintro r140 z140 ⟨hz140, p140⟩; subst z140
            refine zS_lv (pc' := 144) hF (by omega) (by omega) hto (by omega) dX3_takeNoise_4.2.1.2.2 rfl (fun h i143 hF a143 b143 w143 => ?_)
            replace b143 := b143 ⟨by omega, by omega⟩
            replace hgh : Fw [(s2 + 15)] [] gh0 h := by rw [w143]; exact hgh.wc (by simp)
            replace hF3 : FuS (κ 33 0) (κ 33 1) (h (s1 + 15)) F := by have q0_ := (congrFun w143 (s1 + 15)).trans (zfun (by omega)); rw [q0_]; exact hF3
            have hr2 : PlSu (κ 33 0) (κ 33 1) (h (s2 + 15)) v5 ((nsF (κ 33 0) (κ 33 1) F x3 x4) v5) (v7 + 1) v6 := by rw [w143, b143]; exact PlSu.nx (by omega) (by omega) ⟨by omega, by omega, by omega, by omega⟩ gc1 (by omega) (by unfold nsF; rw [p140.2.2]; congr 1; rw [← p70.2.2, ← q96]; have z := abc (yv - r70); unfold clm; by_cases c1 : ab (yv - r70) ≤ 16 * x3 + x4 * r70 / 64; (rw [if_pos c1]; omega); (rw [if_neg c1]; by_cases c2 : 0 < yv - r70; (rw [if_pos c2]; omega); (rw [if_neg c2]; omega)))
            have hd2 : Dn (κ 33 0) (κ 33 1) (h (s2 + 15)) (nsF (κ 33 0) (κ 33 1) F x3 x4) v5 := by rw [w143]; exact gc0.w (by omega) (by omega) (by omega)
            refine zW_iinc (ls' := [_, _, _, _, _, _, _, _, _, _, _, _, _]) (pc' := 147) dX3_takeNoise_4.2.2.1.1 rfl (by decide) rfl rfl rfl ?_
            refine zV_goto 27 dX3_takeNoise_4.2.2.1.2 rfl ?_
            refine zV_clr 8 (ls' := [_, _, _, _, _, _, _, _, _, _, _, _, _]) rfl ?_
            refine zV_clr 9 (ls' := [_, _, _, _, _, _, _, _, _, _, _, _, _]) rfl ?_
            refine zV_clr 10 (ls' := [_, _, _, _, _, _, _, _, _, _, _, _, _]) rfl ?_
            refine zV_clr 11 (ls' := [_, _, _, _, _, _, _, _, _, _, _, _, _]) rfl ?_
            refine zV_clr 12 (ls' := [_, _, _, _, _, _, _, _, _, _, _, _, _]) rfl ?_
            exact k27 _ _ _ _ hF (by omega) (by omega) (by omega) (by omega) (by omega) (by first | exact hd2 | exact gc0) (by first | exact hr2 | exact gc1) hF3 hgh (by omega)
  refine zM_of [some (.inr (.inr 87)), some (.inr (.inr s1)), some (.inr (.inr s2)), some (.inl x3), some (.inl x4), none, none, none, none, none, none, none, none] 8 rfl rfl (Nat.le_of_ble_eq_true rfl) rfl ?_
  refine zW_iconst (pc' := 1) dX3_takeNoise_0.1.1.1.1 rfl ?_
  refine zW_istore (ls' := [_, _, _, _, _, _, _, _, _, _, _, _, _]) (pc' := 3) dX3_takeNoise_0.1.1.1.2 (by decide) rfl rfl rfl ?_
  exact (main 10000000000000000000000000000000000000000).1 _ _ hF (by omega) (by first | exact Dn.no | exact gc0.nx (gc1.all (by omega))) hF3 hgh (by omega)

abbrev q_X3_sharpenZ (b : Bd) (κ : Hp) (s1 : Nat) (s2 : Nat) (x3 : Int) (x4 : Int) (F : P3) (gh0 : Hp) : Int → Hp → Prop := fun r h' => Fr b κ h' ∧ ((Fw [(s2 + 15)] [] gh0 h') ∧ (FuS (κ 33 0) (κ 33 1) (h' (s2 + 15)) (spF (κ 33 0) (κ 33 1) F x3 x4)))
set_option maxHeartbeats 4000000 in
set_option maxRecDepth 20000 in
theorem s_X3_sharpenZ {G : Ga} {b : Bd} {κ h : Hp} (hK : KC κ) (hF : Fr b κ h) (s1 : Nat) (hs1 : 56 ≤ s1 ∧ s1 ≤ 70) (s2 : Nat) (hs2 : 56 ≤ s2 ∧ s2 ≤ 70) (x3 : Int) (hx3 : 0 ≤ x3 ∧ x3 ≤ 255) (x4 : Int) (hx4 : 0 ≤ x4 ∧ x4 ≤ 255) (F : P3) (gh0 : Hp) (hto : OkL b (s2 + 15)) (hne : s1 ≠ s2) (hF3 : FuS (κ 33 0) (κ 33 1) (h (s1 + 15)) F) (hb3 : FB3 (κ 33 0) (κ 33 1) F) (hgh : Fw [(s2 + 15)] [] gh0 h) : zM G mX3_sharpen yX3_sharpen [.inr (.inr 87), .inr (.inr s1), .inr (.inr s2), .inl x3, .inl x4] h (q_X3_sharpenZ b κ s1 s2 x3 x4 F gh0) := by
  have f_33_0 := KCw hK
  have f_33_1 := KCh hK
  have main : ∀ N : Nat, (∀ (v5 : Int) (h : Hp), Fr b κ h → (0 ≤ v5 ∧ v5 ≤ 3) → (Dn (κ 33 0) (κ 33 1) (h (s2 + 15)) (spF (κ 33 0) (κ 33 1) F x3 x4) v5) → (FuS (κ 33 0) (κ 33 1) (h (s1 + 15)) F) → (Fw [(s2 + 15)] [] gh0 h) → 37222740000 + 100602000 * (3 - v5) + 99260640 < (N : Int) → zV G mX3_sharpen (q_X3_sharpenZ b κ s1 s2 x3 x4 F gh0) 3 [some (.inr (.inr 87)), some (.inr (.inr s1)), some (.inr (.inr s2)), some (.inl x3), some (.inl x4), some (.inl v5), none, none, none, none, none] [] h) ∧ (∀ (v5 v6 : Int) (h : Hp), Fr b κ h → (0 ≤ v5 ∧ v5 ≤ 2) → (0 ≤ v6 ∧ v6 ≤ 16) → (v6 - κ 33 1 ≤ 0) → (Dn (κ 33 0) (κ 33 1) (h (s2 + 15)) (spF (κ 33 0) (κ 33 1) F x3 x4) v5) → (PlSu (κ 33 0) (κ 33 1) (h (s2 + 15)) v5 ((spF (κ 33 0) (κ 33 1) F x3 x4) v5) 0 v6) → (FuS (κ 33 0) (κ 33 1) (h (s1 + 15)) F) → (Fw [(s2 + 15)] [] gh0 h) → 37222740000 + 100602000 * (3 - v5) + 91212480 + 74520 * (16 - v6) + 73440 < (N : Int) → zV G mX3_sharpen (q_X3_sharpenZ b κ s1 s2 x3 x4 F gh0) 12 [some (.inr (.inr 87)), some (.inr (.inr s1)), some (.inr (.inr s2)), some (.inl x3), some (.inl x4), some (.inl v5), some (.inl v6), none, none, none, none] [] h) ∧ (∀ (v5 v6 v7 : Int) (h : Hp), Fr b κ h → (0 ≤ v5 ∧ v5 ≤ 2) → (0 ≤ v6 ∧ v6 ≤ 15) → (v6 - κ 33 1 ≤ -1) → (0 ≤ v7 ∧ v7 ≤ 16) → (v7 - κ 33 0 ≤ 0) → (Dn (κ 33 0) (κ 33 1) (h (s2 + 15)) (spF (κ 33 0) (κ 33 1) F x3 x4) v5) → (PlSu (κ 33 0) (κ 33 1) (h (s2 + 15)) v5 ((spF (κ 33 0) (κ 33 1) F x3 x4) v5) v7 v6) → (FuS (κ 33 0) (κ 33 1) (h (s1 + 15)) F) → (Fw [(s2 + 15)] [] gh0 h) → 37222740000 + 100602000 * (3 - v5) + 91212480 + 74520 * (16 - v6) + 63720 + 60 * (16 - v7) + 59 < (N : Int) → zV G mX3_sharpen (q_X3_sharpenZ b κ s1 s2 x3 x4 F gh0) 27 [some (.inr (.inr 87)), some (.inr (.inr s1)), some (.inr (.inr s2)), some (.inl x3), some (.inl x4), some (.inl v5), some (.inl v6), some (.inl v7), none, none, none] [] h) := by
    intro N
    induction N with
    | zero =>
      refine ⟨?_, ?_, ?_⟩
      · intro v5 h hF g0 gc0 hF3 hgh hm
        exfalso; omega
      · intro v5 v6 h hF g0 g1 g2 gc0 gc1 hF3 hgh hm
        exfalso; omega
      · intro v5 v6 v7 h hF g0 g1 g2 g3 g4 gc0 gc1 hF3 hgh hm
        exfalso; omega
    | succ N ih =>
      obtain ⟨k3, k12, k27⟩ := ih
      refine ⟨?_, ?_, ?_⟩
      · intro v5 h hF g0 gc0 hF3 hgh hm
        refine zW_iload (pc' := 5) dX3_sharpen_0.1.1.2.1 rfl rfl ?_
        refine zW_iconst (pc' := 6) dX3_sharpen_0.1.1.2.2 rfl ?_
        refine zV_cm_gt (tgt := 146) (pc' := 9) dX3_sharpen_0.1.2.1.1 rfl rfl ⟨by omega, by omega⟩ ⟨by omega, by omega⟩ (fun c6 => ?_) (fun c6 => ?_)
        · exact zV_vret rfl dX3_sharpen_4.2.2.2 ⟨hF, ⟨hgh, gc0.all (by omega)⟩⟩
        · refine zW_iconst (pc' := 10) dX3_sharpen_0.1.2.1.2 rfl ?_
          refine zW_istore (ls' := [_, _, _, _, _, _, _, _, _, _, _]) (pc' := 12) dX3_sharpen_0.1.2.2.1 (by decide) rfl rfl rfl ?_
          exact k12 _ _ _ hF (by omega) (by omega) (by omega) gc0 (by first | exact gc1.rowx (by omega) | exact PlSu.no) hF3 hgh (by omega)
      · intro v5 v6 h hF g0 g1 g2 gc0 gc1 hF3 hgh hm
        refine zW_iload (pc' := 14) dX3_sharpen_0.1.2.2.2 rfl rfl ?_
        refine zW_aload_n (pc' := 15) dX3_sharpen_0.2.1.1.1 rfl rfl ?_
        refine zG_ref (pc' := 18) 33 fg_X3_23 tb87 rfl dX3_sharpen_0.2.1.1.2 rfl ?_
        refine zG_key (pc' := 21) hF rfl fg_X3_42 tb33 rfl dX3_sharpen_0.2.1.2.1 rfl ?_
        refine zV_cm_ge (tgt := 140) (pc' := 24) dX3_sharpen_0.2.1.2.2 rfl rfl ⟨by omega, by omega⟩ ⟨by omega, by omega⟩ (fun c21 => ?_) (fun c21 => ?_)
        · refine zW_iinc (ls' := [_, _, _, _, _, _, _, _, _, _, _]) (pc' := 143) dX3_sharpen_4.2.1.2 rfl (by decide) rfl rfl rfl ?_
          refine zV_goto 3 dX3_sharpen_4.2.2.1 rfl ?_
          refine zV_clr 6 (ls' := [_, _, _, _, _, _, _, _, _, _, _]) rfl ?_
          exact k3 _ _ hF (by omega) (by first | exact Dn.no | exact gc0.nx (gc1.all (by omega))) hF3 hgh (by omega)
        · refine zW_iconst (pc' := 25) dX3_sharpen_0.2.2.1.1 rfl ?_
          refine zW_istore (ls' := [_, _, _, _, _, _, _, _, _, _, _]) (pc' := 27) dX3_sharpen_0.2.2.1.2 (by decide) rfl rfl rfl ?_
          exact k27 _ _ _ _ hF (by omega) (by omega) (by omega) (by omega) (by omega) (by first | exact hd2 | exact gc0) (by first | exact hr2 | exact gc1) hF3 hgh (by omega)
      · intro v5 v6 v7 h hF g0 g1 g2 g3 g4 gc0 gc1 hF3 hgh hm
        refine zW_iload (pc' := 29) dX3_sharpen_0.2.2.2.1 rfl rfl ?_
        refine zW_aload_n (pc' := 30) dX3_sharpen_0.2.2.2.2 rfl rfl ?_
        refine zG_ref (pc' := 33) 33 fg_X3_23 tb87 rfl dX3_sharpen_1.1.1.1.1 rfl ?_
        refine zG_key (pc' := 36) hF rfl fg_X3_48 tb33 rfl dX3_sharpen_1.1.1.1.2 rfl ?_
        refine zV_cm_ge (tgt := 134) (pc' := 39) dX3_sharpen_1.1.1.2.1 rfl rfl ⟨by omega, by omega⟩ ⟨by omega, by omega⟩ (fun c36 => ?_) (fun c36 => ?_)
        · refine zW_iinc (ls' := [_, _, _, _, _, _, _, _, _, _, _]) (pc' := 137) dX3_sharpen_4.2.1.1.1 rfl (by decide) rfl rfl rfl ?_
          refine zV_goto 12 dX3_sharpen_4.2.1.1.2 rfl ?_
          refine zV_clr 7 (ls' := [_, _, _, _, _, _, _, _, _, _, _]) rfl ?_
          exact k12 _ _ _ hF (by omega) (by omega) (by omega) gc0 (by first | exact gc1.rowx (by omega) | exact PlSu.no) hF3 hgh (by omega)
        · refine zW_iload (pc' := 41) dX3_sharpen_1.1.1.2.2 rfl rfl ?_
          refine zW_sipush (pc' := 44) dX3_sharpen_1.1.2.1.1 rfl rfl ?_
          refine zW_imul (pc' := 45) dX3_sharpen_1.1.2.1.2 rfl ?_
          refine zW_iload (pc' := 47) dX3_sharpen_1.1.2.2.1 rfl rfl ?_
          refine zW_bipush (pc' := 49) dX3_sharpen_1.1.2.2.2 rfl rfl ?_
          refine zW_imul (pc' := 50) dX3_sharpen_1.2.1.1.1 rfl ?_
          refine zW_iadd (pc' := 51) dX3_sharpen_1.2.1.1.2 rfl ?_
          refine zW_iload (pc' := 53) dX3_sharpen_1.2.1.2.1 rfl rfl ?_
          refine zW_iadd (pc' := 54) dX3_sharpen_1.2.1.2.2 rfl ?_
          refine zW_istore (ls' := [_, _, _, _, _, _, _, _, _, _, _]) (pc' := 56) dX3_sharpen_1.2.2.1.1 (by decide) rfl rfl rfl ?_
          refine zW_aload_n (pc' := 57) dX3_sharpen_1.2.2.1.2 rfl rfl ?_
          refine zG_lev (pc' := 60) (by omega) (by omega) fg_X3_27 dX3_sharpen_1.2.2.2.1 rfl ?_
          refine zW_iload (pc' := 62) dX3_sharpen_1.2.2.2.2 rfl rfl ?_
          refine zV_iald (pc' := 63) (tabL (by omega) (by omega)) (by omega) dX3_sharpen_2.1.1.1.1 (by decide) rfl ?_
          have q62 := (hF3 v5 (by omega)).at (i := v5 * 256 + v6 * 16 + v7) (x := v7) (y := v6) ⟨by omega, by omega, by omega, by omega⟩ (by omega)
          have b62 := hb3 v5 (by omega) (v7) (v6) ⟨by omega, by omega, by omega, by omega⟩
          rw [← q62] at b62
          generalize hyv : h (s1 + 15) (v5 * 256 + v6 * 16 + v7).toNat = yv at q62 b62 ⊢
          refine zW_aload_n (pc' := 64) dX3_sharpen_2.1.1.1.2 rfl rfl ?_
          refine zG_ref (pc' := 67) 33 fg_X3_23 tb87 rfl dX3_sharpen_2.1.1.2.1 rfl ?_
          refine zW_aload_n (pc' := 68) dX3_sharpen_2.1.1.2.2 rfl rfl ?_
          refine zG_lev (pc' := 71) (by omega) (by omega) fg_X3_27 dX3_sharpen_2.1.2.1.1 rfl ?_
          refine zW_iload (pc' := 73) dX3_sharpen_2.1.2.1.2 rfl rfl ?_
          refine zW_iload (pc' := 75) dX3_sharpen_2.1.2.2.1 rfl rfl ?_
          refine zW_iload (pc' := 77) dX3_sharpen_2.1.2.2.2 rfl rfl ?_
          refine csI5 (pc' := 80) kX11_blurOf vX11_blurOf lk_X3_144 ⟨Nat.le_of_ble_eq_true rfl, Nat.le_of_ble_eq_true rfl⟩ rfl (s_X11_blurOfZ hK hF _ ⟨by omega, by omega⟩ _ ⟨by omega, by omega⟩ _ ⟨by omega, by omega, by omega⟩ _ ⟨by omega, by omega, by omega⟩ (F v5) (hF3 v5 (by omega)) (hb3 v5 (by omega))) dX3_sharpen_2.2.1.1.1 (Nat.le_of_ble_eq_true rfl) rfl ?_
          rintro r77 z77 ⟨hz77, p77⟩; subst z77
          refine zW_isub (pc' := 81) dX3_sharpen_2.2.1.1.2 rfl ?_
          refine zW_istore (ls' := [_, _, _, _, _, _, _, _, _, _, _]) (pc' := 83) dX3_sharpen_2.2.1.2.1 (by decide) rfl rfl rfl ?_
          refine zW_bipush (pc' := 85) dX3_sharpen_2.2.1.2.2 rfl rfl ?_
          refine zW_iload (pc' := 87) dX3_sharpen_2.2.2.1.1 rfl rfl ?_
          refine zW_imul (pc' := 88) dX3_sharpen_2.2.2.1.2 rfl ?_
          refine zW_bipush (pc' := 90) dX3_sharpen_2.2.2.2.1 rfl rfl ?_
          refine zW_iload (pc' := 92) dX3_sharpen_2.2.2.2.2 rfl rfl ?_
          refine zW_imul (pc' := 93) dX3_sharpen_3.1.1.1.1 rfl ?_
          refine zW_iload (pc' := 95) dX3_sharpen_3.1.1.1.2 rfl rfl ?_
          refine zW_iload_n (pc' := 96) dX3_sharpen_3.1.1.2.1 rfl rfl ?_
          refine zW_imul (pc' := 97) dX3_sharpen_3.1.1.2.2 rfl ?_
          have q96 := mulS (a := yv - r77) (b := x3) (A := 4095) (B := 255) ⟨by omega, by omega⟩ ⟨by omega, by omega⟩
          refine zW_bipush (pc' := 99) dX3_sharpen_3.1.2.1.1 rfl rfl ?_
          refine zW_idivS (pc' := 100) ⟨by omega, by omega⟩ (by omega) dX3_sharpen_3.1.2.1.2 rfl (fun v99 e99 => ?_)
          refine zV_mmin (pc' := 103) km_X3_86 (Nat.le_of_ble_eq_true rfl) (Nat.le_of_ble_eq_true rfl) dX3_sharpen_3.1.2.2.1 rfl (fun v100 e100 => ?_)
          replace e100 := e100.2 ⟨by omega, by omega⟩ ⟨by omega, by omega⟩
          refine zV_mmax (pc' := 106) km_X3_91 (Nat.le_of_ble_eq_true rfl) (Nat.le_of_ble_eq_true rfl) dX3_sharpen_3.1.2.2.2 rfl (fun v103 e103 => ?_)
          replace e103 := e103.2 ⟨by omega, by omega⟩ ⟨by omega, by omega⟩
          refine zW_istore (ls' := [_, _, _, _, _, _, _, _, _, _, _]) (pc' := 108) dX3_sharpen_3.2.1.1.1 (by decide) rfl rfl rfl ?_
          refine zW_aload_n (pc' := 109) dX3_sharpen_3.2.1.1.2 rfl rfl ?_
          refine zG_lev (pc' := 112) (by omega) (by omega) fg_X3_27 dX3_sharpen_3.2.1.2.1 rfl ?_
          refine zW_iload (pc' := 114) dX3_sharpen_3.2.1.2.2 rfl rfl ?_
          refine zW_aload_n (pc' := 115) dX3_sharpen_3.2.2.1.1 rfl rfl ?_
          refine zG_lev (pc' := 118) (by omega) (by omega) fg_X3_27 dX3_sharpen_3.2.2.1.2 rfl ?_
          refine zW_iload (pc' := 120) dX3_sharpen_3.2.2.2.1 rfl rfl ?_
          refine zV_iald (pc' := 121) (tabL (by omega) (by omega)) (by omega) dX3_sharpen_3.2.2.2.2 (by decide) rfl ?_
          refine zW_iload (pc' := 123) dX3_sharpen_4.1.1.1.1 rfl rfl ?_
          refine zW_iadd (pc' := 124) dX3_sharpen_4.1.1.1.2 rfl ?_
          refine csI1 (pc' := 127) kX11_clipped vX11_clipped lk_X3_55 ⟨Nat.le_of_ble_eq_true rfl, Nat.le_of_ble_eq_true rfl⟩ rfl (s_X11_clippedZ hF _ ⟨by omega, by omega⟩) dX3_sharpen_4.1.1.2 (Nat.le_of_ble_eq_true rfl) rfl ?_
          rintro r124 z124 ⟨hz124, p124⟩; subst z124
          refine zS_lv (pc' := 128) hF (by omega) (by omega) hto (by omega) dX3_sharpen_4.1.2.1.1 rfl (fun h i127 hF a127 b127 w127 => ?_)
          replace b127 := b127 ⟨by omega, by omega⟩
          replace hgh : Fw [(s2 + 15)] [] gh0 h := by rw [w127]; exact hgh.wc (by simp)
          replace hF3 : FuS (κ 33 0) (κ 33 1) (h (s1 + 15)) F := by have q0_ := (congrFun w127 (s1 + 15)).trans (zfun (by omega)); rw [q0_]; exact hF3
          have hr2 : PlSu (κ 33 0) (κ 33 1) (h (s2 + 15)) v5 ((spF (κ 33 0) (κ 33 1) F x3 x4) v5) (v7 + 1) v6 := by rw [w127, b127]; exact PlSu.nx (by omega) (by omega) ⟨by omega, by omega, by omega, by omega⟩ gc1 (by omega) (by unfold spF; rw [p124.2.2]; congr 1; rw [← p77.2.2, ← q62]; have td := tdc (a := (yv - r77) * x3) (d := 16) (by omega); unfold shp; rw [show ((yv - r77) * x3).tdiv 16 = v99 by omega]; have z1 := min2c (16 * x4) v99; have z2 := max2c (-16 * x4) (min2 (16 * x4) v99); omega)
          have hd2 : Dn (κ 33 0) (κ 33 1) (h (s2 + 15)) (spF (κ 33 0) (κ 33 1) F x3 x4) v5 := by rw [w127]; exact gc0.w (by omega) (by omega) (by omega)
          refine zW_iinc (ls' := [_, _, _, _, _, _, _, _, _, _, _]) (pc' := 131) dX3_sharpen_4.1.2.1.2 rfl (by decide) rfl rfl rfl ?_
          refine zV_goto 27 dX3_sharpen_4.1.2.2 rfl ?_
          refine zV_clr 8 (ls' := [_, _, _, _, _, _, _, _, _, _, _]) rfl ?_
          refine zV_clr 9 (ls' := [_, _, _, _, _, _, _, _, _, _, _]) rfl ?_
          refine zV_clr 10 (ls' := [_, _, _, _, _, _, _, _, _, _, _]) rfl ?_
          exact k27 _ _ _ _ hF (by omega) (by omega) (by omega) (by omega) (by omega) (by first | exact hd2 | exact gc0) (by first | exact hr2 | exact gc1) hF3 hgh (by omega)
  refine zM_of [some (.inr (.inr 87)), some (.inr (.inr s1)), some (.inr (.inr s2)), some (.inl x3), some (.inl x4), none, none, none, none, none, none] 6 rfl rfl (Nat.le_of_ble_eq_true rfl) rfl ?_
  refine zW_iconst (pc' := 1) dX3_sharpen_0.1.1.1.1 rfl ?_
  refine zW_istore (ls' := [_, _, _, _, _, _, _, _, _, _, _]) (pc' := 3) dX3_sharpen_0.1.1.1.2 (by decide) rfl rfl rfl ?_
  exact (main 10000000000000000000000000000000000000000).1 _ _ hF (by omega) (by first | exact Dn.no | exact gc0.nx (gc1.all (by omega))) hF3 hgh (by omega)

abbrev q_X3_stretchZ (b : Bd) (κ : Hp) (s1 : Nat) (s2 : Nat) (x3 : Int) (F : P3) (gh0 : Hp) : Int → Hp → Prop := fun r h' => Fr b κ h' ∧ ((Fw [(s2 + 15)] [] gh0 h') ∧ (FuS (κ 33 0) (κ 33 1) (h' (s2 + 15)) (stF3 F x3)))
set_option maxHeartbeats 4000000 in
set_option maxRecDepth 20000 in
theorem s_X3_stretchZ {G : Ga} {b : Bd} {κ h : Hp} (hK : KC κ) (hF : Fr b κ h) (s1 : Nat) (hs1 : 56 ≤ s1 ∧ s1 ≤ 70) (s2 : Nat) (hs2 : 56 ≤ s2 ∧ s2 ≤ 70) (x3 : Int) (hx3 : 0 ≤ x3 ∧ x3 ≤ 255) (F : P3) (gh0 : Hp) (hto : OkL b (s2 + 15)) (hne : s1 ≠ s2) (hF3 : FuS (κ 33 0) (κ 33 1) (h (s1 + 15)) F) (hb3 : FB3 (κ 33 0) (κ 33 1) F) (hgh : Fw [(s2 + 15)] [] gh0 h) : zM G mX3_stretch yX3_stretch [.inr (.inr 87), .inr (.inr s1), .inr (.inr s2), .inl x3] h (q_X3_stretchZ b κ s1 s2 x3 F gh0) := by
  have f_33_0 := KCw hK
  have f_33_1 := KCh hK
  have main : ∀ N : Nat, (∀ (v4 : Int) (h : Hp), Fr b κ h → (0 ≤ v4 ∧ v4 ≤ 16) → (v4 - κ 33 1 ≤ 0) → (PuS (κ 33 0) (κ 33 1) (h (s2 + 15)) (stF3 F x3) 0 v4) → (FuS (κ 33 0) (κ 33 1) (h (s1 + 15)) F) → (Fw [(s2 + 15)] [] gh0 h) → 1276539264000 + 1289433600 * (16 - v4) + 1266408000 < (N : Int) → zV G mX3_stretch (q_X3_stretchZ b κ s1 s2 x3 F gh0) 3 [some (.inr (.inr 87)), some (.inr (.inr s1)), some (.inr (.inr s2)), some (.inl x3), some (.inl v4), none, none, none] [] h) ∧ (∀ (v4 v5 : Int) (h : Hp), Fr b κ h → (0 ≤ v4 ∧ v4 ≤ 15) → (v4 - κ 33 1 ≤ -1) → (0 ≤ v5 ∧ v5 ≤ 16) → (v5 - κ 33 0 ≤ 0) → (PuS (κ 33 0) (κ 33 1) (h (s2 + 15)) (stF3 F x3) v5 v4) → (FuS (κ 33 0) (κ 33 1) (h (s1 + 15)) F) → (Fw [(s2 + 15)] [] gh0 h) → 1276539264000 + 1289433600 * (16 - v4) + 1082203200 + 1279200 * (16 - v5) + 1252550 < (N : Int) → zV G mX3_stretch (q_X3_stretchZ b κ s1 s2 x3 F gh0) 18 [some (.inr (.inr 87)), some (.inr (.inr s1)), some (.inr (.inr s2)), some (.inl x3), some (.inl v4), some (.inl v5), none, none] [] h) ∧ (∀ (v4 v5 v6 v7 : Int) (h : Hp), Fr b κ h → (0 ≤ v4 ∧ v4 ≤ 15) → (v4 - κ 33 1 ≤ -1) → (0 ≤ v5 ∧ v5 ≤ 15) → (v5 - κ 33 0 ≤ -1) → (0 ≤ v6 ∧ v6 ≤ 4095) → (0 ≤ v7 ∧ v7 ≤ 1023) → (PuC (κ 33 0) (κ 33 1) (h (s2 + 15)) (stF3 F x3) v5 v4 ((v7 - 16 * v4 - v5) / 256)) → ((v7 - 16 * v4 - v5) % 256 = 0) → (16 * v4 + v5 ≤ v7 ∧ v7 ≤ 1023) → (v6 = lgt F v5 v4) → (FuS (κ 33 0) (κ 33 1) (h (s1 + 15)) F) → (Fw [(s2 + 15)] [] gh0 h) → 1276539264000 + 1289433600 * (16 - v4) + 1082203200 + 1279200 * (16 - v5) + 666250 + 26 * (1023 - v7) + 25 < (N : Int) → zV G mX3_stretch (q_X3_stretchZ b κ s1 s2 x3 F gh0) 57 [some (.inr (.inr 87)), some (.inr (.inr s1)), some (.inr (.inr s2)), some (.inl x3), some (.inl v4), some (.inl v5), some (.inl v6), some (.inl v7)] [] h) := by
    intro N
    induction N with
    | zero =>
      refine ⟨?_, ?_, ?_⟩
      · intro v4 h hF g0 g1 gc0 hF3 hgh hm
        exfalso; omega
      · intro v4 v5 h hF g0 g1 g2 g3 gc0 hF3 hgh hm
        exfalso; omega
      · intro v4 v5 v6 v7 h hF g0 g1 g2 g3 g4 g5 gc0 gc1 gc2 gc3 hF3 hgh hm
        exfalso; omega
    | succ N ih =>
      obtain ⟨k3, k18, k57⟩ := ih
      refine ⟨?_, ?_, ?_⟩
      · intro v4 h hF g0 g1 gc0 hF3 hgh hm
        refine zW_iload (pc' := 5) dX3_stretch_0.1.1.2.1 rfl rfl ?_
        refine zW_aload_n (pc' := 6) dX3_stretch_0.1.1.2.2 rfl rfl ?_
        refine zG_ref (pc' := 9) 33 fg_X3_23 tb87 rfl dX3_stretch_0.1.2.1.1 rfl ?_
        refine zG_key (pc' := 12) hF rfl fg_X3_42 tb33 rfl dX3_stretch_0.1.2.1.2 rfl ?_
        refine zV_cm_ge (tgt := 114) (pc' := 15) dX3_stretch_0.1.2.2.1 rfl rfl ⟨by omega, by omega⟩ ⟨by omega, by omega⟩ (fun c12 => ?_) (fun c12 => ?_)
        · exact zV_vret rfl dX3_stretch_3.2.2.2 ⟨hF, ⟨hgh, gc0.all (by omega)⟩⟩
        · refine zW_iconst (pc' := 16) dX3_stretch_0.1.2.2.2 rfl ?_
          refine zW_istore (ls' := [_, _, _, _, _, _, _, _]) (pc' := 18) dX3_stretch_0.2.1.1.1 (by decide) rfl rfl rfl ?_
          exact k18 _ _ _ hF (by omega) (by omega) (by omega) (by omega) (by first | exact gc0.en (by omega) | exact gc0) hF3 hgh (by omega)
      · intro v4 v5 h hF g0 g1 g2 g3 gc0 hF3 hgh hm
        refine zW_iload (pc' := 20) dX3_stretch_0.2.1.1.2 rfl rfl ?_
        refine zW_aload_n (pc' := 21) dX3_stretch_0.2.1.2.1 rfl rfl ?_
        refine zG_ref (pc' := 24) 33 fg_X3_23 tb87 rfl dX3_stretch_0.2.1.2.2 rfl ?_
        refine zG_key (pc' := 27) hF rfl fg_X3_48 tb33 rfl dX3_stretch_0.2.2.1.1 rfl ?_
        refine zV_cm_ge (tgt := 108) (pc' := 30) dX3_stretch_0.2.2.1.2 rfl rfl ⟨by omega, by omega⟩ ⟨by omega, by omega⟩ (fun c27 => ?_) (fun c27 => ?_)
        · refine zW_iinc (ls' := [_, _, _, _, _, _, _, _]) (pc' := 111) dX3_stretch_3.2.1.2 rfl (by decide) rfl rfl rfl ?_
          refine zV_goto 3 dX3_stretch_3.2.2.1 rfl ?_
          refine zV_clr 5 (ls' := [_, _, _, _, _, _, _, _]) rfl ?_
          exact k3 _ _ hF (by omega) (by omega) (by first | exact gc0.rowx (by omega) | exact PuS.no) hF3 hgh (by omega)
        · refine zW_aload_n (pc' := 31) dX3_stretch_0.2.2.2.1 rfl rfl ?_
          refine zG_lev (pc' := 34) (by omega) (by omega) fg_X3_27 dX3_stretch_0.2.2.2.2 rfl ?_
          refine zW_iload (pc' := 36) dX3_stretch_1.1.1.1.1 rfl rfl ?_
          refine zW_bipush (pc' := 38) dX3_stretch_1.1.1.1.2 rfl rfl ?_
          refine zW_imul (pc' := 39) dX3_stretch_1.1.1.2.1 rfl ?_
          refine zW_iload (pc' := 41) dX3_stretch_1.1.1.2.2 rfl rfl ?_
          refine zW_iadd (pc' := 42) dX3_stretch_1.1.2.1.1 rfl ?_
          refine csI2 (pc' := 45) kX11_lightOf vX11_lightOf lk_X3_98 ⟨Nat.le_of_ble_eq_true rfl, Nat.le_of_ble_eq_true rfl⟩ rfl (s_X11_lightOfZ hF _ ⟨by omega, by omega⟩ _ ⟨by omega, by omega⟩ (κ 33 0) (κ 33 1) F v5 v4 hF3 hb3 ⟨by omega, by omega, by omega, by omega⟩ (by omega)) dX3_stretch_1.1.2.1.2 (Nat.le_of_ble_eq_true rfl) rfl ?_
          rintro r42 z42 ⟨hz42, p42⟩; subst z42
          refine zW_istore (ls' := [_, _, _, _, _, _, _, _]) (pc' := 47) dX3_stretch_1.1.2.2.1 (by decide) rfl rfl rfl ?_
          refine zW_iload (pc' := 49) dX3_stretch_1.1.2.2.2 rfl rfl ?_
          refine zW_bipush (pc' := 51) dX3_stretch_1.2.1.1.1 rfl rfl ?_
          refine zW_imul (pc' := 52) dX3_stretch_1.2.1.1.2 rfl ?_
          refine zW_iload (pc' := 54) dX3_stretch_1.2.1.2.1 rfl rfl ?_
          refine zW_iadd (pc' := 55) dX3_stretch_1.2.1.2.2 rfl ?_
          refine zW_istore (ls' := [_, _, _, _, _, _, _, _]) (pc' := 57) dX3_stretch_1.2.2.1.1 (by decide) rfl rfl rfl ?_
          exact k57 _ _ _ _ _ hF (by omega) (by omega) (by omega) (by omega) (by omega) (by omega) (by first | (rw [show (v7 + 256 - 16 * v4 - v5) / 256 = ((v7 - 16 * v4 - v5) / 256) + 1 by omega]; exact hr2) | (rw [show (v4 * 16 + v5 - 16 * v4 - v5) / 256 = 0 by omega]; exact PuC.st gc0)) (by omega) (by omega) (by first | exact gc3 | exact p42.2.2) hF3 hgh (by omega)
      · intro v4 v5 v6 v7 h hF g0 g1 g2 g3 g4 g5 gc0 gc1 gc2 gc3 hF3 hgh hm
        refine zW_iload (pc' := 59) dX3_stretch_1.2.2.1.2 rfl rfl ?_
        refine zW_sipush (pc' := 62) dX3_stretch_1.2.2.2.1 rfl rfl ?_
        refine zV_cm_ge (tgt := 102) (pc' := 65) dX3_stretch_1.2.2.2.2 rfl rfl ⟨by omega, by omega⟩ ⟨by omega, by omega⟩ (fun c62 => ?_) (fun c62 => ?_)
        · refine zW_iinc (ls' := [_, _, _, _, _, _, _, _]) (pc' := 105) dX3_stretch_3.1.2.2 rfl (by decide) rfl rfl rfl ?_
          refine zV_goto 18 dX3_stretch_3.2.1.1 rfl ?_
          refine zV_clr 6 (ls' := [_, _, _, _, _, _, _, _]) rfl ?_
          refine zV_clr 7 (ls' := [_, _, _, _, _, _, _, _]) rfl ?_
          exact k18 _ _ _ hF (by omega) (by omega) (by omega) (by omega) (by first | exact gc0.en (by omega) | exact gc0) hF3 hgh (by omega)
        · refine zW_aload_n (pc' := 66) dX3_stretch_2.1.1.1.1 rfl rfl ?_
          refine zG_lev (pc' := 69) (by omega) (by omega) fg_X3_27 dX3_stretch_2.1.1.1.2 rfl ?_
          refine zW_iload (pc' := 71) dX3_stretch_2.1.1.2.1 rfl rfl ?_
          refine zW_iload (pc' := 73) dX3_stretch_2.1.1.2.2 rfl rfl ?_
          refine zW_aload_n (pc' := 74) dX3_stretch_2.1.2.1.1 rfl rfl ?_
          refine zG_lev (pc' := 77) (by omega) (by omega) fg_X3_27 dX3_stretch_2.1.2.1.2 rfl ?_
          refine zW_iload (pc' := 79) dX3_stretch_2.1.2.2.1 rfl rfl ?_
          refine zV_iald (pc' := 80) (tabL (by omega) (by omega)) (by omega) dX3_stretch_2.1.2.2.2 (by decide) rfl ?_
          have q79 := (hF3 ((v7 - 16 * v4 - v5) / 256) (by omega)).at (i := v7) (x := v5) (y := v4) ⟨by omega, by omega, by omega, by omega⟩ (by omega)
          have b79 := hb3 ((v7 - 16 * v4 - v5) / 256) (by omega) (v5) (v4) ⟨by omega, by omega, by omega, by omega⟩
          rw [← q79] at b79
          generalize hyv : h (s1 + 15) v7.toNat = yv at q79 b79 ⊢
          refine zW_iload (pc' := 82) dX3_stretch_2.2.1.1.1 rfl rfl ?_
          refine zW_isub (pc' := 83) dX3_stretch_2.2.1.1.2 rfl ?_
          refine zW_iload_n (pc' := 84) dX3_stretch_2.2.1.2.1 rfl rfl ?_
          refine zW_imul (pc' := 85) dX3_stretch_2.2.1.2.2 rfl ?_
          have q84 := mulS (a := yv - v6) (b := x3) (A := 4095) (B := 255) ⟨by omega, by omega⟩ ⟨by omega, by omega⟩
          refine zW_bipush (pc' := 87) dX3_stretch_2.2.2.1.1 rfl rfl ?_
          refine zW_idivS (pc' := 88) ⟨by omega, by omega⟩ (by omega) dX3_stretch_2.2.2.1.2 rfl (fun v87 e87 => ?_)
          refine zW_iadd (pc' := 89) dX3_stretch_2.2.2.2.1 rfl ?_
          refine csI1 (pc' := 92) kX11_clipped vX11_clipped lk_X3_55 ⟨Nat.le_of_ble_eq_true rfl, Nat.le_of_ble_eq_true rfl⟩ rfl (s_X11_clippedZ hF _ ⟨by omega, by omega⟩) dX3_stretch_2.2.2.2.2 (Nat.le_of_ble_eq_true rfl) rfl ?_
          rintro r89 z89 ⟨hz89, p89⟩; subst z89
          refine zS_lv (pc' := 93) hF (by omega) (by omega) hto (by omega) dX3_stretch_3.1.1.1 rfl (fun h i92 hF a92 b92 w92 => ?_)
          replace b92 := b92 ⟨by omega, by omega⟩
          replace hgh : Fw [(s2 + 15)] [] gh0 h := by rw [w92]; exact hgh.wc (by simp)
          replace hF3 : FuS (κ 33 0) (κ 33 1) (h (s1 + 15)) F := by have q0_ := (congrFun w92 (s1 + 15)).trans (zfun (by omega)); rw [q0_]; exact hF3
          have hr2 : PuC (κ 33 0) (κ 33 1) (h (s2 + 15)) (stF3 F x3) v5 v4 (((v7 - 16 * v4 - v5) / 256) + 1) := by rw [w92, b92]; exact PuC.nx (by omega) (by omega) ⟨by omega, by omega, by omega, by omega⟩ gc0 ⟨by omega, by omega⟩ (by omega) (by unfold stF3; rw [p89.2.2]; congr 1; rw [← gc3, ← q79]; have td := tdc (a := (yv - v6) * x3) (d := 16) (by omega); rw [show ((yv - v6) * x3).tdiv 16 = v87 by omega])
          refine zW_iincW (ls' := [_, _, _, _, _, _, _, _]) (pc' := 99) dX3_stretch_3.1.1.2 rfl (by decide) rfl rfl rfl ?_
          refine zV_goto 57 dX3_stretch_3.1.2.1 rfl ?_
          exact k57 _ _ _ _ _ hF (by omega) (by omega) (by omega) (by omega) (by omega) (by omega) (by first | (rw [show (v7 + 256 - 16 * v4 - v5) / 256 = ((v7 - 16 * v4 - v5) / 256) + 1 by omega]; exact hr2) | (rw [show (v4 * 16 + v5 - 16 * v4 - v5) / 256 = 0 by omega]; exact PuC.st gc0)) (by omega) (by omega) (by first | exact gc3 | exact p42.2.2) hF3 hgh (by omega)
  refine zM_of [some (.inr (.inr 87)), some (.inr (.inr s1)), some (.inr (.inr s2)), some (.inl x3), none, none, none, none] 4 rfl rfl (Nat.le_of_ble_eq_true rfl) rfl ?_
  refine zW_iconst (pc' := 1) dX3_stretch_0.1.1.1.1 rfl ?_
  refine zW_istore (ls' := [_, _, _, _, _, _, _, _]) (pc' := 3) dX3_stretch_0.1.1.1.2 (by decide) rfl rfl rfl ?_
  exact (main 10000000000000000000000000000000000000000).1 _ _ hF (by omega) (by omega) (by first | exact gc0.rowx (by omega) | exact PuS.no) hF3 hgh (by omega)

abbrev q_X3_paledZ (κ h : Hp) (x1 : Int) (x2 : Int) (x3 : Int) (nn : Int) : Int → Hp → Prop := fun r h' => h' = h ∧ ((0 ≤ r) ∧ (r ≤ 4095) ∧ (r = pal x1 x2 nn))
set_option maxHeartbeats 4000000 in
set_option maxRecDepth 20000 in
theorem s_X3_paledZ {G : Ga} {b : Bd} {κ h : Hp} (hF : Fr b κ h) (x1 : Int) (hx1 : 0 ≤ x1 ∧ x1 ≤ 4095) (x2 : Int) (hx2 : 0 ≤ x2 ∧ x2 ≤ 4095) (x3 : Int) (hx3 : 0 ≤ x3 ∧ x3 ≤ 4080) (nn : Int) (hn : x3 = 16 * nn) (hle : x1 ≤ x2) : zM G mX3_paled yX3_paled [.inr (.inr 87), .inl x1, .inl x2, .inl x3] h (q_X3_paledZ κ h x1 x2 x3 nn) := by
  refine zM_of [some (.inr (.inr 87)), some (.inl x1), some (.inl x2), some (.inl x3), none] 1 rfl rfl (Nat.le_of_ble_eq_true rfl) rfl ?_
  refine zW_iload_n (pc' := 1) dX3_paled_0.1.1.1.1 rfl rfl ?_
  refine zW_iload_n (pc' := 2) dX3_paled_0.1.1.1.2 rfl rfl ?_
  refine zV_cm_le (tgt := 16) (pc' := 5) dX3_paled_0.1.1.2.1 rfl rfl ⟨by omega, by omega⟩ ⟨by omega, by omega⟩ (fun c2 => ?_) (fun c2 => ?_)
  · refine zW_iconst (pc' := 17) dX3_paled_0.2.1.1.1 rfl ?_
    refine zW_istore (ls' := [_, _, _, _, _]) (pc' := 19) dX3_paled_0.2.1.1.2 (by decide) rfl rfl rfl ?_
    refine zW_iload (pc' := 21) dX3_paled_0.2.1.2.1 rfl rfl ?_
    refine zV_if_eq (tgt := 42) (pc' := 24) dX3_paled_0.2.1.2.2 rfl rfl ⟨by omega, by omega⟩ (fun c21 => ?_) (fun c21 => ?_)
    · refine zW_iload_n (pc' := 43) dX3_paled_1.2.2.1.2 rfl rfl ?_
      exact zV_iret rfl dX3_paled_1.2.2.2 ⟨rfl, (by unfold pal; rw [hn] at *; first | (rw [if_neg (by omega), ← t37]; exact ⟨by omega, by omega, rfl⟩) | (rw [if_pos (by omega)]; exact ⟨by omega, by omega, rfl⟩))⟩
    · exfalso; omega
  · refine zW_iload_n (pc' := 6) dX3_paled_0.1.1.2.2 rfl rfl ?_
    refine zW_sipush (pc' := 9) dX3_paled_0.1.2.1.1 rfl rfl ?_
    refine zV_cm_ge (tgt := 16) (pc' := 12) dX3_paled_0.1.2.1.2 rfl rfl ⟨by omega, by omega⟩ ⟨by omega, by omega⟩ (fun c9 => ?_) (fun c9 => ?_)
    · exfalso; omega
    · refine zW_iconst (pc' := 13) dX3_paled_0.1.2.2.1 rfl ?_
      refine zV_goto 17 dX3_paled_0.1.2.2.2 rfl ?_
      refine zW_istore (ls' := [_, _, _, _, _]) (pc' := 19) dX3_paled_0.2.1.1.2 (by decide) rfl rfl rfl ?_
      refine zW_iload (pc' := 21) dX3_paled_0.2.1.2.1 rfl rfl ?_
      refine zV_if_eq (tgt := 42) (pc' := 24) dX3_paled_0.2.1.2.2 rfl rfl ⟨by omega, by omega⟩ (fun c21 => ?_) (fun c21 => ?_)
      · exfalso; omega
      · refine zW_iload_n (pc' := 25) dX3_paled_0.2.2.1.1 rfl rfl ?_
        refine zW_iload_n (pc' := 26) dX3_paled_0.2.2.1.2 rfl rfl ?_
        refine zW_iload_n (pc' := 27) dX3_paled_0.2.2.2.1 rfl rfl ?_
        refine zW_isub (pc' := 28) dX3_paled_0.2.2.2.2 rfl ?_
        refine zW_iload_n (pc' := 29) dX3_paled_1.1.1.1.1 rfl rfl ?_
        refine zW_iload_n (pc' := 30) dX3_paled_1.1.1.1.2 rfl rfl ?_
        refine zW_isub (pc' := 31) dX3_paled_1.1.1.2 rfl ?_
        refine zW_imul (pc' := 32) dX3_paled_1.1.2.1.1 rfl ?_
        have q31 := mulq (a := x2 - x1) (b := x2 - x3) (A := 4095) (B := 4095) ⟨by omega, by omega⟩ ⟨by omega, by omega⟩
        refine zW_sipush (pc' := 35) dX3_paled_1.1.2.1.2 rfl rfl ?_
        refine zW_iload_n (pc' := 36) dX3_paled_1.1.2.2 rfl rfl ?_
        refine zW_isub (pc' := 37) dX3_paled_1.2.1.1.1 rfl ?_
        refine zW_idivX (pc' := 38) ⟨by omega, by omega⟩ ⟨by omega, by omega⟩ dX3_paled_1.2.1.1.2 rfl (fun v37 t37 e37 => ?_)
        unfold rng at e37
        have td := tdb4 (a := x2 - x1) (b := x2 - x3) (d := 4095 - x3) (by omega) (by omega) (by omega)
        rw [← t37] at td
        refine zW_iadd (pc' := 39) dX3_paled_1.2.1.2 rfl ?_
        refine zV_goto 43 dX3_paled_1.2.2.1.1 rfl ?_
        exact zV_iret rfl dX3_paled_1.2.2.2 ⟨rfl, (by unfold pal; rw [hn] at *; first | (rw [if_neg (by omega), ← t37]; exact ⟨by omega, by omega, rfl⟩) | (rw [if_pos (by omega)]; exact ⟨by omega, by omega, rfl⟩))⟩

abbrev q_X3_makePaleZ (b : Bd) (κ : Hp) (s1 : Nat) (s2 : Nat) (x3 : Int) (F : P3) (gh0 : Hp) : Int → Hp → Prop := fun r h' => Fr b κ h' ∧ ((Fw [(s2 + 15)] [] gh0 h') ∧ (FuS (κ 33 0) (κ 33 1) (h' (s2 + 15)) (plF F x3)))
set_option maxHeartbeats 4000000 in
set_option maxRecDepth 20000 in
theorem s_X3_makePaleZ {G : Ga} {b : Bd} {κ h : Hp} (hK : KC κ) (hF : Fr b κ h) (s1 : Nat) (hs1 : 56 ≤ s1 ∧ s1 ≤ 70) (s2 : Nat) (hs2 : 56 ≤ s2 ∧ s2 ≤ 70) (x3 : Int) (hx3 : 0 ≤ x3 ∧ x3 ≤ 255) (F : P3) (gh0 : Hp) (hto : OkL b (s2 + 15)) (hne : s1 ≠ s2) (hF3 : FuS (κ 33 0) (κ 33 1) (h (s1 + 15)) F) (hb3 : FB3 (κ 33 0) (κ 33 1) F) (hgh : Fw [(s2 + 15)] [] gh0 h) : zM G mX3_makePale yX3_makePale [.inr (.inr 87), .inr (.inr s1), .inr (.inr s2), .inl x3] h (q_X3_makePaleZ b κ s1 s2 x3 F gh0) := by
  have f_33_0 := KCw hK
  have f_33_1 := KCh hK
  have main : ∀ N : Nat, (∀ (v4 : Int) (h : Hp), Fr b κ h → (0 ≤ v4 ∧ v4 ≤ 16) → (v4 - κ 33 1 ≤ 0) → (PuS (κ 33 0) (κ 33 1) (h (s2 + 15)) (plF F x3) 0 v4) → (FuS (κ 33 0) (κ 33 1) (h (s1 + 15)) F) → (Fw [(s2 + 15)] [] gh0 h) → 947301966000 + 1012074750 * (16 - v4) + 992979000 < (N : Int) → zV G mX3_makePale (q_X3_makePaleZ b κ s1 s2 x3 F gh0) 3 [some (.inr (.inr 87)), some (.inr (.inr s1)), some (.inr (.inr s2)), some (.inl x3), some (.inl v4), none, none, none] [] h) ∧ (∀ (v4 v5 : Int) (h : Hp), Fr b κ h → (0 ≤ v4 ∧ v4 ≤ 15) → (v4 - κ 33 1 ≤ -1) → (0 ≤ v5 ∧ v5 ≤ 16) → (v5 - κ 33 0 ≤ 0) → (PuS (κ 33 0) (κ 33 1) (h (s2 + 15)) (plF F x3) v5 v4) → (FuS (κ 33 0) (κ 33 1) (h (s1 + 15)) F) → (Fw [(s2 + 15)] [] gh0 h) → 947301966000 + 1012074750 * (16 - v4) + 840213000 + 1060875 * (16 - v5) + 1037300 < (N : Int) → zV G mX3_makePale (q_X3_makePaleZ b κ s1 s2 x3 F gh0) 18 [some (.inr (.inr 87)), some (.inr (.inr s1)), some (.inr (.inr s2)), some (.inl x3), some (.inl v4), some (.inl v5), none, none] [] h) ∧ (∀ (v4 v5 v6 v7 : Int) (h : Hp), Fr b κ h → (0 ≤ v4 ∧ v4 ≤ 15) → (v4 - κ 33 1 ≤ -1) → (0 ≤ v5 ∧ v5 ≤ 15) → (v5 - κ 33 0 ≤ -1) → (0 ≤ v6 ∧ v6 ≤ 4095) → (0 ≤ v7 ∧ v7 ≤ 1023) → (PuC (κ 33 0) (κ 33 1) (h (s2 + 15)) (plF F x3) v5 v4 ((v7 - 16 * v4 - v5) / 256)) → ((v7 - 16 * v4 - v5) % 256 = 0) → (16 * v4 + v5 ≤ v7 ∧ v7 ≤ 1023) → (v6 = mx3 F v5 v4) → (FuS (κ 33 0) (κ 33 1) (h (s1 + 15)) F) → (Fw [(s2 + 15)] [] gh0 h) → 947301966000 + 1012074750 * (16 - v4) + 840213000 + 1060875 * (16 - v5) + 518650 + 23 * (1023 - v7) + 22 < (N : Int) → zV G mX3_makePale (q_X3_makePaleZ b κ s1 s2 x3 F gh0) 57 [some (.inr (.inr 87)), some (.inr (.inr s1)), some (.inr (.inr s2)), some (.inl x3), some (.inl v4), some (.inl v5), some (.inl v6), some (.inl v7)] [] h) := by
    intro N
    induction N with
    | zero =>
      refine ⟨?_, ?_, ?_⟩
      · intro v4 h hF g0 g1 gc0 hF3 hgh hm
        exfalso; omega
      · intro v4 v5 h hF g0 g1 g2 g3 gc0 hF3 hgh hm
        exfalso; omega
      · intro v4 v5 v6 v7 h hF g0 g1 g2 g3 g4 g5 gc0 gc1 gc2 gc3 hF3 hgh hm
        exfalso; omega
    | succ N ih =>
      obtain ⟨k3, k18, k57⟩ := ih
      refine ⟨?_, ?_, ?_⟩
      · intro v4 h hF g0 g1 gc0 hF3 hgh hm
        refine zW_iload (pc' := 5) dX3_makePale_0.1.1.2.1 rfl rfl ?_
        refine zW_aload_n (pc' := 6) dX3_makePale_0.1.1.2.2 rfl rfl ?_
        refine zG_ref (pc' := 9) 33 fg_X3_23 tb87 rfl dX3_makePale_0.1.2.1.1 rfl ?_
        refine zG_key (pc' := 12) hF rfl fg_X3_42 tb33 rfl dX3_makePale_0.1.2.1.2 rfl ?_
        refine zV_cm_ge (tgt := 110) (pc' := 15) dX3_makePale_0.1.2.2.1 rfl rfl ⟨by omega, by omega⟩ ⟨by omega, by omega⟩ (fun c12 => ?_) (fun c12 => ?_)
        · exact zV_vret rfl dX3_makePale_3.2.2 ⟨hF, ⟨hgh, gc0.all (by omega)⟩⟩
        · refine zW_iconst (pc' := 16) dX3_makePale_0.1.2.2.2 rfl ?_
          refine zW_istore (ls' := [_, _, _, _, _, _, _, _]) (pc' := 18) dX3_makePale_0.2.1.1.1 (by decide) rfl rfl rfl ?_
          exact k18 _ _ _ hF (by omega) (by omega) (by omega) (by omega) (by first | exact gc0.en (by omega) | exact gc0) hF3 hgh (by omega)
      · intro v4 v5 h hF g0 g1 g2 g3 gc0 hF3 hgh hm
        refine zW_iload (pc' := 20) dX3_makePale_0.2.1.1.2 rfl rfl ?_
        refine zW_aload_n (pc' := 21) dX3_makePale_0.2.1.2.1 rfl rfl ?_
        refine zG_ref (pc' := 24) 33 fg_X3_23 tb87 rfl dX3_makePale_0.2.1.2.2 rfl ?_
        refine zG_key (pc' := 27) hF rfl fg_X3_48 tb33 rfl dX3_makePale_0.2.2.1.1 rfl ?_
        refine zV_cm_ge (tgt := 104) (pc' := 30) dX3_makePale_0.2.2.1.2 rfl rfl ⟨by omega, by omega⟩ ⟨by omega, by omega⟩ (fun c27 => ?_) (fun c27 => ?_)
        · refine zW_iinc (ls' := [_, _, _, _, _, _, _, _]) (pc' := 107) dX3_makePale_3.1.2 rfl (by decide) rfl rfl rfl ?_
          refine zV_goto 3 dX3_makePale_3.2.1 rfl ?_
          refine zV_clr 5 (ls' := [_, _, _, _, _, _, _, _]) rfl ?_
          exact k3 _ _ hF (by omega) (by omega) (by first | exact gc0.rowx (by omega) | exact PuS.no) hF3 hgh (by omega)
        · refine zW_aload_n (pc' := 31) dX3_makePale_0.2.2.2.1 rfl rfl ?_
          refine zG_lev (pc' := 34) (by omega) (by omega) fg_X3_27 dX3_makePale_0.2.2.2.2 rfl ?_
          refine zW_iload (pc' := 36) dX3_makePale_1.1.1.1.1 rfl rfl ?_
          refine zW_bipush (pc' := 38) dX3_makePale_1.1.1.1.2 rfl rfl ?_
          refine zW_imul (pc' := 39) dX3_makePale_1.1.1.2.1 rfl ?_
          refine zW_iload (pc' := 41) dX3_makePale_1.1.1.2.2 rfl rfl ?_
          refine zW_iadd (pc' := 42) dX3_makePale_1.1.2.1.1 rfl ?_
          refine csI2 (pc' := 45) kX11_greatestOf vX11_greatestOf lk_X3_83 ⟨Nat.le_of_ble_eq_true rfl, Nat.le_of_ble_eq_true rfl⟩ rfl (s_X11_greatestOfZ hF _ ⟨by omega, by omega⟩ _ ⟨by omega, by omega⟩ (κ 33 0) (κ 33 1) F v5 v4 hF3 hb3 ⟨by omega, by omega, by omega, by omega⟩ (by omega)) dX3_makePale_1.1.2.1.2 (Nat.le_of_ble_eq_true rfl) rfl ?_
          rintro r42 z42 ⟨hz42, p42⟩; subst z42
          refine zW_istore (ls' := [_, _, _, _, _, _, _, _]) (pc' := 47) dX3_makePale_1.1.2.2.1 (by decide) rfl rfl rfl ?_
          refine zW_iload (pc' := 49) dX3_makePale_1.1.2.2.2 rfl rfl ?_
          refine zW_bipush (pc' := 51) dX3_makePale_1.2.1.1.1 rfl rfl ?_
          refine zW_imul (pc' := 52) dX3_makePale_1.2.1.1.2 rfl ?_
          refine zW_iload (pc' := 54) dX3_makePale_1.2.1.2.1 rfl rfl ?_
          refine zW_iadd (pc' := 55) dX3_makePale_1.2.1.2.2 rfl ?_
          refine zW_istore (ls' := [_, _, _, _, _, _, _, _]) (pc' := 57) dX3_makePale_1.2.2.1.1 (by decide) rfl rfl rfl ?_
          exact k57 _ _ _ _ _ hF (by omega) (by omega) (by omega) (by omega) (by omega) (by omega) (by first | (rw [show (v7 + 256 - 16 * v4 - v5) / 256 = ((v7 - 16 * v4 - v5) / 256) + 1 by omega]; exact hr2) | (rw [show (v4 * 16 + v5 - 16 * v4 - v5) / 256 = 0 by omega]; exact PuC.st gc0)) (by omega) (by omega) (by first | exact gc3 | exact p42.2.2) hF3 hgh (by omega)
      · intro v4 v5 v6 v7 h hF g0 g1 g2 g3 g4 g5 gc0 gc1 gc2 gc3 hF3 hgh hm
        refine zW_iload (pc' := 59) dX3_makePale_1.2.2.1.2 rfl rfl ?_
        refine zW_sipush (pc' := 62) dX3_makePale_1.2.2.2.1 rfl rfl ?_
        refine zV_cm_ge (tgt := 98) (pc' := 65) dX3_makePale_1.2.2.2.2 rfl rfl ⟨by omega, by omega⟩ ⟨by omega, by omega⟩ (fun c62 => ?_) (fun c62 => ?_)
        · refine zW_iinc (ls' := [_, _, _, _, _, _, _, _]) (pc' := 101) dX3_makePale_3.1.1.1 rfl (by decide) rfl rfl rfl ?_
          refine zV_goto 18 dX3_makePale_3.1.1.2 rfl ?_
          refine zV_clr 6 (ls' := [_, _, _, _, _, _, _, _]) rfl ?_
          refine zV_clr 7 (ls' := [_, _, _, _, _, _, _, _]) rfl ?_
          exact k18 _ _ _ hF (by omega) (by omega) (by omega) (by omega) (by first | exact gc0.en (by omega) | exact gc0) hF3 hgh (by omega)
        · refine zW_aload_n (pc' := 66) dX3_makePale_2.1.1.1.1 rfl rfl ?_
          refine zG_lev (pc' := 69) (by omega) (by omega) fg_X3_27 dX3_makePale_2.1.1.1.2 rfl ?_
          refine zW_iload (pc' := 71) dX3_makePale_2.1.1.2.1 rfl rfl ?_
          refine zW_aload_n (pc' := 72) dX3_makePale_2.1.1.2.2 rfl rfl ?_
          refine zW_aload_n (pc' := 73) dX3_makePale_2.1.2.1.1 rfl rfl ?_
          refine zG_lev (pc' := 76) (by omega) (by omega) fg_X3_27 dX3_makePale_2.1.2.1.2 rfl ?_
          refine zW_iload (pc' := 78) dX3_makePale_2.1.2.2.1 rfl rfl ?_
          refine zV_iald (pc' := 79) (tabL (by omega) (by omega)) (by omega) dX3_makePale_2.1.2.2.2 (by decide) rfl ?_
          have q78 := (hF3 ((v7 - 16 * v4 - v5) / 256) (by omega)).at (i := v7) (x := v5) (y := v4) ⟨by omega, by omega, by omega, by omega⟩ (by omega)
          have b78 := hb3 ((v7 - 16 * v4 - v5) / 256) (by omega) (v5) (v4) ⟨by omega, by omega, by omega, by omega⟩
          rw [← q78] at b78
          have hmx : h (s1 + 15) v7.toNat ≤ v6 := by rw [q78, gc3]; unfold mx3; have z1 := max2c (F 1 v5 v4) (F 2 v5 v4); have z2 := max2c (F 0 v5 v4) (max2 (F 1 v5 v4) (F 2 v5 v4)); rcases (by omega : ((v7 - 16 * v4 - v5) / 256) = 0 ∨ ((v7 - 16 * v4 - v5) / 256) = 1 ∨ ((v7 - 16 * v4 - v5) / 256) = 2) with q | q | q <;> (rw [q]; omega)
          refine zW_iload (pc' := 81) dX3_makePale_2.2.1.1.1 rfl rfl ?_
          refine zW_bipush (pc' := 83) dX3_makePale_2.2.1.1.2 rfl rfl ?_
          refine zW_iload_n (pc' := 84) dX3_makePale_2.2.1.2.1 rfl rfl ?_
          refine zW_imul (pc' := 85) dX3_makePale_2.2.1.2.2 rfl ?_
          refine cvI3 (pc' := 88) kX3_paled vX3_paled lk_X3_101 ⟨Nat.le_of_ble_eq_true rfl, Nat.le_of_ble_eq_true rfl⟩ tb87 vq3 rfl rfl (s_X3_paledZ hF _ ⟨by omega, by omega⟩ _ ⟨by omega, by omega⟩ _ ⟨by omega, by omega⟩ x3 (by omega) (by omega)) dX3_makePale_2.2.2.1.1 (Nat.le_of_ble_eq_true rfl) rfl ?_
          rintro r85 z85 ⟨hz85, p85⟩; subst z85
          refine zS_lv (pc' := 89) hF (by omega) (by omega) hto (by omega) dX3_makePale_2.2.2.1.2 rfl (fun h i88 hF a88 b88 w88 => ?_)
          replace b88 := b88 ⟨by omega, by omega⟩
          replace hgh : Fw [(s2 + 15)] [] gh0 h := by rw [w88]; exact hgh.wc (by simp)
          replace hF3 : FuS (κ 33 0) (κ 33 1) (h (s1 + 15)) F := by have q0_ := (congrFun w88 (s1 + 15)).trans (zfun (by omega)); rw [q0_]; exact hF3
          have hr2 : PuC (κ 33 0) (κ 33 1) (h (s2 + 15)) (plF F x3) v5 v4 (((v7 - 16 * v4 - v5) / 256) + 1) := by rw [w88, b88]; exact PuC.nx (by omega) (by omega) ⟨by omega, by omega, by omega, by omega⟩ gc0 ⟨by omega, by omega⟩ (by omega) (by unfold plF; rw [p85.2.2, ← gc3, ← q78])
          refine zW_iincW (ls' := [_, _, _, _, _, _, _, _]) (pc' := 95) dX3_makePale_2.2.2.2.1 rfl (by decide) rfl rfl rfl ?_
          refine zV_goto 57 dX3_makePale_2.2.2.2.2 rfl ?_
          exact k57 _ _ _ _ _ hF (by omega) (by omega) (by omega) (by omega) (by omega) (by omega) (by first | (rw [show (v7 + 256 - 16 * v4 - v5) / 256 = ((v7 - 16 * v4 - v5) / 256) + 1 by omega]; exact hr2) | (rw [show (v4 * 16 + v5 - 16 * v4 - v5) / 256 = 0 by omega]; exact PuC.st gc0)) (by omega) (by omega) (by first | exact gc3 | exact p42.2.2) hF3 hgh (by omega)
  refine zM_of [some (.inr (.inr 87)), some (.inr (.inr s1)), some (.inr (.inr s2)), some (.inl x3), none, none, none, none] 4 rfl rfl (Nat.le_of_ble_eq_true rfl) rfl ?_
  refine zW_iconst (pc' := 1) dX3_makePale_0.1.1.1.1 rfl ?_
  refine zW_istore (ls' := [_, _, _, _, _, _, _, _]) (pc' := 3) dX3_makePale_0.1.1.1.2 (by decide) rfl rfl rfl ?_
  exact (main 10000000000000000000000000000000000000000).1 _ _ hF (by omega) (by omega) (by first | exact gc0.rowx (by omega) | exact PuS.no) hF3 hgh (by omega)

abbrev q_X3_multiplyColourZ (b : Bd) (κ : Hp) (s1 : Nat) (s2 : Nat) (x3 : Int) (x4 : Int) (x5 : Int) (F : P3) (A0 : Nat → Int) (gh0 : Hp) : Int → Hp → Prop := fun r h' => Fr b κ h' ∧ ((Fw [(s2 + 15)] [] gh0 h') ∧ (PlS (κ 33 0) (κ 33 1) (h' (s2 + 15)) x3 (muF F x4 x5 x3) ∧ PlO x3 A0 (h' (s2 + 15))))
set_option maxHeartbeats 4000000 in
set_option maxRecDepth 20000 in
theorem s_X3_multiplyColourZ {G : Ga} {b : Bd} {κ h : Hp} (hK : KC κ) (hF : Fr b κ h) (s1 : Nat) (hs1 : 56 ≤ s1 ∧ s1 ≤ 70) (s2 : Nat) (hs2 : 56 ≤ s2 ∧ s2 ≤ 70) (x3 : Int) (hx3 : 0 ≤ x3 ∧ x3 ≤ 2) (x4 : Int) (hx4 : 0 ≤ x4 ∧ x4 ≤ 1024) (x5 : Int) (hx5 : 16 ≤ x5 ∧ x5 ≤ 256) (F : P3) (A0 : Nat → Int) (gh0 : Hp) (hto : OkL b (s2 + 15)) (hne : s1 ≠ s2) (hF3 : FuS (κ 33 0) (κ 33 1) (h (s1 + 15)) F) (hb3 : FB3 (κ 33 0) (κ 33 1) F) (hA : PlO x3 A0 (h (s2 + 15))) (hgh : Fw [(s2 + 15)] [] gh0 h) : zM G mX3_multiplyColour yX3_multiplyColour [.inr (.inr 87), .inr (.inr s1), .inr (.inr s2), .inl x3, .inl x4, .inl x5] h (q_X3_multiplyColourZ b κ s1 s2 x3 x4 x5 F A0 gh0) := by
  have f_33_0 := KCw hK
  have f_33_1 := KCh hK
  have main : ∀ N : Nat, (∀ (v6 : Int) (h : Hp), Fr b κ h → (0 ≤ v6 ∧ v6 ≤ 16) → (v6 - κ 33 1 ≤ 0) → (PlSu (κ 33 0) (κ 33 1) (h (s2 + 15)) x3 (muF F x4 x5 x3) 0 v6) → (PlO x3 A0 (h (s2 + 15))) → (FuS (κ 33 0) (κ 33 1) (h (s1 + 15)) F) → (Fw [(s2 + 15)] [] gh0 h) → 20842272 + 26928 * (16 - v6) + 26316 < (N : Int) → zV G mX3_multiplyColour (q_X3_multiplyColourZ b κ s1 s2 x3 x4 x5 F A0 gh0) 3 [some (.inr (.inr 87)), some (.inr (.inr s1)), some (.inr (.inr s2)), some (.inl x3), some (.inl x4), some (.inl x5), some (.inl v6), none, none] [] h) ∧ (∀ (v6 v7 : Int) (h : Hp), Fr b κ h → (0 ≤ v6 ∧ v6 ≤ 15) → (v6 - κ 33 1 ≤ -1) → (0 ≤ v7 ∧ v7 ≤ 16) → (v7 - κ 33 0 ≤ 0) → (PlSu (κ 33 0) (κ 33 1) (h (s2 + 15)) x3 (muF F x4 x5 x3) v7 v6) → (PlO x3 A0 (h (s2 + 15))) → (FuS (κ 33 0) (κ 33 1) (h (s1 + 15)) F) → (Fw [(s2 + 15)] [] gh0 h) → 20842272 + 26928 * (16 - v6) + 20196 + 34 * (16 - v7) + 33 < (N : Int) → zV G mX3_multiplyColour (q_X3_multiplyColourZ b κ s1 s2 x3 x4 x5 F A0 gh0) 23 [some (.inr (.inr 87)), some (.inr (.inr s1)), some (.inr (.inr s2)), some (.inl x3), some (.inl x4), some (.inl x5), some (.inl v6), some (.inl v7), none] [] h) := by
    intro N
    induction N with
    | zero =>
      refine ⟨?_, ?_⟩
      · intro v6 h hF g0 g1 gc0 gc1 hF3 hgh hm
        exfalso; omega
      · intro v6 v7 h hF g0 g1 g2 g3 gc0 gc1 hF3 hgh hm
        exfalso; omega
    | succ N ih =>
      obtain ⟨k3, k23⟩ := ih
      refine ⟨?_, ?_⟩
      · intro v6 h hF g0 g1 gc0 gc1 hF3 hgh hm
        refine zW_iload (pc' := 5) dX3_multiplyColour_0.1.1.2.1 rfl rfl ?_
        refine zW_aload_n (pc' := 6) dX3_multiplyColour_0.1.1.2.2 rfl rfl ?_
        refine zG_ref (pc' := 9) 33 fg_X3_23 tb87 rfl dX3_multiplyColour_0.1.2.1.1 rfl ?_
        refine zG_key (pc' := 12) hF rfl fg_X3_42 tb33 rfl dX3_multiplyColour_0.1.2.1.2 rfl ?_
        refine zV_cm_ge (tgt := 86) (pc' := 15) dX3_multiplyColour_0.1.2.2.1 rfl rfl ⟨by omega, by omega⟩ ⟨by omega, by omega⟩ (fun c12 => ?_) (fun c12 => ?_)
        · exact zV_vret rfl dX3_multiplyColour_2.2.2.2 ⟨hF, ⟨hgh, ⟨gc0.all (by omega), gc1⟩⟩⟩
        · refine zW_iload (pc' := 17) dX3_multiplyColour_0.1.2.2.2 rfl rfl ?_
          refine zV_if_le (tgt := 86) (pc' := 20) dX3_multiplyColour_0.2.1.1.1 rfl rfl ⟨by omega, by omega⟩ (fun c17 => ?_) (fun c17 => ?_)
          · exfalso; omega
          · refine zW_iconst (pc' := 21) dX3_multiplyColour_0.2.1.1.2 rfl ?_
            refine zW_istore (ls' := [_, _, _, _, _, _, _, _, _]) (pc' := 23) dX3_multiplyColour_0.2.1.2.1 (by decide) rfl rfl rfl ?_
            exact k23 _ _ _ hF (by omega) (by omega) (by omega) (by omega) (by first | exact hr2 | exact gc0) (by first | exact ho2 | exact gc1) hF3 hgh (by omega)
      · intro v6 v7 h hF g0 g1 g2 g3 gc0 gc1 hF3 hgh hm
        refine zW_iload (pc' := 25) dX3_multiplyColour_0.2.1.2.2 rfl rfl ?_
        refine zW_aload_n (pc' := 26) dX3_multiplyColour_0.2.2.1.1 rfl rfl ?_
        refine zG_ref (pc' := 29) 33 fg_X3_23 tb87 rfl dX3_multiplyColour_0.2.2.1.2 rfl ?_
        refine zG_key (pc' := 32) hF rfl fg_X3_48 tb33 rfl dX3_multiplyColour_0.2.2.2.1 rfl ?_
        refine zV_cm_ge (tgt := 80) (pc' := 35) dX3_multiplyColour_0.2.2.2.2 rfl rfl ⟨by omega, by omega⟩ ⟨by omega, by omega⟩ (fun c32 => ?_) (fun c32 => ?_)
        · refine zW_iinc (ls' := [_, _, _, _, _, _, _, _, _]) (pc' := 83) dX3_multiplyColour_2.2.2.1.1 rfl (by decide) rfl rfl rfl ?_
          refine zV_goto 3 dX3_multiplyColour_2.2.2.1.2 rfl ?_
          refine zV_clr 7 (ls' := [_, _, _, _, _, _, _, _, _]) rfl ?_
          exact k3 _ _ hF (by omega) (by omega) (by first | exact gc0.rowx (by omega) | exact PlSu.no) (by first | exact gc1 | exact hA) hF3 hgh (by omega)
        · refine zW_iload_n (pc' := 36) dX3_multiplyColour_1.1.1.1.1 rfl rfl ?_
          refine zW_sipush (pc' := 39) dX3_multiplyColour_1.1.1.1.2 rfl rfl ?_
          refine zW_imul (pc' := 40) dX3_multiplyColour_1.1.1.2.1 rfl ?_
          refine zW_iload (pc' := 42) dX3_multiplyColour_1.1.1.2.2 rfl rfl ?_
          refine zW_bipush (pc' := 44) dX3_multiplyColour_1.1.2.1.1 rfl rfl ?_
          refine zW_imul (pc' := 45) dX3_multiplyColour_1.1.2.1.2 rfl ?_
          refine zW_iadd (pc' := 46) dX3_multiplyColour_1.1.2.2.1 rfl ?_
          refine zW_iload (pc' := 48) dX3_multiplyColour_1.1.2.2.2 rfl rfl ?_
          refine zW_iadd (pc' := 49) dX3_multiplyColour_1.2.1.1.1 rfl ?_
          refine zW_istore (ls' := [_, _, _, _, _, _, _, _, _]) (pc' := 51) dX3_multiplyColour_1.2.1.1.2 (by decide) rfl rfl rfl ?_
          refine zW_aload_n (pc' := 52) dX3_multiplyColour_1.2.1.2.1 rfl rfl ?_
          refine zG_lev (pc' := 55) (by omega) (by omega) fg_X3_27 dX3_multiplyColour_1.2.1.2.2 rfl ?_
          refine zW_iload (pc' := 57) dX3_multiplyColour_1.2.2.1.1 rfl rfl ?_
          refine zW_aload_n (pc' := 58) dX3_multiplyColour_1.2.2.1.2 rfl rfl ?_
          refine zG_lev (pc' := 61) (by omega) (by omega) fg_X3_27 dX3_multiplyColour_1.2.2.2.1 rfl ?_
          refine zW_iload (pc' := 63) dX3_multiplyColour_1.2.2.2.2 rfl rfl ?_
          refine zV_iald (pc' := 64) (tabL (by omega) (by omega)) (by omega) dX3_multiplyColour_2.1.1.1.1 (by decide) rfl ?_
          have q63 := (hF3 x3 (by omega)).at (i := x3 * 256 + v6 * 16 + v7) (x := v7) (y := v6) ⟨by omega, by omega, by omega, by omega⟩ (by omega)
          have b63 := hb3 x3 (by omega) (v7) (v6) ⟨by omega, by omega, by omega, by omega⟩
          rw [← q63] at b63
          refine zW_iload (pc' := 66) dX3_multiplyColour_2.1.1.1.2 rfl rfl ?_
          refine zW_imul (pc' := 67) dX3_multiplyColour_2.1.1.2 rfl ?_
          have q66 := mulq (a := h (s1 + 15) (x3 * 256 + v6 * 16 + v7).toNat) (b := x4) (A := 4095) (B := 1024) ⟨by omega, by omega⟩ ⟨by omega, by omega⟩
          refine zW_iload (pc' := 69) dX3_multiplyColour_2.1.2.1.1 rfl rfl ?_
          refine zW_idivX (pc' := 70) ⟨by omega, by omega⟩ ⟨by omega, by omega⟩ dX3_multiplyColour_2.1.2.1.2 rfl (fun v69 t69 e69 => ?_)
          unfold rng at e69
          have b69_ := tdb2 (a := h (s1 + 15) (x3 * 256 + v6 * 16 + v7).toNat * x4) (d := x5) (by omega) q66.1
          rw [← t69] at b69_
          have e69_ : v69 = h (s1 + 15) (x3 * 256 + v6 * 16 + v7).toNat * x4 / x5 := by rw [t69, Int.tdiv_eq_ediv_of_nonneg q66.1]
          refine csI1 (pc' := 73) kX11_clipped vX11_clipped lk_X3_55 ⟨Nat.le_of_ble_eq_true rfl, Nat.le_of_ble_eq_true rfl⟩ rfl (s_X11_clippedZ hF _ ⟨by omega, by omega⟩) dX3_multiplyColour_2.1.2.2 (Nat.le_of_ble_eq_true rfl) rfl ?_
          rintro r70 z70 ⟨hz70, p70⟩; subst z70
          refine zS_lv (pc' := 74) hF (by omega) (by omega) hto (by omega) dX3_multiplyColour_2.2.1.1.1 rfl (fun h i73 hF a73 b73 w73 => ?_)
          replace b73 := b73 ⟨by omega, by omega⟩
          replace hgh : Fw [(s2 + 15)] [] gh0 h := by rw [w73]; exact hgh.wc (by simp)
          replace hF3 : FuS (κ 33 0) (κ 33 1) (h (s1 + 15)) F := by have q0_ := (congrFun w73 (s1 + 15)).trans (zfun (by omega)); rw [q0_]; exact hF3
          have hr2 : PlSu (κ 33 0) (κ 33 1) (h (s2 + 15)) x3 (muF F x4 x5 x3) (v7 + 1) v6 := by rw [w73, b73]; exact PlSu.nx (by omega) (by omega) ⟨by omega, by omega, by omega, by omega⟩ gc0 (by omega) (by unfold muF; rw [p70.2.2, e69_, q63])
          have ho2 : PlO x3 A0 (h (s2 + 15)) := by rw [w73]; exact gc1.w (by omega)
          refine zW_iinc (ls' := [_, _, _, _, _, _, _, _, _]) (pc' := 77) dX3_multiplyColour_2.2.1.1.2 rfl (by decide) rfl rfl rfl ?_
          refine zV_goto 23 dX3_multiplyColour_2.2.1.2 rfl ?_
          refine zV_clr 8 (ls' := [_, _, _, _, _, _, _, _, _]) rfl ?_
          exact k23 _ _ _ hF (by omega) (by omega) (by omega) (by omega) (by first | exact hr2 | exact gc0) (by first | exact ho2 | exact gc1) hF3 hgh (by omega)
  refine zM_of [some (.inr (.inr 87)), some (.inr (.inr s1)), some (.inr (.inr s2)), some (.inl x3), some (.inl x4), some (.inl x5), none, none, none] 3 rfl rfl (Nat.le_of_ble_eq_true rfl) rfl ?_
  refine zW_iconst (pc' := 1) dX3_multiplyColour_0.1.1.1.1 rfl ?_
  refine zW_istore (ls' := [_, _, _, _, _, _, _, _, _]) (pc' := 3) dX3_multiplyColour_0.1.1.1.2 (by decide) rfl rfl rfl ?_
  exact (main 10000000000000000000000000000000000000000).1 _ _ hF (by omega) (by omega) (by first | exact gc0.rowx (by omega) | exact PlSu.no) (by first | exact gc1 | exact hA) hF3 hgh (by omega)

abbrev q_X3_multiplyZ (b : Bd) (κ : Hp) (s1 : Nat) (s2 : Nat) (x3 : Int) (x4 : Int) (x5 : Int) (x6 : Int) (F : P3) (gh0 : Hp) : Int → Hp → Prop := fun r h' => Fr b κ h' ∧ ((Fw [(s2 + 15)] [] gh0 h') ∧ (FuS (κ 33 0) (κ 33 1) (h' (s2 + 15)) (fun c => muF F (if c = 0 then x3 else if c = 1 then x4 else x5) x6 c)))
set_option maxHeartbeats 4000000 in
set_option maxRecDepth 20000 in
theorem s_X3_multiplyZ {G : Ga} {b : Bd} {κ h : Hp} (hK : KC κ) (hF : Fr b κ h) (s1 : Nat) (hs1 : 56 ≤ s1 ∧ s1 ≤ 70) (s2 : Nat) (hs2 : 56 ≤ s2 ∧ s2 ≤ 70) (x3 : Int) (hx3 : 0 ≤ x3 ∧ x3 ≤ 1024) (x4 : Int) (hx4 : 0 ≤ x4 ∧ x4 ≤ 1024) (x5 : Int) (hx5 : 0 ≤ x5 ∧ x5 ≤ 1024) (x6 : Int) (hx6 : 16 ≤ x6 ∧ x6 ≤ 256) (F : P3) (gh0 : Hp) (hto : OkL b (s2 + 15)) (hne : s1 ≠ s2) (hF3 : FuS (κ 33 0) (κ 33 1) (h (s1 + 15)) F) (hb3 : FB3 (κ 33 0) (κ 33 1) F) (hgh : Fw [(s2 + 15)] [] gh0 h) : zM G mX3_multiply yX3_multiply [.inr (.inr 87), .inr (.inr s1), .inr (.inr s2), .inl x3, .inl x4, .inl x5, .inl x6] h (q_X3_multiplyZ b κ s1 s2 x3 x4 x5 x6 F gh0) := by
  have f_33_0 := KCw hK
  have f_33_1 := KCh hK
  refine zM_of [some (.inr (.inr 87)), some (.inr (.inr s1)), some (.inr (.inr s2)), some (.inl x3), some (.inl x4), some (.inl x5), some (.inl x6)] 0 rfl rfl (Nat.le_of_ble_eq_true rfl) rfl ?_
  refine zW_aload_n (pc' := 1) dX3_multiply_0.1.1.1.1 rfl rfl ?_
  refine zW_aload_n (pc' := 2) dX3_multiply_0.1.1.1.2 rfl rfl ?_
  refine zW_aload_n (pc' := 3) dX3_multiply_0.1.1.2.1 rfl rfl ?_
  refine zW_iconst (pc' := 4) dX3_multiply_0.1.1.2.2 rfl ?_
  refine zW_iload_n (pc' := 5) dX3_multiply_0.1.2.1.1 rfl rfl ?_
  refine zW_iload (pc' := 7) dX3_multiply_0.1.2.1.2 rfl rfl ?_
  refine cvV5 (pc' := 10) kX3_multiplyColour vX3_multiplyColour lk_X3_94 ⟨Nat.le_of_ble_eq_true rfl, Nat.le_of_ble_eq_true rfl⟩ tb87 vq3 rfl rfl (s_X3_multiplyColourZ hK hF _ ⟨by omega, by omega⟩ _ ⟨by omega, by omega⟩ _ ⟨by omega, by omega⟩ _ ⟨by omega, by omega⟩ _ ⟨by omega, by omega⟩ F (h (s2 + 15)) h hto (by omega) (by omega) (by omega) (fun _ _ => rfl) Fw.rf) dX3_multiply_0.1.2.2.1 (Nat.le_of_ble_eq_true rfl) rfl ?_
  rintro r7 h ⟨hF, d7, p7⟩
  replace hF3 : FuS (κ 33 0) (κ 33 1) (h (s1 + 15)) F := by have q0_ := (d7.cell (k := (s1 + 15)) (by intro c hc; simp at hc <;> omega) (by rintro ⟨a, b⟩ hp; simp at hp <;> (show _ ≠ a; omega))); rw [q0_]; exact hF3
  replace hgh : Fw [(s2 + 15)] [] gh0 h := hgh.tr d7 (by simp) (by simp)
  refine zW_aload_n (pc' := 11) dX3_multiply_0.1.2.2.2 rfl rfl ?_
  refine zW_aload_n (pc' := 12) dX3_multiply_0.2.1.1.1 rfl rfl ?_
  refine zW_aload_n (pc' := 13) dX3_multiply_0.2.1.1.2 rfl rfl ?_
  refine zW_iconst (pc' := 14) dX3_multiply_0.2.1.2.1 rfl ?_
  refine zW_iload (pc' := 16) dX3_multiply_0.2.1.2.2 rfl rfl ?_
  refine zW_iload (pc' := 18) dX3_multiply_0.2.2.1.1 rfl rfl ?_
  refine cvV5 (pc' := 21) kX3_multiplyColour vX3_multiplyColour lk_X3_94 ⟨Nat.le_of_ble_eq_true rfl, Nat.le_of_ble_eq_true rfl⟩ tb87 vq3 rfl rfl (s_X3_multiplyColourZ hK hF _ ⟨by omega, by omega⟩ _ ⟨by omega, by omega⟩ _ ⟨by omega, by omega⟩ _ ⟨by omega, by omega⟩ _ ⟨by omega, by omega⟩ F (h (s2 + 15)) h hto (by omega) (by omega) (by omega) (fun _ _ => rfl) Fw.rf) dX3_multiply_0.2.2.1.2 (Nat.le_of_ble_eq_true rfl) rfl ?_
  rintro r18 h ⟨hF, d18, p18⟩
  replace hF3 : FuS (κ 33 0) (κ 33 1) (h (s1 + 15)) F := by have q0_ := (d18.cell (k := (s1 + 15)) (by intro c hc; simp at hc <;> omega) (by rintro ⟨a, b⟩ hp; simp at hp <;> (show _ ≠ a; omega))); rw [q0_]; exact hF3
  replace hgh : Fw [(s2 + 15)] [] gh0 h := hgh.tr d18 (by simp) (by simp)
  refine zW_aload_n (pc' := 22) dX3_multiply_0.2.2.2.1 rfl rfl ?_
  refine zW_aload_n (pc' := 23) dX3_multiply_0.2.2.2.2 rfl rfl ?_
  refine zW_aload_n (pc' := 24) dX3_multiply_1.1.1.1 rfl rfl ?_
  refine zW_iconst (pc' := 25) dX3_multiply_1.1.1.2 rfl ?_
  refine zW_iload (pc' := 27) dX3_multiply_1.1.2 rfl rfl ?_
  refine zW_iload (pc' := 29) dX3_multiply_1.2.1.1 rfl rfl ?_
  refine cvV5 (pc' := 32) kX3_multiplyColour vX3_multiplyColour lk_X3_94 ⟨Nat.le_of_ble_eq_true rfl, Nat.le_of_ble_eq_true rfl⟩ tb87 vq3 rfl rfl (s_X3_multiplyColourZ hK hF _ ⟨by omega, by omega⟩ _ ⟨by omega, by omega⟩ _ ⟨by omega, by omega⟩ _ ⟨by omega, by omega⟩ _ ⟨by omega, by omega⟩ F (h (s2 + 15)) h hto (by omega) (by omega) (by omega) (fun _ _ => rfl) Fw.rf) dX3_multiply_1.2.1.2 (Nat.le_of_ble_eq_true rfl) rfl ?_
  rintro r29 h ⟨hF, d29, p29⟩
  replace hF3 : FuS (κ 33 0) (κ 33 1) (h (s1 + 15)) F := by have q0_ := (d29.cell (k := (s1 + 15)) (by intro c hc; simp at hc <;> omega) (by rintro ⟨a, b⟩ hp; simp at hp <;> (show _ ≠ a; omega))); rw [q0_]; exact hF3
  replace hgh : Fw [(s2 + 15)] [] gh0 h := hgh.tr d29 (by simp) (by simp)
  exact zV_vret rfl dX3_multiply_1.2.2 ⟨hF, ⟨hgh, (by intro c hc; rcases (by omega : c = 0 ∨ c = 1 ∨ c = 2) with q | q | q; (subst q; exact (p7.1.o p18.2 (by omega) (by omega) (by omega) (by omega) (by omega)).o p29.2 (by omega) (by omega) (by omega) (by omega) (by omega)); (subst q; exact p18.1.o p29.2 (by omega) (by omega) (by omega) (by omega) (by omega)); (subst q; exact p29.1))⟩⟩
