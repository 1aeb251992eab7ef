/-! late stages: what they make of a level -/
abbrev P3 : Type := Int → Int → Int → Int
def FB3 (W H : Int) (F : P3) : Prop := ∀ c : Int, 0 ≤ c ∧ c ≤ 2 → FB W H (F c)
def Fu17 (κ : Hp) (A : Nat → Int) (k : Int) (F : P3) : Prop := ∀ c : Int, 0 ≤ c ∧ c ≤ 2 → Pl17 κ A k c (F c)
def lgt (F : P3) (x y : Int) : Int := (F 0 x y + F 2 x y + 2 * F 1 x y) / 4
def mx3 (F : P3) (x y : Int) : Int := max2 (F 0 x y) (max2 (F 1 x y) (F 2 x y))
def mn3 (F : P3) (x y : Int) : Int := min2 (F 0 x y) (min2 (F 1 x y) (F 2 x y))
theorem lgt_b {W H : Int} {F : P3} (h : FB3 W H F) {x y : Int} (hp : inP W H x y) : 0 ≤ lgt F x y ∧ lgt F x y ≤ 4095 := by
  have a := h 0 (by omega) x y hp
  have b := h 1 (by omega) x y hp
  have c := h 2 (by omega) x y hp
  unfold lgt
  omega
/-- the blur's sum, its first k of nine -/
def blT (W H : Int) (g : Int → Int → Int) (x y : Int) (k : Nat) : Int := (2 - ab ((k % 3 : Nat) - 1)) * (2 - ab ((k / 3 : Nat) - 1)) * g (mir (x + ((k % 3 : Nat) - 1)) W) (mir (y + ((k / 3 : Nat) - 1)) H)
def blS (W H : Int) (g : Int → Int → Int) (x y : Int) : Nat → Int
  | 0 => 0
  | k + 1 => blS W H g x y k + blT W H g x y k
def blr (W H : Int) (g : Int → Int → Int) (x y : Int) : Int := (4 * g x y + 2 * (g (mir (x - 1) W) y + g (mir (x + 1) W) y + g x (mir (y - 1) H) + g x (mir (y + 1) H)) + (g (mir (x - 1) W) (mir (y - 1) H) + g (mir (x + 1) W) (mir (y - 1) H) + g (mir (x - 1) W) (mir (y + 1) H) + g (mir (x + 1) W) (mir (y + 1) H))) / 16
theorem blS_9 {W H : Int} {g : Int → Int → Int} {x y : Int} (hx : 0 ≤ x ∧ x < W) (hy : 0 ≤ y ∧ y < H) : blS W H g x y 9 / 16 = blr W H g x y := by
  have ex := mir_i (n := W) hx
  have ey := mir_i (n := H) hy
  have t : ∀ (k : Nat) (a b w : Int), (((k % 3 : Nat) : Int) - 1 = a) → (((k / 3 : Nat) : Int) - 1 = b) → (2 - ab a) * (2 - ab b) = w → blT W H g x y k = w * g (mir (x + a) W) (mir (y + b) H) := by
    intro k a b w ha hb hw
    unfold blT
    rw [ha, hb, hw]
  have t0 := t 0 (-1) (-1) 1 (by decide) (by decide) (by decide)
  have t1 := t 1 0 (-1) 2 (by decide) (by decide) (by decide)
  have t2 := t 2 1 (-1) 1 (by decide) (by decide) (by decide)
  have t3 := t 3 (-1) 0 2 (by decide) (by decide) (by decide)
  have t4 := t 4 0 0 4 (by decide) (by decide) (by decide)
  have t5 := t 5 1 0 2 (by decide) (by decide) (by decide)
  have t6 := t 6 (-1) 1 1 (by decide) (by decide) (by decide)
  have t7 := t 7 0 1 2 (by decide) (by decide) (by decide)
  have t8 := t 8 1 1 1 (by decide) (by decide) (by decide)
  rw [Int.add_zero, ex] at t1 t4 t7
  rw [Int.add_zero, ey] at t3 t5
  rw [Int.add_zero, ey] at t4
  have m1 : x + -1 = x - 1 := by omega
  have m2 : y + -1 = y - 1 := by omega
  rw [m1] at t0 t3 t6
  rw [m2] at t0 t1 t2
  have e : blS W H g x y 9 = 0 + blT W H g x y 0 + blT W H g x y 1 + blT W H g x y 2 + blT W H g x y 3 + blT W H g x y 4 + blT W H g x y 5 + blT W H g x y 6 + blT W H g x y 7 + blT W H g x y 8 := rfl
  unfold blr
  congr 1
  omega
theorem blr_b {W H : Int} {g : Int → Int → Int} (hW : 4 ≤ W) (hH : 4 ≤ H) (hg : FB W H g) : FB W H (blr W H g) := by
  intro x y hp
  obtain ⟨h1, h2, h3, h4⟩ := hp
  have a1 := mir_b (v := x - 1) hW (by omega) (by omega)
  have a2 := mir_b (v := x + 1) hW (by omega) (by omega)
  have a3 := mir_b (v := y - 1) hH (by omega) (by omega)
  have a4 := mir_b (v := y + 1) hH (by omega) (by omega)
  have b0 := hg x y ⟨h1, h2, h3, h4⟩
  have b1 := hg _ _ ⟨a1.1, a1.2, h3, h4⟩
  have b2 := hg _ _ ⟨a2.1, a2.2, h3, h4⟩
  have b3 := hg _ _ ⟨h1, h2, a3.1, a3.2⟩
  have b4 := hg _ _ ⟨h1, h2, a4.1, a4.2⟩
  have b5 := hg _ _ ⟨a1.1, a1.2, a3.1, a3.2⟩
  have b6 := hg _ _ ⟨a2.1, a2.2, a3.1, a3.2⟩
  have b7 := hg _ _ ⟨a1.1, a1.2, a4.1, a4.2⟩
  have b8 := hg _ _ ⟨a2.1, a2.2, a4.1, a4.2⟩
  unfold blr
  omega
/-- noise taken off; sharpened; made pale -/
def clm (b d lim : Int) : Int := if ab d ≤ lim then b else if 0 < d then b + (d - lim) else b + (d + lim)
def shp (v b n m : Int) : Int := v + max2 (-16 * m) (min2 (16 * m) (((v - b) * n).tdiv 16))
def pal (v p n : Int) : Int := if p ≤ 16 * n then v else v + ((p - v) * (p - 16 * n)).tdiv (4095 - 16 * n)
/-- the place in a curve; what it makes of a level -/
def crI (X : Nat → Int) (m v : Int) : Nat → Int → Int
  | 0, i => i
  | k + 1, i => if i + 2 < m ∧ 16 * X (2 * i + 2).toNat ≤ v then crI X m v k (i + 1) else i
def crv (X : Nat → Int) (m v : Int) : Int := 16 * X (2 * crI X m v 70 0 + 1).toNat + ((v - 16 * X (2 * crI X m v 70 0).toNat) * (X (2 * crI X m v 70 0 + 3).toNat - X (2 * crI X m v 70 0 + 1).toNat)).tdiv (X (2 * crI X m v 70 0 + 2).toNat - X (2 * crI X m v 70 0).toNat)
theorem blS_b {W H : Int} {g : Int → Int → Int} {x y : Int} (hW : 4 ≤ W) (hH : 4 ≤ H) (hg : FB W H g) (hp : inP W H x y) : ∀ k : Nat, k ≤ 9 → 0 ≤ blS W H g x y k ∧ blS W H g x y k ≤ 16380 * (k : Int)
  | 0, _ => ⟨Int.le_refl 0, Int.le_refl 0⟩
  | k + 1, hk => by
    have z := blS_b hW hH hg hp k (by omega)
    obtain ⟨h1, h2, h3, h4⟩ := hp
    have a1 := mir_b (v := x + ((k % 3 : Nat) - 1)) hW (by omega) (by omega)
    have a2 := mir_b (v := y + ((k / 3 : Nat) - 1)) hH (by omega) (by omega)
    have b := hg _ _ ⟨a1.1, a1.2, a2.1, a2.2⟩
    have c1 := abc (((k % 3 : Nat) : Int) - 1)
    have c2 := abc (((k / 3 : Nat) : Int) - 1)
    have d1 := mulq (a := 2 - ab (((k % 3 : Nat) : Int) - 1)) (b := 2 - ab (((k / 3 : Nat) : Int) - 1)) (A := 2) (B := 2) ⟨by omega, by omega⟩ ⟨by omega, by omega⟩
    have d2 := mulq (a := (2 - ab (((k % 3 : Nat) : Int) - 1)) * (2 - ab (((k / 3 : Nat) : Int) - 1))) (b := g (mir (x + ((k % 3 : Nat) - 1)) W) (mir (y + ((k / 3 : Nat) - 1)) H)) (A := 4) (B := 4095) ⟨by omega, by omega⟩ b
    show 0 ≤ blS W H g x y k + blT W H g x y k ∧ blS W H g x y k + blT W H g x y k ≤ _
    unfold blT
    omega
theorem tdb2 {a d : Int} (hd : 1 ≤ d) (ha : 0 ≤ a) : 0 ≤ a.tdiv d ∧ a.tdiv d ≤ a := by
  rw [Int.tdiv_eq_ediv_of_nonneg ha]
  exact ⟨Int.ediv_nonneg ha (by omega), Int.ediv_le_self _ ha⟩

abbrev q_X12_lightAtZ (κ h : Hp) (x1 : Int) (x2 : Int) (x3 : Int) (F : P3) : Int → Hp → Prop := fun r h' => h' = h ∧ ((0 ≤ r) ∧ (r ≤ 4095) ∧ (r = lgt F (mir x2 (κ 0 11)) (mir x3 (κ 0 12))))
set_option maxHeartbeats 4000000 in
set_option maxRecDepth 20000 in
theorem s_X12_lightAtZ {G : Ga} {b : Bd} {κ h : Hp} (hK : KR κ) (hF : Fr b κ h) (x1 : Int) (hx1 : 0 ≤ x1 ∧ x1 ≤ 14) (x2 : Int) (hx2 : -2 ≤ x2 ∧ x2 ≤ 17 ∧ x2 - κ 0 11 ≤ 1) (x3 : Int) (hx3 : -2 ≤ x3 ∧ x3 ≤ 17 ∧ x3 - κ 0 12 ≤ 1) (F : P3) (hF3 : Fu17 κ (h 17) x1 F) (hb3 : FB3 (κ 0 11) (κ 0 12) F) : zM G mX12_lightAt yX12_lightAt [.inr (.inr 0), .inl x1, .inl x2, .inl x3] h (q_X12_lightAtZ κ h x1 x2 x3 F) := by
  have f_0_11 := KRw hK
  have f_0_12 := KRh hK
  refine zM_of [some (.inr (.inr 0)), some (.inl x1), some (.inl x2), some (.inl x3)] 0 rfl rfl (Nat.le_of_ble_eq_true rfl) rfl ?_
  refine zW_aload_n (pc' := 1) dX12_lightAt_0.1.1.1.1 rfl rfl ?_
  refine zW_iload_n (pc' := 2) dX12_lightAt_0.1.1.1.2 rfl rfl ?_
  refine zW_iconst (pc' := 3) dX12_lightAt_0.1.1.2.1 rfl ?_
  refine zW_iload_n (pc' := 4) dX12_lightAt_0.1.1.2.2 rfl rfl ?_
  refine zW_iload_n (pc' := 5) dX12_lightAt_0.1.2.1.1 rfl rfl ?_
  refine cvI4 (pc' := 8) kX12_at vX12_at lk_X12_277 ⟨Nat.le_of_ble_eq_true rfl, Nat.le_of_ble_eq_true rfl⟩ tb0 vq12 rfl rfl (s_X12_atZ hK hF _ ⟨by omega, by omega⟩ _ ⟨by omega, by omega⟩ _ ⟨by omega, by omega, by omega⟩ _ ⟨by omega, by omega, by omega⟩ (F 0) (hF3 0 (by omega)) (hb3 0 (by omega))) dX12_lightAt_0.1.2.1.2 (Nat.le_of_ble_eq_true rfl) rfl ?_
  rintro r5 z5 ⟨hz5, p5⟩; subst z5
  refine zW_aload_n (pc' := 9) dX12_lightAt_0.1.2.2.1 rfl rfl ?_
  refine zW_iload_n (pc' := 10) dX12_lightAt_0.1.2.2.2 rfl rfl ?_
  refine zW_iconst (pc' := 11) dX12_lightAt_0.2.1.1.1 rfl ?_
  refine zW_iload_n (pc' := 12) dX12_lightAt_0.2.1.1.2 rfl rfl ?_
  refine zW_iload_n (pc' := 13) dX12_lightAt_0.2.1.2.1 rfl rfl ?_
  refine cvI4 (pc' := 16) kX12_at vX12_at lk_X12_277 ⟨Nat.le_of_ble_eq_true rfl, Nat.le_of_ble_eq_true rfl⟩ tb0 vq12 rfl rfl (s_X12_atZ hK hF _ ⟨by omega, by omega⟩ _ ⟨by omega, by omega⟩ _ ⟨by omega, by omega, by omega⟩ _ ⟨by omega, by omega, by omega⟩ (F 2) (hF3 2 (by omega)) (hb3 2 (by omega))) dX12_lightAt_0.2.1.2.2 (Nat.le_of_ble_eq_true rfl) rfl ?_
  rintro r13 z13 ⟨hz13, p13⟩; subst z13
  refine zW_iadd (pc' := 17) dX12_lightAt_0.2.2.1.1 rfl ?_
  refine zW_iconst (pc' := 18) dX12_lightAt_0.2.2.1.2 rfl ?_
  refine zW_aload_n (pc' := 19) dX12_lightAt_0.2.2.2.1 rfl rfl ?_
  refine zW_iload_n (pc' := 20) dX12_lightAt_0.2.2.2.2 rfl rfl ?_
  refine zW_iconst (pc' := 21) dX12_lightAt_1.1.1.1.1 rfl ?_
  refine zW_iload_n (pc' := 22) dX12_lightAt_1.1.1.1.2 rfl rfl ?_
  refine zW_iload_n (pc' := 23) dX12_lightAt_1.1.1.2 rfl rfl ?_
  refine cvI4 (pc' := 26) kX12_at vX12_at lk_X12_277 ⟨Nat.le_of_ble_eq_true rfl, Nat.le_of_ble_eq_true rfl⟩ tb0 vq12 rfl rfl (s_X12_atZ hK hF _ ⟨by omega, by omega⟩ _ ⟨by omega, by omega⟩ _ ⟨by omega, by omega, by omega⟩ _ ⟨by omega, by omega, by omega⟩ (F 1) (hF3 1 (by omega)) (hb3 1 (by omega))) dX12_lightAt_1.1.2.1 (Nat.le_of_ble_eq_true rfl) rfl ?_
  rintro r23 z23 ⟨hz23, p23⟩; subst z23
  refine zW_imul (pc' := 27) dX12_lightAt_1.1.2.2 rfl ?_
  refine zW_iadd (pc' := 28) dX12_lightAt_1.2.1.1 rfl ?_
  refine zW_iconst (pc' := 29) dX12_lightAt_1.2.1.2 rfl ?_
  refine zW_idiv (pc' := 30) (by omega) (by omega) dX12_lightAt_1.2.2.1 rfl ?_
  exact zV_iret rfl dX12_lightAt_1.2.2.2 ⟨rfl, ⟨by omega, by omega, by unfold lgt; omega⟩⟩

abbrev q_X12_greatestZ (κ h : Hp) (x1 : Int) (x2 : Int) (x3 : Int) (F : P3) : Int → Hp → Prop := fun r h' => h' = h ∧ ((0 ≤ r) ∧ (r ≤ 4095) ∧ (r = mx3 F (mir x2 (κ 0 11)) (mir x3 (κ 0 12))))
set_option maxHeartbeats 4000000 in
set_option maxRecDepth 20000 in
theorem s_X12_greatestZ {G : Ga} {b : Bd} {κ h : Hp} (hK : KR κ) (hF : Fr b κ h) (x1 : Int) (hx1 : 0 ≤ x1 ∧ x1 ≤ 14) (x2 : Int) (hx2 : -2 ≤ x2 ∧ x2 ≤ 17 ∧ x2 - κ 0 11 ≤ 1) (x3 : Int) (hx3 : -2 ≤ x3 ∧ x3 ≤ 17 ∧ x3 - κ 0 12 ≤ 1) (F : P3) (hF3 : Fu17 κ (h 17) x1 F) (hb3 : FB3 (κ 0 11) (κ 0 12) F) : zM G mX12_greatest yX12_greatest [.inr (.inr 0), .inl x1, .inl x2, .inl x3] h (q_X12_greatestZ κ h x1 x2 x3 F) := by
  have f_0_11 := KRw hK
  have f_0_12 := KRh hK
  refine zM_of [some (.inr (.inr 0)), some (.inl x1), some (.inl x2), some (.inl x3)] 0 rfl rfl (Nat.le_of_ble_eq_true rfl) rfl ?_
  refine zW_aload_n (pc' := 1) dX12_greatest_0.1.1.1.1 rfl rfl ?_
  refine zW_iload_n (pc' := 2) dX12_greatest_0.1.1.1.2 rfl rfl ?_
  refine zW_iconst (pc' := 3) dX12_greatest_0.1.1.2.1 rfl ?_
  refine zW_iload_n (pc' := 4) dX12_greatest_0.1.1.2.2 rfl rfl ?_
  refine zW_iload_n (pc' := 5) dX12_greatest_0.1.2.1.1 rfl rfl ?_
  refine cvI4 (pc' := 8) kX12_at vX12_at lk_X12_277 ⟨Nat.le_of_ble_eq_true rfl, Nat.le_of_ble_eq_true rfl⟩ tb0 vq12 rfl rfl (s_X12_atZ hK hF _ ⟨by omega, by omega⟩ _ ⟨by omega, by omega⟩ _ ⟨by omega, by omega, by omega⟩ _ ⟨by omega, by omega, by omega⟩ (F 0) (hF3 0 (by omega)) (hb3 0 (by omega))) dX12_greatest_0.1.2.1.2 (Nat.le_of_ble_eq_true rfl) rfl ?_
  rintro r5 z5 ⟨hz5, p5⟩; subst z5
  refine zW_aload_n (pc' := 9) dX12_greatest_0.1.2.2.1 rfl rfl ?_
  refine zW_iload_n (pc' := 10) dX12_greatest_0.1.2.2.2 rfl rfl ?_
  refine zW_iconst (pc' := 11) dX12_greatest_0.2.1.1.1 rfl ?_
  refine zW_iload_n (pc' := 12) dX12_greatest_0.2.1.1.2 rfl rfl ?_
  refine zW_iload_n (pc' := 13) dX12_greatest_0.2.1.2.1 rfl rfl ?_
  refine cvI4 (pc' := 16) kX12_at vX12_at lk_X12_277 ⟨Nat.le_of_ble_eq_true rfl, Nat.le_of_ble_eq_true rfl⟩ tb0 vq12 rfl rfl (s_X12_atZ hK hF _ ⟨by omega, by omega⟩ _ ⟨by omega, by omega⟩ _ ⟨by omega, by omega, by omega⟩ _ ⟨by omega, by omega, by omega⟩ (F 1) (hF3 1 (by omega)) (hb3 1 (by omega))) dX12_greatest_0.2.1.2.2 (Nat.le_of_ble_eq_true rfl) rfl ?_
  rintro r13 z13 ⟨hz13, p13⟩; subst z13
  refine zW_aload_n (pc' := 17) dX12_greatest_0.2.2.1.1 rfl rfl ?_
  refine zW_iload_n (pc' := 18) dX12_greatest_0.2.2.1.2 rfl rfl ?_
  refine zW_iconst (pc' := 19) dX12_greatest_0.2.2.2.1 rfl ?_
  refine zW_iload_n (pc' := 20) dX12_greatest_0.2.2.2.2 rfl rfl ?_
  refine zW_iload_n (pc' := 21) dX12_greatest_1.1.1.1 rfl rfl ?_
  refine cvI4 (pc' := 24) kX12_at vX12_at lk_X12_277 ⟨Nat.le_of_ble_eq_true rfl, Nat.le_of_ble_eq_true rfl⟩ tb0 vq12 rfl rfl (s_X12_atZ hK hF _ ⟨by omega, by omega⟩ _ ⟨by omega, by omega⟩ _ ⟨by omega, by omega, by omega⟩ _ ⟨by omega, by omega, by omega⟩ (F 2) (hF3 2 (by omega)) (hb3 2 (by omega))) dX12_greatest_1.1.1.2 (Nat.le_of_ble_eq_true rfl) rfl ?_
  rintro r21 z21 ⟨hz21, p21⟩; subst z21
  refine csI2 (pc' := 27) kX12_max vX12_max lk_X12_113 ⟨Nat.le_of_ble_eq_true rfl, Nat.le_of_ble_eq_true rfl⟩ rfl (s_X12_maxR hF _ ⟨by omega, by omega⟩ _ ⟨by omega, by omega⟩) dX12_greatest_1.1.2 (Nat.le_of_ble_eq_true rfl) rfl ?_
  rintro r24 z24 ⟨hz24, p24⟩; subst z24
  refine csI2 (pc' := 30) kX12_max vX12_max lk_X12_113 ⟨Nat.le_of_ble_eq_true rfl, Nat.le_of_ble_eq_true rfl⟩ rfl (s_X12_maxR hF _ ⟨by omega, by omega⟩ _ ⟨by omega, by omega⟩) dX12_greatest_1.2.1 (Nat.le_of_ble_eq_true rfl) rfl ?_
  rintro r27 z27 ⟨hz27, p27⟩; subst z27
  exact zV_iret rfl dX12_greatest_1.2.2 ⟨rfl, (by unfold mx3; rw [← p5.2.2, ← p13.2.2, ← p21.2.2]; have z1 := max2c r13 r21; have z2 := max2c r5 (max2 r13 r21); omega)⟩

abbrev q_X12_smallestZ (κ h : Hp) (x1 : Int) (x2 : Int) (x3 : Int) (F : P3) : Int → Hp → Prop := fun r h' => h' = h ∧ ((0 ≤ r) ∧ (r ≤ 4095) ∧ (r = mn3 F (mir x2 (κ 0 11)) (mir x3 (κ 0 12))))
set_option maxHeartbeats 4000000 in
set_option maxRecDepth 20000 in
theorem s_X12_smallestZ {G : Ga} {b : Bd} {κ h : Hp} (hK : KR κ) (hF : Fr b κ h) (x1 : Int) (hx1 : 0 ≤ x1 ∧ x1 ≤ 14) (x2 : Int) (hx2 : -2 ≤ x2 ∧ x2 ≤ 17 ∧ x2 - κ 0 11 ≤ 1) (x3 : Int) (hx3 : -2 ≤ x3 ∧ x3 ≤ 17 ∧ x3 - κ 0 12 ≤ 1) (F : P3) (hF3 : Fu17 κ (h 17) x1 F) (hb3 : FB3 (κ 0 11) (κ 0 12) F) : zM G mX12_smallest yX12_smallest [.inr (.inr 0), .inl x1, .inl x2, .inl x3] h (q_X12_smallestZ κ h x1 x2 x3 F) := by
  have f_0_11 := KRw hK
  have f_0_12 := KRh hK
  refine zM_of [some (.inr (.inr 0)), some (.inl x1), some (.inl x2), some (.inl x3)] 0 rfl rfl (Nat.le_of_ble_eq_true rfl) rfl ?_
  refine zW_aload_n (pc' := 1) dX12_smallest_0.1.1.1.1 rfl rfl ?_
  refine zW_iload_n (pc' := 2) dX12_smallest_0.1.1.1.2 rfl rfl ?_
  refine zW_iconst (pc' := 3) dX12_smallest_0.1.1.2.1 rfl ?_
  refine zW_iload_n (pc' := 4) dX12_smallest_0.1.1.2.2 rfl rfl ?_
  refine zW_iload_n (pc' := 5) dX12_smallest_0.1.2.1.1 rfl rfl ?_
  refine cvI4 (pc' := 8) kX12_at vX12_at lk_X12_277 ⟨Nat.le_of_ble_eq_true rfl, Nat.le_of_ble_eq_true rfl⟩ tb0 vq12 rfl rfl (s_X12_atZ hK hF _ ⟨by omega, by omega⟩ _ ⟨by omega, by omega⟩ _ ⟨by omega, by omega, by omega⟩ _ ⟨by omega, by omega, by omega⟩ (F 0) (hF3 0 (by omega)) (hb3 0 (by omega))) dX12_smallest_0.1.2.1.2 (Nat.le_of_ble_eq_true rfl) rfl ?_
  rintro r5 z5 ⟨hz5, p5⟩; subst z5
  refine zW_aload_n (pc' := 9) dX12_smallest_0.1.2.2.1 rfl rfl ?_
  refine zW_iload_n (pc' := 10) dX12_smallest_0.1.2.2.2 rfl rfl ?_
  refine zW_iconst (pc' := 11) dX12_smallest_0.2.1.1.1 rfl ?_
  refine zW_iload_n (pc' := 12) dX12_smallest_0.2.1.1.2 rfl rfl ?_
  refine zW_iload_n (pc' := 13) dX12_smallest_0.2.1.2.1 rfl rfl ?_
  refine cvI4 (pc' := 16) kX12_at vX12_at lk_X12_277 ⟨Nat.le_of_ble_eq_true rfl, Nat.le_of_ble_eq_true rfl⟩ tb0 vq12 rfl rfl (s_X12_atZ hK hF _ ⟨by omega, by omega⟩ _ ⟨by omega, by omega⟩ _ ⟨by omega, by omega, by omega⟩ _ ⟨by omega, by omega, by omega⟩ (F 1) (hF3 1 (by omega)) (hb3 1 (by omega))) dX12_smallest_0.2.1.2.2 (Nat.le_of_ble_eq_true rfl) rfl ?_
  rintro r13 z13 ⟨hz13, p13⟩; subst z13
  refine zW_aload_n (pc' := 17) dX12_smallest_0.2.2.1.1 rfl rfl ?_
  refine zW_iload_n (pc' := 18) dX12_smallest_0.2.2.1.2 rfl rfl ?_
  refine zW_iconst (pc' := 19) dX12_smallest_0.2.2.2.1 rfl ?_
  refine zW_iload_n (pc' := 20) dX12_smallest_0.2.2.2.2 rfl rfl ?_
  refine zW_iload_n (pc' := 21) dX12_smallest_1.1.1.1 rfl rfl ?_
  refine cvI4 (pc' := 24) kX12_at vX12_at lk_X12_277 ⟨Nat.le_of_ble_eq_true rfl, Nat.le_of_ble_eq_true rfl⟩ tb0 vq12 rfl rfl (s_X12_atZ hK hF _ ⟨by omega, by omega⟩ _ ⟨by omega, by omega⟩ _ ⟨by omega, by omega, by omega⟩ _ ⟨by omega, by omega, by omega⟩ (F 2) (hF3 2 (by omega)) (hb3 2 (by omega))) dX12_smallest_1.1.1.2 (Nat.le_of_ble_eq_true rfl) rfl ?_
  rintro r21 z21 ⟨hz21, p21⟩; subst z21
  refine csI2 (pc' := 27) kX12_min vX12_min lk_X12_109 ⟨Nat.le_of_ble_eq_true rfl, Nat.le_of_ble_eq_true rfl⟩ rfl (s_X12_minR hF _ ⟨by omega, by omega⟩ _ ⟨by omega, by omega⟩) dX12_smallest_1.1.2 (Nat.le_of_ble_eq_true rfl) rfl ?_
  rintro r24 z24 ⟨hz24, p24⟩; subst z24
  refine csI2 (pc' := 30) kX12_min vX12_min lk_X12_109 ⟨Nat.le_of_ble_eq_true rfl, Nat.le_of_ble_eq_true rfl⟩ rfl (s_X12_minR hF _ ⟨by omega, by omega⟩ _ ⟨by omega, by omega⟩) dX12_smallest_1.2.1 (Nat.le_of_ble_eq_true rfl) rfl ?_
  rintro r27 z27 ⟨hz27, p27⟩; subst z27
  exact zV_iret rfl dX12_smallest_1.2.2 ⟨rfl, (by unfold mn3; rw [← p5.2.2, ← p13.2.2, ← p21.2.2]; have z1 := min2c r13 r21; have z2 := min2c r5 (min2 r13 r21); omega)⟩

abbrev q_X12_blurAtZ (κ h : Hp) (x1 : Int) (x2 : Int) (x3 : Int) (x4 : Int) (g : Int → Int → Int) : Int → Hp → Prop := fun r h' => h' = h ∧ ((0 ≤ r) ∧ (r ≤ 4095) ∧ (r = blr (κ 0 11) (κ 0 12) g x3 x4))
set_option maxHeartbeats 4000000 in
set_option maxRecDepth 20000 in
theorem s_X12_blurAtZ {G : Ga} {b : Bd} {κ h : Hp} (hK : KR κ) (hF : Fr b κ h) (x1 : Int) (hx1 : 0 ≤ x1 ∧ x1 ≤ 14) (x2 : Int) (hx2 : 0 ≤ x2 ∧ x2 ≤ 2) (x3 : Int) (hx3 : 0 ≤ x3 ∧ x3 ≤ 15 ∧ x3 - κ 0 11 ≤ -1) (x4 : Int) (hx4 : 0 ≤ x4 ∧ x4 ≤ 15 ∧ x4 - κ 0 12 ≤ -1) (g : Int → Int → Int) (hg : Pl17 κ (h 17) x1 x2 g) (hgb : FB (κ 0 11) (κ 0 12) g) : zM G mX12_blurAt yX12_blurAt [.inr (.inr 0), .inl x1, .inl x2, .inl x3, .inl x4] h (q_X12_blurAtZ κ h x1 x2 x3 x4 g) := by
  have f_0_11 := KRw hK
  have f_0_12 := KRh hK
  have main : ∀ N : Nat, (∀ (v5 v6 : Int) , (0 ≤ v5 ∧ v5 ≤ 147420) → (-1 ≤ v6 ∧ v6 ≤ 2) → (v5 = blS (κ 0 11) (κ 0 12) g x3 x4 (3 * (v6 + 1)).toNat) → 1312000 + 6560 * (2 - v6) + 6400 < (N : Int) → zV G mX12_blurAt (q_X12_blurAtZ κ h x1 x2 x3 x4 g) 6 [some (.inr (.inr 0)), some (.inl x1), some (.inl x2), some (.inl x3), some (.inl x4), some (.inl v5), some (.inl v6), none] [] h) ∧ (∀ (v5 v6 v7 : Int) , (0 ≤ v5 ∧ v5 ≤ 147420) → (-1 ≤ v6 ∧ v6 ≤ 1) → (-1 ≤ v7 ∧ v7 ≤ 2) → (v5 = blS (κ 0 11) (κ 0 12) g x3 x4 (3 * (v6 + 1) + (v7 + 1)).toNat) → (v6 ≤ 1) → 1312000 + 6560 * (2 - v6) + 4960 + 32 * (2 - v7) + 31 < (N : Int) → zV G mX12_blurAt (q_X12_blurAtZ κ h x1 x2 x3 x4 g) 15 [some (.inr (.inr 0)), some (.inl x1), some (.inl x2), some (.inl x3), some (.inl x4), some (.inl v5), some (.inl v6), some (.inl v7)] [] h) := by
    intro N
    induction N with
    | zero =>
      refine ⟨?_, ?_⟩
      · intro v5 v6 g0 g1 gc0 hm
        exfalso; omega
      · intro v5 v6 v7 g0 g1 g2 gc0 gc1 hm
        exfalso; omega
    | succ N ih =>
      obtain ⟨k6, k15⟩ := ih
      refine ⟨?_, ?_⟩
      · intro v5 v6 g0 g1 gc0 hm
        refine zW_iload (pc' := 8) dX12_blurAt_0.1.2.1.1 rfl rfl ?_
        refine zW_iconst (pc' := 9) dX12_blurAt_0.1.2.1.2 rfl ?_
        refine zV_cm_ge (tgt := 69) (pc' := 12) dX12_blurAt_0.1.2.2.1 rfl rfl ⟨by omega, by omega⟩ ⟨by omega, by omega⟩ (fun c9 => ?_) (fun c9 => ?_)
        · refine zW_iload (pc' := 71) dX12_blurAt_2.2.1.1.2 rfl rfl ?_
          refine zW_bipush (pc' := 73) dX12_blurAt_2.2.1.2 rfl rfl ?_
          refine zW_idiv (pc' := 74) (by omega) (by omega) dX12_blurAt_2.2.2.1 rfl ?_
          exact zV_iret rfl dX12_blurAt_2.2.2.2 ⟨rfl, (by have e9 : (3 * (v6 + 1)).toNat = 9 := (by omega); rw [e9] at gc0; have z := blS_9 (W := κ 0 11) (H := κ 0 12) (g := g) (x := x3) (y := x4) ⟨by omega, by omega⟩ ⟨by omega, by omega⟩; have b := blr_b (KRw hK).1 (KRh hK).1 hgb x3 x4 ⟨by omega, by omega, by omega, by omega⟩; rw [gc0, z]; exact ⟨b.1, b.2, rfl⟩)⟩
        · refine zW_iconst (pc' := 13) dX12_blurAt_0.1.2.2.2 rfl ?_
          refine zW_istore (ls' := [_, _, _, _, _, _, _, _]) (pc' := 15) dX12_blurAt_0.2.1.1.1 (by decide) rfl rfl rfl ?_
          exact k15 _ _ _ (by omega) (by omega) (by omega) (by first | (rw [bt, ← gc0]) | (rw [gc0, show (3 * (v6 + 1) + (-1 + 1)).toNat = (3 * (v6 + 1)).toNat by omega])) (by omega) (by omega)
      · intro v5 v6 v7 g0 g1 g2 gc0 gc1 hm
        refine zW_iload (pc' := 17) dX12_blurAt_0.2.1.1.2 rfl rfl ?_
        refine zW_iconst (pc' := 18) dX12_blurAt_0.2.1.2.1 rfl ?_
        refine zV_cm_ge (tgt := 63) (pc' := 21) dX12_blurAt_0.2.1.2.2 rfl rfl ⟨by omega, by omega⟩ ⟨by omega, by omega⟩ (fun c18 => ?_) (fun c18 => ?_)
        · refine zW_iinc (ls' := [_, _, _, _, _, _, _, _]) (pc' := 66) dX12_blurAt_2.1.2.2 rfl (by decide) rfl rfl rfl ?_
          refine zV_goto 6 dX12_blurAt_2.2.1.1.1 rfl ?_
          refine zV_clr 7 (ls' := [_, _, _, _, _, _, _, _]) rfl ?_
          exact k6 _ _ (by omega) (by omega) (by first | rfl | (rw [gc0, show (3 * (v6 + 1) + (v7 + 1)).toNat = (3 * (v6 + 1 + 1)).toNat by omega])) (by omega)
        · refine zW_iload (pc' := 23) dX12_blurAt_0.2.2.1.1 rfl rfl ?_
          refine zW_iconst (pc' := 24) dX12_blurAt_0.2.2.1.2 rfl ?_
          refine zW_iload (pc' := 26) dX12_blurAt_0.2.2.2.1 rfl rfl ?_
          refine csI1 (pc' := 29) kX12_size vX12_size lk_X12_257 ⟨Nat.le_of_ble_eq_true rfl, Nat.le_of_ble_eq_true rfl⟩ rfl (s_X12_sizeR hF _ ⟨by omega, by omega⟩) dX12_blurAt_0.2.2.2.2 (Nat.le_of_ble_eq_true rfl) rfl ?_
          rintro r26 z26 ⟨hz26, p26⟩; subst z26
          refine zW_isub (pc' := 30) dX12_blurAt_1.1.1.1.1 rfl ?_
          refine zW_iconst (pc' := 31) dX12_blurAt_1.1.1.1.2 rfl ?_
          refine zW_iload (pc' := 33) dX12_blurAt_1.1.1.2.1 rfl rfl ?_
          refine csI1 (pc' := 36) kX12_size vX12_size lk_X12_257 ⟨Nat.le_of_ble_eq_true rfl, Nat.le_of_ble_eq_true rfl⟩ rfl (s_X12_sizeR hF _ ⟨by omega, by omega⟩) dX12_blurAt_1.1.1.2.2 (Nat.le_of_ble_eq_true rfl) rfl ?_
          rintro r33 z33 ⟨hz33, p33⟩; subst z33
          refine zW_isub (pc' := 37) dX12_blurAt_1.1.2.1.1 rfl ?_
          refine zW_imul (pc' := 38) dX12_blurAt_1.1.2.1.2 rfl ?_
          have w37 : (2 - r26) * (2 - r33) = 1 ∨ (2 - r26) * (2 - r33) = 2 ∨ (2 - r26) * (2 - r33) = 4 := by rcases (by omega : (r26 = 0 ∨ r26 = 1) ∧ (r33 = 0 ∨ r33 = 1)) with ⟨rfl | rfl, rfl | rfl⟩ <;> decide
          refine zW_aload_n (pc' := 39) dX12_blurAt_1.1.2.2.1 rfl rfl ?_
          refine zW_iload_n (pc' := 40) dX12_blurAt_1.1.2.2.2 rfl rfl ?_
          refine zW_iload_n (pc' := 41) dX12_blurAt_1.2.1.1.1 rfl rfl ?_
          refine zW_iload_n (pc' := 42) dX12_blurAt_1.2.1.1.2 rfl rfl ?_
          refine zW_iload (pc' := 44) dX12_blurAt_1.2.1.2.1 rfl rfl ?_
          refine zW_iadd (pc' := 45) dX12_blurAt_1.2.1.2.2 rfl ?_
          refine zW_iload (pc' := 47) dX12_blurAt_1.2.2.1.1 rfl rfl ?_
          refine zW_iload (pc' := 49) dX12_blurAt_1.2.2.1.2 rfl rfl ?_
          refine zW_iadd (pc' := 50) dX12_blurAt_1.2.2.2.1 rfl ?_
          refine cvI4 (pc' := 53) kX12_at vX12_at lk_X12_277 ⟨Nat.le_of_ble_eq_true rfl, Nat.le_of_ble_eq_true rfl⟩ tb0 vq12 rfl rfl (s_X12_atZ hK hF _ ⟨by omega, by omega⟩ _ ⟨by omega, by omega⟩ _ ⟨by omega, by omega, by omega⟩ _ ⟨by omega, by omega, by omega⟩ g hg (by omega)) dX12_blurAt_1.2.2.2.2 (Nat.le_of_ble_eq_true rfl) rfl ?_
          rintro r50 z50 ⟨hz50, p50⟩; subst z50
          refine zW_imul (pc' := 54) dX12_blurAt_2.1.1.1.1 rfl ?_
          have t53 := mulq (a := (2 - r26) * (2 - r33)) (b := r50) (A := 4) (B := 4095) ⟨by omega, by omega⟩ ⟨by omega, by omega⟩
          have bt : blS (κ 0 11) (κ 0 12) g x3 x4 (3 * (v6 + 1) + (v7 + 1 + 1)).toNat = blS (κ 0 11) (κ 0 12) g x3 x4 (3 * (v6 + 1) + (v7 + 1)).toNat + (2 - r26) * (2 - r33) * r50 := by (have e1 : (3 * (v6 + 1) + (v7 + 1 + 1)).toNat = (3 * (v6 + 1) + (v7 + 1)).toNat + 1 := (by omega); rw [e1]; show _ + blT _ _ _ _ _ _ = _; unfold blT; have e2 : (((3 * (v6 + 1) + (v7 + 1)).toNat % 3 : Nat) : Int) - 1 = v7 := (by omega); have e3 : (((3 * (v6 + 1) + (v7 + 1)).toNat / 3 : Nat) : Int) - 1 = v6 := (by omega); rw [e2, e3, ← p50.2.2]; have z1 := abc v7; have z2 := abc v6; rw [show ab v7 = r26 by omega, show ab v6 = r33 by omega])
          have bb := blS_b (x := x3) (y := x4) (KRw hK).1 (KRh hK).1 hgb ⟨by omega, by omega, by omega, by omega⟩ (3 * (v6 + 1) + (v7 + 1 + 1)).toNat (by omega)
          refine zW_iadd (pc' := 55) dX12_blurAt_2.1.1.1.2 rfl ?_
          refine zW_istore (ls' := [_, _, _, _, _, _, _, _]) (pc' := 57) dX12_blurAt_2.1.1.2 (by decide) rfl rfl rfl ?_
          refine zW_iinc (ls' := [_, _, _, _, _, _, _, _]) (pc' := 60) dX12_blurAt_2.1.2.1.1 rfl (by decide) rfl rfl rfl ?_
          refine zV_goto 15 dX12_blurAt_2.1.2.1.2 rfl ?_
          exact k15 _ _ _ (by omega) (by omega) (by omega) (by first | (rw [bt, ← gc0]) | (rw [gc0, show (3 * (v6 + 1) + (-1 + 1)).toNat = (3 * (v6 + 1)).toNat by omega])) (by omega) (by omega)
  refine zM_of [some (.inr (.inr 0)), some (.inl x1), some (.inl x2), some (.inl x3), some (.inl x4), none, none, none] 3 rfl rfl (Nat.le_of_ble_eq_true rfl) rfl ?_
  refine zW_iconst (pc' := 1) dX12_blurAt_0.1.1.1.1 rfl ?_
  refine zW_istore (ls' := [_, _, _, _, _, _, _, _]) (pc' := 3) dX12_blurAt_0.1.1.1.2 (by decide) rfl rfl rfl ?_
  refine zW_iconst (pc' := 4) dX12_blurAt_0.1.1.2.1 rfl ?_
  refine zW_istore (ls' := [_, _, _, _, _, _, _, _]) (pc' := 6) dX12_blurAt_0.1.1.2.2 (by decide) rfl rfl rfl ?_
  exact (main 10000000000000000000000000000000000000000).1 _ _ (by omega) (by omega) (by first | rfl | (rw [gc0, show (3 * (v6 + 1) + (v7 + 1)).toNat = (3 * (v6 + 1 + 1)).toNat by omega])) (by omega)

abbrev q_X12_calmedZ (κ h : Hp) (x1 : Int) (x2 : Int) (x3 : Int) (x4 : Int) (x5 : Int) (x6 : Int) (g : Int → Int → Int) : Int → Hp → Prop := fun r h' => h' = h ∧ ((-20000 ≤ r) ∧ (r ≤ 20000) ∧ (r = clm (blr (κ 0 11) (κ 0 12) g x3 x4) (g x3 x4 - blr (κ 0 11) (κ 0 12) g x3 x4) (16 * x5 + x6 * blr (κ 0 11) (κ 0 12) g x3 x4 / 64)))
set_option maxHeartbeats 4000000 in
set_option maxRecDepth 20000 in
theorem s_X12_calmedZ {G : Ga} {b : Bd} {κ h : Hp} (hK : KR κ) (hF : Fr b κ h) (x1 : Int) (hx1 : 0 ≤ x1 ∧ x1 ≤ 14) (x2 : Int) (hx2 : 0 ≤ x2 ∧ x2 ≤ 2) (x3 : Int) (hx3 : 0 ≤ x3 ∧ x3 ≤ 15 ∧ x3 - κ 0 11 ≤ -1) (x4 : Int) (hx4 : 0 ≤ x4 ∧ x4 ≤ 15 ∧ x4 - κ 0 12 ≤ -1) (x5 : Int) (hx5 : 0 ≤ x5 ∧ x5 ≤ 255) (x6 : Int) (hx6 : 0 ≤ x6 ∧ x6 ≤ 255) (g : Int → Int → Int) (hg : Pl17 κ (h 17) x1 x2 g) (hgb : FB (κ 0 11) (κ 0 12) g) : zM G mX12_calmed yX12_calmed [.inr (.inr 0), .inl x1, .inl x2, .inl x3, .inl x4, .inl x5, .inl x6] h (q_X12_calmedZ κ h x1 x2 x3 x4 x5 x6 g) := by
  have f_0_11 := KRw hK
  have f_0_12 := KRh hK
  refine zM_of [some (.inr (.inr 0)), some (.inl x1), some (.inl x2), some (.inl x3), some (.inl x4), some (.inl x5), some (.inl x6), none, none, none] 3 rfl rfl (Nat.le_of_ble_eq_true rfl) rfl ?_
  refine zW_aload_n (pc' := 1) dX12_calmed_0.1.1.1.1 rfl rfl ?_
  refine zW_iload_n (pc' := 2) dX12_calmed_0.1.1.1.2 rfl rfl ?_
  refine zW_iload_n (pc' := 3) dX12_calmed_0.1.1.2.1 rfl rfl ?_
  refine zW_iload_n (pc' := 4) dX12_calmed_0.1.1.2.2 rfl rfl ?_
  refine zW_iload (pc' := 6) dX12_calmed_0.1.2.1.1 rfl rfl ?_
  refine cvI4 (pc' := 9) kX12_blurAt vX12_blurAt lk_X12_319 ⟨Nat.le_of_ble_eq_true rfl, Nat.le_of_ble_eq_true rfl⟩ tb0 vq12 rfl rfl (s_X12_blurAtZ hK hF _ ⟨by omega, by omega⟩ _ ⟨by omega, by omega⟩ _ ⟨by omega, by omega, by omega⟩ _ ⟨by omega, by omega, by omega⟩ g hg hgb) dX12_calmed_0.1.2.1.2 (Nat.le_of_ble_eq_true rfl) rfl ?_
  rintro r6 z6 ⟨hz6, p6⟩; subst z6
  refine zW_istore (ls' := [_, _, _, _, _, _, _, _, _, _]) (pc' := 11) dX12_calmed_0.1.2.2.1 (by decide) rfl rfl rfl ?_
  refine zW_aload_n (pc' := 12) dX12_calmed_0.1.2.2.2 rfl rfl ?_
  refine zW_iload_n (pc' := 13) dX12_calmed_0.2.1.1.1 rfl rfl ?_
  refine zW_iload_n (pc' := 14) dX12_calmed_0.2.1.1.2 rfl rfl ?_
  refine zW_iload_n (pc' := 15) dX12_calmed_0.2.1.2.1 rfl rfl ?_
  refine zW_iload (pc' := 17) dX12_calmed_0.2.1.2.2 rfl rfl ?_
  refine cvI4 (pc' := 20) kX12_at vX12_at lk_X12_277 ⟨Nat.le_of_ble_eq_true rfl, Nat.le_of_ble_eq_true rfl⟩ tb0 vq12 rfl rfl (s_X12_atZ hK hF _ ⟨by omega, by omega⟩ _ ⟨by omega, by omega⟩ _ ⟨by omega, by omega, by omega⟩ _ ⟨by omega, by omega, by omega⟩ g hg hgb) dX12_calmed_0.2.2.1.1 (Nat.le_of_ble_eq_true rfl) rfl ?_
  rintro r17 z17 ⟨hz17, p17⟩; subst z17
  have mx := mir_i (v := x3) (n := κ 0 11) ⟨by omega, by omega⟩
  have my := mir_i (v := x4) (n := κ 0 12) ⟨by omega, by omega⟩
  rw [mx, my] at p17
  refine zW_iload (pc' := 22) dX12_calmed_0.2.2.1.2 rfl rfl ?_
  refine zW_isub (pc' := 23) dX12_calmed_0.2.2.2.1 rfl ?_
  refine zW_istore (ls' := [_, _, _, _, _, _, _, _, _, _]) (pc' := 25) dX12_calmed_0.2.2.2.2 (by decide) rfl rfl rfl ?_
  refine zW_bipush (pc' := 27) dX12_calmed_1.1.1.1.1 rfl rfl ?_
  refine zW_iload (pc' := 29) dX12_calmed_1.1.1.1.2 rfl rfl ?_
  refine zW_imul (pc' := 30) dX12_calmed_1.1.1.2.1 rfl ?_
  refine zW_iload (pc' := 32) dX12_calmed_1.1.1.2.2 rfl rfl ?_
  refine zW_iload (pc' := 34) dX12_calmed_1.1.2.1.1 rfl rfl ?_
  refine zW_imul (pc' := 35) dX12_calmed_1.1.2.1.2 rfl ?_
  have q34 := mulq (a := x6) (b := r6) (A := 255) (B := 4095) ⟨by omega, by omega⟩ ⟨by omega, by omega⟩
  refine zW_bipush (pc' := 37) dX12_calmed_1.1.2.2.1 rfl rfl ?_
  refine zW_idiv (pc' := 38) (by omega) (by omega) dX12_calmed_1.1.2.2.2 rfl ?_
  refine zW_iadd (pc' := 39) dX12_calmed_1.2.1.1.1 rfl ?_
  refine zW_istore (ls' := [_, _, _, _, _, _, _, _, _, _]) (pc' := 41) dX12_calmed_1.2.1.1.2 (by decide) rfl rfl rfl ?_
  refine zW_iload (pc' := 43) dX12_calmed_1.2.1.2.1 rfl rfl ?_
  refine csI1 (pc' := 46) kX12_size vX12_size lk_X12_257 ⟨Nat.le_of_ble_eq_true rfl, Nat.le_of_ble_eq_true rfl⟩ rfl (s_X12_sizeR hF _ ⟨by omega, by omega⟩) dX12_calmed_1.2.1.2.2 (Nat.le_of_ble_eq_true rfl) rfl ?_
  rintro r43 z43 ⟨hz43, p43⟩; subst z43
  refine zW_iload (pc' := 48) dX12_calmed_1.2.2.1.1 rfl rfl ?_
  refine zV_cm_gt (tgt := 54) (pc' := 51) dX12_calmed_1.2.2.1.2 rfl rfl ⟨by omega, by omega⟩ ⟨by omega, by omega⟩ (fun c48 => ?_) (fun c48 => ?_)
  · refine zW_iload (pc' := 56) dX12_calmed_2.1.1.1.1 rfl rfl ?_
    refine zW_iload (pc' := 58) dX12_calmed_2.1.1.1.2 rfl rfl ?_
    refine zV_if_le (tgt := 69) (pc' := 61) dX12_calmed_2.1.1.2 rfl rfl ⟨by omega, by omega⟩ (fun c58 => ?_) (fun c58 => ?_)
    · refine zW_iload (pc' := 71) dX12_calmed_2.2.1.1.2 rfl rfl ?_
      refine zW_iload (pc' := 73) dX12_calmed_2.2.1.2 rfl rfl ?_
      refine zW_iadd (pc' := 74) dX12_calmed_2.2.2.1.1 rfl ?_
      refine zW_iadd (pc' := 75) dX12_calmed_2.2.2.1.2 rfl ?_
      exact zV_iret rfl dX12_calmed_2.2.2.2 ⟨rfl, (by have z := abc (r17 - r6); refine ⟨by omega, by omega, ?_⟩; rw [← p17.2.2, ← p6.2.2]; unfold clm; rw [if_neg (by omega)]; first | (rw [if_pos (by omega)]) | (rw [if_neg (by omega)]))⟩
    · refine zW_iload (pc' := 63) dX12_calmed_2.1.2.1.1 rfl rfl ?_
      refine zW_iload (pc' := 65) dX12_calmed_2.1.2.1.2 rfl rfl ?_
      refine zW_isub (pc' := 66) dX12_calmed_2.1.2.2 rfl ?_
      refine zV_goto 74 dX12_calmed_2.2.1.1.1 rfl ?_
      refine zW_iadd (pc' := 75) dX12_calmed_2.2.2.1.2 rfl ?_
      exact zV_iret rfl dX12_calmed_2.2.2.2 ⟨rfl, (by have z := abc (r17 - r6); refine ⟨by omega, by omega, ?_⟩; rw [← p17.2.2, ← p6.2.2]; unfold clm; rw [if_neg (by omega)]; first | (rw [if_pos (by omega)]) | (rw [if_neg (by omega)]))⟩
  · refine zW_iload (pc' := 53) dX12_calmed_1.2.2.2.1 rfl rfl ?_
    exact zV_iret rfl dX12_calmed_1.2.2.2.2 ⟨rfl, (by have z := abc (r17 - r6); refine ⟨by omega, by omega, ?_⟩; rw [← p17.2.2, ← p6.2.2]; unfold clm; rw [if_pos (by omega)])⟩

abbrev q_X12_sharpenedZ (κ h : Hp) (x1 : Int) (x2 : Int) (x3 : Int) (x4 : Int) (x5 : Int) (x6 : Int) (g : Int → Int → Int) : Int → Hp → Prop := fun r h' => h' = h ∧ ((-10000 ≤ r) ∧ (r ≤ 20000) ∧ (r = shp (g x3 x4) (blr (κ 0 11) (κ 0 12) g x3 x4) x5 x6))
set_option maxHeartbeats 4000000 in
set_option maxRecDepth 20000 in
theorem s_X12_sharpenedZ {G : Ga} {b : Bd} {κ h : Hp} (hK : KR κ) (hF : Fr b κ h) (x1 : Int) (hx1 : 0 ≤ x1 ∧ x1 ≤ 14) (x2 : Int) (hx2 : 0 ≤ x2 ∧ x2 ≤ 2) (x3 : Int) (hx3 : 0 ≤ x3 ∧ x3 ≤ 15 ∧ x3 - κ 0 11 ≤ -1) (x4 : Int) (hx4 : 0 ≤ x4 ∧ x4 ≤ 15 ∧ x4 - κ 0 12 ≤ -1) (x5 : Int) (hx5 : 0 ≤ x5 ∧ x5 ≤ 255) (x6 : Int) (hx6 : 0 ≤ x6 ∧ x6 ≤ 255) (g : Int → Int → Int) (hg : Pl17 κ (h 17) x1 x2 g) (hgb : FB (κ 0 11) (κ 0 12) g) : zM G mX12_sharpened yX12_sharpened [.inr (.inr 0), .inl x1, .inl x2, .inl x3, .inl x4, .inl x5, .inl x6] h (q_X12_sharpenedZ κ h x1 x2 x3 x4 x5 x6 g) := by
  have f_0_11 := KRw hK
  have f_0_12 := KRh hK
  refine zM_of [some (.inr (.inr 0)), some (.inl x1), some (.inl x2), some (.inl x3), some (.inl x4), some (.inl x5), some (.inl x6), none] 1 rfl rfl (Nat.le_of_ble_eq_true rfl) rfl ?_
  refine zW_aload_n (pc' := 1) dX12_sharpened_0.1.1.1.1 rfl rfl ?_
  refine zW_iload_n (pc' := 2) dX12_sharpened_0.1.1.1.2 rfl rfl ?_
  refine zW_iload_n (pc' := 3) dX12_sharpened_0.1.1.2.1 rfl rfl ?_
  refine zW_iload_n (pc' := 4) dX12_sharpened_0.1.1.2.2 rfl rfl ?_
  refine zW_iload (pc' := 6) dX12_sharpened_0.1.2.1.1 rfl rfl ?_
  refine cvI4 (pc' := 9) kX12_at vX12_at lk_X12_277 ⟨Nat.le_of_ble_eq_true rfl, Nat.le_of_ble_eq_true rfl⟩ tb0 vq12 rfl rfl (s_X12_atZ hK hF _ ⟨by omega, by omega⟩ _ ⟨by omega, by omega⟩ _ ⟨by omega, by omega, by omega⟩ _ ⟨by omega, by omega, by omega⟩ g hg hgb) dX12_sharpened_0.1.2.1.2 (Nat.le_of_ble_eq_true rfl) rfl ?_
  rintro r6 z6 ⟨hz6, p6⟩; subst z6
  refine zW_aload_n (pc' := 10) dX12_sharpened_0.1.2.2.1 rfl rfl ?_
  refine zW_iload_n (pc' := 11) dX12_sharpened_0.1.2.2.2 rfl rfl ?_
  refine zW_iload_n (pc' := 12) dX12_sharpened_0.2.1.1.1 rfl rfl ?_
  refine zW_iload_n (pc' := 13) dX12_sharpened_0.2.1.1.2 rfl rfl ?_
  refine zW_iload (pc' := 15) dX12_sharpened_0.2.1.2.1 rfl rfl ?_
  refine cvI4 (pc' := 18) kX12_blurAt vX12_blurAt lk_X12_319 ⟨Nat.le_of_ble_eq_true rfl, Nat.le_of_ble_eq_true rfl⟩ tb0 vq12 rfl rfl (s_X12_blurAtZ hK hF _ ⟨by omega, by omega⟩ _ ⟨by omega, by omega⟩ _ ⟨by omega, by omega, by omega⟩ _ ⟨by omega, by omega, by omega⟩ g hg hgb) dX12_sharpened_0.2.1.2.2 (Nat.le_of_ble_eq_true rfl) rfl ?_
  rintro r15 z15 ⟨hz15, p15⟩; subst z15
  have mx := mir_i (v := x3) (n := κ 0 11) ⟨by omega, by omega⟩
  have my := mir_i (v := x4) (n := κ 0 12) ⟨by omega, by omega⟩
  rw [mx, my] at p6
  refine zW_isub (pc' := 19) dX12_sharpened_0.2.2.1.1 rfl ?_
  refine zW_iload (pc' := 21) dX12_sharpened_0.2.2.1.2 rfl rfl ?_
  refine zW_imul (pc' := 22) dX12_sharpened_0.2.2.2.1 rfl ?_
  have q21 := mulS (a := r6 - r15) (b := x5) (A := 4095) (B := 255) ⟨by omega, by omega⟩ ⟨by omega, by omega⟩
  refine zW_bipush (pc' := 24) dX12_sharpened_0.2.2.2.2 rfl rfl ?_
  refine zW_idivS (pc' := 25) ⟨by omega, by omega⟩ (by omega) dX12_sharpened_1.1.1.1.1 rfl (fun v24 e24 => ?_)
  refine zW_istore (ls' := [_, _, _, _, _, _, _, _]) (pc' := 27) dX12_sharpened_1.1.1.1.2 (by decide) rfl rfl rfl ?_
  refine zW_aload_n (pc' := 28) dX12_sharpened_1.1.1.2.1 rfl rfl ?_
  refine zW_iload_n (pc' := 29) dX12_sharpened_1.1.1.2.2 rfl rfl ?_
  refine zW_iload_n (pc' := 30) dX12_sharpened_1.1.2.1.1 rfl rfl ?_
  refine zW_iload_n (pc' := 31) dX12_sharpened_1.1.2.1.2 rfl rfl ?_
  refine zW_iload (pc' := 33) dX12_sharpened_1.1.2.2.1 rfl rfl ?_
  refine cvI4 (pc' := 36) kX12_at vX12_at lk_X12_277 ⟨Nat.le_of_ble_eq_true rfl, Nat.le_of_ble_eq_true rfl⟩ tb0 vq12 rfl rfl (s_X12_atZ hK hF _ ⟨by omega, by omega⟩ _ ⟨by omega, by omega⟩ _ ⟨by omega, by omega, by omega⟩ _ ⟨by omega, by omega, by omega⟩ g hg hgb) dX12_sharpened_1.1.2.2.2 (Nat.le_of_ble_eq_true rfl) rfl ?_
  rintro r33 z33 ⟨hz33, p33⟩; subst z33
  rw [mx, my] at p33
  refine zW_bipush (pc' := 38) dX12_sharpened_1.2.1.1.1 rfl rfl ?_
  refine zW_iload (pc' := 40) dX12_sharpened_1.2.1.1.2 rfl rfl ?_
  refine zW_imul (pc' := 41) dX12_sharpened_1.2.1.2.1 rfl ?_
  refine zW_bipush (pc' := 43) dX12_sharpened_1.2.1.2.2 rfl rfl ?_
  refine zW_iload (pc' := 45) dX12_sharpened_1.2.2.1.1 rfl rfl ?_
  refine zW_imul (pc' := 46) dX12_sharpened_1.2.2.1.2 rfl ?_
  refine zW_iload (pc' := 48) dX12_sharpened_1.2.2.2.1 rfl rfl ?_
  refine csI2 (pc' := 51) kX12_min vX12_min lk_X12_109 ⟨Nat.le_of_ble_eq_true rfl, Nat.le_of_ble_eq_true rfl⟩ rfl (s_X12_minR hF _ ⟨by omega, by omega⟩ _ ⟨by omega, by omega⟩) dX12_sharpened_1.2.2.2.2 (Nat.le_of_ble_eq_true rfl) rfl ?_
  rintro r48 z48 ⟨hz48, p48⟩; subst z48
  refine csI2 (pc' := 54) kX12_max vX12_max lk_X12_113 ⟨Nat.le_of_ble_eq_true rfl, Nat.le_of_ble_eq_true rfl⟩ rfl (s_X12_maxR hF _ ⟨by omega, by omega⟩ _ ⟨by omega, by omega⟩) dX12_sharpened_2.1.1 (Nat.le_of_ble_eq_true rfl) rfl ?_
  rintro r51 z51 ⟨hz51, p51⟩; subst z51
  refine zW_iadd (pc' := 55) dX12_sharpened_2.1.2 rfl ?_
  exact zV_iret rfl dX12_sharpened_2.2 ⟨rfl, (by have td := tdc (a := (r6 - r15) * x5) (d := 16) (by omega); refine ⟨by omega, by omega, ?_⟩; rw [← p15.2.2, ← p6.2.2]; unfold shp; rw [show ((r6 - r15) * x5).tdiv 16 = v24 by omega]; have z1 := min2c (16 * x6) v24; have z2 := max2c (-16 * x6) (min2 (16 * x6) v24); omega)⟩

abbrev q_X12_paledZ (κ h : Hp) (x1 : Int) (x2 : Int) (x3 : Int) (x4 : Int) (x5 : Int) (F : P3) : Int → Hp → Prop := fun r h' => h' = h ∧ ((0 ≤ r) ∧ (r ≤ 16773120) ∧ (r = pal (F x2 x3 x4) (mx3 F x3 x4) x5))
set_option maxHeartbeats 4000000 in
set_option maxRecDepth 20000 in
theorem s_X12_paledZ {G : Ga} {b : Bd} {κ h : Hp} (hK : KR κ) (hF : Fr b κ h) (x1 : Int) (hx1 : 0 ≤ x1 ∧ x1 ≤ 14) (x2 : Int) (hx2 : 0 ≤ x2 ∧ x2 ≤ 2) (x3 : Int) (hx3 : 0 ≤ x3 ∧ x3 ≤ 15 ∧ x3 - κ 0 11 ≤ -1) (x4 : Int) (hx4 : 0 ≤ x4 ∧ x4 ≤ 15 ∧ x4 - κ 0 12 ≤ -1) (x5 : Int) (hx5 : 0 ≤ x5 ∧ x5 ≤ 255) (F : P3) (hF3 : Fu17 κ (h 17) x1 F) (hb3 : FB3 (κ 0 11) (κ 0 12) F) : zM G mX12_paled yX12_paled [.inr (.inr 0), .inl x1, .inl x2, .inl x3, .inl x4, .inl x5] h (q_X12_paledZ κ h x1 x2 x3 x4 x5 F) := by
  have f_0_11 := KRw hK
  have f_0_12 := KRh hK
  refine zM_of [some (.inr (.inr 0)), some (.inl x1), some (.inl x2), some (.inl x3), some (.inl x4), some (.inl x5), none, none] 2 rfl rfl (Nat.le_of_ble_eq_true rfl) rfl ?_
  refine zW_aload_n (pc' := 1) dX12_paled_0.1.1.1.1 rfl rfl ?_
  refine zW_iload_n (pc' := 2) dX12_paled_0.1.1.1.2 rfl rfl ?_
  refine zW_iload_n (pc' := 3) dX12_paled_0.1.1.2.1 rfl rfl ?_
  refine zW_iload (pc' := 5) dX12_paled_0.1.1.2.2 rfl rfl ?_
  refine cvI3 (pc' := 8) kX12_greatest vX12_greatest lk_X12_295 ⟨Nat.le_of_ble_eq_true rfl, Nat.le_of_ble_eq_true rfl⟩ tb0 vq12 rfl rfl (s_X12_greatestZ hK hF _ ⟨by omega, by omega⟩ _ ⟨by omega, by omega, by omega⟩ _ ⟨by omega, by omega, by omega⟩ F (by omega) (by omega)) dX12_paled_0.1.2.1.1 (Nat.le_of_ble_eq_true rfl) rfl ?_
  rintro r5 z5 ⟨hz5, p5⟩; subst z5
  refine zW_istore (ls' := [_, _, _, _, _, _, _, _]) (pc' := 10) dX12_paled_0.1.2.1.2 (by decide) rfl rfl rfl ?_
  refine zW_aload_n (pc' := 11) dX12_paled_0.1.2.2.1 rfl rfl ?_
  refine zW_iload_n (pc' := 12) dX12_paled_0.1.2.2.2 rfl rfl ?_
  refine zW_iload_n (pc' := 13) dX12_paled_0.2.1.1.1 rfl rfl ?_
  refine zW_iload_n (pc' := 14) dX12_paled_0.2.1.1.2 rfl rfl ?_
  refine zW_iload (pc' := 16) dX12_paled_0.2.1.2.1 rfl rfl ?_
  refine cvI4 (pc' := 19) kX12_at vX12_at lk_X12_277 ⟨Nat.le_of_ble_eq_true rfl, Nat.le_of_ble_eq_true rfl⟩ tb0 vq12 rfl rfl (s_X12_atZ hK hF _ ⟨by omega, by omega⟩ _ ⟨by omega, by omega⟩ _ ⟨by omega, by omega, by omega⟩ _ ⟨by omega, by omega, by omega⟩ (F x2) (hF3 x2 (by omega)) (hb3 x2 (by omega))) dX12_paled_0.2.1.2.2 (Nat.le_of_ble_eq_true rfl) rfl ?_
  rintro r16 z16 ⟨hz16, p16⟩; subst z16
  refine zW_istore (ls' := [_, _, _, _, _, _, _, _]) (pc' := 21) dX12_paled_0.2.2.1.1 (by decide) rfl rfl rfl ?_
  have mx := mir_i (v := x3) (n := κ 0 11) ⟨by omega, by omega⟩
  have my := mir_i (v := x4) (n := κ 0 12) ⟨by omega, by omega⟩
  rw [mx, my] at p5 p16
  have z1 := max2c (F 1 x3 x4) (F 2 x3 x4)
  have z2 := max2c (F 0 x3 x4) (max2 (F 1 x3 x4) (F 2 x3 x4))
  have hle : r16 ≤ r5 := by (have e := p5.2.2; unfold mx3 at e; rcases (by omega : x2 = 0 ∨ x2 = 1 ∨ x2 = 2) with q | q | q <;> (rw [q] at p16; omega))
  refine zW_iload (pc' := 23) dX12_paled_0.2.2.1.2 rfl rfl ?_
  refine zW_bipush (pc' := 25) dX12_paled_0.2.2.2.1 rfl rfl ?_
  refine zW_iload (pc' := 27) dX12_paled_0.2.2.2.2 rfl rfl ?_
  refine zW_imul (pc' := 28) dX12_paled_1.1.1.1.1 rfl ?_
  refine zV_cm_gt (tgt := 36) (pc' := 31) dX12_paled_1.1.1.1.2 rfl rfl ⟨by omega, by omega⟩ ⟨by omega, by omega⟩ (fun c28 => ?_) (fun c28 => ?_)
  · refine zW_iload (pc' := 38) dX12_paled_1.1.2.1.1 rfl rfl ?_
    refine zW_iload (pc' := 40) dX12_paled_1.1.2.1.2 rfl rfl ?_
    refine zW_iload (pc' := 42) dX12_paled_1.1.2.2.1 rfl rfl ?_
    refine zW_isub (pc' := 43) dX12_paled_1.1.2.2.2 rfl ?_
    refine zW_iload (pc' := 45) dX12_paled_1.2.1.1.1 rfl rfl ?_
    refine zW_bipush (pc' := 47) dX12_paled_1.2.1.1.2 rfl rfl ?_
    refine zW_iload (pc' := 49) dX12_paled_1.2.1.2.1 rfl rfl ?_
    refine zW_imul (pc' := 50) dX12_paled_1.2.1.2.2 rfl ?_
    refine zW_isub (pc' := 51) dX12_paled_1.2.2.1.1 rfl ?_
    refine zW_imul (pc' := 52) dX12_paled_1.2.2.1.2 rfl ?_
    have q51 := mulq (a := r5 - r16) (b := r5 - 16 * x5) (A := 4095) (B := 4095) ⟨by omega, by omega⟩ ⟨by omega, by omega⟩
    refine zW_sipush (pc' := 55) dX12_paled_1.2.2.2.1 rfl rfl ?_
    refine zW_bipush (pc' := 57) dX12_paled_1.2.2.2.2 rfl rfl ?_
    refine zW_iload (pc' := 59) dX12_paled_2.1.1.1 rfl rfl ?_
    refine zW_imul (pc' := 60) dX12_paled_2.1.1.2 rfl ?_
    refine zW_isub (pc' := 61) dX12_paled_2.1.2 rfl ?_
    refine zW_idivX (pc' := 62) ⟨by omega, by omega⟩ ⟨by omega, by omega⟩ dX12_paled_2.2.1.1 rfl (fun v61 t61 e61 => ?_)
    unfold rng at e61
    have td := tdb2 (a := (r5 - r16) * (r5 - 16 * x5)) (d := 4095 - 16 * x5) (by omega) q51.1
    rw [← t61] at td
    refine zW_iadd (pc' := 63) dX12_paled_2.2.1.2 rfl ?_
    exact zV_iret rfl dX12_paled_2.2.2 ⟨rfl, (by refine ⟨by omega, by omega, ?_⟩; rw [← p16.2.2, ← p5.2.2]; unfold pal; first | (rw [if_pos (by omega)]) | (rw [if_neg (by omega), t61]))⟩
  · refine zW_iload (pc' := 33) dX12_paled_1.1.1.2.1 rfl rfl ?_
    refine zV_goto 63 dX12_paled_1.1.1.2.2 rfl ?_
    exact zV_iret rfl dX12_paled_2.2.2 ⟨rfl, (by refine ⟨by omega, by omega, ?_⟩; rw [← p16.2.2, ← p5.2.2]; unfold pal; first | (rw [if_pos (by omega)]) | (rw [if_neg (by omega), t61]))⟩
