/-! what late stages of the class gather first -/

/-! blocks -/
def bkT (W H : Int) (t : Int → Int → Int) (x0 y0 u v : Int) : Int := if 0 ≤ x0 + u ∧ x0 + u < W ∧ 0 ≤ y0 + v ∧ y0 + v < H then t (x0 + u) (y0 + v) else 0
def bsF (W H : Int) (F : P3) (s x y : Int) : Int := sumS (bkT W H (lgt F) (x / s * s) (y / s * s)) s.toNat s.toNat / sumS (bkT W H (fun _ _ => 1) (x / s * s) (y / s * s)) s.toNat s.toNat
theorem sumR_ext {t : Int → Int → Int} {y : Int} {m : Nat} : ∀ k : Nat, (∀ x : Int, m ≤ x → x < m + k → t x y = 0) → sumR t y (m + k) = sumR t y m
  | 0, _ => rfl
  | k + 1, h => by
    show sumR t y (m + k) + t ((m + k : Nat) : Int) y = _
    rw [sumR_ext k (fun x h1 h2 => h x h1 (by omega)), h _ (by omega) (by omega), Int.add_zero]
theorem sumR_zero {t : Int → Int → Int} {y : Int} : ∀ k : Nat, (∀ x : Int, 0 ≤ x → x < k → t x y = 0) → sumR t y k = 0
  | 0, _ => rfl
  | k + 1, h => by
    show sumR t y k + t k y = 0
    rw [sumR_zero k (fun x h1 h2 => h x h1 (by omega)), h _ (by omega) (by omega)]; rfl
theorem sumS_ext {t : Int → Int → Int} {w m : Nat} : ∀ k : Nat, (∀ x y : Int, 0 ≤ x → x < w → m ≤ y → y < m + k → t x y = 0) → sumS t w (m + k) = sumS t w m
  | 0, _ => rfl
  | k + 1, h => by
    show sumS t w (m + k) + sumR t ((m + k : Nat) : Int) w = _
    rw [sumS_ext k (fun x y h1 h2 h3 h4 => h x y h1 h2 h3 (by omega)), sumR_zero w (fun x h1 h2 => h x _ h1 h2 (by omega) (by omega)), Int.add_zero]
theorem sumS_w {t : Int → Int → Int} {m k : Nat} : ∀ n : Nat, (∀ x y : Int, m ≤ x → x < m + k → 0 ≤ y → y < n → t x y = 0) → sumS t (m + k) n = sumS t m n
  | 0, _ => rfl
  | n + 1, h => by
    show sumS t (m + k) n + sumR t n (m + k) = sumS t m n + sumR t n m
    rw [sumS_w n (fun x y h1 h2 h3 h4 => h x y h1 h2 h3 (by omega)), sumR_ext k (fun x h1 h2 => h x n h1 h2 (by omega) (by omega))]
theorem sumS_one {w : Nat} : ∀ n : Nat, sumS (fun _ _ => (1 : Int)) w n = (w : Int) * n
  | 0 => by show (0 : Int) = _ * 0; omega
  | n + 1 => by
    have r : ∀ w : Nat, sumR (fun _ _ => (1 : Int)) n w = w := fun w => by
      induction w with
      | zero => rfl
      | succ w ih => show sumR _ _ w + 1 = _; rw [ih]; omega
    show sumS _ w n + sumR _ _ w = _
    rw [sumS_one n, r w, Int.natCast_add, Int.mul_add]; omega
/-- a block's sum over what of it lies in the picture -/
theorem bk_sum {W H x0 y0 s e d : Int} {t : Int → Int → Int} (h0 : 0 ≤ x0 ∧ x0 < W) (h1 : 0 ≤ y0 ∧ y0 < H) (he : e = min2 W (x0 + s) - x0) (hd : d = min2 H (y0 + s) - y0) (hs : 1 ≤ s) : sumS (bkT W H t x0 y0) s.toNat s.toNat = sumS (fun u v => t (x0 + u) (y0 + v)) e.toNat d.toNat := by
  have z1 := min2c W (x0 + s)
  have z2 := min2c H (y0 + s)
  have a : s.toNat = e.toNat + (s - e).toNat := by omega
  have c : s.toNat = d.toNat + (s - d).toNat := by omega
  have s1 : sumS (bkT W H t x0 y0) s.toNat s.toNat = sumS (bkT W H t x0 y0) e.toNat s.toNat := by
    have q := sumS_w (t := bkT W H t x0 y0) (m := e.toNat) (k := (s - e).toNat) s.toNat (fun x y g1 g2 g3 g4 => by unfold bkT; rw [if_neg]; intro k; obtain ⟨_, k2, _, _⟩ := k; omega)
    rw [show e.toNat + (s - e).toNat = s.toNat by omega] at q; exact q
  have s2 : sumS (bkT W H t x0 y0) e.toNat s.toNat = sumS (bkT W H t x0 y0) e.toNat d.toNat := by
    have q := sumS_ext (t := bkT W H t x0 y0) (w := e.toNat) (m := d.toNat) (s - d).toNat (fun x y g1 g2 g3 g4 => by unfold bkT; rw [if_neg]; intro k; obtain ⟨_, _, _, k4⟩ := k; omega)
    rw [show d.toNat + (s - d).toNat = s.toNat by omega] at q; exact q
  rw [s1, s2]
  exact sumS_cong _ (fun x y g1 g2 g3 g4 => by unfold bkT; rw [if_pos ⟨by omega, by omega, by omega, by omega⟩])
def Bs2 (s : Int) : Prop := s = 1 ∨ s = 2 ∨ s = 4 ∨ s = 8 ∨ s = 16
theorem bk_in {s x0 u : Int} (hs : Bs2 s) (h0 : x0 % s = 0) (h1 : x0 ≤ u) (h2 : u < x0 + s) : u / s * s = x0 := by
  rcases hs with rfl | rfl | rfl | rfl | rfl <;> omega
theorem bk_nx {s x0 : Int} (hs : Bs2 s) (h0 : x0 % s = 0) : (x0 + s) % s = 0 := by
  rcases hs with rfl | rfl | rfl | rfl | rfl <;> omega
/-- a region of a plane is laid -/
def Rg (W H : Int) (A : Nat → Int) (B : Int → Int → Int) (R : Int → Int → Prop) : Prop := ∀ u v : Int, inP W H u v → R u v → A (16 * v + u).toNat = B u v
theorem Rg.nx {W H : Int} {h : Hp} {l : Nat} {B : Int → Int → Int} {R R' : Int → Int → Prop} {x y i val : Int} (hW : W ≤ 16) (hp : inP W H x y) (r : Rg W H (h l) B R) (hi : i = 16 * y + x) (hv : val = B x y) (hR : ∀ u v, R' u v → R u v ∨ (u = x ∧ v = y)) : Rg W H (zwr h l i.toNat val l) B R' := fun u v h1 h2 => by
  obtain ⟨k1, k2, k3, k4⟩ := h1
  obtain ⟨g1, g2, g3, g4⟩ := hp
  by_cases e : u = x ∧ v = y
  · rw [e.1, e.2, ← hi, zwr_eq]; exact hv
  · rw [zwr_ne (Or.inr (by omega))]
    exact r u v ⟨k1, k2, k3, k4⟩ ((hR u v h2).resolve_right e)
theorem Rg.sub {W H : Int} {A : Nat → Int} {B : Int → Int → Int} {R R' : Int → Int → Prop} (r : Rg W H A B R) (hR : ∀ u v, inP W H u v → R' u v → R u v) : Rg W H A B R' := fun u v h1 h2 => r u v h1 (hR u v h1 h2)
abbrev RgB (s x0 y0 u v : Int) : Prop := v < y0 ∨ (v < y0 + s ∧ u < x0)
abbrev RgC (s x0 y0 a b u v : Int) : Prop := v < y0 ∨ (v < y0 + s ∧ u < x0) ∨ (x0 ≤ u ∧ u < x0 + s ∧ (v < b ∨ (v = b ∧ u < a)))

def evF (W H : Int) (F : P3) (k n : Int) (c x y : Int) : Int := clp (F c x y + ((mnL W H F - bsF W H F (2 ^ k.toNat) x y) * n).tdiv 16)
theorem bsF_b {W H : Int} {F : P3} (hF : FB3 W H F) {s x y : Int} (hs : 0 ≤ s ∧ s ≤ 16) : 0 ≤ bsF W H F s x y ∧ bsF W H F s x y ≤ 1048320 := by
  have b1 := sumS_b (t := bkT W H (lgt F) (x / s * s) (y / s * s)) (w := s.toNat) (B := 4095) s.toNat (fun u v _ _ _ _ => by
    unfold bkT
    split
    · rename_i h; exact lgt_b hF h
    · omega)
  have b2 := sumS_b (t := bkT W H (fun _ _ => 1) (x / s * s) (y / s * s)) (w := s.toNat) (B := 1) s.toNat (fun u v _ _ _ _ => by
    unfold bkT
    split
    · exact ⟨by show (0 : Int) ≤ 1; omega, by show (1 : Int) ≤ 1; omega⟩
    · omega)
  have m := mulq (a := 4095 * (s.toNat : Int)) (b := (s.toNat : Int)) (A := 65520) (B := 16) ⟨by omega, by omega⟩ ⟨by omega, by omega⟩
  have d := Int.ediv_le_self (a := sumS (bkT W H (lgt F) (x / s * s) (y / s * s)) s.toNat s.toNat) (sumS (bkT W H (fun _ _ => 1) (x / s * s) (y / s * s)) s.toNat s.toNat) b1.1
  unfold bsF
  exact ⟨Int.ediv_nonneg b1.1 b2.1, by omega⟩
theorem p2_b {k : Int} (h : 0 ≤ k ∧ k ≤ 4) : (0 : Int) ≤ 2 ^ k.toNat ∧ (2 : Int) ^ k.toNat ≤ 16 := by
  rcases (by omega : k = 0 ∨ k = 1 ∨ k = 2 ∨ k = 3 ∨ k = 4) with rfl | rfl | rfl | rfl | rfl <;> exact ⟨by decide, by decide⟩

abbrev q_X3_findWhiteZ (b : Bd) (κ : Hp) (s1 : Nat) (x2 : Int) (F : P3) (gh0 : Hp) : Int → Hp → Prop := fun r h' => Fr b κ h' ∧ ((Fw [] [(87, 0), (87, 1), (87, 2)] gh0 h') ∧ (h' 87 2 = whK (κ 33 0) (κ 33 1) F x2 (fun _ _ => 1) ∧ h' 87 0 = gnR (κ 33 0) (κ 33 1) F x2 0 ∧ h' 87 1 = gnR (κ 33 0) (κ 33 1) F x2 2))
set_option maxHeartbeats 4000000 in
set_option maxRecDepth 20000 in
theorem s_X3_findWhiteZ {G : Ga} {b : Bd} {κ h : Hp} (hK : KC κ) (hF : Fr b κ h) (s1 : Nat) (hs1 : 56 ≤ s1 ∧ s1 ≤ 70) (x2 : Int) (hx2 : 0 ≤ x2 ∧ x2 ≤ 255) (F : P3) (gh0 : Hp) (hF3 : FuS (κ 33 0) (κ 33 1) (h (s1 + 15)) F) (hb3 : FB3 (κ 33 0) (κ 33 1) F) (hgh : Fw [] [(87, 0), (87, 1), (87, 2)] gh0 h) : zM G mX3_findWhite yX3_findWhite [.inr (.inr 87), .inr (.inr s1), .inl x2] h (q_X3_findWhiteZ b κ s1 x2 F gh0) := by
  have f_33_0 := KCw hK
  have f_33_1 := KCh hK
  have main : ∀ N : Nat, (∀ (v3 v4 v5 v6 : Int) (h : Hp), Fr b κ h → (0 ≤ v3 ∧ v3 ≤ 1024000) → (0 ≤ v4 ∧ v4 ≤ 1024000) → (0 ≤ v5 ∧ v5 ≤ 1024000) → (0 ≤ v6 ∧ v6 ≤ 16) → (v6 - κ 33 1 ≤ 0) → (0 ≤ h 87 2 ∧ h 87 2 ≤ 16 * v6) → (64 * h 87 2 ≤ v3 ∧ v3 ≤ 4000 * h 87 2) → (64 * h 87 2 ≤ v4 ∧ v4 ≤ 4000 * h 87 2) → (64 * h 87 2 ≤ v5 ∧ v5 ≤ 4000 * h 87 2) → (h 87 2 = sumS (gyT F x2 (fun _ _ => 1)) (κ 33 0).toNat v6.toNat) → (v3 = sumS (gyT F x2 (F 0)) (κ 33 0).toNat v6.toNat) → (v4 = sumS (gyT F x2 (F 1)) (κ 33 0).toNat v6.toNat) → (v5 = sumS (gyT F x2 (F 2)) (κ 33 0).toNat v6.toNat) → (FuS (κ 33 0) (κ 33 1) (h (s1 + 15)) F) → (Fw [] [(87, 0), (87, 1), (87, 2)] gh0 h) → 98901000 + 74250 * (16 - v6) + 73260 < (N : Int) → zV G mX3_findWhite (q_X3_findWhiteZ b κ s1 x2 F gh0) 16 [some (.inr (.inr 87)), some (.inr (.inr s1)), some (.inl x2), some (.inl v3), some (.inl v4), some (.inl v5), some (.inl v6), none, none] [] h) ∧ (∀ (v3 v4 v5 v6 v7 : Int) (h : Hp), Fr b κ h → (0 ≤ v3 ∧ v3 ≤ 1024000) → (0 ≤ v4 ∧ v4 ≤ 1024000) → (0 ≤ v5 ∧ v5 ≤ 1024000) → (0 ≤ v6 ∧ v6 ≤ 15) → (v6 - κ 33 1 ≤ -1) → (0 ≤ v7 ∧ v7 ≤ 16) → (v7 - κ 33 0 ≤ 0) → (0 ≤ h 87 2 ∧ h 87 2 ≤ 16 * v6 + v7) → (64 * h 87 2 ≤ v3 ∧ v3 ≤ 4000 * h 87 2) → (64 * h 87 2 ≤ v4 ∧ v4 ≤ 4000 * h 87 2) → (64 * h 87 2 ≤ v5 ∧ v5 ≤ 4000 * h 87 2) → (h 87 2 = sumS (gyT F x2 (fun _ _ => 1)) (κ 33 0).toNat v6.toNat + sumR (gyT F x2 (fun _ _ => 1)) v6 v7.toNat) → (v3 = sumS (gyT F x2 (F 0)) (κ 33 0).toNat v6.toNat + sumR (gyT F x2 (F 0)) v6 v7.toNat) → (v4 = sumS (gyT F x2 (F 1)) (κ 33 0).toNat v6.toNat + sumR (gyT F x2 (F 1)) v6 v7.toNat) → (v5 = sumS (gyT F x2 (F 2)) (κ 33 0).toNat v6.toNat + sumR (gyT F x2 (F 2)) v6 v7.toNat) → (FuS (κ 33 0) (κ 33 1) (h (s1 + 15)) F) → (Fw [] [(87, 0), (87, 1), (87, 2)] gh0 h) → 98901000 + 74250 * (16 - v6) + 53460 + 55 * (16 - v7) + 54 < (N : Int) → zV G mX3_findWhite (q_X3_findWhiteZ b κ s1 x2 F gh0) 31 [some (.inr (.inr 87)), some (.inr (.inr s1)), some (.inl x2), some (.inl v3), some (.inl v4), some (.inl v5), some (.inl v6), some (.inl v7), none] [] h) := by
    intro N
    induction N with
    | zero =>
      refine ⟨?_, ?_⟩
      · intro v3 v4 v5 v6 h hF g0 g1 g2 g3 g4 gc0 gc1 gc2 gc3 gc4 gc5 gc6 gc7 hF3 hgh hm
        exfalso; omega
      · intro v3 v4 v5 v6 v7 h hF g0 g1 g2 g3 g4 g5 g6 gc0 gc1 gc2 gc3 gc4 gc5 gc6 gc7 hF3 hgh hm
        exfalso; omega
    | succ N ih =>
      obtain ⟨k16, k31⟩ := ih
      refine ⟨?_, ?_⟩
      · intro v3 v4 v5 v6 h hF g0 g1 g2 g3 g4 gc0 gc1 gc2 gc3 gc4 gc5 gc6 gc7 hF3 hgh hm
        refine zW_iload (pc' := 18) dX3_findWhite_0.2.1.2.2 rfl rfl ?_
        refine zW_aload_n (pc' := 19) dX3_findWhite_0.2.2.1.1 rfl rfl ?_
        refine zG_ref (pc' := 22) 33 fg_X3_23 tb87 rfl dX3_findWhite_0.2.2.1.2 rfl ?_
        refine zG_key (pc' := 25) hF rfl fg_X3_42 tb33 rfl dX3_findWhite_0.2.2.2.1 rfl ?_
        refine zV_cm_ge (tgt := 131) (pc' := 28) dX3_findWhite_0.2.2.2.2 rfl rfl ⟨by omega, by omega⟩ ⟨by omega, by omega⟩ (fun c25 => ?_) (fun c25 => ?_)
        · obtain ⟨y47, hy47⟩ : ∃ z : Int, z = h 87 2 := ⟨_, rfl⟩
          refine zW_aload_n (pc' := 132) dX3_findWhite_4.1.2.2.2 rfl rfl ?_
          refine zW_aload_n (pc' := 133) dX3_findWhite_4.2.1.1.1 rfl rfl ?_
          refine zW_iload (pc' := 135) dX3_findWhite_4.2.1.1.2 rfl rfl ?_
          refine zW_iload_n (pc' := 136) dX3_findWhite_4.2.1.2.1 rfl rfl ?_
          refine cvI2 (pc' := 139) kX3_gainOf vX3_gainOf lk_X3_70 ⟨Nat.le_of_ble_eq_true rfl, Nat.le_of_ble_eq_true rfl⟩ tb87 vq3 rfl rfl (s_X3_gainOfZ hF _ ⟨by omega, by omega⟩ _ ⟨by omega, by omega⟩ y47 (by omega)) dX3_findWhite_4.2.1.2.2 (Nat.le_of_ble_eq_true rfl) rfl ?_
          rintro r136 z136 ⟨hz136, p136⟩; subst z136
          refine zP_scf (pc' := 142) hF rfl fp_X3_73 tb87 rfl dX3_findWhite_4.2.2.1.1 rfl (fun h i139 hF a139 b139 w139 => ?_)
          replace b139 := b139 ⟨by omega, by omega⟩
          replace hgh : Fw [] [(87, 0), (87, 1), (87, 2)] gh0 h := by rw [w139]; exact hgh.wf (by simp)
          replace hF3 : FuS (κ 33 0) (κ 33 1) (h (s1 + 15)) F := by have q0_ := (congrFun w139 (s1 + 15)).trans (zfun (by omega)); rw [q0_]; exact hF3
          have z139 : h 87 2 = y47 := by rw [w139, hy47]; exact zwr_ne (Or.inr (by decide))
          refine zW_aload_n (pc' := 143) dX3_findWhite_4.2.2.1.2 rfl rfl ?_
          refine zW_aload_n (pc' := 144) dX3_findWhite_4.2.2.2.1 rfl rfl ?_
          refine zW_iload (pc' := 146) dX3_findWhite_4.2.2.2.2 rfl rfl ?_
          refine zW_iload (pc' := 148) dX3_findWhite_5.1.1 rfl rfl ?_
          refine cvI2 (pc' := 151) kX3_gainOf vX3_gainOf lk_X3_70 ⟨Nat.le_of_ble_eq_true rfl, Nat.le_of_ble_eq_true rfl⟩ tb87 vq3 rfl rfl (s_X3_gainOfZ hF _ ⟨by omega, by omega⟩ _ ⟨by omega, by omega⟩ y47 (by omega)) dX3_findWhite_5.1.2 (Nat.le_of_ble_eq_true rfl) rfl ?_
          rintro r148 z148 ⟨hz148, p148⟩; subst z148
          refine zP_scf (pc' := 154) hF rfl fp_X3_76 tb87 rfl dX3_findWhite_5.2.1 rfl (fun h i151 hF a151 b151 w151 => ?_)
          replace b151 := b151 ⟨by omega, by omega⟩
          replace hgh : Fw [] [(87, 0), (87, 1), (87, 2)] gh0 h := by rw [w151]; exact hgh.wf (by simp)
          replace hF3 : FuS (κ 33 0) (κ 33 1) (h (s1 + 15)) F := by have q0_ := (congrFun w151 (s1 + 15)).trans (zfun (by omega)); rw [q0_]; exact hF3
          exact zV_vret rfl dX3_findWhite_5.2.2 ⟨hF, ⟨hgh, (by have e6 : κ 33 1 = v6 := (by omega); have k4 : y47 = whK (κ 33 0) (κ 33 1) F x2 (fun _ _ => 1) := (by unfold whK; rw [e6, hy47]; exact gc4); have k5 : v3 = whK (κ 33 0) (κ 33 1) F x2 (F 0) := (by unfold whK; rw [e6]; exact gc5); have k6 : v4 = whK (κ 33 0) (κ 33 1) F x2 (F 1) := (by unfold whK; rw [e6]; exact gc6); have k7 : v5 = whK (κ 33 0) (κ 33 1) F x2 (F 2) := (by unfold whK; rw [e6]; exact gc7); have d46 : h 87 2 = y47 := (by rw [w151, zwr_ne (Or.inr (by decide))]; exact z139); have d44 : h 87 0 = i139 := (by rw [w151, zwr_ne (Or.inr (by decide)), w139]; exact zwr_eq); have d45 : h 87 1 = i151 := (by rw [w151]; exact zwr_eq); refine ⟨d46.trans k4, ?_, ?_⟩; (rw [d44, b139, p136.2.2]; unfold gnR; rw [← k4, ← k6, ← k5]); (rw [d45, b151, p148.2.2]; unfold gnR; rw [← k4, ← k6, ← k7]))⟩⟩
        · refine zW_iconst (pc' := 29) dX3_findWhite_1.1.1.1.1 rfl ?_
          refine zW_istore (ls' := [_, _, _, _, _, _, _, _, _]) (pc' := 31) dX3_findWhite_1.1.1.1.2 (by decide) rfl rfl rfl ?_
          exact k31 _ _ _ _ _ _ hF (by omega) (by omega) (by omega) (by omega) (by omega) (by omega) (by omega) (by omega) (by omega) (by omega) (by omega) (by first | (rw [sk, tk]; omega) | (rw [sk, show gyT F x2 (fun _ _ => 1) v7 v6 = 0 from if_neg (fun q => by have := p61.2.2.mpr q; omega)]; omega) | (rw [gc4]; exact (Int.add_zero _).symm)) (by first | (rw [sr, tr]; omega) | (rw [sr, show gyT F x2 (F 0) v7 v6 = 0 from if_neg (fun q => by have := p61.2.2.mpr q; omega)]; omega) | (rw [gc5]; exact (Int.add_zero _).symm)) (by first | (rw [sg, tg]; omega) | (rw [sg, show gyT F x2 (F 1) v7 v6 = 0 from if_neg (fun q => by have := p61.2.2.mpr q; omega)]; omega) | (rw [gc6]; exact (Int.add_zero _).symm)) (by first | (rw [sb, tb]; omega) | (rw [sb, show gyT F x2 (F 2) v7 v6 = 0 from if_neg (fun q => by have := p61.2.2.mpr q; omega)]; omega) | (rw [gc7]; exact (Int.add_zero _).symm)) hF3 hgh (by omega)
      · intro v3 v4 v5 v6 v7 h hF g0 g1 g2 g3 g4 g5 g6 gc0 gc1 gc2 gc3 gc4 gc5 gc6 gc7 hF3 hgh hm
        refine zW_iload (pc' := 33) dX3_findWhite_1.1.1.2.1 rfl rfl ?_
        refine zW_aload_n (pc' := 34) dX3_findWhite_1.1.1.2.2 rfl rfl ?_
        refine zG_ref (pc' := 37) 33 fg_X3_23 tb87 rfl dX3_findWhite_1.1.2.1.1 rfl ?_
        refine zG_key (pc' := 40) hF rfl fg_X3_48 tb33 rfl dX3_findWhite_1.1.2.1.2 rfl ?_
        refine zV_cm_ge (tgt := 125) (pc' := 43) dX3_findWhite_1.1.2.2.1 rfl rfl ⟨by omega, by omega⟩ ⟨by omega, by omega⟩ (fun c40 => ?_) (fun c40 => ?_)
        · have sk := sumS_s (t := gyT F x2 (fun _ _ => 1)) (w := (κ 33 0).toNat) (v := v6) (by omega)
          have sr := sumS_s (t := gyT F x2 (F 0)) (w := (κ 33 0).toNat) (v := v6) (by omega)
          have sg := sumS_s (t := gyT F x2 (F 1)) (w := (κ 33 0).toNat) (v := v6) (by omega)
          have sb := sumS_s (t := gyT F x2 (F 2)) (w := (κ 33 0).toNat) (v := v6) (by omega)
          refine zW_iinc (ls' := [_, _, _, _, _, _, _, _, _]) (pc' := 128) dX3_findWhite_4.1.2.1.2 rfl (by decide) rfl rfl rfl ?_
          refine zV_goto 16 dX3_findWhite_4.1.2.2.1 rfl ?_
          refine zV_clr 7 (ls' := [_, _, _, _, _, _, _, _, _]) rfl ?_
          exact k16 _ _ _ _ _ hF (by omega) (by omega) (by omega) (by omega) (by omega) (by omega) (by omega) (by omega) (by omega) (by first | rfl | (rw [z10]; rfl) | (rw [sk]; rw [show v7 = κ 33 0 from by omega] at gc4; exact gc4)) (by first | rfl | (rw [z10]; rfl) | (rw [sr]; rw [show v7 = κ 33 0 from by omega] at gc5; exact gc5)) (by first | rfl | (rw [z10]; rfl) | (rw [sg]; rw [show v7 = κ 33 0 from by omega] at gc6; exact gc6)) (by first | rfl | (rw [z10]; rfl) | (rw [sb]; rw [show v7 = κ 33 0 from by omega] at gc7; exact gc7)) hF3 hgh (by omega)
        · refine zW_iload (pc' := 45) dX3_findWhite_1.1.2.2.2 rfl rfl ?_
          refine zW_bipush (pc' := 47) dX3_findWhite_1.2.1.1.1 rfl rfl ?_
          refine zW_imul (pc' := 48) dX3_findWhite_1.2.1.1.2 rfl ?_
          refine zW_iload (pc' := 50) dX3_findWhite_1.2.1.2.1 rfl rfl ?_
          refine zW_iadd (pc' := 51) dX3_findWhite_1.2.1.2.2 rfl ?_
          refine zW_istore (ls' := [_, _, _, _, _, _, _, _, _]) (pc' := 53) dX3_findWhite_1.2.2.1.1 (by decide) rfl rfl rfl ?_
          have sk := sumR_s (t := gyT F x2 (fun _ _ => 1)) (y := v6) (v := v7) (by omega)
          have sr := sumR_s (t := gyT F x2 (F 0)) (y := v6) (v := v7) (by omega)
          have sg := sumR_s (t := gyT F x2 (F 1)) (y := v6) (v := v7) (by omega)
          have sb := sumR_s (t := gyT F x2 (F 2)) (y := v6) (v := v7) (by omega)
          refine zW_aload_n (pc' := 54) dX3_findWhite_1.2.2.1.2 rfl rfl ?_
          refine zW_aload_n (pc' := 55) dX3_findWhite_1.2.2.2.1 rfl rfl ?_
          refine zG_lev (pc' := 58) (by omega) (by omega) fg_X3_27 dX3_findWhite_1.2.2.2.2 rfl ?_
          refine zW_iload (pc' := 60) dX3_findWhite_2.1.1.1.1 rfl rfl ?_
          refine zW_iload_n (pc' := 61) dX3_findWhite_2.1.1.1.2 rfl rfl ?_
          refine cvI3 (pc' := 64) kX3_isGrey vX3_isGrey lk_X3_66 ⟨Nat.le_of_ble_eq_true rfl, Nat.le_of_ble_eq_true rfl⟩ tb87 vq3 rfl rfl (s_X3_isGreyZ hF _ ⟨by omega, by omega⟩ _ ⟨by omega, by omega⟩ _ ⟨by omega, by omega⟩ (κ 33 0) (κ 33 1) F v7 v6 hF3 hb3 ⟨by omega, by omega, by omega, by omega⟩ (by omega)) dX3_findWhite_2.1.1.2.1 (Nat.le_of_ble_eq_true rfl) rfl ?_
          rintro r61 z61 ⟨hz61, p61⟩; subst z61
          refine zV_if_eq (tgt := 119) (pc' := 67) dX3_findWhite_2.1.1.2.2 rfl rfl ⟨by omega, by omega⟩ (fun c64 => ?_) (fun c64 => ?_)
          · refine zW_iinc (ls' := [_, _, _, _, _, _, _, _, _]) (pc' := 122) dX3_findWhite_4.1.1.2.2 rfl (by decide) rfl rfl rfl ?_
            refine zV_goto 31 dX3_findWhite_4.1.2.1.1 rfl ?_
            refine zV_clr 8 (ls' := [_, _, _, _, _, _, _, _, _]) rfl ?_
            exact k31 _ _ _ _ _ _ hF (by omega) (by omega) (by omega) (by omega) (by omega) (by omega) (by omega) (by omega) (by omega) (by omega) (by omega) (by first | (rw [sk, tk]; omega) | (rw [sk, show gyT F x2 (fun _ _ => 1) v7 v6 = 0 from if_neg (fun q => by have := p61.2.2.mpr q; omega)]; omega) | (rw [gc4]; exact (Int.add_zero _).symm)) (by first | (rw [sr, tr]; omega) | (rw [sr, show gyT F x2 (F 0) v7 v6 = 0 from if_neg (fun q => by have := p61.2.2.mpr q; omega)]; omega) | (rw [gc5]; exact (Int.add_zero _).symm)) (by first | (rw [sg, tg]; omega) | (rw [sg, show gyT F x2 (F 1) v7 v6 = 0 from if_neg (fun q => by have := p61.2.2.mpr q; omega)]; omega) | (rw [gc6]; exact (Int.add_zero _).symm)) (by first | (rw [sb, tb]; omega) | (rw [sb, show gyT F x2 (F 2) v7 v6 = 0 from if_neg (fun q => by have := p61.2.2.mpr q; omega)]; omega) | (rw [gc7]; exact (Int.add_zero _).symm)) hF3 hgh (by omega)
          · obtain ⟨y46, hy46⟩ : ∃ z : Int, z = h 87 2 := ⟨_, rfl⟩
            have hgy : gy F x2 v7 v6 := p61.2.2.mp (by omega)
            refine zW_aload_n (pc' := 68) dX3_findWhite_2.1.2.1.1 rfl rfl ?_
            refine zW_dup (pc' := 69) dX3_findWhite_2.1.2.1.2 rfl rfl ?_
            refine zG_int (pc' := 72) fg_X3_63 tb87 rfl dX3_findWhite_2.1.2.2.1 rfl ?_
            refine zW_iconst (pc' := 73) dX3_findWhite_2.1.2.2.2 rfl ?_
            refine zW_iadd (pc' := 74) dX3_findWhite_2.2.1.1.1 rfl ?_
            refine zP_scf (pc' := 77) hF rfl fp_X3_63 tb87 rfl dX3_findWhite_2.2.1.1.2 rfl (fun h i74 hF a74 b74 w74 => ?_)
            replace b74 := b74 ⟨by omega, by omega⟩
            replace hgh : Fw [] [(87, 0), (87, 1), (87, 2)] gh0 h := by rw [w74]; exact hgh.wf (by simp)
            replace hF3 : FuS (κ 33 0) (κ 33 1) (h (s1 + 15)) F := by have q0_ := (congrFun w74 (s1 + 15)).trans (zfun (by omega)); rw [q0_]; exact hF3
            have z74 : h 87 2 = y46 + 1 := by rw [w74, zwr_eq, b74, hy46]
            have n1 := min2c (F 1 v7 v6) (F 2 v7 v6)
            have n2 := min2c (F 0 v7 v6) (min2 (F 1 v7 v6) (F 2 v7 v6))
            have x1_ := max2c (F 1 v7 v6) (F 2 v7 v6)
            have x2_ := max2c (F 0 v7 v6) (max2 (F 1 v7 v6) (F 2 v7 v6))
            have hgy2 := hgy
            unfold gy mn3 mx3 at hgy2
            have tk : gyT F x2 (fun _ _ => 1) v7 v6 = 1 := if_pos hgy
            have tr : gyT F x2 (F 0) v7 v6 = (F 0) v7 v6 := if_pos hgy
            have tg : gyT F x2 (F 1) v7 v6 = (F 1) v7 v6 := if_pos hgy
            have tb : gyT F x2 (F 2) v7 v6 = (F 2) v7 v6 := if_pos hgy
            refine zW_iload_n (pc' := 78) dX3_findWhite_2.2.1.2.1 rfl rfl ?_
            refine zW_aload_n (pc' := 79) dX3_findWhite_2.2.1.2.2 rfl rfl ?_
            refine zG_lev (pc' := 82) (by omega) (by omega) fg_X3_27 dX3_findWhite_2.2.2.1.1 rfl ?_
            refine zW_iload (pc' := 84) dX3_findWhite_2.2.2.1.2 rfl rfl ?_
            refine zV_iald (pc' := 85) (tabL (by omega) (by omega)) (by omega) dX3_findWhite_2.2.2.2.1 (by decide) rfl ?_
            have q84 := (hF3 0 (by omega)).at (i := v6 * 16 + v7) (x := v7) (y := v6) ⟨by omega, by omega, by omega, by omega⟩ (by omega)
            have b84 := hb3 0 (by omega) (v7) (v6) ⟨by omega, by omega, by omega, by omega⟩
            rw [← q84] at b84
            refine zW_iadd (pc' := 86) dX3_findWhite_2.2.2.2.2 rfl ?_
            refine zW_istore_n (ls' := [_, _, _, _, _, _, _, _, _]) (pc' := 87) dX3_findWhite_3.1.1.1.1 (by decide) rfl rfl rfl ?_
            refine zW_iload (pc' := 89) dX3_findWhite_3.1.1.1.2 rfl rfl ?_
            refine zW_aload_n (pc' := 90) dX3_findWhite_3.1.1.2.1 rfl rfl ?_
            refine zG_lev (pc' := 93) (by omega) (by omega) fg_X3_27 dX3_findWhite_3.1.1.2.2 rfl ?_
            refine zW_sipush (pc' := 96) dX3_findWhite_3.1.2.1.1 rfl rfl ?_
            refine zW_iload (pc' := 98) dX3_findWhite_3.1.2.1.2 rfl rfl ?_
            refine zW_iadd (pc' := 99) dX3_findWhite_3.1.2.2.1 rfl ?_
            refine zV_iald (pc' := 100) (tabL (by omega) (by omega)) (by omega) dX3_findWhite_3.1.2.2.2 (by decide) rfl ?_
            have q99 := (hF3 1 (by omega)).at (i := 256 + (v6 * 16 + v7)) (x := v7) (y := v6) ⟨by omega, by omega, by omega, by omega⟩ (by omega)
            have b99 := hb3 1 (by omega) (v7) (v6) ⟨by omega, by omega, by omega, by omega⟩
            rw [← q99] at b99
            refine zW_iadd (pc' := 101) dX3_findWhite_3.2.1.1.1 rfl ?_
            refine zW_istore (ls' := [_, _, _, _, _, _, _, _, _]) (pc' := 103) dX3_findWhite_3.2.1.1.2 (by decide) rfl rfl rfl ?_
            refine zW_iload (pc' := 105) dX3_findWhite_3.2.1.2.1 rfl rfl ?_
            refine zW_aload_n (pc' := 106) dX3_findWhite_3.2.1.2.2 rfl rfl ?_
            refine zG_lev (pc' := 109) (by omega) (by omega) fg_X3_27 dX3_findWhite_3.2.2.1.1 rfl ?_
            refine zW_sipush (pc' := 112) dX3_findWhite_3.2.2.1.2 rfl rfl ?_
            refine zW_iload (pc' := 114) dX3_findWhite_3.2.2.2.1 rfl rfl ?_
            refine zW_iadd (pc' := 115) dX3_findWhite_3.2.2.2.2 rfl ?_
            refine zV_iald (pc' := 116) (tabL (by omega) (by omega)) (by omega) dX3_findWhite_4.1.1.1.1 (by decide) rfl ?_
            have q115 := (hF3 2 (by omega)).at (i := 512 + (v6 * 16 + v7)) (x := v7) (y := v6) ⟨by omega, by omega, by omega, by omega⟩ (by omega)
            have b115 := hb3 2 (by omega) (v7) (v6) ⟨by omega, by omega, by omega, by omega⟩
            rw [← q115] at b115
            refine zW_iadd (pc' := 117) dX3_findWhite_4.1.1.1.2 rfl ?_
            refine zW_istore (ls' := [_, _, _, _, _, _, _, _, _]) (pc' := 119) dX3_findWhite_4.1.1.2.1 (by decide) rfl rfl rfl ?_
            refine zW_iinc (ls' := [_, _, _, _, _, _, _, _, _]) (pc' := 122) dX3_findWhite_4.1.1.2.2 rfl (by decide) rfl rfl rfl ?_
            refine zV_goto 31 dX3_findWhite_4.1.2.1.1 rfl ?_
            refine zV_clr 8 (ls' := [_, _, _, _, _, _, _, _, _]) rfl ?_
            exact k31 _ _ _ _ _ _ hF (by omega) (by omega) (by omega) (by omega) (by omega) (by omega) (by omega) (by omega) (by omega) (by omega) (by omega) (by first | (rw [sk, tk]; omega) | (rw [sk, show gyT F x2 (fun _ _ => 1) v7 v6 = 0 from if_neg (fun q => by have := p61.2.2.mpr q; omega)]; omega) | (rw [gc4]; exact (Int.add_zero _).symm)) (by first | (rw [sr, tr]; omega) | (rw [sr, show gyT F x2 (F 0) v7 v6 = 0 from if_neg (fun q => by have := p61.2.2.mpr q; omega)]; omega) | (rw [gc5]; exact (Int.add_zero _).symm)) (by first | (rw [sg, tg]; omega) | (rw [sg, show gyT F x2 (F 1) v7 v6 = 0 from if_neg (fun q => by have := p61.2.2.mpr q; omega)]; omega) | (rw [gc6]; exact (Int.add_zero _).symm)) (by first | (rw [sb, tb]; omega) | (rw [sb, show gyT F x2 (F 2) v7 v6 = 0 from if_neg (fun q => by have := p61.2.2.mpr q; omega)]; omega) | (rw [gc7]; exact (Int.add_zero _).symm)) hF3 hgh (by omega)
  refine zM_of [some (.inr (.inr 87)), some (.inr (.inr s1)), some (.inl x2), none, none, none, none, none, none] 6 rfl rfl (Nat.le_of_ble_eq_true rfl) rfl ?_
  refine zW_iconst (pc' := 1) dX3_findWhite_0.1.1.1.1 rfl ?_
  refine zW_istore_n (ls' := [_, _, _, _, _, _, _, _, _]) (pc' := 2) dX3_findWhite_0.1.1.1.2 (by decide) rfl rfl rfl ?_
  refine zW_iconst (pc' := 3) dX3_findWhite_0.1.1.2.1 rfl ?_
  refine zW_istore (ls' := [_, _, _, _, _, _, _, _, _]) (pc' := 5) dX3_findWhite_0.1.1.2.2 (by decide) rfl rfl rfl ?_
  refine zW_iconst (pc' := 6) dX3_findWhite_0.1.2.1.1 rfl ?_
  refine zW_istore (ls' := [_, _, _, _, _, _, _, _, _]) (pc' := 8) dX3_findWhite_0.1.2.1.2 (by decide) rfl rfl rfl ?_
  refine zW_aload_n (pc' := 9) dX3_findWhite_0.1.2.2.1 rfl rfl ?_
  refine zW_iconst (pc' := 10) dX3_findWhite_0.1.2.2.2 rfl ?_
  refine zP_scf (pc' := 13) hF rfl fp_X3_63 tb87 rfl dX3_findWhite_0.2.1.1.1 rfl (fun h i10 hF a10 b10 w10 => ?_)
  replace b10 := b10 ⟨by omega, by omega⟩
  replace hgh : Fw [] [(87, 0), (87, 1), (87, 2)] gh0 h := by rw [w10]; exact hgh.wf (by simp)
  replace hF3 : FuS (κ 33 0) (κ 33 1) (h (s1 + 15)) F := by have q0_ := (congrFun w10 (s1 + 15)).trans (zfun (by omega)); rw [q0_]; exact hF3
  have z10 : h 87 2 = 0 := by rw [w10, zwr_eq, b10]
  refine zW_iconst (pc' := 14) dX3_findWhite_0.2.1.1.2 rfl ?_
  refine zW_istore (ls' := [_, _, _, _, _, _, _, _, _]) (pc' := 16) dX3_findWhite_0.2.1.2.1 (by decide) rfl rfl rfl ?_
  exact (main 10000000000000000000000000000000000000000).1 _ _ _ _ _ hF (by omega) (by omega) (by omega) (by omega) (by omega) (by omega) (by omega) (by omega) (by omega) (by first | rfl | (rw [z10]; rfl) | (rw [sk]; rw [show v7 = κ 33 0 from by omega] at gc4; exact gc4)) (by first | rfl | (rw [z10]; rfl) | (rw [sr]; rw [show v7 = κ 33 0 from by omega] at gc5; exact gc5)) (by first | rfl | (rw [z10]; rfl) | (rw [sg]; rw [show v7 = κ 33 0 from by omega] at gc6; exact gc6)) (by first | rfl | (rw [z10]; rfl) | (rw [sb]; rw [show v7 = κ 33 0 from by omega] at gc7; exact gc7)) hF3 hgh (by omega)

abbrev q_X3_layBaseZ (b : Bd) (κ : Hp) (s1 : Nat) (x2 : Int) (x3 : Int) (x4 : Int) (F : P3) (gh0 : Hp) : Int → Hp → Prop := fun r h' => Fr b κ h' ∧ ((Fw [88] [] gh0 h') ∧ (Rg (κ 33 0) (κ 33 1) (h' 88) (bsF (κ 33 0) (κ 33 1) F x4) (RgB x4 (x2 + x4) x3)))
set_option maxHeartbeats 4000000 in
set_option maxRecDepth 20000 in
theorem s_X3_layBaseZ {G : Ga} {b : Bd} {κ h : Hp} (hK : KC κ) (hF : Fr b κ h) (s1 : Nat) (hs1 : 56 ≤ s1 ∧ s1 ≤ 70) (x2 : Int) (hx2 : 0 ≤ x2 ∧ x2 ≤ 15 ∧ x2 - κ 33 0 ≤ -1) (x3 : Int) (hx3 : 0 ≤ x3 ∧ x3 ≤ 15 ∧ x3 - κ 33 1 ≤ -1) (x4 : Int) (hx4 : 1 ≤ x4 ∧ x4 ≤ 16) (F : P3) (gh0 : Hp) (hF3 : FuS (κ 33 0) (κ 33 1) (h (s1 + 15)) F) (hb3 : FB3 (κ 33 0) (κ 33 1) F) (hs2 : Bs2 x4) (hx0 : x2 % x4 = 0) (hy0 : x3 % x4 = 0) (hR : Rg (κ 33 0) (κ 33 1) (h 88) (bsF (κ 33 0) (κ 33 1) F x4) (RgB x4 x2 x3)) (hgh : Fw [88] [] gh0 h) : zM G mX3_layBase yX3_layBase [.inr (.inr 87), .inr (.inr s1), .inl x2, .inl x3, .inl x4] h (q_X3_layBaseZ b κ s1 x2 x3 x4 F gh0) := by
  have f_33_0 := KCw hK
  have f_33_1 := KCh hK
  have m1 := min2c (κ 33 0) (x2 + x4)
  have m2 := min2c (κ 33 1) (x3 + x4)
  have main : ∀ N : Nat, (∀ (v5 v6 v7 v8 : Int) (h : Hp), Fr b κ h → (1 ≤ v5 ∧ v5 ≤ 16) → (1 ≤ v6 ∧ v6 ≤ 16) → (0 ≤ v7 ∧ v7 ≤ 1048320) → (0 ≤ v8 ∧ v8 ≤ 16) → (v5 = min2 (κ 33 0) (x2 + x4)) → (v6 = min2 (κ 33 1) (x3 + x4)) → (v7 = sumS (fun u v => lgt F (x2 + u) (x3 + v)) (v5 - x2).toNat (v8 - x3).toNat) → (Rg (κ 33 0) (κ 33 1) (h 88) (bsF (κ 33 0) (κ 33 1) F x4) (RgB x4 x2 x3)) → (x3 ≤ v8 ∧ v8 ≤ v6) → (v7 ≤ 65520 * (v8 - x3)) → (FuS (κ 33 0) (κ 33 1) (h (s1 + 15)) F) → (Fw [88] [] gh0 h) → 51217920 + 44460 * (16 - v8) + 43776 < (N : Int) → zV G mX3_layBase (q_X3_layBaseZ b κ s1 x2 x3 x4 F gh0) 38 [some (.inr (.inr 87)), some (.inr (.inr s1)), some (.inl x2), some (.inl x3), some (.inl x4), some (.inl v5), some (.inl v6), some (.inl v7), some (.inl v8), none, none, none] [] h) ∧ (∀ (v5 v6 v7 v8 v9 v10 : Int) (h : Hp), Fr b κ h → (1 ≤ v5 ∧ v5 ≤ 16) → (1 ≤ v6 ∧ v6 ≤ 16) → (0 ≤ v7 ∧ v7 ≤ 2147483646) → (1 ≤ v8 ∧ v8 ≤ 256) → (0 ≤ v9 ∧ v9 ≤ 1048320) → (0 ≤ v10 ∧ v10 ≤ 16) → (v5 = min2 (κ 33 0) (x2 + x4)) → (v6 = min2 (κ 33 1) (x3 + x4)) → (∀ u v : Int, x2 ≤ u → u < x2 + x4 → x3 ≤ v → v < x3 + x4 → (bsF (κ 33 0) (κ 33 1) F x4) u v = v9) → (Rg (κ 33 0) (κ 33 1) (h 88) (bsF (κ 33 0) (κ 33 1) F x4) (RgC x4 x2 x3 x2 v10)) → (x3 ≤ v10) → (FuS (κ 33 0) (κ 33 1) (h (s1 + 15)) F) → (Fw [88] [] gh0 h) → 34412040 + 44460 * (16 - v10) + 29412 < (N : Int) → zV G mX3_layBase (q_X3_layBaseZ b κ s1 x2 x3 x4 F gh0) 117 [some (.inr (.inr 87)), some (.inr (.inr s1)), some (.inl x2), some (.inl x3), some (.inl x4), some (.inl v5), some (.inl v6), some (.inl v7), some (.inl v8), some (.inl v9), some (.inl v10), none] [] h) ∧ (∀ (v5 v6 v7 v8 v9 v10 v11 : Int) (h : Hp), Fr b κ h → (1 ≤ v5 ∧ v5 ≤ 16) → (1 ≤ v6 ∧ v6 ≤ 16) → (0 ≤ v7 ∧ v7 ≤ 2147483646) → (1 ≤ v8 ∧ v8 ≤ 256) → (0 ≤ v9 ∧ v9 ≤ 1048320) → (0 ≤ v10 ∧ v10 ≤ 15) → (0 ≤ v11 ∧ v11 ≤ 16) → (v5 = min2 (κ 33 0) (x2 + x4)) → (v6 = min2 (κ 33 1) (x3 + x4)) → (∀ u v : Int, x2 ≤ u → u < x2 + x4 → x3 ≤ v → v < x3 + x4 → (bsF (κ 33 0) (κ 33 1) F x4) u v = v9) → (Rg (κ 33 0) (κ 33 1) (h 88) (bsF (κ 33 0) (κ 33 1) F x4) (RgC x4 x2 x3 v11 v10)) → (x3 ≤ v10 ∧ v10 < v6 ∧ x2 ≤ v11) → (FuS (κ 33 0) (κ 33 1) (h (s1 + 15)) F) → (Fw [88] [] gh0 h) → 34412040 + 44460 * (16 - v10) + 25308 + 38 * (16 - v11) + 37 < (N : Int) → zV G mX3_layBase (q_X3_layBaseZ b κ s1 x2 x3 x4 F gh0) 127 [some (.inr (.inr 87)), some (.inr (.inr s1)), some (.inl x2), some (.inl x3), some (.inl x4), some (.inl v5), some (.inl v6), some (.inl v7), some (.inl v8), some (.inl v9), some (.inl v10), some (.inl v11)] [] h) ∧ (∀ (v5 v6 v7 v8 v9 : Int) (h : Hp), Fr b κ h → (1 ≤ v5 ∧ v5 ≤ 16) → (1 ≤ v6 ∧ v6 ≤ 16) → (0 ≤ v7 ∧ v7 ≤ 1048320) → (0 ≤ v8 ∧ v8 ≤ 15) → (0 ≤ v9 ∧ v9 ≤ 16) → (v5 = min2 (κ 33 0) (x2 + x4)) → (v6 = min2 (κ 33 1) (x3 + x4)) → (v7 = sumS (fun u v => lgt F (x2 + u) (x3 + v)) (v5 - x2).toNat (v8 - x3).toNat + sumR (fun u v => lgt F (x2 + u) (x3 + v)) (v8 - x3) (v9 - x2).toNat) → (Rg (κ 33 0) (κ 33 1) (h 88) (bsF (κ 33 0) (κ 33 1) F x4) (RgB x4 x2 x3)) → (x3 ≤ v8 ∧ v8 < v6 ∧ x2 ≤ v9 ∧ v9 ≤ v5) → (v7 ≤ 65520 * (v8 - x3) + 4095 * (v9 - x2)) → (FuS (κ 33 0) (κ 33 1) (h (s1 + 15)) F) → (Fw [88] [] gh0 h) → 51217920 + 44460 * (16 - v8) + 12996 + 38 * (16 - v9) + 19 < (N : Int) → zV G mX3_layBase (q_X3_layBaseZ b κ s1 x2 x3 x4 F gh0) 48 [some (.inr (.inr 87)), some (.inr (.inr s1)), some (.inl x2), some (.inl x3), some (.inl x4), some (.inl v5), some (.inl v6), some (.inl v7), some (.inl v8), some (.inl v9), none, none] [] h) := by
    intro N
    induction N with
    | zero =>
      refine ⟨?_, ?_, ?_, ?_⟩
      · intro v5 v6 v7 v8 h hF g0 g1 g2 g3 gc0 gc1 gc2 gc3 gc4 gc5 hF3 hgh hm
        exfalso; omega
      · intro v5 v6 v7 v8 v9 v10 h hF g0 g1 g2 g3 g4 g5 gc0 gc1 gc2 gc3 gc4 hF3 hgh hm
        exfalso; omega
      · intro v5 v6 v7 v8 v9 v10 v11 h hF g0 g1 g2 g3 g4 g5 g6 gc0 gc1 gc2 gc3 gc4 hF3 hgh hm
        exfalso; omega
      · intro v5 v6 v7 v8 v9 h hF g0 g1 g2 g3 g4 gc0 gc1 gc2 gc3 gc4 gc5 hF3 hgh hm
        exfalso; omega
    | succ N ih =>
      obtain ⟨k38, k117, k127, k48⟩ := ih
      refine ⟨?_, ?_, ?_, ?_⟩
      · intro v5 v6 v7 v8 h hF g0 g1 g2 g3 gc0 gc1 gc2 gc3 gc4 gc5 hF3 hgh hm
        refine zW_iload (pc' := 40) dX3_layBase_1.1.2.1.1 rfl rfl ?_
        refine zW_iload (pc' := 42) dX3_layBase_1.1.2.1.2 rfl rfl ?_
        refine zV_cm_ge (tgt := 87) (pc' := 45) dX3_layBase_1.1.2.2.1 rfl rfl ⟨by omega, by omega⟩ ⟨by omega, by omega⟩ (fun c42 => ?_) (fun c42 => ?_)
        · refine zW_iload (pc' := 89) dX3_layBase_2.2.1.2.2 rfl rfl ?_
          refine zW_iload_n (pc' := 90) dX3_layBase_2.2.2.1.1 rfl rfl ?_
          refine zW_isub (pc' := 91) dX3_layBase_2.2.2.1.2 rfl ?_
          refine zW_iload (pc' := 93) dX3_layBase_2.2.2.2.1 rfl rfl ?_
          refine zW_iload_n (pc' := 94) dX3_layBase_2.2.2.2.2 rfl rfl ?_
          refine zW_isub (pc' := 95) dX3_layBase_3.1.1.1.1 rfl ?_
          refine zW_imul (pc' := 96) dX3_layBase_3.1.1.1.2 rfl ?_
          have q95 := mulq (a := v5 - x2) (b := v6 - x3) (A := 16) (B := 16) ⟨by omega, by omega⟩ ⟨by omega, by omega⟩
          have q95p : 1 ≤ (v5 - x2) * (v6 - x3) := by have z := Int.mul_pos (a := v5 - x2) (b := v6 - x3) (by omega) (by omega); omega
          refine zW_istore (ls' := [_, _, _, _, _, _, _, _, _, _, _, _]) (pc' := 98) dX3_layBase_3.1.1.2.1 (by decide) rfl rfl rfl ?_
          refine zW_iload (pc' := 100) dX3_layBase_3.1.1.2.2 rfl rfl ?_
          refine zV_if_le (tgt := 111) (pc' := 103) dX3_layBase_3.1.2.1.1 rfl rfl ⟨by omega, by omega⟩ (fun c100 => ?_) (fun c100 => ?_)
          · exfalso; omega
          · refine zW_iload (pc' := 105) dX3_layBase_3.1.2.1.2 rfl rfl ?_
            refine zW_iload (pc' := 107) dX3_layBase_3.1.2.2.1 rfl rfl ?_
            refine zW_idivX (pc' := 108) ⟨by omega, by omega⟩ ⟨by omega, by omega⟩ dX3_layBase_3.1.2.2.2 rfl (fun v107 t107 e107 => ?_)
            unfold rng at e107
            have b107 := tdb2 (a := v7) (d := (v5 - x2) * (v6 - x3)) (by omega) (by omega)
            rw [← t107] at b107
            have hmn : ∀ u v : Int, x2 ≤ u → u < x2 + x4 → x3 ≤ v → v < x3 + x4 → (bsF (κ 33 0) (κ 33 1) F x4) u v = v107 := by (intro u v a1 a2 a3 a4; unfold bsF; rw [bk_in hs2 hx0 a1 a2, bk_in hs2 hy0 a3 a4, bk_sum (e := v5 - x2) (d := v6 - x3) ⟨by omega, by omega⟩ ⟨by omega, by omega⟩ (by omega) (by omega) (by omega), bk_sum (e := v5 - x2) (d := v6 - x3) ⟨by omega, by omega⟩ ⟨by omega, by omega⟩ (by omega) (by omega) (by omega)]; have one : sumS (fun u v => (fun _ _ => (1 : Int)) (x2 + u) (x3 + v)) (v5 - x2).toNat (v6 - x3).toNat = (v5 - x2) * (v6 - x3) := (by have z := sumS_one (w := (v5 - x2).toNat) (v6 - x3).toNat; rw [show (((v5 - x2).toNat : Nat) : Int) = v5 - x2 by omega, show (((v6 - x3).toNat : Nat) : Int) = v6 - x3 by omega] at z; exact z); rw [one, t107, Int.tdiv_eq_ediv_of_nonneg (by omega), gc2, show v8 = v6 by omega])
            refine zV_goto 112 dX3_layBase_3.2.1.1.1 rfl ?_
            refine zW_istore (ls' := [_, _, _, _, _, _, _, _, _, _, _, _]) (pc' := 114) dX3_layBase_3.2.1.2.1 (by decide) rfl rfl rfl ?_
            refine zW_iload_n (pc' := 115) dX3_layBase_3.2.1.2.2 rfl rfl ?_
            refine zW_istore (ls' := [_, _, _, _, _, _, _, _, _, _, _, _]) (pc' := 117) dX3_layBase_3.2.2.1.1 (by decide) rfl rfl rfl ?_
            exact k117 _ _ _ _ _ _ _ hF (by omega) (by omega) (by omega) (by omega) (by omega) (by omega) (by first | exact gc0 | omega) (by first | exact gc1 | omega) (by first | exact gc2 | exact hmn) (by first | exact gc3.sub (fun u v hp q => by (have q : RgC x4 x2 x3 x2 (v10 + 1) u v := q); (obtain ⟨k1, k2, k3, k4⟩ := hp); show RgC x4 x2 x3 v11 v10 u v; omega) | exact gc3.sub (fun u v hp q => by (have q : RgC x4 x2 x3 x2 x3 u v := q); show RgB x4 x2 x3 u v; omega)) (by omega) hF3 hgh (by omega)
        · refine zW_iload_n (pc' := 46) dX3_layBase_1.1.2.2.2 rfl rfl ?_
          refine zW_istore (ls' := [_, _, _, _, _, _, _, _, _, _, _, _]) (pc' := 48) dX3_layBase_1.2.1.1.1 (by decide) rfl rfl rfl ?_
          exact k48 _ _ _ _ _ _ hF (by omega) (by omega) (by omega) (by omega) (by omega) (by first | exact gc0 | omega) (by first | exact gc1 | omega) (by first | (rw [show (v9 + 1 - x2).toNat = (v9 - x2 + 1).toNat by omega, sr, gc2, Int.add_assoc]; have e9 : r69 = lgt F (x2 + (v9 - x2)) (x3 + (v8 - x3)) := e69; rw [e9]) | (rw [show (x2 - x2).toNat = 0 by omega]; show _ = _ + 0; omega)) gc3 (by omega) (by omega) hF3 hgh (by omega)
      · intro v5 v6 v7 v8 v9 v10 h hF g0 g1 g2 g3 g4 g5 gc0 gc1 gc2 gc3 gc4 hF3 hgh hm
        refine zW_iload (pc' := 119) dX3_layBase_3.2.2.1.2 rfl rfl ?_
        refine zW_iload (pc' := 121) dX3_layBase_3.2.2.2.1 rfl rfl ?_
        refine zV_cm_ge (tgt := 161) (pc' := 124) dX3_layBase_3.2.2.2.2 rfl rfl ⟨by omega, by omega⟩ ⟨by omega, by omega⟩ (fun c121 => ?_) (fun c121 => ?_)
        · exact zV_vret rfl dX3_layBase_5.2 ⟨hF, ⟨hgh, (gc3.sub (fun u v hp q => by (have q : RgB x4 (x2 + x4) x3 u v := q); (obtain ⟨k1, k2, k3, k4⟩ := hp); show RgC x4 x2 x3 x2 v10 u v; omega))⟩⟩
        · refine zW_iload_n (pc' := 125) dX3_layBase_4.1.1.1.1 rfl rfl ?_
          refine zW_istore (ls' := [_, _, _, _, _, _, _, _, _, _, _, _]) (pc' := 127) dX3_layBase_4.1.1.1.2 (by decide) rfl rfl rfl ?_
          exact k127 _ _ _ _ _ _ _ _ hF (by omega) (by omega) (by omega) (by omega) (by omega) (by omega) (by omega) (by first | exact gc0 | omega) (by first | exact gc1 | omega) gc2 (by first | exact hr2 | exact gc3) (by omega) hF3 hgh (by omega)
      · intro v5 v6 v7 v8 v9 v10 v11 h hF g0 g1 g2 g3 g4 g5 g6 gc0 gc1 gc2 gc3 gc4 hF3 hgh hm
        refine zW_iload (pc' := 129) dX3_layBase_4.1.1.2.1 rfl rfl ?_
        refine zW_iload (pc' := 131) dX3_layBase_4.1.1.2.2 rfl rfl ?_
        refine zV_cm_ge (tgt := 155) (pc' := 134) dX3_layBase_4.1.2.1.1 rfl rfl ⟨by omega, by omega⟩ ⟨by omega, by omega⟩ (fun c131 => ?_) (fun c131 => ?_)
        · refine zW_iinc (ls' := [_, _, _, _, _, _, _, _, _, _, _, _]) (pc' := 158) dX3_layBase_5.1.1 rfl (by decide) rfl rfl rfl ?_
          refine zV_goto 117 dX3_layBase_5.1.2 rfl ?_
          refine zV_clr 11 (ls' := [_, _, _, _, _, _, _, _, _, _, _, _]) rfl ?_
          exact k117 _ _ _ _ _ _ _ hF (by omega) (by omega) (by omega) (by omega) (by omega) (by omega) (by first | exact gc0 | omega) (by first | exact gc1 | omega) (by first | exact gc2 | exact hmn) (by first | exact gc3.sub (fun u v hp q => by (have q : RgC x4 x2 x3 x2 (v10 + 1) u v := q); (obtain ⟨k1, k2, k3, k4⟩ := hp); show RgC x4 x2 x3 v11 v10 u v; omega) | exact gc3.sub (fun u v hp q => by (have q : RgC x4 x2 x3 x2 x3 u v := q); show RgB x4 x2 x3 u v; omega)) (by omega) hF3 hgh (by omega)
        · refine zW_aload_n (pc' := 135) dX3_layBase_4.1.2.1.2 rfl rfl ?_
          refine zG_ref (pc' := 138) 88 fg_X3_9 tb87 rfl dX3_layBase_4.1.2.2.1 rfl ?_
          refine zW_iload (pc' := 140) dX3_layBase_4.1.2.2.2 rfl rfl ?_
          refine zW_bipush (pc' := 142) dX3_layBase_4.2.1.1.1 rfl rfl ?_
          refine zW_imul (pc' := 143) dX3_layBase_4.2.1.1.2 rfl ?_
          refine zW_iload (pc' := 145) dX3_layBase_4.2.1.2.1 rfl rfl ?_
          refine zW_iadd (pc' := 146) dX3_layBase_4.2.1.2.2 rfl ?_
          refine zW_iload (pc' := 148) dX3_layBase_4.2.2.1.1 rfl rfl ?_
          refine zS_i (pc' := 149) hF rfl tb88 (by omega) dX3_layBase_4.2.2.1.2 (by decide) rfl (fun h i148 hF a148 b148 w148 => ?_)
          replace b148 := b148 ⟨by omega, by omega⟩
          replace hgh : Fw [88] [] gh0 h := by rw [w148]; exact hgh.wc (by simp)
          replace hF3 : FuS (κ 33 0) (κ 33 1) (h (s1 + 15)) F := by have q0_ := (congrFun w148 (s1 + 15)).trans (zfun (by omega)); rw [q0_]; exact hF3
          have hr2 : Rg (κ 33 0) (κ 33 1) (h 88) (bsF (κ 33 0) (κ 33 1) F x4) (RgC x4 x2 x3 (v11 + 1) v10) := by rw [w148, b148]; exact Rg.nx (by omega) ⟨by omega, by omega, by omega, by omega⟩ gc3 (by omega) (gc2 v11 v10 (by omega) (by omega) (by omega) (by omega)).symm (fun u v q => by (have q : RgC x4 x2 x3 (v11 + 1) v10 u v := q); show RgC x4 x2 x3 v11 v10 u v ∨ _; omega)
          refine zW_iinc (ls' := [_, _, _, _, _, _, _, _, _, _, _, _]) (pc' := 152) dX3_layBase_4.2.2.2.1 rfl (by decide) rfl rfl rfl ?_
          refine zV_goto 127 dX3_layBase_4.2.2.2.2 rfl ?_
          exact k127 _ _ _ _ _ _ _ _ hF (by omega) (by omega) (by omega) (by omega) (by omega) (by omega) (by omega) (by first | exact gc0 | omega) (by first | exact gc1 | omega) gc2 (by first | exact hr2 | exact gc3) (by omega) hF3 hgh (by omega)
      · intro v5 v6 v7 v8 v9 h hF g0 g1 g2 g3 g4 gc0 gc1 gc2 gc3 gc4 gc5 hF3 hgh hm
        refine zW_iload (pc' := 50) dX3_layBase_1.2.1.1.2 rfl rfl ?_
        refine zW_iload (pc' := 52) dX3_layBase_1.2.1.2.1 rfl rfl ?_
        refine zV_cm_ge (tgt := 81) (pc' := 55) dX3_layBase_1.2.1.2.2 rfl rfl ⟨by omega, by omega⟩ ⟨by omega, by omega⟩ (fun c52 => ?_) (fun c52 => ?_)
        · have ss := sumS_s (t := (fun u v => lgt F (x2 + u) (x3 + v))) (w := (v5 - x2).toNat) (v := v8 - x3) (by omega)
          refine zW_iinc (ls' := [_, _, _, _, _, _, _, _, _, _, _, _]) (pc' := 84) dX3_layBase_2.2.1.1.2 rfl (by decide) rfl rfl rfl ?_
          refine zV_goto 38 dX3_layBase_2.2.1.2.1 rfl ?_
          refine zV_clr 9 (ls' := [_, _, _, _, _, _, _, _, _, _, _, _]) rfl ?_
          exact k38 _ _ _ _ _ hF (by omega) (by omega) (by omega) (by omega) (by first | exact gc0 | omega) (by first | exact gc1 | omega) (by first | (rw [show v9 = v5 by omega] at gc2; rw [show (v8 + 1 - x3).toNat = (v8 - x3 + 1).toNat by omega, ss]; exact gc2) | (rw [show (x3 - x3).toNat = 0 by omega]; rfl)) (by first | exact gc3 | exact hR) (by omega) (by omega) hF3 hgh (by omega)
        · have sr := sumR_s (t := (fun u v => lgt F (x2 + u) (x3 + v))) (y := v8 - x3) (v := v9 - x2) (by omega)
          refine zW_iload (pc' := 57) dX3_layBase_1.2.2.1.1 rfl rfl ?_
          refine zW_aload_n (pc' := 58) dX3_layBase_1.2.2.1.2 rfl rfl ?_
          refine zG_lev (pc' := 61) (by omega) (by omega) fg_X3_27 dX3_layBase_1.2.2.2.1 rfl ?_
          refine zW_iload (pc' := 63) dX3_layBase_1.2.2.2.2 rfl rfl ?_
          refine zW_bipush (pc' := 65) dX3_layBase_2.1.1.1.1 rfl rfl ?_
          refine zW_imul (pc' := 66) dX3_layBase_2.1.1.1.2 rfl ?_
          refine zW_iload (pc' := 68) dX3_layBase_2.1.1.2.1 rfl rfl ?_
          refine zW_iadd (pc' := 69) dX3_layBase_2.1.1.2.2 rfl ?_
          refine csI2 (pc' := 72) kX11_lightOf vX11_lightOf lk_X3_98 ⟨Nat.le_of_ble_eq_true rfl, Nat.le_of_ble_eq_true rfl⟩ rfl (s_X11_lightOfZ hF _ ⟨by omega, by omega⟩ _ ⟨by omega, by omega⟩ (κ 33 0) (κ 33 1) F v9 v8 hF3 hb3 ⟨by omega, by omega, by omega, by omega⟩ (by omega)) dX3_layBase_2.1.2.1.1 (Nat.le_of_ble_eq_true rfl) rfl ?_
          rintro r69 z69 ⟨hz69, p69⟩; subst z69
          have e69 : r69 = (fun u v => lgt F (x2 + u) (x3 + v)) (v9 - x2) (v8 - x3) := by show r69 = lgt F (x2 + (v9 - x2)) (x3 + (v8 - x3)); rw [show x2 + (v9 - x2) = v9 by omega, show x3 + (v8 - x3) = v8 by omega]; exact p69.2.2
          refine zW_iadd (pc' := 73) dX3_layBase_2.1.2.1.2 rfl ?_
          refine zW_istore (ls' := [_, _, _, _, _, _, _, _, _, _, _, _]) (pc' := 75) dX3_layBase_2.1.2.2.1 (by decide) rfl rfl rfl ?_
          refine zW_iinc (ls' := [_, _, _, _, _, _, _, _, _, _, _, _]) (pc' := 78) dX3_layBase_2.1.2.2.2 rfl (by decide) rfl rfl rfl ?_
          refine zV_goto 48 dX3_layBase_2.2.1.1.1 rfl ?_
          exact k48 _ _ _ _ _ _ hF (by omega) (by omega) (by omega) (by omega) (by omega) (by first | exact gc0 | omega) (by first | exact gc1 | omega) (by first | (rw [show (v9 + 1 - x2).toNat = (v9 - x2 + 1).toNat by omega, sr, gc2, Int.add_assoc]; have e9 : r69 = lgt F (x2 + (v9 - x2)) (x3 + (v8 - x3)) := e69; rw [e9]) | (rw [show (x2 - x2).toNat = 0 by omega]; show _ = _ + 0; omega)) gc3 (by omega) (by omega) hF3 hgh (by omega)
  refine zM_of [some (.inr (.inr 87)), some (.inr (.inr s1)), some (.inl x2), some (.inl x3), some (.inl x4), none, none, none, none, none, none, none] 7 rfl rfl (Nat.le_of_ble_eq_true rfl) rfl ?_
  refine zW_aload_n (pc' := 1) dX3_layBase_0.1.1.1.1 rfl rfl ?_
  refine zG_ref (pc' := 4) 33 fg_X3_23 tb87 rfl dX3_layBase_0.1.1.1.2 rfl ?_
  refine zG_key (pc' := 7) hF rfl fg_X3_48 tb33 rfl dX3_layBase_0.1.1.2.1 rfl ?_
  refine zW_iload_n (pc' := 8) dX3_layBase_0.1.1.2.2 rfl rfl ?_
  refine zW_iload (pc' := 10) dX3_layBase_0.1.2.1.1 rfl rfl ?_
  refine zW_iadd (pc' := 11) dX3_layBase_0.1.2.1.2 rfl ?_
  refine zV_mmin (pc' := 14) km_X3_86 (Nat.le_of_ble_eq_true rfl) (Nat.le_of_ble_eq_true rfl) dX3_layBase_0.1.2.2.1 rfl (fun v11 e11 => ?_)
  replace e11 := e11.2 ⟨by omega, by omega⟩ ⟨by omega, by omega⟩
  refine zW_istore (ls' := [_, _, _, _, _, _, _, _, _, _, _, _]) (pc' := 16) dX3_layBase_0.1.2.2.2 (by decide) rfl rfl rfl ?_
  refine zW_aload_n (pc' := 17) dX3_layBase_0.2.1.1.1 rfl rfl ?_
  refine zG_ref (pc' := 20) 33 fg_X3_23 tb87 rfl dX3_layBase_0.2.1.1.2 rfl ?_
  refine zG_key (pc' := 23) hF rfl fg_X3_42 tb33 rfl dX3_layBase_0.2.1.2.1 rfl ?_
  refine zW_iload_n (pc' := 24) dX3_layBase_0.2.1.2.2 rfl rfl ?_
  refine zW_iload (pc' := 26) dX3_layBase_0.2.2.1.1 rfl rfl ?_
  refine zW_iadd (pc' := 27) dX3_layBase_0.2.2.1.2 rfl ?_
  refine zV_mmin (pc' := 30) km_X3_86 (Nat.le_of_ble_eq_true rfl) (Nat.le_of_ble_eq_true rfl) dX3_layBase_0.2.2.2.1 rfl (fun v27 e27 => ?_)
  replace e27 := e27.2 ⟨by omega, by omega⟩ ⟨by omega, by omega⟩
  refine zW_istore (ls' := [_, _, _, _, _, _, _, _, _, _, _, _]) (pc' := 32) dX3_layBase_0.2.2.2.2 (by decide) rfl rfl rfl ?_
  refine zW_iconst (pc' := 33) dX3_layBase_1.1.1.1.1 rfl ?_
  refine zW_istore (ls' := [_, _, _, _, _, _, _, _, _, _, _, _]) (pc' := 35) dX3_layBase_1.1.1.1.2 (by decide) rfl rfl rfl ?_
  refine zW_iload_n (pc' := 36) dX3_layBase_1.1.1.2.1 rfl rfl ?_
  refine zW_istore (ls' := [_, _, _, _, _, _, _, _, _, _, _, _]) (pc' := 38) dX3_layBase_1.1.1.2.2 (by decide) rfl rfl rfl ?_
  exact (main 10000000000000000000000000000000000000000).1 _ _ _ _ _ hF (by omega) (by omega) (by omega) (by omega) (by first | exact gc0 | omega) (by first | exact gc1 | omega) (by first | (rw [show v9 = v5 by omega] at gc2; rw [show (v8 + 1 - x3).toNat = (v8 - x3 + 1).toNat by omega, ss]; exact gc2) | (rw [show (x3 - x3).toNat = 0 by omega]; rfl)) (by first | exact gc3 | exact hR) (by omega) (by omega) hF3 hgh (by omega)

abbrev q_X3_findBasesZ (b : Bd) (κ : Hp) (s1 : Nat) (x2 : Int) (F : P3) (gh0 : Hp) : Int → Hp → Prop := fun r h' => Fr b κ h' ∧ ((Fw [88] [] gh0 h') ∧ (Rg (κ 33 0) (κ 33 1) (h' 88) (bsF (κ 33 0) (κ 33 1) F (2 ^ x2.toNat)) (fun _ _ => True)))
set_option maxHeartbeats 4000000 in
set_option maxRecDepth 20000 in
theorem s_X3_findBasesZ {G : Ga} {b : Bd} {κ h : Hp} (hK : KC κ) (hF : Fr b κ h) (s1 : Nat) (hs1 : 56 ≤ s1 ∧ s1 ≤ 70) (x2 : Int) (hx2 : 0 ≤ x2 ∧ x2 ≤ 4) (F : P3) (gh0 : Hp) (hF3 : FuS (κ 33 0) (κ 33 1) (h (s1 + 15)) F) (hb3 : FB3 (κ 33 0) (κ 33 1) F) (hgh : Fw [88] [] gh0 h) : zM G mX3_findBases yX3_findBases [.inr (.inr 87), .inr (.inr s1), .inl x2] h (q_X3_findBasesZ b κ s1 x2 F gh0) := by
  have f_33_0 := KCw hK
  have f_33_1 := KCh hK
  have main : ∀ N : Nat, (∀ (v3 v4 : Int) (h : Hp), Fr b κ h → (1 ≤ v3 ∧ v3 ≤ 16) → (0 ≤ v4 ∧ v4 ≤ 31) → (v3 = 2 ^ x2.toNat ∧ Bs2 v3) → (Rg (κ 33 0) (κ 33 1) (h 88) (bsF (κ 33 0) (κ 33 1) F v3) (RgB v3 0 v4)) → (v4 % v3 = 0) → (FuS (κ 33 0) (κ 33 1) (h (s1 + 15)) F) → (Fw [88] [] gh0 h) → 23293710 + 23529 * (31 - v4) + 22770 < (N : Int) → zV G mX3_findBases (q_X3_findBasesZ b κ s1 x2 F gh0) 15 [some (.inr (.inr 87)), some (.inr (.inr s1)), some (.inl x2), some (.inl v3), some (.inl v4), none] [] h) ∧ (∀ (v3 v4 v5 : Int) (h : Hp), Fr b κ h → (1 ≤ v3 ∧ v3 ≤ 16) → (0 ≤ v4 ∧ v4 ≤ 15) → (v4 - κ 33 1 ≤ -1) → (0 ≤ v5 ∧ v5 ≤ 31) → (v3 = 2 ^ x2.toNat ∧ Bs2 v3) → (Rg (κ 33 0) (κ 33 1) (h 88) (bsF (κ 33 0) (κ 33 1) F v3) (RgB v3 v5 v4)) → (v4 % v3 = 0 ∧ v5 % v3 = 0) → (FuS (κ 33 0) (κ 33 1) (h (s1 + 15)) F) → (Fw [88] [] gh0 h) → 23293710 + 23529 * (31 - v4) + 16698 + 23 * (31 - v5) + 22 < (N : Int) → zV G mX3_findBases (q_X3_findBasesZ b κ s1 x2 F gh0) 30 [some (.inr (.inr 87)), some (.inr (.inr s1)), some (.inl x2), some (.inl v3), some (.inl v4), some (.inl v5)] [] h) := by
    intro N
    induction N with
    | zero =>
      refine ⟨?_, ?_⟩
      · intro v3 v4 h hF g0 g1 gc0 gc1 gc2 hF3 hgh hm
        exfalso; omega
      · intro v3 v4 v5 h hF g0 g1 g2 g3 gc0 gc1 gc2 hF3 hgh hm
        exfalso; omega
    | succ N ih =>
      obtain ⟨k15, k30⟩ := ih
      refine ⟨?_, ?_⟩
      · intro v3 v4 h hF g0 g1 gc0 gc1 gc2 hF3 hgh hm
        refine zW_iload (pc' := 17) dX3_findBases_0.2.1.2.1 rfl rfl ?_
        refine zW_aload_n (pc' := 18) dX3_findBases_0.2.1.2.2 rfl rfl ?_
        refine zG_ref (pc' := 21) 33 fg_X3_23 tb87 rfl dX3_findBases_0.2.2.1.1 rfl ?_
        refine zG_key (pc' := 24) hF rfl fg_X3_42 tb33 rfl dX3_findBases_0.2.2.1.2 rfl ?_
        refine zV_cm_ge (tgt := 70) (pc' := 27) dX3_findBases_0.2.2.2.1 rfl rfl ⟨by omega, by omega⟩ ⟨by omega, by omega⟩ (fun c24 => ?_) (fun c24 => ?_)
        · exact zV_vret rfl dX3_findBases_2.2.2 ⟨hF, ⟨hgh, (by rw [← gc0.1]; exact gc1.sub (fun u v hp q => by (obtain ⟨k1, k2, k3, k4⟩ := hp); show RgB v3 0 v4 u v; omega))⟩⟩
        · refine zW_iconst (pc' := 28) dX3_findBases_0.2.2.2.2 rfl ?_
          refine zW_istore (ls' := [_, _, _, _, _, _]) (pc' := 30) dX3_findBases_1.1.1.1.1 (by decide) rfl rfl rfl ?_
          exact k30 _ _ _ _ hF (by omega) (by omega) (by omega) (by omega) gc0 (by first | exact p49 | exact gc1) (by first | exact ⟨gc2.1, bk_nx gc0.2 gc2.2⟩ | exact ⟨gc2, Int.zero_emod _⟩) hF3 hgh (by omega)
      · intro v3 v4 v5 h hF g0 g1 g2 g3 gc0 gc1 gc2 hF3 hgh hm
        refine zW_iload (pc' := 32) dX3_findBases_1.1.1.1.2 rfl rfl ?_
        refine zW_aload_n (pc' := 33) dX3_findBases_1.1.1.2.1 rfl rfl ?_
        refine zG_ref (pc' := 36) 33 fg_X3_23 tb87 rfl dX3_findBases_1.1.1.2.2 rfl ?_
        refine zG_key (pc' := 39) hF rfl fg_X3_48 tb33 rfl dX3_findBases_1.1.2.1.1 rfl ?_
        refine zV_cm_ge (tgt := 61) (pc' := 42) dX3_findBases_1.1.2.1.2 rfl rfl ⟨by omega, by omega⟩ ⟨by omega, by omega⟩ (fun c39 => ?_) (fun c39 => ?_)
        · refine zW_iload (pc' := 63) dX3_findBases_2.1.1.2 rfl rfl ?_
          refine zW_iload_n (pc' := 64) dX3_findBases_2.1.2.1 rfl rfl ?_
          refine zW_iadd (pc' := 65) dX3_findBases_2.1.2.2 rfl ?_
          refine zW_istore (ls' := [_, _, _, _, _, _]) (pc' := 67) dX3_findBases_2.2.1.1 (by decide) rfl rfl rfl ?_
          refine zV_goto 15 dX3_findBases_2.2.1.2 rfl ?_
          refine zV_clr 5 (ls' := [_, _, _, _, _, _]) rfl ?_
          exact k15 _ _ _ hF (by omega) (by omega) (by first | exact gc0 | exact hv10) (by first | exact gc1.sub (fun u v hp q => by (have q : RgB v3 0 (v4 + v3) u v := q); (obtain ⟨k1, k2, k3, k4⟩ := hp); show RgB v3 v5 v4 u v; omega) | exact (fun u v hp q => by (have q : RgB _ 0 0 u v := q); (obtain ⟨k1, k2, k3, k4⟩ := hp); omega)) (by first | exact bk_nx gc0.2 gc2.1 | exact Int.zero_emod _) hF3 hgh (by omega)
        · refine zW_aload_n (pc' := 43) dX3_findBases_1.1.2.2.1 rfl rfl ?_
          refine zW_aload_n (pc' := 44) dX3_findBases_1.1.2.2.2 rfl rfl ?_
          refine zW_iload (pc' := 46) dX3_findBases_1.2.1.1.1 rfl rfl ?_
          refine zW_iload (pc' := 48) dX3_findBases_1.2.1.1.2 rfl rfl ?_
          refine zW_iload_n (pc' := 49) dX3_findBases_1.2.1.2.1 rfl rfl ?_
          refine cvV4 (pc' := 52) kX3_layBase vX3_layBase lk_X3_125 ⟨Nat.le_of_ble_eq_true rfl, Nat.le_of_ble_eq_true rfl⟩ tb87 vq3 rfl rfl (s_X3_layBaseZ hK hF _ ⟨by omega, by omega⟩ _ ⟨by omega, by omega, by omega⟩ _ ⟨by omega, by omega, by omega⟩ _ ⟨by omega, by omega⟩ F h (by omega) (by omega) gc0.2 gc2.2 gc2.1 gc1 Fw.rf) dX3_findBases_1.2.1.2.2 (Nat.le_of_ble_eq_true rfl) rfl ?_
          rintro r49 h ⟨hF, d49, p49⟩
          replace hF3 : FuS (κ 33 0) (κ 33 1) (h (s1 + 15)) F := by have q0_ := (d49.cell (k := (s1 + 15)) (by intro c hc; simp at hc <;> omega) (by rintro ⟨a, b⟩ hp; simp at hp <;> (show _ ≠ a; omega))); rw [q0_]; exact hF3
          replace hgh : Fw [88] [] gh0 h := hgh.tr d49 (by simp) (by simp)
          refine zW_iload (pc' := 54) dX3_findBases_1.2.2.1.1 rfl rfl ?_
          refine zW_iload_n (pc' := 55) dX3_findBases_1.2.2.1.2 rfl rfl ?_
          refine zW_iadd (pc' := 56) dX3_findBases_1.2.2.2.1 rfl ?_
          refine zW_istore (ls' := [_, _, _, _, _, _]) (pc' := 58) dX3_findBases_1.2.2.2.2 (by decide) rfl rfl rfl ?_
          refine zV_goto 30 dX3_findBases_2.1.1.1 rfl ?_
          exact k30 _ _ _ _ hF (by omega) (by omega) (by omega) (by omega) gc0 (by first | exact p49 | exact gc1) (by first | exact ⟨gc2.1, bk_nx gc0.2 gc2.2⟩ | exact ⟨gc2, Int.zero_emod _⟩) hF3 hgh (by omega)
  refine zM_of [some (.inr (.inr 87)), some (.inr (.inr s1)), some (.inl x2), none, none, none] 3 rfl rfl (Nat.le_of_ble_eq_true rfl) rfl ?_
  refine zW_iconst (pc' := 1) dX3_findBases_0.1.1.1.1 rfl ?_
  refine zW_iconst (pc' := 2) dX3_findBases_0.1.1.1.2 rfl ?_
  refine zW_iconst (pc' := 3) dX3_findBases_0.1.1.2.1 rfl ?_
  refine zW_iload_n (pc' := 4) dX3_findBases_0.1.1.2.2 rfl rfl ?_
  refine zV_mmin (pc' := 7) km_X3_86 (Nat.le_of_ble_eq_true rfl) (Nat.le_of_ble_eq_true rfl) dX3_findBases_0.1.2.1.1 rfl (fun v4 e4 => ?_)
  replace e4 := e4.2 ⟨by omega, by omega⟩ ⟨by omega, by omega⟩
  refine zV_mmax (pc' := 10) km_X3_91 (Nat.le_of_ble_eq_true rfl) (Nat.le_of_ble_eq_true rfl) dX3_findBases_0.1.2.1.2 rfl (fun v7 e7 => ?_)
  replace e7 := e7.2 ⟨by omega, by omega⟩ ⟨by omega, by omega⟩
  refine zW_shlV (pc' := 11) (by omega) dX3_findBases_0.1.2.2.1 rfl (fun v10 e10 => ?_)
  have hv10 : v10 = 2 ^ x2.toNat ∧ Bs2 v10 := by (have : (x2 = 0 ∧ v10 = 1) ∨ (x2 = 1 ∧ v10 = 2) ∨ (x2 = 2 ∧ v10 = 4) ∨ (x2 = 3 ∧ v10 = 8) ∨ (x2 = 4 ∧ v10 = 16) := by omega); rcases this with ⟨rfl, rfl⟩ | ⟨rfl, rfl⟩ | ⟨rfl, rfl⟩ | ⟨rfl, rfl⟩ | ⟨rfl, rfl⟩ <;> exact ⟨by decide, by unfold Bs2; omega⟩
  refine zW_istore_n (ls' := [_, _, _, _, _, _]) (pc' := 12) dX3_findBases_0.1.2.2.2 (by decide) rfl rfl rfl ?_
  refine zW_iconst (pc' := 13) dX3_findBases_0.2.1.1.1 rfl ?_
  refine zW_istore (ls' := [_, _, _, _, _, _]) (pc' := 15) dX3_findBases_0.2.1.1.2 (by decide) rfl rfl rfl ?_
  exact (main 10000000000000000000000000000000000000000).1 _ _ _ hF (by omega) (by omega) (by first | exact gc0 | exact hv10) (by first | exact gc1.sub (fun u v hp q => by (have q : RgB v3 0 (v4 + v3) u v := q); (obtain ⟨k1, k2, k3, k4⟩ := hp); show RgB v3 v5 v4 u v; omega) | exact (fun u v hp q => by (have q : RgB _ 0 0 u v := q); (obtain ⟨k1, k2, k3, k4⟩ := hp); omega)) (by first | exact bk_nx gc0.2 gc2.1 | exact Int.zero_emod _) hF3 hgh (by omega)

abbrev q_X3_addToAllZ (b : Bd) (κ : Hp) (s1 : Nat) (s2 : Nat) (x3 : Int) (x4 : Int) (F : P3) (Gn : P3) (x : Int) (y : Int) (gh0 : Hp) : Int → Hp → Prop := fun r h' => Fr b κ h' ∧ ((Fw [(s2 + 15)] [] gh0 h') ∧ (PuS (κ 33 0) (κ 33 1) (h' (s2 + 15)) Gn (x + 1) y))
set_option maxHeartbeats 4000000 in
set_option maxRecDepth 20000 in
theorem s_X3_addToAllZ {G : Ga} {b : Bd} {κ h : Hp} (hK : KC κ) (hF : Fr b κ h) (s1 : Nat) (hs1 : 56 ≤ s1 ∧ s1 ≤ 70) (s2 : Nat) (hs2 : 56 ≤ s2 ∧ s2 ≤ 70) (x3 : Int) (hx3 : 0 ≤ x3 ∧ x3 ≤ 255) (x4 : Int) (hx4 : -17000000 ≤ x4 ∧ x4 ≤ 17000000) (F : P3) (Gn : P3) (x : Int) (y : Int) (gh0 : Hp) (hto : OkL b (s2 + 15)) (hne : s1 ≠ s2) (hF3 : FuS (κ 33 0) (κ 33 1) (h (s1 + 15)) F) (hb3 : FB3 (κ 33 0) (κ 33 1) F) (hp : inP (κ 33 0) (κ 33 1) x y) (hs : x3 = 16 * y + x) (hG : ∀ c : Int, 0 ≤ c ∧ c ≤ 2 → Gn c x y = clp (F c x y + x4)) (hU : PuS (κ 33 0) (κ 33 1) (h (s2 + 15)) Gn x y) (hgh : Fw [(s2 + 15)] [] gh0 h) : zM G mX3_addToAll yX3_addToAll [.inr (.inr 87), .inr (.inr s1), .inr (.inr s2), .inl x3, .inl x4] h (q_X3_addToAllZ b κ s1 s2 x3 x4 F Gn x y gh0) := by
  have f_33_0 := KCw hK
  have f_33_1 := KCh hK
  have main : ∀ N : Nat, (∀ (v5 : Int) (h : Hp), Fr b κ h → (0 ≤ v5 ∧ v5 ≤ 1023) → (PuC (κ 33 0) (κ 33 1) (h (s2 + 15)) Gn x y ((v5 - 16 * y - x) / 256)) → ((v5 - 16 * y - x) % 256 = 0 ∧ 16 * y + x ≤ v5) → (FuS (κ 33 0) (κ 33 1) (h (s1 + 15)) F) → (Fw [(s2 + 15)] [] gh0 h) → 350550 + 19 * (1023 - v5) + 18 < (N : Int) → zV G mX3_addToAll (q_X3_addToAllZ b κ s1 s2 x3 x4 F Gn x y gh0) 3 [some (.inr (.inr 87)), some (.inr (.inr s1)), some (.inr (.inr s2)), some (.inl x3), some (.inl x4), some (.inl v5)] [] h) := by
    intro N
    induction N with
    | zero =>
      intro v5 h hF g0 gc0 gc1 hF3 hgh hm
      exfalso; omega
    | succ N ih =>
      have k3 := ih
      intro v5 h hF g0 gc0 gc1 hF3 hgh hm
      refine zW_iload (pc' := 5) dX3_addToAll_0.1.1.2.1 rfl rfl ?_
      refine zW_sipush (pc' := 8) dX3_addToAll_0.1.1.2.2 rfl rfl ?_
      refine zV_cm_ge (tgt := 40) (pc' := 11) dX3_addToAll_0.1.2.1.1 rfl rfl ⟨by omega, by omega⟩ ⟨by omega, by omega⟩ (fun c8 => ?_) (fun c8 => ?_)
      · exact zV_vret rfl dX3_addToAll_1.2 ⟨hF, ⟨hgh, (gc0.en (by obtain ⟨hp1, hp2, hp3, hp4⟩ := id hp; omega))⟩⟩
      · obtain ⟨hp1, hp2, hp3, hp4⟩ := id hp
        refine zW_aload_n (pc' := 12) dX3_addToAll_0.1.2.1.2 rfl rfl ?_
        refine zG_lev (pc' := 15) (by omega) (by omega) fg_X3_27 dX3_addToAll_0.1.2.2.1 rfl ?_
        refine zW_iload (pc' := 17) dX3_addToAll_0.1.2.2.2 rfl rfl ?_
        refine zW_aload_n (pc' := 18) dX3_addToAll_0.2.1.1.1 rfl rfl ?_
        refine zG_lev (pc' := 21) (by omega) (by omega) fg_X3_27 dX3_addToAll_0.2.1.1.2 rfl ?_
        refine zW_iload (pc' := 23) dX3_addToAll_0.2.1.2.1 rfl rfl ?_
        refine zV_iald (pc' := 24) (tabL (by omega) (by omega)) (by omega) dX3_addToAll_0.2.1.2.2 (by decide) rfl ?_
        have q23 := (hF3 ((v5 - 16 * y - x) / 256) (by omega)).at (i := v5) (x := x) (y := y) hp (by omega)
        have b23 := hb3 ((v5 - 16 * y - x) / 256) (by omega) x y hp
        rw [← q23] at b23
        generalize hyv : h (s1 + 15) v5.toNat = yv at q23 b23 ⊢
        refine zW_iload (pc' := 26) dX3_addToAll_0.2.2.1.1 rfl rfl ?_
        refine zW_iadd (pc' := 27) dX3_addToAll_0.2.2.1.2 rfl ?_
        refine csI1 (pc' := 30) kX11_clipped vX11_clipped lk_X3_55 ⟨Nat.le_of_ble_eq_true rfl, Nat.le_of_ble_eq_true rfl⟩ rfl (s_X11_clippedZ hF _ ⟨by omega, by omega⟩) dX3_addToAll_0.2.2.2.1 (Nat.le_of_ble_eq_true rfl) rfl ?_
        rintro r27 z27 ⟨hz27, p27⟩; subst z27
        refine zS_lv (pc' := 31) hF (by omega) (by omega) hto (by omega) dX3_addToAll_0.2.2.2.2 rfl (fun h i30 hF a30 b30 w30 => ?_)
        replace b30 := b30 ⟨by omega, by omega⟩
        replace hgh : Fw [(s2 + 15)] [] gh0 h := by rw [w30]; exact hgh.wc (by simp)
        replace hF3 : FuS (κ 33 0) (κ 33 1) (h (s1 + 15)) F := by have q0_ := (congrFun w30 (s1 + 15)).trans (zfun (by omega)); rw [q0_]; exact hF3
        have hr2 : PuC (κ 33 0) (κ 33 1) (h (s2 + 15)) Gn x y (((v5 - 16 * y - x) / 256) + 1) := by rw [w30, b30]; exact PuC.nx (by omega) (by omega) hp gc0 ⟨by omega, by omega⟩ (by omega) (by rw [hG _ (by omega), p27.2.2, ← q23])
        refine zW_iincW (ls' := [_, _, _, _, _, _]) (pc' := 37) dX3_addToAll_1.1.1 rfl (by decide) rfl rfl rfl ?_
        refine zV_goto 3 dX3_addToAll_1.1.2 rfl ?_
        exact k3 _ _ hF (by omega) (by first | (rw [show (v5 + 256 - 16 * y - x) / 256 = ((v5 - 16 * y - x) / 256) + 1 by omega]; exact hr2) | (rw [show (x3 - 16 * y - x) / 256 = 0 by omega]; exact PuC.st hU)) (by omega) hF3 hgh (by omega)
  refine zM_of [some (.inr (.inr 87)), some (.inr (.inr s1)), some (.inr (.inr s2)), some (.inl x3), some (.inl x4), none] 1 rfl rfl (Nat.le_of_ble_eq_true rfl) rfl ?_
  refine zW_iload_n (pc' := 1) dX3_addToAll_0.1.1.1.1 rfl rfl ?_
  refine zW_istore (ls' := [_, _, _, _, _, _]) (pc' := 3) dX3_addToAll_0.1.1.1.2 (by decide) rfl rfl rfl ?_
  exact (main 10000000000000000000000000000000000000000) _ _ hF (by omega) (by first | (rw [show (v5 + 256 - 16 * y - x) / 256 = ((v5 - 16 * y - x) / 256) + 1 by omega]; exact hr2) | (rw [show (x3 - 16 * y - x) / 256 = 0 by omega]; exact PuC.st hU)) (by omega) hF3 hgh (by omega)

abbrev q_X3_evenBlocksZ (b : Bd) (κ : Hp) (s1 : Nat) (s2 : Nat) (x3 : Int) (x4 : Int) (F : P3) (gh0 : Hp) : Int → Hp → Prop := fun r h' => Fr b κ h' ∧ ((Fw [88, (s2 + 15)] [] gh0 h') ∧ (FuS (κ 33 0) (κ 33 1) (h' (s2 + 15)) (evF (κ 33 0) (κ 33 1) F x3 x4)))
set_option maxHeartbeats 4000000 in
set_option maxRecDepth 20000 in
theorem s_X3_evenBlocksZ {G : Ga} {b : Bd} {κ h : Hp} (hK : KC κ) (hF : Fr b κ h) (s1 : Nat) (hs1 : 56 ≤ s1 ∧ s1 ≤ 70) (s2 : Nat) (hs2 : 56 ≤ s2 ∧ s2 ≤ 70) (x3 : Int) (hx3 : 0 ≤ x3 ∧ x3 ≤ 4) (x4 : Int) (hx4 : 0 ≤ x4 ∧ x4 ≤ 255) (F : P3) (gh0 : Hp) (hto : OkL b (s2 + 15)) (hne : s1 ≠ s2) (hF3 : FuS (κ 33 0) (κ 33 1) (h (s1 + 15)) F) (hb3 : FB3 (κ 33 0) (κ 33 1) F) (hgh : Fw [88, (s2 + 15)] [] gh0 h) : zM G mX3_evenBlocks yX3_evenBlocks [.inr (.inr 87), .inr (.inr s1), .inr (.inr s2), .inl x3, .inl x4] h (q_X3_evenBlocksZ b κ s1 s2 x3 x4 F gh0) := by
  have f_33_0 := KCw hK
  have f_33_1 := KCh hK
  have hmW := mul_b f_33_0 f_33_1
  have main : ∀ N : Nat, (∀ (v5 v6 : Int) (h : Hp), Fr b κ h → (0 ≤ v5 ∧ v5 ≤ 1048320) → (0 ≤ v6 ∧ v6 ≤ 16) → (v6 - κ 33 1 ≤ 0) → (v5 = sumS (fun x y => lgt F x y) (κ 33 0).toNat v6.toNat) → (v5 ≤ 65520 * v6) → (Rg (κ 33 0) (κ 33 1) (h 88) (bsF (κ 33 0) (κ 33 1) F (2 ^ x3.toNat)) (fun _ _ => True)) → (FuS (κ 33 0) (κ 33 1) (h (s1 + 15)) F) → (Fw [88, (s2 + 15)] [] gh0 h) → 135753408 + 87696 * (16 - v6) + 86688 < (N : Int) → zV G mX3_evenBlocks (q_X3_evenBlocksZ b κ s1 s2 x3 x4 F gh0) 12 [some (.inr (.inr 87)), some (.inr (.inr s1)), some (.inr (.inr s2)), some (.inl x3), some (.inl x4), some (.inl v5), some (.inl v6), none, none, none] [] h) ∧ (∀ (v5 v6 v7 v8 : Int) (h : Hp), Fr b κ h → (0 ≤ v5 ∧ v5 ≤ 1048320) → (16 ≤ v6 ∧ v6 ≤ 256) → (0 ≤ v7 ∧ v7 ≤ 1048320) → (0 ≤ v8 ∧ v8 ≤ 16) → (v8 - κ 33 1 ≤ 0) → (v7 = mnL (κ 33 0) (κ 33 1) F) → (Rg (κ 33 0) (κ 33 1) (h 88) (bsF (κ 33 0) (κ 33 1) F (2 ^ x3.toNat)) (fun _ _ => True)) → (PuS (κ 33 0) (κ 33 1) (h (s2 + 15)) (evF (κ 33 0) (κ 33 1) F x3 x4) 0 v8) → (FuS (κ 33 0) (κ 33 1) (h (s1 + 15)) F) → (Fw [88, (s2 + 15)] [] gh0 h) → 99447264 + 87696 * (16 - v8) + 63504 < (N : Int) → zV G mX3_evenBlocks (q_X3_evenBlocksZ b κ s1 s2 x3 x4 F gh0) 107 [some (.inr (.inr 87)), some (.inr (.inr s1)), some (.inr (.inr s2)), some (.inl x3), some (.inl x4), some (.inl v5), some (.inl v6), some (.inl v7), some (.inl v8), none] [] h) ∧ (∀ (v5 v6 v7 v8 v9 : Int) (h : Hp), Fr b κ h → (0 ≤ v5 ∧ v5 ≤ 1048320) → (16 ≤ v6 ∧ v6 ≤ 256) → (0 ≤ v7 ∧ v7 ≤ 1048320) → (0 ≤ v8 ∧ v8 ≤ 15) → (v8 - κ 33 1 ≤ -1) → (0 ≤ v9 ∧ v9 ≤ 16) → (v9 - κ 33 0 ≤ 0) → (v7 = mnL (κ 33 0) (κ 33 1) F) → (Rg (κ 33 0) (κ 33 1) (h 88) (bsF (κ 33 0) (κ 33 1) F (2 ^ x3.toNat)) (fun _ _ => True)) → (PuS (κ 33 0) (κ 33 1) (h (s2 + 15)) (evF (κ 33 0) (κ 33 1) F x3 x4) v9 v8) → (FuS (κ 33 0) (κ 33 1) (h (s1 + 15)) F) → (Fw [88, (s2 + 15)] [] gh0 h) → 99447264 + 87696 * (16 - v8) + 55440 + 56 * (16 - v9) + 55 < (N : Int) → zV G mX3_evenBlocks (q_X3_evenBlocksZ b κ s1 s2 x3 x4 F gh0) 122 [some (.inr (.inr 87)), some (.inr (.inr s1)), some (.inr (.inr s2)), some (.inl x3), some (.inl x4), some (.inl v5), some (.inl v6), some (.inl v7), some (.inl v8), some (.inl v9)] [] h) ∧ (∀ (v5 v6 v7 : Int) (h : Hp), Fr b κ h → (0 ≤ v5 ∧ v5 ≤ 1048320) → (0 ≤ v6 ∧ v6 ≤ 15) → (v6 - κ 33 1 ≤ -1) → (0 ≤ v7 ∧ v7 ≤ 16) → (v7 - κ 33 0 ≤ 0) → (v5 = sumS (fun x y => lgt F x y) (κ 33 0).toNat v6.toNat + sumR (fun x y => lgt F x y) v6 v7.toNat) → (v5 ≤ 65520 * v6 + 4095 * v7) → (Rg (κ 33 0) (κ 33 1) (h 88) (bsF (κ 33 0) (κ 33 1) F (2 ^ x3.toNat)) (fun _ _ => True)) → (FuS (κ 33 0) (κ 33 1) (h (s1 + 15)) F) → (Fw [88, (s2 + 15)] [] gh0 h) → 135753408 + 87696 * (16 - v6) + 21168 + 56 * (16 - v7) + 21 < (N : Int) → zV G mX3_evenBlocks (q_X3_evenBlocksZ b κ s1 s2 x3 x4 F gh0) 27 [some (.inr (.inr 87)), some (.inr (.inr s1)), some (.inr (.inr s2)), some (.inl x3), some (.inl x4), some (.inl v5), some (.inl v6), some (.inl v7), none, none] [] h) := by
    intro N
    induction N with
    | zero =>
      refine ⟨?_, ?_, ?_, ?_⟩
      · intro v5 v6 h hF g0 g1 g2 gc0 gc1 gc2 hF3 hgh hm
        exfalso; omega
      · intro v5 v6 v7 v8 h hF g0 g1 g2 g3 g4 gc0 gc1 gc2 hF3 hgh hm
        exfalso; omega
      · intro v5 v6 v7 v8 v9 h hF g0 g1 g2 g3 g4 g5 g6 gc0 gc1 gc2 hF3 hgh hm
        exfalso; omega
      · intro v5 v6 v7 h hF g0 g1 g2 g3 g4 gc0 gc1 gc2 hF3 hgh hm
        exfalso; omega
    | succ N ih =>
      obtain ⟨k12, k107, k122, k27⟩ := ih
      refine ⟨?_, ?_, ?_, ?_⟩
      · intro v5 v6 h hF g0 g1 g2 gc0 gc1 gc2 hF3 hgh hm
        refine zW_iload (pc' := 14) dX3_evenBlocks_0.2.1.1.1 rfl rfl ?_
        refine zW_aload_n (pc' := 15) dX3_evenBlocks_0.2.1.1.2 rfl rfl ?_
        refine zG_ref (pc' := 18) 33 fg_X3_23 tb87 rfl dX3_evenBlocks_0.2.1.2.1 rfl ?_
        refine zG_key (pc' := 21) hF rfl fg_X3_42 tb33 rfl dX3_evenBlocks_0.2.1.2.2 rfl ?_
        refine zV_cm_ge (tgt := 71) (pc' := 24) dX3_evenBlocks_0.2.2.1.1 rfl rfl ⟨by omega, by omega⟩ ⟨by omega, by omega⟩ (fun c21 => ?_) (fun c21 => ?_)
        · refine zW_aload_n (pc' := 72) dX3_evenBlocks_2.1.1.2.2 rfl rfl ?_
          refine zG_ref (pc' := 75) 33 fg_X3_23 tb87 rfl dX3_evenBlocks_2.1.2.1.1 rfl ?_
          refine zG_key (pc' := 78) hF rfl fg_X3_48 tb33 rfl dX3_evenBlocks_2.1.2.1.2 rfl ?_
          refine zW_aload_n (pc' := 79) dX3_evenBlocks_2.1.2.2.1 rfl rfl ?_
          refine zG_ref (pc' := 82) 33 fg_X3_23 tb87 rfl dX3_evenBlocks_2.1.2.2.2 rfl ?_
          refine zG_key (pc' := 85) hF rfl fg_X3_42 tb33 rfl dX3_evenBlocks_2.2.1.1.1 rfl ?_
          refine zW_imul (pc' := 86) dX3_evenBlocks_2.2.1.1.2 rfl ?_
          refine zW_istore (ls' := [_, _, _, _, _, _, _, _, _, _]) (pc' := 88) dX3_evenBlocks_2.2.1.2.1 (by decide) rfl rfl rfl ?_
          refine zW_iload (pc' := 90) dX3_evenBlocks_2.2.1.2.2 rfl rfl ?_
          refine zV_if_le (tgt := 101) (pc' := 93) dX3_evenBlocks_2.2.2.1.1 rfl rfl ⟨by omega, by omega⟩ (fun c90 => ?_) (fun c90 => ?_)
          · exfalso; omega
          · refine zW_iload (pc' := 95) dX3_evenBlocks_2.2.2.1.2 rfl rfl ?_
            refine zW_iload (pc' := 97) dX3_evenBlocks_2.2.2.2.1 rfl rfl ?_
            refine zW_idivX (pc' := 98) ⟨by omega, by omega⟩ ⟨by omega, by omega⟩ dX3_evenBlocks_2.2.2.2.2 rfl (fun v97 t97 e97 => ?_)
            unfold rng at e97
            have b97 := tdb2 (a := v5) (d := κ 33 0 * κ 33 1) (by omega) (by omega)
            rw [← t97] at b97
            have hmn : v97 = mnL (κ 33 0) (κ 33 1) F := by rw [t97, Int.tdiv_eq_ediv_of_nonneg (by omega), gc0]; unfold mnL; rw [show κ 33 1 = v6 by omega]
            refine zV_goto 102 dX3_evenBlocks_3.1.1.1.1 rfl ?_
            refine zW_istore (ls' := [_, _, _, _, _, _, _, _, _, _]) (pc' := 104) dX3_evenBlocks_3.1.1.2.1 (by decide) rfl rfl rfl ?_
            refine zW_iconst (pc' := 105) dX3_evenBlocks_3.1.1.2.2 rfl ?_
            refine zW_istore (ls' := [_, _, _, _, _, _, _, _, _, _]) (pc' := 107) dX3_evenBlocks_3.1.2.1.1 (by decide) rfl rfl rfl ?_
            exact k107 _ _ _ _ _ hF (by omega) (by omega) (by omega) (by omega) (by omega) (by first | exact gc0 | exact hmn) (by first | exact gc1 | exact gc2) (by first | exact gc2.rowx (by omega) | exact PuS.no) hF3 hgh (by omega)
        · refine zW_iconst (pc' := 25) dX3_evenBlocks_0.2.2.1.2 rfl ?_
          refine zW_istore (ls' := [_, _, _, _, _, _, _, _, _, _]) (pc' := 27) dX3_evenBlocks_0.2.2.2.1 (by decide) rfl rfl rfl ?_
          exact k27 _ _ _ _ hF (by omega) (by omega) (by omega) (by omega) (by omega) (by first | (rw [sr, gc0, Int.add_assoc]; have e9 : r53 = lgt F v7 v6 := p53.2.2; rw [e9]) | (rw [gc0]; exact (Int.add_zero _).symm)) (by omega) gc2 hF3 hgh (by omega)
      · intro v5 v6 v7 v8 h hF g0 g1 g2 g3 g4 gc0 gc1 gc2 hF3 hgh hm
        refine zW_iload (pc' := 109) dX3_evenBlocks_3.1.2.1.2 rfl rfl ?_
        refine zW_aload_n (pc' := 110) dX3_evenBlocks_3.1.2.2.1 rfl rfl ?_
        refine zG_ref (pc' := 113) 33 fg_X3_23 tb87 rfl dX3_evenBlocks_3.1.2.2.2 rfl ?_
        refine zG_key (pc' := 116) hF rfl fg_X3_42 tb33 rfl dX3_evenBlocks_3.2.1.1.1 rfl ?_
        refine zV_cm_ge (tgt := 182) (pc' := 119) dX3_evenBlocks_3.2.1.1.2 rfl rfl ⟨by omega, by omega⟩ ⟨by omega, by omega⟩ (fun c116 => ?_) (fun c116 => ?_)
        · exact zV_vret rfl dX3_evenBlocks_5.2.2.2 ⟨hF, ⟨hgh, (gc2.all (by omega))⟩⟩
        · refine zW_iconst (pc' := 120) dX3_evenBlocks_3.2.1.2.1 rfl ?_
          refine zW_istore (ls' := [_, _, _, _, _, _, _, _, _, _]) (pc' := 122) dX3_evenBlocks_3.2.1.2.2 (by decide) rfl rfl rfl ?_
          exact k122 _ _ _ _ _ _ hF (by omega) (by omega) (by omega) (by omega) (by omega) (by omega) (by omega) gc0 (by first | exact gc1 | (have q0_ := d167.cell (k := 88) (by intro c hc; simp at hc <;> omega) (by intro c hc; simp at hc <;> omega); rw [q0_]; exact gc1)) (by first | exact p167 | exact gc2) hF3 hgh (by omega)
      · intro v5 v6 v7 v8 v9 h hF g0 g1 g2 g3 g4 g5 g6 gc0 gc1 gc2 hF3 hgh hm
        refine zW_iload (pc' := 124) dX3_evenBlocks_3.2.2.1.1 rfl rfl ?_
        refine zW_aload_n (pc' := 125) dX3_evenBlocks_3.2.2.1.2 rfl rfl ?_
        refine zG_ref (pc' := 128) 33 fg_X3_23 tb87 rfl dX3_evenBlocks_3.2.2.2.1 rfl ?_
        refine zG_key (pc' := 131) hF rfl fg_X3_48 tb33 rfl dX3_evenBlocks_3.2.2.2.2 rfl ?_
        refine zV_cm_ge (tgt := 176) (pc' := 134) dX3_evenBlocks_4.1.1.1.1 rfl rfl ⟨by omega, by omega⟩ ⟨by omega, by omega⟩ (fun c131 => ?_) (fun c131 => ?_)
        · refine zW_iinc (ls' := [_, _, _, _, _, _, _, _, _, _]) (pc' := 179) dX3_evenBlocks_5.2.2.1.1 rfl (by decide) rfl rfl rfl ?_
          refine zV_goto 107 dX3_evenBlocks_5.2.2.1.2 rfl ?_
          refine zV_clr 9 (ls' := [_, _, _, _, _, _, _, _, _, _]) rfl ?_
          exact k107 _ _ _ _ _ hF (by omega) (by omega) (by omega) (by omega) (by omega) (by first | exact gc0 | exact hmn) (by first | exact gc1 | exact gc2) (by first | exact gc2.rowx (by omega) | exact PuS.no) hF3 hgh (by omega)
        · refine zW_aload_n (pc' := 135) dX3_evenBlocks_4.1.1.1.2 rfl rfl ?_
          refine zW_aload_n (pc' := 136) dX3_evenBlocks_4.1.1.2.1 rfl rfl ?_
          refine zW_aload_n (pc' := 137) dX3_evenBlocks_4.1.1.2.2 rfl rfl ?_
          refine zW_iload (pc' := 139) dX3_evenBlocks_4.1.2.1.1 rfl rfl ?_
          refine zW_bipush (pc' := 141) dX3_evenBlocks_4.1.2.1.2 rfl rfl ?_
          refine zW_imul (pc' := 142) dX3_evenBlocks_4.1.2.2.1 rfl ?_
          refine zW_iload (pc' := 144) dX3_evenBlocks_4.1.2.2.2 rfl rfl ?_
          refine zW_iadd (pc' := 145) dX3_evenBlocks_4.2.1.1.1 rfl ?_
          refine zW_iload (pc' := 147) dX3_evenBlocks_4.2.1.1.2 rfl rfl ?_
          refine zW_aload_n (pc' := 148) dX3_evenBlocks_4.2.1.2.1 rfl rfl ?_
          refine zG_ref (pc' := 151) 88 fg_X3_9 tb87 rfl dX3_evenBlocks_4.2.1.2.2 rfl ?_
          refine zW_iload (pc' := 153) dX3_evenBlocks_4.2.2.1.1 rfl rfl ?_
          refine zW_bipush (pc' := 155) dX3_evenBlocks_4.2.2.1.2 rfl rfl ?_
          refine zW_imul (pc' := 156) dX3_evenBlocks_4.2.2.2.1 rfl ?_
          refine zW_iload (pc' := 158) dX3_evenBlocks_4.2.2.2.2 rfl rfl ?_
          refine zW_iadd (pc' := 159) dX3_evenBlocks_5.1.1.1.1 rfl ?_
          refine zV_iald (pc' := 160) tb88 (by omega) dX3_evenBlocks_5.1.1.1.2 (by decide) rfl ?_
          have q159 : h 88 (v8 * 16 + v9).toNat = bsF (κ 33 0) (κ 33 1) F (2 ^ x3.toNat) v9 v8 := by rw [show v8 * 16 + v9 = 16 * v8 + v9 by omega]; exact gc1 v9 v8 ⟨by omega, by omega, by omega, by omega⟩ True.intro
          have b159 := bsF_b hb3 (s := 2 ^ x3.toNat) (x := v9) (y := v8) (p2_b ⟨by omega, by omega⟩)
          rw [← q159] at b159
          generalize hyv : h 88 (v8 * 16 + v9).toNat = yv at q159 b159 ⊢
          refine zW_isub (pc' := 161) dX3_evenBlocks_5.1.1.2.1 rfl ?_
          refine zW_iload (pc' := 163) dX3_evenBlocks_5.1.1.2.2 rfl rfl ?_
          refine zW_imul (pc' := 164) dX3_evenBlocks_5.1.2.1.1 rfl ?_
          have q163 := mulS (a := v7 - yv) (b := x4) (A := 1048320) (B := 255) ⟨by omega, by omega⟩ ⟨by omega, by omega⟩
          refine zW_bipush (pc' := 166) dX3_evenBlocks_5.1.2.1.2 rfl rfl ?_
          refine zW_idivS (pc' := 167) ⟨by omega, by omega⟩ (by omega) dX3_evenBlocks_5.1.2.2 rfl (fun v166 e166 => ?_)
          refine cvV4 (pc' := 170) kX3_addToAll vX3_addToAll lk_X3_121 ⟨Nat.le_of_ble_eq_true rfl, Nat.le_of_ble_eq_true rfl⟩ tb87 vq3 rfl rfl (s_X3_addToAllZ hK hF _ ⟨by omega, by omega⟩ _ ⟨by omega, by omega⟩ _ ⟨by omega, by omega⟩ _ ⟨by omega, by omega⟩ F (evF (κ 33 0) (κ 33 1) F x3 x4) v9 v8 h hto (by omega) (by omega) (by omega) ⟨by omega, by omega, by omega, by omega⟩ (by omega) (fun c hc => by have td := tdc (a := (v7 - yv) * x4) (d := 16) (by omega); unfold evF; rw [← q159, ← gc0, show ((v7 - yv) * x4).tdiv 16 = v166 by omega]) gc2 Fw.rf) dX3_evenBlocks_5.2.1.1.1 (Nat.le_of_ble_eq_true rfl) rfl ?_
          rintro r167 h ⟨hF, d167, p167⟩
          replace hF3 : FuS (κ 33 0) (κ 33 1) (h (s1 + 15)) F := by have q0_ := (d167.cell (k := (s1 + 15)) (by intro c hc; simp at hc <;> omega) (by rintro ⟨a, b⟩ hp; simp at hp <;> (show _ ≠ a; omega))); rw [q0_]; exact hF3
          replace hgh : Fw [88, (s2 + 15)] [] gh0 h := hgh.tr d167 (by simp) (by simp)
          refine zW_iinc (ls' := [_, _, _, _, _, _, _, _, _, _]) (pc' := 173) dX3_evenBlocks_5.2.1.1.2 rfl (by decide) rfl rfl rfl ?_
          refine zV_goto 122 dX3_evenBlocks_5.2.1.2 rfl ?_
          exact k122 _ _ _ _ _ _ hF (by omega) (by omega) (by omega) (by omega) (by omega) (by omega) (by omega) gc0 (by first | exact gc1 | (have q0_ := d167.cell (k := 88) (by intro c hc; simp at hc <;> omega) (by intro c hc; simp at hc <;> omega); rw [q0_]; exact gc1)) (by first | exact p167 | exact gc2) hF3 hgh (by omega)
      · intro v5 v6 v7 h hF g0 g1 g2 g3 g4 gc0 gc1 gc2 hF3 hgh hm
        refine zW_iload (pc' := 29) dX3_evenBlocks_0.2.2.2.2 rfl rfl ?_
        refine zW_aload_n (pc' := 30) dX3_evenBlocks_1.1.1.1.1 rfl rfl ?_
        refine zG_ref (pc' := 33) 33 fg_X3_23 tb87 rfl dX3_evenBlocks_1.1.1.1.2 rfl ?_
        refine zG_key (pc' := 36) hF rfl fg_X3_48 tb33 rfl dX3_evenBlocks_1.1.1.2.1 rfl ?_
        refine zV_cm_ge (tgt := 65) (pc' := 39) dX3_evenBlocks_1.1.1.2.2 rfl rfl ⟨by omega, by omega⟩ ⟨by omega, by omega⟩ (fun c36 => ?_) (fun c36 => ?_)
        · have ss := sumS_s (t := (fun x y => lgt F x y)) (w := (κ 33 0).toNat) (v := v6) (by omega)
          refine zW_iinc (ls' := [_, _, _, _, _, _, _, _, _, _]) (pc' := 68) dX3_evenBlocks_2.1.1.1.2 rfl (by decide) rfl rfl rfl ?_
          refine zV_goto 12 dX3_evenBlocks_2.1.1.2.1 rfl ?_
          refine zV_clr 7 (ls' := [_, _, _, _, _, _, _, _, _, _]) rfl ?_
          exact k12 _ _ _ hF (by omega) (by omega) (by omega) (by first | (rw [show v7 = κ 33 0 by omega] at gc0; rw [ss]; exact gc0) | rfl) (by omega) (by first | exact gc2 | exact p3) hF3 hgh (by omega)
        · have sr := sumR_s (t := (fun x y => lgt F x y)) (y := v6) (v := v7) (by omega)
          refine zW_iload (pc' := 41) dX3_evenBlocks_1.1.2.1.1 rfl rfl ?_
          refine zW_aload_n (pc' := 42) dX3_evenBlocks_1.1.2.1.2 rfl rfl ?_
          refine zG_lev (pc' := 45) (by omega) (by omega) fg_X3_27 dX3_evenBlocks_1.1.2.2.1 rfl ?_
          refine zW_iload (pc' := 47) dX3_evenBlocks_1.1.2.2.2 rfl rfl ?_
          refine zW_bipush (pc' := 49) dX3_evenBlocks_1.2.1.1.1 rfl rfl ?_
          refine zW_imul (pc' := 50) dX3_evenBlocks_1.2.1.1.2 rfl ?_
          refine zW_iload (pc' := 52) dX3_evenBlocks_1.2.1.2.1 rfl rfl ?_
          refine zW_iadd (pc' := 53) dX3_evenBlocks_1.2.1.2.2 rfl ?_
          refine csI2 (pc' := 56) kX11_lightOf vX11_lightOf lk_X3_98 ⟨Nat.le_of_ble_eq_true rfl, Nat.le_of_ble_eq_true rfl⟩ rfl (s_X11_lightOfZ hF _ ⟨by omega, by omega⟩ _ ⟨by omega, by omega⟩ (κ 33 0) (κ 33 1) F v7 v6 hF3 hb3 ⟨by omega, by omega, by omega, by omega⟩ (by omega)) dX3_evenBlocks_1.2.2.1.1 (Nat.le_of_ble_eq_true rfl) rfl ?_
          rintro r53 z53 ⟨hz53, p53⟩; subst z53
          refine zW_iadd (pc' := 57) dX3_evenBlocks_1.2.2.1.2 rfl ?_
          refine zW_istore (ls' := [_, _, _, _, _, _, _, _, _, _]) (pc' := 59) dX3_evenBlocks_1.2.2.2.1 (by decide) rfl rfl rfl ?_
          refine zW_iinc (ls' := [_, _, _, _, _, _, _, _, _, _]) (pc' := 62) dX3_evenBlocks_1.2.2.2.2 rfl (by decide) rfl rfl rfl ?_
          refine zV_goto 27 dX3_evenBlocks_2.1.1.1.1 rfl ?_
          exact k27 _ _ _ _ hF (by omega) (by omega) (by omega) (by omega) (by omega) (by first | (rw [sr, gc0, Int.add_assoc]; have e9 : r53 = lgt F v7 v6 := p53.2.2; rw [e9]) | (rw [gc0]; exact (Int.add_zero _).symm)) (by omega) gc2 hF3 hgh (by omega)
  refine zM_of [some (.inr (.inr 87)), some (.inr (.inr s1)), some (.inr (.inr s2)), some (.inl x3), some (.inl x4), none, none, none, none, none] 5 rfl rfl (Nat.le_of_ble_eq_true rfl) rfl ?_
  refine zW_aload_n (pc' := 1) dX3_evenBlocks_0.1.1.1.1 rfl rfl ?_
  refine zW_aload_n (pc' := 2) dX3_evenBlocks_0.1.1.1.2 rfl rfl ?_
  refine zW_iload_n (pc' := 3) dX3_evenBlocks_0.1.1.2.1 rfl rfl ?_
  refine cvV2 (pc' := 6) kX3_findBases vX3_findBases lk_X3_117 ⟨Nat.le_of_ble_eq_true rfl, Nat.le_of_ble_eq_true rfl⟩ tb87 vq3 rfl rfl (s_X3_findBasesZ hK hF _ ⟨by omega, by omega⟩ _ ⟨by omega, by omega⟩ F h (by omega) (by omega) Fw.rf) dX3_evenBlocks_0.1.1.2.2 (Nat.le_of_ble_eq_true rfl) rfl ?_
  rintro r3 h ⟨hF, d3, p3⟩
  replace hF3 : FuS (κ 33 0) (κ 33 1) (h (s1 + 15)) F := by have q0_ := (d3.cell (k := (s1 + 15)) (by intro c hc; simp at hc <;> omega) (by rintro ⟨a, b⟩ hp; simp at hp <;> (show _ ≠ a; omega))); rw [q0_]; exact hF3
  replace hgh : Fw [88, (s2 + 15)] [] gh0 h := hgh.tr d3 (by simp) (by simp)
  refine zW_iconst (pc' := 7) dX3_evenBlocks_0.1.2.1.1 rfl ?_
  refine zW_istore (ls' := [_, _, _, _, _, _, _, _, _, _]) (pc' := 9) dX3_evenBlocks_0.1.2.1.2 (by decide) rfl rfl rfl ?_
  refine zW_iconst (pc' := 10) dX3_evenBlocks_0.1.2.2.1 rfl ?_
  refine zW_istore (ls' := [_, _, _, _, _, _, _, _, _, _]) (pc' := 12) dX3_evenBlocks_0.1.2.2.2 (by decide) rfl rfl rfl ?_
  exact (main 10000000000000000000000000000000000000000).1 _ _ _ hF (by omega) (by omega) (by omega) (by first | (rw [show v7 = κ 33 0 by omega] at gc0; rw [ss]; exact gc0) | rfl) (by omega) (by first | exact gc2 | exact p3) hF3 hgh (by omega)
