/-! lists of levels -/
def rgF (W H x y : Int) : Int := ((2 * x + 1 - W) * (2 * x + 1 - W) + (2 * y + 1 - H) * (2 * y + 1 - H)) * 4 / (W * W + H * H)
def slF (W H P bh r c : Int) (x y : Int) : Int := if (r = -1 ∨ rgF W H x y = r) ∧ (bh = 1 ∨ cl P x y = c) then 1 else 0
def put1 (A : Nat → Int) (n v : Int) : Nat → Int := fun j => if j = n.toNat then v else A j
def laR (s v : Int → Int → Int) (y : Int) (A : Nat → Int) (n : Int) : Nat → Nat → Int
  | 0 => A
  | x + 1 => if s x y = 1 then put1 (laR s v y A n x) (n + sumR s y x) (v x y) else laR s v y A n x
def laS (s v : Int → Int → Int) (w : Nat) : Nat → Nat → Int
  | 0 => fun _ => 0
  | y + 1 => laR s v y (laS s v w y) (sumS s w y) w
theorem laR_1 {s v : Int → Int → Int} {y n x : Int} {A : Nat → Int} (h : 0 ≤ x) (hs : s x y = 1) : laR s v y A n (x + 1).toNat = put1 (laR s v y A n x.toNat) (n + sumR s y x.toNat) (v x y) := by
  rw [show (x + 1).toNat = x.toNat + 1 by omega]
  show (if s ((x.toNat : Nat) : Int) y = 1 then _ else _) = _
  rw [show ((x.toNat : Nat) : Int) = x by omega, if_pos hs]
theorem laR_0 {s v : Int → Int → Int} {y n x : Int} {A : Nat → Int} (h : 0 ≤ x) (hs : s x y = 0) : laR s v y A n (x + 1).toNat = laR s v y A n x.toNat := by
  rw [show (x + 1).toNat = x.toNat + 1 by omega]
  show (if s ((x.toNat : Nat) : Int) y = 1 then _ else _) = _
  rw [show ((x.toNat : Nat) : Int) = x by omega, if_neg (by omega)]
theorem laS_s {s v : Int → Int → Int} {w : Nat} {y : Int} (h : 0 ≤ y) : laS s v w (y + 1).toNat = laR s v y (laS s v w y.toNat) (sumS s w y.toNat) w := by
  rw [show (y + 1).toNat = y.toNat + 1 by omega]
  show laR s v ((y.toNat : Nat) : Int) (laS s v w y.toNat) (sumS s w y.toNat) w = _
  rw [show ((y.toNat : Nat) : Int) = y by omega]
def LiO (R M : Nat → Int) (n : Int) : Prop := ∀ j : Nat, (j : Int) < n → R j = M j ∧ 0 ≤ M j ∧ M j ≤ 4095
theorem LiO.no {R M : Nat → Int} : LiO R M 0 := fun j hj => absurd hj (by omega)
theorem LiO.put {R R' M : Nat → Int} {n v : Int} (h : LiO R M n) (hn : 0 ≤ n) (hv : 0 ≤ v ∧ v ≤ 4095) (h1 : R' n.toNat = v) (h2 : ∀ i : Nat, i ≠ n.toNat → R' i = R i) : LiO R' (put1 M n v) (n + 1) := fun j hj => by
  unfold put1
  by_cases e : j = n.toNat
  · rw [if_pos e, e]; exact ⟨h1, hv⟩
  · rw [if_neg e, h2 j e]; exact h j (by omega)
theorem slF_01 {W H P bh r c x y : Int} : slF W H P bh r c x y = 0 ∨ slF W H P bh r c x y = 1 := by
  unfold slF
  split
  · exact Or.inr rfl
  · exact Or.inl rfl
/-- the list's sum -/
def seqS (M : Nat → Int) : Nat → Int
  | 0 => 0
  | i + 1 => seqS M i + M i
theorem seqS_s {M : Nat → Int} {i : Int} (h : 0 ≤ i) : seqS M (i + 1).toNat = seqS M i.toNat + M i.toNat := by
  rw [show (i + 1).toNat = i.toNat + 1 by omega]
  rfl
theorem seqS_cong {M N : Nat → Int} : ∀ n : Nat, (∀ j, j < n → M j = N j) → seqS M n = seqS N n
  | 0, _ => rfl
  | n + 1, h => by
    show seqS M n + M n = seqS N n + N n
    rw [seqS_cong n (fun j hj => h j (by omega)), h n (by omega)]
theorem seqS_put {A : Nat → Int} {n v : Int} (h : 0 ≤ n) : seqS (put1 A n v) (n + 1).toNat = seqS A n.toNat + v := by
  rw [seqS_s h]
  have a : put1 A n v n.toNat = v := if_pos rfl
  rw [a, seqS_cong (M := put1 A n v) (N := A) n.toNat (fun j hj => if_neg (by omega))]
def svF (s v : Int → Int → Int) (x y : Int) : Int := if s x y = 1 then v x y else 0
theorem sumR_nn {s : Int → Int → Int} (h : ∀ x y, s x y = 0 ∨ s x y = 1) {y : Int} : ∀ n : Nat, 0 ≤ sumR s y n ∧ sumR s y n ≤ n
  | 0 => ⟨Int.le_refl 0, Int.le_refl 0⟩
  | n + 1 => by
    have a := sumR_nn h (y := y) n
    have b := h n y
    show 0 ≤ sumR s y n + s n y ∧ sumR s y n + s n y ≤ _
    omega
theorem sumS_nn {s : Int → Int → Int} (h : ∀ x y, s x y = 0 ∨ s x y = 1) {w : Nat} : ∀ n : Nat, 0 ≤ sumS s w n
  | 0 => Int.le_refl 0
  | n + 1 => by
    have a := sumS_nn h (w := w) n
    have b := sumR_nn h (y := n) w
    show 0 ≤ sumS s w n + sumR s n w
    omega
theorem laR_sum {s v : Int → Int → Int} (h : ∀ x y, s x y = 0 ∨ s x y = 1) {y n : Int} {A : Nat → Int} (hn : 0 ≤ n) : ∀ x : Nat, seqS (laR s v y A n x) (n + sumR s y x).toNat = seqS A n.toNat + sumR (svF s v) y x
  | 0 => by
    show seqS A (n + 0).toNat = seqS A n.toNat + 0
    rw [Int.add_zero, Int.add_zero]
  | x + 1 => by
    have ih := laR_sum (v := v) (A := A) h (y := y) hn x
    have b := sumR_nn h (y := y) x
    show seqS (if s x y = 1 then put1 (laR s v y A n x) (n + sumR s y x) (v x y) else laR s v y A n x) (n + (sumR s y x + s x y)).toNat = seqS A n.toNat + (sumR (svF s v) y x + (if s x y = 1 then v x y else 0))
    rcases h x y with e | e
    · rw [if_neg (by omega), if_neg (by omega), e, Int.add_zero, Int.add_zero]; exact ih
    · rw [if_pos e, if_pos e, e, show n + (sumR s y x + 1) = n + sumR s y x + 1 by omega, seqS_put (by omega), ih]; omega
theorem laS_sum {s v : Int → Int → Int} (h : ∀ x y, s x y = 0 ∨ s x y = 1) {w : Nat} : ∀ y : Nat, seqS (laS s v w y) (sumS s w y).toNat = sumS (svF s v) w y
  | 0 => rfl
  | y + 1 => by
    have z := laR_sum (v := v) (A := laS s v w y) h (y := y) (sumS_nn h (w := w) y) w
    show seqS (laR s v y (laS s v w y) (sumS s w y) w) (sumS s w y + sumR s y w).toNat = sumS (svF s v) w y + sumR (svF s v) y w
    rw [z, laS_sum h y]
def rgQ (W H P n : Int) (lt bh : Int → Int) (pc : Int → P3) (nm : Int → Nat → Int) (k c i w : Int) : Int := if 0 ≤ k ∧ k ≤ n ∧ 0 ≤ c ∧ c ≤ 2 ∧ 0 ≤ i ∧ i ≤ 3 ∧ 0 ≤ w ∧ w ≤ 1 then (if w = 0 then sumS (slF W H P (bh k) i c) W.toNat H.toNat else if sumS (slF W H P (bh k) i c) W.toNat H.toNat = 0 then -2 else sumS (svF (slF W H P (bh k) i c) (pc k c)) W.toNat H.toNat / sumS (slF W H P (bh k) i c) W.toNat H.toNat) else -1
/-- a sheet's level, of the plane or of the square, as its state says -/
theorem PkS_at {κ h : Hp} {s j : Nat} {T : P3} {bb : Int} (p : PkS κ h s j T) (e : bb = bhI (LC κ) j) (hb : FB3 (κ 33 0) (κ 33 1) T) (hc0 : noF (LC κ) j → ∀ c x y : Int, 0 ≤ c ∧ c ≤ 2 → T c x y = T 0 x y) : ∀ c x y : Int, 0 ≤ c ∧ c ≤ 2 → inP (κ 33 0) (κ 33 1) x y → h (s + 15) (if bb = 1 then 256 * c + (16 * y + x) else 16 * y + x).toNat = T c x y ∧ 0 ≤ T c x y ∧ T c x y ≤ 4095 := fun c x y hc hp => by
  refine ⟨?_, hb c hc x y hp⟩
  rcases bhI_c (LC κ) j with ⟨a, b⟩ | ⟨a, b⟩
  · rw [if_neg (by omega), (p.1 b).1 x y hp, hc0 b c x y hc]
  · rw [if_pos (by omega), show 256 * c + (16 * y + x) = 256 * c + 16 * y + x by omega]
    exact (p.2 b).1 c hc x y hp


abbrev q_X12_ringOfZ (κ h : Hp) (x1 : Int) (x2 : Int) : Int → Hp → Prop := fun r h' => h' = h ∧ ((0 ≤ r) ∧ (r ≤ 7688) ∧ (r = rgF (κ 0 11) (κ 0 12) x1 x2))
set_option maxHeartbeats 4000000 in
set_option maxRecDepth 20000 in
theorem s_X12_ringOfZ {G : Ga} {b : Bd} {κ h : Hp} (hK : KR κ) (hF : Fr b κ h) (x1 : Int) (hx1 : 0 ≤ x1 ∧ x1 ≤ 15 ∧ x1 - κ 0 11 ≤ -1) (x2 : Int) (hx2 : 0 ≤ x2 ∧ x2 ≤ 15 ∧ x2 - κ 0 12 ≤ -1) : zM G mX12_ringOf yX12_ringOf [.inr (.inr 0), .inl x1, .inl x2] h (q_X12_ringOfZ κ h x1 x2) := by
  have f_0_11 := KRw hK
  have f_0_12 := KRh hK
  refine zM_of [some (.inr (.inr 0)), some (.inl x1), some (.inl x2), none, none] 2 rfl rfl (Nat.le_of_ble_eq_true rfl) rfl ?_
  refine zW_iconst (pc' := 1) dX12_ringOf_0.1.1.1.1 rfl ?_
  refine zW_iload_n (pc' := 2) dX12_ringOf_0.1.1.1.2 rfl rfl ?_
  refine zW_imul (pc' := 3) dX12_ringOf_0.1.1.2.1 rfl ?_
  refine zW_iconst (pc' := 4) dX12_ringOf_0.1.1.2.2 rfl ?_
  refine zW_iadd (pc' := 5) dX12_ringOf_0.1.2.1.1 rfl ?_
  refine zW_aload_n (pc' := 6) dX12_ringOf_0.1.2.1.2 rfl rfl ?_
  refine zG_key (pc' := 9) hF rfl fg_X12_99 tb0 rfl dX12_ringOf_0.1.2.2.1 rfl ?_
  refine zW_isub (pc' := 10) dX12_ringOf_0.1.2.2.2 rfl ?_
  refine zW_istore_n (ls' := [_, _, _, _, _]) (pc' := 11) dX12_ringOf_0.2.1.1.1 (by decide) rfl rfl rfl ?_
  refine zW_iconst (pc' := 12) dX12_ringOf_0.2.1.1.2 rfl ?_
  refine zW_iload_n (pc' := 13) dX12_ringOf_0.2.1.2.1 rfl rfl ?_
  refine zW_imul (pc' := 14) dX12_ringOf_0.2.1.2.2 rfl ?_
  refine zW_iconst (pc' := 15) dX12_ringOf_0.2.2.1.1 rfl ?_
  refine zW_iadd (pc' := 16) dX12_ringOf_0.2.2.1.2 rfl ?_
  refine zW_aload_n (pc' := 17) dX12_ringOf_0.2.2.2.1 rfl rfl ?_
  refine zG_key (pc' := 20) hF rfl fg_X12_103 tb0 rfl dX12_ringOf_0.2.2.2.2 rfl ?_
  refine zW_isub (pc' := 21) dX12_ringOf_1.1.1.1.1 rfl ?_
  refine zW_istore (ls' := [_, _, _, _, _]) (pc' := 23) dX12_ringOf_1.1.1.1.2 (by decide) rfl rfl rfl ?_
  refine zW_iload_n (pc' := 24) dX12_ringOf_1.1.1.2.1 rfl rfl ?_
  refine zW_iload_n (pc' := 25) dX12_ringOf_1.1.1.2.2 rfl rfl ?_
  have qx := sqb (a := 2 * x1 + 1 - κ 0 11) (A := 31) ⟨by omega, by omega⟩
  have qy := sqb (a := 2 * x2 + 1 - κ 0 12) (A := 31) ⟨by omega, by omega⟩
  refine zW_imul (pc' := 26) dX12_ringOf_1.1.2.1.1 rfl ?_
  refine zW_iload (pc' := 28) dX12_ringOf_1.1.2.1.2 rfl rfl ?_
  refine zW_iload (pc' := 30) dX12_ringOf_1.1.2.2.1 rfl rfl ?_
  refine zW_imul (pc' := 31) dX12_ringOf_1.1.2.2.2 rfl ?_
  refine zW_iadd (pc' := 32) dX12_ringOf_1.2.1.1.1 rfl ?_
  refine zW_iconst (pc' := 33) dX12_ringOf_1.2.1.1.2 rfl ?_
  refine zW_imul (pc' := 34) dX12_ringOf_1.2.1.2.1 rfl ?_
  refine zW_aload_n (pc' := 35) dX12_ringOf_1.2.1.2.2 rfl rfl ?_
  refine zG_key (pc' := 38) hF rfl fg_X12_99 tb0 rfl dX12_ringOf_1.2.2.1.1 rfl ?_
  refine zW_aload_n (pc' := 39) dX12_ringOf_1.2.2.1.2 rfl rfl ?_
  refine zG_key (pc' := 42) hF rfl fg_X12_99 tb0 rfl dX12_ringOf_1.2.2.2.1 rfl ?_
  refine zW_imul (pc' := 43) dX12_ringOf_1.2.2.2.2 rfl ?_
  refine zW_aload_n (pc' := 44) dX12_ringOf_2.1.1.1 rfl rfl ?_
  refine zG_key (pc' := 47) hF rfl fg_X12_103 tb0 rfl dX12_ringOf_2.1.1.2 rfl ?_
  refine zW_aload_n (pc' := 48) dX12_ringOf_2.1.2.1 rfl rfl ?_
  refine zG_key (pc' := 51) hF rfl fg_X12_103 tb0 rfl dX12_ringOf_2.1.2.2 rfl ?_
  refine zW_imul (pc' := 52) dX12_ringOf_2.2.1.1 rfl ?_
  refine zW_iadd (pc' := 53) dX12_ringOf_2.2.1.2 rfl ?_
  have hm1 := mul_b f_0_11 f_0_11
  have hm2 := mul_b f_0_12 f_0_12
  refine zW_idivX (pc' := 54) ⟨by omega, by omega⟩ ⟨by omega, by omega⟩ dX12_ringOf_2.2.2.1 rfl (fun v53 t53 e53 => ?_)
  unfold rng at e53
  have hq := tdb2 (a := ((2 * x1 + 1 - κ 0 11) * (2 * x1 + 1 - κ 0 11) + (2 * x2 + 1 - κ 0 12) * (2 * x2 + 1 - κ 0 12)) * 4) (d := κ 0 11 * κ 0 11 + κ 0 12 * κ 0 12) (by omega) (by omega)
  exact zV_iret rfl dX12_ringOf_2.2.2.2 ⟨rfl, (by have e : v53 = rgF (κ 0 11) (κ 0 12) x1 x2 := (by unfold rgF; rw [t53, Int.tdiv_eq_ediv_of_nonneg (by omega)]); rw [← t53] at hq; exact ⟨by omega, by omega, e⟩)⟩

abbrev q_X4_ringOfZ (κ h : Hp) (x1 : Int) (x2 : Int) : Int → Hp → Prop := fun r h' => h' = h ∧ ((0 ≤ r) ∧ (r ≤ 7688) ∧ (r = rgF (κ 33 0) (κ 33 1) x1 x2))
set_option maxHeartbeats 4000000 in
set_option maxRecDepth 20000 in
theorem s_X4_ringOfZ {G : Ga} {b : Bd} {κ h : Hp} (hK : KC κ) (hF : Fr b κ h) (x1 : Int) (hx1 : 0 ≤ x1 ∧ x1 ≤ 15 ∧ x1 - κ 33 0 ≤ -1) (x2 : Int) (hx2 : 0 ≤ x2 ∧ x2 ≤ 15 ∧ x2 - κ 33 1 ≤ -1) : zM G mX4_ringOf yX4_ringOf [.inr (.inr 95), .inl x1, .inl x2] h (q_X4_ringOfZ κ h x1 x2) := by
  have f_33_0 := KCw hK
  have f_33_1 := KCh hK
  refine zM_of [some (.inr (.inr 95)), some (.inl x1), some (.inl x2), none, none, none] 3 rfl rfl (Nat.le_of_ble_eq_true rfl) rfl ?_
  refine zW_iconst (pc' := 1) dX4_ringOf_0.1.1.1.1 rfl ?_
  refine zW_iload_n (pc' := 2) dX4_ringOf_0.1.1.1.2 rfl rfl ?_
  refine zW_imul (pc' := 3) dX4_ringOf_0.1.1.2.1 rfl ?_
  refine zW_iconst (pc' := 4) dX4_ringOf_0.1.1.2.2 rfl ?_
  refine zW_iadd (pc' := 5) dX4_ringOf_0.1.2.1.1 rfl ?_
  refine zW_aload_n (pc' := 6) dX4_ringOf_0.1.2.1.2 rfl rfl ?_
  refine zG_ref (pc' := 9) 33 fg_X4_19 tb95 rfl dX4_ringOf_0.1.2.2.1 rfl ?_
  refine zG_key (pc' := 12) hF rfl fg_X4_36 tb33 rfl dX4_ringOf_0.1.2.2.2 rfl ?_
  refine zW_isub (pc' := 13) dX4_ringOf_0.2.1.1.1 rfl ?_
  refine zW_istore_n (ls' := [_, _, _, _, _, _]) (pc' := 14) dX4_ringOf_0.2.1.1.2 (by decide) rfl rfl rfl ?_
  refine zW_iconst (pc' := 15) dX4_ringOf_0.2.1.2.1 rfl ?_
  refine zW_iload_n (pc' := 16) dX4_ringOf_0.2.1.2.2 rfl rfl ?_
  refine zW_imul (pc' := 17) dX4_ringOf_0.2.2.1.1 rfl ?_
  refine zW_iconst (pc' := 18) dX4_ringOf_0.2.2.1.2 rfl ?_
  refine zW_iadd (pc' := 19) dX4_ringOf_0.2.2.2.1 rfl ?_
  refine zW_aload_n (pc' := 20) dX4_ringOf_0.2.2.2.2 rfl rfl ?_
  refine zG_ref (pc' := 23) 33 fg_X4_19 tb95 rfl dX4_ringOf_1.1.1.1.1 rfl ?_
  refine zG_key (pc' := 26) hF rfl fg_X4_31 tb33 rfl dX4_ringOf_1.1.1.1.2 rfl ?_
  refine zW_isub (pc' := 27) dX4_ringOf_1.1.1.2.1 rfl ?_
  refine zW_istore (ls' := [_, _, _, _, _, _]) (pc' := 29) dX4_ringOf_1.1.1.2.2 (by decide) rfl rfl rfl ?_
  refine zW_aload_n (pc' := 30) dX4_ringOf_1.1.2.1.1 rfl rfl ?_
  refine zG_ref (pc' := 33) 33 fg_X4_19 tb95 rfl dX4_ringOf_1.1.2.1.2 rfl ?_
  refine zG_key (pc' := 36) hF rfl fg_X4_36 tb33 rfl dX4_ringOf_1.1.2.2.1 rfl ?_
  refine zW_aload_n (pc' := 37) dX4_ringOf_1.1.2.2.2 rfl rfl ?_
  refine zG_ref (pc' := 40) 33 fg_X4_19 tb95 rfl dX4_ringOf_1.2.1.1.1 rfl ?_
  refine zG_key (pc' := 43) hF rfl fg_X4_36 tb33 rfl dX4_ringOf_1.2.1.1.2 rfl ?_
  refine zW_imul (pc' := 44) dX4_ringOf_1.2.1.2.1 rfl ?_
  refine zW_aload_n (pc' := 45) dX4_ringOf_1.2.1.2.2 rfl rfl ?_
  refine zG_ref (pc' := 48) 33 fg_X4_19 tb95 rfl dX4_ringOf_1.2.2.1.1 rfl ?_
  refine zG_key (pc' := 51) hF rfl fg_X4_31 tb33 rfl dX4_ringOf_1.2.2.1.2 rfl ?_
  refine zW_aload_n (pc' := 52) dX4_ringOf_1.2.2.2.1 rfl rfl ?_
  refine zG_ref (pc' := 55) 33 fg_X4_19 tb95 rfl dX4_ringOf_1.2.2.2.2 rfl ?_
  refine zG_key (pc' := 58) hF rfl fg_X4_31 tb33 rfl dX4_ringOf_2.1.1.1.1 rfl ?_
  refine zW_imul (pc' := 59) dX4_ringOf_2.1.1.1.2 rfl ?_
  refine zW_iadd (pc' := 60) dX4_ringOf_2.1.1.2.1 rfl ?_
  refine zW_istore (ls' := [_, _, _, _, _, _]) (pc' := 62) dX4_ringOf_2.1.1.2.2 (by decide) rfl rfl rfl ?_
  have hm1 := mul_b f_33_0 f_33_0
  have hm2 := mul_b f_33_1 f_33_1
  refine zW_iload (pc' := 64) dX4_ringOf_2.1.2.1.1 rfl rfl ?_
  refine zV_if_le (tgt := 84) (pc' := 67) dX4_ringOf_2.1.2.1.2 rfl rfl ⟨by omega, by omega⟩ (fun c64 => ?_) (fun c64 => ?_)
  · exfalso; omega
  · refine zW_iload_n (pc' := 68) dX4_ringOf_2.1.2.2.1 rfl rfl ?_
    refine zW_iload_n (pc' := 69) dX4_ringOf_2.1.2.2.2 rfl rfl ?_
    have qx := sqb (a := 2 * x1 + 1 - κ 33 0) (A := 31) ⟨by omega, by omega⟩
    have qy := sqb (a := 2 * x2 + 1 - κ 33 1) (A := 31) ⟨by omega, by omega⟩
    refine zW_imul (pc' := 70) dX4_ringOf_2.2.1.1.1 rfl ?_
    refine zW_iload (pc' := 72) dX4_ringOf_2.2.1.1.2 rfl rfl ?_
    refine zW_iload (pc' := 74) dX4_ringOf_2.2.1.2.1 rfl rfl ?_
    refine zW_imul (pc' := 75) dX4_ringOf_2.2.1.2.2 rfl ?_
    refine zW_iadd (pc' := 76) dX4_ringOf_2.2.2.1.1 rfl ?_
    refine zW_iconst (pc' := 77) dX4_ringOf_2.2.2.1.2 rfl ?_
    refine zW_imul (pc' := 78) dX4_ringOf_2.2.2.2.1 rfl ?_
    refine zW_iload (pc' := 80) dX4_ringOf_2.2.2.2.2 rfl rfl ?_
    refine zW_idivX (pc' := 81) ⟨by omega, by omega⟩ ⟨by omega, by omega⟩ dX4_ringOf_3.1.1 rfl (fun v80 t80 e80 => ?_)
    unfold rng at e80
    have hq := tdb2 (a := ((2 * x1 + 1 - κ 33 0) * (2 * x1 + 1 - κ 33 0) + (2 * x2 + 1 - κ 33 1) * (2 * x2 + 1 - κ 33 1)) * 4) (d := κ 33 0 * κ 33 0 + κ 33 1 * κ 33 1) (by omega) (by omega)
    refine zV_goto 85 dX4_ringOf_3.1.2 rfl ?_
    exact zV_iret rfl dX4_ringOf_3.2.2 ⟨rfl, (by first | (exfalso; omega) | (have e : v80 = rgF (κ 33 0) (κ 33 1) x1 x2 := (by unfold rgF; rw [t80, Int.tdiv_eq_ediv_of_nonneg (by omega)]); rw [← t80] at hq; exact ⟨by omega, by omega, e⟩))⟩

abbrev q_X4_gatherRingZ (b : Bd) (κ : Hp) (s1 : Nat) (x2 : Int) (x3 : Int) (T : P3) (bb : Int) (gh0 : Hp) : Int → Hp → Prop := fun r h' => Fr b κ h' ∧ ((Fw [96] [(95, 0)] gh0 h') ∧ (h' 95 0 = sumS (slF (κ 33 0) (κ 33 1) (κ 33 2) bb x3 x2) (κ 33 0).toNat (κ 33 1).toNat ∧ LiO (h' 96) (laS (slF (κ 33 0) (κ 33 1) (κ 33 2) bb x3 x2) (T x2) (κ 33 0).toNat (κ 33 1).toNat) (h' 95 0)))
set_option maxHeartbeats 4000000 in
set_option maxRecDepth 20000 in
theorem s_X4_gatherRingZ {G : Ga} {b : Bd} {κ h : Hp} (hK : KC κ) (hF : Fr b κ h) (s1 : Nat) (hs1 : 56 ≤ s1 ∧ s1 ≤ 70) (x2 : Int) (hx2 : 0 ≤ x2 ∧ x2 ≤ 2) (x3 : Int) (hx3 : -1 ≤ x3 ∧ x3 ≤ 3) (T : P3) (bb : Int) (gh0 : Hp) (hbb : h s1 1 = bb) (hb01 : 0 ≤ bb ∧ bb ≤ 1) (hAt : ∀ x y : Int, inP (κ 33 0) (κ 33 1) x y → h (s1 + 15) (if bb = 1 then 256 * x2 + (16 * y + x) else 16 * y + x).toNat = T x2 x y ∧ 0 ≤ T x2 x y ∧ T x2 x y ≤ 4095) (hgh : Fw [96] [(95, 0)] gh0 h) : zM G mX4_gatherRing yX4_gatherRing [.inr (.inr 95), .inr (.inr s1), .inl x2, .inl x3] h (q_X4_gatherRingZ b κ s1 x2 x3 T bb gh0) := by
  have f_33_0 := KCw hK
  have f_33_1 := KCh hK
  have f_33_2 := KCp hK
  have main : ∀ N : Nat, (∀ (v4 : Int) (h : Hp), Fr b κ h → (0 ≤ v4 ∧ v4 ≤ 16) → (v4 - κ 33 1 ≤ 0) → (h 95 0 = sumS (slF (κ 33 0) (κ 33 1) (κ 33 2) bb x3 x2) (κ 33 0).toNat v4.toNat) → (LiO (h 96) (laS (slF (κ 33 0) (κ 33 1) (κ 33 2) bb x3 x2) (T x2) (κ 33 0).toNat v4.toNat) (h 95 0)) → (0 ≤ h 95 0 ∧ h 95 0 ≤ 16 * v4) → (∀ x y : Int, inP (κ 33 0) (κ 33 1) x y → h (s1 + 15) (if bb = 1 then 256 * x2 + (16 * y + x) else 16 * y + x).toNat = T x2 x y ∧ 0 ≤ T x2 x y ∧ T x2 x y ≤ 4095) → (h s1 1 = bb) → (Fw [96] [(95, 0)] gh0 h) → 76826880 + 66690 * (16 - v4) + 65664 < (N : Int) → zV G mX4_gatherRing (q_X4_gatherRingZ b κ s1 x2 x3 T bb gh0) 8 [some (.inr (.inr 95)), some (.inr (.inr s1)), some (.inl x2), some (.inl x3), some (.inl v4), none, none] [] h) ∧ (∀ (v4 v5 : Int) (h : Hp), Fr b κ h → (0 ≤ v4 ∧ v4 ≤ 15) → (v4 - κ 33 1 ≤ -1) → (0 ≤ v5 ∧ v5 ≤ 16) → (v5 - κ 33 0 ≤ 0) → (h 95 0 = sumS (slF (κ 33 0) (κ 33 1) (κ 33 2) bb x3 x2) (κ 33 0).toNat v4.toNat + sumR (slF (κ 33 0) (κ 33 1) (κ 33 2) bb x3 x2) v4 v5.toNat) → (LiO (h 96) (laR (slF (κ 33 0) (κ 33 1) (κ 33 2) bb x3 x2) (T x2) v4 (laS (slF (κ 33 0) (κ 33 1) (κ 33 2) bb x3 x2) (T x2) (κ 33 0).toNat v4.toNat) (sumS (slF (κ 33 0) (κ 33 1) (κ 33 2) bb x3 x2) (κ 33 0).toNat v4.toNat) v5.toNat) (h 95 0)) → (0 ≤ h 95 0 ∧ h 95 0 ≤ 16 * v4 + v5) → (∀ x y : Int, inP (κ 33 0) (κ 33 1) x y → h (s1 + 15) (if bb = 1 then 256 * x2 + (16 * y + x) else 16 * y + x).toNat = T x2 x y ∧ 0 ≤ T x2 x y ∧ T x2 x y ≤ 4095) → (h s1 1 = bb) → (Fw [96] [(95, 0)] gh0 h) → 76826880 + 66690 * (16 - v4) + 57456 + 57 * (16 - v5) + 56 < (N : Int) → zV G mX4_gatherRing (q_X4_gatherRingZ b κ s1 x2 x3 T bb gh0) 23 [some (.inr (.inr 95)), some (.inr (.inr s1)), some (.inl x2), some (.inl x3), some (.inl v4), some (.inl v5), none] [] h) := by
    intro N
    induction N with
    | zero =>
      refine ⟨?_, ?_⟩
      · intro v4 h hF g0 g1 gc0 gc1 gc2 hAt hbb hgh hm
        exfalso; omega
      · intro v4 v5 h hF g0 g1 g2 g3 gc0 gc1 gc2 hAt hbb hgh hm
        exfalso; omega
    | succ N ih =>
      obtain ⟨k8, k23⟩ := ih
      refine ⟨?_, ?_⟩
      · intro v4 h hF g0 g1 gc0 gc1 gc2 hAt hbb hgh hm
        refine zW_iload (pc' := 10) dX4_gatherRing_0.1.2.1.2 rfl rfl ?_
        refine zW_aload_n (pc' := 11) dX4_gatherRing_0.1.2.2.1 rfl rfl ?_
        refine zG_ref (pc' := 14) 33 fg_X4_19 tb95 rfl dX4_gatherRing_0.1.2.2.2 rfl ?_
        refine zG_key (pc' := 17) hF rfl fg_X4_31 tb33 rfl dX4_gatherRing_0.2.1.1.1 rfl ?_
        refine zV_cm_ge (tgt := 134) (pc' := 20) dX4_gatherRing_0.2.1.1.2 rfl rfl ⟨by omega, by omega⟩ ⟨by omega, by omega⟩ (fun c17 => ?_) (fun c17 => ?_)
        · exact zV_vret rfl dX4_gatherRing_4.2.2 ⟨hF, ⟨hgh, (by have e : v4 = κ 33 1 := (by omega); rw [e] at gc0 gc1; exact ⟨gc0, gc1⟩)⟩⟩
        · refine zW_iconst (pc' := 21) dX4_gatherRing_0.2.1.2.1 rfl ?_
          refine zW_istore (ls' := [_, _, _, _, _, _, _]) (pc' := 23) dX4_gatherRing_0.2.1.2.2 (by decide) rfl rfl rfl ?_
          exact k23 _ _ _ hF (by omega) (by omega) (by omega) (by omega) (by first | (rw [sgu, hn1, z119, hy53, gc0]; omega) | (rw [sgu, hn0, gc0]; omega) | (rw [gc0]; exact (Int.add_zero _).symm)) (by first | exact hl2 | (rw [la]; exact gc1) | exact gc1) (by omega) hAt hbb hgh (by omega)
      · intro v4 v5 h hF g0 g1 g2 g3 gc0 gc1 gc2 hAt hbb hgh hm
        refine zW_iload (pc' := 25) dX4_gatherRing_0.2.2.1.1 rfl rfl ?_
        refine zW_aload_n (pc' := 26) dX4_gatherRing_0.2.2.1.2 rfl rfl ?_
        refine zG_ref (pc' := 29) 33 fg_X4_19 tb95 rfl dX4_gatherRing_0.2.2.2.1 rfl ?_
        refine zG_key (pc' := 32) hF rfl fg_X4_36 tb33 rfl dX4_gatherRing_0.2.2.2.2 rfl ?_
        refine zV_cm_ge (tgt := 128) (pc' := 35) dX4_gatherRing_1.1.1.1.1 rfl rfl ⟨by omega, by omega⟩ ⟨by omega, by omega⟩ (fun c32 => ?_) (fun c32 => ?_)
        · have ugu := sumS_s (t := (slF (κ 33 0) (κ 33 1) (κ 33 2) bb x3 x2)) (w := (κ 33 0).toNat) (v := v4) (by omega)
          have lau := laS_s (s := (slF (κ 33 0) (κ 33 1) (κ 33 2) bb x3 x2)) (v := (T x2)) (w := (κ 33 0).toNat) (y := v4) (by omega)
          refine zW_iinc (ls' := [_, _, _, _, _, _, _]) (pc' := 131) dX4_gatherRing_4.1.2 rfl (by decide) rfl rfl rfl ?_
          refine zV_goto 8 dX4_gatherRing_4.2.1 rfl ?_
          refine zV_clr 5 (ls' := [_, _, _, _, _, _, _]) rfl ?_
          exact k8 _ _ hF (by omega) (by omega) (by first | (rw [z2]; rfl) | (rw [ugu, gc0, show v5 = κ 33 0 by omega])) (by first | (rw [z2]; exact LiO.no) | (rw [lau, show κ 33 0 = v5 by omega]; rw [show κ 33 0 = v5 by omega] at gc1; exact gc1)) (by omega) hAt hbb hgh (by omega)
        · have sgu := sumR_s (t := (slF (κ 33 0) (κ 33 1) (κ 33 2) bb x3 x2)) (y := v4) (v := v5) (by omega)
          have h01 := slF_01 (W := κ 33 0) (H := κ 33 1) (P := κ 33 2) (bh := bb) (r := x3) (c := x2) (x := v5) (y := v4)
          obtain ⟨y53, hy53⟩ : ∃ z : Int, z = h 95 0 := ⟨_, rfl⟩
          refine zW_iload_n (pc' := 36) dX4_gatherRing_1.1.1.1.2 rfl rfl ?_
          refine zW_iconst (pc' := 37) dX4_gatherRing_1.1.1.2.1 rfl ?_
          refine zV_cm_eq (tgt := 52) (pc' := 40) dX4_gatherRing_1.1.1.2.2 rfl rfl ⟨by omega, by omega⟩ ⟨by omega, by omega⟩ (fun c37 => ?_) (fun c37 => ?_)
          · refine zW_iconst (pc' := 53) dX4_gatherRing_1.2.1.2.1 rfl ?_
            refine zV_goto 57 dX4_gatherRing_1.2.1.2.2 rfl ?_
            refine zW_istore (ls' := [_, _, _, _, _, _, _]) (pc' := 59) dX4_gatherRing_1.2.2.1.2 (by decide) rfl rfl rfl ?_
            refine zW_iload (pc' := 61) dX4_gatherRing_1.2.2.2.1 rfl rfl ?_
            refine zV_if_eq (tgt := 122) (pc' := 64) dX4_gatherRing_1.2.2.2.2 rfl rfl ⟨by omega, by omega⟩ (fun c61 => ?_) (fun c61 => ?_)
            · exfalso; omega
            · refine zW_aload_n (pc' := 65) dX4_gatherRing_2.1.1.1.1 rfl rfl ?_
              refine zG_int (pc' := 68) fg_X4_27 tb95 rfl dX4_gatherRing_2.1.1.1.2 rfl ?_
              have e65 := hF.2.2.2.2.1
              refine zW_sipush (pc' := 71) dX4_gatherRing_2.1.1.2.1 rfl rfl ?_
              refine zV_cm_ge (tgt := 122) (pc' := 74) dX4_gatherRing_2.1.1.2.2 rfl rfl ⟨by omega, by omega⟩ ⟨by omega, by omega⟩ (fun c71 => ?_) (fun c71 => ?_)
              · first | (have z119 : h 95 0 = y53 + 1 := by (rw [w119]; exact zwr_eq.trans (by first | (rw [b119, z111]) | (rw [z111])))) | (have hn0 : (slF (κ 33 0) (κ 33 1) (κ 33 2) bb x3 x2) v5 v4 = 0 := if_neg (fun q => by omega))
                first | (have hl2 : LiO (h 96) (laR (slF (κ 33 0) (κ 33 1) (κ 33 2) bb x3 x2) (T x2) v4 (laS (slF (κ 33 0) (κ 33 1) (κ 33 2) bb x3 x2) (T x2) (κ 33 0).toNat v4.toNat) (sumS (slF (κ 33 0) (κ 33 1) (κ 33 2) bb x3 x2) (κ 33 0).toNat v4.toNat) (v5 + 1).toNat) (h 95 0) := by (rw [z119, la, w119, zfun (by decide), ← gc0, ← hy53]; exact hli)) | (have la := laR_0 (v := (T x2)) (n := sumS (slF (κ 33 0) (κ 33 1) (κ 33 2) bb x3 x2) (κ 33 0).toNat v4.toNat) (A := laS (slF (κ 33 0) (κ 33 1) (κ 33 2) bb x3 x2) (T x2) (κ 33 0).toNat v4.toNat) (x := v5) (by omega) hn0)
                refine zW_iinc (ls' := [_, _, _, _, _, _, _]) (pc' := 125) dX4_gatherRing_3.2.2.2.2 rfl (by decide) rfl rfl rfl ?_
                refine zV_goto 23 dX4_gatherRing_4.1.1 rfl ?_
                refine zV_clr 6 (ls' := [_, _, _, _, _, _, _]) rfl ?_
                exact k23 _ _ _ hF (by omega) (by omega) (by omega) (by omega) (by first | (rw [sgu, hn1, z119, hy53, gc0]; omega) | (rw [sgu, hn0, gc0]; omega) | (rw [gc0]; exact (Int.add_zero _).symm)) (by first | exact hl2 | (rw [la]; exact gc1) | exact gc1) (by omega) hAt hbb hgh (by omega)
              · refine zW_aload_n (pc' := 75) dX4_gatherRing_2.1.2.1.1 rfl rfl ?_
                refine zW_aload_n (pc' := 76) dX4_gatherRing_2.1.2.1.2 rfl rfl ?_
                refine zG_ref (pc' := 79) 33 fg_X4_19 tb95 rfl dX4_gatherRing_2.1.2.2.1 rfl ?_
                refine zW_iload (pc' := 81) dX4_gatherRing_2.1.2.2.2 rfl rfl ?_
                refine zW_iload (pc' := 83) dX4_gatherRing_2.2.1.1.1 rfl rfl ?_
                refine zW_iload_n (pc' := 84) dX4_gatherRing_2.2.1.1.2 rfl rfl ?_
                refine cvI4 (pc' := 87) kX8_tells vX8_tells lk_X4_43 ⟨Nat.le_of_ble_eq_true rfl, Nat.le_of_ble_eq_true rfl⟩ (tabS (by omega) (by omega)) vq8 rfl rfl (s_X8_tellsZ hK hF _ ⟨by omega, by omega⟩ _ ⟨by omega, by omega, by omega⟩ _ ⟨by omega, by omega, by omega⟩ _ ⟨by omega, by omega⟩ bb ⟨hbb, hb01⟩) dX4_gatherRing_2.2.1.2.1 (Nat.le_of_ble_eq_true rfl) rfl ?_
                rintro r84 z84 ⟨hz84, p84⟩; subst z84
                refine zV_if_eq (tgt := 122) (pc' := 90) dX4_gatherRing_2.2.1.2.2 rfl rfl ⟨by omega, by omega⟩ (fun c87 => ?_) (fun c87 => ?_)
                · first | (have z119 : h 95 0 = y53 + 1 := by (rw [w119]; exact zwr_eq.trans (by first | (rw [b119, z111]) | (rw [z111])))) | (have hn0 : (slF (κ 33 0) (κ 33 1) (κ 33 2) bb x3 x2) v5 v4 = 0 := if_neg (fun q => by omega))
                  first | (have hl2 : LiO (h 96) (laR (slF (κ 33 0) (κ 33 1) (κ 33 2) bb x3 x2) (T x2) v4 (laS (slF (κ 33 0) (κ 33 1) (κ 33 2) bb x3 x2) (T x2) (κ 33 0).toNat v4.toNat) (sumS (slF (κ 33 0) (κ 33 1) (κ 33 2) bb x3 x2) (κ 33 0).toNat v4.toNat) (v5 + 1).toNat) (h 95 0) := by (rw [z119, la, w119, zfun (by decide), ← gc0, ← hy53]; exact hli)) | (have la := laR_0 (v := (T x2)) (n := sumS (slF (κ 33 0) (κ 33 1) (κ 33 2) bb x3 x2) (κ 33 0).toNat v4.toNat) (A := laS (slF (κ 33 0) (κ 33 1) (κ 33 2) bb x3 x2) (T x2) (κ 33 0).toNat v4.toNat) (x := v5) (by omega) hn0)
                  refine zW_iinc (ls' := [_, _, _, _, _, _, _]) (pc' := 125) dX4_gatherRing_3.2.2.2.2 rfl (by decide) rfl rfl rfl ?_
                  refine zV_goto 23 dX4_gatherRing_4.1.1 rfl ?_
                  refine zV_clr 6 (ls' := [_, _, _, _, _, _, _]) rfl ?_
                  exact k23 _ _ _ hF (by omega) (by omega) (by omega) (by omega) (by first | (rw [sgu, hn1, z119, hy53, gc0]; omega) | (rw [sgu, hn0, gc0]; omega) | (rw [gc0]; exact (Int.add_zero _).symm)) (by first | exact hl2 | (rw [la]; exact gc1) | exact gc1) (by omega) hAt hbb hgh (by omega)
                · have hn1 : (slF (κ 33 0) (κ 33 1) (κ 33 2) bb x3 x2) v5 v4 = 1 := if_pos ⟨by omega, by omega⟩
                  have la := laR_1 (v := (T x2)) (n := sumS (slF (κ 33 0) (κ 33 1) (κ 33 2) bb x3 x2) (κ 33 0).toNat v4.toNat) (A := laS (slF (κ 33 0) (κ 33 1) (κ 33 2) bb x3 x2) (T x2) (κ 33 0).toNat v4.toNat) (x := v5) (by omega) hn1
                  have ha := hAt v5 v4 ⟨by omega, by omega, by omega, by omega⟩
                  refine zW_aload_n (pc' := 91) dX4_gatherRing_2.2.2.1.1 rfl rfl ?_
                  refine zG_ref (pc' := 94) 96 fg_X4_9 tb95 rfl dX4_gatherRing_2.2.2.1.2 rfl ?_
                  refine zW_aload_n (pc' := 95) dX4_gatherRing_2.2.2.2.1 rfl rfl ?_
                  refine zG_int (pc' := 98) fg_X4_27 tb95 rfl dX4_gatherRing_2.2.2.2.2 rfl ?_
                  have e95 := hF.2.2.2.2.1
                  refine zW_aload_n (pc' := 99) dX4_gatherRing_3.1.1.1.1 rfl rfl ?_
                  refine zW_iload (pc' := 101) dX4_gatherRing_3.1.1.1.2 rfl rfl ?_
                  refine zW_bipush (pc' := 103) dX4_gatherRing_3.1.1.2.1 rfl rfl ?_
                  refine zW_imul (pc' := 104) dX4_gatherRing_3.1.1.2.2 rfl ?_
                  refine zW_iload (pc' := 106) dX4_gatherRing_3.1.2.1.1 rfl rfl ?_
                  refine zW_iadd (pc' := 107) dX4_gatherRing_3.1.2.1.2 rfl ?_
                  refine zW_iload_n (pc' := 108) dX4_gatherRing_3.1.2.2.1 rfl rfl ?_
                  refine cvI2 (pc' := 111) kX8_levelAt vX8_levelAt lk_X4_49 ⟨Nat.le_of_ble_eq_true rfl, Nat.le_of_ble_eq_true rfl⟩ (tabS (by omega) (by omega)) vq8 rfl rfl (s_X8_levelAtZ hF _ ⟨by omega, by omega⟩ _ ⟨by omega, by omega⟩ _ ⟨by omega, by omega⟩ bb ⟨hbb, hb01⟩) dX4_gatherRing_3.1.2.2.2 (Nat.le_of_ble_eq_true rfl) rfl ?_
                  rintro r108 z108 ⟨hz108, p108⟩; subst z108
                  have e108 : r108 = T x2 v5 v4 := by rw [p108, show 256 * x2 + (v4 * 16 + v5) = 256 * x2 + (16 * v4 + v5) by omega, show v4 * 16 + v5 = 16 * v4 + v5 by omega]; exact ha.1
                  have b108 : 0 ≤ r108 ∧ r108 ≤ 4095 := by rw [e108]; exact ha.2
                  refine zS_i (pc' := 112) hF rfl tb96 (by omega) dX4_gatherRing_3.2.1.1.1 (by decide) rfl (fun h i111 hF a111 b111 w111 => ?_)
                  replace b111 := b111 ⟨by omega, by omega⟩
                  replace hgh : Fw [96] [(95, 0)] gh0 h := by rw [w111]; exact hgh.wc (by simp)
                  replace hAt : ∀ x y : Int, inP (κ 33 0) (κ 33 1) x y → h (s1 + 15) (if bb = 1 then 256 * x2 + (16 * y + x) else 16 * y + x).toNat = T x2 x y ∧ 0 ≤ T x2 x y ∧ T x2 x y ≤ 4095 := by have q0_ := (congrFun w111 (s1 + 15)).trans (zfun (by omega)); rw [q0_]; exact hAt
                  replace hbb : h s1 1 = bb := by have q0_ := (congrFun w111 s1).trans (zfun (by omega)); rw [q0_]; exact hbb
                  have z111 : h 95 0 = y53 := by rw [w111, hy53]; exact zwr_ne (Or.inl (by decide))
                  have hli : LiO (h 96) (put1 (laR (slF (κ 33 0) (κ 33 1) (κ 33 2) bb x3 x2) (T x2) v4 (laS (slF (κ 33 0) (κ 33 1) (κ 33 2) bb x3 x2) (T x2) (κ 33 0).toNat v4.toNat) (sumS (slF (κ 33 0) (κ 33 1) (κ 33 2) bb x3 x2) (κ 33 0).toNat v4.toNat) v5.toNat) y53 (T x2 v5 v4)) (y53 + 1) := by (have q := gc1; rw [← hy53] at q; refine q.put (by omega) ha.2 ?_ ?_; (rw [w111, b111, hy53]; exact zwr_eq.trans e108); (intro i hi; rw [w111]; exact zwr_ne (Or.inr (by rw [← hy53]; exact hi))))
                  refine zW_aload_n (pc' := 113) dX4_gatherRing_3.2.1.1.2 rfl rfl ?_
                  refine zW_dup (pc' := 114) dX4_gatherRing_3.2.1.2.1 rfl rfl ?_
                  refine zG_int (pc' := 117) fg_X4_27 tb95 rfl dX4_gatherRing_3.2.1.2.2 rfl ?_
                  have e114 := hF.2.2.2.2.1
                  refine zW_iconst (pc' := 118) dX4_gatherRing_3.2.2.1.1 rfl ?_
                  refine zW_iadd (pc' := 119) dX4_gatherRing_3.2.2.1.2 rfl ?_
                  refine zX_int (pc' := 122) (hF.p95 ⟨by omega, by omega⟩) fp_X4_27 tb95 rfl dX4_gatherRing_3.2.2.2.1 rfl (fun h hF w119 => ?_)
                  replace hgh : Fw [96] [(95, 0)] gh0 h := by rw [w119]; exact hgh.wf (by simp)
                  replace hAt : ∀ x y : Int, inP (κ 33 0) (κ 33 1) x y → h (s1 + 15) (if bb = 1 then 256 * x2 + (16 * y + x) else 16 * y + x).toNat = T x2 x y ∧ 0 ≤ T x2 x y ∧ T x2 x y ≤ 4095 := by have q0_ := (congrFun w119 (s1 + 15)).trans (zfun (by omega)); rw [q0_]; exact hAt
                  replace hbb : h s1 1 = bb := by have q0_ := (congrFun w119 s1).trans (zfun (by omega)); rw [q0_]; exact hbb
                  first | (have z119 : h 95 0 = y53 + 1 := by (rw [w119]; exact zwr_eq.trans (by first | (rw [b119, z111]) | (rw [z111])))) | (have hn0 : (slF (κ 33 0) (κ 33 1) (κ 33 2) bb x3 x2) v5 v4 = 0 := if_neg (fun q => by omega))
                  first | (have hl2 : LiO (h 96) (laR (slF (κ 33 0) (κ 33 1) (κ 33 2) bb x3 x2) (T x2) v4 (laS (slF (κ 33 0) (κ 33 1) (κ 33 2) bb x3 x2) (T x2) (κ 33 0).toNat v4.toNat) (sumS (slF (κ 33 0) (κ 33 1) (κ 33 2) bb x3 x2) (κ 33 0).toNat v4.toNat) (v5 + 1).toNat) (h 95 0) := by (rw [z119, la, w119, zfun (by decide), ← gc0, ← hy53]; exact hli)) | (have la := laR_0 (v := (T x2)) (n := sumS (slF (κ 33 0) (κ 33 1) (κ 33 2) bb x3 x2) (κ 33 0).toNat v4.toNat) (A := laS (slF (κ 33 0) (κ 33 1) (κ 33 2) bb x3 x2) (T x2) (κ 33 0).toNat v4.toNat) (x := v5) (by omega) hn0)
                  refine zW_iinc (ls' := [_, _, _, _, _, _, _]) (pc' := 125) dX4_gatherRing_3.2.2.2.2 rfl (by decide) rfl rfl rfl ?_
                  refine zV_goto 23 dX4_gatherRing_4.1.1 rfl ?_
                  refine zV_clr 6 (ls' := [_, _, _, _, _, _, _]) rfl ?_
                  exact k23 _ _ _ hF (by omega) (by omega) (by omega) (by omega) (by first | (rw [sgu, hn1, z119, hy53, gc0]; omega) | (rw [sgu, hn0, gc0]; omega) | (rw [gc0]; exact (Int.add_zero _).symm)) (by first | exact hl2 | (rw [la]; exact gc1) | exact gc1) (by omega) hAt hbb hgh (by omega)
          · refine zW_aload_n (pc' := 41) dX4_gatherRing_1.1.2.1.1 rfl rfl ?_
            refine zW_iload (pc' := 43) dX4_gatherRing_1.1.2.1.2 rfl rfl ?_
            refine zW_iload (pc' := 45) dX4_gatherRing_1.1.2.2.1 rfl rfl ?_
            refine cvI2 (pc' := 48) kX4_ringOf vX4_ringOf lk_X4_39 ⟨Nat.le_of_ble_eq_true rfl, Nat.le_of_ble_eq_true rfl⟩ tb95 vq4 rfl rfl (s_X4_ringOfZ hK hF _ ⟨by omega, by omega, by omega⟩ _ ⟨by omega, by omega, by omega⟩) dX4_gatherRing_1.1.2.2.2 (Nat.le_of_ble_eq_true rfl) rfl ?_
            rintro r45 z45 ⟨hz45, p45⟩; subst z45
            refine zW_iload_n (pc' := 49) dX4_gatherRing_1.2.1.1.1 rfl rfl ?_
            refine zV_cm_ne (tgt := 56) (pc' := 52) dX4_gatherRing_1.2.1.1.2 rfl rfl ⟨by omega, by omega⟩ ⟨by omega, by omega⟩ (fun c49 => ?_) (fun c49 => ?_)
            · refine zW_iconst (pc' := 57) dX4_gatherRing_1.2.2.1.1 rfl ?_
              refine zW_istore (ls' := [_, _, _, _, _, _, _]) (pc' := 59) dX4_gatherRing_1.2.2.1.2 (by decide) rfl rfl rfl ?_
              refine zW_iload (pc' := 61) dX4_gatherRing_1.2.2.2.1 rfl rfl ?_
              refine zV_if_eq (tgt := 122) (pc' := 64) dX4_gatherRing_1.2.2.2.2 rfl rfl ⟨by omega, by omega⟩ (fun c61 => ?_) (fun c61 => ?_)
              · first | (have z119 : h 95 0 = y53 + 1 := by (rw [w119]; exact zwr_eq.trans (by first | (rw [b119, z111]) | (rw [z111])))) | (have hn0 : (slF (κ 33 0) (κ 33 1) (κ 33 2) bb x3 x2) v5 v4 = 0 := if_neg (fun q => by omega))
                first | (have hl2 : LiO (h 96) (laR (slF (κ 33 0) (κ 33 1) (κ 33 2) bb x3 x2) (T x2) v4 (laS (slF (κ 33 0) (κ 33 1) (κ 33 2) bb x3 x2) (T x2) (κ 33 0).toNat v4.toNat) (sumS (slF (κ 33 0) (κ 33 1) (κ 33 2) bb x3 x2) (κ 33 0).toNat v4.toNat) (v5 + 1).toNat) (h 95 0) := by (rw [z119, la, w119, zfun (by decide), ← gc0, ← hy53]; exact hli)) | (have la := laR_0 (v := (T x2)) (n := sumS (slF (κ 33 0) (κ 33 1) (κ 33 2) bb x3 x2) (κ 33 0).toNat v4.toNat) (A := laS (slF (κ 33 0) (κ 33 1) (κ 33 2) bb x3 x2) (T x2) (κ 33 0).toNat v4.toNat) (x := v5) (by omega) hn0)
                refine zW_iinc (ls' := [_, _, _, _, _, _, _]) (pc' := 125) dX4_gatherRing_3.2.2.2.2 rfl (by decide) rfl rfl rfl ?_
                refine zV_goto 23 dX4_gatherRing_4.1.1 rfl ?_
                refine zV_clr 6 (ls' := [_, _, _, _, _, _, _]) rfl ?_
                exact k23 _ _ _ hF (by omega) (by omega) (by omega) (by omega) (by first | (rw [sgu, hn1, z119, hy53, gc0]; omega) | (rw [sgu, hn0, gc0]; omega) | (rw [gc0]; exact (Int.add_zero _).symm)) (by first | exact hl2 | (rw [la]; exact gc1) | exact gc1) (by omega) hAt hbb hgh (by omega)
              · exfalso; omega
            · refine zW_iconst (pc' := 53) dX4_gatherRing_1.2.1.2.1 rfl ?_
              refine zV_goto 57 dX4_gatherRing_1.2.1.2.2 rfl ?_
              refine zW_istore (ls' := [_, _, _, _, _, _, _]) (pc' := 59) dX4_gatherRing_1.2.2.1.2 (by decide) rfl rfl rfl ?_
              refine zW_iload (pc' := 61) dX4_gatherRing_1.2.2.2.1 rfl rfl ?_
              refine zV_if_eq (tgt := 122) (pc' := 64) dX4_gatherRing_1.2.2.2.2 rfl rfl ⟨by omega, by omega⟩ (fun c61 => ?_) (fun c61 => ?_)
              · exfalso; omega
              · refine zW_aload_n (pc' := 65) dX4_gatherRing_2.1.1.1.1 rfl rfl ?_
                refine zG_int (pc' := 68) fg_X4_27 tb95 rfl dX4_gatherRing_2.1.1.1.2 rfl ?_
                have e65 := hF.2.2.2.2.1
                refine zW_sipush (pc' := 71) dX4_gatherRing_2.1.1.2.1 rfl rfl ?_
                refine zV_cm_ge (tgt := 122) (pc' := 74) dX4_gatherRing_2.1.1.2.2 rfl rfl ⟨by omega, by omega⟩ ⟨by omega, by omega⟩ (fun c71 => ?_) (fun c71 => ?_)
                · first | (have z119 : h 95 0 = y53 + 1 := by (rw [w119]; exact zwr_eq.trans (by first | (rw [b119, z111]) | (rw [z111])))) | (have hn0 : (slF (κ 33 0) (κ 33 1) (κ 33 2) bb x3 x2) v5 v4 = 0 := if_neg (fun q => by omega))
                  first | (have hl2 : LiO (h 96) (laR (slF (κ 33 0) (κ 33 1) (κ 33 2) bb x3 x2) (T x2) v4 (laS (slF (κ 33 0) (κ 33 1) (κ 33 2) bb x3 x2) (T x2) (κ 33 0).toNat v4.toNat) (sumS (slF (κ 33 0) (κ 33 1) (κ 33 2) bb x3 x2) (κ 33 0).toNat v4.toNat) (v5 + 1).toNat) (h 95 0) := by (rw [z119, la, w119, zfun (by decide), ← gc0, ← hy53]; exact hli)) | (have la := laR_0 (v := (T x2)) (n := sumS (slF (κ 33 0) (κ 33 1) (κ 33 2) bb x3 x2) (κ 33 0).toNat v4.toNat) (A := laS (slF (κ 33 0) (κ 33 1) (κ 33 2) bb x3 x2) (T x2) (κ 33 0).toNat v4.toNat) (x := v5) (by omega) hn0)
                  refine zW_iinc (ls' := [_, _, _, _, _, _, _]) (pc' := 125) dX4_gatherRing_3.2.2.2.2 rfl (by decide) rfl rfl rfl ?_
                  refine zV_goto 23 dX4_gatherRing_4.1.1 rfl ?_
                  refine zV_clr 6 (ls' := [_, _, _, _, _, _, _]) rfl ?_
                  exact k23 _ _ _ hF (by omega) (by omega) (by omega) (by omega) (by first | (rw [sgu, hn1, z119, hy53, gc0]; omega) | (rw [sgu, hn0, gc0]; omega) | (rw [gc0]; exact (Int.add_zero _).symm)) (by first | exact hl2 | (rw [la]; exact gc1) | exact gc1) (by omega) hAt hbb hgh (by omega)
                · refine zW_aload_n (pc' := 75) dX4_gatherRing_2.1.2.1.1 rfl rfl ?_
                  refine zW_aload_n (pc' := 76) dX4_gatherRing_2.1.2.1.2 rfl rfl ?_
                  refine zG_ref (pc' := 79) 33 fg_X4_19 tb95 rfl dX4_gatherRing_2.1.2.2.1 rfl ?_
                  refine zW_iload (pc' := 81) dX4_gatherRing_2.1.2.2.2 rfl rfl ?_
                  refine zW_iload (pc' := 83) dX4_gatherRing_2.2.1.1.1 rfl rfl ?_
                  refine zW_iload_n (pc' := 84) dX4_gatherRing_2.2.1.1.2 rfl rfl ?_
                  refine cvI4 (pc' := 87) kX8_tells vX8_tells lk_X4_43 ⟨Nat.le_of_ble_eq_true rfl, Nat.le_of_ble_eq_true rfl⟩ (tabS (by omega) (by omega)) vq8 rfl rfl (s_X8_tellsZ hK hF _ ⟨by omega, by omega⟩ _ ⟨by omega, by omega, by omega⟩ _ ⟨by omega, by omega, by omega⟩ _ ⟨by omega, by omega⟩ bb ⟨hbb, hb01⟩) dX4_gatherRing_2.2.1.2.1 (Nat.le_of_ble_eq_true rfl) rfl ?_
                  rintro r84 z84 ⟨hz84, p84⟩; subst z84
                  refine zV_if_eq (tgt := 122) (pc' := 90) dX4_gatherRing_2.2.1.2.2 rfl rfl ⟨by omega, by omega⟩ (fun c87 => ?_) (fun c87 => ?_)
                  · first | (have z119 : h 95 0 = y53 + 1 := by (rw [w119]; exact zwr_eq.trans (by first | (rw [b119, z111]) | (rw [z111])))) | (have hn0 : (slF (κ 33 0) (κ 33 1) (κ 33 2) bb x3 x2) v5 v4 = 0 := if_neg (fun q => by omega))
                    first | (have hl2 : LiO (h 96) (laR (slF (κ 33 0) (κ 33 1) (κ 33 2) bb x3 x2) (T x2) v4 (laS (slF (κ 33 0) (κ 33 1) (κ 33 2) bb x3 x2) (T x2) (κ 33 0).toNat v4.toNat) (sumS (slF (κ 33 0) (κ 33 1) (κ 33 2) bb x3 x2) (κ 33 0).toNat v4.toNat) (v5 + 1).toNat) (h 95 0) := by (rw [z119, la, w119, zfun (by decide), ← gc0, ← hy53]; exact hli)) | (have la := laR_0 (v := (T x2)) (n := sumS (slF (κ 33 0) (κ 33 1) (κ 33 2) bb x3 x2) (κ 33 0).toNat v4.toNat) (A := laS (slF (κ 33 0) (κ 33 1) (κ 33 2) bb x3 x2) (T x2) (κ 33 0).toNat v4.toNat) (x := v5) (by omega) hn0)
                    refine zW_iinc (ls' := [_, _, _, _, _, _, _]) (pc' := 125) dX4_gatherRing_3.2.2.2.2 rfl (by decide) rfl rfl rfl ?_
                    refine zV_goto 23 dX4_gatherRing_4.1.1 rfl ?_
                    refine zV_clr 6 (ls' := [_, _, _, _, _, _, _]) rfl ?_
                    exact k23 _ _ _ hF (by omega) (by omega) (by omega) (by omega) (by first | (rw [sgu, hn1, z119, hy53, gc0]; omega) | (rw [sgu, hn0, gc0]; omega) | (rw [gc0]; exact (Int.add_zero _).symm)) (by first | exact hl2 | (rw [la]; exact gc1) | exact gc1) (by omega) hAt hbb hgh (by omega)
                  · have hn1 : (slF (κ 33 0) (κ 33 1) (κ 33 2) bb x3 x2) v5 v4 = 1 := if_pos ⟨by omega, by omega⟩
                    have la := laR_1 (v := (T x2)) (n := sumS (slF (κ 33 0) (κ 33 1) (κ 33 2) bb x3 x2) (κ 33 0).toNat v4.toNat) (A := laS (slF (κ 33 0) (κ 33 1) (κ 33 2) bb x3 x2) (T x2) (κ 33 0).toNat v4.toNat) (x := v5) (by omega) hn1
                    have ha := hAt v5 v4 ⟨by omega, by omega, by omega, by omega⟩
                    refine zW_aload_n (pc' := 91) dX4_gatherRing_2.2.2.1.1 rfl rfl ?_
                    refine zG_ref (pc' := 94) 96 fg_X4_9 tb95 rfl dX4_gatherRing_2.2.2.1.2 rfl ?_
                    refine zW_aload_n (pc' := 95) dX4_gatherRing_2.2.2.2.1 rfl rfl ?_
                    refine zG_int (pc' := 98) fg_X4_27 tb95 rfl dX4_gatherRing_2.2.2.2.2 rfl ?_
                    have e95 := hF.2.2.2.2.1
                    refine zW_aload_n (pc' := 99) dX4_gatherRing_3.1.1.1.1 rfl rfl ?_
                    refine zW_iload (pc' := 101) dX4_gatherRing_3.1.1.1.2 rfl rfl ?_
                    refine zW_bipush (pc' := 103) dX4_gatherRing_3.1.1.2.1 rfl rfl ?_
                    refine zW_imul (pc' := 104) dX4_gatherRing_3.1.1.2.2 rfl ?_
                    refine zW_iload (pc' := 106) dX4_gatherRing_3.1.2.1.1 rfl rfl ?_
                    refine zW_iadd (pc' := 107) dX4_gatherRing_3.1.2.1.2 rfl ?_
                    refine zW_iload_n (pc' := 108) dX4_gatherRing_3.1.2.2.1 rfl rfl ?_
                    refine cvI2 (pc' := 111) kX8_levelAt vX8_levelAt lk_X4_49 ⟨Nat.le_of_ble_eq_true rfl, Nat.le_of_ble_eq_true rfl⟩ (tabS (by omega) (by omega)) vq8 rfl rfl (s_X8_levelAtZ hF _ ⟨by omega, by omega⟩ _ ⟨by omega, by omega⟩ _ ⟨by omega, by omega⟩ bb ⟨hbb, hb01⟩) dX4_gatherRing_3.1.2.2.2 (Nat.le_of_ble_eq_true rfl) rfl ?_
                    rintro r108 z108 ⟨hz108, p108⟩; subst z108
                    have e108 : r108 = T x2 v5 v4 := by rw [p108, show 256 * x2 + (v4 * 16 + v5) = 256 * x2 + (16 * v4 + v5) by omega, show v4 * 16 + v5 = 16 * v4 + v5 by omega]; exact ha.1
                    have b108 : 0 ≤ r108 ∧ r108 ≤ 4095 := by rw [e108]; exact ha.2
                    refine zS_i (pc' := 112) hF rfl tb96 (by omega) dX4_gatherRing_3.2.1.1.1 (by decide) rfl (fun h i111 hF a111 b111 w111 => ?_)
                    replace b111 := b111 ⟨by omega, by omega⟩
                    replace hgh : Fw [96] [(95, 0)] gh0 h := by rw [w111]; exact hgh.wc (by simp)
                    replace hAt : ∀ x y : Int, inP (κ 33 0) (κ 33 1) x y → h (s1 + 15) (if bb = 1 then 256 * x2 + (16 * y + x) else 16 * y + x).toNat = T x2 x y ∧ 0 ≤ T x2 x y ∧ T x2 x y ≤ 4095 := by have q0_ := (congrFun w111 (s1 + 15)).trans (zfun (by omega)); rw [q0_]; exact hAt
                    replace hbb : h s1 1 = bb := by have q0_ := (congrFun w111 s1).trans (zfun (by omega)); rw [q0_]; exact hbb
                    have z111 : h 95 0 = y53 := by rw [w111, hy53]; exact zwr_ne (Or.inl (by decide))
                    have hli : LiO (h 96) (put1 (laR (slF (κ 33 0) (κ 33 1) (κ 33 2) bb x3 x2) (T x2) v4 (laS (slF (κ 33 0) (κ 33 1) (κ 33 2) bb x3 x2) (T x2) (κ 33 0).toNat v4.toNat) (sumS (slF (κ 33 0) (κ 33 1) (κ 33 2) bb x3 x2) (κ 33 0).toNat v4.toNat) v5.toNat) y53 (T x2 v5 v4)) (y53 + 1) := by (have q := gc1; rw [← hy53] at q; refine q.put (by omega) ha.2 ?_ ?_; (rw [w111, b111, hy53]; exact zwr_eq.trans e108); (intro i hi; rw [w111]; exact zwr_ne (Or.inr (by rw [← hy53]; exact hi))))
                    refine zW_aload_n (pc' := 113) dX4_gatherRing_3.2.1.1.2 rfl rfl ?_
                    refine zW_dup (pc' := 114) dX4_gatherRing_3.2.1.2.1 rfl rfl ?_
                    refine zG_int (pc' := 117) fg_X4_27 tb95 rfl dX4_gatherRing_3.2.1.2.2 rfl ?_
                    have e114 := hF.2.2.2.2.1
                    refine zW_iconst (pc' := 118) dX4_gatherRing_3.2.2.1.1 rfl ?_
                    refine zW_iadd (pc' := 119) dX4_gatherRing_3.2.2.1.2 rfl ?_
                    refine zX_int (pc' := 122) (hF.p95 ⟨by omega, by omega⟩) fp_X4_27 tb95 rfl dX4_gatherRing_3.2.2.2.1 rfl (fun h hF w119 => ?_)
                    replace hgh : Fw [96] [(95, 0)] gh0 h := by rw [w119]; exact hgh.wf (by simp)
                    replace hAt : ∀ x y : Int, inP (κ 33 0) (κ 33 1) x y → h (s1 + 15) (if bb = 1 then 256 * x2 + (16 * y + x) else 16 * y + x).toNat = T x2 x y ∧ 0 ≤ T x2 x y ∧ T x2 x y ≤ 4095 := by have q0_ := (congrFun w119 (s1 + 15)).trans (zfun (by omega)); rw [q0_]; exact hAt
                    replace hbb : h s1 1 = bb := by have q0_ := (congrFun w119 s1).trans (zfun (by omega)); rw [q0_]; exact hbb
                    first | (have z119 : h 95 0 = y53 + 1 := by (rw [w119]; exact zwr_eq.trans (by first | (rw [b119, z111]) | (rw [z111])))) | (have hn0 : (slF (κ 33 0) (κ 33 1) (κ 33 2) bb x3 x2) v5 v4 = 0 := if_neg (fun q => by omega))
                    first | (have hl2 : LiO (h 96) (laR (slF (κ 33 0) (κ 33 1) (κ 33 2) bb x3 x2) (T x2) v4 (laS (slF (κ 33 0) (κ 33 1) (κ 33 2) bb x3 x2) (T x2) (κ 33 0).toNat v4.toNat) (sumS (slF (κ 33 0) (κ 33 1) (κ 33 2) bb x3 x2) (κ 33 0).toNat v4.toNat) (v5 + 1).toNat) (h 95 0) := by (rw [z119, la, w119, zfun (by decide), ← gc0, ← hy53]; exact hli)) | (have la := laR_0 (v := (T x2)) (n := sumS (slF (κ 33 0) (κ 33 1) (κ 33 2) bb x3 x2) (κ 33 0).toNat v4.toNat) (A := laS (slF (κ 33 0) (κ 33 1) (κ 33 2) bb x3 x2) (T x2) (κ 33 0).toNat v4.toNat) (x := v5) (by omega) hn0)
                    refine zW_iinc (ls' := [_, _, _, _, _, _, _]) (pc' := 125) dX4_gatherRing_3.2.2.2.2 rfl (by decide) rfl rfl rfl ?_
                    refine zV_goto 23 dX4_gatherRing_4.1.1 rfl ?_
                    refine zV_clr 6 (ls' := [_, _, _, _, _, _, _]) rfl ?_
                    exact k23 _ _ _ hF (by omega) (by omega) (by omega) (by omega) (by first | (rw [sgu, hn1, z119, hy53, gc0]; omega) | (rw [sgu, hn0, gc0]; omega) | (rw [gc0]; exact (Int.add_zero _).symm)) (by first | exact hl2 | (rw [la]; exact gc1) | exact gc1) (by omega) hAt hbb hgh (by omega)
  refine zM_of [some (.inr (.inr 95)), some (.inr (.inr s1)), some (.inl x2), some (.inl x3), none, none, none] 3 rfl rfl (Nat.le_of_ble_eq_true rfl) rfl ?_
  refine zW_aload_n (pc' := 1) dX4_gatherRing_0.1.1.1.1 rfl rfl ?_
  refine zW_iconst (pc' := 2) dX4_gatherRing_0.1.1.1.2 rfl ?_
  refine zX_int (pc' := 5) (hF.p95 ⟨by omega, by omega⟩) fp_X4_27 tb95 rfl dX4_gatherRing_0.1.1.2.1 rfl (fun h hF w2 => ?_)
  replace hgh : Fw [96] [(95, 0)] gh0 h := by rw [w2]; exact hgh.wf (by simp)
  replace hAt : ∀ x y : Int, inP (κ 33 0) (κ 33 1) x y → h (s1 + 15) (if bb = 1 then 256 * x2 + (16 * y + x) else 16 * y + x).toNat = T x2 x y ∧ 0 ≤ T x2 x y ∧ T x2 x y ≤ 4095 := by have q0_ := (congrFun w2 (s1 + 15)).trans (zfun (by omega)); rw [q0_]; exact hAt
  replace hbb : h s1 1 = bb := by have q0_ := (congrFun w2 s1).trans (zfun (by omega)); rw [q0_]; exact hbb
  have z2 : h 95 0 = 0 := by rw [w2]; exact zwr_eq.trans (by first | rfl | exact b2)
  refine zW_iconst (pc' := 6) dX4_gatherRing_0.1.1.2.2 rfl ?_
  refine zW_istore (ls' := [_, _, _, _, _, _, _]) (pc' := 8) dX4_gatherRing_0.1.2.1.1 (by decide) rfl rfl rfl ?_
  exact (main 10000000000000000000000000000000000000000).1 _ _ hF (by omega) (by omega) (by first | (rw [z2]; rfl) | (rw [ugu, gc0, show v5 = κ 33 0 by omega])) (by first | (rw [z2]; exact LiO.no) | (rw [lau, show κ 33 0 = v5 by omega]; rw [show κ 33 0 = v5 by omega] at gc1; exact gc1)) (by omega) hAt hbb hgh (by omega)


abbrev q_X4_togetherZ (κ h : Hp) (M : Nat → Int) : Int → Hp → Prop := fun r h' => h' = h ∧ ((0 ≤ r) ∧ (r ≤ 1048320) ∧ (r = seqS M (h 95 0).toNat))
set_option maxHeartbeats 4000000 in
set_option maxRecDepth 20000 in
theorem s_X4_togetherZ {G : Ga} {b : Bd} {κ h : Hp} (hF : Fr b κ h) (M : Nat → Int) (hLi : LiO (h 96) M (h 95 0)) : zM G mX4_together yX4_together [.inr (.inr 95)] h (q_X4_togetherZ κ h M) := by
  have e53_ := hF.2.2.2.2.1
  have main : ∀ N : Nat, (∀ (v1 v2 : Int) , (0 ≤ v1 ∧ v1 ≤ 1048320) → (0 ≤ v2 ∧ v2 ≤ 256) → (v1 = seqS M v2.toNat) → (v2 ≤ h 95 0) → (v1 ≤ 4095 * v2) → 70176 + 17 * (256 - v2) + 16 < (N : Int) → zV G mX4_together (q_X4_togetherZ κ h M) 4 [some (.inr (.inr 95)), some (.inl v1), some (.inl v2)] [] h) := by
    intro N
    induction N with
    | zero =>
      intro v1 v2 g0 g1 gc0 gc1 gc2 hm
      exfalso; omega
    | succ N ih =>
      have k4 := ih
      intro v1 v2 g0 g1 gc0 gc1 gc2 hm
      refine zW_iload_n (pc' := 5) dX4_together_0.1.2.1.1 rfl rfl ?_
      refine zW_aload_n (pc' := 6) dX4_together_0.1.2.1.2 rfl rfl ?_
      refine zG_int (pc' := 9) fg_X4_27 tb95 rfl dX4_together_0.1.2.2.1 rfl ?_
      have e6 := hF.2.2.2.2.1
      refine zV_cm_ge (tgt := 27) (pc' := 12) dX4_together_0.1.2.2.2 rfl rfl ⟨by omega, by omega⟩ ⟨by omega, by omega⟩ (fun c9 => ?_) (fun c9 => ?_)
      · refine zW_iload_n (pc' := 28) dX4_together_1.1.2 rfl rfl ?_
        exact zV_iret rfl dX4_together_1.2 ⟨rfl, (by rw [show (h 95 0).toNat = v2.toNat by omega]; exact ⟨by omega, by omega, gc0⟩)⟩
      · refine zW_iload_n (pc' := 13) dX4_together_0.2.1.1.1 rfl rfl ?_
        refine zW_aload_n (pc' := 14) dX4_together_0.2.1.1.2 rfl rfl ?_
        refine zG_ref (pc' := 17) 96 fg_X4_9 tb95 rfl dX4_together_0.2.1.2.1 rfl ?_
        refine zW_iload_n (pc' := 18) dX4_together_0.2.1.2.2 rfl rfl ?_
        refine zV_iald (pc' := 19) tb96 (by omega) dX4_together_0.2.2.1.1 (by decide) rfl ?_
        have ha := hLi v2.toNat (by omega)
        have b18 : 0 ≤ h 96 v2.toNat ∧ h 96 v2.toNat ≤ 4095 := by rw [ha.1]; exact ha.2
        have sq := seqS_s (M := M) (i := v2) (by omega)
        refine zW_iadd (pc' := 20) dX4_together_0.2.2.1.2 rfl ?_
        refine zW_istore_n (ls' := [_, _, _]) (pc' := 21) dX4_together_0.2.2.2.1 (by decide) rfl rfl rfl ?_
        refine zW_iinc (ls' := [_, _, _]) (pc' := 24) dX4_together_0.2.2.2.2 rfl (by decide) rfl rfl rfl ?_
        refine zV_goto 4 dX4_together_1.1.1 rfl ?_
        exact k4 _ _ (by omega) (by omega) (by first | rfl | (rw [sq, gc0, ← ha.1])) (by omega) (by omega) (by omega)
  refine zM_of [some (.inr (.inr 95)), none, none] 2 rfl rfl (Nat.le_of_ble_eq_true rfl) rfl ?_
  refine zW_iconst (pc' := 1) dX4_together_0.1.1.1.1 rfl ?_
  refine zW_istore_n (ls' := [_, _, _]) (pc' := 2) dX4_together_0.1.1.1.2 (by decide) rfl rfl rfl ?_
  refine zW_iconst (pc' := 3) dX4_together_0.1.1.2.1 rfl ?_
  refine zW_istore_n (ls' := [_, _, _]) (pc' := 4) dX4_together_0.1.1.2.2 (by decide) rfl rfl rfl ?_
  exact (main 10000000000000000000000000000000000000000) _ _ (by omega) (by omega) (by first | rfl | (rw [sq, gc0, ← ha.1])) (by omega) (by omega) (by omega)

abbrev q_X12_ringZ (b : Bd) (κ : Hp) (x1 : Int) (x2 : Int) (x3 : Int) (x4 : Int) : Int → Hp → Prop := fun r h' => Fr b κ h' ∧ ((r = rgQ (κ 0 11) (κ 0 12) (κ 0 13) (κ 0 14) (ltV (κ 3) (κ 0 14)) (bhV (κ 3) (κ 0 14)) (pcV (κ 0 14) (PF κ)) (nmV (κ 0 14) (XN (κ 4) (κ 5))) x1 x2 x3 x4))
set_option maxHeartbeats 4000000 in
set_option maxRecDepth 20000 in
theorem s_X12_ringZ {G : Ga} {b : Bd} {κ h : Hp} (hK : KR κ) (hF : Fr b.fo κ h) (x1 : Int) (hx1 : rng x1) (x2 : Int) (hx2 : rng x2) (x3 : Int) (hx3 : rng x3) (x4 : Int) (hx4 : rng x4) (hLw : LeavesW b) (hV : VOK (κ 1)) (hE : EaOK (κ 3) (κ 0 14)) : zM G mX12_ring yX12_ring [.inr (.inr 0), .inl x1, .inl x2, .inl x3, .inl x4] h (q_X12_ringZ b.fo κ x1 x2 x3 x4) := by
  have f_0_11 := KRw hK
  have f_0_12 := KRh hK
  have f_0_13 := KRp hK
  have f_0_14 := KRm hK
  unfold rng at hx1
  unfold rng at hx2
  unfold rng at hx3
  unfold rng at hx4
  have main : ∀ N : Nat, (∀ (v5 v6 v7 : Int) (h : Hp), Fr b.fo κ h → (0 ≤ x1 ∧ x1 ≤ 12) → (x1 - κ 0 14 ≤ 0) → (0 ≤ x2 ∧ x2 ≤ 2) → (0 ≤ x3 ∧ x3 ≤ 3) → (0 ≤ x4 ∧ x4 ≤ 1) → (0 ≤ v5 ∧ v5 ≤ 256) → (0 ≤ v6 ∧ v6 ≤ 1048320) → (0 ≤ v7 ∧ v7 ≤ 16) → (v7 - κ 0 12 ≤ 0) → (∀ x y : Int, inP (κ 0 11) (κ 0 12) x y → (bhI (κ 3) x1.toNat = 1 ∨ cl (κ 0 13) x y = x2) → h 17 (768 * x1 + 256 * x2 + 16 * y + x).toNat = PF κ x1.toNat x2 x y ∧ 0 ≤ PF κ x1.toNat x2 x y ∧ PF κ x1.toNat x2 x y ≤ 4095) → (0 ≤ x1 ∧ x1 ≤ κ 0 14 ∧ 0 ≤ x2 ∧ x2 ≤ 2 ∧ 0 ≤ x3 ∧ x3 ≤ 3 ∧ 0 ≤ x4 ∧ x4 ≤ 1) → (v5 = sumS (slF (κ 0 11) (κ 0 12) (κ 0 13) (bhI (κ 3) x1.toNat) x3 x2) (κ 0 11).toNat v7.toNat) → (v6 = sumS (svF (slF (κ 0 11) (κ 0 12) (κ 0 13) (bhI (κ 3) x1.toNat) x3 x2) (PF κ x1.toNat x2)) (κ 0 11).toNat v7.toNat) → (v5 ≤ 16 * v7) → (v6 ≤ 65520 * v7) → 48172320 + 45360 * (16 - v7) + 44604 < (N : Int) → zV G mX12_ring (q_X12_ringZ b.fo κ x1 x2 x3 x4) 43 [some (.inr (.inr 0)), some (.inl x1), some (.inl x2), some (.inl x3), some (.inl x4), some (.inl v5), some (.inl v6), some (.inl v7), none] [] h) ∧ (∀ (v5 v6 v7 v8 : Int) (h : Hp), Fr b.fo κ h → (0 ≤ x1 ∧ x1 ≤ 12) → (x1 - κ 0 14 ≤ 0) → (0 ≤ x2 ∧ x2 ≤ 2) → (0 ≤ x3 ∧ x3 ≤ 3) → (0 ≤ x4 ∧ x4 ≤ 1) → (0 ≤ v5 ∧ v5 ≤ 256) → (0 ≤ v6 ∧ v6 ≤ 1048320) → (0 ≤ v7 ∧ v7 ≤ 15) → (v7 - κ 0 12 ≤ -1) → (0 ≤ v8 ∧ v8 ≤ 16) → (v8 - κ 0 11 ≤ 0) → (∀ x y : Int, inP (κ 0 11) (κ 0 12) x y → (bhI (κ 3) x1.toNat = 1 ∨ cl (κ 0 13) x y = x2) → h 17 (768 * x1 + 256 * x2 + 16 * y + x).toNat = PF κ x1.toNat x2 x y ∧ 0 ≤ PF κ x1.toNat x2 x y ∧ PF κ x1.toNat x2 x y ≤ 4095) → (0 ≤ x1 ∧ x1 ≤ κ 0 14 ∧ 0 ≤ x2 ∧ x2 ≤ 2 ∧ 0 ≤ x3 ∧ x3 ≤ 3 ∧ 0 ≤ x4 ∧ x4 ≤ 1) → (v5 = sumS (slF (κ 0 11) (κ 0 12) (κ 0 13) (bhI (κ 3) x1.toNat) x3 x2) (κ 0 11).toNat v7.toNat + sumR (slF (κ 0 11) (κ 0 12) (κ 0 13) (bhI (κ 3) x1.toNat) x3 x2) v7 v8.toNat) → (v6 = sumS (svF (slF (κ 0 11) (κ 0 12) (κ 0 13) (bhI (κ 3) x1.toNat) x3 x2) (PF κ x1.toNat x2)) (κ 0 11).toNat v7.toNat + sumR (svF (slF (κ 0 11) (κ 0 12) (κ 0 13) (bhI (κ 3) x1.toNat) x3 x2) (PF κ x1.toNat x2)) v7 v8.toNat) → (v5 ≤ 16 * v7 + v8) → (v6 ≤ 65520 * v7 + 4095 * v8) → 48172320 + 45360 * (16 - v7) + 30996 + 42 * (16 - v8) + 41 < (N : Int) → zV G mX12_ring (q_X12_ringZ b.fo κ x1 x2 x3 x4) 55 [some (.inr (.inr 0)), some (.inl x1), some (.inl x2), some (.inl x3), some (.inl x4), some (.inl v5), some (.inl v6), some (.inl v7), some (.inl v8)] [] h) := by
    intro N
    induction N with
    | zero =>
      refine ⟨?_, ?_⟩
      · intro v5 v6 v7 h hF g0 g1 g2 g3 g4 g5 g6 g7 g8 gc0 gc1 gc2 gc3 gc4 gc5 hm
        exfalso; omega
      · intro v5 v6 v7 v8 h hF g0 g1 g2 g3 g4 g5 g6 g7 g8 g9 g10 gc0 gc1 gc2 gc3 gc4 gc5 hm
        exfalso; omega
    | succ N ih =>
      obtain ⟨k43, k55⟩ := ih
      refine ⟨?_, ?_⟩
      · intro v5 v6 v7 h hF g0 g1 g2 g3 g4 g5 g6 g7 g8 gc0 gc1 gc2 gc3 gc4 gc5 hm
        refine zW_iload (pc' := 45) dX12_ring_1.2.1.1.2 rfl rfl ?_
        refine zW_aload_n (pc' := 46) dX12_ring_1.2.1.2.1 rfl rfl ?_
        refine zG_key (pc' := 49) hF rfl fg_X12_103 tb0 rfl dX12_ring_1.2.1.2.2 rfl ?_
        refine zV_cm_ge (tgt := 132) (pc' := 52) dX12_ring_1.2.2.1.1 rfl rfl ⟨by omega, by omega⟩ ⟨by omega, by omega⟩ (fun c49 => ?_) (fun c49 => ?_)
        · refine zW_iload (pc' := 134) dX12_ring_4.1.2.1.2 rfl rfl ?_
          refine zV_if_ne (tgt := 142) (pc' := 137) dX12_ring_4.1.2.2.1 rfl rfl ⟨by omega, by omega⟩ (fun c134 => ?_) (fun c134 => ?_)
          · refine zW_iload (pc' := 144) dX12_ring_4.2.1.1.2 rfl rfl ?_
            refine zV_if_ne (tgt := 152) (pc' := 147) dX12_ring_4.2.1.2.1 rfl rfl ⟨by omega, by omega⟩ (fun c144 => ?_) (fun c144 => ?_)
            · refine zW_iload (pc' := 154) dX12_ring_4.2.2.1.2 rfl rfl ?_
              refine zW_iload (pc' := 156) dX12_ring_4.2.2.2.1 rfl rfl ?_
              refine zW_idivX (pc' := 157) ⟨by omega, by omega⟩ ⟨by omega, by omega⟩ dX12_ring_4.2.2.2.2 rfl (fun v156 t156 e156 => ?_)
              unfold rng at e156
              exact zV_iret rfl dX12_ring_5 ⟨hF, (by have e : v7 = κ 0 12 := (by omega); rw [e] at gc2 gc3; unfold rgQ; rw [if_pos ⟨by omega, by omega, by omega, by omega, by omega, by omega, by omega, by omega⟩, bhV_in ⟨by omega, by omega⟩, pcV_in ⟨by omega, by omega⟩, ← gc2, ← gc3]; first | (rw [if_pos (by omega)]) | (rw [if_neg (by omega), if_pos (by omega)]) | (rw [if_neg (by omega), if_neg (by omega), ← Int.tdiv_eq_ediv_of_nonneg (by omega)]; first | assumption | exact t156 | omega))⟩
            · refine zW_bipush (pc' := 149) dX12_ring_4.2.1.2.2 rfl rfl ?_
              refine zV_goto 157 dX12_ring_4.2.2.1.1 rfl ?_
              exact zV_iret rfl dX12_ring_5 ⟨hF, (by have e : v7 = κ 0 12 := (by omega); rw [e] at gc2 gc3; unfold rgQ; rw [if_pos ⟨by omega, by omega, by omega, by omega, by omega, by omega, by omega, by omega⟩, bhV_in ⟨by omega, by omega⟩, pcV_in ⟨by omega, by omega⟩, ← gc2, ← gc3]; first | (rw [if_pos (by omega)]) | (rw [if_neg (by omega), if_pos (by omega)]) | (rw [if_neg (by omega), if_neg (by omega), ← Int.tdiv_eq_ediv_of_nonneg (by omega)]; first | assumption | exact t156 | omega))⟩
          · refine zW_iload (pc' := 139) dX12_ring_4.1.2.2.2 rfl rfl ?_
            refine zV_goto 157 dX12_ring_4.2.1.1.1 rfl ?_
            exact zV_iret rfl dX12_ring_5 ⟨hF, (by have e : v7 = κ 0 12 := (by omega); rw [e] at gc2 gc3; unfold rgQ; rw [if_pos ⟨by omega, by omega, by omega, by omega, by omega, by omega, by omega, by omega⟩, bhV_in ⟨by omega, by omega⟩, pcV_in ⟨by omega, by omega⟩, ← gc2, ← gc3]; first | (rw [if_pos (by omega)]) | (rw [if_neg (by omega), if_pos (by omega)]) | (rw [if_neg (by omega), if_neg (by omega), ← Int.tdiv_eq_ediv_of_nonneg (by omega)]; first | assumption | exact t156 | omega))⟩
        · refine zW_iconst (pc' := 53) dX12_ring_1.2.2.1.2 rfl ?_
          refine zW_istore (ls' := [_, _, _, _, _, _, _, _, _]) (pc' := 55) dX12_ring_1.2.2.2.1 (by decide) rfl rfl rfl ?_
          exact k55 _ _ _ _ _ hF (by omega) (by omega) (by omega) (by omega) (by omega) (by omega) (by omega) (by omega) (by omega) (by omega) (by omega) gc0 (by omega) (by first | (rw [sg0, hn1, gc2]; omega) | (rw [sg0, hn0, gc2]; omega) | (rw [gc2]; exact (Int.add_zero _).symm)) (by first | (rw [sg1, hv1, ← e114, gc3]; omega) | (rw [sg1, hv0, gc3]; omega) | (rw [gc3]; exact (Int.add_zero _).symm)) (by omega) (by omega) (by omega)
      · intro v5 v6 v7 v8 h hF g0 g1 g2 g3 g4 g5 g6 g7 g8 g9 g10 gc0 gc1 gc2 gc3 gc4 gc5 hm
        refine zW_iload (pc' := 57) dX12_ring_1.2.2.2.2 rfl rfl ?_
        refine zW_aload_n (pc' := 58) dX12_ring_2.1.1.1.1 rfl rfl ?_
        refine zG_key (pc' := 61) hF rfl fg_X12_99 tb0 rfl dX12_ring_2.1.1.1.2 rfl ?_
        refine zV_cm_ge (tgt := 126) (pc' := 64) dX12_ring_2.1.1.2.1 rfl rfl ⟨by omega, by omega⟩ ⟨by omega, by omega⟩ (fun c61 => ?_) (fun c61 => ?_)
        · have ug0 := sumS_s (t := (slF (κ 0 11) (κ 0 12) (κ 0 13) (bhI (κ 3) x1.toNat) x3 x2)) (w := (κ 0 11).toNat) (v := v7) (by omega)
          have ug1 := sumS_s (t := (svF (slF (κ 0 11) (κ 0 12) (κ 0 13) (bhI (κ 3) x1.toNat) x3 x2) (PF κ x1.toNat x2))) (w := (κ 0 11).toNat) (v := v7) (by omega)
          refine zW_iinc (ls' := [_, _, _, _, _, _, _, _, _]) (pc' := 129) dX12_ring_4.1.1.2.2 rfl (by decide) rfl rfl rfl ?_
          refine zV_goto 43 dX12_ring_4.1.2.1.1 rfl ?_
          refine zV_clr 8 (ls' := [_, _, _, _, _, _, _, _, _]) rfl ?_
          exact k43 _ _ _ _ hF (by omega) (by omega) (by omega) (by omega) (by omega) (by omega) (by omega) (by omega) (by omega) (by first | exact gc0 | exact hat) (by omega) (by first | rfl | (rw [ug0, gc2, show v8 = κ 0 11 by omega])) (by first | rfl | (rw [ug1, gc3, show v8 = κ 0 11 by omega])) (by omega) (by omega) (by omega)
        · have sg0 := sumR_s (t := (slF (κ 0 11) (κ 0 12) (κ 0 13) (bhI (κ 3) x1.toNat) x3 x2)) (y := v7) (v := v8) (by omega)
          have sg1 := sumR_s (t := (svF (slF (κ 0 11) (κ 0 12) (κ 0 13) (bhI (κ 3) x1.toNat) x3 x2) (PF κ x1.toNat x2))) (y := v7) (v := v8) (by omega)
          refine zW_aload_n (pc' := 65) dX12_ring_2.1.1.2.2 rfl rfl ?_
          refine zW_iload (pc' := 67) dX12_ring_2.1.2.1.1 rfl rfl ?_
          refine zW_iload (pc' := 69) dX12_ring_2.1.2.1.2 rfl rfl ?_
          refine cvI2 (pc' := 72) kX12_ringOf vX12_ringOf lk_X12_424 ⟨Nat.le_of_ble_eq_true rfl, Nat.le_of_ble_eq_true rfl⟩ tb0 vq12 rfl rfl (s_X12_ringOfZ hK hF _ ⟨by omega, by omega, by omega⟩ _ ⟨by omega, by omega, by omega⟩) dX12_ring_2.1.2.2.1 (Nat.le_of_ble_eq_true rfl) rfl ?_
          rintro r69 z69 ⟨hz69, p69⟩; subst z69
          refine zW_iload_n (pc' := 73) dX12_ring_2.1.2.2.2 rfl rfl ?_
          refine zV_cm_ne (tgt := 120) (pc' := 76) dX12_ring_2.2.1.1.1 rfl rfl ⟨by omega, by omega⟩ ⟨by omega, by omega⟩ (fun c73 => ?_) (fun c73 => ?_)
          · try (have hn0 : (slF (κ 0 11) (κ 0 12) (κ 0 13) (bhI (κ 3) x1.toNat) x3 x2) v8 v7 = 0 := if_neg (fun q => by have q2 := q.2; have q1 := q.1; unfold cl at q2; omega))
            try (have hv0 : (svF (slF (κ 0 11) (κ 0 12) (κ 0 13) (bhI (κ 3) x1.toNat) x3 x2) (PF κ x1.toNat x2)) v8 v7 = 0 := if_neg (by omega))
            refine zW_iinc (ls' := [_, _, _, _, _, _, _, _, _]) (pc' := 123) dX12_ring_4.1.1.1.2 rfl (by decide) rfl rfl rfl ?_
            refine zV_goto 55 dX12_ring_4.1.1.2.1 rfl ?_
            exact k55 _ _ _ _ _ hF (by omega) (by omega) (by omega) (by omega) (by omega) (by omega) (by omega) (by omega) (by omega) (by omega) (by omega) gc0 (by omega) (by first | (rw [sg0, hn1, gc2]; omega) | (rw [sg0, hn0, gc2]; omega) | (rw [gc2]; exact (Int.add_zero _).symm)) (by first | (rw [sg1, hv1, ← e114, gc3]; omega) | (rw [sg1, hv0, gc3]; omega) | (rw [gc3]; exact (Int.add_zero _).symm)) (by omega) (by omega) (by omega)
          · refine zW_aload_n (pc' := 77) dX12_ring_2.2.1.1.2 rfl rfl ?_
            refine zW_iload_n (pc' := 78) dX12_ring_2.2.1.2.1 rfl rfl ?_
            refine cvI1 (pc' := 81) kX12_isBehind vX12_isBehind lk_X12_380 ⟨Nat.le_of_ble_eq_true rfl, Nat.le_of_ble_eq_true rfl⟩ tb0 vq12 rfl rfl (s_X12_isBehindZ hK hF _ ⟨by omega, by omega, by omega⟩) dX12_ring_2.2.1.2.2 (Nat.le_of_ble_eq_true rfl) rfl ?_
            rintro r78 z78 ⟨hz78, p78⟩; subst z78
            refine zV_if_ne (tgt := 99) (pc' := 84) dX12_ring_2.2.2.1.1 rfl rfl ⟨by omega, by omega⟩ (fun c81 => ?_) (fun c81 => ?_)
            · have hcl : bhI (κ 3) x1.toNat = 1 ∨ cl (κ 0 13) v8 v7 = x2 := by unfold cl; omega
              have hn1 : (slF (κ 0 11) (κ 0 12) (κ 0 13) (bhI (κ 3) x1.toNat) x3 x2) v8 v7 = 1 := if_pos ⟨by omega, hcl⟩
              have hv1 : (svF (slF (κ 0 11) (κ 0 12) (κ 0 13) (bhI (κ 3) x1.toNat) x3 x2) (PF κ x1.toNat x2)) v8 v7 = PF κ x1.toNat x2 v8 v7 := if_pos hn1
              have ha := gc0 v8 v7 ⟨by omega, by omega, by omega, by omega⟩ hcl
              refine zW_iload (pc' := 101) dX12_ring_3.1.2.1.1 rfl rfl ?_
              refine zW_iconst (pc' := 102) dX12_ring_3.1.2.1.2 rfl ?_
              refine zW_iadd (pc' := 103) dX12_ring_3.1.2.2.1 rfl ?_
              refine zW_istore (ls' := [_, _, _, _, _, _, _, _, _]) (pc' := 105) dX12_ring_3.1.2.2.2 (by decide) rfl rfl rfl ?_
              refine zW_iload (pc' := 107) dX12_ring_3.2.1.1.1 rfl rfl ?_
              refine zW_aload_n (pc' := 108) dX12_ring_3.2.1.1.2 rfl rfl ?_
              refine zW_iload_n (pc' := 109) dX12_ring_3.2.1.2.1 rfl rfl ?_
              refine zW_iload_n (pc' := 110) dX12_ring_3.2.1.2.2 rfl rfl ?_
              refine zW_iload (pc' := 112) dX12_ring_3.2.2.1.1 rfl rfl ?_
              refine zW_iload (pc' := 114) dX12_ring_3.2.2.1.2 rfl rfl ?_
              refine cvI4 (pc' := 117) kX12_at vX12_at lk_X12_277 ⟨Nat.le_of_ble_eq_true rfl, Nat.le_of_ble_eq_true rfl⟩ tb0 vq12 rfl rfl (s_X12_atY hK hF _ ⟨by omega, by omega⟩ _ ⟨by omega, by omega⟩ _ ⟨by omega, by omega, by omega⟩ _ ⟨by omega, by omega, by omega⟩) dX12_ring_3.2.2.2.1 (Nat.le_of_ble_eq_true rfl) rfl ?_
              rintro r114 z114 ⟨hz114, p114⟩; subst z114
              have b114 : 0 ≤ r114 ∧ r114 ≤ 4095 := by rw [p114, ha.1]; exact ha.2
              have e114 := p114.trans ha.1
              refine zW_iadd (pc' := 118) dX12_ring_3.2.2.2.2 rfl ?_
              refine zW_istore (ls' := [_, _, _, _, _, _, _, _, _]) (pc' := 120) dX12_ring_4.1.1.1.1 (by decide) rfl rfl rfl ?_
              try (have hn0 : (slF (κ 0 11) (κ 0 12) (κ 0 13) (bhI (κ 3) x1.toNat) x3 x2) v8 v7 = 0 := if_neg (fun q => by have q2 := q.2; have q1 := q.1; unfold cl at q2; omega))
              try (have hv0 : (svF (slF (κ 0 11) (κ 0 12) (κ 0 13) (bhI (κ 3) x1.toNat) x3 x2) (PF κ x1.toNat x2)) v8 v7 = 0 := if_neg (by omega))
              refine zW_iinc (ls' := [_, _, _, _, _, _, _, _, _]) (pc' := 123) dX12_ring_4.1.1.1.2 rfl (by decide) rfl rfl rfl ?_
              refine zV_goto 55 dX12_ring_4.1.1.2.1 rfl ?_
              exact k55 _ _ _ _ _ hF (by omega) (by omega) (by omega) (by omega) (by omega) (by omega) (by omega) (by omega) (by omega) (by omega) (by omega) gc0 (by omega) (by first | (rw [sg0, hn1, gc2]; omega) | (rw [sg0, hn0, gc2]; omega) | (rw [gc2]; exact (Int.add_zero _).symm)) (by first | (rw [sg1, hv1, ← e114, gc3]; omega) | (rw [sg1, hv0, gc3]; omega) | (rw [gc3]; exact (Int.add_zero _).symm)) (by omega) (by omega) (by omega)
            · refine zW_aload_n (pc' := 85) dX12_ring_2.2.2.1.2 rfl rfl ?_
              refine zW_iload (pc' := 87) dX12_ring_2.2.2.2.1 rfl rfl ?_
              refine zW_iload (pc' := 89) dX12_ring_2.2.2.2.2 rfl rfl ?_
              refine cvI2 (pc' := 92) kX12_colourAt vX12_colourAt lk_X12_225 ⟨Nat.le_of_ble_eq_true rfl, Nat.le_of_ble_eq_true rfl⟩ tb0 vq12 rfl rfl (s_X12_colourAtZ hK hF _ ⟨by omega, by omega⟩ _ ⟨by omega, by omega⟩) dX12_ring_3.1.1.1.1 (Nat.le_of_ble_eq_true rfl) rfl ?_
              rintro r89 z89 ⟨hz89, p89⟩; subst z89
              refine zW_iload_n (pc' := 93) dX12_ring_3.1.1.1.2 rfl rfl ?_
              refine zV_cm_eq (tgt := 99) (pc' := 96) dX12_ring_3.1.1.2.1 rfl rfl ⟨by omega, by omega⟩ ⟨by omega, by omega⟩ (fun c93 => ?_) (fun c93 => ?_)
              · have hcl : bhI (κ 3) x1.toNat = 1 ∨ cl (κ 0 13) v8 v7 = x2 := by unfold cl; omega
                have hn1 : (slF (κ 0 11) (κ 0 12) (κ 0 13) (bhI (κ 3) x1.toNat) x3 x2) v8 v7 = 1 := if_pos ⟨by omega, hcl⟩
                have hv1 : (svF (slF (κ 0 11) (κ 0 12) (κ 0 13) (bhI (κ 3) x1.toNat) x3 x2) (PF κ x1.toNat x2)) v8 v7 = PF κ x1.toNat x2 v8 v7 := if_pos hn1
                have ha := gc0 v8 v7 ⟨by omega, by omega, by omega, by omega⟩ hcl
                refine zW_iload (pc' := 101) dX12_ring_3.1.2.1.1 rfl rfl ?_
                refine zW_iconst (pc' := 102) dX12_ring_3.1.2.1.2 rfl ?_
                refine zW_iadd (pc' := 103) dX12_ring_3.1.2.2.1 rfl ?_
                refine zW_istore (ls' := [_, _, _, _, _, _, _, _, _]) (pc' := 105) dX12_ring_3.1.2.2.2 (by decide) rfl rfl rfl ?_
                refine zW_iload (pc' := 107) dX12_ring_3.2.1.1.1 rfl rfl ?_
                refine zW_aload_n (pc' := 108) dX12_ring_3.2.1.1.2 rfl rfl ?_
                refine zW_iload_n (pc' := 109) dX12_ring_3.2.1.2.1 rfl rfl ?_
                refine zW_iload_n (pc' := 110) dX12_ring_3.2.1.2.2 rfl rfl ?_
                refine zW_iload (pc' := 112) dX12_ring_3.2.2.1.1 rfl rfl ?_
                refine zW_iload (pc' := 114) dX12_ring_3.2.2.1.2 rfl rfl ?_
                refine cvI4 (pc' := 117) kX12_at vX12_at lk_X12_277 ⟨Nat.le_of_ble_eq_true rfl, Nat.le_of_ble_eq_true rfl⟩ tb0 vq12 rfl rfl (s_X12_atY hK hF _ ⟨by omega, by omega⟩ _ ⟨by omega, by omega⟩ _ ⟨by omega, by omega, by omega⟩ _ ⟨by omega, by omega, by omega⟩) dX12_ring_3.2.2.2.1 (Nat.le_of_ble_eq_true rfl) rfl ?_
                rintro r114 z114 ⟨hz114, p114⟩; subst z114
                have b114 : 0 ≤ r114 ∧ r114 ≤ 4095 := by rw [p114, ha.1]; exact ha.2
                have e114 := p114.trans ha.1
                refine zW_iadd (pc' := 118) dX12_ring_3.2.2.2.2 rfl ?_
                refine zW_istore (ls' := [_, _, _, _, _, _, _, _, _]) (pc' := 120) dX12_ring_4.1.1.1.1 (by decide) rfl rfl rfl ?_
                try (have hn0 : (slF (κ 0 11) (κ 0 12) (κ 0 13) (bhI (κ 3) x1.toNat) x3 x2) v8 v7 = 0 := if_neg (fun q => by have q2 := q.2; have q1 := q.1; unfold cl at q2; omega))
                try (have hv0 : (svF (slF (κ 0 11) (κ 0 12) (κ 0 13) (bhI (κ 3) x1.toNat) x3 x2) (PF κ x1.toNat x2)) v8 v7 = 0 := if_neg (by omega))
                refine zW_iinc (ls' := [_, _, _, _, _, _, _, _, _]) (pc' := 123) dX12_ring_4.1.1.1.2 rfl (by decide) rfl rfl rfl ?_
                refine zV_goto 55 dX12_ring_4.1.1.2.1 rfl ?_
                exact k55 _ _ _ _ _ hF (by omega) (by omega) (by omega) (by omega) (by omega) (by omega) (by omega) (by omega) (by omega) (by omega) (by omega) gc0 (by omega) (by first | (rw [sg0, hn1, gc2]; omega) | (rw [sg0, hn0, gc2]; omega) | (rw [gc2]; exact (Int.add_zero _).symm)) (by first | (rw [sg1, hv1, ← e114, gc3]; omega) | (rw [sg1, hv0, gc3]; omega) | (rw [gc3]; exact (Int.add_zero _).symm)) (by omega) (by omega) (by omega)
              · refine zV_goto 120 dX12_ring_3.1.1.2.2 rfl ?_
                try (have hn0 : (slF (κ 0 11) (κ 0 12) (κ 0 13) (bhI (κ 3) x1.toNat) x3 x2) v8 v7 = 0 := if_neg (fun q => by have q2 := q.2; have q1 := q.1; unfold cl at q2; omega))
                try (have hv0 : (svF (slF (κ 0 11) (κ 0 12) (κ 0 13) (bhI (κ 3) x1.toNat) x3 x2) (PF κ x1.toNat x2)) v8 v7 = 0 := if_neg (by omega))
                refine zW_iinc (ls' := [_, _, _, _, _, _, _, _, _]) (pc' := 123) dX12_ring_4.1.1.1.2 rfl (by decide) rfl rfl rfl ?_
                refine zV_goto 55 dX12_ring_4.1.1.2.1 rfl ?_
                exact k55 _ _ _ _ _ hF (by omega) (by omega) (by omega) (by omega) (by omega) (by omega) (by omega) (by omega) (by omega) (by omega) (by omega) gc0 (by omega) (by first | (rw [sg0, hn1, gc2]; omega) | (rw [sg0, hn0, gc2]; omega) | (rw [gc2]; exact (Int.add_zero _).symm)) (by first | (rw [sg1, hv1, ← e114, gc3]; omega) | (rw [sg1, hv0, gc3]; omega) | (rw [gc3]; exact (Int.add_zero _).symm)) (by omega) (by omega) (by omega)
  refine zM_of [some (.inr (.inr 0)), some (.inl x1), some (.inl x2), some (.inl x3), some (.inl x4), none, none, none, none] 4 rfl rfl (Nat.le_of_ble_eq_true rfl) rfl ?_
  refine zW_aload_n (pc' := 1) dX12_ring_0.1.1.1.1 rfl rfl ?_
  refine zW_iload_n (pc' := 2) dX12_ring_0.1.1.1.2 rfl rfl ?_
  refine zW_iload_n (pc' := 3) dX12_ring_0.1.1.2.1 rfl rfl ?_
  refine cvI2 (pc' := 6) kX12_isLeftOf vX12_isLeftOf lk_X12_406 ⟨Nat.le_of_ble_eq_true rfl, Nat.le_of_ble_eq_true rfl⟩ tb0 vq12 rfl rfl (s_X12_isLeftOfZ hK hF _ ⟨by omega, by omega⟩ _ ⟨by omega, by omega⟩) dX12_ring_0.1.1.2.2 (Nat.le_of_ble_eq_true rfl) rfl ?_
  rintro r3 z3 ⟨hz3, p3⟩; subst z3
  refine zV_if_eq (tgt := 28) (pc' := 9) dX12_ring_0.1.2.1.1 rfl rfl ⟨by omega, by omega⟩ (fun c6 => ?_) (fun c6 => ?_)
  · refine zW_iconst (pc' := 29) dX12_ring_0.2.2.2.2 rfl ?_
    exact zV_iret rfl dX12_ring_1.1.1.1.1 ⟨hF, (by unfold rgQ; rw [if_neg (by omega)])⟩
  · refine zW_iload_n (pc' := 10) dX12_ring_0.1.2.1.2 rfl rfl ?_
    refine zW_iconst (pc' := 11) dX12_ring_0.1.2.2.1 rfl ?_
    refine zW_iconst (pc' := 12) dX12_ring_0.1.2.2.2 rfl ?_
    refine csI3 (pc' := 15) kX12_in vX12_in lk_X12_140 ⟨Nat.le_of_ble_eq_true rfl, Nat.le_of_ble_eq_true rfl⟩ rfl (s_X12_inR hF _ ⟨by omega, by omega⟩ _ ⟨by omega, by omega⟩ _ ⟨by omega, by omega⟩) dX12_ring_0.2.1.1.1 (Nat.le_of_ble_eq_true rfl) rfl ?_
    rintro r12 z12 ⟨hz12, p12⟩; subst z12
    refine zV_if_eq (tgt := 28) (pc' := 18) dX12_ring_0.2.1.1.2 rfl rfl ⟨by omega, by omega⟩ (fun c15 => ?_) (fun c15 => ?_)
    · refine zW_iconst (pc' := 29) dX12_ring_0.2.2.2.2 rfl ?_
      exact zV_iret rfl dX12_ring_1.1.1.1.1 ⟨hF, (by unfold rgQ; rw [if_neg (by omega)])⟩
    · refine zW_iload (pc' := 20) dX12_ring_0.2.1.2.1 rfl rfl ?_
      refine zW_iconst (pc' := 21) dX12_ring_0.2.1.2.2 rfl ?_
      refine zW_iconst (pc' := 22) dX12_ring_0.2.2.1.1 rfl ?_
      refine csI3 (pc' := 25) kX12_in vX12_in lk_X12_140 ⟨Nat.le_of_ble_eq_true rfl, Nat.le_of_ble_eq_true rfl⟩ rfl (s_X12_inR hF _ ⟨by omega, by omega⟩ _ ⟨by omega, by omega⟩ _ ⟨by omega, by omega⟩) dX12_ring_0.2.2.1.2 (Nat.le_of_ble_eq_true rfl) rfl ?_
      rintro r22 z22 ⟨hz22, p22⟩; subst z22
      refine zV_if_ne (tgt := 30) (pc' := 28) dX12_ring_0.2.2.2.1 rfl rfl ⟨by omega, by omega⟩ (fun c25 => ?_) (fun c25 => ?_)
      · refine zW_aload_n (pc' := 31) dX12_ring_1.1.1.1.2 rfl rfl ?_
        refine cvV0 (pc' := 34) kX12_leaves vX12_leaves lk_X12_377 ⟨Nat.le_of_ble_eq_true rfl, Nat.le_of_ble_eq_true rfl⟩ tb0 vq12 rfl rfl (hLw hK hF) dX12_ring_1.1.1.2.1 (Nat.le_of_ble_eq_true rfl) rfl ?_
        rintro r31 h ⟨hF, p31⟩
        have hrow := p31.2 x1.toNat (by omega)
        rw [show ((x1.toNat : Nat) : Int) = x1 by omega] at hrow
        have hat : ∀ x y : Int, inP (κ 0 11) (κ 0 12) x y → (bhI (κ 3) x1.toNat = 1 ∨ cl (κ 0 13) x y = x2) → h 17 (768 * x1 + 256 * x2 + 16 * y + x).toNat = PF κ x1.toNat x2 x y ∧ 0 ≤ PF κ x1.toNat x2 x y ∧ PF κ x1.toNat x2 x y ≤ 4095 := fun x y hp hq => PkR_at hrow rfl (PF_b hK hV _) (fun q => PF_c hE (by omega) q) x2 x y ⟨by omega, by omega⟩ hp hq
        refine zW_iconst (pc' := 35) dX12_ring_1.1.1.2.2 rfl ?_
        refine zW_istore (ls' := [_, _, _, _, _, _, _, _, _]) (pc' := 37) dX12_ring_1.1.2.1.1 (by decide) rfl rfl rfl ?_
        refine zW_iconst (pc' := 38) dX12_ring_1.1.2.1.2 rfl ?_
        refine zW_istore (ls' := [_, _, _, _, _, _, _, _, _]) (pc' := 40) dX12_ring_1.1.2.2.1 (by decide) rfl rfl rfl ?_
        refine zW_iconst (pc' := 41) dX12_ring_1.1.2.2.2 rfl ?_
        refine zW_istore (ls' := [_, _, _, _, _, _, _, _, _]) (pc' := 43) dX12_ring_1.2.1.1.1 (by decide) rfl rfl rfl ?_
        exact (main 10000000000000000000000000000000000000000).1 _ _ _ _ hF (by omega) (by omega) (by omega) (by omega) (by omega) (by omega) (by omega) (by omega) (by omega) (by first | exact gc0 | exact hat) (by omega) (by first | rfl | (rw [ug0, gc2, show v8 = κ 0 11 by omega])) (by first | rfl | (rw [ug1, gc3, show v8 = κ 0 11 by omega])) (by omega) (by omega) (by omega)
      · refine zW_iconst (pc' := 29) dX12_ring_0.2.2.2.2 rfl ?_
        exact zV_iret rfl dX12_ring_1.1.1.1.1 ⟨hF, (by unfold rgQ; rw [if_neg (by omega)])⟩

abbrev q_X11_ringZ (b : Bd) (κ : Hp) (x1 : Int) (x2 : Int) (x3 : Int) (x4 : Int) : Int → Hp → Prop := fun r h' => Fr b κ h' ∧ ((r = rgQ (κ 33 0) (κ 33 1) (κ 33 2) (κ 41 0) (ltV (LC κ) (κ 41 0)) (bhV (LC κ) (κ 41 0)) (pcV (κ 41 0) (PFc κ)) (nmV (κ 41 0) (XNc κ)) x1 x2 x3 x4))
set_option maxHeartbeats 4000000 in
set_option maxRecDepth 20000 in
theorem s_X11_ringZ {G : Ga} {b : Bd} {κ h : Hp} (hK : KC κ) (hF : Fr b κ h) (x1 : Int) (hx1 : rng x1) (x2 : Int) (hx2 : rng x2) (x3 : Int) (hx3 : rng x3) (x4 : Int) (hx4 : rng x4) (hSw : SheetW b) (hV : VOK (κ 34)) (hE : EaOK (LC κ) (κ 41 0)) : zM G mX11_ring yX11_ring [.inr (.inr 30), .inl x1, .inl x2, .inl x3, .inl x4] h (q_X11_ringZ b κ x1 x2 x3 x4) := by
  have f_33_0 := KCw hK
  have f_33_1 := KCh hK
  have f_33_2 := KCp hK
  have f_41_0 := KCm hK
  unfold rng at hx1
  unfold rng at hx2
  unfold rng at hx3
  unfold rng at hx4
  refine zM_of [some (.inr (.inr 30)), some (.inl x1), some (.inl x2), some (.inl x3), some (.inl x4)] 0 rfl rfl (Nat.le_of_ble_eq_true rfl) rfl ?_
  refine zW_aload_n (pc' := 1) dX11_ring_0.1.1.1.1 rfl rfl ?_
  refine zW_iload_n (pc' := 2) dX11_ring_0.1.1.1.2 rfl rfl ?_
  refine zW_iload_n (pc' := 3) dX11_ring_0.1.1.2.1 rfl rfl ?_
  refine cvI2 (pc' := 6) kX11_isLeftOf vX11_isLeftOf lk_X11_290 ⟨Nat.le_of_ble_eq_true rfl, Nat.le_of_ble_eq_true rfl⟩ tb30 vq11 rfl rfl (s_X11_isLeftOfZ hK hF _ ⟨by omega, by omega⟩ _ ⟨by omega, by omega⟩) dX11_ring_0.1.1.2.2 (Nat.le_of_ble_eq_true rfl) rfl ?_
  rintro r3 z3 ⟨hz3, p3⟩; subst z3
  refine zV_if_eq (tgt := 26) (pc' := 9) dX11_ring_0.1.2.1.1 rfl rfl ⟨by omega, by omega⟩ (fun c6 => ?_) (fun c6 => ?_)
  · refine zW_iconst (pc' := 27) dX11_ring_0.2.2.1.2 rfl ?_
    exact zV_iret rfl dX11_ring_0.2.2.2.1 ⟨hF, (by unfold rgQ; rw [if_neg (by omega)])⟩
  · refine zW_iload_n (pc' := 10) dX11_ring_0.1.2.1.2 rfl rfl ?_
    refine zW_iconst (pc' := 11) dX11_ring_0.1.2.2.1 rfl ?_
    refine csI2 (pc' := 14) kX11_isWithin vX11_isWithin lk_X11_116 ⟨Nat.le_of_ble_eq_true rfl, Nat.le_of_ble_eq_true rfl⟩ rfl (s_X11_isWithinR hF _ ⟨by omega, by omega⟩ _ ⟨by omega, by omega⟩) dX11_ring_0.1.2.2.2 (Nat.le_of_ble_eq_true rfl) rfl ?_
    rintro r11 z11 ⟨hz11, p11⟩; subst z11
    refine zV_if_eq (tgt := 26) (pc' := 17) dX11_ring_0.2.1.1.1 rfl rfl ⟨by omega, by omega⟩ (fun c14 => ?_) (fun c14 => ?_)
    · refine zW_iconst (pc' := 27) dX11_ring_0.2.2.1.2 rfl ?_
      exact zV_iret rfl dX11_ring_0.2.2.2.1 ⟨hF, (by unfold rgQ; rw [if_neg (by omega)])⟩
    · refine zW_iload (pc' := 19) dX11_ring_0.2.1.1.2 rfl rfl ?_
      refine zW_iconst (pc' := 20) dX11_ring_0.2.1.2.1 rfl ?_
      refine csI2 (pc' := 23) kX11_isWithin vX11_isWithin lk_X11_116 ⟨Nat.le_of_ble_eq_true rfl, Nat.le_of_ble_eq_true rfl⟩ rfl (s_X11_isWithinR hF _ ⟨by omega, by omega⟩ _ ⟨by omega, by omega⟩) dX11_ring_0.2.1.2.2 (Nat.le_of_ble_eq_true rfl) rfl ?_
      rintro r20 z20 ⟨hz20, p20⟩; subst z20
      refine zV_if_ne (tgt := 28) (pc' := 26) dX11_ring_0.2.2.1.1 rfl rfl ⟨by omega, by omega⟩ (fun c23 => ?_) (fun c23 => ?_)
      · refine zW_aload_n (pc' := 29) dX11_ring_0.2.2.2.2 rfl rfl ?_
        refine zG_ref (pc' := 32) 95 fg_X11_60 tb30 rfl dX11_ring_1.1.1.1.1 rfl ?_
        refine zW_aload_n (pc' := 33) dX11_ring_1.1.1.1.2 rfl rfl ?_
        refine zG_ref (pc' := 36) 54 fg_X11_51 tb30 rfl dX11_ring_1.1.1.2.1 rfl ?_
        refine zW_iload_n (pc' := 37) dX11_ring_1.1.1.2.2 rfl rfl ?_
        refine cvA1 (pc' := 40) kX1_sheetOf vX1_sheetOf lk_X11_192 ⟨Nat.le_of_ble_eq_true rfl, Nat.le_of_ble_eq_true rfl⟩ tb54 vq1 rfl rfl (hSw hK hF _ ⟨by omega, by omega⟩) dX11_ring_1.1.2.1.1 (Nat.le_of_ble_eq_true rfl) rfl ?_
        rintro r37 h ⟨hF, p37⟩
        obtain ⟨q37, z37⟩ : ∃ z : Nat, z = r37.toNat := ⟨_, rfl⟩
        rw [← z37]
        have hsh := (p37.2.2 (by omega) (by omega)).2 x1.toNat (by omega)
        have hqs := (p37.2.2 (by omega) (by omega)).1
        rw [show 56 + x1.toNat = q37 by omega] at hsh
        have hat := PkS_at hsh rfl (PFc_b hK hV _) (fun q => PFc_c hE (by omega) q) x2
        have hb01 : 0 ≤ bhI (LC κ) x1.toNat ∧ bhI (LC κ) x1.toNat ≤ 1 := by have z := bhI_c (LC κ) x1.toNat; omega
        refine zW_iload_n (pc' := 41) dX11_ring_1.1.2.1.2 rfl rfl ?_
        refine zW_iload_n (pc' := 42) dX11_ring_1.1.2.2.1 rfl rfl ?_
        refine cvV3 (pc' := 45) kX4_gatherRing vX4_gatherRing lk_X11_332 ⟨Nat.le_of_ble_eq_true rfl, Nat.le_of_ble_eq_true rfl⟩ tb95 vq4 rfl rfl (s_X4_gatherRingZ hK hF _ ⟨by omega, by omega⟩ _ ⟨by omega, by omega⟩ _ ⟨by omega, by omega⟩ (PFc κ x1.toNat) (bhI (LC κ) x1.toNat) h (PkS_fl hsh) hb01 (fun x y hp => hat x y ⟨by omega, by omega⟩ hp) Fw.rf) dX11_ring_1.1.2.2.2 (Nat.le_of_ble_eq_true rfl) rfl ?_
        rintro r42 h ⟨hF, d42, p42⟩
        have k1 := p42.1; have k2 := p42.2
        have hsum := laS_sum (s := (slF (κ 33 0) (κ 33 1) (κ 33 2) (bhI (LC κ) x1.toNat) x3 x2)) (v := PFc κ x1.toNat x2) (fun x y => slF_01) (w := (κ 33 0).toNat) (κ 33 1).toNat
        have e53_ := hF.2.2.2.2.1
        refine zW_iload (pc' := 47) dX11_ring_1.2.1.1.1 rfl rfl ?_
        refine zV_if_ne (tgt := 58) (pc' := 50) dX11_ring_1.2.1.1.2 rfl rfl ⟨by omega, by omega⟩ (fun c47 => ?_) (fun c47 => ?_)
        · refine zW_aload_n (pc' := 59) dX11_ring_1.2.2.2.1 rfl rfl ?_
          refine zG_ref (pc' := 62) 95 fg_X11_60 tb30 rfl dX11_ring_1.2.2.2.2 rfl ?_
          refine zG_int (pc' := 65) fg_X11_335 tb95 rfl dX11_ring_2.1.1.1.1 rfl ?_
          have e62 := hF.2.2.2.2.1
          refine zV_if_ne (tgt := 73) (pc' := 68) dX11_ring_2.1.1.1.2 rfl rfl ⟨by omega, by omega⟩ (fun c65 => ?_) (fun c65 => ?_)
          · refine zW_aload_n (pc' := 74) dX11_ring_2.1.2.1.2 rfl rfl ?_
            refine zG_ref (pc' := 77) 95 fg_X11_60 tb30 rfl dX11_ring_2.1.2.2 rfl ?_
            refine cvI0 (pc' := 80) kX4_together vX4_together lk_X11_301 ⟨Nat.le_of_ble_eq_true rfl, Nat.le_of_ble_eq_true rfl⟩ tb95 vq4 rfl rfl (s_X4_togetherZ hF (laS (slF (κ 33 0) (κ 33 1) (κ 33 2) (bhI (LC κ) x1.toNat) x3 x2) (PFc κ x1.toNat x2) (κ 33 0).toNat (κ 33 1).toNat) k2) dX11_ring_2.2.1.1.1 (Nat.le_of_ble_eq_true rfl) rfl ?_
            rintro r77 z77 ⟨hz77, p77⟩; subst z77
            have hsm := p77.2.2
            rw [k1, hsum] at hsm
            refine zW_aload_n (pc' := 81) dX11_ring_2.2.1.1.2 rfl rfl ?_
            refine zG_ref (pc' := 84) 95 fg_X11_60 tb30 rfl dX11_ring_2.2.1.2 rfl ?_
            refine zG_int (pc' := 87) fg_X11_335 tb95 rfl dX11_ring_2.2.2.1.1 rfl ?_
            have e84 := hF.2.2.2.2.1
            refine zW_idivX (pc' := 88) ⟨by omega, by omega⟩ ⟨by omega, by omega⟩ dX11_ring_2.2.2.1.2 rfl (fun v87 t87 e87 => ?_)
            unfold rng at e87
            exact zV_iret rfl dX11_ring_2.2.2.2 ⟨hF, (by unfold rgQ; rw [if_pos ⟨by omega, by omega, by omega, by omega, by omega, by omega, by omega, by omega⟩, bhV_in ⟨by omega, by omega⟩, pcV_in ⟨by omega, by omega⟩, ← k1, if_neg (by omega)]; first | (rw [if_pos (by omega)]) | (rw [if_neg (by omega), ← hsm, ← Int.tdiv_eq_ediv_of_nonneg (by omega)]; first | exact t87 | omega))⟩
          · refine zW_bipush (pc' := 70) dX11_ring_2.1.1.2 rfl rfl ?_
            refine zV_goto 88 dX11_ring_2.1.2.1.1 rfl ?_
            exact zV_iret rfl dX11_ring_2.2.2.2 ⟨hF, (by unfold rgQ; rw [if_pos ⟨by omega, by omega, by omega, by omega, by omega, by omega, by omega, by omega⟩, bhV_in ⟨by omega, by omega⟩, pcV_in ⟨by omega, by omega⟩, ← k1, if_neg (by omega)]; first | (rw [if_pos (by omega)]) | (rw [if_neg (by omega), ← hsm, ← Int.tdiv_eq_ediv_of_nonneg (by omega)]; first | exact t87 | omega))⟩
        · refine zW_aload_n (pc' := 51) dX11_ring_1.2.1.2.1 rfl rfl ?_
          refine zG_ref (pc' := 54) 95 fg_X11_60 tb30 rfl dX11_ring_1.2.1.2.2 rfl ?_
          refine zG_int (pc' := 57) fg_X11_335 tb95 rfl dX11_ring_1.2.2.1.1 rfl ?_
          have e54 := hF.2.2.2.2.1
          exact zV_iret rfl dX11_ring_1.2.2.1.2 ⟨hF, (by unfold rgQ; rw [if_pos ⟨by omega, by omega, by omega, by omega, by omega, by omega, by omega, by omega⟩, bhV_in ⟨by omega, by omega⟩, pcV_in ⟨by omega, by omega⟩, ← k1, if_pos (by omega)])⟩
      · refine zW_iconst (pc' := 27) dX11_ring_0.2.2.1.2 rfl ?_
        exact zV_iret rfl dX11_ring_0.2.2.2.1 ⟨hF, (by unfold rgQ; rw [if_neg (by omega)])⟩





