/-! sums over the squares -/
def sumR (t : Int → Int → Int) (y : Int) : Nat → Int
  | 0 => 0
  | n + 1 => sumR t y n + t n y
def sumS (t : Int → Int → Int) (w : Nat) : Nat → Int
  | 0 => 0
  | n + 1 => sumS t w n + sumR t n w
theorem sumR_s {t : Int → Int → Int} {y v : Int} (h : 0 ≤ v) : sumR t y (v + 1).toNat = sumR t y v.toNat + t v y := by
  rw [show (v + 1).toNat = v.toNat + 1 by omega]
  show sumR t y v.toNat + t ((v.toNat : Nat) : Int) y = _
  rw [show ((v.toNat : Nat) : Int) = v by omega]
theorem sumS_s {t : Int → Int → Int} {w : Nat} {v : Int} (h : 0 ≤ v) : sumS t w (v + 1).toNat = sumS t w v.toNat + sumR t v w := by
  rw [show (v + 1).toNat = v.toNat + 1 by omega]
  show sumS t w v.toNat + sumR t ((v.toNat : Nat) : Int) w = _
  rw [show ((v.toNat : Nat) : Int) = v by omega]
theorem sumR_cong {t t' : Int → Int → Int} {y : Int} : ∀ n : Nat, (∀ x : Int, 0 ≤ x → x < n → t x y = t' x y) → sumR t y n = sumR t' y n
  | 0, _ => rfl
  | n + 1, h => by
    show sumR t y n + t n y = sumR t' y n + t' n y
    rw [sumR_cong n (fun x h1 h2 => h x h1 (by omega)), h n (by omega) (by omega)]
theorem sumS_cong {t t' : Int → Int → Int} {w : Nat} : ∀ n : Nat, (∀ x y : Int, 0 ≤ x → x < w → 0 ≤ y → y < n → t x y = t' x y) → sumS t w n = sumS t' w n
  | 0, _ => rfl
  | n + 1, h => by
    show sumS t w n + sumR t n w = sumS t' w n + sumR t' n w
    rw [sumS_cong n (fun x y h1 h2 h3 h4 => h x y h1 h2 h3 (by omega)), sumR_cong w (fun x h1 h2 => h x n h1 h2 (by omega) (by omega))]
theorem sumR_b {t : Int → Int → Int} {y B : Int} : ∀ n : Nat, (∀ x : Int, 0 ≤ x → x < n → 0 ≤ t x y ∧ t x y ≤ B) → 0 ≤ sumR t y n ∧ sumR t y n ≤ B * n
  | 0, _ => by show (0 : Int) ≤ 0 ∧ (0 : Int) ≤ B * 0; omega
  | n + 1, h => by
    have z := sumR_b n (fun x h1 h2 => h x h1 (by omega))
    have u := h n (by omega) (by omega)
    have e : B * ((n + 1 : Nat) : Int) = B * n + B := by rw [Int.natCast_add, Int.mul_add]; omega
    show 0 ≤ sumR t y n + t n y ∧ sumR t y n + t n y ≤ _
    rw [e]; omega
theorem sumS_b {t : Int → Int → Int} {w : Nat} {B : Int} : ∀ n : Nat, (∀ x y : Int, 0 ≤ x → x < w → 0 ≤ y → y < n → 0 ≤ t x y ∧ t x y ≤ B) → 0 ≤ sumS t w n ∧ sumS t w n ≤ B * w * n
  | 0, _ => by show (0 : Int) ≤ 0 ∧ (0 : Int) ≤ B * w * 0; omega
  | n + 1, h => by
    have z := sumS_b n (fun x y h1 h2 h3 h4 => h x y h1 h2 h3 (by omega))
    have u := sumR_b (t := t) (y := n) (B := B) w (fun x h1 h2 => h x n h1 h2 (by omega) (by omega))
    have e : B * w * ((n + 1 : Nat) : Int) = B * w * n + B * w := by rw [Int.natCast_add, Int.mul_add]; omega
    show 0 ≤ sumS t w n + sumR t n w ∧ sumS t w n + sumR t n w ≤ _
    rw [e]; omega
/-- the white -/
abbrev gy (F : P3) (n x y : Int) : Prop := 64 ≤ mn3 F x y ∧ mx3 F x y ≤ 4000 ∧ mx3 F x y - mn3 F x y ≤ 16 * n
def gyT (F : P3) (n : Int) (t : Int → Int → Int) (x y : Int) : Int := if gy F n x y then t x y else 0
def gnF (k g o : Int) : Int := if k = 0 then 256 else max2 64 (min2 1024 (256 * g / o))
def whK (W H : Int) (F : P3) (n : Int) (t : Int → Int → Int) : Int := sumS (gyT F n t) W.toNat H.toNat
def gnR (W H : Int) (F : P3) (n c : Int) : Int := gnF (whK W H F n (fun _ _ => 1)) (whK W H F n (F 1)) (whK W H F n (F c))
theorem gnF_b {k g o : Int} : 64 ≤ gnF k g o ∧ gnF k g o ≤ 1024 := by
  unfold gnF
  split
  · omega
  · have z1 := min2c 1024 (256 * g / o)
    have z2 := max2c 64 (min2 1024 (256 * g / o))
    omega
/-- all light together -/
def mnL (W H : Int) (F : P3) : Int := sumS (fun x y => lgt F x y) W.toNat H.toNat / (W * H)

abbrev q_X12_findsWhiteZ (b : Bd) (κ : Hp) (x1 : Int) (x2 : Int) (F : P3) (gh0 : Hp) : Int → Hp → Prop := fun r h' => Fr b κ h' ∧ ((Fw [] [(0, 44), (0, 45), (0, 46)] gh0 h') ∧ (h' 0 46 = whK (κ 0 11) (κ 0 12) F x2 (fun _ _ => 1) ∧ h' 0 44 = gnR (κ 0 11) (κ 0 12) F x2 0 ∧ h' 0 45 = gnR (κ 0 11) (κ 0 12) F x2 2))
set_option maxHeartbeats 4000000 in
set_option maxRecDepth 20000 in
theorem s_X12_findsWhiteZ {G : Ga} {b : Bd} {κ h : Hp} (hK : KR κ) (hF : Fr b κ h) (x1 : Int) (hx1 : 0 ≤ x1 ∧ x1 ≤ 14) (x2 : Int) (hx2 : 0 ≤ x2 ∧ x2 ≤ 255) (F : P3) (gh0 : Hp) (hF3 : Fu17 κ (h 17) x1 F) (hb3 : FB3 (κ 0 11) (κ 0 12) F) (hgh : Fw [] [(0, 44), (0, 45), (0, 46)] gh0 h) : zM G mX12_findsWhite yX12_findsWhite [.inr (.inr 0), .inl x1, .inl x2] h (q_X12_findsWhiteZ b κ x1 x2 F gh0) := by
  have f_0_11 := KRw hK
  have f_0_12 := KRh hK
  have main : ∀ N : Nat, (∀ (v3 v4 v5 v6 : Int) (h : Hp), Fr b κ h → (0 ≤ v3 ∧ v3 ≤ 1024000) → (0 ≤ v4 ∧ v4 ≤ 1024000) → (0 ≤ v5 ∧ v5 ≤ 1024000) → (0 ≤ v6 ∧ v6 ≤ 16) → (v6 - κ 0 12 ≤ 0) → (0 ≤ h 0 46 ∧ h 0 46 ≤ 16 * v6) → (64 * h 0 46 ≤ v3 ∧ v3 ≤ 4000 * h 0 46) → (64 * h 0 46 ≤ v4 ∧ v4 ≤ 4000 * h 0 46) → (64 * h 0 46 ≤ v5 ∧ v5 ≤ 4000 * h 0 46) → (h 0 46 = sumS (gyT F x2 (fun _ _ => 1)) (κ 0 11).toNat v6.toNat) → (v3 = sumS (gyT F x2 (F 0)) (κ 0 11).toNat v6.toNat) → (v4 = sumS (gyT F x2 (F 1)) (κ 0 11).toNat v6.toNat) → (v5 = sumS (gyT F x2 (F 2)) (κ 0 11).toNat v6.toNat) → (Fu17 κ (h 17) x1 F) → (Fw [] [(0, 44), (0, 45), (0, 46)] gh0 h) → 258345936 + 134136 * (16 - v6) + 132894 < (N : Int) → zV G mX12_findsWhite (q_X12_findsWhiteZ b κ x1 x2 F gh0) 16 [some (.inr (.inr 0)), some (.inl x1), some (.inl x2), some (.inl v3), some (.inl v4), some (.inl v5), some (.inl v6), none, none, none] [] h) ∧ (∀ (v3 v4 v5 v6 v7 : Int) (h : Hp), Fr b κ h → (0 ≤ v3 ∧ v3 ≤ 1024000) → (0 ≤ v4 ∧ v4 ≤ 1024000) → (0 ≤ v5 ∧ v5 ≤ 1024000) → (0 ≤ v6 ∧ v6 ≤ 15) → (v6 - κ 0 12 ≤ -1) → (0 ≤ v7 ∧ v7 ≤ 16) → (v7 - κ 0 11 ≤ 0) → (0 ≤ h 0 46 ∧ h 0 46 ≤ 16 * v6 + v7) → (64 * h 0 46 ≤ v3 ∧ v3 ≤ 4000 * h 0 46) → (64 * h 0 46 ≤ v4 ∧ v4 ≤ 4000 * h 0 46) → (64 * h 0 46 ≤ v5 ∧ v5 ≤ 4000 * h 0 46) → (h 0 46 = sumS (gyT F x2 (fun _ _ => 1)) (κ 0 11).toNat v6.toNat + sumR (gyT F x2 (fun _ _ => 1)) v6 v7.toNat) → (v3 = sumS (gyT F x2 (F 0)) (κ 0 11).toNat v6.toNat + sumR (gyT F x2 (F 0)) v6 v7.toNat) → (v4 = sumS (gyT F x2 (F 1)) (κ 0 11).toNat v6.toNat + sumR (gyT F x2 (F 1)) v6 v7.toNat) → (v5 = sumS (gyT F x2 (F 2)) (κ 0 11).toNat v6.toNat + sumR (gyT F x2 (F 2)) v6 v7.toNat) → (Fu17 κ (h 17) x1 F) → (Fw [] [(0, 44), (0, 45), (0, 46)] gh0 h) → 258345936 + 134136 * (16 - v6) + 84456 + 69 * (16 - v7) + 68 < (N : Int) → zV G mX12_findsWhite (q_X12_findsWhiteZ b κ x1 x2 F gh0) 28 [some (.inr (.inr 0)), some (.inl x1), some (.inl x2), some (.inl v3), some (.inl v4), some (.inl v5), some (.inl v6), some (.inl v7), none, none] [] h) := by
    intro N
    induction N with
    | zero =>
      refine ⟨?_, ?_⟩
      · intro v3 v4 v5 v6 h hF g0 g1 g2 g3 g4 gc0 gc1 gc2 gc3 gc4 gc5 gc6 gc7 hF3 hgh hm
        exfalso; omega
      · intro v3 v4 v5 v6 v7 h hF g0 g1 g2 g3 g4 g5 g6 gc0 gc1 gc2 gc3 gc4 gc5 gc6 gc7 hF3 hgh hm
        exfalso; omega
    | succ N ih =>
      obtain ⟨k16, k28⟩ := ih
      refine ⟨?_, ?_⟩
      · intro v3 v4 v5 v6 h hF g0 g1 g2 g3 g4 gc0 gc1 gc2 gc3 gc4 gc5 gc6 gc7 hF3 hgh hm
        refine zW_iload (pc' := 18) dX12_findsWhite_0.2.1.2.2 rfl rfl ?_
        refine zW_aload_n (pc' := 19) dX12_findsWhite_0.2.2.1.1 rfl rfl ?_
        refine zG_key (pc' := 22) hF rfl fg_X12_103 tb0 rfl dX12_findsWhite_0.2.2.1.2 rfl ?_
        refine zV_cm_ge (tgt := 154) (pc' := 25) dX12_findsWhite_0.2.2.2.1 rfl rfl ⟨by omega, by omega⟩ ⟨by omega, by omega⟩ (fun c22 => ?_) (fun c22 => ?_)
        · refine zW_aload_n (pc' := 155) dX12_findsWhite_5.1.2.1.1 rfl rfl ?_
          refine zW_aload_n (pc' := 156) dX12_findsWhite_5.1.2.1.2 rfl rfl ?_
          refine zG_int (pc' := 159) fg_X12_292 tb0 rfl dX12_findsWhite_5.1.2.2.1 rfl ?_
          refine zV_if_ne (tgt := 168) (pc' := 162) dX12_findsWhite_5.1.2.2.2 rfl rfl ⟨by omega, by omega⟩ (fun c159 => ?_) (fun c159 => ?_)
          · refine zW_bipush (pc' := 170) dX12_findsWhite_5.2.1.2.1 rfl rfl ?_
            refine zW_sipush (pc' := 173) dX12_findsWhite_5.2.1.2.2 rfl rfl ?_
            refine zW_sipush (pc' := 176) dX12_findsWhite_5.2.2.1.1 rfl rfl ?_
            refine zW_iload (pc' := 178) dX12_findsWhite_5.2.2.1.2 rfl rfl ?_
            refine zW_imul (pc' := 179) dX12_findsWhite_5.2.2.2.1 rfl ?_
            refine zW_iload_n (pc' := 180) dX12_findsWhite_5.2.2.2.2 rfl rfl ?_
            refine zW_idivX (pc' := 181) ⟨by omega, by omega⟩ ⟨by omega, by omega⟩ dX12_findsWhite_6.1.1.1.1 rfl (fun v180 t180 e180 => ?_)
            unfold rng at e180
            have b180_ := tdb2 (a := 256 * v4) (d := v3) (by omega) (by omega)
            rw [← t180] at b180_
            refine csI2 (pc' := 184) kX12_min vX12_min lk_X12_109 ⟨Nat.le_of_ble_eq_true rfl, Nat.le_of_ble_eq_true rfl⟩ rfl (s_X12_minR hF _ ⟨by omega, by omega⟩ _ ⟨by omega, by omega⟩) dX12_findsWhite_6.1.1.1.2 (Nat.le_of_ble_eq_true rfl) rfl ?_
            rintro r181 z181 ⟨hz181, p181⟩; subst z181
            refine csI2 (pc' := 187) kX12_max vX12_max lk_X12_113 ⟨Nat.le_of_ble_eq_true rfl, Nat.le_of_ble_eq_true rfl⟩ rfl (s_X12_maxR hF _ ⟨by omega, by omega⟩ _ ⟨by omega, by omega⟩) dX12_findsWhite_6.1.1.2.1 (Nat.le_of_ble_eq_true rfl) rfl ?_
            rintro r184 z184 ⟨hz184, p184⟩; subst z184
            obtain ⟨y47, hy47⟩ : ∃ z : Int, z = h 0 46 := ⟨_, rfl⟩
            skip
            refine zP_scf (pc' := 190) hF rfl fp_X12_301 tb0 rfl dX12_findsWhite_6.1.1.2.2 rfl (fun h i187 hF a187 b187 w187 => ?_)
            replace b187 := b187 ⟨by omega, by omega⟩
            replace hgh : Fw [] [(0, 44), (0, 45), (0, 46)] gh0 h := by rw [w187]; exact hgh.wf (by simp)
            replace hF3 : Fu17 κ (h 17) x1 F := by have q0_ := (congrFun w187 17).trans (zfun (by decide)); rw [q0_]; exact hF3
            have z187 : h 0 46 = y47 := by rw [w187, hy47]; exact zwr_ne (Or.inr (by decide))
            refine zW_aload_n (pc' := 191) dX12_findsWhite_6.1.2.1.1 rfl rfl ?_
            refine zW_aload_n (pc' := 192) dX12_findsWhite_6.1.2.1.2 rfl rfl ?_
            refine zG_int (pc' := 195) fg_X12_292 tb0 rfl dX12_findsWhite_6.1.2.2.1 rfl ?_
            refine zV_if_ne (tgt := 204) (pc' := 198) dX12_findsWhite_6.1.2.2.2 rfl rfl ⟨by omega, by omega⟩ (fun c195 => ?_) (fun c195 => ?_)
            · refine zW_bipush (pc' := 206) dX12_findsWhite_6.2.1.2.1 rfl rfl ?_
              refine zW_sipush (pc' := 209) dX12_findsWhite_6.2.1.2.2 rfl rfl ?_
              refine zW_sipush (pc' := 212) dX12_findsWhite_6.2.2.1.1 rfl rfl ?_
              refine zW_iload (pc' := 214) dX12_findsWhite_6.2.2.1.2 rfl rfl ?_
              refine zW_imul (pc' := 215) dX12_findsWhite_6.2.2.2.1 rfl ?_
              refine zW_iload (pc' := 217) dX12_findsWhite_6.2.2.2.2 rfl rfl ?_
              refine zW_idivX (pc' := 218) ⟨by omega, by omega⟩ ⟨by omega, by omega⟩ dX12_findsWhite_7.1.1.1 rfl (fun v217 t217 e217 => ?_)
              unfold rng at e217
              have b217_ := tdb2 (a := 256 * v4) (d := v5) (by omega) (by omega)
              rw [← t217] at b217_
              refine csI2 (pc' := 221) kX12_min vX12_min lk_X12_109 ⟨Nat.le_of_ble_eq_true rfl, Nat.le_of_ble_eq_true rfl⟩ rfl (s_X12_minR hF _ ⟨by omega, by omega⟩ _ ⟨by omega, by omega⟩) dX12_findsWhite_7.1.1.2 (Nat.le_of_ble_eq_true rfl) rfl ?_
              rintro r218 z218 ⟨hz218, p218⟩; subst z218
              refine csI2 (pc' := 224) kX12_max vX12_max lk_X12_113 ⟨Nat.le_of_ble_eq_true rfl, Nat.le_of_ble_eq_true rfl⟩ rfl (s_X12_maxR hF _ ⟨by omega, by omega⟩ _ ⟨by omega, by omega⟩) dX12_findsWhite_7.1.2 (Nat.le_of_ble_eq_true rfl) rfl ?_
              rintro r221 z221 ⟨hz221, p221⟩; subst z221
              refine zP_scf (pc' := 227) hF rfl fp_X12_304 tb0 rfl dX12_findsWhite_7.2.1 rfl (fun h i224 hF a224 b224 w224 => ?_)
              replace b224 := b224 ⟨by omega, by omega⟩
              replace hgh : Fw [] [(0, 44), (0, 45), (0, 46)] gh0 h := by rw [w224]; exact hgh.wf (by simp)
              replace hF3 : Fu17 κ (h 17) x1 F := by have q0_ := (congrFun w224 17).trans (zfun (by decide)); rw [q0_]; exact hF3
              exact zV_vret rfl dX12_findsWhite_7.2.2 ⟨hF, ⟨hgh, (by have e6 : κ 0 12 = v6 := (by omega); have k4 : y47 = whK (κ 0 11) (κ 0 12) F x2 (fun _ _ => 1) := (by unfold whK; rw [e6, hy47]; exact gc4); have k5 : v3 = whK (κ 0 11) (κ 0 12) F x2 (F 0) := (by unfold whK; rw [e6]; exact gc5); have k6 : v4 = whK (κ 0 11) (κ 0 12) F x2 (F 1) := (by unfold whK; rw [e6]; exact gc6); have k7 : v5 = whK (κ 0 11) (κ 0 12) F x2 (F 2) := (by unfold whK; rw [e6]; exact gc7); have d46 : h 0 46 = y47 := (by rw [w224, zwr_ne (Or.inr (by decide))]; exact z187); have d44 : h 0 44 = i187 := (by rw [w224, zwr_ne (Or.inr (by decide)), w187]; exact zwr_eq); have d45 : h 0 45 = i224 := (by rw [w224]; exact zwr_eq); refine ⟨d46.trans k4, ?_, ?_⟩; (rw [d44, b187]; unfold gnR; rw [← k4, ← k6, ← k5]; unfold gnF; first | (exfalso; omega) | (rw [if_pos (by omega)]) | (rw [if_neg (by omega), ← Int.tdiv_eq_ediv_of_nonneg (by omega), ← t180]; have u1 := min2c 1024 v180; have u2 := max2c 64 (min2 1024 v180); omega)); (rw [d45, b224]; unfold gnR; rw [← k4, ← k6, ← k7]; unfold gnF; first | (exfalso; omega) | (rw [if_pos (by omega)]) | (rw [if_neg (by omega), ← Int.tdiv_eq_ediv_of_nonneg (by omega), ← t217]; have u1 := min2c 1024 v217; have u2 := max2c 64 (min2 1024 v217); omega)))⟩⟩
            · refine zW_sipush (pc' := 201) dX12_findsWhite_6.2.1.1.1 rfl rfl ?_
              refine zV_goto 224 dX12_findsWhite_6.2.1.1.2 rfl ?_
              refine zP_scf (pc' := 227) hF rfl fp_X12_304 tb0 rfl dX12_findsWhite_7.2.1 rfl (fun h i224 hF a224 b224 w224 => ?_)
              replace b224 := b224 ⟨by omega, by omega⟩
              replace hgh : Fw [] [(0, 44), (0, 45), (0, 46)] gh0 h := by rw [w224]; exact hgh.wf (by simp)
              replace hF3 : Fu17 κ (h 17) x1 F := by have q0_ := (congrFun w224 17).trans (zfun (by decide)); rw [q0_]; exact hF3
              exact zV_vret rfl dX12_findsWhite_7.2.2 ⟨hF, ⟨hgh, (by have e6 : κ 0 12 = v6 := (by omega); have k4 : y47 = whK (κ 0 11) (κ 0 12) F x2 (fun _ _ => 1) := (by unfold whK; rw [e6, hy47]; exact gc4); have k5 : v3 = whK (κ 0 11) (κ 0 12) F x2 (F 0) := (by unfold whK; rw [e6]; exact gc5); have k6 : v4 = whK (κ 0 11) (κ 0 12) F x2 (F 1) := (by unfold whK; rw [e6]; exact gc6); have k7 : v5 = whK (κ 0 11) (κ 0 12) F x2 (F 2) := (by unfold whK; rw [e6]; exact gc7); have d46 : h 0 46 = y47 := (by rw [w224, zwr_ne (Or.inr (by decide))]; exact z187); have d44 : h 0 44 = i187 := (by rw [w224, zwr_ne (Or.inr (by decide)), w187]; exact zwr_eq); have d45 : h 0 45 = i224 := (by rw [w224]; exact zwr_eq); refine ⟨d46.trans k4, ?_, ?_⟩; (rw [d44, b187]; unfold gnR; rw [← k4, ← k6, ← k5]; unfold gnF; first | (exfalso; omega) | (rw [if_pos (by omega)]) | (rw [if_neg (by omega), ← Int.tdiv_eq_ediv_of_nonneg (by omega), ← t180]; have u1 := min2c 1024 v180; have u2 := max2c 64 (min2 1024 v180); omega)); (rw [d45, b224]; unfold gnR; rw [← k4, ← k6, ← k7]; unfold gnF; first | (exfalso; omega) | (rw [if_pos (by omega)]) | (rw [if_neg (by omega), ← Int.tdiv_eq_ediv_of_nonneg (by omega), ← t217]; have u1 := min2c 1024 v217; have u2 := max2c 64 (min2 1024 v217); omega)))⟩⟩
          · refine zW_sipush (pc' := 165) dX12_findsWhite_5.2.1.1.1 rfl rfl ?_
            refine zV_goto 187 dX12_findsWhite_5.2.1.1.2 rfl ?_
            obtain ⟨y47, hy47⟩ : ∃ z : Int, z = h 0 46 := ⟨_, rfl⟩
            skip
            refine zP_scf (pc' := 190) hF rfl fp_X12_301 tb0 rfl dX12_findsWhite_6.1.1.2.2 rfl (fun h i187 hF a187 b187 w187 => ?_)
            replace b187 := b187 ⟨by omega, by omega⟩
            replace hgh : Fw [] [(0, 44), (0, 45), (0, 46)] gh0 h := by rw [w187]; exact hgh.wf (by simp)
            replace hF3 : Fu17 κ (h 17) x1 F := by have q0_ := (congrFun w187 17).trans (zfun (by decide)); rw [q0_]; exact hF3
            have z187 : h 0 46 = y47 := by rw [w187, hy47]; exact zwr_ne (Or.inr (by decide))
            refine zW_aload_n (pc' := 191) dX12_findsWhite_6.1.2.1.1 rfl rfl ?_
            refine zW_aload_n (pc' := 192) dX12_findsWhite_6.1.2.1.2 rfl rfl ?_
            refine zG_int (pc' := 195) fg_X12_292 tb0 rfl dX12_findsWhite_6.1.2.2.1 rfl ?_
            refine zV_if_ne (tgt := 204) (pc' := 198) dX12_findsWhite_6.1.2.2.2 rfl rfl ⟨by omega, by omega⟩ (fun c195 => ?_) (fun c195 => ?_)
            · refine zW_bipush (pc' := 206) dX12_findsWhite_6.2.1.2.1 rfl rfl ?_
              refine zW_sipush (pc' := 209) dX12_findsWhite_6.2.1.2.2 rfl rfl ?_
              refine zW_sipush (pc' := 212) dX12_findsWhite_6.2.2.1.1 rfl rfl ?_
              refine zW_iload (pc' := 214) dX12_findsWhite_6.2.2.1.2 rfl rfl ?_
              refine zW_imul (pc' := 215) dX12_findsWhite_6.2.2.2.1 rfl ?_
              refine zW_iload (pc' := 217) dX12_findsWhite_6.2.2.2.2 rfl rfl ?_
              refine zW_idivX (pc' := 218) ⟨by omega, by omega⟩ ⟨by omega, by omega⟩ dX12_findsWhite_7.1.1.1 rfl (fun v217 t217 e217 => ?_)
              unfold rng at e217
              have b217_ := tdb2 (a := 256 * v4) (d := v5) (by omega) (by omega)
              rw [← t217] at b217_
              refine csI2 (pc' := 221) kX12_min vX12_min lk_X12_109 ⟨Nat.le_of_ble_eq_true rfl, Nat.le_of_ble_eq_true rfl⟩ rfl (s_X12_minR hF _ ⟨by omega, by omega⟩ _ ⟨by omega, by omega⟩) dX12_findsWhite_7.1.1.2 (Nat.le_of_ble_eq_true rfl) rfl ?_
              rintro r218 z218 ⟨hz218, p218⟩; subst z218
              refine csI2 (pc' := 224) kX12_max vX12_max lk_X12_113 ⟨Nat.le_of_ble_eq_true rfl, Nat.le_of_ble_eq_true rfl⟩ rfl (s_X12_maxR hF _ ⟨by omega, by omega⟩ _ ⟨by omega, by omega⟩) dX12_findsWhite_7.1.2 (Nat.le_of_ble_eq_true rfl) rfl ?_
              rintro r221 z221 ⟨hz221, p221⟩; subst z221
              refine zP_scf (pc' := 227) hF rfl fp_X12_304 tb0 rfl dX12_findsWhite_7.2.1 rfl (fun h i224 hF a224 b224 w224 => ?_)
              replace b224 := b224 ⟨by omega, by omega⟩
              replace hgh : Fw [] [(0, 44), (0, 45), (0, 46)] gh0 h := by rw [w224]; exact hgh.wf (by simp)
              replace hF3 : Fu17 κ (h 17) x1 F := by have q0_ := (congrFun w224 17).trans (zfun (by decide)); rw [q0_]; exact hF3
              exact zV_vret rfl dX12_findsWhite_7.2.2 ⟨hF, ⟨hgh, (by have e6 : κ 0 12 = v6 := (by omega); have k4 : y47 = whK (κ 0 11) (κ 0 12) F x2 (fun _ _ => 1) := (by unfold whK; rw [e6, hy47]; exact gc4); have k5 : v3 = whK (κ 0 11) (κ 0 12) F x2 (F 0) := (by unfold whK; rw [e6]; exact gc5); have k6 : v4 = whK (κ 0 11) (κ 0 12) F x2 (F 1) := (by unfold whK; rw [e6]; exact gc6); have k7 : v5 = whK (κ 0 11) (κ 0 12) F x2 (F 2) := (by unfold whK; rw [e6]; exact gc7); have d46 : h 0 46 = y47 := (by rw [w224, zwr_ne (Or.inr (by decide))]; exact z187); have d44 : h 0 44 = i187 := (by rw [w224, zwr_ne (Or.inr (by decide)), w187]; exact zwr_eq); have d45 : h 0 45 = i224 := (by rw [w224]; exact zwr_eq); refine ⟨d46.trans k4, ?_, ?_⟩; (rw [d44, b187]; unfold gnR; rw [← k4, ← k6, ← k5]; unfold gnF; first | (exfalso; omega) | (rw [if_pos (by omega)]) | (rw [if_neg (by omega), ← Int.tdiv_eq_ediv_of_nonneg (by omega), ← t180]; have u1 := min2c 1024 v180; have u2 := max2c 64 (min2 1024 v180); omega)); (rw [d45, b224]; unfold gnR; rw [← k4, ← k6, ← k7]; unfold gnF; first | (exfalso; omega) | (rw [if_pos (by omega)]) | (rw [if_neg (by omega), ← Int.tdiv_eq_ediv_of_nonneg (by omega), ← t217]; have u1 := min2c 1024 v217; have u2 := max2c 64 (min2 1024 v217); omega)))⟩⟩
            · refine zW_sipush (pc' := 201) dX12_findsWhite_6.2.1.1.1 rfl rfl ?_
              refine zV_goto 224 dX12_findsWhite_6.2.1.1.2 rfl ?_
              refine zP_scf (pc' := 227) hF rfl fp_X12_304 tb0 rfl dX12_findsWhite_7.2.1 rfl (fun h i224 hF a224 b224 w224 => ?_)
              replace b224 := b224 ⟨by omega, by omega⟩
              replace hgh : Fw [] [(0, 44), (0, 45), (0, 46)] gh0 h := by rw [w224]; exact hgh.wf (by simp)
              replace hF3 : Fu17 κ (h 17) x1 F := by have q0_ := (congrFun w224 17).trans (zfun (by decide)); rw [q0_]; exact hF3
              exact zV_vret rfl dX12_findsWhite_7.2.2 ⟨hF, ⟨hgh, (by have e6 : κ 0 12 = v6 := (by omega); have k4 : y47 = whK (κ 0 11) (κ 0 12) F x2 (fun _ _ => 1) := (by unfold whK; rw [e6, hy47]; exact gc4); have k5 : v3 = whK (κ 0 11) (κ 0 12) F x2 (F 0) := (by unfold whK; rw [e6]; exact gc5); have k6 : v4 = whK (κ 0 11) (κ 0 12) F x2 (F 1) := (by unfold whK; rw [e6]; exact gc6); have k7 : v5 = whK (κ 0 11) (κ 0 12) F x2 (F 2) := (by unfold whK; rw [e6]; exact gc7); have d46 : h 0 46 = y47 := (by rw [w224, zwr_ne (Or.inr (by decide))]; exact z187); have d44 : h 0 44 = i187 := (by rw [w224, zwr_ne (Or.inr (by decide)), w187]; exact zwr_eq); have d45 : h 0 45 = i224 := (by rw [w224]; exact zwr_eq); refine ⟨d46.trans k4, ?_, ?_⟩; (rw [d44, b187]; unfold gnR; rw [← k4, ← k6, ← k5]; unfold gnF; first | (exfalso; omega) | (rw [if_pos (by omega)]) | (rw [if_neg (by omega), ← Int.tdiv_eq_ediv_of_nonneg (by omega), ← t180]; have u1 := min2c 1024 v180; have u2 := max2c 64 (min2 1024 v180); omega)); (rw [d45, b224]; unfold gnR; rw [← k4, ← k6, ← k7]; unfold gnF; first | (exfalso; omega) | (rw [if_pos (by omega)]) | (rw [if_neg (by omega), ← Int.tdiv_eq_ediv_of_nonneg (by omega), ← t217]; have u1 := min2c 1024 v217; have u2 := max2c 64 (min2 1024 v217); omega)))⟩⟩
        · refine zW_iconst (pc' := 26) dX12_findsWhite_0.2.2.2.2 rfl ?_
          refine zW_istore (ls' := [_, _, _, _, _, _, _, _, _, _]) (pc' := 28) dX12_findsWhite_1.1.1.1.1 (by decide) rfl rfl rfl ?_
          exact k28 _ _ _ _ _ _ hF (by omega) (by omega) (by omega) (by omega) (by omega) (by omega) (by omega) (by omega) (by omega) (by omega) (by omega) (by first | (rw [sk, tk, z96, hy46, gc4]; omega) | (rw [sk, tk]; omega) | (rw [sk, show gyT F x2 (fun _ _ => 1) v7 v6 = 0 from if_neg (fun q => by omega)]; omega) | (rw [gc4]; exact (Int.add_zero _).symm)) (by first | (rw [sr, tr, z96, hy46, gc5]; omega) | (rw [sr, tr]; omega) | (rw [sr, show gyT F x2 (F 0) v7 v6 = 0 from if_neg (fun q => by omega)]; omega) | (rw [gc5]; exact (Int.add_zero _).symm)) (by first | (rw [sg, tg, z96, hy46, gc6]; omega) | (rw [sg, tg]; omega) | (rw [sg, show gyT F x2 (F 1) v7 v6 = 0 from if_neg (fun q => by omega)]; omega) | (rw [gc6]; exact (Int.add_zero _).symm)) (by first | (rw [sb, tb, z96, hy46, gc7]; omega) | (rw [sb, tb]; omega) | (rw [sb, show gyT F x2 (F 2) v7 v6 = 0 from if_neg (fun q => by omega)]; omega) | (rw [gc7]; exact (Int.add_zero _).symm)) hF3 hgh (by omega)
      · intro v3 v4 v5 v6 v7 h hF g0 g1 g2 g3 g4 g5 g6 gc0 gc1 gc2 gc3 gc4 gc5 gc6 gc7 hF3 hgh hm
        refine zW_iload (pc' := 30) dX12_findsWhite_1.1.1.1.2 rfl rfl ?_
        refine zW_aload_n (pc' := 31) dX12_findsWhite_1.1.1.2.1 rfl rfl ?_
        refine zG_key (pc' := 34) hF rfl fg_X12_99 tb0 rfl dX12_findsWhite_1.1.1.2.2 rfl ?_
        refine zV_cm_ge (tgt := 148) (pc' := 37) dX12_findsWhite_1.1.2.1.1 rfl rfl ⟨by omega, by omega⟩ ⟨by omega, by omega⟩ (fun c34 => ?_) (fun c34 => ?_)
        · have sk := sumS_s (t := gyT F x2 (fun _ _ => 1)) (w := (κ 0 11).toNat) (v := v6) (by omega)
          have sr := sumS_s (t := gyT F x2 (F 0)) (w := (κ 0 11).toNat) (v := v6) (by omega)
          have sg := sumS_s (t := gyT F x2 (F 1)) (w := (κ 0 11).toNat) (v := v6) (by omega)
          have sb := sumS_s (t := gyT F x2 (F 2)) (w := (κ 0 11).toNat) (v := v6) (by omega)
          refine zW_iinc (ls' := [_, _, _, _, _, _, _, _, _, _]) (pc' := 151) dX12_findsWhite_5.1.1.2.1 rfl (by decide) rfl rfl rfl ?_
          refine zV_goto 16 dX12_findsWhite_5.1.1.2.2 rfl ?_
          refine zV_clr 7 (ls' := [_, _, _, _, _, _, _, _, _, _]) rfl ?_
          exact k16 _ _ _ _ _ hF (by omega) (by omega) (by omega) (by omega) (by omega) (by omega) (by omega) (by omega) (by omega) (by first | rfl | (rw [z10]; rfl) | (rw [sk]; rw [show v7 = κ 0 11 from by omega] at gc4; exact gc4)) (by first | rfl | (rw [z10]; rfl) | (rw [sr]; rw [show v7 = κ 0 11 from by omega] at gc5; exact gc5)) (by first | rfl | (rw [z10]; rfl) | (rw [sg]; rw [show v7 = κ 0 11 from by omega] at gc6; exact gc6)) (by first | rfl | (rw [z10]; rfl) | (rw [sb]; rw [show v7 = κ 0 11 from by omega] at gc7; exact gc7)) hF3 hgh (by omega)
        · refine zW_aload_n (pc' := 38) dX12_findsWhite_1.1.2.1.2 rfl rfl ?_
          refine zW_iload_n (pc' := 39) dX12_findsWhite_1.1.2.2.1 rfl rfl ?_
          refine zW_iload (pc' := 41) dX12_findsWhite_1.1.2.2.2 rfl rfl ?_
          refine zW_iload (pc' := 43) dX12_findsWhite_1.2.1.1.1 rfl rfl ?_
          refine cvI3 (pc' := 46) kX12_greatest vX12_greatest lk_X12_295 ⟨Nat.le_of_ble_eq_true rfl, Nat.le_of_ble_eq_true rfl⟩ tb0 vq12 rfl rfl (s_X12_greatestZ hK hF _ ⟨by omega, by omega⟩ _ ⟨by omega, by omega, by omega⟩ _ ⟨by omega, by omega, by omega⟩ F (by omega) (by omega)) dX12_findsWhite_1.2.1.1.2 (Nat.le_of_ble_eq_true rfl) rfl ?_
          rintro r43 z43 ⟨hz43, p43⟩; subst z43
          refine zW_istore (ls' := [_, _, _, _, _, _, _, _, _, _]) (pc' := 48) dX12_findsWhite_1.2.1.2.1 (by decide) rfl rfl rfl ?_
          refine zW_aload_n (pc' := 49) dX12_findsWhite_1.2.1.2.2 rfl rfl ?_
          refine zW_iload_n (pc' := 50) dX12_findsWhite_1.2.2.1.1 rfl rfl ?_
          refine zW_iload (pc' := 52) dX12_findsWhite_1.2.2.1.2 rfl rfl ?_
          refine zW_iload (pc' := 54) dX12_findsWhite_1.2.2.2.1 rfl rfl ?_
          refine cvI3 (pc' := 57) kX12_smallest vX12_smallest lk_X12_298 ⟨Nat.le_of_ble_eq_true rfl, Nat.le_of_ble_eq_true rfl⟩ tb0 vq12 rfl rfl (s_X12_smallestZ hK hF _ ⟨by omega, by omega⟩ _ ⟨by omega, by omega, by omega⟩ _ ⟨by omega, by omega, by omega⟩ F (by omega) (by omega)) dX12_findsWhite_1.2.2.2.2 (Nat.le_of_ble_eq_true rfl) rfl ?_
          rintro r54 z54 ⟨hz54, p54⟩; subst z54
          refine zW_istore (ls' := [_, _, _, _, _, _, _, _, _, _]) (pc' := 59) dX12_findsWhite_2.1.1.1.1 (by decide) rfl rfl rfl ?_
          have mx := mir_i (v := v7) (n := κ 0 11) ⟨by omega, by omega⟩
          have my := mir_i (v := v6) (n := κ 0 12) ⟨by omega, by omega⟩
          rw [mx, my] at p43 p54
          have sk := sumR_s (t := gyT F x2 (fun _ _ => 1)) (y := v6) (v := v7) (by omega)
          have sr := sumR_s (t := gyT F x2 (F 0)) (y := v6) (v := v7) (by omega)
          have sg := sumR_s (t := gyT F x2 (F 1)) (y := v6) (v := v7) (by omega)
          have sb := sumR_s (t := gyT F x2 (F 2)) (y := v6) (v := v7) (by omega)
          refine zW_iload (pc' := 61) dX12_findsWhite_2.1.1.1.2 rfl rfl ?_
          refine zW_bipush (pc' := 63) dX12_findsWhite_2.1.1.2.1 rfl rfl ?_
          refine zV_cm_lt (tgt := 142) (pc' := 66) dX12_findsWhite_2.1.1.2.2 rfl rfl ⟨by omega, by omega⟩ ⟨by omega, by omega⟩ (fun c63 => ?_) (fun c63 => ?_)
          · first | (rw [mx, my] at p107 p121 p136) | skip
            refine zW_iinc (ls' := [_, _, _, _, _, _, _, _, _, _]) (pc' := 145) dX12_findsWhite_5.1.1.1.1 rfl (by decide) rfl rfl rfl ?_
            refine zV_goto 28 dX12_findsWhite_5.1.1.1.2 rfl ?_
            refine zV_clr 8 (ls' := [_, _, _, _, _, _, _, _, _, _]) rfl ?_
            refine zV_clr 9 (ls' := [_, _, _, _, _, _, _, _, _, _]) rfl ?_
            exact k28 _ _ _ _ _ _ hF (by omega) (by omega) (by omega) (by omega) (by omega) (by omega) (by omega) (by omega) (by omega) (by omega) (by omega) (by first | (rw [sk, tk, z96, hy46, gc4]; omega) | (rw [sk, tk]; omega) | (rw [sk, show gyT F x2 (fun _ _ => 1) v7 v6 = 0 from if_neg (fun q => by omega)]; omega) | (rw [gc4]; exact (Int.add_zero _).symm)) (by first | (rw [sr, tr, z96, hy46, gc5]; omega) | (rw [sr, tr]; omega) | (rw [sr, show gyT F x2 (F 0) v7 v6 = 0 from if_neg (fun q => by omega)]; omega) | (rw [gc5]; exact (Int.add_zero _).symm)) (by first | (rw [sg, tg, z96, hy46, gc6]; omega) | (rw [sg, tg]; omega) | (rw [sg, show gyT F x2 (F 1) v7 v6 = 0 from if_neg (fun q => by omega)]; omega) | (rw [gc6]; exact (Int.add_zero _).symm)) (by first | (rw [sb, tb, z96, hy46, gc7]; omega) | (rw [sb, tb]; omega) | (rw [sb, show gyT F x2 (F 2) v7 v6 = 0 from if_neg (fun q => by omega)]; omega) | (rw [gc7]; exact (Int.add_zero _).symm)) hF3 hgh (by omega)
          · refine zW_iload (pc' := 68) dX12_findsWhite_2.1.2.1.1 rfl rfl ?_
            refine zW_sipush (pc' := 71) dX12_findsWhite_2.1.2.1.2 rfl rfl ?_
            refine zV_cm_gt (tgt := 142) (pc' := 74) dX12_findsWhite_2.1.2.2.1 rfl rfl ⟨by omega, by omega⟩ ⟨by omega, by omega⟩ (fun c71 => ?_) (fun c71 => ?_)
            · first | (rw [mx, my] at p107 p121 p136) | skip
              refine zW_iinc (ls' := [_, _, _, _, _, _, _, _, _, _]) (pc' := 145) dX12_findsWhite_5.1.1.1.1 rfl (by decide) rfl rfl rfl ?_
              refine zV_goto 28 dX12_findsWhite_5.1.1.1.2 rfl ?_
              refine zV_clr 8 (ls' := [_, _, _, _, _, _, _, _, _, _]) rfl ?_
              refine zV_clr 9 (ls' := [_, _, _, _, _, _, _, _, _, _]) rfl ?_
              exact k28 _ _ _ _ _ _ hF (by omega) (by omega) (by omega) (by omega) (by omega) (by omega) (by omega) (by omega) (by omega) (by omega) (by omega) (by first | (rw [sk, tk, z96, hy46, gc4]; omega) | (rw [sk, tk]; omega) | (rw [sk, show gyT F x2 (fun _ _ => 1) v7 v6 = 0 from if_neg (fun q => by omega)]; omega) | (rw [gc4]; exact (Int.add_zero _).symm)) (by first | (rw [sr, tr, z96, hy46, gc5]; omega) | (rw [sr, tr]; omega) | (rw [sr, show gyT F x2 (F 0) v7 v6 = 0 from if_neg (fun q => by omega)]; omega) | (rw [gc5]; exact (Int.add_zero _).symm)) (by first | (rw [sg, tg, z96, hy46, gc6]; omega) | (rw [sg, tg]; omega) | (rw [sg, show gyT F x2 (F 1) v7 v6 = 0 from if_neg (fun q => by omega)]; omega) | (rw [gc6]; exact (Int.add_zero _).symm)) (by first | (rw [sb, tb, z96, hy46, gc7]; omega) | (rw [sb, tb]; omega) | (rw [sb, show gyT F x2 (F 2) v7 v6 = 0 from if_neg (fun q => by omega)]; omega) | (rw [gc7]; exact (Int.add_zero _).symm)) hF3 hgh (by omega)
            · refine zW_iload (pc' := 76) dX12_findsWhite_2.1.2.2.2 rfl rfl ?_
              refine zW_iload (pc' := 78) dX12_findsWhite_2.2.1.1.1 rfl rfl ?_
              refine zW_isub (pc' := 79) dX12_findsWhite_2.2.1.1.2 rfl ?_
              refine zW_bipush (pc' := 81) dX12_findsWhite_2.2.1.2.1 rfl rfl ?_
              refine zW_iload_n (pc' := 82) dX12_findsWhite_2.2.1.2.2 rfl rfl ?_
              refine zW_imul (pc' := 83) dX12_findsWhite_2.2.2.1.1 rfl ?_
              refine zV_cm_le (tgt := 89) (pc' := 86) dX12_findsWhite_2.2.2.1.2 rfl rfl ⟨by omega, by omega⟩ ⟨by omega, by omega⟩ (fun c83 => ?_) (fun c83 => ?_)
              · refine zW_aload_n (pc' := 90) dX12_findsWhite_2.2.2.2.2 rfl rfl ?_
                refine zW_aload_n (pc' := 91) dX12_findsWhite_3.1.1.1.1 rfl rfl ?_
                refine zG_int (pc' := 94) fg_X12_292 tb0 rfl dX12_findsWhite_3.1.1.1.2 rfl ?_
                refine zW_iconst (pc' := 95) dX12_findsWhite_3.1.1.2.1 rfl ?_
                refine zW_iadd (pc' := 96) dX12_findsWhite_3.1.1.2.2 rfl ?_
                obtain ⟨y46, hy46⟩ : ∃ z : Int, z = h 0 46 := ⟨_, rfl⟩
                have hgy : gy F x2 v7 v6 := ⟨by omega, by omega, by omega⟩
                refine zP_scf (pc' := 99) hF rfl fp_X12_292 tb0 rfl dX12_findsWhite_3.1.2.1.1 rfl (fun h i96 hF a96 b96 w96 => ?_)
                replace b96 := b96 ⟨by omega, by omega⟩
                replace hgh : Fw [] [(0, 44), (0, 45), (0, 46)] gh0 h := by rw [w96]; exact hgh.wf (by simp)
                replace hF3 : Fu17 κ (h 17) x1 F := by have q0_ := (congrFun w96 17).trans (zfun (by decide)); rw [q0_]; exact hF3
                have z96 : h 0 46 = y46 + 1 := by rw [w96, zwr_eq, b96, hy46]
                have n1 := min2c (F 1 v7 v6) (F 2 v7 v6)
                have n2 := min2c (F 0 v7 v6) (min2 (F 1 v7 v6) (F 2 v7 v6))
                have x1_ := max2c (F 1 v7 v6) (F 2 v7 v6)
                have x2_ := max2c (F 0 v7 v6) (max2 (F 1 v7 v6) (F 2 v7 v6))
                have hgy2 := hgy
                unfold gy mn3 mx3 at hgy2
                have tk : gyT F x2 (fun _ _ => 1) v7 v6 = 1 := if_pos hgy
                have tr : gyT F x2 (F 0) v7 v6 = (F 0) v7 v6 := if_pos hgy
                have tg : gyT F x2 (F 1) v7 v6 = (F 1) v7 v6 := if_pos hgy
                have tb : gyT F x2 (F 2) v7 v6 = (F 2) v7 v6 := if_pos hgy
                refine zW_iload_n (pc' := 100) dX12_findsWhite_3.1.2.1.2 rfl rfl ?_
                refine zW_aload_n (pc' := 101) dX12_findsWhite_3.1.2.2.1 rfl rfl ?_
                refine zW_iload_n (pc' := 102) dX12_findsWhite_3.1.2.2.2 rfl rfl ?_
                refine zW_iconst (pc' := 103) dX12_findsWhite_3.2.1.1.1 rfl ?_
                refine zW_iload (pc' := 105) dX12_findsWhite_3.2.1.1.2 rfl rfl ?_
                refine zW_iload (pc' := 107) dX12_findsWhite_3.2.1.2.1 rfl rfl ?_
                refine cvI4 (pc' := 110) kX12_at vX12_at lk_X12_277 ⟨Nat.le_of_ble_eq_true rfl, Nat.le_of_ble_eq_true rfl⟩ tb0 vq12 rfl rfl (s_X12_atZ hK hF _ ⟨by omega, by omega⟩ _ ⟨by omega, by omega⟩ _ ⟨by omega, by omega, by omega⟩ _ ⟨by omega, by omega, by omega⟩ (F 0) (hF3 0 (by omega)) (hb3 0 (by omega))) dX12_findsWhite_3.2.1.2.2 (Nat.le_of_ble_eq_true rfl) rfl ?_
                rintro r107 z107 ⟨hz107, p107⟩; subst z107
                refine zW_iadd (pc' := 111) dX12_findsWhite_3.2.2.1.1 rfl ?_
                refine zW_istore_n (ls' := [_, _, _, _, _, _, _, _, _, _]) (pc' := 112) dX12_findsWhite_3.2.2.1.2 (by decide) rfl rfl rfl ?_
                refine zW_iload (pc' := 114) dX12_findsWhite_3.2.2.2.1 rfl rfl ?_
                refine zW_aload_n (pc' := 115) dX12_findsWhite_3.2.2.2.2 rfl rfl ?_
                refine zW_iload_n (pc' := 116) dX12_findsWhite_4.1.1.1.1 rfl rfl ?_
                refine zW_iconst (pc' := 117) dX12_findsWhite_4.1.1.1.2 rfl ?_
                refine zW_iload (pc' := 119) dX12_findsWhite_4.1.1.2.1 rfl rfl ?_
                refine zW_iload (pc' := 121) dX12_findsWhite_4.1.1.2.2 rfl rfl ?_
                refine cvI4 (pc' := 124) kX12_at vX12_at lk_X12_277 ⟨Nat.le_of_ble_eq_true rfl, Nat.le_of_ble_eq_true rfl⟩ tb0 vq12 rfl rfl (s_X12_atZ hK hF _ ⟨by omega, by omega⟩ _ ⟨by omega, by omega⟩ _ ⟨by omega, by omega, by omega⟩ _ ⟨by omega, by omega, by omega⟩ (F 1) (hF3 1 (by omega)) (hb3 1 (by omega))) dX12_findsWhite_4.1.2.1.1 (Nat.le_of_ble_eq_true rfl) rfl ?_
                rintro r121 z121 ⟨hz121, p121⟩; subst z121
                refine zW_iadd (pc' := 125) dX12_findsWhite_4.1.2.1.2 rfl ?_
                refine zW_istore (ls' := [_, _, _, _, _, _, _, _, _, _]) (pc' := 127) dX12_findsWhite_4.1.2.2.1 (by decide) rfl rfl rfl ?_
                refine zW_iload (pc' := 129) dX12_findsWhite_4.1.2.2.2 rfl rfl ?_
                refine zW_aload_n (pc' := 130) dX12_findsWhite_4.2.1.1.1 rfl rfl ?_
                refine zW_iload_n (pc' := 131) dX12_findsWhite_4.2.1.1.2 rfl rfl ?_
                refine zW_iconst (pc' := 132) dX12_findsWhite_4.2.1.2.1 rfl ?_
                refine zW_iload (pc' := 134) dX12_findsWhite_4.2.1.2.2 rfl rfl ?_
                refine zW_iload (pc' := 136) dX12_findsWhite_4.2.2.1.1 rfl rfl ?_
                refine cvI4 (pc' := 139) kX12_at vX12_at lk_X12_277 ⟨Nat.le_of_ble_eq_true rfl, Nat.le_of_ble_eq_true rfl⟩ tb0 vq12 rfl rfl (s_X12_atZ hK hF _ ⟨by omega, by omega⟩ _ ⟨by omega, by omega⟩ _ ⟨by omega, by omega, by omega⟩ _ ⟨by omega, by omega, by omega⟩ (F 2) (hF3 2 (by omega)) (hb3 2 (by omega))) dX12_findsWhite_4.2.2.1.2 (Nat.le_of_ble_eq_true rfl) rfl ?_
                rintro r136 z136 ⟨hz136, p136⟩; subst z136
                refine zW_iadd (pc' := 140) dX12_findsWhite_4.2.2.2.1 rfl ?_
                refine zW_istore (ls' := [_, _, _, _, _, _, _, _, _, _]) (pc' := 142) dX12_findsWhite_4.2.2.2.2 (by decide) rfl rfl rfl ?_
                first | (rw [mx, my] at p107 p121 p136) | skip
                refine zW_iinc (ls' := [_, _, _, _, _, _, _, _, _, _]) (pc' := 145) dX12_findsWhite_5.1.1.1.1 rfl (by decide) rfl rfl rfl ?_
                refine zV_goto 28 dX12_findsWhite_5.1.1.1.2 rfl ?_
                refine zV_clr 8 (ls' := [_, _, _, _, _, _, _, _, _, _]) rfl ?_
                refine zV_clr 9 (ls' := [_, _, _, _, _, _, _, _, _, _]) rfl ?_
                exact k28 _ _ _ _ _ _ hF (by omega) (by omega) (by omega) (by omega) (by omega) (by omega) (by omega) (by omega) (by omega) (by omega) (by omega) (by first | (rw [sk, tk, z96, hy46, gc4]; omega) | (rw [sk, tk]; omega) | (rw [sk, show gyT F x2 (fun _ _ => 1) v7 v6 = 0 from if_neg (fun q => by omega)]; omega) | (rw [gc4]; exact (Int.add_zero _).symm)) (by first | (rw [sr, tr, z96, hy46, gc5]; omega) | (rw [sr, tr]; omega) | (rw [sr, show gyT F x2 (F 0) v7 v6 = 0 from if_neg (fun q => by omega)]; omega) | (rw [gc5]; exact (Int.add_zero _).symm)) (by first | (rw [sg, tg, z96, hy46, gc6]; omega) | (rw [sg, tg]; omega) | (rw [sg, show gyT F x2 (F 1) v7 v6 = 0 from if_neg (fun q => by omega)]; omega) | (rw [gc6]; exact (Int.add_zero _).symm)) (by first | (rw [sb, tb, z96, hy46, gc7]; omega) | (rw [sb, tb]; omega) | (rw [sb, show gyT F x2 (F 2) v7 v6 = 0 from if_neg (fun q => by omega)]; omega) | (rw [gc7]; exact (Int.add_zero _).symm)) hF3 hgh (by omega)
              · have hng : ¬ gy F x2 v7 v6 := fun q => by unfold gy at q; omega
                have tk : gyT F x2 (fun _ _ => 1) v7 v6 = 0 := if_neg hng
                have tr : gyT F x2 (F 0) v7 v6 = 0 := if_neg hng
                have tg : gyT F x2 (F 1) v7 v6 = 0 := if_neg hng
                have tb : gyT F x2 (F 2) v7 v6 = 0 := if_neg hng
                refine zV_goto 142 dX12_findsWhite_2.2.2.2.1 rfl ?_
                first | (rw [mx, my] at p107 p121 p136) | skip
                refine zW_iinc (ls' := [_, _, _, _, _, _, _, _, _, _]) (pc' := 145) dX12_findsWhite_5.1.1.1.1 rfl (by decide) rfl rfl rfl ?_
                refine zV_goto 28 dX12_findsWhite_5.1.1.1.2 rfl ?_
                refine zV_clr 8 (ls' := [_, _, _, _, _, _, _, _, _, _]) rfl ?_
                refine zV_clr 9 (ls' := [_, _, _, _, _, _, _, _, _, _]) rfl ?_
                exact k28 _ _ _ _ _ _ hF (by omega) (by omega) (by omega) (by omega) (by omega) (by omega) (by omega) (by omega) (by omega) (by omega) (by omega) (by first | (rw [sk, tk, z96, hy46, gc4]; omega) | (rw [sk, tk]; omega) | (rw [sk, show gyT F x2 (fun _ _ => 1) v7 v6 = 0 from if_neg (fun q => by omega)]; omega) | (rw [gc4]; exact (Int.add_zero _).symm)) (by first | (rw [sr, tr, z96, hy46, gc5]; omega) | (rw [sr, tr]; omega) | (rw [sr, show gyT F x2 (F 0) v7 v6 = 0 from if_neg (fun q => by omega)]; omega) | (rw [gc5]; exact (Int.add_zero _).symm)) (by first | (rw [sg, tg, z96, hy46, gc6]; omega) | (rw [sg, tg]; omega) | (rw [sg, show gyT F x2 (F 1) v7 v6 = 0 from if_neg (fun q => by omega)]; omega) | (rw [gc6]; exact (Int.add_zero _).symm)) (by first | (rw [sb, tb, z96, hy46, gc7]; omega) | (rw [sb, tb]; omega) | (rw [sb, show gyT F x2 (F 2) v7 v6 = 0 from if_neg (fun q => by omega)]; omega) | (rw [gc7]; exact (Int.add_zero _).symm)) hF3 hgh (by omega)
  refine zM_of [some (.inr (.inr 0)), some (.inl x1), some (.inl x2), none, none, none, none, none, none, none] 7 rfl rfl (Nat.le_of_ble_eq_true rfl) rfl ?_
  refine zW_iconst (pc' := 1) dX12_findsWhite_0.1.1.1.1 rfl ?_
  refine zW_istore_n (ls' := [_, _, _, _, _, _, _, _, _, _]) (pc' := 2) dX12_findsWhite_0.1.1.1.2 (by decide) rfl rfl rfl ?_
  refine zW_iconst (pc' := 3) dX12_findsWhite_0.1.1.2.1 rfl ?_
  refine zW_istore (ls' := [_, _, _, _, _, _, _, _, _, _]) (pc' := 5) dX12_findsWhite_0.1.1.2.2 (by decide) rfl rfl rfl ?_
  refine zW_iconst (pc' := 6) dX12_findsWhite_0.1.2.1.1 rfl ?_
  refine zW_istore (ls' := [_, _, _, _, _, _, _, _, _, _]) (pc' := 8) dX12_findsWhite_0.1.2.1.2 (by decide) rfl rfl rfl ?_
  refine zW_aload_n (pc' := 9) dX12_findsWhite_0.1.2.2.1 rfl rfl ?_
  refine zW_iconst (pc' := 10) dX12_findsWhite_0.1.2.2.2 rfl ?_
  refine zP_scf (pc' := 13) hF rfl fp_X12_292 tb0 rfl dX12_findsWhite_0.2.1.1.1 rfl (fun h i10 hF a10 b10 w10 => ?_)
  replace b10 := b10 ⟨by omega, by omega⟩
  replace hgh : Fw [] [(0, 44), (0, 45), (0, 46)] gh0 h := by rw [w10]; exact hgh.wf (by simp)
  replace hF3 : Fu17 κ (h 17) x1 F := by have q0_ := (congrFun w10 17).trans (zfun (by decide)); rw [q0_]; exact hF3
  have z10 : h 0 46 = 0 := by rw [w10, zwr_eq, b10]
  refine zW_iconst (pc' := 14) dX12_findsWhite_0.2.1.1.2 rfl ?_
  refine zW_istore (ls' := [_, _, _, _, _, _, _, _, _, _]) (pc' := 16) dX12_findsWhite_0.2.1.2.1 (by decide) rfl rfl rfl ?_
  exact (main 10000000000000000000000000000000000000000).1 _ _ _ _ _ hF (by omega) (by omega) (by omega) (by omega) (by omega) (by omega) (by omega) (by omega) (by omega) (by first | rfl | (rw [z10]; rfl) | (rw [sk]; rw [show v7 = κ 0 11 from by omega] at gc4; exact gc4)) (by first | rfl | (rw [z10]; rfl) | (rw [sr]; rw [show v7 = κ 0 11 from by omega] at gc5; exact gc5)) (by first | rfl | (rw [z10]; rfl) | (rw [sg]; rw [show v7 = κ 0 11 from by omega] at gc6; exact gc6)) (by first | rfl | (rw [z10]; rfl) | (rw [sb]; rw [show v7 = κ 0 11 from by omega] at gc7; exact gc7)) hF3 hgh (by omega)

abbrev q_X12_findsMeanZ (b : Bd) (κ : Hp) (x1 : Int) (F : P3) (gh0 : Hp) : Int → Hp → Prop := fun r h' => Fr b κ h' ∧ ((Fw [] [(0, 47)] gh0 h') ∧ (h' 0 47 = mnL (κ 0 11) (κ 0 12) F))
set_option maxHeartbeats 4000000 in
set_option maxRecDepth 20000 in
theorem s_X12_findsMeanZ {G : Ga} {b : Bd} {κ h : Hp} (hK : KR κ) (hF : Fr b κ h) (x1 : Int) (hx1 : 0 ≤ x1 ∧ x1 ≤ 14) (F : P3) (gh0 : Hp) (hF3 : Fu17 κ (h 17) x1 F) (hb3 : FB3 (κ 0 11) (κ 0 12) F) (hgh : Fw [] [(0, 47)] gh0 h) : zM G mX12_findsMean yX12_findsMean [.inr (.inr 0), .inl x1] h (q_X12_findsMeanZ b κ x1 F gh0) := by
  have f_0_11 := KRw hK
  have f_0_12 := KRh hK
  have main : ∀ N : Nat, (∀ (v2 : Int) (h : Hp), Fr b κ h → (0 ≤ v2 ∧ v2 ≤ 16) → (v2 - κ 0 12 ≤ 0) → (h 0 47 = sumS (fun x y => lgt F x y) (κ 0 11).toNat v2.toNat) → (0 ≤ h 0 47 ∧ h 0 47 ≤ 65520 * v2) → (Fu17 κ (h 17) x1 F) → (Fw [] [(0, 47)] gh0 h) → 8631360 + 13320 * (16 - v2) + 12960 < (N : Int) → zV G mX12_findsMean (q_X12_findsMeanZ b κ x1 F gh0) 7 [some (.inr (.inr 0)), some (.inl x1), some (.inl v2), none] [] h) ∧ (∀ (v2 v3 : Int) (h : Hp), Fr b κ h → (0 ≤ v2 ∧ v2 ≤ 15) → (v2 - κ 0 12 ≤ -1) → (0 ≤ v3 ∧ v3 ≤ 16) → (v3 - κ 0 11 ≤ 0) → (h 0 47 = sumS (fun x y => lgt F x y) (κ 0 11).toNat v2.toNat + sumR (fun x y => lgt F x y) v2 v3.toNat) → (0 ≤ h 0 47 ∧ h 0 47 ≤ 65520 * v2 + 4095 * v3) → (Fu17 κ (h 17) x1 F) → (Fw [] [(0, 47)] gh0 h) → 8631360 + 13320 * (16 - v2) + 6840 + 20 * (16 - v3) + 19 < (N : Int) → zV G mX12_findsMean (q_X12_findsMeanZ b κ x1 F gh0) 17 [some (.inr (.inr 0)), some (.inl x1), some (.inl v2), some (.inl v3)] [] h) := by
    intro N
    induction N with
    | zero =>
      refine ⟨?_, ?_⟩
      · intro v2 h hF g0 g1 gc0 gc1 hF3 hgh hm
        exfalso; omega
      · intro v2 v3 h hF g0 g1 g2 g3 gc0 gc1 hF3 hgh hm
        exfalso; omega
    | succ N ih =>
      obtain ⟨k7, k17⟩ := ih
      refine ⟨?_, ?_⟩
      · intro v2 h hF g0 g1 gc0 gc1 hF3 hgh hm
        refine zW_iload_n (pc' := 8) dX12_findsMean_0.1.2.1.2 rfl rfl ?_
        refine zW_aload_n (pc' := 9) dX12_findsMean_0.1.2.2.1 rfl rfl ?_
        refine zG_key (pc' := 12) hF rfl fg_X12_103 tb0 rfl dX12_findsMean_0.1.2.2.2 rfl ?_
        refine zV_cm_ge (tgt := 53) (pc' := 15) dX12_findsMean_0.2.1.1.1 rfl rfl ⟨by omega, by omega⟩ ⟨by omega, by omega⟩ (fun c12 => ?_) (fun c12 => ?_)
        · refine zW_aload_n (pc' := 54) dX12_findsMean_1.2.2.1.2 rfl rfl ?_
          refine zW_aload_n (pc' := 55) dX12_findsMean_1.2.2.2.1 rfl rfl ?_
          refine zG_int (pc' := 58) fg_X12_310 tb0 rfl dX12_findsMean_1.2.2.2.2 rfl ?_
          refine zW_aload_n (pc' := 59) dX12_findsMean_2.1.1.1 rfl rfl ?_
          refine zG_key (pc' := 62) hF rfl fg_X12_99 tb0 rfl dX12_findsMean_2.1.1.2 rfl ?_
          refine zW_aload_n (pc' := 63) dX12_findsMean_2.1.2.1 rfl rfl ?_
          refine zG_key (pc' := 66) hF rfl fg_X12_103 tb0 rfl dX12_findsMean_2.1.2.2 rfl ?_
          refine zW_imul (pc' := 67) dX12_findsMean_2.2.1.1 rfl ?_
          have hm2 := mul_b f_0_11 f_0_12
          refine zW_idivX (pc' := 68) ⟨by omega, by omega⟩ ⟨by omega, by omega⟩ dX12_findsMean_2.2.1.2 rfl (fun v67 t67 e67 => ?_)
          unfold rng at e67
          refine zP_scf (pc' := 71) hF rfl fp_X12_310 tb0 rfl dX12_findsMean_2.2.2.1 rfl (fun h i68 hF a68 b68 w68 => ?_)
          replace b68 := b68 ⟨by omega, by omega⟩
          replace hgh : Fw [] [(0, 47)] gh0 h := by rw [w68]; exact hgh.wf (by simp)
          replace hF3 : Fu17 κ (h 17) x1 F := by have q0_ := (congrFun w68 17).trans (zfun (by decide)); rw [q0_]; exact hF3
          exact zV_vret rfl dX12_findsMean_2.2.2.2 ⟨hF, ⟨hgh, (by rw [w68, zwr_eq, b68, t67]; unfold mnL; rw [show κ 0 12 = v2 by omega, Int.tdiv_eq_ediv_of_nonneg (by omega), gc0])⟩⟩
        · refine zW_iconst (pc' := 16) dX12_findsMean_0.2.1.1.2 rfl ?_
          refine zW_istore_n (ls' := [_, _, _, _]) (pc' := 17) dX12_findsMean_0.2.1.2.1 (by decide) rfl rfl rfl ?_
          exact k17 _ _ _ hF (by omega) (by omega) (by omega) (by omega) (by first | (rw [z38, sr, hy47, gc0, p34.2.2]; exact Int.add_assoc _ _ _) | (rw [gc0]; exact (Int.add_zero _).symm)) (by omega) hF3 hgh (by omega)
      · intro v2 v3 h hF g0 g1 g2 g3 gc0 gc1 hF3 hgh hm
        refine zW_iload_n (pc' := 18) dX12_findsMean_0.2.1.2.2 rfl rfl ?_
        refine zW_aload_n (pc' := 19) dX12_findsMean_0.2.2.1.1 rfl rfl ?_
        refine zG_key (pc' := 22) hF rfl fg_X12_99 tb0 rfl dX12_findsMean_0.2.2.1.2 rfl ?_
        refine zV_cm_ge (tgt := 47) (pc' := 25) dX12_findsMean_0.2.2.2.1 rfl rfl ⟨by omega, by omega⟩ ⟨by omega, by omega⟩ (fun c22 => ?_) (fun c22 => ?_)
        · have ss := sumS_s (t := fun x y => lgt F x y) (w := (κ 0 11).toNat) (v := v2) (by omega)
          rw [show (κ 0 11).toNat = v3.toNat by omega] at ss
          refine zW_iinc (ls' := [_, _, _, _]) (pc' := 50) dX12_findsMean_1.2.1.2.2 rfl (by decide) rfl rfl rfl ?_
          refine zV_goto 7 dX12_findsMean_1.2.2.1.1 rfl ?_
          refine zV_clr 3 (ls' := [_, _, _, _]) rfl ?_
          exact k7 _ _ hF (by omega) (by omega) (by first | (rw [z2]; rfl) | (rw [show (κ 0 11).toNat = v3.toNat by omega, ss, ← gc0, show (κ 0 11).toNat = v3.toNat by omega]) | (rw [gc0, show (κ 0 11).toNat = v3.toNat by omega, ss])) (by omega) hF3 hgh (by omega)
        · refine zW_aload_n (pc' := 26) dX12_findsMean_0.2.2.2.2 rfl rfl ?_
          refine zW_aload_n (pc' := 27) dX12_findsMean_1.1.1.1.1 rfl rfl ?_
          refine zG_int (pc' := 30) fg_X12_310 tb0 rfl dX12_findsMean_1.1.1.1.2 rfl ?_
          refine zW_aload_n (pc' := 31) dX12_findsMean_1.1.1.2.1 rfl rfl ?_
          refine zW_iload_n (pc' := 32) dX12_findsMean_1.1.1.2.2 rfl rfl ?_
          refine zW_iload_n (pc' := 33) dX12_findsMean_1.1.2.1.1 rfl rfl ?_
          refine zW_iload_n (pc' := 34) dX12_findsMean_1.1.2.1.2 rfl rfl ?_
          refine cvI3 (pc' := 37) kX12_lightAt vX12_lightAt lk_X12_307 ⟨Nat.le_of_ble_eq_true rfl, Nat.le_of_ble_eq_true rfl⟩ tb0 vq12 rfl rfl (s_X12_lightAtZ hK hF _ ⟨by omega, by omega⟩ _ ⟨by omega, by omega, by omega⟩ _ ⟨by omega, by omega, by omega⟩ F (by omega) (by omega)) dX12_findsMean_1.1.2.2.1 (Nat.le_of_ble_eq_true rfl) rfl ?_
          rintro r34 z34 ⟨hz34, p34⟩; subst z34
          refine zW_iadd (pc' := 38) dX12_findsMean_1.1.2.2.2 rfl ?_
          obtain ⟨y47, hy47⟩ : ∃ z : Int, z = h 0 47 := ⟨_, rfl⟩
          have mx := mir_i (v := v3) (n := κ 0 11) ⟨by omega, by omega⟩
          have my := mir_i (v := v2) (n := κ 0 12) ⟨by omega, by omega⟩
          rw [mx, my] at p34
          refine zP_scf (pc' := 41) hF rfl fp_X12_310 tb0 rfl dX12_findsMean_1.2.1.1.1 rfl (fun h i38 hF a38 b38 w38 => ?_)
          replace b38 := b38 ⟨by omega, by omega⟩
          replace hgh : Fw [] [(0, 47)] gh0 h := by rw [w38]; exact hgh.wf (by simp)
          replace hF3 : Fu17 κ (h 17) x1 F := by have q0_ := (congrFun w38 17).trans (zfun (by decide)); rw [q0_]; exact hF3
          have z38 : h 0 47 = y47 + r34 := by rw [w38, zwr_eq, b38, hy47]
          have sr := sumR_s (t := fun x y => lgt F x y) (y := v2) (v := v3) (by omega)
          refine zW_iinc (ls' := [_, _, _, _]) (pc' := 44) dX12_findsMean_1.2.1.1.2 rfl (by decide) rfl rfl rfl ?_
          refine zV_goto 17 dX12_findsMean_1.2.1.2.1 rfl ?_
          exact k17 _ _ _ hF (by omega) (by omega) (by omega) (by omega) (by first | (rw [z38, sr, hy47, gc0, p34.2.2]; exact Int.add_assoc _ _ _) | (rw [gc0]; exact (Int.add_zero _).symm)) (by omega) hF3 hgh (by omega)
  refine zM_of [some (.inr (.inr 0)), some (.inl x1), none, none] 2 rfl rfl (Nat.le_of_ble_eq_true rfl) rfl ?_
  refine zW_aload_n (pc' := 1) dX12_findsMean_0.1.1.1.1 rfl rfl ?_
  refine zW_iconst (pc' := 2) dX12_findsMean_0.1.1.1.2 rfl ?_
  refine zP_scf (pc' := 5) hF rfl fp_X12_310 tb0 rfl dX12_findsMean_0.1.1.2.1 rfl (fun h i2 hF a2 b2 w2 => ?_)
  replace b2 := b2 ⟨by omega, by omega⟩
  replace hgh : Fw [] [(0, 47)] gh0 h := by rw [w2]; exact hgh.wf (by simp)
  replace hF3 : Fu17 κ (h 17) x1 F := by have q0_ := (congrFun w2 17).trans (zfun (by decide)); rw [q0_]; exact hF3
  have z2 : h 0 47 = 0 := by rw [w2]; exact zwr_eq.trans b2
  refine zW_iconst (pc' := 6) dX12_findsMean_0.1.1.2.2 rfl ?_
  refine zW_istore_n (ls' := [_, _, _, _]) (pc' := 7) dX12_findsMean_0.1.2.1.1 (by decide) rfl rfl rfl ?_
  exact (main 10000000000000000000000000000000000000000).1 _ _ hF (by omega) (by omega) (by first | (rw [z2]; rfl) | (rw [show (κ 0 11).toNat = v3.toNat by omega, ss, ← gc0, show (κ 0 11).toNat = v3.toNat by omega]) | (rw [gc0, show (κ 0 11).toNat = v3.toNat by omega, ss])) (by omega) hF3 hgh (by omega)
