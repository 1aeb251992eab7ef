/-! what is unlike -/
def sm3 (t : Int → Int) : Nat → Int
  | 0 => 0
  | c + 1 => sm3 t c + t c
def mm3 (t : Int → Int) : Nat → Int
  | 0 => 0
  | c + 1 => max2 (mm3 t c) (t c)
theorem sm3_s {t : Int → Int} {c : Int} (h : 0 ≤ c) : sm3 t (c + 1).toNat = sm3 t c.toNat + t c := by
  rw [show (c + 1).toNat = c.toNat + 1 by omega]
  show sm3 t c.toNat + t ((c.toNat : Nat) : Int) = _
  rw [show ((c.toNat : Nat) : Int) = c by omega]
theorem mm3_s {t : Int → Int} {c : Int} (h : 0 ≤ c) : mm3 t (c + 1).toNat = max2 (mm3 t c.toNat) (t c) := by
  rw [show (c + 1).toNat = c.toNat + 1 by omega]
  show max2 (mm3 t c.toNat) (t ((c.toNat : Nat) : Int)) = _
  rw [show ((c.toNat : Nat) : Int) = c by omega]
theorem mm3_n {t : Int → Int} : ∀ n : Nat, 0 ≤ mm3 t n
  | 0 => Int.le_refl 0
  | n + 1 => by
    have a := mm3_n (t := t) n
    have b := max2c (mm3 t n) (t n)
    show 0 ≤ max2 (mm3 t n) (t n)
    omega
def uT (F F' : P3) (c x y : Int) : Int := if F c x y = F' c x y then 0 else 1
def dT (F F' : P3) (c x y : Int) : Int := ab (F c x y - F' c x y)
theorem dT_n {F F' : P3} {c x y : Int} : 0 ≤ dT F F' c x y := by
  have z := abc (F c x y - F' c x y)
  unfold dT
  omega
/-- the same, of own colours alone if three is not 1 -/
def uG (P three : Int) (F F' : P3) (x y c : Int) : Int := if three = 1 ∨ cl P x y = c then uT F F' c x y else 0
def dG (P three : Int) (F F' : P3) (x y c : Int) : Int := if three = 1 ∨ cl P x y = c then dT F F' c x y else 0
def plU (t : P3) (w h : Nat) : Nat → Int
  | 0 => 0
  | p + 1 => plU t w h p + sumS (t p) w h
def plM (t : P3) (w h : Nat) : Nat → Int
  | 0 => 0
  | p + 1 => max2 (plM t w h p) (mxS (t p) w h)
theorem plU_s {t : P3} {w h : Nat} {p : Int} (q : 0 ≤ p) : plU t w h (p + 1).toNat = plU t w h p.toNat + sumS (t p) w h := by
  rw [show (p + 1).toNat = p.toNat + 1 by omega]
  show plU t w h p.toNat + sumS (t ((p.toNat : Nat) : Int)) w h = _
  rw [show ((p.toNat : Nat) : Int) = p by omega]
theorem plM_s {t : P3} {w h : Nat} {p : Int} (q : 0 ≤ p) : plM t w h (p + 1).toNat = max2 (plM t w h p.toNat) (mxS (t p) w h) := by
  rw [show (p + 1).toNat = p.toNat + 1 by omega]
  show max2 (plM t w h p.toNat) (mxS (t ((p.toNat : Nat) : Int)) w h) = _
  rw [show ((p.toNat : Nat) : Int) = p by omega]
theorem plM_n {t : P3} {w h : Nat} : ∀ n : Nat, 0 ≤ plM t w h n
  | 0 => Int.le_refl 0
  | n + 1 => by
    have a := plM_n (t := t) (w := w) (h := h) n
    have b := max2c (plM t w h n) (mxS (t n) w h)
    show 0 ≤ max2 (plM t w h n) (mxS (t n) w h)
    omega
theorem sumR_add {a b : Int → Int → Int} {y : Int} : ∀ n : Nat, sumR (fun x y => a x y + b x y) y n = sumR a y n + sumR b y n
  | 0 => rfl
  | n + 1 => by
    have z := sumR_add (a := a) (b := b) (y := y) n
    show sumR (fun x y => a x y + b x y) y n + (a n y + b n y) = sumR a y n + a n y + (sumR b y n + b n y)
    omega
theorem sumS_add {a b : Int → Int → Int} {w : Nat} : ∀ n : Nat, sumS (fun x y => a x y + b x y) w n = sumS a w n + sumS b w n
  | 0 => rfl
  | n + 1 => by
    have z := sumS_add (a := a) (b := b) (w := w) n
    have u := sumR_add (a := a) (b := b) (y := n) w
    show sumS (fun x y => a x y + b x y) w n + sumR (fun x y => a x y + b x y) n w = sumS a w n + sumR a n w + (sumS b w n + sumR b n w)
    omega
theorem max2_4 {a b c d : Int} : max2 (max2 a b) (max2 c d) = max2 (max2 a c) (max2 b d) := by
  have h1 := max2c a b
  have h2 := max2c c d
  have h3 := max2c a c
  have h4 := max2c b d
  have h5 := max2c (max2 a b) (max2 c d)
  have h6 := max2c (max2 a c) (max2 b d)
  omega
theorem mxR_max {a b : Int → Int → Int} {y : Int} : ∀ n : Nat, mxR (fun x y => max2 (a x y) (b x y)) y n = max2 (mxR a y n) (mxR b y n)
  | 0 => rfl
  | n + 1 => by
    show max2 (mxR (fun x y => max2 (a x y) (b x y)) y n) (max2 (a n y) (b n y)) = max2 (max2 (mxR a y n) (a n y)) (max2 (mxR b y n) (b n y))
    rw [mxR_max n, max2_4]
theorem mxS_max {a b : Int → Int → Int} {w : Nat} : ∀ n : Nat, mxS (fun x y => max2 (a x y) (b x y)) w n = max2 (mxS a w n) (mxS b w n)
  | 0 => rfl
  | n + 1 => by
    show max2 (mxS (fun x y => max2 (a x y) (b x y)) w n) (mxR (fun x y => max2 (a x y) (b x y)) n w) = max2 (max2 (mxS a w n) (mxR a n w)) (max2 (mxS b w n) (mxR b n w))
    rw [mxS_max n, mxR_max w, max2_4]
theorem mxR_cong {t t' : Int → Int → Int} {y : Int} : ∀ n : Nat, (∀ x : Int, 0 ≤ x → x < n → t x y = t' x y) → mxR t y n = mxR t' y n
  | 0, _ => rfl
  | n + 1, h => by
    show max2 (mxR t y n) (t n y) = max2 (mxR t' y n) (t' n y)
    rw [mxR_cong n (fun x h1 h2 => h x h1 (by omega)), h n (by omega) (by omega)]
theorem mxS_cong {t t' : Int → Int → Int} {w : Nat} : ∀ n : Nat, (∀ x y : Int, 0 ≤ x → x < w → 0 ≤ y → y < n → t x y = t' x y) → mxS t w n = mxS t' w n
  | 0, _ => rfl
  | n + 1, h => by
    show max2 (mxS t w n) (mxR t n w) = max2 (mxS t' w n) (mxR t' n w)
    rw [mxS_cong n (fun x y h1 h2 h3 h4 => h x y h1 h2 h3 (by omega)), mxR_cong w (fun x h1 h2 => h x n h1 h2 (by omega) (by omega))]
theorem sm3_3 {t : Int → Int} : sm3 t 3 = t 0 + t 1 + t 2 := by
  show 0 + t 0 + t 1 + t 2 = _
  omega
theorem mm3_3 {t : Int → Int} (h : 0 ≤ t 0) : mm3 t 3 = max2 (max2 (t 0) (t 1)) (t 2) := by
  show max2 (max2 (max2 0 (t 0)) (t 1)) (t 2) = _
  rw [show max2 0 (t 0) = t 0 by have z := max2c 0 (t 0); omega]
def npF (three : Int) : Nat := if three = 1 then 3 else 1
def ulR (W H three w : Int) (F F' : P3) : Int := if w = 0 then plU (uT F F') W.toNat H.toNat (npF three) else plM (dT F F') W.toNat H.toNat (npF three)
theorem cl_b {P x y : Int} : cl P x y = 0 ∨ cl P x y = 1 ∨ cl P x y = 2 := by
  unfold cl
  omega
theorem uG_sum {W H P three : Int} {F F' : P3} (he : three ≠ 1 → ∀ c x y : Int, 0 ≤ c ∧ c ≤ 2 → F c x y = F 0 x y ∧ F' c x y = F' 0 x y) : sumS (fun x y => sm3 (uG P three F F' x y) 3) W.toNat H.toNat = plU (uT F F') W.toNat H.toNat (npF three) := by
  unfold npF
  by_cases c : three = 1
  · rw [if_pos c]
    have e : sumS (fun x y => sm3 (uG P three F F' x y) 3) W.toNat H.toNat = sumS (fun x y => (uT F F' 0 x y + uT F F' 1 x y) + uT F F' 2 x y) W.toNat H.toNat := sumS_cong _ (fun x y _ _ _ _ => by
      rw [sm3_3]
      unfold uG
      rw [if_pos (Or.inl c), if_pos (Or.inl c), if_pos (Or.inl c)])
    rw [e, sumS_add (a := fun x y => uT F F' 0 x y + uT F F' 1 x y) (b := fun x y => uT F F' 2 x y), sumS_add (a := fun x y => uT F F' 0 x y) (b := fun x y => uT F F' 1 x y)]
    show _ = 0 + sumS (uT F F' 0) W.toNat H.toNat + sumS (uT F F' 1) W.toNat H.toNat + sumS (uT F F' 2) W.toNat H.toNat
    rw [Int.zero_add]
  · rw [if_neg c]
    show _ = 0 + sumS (uT F F' 0) W.toNat H.toNat
    rw [Int.zero_add]
    refine sumS_cong _ (fun x y _ _ _ _ => ?_)
    rw [sm3_3]
    have e1 := he c 1 x y (by omega)
    have e2 := he c 2 x y (by omega)
    have e3 : uT F F' 1 x y = uT F F' 0 x y := by unfold uT; rw [e1.1, e1.2]
    have e4 : uT F F' 2 x y = uT F F' 0 x y := by unfold uT; rw [e2.1, e2.2]
    unfold uG
    rcases cl_b (P := P) (x := x) (y := y) with q | q | q <;> rw [q]
    · rw [if_pos (Or.inr rfl), if_neg (by omega), if_neg (by omega)]; omega
    · rw [if_neg (by omega), if_pos (Or.inr rfl), if_neg (by omega), e3]; omega
    · rw [if_neg (by omega), if_neg (by omega), if_pos (Or.inr rfl), e4]; omega
theorem dG_max {W H P three : Int} {F F' : P3} (he : three ≠ 1 → ∀ c x y : Int, 0 ≤ c ∧ c ≤ 2 → F c x y = F 0 x y ∧ F' c x y = F' 0 x y) : mxS (fun x y => mm3 (dG P three F F' x y) 3) W.toNat H.toNat = plM (dT F F') W.toNat H.toNat (npF three) := by
  have n0 : ∀ x y, 0 ≤ dG P three F F' x y 0 := fun x y => by
    unfold dG
    split
    · exact dT_n
    · exact Int.le_refl 0
  unfold npF
  by_cases c : three = 1
  · rw [if_pos c]
    have e : mxS (fun x y => mm3 (dG P three F F' x y) 3) W.toNat H.toNat = mxS (fun x y => max2 (max2 (dT F F' 0 x y) (dT F F' 1 x y)) (dT F F' 2 x y)) W.toNat H.toNat := mxS_cong _ (fun x y _ _ _ _ => by
      rw [mm3_3 (n0 x y)]
      unfold dG
      rw [if_pos (Or.inl c), if_pos (Or.inl c), if_pos (Or.inl c)])
    rw [e, mxS_max (a := fun x y => max2 (dT F F' 0 x y) (dT F F' 1 x y)) (b := fun x y => dT F F' 2 x y), mxS_max (a := fun x y => dT F F' 0 x y) (b := fun x y => dT F F' 1 x y)]
    show _ = max2 (max2 (max2 0 (mxS (dT F F' 0) W.toNat H.toNat)) (mxS (dT F F' 1) W.toNat H.toNat)) (mxS (dT F F' 2) W.toNat H.toNat)
    rw [show max2 0 (mxS (dT F F' 0) W.toNat H.toNat) = mxS (dT F F' 0) W.toNat H.toNat by have z := max2c 0 (mxS (dT F F' 0) W.toNat H.toNat); have y := mxS_n (t := dT F F' 0) (w := W.toNat) H.toNat; omega]
  · rw [if_neg c]
    show _ = max2 0 (mxS (dT F F' 0) W.toNat H.toNat)
    rw [show max2 0 (mxS (dT F F' 0) W.toNat H.toNat) = mxS (dT F F' 0) W.toNat H.toNat by have z := max2c 0 (mxS (dT F F' 0) W.toNat H.toNat); have y := mxS_n (t := dT F F' 0) (w := W.toNat) H.toNat; omega]
    refine mxS_cong _ (fun x y _ _ _ _ => ?_)
    rw [mm3_3 (n0 x y)]
    have e1 := he c 1 x y (by omega)
    have e2 := he c 2 x y (by omega)
    have z := dT_n (F := F) (F' := F') (c := 0) (x := x) (y := y)
    unfold dG dT at *
    rcases cl_b (P := P) (x := x) (y := y) with q | q | q <;> rw [q]
    · rw [if_pos (Or.inr rfl), if_neg (by omega), if_neg (by omega), max2_0 z, max2_0 z]
    · rw [if_neg (by omega), if_pos (Or.inr rfl), if_neg (by omega), e1.1, e1.2, show max2 0 (ab (F 0 x y - F' 0 x y)) = ab (F 0 x y - F' 0 x y) by have y1 := max2c 0 (ab (F 0 x y - F' 0 x y)); omega, max2_0 z]
    · rw [if_neg (by omega), if_neg (by omega), if_pos (Or.inr rfl), e2.1, e2.2, show max2 0 0 = (0 : Int) from rfl]
      have y1 := max2c 0 (ab (F 0 x y - F' 0 x y)); omega

abbrev q_X12_unlikeOfZ (κ h : Hp) (x1 : Int) (x2 : Int) (x3 : Int) (x4 : Int) (F : P3) (F' : P3) : Int → Hp → Prop := fun r h' => h' = h ∧ ((r = ulR (κ 0 11) (κ 0 12) x3 x4 F F'))
set_option maxHeartbeats 4000000 in
set_option maxRecDepth 20000 in
theorem s_X12_unlikeOfZ {G : Ga} {b : Bd} {κ h : Hp} (hK : KR κ) (hF : Fr b κ h) (x1 : Int) (hx1 : 0 ≤ x1 ∧ x1 ≤ 14) (x2 : Int) (hx2 : 0 ≤ x2 ∧ x2 ≤ 14) (x3 : Int) (hx3 : 0 ≤ x3 ∧ x3 ≤ 1) (x4 : Int) (hx4 : 0 ≤ x4 ∧ x4 ≤ 1) (F : P3) (F' : P3) (hA : ∀ c x y : Int, 0 ≤ c ∧ c ≤ 2 → inP (κ 0 11) (κ 0 12) x y → (x3 = 1 ∨ cl (κ 0 13) x y = c) → h 17 (768 * x1 + 256 * c + 16 * y + x).toNat = F c x y ∧ 0 ≤ F c x y ∧ F c x y ≤ 4095) (hB : ∀ c x y : Int, 0 ≤ c ∧ c ≤ 2 → inP (κ 0 11) (κ 0 12) x y → (x3 = 1 ∨ cl (κ 0 13) x y = c) → h 17 (768 * x2 + 256 * c + 16 * y + x).toNat = F' c x y ∧ 0 ≤ F' c x y ∧ F' c x y ≤ 4095) (he : x3 ≠ 1 → ∀ c x y : Int, 0 ≤ c ∧ c ≤ 2 → F c x y = F 0 x y ∧ F' c x y = F' 0 x y) : zM G mX12_unlikeOf yX12_unlikeOf [.inr (.inr 0), .inl x1, .inl x2, .inl x3, .inl x4] h (q_X12_unlikeOfZ κ h x1 x2 x3 x4 F F') := by
  have f_0_11 := KRw hK
  have f_0_12 := KRh hK
  have f_0_13 := KRp hK
  have main : ∀ N : Nat, (∀ (v5 v6 v7 : Int) , (0 ≤ v5 ∧ v5 ≤ 768) → (0 ≤ v6 ∧ v6 ≤ 4095) → (0 ≤ v7 ∧ v7 ≤ 16) → (v7 - κ 0 12 ≤ 0) → (v5 = sumS (fun x y => sm3 (uG (κ 0 13) x3 F F' x y) 3) (κ 0 11).toNat v7.toNat) → (v6 = mxS (fun x y => mm3 (dG (κ 0 13) x3 F F' x y) 3) (κ 0 11).toNat v7.toNat) → (0 ≤ v5 ∧ v5 ≤ 48 * v7) → 13876689960 + 12434310 * (16 - v7) + 12236940 < (N : Int) → zV G mX12_unlikeOf (q_X12_unlikeOfZ κ h x1 x2 x3 x4 F F') 9 [some (.inr (.inr 0)), some (.inl x1), some (.inl x2), some (.inl x3), some (.inl x4), some (.inl v5), some (.inl v6), some (.inl v7), none, none, none] [] h) ∧ (∀ (v5 v6 v7 v8 : Int) , (0 ≤ v5 ∧ v5 ≤ 768) → (0 ≤ v6 ∧ v6 ≤ 4095) → (0 ≤ v7 ∧ v7 ≤ 15) → (v7 - κ 0 12 ≤ -1) → (0 ≤ v8 ∧ v8 ≤ 16) → (v8 - κ 0 11 ≤ 0) → (v5 = sumS (fun x y => sm3 (uG (κ 0 13) x3 F F' x y) 3) (κ 0 11).toNat v7.toNat + sumR (fun x y => sm3 (uG (κ 0 13) x3 F F' x y) 3) v7 v8.toNat) → (v6 = max2 (mxS (fun x y => mm3 (dG (κ 0 13) x3 F F' x y) 3) (κ 0 11).toNat v7.toNat) (mxR (fun x y => mm3 (dG (κ 0 13) x3 F F' x y) 3) v7 v8.toNat)) → (0 ≤ v5 ∧ v5 ≤ 48 * v7 + 3 * v8) → 13876689960 + 12434310 * (16 - v7) + 9868500 + 10965 * (16 - v8) + 10750 < (N : Int) → zV G mX12_unlikeOf (q_X12_unlikeOfZ κ h x1 x2 x3 x4 F F') 21 [some (.inr (.inr 0)), some (.inl x1), some (.inl x2), some (.inl x3), some (.inl x4), some (.inl v5), some (.inl v6), some (.inl v7), some (.inl v8), none, none] [] h) ∧ (∀ (v5 v6 v7 v8 v9 : Int) , (0 ≤ v5 ∧ v5 ≤ 768) → (0 ≤ v6 ∧ v6 ≤ 4095) → (0 ≤ v7 ∧ v7 ≤ 15) → (v7 - κ 0 12 ≤ -1) → (0 ≤ v8 ∧ v8 ≤ 15) → (v8 - κ 0 11 ≤ -1) → (0 ≤ v9 ∧ v9 ≤ 3) → (v5 = sumS (fun x y => sm3 (uG (κ 0 13) x3 F F' x y) 3) (κ 0 11).toNat v7.toNat + sumR (fun x y => sm3 (uG (κ 0 13) x3 F F' x y) 3) v7 v8.toNat + sm3 (uG (κ 0 13) x3 F F' v8 v7) v9.toNat) → (v6 = max2 (max2 (mxS (fun x y => mm3 (dG (κ 0 13) x3 F F' x y) 3) (κ 0 11).toNat v7.toNat) (mxR (fun x y => mm3 (dG (κ 0 13) x3 F F' x y) 3) v7 v8.toNat)) (mm3 (dG (κ 0 13) x3 F F' v8 v7) v9.toNat)) → (0 ≤ v5 ∧ v5 ≤ 48 * v7 + 3 * v8 + v9) → 13876689960 + 12434310 * (16 - v7) + 9868500 + 10965 * (16 - v8) + 9030 + 43 * (3 - v9) + 42 < (N : Int) → zV G mX12_unlikeOf (q_X12_unlikeOfZ κ h x1 x2 x3 x4 F F') 33 [some (.inr (.inr 0)), some (.inl x1), some (.inl x2), some (.inl x3), some (.inl x4), some (.inl v5), some (.inl v6), some (.inl v7), some (.inl v8), some (.inl v9), none] [] h) := by
    intro N
    induction N with
    | zero =>
      refine ⟨?_, ?_, ?_⟩
      · intro v5 v6 v7 g0 g1 g2 g3 gc0 gc1 gc2 hm
        exfalso; omega
      · intro v5 v6 v7 v8 g0 g1 g2 g3 g4 g5 gc0 gc1 gc2 hm
        exfalso; omega
      · intro v5 v6 v7 v8 v9 g0 g1 g2 g3 g4 g5 g6 gc0 gc1 gc2 hm
        exfalso; omega
    | succ N ih =>
      obtain ⟨k9, k21, k33⟩ := ih
      refine ⟨?_, ?_, ?_⟩
      · intro v5 v6 v7 g0 g1 g2 g3 gc0 gc1 gc2 hm
        refine zW_iload (pc' := 11) dX12_unlikeOf_0.1.2.2.1 rfl rfl ?_
        refine zW_aload_n (pc' := 12) dX12_unlikeOf_0.1.2.2.2 rfl rfl ?_
        refine zG_key (pc' := 15) hF rfl fg_X12_103 tb0 rfl dX12_unlikeOf_0.2.1.1.1 rfl ?_
        refine zV_cm_ge (tgt := 125) (pc' := 18) dX12_unlikeOf_0.2.1.1.2 rfl rfl ⟨by omega, by omega⟩ ⟨by omega, by omega⟩ (fun c15 => ?_) (fun c15 => ?_)
        · refine zW_iload (pc' := 127) dX12_unlikeOf_3.2.2.1.2 rfl rfl ?_
          refine zV_if_ne (tgt := 135) (pc' := 130) dX12_unlikeOf_3.2.2.2.1 rfl rfl ⟨by omega, by omega⟩ (fun c127 => ?_) (fun c127 => ?_)
          · refine zW_iload (pc' := 137) dX12_unlikeOf_4.1.2 rfl rfl ?_
            exact zV_iret rfl dX12_unlikeOf_4.2 ⟨rfl, (by have e : v7 = κ 0 12 := (by omega); rw [e] at gc0 gc1; unfold ulR; first | (rw [if_pos (by omega), ← uG_sum he]; exact gc0) | (rw [if_neg (by omega), ← dG_max he]; exact gc1))⟩
          · refine zW_iload (pc' := 132) dX12_unlikeOf_3.2.2.2.2 rfl rfl ?_
            refine zV_goto 137 dX12_unlikeOf_4.1.1 rfl ?_
            exact zV_iret rfl dX12_unlikeOf_4.2 ⟨rfl, (by have e : v7 = κ 0 12 := (by omega); rw [e] at gc0 gc1; unfold ulR; first | (rw [if_pos (by omega), ← uG_sum he]; exact gc0) | (rw [if_neg (by omega), ← dG_max he]; exact gc1))⟩
        · refine zW_iconst (pc' := 19) dX12_unlikeOf_0.2.1.2.1 rfl ?_
          refine zW_istore (ls' := [_, _, _, _, _, _, _, _, _, _, _]) (pc' := 21) dX12_unlikeOf_0.2.1.2.2 (by decide) rfl rfl rfl ?_
          exact k21 _ _ _ _ (by omega) (by omega) (by omega) (by omega) (by omega) (by omega) (by first | (rw [sgu, gc0, show v9 = 3 by omega]; exact Int.add_assoc _ _ _) | (rw [gc0]; exact (Int.add_zero _).symm)) (by first | (rw [sgd, gc1, show v9 = 3 by omega]; exact max2_as) | (rw [gc1]; exact (max2_0 (mxS_n _)).symm)) (by omega) (by omega)
      · intro v5 v6 v7 v8 g0 g1 g2 g3 g4 g5 gc0 gc1 gc2 hm
        refine zW_iload (pc' := 23) dX12_unlikeOf_0.2.2.1.1 rfl rfl ?_
        refine zW_aload_n (pc' := 24) dX12_unlikeOf_0.2.2.1.2 rfl rfl ?_
        refine zG_key (pc' := 27) hF rfl fg_X12_99 tb0 rfl dX12_unlikeOf_0.2.2.2.1 rfl ?_
        refine zV_cm_ge (tgt := 119) (pc' := 30) dX12_unlikeOf_0.2.2.2.2 rfl rfl ⟨by omega, by omega⟩ ⟨by omega, by omega⟩ (fun c27 => ?_) (fun c27 => ?_)
        · have ugu := sumS_s (t := (fun x y => sm3 (uG (κ 0 13) x3 F F' x y) 3)) (w := (κ 0 11).toNat) (v := v7) (by omega)
          have ugd := mxS_s (t := (fun x y => mm3 (dG (κ 0 13) x3 F F' x y) 3)) (w := (κ 0 11).toNat) (v := v7) (by omega)
          refine zW_iinc (ls' := [_, _, _, _, _, _, _, _, _, _, _]) (pc' := 122) dX12_unlikeOf_3.2.1.2.2 rfl (by decide) rfl rfl rfl ?_
          refine zV_goto 9 dX12_unlikeOf_3.2.2.1.1 rfl ?_
          refine zV_clr 8 (ls' := [_, _, _, _, _, _, _, _, _, _, _]) rfl ?_
          exact k9 _ _ _ (by omega) (by omega) (by omega) (by omega) (by first | rfl | (rw [ugu, gc0, show v8 = κ 0 11 by omega])) (by first | rfl | (rw [ugd, gc1, show v8 = κ 0 11 by omega])) (by omega) (by omega)
        · refine zW_iconst (pc' := 31) dX12_unlikeOf_1.1.1.1.1 rfl ?_
          refine zW_istore (ls' := [_, _, _, _, _, _, _, _, _, _, _]) (pc' := 33) dX12_unlikeOf_1.1.1.1.2 (by decide) rfl rfl rfl ?_
          exact k33 _ _ _ _ _ (by omega) (by omega) (by omega) (by omega) (by omega) (by omega) (by omega) (by first | (rw [su, t0, hu, gc0]; omega) | (rw [su, t0, gc0]; omega) | (rw [gc0]; exact (Int.add_zero _).symm)) (by first | (rw [sd, t1, ← hd, ← max2_as, ← gc1]; omega) | (rw [sd, t1, max2_0 hm0]; exact gc1) | (rw [gc1]; exact (max2_0 (by have z1 := mxS_n (t := (fun x y => mm3 (dG (κ 0 13) x3 F F' x y) 3)) (w := (κ 0 11).toNat) v7.toNat; have z2 := max2c (mxS (fun x y => mm3 (dG (κ 0 13) x3 F F' x y) 3) (κ 0 11).toNat v7.toNat) (mxR (fun x y => mm3 (dG (κ 0 13) x3 F F' x y) 3) v7 v8.toNat); omega)).symm)) (by omega) (by omega)
      · intro v5 v6 v7 v8 v9 g0 g1 g2 g3 g4 g5 g6 gc0 gc1 gc2 hm
        refine zW_iload (pc' := 35) dX12_unlikeOf_1.1.1.2.1 rfl rfl ?_
        refine zW_iconst (pc' := 36) dX12_unlikeOf_1.1.1.2.2 rfl ?_
        refine zV_cm_ge (tgt := 113) (pc' := 39) dX12_unlikeOf_1.1.2.1.1 rfl rfl ⟨by omega, by omega⟩ ⟨by omega, by omega⟩ (fun c36 => ?_) (fun c36 => ?_)
        · have sgu := sumR_s (t := (fun x y => sm3 (uG (κ 0 13) x3 F F' x y) 3)) (y := v7) (v := v8) (by omega)
          have sgd := mxR_s (t := (fun x y => mm3 (dG (κ 0 13) x3 F F' x y) 3)) (y := v7) (v := v8) (by omega)
          refine zW_iinc (ls' := [_, _, _, _, _, _, _, _, _, _, _]) (pc' := 116) dX12_unlikeOf_3.2.1.1.2 rfl (by decide) rfl rfl rfl ?_
          refine zV_goto 21 dX12_unlikeOf_3.2.1.2.1 rfl ?_
          refine zV_clr 9 (ls' := [_, _, _, _, _, _, _, _, _, _, _]) rfl ?_
          exact k21 _ _ _ _ (by omega) (by omega) (by omega) (by omega) (by omega) (by omega) (by first | (rw [sgu, gc0, show v9 = 3 by omega]; exact Int.add_assoc _ _ _) | (rw [gc0]; exact (Int.add_zero _).symm)) (by first | (rw [sgd, gc1, show v9 = 3 by omega]; exact max2_as) | (rw [gc1]; exact (max2_0 (mxS_n _)).symm)) (by omega) (by omega)
        · have su := sm3_s (t := (uG (κ 0 13) x3 F F' v8 v7)) (c := v9) (by omega)
          have sd := mm3_s (t := (dG (κ 0 13) x3 F F' v8 v7)) (c := v9) (by omega)
          have hm0 := mm3_n (t := (dG (κ 0 13) x3 F F' v8 v7)) v9.toNat
          refine zW_iload_n (pc' := 40) dX12_unlikeOf_1.1.2.1.2 rfl rfl ?_
          refine zV_if_ne (tgt := 59) (pc' := 43) dX12_unlikeOf_1.1.2.2.1 rfl rfl ⟨by omega, by omega⟩ (fun c40 => ?_) (fun c40 => ?_)
          · have hye : x3 = 1 ∨ cl (κ 0 13) v8 v7 = v9 := by unfold cl; omega
            have a1 := hA v9 v8 v7 ⟨by omega, by omega⟩ ⟨by omega, by omega, by omega, by omega⟩ hye
            have a2 := hB v9 v8 v7 ⟨by omega, by omega⟩ ⟨by omega, by omega, by omega, by omega⟩ hye
            have t0 : uG (κ 0 13) x3 F F' v8 v7 v9 = uT F F' v9 v8 v7 := if_pos hye
            have t1 : dG (κ 0 13) x3 F F' v8 v7 v9 = dT F F' v9 v8 v7 := if_pos hye
            refine zW_aload_n (pc' := 60) dX12_unlikeOf_1.2.2.2.1 rfl rfl ?_
            refine zW_iload_n (pc' := 61) dX12_unlikeOf_1.2.2.2.2 rfl rfl ?_
            refine zW_iload (pc' := 63) dX12_unlikeOf_2.1.1.1.1 rfl rfl ?_
            refine zW_iload (pc' := 65) dX12_unlikeOf_2.1.1.1.2 rfl rfl ?_
            refine zW_iload (pc' := 67) dX12_unlikeOf_2.1.1.2.1 rfl rfl ?_
            refine cvI4 (pc' := 70) kX12_at vX12_at lk_X12_277 ⟨Nat.le_of_ble_eq_true rfl, Nat.le_of_ble_eq_true rfl⟩ tb0 vq12 rfl rfl (s_X12_atY hK hF _ ⟨by omega, by omega⟩ _ ⟨by omega, by omega⟩ _ ⟨by omega, by omega, by omega⟩ _ ⟨by omega, by omega, by omega⟩) dX12_unlikeOf_2.1.1.2.2 (Nat.le_of_ble_eq_true rfl) rfl ?_
            rintro r67 z67 ⟨hz67, p67⟩; subst z67
            have b67 : 0 ≤ r67 ∧ r67 ≤ 4095 := by rw [p67, a1.1]; exact a1.2
            refine zW_aload_n (pc' := 71) dX12_unlikeOf_2.1.2.1.1 rfl rfl ?_
            refine zW_iload_n (pc' := 72) dX12_unlikeOf_2.1.2.1.2 rfl rfl ?_
            refine zW_iload (pc' := 74) dX12_unlikeOf_2.1.2.2.1 rfl rfl ?_
            refine zW_iload (pc' := 76) dX12_unlikeOf_2.1.2.2.2 rfl rfl ?_
            refine zW_iload (pc' := 78) dX12_unlikeOf_2.2.1.1.1 rfl rfl ?_
            refine cvI4 (pc' := 81) kX12_at vX12_at lk_X12_277 ⟨Nat.le_of_ble_eq_true rfl, Nat.le_of_ble_eq_true rfl⟩ tb0 vq12 rfl rfl (s_X12_atY hK hF _ ⟨by omega, by omega⟩ _ ⟨by omega, by omega⟩ _ ⟨by omega, by omega, by omega⟩ _ ⟨by omega, by omega, by omega⟩) dX12_unlikeOf_2.2.1.1.2 (Nat.le_of_ble_eq_true rfl) rfl ?_
            rintro r78 z78 ⟨hz78, p78⟩; subst z78
            have b78 : 0 ≤ r78 ∧ r78 ≤ 4095 := by rw [p78, a2.1]; exact a2.2
            refine zW_isub (pc' := 82) dX12_unlikeOf_2.2.1.2.1 rfl ?_
            refine csI1 (pc' := 85) kX12_size vX12_size lk_X12_257 ⟨Nat.le_of_ble_eq_true rfl, Nat.le_of_ble_eq_true rfl⟩ rfl (s_X12_sizeR hF _ ⟨by omega, by omega⟩) dX12_unlikeOf_2.2.1.2.2 (Nat.le_of_ble_eq_true rfl) rfl ?_
            rintro r82 z82 ⟨hz82, p82⟩; subst z82
            have hd : r82 = dT F F' v9 v8 v7 := by (have z := abc (r67 - r78); unfold dT; rw [← a1.1, ← a2.1, ← p67, ← p78]; omega)
            have hu : uT F F' v9 v8 v7 = (if r82 = 0 then 0 else 1) := by (unfold uT; rw [← a1.1, ← a2.1, ← p67, ← p78]; by_cases q : r67 = r78; (rw [if_pos q, if_pos (by omega)]); (rw [if_neg q, if_neg (by omega)]))
            refine zW_istore (ls' := [_, _, _, _, _, _, _, _, _, _, _]) (pc' := 87) dX12_unlikeOf_2.2.2.1.1 (by decide) rfl rfl rfl ?_
            refine zW_iload (pc' := 89) dX12_unlikeOf_2.2.2.1.2 rfl rfl ?_
            refine zV_if_le (tgt := 98) (pc' := 92) dX12_unlikeOf_2.2.2.2.1 rfl rfl ⟨by omega, by omega⟩ (fun c89 => ?_) (fun c89 => ?_)
            · refine zW_iload (pc' := 100) dX12_unlikeOf_3.1.1.2.2 rfl rfl ?_
              refine zW_iload (pc' := 102) dX12_unlikeOf_3.1.2.1.1 rfl rfl ?_
              refine csI2 (pc' := 105) kX12_max vX12_max lk_X12_113 ⟨Nat.le_of_ble_eq_true rfl, Nat.le_of_ble_eq_true rfl⟩ rfl (s_X12_maxR hF _ ⟨by omega, by omega⟩ _ ⟨by omega, by omega⟩) dX12_unlikeOf_3.1.2.1.2 (Nat.le_of_ble_eq_true rfl) rfl ?_
              rintro r102 z102 ⟨hz102, p102⟩; subst z102
              refine zW_istore (ls' := [_, _, _, _, _, _, _, _, _, _, _]) (pc' := 107) dX12_unlikeOf_3.1.2.2.1 (by decide) rfl rfl rfl ?_
              try (first | rw [if_pos (by omega)] at hu | rw [if_neg (by omega)] at hu)
              try (have hm1 := max2c v6 r82)
              refine zW_iinc (ls' := [_, _, _, _, _, _, _, _, _, _, _]) (pc' := 110) dX12_unlikeOf_3.1.2.2.2 rfl (by decide) rfl rfl rfl ?_
              refine zV_goto 33 dX12_unlikeOf_3.2.1.1.1 rfl ?_
              refine zV_clr 10 (ls' := [_, _, _, _, _, _, _, _, _, _, _]) rfl ?_
              exact k33 _ _ _ _ _ (by omega) (by omega) (by omega) (by omega) (by omega) (by omega) (by omega) (by first | (rw [su, t0, hu, gc0]; omega) | (rw [su, t0, gc0]; omega) | (rw [gc0]; exact (Int.add_zero _).symm)) (by first | (rw [sd, t1, ← hd, ← max2_as, ← gc1]; omega) | (rw [sd, t1, max2_0 hm0]; exact gc1) | (rw [gc1]; exact (max2_0 (by have z1 := mxS_n (t := (fun x y => mm3 (dG (κ 0 13) x3 F F' x y) 3)) (w := (κ 0 11).toNat) v7.toNat; have z2 := max2c (mxS (fun x y => mm3 (dG (κ 0 13) x3 F F' x y) 3) (κ 0 11).toNat v7.toNat) (mxR (fun x y => mm3 (dG (κ 0 13) x3 F F' x y) 3) v7 v8.toNat); omega)).symm)) (by omega) (by omega)
            · refine zW_iload (pc' := 94) dX12_unlikeOf_2.2.2.2.2 rfl rfl ?_
              refine zW_iconst (pc' := 95) dX12_unlikeOf_3.1.1.1.1 rfl ?_
              refine zW_iadd (pc' := 96) dX12_unlikeOf_3.1.1.1.2 rfl ?_
              refine zW_istore (ls' := [_, _, _, _, _, _, _, _, _, _, _]) (pc' := 98) dX12_unlikeOf_3.1.1.2.1 (by decide) rfl rfl rfl ?_
              refine zW_iload (pc' := 100) dX12_unlikeOf_3.1.1.2.2 rfl rfl ?_
              refine zW_iload (pc' := 102) dX12_unlikeOf_3.1.2.1.1 rfl rfl ?_
              refine csI2 (pc' := 105) kX12_max vX12_max lk_X12_113 ⟨Nat.le_of_ble_eq_true rfl, Nat.le_of_ble_eq_true rfl⟩ rfl (s_X12_maxR hF _ ⟨by omega, by omega⟩ _ ⟨by omega, by omega⟩) dX12_unlikeOf_3.1.2.1.2 (Nat.le_of_ble_eq_true rfl) rfl ?_
              rintro r102 z102 ⟨hz102, p102⟩; subst z102
              refine zW_istore (ls' := [_, _, _, _, _, _, _, _, _, _, _]) (pc' := 107) dX12_unlikeOf_3.1.2.2.1 (by decide) rfl rfl rfl ?_
              try (first | rw [if_pos (by omega)] at hu | rw [if_neg (by omega)] at hu)
              try (have hm1 := max2c v6 r82)
              refine zW_iinc (ls' := [_, _, _, _, _, _, _, _, _, _, _]) (pc' := 110) dX12_unlikeOf_3.1.2.2.2 rfl (by decide) rfl rfl rfl ?_
              refine zV_goto 33 dX12_unlikeOf_3.2.1.1.1 rfl ?_
              refine zV_clr 10 (ls' := [_, _, _, _, _, _, _, _, _, _, _]) rfl ?_
              exact k33 _ _ _ _ _ (by omega) (by omega) (by omega) (by omega) (by omega) (by omega) (by omega) (by first | (rw [su, t0, hu, gc0]; omega) | (rw [su, t0, gc0]; omega) | (rw [gc0]; exact (Int.add_zero _).symm)) (by first | (rw [sd, t1, ← hd, ← max2_as, ← gc1]; omega) | (rw [sd, t1, max2_0 hm0]; exact gc1) | (rw [gc1]; exact (max2_0 (by have z1 := mxS_n (t := (fun x y => mm3 (dG (κ 0 13) x3 F F' x y) 3)) (w := (κ 0 11).toNat) v7.toNat; have z2 := max2c (mxS (fun x y => mm3 (dG (κ 0 13) x3 F F' x y) 3) (κ 0 11).toNat v7.toNat) (mxR (fun x y => mm3 (dG (κ 0 13) x3 F F' x y) 3) v7 v8.toNat); omega)).symm)) (by omega) (by omega)
          · refine zW_aload_n (pc' := 44) dX12_unlikeOf_1.1.2.2.2 rfl rfl ?_
            refine zW_iload (pc' := 46) dX12_unlikeOf_1.2.1.1.1 rfl rfl ?_
            refine zW_iload (pc' := 48) dX12_unlikeOf_1.2.1.1.2 rfl rfl ?_
            refine cvI2 (pc' := 51) kX12_colourAt vX12_colourAt lk_X12_225 ⟨Nat.le_of_ble_eq_true rfl, Nat.le_of_ble_eq_true rfl⟩ tb0 vq12 rfl rfl (s_X12_colourAtZ hK hF _ ⟨by omega, by omega⟩ _ ⟨by omega, by omega⟩) dX12_unlikeOf_1.2.1.2.1 (Nat.le_of_ble_eq_true rfl) rfl ?_
            rintro r48 z48 ⟨hz48, p48⟩; subst z48
            refine zW_iload (pc' := 53) dX12_unlikeOf_1.2.1.2.2 rfl rfl ?_
            refine zV_cm_eq (tgt := 59) (pc' := 56) dX12_unlikeOf_1.2.2.1.1 rfl rfl ⟨by omega, by omega⟩ ⟨by omega, by omega⟩ (fun c53 => ?_) (fun c53 => ?_)
            · have hye : x3 = 1 ∨ cl (κ 0 13) v8 v7 = v9 := by unfold cl; omega
              have a1 := hA v9 v8 v7 ⟨by omega, by omega⟩ ⟨by omega, by omega, by omega, by omega⟩ hye
              have a2 := hB v9 v8 v7 ⟨by omega, by omega⟩ ⟨by omega, by omega, by omega, by omega⟩ hye
              have t0 : uG (κ 0 13) x3 F F' v8 v7 v9 = uT F F' v9 v8 v7 := if_pos hye
              have t1 : dG (κ 0 13) x3 F F' v8 v7 v9 = dT F F' v9 v8 v7 := if_pos hye
              refine zW_aload_n (pc' := 60) dX12_unlikeOf_1.2.2.2.1 rfl rfl ?_
              refine zW_iload_n (pc' := 61) dX12_unlikeOf_1.2.2.2.2 rfl rfl ?_
              refine zW_iload (pc' := 63) dX12_unlikeOf_2.1.1.1.1 rfl rfl ?_
              refine zW_iload (pc' := 65) dX12_unlikeOf_2.1.1.1.2 rfl rfl ?_
              refine zW_iload (pc' := 67) dX12_unlikeOf_2.1.1.2.1 rfl rfl ?_
              refine cvI4 (pc' := 70) kX12_at vX12_at lk_X12_277 ⟨Nat.le_of_ble_eq_true rfl, Nat.le_of_ble_eq_true rfl⟩ tb0 vq12 rfl rfl (s_X12_atY hK hF _ ⟨by omega, by omega⟩ _ ⟨by omega, by omega⟩ _ ⟨by omega, by omega, by omega⟩ _ ⟨by omega, by omega, by omega⟩) dX12_unlikeOf_2.1.1.2.2 (Nat.le_of_ble_eq_true rfl) rfl ?_
              rintro r67 z67 ⟨hz67, p67⟩; subst z67
              have b67 : 0 ≤ r67 ∧ r67 ≤ 4095 := by rw [p67, a1.1]; exact a1.2
              refine zW_aload_n (pc' := 71) dX12_unlikeOf_2.1.2.1.1 rfl rfl ?_
              refine zW_iload_n (pc' := 72) dX12_unlikeOf_2.1.2.1.2 rfl rfl ?_
              refine zW_iload (pc' := 74) dX12_unlikeOf_2.1.2.2.1 rfl rfl ?_
              refine zW_iload (pc' := 76) dX12_unlikeOf_2.1.2.2.2 rfl rfl ?_
              refine zW_iload (pc' := 78) dX12_unlikeOf_2.2.1.1.1 rfl rfl ?_
              refine cvI4 (pc' := 81) kX12_at vX12_at lk_X12_277 ⟨Nat.le_of_ble_eq_true rfl, Nat.le_of_ble_eq_true rfl⟩ tb0 vq12 rfl rfl (s_X12_atY hK hF _ ⟨by omega, by omega⟩ _ ⟨by omega, by omega⟩ _ ⟨by omega, by omega, by omega⟩ _ ⟨by omega, by omega, by omega⟩) dX12_unlikeOf_2.2.1.1.2 (Nat.le_of_ble_eq_true rfl) rfl ?_
              rintro r78 z78 ⟨hz78, p78⟩; subst z78
              have b78 : 0 ≤ r78 ∧ r78 ≤ 4095 := by rw [p78, a2.1]; exact a2.2
              refine zW_isub (pc' := 82) dX12_unlikeOf_2.2.1.2.1 rfl ?_
              refine csI1 (pc' := 85) kX12_size vX12_size lk_X12_257 ⟨Nat.le_of_ble_eq_true rfl, Nat.le_of_ble_eq_true rfl⟩ rfl (s_X12_sizeR hF _ ⟨by omega, by omega⟩) dX12_unlikeOf_2.2.1.2.2 (Nat.le_of_ble_eq_true rfl) rfl ?_
              rintro r82 z82 ⟨hz82, p82⟩; subst z82
              have hd : r82 = dT F F' v9 v8 v7 := by (have z := abc (r67 - r78); unfold dT; rw [← a1.1, ← a2.1, ← p67, ← p78]; omega)
              have hu : uT F F' v9 v8 v7 = (if r82 = 0 then 0 else 1) := by (unfold uT; rw [← a1.1, ← a2.1, ← p67, ← p78]; by_cases q : r67 = r78; (rw [if_pos q, if_pos (by omega)]); (rw [if_neg q, if_neg (by omega)]))
              refine zW_istore (ls' := [_, _, _, _, _, _, _, _, _, _, _]) (pc' := 87) dX12_unlikeOf_2.2.2.1.1 (by decide) rfl rfl rfl ?_
              refine zW_iload (pc' := 89) dX12_unlikeOf_2.2.2.1.2 rfl rfl ?_
              refine zV_if_le (tgt := 98) (pc' := 92) dX12_unlikeOf_2.2.2.2.1 rfl rfl ⟨by omega, by omega⟩ (fun c89 => ?_) (fun c89 => ?_)
              · refine zW_iload (pc' := 100) dX12_unlikeOf_3.1.1.2.2 rfl rfl ?_
                refine zW_iload (pc' := 102) dX12_unlikeOf_3.1.2.1.1 rfl rfl ?_
                refine csI2 (pc' := 105) kX12_max vX12_max lk_X12_113 ⟨Nat.le_of_ble_eq_true rfl, Nat.le_of_ble_eq_true rfl⟩ rfl (s_X12_maxR hF _ ⟨by omega, by omega⟩ _ ⟨by omega, by omega⟩) dX12_unlikeOf_3.1.2.1.2 (Nat.le_of_ble_eq_true rfl) rfl ?_
                rintro r102 z102 ⟨hz102, p102⟩; subst z102
                refine zW_istore (ls' := [_, _, _, _, _, _, _, _, _, _, _]) (pc' := 107) dX12_unlikeOf_3.1.2.2.1 (by decide) rfl rfl rfl ?_
                try (first | rw [if_pos (by omega)] at hu | rw [if_neg (by omega)] at hu)
                try (have hm1 := max2c v6 r82)
                refine zW_iinc (ls' := [_, _, _, _, _, _, _, _, _, _, _]) (pc' := 110) dX12_unlikeOf_3.1.2.2.2 rfl (by decide) rfl rfl rfl ?_
                refine zV_goto 33 dX12_unlikeOf_3.2.1.1.1 rfl ?_
                refine zV_clr 10 (ls' := [_, _, _, _, _, _, _, _, _, _, _]) rfl ?_
                exact k33 _ _ _ _ _ (by omega) (by omega) (by omega) (by omega) (by omega) (by omega) (by omega) (by first | (rw [su, t0, hu, gc0]; omega) | (rw [su, t0, gc0]; omega) | (rw [gc0]; exact (Int.add_zero _).symm)) (by first | (rw [sd, t1, ← hd, ← max2_as, ← gc1]; omega) | (rw [sd, t1, max2_0 hm0]; exact gc1) | (rw [gc1]; exact (max2_0 (by have z1 := mxS_n (t := (fun x y => mm3 (dG (κ 0 13) x3 F F' x y) 3)) (w := (κ 0 11).toNat) v7.toNat; have z2 := max2c (mxS (fun x y => mm3 (dG (κ 0 13) x3 F F' x y) 3) (κ 0 11).toNat v7.toNat) (mxR (fun x y => mm3 (dG (κ 0 13) x3 F F' x y) 3) v7 v8.toNat); omega)).symm)) (by omega) (by omega)
              · refine zW_iload (pc' := 94) dX12_unlikeOf_2.2.2.2.2 rfl rfl ?_
                refine zW_iconst (pc' := 95) dX12_unlikeOf_3.1.1.1.1 rfl ?_
                refine zW_iadd (pc' := 96) dX12_unlikeOf_3.1.1.1.2 rfl ?_
                refine zW_istore (ls' := [_, _, _, _, _, _, _, _, _, _, _]) (pc' := 98) dX12_unlikeOf_3.1.1.2.1 (by decide) rfl rfl rfl ?_
                refine zW_iload (pc' := 100) dX12_unlikeOf_3.1.1.2.2 rfl rfl ?_
                refine zW_iload (pc' := 102) dX12_unlikeOf_3.1.2.1.1 rfl rfl ?_
                refine csI2 (pc' := 105) kX12_max vX12_max lk_X12_113 ⟨Nat.le_of_ble_eq_true rfl, Nat.le_of_ble_eq_true rfl⟩ rfl (s_X12_maxR hF _ ⟨by omega, by omega⟩ _ ⟨by omega, by omega⟩) dX12_unlikeOf_3.1.2.1.2 (Nat.le_of_ble_eq_true rfl) rfl ?_
                rintro r102 z102 ⟨hz102, p102⟩; subst z102
                refine zW_istore (ls' := [_, _, _, _, _, _, _, _, _, _, _]) (pc' := 107) dX12_unlikeOf_3.1.2.2.1 (by decide) rfl rfl rfl ?_
                try (first | rw [if_pos (by omega)] at hu | rw [if_neg (by omega)] at hu)
                try (have hm1 := max2c v6 r82)
                refine zW_iinc (ls' := [_, _, _, _, _, _, _, _, _, _, _]) (pc' := 110) dX12_unlikeOf_3.1.2.2.2 rfl (by decide) rfl rfl rfl ?_
                refine zV_goto 33 dX12_unlikeOf_3.2.1.1.1 rfl ?_
                refine zV_clr 10 (ls' := [_, _, _, _, _, _, _, _, _, _, _]) rfl ?_
                exact k33 _ _ _ _ _ (by omega) (by omega) (by omega) (by omega) (by omega) (by omega) (by omega) (by first | (rw [su, t0, hu, gc0]; omega) | (rw [su, t0, gc0]; omega) | (rw [gc0]; exact (Int.add_zero _).symm)) (by first | (rw [sd, t1, ← hd, ← max2_as, ← gc1]; omega) | (rw [sd, t1, max2_0 hm0]; exact gc1) | (rw [gc1]; exact (max2_0 (by have z1 := mxS_n (t := (fun x y => mm3 (dG (κ 0 13) x3 F F' x y) 3)) (w := (κ 0 11).toNat) v7.toNat; have z2 := max2c (mxS (fun x y => mm3 (dG (κ 0 13) x3 F F' x y) 3) (κ 0 11).toNat v7.toNat) (mxR (fun x y => mm3 (dG (κ 0 13) x3 F F' x y) 3) v7 v8.toNat); omega)).symm)) (by omega) (by omega)
            · have hno : ¬ (x3 = 1 ∨ cl (κ 0 13) v8 v7 = v9) := by unfold cl; omega
              have t0 : uG (κ 0 13) x3 F F' v8 v7 v9 = 0 := if_neg hno
              have t1 : dG (κ 0 13) x3 F F' v8 v7 v9 = 0 := if_neg hno
              refine zV_goto 107 dX12_unlikeOf_1.2.2.1.2 rfl ?_
              try (first | rw [if_pos (by omega)] at hu | rw [if_neg (by omega)] at hu)
              try (have hm1 := max2c v6 r82)
              refine zW_iinc (ls' := [_, _, _, _, _, _, _, _, _, _, _]) (pc' := 110) dX12_unlikeOf_3.1.2.2.2 rfl (by decide) rfl rfl rfl ?_
              refine zV_goto 33 dX12_unlikeOf_3.2.1.1.1 rfl ?_
              exact k33 _ _ _ _ _ (by omega) (by omega) (by omega) (by omega) (by omega) (by omega) (by omega) (by first | (rw [su, t0, hu, gc0]; omega) | (rw [su, t0, gc0]; omega) | (rw [gc0]; exact (Int.add_zero _).symm)) (by first | (rw [sd, t1, ← hd, ← max2_as, ← gc1]; omega) | (rw [sd, t1, max2_0 hm0]; exact gc1) | (rw [gc1]; exact (max2_0 (by have z1 := mxS_n (t := (fun x y => mm3 (dG (κ 0 13) x3 F F' x y) 3)) (w := (κ 0 11).toNat) v7.toNat; have z2 := max2c (mxS (fun x y => mm3 (dG (κ 0 13) x3 F F' x y) 3) (κ 0 11).toNat v7.toNat) (mxR (fun x y => mm3 (dG (κ 0 13) x3 F F' x y) 3) v7 v8.toNat); omega)).symm)) (by omega) (by omega)
  refine zM_of [some (.inr (.inr 0)), some (.inl x1), some (.inl x2), some (.inl x3), some (.inl x4), none, none, none, none, none, none] 6 rfl rfl (Nat.le_of_ble_eq_true rfl) rfl ?_
  refine zW_iconst (pc' := 1) dX12_unlikeOf_0.1.1.1.1 rfl ?_
  refine zW_istore (ls' := [_, _, _, _, _, _, _, _, _, _, _]) (pc' := 3) dX12_unlikeOf_0.1.1.1.2 (by decide) rfl rfl rfl ?_
  refine zW_iconst (pc' := 4) dX12_unlikeOf_0.1.1.2.1 rfl ?_
  refine zW_istore (ls' := [_, _, _, _, _, _, _, _, _, _, _]) (pc' := 6) dX12_unlikeOf_0.1.1.2.2 (by decide) rfl rfl rfl ?_
  refine zW_iconst (pc' := 7) dX12_unlikeOf_0.1.2.1.1 rfl ?_
  refine zW_istore (ls' := [_, _, _, _, _, _, _, _, _, _, _]) (pc' := 9) dX12_unlikeOf_0.1.2.1.2 (by decide) rfl rfl rfl ?_
  exact (main 10000000000000000000000000000000000000000).1 _ _ _ (by omega) (by omega) (by omega) (by omega) (by first | rfl | (rw [ugu, gc0, show v8 = κ 0 11 by omega])) (by first | rfl | (rw [ugd, gc1, show v8 = κ 0 11 by omega])) (by omega) (by omega)

theorem pG_c {W H P : Int} {D : Nat → Int} {L : Nat → Int} {X : Nat → Nat → Int} {M : Nat → Int} {T : P3} {s : Nat} (h0 : ∀ c x y : Int, 0 ≤ c ∧ c ≤ 2 → T c x y = T 0 x y) : ∀ i : Nat, (∀ j, j < i → L (s + j) = 98 ∨ L (s + j) = 111 ∨ L (s + j) = 100 ∨ L (s + j) = 108) → ∀ c x y : Int, 0 ≤ c ∧ c ≤ 2 → pG W H P D L X M T s i c x y = pG W H P D L X M T s i 0 x y
  | 0, _ => h0
  | i + 1, h => fun c x y hc => by
    show nrm W H (stp W H P D (L (s + i)) (X (s + i)) (M (s + i)) (pG W H P D L X M T s i)) c x y = nrm W H (stp W H P D (L (s + i)) (X (s + i)) (M (s + i)) (pG W H P D L X M T s i)) 0 x y
    rw [stp_e (h i (Nat.lt_succ_self i))]
    unfold nrm
    by_cases q : 0 ≤ x ∧ x < W ∧ 0 ≤ y ∧ y < H
    · rw [if_pos ⟨hc.1, hc.2, q⟩, if_pos ⟨by omega, by omega, q⟩]
    · rw [if_neg (fun z => q z.2.2), if_neg (fun z => q z.2.2)]
theorem rawP_c {W H : Int} {V : Nat → Int} (c x y : Int) (hc : 0 ≤ c ∧ c ≤ 2) : rawP W H V c x y = rawP W H V 0 x y := by
  unfold rawP nrm
  by_cases q : 0 ≤ x ∧ x < W ∧ 0 ≤ y ∧ y < H
  · rw [if_pos ⟨hc.1, hc.2, q⟩, if_pos ⟨by omega, by omega, q⟩]
  · rw [if_neg (fun z => q z.2.2), if_neg (fun z => q z.2.2)]
theorem ea_lt {L : Nat → Int} {n : Int} (hE : EaOK L n) {k : Nat} (hk : (k : Int) ≤ n) (hno : noF L k) : ∀ j, j < k → L j = 98 ∨ L j = 111 ∨ L j = 100 ∨ L j = 108 := fun j hj => by
  have a := (hE j (by omega)).mp (hno.le (by omega))
  have b := hno j hj
  omega
theorem PF_c {κ : Hp} (hE : EaOK (κ 3) (κ 0 14)) {k : Nat} (hk : (k : Int) ≤ κ 0 14) (hno : noF (κ 3) k) (c x y : Int) (hc : 0 ≤ c ∧ c ≤ 2) : PF κ k c x y = PF κ k 0 x y :=
  pG_c (fun c x y hc => rawP_c c x y hc) k (fun j hj => by rw [Nat.zero_add]; exact ea_lt hE hk hno j hj) c x y hc
/-- a row's levels, of all colours or of own ones, as its state says -/
theorem PkR_at {κ : Hp} {A : Nat → Int} {r three : Int} {j : Nat} {T : P3} (h : PkR κ A r j T) (h3 : three = bhI (κ 3) j) (hb : FB3 (κ 0 11) (κ 0 12) T) (hc0 : noF (κ 3) j → ∀ c x y : Int, 0 ≤ c ∧ c ≤ 2 → T c x y = T 0 x y) : ∀ c x y : Int, 0 ≤ c ∧ c ≤ 2 → inP (κ 0 11) (κ 0 12) x y → (three = 1 ∨ cl (κ 0 13) x y = c) → A (768 * r + 256 * c + 16 * y + x).toNat = T c x y ∧ 0 ≤ T c x y ∧ T c x y ≤ 4095 := fun c x y hc hp hq => by
  refine ⟨?_, hb c hc x y hp⟩
  rcases bhI_c (κ 3) j with ⟨a, b⟩ | ⟨a, b⟩
  · rw [at_early (h.1 b) hp (hq.resolve_left (by omega)), hc0 b c x y hc]
  · exact h.2 b c hc x y hp


abbrev q_X4_compareZ (b : Bd) (κ : Hp) (s1 : Nat) (s2 : Nat) (F : P3) (F' : P3) (fl : Int) (gh0 : Hp) : Int → Hp → Prop := fun r h' => Fr b κ h' ∧ ((Fw [] [(95, 7), (95, 8)] gh0 h') ∧ (h' 95 7 = plU (uT F F') (κ 33 0).toNat (κ 33 1).toNat (npF fl) ∧ h' 95 8 = plM (dT F F') (κ 33 0).toNat (κ 33 1).toNat (npF fl)))
set_option maxHeartbeats 4000000 in
set_option maxRecDepth 20000 in
theorem s_X4_compareZ {G : Ga} {b : Bd} {κ h : Hp} (hK : KC κ) (hF : Fr b κ h) (s1 : Nat) (hs1 : 56 ≤ s1 ∧ s1 ≤ 70) (s2 : Nat) (hs2 : 56 ≤ s2 ∧ s2 ≤ 70) (F : P3) (F' : P3) (fl : Int) (gh0 : Hp) (hfl : 0 ≤ fl ∧ fl ≤ 1) (hb1 : h s1 1 = fl) (hb2 : h s2 1 = fl) (hA : ∀ c : Int, 0 ≤ c → c < ((npF fl : Nat) : Int) → PlS (κ 33 0) (κ 33 1) (h (s1 + 15)) c (F c)) (hB : ∀ c : Int, 0 ≤ c → c < ((npF fl : Nat) : Int) → PlS (κ 33 0) (κ 33 1) (h (s2 + 15)) c (F' c)) (hbA : FB3 (κ 33 0) (κ 33 1) F) (hbB : FB3 (κ 33 0) (κ 33 1) F') (hgh : Fw [] [(95, 7), (95, 8)] gh0 h) : zM G mX4_compare yX4_compare [.inr (.inr 95), .inr (.inr s1), .inr (.inr s2)] h (q_X4_compareZ b κ s1 s2 F F' fl gh0) := by
  have f_33_0 := KCw hK
  have f_33_1 := KCh hK
  have main : ∀ N : Nat, (∀ (v3 v4 : Int) (h : Hp), Fr b κ h → (1 ≤ v3 ∧ v3 ≤ 3) → (0 ≤ v4 ∧ v4 ≤ 3) → (v3 = ((npF fl : Nat) : Int) ∧ v3 ≤ 3) → (h 95 7 = plU (uT F F') (κ 33 0).toNat (κ 33 1).toNat v4.toNat) → (h 95 8 = plM (dT F F') (κ 33 0).toNat (κ 33 1).toNat v4.toNat) → (0 ≤ h 95 7 ∧ h 95 7 ≤ 256 * v4) → (0 ≤ h 95 8 ∧ h 95 8 ≤ 4095) → (v4 ≤ v3) → (h s1 1 = fl) → (h s2 1 = fl) → (∀ c : Int, 0 ≤ c → c < ((npF fl : Nat) : Int) → PlS (κ 33 0) (κ 33 1) (h (s1 + 15)) c (F c)) → (∀ c : Int, 0 ≤ c → c < ((npF fl : Nat) : Int) → PlS (κ 33 0) (κ 33 1) (h (s2 + 15)) c (F' c)) → (Fw [] [(95, 7), (95, 8)] gh0 h) → 17312641920 + 55847232 * (3 - v4) + 54960768 < (N : Int) → zV G mX4_compare (q_X4_compareZ b κ s1 s2 F F' fl gh0) 33 [some (.inr (.inr 95)), some (.inr (.inr s1)), some (.inr (.inr s2)), some (.inl v3), some (.inl v4), none, none, none, none] [] h) ∧ (∀ (v3 v4 v5 : Int) (h : Hp), Fr b κ h → (1 ≤ v3 ∧ v3 ≤ 3) → (0 ≤ v4 ∧ v4 ≤ 2) → (0 ≤ v5 ∧ v5 ≤ 16) → (v5 - κ 33 1 ≤ 0) → (v3 = ((npF fl : Nat) : Int) ∧ v3 ≤ 3) → (h 95 7 = plU (uT F F') (κ 33 0).toNat (κ 33 1).toNat v4.toNat + sumS (uT F F' v4) (κ 33 0).toNat v5.toNat) → (h 95 8 = max2 (plM (dT F F') (κ 33 0).toNat (κ 33 1).toNat v4.toNat) (mxS (dT F F' v4) (κ 33 0).toNat v5.toNat)) → (0 ≤ h 95 7 ∧ h 95 7 ≤ 256 * v4 + 16 * v5) → (0 ≤ h 95 8 ∧ h 95 8 ≤ 4095) → (v4 < v3) → (h s1 1 = fl) → (h s2 1 = fl) → (∀ c : Int, 0 ≤ c → c < ((npF fl : Nat) : Int) → PlS (κ 33 0) (κ 33 1) (h (s1 + 15)) c (F c)) → (∀ c : Int, 0 ≤ c → c < ((npF fl : Nat) : Int) → PlS (κ 33 0) (κ 33 1) (h (s2 + 15)) c (F' c)) → (Fw [] [(95, 7), (95, 8)] gh0 h) → 17312641920 + 55847232 * (3 - v4) + 49641984 + 49248 * (16 - v5) + 48384 < (N : Int) → zV G mX4_compare (q_X4_compareZ b κ s1 s2 F F' fl gh0) 42 [some (.inr (.inr 95)), some (.inr (.inr s1)), some (.inr (.inr s2)), some (.inl v3), some (.inl v4), some (.inl v5), none, none, none] [] h) ∧ (∀ (v3 v4 v5 v6 : Int) (h : Hp), Fr b κ h → (1 ≤ v3 ∧ v3 ≤ 3) → (0 ≤ v4 ∧ v4 ≤ 2) → (0 ≤ v5 ∧ v5 ≤ 15) → (v5 - κ 33 1 ≤ -1) → (0 ≤ v6 ∧ v6 ≤ 16) → (v6 - κ 33 0 ≤ 0) → (v3 = ((npF fl : Nat) : Int) ∧ v3 ≤ 3) → (h 95 7 = plU (uT F F') (κ 33 0).toNat (κ 33 1).toNat v4.toNat + sumS (uT F F' v4) (κ 33 0).toNat v5.toNat + sumR (uT F F' v4) v5 v6.toNat) → (h 95 8 = max2 (max2 (plM (dT F F') (κ 33 0).toNat (κ 33 1).toNat v4.toNat) (mxS (dT F F' v4) (κ 33 0).toNat v5.toNat)) (mxR (dT F F' v4) v5 v6.toNat)) → (0 ≤ h 95 7 ∧ h 95 7 ≤ 256 * v4 + 16 * v5 + v6) → (0 ≤ h 95 8 ∧ h 95 8 ≤ 4095) → (v4 < v3) → (h s1 1 = fl) → (h s2 1 = fl) → (∀ c : Int, 0 ≤ c → c < ((npF fl : Nat) : Int) → PlS (κ 33 0) (κ 33 1) (h (s1 + 15)) c (F c)) → (∀ c : Int, 0 ≤ c → c < ((npF fl : Nat) : Int) → PlS (κ 33 0) (κ 33 1) (h (s2 + 15)) c (F' c)) → (Fw [] [(95, 7), (95, 8)] gh0 h) → 17312641920 + 55847232 * (3 - v4) + 49641984 + 49248 * (16 - v5) + 40608 + 48 * (16 - v6) + 47 < (N : Int) → zV G mX4_compare (q_X4_compareZ b κ s1 s2 F F' fl gh0) 57 [some (.inr (.inr 95)), some (.inr (.inr s1)), some (.inr (.inr s2)), some (.inl v3), some (.inl v4), some (.inl v5), some (.inl v6), none, none] [] h) := by
    intro N
    induction N with
    | zero =>
      refine ⟨?_, ?_, ?_⟩
      · intro v3 v4 h hF g0 g1 gc0 gc1 gc2 gc3 gc4 gc5 hb1 hb2 hA hB hgh hm
        exfalso; omega
      · intro v3 v4 v5 h hF g0 g1 g2 g3 gc0 gc1 gc2 gc3 gc4 gc5 hb1 hb2 hA hB hgh hm
        exfalso; omega
      · intro v3 v4 v5 v6 h hF g0 g1 g2 g3 g4 g5 gc0 gc1 gc2 gc3 gc4 gc5 hb1 hb2 hA hB hgh hm
        exfalso; omega
    | succ N ih =>
      obtain ⟨k33, k42, k57⟩ := ih
      refine ⟨?_, ?_, ?_⟩
      · intro v3 v4 h hF g0 g1 gc0 gc1 gc2 gc3 gc4 gc5 hb1 hb2 hA hB hgh hm
        refine zW_iload (pc' := 35) dX4_compare_1.1.1.2.1 rfl rfl ?_
        refine zW_iload_n (pc' := 36) dX4_compare_1.1.1.2.2 rfl rfl ?_
        refine zV_cm_ge (tgt := 156) (pc' := 39) dX4_compare_1.1.2.1.1 rfl rfl ⟨by omega, by omega⟩ ⟨by omega, by omega⟩ (fun c36 => ?_) (fun c36 => ?_)
        · exact zV_vret rfl dX4_compare_4.2.2.2 ⟨hF, ⟨hgh, (by have e : v4.toNat = npF fl := (by omega); rw [← e]; exact ⟨gc1, gc2⟩)⟩⟩
        · refine zW_iconst (pc' := 40) dX4_compare_1.1.2.1.2 rfl ?_
          refine zW_istore (ls' := [_, _, _, _, _, _, _, _, _]) (pc' := 42) dX4_compare_1.1.2.2.1 (by decide) rfl rfl rfl ?_
          exact k42 _ _ _ _ hF (by omega) (by omega) (by omega) (by omega) gc0 (by first | (rw [ugu, gc1, show v6 = κ 33 0 by omega]; exact Int.add_assoc _ _ _) | (rw [gc1]; exact (Int.add_zero _).symm)) (by first | (rw [ugd, gc2, show v6 = κ 33 0 by omega]; exact max2_as) | (rw [gc2]; exact (max2_0 (plM_n _)).symm)) (by omega) (by omega) (by omega) hb1 hb2 hA hB hgh (by omega)
      · intro v3 v4 v5 h hF g0 g1 g2 g3 gc0 gc1 gc2 gc3 gc4 gc5 hb1 hb2 hA hB hgh hm
        refine zW_iload (pc' := 44) dX4_compare_1.1.2.2.2 rfl rfl ?_
        refine zW_aload_n (pc' := 45) dX4_compare_1.2.1.1.1 rfl rfl ?_
        refine zG_ref (pc' := 48) 33 fg_X4_19 tb95 rfl dX4_compare_1.2.1.1.2 rfl ?_
        refine zG_key (pc' := 51) hF rfl fg_X4_31 tb33 rfl dX4_compare_1.2.1.2.1 rfl ?_
        refine zV_cm_ge (tgt := 150) (pc' := 54) dX4_compare_1.2.1.2.2 rfl rfl ⟨by omega, by omega⟩ ⟨by omega, by omega⟩ (fun c51 => ?_) (fun c51 => ?_)
        · have pgu := plU_s (t := uT F F') (w := (κ 33 0).toNat) (h := (κ 33 1).toNat) (p := v4) (by omega)
          have pgd := plM_s (t := dT F F') (w := (κ 33 0).toNat) (h := (κ 33 1).toNat) (p := v4) (by omega)
          refine zW_iinc (ls' := [_, _, _, _, _, _, _, _, _]) (pc' := 153) dX4_compare_4.2.2.1.1 rfl (by decide) rfl rfl rfl ?_
          refine zV_goto 33 dX4_compare_4.2.2.1.2 rfl ?_
          refine zV_clr 5 (ls' := [_, _, _, _, _, _, _, _, _]) rfl ?_
          exact k33 _ _ _ hF (by omega) (by omega) (by first | exact gc0 | exact ⟨hnp.symm, by omega⟩ | (exfalso; omega)) (by first | (rw [z0.1]; rfl) | (rw [pgu, gc1, show v5 = κ 33 1 by omega])) (by first | (rw [z0.2]; rfl) | (rw [pgd, gc2, show v5 = κ 33 1 by omega])) (by omega) (by omega) (by omega) hb1 hb2 hA hB hgh (by omega)
        · refine zW_iconst (pc' := 55) dX4_compare_1.2.2.1.1 rfl ?_
          refine zW_istore (ls' := [_, _, _, _, _, _, _, _, _]) (pc' := 57) dX4_compare_1.2.2.1.2 (by decide) rfl rfl rfl ?_
          exact k57 _ _ _ _ _ hF (by omega) (by omega) (by omega) (by omega) (by omega) (by omega) gc0 (by first | (rw [sgu, k135.1, hy7, gc1]; exact Int.add_assoc _ _ _) | (rw [gc1]; exact (Int.add_zero _).symm)) (by first | (rw [sgd, ← max2_as, ← gc2, ← hy8, ← hd]; exact k135.2) | (rw [gc2]; exact (max2_0 (by have z1 := plM_n (t := dT F F') (w := (κ 33 0).toNat) (h := (κ 33 1).toNat) v4.toNat; have z2 := max2c (plM (dT F F') (κ 33 0).toNat (κ 33 1).toNat v4.toNat) (mxS (dT F F' v4) (κ 33 0).toNat v5.toNat); omega)).symm)) (by omega) (by omega) (by omega) hb1 hb2 hA hB hgh (by omega)
      · intro v3 v4 v5 v6 h hF g0 g1 g2 g3 g4 g5 gc0 gc1 gc2 gc3 gc4 gc5 hb1 hb2 hA hB hgh hm
        refine zW_iload (pc' := 59) dX4_compare_1.2.2.2.1 rfl rfl ?_
        refine zW_aload_n (pc' := 60) dX4_compare_1.2.2.2.2 rfl rfl ?_
        refine zG_ref (pc' := 63) 33 fg_X4_19 tb95 rfl dX4_compare_2.1.1.1.1 rfl ?_
        refine zG_key (pc' := 66) hF rfl fg_X4_36 tb33 rfl dX4_compare_2.1.1.1.2 rfl ?_
        refine zV_cm_ge (tgt := 144) (pc' := 69) dX4_compare_2.1.1.2.1 rfl rfl ⟨by omega, by omega⟩ ⟨by omega, by omega⟩ (fun c66 => ?_) (fun c66 => ?_)
        · have ugu := sumS_s (t := uT F F' v4) (w := (κ 33 0).toNat) (v := v5) (by omega)
          have ugd := mxS_s (t := dT F F' v4) (w := (κ 33 0).toNat) (v := v5) (by omega)
          refine zW_iinc (ls' := [_, _, _, _, _, _, _, _, _]) (pc' := 147) dX4_compare_4.2.1.2.1 rfl (by decide) rfl rfl rfl ?_
          refine zV_goto 42 dX4_compare_4.2.1.2.2 rfl ?_
          refine zV_clr 6 (ls' := [_, _, _, _, _, _, _, _, _]) rfl ?_
          exact k42 _ _ _ _ hF (by omega) (by omega) (by omega) (by omega) gc0 (by first | (rw [ugu, gc1, show v6 = κ 33 0 by omega]; exact Int.add_assoc _ _ _) | (rw [gc1]; exact (Int.add_zero _).symm)) (by first | (rw [ugd, gc2, show v6 = κ 33 0 by omega]; exact max2_as) | (rw [gc2]; exact (max2_0 (plM_n _)).symm)) (by omega) (by omega) (by omega) hb1 hb2 hA hB hgh (by omega)
        · have sgu := sumR_s (t := uT F F' v4) (y := v5) (v := v6) (by omega)
          have sgd := mxR_s (t := dT F F' v4) (y := v5) (v := v6) (by omega)
          obtain ⟨y7, hy7⟩ : ∃ z : Int, z = h 95 7 := ⟨_, rfl⟩
          obtain ⟨y8, hy8⟩ : ∃ z : Int, z = h 95 8 := ⟨_, rfl⟩
          refine zW_iload (pc' := 71) dX4_compare_2.1.1.2.2 rfl rfl ?_
          refine zW_sipush (pc' := 74) dX4_compare_2.1.2.1.1 rfl rfl ?_
          refine zW_imul (pc' := 75) dX4_compare_2.1.2.1.2 rfl ?_
          refine zW_iload (pc' := 77) dX4_compare_2.1.2.2.1 rfl rfl ?_
          refine zW_bipush (pc' := 79) dX4_compare_2.1.2.2.2 rfl rfl ?_
          refine zW_imul (pc' := 80) dX4_compare_2.2.1.1.1 rfl ?_
          refine zW_iadd (pc' := 81) dX4_compare_2.2.1.1.2 rfl ?_
          refine zW_iload (pc' := 83) dX4_compare_2.2.1.2.1 rfl rfl ?_
          refine zW_iadd (pc' := 84) dX4_compare_2.2.1.2.2 rfl ?_
          refine zW_istore (ls' := [_, _, _, _, _, _, _, _, _]) (pc' := 86) dX4_compare_2.2.2.1.1 (by decide) rfl rfl rfl ?_
          refine zW_aload_n (pc' := 87) dX4_compare_2.2.2.1.2 rfl rfl ?_
          refine zG_lev (pc' := 90) (by omega) (by omega) fg_X4_94 dX4_compare_2.2.2.2.1 rfl ?_
          refine zW_iload (pc' := 92) dX4_compare_2.2.2.2.2 rfl rfl ?_
          refine zV_iald (pc' := 93) (tabL (by omega) (by omega)) (by omega) dX4_compare_3.1.1.1.1 (by decide) rfl ?_
          have q92 := (hA v4 (by omega) (by omega)).at (i := v4 * 256 + v5 * 16 + v6) (x := v6) (y := v5) ⟨by omega, by omega, by omega, by omega⟩ (by omega)
          have b92 := hbA v4 (by omega) v6 v5 ⟨by omega, by omega, by omega, by omega⟩
          rw [← q92] at b92
          refine zW_aload_n (pc' := 94) dX4_compare_3.1.1.1.2 rfl rfl ?_
          refine zG_lev (pc' := 97) (by omega) (by omega) fg_X4_94 dX4_compare_3.1.1.2.1 rfl ?_
          refine zW_iload (pc' := 99) dX4_compare_3.1.1.2.2 rfl rfl ?_
          refine zV_iald (pc' := 100) (tabL (by omega) (by omega)) (by omega) dX4_compare_3.1.2.1.1 (by decide) rfl ?_
          have q99 := (hB v4 (by omega) (by omega)).at (i := v4 * 256 + v5 * 16 + v6) (x := v6) (y := v5) ⟨by omega, by omega, by omega, by omega⟩ (by omega)
          have b99 := hbB v4 (by omega) v6 v5 ⟨by omega, by omega, by omega, by omega⟩
          rw [← q99] at b99
          refine zW_isub (pc' := 101) dX4_compare_3.1.2.1.2 rfl ?_
          refine zV_mabs (pc' := 104) km_X4_79 (Nat.le_of_ble_eq_true rfl) (Nat.le_of_ble_eq_true rfl) dX4_compare_3.1.2.2.1 rfl (fun v101 e101 => ?_)
          replace e101 := e101.2 ⟨by omega, by omega⟩ (by omega)
          have hd : v101 = dT F F' v4 v6 v5 := by (have z := abc (h (s1 + 15) (v4 * 256 + v5 * 16 + v6).toNat - h (s2 + 15) (v4 * 256 + v5 * 16 + v6).toNat); unfold dT; rw [← q92, ← q99]; omega)
          have hdb : 0 ≤ v101 ∧ v101 ≤ 4095 := by omega
          have hu : uT F F' v4 v6 v5 = (if v101 = 0 then 0 else 1) := by (unfold uT; rw [← q92, ← q99]; by_cases q : h (s1 + 15) (v4 * 256 + v5 * 16 + v6).toNat = h (s2 + 15) (v4 * 256 + v5 * 16 + v6).toNat; (rw [if_pos q, if_pos (by omega)]); (rw [if_neg q, if_neg (by omega)]))
          refine zW_istore (ls' := [_, _, _, _, _, _, _, _, _]) (pc' := 106) dX4_compare_3.1.2.2.2 (by decide) rfl rfl rfl ?_
          refine zW_aload_n (pc' := 107) dX4_compare_3.2.1.1.1 rfl rfl ?_
          refine zW_dup (pc' := 108) dX4_compare_3.2.1.1.2 rfl rfl ?_
          refine zG_int (pc' := 111) fg_X4_136 tb95 rfl dX4_compare_3.2.1.2.1 rfl ?_
          refine zW_iload (pc' := 113) dX4_compare_3.2.1.2.2 rfl rfl ?_
          refine zV_if_le (tgt := 120) (pc' := 116) dX4_compare_3.2.2.1.1 rfl rfl ⟨by omega, by omega⟩ (fun c113 => ?_) (fun c113 => ?_)
          · refine zW_iconst (pc' := 121) dX4_compare_3.2.2.2.2 rfl ?_
            refine zW_iadd (pc' := 122) dX4_compare_4.1.1.1.1 rfl ?_
            refine zP_scf (pc' := 125) hF rfl fp_X4_136 tb95 rfl dX4_compare_4.1.1.1.2 rfl (fun h i122 hF a122 b122 w122 => ?_)
            replace b122 := b122 ⟨by omega, by omega⟩
            replace hgh : Fw [] [(95, 7), (95, 8)] gh0 h := by rw [w122]; exact hgh.wf (by simp)
            replace hb1 : h s1 1 = fl := by have q0_ := (congrFun w122 s1).trans (zfun (by omega)); rw [q0_]; exact hb1
            replace hb2 : h s2 1 = fl := by have q0_ := (congrFun w122 s2).trans (zfun (by omega)); rw [q0_]; exact hb2
            replace hA : ∀ c : Int, 0 ≤ c → c < ((npF fl : Nat) : Int) → PlS (κ 33 0) (κ 33 1) (h (s1 + 15)) c (F c) := by have q0_ := (congrFun w122 (s1 + 15)).trans (zfun (by omega)); rw [q0_]; exact hA
            replace hB : ∀ c : Int, 0 ≤ c → c < ((npF fl : Nat) : Int) → PlS (κ 33 0) (κ 33 1) (h (s2 + 15)) c (F' c) := by have q0_ := (congrFun w122 (s2 + 15)).trans (zfun (by omega)); rw [q0_]; exact hB
            first | rw [if_pos (by omega)] at hu | rw [if_neg (by omega)] at hu
            have k122 : h 95 7 = y7 + uT F F' v4 v6 v5 ∧ h 95 8 = y8 := by rw [w122, b122]; exact ⟨zwr_eq.trans (by rw [hu, hy7]), (zwr_ne (Or.inr (by decide))).trans hy8.symm⟩
            refine zW_aload_n (pc' := 126) dX4_compare_4.1.1.2.1 rfl rfl ?_
            refine zW_aload_n (pc' := 127) dX4_compare_4.1.1.2.2 rfl rfl ?_
            refine zG_int (pc' := 130) fg_X4_139 tb95 rfl dX4_compare_4.1.2.1.1 rfl ?_
            refine zW_iload (pc' := 132) dX4_compare_4.1.2.1.2 rfl rfl ?_
            refine zV_mmax (pc' := 135) km_X4_57 (Nat.le_of_ble_eq_true rfl) (Nat.le_of_ble_eq_true rfl) dX4_compare_4.1.2.2.1 rfl (fun v132 e132 => ?_)
            replace e132 := e132.2 ⟨by omega, by omega⟩ ⟨by omega, by omega⟩
            refine zP_scf (pc' := 138) hF rfl fp_X4_139 tb95 rfl dX4_compare_4.1.2.2.2 rfl (fun h i135 hF a135 b135 w135 => ?_)
            replace b135 := b135 ⟨by omega, by omega⟩
            replace hgh : Fw [] [(95, 7), (95, 8)] gh0 h := by rw [w135]; exact hgh.wf (by simp)
            replace hb1 : h s1 1 = fl := by have q0_ := (congrFun w135 s1).trans (zfun (by omega)); rw [q0_]; exact hb1
            replace hb2 : h s2 1 = fl := by have q0_ := (congrFun w135 s2).trans (zfun (by omega)); rw [q0_]; exact hb2
            replace hA : ∀ c : Int, 0 ≤ c → c < ((npF fl : Nat) : Int) → PlS (κ 33 0) (κ 33 1) (h (s1 + 15)) c (F c) := by have q0_ := (congrFun w135 (s1 + 15)).trans (zfun (by omega)); rw [q0_]; exact hA
            replace hB : ∀ c : Int, 0 ≤ c → c < ((npF fl : Nat) : Int) → PlS (κ 33 0) (κ 33 1) (h (s2 + 15)) c (F' c) := by have q0_ := (congrFun w135 (s2 + 15)).trans (zfun (by omega)); rw [q0_]; exact hB
            have k135 : h 95 7 = y7 + uT F F' v4 v6 v5 ∧ h 95 8 = max2 y8 v101 := by (rw [w135, b135]; exact ⟨(zwr_ne (Or.inr (by decide))).trans k122.1, zwr_eq.trans (by have z := max2c y8 v101; have z2 := k122.2; omega)⟩)
            have hm3 := max2c y8 v101
            refine zW_iinc (ls' := [_, _, _, _, _, _, _, _, _]) (pc' := 141) dX4_compare_4.2.1.1.1 rfl (by decide) rfl rfl rfl ?_
            refine zV_goto 57 dX4_compare_4.2.1.1.2 rfl ?_
            refine zV_clr 7 (ls' := [_, _, _, _, _, _, _, _, _]) rfl ?_
            refine zV_clr 8 (ls' := [_, _, _, _, _, _, _, _, _]) rfl ?_
            exact k57 _ _ _ _ _ hF (by omega) (by omega) (by omega) (by omega) (by omega) (by omega) gc0 (by first | (rw [sgu, k135.1, hy7, gc1]; exact Int.add_assoc _ _ _) | (rw [gc1]; exact (Int.add_zero _).symm)) (by first | (rw [sgd, ← max2_as, ← gc2, ← hy8, ← hd]; exact k135.2) | (rw [gc2]; exact (max2_0 (by have z1 := plM_n (t := dT F F') (w := (κ 33 0).toNat) (h := (κ 33 1).toNat) v4.toNat; have z2 := max2c (plM (dT F F') (κ 33 0).toNat (κ 33 1).toNat v4.toNat) (mxS (dT F F' v4) (κ 33 0).toNat v5.toNat); omega)).symm)) (by omega) (by omega) (by omega) hb1 hb2 hA hB hgh (by omega)
          · refine zW_iconst (pc' := 117) dX4_compare_3.2.2.1.2 rfl ?_
            refine zV_goto 121 dX4_compare_3.2.2.2.1 rfl ?_
            refine zW_iadd (pc' := 122) dX4_compare_4.1.1.1.1 rfl ?_
            refine zP_scf (pc' := 125) hF rfl fp_X4_136 tb95 rfl dX4_compare_4.1.1.1.2 rfl (fun h i122 hF a122 b122 w122 => ?_)
            replace b122 := b122 ⟨by omega, by omega⟩
            replace hgh : Fw [] [(95, 7), (95, 8)] gh0 h := by rw [w122]; exact hgh.wf (by simp)
            replace hb1 : h s1 1 = fl := by have q0_ := (congrFun w122 s1).trans (zfun (by omega)); rw [q0_]; exact hb1
            replace hb2 : h s2 1 = fl := by have q0_ := (congrFun w122 s2).trans (zfun (by omega)); rw [q0_]; exact hb2
            replace hA : ∀ c : Int, 0 ≤ c → c < ((npF fl : Nat) : Int) → PlS (κ 33 0) (κ 33 1) (h (s1 + 15)) c (F c) := by have q0_ := (congrFun w122 (s1 + 15)).trans (zfun (by omega)); rw [q0_]; exact hA
            replace hB : ∀ c : Int, 0 ≤ c → c < ((npF fl : Nat) : Int) → PlS (κ 33 0) (κ 33 1) (h (s2 + 15)) c (F' c) := by have q0_ := (congrFun w122 (s2 + 15)).trans (zfun (by omega)); rw [q0_]; exact hB
            first | rw [if_pos (by omega)] at hu | rw [if_neg (by omega)] at hu
            have k122 : h 95 7 = y7 + uT F F' v4 v6 v5 ∧ h 95 8 = y8 := by rw [w122, b122]; exact ⟨zwr_eq.trans (by rw [hu, hy7]), (zwr_ne (Or.inr (by decide))).trans hy8.symm⟩
            refine zW_aload_n (pc' := 126) dX4_compare_4.1.1.2.1 rfl rfl ?_
            refine zW_aload_n (pc' := 127) dX4_compare_4.1.1.2.2 rfl rfl ?_
            refine zG_int (pc' := 130) fg_X4_139 tb95 rfl dX4_compare_4.1.2.1.1 rfl ?_
            refine zW_iload (pc' := 132) dX4_compare_4.1.2.1.2 rfl rfl ?_
            refine zV_mmax (pc' := 135) km_X4_57 (Nat.le_of_ble_eq_true rfl) (Nat.le_of_ble_eq_true rfl) dX4_compare_4.1.2.2.1 rfl (fun v132 e132 => ?_)
            replace e132 := e132.2 ⟨by omega, by omega⟩ ⟨by omega, by omega⟩
            refine zP_scf (pc' := 138) hF rfl fp_X4_139 tb95 rfl dX4_compare_4.1.2.2.2 rfl (fun h i135 hF a135 b135 w135 => ?_)
            replace b135 := b135 ⟨by omega, by omega⟩
            replace hgh : Fw [] [(95, 7), (95, 8)] gh0 h := by rw [w135]; exact hgh.wf (by simp)
            replace hb1 : h s1 1 = fl := by have q0_ := (congrFun w135 s1).trans (zfun (by omega)); rw [q0_]; exact hb1
            replace hb2 : h s2 1 = fl := by have q0_ := (congrFun w135 s2).trans (zfun (by omega)); rw [q0_]; exact hb2
            replace hA : ∀ c : Int, 0 ≤ c → c < ((npF fl : Nat) : Int) → PlS (κ 33 0) (κ 33 1) (h (s1 + 15)) c (F c) := by have q0_ := (congrFun w135 (s1 + 15)).trans (zfun (by omega)); rw [q0_]; exact hA
            replace hB : ∀ c : Int, 0 ≤ c → c < ((npF fl : Nat) : Int) → PlS (κ 33 0) (κ 33 1) (h (s2 + 15)) c (F' c) := by have q0_ := (congrFun w135 (s2 + 15)).trans (zfun (by omega)); rw [q0_]; exact hB
            have k135 : h 95 7 = y7 + uT F F' v4 v6 v5 ∧ h 95 8 = max2 y8 v101 := by (rw [w135, b135]; exact ⟨(zwr_ne (Or.inr (by decide))).trans k122.1, zwr_eq.trans (by have z := max2c y8 v101; have z2 := k122.2; omega)⟩)
            have hm3 := max2c y8 v101
            refine zW_iinc (ls' := [_, _, _, _, _, _, _, _, _]) (pc' := 141) dX4_compare_4.2.1.1.1 rfl (by decide) rfl rfl rfl ?_
            refine zV_goto 57 dX4_compare_4.2.1.1.2 rfl ?_
            refine zV_clr 7 (ls' := [_, _, _, _, _, _, _, _, _]) rfl ?_
            refine zV_clr 8 (ls' := [_, _, _, _, _, _, _, _, _]) rfl ?_
            exact k57 _ _ _ _ _ hF (by omega) (by omega) (by omega) (by omega) (by omega) (by omega) gc0 (by first | (rw [sgu, k135.1, hy7, gc1]; exact Int.add_assoc _ _ _) | (rw [gc1]; exact (Int.add_zero _).symm)) (by first | (rw [sgd, ← max2_as, ← gc2, ← hy8, ← hd]; exact k135.2) | (rw [gc2]; exact (max2_0 (by have z1 := plM_n (t := dT F F') (w := (κ 33 0).toNat) (h := (κ 33 1).toNat) v4.toNat; have z2 := max2c (plM (dT F F') (κ 33 0).toNat (κ 33 1).toNat v4.toNat) (mxS (dT F F' v4) (κ 33 0).toNat v5.toNat); omega)).symm)) (by omega) (by omega) (by omega) hb1 hb2 hA hB hgh (by omega)
  refine zM_of [some (.inr (.inr 95)), some (.inr (.inr s1)), some (.inr (.inr s2)), none, none, none, none, none, none] 6 rfl rfl (Nat.le_of_ble_eq_true rfl) rfl ?_
  refine zW_aload_n (pc' := 1) dX4_compare_0.1.1.1.1 rfl rfl ?_
  refine zW_iconst (pc' := 2) dX4_compare_0.1.1.1.2 rfl ?_
  refine zP_scf (pc' := 5) hF rfl fp_X4_136 tb95 rfl dX4_compare_0.1.1.2.1 rfl (fun h i2 hF a2 b2 w2 => ?_)
  replace b2 := b2 ⟨by omega, by omega⟩
  replace hgh : Fw [] [(95, 7), (95, 8)] gh0 h := by rw [w2]; exact hgh.wf (by simp)
  replace hb1 : h s1 1 = fl := by have q0_ := (congrFun w2 s1).trans (zfun (by omega)); rw [q0_]; exact hb1
  replace hb2 : h s2 1 = fl := by have q0_ := (congrFun w2 s2).trans (zfun (by omega)); rw [q0_]; exact hb2
  replace hA : ∀ c : Int, 0 ≤ c → c < ((npF fl : Nat) : Int) → PlS (κ 33 0) (κ 33 1) (h (s1 + 15)) c (F c) := by have q0_ := (congrFun w2 (s1 + 15)).trans (zfun (by omega)); rw [q0_]; exact hA
  replace hB : ∀ c : Int, 0 ≤ c → c < ((npF fl : Nat) : Int) → PlS (κ 33 0) (κ 33 1) (h (s2 + 15)) c (F' c) := by have q0_ := (congrFun w2 (s2 + 15)).trans (zfun (by omega)); rw [q0_]; exact hB
  refine zW_aload_n (pc' := 6) dX4_compare_0.1.1.2.2 rfl rfl ?_
  refine zW_iconst (pc' := 7) dX4_compare_0.1.2.1.1 rfl ?_
  refine zP_scf (pc' := 10) hF rfl fp_X4_139 tb95 rfl dX4_compare_0.1.2.1.2 rfl (fun h i7 hF a7 b7 w7 => ?_)
  replace b7 := b7 ⟨by omega, by omega⟩
  replace hgh : Fw [] [(95, 7), (95, 8)] gh0 h := by rw [w7]; exact hgh.wf (by simp)
  replace hb1 : h s1 1 = fl := by have q0_ := (congrFun w7 s1).trans (zfun (by omega)); rw [q0_]; exact hb1
  replace hb2 : h s2 1 = fl := by have q0_ := (congrFun w7 s2).trans (zfun (by omega)); rw [q0_]; exact hb2
  replace hA : ∀ c : Int, 0 ≤ c → c < ((npF fl : Nat) : Int) → PlS (κ 33 0) (κ 33 1) (h (s1 + 15)) c (F c) := by have q0_ := (congrFun w7 (s1 + 15)).trans (zfun (by omega)); rw [q0_]; exact hA
  replace hB : ∀ c : Int, 0 ≤ c → c < ((npF fl : Nat) : Int) → PlS (κ 33 0) (κ 33 1) (h (s2 + 15)) c (F' c) := by have q0_ := (congrFun w7 (s2 + 15)).trans (zfun (by omega)); rw [q0_]; exact hB
  have z0 : h 95 7 = 0 ∧ h 95 8 = 0 := by rw [w7, b7, w2, b2]; exact ⟨(zwr_ne (Or.inr (by decide))).trans zwr_eq, zwr_eq⟩
  refine zW_aload_n (pc' := 11) dX4_compare_0.1.2.2.1 rfl rfl ?_
  refine zG_ful (pc' := 14) (by omega) (by omega) fg_X4_142 dX4_compare_0.1.2.2.2 rfl ?_
  have e11_ := hb1
  refine zV_if_eq (tgt := 28) (pc' := 17) dX4_compare_0.2.1.1.1 rfl rfl ⟨by omega, by omega⟩ (fun c14 => ?_) (fun c14 => ?_)
  · refine zW_iconst (pc' := 29) dX4_compare_0.2.2.2.1 rfl ?_
    have hnp : ((npF fl : Nat) : Int) = (if fl = 1 then 3 else 1) := by (unfold npF; by_cases q : fl = 1; (rw [if_pos q, if_pos q]; rfl); (rw [if_neg q, if_neg q]; rfl))
    first | rw [if_pos (by omega)] at hnp | rw [if_neg (by omega)] at hnp
    refine zW_istore_n (ls' := [_, _, _, _, _, _, _, _, _]) (pc' := 30) dX4_compare_0.2.2.2.2 (by decide) rfl rfl rfl ?_
    refine zW_iconst (pc' := 31) dX4_compare_1.1.1.1.1 rfl ?_
    refine zW_istore (ls' := [_, _, _, _, _, _, _, _, _]) (pc' := 33) dX4_compare_1.1.1.1.2 (by decide) rfl rfl rfl ?_
    exact (main 10000000000000000000000000000000000000000).1 _ _ _ hF (by omega) (by omega) (by first | exact gc0 | exact ⟨hnp.symm, by omega⟩ | (exfalso; omega)) (by first | (rw [z0.1]; rfl) | (rw [pgu, gc1, show v5 = κ 33 1 by omega])) (by first | (rw [z0.2]; rfl) | (rw [pgd, gc2, show v5 = κ 33 1 by omega])) (by omega) (by omega) (by omega) hb1 hb2 hA hB hgh (by omega)
  · refine zW_aload_n (pc' := 18) dX4_compare_0.2.1.1.2 rfl rfl ?_
    refine zG_ful (pc' := 21) (by omega) (by omega) fg_X4_142 dX4_compare_0.2.1.2.1 rfl ?_
    have e18_ := hb2
    refine zV_if_eq (tgt := 28) (pc' := 24) dX4_compare_0.2.1.2.2 rfl rfl ⟨by omega, by omega⟩ (fun c21 => ?_) (fun c21 => ?_)
    · refine zW_iconst (pc' := 29) dX4_compare_0.2.2.2.1 rfl ?_
      have hnp : ((npF fl : Nat) : Int) = (if fl = 1 then 3 else 1) := by (unfold npF; by_cases q : fl = 1; (rw [if_pos q, if_pos q]; rfl); (rw [if_neg q, if_neg q]; rfl))
      first | rw [if_pos (by omega)] at hnp | rw [if_neg (by omega)] at hnp
      refine zW_istore_n (ls' := [_, _, _, _, _, _, _, _, _]) (pc' := 30) dX4_compare_0.2.2.2.2 (by decide) rfl rfl rfl ?_
      refine zW_iconst (pc' := 31) dX4_compare_1.1.1.1.1 rfl ?_
      refine zW_istore (ls' := [_, _, _, _, _, _, _, _, _]) (pc' := 33) dX4_compare_1.1.1.1.2 (by decide) rfl rfl rfl ?_
      exact (main 10000000000000000000000000000000000000000).1 _ _ _ hF (by omega) (by omega) (by first | exact gc0 | exact ⟨hnp.symm, by omega⟩ | (exfalso; omega)) (by first | (rw [z0.1]; rfl) | (rw [pgu, gc1, show v5 = κ 33 1 by omega])) (by first | (rw [z0.2]; rfl) | (rw [pgd, gc2, show v5 = κ 33 1 by omega])) (by omega) (by omega) (by omega) hb1 hb2 hA hB hgh (by omega)
    · refine zW_iconst (pc' := 25) dX4_compare_0.2.2.1.1 rfl ?_
      refine zV_goto 29 dX4_compare_0.2.2.1.2 rfl ?_
      have hnp : ((npF fl : Nat) : Int) = (if fl = 1 then 3 else 1) := by (unfold npF; by_cases q : fl = 1; (rw [if_pos q, if_pos q]; rfl); (rw [if_neg q, if_neg q]; rfl))
      first | rw [if_pos (by omega)] at hnp | rw [if_neg (by omega)] at hnp
      refine zW_istore_n (ls' := [_, _, _, _, _, _, _, _, _]) (pc' := 30) dX4_compare_0.2.2.2.2 (by decide) rfl rfl rfl ?_
      refine zW_iconst (pc' := 31) dX4_compare_1.1.1.1.1 rfl ?_
      refine zW_istore (ls' := [_, _, _, _, _, _, _, _, _]) (pc' := 33) dX4_compare_1.1.1.1.2 (by decide) rfl rfl rfl ?_
      exact (main 10000000000000000000000000000000000000000).1 _ _ _ hF (by omega) (by omega) (by first | exact gc0 | exact ⟨hnp.symm, by omega⟩ | (exfalso; omega)) (by first | (rw [z0.1]; rfl) | (rw [pgu, gc1, show v5 = κ 33 1 by omega])) (by first | (rw [z0.2]; rfl) | (rw [pgd, gc2, show v5 = κ 33 1 by omega])) (by omega) (by omega) (by omega) hb1 hb2 hA hB hgh (by omega)

abbrev q_X1_sheetOfMT (b : Bd) (κ : Hp) (x1 : Int) (gh0 : Hp) : Int → Hp → Prop := fun r h' => Fr b κ h' ∧ ((56 ≤ r) ∧ (r ≤ 70) ∧ (FdC gh0 h' ∧ (h' 54 7 ≤ κ 41 0 ∧ ShW κ h' (h' 54 7)) ∧ (0 ≤ x1 → x1 ≤ κ 41 0 → r = 56 + x1 ∧ x1 ≤ h' 54 7) ∧ gh0 54 7 ≤ h' 54 7))
set_option maxHeartbeats 4000000 in
set_option maxRecDepth 20000 in
theorem s_X1_sheetOfMT {G : Ga} {b : Bd} {κ h : Hp} (hK : KC κ) (hF : Fr b κ h) (x1 : Int) (hx1 : rng x1) (gh0 : Hp) (hT : ∀ c : Nat, 56 ≤ c → c ≤ 85 → OkL b c) (hmd : ∀ (h : Hp) (v : Int), b.I h → b.I (zwr h 54 7 v)) (hRc : RecW κ) (hV : VOK (κ 34)) (hE : EaOK (LC κ) (κ 41 0)) (hfd : FdC gh0 h) (hP : h 54 7 ≤ κ 41 0 ∧ ShW κ h (h 54 7)) (hg5 : gh0 54 7 ≤ h 54 7) : zM G mX1_sheetOf yX1_sheetOf [.inr (.inr 54), .inl x1] h (q_X1_sheetOfMT b κ x1 gh0) := by
  have f_41_0 := KCm hK
  unfold rng at hx1
  have main : ∀ N : Nat, (∀ (v2 v3 : Int) (h : Hp), Fr b κ h → (0 ≤ v2 ∧ v2 ≤ 12) → (1 ≤ v3 ∧ v3 ≤ 13) → (FdC gh0 h) → (ShW κ h (v3 - 1)) → (h 54 7 = v3 - 1 ∧ v3 - 1 ≤ κ 41 0) → (0 ≤ v2 ∧ v2 ≤ κ 41 0) → (0 ≤ x1 → x1 ≤ κ 41 0 → v2 = x1) → (gh0 54 7 ≤ v3 - 1) → 14784 + 33 * (13 - v3) + 32 < (N : Int) → zV G mX1_sheetOf (q_X1_sheetOfMT b κ x1 gh0) 48 [some (.inr (.inr 54)), some (.inl x1), some (.inl v2), some (.inl v3)] [] h) := by
    intro N
    induction N with
    | zero =>
      intro v2 v3 h hF g0 g1 gc0 gc1 gc2 gc3 gc4 gc5 hm
      exfalso; omega
    | succ N ih =>
      have k48 := ih
      intro v2 v3 h hF g0 g1 gc0 gc1 gc2 gc3 gc4 gc5 hm
      refine zW_iload_n (pc' := 49) dX1_sheetOf_1.2.1.2.1 rfl rfl ?_
      refine zW_iload_n (pc' := 50) dX1_sheetOf_1.2.1.2.2 rfl rfl ?_
      refine zV_cm_gt (tgt := 92) (pc' := 53) dX1_sheetOf_1.2.2.1.1 rfl rfl ⟨by omega, by omega⟩ ⟨by omega, by omega⟩ (fun c50 => ?_) (fun c50 => ?_)
      · refine zW_aload_n (pc' := 93) dX1_sheetOf_3.1.2.2 rfl rfl ?_
        refine zG_ref (pc' := 96) 55 fg_X1_11 tb54 rfl dX1_sheetOf_3.2.1.1 rfl ?_
        refine zW_iload_n (pc' := 97) dX1_sheetOf_3.2.1.2 rfl rfl ?_
        refine zV_aalS (pc' := 98) (by omega) dX1_sheetOf_3.2.2.1 rfl (fun q97 z97 => ?_)
        exact zV_aret rfl dX1_sheetOf_3.2.2.2 ⟨hF, (by refine ⟨by omega, by omega, gc0, ⟨by omega, by rw [gc2.1]; exact gc1⟩, fun a c => ⟨by omega, by omega⟩, by omega⟩)⟩
      · have hxb : ∀ j : Nat, 0 ≤ XNc κ (v3 - 1).toNat j ∧ XNc κ (v3 - 1).toNat j ≤ 255 := (hRc (v3 - 1).toNat (by omega)).2.2.1
        refine zW_aload_n (pc' := 54) dX1_sheetOf_1.2.2.1.2 rfl rfl ?_
        refine zW_iload_n (pc' := 55) dX1_sheetOf_1.2.2.2.1 rfl rfl ?_
        refine zW_aload_n (pc' := 56) dX1_sheetOf_1.2.2.2.2 rfl rfl ?_
        refine zG_ref (pc' := 59) 41 fg_X1_33 tb54 rfl dX1_sheetOf_2.1.1.1.1 rfl ?_
        refine zW_iload_n (pc' := 60) dX1_sheetOf_2.1.1.1.2 rfl rfl ?_
        refine zW_iconst (pc' := 61) dX1_sheetOf_2.1.1.2.1 rfl ?_
        refine cvI2 (pc' := 64) kX7_numberOf vX7_numberOf lk_X1_70 ⟨Nat.le_of_ble_eq_true rfl, Nat.le_of_ble_eq_true rfl⟩ tb41 vq7 rfl rfl (s_X7_numberOfW hK hF _ ⟨by omega, by omega, by omega⟩ _ ⟨by omega, by omega⟩ hxb) dX1_sheetOf_2.1.1.2.2 (Nat.le_of_ble_eq_true rfl) rfl ?_
        rintro r61 z61 ⟨hz61, p61⟩; subst z61
        refine zW_aload_n (pc' := 65) dX1_sheetOf_2.1.2.1.1 rfl rfl ?_
        refine zG_ref (pc' := 68) 55 fg_X1_11 tb54 rfl dX1_sheetOf_2.1.2.1.2 rfl ?_
        refine zW_iload_n (pc' := 69) dX1_sheetOf_2.1.2.2.1 rfl rfl ?_
        refine zW_iconst (pc' := 70) dX1_sheetOf_2.1.2.2.2 rfl ?_
        refine zW_isub (pc' := 71) dX1_sheetOf_2.2.1.1.1 rfl ?_
        refine zV_aalS (pc' := 72) (by omega) dX1_sheetOf_2.2.1.1.2 rfl (fun q71 z71 => ?_)
        refine zW_aload_n (pc' := 73) dX1_sheetOf_2.2.1.2.1 rfl rfl ?_
        refine zG_ref (pc' := 76) 55 fg_X1_11 tb54 rfl dX1_sheetOf_2.2.1.2.2 rfl ?_
        refine zW_iload_n (pc' := 77) dX1_sheetOf_2.2.2.1.1 rfl rfl ?_
        refine zV_aalS (pc' := 78) (by omega) dX1_sheetOf_2.2.2.1.2 rfl (fun q77 z77 => ?_)
        refine cvV4 (pc' := 81) kX1_apply vX1_apply lk_X1_73 ⟨Nat.le_of_ble_eq_true rfl, Nat.le_of_ble_eq_true rfl⟩ tb54 vq1 rfl rfl (s_X1_applyX hK hF _ ⟨by omega, by omega, by omega⟩ _ ⟨by omega, by omega⟩ _ ⟨by omega, by omega⟩ _ ⟨by omega, by omega⟩ gh0 (v3 - 1) (by omega) (by omega) hT hRc hV hE p61.2.2 gc0 gc2.1 gc1) dX1_sheetOf_2.2.2.2.1 (Nat.le_of_ble_eq_true rfl) rfl ?_
        rintro r78 h ⟨hF, p78⟩
        have hap := p78
        refine zW_aload_n (pc' := 82) dX1_sheetOf_2.2.2.2.2 rfl rfl ?_
        refine zW_iload_n (pc' := 83) dX1_sheetOf_3.1.1.1.1 rfl rfl ?_
        refine zX_int (pc' := 86) (hF.p54 ⟨by omega, by omega⟩ (hmd _ _ hF.inv)) fp_X1_25 tb54 rfl dX1_sheetOf_3.1.1.1.2 rfl (fun h hF w83 => ?_)
        have hs2 : ShW κ h v3 := by rw [w83]; exact hap.2.2.w54 (by omega)
        have hfd2 : FdC gh0 h := by rw [w83]; exact hap.1.w54
        have hm2 : h 54 7 = v3 := by rw [w83]; exact zwr_eq
        refine zW_iinc (ls' := [_, _, _, _]) (pc' := 89) dX1_sheetOf_3.1.1.2 rfl (by decide) rfl rfl rfl ?_
        refine zV_goto 48 dX1_sheetOf_3.1.2.1 rfl ?_
        exact k48 _ _ _ hF (by omega) (by omega) (by first | exact hfd2 | (rw [w38]; exact hfd0.w54) | exact hfd) (by first | (rw [show v3 + 1 - 1 = v3 by omega]; exact hs2) | (rw [w38, zwr_eq, show (0 : Int) + 1 - 1 = 0 by decide]; exact hs0.w54 (by omega)) | (rw [show h 54 7 + 1 - 1 = h 54 7 by omega]; exact hP.2)) (by first | omega | (rw [w38, zwr_eq]; omega)) (by omega) (by omega) (by omega) (by omega)
  refine zM_of [some (.inr (.inr 54)), some (.inl x1), none, none] 2 rfl rfl (Nat.le_of_ble_eq_true rfl) rfl ?_
  refine zW_iconst (pc' := 1) dX1_sheetOf_0.1.1.1.1 rfl ?_
  refine zW_aload_n (pc' := 2) dX1_sheetOf_0.1.1.1.2 rfl rfl ?_
  refine zG_ref (pc' := 5) 41 fg_X1_33 tb54 rfl dX1_sheetOf_0.1.1.2.1 rfl ?_
  refine zG_key (pc' := 8) hF rfl fg_X1_53 tb41 rfl dX1_sheetOf_0.1.1.2.2 rfl ?_
  refine zW_iload_n (pc' := 9) dX1_sheetOf_0.1.2.1.1 rfl rfl ?_
  refine zV_mmin (pc' := 12) km_X1_58 (Nat.le_of_ble_eq_true rfl) (Nat.le_of_ble_eq_true rfl) dX1_sheetOf_0.1.2.1.2 rfl (fun v9 e9 => ?_)
  replace e9 := e9.2 ⟨by omega, by omega⟩ ⟨by omega, by omega⟩
  refine zV_mmax (pc' := 15) km_X1_64 (Nat.le_of_ble_eq_true rfl) (Nat.le_of_ble_eq_true rfl) dX1_sheetOf_0.1.2.2.1 rfl (fun v12 e12 => ?_)
  replace e12 := e12.2 ⟨by omega, by omega⟩ ⟨by omega, by omega⟩
  refine zW_istore_n (ls' := [_, _, _, _]) (pc' := 16) dX1_sheetOf_0.1.2.2.2 (by decide) rfl rfl rfl ?_
  refine zW_aload_n (pc' := 17) dX1_sheetOf_0.2.1.1.1 rfl rfl ?_
  refine zG_int (pc' := 20) fg_X1_25 tb54 rfl dX1_sheetOf_0.2.1.1.2 rfl ?_
  have e17 := hF.2.2.2.1
  refine zV_if_ge (tgt := 41) (pc' := 23) dX1_sheetOf_0.2.1.2.1 rfl rfl ⟨by omega, by omega⟩ (fun c20 => ?_) (fun c20 => ?_)
  · have hx54 : 0 ≤ h 54 7 := by first | omega | (rw [w38, zwr_eq]; omega)
    refine zW_aload_n (pc' := 42) dX1_sheetOf_1.1.2.1.2 rfl rfl ?_
    refine zG_int (pc' := 45) fg_X1_25 tb54 rfl dX1_sheetOf_1.1.2.2.1 rfl ?_
    have e42 := hF.2.2.2.1
    refine zW_iconst (pc' := 46) dX1_sheetOf_1.1.2.2.2 rfl ?_
    refine zW_iadd (pc' := 47) dX1_sheetOf_1.2.1.1.1 rfl ?_
    refine zW_istore_n (ls' := [_, _, _, _]) (pc' := 48) dX1_sheetOf_1.2.1.1.2 (by decide) rfl rfl rfl ?_
    exact (main 10000000000000000000000000000000000000000) _ _ _ hF (by omega) (by omega) (by first | exact hfd2 | (rw [w38]; exact hfd0.w54) | exact hfd) (by first | (rw [show v3 + 1 - 1 = v3 by omega]; exact hs2) | (rw [w38, zwr_eq, show (0 : Int) + 1 - 1 = 0 by decide]; exact hs0.w54 (by omega)) | (rw [show h 54 7 + 1 - 1 = h 54 7 by omega]; exact hP.2)) (by first | omega | (rw [w38, zwr_eq]; omega)) (by omega) (by omega) (by omega) (by omega)
  · refine zW_aload_n (pc' := 24) dX1_sheetOf_0.2.1.2.2 rfl rfl ?_
    refine zG_ref (pc' := 27) 55 fg_X1_11 tb54 rfl dX1_sheetOf_0.2.2.1.1 rfl ?_
    refine zW_iconst (pc' := 28) dX1_sheetOf_0.2.2.1.2 rfl ?_
    refine zV_aalS (pc' := 29) (by omega) dX1_sheetOf_0.2.2.2.1 rfl (fun q28 z28 => ?_)
    refine zW_aload_n (pc' := 30) dX1_sheetOf_0.2.2.2.2 rfl rfl ?_
    refine zG_ref (pc' := 33) 33 fg_X1_29 tb54 rfl dX1_sheetOf_1.1.1.1.1 rfl ?_
    refine cvV1 (pc' := 36) kX8_layRaw vX8_layRaw lk_X1_67 ⟨Nat.le_of_ble_eq_true rfl, Nat.le_of_ble_eq_true rfl⟩ (tabS (by omega) (by omega)) vq8 rfl rfl (s_X8_layRawZ hK hF _ ⟨by omega, by omega⟩ h (hT _ (by omega) (by omega)) (hT _ (by omega) (by omega)) hV Fw.rf) dX1_sheetOf_1.1.1.1.2 (Nat.le_of_ble_eq_true rfl) rfl ?_
    rintro r33 h ⟨hF, d33, p33⟩
    have hs0 : ShW κ h 0 := ShW_0 (by omega) p33.1 p33.2
    have hfd0 : FdC gh0 h := hfd.fw (a := q28 + 15) (b := q28) (by omega) (by omega) d33
    refine zW_aload_n (pc' := 37) dX1_sheetOf_1.1.1.2.1 rfl rfl ?_
    refine zW_iconst (pc' := 38) dX1_sheetOf_1.1.1.2.2 rfl ?_
    refine zX_int (pc' := 41) (hF.p54 ⟨by omega, by omega⟩ (hmd _ _ hF.inv)) fp_X1_25 tb54 rfl dX1_sheetOf_1.1.2.1.1 rfl (fun h hF w38 => ?_)
    have hx54 : 0 ≤ h 54 7 := by first | omega | (rw [w38, zwr_eq]; omega)
    refine zW_aload_n (pc' := 42) dX1_sheetOf_1.1.2.1.2 rfl rfl ?_
    refine zG_int (pc' := 45) fg_X1_25 tb54 rfl dX1_sheetOf_1.1.2.2.1 rfl ?_
    have e42 := hF.2.2.2.1
    refine zW_iconst (pc' := 46) dX1_sheetOf_1.1.2.2.2 rfl ?_
    refine zW_iadd (pc' := 47) dX1_sheetOf_1.2.1.1.1 rfl ?_
    refine zW_istore_n (ls' := [_, _, _, _]) (pc' := 48) dX1_sheetOf_1.2.1.1.2 (by decide) rfl rfl rfl ?_
    exact (main 10000000000000000000000000000000000000000) _ _ _ hF (by omega) (by omega) (by first | exact hfd2 | (rw [w38]; exact hfd0.w54) | exact hfd) (by first | (rw [show v3 + 1 - 1 = v3 by omega]; exact hs2) | (rw [w38, zwr_eq, show (0 : Int) + 1 - 1 = 0 by decide]; exact hs0.w54 (by omega)) | (rw [show h 54 7 + 1 - 1 = h 54 7 by omega]; exact hP.2)) (by first | omega | (rw [w38, zwr_eq]; omega)) (by omega) (by omega) (by omega) (by omega)

abbrev q_X1_sheetOfM' (b : Bd) (κ h : Hp) (x1 : Int) : Int → Hp → Prop := fun r h' => Fr b κ h' ∧ ((56 ≤ r) ∧ (r ≤ 70) ∧ (0 ≤ x1 → x1 ≤ κ 41 0 → r = 56 + x1 ∧ x1 ≤ h' 54 7) ∧ h 54 7 ≤ h' 54 7 ∧ h' 54 7 ≤ κ 41 0 ∧ ShW κ h' (h' 54 7))
def SheetM (b : Bd) : Prop := ∀ {G : Ga} {κ h : Hp}, KC κ → Fr b κ h → ∀ x1 : Int, rng x1 → zM G mX1_sheetOf yX1_sheetOf [.inr (.inr 54), .inl x1] h (q_X1_sheetOfM' b κ h x1)
theorem sheetM_of {b : Bd} (hb : ∀ g h : Hp, FdC g h → PicCW h → b.I g → b.I h) (hp : ∀ h : Hp, b.I h → PicCW h ∧ VOK (h 34) ∧ EaOK (LC h) (h 41 0) ∧ RecW h) : SheetM b := by
  intro G κ h hK hF x1 hx
  have hF0 : Fr (bdB b.g) κ h := ⟨hF.1, ⟨hF.2.1.1, True.intro⟩, hF.2.2⟩
  obtain ⟨⟨p1, p2⟩, p3, p4, p5⟩ := hp h hF.inv
  have e0 := hF.1 41 0 rfl
  have p2' := (ShW.keyF hF).mp p2
  rw [e0] at p1
  have e34 : h 34 = κ 34 := keq hF rfl
  have e42 : h 42 = κ 42 := keq hF rfl
  have e43 : h 43 = κ 43 := keq hF rfl
  have e44 : h 44 = κ 44 := keq hF rfl
  have p3' : VOK (κ 34) := by rw [← e34]; exact p3
  have p4' : EaOK (LC κ) (κ 41 0) := by
    unfold LC
    rw [← e42, ← e0]; exact p4
  have p5' : RecW κ := p5.key e0 e42 e43 e44
  refine (s_X1_sheetOfMT hK hF0 x1 hx h (fun _ _ _ _ _ _ _ => True.intro) (fun _ _ _ => True.intro) p5' p3' p4' FdC.rf ⟨p1, p2'⟩ (Int.le_refl _)).mono (fun r h' q => ?_)
  obtain ⟨q1, q2, q3, q4, ⟨q5, q6⟩, q7, q8⟩ := q
  refine ⟨⟨q1.1, ⟨q1.2.1.1, hb h h' q4 ⟨?_, (ShW.keyF q1).mpr q6⟩ hF.inv⟩, q1.2.2⟩, q2, q3, q7, q8, q5, q6⟩
  rw [q1.1 41 0 rfl]; exact q5
/-- a sheet's planes, as its state says -/
theorem PkS_fl {κ h : Hp} {s j : Nat} {T : P3} (p : PkS κ h s j T) : h s 1 = bhI (LC κ) j := by
  rcases bhI_c (LC κ) j with ⟨a, b⟩ | ⟨a, b⟩
  · rw [a]; exact (p.1 b).2
  · rw [a]; exact (p.2 b).2
theorem PkS_pl {κ h : Hp} {s j : Nat} {T : P3} {fl : Int} (p : PkS κ h s j T) (e : fl = bhI (LC κ) j) : ∀ c : Int, 0 ≤ c → c < ((npF fl : Nat) : Int) → PlS (κ 33 0) (κ 33 1) (h (s + 15)) c (T c) := fun c h0 h1 => by
  unfold npF at h1
  rcases bhI_c (LC κ) j with ⟨a, b⟩ | ⟨a, b⟩
  · rw [if_neg (by omega)] at h1
    have c0 : c = 0 := by omega
    subst c0
    intro x y hp
    have z := (p.1 b).1 x y hp
    rw [show 256 * 0 + 16 * y + x = 16 * y + x by omega]
    exact z
  · rw [if_pos (by omega)] at h1
    exact (p.2 b).1 c ⟨h0, by omega⟩


/-! without a stage, or with another first number of it -/
theorem PkR_lo {κ : Hp} {A B : Nat → Int} {r : Int} {j : Nat} {T : P3} (h : PkR κ A r j T) (hr : 0 ≤ r ∧ r ≤ 12) (hW : κ 0 11 ≤ 16) (hH : κ 0 12 ≤ 16) (hP : 0 ≤ κ 0 13) (e : ∀ i : Nat, (i : Int) < 9984 → B i = A i) : PkR κ B r j T := ⟨fun q x y hp => by
    have b := ix_b hp hr.1 hW hH hP
    rw [e _ (by omega)]
    exact h.1 q x y hp, fun q c hc x y hp => by
    have b := pl_b hp hr.1 hc hW hH
    rw [e _ (by omega)]
    exact h.2 q c hc x y hp⟩
theorem s_X12_leavesByV {G : Ga} {b : Bd} {κ h : Hp} (hK : KR κ) (hF : Fr b.fo κ h) (x1 : Int) (hx1 : 1 ≤ x1 ∧ x1 ≤ 13) (x2 : Int) (hx2 : 0 ≤ x2 ∧ x2 ≤ 14) (T : P3) (hJ : Ok17 b 13) (hG : GivH κ h) (hxn : x1 ≤ κ 0 14 + 1) (hE : EaOK (κ 3) (κ 0 14)) (hSt : StOK (κ 3) (κ 4) (h 23) (κ 0 14)) (hP : PkR κ (h 17) x2 (x1 - 1).toNat T) (hb3 : FB3 (κ 0 11) (κ 0 12) T) : zM G mX12_leavesBy yX12_leavesBy [.inr (.inr 0), .inl x1, .inl x2] h (fun r h' => Fr b.fo κ h' ∧ ((0 ≤ r) ∧ (r ≤ 14) ∧ h' 23 = h 23 ∧ PkR κ (h' 17) r (κ 0 14).toNat (pG (κ 0 11) (κ 0 12) (κ 0 13) (dN (κ 0 11) (κ 0 12) (κ 10)) (κ 3) (XN (κ 4) (h 23)) (MN (κ 4)) T (x1 - 1).toNat (κ 0 14 - x1 + 1).toNat) ∧ (∀ i : Nat, (i : Int) < 9984 → h' 17 i = h 17 i))) := by
  have e11 := hF.1 0 11 rfl
  have e12 := hF.1 0 12 rfl
  have e13 := hF.1 0 13 rfl
  have e14 := hF.1 0 14 rfl
  have e3 : h 3 = κ 3 := keq hF rfl
  have e4 : h 4 = κ 4 := keq hF rfl
  have e10 : h 10 = κ 10 := keq hF rfl
  have kp : ∀ {A : Nat → Int} {r : Int} {j : Nat} {T : P3}, PkR h A r j T ↔ PkR κ A r j T := by
    intro A r j T
    unfold PkR Row17 Fu17 Pl17
    rw [e11, e12, e13, e3]
  refine (s_X12_leavesByW (b := b) (κ := h) (KR_tr hK hF) (Fr.rf (b := b.to) hF.2.2 hF.inv) x1 hx1 x2 hx2 T h hJ (hG.ok hF) (by omega) (by rw [e3, e14]; exact hE) (by rw [e3, e4, e14]; exact hSt) (kp.mpr hP) (by rw [e11, e12]; exact hb3) rfl Fw.rf).mono (fun r h' q => ⟨hF.tr q.1 (fun z => by cases z), q.2.2.1, q.2.2.2.1, funext fun i => q.1.2.1.1 rfl i, ?_, q.2.2.2.2.2⟩)
  have z := kp.mp q.2.2.2.2.1
  rw [e11, e12, e13, e14, e10, e3, e4] at z
  exact z
def Xr (κ : Hp) (k : Nat) (x : Int) : Nat → Nat → Int := fun j => if j = k then X1f x (XN (κ 4) (κ 5) j) else XN (κ 4) (κ 5) j
def LrG (κ : Hp) (k x : Int) : P3 := if x = -1 then pG (κ 0 11) (κ 0 12) (κ 0 13) (dN (κ 0 11) (κ 0 12) (κ 10)) (κ 3) (XN (κ 4) (κ 5)) (MN (κ 4)) (PF κ (k - 1).toNat) k.toNat (κ 0 14 - k).toNat else pG (κ 0 11) (κ 0 12) (κ 0 13) (dN (κ 0 11) (κ 0 12) (κ 10)) (κ 3) (Xr κ (k - 1).toNat x) (MN (κ 4)) (PF κ (k - 1).toNat) (k - 1).toNat (κ 0 14 + 1 - k).toNat
def twV (n : Int) (T : Int → Int → P3) (k x : Int) : P3 := if 1 ≤ k ∧ k ≤ n then T k x else fun _ _ _ => 0
theorem twV_in {n : Int} {T : Int → Int → P3} {k x : Int} (h : 1 ≤ k ∧ k ≤ n) : twV n T k x = T k x := if_pos h
abbrev LcG (κ : Hp) (k x : Int) : P3 := LwG κ k x (κ 41 0 + 1)
theorem LrG_b {κ : Hp} (hK : KR κ) (hV : VOK (κ 1)) {k x : Int} : FB3 (κ 0 11) (κ 0 12) (LrG κ k x) := by
  have b := PF_b hK hV (k - 1).toNat
  unfold LrG
  split
  · exact pG_b (KRw hK).1 (KRh hK).1 b _
  · exact pG_b (KRw hK).1 (KRh hK).1 b _
theorem LcG_eq {h : Hp} (hR : KR h) (eW : h 33 0 = h 0 11) (eH : h 33 1 = h 0 12) (eP : h 33 2 = h 0 13) (en : h 41 0 = h 0 14) (hv : ∀ j : Nat, j < 256 → h 34 j = h 1 j) (hd : ∀ j : Nat, j < 256 → h 35 j = h 10 j) (t : TR (h 0 14) (LC h) (AC h) (h 44) (h 3) (h 4) (h 5)) {k x : Int} (hk : 1 ≤ k ∧ k ≤ h 0 14) : LcG h k x = LrG h k x := by
  have w := KRw hR
  have v := KRh hR
  have eM : ∀ j : Nat, (j : Int) < h 0 14 → MNc h j = MN (h 4) j := fun j hj => by
    show (AC h (j + 1) - AC h j) / 2 = (h 4 (j + 1) - h 4 j) / 2
    rw [t.2.1 j (by omega), t.2.1 (j + 1) (by omega)]
  unfold LcG LwG LrG
  rw [eW, eH, eP, en, dN_eq w.2 v.2 hd, PF_eq hR eW eH eP hv hd t (k - 1).toNat (by omega)]
  by_cases e : x = -1
  · rw [if_pos e, if_pos e, if_neg (by omega), show (h 0 14 + 1 - 1 - k).toNat = (h 0 14 - k).toNat by omega]
    exact pG_eq _ (fun j hj => ⟨t.1 _ (by omega), XNc_eq hR t (by omega), eM _ (by omega)⟩)
  · rw [if_neg e, if_neg e]
    refine pG_eq _ (fun j hj => ⟨t.1 _ (by omega), ?_, eM _ (by omega)⟩)
    unfold Xx Xr
    rw [XNc_eq hR t (by omega)]
theorem cx2_eq {α : Type} (Q : Int → Int → Int → Int → (Int → Int) → (Int → Int) → (Int → P3) → (Int → Nat → Int) → (Int → Int → P3) → α) {h h1 : Hp} (e : ∀ k i, key k i = true → h1 k i = h k i) (hR : KR h) (eW : h 33 0 = h 0 11) (eH : h 33 1 = h 0 12) (eP : h 33 2 = h 0 13) (en : h 41 0 = h 0 14) (hv : ∀ j : Nat, j < 256 → h 34 j = h 1 j) (hd : ∀ j : Nat, j < 256 → h 35 j = h 10 j) (t : TR (h 0 14) (LC h) (AC h) (h 44) (h 3) (h 4) (h 5)) : Q (h 33 0) (h 33 1) (h 33 2) (h 41 0) (ltV (LC h) (h 41 0)) (bhV (LC h) (h 41 0)) (pcV (h 41 0) (PFc h)) (nmV (h 41 0) (XNc h)) (twV (h 41 0) (LcG h)) = Q (h1 0 11) (h1 0 12) (h1 0 13) (h1 0 14) (ltV (h1 3) (h1 0 14)) (bhV (h1 3) (h1 0 14)) (pcV (h1 0 14) (PF h1)) (nmV (h1 0 14) (XN (h1 4) (h1 5))) (twV (h1 0 14) (LrG h1)) := by
  have c : ∀ k, (∀ i, key k i = true) → h1 k = h k := fun k h1 => funext fun i => e k i (h1 i)
  have eL : twV (h 41 0) (LcG h) = twV (h1 0 14) (LrG h1) := by
    funext k x
    have ePF : LrG h1 k x = LrG h k x := by
      unfold LrG Xr PF
      rw [e 0 11 rfl, e 0 12 rfl, e 0 13 rfl, e 0 14 rfl, c 1 (fun _ => rfl), c 10 (fun _ => rfl), c 3 (fun _ => rfl), c 4 (fun _ => rfl), c 5 (fun _ => rfl)]
    unfold twV
    rw [e 0 14 rfl, en]
    by_cases q : 1 ≤ k ∧ k ≤ h 0 14
    · rw [if_pos q, if_pos q, ePF]
      exact LcG_eq hR eW eH eP en hv hd t q
    · rw [if_neg q, if_neg q]
  rw [eL]
  exact cx_eq (fun W H P n lt bh pc nm => Q W H P n lt bh pc nm (twV (h1 0 14) (LrG h1))) e hR eW eH eP en hv hd t
def woQ (W H P n : Int) (lt bh : Int → Int) (pc : Int → P3) (nm : Int → Nat → Int) (tw : Int → Int → P3) (k w : Int) : Int := if 1 ≤ k ∧ k ≤ n ∧ 0 ≤ w ∧ w ≤ 1 then (if lt k = 102 then -3 else ulR W H (bh n) w (pc n) (tw k (-1))) else -1
theorem LrG_c {κ : Hp} (hE : EaOK (κ 3) (κ 0 14)) {k : Int} (hk : 1 ≤ k ∧ k ≤ κ 0 14) (hl : κ 3 (k - 1).toNat ≠ 102) (hno : noF (κ 3) (κ 0 14).toNat) (c x y : Int) (hc : 0 ≤ c ∧ c ≤ 2) : LrG κ k (-1) c x y = LrG κ k (-1) 0 x y := by
  have a := ea_lt hE (k := (κ 0 14).toNat) (by omega) hno
  unfold LrG
  rw [if_pos rfl]
  exact pG_c (fun c x y hc => PF_c hE (by omega) (hno.le (by omega)) c x y hc) _ (fun j hj => a _ (by omega)) c x y hc

abbrev q_X12_withoutZ (b : Bd) (κ : Hp) (x1 : Int) (x2 : Int) : Int → Hp → Prop := fun r h' => Fr b κ h' ∧ ((r = woQ (κ 0 11) (κ 0 12) (κ 0 13) (κ 0 14) (ltV (κ 3) (κ 0 14)) (bhV (κ 3) (κ 0 14)) (pcV (κ 0 14) (PF κ)) (nmV (κ 0 14) (XN (κ 4) (κ 5))) (twV (κ 0 14) (LrG κ)) x1 x2))
set_option maxHeartbeats 4000000 in
set_option maxRecDepth 20000 in
theorem s_X12_withoutZ {G : Ga} {b : Bd} {κ h : Hp} (hK : KR κ) (hF : Fr b.fo κ h) (x1 : Int) (hx1 : rng x1) (x2 : Int) (hx2 : rng x2) (hJ : Ok17 b 13) (hLw : LeavesW b) (hV : VOK (κ 1)) (hE : EaOK (κ 3) (κ 0 14)) (hSt : StOK (κ 3) (κ 4) (κ 5) (κ 0 14)) : zM G mX12_without yX12_without [.inr (.inr 0), .inl x1, .inl x2] h (q_X12_withoutZ b.fo κ x1 x2) := by
  have f_0_11 := KRw hK
  have f_0_12 := KRh hK
  have f_0_13 := KRp hK
  have f_0_14 := KRm hK
  unfold rng at hx1
  unfold rng at hx2
  refine zM_of [some (.inr (.inr 0)), some (.inl x1), some (.inl x2)] 0 rfl rfl (Nat.le_of_ble_eq_true rfl) rfl ?_
  refine zW_aload_n (pc' := 1) dX12_without_0.1.1.1.1 rfl rfl ?_
  refine zW_iload_n (pc' := 2) dX12_without_0.1.1.1.2 rfl rfl ?_
  refine cvI1 (pc' := 5) kX12_isStage vX12_isStage lk_X12_199 ⟨Nat.le_of_ble_eq_true rfl, Nat.le_of_ble_eq_true rfl⟩ tb0 vq12 rfl rfl (s_X12_isStageZ hK hF _ ⟨by omega, by omega⟩) dX12_without_0.1.1.2.1 (Nat.le_of_ble_eq_true rfl) rfl ?_
  rintro r2 z2 ⟨hz2, p2⟩; subst z2
  refine zV_if_eq (tgt := 17) (pc' := 8) dX12_without_0.1.1.2.2 rfl rfl ⟨by omega, by omega⟩ (fun c5 => ?_) (fun c5 => ?_)
  · refine zW_iconst (pc' := 18) dX12_without_0.2.1.1.2 rfl ?_
    exact zV_iret rfl dX12_without_0.2.1.2.1 ⟨hF, (by unfold woQ; rw [if_neg (by omega)])⟩
  · refine zW_iload_n (pc' := 9) dX12_without_0.1.2.1.1 rfl rfl ?_
    refine zW_iconst (pc' := 10) dX12_without_0.1.2.1.2 rfl ?_
    refine zW_iconst (pc' := 11) dX12_without_0.1.2.2.1 rfl ?_
    refine csI3 (pc' := 14) kX12_in vX12_in lk_X12_140 ⟨Nat.le_of_ble_eq_true rfl, Nat.le_of_ble_eq_true rfl⟩ rfl (s_X12_inR hF _ ⟨by omega, by omega⟩ _ ⟨by omega, by omega⟩ _ ⟨by omega, by omega⟩) dX12_without_0.1.2.2.2 (Nat.le_of_ble_eq_true rfl) rfl ?_
    rintro r11 z11 ⟨hz11, p11⟩; subst z11
    refine zV_if_ne (tgt := 19) (pc' := 17) dX12_without_0.2.1.1.1 rfl rfl ⟨by omega, by omega⟩ (fun c14 => ?_) (fun c14 => ?_)
    · refine zW_aload_n (pc' := 20) dX12_without_0.2.1.2.2 rfl rfl ?_
      refine zW_iload_n (pc' := 21) dX12_without_0.2.2.1.1 rfl rfl ?_
      refine zW_bipush (pc' := 23) dX12_without_0.2.2.1.2 rfl rfl ?_
      refine cvI2 (pc' := 26) kX12_isKind vX12_isKind lk_X12_383 ⟨Nat.le_of_ble_eq_true rfl, Nat.le_of_ble_eq_true rfl⟩ tb0 vq12 rfl rfl (s_X12_isKind hK hF _ ⟨by omega, by omega⟩ _ ⟨by omega, by omega⟩) dX12_without_0.2.2.2.1 (Nat.le_of_ble_eq_true rfl) rfl ?_
      rintro r23 z23 ⟨hz23, p23⟩; subst z23
      refine zV_if_eq (tgt := 32) (pc' := 29) dX12_without_0.2.2.2.2 rfl rfl ⟨by omega, by omega⟩ (fun c26 => ?_) (fun c26 => ?_)
      · refine zW_aload_n (pc' := 33) dX12_without_1.1.1.2.1 rfl rfl ?_
        refine cvV0 (pc' := 36) kX12_leaves vX12_leaves lk_X12_377 ⟨Nat.le_of_ble_eq_true rfl, Nat.le_of_ble_eq_true rfl⟩ tb0 vq12 rfl rfl (hLw hK hF) dX12_without_1.1.1.2.2 (Nat.le_of_ble_eq_true rfl) rfl ?_
        rintro r33 h ⟨hF, p33⟩
        have hgv := p33.1
        have hl : κ 3 (x1 - 1).toNat ≠ 102 := by omega
        have ka := fun k : Nat => KRna hK k
        have hr1 := p33.2 (x1 - 1).toNat (by omega)
        rw [show (((x1 - 1).toNat : Nat) : Int) = x1 - 1 by omega] at hr1
        have hrN := p33.2 (κ 0 14).toNat (by omega)
        rw [show (((κ 0 14).toNat : Nat) : Int) = κ 0 14 by omega] at hrN
        have hr2 : PkR κ (h 17) (x1 - 1) x1.toNat (PF κ (x1 - 1).toNat) := by (rw [show x1.toNat = (x1 - 1).toNat + 1 by omega]; exact ⟨fun q => hr1.1 (q.le (by omega)), fun q => hr1.2 (fun z => q (noF_s.mpr ⟨z, hl⟩))⟩)
        have hst2 : StOK (κ 3) (κ 4) (h 23) (κ 0 14) := hSt.cong (fun k _ => by have := ka k; omega) hgv
        obtain ⟨g23, hg23⟩ : ∃ A : Nat → Int, A = h 23 := ⟨_, rfl⟩
        have hgg : ∀ i, i < 130 → g23 i = κ 5 i := by rw [hg23]; exact hgv
        refine zW_aload_n (pc' := 37) dX12_without_1.1.2.1.1 rfl rfl ?_
        refine zW_aload_n (pc' := 38) dX12_without_1.1.2.1.2 rfl rfl ?_
        refine zG_key (pc' := 41) hF rfl fg_X12_185 tb0 rfl dX12_without_1.1.2.2.1 rfl ?_
        refine zW_aload_n (pc' := 42) dX12_without_1.1.2.2.2 rfl rfl ?_
        refine zW_iload_n (pc' := 43) dX12_without_1.2.1.1.1 rfl rfl ?_
        refine zW_iconst (pc' := 44) dX12_without_1.2.1.1.2 rfl ?_
        refine zW_iadd (pc' := 45) dX12_without_1.2.1.2.1 rfl ?_
        refine zW_iload_n (pc' := 46) dX12_without_1.2.1.2.2 rfl rfl ?_
        refine zW_iconst (pc' := 47) dX12_without_1.2.2.1.1 rfl ?_
        refine zW_isub (pc' := 48) dX12_without_1.2.2.1.2 rfl ?_
        refine cvI2 (pc' := 51) kX12_leavesBy vX12_leavesBy lk_X12_444 ⟨Nat.le_of_ble_eq_true rfl, Nat.le_of_ble_eq_true rfl⟩ tb0 vq12 rfl rfl (s_X12_leavesByV hK hF _ ⟨by omega, by omega⟩ _ ⟨by omega, by omega⟩ (PF κ (x1 - 1).toNat) hJ (GivH.of hK hgv) (by omega) hE hst2 (by rw [show (x1 + 1 - 1).toNat = x1.toNat by omega]; exact hr2) (PF_b hK hV _)) dX12_without_1.2.2.2.1 (Nat.le_of_ble_eq_true rfl) rfl ?_
        rintro r48 h ⟨hF, p48⟩
        have hN2 := PkR_lo hrN ⟨by omega, by omega⟩ (by omega) (by omega) (by omega) p48.2.2.2.2
        have hTr : PkR κ (h 17) r48 (κ 0 14).toNat (LrG κ x1 (-1)) := by (have z := p48.2.2.2.1; rw [← hg23] at z; unfold LrG; rw [if_pos rfl]; rw [show (x1 + 1 - 1).toNat = x1.toNat by omega, show (κ 0 14 - (x1 + 1) + 1).toNat = (κ 0 14 - x1).toNat by omega, pG_eq (L := κ 3) (L' := κ 3) (X := XN (κ 4) g23) (X' := XN (κ 4) (κ 5)) (M := MN (κ 4)) (M' := MN (κ 4)) (κ 0 14 - x1).toNat (fun j hj => ⟨rfl, XN_cong (ka _).1 (by have := ka (x1.toNat + j + 1); omega) hgg, rfl⟩)] at z; exact z)
        refine zW_aload_n (pc' := 52) dX12_without_1.2.2.2.2 rfl rfl ?_
        refine zW_aload_n (pc' := 53) dX12_without_2.1.1.1 rfl rfl ?_
        refine zG_key (pc' := 56) hF rfl fg_X12_185 tb0 rfl dX12_without_2.1.1.2 rfl ?_
        refine cvI1 (pc' := 59) kX12_isBehind vX12_isBehind lk_X12_380 ⟨Nat.le_of_ble_eq_true rfl, Nat.le_of_ble_eq_true rfl⟩ tb0 vq12 rfl rfl (s_X12_isBehindZ hK hF _ ⟨by omega, by omega, by omega⟩) dX12_without_2.1.2 (Nat.le_of_ble_eq_true rfl) rfl ?_
        rintro r56 z56 ⟨hz56, p56⟩; subst z56
        refine zW_iload_n (pc' := 60) dX12_without_2.2.1.1 rfl rfl ?_
        refine cvI4 (pc' := 63) kX12_unlikeOf vX12_unlikeOf lk_X12_440 ⟨Nat.le_of_ble_eq_true rfl, Nat.le_of_ble_eq_true rfl⟩ tb0 vq12 rfl rfl (s_X12_unlikeOfZ hK hF _ ⟨by omega, by omega⟩ _ ⟨by omega, by omega⟩ _ ⟨by omega, by omega⟩ _ ⟨by omega, by omega⟩ (PF κ (κ 0 14).toNat) (LrG κ x1 (-1)) (PkR_at hN2 (by omega) (PF_b hK hV _) (fun q => PF_c hE (by omega) q)) (PkR_at hTr (by omega) (LrG_b hK hV) (fun q => LrG_c hE ⟨by omega, by omega⟩ hl q)) (fun q c x y hc => by have b1 := bhI_c (κ 3) (κ 0 14).toNat; have z := (b1.resolve_right (fun w => by omega)).2; exact ⟨PF_c hE (by omega) z c x y hc, LrG_c hE ⟨by omega, by omega⟩ hl z c x y hc⟩)) dX12_without_2.2.1.2 (Nat.le_of_ble_eq_true rfl) rfl ?_
        rintro r60 z60 ⟨hz60, p60⟩; subst z60
        exact zV_iret rfl dX12_without_2.2.2 ⟨hF, (by unfold woQ; rw [if_pos ⟨by omega, by omega, by omega, by omega⟩, ltV_in ⟨by omega, by omega⟩, if_neg hl, bhV_in ⟨by omega, by omega⟩, pcV_in ⟨by omega, by omega⟩, twV_in ⟨by omega, by omega⟩]; rw [p60, show r56 = bhI (κ 3) (κ 0 14).toNat by omega])⟩
      · refine zW_bipush (pc' := 31) dX12_without_1.1.1.1.1 rfl rfl ?_
        exact zV_iret rfl dX12_without_1.1.1.1.2 ⟨hF, (by unfold woQ; rw [if_pos ⟨by omega, by omega, by omega, by omega⟩, ltV_in ⟨by omega, by omega⟩, if_pos (by omega)])⟩
    · refine zW_iconst (pc' := 18) dX12_without_0.2.1.1.2 rfl ?_
      exact zV_iret rfl dX12_without_0.2.1.2.1 ⟨hF, (by unfold woQ; rw [if_neg (by omega)])⟩

theorem shM_ : SheetM bW := sheetM_of (b := bW) (fun g h f q p => by
  obtain ⟨⟨p1, p2⟩, ⟨p3, p4⟩, ⟨p5, p6⟩, p7, p8, p9, pw, ph, pp, ps⟩ := p
  have e : ∀ k i, dpn k i = true → (k < 56 ∨ 85 < k) → (k = 54 → i ≠ 7) → h k i = g k i := f
  have c : ∀ k, (∀ i, dpn k i = true) → k < 54 → h k = g k := fun k h1 h2 => funext fun i => e k i (h1 i) (by omega) (fun z => absurd z (by omega))
  have e42 := c 42 (fun _ => rfl) (by decide)
  have e43 := c 43 (fun _ => rfl) (by decide)
  have e44 := c 44 (fun _ => rfl) (by decide)
  have e410 := e 41 0 rfl (by decide) (fun z => absurd z (by decide))
  have e014 := e 0 14 rfl (by decide) (fun z => absurd z (by decide))
  refine ⟨⟨PicRW_un (fun k i hk => ?_) p1, q⟩, ⟨?_, ?_⟩, ⟨?_, ?_⟩, ?_, ?_, ?_, ?_, ?_, ?_, ?_⟩
  · have z := prk_lo hk
    exact e k i (prk_dp hk) (by omega) (fun w => by omega)
  · rw [c 1 (fun _ => rfl) (by decide)]; exact p3
  · rw [c 34 (fun _ => rfl) (by decide)]; exact p4
  · rw [c 3 (fun _ => rfl) (by decide), e014]; exact p5
  · unfold LC at p6 ⊢; rw [e42, e410]; exact p6
  · exact p7.key e410.symm e42.symm e43.symm e44.symm
  · rw [e014]; exact p8
  · rw [e410]; exact p9
  · rw [e 0 11 rfl (by decide) (fun z => absurd z (by decide))]; exact pw
  · rw [e 0 12 rfl (by decide) (fun z => absurd z (by decide))]; exact ph
  · rw [e 0 13 rfl (by decide) (fun z => absurd z (by decide))]; exact pp
  · rw [c 3 (fun _ => rfl) (by decide), c 4 (fun _ => rfl) (by decide), c 5 (fun _ => rfl) (by decide), e014]; exact ps) (fun h (p : IPW h) => ⟨p.1.2, p.2.1.2, p.2.2.1.2, p.2.2.2.1⟩)

abbrev q_X1_lastWithWM (b : Bd) (κ : Hp) (x1 : Int) (x2 : Int) (m0 : Int) : Int → Hp → Prop := fun r h' => Fr b κ h' ∧ ((56 ≤ r) ∧ (r ≤ 70) ∧ (PkS κ h' r.toNat (κ 41 0).toNat (LwG κ x1 x2 (κ 41 0 + 1)) ∧ m0 ≤ h' 54 7 ∧ h' 54 7 ≤ κ 41 0 ∧ ShW κ h' (h' 54 7)))
set_option maxHeartbeats 4000000 in
set_option maxRecDepth 20000 in
theorem s_X1_lastWithWM {G : Ga} {b : Bd} {κ h : Hp} (hK : KC κ) (hF : Fr b κ h) (x1 : Int) (hx1 : 1 ≤ x1 ∧ x1 ≤ 12 ∧ x1 - κ 41 0 ≤ 0) (x2 : Int) (hx2 : -1 ≤ x2 ∧ x2 ≤ 255) (m0 : Int) (hSm : SheetM b) (hTr : OkT b) (hRc : RecW κ) (hE : EaOK (LC κ) (κ 41 0)) (hV : VOK (κ 34)) (hn0 : 0 ≤ x2 → NbOK (LC κ (x1 - 1).toNat) x2 ∧ LC κ (x1 - 1).toNat ≠ 116) (hn1 : x2 = -1 → LC κ (x1 - 1).toNat ≠ 102) (hm0 : m0 = h 54 7) : zM G mX1_lastWith yX1_lastWith [.inr (.inr 54), .inl x1, .inl x2] h (q_X1_lastWithWM b κ x1 x2 m0) := by
  have f_41_0 := KCm hK
  have main : ∀ N : Nat, (∀ (v4 : Int) (t3 : Nat) (h : Hp), Fr b κ h → (56 ≤ t3 ∧ t3 ≤ 70) → (1 ≤ v4 ∧ v4 ≤ 13) → (v4 - κ 41 0 ≤ 1) → (PkS κ h t3 (v4 - 1).toNat (LwG κ x1 x2 v4)) → (x1 ≤ v4 ∧ v4 ≤ κ 41 0 + 1) → (m0 ≤ h 54 7 ∧ h 54 7 ≤ κ 41 0 ∧ ShW κ h (h 54 7)) → 26488 + 44 * (13 - v4) + 43 < (N : Int) → zV G mX1_lastWith (q_X1_lastWithWM b κ x1 x2 m0) 11 [some (.inr (.inr 54)), some (.inl x1), some (.inl x2), some (.inr (.inr t3)), some (.inl v4), none] [] h) := by
    intro N
    induction N with
    | zero =>
      intro v4 t3 h hF g0 g1 g2 gc0 gc1 gc2 hm
      exfalso; omega
    | succ N ih =>
      have k11 := ih
      intro v4 t3 h hF g0 g1 g2 gc0 gc1 gc2 hm
      refine zW_iload (pc' := 13) dX1_lastWith_0.2.1.1.1 rfl rfl ?_
      refine zW_aload_n (pc' := 14) dX1_lastWith_0.2.1.1.2 rfl rfl ?_
      refine zG_ref (pc' := 17) 41 fg_X1_33 tb54 rfl dX1_lastWith_0.2.1.2.1 rfl ?_
      refine zG_key (pc' := 20) hF rfl fg_X1_53 tb41 rfl dX1_lastWith_0.2.1.2.2 rfl ?_
      refine zV_cm_gt (tgt := 93) (pc' := 23) dX1_lastWith_0.2.2.1.1 rfl rfl ⟨by omega, by omega⟩ ⟨by omega, by omega⟩ (fun c20 => ?_) (fun c20 => ?_)
      · refine zW_aload_n (pc' := 94) dX1_lastWith_3.1 rfl rfl ?_
        exact zV_aret rfl dX1_lastWith_3.2 ⟨hF, (by refine ⟨by omega, by omega, ?_, gc2⟩; rw [show ((t3 : Nat) : Int).toNat = t3 from rfl, show (κ 41 0).toNat = (v4 - 1).toNat by omega, show κ 41 0 + 1 = v4 by omega]; exact gc0)⟩
      · refine zW_iload (pc' := 25) dX1_lastWith_0.2.2.1.2 rfl rfl ?_
        refine zW_iload_n (pc' := 26) dX1_lastWith_0.2.2.2.1 rfl rfl ?_
        refine zV_cm_gt (tgt := 34) (pc' := 29) dX1_lastWith_0.2.2.2.2 rfl rfl ⟨by omega, by omega⟩ ⟨by omega, by omega⟩ (fun c26 => ?_) (fun c26 => ?_)
        · refine zW_aload_n (pc' := 35) dX1_lastWith_1.1.1.2.2 rfl rfl ?_
          refine zW_aload_n (pc' := 36) dX1_lastWith_1.1.2.1.1 rfl rfl ?_
          refine zG_ref (pc' := 39) 69 fg_X1_18 tb54 rfl dX1_lastWith_1.1.2.1.2 rfl ?_
          refine zX_acmp_ne (tgt := 49) (pc' := 42) (by omega) (by omega) dX1_lastWith_1.1.2.2.1 rfl rfl (fun a39 => ?_) (fun a39 => ?_)
          · refine zW_aload_n (pc' := 50) dX1_lastWith_1.2.1.2.1 rfl rfl ?_
            refine zG_ref (pc' := 53) 69 fg_X1_18 tb54 rfl dX1_lastWith_1.2.1.2.2 rfl ?_
            refine zW_astore (ls' := [_, _, _, _, _, _]) (pc' := 55) dX1_lastWith_1.2.2.1.1 (by decide) rfl rfl rfl ?_
            refine zW_aload_n (pc' := 56) dX1_lastWith_1.2.2.1.2 rfl rfl ?_
            refine zW_iload (pc' := 58) dX1_lastWith_1.2.2.2.1 rfl rfl ?_
            refine zW_iload (pc' := 60) dX1_lastWith_1.2.2.2.2 rfl rfl ?_
            refine zW_iload_n (pc' := 61) dX1_lastWith_2.1.1.1.1 rfl rfl ?_
            refine zV_cm_ne (tgt := 68) (pc' := 64) dX1_lastWith_2.1.1.1.2 rfl rfl ⟨by omega, by omega⟩ ⟨by omega, by omega⟩ (fun c61 => ?_) (fun c61 => ?_)
            · refine zW_aload_n (pc' := 69) dX1_lastWith_2.1.2.1.1 rfl rfl ?_
              refine zG_ref (pc' := 72) 41 fg_X1_33 tb54 rfl dX1_lastWith_2.1.2.1.2 rfl ?_
              refine zW_iload (pc' := 74) dX1_lastWith_2.1.2.2.1 rfl rfl ?_
              refine zW_iconst (pc' := 75) dX1_lastWith_2.1.2.2.2 rfl ?_
              have hxb : ∀ j : Nat, 0 ≤ XNc κ (v4 - 1).toNat j ∧ XNc κ (v4 - 1).toNat j ≤ 255 := (hRc (v4 - 1).toNat (by omega)).2.2.1
              refine cvI2 (pc' := 78) kX7_numberOf vX7_numberOf lk_X1_70 ⟨Nat.le_of_ble_eq_true rfl, Nat.le_of_ble_eq_true rfl⟩ tb41 vq7 rfl rfl (s_X7_numberOfW hK hF _ ⟨by omega, by omega, by omega⟩ _ ⟨by omega, by omega⟩ hxb) dX1_lastWith_2.2.1.1.1 (Nat.le_of_ble_eq_true rfl) rfl ?_
              rintro r75 z75 ⟨hz75, p75⟩; subst z75
              refine zW_aload_n (pc' := 79) dX1_lastWith_2.2.1.1.2 rfl rfl ?_
              refine zW_aload (pc' := 81) dX1_lastWith_2.2.1.2.1 rfl rfl ?_
              refine cvV4 (pc' := 84) kX1_apply vX1_apply lk_X1_73 ⟨Nat.le_of_ble_eq_true rfl, Nat.le_of_ble_eq_true rfl⟩ tb54 vq1 rfl rfl (s_X1_applyW hK hF _ ⟨by omega, by omega, by omega⟩ _ ⟨by omega, by omega⟩ _ ⟨by omega, by omega⟩ _ ⟨by omega, by omega⟩ (LwG κ x1 x2 v4) (hTr.l (by omega)) (hTr.f (by omega)) (by first | omega | exact a39) hRc hE (by first | (rw [show v4 = x1 by omega]; exact (hn0 (by omega)).1) | (rw [p75.2.2]; exact (hRc (v4 - 1).toNat (by omega)).2.2.2.1) | (exfalso; omega)) (by first | exact (fun _ => p75.2.2) | (rw [show v4 = x1 by omega]; exact (fun q => absurd q (hn0 (by omega)).2)) | (exfalso; omega)) gc0 (LwG_b hK hV)) dX1_lastWith_2.2.1.2.2 (Nat.le_of_ble_eq_true rfl) rfl ?_
              rintro r81 h ⟨hF, p81⟩
              have hpk : ∀ y : Int, (v4 = x1 ∧ x2 ≠ -1 ∧ y = x2) ∨ (x1 < v4 ∧ y = XNc κ (v4 - 1).toNat 0) → nrm (κ 33 0) (κ 33 1) (stS κ (v4 - 1).toNat y (LwG κ x1 x2 v4)) = (LwG κ x1 x2 (v4 + 1)) := fun y hy => (LwG_s (by omega) (by omega) hy).symm
              have hp2 := p81.2
              first | rw [hpk _ (Or.inl ⟨by omega, by omega, rfl⟩)] at hp2 | rw [hpk _ (Or.inr ⟨by omega, p75.2.2⟩)] at hp2
              rw [show (v4 - 1).toNat + 1 = (v4 + 1 - 1).toNat by omega] at hp2
              have e54 : h 54 7 = _ := p81.1 54 7 (by intro c hc; simp at hc; omega) (by simp)
              have hsw : ShW κ h (h 54 7) := by rw [e54]; exact gc2.2.2.sh (by omega) (fun k i hk => p81.1 k i (by intro c hc; simp at hc; omega) (by rintro ⟨a, d⟩ hp e; have e2 : k = a := e; simp at hp; omega))
              have hsx : m0 ≤ h 54 7 ∧ h 54 7 ≤ κ 41 0 := by rw [e54]; exact ⟨gc2.1, gc2.2.1⟩
              refine zW_aload (pc' := 86) dX1_lastWith_2.2.2.1.1 rfl rfl ?_
              refine zW_astore_n (ls' := [_, _, _, _, _, _]) (pc' := 87) dX1_lastWith_2.2.2.1.2 (by decide) rfl rfl rfl ?_
              refine zW_iinc (ls' := [_, _, _, _, _, _]) (pc' := 90) dX1_lastWith_2.2.2.2.1 rfl (by decide) rfl rfl rfl ?_
              refine zV_goto 11 dX1_lastWith_2.2.2.2.2 rfl ?_
              refine zV_clr 5 (ls' := [_, _, _, _, _, _]) rfl ?_
              exact k11 _ _ _ hF (by omega) (by omega) (by omega) (by first | exact hp2 | (rw [LwG_0, show q4 = 56 + (x1 - 1).toNat by omega]; exact hs5) | (rw [show v4 = x1 by omega, LwG_sk (by omega)]; rw [show v4 = x1 by omega, LwG_0] at gc0; rw [show (x1 + 1 - 1).toNat = (x1 - 1).toNat + 1 by omega]; exact gc0.sk (hn1 (by omega)))) (by omega) (by first | exact ⟨hsx.1, hsx.2, hsw⟩ | exact ⟨by omega, p4.2.2.2.2.1, p4.2.2.2.2.2⟩ | exact gc2) (by omega)
            · refine zW_iload_n (pc' := 65) dX1_lastWith_2.1.1.2.1 rfl rfl ?_
              refine zV_goto 78 dX1_lastWith_2.1.1.2.2 rfl ?_
              refine zW_aload_n (pc' := 79) dX1_lastWith_2.2.1.1.2 rfl rfl ?_
              refine zW_aload (pc' := 81) dX1_lastWith_2.2.1.2.1 rfl rfl ?_
              refine cvV4 (pc' := 84) kX1_apply vX1_apply lk_X1_73 ⟨Nat.le_of_ble_eq_true rfl, Nat.le_of_ble_eq_true rfl⟩ tb54 vq1 rfl rfl (s_X1_applyW hK hF _ ⟨by omega, by omega, by omega⟩ _ ⟨by omega, by omega⟩ _ ⟨by omega, by omega⟩ _ ⟨by omega, by omega⟩ (LwG κ x1 x2 v4) (hTr.l (by omega)) (hTr.f (by omega)) (by first | omega | exact a39) hRc hE (by first | (rw [show v4 = x1 by omega]; exact (hn0 (by omega)).1) | (rw [p75.2.2]; exact (hRc (v4 - 1).toNat (by omega)).2.2.2.1) | (exfalso; omega)) (by first | exact (fun _ => p75.2.2) | (rw [show v4 = x1 by omega]; exact (fun q => absurd q (hn0 (by omega)).2)) | (exfalso; omega)) gc0 (LwG_b hK hV)) dX1_lastWith_2.2.1.2.2 (Nat.le_of_ble_eq_true rfl) rfl ?_
              rintro r81 h ⟨hF, p81⟩
              have hpk : ∀ y : Int, (v4 = x1 ∧ x2 ≠ -1 ∧ y = x2) ∨ (x1 < v4 ∧ y = XNc κ (v4 - 1).toNat 0) → nrm (κ 33 0) (κ 33 1) (stS κ (v4 - 1).toNat y (LwG κ x1 x2 v4)) = (LwG κ x1 x2 (v4 + 1)) := fun y hy => (LwG_s (by omega) (by omega) hy).symm
              have hp2 := p81.2
              first | rw [hpk _ (Or.inl ⟨by omega, by omega, rfl⟩)] at hp2 | rw [hpk _ (Or.inr ⟨by omega, p75.2.2⟩)] at hp2
              rw [show (v4 - 1).toNat + 1 = (v4 + 1 - 1).toNat by omega] at hp2
              have e54 : h 54 7 = _ := p81.1 54 7 (by intro c hc; simp at hc; omega) (by simp)
              have hsw : ShW κ h (h 54 7) := by rw [e54]; exact gc2.2.2.sh (by omega) (fun k i hk => p81.1 k i (by intro c hc; simp at hc; omega) (by rintro ⟨a, d⟩ hp e; have e2 : k = a := e; simp at hp; omega))
              have hsx : m0 ≤ h 54 7 ∧ h 54 7 ≤ κ 41 0 := by rw [e54]; exact ⟨gc2.1, gc2.2.1⟩
              refine zW_aload (pc' := 86) dX1_lastWith_2.2.2.1.1 rfl rfl ?_
              refine zW_astore_n (ls' := [_, _, _, _, _, _]) (pc' := 87) dX1_lastWith_2.2.2.1.2 (by decide) rfl rfl rfl ?_
              refine zW_iinc (ls' := [_, _, _, _, _, _]) (pc' := 90) dX1_lastWith_2.2.2.2.1 rfl (by decide) rfl rfl rfl ?_
              refine zV_goto 11 dX1_lastWith_2.2.2.2.2 rfl ?_
              refine zV_clr 5 (ls' := [_, _, _, _, _, _]) rfl ?_
              exact k11 _ _ _ hF (by omega) (by omega) (by omega) (by first | exact hp2 | (rw [LwG_0, show q4 = 56 + (x1 - 1).toNat by omega]; exact hs5) | (rw [show v4 = x1 by omega, LwG_sk (by omega)]; rw [show v4 = x1 by omega, LwG_0] at gc0; rw [show (x1 + 1 - 1).toNat = (x1 - 1).toNat + 1 by omega]; exact gc0.sk (hn1 (by omega)))) (by omega) (by first | exact ⟨hsx.1, hsx.2, hsw⟩ | exact ⟨by omega, p4.2.2.2.2.1, p4.2.2.2.2.2⟩ | exact gc2) (by omega)
          · refine zW_aload_n (pc' := 43) dX1_lastWith_1.1.2.2.2 rfl rfl ?_
            refine zG_ref (pc' := 46) 70 fg_X1_22 tb54 rfl dX1_lastWith_1.2.1.1.1 rfl ?_
            refine zV_goto 53 dX1_lastWith_1.2.1.1.2 rfl ?_
            refine zW_astore (ls' := [_, _, _, _, _, _]) (pc' := 55) dX1_lastWith_1.2.2.1.1 (by decide) rfl rfl rfl ?_
            refine zW_aload_n (pc' := 56) dX1_lastWith_1.2.2.1.2 rfl rfl ?_
            refine zW_iload (pc' := 58) dX1_lastWith_1.2.2.2.1 rfl rfl ?_
            refine zW_iload (pc' := 60) dX1_lastWith_1.2.2.2.2 rfl rfl ?_
            refine zW_iload_n (pc' := 61) dX1_lastWith_2.1.1.1.1 rfl rfl ?_
            refine zV_cm_ne (tgt := 68) (pc' := 64) dX1_lastWith_2.1.1.1.2 rfl rfl ⟨by omega, by omega⟩ ⟨by omega, by omega⟩ (fun c61 => ?_) (fun c61 => ?_)
            · refine zW_aload_n (pc' := 69) dX1_lastWith_2.1.2.1.1 rfl rfl ?_
              refine zG_ref (pc' := 72) 41 fg_X1_33 tb54 rfl dX1_lastWith_2.1.2.1.2 rfl ?_
              refine zW_iload (pc' := 74) dX1_lastWith_2.1.2.2.1 rfl rfl ?_
              refine zW_iconst (pc' := 75) dX1_lastWith_2.1.2.2.2 rfl ?_
              have hxb : ∀ j : Nat, 0 ≤ XNc κ (v4 - 1).toNat j ∧ XNc κ (v4 - 1).toNat j ≤ 255 := (hRc (v4 - 1).toNat (by omega)).2.2.1
              refine cvI2 (pc' := 78) kX7_numberOf vX7_numberOf lk_X1_70 ⟨Nat.le_of_ble_eq_true rfl, Nat.le_of_ble_eq_true rfl⟩ tb41 vq7 rfl rfl (s_X7_numberOfW hK hF _ ⟨by omega, by omega, by omega⟩ _ ⟨by omega, by omega⟩ hxb) dX1_lastWith_2.2.1.1.1 (Nat.le_of_ble_eq_true rfl) rfl ?_
              rintro r75 z75 ⟨hz75, p75⟩; subst z75
              refine zW_aload_n (pc' := 79) dX1_lastWith_2.2.1.1.2 rfl rfl ?_
              refine zW_aload (pc' := 81) dX1_lastWith_2.2.1.2.1 rfl rfl ?_
              refine cvV4 (pc' := 84) kX1_apply vX1_apply lk_X1_73 ⟨Nat.le_of_ble_eq_true rfl, Nat.le_of_ble_eq_true rfl⟩ tb54 vq1 rfl rfl (s_X1_applyW hK hF _ ⟨by omega, by omega, by omega⟩ _ ⟨by omega, by omega⟩ _ ⟨by omega, by omega⟩ _ ⟨by omega, by omega⟩ (LwG κ x1 x2 v4) (hTr.l (by omega)) (hTr.f (by omega)) (by first | omega | exact a39) hRc hE (by first | (rw [show v4 = x1 by omega]; exact (hn0 (by omega)).1) | (rw [p75.2.2]; exact (hRc (v4 - 1).toNat (by omega)).2.2.2.1) | (exfalso; omega)) (by first | exact (fun _ => p75.2.2) | (rw [show v4 = x1 by omega]; exact (fun q => absurd q (hn0 (by omega)).2)) | (exfalso; omega)) gc0 (LwG_b hK hV)) dX1_lastWith_2.2.1.2.2 (Nat.le_of_ble_eq_true rfl) rfl ?_
              rintro r81 h ⟨hF, p81⟩
              have hpk : ∀ y : Int, (v4 = x1 ∧ x2 ≠ -1 ∧ y = x2) ∨ (x1 < v4 ∧ y = XNc κ (v4 - 1).toNat 0) → nrm (κ 33 0) (κ 33 1) (stS κ (v4 - 1).toNat y (LwG κ x1 x2 v4)) = (LwG κ x1 x2 (v4 + 1)) := fun y hy => (LwG_s (by omega) (by omega) hy).symm
              have hp2 := p81.2
              first | rw [hpk _ (Or.inl ⟨by omega, by omega, rfl⟩)] at hp2 | rw [hpk _ (Or.inr ⟨by omega, p75.2.2⟩)] at hp2
              rw [show (v4 - 1).toNat + 1 = (v4 + 1 - 1).toNat by omega] at hp2
              have e54 : h 54 7 = _ := p81.1 54 7 (by intro c hc; simp at hc; omega) (by simp)
              have hsw : ShW κ h (h 54 7) := by rw [e54]; exact gc2.2.2.sh (by omega) (fun k i hk => p81.1 k i (by intro c hc; simp at hc; omega) (by rintro ⟨a, d⟩ hp e; have e2 : k = a := e; simp at hp; omega))
              have hsx : m0 ≤ h 54 7 ∧ h 54 7 ≤ κ 41 0 := by rw [e54]; exact ⟨gc2.1, gc2.2.1⟩
              refine zW_aload (pc' := 86) dX1_lastWith_2.2.2.1.1 rfl rfl ?_
              refine zW_astore_n (ls' := [_, _, _, _, _, _]) (pc' := 87) dX1_lastWith_2.2.2.1.2 (by decide) rfl rfl rfl ?_
              refine zW_iinc (ls' := [_, _, _, _, _, _]) (pc' := 90) dX1_lastWith_2.2.2.2.1 rfl (by decide) rfl rfl rfl ?_
              refine zV_goto 11 dX1_lastWith_2.2.2.2.2 rfl ?_
              refine zV_clr 5 (ls' := [_, _, _, _, _, _]) rfl ?_
              exact k11 _ _ _ hF (by omega) (by omega) (by omega) (by first | exact hp2 | (rw [LwG_0, show q4 = 56 + (x1 - 1).toNat by omega]; exact hs5) | (rw [show v4 = x1 by omega, LwG_sk (by omega)]; rw [show v4 = x1 by omega, LwG_0] at gc0; rw [show (x1 + 1 - 1).toNat = (x1 - 1).toNat + 1 by omega]; exact gc0.sk (hn1 (by omega)))) (by omega) (by first | exact ⟨hsx.1, hsx.2, hsw⟩ | exact ⟨by omega, p4.2.2.2.2.1, p4.2.2.2.2.2⟩ | exact gc2) (by omega)
            · refine zW_iload_n (pc' := 65) dX1_lastWith_2.1.1.2.1 rfl rfl ?_
              refine zV_goto 78 dX1_lastWith_2.1.1.2.2 rfl ?_
              refine zW_aload_n (pc' := 79) dX1_lastWith_2.2.1.1.2 rfl rfl ?_
              refine zW_aload (pc' := 81) dX1_lastWith_2.2.1.2.1 rfl rfl ?_
              refine cvV4 (pc' := 84) kX1_apply vX1_apply lk_X1_73 ⟨Nat.le_of_ble_eq_true rfl, Nat.le_of_ble_eq_true rfl⟩ tb54 vq1 rfl rfl (s_X1_applyW hK hF _ ⟨by omega, by omega, by omega⟩ _ ⟨by omega, by omega⟩ _ ⟨by omega, by omega⟩ _ ⟨by omega, by omega⟩ (LwG κ x1 x2 v4) (hTr.l (by omega)) (hTr.f (by omega)) (by first | omega | exact a39) hRc hE (by first | (rw [show v4 = x1 by omega]; exact (hn0 (by omega)).1) | (rw [p75.2.2]; exact (hRc (v4 - 1).toNat (by omega)).2.2.2.1) | (exfalso; omega)) (by first | exact (fun _ => p75.2.2) | (rw [show v4 = x1 by omega]; exact (fun q => absurd q (hn0 (by omega)).2)) | (exfalso; omega)) gc0 (LwG_b hK hV)) dX1_lastWith_2.2.1.2.2 (Nat.le_of_ble_eq_true rfl) rfl ?_
              rintro r81 h ⟨hF, p81⟩
              have hpk : ∀ y : Int, (v4 = x1 ∧ x2 ≠ -1 ∧ y = x2) ∨ (x1 < v4 ∧ y = XNc κ (v4 - 1).toNat 0) → nrm (κ 33 0) (κ 33 1) (stS κ (v4 - 1).toNat y (LwG κ x1 x2 v4)) = (LwG κ x1 x2 (v4 + 1)) := fun y hy => (LwG_s (by omega) (by omega) hy).symm
              have hp2 := p81.2
              first | rw [hpk _ (Or.inl ⟨by omega, by omega, rfl⟩)] at hp2 | rw [hpk _ (Or.inr ⟨by omega, p75.2.2⟩)] at hp2
              rw [show (v4 - 1).toNat + 1 = (v4 + 1 - 1).toNat by omega] at hp2
              have e54 : h 54 7 = _ := p81.1 54 7 (by intro c hc; simp at hc; omega) (by simp)
              have hsw : ShW κ h (h 54 7) := by rw [e54]; exact gc2.2.2.sh (by omega) (fun k i hk => p81.1 k i (by intro c hc; simp at hc; omega) (by rintro ⟨a, d⟩ hp e; have e2 : k = a := e; simp at hp; omega))
              have hsx : m0 ≤ h 54 7 ∧ h 54 7 ≤ κ 41 0 := by rw [e54]; exact ⟨gc2.1, gc2.2.1⟩
              refine zW_aload (pc' := 86) dX1_lastWith_2.2.2.1.1 rfl rfl ?_
              refine zW_astore_n (ls' := [_, _, _, _, _, _]) (pc' := 87) dX1_lastWith_2.2.2.1.2 (by decide) rfl rfl rfl ?_
              refine zW_iinc (ls' := [_, _, _, _, _, _]) (pc' := 90) dX1_lastWith_2.2.2.2.1 rfl (by decide) rfl rfl rfl ?_
              refine zV_goto 11 dX1_lastWith_2.2.2.2.2 rfl ?_
              refine zV_clr 5 (ls' := [_, _, _, _, _, _]) rfl ?_
              exact k11 _ _ _ hF (by omega) (by omega) (by omega) (by first | exact hp2 | (rw [LwG_0, show q4 = 56 + (x1 - 1).toNat by omega]; exact hs5) | (rw [show v4 = x1 by omega, LwG_sk (by omega)]; rw [show v4 = x1 by omega, LwG_0] at gc0; rw [show (x1 + 1 - 1).toNat = (x1 - 1).toNat + 1 by omega]; exact gc0.sk (hn1 (by omega)))) (by omega) (by first | exact ⟨hsx.1, hsx.2, hsw⟩ | exact ⟨by omega, p4.2.2.2.2.1, p4.2.2.2.2.2⟩ | exact gc2) (by omega)
        · refine zW_iload_n (pc' := 30) dX1_lastWith_1.1.1.1.1 rfl rfl ?_
          refine zW_iconst (pc' := 31) dX1_lastWith_1.1.1.1.2 rfl ?_
          refine zV_cm_eq (tgt := 87) (pc' := 34) dX1_lastWith_1.1.1.2.1 rfl rfl ⟨by omega, by omega⟩ ⟨by omega, by omega⟩ (fun c31 => ?_) (fun c31 => ?_)
          · refine zW_iinc (ls' := [_, _, _, _, _, _]) (pc' := 90) dX1_lastWith_2.2.2.2.1 rfl (by decide) rfl rfl rfl ?_
            refine zV_goto 11 dX1_lastWith_2.2.2.2.2 rfl ?_
            exact k11 _ _ _ hF (by omega) (by omega) (by omega) (by first | exact hp2 | (rw [LwG_0, show q4 = 56 + (x1 - 1).toNat by omega]; exact hs5) | (rw [show v4 = x1 by omega, LwG_sk (by omega)]; rw [show v4 = x1 by omega, LwG_0] at gc0; rw [show (x1 + 1 - 1).toNat = (x1 - 1).toNat + 1 by omega]; exact gc0.sk (hn1 (by omega)))) (by omega) (by first | exact ⟨hsx.1, hsx.2, hsw⟩ | exact ⟨by omega, p4.2.2.2.2.1, p4.2.2.2.2.2⟩ | exact gc2) (by omega)
          · refine zW_aload_n (pc' := 35) dX1_lastWith_1.1.1.2.2 rfl rfl ?_
            refine zW_aload_n (pc' := 36) dX1_lastWith_1.1.2.1.1 rfl rfl ?_
            refine zG_ref (pc' := 39) 69 fg_X1_18 tb54 rfl dX1_lastWith_1.1.2.1.2 rfl ?_
            refine zX_acmp_ne (tgt := 49) (pc' := 42) (by omega) (by omega) dX1_lastWith_1.1.2.2.1 rfl rfl (fun a39 => ?_) (fun a39 => ?_)
            · refine zW_aload_n (pc' := 50) dX1_lastWith_1.2.1.2.1 rfl rfl ?_
              refine zG_ref (pc' := 53) 69 fg_X1_18 tb54 rfl dX1_lastWith_1.2.1.2.2 rfl ?_
              refine zW_astore (ls' := [_, _, _, _, _, _]) (pc' := 55) dX1_lastWith_1.2.2.1.1 (by decide) rfl rfl rfl ?_
              refine zW_aload_n (pc' := 56) dX1_lastWith_1.2.2.1.2 rfl rfl ?_
              refine zW_iload (pc' := 58) dX1_lastWith_1.2.2.2.1 rfl rfl ?_
              refine zW_iload (pc' := 60) dX1_lastWith_1.2.2.2.2 rfl rfl ?_
              refine zW_iload_n (pc' := 61) dX1_lastWith_2.1.1.1.1 rfl rfl ?_
              refine zV_cm_ne (tgt := 68) (pc' := 64) dX1_lastWith_2.1.1.1.2 rfl rfl ⟨by omega, by omega⟩ ⟨by omega, by omega⟩ (fun c61 => ?_) (fun c61 => ?_)
              · refine zW_aload_n (pc' := 69) dX1_lastWith_2.1.2.1.1 rfl rfl ?_
                refine zG_ref (pc' := 72) 41 fg_X1_33 tb54 rfl dX1_lastWith_2.1.2.1.2 rfl ?_
                refine zW_iload (pc' := 74) dX1_lastWith_2.1.2.2.1 rfl rfl ?_
                refine zW_iconst (pc' := 75) dX1_lastWith_2.1.2.2.2 rfl ?_
                have hxb : ∀ j : Nat, 0 ≤ XNc κ (v4 - 1).toNat j ∧ XNc κ (v4 - 1).toNat j ≤ 255 := (hRc (v4 - 1).toNat (by omega)).2.2.1
                refine cvI2 (pc' := 78) kX7_numberOf vX7_numberOf lk_X1_70 ⟨Nat.le_of_ble_eq_true rfl, Nat.le_of_ble_eq_true rfl⟩ tb41 vq7 rfl rfl (s_X7_numberOfW hK hF _ ⟨by omega, by omega, by omega⟩ _ ⟨by omega, by omega⟩ hxb) dX1_lastWith_2.2.1.1.1 (Nat.le_of_ble_eq_true rfl) rfl ?_
                rintro r75 z75 ⟨hz75, p75⟩; subst z75
                refine zW_aload_n (pc' := 79) dX1_lastWith_2.2.1.1.2 rfl rfl ?_
                refine zW_aload (pc' := 81) dX1_lastWith_2.2.1.2.1 rfl rfl ?_
                refine cvV4 (pc' := 84) kX1_apply vX1_apply lk_X1_73 ⟨Nat.le_of_ble_eq_true rfl, Nat.le_of_ble_eq_true rfl⟩ tb54 vq1 rfl rfl (s_X1_applyW hK hF _ ⟨by omega, by omega, by omega⟩ _ ⟨by omega, by omega⟩ _ ⟨by omega, by omega⟩ _ ⟨by omega, by omega⟩ (LwG κ x1 x2 v4) (hTr.l (by omega)) (hTr.f (by omega)) (by first | omega | exact a39) hRc hE (by first | (rw [show v4 = x1 by omega]; exact (hn0 (by omega)).1) | (rw [p75.2.2]; exact (hRc (v4 - 1).toNat (by omega)).2.2.2.1) | (exfalso; omega)) (by first | exact (fun _ => p75.2.2) | (rw [show v4 = x1 by omega]; exact (fun q => absurd q (hn0 (by omega)).2)) | (exfalso; omega)) gc0 (LwG_b hK hV)) dX1_lastWith_2.2.1.2.2 (Nat.le_of_ble_eq_true rfl) rfl ?_
                rintro r81 h ⟨hF, p81⟩
                have hpk : ∀ y : Int, (v4 = x1 ∧ x2 ≠ -1 ∧ y = x2) ∨ (x1 < v4 ∧ y = XNc κ (v4 - 1).toNat 0) → nrm (κ 33 0) (κ 33 1) (stS κ (v4 - 1).toNat y (LwG κ x1 x2 v4)) = (LwG κ x1 x2 (v4 + 1)) := fun y hy => (LwG_s (by omega) (by omega) hy).symm
                have hp2 := p81.2
                first | rw [hpk _ (Or.inl ⟨by omega, by omega, rfl⟩)] at hp2 | rw [hpk _ (Or.inr ⟨by omega, p75.2.2⟩)] at hp2
                rw [show (v4 - 1).toNat + 1 = (v4 + 1 - 1).toNat by omega] at hp2
                have e54 : h 54 7 = _ := p81.1 54 7 (by intro c hc; simp at hc; omega) (by simp)
                have hsw : ShW κ h (h 54 7) := by rw [e54]; exact gc2.2.2.sh (by omega) (fun k i hk => p81.1 k i (by intro c hc; simp at hc; omega) (by rintro ⟨a, d⟩ hp e; have e2 : k = a := e; simp at hp; omega))
                have hsx : m0 ≤ h 54 7 ∧ h 54 7 ≤ κ 41 0 := by rw [e54]; exact ⟨gc2.1, gc2.2.1⟩
                refine zW_aload (pc' := 86) dX1_lastWith_2.2.2.1.1 rfl rfl ?_
                refine zW_astore_n (ls' := [_, _, _, _, _, _]) (pc' := 87) dX1_lastWith_2.2.2.1.2 (by decide) rfl rfl rfl ?_
                refine zW_iinc (ls' := [_, _, _, _, _, _]) (pc' := 90) dX1_lastWith_2.2.2.2.1 rfl (by decide) rfl rfl rfl ?_
                refine zV_goto 11 dX1_lastWith_2.2.2.2.2 rfl ?_
                refine zV_clr 5 (ls' := [_, _, _, _, _, _]) rfl ?_
                exact k11 _ _ _ hF (by omega) (by omega) (by omega) (by first | exact hp2 | (rw [LwG_0, show q4 = 56 + (x1 - 1).toNat by omega]; exact hs5) | (rw [show v4 = x1 by omega, LwG_sk (by omega)]; rw [show v4 = x1 by omega, LwG_0] at gc0; rw [show (x1 + 1 - 1).toNat = (x1 - 1).toNat + 1 by omega]; exact gc0.sk (hn1 (by omega)))) (by omega) (by first | exact ⟨hsx.1, hsx.2, hsw⟩ | exact ⟨by omega, p4.2.2.2.2.1, p4.2.2.2.2.2⟩ | exact gc2) (by omega)
              · refine zW_iload_n (pc' := 65) dX1_lastWith_2.1.1.2.1 rfl rfl ?_
                refine zV_goto 78 dX1_lastWith_2.1.1.2.2 rfl ?_
                refine zW_aload_n (pc' := 79) dX1_lastWith_2.2.1.1.2 rfl rfl ?_
                refine zW_aload (pc' := 81) dX1_lastWith_2.2.1.2.1 rfl rfl ?_
                refine cvV4 (pc' := 84) kX1_apply vX1_apply lk_X1_73 ⟨Nat.le_of_ble_eq_true rfl, Nat.le_of_ble_eq_true rfl⟩ tb54 vq1 rfl rfl (s_X1_applyW hK hF _ ⟨by omega, by omega, by omega⟩ _ ⟨by omega, by omega⟩ _ ⟨by omega, by omega⟩ _ ⟨by omega, by omega⟩ (LwG κ x1 x2 v4) (hTr.l (by omega)) (hTr.f (by omega)) (by first | omega | exact a39) hRc hE (by first | (rw [show v4 = x1 by omega]; exact (hn0 (by omega)).1) | (rw [p75.2.2]; exact (hRc (v4 - 1).toNat (by omega)).2.2.2.1) | (exfalso; omega)) (by first | exact (fun _ => p75.2.2) | (rw [show v4 = x1 by omega]; exact (fun q => absurd q (hn0 (by omega)).2)) | (exfalso; omega)) gc0 (LwG_b hK hV)) dX1_lastWith_2.2.1.2.2 (Nat.le_of_ble_eq_true rfl) rfl ?_
                rintro r81 h ⟨hF, p81⟩
                have hpk : ∀ y : Int, (v4 = x1 ∧ x2 ≠ -1 ∧ y = x2) ∨ (x1 < v4 ∧ y = XNc κ (v4 - 1).toNat 0) → nrm (κ 33 0) (κ 33 1) (stS κ (v4 - 1).toNat y (LwG κ x1 x2 v4)) = (LwG κ x1 x2 (v4 + 1)) := fun y hy => (LwG_s (by omega) (by omega) hy).symm
                have hp2 := p81.2
                first | rw [hpk _ (Or.inl ⟨by omega, by omega, rfl⟩)] at hp2 | rw [hpk _ (Or.inr ⟨by omega, p75.2.2⟩)] at hp2
                rw [show (v4 - 1).toNat + 1 = (v4 + 1 - 1).toNat by omega] at hp2
                have e54 : h 54 7 = _ := p81.1 54 7 (by intro c hc; simp at hc; omega) (by simp)
                have hsw : ShW κ h (h 54 7) := by rw [e54]; exact gc2.2.2.sh (by omega) (fun k i hk => p81.1 k i (by intro c hc; simp at hc; omega) (by rintro ⟨a, d⟩ hp e; have e2 : k = a := e; simp at hp; omega))
                have hsx : m0 ≤ h 54 7 ∧ h 54 7 ≤ κ 41 0 := by rw [e54]; exact ⟨gc2.1, gc2.2.1⟩
                refine zW_aload (pc' := 86) dX1_lastWith_2.2.2.1.1 rfl rfl ?_
                refine zW_astore_n (ls' := [_, _, _, _, _, _]) (pc' := 87) dX1_lastWith_2.2.2.1.2 (by decide) rfl rfl rfl ?_
                refine zW_iinc (ls' := [_, _, _, _, _, _]) (pc' := 90) dX1_lastWith_2.2.2.2.1 rfl (by decide) rfl rfl rfl ?_
                refine zV_goto 11 dX1_lastWith_2.2.2.2.2 rfl ?_
                refine zV_clr 5 (ls' := [_, _, _, _, _, _]) rfl ?_
                exact k11 _ _ _ hF (by omega) (by omega) (by omega) (by first | exact hp2 | (rw [LwG_0, show q4 = 56 + (x1 - 1).toNat by omega]; exact hs5) | (rw [show v4 = x1 by omega, LwG_sk (by omega)]; rw [show v4 = x1 by omega, LwG_0] at gc0; rw [show (x1 + 1 - 1).toNat = (x1 - 1).toNat + 1 by omega]; exact gc0.sk (hn1 (by omega)))) (by omega) (by first | exact ⟨hsx.1, hsx.2, hsw⟩ | exact ⟨by omega, p4.2.2.2.2.1, p4.2.2.2.2.2⟩ | exact gc2) (by omega)
            · refine zW_aload_n (pc' := 43) dX1_lastWith_1.1.2.2.2 rfl rfl ?_
              refine zG_ref (pc' := 46) 70 fg_X1_22 tb54 rfl dX1_lastWith_1.2.1.1.1 rfl ?_
              refine zV_goto 53 dX1_lastWith_1.2.1.1.2 rfl ?_
              refine zW_astore (ls' := [_, _, _, _, _, _]) (pc' := 55) dX1_lastWith_1.2.2.1.1 (by decide) rfl rfl rfl ?_
              refine zW_aload_n (pc' := 56) dX1_lastWith_1.2.2.1.2 rfl rfl ?_
              refine zW_iload (pc' := 58) dX1_lastWith_1.2.2.2.1 rfl rfl ?_
              refine zW_iload (pc' := 60) dX1_lastWith_1.2.2.2.2 rfl rfl ?_
              refine zW_iload_n (pc' := 61) dX1_lastWith_2.1.1.1.1 rfl rfl ?_
              refine zV_cm_ne (tgt := 68) (pc' := 64) dX1_lastWith_2.1.1.1.2 rfl rfl ⟨by omega, by omega⟩ ⟨by omega, by omega⟩ (fun c61 => ?_) (fun c61 => ?_)
              · refine zW_aload_n (pc' := 69) dX1_lastWith_2.1.2.1.1 rfl rfl ?_
                refine zG_ref (pc' := 72) 41 fg_X1_33 tb54 rfl dX1_lastWith_2.1.2.1.2 rfl ?_
                refine zW_iload (pc' := 74) dX1_lastWith_2.1.2.2.1 rfl rfl ?_
                refine zW_iconst (pc' := 75) dX1_lastWith_2.1.2.2.2 rfl ?_
                have hxb : ∀ j : Nat, 0 ≤ XNc κ (v4 - 1).toNat j ∧ XNc κ (v4 - 1).toNat j ≤ 255 := (hRc (v4 - 1).toNat (by omega)).2.2.1
                refine cvI2 (pc' := 78) kX7_numberOf vX7_numberOf lk_X1_70 ⟨Nat.le_of_ble_eq_true rfl, Nat.le_of_ble_eq_true rfl⟩ tb41 vq7 rfl rfl (s_X7_numberOfW hK hF _ ⟨by omega, by omega, by omega⟩ _ ⟨by omega, by omega⟩ hxb) dX1_lastWith_2.2.1.1.1 (Nat.le_of_ble_eq_true rfl) rfl ?_
                rintro r75 z75 ⟨hz75, p75⟩; subst z75
                refine zW_aload_n (pc' := 79) dX1_lastWith_2.2.1.1.2 rfl rfl ?_
                refine zW_aload (pc' := 81) dX1_lastWith_2.2.1.2.1 rfl rfl ?_
                refine cvV4 (pc' := 84) kX1_apply vX1_apply lk_X1_73 ⟨Nat.le_of_ble_eq_true rfl, Nat.le_of_ble_eq_true rfl⟩ tb54 vq1 rfl rfl (s_X1_applyW hK hF _ ⟨by omega, by omega, by omega⟩ _ ⟨by omega, by omega⟩ _ ⟨by omega, by omega⟩ _ ⟨by omega, by omega⟩ (LwG κ x1 x2 v4) (hTr.l (by omega)) (hTr.f (by omega)) (by first | omega | exact a39) hRc hE (by first | (rw [show v4 = x1 by omega]; exact (hn0 (by omega)).1) | (rw [p75.2.2]; exact (hRc (v4 - 1).toNat (by omega)).2.2.2.1) | (exfalso; omega)) (by first | exact (fun _ => p75.2.2) | (rw [show v4 = x1 by omega]; exact (fun q => absurd q (hn0 (by omega)).2)) | (exfalso; omega)) gc0 (LwG_b hK hV)) dX1_lastWith_2.2.1.2.2 (Nat.le_of_ble_eq_true rfl) rfl ?_
                rintro r81 h ⟨hF, p81⟩
                have hpk : ∀ y : Int, (v4 = x1 ∧ x2 ≠ -1 ∧ y = x2) ∨ (x1 < v4 ∧ y = XNc κ (v4 - 1).toNat 0) → nrm (κ 33 0) (κ 33 1) (stS κ (v4 - 1).toNat y (LwG κ x1 x2 v4)) = (LwG κ x1 x2 (v4 + 1)) := fun y hy => (LwG_s (by omega) (by omega) hy).symm
                have hp2 := p81.2
                first | rw [hpk _ (Or.inl ⟨by omega, by omega, rfl⟩)] at hp2 | rw [hpk _ (Or.inr ⟨by omega, p75.2.2⟩)] at hp2
                rw [show (v4 - 1).toNat + 1 = (v4 + 1 - 1).toNat by omega] at hp2
                have e54 : h 54 7 = _ := p81.1 54 7 (by intro c hc; simp at hc; omega) (by simp)
                have hsw : ShW κ h (h 54 7) := by rw [e54]; exact gc2.2.2.sh (by omega) (fun k i hk => p81.1 k i (by intro c hc; simp at hc; omega) (by rintro ⟨a, d⟩ hp e; have e2 : k = a := e; simp at hp; omega))
                have hsx : m0 ≤ h 54 7 ∧ h 54 7 ≤ κ 41 0 := by rw [e54]; exact ⟨gc2.1, gc2.2.1⟩
                refine zW_aload (pc' := 86) dX1_lastWith_2.2.2.1.1 rfl rfl ?_
                refine zW_astore_n (ls' := [_, _, _, _, _, _]) (pc' := 87) dX1_lastWith_2.2.2.1.2 (by decide) rfl rfl rfl ?_
                refine zW_iinc (ls' := [_, _, _, _, _, _]) (pc' := 90) dX1_lastWith_2.2.2.2.1 rfl (by decide) rfl rfl rfl ?_
                refine zV_goto 11 dX1_lastWith_2.2.2.2.2 rfl ?_
                refine zV_clr 5 (ls' := [_, _, _, _, _, _]) rfl ?_
                exact k11 _ _ _ hF (by omega) (by omega) (by omega) (by first | exact hp2 | (rw [LwG_0, show q4 = 56 + (x1 - 1).toNat by omega]; exact hs5) | (rw [show v4 = x1 by omega, LwG_sk (by omega)]; rw [show v4 = x1 by omega, LwG_0] at gc0; rw [show (x1 + 1 - 1).toNat = (x1 - 1).toNat + 1 by omega]; exact gc0.sk (hn1 (by omega)))) (by omega) (by first | exact ⟨hsx.1, hsx.2, hsw⟩ | exact ⟨by omega, p4.2.2.2.2.1, p4.2.2.2.2.2⟩ | exact gc2) (by omega)
              · refine zW_iload_n (pc' := 65) dX1_lastWith_2.1.1.2.1 rfl rfl ?_
                refine zV_goto 78 dX1_lastWith_2.1.1.2.2 rfl ?_
                refine zW_aload_n (pc' := 79) dX1_lastWith_2.2.1.1.2 rfl rfl ?_
                refine zW_aload (pc' := 81) dX1_lastWith_2.2.1.2.1 rfl rfl ?_
                refine cvV4 (pc' := 84) kX1_apply vX1_apply lk_X1_73 ⟨Nat.le_of_ble_eq_true rfl, Nat.le_of_ble_eq_true rfl⟩ tb54 vq1 rfl rfl (s_X1_applyW hK hF _ ⟨by omega, by omega, by omega⟩ _ ⟨by omega, by omega⟩ _ ⟨by omega, by omega⟩ _ ⟨by omega, by omega⟩ (LwG κ x1 x2 v4) (hTr.l (by omega)) (hTr.f (by omega)) (by first | omega | exact a39) hRc hE (by first | (rw [show v4 = x1 by omega]; exact (hn0 (by omega)).1) | (rw [p75.2.2]; exact (hRc (v4 - 1).toNat (by omega)).2.2.2.1) | (exfalso; omega)) (by first | exact (fun _ => p75.2.2) | (rw [show v4 = x1 by omega]; exact (fun q => absurd q (hn0 (by omega)).2)) | (exfalso; omega)) gc0 (LwG_b hK hV)) dX1_lastWith_2.2.1.2.2 (Nat.le_of_ble_eq_true rfl) rfl ?_
                rintro r81 h ⟨hF, p81⟩
                have hpk : ∀ y : Int, (v4 = x1 ∧ x2 ≠ -1 ∧ y = x2) ∨ (x1 < v4 ∧ y = XNc κ (v4 - 1).toNat 0) → nrm (κ 33 0) (κ 33 1) (stS κ (v4 - 1).toNat y (LwG κ x1 x2 v4)) = (LwG κ x1 x2 (v4 + 1)) := fun y hy => (LwG_s (by omega) (by omega) hy).symm
                have hp2 := p81.2
                first | rw [hpk _ (Or.inl ⟨by omega, by omega, rfl⟩)] at hp2 | rw [hpk _ (Or.inr ⟨by omega, p75.2.2⟩)] at hp2
                rw [show (v4 - 1).toNat + 1 = (v4 + 1 - 1).toNat by omega] at hp2
                have e54 : h 54 7 = _ := p81.1 54 7 (by intro c hc; simp at hc; omega) (by simp)
                have hsw : ShW κ h (h 54 7) := by rw [e54]; exact gc2.2.2.sh (by omega) (fun k i hk => p81.1 k i (by intro c hc; simp at hc; omega) (by rintro ⟨a, d⟩ hp e; have e2 : k = a := e; simp at hp; omega))
                have hsx : m0 ≤ h 54 7 ∧ h 54 7 ≤ κ 41 0 := by rw [e54]; exact ⟨gc2.1, gc2.2.1⟩
                refine zW_aload (pc' := 86) dX1_lastWith_2.2.2.1.1 rfl rfl ?_
                refine zW_astore_n (ls' := [_, _, _, _, _, _]) (pc' := 87) dX1_lastWith_2.2.2.1.2 (by decide) rfl rfl rfl ?_
                refine zW_iinc (ls' := [_, _, _, _, _, _]) (pc' := 90) dX1_lastWith_2.2.2.2.1 rfl (by decide) rfl rfl rfl ?_
                refine zV_goto 11 dX1_lastWith_2.2.2.2.2 rfl ?_
                refine zV_clr 5 (ls' := [_, _, _, _, _, _]) rfl ?_
                exact k11 _ _ _ hF (by omega) (by omega) (by omega) (by first | exact hp2 | (rw [LwG_0, show q4 = 56 + (x1 - 1).toNat by omega]; exact hs5) | (rw [show v4 = x1 by omega, LwG_sk (by omega)]; rw [show v4 = x1 by omega, LwG_0] at gc0; rw [show (x1 + 1 - 1).toNat = (x1 - 1).toNat + 1 by omega]; exact gc0.sk (hn1 (by omega)))) (by omega) (by first | exact ⟨hsx.1, hsx.2, hsw⟩ | exact ⟨by omega, p4.2.2.2.2.1, p4.2.2.2.2.2⟩ | exact gc2) (by omega)
  refine zM_of [some (.inr (.inr 54)), some (.inl x1), some (.inl x2), none, none, none] 3 rfl rfl (Nat.le_of_ble_eq_true rfl) rfl ?_
  refine zW_aload_n (pc' := 1) dX1_lastWith_0.1.1.1.1 rfl rfl ?_
  refine zW_iload_n (pc' := 2) dX1_lastWith_0.1.1.1.2 rfl rfl ?_
  refine zW_iconst (pc' := 3) dX1_lastWith_0.1.1.2.1 rfl ?_
  refine zW_isub (pc' := 4) dX1_lastWith_0.1.1.2.2 rfl ?_
  refine cvA1 (pc' := 7) kX1_sheetOf vX1_sheetOf lk_X1_77 ⟨Nat.le_of_ble_eq_true rfl, Nat.le_of_ble_eq_true rfl⟩ tb54 vq1 rfl rfl (hSm hK hF _ ⟨by omega, by omega⟩) dX1_lastWith_0.1.2.1.1 (Nat.le_of_ble_eq_true rfl) rfl ?_
  rintro r4 h ⟨hF, p4⟩
  obtain ⟨q4, z4⟩ : ∃ z : Nat, z = r4.toNat := ⟨_, rfl⟩
  rw [← z4]
  have hs4 := p4.2.2.1 (by omega) (by omega)
  have hs5 := p4.2.2.2.2.2 (x1 - 1).toNat (by omega)
  refine zW_astore_n (ls' := [_, _, _, _, _, _]) (pc' := 8) dX1_lastWith_0.1.2.1.2 (by decide) rfl rfl rfl ?_
  refine zW_iload_n (pc' := 9) dX1_lastWith_0.1.2.2.1 rfl rfl ?_
  refine zW_istore (ls' := [_, _, _, _, _, _]) (pc' := 11) dX1_lastWith_0.1.2.2.2 (by decide) rfl rfl rfl ?_
  exact (main 10000000000000000000000000000000000000000) _ _ _ hF (by omega) (by omega) (by omega) (by first | exact hp2 | (rw [LwG_0, show q4 = 56 + (x1 - 1).toNat by omega]; exact hs5) | (rw [show v4 = x1 by omega, LwG_sk (by omega)]; rw [show v4 = x1 by omega, LwG_0] at gc0; rw [show (x1 + 1 - 1).toNat = (x1 - 1).toNat + 1 by omega]; exact gc0.sk (hn1 (by omega)))) (by omega) (by first | exact ⟨hsx.1, hsx.2, hsw⟩ | exact ⟨by omega, p4.2.2.2.2.1, p4.2.2.2.2.2⟩ | exact gc2) (by omega)

abbrev q_X11_withoutZ (b : Bd) (κ : Hp) (x1 : Int) (x2 : Int) : Int → Hp → Prop := fun r h' => Fr b κ h' ∧ ((r = woQ (κ 33 0) (κ 33 1) (κ 33 2) (κ 41 0) (ltV (LC κ) (κ 41 0)) (bhV (LC κ) (κ 41 0)) (pcV (κ 41 0) (PFc κ)) (nmV (κ 41 0) (XNc κ)) (twV (κ 41 0) (LcG κ)) x1 x2))
set_option maxHeartbeats 4000000 in
set_option maxRecDepth 20000 in
theorem s_X11_withoutZ {G : Ga} {b : Bd} {κ h : Hp} (hK : KC κ) (hF : Fr b κ h) (x1 : Int) (hx1 : rng x1) (x2 : Int) (hx2 : rng x2) (hSm : SheetM b) (hTr : OkT b) (hRc : RecW κ) (hV : VOK (κ 34)) (hE : EaOK (LC κ) (κ 41 0)) (hfA : ∀ j : Nat, (j : Int) < κ 41 0 → (LC κ j = 102 ↔ (j : Int) + 1 = κ 41 1)) : zM G mX11_without yX11_without [.inr (.inr 30), .inl x1, .inl x2] h (q_X11_withoutZ b κ x1 x2) := by
  have f_33_0 := KCw hK
  have f_33_1 := KCh hK
  have f_33_2 := KCp hK
  have f_41_0 := KCm hK
  have f_41_1 := KCf hK
  unfold rng at hx1
  unfold rng at hx2
  refine zM_of [some (.inr (.inr 30)), some (.inl x1), some (.inl x2)] 0 rfl rfl (Nat.le_of_ble_eq_true rfl) rfl ?_
  refine zW_aload_n (pc' := 1) dX11_without_0.1.1.1.1 rfl rfl ?_
  refine zG_ref (pc' := 4) 41 fg_X11_33 tb30 rfl dX11_without_0.1.1.1.2 rfl ?_
  refine zW_iload_n (pc' := 5) dX11_without_0.1.1.2.1 rfl rfl ?_
  refine cvI1 (pc' := 8) kX7_has vX7_has lk_X11_178 ⟨Nat.le_of_ble_eq_true rfl, Nat.le_of_ble_eq_true rfl⟩ tb41 vq7 rfl rfl (s_X7_has hK hF _ ⟨by omega, by omega⟩) dX11_without_0.1.1.2.2 (Nat.le_of_ble_eq_true rfl) rfl ?_
  rintro r5 z5 ⟨hz5, p5⟩; subst z5
  refine zV_if_eq (tgt := 19) (pc' := 11) dX11_without_0.1.2.1.1 rfl rfl ⟨by omega, by omega⟩ (fun c8 => ?_) (fun c8 => ?_)
  · refine zW_iconst (pc' := 20) dX11_without_0.2.1.1.2 rfl ?_
    exact zV_iret rfl dX11_without_0.2.1.2.1 ⟨hF, (by unfold woQ; rw [if_neg (by omega)])⟩
  · refine zW_iload_n (pc' := 12) dX11_without_0.1.2.1.2 rfl rfl ?_
    refine zW_iconst (pc' := 13) dX11_without_0.1.2.2.1 rfl ?_
    refine csI2 (pc' := 16) kX11_isWithin vX11_isWithin lk_X11_116 ⟨Nat.le_of_ble_eq_true rfl, Nat.le_of_ble_eq_true rfl⟩ rfl (s_X11_isWithinR hF _ ⟨by omega, by omega⟩ _ ⟨by omega, by omega⟩) dX11_without_0.1.2.2.2 (Nat.le_of_ble_eq_true rfl) rfl ?_
    rintro r13 z13 ⟨hz13, p13⟩; subst z13
    refine zV_if_ne (tgt := 21) (pc' := 19) dX11_without_0.2.1.1.1 rfl rfl ⟨by omega, by omega⟩ (fun c16 => ?_) (fun c16 => ?_)
    · refine zW_iload_n (pc' := 22) dX11_without_0.2.1.2.2 rfl rfl ?_
      refine zW_aload_n (pc' := 23) dX11_without_0.2.2.1.1 rfl rfl ?_
      refine zG_ref (pc' := 26) 41 fg_X11_33 tb30 rfl dX11_without_0.2.2.1.2 rfl ?_
      refine zG_key (pc' := 29) hF rfl fg_X11_248 tb41 rfl dX11_without_0.2.2.2.1 rfl ?_
      refine zV_cm_ne (tgt := 35) (pc' := 32) dX11_without_0.2.2.2.2 rfl rfl ⟨by omega, by omega⟩ ⟨by omega, by omega⟩ (fun c29 => ?_) (fun c29 => ?_)
      · have hfk := hfA (x1 - 1).toNat (by omega)
        have hl : LC κ (x1 - 1).toNat ≠ 102 := by omega
        refine zW_aload_n (pc' := 36) dX11_without_1.1.1.2.1 rfl rfl ?_
        refine zG_ref (pc' := 39) 95 fg_X11_60 tb30 rfl dX11_without_1.1.1.2.2 rfl ?_
        refine zW_aload_n (pc' := 40) dX11_without_1.1.2.1.1 rfl rfl ?_
        refine zG_ref (pc' := 43) 54 fg_X11_51 tb30 rfl dX11_without_1.1.2.1.2 rfl ?_
        refine zW_aload_n (pc' := 44) dX11_without_1.1.2.2.1 rfl rfl ?_
        refine zG_ref (pc' := 47) 41 fg_X11_33 tb30 rfl dX11_without_1.1.2.2.2 rfl ?_
        refine zG_key (pc' := 50) hF rfl fg_X11_379 tb41 rfl dX11_without_1.2.1.1.1 rfl ?_
        refine cvA1 (pc' := 53) kX1_sheetOf vX1_sheetOf lk_X11_192 ⟨Nat.le_of_ble_eq_true rfl, Nat.le_of_ble_eq_true rfl⟩ tb54 vq1 rfl rfl (hSm hK hF _ ⟨by omega, by omega⟩) dX11_without_1.2.1.1.2 (Nat.le_of_ble_eq_true rfl) rfl ?_
        rintro r50 h ⟨hF, p50⟩
        obtain ⟨q50, z50⟩ : ∃ z : Nat, z = r50.toNat := ⟨_, rfl⟩
        rw [← z50]
        have hq1 := (p50.2.2.1 (by omega) (by omega)).1
        have hm1 := (p50.2.2.1 (by omega) (by omega)).2
        refine zW_aload_n (pc' := 54) dX11_without_1.2.1.2.1 rfl rfl ?_
        refine zG_ref (pc' := 57) 54 fg_X11_51 tb30 rfl dX11_without_1.2.1.2.2 rfl ?_
        refine zW_iload_n (pc' := 58) dX11_without_1.2.2.1.1 rfl rfl ?_
        refine zW_iconst (pc' := 59) dX11_without_1.2.2.1.2 rfl ?_
        refine cvA2 (pc' := 62) kX1_lastWith vX1_lastWith lk_X11_380 ⟨Nat.le_of_ble_eq_true rfl, Nat.le_of_ble_eq_true rfl⟩ tb54 vq1 rfl rfl (s_X1_lastWithWM hK hF _ ⟨by omega, by omega, by omega⟩ _ ⟨by omega, by omega⟩ (h 54 7) hSm hTr hRc hE hV (fun q => by omega) (fun _ => hl) rfl) dX11_without_1.2.2.2.1 (Nat.le_of_ble_eq_true rfl) rfl ?_
        rintro r59 h ⟨hF, p59⟩
        obtain ⟨q59, z59⟩ : ∃ z : Nat, z = r59.toNat := ⟨_, rfl⟩
        rw [← z59]
        have hk1 := p59.2.2.2.2.2 (κ 41 0).toNat (by omega)
        rw [show 56 + (κ 41 0).toNat = q50 by omega] at hk1
        have hk2 : PkS κ h q59 (κ 41 0).toNat (LcG κ x1 (-1)) := by rw [z59]; exact p59.2.2.1
        have hl1 := PkS_fl hk1
        have hl2 := PkS_fl hk2
        have hbc := bhI_c (LC κ) (κ 41 0).toNat
        refine cvV2 (pc' := 65) kX4_compare vX4_compare lk_X11_369 ⟨Nat.le_of_ble_eq_true rfl, Nat.le_of_ble_eq_true rfl⟩ tb95 vq4 rfl rfl (s_X4_compareZ hK hF _ ⟨by omega, by omega⟩ _ ⟨by omega, by omega⟩ (PFc κ (κ 41 0).toNat) (LcG κ x1 (-1)) (bhI (LC κ) (κ 41 0).toNat) h (by omega) hl1 hl2 (PkS_pl hk1 rfl) (PkS_pl hk2 rfl) (PFc_b hK hV _) (LwG_b hK hV) Fw.rf) dX11_without_1.2.2.2.2 (Nat.le_of_ble_eq_true rfl) rfl ?_
        rintro r62 h ⟨hF, d62, p62⟩
        refine zW_iload_n (pc' := 66) dX11_without_2.1.1.1.1 rfl rfl ?_
        refine zV_if_ne (tgt := 79) (pc' := 69) dX11_without_2.1.1.1.2 rfl rfl ⟨by omega, by omega⟩ (fun c66 => ?_) (fun c66 => ?_)
        · refine zW_aload_n (pc' := 80) dX11_without_2.2.1.1.2 rfl rfl ?_
          refine zG_ref (pc' := 83) 95 fg_X11_60 tb30 rfl dX11_without_2.2.1.2 rfl ?_
          refine zG_int (pc' := 86) fg_X11_376 tb95 rfl dX11_without_2.2.2.1 rfl ?_
          exact zV_iret rfl dX11_without_2.2.2.2 ⟨hF, (by unfold woQ; rw [if_pos ⟨by omega, by omega, by omega, by omega⟩, ltV_in ⟨by omega, by omega⟩, if_neg hl, bhV_in ⟨by omega, by omega⟩, pcV_in ⟨by omega, by omega⟩, twV_in ⟨by omega, by omega⟩]; unfold ulR; first | (rw [if_pos (by omega)]; exact p62.1) | (rw [if_neg (by omega)]; exact p62.2))⟩
        · refine zW_aload_n (pc' := 70) dX11_without_2.1.1.2 rfl rfl ?_
          refine zG_ref (pc' := 73) 95 fg_X11_60 tb30 rfl dX11_without_2.1.2.1 rfl ?_
          refine zG_int (pc' := 76) fg_X11_373 tb95 rfl dX11_without_2.1.2.2 rfl ?_
          refine zV_goto 86 dX11_without_2.2.1.1.1 rfl ?_
          exact zV_iret rfl dX11_without_2.2.2.2 ⟨hF, (by unfold woQ; rw [if_pos ⟨by omega, by omega, by omega, by omega⟩, ltV_in ⟨by omega, by omega⟩, if_neg hl, bhV_in ⟨by omega, by omega⟩, pcV_in ⟨by omega, by omega⟩, twV_in ⟨by omega, by omega⟩]; unfold ulR; first | (rw [if_pos (by omega)]; exact p62.1) | (rw [if_neg (by omega)]; exact p62.2))⟩
      · refine zW_bipush (pc' := 34) dX11_without_1.1.1.1.1 rfl rfl ?_
        exact zV_iret rfl dX11_without_1.1.1.1.2 ⟨hF, (by have hfk := hfA (x1 - 1).toNat (by omega); have hl : LC κ (x1 - 1).toNat = 102 := (by omega); exact (by unfold woQ; rw [if_pos ⟨by omega, by omega, by omega, by omega⟩, ltV_in ⟨by omega, by omega⟩, if_pos hl]))⟩
    · refine zW_iconst (pc' := 20) dX11_without_0.2.1.1.2 rfl ?_
      exact zV_iret rfl dX11_without_0.2.1.2.1 ⟨hF, (by unfold woQ; rw [if_neg (by omega)])⟩
