/-! the dead squares, place by place -/
theorem zwr_pt {h : Hp} {k i j : Nat} {v x : Int} (e : x = zwr h k i v k j) : (j = i → x = v) ∧ (j ≠ i → x = h k j) := by
  refine ⟨fun q => ?_, fun q => ?_⟩
  · subst q; exact e.trans zwr_eq
  · exact e.trans (zwr_ne (Or.inr q))
theorem zcp_pt {h : Hp} {a c n j : Nat} {x : Int} (e : x = zcp h a c 0 n c j) : (j < n → x = h a j) ∧ (n ≤ j → x = h c j) := by
  refine ⟨fun q => ?_, fun q => ?_⟩
  · exact e.trans (zcp_in ⟨Nat.zero_le _, by omega⟩)
  · exact e.trans (zcp_out (by omega))
/-- how many of the first n are not 0 -/
def cntZ (f : Nat → Int) : Nat → Int
  | 0 => 0
  | n + 1 => cntZ f n + (if f n = 0 then 0 else 1)
theorem cntZ_step {f : Nat → Int} {v : Int} (h : 0 ≤ v) : cntZ f (v + 1).toNat = cntZ f v.toNat + (if f v.toNat = 0 then 0 else 1) := by
  rw [show (v + 1).toNat = v.toNat + 1 by omega]
  rfl
/-- a row's sum, and the sum of rows -/
def smR (f : Nat → Int) (y : Nat) : Nat → Int
  | 0 => 0
  | n + 1 => smR f y n + f (16 * y + n)
def smS (f : Nat → Int) (w : Nat) : Nat → Int
  | 0 => 0
  | n + 1 => smS f w n + smR f n w
theorem smR_step {f : Nat → Int} {y v : Int} (hy : 0 ≤ y) (h : 0 ≤ v) : smR f y.toNat (v + 1).toNat = smR f y.toNat v.toNat + f (y * 16 + v).toNat := by
  rw [show (v + 1).toNat = v.toNat + 1 by omega, show (y * 16 + v).toNat = 16 * y.toNat + v.toNat by omega]
  rfl
theorem smS_step {f : Nat → Int} {w : Nat} {v : Int} (h : 0 ≤ v) : smS f w (v + 1).toNat = smS f w v.toNat + smR f v.toNat w := by
  rw [show (v + 1).toNat = v.toNat + 1 by omega]
  rfl
theorem smR_cong {f g : Nat → Int} {y : Nat} : ∀ n, n ≤ 16 → (∀ x, x < n → f (16 * y + x) = g (16 * y + x)) → smR f y n = smR g y n
  | 0, _, _ => rfl
  | n + 1, hn, h => by
    show smR f y n + f (16 * y + n) = smR g y n + g (16 * y + n)
    rw [smR_cong n (by omega) (fun x hx => h x (by omega)), h n (by omega)]
theorem smR_more {f : Nat → Int} {y w : Nat} : ∀ n, (∀ x, w ≤ x → x < w + n → f (16 * y + x) = 0) → smR f y (w + n) = smR f y w
  | 0, _ => rfl
  | n + 1, h => by
    show smR f y (w + n) + f (16 * y + (w + n)) = smR f y w
    rw [smR_more n (fun x h1 h2 => h x h1 (by omega)), h (w + n) (by omega) (by omega)]
    omega
theorem smR_zero {f : Nat → Int} {y : Nat} : ∀ n, (∀ x, x < n → f (16 * y + x) = 0) → smR f y n = 0
  | 0, _ => rfl
  | n + 1, h => by
    show smR f y n + f (16 * y + n) = 0
    rw [smR_zero n (fun x hx => h x (by omega)), h n (by omega)]
    rfl
theorem smS_cong {f g : Nat → Int} {w w' : Nat} : ∀ n, (∀ y, y < n → smR f y w = smR g y w') → smS f w n = smS g w' n
  | 0, _ => rfl
  | n + 1, h => by
    show smS f w n + smR f n w = smS g w' n + smR g n w'
    rw [smS_cong n (fun y hy => h y (by omega)), h n (by omega)]
theorem smS_more {f : Nat → Int} {w h : Nat} : ∀ n, (∀ y, h ≤ y → y < h + n → smR f y w = 0) → smS f w (h + n) = smS f w h
  | 0, _ => rfl
  | n + 1, e => by
    show smS f w (h + n) + smR f (h + n) w = smS f w h
    rw [smS_more n (fun y h1 h2 => e y h1 (by omega)), e (h + n) (by omega) (by omega)]
    omega
theorem cnt_row {f : Nat → Int} (hb : ∀ j, f j = 0 ∨ f j = 1) (y : Nat) : ∀ n, cntZ f (16 * y + n) = cntZ f (16 * y) + smR f y n
  | 0 => by show cntZ f (16 * y) = cntZ f (16 * y) + 0; omega
  | n + 1 => by
    show cntZ f (16 * y + n) + (if f (16 * y + n) = 0 then 0 else 1) = cntZ f (16 * y) + (smR f y n + f (16 * y + n))
    rw [cnt_row hb y n]
    rcases hb (16 * y + n) with e | e
    · rw [if_pos e]; omega
    · rw [if_neg (by omega)]; omega
theorem cnt_all {f : Nat → Int} (hb : ∀ j, f j = 0 ∨ f j = 1) : ∀ n, cntZ f (16 * n) = smS f 16 n
  | 0 => rfl
  | n + 1 => by
    rw [show 16 * (n + 1) = 16 * n + 16 by omega, cnt_row hb n 16, cnt_all hb n]
    rfl
/-- counted over all, or summed over the squares that there are -/
theorem cnt_sum {f g : Nat → Int} {W H : Nat} (hb : ∀ j, f j = 0 ∨ f j = 1) (hW : W ≤ 16) (hH : H ≤ 16) (he : ∀ j, j < 256 → f j = g j) (h0 : ∀ j, j < 256 → (W ≤ j % 16 ∨ H ≤ j / 16) → f j = 0) : cntZ f 256 = smS g W H := by
  rw [show (256 : Nat) = 16 * 16 from rfl, cnt_all hb 16]
  have e1 : smS f 16 16 = smS f 16 H := by
    have := smS_more (f := f) (w := 16) (h := H) (16 - H) (fun y h1 h2 => smR_zero 16 (fun x hx => h0 _ (by omega) (Or.inr (by omega))))
    rwa [show H + (16 - H) = 16 by omega] at this
  rw [e1]
  refine smS_cong H (fun y hy => ?_)
  have e2 : smR f y 16 = smR f y W := by
    have := smR_more (f := f) (y := y) (w := W) (16 - W) (fun x h1 h2 => h0 _ (by omega) (Or.inl (by omega)))
    rwa [show W + (16 - W) = 16 by omega] at this
  rw [e2]
  exact smR_cong W hW (fun x hx => he _ (by omega))
