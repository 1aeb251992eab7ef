/-! the greatest over the squares -/
def mxR (t : Int → Int → Int) (y : Int) : Nat → Int
  | 0 => 0
  | n + 1 => max2 (mxR t y n) (t n y)
def mxS (t : Int → Int → Int) (w : Nat) : Nat → Int
  | 0 => 0
  | n + 1 => max2 (mxS t w n) (mxR t n w)
theorem mxR_s {t : Int → Int → Int} {y v : Int} (h : 0 ≤ v) : mxR t y (v + 1).toNat = max2 (mxR t y v.toNat) (t v y) := by
  rw [show (v + 1).toNat = v.toNat + 1 by omega]
  show max2 (mxR t y v.toNat) (t ((v.toNat : Nat) : Int) y) = _
  rw [show ((v.toNat : Nat) : Int) = v by omega]
theorem mxS_s {t : Int → Int → Int} {w : Nat} {v : Int} (h : 0 ≤ v) : mxS t w (v + 1).toNat = max2 (mxS t w v.toNat) (mxR t v w) := by
  rw [show (v + 1).toNat = v.toNat + 1 by omega]
  show max2 (mxS t w v.toNat) (mxR t ((v.toNat : Nat) : Int) w) = _
  rw [show ((v.toNat : Nat) : Int) = v by omega]
theorem max2_as {a b c : Int} : max2 (max2 a b) c = max2 a (max2 b c) := by
  have h1 := max2c a b
  have h2 := max2c (max2 a b) c
  have h3 := max2c b c
  have h4 := max2c a (max2 b c)
  omega
theorem max2_0 {a : Int} (h : 0 ≤ a) : max2 a 0 = a := by
  have h1 := max2c a 0
  omega
theorem mxS_n {t : Int → Int → Int} {w : Nat} : ∀ n : Nat, 0 ≤ mxS t w n
  | 0 => Int.le_refl 0
  | n + 1 => by
    have a := mxS_n (t := t) (w := w) n
    have b := max2c (mxS t w n) (mxR t n w)
    show 0 ≤ max2 (mxS t w n) (mxR t n w)
    omega













