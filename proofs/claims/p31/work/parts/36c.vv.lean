/-! tape and values, place by place -/
def by0 (a : Int) : Int := a % 256
def by1 (a : Int) : Int := a / 256 % 256
def by2 (a : Int) : Int := a / 65536 % 256
def by3 (a : Int) : Int := a / 16777216 % 256
theorem i2bE {a : Int} (ha : rng a) : (Int32.ofInt a).toInt8.toInt32.toInt % 256 = a % 256 := by
  rw [Int8.toInt_toInt32, Int32.toInt_toInt8, ti32 ha]
  exact Int.bmod_emod
theorem shrA {a n : Int} (ha : rng a) (hn : 0 ≤ n ∧ n ≤ 31) : (Int32.ofInt a >>> (Int32.ofInt n &&& 31)).toInt = a / 2 ^ n.toNat := by
  obtain ⟨k, rfl⟩ := Int.eq_ofNat_of_zero_le hn.1
  have hk : k < 32 := by omega
  have e2 : ((Int32.ofInt (k : Int) &&& 31).toBitVec.smod 32).toNat = k := by
    have key : ∀ j : Fin 32, ((Int32.ofInt ((j : Nat) : Int) &&& 31).toBitVec.smod 32).toNat = (j : Nat) := by decide +kernel
    exact key ⟨k, hk⟩
  show ((Int32.ofInt a).toBitVec.sshiftRight ((Int32.ofInt (k : Int) &&& 31).toBitVec.smod 32).toNat).toInt = _
  rw [e2, BitVec.toInt_sshiftRight]
  have e3 : (Int32.ofInt a).toBitVec.toInt = a := ti32 ha
  rw [e3, Int.shiftRight_eq_div_pow]
  simp
theorem ush1 (x : UInt32) : x.toInt32.toInt % 256 = (x.toNat : Int) % 256 := by
  have e0 : x.toInt32.toInt = x.toBitVec.toInt := rfl
  have e1 : x.toNat = x.toBitVec.toNat := rfl
  rw [e0, e1, BitVec.toInt_eq_toNat_cond]
  split <;> omega
theorem ush2 {a : Int} : (Int32.ofInt a).toUInt32.toNat = (a % 4294967296).toNat := by
  show (BitVec.ofInt 32 a).toNat = _
  rw [BitVec.toNat_ofInt]
  rfl
theorem ushB {a n : Int} (hn : n = 0 ∨ n = 8 ∨ n = 16 ∨ n = 24) : (n = 0 ∧ ((Int32.ofInt a).toUInt32 >>> ((Int32.ofInt n).toUInt32 &&& Int32.toUInt32 31)).toInt32.toInt % 256 = a % 256) ∨ (n = 8 ∧ ((Int32.ofInt a).toUInt32 >>> ((Int32.ofInt n).toUInt32 &&& Int32.toUInt32 31)).toInt32.toInt % 256 = a / 256 % 256) ∨ (n = 16 ∧ ((Int32.ofInt a).toUInt32 >>> ((Int32.ofInt n).toUInt32 &&& Int32.toUInt32 31)).toInt32.toInt % 256 = a / 65536 % 256) ∨ (n = 24 ∧ ((Int32.ofInt a).toUInt32 >>> ((Int32.ofInt n).toUInt32 &&& Int32.toUInt32 31)).toInt32.toInt % 256 = a / 16777216 % 256) := by
  rcases hn with rfl | rfl | rfl | rfl
  · refine Or.inl ⟨rfl, ?_⟩
    rw [show (Int32.ofInt 0).toUInt32 &&& Int32.toUInt32 31 = 0 by decide, ush1, UInt32.toNat_shiftRight, ush2, show (0 : UInt32).toNat % 32 = 0 by decide, Nat.shiftRight_zero]
    omega
  · refine Or.inr (Or.inl ⟨rfl, ?_⟩)
    rw [show (Int32.ofInt 8).toUInt32 &&& Int32.toUInt32 31 = 8 by decide, ush1, UInt32.toNat_shiftRight, ush2, show (8 : UInt32).toNat % 32 = 8 by decide, Nat.shiftRight_eq_div_pow]
    omega
  · refine Or.inr (Or.inr (Or.inl ⟨rfl, ?_⟩))
    rw [show (Int32.ofInt 16).toUInt32 &&& Int32.toUInt32 31 = 16 by decide, ush1, UInt32.toNat_shiftRight, ush2, show (16 : UInt32).toNat % 32 = 16 by decide, Nat.shiftRight_eq_div_pow]
    omega
  · refine Or.inr (Or.inr (Or.inr ⟨rfl, ?_⟩))
    rw [show (Int32.ofInt 24).toUInt32 &&& Int32.toUInt32 31 = 24 by decide, ush1, UInt32.toNat_shiftRight, ush2, show (24 : UInt32).toNat % 32 = 24 by decide, Nat.shiftRight_eq_div_pow]
    omega
theorem and255 {a : Int} : (Int32.ofInt a &&& Int32.ofInt 255).toInt = a % 256 := by
  have e1 : (Int32.ofInt a &&& Int32.ofInt 255).toBitVec.toNat = (a % 4294967296).toNat % 256 := by
    rw [Int32.toBitVec_and, BitVec.toNat_and]
    show (BitVec.ofInt 32 a).toNat &&& (2 ^ 8 - 1) = _
    rw [Nat.and_two_pow_sub_one_eq_mod, BitVec.toNat_ofInt]
    rfl
  have e2 : (Int32.ofInt a &&& Int32.ofInt 255).toInt = ((Int32.ofInt a &&& Int32.ofInt 255).toBitVec).toInt := rfl
  rw [e2, BitVec.toInt_eq_toNat_of_lt (by rw [e1]; omega), e1]
  omega
theorem and1 {a : Int} : (Int32.ofInt a &&& Int32.ofInt 1).toInt = a % 2 := by
  have e1 : (Int32.ofInt a &&& Int32.ofInt 1).toBitVec.toNat = (a % 4294967296).toNat % 2 := by
    rw [Int32.toBitVec_and, BitVec.toNat_and]
    show (BitVec.ofInt 32 a).toNat &&& 1 = _
    rw [Nat.and_one_is_mod, BitVec.toNat_ofInt]
    rfl
  have e2 : (Int32.ofInt a &&& Int32.ofInt 1).toInt = ((Int32.ofInt a &&& Int32.ofInt 1).toBitVec).toInt := rfl
  rw [e2, BitVec.toInt_eq_toNat_of_lt (by rw [e1]; omega), e1]
  omega
theorem zW_iand1 {G : Ga} {μ : Mt} {Q : Int → Hp → Prop} {pc pc' : Nat} {ls : Lo} {st : List Sv} {h : Hp} {a : Int} (hd : decode μ.1 pc = .ok (.iand, 1)) (hn : pc + 1 = pc') (kk : ∀ v : Int, v = a % 2 → zV G μ Q pc' ls (.inl v :: st) h) : zV G μ Q pc ls (.inl 1 :: .inl a :: st) h := by
  subst hn
  intro p e s m args below meth c0 H locs lsA C hP hS hL
  exact lv_iand C.1 C.2.1 hd (zV_any32 C hP hS hL (kk _ and1))
section RV
variable {G : Ga} {μ : Mt} {Q : Int → Hp → Prop} {pc pc' : Nat} {ls : Lo} {st : List Sv} {h : Hp}
theorem zW_i2bE {a : Int} (ha : rng a) (hd : decode μ.1 pc = .ok (.i2b, 1)) (hn : pc + 1 = pc') (kk : ∀ v : Int, (-128 ≤ v ∧ v ≤ 127) ∧ v % 256 = a % 256 → zV G μ Q pc' ls (.inl v :: st) h) : zV G μ Q pc ls (.inl a :: st) h := by
  subst hn
  intro p e s m args below meth c H locs lsA C hP hS hL
  refine lv_i2b C.1 C.2.1 hd rfl (zV_any32 C hP hS hL (kk _ ⟨?_, i2bE ha⟩))
  have h1 := Int8.le_toInt (Int32.ofInt a).toInt8
  have h2 := Int8.toInt_lt (Int32.ofInt a).toInt8
  rw [Int8.toInt_toInt32]
  constructor <;> omega
theorem zW_ishrB {a n : Int} (ha : rng a) (hb : n = 0 ∨ n = 8 ∨ n = 16 ∨ n = 24) (hd : decode μ.1 pc = .ok (.ishr, 1)) (hn : pc + 1 = pc') (kk : ∀ v : Int, rng v → (n = 0 ∧ v % 256 = by0 a) ∨ (n = 8 ∧ v % 256 = by1 a) ∨ (n = 16 ∧ v % 256 = by2 a) ∨ (n = 24 ∧ v % 256 = by3 a) → zV G μ Q pc' ls (.inl v :: st) h) : zV G μ Q pc ls (.inl n :: .inl a :: st) h := by
  subst hn
  intro p e s m args below meth c H locs lsA C hP hS hL
  refine lv_ishr C.1 C.2.1 hd (zV_any32 C hP hS hL (kk _ (rg32 _) ?_))
  rw [shrA ha (by omega)]
  rcases hb with rfl | rfl | rfl | rfl
  · exact Or.inl ⟨rfl, by show a / 1 % 256 = a % 256; omega⟩
  · exact Or.inr (Or.inl ⟨rfl, rfl⟩)
  · exact Or.inr (Or.inr (Or.inl ⟨rfl, rfl⟩))
  · exact Or.inr (Or.inr (Or.inr ⟨rfl, rfl⟩))
theorem zW_iushrB {a n : Int} (hb : n = 0 ∨ n = 8 ∨ n = 16 ∨ n = 24) (hd : decode μ.1 pc = .ok (.iushr, 1)) (hn : pc + 1 = pc') (kk : ∀ v : Int, rng v → (n = 0 ∧ v % 256 = by0 a) ∨ (n = 8 ∧ v % 256 = by1 a) ∨ (n = 16 ∧ v % 256 = by2 a) ∨ (n = 24 ∧ v % 256 = by3 a) → zV G μ Q pc' ls (.inl v :: st) h) : zV G μ Q pc ls (.inl n :: .inl a :: st) h := by
  subst hn
  intro p e s m args below meth c H locs lsA C hP hS hL
  exact lv_iushr C.1 C.2.1 hd rfl (zV_any32 C hP hS hL (kk _ (rg32 _) (ushB hb)))
theorem zW_iand255 {a : Int} (hd : decode μ.1 pc = .ok (.iand, 1)) (hn : pc + 1 = pc') (kk : ∀ v : Int, v = a % 256 → zV G μ Q pc' ls (.inl v :: st) h) : zV G μ Q pc ls (.inl 255 :: .inl a :: st) h := by
  subst hn
  intro p e s m args below meth c0 H locs lsA C hP hS hL
  exact lv_iand C.1 C.2.1 hd (zV_any32 C hP hS hL (kk _ and255))
end RV
/-- X, drawn again and again; the draws of a row, of rows -/
def stX (s : Int) : Int := (25173 * s + 13849) % 65536
def drR (s : Int) : Nat → Int
  | 0 => s
  | n + 1 => stX (drR s n)
def drS (s : Int) (w : Nat) : Nat → Int
  | 0 => s
  | n + 1 => drR (drS s w n) w
theorem drR_step {s v : Int} (h : 0 ≤ v) : drR s (v + 1).toNat = stX (drR s v.toNat) := by
  rw [show (v + 1).toNat = v.toNat + 1 by omega]
  rfl
theorem drS_step {s v : Int} {w : Nat} (h : 0 ≤ v) : drS s w (v + 1).toNat = drR (drS s w v.toNat) w := by
  rw [show (v + 1).toNat = v.toNat + 1 by omega]
  rfl
/-- what a scene lays at a square -/
def scF (k a b W H P s x y : Int) : Int :=
  if k = 4 then (a + stX (drR (drS s W.toNat y.toNat) x.toNat) % (b + 1)) % 256
  else if k = 1 then (a * x + b * y) % 256
  else if k = 2 then (if 2 * x < W then a else b)
  else if k = 3 then (if 2 * (x + y) < W + H then a else b)
  else if k = 5 then (if (x + P) % 2 + (y + P / 2) % 2 = 0 then b else a)
  else if k = 6 then (if x % 2 = 0 then a else b)
  else a
theorem scF_of {k a b W H P s x y r : Int} (hk : 0 ≤ k ∧ k ≤ 6) (h4 : k = 4 → r = (a + stX (drR (drS s W.toNat y.toNat) x.toNat) % (b + 1)) % 256) (h : (k = 0 → r = a) ∧ (k = 1 → r = (a * x + b * y) % 256) ∧ (k = 2 → 2 * x < W → r = a) ∧ (k = 2 → ¬ 2 * x < W → r = b) ∧ (k = 3 → 2 * (x + y) < W + H → r = a) ∧ (k = 3 → ¬ 2 * (x + y) < W + H → r = b) ∧ (k = 5 → (x + P) % 2 + (y + P / 2) % 2 = 0 → r = b) ∧ (k = 5 → ¬ (x + P) % 2 + (y + P / 2) % 2 = 0 → r = a) ∧ (k = 6 → x % 2 = 0 → r = a) ∧ (k = 6 → ¬ x % 2 = 0 → r = b)) : r = scF k a b W H P s x y := by
  obtain ⟨h0, h1, h2, h2', h3, h3', h5, h5', h6, h6'⟩ := h
  unfold scF
  by_cases e4 : k = 4
  · rw [if_pos e4]; exact h4 e4
  rw [if_neg e4]
  by_cases e1 : k = 1
  · rw [if_pos e1]; exact h1 e1
  rw [if_neg e1]
  by_cases e2 : k = 2
  · rw [if_pos e2]; split
    · exact h2 e2 (by assumption)
    · exact h2' e2 (by assumption)
  rw [if_neg e2]
  by_cases e3 : k = 3
  · rw [if_pos e3]; split
    · exact h3 e3 (by assumption)
    · exact h3' e3 (by assumption)
  rw [if_neg e3]
  by_cases e5 : k = 5
  · rw [if_pos e5]; split
    · exact h5 e5 (by assumption)
    · exact h5' e5 (by assumption)
  rw [if_neg e5]
  by_cases e6 : k = 6
  · rw [if_pos e6]; split
    · exact h6 e6 (by assumption)
    · exact h6' e6 (by assumption)
  rw [if_neg e6]
  exact h0 (by omega)
def Ev (κ : Hp) : Prop := κ 33 0 % 2 = 0 ∧ κ 33 1 % 2 = 0
theorem scF_4 {k a b W H P s x y : Int} (h : k = 4) : scF k a b W H P s x y = (a + stX (drR (drS s W.toNat y.toNat) x.toNat) % (b + 1)) % 256 := if_pos h
theorem mulb {a b A B : Int} (h1 : 0 ≤ a ∧ a ≤ A) (h2 : 0 ≤ b ∧ b ≤ B) : 0 ≤ a * b ∧ a * b ≤ A * B := ⟨Int.mul_nonneg h1.1 h2.1, Int.mul_le_mul h1.2 h2.2 h2.1 (by omega)⟩
/-- what the truth is at a square -/
def trF (k f s W H x y : Int) : Int :=
  if k = 1 then (if 2 * x < W then f else s)
  else if k = 2 then (if 2 * (x + y) < W + H then f else s)
  else if k = 3 then (if 2 * y < H then f else s)
  else if k = 4 then (if (x / 2 + y / 2) % 2 = 0 then f else s)
  else if k = 5 then f + ((s - f) * x).tdiv (W - 1)
  else f
def fsT (k W H x y : Int) : Int := if k = 1 then (if 2 * x < W then 1 else 0) else if k = 2 then (if 2 * (x + y) < W + H then 1 else 0) else if k = 3 then (if 2 * y < H then 1 else 0) else if k = 4 then (if (x / 2 + y / 2) % 2 = 0 then 1 else 0) else 1
theorem fsT_of {k W H x y r : Int} (hk : 0 ≤ k ∧ k ≤ 5) (hr : 0 ≤ r ∧ r ≤ 1) (h : (k = 1 → (r = 1 ↔ 2 * x < W)) ∧ (k = 2 → (r = 1 ↔ 2 * (x + y) < W + H)) ∧ (k = 3 → (r = 1 ↔ 2 * y < H)) ∧ (k = 4 → (r = 1 ↔ (x / 2 + y / 2) % 2 = 0)) ∧ (k = 0 ∨ k = 5 → r = 1)) : r = fsT k W H x y := by
  obtain ⟨h1, h2, h3, h4, h0⟩ := h
  have w : ∀ P : Prop, [Decidable P] → (r = 1 ↔ P) → r = if P then 1 else 0 := fun P _ q => by
    by_cases c : P
    · rw [if_pos c]; exact q.mpr c
    · rw [if_neg c]; have : ¬ r = 1 := fun z => c (q.mp z); omega
  unfold fsT
  by_cases e1 : k = 1
  · rw [if_pos e1]; exact w _ (h1 e1)
  by_cases e2 : k = 2
  · rw [if_neg e1, if_pos e2]; exact w _ (h2 e2)
  by_cases e3 : k = 3
  · rw [if_neg e1, if_neg e2, if_pos e3]; exact w _ (h3 e3)
  by_cases e4 : k = 4
  · rw [if_neg e1, if_neg e2, if_neg e3, if_pos e4]; exact w _ (h4 e4)
  rw [if_neg e1, if_neg e2, if_neg e3, if_neg e4]
  exact h0 (by omega)
theorem trF_5 {k f s W H x y : Int} (h : k = 5) : trF k f s W H x y = f + ((s - f) * x).tdiv (W - 1) := by
  subst h; rfl
theorem trF_fs {k f s W H x y : Int} (h : k ≠ 5) : trF k f s W H x y = if fsT k W H x y = 1 then f else s := by
  have w : ∀ P : Prop, [Decidable P] → (if P then f else s) = if (if P then (1 : Int) else 0) = 1 then f else s := fun P _ => by
    by_cases c : P
    · rw [if_pos c, if_pos c, if_pos rfl]
    · rw [if_neg c, if_neg c, if_neg (by decide)]
  unfold trF fsT
  by_cases e1 : k = 1
  · rw [if_pos e1, if_pos e1]; exact w _
  by_cases e2 : k = 2
  · rw [if_neg e1, if_neg e1, if_pos e2, if_pos e2]; exact w _
  by_cases e3 : k = 3
  · rw [if_neg e1, if_neg e1, if_neg e2, if_neg e2, if_pos e3, if_pos e3]; exact w _
  by_cases e4 : k = 4
  · rw [if_neg e1, if_neg e1, if_neg e2, if_neg e2, if_neg e3, if_neg e3, if_pos e4, if_pos e4]; exact w _
  rw [if_neg e1, if_neg e1, if_neg e2, if_neg e2, if_neg e3, if_neg e3, if_neg e4, if_neg e4, if_neg h, if_pos rfl]
theorem trF_of {k f s W H x y r : Int} (hk : 0 ≤ k ∧ k ≤ 5) (h : (k = 0 → r = f) ∧ (k = 1 → 2 * x < W → r = f) ∧ (k = 1 → ¬ 2 * x < W → r = s) ∧ (k = 2 → 2 * (x + y) < W + H → r = f) ∧ (k = 2 → ¬ 2 * (x + y) < W + H → r = s) ∧ (k = 3 → 2 * y < H → r = f) ∧ (k = 3 → ¬ 2 * y < H → r = s) ∧ (k = 4 → (x / 2 + y / 2) % 2 = 0 → r = f) ∧ (k = 4 → ¬ (x / 2 + y / 2) % 2 = 0 → r = s) ∧ (k = 5 → r = f + ((s - f) * x).tdiv (W - 1))) : r = trF k f s W H x y := by
  obtain ⟨h0, h1, h1', h2, h2', h3, h3', h4, h4', h5⟩ := h
  unfold trF
  by_cases e1 : k = 1
  · rw [if_pos e1]; split
    · exact h1 e1 (by assumption)
    · exact h1' e1 (by assumption)
  rw [if_neg e1]
  by_cases e2 : k = 2
  · rw [if_pos e2]; split
    · exact h2 e2 (by assumption)
    · exact h2' e2 (by assumption)
  rw [if_neg e2]
  by_cases e3 : k = 3
  · rw [if_pos e3]; split
    · exact h3 e3 (by assumption)
    · exact h3' e3 (by assumption)
  rw [if_neg e3]
  by_cases e4 : k = 4
  · rw [if_pos e4]; split
    · exact h4 e4 (by assumption)
    · exact h4' e4 (by assumption)
  rw [if_neg e4]
  by_cases e5 : k = 5
  · rw [if_pos e5]; exact h5 e5
  rw [if_neg e5]
  exact h0 (by omega)
def trT (k W H : Int) (tp : Nat → Int) (j : Nat) : Int := trF k (tp (j / 256)) (tp (3 + j / 256)) W H ((j % 16 : Nat) : Int) ((j % 256 / 16 : Nat) : Int)
theorem mulb2 {a b A B : Int} (h1 : -A ≤ a ∧ a ≤ A) (h2 : 0 ≤ b ∧ b ≤ B) : -(A * B) ≤ a * b ∧ a * b ≤ A * B := by
  have hA : 0 ≤ A := by omega
  have e1 : a * b ≤ A * b := Int.mul_le_mul_of_nonneg_right h1.2 h2.1
  have e2 : A * b ≤ A * B := Int.mul_le_mul_of_nonneg_left h2.2 hA
  have e3 : (-a) * b ≤ A * b := Int.mul_le_mul_of_nonneg_right (by omega) h2.1
  have e4 : (-a) * b = -(a * b) := Int.neg_mul a b
  constructor <;> omega
theorem tdb {a d A : Int} (hd : 0 < d) (h : -A ≤ a ∧ a ≤ A) : -A ≤ a.tdiv d ∧ a.tdiv d ≤ A := by
  rcases tdv (a := a) hd with ⟨h1, h2⟩ | ⟨h1, h2⟩
  · rw [h2]
    have e1 := Int.ediv_nonneg h1 (Int.le_of_lt hd)
    have e2 := Int.ediv_le_self d h1
    constructor <;> omega
  · rw [h2]
    have e1 := Int.ediv_nonneg (show 0 ≤ -a by omega) (Int.le_of_lt hd)
    have e2 := Int.ediv_le_self d (show 0 ≤ -a by omega)
    constructor <;> omega
theorem zW_idivT {G : Ga} {μ : Mt} {Q : Int → Hp → Prop} {pc pc' : Nat} {ls : Lo} {st : List Sv} {h : Hp} {a d : Int} (ha : rng a) (hb : 1 < d ∧ d ≤ 2147483647) (hd : decode μ.1 pc = .ok (.idiv, 1)) (hn : pc + 1 = pc') (kk : zV G μ Q pc' ls (.inl (a.tdiv d) :: st) h) : zV G μ Q pc ls (.inl d :: .inl a :: st) h := by
  subst hn
  intro p e s m args below meth c H locs lsA C hP hS hL
  have rb : rng d := ⟨by omega, hb.2⟩
  refine lv_idiv C.1 C.2.1 hd (nz32 rb (by omega)) ?_
  have e1 : Int32.ofInt a / Int32.ofInt d = Int32.ofInt (a.tdiv d) := by rw [← tdv32 ha hb, Int32.ofInt_toInt]
  rw [e1]
  exact kk p e s m args below meth c H locs lsA C hP hS hL
theorem ix3 {c y x : Int} (hc : 0 ≤ c ∧ c ≤ 2) (hy : 0 ≤ y ∧ y ≤ 15) (hx : 0 ≤ x ∧ x ≤ 15) : (c * 256 + (y * 16 + x)).toNat < 768 ∧ (((c * 256 + (y * 16 + x)).toNat / 256 : Nat) : Int) = c ∧ (((c * 256 + (y * 16 + x)).toNat % 256 / 16 : Nat) : Int) = y ∧ (((c * 256 + (y * 16 + x)).toNat % 16 : Nat) : Int) = x := by
  omega
theorem trT_cong {k W H : Int} {tp tp' : Nat → Int} {j : Nat} (h1 : tp (j / 256) = tp' (j / 256)) (h2 : tp (3 + j / 256) = tp' (3 + j / 256)) : trT k W H tp j = trT k W H tp' j := by
  unfold trT
  rw [h1, h2]
def bk (x i : Int) : Int := if i = 0 then by3 x else if i = 1 then by2 x else if i = 2 then by1 x else by0 x
def fb (x1 x2 x3 x4 x5 : Int) (i : Int) : Int := if i < 4 then bk x1 i else if i < 8 then bk x2 (i - 4) else if i < 12 then bk x3 (i - 8) else if i < 16 then bk x4 (i - 12) else bk x5 (i - 16)
theorem fb_1 {x1 x2 x3 x4 x5 i : Int} (h : i < 4) : fb x1 x2 x3 x4 x5 i = bk x1 i := by unfold fb; rw [if_pos h]
theorem fb_2 {x1 x2 x3 x4 x5 i : Int} (h : 4 ≤ i ∧ i < 8) : fb x1 x2 x3 x4 x5 i = bk x2 (i - 4) := by unfold fb; rw [if_neg (by omega), if_pos (by omega)]
theorem fb_3 {x1 x2 x3 x4 x5 i : Int} (h : 8 ≤ i ∧ i < 12) : fb x1 x2 x3 x4 x5 i = bk x3 (i - 8) := by unfold fb; rw [if_neg (by omega), if_neg (by omega), if_pos (by omega)]
theorem fb_4 {x1 x2 x3 x4 x5 i : Int} (h : 12 ≤ i ∧ i < 16) : fb x1 x2 x3 x4 x5 i = bk x4 (i - 12) := by unfold fb; rw [if_neg (by omega), if_neg (by omega), if_neg (by omega), if_pos (by omega)]
theorem fb_5 {x1 x2 x3 x4 x5 i : Int} (h : 16 ≤ i) : fb x1 x2 x3 x4 x5 i = bk x5 (i - 16) := by unfold fb; rw [if_neg (by omega), if_neg (by omega), if_neg (by omega), if_neg (by omega)]

abbrev q_X12_typesE (κ : Hp) (x1 : Int) (b : Int) : Int → Hp → Prop := fun r h' => Fm [(0, 25), (12, 999)] κ h' ∧ ((h' 0 25 = b + 4) ∧ (∀ j : Nat, ((j : Int) < b → h' 12 j = κ 12 j) ∧ (b ≤ (j : Int) → (j : Int) < h' 0 25 → h' 12 j % 256 = bk x1 ((j : Int) - b))))
set_option maxHeartbeats 4000000 in
set_option maxRecDepth 20000 in
theorem s_X12_typesE {G : Ga} {κ : Hp} (hS : SI κ) (hR : KR κ) (hC : KC κ) (x1 : Int) (hx1 : rng x1) (b : Int) (ht : κ 0 25 ≤ 136 ∧ κ 0 25 = b) : zM G mX12_types yX12_types [.inr (.inr 0), .inl x1] κ (q_X12_typesE κ x1 b) := by
  have f_0_25 := KRt hR
  unfold rng at hx1
  have main : ∀ N : Nat, (∀ (v2 : Int) (h : Hp), Fm [(0, 25), (12, 999)] κ h → (-1 ≤ v2 ∧ v2 ≤ 3) → (h 0 25 = b + (3 - v2)) → (∀ j : Nat, ((j : Int) < b → h 12 j = κ 12 j) ∧ (b ≤ (j : Int) → (j : Int) < h 0 25 → h 12 j % 256 = bk x1 ((j : Int) - b))) → 3312 + 24 * (v2 - (-1)) + 23 < (N : Int) → zV G mX12_types (q_X12_typesE κ x1 b) 2 [some (.inr (.inr 0)), some (.inl x1), some (.inl v2)] [] h) := by
    intro N
    induction N with
    | zero =>
      intro v2 h hF g0 gc0 gc1 hm
      exfalso; omega
    | succ N ih =>
      have k2 := ih
      intro v2 h hF g0 gc0 gc1 hm
      refine zW_iload_n (pc' := 3) dX12_types_0.1.1.2.1 rfl rfl ?_
      refine zV_if_lt (tgt := 38) (pc' := 6) dX12_types_0.1.1.2.2 rfl rfl ⟨by omega, by omega⟩ (fun c3 => ?_) (fun c3 => ?_)
      · exact zV_vret rfl dX12_types_1.2.2.2 ⟨hF, ⟨by omega, (fun j => by have q0 := gc1 j; omega)⟩⟩
      · refine zW_aload_n (pc' := 7) dX12_types_0.1.2.1.1 rfl rfl ?_
        refine zG_ref (pc' := 10) 12 fg_X12_44 tb0 rfl dX12_types_0.1.2.1.2 rfl ?_
        refine zW_aload_n (pc' := 11) dX12_types_0.1.2.2.1 rfl rfl ?_
        refine zG_int (pc' := 14) fg_X12_116 tb0 rfl dX12_types_0.1.2.2.2 rfl ?_
        have e11 := KRt hF.2.2.1
        refine zW_iload_n (pc' := 15) dX12_types_0.2.1.1.1 rfl rfl ?_
        refine zW_bipush (pc' := 17) dX12_types_0.2.1.1.2 rfl rfl ?_
        refine zW_iload_n (pc' := 18) dX12_types_0.2.1.2.1 rfl rfl ?_
        refine zW_imul (pc' := 19) dX12_types_0.2.1.2.2 rfl ?_
        refine zW_ishrB (pc' := 20) ⟨by omega, by omega⟩ (by omega) dX12_types_0.2.2.1.1 rfl (fun v19 e19 f19 => ?_)
        unfold rng at e19
        refine zW_i2bE (pc' := 21) ⟨by omega, by omega⟩ dX12_types_0.2.2.1.2 rfl (fun v20 e20 => ?_)
        refine zSmb (pc' := 22) hF rfl ⟨(SI_irr hF.2.1 (Or.inl (key_of rfl _)) (fun _ _ => ⟨by omega, by omega⟩)), (KR_irr hF.2.2.1 rfl), (KC_irr hF.2.2.2 rfl)⟩ tb12 (by omega) (by omega) dX12_types_0.2.2.2.1 (by decide) rfl (fun h hF w21 => ?_)
        have a21_12 := fun j : Nat => zwr_pt (congrFun (congrFun w21 12) j)
        have t21_0_25 := congrFun (congrFun w21 0) 25
        rw [zwr_ne (Or.inl (by decide))] at t21_0_25
        refine zW_aload_n (pc' := 23) dX12_types_0.2.2.2.2 rfl rfl ?_
        refine zW_aload_n (pc' := 24) dX12_types_1.1.1.1 rfl rfl ?_
        refine zG_int (pc' := 27) fg_X12_116 tb0 rfl dX12_types_1.1.1.2 rfl ?_
        have e24 := KRt hF.2.2.1
        refine zW_iconst (pc' := 28) dX12_types_1.1.2.1 rfl ?_
        refine zW_iadd (pc' := 29) dX12_types_1.1.2.2 rfl ?_
        refine zPm (pc' := 32) hF (Or.inl rfl) (SI_irr hF.2.1 (Or.inl rfl) (fun _ _ => ⟨by omega, by omega⟩)) (KR_25 hF.2.2.1 (by omega)) (KC_irr hF.2.2.2 rfl) fp_X12_116 tb0 rfl dX12_types_1.2.1.1 rfl (fun h hF w29 => ?_)
        have a29_12 := fun j : Nat => (congrFun (congrFun w29 12) j).trans (zwr_ne (Or.inl (by decide)))
        have t29_0_25 := congrFun (congrFun w29 0) 25
        rw [zwr_eq] at t29_0_25
        refine zW_iinc (ls' := [_, _, _]) (pc' := 35) dX12_types_1.2.1.2 rfl (by decide) rfl rfl rfl ?_
        refine zV_goto 2 dX12_types_1.2.2.1 rfl ?_
        exact k2 _ _ hF (by omega) (by omega) (fun j => by have q0 := gc1 j; have q1 := a21_12 j; have q2 := a29_12 j; by_cases ej : (j : Int) = b + (3 - v2); (have eb : bk x1 ((j : Int) - b) = v20 % 256 := (by rcases (by omega : v2 = 3 ∨ v2 = 2 ∨ v2 = 1 ∨ v2 = 0) with e | e | e | e; (rw [show (j : Int) - b = 0 by omega]; show by3 x1 = _; omega); (rw [show (j : Int) - b = 1 by omega]; show by2 x1 = _; omega); (rw [show (j : Int) - b = 2 by omega]; show by1 x1 = _; omega); (rw [show (j : Int) - b = 3 by omega]; show by0 x1 = _; omega)); omega); omega) (by omega)
  refine zM_of [some (.inr (.inr 0)), some (.inl x1), none] 1 rfl rfl (Nat.le_of_ble_eq_true rfl) rfl ?_
  refine (show ∀ h : Hp, Fm [(0, 25), (12, 999)] κ h → h = κ → zV G mX12_types (q_X12_typesE κ x1 b) 0 [some (.inr (.inr 0)), some (.inl x1), none] [] h from fun h hF hk0 => ?_) κ (Fm.rf hS hR hC) rfl
  have y0_0_25 : h 0 25 = κ 0 25 := by rw [hk0]
  have a0_12 := fun j : Nat => congrFun (congrFun hk0 12) j
  refine zW_iconst (pc' := 1) dX12_types_0.1.1.1.1 rfl ?_
  refine zW_istore_n (ls' := [_, _, _]) (pc' := 2) dX12_types_0.1.1.1.2 (by decide) rfl rfl rfl ?_
  exact (main 10000000000000000000000000000000000000000) _ _ hF (by omega) (by omega) (fun j => by have q0 := a0_12 j; omega) (by omega)

abbrev q_X12_feedE (κ : Hp) (x1 : Int) (x2 : Int) (x3 : Int) (x4 : Int) (x5 : Int) : Int → Hp → Prop := fun r h' => Fm [(0, 25), (12, 999)] κ h' ∧ (((κ 0 25 ≤ 120 ∧ r = κ 0 25 + 20 ∧ h' 0 25 = κ 0 25 + 20) ∨ (120 < κ 0 25 ∧ r = -1 ∧ h' 0 25 = κ 0 25)) ∧ (∀ j : Nat, ((j : Int) < κ 0 25 → h' 12 j = κ 12 j) ∧ (κ 0 25 ≤ 120 → κ 0 25 ≤ (j : Int) → (j : Int) < κ 0 25 + 20 → h' 12 j % 256 = fb x1 x2 x3 x4 x5 ((j : Int) - κ 0 25)) ∧ (120 < κ 0 25 → h' 12 j = κ 12 j)))
set_option maxHeartbeats 4000000 in
set_option maxRecDepth 20000 in
theorem s_X12_feedE {G : Ga} {κ : Hp} (hS : SI κ) (hR : KR κ) (hC : KC κ) (x1 : Int) (hx1 : rng x1) (x2 : Int) (hx2 : rng x2) (x3 : Int) (hx3 : rng x3) (x4 : Int) (hx4 : rng x4) (x5 : Int) (hx5 : rng x5) : zM G mX12_feed yX12_feed [.inr (.inr 0), .inl x1, .inl x2, .inl x3, .inl x4, .inl x5] κ (q_X12_feedE κ x1 x2 x3 x4 x5) := by
  have f_0_25 := KRt hR
  unfold rng at hx1
  unfold rng at hx2
  unfold rng at hx3
  unfold rng at hx4
  unfold rng at hx5
  refine zM_of [some (.inr (.inr 0)), some (.inl x1), some (.inl x2), some (.inl x3), some (.inl x4), some (.inl x5)] 0 rfl rfl (Nat.le_of_ble_eq_true rfl) rfl ?_
  refine (show ∀ h : Hp, Fm [(0, 25), (12, 999)] κ h → h = κ → zV G mX12_feed (q_X12_feedE κ x1 x2 x3 x4 x5) 0 [some (.inr (.inr 0)), some (.inl x1), some (.inl x2), some (.inl x3), some (.inl x4), some (.inl x5)] [] h from fun h hF hk0 => ?_) κ (Fm.rf hS hR hC) rfl
  have y0_0_25 : h 0 25 = κ 0 25 := by rw [hk0]
  have a0_12 := fun j : Nat => congrFun (congrFun hk0 12) j
  refine zW_aload_n (pc' := 1) dX12_feed_0.1.1.1.1 rfl rfl ?_
  refine zG_int (pc' := 4) fg_X12_116 tb0 rfl dX12_feed_0.1.1.1.2 rfl ?_
  have e1 := KRt hF.2.2.1
  refine zW_bipush (pc' := 6) dX12_feed_0.1.1.2.1 rfl rfl ?_
  refine zW_iadd (pc' := 7) dX12_feed_0.1.1.2.2 rfl ?_
  refine zW_sipush (pc' := 10) dX12_feed_0.1.2.1.1 rfl rfl ?_
  refine zV_cm_le (tgt := 15) (pc' := 13) dX12_feed_0.1.2.1.2 rfl rfl ⟨by omega, by omega⟩ ⟨by omega, by omega⟩ (fun c10 => ?_) (fun c10 => ?_)
  · refine zW_aload_n (pc' := 16) dX12_feed_0.2.1.1.1 rfl rfl ?_
    refine zW_iload_n (pc' := 17) dX12_feed_0.2.1.1.2 rfl rfl ?_
    refine cvV1 (pc' := 20) kX12_types vX12_types lk_X12_119 ⟨Nat.le_of_ble_eq_true rfl, Nat.le_of_ble_eq_true rfl⟩ tb0 vq12 rfl rfl (s_X12_typesE hF.2.1 hF.2.2.1 hF.2.2.2 _ ⟨by omega, by omega⟩ (κ 0 25) (by omega)) dX12_feed_0.2.1.2.1 (Nat.le_of_ble_eq_true rfl) rfl ?_
    rintro r17 h ⟨hF1, p17⟩; replace hF := hF.tr hF1 rfl
    obtain ⟨p17_0, a17_0⟩ := p17
    refine zW_aload_n (pc' := 21) dX12_feed_0.2.1.2.2 rfl rfl ?_
    refine zW_iload_n (pc' := 22) dX12_feed_0.2.2.1.1 rfl rfl ?_
    refine cvV1 (pc' := 25) kX12_types vX12_types lk_X12_119 ⟨Nat.le_of_ble_eq_true rfl, Nat.le_of_ble_eq_true rfl⟩ tb0 vq12 rfl rfl (s_X12_typesE hF.2.1 hF.2.2.1 hF.2.2.2 _ ⟨by omega, by omega⟩ (κ 0 25 + 4) (by omega)) dX12_feed_0.2.2.1.2 (Nat.le_of_ble_eq_true rfl) rfl ?_
    rintro r22 h ⟨hF1, p22⟩; replace hF := hF.tr hF1 rfl
    obtain ⟨p22_0, a22_0⟩ := p22
    refine zW_aload_n (pc' := 26) dX12_feed_0.2.2.2.1 rfl rfl ?_
    refine zW_iload_n (pc' := 27) dX12_feed_0.2.2.2.2 rfl rfl ?_
    refine cvV1 (pc' := 30) kX12_types vX12_types lk_X12_119 ⟨Nat.le_of_ble_eq_true rfl, Nat.le_of_ble_eq_true rfl⟩ tb0 vq12 rfl rfl (s_X12_typesE hF.2.1 hF.2.2.1 hF.2.2.2 _ ⟨by omega, by omega⟩ (κ 0 25 + 8) (by omega)) dX12_feed_1.1.1.1.1 (Nat.le_of_ble_eq_true rfl) rfl ?_
    rintro r27 h ⟨hF1, p27⟩; replace hF := hF.tr hF1 rfl
    obtain ⟨p27_0, a27_0⟩ := p27
    refine zW_aload_n (pc' := 31) dX12_feed_1.1.1.1.2 rfl rfl ?_
    refine zW_iload (pc' := 33) dX12_feed_1.1.1.2 rfl rfl ?_
    refine cvV1 (pc' := 36) kX12_types vX12_types lk_X12_119 ⟨Nat.le_of_ble_eq_true rfl, Nat.le_of_ble_eq_true rfl⟩ tb0 vq12 rfl rfl (s_X12_typesE hF.2.1 hF.2.2.1 hF.2.2.2 _ ⟨by omega, by omega⟩ (κ 0 25 + 12) (by omega)) dX12_feed_1.1.2.1 (Nat.le_of_ble_eq_true rfl) rfl ?_
    rintro r33 h ⟨hF1, p33⟩; replace hF := hF.tr hF1 rfl
    obtain ⟨p33_0, a33_0⟩ := p33
    refine zW_aload_n (pc' := 37) dX12_feed_1.1.2.2 rfl rfl ?_
    refine zW_iload (pc' := 39) dX12_feed_1.2.1.1.1 rfl rfl ?_
    refine cvV1 (pc' := 42) kX12_types vX12_types lk_X12_119 ⟨Nat.le_of_ble_eq_true rfl, Nat.le_of_ble_eq_true rfl⟩ tb0 vq12 rfl rfl (s_X12_typesE hF.2.1 hF.2.2.1 hF.2.2.2 _ ⟨by omega, by omega⟩ (κ 0 25 + 16) (by omega)) dX12_feed_1.2.1.1.2 (Nat.le_of_ble_eq_true rfl) rfl ?_
    rintro r39 h ⟨hF1, p39⟩; replace hF := hF.tr hF1 rfl
    obtain ⟨p39_0, a39_0⟩ := p39
    refine zW_aload_n (pc' := 43) dX12_feed_1.2.1.2 rfl rfl ?_
    refine zG_int (pc' := 46) fg_X12_116 tb0 rfl dX12_feed_1.2.2.1 rfl ?_
    have e43 := KRt hF.2.2.1
    exact zV_iret rfl dX12_feed_1.2.2.2 ⟨hF, ⟨by omega, (fun j => ⟨fun e => ((((((a39_0 j).1 (by omega)).trans ((a33_0 j).1 (by omega))).trans ((a27_0 j).1 (by omega))).trans ((a22_0 j).1 (by omega))).trans ((a17_0 j).1 (by omega))).trans (a0_12 j), fun h1 h2 h3 => by rcases (by omega : ((j : Int) - κ 0 25) < 4 ∨ (4 ≤ ((j : Int) - κ 0 25) ∧ ((j : Int) - κ 0 25) < 8) ∨ (8 ≤ ((j : Int) - κ 0 25) ∧ ((j : Int) - κ 0 25) < 12) ∨ (12 ≤ ((j : Int) - κ 0 25) ∧ ((j : Int) - κ 0 25) < 16) ∨ 16 ≤ ((j : Int) - κ 0 25)) with e | e | e | e | e; (rw [fb_1 (by omega)]; exact (congrArg (fun z : Int => z % 256) (((((a39_0 j).1 (by omega)).trans ((a33_0 j).1 (by omega))).trans ((a27_0 j).1 (by omega))).trans ((a22_0 j).1 (by omega)))).trans ((a17_0 j).2 (by omega) (by omega))); (rw [fb_2 (by omega), show (j : Int) - κ 0 25 - 4 = (j : Int) - (κ 0 25 + 4) by omega]; exact (congrArg (fun z : Int => z % 256) ((((a39_0 j).1 (by omega)).trans ((a33_0 j).1 (by omega))).trans ((a27_0 j).1 (by omega)))).trans ((a22_0 j).2 (by omega) (by omega))); (rw [fb_3 (by omega), show (j : Int) - κ 0 25 - 8 = (j : Int) - (κ 0 25 + 8) by omega]; exact (congrArg (fun z : Int => z % 256) (((a39_0 j).1 (by omega)).trans ((a33_0 j).1 (by omega)))).trans ((a27_0 j).2 (by omega) (by omega))); (rw [fb_4 (by omega), show (j : Int) - κ 0 25 - 12 = (j : Int) - (κ 0 25 + 12) by omega]; exact (congrArg (fun z : Int => z % 256) ((a39_0 j).1 (by omega))).trans ((a33_0 j).2 (by omega) (by omega))); (rw [fb_5 (by omega), show (j : Int) - κ 0 25 - 16 = (j : Int) - (κ 0 25 + 16) by omega]; exact ((a39_0 j).2 (by omega) (by omega))), fun hh => absurd hh (by omega)⟩)⟩⟩
  · refine zW_iconst (pc' := 14) dX12_feed_0.1.2.2.1 rfl ?_
    exact zV_iret rfl dX12_feed_0.1.2.2.2 ⟨hF, ⟨by omega, (fun j => by have q0 := a0_12 j; omega)⟩⟩

abbrev q_X9_appendE (κ : Hp) (x1 : Int) (b : Int) : Int → Hp → Prop := fun r h' => Fm [(31, 1), (32, 999)] κ h' ∧ ((h' 31 1 = b + 4) ∧ (∀ j : Nat, ((j : Int) < b → h' 32 j = κ 32 j) ∧ (b ≤ (j : Int) → (j : Int) < h' 31 1 → h' 32 j = bk x1 ((j : Int) - b))))
set_option maxHeartbeats 4000000 in
set_option maxRecDepth 20000 in
theorem s_X9_appendE {G : Ga} {κ : Hp} (hS : SI κ) (hR : KR κ) (hC : KC κ) (x1 : Int) (hx1 : rng x1) (b : Int) (ht : κ 31 1 ≤ 136 ∧ κ 31 1 = b) : zM G mX9_append yX9_append [.inr (.inr 31), .inl x1] κ (q_X9_appendE κ x1 b) := by
  have f_31_1 := KCt hC
  unfold rng at hx1
  have main : ∀ N : Nat, (∀ (v2 : Int) (h : Hp), Fm [(31, 1), (32, 999)] κ h → (-8 ≤ v2 ∧ v2 ≤ 24) → (8 * (h 31 1 - b) = 24 - v2) → (∀ j : Nat, ((j : Int) < b → h 32 j = κ 32 j) ∧ (b ≤ (j : Int) → (j : Int) < h 31 1 → h 32 j = bk x1 ((j : Int) - b))) → 23868 + 27 * (v2 - (-8)) + 26 < (N : Int) → zV G mX9_append (q_X9_appendE κ x1 b) 3 [some (.inr (.inr 31)), some (.inl x1), some (.inl v2)] [] h) := by
    intro N
    induction N with
    | zero =>
      intro v2 h hF g0 gc0 gc1 hm
      exfalso; omega
    | succ N ih =>
      have k3 := ih
      intro v2 h hF g0 gc0 gc1 hm
      refine zW_iload_n (pc' := 4) dX9_append_0.1.1.2.1 rfl rfl ?_
      refine zV_if_lt (tgt := 49) (pc' := 7) dX9_append_0.1.1.2.2 rfl rfl ⟨by omega, by omega⟩ (fun c4 => ?_) (fun c4 => ?_)
      · exact zV_vret rfl dX9_append_1.2.2.2 ⟨hF, ⟨by omega, (fun j => by have q0 := gc1 j; omega)⟩⟩
      · refine zW_aload_n (pc' := 8) dX9_append_0.1.2.1.1 rfl rfl ?_
        refine zG_int (pc' := 11) fg_X9_15 tb31 rfl dX9_append_0.1.2.1.2 rfl ?_
        have e8 := KCt hF.2.2.2
        refine zW_sipush (pc' := 14) dX9_append_0.1.2.2.1 rfl rfl ?_
        refine zV_cm_ge (tgt := 49) (pc' := 17) dX9_append_0.1.2.2.2 rfl rfl ⟨by omega, by omega⟩ ⟨by omega, by omega⟩ (fun c14 => ?_) (fun c14 => ?_)
        · exact zV_vret rfl dX9_append_1.2.2.2 ⟨hF, ⟨by omega, (fun j => by have q0 := gc1 j; omega)⟩⟩
        · refine zW_aload_n (pc' := 18) dX9_append_0.2.1.1.1 rfl rfl ?_
          refine zG_ref (pc' := 21) 32 fg_X9_9 tb31 rfl dX9_append_0.2.1.1.2 rfl ?_
          refine zW_aload_n (pc' := 22) dX9_append_0.2.1.2.1 rfl rfl ?_
          refine zG_int (pc' := 25) fg_X9_15 tb31 rfl dX9_append_0.2.1.2.2 rfl ?_
          have e22 := KCt hF.2.2.2
          refine zW_iload_n (pc' := 26) dX9_append_0.2.2.1.1 rfl rfl ?_
          refine zW_iload_n (pc' := 27) dX9_append_0.2.2.1.2 rfl rfl ?_
          refine zW_iushrB (pc' := 28) (by omega) dX9_append_0.2.2.2.1 rfl (fun v27 e27 f27 => ?_)
          unfold rng at e27
          refine zW_sipush (pc' := 31) dX9_append_0.2.2.2.2 rfl rfl ?_
          refine zW_iand255 (pc' := 32) dX9_append_1.1.1.1.1 rfl (fun v31 e31 => ?_)
          refine zSm (pc' := 33) hF rfl (fun v' hv he => ⟨(SI_irr hF.2.1 (Or.inl (key_of rfl _)) (fun _ _ => hv)), (KR_irr hF.2.2.1 rfl), (KC_irr hF.2.2.2 rfl)⟩) tb32 (by omega) dX9_append_1.1.1.1.2 (by decide) rfl (fun h i32 hF a32 b32 w32 => ?_)
          have a32_32 := fun j : Nat => zwr_pt (congrFun (congrFun w32 32) j)
          replace b32 := b32 ⟨by omega, by omega⟩
          have t32_31_1 := congrFun (congrFun w32 31) 1
          rw [zwr_ne (Or.inl (by decide))] at t32_31_1
          refine zW_aload_n (pc' := 34) dX9_append_1.1.1.2 rfl rfl ?_
          refine zW_dup (pc' := 35) dX9_append_1.1.2.1.1 rfl rfl ?_
          refine zG_int (pc' := 38) fg_X9_15 tb31 rfl dX9_append_1.1.2.1.2 rfl ?_
          have e35 := KCt hF.2.2.2
          refine zW_iconst (pc' := 39) dX9_append_1.1.2.2 rfl ?_
          refine zW_iadd (pc' := 40) dX9_append_1.2.1.1.1 rfl ?_
          refine zPm (pc' := 43) hF (Or.inl rfl) (SI_irr hF.2.1 (Or.inl rfl) (fun _ _ => ⟨by omega, by omega⟩)) (KR_irr hF.2.2.1 rfl) (KC_31_1 hF.2.2.2 (by omega)) fp_X9_15 tb31 rfl dX9_append_1.2.1.1.2 rfl (fun h hF w40 => ?_)
          have a40_32 := fun j : Nat => (congrFun (congrFun w40 32) j).trans (zwr_ne (Or.inl (by decide)))
          have t40_31_1 := congrFun (congrFun w40 31) 1
          rw [zwr_eq] at t40_31_1
          refine zW_iinc (ls' := [_, _, _]) (pc' := 46) dX9_append_1.2.1.2 rfl (by decide) rfl rfl rfl ?_
          refine zV_goto 3 dX9_append_1.2.2.1 rfl ?_
          exact k3 _ _ hF (by omega) (by omega) (fun j => by have q0 := gc1 j; have q1 := a32_32 j; have q2 := a40_32 j; by_cases ej : (j : Int) = b + (24 - v2) / 8; (have eb : bk x1 ((j : Int) - b) = v31 := (by rcases (by omega : v2 = 24 ∨ v2 = 16 ∨ v2 = 8 ∨ v2 = 0) with e | e | e | e; (rw [show (j : Int) - b = 0 by omega]; show by3 x1 = _; omega); (rw [show (j : Int) - b = 1 by omega]; show by2 x1 = _; omega); (rw [show (j : Int) - b = 2 by omega]; show by1 x1 = _; omega); (rw [show (j : Int) - b = 3 by omega]; show by0 x1 = _; omega)); omega); omega) (by omega)
  refine zM_of [some (.inr (.inr 31)), some (.inl x1), none] 1 rfl rfl (Nat.le_of_ble_eq_true rfl) rfl ?_
  refine (show ∀ h : Hp, Fm [(31, 1), (32, 999)] κ h → h = κ → zV G mX9_append (q_X9_appendE κ x1 b) 0 [some (.inr (.inr 31)), some (.inl x1), none] [] h from fun h hF hk0 => ?_) κ (Fm.rf hS hR hC) rfl
  have y0_31_1 : h 31 1 = κ 31 1 := by rw [hk0]
  have a0_32 := fun j : Nat => congrFun (congrFun hk0 32) j
  refine zW_bipush (pc' := 2) dX9_append_0.1.1.1.1 rfl rfl ?_
  refine zW_istore_n (ls' := [_, _, _]) (pc' := 3) dX9_append_0.1.1.1.2 (by decide) rfl rfl rfl ?_
  exact (main 10000000000000000000000000000000000000000) _ _ hF (by omega) (by omega) (fun j => by have q0 := a0_32 j; omega) (by omega)

abbrev q_X11_feedE (κ : Hp) (x1 : Int) (x2 : Int) (x3 : Int) (x4 : Int) (x5 : Int) : Int → Hp → Prop := fun r h' => Fm [(31, 1), (32, 999)] κ h' ∧ (((κ 31 1 ≤ 120 ∧ r = κ 31 1 + 20 ∧ h' 31 1 = κ 31 1 + 20) ∨ (120 < κ 31 1 ∧ r = -1 ∧ h' 31 1 = κ 31 1)) ∧ (∀ j : Nat, ((j : Int) < κ 31 1 → h' 32 j = κ 32 j) ∧ (κ 31 1 ≤ 120 → κ 31 1 ≤ (j : Int) → (j : Int) < κ 31 1 + 20 → h' 32 j = fb x1 x2 x3 x4 x5 ((j : Int) - κ 31 1)) ∧ (120 < κ 31 1 → h' 32 j = κ 32 j)))
set_option maxHeartbeats 4000000 in
set_option maxRecDepth 20000 in
theorem s_X11_feedE {G : Ga} {κ : Hp} (hS : SI κ) (hR : KR κ) (hC : KC κ) (x1 : Int) (hx1 : rng x1) (x2 : Int) (hx2 : rng x2) (x3 : Int) (hx3 : rng x3) (x4 : Int) (hx4 : rng x4) (x5 : Int) (hx5 : rng x5) : zM G mX11_feed yX11_feed [.inr (.inr 30), .inl x1, .inl x2, .inl x3, .inl x4, .inl x5] κ (q_X11_feedE κ x1 x2 x3 x4 x5) := by
  have f_31_1 := KCt hC
  unfold rng at hx1
  unfold rng at hx2
  unfold rng at hx3
  unfold rng at hx4
  unfold rng at hx5
  refine zM_of [some (.inr (.inr 30)), some (.inl x1), some (.inl x2), some (.inl x3), some (.inl x4), some (.inl x5)] 0 rfl rfl (Nat.le_of_ble_eq_true rfl) rfl ?_
  refine (show ∀ h : Hp, Fm [(31, 1), (32, 999)] κ h → h = κ → zV G mX11_feed (q_X11_feedE κ x1 x2 x3 x4 x5) 0 [some (.inr (.inr 30)), some (.inl x1), some (.inl x2), some (.inl x3), some (.inl x4), some (.inl x5)] [] h from fun h hF hk0 => ?_) κ (Fm.rf hS hR hC) rfl
  have y0_31_1 : h 31 1 = κ 31 1 := by rw [hk0]
  have a0_32 := fun j : Nat => congrFun (congrFun hk0 32) j
  refine zW_aload_n (pc' := 1) dX11_feed_0.1.1.1.1 rfl rfl ?_
  refine zG_ref (pc' := 4) 31 fg_X11_10 tb30 rfl dX11_feed_0.1.1.1.2 rfl ?_
  refine zG_int (pc' := 7) fg_X11_88 tb31 rfl dX11_feed_0.1.1.2.1 rfl ?_
  have e4 := KCt hF.2.2.2
  refine zW_bipush (pc' := 9) dX11_feed_0.1.1.2.2 rfl rfl ?_
  refine zW_iadd (pc' := 10) dX11_feed_0.1.2.1.1 rfl ?_
  refine zW_sipush (pc' := 13) dX11_feed_0.1.2.1.2 rfl rfl ?_
  refine zV_cm_le (tgt := 18) (pc' := 16) dX11_feed_0.1.2.2.1 rfl rfl ⟨by omega, by omega⟩ ⟨by omega, by omega⟩ (fun c13 => ?_) (fun c13 => ?_)
  · refine zW_aload_n (pc' := 19) dX11_feed_0.2.1.1.2 rfl rfl ?_
    refine zG_ref (pc' := 22) 31 fg_X11_10 tb30 rfl dX11_feed_0.2.1.2.1 rfl ?_
    refine zW_iload_n (pc' := 23) dX11_feed_0.2.1.2.2 rfl rfl ?_
    refine cvV1 (pc' := 26) kX9_append vX9_append lk_X11_91 ⟨Nat.le_of_ble_eq_true rfl, Nat.le_of_ble_eq_true rfl⟩ tb31 vq9 rfl rfl (s_X9_appendE hF.2.1 hF.2.2.1 hF.2.2.2 _ ⟨by omega, by omega⟩ (κ 31 1) (by omega)) dX11_feed_0.2.2.1.1 (Nat.le_of_ble_eq_true rfl) rfl ?_
    rintro r23 h ⟨hF1, p23⟩; replace hF := hF.tr hF1 rfl
    obtain ⟨p23_0, a23_0⟩ := p23
    refine zW_aload_n (pc' := 27) dX11_feed_0.2.2.1.2 rfl rfl ?_
    refine zG_ref (pc' := 30) 31 fg_X11_10 tb30 rfl dX11_feed_0.2.2.2.1 rfl ?_
    refine zW_iload_n (pc' := 31) dX11_feed_0.2.2.2.2 rfl rfl ?_
    refine cvV1 (pc' := 34) kX9_append vX9_append lk_X11_91 ⟨Nat.le_of_ble_eq_true rfl, Nat.le_of_ble_eq_true rfl⟩ tb31 vq9 rfl rfl (s_X9_appendE hF.2.1 hF.2.2.1 hF.2.2.2 _ ⟨by omega, by omega⟩ (κ 31 1 + 4) (by omega)) dX11_feed_1.1.1.1.1 (Nat.le_of_ble_eq_true rfl) rfl ?_
    rintro r31 h ⟨hF1, p31⟩; replace hF := hF.tr hF1 rfl
    obtain ⟨p31_0, a31_0⟩ := p31
    refine zW_aload_n (pc' := 35) dX11_feed_1.1.1.1.2 rfl rfl ?_
    refine zG_ref (pc' := 38) 31 fg_X11_10 tb30 rfl dX11_feed_1.1.1.2.1 rfl ?_
    refine zW_iload_n (pc' := 39) dX11_feed_1.1.1.2.2 rfl rfl ?_
    refine cvV1 (pc' := 42) kX9_append vX9_append lk_X11_91 ⟨Nat.le_of_ble_eq_true rfl, Nat.le_of_ble_eq_true rfl⟩ tb31 vq9 rfl rfl (s_X9_appendE hF.2.1 hF.2.2.1 hF.2.2.2 _ ⟨by omega, by omega⟩ (κ 31 1 + 8) (by omega)) dX11_feed_1.1.2.1.1 (Nat.le_of_ble_eq_true rfl) rfl ?_
    rintro r39 h ⟨hF1, p39⟩; replace hF := hF.tr hF1 rfl
    obtain ⟨p39_0, a39_0⟩ := p39
    refine zW_aload_n (pc' := 43) dX11_feed_1.1.2.1.2 rfl rfl ?_
    refine zG_ref (pc' := 46) 31 fg_X11_10 tb30 rfl dX11_feed_1.1.2.2.1 rfl ?_
    refine zW_iload (pc' := 48) dX11_feed_1.1.2.2.2 rfl rfl ?_
    refine cvV1 (pc' := 51) kX9_append vX9_append lk_X11_91 ⟨Nat.le_of_ble_eq_true rfl, Nat.le_of_ble_eq_true rfl⟩ tb31 vq9 rfl rfl (s_X9_appendE hF.2.1 hF.2.2.1 hF.2.2.2 _ ⟨by omega, by omega⟩ (κ 31 1 + 12) (by omega)) dX11_feed_1.2.1.1.1 (Nat.le_of_ble_eq_true rfl) rfl ?_
    rintro r48 h ⟨hF1, p48⟩; replace hF := hF.tr hF1 rfl
    obtain ⟨p48_0, a48_0⟩ := p48
    refine zW_aload_n (pc' := 52) dX11_feed_1.2.1.1.2 rfl rfl ?_
    refine zG_ref (pc' := 55) 31 fg_X11_10 tb30 rfl dX11_feed_1.2.1.2.1 rfl ?_
    refine zW_iload (pc' := 57) dX11_feed_1.2.1.2.2 rfl rfl ?_
    refine cvV1 (pc' := 60) kX9_append vX9_append lk_X11_91 ⟨Nat.le_of_ble_eq_true rfl, Nat.le_of_ble_eq_true rfl⟩ tb31 vq9 rfl rfl (s_X9_appendE hF.2.1 hF.2.2.1 hF.2.2.2 _ ⟨by omega, by omega⟩ (κ 31 1 + 16) (by omega)) dX11_feed_1.2.2.1.1 (Nat.le_of_ble_eq_true rfl) rfl ?_
    rintro r57 h ⟨hF1, p57⟩; replace hF := hF.tr hF1 rfl
    obtain ⟨p57_0, a57_0⟩ := p57
    refine zW_aload_n (pc' := 61) dX11_feed_1.2.2.1.2 rfl rfl ?_
    refine zG_ref (pc' := 64) 31 fg_X11_10 tb30 rfl dX11_feed_1.2.2.2.1 rfl ?_
    refine zG_int (pc' := 67) fg_X11_88 tb31 rfl dX11_feed_1.2.2.2.2 rfl ?_
    have e64 := KCt hF.2.2.2
    exact zV_iret rfl dX11_feed_2 ⟨hF, ⟨by omega, (fun j => ⟨fun e => ((((((a57_0 j).1 (by omega)).trans ((a48_0 j).1 (by omega))).trans ((a39_0 j).1 (by omega))).trans ((a31_0 j).1 (by omega))).trans ((a23_0 j).1 (by omega))).trans (a0_32 j), fun h1 h2 h3 => by rcases (by omega : ((j : Int) - κ 31 1) < 4 ∨ (4 ≤ ((j : Int) - κ 31 1) ∧ ((j : Int) - κ 31 1) < 8) ∨ (8 ≤ ((j : Int) - κ 31 1) ∧ ((j : Int) - κ 31 1) < 12) ∨ (12 ≤ ((j : Int) - κ 31 1) ∧ ((j : Int) - κ 31 1) < 16) ∨ 16 ≤ ((j : Int) - κ 31 1)) with e | e | e | e | e; (rw [fb_1 (by omega)]; exact (((((a57_0 j).1 (by omega)).trans ((a48_0 j).1 (by omega))).trans ((a39_0 j).1 (by omega))).trans ((a31_0 j).1 (by omega))).trans ((a23_0 j).2 (by omega) (by omega))); (rw [fb_2 (by omega), show (j : Int) - κ 31 1 - 4 = (j : Int) - (κ 31 1 + 4) by omega]; exact ((((a57_0 j).1 (by omega)).trans ((a48_0 j).1 (by omega))).trans ((a39_0 j).1 (by omega))).trans ((a31_0 j).2 (by omega) (by omega))); (rw [fb_3 (by omega), show (j : Int) - κ 31 1 - 8 = (j : Int) - (κ 31 1 + 8) by omega]; exact (((a57_0 j).1 (by omega)).trans ((a48_0 j).1 (by omega))).trans ((a39_0 j).2 (by omega) (by omega))); (rw [fb_4 (by omega), show (j : Int) - κ 31 1 - 12 = (j : Int) - (κ 31 1 + 12) by omega]; exact ((a57_0 j).1 (by omega)).trans ((a48_0 j).2 (by omega) (by omega))); (rw [fb_5 (by omega), show (j : Int) - κ 31 1 - 16 = (j : Int) - (κ 31 1 + 16) by omega]; exact ((a57_0 j).2 (by omega) (by omega))), fun hh => absurd hh (by omega)⟩)⟩⟩
  · refine zW_iconst (pc' := 17) dX11_feed_0.1.2.2.2 rfl ?_
    exact zV_iret rfl dX11_feed_0.2.1.1.1 ⟨hF, ⟨by omega, (fun j => by have q0 := a0_32 j; omega)⟩⟩

abbrev q_X12_rawE (κ : Hp) (x1 : Int) (x2 : Int) (x3 : Int) : Int → Hp → Prop := fun r h' => Fm [(0, 11), (0, 12), (0, 13), (1, 999), (10, 999), (0, 21), (0, 23)] κ h' ∧ (((0 ≤ r) ∧ (r ≤ 1) ∧ ((r = 1 ∧ (4 ≤ x1 ∧ x1 ≤ 16 ∧ x1 % 2 = 0) ∧ (4 ≤ x2 ∧ x2 ≤ 16 ∧ x2 % 2 = 0) ∧ (0 ≤ x3 ∧ x3 ≤ 3) ∧ h' 0 11 = x1 ∧ h' 0 12 = x2 ∧ h' 0 13 = x3) ∨ (r = 0 ∧ ¬ ((4 ≤ x1 ∧ x1 ≤ 16 ∧ x1 % 2 = 0) ∧ (4 ≤ x2 ∧ x2 ≤ 16 ∧ x2 % 2 = 0) ∧ (0 ≤ x3 ∧ x3 ≤ 3)) ∧ h' 0 11 = κ 0 11 ∧ h' 0 12 = κ 0 12 ∧ h' 0 13 = κ 0 13)) ∧ (∀ j : Nat, (r = 1 → j < 256 → h' 1 j = 0 ∧ h' 10 j = 0) ∧ (r = 0 → h' 1 j = κ 1 j ∧ h' 10 j = κ 10 j))) ∧ ChR κ h')
set_option maxHeartbeats 4000000 in
set_option maxRecDepth 20000 in
theorem s_X12_rawE {G : Ga} {κ : Hp} (hS : SI κ) (hR : KR κ) (hC : KC κ) (x1 : Int) (hx1 : rng x1) (x2 : Int) (hx2 : rng x2) (x3 : Int) (hx3 : rng x3) : zM G mX12_raw yX12_raw [.inr (.inr 0), .inl x1, .inl x2, .inl x3] κ (q_X12_rawE κ x1 x2 x3) := by
  have f_0_11 := KRw hR
  have f_0_12 := KRh hR
  have f_0_13 := KRp hR
  unfold rng at hx1
  unfold rng at hx2
  unfold rng at hx3
  have main : ∀ N : Nat, (∀ (v4 : Int) (h : Hp), Fm [(0, 11), (0, 12), (0, 13), (1, 999), (10, 999), (0, 21), (0, 23)] κ h → (4 ≤ x1 ∧ x1 ≤ 16) → (4 ≤ x2 ∧ x2 ≤ 16) → (0 ≤ x3 ∧ x3 ≤ 3) → (0 ≤ v4 ∧ v4 ≤ 256) → (h 0 11 = x1 ∧ h 0 12 = x2 ∧ h 0 13 = x3) → (x1 % 2 = 0 ∧ x2 % 2 = 0) → (∀ j : Nat, (j : Int) < v4 → h 1 j = 0 ∧ h 10 j = 0) → 130548 + 23 * (256 - v4) + 22 < (N : Int) → zV G mX12_raw (q_X12_rawE κ x1 x2 x3) 63 [some (.inr (.inr 0)), some (.inl x1), some (.inl x2), some (.inl x3), some (.inl v4)] [] h) := by
    intro N
    induction N with
    | zero =>
      intro v4 h hF g0 g1 g2 g3 gc0 gc1 gc2 hm
      exfalso; omega
    | succ N ih =>
      have k63 := ih
      intro v4 h hF g0 g1 g2 g3 gc0 gc1 gc2 hm
      refine zW_iload (pc' := 65) dX12_raw_2.1.2.2.1 rfl rfl ?_
      refine zW_sipush (pc' := 68) dX12_raw_2.1.2.2.2 rfl rfl ?_
      refine zV_cm_ge (tgt := 93) (pc' := 71) dX12_raw_2.2.1.1.1 rfl rfl ⟨by omega, by omega⟩ ⟨by omega, by omega⟩ (fun c68 => ?_) (fun c68 => ?_)
      · refine zW_aload_n (pc' := 94) dX12_raw_3.2.1.1 rfl rfl ?_
        refine cvV0 (pc' := 97) kX12_changed vX12_changed lk_X12_215 ⟨Nat.le_of_ble_eq_true rfl, Nat.le_of_ble_eq_true rfl⟩ tb0 vq12 rfl rfl (s_X12_changed hF.2.1 hF.2.2.1 hF.2.2.2) dX12_raw_3.2.1.2 (Nat.le_of_ble_eq_true rfl) rfl ?_
        rintro r94 h ⟨hF1, p94⟩; replace hF := hF.tr hF1 rfl
        have f94_1 := fun j : Nat => hF1.1 1 j rfl rfl
        have f94_10 := fun j : Nat => hF1.1 10 j rfl rfl
        have t94_0_11 := hF1.1 0 11 rfl rfl
        have t94_0_12 := hF1.1 0 12 rfl rfl
        have t94_0_13 := hF1.1 0 13 rfl rfl
        refine zW_iconst (pc' := 98) dX12_raw_3.2.2.1 rfl ?_
        exact zV_zret rfl (by omega) dX12_raw_3.2.2.2 ⟨hF, ⟨⟨by omega, by omega, by omega, (fun j => by have q0 := gc2 j; have q1 := f94_1 j; have q2 := f94_10 j; omega)⟩, (by first | exact Or.inl (by omega) | exact Or.inr hU | exact Or.inr (by rw [hk0]; exact UnR.rf))⟩⟩
      · refine zW_aload_n (pc' := 72) dX12_raw_2.2.1.1.2 rfl rfl ?_
        refine zG_ref (pc' := 75) 1 fg_X12_7 tb0 rfl dX12_raw_2.2.1.2.1 rfl ?_
        refine zW_iload (pc' := 77) dX12_raw_2.2.1.2.2 rfl rfl ?_
        refine zW_iconst (pc' := 78) dX12_raw_2.2.2.1.1 rfl ?_
        refine zSm (pc' := 79) hF rfl (fun v' hv he => ⟨(SI_irr hF.2.1 (Or.inl (key_of rfl _)) (fun _ _ => hv)), (KR_irr hF.2.2.1 rfl), (KC_irr hF.2.2.2 rfl)⟩) tb1 (by omega) dX12_raw_2.2.2.1.2 (by decide) rfl (fun h i78 hF a78 b78 w78 => ?_)
        have a78_1 := fun j : Nat => zwr_pt (congrFun (congrFun w78 1) j)
        have a78_10 := fun j : Nat => (congrFun (congrFun w78 10) j).trans (zwr_ne (Or.inl (by decide)))
        replace b78 := b78 ⟨by omega, by omega⟩
        have t78_0_11 := congrFun (congrFun w78 0) 11
        rw [zwr_ne (Or.inl (by decide))] at t78_0_11
        have t78_0_12 := congrFun (congrFun w78 0) 12
        rw [zwr_ne (Or.inl (by decide))] at t78_0_12
        have t78_0_13 := congrFun (congrFun w78 0) 13
        rw [zwr_ne (Or.inl (by decide))] at t78_0_13
        have t78_0_23 := congrFun (congrFun w78 0) 23
        rw [zwr_ne (Or.inl (by decide))] at t78_0_23
        refine zW_aload_n (pc' := 80) dX12_raw_2.2.2.2.1 rfl rfl ?_
        refine zG_ref (pc' := 83) 10 fg_X12_37 tb0 rfl dX12_raw_2.2.2.2.2 rfl ?_
        refine zW_iload (pc' := 85) dX12_raw_3.1.1.1.1 rfl rfl ?_
        refine zW_iconst (pc' := 86) dX12_raw_3.1.1.1.2 rfl ?_
        refine zSmz (pc' := 87) hF rfl ⟨(SI_irr hF.2.1 (Or.inl (key_of rfl _)) (fun _ _ => ⟨by omega, by omega⟩)), (KR_c10 hF.2.2.1 (by omega)), (KC_irr hF.2.2.2 rfl)⟩ tb10 (by omega) (by omega) dX12_raw_3.1.1.2 (by decide) rfl (fun h hF w86 => ?_)
        have a86_1 := fun j : Nat => (congrFun (congrFun w86 1) j).trans (zwr_ne (Or.inl (by decide)))
        have a86_10 := fun j : Nat => zwr_pt (congrFun (congrFun w86 10) j)
        have t86_0_11 := congrFun (congrFun w86 0) 11
        rw [zwr_ne (Or.inl (by decide))] at t86_0_11
        have t86_0_12 := congrFun (congrFun w86 0) 12
        rw [zwr_ne (Or.inl (by decide))] at t86_0_12
        have t86_0_13 := congrFun (congrFun w86 0) 13
        rw [zwr_ne (Or.inl (by decide))] at t86_0_13
        have t86_0_23 := congrFun (congrFun w86 0) 23
        rw [zwr_ne (Or.inl (by decide))] at t86_0_23
        refine zW_iinc (ls' := [_, _, _, _, _]) (pc' := 90) dX12_raw_3.1.2.1 rfl (by decide) rfl rfl rfl ?_
        refine zV_goto 63 dX12_raw_3.1.2.2 rfl ?_
        exact k63 _ _ hF (by omega) (by omega) (by omega) (by omega) (by omega) (by omega) (fun j => by have q0 := gc2 j; have q1 := a78_1 j; have q2 := a78_10 j; have q3 := a86_1 j; have q4 := a86_10 j; omega) (by omega)
  refine zM_of [some (.inr (.inr 0)), some (.inl x1), some (.inl x2), some (.inl x3), none] 1 rfl rfl (Nat.le_of_ble_eq_true rfl) rfl ?_
  refine (show ∀ h : Hp, Fm [(0, 11), (0, 12), (0, 13), (1, 999), (10, 999), (0, 21), (0, 23)] κ h → h = κ → zV G mX12_raw (q_X12_rawE κ x1 x2 x3) 0 [some (.inr (.inr 0)), some (.inl x1), some (.inl x2), some (.inl x3), none] [] h from fun h hF hk0 => ?_) κ (Fm.rf hS hR hC) rfl
  have y0_0_11 : h 0 11 = κ 0 11 := by rw [hk0]
  have y0_0_12 : h 0 12 = κ 0 12 := by rw [hk0]
  have y0_0_13 : h 0 13 = κ 0 13 := by rw [hk0]
  have a0_1 := fun j : Nat => congrFun (congrFun hk0 1) j
  have a0_10 := fun j : Nat => congrFun (congrFun hk0 10) j
  refine zW_iload_n (pc' := 1) dX12_raw_0.1.1.1.1 rfl rfl ?_
  refine zW_iconst (pc' := 2) dX12_raw_0.1.1.1.2 rfl ?_
  refine zW_bipush (pc' := 4) dX12_raw_0.1.1.2.1 rfl rfl ?_
  refine csI3 (pc' := 7) kX12_in vX12_in lk_X12_140 ⟨Nat.le_of_ble_eq_true rfl, Nat.le_of_ble_eq_true rfl⟩ rfl (s_X12_inR (b := bdB true) (κ := h) (Fr.rf hF.2.1) _ ⟨by omega, by omega⟩ _ ⟨by omega, by omega⟩ _ ⟨by omega, by omega⟩) dX12_raw_0.1.1.2.2 (Nat.le_of_ble_eq_true rfl) rfl ?_
  rintro r4 z4 ⟨hz4, p4⟩; subst z4
  refine zV_if_eq (tgt := 43) (pc' := 10) dX12_raw_0.1.2.1.1 rfl rfl ⟨by omega, by omega⟩ (fun c7 => ?_) (fun c7 => ?_)
  · refine zW_iconst (pc' := 44) dX12_raw_1.2.1.1.2 rfl ?_
    exact zV_zret rfl (by omega) dX12_raw_1.2.1.2.1 ⟨hF, ⟨⟨by omega, by omega, by omega, (fun j => by have q0 := a0_1 j; have q1 := a0_10 j; omega)⟩, (by first | exact Or.inl (by omega) | exact Or.inr hU | exact Or.inr (by rw [hk0]; exact UnR.rf))⟩⟩
  · refine zW_iload_n (pc' := 11) dX12_raw_0.1.2.1.2 rfl rfl ?_
    refine zW_iconst (pc' := 12) dX12_raw_0.1.2.2.1 rfl ?_
    refine zW_bipush (pc' := 14) dX12_raw_0.1.2.2.2 rfl rfl ?_
    refine csI3 (pc' := 17) kX12_in vX12_in lk_X12_140 ⟨Nat.le_of_ble_eq_true rfl, Nat.le_of_ble_eq_true rfl⟩ rfl (s_X12_inR (b := bdB true) (κ := h) (Fr.rf hF.2.1) _ ⟨by omega, by omega⟩ _ ⟨by omega, by omega⟩ _ ⟨by omega, by omega⟩) dX12_raw_0.2.1.1.1 (Nat.le_of_ble_eq_true rfl) rfl ?_
    rintro r14 z14 ⟨hz14, p14⟩; subst z14
    refine zV_if_eq (tgt := 43) (pc' := 20) dX12_raw_0.2.1.1.2 rfl rfl ⟨by omega, by omega⟩ (fun c17 => ?_) (fun c17 => ?_)
    · refine zW_iconst (pc' := 44) dX12_raw_1.2.1.1.2 rfl ?_
      exact zV_zret rfl (by omega) dX12_raw_1.2.1.2.1 ⟨hF, ⟨⟨by omega, by omega, by omega, (fun j => by have q0 := a0_1 j; have q1 := a0_10 j; omega)⟩, (by first | exact Or.inl (by omega) | exact Or.inr hU | exact Or.inr (by rw [hk0]; exact UnR.rf))⟩⟩
    · refine zW_iload_n (pc' := 21) dX12_raw_0.2.1.2.1 rfl rfl ?_
      refine zW_iconst (pc' := 22) dX12_raw_0.2.1.2.2 rfl ?_
      refine zW_irem (pc' := 23) (by omega) (by omega) dX12_raw_0.2.2.1.1 rfl ?_
      refine zW_iconst (pc' := 24) dX12_raw_0.2.2.1.2 rfl ?_
      refine zV_cm_eq (tgt := 43) (pc' := 27) dX12_raw_0.2.2.2.1 rfl rfl ⟨by omega, by omega⟩ ⟨by omega, by omega⟩ (fun c24 => ?_) (fun c24 => ?_)
      · refine zW_iconst (pc' := 44) dX12_raw_1.2.1.1.2 rfl ?_
        exact zV_zret rfl (by omega) dX12_raw_1.2.1.2.1 ⟨hF, ⟨⟨by omega, by omega, by omega, (fun j => by have q0 := a0_1 j; have q1 := a0_10 j; omega)⟩, (by first | exact Or.inl (by omega) | exact Or.inr hU | exact Or.inr (by rw [hk0]; exact UnR.rf))⟩⟩
      · refine zW_iload_n (pc' := 28) dX12_raw_0.2.2.2.2 rfl rfl ?_
        refine zW_iconst (pc' := 29) dX12_raw_1.1.1.1.1 rfl ?_
        refine zW_irem (pc' := 30) (by omega) (by omega) dX12_raw_1.1.1.1.2 rfl ?_
        refine zW_iconst (pc' := 31) dX12_raw_1.1.1.2.1 rfl ?_
        refine zV_cm_eq (tgt := 43) (pc' := 34) dX12_raw_1.1.1.2.2 rfl rfl ⟨by omega, by omega⟩ ⟨by omega, by omega⟩ (fun c31 => ?_) (fun c31 => ?_)
        · refine zW_iconst (pc' := 44) dX12_raw_1.2.1.1.2 rfl ?_
          exact zV_zret rfl (by omega) dX12_raw_1.2.1.2.1 ⟨hF, ⟨⟨by omega, by omega, by omega, (fun j => by have q0 := a0_1 j; have q1 := a0_10 j; omega)⟩, (by first | exact Or.inl (by omega) | exact Or.inr hU | exact Or.inr (by rw [hk0]; exact UnR.rf))⟩⟩
        · refine zW_iload_n (pc' := 35) dX12_raw_1.1.2.1.1 rfl rfl ?_
          refine zW_iconst (pc' := 36) dX12_raw_1.1.2.1.2 rfl ?_
          refine zW_iconst (pc' := 37) dX12_raw_1.1.2.2.1 rfl ?_
          refine csI3 (pc' := 40) kX12_in vX12_in lk_X12_140 ⟨Nat.le_of_ble_eq_true rfl, Nat.le_of_ble_eq_true rfl⟩ rfl (s_X12_inR (b := bdB true) (κ := h) (Fr.rf hF.2.1) _ ⟨by omega, by omega⟩ _ ⟨by omega, by omega⟩ _ ⟨by omega, by omega⟩) dX12_raw_1.1.2.2.2 (Nat.le_of_ble_eq_true rfl) rfl ?_
          rintro r37 z37 ⟨hz37, p37⟩; subst z37
          refine zV_if_ne (tgt := 45) (pc' := 43) dX12_raw_1.2.1.1.1 rfl rfl ⟨by omega, by omega⟩ (fun c40 => ?_) (fun c40 => ?_)
          · refine zW_aload_n (pc' := 46) dX12_raw_1.2.1.2.2 rfl rfl ?_
            refine zW_iload_n (pc' := 47) dX12_raw_1.2.2.1.1 rfl rfl ?_
            refine zPm (pc' := 50) hF (Or.inl rfl) (SI_irr hF.2.1 (Or.inl rfl) (fun _ _ => ⟨by omega, by omega⟩)) (KR_11 hF.2.2.1 (by omega)) (KC_irr hF.2.2.2 rfl) fp_X12_99 tb0 rfl dX12_raw_1.2.2.1.2 rfl (fun h hF w47 => ?_)
            have a47_1 := fun j : Nat => (congrFun (congrFun w47 1) j).trans (zwr_ne (Or.inl (by decide)))
            have a47_10 := fun j : Nat => (congrFun (congrFun w47 10) j).trans (zwr_ne (Or.inl (by decide)))
            have t47_0_11 := congrFun (congrFun w47 0) 11
            rw [zwr_eq] at t47_0_11
            have t47_0_12 := congrFun (congrFun w47 0) 12
            rw [zwr_ne (Or.inr (by decide))] at t47_0_12
            have t47_0_13 := congrFun (congrFun w47 0) 13
            rw [zwr_ne (Or.inr (by decide))] at t47_0_13
            have t47_0_23 := congrFun (congrFun w47 0) 23
            rw [zwr_ne (Or.inr (by decide))] at t47_0_23
            refine zW_aload_n (pc' := 51) dX12_raw_1.2.2.2.1 rfl rfl ?_
            refine zW_iload_n (pc' := 52) dX12_raw_1.2.2.2.2 rfl rfl ?_
            refine zPm (pc' := 55) hF (Or.inl rfl) (SI_irr hF.2.1 (Or.inl rfl) (fun _ _ => ⟨by omega, by omega⟩)) (KR_12 hF.2.2.1 (by omega)) (KC_irr hF.2.2.2 rfl) fp_X12_103 tb0 rfl dX12_raw_2.1.1.1.1 rfl (fun h hF w52 => ?_)
            have a52_1 := fun j : Nat => (congrFun (congrFun w52 1) j).trans (zwr_ne (Or.inl (by decide)))
            have a52_10 := fun j : Nat => (congrFun (congrFun w52 10) j).trans (zwr_ne (Or.inl (by decide)))
            have t52_0_11 := congrFun (congrFun w52 0) 11
            rw [zwr_ne (Or.inr (by decide))] at t52_0_11
            have t52_0_12 := congrFun (congrFun w52 0) 12
            rw [zwr_eq] at t52_0_12
            have t52_0_13 := congrFun (congrFun w52 0) 13
            rw [zwr_ne (Or.inr (by decide))] at t52_0_13
            have t52_0_23 := congrFun (congrFun w52 0) 23
            rw [zwr_ne (Or.inr (by decide))] at t52_0_23
            refine zW_aload_n (pc' := 56) dX12_raw_2.1.1.1.2 rfl rfl ?_
            refine zW_iload_n (pc' := 57) dX12_raw_2.1.1.2.1 rfl rfl ?_
            refine zPm (pc' := 60) hF (Or.inl rfl) (SI_irr hF.2.1 (Or.inl rfl) (fun _ _ => ⟨by omega, by omega⟩)) (KR_13 hF.2.2.1 (by omega)) (KC_irr hF.2.2.2 rfl) fp_X12_209 tb0 rfl dX12_raw_2.1.1.2.2 rfl (fun h hF w57 => ?_)
            have a57_1 := fun j : Nat => (congrFun (congrFun w57 1) j).trans (zwr_ne (Or.inl (by decide)))
            have a57_10 := fun j : Nat => (congrFun (congrFun w57 10) j).trans (zwr_ne (Or.inl (by decide)))
            have t57_0_11 := congrFun (congrFun w57 0) 11
            rw [zwr_ne (Or.inr (by decide))] at t57_0_11
            have t57_0_12 := congrFun (congrFun w57 0) 12
            rw [zwr_ne (Or.inr (by decide))] at t57_0_12
            have t57_0_13 := congrFun (congrFun w57 0) 13
            rw [zwr_eq] at t57_0_13
            have t57_0_23 := congrFun (congrFun w57 0) 23
            rw [zwr_ne (Or.inr (by decide))] at t57_0_23
            refine zW_iconst (pc' := 61) dX12_raw_2.1.2.1.1 rfl ?_
            refine zW_istore (ls' := [_, _, _, _, _]) (pc' := 63) dX12_raw_2.1.2.1.2 (by decide) rfl rfl rfl ?_
            exact (main 10000000000000000000000000000000000000000) _ _ hF (by omega) (by omega) (by omega) (by omega) (by omega) (by omega) (fun j => by have q0 := a0_1 j; have q1 := a0_10 j; have q2 := a47_1 j; have q3 := a47_10 j; have q4 := a52_1 j; have q5 := a52_10 j; have q6 := a57_1 j; have q7 := a57_10 j; omega) (by omega)
          · refine zW_iconst (pc' := 44) dX12_raw_1.2.1.1.2 rfl ?_
            exact zV_zret rfl (by omega) dX12_raw_1.2.1.2.1 ⟨hF, ⟨⟨by omega, by omega, by omega, (fun j => by have q0 := a0_1 j; have q1 := a0_10 j; omega)⟩, (by first | exact Or.inl (by omega) | exact Or.inr hU | exact Or.inr (by rw [hk0]; exact UnR.rf))⟩⟩

abbrev q_X12_pixelE (κ : Hp) (x1 : Int) (x2 : Int) (x3 : Int) : Int → Hp → Prop := fun r h' => Fm [(1, 999), (0, 21), (0, 23)] κ h' ∧ (((0 ≤ r) ∧ (r ≤ 1) ∧ (r = 1 ↔ (0 ≤ x1 ∧ x1 < κ 0 11 ∧ 0 ≤ x2 ∧ x2 < κ 0 12 ∧ 0 ≤ x3 ∧ x3 ≤ 255)) ∧ (∀ j : Nat, (r = 1 → (j : Int) = 16 * x2 + x1 → h' 1 j = x3) ∧ (¬ (r = 1 ∧ (j : Int) = 16 * x2 + x1) → h' 1 j = κ 1 j))) ∧ ChR κ h')
set_option maxHeartbeats 4000000 in
set_option maxRecDepth 20000 in
theorem s_X12_pixelE {G : Ga} {κ : Hp} (hS : SI κ) (hR : KR κ) (hC : KC κ) (x1 : Int) (hx1 : rng x1) (x2 : Int) (hx2 : rng x2) (x3 : Int) (hx3 : rng x3) : zM G mX12_pixel yX12_pixel [.inr (.inr 0), .inl x1, .inl x2, .inl x3] κ (q_X12_pixelE κ x1 x2 x3) := by
  have f_0_11 := KRw hR
  have f_0_12 := KRh hR
  unfold rng at hx1
  unfold rng at hx2
  unfold rng at hx3
  refine zM_of [some (.inr (.inr 0)), some (.inl x1), some (.inl x2), some (.inl x3)] 0 rfl rfl (Nat.le_of_ble_eq_true rfl) rfl ?_
  refine (show ∀ h : Hp, Fm [(1, 999), (0, 21), (0, 23)] κ h → h = κ → zV G mX12_pixel (q_X12_pixelE κ x1 x2 x3) 0 [some (.inr (.inr 0)), some (.inl x1), some (.inl x2), some (.inl x3)] [] h from fun h hF hk0 => ?_) κ (Fm.rf hS hR hC) rfl
  have a0_1 := fun j : Nat => congrFun (congrFun hk0 1) j
  refine zW_aload_n (pc' := 1) dX12_pixel_0.1.1.1.1 rfl rfl ?_
  refine zW_iload_n (pc' := 2) dX12_pixel_0.1.1.1.2 rfl rfl ?_
  refine zW_iload_n (pc' := 3) dX12_pixel_0.1.1.2.1 rfl rfl ?_
  have y3_0_11 := hF.1 0 11 rfl rfl
  have y3_0_12 := hF.1 0 12 rfl rfl
  refine cvI2 (pc' := 6) kX12_isSquare vX12_isSquare lk_X12_218 ⟨Nat.le_of_ble_eq_true rfl, Nat.le_of_ble_eq_true rfl⟩ tb0 vq12 rfl rfl (s_X12_isSquare (b := bdB true) (κ := h) hF.2.2.1 (Fr.rf hF.2.1) _ ⟨by omega, by omega⟩ _ ⟨by omega, by omega⟩) dX12_pixel_0.1.1.2.2 (Nat.le_of_ble_eq_true rfl) rfl ?_
  rintro r3 z3 ⟨hz3, p3⟩; subst z3
  refine zV_if_eq (tgt := 20) (pc' := 9) dX12_pixel_0.1.2.1.1 rfl rfl ⟨by omega, by omega⟩ (fun c6 => ?_) (fun c6 => ?_)
  · refine zW_iconst (pc' := 21) dX12_pixel_0.2.1.2.1 rfl ?_
    exact zV_zret rfl (by omega) dX12_pixel_0.2.1.2.2 ⟨hF, ⟨⟨by omega, by omega, by omega, (fun j => by have q0 := a0_1 j; omega)⟩, (by first | exact Or.inl (by omega) | exact Or.inr hU | exact Or.inr (by rw [hk0]; exact UnR.rf))⟩⟩
  · refine zW_iload_n (pc' := 10) dX12_pixel_0.1.2.1.2 rfl rfl ?_
    refine zW_iconst (pc' := 11) dX12_pixel_0.1.2.2.1 rfl ?_
    refine zW_sipush (pc' := 14) dX12_pixel_0.1.2.2.2 rfl rfl ?_
    refine csI3 (pc' := 17) kX12_in vX12_in lk_X12_140 ⟨Nat.le_of_ble_eq_true rfl, Nat.le_of_ble_eq_true rfl⟩ rfl (s_X12_inR (b := bdB true) (κ := h) (Fr.rf hF.2.1) _ ⟨by omega, by omega⟩ _ ⟨by omega, by omega⟩ _ ⟨by omega, by omega⟩) dX12_pixel_0.2.1.1.1 (Nat.le_of_ble_eq_true rfl) rfl ?_
    rintro r14 z14 ⟨hz14, p14⟩; subst z14
    refine zV_if_ne (tgt := 22) (pc' := 20) dX12_pixel_0.2.1.1.2 rfl rfl ⟨by omega, by omega⟩ (fun c17 => ?_) (fun c17 => ?_)
    · refine zW_aload_n (pc' := 23) dX12_pixel_0.2.2.1.1 rfl rfl ?_
      refine zG_ref (pc' := 26) 1 fg_X12_7 tb0 rfl dX12_pixel_0.2.2.1.2 rfl ?_
      refine zW_bipush (pc' := 28) dX12_pixel_0.2.2.2.1 rfl rfl ?_
      refine zW_iload_n (pc' := 29) dX12_pixel_0.2.2.2.2 rfl rfl ?_
      refine zW_imul (pc' := 30) dX12_pixel_1.1.1.1.1 rfl ?_
      refine zW_iload_n (pc' := 31) dX12_pixel_1.1.1.1.2 rfl rfl ?_
      refine zW_iadd (pc' := 32) dX12_pixel_1.1.1.2 rfl ?_
      refine zW_iload_n (pc' := 33) dX12_pixel_1.1.2.1 rfl rfl ?_
      refine zSm (pc' := 34) hF rfl (fun v' hv he => ⟨(SI_irr hF.2.1 (Or.inl (key_of rfl _)) (fun _ _ => hv)), (KR_irr hF.2.2.1 rfl), (KC_irr hF.2.2.2 rfl)⟩) tb1 (by omega) dX12_pixel_1.1.2.2 (by decide) rfl (fun h i33 hF a33 b33 w33 => ?_)
      have a33_1 := fun j : Nat => zwr_pt (congrFun (congrFun w33 1) j)
      replace b33 := b33 ⟨by omega, by omega⟩
      have t33_0_23 := congrFun (congrFun w33 0) 23
      rw [zwr_ne (Or.inl (by decide))] at t33_0_23
      refine zW_aload_n (pc' := 35) dX12_pixel_1.2.1.1 rfl rfl ?_
      refine cvV0 (pc' := 38) kX12_changed vX12_changed lk_X12_215 ⟨Nat.le_of_ble_eq_true rfl, Nat.le_of_ble_eq_true rfl⟩ tb0 vq12 rfl rfl (s_X12_changed hF.2.1 hF.2.2.1 hF.2.2.2) dX12_pixel_1.2.1.2 (Nat.le_of_ble_eq_true rfl) rfl ?_
      rintro r35 h ⟨hF1, p35⟩; replace hF := hF.tr hF1 rfl
      have f35_1 := fun j : Nat => hF1.1 1 j rfl rfl
      refine zW_iconst (pc' := 39) dX12_pixel_1.2.2.1 rfl ?_
      exact zV_zret rfl (by omega) dX12_pixel_1.2.2.2 ⟨hF, ⟨⟨by omega, by omega, by omega, (fun j => by have q0 := a0_1 j; have q1 := a33_1 j; have q2 := f35_1 j; omega)⟩, (by first | exact Or.inl (by omega) | exact Or.inr hU | exact Or.inr (by rw [hk0]; exact UnR.rf))⟩⟩
    · refine zW_iconst (pc' := 21) dX12_pixel_0.2.1.2.1 rfl ?_
      exact zV_zret rfl (by omega) dX12_pixel_0.2.1.2.2 ⟨hF, ⟨⟨by omega, by omega, by omega, (fun j => by have q0 := a0_1 j; omega)⟩, (by first | exact Or.inl (by omega) | exact Or.inr hU | exact Or.inr (by rw [hk0]; exact UnR.rf))⟩⟩

abbrev q_X12_rowE (κ : Hp) (x1 : Int) : Int → Hp → Prop := fun r h' => Fm [(1, 999), (0, 25), (0, 21), (0, 23)] κ h' ∧ (((0 ≤ r) ∧ (r ≤ 1) ∧ ((r = 1 ∧ (0 ≤ x1 ∧ x1 < κ 0 12 ∧ κ 0 11 ≤ κ 0 25) ∧ h' 0 25 = 0) ∨ (r = 0 ∧ ¬ (0 ≤ x1 ∧ x1 < κ 0 12 ∧ κ 0 11 ≤ κ 0 25) ∧ h' 0 25 = κ 0 25)) ∧ (∀ j : Nat, (r = 1 → (16 * x1 ≤ (j : Int) → (j : Int) < 16 * x1 + κ 0 11 → h' 1 j = κ 12 (j % 16) % 256) ∧ (¬ (16 * x1 ≤ (j : Int) ∧ (j : Int) < 16 * x1 + κ 0 11) → h' 1 j = κ 1 j)) ∧ (r = 0 → h' 1 j = κ 1 j))) ∧ ChR κ h')
set_option maxHeartbeats 4000000 in
set_option maxRecDepth 20000 in
theorem s_X12_rowE {G : Ga} {κ : Hp} (hS : SI κ) (hR : KR κ) (hC : KC κ) (x1 : Int) (hx1 : rng x1) : zM G mX12_row yX12_row [.inr (.inr 0), .inl x1] κ (q_X12_rowE κ x1) := by
  have f_0_11 := KRw hR
  have f_0_12 := KRh hR
  have f_0_25 := KRt hR
  unfold rng at hx1
  have main : ∀ N : Nat, (∀ (v2 : Int) (h : Hp), Fm [(1, 999), (0, 25), (0, 21), (0, 23)] κ h → (0 ≤ x1 ∧ x1 ≤ 15) → (x1 - κ 0 12 ≤ -1) → (0 ≤ v2 ∧ v2 ≤ 16) → (v2 - κ 0 11 ≤ 0) → (κ 0 11 ≤ κ 0 25) → (h 0 25 = κ 0 25) → (∀ j : Nat, (16 * x1 ≤ (j : Int) → (j : Int) < 16 * x1 + v2 → h 1 j = κ 12 (j % 16) % 256) ∧ (¬ (16 * x1 ≤ (j : Int) ∧ (j : Int) < 16 * x1 + v2) → h 1 j = κ 1 j)) → 16740 + 31 * (16 - v2) + 30 < (N : Int) → zV G mX12_row (q_X12_rowE κ x1) 29 [some (.inr (.inr 0)), some (.inl x1), some (.inl v2)] [] h) := by
    intro N
    induction N with
    | zero =>
      intro v2 h hF g0 g1 g2 g3 gc0 gc1 gc2 hm
      exfalso; omega
    | succ N ih =>
      have k29 := ih
      intro v2 h hF g0 g1 g2 g3 gc0 gc1 gc2 hm
      refine zW_iload_n (pc' := 30) dX12_row_1.1.1.1.2 rfl rfl ?_
      refine zW_aload_n (pc' := 31) dX12_row_1.1.1.2.1 rfl rfl ?_
      refine zGm (pc' := 34) hF rfl rfl fg_X12_99 tb0 rfl dX12_row_1.1.1.2.2 rfl ?_
      refine zV_cm_ge (tgt := 64) (pc' := 37) dX12_row_1.1.2.1.1 rfl rfl ⟨by omega, by omega⟩ ⟨by omega, by omega⟩ (fun c34 => ?_) (fun c34 => ?_)
      · refine zW_aload_n (pc' := 65) dX12_row_2.1.2.2 rfl rfl ?_
        refine zW_iconst (pc' := 66) dX12_row_2.2.1.1.1 rfl ?_
        refine zPm (pc' := 69) hF (Or.inl rfl) (SI_irr hF.2.1 (Or.inl rfl) (fun _ _ => ⟨by omega, by omega⟩)) (KR_25 hF.2.2.1 (by omega)) (KC_irr hF.2.2.2 rfl) fp_X12_116 tb0 rfl dX12_row_2.2.1.1.2 rfl (fun h hF w66 => ?_)
        have a66_1 := fun j : Nat => (congrFun (congrFun w66 1) j).trans (zwr_ne (Or.inl (by decide)))
        have t66_0_25 := congrFun (congrFun w66 0) 25
        rw [zwr_eq] at t66_0_25
        have t66_0_23 := congrFun (congrFun w66 0) 23
        rw [zwr_ne (Or.inr (by decide))] at t66_0_23
        refine zW_aload_n (pc' := 70) dX12_row_2.2.1.2 rfl rfl ?_
        refine cvV0 (pc' := 73) kX12_changed vX12_changed lk_X12_215 ⟨Nat.le_of_ble_eq_true rfl, Nat.le_of_ble_eq_true rfl⟩ tb0 vq12 rfl rfl (s_X12_changed hF.2.1 hF.2.2.1 hF.2.2.2) dX12_row_2.2.2.1.1 (Nat.le_of_ble_eq_true rfl) rfl ?_
        rintro r70 h ⟨hF1, p70⟩; replace hF := hF.tr hF1 rfl
        have f70_1 := fun j : Nat => hF1.1 1 j rfl rfl
        have t70_0_25 := hF1.1 0 25 rfl rfl
        refine zW_iconst (pc' := 74) dX12_row_2.2.2.1.2 rfl ?_
        exact zV_zret rfl (by omega) dX12_row_2.2.2.2 ⟨hF, ⟨⟨by omega, by omega, by omega, (fun j => by have q0 := gc2 j; have q1 := a66_1 j; have q2 := f70_1 j; omega)⟩, (by first | exact Or.inl (by omega) | exact Or.inr hU | exact Or.inr (by rw [hk0]; exact UnR.rf))⟩⟩
      · refine zW_aload_n (pc' := 38) dX12_row_1.1.2.1.2 rfl rfl ?_
        refine zG_ref (pc' := 41) 1 fg_X12_7 tb0 rfl dX12_row_1.1.2.2.1 rfl ?_
        refine zW_bipush (pc' := 43) dX12_row_1.1.2.2.2 rfl rfl ?_
        refine zW_iload_n (pc' := 44) dX12_row_1.2.1.1.1 rfl rfl ?_
        refine zW_imul (pc' := 45) dX12_row_1.2.1.1.2 rfl ?_
        refine zW_iload_n (pc' := 46) dX12_row_1.2.1.2.1 rfl rfl ?_
        refine zW_iadd (pc' := 47) dX12_row_1.2.1.2.2 rfl ?_
        refine zW_aload_n (pc' := 48) dX12_row_1.2.2.1.1 rfl rfl ?_
        refine zG_ref (pc' := 51) 12 fg_X12_44 tb0 rfl dX12_row_1.2.2.1.2 rfl ?_
        refine zW_iload_n (pc' := 52) dX12_row_1.2.2.2.1 rfl rfl ?_
        refine zV_bald (pc' := 53) tb12 (by omega) dX12_row_1.2.2.2.2 (by decide) rfl ?_
        have y12 := hF.1 12 v2.toNat rfl rfl
        refine zW_sipush (pc' := 56) dX12_row_2.1.1.1.1 rfl rfl ?_
        refine zW_iand255 (pc' := 57) dX12_row_2.1.1.1.2 rfl (fun v56 e56 => ?_)
        refine zSm (pc' := 58) hF rfl (fun v' hv he => ⟨(SI_irr hF.2.1 (Or.inl (key_of rfl _)) (fun _ _ => hv)), (KR_irr hF.2.2.1 rfl), (KC_irr hF.2.2.2 rfl)⟩) tb1 (by omega) dX12_row_2.1.1.2 (by decide) rfl (fun h i57 hF a57 b57 w57 => ?_)
        have a57_1 := fun j : Nat => zwr_pt (congrFun (congrFun w57 1) j)
        replace b57 := b57 ⟨by omega, by omega⟩
        have t57_0_25 := congrFun (congrFun w57 0) 25
        rw [zwr_ne (Or.inl (by decide))] at t57_0_25
        have t57_0_23 := congrFun (congrFun w57 0) 23
        rw [zwr_ne (Or.inl (by decide))] at t57_0_23
        refine zW_iinc (ls' := [_, _, _]) (pc' := 61) dX12_row_2.1.2.1.1 rfl (by decide) rfl rfl rfl ?_
        refine zV_goto 29 dX12_row_2.1.2.1.2 rfl ?_
        exact k29 _ _ hF (by omega) (by omega) (by omega) (by omega) (by omega) (by omega) (fun j => by have q0 := gc2 j; have q1 := a57_1 j; by_cases ej : j % 16 = v2.toNat; (rw [ej]; omega); omega) (by omega)
  refine zM_of [some (.inr (.inr 0)), some (.inl x1), none] 1 rfl rfl (Nat.le_of_ble_eq_true rfl) rfl ?_
  refine (show ∀ h : Hp, Fm [(1, 999), (0, 25), (0, 21), (0, 23)] κ h → h = κ → zV G mX12_row (q_X12_rowE κ x1) 0 [some (.inr (.inr 0)), some (.inl x1), none] [] h from fun h hF hk0 => ?_) κ (Fm.rf hS hR hC) rfl
  have y0_0_25 : h 0 25 = κ 0 25 := by rw [hk0]
  have a0_1 := fun j : Nat => congrFun (congrFun hk0 1) j
  refine zW_iload_n (pc' := 1) dX12_row_0.1.1.1.1 rfl rfl ?_
  refine zW_iconst (pc' := 2) dX12_row_0.1.1.1.2 rfl ?_
  refine zW_aload_n (pc' := 3) dX12_row_0.1.1.2.1 rfl rfl ?_
  refine zGm (pc' := 6) hF rfl rfl fg_X12_103 tb0 rfl dX12_row_0.1.1.2.2 rfl ?_
  refine zW_iconst (pc' := 7) dX12_row_0.1.2.1.1 rfl ?_
  refine zW_isub (pc' := 8) dX12_row_0.1.2.1.2 rfl ?_
  refine csI3 (pc' := 11) kX12_in vX12_in lk_X12_140 ⟨Nat.le_of_ble_eq_true rfl, Nat.le_of_ble_eq_true rfl⟩ rfl (s_X12_inR (b := bdB true) (κ := h) (Fr.rf hF.2.1) _ ⟨by omega, by omega⟩ _ ⟨by omega, by omega⟩ _ ⟨by omega, by omega⟩) dX12_row_0.1.2.2.1 (Nat.le_of_ble_eq_true rfl) rfl ?_
  rintro r8 z8 ⟨hz8, p8⟩; subst z8
  refine zV_if_eq (tgt := 25) (pc' := 14) dX12_row_0.1.2.2.2 rfl rfl ⟨by omega, by omega⟩ (fun c11 => ?_) (fun c11 => ?_)
  · refine zW_iconst (pc' := 26) dX12_row_0.2.2.1.2 rfl ?_
    exact zV_zret rfl (by omega) dX12_row_0.2.2.2.1 ⟨hF, ⟨⟨by omega, by omega, by omega, (fun j => by have q0 := a0_1 j; omega)⟩, (by first | exact Or.inl (by omega) | exact Or.inr hU | exact Or.inr (by rw [hk0]; exact UnR.rf))⟩⟩
  · refine zW_aload_n (pc' := 15) dX12_row_0.2.1.1.1 rfl rfl ?_
    refine zGm (pc' := 18) hF rfl rfl fg_X12_99 tb0 rfl dX12_row_0.2.1.1.2 rfl ?_
    refine zW_aload_n (pc' := 19) dX12_row_0.2.1.2.1 rfl rfl ?_
    refine zG_int (pc' := 22) fg_X12_116 tb0 rfl dX12_row_0.2.1.2.2 rfl ?_
    have e19 := KRt hF.2.2.1
    refine zV_cm_le (tgt := 27) (pc' := 25) dX12_row_0.2.2.1.1 rfl rfl ⟨by omega, by omega⟩ ⟨by omega, by omega⟩ (fun c22 => ?_) (fun c22 => ?_)
    · refine zW_iconst (pc' := 28) dX12_row_0.2.2.2.2 rfl ?_
      refine zW_istore_n (ls' := [_, _, _]) (pc' := 29) dX12_row_1.1.1.1.1 (by decide) rfl rfl rfl ?_
      exact (main 10000000000000000000000000000000000000000) _ _ hF (by omega) (by omega) (by omega) (by omega) (by omega) (by omega) (fun j => by have q0 := a0_1 j; omega) (by omega)
    · refine zW_iconst (pc' := 26) dX12_row_0.2.2.1.2 rfl ?_
      exact zV_zret rfl (by omega) dX12_row_0.2.2.2.1 ⟨hF, ⟨⟨by omega, by omega, by omega, (fun j => by have q0 := a0_1 j; omega)⟩, (by first | exact Or.inl (by omega) | exact Or.inr hU | exact Or.inr (by rw [hk0]; exact UnR.rf))⟩⟩

abbrev q_J7_fill_53178V34E (κ : Hp) (x2 : Int) : Int → Hp → Prop := fun r h' => Fm [(34, 999)] κ h' ∧ ((∀ j : Nat, j < 256 → h' 34 j = 0))
set_option maxHeartbeats 4000000 in
set_option maxRecDepth 20000 in
theorem s_J7_fill_53178V34E {G : Ga} {κ : Hp} (hS : SI κ) (hR : KR κ) (hC : KC κ) (x2 : Int) (hx2 : 0 ≤ x2 ∧ x2 ≤ 0) : zM G mJ7_fill_53178 yJ7_fill_53178 [.inr (.inr 34), .inl x2] κ (q_J7_fill_53178V34E κ x2) := by
  have main : ∀ N : Nat, (∀ (v2 v3 : Int) (h : Hp), Fm [(34, 999)] κ h → (0 ≤ v2 ∧ v2 ≤ 256) → (256 ≤ v3 ∧ v3 ≤ 256) → (∀ j : Nat, (j : Int) < v2 → h 34 j = 0) → 34056 + 12 * (256 - v2) + 11 < (N : Int) → zV G mJ7_fill_53178 (q_J7_fill_53178V34E κ x2) 5 [some (.inr (.inr 34)), some (.inl x2), some (.inl v2), some (.inl v3)] [] h) := by
    intro N
    induction N with
    | zero =>
      intro v2 v3 h hF g0 g1 gc0 hm
      exfalso; omega
    | succ N ih =>
      have k5 := ih
      intro v2 v3 h hF g0 g1 gc0 hm
      refine zW_iload_n (pc' := 6) dJ7_fill_53178_0.1.2.1.2 rfl rfl ?_
      refine zW_iload_n (pc' := 7) dJ7_fill_53178_0.1.2.2.1 rfl rfl ?_
      refine zV_cm_ge (tgt := 20) (pc' := 10) dJ7_fill_53178_0.1.2.2.2 rfl rfl ⟨by omega, by omega⟩ ⟨by omega, by omega⟩ (fun c7 => ?_) (fun c7 => ?_)
      · exact zV_vret rfl dJ7_fill_53178_0.2.2.2 ⟨hF, (fun j => by have q0 := gc0 j; omega)⟩
      · refine zW_aload_n (pc' := 11) dJ7_fill_53178_0.2.1.1.1 rfl rfl ?_
        refine zW_iload_n (pc' := 12) dJ7_fill_53178_0.2.1.1.2 rfl rfl ?_
        refine zW_iload_n (pc' := 13) dJ7_fill_53178_0.2.1.2.1 rfl rfl ?_
        refine zSm (pc' := 14) hF rfl (fun v' hv he => ⟨(SI_irr hF.2.1 (Or.inl (key_of rfl _)) (fun _ _ => hv)), (KR_irr hF.2.2.1 rfl), (KC_irr hF.2.2.2 rfl)⟩) tb34 (by omega) dJ7_fill_53178_0.2.1.2.2 (by decide) rfl (fun h i13 hF a13 b13 w13 => ?_)
        have a13_34 := fun j : Nat => zwr_pt (congrFun (congrFun w13 34) j)
        replace b13 := b13 ⟨by omega, by omega⟩
        refine zW_iinc (ls' := [_, _, _, _]) (pc' := 17) dJ7_fill_53178_0.2.2.1.1 rfl (by decide) rfl rfl rfl ?_
        refine zV_goto 5 dJ7_fill_53178_0.2.2.1.2 rfl ?_
        exact k5 _ _ _ hF (by omega) (by omega) (fun j => by have q0 := gc0 j; have q1 := a13_34 j; omega) (by omega)
  refine zM_of [some (.inr (.inr 34)), some (.inl x2), none, none] 2 (by decide +kernel) rfl (Nat.le_of_ble_eq_true rfl) rfl ?_
  refine (show ∀ h : Hp, Fm [(34, 999)] κ h → h = κ → zV G mJ7_fill_53178 (q_J7_fill_53178V34E κ x2) 0 [some (.inr (.inr 34)), some (.inl x2), none, none] [] h from fun h hF hk0 => ?_) κ (Fm.rf hS hR hC) rfl
  have a0_34 := fun j : Nat => congrFun (congrFun hk0 34) j
  refine zW_iconst (pc' := 1) dJ7_fill_53178_0.1.1.1.1 rfl ?_
  refine zW_istore_n (ls' := [_, _, _, _]) (pc' := 2) dJ7_fill_53178_0.1.1.1.2 (by decide) rfl rfl rfl ?_
  refine zW_aload_n (pc' := 3) dJ7_fill_53178_0.1.1.2.1 rfl rfl ?_
  refine zV_alen (pc' := 4) tb34 (by decide) dJ7_fill_53178_0.1.1.2.2 rfl ?_
  refine zW_istore_n (ls' := [_, _, _, _]) (pc' := 5) dJ7_fill_53178_0.1.2.1.1 (by decide) rfl rfl rfl ?_
  exact (main 10000000000000000000000000000000000000000) _ _ _ hF (by omega) (by omega) (fun j => by have q0 := a0_34 j; omega) (by omega)

abbrev q_J7_fill_53178V35E (κ : Hp) (x2 : Int) : Int → Hp → Prop := fun r h' => Fm [(35, 999)] κ h' ∧ ((∀ j : Nat, j < 256 → h' 35 j = 0))
set_option maxHeartbeats 4000000 in
set_option maxRecDepth 20000 in
theorem s_J7_fill_53178V35E {G : Ga} {κ : Hp} (hS : SI κ) (hR : KR κ) (hC : KC κ) (x2 : Int) (hx2 : 0 ≤ x2 ∧ x2 ≤ 0) : zM G mJ7_fill_53178 yJ7_fill_53178 [.inr (.inr 35), .inl x2] κ (q_J7_fill_53178V35E κ x2) := by
  have main : ∀ N : Nat, (∀ (v2 v3 : Int) (h : Hp), Fm [(35, 999)] κ h → (0 ≤ v2 ∧ v2 ≤ 256) → (256 ≤ v3 ∧ v3 ≤ 256) → (∀ j : Nat, (j : Int) < v2 → h 35 j = 0) → 34056 + 12 * (256 - v2) + 11 < (N : Int) → zV G mJ7_fill_53178 (q_J7_fill_53178V35E κ x2) 5 [some (.inr (.inr 35)), some (.inl x2), some (.inl v2), some (.inl v3)] [] h) := by
    intro N
    induction N with
    | zero =>
      intro v2 v3 h hF g0 g1 gc0 hm
      exfalso; omega
    | succ N ih =>
      have k5 := ih
      intro v2 v3 h hF g0 g1 gc0 hm
      refine zW_iload_n (pc' := 6) dJ7_fill_53178_0.1.2.1.2 rfl rfl ?_
      refine zW_iload_n (pc' := 7) dJ7_fill_53178_0.1.2.2.1 rfl rfl ?_
      refine zV_cm_ge (tgt := 20) (pc' := 10) dJ7_fill_53178_0.1.2.2.2 rfl rfl ⟨by omega, by omega⟩ ⟨by omega, by omega⟩ (fun c7 => ?_) (fun c7 => ?_)
      · exact zV_vret rfl dJ7_fill_53178_0.2.2.2 ⟨hF, (fun j => by have q0 := gc0 j; omega)⟩
      · refine zW_aload_n (pc' := 11) dJ7_fill_53178_0.2.1.1.1 rfl rfl ?_
        refine zW_iload_n (pc' := 12) dJ7_fill_53178_0.2.1.1.2 rfl rfl ?_
        refine zW_iload_n (pc' := 13) dJ7_fill_53178_0.2.1.2.1 rfl rfl ?_
        refine zSm (pc' := 14) hF rfl (fun v' hv he => ⟨(SI_irr hF.2.1 (Or.inl (key_of rfl _)) (fun _ _ => hv)), (KR_irr hF.2.2.1 rfl), (KC_irr hF.2.2.2 rfl)⟩) tb35 (by omega) dJ7_fill_53178_0.2.1.2.2 (by decide) rfl (fun h i13 hF a13 b13 w13 => ?_)
        have a13_35 := fun j : Nat => zwr_pt (congrFun (congrFun w13 35) j)
        replace b13 := b13 ⟨by omega, by omega⟩
        refine zW_iinc (ls' := [_, _, _, _]) (pc' := 17) dJ7_fill_53178_0.2.2.1.1 rfl (by decide) rfl rfl rfl ?_
        refine zV_goto 5 dJ7_fill_53178_0.2.2.1.2 rfl ?_
        exact k5 _ _ _ hF (by omega) (by omega) (fun j => by have q0 := gc0 j; have q1 := a13_35 j; omega) (by omega)
  refine zM_of [some (.inr (.inr 35)), some (.inl x2), none, none] 2 (by decide +kernel) rfl (Nat.le_of_ble_eq_true rfl) rfl ?_
  refine (show ∀ h : Hp, Fm [(35, 999)] κ h → h = κ → zV G mJ7_fill_53178 (q_J7_fill_53178V35E κ x2) 0 [some (.inr (.inr 35)), some (.inl x2), none, none] [] h from fun h hF hk0 => ?_) κ (Fm.rf hS hR hC) rfl
  have a0_35 := fun j : Nat => congrFun (congrFun hk0 35) j
  refine zW_iconst (pc' := 1) dJ7_fill_53178_0.1.1.1.1 rfl ?_
  refine zW_istore_n (ls' := [_, _, _, _]) (pc' := 2) dJ7_fill_53178_0.1.1.1.2 (by decide) rfl rfl rfl ?_
  refine zW_aload_n (pc' := 3) dJ7_fill_53178_0.1.1.2.1 rfl rfl ?_
  refine zV_alen (pc' := 4) tb35 (by decide) dJ7_fill_53178_0.1.1.2.2 rfl ?_
  refine zW_istore_n (ls' := [_, _, _, _]) (pc' := 5) dJ7_fill_53178_0.1.2.1.1 (by decide) rfl rfl rfl ?_
  exact (main 10000000000000000000000000000000000000000) _ _ _ hF (by omega) (by omega) (fun j => by have q0 := a0_35 j; omega) (by omega)

abbrev q_X5_wakeE (κ : Hp)  : Int → Hp → Prop := fun r h' => Fm [(35, 999)] κ h' ∧ ((∀ j : Nat, j < 256 → h' 35 j = 0))
set_option maxHeartbeats 4000000 in
set_option maxRecDepth 20000 in
theorem s_X5_wakeE {G : Ga} {κ : Hp} (hS : SI κ) (hR : KR κ) (hC : KC κ)  : zM G mX5_wake yX5_wake [.inr (.inr 33)] κ (q_X5_wakeE κ) := by
  refine zM_of [some (.inr (.inr 33))] 0 rfl rfl (Nat.le_of_ble_eq_true rfl) rfl ?_
  refine (show ∀ h : Hp, Fm [(35, 999)] κ h → h = κ → zV G mX5_wake (q_X5_wakeE κ) 0 [some (.inr (.inr 33))] [] h from fun h hF hk0 => ?_) κ (Fm.rf hS hR hC) rfl
  have a0_35 := fun j : Nat => congrFun (congrFun hk0 35) j
  refine zW_aload_n (pc' := 1) dX5_wake_0.1.1.1 rfl rfl ?_
  refine zG_ref (pc' := 4) 35 fg_X5_22 tb33 rfl dX5_wake_0.1.1.2 rfl ?_
  refine zW_iconst (pc' := 5) dX5_wake_0.1.2 rfl ?_
  refine csV2 (pc' := 8) kJ7_fill_53178 vJ7_fill_53178 lk_X5_28 ⟨Nat.le_of_ble_eq_true rfl, Nat.le_of_ble_eq_true rfl⟩ rfl (s_J7_fill_53178V35E hF.2.1 hF.2.2.1 hF.2.2.2 _ ⟨by omega, by omega⟩) dX5_wake_0.2.1 (Nat.le_of_ble_eq_true rfl) rfl ?_
  rintro r5 h ⟨hF1, p5⟩; replace hF := hF.tr hF1 rfl
  have a5_0 := p5
  exact zV_vret rfl dX5_wake_0.2.2 ⟨hF, (fun j => by have q0 := a0_35 j; have q1 := a5_0 j; omega)⟩

abbrev q_X5_beginE (κ : Hp) (x1 : Int) (x2 : Int) (x3 : Int) : Int → Hp → Prop := fun r h' => Fm [(33, 0), (33, 1), (33, 2), (34, 999), (35, 999)] κ h' ∧ ((h' 33 0 = x1 ∧ h' 33 1 = x2 ∧ h' 33 2 = x3) ∧ (∀ j : Nat, j < 256 → h' 34 j = 0 ∧ h' 35 j = 0))
set_option maxHeartbeats 4000000 in
set_option maxRecDepth 20000 in
theorem s_X5_beginE {G : Ga} {κ : Hp} (hS : SI κ) (hR : KR κ) (hC : KC κ) (x1 : Int) (hx1 : 4 ≤ x1 ∧ x1 ≤ 16) (x2 : Int) (hx2 : 4 ≤ x2 ∧ x2 ≤ 16) (x3 : Int) (hx3 : 0 ≤ x3 ∧ x3 ≤ 3) : zM G mX5_begin yX5_begin [.inr (.inr 33), .inl x1, .inl x2, .inl x3] κ (q_X5_beginE κ x1 x2 x3) := by
  refine zM_of [some (.inr (.inr 33)), some (.inl x1), some (.inl x2), some (.inl x3)] 0 rfl rfl (Nat.le_of_ble_eq_true rfl) rfl ?_
  refine (show ∀ h : Hp, Fm [(33, 0), (33, 1), (33, 2), (34, 999), (35, 999)] κ h → h = κ → zV G mX5_begin (q_X5_beginE κ x1 x2 x3) 0 [some (.inr (.inr 33)), some (.inl x1), some (.inl x2), some (.inl x3)] [] h from fun h hF hk0 => ?_) κ (Fm.rf hS hR hC) rfl
  have a0_34 := fun j : Nat => congrFun (congrFun hk0 34) j
  have a0_35 := fun j : Nat => congrFun (congrFun hk0 35) j
  refine zW_aload_n (pc' := 1) dX5_begin_0.1.1.1.1 rfl rfl ?_
  refine zW_iload_n (pc' := 2) dX5_begin_0.1.1.1.2 rfl rfl ?_
  refine zPm (pc' := 5) hF (Or.inl rfl) (SI_irr hF.2.1 (Or.inl rfl) (fun _ _ => ⟨by omega, by omega⟩)) (KR_irr hF.2.2.1 rfl) (KC_33_0 hF.2.2.2 (by omega)) fp_X5_9 tb33 rfl dX5_begin_0.1.1.2.1 rfl (fun h hF w2 => ?_)
  have a2_34 := fun j : Nat => (congrFun (congrFun w2 34) j).trans (zwr_ne (Or.inl (by decide)))
  have a2_35 := fun j : Nat => (congrFun (congrFun w2 35) j).trans (zwr_ne (Or.inl (by decide)))
  have t2_33_0 := congrFun (congrFun w2 33) 0
  rw [zwr_eq] at t2_33_0
  have t2_33_1 := congrFun (congrFun w2 33) 1
  rw [zwr_ne (Or.inr (by decide))] at t2_33_1
  have t2_33_2 := congrFun (congrFun w2 33) 2
  rw [zwr_ne (Or.inr (by decide))] at t2_33_2
  refine zW_aload_n (pc' := 6) dX5_begin_0.1.1.2.2 rfl rfl ?_
  refine zW_iload_n (pc' := 7) dX5_begin_0.1.2.1.1 rfl rfl ?_
  refine zPm (pc' := 10) hF (Or.inl rfl) (SI_irr hF.2.1 (Or.inl rfl) (fun _ _ => ⟨by omega, by omega⟩)) (KR_irr hF.2.2.1 rfl) (KC_33_1 hF.2.2.2 (by omega)) fp_X5_15 tb33 rfl dX5_begin_0.1.2.1.2 rfl (fun h hF w7 => ?_)
  have a7_34 := fun j : Nat => (congrFun (congrFun w7 34) j).trans (zwr_ne (Or.inl (by decide)))
  have a7_35 := fun j : Nat => (congrFun (congrFun w7 35) j).trans (zwr_ne (Or.inl (by decide)))
  have t7_33_0 := congrFun (congrFun w7 33) 0
  rw [zwr_ne (Or.inr (by decide))] at t7_33_0
  have t7_33_1 := congrFun (congrFun w7 33) 1
  rw [zwr_eq] at t7_33_1
  have t7_33_2 := congrFun (congrFun w7 33) 2
  rw [zwr_ne (Or.inr (by decide))] at t7_33_2
  refine zW_aload_n (pc' := 11) dX5_begin_0.1.2.2.1 rfl rfl ?_
  refine zW_iload_n (pc' := 12) dX5_begin_0.1.2.2.2 rfl rfl ?_
  refine zPm (pc' := 15) hF (Or.inl rfl) (SI_irr hF.2.1 (Or.inl rfl) (fun _ _ => ⟨by omega, by omega⟩)) (KR_irr hF.2.2.1 rfl) (KC_33_2 hF.2.2.2 (by omega)) fp_X5_25 tb33 rfl dX5_begin_0.2.1.1.1 rfl (fun h hF w12 => ?_)
  have a12_34 := fun j : Nat => (congrFun (congrFun w12 34) j).trans (zwr_ne (Or.inl (by decide)))
  have a12_35 := fun j : Nat => (congrFun (congrFun w12 35) j).trans (zwr_ne (Or.inl (by decide)))
  have t12_33_0 := congrFun (congrFun w12 33) 0
  rw [zwr_ne (Or.inr (by decide))] at t12_33_0
  have t12_33_1 := congrFun (congrFun w12 33) 1
  rw [zwr_ne (Or.inr (by decide))] at t12_33_1
  have t12_33_2 := congrFun (congrFun w12 33) 2
  rw [zwr_eq] at t12_33_2
  refine zW_aload_n (pc' := 16) dX5_begin_0.2.1.1.2 rfl rfl ?_
  refine zG_ref (pc' := 19) 34 fg_X5_18 tb33 rfl dX5_begin_0.2.1.2.1 rfl ?_
  refine zW_iconst (pc' := 20) dX5_begin_0.2.1.2.2 rfl ?_
  refine csV2 (pc' := 23) kJ7_fill_53178 vJ7_fill_53178 lk_X5_28 ⟨Nat.le_of_ble_eq_true rfl, Nat.le_of_ble_eq_true rfl⟩ rfl (s_J7_fill_53178V34E hF.2.1 hF.2.2.1 hF.2.2.2 _ ⟨by omega, by omega⟩) dX5_begin_0.2.2.1.1 (Nat.le_of_ble_eq_true rfl) rfl ?_
  rintro r20 h ⟨hF1, p20⟩; replace hF := hF.tr hF1 rfl
  have a20_0 := p20
  have f20_35 := fun j : Nat => hF1.1 35 j rfl rfl
  have t20_33_0 := hF1.1 33 0 rfl rfl
  have t20_33_1 := hF1.1 33 1 rfl rfl
  have t20_33_2 := hF1.1 33 2 rfl rfl
  refine zW_aload_n (pc' := 24) dX5_begin_0.2.2.1.2 rfl rfl ?_
  refine cvV0 (pc' := 27) kX5_wake vX5_wake lk_X5_34 ⟨Nat.le_of_ble_eq_true rfl, Nat.le_of_ble_eq_true rfl⟩ tb33 vq5 rfl rfl (s_X5_wakeE hF.2.1 hF.2.2.1 hF.2.2.2) dX5_begin_0.2.2.2.1 (Nat.le_of_ble_eq_true rfl) rfl ?_
  rintro r24 h ⟨hF1, p24⟩; replace hF := hF.tr hF1 rfl
  have a24_0 := p24
  have f24_34 := fun j : Nat => hF1.1 34 j rfl rfl
  have t24_33_0 := hF1.1 33 0 rfl rfl
  have t24_33_1 := hF1.1 33 1 rfl rfl
  have t24_33_2 := hF1.1 33 2 rfl rfl
  exact zV_vret rfl dX5_begin_0.2.2.2.2 ⟨hF, ⟨by omega, (fun j => by have q0 := a0_34 j; have q1 := a0_35 j; have q2 := a2_34 j; have q3 := a2_35 j; have q4 := a7_34 j; have q5 := a7_35 j; have q6 := a12_34 j; have q7 := a12_35 j; have q8 := a20_0 j; have q9 := f20_35 j; have q10 := a24_0 j; have q11 := f24_34 j; omega)⟩⟩

abbrev q_X11_rawE (κ : Hp) (x1 : Int) (x2 : Int) (x3 : Int) : Int → Hp → Prop := fun r h' => Fm [(33, 0), (33, 1), (33, 2), (34, 999), (35, 999), (39, 1), (54, 7)] κ h' ∧ (((0 ≤ r) ∧ (r ≤ 1) ∧ ((r = 1 ∧ (4 ≤ x1 ∧ x1 ≤ 16 ∧ x1 % 2 = 0) ∧ (4 ≤ x2 ∧ x2 ≤ 16 ∧ x2 % 2 = 0) ∧ (0 ≤ x3 ∧ x3 ≤ 3) ∧ h' 33 0 = x1 ∧ h' 33 1 = x2 ∧ h' 33 2 = x3) ∨ (r = 0 ∧ ¬ ((4 ≤ x1 ∧ x1 ≤ 16 ∧ x1 % 2 = 0) ∧ (4 ≤ x2 ∧ x2 ≤ 16 ∧ x2 % 2 = 0) ∧ (0 ≤ x3 ∧ x3 ≤ 3)) ∧ h' 33 0 = κ 33 0 ∧ h' 33 1 = κ 33 1 ∧ h' 33 2 = κ 33 2)) ∧ (∀ j : Nat, (r = 1 → j < 256 → h' 34 j = 0 ∧ h' 35 j = 0) ∧ (r = 0 → h' 34 j = κ 34 j ∧ h' 35 j = κ 35 j))) ∧ ChC κ h')
set_option maxHeartbeats 4000000 in
set_option maxRecDepth 20000 in
theorem s_X11_rawE {G : Ga} {κ : Hp} (hS : SI κ) (hR : KR κ) (hC : KC κ) (x1 : Int) (hx1 : rng x1) (x2 : Int) (hx2 : rng x2) (x3 : Int) (hx3 : rng x3) : zM G mX11_raw yX11_raw [.inr (.inr 30), .inl x1, .inl x2, .inl x3] κ (q_X11_rawE κ x1 x2 x3) := by
  have f_33_0 := KCw hC
  have f_33_1 := KCh hC
  have f_33_2 := KCp hC
  unfold rng at hx1
  unfold rng at hx2
  unfold rng at hx3
  refine zM_of [some (.inr (.inr 30)), some (.inl x1), some (.inl x2), some (.inl x3)] 0 rfl rfl (Nat.le_of_ble_eq_true rfl) rfl ?_
  refine (show ∀ h : Hp, Fm [(33, 0), (33, 1), (33, 2), (34, 999), (35, 999), (39, 1), (54, 7)] κ h → h = κ → zV G mX11_raw (q_X11_rawE κ x1 x2 x3) 0 [some (.inr (.inr 30)), some (.inl x1), some (.inl x2), some (.inl x3)] [] h from fun h hF hk0 => ?_) κ (Fm.rf hS hR hC) rfl
  have y0_33_0 : h 33 0 = κ 33 0 := by rw [hk0]
  have y0_33_1 : h 33 1 = κ 33 1 := by rw [hk0]
  have y0_33_2 : h 33 2 = κ 33 2 := by rw [hk0]
  have a0_34 := fun j : Nat => congrFun (congrFun hk0 34) j
  have a0_35 := fun j : Nat => congrFun (congrFun hk0 35) j
  refine zW_iload_n (pc' := 1) dX11_raw_0.1.1.1.1 rfl rfl ?_
  refine csI1 (pc' := 4) kX11_isSide vX11_isSide lk_X11_112 ⟨Nat.le_of_ble_eq_true rfl, Nat.le_of_ble_eq_true rfl⟩ rfl (s_X11_isSide (b := bdB true) (κ := h) (Fr.rf hF.2.1) _ ⟨by omega, by omega⟩) dX11_raw_0.1.1.1.2 (Nat.le_of_ble_eq_true rfl) rfl ?_
  rintro r1 z1 ⟨hz1, p1⟩; subst z1
  refine zV_if_eq (tgt := 22) (pc' := 7) dX11_raw_0.1.1.2.1 rfl rfl ⟨by omega, by omega⟩ (fun c4 => ?_) (fun c4 => ?_)
  · refine zW_iconst (pc' := 23) dX11_raw_0.2.1.2.1 rfl ?_
    exact zV_zret rfl (by omega) dX11_raw_0.2.1.2.2 ⟨hF, ⟨⟨by omega, by omega, by omega, (fun j => by have q0 := a0_34 j; have q1 := a0_35 j; omega)⟩, (by first | exact Or.inl (by omega) | exact Or.inr hU | exact Or.inr (by rw [hk0]; exact UnC.rf))⟩⟩
  · refine zW_iload_n (pc' := 8) dX11_raw_0.1.1.2.2 rfl rfl ?_
    refine csI1 (pc' := 11) kX11_isSide vX11_isSide lk_X11_112 ⟨Nat.le_of_ble_eq_true rfl, Nat.le_of_ble_eq_true rfl⟩ rfl (s_X11_isSide (b := bdB true) (κ := h) (Fr.rf hF.2.1) _ ⟨by omega, by omega⟩) dX11_raw_0.1.2.1.1 (Nat.le_of_ble_eq_true rfl) rfl ?_
    rintro r8 z8 ⟨hz8, p8⟩; subst z8
    refine zV_if_eq (tgt := 22) (pc' := 14) dX11_raw_0.1.2.1.2 rfl rfl ⟨by omega, by omega⟩ (fun c11 => ?_) (fun c11 => ?_)
    · refine zW_iconst (pc' := 23) dX11_raw_0.2.1.2.1 rfl ?_
      exact zV_zret rfl (by omega) dX11_raw_0.2.1.2.2 ⟨hF, ⟨⟨by omega, by omega, by omega, (fun j => by have q0 := a0_34 j; have q1 := a0_35 j; omega)⟩, (by first | exact Or.inl (by omega) | exact Or.inr hU | exact Or.inr (by rw [hk0]; exact UnC.rf))⟩⟩
    · refine zW_iload_n (pc' := 15) dX11_raw_0.1.2.2.1 rfl rfl ?_
      refine zW_iconst (pc' := 16) dX11_raw_0.1.2.2.2 rfl ?_
      refine csI2 (pc' := 19) kX11_isWithin vX11_isWithin lk_X11_116 ⟨Nat.le_of_ble_eq_true rfl, Nat.le_of_ble_eq_true rfl⟩ rfl (s_X11_isWithinR (b := bdB true) (κ := h) (Fr.rf hF.2.1) _ ⟨by omega, by omega⟩ _ ⟨by omega, by omega⟩) dX11_raw_0.2.1.1.1 (Nat.le_of_ble_eq_true rfl) rfl ?_
      rintro r16 z16 ⟨hz16, p16⟩; subst z16
      refine zV_if_ne (tgt := 24) (pc' := 22) dX11_raw_0.2.1.1.2 rfl rfl ⟨by omega, by omega⟩ (fun c19 => ?_) (fun c19 => ?_)
      · refine zW_aload_n (pc' := 25) dX11_raw_0.2.2.1.1 rfl rfl ?_
        refine zG_ref (pc' := 28) 33 fg_X11_19 tb30 rfl dX11_raw_0.2.2.1.2 rfl ?_
        refine zW_iload_n (pc' := 29) dX11_raw_0.2.2.2.1 rfl rfl ?_
        refine zW_iload_n (pc' := 30) dX11_raw_0.2.2.2.2 rfl rfl ?_
        refine zW_iload_n (pc' := 31) dX11_raw_1.1.1.1 rfl rfl ?_
        refine cvV3 (pc' := 34) kX5_begin vX5_begin lk_X11_120 ⟨Nat.le_of_ble_eq_true rfl, Nat.le_of_ble_eq_true rfl⟩ tb33 vq5 rfl rfl (s_X5_beginE hF.2.1 hF.2.2.1 hF.2.2.2 _ ⟨by omega, by omega⟩ _ ⟨by omega, by omega⟩ _ ⟨by omega, by omega⟩) dX11_raw_1.1.1.2 (Nat.le_of_ble_eq_true rfl) rfl ?_
        rintro r31 h ⟨hF1, p31⟩; replace hF := hF.tr hF1 rfl
        obtain ⟨p31_0, a31_0⟩ := p31
        have t31_54_7 := hF1.1 54 7 rfl rfl
        refine zW_aload_n (pc' := 35) dX11_raw_1.1.2 rfl rfl ?_
        refine cvV0 (pc' := 38) kX11_rawChanged vX11_rawChanged lk_X11_124 ⟨Nat.le_of_ble_eq_true rfl, Nat.le_of_ble_eq_true rfl⟩ tb30 vq11 rfl rfl (s_X11_rawChanged hF.2.1 hF.2.2.1 hF.2.2.2) dX11_raw_1.2.1.1 (Nat.le_of_ble_eq_true rfl) rfl ?_
        rintro r35 h ⟨hF1, p35⟩; replace hF := hF.tr hF1 rfl
        have f35_34 := fun j : Nat => hF1.1 34 j rfl rfl
        have f35_35 := fun j : Nat => hF1.1 35 j rfl rfl
        have t35_33_0 := hF1.1 33 0 rfl rfl
        have t35_33_1 := hF1.1 33 1 rfl rfl
        have t35_33_2 := hF1.1 33 2 rfl rfl
        refine zW_iconst (pc' := 39) dX11_raw_1.2.1.2 rfl ?_
        exact zV_zret rfl (by omega) dX11_raw_1.2.2 ⟨hF, ⟨⟨by omega, by omega, by omega, (fun j => by have q0 := a0_34 j; have q1 := a0_35 j; have q2 := a31_0 j; have q3 := f35_34 j; have q4 := f35_35 j; omega)⟩, (by first | exact Or.inl (by omega) | exact Or.inr hU | exact Or.inr (by rw [hk0]; exact UnC.rf))⟩⟩
      · refine zW_iconst (pc' := 23) dX11_raw_0.2.1.2.1 rfl ?_
        exact zV_zret rfl (by omega) dX11_raw_0.2.1.2.2 ⟨hF, ⟨⟨by omega, by omega, by omega, (fun j => by have q0 := a0_34 j; have q1 := a0_35 j; omega)⟩, (by first | exact Or.inl (by omega) | exact Or.inr hU | exact Or.inr (by rw [hk0]; exact UnC.rf))⟩⟩

abbrev q_X11_pixelE (κ : Hp) (x1 : Int) (x2 : Int) (x3 : Int) : Int → Hp → Prop := fun r h' => Fm [(34, 999), (39, 1), (54, 7)] κ h' ∧ (((0 ≤ r) ∧ (r ≤ 1) ∧ (r = 1 ↔ (0 ≤ x1 ∧ x1 < κ 33 0 ∧ 0 ≤ x2 ∧ x2 < κ 33 1 ∧ 0 ≤ x3 ∧ x3 ≤ 255)) ∧ (∀ j : Nat, (r = 1 → (j : Int) = 16 * x2 + x1 → h' 34 j = x3) ∧ (¬ (r = 1 ∧ (j : Int) = 16 * x2 + x1) → h' 34 j = κ 34 j))) ∧ ChC κ h')
set_option maxHeartbeats 4000000 in
set_option maxRecDepth 20000 in
theorem s_X11_pixelE {G : Ga} {κ : Hp} (hS : SI κ) (hR : KR κ) (hC : KC κ) (x1 : Int) (hx1 : rng x1) (x2 : Int) (hx2 : rng x2) (x3 : Int) (hx3 : rng x3) : zM G mX11_pixel yX11_pixel [.inr (.inr 30), .inl x1, .inl x2, .inl x3] κ (q_X11_pixelE κ x1 x2 x3) := by
  have f_33_0 := KCw hC
  have f_33_1 := KCh hC
  unfold rng at hx1
  unfold rng at hx2
  unfold rng at hx3
  refine zM_of [some (.inr (.inr 30)), some (.inl x1), some (.inl x2), some (.inl x3)] 0 rfl rfl (Nat.le_of_ble_eq_true rfl) rfl ?_
  refine (show ∀ h : Hp, Fm [(34, 999), (39, 1), (54, 7)] κ h → h = κ → zV G mX11_pixel (q_X11_pixelE κ x1 x2 x3) 0 [some (.inr (.inr 30)), some (.inl x1), some (.inl x2), some (.inl x3)] [] h from fun h hF hk0 => ?_) κ (Fm.rf hS hR hC) rfl
  have a0_34 := fun j : Nat => congrFun (congrFun hk0 34) j
  refine zW_aload_n (pc' := 1) dX11_pixel_0.1.1.1.1 rfl rfl ?_
  refine zG_ref (pc' := 4) 33 fg_X11_19 tb30 rfl dX11_pixel_0.1.1.1.2 rfl ?_
  refine zW_iload_n (pc' := 5) dX11_pixel_0.1.1.2.1 rfl rfl ?_
  refine zW_iload_n (pc' := 6) dX11_pixel_0.1.1.2.2 rfl rfl ?_
  have y6_33_0 := hF.1 33 0 rfl rfl
  have y6_33_1 := hF.1 33 1 rfl rfl
  refine cvI2 (pc' := 9) kX5_has vX5_has lk_X11_140 ⟨Nat.le_of_ble_eq_true rfl, Nat.le_of_ble_eq_true rfl⟩ tb33 vq5 rfl rfl (s_X5_has (b := bdB true) (κ := h) hF.2.2.2 (Fr.rf hF.2.1) _ ⟨by omega, by omega⟩ _ ⟨by omega, by omega⟩) dX11_pixel_0.1.2.1.1 (Nat.le_of_ble_eq_true rfl) rfl ?_
  rintro r6 z6 ⟨hz6, p6⟩; subst z6
  refine zV_if_eq (tgt := 22) (pc' := 12) dX11_pixel_0.1.2.1.2 rfl rfl ⟨by omega, by omega⟩ (fun c9 => ?_) (fun c9 => ?_)
  · refine zW_iconst (pc' := 23) dX11_pixel_0.2.1.2.1 rfl ?_
    exact zV_zret rfl (by omega) dX11_pixel_0.2.1.2.2 ⟨hF, ⟨⟨by omega, by omega, by omega, (fun j => by have q0 := a0_34 j; omega)⟩, (by first | exact Or.inl (by omega) | exact Or.inr hU | exact Or.inr (by rw [hk0]; exact UnC.rf))⟩⟩
  · refine zW_iload_n (pc' := 13) dX11_pixel_0.1.2.2.1 rfl rfl ?_
    refine zW_sipush (pc' := 16) dX11_pixel_0.1.2.2.2 rfl rfl ?_
    refine csI2 (pc' := 19) kX11_isWithin vX11_isWithin lk_X11_116 ⟨Nat.le_of_ble_eq_true rfl, Nat.le_of_ble_eq_true rfl⟩ rfl (s_X11_isWithinR (b := bdB true) (κ := h) (Fr.rf hF.2.1) _ ⟨by omega, by omega⟩ _ ⟨by omega, by omega⟩) dX11_pixel_0.2.1.1.1 (Nat.le_of_ble_eq_true rfl) rfl ?_
    rintro r16 z16 ⟨hz16, p16⟩; subst z16
    refine zV_if_ne (tgt := 24) (pc' := 22) dX11_pixel_0.2.1.1.2 rfl rfl ⟨by omega, by omega⟩ (fun c19 => ?_) (fun c19 => ?_)
    · refine zW_aload_n (pc' := 25) dX11_pixel_0.2.2.1.1 rfl rfl ?_
      refine zG_ref (pc' := 28) 33 fg_X11_19 tb30 rfl dX11_pixel_0.2.2.1.2 rfl ?_
      refine zG_ref (pc' := 31) 34 fg_X11_133 tb33 rfl dX11_pixel_0.2.2.2.1 rfl ?_
      refine zW_iload_n (pc' := 32) dX11_pixel_0.2.2.2.2 rfl rfl ?_
      refine zW_bipush (pc' := 34) dX11_pixel_1.1.1.1.1 rfl rfl ?_
      refine zW_imul (pc' := 35) dX11_pixel_1.1.1.1.2 rfl ?_
      refine zW_iload_n (pc' := 36) dX11_pixel_1.1.1.2 rfl rfl ?_
      refine zW_iadd (pc' := 37) dX11_pixel_1.1.2.1 rfl ?_
      refine zW_iload_n (pc' := 38) dX11_pixel_1.1.2.2 rfl rfl ?_
      refine zSm (pc' := 39) hF rfl (fun v' hv he => ⟨(SI_irr hF.2.1 (Or.inl (key_of rfl _)) (fun _ _ => hv)), (KR_irr hF.2.2.1 rfl), (KC_irr hF.2.2.2 rfl)⟩) tb34 (by omega) dX11_pixel_1.2.1.1.1 (by decide) rfl (fun h i38 hF a38 b38 w38 => ?_)
      have a38_34 := fun j : Nat => zwr_pt (congrFun (congrFun w38 34) j)
      replace b38 := b38 ⟨by omega, by omega⟩
      have t38_54_7 := congrFun (congrFun w38 54) 7
      rw [zwr_ne (Or.inl (by decide))] at t38_54_7
      refine zW_aload_n (pc' := 40) dX11_pixel_1.2.1.1.2 rfl rfl ?_
      refine cvV0 (pc' := 43) kX11_rawChanged vX11_rawChanged lk_X11_124 ⟨Nat.le_of_ble_eq_true rfl, Nat.le_of_ble_eq_true rfl⟩ tb30 vq11 rfl rfl (s_X11_rawChanged hF.2.1 hF.2.2.1 hF.2.2.2) dX11_pixel_1.2.1.2 (Nat.le_of_ble_eq_true rfl) rfl ?_
      rintro r40 h ⟨hF1, p40⟩; replace hF := hF.tr hF1 rfl
      have f40_34 := fun j : Nat => hF1.1 34 j rfl rfl
      refine zW_iconst (pc' := 44) dX11_pixel_1.2.2.1 rfl ?_
      exact zV_zret rfl (by omega) dX11_pixel_1.2.2.2 ⟨hF, ⟨⟨by omega, by omega, by omega, (fun j => by have q0 := a0_34 j; have q1 := a38_34 j; have q2 := f40_34 j; omega)⟩, (by first | exact Or.inl (by omega) | exact Or.inr hU | exact Or.inr (by rw [hk0]; exact UnC.rf))⟩⟩
    · refine zW_iconst (pc' := 23) dX11_pixel_0.2.1.2.1 rfl ?_
      exact zV_zret rfl (by omega) dX11_pixel_0.2.1.2.2 ⟨hF, ⟨⟨by omega, by omega, by omega, (fun j => by have q0 := a0_34 j; omega)⟩, (by first | exact Or.inl (by omega) | exact Or.inr hU | exact Or.inr (by rw [hk0]; exact UnC.rf))⟩⟩

abbrev q_X9_byteAtE (κ h : Hp) (x1 : Int) : Int → Hp → Prop := fun r h' => h' = h ∧ ((-2147483648 ≤ r) ∧ (r ≤ 2147483647) ∧ ((0 ≤ x1 ∧ x1 < κ 31 1 ∧ r = κ 32 x1.toNat) ∨ (¬ (0 ≤ x1 ∧ x1 < κ 31 1) ∧ r = -1)))
set_option maxHeartbeats 4000000 in
set_option maxRecDepth 20000 in
theorem s_X9_byteAtE {G : Ga} {b : Bd} {κ h : Hp} (hK : KC κ) (hF : Fr b κ h) (x1 : Int) (hx1 : rng x1) : zM G mX9_byteAt yX9_byteAt [.inr (.inr 31), .inl x1] h (q_X9_byteAtE κ h x1) := by
  have f_31_1 := KCt hK
  unfold rng at hx1
  refine zM_of [some (.inr (.inr 31)), some (.inl x1)] 0 rfl rfl (Nat.le_of_ble_eq_true rfl) rfl ?_
  refine zW_iload_n (pc' := 1) dX9_byteAt_0.1.1.1.1 rfl rfl ?_
  refine zV_if_lt (tgt := 21) (pc' := 4) dX9_byteAt_0.1.1.1.2 rfl rfl ⟨by omega, by omega⟩ (fun c1 => ?_) (fun c1 => ?_)
  · refine zW_iconst (pc' := 22) dX9_byteAt_0.2.2.1.2 rfl ?_
    exact zV_iret rfl dX9_byteAt_0.2.2.2 ⟨rfl, by omega⟩
  · refine zW_iload_n (pc' := 5) dX9_byteAt_0.1.1.2.1 rfl rfl ?_
    refine zW_aload_n (pc' := 6) dX9_byteAt_0.1.1.2.2 rfl rfl ?_
    refine zG_key (pc' := 9) hF rfl fg_X9_15 tb31 rfl dX9_byteAt_0.1.2.1.1 rfl ?_
    refine zV_cm_ge (tgt := 21) (pc' := 12) dX9_byteAt_0.1.2.1.2 rfl rfl ⟨by omega, by omega⟩ ⟨by omega, by omega⟩ (fun c9 => ?_) (fun c9 => ?_)
    · refine zW_iconst (pc' := 22) dX9_byteAt_0.2.2.1.2 rfl ?_
      exact zV_iret rfl dX9_byteAt_0.2.2.2 ⟨rfl, by omega⟩
    · refine zW_aload_n (pc' := 13) dX9_byteAt_0.1.2.2 rfl rfl ?_
      refine zG_ref (pc' := 16) 32 fg_X9_9 tb31 rfl dX9_byteAt_0.2.1.1.1 rfl ?_
      refine zW_iload_n (pc' := 17) dX9_byteAt_0.2.1.1.2 rfl rfl ?_
      refine zA_keyI (pc' := 18) hF rfl (by decide) (by decide) tb32 (by omega) dX9_byteAt_0.2.1.2 (by decide) rfl (fun e17 => ?_)
      refine zV_goto 22 dX9_byteAt_0.2.2.1.1 rfl ?_
      exact zV_iret rfl dX9_byteAt_0.2.2.2 ⟨rfl, by omega⟩

abbrev q_X11_rowE (κ : Hp) (x1 : Int) : Int → Hp → Prop := fun r h' => Fm [(34, 999), (31, 1), (39, 1), (54, 7)] κ h' ∧ (((0 ≤ r) ∧ (r ≤ 1) ∧ ((r = 1 ∧ (0 ≤ x1 ∧ x1 < κ 33 1 ∧ κ 33 0 ≤ κ 31 1) ∧ h' 31 1 = 0) ∨ (r = 0 ∧ ¬ (0 ≤ x1 ∧ x1 < κ 33 1 ∧ κ 33 0 ≤ κ 31 1) ∧ h' 31 1 = κ 31 1)) ∧ (∀ j : Nat, (r = 1 → (16 * x1 ≤ (j : Int) → (j : Int) < 16 * x1 + κ 33 0 → h' 34 j = κ 32 (j % 16)) ∧ (¬ (16 * x1 ≤ (j : Int) ∧ (j : Int) < 16 * x1 + κ 33 0) → h' 34 j = κ 34 j)) ∧ (r = 0 → h' 34 j = κ 34 j))) ∧ ChC κ h')
set_option maxHeartbeats 4000000 in
set_option maxRecDepth 20000 in
theorem s_X11_rowE {G : Ga} {κ : Hp} (hS : SI κ) (hR : KR κ) (hC : KC κ) (x1 : Int) (hx1 : rng x1) : zM G mX11_row yX11_row [.inr (.inr 30), .inl x1] κ (q_X11_rowE κ x1) := by
  have f_31_1 := KCt hC
  have f_33_0 := KCw hC
  have f_33_1 := KCh hC
  have f_36_0 := KCk0 hC
  have f_36_1 := KCk1 hC
  unfold rng at hx1
  have main : ∀ N : Nat, (∀ (v2 : Int) (h : Hp), Fm [(34, 999), (31, 1), (39, 1), (54, 7)] κ h → (0 ≤ x1 ∧ x1 ≤ 15) → (x1 - κ 33 1 ≤ -1) → (0 ≤ v2 ∧ v2 ≤ 16) → (v2 - κ 33 0 ≤ 0) → (κ 33 0 ≤ κ 31 1) → (h 31 1 = κ 31 1) → (∀ j : Nat, (16 * x1 ≤ (j : Int) → (j : Int) < 16 * x1 + v2 → h 34 j = κ 32 (j % 16)) ∧ (¬ (16 * x1 ≤ (j : Int) ∧ (j : Int) < 16 * x1 + v2) → h 34 j = κ 34 j)) → 16740 + 31 * (16 - v2) + 30 < (N : Int) → zV G mX11_row (q_X11_rowE κ x1) 36 [some (.inr (.inr 30)), some (.inl x1), some (.inl v2)] [] h) := by
    intro N
    induction N with
    | zero =>
      intro v2 h hF g0 g1 g2 g3 gc0 gc1 gc2 hm
      exfalso; omega
    | succ N ih =>
      have k36 := ih
      intro v2 h hF g0 g1 g2 g3 gc0 gc1 gc2 hm
      refine zW_iload_n (pc' := 37) dX11_row_1.1.1.2.1 rfl rfl ?_
      refine zW_aload_n (pc' := 38) dX11_row_1.1.1.2.2 rfl rfl ?_
      refine zG_ref (pc' := 41) 33 fg_X11_19 tb30 rfl dX11_row_1.1.2.1.1 rfl ?_
      refine zGm (pc' := 44) hF rfl rfl fg_X11_130 tb33 rfl dX11_row_1.1.2.1.2 rfl ?_
      refine zV_cm_ge (tgt := 75) (pc' := 47) dX11_row_1.1.2.2.1 rfl rfl ⟨by omega, by omega⟩ ⟨by omega, by omega⟩ (fun c44 => ?_) (fun c44 => ?_)
      · refine zW_aload_n (pc' := 76) dX11_row_2.1.2.2 rfl rfl ?_
        refine zG_ref (pc' := 79) 31 fg_X11_10 tb30 rfl dX11_row_2.2.1.1.1 rfl ?_
        refine cvV0 (pc' := 82) kX9_empty vX9_empty lk_X11_99 ⟨Nat.le_of_ble_eq_true rfl, Nat.le_of_ble_eq_true rfl⟩ tb31 vq9 rfl rfl (s_X9_empty hF.2.1 hF.2.2.1 hF.2.2.2) dX11_row_2.2.1.1.2 (Nat.le_of_ble_eq_true rfl) rfl ?_
        rintro r79 h ⟨hF1, p79⟩; replace hF := hF.tr hF1 rfl
        have f79_34 := fun j : Nat => hF1.1 34 j rfl rfl
        have t79_54_7 := hF1.1 54 7 rfl rfl
        refine zW_aload_n (pc' := 83) dX11_row_2.2.1.2 rfl rfl ?_
        refine cvV0 (pc' := 86) kX11_rawChanged vX11_rawChanged lk_X11_124 ⟨Nat.le_of_ble_eq_true rfl, Nat.le_of_ble_eq_true rfl⟩ tb30 vq11 rfl rfl (s_X11_rawChanged hF.2.1 hF.2.2.1 hF.2.2.2) dX11_row_2.2.2.1.1 (Nat.le_of_ble_eq_true rfl) rfl ?_
        rintro r83 h ⟨hF1, p83⟩; replace hF := hF.tr hF1 rfl
        have f83_34 := fun j : Nat => hF1.1 34 j rfl rfl
        have t83_31_1 := hF1.1 31 1 rfl rfl
        refine zW_iconst (pc' := 87) dX11_row_2.2.2.1.2 rfl ?_
        exact zV_zret rfl (by omega) dX11_row_2.2.2.2 ⟨hF, ⟨⟨by omega, by omega, by omega, (fun j => by have q0 := gc2 j; have q1 := f79_34 j; have q2 := f83_34 j; omega)⟩, (by first | exact Or.inl (by omega) | exact Or.inr hU | exact Or.inr (by rw [hk0]; exact UnC.rf))⟩⟩
      · refine zW_aload_n (pc' := 48) dX11_row_1.1.2.2.2 rfl rfl ?_
        refine zG_ref (pc' := 51) 33 fg_X11_19 tb30 rfl dX11_row_1.2.1.1.1 rfl ?_
        refine zG_ref (pc' := 54) 34 fg_X11_133 tb33 rfl dX11_row_1.2.1.1.2 rfl ?_
        refine zW_iload_n (pc' := 55) dX11_row_1.2.1.2.1 rfl rfl ?_
        refine zW_bipush (pc' := 57) dX11_row_1.2.1.2.2 rfl rfl ?_
        refine zW_imul (pc' := 58) dX11_row_1.2.2.1.1 rfl ?_
        refine zW_iload_n (pc' := 59) dX11_row_1.2.2.1.2 rfl rfl ?_
        refine zW_iadd (pc' := 60) dX11_row_1.2.2.2.1 rfl ?_
        refine zW_aload_n (pc' := 61) dX11_row_1.2.2.2.2 rfl rfl ?_
        refine zG_ref (pc' := 64) 31 fg_X11_10 tb30 rfl dX11_row_2.1.1.1.1 rfl ?_
        refine zW_iload_n (pc' := 65) dX11_row_2.1.1.1.2 rfl rfl ?_
        refine cvI1 (pc' := 68) kX9_byteAt vX9_byteAt lk_X11_137 ⟨Nat.le_of_ble_eq_true rfl, Nat.le_of_ble_eq_true rfl⟩ tb31 vq9 rfl rfl (s_X9_byteAtE (b := bdB true) (κ := h) hF.2.2.2 (Fr.rf hF.2.1) _ ⟨by omega, by omega⟩) dX11_row_2.1.1.2.1 (Nat.le_of_ble_eq_true rfl) rfl ?_
        rintro r65 z65 ⟨hz65, p65⟩; subst z65
        have y32 := hF.1 32 v2.toNat rfl rfl
        refine zSm (pc' := 69) hF rfl (fun v' hv he => ⟨(SI_irr hF.2.1 (Or.inl (key_of rfl _)) (fun _ _ => hv)), (KR_irr hF.2.2.1 rfl), (KC_irr hF.2.2.2 rfl)⟩) tb34 (by omega) dX11_row_2.1.1.2.2 (by decide) rfl (fun h i68 hF a68 b68 w68 => ?_)
        have a68_34 := fun j : Nat => zwr_pt (congrFun (congrFun w68 34) j)
        replace b68 := b68 ⟨by omega, by omega⟩
        have t68_31_1 := congrFun (congrFun w68 31) 1
        rw [zwr_ne (Or.inl (by decide))] at t68_31_1
        have t68_54_7 := congrFun (congrFun w68 54) 7
        rw [zwr_ne (Or.inl (by decide))] at t68_54_7
        refine zW_iinc (ls' := [_, _, _]) (pc' := 72) dX11_row_2.1.2.1.1 rfl (by decide) rfl rfl rfl ?_
        refine zV_goto 36 dX11_row_2.1.2.1.2 rfl ?_
        exact k36 _ _ hF (by omega) (by omega) (by omega) (by omega) (by omega) (by omega) (fun j => by have q0 := gc2 j; have q1 := a68_34 j; by_cases ej : j % 16 = v2.toNat; (rw [ej]; omega); omega) (by omega)
  refine zM_of [some (.inr (.inr 30)), some (.inl x1), none] 1 rfl rfl (Nat.le_of_ble_eq_true rfl) rfl ?_
  refine (show ∀ h : Hp, Fm [(34, 999), (31, 1), (39, 1), (54, 7)] κ h → h = κ → zV G mX11_row (q_X11_rowE κ x1) 0 [some (.inr (.inr 30)), some (.inl x1), none] [] h from fun h hF hk0 => ?_) κ (Fm.rf hS hR hC) rfl
  have y0_31_1 : h 31 1 = κ 31 1 := by rw [hk0]
  have a0_34 := fun j : Nat => congrFun (congrFun hk0 34) j
  refine zW_iload_n (pc' := 1) dX11_row_0.1.1.1.1 rfl rfl ?_
  refine zV_if_lt (tgt := 32) (pc' := 4) dX11_row_0.1.1.1.2 rfl rfl ⟨by omega, by omega⟩ (fun c1 => ?_) (fun c1 => ?_)
  · refine zW_iconst (pc' := 33) dX11_row_0.2.2.2.1 rfl ?_
    exact zV_zret rfl (by omega) dX11_row_0.2.2.2.2 ⟨hF, ⟨⟨by omega, by omega, by omega, (fun j => by have q0 := a0_34 j; omega)⟩, (by first | exact Or.inl (by omega) | exact Or.inr hU | exact Or.inr (by rw [hk0]; exact UnC.rf))⟩⟩
  · refine zW_iload_n (pc' := 5) dX11_row_0.1.1.2.1 rfl rfl ?_
    refine zW_aload_n (pc' := 6) dX11_row_0.1.1.2.2 rfl rfl ?_
    refine zG_ref (pc' := 9) 33 fg_X11_19 tb30 rfl dX11_row_0.1.2.1.1 rfl ?_
    refine zGm (pc' := 12) hF rfl rfl fg_X11_127 tb33 rfl dX11_row_0.1.2.1.2 rfl ?_
    refine zV_cm_ge (tgt := 32) (pc' := 15) dX11_row_0.1.2.2.1 rfl rfl ⟨by omega, by omega⟩ ⟨by omega, by omega⟩ (fun c12 => ?_) (fun c12 => ?_)
    · refine zW_iconst (pc' := 33) dX11_row_0.2.2.2.1 rfl ?_
      exact zV_zret rfl (by omega) dX11_row_0.2.2.2.2 ⟨hF, ⟨⟨by omega, by omega, by omega, (fun j => by have q0 := a0_34 j; omega)⟩, (by first | exact Or.inl (by omega) | exact Or.inr hU | exact Or.inr (by rw [hk0]; exact UnC.rf))⟩⟩
    · refine zW_aload_n (pc' := 16) dX11_row_0.1.2.2.2 rfl rfl ?_
      refine zG_ref (pc' := 19) 31 fg_X11_10 tb30 rfl dX11_row_0.2.1.1.1 rfl ?_
      refine zG_int (pc' := 22) fg_X11_88 tb31 rfl dX11_row_0.2.1.1.2 rfl ?_
      have e19 := KCt hF.2.2.2
      refine zW_aload_n (pc' := 23) dX11_row_0.2.1.2.1 rfl rfl ?_
      refine zG_ref (pc' := 26) 33 fg_X11_19 tb30 rfl dX11_row_0.2.1.2.2 rfl ?_
      refine zGm (pc' := 29) hF rfl rfl fg_X11_130 tb33 rfl dX11_row_0.2.2.1.1 rfl ?_
      refine zV_cm_ge (tgt := 34) (pc' := 32) dX11_row_0.2.2.1.2 rfl rfl ⟨by omega, by omega⟩ ⟨by omega, by omega⟩ (fun c29 => ?_) (fun c29 => ?_)
      · refine zW_iconst (pc' := 35) dX11_row_1.1.1.1.1 rfl ?_
        refine zW_istore_n (ls' := [_, _, _]) (pc' := 36) dX11_row_1.1.1.1.2 (by decide) rfl rfl rfl ?_
        exact (main 10000000000000000000000000000000000000000) _ _ hF (by omega) (by omega) (by omega) (by omega) (by omega) (by omega) (fun j => by have q0 := a0_34 j; omega) (by omega)
      · refine zW_iconst (pc' := 33) dX11_row_0.2.2.2.1 rfl ?_
        exact zV_zret rfl (by omega) dX11_row_0.2.2.2.2 ⟨hF, ⟨⟨by omega, by omega, by omega, (fun j => by have q0 := a0_34 j; omega)⟩, (by first | exact Or.inl (by omega) | exact Or.inr hU | exact Or.inr (by rw [hk0]; exact UnC.rf))⟩⟩

abbrev q_X5_copyFromV36_33E (κ : Hp)  : Int → Hp → Prop := fun r h' => Fm [(36, 0), (36, 1), (36, 2), (37, 999), (38, 999)] κ h' ∧ ((h' 36 0 = κ 33 0 ∧ h' 36 1 = κ 33 1 ∧ h' 36 2 = κ 33 2) ∧ (∀ j : Nat, j < 256 → h' 37 j = κ 34 j ∧ h' 38 j = κ 35 j))
set_option maxHeartbeats 4000000 in
set_option maxRecDepth 20000 in
theorem s_X5_copyFromV36_33E {G : Ga} {κ : Hp} (hS : SI κ) (hR : KR κ) (hC : KC κ)  : zM G mX5_copyFrom yX5_copyFrom [.inr (.inr 36), .inr (.inr 33)] κ (q_X5_copyFromV36_33E κ) := by
  have f_33_0 := KCw hC
  have f_33_1 := KCh hC
  have f_33_2 := KCp hC
  have f_36_0 := KCk0 hC
  have f_36_1 := KCk1 hC
  have f_36_2 := KCk2 hC
  refine zM_of [some (.inr (.inr 36)), some (.inr (.inr 33))] 0 rfl rfl (Nat.le_of_ble_eq_true rfl) rfl ?_
  refine (show ∀ h : Hp, Fm [(36, 0), (36, 1), (36, 2), (37, 999), (38, 999)] κ h → h = κ → zV G mX5_copyFrom (q_X5_copyFromV36_33E κ) 0 [some (.inr (.inr 36)), some (.inr (.inr 33))] [] h from fun h hF hk0 => ?_) κ (Fm.rf hS hR hC) rfl
  have a0_34 := fun j : Nat => congrFun (congrFun hk0 34) j
  have a0_35 := fun j : Nat => congrFun (congrFun hk0 35) j
  have a0_37 := fun j : Nat => congrFun (congrFun hk0 37) j
  have a0_38 := fun j : Nat => congrFun (congrFun hk0 38) j
  refine zW_aload_n (pc' := 1) dX5_copyFrom_0.1.1.1.1 rfl rfl ?_
  refine zW_aload_n (pc' := 2) dX5_copyFrom_0.1.1.1.2 rfl rfl ?_
  refine zGm (pc' := 5) hF rfl rfl fg_X5_9 tb33 rfl dX5_copyFrom_0.1.1.2.1 rfl ?_
  refine zPm (pc' := 8) hF (Or.inl rfl) (SI_irr hF.2.1 (Or.inl rfl) (fun _ _ => ⟨by omega, by omega⟩)) (KR_irr hF.2.2.1 rfl) (KC_36_0 hF.2.2.2 (by omega)) fp_X5_9 tb36 rfl dX5_copyFrom_0.1.1.2.2 rfl (fun h hF w5 => ?_)
  have a5_34 := fun j : Nat => (congrFun (congrFun w5 34) j).trans (zwr_ne (Or.inl (by decide)))
  have a5_35 := fun j : Nat => (congrFun (congrFun w5 35) j).trans (zwr_ne (Or.inl (by decide)))
  have a5_37 := fun j : Nat => (congrFun (congrFun w5 37) j).trans (zwr_ne (Or.inl (by decide)))
  have a5_38 := fun j : Nat => (congrFun (congrFun w5 38) j).trans (zwr_ne (Or.inl (by decide)))
  have t5_36_0 := congrFun (congrFun w5 36) 0
  rw [zwr_eq] at t5_36_0
  have t5_36_1 := congrFun (congrFun w5 36) 1
  rw [zwr_ne (Or.inr (by decide))] at t5_36_1
  have t5_36_2 := congrFun (congrFun w5 36) 2
  rw [zwr_ne (Or.inr (by decide))] at t5_36_2
  refine zW_aload_n (pc' := 9) dX5_copyFrom_0.1.2.1.1 rfl rfl ?_
  refine zW_aload_n (pc' := 10) dX5_copyFrom_0.1.2.1.2 rfl rfl ?_
  refine zGm (pc' := 13) hF rfl rfl fg_X5_15 tb33 rfl dX5_copyFrom_0.1.2.2.1 rfl ?_
  refine zPm (pc' := 16) hF (Or.inl rfl) (SI_irr hF.2.1 (Or.inl rfl) (fun _ _ => ⟨by omega, by omega⟩)) (KR_irr hF.2.2.1 rfl) (KC_36_1 hF.2.2.2 (by omega)) fp_X5_15 tb36 rfl dX5_copyFrom_0.1.2.2.2 rfl (fun h hF w13 => ?_)
  have a13_34 := fun j : Nat => (congrFun (congrFun w13 34) j).trans (zwr_ne (Or.inl (by decide)))
  have a13_35 := fun j : Nat => (congrFun (congrFun w13 35) j).trans (zwr_ne (Or.inl (by decide)))
  have a13_37 := fun j : Nat => (congrFun (congrFun w13 37) j).trans (zwr_ne (Or.inl (by decide)))
  have a13_38 := fun j : Nat => (congrFun (congrFun w13 38) j).trans (zwr_ne (Or.inl (by decide)))
  have t13_36_0 := congrFun (congrFun w13 36) 0
  rw [zwr_ne (Or.inr (by decide))] at t13_36_0
  have t13_36_1 := congrFun (congrFun w13 36) 1
  rw [zwr_eq] at t13_36_1
  have t13_36_2 := congrFun (congrFun w13 36) 2
  rw [zwr_ne (Or.inr (by decide))] at t13_36_2
  refine zW_aload_n (pc' := 17) dX5_copyFrom_0.2.1.1.1 rfl rfl ?_
  refine zW_aload_n (pc' := 18) dX5_copyFrom_0.2.1.1.2 rfl rfl ?_
  refine zGm (pc' := 21) hF rfl rfl fg_X5_25 tb33 rfl dX5_copyFrom_0.2.1.2.1 rfl ?_
  refine zPm (pc' := 24) hF (Or.inl rfl) (SI_irr hF.2.1 (Or.inl rfl) (fun _ _ => ⟨by omega, by omega⟩)) (KR_irr hF.2.2.1 rfl) (KC_36_2 hF.2.2.2 (by omega)) fp_X5_25 tb36 rfl dX5_copyFrom_0.2.1.2.2 rfl (fun h hF w21 => ?_)
  have a21_34 := fun j : Nat => (congrFun (congrFun w21 34) j).trans (zwr_ne (Or.inl (by decide)))
  have a21_35 := fun j : Nat => (congrFun (congrFun w21 35) j).trans (zwr_ne (Or.inl (by decide)))
  have a21_37 := fun j : Nat => (congrFun (congrFun w21 37) j).trans (zwr_ne (Or.inl (by decide)))
  have a21_38 := fun j : Nat => (congrFun (congrFun w21 38) j).trans (zwr_ne (Or.inl (by decide)))
  have t21_36_0 := congrFun (congrFun w21 36) 0
  rw [zwr_ne (Or.inr (by decide))] at t21_36_0
  have t21_36_1 := congrFun (congrFun w21 36) 1
  rw [zwr_ne (Or.inr (by decide))] at t21_36_1
  have t21_36_2 := congrFun (congrFun w21 36) 2
  rw [zwr_eq] at t21_36_2
  refine zW_aload_n (pc' := 25) dX5_copyFrom_0.2.2.1.1 rfl rfl ?_
  refine zG_ref (pc' := 28) 34 fg_X5_18 tb33 rfl dX5_copyFrom_0.2.2.1.2 rfl ?_
  refine zW_iconst (pc' := 29) dX5_copyFrom_0.2.2.2.1 rfl ?_
  refine zW_aload_n (pc' := 30) dX5_copyFrom_0.2.2.2.2 rfl rfl ?_
  refine zG_ref (pc' := 33) 37 fg_X5_18 tb36 rfl dX5_copyFrom_1.1.1.1.1 rfl ?_
  refine zW_iconst (pc' := 34) dX5_copyFrom_1.1.1.1.2 rfl ?_
  refine zW_sipush (pc' := 37) dX5_copyFrom_1.1.1.2.1 rfl rfl ?_
  refine zV_acopy (pc' := 40) tb34 tb37 (by omega) (by omega) (by omega) (by omega) (by decide) (by decide) ka_X5_37 (Nat.le_of_ble_eq_true rfl) (Nat.le_of_ble_eq_true rfl) dX5_copyFrom_1.1.1.2.2 rfl ?_
  have hz37 := hF.zc (a := 34) (c := 37) (d := 0) (n := 256) rfl rfl (by decide) (by decide) (KC_zc hF.2.2.2 rfl)
  refine (show ∀ h1 : Hp, Fm [(36, 0), (36, 1), (36, 2), (37, 999), (38, 999)] κ h1 → h1 = zcp h 34 37 0 256 → zV _ _ _ _ _ _ h1 from fun h hF w37 => ?_) _ hz37 rfl
  have a37_34 := fun j : Nat => (congrFun (congrFun w37 34) j).trans (zcp_ne (by decide))
  have a37_35 := fun j : Nat => (congrFun (congrFun w37 35) j).trans (zcp_ne (by decide))
  have a37_37 := fun j : Nat => zcp_pt (congrFun (congrFun w37 37) j)
  have a37_38 := fun j : Nat => (congrFun (congrFun w37 38) j).trans (zcp_ne (by decide))
  have t37_36_0 := congrFun (congrFun w37 36) 0
  rw [zcp_ne (by decide)] at t37_36_0
  have t37_36_1 := congrFun (congrFun w37 36) 1
  rw [zcp_ne (by decide)] at t37_36_1
  have t37_36_2 := congrFun (congrFun w37 36) 2
  rw [zcp_ne (by decide)] at t37_36_2
  refine zW_aload_n (pc' := 41) dX5_copyFrom_1.1.2.1.1 rfl rfl ?_
  refine zG_ref (pc' := 44) 35 fg_X5_22 tb33 rfl dX5_copyFrom_1.1.2.1.2 rfl ?_
  refine zW_iconst (pc' := 45) dX5_copyFrom_1.1.2.2 rfl ?_
  refine zW_aload_n (pc' := 46) dX5_copyFrom_1.2.1.1.1 rfl rfl ?_
  refine zG_ref (pc' := 49) 38 fg_X5_22 tb36 rfl dX5_copyFrom_1.2.1.1.2 rfl ?_
  refine zW_iconst (pc' := 50) dX5_copyFrom_1.2.1.2 rfl ?_
  refine zW_sipush (pc' := 53) dX5_copyFrom_1.2.2.1.1 rfl rfl ?_
  refine zV_acopy (pc' := 56) tb35 tb38 (by omega) (by omega) (by omega) (by omega) (by decide) (by decide) ka_X5_37 (Nat.le_of_ble_eq_true rfl) (Nat.le_of_ble_eq_true rfl) dX5_copyFrom_1.2.2.1.2 rfl ?_
  have hz53 := hF.zc (a := 35) (c := 38) (d := 0) (n := 256) rfl rfl (by decide) (by decide) (KC_zc hF.2.2.2 rfl)
  refine (show ∀ h1 : Hp, Fm [(36, 0), (36, 1), (36, 2), (37, 999), (38, 999)] κ h1 → h1 = zcp h 35 38 0 256 → zV _ _ _ _ _ _ h1 from fun h hF w53 => ?_) _ hz53 rfl
  have a53_34 := fun j : Nat => (congrFun (congrFun w53 34) j).trans (zcp_ne (by decide))
  have a53_35 := fun j : Nat => (congrFun (congrFun w53 35) j).trans (zcp_ne (by decide))
  have a53_37 := fun j : Nat => (congrFun (congrFun w53 37) j).trans (zcp_ne (by decide))
  have a53_38 := fun j : Nat => zcp_pt (congrFun (congrFun w53 38) j)
  have t53_36_0 := congrFun (congrFun w53 36) 0
  rw [zcp_ne (by decide)] at t53_36_0
  have t53_36_1 := congrFun (congrFun w53 36) 1
  rw [zcp_ne (by decide)] at t53_36_1
  have t53_36_2 := congrFun (congrFun w53 36) 2
  rw [zcp_ne (by decide)] at t53_36_2
  exact zV_vret rfl dX5_copyFrom_1.2.2.2 ⟨hF, ⟨by omega, (fun j => by have q0 := a0_34 j; have q1 := a0_35 j; have q2 := a0_37 j; have q3 := a0_38 j; have q4 := a5_34 j; have q5 := a5_35 j; have q6 := a5_37 j; have q7 := a5_38 j; have q8 := a13_34 j; have q9 := a13_35 j; have q10 := a13_37 j; have q11 := a13_38 j; have q12 := a21_34 j; have q13 := a21_35 j; have q14 := a21_37 j; have q15 := a21_38 j; have q16 := a37_34 j; have q17 := a37_35 j; have q18 := a37_37 j; have q19 := a37_38 j; have q20 := a53_34 j; have q21 := a53_35 j; have q22 := a53_37 j; have q23 := a53_38 j; omega)⟩⟩

abbrev q_X5_copyFromV33_36E (κ : Hp)  : Int → Hp → Prop := fun r h' => Fm [(33, 0), (33, 1), (33, 2), (34, 999), (35, 999)] κ h' ∧ ((h' 33 0 = κ 36 0 ∧ h' 33 1 = κ 36 1 ∧ h' 33 2 = κ 36 2) ∧ (∀ j : Nat, j < 256 → h' 34 j = κ 37 j ∧ h' 35 j = κ 38 j))
set_option maxHeartbeats 4000000 in
set_option maxRecDepth 20000 in
theorem s_X5_copyFromV33_36E {G : Ga} {κ : Hp} (hS : SI κ) (hR : KR κ) (hC : KC κ)  : zM G mX5_copyFrom yX5_copyFrom [.inr (.inr 33), .inr (.inr 36)] κ (q_X5_copyFromV33_36E κ) := by
  have f_33_0 := KCw hC
  have f_33_1 := KCh hC
  have f_33_2 := KCp hC
  have f_36_0 := KCk0 hC
  have f_36_1 := KCk1 hC
  have f_36_2 := KCk2 hC
  refine zM_of [some (.inr (.inr 33)), some (.inr (.inr 36))] 0 rfl rfl (Nat.le_of_ble_eq_true rfl) rfl ?_
  refine (show ∀ h : Hp, Fm [(33, 0), (33, 1), (33, 2), (34, 999), (35, 999)] κ h → h = κ → zV G mX5_copyFrom (q_X5_copyFromV33_36E κ) 0 [some (.inr (.inr 33)), some (.inr (.inr 36))] [] h from fun h hF hk0 => ?_) κ (Fm.rf hS hR hC) rfl
  have a0_34 := fun j : Nat => congrFun (congrFun hk0 34) j
  have a0_35 := fun j : Nat => congrFun (congrFun hk0 35) j
  have a0_37 := fun j : Nat => congrFun (congrFun hk0 37) j
  have a0_38 := fun j : Nat => congrFun (congrFun hk0 38) j
  refine zW_aload_n (pc' := 1) dX5_copyFrom_0.1.1.1.1 rfl rfl ?_
  refine zW_aload_n (pc' := 2) dX5_copyFrom_0.1.1.1.2 rfl rfl ?_
  refine zGm (pc' := 5) hF rfl rfl fg_X5_9 tb36 rfl dX5_copyFrom_0.1.1.2.1 rfl ?_
  refine zPm (pc' := 8) hF (Or.inl rfl) (SI_irr hF.2.1 (Or.inl rfl) (fun _ _ => ⟨by omega, by omega⟩)) (KR_irr hF.2.2.1 rfl) (KC_33_0 hF.2.2.2 (by omega)) fp_X5_9 tb33 rfl dX5_copyFrom_0.1.1.2.2 rfl (fun h hF w5 => ?_)
  have a5_34 := fun j : Nat => (congrFun (congrFun w5 34) j).trans (zwr_ne (Or.inl (by decide)))
  have a5_35 := fun j : Nat => (congrFun (congrFun w5 35) j).trans (zwr_ne (Or.inl (by decide)))
  have a5_37 := fun j : Nat => (congrFun (congrFun w5 37) j).trans (zwr_ne (Or.inl (by decide)))
  have a5_38 := fun j : Nat => (congrFun (congrFun w5 38) j).trans (zwr_ne (Or.inl (by decide)))
  have t5_33_0 := congrFun (congrFun w5 33) 0
  rw [zwr_eq] at t5_33_0
  have t5_33_1 := congrFun (congrFun w5 33) 1
  rw [zwr_ne (Or.inr (by decide))] at t5_33_1
  have t5_33_2 := congrFun (congrFun w5 33) 2
  rw [zwr_ne (Or.inr (by decide))] at t5_33_2
  refine zW_aload_n (pc' := 9) dX5_copyFrom_0.1.2.1.1 rfl rfl ?_
  refine zW_aload_n (pc' := 10) dX5_copyFrom_0.1.2.1.2 rfl rfl ?_
  refine zGm (pc' := 13) hF rfl rfl fg_X5_15 tb36 rfl dX5_copyFrom_0.1.2.2.1 rfl ?_
  refine zPm (pc' := 16) hF (Or.inl rfl) (SI_irr hF.2.1 (Or.inl rfl) (fun _ _ => ⟨by omega, by omega⟩)) (KR_irr hF.2.2.1 rfl) (KC_33_1 hF.2.2.2 (by omega)) fp_X5_15 tb33 rfl dX5_copyFrom_0.1.2.2.2 rfl (fun h hF w13 => ?_)
  have a13_34 := fun j : Nat => (congrFun (congrFun w13 34) j).trans (zwr_ne (Or.inl (by decide)))
  have a13_35 := fun j : Nat => (congrFun (congrFun w13 35) j).trans (zwr_ne (Or.inl (by decide)))
  have a13_37 := fun j : Nat => (congrFun (congrFun w13 37) j).trans (zwr_ne (Or.inl (by decide)))
  have a13_38 := fun j : Nat => (congrFun (congrFun w13 38) j).trans (zwr_ne (Or.inl (by decide)))
  have t13_33_0 := congrFun (congrFun w13 33) 0
  rw [zwr_ne (Or.inr (by decide))] at t13_33_0
  have t13_33_1 := congrFun (congrFun w13 33) 1
  rw [zwr_eq] at t13_33_1
  have t13_33_2 := congrFun (congrFun w13 33) 2
  rw [zwr_ne (Or.inr (by decide))] at t13_33_2
  refine zW_aload_n (pc' := 17) dX5_copyFrom_0.2.1.1.1 rfl rfl ?_
  refine zW_aload_n (pc' := 18) dX5_copyFrom_0.2.1.1.2 rfl rfl ?_
  refine zGm (pc' := 21) hF rfl rfl fg_X5_25 tb36 rfl dX5_copyFrom_0.2.1.2.1 rfl ?_
  refine zPm (pc' := 24) hF (Or.inl rfl) (SI_irr hF.2.1 (Or.inl rfl) (fun _ _ => ⟨by omega, by omega⟩)) (KR_irr hF.2.2.1 rfl) (KC_33_2 hF.2.2.2 (by omega)) fp_X5_25 tb33 rfl dX5_copyFrom_0.2.1.2.2 rfl (fun h hF w21 => ?_)
  have a21_34 := fun j : Nat => (congrFun (congrFun w21 34) j).trans (zwr_ne (Or.inl (by decide)))
  have a21_35 := fun j : Nat => (congrFun (congrFun w21 35) j).trans (zwr_ne (Or.inl (by decide)))
  have a21_37 := fun j : Nat => (congrFun (congrFun w21 37) j).trans (zwr_ne (Or.inl (by decide)))
  have a21_38 := fun j : Nat => (congrFun (congrFun w21 38) j).trans (zwr_ne (Or.inl (by decide)))
  have t21_33_0 := congrFun (congrFun w21 33) 0
  rw [zwr_ne (Or.inr (by decide))] at t21_33_0
  have t21_33_1 := congrFun (congrFun w21 33) 1
  rw [zwr_ne (Or.inr (by decide))] at t21_33_1
  have t21_33_2 := congrFun (congrFun w21 33) 2
  rw [zwr_eq] at t21_33_2
  refine zW_aload_n (pc' := 25) dX5_copyFrom_0.2.2.1.1 rfl rfl ?_
  refine zG_ref (pc' := 28) 37 fg_X5_18 tb36 rfl dX5_copyFrom_0.2.2.1.2 rfl ?_
  refine zW_iconst (pc' := 29) dX5_copyFrom_0.2.2.2.1 rfl ?_
  refine zW_aload_n (pc' := 30) dX5_copyFrom_0.2.2.2.2 rfl rfl ?_
  refine zG_ref (pc' := 33) 34 fg_X5_18 tb33 rfl dX5_copyFrom_1.1.1.1.1 rfl ?_
  refine zW_iconst (pc' := 34) dX5_copyFrom_1.1.1.1.2 rfl ?_
  refine zW_sipush (pc' := 37) dX5_copyFrom_1.1.1.2.1 rfl rfl ?_
  refine zV_acopy (pc' := 40) tb37 tb34 (by omega) (by omega) (by omega) (by omega) (by decide) (by decide) ka_X5_37 (Nat.le_of_ble_eq_true rfl) (Nat.le_of_ble_eq_true rfl) dX5_copyFrom_1.1.1.2.2 rfl ?_
  have hz37 := hF.zc (a := 37) (c := 34) (d := 0) (n := 256) rfl rfl (by decide) (by decide) (KC_zc hF.2.2.2 rfl)
  refine (show ∀ h1 : Hp, Fm [(33, 0), (33, 1), (33, 2), (34, 999), (35, 999)] κ h1 → h1 = zcp h 37 34 0 256 → zV _ _ _ _ _ _ h1 from fun h hF w37 => ?_) _ hz37 rfl
  have a37_34 := fun j : Nat => zcp_pt (congrFun (congrFun w37 34) j)
  have a37_35 := fun j : Nat => (congrFun (congrFun w37 35) j).trans (zcp_ne (by decide))
  have a37_37 := fun j : Nat => (congrFun (congrFun w37 37) j).trans (zcp_ne (by decide))
  have a37_38 := fun j : Nat => (congrFun (congrFun w37 38) j).trans (zcp_ne (by decide))
  have t37_33_0 := congrFun (congrFun w37 33) 0
  rw [zcp_ne (by decide)] at t37_33_0
  have t37_33_1 := congrFun (congrFun w37 33) 1
  rw [zcp_ne (by decide)] at t37_33_1
  have t37_33_2 := congrFun (congrFun w37 33) 2
  rw [zcp_ne (by decide)] at t37_33_2
  refine zW_aload_n (pc' := 41) dX5_copyFrom_1.1.2.1.1 rfl rfl ?_
  refine zG_ref (pc' := 44) 38 fg_X5_22 tb36 rfl dX5_copyFrom_1.1.2.1.2 rfl ?_
  refine zW_iconst (pc' := 45) dX5_copyFrom_1.1.2.2 rfl ?_
  refine zW_aload_n (pc' := 46) dX5_copyFrom_1.2.1.1.1 rfl rfl ?_
  refine zG_ref (pc' := 49) 35 fg_X5_22 tb33 rfl dX5_copyFrom_1.2.1.1.2 rfl ?_
  refine zW_iconst (pc' := 50) dX5_copyFrom_1.2.1.2 rfl ?_
  refine zW_sipush (pc' := 53) dX5_copyFrom_1.2.2.1.1 rfl rfl ?_
  refine zV_acopy (pc' := 56) tb38 tb35 (by omega) (by omega) (by omega) (by omega) (by decide) (by decide) ka_X5_37 (Nat.le_of_ble_eq_true rfl) (Nat.le_of_ble_eq_true rfl) dX5_copyFrom_1.2.2.1.2 rfl ?_
  have hz53 := hF.zc (a := 38) (c := 35) (d := 0) (n := 256) rfl rfl (by decide) (by decide) (KC_zc hF.2.2.2 rfl)
  refine (show ∀ h1 : Hp, Fm [(33, 0), (33, 1), (33, 2), (34, 999), (35, 999)] κ h1 → h1 = zcp h 38 35 0 256 → zV _ _ _ _ _ _ h1 from fun h hF w53 => ?_) _ hz53 rfl
  have a53_34 := fun j : Nat => (congrFun (congrFun w53 34) j).trans (zcp_ne (by decide))
  have a53_35 := fun j : Nat => zcp_pt (congrFun (congrFun w53 35) j)
  have a53_37 := fun j : Nat => (congrFun (congrFun w53 37) j).trans (zcp_ne (by decide))
  have a53_38 := fun j : Nat => (congrFun (congrFun w53 38) j).trans (zcp_ne (by decide))
  have t53_33_0 := congrFun (congrFun w53 33) 0
  rw [zcp_ne (by decide)] at t53_33_0
  have t53_33_1 := congrFun (congrFun w53 33) 1
  rw [zcp_ne (by decide)] at t53_33_1
  have t53_33_2 := congrFun (congrFun w53 33) 2
  rw [zcp_ne (by decide)] at t53_33_2
  exact zV_vret rfl dX5_copyFrom_1.2.2.2 ⟨hF, ⟨by omega, (fun j => by have q0 := a0_34 j; have q1 := a0_35 j; have q2 := a0_37 j; have q3 := a0_38 j; have q4 := a5_34 j; have q5 := a5_35 j; have q6 := a5_37 j; have q7 := a5_38 j; have q8 := a13_34 j; have q9 := a13_35 j; have q10 := a13_37 j; have q11 := a13_38 j; have q12 := a21_34 j; have q13 := a21_35 j; have q14 := a21_37 j; have q15 := a21_38 j; have q16 := a37_34 j; have q17 := a37_35 j; have q18 := a37_37 j; have q19 := a37_38 j; have q20 := a53_34 j; have q21 := a53_35 j; have q22 := a53_37 j; have q23 := a53_38 j; omega)⟩⟩

abbrev q_X12_colourAtE (κ h : Hp) (x1 : Int) (x2 : Int) : Int → Hp → Prop := fun r h' => h' = h ∧ ((0 ≤ r) ∧ (r ≤ 2) ∧ (r = (x1 + κ 0 13) % 2 + (x2 + κ 0 13 / 2) % 2))
set_option maxHeartbeats 4000000 in
set_option maxRecDepth 20000 in
theorem s_X12_colourAtE {G : Ga} {b : Bd} {κ h : Hp} (hK : KR κ) (hF : Fr b κ h) (x1 : Int) (hx1 : 0 ≤ x1 ∧ x1 ≤ 31) (x2 : Int) (hx2 : 0 ≤ x2 ∧ x2 ≤ 31) : zM G mX12_colourAt yX12_colourAt [.inr (.inr 0), .inl x1, .inl x2] h (q_X12_colourAtE κ h x1 x2) := by
  have f_0_13 := KRp hK
  refine zM_of [some (.inr (.inr 0)), some (.inl x1), some (.inl x2), none, none] 2 rfl rfl (Nat.le_of_ble_eq_true rfl) rfl ?_
  refine zW_iload_n (pc' := 1) dX12_colourAt_0.1.1.1.1 rfl rfl ?_
  refine zW_aload_n (pc' := 2) dX12_colourAt_0.1.1.1.2 rfl rfl ?_
  refine zG_key (pc' := 5) hF rfl fg_X12_209 tb0 rfl dX12_colourAt_0.1.1.2.1 rfl ?_
  refine zW_iadd (pc' := 6) dX12_colourAt_0.1.1.2.2 rfl ?_
  refine zW_iconst (pc' := 7) dX12_colourAt_0.1.2.1.1 rfl ?_
  refine zW_irem (pc' := 8) (by omega) (by omega) dX12_colourAt_0.1.2.1.2 rfl ?_
  refine zW_istore_n (ls' := [_, _, _, _, _]) (pc' := 9) dX12_colourAt_0.1.2.2.1 (by decide) rfl rfl rfl ?_
  refine zW_iload_n (pc' := 10) dX12_colourAt_0.1.2.2.2 rfl rfl ?_
  refine zW_aload_n (pc' := 11) dX12_colourAt_0.2.1.1.1 rfl rfl ?_
  refine zG_key (pc' := 14) hF rfl fg_X12_209 tb0 rfl dX12_colourAt_0.2.1.1.2 rfl ?_
  refine zW_iconst (pc' := 15) dX12_colourAt_0.2.1.2.1 rfl ?_
  refine zW_idiv (pc' := 16) (by omega) (by omega) dX12_colourAt_0.2.1.2.2 rfl ?_
  refine zW_iadd (pc' := 17) dX12_colourAt_0.2.2.1.1 rfl ?_
  refine zW_iconst (pc' := 18) dX12_colourAt_0.2.2.1.2 rfl ?_
  refine zW_irem (pc' := 19) (by omega) (by omega) dX12_colourAt_0.2.2.2.1 rfl ?_
  refine zW_istore (ls' := [_, _, _, _, _]) (pc' := 21) dX12_colourAt_0.2.2.2.2 (by decide) rfl rfl rfl ?_
  refine zW_iload_n (pc' := 22) dX12_colourAt_1.1.1 rfl rfl ?_
  refine zW_iload (pc' := 24) dX12_colourAt_1.1.2 rfl rfl ?_
  refine zW_iadd (pc' := 25) dX12_colourAt_1.2.1 rfl ?_
  exact zV_iret rfl dX12_colourAt_1.2.2 ⟨rfl, by omega⟩

abbrev q_X12_sceneAtE (κ : Hp) (x1 : Int) (x2 : Int) (x3 : Int) (x4 : Int) (x5 : Int) : Int → Hp → Prop := fun r h' => Fm [(0, 15)] κ h' ∧ ((0 ≤ r) ∧ (r ≤ 255) ∧ (((x1 = 4 → h' 0 15 = (25173 * κ 0 15 + 13849) % 65536 ∧ r = (x2 + (25173 * κ 0 15 + 13849) % 65536 % (x3 + 1)) % 256) ∧ (x1 ≠ 4 → h' 0 15 = κ 0 15)) ∧ ((x1 = 0 → r = x2) ∧ (x1 = 1 → r = (x2 * x4 + x3 * x5) % 256) ∧ (x1 = 2 → 2 * x4 < κ 0 11 → r = x2) ∧ (x1 = 2 → ¬ 2 * x4 < κ 0 11 → r = x3) ∧ (x1 = 3 → 2 * (x4 + x5) < κ 0 11 + κ 0 12 → r = x2) ∧ (x1 = 3 → ¬ 2 * (x4 + x5) < κ 0 11 + κ 0 12 → r = x3) ∧ (x1 = 5 → (x4 + κ 0 13) % 2 + (x5 + κ 0 13 / 2) % 2 = 0 → r = x3) ∧ (x1 = 5 → ¬ (x4 + κ 0 13) % 2 + (x5 + κ 0 13 / 2) % 2 = 0 → r = x2) ∧ (x1 = 6 → x4 % 2 = 0 → r = x2) ∧ (x1 = 6 → ¬ x4 % 2 = 0 → r = x3))))
set_option maxHeartbeats 4000000 in
set_option maxRecDepth 20000 in
theorem s_X12_sceneAtE {G : Ga} {κ : Hp} (hS : SI κ) (hR : KR κ) (hC : KC κ) (x1 : Int) (hx1 : 0 ≤ x1 ∧ x1 ≤ 6) (x2 : Int) (hx2 : 0 ≤ x2 ∧ x2 ≤ 255) (x3 : Int) (hx3 : 0 ≤ x3 ∧ x3 ≤ 255) (x4 : Int) (hx4 : 0 ≤ x4 ∧ x4 ≤ 15 ∧ x4 - κ 0 11 ≤ -1) (x5 : Int) (hx5 : 0 ≤ x5 ∧ x5 ≤ 15 ∧ x5 - κ 0 12 ≤ -1) : zM G mX12_sceneAt yX12_sceneAt [.inr (.inr 0), .inl x1, .inl x2, .inl x3, .inl x4, .inl x5] κ (q_X12_sceneAtE κ x1 x2 x3 x4 x5) := by
  have f_0_11 := KRw hR
  have f_0_12 := KRh hR
  have f_0_13 := KRp hR
  have f_0_15 := KRl hR
  refine zM_of [some (.inr (.inr 0)), some (.inl x1), some (.inl x2), some (.inl x3), some (.inl x4), some (.inl x5)] 0 rfl rfl (Nat.le_of_ble_eq_true rfl) rfl ?_
  refine (show ∀ h : Hp, Fm [(0, 15)] κ h → h = κ → zV G mX12_sceneAt (q_X12_sceneAtE κ x1 x2 x3 x4 x5) 0 [some (.inr (.inr 0)), some (.inl x1), some (.inl x2), some (.inl x3), some (.inl x4), some (.inl x5)] [] h from fun h hF hk0 => ?_) κ (Fm.rf hS hR hC) rfl
  have y0_0_15 : h 0 15 = κ 0 15 := by rw [hk0]
  refine zW_iload_n (pc' := 1) dX12_sceneAt_0.1.1.1.1 rfl rfl ?_
  refine zW_tsw2 (fun z t => (z = 0 ∧ t = 40) ∨ (z = 1 ∧ t = 42) ∨ (z = 2 ∧ t = 56) ∨ (z = 3 ∧ t = 73) ∨ (z = 4 ∧ t = 98) ∨ (z = 5 ∧ t = 132)) (fun z => if z = 0 then 40 else if z = 1 then 42 else if z = 2 then 56 else if z = 3 then 73 else if z = 4 then 98 else if z = 5 then 132 else 149) dX12_sceneAt_0.1.1.1.2 ⟨by omega, by omega⟩ (tsw_ok (pc := 1) (lo := 0) (offs := #[39, 41, 55, 72, 97, 131]) (tg := fun z => if z = 0 then 40 else if z = 1 then 42 else if z = 2 then 56 else if z = 3 then 73 else if z = 4 then 98 else if z = 5 then 132 else 149) (by decide +kernel)) rfl (by decide +kernel) (td := 149) rfl (fun c1 => ?_) (fun t1 w1 => ?_)
  · refine zW_iload (pc' := 151) dX12_sceneAt_4.1.2.1.2 rfl rfl ?_
    refine zW_iconst (pc' := 152) dX12_sceneAt_4.1.2.2 rfl ?_
    refine zW_irem (pc' := 153) (by omega) (by omega) dX12_sceneAt_4.2.1.1.1 rfl ?_
    refine zV_if_ne (tgt := 160) (pc' := 156) dX12_sceneAt_4.2.1.1.2 rfl rfl ⟨by omega, by omega⟩ (fun c153 => ?_) (fun c153 => ?_)
    · refine zW_iload_n (pc' := 161) dX12_sceneAt_4.2.2.1.2 rfl rfl ?_
      exact zV_iret rfl dX12_sceneAt_4.2.2.2 ⟨hF, by omega⟩
    · refine zW_iload_n (pc' := 157) dX12_sceneAt_4.2.1.2 rfl rfl ?_
      refine zV_goto 161 dX12_sceneAt_4.2.2.1.1 rfl ?_
      exact zV_iret rfl dX12_sceneAt_4.2.2.2 ⟨hF, by omega⟩
  · rcases w1 with ⟨s0, rfl⟩ | ⟨s1, rfl⟩ | ⟨s2, rfl⟩ | ⟨s3, rfl⟩ | ⟨s4, rfl⟩ | ⟨s5, rfl⟩
    · refine zW_iload_n (pc' := 41) dX12_sceneAt_0.1.1.2.1 rfl rfl ?_
      exact zV_iret rfl dX12_sceneAt_0.1.1.2.2 ⟨hF, by omega⟩
    · refine zW_iload_n (pc' := 43) dX12_sceneAt_0.1.2.1.1 rfl rfl ?_
      refine zW_iload (pc' := 45) dX12_sceneAt_0.1.2.1.2 rfl rfl ?_
      refine zW_imul (pc' := 46) dX12_sceneAt_0.1.2.2.1 rfl ?_
      refine zW_iload_n (pc' := 47) dX12_sceneAt_0.1.2.2.2 rfl rfl ?_
      refine zW_iload (pc' := 49) dX12_sceneAt_0.2.1.1.1 rfl rfl ?_
      refine zW_imul (pc' := 50) dX12_sceneAt_0.2.1.1.2 rfl ?_
      refine zW_iadd (pc' := 51) dX12_sceneAt_0.2.1.2.1 rfl ?_
      have m1 := mulb (a := x2) (b := x4) (A := 255) (B := 15) (by omega) (by omega); have m2 := mulb (a := x3) (b := x5) (A := 255) (B := 15) (by omega) (by omega)
      refine zW_sipush (pc' := 54) dX12_sceneAt_0.2.1.2.2 rfl rfl ?_
      refine zW_irem (pc' := 55) (by omega) (by omega) dX12_sceneAt_0.2.2.1.1 rfl ?_
      exact zV_iret rfl dX12_sceneAt_0.2.2.1.2 ⟨hF, by omega⟩
    · refine zW_iconst (pc' := 57) dX12_sceneAt_0.2.2.2.1 rfl ?_
      refine zW_iload (pc' := 59) dX12_sceneAt_0.2.2.2.2 rfl rfl ?_
      refine zW_imul (pc' := 60) dX12_sceneAt_1.1.1.1.1 rfl ?_
      refine zW_aload_n (pc' := 61) dX12_sceneAt_1.1.1.1.2 rfl rfl ?_
      refine zGm (pc' := 64) hF rfl rfl fg_X12_99 tb0 rfl dX12_sceneAt_1.1.1.2.1 rfl ?_
      refine zV_cm_ge (tgt := 71) (pc' := 67) dX12_sceneAt_1.1.1.2.2 rfl rfl ⟨by omega, by omega⟩ ⟨by omega, by omega⟩ (fun c64 => ?_) (fun c64 => ?_)
      · refine zW_iload_n (pc' := 72) dX12_sceneAt_1.1.2.2.1 rfl rfl ?_
        exact zV_iret rfl dX12_sceneAt_1.1.2.2.2 ⟨hF, by omega⟩
      · refine zW_iload_n (pc' := 68) dX12_sceneAt_1.1.2.1.1 rfl rfl ?_
        refine zV_goto 72 dX12_sceneAt_1.1.2.1.2 rfl ?_
        exact zV_iret rfl dX12_sceneAt_1.1.2.2.2 ⟨hF, by omega⟩
    · refine zW_iconst (pc' := 74) dX12_sceneAt_1.2.1.1.1 rfl ?_
      refine zW_iload (pc' := 76) dX12_sceneAt_1.2.1.1.2 rfl rfl ?_
      refine zW_iload (pc' := 78) dX12_sceneAt_1.2.1.2.1 rfl rfl ?_
      refine zW_iadd (pc' := 79) dX12_sceneAt_1.2.1.2.2 rfl ?_
      refine zW_imul (pc' := 80) dX12_sceneAt_1.2.2.1.1 rfl ?_
      refine zW_aload_n (pc' := 81) dX12_sceneAt_1.2.2.1.2 rfl rfl ?_
      refine zGm (pc' := 84) hF rfl rfl fg_X12_99 tb0 rfl dX12_sceneAt_1.2.2.2.1 rfl ?_
      refine zW_aload_n (pc' := 85) dX12_sceneAt_1.2.2.2.2 rfl rfl ?_
      refine zGm (pc' := 88) hF rfl rfl fg_X12_103 tb0 rfl dX12_sceneAt_2.1.1.1.1 rfl ?_
      refine zW_iadd (pc' := 89) dX12_sceneAt_2.1.1.1.2 rfl ?_
      refine zV_cm_ge (tgt := 96) (pc' := 92) dX12_sceneAt_2.1.1.2.1 rfl rfl ⟨by omega, by omega⟩ ⟨by omega, by omega⟩ (fun c89 => ?_) (fun c89 => ?_)
      · refine zW_iload_n (pc' := 97) dX12_sceneAt_2.1.2.1.2 rfl rfl ?_
        exact zV_iret rfl dX12_sceneAt_2.1.2.2.1 ⟨hF, by omega⟩
      · refine zW_iload_n (pc' := 93) dX12_sceneAt_2.1.1.2.2 rfl rfl ?_
        refine zV_goto 97 dX12_sceneAt_2.1.2.1.1 rfl ?_
        exact zV_iret rfl dX12_sceneAt_2.1.2.2.1 ⟨hF, by omega⟩
    · refine zW_aload_n (pc' := 99) dX12_sceneAt_2.1.2.2.2 rfl rfl ?_
      refine zW_sipush (pc' := 102) dX12_sceneAt_2.2.1.1.1 rfl rfl ?_
      refine zW_aload_n (pc' := 103) dX12_sceneAt_2.2.1.1.2 rfl rfl ?_
      refine zG_int (pc' := 106) fg_X12_106 tb0 rfl dX12_sceneAt_2.2.1.2.1 rfl ?_
      have e103 := KRl hF.2.2.1
      refine zW_imul (pc' := 107) dX12_sceneAt_2.2.1.2.2 rfl ?_
      refine zW_sipush (pc' := 110) dX12_sceneAt_2.2.2.1.1 rfl rfl ?_
      refine zW_iadd (pc' := 111) dX12_sceneAt_2.2.2.1.2 rfl ?_
      refine zV_ldc (n := 65536) (pc' := 113) kc_X12_224 rfl dX12_sceneAt_2.2.2.2.1 rfl ?_
      refine zW_irem (pc' := 114) (by omega) (by omega) dX12_sceneAt_2.2.2.2.2 rfl ?_
      refine zPm (pc' := 117) hF (Or.inl rfl) (SI_irr hF.2.1 (Or.inl rfl) (fun _ _ => ⟨by omega, by omega⟩)) (KR_15 hF.2.2.1 (by omega)) (KC_irr hF.2.2.2 rfl) fp_X12_106 tb0 rfl dX12_sceneAt_3.1.1.1.1 rfl (fun h hF w114 => ?_)
      have t114_0_15 := congrFun (congrFun w114 0) 15
      rw [zwr_eq] at t114_0_15
      have z15 : h 0 15 = (25173 * κ 0 15 + 13849) % 65536 := by omega
      refine zW_iload_n (pc' := 118) dX12_sceneAt_3.1.1.1.2 rfl rfl ?_
      refine zW_aload_n (pc' := 119) dX12_sceneAt_3.1.1.2.1 rfl rfl ?_
      refine zG_int (pc' := 122) fg_X12_106 tb0 rfl dX12_sceneAt_3.1.1.2.2 rfl ?_
      have e119 := KRl hF.2.2.1
      refine zW_iload_n (pc' := 123) dX12_sceneAt_3.1.2.1.1 rfl rfl ?_
      refine zW_iconst (pc' := 124) dX12_sceneAt_3.1.2.1.2 rfl ?_
      refine zW_iadd (pc' := 125) dX12_sceneAt_3.1.2.2.1 rfl ?_
      refine zW_irem (pc' := 126) (by omega) (by omega) dX12_sceneAt_3.1.2.2.2 rfl ?_
      refine zW_iadd (pc' := 127) dX12_sceneAt_3.2.1.1.1 rfl ?_
      have m3 : 0 ≤ h 0 15 % (x3 + 1) ∧ h 0 15 % (x3 + 1) < x3 + 1 := ⟨Int.emod_nonneg _ (by omega), Int.emod_lt_of_pos _ (by omega)⟩
      refine zW_sipush (pc' := 130) dX12_sceneAt_3.2.1.1.2 rfl rfl ?_
      refine zW_irem (pc' := 131) (by omega) (by omega) dX12_sceneAt_3.2.1.2.1 rfl ?_
      exact zV_iret rfl dX12_sceneAt_3.2.1.2.2 ⟨hF, ⟨by omega, by omega, by rw [← z15]; omega⟩⟩
    · refine zW_aload_n (pc' := 133) dX12_sceneAt_3.2.2.1.1 rfl rfl ?_
      refine zW_iload (pc' := 135) dX12_sceneAt_3.2.2.1.2 rfl rfl ?_
      refine zW_iload (pc' := 137) dX12_sceneAt_3.2.2.2.1 rfl rfl ?_
      have y137_0_13 := hF.1 0 13 rfl rfl
      refine cvI2 (pc' := 140) kX12_colourAt vX12_colourAt lk_X12_225 ⟨Nat.le_of_ble_eq_true rfl, Nat.le_of_ble_eq_true rfl⟩ tb0 vq12 rfl rfl (s_X12_colourAtE (b := bdB true) (κ := h) hF.2.2.1 (Fr.rf hF.2.1) _ ⟨by omega, by omega⟩ _ ⟨by omega, by omega⟩) dX12_sceneAt_3.2.2.2.2 (Nat.le_of_ble_eq_true rfl) rfl ?_
      rintro r137 z137 ⟨hz137, p137⟩; subst z137
      refine zV_if_ne (tgt := 147) (pc' := 143) dX12_sceneAt_4.1.1.1.1 rfl rfl ⟨by omega, by omega⟩ (fun c140 => ?_) (fun c140 => ?_)
      · refine zW_iload_n (pc' := 148) dX12_sceneAt_4.1.1.2.2 rfl rfl ?_
        exact zV_iret rfl dX12_sceneAt_4.1.2.1.1 ⟨hF, by omega⟩
      · refine zW_iload_n (pc' := 144) dX12_sceneAt_4.1.1.1.2 rfl rfl ?_
        refine zV_goto 148 dX12_sceneAt_4.1.1.2.1 rfl ?_
        exact zV_iret rfl dX12_sceneAt_4.1.2.1.1 ⟨hF, by omega⟩

abbrev q_X11_drawnE (κ : Hp) (x1 : Int) (x2 : Int) : Int → Hp → Prop := fun r h' => Fm [(30, 12)] κ h' ∧ ((0 ≤ r) ∧ (r ≤ 255) ∧ (h' 30 12 = (25173 * κ 30 12 + 13849) % 65536 ∧ r = (x1 + (25173 * κ 30 12 + 13849) % 65536 % (x2 + 1)) % 256))
set_option maxHeartbeats 4000000 in
set_option maxRecDepth 20000 in
theorem s_X11_drawnE {G : Ga} {κ : Hp} (hS : SI κ) (hR : KR κ) (hC : KC κ) (x1 : Int) (hx1 : 0 ≤ x1 ∧ x1 ≤ 255) (x2 : Int) (hx2 : 0 ≤ x2 ∧ x2 ≤ 255) : zM G mX11_drawn yX11_drawn [.inr (.inr 30), .inl x1, .inl x2] κ (q_X11_drawnE κ x1 x2) := by
  have f_30_12 := KCc hC
  refine zM_of [some (.inr (.inr 30)), some (.inl x1), some (.inl x2)] 0 rfl rfl (Nat.le_of_ble_eq_true rfl) rfl ?_
  refine (show ∀ h : Hp, Fm [(30, 12)] κ h → h = κ → zV G mX11_drawn (q_X11_drawnE κ x1 x2) 0 [some (.inr (.inr 30)), some (.inl x1), some (.inl x2)] [] h from fun h hF hk0 => ?_) κ (Fm.rf hS hR hC) rfl
  have y0_30_12 : h 30 12 = κ 30 12 := by rw [hk0]
  refine zW_aload_n (pc' := 1) dX11_drawn_0.1.1.1.1 rfl rfl ?_
  refine zW_sipush (pc' := 4) dX11_drawn_0.1.1.1.2 rfl rfl ?_
  refine zW_aload_n (pc' := 5) dX11_drawn_0.1.1.2.1 rfl rfl ?_
  refine zG_int (pc' := 8) fg_X11_85 tb30 rfl dX11_drawn_0.1.1.2.2 rfl ?_
  have e5 := KCc hF.2.2.2
  refine zW_imul (pc' := 9) dX11_drawn_0.1.2.1.1 rfl ?_
  refine zW_sipush (pc' := 12) dX11_drawn_0.1.2.1.2 rfl rfl ?_
  refine zW_iadd (pc' := 13) dX11_drawn_0.1.2.2.1 rfl ?_
  refine zV_ldc_w (n := 65536) (pc' := 16) kc_X11_398 rfl dX11_drawn_0.1.2.2.2 rfl ?_
  refine zW_irem (pc' := 17) (by omega) (by omega) dX11_drawn_0.2.1.1.1 rfl ?_
  refine zPm (pc' := 20) hF (Or.inl rfl) (SI_irr hF.2.1 (Or.inl rfl) (fun _ _ => ⟨by omega, by omega⟩)) (KR_irr hF.2.2.1 rfl) (KC_30_12 hF.2.2.2 (by omega)) fp_X11_85 tb30 rfl dX11_drawn_0.2.1.1.2 rfl (fun h hF w17 => ?_)
  have t17_30_12 := congrFun (congrFun w17 30) 12
  rw [zwr_eq] at t17_30_12
  have z15 : h 30 12 = (25173 * κ 30 12 + 13849) % 65536 := by omega
  refine zW_iload_n (pc' := 21) dX11_drawn_0.2.1.2.1 rfl rfl ?_
  refine zW_aload_n (pc' := 22) dX11_drawn_0.2.1.2.2 rfl rfl ?_
  refine zG_int (pc' := 25) fg_X11_85 tb30 rfl dX11_drawn_0.2.2.1.1 rfl ?_
  have e22 := KCc hF.2.2.2
  refine zW_iload_n (pc' := 26) dX11_drawn_0.2.2.1.2 rfl rfl ?_
  refine zW_iconst (pc' := 27) dX11_drawn_0.2.2.2.1 rfl ?_
  refine zW_iadd (pc' := 28) dX11_drawn_0.2.2.2.2 rfl ?_
  refine zW_irem (pc' := 29) (by omega) (by omega) dX11_drawn_1.1.1.1 rfl ?_
  refine zW_iadd (pc' := 30) dX11_drawn_1.1.1.2 rfl ?_
  have m3 : 0 ≤ h 30 12 % (x2 + 1) ∧ h 30 12 % (x2 + 1) < x2 + 1 := ⟨Int.emod_nonneg _ (by omega), Int.emod_lt_of_pos _ (by omega)⟩
  refine zW_sipush (pc' := 33) dX11_drawn_1.1.2 rfl rfl ?_
  refine zW_irem (pc' := 34) (by omega) (by omega) dX11_drawn_1.2.1 rfl ?_
  exact zV_iret rfl dX11_drawn_1.2.2 ⟨hF, ⟨by omega, by omega, by rw [← z15]; omega⟩⟩

abbrev q_X5_colourOfE (κ h : Hp) (x1 : Int) (x2 : Int) : Int → Hp → Prop := fun r h' => h' = h ∧ ((0 ≤ r) ∧ (r ≤ 2) ∧ (r = (x1 + κ 33 2) % 2 + (x2 + κ 33 2 / 2) % 2))
set_option maxHeartbeats 4000000 in
set_option maxRecDepth 20000 in
theorem s_X5_colourOfE {G : Ga} {b : Bd} {κ h : Hp} (hK : KC κ) (hF : Fr b κ h) (x1 : Int) (x2 : Int) : zM G mX5_colourOf yX5_colourOf [.inr (.inr 33), .inl x1, .inl x2] h (q_X5_colourOfE κ h x1 x2) := by
  have f_33_2 := KCp hK
  have f_36_2 := KCk2 hK
  refine zM_of [some (.inr (.inr 33)), some (.inl x1), some (.inl x2), none, none] 2 rfl rfl (Nat.le_of_ble_eq_true rfl) rfl ?_
  refine zW_iload_n (pc' := 1) dX5_colourOf_0.1.1.1.1 rfl rfl ?_
  refine zW_aload_n (pc' := 2) dX5_colourOf_0.1.1.1.2 rfl rfl ?_
  refine zG_key (pc' := 5) hF rfl fg_X5_25 tb33 rfl dX5_colourOf_0.1.1.2.1 rfl ?_
  refine zW_iadd (pc' := 6) dX5_colourOf_0.1.1.2.2 rfl ?_
  refine zW_iconst (pc' := 7) dX5_colourOf_0.1.2.1.1 rfl ?_
  refine zW_iand1 (pc' := 8) dX5_colourOf_0.1.2.1.2 rfl (fun v7 e7 => ?_)
  refine zW_istore_n (ls' := [_, _, _, _, _]) (pc' := 9) dX5_colourOf_0.1.2.2.1 (by decide) rfl rfl rfl ?_
  refine zW_iload_n (pc' := 10) dX5_colourOf_0.1.2.2.2 rfl rfl ?_
  refine zW_aload_n (pc' := 11) dX5_colourOf_0.2.1.1.1 rfl rfl ?_
  refine zG_key (pc' := 14) hF rfl fg_X5_25 tb33 rfl dX5_colourOf_0.2.1.1.2 rfl ?_
  refine zW_iconst (pc' := 15) dX5_colourOf_0.2.1.2.1 rfl ?_
  refine zW_idiv (pc' := 16) (by omega) (by omega) dX5_colourOf_0.2.1.2.2 rfl ?_
  refine zW_iadd (pc' := 17) dX5_colourOf_0.2.2.1.1 rfl ?_
  refine zW_iconst (pc' := 18) dX5_colourOf_0.2.2.1.2 rfl ?_
  refine zW_iand1 (pc' := 19) dX5_colourOf_0.2.2.2.1 rfl (fun v18 e18 => ?_)
  refine zW_istore (ls' := [_, _, _, _, _]) (pc' := 21) dX5_colourOf_0.2.2.2.2 (by decide) rfl rfl rfl ?_
  refine zW_iload_n (pc' := 22) dX5_colourOf_1.1.1.1.1 rfl rfl ?_
  refine zW_iload (pc' := 24) dX5_colourOf_1.1.1.1.2 rfl rfl ?_
  refine zV_cm_ne (tgt := 33) (pc' := 27) dX5_colourOf_1.1.1.2 rfl rfl ⟨by omega, by omega⟩ ⟨by omega, by omega⟩ (fun c24 => ?_) (fun c24 => ?_)
  · refine zW_iconst (pc' := 34) dX5_colourOf_1.2.2.1 rfl ?_
    exact zV_iret rfl dX5_colourOf_1.2.2.2 ⟨rfl, by omega⟩
  · refine zW_iconst (pc' := 28) dX5_colourOf_1.1.2.1 rfl ?_
    refine zW_iload_n (pc' := 29) dX5_colourOf_1.1.2.2 rfl rfl ?_
    refine zW_imul (pc' := 30) dX5_colourOf_1.2.1.1 rfl ?_
    refine zV_goto 34 dX5_colourOf_1.2.1.2 rfl ?_
    exact zV_iret rfl dX5_colourOf_1.2.2.2 ⟨rfl, by omega⟩

abbrev q_X5_laidE (κ h : Hp) (x1 : Int) (x2 : Int) (x3 : Int) (x4 : Int) (x5 : Int) : Int → Hp → Prop := fun r h' => h' = h ∧ ((0 ≤ r) ∧ (r ≤ 255) ∧ ((x1 = 0 → r = x2) ∧ (x1 = 1 → r = (x2 * x4 + x3 * x5) % 256) ∧ (x1 = 2 → 2 * x4 < κ 33 0 → r = x2) ∧ (x1 = 2 → ¬ 2 * x4 < κ 33 0 → r = x3) ∧ (x1 = 3 → 2 * (x4 + x5) < κ 33 0 + κ 33 1 → r = x2) ∧ (x1 = 3 → ¬ 2 * (x4 + x5) < κ 33 0 + κ 33 1 → r = x3) ∧ (x1 = 5 → (x4 + κ 33 2) % 2 + (x5 + κ 33 2 / 2) % 2 = 0 → r = x3) ∧ (x1 = 5 → ¬ (x4 + κ 33 2) % 2 + (x5 + κ 33 2 / 2) % 2 = 0 → r = x2) ∧ (x1 = 6 → x4 % 2 = 0 → r = x2) ∧ (x1 = 6 → ¬ x4 % 2 = 0 → r = x3)))
set_option maxHeartbeats 4000000 in
set_option maxRecDepth 20000 in
theorem s_X5_laidE {G : Ga} {b : Bd} {κ h : Hp} (hK : KC κ) (hF : Fr b κ h) (x1 : Int) (hx1 : 0 ≤ x1 ∧ x1 ≤ 6) (x2 : Int) (hx2 : 0 ≤ x2 ∧ x2 ≤ 255) (x3 : Int) (hx3 : 0 ≤ x3 ∧ x3 ≤ 255) (x4 : Int) (hx4 : 0 ≤ x4 ∧ x4 ≤ 15 ∧ x4 - κ 33 0 ≤ -1) (x5 : Int) (hx5 : 0 ≤ x5 ∧ x5 ≤ 15 ∧ x5 - κ 33 1 ≤ -1) (hev : Ev κ) : zM G mX5_laid yX5_laid [.inr (.inr 33), .inl x1, .inl x2, .inl x3, .inl x4, .inl x5] h (q_X5_laidE κ h x1 x2 x3 x4 x5) := by
  have f_33_0 := KCw hK
  have f_33_1 := KCh hK
  have f_33_2 := KCp hK
  have f_36_0 := KCk0 hK
  have f_36_1 := KCk1 hK
  have hev2 := hev
  unfold Ev at hev2
  refine zM_of [some (.inr (.inr 33)), some (.inl x1), some (.inl x2), some (.inl x3), some (.inl x4), some (.inl x5)] 0 rfl rfl (Nat.le_of_ble_eq_true rfl) rfl ?_
  refine zW_iload_n (pc' := 1) dX5_laid_0.1.1.1.1 rfl rfl ?_
  refine zW_tsw2 (fun z t => (z = 1 ∧ t = 40) ∨ (z = 2 ∧ t = 54) ∨ (z = 3 ∧ t = 71) ∨ (z = 5 ∧ t = 96) ∨ (z = 6 ∧ t = 113) ∨ (t = 126 ∧ z ≠ 1 ∧ z ≠ 2 ∧ z ≠ 3 ∧ z ≠ 5 ∧ z ≠ 6)) (fun z => if z = 1 then 40 else if z = 2 then 54 else if z = 3 then 71 else if z = 5 then 96 else if z = 6 then 113 else 126) dX5_laid_0.1.1.1.2 ⟨by omega, by omega⟩ (tsw_ok (pc := 1) (lo := 1) (offs := #[39, 53, 70, 125, 95, 112]) (tg := fun z => if z = 1 then 40 else if z = 2 then 54 else if z = 3 then 71 else if z = 5 then 96 else if z = 6 then 113 else 126) (by decide +kernel)) rfl (by decide +kernel) (td := 126) rfl (fun c1 => ?_) (fun t1 w1 => ?_)
  · refine zW_iload_n (pc' := 127) dX5_laid_3.2.2.1 rfl rfl ?_
    exact zV_iret rfl dX5_laid_3.2.2.2 ⟨rfl, by omega⟩
  · rcases w1 with ⟨s1, rfl⟩ | ⟨s2, rfl⟩ | ⟨s3, rfl⟩ | ⟨s5, rfl⟩ | ⟨s6, rfl⟩ | ⟨rfl, n1, n2, n3, n5, n6⟩
    · refine zW_iload_n (pc' := 41) dX5_laid_0.1.1.2.1 rfl rfl ?_
      refine zW_iload (pc' := 43) dX5_laid_0.1.1.2.2 rfl rfl ?_
      refine zW_imul (pc' := 44) dX5_laid_0.1.2.1.1 rfl ?_
      refine zW_iload_n (pc' := 45) dX5_laid_0.1.2.1.2 rfl rfl ?_
      refine zW_iload (pc' := 47) dX5_laid_0.1.2.2.1 rfl rfl ?_
      refine zW_imul (pc' := 48) dX5_laid_0.1.2.2.2 rfl ?_
      refine zW_iadd (pc' := 49) dX5_laid_0.2.1.1.1 rfl ?_
      have m1 := mulb (a := x2) (b := x4) (A := 255) (B := 15) (by omega) (by omega); have m2 := mulb (a := x3) (b := x5) (A := 255) (B := 15) (by omega) (by omega)
      refine zW_sipush (pc' := 52) dX5_laid_0.2.1.1.2 rfl rfl ?_
      refine zW_irem (pc' := 53) (by omega) (by omega) dX5_laid_0.2.1.2.1 rfl ?_
      exact zV_iret rfl dX5_laid_0.2.1.2.2 ⟨rfl, by omega⟩
    · refine zW_iload (pc' := 56) dX5_laid_0.2.2.1.1 rfl rfl ?_
      refine zW_aload_n (pc' := 57) dX5_laid_0.2.2.1.2 rfl rfl ?_
      refine zG_key (pc' := 60) hF rfl fg_X5_9 tb33 rfl dX5_laid_0.2.2.2.1 rfl ?_
      refine zW_iconst (pc' := 61) dX5_laid_0.2.2.2.2 rfl ?_
      refine zW_idiv (pc' := 62) (by omega) (by omega) dX5_laid_1.1.1.1.1 rfl ?_
      refine zV_cm_ge (tgt := 69) (pc' := 65) dX5_laid_1.1.1.1.2 rfl rfl ⟨by omega, by omega⟩ ⟨by omega, by omega⟩ (fun c62 => ?_) (fun c62 => ?_)
      · refine zW_iload_n (pc' := 70) dX5_laid_1.1.2.1.1 rfl rfl ?_
        exact zV_iret rfl dX5_laid_1.1.2.1.2 ⟨rfl, by omega⟩
      · refine zW_iload_n (pc' := 66) dX5_laid_1.1.1.2.1 rfl rfl ?_
        refine zV_goto 70 dX5_laid_1.1.1.2.2 rfl ?_
        exact zV_iret rfl dX5_laid_1.1.2.1.2 ⟨rfl, by omega⟩
    · refine zW_iload (pc' := 73) dX5_laid_1.1.2.2.1 rfl rfl ?_
      refine zW_iload (pc' := 75) dX5_laid_1.1.2.2.2 rfl rfl ?_
      refine zW_iadd (pc' := 76) dX5_laid_1.2.1.1.1 rfl ?_
      refine zW_aload_n (pc' := 77) dX5_laid_1.2.1.1.2 rfl rfl ?_
      refine zG_key (pc' := 80) hF rfl fg_X5_9 tb33 rfl dX5_laid_1.2.1.2.1 rfl ?_
      refine zW_aload_n (pc' := 81) dX5_laid_1.2.1.2.2 rfl rfl ?_
      refine zG_key (pc' := 84) hF rfl fg_X5_15 tb33 rfl dX5_laid_1.2.2.1.1 rfl ?_
      refine zW_iadd (pc' := 85) dX5_laid_1.2.2.1.2 rfl ?_
      refine zW_iconst (pc' := 86) dX5_laid_1.2.2.2.1 rfl ?_
      refine zW_idiv (pc' := 87) (by omega) (by omega) dX5_laid_1.2.2.2.2 rfl ?_
      refine zV_cm_ge (tgt := 94) (pc' := 90) dX5_laid_2.1.1.1.1 rfl rfl ⟨by omega, by omega⟩ ⟨by omega, by omega⟩ (fun c87 => ?_) (fun c87 => ?_)
      · refine zW_iload_n (pc' := 95) dX5_laid_2.1.1.2.2 rfl rfl ?_
        exact zV_iret rfl dX5_laid_2.1.2.1.1 ⟨rfl, by omega⟩
      · refine zW_iload_n (pc' := 91) dX5_laid_2.1.1.1.2 rfl rfl ?_
        refine zV_goto 95 dX5_laid_2.1.1.2.1 rfl ?_
        exact zV_iret rfl dX5_laid_2.1.2.1.1 ⟨rfl, by omega⟩
    · refine zW_aload_n (pc' := 97) dX5_laid_2.1.2.1.2 rfl rfl ?_
      refine zW_iload (pc' := 99) dX5_laid_2.1.2.2.1 rfl rfl ?_
      refine zW_iload (pc' := 101) dX5_laid_2.1.2.2.2 rfl rfl ?_
      refine cvI2 (pc' := 104) kX5_colourOf vX5_colourOf lk_X5_43 ⟨Nat.le_of_ble_eq_true rfl, Nat.le_of_ble_eq_true rfl⟩ tb33 vq5 rfl rfl (s_X5_colourOfE hK hF _ _) dX5_laid_2.2.1.1.1 (Nat.le_of_ble_eq_true rfl) rfl ?_
      rintro r101 z101 ⟨hz101, p101⟩; subst z101
      refine zV_if_ne (tgt := 111) (pc' := 107) dX5_laid_2.2.1.1.2 rfl rfl ⟨by omega, by omega⟩ (fun c104 => ?_) (fun c104 => ?_)
      · refine zW_iload_n (pc' := 112) dX5_laid_2.2.2.1.1 rfl rfl ?_
        exact zV_iret rfl dX5_laid_2.2.2.1.2 ⟨rfl, by omega⟩
      · refine zW_iload_n (pc' := 108) dX5_laid_2.2.1.2.1 rfl rfl ?_
        refine zV_goto 112 dX5_laid_2.2.1.2.2 rfl ?_
        exact zV_iret rfl dX5_laid_2.2.2.1.2 ⟨rfl, by omega⟩
    · refine zW_iload (pc' := 115) dX5_laid_2.2.2.2.1 rfl rfl ?_
      refine zW_iconst (pc' := 116) dX5_laid_2.2.2.2.2 rfl ?_
      refine zW_irem (pc' := 117) (by omega) (by omega) dX5_laid_3.1.1.1 rfl ?_
      refine zV_if_ne (tgt := 124) (pc' := 120) dX5_laid_3.1.1.2 rfl rfl ⟨by omega, by omega⟩ (fun c117 => ?_) (fun c117 => ?_)
      · refine zW_iload_n (pc' := 125) dX5_laid_3.2.1.1 rfl rfl ?_
        exact zV_iret rfl dX5_laid_3.2.1.2 ⟨rfl, by omega⟩
      · refine zW_iload_n (pc' := 121) dX5_laid_3.1.2.1 rfl rfl ?_
        refine zV_goto 125 dX5_laid_3.1.2.2 rfl ?_
        exact zV_iret rfl dX5_laid_3.2.1.2 ⟨rfl, by omega⟩
    · refine zW_iload_n (pc' := 127) dX5_laid_3.2.2.1 rfl rfl ?_
      exact zV_iret rfl dX5_laid_3.2.2.2 ⟨rfl, by omega⟩

abbrev q_X12_sceneE (κ : Hp) (x1 : Int) (x2 : Int) (x3 : Int) : Int → Hp → Prop := fun r h' => Fm [(1, 999), (10, 999), (0, 21), (0, 15), (0, 23)] κ h' ∧ (((0 ≤ r) ∧ (r ≤ 1) ∧ ((r = 1 ↔ (0 ≤ x1 ∧ x1 ≤ 6 ∧ 0 ≤ x2 ∧ x2 ≤ 255 ∧ 0 ≤ x3 ∧ x3 ≤ 255)) ∧ (r = 1 → x1 = 4 → h' 0 15 = drS (κ 0 15) (κ 0 11).toNat (κ 0 12).toNat) ∧ (r = 0 ∨ x1 ≠ 4 → h' 0 15 = κ 0 15)) ∧ (∀ j : Nat, (r = 1 → ((((j / 16 : Nat) : Int) < κ 0 12 ∧ ((j % 16 : Nat) : Int) < κ 0 11) → h' 1 j = scF x1 x2 x3 (κ 0 11) (κ 0 12) (κ 0 13) (κ 0 15) ((j % 16 : Nat) : Int) ((j / 16 : Nat) : Int) ∧ h' 10 j = 0) ∧ (¬ (((j / 16 : Nat) : Int) < κ 0 12 ∧ ((j % 16 : Nat) : Int) < κ 0 11) → h' 1 j = κ 1 j ∧ h' 10 j = κ 10 j)) ∧ (r = 0 → h' 1 j = κ 1 j ∧ h' 10 j = κ 10 j))) ∧ ChR κ h')
set_option maxHeartbeats 4000000 in
set_option maxRecDepth 20000 in
theorem s_X12_sceneE {G : Ga} {κ : Hp} (hS : SI κ) (hR : KR κ) (hC : KC κ) (x1 : Int) (hx1 : rng x1) (x2 : Int) (hx2 : rng x2) (x3 : Int) (hx3 : rng x3) : zM G mX12_scene yX12_scene [.inr (.inr 0), .inl x1, .inl x2, .inl x3] κ (q_X12_sceneE κ x1 x2 x3) := by
  have f_0_11 := KRw hR
  have f_0_12 := KRh hR
  have f_0_15 := KRl hR
  unfold rng at hx1
  unfold rng at hx2
  unfold rng at hx3
  have main : ∀ N : Nat, (∀ (v4 : Int) (h : Hp), Fm [(1, 999), (10, 999), (0, 21), (0, 15), (0, 23)] κ h → (0 ≤ x1 ∧ x1 ≤ 6) → (0 ≤ x2 ∧ x2 ≤ 255) → (0 ≤ x3 ∧ x3 ≤ 255) → (0 ≤ v4 ∧ v4 ≤ 16) → (v4 - κ 0 12 ≤ 0) → ((x1 = 4 → h 0 15 = drS (κ 0 15) (κ 0 11).toNat v4.toNat) ∧ (x1 ≠ 4 → h 0 15 = κ 0 15)) → (∀ j : Nat, ((((j / 16 : Nat) : Int) < v4 ∧ ((j % 16 : Nat) : Int) < κ 0 11) → h 1 j = scF x1 x2 x3 (κ 0 11) (κ 0 12) (κ 0 13) (κ 0 15) ((j % 16 : Nat) : Int) ((j / 16 : Nat) : Int) ∧ h 10 j = 0) ∧ (¬ (((j / 16 : Nat) : Int) < v4 ∧ ((j % 16 : Nat) : Int) < κ 0 11) → h 1 j = κ 1 j ∧ h 10 j = κ 10 j)) → 24144480 + 29808 * (16 - v4) + 29160 < (N : Int) → zV G mX12_scene (q_X12_sceneE κ x1 x2 x3) 37 [some (.inr (.inr 0)), some (.inl x1), some (.inl x2), some (.inl x3), some (.inl v4), none] [] h) ∧ (∀ (v4 v5 : Int) (h : Hp), Fm [(1, 999), (10, 999), (0, 21), (0, 15), (0, 23)] κ h → (0 ≤ x1 ∧ x1 ≤ 6) → (0 ≤ x2 ∧ x2 ≤ 255) → (0 ≤ x3 ∧ x3 ≤ 255) → (0 ≤ v4 ∧ v4 ≤ 15) → (v4 - κ 0 12 ≤ -1) → (0 ≤ v5 ∧ v5 ≤ 16) → (v5 - κ 0 11 ≤ 0) → ((x1 = 4 → h 0 15 = drR (drS (κ 0 15) (κ 0 11).toNat v4.toNat) v5.toNat) ∧ (x1 ≠ 4 → h 0 15 = κ 0 15)) → (∀ j : Nat, (((((j / 16 : Nat) : Int) < v4 ∧ ((j % 16 : Nat) : Int) < κ 0 11) ∨ (((j / 16 : Nat) : Int) = v4 ∧ ((j % 16 : Nat) : Int) < v5)) → h 1 j = scF x1 x2 x3 (κ 0 11) (κ 0 12) (κ 0 13) (κ 0 15) ((j % 16 : Nat) : Int) ((j / 16 : Nat) : Int) ∧ h 10 j = 0) ∧ (¬ ((((j / 16 : Nat) : Int) < v4 ∧ ((j % 16 : Nat) : Int) < κ 0 11) ∨ (((j / 16 : Nat) : Int) = v4 ∧ ((j % 16 : Nat) : Int) < v5)) → h 1 j = κ 1 j ∧ h 10 j = κ 10 j)) → 24144480 + 29808 * (16 - v4) + 22680 + 36 * (16 - v5) + 35 < (N : Int) → zV G mX12_scene (q_X12_sceneE κ x1 x2 x3) 49 [some (.inr (.inr 0)), some (.inl x1), some (.inl x2), some (.inl x3), some (.inl v4), some (.inl v5)] [] h) := by
    intro N
    induction N with
    | zero =>
      refine ⟨?_, ?_⟩
      · intro v4 h hF g0 g1 g2 g3 g4 gc0 gc1 hm
        exfalso; omega
      · intro v4 v5 h hF g0 g1 g2 g3 g4 g5 g6 gc0 gc1 hm
        exfalso; omega
    | succ N ih =>
      obtain ⟨k37, k49⟩ := ih
      refine ⟨?_, ?_⟩
      · intro v4 h hF g0 g1 g2 g3 g4 gc0 gc1 hm
        refine zW_iload (pc' := 39) dX12_scene_1.1.1.2.2 rfl rfl ?_
        refine zW_aload_n (pc' := 40) dX12_scene_1.1.2.1.1 rfl rfl ?_
        refine zGm (pc' := 43) hF rfl rfl fg_X12_103 tb0 rfl dX12_scene_1.1.2.1.2 rfl ?_
        refine zV_cm_ge (tgt := 108) (pc' := 46) dX12_scene_1.1.2.2.1 rfl rfl ⟨by omega, by omega⟩ ⟨by omega, by omega⟩ (fun c43 => ?_) (fun c43 => ?_)
        · refine zW_aload_n (pc' := 109) dX12_scene_3.2.1.2 rfl rfl ?_
          refine cvV0 (pc' := 112) kX12_changed vX12_changed lk_X12_215 ⟨Nat.le_of_ble_eq_true rfl, Nat.le_of_ble_eq_true rfl⟩ tb0 vq12 rfl rfl (s_X12_changed hF.2.1 hF.2.2.1 hF.2.2.2) dX12_scene_3.2.2.1.1 (Nat.le_of_ble_eq_true rfl) rfl ?_
          rintro r109 h ⟨hF1, p109⟩; replace hF := hF.tr hF1 rfl
          have f109_1 := fun j : Nat => hF1.1 1 j rfl rfl
          have f109_10 := fun j : Nat => hF1.1 10 j rfl rfl
          have t109_0_15 := hF1.1 0 15 rfl rfl
          have v4H : v4 = κ 0 12 := by omega
          rw [v4H] at gc0
          refine zW_iconst (pc' := 113) dX12_scene_3.2.2.1.2 rfl ?_
          exact zV_zret rfl (by omega) dX12_scene_3.2.2.2 ⟨hF, ⟨⟨by omega, by omega, by omega, (fun j => by have q0 := gc1 j; have q1 := f109_1 j; have q2 := f109_10 j; omega)⟩, (by first | exact Or.inl (by omega) | exact Or.inr hU | exact Or.inr (by rw [hk0]; exact UnR.rf))⟩⟩
        · refine zW_iconst (pc' := 47) dX12_scene_1.1.2.2.2 rfl ?_
          refine zW_istore (ls' := [_, _, _, _, _, _]) (pc' := 49) dX12_scene_1.2.1.1.1 (by decide) rfl rfl rfl ?_
          exact k49 _ _ _ hF (by omega) (by omega) (by omega) (by omega) (by omega) (by omega) (by omega) (by first | exact gc0 | (refine ⟨fun e => ?_, by omega⟩; have z := gc0.1 e; rw [drR_step (by omega), ← z]; have y := s83.1 e; show _ = (25173 * _ + 13849) % 65536; omega)) (fun j => by have q0 := gc1 j; omega) (by omega)
      · intro v4 v5 h hF g0 g1 g2 g3 g4 g5 g6 gc0 gc1 hm
        refine zW_iload (pc' := 51) dX12_scene_1.2.1.1.2 rfl rfl ?_
        refine zW_aload_n (pc' := 52) dX12_scene_1.2.1.2.1 rfl rfl ?_
        refine zGm (pc' := 55) hF rfl rfl fg_X12_99 tb0 rfl dX12_scene_1.2.1.2.2 rfl ?_
        refine zV_cm_ge (tgt := 102) (pc' := 58) dX12_scene_1.2.2.1.1 rfl rfl ⟨by omega, by omega⟩ ⟨by omega, by omega⟩ (fun c55 => ?_) (fun c55 => ?_)
        · refine zW_iinc (ls' := [_, _, _, _, _, _]) (pc' := 105) dX12_scene_3.2.1.1.1 rfl (by decide) rfl rfl rfl ?_
          refine zV_goto 37 dX12_scene_3.2.1.1.2 rfl ?_
          refine zV_clr 5 (ls' := [_, _, _, _, _, _]) rfl ?_
          exact k37 _ _ hF (by omega) (by omega) (by omega) (by omega) (by omega) (by first | exact ⟨fun _ => y0_0_15, fun _ => y0_0_15⟩ | (refine ⟨fun e => ?_, by omega⟩; have z := gc0.1 e; rw [drS_step (by omega), show (κ 0 11).toNat = v5.toNat by omega]; rw [show (κ 0 11).toNat = v5.toNat by omega] at z; exact z)) (fun j => by have q0 := gc1 j; omega) (by omega)
        · refine zW_aload_n (pc' := 59) dX12_scene_1.2.2.1.2 rfl rfl ?_
          refine zG_ref (pc' := 62) 1 fg_X12_7 tb0 rfl dX12_scene_1.2.2.2.1 rfl ?_
          refine zW_bipush (pc' := 64) dX12_scene_1.2.2.2.2 rfl rfl ?_
          refine zW_iload (pc' := 66) dX12_scene_2.1.1.1.1 rfl rfl ?_
          refine zW_imul (pc' := 67) dX12_scene_2.1.1.1.2 rfl ?_
          refine zW_iload (pc' := 69) dX12_scene_2.1.1.2.1 rfl rfl ?_
          refine zW_iadd (pc' := 70) dX12_scene_2.1.1.2.2 rfl ?_
          refine zW_aload_n (pc' := 71) dX12_scene_2.1.2.1.1 rfl rfl ?_
          refine zW_iload_n (pc' := 72) dX12_scene_2.1.2.1.2 rfl rfl ?_
          refine zW_iload_n (pc' := 73) dX12_scene_2.1.2.2.1 rfl rfl ?_
          refine zW_iload_n (pc' := 74) dX12_scene_2.1.2.2.2 rfl rfl ?_
          refine zW_iload (pc' := 76) dX12_scene_2.2.1.1.1 rfl rfl ?_
          refine zW_iload (pc' := 78) dX12_scene_2.2.1.1.2 rfl rfl ?_
          have y78_0_11 := hF.1 0 11 rfl rfl
          have y78_0_12 := hF.1 0 12 rfl rfl
          have y78_0_13 := hF.1 0 13 rfl rfl
          refine cvI5 (pc' := 81) kX12_sceneAt vX12_sceneAt lk_X12_228 ⟨Nat.le_of_ble_eq_true rfl, Nat.le_of_ble_eq_true rfl⟩ tb0 vq12 rfl rfl (s_X12_sceneAtE hF.2.1 hF.2.2.1 hF.2.2.2 _ ⟨by omega, by omega⟩ _ ⟨by omega, by omega⟩ _ ⟨by omega, by omega⟩ _ ⟨by omega, by omega, by omega⟩ _ ⟨by omega, by omega, by omega⟩) dX12_scene_2.2.1.2.1 (Nat.le_of_ble_eq_true rfl) rfl ?_
          rintro r78 h ⟨hF1, p78⟩; replace hF := hF.tr hF1 rfl
          have f78_1 := fun j : Nat => hF1.1 1 j rfl rfl
          have f78_10 := fun j : Nat => hF1.1 10 j rfl rfl
          have t78_0_23 := hF1.1 0 23 rfl rfl
          have s81 : r78 = scF x1 x2 x3 (κ 0 11) (κ 0 12) (κ 0 13) (κ 0 15) v5 v4 := scF_of (by omega) (fun e => by have z := gc0.1 e; rw [← z]; exact (p78.2.2.1.1 e).2) (by have z := p78.2.2.2; rw [y78_0_11, y78_0_12, y78_0_13] at z; exact z)
          have s83 := And.intro (fun e => (p78.2.2.1.1 e).1) p78.2.2.1.2
          have s84 := And.intro p78.1 p78.2.1
          clear p78
          refine zSm (pc' := 82) hF rfl (fun v' hv he => ⟨(SI_irr hF.2.1 (Or.inl (key_of rfl _)) (fun _ _ => hv)), (KR_irr hF.2.2.1 rfl), (KC_irr hF.2.2.2 rfl)⟩) tb1 (by omega) dX12_scene_2.2.1.2.2 (by decide) rfl (fun h i81 hF a81 b81 w81 => ?_)
          have a81_1 := fun j : Nat => zwr_pt (congrFun (congrFun w81 1) j)
          have a81_10 := fun j : Nat => (congrFun (congrFun w81 10) j).trans (zwr_ne (Or.inl (by decide)))
          replace b81 := b81 ⟨by omega, by omega⟩
          have t81_0_15 := congrFun (congrFun w81 0) 15
          rw [zwr_ne (Or.inl (by decide))] at t81_0_15
          have t81_0_23 := congrFun (congrFun w81 0) 23
          rw [zwr_ne (Or.inl (by decide))] at t81_0_23
          refine zW_aload_n (pc' := 83) dX12_scene_2.2.2.1.1 rfl rfl ?_
          refine zG_ref (pc' := 86) 10 fg_X12_37 tb0 rfl dX12_scene_2.2.2.1.2 rfl ?_
          refine zW_bipush (pc' := 88) dX12_scene_2.2.2.2.1 rfl rfl ?_
          refine zW_iload (pc' := 90) dX12_scene_2.2.2.2.2 rfl rfl ?_
          refine zW_imul (pc' := 91) dX12_scene_3.1.1.1.1 rfl ?_
          refine zW_iload (pc' := 93) dX12_scene_3.1.1.1.2 rfl rfl ?_
          refine zW_iadd (pc' := 94) dX12_scene_3.1.1.2.1 rfl ?_
          refine zW_iconst (pc' := 95) dX12_scene_3.1.1.2.2 rfl ?_
          refine zSmz (pc' := 96) hF rfl ⟨(SI_irr hF.2.1 (Or.inl (key_of rfl _)) (fun _ _ => ⟨by omega, by omega⟩)), (KR_c10 hF.2.2.1 (by omega)), (KC_irr hF.2.2.2 rfl)⟩ tb10 (by omega) (by omega) dX12_scene_3.1.2.1.1 (by decide) rfl (fun h hF w95 => ?_)
          have a95_1 := fun j : Nat => (congrFun (congrFun w95 1) j).trans (zwr_ne (Or.inl (by decide)))
          have a95_10 := fun j : Nat => zwr_pt (congrFun (congrFun w95 10) j)
          have t95_0_15 := congrFun (congrFun w95 0) 15
          rw [zwr_ne (Or.inl (by decide))] at t95_0_15
          have t95_0_23 := congrFun (congrFun w95 0) 23
          rw [zwr_ne (Or.inl (by decide))] at t95_0_23
          refine zW_iinc (ls' := [_, _, _, _, _, _]) (pc' := 99) dX12_scene_3.1.2.1.2 rfl (by decide) rfl rfl rfl ?_
          refine zV_goto 49 dX12_scene_3.1.2.2 rfl ?_
          exact k49 _ _ _ hF (by omega) (by omega) (by omega) (by omega) (by omega) (by omega) (by omega) (by first | exact gc0 | (refine ⟨fun e => ?_, by omega⟩; have z := gc0.1 e; rw [drR_step (by omega), ← z]; have y := s83.1 e; show _ = (25173 * _ + 13849) % 65536; omega)) (fun j => by have q0 := gc1 j; have q1 := f78_1 j; have q2 := f78_10 j; have q3 := a81_1 j; have q4 := a81_10 j; have q5 := a95_1 j; have q6 := a95_10 j; by_cases ej : j = (16 * v4 + v5).toNat; (have e1 : ((j % 16 : Nat) : Int) = v5 := (by omega); have e2 : ((j / 16 : Nat) : Int) = v4 := (by omega); rw [e1, e2, ← s81]; omega); omega) (by omega)
  refine zM_of [some (.inr (.inr 0)), some (.inl x1), some (.inl x2), some (.inl x3), none, none] 2 rfl rfl (Nat.le_of_ble_eq_true rfl) rfl ?_
  refine (show ∀ h : Hp, Fm [(1, 999), (10, 999), (0, 21), (0, 15), (0, 23)] κ h → h = κ → zV G mX12_scene (q_X12_sceneE κ x1 x2 x3) 0 [some (.inr (.inr 0)), some (.inl x1), some (.inl x2), some (.inl x3), none, none] [] h from fun h hF hk0 => ?_) κ (Fm.rf hS hR hC) rfl
  have y0_0_15 : h 0 15 = κ 0 15 := by rw [hk0]
  have a0_1 := fun j : Nat => congrFun (congrFun hk0 1) j
  have a0_10 := fun j : Nat => congrFun (congrFun hk0 10) j
  refine zW_iload_n (pc' := 1) dX12_scene_0.1.1.1.1 rfl rfl ?_
  refine zW_iconst (pc' := 2) dX12_scene_0.1.1.1.2 rfl ?_
  refine zW_bipush (pc' := 4) dX12_scene_0.1.1.2.1 rfl rfl ?_
  refine csI3 (pc' := 7) kX12_in vX12_in lk_X12_140 ⟨Nat.le_of_ble_eq_true rfl, Nat.le_of_ble_eq_true rfl⟩ rfl (s_X12_inR (b := bdB true) (κ := h) (Fr.rf hF.2.1) _ ⟨by omega, by omega⟩ _ ⟨by omega, by omega⟩ _ ⟨by omega, by omega⟩) dX12_scene_0.1.1.2.2 (Nat.le_of_ble_eq_true rfl) rfl ?_
  rintro r4 z4 ⟨hz4, p4⟩; subst z4
  refine zV_if_eq (tgt := 32) (pc' := 10) dX12_scene_0.1.2.1.1 rfl rfl ⟨by omega, by omega⟩ (fun c7 => ?_) (fun c7 => ?_)
  · refine zW_iconst (pc' := 33) dX12_scene_0.2.2.2.2 rfl ?_
    exact zV_zret rfl (by omega) dX12_scene_1.1.1.1.1 ⟨hF, ⟨⟨by omega, by omega, by omega, (fun j => by have q0 := a0_1 j; have q1 := a0_10 j; omega)⟩, (by first | exact Or.inl (by omega) | exact Or.inr hU | exact Or.inr (by rw [hk0]; exact UnR.rf))⟩⟩
  · refine zW_iload_n (pc' := 11) dX12_scene_0.1.2.1.2 rfl rfl ?_
    refine zW_iconst (pc' := 12) dX12_scene_0.1.2.2.1 rfl ?_
    refine zW_sipush (pc' := 15) dX12_scene_0.1.2.2.2 rfl rfl ?_
    refine csI3 (pc' := 18) kX12_in vX12_in lk_X12_140 ⟨Nat.le_of_ble_eq_true rfl, Nat.le_of_ble_eq_true rfl⟩ rfl (s_X12_inR (b := bdB true) (κ := h) (Fr.rf hF.2.1) _ ⟨by omega, by omega⟩ _ ⟨by omega, by omega⟩ _ ⟨by omega, by omega⟩) dX12_scene_0.2.1.1.1 (Nat.le_of_ble_eq_true rfl) rfl ?_
    rintro r15 z15 ⟨hz15, p15⟩; subst z15
    refine zV_if_eq (tgt := 32) (pc' := 21) dX12_scene_0.2.1.1.2 rfl rfl ⟨by omega, by omega⟩ (fun c18 => ?_) (fun c18 => ?_)
    · refine zW_iconst (pc' := 33) dX12_scene_0.2.2.2.2 rfl ?_
      exact zV_zret rfl (by omega) dX12_scene_1.1.1.1.1 ⟨hF, ⟨⟨by omega, by omega, by omega, (fun j => by have q0 := a0_1 j; have q1 := a0_10 j; omega)⟩, (by first | exact Or.inl (by omega) | exact Or.inr hU | exact Or.inr (by rw [hk0]; exact UnR.rf))⟩⟩
    · refine zW_iload_n (pc' := 22) dX12_scene_0.2.1.2.1 rfl rfl ?_
      refine zW_iconst (pc' := 23) dX12_scene_0.2.1.2.2 rfl ?_
      refine zW_sipush (pc' := 26) dX12_scene_0.2.2.1.1 rfl rfl ?_
      refine csI3 (pc' := 29) kX12_in vX12_in lk_X12_140 ⟨Nat.le_of_ble_eq_true rfl, Nat.le_of_ble_eq_true rfl⟩ rfl (s_X12_inR (b := bdB true) (κ := h) (Fr.rf hF.2.1) _ ⟨by omega, by omega⟩ _ ⟨by omega, by omega⟩ _ ⟨by omega, by omega⟩) dX12_scene_0.2.2.1.2 (Nat.le_of_ble_eq_true rfl) rfl ?_
      rintro r26 z26 ⟨hz26, p26⟩; subst z26
      refine zV_if_ne (tgt := 34) (pc' := 32) dX12_scene_0.2.2.2.1 rfl rfl ⟨by omega, by omega⟩ (fun c29 => ?_) (fun c29 => ?_)
      · refine zW_iconst (pc' := 35) dX12_scene_1.1.1.1.2 rfl ?_
        refine zW_istore (ls' := [_, _, _, _, _, _]) (pc' := 37) dX12_scene_1.1.1.2.1 (by decide) rfl rfl rfl ?_
        exact (main 10000000000000000000000000000000000000000).1 _ _ hF (by omega) (by omega) (by omega) (by omega) (by omega) (by first | exact ⟨fun _ => y0_0_15, fun _ => y0_0_15⟩ | (refine ⟨fun e => ?_, by omega⟩; have z := gc0.1 e; rw [drS_step (by omega), show (κ 0 11).toNat = v5.toNat by omega]; rw [show (κ 0 11).toNat = v5.toNat by omega] at z; exact z)) (fun j => by have q0 := a0_1 j; have q1 := a0_10 j; omega) (by omega)
      · refine zW_iconst (pc' := 33) dX12_scene_0.2.2.2.2 rfl ?_
        exact zV_zret rfl (by omega) dX12_scene_1.1.1.1.1 ⟨hF, ⟨⟨by omega, by omega, by omega, (fun j => by have q0 := a0_1 j; have q1 := a0_10 j; omega)⟩, (by first | exact Or.inl (by omega) | exact Or.inr hU | exact Or.inr (by rw [hk0]; exact UnR.rf))⟩⟩

abbrev q_X11_sceneE (κ : Hp) (x1 : Int) (x2 : Int) (x3 : Int) : Int → Hp → Prop := fun r h' => Fm [(34, 999), (35, 999), (39, 1), (30, 12), (54, 7)] κ h' ∧ (((0 ≤ r) ∧ (r ≤ 1) ∧ ((r = 1 ↔ (0 ≤ x1 ∧ x1 ≤ 6 ∧ 0 ≤ x2 ∧ x2 ≤ 255 ∧ 0 ≤ x3 ∧ x3 ≤ 255)) ∧ (r = 1 → x1 = 4 → h' 30 12 = drS (κ 30 12) (κ 33 0).toNat (κ 33 1).toNat) ∧ (r = 0 ∨ x1 ≠ 4 → h' 30 12 = κ 30 12)) ∧ (∀ j : Nat, (r = 1 → (j < 256 → h' 35 j = 0) ∧ ((((j / 16 : Nat) : Int) < κ 33 1 ∧ ((j % 16 : Nat) : Int) < κ 33 0) → h' 34 j = scF x1 x2 x3 (κ 33 0) (κ 33 1) (κ 33 2) (κ 30 12) ((j % 16 : Nat) : Int) ((j / 16 : Nat) : Int)) ∧ (¬ (((j / 16 : Nat) : Int) < κ 33 1 ∧ ((j % 16 : Nat) : Int) < κ 33 0) → h' 34 j = κ 34 j)) ∧ (r = 0 → h' 34 j = κ 34 j ∧ h' 35 j = κ 35 j))) ∧ ChC κ h')
set_option maxHeartbeats 4000000 in
set_option maxRecDepth 20000 in
theorem s_X11_sceneE {G : Ga} {κ : Hp} (hS : SI κ) (hR : KR κ) (hC : KC κ) (x1 : Int) (hx1 : rng x1) (x2 : Int) (hx2 : rng x2) (x3 : Int) (hx3 : rng x3) (hev : Ev κ) : zM G mX11_scene yX11_scene [.inr (.inr 30), .inl x1, .inl x2, .inl x3] κ (q_X11_sceneE κ x1 x2 x3) := by
  have f_30_12 := KCc hC
  have f_33_0 := KCw hC
  have f_33_1 := KCh hC
  have f_36_0 := KCk0 hC
  have f_36_1 := KCk1 hC
  unfold rng at hx1
  unfold rng at hx2
  unfold rng at hx3
  have main : ∀ N : Nat, (∀ (v4 : Int) (h : Hp), Fm [(34, 999), (35, 999), (39, 1), (30, 12), (54, 7)] κ h → (0 ≤ x1 ∧ x1 ≤ 6) → (0 ≤ x2 ∧ x2 ≤ 255) → (0 ≤ x3 ∧ x3 ≤ 255) → (0 ≤ v4 ∧ v4 ≤ 16) → (v4 - κ 33 1 ≤ 0) → ((x1 = 4 → h 30 12 = drS (κ 30 12) (κ 33 0).toNat v4.toNat) ∧ (x1 ≠ 4 → h 30 12 = κ 30 12)) → (∀ j : Nat, h 35 j = κ 35 j ∧ ((((j / 16 : Nat) : Int) < v4 ∧ ((j % 16 : Nat) : Int) < κ 33 0) → h 34 j = scF x1 x2 x3 (κ 33 0) (κ 33 1) (κ 33 2) (κ 30 12) ((j % 16 : Nat) : Int) ((j / 16 : Nat) : Int)) ∧ (¬ (((j / 16 : Nat) : Int) < v4 ∧ ((j % 16 : Nat) : Int) < κ 33 0) → h 34 j = κ 34 j)) → 32651424 + 35568 * (16 - v4) + 34884 < (N : Int) → zV G mX11_scene (q_X11_sceneE κ x1 x2 x3) 34 [some (.inr (.inr 30)), some (.inl x1), some (.inl x2), some (.inl x3), some (.inl v4), none] [] h) ∧ (∀ (v4 v5 : Int) (h : Hp), Fm [(34, 999), (35, 999), (39, 1), (30, 12), (54, 7)] κ h → (0 ≤ x1 ∧ x1 ≤ 6) → (0 ≤ x2 ∧ x2 ≤ 255) → (0 ≤ x3 ∧ x3 ≤ 255) → (0 ≤ v4 ∧ v4 ≤ 15) → (v4 - κ 33 1 ≤ -1) → (0 ≤ v5 ∧ v5 ≤ 16) → (v5 - κ 33 0 ≤ 0) → ((x1 = 4 → h 30 12 = drR (drS (κ 30 12) (κ 33 0).toNat v4.toNat) v5.toNat) ∧ (x1 ≠ 4 → h 30 12 = κ 30 12)) → (∀ j : Nat, h 35 j = κ 35 j ∧ (((((j / 16 : Nat) : Int) < v4 ∧ ((j % 16 : Nat) : Int) < κ 33 0) ∨ (((j / 16 : Nat) : Int) = v4 ∧ ((j % 16 : Nat) : Int) < v5)) → h 34 j = scF x1 x2 x3 (κ 33 0) (κ 33 1) (κ 33 2) (κ 30 12) ((j % 16 : Nat) : Int) ((j / 16 : Nat) : Int)) ∧ (¬ ((((j / 16 : Nat) : Int) < v4 ∧ ((j % 16 : Nat) : Int) < κ 33 0) ∨ (((j / 16 : Nat) : Int) = v4 ∧ ((j % 16 : Nat) : Int) < v5)) → h 34 j = κ 34 j)) → 32651424 + 35568 * (16 - v4) + 25308 + 38 * (16 - v5) + 37 < (N : Int) → zV G mX11_scene (q_X11_sceneE κ x1 x2 x3) 49 [some (.inr (.inr 30)), some (.inl x1), some (.inl x2), some (.inl x3), some (.inl v4), some (.inl v5)] [] h) := by
    intro N
    induction N with
    | zero =>
      refine ⟨?_, ?_⟩
      · intro v4 h hF g0 g1 g2 g3 g4 gc0 gc1 hm
        exfalso; omega
      · intro v4 v5 h hF g0 g1 g2 g3 g4 g5 g6 gc0 gc1 hm
        exfalso; omega
    | succ N ih =>
      obtain ⟨k34, k49⟩ := ih
      refine ⟨?_, ?_⟩
      · intro v4 h hF g0 g1 g2 g3 g4 gc0 gc1 hm
        refine zW_iload (pc' := 36) dX11_scene_1.1.1.1.1 rfl rfl ?_
        refine zW_aload_n (pc' := 37) dX11_scene_1.1.1.1.2 rfl rfl ?_
        refine zG_ref (pc' := 40) 33 fg_X11_19 tb30 rfl dX11_scene_1.1.1.2.1 rfl ?_
        refine zGm (pc' := 43) hF rfl rfl fg_X11_127 tb33 rfl dX11_scene_1.1.1.2.2 rfl ?_
        refine zV_cm_ge (tgt := 117) (pc' := 46) dX11_scene_1.1.2.1.1 rfl rfl ⟨by omega, by omega⟩ ⟨by omega, by omega⟩ (fun c43 => ?_) (fun c43 => ?_)
        · have v4H : v4 = κ 33 1 := by omega
          rw [v4H] at gc0
          refine zW_aload_n (pc' := 118) dX11_scene_3.2.1.1.2 rfl rfl ?_
          refine zG_ref (pc' := 121) 33 fg_X11_19 tb30 rfl dX11_scene_3.2.1.2.1 rfl ?_
          refine cvV0 (pc' := 124) kX5_wake vX5_wake lk_X11_158 ⟨Nat.le_of_ble_eq_true rfl, Nat.le_of_ble_eq_true rfl⟩ tb33 vq5 rfl rfl (s_X5_wakeE hF.2.1 hF.2.2.1 hF.2.2.2) dX11_scene_3.2.1.2.2 (Nat.le_of_ble_eq_true rfl) rfl ?_
          rintro r121 h ⟨hF1, p121⟩; replace hF := hF.tr hF1 rfl
          have a121_0 := p121
          have f121_34 := fun j : Nat => hF1.1 34 j rfl rfl
          have t121_30_12 := hF1.1 30 12 rfl rfl
          have t121_54_7 := hF1.1 54 7 rfl rfl
          refine zW_aload_n (pc' := 125) dX11_scene_3.2.2.1.1 rfl rfl ?_
          refine cvV0 (pc' := 128) kX11_rawChanged vX11_rawChanged lk_X11_124 ⟨Nat.le_of_ble_eq_true rfl, Nat.le_of_ble_eq_true rfl⟩ tb30 vq11 rfl rfl (s_X11_rawChanged hF.2.1 hF.2.2.1 hF.2.2.2) dX11_scene_3.2.2.1.2 (Nat.le_of_ble_eq_true rfl) rfl ?_
          rintro r125 h ⟨hF1, p125⟩; replace hF := hF.tr hF1 rfl
          have f125_34 := fun j : Nat => hF1.1 34 j rfl rfl
          have f125_35 := fun j : Nat => hF1.1 35 j rfl rfl
          have t125_30_12 := hF1.1 30 12 rfl rfl
          refine zW_iconst (pc' := 129) dX11_scene_3.2.2.2.1 rfl ?_
          exact zV_zret rfl (by omega) dX11_scene_3.2.2.2.2 ⟨hF, ⟨⟨by omega, by omega, by omega, (fun j => by have q0 := gc1 j; have q1 := a121_0 j; have q2 := f121_34 j; have q3 := f125_34 j; have q4 := f125_35 j; omega)⟩, (by first | exact Or.inl (by omega) | exact Or.inr hU | exact Or.inr (by rw [hk0]; exact UnC.rf))⟩⟩
        · refine zW_iconst (pc' := 47) dX11_scene_1.1.2.1.2 rfl ?_
          refine zW_istore (ls' := [_, _, _, _, _, _]) (pc' := 49) dX11_scene_1.1.2.2.1 (by decide) rfl rfl rfl ?_
          exact k49 _ _ _ hF (by omega) (by omega) (by omega) (by omega) (by omega) (by omega) (by omega) (by first | exact gc0 | (refine ⟨fun e => ?_, by omega⟩; have z := gc0.1 e; rw [drR_step (by omega), ← z]; show _ = (25173 * _ + 13849) % 65536; omega)) (fun j => by have q0 := gc1 j; omega) (by omega)
      · intro v4 v5 h hF g0 g1 g2 g3 g4 g5 g6 gc0 gc1 hm
        refine zW_iload (pc' := 51) dX11_scene_1.1.2.2.2 rfl rfl ?_
        refine zW_aload_n (pc' := 52) dX11_scene_1.2.1.1.1 rfl rfl ?_
        refine zG_ref (pc' := 55) 33 fg_X11_19 tb30 rfl dX11_scene_1.2.1.1.2 rfl ?_
        refine zGm (pc' := 58) hF rfl rfl fg_X11_130 tb33 rfl dX11_scene_1.2.1.2.1 rfl ?_
        refine zV_cm_ge (tgt := 111) (pc' := 61) dX11_scene_1.2.1.2.2 rfl rfl ⟨by omega, by omega⟩ ⟨by omega, by omega⟩ (fun c58 => ?_) (fun c58 => ?_)
        · refine zW_iinc (ls' := [_, _, _, _, _, _]) (pc' := 114) dX11_scene_3.1.2.2.2 rfl (by decide) rfl rfl rfl ?_
          refine zV_goto 34 dX11_scene_3.2.1.1.1 rfl ?_
          refine zV_clr 5 (ls' := [_, _, _, _, _, _]) rfl ?_
          exact k34 _ _ hF (by omega) (by omega) (by omega) (by omega) (by omega) (by first | exact ⟨fun _ => y0_30_12, fun _ => y0_30_12⟩ | (refine ⟨fun e => ?_, by omega⟩; have z := gc0.1 e; rw [drS_step (by omega), show (κ 33 0).toNat = v5.toNat by omega]; rw [show (κ 33 0).toNat = v5.toNat by omega] at z; exact z)) (fun j => by have q0 := gc1 j; omega) (by omega)
        · refine zW_aload_n (pc' := 62) dX11_scene_1.2.2.1.1 rfl rfl ?_
          refine zG_ref (pc' := 65) 33 fg_X11_19 tb30 rfl dX11_scene_1.2.2.1.2 rfl ?_
          refine zG_ref (pc' := 68) 34 fg_X11_133 tb33 rfl dX11_scene_1.2.2.2.1 rfl ?_
          refine zW_iload (pc' := 70) dX11_scene_1.2.2.2.2 rfl rfl ?_
          refine zW_bipush (pc' := 72) dX11_scene_2.1.1.1.1 rfl rfl ?_
          refine zW_imul (pc' := 73) dX11_scene_2.1.1.1.2 rfl ?_
          refine zW_iload (pc' := 75) dX11_scene_2.1.1.2.1 rfl rfl ?_
          refine zW_iadd (pc' := 76) dX11_scene_2.1.1.2.2 rfl ?_
          refine zW_iload_n (pc' := 77) dX11_scene_2.1.2.1.1 rfl rfl ?_
          refine zW_iconst (pc' := 78) dX11_scene_2.1.2.1.2 rfl ?_
          refine zV_cm_ne (tgt := 90) (pc' := 81) dX11_scene_2.1.2.2.1 rfl rfl ⟨by omega, by omega⟩ ⟨by omega, by omega⟩ (fun c78 => ?_) (fun c78 => ?_)
          · refine zW_aload_n (pc' := 91) dX11_scene_2.2.2.1.1 rfl rfl ?_
            refine zG_ref (pc' := 94) 33 fg_X11_19 tb30 rfl dX11_scene_2.2.2.1.2 rfl ?_
            refine zW_iload_n (pc' := 95) dX11_scene_2.2.2.2.1 rfl rfl ?_
            refine zW_iload_n (pc' := 96) dX11_scene_2.2.2.2.2 rfl rfl ?_
            refine zW_iload_n (pc' := 97) dX11_scene_3.1.1.1.1 rfl rfl ?_
            refine zW_iload (pc' := 99) dX11_scene_3.1.1.1.2 rfl rfl ?_
            refine zW_iload (pc' := 101) dX11_scene_3.1.1.2.1 rfl rfl ?_
            have hk6 : 0 ≤ x1 ∧ x1 ≤ 6 := ⟨by omega, by omega⟩
            have y0 := hF.1 33 0 rfl rfl; have y1 := hF.1 33 1 rfl rfl; have y2 := hF.1 33 2 rfl rfl
            have y101_33_0 := hF.1 33 0 rfl rfl
            have y101_33_1 := hF.1 33 1 rfl rfl
            have y101_33_2 := hF.1 33 2 rfl rfl
            refine cvI5 (pc' := 104) kX5_laid vX5_laid lk_X11_154 ⟨Nat.le_of_ble_eq_true rfl, Nat.le_of_ble_eq_true rfl⟩ tb33 vq5 rfl rfl (s_X5_laidE (b := bdB true) (κ := h) hF.2.2.2 (Fr.rf hF.2.1) _ ⟨by omega, by omega⟩ _ ⟨by omega, by omega⟩ _ ⟨by omega, by omega⟩ _ ⟨by omega, by omega, by omega⟩ _ ⟨by omega, by omega, by omega⟩ (show Ev h from ⟨by rw [y0]; exact hev.1, by rw [y1]; exact hev.2⟩)) dX11_scene_3.1.1.2.2 (Nat.le_of_ble_eq_true rfl) rfl ?_
            rintro r101 z101 ⟨hz101, p101⟩; subst z101
            first | have s81 : r101 = scF x1 x2 x3 (κ 33 0) (κ 33 1) (κ 33 2) (κ 30 12) v5 v4 := scF_of hk6 (fun e => absurd e c78) (by have z := p101.2.2; rw [y0, y1, y2] at z; exact z) | skip
            first | (have s84 := And.intro p101.1 p101.2.1; clear p101) | skip
            refine zSm (pc' := 105) hF rfl (fun v' hv he => ⟨(SI_irr hF.2.1 (Or.inl (key_of rfl _)) (fun _ _ => hv)), (KR_irr hF.2.2.1 rfl), (KC_irr hF.2.2.2 rfl)⟩) tb34 (by omega) dX11_scene_3.1.2.1.1 (by decide) rfl (fun h i104 hF a104 b104 w104 => ?_)
            have a104_34 := fun j : Nat => zwr_pt (congrFun (congrFun w104 34) j)
            have a104_35 := fun j : Nat => (congrFun (congrFun w104 35) j).trans (zwr_ne (Or.inl (by decide)))
            replace b104 := b104 ⟨by omega, by omega⟩
            have t104_30_12 := congrFun (congrFun w104 30) 12
            rw [zwr_ne (Or.inl (by decide))] at t104_30_12
            have t104_54_7 := congrFun (congrFun w104 54) 7
            rw [zwr_ne (Or.inl (by decide))] at t104_54_7
            refine zW_iinc (ls' := [_, _, _, _, _, _]) (pc' := 108) dX11_scene_3.1.2.1.2 rfl (by decide) rfl rfl rfl ?_
            refine zV_goto 49 dX11_scene_3.1.2.2.1 rfl ?_
            exact k49 _ _ _ hF (by omega) (by omega) (by omega) (by omega) (by omega) (by omega) (by omega) (by first | exact gc0 | (refine ⟨fun e => ?_, by omega⟩; have z := gc0.1 e; rw [drR_step (by omega), ← z]; show _ = (25173 * _ + 13849) % 65536; omega)) (fun j => by have q0 := gc1 j; have q1 := a104_34 j; have q2 := a104_35 j; by_cases ej : j = (v4 * 16 + v5).toNat; (have e1 : ((j % 16 : Nat) : Int) = v5 := (by omega); have e2 : ((j / 16 : Nat) : Int) = v4 := (by omega); rw [e1, e2, ← s81]; omega); omega) (by omega)
          · refine zW_aload_n (pc' := 82) dX11_scene_2.1.2.2.2 rfl rfl ?_
            refine zW_iload_n (pc' := 83) dX11_scene_2.2.1.1.1 rfl rfl ?_
            refine zW_iload_n (pc' := 84) dX11_scene_2.2.1.1.2 rfl rfl ?_
            refine cvI2 (pc' := 87) kX11_drawn vX11_drawn lk_X11_150 ⟨Nat.le_of_ble_eq_true rfl, Nat.le_of_ble_eq_true rfl⟩ tb30 vq11 rfl rfl (s_X11_drawnE hF.2.1 hF.2.2.1 hF.2.2.2 _ ⟨by omega, by omega⟩ _ ⟨by omega, by omega⟩) dX11_scene_2.2.1.2.1 (Nat.le_of_ble_eq_true rfl) rfl ?_
            rintro r84 h ⟨hF1, p84⟩; replace hF := hF.tr hF1 rfl
            have f84_34 := fun j : Nat => hF1.1 34 j rfl rfl
            have f84_35 := fun j : Nat => hF1.1 35 j rfl rfl
            have t84_54_7 := hF1.1 54 7 rfl rfl
            have e84 : x1 = 4 := by omega
            have s81 : r84 = scF x1 x2 x3 (κ 33 0) (κ 33 1) (κ 33 2) (κ 30 12) v5 v4 := by have z := gc0.1 e84; rw [scF_4 e84, ← z]; exact p84.2.2.2
            refine zV_goto 104 dX11_scene_2.2.1.2.2 rfl ?_
            first | have s81 : r101 = scF x1 x2 x3 (κ 33 0) (κ 33 1) (κ 33 2) (κ 30 12) v5 v4 := scF_of hk6 (fun e => absurd e c78) (by have z := p101.2.2; rw [y0, y1, y2] at z; exact z) | skip
            first | (have s84 := And.intro p101.1 p101.2.1; clear p101) | skip
            refine zSm (pc' := 105) hF rfl (fun v' hv he => ⟨(SI_irr hF.2.1 (Or.inl (key_of rfl _)) (fun _ _ => hv)), (KR_irr hF.2.2.1 rfl), (KC_irr hF.2.2.2 rfl)⟩) tb34 (by omega) dX11_scene_3.1.2.1.1 (by decide) rfl (fun h i104 hF a104 b104 w104 => ?_)
            have a104_34 := fun j : Nat => zwr_pt (congrFun (congrFun w104 34) j)
            have a104_35 := fun j : Nat => (congrFun (congrFun w104 35) j).trans (zwr_ne (Or.inl (by decide)))
            replace b104 := b104 ⟨by omega, by omega⟩
            have t104_30_12 := congrFun (congrFun w104 30) 12
            rw [zwr_ne (Or.inl (by decide))] at t104_30_12
            have t104_54_7 := congrFun (congrFun w104 54) 7
            rw [zwr_ne (Or.inl (by decide))] at t104_54_7
            refine zW_iinc (ls' := [_, _, _, _, _, _]) (pc' := 108) dX11_scene_3.1.2.1.2 rfl (by decide) rfl rfl rfl ?_
            refine zV_goto 49 dX11_scene_3.1.2.2.1 rfl ?_
            exact k49 _ _ _ hF (by omega) (by omega) (by omega) (by omega) (by omega) (by omega) (by omega) (by first | exact gc0 | (refine ⟨fun e => ?_, by omega⟩; have z := gc0.1 e; rw [drR_step (by omega), ← z]; show _ = (25173 * _ + 13849) % 65536; omega)) (fun j => by have q0 := gc1 j; have q1 := f84_34 j; have q2 := f84_35 j; have q3 := a104_34 j; have q4 := a104_35 j; by_cases ej : j = (v4 * 16 + v5).toNat; (have e1 : ((j % 16 : Nat) : Int) = v5 := (by omega); have e2 : ((j / 16 : Nat) : Int) = v4 := (by omega); rw [e1, e2, ← s81]; omega); omega) (by omega)
  refine zM_of [some (.inr (.inr 30)), some (.inl x1), some (.inl x2), some (.inl x3), none, none] 2 rfl rfl (Nat.le_of_ble_eq_true rfl) rfl ?_
  refine (show ∀ h : Hp, Fm [(34, 999), (35, 999), (39, 1), (30, 12), (54, 7)] κ h → h = κ → zV G mX11_scene (q_X11_sceneE κ x1 x2 x3) 0 [some (.inr (.inr 30)), some (.inl x1), some (.inl x2), some (.inl x3), none, none] [] h from fun h hF hk0 => ?_) κ (Fm.rf hS hR hC) rfl
  have y0_30_12 : h 30 12 = κ 30 12 := by rw [hk0]
  have a0_34 := fun j : Nat => congrFun (congrFun hk0 34) j
  have a0_35 := fun j : Nat => congrFun (congrFun hk0 35) j
  refine zW_iload_n (pc' := 1) dX11_scene_0.1.1.1.1 rfl rfl ?_
  refine zW_bipush (pc' := 3) dX11_scene_0.1.1.1.2 rfl rfl ?_
  refine csI2 (pc' := 6) kX11_isWithin vX11_isWithin lk_X11_116 ⟨Nat.le_of_ble_eq_true rfl, Nat.le_of_ble_eq_true rfl⟩ rfl (s_X11_isWithinR (b := bdB true) (κ := h) (Fr.rf hF.2.1) _ ⟨by omega, by omega⟩ _ ⟨by omega, by omega⟩) dX11_scene_0.1.1.2.1 (Nat.le_of_ble_eq_true rfl) rfl ?_
  rintro r3 z3 ⟨hz3, p3⟩; subst z3
  refine zV_if_eq (tgt := 29) (pc' := 9) dX11_scene_0.1.1.2.2 rfl rfl ⟨by omega, by omega⟩ (fun c6 => ?_) (fun c6 => ?_)
  · refine zW_iconst (pc' := 30) dX11_scene_0.2.2.1.1 rfl ?_
    exact zV_zret rfl (by omega) dX11_scene_0.2.2.1.2 ⟨hF, ⟨⟨by omega, by omega, by omega, (fun j => by have q0 := a0_34 j; have q1 := a0_35 j; omega)⟩, (by first | exact Or.inl (by omega) | exact Or.inr hU | exact Or.inr (by rw [hk0]; exact UnC.rf))⟩⟩
  · refine zW_iload_n (pc' := 10) dX11_scene_0.1.2.1.1 rfl rfl ?_
    refine zW_sipush (pc' := 13) dX11_scene_0.1.2.1.2 rfl rfl ?_
    refine csI2 (pc' := 16) kX11_isWithin vX11_isWithin lk_X11_116 ⟨Nat.le_of_ble_eq_true rfl, Nat.le_of_ble_eq_true rfl⟩ rfl (s_X11_isWithinR (b := bdB true) (κ := h) (Fr.rf hF.2.1) _ ⟨by omega, by omega⟩ _ ⟨by omega, by omega⟩) dX11_scene_0.1.2.2.1 (Nat.le_of_ble_eq_true rfl) rfl ?_
    rintro r13 z13 ⟨hz13, p13⟩; subst z13
    refine zV_if_eq (tgt := 29) (pc' := 19) dX11_scene_0.1.2.2.2 rfl rfl ⟨by omega, by omega⟩ (fun c16 => ?_) (fun c16 => ?_)
    · refine zW_iconst (pc' := 30) dX11_scene_0.2.2.1.1 rfl ?_
      exact zV_zret rfl (by omega) dX11_scene_0.2.2.1.2 ⟨hF, ⟨⟨by omega, by omega, by omega, (fun j => by have q0 := a0_34 j; have q1 := a0_35 j; omega)⟩, (by first | exact Or.inl (by omega) | exact Or.inr hU | exact Or.inr (by rw [hk0]; exact UnC.rf))⟩⟩
    · refine zW_iload_n (pc' := 20) dX11_scene_0.2.1.1.1 rfl rfl ?_
      refine zW_sipush (pc' := 23) dX11_scene_0.2.1.1.2 rfl rfl ?_
      refine csI2 (pc' := 26) kX11_isWithin vX11_isWithin lk_X11_116 ⟨Nat.le_of_ble_eq_true rfl, Nat.le_of_ble_eq_true rfl⟩ rfl (s_X11_isWithinR (b := bdB true) (κ := h) (Fr.rf hF.2.1) _ ⟨by omega, by omega⟩ _ ⟨by omega, by omega⟩) dX11_scene_0.2.1.2.1 (Nat.le_of_ble_eq_true rfl) rfl ?_
      rintro r23 z23 ⟨hz23, p23⟩; subst z23
      refine zV_if_ne (tgt := 31) (pc' := 29) dX11_scene_0.2.1.2.2 rfl rfl ⟨by omega, by omega⟩ (fun c26 => ?_) (fun c26 => ?_)
      · refine zW_iconst (pc' := 32) dX11_scene_0.2.2.2.1 rfl ?_
        refine zW_istore (ls' := [_, _, _, _, _, _]) (pc' := 34) dX11_scene_0.2.2.2.2 (by decide) rfl rfl rfl ?_
        exact (main 10000000000000000000000000000000000000000).1 _ _ hF (by omega) (by omega) (by omega) (by omega) (by omega) (by first | exact ⟨fun _ => y0_30_12, fun _ => y0_30_12⟩ | (refine ⟨fun e => ?_, by omega⟩; have z := gc0.1 e; rw [drS_step (by omega), show (κ 33 0).toNat = v5.toNat by omega]; rw [show (κ 33 0).toNat = v5.toNat by omega] at z; exact z)) (fun j => by have q0 := a0_34 j; have q1 := a0_35 j; omega) (by omega)
      · refine zW_iconst (pc' := 30) dX11_scene_0.2.2.1.1 rfl ?_
        exact zV_zret rfl (by omega) dX11_scene_0.2.2.1.2 ⟨hF, ⟨⟨by omega, by omega, by omega, (fun j => by have q0 := a0_34 j; have q1 := a0_35 j; omega)⟩, (by first | exact Or.inl (by omega) | exact Or.inr hU | exact Or.inr (by rw [hk0]; exact UnC.rf))⟩⟩

abbrev q_X12_truthAtE (κ h : Hp) (x1 : Int) (x2 : Int) (x3 : Int) (x4 : Int) : Int → Hp → Prop := fun r h' => h' = h ∧ ((-4000 ≤ r) ∧ (r ≤ 4255) ∧ ((x1 = 0 → r = κ 16 x4.toNat) ∧ (x1 = 1 → 2 * x2 < κ 0 11 → r = κ 16 x4.toNat) ∧ (x1 = 1 → ¬ 2 * x2 < κ 0 11 → r = κ 16 (3 + x4).toNat) ∧ (x1 = 2 → 2 * (x2 + x3) < κ 0 11 + κ 0 12 → r = κ 16 x4.toNat) ∧ (x1 = 2 → ¬ 2 * (x2 + x3) < κ 0 11 + κ 0 12 → r = κ 16 (3 + x4).toNat) ∧ (x1 = 3 → 2 * x3 < κ 0 12 → r = κ 16 x4.toNat) ∧ (x1 = 3 → ¬ 2 * x3 < κ 0 12 → r = κ 16 (3 + x4).toNat) ∧ (x1 = 4 → (x2 / 2 + x3 / 2) % 2 = 0 → r = κ 16 x4.toNat) ∧ (x1 = 4 → ¬ (x2 / 2 + x3 / 2) % 2 = 0 → r = κ 16 (3 + x4).toNat) ∧ (x1 = 5 → r = κ 16 x4.toNat + ((κ 16 (3 + x4).toNat - κ 16 x4.toNat) * x2).tdiv (κ 0 11 - 1))))
set_option maxHeartbeats 4000000 in
set_option maxRecDepth 20000 in
theorem s_X12_truthAtE {G : Ga} {b : Bd} {κ h : Hp} (hK : KR κ) (hF : Fr b κ h) (x1 : Int) (hx1 : 0 ≤ x1 ∧ x1 ≤ 5) (x2 : Int) (hx2 : 0 ≤ x2 ∧ x2 ≤ 15 ∧ x2 - κ 0 11 ≤ -1) (x3 : Int) (hx3 : 0 ≤ x3 ∧ x3 ≤ 15 ∧ x3 - κ 0 12 ≤ -1) (x4 : Int) (hx4 : 0 ≤ x4 ∧ x4 ≤ 2) (hse : ∀ i : Nat, i < 6 → 0 ≤ κ 16 i ∧ κ 16 i ≤ 255) : zM G mX12_truthAt yX12_truthAt [.inr (.inr 0), .inl x1, .inl x2, .inl x3, .inl x4] h (q_X12_truthAtE κ h x1 x2 x3 x4) := by
  have f_0_11 := KRw hK
  have f_0_12 := KRh hK
  have z1 := hse x4.toNat (by omega)
  have z2 := hse (3 + x4).toNat (by omega)
  refine zM_of [some (.inr (.inr 0)), some (.inl x1), some (.inl x2), some (.inl x3), some (.inl x4), none, none] 2 rfl rfl (Nat.le_of_ble_eq_true rfl) rfl ?_
  refine zW_aload_n (pc' := 1) dX12_truthAt_0.1.1.1.1 rfl rfl ?_
  refine zG_ref (pc' := 4) 16 fg_X12_57 tb0 rfl dX12_truthAt_0.1.1.1.2 rfl ?_
  refine zW_iload (pc' := 6) dX12_truthAt_0.1.1.2.1 rfl rfl ?_
  refine zA_key (pc' := 7) hF rfl tb16 (by omega) dX12_truthAt_0.1.1.2.2 (by decide) rfl ?_
  refine zW_istore (ls' := [_, _, _, _, _, _, _]) (pc' := 9) dX12_truthAt_0.1.2.1.1 (by decide) rfl rfl rfl ?_
  refine zW_aload_n (pc' := 10) dX12_truthAt_0.1.2.1.2 rfl rfl ?_
  refine zG_ref (pc' := 13) 16 fg_X12_57 tb0 rfl dX12_truthAt_0.1.2.2.1 rfl ?_
  refine zW_iconst (pc' := 14) dX12_truthAt_0.1.2.2.2 rfl ?_
  refine zW_iload (pc' := 16) dX12_truthAt_0.2.1.1.1 rfl rfl ?_
  refine zW_iadd (pc' := 17) dX12_truthAt_0.2.1.1.2 rfl ?_
  refine zA_key (pc' := 18) hF rfl tb16 (by omega) dX12_truthAt_0.2.1.2.1 (by decide) rfl ?_
  refine zW_istore (ls' := [_, _, _, _, _, _, _]) (pc' := 20) dX12_truthAt_0.2.1.2.2 (by decide) rfl rfl rfl ?_
  refine zW_iload_n (pc' := 21) dX12_truthAt_0.2.2.1.1 rfl rfl ?_
  refine zW_tsw dX12_truthAt_0.2.2.1.2 (fun z => if z = 0 then 56 else if z = 1 then 59 else if z = 2 then 77 else if z = 3 then 102 else if z = 4 then 120 else 140) ⟨by omega, by omega⟩ (tsw_ok (pc := 21) (lo := 0) (offs := #[35, 38, 56, 81, 99]) (tg := fun z => if z = 0 then 56 else if z = 1 then 59 else if z = 2 then 77 else if z = 3 then 102 else if z = 4 then 120 else 140) (by decide +kernel)) rfl (td := 140) rfl (fun c21 => ?_) (fun c21 c21b => ?_)
  · refine zW_iload (pc' := 142) dX12_truthAt_4.1.1.1.2 rfl rfl ?_
    refine zW_iload (pc' := 144) dX12_truthAt_4.1.1.2.1 rfl rfl ?_
    refine zW_iload (pc' := 146) dX12_truthAt_4.1.1.2.2 rfl rfl ?_
    refine zW_isub (pc' := 147) dX12_truthAt_4.1.2.1.1 rfl ?_
    refine zW_iload_n (pc' := 148) dX12_truthAt_4.1.2.1.2 rfl rfl ?_
    refine zW_imul (pc' := 149) dX12_truthAt_4.1.2.2 rfl ?_
    have m1 := mulb2 (a := κ 16 (3 + x4).toNat - κ 16 x4.toNat) (b := x2) (A := 255) (B := 15) (by omega) (by omega)
    refine zW_aload_n (pc' := 150) dX12_truthAt_4.2.1.1.1 rfl rfl ?_
    refine zG_key (pc' := 153) hF rfl fg_X12_99 tb0 rfl dX12_truthAt_4.2.1.1.2 rfl ?_
    refine zW_iconst (pc' := 154) dX12_truthAt_4.2.1.2.1 rfl ?_
    refine zW_isub (pc' := 155) dX12_truthAt_4.2.1.2.2 rfl ?_
    refine zW_idivT (pc' := 156) ⟨by omega, by omega⟩ (by omega) dX12_truthAt_4.2.2.1.1 rfl ?_
    have m2 := tdb (a := (κ 16 (3 + x4).toNat - κ 16 x4.toNat) * x2) (d := κ 0 11 - 1) (A := 3825) (by omega) (by omega)
    refine zW_iadd (pc' := 157) dX12_truthAt_4.2.2.1.2 rfl ?_
    exact zV_iret rfl dX12_truthAt_4.2.2.2 ⟨rfl, by omega⟩
  · split
    · refine zW_iload (pc' := 58) dX12_truthAt_0.2.2.2.1 rfl rfl ?_
      exact zV_iret rfl dX12_truthAt_0.2.2.2.2 ⟨rfl, by omega⟩
    · split
      · refine zW_iconst (pc' := 60) dX12_truthAt_1.1.1.1.1 rfl ?_
        refine zW_iload_n (pc' := 61) dX12_truthAt_1.1.1.1.2 rfl rfl ?_
        refine zW_imul (pc' := 62) dX12_truthAt_1.1.1.2.1 rfl ?_
        refine zW_aload_n (pc' := 63) dX12_truthAt_1.1.1.2.2 rfl rfl ?_
        refine zG_key (pc' := 66) hF rfl fg_X12_99 tb0 rfl dX12_truthAt_1.1.2.1.1 rfl ?_
        refine zV_cm_ge (tgt := 74) (pc' := 69) dX12_truthAt_1.1.2.1.2 rfl rfl ⟨by omega, by omega⟩ ⟨by omega, by omega⟩ (fun c66 => ?_) (fun c66 => ?_)
        · refine zW_iload (pc' := 76) dX12_truthAt_1.2.1.1.1 rfl rfl ?_
          exact zV_iret rfl dX12_truthAt_1.2.1.1.2 ⟨rfl, by omega⟩
        · refine zW_iload (pc' := 71) dX12_truthAt_1.1.2.2.1 rfl rfl ?_
          refine zV_goto 76 dX12_truthAt_1.1.2.2.2 rfl ?_
          exact zV_iret rfl dX12_truthAt_1.2.1.1.2 ⟨rfl, by omega⟩
      · split
        · refine zW_iconst (pc' := 78) dX12_truthAt_1.2.1.2.1 rfl ?_
          refine zW_iload_n (pc' := 79) dX12_truthAt_1.2.1.2.2 rfl rfl ?_
          refine zW_iload_n (pc' := 80) dX12_truthAt_1.2.2.1.1 rfl rfl ?_
          refine zW_iadd (pc' := 81) dX12_truthAt_1.2.2.1.2 rfl ?_
          refine zW_imul (pc' := 82) dX12_truthAt_1.2.2.2.1 rfl ?_
          refine zW_aload_n (pc' := 83) dX12_truthAt_1.2.2.2.2 rfl rfl ?_
          refine zG_key (pc' := 86) hF rfl fg_X12_99 tb0 rfl dX12_truthAt_2.1.1.1.1 rfl ?_
          refine zW_aload_n (pc' := 87) dX12_truthAt_2.1.1.1.2 rfl rfl ?_
          refine zG_key (pc' := 90) hF rfl fg_X12_103 tb0 rfl dX12_truthAt_2.1.1.2.1 rfl ?_
          refine zW_iadd (pc' := 91) dX12_truthAt_2.1.1.2.2 rfl ?_
          refine zV_cm_ge (tgt := 99) (pc' := 94) dX12_truthAt_2.1.2.1.1 rfl rfl ⟨by omega, by omega⟩ ⟨by omega, by omega⟩ (fun c91 => ?_) (fun c91 => ?_)
          · refine zW_iload (pc' := 101) dX12_truthAt_2.1.2.2.2 rfl rfl ?_
            exact zV_iret rfl dX12_truthAt_2.2.1.1.1 ⟨rfl, by omega⟩
          · refine zW_iload (pc' := 96) dX12_truthAt_2.1.2.1.2 rfl rfl ?_
            refine zV_goto 101 dX12_truthAt_2.1.2.2.1 rfl ?_
            exact zV_iret rfl dX12_truthAt_2.2.1.1.1 ⟨rfl, by omega⟩
        · split
          · refine zW_iconst (pc' := 103) dX12_truthAt_2.2.1.1.2 rfl ?_
            refine zW_iload_n (pc' := 104) dX12_truthAt_2.2.1.2.1 rfl rfl ?_
            refine zW_imul (pc' := 105) dX12_truthAt_2.2.1.2.2 rfl ?_
            refine zW_aload_n (pc' := 106) dX12_truthAt_2.2.2.1.1 rfl rfl ?_
            refine zG_key (pc' := 109) hF rfl fg_X12_103 tb0 rfl dX12_truthAt_2.2.2.1.2 rfl ?_
            refine zV_cm_ge (tgt := 117) (pc' := 112) dX12_truthAt_2.2.2.2.1 rfl rfl ⟨by omega, by omega⟩ ⟨by omega, by omega⟩ (fun c109 => ?_) (fun c109 => ?_)
            · refine zW_iload (pc' := 119) dX12_truthAt_3.1.1.1.2 rfl rfl ?_
              exact zV_iret rfl dX12_truthAt_3.1.1.2.1 ⟨rfl, by omega⟩
            · refine zW_iload (pc' := 114) dX12_truthAt_2.2.2.2.2 rfl rfl ?_
              refine zV_goto 119 dX12_truthAt_3.1.1.1.1 rfl ?_
              exact zV_iret rfl dX12_truthAt_3.1.1.2.1 ⟨rfl, by omega⟩
          · split
            · refine zW_iload_n (pc' := 121) dX12_truthAt_3.1.1.2.2 rfl rfl ?_
              refine zW_iconst (pc' := 122) dX12_truthAt_3.1.2.1.1 rfl ?_
              refine zW_idiv (pc' := 123) (by omega) (by omega) dX12_truthAt_3.1.2.1.2 rfl ?_
              refine zW_iload_n (pc' := 124) dX12_truthAt_3.1.2.2.1 rfl rfl ?_
              refine zW_iconst (pc' := 125) dX12_truthAt_3.1.2.2.2 rfl ?_
              refine zW_idiv (pc' := 126) (by omega) (by omega) dX12_truthAt_3.2.1.1.1 rfl ?_
              refine zW_iadd (pc' := 127) dX12_truthAt_3.2.1.1.2 rfl ?_
              refine zW_iconst (pc' := 128) dX12_truthAt_3.2.1.2.1 rfl ?_
              refine zW_irem (pc' := 129) (by omega) (by omega) dX12_truthAt_3.2.1.2.2 rfl ?_
              refine zV_if_ne (tgt := 137) (pc' := 132) dX12_truthAt_3.2.2.1.1 rfl rfl ⟨by omega, by omega⟩ (fun c129 => ?_) (fun c129 => ?_)
              · refine zW_iload (pc' := 139) dX12_truthAt_3.2.2.2.2 rfl rfl ?_
                exact zV_iret rfl dX12_truthAt_4.1.1.1.1 ⟨rfl, by omega⟩
              · refine zW_iload (pc' := 134) dX12_truthAt_3.2.2.1.2 rfl rfl ?_
                refine zV_goto 139 dX12_truthAt_3.2.2.2.1 rfl ?_
                exact zV_iret rfl dX12_truthAt_4.1.1.1.1 ⟨rfl, by omega⟩
            · refine zW_iload (pc' := 142) dX12_truthAt_4.1.1.1.2 rfl rfl ?_
              refine zW_iload (pc' := 144) dX12_truthAt_4.1.1.2.1 rfl rfl ?_
              refine zW_iload (pc' := 146) dX12_truthAt_4.1.1.2.2 rfl rfl ?_
              refine zW_isub (pc' := 147) dX12_truthAt_4.1.2.1.1 rfl ?_
              refine zW_iload_n (pc' := 148) dX12_truthAt_4.1.2.1.2 rfl rfl ?_
              refine zW_imul (pc' := 149) dX12_truthAt_4.1.2.2 rfl ?_
              have m1 := mulb2 (a := κ 16 (3 + x4).toNat - κ 16 x4.toNat) (b := x2) (A := 255) (B := 15) (by omega) (by omega)
              refine zW_aload_n (pc' := 150) dX12_truthAt_4.2.1.1.1 rfl rfl ?_
              refine zG_key (pc' := 153) hF rfl fg_X12_99 tb0 rfl dX12_truthAt_4.2.1.1.2 rfl ?_
              refine zW_iconst (pc' := 154) dX12_truthAt_4.2.1.2.1 rfl ?_
              refine zW_isub (pc' := 155) dX12_truthAt_4.2.1.2.2 rfl ?_
              refine zW_idivT (pc' := 156) ⟨by omega, by omega⟩ (by omega) dX12_truthAt_4.2.2.1.1 rfl ?_
              have m2 := tdb (a := (κ 16 (3 + x4).toNat - κ 16 x4.toNat) * x2) (d := κ 0 11 - 1) (A := 3825) (by omega) (by omega)
              refine zW_iadd (pc' := 157) dX12_truthAt_4.2.2.1.2 rfl ?_
              exact zV_iret rfl dX12_truthAt_4.2.2.2 ⟨rfl, by omega⟩

theorem f40_ne {j : Nat} {W H c y x a a' t k : Int} (ej : ¬ j = (c * 256 + y * 16 + x).toNat) (hc : 0 ≤ c ∧ c ≤ 2) (hy : 0 ≤ y ∧ y ≤ 15) (hx : 0 ≤ x ∧ x ≤ 15) (e : a' = a) (q : ((j < 768 ∧ (((((j / 256 : Nat) : Int) < c ∧ ((j % 256 / 16 : Nat) : Int) < H ∧ ((j % 16 : Nat) : Int) < W) ∨ (((j / 256 : Nat) : Int) = c ∧ ((j % 256 / 16 : Nat) : Int) < y ∧ ((j % 16 : Nat) : Int) < W)) ∨ (((j / 256 : Nat) : Int) = c ∧ ((j % 256 / 16 : Nat) : Int) = y ∧ ((j % 16 : Nat) : Int) < x))) → a = t) ∧ (¬ (j < 768 ∧ (((((j / 256 : Nat) : Int) < c ∧ ((j % 256 / 16 : Nat) : Int) < H ∧ ((j % 16 : Nat) : Int) < W) ∨ (((j / 256 : Nat) : Int) = c ∧ ((j % 256 / 16 : Nat) : Int) < y ∧ ((j % 16 : Nat) : Int) < W)) ∨ (((j / 256 : Nat) : Int) = c ∧ ((j % 256 / 16 : Nat) : Int) = y ∧ ((j % 16 : Nat) : Int) < x))) → a = k)) : ((j < 768 ∧ (((((j / 256 : Nat) : Int) < c ∧ ((j % 256 / 16 : Nat) : Int) < H ∧ ((j % 16 : Nat) : Int) < W) ∨ (((j / 256 : Nat) : Int) = c ∧ ((j % 256 / 16 : Nat) : Int) < y ∧ ((j % 16 : Nat) : Int) < W)) ∨ (((j / 256 : Nat) : Int) = c ∧ ((j % 256 / 16 : Nat) : Int) = y ∧ ((j % 16 : Nat) : Int) < (x + 1)))) → a' = t) ∧ (¬ (j < 768 ∧ (((((j / 256 : Nat) : Int) < c ∧ ((j % 256 / 16 : Nat) : Int) < H ∧ ((j % 16 : Nat) : Int) < W) ∨ (((j / 256 : Nat) : Int) = c ∧ ((j % 256 / 16 : Nat) : Int) < y ∧ ((j % 16 : Nat) : Int) < W)) ∨ (((j / 256 : Nat) : Int) = c ∧ ((j % 256 / 16 : Nat) : Int) = y ∧ ((j % 16 : Nat) : Int) < (x + 1)))) → a' = k) := by
  have hp : (j < 768 ∧ (((((j / 256 : Nat) : Int) < c ∧ ((j % 256 / 16 : Nat) : Int) < H ∧ ((j % 16 : Nat) : Int) < W) ∨ (((j / 256 : Nat) : Int) = c ∧ ((j % 256 / 16 : Nat) : Int) < y ∧ ((j % 16 : Nat) : Int) < W)) ∨ (((j / 256 : Nat) : Int) = c ∧ ((j % 256 / 16 : Nat) : Int) = y ∧ ((j % 16 : Nat) : Int) < (x + 1)))) ↔ (j < 768 ∧ (((((j / 256 : Nat) : Int) < c ∧ ((j % 256 / 16 : Nat) : Int) < H ∧ ((j % 16 : Nat) : Int) < W) ∨ (((j / 256 : Nat) : Int) = c ∧ ((j % 256 / 16 : Nat) : Int) < y ∧ ((j % 16 : Nat) : Int) < W)) ∨ (((j / 256 : Nat) : Int) = c ∧ ((j % 256 / 16 : Nat) : Int) = y ∧ ((j % 16 : Nat) : Int) < x))) := by omega
  rw [hp, e]
  exact q
theorem fC_ne {j : Nat} {W y x c v a a' t k : Int} (ej : ¬ j = (256 * c + v).toNat) (hv : v = 16 * y + x) (hc : 0 ≤ c ∧ c ≤ 2) (hy : 0 ≤ y ∧ y ≤ 15) (hx : 0 ≤ x ∧ x ≤ 15) (e : a' = a) (q : ((j < 768 ∧ (((((j % 256 / 16 : Nat) : Int) < y ∧ ((j % 16 : Nat) : Int) < W) ∨ (((j % 256 / 16 : Nat) : Int) = y ∧ ((j % 16 : Nat) : Int) < x)) ∨ (((j % 256 / 16 : Nat) : Int) = y ∧ ((j % 16 : Nat) : Int) = x ∧ ((j / 256 : Nat) : Int) < c))) → a = t) ∧ (¬ (j < 768 ∧ (((((j % 256 / 16 : Nat) : Int) < y ∧ ((j % 16 : Nat) : Int) < W) ∨ (((j % 256 / 16 : Nat) : Int) = y ∧ ((j % 16 : Nat) : Int) < x)) ∨ (((j % 256 / 16 : Nat) : Int) = y ∧ ((j % 16 : Nat) : Int) = x ∧ ((j / 256 : Nat) : Int) < c))) → a = k)) : ((j < 768 ∧ (((((j % 256 / 16 : Nat) : Int) < y ∧ ((j % 16 : Nat) : Int) < W) ∨ (((j % 256 / 16 : Nat) : Int) = y ∧ ((j % 16 : Nat) : Int) < x)) ∨ (((j % 256 / 16 : Nat) : Int) = y ∧ ((j % 16 : Nat) : Int) = x ∧ ((j / 256 : Nat) : Int) < (c + 1)))) → a' = t) ∧ (¬ (j < 768 ∧ (((((j % 256 / 16 : Nat) : Int) < y ∧ ((j % 16 : Nat) : Int) < W) ∨ (((j % 256 / 16 : Nat) : Int) = y ∧ ((j % 16 : Nat) : Int) < x)) ∨ (((j % 256 / 16 : Nat) : Int) = y ∧ ((j % 16 : Nat) : Int) = x ∧ ((j / 256 : Nat) : Int) < (c + 1)))) → a' = k) := by
  have hp : (j < 768 ∧ (((((j % 256 / 16 : Nat) : Int) < y ∧ ((j % 16 : Nat) : Int) < W) ∨ (((j % 256 / 16 : Nat) : Int) = y ∧ ((j % 16 : Nat) : Int) < x)) ∨ (((j % 256 / 16 : Nat) : Int) = y ∧ ((j % 16 : Nat) : Int) = x ∧ ((j / 256 : Nat) : Int) < (c + 1)))) ↔ (j < 768 ∧ (((((j % 256 / 16 : Nat) : Int) < y ∧ ((j % 16 : Nat) : Int) < W) ∨ (((j % 256 / 16 : Nat) : Int) = y ∧ ((j % 16 : Nat) : Int) < x)) ∨ (((j % 256 / 16 : Nat) : Int) = y ∧ ((j % 16 : Nat) : Int) = x ∧ ((j / 256 : Nat) : Int) < c))) := by omega
  rw [hp, e]
  exact q
abbrev q_X12_truthE (κ : Hp) (x1 : Int) : Int → Hp → Prop := fun r h' => Fm [(1, 999), (2, 999), (10, 999), (16, 999), (0, 21), (0, 25), (0, 23)] κ h' ∧ (((0 ≤ r) ∧ (r ≤ 1) ∧ ((r = 1 ∧ (0 ≤ x1 ∧ x1 ≤ 5 ∧ 6 ≤ κ 0 25) ∧ h' 0 25 = 0) ∨ (r = 0 ∧ ¬ (0 ≤ x1 ∧ x1 ≤ 5 ∧ 6 ≤ κ 0 25) ∧ h' 0 25 = κ 0 25)) ∧ (∀ j : Nat, (r = 1 → ((((j / 16 : Nat) : Int) < κ 0 12 ∧ ((j % 16 : Nat) : Int) < κ 0 11) → h' 1 j = trT x1 (κ 0 11) (κ 0 12) (fun i => κ 12 i % 256) (256 * ((((j % 16 : Nat) : Int) + κ 0 13) % 2 + (((j / 16 : Nat) : Int) + κ 0 13 / 2) % 2).toNat + j) ∧ h' 10 j = 0) ∧ (¬ (((j / 16 : Nat) : Int) < κ 0 12 ∧ ((j % 16 : Nat) : Int) < κ 0 11) → h' 1 j = κ 1 j ∧ h' 10 j = κ 10 j)) ∧ (r = 0 → h' 1 j = κ 1 j ∧ h' 10 j = κ 10 j)) ∧ (∀ j : Nat, (r = 1 → ((j < 768 ∧ (((j % 256 / 16 : Nat) : Int) < κ 0 12 ∧ ((j % 16 : Nat) : Int) < κ 0 11)) → h' 2 j = trT x1 (κ 0 11) (κ 0 12) (fun i => κ 12 i % 256) j) ∧ (¬ (j < 768 ∧ (((j % 256 / 16 : Nat) : Int) < κ 0 12 ∧ ((j % 16 : Nat) : Int) < κ 0 11)) → h' 2 j = κ 2 j)) ∧ (r = 0 → h' 2 j = κ 2 j))) ∧ ChR κ h')
set_option maxHeartbeats 4000000 in
set_option maxRecDepth 20000 in
theorem s_X12_truthE {G : Ga} {κ : Hp} (hS : SI κ) (hR : KR κ) (hC : KC κ) (x1 : Int) (hx1 : rng x1) : zM G mX12_truth yX12_truth [.inr (.inr 0), .inl x1] κ (q_X12_truthE κ x1) := by
  have f_0_11 := KRw hR
  have f_0_12 := KRh hR
  have f_0_25 := KRt hR
  unfold rng at hx1
  have main : ∀ N : Nat, (∀ (v2 : Int) (h : Hp), Fm [(1, 999), (2, 999), (10, 999), (16, 999), (0, 21), (0, 25), (0, 23)] κ h → (0 ≤ x1 ∧ x1 ≤ 5) → (0 ≤ v2 ∧ v2 ≤ 6) → (6 ≤ κ 0 25) → (h 0 25 = κ 0 25) → (∀ j : Nat, j < 6 → (j : Int) < v2 → h 16 j = κ 12 j % 256) → (∀ j : Nat, h 1 j = κ 1 j ∧ h 2 j = κ 2 j ∧ h 10 j = κ 10 j) → 54888004080 + 33509160 * (6 - v2) + 33144930 < (N : Int) → zV G mX12_truth (q_X12_truthE κ x1) 22 [some (.inr (.inr 0)), some (.inl x1), some (.inl v2), none, none, none] [] h) ∧ (∀ (v2 : Int) (h : Hp), Fm [(1, 999), (2, 999), (10, 999), (16, 999), (0, 21), (0, 25), (0, 23)] κ h → (0 ≤ x1 ∧ x1 ≤ 5) → (0 ≤ v2 ∧ v2 ≤ 16) → (v2 - κ 0 12 ≤ 0) → (6 ≤ κ 0 25) → (h 0 25 = 0 ∧ h 0 23 = 0) → (∀ j : Nat, j < 6 → h 16 j = κ 12 j % 256) → (∀ j : Nat, ((((j / 16 : Nat) : Int) < v2 ∧ ((j % 16 : Nat) : Int) < κ 0 11) → h 1 j = trT x1 (κ 0 11) (κ 0 12) (fun i => κ 12 i % 256) (256 * ((((j % 16 : Nat) : Int) + κ 0 13) % 2 + (((j / 16 : Nat) : Int) + κ 0 13 / 2) % 2).toNat + j) ∧ h 10 j = 0) ∧ (¬ (((j / 16 : Nat) : Int) < v2 ∧ ((j % 16 : Nat) : Int) < κ 0 11) → h 1 j = κ 1 j ∧ h 10 j = κ 10 j)) → (∀ j : Nat, ((j < 768 ∧ (((j % 256 / 16 : Nat) : Int) < v2 ∧ ((j % 16 : Nat) : Int) < κ 0 11)) → h 2 j = trT x1 (κ 0 11) (κ 0 12) (fun i => κ 12 i % 256) j) ∧ (¬ (j < 768 ∧ (((j % 256 / 16 : Nat) : Int) < v2 ∧ ((j % 16 : Nat) : Int) < κ 0 11)) → h 2 j = κ 2 j)) → 48856355280 + 33509160 * (16 - v2) + 29502630 < (N : Int) → zV G mX12_truth (q_X12_truthE κ x1) 61 [some (.inr (.inr 0)), some (.inl x1), some (.inl v2), none, none, none] [] h) ∧ (∀ (v2 v3 : Int) (h : Hp), Fm [(1, 999), (2, 999), (10, 999), (16, 999), (0, 21), (0, 25), (0, 23)] κ h → (0 ≤ x1 ∧ x1 ≤ 5) → (0 ≤ v2 ∧ v2 ≤ 15) → (v2 - κ 0 12 ≤ -1) → (0 ≤ v3 ∧ v3 ≤ 16) → (v3 - κ 0 11 ≤ 0) → (6 ≤ κ 0 25) → (h 0 25 = 0 ∧ h 0 23 = 0) → (∀ j : Nat, j < 6 → h 16 j = κ 12 j % 256) → (∀ j : Nat, (((((j / 16 : Nat) : Int) < v2 ∧ ((j % 16 : Nat) : Int) < κ 0 11) ∨ (((j / 16 : Nat) : Int) = v2 ∧ ((j % 16 : Nat) : Int) < v3)) → h 1 j = trT x1 (κ 0 11) (κ 0 12) (fun i => κ 12 i % 256) (256 * ((((j % 16 : Nat) : Int) + κ 0 13) % 2 + (((j / 16 : Nat) : Int) + κ 0 13 / 2) % 2).toNat + j) ∧ h 10 j = 0) ∧ (¬ ((((j / 16 : Nat) : Int) < v2 ∧ ((j % 16 : Nat) : Int) < κ 0 11) ∨ (((j / 16 : Nat) : Int) = v2 ∧ ((j % 16 : Nat) : Int) < v3)) → h 1 j = κ 1 j ∧ h 10 j = κ 10 j)) → (∀ j : Nat, ((j < 768 ∧ ((((j % 256 / 16 : Nat) : Int) < v2 ∧ ((j % 16 : Nat) : Int) < κ 0 11) ∨ (((j % 256 / 16 : Nat) : Int) = v2 ∧ ((j % 16 : Nat) : Int) < v3))) → h 2 j = trT x1 (κ 0 11) (κ 0 12) (fun i => κ 12 i % 256) j) ∧ (¬ (j < 768 ∧ ((((j % 256 / 16 : Nat) : Int) < v2 ∧ ((j % 16 : Nat) : Int) < κ 0 11) ∨ (((j % 256 / 16 : Nat) : Int) = v2 ∧ ((j % 16 : Nat) : Int) < v3))) → h 2 j = κ 2 j)) → 48856355280 + 33509160 * (16 - v2) + 25496100 + 20235 * (16 - v3) + 19950 < (N : Int) → zV G mX12_truth (q_X12_truthE κ x1) 71 [some (.inr (.inr 0)), some (.inl x1), some (.inl v2), some (.inl v3), none, none] [] h) ∧ (∀ (v2 v3 v4 v5 : Int) (h : Hp), Fm [(1, 999), (2, 999), (10, 999), (16, 999), (0, 21), (0, 25), (0, 23)] κ h → (0 ≤ x1 ∧ x1 ≤ 5) → (0 ≤ v2 ∧ v2 ≤ 15) → (v2 - κ 0 12 ≤ -1) → (0 ≤ v3 ∧ v3 ≤ 15) → (v3 - κ 0 11 ≤ -1) → (0 ≤ v4 ∧ v4 ≤ 255) → (0 ≤ v5 ∧ v5 ≤ 3) → (6 ≤ κ 0 25) → (h 0 25 = 0 ∧ h 0 23 = 0) → (v4 = 16 * v2 + v3) → (∀ j : Nat, j < 6 → h 16 j = κ 12 j % 256) → (∀ j : Nat, (((((j / 16 : Nat) : Int) < v2 ∧ ((j % 16 : Nat) : Int) < κ 0 11) ∨ (((j / 16 : Nat) : Int) = v2 ∧ ((j % 16 : Nat) : Int) < v3)) → h 1 j = trT x1 (κ 0 11) (κ 0 12) (fun i => κ 12 i % 256) (256 * ((((j % 16 : Nat) : Int) + κ 0 13) % 2 + (((j / 16 : Nat) : Int) + κ 0 13 / 2) % 2).toNat + j) ∧ h 10 j = 0) ∧ (¬ ((((j / 16 : Nat) : Int) < v2 ∧ ((j % 16 : Nat) : Int) < κ 0 11) ∨ (((j / 16 : Nat) : Int) = v2 ∧ ((j % 16 : Nat) : Int) < v3)) → h 1 j = κ 1 j ∧ h 10 j = κ 10 j)) → (∀ j : Nat, ((j < 768 ∧ (((((j % 256 / 16 : Nat) : Int) < v2 ∧ ((j % 16 : Nat) : Int) < κ 0 11) ∨ (((j % 256 / 16 : Nat) : Int) = v2 ∧ ((j % 16 : Nat) : Int) < v3)) ∨ (((j % 256 / 16 : Nat) : Int) = v2 ∧ ((j % 16 : Nat) : Int) = v3 ∧ ((j / 256 : Nat) : Int) < v5))) → h 2 j = trT x1 (κ 0 11) (κ 0 12) (fun i => κ 12 i % 256) j) ∧ (¬ (j < 768 ∧ (((((j % 256 / 16 : Nat) : Int) < v2 ∧ ((j % 16 : Nat) : Int) < κ 0 11) ∨ (((j % 256 / 16 : Nat) : Int) = v2 ∧ ((j % 16 : Nat) : Int) < v3)) ∨ (((j % 256 / 16 : Nat) : Int) = v2 ∧ ((j % 16 : Nat) : Int) = v3 ∧ ((j / 256 : Nat) : Int) < v5))) → h 2 j = κ 2 j)) → 48856355280 + 33509160 * (16 - v2) + 25496100 + 20235 * (16 - v3) + 15960 + 57 * (3 - v5) + 56 < (N : Int) → zV G mX12_truth (q_X12_truthE κ x1) 90 [some (.inr (.inr 0)), some (.inl x1), some (.inl v2), some (.inl v3), some (.inl v4), some (.inl v5)] [] h) := by
    intro N
    induction N with
    | zero =>
      refine ⟨?_, ?_, ?_, ?_⟩
      · intro v2 h hF g0 g1 gc0 gc1 gc2 gc3 hm
        exfalso; omega
      · intro v2 h hF g0 g1 g2 gc0 gc1 gc2 gc3 gc4 hm
        exfalso; omega
      · intro v2 v3 h hF g0 g1 g2 g3 g4 gc0 gc1 gc2 gc3 gc4 hm
        exfalso; omega
      · intro v2 v3 v4 v5 h hF g0 g1 g2 g3 g4 g5 g6 gc0 gc1 gc2 gc3 gc4 gc5 hm
        exfalso; omega
    | succ N ih =>
      obtain ⟨k22, k61, k71, k90⟩ := ih
      refine ⟨?_, ?_, ?_, ?_⟩
      · intro v2 h hF g0 g1 gc0 gc1 gc2 gc3 hm
        refine zW_iload_n (pc' := 23) dX12_truth_0.2.2.1.2 rfl rfl ?_
        refine zW_bipush (pc' := 25) dX12_truth_0.2.2.2.1 rfl rfl ?_
        refine zV_cm_ge (tgt := 50) (pc' := 28) dX12_truth_0.2.2.2.2 rfl rfl ⟨by omega, by omega⟩ ⟨by omega, by omega⟩ (fun c25 => ?_) (fun c25 => ?_)
        · refine zW_aload_n (pc' := 51) dX12_truth_1.2.2.1.1 rfl rfl ?_
          refine zW_iconst (pc' := 52) dX12_truth_1.2.2.1.2 rfl ?_
          refine zPm (pc' := 55) hF (Or.inl rfl) (SI_irr hF.2.1 (Or.inl rfl) (fun _ _ => ⟨by omega, by omega⟩)) (KR_25 hF.2.2.1 (by omega)) (KC_irr hF.2.2.2 rfl) fp_X12_116 tb0 rfl dX12_truth_1.2.2.2.1 rfl (fun h hF w52 => ?_)
          have a52_1 := fun j : Nat => (congrFun (congrFun w52 1) j).trans (zwr_ne (Or.inl (by decide)))
          have a52_2 := fun j : Nat => (congrFun (congrFun w52 2) j).trans (zwr_ne (Or.inl (by decide)))
          have a52_10 := fun j : Nat => (congrFun (congrFun w52 10) j).trans (zwr_ne (Or.inl (by decide)))
          have a52_16 := fun j : Nat => (congrFun (congrFun w52 16) j).trans (zwr_ne (Or.inl (by decide)))
          have t52_0_25 := congrFun (congrFun w52 0) 25
          rw [zwr_eq] at t52_0_25
          have t52_0_23 := congrFun (congrFun w52 0) 23
          rw [zwr_ne (Or.inr (by decide))] at t52_0_23
          refine zW_aload_n (pc' := 56) dX12_truth_1.2.2.2.2 rfl rfl ?_
          refine cvV0 (pc' := 59) kX12_changed vX12_changed lk_X12_215 ⟨Nat.le_of_ble_eq_true rfl, Nat.le_of_ble_eq_true rfl⟩ tb0 vq12 rfl rfl (s_X12_changed hF.2.1 hF.2.2.1 hF.2.2.2) dX12_truth_2.1.1.1.1 (Nat.le_of_ble_eq_true rfl) rfl ?_
          rintro r56 h ⟨hF1, p56⟩; replace hF := hF.tr hF1 rfl
          have f56_1 := fun j : Nat => hF1.1 1 j rfl rfl
          have f56_2 := fun j : Nat => hF1.1 2 j rfl rfl
          have f56_10 := fun j : Nat => hF1.1 10 j rfl rfl
          have f56_16 := fun j : Nat => hF1.1 16 j rfl rfl
          have t56_0_25 := hF1.1 0 25 rfl rfl
          refine zW_iconst (pc' := 60) dX12_truth_2.1.1.1.2 rfl ?_
          refine zW_istore_n (ls' := [_, _, _, _, _, _]) (pc' := 61) dX12_truth_2.1.1.2.1 (by decide) rfl rfl rfl ?_
          exact k61 _ _ hF (by omega) (by omega) (by omega) (by omega) (by omega) (fun j => by have q0 := gc2 j; have q1 := a52_16 j; have q2 := f56_16 j; omega) (fun j => by have q0 := gc3 j; have q1 := a52_1 j; have q2 := a52_2 j; have q3 := a52_10 j; have q4 := f56_1 j; have q5 := f56_2 j; have q6 := f56_10 j; omega) (fun j => by have q0 := gc3 j; have q1 := a52_1 j; have q2 := a52_2 j; have q3 := a52_10 j; have q4 := f56_1 j; have q5 := f56_2 j; have q6 := f56_10 j; omega) (by omega)
        · refine zW_aload_n (pc' := 29) dX12_truth_1.1.1.1.1 rfl rfl ?_
          refine zG_ref (pc' := 32) 16 fg_X12_57 tb0 rfl dX12_truth_1.1.1.1.2 rfl ?_
          refine zW_iload_n (pc' := 33) dX12_truth_1.1.1.2.1 rfl rfl ?_
          refine zW_aload_n (pc' := 34) dX12_truth_1.1.1.2.2 rfl rfl ?_
          refine zG_ref (pc' := 37) 12 fg_X12_44 tb0 rfl dX12_truth_1.1.2.1.1 rfl ?_
          refine zW_iload_n (pc' := 38) dX12_truth_1.1.2.1.2 rfl rfl ?_
          have y12 := hF.1 12 v2.toNat rfl rfl
          refine zV_bald (pc' := 39) tb12 (by omega) dX12_truth_1.1.2.2.1 (by decide) rfl ?_
          refine zW_sipush (pc' := 42) dX12_truth_1.1.2.2.2 rfl rfl ?_
          refine zW_iand255 (pc' := 43) dX12_truth_1.2.1.1.1 rfl (fun v42 e42 => ?_)
          refine zSm (pc' := 44) hF rfl (fun v' hv he => ⟨(SI_irr hF.2.1 (Or.inl (key_of rfl _)) (fun _ _ => hv)), (KR_irr hF.2.2.1 rfl), (KC_irr hF.2.2.2 rfl)⟩) tb16 (by omega) dX12_truth_1.2.1.1.2 (by decide) rfl (fun h i43 hF a43 b43 w43 => ?_)
          have a43_1 := fun j : Nat => (congrFun (congrFun w43 1) j).trans (zwr_ne (Or.inl (by decide)))
          have a43_2 := fun j : Nat => (congrFun (congrFun w43 2) j).trans (zwr_ne (Or.inl (by decide)))
          have a43_10 := fun j : Nat => (congrFun (congrFun w43 10) j).trans (zwr_ne (Or.inl (by decide)))
          have a43_16 := fun j : Nat => zwr_pt (congrFun (congrFun w43 16) j)
          replace b43 := b43 ⟨by omega, by omega⟩
          have t43_0_25 := congrFun (congrFun w43 0) 25
          rw [zwr_ne (Or.inl (by decide))] at t43_0_25
          have t43_0_23 := congrFun (congrFun w43 0) 23
          rw [zwr_ne (Or.inl (by decide))] at t43_0_23
          refine zW_iinc (ls' := [_, _, _, _, _, _]) (pc' := 47) dX12_truth_1.2.1.2.1 rfl (by decide) rfl rfl rfl ?_
          refine zV_goto 22 dX12_truth_1.2.1.2.2 rfl ?_
          exact k22 _ _ hF (by omega) (by omega) (by omega) (by omega) (fun j => by have q0 := gc2 j; have q1 := a43_16 j; by_cases ej : j = v2.toNat; (subst ej; omega); omega) (fun j => by have q0 := gc3 j; have q1 := a43_1 j; have q2 := a43_2 j; have q3 := a43_10 j; by_cases ej : j = v2.toNat; (subst ej; omega); omega) (by omega)
      · intro v2 h hF g0 g1 g2 gc0 gc1 gc2 gc3 gc4 hm
        refine zW_iload_n (pc' := 62) dX12_truth_2.1.1.2.2 rfl rfl ?_
        refine zW_aload_n (pc' := 63) dX12_truth_2.1.2.1.1 rfl rfl ?_
        refine zGm (pc' := 66) hF rfl rfl fg_X12_103 tb0 rfl dX12_truth_2.1.2.1.2 rfl ?_
        refine zV_cm_ge (tgt := 170) (pc' := 69) dX12_truth_2.1.2.2.1 rfl rfl ⟨by omega, by omega⟩ ⟨by omega, by omega⟩ (fun c66 => ?_) (fun c66 => ?_)
        · refine zW_aload_n (pc' := 171) dX12_truth_6.1.1.1 rfl rfl ?_
          refine zW_iconst (pc' := 172) dX12_truth_6.1.1.2 rfl ?_
          refine zPmz (pc' := 175) hF (Or.inl rfl) (SI_irr hF.2.1 (Or.inl rfl) (fun _ _ => ⟨by omega, by omega⟩)) (KR_21 hF.2.2.1 (by omega)) (KC_irr hF.2.2.2 rfl) (by omega) fp_X12_212 tb0 rfl dX12_truth_6.1.2 rfl (fun h hF w172 => ?_)
          have a172_1 := fun j : Nat => (congrFun (congrFun w172 1) j).trans (zwr_ne (Or.inl (by decide)))
          have a172_2 := fun j : Nat => (congrFun (congrFun w172 2) j).trans (zwr_ne (Or.inl (by decide)))
          have a172_10 := fun j : Nat => (congrFun (congrFun w172 10) j).trans (zwr_ne (Or.inl (by decide)))
          have a172_16 := fun j : Nat => (congrFun (congrFun w172 16) j).trans (zwr_ne (Or.inl (by decide)))
          have t172_0_25 := congrFun (congrFun w172 0) 25
          rw [zwr_ne (Or.inr (by decide))] at t172_0_25
          have t172_0_23 := congrFun (congrFun w172 0) 23
          rw [zwr_ne (Or.inr (by decide))] at t172_0_23
          refine zW_iconst (pc' := 176) dX12_truth_6.2.1 rfl ?_
          exact zV_zret rfl (by omega) dX12_truth_6.2.2 ⟨hF, ⟨⟨by omega, by omega, by omega, (fun j => by have q0 := gc3 j; have q1 := a172_1 j; have q2 := a172_10 j; omega), (fun j => by have q0 := gc4 j; have q1 := a172_2 j; omega)⟩, (by first | exact Or.inl (by omega) | exact Or.inr hU | exact Or.inr (by rw [hk0]; exact UnR.rf))⟩⟩
        · refine zW_iconst (pc' := 70) dX12_truth_2.1.2.2.2 rfl ?_
          refine zW_istore_n (ls' := [_, _, _, _, _, _]) (pc' := 71) dX12_truth_2.2.1.1.1 (by decide) rfl rfl rfl ?_
          exact k71 _ _ _ hF (by omega) (by omega) (by omega) (by omega) (by omega) (by omega) (by omega) (fun j => by have q0 := gc2 j; omega) (fun j => by have q0 := gc3 j; omega) (fun j => by have q0 := gc4 j; omega) (by omega)
      · intro v2 v3 h hF g0 g1 g2 g3 g4 gc0 gc1 gc2 gc3 gc4 hm
        refine zW_iload_n (pc' := 72) dX12_truth_2.2.1.1.2 rfl rfl ?_
        refine zW_aload_n (pc' := 73) dX12_truth_2.2.1.2.1 rfl rfl ?_
        refine zGm (pc' := 76) hF rfl rfl fg_X12_99 tb0 rfl dX12_truth_2.2.1.2.2 rfl ?_
        refine zV_cm_ge (tgt := 164) (pc' := 79) dX12_truth_2.2.2.1.1 rfl rfl ⟨by omega, by omega⟩ ⟨by omega, by omega⟩ (fun c76 => ?_) (fun c76 => ?_)
        · refine zW_iinc (ls' := [_, _, _, _, _, _]) (pc' := 167) dX12_truth_5.2.2.2.1 rfl (by decide) rfl rfl rfl ?_
          refine zV_goto 61 dX12_truth_5.2.2.2.2 rfl ?_
          refine zV_clr 3 (ls' := [_, _, _, _, _, _]) rfl ?_
          exact k61 _ _ hF (by omega) (by omega) (by omega) (by omega) (by omega) (fun j => by have q0 := gc2 j; omega) (fun j => by have q0 := gc3 j; omega) (fun j => by have q0 := gc4 j; omega) (by omega)
        · refine zW_bipush (pc' := 81) dX12_truth_2.2.2.1.2 rfl rfl ?_
          refine zW_iload_n (pc' := 82) dX12_truth_2.2.2.2.1 rfl rfl ?_
          refine zW_imul (pc' := 83) dX12_truth_2.2.2.2.2 rfl ?_
          refine zW_iload_n (pc' := 84) dX12_truth_3.1.1.1.1 rfl rfl ?_
          refine zW_iadd (pc' := 85) dX12_truth_3.1.1.1.2 rfl ?_
          refine zW_istore (ls' := [_, _, _, _, _, _]) (pc' := 87) dX12_truth_3.1.1.2.1 (by decide) rfl rfl rfl ?_
          refine zW_iconst (pc' := 88) dX12_truth_3.1.1.2.2 rfl ?_
          refine zW_istore (ls' := [_, _, _, _, _, _]) (pc' := 90) dX12_truth_3.1.2.1.1 (by decide) rfl rfl rfl ?_
          exact k90 _ _ _ _ _ hF (by omega) (by omega) (by omega) (by omega) (by omega) (by omega) (by omega) (by omega) (by omega) (by omega) (fun j => by have q0 := gc2 j; omega) (fun j => by have q0 := gc3 j; omega) (fun j => by have q0 := gc4 j; omega) (by omega)
      · intro v2 v3 v4 v5 h hF g0 g1 g2 g3 g4 g5 g6 gc0 gc1 gc2 gc3 gc4 gc5 hm
        refine zW_iload (pc' := 92) dX12_truth_3.1.2.1.2 rfl rfl ?_
        refine zW_iconst (pc' := 93) dX12_truth_3.1.2.2.1 rfl ?_
        refine zV_cm_ge (tgt := 125) (pc' := 96) dX12_truth_3.1.2.2.2 rfl rfl ⟨by omega, by omega⟩ ⟨by omega, by omega⟩ (fun c93 => ?_) (fun c93 => ?_)
        · refine zW_aload_n (pc' := 126) dX12_truth_4.2.1.1.1 rfl rfl ?_
          refine zG_ref (pc' := 129) 1 fg_X12_7 tb0 rfl dX12_truth_4.2.1.1.2 rfl ?_
          refine zW_iload (pc' := 131) dX12_truth_4.2.1.2.1 rfl rfl ?_
          refine zW_aload_n (pc' := 132) dX12_truth_4.2.1.2.2 rfl rfl ?_
          refine zG_ref (pc' := 135) 2 fg_X12_13 tb0 rfl dX12_truth_4.2.2.1.1 rfl ?_
          refine zW_sipush (pc' := 138) dX12_truth_4.2.2.1.2 rfl rfl ?_
          refine zW_aload_n (pc' := 139) dX12_truth_4.2.2.2.1 rfl rfl ?_
          refine zW_iload_n (pc' := 140) dX12_truth_4.2.2.2.2 rfl rfl ?_
          refine zW_iload_n (pc' := 141) dX12_truth_5.1.1.1.1 rfl rfl ?_
          have y141_0_13 := hF.1 0 13 rfl rfl
          refine cvI2 (pc' := 144) kX12_colourAt vX12_colourAt lk_X12_225 ⟨Nat.le_of_ble_eq_true rfl, Nat.le_of_ble_eq_true rfl⟩ tb0 vq12 rfl rfl (s_X12_colourAtE (b := bdB true) (κ := h) hF.2.2.1 (Fr.rf hF.2.1) _ ⟨by omega, by omega⟩ _ ⟨by omega, by omega⟩) dX12_truth_5.1.1.1.2 (Nat.le_of_ble_eq_true rfl) rfl ?_
          rintro r141 z141 ⟨hz141, p141⟩; subst z141
          refine zW_imul (pc' := 145) dX12_truth_5.1.1.2.1 rfl ?_
          refine zW_iload (pc' := 147) dX12_truth_5.1.1.2.2 rfl rfl ?_
          refine zW_iadd (pc' := 148) dX12_truth_5.1.2.1.1 rfl ?_
          have s148 := (gc5 (256 * r141 + v4).toNat).1 (by omega)
          refine zAmI (pc' := 149) hF (by decide) (by decide) tb2 (by omega) dX12_truth_5.1.2.1.2 (by decide) rfl (fun e148 => ?_)
          refine zSm (pc' := 150) hF rfl (fun v' hv he => ⟨(SI_irr hF.2.1 (Or.inl (key_of rfl _)) (fun _ _ => hv)), (KR_irr hF.2.2.1 rfl), (KC_irr hF.2.2.2 rfl)⟩) tb1 (by omega) dX12_truth_5.1.2.2.1 (by decide) rfl (fun h i149 hF a149 b149 w149 => ?_)
          have a149_1 := fun j : Nat => zwr_pt (congrFun (congrFun w149 1) j)
          have a149_2 := fun j : Nat => (congrFun (congrFun w149 2) j).trans (zwr_ne (Or.inl (by decide)))
          have a149_10 := fun j : Nat => (congrFun (congrFun w149 10) j).trans (zwr_ne (Or.inl (by decide)))
          have a149_16 := fun j : Nat => (congrFun (congrFun w149 16) j).trans (zwr_ne (Or.inl (by decide)))
          replace b149 := b149 ⟨by omega, by omega⟩
          have t149_0_25 := congrFun (congrFun w149 0) 25
          rw [zwr_ne (Or.inl (by decide))] at t149_0_25
          have t149_0_23 := congrFun (congrFun w149 0) 23
          rw [zwr_ne (Or.inl (by decide))] at t149_0_23
          refine zW_aload_n (pc' := 151) dX12_truth_5.1.2.2.2 rfl rfl ?_
          refine zG_ref (pc' := 154) 10 fg_X12_37 tb0 rfl dX12_truth_5.2.1.1.1 rfl ?_
          refine zW_iload (pc' := 156) dX12_truth_5.2.1.1.2 rfl rfl ?_
          refine zW_iconst (pc' := 157) dX12_truth_5.2.1.2.1 rfl ?_
          refine zSmz (pc' := 158) hF rfl ⟨(SI_irr hF.2.1 (Or.inl (key_of rfl _)) (fun _ _ => ⟨by omega, by omega⟩)), (KR_c10 hF.2.2.1 (by omega)), (KC_irr hF.2.2.2 rfl)⟩ tb10 (by omega) (by omega) dX12_truth_5.2.1.2.2 (by decide) rfl (fun h hF w157 => ?_)
          have a157_1 := fun j : Nat => (congrFun (congrFun w157 1) j).trans (zwr_ne (Or.inl (by decide)))
          have a157_2 := fun j : Nat => (congrFun (congrFun w157 2) j).trans (zwr_ne (Or.inl (by decide)))
          have a157_10 := fun j : Nat => zwr_pt (congrFun (congrFun w157 10) j)
          have a157_16 := fun j : Nat => (congrFun (congrFun w157 16) j).trans (zwr_ne (Or.inl (by decide)))
          have t157_0_25 := congrFun (congrFun w157 0) 25
          rw [zwr_ne (Or.inl (by decide))] at t157_0_25
          have t157_0_23 := congrFun (congrFun w157 0) 23
          rw [zwr_ne (Or.inl (by decide))] at t157_0_23
          refine zW_iinc (ls' := [_, _, _, _, _, _]) (pc' := 161) dX12_truth_5.2.2.1.1 rfl (by decide) rfl rfl rfl ?_
          refine zV_goto 71 dX12_truth_5.2.2.1.2 rfl ?_
          refine zV_clr 4 (ls' := [_, _, _, _, _, _]) rfl ?_
          refine zV_clr 5 (ls' := [_, _, _, _, _, _]) rfl ?_
          exact k71 _ _ _ hF (by omega) (by omega) (by omega) (by omega) (by omega) (by omega) (by omega) (fun j => by have q0 := gc3 j; have q1 := a149_16 j; have q2 := a157_16 j; omega) (fun j => by have q0 := gc4 j; have q1 := a149_1 j; have q2 := a149_10 j; have q3 := a157_1 j; have q4 := a157_10 j; by_cases ej : j = v4.toNat; (have e3 : ((j % 16 : Nat) : Int) = v3 := (by omega); have e4 : ((j / 16 : Nat) : Int) = v2 := (by omega); have e5 : 256 * ((((j % 16 : Nat) : Int) + κ 0 13) % 2 + (((j / 16 : Nat) : Int) + κ 0 13 / 2) % 2).toNat + j = (256 * r141 + v4).toNat := (by omega); rw [e5, ← s148]; omega); omega) (fun j => by have q0 := gc5 j; have q1 := a149_2 j; have q2 := a157_2 j; omega) (by omega)
        · refine zW_aload_n (pc' := 97) dX12_truth_3.2.1.1.1 rfl rfl ?_
          refine zG_ref (pc' := 100) 2 fg_X12_13 tb0 rfl dX12_truth_3.2.1.1.2 rfl ?_
          refine zW_sipush (pc' := 103) dX12_truth_3.2.1.2.1 rfl rfl ?_
          refine zW_iload (pc' := 105) dX12_truth_3.2.1.2.2 rfl rfl ?_
          refine zW_imul (pc' := 106) dX12_truth_3.2.2.1.1 rfl ?_
          refine zW_iload (pc' := 108) dX12_truth_3.2.2.1.2 rfl rfl ?_
          refine zW_iadd (pc' := 109) dX12_truth_3.2.2.2.1 rfl ?_
          refine zW_aload_n (pc' := 110) dX12_truth_3.2.2.2.2 rfl rfl ?_
          refine zW_iload_n (pc' := 111) dX12_truth_4.1.1.1.1 rfl rfl ?_
          refine zW_iload_n (pc' := 112) dX12_truth_4.1.1.1.2 rfl rfl ?_
          refine zW_iload_n (pc' := 113) dX12_truth_4.1.1.2.1 rfl rfl ?_
          refine zW_iload (pc' := 115) dX12_truth_4.1.1.2.2 rfl rfl ?_
          have y115_0_11 := hF.1 0 11 rfl rfl
          have y115_0_12 := hF.1 0 12 rfl rfl
          refine cvI4 (pc' := 118) kX12_truthAt vX12_truthAt lk_X12_232 ⟨Nat.le_of_ble_eq_true rfl, Nat.le_of_ble_eq_true rfl⟩ tb0 vq12 rfl rfl (s_X12_truthAtE (b := bdB true) (κ := h) hF.2.2.1 (Fr.rf hF.2.1) _ ⟨by omega, by omega⟩ _ ⟨by omega, by omega, by omega⟩ _ ⟨by omega, by omega, by omega⟩ _ ⟨by omega, by omega⟩ (fun i hi => by have z := gc3 i hi; omega)) dX12_truth_4.1.2.1.1 (Nat.le_of_ble_eq_true rfl) rfl ?_
          rintro r115 z115 ⟨hz115, p115⟩; subst z115
          have z1 := gc3 v5.toNat (by omega); have z2 := gc3 (3 + v5).toNat (by omega)
          have s118 : r115 = trF x1 (κ 12 v5.toNat % 256) (κ 12 (3 + v5).toNat % 256) (κ 0 11) (κ 0 12) v3 v2 := trF_of (by omega) (by have z := p115.2.2; rw [z1, z2, y115_0_11, y115_0_12] at z; exact z)
          have s84 := And.intro p115.1 p115.2.1
          clear p115
          refine zSm (pc' := 119) hF rfl (fun v' hv he => ⟨(SI_irr hF.2.1 (Or.inl (key_of rfl _)) (fun _ _ => hv)), (KR_irr hF.2.2.1 rfl), (KC_irr hF.2.2.2 rfl)⟩) tb2 (by omega) dX12_truth_4.1.2.1.2 (by decide) rfl (fun h i118 hF a118 b118 w118 => ?_)
          have a118_1 := fun j : Nat => (congrFun (congrFun w118 1) j).trans (zwr_ne (Or.inl (by decide)))
          have a118_2 := fun j : Nat => zwr_pt (congrFun (congrFun w118 2) j)
          have a118_10 := fun j : Nat => (congrFun (congrFun w118 10) j).trans (zwr_ne (Or.inl (by decide)))
          have a118_16 := fun j : Nat => (congrFun (congrFun w118 16) j).trans (zwr_ne (Or.inl (by decide)))
          replace b118 := b118 ⟨by omega, by omega⟩
          have t118_0_25 := congrFun (congrFun w118 0) 25
          rw [zwr_ne (Or.inl (by decide))] at t118_0_25
          have t118_0_23 := congrFun (congrFun w118 0) 23
          rw [zwr_ne (Or.inl (by decide))] at t118_0_23
          refine zW_iinc (ls' := [_, _, _, _, _, _]) (pc' := 122) dX12_truth_4.1.2.2.1 rfl (by decide) rfl rfl rfl ?_
          refine zV_goto 90 dX12_truth_4.1.2.2.2 rfl ?_
          exact k90 _ _ _ _ _ hF (by omega) (by omega) (by omega) (by omega) (by omega) (by omega) (by omega) (by omega) (by omega) (by omega) (fun j => by have q0 := gc3 j; have q1 := a118_16 j; omega) (fun j => by have q0 := gc4 j; have q1 := a118_1 j; have q2 := a118_10 j; omega) (fun j => by have q0 := gc5 j; have q1 := a118_2 j; by_cases ej : j = (256 * v5 + v4).toNat; (have e1 : j / 256 = v5.toNat := (by omega); have e2 : 3 + v5.toNat = (3 + v5).toNat := (by omega); have e3 : ((j % 16 : Nat) : Int) = v3 := (by omega); have e4 : ((j % 256 / 16 : Nat) : Int) = v2 := (by omega); unfold trT; dsimp only; rw [e1, e2, e3, e4, ← s118]; omega); exact fC_ne ej (by omega) (by omega) (by omega) (by omega) (q1.2 ej) q0) (by omega)
  refine zM_of [some (.inr (.inr 0)), some (.inl x1), none, none, none, none] 4 rfl rfl (Nat.le_of_ble_eq_true rfl) rfl ?_
  refine (show ∀ h : Hp, Fm [(1, 999), (2, 999), (10, 999), (16, 999), (0, 21), (0, 25), (0, 23)] κ h → h = κ → zV G mX12_truth (q_X12_truthE κ x1) 0 [some (.inr (.inr 0)), some (.inl x1), none, none, none, none] [] h from fun h hF hk0 => ?_) κ (Fm.rf hS hR hC) rfl
  have y0_0_25 : h 0 25 = κ 0 25 := by rw [hk0]
  have a0_1 := fun j : Nat => congrFun (congrFun hk0 1) j
  have a0_2 := fun j : Nat => congrFun (congrFun hk0 2) j
  have a0_10 := fun j : Nat => congrFun (congrFun hk0 10) j
  have a0_16 := fun j : Nat => congrFun (congrFun hk0 16) j
  refine zW_iload_n (pc' := 1) dX12_truth_0.1.1.1.1 rfl rfl ?_
  refine zW_iconst (pc' := 2) dX12_truth_0.1.1.1.2 rfl ?_
  refine zW_iconst (pc' := 3) dX12_truth_0.1.1.2.1 rfl ?_
  refine csI3 (pc' := 6) kX12_in vX12_in lk_X12_140 ⟨Nat.le_of_ble_eq_true rfl, Nat.le_of_ble_eq_true rfl⟩ rfl (s_X12_inR (b := bdB true) (κ := h) (Fr.rf hF.2.1) _ ⟨by omega, by omega⟩ _ ⟨by omega, by omega⟩ _ ⟨by omega, by omega⟩) dX12_truth_0.1.1.2.2 (Nat.le_of_ble_eq_true rfl) rfl ?_
  rintro r3 z3 ⟨hz3, p3⟩; subst z3
  refine zV_if_eq (tgt := 18) (pc' := 9) dX12_truth_0.1.2.1.1 rfl rfl ⟨by omega, by omega⟩ (fun c6 => ?_) (fun c6 => ?_)
  · refine zW_iconst (pc' := 19) dX12_truth_0.2.1.1.2 rfl ?_
    exact zV_zret rfl (by omega) dX12_truth_0.2.1.2.1 ⟨hF, ⟨⟨by omega, by omega, by omega, (fun j => by have q0 := a0_1 j; have q1 := a0_10 j; omega), (fun j => by have q0 := a0_2 j; omega)⟩, (by first | exact Or.inl (by omega) | exact Or.inr hU | exact Or.inr (by rw [hk0]; exact UnR.rf))⟩⟩
  · refine zW_aload_n (pc' := 10) dX12_truth_0.1.2.1.2 rfl rfl ?_
    refine zG_int (pc' := 13) fg_X12_116 tb0 rfl dX12_truth_0.1.2.2.1 rfl ?_
    have e10 := KRt hF.2.2.1
    refine zW_bipush (pc' := 15) dX12_truth_0.1.2.2.2 rfl rfl ?_
    refine zV_cm_ge (tgt := 20) (pc' := 18) dX12_truth_0.2.1.1.1 rfl rfl ⟨by omega, by omega⟩ ⟨by omega, by omega⟩ (fun c15 => ?_) (fun c15 => ?_)
    · refine zW_iconst (pc' := 21) dX12_truth_0.2.1.2.2 rfl ?_
      refine zW_istore_n (ls' := [_, _, _, _, _, _]) (pc' := 22) dX12_truth_0.2.2.1.1 (by decide) rfl rfl rfl ?_
      exact (main 10000000000000000000000000000000000000000).1 _ _ hF (by omega) (by omega) (by omega) (by omega) (fun j => by have q0 := a0_16 j; omega) (fun j => by have q0 := a0_1 j; have q1 := a0_2 j; have q2 := a0_10 j; omega) (by omega)
    · refine zW_iconst (pc' := 19) dX12_truth_0.2.1.1.2 rfl ?_
      exact zV_zret rfl (by omega) dX12_truth_0.2.1.2.1 ⟨hF, ⟨⟨by omega, by omega, by omega, (fun j => by have q0 := a0_1 j; have q1 := a0_10 j; omega), (fun j => by have q0 := a0_2 j; omega)⟩, (by first | exact Or.inl (by omega) | exact Or.inr hU | exact Or.inr (by rw [hk0]; exact UnR.rf))⟩⟩

abbrev q_X10_isFirstE (κ h : Hp) (x1 : Int) (x2 : Int) (x3 : Int) : Int → Hp → Prop := fun r h' => h' = h ∧ ((0 ≤ r) ∧ (r ≤ 1) ∧ ((x1 = 1 → (r = 1 ↔ 2 * x2 < κ 33 0)) ∧ (x1 = 2 → (r = 1 ↔ 2 * (x2 + x3) < κ 33 0 + κ 33 1)) ∧ (x1 = 3 → (r = 1 ↔ 2 * x3 < κ 33 1)) ∧ (x1 = 4 → (r = 1 ↔ (x2 / 2 + x3 / 2) % 2 = 0)) ∧ (x1 = 0 ∨ x1 = 5 → r = 1)))
set_option maxHeartbeats 4000000 in
set_option maxRecDepth 20000 in
theorem s_X10_isFirstE {G : Ga} {b : Bd} {κ h : Hp} (hK : KC κ) (hF : Fr b κ h) (x1 : Int) (hx1 : rng x1) (x2 : Int) (hx2 : 0 ≤ x2 ∧ x2 ≤ 15 ∧ x2 - κ 33 0 ≤ -1) (x3 : Int) (hx3 : 0 ≤ x3 ∧ x3 ≤ 15 ∧ x3 - κ 33 1 ≤ -1) (hev : Ev κ) : zM G mX10_isFirst yX10_isFirst [.inr (.inr 39), .inl x1, .inl x2, .inl x3, .inr (.inr 33)] h (q_X10_isFirstE κ h x1 x2 x3) := by
  have f_33_0 := KCw hK
  have f_33_1 := KCh hK
  have f_36_0 := KCk0 hK
  have f_36_1 := KCk1 hK
  have hev2 := hev
  unfold Ev at hev2
  unfold rng at hx1
  refine zM_of [some (.inr (.inr 39)), some (.inl x1), some (.inl x2), some (.inl x3), some (.inr (.inr 33))] 0 rfl rfl (Nat.le_of_ble_eq_true rfl) rfl ?_
  refine zW_iload_n (pc' := 1) dX10_isFirst_0.1.1.1.1 rfl rfl ?_
  refine zW_tsw2 (fun z t => (z = 1 ∧ t = 32) ∨ (z = 2 ∧ t = 49) ∨ (z = 3 ∧ t = 74) ∨ (z = 4 ∧ t = 91)) (fun z => if z = 1 then 32 else if z = 2 then 49 else if z = 3 then 74 else if z = 4 then 91 else 109) dX10_isFirst_0.1.1.1.2 ⟨by omega, by omega⟩ (tsw_ok (pc := 1) (lo := 1) (offs := #[31, 48, 73, 90]) (tg := fun z => if z = 1 then 32 else if z = 2 then 49 else if z = 3 then 74 else if z = 4 then 91 else 109) (by decide +kernel)) rfl (by decide +kernel) (td := 109) rfl (fun c1 => ?_) (fun t1 w1 => ?_)
  · refine zW_iconst (pc' := 110) dX10_isFirst_3.2.1 rfl ?_
    exact zV_zret rfl (by omega) dX10_isFirst_3.2.2 ⟨rfl, by omega⟩
  · rcases w1 with ⟨s1, rfl⟩ | ⟨s2, rfl⟩ | ⟨s3, rfl⟩ | ⟨s4, rfl⟩
    · refine zW_iload_n (pc' := 33) dX10_isFirst_0.1.1.2.1 rfl rfl ?_
      refine zW_aload (pc' := 35) dX10_isFirst_0.1.1.2.2 rfl rfl ?_
      refine zG_key (pc' := 38) hF rfl fg_X10_27 tb33 rfl dX10_isFirst_0.1.2.1.1 rfl ?_
      refine zW_iconst (pc' := 39) dX10_isFirst_0.1.2.1.2 rfl ?_
      refine zW_idiv (pc' := 40) (by omega) (by omega) dX10_isFirst_0.1.2.2.1 rfl ?_
      refine zV_cm_ge (tgt := 47) (pc' := 43) dX10_isFirst_0.1.2.2.2 rfl rfl ⟨by omega, by omega⟩ ⟨by omega, by omega⟩ (fun c40 => ?_) (fun c40 => ?_)
      · refine zW_iconst (pc' := 48) dX10_isFirst_0.2.1.2.1 rfl ?_
        exact zV_zret rfl (by omega) dX10_isFirst_0.2.1.2.2 ⟨rfl, by omega⟩
      · refine zW_iconst (pc' := 44) dX10_isFirst_0.2.1.1.1 rfl ?_
        refine zV_goto 48 dX10_isFirst_0.2.1.1.2 rfl ?_
        exact zV_zret rfl (by omega) dX10_isFirst_0.2.1.2.2 ⟨rfl, by omega⟩
    · refine zW_iload_n (pc' := 50) dX10_isFirst_0.2.2.1.1 rfl rfl ?_
      refine zW_iload_n (pc' := 51) dX10_isFirst_0.2.2.1.2 rfl rfl ?_
      refine zW_iadd (pc' := 52) dX10_isFirst_0.2.2.2.1 rfl ?_
      refine zW_aload (pc' := 54) dX10_isFirst_0.2.2.2.2 rfl rfl ?_
      refine zG_key (pc' := 57) hF rfl fg_X10_27 tb33 rfl dX10_isFirst_1.1.1.1.1 rfl ?_
      refine zW_aload (pc' := 59) dX10_isFirst_1.1.1.1.2 rfl rfl ?_
      refine zG_key (pc' := 62) hF rfl fg_X10_21 tb33 rfl dX10_isFirst_1.1.1.2.1 rfl ?_
      refine zW_iadd (pc' := 63) dX10_isFirst_1.1.1.2.2 rfl ?_
      refine zW_iconst (pc' := 64) dX10_isFirst_1.1.2.1.1 rfl ?_
      refine zW_idiv (pc' := 65) (by omega) (by omega) dX10_isFirst_1.1.2.1.2 rfl ?_
      refine zV_cm_ge (tgt := 72) (pc' := 68) dX10_isFirst_1.1.2.2.1 rfl rfl ⟨by omega, by omega⟩ ⟨by omega, by omega⟩ (fun c65 => ?_) (fun c65 => ?_)
      · refine zW_iconst (pc' := 73) dX10_isFirst_1.2.1.1.2 rfl ?_
        exact zV_zret rfl (by omega) dX10_isFirst_1.2.1.2.1 ⟨rfl, by omega⟩
      · refine zW_iconst (pc' := 69) dX10_isFirst_1.1.2.2.2 rfl ?_
        refine zV_goto 73 dX10_isFirst_1.2.1.1.1 rfl ?_
        exact zV_zret rfl (by omega) dX10_isFirst_1.2.1.2.1 ⟨rfl, by omega⟩
    · refine zW_iload_n (pc' := 75) dX10_isFirst_1.2.1.2.2 rfl rfl ?_
      refine zW_aload (pc' := 77) dX10_isFirst_1.2.2.1.1 rfl rfl ?_
      refine zG_key (pc' := 80) hF rfl fg_X10_21 tb33 rfl dX10_isFirst_1.2.2.1.2 rfl ?_
      refine zW_iconst (pc' := 81) dX10_isFirst_1.2.2.2.1 rfl ?_
      refine zW_idiv (pc' := 82) (by omega) (by omega) dX10_isFirst_1.2.2.2.2 rfl ?_
      refine zV_cm_ge (tgt := 89) (pc' := 85) dX10_isFirst_2.1.1.1.1 rfl rfl ⟨by omega, by omega⟩ ⟨by omega, by omega⟩ (fun c82 => ?_) (fun c82 => ?_)
      · refine zW_iconst (pc' := 90) dX10_isFirst_2.1.1.2.2 rfl ?_
        exact zV_zret rfl (by omega) dX10_isFirst_2.1.2.1.1 ⟨rfl, by omega⟩
      · refine zW_iconst (pc' := 86) dX10_isFirst_2.1.1.1.2 rfl ?_
        refine zV_goto 90 dX10_isFirst_2.1.1.2.1 rfl ?_
        exact zV_zret rfl (by omega) dX10_isFirst_2.1.2.1.1 ⟨rfl, by omega⟩
    · refine zW_iload_n (pc' := 92) dX10_isFirst_2.1.2.1.2 rfl rfl ?_
      refine zW_iconst (pc' := 93) dX10_isFirst_2.1.2.2.1 rfl ?_
      refine zW_idiv (pc' := 94) (by omega) (by omega) dX10_isFirst_2.1.2.2.2 rfl ?_
      refine zW_iload_n (pc' := 95) dX10_isFirst_2.2.1.1.1 rfl rfl ?_
      refine zW_iconst (pc' := 96) dX10_isFirst_2.2.1.1.2 rfl ?_
      refine zW_idiv (pc' := 97) (by omega) (by omega) dX10_isFirst_2.2.1.2.1 rfl ?_
      refine zW_iadd (pc' := 98) dX10_isFirst_2.2.1.2.2 rfl ?_
      refine zW_iconst (pc' := 99) dX10_isFirst_2.2.2.1.1 rfl ?_
      refine zW_irem (pc' := 100) (by omega) (by omega) dX10_isFirst_2.2.2.1.2 rfl ?_
      refine zV_if_ne (tgt := 107) (pc' := 103) dX10_isFirst_2.2.2.2.1 rfl rfl ⟨by omega, by omega⟩ (fun c100 => ?_) (fun c100 => ?_)
      · refine zW_iconst (pc' := 108) dX10_isFirst_3.1.1.2 rfl ?_
        exact zV_zret rfl (by omega) dX10_isFirst_3.1.2 ⟨rfl, by omega⟩
      · refine zW_iconst (pc' := 104) dX10_isFirst_2.2.2.2.2 rfl ?_
        refine zV_goto 108 dX10_isFirst_3.1.1.1 rfl ?_
        exact zV_zret rfl (by omega) dX10_isFirst_3.1.2 ⟨rfl, by omega⟩

abbrev q_X10_layE (κ : Hp) (x1 : Int) : Int → Hp → Prop := fun r h' => Fm [(40, 999)] κ h' ∧ ((∀ j : Nat, ((j < 768 ∧ (((j / 256 : Nat) : Int) < 3 ∧ ((j % 256 / 16 : Nat) : Int) < κ 33 1 ∧ ((j % 16 : Nat) : Int) < κ 33 0)) → h' 40 j = trT x1 (κ 33 0) (κ 33 1) (κ 32) j) ∧ (¬ (j < 768 ∧ (((j / 256 : Nat) : Int) < 3 ∧ ((j % 256 / 16 : Nat) : Int) < κ 33 1 ∧ ((j % 16 : Nat) : Int) < κ 33 0)) → h' 40 j = κ 40 j)))
set_option maxHeartbeats 4000000 in
set_option maxRecDepth 20000 in
theorem s_X10_layE {G : Ga} {κ : Hp} (hS : SI κ) (hR : KR κ) (hC : KC κ) (x1 : Int) (hx1 : 0 ≤ x1 ∧ x1 ≤ 5) (h6 : 6 ≤ κ 31 1) (htb : ∀ j : Nat, (j : Int) < κ 31 1 → 0 ≤ κ 32 j ∧ κ 32 j ≤ 255) (hev : Ev κ) : zM G mX10_lay yX10_lay [.inr (.inr 39), .inl x1, .inr (.inr 31), .inr (.inr 33)] κ (q_X10_layE κ x1) := by
  have f_31_1 := KCt hC
  have f_33_0 := KCw hC
  have f_33_1 := KCh hC
  have f_36_0 := KCk0 hC
  have f_36_1 := KCk1 hC
  have main : ∀ N : Nat, (∀ (v4 : Int) (h : Hp), Fm [(40, 999)] κ h → (0 ≤ v4 ∧ v4 ≤ 3) → (∀ j : Nat, ((j < 768 ∧ (((j / 256 : Nat) : Int) < v4 ∧ ((j % 256 / 16 : Nat) : Int) < κ 33 1 ∧ ((j % 16 : Nat) : Int) < κ 33 0)) → h 40 j = trT x1 (κ 33 0) (κ 33 1) (κ 32) j) ∧ (¬ (j < 768 ∧ (((j / 256 : Nat) : Int) < v4 ∧ ((j % 256 / 16 : Nat) : Int) < κ 33 1 ∧ ((j % 16 : Nat) : Int) < κ 33 0)) → h 40 j = κ 40 j)) → 32575102560 + 84610656 * (3 - v4) + 83525904 < (N : Int) → zV G mX10_lay (q_X10_layE κ x1) 3 [some (.inr (.inr 39)), some (.inl x1), some (.inr (.inr 31)), some (.inr (.inr 33)), some (.inl v4), none, none, none, none, none] [] h) ∧ (∀ (v4 v5 v6 v7 : Int) (h : Hp), Fm [(40, 999)] κ h → (0 ≤ v4 ∧ v4 ≤ 2) → (rng v5) → (rng v6) → (0 ≤ v7 ∧ v7 ≤ 16) → (v7 - κ 33 1 ≤ 0) → (v5 = κ 32 v4.toNat ∧ v6 = κ 32 (3 + v4).toNat ∧ (0 ≤ v5 ∧ v5 ≤ 255) ∧ (0 ≤ v6 ∧ v6 ≤ 255)) → (∀ j : Nat, ((j < 768 ∧ ((((j / 256 : Nat) : Int) < v4 ∧ ((j % 256 / 16 : Nat) : Int) < κ 33 1 ∧ ((j % 16 : Nat) : Int) < κ 33 0) ∨ (((j / 256 : Nat) : Int) = v4 ∧ ((j % 256 / 16 : Nat) : Int) < v7 ∧ ((j % 16 : Nat) : Int) < κ 33 0))) → h 40 j = trT x1 (κ 33 0) (κ 33 1) (κ 32) j) ∧ (¬ (j < 768 ∧ ((((j / 256 : Nat) : Int) < v4 ∧ ((j % 256 / 16 : Nat) : Int) < κ 33 1 ∧ ((j % 16 : Nat) : Int) < κ 33 0) ∨ (((j / 256 : Nat) : Int) = v4 ∧ ((j % 256 / 16 : Nat) : Int) < v7 ∧ ((j % 16 : Nat) : Int) < κ 33 0))) → h 40 j = κ 40 j)) → 32575102560 + 84610656 * (3 - v4) + 66169872 + 60264 * (16 - v7) + 59292 < (N : Int) → zV G mX10_lay (q_X10_layE κ x1) 30 [some (.inr (.inr 39)), some (.inl x1), some (.inr (.inr 31)), some (.inr (.inr 33)), some (.inl v4), some (.inl v5), some (.inl v6), some (.inl v7), none, none] [] h) ∧ (∀ (v4 v5 v6 v7 v8 : Int) (h : Hp), Fm [(40, 999)] κ h → (0 ≤ v4 ∧ v4 ≤ 2) → (rng v5) → (rng v6) → (0 ≤ v7 ∧ v7 ≤ 15) → (v7 - κ 33 1 ≤ -1) → (0 ≤ v8 ∧ v8 ≤ 16) → (v8 - κ 33 0 ≤ 0) → (v5 = κ 32 v4.toNat ∧ v6 = κ 32 (3 + v4).toNat ∧ (0 ≤ v5 ∧ v5 ≤ 255) ∧ (0 ≤ v6 ∧ v6 ≤ 255)) → (∀ j : Nat, ((j < 768 ∧ (((((j / 256 : Nat) : Int) < v4 ∧ ((j % 256 / 16 : Nat) : Int) < κ 33 1 ∧ ((j % 16 : Nat) : Int) < κ 33 0) ∨ (((j / 256 : Nat) : Int) = v4 ∧ ((j % 256 / 16 : Nat) : Int) < v7 ∧ ((j % 16 : Nat) : Int) < κ 33 0)) ∨ (((j / 256 : Nat) : Int) = v4 ∧ ((j % 256 / 16 : Nat) : Int) = v7 ∧ ((j % 16 : Nat) : Int) < v8))) → h 40 j = trT x1 (κ 33 0) (κ 33 1) (κ 32) j) ∧ (¬ (j < 768 ∧ (((((j / 256 : Nat) : Int) < v4 ∧ ((j % 256 / 16 : Nat) : Int) < κ 33 1 ∧ ((j % 16 : Nat) : Int) < κ 33 0) ∨ (((j / 256 : Nat) : Int) = v4 ∧ ((j % 256 / 16 : Nat) : Int) < v7 ∧ ((j % 16 : Nat) : Int) < κ 33 0)) ∨ (((j / 256 : Nat) : Int) = v4 ∧ ((j % 256 / 16 : Nat) : Int) = v7 ∧ ((j % 16 : Nat) : Int) < v8))) → h 40 j = κ 40 j)) → 32575102560 + 84610656 * (3 - v4) + 66169872 + 60264 * (16 - v7) + 51516 + 54 * (16 - v8) + 53 < (N : Int) → zV G mX10_lay (q_X10_layE κ x1) 42 [some (.inr (.inr 39)), some (.inl x1), some (.inr (.inr 31)), some (.inr (.inr 33)), some (.inl v4), some (.inl v5), some (.inl v6), some (.inl v7), some (.inl v8), none] [] h) := by
    intro N
    induction N with
    | zero =>
      refine ⟨?_, ?_, ?_⟩
      · intro v4 h hF g0 gc0 hm
        exfalso; omega
      · intro v4 v5 v6 v7 h hF g0 g1 g2 g3 g4 gc0 gc1 hm
        unfold rng at g1
        unfold rng at g2
        exfalso; omega
      · intro v4 v5 v6 v7 v8 h hF g0 g1 g2 g3 g4 g5 g6 gc0 gc1 hm
        unfold rng at g1
        unfold rng at g2
        exfalso; omega
    | succ N ih =>
      obtain ⟨k3, k30, k42⟩ := ih
      refine ⟨?_, ?_, ?_⟩
      · intro v4 h hF g0 gc0 hm
        refine zW_iload (pc' := 5) dX10_lay_0.1.1.2.1 rfl rfl ?_
        refine zW_iconst (pc' := 6) dX10_lay_0.1.1.2.2 rfl ?_
        refine zV_cm_gt (tgt := 146) (pc' := 9) dX10_lay_0.1.2.1.1 rfl rfl ⟨by omega, by omega⟩ ⟨by omega, by omega⟩ (fun c6 => ?_) (fun c6 => ?_)
        · exact zV_vret rfl dX10_lay_4.2.2.2 ⟨hF, (fun j => by have q0 := gc0 j; omega)⟩
        · refine zW_aload_n (pc' := 10) dX10_lay_0.1.2.1.2 rfl rfl ?_
          refine zW_iload (pc' := 12) dX10_lay_0.1.2.2.1 rfl rfl ?_
          have y12_31_1 := hF.1 31 1 rfl rfl
          refine cvI1 (pc' := 15) kX9_byteAt vX9_byteAt lk_X10_15 ⟨Nat.le_of_ble_eq_true rfl, Nat.le_of_ble_eq_true rfl⟩ tb31 vq9 rfl rfl (s_X9_byteAtE (b := bdB true) (κ := h) hF.2.2.2 (Fr.rf hF.2.1) _ ⟨by omega, by omega⟩) dX10_lay_0.1.2.2.2 (Nat.le_of_ble_eq_true rfl) rfl ?_
          rintro r12 z12 ⟨hz12, p12⟩; subst z12
          have y32 := hF.1 32 v4.toNat rfl rfl; have y31 := hF.1 31 1 rfl rfl; have y33 := htb v4.toNat (by omega)
          refine zW_istore (ls' := [_, _, _, _, _, _, _, _, _, _]) (pc' := 17) dX10_lay_0.2.1.1.1 (by decide) rfl rfl rfl ?_
          refine zW_aload_n (pc' := 18) dX10_lay_0.2.1.1.2 rfl rfl ?_
          refine zW_iconst (pc' := 19) dX10_lay_0.2.1.2.1 rfl ?_
          refine zW_iload (pc' := 21) dX10_lay_0.2.1.2.2 rfl rfl ?_
          refine zW_iadd (pc' := 22) dX10_lay_0.2.2.1.1 rfl ?_
          have y22_31_1 := hF.1 31 1 rfl rfl
          refine cvI1 (pc' := 25) kX9_byteAt vX9_byteAt lk_X10_15 ⟨Nat.le_of_ble_eq_true rfl, Nat.le_of_ble_eq_true rfl⟩ tb31 vq9 rfl rfl (s_X9_byteAtE (b := bdB true) (κ := h) hF.2.2.2 (Fr.rf hF.2.1) _ ⟨by omega, by omega⟩) dX10_lay_0.2.2.1.2 (Nat.le_of_ble_eq_true rfl) rfl ?_
          rintro r22 z22 ⟨hz22, p22⟩; subst z22
          have y32b := hF.1 32 (3 + v4).toNat rfl rfl; have y33b := htb (3 + v4).toNat (by omega)
          refine zW_istore (ls' := [_, _, _, _, _, _, _, _, _, _]) (pc' := 27) dX10_lay_0.2.2.2.1 (by decide) rfl rfl rfl ?_
          refine zW_iconst (pc' := 28) dX10_lay_0.2.2.2.2 rfl ?_
          refine zW_istore (ls' := [_, _, _, _, _, _, _, _, _, _]) (pc' := 30) dX10_lay_1.1.1.1.1 (by decide) rfl rfl rfl ?_
          exact k30 _ _ _ _ _ hF (by omega) ⟨by omega, by omega⟩ ⟨by omega, by omega⟩ (by omega) (by omega) (by omega) (fun j => by have q0 := gc0 j; omega) (by omega)
      · intro v4 v5 v6 v7 h hF g0 g1 g2 g3 g4 gc0 gc1 hm
        unfold rng at g1
        unfold rng at g2
        refine zW_iload (pc' := 32) dX10_lay_1.1.1.1.2 rfl rfl ?_
        refine zW_aload_n (pc' := 33) dX10_lay_1.1.1.2.1 rfl rfl ?_
        refine zGm (pc' := 36) hF rfl rfl fg_X10_21 tb33 rfl dX10_lay_1.1.1.2.2 rfl ?_
        refine zV_cm_ge (tgt := 140) (pc' := 39) dX10_lay_1.1.2.1.1 rfl rfl ⟨by omega, by omega⟩ ⟨by omega, by omega⟩ (fun c36 => ?_) (fun c36 => ?_)
        · refine zW_iinc (ls' := [_, _, _, _, _, _, _, _, _, _]) (pc' := 143) dX10_lay_4.2.2.1.1 rfl (by decide) rfl rfl rfl ?_
          refine zV_goto 3 dX10_lay_4.2.2.1.2 rfl ?_
          refine zV_clr 5 (ls' := [_, _, _, _, _, _, _, _, _, _]) rfl ?_
          refine zV_clr 6 (ls' := [_, _, _, _, _, _, _, _, _, _]) rfl ?_
          refine zV_clr 7 (ls' := [_, _, _, _, _, _, _, _, _, _]) rfl ?_
          exact k3 _ _ hF (by omega) (fun j => by have q0 := gc1 j; omega) (by omega)
        · refine zW_iconst (pc' := 40) dX10_lay_1.1.2.1.2 rfl ?_
          refine zW_istore (ls' := [_, _, _, _, _, _, _, _, _, _]) (pc' := 42) dX10_lay_1.1.2.2.1 (by decide) rfl rfl rfl ?_
          exact k42 _ _ _ _ _ _ hF (by omega) ⟨by omega, by omega⟩ ⟨by omega, by omega⟩ (by omega) (by omega) (by omega) (by omega) (by omega) (fun j => by have q0 := gc1 j; omega) (by omega)
      · intro v4 v5 v6 v7 v8 h hF g0 g1 g2 g3 g4 g5 g6 gc0 gc1 hm
        unfold rng at g1
        unfold rng at g2
        refine zW_iload (pc' := 44) dX10_lay_1.1.2.2.2 rfl rfl ?_
        refine zW_aload_n (pc' := 45) dX10_lay_1.2.1.1.1 rfl rfl ?_
        refine zGm (pc' := 48) hF rfl rfl fg_X10_27 tb33 rfl dX10_lay_1.2.1.1.2 rfl ?_
        refine zV_cm_ge (tgt := 134) (pc' := 51) dX10_lay_1.2.1.2.1 rfl rfl ⟨by omega, by omega⟩ ⟨by omega, by omega⟩ (fun c48 => ?_) (fun c48 => ?_)
        · refine zW_iinc (ls' := [_, _, _, _, _, _, _, _, _, _]) (pc' := 137) dX10_lay_4.2.1.2.1 rfl (by decide) rfl rfl rfl ?_
          refine zV_goto 30 dX10_lay_4.2.1.2.2 rfl ?_
          refine zV_clr 8 (ls' := [_, _, _, _, _, _, _, _, _, _]) rfl ?_
          exact k30 _ _ _ _ _ hF (by omega) ⟨by omega, by omega⟩ ⟨by omega, by omega⟩ (by omega) (by omega) (by omega) (fun j => by have q0 := gc1 j; omega) (by omega)
        · refine zW_aload_n (pc' := 52) dX10_lay_1.2.1.2.2 rfl rfl ?_
          refine zW_iload_n (pc' := 53) dX10_lay_1.2.2.1.1 rfl rfl ?_
          refine zW_iload (pc' := 55) dX10_lay_1.2.2.1.2 rfl rfl ?_
          refine zW_iload (pc' := 57) dX10_lay_1.2.2.2.1 rfl rfl ?_
          refine zW_aload_n (pc' := 58) dX10_lay_1.2.2.2.2 rfl rfl ?_
          have y58a := hF.1 33 0 rfl rfl; have y58b := hF.1 33 1 rfl rfl
          have y58_33_0 := hF.1 33 0 rfl rfl
          have y58_33_1 := hF.1 33 1 rfl rfl
          refine cvI4 (pc' := 61) kX10_isFirst vX10_isFirst lk_X10_30 ⟨Nat.le_of_ble_eq_true rfl, Nat.le_of_ble_eq_true rfl⟩ tb39 vq10 rfl rfl (s_X10_isFirstE (b := bdB true) (κ := h) hF.2.2.2 (Fr.rf hF.2.1) _ ⟨by omega, by omega⟩ _ ⟨by omega, by omega, by omega⟩ _ ⟨by omega, by omega, by omega⟩ (show Ev h from ⟨by rw [y58a]; exact hev.1, by rw [y58b]; exact hev.2⟩)) dX10_lay_2.1.1.1.1 (Nat.le_of_ble_eq_true rfl) rfl ?_
          rintro r58 z58 ⟨hz58, p58⟩; subst z58
          have w58 : r58 = fsT x1 (κ 33 0) (κ 33 1) v8 v7 := fsT_of (by omega) (by omega) (by have z := p58.2.2; rw [y58a, y58b] at z; exact z)
          have s58 := And.intro p58.1 p58.2.1
          clear p58
          refine zV_if_eq (tgt := 69) (pc' := 64) dX10_lay_2.1.1.1.2 rfl rfl ⟨by omega, by omega⟩ (fun c61 => ?_) (fun c61 => ?_)
          · refine zW_iload (pc' := 71) dX10_lay_2.1.2.1.1 rfl rfl ?_
            refine zW_istore (ls' := [_, _, _, _, _, _, _, _, _, _]) (pc' := 73) dX10_lay_2.1.2.1.2 (by decide) rfl rfl rfl ?_
            refine zW_iload_n (pc' := 74) dX10_lay_2.1.2.2.1 rfl rfl ?_
            refine zW_iconst (pc' := 75) dX10_lay_2.1.2.2.2 rfl ?_
            refine zV_cm_ne (tgt := 106) (pc' := 78) dX10_lay_2.2.1.1.1 rfl rfl ⟨by omega, by omega⟩ ⟨by omega, by omega⟩ (fun c75 => ?_) (fun c75 => ?_)
            · refine zW_aload_n (pc' := 107) dX10_lay_3.2.1.2.1 rfl rfl ?_
              refine zG_ref (pc' := 110) 40 fg_X10_9 tb39 rfl dX10_lay_3.2.1.2.2 rfl ?_
              refine zW_iload (pc' := 112) dX10_lay_3.2.2.1.1 rfl rfl ?_
              refine zW_sipush (pc' := 115) dX10_lay_3.2.2.1.2 rfl rfl ?_
              refine zW_imul (pc' := 116) dX10_lay_3.2.2.2.1 rfl ?_
              refine zW_iload (pc' := 118) dX10_lay_3.2.2.2.2 rfl rfl ?_
              refine zW_bipush (pc' := 120) dX10_lay_4.1.1.1.1 rfl rfl ?_
              refine zW_imul (pc' := 121) dX10_lay_4.1.1.1.2 rfl ?_
              refine zW_iadd (pc' := 122) dX10_lay_4.1.1.2.1 rfl ?_
              refine zW_iload (pc' := 124) dX10_lay_4.1.1.2.2 rfl rfl ?_
              refine zW_iadd (pc' := 125) dX10_lay_4.1.2.1.1 rfl ?_
              refine zW_iload (pc' := 127) dX10_lay_4.1.2.1.2 rfl rfl ?_
              refine zSm (pc' := 128) hF rfl (fun v' hv he => ⟨(SI_irr hF.2.1 (Or.inl (key_of rfl _)) (fun _ _ => hv)), (KR_irr hF.2.2.1 rfl), (KC_irr hF.2.2.2 rfl)⟩) tb40 (by omega) dX10_lay_4.1.2.2 (by decide) rfl (fun h i127 hF a127 b127 w127 => ?_)
              have a127_40 := fun j : Nat => zwr_pt (congrFun (congrFun w127 40) j)
              replace b127 := b127 ⟨by omega, by omega⟩
              have s127 : i127 = trF x1 v5 v6 (κ 33 0) (κ 33 1) v8 v7 := by first | (rw [trF_5 (by omega)]; omega) | (rw [trF_fs (by omega), if_pos (by omega)]; omega) | (rw [trF_fs (by omega), if_neg (by omega)]; omega)
              refine zW_iinc (ls' := [_, _, _, _, _, _, _, _, _, _]) (pc' := 131) dX10_lay_4.2.1.1.1 rfl (by decide) rfl rfl rfl ?_
              refine zV_goto 42 dX10_lay_4.2.1.1.2 rfl ?_
              refine zV_clr 9 (ls' := [_, _, _, _, _, _, _, _, _, _]) rfl ?_
              exact k42 _ _ _ _ _ _ hF (by omega) ⟨by omega, by omega⟩ ⟨by omega, by omega⟩ (by omega) (by omega) (by omega) (by omega) (by omega) (fun j => by have q0 := gc1 j; have q1 := a127_40 j; by_cases ej : j = (v4 * 256 + v7 * 16 + v8).toNat; (have e1 : j / 256 = v4.toNat := (by omega); have e2 : 3 + v4.toNat = (3 + v4).toNat := (by omega); have e3 : ((j % 16 : Nat) : Int) = v8 := (by omega); have e4 : ((j % 256 / 16 : Nat) : Int) = v7 := (by omega); unfold trT; rw [e1, e2, e3, e4, ← gc0.1, ← gc0.2.1, ← s127]; omega); exact f40_ne ej (by omega) (by omega) (by omega) (q1.2 ej) q0) (by omega)
            · refine zW_aload_n (pc' := 79) dX10_lay_2.2.1.1.2 rfl rfl ?_
              refine zGm (pc' := 82) hF rfl rfl fg_X10_27 tb33 rfl dX10_lay_2.2.1.2.1 rfl ?_
              refine zW_iconst (pc' := 83) dX10_lay_2.2.1.2.2 rfl ?_
              refine zV_cm_le (tgt := 106) (pc' := 86) dX10_lay_2.2.2.1.1 rfl rfl ⟨by omega, by omega⟩ ⟨by omega, by omega⟩ (fun c83 => ?_) (fun c83 => ?_)
              · exfalso; omega
              · refine zW_iload (pc' := 88) dX10_lay_2.2.2.1.2 rfl rfl ?_
                refine zW_iload (pc' := 90) dX10_lay_2.2.2.2.1 rfl rfl ?_
                refine zW_iload (pc' := 92) dX10_lay_2.2.2.2.2 rfl rfl ?_
                refine zW_isub (pc' := 93) dX10_lay_3.1.1.1.1 rfl ?_
                refine zW_iload (pc' := 95) dX10_lay_3.1.1.1.2 rfl rfl ?_
                refine zW_imul (pc' := 96) dX10_lay_3.1.1.2.1 rfl ?_
                have m1 := mulb2 (a := v6 - v5) (b := v8) (A := 255) (B := 15) (by omega) (by omega)
                refine zW_aload_n (pc' := 97) dX10_lay_3.1.1.2.2 rfl rfl ?_
                refine zGm (pc' := 100) hF rfl rfl fg_X10_27 tb33 rfl dX10_lay_3.1.2.1.1 rfl ?_
                refine zW_iconst (pc' := 101) dX10_lay_3.1.2.1.2 rfl ?_
                refine zW_isub (pc' := 102) dX10_lay_3.1.2.2.1 rfl ?_
                refine zW_idivT (pc' := 103) ⟨by omega, by omega⟩ (by omega) dX10_lay_3.1.2.2.2 rfl ?_
                have m2 := tdb (a := (v6 - v5) * v8) (d := κ 33 0 - 1) (A := 3825) (by omega) (by omega)
                refine zW_iadd (pc' := 104) dX10_lay_3.2.1.1.1 rfl ?_
                refine zW_istore (ls' := [_, _, _, _, _, _, _, _, _, _]) (pc' := 106) dX10_lay_3.2.1.1.2 (by decide) rfl rfl rfl ?_
                refine zW_aload_n (pc' := 107) dX10_lay_3.2.1.2.1 rfl rfl ?_
                refine zG_ref (pc' := 110) 40 fg_X10_9 tb39 rfl dX10_lay_3.2.1.2.2 rfl ?_
                refine zW_iload (pc' := 112) dX10_lay_3.2.2.1.1 rfl rfl ?_
                refine zW_sipush (pc' := 115) dX10_lay_3.2.2.1.2 rfl rfl ?_
                refine zW_imul (pc' := 116) dX10_lay_3.2.2.2.1 rfl ?_
                refine zW_iload (pc' := 118) dX10_lay_3.2.2.2.2 rfl rfl ?_
                refine zW_bipush (pc' := 120) dX10_lay_4.1.1.1.1 rfl rfl ?_
                refine zW_imul (pc' := 121) dX10_lay_4.1.1.1.2 rfl ?_
                refine zW_iadd (pc' := 122) dX10_lay_4.1.1.2.1 rfl ?_
                refine zW_iload (pc' := 124) dX10_lay_4.1.1.2.2 rfl rfl ?_
                refine zW_iadd (pc' := 125) dX10_lay_4.1.2.1.1 rfl ?_
                refine zW_iload (pc' := 127) dX10_lay_4.1.2.1.2 rfl rfl ?_
                refine zSm (pc' := 128) hF rfl (fun v' hv he => ⟨(SI_irr hF.2.1 (Or.inl (key_of rfl _)) (fun _ _ => hv)), (KR_irr hF.2.2.1 rfl), (KC_irr hF.2.2.2 rfl)⟩) tb40 (by omega) dX10_lay_4.1.2.2 (by decide) rfl (fun h i127 hF a127 b127 w127 => ?_)
                have a127_40 := fun j : Nat => zwr_pt (congrFun (congrFun w127 40) j)
                replace b127 := b127 ⟨by omega, by omega⟩
                have s127 : i127 = trF x1 v5 v6 (κ 33 0) (κ 33 1) v8 v7 := by first | (rw [trF_5 (by omega)]; omega) | (rw [trF_fs (by omega), if_pos (by omega)]; omega) | (rw [trF_fs (by omega), if_neg (by omega)]; omega)
                refine zW_iinc (ls' := [_, _, _, _, _, _, _, _, _, _]) (pc' := 131) dX10_lay_4.2.1.1.1 rfl (by decide) rfl rfl rfl ?_
                refine zV_goto 42 dX10_lay_4.2.1.1.2 rfl ?_
                refine zV_clr 9 (ls' := [_, _, _, _, _, _, _, _, _, _]) rfl ?_
                exact k42 _ _ _ _ _ _ hF (by omega) ⟨by omega, by omega⟩ ⟨by omega, by omega⟩ (by omega) (by omega) (by omega) (by omega) (by omega) (fun j => by have q0 := gc1 j; have q1 := a127_40 j; by_cases ej : j = (v4 * 256 + v7 * 16 + v8).toNat; (have e1 : j / 256 = v4.toNat := (by omega); have e2 : 3 + v4.toNat = (3 + v4).toNat := (by omega); have e3 : ((j % 16 : Nat) : Int) = v8 := (by omega); have e4 : ((j % 256 / 16 : Nat) : Int) = v7 := (by omega); unfold trT; rw [e1, e2, e3, e4, ← gc0.1, ← gc0.2.1, ← s127]; omega); exact f40_ne ej (by omega) (by omega) (by omega) (q1.2 ej) q0) (by omega)
          · refine zW_iload (pc' := 66) dX10_lay_2.1.1.2.1 rfl rfl ?_
            refine zV_goto 71 dX10_lay_2.1.1.2.2 rfl ?_
            refine zW_istore (ls' := [_, _, _, _, _, _, _, _, _, _]) (pc' := 73) dX10_lay_2.1.2.1.2 (by decide) rfl rfl rfl ?_
            refine zW_iload_n (pc' := 74) dX10_lay_2.1.2.2.1 rfl rfl ?_
            refine zW_iconst (pc' := 75) dX10_lay_2.1.2.2.2 rfl ?_
            refine zV_cm_ne (tgt := 106) (pc' := 78) dX10_lay_2.2.1.1.1 rfl rfl ⟨by omega, by omega⟩ ⟨by omega, by omega⟩ (fun c75 => ?_) (fun c75 => ?_)
            · refine zW_aload_n (pc' := 107) dX10_lay_3.2.1.2.1 rfl rfl ?_
              refine zG_ref (pc' := 110) 40 fg_X10_9 tb39 rfl dX10_lay_3.2.1.2.2 rfl ?_
              refine zW_iload (pc' := 112) dX10_lay_3.2.2.1.1 rfl rfl ?_
              refine zW_sipush (pc' := 115) dX10_lay_3.2.2.1.2 rfl rfl ?_
              refine zW_imul (pc' := 116) dX10_lay_3.2.2.2.1 rfl ?_
              refine zW_iload (pc' := 118) dX10_lay_3.2.2.2.2 rfl rfl ?_
              refine zW_bipush (pc' := 120) dX10_lay_4.1.1.1.1 rfl rfl ?_
              refine zW_imul (pc' := 121) dX10_lay_4.1.1.1.2 rfl ?_
              refine zW_iadd (pc' := 122) dX10_lay_4.1.1.2.1 rfl ?_
              refine zW_iload (pc' := 124) dX10_lay_4.1.1.2.2 rfl rfl ?_
              refine zW_iadd (pc' := 125) dX10_lay_4.1.2.1.1 rfl ?_
              refine zW_iload (pc' := 127) dX10_lay_4.1.2.1.2 rfl rfl ?_
              refine zSm (pc' := 128) hF rfl (fun v' hv he => ⟨(SI_irr hF.2.1 (Or.inl (key_of rfl _)) (fun _ _ => hv)), (KR_irr hF.2.2.1 rfl), (KC_irr hF.2.2.2 rfl)⟩) tb40 (by omega) dX10_lay_4.1.2.2 (by decide) rfl (fun h i127 hF a127 b127 w127 => ?_)
              have a127_40 := fun j : Nat => zwr_pt (congrFun (congrFun w127 40) j)
              replace b127 := b127 ⟨by omega, by omega⟩
              have s127 : i127 = trF x1 v5 v6 (κ 33 0) (κ 33 1) v8 v7 := by first | (rw [trF_5 (by omega)]; omega) | (rw [trF_fs (by omega), if_pos (by omega)]; omega) | (rw [trF_fs (by omega), if_neg (by omega)]; omega)
              refine zW_iinc (ls' := [_, _, _, _, _, _, _, _, _, _]) (pc' := 131) dX10_lay_4.2.1.1.1 rfl (by decide) rfl rfl rfl ?_
              refine zV_goto 42 dX10_lay_4.2.1.1.2 rfl ?_
              refine zV_clr 9 (ls' := [_, _, _, _, _, _, _, _, _, _]) rfl ?_
              exact k42 _ _ _ _ _ _ hF (by omega) ⟨by omega, by omega⟩ ⟨by omega, by omega⟩ (by omega) (by omega) (by omega) (by omega) (by omega) (fun j => by have q0 := gc1 j; have q1 := a127_40 j; by_cases ej : j = (v4 * 256 + v7 * 16 + v8).toNat; (have e1 : j / 256 = v4.toNat := (by omega); have e2 : 3 + v4.toNat = (3 + v4).toNat := (by omega); have e3 : ((j % 16 : Nat) : Int) = v8 := (by omega); have e4 : ((j % 256 / 16 : Nat) : Int) = v7 := (by omega); unfold trT; rw [e1, e2, e3, e4, ← gc0.1, ← gc0.2.1, ← s127]; omega); exact f40_ne ej (by omega) (by omega) (by omega) (q1.2 ej) q0) (by omega)
            · refine zW_aload_n (pc' := 79) dX10_lay_2.2.1.1.2 rfl rfl ?_
              refine zGm (pc' := 82) hF rfl rfl fg_X10_27 tb33 rfl dX10_lay_2.2.1.2.1 rfl ?_
              refine zW_iconst (pc' := 83) dX10_lay_2.2.1.2.2 rfl ?_
              refine zV_cm_le (tgt := 106) (pc' := 86) dX10_lay_2.2.2.1.1 rfl rfl ⟨by omega, by omega⟩ ⟨by omega, by omega⟩ (fun c83 => ?_) (fun c83 => ?_)
              · exfalso; omega
              · refine zW_iload (pc' := 88) dX10_lay_2.2.2.1.2 rfl rfl ?_
                refine zW_iload (pc' := 90) dX10_lay_2.2.2.2.1 rfl rfl ?_
                refine zW_iload (pc' := 92) dX10_lay_2.2.2.2.2 rfl rfl ?_
                refine zW_isub (pc' := 93) dX10_lay_3.1.1.1.1 rfl ?_
                refine zW_iload (pc' := 95) dX10_lay_3.1.1.1.2 rfl rfl ?_
                refine zW_imul (pc' := 96) dX10_lay_3.1.1.2.1 rfl ?_
                have m1 := mulb2 (a := v6 - v5) (b := v8) (A := 255) (B := 15) (by omega) (by omega)
                refine zW_aload_n (pc' := 97) dX10_lay_3.1.1.2.2 rfl rfl ?_
                refine zGm (pc' := 100) hF rfl rfl fg_X10_27 tb33 rfl dX10_lay_3.1.2.1.1 rfl ?_
                refine zW_iconst (pc' := 101) dX10_lay_3.1.2.1.2 rfl ?_
                refine zW_isub (pc' := 102) dX10_lay_3.1.2.2.1 rfl ?_
                refine zW_idivT (pc' := 103) ⟨by omega, by omega⟩ (by omega) dX10_lay_3.1.2.2.2 rfl ?_
                have m2 := tdb (a := (v6 - v5) * v8) (d := κ 33 0 - 1) (A := 3825) (by omega) (by omega)
                refine zW_iadd (pc' := 104) dX10_lay_3.2.1.1.1 rfl ?_
                refine zW_istore (ls' := [_, _, _, _, _, _, _, _, _, _]) (pc' := 106) dX10_lay_3.2.1.1.2 (by decide) rfl rfl rfl ?_
                refine zW_aload_n (pc' := 107) dX10_lay_3.2.1.2.1 rfl rfl ?_
                refine zG_ref (pc' := 110) 40 fg_X10_9 tb39 rfl dX10_lay_3.2.1.2.2 rfl ?_
                refine zW_iload (pc' := 112) dX10_lay_3.2.2.1.1 rfl rfl ?_
                refine zW_sipush (pc' := 115) dX10_lay_3.2.2.1.2 rfl rfl ?_
                refine zW_imul (pc' := 116) dX10_lay_3.2.2.2.1 rfl ?_
                refine zW_iload (pc' := 118) dX10_lay_3.2.2.2.2 rfl rfl ?_
                refine zW_bipush (pc' := 120) dX10_lay_4.1.1.1.1 rfl rfl ?_
                refine zW_imul (pc' := 121) dX10_lay_4.1.1.1.2 rfl ?_
                refine zW_iadd (pc' := 122) dX10_lay_4.1.1.2.1 rfl ?_
                refine zW_iload (pc' := 124) dX10_lay_4.1.1.2.2 rfl rfl ?_
                refine zW_iadd (pc' := 125) dX10_lay_4.1.2.1.1 rfl ?_
                refine zW_iload (pc' := 127) dX10_lay_4.1.2.1.2 rfl rfl ?_
                refine zSm (pc' := 128) hF rfl (fun v' hv he => ⟨(SI_irr hF.2.1 (Or.inl (key_of rfl _)) (fun _ _ => hv)), (KR_irr hF.2.2.1 rfl), (KC_irr hF.2.2.2 rfl)⟩) tb40 (by omega) dX10_lay_4.1.2.2 (by decide) rfl (fun h i127 hF a127 b127 w127 => ?_)
                have a127_40 := fun j : Nat => zwr_pt (congrFun (congrFun w127 40) j)
                replace b127 := b127 ⟨by omega, by omega⟩
                have s127 : i127 = trF x1 v5 v6 (κ 33 0) (κ 33 1) v8 v7 := by first | (rw [trF_5 (by omega)]; omega) | (rw [trF_fs (by omega), if_pos (by omega)]; omega) | (rw [trF_fs (by omega), if_neg (by omega)]; omega)
                refine zW_iinc (ls' := [_, _, _, _, _, _, _, _, _, _]) (pc' := 131) dX10_lay_4.2.1.1.1 rfl (by decide) rfl rfl rfl ?_
                refine zV_goto 42 dX10_lay_4.2.1.1.2 rfl ?_
                refine zV_clr 9 (ls' := [_, _, _, _, _, _, _, _, _, _]) rfl ?_
                exact k42 _ _ _ _ _ _ hF (by omega) ⟨by omega, by omega⟩ ⟨by omega, by omega⟩ (by omega) (by omega) (by omega) (by omega) (by omega) (fun j => by have q0 := gc1 j; have q1 := a127_40 j; by_cases ej : j = (v4 * 256 + v7 * 16 + v8).toNat; (have e1 : j / 256 = v4.toNat := (by omega); have e2 : 3 + v4.toNat = (3 + v4).toNat := (by omega); have e3 : ((j % 16 : Nat) : Int) = v8 := (by omega); have e4 : ((j % 256 / 16 : Nat) : Int) = v7 := (by omega); unfold trT; rw [e1, e2, e3, e4, ← gc0.1, ← gc0.2.1, ← s127]; omega); exact f40_ne ej (by omega) (by omega) (by omega) (q1.2 ej) q0) (by omega)
  refine zM_of [some (.inr (.inr 39)), some (.inl x1), some (.inr (.inr 31)), some (.inr (.inr 33)), none, none, none, none, none, none] 6 rfl rfl (Nat.le_of_ble_eq_true rfl) rfl ?_
  refine (show ∀ h : Hp, Fm [(40, 999)] κ h → h = κ → zV G mX10_lay (q_X10_layE κ x1) 0 [some (.inr (.inr 39)), some (.inl x1), some (.inr (.inr 31)), some (.inr (.inr 33)), none, none, none, none, none, none] [] h from fun h hF hk0 => ?_) κ (Fm.rf hS hR hC) rfl
  have a0_40 := fun j : Nat => congrFun (congrFun hk0 40) j
  refine zW_iconst (pc' := 1) dX10_lay_0.1.1.1.1 rfl ?_
  refine zW_istore (ls' := [_, _, _, _, _, _, _, _, _, _]) (pc' := 3) dX10_lay_0.1.1.1.2 (by decide) rfl rfl rfl ?_
  exact (main 10000000000000000000000000000000000000000).1 _ _ hF (by omega) (fun j => by have q0 := a0_40 j; omega) (by omega)

abbrev q_X11_truthE (κ : Hp) (x1 : Int) : Int → Hp → Prop := fun r h' => Fm [(34, 999), (35, 999), (40, 999), (39, 1), (31, 1), (54, 7)] κ h' ∧ (((0 ≤ r) ∧ (r ≤ 1) ∧ ((r = 1 ∧ (0 ≤ x1 ∧ x1 ≤ 5 ∧ 6 ≤ κ 31 1) ∧ h' 31 1 = 0) ∨ (r = 0 ∧ ¬ (0 ≤ x1 ∧ x1 ≤ 5 ∧ 6 ≤ κ 31 1) ∧ h' 31 1 = κ 31 1)) ∧ (∀ j : Nat, (r = 1 → (j < 256 → h' 35 j = 0) ∧ ((((j / 16 : Nat) : Int) < κ 33 1 ∧ ((j % 16 : Nat) : Int) < κ 33 0) → h' 34 j = trT x1 (κ 33 0) (κ 33 1) (κ 32) (256 * ((((j % 16 : Nat) : Int) + κ 33 2) % 2 + (((j / 16 : Nat) : Int) + κ 33 2 / 2) % 2).toNat + j)) ∧ (¬ (((j / 16 : Nat) : Int) < κ 33 1 ∧ ((j % 16 : Nat) : Int) < κ 33 0) → h' 34 j = κ 34 j)) ∧ (r = 0 → h' 34 j = κ 34 j ∧ h' 35 j = κ 35 j)) ∧ (∀ j : Nat, (r = 1 → ((j < 768 ∧ (((j / 256 : Nat) : Int) < 3 ∧ ((j % 256 / 16 : Nat) : Int) < κ 33 1 ∧ ((j % 16 : Nat) : Int) < κ 33 0)) → h' 40 j = trT x1 (κ 33 0) (κ 33 1) (κ 32) j) ∧ (¬ (j < 768 ∧ (((j / 256 : Nat) : Int) < 3 ∧ ((j % 256 / 16 : Nat) : Int) < κ 33 1 ∧ ((j % 16 : Nat) : Int) < κ 33 0)) → h' 40 j = κ 40 j)) ∧ (r = 0 → h' 40 j = κ 40 j))) ∧ ChC κ h')
set_option maxHeartbeats 4000000 in
set_option maxRecDepth 20000 in
theorem s_X11_truthE {G : Ga} {κ : Hp} (hS : SI κ) (hR : KR κ) (hC : KC κ) (x1 : Int) (hx1 : rng x1) (htb : ∀ j : Nat, (j : Int) < κ 31 1 → 0 ≤ κ 32 j ∧ κ 32 j ≤ 255) (hev : Ev κ) : zM G mX11_truth yX11_truth [.inr (.inr 30), .inl x1] κ (q_X11_truthE κ x1) := by
  have f_31_1 := KCt hC
  have f_33_0 := KCw hC
  have f_33_1 := KCh hC
  have f_36_0 := KCk0 hC
  have f_36_1 := KCk1 hC
  unfold rng at hx1
  have main : ∀ N : Nat, (∀ (v2 : Int) (h : Hp), Fm [(34, 999), (35, 999), (40, 999), (39, 1), (31, 1), (54, 7)] κ h → (0 ≤ x1 ∧ x1 ≤ 5) → (0 ≤ v2 ∧ v2 ≤ 16) → (v2 - κ 33 1 ≤ 0) → (6 ≤ κ 31 1) → (h 31 1 = 0) → (∀ j : Nat, h 35 j = κ 35 j ∧ ((((j / 16 : Nat) : Int) < v2 ∧ ((j % 16 : Nat) : Int) < κ 33 0) → h 34 j = trT x1 (κ 33 0) (κ 33 1) (κ 32) (256 * ((((j % 16 : Nat) : Int) + κ 33 2) % 2 + (((j / 16 : Nat) : Int) + κ 33 2 / 2) % 2).toNat + j)) ∧ (¬ (((j / 16 : Nat) : Int) < v2 ∧ ((j % 16 : Nat) : Int) < κ 33 0) → h 34 j = κ 34 j)) → (∀ j : Nat, ((j < 768 ∧ (((j / 256 : Nat) : Int) < 3 ∧ ((j % 256 / 16 : Nat) : Int) < κ 33 1 ∧ ((j % 16 : Nat) : Int) < κ 33 0)) → h 40 j = trT x1 (κ 33 0) (κ 33 1) (κ 32) j) ∧ (¬ (j < 768 ∧ (((j / 256 : Nat) : Int) < 3 ∧ ((j % 256 / 16 : Nat) : Int) < κ 33 1 ∧ ((j % 16 : Nat) : Int) < κ 33 0)) → h 40 j = κ 40 j)) → 35604360 + 36630 * (16 - v2) + 35964 < (N : Int) → zV G mX11_truth (q_X11_truthE κ x1) 47 [some (.inr (.inr 30)), some (.inl x1), some (.inl v2), none, none] [] h) ∧ (∀ (v2 v3 : Int) (h : Hp), Fm [(34, 999), (35, 999), (40, 999), (39, 1), (31, 1), (54, 7)] κ h → (0 ≤ x1 ∧ x1 ≤ 5) → (0 ≤ v2 ∧ v2 ≤ 15) → (v2 - κ 33 1 ≤ -1) → (0 ≤ v3 ∧ v3 ≤ 16) → (v3 - κ 33 0 ≤ 0) → (6 ≤ κ 31 1) → (h 31 1 = 0) → (∀ j : Nat, h 35 j = κ 35 j ∧ (((((j / 16 : Nat) : Int) < v2 ∧ ((j % 16 : Nat) : Int) < κ 33 0) ∨ (((j / 16 : Nat) : Int) = v2 ∧ ((j % 16 : Nat) : Int) < v3)) → h 34 j = trT x1 (κ 33 0) (κ 33 1) (κ 32) (256 * ((((j % 16 : Nat) : Int) + κ 33 2) % 2 + (((j / 16 : Nat) : Int) + κ 33 2 / 2) % 2).toNat + j)) ∧ (¬ ((((j / 16 : Nat) : Int) < v2 ∧ ((j % 16 : Nat) : Int) < κ 33 0) ∨ (((j / 16 : Nat) : Int) = v2 ∧ ((j % 16 : Nat) : Int) < v3)) → h 34 j = κ 34 j)) → (∀ j : Nat, ((j < 768 ∧ (((j / 256 : Nat) : Int) < 3 ∧ ((j % 256 / 16 : Nat) : Int) < κ 33 1 ∧ ((j % 16 : Nat) : Int) < κ 33 0)) → h 40 j = trT x1 (κ 33 0) (κ 33 1) (κ 32) j) ∧ (¬ (j < 768 ∧ (((j / 256 : Nat) : Int) < 3 ∧ ((j % 256 / 16 : Nat) : Int) < κ 33 1 ∧ ((j % 16 : Nat) : Int) < κ 33 0)) → h 40 j = κ 40 j)) → 35604360 + 36630 * (16 - v2) + 23976 + 37 * (16 - v3) + 36 < (N : Int) → zV G mX11_truth (q_X11_truthE κ x1) 60 [some (.inr (.inr 30)), some (.inl x1), some (.inl v2), some (.inl v3), none] [] h) := by
    intro N
    induction N with
    | zero =>
      refine ⟨?_, ?_⟩
      · intro v2 h hF g0 g1 g2 gc0 gc1 gc2 gc3 hm
        exfalso; omega
      · intro v2 v3 h hF g0 g1 g2 g3 g4 gc0 gc1 gc2 gc3 hm
        exfalso; omega
    | succ N ih =>
      obtain ⟨k47, k60⟩ := ih
      refine ⟨?_, ?_⟩
      · intro v2 h hF g0 g1 g2 gc0 gc1 gc2 gc3 hm
        refine zW_iload_n (pc' := 48) dX11_truth_1.2.1.1.1 rfl rfl ?_
        refine zW_aload_n (pc' := 49) dX11_truth_1.2.1.1.2 rfl rfl ?_
        refine zG_ref (pc' := 52) 33 fg_X11_19 tb30 rfl dX11_truth_1.2.1.2.1 rfl ?_
        refine zGm (pc' := 55) hF rfl rfl fg_X11_127 tb33 rfl dX11_truth_1.2.1.2.2 rfl ?_
        refine zV_cm_ge (tgt := 125) (pc' := 58) dX11_truth_1.2.2.1.1 rfl rfl ⟨by omega, by omega⟩ ⟨by omega, by omega⟩ (fun c55 => ?_) (fun c55 => ?_)
        · refine zW_aload_n (pc' := 126) dX11_truth_4.1.1.1.1 rfl rfl ?_
          refine zG_ref (pc' := 129) 33 fg_X11_19 tb30 rfl dX11_truth_4.1.1.1.2 rfl ?_
          refine cvV0 (pc' := 132) kX5_wake vX5_wake lk_X11_158 ⟨Nat.le_of_ble_eq_true rfl, Nat.le_of_ble_eq_true rfl⟩ tb33 vq5 rfl rfl (s_X5_wakeE hF.2.1 hF.2.2.1 hF.2.2.2) dX11_truth_4.1.1.2 (Nat.le_of_ble_eq_true rfl) rfl ?_
          rintro r129 h ⟨hF1, p129⟩; replace hF := hF.tr hF1 rfl
          have a129_0 := p129
          have f129_34 := fun j : Nat => hF1.1 34 j rfl rfl
          have f129_40 := fun j : Nat => hF1.1 40 j rfl rfl
          have t129_31_1 := hF1.1 31 1 rfl rfl
          have t129_54_7 := hF1.1 54 7 rfl rfl
          refine zW_aload_n (pc' := 133) dX11_truth_4.1.2.1.1 rfl rfl ?_
          refine cvV0 (pc' := 136) kX11_rawChanged vX11_rawChanged lk_X11_124 ⟨Nat.le_of_ble_eq_true rfl, Nat.le_of_ble_eq_true rfl⟩ tb30 vq11 rfl rfl (s_X11_rawChanged hF.2.1 hF.2.2.1 hF.2.2.2) dX11_truth_4.1.2.1.2 (Nat.le_of_ble_eq_true rfl) rfl ?_
          rintro r133 h ⟨hF1, p133⟩; replace hF := hF.tr hF1 rfl
          have f133_34 := fun j : Nat => hF1.1 34 j rfl rfl
          have f133_35 := fun j : Nat => hF1.1 35 j rfl rfl
          have f133_40 := fun j : Nat => hF1.1 40 j rfl rfl
          have t133_31_1 := hF1.1 31 1 rfl rfl
          refine zW_aload_n (pc' := 137) dX11_truth_4.1.2.2 rfl rfl ?_
          refine zG_ref (pc' := 140) 39 fg_X11_26 tb30 rfl dX11_truth_4.2.1.1.1 rfl ?_
          refine zW_iconst (pc' := 141) dX11_truth_4.2.1.1.2 rfl ?_
          refine zPmz (pc' := 144) hF (Or.inl rfl) (SI_irr hF.2.1 (Or.inl rfl) (fun _ _ => ⟨by omega, by omega⟩)) (KR_irr hF.2.2.1 rfl) (KC_irr hF.2.2.2 rfl) (by omega) fp_X11_169 tb39 rfl dX11_truth_4.2.1.2 rfl (fun h hF w141 => ?_)
          have a141_34 := fun j : Nat => (congrFun (congrFun w141 34) j).trans (zwr_ne (Or.inl (by decide)))
          have a141_35 := fun j : Nat => (congrFun (congrFun w141 35) j).trans (zwr_ne (Or.inl (by decide)))
          have a141_40 := fun j : Nat => (congrFun (congrFun w141 40) j).trans (zwr_ne (Or.inl (by decide)))
          have t141_31_1 := congrFun (congrFun w141 31) 1
          rw [zwr_ne (Or.inl (by decide))] at t141_31_1
          have t141_54_7 := congrFun (congrFun w141 54) 7
          rw [zwr_ne (Or.inl (by decide))] at t141_54_7
          refine zW_iconst (pc' := 145) dX11_truth_4.2.2.1 rfl ?_
          exact zV_zret rfl (by omega) dX11_truth_4.2.2.2 ⟨hF, ⟨⟨by omega, by omega, by omega, (fun j => by have q0 := gc2 j; have q1 := a129_0 j; have q2 := f129_34 j; have q3 := f133_34 j; have q4 := f133_35 j; have q5 := a141_34 j; have q6 := a141_35 j; omega), (fun j => by have q0 := gc3 j; have q1 := f129_40 j; have q2 := f133_40 j; have q3 := a141_40 j; omega)⟩, (by first | exact Or.inl (by omega) | exact Or.inr hU | exact Or.inr (by rw [hk0]; exact UnC.rf))⟩⟩
        · refine zW_iconst (pc' := 59) dX11_truth_1.2.2.1.2 rfl ?_
          refine zW_istore_n (ls' := [_, _, _, _, _]) (pc' := 60) dX11_truth_1.2.2.2.1 (by decide) rfl rfl rfl ?_
          exact k60 _ _ _ hF (by omega) (by omega) (by omega) (by omega) (by omega) (by omega) (by omega) (fun j => by have q0 := gc2 j; omega) (fun j => by have q0 := gc3 j; omega) (by omega)
      · intro v2 v3 h hF g0 g1 g2 g3 g4 gc0 gc1 gc2 gc3 hm
        refine zW_iload_n (pc' := 61) dX11_truth_1.2.2.2.2 rfl rfl ?_
        refine zW_aload_n (pc' := 62) dX11_truth_2.1.1.1.1 rfl rfl ?_
        refine zG_ref (pc' := 65) 33 fg_X11_19 tb30 rfl dX11_truth_2.1.1.1.2 rfl ?_
        refine zGm (pc' := 68) hF rfl rfl fg_X11_130 tb33 rfl dX11_truth_2.1.1.2.1 rfl ?_
        refine zV_cm_ge (tgt := 119) (pc' := 71) dX11_truth_2.1.1.2.2 rfl rfl ⟨by omega, by omega⟩ ⟨by omega, by omega⟩ (fun c68 => ?_) (fun c68 => ?_)
        · refine zW_iinc (ls' := [_, _, _, _, _]) (pc' := 122) dX11_truth_3.2.2.2.1 rfl (by decide) rfl rfl rfl ?_
          refine zV_goto 47 dX11_truth_3.2.2.2.2 rfl ?_
          refine zV_clr 3 (ls' := [_, _, _, _, _]) rfl ?_
          exact k47 _ _ hF (by omega) (by omega) (by omega) (by omega) (by omega) (fun j => by have q0 := gc2 j; omega) (fun j => by have q0 := gc3 j; omega) (by omega)
        · refine zW_iload_n (pc' := 72) dX11_truth_2.1.2.1.1 rfl rfl ?_
          refine zW_bipush (pc' := 74) dX11_truth_2.1.2.1.2 rfl rfl ?_
          refine zW_imul (pc' := 75) dX11_truth_2.1.2.2.1 rfl ?_
          refine zW_iload_n (pc' := 76) dX11_truth_2.1.2.2.2 rfl rfl ?_
          refine zW_iadd (pc' := 77) dX11_truth_2.2.1.1.1 rfl ?_
          refine zW_istore (ls' := [_, _, _, _, _]) (pc' := 79) dX11_truth_2.2.1.1.2 (by decide) rfl rfl rfl ?_
          refine zW_aload_n (pc' := 80) dX11_truth_2.2.1.2.1 rfl rfl ?_
          refine zG_ref (pc' := 83) 33 fg_X11_19 tb30 rfl dX11_truth_2.2.1.2.2 rfl ?_
          refine zG_ref (pc' := 86) 34 fg_X11_133 tb33 rfl dX11_truth_2.2.2.1.1 rfl ?_
          refine zW_iload (pc' := 88) dX11_truth_2.2.2.1.2 rfl rfl ?_
          refine zW_aload_n (pc' := 89) dX11_truth_2.2.2.2.1 rfl rfl ?_
          refine zG_ref (pc' := 92) 39 fg_X11_26 tb30 rfl dX11_truth_2.2.2.2.2 rfl ?_
          refine zG_ref (pc' := 95) 40 fg_X11_165 tb39 rfl dX11_truth_3.1.1.1.1 rfl ?_
          refine zW_aload_n (pc' := 96) dX11_truth_3.1.1.1.2 rfl rfl ?_
          refine zG_ref (pc' := 99) 33 fg_X11_19 tb30 rfl dX11_truth_3.1.1.2.1 rfl ?_
          refine zW_iload_n (pc' := 100) dX11_truth_3.1.1.2.2 rfl rfl ?_
          refine zW_iload_n (pc' := 101) dX11_truth_3.1.2.1.1 rfl rfl ?_
          have y101_33_2 := hF.1 33 2 rfl rfl
          refine cvI2 (pc' := 104) kX5_colourOf vX5_colourOf lk_X11_166 ⟨Nat.le_of_ble_eq_true rfl, Nat.le_of_ble_eq_true rfl⟩ tb33 vq5 rfl rfl (s_X5_colourOfE (b := bdB true) (κ := h) hF.2.2.2 (Fr.rf hF.2.1) _ _) dX11_truth_3.1.2.1.2 (Nat.le_of_ble_eq_true rfl) rfl ?_
          rintro r101 z101 ⟨hz101, p101⟩; subst z101
          refine zW_sipush (pc' := 107) dX11_truth_3.1.2.2.1 rfl rfl ?_
          refine zW_imul (pc' := 108) dX11_truth_3.1.2.2.2 rfl ?_
          refine zW_iload (pc' := 110) dX11_truth_3.2.1.1.1 rfl rfl ?_
          refine zW_iadd (pc' := 111) dX11_truth_3.2.1.1.2 rfl ?_
          have y2 := hF.1 33 2 rfl rfl; have ix := ix3 (c := r101) (y := v2) (x := v3) (by omega) (by omega) (by omega); have s111 := (gc3 (r101 * 256 + (v2 * 16 + v3)).toNat).1 (by rw [ix.2.1, ix.2.2.1, ix.2.2.2]; exact ⟨ix.1, by omega, by omega, by omega⟩); clear ix
          refine zAmI (pc' := 112) hF (by decide) (by decide) tb40 (by omega) dX11_truth_3.2.1.2.1 (by decide) rfl (fun e111 => ?_)
          refine zSm (pc' := 113) hF rfl (fun v' hv he => ⟨(SI_irr hF.2.1 (Or.inl (key_of rfl _)) (fun _ _ => hv)), (KR_irr hF.2.2.1 rfl), (KC_irr hF.2.2.2 rfl)⟩) tb34 (by omega) dX11_truth_3.2.1.2.2 (by decide) rfl (fun h i112 hF a112 b112 w112 => ?_)
          have a112_34 := fun j : Nat => zwr_pt (congrFun (congrFun w112 34) j)
          have a112_35 := fun j : Nat => (congrFun (congrFun w112 35) j).trans (zwr_ne (Or.inl (by decide)))
          have a112_40 := fun j : Nat => (congrFun (congrFun w112 40) j).trans (zwr_ne (Or.inl (by decide)))
          replace b112 := b112 ⟨by omega, by omega⟩
          have t112_31_1 := congrFun (congrFun w112 31) 1
          rw [zwr_ne (Or.inl (by decide))] at t112_31_1
          have t112_54_7 := congrFun (congrFun w112 54) 7
          rw [zwr_ne (Or.inl (by decide))] at t112_54_7
          refine zW_iinc (ls' := [_, _, _, _, _]) (pc' := 116) dX11_truth_3.2.2.1.1 rfl (by decide) rfl rfl rfl ?_
          refine zV_goto 60 dX11_truth_3.2.2.1.2 rfl ?_
          refine zV_clr 4 (ls' := [_, _, _, _, _]) rfl ?_
          exact k60 _ _ _ hF (by omega) (by omega) (by omega) (by omega) (by omega) (by omega) (by omega) (fun j => by have q0 := gc2 j; have q1 := a112_34 j; have q2 := a112_35 j; by_cases ej : j = (v2 * 16 + v3).toNat; (have e3 : ((j % 16 : Nat) : Int) = v3 := (by omega); have e4 : ((j / 16 : Nat) : Int) = v2 := (by omega); have e5 : 256 * ((((j % 16 : Nat) : Int) + κ 33 2) % 2 + (((j / 16 : Nat) : Int) + κ 33 2 / 2) % 2).toNat + j = (r101 * 256 + (v2 * 16 + v3)).toNat := (by omega); rw [e5, ← s111]; omega); omega) (fun j => by have q0 := gc3 j; have q1 := a112_40 j; omega) (by omega)
  refine zM_of [some (.inr (.inr 30)), some (.inl x1), none, none, none] 3 rfl rfl (Nat.le_of_ble_eq_true rfl) rfl ?_
  refine (show ∀ h : Hp, Fm [(34, 999), (35, 999), (40, 999), (39, 1), (31, 1), (54, 7)] κ h → h = κ → zV G mX11_truth (q_X11_truthE κ x1) 0 [some (.inr (.inr 30)), some (.inl x1), none, none, none] [] h from fun h hF hk0 => ?_) κ (Fm.rf hS hR hC) rfl
  have y0_31_1 : h 31 1 = κ 31 1 := by rw [hk0]
  have a0_34 := fun j : Nat => congrFun (congrFun hk0 34) j
  have a0_35 := fun j : Nat => congrFun (congrFun hk0 35) j
  have a0_40 := fun j : Nat => congrFun (congrFun hk0 40) j
  refine zW_iload_n (pc' := 1) dX11_truth_0.1.1.1.1 rfl rfl ?_
  refine zW_iconst (pc' := 2) dX11_truth_0.1.1.1.2 rfl ?_
  refine csI2 (pc' := 5) kX11_isWithin vX11_isWithin lk_X11_116 ⟨Nat.le_of_ble_eq_true rfl, Nat.le_of_ble_eq_true rfl⟩ rfl (s_X11_isWithinR (b := bdB true) (κ := h) (Fr.rf hF.2.1) _ ⟨by omega, by omega⟩ _ ⟨by omega, by omega⟩) dX11_truth_0.1.1.2.1 (Nat.le_of_ble_eq_true rfl) rfl ?_
  rintro r2 z2 ⟨hz2, p2⟩; subst z2
  refine zV_if_eq (tgt := 20) (pc' := 8) dX11_truth_0.1.1.2.2 rfl rfl ⟨by omega, by omega⟩ (fun c5 => ?_) (fun c5 => ?_)
  · refine zW_iconst (pc' := 21) dX11_truth_0.2.1.1.2 rfl ?_
    exact zV_zret rfl (by omega) dX11_truth_0.2.1.2.1 ⟨hF, ⟨⟨by omega, by omega, by omega, (fun j => by have q0 := a0_34 j; have q1 := a0_35 j; omega), (fun j => by have q0 := a0_40 j; omega)⟩, (by first | exact Or.inl (by omega) | exact Or.inr hU | exact Or.inr (by rw [hk0]; exact UnC.rf))⟩⟩
  · refine zW_aload_n (pc' := 9) dX11_truth_0.1.2.1.1 rfl rfl ?_
    refine zG_ref (pc' := 12) 31 fg_X11_10 tb30 rfl dX11_truth_0.1.2.1.2 rfl ?_
    refine zG_int (pc' := 15) fg_X11_88 tb31 rfl dX11_truth_0.1.2.2.1 rfl ?_
    have e12 := KCt hF.2.2.2
    refine zW_bipush (pc' := 17) dX11_truth_0.1.2.2.2 rfl rfl ?_
    refine zV_cm_ge (tgt := 22) (pc' := 20) dX11_truth_0.2.1.1.1 rfl rfl ⟨by omega, by omega⟩ ⟨by omega, by omega⟩ (fun c17 => ?_) (fun c17 => ?_)
    · refine zW_aload_n (pc' := 23) dX11_truth_0.2.1.2.2 rfl rfl ?_
      refine zG_ref (pc' := 26) 39 fg_X11_26 tb30 rfl dX11_truth_0.2.2.1.1 rfl ?_
      refine zW_iload_n (pc' := 27) dX11_truth_0.2.2.1.2 rfl rfl ?_
      refine zW_aload_n (pc' := 28) dX11_truth_0.2.2.2.1 rfl rfl ?_
      refine zG_ref (pc' := 31) 31 fg_X11_10 tb30 rfl dX11_truth_0.2.2.2.2 rfl ?_
      refine zW_aload_n (pc' := 32) dX11_truth_1.1.1.1.1 rfl rfl ?_
      refine zG_ref (pc' := 35) 33 fg_X11_19 tb30 rfl dX11_truth_1.1.1.1.2 rfl ?_
      have hk1 : κ = h := hk0.symm
      subst hk1
      refine cvV3 (pc' := 38) kX10_lay vX10_lay lk_X11_161 ⟨Nat.le_of_ble_eq_true rfl, Nat.le_of_ble_eq_true rfl⟩ tb39 vq10 rfl rfl (s_X10_layE hF.2.1 hF.2.2.1 hF.2.2.2 _ ⟨by omega, by omega⟩ (by omega) htb hev) dX11_truth_1.1.1.2.1 (Nat.le_of_ble_eq_true rfl) rfl ?_
      rintro r35 h ⟨hF1, p35⟩; replace hF := hF.tr hF1 rfl
      have a35_0 := p35
      have f35_34 := fun j : Nat => hF1.1 34 j rfl rfl
      have f35_35 := fun j : Nat => hF1.1 35 j rfl rfl
      have t35_31_1 := hF1.1 31 1 rfl rfl
      have t35_54_7 := hF1.1 54 7 rfl rfl
      refine zW_aload_n (pc' := 39) dX11_truth_1.1.1.2.2 rfl rfl ?_
      refine zG_ref (pc' := 42) 31 fg_X11_10 tb30 rfl dX11_truth_1.1.2.1.1 rfl ?_
      refine cvV0 (pc' := 45) kX9_empty vX9_empty lk_X11_99 ⟨Nat.le_of_ble_eq_true rfl, Nat.le_of_ble_eq_true rfl⟩ tb31 vq9 rfl rfl (s_X9_empty hF.2.1 hF.2.2.1 hF.2.2.2) dX11_truth_1.1.2.1.2 (Nat.le_of_ble_eq_true rfl) rfl ?_
      rintro r42 h ⟨hF1, p42⟩; replace hF := hF.tr hF1 rfl
      have f42_34 := fun j : Nat => hF1.1 34 j rfl rfl
      have f42_35 := fun j : Nat => hF1.1 35 j rfl rfl
      have f42_40 := fun j : Nat => hF1.1 40 j rfl rfl
      have t42_54_7 := hF1.1 54 7 rfl rfl
      refine zW_iconst (pc' := 46) dX11_truth_1.1.2.2.1 rfl ?_
      refine zW_istore_n (ls' := [_, _, _, _, _]) (pc' := 47) dX11_truth_1.1.2.2.2 (by decide) rfl rfl rfl ?_
      exact (main 10000000000000000000000000000000000000000).1 _ _ hF (by omega) (by omega) (by omega) (by omega) (by omega) (fun j => by have q0 := a0_34 j; have q1 := a0_35 j; have q2 := f35_34 j; have q3 := f35_35 j; have q4 := f42_34 j; have q5 := f42_35 j; omega) (fun j => by have q0 := a0_40 j; have q1 := a35_0 j; have q2 := f42_40 j; omega) (by omega)
    · refine zW_iconst (pc' := 21) dX11_truth_0.2.1.1.2 rfl ?_
      exact zV_zret rfl (by omega) dX11_truth_0.2.1.2.1 ⟨hF, ⟨⟨by omega, by omega, by omega, (fun j => by have q0 := a0_34 j; have q1 := a0_35 j; omega), (fun j => by have q0 := a0_40 j; omega)⟩, (by first | exact Or.inl (by omega) | exact Or.inr hU | exact Or.inr (by rw [hk0]; exact UnC.rf))⟩⟩

abbrev q_X12_seedE (κ : Hp) (x1 : Int) : Int → Hp → Prop := fun r h' => Fm [(0, 15)] κ h' ∧ ((0 ≤ r) ∧ (r ≤ 1) ∧ ((r = 1 ∧ 0 ≤ x1 ∧ x1 ≤ 65535 ∧ h' 0 15 = x1) ∨ (r = 0 ∧ ¬ (0 ≤ x1 ∧ x1 ≤ 65535) ∧ h' 0 15 = κ 0 15)))
set_option maxHeartbeats 4000000 in
set_option maxRecDepth 20000 in
theorem s_X12_seedE {G : Ga} {κ : Hp} (hS : SI κ) (hR : KR κ) (hC : KC κ) (x1 : Int) (hx1 : rng x1) : zM G mX12_seed yX12_seed [.inr (.inr 0), .inl x1] κ (q_X12_seedE κ x1) := by
  have f_0_15 := KRl hR
  unfold rng at hx1
  refine zM_of [some (.inr (.inr 0)), some (.inl x1)] 0 rfl rfl (Nat.le_of_ble_eq_true rfl) rfl ?_
  refine (show ∀ h : Hp, Fm [(0, 15)] κ h → h = κ → zV G mX12_seed (q_X12_seedE κ x1) 0 [some (.inr (.inr 0)), some (.inl x1)] [] h from fun h hF hk0 => ?_) κ (Fm.rf hS hR hC) rfl
  have y0_0_15 : h 0 15 = κ 0 15 := by rw [hk0]
  refine zW_iload_n (pc' := 1) dX12_seed_0.1.1.1.1 rfl rfl ?_
  refine zW_iconst (pc' := 2) dX12_seed_0.1.1.1.2 rfl ?_
  refine zV_ldc_w (n := 65535) (pc' := 5) kc_X12_456 rfl dX12_seed_0.1.1.2 rfl ?_
  refine csI3 (pc' := 8) kX12_in vX12_in lk_X12_140 ⟨Nat.le_of_ble_eq_true rfl, Nat.le_of_ble_eq_true rfl⟩ rfl (s_X12_inR (b := bdB true) (κ := h) (Fr.rf hF.2.1) _ ⟨by omega, by omega⟩ _ ⟨by omega, by omega⟩ _ ⟨by omega, by omega⟩) dX12_seed_0.1.2.1.1 (Nat.le_of_ble_eq_true rfl) rfl ?_
  rintro r5 z5 ⟨hz5, p5⟩; subst z5
  refine zV_if_ne (tgt := 13) (pc' := 11) dX12_seed_0.1.2.1.2 rfl rfl ⟨by omega, by omega⟩ (fun c8 => ?_) (fun c8 => ?_)
  · refine zW_aload_n (pc' := 14) dX12_seed_0.2.1.1.2 rfl rfl ?_
    refine zW_iload_n (pc' := 15) dX12_seed_0.2.1.2 rfl rfl ?_
    refine zPm (pc' := 18) hF (Or.inl rfl) (SI_irr hF.2.1 (Or.inl rfl) (fun _ _ => ⟨by omega, by omega⟩)) (KR_15 hF.2.2.1 (by omega)) (KC_irr hF.2.2.2 rfl) fp_X12_106 tb0 rfl dX12_seed_0.2.2.1.1 rfl (fun h hF w15 => ?_)
    have t15_0_15 := congrFun (congrFun w15 0) 15
    rw [zwr_eq] at t15_0_15
    refine zW_iconst (pc' := 19) dX12_seed_0.2.2.1.2 rfl ?_
    exact zV_zret rfl (by omega) dX12_seed_0.2.2.2 ⟨hF, by omega⟩
  · refine zW_iconst (pc' := 12) dX12_seed_0.1.2.2 rfl ?_
    exact zV_zret rfl (by omega) dX12_seed_0.2.1.1.1 ⟨hF, by omega⟩

abbrev q_X11_seedE (κ : Hp) (x1 : Int) : Int → Hp → Prop := fun r h' => Fm [(30, 12)] κ h' ∧ ((0 ≤ r) ∧ (r ≤ 1) ∧ ((r = 1 ∧ 0 ≤ x1 ∧ x1 ≤ 65535 ∧ h' 30 12 = x1) ∨ (r = 0 ∧ ¬ (0 ≤ x1 ∧ x1 ≤ 65535) ∧ h' 30 12 = κ 30 12)))
set_option maxHeartbeats 4000000 in
set_option maxRecDepth 20000 in
theorem s_X11_seedE {G : Ga} {κ : Hp} (hS : SI κ) (hR : KR κ) (hC : KC κ) (x1 : Int) (hx1 : rng x1) : zM G mX11_seed yX11_seed [.inr (.inr 30), .inl x1] κ (q_X11_seedE κ x1) := by
  have f_30_12 := KCc hC
  unfold rng at hx1
  refine zM_of [some (.inr (.inr 30)), some (.inl x1)] 0 rfl rfl (Nat.le_of_ble_eq_true rfl) rfl ?_
  refine (show ∀ h : Hp, Fm [(30, 12)] κ h → h = κ → zV G mX11_seed (q_X11_seedE κ x1) 0 [some (.inr (.inr 30)), some (.inl x1)] [] h from fun h hF hk0 => ?_) κ (Fm.rf hS hR hC) rfl
  have y0_30_12 : h 30 12 = κ 30 12 := by rw [hk0]
  refine zW_iload_n (pc' := 1) dX11_seed_0.1.1.1.1 rfl rfl ?_
  refine zV_ldc_w (n := 65535) (pc' := 4) kc_X11_395 rfl dX11_seed_0.1.1.1.2 rfl ?_
  refine csI2 (pc' := 7) kX11_isWithin vX11_isWithin lk_X11_116 ⟨Nat.le_of_ble_eq_true rfl, Nat.le_of_ble_eq_true rfl⟩ rfl (s_X11_isWithinR (b := bdB true) (κ := h) (Fr.rf hF.2.1) _ ⟨by omega, by omega⟩ _ ⟨by omega, by omega⟩) dX11_seed_0.1.1.2 (Nat.le_of_ble_eq_true rfl) rfl ?_
  rintro r4 z4 ⟨hz4, p4⟩; subst z4
  refine zV_if_ne (tgt := 12) (pc' := 10) dX11_seed_0.1.2.1.1 rfl rfl ⟨by omega, by omega⟩ (fun c7 => ?_) (fun c7 => ?_)
  · refine zW_aload_n (pc' := 13) dX11_seed_0.2.1.1.1 rfl rfl ?_
    refine zW_iload_n (pc' := 14) dX11_seed_0.2.1.1.2 rfl rfl ?_
    refine zPm (pc' := 17) hF (Or.inl rfl) (SI_irr hF.2.1 (Or.inl rfl) (fun _ _ => ⟨by omega, by omega⟩)) (KR_irr hF.2.2.1 rfl) (KC_30_12 hF.2.2.2 (by omega)) fp_X11_85 tb30 rfl dX11_seed_0.2.1.2 rfl (fun h hF w14 => ?_)
    have t14_30_12 := congrFun (congrFun w14 30) 12
    rw [zwr_eq] at t14_30_12
    refine zW_iconst (pc' := 18) dX11_seed_0.2.2.1 rfl ?_
    exact zV_zret rfl (by omega) dX11_seed_0.2.2.2 ⟨hF, by omega⟩
  · refine zW_iconst (pc' := 11) dX11_seed_0.1.2.1.2 rfl ?_
    exact zV_zret rfl (by omega) dX11_seed_0.1.2.2 ⟨hF, by omega⟩
