/-! early pictures: what b, o, d, l make of a level for each square -/
def clp (v : Int) : Int := if v < 0 then 0 else if 4095 < v then 4095 else v
theorem clp_b (v : Int) : 0 ≤ clp v ∧ clp v ≤ 4095 := by
  unfold clp
  by_cases h1 : v < 0
  · rw [if_pos h1]; omega
  · rw [if_neg h1]
    by_cases h2 : 4095 < v
    · rw [if_pos h2]; omega
    · rw [if_neg h2]; omega
theorem clp_id {v : Int} (h : 0 ≤ v ∧ v ≤ 4095) : clp v = v := by
  unfold clp
  rw [if_neg (by omega), if_neg (by omega)]
theorem mir_b {v n : Int} (h4 : 4 ≤ n) (h1 : -2 ≤ v) (h2 : v ≤ n + 1) : 0 ≤ mir v n ∧ mir v n < n := by
  unfold mir
  by_cases c1 : v < 0
  · rw [if_pos c1]; omega
  · rw [if_neg c1]
    by_cases c2 : n ≤ v
    · rw [if_pos c2]; omega
    · rw [if_neg c2]; omega
theorem mir_i {v n : Int} (h : 0 ≤ v ∧ v < n) : mir v n = v := by
  unfold mir
  rw [if_neg (by omega), if_neg (by omega)]
/-- the first levels of a row together -/
def dkS (f : Int → Int → Int) (y : Int) : Nat → Int
  | 0 => 0
  | k + 1 => dkS f y k + f (k : Int) y
theorem dkS_b {f : Int → Int → Int} {y : Int} : ∀ k : Nat, (∀ x : Int, 0 ≤ x → x < k → 0 ≤ f x y ∧ f x y ≤ 4095) → 0 ≤ dkS f y k ∧ dkS f y k ≤ 4095 * (k : Int)
  | 0, _ => by show (0 : Int) ≤ 0 ∧ (0 : Int) ≤ 4095 * 0; omega
  | k + 1, h => by
    have ih := dkS_b k (fun x h1 h2 => h x h1 (by omega))
    have z := h (k : Int) (by omega) (by omega)
    show 0 ≤ dkS f y k + f (k : Int) y ∧ dkS f y k + f (k : Int) y ≤ _
    omega
theorem dkS_cong {f f' : Int → Int → Int} {y : Int} : ∀ k : Nat, (∀ x : Int, 0 ≤ x → x < k → f x y = f' x y) → dkS f y k = dkS f' y k
  | 0, _ => rfl
  | k + 1, h => by
    show dkS f y k + f (k : Int) y = dkS f' y k + f' (k : Int) y
    rw [dkS_cong k (fun x h1 h2 => h x h1 (by omega)), h (k : Int) (by omega) (by omega)]
def max2 (a b : Int) : Int := if a ≤ b then b else a
def min2 (a b : Int) : Int := if a ≤ b then a else b
theorem max2c (a b : Int) : (a ≤ b ∧ max2 a b = b) ∨ (b < a ∧ max2 a b = a) := by
  unfold max2
  by_cases h : a ≤ b
  · exact Or.inl ⟨h, if_pos h⟩
  · exact Or.inr ⟨by omega, if_neg h⟩
theorem min2c (a b : Int) : (a ≤ b ∧ min2 a b = a) ∨ (b < a ∧ min2 a b = b) := by
  unfold min2
  by_cases h : a ≤ b
  · exact Or.inl ⟨h, if_pos h⟩
  · exact Or.inr ⟨by omega, if_neg h⟩
/-- the two in the middle of four, together -/
def mid4 (a b c d : Int) : Int := a + b + c + d - max2 (max2 a b) (max2 c d) - min2 (min2 a b) (min2 c d)
theorem mid4_b {a b c d : Int} (ha : 0 ≤ a ∧ a ≤ 4095) (hb : 0 ≤ b ∧ b ≤ 4095) (hc : 0 ≤ c ∧ c ≤ 4095) (hd : 0 ≤ d ∧ d ≤ 4095) : 0 ≤ mid4 a b c d ∧ mid4 a b c d ≤ 8190 := by
  unfold mid4
  have h1 := max2c a b
  have h2 := max2c c d
  have h3 := max2c (max2 a b) (max2 c d)
  have h4 := min2c a b
  have h5 := min2c c d
  have h6 := min2c (min2 a b) (min2 c d)
  omega
def mdl (W H : Int) (f : Int → Int → Int) (x y : Int) : Int := mid4 (f (mir (x - 2) W) y) (f (mir (x + 2) W) y) (f x (mir (y - 2) H)) (f x (mir (y + 2) H)) / 2
def ab (v : Int) : Int := if v < 0 then -v else v
abbrev fnd (W H : Int) (D : Nat → Int) (f : Int → Int → Int) (n x y : Int) : Prop := D (16 * y + x).toNat = 1 ∨ 16 * n < ab (f x y - mdl W H f x y)
def shd (W H n v x y : Int) : Int := v * (256 + n * ((2 * x + 1 - W) * (2 * x + 1 - W) + (2 * y + 1 - H) * (2 * y + 1 - H)) / 16) / 256
def stg (W H : Int) (D : Nat → Int) (c n : Int) (f : Int → Int → Int) (x y : Int) : Int :=
  if c = 98 then clp (f x y - 16 * n) else if c = 111 then clp (f x y - dkS f y n.toNat / n) else if c = 100 then (if fnd W H D f n x y then mdl W H f x y else f x y) else if c = 108 then clp (shd W H n (f x y) x y) else f x y
def eF (W H : Int) (V D L A N : Nat → Int) : Nat → Int → Int → Int
  | 0, x, y => 16 * V (16 * y + x).toNat
  | k + 1, x, y => stg W H D (L k) (N (A k).toNat) (eF W H V D L A N k) x y
/-- within the picture -/
def inP (W H x y : Int) : Prop := 0 ≤ x ∧ x < W ∧ 0 ≤ y ∧ y < H
theorem mdl_b {W H : Int} {f : Int → Int → Int} (hW : 4 ≤ W) (hH : 4 ≤ H) (hf : ∀ x y, inP W H x y → 0 ≤ f x y ∧ f x y ≤ 4095) {x y : Int} (h : inP W H x y) : 0 ≤ mdl W H f x y ∧ mdl W H f x y ≤ 4095 := by
  obtain ⟨h1, h2, h3, h4⟩ := h
  have m1 := mir_b (v := x - 2) hW (by omega) (by omega)
  have m2 := mir_b (v := x + 2) hW (by omega) (by omega)
  have m3 := mir_b (v := y - 2) hH (by omega) (by omega)
  have m4 := mir_b (v := y + 2) hH (by omega) (by omega)
  have z := mid4_b (hf _ _ ⟨m1.1, m1.2, h3, h4⟩) (hf _ _ ⟨m2.1, m2.2, h3, h4⟩) (hf _ _ ⟨h1, h2, m3.1, m3.2⟩) (hf _ _ ⟨h1, h2, m4.1, m4.2⟩)
  unfold mdl
  omega
theorem stg_b {W H : Int} {D : Nat → Int} {c n : Int} {f : Int → Int → Int} (hW : 4 ≤ W) (hH : 4 ≤ H) (hf : ∀ x y, inP W H x y → 0 ≤ f x y ∧ f x y ≤ 4095) {x y : Int} (h : inP W H x y) : 0 ≤ stg W H D c n f x y ∧ stg W H D c n f x y ≤ 4095 := by
  unfold stg
  by_cases c1 : c = 98
  · rw [if_pos c1]; exact clp_b _
  rw [if_neg c1]
  by_cases c2 : c = 111
  · rw [if_pos c2]; exact clp_b _
  rw [if_neg c2]
  by_cases c3 : c = 100
  · rw [if_pos c3]
    by_cases c5 : fnd W H D f n x y
    · rw [if_pos c5]; exact mdl_b hW hH hf h
    · rw [if_neg c5]; exact hf x y h
  rw [if_neg c3]
  by_cases c4 : c = 108
  · rw [if_pos c4]; exact clp_b _
  · rw [if_neg c4]; exact hf x y h
/-- a stage sees the squares of the picture alone -/
theorem stg_cong {W H : Int} {D D' : Nat → Int} {c n : Int} {f f' : Int → Int → Int} (hW : 4 ≤ W) (hH : 4 ≤ H) (hn : c = 111 → n ≤ W) (hf : ∀ x y, inP W H x y → f x y = f' x y) (hD : ∀ x y, inP W H x y → D (16 * y + x).toNat = D' (16 * y + x).toNat) {x y : Int} (h : inP W H x y) : stg W H D c n f x y = stg W H D' c n f' x y := by
  obtain ⟨h1, h2, h3, h4⟩ := h
  have m1 := mir_b (v := x - 2) hW (by omega) (by omega)
  have m2 := mir_b (v := x + 2) hW (by omega) (by omega)
  have m3 := mir_b (v := y - 2) hH (by omega) (by omega)
  have m4 := mir_b (v := y + 2) hH (by omega) (by omega)
  have e0 := hf x y ⟨h1, h2, h3, h4⟩
  have em : mdl W H f x y = mdl W H f' x y := by
    unfold mdl
    rw [hf _ _ ⟨m1.1, m1.2, h3, h4⟩, hf _ _ ⟨m2.1, m2.2, h3, h4⟩, hf _ _ ⟨h1, h2, m3.1, m3.2⟩, hf _ _ ⟨h1, h2, m4.1, m4.2⟩]
  have ef : fnd W H D f n x y ↔ fnd W H D' f' n x y := by
    unfold fnd
    rw [em, e0, hD x y ⟨h1, h2, h3, h4⟩]
  unfold stg
  by_cases c1 : c = 98
  · rw [if_pos c1, if_pos c1, e0]
  rw [if_neg c1, if_neg c1]
  by_cases c2 : c = 111
  · rw [if_pos c2, if_pos c2, e0, dkS_cong n.toNat (fun x' g1 g2 => hf x' y ⟨g1, by have := hn c2; omega, h3, h4⟩)]
  rw [if_neg c2, if_neg c2]
  by_cases c3 : c = 100
  · rw [if_pos c3, if_pos c3]
    by_cases c5 : fnd W H D f n x y
    · rw [if_pos c5, if_pos (ef.mp c5), em]
    · rw [if_neg c5, if_neg (fun q => c5 (ef.mpr q)), e0]
  rw [if_neg c3, if_neg c3]
  by_cases c4 : c = 108
  · rw [if_pos c4, if_pos c4, e0]
  · rw [if_neg c4, if_neg c4, e0]
/-- sorting as sorts does it -/
def swp (A : Nat → Int) (j : Nat) : Nat → Int := fun i => if i = j + 1 then A j else if i = j then A (j + 1) else A i
def bub (A : Nat → Int) : Nat → Nat → Int
  | 0 => A
  | j + 1 => if A (j + 1) < A j then bub (swp A j) j else A
def srt (A : Nat → Int) : Nat → Nat → Int
  | 0 => A
  | n + 1 => bub (srt A n) n

/-! frames relative to the heap at the start -/
def Fw (C : List Nat) (F : List (Nat × Nat)) (g h : Hp) : Prop := ∀ k i, (∀ c ∈ C, k ≠ c) → (∀ p ∈ F, k = p.1 → i ≠ p.2) → h k i = g k i
theorem Fw.rf {C : List Nat} {F : List (Nat × Nat)} {g : Hp} : Fw C F g g := fun _ _ _ _ => rfl
theorem Fw.tr {C C' : List Nat} {F F' : List (Nat × Nat)} {g h h' : Hp} (h1 : Fw C F g h) (h2 : Fw C' F' h h') (hC : ∀ c ∈ C', c ∈ C) (hF : ∀ p ∈ F', p ∈ F) : Fw C F g h' := fun k i a b => (h2 k i (fun c hc => a c (hC c hc)) (fun p hp => b p (hF p hp))).trans (h1 k i a b)
theorem Fw.wc {C : List Nat} {F : List (Nat × Nat)} {g h : Hp} {c i : Nat} {v : Int} (h1 : Fw C F g h) (hc : c ∈ C) : Fw C F g (zwr h c i v) := fun k j a b => (zwr_ne (Or.inl (a c hc))).trans (h1 k j a b)
theorem Fw.wf {C : List Nat} {F : List (Nat × Nat)} {g h : Hp} {c i : Nat} {v : Int} (h1 : Fw C F g h) (hc : (c, i) ∈ F) : Fw C F g (zwr h c i v) := fun k j a b => (zwr_ne (by
  by_cases e : k = c
  · exact Or.inr (b _ hc e)
  · exact Or.inl e)).trans (h1 k j a b)
theorem Fw.cell {C : List Nat} {F : List (Nat × Nat)} {g h : Hp} {k : Nat} (h1 : Fw C F g h) (hC : ∀ c ∈ C, k ≠ c) (hF : ∀ p ∈ F, k ≠ p.1) : h k = g k := funext fun i => h1 k i hC (fun p hp e => absurd e (hF p hp))
def bdH (b : Bd) (h : Hp) : Bd := (b.g, ⟨fun g => b.I g ∧ ∀ k i, dpn k i = true → g k i = h k i, fun _ _ e p => ⟨b.st _ _ e p.1, fun k i hd => (e k i hd).trans (p.2 k i hd)⟩⟩)
theorem Fr.dp {b : Bd} {κ g h : Hp} (hF : Fr (bdH b g) κ h) : ∀ k i, dpn k i = true → h k i = g k i := hF.2.1.2.2
theorem mulq {a b A B : Int} (ha : 0 ≤ a ∧ a ≤ A) (hb : 0 ≤ b ∧ b ≤ B) : 0 ≤ a * b ∧ a * b ≤ A * B := ⟨Int.mul_nonneg ha.1 hb.1, Int.mul_le_mul ha.2 hb.2 hb.1 (by omega)⟩
theorem sqb {a A : Int} (ha : -A ≤ a ∧ a ≤ A) : 0 ≤ a * a ∧ a * a ≤ A * A := by
  rcases Int.le_total 0 a with h | h
  · exact mulq ⟨h, ha.2⟩ ⟨h, ha.2⟩
  · have z := mulq (a := -a) (b := -a) (A := A) (B := A) ⟨by omega, by omega⟩ ⟨by omega, by omega⟩
    rwa [Int.neg_mul_neg] at z
theorem mulS {a b A B : Int} (ha : -A ≤ a ∧ a ≤ A) (hb : 0 ≤ b ∧ b ≤ B) : -(A * B) ≤ a * b ∧ a * b ≤ A * B := by
  rcases Int.le_total 0 a with h | h
  · have z := mulq (a := a) (b := b) (A := A) (B := B) ⟨h, ha.2⟩ hb
    omega
  · have z := mulq (a := -a) (b := b) (A := A) (B := B) ⟨by omega, by omega⟩ hb
    rw [Int.neg_mul] at z
    omega
theorem tdvX {a d : Int} (ha : rng a) (hb : 1 ≤ d ∧ d ≤ 2147483647) : (Int32.ofInt a / Int32.ofInt d).toInt = a.tdiv d := by
  have e1 := ti32 ha
  have e2 := ti32 (a := d) ⟨by omega, hb.2⟩
  rw [Int32.toInt_div_of_ne_right _ _ (fun q => by
    have z : (Int32.ofInt d).toInt = (-1 : Int32).toInt := congrArg _ q
    rw [e2] at z
    have : (-1 : Int32).toInt = -1 := rfl
    omega), e1, e2]
theorem zW_idivX {G : Ga} {μ : Mt} {Q : Int → Hp → Prop} {pc pc' : Nat} {ls : Lo} {st : List Sv} {h : Hp} {a d : Int} (ha : rng a) (hb : 1 ≤ d ∧ d ≤ 2147483647) (hd : decode μ.1 pc = .ok (.idiv, 1)) (hn : pc + 1 = pc') (kk : ∀ v : Int, v = a.tdiv d → rng v → zV G μ Q pc' ls (.inl v :: st) h) : zV G μ Q pc ls (.inl d :: .inl a :: st) h := by
  subst hn
  intro p e s m args below meth c H locs lsA C hP hS hL
  have rb : rng d := ⟨by omega, hb.2⟩
  refine lv_idiv C.1 C.2.1 hd (nz32 rb (by omega)) ?_
  have e1 : Int32.ofInt a / Int32.ofInt d = Int32.ofInt (a.tdiv d) := by rw [← tdvX ha hb, Int32.ofInt_toInt]
  have rr : rng (a.tdiv d) := by rw [← tdvX ha hb]; exact rg32 _
  rw [e1]
  exact kk _ rfl rr p e s m args below meth c H locs lsA C hP hS hL
theorem tdc {a d : Int} (hd : 1 ≤ d) : (0 ≤ a ∧ a.tdiv d = a / d) ∨ (a < 0 ∧ a.tdiv d = -((-a) / d)) := by
  rcases Int.lt_or_le a 0 with h | h
  · refine Or.inr ⟨h, ?_⟩
    have z : (-a).tdiv d = (-a) / d := Int.tdiv_eq_ediv_of_nonneg (by omega)
    rw [Int.neg_tdiv] at z
    omega
  · exact Or.inl ⟨h, Int.tdiv_eq_ediv_of_nonneg h⟩
/-- a row of the reference holds a picture -/
def ix17 (P k x y : Int) : Int := 768 * k + 256 * ((x + P) % 2 + (y + P / 2) % 2) + 16 * y + x
def Row17 (κ : Hp) (A : Nat → Int) (k : Int) (f : Int → Int → Int) : Prop := ∀ x y : Int, inP (κ 0 11) (κ 0 12) x y → A (ix17 (κ 0 13) k x y).toNat = f x y
def FB (W H : Int) (f : Int → Int → Int) : Prop := ∀ x y : Int, inP W H x y → 0 ≤ f x y ∧ f x y ≤ 4095
/-- a row of the reference holds a picture as far as a square -/
def Row17u (κ : Hp) (A : Nat → Int) (k : Int) (f : Int → Int → Int) (x0 y0 : Int) : Prop := ∀ x y : Int, inP (κ 0 11) (κ 0 12) x y → (y < y0 ∨ (y = y0 ∧ x < x0)) → A (ix17 (κ 0 13) k x y).toNat = f x y
theorem Row17u.nx {κ h : Hp} {k : Int} {f : Int → Int → Int} {x0 y0 v : Int} (hk : 0 ≤ k) (hW : κ 0 11 ≤ 16) (hH : κ 0 12 ≤ 16) (hP : 0 ≤ κ 0 13) (h0 : inP (κ 0 11) (κ 0 12) x0 y0) (r : Row17u κ (h 17) k f x0 y0) (hv : v = f x0 y0) : Row17u κ (zwr h 17 (ix17 (κ 0 13) k x0 y0).toNat v 17) k f (x0 + 1) y0 := by
  intro x y h1 h2
  obtain ⟨g1, g2, g3, g4⟩ := h0
  obtain ⟨k1, k2, k3, k4⟩ := h1
  by_cases e : x = x0 ∧ y = y0
  · rw [e.1, e.2, zwr_eq]; exact hv
  · rw [zwr_ne (Or.inr (fun q => e (by unfold ix17 at q; omega)))]
    exact r x y ⟨k1, k2, k3, k4⟩ (by omega)
theorem Row17u.row {κ : Hp} {A : Nat → Int} {k : Int} {f : Int → Int → Int} {y0 : Int} (r : Row17u κ A k f (κ 0 11) y0) : Row17u κ A k f 0 (y0 + 1) := fun x y h1 h2 => r x y h1 (by have a := h1.1; have b := h1.2.1; omega)
theorem Row17u.rowx {κ : Hp} {A : Nat → Int} {k : Int} {f : Int → Int → Int} {x0 y0 : Int} (r : Row17u κ A k f x0 y0) (hx : κ 0 11 ≤ x0) : Row17u κ A k f 0 (y0 + 1) := fun x y h1 h2 => r x y h1 (by have a := h1.1; have b := h1.2.1; omega)
theorem Row17u.all {κ : Hp} {A : Nat → Int} {k : Int} {f : Int → Int → Int} {y0 : Int} (r : Row17u κ A k f 0 y0) (hy : κ 0 12 ≤ y0) : Row17 κ A k f := fun x y h1 => r x y h1 (Or.inl (by have := h1.2.2.2; omega))
theorem Row17u.no {κ : Hp} {A : Nat → Int} {k : Int} {f : Int → Int → Int} : Row17u κ A k f 0 0 := fun x y h1 h2 => by obtain ⟨_, _, _, _⟩ := h1; omega
/-- the other rows of the reference are as they were -/
def Oth (k : Int) (A B : Nat → Int) : Prop := ∀ i : Nat, ((i : Int) < 768 * k ∨ 768 * k + 768 ≤ (i : Int)) → B i = A i
theorem Oth.rf {k : Int} {A : Nat → Int} : Oth k A A := fun _ _ => rfl
theorem Oth.w {k : Int} {A : Nat → Int} {h : Hp} {i : Nat} {v : Int} (r : Oth k A (h 17)) (hi : 768 * k ≤ (i : Int) ∧ (i : Int) < 768 * k + 768) : Oth k A (zwr h 17 i v 17) := fun j hj => (zwr_ne (Or.inr (by omega))).trans (r j hj)
theorem Row17.oth {κ : Hp} {A B : Nat → Int} {j k : Int} {f : Int → Int → Int} (hjk : j ≠ k) (hj : 0 ≤ j) (hk : 0 ≤ k) (hW : κ 0 11 ≤ 16) (hH : κ 0 12 ≤ 16) (hP : 0 ≤ κ 0 13) (o : Oth k A B) (r : Row17 κ A j f) : Row17 κ B j f := fun x y h1 => by
  have z := r x y h1
  obtain ⟨k1, k2, k3, k4⟩ := h1
  rw [o _ (by unfold ix17; omega)]
  exact z
theorem ix_b {P k x y W H : Int} (h : inP W H x y) (hk : 0 ≤ k) (hW : W ≤ 16) (hH : H ≤ 16) (hP : 0 ≤ P) : 768 * k ≤ ((ix17 P k x y).toNat : Int) ∧ ((ix17 P k x y).toNat : Int) < 768 * k + 768 := by
  obtain ⟨k1, k2, k3, k4⟩ := h
  unfold ix17
  omega

theorem bub_s {A : Nat → Int} {j : Nat} (h : A (j + 1) < A j) : bub A (j + 1) = bub (swp A j) j := if_pos h
theorem bub_e {A : Nat → Int} {j : Nat} (h : ¬ A (j + 1) < A j) : bub A (j + 1) = A := if_neg h
/-- in the middle of sorting: the row is B, and what is still to do makes of it what is wanted -/
def SoI (A R : Nat → Int) (n v w : Int) : Prop := ∃ B : Nat → Int, (∀ j : Nat, (j : Int) < n → R j = B j) ∧ bub B w.toNat = srt A (v + 1).toNat
theorem SoI.st {A R : Nat → Int} {n v : Int} (hv : 1 ≤ v) (h : ∀ j : Nat, (j : Int) < n → R j = srt A v.toNat j) : SoI A R n v v := ⟨srt A v.toNat, h, by rw [show (v + 1).toNat = v.toNat + 1 by omega]; rfl⟩
theorem SoI.en {A R : Nat → Int} {n v w : Int} (h : SoI A R n v w) (hw : w ≤ 0 ∨ (1 ≤ w ∧ w < n ∧ ¬ R w.toNat < R (w - 1).toNat)) : ∀ j : Nat, (j : Int) < n → R j = srt A (v + 1).toNat j := by
  obtain ⟨B, h1, h2⟩ := h
  rw [← h2]
  rcases hw with q | ⟨q1, q2, q3⟩
  · rw [show w.toNat = 0 by omega]; exact h1
  · rw [show w.toNat = (w - 1).toNat + 1 by omega, bub_e (by
      rw [← h1 _ (by omega), ← h1 _ (by omega), show (w - 1).toNat + 1 = w.toNat by omega]; exact q3)]
    exact h1
theorem SoI.nx {A : Nat → Int} {h : Hp} {l : Nat} {n v w a b : Int} (hI : SoI A (h l) n v w) (hw : 1 ≤ w ∧ w < n) (ha : a = h l w.toNat) (hb : b = h l (w - 1).toNat) (hl : a < b) : SoI A (zwr (zwr h l w.toNat b) l (w - 1).toNat a l) n v (w - 1) := by
  obtain ⟨B, h1, h2⟩ := hI
  refine ⟨swp B (w - 1).toNat, fun j hj => ?_, ?_⟩
  · unfold swp
    by_cases e : j = (w - 1).toNat + 1
    · rw [if_pos e, zwr_ne (Or.inr (by omega)), show j = w.toNat by omega, zwr_eq, hb]; exact h1 _ (by omega)
    · rw [if_neg e]
      by_cases e2 : j = (w - 1).toNat
      · rw [if_pos e2, e2, zwr_eq, ha, show (w - 1).toNat + 1 = w.toNat by omega]; exact h1 _ (by omega)
      · rw [if_neg e2, zwr_ne (Or.inr e2), zwr_ne (Or.inr (by omega))]; exact h1 _ (by omega)
  · rw [← h2, show w.toNat = (w - 1).toNat + 1 by omega, bub_s]
    rw [← h1 _ (by omega), ← h1 _ (by omega), show (w - 1).toNat + 1 = w.toNat by omega, ← ha, ← hb]; exact hl
theorem bubc (A : Nat → Int) (j : Nat) : (A (j + 1) < A j ∧ bub A (j + 1) = bub (swp A j) j) ∨ (A j ≤ A (j + 1) ∧ bub A (j + 1) = A) := by
  by_cases h : A (j + 1) < A j
  · exact Or.inl ⟨h, bub_s h⟩
  · exact Or.inr ⟨by omega, bub_e h⟩
theorem bu1 (B : Nat → Int) : ((B 1 < B 0 ∧ bub B 1 0 = B 1 ∧ bub B 1 1 = B 0) ∨ (B 0 ≤ B 1 ∧ bub B 1 0 = B 0 ∧ bub B 1 1 = B 1)) ∧ bub B 1 2 = B 2 ∧ bub B 1 3 = B 3 := by
  rcases bubc B 0 with ⟨c, e⟩ | ⟨c, e⟩ <;> rw [e]
  · exact ⟨Or.inl ⟨c, rfl, rfl⟩, rfl, rfl⟩
  · exact ⟨Or.inr ⟨c, rfl, rfl⟩, rfl, rfl⟩
theorem bu2 (B : Nat → Int) : ((B 2 < B 1 ∧ ((B 2 < B 0 ∧ bub B 2 0 = B 2 ∧ bub B 2 1 = B 0) ∨ (B 0 ≤ B 2 ∧ bub B 2 0 = B 0 ∧ bub B 2 1 = B 2)) ∧ bub B 2 2 = B 1) ∨ (B 1 ≤ B 2 ∧ bub B 2 0 = B 0 ∧ bub B 2 1 = B 1 ∧ bub B 2 2 = B 2)) ∧ bub B 2 3 = B 3 := by
  rcases bubc B 1 with ⟨c, e⟩ | ⟨c, e⟩ <;> rw [e]
  · have z := bu1 (swp B 1)
    have s0 : swp B 1 0 = B 0 := rfl
    have s1 : swp B 1 1 = B 2 := rfl
    have s2 : swp B 1 2 = B 1 := rfl
    have s3 : swp B 1 3 = B 3 := rfl
    rw [s0, s1, s2, s3] at z
    exact ⟨Or.inl ⟨c, z.1, z.2.1⟩, z.2.2⟩
  · exact ⟨Or.inr ⟨c, rfl, rfl, rfl⟩, rfl⟩
theorem bu3 (B : Nat → Int) : (B 3 < B 2 ∧ ((B 3 < B 1 ∧ ((B 3 < B 0 ∧ bub B 3 0 = B 3 ∧ bub B 3 1 = B 0) ∨ (B 0 ≤ B 3 ∧ bub B 3 0 = B 0 ∧ bub B 3 1 = B 3)) ∧ bub B 3 2 = B 1) ∨ (B 1 ≤ B 3 ∧ bub B 3 0 = B 0 ∧ bub B 3 1 = B 1 ∧ bub B 3 2 = B 3)) ∧ bub B 3 3 = B 2) ∨ (B 2 ≤ B 3 ∧ bub B 3 = B) := by
  rcases bubc B 2 with ⟨c, e⟩ | ⟨c, e⟩
  · have z := bu2 (swp B 2)
    have s0 : swp B 2 0 = B 0 := rfl
    have s1 : swp B 2 1 = B 1 := rfl
    have s2 : swp B 2 2 = B 3 := rfl
    have s3 : swp B 2 3 = B 2 := rfl
    rw [s0, s1, s2, s3] at z
    rw [e]
    exact Or.inl ⟨c, z.1, z.2⟩
  · exact Or.inr ⟨c, e⟩
theorem mid4_c (a b c d : Int) : ∃ M m : Int, (a ≤ M ∧ b ≤ M ∧ c ≤ M ∧ d ≤ M ∧ (M = a ∨ M = b ∨ M = c ∨ M = d)) ∧ (m ≤ a ∧ m ≤ b ∧ m ≤ c ∧ m ≤ d ∧ (m = a ∨ m = b ∨ m = c ∨ m = d)) ∧ mid4 a b c d = a + b + c + d - M - m := by
  refine ⟨max2 (max2 a b) (max2 c d), min2 (min2 a b) (min2 c d), ?_, ?_, rfl⟩
  · have h1 := max2c a b
    have h2 := max2c c d
    have h3 := max2c (max2 a b) (max2 c d)
    omega
  · have h4 := min2c a b
    have h5 := min2c c d
    have h6 := min2c (min2 a b) (min2 c d)
    omega
theorem mid_srt {A : Nat → Int} : srt A 4 1 + srt A 4 2 = mid4 (A 0) (A 1) (A 2) (A 3) := by
  obtain ⟨M, m, hM, hm, e⟩ := mid4_c (A 0) (A 1) (A 2) (A 3)
  have z1 := bu1 A
  have z2 := bu2 (bub A 1)
  have z3 := bu3 (bub (bub A 1) 2)
  have s4 : srt A 4 = bub (bub (bub A 1) 2) 3 := rfl
  rw [e, s4]
  generalize bub (bub (bub A 1) 2) 3 = C3 at *
  generalize bub (bub A 1) 2 = C2 at *
  generalize bub A 1 = C1 at *
  rcases z3 with ⟨c3, z3, -⟩ | ⟨c3, z3⟩
  · rcases z3 with ⟨d3, z3, w3⟩ | ⟨d3, z3, w3, y3⟩
    · rcases z3 with ⟨f3, z3, u3⟩ | ⟨f3, z3, u3⟩ <;> omega
    · omega
  · subst z3
    omega

theorem clpc (v : Int) : (v < 0 ∧ clp v = 0) ∨ (4095 < v ∧ clp v = 4095) ∨ (0 ≤ v ∧ v ≤ 4095 ∧ clp v = v) := by
  unfold clp
  by_cases h1 : v < 0
  · exact Or.inl ⟨h1, if_pos h1⟩
  · by_cases h2 : 4095 < v
    · exact Or.inr (Or.inl ⟨h2, by rw [if_neg h1, if_pos h2]⟩)
    · exact Or.inr (Or.inr ⟨by omega, by omega, by rw [if_neg h1, if_neg h2]⟩)
theorem abc (v : Int) : (0 ≤ v ∧ ab v = v) ∨ (v < 0 ∧ ab v = -v) := by
  unfold ab
  by_cases h1 : v < 0
  · exact Or.inr ⟨h1, if_pos h1⟩
  · exact Or.inl ⟨by omega, if_neg h1⟩

abbrev q_X12_mirroredZ (κ h : Hp) (x1 : Int) (x2 : Int) : Int → Hp → Prop := fun r h' => h' = h ∧ ((0 ≤ r) ∧ (r ≤ 15) ∧ (r ≤ x2 - 1 ∧ r = mir x1 x2))
set_option maxHeartbeats 4000000 in
set_option maxRecDepth 20000 in
theorem s_X12_mirroredZ {G : Ga} {b : Bd} {κ h : Hp} (hF : Fr b κ h) (x1 : Int) (hx1 : -2 ≤ x1 ∧ x1 ≤ 17) (x2 : Int) (hx2 : 4 ≤ x2 ∧ x2 ≤ 16) (hm : x1 ≤ x2 + 1) : zM G mX12_mirrored yX12_mirrored [.inl x1, .inl x2] h (q_X12_mirroredZ κ h x1 x2) := by
  refine zM_of [some (.inl x1), some (.inl x2)] 0 rfl rfl (Nat.le_of_ble_eq_true rfl) rfl ?_
  refine zW_iload_n (pc' := 1) dX12_mirrored_0.1.1.1.1 rfl rfl ?_
  refine zV_if_ge (tgt := 9) (pc' := 4) dX12_mirrored_0.1.1.1.2 rfl rfl ⟨by omega, by omega⟩ (fun c1 => ?_) (fun c1 => ?_)
  · refine zW_iload_n (pc' := 10) dX12_mirrored_0.1.2.1.2 rfl rfl ?_
    refine zW_iload_n (pc' := 11) dX12_mirrored_0.1.2.2.1 rfl rfl ?_
    refine zV_cm_lt (tgt := 24) (pc' := 14) dX12_mirrored_0.1.2.2.2 rfl rfl ⟨by omega, by omega⟩ ⟨by omega, by omega⟩ (fun c11 => ?_) (fun c11 => ?_)
    · refine zW_iload_n (pc' := 25) dX12_mirrored_1.1 rfl rfl ?_
      exact zV_iret rfl dX12_mirrored_1.2 ⟨rfl, by refine ⟨by omega, by omega, by omega, ?_⟩; unfold mir; first | (rw [if_pos (by omega)]) | (rw [if_neg (by omega), if_pos (by omega)]) | (rw [if_neg (by omega), if_neg (by omega)])⟩
    · refine zW_iconst (pc' := 15) dX12_mirrored_0.2.1.1.1 rfl ?_
      refine zW_iload_n (pc' := 16) dX12_mirrored_0.2.1.1.2 rfl rfl ?_
      refine zW_imul (pc' := 17) dX12_mirrored_0.2.1.2.1 rfl ?_
      refine zW_iconst (pc' := 18) dX12_mirrored_0.2.1.2.2 rfl ?_
      refine zW_isub (pc' := 19) dX12_mirrored_0.2.2.1.1 rfl ?_
      refine zW_iload_n (pc' := 20) dX12_mirrored_0.2.2.1.2 rfl rfl ?_
      refine zW_isub (pc' := 21) dX12_mirrored_0.2.2.2.1 rfl ?_
      refine zV_goto 25 dX12_mirrored_0.2.2.2.2 rfl ?_
      exact zV_iret rfl dX12_mirrored_1.2 ⟨rfl, by refine ⟨by omega, by omega, by omega, ?_⟩; unfold mir; first | (rw [if_pos (by omega)]) | (rw [if_neg (by omega), if_pos (by omega)]) | (rw [if_neg (by omega), if_neg (by omega)])⟩
  · refine zW_iload_n (pc' := 5) dX12_mirrored_0.1.1.2.1 rfl rfl ?_
    refine zW_ineg (pc' := 6) dX12_mirrored_0.1.1.2.2 rfl ?_
    refine zV_goto 25 dX12_mirrored_0.1.2.1.1 rfl ?_
    exact zV_iret rfl dX12_mirrored_1.2 ⟨rfl, by refine ⟨by omega, by omega, by omega, ?_⟩; unfold mir; first | (rw [if_pos (by omega)]) | (rw [if_neg (by omega), if_pos (by omega)]) | (rw [if_neg (by omega), if_neg (by omega)])⟩

abbrev q_X12_colourAtZ (κ h : Hp) (x1 : Int) (x2 : Int) : Int → Hp → Prop := fun r h' => h' = h ∧ ((0 ≤ r) ∧ (r ≤ 2) ∧ (r = (x1 + κ 0 13) % 2 + (x2 + κ 0 13 / 2) % 2))
set_option maxHeartbeats 4000000 in
set_option maxRecDepth 20000 in
theorem s_X12_colourAtZ {G : Ga} {b : Bd} {κ h : Hp} (hK : KR κ) (hF : Fr b κ h) (x1 : Int) (hx1 : 0 ≤ x1 ∧ x1 ≤ 15) (x2 : Int) (hx2 : 0 ≤ x2 ∧ x2 ≤ 15) : zM G mX12_colourAt yX12_colourAt [.inr (.inr 0), .inl x1, .inl x2] h (q_X12_colourAtZ κ h x1 x2) := by
  have f_0_13 := KRp hK
  refine zM_of [some (.inr (.inr 0)), some (.inl x1), some (.inl x2), none, none] 2 rfl rfl (Nat.le_of_ble_eq_true rfl) rfl ?_
  refine zW_iload_n (pc' := 1) dX12_colourAt_0.1.1.1.1 rfl rfl ?_
  refine zW_aload_n (pc' := 2) dX12_colourAt_0.1.1.1.2 rfl rfl ?_
  refine zG_key (pc' := 5) hF rfl fg_X12_209 tb0 rfl dX12_colourAt_0.1.1.2.1 rfl ?_
  refine zW_iadd (pc' := 6) dX12_colourAt_0.1.1.2.2 rfl ?_
  refine zW_iconst (pc' := 7) dX12_colourAt_0.1.2.1.1 rfl ?_
  refine zW_irem (pc' := 8) (by omega) (by omega) dX12_colourAt_0.1.2.1.2 rfl ?_
  refine zW_istore_n (ls' := [_, _, _, _, _]) (pc' := 9) dX12_colourAt_0.1.2.2.1 (by decide) rfl rfl rfl ?_
  refine zW_iload_n (pc' := 10) dX12_colourAt_0.1.2.2.2 rfl rfl ?_
  refine zW_aload_n (pc' := 11) dX12_colourAt_0.2.1.1.1 rfl rfl ?_
  refine zG_key (pc' := 14) hF rfl fg_X12_209 tb0 rfl dX12_colourAt_0.2.1.1.2 rfl ?_
  refine zW_iconst (pc' := 15) dX12_colourAt_0.2.1.2.1 rfl ?_
  refine zW_idiv (pc' := 16) (by omega) (by omega) dX12_colourAt_0.2.1.2.2 rfl ?_
  refine zW_iadd (pc' := 17) dX12_colourAt_0.2.2.1.1 rfl ?_
  refine zW_iconst (pc' := 18) dX12_colourAt_0.2.2.1.2 rfl ?_
  refine zW_irem (pc' := 19) (by omega) (by omega) dX12_colourAt_0.2.2.2.1 rfl ?_
  refine zW_istore (ls' := [_, _, _, _, _]) (pc' := 21) dX12_colourAt_0.2.2.2.2 (by decide) rfl rfl rfl ?_
  refine zW_iload_n (pc' := 22) dX12_colourAt_1.1.1 rfl rfl ?_
  refine zW_iload (pc' := 24) dX12_colourAt_1.1.2 rfl rfl ?_
  refine zW_iadd (pc' := 25) dX12_colourAt_1.2.1 rfl ?_
  exact zV_iret rfl dX12_colourAt_1.2.2 ⟨rfl, by omega⟩

abbrev q_X12_ownZ (κ h : Hp) (x1 : Int) (x2 : Int) (x3 : Int) (f : Int → Int → Int) : Int → Hp → Prop := fun r h' => h' = h ∧ ((0 ≤ r) ∧ (r ≤ 4095) ∧ (r = f (mir x2 (κ 0 11)) (mir x3 (κ 0 12))))
set_option maxHeartbeats 4000000 in
set_option maxRecDepth 20000 in
theorem s_X12_ownZ {G : Ga} {b : Bd} {κ h : Hp} (hK : KR κ) (hF : Fr b κ h) (x1 : Int) (hx1 : 0 ≤ x1 ∧ x1 ≤ 14) (x2 : Int) (hx2 : -2 ≤ x2 ∧ x2 ≤ 17 ∧ x2 - κ 0 11 ≤ 1) (x3 : Int) (hx3 : -2 ≤ x3 ∧ x3 ≤ 17 ∧ x3 - κ 0 12 ≤ 1) (f : Int → Int → Int) (hf : Row17 κ (h 17) x1 f) (hfb : FB (κ 0 11) (κ 0 12) f) : zM G mX12_own yX12_own [.inr (.inr 0), .inl x1, .inl x2, .inl x3] h (q_X12_ownZ κ h x1 x2 x3 f) := by
  have f_0_11 := KRw hK
  have f_0_12 := KRh hK
  refine zM_of [some (.inr (.inr 0)), some (.inl x1), some (.inl x2), some (.inl x3), none, none] 2 rfl rfl (Nat.le_of_ble_eq_true rfl) rfl ?_
  refine zW_iload_n (pc' := 1) dX12_own_0.1.1.1.1 rfl rfl ?_
  refine zW_aload_n (pc' := 2) dX12_own_0.1.1.1.2 rfl rfl ?_
  refine zG_key (pc' := 5) hF rfl fg_X12_99 tb0 rfl dX12_own_0.1.1.2.1 rfl ?_
  refine csI2 (pc' := 8) kX12_mirrored vX12_mirrored lk_X12_236 ⟨Nat.le_of_ble_eq_true rfl, Nat.le_of_ble_eq_true rfl⟩ rfl (s_X12_mirroredZ hF _ ⟨by omega, by omega⟩ _ ⟨by omega, by omega⟩ (by omega)) dX12_own_0.1.1.2.2 (Nat.le_of_ble_eq_true rfl) rfl ?_
  rintro r5 z5 ⟨hz5, p5⟩; subst z5
  refine zW_istore (ls' := [_, _, _, _, _, _]) (pc' := 10) dX12_own_0.1.2.1.1 (by decide) rfl rfl rfl ?_
  refine zW_iload_n (pc' := 11) dX12_own_0.1.2.1.2 rfl rfl ?_
  refine zW_aload_n (pc' := 12) dX12_own_0.1.2.2.1 rfl rfl ?_
  refine zG_key (pc' := 15) hF rfl fg_X12_103 tb0 rfl dX12_own_0.1.2.2.2 rfl ?_
  refine csI2 (pc' := 18) kX12_mirrored vX12_mirrored lk_X12_236 ⟨Nat.le_of_ble_eq_true rfl, Nat.le_of_ble_eq_true rfl⟩ rfl (s_X12_mirroredZ hF _ ⟨by omega, by omega⟩ _ ⟨by omega, by omega⟩ (by omega)) dX12_own_0.2.1.1.1 (Nat.le_of_ble_eq_true rfl) rfl ?_
  rintro r15 z15 ⟨hz15, p15⟩; subst z15
  refine zW_istore (ls' := [_, _, _, _, _, _]) (pc' := 20) dX12_own_0.2.1.1.2 (by decide) rfl rfl rfl ?_
  refine zW_aload_n (pc' := 21) dX12_own_0.2.1.2.1 rfl rfl ?_
  refine zG_ref (pc' := 24) 17 fg_X12_60 tb0 rfl dX12_own_0.2.1.2.2 rfl ?_
  refine zW_sipush (pc' := 27) dX12_own_0.2.2.1.1 rfl rfl ?_
  refine zW_iload_n (pc' := 28) dX12_own_0.2.2.1.2 rfl rfl ?_
  refine zW_imul (pc' := 29) dX12_own_0.2.2.2.1 rfl ?_
  refine zW_sipush (pc' := 32) dX12_own_0.2.2.2.2 rfl rfl ?_
  refine zW_aload_n (pc' := 33) dX12_own_1.1.1.1.1 rfl rfl ?_
  refine zW_iload (pc' := 35) dX12_own_1.1.1.1.2 rfl rfl ?_
  refine zW_iload (pc' := 37) dX12_own_1.1.1.2.1 rfl rfl ?_
  refine cvI2 (pc' := 40) kX12_colourAt vX12_colourAt lk_X12_225 ⟨Nat.le_of_ble_eq_true rfl, Nat.le_of_ble_eq_true rfl⟩ tb0 vq12 rfl rfl (s_X12_colourAtZ hK hF _ ⟨by omega, by omega⟩ _ ⟨by omega, by omega⟩) dX12_own_1.1.1.2.2 (Nat.le_of_ble_eq_true rfl) rfl ?_
  rintro r37 z37 ⟨hz37, p37⟩; subst z37
  refine zW_imul (pc' := 41) dX12_own_1.1.2.1.1 rfl ?_
  refine zW_iadd (pc' := 42) dX12_own_1.1.2.1.2 rfl ?_
  refine zW_bipush (pc' := 44) dX12_own_1.1.2.2 rfl rfl ?_
  refine zW_iload (pc' := 46) dX12_own_1.2.1.1.1 rfl rfl ?_
  refine zW_imul (pc' := 47) dX12_own_1.2.1.1.2 rfl ?_
  refine zW_iadd (pc' := 48) dX12_own_1.2.1.2.1 rfl ?_
  refine zW_iload (pc' := 50) dX12_own_1.2.1.2.2 rfl rfl ?_
  refine zW_iadd (pc' := 51) dX12_own_1.2.2.1.1 rfl ?_
  refine zV_iald (pc' := 52) tb17 (by omega) dX12_own_1.2.2.1.2 (by decide) rfl ?_
  exact zV_iret rfl dX12_own_1.2.2.2 ⟨rfl, by have m1 := mir_b (v := x2) (n := κ 0 11) (by omega) (by omega) (by omega); have m2 := mir_b (v := x3) (n := κ 0 12) (by omega) (by omega) (by omega); have z := hf (mir x2 (κ 0 11)) (mir x3 (κ 0 12)) ⟨m1.1, m1.2, m2.1, m2.2⟩; have b := hfb (mir x2 (κ 0 11)) (mir x3 (κ 0 12)) ⟨m1.1, m1.2, m2.1, m2.2⟩; rw [← z] at b ⊢; have e : 768 * x1 + 256 * r37 + 16 * r15 + r5 = ix17 (κ 0 13) x1 (mir x2 (κ 0 11)) (mir x3 (κ 0 12)) := (by unfold ix17; omega); rw [e]; exact ⟨b.1, b.2, rfl⟩⟩

abbrev q_X12_darkOfZ (κ h : Hp) (x1 : Int) (x2 : Int) (x3 : Int) (f : Int → Int → Int) : Int → Hp → Prop := fun r h' => h' = h ∧ ((0 ≤ r) ∧ (r ≤ 4095) ∧ (r = dkS f x2 x3.toNat / x3))
set_option maxHeartbeats 4000000 in
set_option maxRecDepth 20000 in
theorem s_X12_darkOfZ {G : Ga} {b : Bd} {κ h : Hp} (hK : KR κ) (hF : Fr b κ h) (x1 : Int) (hx1 : 0 ≤ x1 ∧ x1 ≤ 14) (x2 : Int) (hx2 : 0 ≤ x2 ∧ x2 ≤ 15 ∧ x2 - κ 0 12 ≤ -1) (x3 : Int) (hx3 : 1 ≤ x3 ∧ x3 ≤ 4) (f : Int → Int → Int) (hf : Row17 κ (h 17) x1 f) (hfb : FB (κ 0 11) (κ 0 12) f) : zM G mX12_darkOf yX12_darkOf [.inr (.inr 0), .inl x1, .inl x2, .inl x3] h (q_X12_darkOfZ κ h x1 x2 x3 f) := by
  have f_0_11 := KRw hK
  have f_0_12 := KRh hK
  have main : ∀ N : Nat, (∀ (v4 v5 : Int) , (0 ≤ v4 ∧ v4 ≤ 16380) → (0 ≤ v5 ∧ v5 ≤ 4) → (v4 = dkS f x2 v5.toNat) → (v5 ≤ x3) → 2052 + 19 * (4 - v5) + 18 < (N : Int) → zV G mX12_darkOf (q_X12_darkOfZ κ h x1 x2 x3 f) 6 [some (.inr (.inr 0)), some (.inl x1), some (.inl x2), some (.inl x3), some (.inl v4), some (.inl v5)] [] h) := by
    intro N
    induction N with
    | zero =>
      intro v4 v5 g0 g1 gc0 gc1 hm
      exfalso; omega
    | succ N ih =>
      have k6 := ih
      intro v4 v5 g0 g1 gc0 gc1 hm
      refine zW_iload (pc' := 8) dX12_darkOf_0.1.2.1.1 rfl rfl ?_
      refine zW_iload_n (pc' := 9) dX12_darkOf_0.1.2.1.2 rfl rfl ?_
      refine zV_cm_ge (tgt := 31) (pc' := 12) dX12_darkOf_0.1.2.2.1 rfl rfl ⟨by omega, by omega⟩ ⟨by omega, by omega⟩ (fun c9 => ?_) (fun c9 => ?_)
      · refine zW_iload (pc' := 33) dX12_darkOf_1.1.1.2 rfl rfl ?_
        refine zW_iload_n (pc' := 34) dX12_darkOf_1.1.2 rfl rfl ?_
        refine zW_idivX (pc' := 35) ⟨by omega, by omega⟩ ⟨by omega, by omega⟩ dX12_darkOf_1.2.1 rfl (fun v34 t34 e34 => ?_)
        unfold rng at e34
        exact zV_iret rfl dX12_darkOf_1.2.2 ⟨rfl, by have e : v5 = x3 := (by omega); have db := dkS_b (f := f) (y := x2) x3.toNat (fun x h1 h2 => hfb x x2 ⟨h1, by omega, by omega, by omega⟩); rw [e] at gc0; rw [t34, gc0, Int.tdiv_eq_ediv_of_nonneg db.1]; rcases (by omega : x3 = 1 ∨ x3 = 2 ∨ x3 = 3 ∨ x3 = 4) with q | q | q | q <;> (rw [q] at db ⊢; exact ⟨by omega, by omega, rfl⟩)⟩
      · refine zW_iload (pc' := 14) dX12_darkOf_0.1.2.2.2 rfl rfl ?_
        refine zW_aload_n (pc' := 15) dX12_darkOf_0.2.1.1.1 rfl rfl ?_
        refine zW_iload_n (pc' := 16) dX12_darkOf_0.2.1.1.2 rfl rfl ?_
        refine zW_iload (pc' := 18) dX12_darkOf_0.2.1.2.1 rfl rfl ?_
        refine zW_iload_n (pc' := 19) dX12_darkOf_0.2.1.2.2 rfl rfl ?_
        refine cvI3 (pc' := 22) kX12_own vX12_own lk_X12_246 ⟨Nat.le_of_ble_eq_true rfl, Nat.le_of_ble_eq_true rfl⟩ tb0 vq12 rfl rfl (s_X12_ownZ hK hF _ ⟨by omega, by omega⟩ _ ⟨by omega, by omega, by omega⟩ _ ⟨by omega, by omega, by omega⟩ f (by omega) (by omega)) dX12_darkOf_0.2.2.1.1 (Nat.le_of_ble_eq_true rfl) rfl ?_
        rintro r19 z19 ⟨hz19, p19⟩; subst z19
        rw [mir_i (n := κ 0 11) ⟨by omega, by omega⟩, mir_i (n := κ 0 12) ⟨by omega, by omega⟩] at p19
        have ds : dkS f x2 (v5 + 1).toNat = dkS f x2 v5.toNat + f v5 x2 := by rw [show (v5 + 1).toNat = v5.toNat + 1 by omega]; show dkS f x2 v5.toNat + f ((v5.toNat : Nat) : Int) x2 = _; rw [show ((v5.toNat : Nat) : Int) = v5 by omega]
        have db := dkS_b (f := f) (y := x2) (v5 + 1).toNat (fun x h1 h2 => hfb x x2 ⟨h1, by omega, by omega, by omega⟩)
        refine zW_iadd (pc' := 23) dX12_darkOf_0.2.2.1.2 rfl ?_
        refine zW_istore (ls' := [_, _, _, _, _, _]) (pc' := 25) dX12_darkOf_0.2.2.2.1 (by decide) rfl rfl rfl ?_
        refine zW_iinc (ls' := [_, _, _, _, _, _]) (pc' := 28) dX12_darkOf_0.2.2.2.2 rfl (by decide) rfl rfl rfl ?_
        refine zV_goto 6 dX12_darkOf_1.1.1.1 rfl ?_
        exact k6 _ _ (by omega) (by omega) (by first | rfl | omega) (by omega) (by omega)
  refine zM_of [some (.inr (.inr 0)), some (.inl x1), some (.inl x2), some (.inl x3), none, none] 2 rfl rfl (Nat.le_of_ble_eq_true rfl) rfl ?_
  refine zW_iconst (pc' := 1) dX12_darkOf_0.1.1.1.1 rfl ?_
  refine zW_istore (ls' := [_, _, _, _, _, _]) (pc' := 3) dX12_darkOf_0.1.1.1.2 (by decide) rfl rfl rfl ?_
  refine zW_iconst (pc' := 4) dX12_darkOf_0.1.1.2.1 rfl ?_
  refine zW_istore (ls' := [_, _, _, _, _, _]) (pc' := 6) dX12_darkOf_0.1.1.2.2 (by decide) rfl rfl rfl ?_
  exact (main 10000000000000000000000000000000000000000) _ _ (by omega) (by omega) (by first | rfl | omega) (by omega) (by omega)

abbrev q_X12_sortsZ (b : Bd) (κ : Hp) (l1 : Nat) (x2 : Int) (A : Nat → Int) (gh0 : Hp) : Int → Hp → Prop := fun r h' => Fr b κ h' ∧ ((Fw [l1] [] gh0 h') ∧ (∀ i : Nat, (i : Int) < x2 → h' l1 i = srt A x2.toNat i))
set_option maxHeartbeats 4000000 in
set_option maxRecDepth 20000 in
theorem s_X12_sortsZ {G : Ga} {b : Bd} {κ h : Hp} (hF : Fr b κ h) (l1 : Nat) {L1 : Nat} (ht_l1 : tab[l1]? = some (1, 0, [L1])) (hs_l1 : scr b l1 = true) (hb_l1 : L1 < 2147483648) (x2 : Int) (hx2 : 0 ≤ x2 ∧ x2 ≤ 256) (A : Nat → Int) (gh0 : Hp) (hn : x2 ≤ (L1 : Int)) (hA : ∀ j : Nat, (j : Int) < x2 → h l1 j = A j) (h1 : 1 ≤ x2) (hb95 : l1 ≠ 95 ∧ l1 ≠ 97) (hgh : Fw [l1] [] gh0 h) : zM G mX12_sorts yX12_sorts [.inr (.inr l1), .inl x2] h (q_X12_sortsZ b κ l1 x2 A gh0) := by
  have main : ∀ N : Nat, (∀ (v2 : Int) (h : Hp), Fr b κ h → (1 ≤ v2 ∧ v2 ≤ 256) → (v2 ≤ x2) → (∀ i : Nat, (i : Int) < x2 → h l1 i = srt A v2.toNat i) → (Fw [l1] [] gh0 h) → 3791212600 + 368795 * (256 - v2) + 359800 < (N : Int) → zV G mX12_sorts (q_X12_sortsZ b κ l1 x2 A gh0) 2 [some (.inr (.inr l1)), some (.inl x2), some (.inl v2), none, none] [] h) ∧ (∀ (v2 v3 : Int) (h : Hp), Fr b κ h → (2 ≤ x2 ∧ x2 ≤ 256) → (1 ≤ v2 ∧ v2 ≤ 255) → (0 ≤ v3 ∧ v3 ≤ 255) → (v3 ≤ v2) → (v2 < x2) → (SoI A (h l1) x2 v2 v3) → (Fw [l1] [] gh0 h) → 3791212600 + 368795 * (256 - v2) + 305830 + 35 * (v3 - 0) + 34 < (N : Int) → zV G mX12_sorts (q_X12_sortsZ b κ l1 x2 A gh0) 9 [some (.inr (.inr l1)), some (.inl x2), some (.inl v2), some (.inl v3), none] [] h) := by
    intro N
    induction N with
    | zero =>
      refine ⟨?_, ?_⟩
      · intro v2 h hF g0 gc0 gc1 hgh hm
        exfalso; omega
      · intro v2 v3 h hF g0 g1 g2 gc0 gc1 gc2 hgh hm
        exfalso; omega
    | succ N ih =>
      obtain ⟨k2, k9⟩ := ih
      refine ⟨?_, ?_⟩
      · intro v2 h hF g0 gc0 gc1 hgh hm
        have gs := gc1
        refine zW_iload_n (pc' := 3) dX12_sorts_0.1.1.2.1 rfl rfl ?_
        refine zW_iload_n (pc' := 4) dX12_sorts_0.1.1.2.2 rfl rfl ?_
        refine zV_cm_ge (tgt := 56) (pc' := 7) dX12_sorts_0.1.2.1.1 rfl rfl ⟨by omega, by omega⟩ ⟨by omega, by omega⟩ (fun c4 => ?_) (fun c4 => ?_)
        · exact zV_vret rfl dX12_sorts_2.2.2.2 ⟨hF, ⟨hgh, (by rw [show x2.toNat = v2.toNat by omega]; exact gs)⟩⟩
        · refine zW_iload_n (pc' := 8) dX12_sorts_0.1.2.1.2 rfl rfl ?_
          refine zW_istore_n (ls' := [_, _, _, _, _]) (pc' := 9) dX12_sorts_0.1.2.2.1 (by decide) rfl rfl rfl ?_
          exact k9 _ _ _ hF (by omega) (by omega) (by omega) (by omega) (by omega) (by first | exact SoI.st (by omega) gs | (rw [w43, b43, w36, b36, show v3 + -1 = v3 - 1 by omega]; exact gS)) hgh (by omega)
      · intro v2 v3 h hF g0 g1 g2 gc0 gc1 gc2 hgh hm
        refine zW_iload_n (pc' := 10) dX12_sorts_0.1.2.2.2 rfl rfl ?_
        refine zV_if_le (tgt := 50) (pc' := 13) dX12_sorts_0.2.1.1.1 rfl rfl ⟨by omega, by omega⟩ (fun c10 => ?_) (fun c10 => ?_)
        · refine zW_iinc (ls' := [_, _, _, _, _]) (pc' := 53) dX12_sorts_2.2.1.2 rfl (by decide) rfl rfl rfl ?_
          refine zV_goto 2 dX12_sorts_2.2.2.1 rfl ?_
          refine zV_clr 3 (ls' := [_, _, _, _, _]) rfl ?_
          exact k2 _ _ hF (by omega) (by omega) (by first | exact hA | exact gc2.en (Or.inl (by omega)) | exact gc2.en (Or.inr ⟨by omega, by omega, by omega⟩)) hgh (by omega)
        · refine zW_aload_n (pc' := 14) dX12_sorts_0.2.1.1.2 rfl rfl ?_
          refine zW_iload_n (pc' := 15) dX12_sorts_0.2.1.2.1 rfl rfl ?_
          refine zV_iald (pc' := 16) ht_l1 (by omega) dX12_sorts_0.2.1.2.2 hb_l1 rfl ?_
          refine zW_aload_n (pc' := 17) dX12_sorts_0.2.2.1.1 rfl rfl ?_
          refine zW_iload_n (pc' := 18) dX12_sorts_0.2.2.1.2 rfl rfl ?_
          refine zW_iconst (pc' := 19) dX12_sorts_0.2.2.2.1 rfl ?_
          refine zW_isub (pc' := 20) dX12_sorts_0.2.2.2.2 rfl ?_
          refine zV_iald (pc' := 21) ht_l1 (by omega) dX12_sorts_1.1.1.1.1 hb_l1 rfl ?_
          have e1_ := hF.2.2.2.2.2.2 l1 v3.toNat hb95.1 hb95.2
          have e2_ := hF.2.2.2.2.2.2 l1 (v3 - 1).toNat hb95.1 hb95.2
          unfold rng at e1_ e2_
          refine zV_cm_ge (tgt := 50) (pc' := 24) dX12_sorts_1.1.1.1.2 rfl rfl ⟨by omega, by omega⟩ ⟨by omega, by omega⟩ (fun c21 => ?_) (fun c21 => ?_)
          · refine zW_iinc (ls' := [_, _, _, _, _]) (pc' := 53) dX12_sorts_2.2.1.2 rfl (by decide) rfl rfl rfl ?_
            refine zV_goto 2 dX12_sorts_2.2.2.1 rfl ?_
            refine zV_clr 3 (ls' := [_, _, _, _, _]) rfl ?_
            exact k2 _ _ hF (by omega) (by omega) (by first | exact hA | exact gc2.en (Or.inl (by omega)) | exact gc2.en (Or.inr ⟨by omega, by omega, by omega⟩)) hgh (by omega)
          · refine zW_aload_n (pc' := 25) dX12_sorts_1.1.1.2.1 rfl rfl ?_
            refine zW_iload_n (pc' := 26) dX12_sorts_1.1.1.2.2 rfl rfl ?_
            refine zV_iald (pc' := 27) ht_l1 (by omega) dX12_sorts_1.1.2.1.1 hb_l1 rfl ?_
            refine zW_istore (ls' := [_, _, _, _, _]) (pc' := 29) dX12_sorts_1.1.2.1.2 (by decide) rfl rfl rfl ?_
            refine zW_aload_n (pc' := 30) dX12_sorts_1.1.2.2.1 rfl rfl ?_
            refine zW_iload_n (pc' := 31) dX12_sorts_1.1.2.2.2 rfl rfl ?_
            refine zW_aload_n (pc' := 32) dX12_sorts_1.2.1.1.1 rfl rfl ?_
            refine zW_iload_n (pc' := 33) dX12_sorts_1.2.1.1.2 rfl rfl ?_
            refine zW_iconst (pc' := 34) dX12_sorts_1.2.1.2.1 rfl ?_
            refine zW_isub (pc' := 35) dX12_sorts_1.2.1.2.2 rfl ?_
            refine zV_iald (pc' := 36) ht_l1 (by omega) dX12_sorts_1.2.2.1.1 hb_l1 rfl ?_
            refine zS_i (pc' := 37) hF hs_l1 ht_l1 (by omega) dX12_sorts_1.2.2.1.2 hb_l1 rfl (fun h i36 hF a36 b36 w36 => ?_)
            replace hgh : Fw [l1] [] gh0 h := by rw [w36]; exact hgh.wc (by simp)
            replace b36 := b36 ⟨by omega, by omega⟩
            refine zW_aload_n (pc' := 38) dX12_sorts_1.2.2.2.1 rfl rfl ?_
            refine zW_iload_n (pc' := 39) dX12_sorts_1.2.2.2.2 rfl rfl ?_
            refine zW_iconst (pc' := 40) dX12_sorts_2.1.1.1.1 rfl ?_
            refine zW_isub (pc' := 41) dX12_sorts_2.1.1.1.2 rfl ?_
            refine zW_iload (pc' := 43) dX12_sorts_2.1.1.2 rfl rfl ?_
            refine zS_i (pc' := 44) hF hs_l1 ht_l1 (by omega) dX12_sorts_2.1.2.1 hb_l1 rfl (fun h i43 hF a43 b43 w43 => ?_)
            replace hgh : Fw [l1] [] gh0 h := by rw [w43]; exact hgh.wc (by simp)
            replace b43 := b43 ⟨by omega, by omega⟩
            have gS := gc2.nx ⟨by omega, by omega⟩ rfl rfl (by omega)
            refine zW_iinc (ls' := [_, _, _, _, _]) (pc' := 47) dX12_sorts_2.1.2.2 rfl (by decide) rfl rfl rfl ?_
            refine zV_goto 9 dX12_sorts_2.2.1.1 rfl ?_
            refine zV_clr 4 (ls' := [_, _, _, _, _]) rfl ?_
            exact k9 _ _ _ hF (by omega) (by omega) (by omega) (by omega) (by omega) (by first | exact SoI.st (by omega) gs | (rw [w43, b43, w36, b36, show v3 + -1 = v3 - 1 by omega]; exact gS)) hgh (by omega)
  refine zM_of [some (.inr (.inr l1)), some (.inl x2), none, none, none] 3 rfl rfl (Nat.le_of_ble_eq_true rfl) rfl ?_
  refine zW_iconst (pc' := 1) dX12_sorts_0.1.1.1.1 rfl ?_
  refine zW_istore_n (ls' := [_, _, _, _, _]) (pc' := 2) dX12_sorts_0.1.1.1.2 (by decide) rfl rfl rfl ?_
  exact (main 10000000000000000000000000000000000000000).1 _ _ hF (by omega) (by omega) (by first | exact hA | exact gc2.en (Or.inl (by omega)) | exact gc2.en (Or.inr ⟨by omega, by omega, by omega⟩)) hgh (by omega)

abbrev q_X12_clippedZ (κ h : Hp) (x1 : Int) : Int → Hp → Prop := fun r h' => h' = h ∧ ((0 ≤ r) ∧ (r ≤ 4095) ∧ (r = clp x1))
set_option maxHeartbeats 4000000 in
set_option maxRecDepth 20000 in
theorem s_X12_clippedZ {G : Ga} {b : Bd} {κ h : Hp} (hF : Fr b κ h) (x1 : Int) (hx1 : rng x1) : zM G mX12_clipped yX12_clipped [.inl x1] h (q_X12_clippedZ κ h x1) := by
  unfold rng at hx1
  refine zM_of [some (.inl x1)] 0 rfl rfl (Nat.le_of_ble_eq_true rfl) rfl ?_
  refine zW_iconst (pc' := 1) dX12_clipped_0.1.1.1 rfl ?_
  refine zW_sipush (pc' := 4) dX12_clipped_0.1.1.2 rfl rfl ?_
  refine zW_iload_n (pc' := 5) dX12_clipped_0.1.2 rfl rfl ?_
  refine csI2 (pc' := 8) kX12_min vX12_min lk_X12_109 ⟨Nat.le_of_ble_eq_true rfl, Nat.le_of_ble_eq_true rfl⟩ rfl (s_X12_minR hF _ ⟨by omega, by omega⟩ _ ⟨by omega, by omega⟩) dX12_clipped_0.2.1.1 (Nat.le_of_ble_eq_true rfl) rfl ?_
  rintro r5 z5 ⟨hz5, p5⟩; subst z5
  refine csI2 (pc' := 11) kX12_max vX12_max lk_X12_113 ⟨Nat.le_of_ble_eq_true rfl, Nat.le_of_ble_eq_true rfl⟩ rfl (s_X12_maxR hF _ ⟨by omega, by omega⟩ _ ⟨by omega, by omega⟩) dX12_clipped_0.2.1.2 (Nat.le_of_ble_eq_true rfl) rfl ?_
  rintro r8 z8 ⟨hz8, p8⟩; subst z8
  exact zV_iret rfl dX12_clipped_0.2.2 ⟨rfl, (by have z := clpc x1; omega)⟩

abbrev q_X12_laysZ (b : Bd) (κ : Hp) (x1 : Int) (x2 : Int) (x3 : Int) (x4 : Int) (x5 : Int) (gh0 : Hp) : Int → Hp → Prop := fun r h' => Fr b κ h' ∧ ((h' = zwr gh0 17 (768 * x1 + 256 * x2 + 16 * x4 + x3).toNat x5))
set_option maxHeartbeats 4000000 in
set_option maxRecDepth 20000 in
theorem s_X12_laysZ {G : Ga} {b : Bd} {κ h : Hp} (hK : KR κ) (hF : Fr b κ h) (x1 : Int) (hx1 : 0 ≤ x1 ∧ x1 ≤ 14) (x2 : Int) (hx2 : 0 ≤ x2 ∧ x2 ≤ 2) (x3 : Int) (hx3 : 0 ≤ x3 ∧ x3 ≤ 15 ∧ x3 - κ 0 11 ≤ -1) (x4 : Int) (hx4 : 0 ≤ x4 ∧ x4 ≤ 15 ∧ x4 - κ 0 12 ≤ -1) (x5 : Int) (hx5 : rng x5) (gh0 : Hp) (hJ : Ok17 b x1) (hge : h = gh0) : zM G mX12_lays yX12_lays [.inr (.inr 0), .inl x1, .inl x2, .inl x3, .inl x4, .inl x5] h (q_X12_laysZ b κ x1 x2 x3 x4 x5 gh0) := by
  have f_0_11 := KRw hK
  have f_0_12 := KRh hK
  unfold rng at hx5
  refine zM_of [some (.inr (.inr 0)), some (.inl x1), some (.inl x2), some (.inl x3), some (.inl x4), some (.inl x5)] 0 rfl rfl (Nat.le_of_ble_eq_true rfl) rfl ?_
  refine zW_aload_n (pc' := 1) dX12_lays_0.1.1.1.1 rfl rfl ?_
  refine zG_ref (pc' := 4) 17 fg_X12_60 tb0 rfl dX12_lays_0.1.1.1.2 rfl ?_
  refine zW_sipush (pc' := 7) dX12_lays_0.1.1.2.1 rfl rfl ?_
  refine zW_iload_n (pc' := 8) dX12_lays_0.1.1.2.2 rfl rfl ?_
  refine zW_imul (pc' := 9) dX12_lays_0.1.2.1.1 rfl ?_
  refine zW_sipush (pc' := 12) dX12_lays_0.1.2.1.2 rfl rfl ?_
  refine zW_iload_n (pc' := 13) dX12_lays_0.1.2.2.1 rfl rfl ?_
  refine zW_imul (pc' := 14) dX12_lays_0.1.2.2.2 rfl ?_
  refine zW_iadd (pc' := 15) dX12_lays_0.2.1.1.1 rfl ?_
  refine zW_bipush (pc' := 17) dX12_lays_0.2.1.1.2 rfl rfl ?_
  refine zW_iload (pc' := 19) dX12_lays_0.2.1.2.1 rfl rfl ?_
  refine zW_imul (pc' := 20) dX12_lays_0.2.1.2.2 rfl ?_
  refine zW_iadd (pc' := 21) dX12_lays_0.2.2.1.1 rfl ?_
  refine zW_iload_n (pc' := 22) dX12_lays_0.2.2.1.2 rfl rfl ?_
  refine zW_iadd (pc' := 23) dX12_lays_0.2.2.2.1 rfl ?_
  refine zW_iload (pc' := 25) dX12_lays_0.2.2.2.2 rfl rfl ?_
  refine zS_17 (pc' := 26) hF hJ (by omega) (by omega) dX12_lays_1.1 rfl (fun h i25 hF a25 b25 w25 => ?_)
  replace b25 := b25 ⟨by omega, by omega⟩
  exact zV_vret rfl dX12_lays_1.2 ⟨hF, (by rw [w25, b25, hge])⟩

abbrev q_X12_laysOwnZ (b : Bd) (κ : Hp) (x1 : Int) (x2 : Int) (x3 : Int) (x4 : Int) (gh0 : Hp) : Int → Hp → Prop := fun r h' => Fr b κ h' ∧ ((h' = zwr gh0 17 (ix17 (κ 0 13) x1 x2 x3).toNat (clp x4)))
set_option maxHeartbeats 4000000 in
set_option maxRecDepth 20000 in
theorem s_X12_laysOwnZ {G : Ga} {b : Bd} {κ h : Hp} (hK : KR κ) (hF : Fr b κ h) (x1 : Int) (hx1 : 0 ≤ x1 ∧ x1 ≤ 14) (x2 : Int) (hx2 : 0 ≤ x2 ∧ x2 ≤ 15 ∧ x2 - κ 0 11 ≤ -1) (x3 : Int) (hx3 : 0 ≤ x3 ∧ x3 ≤ 15 ∧ x3 - κ 0 12 ≤ -1) (x4 : Int) (hx4 : rng x4) (gh0 : Hp) (hJ : Ok17 b x1) (hge : h = gh0) : zM G mX12_laysOwn yX12_laysOwn [.inr (.inr 0), .inl x1, .inl x2, .inl x3, .inl x4] h (q_X12_laysOwnZ b κ x1 x2 x3 x4 gh0) := by
  have f_0_11 := KRw hK
  have f_0_12 := KRh hK
  have f_0_13 := KRp hK
  unfold rng at hx4
  refine zM_of [some (.inr (.inr 0)), some (.inl x1), some (.inl x2), some (.inl x3), some (.inl x4)] 0 rfl rfl (Nat.le_of_ble_eq_true rfl) rfl ?_
  refine zW_aload_n (pc' := 1) dX12_laysOwn_0.1.1.1.1 rfl rfl ?_
  refine zW_iload_n (pc' := 2) dX12_laysOwn_0.1.1.1.2 rfl rfl ?_
  refine zW_aload_n (pc' := 3) dX12_laysOwn_0.1.1.2 rfl rfl ?_
  refine zW_iload_n (pc' := 4) dX12_laysOwn_0.1.2.1.1 rfl rfl ?_
  refine zW_iload_n (pc' := 5) dX12_laysOwn_0.1.2.1.2 rfl rfl ?_
  refine cvI2 (pc' := 8) kX12_colourAt vX12_colourAt lk_X12_225 ⟨Nat.le_of_ble_eq_true rfl, Nat.le_of_ble_eq_true rfl⟩ tb0 vq12 rfl rfl (s_X12_colourAtZ hK hF _ ⟨by omega, by omega⟩ _ ⟨by omega, by omega⟩) dX12_laysOwn_0.1.2.2 (Nat.le_of_ble_eq_true rfl) rfl ?_
  rintro r5 z5 ⟨hz5, p5⟩; subst z5
  refine zW_iload_n (pc' := 9) dX12_laysOwn_0.2.1.1.1 rfl rfl ?_
  refine zW_iload_n (pc' := 10) dX12_laysOwn_0.2.1.1.2 rfl rfl ?_
  refine zW_iload (pc' := 12) dX12_laysOwn_0.2.1.2 rfl rfl ?_
  refine csI1 (pc' := 15) kX12_clipped vX12_clipped lk_X12_239 ⟨Nat.le_of_ble_eq_true rfl, Nat.le_of_ble_eq_true rfl⟩ rfl (s_X12_clippedZ hF _ ⟨by omega, by omega⟩) dX12_laysOwn_0.2.2.1.1 (Nat.le_of_ble_eq_true rfl) rfl ?_
  rintro r12 z12 ⟨hz12, p12⟩; subst z12
  refine cvV5 (pc' := 18) kX12_lays vX12_lays lk_X12_242 ⟨Nat.le_of_ble_eq_true rfl, Nat.le_of_ble_eq_true rfl⟩ tb0 vq12 rfl rfl (s_X12_laysZ hK hF _ ⟨by omega, by omega⟩ _ ⟨by omega, by omega⟩ _ ⟨by omega, by omega, by omega⟩ _ ⟨by omega, by omega, by omega⟩ _ ⟨by omega, by omega⟩ h hJ rfl) dX12_laysOwn_0.2.2.1.2 (Nat.le_of_ble_eq_true rfl) rfl ?_
  rintro r15 h ⟨hF, p15⟩
  exact zV_vret rfl dX12_laysOwn_0.2.2.2 ⟨hF, (by rw [p15, hge, p12.2.2, p5.2.2]; rfl)⟩

abbrev q_X12_middleOfZ (b : Bd) (κ : Hp) (x1 : Int) (x2 : Int) (x3 : Int) (f : Int → Int → Int) (gh0 : Hp) : Int → Hp → Prop := fun r h' => Fr b κ h' ∧ ((Fw [21] [] gh0 h') ∧ (0 ≤ r) ∧ (r ≤ 4095) ∧ (r = mdl (κ 0 11) (κ 0 12) f x2 x3))
set_option maxHeartbeats 4000000 in
set_option maxRecDepth 20000 in
theorem s_X12_middleOfZ {G : Ga} {b : Bd} {κ h : Hp} (hK : KR κ) (hF : Fr b κ h) (x1 : Int) (hx1 : 0 ≤ x1 ∧ x1 ≤ 14) (x2 : Int) (hx2 : 0 ≤ x2 ∧ x2 ≤ 15 ∧ x2 - κ 0 11 ≤ -1) (x3 : Int) (hx3 : 0 ≤ x3 ∧ x3 ≤ 15 ∧ x3 - κ 0 12 ≤ -1) (f : Int → Int → Int) (gh0 : Hp) (hf : Row17 κ (h 17) x1 f) (hfb : FB (κ 0 11) (κ 0 12) f) (hgh : Fw [21] [] gh0 h) : zM G mX12_middleOf yX12_middleOf [.inr (.inr 0), .inl x1, .inl x2, .inl x3] h (q_X12_middleOfZ b κ x1 x2 x3 f gh0) := by
  have f_0_11 := KRw hK
  have f_0_12 := KRh hK
  refine zM_of [some (.inr (.inr 0)), some (.inl x1), some (.inl x2), some (.inl x3)] 0 rfl rfl (Nat.le_of_ble_eq_true rfl) rfl ?_
  refine zW_aload_n (pc' := 1) dX12_middleOf_0.1.1.1.1 rfl rfl ?_
  refine zG_ref (pc' := 4) 21 fg_X12_72 tb0 rfl dX12_middleOf_0.1.1.1.2 rfl ?_
  refine zW_iconst (pc' := 5) dX12_middleOf_0.1.1.2.1 rfl ?_
  refine zW_aload_n (pc' := 6) dX12_middleOf_0.1.1.2.2 rfl rfl ?_
  refine zW_iload_n (pc' := 7) dX12_middleOf_0.1.2.1.1 rfl rfl ?_
  refine zW_iload_n (pc' := 8) dX12_middleOf_0.1.2.1.2 rfl rfl ?_
  refine zW_iconst (pc' := 9) dX12_middleOf_0.1.2.2.1 rfl ?_
  refine zW_isub (pc' := 10) dX12_middleOf_0.1.2.2.2 rfl ?_
  refine zW_iload_n (pc' := 11) dX12_middleOf_0.2.1.1.1 rfl rfl ?_
  refine cvI3 (pc' := 14) kX12_own vX12_own lk_X12_246 ⟨Nat.le_of_ble_eq_true rfl, Nat.le_of_ble_eq_true rfl⟩ tb0 vq12 rfl rfl (s_X12_ownZ hK hF _ ⟨by omega, by omega⟩ _ ⟨by omega, by omega, by omega⟩ _ ⟨by omega, by omega, by omega⟩ f (by omega) (by omega)) dX12_middleOf_0.2.1.1.2 (Nat.le_of_ble_eq_true rfl) rfl ?_
  rintro r11 z11 ⟨hz11, p11⟩; subst z11
  refine zS_i (pc' := 15) hF sr21 tb21 (by omega) dX12_middleOf_0.2.1.2.1 (by decide) rfl (fun h i14 hF a14 b14 w14 => ?_)
  replace b14 := b14 ⟨by omega, by omega⟩
  replace hgh : Fw [21] [] gh0 h := by rw [w14]; exact hgh.wc (by simp)
  replace hf : Row17 κ (h 17) x1 f := by have q0_ := (congrFun w14 17).trans (zfun (by decide)); rw [q0_]; exact hf
  refine zW_aload_n (pc' := 16) dX12_middleOf_0.2.1.2.2 rfl rfl ?_
  refine zG_ref (pc' := 19) 21 fg_X12_72 tb0 rfl dX12_middleOf_0.2.2.1.1 rfl ?_
  refine zW_iconst (pc' := 20) dX12_middleOf_0.2.2.1.2 rfl ?_
  refine zW_aload_n (pc' := 21) dX12_middleOf_0.2.2.2.1 rfl rfl ?_
  refine zW_iload_n (pc' := 22) dX12_middleOf_0.2.2.2.2 rfl rfl ?_
  refine zW_iload_n (pc' := 23) dX12_middleOf_1.1.1.1.1 rfl rfl ?_
  refine zW_iconst (pc' := 24) dX12_middleOf_1.1.1.1.2 rfl ?_
  refine zW_iadd (pc' := 25) dX12_middleOf_1.1.1.2.1 rfl ?_
  refine zW_iload_n (pc' := 26) dX12_middleOf_1.1.1.2.2 rfl rfl ?_
  refine cvI3 (pc' := 29) kX12_own vX12_own lk_X12_246 ⟨Nat.le_of_ble_eq_true rfl, Nat.le_of_ble_eq_true rfl⟩ tb0 vq12 rfl rfl (s_X12_ownZ hK hF _ ⟨by omega, by omega⟩ _ ⟨by omega, by omega, by omega⟩ _ ⟨by omega, by omega, by omega⟩ f (by omega) (by omega)) dX12_middleOf_1.1.2.1.1 (Nat.le_of_ble_eq_true rfl) rfl ?_
  rintro r26 z26 ⟨hz26, p26⟩; subst z26
  refine zS_i (pc' := 30) hF sr21 tb21 (by omega) dX12_middleOf_1.1.2.1.2 (by decide) rfl (fun h i29 hF a29 b29 w29 => ?_)
  replace b29 := b29 ⟨by omega, by omega⟩
  replace hgh : Fw [21] [] gh0 h := by rw [w29]; exact hgh.wc (by simp)
  replace hf : Row17 κ (h 17) x1 f := by have q0_ := (congrFun w29 17).trans (zfun (by decide)); rw [q0_]; exact hf
  refine zW_aload_n (pc' := 31) dX12_middleOf_1.1.2.2.1 rfl rfl ?_
  refine zG_ref (pc' := 34) 21 fg_X12_72 tb0 rfl dX12_middleOf_1.1.2.2.2 rfl ?_
  refine zW_iconst (pc' := 35) dX12_middleOf_1.2.1.1.1 rfl ?_
  refine zW_aload_n (pc' := 36) dX12_middleOf_1.2.1.1.2 rfl rfl ?_
  refine zW_iload_n (pc' := 37) dX12_middleOf_1.2.1.2.1 rfl rfl ?_
  refine zW_iload_n (pc' := 38) dX12_middleOf_1.2.1.2.2 rfl rfl ?_
  refine zW_iload_n (pc' := 39) dX12_middleOf_1.2.2.1.1 rfl rfl ?_
  refine zW_iconst (pc' := 40) dX12_middleOf_1.2.2.1.2 rfl ?_
  refine zW_isub (pc' := 41) dX12_middleOf_1.2.2.2.1 rfl ?_
  refine cvI3 (pc' := 44) kX12_own vX12_own lk_X12_246 ⟨Nat.le_of_ble_eq_true rfl, Nat.le_of_ble_eq_true rfl⟩ tb0 vq12 rfl rfl (s_X12_ownZ hK hF _ ⟨by omega, by omega⟩ _ ⟨by omega, by omega, by omega⟩ _ ⟨by omega, by omega, by omega⟩ f (by omega) (by omega)) dX12_middleOf_1.2.2.2.2 (Nat.le_of_ble_eq_true rfl) rfl ?_
  rintro r41 z41 ⟨hz41, p41⟩; subst z41
  refine zS_i (pc' := 45) hF sr21 tb21 (by omega) dX12_middleOf_2.1.1.1.1 (by decide) rfl (fun h i44 hF a44 b44 w44 => ?_)
  replace b44 := b44 ⟨by omega, by omega⟩
  replace hgh : Fw [21] [] gh0 h := by rw [w44]; exact hgh.wc (by simp)
  replace hf : Row17 κ (h 17) x1 f := by have q0_ := (congrFun w44 17).trans (zfun (by decide)); rw [q0_]; exact hf
  refine zW_aload_n (pc' := 46) dX12_middleOf_2.1.1.1.2 rfl rfl ?_
  refine zG_ref (pc' := 49) 21 fg_X12_72 tb0 rfl dX12_middleOf_2.1.1.2.1 rfl ?_
  refine zW_iconst (pc' := 50) dX12_middleOf_2.1.1.2.2 rfl ?_
  refine zW_aload_n (pc' := 51) dX12_middleOf_2.1.2.1.1 rfl rfl ?_
  refine zW_iload_n (pc' := 52) dX12_middleOf_2.1.2.1.2 rfl rfl ?_
  refine zW_iload_n (pc' := 53) dX12_middleOf_2.1.2.2.1 rfl rfl ?_
  refine zW_iload_n (pc' := 54) dX12_middleOf_2.1.2.2.2 rfl rfl ?_
  refine zW_iconst (pc' := 55) dX12_middleOf_2.2.1.1.1 rfl ?_
  refine zW_iadd (pc' := 56) dX12_middleOf_2.2.1.1.2 rfl ?_
  refine cvI3 (pc' := 59) kX12_own vX12_own lk_X12_246 ⟨Nat.le_of_ble_eq_true rfl, Nat.le_of_ble_eq_true rfl⟩ tb0 vq12 rfl rfl (s_X12_ownZ hK hF _ ⟨by omega, by omega⟩ _ ⟨by omega, by omega, by omega⟩ _ ⟨by omega, by omega, by omega⟩ f (by omega) (by omega)) dX12_middleOf_2.2.1.2.1 (Nat.le_of_ble_eq_true rfl) rfl ?_
  rintro r56 z56 ⟨hz56, p56⟩; subst z56
  refine zS_i (pc' := 60) hF sr21 tb21 (by omega) dX12_middleOf_2.2.1.2.2 (by decide) rfl (fun h i59 hF a59 b59 w59 => ?_)
  replace b59 := b59 ⟨by omega, by omega⟩
  replace hgh : Fw [21] [] gh0 h := by rw [w59]; exact hgh.wc (by simp)
  replace hf : Row17 κ (h 17) x1 f := by have q0_ := (congrFun w59 17).trans (zfun (by decide)); rw [q0_]; exact hf
  obtain ⟨A, hA⟩ : ∃ A : Nat → Int, A = h 21 := ⟨_, rfl⟩
  have a3 : A 3 = r56 := by rw [hA, w59]; exact zwr_eq.trans b59
  have a2 : A 2 = r41 := by rw [hA, w59, zwr_ne (Or.inr (by decide)), w44]; exact zwr_eq.trans b44
  have a1 : A 1 = r26 := by rw [hA, w59, zwr_ne (Or.inr (by decide)), w44, zwr_ne (Or.inr (by decide)), w29]; exact zwr_eq.trans b29
  have a0 : A 0 = r11 := by rw [hA, w59, zwr_ne (Or.inr (by decide)), w44, zwr_ne (Or.inr (by decide)), w29, zwr_ne (Or.inr (by decide)), w14]; exact zwr_eq.trans b14
  have mx := mir_i (v := x2) (n := κ 0 11) ⟨by omega, by omega⟩
  have my := mir_i (v := x3) (n := κ 0 12) ⟨by omega, by omega⟩
  rw [my] at p11 p26
  rw [mx] at p41 p56
  refine zW_aload_n (pc' := 61) dX12_middleOf_2.2.2.1.1 rfl rfl ?_
  refine zG_ref (pc' := 64) 21 fg_X12_72 tb0 rfl dX12_middleOf_2.2.2.1.2 rfl ?_
  refine zW_iconst (pc' := 65) dX12_middleOf_2.2.2.2.1 rfl ?_
  refine csV2 (pc' := 68) kX12_sorts vX12_sorts lk_X12_250 ⟨Nat.le_of_ble_eq_true rfl, Nat.le_of_ble_eq_true rfl⟩ rfl (s_X12_sortsZ hF _ tb21 (sr21) (by decide) _ ⟨by omega, by omega⟩ A h (by omega) (fun j _ => by rw [hA]) (by omega) (by decide) Fw.rf) dX12_middleOf_2.2.2.2.2 (Nat.le_of_ble_eq_true rfl) rfl ?_
  rintro r65 h ⟨hF, d65, p65⟩
  replace hf : Row17 κ (h 17) x1 f := by have q0_ := (d65.cell (k := 17) (by intro c hc; simp at hc <;> omega) (by intro c hc; simp at hc <;> omega)); rw [q0_]; exact hf
  replace hgh : Fw [21] [] gh0 h := hgh.tr d65 (by simp) (by simp)
  refine zW_aload_n (pc' := 69) dX12_middleOf_3.1.1.1.1 rfl rfl ?_
  refine zG_ref (pc' := 72) 21 fg_X12_72 tb0 rfl dX12_middleOf_3.1.1.1.2 rfl ?_
  refine zW_iconst (pc' := 73) dX12_middleOf_3.1.1.2 rfl ?_
  refine zV_iald (pc' := 74) tb21 (by omega) dX12_middleOf_3.1.2.1.1 (by decide) rfl ?_
  refine zW_aload_n (pc' := 75) dX12_middleOf_3.1.2.1.2 rfl rfl ?_
  refine zG_ref (pc' := 78) 21 fg_X12_72 tb0 rfl dX12_middleOf_3.1.2.2 rfl ?_
  refine zW_iconst (pc' := 79) dX12_middleOf_3.2.1.1.1 rfl ?_
  refine zV_iald (pc' := 80) tb21 (by omega) dX12_middleOf_3.2.1.1.2 (by decide) rfl ?_
  have y1 : h 21 (1 : Int).toNat = srt A 4 1 := p65 1 (by decide)
  have y2 : h 21 (2 : Int).toNat = srt A 4 2 := p65 2 (by decide)
  have ym := mid_srt (A := A)
  rw [a0, a1, a2, a3] at ym
  have yb := mid4_b (a := r11) (b := r26) (c := r41) (d := r56) ⟨by omega, by omega⟩ ⟨by omega, by omega⟩ ⟨by omega, by omega⟩ ⟨by omega, by omega⟩
  refine zW_iadd (pc' := 81) dX12_middleOf_3.2.1.2 rfl ?_
  refine zW_iconst (pc' := 82) dX12_middleOf_3.2.2.1.1 rfl ?_
  refine zW_idiv (pc' := 83) (by omega) (by omega) dX12_middleOf_3.2.2.1.2 rfl ?_
  exact zV_iret rfl dX12_middleOf_3.2.2.2 ⟨hF, ⟨hgh, (by have e : (h 21 (1 : Int).toNat + h 21 (2 : Int).toNat) / 2 = mdl (κ 0 11) (κ 0 12) f x2 x3 := (by rw [y1, y2, ym]; unfold mdl; rw [← p11.2.2, ← p26.2.2, ← p41.2.2, ← p56.2.2]); exact ⟨by omega, by omega, e⟩)⟩⟩

abbrev q_X12_isFoundZ (b : Bd) (κ : Hp) (x1 : Int) (x2 : Int) (x3 : Int) (x4 : Int) (f : Int → Int → Int) (gh0 : Hp) : Int → Hp → Prop := fun r h' => Fr b κ h' ∧ ((Fw [21] [] gh0 h') ∧ (0 ≤ r) ∧ (r ≤ 1) ∧ (r = 1 ↔ fnd (κ 0 11) (κ 0 12) (κ 10) f x4 x2 x3))
set_option maxHeartbeats 4000000 in
set_option maxRecDepth 20000 in
theorem s_X12_isFoundZ {G : Ga} {b : Bd} {κ h : Hp} (hK : KR κ) (hF : Fr b κ h) (x1 : Int) (hx1 : 0 ≤ x1 ∧ x1 ≤ 14) (x2 : Int) (hx2 : 0 ≤ x2 ∧ x2 ≤ 15 ∧ x2 - κ 0 11 ≤ -1) (x3 : Int) (hx3 : 0 ≤ x3 ∧ x3 ≤ 15 ∧ x3 - κ 0 12 ≤ -1) (x4 : Int) (hx4 : 0 ≤ x4 ∧ x4 ≤ 255) (f : Int → Int → Int) (gh0 : Hp) (hf : Row17 κ (h 17) x1 f) (hfb : FB (κ 0 11) (κ 0 12) f) (hgh : Fw [21] [] gh0 h) : zM G mX12_isFound yX12_isFound [.inr (.inr 0), .inl x1, .inl x2, .inl x3, .inl x4] h (q_X12_isFoundZ b κ x1 x2 x3 x4 f gh0) := by
  have f_0_11 := KRw hK
  have f_0_12 := KRh hK
  refine zM_of [some (.inr (.inr 0)), some (.inl x1), some (.inl x2), some (.inl x3), some (.inl x4)] 0 rfl rfl (Nat.le_of_ble_eq_true rfl) rfl ?_
  refine zW_aload_n (pc' := 1) dX12_isFound_0.1.1.1.1 rfl rfl ?_
  refine zG_ref (pc' := 4) 10 fg_X12_37 tb0 rfl dX12_isFound_0.1.1.1.2 rfl ?_
  refine zW_bipush (pc' := 6) dX12_isFound_0.1.1.2.1 rfl rfl ?_
  refine zW_iload_n (pc' := 7) dX12_isFound_0.1.1.2.2 rfl rfl ?_
  refine zW_imul (pc' := 8) dX12_isFound_0.1.2.1.1 rfl ?_
  refine zW_iload_n (pc' := 9) dX12_isFound_0.1.2.1.2 rfl rfl ?_
  refine zW_iadd (pc' := 10) dX12_isFound_0.1.2.2.1 rfl ?_
  refine zA_keyz (pc' := 11) hF rfl tb10 (by omega) dX12_isFound_0.1.2.2.2 (by decide) rfl ?_
  have k10 := KRd hK (16 * x3 + x2).toNat
  refine zV_if_ne (tgt := 40) (pc' := 14) dX12_isFound_0.2.1.1.1 rfl rfl ⟨by omega, by omega⟩ (fun c11 => ?_) (fun c11 => ?_)
  · refine zW_iconst (pc' := 41) dX12_isFound_1.2.1.2 rfl ?_
    refine zV_goto 45 dX12_isFound_1.2.2.1.1 rfl ?_
    exact zV_zret rfl (by omega) dX12_isFound_1.2.2.2 ⟨hF, ⟨hgh, (by refine ⟨by omega, by omega, ?_⟩; have za := abc (f x2 x3 - mdl (κ 0 11) (κ 0 12) f x2 x3); unfold fnd; omega)⟩⟩
  · refine zW_aload_n (pc' := 15) dX12_isFound_0.2.1.1.2 rfl rfl ?_
    refine zW_iload_n (pc' := 16) dX12_isFound_0.2.1.2.1 rfl rfl ?_
    refine zW_iload_n (pc' := 17) dX12_isFound_0.2.1.2.2 rfl rfl ?_
    refine zW_iload_n (pc' := 18) dX12_isFound_0.2.2.1.1 rfl rfl ?_
    refine cvI3 (pc' := 21) kX12_own vX12_own lk_X12_246 ⟨Nat.le_of_ble_eq_true rfl, Nat.le_of_ble_eq_true rfl⟩ tb0 vq12 rfl rfl (s_X12_ownZ hK hF _ ⟨by omega, by omega⟩ _ ⟨by omega, by omega, by omega⟩ _ ⟨by omega, by omega, by omega⟩ f (by omega) (by omega)) dX12_isFound_0.2.2.1.2 (Nat.le_of_ble_eq_true rfl) rfl ?_
    rintro r18 z18 ⟨hz18, p18⟩; subst z18
    refine zW_aload_n (pc' := 22) dX12_isFound_0.2.2.2.1 rfl rfl ?_
    refine zW_iload_n (pc' := 23) dX12_isFound_0.2.2.2.2 rfl rfl ?_
    refine zW_iload_n (pc' := 24) dX12_isFound_1.1.1.1.1 rfl rfl ?_
    refine zW_iload_n (pc' := 25) dX12_isFound_1.1.1.1.2 rfl rfl ?_
    refine cvI3 (pc' := 28) kX12_middleOf vX12_middleOf lk_X12_254 ⟨Nat.le_of_ble_eq_true rfl, Nat.le_of_ble_eq_true rfl⟩ tb0 vq12 rfl rfl (s_X12_middleOfZ hK hF _ ⟨by omega, by omega⟩ _ ⟨by omega, by omega, by omega⟩ _ ⟨by omega, by omega, by omega⟩ f h (by omega) (by omega) Fw.rf) dX12_isFound_1.1.1.2.1 (Nat.le_of_ble_eq_true rfl) rfl ?_
    rintro r25 h ⟨hF, d25, p25⟩
    replace hf : Row17 κ (h 17) x1 f := by have q0_ := (d25.cell (k := 17) (by intro c hc; simp at hc <;> omega) (by intro c hc; simp at hc <;> omega)); rw [q0_]; exact hf
    replace hgh : Fw [21] [] gh0 h := hgh.tr d25 (by simp) (by simp)
    have mx := mir_i (v := x2) (n := κ 0 11) ⟨by omega, by omega⟩
    have my := mir_i (v := x3) (n := κ 0 12) ⟨by omega, by omega⟩
    rw [mx, my] at p18
    refine zW_isub (pc' := 29) dX12_isFound_1.1.1.2.2 rfl ?_
    refine csI1 (pc' := 32) kX12_size vX12_size lk_X12_257 ⟨Nat.le_of_ble_eq_true rfl, Nat.le_of_ble_eq_true rfl⟩ rfl (s_X12_sizeR hF _ ⟨by omega, by omega⟩) dX12_isFound_1.1.2.1.1 (Nat.le_of_ble_eq_true rfl) rfl ?_
    rintro r29 z29 ⟨hz29, p29⟩; subst z29
    refine zW_bipush (pc' := 34) dX12_isFound_1.1.2.1.2 rfl rfl ?_
    refine zW_iload (pc' := 36) dX12_isFound_1.1.2.2 rfl rfl ?_
    refine zW_imul (pc' := 37) dX12_isFound_1.2.1.1.1 rfl ?_
    refine zV_cm_le (tgt := 44) (pc' := 40) dX12_isFound_1.2.1.1.2 rfl rfl ⟨by omega, by omega⟩ ⟨by omega, by omega⟩ (fun c37 => ?_) (fun c37 => ?_)
    · refine zW_iconst (pc' := 45) dX12_isFound_1.2.2.1.2 rfl ?_
      exact zV_zret rfl (by omega) dX12_isFound_1.2.2.2 ⟨hF, ⟨hgh, (by refine ⟨by omega, by omega, ?_⟩; have za := abc (f x2 x3 - mdl (κ 0 11) (κ 0 12) f x2 x3); unfold fnd; omega)⟩⟩
    · refine zW_iconst (pc' := 41) dX12_isFound_1.2.1.2 rfl ?_
      refine zV_goto 45 dX12_isFound_1.2.2.1.1 rfl ?_
      exact zV_zret rfl (by omega) dX12_isFound_1.2.2.2 ⟨hF, ⟨hgh, (by refine ⟨by omega, by omega, ?_⟩; have za := abc (f x2 x3 - mdl (κ 0 11) (κ 0 12) f x2 x3); unfold fnd; omega)⟩⟩

abbrev q_X12_shadedZ (κ h : Hp) (x1 : Int) (x2 : Int) (x3 : Int) (x4 : Int) : Int → Hp → Prop := fun r h' => h' = h ∧ ((0 ≤ r) ∧ (r ≤ 200000) ∧ (r = shd (κ 0 11) (κ 0 12) x4 x1 x2 x3))
set_option maxHeartbeats 4000000 in
set_option maxRecDepth 20000 in
theorem s_X12_shadedZ {G : Ga} {b : Bd} {κ h : Hp} (hK : KR κ) (hF : Fr b κ h) (x1 : Int) (hx1 : 0 ≤ x1 ∧ x1 ≤ 4095) (x2 : Int) (hx2 : 0 ≤ x2 ∧ x2 ≤ 15 ∧ x2 - κ 0 11 ≤ -1) (x3 : Int) (hx3 : 0 ≤ x3 ∧ x3 ≤ 15 ∧ x3 - κ 0 12 ≤ -1) (x4 : Int) (hx4 : 0 ≤ x4 ∧ x4 ≤ 255) : zM G mX12_shaded yX12_shaded [.inr (.inr 0), .inl x1, .inl x2, .inl x3, .inl x4] h (q_X12_shadedZ κ h x1 x2 x3 x4) := by
  have f_0_11 := KRw hK
  have f_0_12 := KRh hK
  refine zM_of [some (.inr (.inr 0)), some (.inl x1), some (.inl x2), some (.inl x3), some (.inl x4), none, none] 2 rfl rfl (Nat.le_of_ble_eq_true rfl) rfl ?_
  refine zW_iconst (pc' := 1) dX12_shaded_0.1.1.1.1 rfl ?_
  refine zW_iload_n (pc' := 2) dX12_shaded_0.1.1.1.2 rfl rfl ?_
  refine zW_imul (pc' := 3) dX12_shaded_0.1.1.2.1 rfl ?_
  refine zW_iconst (pc' := 4) dX12_shaded_0.1.1.2.2 rfl ?_
  refine zW_iadd (pc' := 5) dX12_shaded_0.1.2.1.1 rfl ?_
  refine zW_aload_n (pc' := 6) dX12_shaded_0.1.2.1.2 rfl rfl ?_
  refine zG_key (pc' := 9) hF rfl fg_X12_99 tb0 rfl dX12_shaded_0.1.2.2.1 rfl ?_
  refine zW_isub (pc' := 10) dX12_shaded_0.1.2.2.2 rfl ?_
  refine zW_istore (ls' := [_, _, _, _, _, _, _]) (pc' := 12) dX12_shaded_0.2.1.1.1 (by decide) rfl rfl rfl ?_
  refine zW_iconst (pc' := 13) dX12_shaded_0.2.1.1.2 rfl ?_
  refine zW_iload_n (pc' := 14) dX12_shaded_0.2.1.2.1 rfl rfl ?_
  refine zW_imul (pc' := 15) dX12_shaded_0.2.1.2.2 rfl ?_
  refine zW_iconst (pc' := 16) dX12_shaded_0.2.2.1.1 rfl ?_
  refine zW_iadd (pc' := 17) dX12_shaded_0.2.2.1.2 rfl ?_
  refine zW_aload_n (pc' := 18) dX12_shaded_0.2.2.2.1 rfl rfl ?_
  refine zG_key (pc' := 21) hF rfl fg_X12_103 tb0 rfl dX12_shaded_0.2.2.2.2 rfl ?_
  refine zW_isub (pc' := 22) dX12_shaded_1.1.1.1.1 rfl ?_
  refine zW_istore (ls' := [_, _, _, _, _, _, _]) (pc' := 24) dX12_shaded_1.1.1.1.2 (by decide) rfl rfl rfl ?_
  refine zW_iload_n (pc' := 25) dX12_shaded_1.1.1.2.1 rfl rfl ?_
  refine zW_sipush (pc' := 28) dX12_shaded_1.1.1.2.2 rfl rfl ?_
  refine zW_iload (pc' := 30) dX12_shaded_1.1.2.1.1 rfl rfl ?_
  refine zW_iload (pc' := 32) dX12_shaded_1.1.2.1.2 rfl rfl ?_
  refine zW_iload (pc' := 34) dX12_shaded_1.1.2.2.1 rfl rfl ?_
  refine zW_imul (pc' := 35) dX12_shaded_1.1.2.2.2 rfl ?_
  have q34 := sqb (a := 2 * x2 + 1 - κ 0 11) (A := 15) ⟨by omega, by omega⟩
  refine zW_iload (pc' := 37) dX12_shaded_1.2.1.1.1 rfl rfl ?_
  refine zW_iload (pc' := 39) dX12_shaded_1.2.1.1.2 rfl rfl ?_
  refine zW_imul (pc' := 40) dX12_shaded_1.2.1.2.1 rfl ?_
  have q39 := sqb (a := 2 * x3 + 1 - κ 0 12) (A := 15) ⟨by omega, by omega⟩
  refine zW_iadd (pc' := 41) dX12_shaded_1.2.1.2.2 rfl ?_
  refine zW_imul (pc' := 42) dX12_shaded_1.2.2.1.1 rfl ?_
  have q41 := mulq (a := x4) (b := (2 * x2 + 1 - κ 0 11) * (2 * x2 + 1 - κ 0 11) + (2 * x3 + 1 - κ 0 12) * (2 * x3 + 1 - κ 0 12)) (A := 255) (B := 450) ⟨by omega, by omega⟩ ⟨by omega, by omega⟩
  refine zW_bipush (pc' := 44) dX12_shaded_1.2.2.1.2 rfl rfl ?_
  refine zW_idiv (pc' := 45) (by omega) (by omega) dX12_shaded_1.2.2.2.1 rfl ?_
  refine zW_iadd (pc' := 46) dX12_shaded_1.2.2.2.2 rfl ?_
  refine zW_imul (pc' := 47) dX12_shaded_2.1.1 rfl ?_
  have q46 := mulq (a := x1) (b := 256 + x4 * ((2 * x2 + 1 - κ 0 11) * (2 * x2 + 1 - κ 0 11) + (2 * x3 + 1 - κ 0 12) * (2 * x3 + 1 - κ 0 12)) / 16) (A := 4095) (B := 7427) ⟨by omega, by omega⟩ ⟨by omega, by omega⟩
  refine zW_sipush (pc' := 50) dX12_shaded_2.1.2 rfl rfl ?_
  refine zW_idiv (pc' := 51) (by omega) (by omega) dX12_shaded_2.2.1 rfl ?_
  exact zV_iret rfl dX12_shaded_2.2.2 ⟨rfl, ⟨by omega, by omega, rfl⟩⟩

abbrev q_X12_earlyV98Z (b : Bd) (κ : Hp) (x1 : Int) (x2 : Int) (x3 : Int) (x4 : Int) (f : Int → Int → Int) (gh0 : Hp) : Int → Hp → Prop := fun r h' => Fr b κ h' ∧ ((Fw [17] [] gh0 h') ∧ (Row17 κ (h' 17) x4 (fun x y => clp (f x y - 16 * x2)) ∧ Oth x4 (gh0 17) (h' 17)))
set_option maxHeartbeats 4000000 in
set_option maxRecDepth 20000 in
theorem s_X12_earlyV98Z {G : Ga} {b : Bd} {κ h : Hp} (hK : KR κ) (hF : Fr b κ h) (x1 : Int) (hx1 : 98 ≤ x1 ∧ x1 ≤ 98) (x2 : Int) (hx2 : 0 ≤ x2 ∧ x2 ≤ 255) (x3 : Int) (hx3 : 0 ≤ x3 ∧ x3 ≤ 14) (x4 : Int) (hx4 : 0 ≤ x4 ∧ x4 ≤ 14) (f : Int → Int → Int) (gh0 : Hp) (hJ : Ok17 b x4) (hne : x3 ≠ x4) (hf : Row17 κ (h 17) x3 f) (hfb : FB (κ 0 11) (κ 0 12) f) (hge : h = gh0) (hgh : Fw [17] [] gh0 h) : zM G mX12_early yX12_early [.inr (.inr 0), .inl x1, .inl x2, .inl x3, .inl x4] h (q_X12_earlyV98Z b κ x1 x2 x3 x4 f gh0) := by
  have f_0_11 := KRw hK
  have f_0_12 := KRh hK
  have f_0_13 := KRp hK
  have h0f : Row17 κ (gh0 17) x3 f := by rw [← hge]; exact hf
  have main : ∀ N : Nat, (∀ (v5 : Int) (h : Hp), Fr b κ h → (0 ≤ v5 ∧ v5 ≤ 16) → (v5 - κ 0 12 ≤ 0) → (Row17u κ (h 17) x4 (fun x y => clp (f x y - 16 * x2)) 0 v5) → (Oth x4 (gh0 17) (h 17)) → (Fw [17] [] gh0 h) → 122277600 + 91800 * (16 - v5) + 90576 < (N : Int) → zV G mX12_early (q_X12_earlyV98Z b κ x1 x2 x3 x4 f gh0) 3 [some (.inr (.inr 0)), some (.inl x1), some (.inl x2), some (.inl x3), some (.inl x4), some (.inl v5), none, none] [] h) ∧ (∀ (v5 v6 : Int) (h : Hp), Fr b κ h → (0 ≤ v5 ∧ v5 ≤ 15) → (v5 - κ 0 12 ≤ -1) → (0 ≤ v6 ∧ v6 ≤ 16) → (v6 - κ 0 11 ≤ 0) → (Row17u κ (h 17) x4 (fun x y => clp (f x y - 16 * x2)) v6 v5) → (Oth x4 (gh0 17) (h 17)) → (Fw [17] [] gh0 h) → 122277600 + 91800 * (16 - v5) + 82008 + 68 * (16 - v6) + 67 < (N : Int) → zV G mX12_early (q_X12_earlyV98Z b κ x1 x2 x3 x4 f gh0) 15 [some (.inr (.inr 0)), some (.inl x1), some (.inl x2), some (.inl x3), some (.inl x4), some (.inl v5), some (.inl v6), none] [] h) := by
    intro N
    induction N with
    | zero =>
      refine ⟨?_, ?_⟩
      · intro v5 h hF g0 g1 gc0 gc1 hgh hm
        exfalso; omega
      · intro v5 v6 h hF g0 g1 g2 g3 gc0 gc1 hgh hm
        exfalso; omega
    | succ N ih =>
      obtain ⟨k3, k15⟩ := ih
      refine ⟨?_, ?_⟩
      · intro v5 h hF g0 g1 gc0 gc1 hgh hm
        refine zW_iload (pc' := 5) dX12_early_0.1.1.2.1 rfl rfl ?_
        refine zW_aload_n (pc' := 6) dX12_early_0.1.1.2.2 rfl rfl ?_
        refine zG_key (pc' := 9) hF rfl fg_X12_103 tb0 rfl dX12_early_0.1.2.1.1 rfl ?_
        refine zV_cm_ge (tgt := 142) (pc' := 12) dX12_early_0.1.2.1.2 rfl rfl ⟨by omega, by omega⟩ ⟨by omega, by omega⟩ (fun c9 => ?_) (fun c9 => ?_)
        · exact zV_vret rfl dX12_early_4.2.2.2 ⟨hF, ⟨hgh, ⟨gc0.all (by omega), gc1⟩⟩⟩
        · refine zW_iconst (pc' := 13) dX12_early_0.1.2.2.1 rfl ?_
          refine zW_istore (ls' := [_, _, _, _, _, _, _, _]) (pc' := 15) dX12_early_0.1.2.2.2 (by decide) rfl rfl rfl ?_
          exact k15 _ _ _ hF (by omega) (by omega) (by omega) (by omega) (by first | exact hr2 | exact gc0) (by first | exact ho2 | exact gc1) hgh (by omega)
      · intro v5 v6 h hF g0 g1 g2 g3 gc0 gc1 hgh hm
        refine zW_iload (pc' := 17) dX12_early_0.2.1.1.1 rfl rfl ?_
        refine zW_aload_n (pc' := 18) dX12_early_0.2.1.1.2 rfl rfl ?_
        refine zG_key (pc' := 21) hF rfl fg_X12_99 tb0 rfl dX12_early_0.2.1.2.1 rfl ?_
        refine zV_cm_ge (tgt := 136) (pc' := 24) dX12_early_0.2.1.2.2 rfl rfl ⟨by omega, by omega⟩ ⟨by omega, by omega⟩ (fun c21 => ?_) (fun c21 => ?_)
        · refine zW_iinc (ls' := [_, _, _, _, _, _, _, _]) (pc' := 139) dX12_early_4.2.1.2 rfl (by decide) rfl rfl rfl ?_
          refine zV_goto 3 dX12_early_4.2.2.1 rfl ?_
          refine zV_clr 6 (ls' := [_, _, _, _, _, _, _, _]) rfl ?_
          exact k3 _ _ hF (by omega) (by omega) (by first | exact gc0.rowx (by omega) | exact Row17u.no) (by first | exact gc1 | (rw [hge]; exact Oth.rf)) hgh (by omega)
        · have hf : Row17 κ (h 17) x3 f := Row17.oth (by omega) (by omega) (by omega) (by omega) (by omega) (by omega) gc1 h0f
          refine zW_aload_n (pc' := 25) dX12_early_0.2.2.1.1 rfl rfl ?_
          refine zW_iload_n (pc' := 26) dX12_early_0.2.2.1.2 rfl rfl ?_
          refine zW_iload (pc' := 28) dX12_early_0.2.2.2.1 rfl rfl ?_
          refine zW_iload (pc' := 30) dX12_early_0.2.2.2.2 rfl rfl ?_
          refine cvI3 (pc' := 33) kX12_own vX12_own lk_X12_246 ⟨Nat.le_of_ble_eq_true rfl, Nat.le_of_ble_eq_true rfl⟩ tb0 vq12 rfl rfl (s_X12_ownZ hK hF _ ⟨by omega, by omega⟩ _ ⟨by omega, by omega, by omega⟩ _ ⟨by omega, by omega, by omega⟩ f (by omega) (by omega)) dX12_early_1.1.1.1.1 (Nat.le_of_ble_eq_true rfl) rfl ?_
          rintro r30 z30 ⟨hz30, p30⟩; subst z30
          have mx := mir_i (v := v6) (n := κ 0 11) ⟨by omega, by omega⟩
          have my := mir_i (v := v5) (n := κ 0 12) ⟨by omega, by omega⟩
          rw [mx, my] at p30
          refine zW_istore (ls' := [_, _, _, _, _, _, _, _]) (pc' := 35) dX12_early_1.1.1.1.2 (by decide) rfl rfl rfl ?_
          refine zW_iload_n (pc' := 36) dX12_early_1.1.1.2.1 rfl rfl ?_
          refine zW_bipush (pc' := 38) dX12_early_1.1.1.2.2 rfl rfl ?_
          refine zV_cm_ne (tgt := 50) (pc' := 41) dX12_early_1.1.2.1.1 rfl rfl ⟨by omega, by omega⟩ ⟨by omega, by omega⟩ (fun c38 => ?_) (fun c38 => ?_)
          · exfalso; omega
          · refine zW_iload (pc' := 43) dX12_early_1.1.2.1.2 rfl rfl ?_
            refine zW_bipush (pc' := 45) dX12_early_1.1.2.2.1 rfl rfl ?_
            refine zW_iload_n (pc' := 46) dX12_early_1.1.2.2.2 rfl rfl ?_
            refine zW_imul (pc' := 47) dX12_early_1.2.1.1.1 rfl ?_
            refine zW_isub (pc' := 48) dX12_early_1.2.1.1.2 rfl ?_
            refine zW_istore (ls' := [_, _, _, _, _, _, _, _]) (pc' := 50) dX12_early_1.2.1.2.1 (by decide) rfl rfl rfl ?_
            refine zW_iload_n (pc' := 51) dX12_early_1.2.1.2.2 rfl rfl ?_
            refine zW_bipush (pc' := 53) dX12_early_1.2.2.1.1 rfl rfl ?_
            refine zV_cm_ne (tgt := 69) (pc' := 56) dX12_early_1.2.2.1.2 rfl rfl ⟨by omega, by omega⟩ ⟨by omega, by omega⟩ (fun c53 => ?_) (fun c53 => ?_)
            · refine zW_iload_n (pc' := 70) dX12_early_2.1.2.2.1 rfl rfl ?_
              refine zW_bipush (pc' := 72) dX12_early_2.1.2.2.2 rfl rfl ?_
              refine zV_cm_ne (tgt := 99) (pc' := 75) dX12_early_2.2.1.1.1 rfl rfl ⟨by omega, by omega⟩ ⟨by omega, by omega⟩ (fun c72 => ?_) (fun c72 => ?_)
              · refine zW_iload_n (pc' := 100) dX12_early_3.1.2.2.1 rfl rfl ?_
                refine zW_bipush (pc' := 102) dX12_early_3.1.2.2.2 rfl rfl ?_
                refine zV_cm_ne (tgt := 118) (pc' := 105) dX12_early_3.2.1.1.1 rfl rfl ⟨by omega, by omega⟩ ⟨by omega, by omega⟩ (fun c102 => ?_) (fun c102 => ?_)
                · refine zW_aload_n (pc' := 119) dX12_early_4.1.1.1.1 rfl rfl ?_
                  refine zW_iload (pc' := 121) dX12_early_4.1.1.1.2 rfl rfl ?_
                  refine zW_iload (pc' := 123) dX12_early_4.1.1.2 rfl rfl ?_
                  refine zW_iload (pc' := 125) dX12_early_4.1.2.1.1 rfl rfl ?_
                  refine zW_iload (pc' := 127) dX12_early_4.1.2.1.2 rfl rfl ?_
                  refine cvV4 (pc' := 130) kX12_laysOwn vX12_laysOwn lk_X12_270 ⟨Nat.le_of_ble_eq_true rfl, Nat.le_of_ble_eq_true rfl⟩ tb0 vq12 rfl rfl (s_X12_laysOwnZ hK hF _ ⟨by omega, by omega⟩ _ ⟨by omega, by omega, by omega⟩ _ ⟨by omega, by omega, by omega⟩ _ ⟨by omega, by omega⟩ h hJ rfl) dX12_early_4.1.2.2 (Nat.le_of_ble_eq_true rfl) rfl ?_
                  rintro r127 h ⟨hF, p127⟩
                  have hr2 : Row17u κ (h 17) x4 (fun x y => clp (f x y - 16 * x2)) (v6 + 1) v5 := by rw [p127]; exact Row17u.nx (by omega) (by omega) (by omega) (by omega) ⟨by omega, by omega, by omega, by omega⟩ gc0 (by rw [p30.2.2])
                  have ho2 : Oth x4 (gh0 17) (h 17) := by rw [p127]; exact gc1.w (ix_b (W := κ 0 11) (H := κ 0 12) ⟨by omega, by omega, by omega, by omega⟩ (by omega) (by omega) (by omega) (by omega))
                  replace hgh : Fw [17] [] gh0 h := by rw [p127]; exact hgh.wc (by simp)
                  refine zW_iinc (ls' := [_, _, _, _, _, _, _, _]) (pc' := 133) dX12_early_4.2.1.1.1 rfl (by decide) rfl rfl rfl ?_
                  refine zV_goto 15 dX12_early_4.2.1.1.2 rfl ?_
                  refine zV_clr 7 (ls' := [_, _, _, _, _, _, _, _]) rfl ?_
                  exact k15 _ _ _ hF (by omega) (by omega) (by omega) (by omega) (by first | exact hr2 | exact gc0) (by first | exact ho2 | exact gc1) hgh (by omega)
                · exfalso; omega
              · exfalso; omega
            · exfalso; omega
  refine zM_of [some (.inr (.inr 0)), some (.inl x1), some (.inl x2), some (.inl x3), some (.inl x4), none, none, none] 3 rfl rfl (Nat.le_of_ble_eq_true rfl) rfl ?_
  refine zW_iconst (pc' := 1) dX12_early_0.1.1.1.1 rfl ?_
  refine zW_istore (ls' := [_, _, _, _, _, _, _, _]) (pc' := 3) dX12_early_0.1.1.1.2 (by decide) rfl rfl rfl ?_
  exact (main 10000000000000000000000000000000000000000).1 _ _ hF (by omega) (by omega) (by first | exact gc0.rowx (by omega) | exact Row17u.no) (by first | exact gc1 | (rw [hge]; exact Oth.rf)) hgh (by omega)

abbrev q_X12_earlyV111Z (b : Bd) (κ : Hp) (x1 : Int) (x2 : Int) (x3 : Int) (x4 : Int) (f : Int → Int → Int) (gh0 : Hp) : Int → Hp → Prop := fun r h' => Fr b κ h' ∧ ((Fw [17] [] gh0 h') ∧ (Row17 κ (h' 17) x4 (fun x y => clp (f x y - dkS f y x2.toNat / x2)) ∧ Oth x4 (gh0 17) (h' 17)))
set_option maxHeartbeats 4000000 in
set_option maxRecDepth 20000 in
theorem s_X12_earlyV111Z {G : Ga} {b : Bd} {κ h : Hp} (hK : KR κ) (hF : Fr b κ h) (x1 : Int) (hx1 : 111 ≤ x1 ∧ x1 ≤ 111) (x2 : Int) (hx2 : 1 ≤ x2 ∧ x2 ≤ 4) (x3 : Int) (hx3 : 0 ≤ x3 ∧ x3 ≤ 14) (x4 : Int) (hx4 : 0 ≤ x4 ∧ x4 ≤ 14) (f : Int → Int → Int) (gh0 : Hp) (hJ : Ok17 b x4) (hne : x3 ≠ x4) (hf : Row17 κ (h 17) x3 f) (hfb : FB (κ 0 11) (κ 0 12) f) (hge : h = gh0) (hgh : Fw [17] [] gh0 h) : zM G mX12_early yX12_early [.inr (.inr 0), .inl x1, .inl x2, .inl x3, .inl x4] h (q_X12_earlyV111Z b κ x1 x2 x3 x4 f gh0) := by
  have f_0_11 := KRw hK
  have f_0_12 := KRh hK
  have f_0_13 := KRp hK
  have h0f : Row17 κ (gh0 17) x3 f := by rw [← hge]; exact hf
  have main : ∀ N : Nat, (∀ (v5 : Int) (h : Hp), Fr b κ h → (0 ≤ v5 ∧ v5 ≤ 16) → (v5 - κ 0 12 ≤ 0) → (Row17u κ (h 17) x4 (fun x y => clp (f x y - dkS f y x2.toNat / x2)) 0 v5) → (Oth x4 (gh0 17) (h 17)) → (Fw [17] [] gh0 h) → 122277600 + 91800 * (16 - v5) + 90576 < (N : Int) → zV G mX12_early (q_X12_earlyV111Z b κ x1 x2 x3 x4 f gh0) 3 [some (.inr (.inr 0)), some (.inl x1), some (.inl x2), some (.inl x3), some (.inl x4), some (.inl v5), none, none] [] h) ∧ (∀ (v5 v6 : Int) (h : Hp), Fr b κ h → (0 ≤ v5 ∧ v5 ≤ 15) → (v5 - κ 0 12 ≤ -1) → (0 ≤ v6 ∧ v6 ≤ 16) → (v6 - κ 0 11 ≤ 0) → (Row17u κ (h 17) x4 (fun x y => clp (f x y - dkS f y x2.toNat / x2)) v6 v5) → (Oth x4 (gh0 17) (h 17)) → (Fw [17] [] gh0 h) → 122277600 + 91800 * (16 - v5) + 82008 + 68 * (16 - v6) + 67 < (N : Int) → zV G mX12_early (q_X12_earlyV111Z b κ x1 x2 x3 x4 f gh0) 15 [some (.inr (.inr 0)), some (.inl x1), some (.inl x2), some (.inl x3), some (.inl x4), some (.inl v5), some (.inl v6), none] [] h) := by
    intro N
    induction N with
    | zero =>
      refine ⟨?_, ?_⟩
      · intro v5 h hF g0 g1 gc0 gc1 hgh hm
        exfalso; omega
      · intro v5 v6 h hF g0 g1 g2 g3 gc0 gc1 hgh hm
        exfalso; omega
    | succ N ih =>
      obtain ⟨k3, k15⟩ := ih
      refine ⟨?_, ?_⟩
      · intro v5 h hF g0 g1 gc0 gc1 hgh hm
        refine zW_iload (pc' := 5) dX12_early_0.1.1.2.1 rfl rfl ?_
        refine zW_aload_n (pc' := 6) dX12_early_0.1.1.2.2 rfl rfl ?_
        refine zG_key (pc' := 9) hF rfl fg_X12_103 tb0 rfl dX12_early_0.1.2.1.1 rfl ?_
        refine zV_cm_ge (tgt := 142) (pc' := 12) dX12_early_0.1.2.1.2 rfl rfl ⟨by omega, by omega⟩ ⟨by omega, by omega⟩ (fun c9 => ?_) (fun c9 => ?_)
        · exact zV_vret rfl dX12_early_4.2.2.2 ⟨hF, ⟨hgh, ⟨gc0.all (by omega), gc1⟩⟩⟩
        · refine zW_iconst (pc' := 13) dX12_early_0.1.2.2.1 rfl ?_
          refine zW_istore (ls' := [_, _, _, _, _, _, _, _]) (pc' := 15) dX12_early_0.1.2.2.2 (by decide) rfl rfl rfl ?_
          exact k15 _ _ _ hF (by omega) (by omega) (by omega) (by omega) (by first | exact hr2 | exact gc0) (by first | exact ho2 | exact gc1) hgh (by omega)
      · intro v5 v6 h hF g0 g1 g2 g3 gc0 gc1 hgh hm
        refine zW_iload (pc' := 17) dX12_early_0.2.1.1.1 rfl rfl ?_
        refine zW_aload_n (pc' := 18) dX12_early_0.2.1.1.2 rfl rfl ?_
        refine zG_key (pc' := 21) hF rfl fg_X12_99 tb0 rfl dX12_early_0.2.1.2.1 rfl ?_
        refine zV_cm_ge (tgt := 136) (pc' := 24) dX12_early_0.2.1.2.2 rfl rfl ⟨by omega, by omega⟩ ⟨by omega, by omega⟩ (fun c21 => ?_) (fun c21 => ?_)
        · refine zW_iinc (ls' := [_, _, _, _, _, _, _, _]) (pc' := 139) dX12_early_4.2.1.2 rfl (by decide) rfl rfl rfl ?_
          refine zV_goto 3 dX12_early_4.2.2.1 rfl ?_
          refine zV_clr 6 (ls' := [_, _, _, _, _, _, _, _]) rfl ?_
          exact k3 _ _ hF (by omega) (by omega) (by first | exact gc0.rowx (by omega) | exact Row17u.no) (by first | exact gc1 | (rw [hge]; exact Oth.rf)) hgh (by omega)
        · have hf : Row17 κ (h 17) x3 f := Row17.oth (by omega) (by omega) (by omega) (by omega) (by omega) (by omega) gc1 h0f
          refine zW_aload_n (pc' := 25) dX12_early_0.2.2.1.1 rfl rfl ?_
          refine zW_iload_n (pc' := 26) dX12_early_0.2.2.1.2 rfl rfl ?_
          refine zW_iload (pc' := 28) dX12_early_0.2.2.2.1 rfl rfl ?_
          refine zW_iload (pc' := 30) dX12_early_0.2.2.2.2 rfl rfl ?_
          refine cvI3 (pc' := 33) kX12_own vX12_own lk_X12_246 ⟨Nat.le_of_ble_eq_true rfl, Nat.le_of_ble_eq_true rfl⟩ tb0 vq12 rfl rfl (s_X12_ownZ hK hF _ ⟨by omega, by omega⟩ _ ⟨by omega, by omega, by omega⟩ _ ⟨by omega, by omega, by omega⟩ f (by omega) (by omega)) dX12_early_1.1.1.1.1 (Nat.le_of_ble_eq_true rfl) rfl ?_
          rintro r30 z30 ⟨hz30, p30⟩; subst z30
          have mx := mir_i (v := v6) (n := κ 0 11) ⟨by omega, by omega⟩
          have my := mir_i (v := v5) (n := κ 0 12) ⟨by omega, by omega⟩
          rw [mx, my] at p30
          refine zW_istore (ls' := [_, _, _, _, _, _, _, _]) (pc' := 35) dX12_early_1.1.1.1.2 (by decide) rfl rfl rfl ?_
          refine zW_iload_n (pc' := 36) dX12_early_1.1.1.2.1 rfl rfl ?_
          refine zW_bipush (pc' := 38) dX12_early_1.1.1.2.2 rfl rfl ?_
          refine zV_cm_ne (tgt := 50) (pc' := 41) dX12_early_1.1.2.1.1 rfl rfl ⟨by omega, by omega⟩ ⟨by omega, by omega⟩ (fun c38 => ?_) (fun c38 => ?_)
          · refine zW_iload_n (pc' := 51) dX12_early_1.2.1.2.2 rfl rfl ?_
            refine zW_bipush (pc' := 53) dX12_early_1.2.2.1.1 rfl rfl ?_
            refine zV_cm_ne (tgt := 69) (pc' := 56) dX12_early_1.2.2.1.2 rfl rfl ⟨by omega, by omega⟩ ⟨by omega, by omega⟩ (fun c53 => ?_) (fun c53 => ?_)
            · exfalso; omega
            · refine zW_iload (pc' := 58) dX12_early_1.2.2.2.1 rfl rfl ?_
              refine zW_aload_n (pc' := 59) dX12_early_1.2.2.2.2 rfl rfl ?_
              refine zW_iload_n (pc' := 60) dX12_early_2.1.1.1.1 rfl rfl ?_
              refine zW_iload (pc' := 62) dX12_early_2.1.1.1.2 rfl rfl ?_
              refine zW_iload_n (pc' := 63) dX12_early_2.1.1.2.1 rfl rfl ?_
              refine cvI3 (pc' := 66) kX12_darkOf vX12_darkOf lk_X12_260 ⟨Nat.le_of_ble_eq_true rfl, Nat.le_of_ble_eq_true rfl⟩ tb0 vq12 rfl rfl (s_X12_darkOfZ hK hF _ ⟨by omega, by omega⟩ _ ⟨by omega, by omega, by omega⟩ _ ⟨by omega, by omega⟩ f (by omega) (by omega)) dX12_early_2.1.1.2.2 (Nat.le_of_ble_eq_true rfl) rfl ?_
              rintro r63 z63 ⟨hz63, p63⟩; subst z63
              refine zW_isub (pc' := 67) dX12_early_2.1.2.1.1 rfl ?_
              refine zW_istore (ls' := [_, _, _, _, _, _, _, _]) (pc' := 69) dX12_early_2.1.2.1.2 (by decide) rfl rfl rfl ?_
              refine zW_iload_n (pc' := 70) dX12_early_2.1.2.2.1 rfl rfl ?_
              refine zW_bipush (pc' := 72) dX12_early_2.1.2.2.2 rfl rfl ?_
              refine zV_cm_ne (tgt := 99) (pc' := 75) dX12_early_2.2.1.1.1 rfl rfl ⟨by omega, by omega⟩ ⟨by omega, by omega⟩ (fun c72 => ?_) (fun c72 => ?_)
              · refine zW_iload_n (pc' := 100) dX12_early_3.1.2.2.1 rfl rfl ?_
                refine zW_bipush (pc' := 102) dX12_early_3.1.2.2.2 rfl rfl ?_
                refine zV_cm_ne (tgt := 118) (pc' := 105) dX12_early_3.2.1.1.1 rfl rfl ⟨by omega, by omega⟩ ⟨by omega, by omega⟩ (fun c102 => ?_) (fun c102 => ?_)
                · refine zW_aload_n (pc' := 119) dX12_early_4.1.1.1.1 rfl rfl ?_
                  refine zW_iload (pc' := 121) dX12_early_4.1.1.1.2 rfl rfl ?_
                  refine zW_iload (pc' := 123) dX12_early_4.1.1.2 rfl rfl ?_
                  refine zW_iload (pc' := 125) dX12_early_4.1.2.1.1 rfl rfl ?_
                  refine zW_iload (pc' := 127) dX12_early_4.1.2.1.2 rfl rfl ?_
                  refine cvV4 (pc' := 130) kX12_laysOwn vX12_laysOwn lk_X12_270 ⟨Nat.le_of_ble_eq_true rfl, Nat.le_of_ble_eq_true rfl⟩ tb0 vq12 rfl rfl (s_X12_laysOwnZ hK hF _ ⟨by omega, by omega⟩ _ ⟨by omega, by omega, by omega⟩ _ ⟨by omega, by omega, by omega⟩ _ ⟨by omega, by omega⟩ h hJ rfl) dX12_early_4.1.2.2 (Nat.le_of_ble_eq_true rfl) rfl ?_
                  rintro r127 h ⟨hF, p127⟩
                  have hr2 : Row17u κ (h 17) x4 (fun x y => clp (f x y - dkS f y x2.toNat / x2)) (v6 + 1) v5 := by rw [p127]; exact Row17u.nx (by omega) (by omega) (by omega) (by omega) ⟨by omega, by omega, by omega, by omega⟩ gc0 (by rw [p30.2.2, p63.2.2])
                  have ho2 : Oth x4 (gh0 17) (h 17) := by rw [p127]; exact gc1.w (ix_b (W := κ 0 11) (H := κ 0 12) ⟨by omega, by omega, by omega, by omega⟩ (by omega) (by omega) (by omega) (by omega))
                  replace hgh : Fw [17] [] gh0 h := by rw [p127]; exact hgh.wc (by simp)
                  refine zW_iinc (ls' := [_, _, _, _, _, _, _, _]) (pc' := 133) dX12_early_4.2.1.1.1 rfl (by decide) rfl rfl rfl ?_
                  refine zV_goto 15 dX12_early_4.2.1.1.2 rfl ?_
                  refine zV_clr 7 (ls' := [_, _, _, _, _, _, _, _]) rfl ?_
                  exact k15 _ _ _ hF (by omega) (by omega) (by omega) (by omega) (by first | exact hr2 | exact gc0) (by first | exact ho2 | exact gc1) hgh (by omega)
                · exfalso; omega
              · exfalso; omega
          · exfalso; omega
  refine zM_of [some (.inr (.inr 0)), some (.inl x1), some (.inl x2), some (.inl x3), some (.inl x4), none, none, none] 3 rfl rfl (Nat.le_of_ble_eq_true rfl) rfl ?_
  refine zW_iconst (pc' := 1) dX12_early_0.1.1.1.1 rfl ?_
  refine zW_istore (ls' := [_, _, _, _, _, _, _, _]) (pc' := 3) dX12_early_0.1.1.1.2 (by decide) rfl rfl rfl ?_
  exact (main 10000000000000000000000000000000000000000).1 _ _ hF (by omega) (by omega) (by first | exact gc0.rowx (by omega) | exact Row17u.no) (by first | exact gc1 | (rw [hge]; exact Oth.rf)) hgh (by omega)

abbrev q_X12_earlyV100Z (b : Bd) (κ : Hp) (x1 : Int) (x2 : Int) (x3 : Int) (x4 : Int) (f : Int → Int → Int) (gh0 : Hp) : Int → Hp → Prop := fun r h' => Fr b κ h' ∧ ((Fw [17, 21] [] gh0 h') ∧ (Row17 κ (h' 17) x4 (fun x y => if fnd (κ 0 11) (κ 0 12) (κ 10) f x2 x y then mdl (κ 0 11) (κ 0 12) f x y else f x y) ∧ Oth x4 (gh0 17) (h' 17)))
set_option maxHeartbeats 4000000 in
set_option maxRecDepth 20000 in
theorem s_X12_earlyV100Z {G : Ga} {b : Bd} {κ h : Hp} (hK : KR κ) (hF : Fr b κ h) (x1 : Int) (hx1 : 100 ≤ x1 ∧ x1 ≤ 100) (x2 : Int) (hx2 : 0 ≤ x2 ∧ x2 ≤ 255) (x3 : Int) (hx3 : 0 ≤ x3 ∧ x3 ≤ 14) (x4 : Int) (hx4 : 0 ≤ x4 ∧ x4 ≤ 14) (f : Int → Int → Int) (gh0 : Hp) (hJ : Ok17 b x4) (hne : x3 ≠ x4) (hf : Row17 κ (h 17) x3 f) (hfb : FB (κ 0 11) (κ 0 12) f) (hge : h = gh0) (hgh : Fw [17, 21] [] gh0 h) : zM G mX12_early yX12_early [.inr (.inr 0), .inl x1, .inl x2, .inl x3, .inl x4] h (q_X12_earlyV100Z b κ x1 x2 x3 x4 f gh0) := by
  have f_0_11 := KRw hK
  have f_0_12 := KRh hK
  have f_0_13 := KRp hK
  have h0f : Row17 κ (gh0 17) x3 f := by rw [← hge]; exact hf
  have main : ∀ N : Nat, (∀ (v5 : Int) (h : Hp), Fr b κ h → (0 ≤ v5 ∧ v5 ≤ 16) → (v5 - κ 0 12 ≤ 0) → (Row17u κ (h 17) x4 (fun x y => if fnd (κ 0 11) (κ 0 12) (κ 10) f x2 x y then mdl (κ 0 11) (κ 0 12) f x y else f x y) 0 v5) → (Oth x4 (gh0 17) (h 17)) → (Fw [17, 21] [] gh0 h) → 122277600 + 91800 * (16 - v5) + 90576 < (N : Int) → zV G mX12_early (q_X12_earlyV100Z b κ x1 x2 x3 x4 f gh0) 3 [some (.inr (.inr 0)), some (.inl x1), some (.inl x2), some (.inl x3), some (.inl x4), some (.inl v5), none, none] [] h) ∧ (∀ (v5 v6 : Int) (h : Hp), Fr b κ h → (0 ≤ v5 ∧ v5 ≤ 15) → (v5 - κ 0 12 ≤ -1) → (0 ≤ v6 ∧ v6 ≤ 16) → (v6 - κ 0 11 ≤ 0) → (Row17u κ (h 17) x4 (fun x y => if fnd (κ 0 11) (κ 0 12) (κ 10) f x2 x y then mdl (κ 0 11) (κ 0 12) f x y else f x y) v6 v5) → (Oth x4 (gh0 17) (h 17)) → (Fw [17, 21] [] gh0 h) → 122277600 + 91800 * (16 - v5) + 82008 + 68 * (16 - v6) + 67 < (N : Int) → zV G mX12_early (q_X12_earlyV100Z b κ x1 x2 x3 x4 f gh0) 15 [some (.inr (.inr 0)), some (.inl x1), some (.inl x2), some (.inl x3), some (.inl x4), some (.inl v5), some (.inl v6), none] [] h) := by
    intro N
    induction N with
    | zero =>
      refine ⟨?_, ?_⟩
      · intro v5 h hF g0 g1 gc0 gc1 hgh hm
        exfalso; omega
      · intro v5 v6 h hF g0 g1 g2 g3 gc0 gc1 hgh hm
        exfalso; omega
    | succ N ih =>
      obtain ⟨k3, k15⟩ := ih
      refine ⟨?_, ?_⟩
      · intro v5 h hF g0 g1 gc0 gc1 hgh hm
        refine zW_iload (pc' := 5) dX12_early_0.1.1.2.1 rfl rfl ?_
        refine zW_aload_n (pc' := 6) dX12_early_0.1.1.2.2 rfl rfl ?_
        refine zG_key (pc' := 9) hF rfl fg_X12_103 tb0 rfl dX12_early_0.1.2.1.1 rfl ?_
        refine zV_cm_ge (tgt := 142) (pc' := 12) dX12_early_0.1.2.1.2 rfl rfl ⟨by omega, by omega⟩ ⟨by omega, by omega⟩ (fun c9 => ?_) (fun c9 => ?_)
        · exact zV_vret rfl dX12_early_4.2.2.2 ⟨hF, ⟨hgh, ⟨gc0.all (by omega), gc1⟩⟩⟩
        · refine zW_iconst (pc' := 13) dX12_early_0.1.2.2.1 rfl ?_
          refine zW_istore (ls' := [_, _, _, _, _, _, _, _]) (pc' := 15) dX12_early_0.1.2.2.2 (by decide) rfl rfl rfl ?_
          exact k15 _ _ _ hF (by omega) (by omega) (by omega) (by omega) (by first | exact hr2 | exact gc0) (by first | exact ho2 | exact gc1) hgh (by omega)
      · intro v5 v6 h hF g0 g1 g2 g3 gc0 gc1 hgh hm
        refine zW_iload (pc' := 17) dX12_early_0.2.1.1.1 rfl rfl ?_
        refine zW_aload_n (pc' := 18) dX12_early_0.2.1.1.2 rfl rfl ?_
        refine zG_key (pc' := 21) hF rfl fg_X12_99 tb0 rfl dX12_early_0.2.1.2.1 rfl ?_
        refine zV_cm_ge (tgt := 136) (pc' := 24) dX12_early_0.2.1.2.2 rfl rfl ⟨by omega, by omega⟩ ⟨by omega, by omega⟩ (fun c21 => ?_) (fun c21 => ?_)
        · refine zW_iinc (ls' := [_, _, _, _, _, _, _, _]) (pc' := 139) dX12_early_4.2.1.2 rfl (by decide) rfl rfl rfl ?_
          refine zV_goto 3 dX12_early_4.2.2.1 rfl ?_
          refine zV_clr 6 (ls' := [_, _, _, _, _, _, _, _]) rfl ?_
          exact k3 _ _ hF (by omega) (by omega) (by first | exact gc0.rowx (by omega) | exact Row17u.no) (by first | exact gc1 | (rw [hge]; exact Oth.rf)) hgh (by omega)
        · have hf : Row17 κ (h 17) x3 f := Row17.oth (by omega) (by omega) (by omega) (by omega) (by omega) (by omega) gc1 h0f
          refine zW_aload_n (pc' := 25) dX12_early_0.2.2.1.1 rfl rfl ?_
          refine zW_iload_n (pc' := 26) dX12_early_0.2.2.1.2 rfl rfl ?_
          refine zW_iload (pc' := 28) dX12_early_0.2.2.2.1 rfl rfl ?_
          refine zW_iload (pc' := 30) dX12_early_0.2.2.2.2 rfl rfl ?_
          refine cvI3 (pc' := 33) kX12_own vX12_own lk_X12_246 ⟨Nat.le_of_ble_eq_true rfl, Nat.le_of_ble_eq_true rfl⟩ tb0 vq12 rfl rfl (s_X12_ownZ hK hF _ ⟨by omega, by omega⟩ _ ⟨by omega, by omega, by omega⟩ _ ⟨by omega, by omega, by omega⟩ f (by omega) (by omega)) dX12_early_1.1.1.1.1 (Nat.le_of_ble_eq_true rfl) rfl ?_
          rintro r30 z30 ⟨hz30, p30⟩; subst z30
          have mx := mir_i (v := v6) (n := κ 0 11) ⟨by omega, by omega⟩
          have my := mir_i (v := v5) (n := κ 0 12) ⟨by omega, by omega⟩
          rw [mx, my] at p30
          refine zW_istore (ls' := [_, _, _, _, _, _, _, _]) (pc' := 35) dX12_early_1.1.1.1.2 (by decide) rfl rfl rfl ?_
          refine zW_iload_n (pc' := 36) dX12_early_1.1.1.2.1 rfl rfl ?_
          refine zW_bipush (pc' := 38) dX12_early_1.1.1.2.2 rfl rfl ?_
          refine zV_cm_ne (tgt := 50) (pc' := 41) dX12_early_1.1.2.1.1 rfl rfl ⟨by omega, by omega⟩ ⟨by omega, by omega⟩ (fun c38 => ?_) (fun c38 => ?_)
          · refine zW_iload_n (pc' := 51) dX12_early_1.2.1.2.2 rfl rfl ?_
            refine zW_bipush (pc' := 53) dX12_early_1.2.2.1.1 rfl rfl ?_
            refine zV_cm_ne (tgt := 69) (pc' := 56) dX12_early_1.2.2.1.2 rfl rfl ⟨by omega, by omega⟩ ⟨by omega, by omega⟩ (fun c53 => ?_) (fun c53 => ?_)
            · refine zW_iload_n (pc' := 70) dX12_early_2.1.2.2.1 rfl rfl ?_
              refine zW_bipush (pc' := 72) dX12_early_2.1.2.2.2 rfl rfl ?_
              refine zV_cm_ne (tgt := 99) (pc' := 75) dX12_early_2.2.1.1.1 rfl rfl ⟨by omega, by omega⟩ ⟨by omega, by omega⟩ (fun c72 => ?_) (fun c72 => ?_)
              · exfalso; omega
              · refine zW_aload_n (pc' := 76) dX12_early_2.2.1.1.2 rfl rfl ?_
                refine zW_iload_n (pc' := 77) dX12_early_2.2.1.2.1 rfl rfl ?_
                refine zW_iload (pc' := 79) dX12_early_2.2.1.2.2 rfl rfl ?_
                refine zW_iload (pc' := 81) dX12_early_2.2.2.1.1 rfl rfl ?_
                refine zW_iload_n (pc' := 82) dX12_early_2.2.2.1.2 rfl rfl ?_
                refine cvI4 (pc' := 85) kX12_isFound vX12_isFound lk_X12_263 ⟨Nat.le_of_ble_eq_true rfl, Nat.le_of_ble_eq_true rfl⟩ tb0 vq12 rfl rfl (s_X12_isFoundZ hK hF _ ⟨by omega, by omega⟩ _ ⟨by omega, by omega, by omega⟩ _ ⟨by omega, by omega, by omega⟩ _ ⟨by omega, by omega⟩ f h (by omega) (by omega) Fw.rf) dX12_early_2.2.2.2.1 (Nat.le_of_ble_eq_true rfl) rfl ?_
                rintro r82 h ⟨hF, d82, p82⟩
                replace hgh : Fw [17, 21] [] gh0 h := hgh.tr d82 (by simp) (by simp)
                have e82 := d82.cell (k := 17) (by decide) (by decide)
                rw [← e82] at gc0
                rw [← e82] at gc1
                rw [← e82] at hf
                refine zV_if_eq (tgt := 99) (pc' := 88) dX12_early_2.2.2.2.2 rfl rfl ⟨by omega, by omega⟩ (fun c85 => ?_) (fun c85 => ?_)
                · refine zW_iload_n (pc' := 100) dX12_early_3.1.2.2.1 rfl rfl ?_
                  refine zW_bipush (pc' := 102) dX12_early_3.1.2.2.2 rfl rfl ?_
                  refine zV_cm_ne (tgt := 118) (pc' := 105) dX12_early_3.2.1.1.1 rfl rfl ⟨by omega, by omega⟩ ⟨by omega, by omega⟩ (fun c102 => ?_) (fun c102 => ?_)
                  · refine zW_aload_n (pc' := 119) dX12_early_4.1.1.1.1 rfl rfl ?_
                    refine zW_iload (pc' := 121) dX12_early_4.1.1.1.2 rfl rfl ?_
                    refine zW_iload (pc' := 123) dX12_early_4.1.1.2 rfl rfl ?_
                    refine zW_iload (pc' := 125) dX12_early_4.1.2.1.1 rfl rfl ?_
                    refine zW_iload (pc' := 127) dX12_early_4.1.2.1.2 rfl rfl ?_
                    refine cvV4 (pc' := 130) kX12_laysOwn vX12_laysOwn lk_X12_270 ⟨Nat.le_of_ble_eq_true rfl, Nat.le_of_ble_eq_true rfl⟩ tb0 vq12 rfl rfl (s_X12_laysOwnZ hK hF _ ⟨by omega, by omega⟩ _ ⟨by omega, by omega, by omega⟩ _ ⟨by omega, by omega, by omega⟩ _ ⟨by omega, by omega⟩ h hJ rfl) dX12_early_4.1.2.2 (Nat.le_of_ble_eq_true rfl) rfl ?_
                    rintro r127 h ⟨hF, p127⟩
                    have hr2 : Row17u κ (h 17) x4 (fun x y => if fnd (κ 0 11) (κ 0 12) (κ 10) f x2 x y then mdl (κ 0 11) (κ 0 12) f x y else f x y) (v6 + 1) v5 := by rw [p127]; exact Row17u.nx (by omega) (by omega) (by omega) (by omega) ⟨by omega, by omega, by omega, by omega⟩ gc0 (by first | (show clp r30 = _; rw [if_neg (fun q => by have z := p82.2.2.mpr q; omega), clp_id ⟨by omega, by omega⟩, p30.2.2]) | (show clp r94 = _; rw [if_pos (p82.2.2.mp (by omega)), clp_id ⟨by omega, by omega⟩, p94.2.2]))
                    have ho2 : Oth x4 (gh0 17) (h 17) := by rw [p127]; exact gc1.w (ix_b (W := κ 0 11) (H := κ 0 12) ⟨by omega, by omega, by omega, by omega⟩ (by omega) (by omega) (by omega) (by omega))
                    replace hgh : Fw [17, 21] [] gh0 h := by rw [p127]; exact hgh.wc (by simp)
                    refine zW_iinc (ls' := [_, _, _, _, _, _, _, _]) (pc' := 133) dX12_early_4.2.1.1.1 rfl (by decide) rfl rfl rfl ?_
                    refine zV_goto 15 dX12_early_4.2.1.1.2 rfl ?_
                    refine zV_clr 7 (ls' := [_, _, _, _, _, _, _, _]) rfl ?_
                    exact k15 _ _ _ hF (by omega) (by omega) (by omega) (by omega) (by first | exact hr2 | exact gc0) (by first | exact ho2 | exact gc1) hgh (by omega)
                  · exfalso; omega
                · refine zW_aload_n (pc' := 89) dX12_early_3.1.1.1.1 rfl rfl ?_
                  refine zW_iload_n (pc' := 90) dX12_early_3.1.1.1.2 rfl rfl ?_
                  refine zW_iload (pc' := 92) dX12_early_3.1.1.2.1 rfl rfl ?_
                  refine zW_iload (pc' := 94) dX12_early_3.1.1.2.2 rfl rfl ?_
                  refine cvI3 (pc' := 97) kX12_middleOf vX12_middleOf lk_X12_254 ⟨Nat.le_of_ble_eq_true rfl, Nat.le_of_ble_eq_true rfl⟩ tb0 vq12 rfl rfl (s_X12_middleOfZ hK hF _ ⟨by omega, by omega⟩ _ ⟨by omega, by omega, by omega⟩ _ ⟨by omega, by omega, by omega⟩ f h (by omega) (by omega) Fw.rf) dX12_early_3.1.2.1.1 (Nat.le_of_ble_eq_true rfl) rfl ?_
                  rintro r94 h ⟨hF, d94, p94⟩
                  replace hgh : Fw [17, 21] [] gh0 h := hgh.tr d94 (by simp) (by simp)
                  have e94 := d94.cell (k := 17) (by decide) (by decide)
                  rw [← e94] at gc0
                  rw [← e94] at gc1
                  refine zW_istore (ls' := [_, _, _, _, _, _, _, _]) (pc' := 99) dX12_early_3.1.2.1.2 (by decide) rfl rfl rfl ?_
                  refine zW_iload_n (pc' := 100) dX12_early_3.1.2.2.1 rfl rfl ?_
                  refine zW_bipush (pc' := 102) dX12_early_3.1.2.2.2 rfl rfl ?_
                  refine zV_cm_ne (tgt := 118) (pc' := 105) dX12_early_3.2.1.1.1 rfl rfl ⟨by omega, by omega⟩ ⟨by omega, by omega⟩ (fun c102 => ?_) (fun c102 => ?_)
                  · refine zW_aload_n (pc' := 119) dX12_early_4.1.1.1.1 rfl rfl ?_
                    refine zW_iload (pc' := 121) dX12_early_4.1.1.1.2 rfl rfl ?_
                    refine zW_iload (pc' := 123) dX12_early_4.1.1.2 rfl rfl ?_
                    refine zW_iload (pc' := 125) dX12_early_4.1.2.1.1 rfl rfl ?_
                    refine zW_iload (pc' := 127) dX12_early_4.1.2.1.2 rfl rfl ?_
                    refine cvV4 (pc' := 130) kX12_laysOwn vX12_laysOwn lk_X12_270 ⟨Nat.le_of_ble_eq_true rfl, Nat.le_of_ble_eq_true rfl⟩ tb0 vq12 rfl rfl (s_X12_laysOwnZ hK hF _ ⟨by omega, by omega⟩ _ ⟨by omega, by omega, by omega⟩ _ ⟨by omega, by omega, by omega⟩ _ ⟨by omega, by omega⟩ h hJ rfl) dX12_early_4.1.2.2 (Nat.le_of_ble_eq_true rfl) rfl ?_
                    rintro r127 h ⟨hF, p127⟩
                    have hr2 : Row17u κ (h 17) x4 (fun x y => if fnd (κ 0 11) (κ 0 12) (κ 10) f x2 x y then mdl (κ 0 11) (κ 0 12) f x y else f x y) (v6 + 1) v5 := by rw [p127]; exact Row17u.nx (by omega) (by omega) (by omega) (by omega) ⟨by omega, by omega, by omega, by omega⟩ gc0 (by first | (show clp r30 = _; rw [if_neg (fun q => by have z := p82.2.2.mpr q; omega), clp_id ⟨by omega, by omega⟩, p30.2.2]) | (show clp r94 = _; rw [if_pos (p82.2.2.mp (by omega)), clp_id ⟨by omega, by omega⟩, p94.2.2]))
                    have ho2 : Oth x4 (gh0 17) (h 17) := by rw [p127]; exact gc1.w (ix_b (W := κ 0 11) (H := κ 0 12) ⟨by omega, by omega, by omega, by omega⟩ (by omega) (by omega) (by omega) (by omega))
                    replace hgh : Fw [17, 21] [] gh0 h := by rw [p127]; exact hgh.wc (by simp)
                    refine zW_iinc (ls' := [_, _, _, _, _, _, _, _]) (pc' := 133) dX12_early_4.2.1.1.1 rfl (by decide) rfl rfl rfl ?_
                    refine zV_goto 15 dX12_early_4.2.1.1.2 rfl ?_
                    refine zV_clr 7 (ls' := [_, _, _, _, _, _, _, _]) rfl ?_
                    exact k15 _ _ _ hF (by omega) (by omega) (by omega) (by omega) (by first | exact hr2 | exact gc0) (by first | exact ho2 | exact gc1) hgh (by omega)
                  · exfalso; omega
            · exfalso; omega
          · exfalso; omega
  refine zM_of [some (.inr (.inr 0)), some (.inl x1), some (.inl x2), some (.inl x3), some (.inl x4), none, none, none] 3 rfl rfl (Nat.le_of_ble_eq_true rfl) rfl ?_
  refine zW_iconst (pc' := 1) dX12_early_0.1.1.1.1 rfl ?_
  refine zW_istore (ls' := [_, _, _, _, _, _, _, _]) (pc' := 3) dX12_early_0.1.1.1.2 (by decide) rfl rfl rfl ?_
  exact (main 10000000000000000000000000000000000000000).1 _ _ hF (by omega) (by omega) (by first | exact gc0.rowx (by omega) | exact Row17u.no) (by first | exact gc1 | (rw [hge]; exact Oth.rf)) hgh (by omega)

abbrev q_X12_earlyV108Z (b : Bd) (κ : Hp) (x1 : Int) (x2 : Int) (x3 : Int) (x4 : Int) (f : Int → Int → Int) (gh0 : Hp) : Int → Hp → Prop := fun r h' => Fr b κ h' ∧ ((Fw [17] [] gh0 h') ∧ (Row17 κ (h' 17) x4 (fun x y => clp (shd (κ 0 11) (κ 0 12) x2 (f x y) x y)) ∧ Oth x4 (gh0 17) (h' 17)))
set_option maxHeartbeats 4000000 in
set_option maxRecDepth 20000 in
theorem s_X12_earlyV108Z {G : Ga} {b : Bd} {κ h : Hp} (hK : KR κ) (hF : Fr b κ h) (x1 : Int) (hx1 : 108 ≤ x1 ∧ x1 ≤ 108) (x2 : Int) (hx2 : 0 ≤ x2 ∧ x2 ≤ 255) (x3 : Int) (hx3 : 0 ≤ x3 ∧ x3 ≤ 14) (x4 : Int) (hx4 : 0 ≤ x4 ∧ x4 ≤ 14) (f : Int → Int → Int) (gh0 : Hp) (hJ : Ok17 b x4) (hne : x3 ≠ x4) (hf : Row17 κ (h 17) x3 f) (hfb : FB (κ 0 11) (κ 0 12) f) (hge : h = gh0) (hgh : Fw [17] [] gh0 h) : zM G mX12_early yX12_early [.inr (.inr 0), .inl x1, .inl x2, .inl x3, .inl x4] h (q_X12_earlyV108Z b κ x1 x2 x3 x4 f gh0) := by
  have f_0_11 := KRw hK
  have f_0_12 := KRh hK
  have f_0_13 := KRp hK
  have h0f : Row17 κ (gh0 17) x3 f := by rw [← hge]; exact hf
  have main : ∀ N : Nat, (∀ (v5 : Int) (h : Hp), Fr b κ h → (0 ≤ v5 ∧ v5 ≤ 16) → (v5 - κ 0 12 ≤ 0) → (Row17u κ (h 17) x4 (fun x y => clp (shd (κ 0 11) (κ 0 12) x2 (f x y) x y)) 0 v5) → (Oth x4 (gh0 17) (h 17)) → (Fw [17] [] gh0 h) → 122277600 + 91800 * (16 - v5) + 90576 < (N : Int) → zV G mX12_early (q_X12_earlyV108Z b κ x1 x2 x3 x4 f gh0) 3 [some (.inr (.inr 0)), some (.inl x1), some (.inl x2), some (.inl x3), some (.inl x4), some (.inl v5), none, none] [] h) ∧ (∀ (v5 v6 : Int) (h : Hp), Fr b κ h → (0 ≤ v5 ∧ v5 ≤ 15) → (v5 - κ 0 12 ≤ -1) → (0 ≤ v6 ∧ v6 ≤ 16) → (v6 - κ 0 11 ≤ 0) → (Row17u κ (h 17) x4 (fun x y => clp (shd (κ 0 11) (κ 0 12) x2 (f x y) x y)) v6 v5) → (Oth x4 (gh0 17) (h 17)) → (Fw [17] [] gh0 h) → 122277600 + 91800 * (16 - v5) + 82008 + 68 * (16 - v6) + 67 < (N : Int) → zV G mX12_early (q_X12_earlyV108Z b κ x1 x2 x3 x4 f gh0) 15 [some (.inr (.inr 0)), some (.inl x1), some (.inl x2), some (.inl x3), some (.inl x4), some (.inl v5), some (.inl v6), none] [] h) := by
    intro N
    induction N with
    | zero =>
      refine ⟨?_, ?_⟩
      · intro v5 h hF g0 g1 gc0 gc1 hgh hm
        exfalso; omega
      · intro v5 v6 h hF g0 g1 g2 g3 gc0 gc1 hgh hm
        exfalso; omega
    | succ N ih =>
      obtain ⟨k3, k15⟩ := ih
      refine ⟨?_, ?_⟩
      · intro v5 h hF g0 g1 gc0 gc1 hgh hm
        refine zW_iload (pc' := 5) dX12_early_0.1.1.2.1 rfl rfl ?_
        refine zW_aload_n (pc' := 6) dX12_early_0.1.1.2.2 rfl rfl ?_
        refine zG_key (pc' := 9) hF rfl fg_X12_103 tb0 rfl dX12_early_0.1.2.1.1 rfl ?_
        refine zV_cm_ge (tgt := 142) (pc' := 12) dX12_early_0.1.2.1.2 rfl rfl ⟨by omega, by omega⟩ ⟨by omega, by omega⟩ (fun c9 => ?_) (fun c9 => ?_)
        · exact zV_vret rfl dX12_early_4.2.2.2 ⟨hF, ⟨hgh, ⟨gc0.all (by omega), gc1⟩⟩⟩
        · refine zW_iconst (pc' := 13) dX12_early_0.1.2.2.1 rfl ?_
          refine zW_istore (ls' := [_, _, _, _, _, _, _, _]) (pc' := 15) dX12_early_0.1.2.2.2 (by decide) rfl rfl rfl ?_
          exact k15 _ _ _ hF (by omega) (by omega) (by omega) (by omega) (by first | exact hr2 | exact gc0) (by first | exact ho2 | exact gc1) hgh (by omega)
      · intro v5 v6 h hF g0 g1 g2 g3 gc0 gc1 hgh hm
        refine zW_iload (pc' := 17) dX12_early_0.2.1.1.1 rfl rfl ?_
        refine zW_aload_n (pc' := 18) dX12_early_0.2.1.1.2 rfl rfl ?_
        refine zG_key (pc' := 21) hF rfl fg_X12_99 tb0 rfl dX12_early_0.2.1.2.1 rfl ?_
        refine zV_cm_ge (tgt := 136) (pc' := 24) dX12_early_0.2.1.2.2 rfl rfl ⟨by omega, by omega⟩ ⟨by omega, by omega⟩ (fun c21 => ?_) (fun c21 => ?_)
        · refine zW_iinc (ls' := [_, _, _, _, _, _, _, _]) (pc' := 139) dX12_early_4.2.1.2 rfl (by decide) rfl rfl rfl ?_
          refine zV_goto 3 dX12_early_4.2.2.1 rfl ?_
          refine zV_clr 6 (ls' := [_, _, _, _, _, _, _, _]) rfl ?_
          exact k3 _ _ hF (by omega) (by omega) (by first | exact gc0.rowx (by omega) | exact Row17u.no) (by first | exact gc1 | (rw [hge]; exact Oth.rf)) hgh (by omega)
        · have hf : Row17 κ (h 17) x3 f := Row17.oth (by omega) (by omega) (by omega) (by omega) (by omega) (by omega) gc1 h0f
          refine zW_aload_n (pc' := 25) dX12_early_0.2.2.1.1 rfl rfl ?_
          refine zW_iload_n (pc' := 26) dX12_early_0.2.2.1.2 rfl rfl ?_
          refine zW_iload (pc' := 28) dX12_early_0.2.2.2.1 rfl rfl ?_
          refine zW_iload (pc' := 30) dX12_early_0.2.2.2.2 rfl rfl ?_
          refine cvI3 (pc' := 33) kX12_own vX12_own lk_X12_246 ⟨Nat.le_of_ble_eq_true rfl, Nat.le_of_ble_eq_true rfl⟩ tb0 vq12 rfl rfl (s_X12_ownZ hK hF _ ⟨by omega, by omega⟩ _ ⟨by omega, by omega, by omega⟩ _ ⟨by omega, by omega, by omega⟩ f (by omega) (by omega)) dX12_early_1.1.1.1.1 (Nat.le_of_ble_eq_true rfl) rfl ?_
          rintro r30 z30 ⟨hz30, p30⟩; subst z30
          have mx := mir_i (v := v6) (n := κ 0 11) ⟨by omega, by omega⟩
          have my := mir_i (v := v5) (n := κ 0 12) ⟨by omega, by omega⟩
          rw [mx, my] at p30
          refine zW_istore (ls' := [_, _, _, _, _, _, _, _]) (pc' := 35) dX12_early_1.1.1.1.2 (by decide) rfl rfl rfl ?_
          refine zW_iload_n (pc' := 36) dX12_early_1.1.1.2.1 rfl rfl ?_
          refine zW_bipush (pc' := 38) dX12_early_1.1.1.2.2 rfl rfl ?_
          refine zV_cm_ne (tgt := 50) (pc' := 41) dX12_early_1.1.2.1.1 rfl rfl ⟨by omega, by omega⟩ ⟨by omega, by omega⟩ (fun c38 => ?_) (fun c38 => ?_)
          · refine zW_iload_n (pc' := 51) dX12_early_1.2.1.2.2 rfl rfl ?_
            refine zW_bipush (pc' := 53) dX12_early_1.2.2.1.1 rfl rfl ?_
            refine zV_cm_ne (tgt := 69) (pc' := 56) dX12_early_1.2.2.1.2 rfl rfl ⟨by omega, by omega⟩ ⟨by omega, by omega⟩ (fun c53 => ?_) (fun c53 => ?_)
            · refine zW_iload_n (pc' := 70) dX12_early_2.1.2.2.1 rfl rfl ?_
              refine zW_bipush (pc' := 72) dX12_early_2.1.2.2.2 rfl rfl ?_
              refine zV_cm_ne (tgt := 99) (pc' := 75) dX12_early_2.2.1.1.1 rfl rfl ⟨by omega, by omega⟩ ⟨by omega, by omega⟩ (fun c72 => ?_) (fun c72 => ?_)
              · refine zW_iload_n (pc' := 100) dX12_early_3.1.2.2.1 rfl rfl ?_
                refine zW_bipush (pc' := 102) dX12_early_3.1.2.2.2 rfl rfl ?_
                refine zV_cm_ne (tgt := 118) (pc' := 105) dX12_early_3.2.1.1.1 rfl rfl ⟨by omega, by omega⟩ ⟨by omega, by omega⟩ (fun c102 => ?_) (fun c102 => ?_)
                · exfalso; omega
                · refine zW_aload_n (pc' := 106) dX12_early_3.2.1.1.2 rfl rfl ?_
                  refine zW_iload (pc' := 108) dX12_early_3.2.1.2.1 rfl rfl ?_
                  refine zW_iload (pc' := 110) dX12_early_3.2.1.2.2 rfl rfl ?_
                  refine zW_iload (pc' := 112) dX12_early_3.2.2.1.1 rfl rfl ?_
                  refine zW_iload_n (pc' := 113) dX12_early_3.2.2.1.2 rfl rfl ?_
                  refine cvI4 (pc' := 116) kX12_shaded vX12_shaded lk_X12_267 ⟨Nat.le_of_ble_eq_true rfl, Nat.le_of_ble_eq_true rfl⟩ tb0 vq12 rfl rfl (s_X12_shadedZ hK hF _ ⟨by omega, by omega⟩ _ ⟨by omega, by omega, by omega⟩ _ ⟨by omega, by omega, by omega⟩ _ ⟨by omega, by omega⟩) dX12_early_3.2.2.2.1 (Nat.le_of_ble_eq_true rfl) rfl ?_
                  rintro r113 z113 ⟨hz113, p113⟩; subst z113
                  refine zW_istore (ls' := [_, _, _, _, _, _, _, _]) (pc' := 118) dX12_early_3.2.2.2.2 (by decide) rfl rfl rfl ?_
                  refine zW_aload_n (pc' := 119) dX12_early_4.1.1.1.1 rfl rfl ?_
                  refine zW_iload (pc' := 121) dX12_early_4.1.1.1.2 rfl rfl ?_
                  refine zW_iload (pc' := 123) dX12_early_4.1.1.2 rfl rfl ?_
                  refine zW_iload (pc' := 125) dX12_early_4.1.2.1.1 rfl rfl ?_
                  refine zW_iload (pc' := 127) dX12_early_4.1.2.1.2 rfl rfl ?_
                  refine cvV4 (pc' := 130) kX12_laysOwn vX12_laysOwn lk_X12_270 ⟨Nat.le_of_ble_eq_true rfl, Nat.le_of_ble_eq_true rfl⟩ tb0 vq12 rfl rfl (s_X12_laysOwnZ hK hF _ ⟨by omega, by omega⟩ _ ⟨by omega, by omega, by omega⟩ _ ⟨by omega, by omega, by omega⟩ _ ⟨by omega, by omega⟩ h hJ rfl) dX12_early_4.1.2.2 (Nat.le_of_ble_eq_true rfl) rfl ?_
                  rintro r127 h ⟨hF, p127⟩
                  have hr2 : Row17u κ (h 17) x4 (fun x y => clp (shd (κ 0 11) (κ 0 12) x2 (f x y) x y)) (v6 + 1) v5 := by rw [p127]; exact Row17u.nx (by omega) (by omega) (by omega) (by omega) ⟨by omega, by omega, by omega, by omega⟩ gc0 (by rw [p113.2.2, p30.2.2])
                  have ho2 : Oth x4 (gh0 17) (h 17) := by rw [p127]; exact gc1.w (ix_b (W := κ 0 11) (H := κ 0 12) ⟨by omega, by omega, by omega, by omega⟩ (by omega) (by omega) (by omega) (by omega))
                  replace hgh : Fw [17] [] gh0 h := by rw [p127]; exact hgh.wc (by simp)
                  refine zW_iinc (ls' := [_, _, _, _, _, _, _, _]) (pc' := 133) dX12_early_4.2.1.1.1 rfl (by decide) rfl rfl rfl ?_
                  refine zV_goto 15 dX12_early_4.2.1.1.2 rfl ?_
                  refine zV_clr 7 (ls' := [_, _, _, _, _, _, _, _]) rfl ?_
                  exact k15 _ _ _ hF (by omega) (by omega) (by omega) (by omega) (by first | exact hr2 | exact gc0) (by first | exact ho2 | exact gc1) hgh (by omega)
              · exfalso; omega
            · exfalso; omega
          · exfalso; omega
  refine zM_of [some (.inr (.inr 0)), some (.inl x1), some (.inl x2), some (.inl x3), some (.inl x4), none, none, none] 3 rfl rfl (Nat.le_of_ble_eq_true rfl) rfl ?_
  refine zW_iconst (pc' := 1) dX12_early_0.1.1.1.1 rfl ?_
  refine zW_istore (ls' := [_, _, _, _, _, _, _, _]) (pc' := 3) dX12_early_0.1.1.1.2 (by decide) rfl rfl rfl ?_
  exact (main 10000000000000000000000000000000000000000).1 _ _ hF (by omega) (by omega) (by first | exact gc0.rowx (by omega) | exact Row17u.no) (by first | exact gc1 | (rw [hge]; exact Oth.rf)) hgh (by omega)
