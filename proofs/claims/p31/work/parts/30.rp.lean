/-- the numbers that were there stay -/
def Pre15 (κ h : Hp) : Prop := ∀ j : Nat, (j : Int) < κ 0 31 → h 15 j = κ 15 j
theorem Pre15.rf {h : Hp} : Pre15 h h := fun _ _ => rfl
theorem Pre15.w {κ h : Hp} {k i : Nat} {v : Int} (hP : Pre15 κ h) (hk : k ≠ 15) : Pre15 κ (zwr h k i v) := fun j hj => by rw [zwr_ne (Or.inl (Ne.symm hk))]; exact hP j hj
theorem Pre15.n {κ h : Hp} {v : Int} {i : Nat} (hP : Pre15 κ h) (hi : κ 0 31 ≤ (i : Int)) : Pre15 κ (zwr h 15 i v) := fun j hj => by rw [zwr_ne (Or.inr (by omega))]; exact hP j hj
theorem Pre15.fm {L : List (Nat × Nat)} {κ h h' : Hp} (hP : Pre15 κ h) (hF : Fm L h h') (hl : ∀ j, inW L 15 j = false) : Pre15 κ h' := fun j hj => (hF.1 15 j rfl (hl j)).trans (hP j hj)
theorem Pre15.tr {κ h h' : Hp} (h1 : Pre15 κ h) (h2 : Pre15 h h') (hl : κ 0 31 ≤ h 0 31) : Pre15 κ h' := fun j hj => (h2 j (by omega)).trans (h1 j hj)
theorem Fm.cell {L : List (Nat × Nat)} {κ h : Hp} (hF : Fm L κ h) (k : Nat) (hk : ckey k = true) (hl : ∀ j, inW L k j = false) : h k = κ k := funext fun j => hF.1 k j (dpn_k (key_of hk j)) (hl j)
def Cv (h : Hp) (a b : Int) : Prop := a + 4 ≤ b ∧ (b - a) % 2 = 0 ∧ ∀ i : Int, 0 ≤ i → a + 2 * i + 2 < b → 0 ≤ h 15 (a + 2 * i).toNat ∧ h 15 (a + 2 * i).toNat < h 15 (a + 2 * i + 2).toNat ∧ h 15 (a + 2 * i + 2).toNat ≤ 255
def CvI (h : Hp) (a b x : Int) : Prop := (x = -1 ∧ b = a) ∨ (0 ≤ x ∧ x ≤ 255 ∧ a + 2 ≤ b ∧ (b - a) % 2 = 0 ∧ h 15 (b - 2).toNat = x ∧ (b = a + 2 → x = 0) ∧ ∀ i : Int, 0 ≤ i → a + 2 * i + 2 < b → 0 ≤ h 15 (a + 2 * i).toNat ∧ h 15 (a + 2 * i).toNat < h 15 (a + 2 * i + 2).toNat ∧ h 15 (a + 2 * i + 2).toNat ≤ 255)
theorem CvI.end {h : Hp} {a b : Int} (hc : CvI h a b 255) : Cv h a b := by
  rcases hc with ⟨q, -⟩ | ⟨-, -, c1, c2, -, c4, c5⟩
  · omega
  · refine ⟨?_, c2, c5⟩
    have : ¬ b = a + 2 := fun q => by have := c4 q; omega
    omega
theorem CvI.step {h h' : Hp} {a b x y : Int} (ha : 0 ≤ a) (hc : CvI h a b x) (hP : ∀ j : Nat, (j : Int) < b → h' 15 j = h 15 j) (hv : h' 15 b.toNat = y) (hy : (x = -1 ∧ y = 0) ∨ (x ≠ -1 ∧ x + 1 ≤ y ∧ y ≤ 255)) : CvI h' a (b + 2) y := by
  rcases hc with ⟨q1, q2⟩ | ⟨c0, c00, c1, c2, c3, c4, c5⟩
  · refine Or.inr ⟨by omega, by omega, by omega, by omega, ?_, fun _ => by omega, fun i hi hl => by omega⟩
    rw [show b + 2 - 2 = b by omega]
    exact hv
  · refine Or.inr ⟨by omega, by omega, by omega, by omega, ?_, fun q => by omega, fun i hi hl => ?_⟩
    · rw [show b + 2 - 2 = b by omega]
      exact hv
    · by_cases e : a + 2 * i + 2 < b
      · have e1 := hP (a + 2 * i).toNat (by omega)
        have e2 := hP (a + 2 * i + 2).toNat (by omega)
        rw [e1, e2]
        exact c5 i hi e
      · have e3 : a + 2 * i + 2 = b := by omega
        have e4 : a + 2 * i = b - 2 := by omega
        have e1 := hP (b - 2).toNat (by omega)
        rw [e3, e4, e1, c3, hv]
        exact ⟨by omega, by omega, by omega⟩








