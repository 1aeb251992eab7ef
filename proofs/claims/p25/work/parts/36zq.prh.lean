/-! what is unlike -/


theorem pG_c {W H P : Int} {D : Nat → Int} {L : Nat → Int} {X : Nat → Nat → Int} {M : Nat → Int} {T : P3} {s : Nat} (h0 : ∀ c x y : Int, 0 ≤ c ∧ c ≤ 2 → T c x y = T 0 x y) : ∀ i : Nat, (∀ j, j < i → L (s + j) = 98 ∨ L (s + j) = 111 ∨ L (s + j) = 100 ∨ L (s + j) = 108) → ∀ c x y : Int, 0 ≤ c ∧ c ≤ 2 → pG W H P D L X M T s i c x y = pG W H P D L X M T s i 0 x y
  | 0, _ => h0
  | i + 1, h => fun c x y hc => by
    show nrm W H (stp W H P D (L (s + i)) (X (s + i)) (M (s + i)) (pG W H P D L X M T s i)) c x y = nrm W H (stp W H P D (L (s + i)) (X (s + i)) (M (s + i)) (pG W H P D L X M T s i)) 0 x y
    rw [stp_e (h i (Nat.lt_succ_self i))]
    unfold nrm
    by_cases q : 0 ≤ x ∧ x < W ∧ 0 ≤ y ∧ y < H
    · rw [if_pos ⟨hc.1, hc.2, q⟩, if_pos ⟨by omega, by omega, q⟩]
    · rw [if_neg (fun z => q z.2.2), if_neg (fun z => q z.2.2)]
theorem rawP_c {W H : Int} {V : Nat → Int} (c x y : Int) (hc : 0 ≤ c ∧ c ≤ 2) : rawP W H V c x y = rawP W H V 0 x y := by
  unfold rawP nrm
  by_cases q : 0 ≤ x ∧ x < W ∧ 0 ≤ y ∧ y < H
  · rw [if_pos ⟨hc.1, hc.2, q⟩, if_pos ⟨by omega, by omega, q⟩]
  · rw [if_neg (fun z => q z.2.2), if_neg (fun z => q z.2.2)]
theorem ea_lt {L : Nat → Int} {n : Int} (hE : EaOK L n) {k : Nat} (hk : (k : Int) ≤ n) (hno : noF L k) : ∀ j, j < k → L j = 98 ∨ L j = 111 ∨ L j = 100 ∨ L j = 108 := fun j hj => by
  have a := (hE j (by omega)).mp (hno.le (by omega))
  have b := hno j hj
  omega
theorem PF_c {κ : Hp} (hE : EaOK (κ 3) (κ 0 14)) {k : Nat} (hk : (k : Int) ≤ κ 0 14) (hno : noF (κ 3) k) (c x y : Int) (hc : 0 ≤ c ∧ c ≤ 2) : PF κ k c x y = PF κ k 0 x y :=
  pG_c (fun c x y hc => rawP_c c x y hc) k (fun j hj => by rw [Nat.zero_add]; exact ea_lt hE hk hno j hj) c x y hc
/-- a row's levels, of all colours or of own ones, as its state says -/
theorem PkR_at {κ : Hp} {A : Nat → Int} {r three : Int} {j : Nat} {T : P3} (h : PkR κ A r j T) (h3 : three = bhI (κ 3) j) (hb : FB3 (κ 0 11) (κ 0 12) T) (hc0 : noF (κ 3) j → ∀ c x y : Int, 0 ≤ c ∧ c ≤ 2 → T c x y = T 0 x y) : ∀ c x y : Int, 0 ≤ c ∧ c ≤ 2 → inP (κ 0 11) (κ 0 12) x y → (three = 1 ∨ cl (κ 0 13) x y = c) → A (768 * r + 256 * c + 16 * y + x).toNat = T c x y ∧ 0 ≤ T c x y ∧ T c x y ≤ 4095 := fun c x y hc hp hq => by
  refine ⟨?_, hb c hc x y hp⟩
  rcases bhI_c (κ 3) j with ⟨a, b⟩ | ⟨a, b⟩
  · rw [at_early (h.1 b) hp (hq.resolve_left (by omega)), hc0 b c x y hc]
  · exact h.2 b c hc x y hp




theorem PFc_c {κ : Hp} (hE : EaOK (LC κ) (κ 41 0)) {k : Nat} (hk : (k : Int) ≤ κ 41 0) (hno : noF (LC κ) k) (c x y : Int) (hc : 0 ≤ c ∧ c ≤ 2) : PFc κ k c x y = PFc κ k 0 x y :=
  pG_c (fun c x y hc => rawP_c c x y hc) k (fun j hj => by rw [Nat.zero_add]; exact ea_lt hE hk hno j hj) c x y hc
/-- a sheet's planes, as its state says -/
theorem PkS_fl {κ h : Hp} {s j : Nat} {T : P3} (p : PkS κ h s j T) : h s 1 = bhI (LC κ) j := by
  rcases bhI_c (LC κ) j with ⟨a, b⟩ | ⟨a, b⟩
  · rw [a]; exact (p.1 b).2
  · rw [a]; exact (p.2 b).2


/-! without a stage, or with another first number of it -/




