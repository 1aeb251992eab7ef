theorem RecOK.push {L A N L' A' N' : Nat → Int} {m a' c : Int} (h : RecOK L A N m) (hm : 0 ≤ m ∧ m ≤ 11) (hL : L' m.toNat = c) (hL2 : ∀ j, j ≠ m.toNat → L' j = L j) (hA : A' (m + 1).toNat = a') (hA2 : ∀ j, j ≠ (m + 1).toNat → A' j = A j) (hN : ∀ j : Nat, (j : Int) < A m.toNat → N' j = N j) (h0 : 0 ≤ A m.toNat) (h1 : A m.toNat < a') (h2 : a' ≤ 120) (ho : c = 111 ∨ c = 112 → 1 ≤ N' (A m.toNat).toNat ∧ N' (A m.toNat).toNat ≤ 4) (ht : c = 116 → A m.toNat + 4 ≤ a' ∧ (a' - A m.toNat) % 2 = 0 ∧ ∀ i : Int, 0 ≤ i → A m.toNat + 2 * i + 2 < a' → 0 ≤ N' (A m.toNat + 2 * i).toNat ∧ N' (A m.toNat + 2 * i).toNat < N' (A m.toNat + 2 * i + 2).toNat ∧ N' (A m.toNat + 2 * i + 2).toNat ≤ 255) : RecOK L' A' N' (m + 1) := by
  intro k k1 k2
  by_cases e : k = (m + 1).toNat
  · have e1 : k - 1 = m.toNat := by omega
    rw [e1, hL, hA2 m.toNat (by omega), e, hA]
    exact ⟨h1, h2, h0, fun q => ho (Or.inl q), fun q => ho (Or.inr q), ht⟩
  · obtain ⟨a1, a2, a3, a4, a5, a6⟩ := h k k1 (by omega)
    have up := h.up m.toNat k (by omega) (by omega)
    rw [hL2 (k - 1) (by omega), hA2 (k - 1) (by omega), hA2 k e]
    refine ⟨a1, a2, a3, fun q => ?_, fun q => ?_, fun q => ?_⟩
    · rw [hN _ (by omega)]; exact a4 q
    · rw [hN _ (by omega)]; exact a5 q
    · obtain ⟨b1, b2, b3⟩ := a6 q
      refine ⟨b1, b2, fun i hi hl => ?_⟩
      rw [hN _ (by omega), hN _ (by omega)]
      exact b3 i hi hl
def NP (h : Hp) : Prop := (0 ≤ h 0 26 ∧ h 0 26 ≤ h 0 27 ∧ h 0 27 ≤ 120) ∧ (0 ≤ h 0 31 ∧ h 0 31 ≤ h 0 26) ∧ (0 ≤ h 0 30 ∧ h 0 30 ≤ 12) ∧ h 14 (h 0 30).toNat = h 0 31 ∧ RecOK (h 13) (h 14) (h 15) (h 0 30)

