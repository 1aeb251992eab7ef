/-! the heap behind both constructors: zeros but these -/
def hz : Hp := fun k i => if k = 0 then (if i = 11 then 4 else if i = 12 then 4 else if i = 15 then 1 else 0) else if k = 30 then (if i = 10 then 1 else if i = 12 then 1 else 0) else if k = 33 then (if i = 0 then 4 else if i = 1 then 4 else 0) else if k = 36 then (if i = 0 then 4 else if i = 1 then 4 else 0) else if k = 54 then (if i = 7 then -1 else 0) else 0
theorem hz_rng (k i : Nat) : -1 ≤ hz k i ∧ hz k i ≤ 4 := by
  unfold hz
  repeat' split
  all_goals omega
theorem hz_0 {k : Nat} (h0 : k ≠ 0) (h1 : k ≠ 30) (h2 : k ≠ 33) (h3 : k ≠ 36) (h4 : k ≠ 54) (i : Nat) : hz k i = 0 := by
  unfold hz
  rw [if_neg h0, if_neg h1, if_neg h2, if_neg h3, if_neg h4]
theorem hz_SI : SI hz := ⟨by decide +kernel, by decide +kernel, by decide +kernel, by decide +kernel, fun k i _ _ => by
  have := hz_rng k i
  exact ⟨by omega, by omega⟩⟩
theorem hz_b {k : Nat} (h0 : k ≠ 0) (h1 : k ≠ 30) (h2 : k ≠ 33) (h3 : k ≠ 36) (h4 : k ≠ 54) (up : Int) (hu : 0 ≤ up) : ∀ j, 0 ≤ hz k j ∧ hz k j ≤ up := fun j => by
  rw [hz_0 h0 h1 h2 h3 h4]
  exact ⟨by omega, hu⟩
theorem hz_KR : KR hz := by
  refine ⟨by decide +kernel, by decide +kernel, by decide +kernel, by decide +kernel, by decide +kernel, by decide +kernel, hz_b (by decide) (by decide) (by decide) (by decide) (by decide) _ (by decide), ?_, by decide +kernel, by decide +kernel, ?_, hz_b (by decide) (by decide) (by decide) (by decide) (by decide) _ (by decide), hz_b (by decide) (by decide) (by decide) (by decide) (by decide) _ (by decide), hz_b (by decide) (by decide) (by decide) (by decide) (by decide) _ (by decide), hz_b (by decide) (by decide) (by decide) (by decide) (by decide) _ (by decide), hz_b (by decide) (by decide) (by decide) (by decide) (by decide) _ (by decide), hz_b (by decide) (by decide) (by decide) (by decide) (by decide) _ (by decide), hz_b (by decide) (by decide) (by decide) (by decide) (by decide) _ (by decide)⟩
  · intro k h1 h2
    rw [show hz 0 14 = 0 from rfl] at h2
    omega
  · intro q
    rw [show hz 0 22 = 0 from rfl] at q
    omega
theorem hz_KC : KC hz := by
  unfold KC MoC RcC
  refine ⟨by decide +kernel, by decide +kernel, ⟨by decide +kernel, by decide +kernel, hz_b (by decide) (by decide) (by decide) (by decide) (by decide) _ (by decide)⟩, ⟨by decide +kernel, by decide +kernel, hz_b (by decide) (by decide) (by decide) (by decide) (by decide) _ (by decide)⟩, by decide +kernel, by decide +kernel, by decide +kernel, ⟨by decide +kernel, by decide +kernel, hz_b (by decide) (by decide) (by decide) (by decide) (by decide) _ (by decide)⟩⟩
