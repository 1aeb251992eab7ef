theorem NP.mv {h h' : Hp} (hN : NP h) (hF : Fm [(0, 26), (0, 28)] h h') (h1 : h 0 26 ≤ h' 0 26) (h2 : h' 0 26 ≤ h 0 27) : NP h' := by
  obtain ⟨⟨a1, a2, a3⟩, ⟨b1, b2⟩, c, d, e⟩ := hN
  have y27 := hF.1 0 27 rfl rfl
  have y31 := hF.1 0 31 rfl rfl
  have y30 := hF.1 0 30 rfl rfl
  refine ⟨⟨by omega, by omega, by omega⟩, ⟨by omega, by omega⟩, by omega, ?_, ?_⟩
  · rw [y30, y31, hF.cell 14 rfl (fun _ => rfl)]; exact d
  · rw [y30, hF.cell 13 rfl (fun _ => rfl), hF.cell 14 rfl (fun _ => rfl), hF.cell 15 rfl (fun _ => rfl)]; exact e
theorem NP.w25 {h : Hp} {v : Int} (hN : NP h) : NP (zwr h 0 25 v) := by
  unfold NP at hN ⊢
  rw [zwr_ne (Or.inr (by decide)), zwr_ne (Or.inr (by decide)), zwr_ne (Or.inr (by decide)), zwr_ne (Or.inr (by decide)), zfun (by decide), zfun (by decide), zfun (by decide)]
  exact hN

