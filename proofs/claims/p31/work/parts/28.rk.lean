theorem bd2 {f g h0 : Nat → Int} {N : Nat} {lo hi : Int} (c : ∀ j, j < N → f j = g j) (o : ∀ j, N ≤ j → f j = h0 j) (bg : ∀ j, lo ≤ g j ∧ g j ≤ hi) (bh : ∀ j, lo ≤ h0 j ∧ h0 j ≤ hi) : ∀ j, lo ≤ f j ∧ f j ≤ hi := by
  intro j
  by_cases hj : j < N
  · rw [c j hj]; exact bg j
  · rw [o j (by omega)]; exact bh j
theorem s_X12_copiesMarks {G : Ga} {h : Hp} {a c n : Nat} (ha : tab[a]? = some (1, 1, [n])) (hc : tab[c]? = some (1, 1, [n])) (hn : n < 2147483648) (hne : a ≠ c) (hb : ∀ i, h a i = 0 ∨ h a i = 1) : zM G mX12_copiesMarks yX12_copiesMarks [.inr (.inr a), .inr (.inr c)] h (fun _ h' => h' = cpy h a c n) := by
  have main : ∀ N : Nat, ∀ i : Int, 0 ≤ i ∧ i ≤ n → (n : Int) - i < N → zV G mX12_copiesMarks (fun _ h' => h' = cpy h a c n) 2 [some (.inr (.inr a)), some (.inr (.inr c)), some (.inl i)] [] (cpy h a c i.toNat) := by
    intro N
    induction N with
    | zero => intro i h1 h2; exfalso; omega
    | succ N ih =>
      intro i h1 h2
      refine zW_iload_n (pc' := 3) dX12_copiesMarks_0.1.1.2.1 rfl rfl ?_
      refine zW_aload_n (pc' := 4) dX12_copiesMarks_0.1.1.2.2 rfl rfl ?_
      refine zV_alen (pc' := 5) ha (by decide) dX12_copiesMarks_0.1.2.1.1 rfl ?_
      refine zV_cm_ge (tgt := 20) (pc' := 8) dX12_copiesMarks_0.1.2.1.2 rfl rfl ⟨by omega, by omega⟩ ⟨by omega, by omega⟩ (fun c5 => ?_) (fun c5 => ?_)
      · refine zV_vret rfl dX12_copiesMarks_0.2.2.2 ?_
        rw [show i.toNat = n by omega]
      · refine zW_aload_n (pc' := 9) dX12_copiesMarks_0.1.2.2.1 rfl rfl ?_
        refine zW_iload_n (pc' := 10) dX12_copiesMarks_0.1.2.2.2 rfl rfl ?_
        refine zW_aload_n (pc' := 11) dX12_copiesMarks_0.2.1.1.1 rfl rfl ?_
        refine zW_iload_n (pc' := 12) dX12_copiesMarks_0.2.1.1.2 rfl rfl ?_
        refine zV_zald (pc' := 13) ha ⟨by omega, by omega⟩ dX12_copiesMarks_0.2.1.2.1 hn rfl ?_
        refine zV_zast (pc' := 14) hc ⟨by omega, by omega⟩ (by rw [cpy_ne hne]; exact hb _) dX12_copiesMarks_0.2.1.2.2 hn rfl ?_
        rw [cpy_s hne]
        refine zW_iinc (ls' := [_, _, _]) (pc' := 17) dX12_copiesMarks_0.2.2.1.1 rfl (by decide) rfl rfl rfl ?_
        refine zV_goto 2 dX12_copiesMarks_0.2.2.1.2 rfl ?_
        rw [show i.toNat + 1 = (i + 1).toNat by omega]
        exact ih (i + 1) (by omega) (by omega)
  refine zM_of [some (.inr (.inr a)), some (.inr (.inr c)), none] 1 rfl rfl (Nat.le_of_ble_eq_true rfl) rfl ?_
  refine zW_iconst (pc' := 1) dX12_copiesMarks_0.1.1.1.1 rfl ?_
  refine zW_istore_n (ls' := [_, _, _]) (pc' := 2) dX12_copiesMarks_0.1.1.1.2 (by decide) rfl rfl rfl ?_
  have := main (n + 1) 0 (by omega) (by omega)
  rw [show (0 : Int).toNat = 0 from rfl, cpy_0] at this
  exact this


