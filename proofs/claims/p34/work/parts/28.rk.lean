theorem bd2 {f g h0 : Nat → Int} {N : Nat} {lo hi : Int} (c : ∀ j, j < N → f j = g j) (o : ∀ j, N ≤ j → f j = h0 j) (bg : ∀ j, lo ≤ g j ∧ g j ≤ hi) (bh : ∀ j, lo ≤ h0 j ∧ h0 j ≤ hi) : ∀ j, lo ≤ f j ∧ f j ≤ hi := by
  intro j
  by_cases hj : j < N
  · rw [c j hj]; exact bg j
  · rw [o j (by omega)]; exact bh j
theorem s_X12_copiesMarks {G : Ga} {h : Hp} {a c n : Nat} (ha : tab[a]? = some (1, 1, [n])) (hc : tab[c]? = some (1, 1, [n])) (hn : n < 2147483648) (hne : a ≠ c) (hb : ∀ i, h a i = 0 ∨ h a i = 1) : zM G mX12_copiesMarks yX12_copiesMarks [.inr (.inr a), .inr (.inr c)] h (fun _ h' => h' = cpy h a c n) := by
  have main : ∀ N : Nat, ∀ i : Int, 0 ≤ i ∧ i ≤ n → (n : Int) - i < N → zV G mX12_copiesMarks (fun _ h' => h' = cpy h a c n) 2 [some (.inr (.inr a)), some (.inr (.inr c)), some (.inl i)] [] (cpy h a c i.toNat) := by
    intro N
    induction N with
    | zero => intro i h1 h2; exfalso; omega
    | succ N ih =>
      intro i h1 h2
      refine zW_iload_n (pc' := 3) dX12_copiesMarks_0.1.1.2.1 rfl rfl ?_
      refine zW_aload_n (pc' := 4) dX12_copiesMarks_0.1.1.2.2 rfl rfl ?_
      refine zV_alen (pc' := 5) ha (by decide) dX12_copiesMarks_0.1.2.1.1 rfl ?_
      refine zV_cm_ge (tgt := 20) (pc' := 8) dX12_copiesMarks_0.1.2.1.2 rfl rfl ⟨by omega, by omega⟩ ⟨by omega, by omega⟩ (fun c5 => ?_) (fun c5 => ?_)
      · refine zV_vret rfl dX12_copiesMarks_0.2.2.2 ?_
        rw [show i.toNat = n by omega]
      · refine zW_aload_n (pc' := 9) dX12_copiesMarks_0.1.2.2.1 rfl rfl ?_
        refine zW_iload_n (pc' := 10) dX12_copiesMarks_0.1.2.2.2 rfl rfl ?_
        refine zW_aload_n (pc' := 11) dX12_copiesMarks_0.2.1.1.1 rfl rfl ?_
        refine zW_iload_n (pc' := 12) dX12_copiesMarks_0.2.1.1.2 rfl rfl ?_
        refine zV_zald (pc' := 13) ha ⟨by omega, by omega⟩ dX12_copiesMarks_0.2.1.2.1 hn rfl ?_
        refine zV_zast (pc' := 14) hc ⟨by omega, by omega⟩ (by rw [cpy_ne hne]; exact hb _) dX12_copiesMarks_0.2.1.2.2 hn rfl ?_
        rw [cpy_s hne]
        refine zW_iinc (ls' := [_, _, _]) (pc' := 17) dX12_copiesMarks_0.2.2.1.1 rfl (by decide) rfl rfl rfl ?_
        refine zV_goto 2 dX12_copiesMarks_0.2.2.1.2 rfl ?_
        rw [show i.toNat + 1 = (i + 1).toNat by omega]
        exact ih (i + 1) (by omega) (by omega)
  refine zM_of [some (.inr (.inr a)), some (.inr (.inr c)), none] 1 rfl rfl (Nat.le_of_ble_eq_true rfl) rfl ?_
  refine zW_iconst (pc' := 1) dX12_copiesMarks_0.1.1.1.1 rfl ?_
  refine zW_istore_n (ls' := [_, _, _]) (pc' := 2) dX12_copiesMarks_0.1.1.1.2 (by decide) rfl rfl rfl ?_
  have := main (n + 1) 0 (by omega) (by omega)
  rw [show (0 : Int).toNat = 0 from rfl, cpy_0] at this
  exact this

abbrev q_X12_keep (κ : Hp) : Int → Hp → Prop := fun r h' => Fm [(0, 22), (0, 16), (0, 17), (0, 18), (0, 19), (0, 20), (6, 999), (7, 999), (8, 999), (9, 999), (11, 999)] κ h' ∧ (r = κ 0 14 ∧ h' 0 22 = 1 ∧ h' 0 16 = κ 0 11 ∧ h' 0 17 = κ 0 12 ∧ h' 0 18 = κ 0 13 ∧ h' 0 20 = κ 0 15)
set_option maxHeartbeats 4000000 in
set_option maxRecDepth 20000 in
theorem s_X12_keep {G : Ga} {κ : Hp} (hS : SI κ) (hR : KR κ) (hC : KC κ) : zM G mX12_keep yX12_keep [.inr (.inr 0)] κ (q_X12_keep κ) := by
  have f22 := KRk hR
  refine zM_of [some (.inr (.inr 0))] 0 rfl rfl (Nat.le_of_ble_eq_true rfl) rfl ?_
  refine zW_aload_n (pc' := 1) dX12_keep_0.1.1.1.1 rfl rfl ?_
  refine zW_iconst (pc' := 2) dX12_keep_0.1.1.1.2 rfl ?_
  refine zV_putz (pc' := 5) fp_X12_457 (by omega) tb0 rfl dX12_keep_0.1.1.2.1 rfl ?_
  have hS1 := SI_irr (k := 0) (i := 22) (v := 1) hS (Or.inl rfl) (fun _ _ => ⟨by omega, by omega⟩)
  generalize e1 : zwr κ 0 22 (1) = h1 at hS1 ⊢
  refine zW_aload_n (pc' := 6) dX12_keep_0.1.1.2.2 rfl rfl ?_
  refine zW_aload_n (pc' := 7) dX12_keep_0.1.2.1.1 rfl rfl ?_
  refine zG_int (pc' := 10) fg_X12_99 tb0 rfl dX12_keep_0.1.2.1.2 rfl ?_
  refine zV_puti (pc' := 13) fp_X12_460 tb0 rfl dX12_keep_0.1.2.2.1 rfl ?_
  have hS2 := SI_irr (k := 0) (i := 16) (v := h1 0 11) hS1 (Or.inl rfl) (fun _ _ => (hS1.2.2.2.2 _ _ (by decide) (by decide)))
  generalize e2 : zwr h1 0 16 (h1 0 11) = h2 at hS2 ⊢
  refine zW_aload_n (pc' := 14) dX12_keep_0.1.2.2.2 rfl rfl ?_
  refine zW_aload_n (pc' := 15) dX12_keep_0.2.1.1.1 rfl rfl ?_
  refine zG_int (pc' := 18) fg_X12_103 tb0 rfl dX12_keep_0.2.1.1.2 rfl ?_
  refine zV_puti (pc' := 21) fp_X12_463 tb0 rfl dX12_keep_0.2.1.2.1 rfl ?_
  have hS3 := SI_irr (k := 0) (i := 17) (v := h2 0 12) hS2 (Or.inl rfl) (fun _ _ => (hS2.2.2.2.2 _ _ (by decide) (by decide)))
  generalize e3 : zwr h2 0 17 (h2 0 12) = h3 at hS3 ⊢
  refine zW_aload_n (pc' := 22) dX12_keep_0.2.1.2.2 rfl rfl ?_
  refine zW_aload_n (pc' := 23) dX12_keep_0.2.2.1.1 rfl rfl ?_
  refine zG_int (pc' := 26) fg_X12_209 tb0 rfl dX12_keep_0.2.2.1.2 rfl ?_
  refine zV_puti (pc' := 29) fp_X12_466 tb0 rfl dX12_keep_0.2.2.2.1 rfl ?_
  have hS4 := SI_irr (k := 0) (i := 18) (v := h3 0 13) hS3 (Or.inl rfl) (fun _ _ => (hS3.2.2.2.2 _ _ (by decide) (by decide)))
  generalize e4 : zwr h3 0 18 (h3 0 13) = h4 at hS4 ⊢
  refine zW_aload_n (pc' := 30) dX12_keep_0.2.2.2.2 rfl rfl ?_
  refine zW_aload_n (pc' := 31) dX12_keep_1.1.1.1.1 rfl rfl ?_
  refine zG_int (pc' := 34) fg_X12_185 tb0 rfl dX12_keep_1.1.1.1.2 rfl ?_
  refine zV_puti (pc' := 37) fp_X12_469 tb0 rfl dX12_keep_1.1.1.2.1 rfl ?_
  have hS5 := SI_irr (k := 0) (i := 19) (v := h4 0 14) hS4 (Or.inl rfl) (fun _ _ => (hS4.2.2.2.2 _ _ (by decide) (by decide)))
  generalize e5 : zwr h4 0 19 (h4 0 14) = h5 at hS5 ⊢
  refine zW_aload_n (pc' := 38) dX12_keep_1.1.1.2.2 rfl rfl ?_
  refine zW_aload_n (pc' := 39) dX12_keep_1.1.2.1.1 rfl rfl ?_
  refine zG_int (pc' := 42) fg_X12_106 tb0 rfl dX12_keep_1.1.2.1.2 rfl ?_
  refine zV_puti (pc' := 45) fp_X12_472 tb0 rfl dX12_keep_1.1.2.2.1 rfl ?_
  have hS6 := SI_irr (k := 0) (i := 20) (v := h5 0 15) hS5 (Or.inl rfl) (fun _ _ => (hS5.2.2.2.2 _ _ (by decide) (by decide)))
  generalize e6 : zwr h5 0 20 (h5 0 15) = h6 at hS6 ⊢
  refine zW_aload_n (pc' := 46) dX12_keep_1.1.2.2.2 rfl rfl ?_
  refine zG_ref (pc' := 49) 1 fg_X12_7 tb0 rfl dX12_keep_1.2.1.1.1 rfl ?_
  refine zW_aload_n (pc' := 50) dX12_keep_1.2.1.1.2 rfl rfl ?_
  refine zG_ref (pc' := 53) 6 fg_X12_25 tb0 rfl dX12_keep_1.2.1.2.1 rfl ?_
  refine csV2 (pc' := 56) kX12_copies vX12_copies lk_X12_188 ⟨Nat.le_of_ble_eq_true rfl, Nat.le_of_ble_eq_true rfl⟩ rfl (s_X12_copies tb1 tb6 (by decide) (by decide)) dX12_keep_1.2.1.2.2 (Nat.le_of_ble_eq_true rfl) rfl ?_
  rintro _ h7 e7; replace e7 := e7.symm
  have hS7 : SI h7 := by rw [← e7]; exact SI_cpy hS6 rfl (by decide)
  refine zW_aload_n (pc' := 57) dX12_keep_1.2.2.1.1 rfl rfl ?_
  refine zG_ref (pc' := 60) 10 fg_X12_37 tb0 rfl dX12_keep_1.2.2.1.2 rfl ?_
  refine zW_aload_n (pc' := 61) dX12_keep_1.2.2.2.1 rfl rfl ?_
  refine zG_ref (pc' := 64) 11 fg_X12_41 tb0 rfl dX12_keep_1.2.2.2.2 rfl ?_
  have hb : ∀ i, h7 10 i = 0 ∨ h7 10 i = 1 := fun i => by have q := KRd hR i; rw [← e7, cpy_ne (by decide), ← e6, zwr_ne (Or.inl (by decide)), ← e5, zwr_ne (Or.inl (by decide)), ← e4, zwr_ne (Or.inl (by decide)), ← e3, zwr_ne (Or.inl (by decide)), ← e2, zwr_ne (Or.inl (by decide)), ← e1, zwr_ne (Or.inl (by decide))]; omega
  refine csV2 (pc' := 67) kX12_copiesMarks vX12_copiesMarks lk_X12_475 ⟨Nat.le_of_ble_eq_true rfl, Nat.le_of_ble_eq_true rfl⟩ rfl (s_X12_copiesMarks tb10 tb11 (by decide) (by decide) hb) dX12_keep_2.1.1.1.1 (Nat.le_of_ble_eq_true rfl) rfl ?_
  rintro _ h8 e8; replace e8 := e8.symm
  have hS8 : SI h8 := by rw [← e8]; exact SI_cpy hS7 rfl (by decide)
  refine zW_aload_n (pc' := 68) dX12_keep_2.1.1.1.2 rfl rfl ?_
  refine zG_ref (pc' := 71) 3 fg_X12_16 tb0 rfl dX12_keep_2.1.1.2.1 rfl ?_
  refine zW_aload_n (pc' := 72) dX12_keep_2.1.1.2.2 rfl rfl ?_
  refine zG_ref (pc' := 75) 7 fg_X12_28 tb0 rfl dX12_keep_2.1.2.1.1 rfl ?_
  refine csV2 (pc' := 78) kX12_copies vX12_copies lk_X12_188 ⟨Nat.le_of_ble_eq_true rfl, Nat.le_of_ble_eq_true rfl⟩ rfl (s_X12_copies tb3 tb7 (by decide) (by decide)) dX12_keep_2.1.2.1.2 (Nat.le_of_ble_eq_true rfl) rfl ?_
  rintro _ h9 e9; replace e9 := e9.symm
  have hS9 : SI h9 := by rw [← e9]; exact SI_cpy hS8 rfl (by decide)
  refine zW_aload_n (pc' := 79) dX12_keep_2.1.2.2.1 rfl rfl ?_
  refine zG_ref (pc' := 82) 4 fg_X12_19 tb0 rfl dX12_keep_2.1.2.2.2 rfl ?_
  refine zW_aload_n (pc' := 83) dX12_keep_2.2.1.1.1 rfl rfl ?_
  refine zG_ref (pc' := 86) 8 fg_X12_31 tb0 rfl dX12_keep_2.2.1.1.2 rfl ?_
  refine csV2 (pc' := 89) kX12_copies vX12_copies lk_X12_188 ⟨Nat.le_of_ble_eq_true rfl, Nat.le_of_ble_eq_true rfl⟩ rfl (s_X12_copies tb4 tb8 (by decide) (by decide)) dX12_keep_2.2.1.2.1 (Nat.le_of_ble_eq_true rfl) rfl ?_
  rintro _ h10 e10; replace e10 := e10.symm
  have hS10 : SI h10 := by rw [← e10]; exact SI_cpy hS9 rfl (by decide)
  refine zW_aload_n (pc' := 90) dX12_keep_2.2.1.2.2 rfl rfl ?_
  refine zG_ref (pc' := 93) 5 fg_X12_22 tb0 rfl dX12_keep_2.2.2.1.1 rfl ?_
  refine zW_aload_n (pc' := 94) dX12_keep_2.2.2.1.2 rfl rfl ?_
  refine zG_ref (pc' := 97) 9 fg_X12_34 tb0 rfl dX12_keep_2.2.2.2.1 rfl ?_
  refine csV2 (pc' := 100) kX12_copies vX12_copies lk_X12_188 ⟨Nat.le_of_ble_eq_true rfl, Nat.le_of_ble_eq_true rfl⟩ rfl (s_X12_copies tb5 tb9 (by decide) (by decide)) dX12_keep_2.2.2.2.2 (Nat.le_of_ble_eq_true rfl) rfl ?_
  rintro _ h11 e11; replace e11 := e11.symm
  have hS11 : SI h11 := by rw [← e11]; exact SI_cpy hS10 rfl (by decide)
  refine zW_aload_n (pc' := 101) dX12_keep_3.1.1 rfl rfl ?_
  refine zG_int (pc' := 104) fg_X12_185 tb0 rfl dX12_keep_3.1.2 rfl ?_
  have fr : ∀ k i, inW [(0, 22), (0, 16), (0, 17), (0, 18), (0, 19), (0, 20), (6, 999), (7, 999), (8, 999), (9, 999), (11, 999)] k i = false → h11 k i = κ k i := fun k i hl => by rw [← e11, cpy_ne (inW_nc (L := [(0, 22), (0, 16), (0, 17), (0, 18), (0, 19), (0, 20), (6, 999), (7, 999), (8, 999), (9, 999), (11, 999)]) (c := 9) rfl hl), ← e10, cpy_ne (inW_nc (L := [(0, 22), (0, 16), (0, 17), (0, 18), (0, 19), (0, 20), (6, 999), (7, 999), (8, 999), (9, 999), (11, 999)]) (c := 8) rfl hl), ← e9, cpy_ne (inW_nc (L := [(0, 22), (0, 16), (0, 17), (0, 18), (0, 19), (0, 20), (6, 999), (7, 999), (8, 999), (9, 999), (11, 999)]) (c := 7) rfl hl), ← e8, cpy_ne (inW_nc (L := [(0, 22), (0, 16), (0, 17), (0, 18), (0, 19), (0, 20), (6, 999), (7, 999), (8, 999), (9, 999), (11, 999)]) (c := 11) rfl hl), ← e7, cpy_ne (inW_nc (L := [(0, 22), (0, 16), (0, 17), (0, 18), (0, 19), (0, 20), (6, 999), (7, 999), (8, 999), (9, 999), (11, 999)]) (c := 6) rfl hl), ← e6, zwr_ne (inW_ne (L := [(0, 22), (0, 16), (0, 17), (0, 18), (0, 19), (0, 20), (6, 999), (7, 999), (8, 999), (9, 999), (11, 999)]) (k := 0) (i := 20) rfl hl), ← e5, zwr_ne (inW_ne (L := [(0, 22), (0, 16), (0, 17), (0, 18), (0, 19), (0, 20), (6, 999), (7, 999), (8, 999), (9, 999), (11, 999)]) (k := 0) (i := 19) rfl hl), ← e4, zwr_ne (inW_ne (L := [(0, 22), (0, 16), (0, 17), (0, 18), (0, 19), (0, 20), (6, 999), (7, 999), (8, 999), (9, 999), (11, 999)]) (k := 0) (i := 18) rfl hl), ← e3, zwr_ne (inW_ne (L := [(0, 22), (0, 16), (0, 17), (0, 18), (0, 19), (0, 20), (6, 999), (7, 999), (8, 999), (9, 999), (11, 999)]) (k := 0) (i := 17) rfl hl), ← e2, zwr_ne (inW_ne (L := [(0, 22), (0, 16), (0, 17), (0, 18), (0, 19), (0, 20), (6, 999), (7, 999), (8, 999), (9, 999), (11, 999)]) (k := 0) (i := 16) rfl hl), ← e1, zwr_ne (inW_ne (L := [(0, 22), (0, 16), (0, 17), (0, 18), (0, 19), (0, 20), (6, 999), (7, 999), (8, 999), (9, 999), (11, 999)]) (k := 0) (i := 22) rfl hl)]
  have hCf : KC h11 := KC_low hC (fun k i hk => fr k i (by unfold inW; simp [List.any_cons]; omega))
  have g11 : h11 0 11 = κ 0 11 := by rw [← e11, cpy_ne (by decide), ← e10, cpy_ne (by decide), ← e9, cpy_ne (by decide), ← e8, cpy_ne (by decide), ← e7, cpy_ne (by decide), ← e6, zwr_ne (Or.inr (by decide)), ← e5, zwr_ne (Or.inr (by decide)), ← e4, zwr_ne (Or.inr (by decide)), ← e3, zwr_ne (Or.inr (by decide)), ← e2, zwr_ne (Or.inr (by decide)), ← e1, zwr_ne (Or.inr (by decide))]
  have g12 : h11 0 12 = κ 0 12 := by rw [← e11, cpy_ne (by decide), ← e10, cpy_ne (by decide), ← e9, cpy_ne (by decide), ← e8, cpy_ne (by decide), ← e7, cpy_ne (by decide), ← e6, zwr_ne (Or.inr (by decide)), ← e5, zwr_ne (Or.inr (by decide)), ← e4, zwr_ne (Or.inr (by decide)), ← e3, zwr_ne (Or.inr (by decide)), ← e2, zwr_ne (Or.inr (by decide)), ← e1, zwr_ne (Or.inr (by decide))]
  have g13 : h11 0 13 = κ 0 13 := by rw [← e11, cpy_ne (by decide), ← e10, cpy_ne (by decide), ← e9, cpy_ne (by decide), ← e8, cpy_ne (by decide), ← e7, cpy_ne (by decide), ← e6, zwr_ne (Or.inr (by decide)), ← e5, zwr_ne (Or.inr (by decide)), ← e4, zwr_ne (Or.inr (by decide)), ← e3, zwr_ne (Or.inr (by decide)), ← e2, zwr_ne (Or.inr (by decide)), ← e1, zwr_ne (Or.inr (by decide))]
  have g14 : h11 0 14 = κ 0 14 := by rw [← e11, cpy_ne (by decide), ← e10, cpy_ne (by decide), ← e9, cpy_ne (by decide), ← e8, cpy_ne (by decide), ← e7, cpy_ne (by decide), ← e6, zwr_ne (Or.inr (by decide)), ← e5, zwr_ne (Or.inr (by decide)), ← e4, zwr_ne (Or.inr (by decide)), ← e3, zwr_ne (Or.inr (by decide)), ← e2, zwr_ne (Or.inr (by decide)), ← e1, zwr_ne (Or.inr (by decide))]
  have g15 : h11 0 15 = κ 0 15 := by rw [← e11, cpy_ne (by decide), ← e10, cpy_ne (by decide), ← e9, cpy_ne (by decide), ← e8, cpy_ne (by decide), ← e7, cpy_ne (by decide), ← e6, zwr_ne (Or.inr (by decide)), ← e5, zwr_ne (Or.inr (by decide)), ← e4, zwr_ne (Or.inr (by decide)), ← e3, zwr_ne (Or.inr (by decide)), ← e2, zwr_ne (Or.inr (by decide)), ← e1, zwr_ne (Or.inr (by decide))]
  have g16 : h11 0 16 = κ 0 11 := by rw [← e11, cpy_ne (by decide), ← e10, cpy_ne (by decide), ← e9, cpy_ne (by decide), ← e8, cpy_ne (by decide), ← e7, cpy_ne (by decide), ← e6, zwr_ne (Or.inr (by decide)), ← e5, zwr_ne (Or.inr (by decide)), ← e4, zwr_ne (Or.inr (by decide)), ← e3, zwr_ne (Or.inr (by decide)), ← e2, zwr_eq, ← e1, zwr_ne (Or.inr (by decide))]
  have g17 : h11 0 17 = κ 0 12 := by rw [← e11, cpy_ne (by decide), ← e10, cpy_ne (by decide), ← e9, cpy_ne (by decide), ← e8, cpy_ne (by decide), ← e7, cpy_ne (by decide), ← e6, zwr_ne (Or.inr (by decide)), ← e5, zwr_ne (Or.inr (by decide)), ← e4, zwr_ne (Or.inr (by decide)), ← e3, zwr_eq, ← e2, zwr_ne (Or.inr (by decide)), ← e1, zwr_ne (Or.inr (by decide))]
  have g18 : h11 0 18 = κ 0 13 := by rw [← e11, cpy_ne (by decide), ← e10, cpy_ne (by decide), ← e9, cpy_ne (by decide), ← e8, cpy_ne (by decide), ← e7, cpy_ne (by decide), ← e6, zwr_ne (Or.inr (by decide)), ← e5, zwr_ne (Or.inr (by decide)), ← e4, zwr_eq, ← e3, zwr_ne (Or.inr (by decide)), ← e2, zwr_ne (Or.inr (by decide)), ← e1, zwr_ne (Or.inr (by decide))]
  have g19 : h11 0 19 = κ 0 14 := by rw [← e11, cpy_ne (by decide), ← e10, cpy_ne (by decide), ← e9, cpy_ne (by decide), ← e8, cpy_ne (by decide), ← e7, cpy_ne (by decide), ← e6, zwr_ne (Or.inr (by decide)), ← e5, zwr_eq, ← e4, zwr_ne (Or.inr (by decide)), ← e3, zwr_ne (Or.inr (by decide)), ← e2, zwr_ne (Or.inr (by decide)), ← e1, zwr_ne (Or.inr (by decide))]
  have g20 : h11 0 20 = κ 0 15 := by rw [← e11, cpy_ne (by decide), ← e10, cpy_ne (by decide), ← e9, cpy_ne (by decide), ← e8, cpy_ne (by decide), ← e7, cpy_ne (by decide), ← e6, zwr_eq, ← e5, zwr_ne (Or.inr (by decide)), ← e4, zwr_ne (Or.inr (by decide)), ← e3, zwr_ne (Or.inr (by decide)), ← e2, zwr_ne (Or.inr (by decide)), ← e1, zwr_ne (Or.inr (by decide))]
  have g21 : h11 0 21 = κ 0 21 := by rw [← e11, cpy_ne (by decide), ← e10, cpy_ne (by decide), ← e9, cpy_ne (by decide), ← e8, cpy_ne (by decide), ← e7, cpy_ne (by decide), ← e6, zwr_ne (Or.inr (by decide)), ← e5, zwr_ne (Or.inr (by decide)), ← e4, zwr_ne (Or.inr (by decide)), ← e3, zwr_ne (Or.inr (by decide)), ← e2, zwr_ne (Or.inr (by decide)), ← e1, zwr_ne (Or.inr (by decide))]
  have g22 : h11 0 22 = 1 := by rw [← e11, cpy_ne (by decide), ← e10, cpy_ne (by decide), ← e9, cpy_ne (by decide), ← e8, cpy_ne (by decide), ← e7, cpy_ne (by decide), ← e6, zwr_ne (Or.inr (by decide)), ← e5, zwr_ne (Or.inr (by decide)), ← e4, zwr_ne (Or.inr (by decide)), ← e3, zwr_ne (Or.inr (by decide)), ← e2, zwr_ne (Or.inr (by decide)), ← e1, zwr_eq]
  have g25 : h11 0 25 = κ 0 25 := by rw [← e11, cpy_ne (by decide), ← e10, cpy_ne (by decide), ← e9, cpy_ne (by decide), ← e8, cpy_ne (by decide), ← e7, cpy_ne (by decide), ← e6, zwr_ne (Or.inr (by decide)), ← e5, zwr_ne (Or.inr (by decide)), ← e4, zwr_ne (Or.inr (by decide)), ← e3, zwr_ne (Or.inr (by decide)), ← e2, zwr_ne (Or.inr (by decide)), ← e1, zwr_ne (Or.inr (by decide))]
  have c3 : h11 3 = κ 3 := funext fun j => by rw [← e11, cpy_ne (by decide), ← e10, cpy_ne (by decide), ← e9, cpy_ne (by decide), ← e8, cpy_ne (by decide), ← e7, cpy_ne (by decide), ← e6, zwr_ne (Or.inl (by decide)), ← e5, zwr_ne (Or.inl (by decide)), ← e4, zwr_ne (Or.inl (by decide)), ← e3, zwr_ne (Or.inl (by decide)), ← e2, zwr_ne (Or.inl (by decide)), ← e1, zwr_ne (Or.inl (by decide))]
  have c4 : h11 4 = κ 4 := funext fun j => by rw [← e11, cpy_ne (by decide), ← e10, cpy_ne (by decide), ← e9, cpy_ne (by decide), ← e8, cpy_ne (by decide), ← e7, cpy_ne (by decide), ← e6, zwr_ne (Or.inl (by decide)), ← e5, zwr_ne (Or.inl (by decide)), ← e4, zwr_ne (Or.inl (by decide)), ← e3, zwr_ne (Or.inl (by decide)), ← e2, zwr_ne (Or.inl (by decide)), ← e1, zwr_ne (Or.inl (by decide))]
  have c5 : h11 5 = κ 5 := funext fun j => by rw [← e11, cpy_ne (by decide), ← e10, cpy_ne (by decide), ← e9, cpy_ne (by decide), ← e8, cpy_ne (by decide), ← e7, cpy_ne (by decide), ← e6, zwr_ne (Or.inl (by decide)), ← e5, zwr_ne (Or.inl (by decide)), ← e4, zwr_ne (Or.inl (by decide)), ← e3, zwr_ne (Or.inl (by decide)), ← e2, zwr_ne (Or.inl (by decide)), ← e1, zwr_ne (Or.inl (by decide))]
  have c7 : ∀ j, j < 12 → h11 7 j = κ 3 j := fun j hj => by rw [← e11, cpy_ne (by decide), ← e10, cpy_ne (by decide), ← e9, cpy_in hj, ← e8, cpy_ne (by decide), ← e7, cpy_ne (by decide), ← e6, zwr_ne (Or.inl (by decide)), ← e5, zwr_ne (Or.inl (by decide)), ← e4, zwr_ne (Or.inl (by decide)), ← e3, zwr_ne (Or.inl (by decide)), ← e2, zwr_ne (Or.inl (by decide)), ← e1, zwr_ne (Or.inl (by decide))]
  have o7 : ∀ j, 12 ≤ j → h11 7 j = κ 7 j := fun j hj => by rw [← e11, cpy_ne (by decide), ← e10, cpy_ne (by decide), ← e9, cpy_out hj, ← e8, cpy_ne (by decide), ← e7, cpy_ne (by decide), ← e6, zwr_ne (Or.inl (by decide)), ← e5, zwr_ne (Or.inl (by decide)), ← e4, zwr_ne (Or.inl (by decide)), ← e3, zwr_ne (Or.inl (by decide)), ← e2, zwr_ne (Or.inl (by decide)), ← e1, zwr_ne (Or.inl (by decide))]
  have c8 : ∀ j, j < 13 → h11 8 j = κ 4 j := fun j hj => by rw [← e11, cpy_ne (by decide), ← e10, cpy_in hj, ← e9, cpy_ne (by decide), ← e8, cpy_ne (by decide), ← e7, cpy_ne (by decide), ← e6, zwr_ne (Or.inl (by decide)), ← e5, zwr_ne (Or.inl (by decide)), ← e4, zwr_ne (Or.inl (by decide)), ← e3, zwr_ne (Or.inl (by decide)), ← e2, zwr_ne (Or.inl (by decide)), ← e1, zwr_ne (Or.inl (by decide))]
  have o8 : ∀ j, 13 ≤ j → h11 8 j = κ 8 j := fun j hj => by rw [← e11, cpy_ne (by decide), ← e10, cpy_out hj, ← e9, cpy_ne (by decide), ← e8, cpy_ne (by decide), ← e7, cpy_ne (by decide), ← e6, zwr_ne (Or.inl (by decide)), ← e5, zwr_ne (Or.inl (by decide)), ← e4, zwr_ne (Or.inl (by decide)), ← e3, zwr_ne (Or.inl (by decide)), ← e2, zwr_ne (Or.inl (by decide)), ← e1, zwr_ne (Or.inl (by decide))]
  have c9 : ∀ j, j < 130 → h11 9 j = κ 5 j := fun j hj => by rw [← e11, cpy_in hj, ← e10, cpy_ne (by decide), ← e9, cpy_ne (by decide), ← e8, cpy_ne (by decide), ← e7, cpy_ne (by decide), ← e6, zwr_ne (Or.inl (by decide)), ← e5, zwr_ne (Or.inl (by decide)), ← e4, zwr_ne (Or.inl (by decide)), ← e3, zwr_ne (Or.inl (by decide)), ← e2, zwr_ne (Or.inl (by decide)), ← e1, zwr_ne (Or.inl (by decide))]
  have o9 : ∀ j, 130 ≤ j → h11 9 j = κ 9 j := fun j hj => by rw [← e11, cpy_out hj, ← e10, cpy_ne (by decide), ← e9, cpy_ne (by decide), ← e8, cpy_ne (by decide), ← e7, cpy_ne (by decide), ← e6, zwr_ne (Or.inl (by decide)), ← e5, zwr_ne (Or.inl (by decide)), ← e4, zwr_ne (Or.inl (by decide)), ← e3, zwr_ne (Or.inl (by decide)), ← e2, zwr_ne (Or.inl (by decide)), ← e1, zwr_ne (Or.inl (by decide))]
  have c10 : h11 10 = κ 10 := funext fun j => by rw [← e11, cpy_ne (by decide), ← e10, cpy_ne (by decide), ← e9, cpy_ne (by decide), ← e8, cpy_ne (by decide), ← e7, cpy_ne (by decide), ← e6, zwr_ne (Or.inl (by decide)), ← e5, zwr_ne (Or.inl (by decide)), ← e4, zwr_ne (Or.inl (by decide)), ← e3, zwr_ne (Or.inl (by decide)), ← e2, zwr_ne (Or.inl (by decide)), ← e1, zwr_ne (Or.inl (by decide))]
  have c11 : ∀ j, j < 256 → h11 11 j = κ 10 j := fun j hj => by rw [← e11, cpy_ne (by decide), ← e10, cpy_ne (by decide), ← e9, cpy_ne (by decide), ← e8, cpy_in hj, ← e7, cpy_ne (by decide), ← e6, zwr_ne (Or.inl (by decide)), ← e5, zwr_ne (Or.inl (by decide)), ← e4, zwr_ne (Or.inl (by decide)), ← e3, zwr_ne (Or.inl (by decide)), ← e2, zwr_ne (Or.inl (by decide)), ← e1, zwr_ne (Or.inl (by decide))]
  have o11 : ∀ j, 256 ≤ j → h11 11 j = κ 11 j := fun j hj => by rw [← e11, cpy_ne (by decide), ← e10, cpy_ne (by decide), ← e9, cpy_ne (by decide), ← e8, cpy_out hj, ← e7, cpy_ne (by decide), ← e6, zwr_ne (Or.inl (by decide)), ← e5, zwr_ne (Or.inl (by decide)), ← e4, zwr_ne (Or.inl (by decide)), ← e3, zwr_ne (Or.inl (by decide)), ← e2, zwr_ne (Or.inl (by decide)), ← e1, zwr_ne (Or.inl (by decide))]
  have c14 : h11 14 = κ 14 := funext fun j => by rw [← e11, cpy_ne (by decide), ← e10, cpy_ne (by decide), ← e9, cpy_ne (by decide), ← e8, cpy_ne (by decide), ← e7, cpy_ne (by decide), ← e6, zwr_ne (Or.inl (by decide)), ← e5, zwr_ne (Or.inl (by decide)), ← e4, zwr_ne (Or.inl (by decide)), ← e3, zwr_ne (Or.inl (by decide)), ← e2, zwr_ne (Or.inl (by decide)), ← e1, zwr_ne (Or.inl (by decide))]
  have c15 : h11 15 = κ 15 := funext fun j => by rw [← e11, cpy_ne (by decide), ← e10, cpy_ne (by decide), ← e9, cpy_ne (by decide), ← e8, cpy_ne (by decide), ← e7, cpy_ne (by decide), ← e6, zwr_ne (Or.inl (by decide)), ← e5, zwr_ne (Or.inl (by decide)), ← e4, zwr_ne (Or.inl (by decide)), ← e3, zwr_ne (Or.inl (by decide)), ← e2, zwr_ne (Or.inl (by decide)), ← e1, zwr_ne (Or.inl (by decide))]
  obtain ⟨a0, a1, a2, a3, a4, a5, a6, a7, a8, a9, a10, a11, a12, a13, a14, a15, a16, a17⟩ := hR
  have hRf : KR h11 := by
    unfold KR
    rw [g11, g12, g13, g14, g15, g16, g17, g18, g19, g20, g21, g22, g25, c3, c4, c5, c10, c14, c15]
    refine ⟨a0, a1, a2, a3, a4, a5, a6, a7, a8, ⟨by omega, by omega⟩, fun _ => ⟨a0, a1, a2, a3, a4, (bd2 c8 o8 a6 a16), ?_, (bd2 c9 o9 a11 a17)⟩, a11, a12, (bd2 c11 o11 a12 a13), a14, a15, (bd2 c8 o8 a6 a16), (bd2 c9 o9 a11 a17)⟩
    exact a7.cong3 a3.2 c7 c8 c9
  have hFf : Fm [(0, 22), (0, 16), (0, 17), (0, 18), (0, 19), (0, 20), (6, 999), (7, 999), (8, 999), (9, 999), (11, 999)] κ h11 := ⟨fun k i _ hl => fr k i hl, hS11, hRf, hCf⟩
  exact zV_iret rfl dX12_keep_3.2 ⟨hFf, by omega, g22, g16, g17, g18, g20⟩

abbrev q_X12_undo (κ : Hp) : Int → Hp → Prop := fun r h' => Fm [(0, 11), (0, 12), (0, 13), (0, 14), (0, 15), (1, 999), (3, 999), (4, 999), (5, 999), (10, 999), (0, 21), (0, 23)] κ h' ∧ (((κ 0 22 = 0 ∧ r = 0 ∧ h' 0 11 = κ 0 11 ∧ h' 0 12 = κ 0 12 ∧ h' 0 13 = κ 0 13 ∧ h' 0 15 = κ 0 15) ∨ (κ 0 22 = 1 ∧ r = 1 ∧ h' 0 11 = κ 0 16 ∧ h' 0 12 = κ 0 17 ∧ h' 0 13 = κ 0 18 ∧ h' 0 15 = κ 0 20)) ∧ ChR κ h')
set_option maxHeartbeats 4000000 in
set_option maxRecDepth 20000 in
theorem s_X12_undo {G : Ga} {κ : Hp} (hS : SI κ) (hR : KR κ) (hC : KC κ) : zM G mX12_undo yX12_undo [.inr (.inr 0)] κ (q_X12_undo κ) := by
  have f22 := KRk hR
  refine zM_of [some (.inr (.inr 0))] 0 rfl rfl (Nat.le_of_ble_eq_true rfl) rfl ?_
  refine zW_aload_n (pc' := 1) dX12_undo_0.1.1.1.1 rfl rfl ?_
  refine zG_int (pc' := 4) fg_X12_457 tb0 rfl dX12_undo_0.1.1.1.2 rfl ?_
  refine zV_if_ne (tgt := 9) (pc' := 7) dX12_undo_0.1.1.2.1 rfl rfl ⟨by omega, by omega⟩ (fun c => ?_) (fun c => ?_)
  rotate_left
  · refine zW_iconst (pc' := 8) dX12_undo_0.1.1.2.2 rfl ?_
    exact zV_zret rfl (by omega) dX12_undo_0.1.2.1.1 ⟨Fm.rf hS hR hC, ⟨Or.inl ⟨by omega, rfl, rfl, rfl, rfl, rfl⟩, Or.inr UnR.rf⟩⟩
  have hk1 : κ 0 22 = 1 := by omega
  obtain ⟨a0, a1, a2, a3, a4, a5, a6, a7, a8, a9, a10, a11, a12, a13, a14, a15, a16, a17⟩ := hR
  have hR : KR κ := ⟨a0, a1, a2, a3, a4, a5, a6, a7, a8, a9, a10, a11, a12, a13, a14, a15, a16, a17⟩
  obtain ⟨k1, k2, k3, k4, k5, k6, k7, k8⟩ := a10 hk1
  refine zW_aload_n (pc' := 10) dX12_undo_0.1.2.1.2 rfl rfl ?_
  refine zW_aload_n (pc' := 11) dX12_undo_0.1.2.2.1 rfl rfl ?_
  refine zG_int (pc' := 14) fg_X12_460 tb0 rfl dX12_undo_0.1.2.2.2 rfl ?_
  refine zV_puti (pc' := 17) fp_X12_99 tb0 rfl dX12_undo_0.2.1.1.1 rfl ?_
  have hS1 := SI_irr (k := 0) (i := 11) (v := κ 0 16) hS (Or.inl rfl) (fun _ _ => (hS.2.2.2.2 _ _ (by decide) (by decide)))
  generalize e1 : zwr κ 0 11 (κ 0 16) = h1 at hS1 ⊢
  refine zW_aload_n (pc' := 18) dX12_undo_0.2.1.1.2 rfl rfl ?_
  refine zW_aload_n (pc' := 19) dX12_undo_0.2.1.2.1 rfl rfl ?_
  refine zG_int (pc' := 22) fg_X12_463 tb0 rfl dX12_undo_0.2.1.2.2 rfl ?_
  refine zV_puti (pc' := 25) fp_X12_103 tb0 rfl dX12_undo_0.2.2.1.1 rfl ?_
  have hS2 := SI_irr (k := 0) (i := 12) (v := h1 0 17) hS1 (Or.inl rfl) (fun _ _ => (hS1.2.2.2.2 _ _ (by decide) (by decide)))
  generalize e2 : zwr h1 0 12 (h1 0 17) = h2 at hS2 ⊢
  refine zW_aload_n (pc' := 26) dX12_undo_0.2.2.1.2 rfl rfl ?_
  refine zW_aload_n (pc' := 27) dX12_undo_0.2.2.2.1 rfl rfl ?_
  refine zG_int (pc' := 30) fg_X12_466 tb0 rfl dX12_undo_0.2.2.2.2 rfl ?_
  refine zV_puti (pc' := 33) fp_X12_209 tb0 rfl dX12_undo_1.1.1.1.1 rfl ?_
  have hS3 := SI_irr (k := 0) (i := 13) (v := h2 0 18) hS2 (Or.inl rfl) (fun _ _ => (hS2.2.2.2.2 _ _ (by decide) (by decide)))
  generalize e3 : zwr h2 0 13 (h2 0 18) = h3 at hS3 ⊢
  refine zW_aload_n (pc' := 34) dX12_undo_1.1.1.1.2 rfl rfl ?_
  refine zW_aload_n (pc' := 35) dX12_undo_1.1.1.2.1 rfl rfl ?_
  refine zG_int (pc' := 38) fg_X12_469 tb0 rfl dX12_undo_1.1.1.2.2 rfl ?_
  refine zV_puti (pc' := 41) fp_X12_185 tb0 rfl dX12_undo_1.1.2.1.1 rfl ?_
  have hS4 := SI_irr (k := 0) (i := 14) (v := h3 0 19) hS3 (Or.inl rfl) (fun _ _ => (hS3.2.2.2.2 _ _ (by decide) (by decide)))
  generalize e4 : zwr h3 0 14 (h3 0 19) = h4 at hS4 ⊢
  refine zW_aload_n (pc' := 42) dX12_undo_1.1.2.1.2 rfl rfl ?_
  refine zW_aload_n (pc' := 43) dX12_undo_1.1.2.2.1 rfl rfl ?_
  refine zG_int (pc' := 46) fg_X12_472 tb0 rfl dX12_undo_1.1.2.2.2 rfl ?_
  refine zV_puti (pc' := 49) fp_X12_106 tb0 rfl dX12_undo_1.2.1.1.1 rfl ?_
  have hS5 := SI_irr (k := 0) (i := 15) (v := h4 0 20) hS4 (Or.inl rfl) (fun _ _ => (hS4.2.2.2.2 _ _ (by decide) (by decide)))
  generalize e5 : zwr h4 0 15 (h4 0 20) = h5 at hS5 ⊢
  refine zW_aload_n (pc' := 50) dX12_undo_1.2.1.1.2 rfl rfl ?_
  refine zG_ref (pc' := 53) 6 fg_X12_25 tb0 rfl dX12_undo_1.2.1.2.1 rfl ?_
  refine zW_aload_n (pc' := 54) dX12_undo_1.2.1.2.2 rfl rfl ?_
  refine zG_ref (pc' := 57) 1 fg_X12_7 tb0 rfl dX12_undo_1.2.2.1.1 rfl ?_
  refine csV2 (pc' := 60) kX12_copies vX12_copies lk_X12_188 ⟨Nat.le_of_ble_eq_true rfl, Nat.le_of_ble_eq_true rfl⟩ rfl (s_X12_copies tb6 tb1 (by decide) (by decide)) dX12_undo_1.2.2.1.2 (Nat.le_of_ble_eq_true rfl) rfl ?_
  rintro _ h6 e6; replace e6 := e6.symm
  have hS6 : SI h6 := by rw [← e6]; exact SI_cpy hS5 rfl (by decide)
  refine zW_aload_n (pc' := 61) dX12_undo_1.2.2.2.1 rfl rfl ?_
  refine zG_ref (pc' := 64) 11 fg_X12_41 tb0 rfl dX12_undo_1.2.2.2.2 rfl ?_
  refine zW_aload_n (pc' := 65) dX12_undo_2.1.1.1.1 rfl rfl ?_
  refine zG_ref (pc' := 68) 10 fg_X12_37 tb0 rfl dX12_undo_2.1.1.1.2 rfl ?_
  have hb : ∀ i, h6 11 i = 0 ∨ h6 11 i = 1 := fun i => by have q := hR.2.2.2.2.2.2.2.2.2.2.2.2.2.1 i; rw [← e6, cpy_ne (by decide), ← e5, zwr_ne (Or.inl (by decide)), ← e4, zwr_ne (Or.inl (by decide)), ← e3, zwr_ne (Or.inl (by decide)), ← e2, zwr_ne (Or.inl (by decide)), ← e1, zwr_ne (Or.inl (by decide))]; omega
  refine csV2 (pc' := 71) kX12_copiesMarks vX12_copiesMarks lk_X12_475 ⟨Nat.le_of_ble_eq_true rfl, Nat.le_of_ble_eq_true rfl⟩ rfl (s_X12_copiesMarks tb11 tb10 (by decide) (by decide) hb) dX12_undo_2.1.1.2.1 (Nat.le_of_ble_eq_true rfl) rfl ?_
  rintro _ h7 e7; replace e7 := e7.symm
  have hS7 : SI h7 := by rw [← e7]; exact SI_cpy hS6 rfl (by decide)
  refine zW_aload_n (pc' := 72) dX12_undo_2.1.1.2.2 rfl rfl ?_
  refine zG_ref (pc' := 75) 7 fg_X12_28 tb0 rfl dX12_undo_2.1.2.1.1 rfl ?_
  refine zW_aload_n (pc' := 76) dX12_undo_2.1.2.1.2 rfl rfl ?_
  refine zG_ref (pc' := 79) 3 fg_X12_16 tb0 rfl dX12_undo_2.1.2.2.1 rfl ?_
  refine csV2 (pc' := 82) kX12_copies vX12_copies lk_X12_188 ⟨Nat.le_of_ble_eq_true rfl, Nat.le_of_ble_eq_true rfl⟩ rfl (s_X12_copies tb7 tb3 (by decide) (by decide)) dX12_undo_2.1.2.2.2 (Nat.le_of_ble_eq_true rfl) rfl ?_
  rintro _ h8 e8; replace e8 := e8.symm
  have hS8 : SI h8 := by rw [← e8]; exact SI_cpy hS7 rfl (by decide)
  refine zW_aload_n (pc' := 83) dX12_undo_2.2.1.1.1 rfl rfl ?_
  refine zG_ref (pc' := 86) 8 fg_X12_31 tb0 rfl dX12_undo_2.2.1.1.2 rfl ?_
  refine zW_aload_n (pc' := 87) dX12_undo_2.2.1.2.1 rfl rfl ?_
  refine zG_ref (pc' := 90) 4 fg_X12_19 tb0 rfl dX12_undo_2.2.1.2.2 rfl ?_
  refine csV2 (pc' := 93) kX12_copies vX12_copies lk_X12_188 ⟨Nat.le_of_ble_eq_true rfl, Nat.le_of_ble_eq_true rfl⟩ rfl (s_X12_copies tb8 tb4 (by decide) (by decide)) dX12_undo_2.2.2.1.1 (Nat.le_of_ble_eq_true rfl) rfl ?_
  rintro _ h9 e9; replace e9 := e9.symm
  have hS9 : SI h9 := by rw [← e9]; exact SI_cpy hS8 rfl (by decide)
  refine zW_aload_n (pc' := 94) dX12_undo_2.2.2.1.2 rfl rfl ?_
  refine zG_ref (pc' := 97) 9 fg_X12_34 tb0 rfl dX12_undo_2.2.2.2.1 rfl ?_
  refine zW_aload_n (pc' := 98) dX12_undo_2.2.2.2.2 rfl rfl ?_
  refine zG_ref (pc' := 101) 5 fg_X12_22 tb0 rfl dX12_undo_3.1.1.1 rfl ?_
  refine csV2 (pc' := 104) kX12_copies vX12_copies lk_X12_188 ⟨Nat.le_of_ble_eq_true rfl, Nat.le_of_ble_eq_true rfl⟩ rfl (s_X12_copies tb9 tb5 (by decide) (by decide)) dX12_undo_3.1.1.2 (Nat.le_of_ble_eq_true rfl) rfl ?_
  rintro _ h10 e10; replace e10 := e10.symm
  have hS10 : SI h10 := by rw [← e10]; exact SI_cpy hS9 rfl (by decide)
  refine zW_aload_n (pc' := 105) dX12_undo_3.1.2 rfl rfl ?_
  have fr : ∀ k i, inW [(0, 11), (0, 12), (0, 13), (0, 14), (0, 15), (1, 999), (3, 999), (4, 999), (5, 999), (10, 999), (0, 21), (0, 23)] k i = false → h10 k i = κ k i := fun k i hl => by rw [← e10, cpy_ne (inW_nc (L := [(0, 11), (0, 12), (0, 13), (0, 14), (0, 15), (1, 999), (3, 999), (4, 999), (5, 999), (10, 999), (0, 21), (0, 23)]) (c := 5) rfl hl), ← e9, cpy_ne (inW_nc (L := [(0, 11), (0, 12), (0, 13), (0, 14), (0, 15), (1, 999), (3, 999), (4, 999), (5, 999), (10, 999), (0, 21), (0, 23)]) (c := 4) rfl hl), ← e8, cpy_ne (inW_nc (L := [(0, 11), (0, 12), (0, 13), (0, 14), (0, 15), (1, 999), (3, 999), (4, 999), (5, 999), (10, 999), (0, 21), (0, 23)]) (c := 3) rfl hl), ← e7, cpy_ne (inW_nc (L := [(0, 11), (0, 12), (0, 13), (0, 14), (0, 15), (1, 999), (3, 999), (4, 999), (5, 999), (10, 999), (0, 21), (0, 23)]) (c := 10) rfl hl), ← e6, cpy_ne (inW_nc (L := [(0, 11), (0, 12), (0, 13), (0, 14), (0, 15), (1, 999), (3, 999), (4, 999), (5, 999), (10, 999), (0, 21), (0, 23)]) (c := 1) rfl hl), ← e5, zwr_ne (inW_ne (L := [(0, 11), (0, 12), (0, 13), (0, 14), (0, 15), (1, 999), (3, 999), (4, 999), (5, 999), (10, 999), (0, 21), (0, 23)]) (k := 0) (i := 15) rfl hl), ← e4, zwr_ne (inW_ne (L := [(0, 11), (0, 12), (0, 13), (0, 14), (0, 15), (1, 999), (3, 999), (4, 999), (5, 999), (10, 999), (0, 21), (0, 23)]) (k := 0) (i := 14) rfl hl), ← e3, zwr_ne (inW_ne (L := [(0, 11), (0, 12), (0, 13), (0, 14), (0, 15), (1, 999), (3, 999), (4, 999), (5, 999), (10, 999), (0, 21), (0, 23)]) (k := 0) (i := 13) rfl hl), ← e2, zwr_ne (inW_ne (L := [(0, 11), (0, 12), (0, 13), (0, 14), (0, 15), (1, 999), (3, 999), (4, 999), (5, 999), (10, 999), (0, 21), (0, 23)]) (k := 0) (i := 12) rfl hl), ← e1, zwr_ne (inW_ne (L := [(0, 11), (0, 12), (0, 13), (0, 14), (0, 15), (1, 999), (3, 999), (4, 999), (5, 999), (10, 999), (0, 21), (0, 23)]) (k := 0) (i := 11) rfl hl)]
  have hCf : KC h10 := KC_low hC (fun k i hk => fr k i (by unfold inW; simp [List.any_cons]; omega))
  have g11 : h10 0 11 = κ 0 16 := by rw [← e10, cpy_ne (by decide), ← e9, cpy_ne (by decide), ← e8, cpy_ne (by decide), ← e7, cpy_ne (by decide), ← e6, cpy_ne (by decide), ← e5, zwr_ne (Or.inr (by decide)), ← e4, zwr_ne (Or.inr (by decide)), ← e3, zwr_ne (Or.inr (by decide)), ← e2, zwr_ne (Or.inr (by decide)), ← e1, zwr_eq]
  have g12 : h10 0 12 = κ 0 17 := by rw [← e10, cpy_ne (by decide), ← e9, cpy_ne (by decide), ← e8, cpy_ne (by decide), ← e7, cpy_ne (by decide), ← e6, cpy_ne (by decide), ← e5, zwr_ne (Or.inr (by decide)), ← e4, zwr_ne (Or.inr (by decide)), ← e3, zwr_ne (Or.inr (by decide)), ← e2, zwr_eq, ← e1, zwr_ne (Or.inr (by decide))]
  have g13 : h10 0 13 = κ 0 18 := by rw [← e10, cpy_ne (by decide), ← e9, cpy_ne (by decide), ← e8, cpy_ne (by decide), ← e7, cpy_ne (by decide), ← e6, cpy_ne (by decide), ← e5, zwr_ne (Or.inr (by decide)), ← e4, zwr_ne (Or.inr (by decide)), ← e3, zwr_eq, ← e2, zwr_ne (Or.inr (by decide)), ← e1, zwr_ne (Or.inr (by decide))]
  have g14 : h10 0 14 = κ 0 19 := by rw [← e10, cpy_ne (by decide), ← e9, cpy_ne (by decide), ← e8, cpy_ne (by decide), ← e7, cpy_ne (by decide), ← e6, cpy_ne (by decide), ← e5, zwr_ne (Or.inr (by decide)), ← e4, zwr_eq, ← e3, zwr_ne (Or.inr (by decide)), ← e2, zwr_ne (Or.inr (by decide)), ← e1, zwr_ne (Or.inr (by decide))]
  have g15 : h10 0 15 = κ 0 20 := by rw [← e10, cpy_ne (by decide), ← e9, cpy_ne (by decide), ← e8, cpy_ne (by decide), ← e7, cpy_ne (by decide), ← e6, cpy_ne (by decide), ← e5, zwr_eq, ← e4, zwr_ne (Or.inr (by decide)), ← e3, zwr_ne (Or.inr (by decide)), ← e2, zwr_ne (Or.inr (by decide)), ← e1, zwr_ne (Or.inr (by decide))]
  have g16 : h10 0 16 = κ 0 16 := by rw [← e10, cpy_ne (by decide), ← e9, cpy_ne (by decide), ← e8, cpy_ne (by decide), ← e7, cpy_ne (by decide), ← e6, cpy_ne (by decide), ← e5, zwr_ne (Or.inr (by decide)), ← e4, zwr_ne (Or.inr (by decide)), ← e3, zwr_ne (Or.inr (by decide)), ← e2, zwr_ne (Or.inr (by decide)), ← e1, zwr_ne (Or.inr (by decide))]
  have g17 : h10 0 17 = κ 0 17 := by rw [← e10, cpy_ne (by decide), ← e9, cpy_ne (by decide), ← e8, cpy_ne (by decide), ← e7, cpy_ne (by decide), ← e6, cpy_ne (by decide), ← e5, zwr_ne (Or.inr (by decide)), ← e4, zwr_ne (Or.inr (by decide)), ← e3, zwr_ne (Or.inr (by decide)), ← e2, zwr_ne (Or.inr (by decide)), ← e1, zwr_ne (Or.inr (by decide))]
  have g18 : h10 0 18 = κ 0 18 := by rw [← e10, cpy_ne (by decide), ← e9, cpy_ne (by decide), ← e8, cpy_ne (by decide), ← e7, cpy_ne (by decide), ← e6, cpy_ne (by decide), ← e5, zwr_ne (Or.inr (by decide)), ← e4, zwr_ne (Or.inr (by decide)), ← e3, zwr_ne (Or.inr (by decide)), ← e2, zwr_ne (Or.inr (by decide)), ← e1, zwr_ne (Or.inr (by decide))]
  have g19 : h10 0 19 = κ 0 19 := by rw [← e10, cpy_ne (by decide), ← e9, cpy_ne (by decide), ← e8, cpy_ne (by decide), ← e7, cpy_ne (by decide), ← e6, cpy_ne (by decide), ← e5, zwr_ne (Or.inr (by decide)), ← e4, zwr_ne (Or.inr (by decide)), ← e3, zwr_ne (Or.inr (by decide)), ← e2, zwr_ne (Or.inr (by decide)), ← e1, zwr_ne (Or.inr (by decide))]
  have g20 : h10 0 20 = κ 0 20 := by rw [← e10, cpy_ne (by decide), ← e9, cpy_ne (by decide), ← e8, cpy_ne (by decide), ← e7, cpy_ne (by decide), ← e6, cpy_ne (by decide), ← e5, zwr_ne (Or.inr (by decide)), ← e4, zwr_ne (Or.inr (by decide)), ← e3, zwr_ne (Or.inr (by decide)), ← e2, zwr_ne (Or.inr (by decide)), ← e1, zwr_ne (Or.inr (by decide))]
  have g21 : h10 0 21 = κ 0 21 := by rw [← e10, cpy_ne (by decide), ← e9, cpy_ne (by decide), ← e8, cpy_ne (by decide), ← e7, cpy_ne (by decide), ← e6, cpy_ne (by decide), ← e5, zwr_ne (Or.inr (by decide)), ← e4, zwr_ne (Or.inr (by decide)), ← e3, zwr_ne (Or.inr (by decide)), ← e2, zwr_ne (Or.inr (by decide)), ← e1, zwr_ne (Or.inr (by decide))]
  have g22 : h10 0 22 = κ 0 22 := by rw [← e10, cpy_ne (by decide), ← e9, cpy_ne (by decide), ← e8, cpy_ne (by decide), ← e7, cpy_ne (by decide), ← e6, cpy_ne (by decide), ← e5, zwr_ne (Or.inr (by decide)), ← e4, zwr_ne (Or.inr (by decide)), ← e3, zwr_ne (Or.inr (by decide)), ← e2, zwr_ne (Or.inr (by decide)), ← e1, zwr_ne (Or.inr (by decide))]
  have g25 : h10 0 25 = κ 0 25 := by rw [← e10, cpy_ne (by decide), ← e9, cpy_ne (by decide), ← e8, cpy_ne (by decide), ← e7, cpy_ne (by decide), ← e6, cpy_ne (by decide), ← e5, zwr_ne (Or.inr (by decide)), ← e4, zwr_ne (Or.inr (by decide)), ← e3, zwr_ne (Or.inr (by decide)), ← e2, zwr_ne (Or.inr (by decide)), ← e1, zwr_ne (Or.inr (by decide))]
  have c3 : ∀ j, j < 12 → h10 3 j = κ 7 j := fun j hj => by rw [← e10, cpy_ne (by decide), ← e9, cpy_ne (by decide), ← e8, cpy_in hj, ← e7, cpy_ne (by decide), ← e6, cpy_ne (by decide), ← e5, zwr_ne (Or.inl (by decide)), ← e4, zwr_ne (Or.inl (by decide)), ← e3, zwr_ne (Or.inl (by decide)), ← e2, zwr_ne (Or.inl (by decide)), ← e1, zwr_ne (Or.inl (by decide))]
  have o3 : ∀ j, 12 ≤ j → h10 3 j = κ 3 j := fun j hj => by rw [← e10, cpy_ne (by decide), ← e9, cpy_ne (by decide), ← e8, cpy_out hj, ← e7, cpy_ne (by decide), ← e6, cpy_ne (by decide), ← e5, zwr_ne (Or.inl (by decide)), ← e4, zwr_ne (Or.inl (by decide)), ← e3, zwr_ne (Or.inl (by decide)), ← e2, zwr_ne (Or.inl (by decide)), ← e1, zwr_ne (Or.inl (by decide))]
  have c4 : ∀ j, j < 13 → h10 4 j = κ 8 j := fun j hj => by rw [← e10, cpy_ne (by decide), ← e9, cpy_in hj, ← e8, cpy_ne (by decide), ← e7, cpy_ne (by decide), ← e6, cpy_ne (by decide), ← e5, zwr_ne (Or.inl (by decide)), ← e4, zwr_ne (Or.inl (by decide)), ← e3, zwr_ne (Or.inl (by decide)), ← e2, zwr_ne (Or.inl (by decide)), ← e1, zwr_ne (Or.inl (by decide))]
  have o4 : ∀ j, 13 ≤ j → h10 4 j = κ 4 j := fun j hj => by rw [← e10, cpy_ne (by decide), ← e9, cpy_out hj, ← e8, cpy_ne (by decide), ← e7, cpy_ne (by decide), ← e6, cpy_ne (by decide), ← e5, zwr_ne (Or.inl (by decide)), ← e4, zwr_ne (Or.inl (by decide)), ← e3, zwr_ne (Or.inl (by decide)), ← e2, zwr_ne (Or.inl (by decide)), ← e1, zwr_ne (Or.inl (by decide))]
  have c5 : ∀ j, j < 130 → h10 5 j = κ 9 j := fun j hj => by rw [← e10, cpy_in hj, ← e9, cpy_ne (by decide), ← e8, cpy_ne (by decide), ← e7, cpy_ne (by decide), ← e6, cpy_ne (by decide), ← e5, zwr_ne (Or.inl (by decide)), ← e4, zwr_ne (Or.inl (by decide)), ← e3, zwr_ne (Or.inl (by decide)), ← e2, zwr_ne (Or.inl (by decide)), ← e1, zwr_ne (Or.inl (by decide))]
  have o5 : ∀ j, 130 ≤ j → h10 5 j = κ 5 j := fun j hj => by rw [← e10, cpy_out hj, ← e9, cpy_ne (by decide), ← e8, cpy_ne (by decide), ← e7, cpy_ne (by decide), ← e6, cpy_ne (by decide), ← e5, zwr_ne (Or.inl (by decide)), ← e4, zwr_ne (Or.inl (by decide)), ← e3, zwr_ne (Or.inl (by decide)), ← e2, zwr_ne (Or.inl (by decide)), ← e1, zwr_ne (Or.inl (by decide))]
  have c7 : h10 7 = κ 7 := funext fun j => by rw [← e10, cpy_ne (by decide), ← e9, cpy_ne (by decide), ← e8, cpy_ne (by decide), ← e7, cpy_ne (by decide), ← e6, cpy_ne (by decide), ← e5, zwr_ne (Or.inl (by decide)), ← e4, zwr_ne (Or.inl (by decide)), ← e3, zwr_ne (Or.inl (by decide)), ← e2, zwr_ne (Or.inl (by decide)), ← e1, zwr_ne (Or.inl (by decide))]
  have c8 : h10 8 = κ 8 := funext fun j => by rw [← e10, cpy_ne (by decide), ← e9, cpy_ne (by decide), ← e8, cpy_ne (by decide), ← e7, cpy_ne (by decide), ← e6, cpy_ne (by decide), ← e5, zwr_ne (Or.inl (by decide)), ← e4, zwr_ne (Or.inl (by decide)), ← e3, zwr_ne (Or.inl (by decide)), ← e2, zwr_ne (Or.inl (by decide)), ← e1, zwr_ne (Or.inl (by decide))]
  have c9 : h10 9 = κ 9 := funext fun j => by rw [← e10, cpy_ne (by decide), ← e9, cpy_ne (by decide), ← e8, cpy_ne (by decide), ← e7, cpy_ne (by decide), ← e6, cpy_ne (by decide), ← e5, zwr_ne (Or.inl (by decide)), ← e4, zwr_ne (Or.inl (by decide)), ← e3, zwr_ne (Or.inl (by decide)), ← e2, zwr_ne (Or.inl (by decide)), ← e1, zwr_ne (Or.inl (by decide))]
  have c10 : ∀ j, j < 256 → h10 10 j = κ 11 j := fun j hj => by rw [← e10, cpy_ne (by decide), ← e9, cpy_ne (by decide), ← e8, cpy_ne (by decide), ← e7, cpy_in hj, ← e6, cpy_ne (by decide), ← e5, zwr_ne (Or.inl (by decide)), ← e4, zwr_ne (Or.inl (by decide)), ← e3, zwr_ne (Or.inl (by decide)), ← e2, zwr_ne (Or.inl (by decide)), ← e1, zwr_ne (Or.inl (by decide))]
  have o10 : ∀ j, 256 ≤ j → h10 10 j = κ 10 j := fun j hj => by rw [← e10, cpy_ne (by decide), ← e9, cpy_ne (by decide), ← e8, cpy_ne (by decide), ← e7, cpy_out hj, ← e6, cpy_ne (by decide), ← e5, zwr_ne (Or.inl (by decide)), ← e4, zwr_ne (Or.inl (by decide)), ← e3, zwr_ne (Or.inl (by decide)), ← e2, zwr_ne (Or.inl (by decide)), ← e1, zwr_ne (Or.inl (by decide))]
  have c11 : h10 11 = κ 11 := funext fun j => by rw [← e10, cpy_ne (by decide), ← e9, cpy_ne (by decide), ← e8, cpy_ne (by decide), ← e7, cpy_ne (by decide), ← e6, cpy_ne (by decide), ← e5, zwr_ne (Or.inl (by decide)), ← e4, zwr_ne (Or.inl (by decide)), ← e3, zwr_ne (Or.inl (by decide)), ← e2, zwr_ne (Or.inl (by decide)), ← e1, zwr_ne (Or.inl (by decide))]
  have c14 : h10 14 = κ 14 := funext fun j => by rw [← e10, cpy_ne (by decide), ← e9, cpy_ne (by decide), ← e8, cpy_ne (by decide), ← e7, cpy_ne (by decide), ← e6, cpy_ne (by decide), ← e5, zwr_ne (Or.inl (by decide)), ← e4, zwr_ne (Or.inl (by decide)), ← e3, zwr_ne (Or.inl (by decide)), ← e2, zwr_ne (Or.inl (by decide)), ← e1, zwr_ne (Or.inl (by decide))]
  have c15 : h10 15 = κ 15 := funext fun j => by rw [← e10, cpy_ne (by decide), ← e9, cpy_ne (by decide), ← e8, cpy_ne (by decide), ← e7, cpy_ne (by decide), ← e6, cpy_ne (by decide), ← e5, zwr_ne (Or.inl (by decide)), ← e4, zwr_ne (Or.inl (by decide)), ← e3, zwr_ne (Or.inl (by decide)), ← e2, zwr_ne (Or.inl (by decide)), ← e1, zwr_ne (Or.inl (by decide))]
  have hRf : KR h10 := by
    unfold KR
    rw [g11, g12, g13, g14, g15, g16, g17, g18, g19, g20, g21, g22, g25, c7, c8, c9, c11, c14, c15]
    refine ⟨k1, k2, k3, k4, k5, a5, (bd2 c4 o4 k6 a6), ?_, a8, a9, a10, (bd2 c5 o5 k8 a11), (bd2 c10 o10 a13 a12), a13, a14, a15, a16, a17⟩
    exact k7.cong3 k4.2 c3 c4 c5
  have hFf : Fm [(0, 11), (0, 12), (0, 13), (0, 14), (0, 15), (1, 999), (3, 999), (4, 999), (5, 999), (10, 999), (0, 21), (0, 23)] κ h10 := ⟨fun k i _ hl => fr k i hl, hS10, hRf, hCf⟩
  refine cvV0 (pc' := 108) kX12_changed vX12_changed lk_X12_215 ⟨Nat.le_of_ble_eq_true rfl, Nat.le_of_ble_eq_true rfl⟩ tb0 vq12 rfl rfl (s_X12_changed hS10 hRf hCf) dX12_undo_3.2.1.1 (Nat.le_of_ble_eq_true rfl) rfl ?_
  rintro r h ⟨hF1, pch⟩
  refine zW_iconst (pc' := 109) dX12_undo_3.2.1.2 rfl ?_
  exact zV_zret rfl (by omega) dX12_undo_3.2.2 ⟨hFf.tr hF1 rfl, ⟨Or.inr ⟨hk1, rfl, (hF1.1 0 11 rfl rfl).trans g11, (hF1.1 0 12 rfl rfl).trans g12, (hF1.1 0 13 rfl rfl).trans g13, (hF1.1 0 15 rfl rfl).trans g15⟩, Or.inl pch⟩⟩
