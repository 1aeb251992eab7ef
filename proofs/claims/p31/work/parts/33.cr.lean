theorem KCdt {κ : Hp} (h : KC κ) : ∀ j, 0 ≤ κ 51 j ∧ κ 51 j ≤ 64 := h.2.2.2.2.2.2.2.2.2
theorem zAmD {G : Ga} {μ : Mt} {Q : Int → Hp → Prop} {pc pc' : Nat} {ls : Lo} {st : List Sv} {h κ : Hp} {L : List (Nat × Nat)} {i : Int} (hF : Fm L κ h) (ht : tab[51]? = some (1, 0, [14])) (hi : 0 ≤ i ∧ i < 14) (hd : decode μ.1 pc = .ok (.iaload, 1)) (hn : pc + 1 = pc') (kk : 0 ≤ h 51 i.toNat ∧ h 51 i.toNat ≤ 64 → zV G μ Q pc' ls (.inl (h 51 i.toNat) :: st) h) : zV G μ Q pc ls (.inl i :: .inr (.inr 51) :: st) h :=
  zV_iald ht hi hd (by decide) hn (kk (KCdt hF.2.2.2 _))








