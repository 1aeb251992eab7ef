abbrev q_X12_does (b : Bd) (κ : Hp) (x1 : Int) (x2 : Int) (x3 : Int) : Int → Hp → Prop := fun r h' => Fr b κ h' ∧ (True)
set_option maxHeartbeats 4000000 in
set_option maxRecDepth 20000 in
theorem s_X12_does {G : Ga} {b : Bd} {κ h : Hp} (hK : KR κ) (hF : Fr b.to κ h) (x1 : Int) (hx1 : 1 ≤ x1 ∧ x1 ≤ 12 ∧ x1 - κ 0 14 ≤ 0) (x2 : Int) (hx2 : 0 ≤ x2 ∧ x2 ≤ 14) (x3 : Int) (hx3 : 0 ≤ x3 ∧ x3 ≤ 14) (hJ : Ok17 b x3) (hR : GivOK κ) : zM G mX12_does yX12_does [.inr (.inr 0), .inl x1, .inl x2, .inl x3] h (q_X12_does b.to κ x1 x2 x3) := by
  have f_0_14 := KRm hK
  refine zM_of [some (.inr (.inr 0)), some (.inl x1), some (.inl x2), some (.inl x3), none, none] 2 rfl rfl (Nat.le_of_ble_eq_true rfl) rfl ?_
  obtain ⟨d1, d2, d3, d4, d5, d6⟩ := hR.1 x1.toNat (by omega) (by omega)
  rw [show x1.toNat - 1 = (x1 - 1).toNat by omega] at d1 d3 d4 d5 d6
  refine zW_aload_n (pc' := 1) dX12_does_0.1.1.1.1 rfl rfl ?_
  refine zG_ref (pc' := 4) 3 fg_X12_16 tb0 rfl dX12_does_0.1.1.1.2 rfl ?_
  refine zW_iload_n (pc' := 5) dX12_does_0.1.1.2.1 rfl rfl ?_
  refine zW_iconst (pc' := 6) dX12_does_0.1.1.2.2 rfl ?_
  refine zW_isub (pc' := 7) dX12_does_0.1.2.1.1 rfl ?_
  refine zA_keyI (pc' := 8) hF rfl (by decide) (by decide) tb3 (by omega) dX12_does_0.1.2.1.2 (by decide) rfl (fun e7 => ?_)
  refine zW_istore (ls' := [_, _, _, _, _, _]) (pc' := 10) dX12_does_0.1.2.2.1 (by decide) rfl rfl rfl ?_
  refine zW_aload_n (pc' := 11) dX12_does_0.1.2.2.2 rfl rfl ?_
  refine zG_ref (pc' := 14) 23 fg_X12_78 tb0 rfl dX12_does_0.2.1.1.1 rfl ?_
  refine zW_aload_n (pc' := 15) dX12_does_0.2.1.1.2 rfl rfl ?_
  refine zG_ref (pc' := 18) 4 fg_X12_19 tb0 rfl dX12_does_0.2.1.2.1 rfl ?_
  refine zW_iload_n (pc' := 19) dX12_does_0.2.1.2.2 rfl rfl ?_
  refine zW_iconst (pc' := 20) dX12_does_0.2.2.1.1 rfl ?_
  refine zW_isub (pc' := 21) dX12_does_0.2.2.1.2 rfl ?_
  refine zA_keyB (KRna hK) (pc' := 22) hF rfl tb4 (by omega) dX12_does_0.2.2.2.1 (by decide) rfl (fun e21 => ?_)
  refine zA_givB (pc' := 23) hR hF (by omega) dX12_does_0.2.2.2.2 rfl (fun e22 => ?_)
  refine zW_istore (ls' := [_, _, _, _, _, _]) (pc' := 25) dX12_does_1.1.1.1.1 (by decide) rfl rfl rfl ?_
  refine zW_iload (pc' := 27) dX12_does_1.1.1.1.2 rfl rfl ?_
  refine zW_bipush (pc' := 29) dX12_does_1.1.1.2.1 rfl rfl ?_
  refine zV_cm_ne (tgt := 43) (pc' := 32) dX12_does_1.1.1.2.2 rfl rfl ⟨by omega, by omega⟩ ⟨by omega, by omega⟩ (fun c29 => ?_) (fun c29 => ?_)
  · refine zW_iload (pc' := 45) dX12_does_1.2.1.2.1 rfl rfl ?_
    refine csI1 (pc' := 48) kX12_isEarly vX12_isEarly lk_X12_170 ⟨Nat.le_of_ble_eq_true rfl, Nat.le_of_ble_eq_true rfl⟩ rfl (s_X12_isEarly hF _ ⟨by omega, by omega⟩) dX12_does_1.2.1.2.2 (Nat.le_of_ble_eq_true rfl) rfl ?_
    rintro r45 z45 ⟨hz45, p45⟩; subst z45
    refine zV_if_eq (tgt := 64) (pc' := 51) dX12_does_1.2.2.1.1 rfl rfl ⟨by omega, by omega⟩ (fun c48 => ?_) (fun c48 => ?_)
    · refine zW_iload (pc' := 66) dX12_does_2.1.2.1.1 rfl rfl ?_
      refine zW_bipush (pc' := 68) dX12_does_2.1.2.1.2 rfl rfl ?_
      refine zV_cm_ne (tgt := 82) (pc' := 71) dX12_does_2.1.2.2.1 rfl rfl ⟨by omega, by omega⟩ ⟨by omega, by omega⟩ (fun c68 => ?_) (fun c68 => ?_)
      · refine zW_aload_n (pc' := 83) dX12_does_2.2.2.1.2 rfl rfl ?_
        refine zW_iload (pc' := 85) dX12_does_2.2.2.2.1 rfl rfl ?_
        refine zW_aload_n (pc' := 86) dX12_does_2.2.2.2.2 rfl rfl ?_
        refine zG_ref (pc' := 89) 4 fg_X12_19 tb0 rfl dX12_does_3.1.1.1.1 rfl ?_
        refine zW_iload_n (pc' := 90) dX12_does_3.1.1.1.2 rfl rfl ?_
        refine zW_iconst (pc' := 91) dX12_does_3.1.1.2 rfl ?_
        refine zW_isub (pc' := 92) dX12_does_3.1.2.1.1 rfl ?_
        refine zA_keyB (KRna hK) (pc' := 93) hF rfl tb4 (by omega) dX12_does_3.1.2.1.2 (by decide) rfl (fun e92 => ?_)
        refine zW_aload_n (pc' := 94) dX12_does_3.1.2.2 rfl rfl ?_
        refine zW_iload_n (pc' := 95) dX12_does_3.2.1.1.1 rfl rfl ?_
        refine cvI1 (pc' := 98) kX12_numberMany vX12_numberMany lk_X12_202 ⟨Nat.le_of_ble_eq_true rfl, Nat.le_of_ble_eq_true rfl⟩ tb0 vq12 rfl rfl (s_X12_numberMany hK hF _ ⟨by omega, by omega⟩) dX12_does_3.2.1.1.2 (Nat.le_of_ble_eq_true rfl) rfl ?_
        rintro r95 z95 ⟨hz95, p95⟩; subst z95
        refine zW_iload_n (pc' := 99) dX12_does_3.2.1.2 rfl rfl ?_
        refine zW_iload_n (pc' := 100) dX12_does_3.2.2.1.1 rfl rfl ?_
        refine cvV5 (pc' := 103) kX12_late vX12_late lk_X12_368 ⟨Nat.le_of_ble_eq_true rfl, Nat.le_of_ble_eq_true rfl⟩ tb0 vq12 rfl rfl (s_X12_late hK hF _ ⟨by omega, by omega⟩ _ ⟨by omega, by omega⟩ _ ⟨by omega, by omega⟩ _ ⟨by omega, by omega⟩ _ ⟨by omega, by omega⟩ hJ hR (fun q => d5 q) (fun q => by obtain ⟨t1, t2, t3⟩ := d6 q; exact ⟨by omega, by omega, fun i hi hl => t3 i hi (by omega)⟩)) dX12_does_3.2.2.1.2 (Nat.le_of_ble_eq_true rfl) rfl ?_
        rintro r100 h ⟨hF, p100⟩
        exact zV_vret rfl dX12_does_3.2.2.2 ⟨hF, trivial⟩
      · refine zW_aload_n (pc' := 72) dX12_does_2.1.2.2.2 rfl rfl ?_
        refine zW_iload (pc' := 74) dX12_does_2.2.1.1.1 rfl rfl ?_
        refine zW_iload_n (pc' := 75) dX12_does_2.2.1.1.2 rfl rfl ?_
        refine zW_iload_n (pc' := 76) dX12_does_2.2.1.2.1 rfl rfl ?_
        refine cvV3 (pc' := 79) kX12_votes vX12_votes lk_X12_365 ⟨Nat.le_of_ble_eq_true rfl, Nat.le_of_ble_eq_true rfl⟩ tb0 vq12 rfl rfl (s_X12_votes hK hF _ ⟨by omega, by omega⟩ _ ⟨by omega, by omega⟩ _ ⟨by omega, by omega⟩ hJ) dX12_does_2.2.1.2.2 (Nat.le_of_ble_eq_true rfl) rfl ?_
        rintro r76 h ⟨hF, p76⟩
        refine zV_goto 103 dX12_does_2.2.2.1.1 rfl ?_
        exact zV_vret rfl dX12_does_3.2.2.2 ⟨hF, trivial⟩
    · refine zW_aload_n (pc' := 52) dX12_does_1.2.2.1.2 rfl rfl ?_
      refine zW_iload (pc' := 54) dX12_does_1.2.2.2.1 rfl rfl ?_
      refine zW_iload (pc' := 56) dX12_does_1.2.2.2.2 rfl rfl ?_
      refine zW_iload_n (pc' := 57) dX12_does_2.1.1.1.1 rfl rfl ?_
      refine zW_iload_n (pc' := 58) dX12_does_2.1.1.1.2 rfl rfl ?_
      refine cvV4 (pc' := 61) kX12_early vX12_early lk_X12_362 ⟨Nat.le_of_ble_eq_true rfl, Nat.le_of_ble_eq_true rfl⟩ tb0 vq12 rfl rfl (s_X12_early hK hF _ ⟨by omega, by omega⟩ _ _ ⟨by omega, by omega⟩ _ ⟨by omega, by omega⟩ hJ (fun q => d4 q)) dX12_does_2.1.1.2.1 (Nat.le_of_ble_eq_true rfl) rfl ?_
      rintro r58 h ⟨hF, p58⟩
      refine zV_goto 103 dX12_does_2.1.1.2.2 rfl ?_
      exact zV_vret rfl dX12_does_3.2.2.2 ⟨hF, trivial⟩
  · refine zW_aload_n (pc' := 33) dX12_does_1.1.2.1.1 rfl rfl ?_
    refine zW_iload (pc' := 35) dX12_does_1.1.2.1.2 rfl rfl ?_
    refine zW_iload_n (pc' := 36) dX12_does_1.1.2.2.1 rfl rfl ?_
    refine zW_iload_n (pc' := 37) dX12_does_1.1.2.2.2 rfl rfl ?_
    refine cvV3 (pc' := 40) kX12_fills vX12_fills lk_X12_358 ⟨Nat.le_of_ble_eq_true rfl, Nat.le_of_ble_eq_true rfl⟩ tb0 vq12 rfl rfl (s_X12_fills hK hF _ _ ⟨by omega, by omega⟩ _ ⟨by omega, by omega⟩ hJ) dX12_does_1.2.1.1.1 (Nat.le_of_ble_eq_true rfl) rfl ?_
    rintro r37 h ⟨hF, p37⟩
    refine zV_goto 103 dX12_does_1.2.1.1.2 rfl ?_
    exact zV_vret rfl dX12_does_3.2.2.2 ⟨hF, trivial⟩

theorem s_X12_copies {G : Ga} {h : Hp} {a c n : Nat} (ha : tab[a]? = some (1, 0, [n])) (hc : tab[c]? = some (1, 0, [n])) (hn : n < 2147483648) (hne : a ≠ c) : zM G mX12_copies yX12_copies [.inr (.inr a), .inr (.inr c)] h (fun _ h' => h' = cpy h a c n) := by
  have main : ∀ N : Nat, ∀ i : Int, 0 ≤ i ∧ i ≤ n → (n : Int) - i < N → zV G mX12_copies (fun _ h' => h' = cpy h a c n) 2 [some (.inr (.inr a)), some (.inr (.inr c)), some (.inl i)] [] (cpy h a c i.toNat) := by
    intro N
    induction N with
    | zero => intro i h1 h2; exfalso; omega
    | succ N ih =>
      intro i h1 h2
      refine zW_iload_n (pc' := 3) dX12_copies_0.1.1.2.1 rfl rfl ?_
      refine zW_aload_n (pc' := 4) dX12_copies_0.1.1.2.2 rfl rfl ?_
      refine zV_alen (pc' := 5) ha (by decide) dX12_copies_0.1.2.1.1 rfl ?_
      refine zV_cm_ge (tgt := 20) (pc' := 8) dX12_copies_0.1.2.1.2 rfl rfl ⟨by omega, by omega⟩ ⟨by omega, by omega⟩ (fun c5 => ?_) (fun c5 => ?_)
      · refine zV_vret rfl dX12_copies_0.2.2.2 ?_
        rw [show i.toNat = n by omega]
      · refine zW_aload_n (pc' := 9) dX12_copies_0.1.2.2.1 rfl rfl ?_
        refine zW_iload_n (pc' := 10) dX12_copies_0.1.2.2.2 rfl rfl ?_
        refine zW_aload_n (pc' := 11) dX12_copies_0.2.1.1.1 rfl rfl ?_
        refine zW_iload_n (pc' := 12) dX12_copies_0.2.1.1.2 rfl rfl ?_
        refine zV_iald (pc' := 13) ha ⟨by omega, by omega⟩ dX12_copies_0.2.1.2.1 hn rfl ?_
        refine zV_iast (pc' := 14) hc ⟨by omega, by omega⟩ dX12_copies_0.2.1.2.2 hn rfl ?_
        rw [cpy_s hne]
        refine zW_iinc (ls' := [_, _, _]) (pc' := 17) dX12_copies_0.2.2.1.1 rfl (by decide) rfl rfl rfl ?_
        refine zV_goto 2 dX12_copies_0.2.2.1.2 rfl ?_
        rw [show i.toNat + 1 = (i + 1).toNat by omega]
        exact ih (i + 1) (by omega) (by omega)
  refine zM_of [some (.inr (.inr a)), some (.inr (.inr c)), none] 1 rfl rfl (Nat.le_of_ble_eq_true rfl) rfl ?_
  refine zW_iconst (pc' := 1) dX12_copies_0.1.1.1.1 rfl ?_
  refine zW_istore_n (ls' := [_, _, _]) (pc' := 2) dX12_copies_0.1.1.1.2 (by decide) rfl rfl rfl ?_
  have := main (n + 1) 0 (by omega) (by omega)
  rw [show (0 : Int).toNat = 0 from rfl, cpy_0] at this
  exact this

abbrev q_X12_leaves (b : Bd) (κ : Hp) : Int → Hp → Prop := fun _ h' => Fr b.fo κ h' ∧ (∀ i, i < 130 → h' 23 i = κ 5 i)
def LeavesOK (b : Bd) : Prop := ∀ {G : Ga} {κ h : Hp}, KR κ → Fr b.fo κ h → zM G mX12_leaves yX12_leaves [.inr (.inr 0)] h (q_X12_leaves b κ)

abbrev q_X12_leavesBy (b : Bd) (κ : Hp) (x1 : Int) (x2 : Int) : Int → Hp → Prop := fun r h' => Fr b κ h' ∧ ((0 ≤ r) ∧ (r ≤ 14))
set_option maxHeartbeats 4000000 in
set_option maxRecDepth 20000 in
theorem s_X12_leavesBy {G : Ga} {b : Bd} {κ h : Hp} (hK : KR κ) (hF : Fr b.to κ h) (x1 : Int) (hx1 : 1 ≤ x1 ∧ x1 ≤ 13) (x2 : Int) (hx2 : 0 ≤ x2 ∧ x2 ≤ 14) (hJ : Ok17 b 13) (hR : GivOK κ) : zM G mX12_leavesBy yX12_leavesBy [.inr (.inr 0), .inl x1, .inl x2] h (q_X12_leavesBy b.to κ x1 x2) := by
  have f_0_14 := KRm hK
  have main : ∀ N : Nat, (∀ (v3 v4 : Int) (h : Hp), Fr b.to κ h → (0 ≤ v3 ∧ v3 ≤ 14) → (1 ≤ v4 ∧ v4 ≤ 13) → 7728 + 24 * (13 - v4) + 23 < (N : Int) → zV G mX12_leavesBy (q_X12_leavesBy b.to κ x1 x2) 5 [some (.inr (.inr 0)), some (.inl x1), some (.inl x2), some (.inl v3), some (.inl v4), none] [] h) := by
    intro N
    induction N with
    | zero =>
      intro v3 v4 h hF g0 g1 hm
      exfalso; omega
    | succ N ih =>
      have k5 := ih
      intro v3 v4 h hF g0 g1 hm
      refine zW_iload (pc' := 7) dX12_leavesBy_0.1.2.1.1 rfl rfl ?_
      refine zW_aload_n (pc' := 8) dX12_leavesBy_0.1.2.1.2 rfl rfl ?_
      refine zG_key (pc' := 11) hF rfl fg_X12_185 tb0 rfl dX12_leavesBy_0.1.2.2.1 rfl ?_
      refine zV_cm_gt (tgt := 47) (pc' := 14) dX12_leavesBy_0.1.2.2.2 rfl rfl ⟨by omega, by omega⟩ ⟨by omega, by omega⟩ (fun c11 => ?_) (fun c11 => ?_)
      · refine zW_iload_n (pc' := 48) dX12_leavesBy_1.2.2.1 rfl rfl ?_
        exact zV_iret rfl dX12_leavesBy_1.2.2.2 ⟨hF, by omega⟩
      · refine zW_iload_n (pc' := 15) dX12_leavesBy_0.2.1.1.1 rfl rfl ?_
        refine zW_bipush (pc' := 17) dX12_leavesBy_0.2.1.1.2 rfl rfl ?_
        refine zV_cm_ne (tgt := 25) (pc' := 20) dX12_leavesBy_0.2.1.2.1 rfl rfl ⟨by omega, by omega⟩ ⟨by omega, by omega⟩ (fun c17 => ?_) (fun c17 => ?_)
        · refine zW_bipush (pc' := 27) dX12_leavesBy_0.2.2.1.2 rfl rfl ?_
          refine zW_istore (ls' := [_, _, _, _, _, _]) (pc' := 29) dX12_leavesBy_0.2.2.2.1 (by decide) rfl rfl rfl ?_
          refine zW_aload_n (pc' := 30) dX12_leavesBy_0.2.2.2.2 rfl rfl ?_
          refine zW_iload (pc' := 32) dX12_leavesBy_1.1.1.1.1 rfl rfl ?_
          refine zW_iload_n (pc' := 33) dX12_leavesBy_1.1.1.1.2 rfl rfl ?_
          refine zW_iload (pc' := 35) dX12_leavesBy_1.1.1.2 rfl rfl ?_
          refine cvV3 (pc' := 38) kX12_does vX12_does lk_X12_371 ⟨Nat.le_of_ble_eq_true rfl, Nat.le_of_ble_eq_true rfl⟩ tb0 vq12 rfl rfl (s_X12_does hK hF _ ⟨by omega, by omega, by omega⟩ _ ⟨by omega, by omega⟩ _ ⟨by omega, by omega⟩ (hJ.mono (by omega)) hR) dX12_leavesBy_1.1.2.1 (Nat.le_of_ble_eq_true rfl) rfl ?_
          rintro r35 h ⟨hF, p35⟩
          refine zW_iload (pc' := 40) dX12_leavesBy_1.1.2.2 rfl rfl ?_
          refine zW_istore_n (ls' := [_, _, _, _, _, _]) (pc' := 41) dX12_leavesBy_1.2.1.1.1 (by decide) rfl rfl rfl ?_
          refine zW_iinc (ls' := [_, _, _, _, _, _]) (pc' := 44) dX12_leavesBy_1.2.1.1.2 rfl (by decide) rfl rfl rfl ?_
          refine zV_goto 5 dX12_leavesBy_1.2.1.2 rfl ?_
          refine zV_clr 5 (ls' := [_, _, _, _, _, _]) rfl ?_
          exact k5 _ _ _ hF (by omega) (by omega) (by omega)
        · refine zW_bipush (pc' := 22) dX12_leavesBy_0.2.1.2.2 rfl rfl ?_
          refine zV_goto 27 dX12_leavesBy_0.2.2.1.1 rfl ?_
          refine zW_istore (ls' := [_, _, _, _, _, _]) (pc' := 29) dX12_leavesBy_0.2.2.2.1 (by decide) rfl rfl rfl ?_
          refine zW_aload_n (pc' := 30) dX12_leavesBy_0.2.2.2.2 rfl rfl ?_
          refine zW_iload (pc' := 32) dX12_leavesBy_1.1.1.1.1 rfl rfl ?_
          refine zW_iload_n (pc' := 33) dX12_leavesBy_1.1.1.1.2 rfl rfl ?_
          refine zW_iload (pc' := 35) dX12_leavesBy_1.1.1.2 rfl rfl ?_
          refine cvV3 (pc' := 38) kX12_does vX12_does lk_X12_371 ⟨Nat.le_of_ble_eq_true rfl, Nat.le_of_ble_eq_true rfl⟩ tb0 vq12 rfl rfl (s_X12_does hK hF _ ⟨by omega, by omega, by omega⟩ _ ⟨by omega, by omega⟩ _ ⟨by omega, by omega⟩ (hJ.mono (by omega)) hR) dX12_leavesBy_1.1.2.1 (Nat.le_of_ble_eq_true rfl) rfl ?_
          rintro r35 h ⟨hF, p35⟩
          refine zW_iload (pc' := 40) dX12_leavesBy_1.1.2.2 rfl rfl ?_
          refine zW_istore_n (ls' := [_, _, _, _, _, _]) (pc' := 41) dX12_leavesBy_1.2.1.1.1 (by decide) rfl rfl rfl ?_
          refine zW_iinc (ls' := [_, _, _, _, _, _]) (pc' := 44) dX12_leavesBy_1.2.1.1.2 rfl (by decide) rfl rfl rfl ?_
          refine zV_goto 5 dX12_leavesBy_1.2.1.2 rfl ?_
          refine zV_clr 5 (ls' := [_, _, _, _, _, _]) rfl ?_
          exact k5 _ _ _ hF (by omega) (by omega) (by omega)
  refine zM_of [some (.inr (.inr 0)), some (.inl x1), some (.inl x2), none, none, none] 3 rfl rfl (Nat.le_of_ble_eq_true rfl) rfl ?_
  refine zW_iload_n (pc' := 1) dX12_leavesBy_0.1.1.1.1 rfl rfl ?_
  refine zW_istore_n (ls' := [_, _, _, _, _, _]) (pc' := 2) dX12_leavesBy_0.1.1.1.2 (by decide) rfl rfl rfl ?_
  refine zW_iload_n (pc' := 3) dX12_leavesBy_0.1.1.2.1 rfl rfl ?_
  refine zW_istore (ls' := [_, _, _, _, _, _]) (pc' := 5) dX12_leavesBy_0.1.1.2.2 (by decide) rfl rfl rfl ?_
  exact (main 10000000000000000000000000000000000000000) _ _ _ hF (by omega) (by omega) (by omega)
