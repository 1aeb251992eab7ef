abbrev q_X12_does (b : Bool) (κ : Hp) (x1 : Int) (x2 : Int) (x3 : Int) : Int → Hp → Prop := fun r h' => Fr b κ h' ∧ (True)
set_option maxHeartbeats 4000000 in
set_option maxRecDepth 20000 in
theorem s_X12_does {G : Ga} {κ h : Hp} (hK : KR κ) (hF : Fr true κ h) (x1 : Int) (hx1 : 1 ≤ x1 ∧ x1 ≤ 12 ∧ x1 - κ 0 14 ≤ 0) (x2 : Int) (hx2 : 0 ≤ x2 ∧ x2 ≤ 14) (x3 : Int) (hx3 : 0 ≤ x3 ∧ x3 ≤ 14) (hR : GivOK κ) : zM G mX12_does yX12_does [.inr (.inr 0), .inl x1, .inl x2, .inl x3] h (q_X12_does true κ x1 x2 x3) := by
  have f_0_14 := KRm hK
  refine zM_of [some (.inr (.inr 0)), some (.inl x1), some (.inl x2), some (.inl x3), none, none] 2 rfl rfl (Nat.le_of_ble_eq_true rfl) rfl ?_
  obtain ⟨d1, d2, d3, d4, d5, d6⟩ := hR.1 x1.toNat (by omega) (by omega)
  rw [show x1.toNat - 1 = (x1 - 1).toNat by omega] at d1 d3 d4 d5 d6
  refine zW_aload_n (pc' := 1) dX12_does_0.1.1.1.1 rfl rfl ?_
  refine zG_ref (pc' := 4) 3 fg_X12_16 tb0 rfl dX12_does_0.1.1.1.2 rfl ?_
  refine zW_iload_n (pc' := 5) dX12_does_0.1.1.2.1 rfl rfl ?_
  refine zW_iconst (pc' := 6) dX12_does_0.1.1.2.2 rfl ?_
  refine zW_isub (pc' := 7) dX12_does_0.1.2.1.1 rfl ?_
  refine zA_keyI (pc' := 8) hF rfl (by decide) (by decide) tb3 (by omega) dX12_does_0.1.2.1.2 (by decide) rfl (fun e7 => ?_)
  refine zW_istore (ls' := [_, _, _, _, _, _]) (pc' := 10) dX12_does_0.1.2.2.1 (by decide) rfl rfl rfl ?_
  refine zW_aload_n (pc' := 11) dX12_does_0.1.2.2.2 rfl rfl ?_
  refine zG_ref (pc' := 14) 23 fg_X12_78 tb0 rfl dX12_does_0.2.1.1.1 rfl ?_
  refine zW_aload_n (pc' := 15) dX12_does_0.2.1.1.2 rfl rfl ?_
  refine zG_ref (pc' := 18) 4 fg_X12_19 tb0 rfl dX12_does_0.2.1.2.1 rfl ?_
  refine zW_iload_n (pc' := 19) dX12_does_0.2.1.2.2 rfl rfl ?_
  refine zW_iconst (pc' := 20) dX12_does_0.2.2.1.1 rfl ?_
  refine zW_isub (pc' := 21) dX12_does_0.2.2.1.2 rfl ?_
  refine zA_keyB (KRna hK) (pc' := 22) hF rfl tb4 (by omega) dX12_does_0.2.2.2.1 (by decide) rfl (fun e21 => ?_)
  refine zA_givB (pc' := 23) hR hF (by omega) dX12_does_0.2.2.2.2 rfl (fun e22 => ?_)
  refine zW_istore (ls' := [_, _, _, _, _, _]) (pc' := 25) dX12_does_1.1.1.1.1 (by decide) rfl rfl rfl ?_
  refine zW_iload (pc' := 27) dX12_does_1.1.1.1.2 rfl rfl ?_
  refine zW_bipush (pc' := 29) dX12_does_1.1.1.2.1 rfl rfl ?_
  refine zV_cm_ne (tgt := 43) (pc' := 32) dX12_does_1.1.1.2.2 rfl rfl ⟨by omega, by omega⟩ ⟨by omega, by omega⟩ (fun c29 => ?_) (fun c29 => ?_)
  · refine zW_iload (pc' := 45) dX12_does_1.2.1.2.1 rfl rfl ?_
    refine csI1 (pc' := 48) kX12_isEarly vX12_isEarly lk_X12_170 ⟨Nat.le_of_ble_eq_true rfl, Nat.le_of_ble_eq_true rfl⟩ rfl (s_X12_isEarly hF _ ⟨by omega, by omega⟩) dX12_does_1.2.1.2.2 (Nat.le_of_ble_eq_true rfl) rfl ?_
    rintro r45 z45 ⟨hz45, p45⟩; subst z45
    refine zV_if_eq (tgt := 64) (pc' := 51) dX12_does_1.2.2.1.1 rfl rfl ⟨by omega, by omega⟩ (fun c48 => ?_) (fun c48 => ?_)
    · refine zW_iload (pc' := 66) dX12_does_2.1.2.1.1 rfl rfl ?_
      refine zW_bipush (pc' := 68) dX12_does_2.1.2.1.2 rfl rfl ?_
      refine zV_cm_ne (tgt := 82) (pc' := 71) dX12_does_2.1.2.2.1 rfl rfl ⟨by omega, by omega⟩ ⟨by omega, by omega⟩ (fun c68 => ?_) (fun c68 => ?_)
      · refine zW_aload_n (pc' := 83) dX12_does_2.2.2.1.2 rfl rfl ?_
        refine zW_iload (pc' := 85) dX12_does_2.2.2.2.1 rfl rfl ?_
        refine zW_aload_n (pc' := 86) dX12_does_2.2.2.2.2 rfl rfl ?_
        refine zG_ref (pc' := 89) 4 fg_X12_19 tb0 rfl dX12_does_3.1.1.1.1 rfl ?_
        refine zW_iload_n (pc' := 90) dX12_does_3.1.1.1.2 rfl rfl ?_
        refine zW_iconst (pc' := 91) dX12_does_3.1.1.2 rfl ?_
        refine zW_isub (pc' := 92) dX12_does_3.1.2.1.1 rfl ?_
        refine zA_keyB (KRna hK) (pc' := 93) hF rfl tb4 (by omega) dX12_does_3.1.2.1.2 (by decide) rfl (fun e92 => ?_)
        refine zW_aload_n (pc' := 94) dX12_does_3.1.2.2 rfl rfl ?_
        refine zW_iload_n (pc' := 95) dX12_does_3.2.1.1.1 rfl rfl ?_
        refine cvI1 (pc' := 98) kX12_numberMany vX12_numberMany lk_X12_202 ⟨Nat.le_of_ble_eq_true rfl, Nat.le_of_ble_eq_true rfl⟩ tb0 vq12 rfl rfl (s_X12_numberMany hK hF _ ⟨by omega, by omega⟩) dX12_does_3.2.1.1.2 (Nat.le_of_ble_eq_true rfl) rfl ?_
        rintro r95 z95 ⟨hz95, p95⟩; subst z95
        refine zW_iload_n (pc' := 99) dX12_does_3.2.1.2 rfl rfl ?_
        refine zW_iload_n (pc' := 100) dX12_does_3.2.2.1.1 rfl rfl ?_
        refine cvV5 (pc' := 103) kX12_late vX12_late lk_X12_368 ⟨Nat.le_of_ble_eq_true rfl, Nat.le_of_ble_eq_true rfl⟩ tb0 vq12 rfl rfl (s_X12_late hK hF _ ⟨by omega, by omega⟩ _ ⟨by omega, by omega⟩ _ ⟨by omega, by omega⟩ _ ⟨by omega, by omega⟩ _ ⟨by omega, by omega⟩ hR (fun q => d5 q) (fun q => by obtain ⟨t1, t2, t3⟩ := d6 q; exact ⟨by omega, by omega, fun i hi hl => t3 i hi (by omega)⟩)) dX12_does_3.2.2.1.2 (Nat.le_of_ble_eq_true rfl) rfl ?_
        rintro r100 h ⟨hF, p100⟩
        exact zV_vret rfl dX12_does_3.2.2.2 ⟨hF, trivial⟩
      · refine zW_aload_n (pc' := 72) dX12_does_2.1.2.2.2 rfl rfl ?_
        refine zW_iload (pc' := 74) dX12_does_2.2.1.1.1 rfl rfl ?_
        refine zW_iload_n (pc' := 75) dX12_does_2.2.1.1.2 rfl rfl ?_
        refine zW_iload_n (pc' := 76) dX12_does_2.2.1.2.1 rfl rfl ?_
        refine cvV3 (pc' := 79) kX12_votes vX12_votes lk_X12_365 ⟨Nat.le_of_ble_eq_true rfl, Nat.le_of_ble_eq_true rfl⟩ tb0 vq12 rfl rfl (s_X12_votes hK hF _ ⟨by omega, by omega⟩ _ ⟨by omega, by omega⟩ _ ⟨by omega, by omega⟩) dX12_does_2.2.1.2.2 (Nat.le_of_ble_eq_true rfl) rfl ?_
        rintro r76 h ⟨hF, p76⟩
        refine zV_goto 103 dX12_does_2.2.2.1.1 rfl ?_
        exact zV_vret rfl dX12_does_3.2.2.2 ⟨hF, trivial⟩
    · refine zW_aload_n (pc' := 52) dX12_does_1.2.2.1.2 rfl rfl ?_
      refine zW_iload (pc' := 54) dX12_does_1.2.2.2.1 rfl rfl ?_
      refine zW_iload (pc' := 56) dX12_does_1.2.2.2.2 rfl rfl ?_
      refine zW_iload_n (pc' := 57) dX12_does_2.1.1.1.1 rfl rfl ?_
      refine zW_iload_n (pc' := 58) dX12_does_2.1.1.1.2 rfl rfl ?_
      refine cvV4 (pc' := 61) kX12_early vX12_early lk_X12_362 ⟨Nat.le_of_ble_eq_true rfl, Nat.le_of_ble_eq_true rfl⟩ tb0 vq12 rfl rfl (s_X12_early hK hF _ ⟨by omega, by omega⟩ _ _ ⟨by omega, by omega⟩ _ ⟨by omega, by omega⟩ (fun q => d4 q)) dX12_does_2.1.1.2.1 (Nat.le_of_ble_eq_true rfl) rfl ?_
      rintro r58 h ⟨hF, p58⟩
      refine zV_goto 103 dX12_does_2.1.1.2.2 rfl ?_
      exact zV_vret rfl dX12_does_3.2.2.2 ⟨hF, trivial⟩
  · refine zW_aload_n (pc' := 33) dX12_does_1.1.2.1.1 rfl rfl ?_
    refine zW_iload (pc' := 35) dX12_does_1.1.2.1.2 rfl rfl ?_
    refine zW_iload_n (pc' := 36) dX12_does_1.1.2.2.1 rfl rfl ?_
    refine zW_iload_n (pc' := 37) dX12_does_1.1.2.2.2 rfl rfl ?_
    refine cvV3 (pc' := 40) kX12_fills vX12_fills lk_X12_358 ⟨Nat.le_of_ble_eq_true rfl, Nat.le_of_ble_eq_true rfl⟩ tb0 vq12 rfl rfl (s_X12_fills hK hF _ _ ⟨by omega, by omega⟩ _ ⟨by omega, by omega⟩) dX12_does_1.2.1.1.1 (Nat.le_of_ble_eq_true rfl) rfl ?_
    rintro r37 h ⟨hF, p37⟩
    refine zV_goto 103 dX12_does_1.2.1.1.2 rfl ?_
    exact zV_vret rfl dX12_does_3.2.2.2 ⟨hF, trivial⟩

theorem s_X12_copies {G : Ga} {h : Hp} {a c n : Nat} (ha : tab[a]? = some (1, 0, [n])) (hc : tab[c]? = some (1, 0, [n])) (hn : n < 2147483648) (hne : a ≠ c) : zM G mX12_copies yX12_copies [.inr (.inr a), .inr (.inr c)] h (fun _ h' => h' = cpy h a c n) := by
  have main : ∀ N : Nat, ∀ i : Int, 0 ≤ i ∧ i ≤ n → (n : Int) - i < N → zV G mX12_copies (fun _ h' => h' = cpy h a c n) 2 [some (.inr (.inr a)), some (.inr (.inr c)), some (.inl i)] [] (cpy h a c i.toNat) := by
    intro N
    induction N with
    | zero => intro i h1 h2; exfalso; omega
    | succ N ih =>
      intro i h1 h2
      refine zW_iload_n (pc' := 3) dX12_copies_0.1.1.2.1 rfl rfl ?_
      refine zW_aload_n (pc' := 4) dX12_copies_0.1.1.2.2 rfl rfl ?_
      refine zV_alen (pc' := 5) ha (by decide) dX12_copies_0.1.2.1.1 rfl ?_
      refine zV_cm_ge (tgt := 20) (pc' := 8) dX12_copies_0.1.2.1.2 rfl rfl ⟨by omega, by omega⟩ ⟨by omega, by omega⟩ (fun c5 => ?_) (fun c5 => ?_)
      · refine zV_vret rfl dX12_copies_0.2.2.2 ?_
        rw [show i.toNat = n by omega]
      · refine zW_aload_n (pc' := 9) dX12_copies_0.1.2.2.1 rfl rfl ?_
        refine zW_iload_n (pc' := 10) dX12_copies_0.1.2.2.2 rfl rfl ?_
        refine zW_aload_n (pc' := 11) dX12_copies_0.2.1.1.1 rfl rfl ?_
        refine zW_iload_n (pc' := 12) dX12_copies_0.2.1.1.2 rfl rfl ?_
        refine zV_iald (pc' := 13) ha ⟨by omega, by omega⟩ dX12_copies_0.2.1.2.1 hn rfl ?_
        refine zV_iast (pc' := 14) hc ⟨by omega, by omega⟩ dX12_copies_0.2.1.2.2 hn rfl ?_
        rw [cpy_s hne]
        refine zW_iinc (ls' := [_, _, _]) (pc' := 17) dX12_copies_0.2.2.1.1 rfl (by decide) rfl rfl rfl ?_
        refine zV_goto 2 dX12_copies_0.2.2.1.2 rfl ?_
        rw [show i.toNat + 1 = (i + 1).toNat by omega]
        exact ih (i + 1) (by omega) (by omega)
  refine zM_of [some (.inr (.inr a)), some (.inr (.inr c)), none] 1 rfl rfl (Nat.le_of_ble_eq_true rfl) rfl ?_
  refine zW_iconst (pc' := 1) dX12_copies_0.1.1.1.1 rfl ?_
  refine zW_istore_n (ls' := [_, _, _]) (pc' := 2) dX12_copies_0.1.1.1.2 (by decide) rfl rfl rfl ?_
  have := main (n + 1) 0 (by omega) (by omega)
  rw [show (0 : Int).toNat = 0 from rfl, cpy_0] at this
  exact this

abbrev q_X12_leavesT (b : Bool) (κ : Hp)  : Int → Hp → Prop := fun r h' => Fr b κ h' ∧ (True)
set_option maxHeartbeats 4000000 in
set_option maxRecDepth 20000 in
theorem t_X12_leavesT {G : Ga} {κ h : Hp} (hK : KR κ) (hF : Fr true κ h) (hR : GivOK κ) {Q : Int → Hp → Prop} (hQ : ∀ (r : Int) (h' : Hp), (q_X12_leavesT true κ) r h' → Q r h') : zV G mX12_leaves Q 11 [some (.inr (.inr 0)), none, none] [] h := by
  have f_0_11 := KRw hK
  have f_0_12 := KRh hK
  have f_0_14 := KRm hK
  have main : ∀ N : Nat, (∀ (v1 : Int) (h : Hp), Fr true κ h → (0 ≤ v1 ∧ v1 ≤ 16) → (v1 - κ 0 12 ≤ 0) → 19004544 + 22464 * (16 - v1) + 21996 < (N : Int) → zV G mX12_leaves Q 26 [some (.inr (.inr 0)), some (.inl v1), none] [] h) ∧ (∀ (v1 : Int) (h : Hp), Fr true κ h → (1 ≤ v1 ∧ v1 ≤ 13) → (v1 - κ 0 14 ≤ 1) → 16578432 + 22464 * (13 - v1) + 19188 < (N : Int) → zV G mX12_leaves Q 79 [some (.inr (.inr 0)), some (.inl v1), none] [] h) ∧ (∀ (v1 v2 : Int) (h : Hp), Fr true κ h → (0 ≤ v1 ∧ v1 ≤ 15) → (v1 - κ 0 12 ≤ -1) → (0 ≤ v2 ∧ v2 ≤ 16) → (v2 - κ 0 11 ≤ 0) → 19004544 + 22464 * (16 - v1) + 11700 + 26 * (16 - v2) + 25 < (N : Int) → zV G mX12_leaves Q 36 [some (.inr (.inr 0)), some (.inl v1), some (.inl v2)] [] h) := by
    intro N
    induction N with
    | zero =>
      refine ⟨?_, ?_, ?_⟩
      · intro v1 h hF g0 g1 hm
        exfalso; omega
      · intro v1 h hF g0 g1 hm
        exfalso; omega
      · intro v1 v2 h hF g0 g1 g2 g3 hm
        exfalso; omega
    | succ N ih =>
      obtain ⟨k26, k79, k36⟩ := ih
      refine ⟨?_, ?_, ?_⟩
      · intro v1 h hF g0 g1 hm
        refine zW_iload_n (pc' := 27) dX12_leaves_0.2.2.2.1 rfl rfl ?_
        refine zW_aload_n (pc' := 28) dX12_leaves_0.2.2.2.2 rfl rfl ?_
        refine zG_key (pc' := 31) hF rfl fg_X12_103 tb0 rfl dX12_leaves_1.1.1.1.1 rfl ?_
        refine zV_cm_ge (tgt := 77) (pc' := 34) dX12_leaves_1.1.1.1.2 rfl rfl ⟨by omega, by omega⟩ ⟨by omega, by omega⟩ (fun c31 => ?_) (fun c31 => ?_)
        · refine zW_iconst (pc' := 78) dX12_leaves_2.2.1.2.2 rfl ?_
          refine zW_istore_n (ls' := [_, _, _]) (pc' := 79) dX12_leaves_2.2.2.1.1 (by decide) rfl rfl rfl ?_
          exact k79 _ _ hF (by omega) (by omega) (by omega)
        · refine zW_iconst (pc' := 35) dX12_leaves_1.1.1.2.1 rfl ?_
          refine zW_istore_n (ls' := [_, _, _]) (pc' := 36) dX12_leaves_1.1.1.2.2 (by decide) rfl rfl rfl ?_
          exact k36 _ _ _ hF (by omega) (by omega) (by omega) (by omega) (by omega)
      · intro v1 h hF g0 g1 hm
        refine zW_iload_n (pc' := 80) dX12_leaves_2.2.2.1.2 rfl rfl ?_
        refine zW_aload_n (pc' := 81) dX12_leaves_2.2.2.2.1 rfl rfl ?_
        refine zG_key (pc' := 84) hF rfl fg_X12_185 tb0 rfl dX12_leaves_2.2.2.2.2 rfl ?_
        refine zV_cm_gt (tgt := 102) (pc' := 87) dX12_leaves_3.1.1.1.1 rfl rfl ⟨by omega, by omega⟩ ⟨by omega, by omega⟩ (fun c84 => ?_) (fun c84 => ?_)
        · exact zV_vret rfl dX12_leaves_3.2.2.2 (hQ _ _ ⟨hF, trivial⟩)
        · refine zW_aload_n (pc' := 88) dX12_leaves_3.1.1.1.2 rfl rfl ?_
          refine zW_iload_n (pc' := 89) dX12_leaves_3.1.1.2 rfl rfl ?_
          refine zW_iload_n (pc' := 90) dX12_leaves_3.1.2.1.1 rfl rfl ?_
          refine zW_iconst (pc' := 91) dX12_leaves_3.1.2.1.2 rfl ?_
          refine zW_isub (pc' := 92) dX12_leaves_3.1.2.2 rfl ?_
          refine zW_iload_n (pc' := 93) dX12_leaves_3.2.1.1.1 rfl rfl ?_
          refine cvV3 (pc' := 96) kX12_does vX12_does lk_X12_371 ⟨Nat.le_of_ble_eq_true rfl, Nat.le_of_ble_eq_true rfl⟩ tb0 vq12 rfl rfl (s_X12_does hK hF _ ⟨by omega, by omega, by omega⟩ _ ⟨by omega, by omega⟩ _ ⟨by omega, by omega⟩ hR) dX12_leaves_3.2.1.1.2 (Nat.le_of_ble_eq_true rfl) rfl ?_
          rintro r93 h ⟨hF, p93⟩
          refine zW_iinc (ls' := [_, _, _]) (pc' := 99) dX12_leaves_3.2.1.2 rfl (by decide) rfl rfl rfl ?_
          refine zV_goto 79 dX12_leaves_3.2.2.1 rfl ?_
          exact k79 _ _ hF (by omega) (by omega) (by omega)
      · intro v1 v2 h hF g0 g1 g2 g3 hm
        refine zW_iload_n (pc' := 37) dX12_leaves_1.1.2.1.1 rfl rfl ?_
        refine zW_aload_n (pc' := 38) dX12_leaves_1.1.2.1.2 rfl rfl ?_
        refine zG_key (pc' := 41) hF rfl fg_X12_99 tb0 rfl dX12_leaves_1.1.2.2.1 rfl ?_
        refine zV_cm_ge (tgt := 71) (pc' := 44) dX12_leaves_1.1.2.2.2 rfl rfl ⟨by omega, by omega⟩ ⟨by omega, by omega⟩ (fun c41 => ?_) (fun c41 => ?_)
        · refine zW_iinc (ls' := [_, _, _]) (pc' := 74) dX12_leaves_2.2.1.1.2 rfl (by decide) rfl rfl rfl ?_
          refine zV_goto 26 dX12_leaves_2.2.1.2.1 rfl ?_
          refine zV_clr 2 (ls' := [_, _, _]) rfl ?_
          exact k26 _ _ hF (by omega) (by omega) (by omega)
        · refine zW_aload_n (pc' := 45) dX12_leaves_1.2.1.1.1 rfl rfl ?_
          refine zW_iconst (pc' := 46) dX12_leaves_1.2.1.1.2 rfl ?_
          refine zW_iload_n (pc' := 47) dX12_leaves_1.2.1.2.1 rfl rfl ?_
          refine zW_iload_n (pc' := 48) dX12_leaves_1.2.1.2.2 rfl rfl ?_
          refine zW_bipush (pc' := 50) dX12_leaves_1.2.2.1.1 rfl rfl ?_
          refine zW_aload_n (pc' := 51) dX12_leaves_1.2.2.1.2 rfl rfl ?_
          refine zG_ref (pc' := 54) 1 fg_X12_7 tb0 rfl dX12_leaves_1.2.2.2.1 rfl ?_
          refine zW_bipush (pc' := 56) dX12_leaves_1.2.2.2.2 rfl rfl ?_
          refine zW_iload_n (pc' := 57) dX12_leaves_2.1.1.1.1 rfl rfl ?_
          refine zW_imul (pc' := 58) dX12_leaves_2.1.1.1.2 rfl ?_
          refine zW_iload_n (pc' := 59) dX12_leaves_2.1.1.2.1 rfl rfl ?_
          refine zW_iadd (pc' := 60) dX12_leaves_2.1.1.2.2 rfl ?_
          refine zA_key (pc' := 61) hF rfl tb1 (by omega) dX12_leaves_2.1.2.1.1 (by decide) rfl ?_
          refine zW_imul (pc' := 62) dX12_leaves_2.1.2.1.2 rfl ?_
          refine cvV4 (pc' := 65) kX12_laysOwn vX12_laysOwn lk_X12_270 ⟨Nat.le_of_ble_eq_true rfl, Nat.le_of_ble_eq_true rfl⟩ tb0 vq12 rfl rfl (s_X12_laysOwn hK hF _ ⟨by omega, by omega⟩ _ ⟨by omega, by omega, by omega⟩ _ ⟨by omega, by omega, by omega⟩ _) dX12_leaves_2.1.2.2.1 (Nat.le_of_ble_eq_true rfl) rfl ?_
          rintro r62 h ⟨hF, p62⟩
          refine zW_iinc (ls' := [_, _, _]) (pc' := 68) dX12_leaves_2.1.2.2.2 rfl (by decide) rfl rfl rfl ?_
          refine zV_goto 36 dX12_leaves_2.2.1.1.1 rfl ?_
          exact k36 _ _ _ hF (by omega) (by omega) (by omega) (by omega) (by omega)
  refine zW_aload_n (pc' := 12) dX12_leaves_0.1.2.1.2 rfl rfl ?_
  refine zG_int (pc' := 15) fg_X12_192 tb0 rfl dX12_leaves_0.1.2.2.1 rfl ?_
  refine zV_ifQ_eq (tgt := 19) (pc' := 18) dX12_leaves_0.1.2.2.2 rfl rfl ?_ ?_
  · refine zW_aload_n (pc' := 20) dX12_leaves_0.2.1.1.2 rfl rfl ?_
    refine zW_iconst (pc' := 21) dX12_leaves_0.2.1.2.1 rfl ?_
    refine zP_scz (pc' := 24) hF rfl (by omega) fp_X12_192 tb0 rfl dX12_leaves_0.2.1.2.2 rfl (fun h hF w21 => ?_)
    refine zW_iconst (pc' := 25) dX12_leaves_0.2.2.1.1 rfl ?_
    refine zW_istore_n (ls' := [_, _, _]) (pc' := 26) dX12_leaves_0.2.2.1.2 (by decide) rfl rfl rfl ?_
    exact (main 10000000000000000000000000000000000000000).1 _ _ hF (by omega) (by omega) (by omega)
  · exact zV_vret rfl dX12_leaves_0.2.1.1.1 (hQ _ _ ⟨hF, trivial⟩)

abbrev q_X12_leaves (κ : Hp) : Int → Hp → Prop := fun _ h' => Fr false κ h' ∧ (∀ i, i < 130 → h' 23 i = κ 5 i)
theorem s_X12_leaves {G : Ga} {κ h : Hp} (hK : KR κ) (hF : Fr false κ h) : zM G mX12_leaves yX12_leaves [.inr (.inr 0)] h (q_X12_leaves κ) := by
  refine zM_of [some (.inr (.inr 0)), none, none] 2 rfl rfl (Nat.le_of_ble_eq_true rfl) rfl ?_
  refine zW_aload_n (pc' := 1) dX12_leaves_0.1.1.1.1 rfl rfl ?_
  refine zG_ref (pc' := 4) 5 fg_X12_22 tb0 rfl dX12_leaves_0.1.1.1.2 rfl ?_
  refine zW_aload_n (pc' := 5) dX12_leaves_0.1.1.2.1 rfl rfl ?_
  refine zG_ref (pc' := 8) 23 fg_X12_78 tb0 rfl dX12_leaves_0.1.1.2.2 rfl ?_
  refine csV2 (pc' := 11) kX12_copies vX12_copies lk_X12_188 ⟨Nat.le_of_ble_eq_true rfl, Nat.le_of_ble_eq_true rfl⟩ rfl (s_X12_copies tb5 tb23 (by decide) (by decide)) dX12_leaves_0.1.2.1.1 (Nat.le_of_ble_eq_true rfl) rfl ?_
  rintro r h1 e1
  have hF1 : Fr false κ h1 := by
    refine ⟨fun k i hk => ?_, fun q => (by cases q), ?_⟩
    · rw [e1, cpy_ne (fun q => by subst q; exact absurd (show key 23 i = false by simp [key]; decide) (by rw [hk]; simp))]
      exact hF.1 k i hk
    · obtain ⟨s1, s2, s3, s4, s5⟩ := hF.2.2
      unfold SI
      rw [e1, cpy_ne (by decide), cpy_ne (by decide), cpy_ne (by decide), cpy_ne (by decide)]
      exact ⟨s1, s2, s3, s4, WFcpy s5 (by decide)⟩
  have eg : ∀ i, i < 130 → h1 23 i = κ 5 i := fun i hi => by
    rw [e1, cpy_in hi]
    exact hF.1 5 i rfl
  have hK1 : KR h1 := KR_tr hK hF1
  have hR1 : GivOK h1 := by
    refine ⟨?_, fun j hj => ?_⟩
    · have := (KRr hK).cong eg
      rw [keq hF1 (k := 3) rfl, keq hF1 (k := 4) rfl, hF1.1 0 14 rfl]
      exact this
    · rw [eg j hj]
      exact KRnu hK j
  refine t_X12_leavesT hK1 (Fr.rf hF1.2.2) hR1 (fun r h' hq => ⟨hF1.tr hq.1 (fun q => by cases q), fun i hi => ?_⟩)
  rw [hq.1.2.1 rfl i]
  exact eg i hi

abbrev q_X12_leavesBy (b : Bool) (κ : Hp) (x1 : Int) (x2 : Int) : Int → Hp → Prop := fun r h' => Fr b κ h' ∧ ((0 ≤ r) ∧ (r ≤ 14))
set_option maxHeartbeats 4000000 in
set_option maxRecDepth 20000 in
theorem s_X12_leavesBy {G : Ga} {κ h : Hp} (hK : KR κ) (hF : Fr true κ h) (x1 : Int) (hx1 : 1 ≤ x1 ∧ x1 ≤ 13) (x2 : Int) (hx2 : 0 ≤ x2 ∧ x2 ≤ 14) (hR : GivOK κ) : zM G mX12_leavesBy yX12_leavesBy [.inr (.inr 0), .inl x1, .inl x2] h (q_X12_leavesBy true κ x1 x2) := by
  have f_0_14 := KRm hK
  have main : ∀ N : Nat, (∀ (v3 v4 : Int) (h : Hp), Fr true κ h → (0 ≤ v3 ∧ v3 ≤ 14) → (1 ≤ v4 ∧ v4 ≤ 13) → 7728 + 24 * (13 - v4) + 23 < (N : Int) → zV G mX12_leavesBy (q_X12_leavesBy true κ x1 x2) 5 [some (.inr (.inr 0)), some (.inl x1), some (.inl x2), some (.inl v3), some (.inl v4), none] [] h) := by
    intro N
    induction N with
    | zero =>
      intro v3 v4 h hF g0 g1 hm
      exfalso; omega
    | succ N ih =>
      have k5 := ih
      intro v3 v4 h hF g0 g1 hm
      refine zW_iload (pc' := 7) dX12_leavesBy_0.1.2.1.1 rfl rfl ?_
      refine zW_aload_n (pc' := 8) dX12_leavesBy_0.1.2.1.2 rfl rfl ?_
      refine zG_key (pc' := 11) hF rfl fg_X12_185 tb0 rfl dX12_leavesBy_0.1.2.2.1 rfl ?_
      refine zV_cm_gt (tgt := 47) (pc' := 14) dX12_leavesBy_0.1.2.2.2 rfl rfl ⟨by omega, by omega⟩ ⟨by omega, by omega⟩ (fun c11 => ?_) (fun c11 => ?_)
      · refine zW_iload_n (pc' := 48) dX12_leavesBy_1.2.2.1 rfl rfl ?_
        exact zV_iret rfl dX12_leavesBy_1.2.2.2 ⟨hF, by omega⟩
      · refine zW_iload_n (pc' := 15) dX12_leavesBy_0.2.1.1.1 rfl rfl ?_
        refine zW_bipush (pc' := 17) dX12_leavesBy_0.2.1.1.2 rfl rfl ?_
        refine zV_cm_ne (tgt := 25) (pc' := 20) dX12_leavesBy_0.2.1.2.1 rfl rfl ⟨by omega, by omega⟩ ⟨by omega, by omega⟩ (fun c17 => ?_) (fun c17 => ?_)
        · refine zW_bipush (pc' := 27) dX12_leavesBy_0.2.2.1.2 rfl rfl ?_
          refine zW_istore (ls' := [_, _, _, _, _, _]) (pc' := 29) dX12_leavesBy_0.2.2.2.1 (by decide) rfl rfl rfl ?_
          refine zW_aload_n (pc' := 30) dX12_leavesBy_0.2.2.2.2 rfl rfl ?_
          refine zW_iload (pc' := 32) dX12_leavesBy_1.1.1.1.1 rfl rfl ?_
          refine zW_iload_n (pc' := 33) dX12_leavesBy_1.1.1.1.2 rfl rfl ?_
          refine zW_iload (pc' := 35) dX12_leavesBy_1.1.1.2 rfl rfl ?_
          refine cvV3 (pc' := 38) kX12_does vX12_does lk_X12_371 ⟨Nat.le_of_ble_eq_true rfl, Nat.le_of_ble_eq_true rfl⟩ tb0 vq12 rfl rfl (s_X12_does hK hF _ ⟨by omega, by omega, by omega⟩ _ ⟨by omega, by omega⟩ _ ⟨by omega, by omega⟩ hR) dX12_leavesBy_1.1.2.1 (Nat.le_of_ble_eq_true rfl) rfl ?_
          rintro r35 h ⟨hF, p35⟩
          refine zW_iload (pc' := 40) dX12_leavesBy_1.1.2.2 rfl rfl ?_
          refine zW_istore_n (ls' := [_, _, _, _, _, _]) (pc' := 41) dX12_leavesBy_1.2.1.1.1 (by decide) rfl rfl rfl ?_
          refine zW_iinc (ls' := [_, _, _, _, _, _]) (pc' := 44) dX12_leavesBy_1.2.1.1.2 rfl (by decide) rfl rfl rfl ?_
          refine zV_goto 5 dX12_leavesBy_1.2.1.2 rfl ?_
          refine zV_clr 5 (ls' := [_, _, _, _, _, _]) rfl ?_
          exact k5 _ _ _ hF (by omega) (by omega) (by omega)
        · refine zW_bipush (pc' := 22) dX12_leavesBy_0.2.1.2.2 rfl rfl ?_
          refine zV_goto 27 dX12_leavesBy_0.2.2.1.1 rfl ?_
          refine zW_istore (ls' := [_, _, _, _, _, _]) (pc' := 29) dX12_leavesBy_0.2.2.2.1 (by decide) rfl rfl rfl ?_
          refine zW_aload_n (pc' := 30) dX12_leavesBy_0.2.2.2.2 rfl rfl ?_
          refine zW_iload (pc' := 32) dX12_leavesBy_1.1.1.1.1 rfl rfl ?_
          refine zW_iload_n (pc' := 33) dX12_leavesBy_1.1.1.1.2 rfl rfl ?_
          refine zW_iload (pc' := 35) dX12_leavesBy_1.1.1.2 rfl rfl ?_
          refine cvV3 (pc' := 38) kX12_does vX12_does lk_X12_371 ⟨Nat.le_of_ble_eq_true rfl, Nat.le_of_ble_eq_true rfl⟩ tb0 vq12 rfl rfl (s_X12_does hK hF _ ⟨by omega, by omega, by omega⟩ _ ⟨by omega, by omega⟩ _ ⟨by omega, by omega⟩ hR) dX12_leavesBy_1.1.2.1 (Nat.le_of_ble_eq_true rfl) rfl ?_
          rintro r35 h ⟨hF, p35⟩
          refine zW_iload (pc' := 40) dX12_leavesBy_1.1.2.2 rfl rfl ?_
          refine zW_istore_n (ls' := [_, _, _, _, _, _]) (pc' := 41) dX12_leavesBy_1.2.1.1.1 (by decide) rfl rfl rfl ?_
          refine zW_iinc (ls' := [_, _, _, _, _, _]) (pc' := 44) dX12_leavesBy_1.2.1.1.2 rfl (by decide) rfl rfl rfl ?_
          refine zV_goto 5 dX12_leavesBy_1.2.1.2 rfl ?_
          refine zV_clr 5 (ls' := [_, _, _, _, _, _]) rfl ?_
          exact k5 _ _ _ hF (by omega) (by omega) (by omega)
  refine zM_of [some (.inr (.inr 0)), some (.inl x1), some (.inl x2), none, none, none] 3 rfl rfl (Nat.le_of_ble_eq_true rfl) rfl ?_
  refine zW_iload_n (pc' := 1) dX12_leavesBy_0.1.1.1.1 rfl rfl ?_
  refine zW_istore_n (ls' := [_, _, _, _, _, _]) (pc' := 2) dX12_leavesBy_0.1.1.1.2 (by decide) rfl rfl rfl ?_
  refine zW_iload_n (pc' := 3) dX12_leavesBy_0.1.1.2.1 rfl rfl ?_
  refine zW_istore (ls' := [_, _, _, _, _, _]) (pc' := 5) dX12_leavesBy_0.1.1.2.2 (by decide) rfl rfl rfl ?_
  exact (main 10000000000000000000000000000000000000000) _ _ _ hF (by omega) (by omega) (by omega)
