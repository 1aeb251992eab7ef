/-! sheets of the class: early pictures -/
abbrev LC (κ : Hp) : Nat → Int := fun j => κ 42 (j + 1)
abbrev AC (κ : Hp) : Nat → Int := fun j => κ 43 (j + 1)
abbrev EFc (κ : Hp) (k : Nat) : Int → Int → Int := eF (κ 33 0) (κ 33 1) (κ 34) (κ 35) (LC κ) (AC κ) (κ 44) k
def RecC (κ : Hp) : Prop := ∀ k : Nat, (k : Int) < κ 41 0 → AC κ k < AC κ (k + 1) ∧ AC κ (k + 1) ≤ 64 ∧ (0 ≤ κ 44 (AC κ k).toNat ∧ κ 44 (AC κ k).toNat ≤ 255) ∧ (LC κ k = 111 → 1 ≤ κ 44 (AC κ k).toNat ∧ κ 44 (AC κ k).toNat ≤ 4)
def ShsC (κ h : Hp) (n : Int) : Prop := ∀ k : Nat, (k : Int) ≤ n → noF (LC κ) k → ShE (κ 33 0) (κ 33 1) (h (71 + k)) (EFc κ k) ∧ h (56 + k) 1 = 0
def FdC (g h : Hp) : Prop := ∀ k i, dpn k i = true → (k < 56 ∨ 85 < k) → (k = 54 → i ≠ 7) → h k i = g k i
theorem FdC.rf {g : Hp} : FdC g g := fun _ _ _ _ _ => rfl
theorem FdC.w54 {g h : Hp} {v : Int} (a : FdC g h) : FdC g (zwr h 54 7 v) := fun k i h1 h2 h3 => (zwr_ne (by
  by_cases e : k = 54
  · exact Or.inr (h3 e)
  · exact Or.inl e)).trans (a k i h1 h2 h3)
theorem FdC.fw {g h h' : Hp} {a b : Nat} (c : FdC g h) (ha : 56 ≤ a ∧ a ≤ 85) (hb : 56 ≤ b ∧ b ≤ 85) (d : Fw [a, b] [] h h') : FdC g h' := fun k i h1 h2 h3 => (d k i (fun c hc => by
  simp only [List.mem_cons, List.not_mem_nil, or_false] at hc
  omega) (fun p hp => absurd hp (by simp))).trans (c k i h1 h2 h3)

abbrev q_X7_letterOfZ (κ h : Hp) (x1 : Int) : Int → Hp → Prop := fun r h' => h' = h ∧ ((-2147483648 ≤ r) ∧ (r ≤ 2147483647) ∧ (r = κ 42 x1.toNat))
set_option maxHeartbeats 4000000 in
set_option maxRecDepth 20000 in
theorem s_X7_letterOfZ {G : Ga} {b : Bd} {κ h : Hp} (hK : KC κ) (hF : Fr b κ h) (x1 : Int) (hx1 : 1 ≤ x1 ∧ x1 ≤ 12 ∧ x1 - κ 41 0 ≤ 0) : zM G mX7_letterOf yX7_letterOf [.inr (.inr 41), .inl x1] h (q_X7_letterOfZ κ h x1) := by
  have f_41_0 := KCm hK
  refine zM_of [some (.inr (.inr 41)), some (.inl x1)] 0 rfl rfl (Nat.le_of_ble_eq_true rfl) rfl ?_
  refine zW_aload_n (pc' := 1) dX7_letterOf_0.1.1.1.1 rfl rfl ?_
  refine zW_iload_n (pc' := 2) dX7_letterOf_0.1.1.1.2 rfl rfl ?_
  refine cvI1 (pc' := 5) kX7_has vX7_has lk_X7_38 ⟨Nat.le_of_ble_eq_true rfl, Nat.le_of_ble_eq_true rfl⟩ tb41 vq7 rfl rfl (s_X7_has hK hF _ ⟨by omega, by omega⟩) dX7_letterOf_0.1.1.2 (Nat.le_of_ble_eq_true rfl) rfl ?_
  rintro r2 z2 ⟨hz2, p2⟩; subst z2
  refine zV_if_eq (tgt := 17) (pc' := 8) dX7_letterOf_0.1.2.1.1 rfl rfl ⟨by omega, by omega⟩ (fun c5 => ?_) (fun c5 => ?_)
  · refine zW_iconst (pc' := 18) dX7_letterOf_0.2.2.1 rfl ?_
    exact zV_iret rfl dX7_letterOf_0.2.2.2 ⟨rfl, by omega⟩
  · refine zW_aload_n (pc' := 9) dX7_letterOf_0.1.2.1.2 rfl rfl ?_
    refine zG_ref (pc' := 12) 42 fg_X7_9 tb41 rfl dX7_letterOf_0.1.2.2 rfl ?_
    refine zW_iload_n (pc' := 13) dX7_letterOf_0.2.1.1.1 rfl rfl ?_
    refine zA_keyI (pc' := 14) hF rfl (by decide) (by decide) tb42 (by omega) dX7_letterOf_0.2.1.1.2 (by decide) rfl (fun e13 => ?_)
    refine zV_goto 18 dX7_letterOf_0.2.1.2 rfl ?_
    exact zV_iret rfl dX7_letterOf_0.2.2.2 ⟨rfl, by omega⟩


abbrev q_X8_layRawZ (b : Bd) (κ : Hp) (s0 : Nat) (gh0 : Hp) : Int → Hp → Prop := fun r h' => Fr b κ h' ∧ ((Fw [(s0 + 15), s0] [] gh0 h') ∧ (ShE (κ 33 0) (κ 33 1) (h' (s0 + 15)) (EFc κ 0) ∧ h' s0 1 = 0))
set_option maxHeartbeats 4000000 in
set_option maxRecDepth 20000 in
theorem s_X8_layRawZ {G : Ga} {b : Bd} {κ h : Hp} (hK : KC κ) (hF : Fr b κ h) (s0 : Nat) (hthis : 56 ≤ s0 ∧ s0 ≤ 70) (gh0 : Hp) (hto : OkL b (s0 + 15)) (hfu : OkL b s0) (hV : VOK (κ 34)) (hgh : Fw [(s0 + 15), s0] [] gh0 h) : zM G mX8_layRaw yX8_layRaw [.inr (.inr s0), .inr (.inr 33)] h (q_X8_layRawZ b κ s0 gh0) := by
  have f_33_0 := KCw hK
  have f_33_1 := KCh hK
  have main : ∀ N : Nat, (∀ (v2 : Int) (h : Hp), Fr b κ h → (0 ≤ v2 ∧ v2 ≤ 16) → (v2 - κ 33 1 ≤ 0) → (ShEu (κ 33 0) (κ 33 1) (h (s0 + 15)) (EFc κ 0) 0 v2) → (h s0 1 = 0) → (Fw [(s0 + 15), s0] [] gh0 h) → 10795680 + 17640 * (16 - v2) + 17136 < (N : Int) → zV G mX8_layRaw (q_X8_layRawZ b κ s0 gh0) 7 [some (.inr (.inr s0)), some (.inr (.inr 33)), some (.inl v2), none] [] h) ∧ (∀ (v2 v3 : Int) (h : Hp), Fr b κ h → (0 ≤ v2 ∧ v2 ≤ 15) → (v2 - κ 33 1 ≤ -1) → (0 ≤ v3 ∧ v3 ≤ 16) → (v3 - κ 33 0 ≤ 0) → (ShEu (κ 33 0) (κ 33 1) (h (s0 + 15)) (EFc κ 0) v3 v2) → (h s0 1 = 0) → (Fw [(s0 + 15), s0] [] gh0 h) → 10795680 + 17640 * (16 - v2) + 13608 + 28 * (16 - v3) + 27 < (N : Int) → zV G mX8_layRaw (q_X8_layRawZ b κ s0 gh0) 17 [some (.inr (.inr s0)), some (.inr (.inr 33)), some (.inl v2), some (.inl v3)] [] h) := by
    intro N
    induction N with
    | zero =>
      refine ⟨?_, ?_⟩
      · intro v2 h hF g0 g1 gc0 gc1 hgh hm
        exfalso; omega
      · intro v2 v3 h hF g0 g1 g2 g3 gc0 gc1 hgh hm
        exfalso; omega
    | succ N ih =>
      obtain ⟨k7, k17⟩ := ih
      refine ⟨?_, ?_⟩
      · intro v2 h hF g0 g1 gc0 gc1 hgh hm
        refine zW_iload_n (pc' := 8) dX8_layRaw_0.1.2.1.2 rfl rfl ?_
        refine zW_aload_n (pc' := 9) dX8_layRaw_0.1.2.2.1 rfl rfl ?_
        refine zG_key (pc' := 12) hF rfl fg_X8_19 tb33 rfl dX8_layRaw_0.1.2.2.2 rfl ?_
        refine zV_cm_ge (tgt := 62) (pc' := 15) dX8_layRaw_0.2.1.1.1 rfl rfl ⟨by omega, by omega⟩ ⟨by omega, by omega⟩ (fun c12 => ?_) (fun c12 => ?_)
        · exact zV_vret rfl dX8_layRaw_2.2.2 ⟨hF, ⟨hgh, ⟨gc0.all (by omega), gc1⟩⟩⟩
        · refine zW_iconst (pc' := 16) dX8_layRaw_0.2.1.1.2 rfl ?_
          refine zW_istore_n (ls' := [_, _, _, _]) (pc' := 17) dX8_layRaw_0.2.1.2.1 (by decide) rfl rfl rfl ?_
          exact k17 _ _ _ hF (by omega) (by omega) (by omega) (by omega) (by first | exact hr2 | exact gc0) (by first | exact hz2 | exact gc1) hgh (by omega)
      · intro v2 v3 h hF g0 g1 g2 g3 gc0 gc1 hgh hm
        refine zW_iload_n (pc' := 18) dX8_layRaw_0.2.1.2.2 rfl rfl ?_
        refine zW_aload_n (pc' := 19) dX8_layRaw_0.2.2.1.1 rfl rfl ?_
        refine zG_key (pc' := 22) hF rfl fg_X8_25 tb33 rfl dX8_layRaw_0.2.2.1.2 rfl ?_
        refine zV_cm_ge (tgt := 56) (pc' := 25) dX8_layRaw_0.2.2.2.1 rfl rfl ⟨by omega, by omega⟩ ⟨by omega, by omega⟩ (fun c22 => ?_) (fun c22 => ?_)
        · refine zW_iinc (ls' := [_, _, _, _]) (pc' := 59) dX8_layRaw_2.2.1.1 rfl (by decide) rfl rfl rfl ?_
          refine zV_goto 7 dX8_layRaw_2.2.1.2 rfl ?_
          refine zV_clr 3 (ls' := [_, _, _, _]) rfl ?_
          exact k7 _ _ hF (by omega) (by omega) (by first | exact gc0.rowx (by omega) | exact ShEu.no) (by first | exact gc1 | exact hz) hgh (by omega)
        · refine zW_aload_n (pc' := 26) dX8_layRaw_0.2.2.2.2 rfl rfl ?_
          refine zG_lev (pc' := 29) (by omega) (by omega) fg_X8_9 dX8_layRaw_1.1.1.1.1 rfl ?_
          refine zW_iload_n (pc' := 30) dX8_layRaw_1.1.1.1.2 rfl rfl ?_
          refine zW_bipush (pc' := 32) dX8_layRaw_1.1.1.2.1 rfl rfl ?_
          refine zW_imul (pc' := 33) dX8_layRaw_1.1.1.2.2 rfl ?_
          refine zW_iload_n (pc' := 34) dX8_layRaw_1.1.2.1.1 rfl rfl ?_
          refine zW_iadd (pc' := 35) dX8_layRaw_1.1.2.1.2 rfl ?_
          refine zW_bipush (pc' := 37) dX8_layRaw_1.1.2.2.1 rfl rfl ?_
          refine zW_aload_n (pc' := 38) dX8_layRaw_1.1.2.2.2 rfl rfl ?_
          refine zG_ref (pc' := 41) 34 fg_X8_28 tb33 rfl dX8_layRaw_1.2.1.1.1 rfl ?_
          refine zW_iload_n (pc' := 42) dX8_layRaw_1.2.1.1.2 rfl rfl ?_
          refine zW_bipush (pc' := 44) dX8_layRaw_1.2.1.2.1 rfl rfl ?_
          refine zW_imul (pc' := 45) dX8_layRaw_1.2.1.2.2 rfl ?_
          refine zW_iload_n (pc' := 46) dX8_layRaw_1.2.2.1.1 rfl rfl ?_
          refine zW_iadd (pc' := 47) dX8_layRaw_1.2.2.1.2 rfl ?_
          refine zA_keyI (pc' := 48) hF rfl (by decide) (by decide) tb34 (by omega) dX8_layRaw_1.2.2.2.1 (by decide) rfl (fun e47 => ?_)
          have b47 := hV (v2 * 16 + v3).toNat (by omega)
          refine zW_imul (pc' := 49) dX8_layRaw_1.2.2.2.2 rfl ?_
          refine zS_lv (pc' := 50) hF (by omega) (by omega) hto (by omega) dX8_layRaw_2.1.1.1 rfl (fun h i49 hF a49 b49 w49 => ?_)
          replace b49 := b49 ⟨by omega, by omega⟩
          replace hgh : Fw [(s0 + 15), s0] [] gh0 h := by rw [w49]; exact hgh.wc (by simp)
          have hr2 : ShEu (κ 33 0) (κ 33 1) (h (s0 + 15)) (EFc κ 0) (v3 + 1) v2 := by rw [w49, b49]; exact ShEu.nx (by omega) ⟨by omega, by omega, by omega, by omega⟩ gc0 (by omega) (by rw [show v2 * 16 + v3 = 16 * v2 + v3 by omega]; rfl)
          have hz2 : h s0 1 = 0 := by rw [w49, zwr_ne (Or.inl (by omega))]; exact gc1
          refine zW_iinc (ls' := [_, _, _, _]) (pc' := 53) dX8_layRaw_2.1.1.2 rfl (by decide) rfl rfl rfl ?_
          refine zV_goto 17 dX8_layRaw_2.1.2 rfl ?_
          exact k17 _ _ _ hF (by omega) (by omega) (by omega) (by omega) (by first | exact hr2 | exact gc0) (by first | exact hz2 | exact gc1) hgh (by omega)
  refine zM_of [some (.inr (.inr s0)), some (.inr (.inr 33)), none, none] 2 rfl rfl (Nat.le_of_ble_eq_true rfl) rfl ?_
  refine zW_aload_n (pc' := 1) dX8_layRaw_0.1.1.1.1 rfl rfl ?_
  refine zW_iconst (pc' := 2) dX8_layRaw_0.1.1.1.2 rfl ?_
  refine zX_boo (pc' := 5) (hF.wS (by omega) (hfu.wr hF.inv) ⟨by omega, by omega⟩) fp_X8_15 (by omega) (tabS (by omega) (by omega)) rfl dX8_layRaw_0.1.1.2.1 rfl (fun h hF w2 => ?_)
  replace hgh : Fw [(s0 + 15), s0] [] gh0 h := by rw [w2]; exact hgh.wc (by simp)
  have hz : h s0 1 = 0 := by rw [w2]; exact zwr_eq
  refine zW_iconst (pc' := 6) dX8_layRaw_0.1.1.2.2 rfl ?_
  refine zW_istore_n (ls' := [_, _, _, _]) (pc' := 7) dX8_layRaw_0.1.2.1.1 (by decide) rfl rfl rfl ?_
  exact (main 10000000000000000000000000000000000000000).1 _ _ hF (by omega) (by omega) (by first | exact gc0.rowx (by omega) | exact ShEu.no) (by first | exact gc1 | exact hz) hgh (by omega)

abbrev q_X1_applyZ (b : Bd) (κ : Hp) (x1 : Int) (x2 : Int) (s3 : Nat) (s4 : Nat) (f : Int → Int → Int) (gh0 : Hp) : Int → Hp → Prop := fun r h' => Fr b κ h' ∧ ((Fw [(s4 + 15), s4] [] gh0 h') ∧ (ShE (κ 33 0) (κ 33 1) (h' (s4 + 15)) (stg (κ 33 0) (κ 33 1) (κ 35) (κ 42 x1.toNat) x2 f) ∧ h' s4 1 = 0))
set_option maxHeartbeats 4000000 in
set_option maxRecDepth 20000 in
theorem s_X1_applyZ {G : Ga} {b : Bd} {κ h : Hp} (hK : KC κ) (hF : Fr b κ h) (x1 : Int) (hx1 : 1 ≤ x1 ∧ x1 ≤ 12 ∧ x1 - κ 41 0 ≤ 0) (x2 : Int) (hx2 : 0 ≤ x2 ∧ x2 ≤ 255) (s3 : Nat) (hs3 : 56 ≤ s3 ∧ s3 ≤ 70) (s4 : Nat) (hs4 : 56 ≤ s4 ∧ s4 ≤ 70) (f : Int → Int → Int) (gh0 : Hp) (hto : OkL b (s4 + 15)) (hfu : OkL b s4) (hne : s3 ≠ s4) (hel : κ 42 x1.toNat = 98 ∨ κ 42 x1.toNat = 111 ∨ κ 42 x1.toNat = 100 ∨ κ 42 x1.toNat = 108) (hn : κ 42 x1.toNat = 111 → 1 ≤ x2 ∧ x2 ≤ 4) (hfl : h s3 1 = 0) (hf : ShE (κ 33 0) (κ 33 1) (h (s3 + 15)) f) (hfb : FB (κ 33 0) (κ 33 1) f) (hgh : Fw [(s4 + 15), s4] [] gh0 h) : zM G mX1_apply yX1_apply [.inr (.inr 54), .inl x1, .inl x2, .inr (.inr s3), .inr (.inr s4)] h (q_X1_applyZ b κ x1 x2 s3 s4 f gh0) := by
  have f_33_0 := KCw hK
  have f_33_1 := KCh hK
  have f_41_0 := KCm hK
  refine zM_of [some (.inr (.inr 54)), some (.inl x1), some (.inl x2), some (.inr (.inr s3)), some (.inr (.inr s4)), none, none] 2 rfl rfl (Nat.le_of_ble_eq_true rfl) rfl ?_
  refine zW_aload_n (pc' := 1) dX1_apply_0.1.1.1.1 rfl rfl ?_
  refine zG_ref (pc' := 4) 41 fg_X1_33 tb54 rfl dX1_apply_0.1.1.1.2 rfl ?_
  refine zW_iload_n (pc' := 5) dX1_apply_0.1.1.2.1 rfl rfl ?_
  refine zW_iconst (pc' := 6) dX1_apply_0.1.1.2.2 rfl ?_
  refine cvI2 (pc' := 9) kX7_numberOf vX7_numberOf lk_X1_70 ⟨Nat.le_of_ble_eq_true rfl, Nat.le_of_ble_eq_true rfl⟩ tb41 vq7 rfl rfl (s_X7_numberOf hK hF _ ⟨by omega, by omega⟩ _ ⟨by omega, by omega⟩) dX1_apply_0.1.2.1.1 (Nat.le_of_ble_eq_true rfl) rfl ?_
  rintro r6 z6 ⟨hz6, p6⟩; subst z6
  refine zW_istore (ls' := [_, _, _, _, _, _, _]) (pc' := 11) dX1_apply_0.1.2.1.2 (by decide) rfl rfl rfl ?_
  refine zW_aload_n (pc' := 12) dX1_apply_0.1.2.2.1 rfl rfl ?_
  refine zG_ref (pc' := 15) 41 fg_X1_33 tb54 rfl dX1_apply_0.1.2.2.2 rfl ?_
  refine zW_iload_n (pc' := 16) dX1_apply_0.2.1.1.1 rfl rfl ?_
  refine zW_iconst (pc' := 17) dX1_apply_0.2.1.1.2 rfl ?_
  refine cvI2 (pc' := 20) kX7_numberOf vX7_numberOf lk_X1_70 ⟨Nat.le_of_ble_eq_true rfl, Nat.le_of_ble_eq_true rfl⟩ tb41 vq7 rfl rfl (s_X7_numberOf hK hF _ ⟨by omega, by omega⟩ _ ⟨by omega, by omega⟩) dX1_apply_0.2.1.2.1 (Nat.le_of_ble_eq_true rfl) rfl ?_
  rintro r17 z17 ⟨hz17, p17⟩; subst z17
  refine zW_istore (ls' := [_, _, _, _, _, _, _]) (pc' := 22) dX1_apply_0.2.1.2.2 (by decide) rfl rfl rfl ?_
  refine zW_aload (pc' := 24) dX1_apply_0.2.2.1.1 rfl rfl ?_
  refine zW_aload_n (pc' := 25) dX1_apply_0.2.2.1.2 rfl rfl ?_
  refine zG_ful (pc' := 28) (by omega) (by omega) fg_X1_81 dX1_apply_0.2.2.2.1 rfl ?_
  have e25_ := hfl
  refine zV_if_ne (tgt := 44) (pc' := 31) dX1_apply_0.2.2.2.2 rfl rfl ⟨by omega, by omega⟩ (fun c28 => ?_) (fun c28 => ?_)
  · exfalso; omega
  · refine zW_aload_n (pc' := 32) dX1_apply_1.1.1.1.1 rfl rfl ?_
    refine zG_ref (pc' := 35) 41 fg_X1_33 tb54 rfl dX1_apply_1.1.1.1.2 rfl ?_
    refine zW_iload_n (pc' := 36) dX1_apply_1.1.1.2.1 rfl rfl ?_
    refine cvI1 (pc' := 39) kX7_letterOf vX7_letterOf lk_X1_85 ⟨Nat.le_of_ble_eq_true rfl, Nat.le_of_ble_eq_true rfl⟩ tb41 vq7 rfl rfl (s_X7_letterOfZ hK hF _ ⟨by omega, by omega, by omega⟩) dX1_apply_1.1.1.2.2 (Nat.le_of_ble_eq_true rfl) rfl ?_
    rintro r36 z36 ⟨hz36, p36⟩; subst z36
    refine zW_bipush (pc' := 41) dX1_apply_1.1.2.1.1 rfl rfl ?_
    refine zV_cm_ne (tgt := 48) (pc' := 44) dX1_apply_1.1.2.1.2 rfl rfl ⟨by omega, by omega⟩ ⟨by omega, by omega⟩ (fun c41 => ?_) (fun c41 => ?_)
    · refine zW_iconst (pc' := 49) dX1_apply_1.2.1.1.1 rfl ?_
      refine zX_boo (pc' := 52) (hF.wS (by omega) (hfu.wr hF.inv) ⟨by omega, by omega⟩) fp_X1_81 (by omega) (tabS (by omega) (by omega)) rfl dX1_apply_1.2.1.1.2 rfl (fun h hF w49 => ?_)
      replace hgh : Fw [(s4 + 15), s4] [] gh0 h := by rw [w49]; exact hgh.wc (by simp)
      replace hf : ShE (κ 33 0) (κ 33 1) (h (s3 + 15)) f := by have q0_ := (congrFun w49 (s3 + 15)).trans (zfun (by omega)); rw [q0_]; exact hf
      have hz0 : h s4 1 = 0 := by rw [w49]; exact zwr_eq
      refine zW_aload_n (pc' := 53) dX1_apply_1.2.1.2.1 rfl rfl ?_
      refine zG_ref (pc' := 56) 41 fg_X1_33 tb54 rfl dX1_apply_1.2.1.2.2 rfl ?_
      refine zW_iload_n (pc' := 57) dX1_apply_1.2.2.1.1 rfl rfl ?_
      refine cvI1 (pc' := 60) kX7_letterOf vX7_letterOf lk_X1_85 ⟨Nat.le_of_ble_eq_true rfl, Nat.le_of_ble_eq_true rfl⟩ tb41 vq7 rfl rfl (s_X7_letterOfZ hK hF _ ⟨by omega, by omega, by omega⟩) dX1_apply_1.2.2.1.2 (Nat.le_of_ble_eq_true rfl) rfl ?_
      rintro r57 z57 ⟨hz57, p57⟩; subst z57
      refine zW_tsw2 (fun z t => (z = 98 ∧ t = 172) ∨ (z = 100 ∧ t = 186) ∨ (z = 102 ∧ t = 228) ∨ (z = 103 ∧ t = 298) ∨ (z = 104 ∧ t = 332) ∨ (z = 108 ∧ t = 214) ∨ (z = 109 ∧ t = 318) ∨ (z = 110 ∧ t = 398) ∨ (z = 111 ∧ t = 200) ∨ (z = 112 ∧ t = 364) ∨ (z = 115 ∧ t = 414) ∨ (z = 116 ∧ t = 346) ∨ (z = 118 ∧ t = 242) ∨ (z = 119 ∧ t = 256) ∨ (z = 121 ∧ t = 380) ∨ (t = 430 ∧ z ≠ 98 ∧ z ≠ 100 ∧ z ≠ 108 ∧ z ≠ 111)) (fun z => if z = 98 then 172 else if z = 100 then 186 else if z = 102 then 228 else if z = 103 then 298 else if z = 104 then 332 else if z = 108 then 214 else if z = 109 then 318 else if z = 110 then 398 else if z = 111 then 200 else if z = 112 then 364 else if z = 115 then 414 else if z = 116 then 346 else if z = 118 then 242 else if z = 119 then 256 else if z = 121 then 380 else 430) dX1_apply_1.2.2.2.1 ⟨by omega, by omega⟩ (tsw_ok (pc := 60) (lo := 98) (offs := #[112, 370, 126, 370, 168, 238, 272, 370, 370, 370, 154, 258, 338, 140, 304, 370, 370, 354, 286, 370, 182, 196, 370, 320]) (tg := fun z => if z = 98 then 172 else if z = 100 then 186 else if z = 102 then 228 else if z = 103 then 298 else if z = 104 then 332 else if z = 108 then 214 else if z = 109 then 318 else if z = 110 then 398 else if z = 111 then 200 else if z = 112 then 364 else if z = 115 then 414 else if z = 116 then 346 else if z = 118 then 242 else if z = 119 then 256 else if z = 121 then 380 else 430) (by decide +kernel)) rfl (by decide +kernel) (td := 430) rfl (fun c60 => ?_) (fun t60 w60 => ?_)
      · exact zV_vret rfl dX1_apply_9.2.2.2 ⟨hF, ⟨hgh, (by first | exact ⟨hres, hz⟩ | (exfalso; omega))⟩⟩
      · rcases w60 with ⟨s98, rfl⟩ | ⟨s100, rfl⟩ | ⟨s102, rfl⟩ | ⟨s103, rfl⟩ | ⟨s104, rfl⟩ | ⟨s108, rfl⟩ | ⟨s109, rfl⟩ | ⟨s110, rfl⟩ | ⟨s111, rfl⟩ | ⟨s112, rfl⟩ | ⟨s115, rfl⟩ | ⟨s116, rfl⟩ | ⟨s118, rfl⟩ | ⟨s119, rfl⟩ | ⟨s121, rfl⟩ | ⟨rfl, n98, n100, n108, n111⟩
        · refine zW_aload_n (pc' := 173) dX1_apply_1.2.2.2.2 rfl rfl ?_
          refine zG_ref (pc' := 176) 86 fg_X1_42 tb54 rfl dX1_apply_2.1.1.1.1 rfl ?_
          refine zW_aload_n (pc' := 177) dX1_apply_2.1.1.1.2 rfl rfl ?_
          refine zW_aload (pc' := 179) dX1_apply_2.1.1.2.1 rfl rfl ?_
          refine zW_iload_n (pc' := 180) dX1_apply_2.1.1.2.2 rfl rfl ?_
          refine cvV3 (pc' := 183) kX2_takeBlack vX2_takeBlack lk_X1_89 ⟨Nat.le_of_ble_eq_true rfl, Nat.le_of_ble_eq_true rfl⟩ tb86 vq2 rfl rfl (s_X2_takeBlackZ hK hF _ ⟨by omega, by omega⟩ _ ⟨by omega, by omega⟩ _ ⟨by omega, by omega⟩ f h hto (by omega) (by omega) (by omega) Fw.rf) dX1_apply_2.1.2.1.1 (Nat.le_of_ble_eq_true rfl) rfl ?_
          rintro r180 h ⟨hF, d180, p180⟩
          replace hf : ShE (κ 33 0) (κ 33 1) (h (s3 + 15)) f := by have q0_ := (d180.cell (k := (s3 + 15)) (by intro c hc; simp at hc <;> omega) (by intro c hc; simp at hc <;> omega)); rw [q0_]; exact hf
          replace hgh : Fw [(s4 + 15), s4] [] gh0 h := hgh.tr d180 (by simp) (by simp)
          have hq : κ 42 x1.toNat = 98 := by omega
          have hres : ShE (κ 33 0) (κ 33 1) (h (s4 + 15)) (stg (κ 33 0) (κ 33 1) (κ 35) (κ 42 x1.toNat) x2 f) := fun x y hp => (p180 x y hp).trans (by unfold stg; rw [hq, if_pos rfl])
          have hz : h s4 1 = 0 := by rw [d180 s4 1 (by intro c hc; simp at hc <;> omega) (by simp)]; exact hz0
          refine zV_goto 430 dX1_apply_2.1.2.1.2 rfl ?_
          exact zV_vret rfl dX1_apply_9.2.2.2 ⟨hF, ⟨hgh, (by first | exact ⟨hres, hz⟩ | (exfalso; omega))⟩⟩
        · refine zW_aload_n (pc' := 187) dX1_apply_2.1.2.2.1 rfl rfl ?_
          refine zG_ref (pc' := 190) 86 fg_X1_42 tb54 rfl dX1_apply_2.1.2.2.2 rfl ?_
          refine zW_aload_n (pc' := 191) dX1_apply_2.2.1.1.1 rfl rfl ?_
          refine zW_aload (pc' := 193) dX1_apply_2.2.1.1.2 rfl rfl ?_
          refine zW_iload_n (pc' := 194) dX1_apply_2.2.1.2.1 rfl rfl ?_
          refine cvV3 (pc' := 197) kX2_fillFound vX2_fillFound lk_X1_93 ⟨Nat.le_of_ble_eq_true rfl, Nat.le_of_ble_eq_true rfl⟩ tb86 vq2 rfl rfl (s_X2_fillFoundZ hK hF _ ⟨by omega, by omega⟩ _ ⟨by omega, by omega⟩ _ ⟨by omega, by omega⟩ f h hto (by omega) (by omega) (by omega) Fw.rf) dX1_apply_2.2.1.2.2 (Nat.le_of_ble_eq_true rfl) rfl ?_
          rintro r194 h ⟨hF, d194, p194⟩
          replace hf : ShE (κ 33 0) (κ 33 1) (h (s3 + 15)) f := by have q0_ := (d194.cell (k := (s3 + 15)) (by intro c hc; simp at hc <;> omega) (by intro c hc; simp at hc <;> omega)); rw [q0_]; exact hf
          replace hgh : Fw [(s4 + 15), s4] [] gh0 h := hgh.tr d194 (by simp) (by simp)
          have hq : κ 42 x1.toNat = 100 := by omega
          have hres : ShE (κ 33 0) (κ 33 1) (h (s4 + 15)) (stg (κ 33 0) (κ 33 1) (κ 35) (κ 42 x1.toNat) x2 f) := fun x y hp => (p194 x y hp).trans (by unfold stg; rw [hq, if_neg (by decide), if_neg (by decide), if_pos rfl])
          have hz : h s4 1 = 0 := by rw [d194 s4 1 (by intro c hc; simp at hc <;> omega) (by simp)]; exact hz0
          refine zV_goto 430 dX1_apply_2.2.2.1.1 rfl ?_
          exact zV_vret rfl dX1_apply_9.2.2.2 ⟨hF, ⟨hgh, (by first | exact ⟨hres, hz⟩ | (exfalso; omega))⟩⟩
        · exfalso; omega
        · exfalso; omega
        · exfalso; omega
        · refine zW_aload_n (pc' := 215) dX1_apply_3.1.2.1.1 rfl rfl ?_
          refine zG_ref (pc' := 218) 86 fg_X1_42 tb54 rfl dX1_apply_3.1.2.1.2 rfl ?_
          refine zW_aload_n (pc' := 219) dX1_apply_3.1.2.2.1 rfl rfl ?_
          refine zW_aload (pc' := 221) dX1_apply_3.1.2.2.2 rfl rfl ?_
          refine zW_iload_n (pc' := 222) dX1_apply_3.2.1.1.1 rfl rfl ?_
          refine cvV3 (pc' := 225) kX2_liftShade vX2_liftShade lk_X1_99 ⟨Nat.le_of_ble_eq_true rfl, Nat.le_of_ble_eq_true rfl⟩ tb86 vq2 rfl rfl (s_X2_liftShadeZ hK hF _ ⟨by omega, by omega⟩ _ ⟨by omega, by omega⟩ _ ⟨by omega, by omega⟩ f h hto (by omega) (by omega) (by omega) Fw.rf) dX1_apply_3.2.1.1.2 (Nat.le_of_ble_eq_true rfl) rfl ?_
          rintro r222 h ⟨hF, d222, p222⟩
          replace hf : ShE (κ 33 0) (κ 33 1) (h (s3 + 15)) f := by have q0_ := (d222.cell (k := (s3 + 15)) (by intro c hc; simp at hc <;> omega) (by intro c hc; simp at hc <;> omega)); rw [q0_]; exact hf
          replace hgh : Fw [(s4 + 15), s4] [] gh0 h := hgh.tr d222 (by simp) (by simp)
          have hq : κ 42 x1.toNat = 108 := by omega
          have hres : ShE (κ 33 0) (κ 33 1) (h (s4 + 15)) (stg (κ 33 0) (κ 33 1) (κ 35) (κ 42 x1.toNat) x2 f) := fun x y hp => (p222 x y hp).trans (by unfold stg; rw [hq, if_neg (by decide), if_neg (by decide), if_neg (by decide), if_pos rfl])
          have hz : h s4 1 = 0 := by rw [d222 s4 1 (by intro c hc; simp at hc <;> omega) (by simp)]; exact hz0
          refine zV_goto 430 dX1_apply_3.2.1.2.1 rfl ?_
          exact zV_vret rfl dX1_apply_9.2.2.2 ⟨hF, ⟨hgh, (by first | exact ⟨hres, hz⟩ | (exfalso; omega))⟩⟩
        · exfalso; omega
        · exfalso; omega
        · refine zW_aload_n (pc' := 201) dX1_apply_2.2.2.1.2 rfl rfl ?_
          refine zG_ref (pc' := 204) 86 fg_X1_42 tb54 rfl dX1_apply_2.2.2.2.1 rfl ?_
          refine zW_aload_n (pc' := 205) dX1_apply_2.2.2.2.2 rfl rfl ?_
          refine zW_aload (pc' := 207) dX1_apply_3.1.1.1.1 rfl rfl ?_
          refine zW_iload_n (pc' := 208) dX1_apply_3.1.1.1.2 rfl rfl ?_
          refine cvV3 (pc' := 211) kX2_takeDark vX2_takeDark lk_X1_96 ⟨Nat.le_of_ble_eq_true rfl, Nat.le_of_ble_eq_true rfl⟩ tb86 vq2 rfl rfl (s_X2_takeDarkZ hK hF _ ⟨by omega, by omega⟩ _ ⟨by omega, by omega⟩ _ ⟨by omega, by omega⟩ f h hto (by omega) (by omega) (by omega) Fw.rf) dX1_apply_3.1.1.2.1 (Nat.le_of_ble_eq_true rfl) rfl ?_
          rintro r208 h ⟨hF, d208, p208⟩
          replace hf : ShE (κ 33 0) (κ 33 1) (h (s3 + 15)) f := by have q0_ := (d208.cell (k := (s3 + 15)) (by intro c hc; simp at hc <;> omega) (by intro c hc; simp at hc <;> omega)); rw [q0_]; exact hf
          replace hgh : Fw [(s4 + 15), s4] [] gh0 h := hgh.tr d208 (by simp) (by simp)
          have hq : κ 42 x1.toNat = 111 := by omega
          have hres : ShE (κ 33 0) (κ 33 1) (h (s4 + 15)) (stg (κ 33 0) (κ 33 1) (κ 35) (κ 42 x1.toNat) x2 f) := fun x y hp => (p208 x y hp).trans (by unfold stg; rw [hq, if_neg (by decide), if_pos rfl])
          have hz : h s4 1 = 0 := by rw [d208 s4 1 (by intro c hc; simp at hc <;> omega) (by simp)]; exact hz0
          refine zV_goto 430 dX1_apply_3.1.1.2.2 rfl ?_
          exact zV_vret rfl dX1_apply_9.2.2.2 ⟨hF, ⟨hgh, (by first | exact ⟨hres, hz⟩ | (exfalso; omega))⟩⟩
        · exfalso; omega
        · exfalso; omega
        · exfalso; omega
        · exfalso; omega
        · exfalso; omega
        · exfalso; omega
        · exact zV_vret rfl dX1_apply_9.2.2.2 ⟨hF, ⟨hgh, (by first | exact ⟨hres, hz⟩ | (exfalso; omega))⟩⟩
    · exfalso; omega

theorem ShsC.w54 {κ h : Hp} {n v : Int} (hn : n ≤ 12) (a : ShsC κ h n) : ShsC κ (zwr h 54 7 v) n := fun k hk hk2 => by
  rw [zfun (by omega), zfun (by omega)]
  exact a k hk hk2


/-- the sheets of the class are the pictures, as far as they are made -/
def PicC (h : Hp) : Prop := h 54 7 ≤ h 41 0 ∧ ShsC h h (h 54 7)
theorem ShsC.key {κ h g : Hp} {n : Int} (e0 : h 33 0 = κ 33 0) (e1 : h 33 1 = κ 33 1) (e34 : h 34 = κ 34) (e35 : h 35 = κ 35) (e42 : h 42 = κ 42) (e43 : h 43 = κ 43) (e44 : h 44 = κ 44) : ShsC h g n ↔ ShsC κ g n := by
  unfold ShsC EFc LC AC
  rw [e0, e1, e34, e35, e42, e43, e44]
theorem ShsC.keyF {b : Bd} {κ h g : Hp} {n : Int} (hF : Fr b κ h) : ShsC h g n ↔ ShsC κ g n :=
  ShsC.key (hF.1 33 0 rfl) (hF.1 33 1 rfl) (keq hF rfl) (keq hF rfl) (keq hF rfl) (keq hF rfl) (keq hF rfl)
abbrev q_X1_sheetOfZ' (b : Bd) (κ : Hp) (x1 : Int) : Int → Hp → Prop := fun r h' => Fr b κ h' ∧ ((56 ≤ r) ∧ (r ≤ 70) ∧ (0 ≤ x1 → x1 ≤ κ 41 0 → r = 56 + x1 ∧ ShsC κ h' x1))
def SheetZ (b : Bd) : Prop := ∀ {G : Ga} {κ h : Hp}, KC κ → Fr b κ h → ∀ x1 : Int, rng x1 → zM G mX1_sheetOf yX1_sheetOf [.inr (.inr 54), .inl x1] h (q_X1_sheetOfZ' b κ x1)
theorem SheetZ.ok {b : Bd} (h : SheetZ b) : SheetOK b := fun hK hF x1 hx => (h hK hF x1 hx).mono (fun _ _ q => ⟨q.1, q.2.1, q.2.2.1⟩)
