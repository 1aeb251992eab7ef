abbrev q_X9_append (κ : Hp) (x1 : Int) : Int → Hp → Prop := fun r h' => Fm [(31, 1), (32, 999)] κ h' ∧ ((h' 31 1 = κ 31 1 + 4))
set_option maxHeartbeats 4000000 in
set_option maxRecDepth 20000 in
theorem s_X9_append {G : Ga} {κ : Hp} (hS : SI κ) (hR : KR κ) (hC : KC κ) (x1 : Int) (ht : κ 31 1 ≤ 136) : zM G mX9_append yX9_append [.inr (.inr 31), .inl x1] κ (q_X9_append κ x1) := by
  have f_31_1 := KCt hC
  have main : ∀ N : Nat, (∀ (v2 : Int) (h : Hp), Fm [(31, 1), (32, 999)] κ h → (-8 ≤ v2 ∧ v2 ≤ 24) → (8 * (h 31 1 - κ 31 1) = 24 - v2) → 23868 + 27 * (v2 - (-8)) + 26 < (N : Int) → zV G mX9_append (q_X9_append κ x1) 3 [some (.inr (.inr 31)), some (.inl x1), some (.inl v2)] [] h) := by
    intro N
    induction N with
    | zero =>
      intro v2 h hF g0 gc0 hm
      exfalso; omega
    | succ N ih =>
      have k3 := ih
      intro v2 h hF g0 gc0 hm
      refine zW_iload_n (pc' := 4) dX9_append_0.1.1.2.1 rfl rfl ?_
      refine zV_if_lt (tgt := 49) (pc' := 7) dX9_append_0.1.1.2.2 rfl rfl ⟨by omega, by omega⟩ (fun c4 => ?_) (fun c4 => ?_)
      · exact zV_vret rfl dX9_append_1.2.2.2 ⟨hF, by omega⟩
      · refine zW_aload_n (pc' := 8) dX9_append_0.1.2.1.1 rfl rfl ?_
        refine zG_int (pc' := 11) fg_X9_15 tb31 rfl dX9_append_0.1.2.1.2 rfl ?_
        have e8 := KCt hF.2.2.2
        refine zW_sipush (pc' := 14) dX9_append_0.1.2.2.1 rfl rfl ?_
        refine zV_cm_ge (tgt := 49) (pc' := 17) dX9_append_0.1.2.2.2 rfl rfl ⟨by omega, by omega⟩ ⟨by omega, by omega⟩ (fun c14 => ?_) (fun c14 => ?_)
        · exact zV_vret rfl dX9_append_1.2.2.2 ⟨hF, by omega⟩
        · refine zW_aload_n (pc' := 18) dX9_append_0.2.1.1.1 rfl rfl ?_
          refine zG_ref (pc' := 21) 32 fg_X9_9 tb31 rfl dX9_append_0.2.1.1.2 rfl ?_
          refine zW_aload_n (pc' := 22) dX9_append_0.2.1.2.1 rfl rfl ?_
          refine zG_int (pc' := 25) fg_X9_15 tb31 rfl dX9_append_0.2.1.2.2 rfl ?_
          have e22 := KCt hF.2.2.2
          refine zW_iload_n (pc' := 26) dX9_append_0.2.2.1.1 rfl rfl ?_
          refine zW_iload_n (pc' := 27) dX9_append_0.2.2.1.2 rfl rfl ?_
          refine zW_iushr (pc' := 28) dX9_append_0.2.2.2.1 rfl (fun v27 e27 => ?_)
          unfold rng at e27
          refine zW_sipush (pc' := 31) dX9_append_0.2.2.2.2 rfl rfl ?_
          refine zW_iandC (pc' := 32) (by omega) dX9_append_1.1.1.1.1 rfl (fun v31 e31 => ?_)
          refine zSm (pc' := 33) hF rfl (fun v' hv he => ⟨(SI_irr hF.2.1 (Or.inl (key_of rfl _)) (fun _ _ => hv)), (KR_irr hF.2.2.1 rfl), (KC_irr hF.2.2.2 rfl)⟩) tb32 (by omega) dX9_append_1.1.1.1.2 (by decide) rfl (fun h i32 hF a32 b32 w32 => ?_)
          have t32_31_1 := congrFun (congrFun w32 31) 1
          rw [zwr_ne (Or.inl (by decide))] at t32_31_1
          refine zW_aload_n (pc' := 34) dX9_append_1.1.1.2 rfl rfl ?_
          refine zW_dup (pc' := 35) dX9_append_1.1.2.1.1 rfl rfl ?_
          refine zG_int (pc' := 38) fg_X9_15 tb31 rfl dX9_append_1.1.2.1.2 rfl ?_
          have e35 := KCt hF.2.2.2
          refine zW_iconst (pc' := 39) dX9_append_1.1.2.2 rfl ?_
          refine zW_iadd (pc' := 40) dX9_append_1.2.1.1.1 rfl ?_
          refine zPm (pc' := 43) hF (Or.inl rfl) (SI_irr hF.2.1 (Or.inl rfl) (fun _ _ => ⟨by omega, by omega⟩)) (KR_irr hF.2.2.1 rfl) (KC_31_1 hF.2.2.2 (by omega)) fp_X9_15 tb31 rfl dX9_append_1.2.1.1.2 rfl (fun h hF w40 => ?_)
          have t40_31_1 := congrFun (congrFun w40 31) 1
          rw [zwr_eq] at t40_31_1
          refine zW_iinc (ls' := [_, _, _]) (pc' := 46) dX9_append_1.2.1.2 rfl (by decide) rfl rfl rfl ?_
          refine zV_goto 3 dX9_append_1.2.2.1 rfl ?_
          exact k3 _ _ hF (by omega) (by omega) (by omega)
  refine zM_of [some (.inr (.inr 31)), some (.inl x1), none] 1 rfl rfl (Nat.le_of_ble_eq_true rfl) rfl ?_
  refine (show ∀ h : Hp, Fm [(31, 1), (32, 999)] κ h → h = κ → zV G mX9_append (q_X9_append κ x1) 0 [some (.inr (.inr 31)), some (.inl x1), none] [] h from fun h hF hk0 => ?_) κ (Fm.rf hS hR hC) rfl
  have y0_31_1 : h 31 1 = κ 31 1 := by rw [hk0]
  refine zW_bipush (pc' := 2) dX9_append_0.1.1.1.1 rfl rfl ?_
  refine zW_istore_n (ls' := [_, _, _]) (pc' := 3) dX9_append_0.1.1.1.2 (by decide) rfl rfl rfl ?_
  exact (main 10000000000000000000000000000000000000000) _ _ hF (by omega) (by omega) (by omega)

abbrev q_X9_byteAt (κ h : Hp) (x1 : Int) : Int → Hp → Prop := fun r h' => h' = h ∧ ((-2147483648 ≤ r) ∧ (r ≤ 2147483647))
set_option maxHeartbeats 4000000 in
set_option maxRecDepth 20000 in
theorem s_X9_byteAt {G : Ga} {b : Bd} {κ h : Hp} (hK : KC κ) (hF : Fr b κ h) (x1 : Int) (hx1 : rng x1) : zM G mX9_byteAt yX9_byteAt [.inr (.inr 31), .inl x1] h (q_X9_byteAt κ h x1) := by
  have f_31_1 := KCt hK
  unfold rng at hx1
  refine zM_of [some (.inr (.inr 31)), some (.inl x1)] 0 rfl rfl (Nat.le_of_ble_eq_true rfl) rfl ?_
  refine zW_iload_n (pc' := 1) dX9_byteAt_0.1.1.1.1 rfl rfl ?_
  refine zV_if_lt (tgt := 21) (pc' := 4) dX9_byteAt_0.1.1.1.2 rfl rfl ⟨by omega, by omega⟩ (fun c1 => ?_) (fun c1 => ?_)
  · refine zW_iconst (pc' := 22) dX9_byteAt_0.2.2.1.2 rfl ?_
    exact zV_iret rfl dX9_byteAt_0.2.2.2 ⟨rfl, by omega⟩
  · refine zW_iload_n (pc' := 5) dX9_byteAt_0.1.1.2.1 rfl rfl ?_
    refine zW_aload_n (pc' := 6) dX9_byteAt_0.1.1.2.2 rfl rfl ?_
    refine zG_key (pc' := 9) hF rfl fg_X9_15 tb31 rfl dX9_byteAt_0.1.2.1.1 rfl ?_
    refine zV_cm_ge (tgt := 21) (pc' := 12) dX9_byteAt_0.1.2.1.2 rfl rfl ⟨by omega, by omega⟩ ⟨by omega, by omega⟩ (fun c9 => ?_) (fun c9 => ?_)
    · refine zW_iconst (pc' := 22) dX9_byteAt_0.2.2.1.2 rfl ?_
      exact zV_iret rfl dX9_byteAt_0.2.2.2 ⟨rfl, by omega⟩
    · refine zW_aload_n (pc' := 13) dX9_byteAt_0.1.2.2 rfl rfl ?_
      refine zG_ref (pc' := 16) 32 fg_X9_9 tb31 rfl dX9_byteAt_0.2.1.1.1 rfl ?_
      refine zW_iload_n (pc' := 17) dX9_byteAt_0.2.1.1.2 rfl rfl ?_
      refine zA_keyI (pc' := 18) hF rfl (by decide) (by decide) tb32 (by omega) dX9_byteAt_0.2.1.2 (by decide) rfl (fun e17 => ?_)
      refine zV_goto 22 dX9_byteAt_0.2.2.1.1 rfl ?_
      exact zV_iret rfl dX9_byteAt_0.2.2.2 ⟨rfl, by omega⟩

abbrev q_X9_empty (κ : Hp)  : Int → Hp → Prop := fun r h' => Fm [(31, 1)] κ h' ∧ ((h' 31 1 = 0))
set_option maxHeartbeats 4000000 in
set_option maxRecDepth 20000 in
theorem s_X9_empty {G : Ga} {κ : Hp} (hS : SI κ) (hR : KR κ) (hC : KC κ)  : zM G mX9_empty yX9_empty [.inr (.inr 31)] κ (q_X9_empty κ) := by
  refine zM_of [some (.inr (.inr 31))] 0 rfl rfl (Nat.le_of_ble_eq_true rfl) rfl ?_
  refine (show ∀ h : Hp, Fm [(31, 1)] κ h → h = κ → zV G mX9_empty (q_X9_empty κ) 0 [some (.inr (.inr 31))] [] h from fun h hF hk0 => ?_) κ (Fm.rf hS hR hC) rfl
  refine zW_aload_n (pc' := 1) dX9_empty_0.1.1 rfl rfl ?_
  refine zW_iconst (pc' := 2) dX9_empty_0.1.2 rfl ?_
  refine zPm (pc' := 5) hF (Or.inl rfl) (SI_irr hF.2.1 (Or.inl rfl) (fun _ _ => ⟨by omega, by omega⟩)) (KR_irr hF.2.2.1 rfl) (KC_31_1 hF.2.2.2 (by omega)) fp_X9_15 tb31 rfl dX9_empty_0.2.1 rfl (fun h hF w2 => ?_)
  have t2_31_1 := congrFun (congrFun w2 31) 1
  rw [zwr_eq] at t2_31_1
  exact zV_vret rfl dX9_empty_0.2.2 ⟨hF, by omega⟩

abbrev q_J7_fill_53178V34 (κ : Hp) (x2 : Int) : Int → Hp → Prop := fun r h' => Fm [(34, 999)] κ h' ∧ (True)
set_option maxHeartbeats 4000000 in
set_option maxRecDepth 20000 in
theorem s_J7_fill_53178V34 {G : Ga} {κ : Hp} (hS : SI κ) (hR : KR κ) (hC : KC κ) (x2 : Int) : zM G mJ7_fill_53178 yJ7_fill_53178 [.inr (.inr 34), .inl x2] κ (q_J7_fill_53178V34 κ x2) := by
  have main : ∀ N : Nat, (∀ (v2 v3 : Int) (h : Hp), Fm [(34, 999)] κ h → (0 ≤ v2 ∧ v2 ≤ 256) → (256 ≤ v3 ∧ v3 ≤ 256) → 34056 + 12 * (256 - v2) + 11 < (N : Int) → zV G mJ7_fill_53178 (q_J7_fill_53178V34 κ x2) 5 [some (.inr (.inr 34)), some (.inl x2), some (.inl v2), some (.inl v3)] [] h) := by
    intro N
    induction N with
    | zero =>
      intro v2 v3 h hF g0 g1 hm
      exfalso; omega
    | succ N ih =>
      have k5 := ih
      intro v2 v3 h hF g0 g1 hm
      refine zW_iload_n (pc' := 6) dJ7_fill_53178_0.1.2.1.2 rfl rfl ?_
      refine zW_iload_n (pc' := 7) dJ7_fill_53178_0.1.2.2.1 rfl rfl ?_
      refine zV_cm_ge (tgt := 20) (pc' := 10) dJ7_fill_53178_0.1.2.2.2 rfl rfl ⟨by omega, by omega⟩ ⟨by omega, by omega⟩ (fun c7 => ?_) (fun c7 => ?_)
      · exact zV_vret rfl dJ7_fill_53178_0.2.2.2 ⟨hF, trivial⟩
      · refine zW_aload_n (pc' := 11) dJ7_fill_53178_0.2.1.1.1 rfl rfl ?_
        refine zW_iload_n (pc' := 12) dJ7_fill_53178_0.2.1.1.2 rfl rfl ?_
        refine zW_iload_n (pc' := 13) dJ7_fill_53178_0.2.1.2.1 rfl rfl ?_
        refine zSm (pc' := 14) hF rfl (fun v' hv he => ⟨(SI_irr hF.2.1 (Or.inl (key_of rfl _)) (fun _ _ => hv)), (KR_irr hF.2.2.1 rfl), (KC_irr hF.2.2.2 rfl)⟩) tb34 (by omega) dJ7_fill_53178_0.2.1.2.2 (by decide) rfl (fun h i13 hF a13 b13 w13 => ?_)
        refine zW_iinc (ls' := [_, _, _, _]) (pc' := 17) dJ7_fill_53178_0.2.2.1.1 rfl (by decide) rfl rfl rfl ?_
        refine zV_goto 5 dJ7_fill_53178_0.2.2.1.2 rfl ?_
        exact k5 _ _ _ hF (by omega) (by omega) (by omega)
  refine zM_of [some (.inr (.inr 34)), some (.inl x2), none, none] 2 (by decide +kernel) rfl (Nat.le_of_ble_eq_true rfl) rfl ?_
  refine (show ∀ h : Hp, Fm [(34, 999)] κ h → h = κ → zV G mJ7_fill_53178 (q_J7_fill_53178V34 κ x2) 0 [some (.inr (.inr 34)), some (.inl x2), none, none] [] h from fun h hF hk0 => ?_) κ (Fm.rf hS hR hC) rfl
  refine zW_iconst (pc' := 1) dJ7_fill_53178_0.1.1.1.1 rfl ?_
  refine zW_istore_n (ls' := [_, _, _, _]) (pc' := 2) dJ7_fill_53178_0.1.1.1.2 (by decide) rfl rfl rfl ?_
  refine zW_aload_n (pc' := 3) dJ7_fill_53178_0.1.1.2.1 rfl rfl ?_
  refine zV_alen (pc' := 4) tb34 (by decide) dJ7_fill_53178_0.1.1.2.2 rfl ?_
  refine zW_istore_n (ls' := [_, _, _, _]) (pc' := 5) dJ7_fill_53178_0.1.2.1.1 (by decide) rfl rfl rfl ?_
  exact (main 10000000000000000000000000000000000000000) _ _ _ hF (by omega) (by omega) (by omega)

abbrev q_J7_fill_53178V35 (κ : Hp) (x2 : Int) : Int → Hp → Prop := fun r h' => Fm [(35, 999)] κ h' ∧ (True)
set_option maxHeartbeats 4000000 in
set_option maxRecDepth 20000 in
theorem s_J7_fill_53178V35 {G : Ga} {κ : Hp} (hS : SI κ) (hR : KR κ) (hC : KC κ) (x2 : Int) : zM G mJ7_fill_53178 yJ7_fill_53178 [.inr (.inr 35), .inl x2] κ (q_J7_fill_53178V35 κ x2) := by
  have main : ∀ N : Nat, (∀ (v2 v3 : Int) (h : Hp), Fm [(35, 999)] κ h → (0 ≤ v2 ∧ v2 ≤ 256) → (256 ≤ v3 ∧ v3 ≤ 256) → 34056 + 12 * (256 - v2) + 11 < (N : Int) → zV G mJ7_fill_53178 (q_J7_fill_53178V35 κ x2) 5 [some (.inr (.inr 35)), some (.inl x2), some (.inl v2), some (.inl v3)] [] h) := by
    intro N
    induction N with
    | zero =>
      intro v2 v3 h hF g0 g1 hm
      exfalso; omega
    | succ N ih =>
      have k5 := ih
      intro v2 v3 h hF g0 g1 hm
      refine zW_iload_n (pc' := 6) dJ7_fill_53178_0.1.2.1.2 rfl rfl ?_
      refine zW_iload_n (pc' := 7) dJ7_fill_53178_0.1.2.2.1 rfl rfl ?_
      refine zV_cm_ge (tgt := 20) (pc' := 10) dJ7_fill_53178_0.1.2.2.2 rfl rfl ⟨by omega, by omega⟩ ⟨by omega, by omega⟩ (fun c7 => ?_) (fun c7 => ?_)
      · exact zV_vret rfl dJ7_fill_53178_0.2.2.2 ⟨hF, trivial⟩
      · refine zW_aload_n (pc' := 11) dJ7_fill_53178_0.2.1.1.1 rfl rfl ?_
        refine zW_iload_n (pc' := 12) dJ7_fill_53178_0.2.1.1.2 rfl rfl ?_
        refine zW_iload_n (pc' := 13) dJ7_fill_53178_0.2.1.2.1 rfl rfl ?_
        refine zSm (pc' := 14) hF rfl (fun v' hv he => ⟨(SI_irr hF.2.1 (Or.inl (key_of rfl _)) (fun _ _ => hv)), (KR_irr hF.2.2.1 rfl), (KC_irr hF.2.2.2 rfl)⟩) tb35 (by omega) dJ7_fill_53178_0.2.1.2.2 (by decide) rfl (fun h i13 hF a13 b13 w13 => ?_)
        refine zW_iinc (ls' := [_, _, _, _]) (pc' := 17) dJ7_fill_53178_0.2.2.1.1 rfl (by decide) rfl rfl rfl ?_
        refine zV_goto 5 dJ7_fill_53178_0.2.2.1.2 rfl ?_
        exact k5 _ _ _ hF (by omega) (by omega) (by omega)
  refine zM_of [some (.inr (.inr 35)), some (.inl x2), none, none] 2 (by decide +kernel) rfl (Nat.le_of_ble_eq_true rfl) rfl ?_
  refine (show ∀ h : Hp, Fm [(35, 999)] κ h → h = κ → zV G mJ7_fill_53178 (q_J7_fill_53178V35 κ x2) 0 [some (.inr (.inr 35)), some (.inl x2), none, none] [] h from fun h hF hk0 => ?_) κ (Fm.rf hS hR hC) rfl
  refine zW_iconst (pc' := 1) dJ7_fill_53178_0.1.1.1.1 rfl ?_
  refine zW_istore_n (ls' := [_, _, _, _]) (pc' := 2) dJ7_fill_53178_0.1.1.1.2 (by decide) rfl rfl rfl ?_
  refine zW_aload_n (pc' := 3) dJ7_fill_53178_0.1.1.2.1 rfl rfl ?_
  refine zV_alen (pc' := 4) tb35 (by decide) dJ7_fill_53178_0.1.1.2.2 rfl ?_
  refine zW_istore_n (ls' := [_, _, _, _]) (pc' := 5) dJ7_fill_53178_0.1.2.1.1 (by decide) rfl rfl rfl ?_
  exact (main 10000000000000000000000000000000000000000) _ _ _ hF (by omega) (by omega) (by omega)

abbrev q_X5_wake (κ : Hp)  : Int → Hp → Prop := fun r h' => Fm [(35, 999)] κ h' ∧ (True)
set_option maxHeartbeats 4000000 in
set_option maxRecDepth 20000 in
theorem s_X5_wake {G : Ga} {κ : Hp} (hS : SI κ) (hR : KR κ) (hC : KC κ)  : zM G mX5_wake yX5_wake [.inr (.inr 33)] κ (q_X5_wake κ) := by
  refine zM_of [some (.inr (.inr 33))] 0 rfl rfl (Nat.le_of_ble_eq_true rfl) rfl ?_
  refine (show ∀ h : Hp, Fm [(35, 999)] κ h → h = κ → zV G mX5_wake (q_X5_wake κ) 0 [some (.inr (.inr 33))] [] h from fun h hF hk0 => ?_) κ (Fm.rf hS hR hC) rfl
  refine zW_aload_n (pc' := 1) dX5_wake_0.1.1.1 rfl rfl ?_
  refine zG_ref (pc' := 4) 35 fg_X5_22 tb33 rfl dX5_wake_0.1.1.2 rfl ?_
  refine zW_iconst (pc' := 5) dX5_wake_0.1.2 rfl ?_
  refine csV2 (pc' := 8) kJ7_fill_53178 vJ7_fill_53178 lk_X5_28 ⟨Nat.le_of_ble_eq_true rfl, Nat.le_of_ble_eq_true rfl⟩ rfl (s_J7_fill_53178V35 hF.2.1 hF.2.2.1 hF.2.2.2 _) dX5_wake_0.2.1 (Nat.le_of_ble_eq_true rfl) rfl ?_
  rintro r5 h ⟨hF1, p5⟩; replace hF := hF.tr hF1 rfl
  exact zV_vret rfl dX5_wake_0.2.2 ⟨hF, trivial⟩

abbrev q_X5_begin (κ : Hp) (x1 : Int) (x2 : Int) (x3 : Int) : Int → Hp → Prop := fun r h' => Fm [(33, 0), (33, 1), (33, 2), (34, 999), (35, 999)] κ h' ∧ ((h' 33 0 = x1 ∧ h' 33 1 = x2 ∧ h' 33 2 = x3))
set_option maxHeartbeats 4000000 in
set_option maxRecDepth 20000 in
theorem s_X5_begin {G : Ga} {κ : Hp} (hS : SI κ) (hR : KR κ) (hC : KC κ) (x1 : Int) (hx1 : 4 ≤ x1 ∧ x1 ≤ 16) (x2 : Int) (hx2 : 4 ≤ x2 ∧ x2 ≤ 16) (x3 : Int) (hx3 : 0 ≤ x3 ∧ x3 ≤ 3) : zM G mX5_begin yX5_begin [.inr (.inr 33), .inl x1, .inl x2, .inl x3] κ (q_X5_begin κ x1 x2 x3) := by
  refine zM_of [some (.inr (.inr 33)), some (.inl x1), some (.inl x2), some (.inl x3)] 0 rfl rfl (Nat.le_of_ble_eq_true rfl) rfl ?_
  refine (show ∀ h : Hp, Fm [(33, 0), (33, 1), (33, 2), (34, 999), (35, 999)] κ h → h = κ → zV G mX5_begin (q_X5_begin κ x1 x2 x3) 0 [some (.inr (.inr 33)), some (.inl x1), some (.inl x2), some (.inl x3)] [] h from fun h hF hk0 => ?_) κ (Fm.rf hS hR hC) rfl
  refine zW_aload_n (pc' := 1) dX5_begin_0.1.1.1.1 rfl rfl ?_
  refine zW_iload_n (pc' := 2) dX5_begin_0.1.1.1.2 rfl rfl ?_
  refine zPm (pc' := 5) hF (Or.inl rfl) (SI_irr hF.2.1 (Or.inl rfl) (fun _ _ => ⟨by omega, by omega⟩)) (KR_irr hF.2.2.1 rfl) (KC_33_0 hF.2.2.2 (by omega)) fp_X5_9 tb33 rfl dX5_begin_0.1.1.2.1 rfl (fun h hF w2 => ?_)
  have t2_33_0 := congrFun (congrFun w2 33) 0
  rw [zwr_eq] at t2_33_0
  have t2_33_1 := congrFun (congrFun w2 33) 1
  rw [zwr_ne (Or.inr (by decide))] at t2_33_1
  have t2_33_2 := congrFun (congrFun w2 33) 2
  rw [zwr_ne (Or.inr (by decide))] at t2_33_2
  refine zW_aload_n (pc' := 6) dX5_begin_0.1.1.2.2 rfl rfl ?_
  refine zW_iload_n (pc' := 7) dX5_begin_0.1.2.1.1 rfl rfl ?_
  refine zPm (pc' := 10) hF (Or.inl rfl) (SI_irr hF.2.1 (Or.inl rfl) (fun _ _ => ⟨by omega, by omega⟩)) (KR_irr hF.2.2.1 rfl) (KC_33_1 hF.2.2.2 (by omega)) fp_X5_15 tb33 rfl dX5_begin_0.1.2.1.2 rfl (fun h hF w7 => ?_)
  have t7_33_0 := congrFun (congrFun w7 33) 0
  rw [zwr_ne (Or.inr (by decide))] at t7_33_0
  have t7_33_1 := congrFun (congrFun w7 33) 1
  rw [zwr_eq] at t7_33_1
  have t7_33_2 := congrFun (congrFun w7 33) 2
  rw [zwr_ne (Or.inr (by decide))] at t7_33_2
  refine zW_aload_n (pc' := 11) dX5_begin_0.1.2.2.1 rfl rfl ?_
  refine zW_iload_n (pc' := 12) dX5_begin_0.1.2.2.2 rfl rfl ?_
  refine zPm (pc' := 15) hF (Or.inl rfl) (SI_irr hF.2.1 (Or.inl rfl) (fun _ _ => ⟨by omega, by omega⟩)) (KR_irr hF.2.2.1 rfl) (KC_33_2 hF.2.2.2 (by omega)) fp_X5_25 tb33 rfl dX5_begin_0.2.1.1.1 rfl (fun h hF w12 => ?_)
  have t12_33_0 := congrFun (congrFun w12 33) 0
  rw [zwr_ne (Or.inr (by decide))] at t12_33_0
  have t12_33_1 := congrFun (congrFun w12 33) 1
  rw [zwr_ne (Or.inr (by decide))] at t12_33_1
  have t12_33_2 := congrFun (congrFun w12 33) 2
  rw [zwr_eq] at t12_33_2
  refine zW_aload_n (pc' := 16) dX5_begin_0.2.1.1.2 rfl rfl ?_
  refine zG_ref (pc' := 19) 34 fg_X5_18 tb33 rfl dX5_begin_0.2.1.2.1 rfl ?_
  refine zW_iconst (pc' := 20) dX5_begin_0.2.1.2.2 rfl ?_
  refine csV2 (pc' := 23) kJ7_fill_53178 vJ7_fill_53178 lk_X5_28 ⟨Nat.le_of_ble_eq_true rfl, Nat.le_of_ble_eq_true rfl⟩ rfl (s_J7_fill_53178V34 hF.2.1 hF.2.2.1 hF.2.2.2 _) dX5_begin_0.2.2.1.1 (Nat.le_of_ble_eq_true rfl) rfl ?_
  rintro r20 h ⟨hF1, p20⟩; replace hF := hF.tr hF1 rfl
  have t20_33_0 := hF1.1 33 0 rfl rfl
  have t20_33_1 := hF1.1 33 1 rfl rfl
  have t20_33_2 := hF1.1 33 2 rfl rfl
  refine zW_aload_n (pc' := 24) dX5_begin_0.2.2.1.2 rfl rfl ?_
  refine cvV0 (pc' := 27) kX5_wake vX5_wake lk_X5_34 ⟨Nat.le_of_ble_eq_true rfl, Nat.le_of_ble_eq_true rfl⟩ tb33 vq5 rfl rfl (s_X5_wake hF.2.1 hF.2.2.1 hF.2.2.2) dX5_begin_0.2.2.2.1 (Nat.le_of_ble_eq_true rfl) rfl ?_
  rintro r24 h ⟨hF1, p24⟩; replace hF := hF.tr hF1 rfl
  have t24_33_0 := hF1.1 33 0 rfl rfl
  have t24_33_1 := hF1.1 33 1 rfl rfl
  have t24_33_2 := hF1.1 33 2 rfl rfl
  exact zV_vret rfl dX5_begin_0.2.2.2.2 ⟨hF, by omega⟩

abbrev q_X5_copyFromV36_33 (κ : Hp)  : Int → Hp → Prop := fun r h' => Fm [(36, 0), (36, 1), (36, 2), (37, 999), (38, 999)] κ h' ∧ ((h' 36 0 = κ 33 0 ∧ h' 36 1 = κ 33 1 ∧ h' 36 2 = κ 33 2))
set_option maxHeartbeats 4000000 in
set_option maxRecDepth 20000 in
theorem s_X5_copyFromV36_33 {G : Ga} {κ : Hp} (hS : SI κ) (hR : KR κ) (hC : KC κ)  : zM G mX5_copyFrom yX5_copyFrom [.inr (.inr 36), .inr (.inr 33)] κ (q_X5_copyFromV36_33 κ) := by
  have f_33_0 := KCw hC
  have f_33_1 := KCh hC
  have f_33_2 := KCp hC
  have f_36_0 := KCk0 hC
  have f_36_1 := KCk1 hC
  have f_36_2 := KCk2 hC
  refine zM_of [some (.inr (.inr 36)), some (.inr (.inr 33))] 0 rfl rfl (Nat.le_of_ble_eq_true rfl) rfl ?_
  refine (show ∀ h : Hp, Fm [(36, 0), (36, 1), (36, 2), (37, 999), (38, 999)] κ h → h = κ → zV G mX5_copyFrom (q_X5_copyFromV36_33 κ) 0 [some (.inr (.inr 36)), some (.inr (.inr 33))] [] h from fun h hF hk0 => ?_) κ (Fm.rf hS hR hC) rfl
  refine zW_aload_n (pc' := 1) dX5_copyFrom_0.1.1.1.1 rfl rfl ?_
  refine zW_aload_n (pc' := 2) dX5_copyFrom_0.1.1.1.2 rfl rfl ?_
  refine zGm (pc' := 5) hF rfl rfl fg_X5_9 tb33 rfl dX5_copyFrom_0.1.1.2.1 rfl ?_
  refine zPm (pc' := 8) hF (Or.inl rfl) (SI_irr hF.2.1 (Or.inl rfl) (fun _ _ => ⟨by omega, by omega⟩)) (KR_irr hF.2.2.1 rfl) (KC_36_0 hF.2.2.2 (by omega)) fp_X5_9 tb36 rfl dX5_copyFrom_0.1.1.2.2 rfl (fun h hF w5 => ?_)
  have t5_36_0 := congrFun (congrFun w5 36) 0
  rw [zwr_eq] at t5_36_0
  have t5_36_1 := congrFun (congrFun w5 36) 1
  rw [zwr_ne (Or.inr (by decide))] at t5_36_1
  have t5_36_2 := congrFun (congrFun w5 36) 2
  rw [zwr_ne (Or.inr (by decide))] at t5_36_2
  refine zW_aload_n (pc' := 9) dX5_copyFrom_0.1.2.1.1 rfl rfl ?_
  refine zW_aload_n (pc' := 10) dX5_copyFrom_0.1.2.1.2 rfl rfl ?_
  refine zGm (pc' := 13) hF rfl rfl fg_X5_15 tb33 rfl dX5_copyFrom_0.1.2.2.1 rfl ?_
  refine zPm (pc' := 16) hF (Or.inl rfl) (SI_irr hF.2.1 (Or.inl rfl) (fun _ _ => ⟨by omega, by omega⟩)) (KR_irr hF.2.2.1 rfl) (KC_36_1 hF.2.2.2 (by omega)) fp_X5_15 tb36 rfl dX5_copyFrom_0.1.2.2.2 rfl (fun h hF w13 => ?_)
  have t13_36_0 := congrFun (congrFun w13 36) 0
  rw [zwr_ne (Or.inr (by decide))] at t13_36_0
  have t13_36_1 := congrFun (congrFun w13 36) 1
  rw [zwr_eq] at t13_36_1
  have t13_36_2 := congrFun (congrFun w13 36) 2
  rw [zwr_ne (Or.inr (by decide))] at t13_36_2
  refine zW_aload_n (pc' := 17) dX5_copyFrom_0.2.1.1.1 rfl rfl ?_
  refine zW_aload_n (pc' := 18) dX5_copyFrom_0.2.1.1.2 rfl rfl ?_
  refine zGm (pc' := 21) hF rfl rfl fg_X5_25 tb33 rfl dX5_copyFrom_0.2.1.2.1 rfl ?_
  refine zPm (pc' := 24) hF (Or.inl rfl) (SI_irr hF.2.1 (Or.inl rfl) (fun _ _ => ⟨by omega, by omega⟩)) (KR_irr hF.2.2.1 rfl) (KC_36_2 hF.2.2.2 (by omega)) fp_X5_25 tb36 rfl dX5_copyFrom_0.2.1.2.2 rfl (fun h hF w21 => ?_)
  have t21_36_0 := congrFun (congrFun w21 36) 0
  rw [zwr_ne (Or.inr (by decide))] at t21_36_0
  have t21_36_1 := congrFun (congrFun w21 36) 1
  rw [zwr_ne (Or.inr (by decide))] at t21_36_1
  have t21_36_2 := congrFun (congrFun w21 36) 2
  rw [zwr_eq] at t21_36_2
  refine zW_aload_n (pc' := 25) dX5_copyFrom_0.2.2.1.1 rfl rfl ?_
  refine zG_ref (pc' := 28) 34 fg_X5_18 tb33 rfl dX5_copyFrom_0.2.2.1.2 rfl ?_
  refine zW_iconst (pc' := 29) dX5_copyFrom_0.2.2.2.1 rfl ?_
  refine zW_aload_n (pc' := 30) dX5_copyFrom_0.2.2.2.2 rfl rfl ?_
  refine zG_ref (pc' := 33) 37 fg_X5_18 tb36 rfl dX5_copyFrom_1.1.1.1.1 rfl ?_
  refine zW_iconst (pc' := 34) dX5_copyFrom_1.1.1.1.2 rfl ?_
  refine zW_sipush (pc' := 37) dX5_copyFrom_1.1.1.2.1 rfl rfl ?_
  refine zV_acopy (pc' := 40) tb34 tb37 (by omega) (by omega) (by omega) (by omega) (by decide) (by decide) ka_X5_37 (Nat.le_of_ble_eq_true rfl) (Nat.le_of_ble_eq_true rfl) dX5_copyFrom_1.1.1.2.2 rfl ?_
  have hz37 := hF.zc (a := 34) (c := 37) (d := 0) (n := 256) rfl rfl (by decide) (by decide) (KC_zc hF.2.2.2 rfl)
  refine (show ∀ h1 : Hp, Fm [(36, 0), (36, 1), (36, 2), (37, 999), (38, 999)] κ h1 → h1 = zcp h 34 37 0 256 → zV _ _ _ _ _ _ h1 from fun h hF w37 => ?_) _ hz37 rfl
  have t37_36_0 := congrFun (congrFun w37 36) 0
  rw [zcp_ne (by decide)] at t37_36_0
  have t37_36_1 := congrFun (congrFun w37 36) 1
  rw [zcp_ne (by decide)] at t37_36_1
  have t37_36_2 := congrFun (congrFun w37 36) 2
  rw [zcp_ne (by decide)] at t37_36_2
  refine zW_aload_n (pc' := 41) dX5_copyFrom_1.1.2.1.1 rfl rfl ?_
  refine zG_ref (pc' := 44) 35 fg_X5_22 tb33 rfl dX5_copyFrom_1.1.2.1.2 rfl ?_
  refine zW_iconst (pc' := 45) dX5_copyFrom_1.1.2.2 rfl ?_
  refine zW_aload_n (pc' := 46) dX5_copyFrom_1.2.1.1.1 rfl rfl ?_
  refine zG_ref (pc' := 49) 38 fg_X5_22 tb36 rfl dX5_copyFrom_1.2.1.1.2 rfl ?_
  refine zW_iconst (pc' := 50) dX5_copyFrom_1.2.1.2 rfl ?_
  refine zW_sipush (pc' := 53) dX5_copyFrom_1.2.2.1.1 rfl rfl ?_
  refine zV_acopy (pc' := 56) tb35 tb38 (by omega) (by omega) (by omega) (by omega) (by decide) (by decide) ka_X5_37 (Nat.le_of_ble_eq_true rfl) (Nat.le_of_ble_eq_true rfl) dX5_copyFrom_1.2.2.1.2 rfl ?_
  have hz53 := hF.zc (a := 35) (c := 38) (d := 0) (n := 256) rfl rfl (by decide) (by decide) (KC_zc hF.2.2.2 rfl)
  refine (show ∀ h1 : Hp, Fm [(36, 0), (36, 1), (36, 2), (37, 999), (38, 999)] κ h1 → h1 = zcp h 35 38 0 256 → zV _ _ _ _ _ _ h1 from fun h hF w53 => ?_) _ hz53 rfl
  have t53_36_0 := congrFun (congrFun w53 36) 0
  rw [zcp_ne (by decide)] at t53_36_0
  have t53_36_1 := congrFun (congrFun w53 36) 1
  rw [zcp_ne (by decide)] at t53_36_1
  have t53_36_2 := congrFun (congrFun w53 36) 2
  rw [zcp_ne (by decide)] at t53_36_2
  exact zV_vret rfl dX5_copyFrom_1.2.2.2 ⟨hF, by omega⟩

abbrev q_X5_copyFromV33_36 (κ : Hp)  : Int → Hp → Prop := fun r h' => Fm [(33, 0), (33, 1), (33, 2), (34, 999), (35, 999)] κ h' ∧ ((h' 33 0 = κ 36 0 ∧ h' 33 1 = κ 36 1 ∧ h' 33 2 = κ 36 2))
set_option maxHeartbeats 4000000 in
set_option maxRecDepth 20000 in
theorem s_X5_copyFromV33_36 {G : Ga} {κ : Hp} (hS : SI κ) (hR : KR κ) (hC : KC κ)  : zM G mX5_copyFrom yX5_copyFrom [.inr (.inr 33), .inr (.inr 36)] κ (q_X5_copyFromV33_36 κ) := by
  have f_33_0 := KCw hC
  have f_33_1 := KCh hC
  have f_33_2 := KCp hC
  have f_36_0 := KCk0 hC
  have f_36_1 := KCk1 hC
  have f_36_2 := KCk2 hC
  refine zM_of [some (.inr (.inr 33)), some (.inr (.inr 36))] 0 rfl rfl (Nat.le_of_ble_eq_true rfl) rfl ?_
  refine (show ∀ h : Hp, Fm [(33, 0), (33, 1), (33, 2), (34, 999), (35, 999)] κ h → h = κ → zV G mX5_copyFrom (q_X5_copyFromV33_36 κ) 0 [some (.inr (.inr 33)), some (.inr (.inr 36))] [] h from fun h hF hk0 => ?_) κ (Fm.rf hS hR hC) rfl
  refine zW_aload_n (pc' := 1) dX5_copyFrom_0.1.1.1.1 rfl rfl ?_
  refine zW_aload_n (pc' := 2) dX5_copyFrom_0.1.1.1.2 rfl rfl ?_
  refine zGm (pc' := 5) hF rfl rfl fg_X5_9 tb36 rfl dX5_copyFrom_0.1.1.2.1 rfl ?_
  refine zPm (pc' := 8) hF (Or.inl rfl) (SI_irr hF.2.1 (Or.inl rfl) (fun _ _ => ⟨by omega, by omega⟩)) (KR_irr hF.2.2.1 rfl) (KC_33_0 hF.2.2.2 (by omega)) fp_X5_9 tb33 rfl dX5_copyFrom_0.1.1.2.2 rfl (fun h hF w5 => ?_)
  have t5_33_0 := congrFun (congrFun w5 33) 0
  rw [zwr_eq] at t5_33_0
  have t5_33_1 := congrFun (congrFun w5 33) 1
  rw [zwr_ne (Or.inr (by decide))] at t5_33_1
  have t5_33_2 := congrFun (congrFun w5 33) 2
  rw [zwr_ne (Or.inr (by decide))] at t5_33_2
  refine zW_aload_n (pc' := 9) dX5_copyFrom_0.1.2.1.1 rfl rfl ?_
  refine zW_aload_n (pc' := 10) dX5_copyFrom_0.1.2.1.2 rfl rfl ?_
  refine zGm (pc' := 13) hF rfl rfl fg_X5_15 tb36 rfl dX5_copyFrom_0.1.2.2.1 rfl ?_
  refine zPm (pc' := 16) hF (Or.inl rfl) (SI_irr hF.2.1 (Or.inl rfl) (fun _ _ => ⟨by omega, by omega⟩)) (KR_irr hF.2.2.1 rfl) (KC_33_1 hF.2.2.2 (by omega)) fp_X5_15 tb33 rfl dX5_copyFrom_0.1.2.2.2 rfl (fun h hF w13 => ?_)
  have t13_33_0 := congrFun (congrFun w13 33) 0
  rw [zwr_ne (Or.inr (by decide))] at t13_33_0
  have t13_33_1 := congrFun (congrFun w13 33) 1
  rw [zwr_eq] at t13_33_1
  have t13_33_2 := congrFun (congrFun w13 33) 2
  rw [zwr_ne (Or.inr (by decide))] at t13_33_2
  refine zW_aload_n (pc' := 17) dX5_copyFrom_0.2.1.1.1 rfl rfl ?_
  refine zW_aload_n (pc' := 18) dX5_copyFrom_0.2.1.1.2 rfl rfl ?_
  refine zGm (pc' := 21) hF rfl rfl fg_X5_25 tb36 rfl dX5_copyFrom_0.2.1.2.1 rfl ?_
  refine zPm (pc' := 24) hF (Or.inl rfl) (SI_irr hF.2.1 (Or.inl rfl) (fun _ _ => ⟨by omega, by omega⟩)) (KR_irr hF.2.2.1 rfl) (KC_33_2 hF.2.2.2 (by omega)) fp_X5_25 tb33 rfl dX5_copyFrom_0.2.1.2.2 rfl (fun h hF w21 => ?_)
  have t21_33_0 := congrFun (congrFun w21 33) 0
  rw [zwr_ne (Or.inr (by decide))] at t21_33_0
  have t21_33_1 := congrFun (congrFun w21 33) 1
  rw [zwr_ne (Or.inr (by decide))] at t21_33_1
  have t21_33_2 := congrFun (congrFun w21 33) 2
  rw [zwr_eq] at t21_33_2
  refine zW_aload_n (pc' := 25) dX5_copyFrom_0.2.2.1.1 rfl rfl ?_
  refine zG_ref (pc' := 28) 37 fg_X5_18 tb36 rfl dX5_copyFrom_0.2.2.1.2 rfl ?_
  refine zW_iconst (pc' := 29) dX5_copyFrom_0.2.2.2.1 rfl ?_
  refine zW_aload_n (pc' := 30) dX5_copyFrom_0.2.2.2.2 rfl rfl ?_
  refine zG_ref (pc' := 33) 34 fg_X5_18 tb33 rfl dX5_copyFrom_1.1.1.1.1 rfl ?_
  refine zW_iconst (pc' := 34) dX5_copyFrom_1.1.1.1.2 rfl ?_
  refine zW_sipush (pc' := 37) dX5_copyFrom_1.1.1.2.1 rfl rfl ?_
  refine zV_acopy (pc' := 40) tb37 tb34 (by omega) (by omega) (by omega) (by omega) (by decide) (by decide) ka_X5_37 (Nat.le_of_ble_eq_true rfl) (Nat.le_of_ble_eq_true rfl) dX5_copyFrom_1.1.1.2.2 rfl ?_
  have hz37 := hF.zc (a := 37) (c := 34) (d := 0) (n := 256) rfl rfl (by decide) (by decide) (KC_zc hF.2.2.2 rfl)
  refine (show ∀ h1 : Hp, Fm [(33, 0), (33, 1), (33, 2), (34, 999), (35, 999)] κ h1 → h1 = zcp h 37 34 0 256 → zV _ _ _ _ _ _ h1 from fun h hF w37 => ?_) _ hz37 rfl
  have t37_33_0 := congrFun (congrFun w37 33) 0
  rw [zcp_ne (by decide)] at t37_33_0
  have t37_33_1 := congrFun (congrFun w37 33) 1
  rw [zcp_ne (by decide)] at t37_33_1
  have t37_33_2 := congrFun (congrFun w37 33) 2
  rw [zcp_ne (by decide)] at t37_33_2
  refine zW_aload_n (pc' := 41) dX5_copyFrom_1.1.2.1.1 rfl rfl ?_
  refine zG_ref (pc' := 44) 38 fg_X5_22 tb36 rfl dX5_copyFrom_1.1.2.1.2 rfl ?_
  refine zW_iconst (pc' := 45) dX5_copyFrom_1.1.2.2 rfl ?_
  refine zW_aload_n (pc' := 46) dX5_copyFrom_1.2.1.1.1 rfl rfl ?_
  refine zG_ref (pc' := 49) 35 fg_X5_22 tb33 rfl dX5_copyFrom_1.2.1.1.2 rfl ?_
  refine zW_iconst (pc' := 50) dX5_copyFrom_1.2.1.2 rfl ?_
  refine zW_sipush (pc' := 53) dX5_copyFrom_1.2.2.1.1 rfl rfl ?_
  refine zV_acopy (pc' := 56) tb38 tb35 (by omega) (by omega) (by omega) (by omega) (by decide) (by decide) ka_X5_37 (Nat.le_of_ble_eq_true rfl) (Nat.le_of_ble_eq_true rfl) dX5_copyFrom_1.2.2.1.2 rfl ?_
  have hz53 := hF.zc (a := 38) (c := 35) (d := 0) (n := 256) rfl rfl (by decide) (by decide) (KC_zc hF.2.2.2 rfl)
  refine (show ∀ h1 : Hp, Fm [(33, 0), (33, 1), (33, 2), (34, 999), (35, 999)] κ h1 → h1 = zcp h 38 35 0 256 → zV _ _ _ _ _ _ h1 from fun h hF w53 => ?_) _ hz53 rfl
  have t53_33_0 := congrFun (congrFun w53 33) 0
  rw [zcp_ne (by decide)] at t53_33_0
  have t53_33_1 := congrFun (congrFun w53 33) 1
  rw [zcp_ne (by decide)] at t53_33_1
  have t53_33_2 := congrFun (congrFun w53 33) 2
  rw [zcp_ne (by decide)] at t53_33_2
  exact zV_vret rfl dX5_copyFrom_1.2.2.2 ⟨hF, by omega⟩

abbrev q_X7_copyFromV41_49 (κ : Hp)  : Int → Hp → Prop := fun r h' => Fm [(41, 0), (41, 1), (42, 999), (43, 999), (44, 999)] κ h' ∧ (True)
set_option maxHeartbeats 4000000 in
set_option maxRecDepth 20000 in
theorem s_X7_copyFromV41_49 {G : Ga} {κ : Hp} (hS : SI κ) (hR : KR κ) (hC : KC κ)  : zM G mX7_copyFrom yX7_copyFrom [.inr (.inr 41), .inr (.inr 49)] κ (q_X7_copyFromV41_49 κ) := by
  have f_41_0 := KCm hC
  have f_41_1 := KCf hC
  have f_45_0 := KCr0 hC
  have f_45_1 := KCr1 hC
  have f_49_0 := KCd0 hC
  have f_49_1 := KCd1 hC
  refine zM_of [some (.inr (.inr 41)), some (.inr (.inr 49))] 0 rfl rfl (Nat.le_of_ble_eq_true rfl) rfl ?_
  refine (show ∀ h : Hp, Fm [(41, 0), (41, 1), (42, 999), (43, 999), (44, 999)] κ h → h = κ → zV G mX7_copyFrom (q_X7_copyFromV41_49 κ) 0 [some (.inr (.inr 41)), some (.inr (.inr 49))] [] h from fun h hF hk0 => ?_) κ (Fm.rf hS hR hC) rfl
  refine zW_aload_n (pc' := 1) dX7_copyFrom_0.1.1.1.1 rfl rfl ?_
  refine zW_aload_n (pc' := 2) dX7_copyFrom_0.1.1.1.2 rfl rfl ?_
  refine zGm (pc' := 5) hF rfl rfl fg_X7_21 tb49 rfl dX7_copyFrom_0.1.1.2.1 rfl ?_
  refine zPm (pc' := 8) hF (Or.inl rfl) (SI_irr hF.2.1 (Or.inl rfl) (fun _ _ => ⟨by omega, by omega⟩)) (KR_irr hF.2.2.1 rfl) (KC_41_0 hF.2.2.2 (by omega)) fp_X7_21 tb41 rfl dX7_copyFrom_0.1.1.2.2 rfl (fun h hF w5 => ?_)
  refine zW_aload_n (pc' := 9) dX7_copyFrom_0.1.2.1.1 rfl rfl ?_
  refine zW_aload_n (pc' := 10) dX7_copyFrom_0.1.2.1.2 rfl rfl ?_
  refine zGm (pc' := 13) hF rfl rfl fg_X7_25 tb49 rfl dX7_copyFrom_0.1.2.2.1 rfl ?_
  refine zPm (pc' := 16) hF (Or.inl rfl) (SI_irr hF.2.1 (Or.inl rfl) (fun _ _ => ⟨by omega, by omega⟩)) (KR_irr hF.2.2.1 rfl) (KC_41_1 hF.2.2.2 (by omega)) fp_X7_25 tb41 rfl dX7_copyFrom_0.1.2.2.2 rfl (fun h hF w13 => ?_)
  refine zW_aload_n (pc' := 17) dX7_copyFrom_0.2.1.1.1 rfl rfl ?_
  refine zG_ref (pc' := 20) 50 fg_X7_9 tb49 rfl dX7_copyFrom_0.2.1.1.2 rfl ?_
  refine zW_iconst (pc' := 21) dX7_copyFrom_0.2.1.2.1 rfl ?_
  refine zW_aload_n (pc' := 22) dX7_copyFrom_0.2.1.2.2 rfl rfl ?_
  refine zG_ref (pc' := 25) 42 fg_X7_9 tb41 rfl dX7_copyFrom_0.2.2.1.1 rfl ?_
  refine zW_iconst (pc' := 26) dX7_copyFrom_0.2.2.1.2 rfl ?_
  refine zW_aload_n (pc' := 27) dX7_copyFrom_0.2.2.2.1 rfl rfl ?_
  refine zG_ref (pc' := 30) 42 fg_X7_9 tb41 rfl dX7_copyFrom_0.2.2.2.2 rfl ?_
  refine zV_alen (pc' := 31) tb42 (by decide) dX7_copyFrom_1.1.1.1.1 rfl ?_
  refine zV_acopy (pc' := 34) tb50 tb42 (by omega) (by omega) (by omega) (by omega) (by decide) (by decide) ka_X7_28 (Nat.le_of_ble_eq_true rfl) (Nat.le_of_ble_eq_true rfl) dX7_copyFrom_1.1.1.1.2 rfl ?_
  have hz31 := hF.zc (a := 50) (c := 42) (d := 0) (n := 14) rfl rfl (by decide) (by decide) (KC_zc hF.2.2.2 rfl)
  refine (show ∀ h1 : Hp, Fm [(41, 0), (41, 1), (42, 999), (43, 999), (44, 999)] κ h1 → h1 = zcp h 50 42 0 14 → zV _ _ _ _ _ _ h1 from fun h hF w31 => ?_) _ hz31 rfl
  refine zW_aload_n (pc' := 35) dX7_copyFrom_1.1.1.2.1 rfl rfl ?_
  refine zG_ref (pc' := 38) 51 fg_X7_15 tb49 rfl dX7_copyFrom_1.1.1.2.2 rfl ?_
  refine zW_iconst (pc' := 39) dX7_copyFrom_1.1.2.1.1 rfl ?_
  refine zW_aload_n (pc' := 40) dX7_copyFrom_1.1.2.1.2 rfl rfl ?_
  refine zG_ref (pc' := 43) 43 fg_X7_15 tb41 rfl dX7_copyFrom_1.1.2.2.1 rfl ?_
  refine zW_iconst (pc' := 44) dX7_copyFrom_1.1.2.2.2 rfl ?_
  refine zW_aload_n (pc' := 45) dX7_copyFrom_1.2.1.1.1 rfl rfl ?_
  refine zG_ref (pc' := 48) 43 fg_X7_15 tb41 rfl dX7_copyFrom_1.2.1.1.2 rfl ?_
  refine zV_alen (pc' := 49) tb43 (by decide) dX7_copyFrom_1.2.1.2.1 rfl ?_
  refine zV_acopy (pc' := 52) tb51 tb43 (by omega) (by omega) (by omega) (by omega) (by decide) (by decide) ka_X7_28 (Nat.le_of_ble_eq_true rfl) (Nat.le_of_ble_eq_true rfl) dX7_copyFrom_1.2.1.2.2 rfl ?_
  have hz49 := hF.zc (a := 51) (c := 43) (d := 0) (n := 14) rfl rfl (by decide) (by decide) (KC_z43 hF.2.2.2 hF.2.2.2.2.2.2.2.2.2.2.2.2)
  refine (show ∀ h1 : Hp, Fm [(41, 0), (41, 1), (42, 999), (43, 999), (44, 999)] κ h1 → h1 = zcp h 51 43 0 14 → zV _ _ _ _ _ _ h1 from fun h hF w49 => ?_) _ hz49 rfl
  refine zW_aload_n (pc' := 53) dX7_copyFrom_1.2.2.1.1 rfl rfl ?_
  refine zG_ref (pc' := 56) 52 fg_X7_18 tb49 rfl dX7_copyFrom_1.2.2.1.2 rfl ?_
  refine zW_iconst (pc' := 57) dX7_copyFrom_1.2.2.2.1 rfl ?_
  refine zW_aload_n (pc' := 58) dX7_copyFrom_1.2.2.2.2 rfl rfl ?_
  refine zG_ref (pc' := 61) 44 fg_X7_18 tb41 rfl dX7_copyFrom_2.1.1.1 rfl ?_
  refine zW_iconst (pc' := 62) dX7_copyFrom_2.1.1.2 rfl ?_
  refine zW_aload_n (pc' := 63) dX7_copyFrom_2.1.2.1 rfl rfl ?_
  refine zG_ref (pc' := 66) 44 fg_X7_18 tb41 rfl dX7_copyFrom_2.1.2.2 rfl ?_
  refine zV_alen (pc' := 67) tb44 (by decide) dX7_copyFrom_2.2.1.1 rfl ?_
  refine zV_acopy (pc' := 70) tb52 tb44 (by omega) (by omega) (by omega) (by omega) (by decide) (by decide) ka_X7_28 (Nat.le_of_ble_eq_true rfl) (Nat.le_of_ble_eq_true rfl) dX7_copyFrom_2.2.1.2 rfl ?_
  have hz67 := hF.zc (a := 52) (c := 44) (d := 0) (n := 64) rfl rfl (by decide) (by decide) (KC_zc hF.2.2.2 rfl)
  refine (show ∀ h1 : Hp, Fm [(41, 0), (41, 1), (42, 999), (43, 999), (44, 999)] κ h1 → h1 = zcp h 52 44 0 64 → zV _ _ _ _ _ _ h1 from fun h hF w67 => ?_) _ hz67 rfl
  exact zV_vret rfl dX7_copyFrom_2.2.2 ⟨hF, trivial⟩

abbrev q_X7_copyFromV45_41 (κ : Hp)  : Int → Hp → Prop := fun r h' => Fm [(45, 0), (45, 1), (46, 999), (47, 999), (48, 999)] κ h' ∧ (True)
set_option maxHeartbeats 4000000 in
set_option maxRecDepth 20000 in
theorem s_X7_copyFromV45_41 {G : Ga} {κ : Hp} (hS : SI κ) (hR : KR κ) (hC : KC κ)  : zM G mX7_copyFrom yX7_copyFrom [.inr (.inr 45), .inr (.inr 41)] κ (q_X7_copyFromV45_41 κ) := by
  have f_41_0 := KCm hC
  have f_41_1 := KCf hC
  have f_45_0 := KCr0 hC
  have f_45_1 := KCr1 hC
  have f_49_0 := KCd0 hC
  have f_49_1 := KCd1 hC
  refine zM_of [some (.inr (.inr 45)), some (.inr (.inr 41))] 0 rfl rfl (Nat.le_of_ble_eq_true rfl) rfl ?_
  refine (show ∀ h : Hp, Fm [(45, 0), (45, 1), (46, 999), (47, 999), (48, 999)] κ h → h = κ → zV G mX7_copyFrom (q_X7_copyFromV45_41 κ) 0 [some (.inr (.inr 45)), some (.inr (.inr 41))] [] h from fun h hF hk0 => ?_) κ (Fm.rf hS hR hC) rfl
  refine zW_aload_n (pc' := 1) dX7_copyFrom_0.1.1.1.1 rfl rfl ?_
  refine zW_aload_n (pc' := 2) dX7_copyFrom_0.1.1.1.2 rfl rfl ?_
  refine zGm (pc' := 5) hF rfl rfl fg_X7_21 tb41 rfl dX7_copyFrom_0.1.1.2.1 rfl ?_
  refine zPm (pc' := 8) hF (Or.inl rfl) (SI_irr hF.2.1 (Or.inl rfl) (fun _ _ => ⟨by omega, by omega⟩)) (KR_irr hF.2.2.1 rfl) (KC_45_0 hF.2.2.2 (by omega)) fp_X7_21 tb45 rfl dX7_copyFrom_0.1.1.2.2 rfl (fun h hF w5 => ?_)
  refine zW_aload_n (pc' := 9) dX7_copyFrom_0.1.2.1.1 rfl rfl ?_
  refine zW_aload_n (pc' := 10) dX7_copyFrom_0.1.2.1.2 rfl rfl ?_
  refine zGm (pc' := 13) hF rfl rfl fg_X7_25 tb41 rfl dX7_copyFrom_0.1.2.2.1 rfl ?_
  refine zPm (pc' := 16) hF (Or.inl rfl) (SI_irr hF.2.1 (Or.inl rfl) (fun _ _ => ⟨by omega, by omega⟩)) (KR_irr hF.2.2.1 rfl) (KC_45_1 hF.2.2.2 (by omega)) fp_X7_25 tb45 rfl dX7_copyFrom_0.1.2.2.2 rfl (fun h hF w13 => ?_)
  refine zW_aload_n (pc' := 17) dX7_copyFrom_0.2.1.1.1 rfl rfl ?_
  refine zG_ref (pc' := 20) 42 fg_X7_9 tb41 rfl dX7_copyFrom_0.2.1.1.2 rfl ?_
  refine zW_iconst (pc' := 21) dX7_copyFrom_0.2.1.2.1 rfl ?_
  refine zW_aload_n (pc' := 22) dX7_copyFrom_0.2.1.2.2 rfl rfl ?_
  refine zG_ref (pc' := 25) 46 fg_X7_9 tb45 rfl dX7_copyFrom_0.2.2.1.1 rfl ?_
  refine zW_iconst (pc' := 26) dX7_copyFrom_0.2.2.1.2 rfl ?_
  refine zW_aload_n (pc' := 27) dX7_copyFrom_0.2.2.2.1 rfl rfl ?_
  refine zG_ref (pc' := 30) 46 fg_X7_9 tb45 rfl dX7_copyFrom_0.2.2.2.2 rfl ?_
  refine zV_alen (pc' := 31) tb46 (by decide) dX7_copyFrom_1.1.1.1.1 rfl ?_
  refine zV_acopy (pc' := 34) tb42 tb46 (by omega) (by omega) (by omega) (by omega) (by decide) (by decide) ka_X7_28 (Nat.le_of_ble_eq_true rfl) (Nat.le_of_ble_eq_true rfl) dX7_copyFrom_1.1.1.1.2 rfl ?_
  have hz31 := hF.zc (a := 42) (c := 46) (d := 0) (n := 14) rfl rfl (by decide) (by decide) (KC_zc hF.2.2.2 rfl)
  refine (show ∀ h1 : Hp, Fm [(45, 0), (45, 1), (46, 999), (47, 999), (48, 999)] κ h1 → h1 = zcp h 42 46 0 14 → zV _ _ _ _ _ _ h1 from fun h hF w31 => ?_) _ hz31 rfl
  refine zW_aload_n (pc' := 35) dX7_copyFrom_1.1.1.2.1 rfl rfl ?_
  refine zG_ref (pc' := 38) 43 fg_X7_15 tb41 rfl dX7_copyFrom_1.1.1.2.2 rfl ?_
  refine zW_iconst (pc' := 39) dX7_copyFrom_1.1.2.1.1 rfl ?_
  refine zW_aload_n (pc' := 40) dX7_copyFrom_1.1.2.1.2 rfl rfl ?_
  refine zG_ref (pc' := 43) 47 fg_X7_15 tb45 rfl dX7_copyFrom_1.1.2.2.1 rfl ?_
  refine zW_iconst (pc' := 44) dX7_copyFrom_1.1.2.2.2 rfl ?_
  refine zW_aload_n (pc' := 45) dX7_copyFrom_1.2.1.1.1 rfl rfl ?_
  refine zG_ref (pc' := 48) 47 fg_X7_15 tb45 rfl dX7_copyFrom_1.2.1.1.2 rfl ?_
  refine zV_alen (pc' := 49) tb47 (by decide) dX7_copyFrom_1.2.1.2.1 rfl ?_
  refine zV_acopy (pc' := 52) tb43 tb47 (by omega) (by omega) (by omega) (by omega) (by decide) (by decide) ka_X7_28 (Nat.le_of_ble_eq_true rfl) (Nat.le_of_ble_eq_true rfl) dX7_copyFrom_1.2.1.2.2 rfl ?_
  have hz49 := hF.zc (a := 43) (c := 47) (d := 0) (n := 14) rfl rfl (by decide) (by decide) (KC_z47 hF.2.2.2 hF.2.2.2.2.2.1.2.2)
  refine (show ∀ h1 : Hp, Fm [(45, 0), (45, 1), (46, 999), (47, 999), (48, 999)] κ h1 → h1 = zcp h 43 47 0 14 → zV _ _ _ _ _ _ h1 from fun h hF w49 => ?_) _ hz49 rfl
  refine zW_aload_n (pc' := 53) dX7_copyFrom_1.2.2.1.1 rfl rfl ?_
  refine zG_ref (pc' := 56) 44 fg_X7_18 tb41 rfl dX7_copyFrom_1.2.2.1.2 rfl ?_
  refine zW_iconst (pc' := 57) dX7_copyFrom_1.2.2.2.1 rfl ?_
  refine zW_aload_n (pc' := 58) dX7_copyFrom_1.2.2.2.2 rfl rfl ?_
  refine zG_ref (pc' := 61) 48 fg_X7_18 tb45 rfl dX7_copyFrom_2.1.1.1 rfl ?_
  refine zW_iconst (pc' := 62) dX7_copyFrom_2.1.1.2 rfl ?_
  refine zW_aload_n (pc' := 63) dX7_copyFrom_2.1.2.1 rfl rfl ?_
  refine zG_ref (pc' := 66) 48 fg_X7_18 tb45 rfl dX7_copyFrom_2.1.2.2 rfl ?_
  refine zV_alen (pc' := 67) tb48 (by decide) dX7_copyFrom_2.2.1.1 rfl ?_
  refine zV_acopy (pc' := 70) tb44 tb48 (by omega) (by omega) (by omega) (by omega) (by decide) (by decide) ka_X7_28 (Nat.le_of_ble_eq_true rfl) (Nat.le_of_ble_eq_true rfl) dX7_copyFrom_2.2.1.2 rfl ?_
  have hz67 := hF.zc (a := 44) (c := 48) (d := 0) (n := 64) rfl rfl (by decide) (by decide) (KC_zc hF.2.2.2 rfl)
  refine (show ∀ h1 : Hp, Fm [(45, 0), (45, 1), (46, 999), (47, 999), (48, 999)] κ h1 → h1 = zcp h 44 48 0 64 → zV _ _ _ _ _ _ h1 from fun h hF w67 => ?_) _ hz67 rfl
  exact zV_vret rfl dX7_copyFrom_2.2.2 ⟨hF, trivial⟩

abbrev q_X7_copyFromV41_45 (κ : Hp)  : Int → Hp → Prop := fun r h' => Fm [(41, 0), (41, 1), (42, 999), (43, 999), (44, 999)] κ h' ∧ (True)
set_option maxHeartbeats 4000000 in
set_option maxRecDepth 20000 in
theorem s_X7_copyFromV41_45 {G : Ga} {κ : Hp} (hS : SI κ) (hR : KR κ) (hC : KC κ)  : zM G mX7_copyFrom yX7_copyFrom [.inr (.inr 41), .inr (.inr 45)] κ (q_X7_copyFromV41_45 κ) := by
  have f_41_0 := KCm hC
  have f_41_1 := KCf hC
  have f_45_0 := KCr0 hC
  have f_45_1 := KCr1 hC
  have f_49_0 := KCd0 hC
  have f_49_1 := KCd1 hC
  refine zM_of [some (.inr (.inr 41)), some (.inr (.inr 45))] 0 rfl rfl (Nat.le_of_ble_eq_true rfl) rfl ?_
  refine (show ∀ h : Hp, Fm [(41, 0), (41, 1), (42, 999), (43, 999), (44, 999)] κ h → h = κ → zV G mX7_copyFrom (q_X7_copyFromV41_45 κ) 0 [some (.inr (.inr 41)), some (.inr (.inr 45))] [] h from fun h hF hk0 => ?_) κ (Fm.rf hS hR hC) rfl
  refine zW_aload_n (pc' := 1) dX7_copyFrom_0.1.1.1.1 rfl rfl ?_
  refine zW_aload_n (pc' := 2) dX7_copyFrom_0.1.1.1.2 rfl rfl ?_
  refine zGm (pc' := 5) hF rfl rfl fg_X7_21 tb45 rfl dX7_copyFrom_0.1.1.2.1 rfl ?_
  refine zPm (pc' := 8) hF (Or.inl rfl) (SI_irr hF.2.1 (Or.inl rfl) (fun _ _ => ⟨by omega, by omega⟩)) (KR_irr hF.2.2.1 rfl) (KC_41_0 hF.2.2.2 (by omega)) fp_X7_21 tb41 rfl dX7_copyFrom_0.1.1.2.2 rfl (fun h hF w5 => ?_)
  refine zW_aload_n (pc' := 9) dX7_copyFrom_0.1.2.1.1 rfl rfl ?_
  refine zW_aload_n (pc' := 10) dX7_copyFrom_0.1.2.1.2 rfl rfl ?_
  refine zGm (pc' := 13) hF rfl rfl fg_X7_25 tb45 rfl dX7_copyFrom_0.1.2.2.1 rfl ?_
  refine zPm (pc' := 16) hF (Or.inl rfl) (SI_irr hF.2.1 (Or.inl rfl) (fun _ _ => ⟨by omega, by omega⟩)) (KR_irr hF.2.2.1 rfl) (KC_41_1 hF.2.2.2 (by omega)) fp_X7_25 tb41 rfl dX7_copyFrom_0.1.2.2.2 rfl (fun h hF w13 => ?_)
  refine zW_aload_n (pc' := 17) dX7_copyFrom_0.2.1.1.1 rfl rfl ?_
  refine zG_ref (pc' := 20) 46 fg_X7_9 tb45 rfl dX7_copyFrom_0.2.1.1.2 rfl ?_
  refine zW_iconst (pc' := 21) dX7_copyFrom_0.2.1.2.1 rfl ?_
  refine zW_aload_n (pc' := 22) dX7_copyFrom_0.2.1.2.2 rfl rfl ?_
  refine zG_ref (pc' := 25) 42 fg_X7_9 tb41 rfl dX7_copyFrom_0.2.2.1.1 rfl ?_
  refine zW_iconst (pc' := 26) dX7_copyFrom_0.2.2.1.2 rfl ?_
  refine zW_aload_n (pc' := 27) dX7_copyFrom_0.2.2.2.1 rfl rfl ?_
  refine zG_ref (pc' := 30) 42 fg_X7_9 tb41 rfl dX7_copyFrom_0.2.2.2.2 rfl ?_
  refine zV_alen (pc' := 31) tb42 (by decide) dX7_copyFrom_1.1.1.1.1 rfl ?_
  refine zV_acopy (pc' := 34) tb46 tb42 (by omega) (by omega) (by omega) (by omega) (by decide) (by decide) ka_X7_28 (Nat.le_of_ble_eq_true rfl) (Nat.le_of_ble_eq_true rfl) dX7_copyFrom_1.1.1.1.2 rfl ?_
  have hz31 := hF.zc (a := 46) (c := 42) (d := 0) (n := 14) rfl rfl (by decide) (by decide) (KC_zc hF.2.2.2 rfl)
  refine (show ∀ h1 : Hp, Fm [(41, 0), (41, 1), (42, 999), (43, 999), (44, 999)] κ h1 → h1 = zcp h 46 42 0 14 → zV _ _ _ _ _ _ h1 from fun h hF w31 => ?_) _ hz31 rfl
  refine zW_aload_n (pc' := 35) dX7_copyFrom_1.1.1.2.1 rfl rfl ?_
  refine zG_ref (pc' := 38) 47 fg_X7_15 tb45 rfl dX7_copyFrom_1.1.1.2.2 rfl ?_
  refine zW_iconst (pc' := 39) dX7_copyFrom_1.1.2.1.1 rfl ?_
  refine zW_aload_n (pc' := 40) dX7_copyFrom_1.1.2.1.2 rfl rfl ?_
  refine zG_ref (pc' := 43) 43 fg_X7_15 tb41 rfl dX7_copyFrom_1.1.2.2.1 rfl ?_
  refine zW_iconst (pc' := 44) dX7_copyFrom_1.1.2.2.2 rfl ?_
  refine zW_aload_n (pc' := 45) dX7_copyFrom_1.2.1.1.1 rfl rfl ?_
  refine zG_ref (pc' := 48) 43 fg_X7_15 tb41 rfl dX7_copyFrom_1.2.1.1.2 rfl ?_
  refine zV_alen (pc' := 49) tb43 (by decide) dX7_copyFrom_1.2.1.2.1 rfl ?_
  refine zV_acopy (pc' := 52) tb47 tb43 (by omega) (by omega) (by omega) (by omega) (by decide) (by decide) ka_X7_28 (Nat.le_of_ble_eq_true rfl) (Nat.le_of_ble_eq_true rfl) dX7_copyFrom_1.2.1.2.2 rfl ?_
  have hz49 := hF.zc (a := 47) (c := 43) (d := 0) (n := 14) rfl rfl (by decide) (by decide) (KC_z43 hF.2.2.2 hF.2.2.2.2.2.2.1.2.2)
  refine (show ∀ h1 : Hp, Fm [(41, 0), (41, 1), (42, 999), (43, 999), (44, 999)] κ h1 → h1 = zcp h 47 43 0 14 → zV _ _ _ _ _ _ h1 from fun h hF w49 => ?_) _ hz49 rfl
  refine zW_aload_n (pc' := 53) dX7_copyFrom_1.2.2.1.1 rfl rfl ?_
  refine zG_ref (pc' := 56) 48 fg_X7_18 tb45 rfl dX7_copyFrom_1.2.2.1.2 rfl ?_
  refine zW_iconst (pc' := 57) dX7_copyFrom_1.2.2.2.1 rfl ?_
  refine zW_aload_n (pc' := 58) dX7_copyFrom_1.2.2.2.2 rfl rfl ?_
  refine zG_ref (pc' := 61) 44 fg_X7_18 tb41 rfl dX7_copyFrom_2.1.1.1 rfl ?_
  refine zW_iconst (pc' := 62) dX7_copyFrom_2.1.1.2 rfl ?_
  refine zW_aload_n (pc' := 63) dX7_copyFrom_2.1.2.1 rfl rfl ?_
  refine zG_ref (pc' := 66) 44 fg_X7_18 tb41 rfl dX7_copyFrom_2.1.2.2 rfl ?_
  refine zV_alen (pc' := 67) tb44 (by decide) dX7_copyFrom_2.2.1.1 rfl ?_
  refine zV_acopy (pc' := 70) tb48 tb44 (by omega) (by omega) (by omega) (by omega) (by decide) (by decide) ka_X7_28 (Nat.le_of_ble_eq_true rfl) (Nat.le_of_ble_eq_true rfl) dX7_copyFrom_2.2.1.2 rfl ?_
  have hz67 := hF.zc (a := 48) (c := 44) (d := 0) (n := 64) rfl rfl (by decide) (by decide) (KC_zc hF.2.2.2 rfl)
  refine (show ∀ h1 : Hp, Fm [(41, 0), (41, 1), (42, 999), (43, 999), (44, 999)] κ h1 → h1 = zcp h 48 44 0 64 → zV _ _ _ _ _ _ h1 from fun h hF w67 => ?_) _ hz67 rfl
  exact zV_vret rfl dX7_copyFrom_2.2.2 ⟨hF, trivial⟩

abbrev q_X1_forget (κ : Hp)  : Int → Hp → Prop := fun r h' => Fm [(54, 7)] κ h' ∧ ((h' 54 7 = -1))
set_option maxHeartbeats 4000000 in
set_option maxRecDepth 20000 in
theorem s_X1_forget {G : Ga} {κ : Hp} (hS : SI κ) (hR : KR κ) (hC : KC κ)  : zM G mX1_forget yX1_forget [.inr (.inr 54)] κ (q_X1_forget κ) := by
  refine zM_of [some (.inr (.inr 54))] 0 rfl rfl (Nat.le_of_ble_eq_true rfl) rfl ?_
  refine (show ∀ h : Hp, Fm [(54, 7)] κ h → h = κ → zV G mX1_forget (q_X1_forget κ) 0 [some (.inr (.inr 54))] [] h from fun h hF hk0 => ?_) κ (Fm.rf hS hR hC) rfl
  refine zW_aload_n (pc' := 1) dX1_forget_0.1.1 rfl rfl ?_
  refine zW_iconst (pc' := 2) dX1_forget_0.1.2 rfl ?_
  refine zPm (pc' := 5) hF (Or.inl rfl) (SI_54 hF.2.1 (by omega)) (KR_irr hF.2.2.1 rfl) (KC_irr hF.2.2.2 rfl) fp_X1_25 tb54 rfl dX1_forget_0.2.1 rfl (fun h hF w2 => ?_)
  have t2_54_7 := congrFun (congrFun w2 54) 7
  rw [zwr_eq] at t2_54_7
  exact zV_vret rfl dX1_forget_0.2.2 ⟨hF, by omega⟩

abbrev q_X11_rawChanged (κ : Hp)  : Int → Hp → Prop := fun r h' => Fm [(39, 1), (54, 7)] κ h' ∧ ((h' 54 7 = -1))
set_option maxHeartbeats 4000000 in
set_option maxRecDepth 20000 in
theorem s_X11_rawChanged {G : Ga} {κ : Hp} (hS : SI κ) (hR : KR κ) (hC : KC κ)  : zM G mX11_rawChanged yX11_rawChanged [.inr (.inr 30)] κ (q_X11_rawChanged κ) := by
  refine zM_of [some (.inr (.inr 30))] 0 rfl rfl (Nat.le_of_ble_eq_true rfl) rfl ?_
  refine (show ∀ h : Hp, Fm [(39, 1), (54, 7)] κ h → h = κ → zV G mX11_rawChanged (q_X11_rawChanged κ) 0 [some (.inr (.inr 30))] [] h from fun h hF hk0 => ?_) κ (Fm.rf hS hR hC) rfl
  refine zW_aload_n (pc' := 1) dX11_rawChanged_0.1.1.1 rfl rfl ?_
  refine zG_ref (pc' := 4) 39 fg_X11_26 tb30 rfl dX11_rawChanged_0.1.1.2 rfl ?_
  refine zW_iconst (pc' := 5) dX11_rawChanged_0.1.2.1 rfl ?_
  refine zPmz (pc' := 8) hF (Or.inl rfl) (SI_irr hF.2.1 (Or.inl rfl) (fun _ _ => ⟨by omega, by omega⟩)) (KR_irr hF.2.2.1 rfl) (KC_irr hF.2.2.2 rfl) (by omega) fp_X11_169 tb39 rfl dX11_rawChanged_0.1.2.2 rfl (fun h hF w5 => ?_)
  have t5_54_7 := congrFun (congrFun w5 54) 7
  rw [zwr_ne (Or.inl (by decide))] at t5_54_7
  refine zW_aload_n (pc' := 9) dX11_rawChanged_0.2.1.1 rfl rfl ?_
  refine zG_ref (pc' := 12) 54 fg_X11_51 tb30 rfl dX11_rawChanged_0.2.1.2 rfl ?_
  refine cvV0 (pc' := 15) kX1_forget vX1_forget lk_X11_109 ⟨Nat.le_of_ble_eq_true rfl, Nat.le_of_ble_eq_true rfl⟩ tb54 vq1 rfl rfl (s_X1_forget hF.2.1 hF.2.2.1 hF.2.2.2) dX11_rawChanged_0.2.2.1 (Nat.le_of_ble_eq_true rfl) rfl ?_
  rintro r12 h ⟨hF1, p12⟩; replace hF := hF.tr hF1 rfl
  exact zV_vret rfl dX11_rawChanged_0.2.2.2 ⟨hF, by omega⟩

abbrev q_X11_feed (κ : Hp) (x1 : Int) (x2 : Int) (x3 : Int) (x4 : Int) (x5 : Int) : Int → Hp → Prop := fun r h' => Fm [(31, 1), (32, 999)] κ h' ∧ (((κ 31 1 ≤ 120 ∧ r = κ 31 1 + 20 ∧ h' 31 1 = κ 31 1 + 20) ∨ (120 < κ 31 1 ∧ r = -1 ∧ h' 31 1 = κ 31 1)))
set_option maxHeartbeats 4000000 in
set_option maxRecDepth 20000 in
theorem s_X11_feed {G : Ga} {κ : Hp} (hS : SI κ) (hR : KR κ) (hC : KC κ) (x1 : Int) (x2 : Int) (x3 : Int) (x4 : Int) (x5 : Int) : zM G mX11_feed yX11_feed [.inr (.inr 30), .inl x1, .inl x2, .inl x3, .inl x4, .inl x5] κ (q_X11_feed κ x1 x2 x3 x4 x5) := by
  have f_31_1 := KCt hC
  refine zM_of [some (.inr (.inr 30)), some (.inl x1), some (.inl x2), some (.inl x3), some (.inl x4), some (.inl x5)] 0 rfl rfl (Nat.le_of_ble_eq_true rfl) rfl ?_
  refine (show ∀ h : Hp, Fm [(31, 1), (32, 999)] κ h → h = κ → zV G mX11_feed (q_X11_feed κ x1 x2 x3 x4 x5) 0 [some (.inr (.inr 30)), some (.inl x1), some (.inl x2), some (.inl x3), some (.inl x4), some (.inl x5)] [] h from fun h hF hk0 => ?_) κ (Fm.rf hS hR hC) rfl
  have y0_31_1 : h 31 1 = κ 31 1 := by rw [hk0]
  refine zW_aload_n (pc' := 1) dX11_feed_0.1.1.1.1 rfl rfl ?_
  refine zG_ref (pc' := 4) 31 fg_X11_10 tb30 rfl dX11_feed_0.1.1.1.2 rfl ?_
  refine zG_int (pc' := 7) fg_X11_88 tb31 rfl dX11_feed_0.1.1.2.1 rfl ?_
  have e4 := KCt hF.2.2.2
  refine zW_bipush (pc' := 9) dX11_feed_0.1.1.2.2 rfl rfl ?_
  refine zW_iadd (pc' := 10) dX11_feed_0.1.2.1.1 rfl ?_
  refine zW_sipush (pc' := 13) dX11_feed_0.1.2.1.2 rfl rfl ?_
  refine zV_cm_le (tgt := 18) (pc' := 16) dX11_feed_0.1.2.2.1 rfl rfl ⟨by omega, by omega⟩ ⟨by omega, by omega⟩ (fun c13 => ?_) (fun c13 => ?_)
  · refine zW_aload_n (pc' := 19) dX11_feed_0.2.1.1.2 rfl rfl ?_
    refine zG_ref (pc' := 22) 31 fg_X11_10 tb30 rfl dX11_feed_0.2.1.2.1 rfl ?_
    refine zW_iload_n (pc' := 23) dX11_feed_0.2.1.2.2 rfl rfl ?_
    refine cvV1 (pc' := 26) kX9_append vX9_append lk_X11_91 ⟨Nat.le_of_ble_eq_true rfl, Nat.le_of_ble_eq_true rfl⟩ tb31 vq9 rfl rfl (s_X9_append hF.2.1 hF.2.2.1 hF.2.2.2 _ (by omega)) dX11_feed_0.2.2.1.1 (Nat.le_of_ble_eq_true rfl) rfl ?_
    rintro r23 h ⟨hF1, p23⟩; replace hF := hF.tr hF1 rfl
    refine zW_aload_n (pc' := 27) dX11_feed_0.2.2.1.2 rfl rfl ?_
    refine zG_ref (pc' := 30) 31 fg_X11_10 tb30 rfl dX11_feed_0.2.2.2.1 rfl ?_
    refine zW_iload_n (pc' := 31) dX11_feed_0.2.2.2.2 rfl rfl ?_
    refine cvV1 (pc' := 34) kX9_append vX9_append lk_X11_91 ⟨Nat.le_of_ble_eq_true rfl, Nat.le_of_ble_eq_true rfl⟩ tb31 vq9 rfl rfl (s_X9_append hF.2.1 hF.2.2.1 hF.2.2.2 _ (by omega)) dX11_feed_1.1.1.1.1 (Nat.le_of_ble_eq_true rfl) rfl ?_
    rintro r31 h ⟨hF1, p31⟩; replace hF := hF.tr hF1 rfl
    refine zW_aload_n (pc' := 35) dX11_feed_1.1.1.1.2 rfl rfl ?_
    refine zG_ref (pc' := 38) 31 fg_X11_10 tb30 rfl dX11_feed_1.1.1.2.1 rfl ?_
    refine zW_iload_n (pc' := 39) dX11_feed_1.1.1.2.2 rfl rfl ?_
    refine cvV1 (pc' := 42) kX9_append vX9_append lk_X11_91 ⟨Nat.le_of_ble_eq_true rfl, Nat.le_of_ble_eq_true rfl⟩ tb31 vq9 rfl rfl (s_X9_append hF.2.1 hF.2.2.1 hF.2.2.2 _ (by omega)) dX11_feed_1.1.2.1.1 (Nat.le_of_ble_eq_true rfl) rfl ?_
    rintro r39 h ⟨hF1, p39⟩; replace hF := hF.tr hF1 rfl
    refine zW_aload_n (pc' := 43) dX11_feed_1.1.2.1.2 rfl rfl ?_
    refine zG_ref (pc' := 46) 31 fg_X11_10 tb30 rfl dX11_feed_1.1.2.2.1 rfl ?_
    refine zW_iload (pc' := 48) dX11_feed_1.1.2.2.2 rfl rfl ?_
    refine cvV1 (pc' := 51) kX9_append vX9_append lk_X11_91 ⟨Nat.le_of_ble_eq_true rfl, Nat.le_of_ble_eq_true rfl⟩ tb31 vq9 rfl rfl (s_X9_append hF.2.1 hF.2.2.1 hF.2.2.2 _ (by omega)) dX11_feed_1.2.1.1.1 (Nat.le_of_ble_eq_true rfl) rfl ?_
    rintro r48 h ⟨hF1, p48⟩; replace hF := hF.tr hF1 rfl
    refine zW_aload_n (pc' := 52) dX11_feed_1.2.1.1.2 rfl rfl ?_
    refine zG_ref (pc' := 55) 31 fg_X11_10 tb30 rfl dX11_feed_1.2.1.2.1 rfl ?_
    refine zW_iload (pc' := 57) dX11_feed_1.2.1.2.2 rfl rfl ?_
    refine cvV1 (pc' := 60) kX9_append vX9_append lk_X11_91 ⟨Nat.le_of_ble_eq_true rfl, Nat.le_of_ble_eq_true rfl⟩ tb31 vq9 rfl rfl (s_X9_append hF.2.1 hF.2.2.1 hF.2.2.2 _ (by omega)) dX11_feed_1.2.2.1.1 (Nat.le_of_ble_eq_true rfl) rfl ?_
    rintro r57 h ⟨hF1, p57⟩; replace hF := hF.tr hF1 rfl
    refine zW_aload_n (pc' := 61) dX11_feed_1.2.2.1.2 rfl rfl ?_
    refine zG_ref (pc' := 64) 31 fg_X11_10 tb30 rfl dX11_feed_1.2.2.2.1 rfl ?_
    refine zG_int (pc' := 67) fg_X11_88 tb31 rfl dX11_feed_1.2.2.2.2 rfl ?_
    have e64 := KCt hF.2.2.2
    exact zV_iret rfl dX11_feed_2 ⟨hF, by omega⟩
  · refine zW_iconst (pc' := 17) dX11_feed_0.1.2.2.2 rfl ?_
    exact zV_iret rfl dX11_feed_0.2.1.1.1 ⟨hF, by omega⟩

abbrev q_X11_raw (κ : Hp) (x1 : Int) (x2 : Int) (x3 : Int) : Int → Hp → Prop := fun r h' => Fm [(33, 0), (33, 1), (33, 2), (34, 999), (35, 999), (39, 1), (54, 7)] κ h' ∧ (((0 ≤ r) ∧ (r ≤ 1) ∧ ((r = 1 ∧ (4 ≤ x1 ∧ x1 ≤ 16 ∧ x1 % 2 = 0) ∧ (4 ≤ x2 ∧ x2 ≤ 16 ∧ x2 % 2 = 0) ∧ (0 ≤ x3 ∧ x3 ≤ 3) ∧ h' 33 0 = x1 ∧ h' 33 1 = x2 ∧ h' 33 2 = x3) ∨ (r = 0 ∧ ¬ ((4 ≤ x1 ∧ x1 ≤ 16 ∧ x1 % 2 = 0) ∧ (4 ≤ x2 ∧ x2 ≤ 16 ∧ x2 % 2 = 0) ∧ (0 ≤ x3 ∧ x3 ≤ 3)) ∧ h' 33 0 = κ 33 0 ∧ h' 33 1 = κ 33 1 ∧ h' 33 2 = κ 33 2))) ∧ ChC κ h')
set_option maxHeartbeats 4000000 in
set_option maxRecDepth 20000 in
theorem s_X11_raw {G : Ga} {κ : Hp} (hS : SI κ) (hR : KR κ) (hC : KC κ) (x1 : Int) (hx1 : rng x1) (x2 : Int) (hx2 : rng x2) (x3 : Int) (hx3 : rng x3) : zM G mX11_raw yX11_raw [.inr (.inr 30), .inl x1, .inl x2, .inl x3] κ (q_X11_raw κ x1 x2 x3) := by
  have f_33_0 := KCw hC
  have f_33_1 := KCh hC
  have f_33_2 := KCp hC
  unfold rng at hx1
  unfold rng at hx2
  unfold rng at hx3
  refine zM_of [some (.inr (.inr 30)), some (.inl x1), some (.inl x2), some (.inl x3)] 0 rfl rfl (Nat.le_of_ble_eq_true rfl) rfl ?_
  refine (show ∀ h : Hp, Fm [(33, 0), (33, 1), (33, 2), (34, 999), (35, 999), (39, 1), (54, 7)] κ h → h = κ → zV G mX11_raw (q_X11_raw κ x1 x2 x3) 0 [some (.inr (.inr 30)), some (.inl x1), some (.inl x2), some (.inl x3)] [] h from fun h hF hk0 => ?_) κ (Fm.rf hS hR hC) rfl
  have y0_33_0 : h 33 0 = κ 33 0 := by rw [hk0]
  have y0_33_1 : h 33 1 = κ 33 1 := by rw [hk0]
  have y0_33_2 : h 33 2 = κ 33 2 := by rw [hk0]
  refine zW_iload_n (pc' := 1) dX11_raw_0.1.1.1.1 rfl rfl ?_
  refine csI1 (pc' := 4) kX11_isSide vX11_isSide lk_X11_112 ⟨Nat.le_of_ble_eq_true rfl, Nat.le_of_ble_eq_true rfl⟩ rfl (s_X11_isSide (b := bdB true) (κ := h) (Fr.rf hF.2.1) _ ⟨by omega, by omega⟩) dX11_raw_0.1.1.1.2 (Nat.le_of_ble_eq_true rfl) rfl ?_
  rintro r1 z1 ⟨hz1, p1⟩; subst z1
  refine zV_if_eq (tgt := 22) (pc' := 7) dX11_raw_0.1.1.2.1 rfl rfl ⟨by omega, by omega⟩ (fun c4 => ?_) (fun c4 => ?_)
  · refine zW_iconst (pc' := 23) dX11_raw_0.2.1.2.1 rfl ?_
    exact zV_zret rfl (by omega) dX11_raw_0.2.1.2.2 ⟨hF, ⟨by omega, (by first | exact Or.inl (by omega) | exact Or.inr hU | exact Or.inr (by rw [hk0]; exact UnC.rf))⟩⟩
  · refine zW_iload_n (pc' := 8) dX11_raw_0.1.1.2.2 rfl rfl ?_
    refine csI1 (pc' := 11) kX11_isSide vX11_isSide lk_X11_112 ⟨Nat.le_of_ble_eq_true rfl, Nat.le_of_ble_eq_true rfl⟩ rfl (s_X11_isSide (b := bdB true) (κ := h) (Fr.rf hF.2.1) _ ⟨by omega, by omega⟩) dX11_raw_0.1.2.1.1 (Nat.le_of_ble_eq_true rfl) rfl ?_
    rintro r8 z8 ⟨hz8, p8⟩; subst z8
    refine zV_if_eq (tgt := 22) (pc' := 14) dX11_raw_0.1.2.1.2 rfl rfl ⟨by omega, by omega⟩ (fun c11 => ?_) (fun c11 => ?_)
    · refine zW_iconst (pc' := 23) dX11_raw_0.2.1.2.1 rfl ?_
      exact zV_zret rfl (by omega) dX11_raw_0.2.1.2.2 ⟨hF, ⟨by omega, (by first | exact Or.inl (by omega) | exact Or.inr hU | exact Or.inr (by rw [hk0]; exact UnC.rf))⟩⟩
    · refine zW_iload_n (pc' := 15) dX11_raw_0.1.2.2.1 rfl rfl ?_
      refine zW_iconst (pc' := 16) dX11_raw_0.1.2.2.2 rfl ?_
      refine csI2 (pc' := 19) kX11_isWithin vX11_isWithin lk_X11_116 ⟨Nat.le_of_ble_eq_true rfl, Nat.le_of_ble_eq_true rfl⟩ rfl (s_X11_isWithinR (b := bdB true) (κ := h) (Fr.rf hF.2.1) _ ⟨by omega, by omega⟩ _ ⟨by omega, by omega⟩) dX11_raw_0.2.1.1.1 (Nat.le_of_ble_eq_true rfl) rfl ?_
      rintro r16 z16 ⟨hz16, p16⟩; subst z16
      refine zV_if_ne (tgt := 24) (pc' := 22) dX11_raw_0.2.1.1.2 rfl rfl ⟨by omega, by omega⟩ (fun c19 => ?_) (fun c19 => ?_)
      · refine zW_aload_n (pc' := 25) dX11_raw_0.2.2.1.1 rfl rfl ?_
        refine zG_ref (pc' := 28) 33 fg_X11_19 tb30 rfl dX11_raw_0.2.2.1.2 rfl ?_
        refine zW_iload_n (pc' := 29) dX11_raw_0.2.2.2.1 rfl rfl ?_
        refine zW_iload_n (pc' := 30) dX11_raw_0.2.2.2.2 rfl rfl ?_
        refine zW_iload_n (pc' := 31) dX11_raw_1.1.1.1 rfl rfl ?_
        refine cvV3 (pc' := 34) kX5_begin vX5_begin lk_X11_120 ⟨Nat.le_of_ble_eq_true rfl, Nat.le_of_ble_eq_true rfl⟩ tb33 vq5 rfl rfl (s_X5_begin hF.2.1 hF.2.2.1 hF.2.2.2 _ ⟨by omega, by omega⟩ _ ⟨by omega, by omega⟩ _ ⟨by omega, by omega⟩) dX11_raw_1.1.1.2 (Nat.le_of_ble_eq_true rfl) rfl ?_
        rintro r31 h ⟨hF1, p31⟩; replace hF := hF.tr hF1 rfl
        have t31_54_7 := hF1.1 54 7 rfl rfl
        refine zW_aload_n (pc' := 35) dX11_raw_1.1.2 rfl rfl ?_
        refine cvV0 (pc' := 38) kX11_rawChanged vX11_rawChanged lk_X11_124 ⟨Nat.le_of_ble_eq_true rfl, Nat.le_of_ble_eq_true rfl⟩ tb30 vq11 rfl rfl (s_X11_rawChanged hF.2.1 hF.2.2.1 hF.2.2.2) dX11_raw_1.2.1.1 (Nat.le_of_ble_eq_true rfl) rfl ?_
        rintro r35 h ⟨hF1, p35⟩; replace hF := hF.tr hF1 rfl
        have t35_33_0 := hF1.1 33 0 rfl rfl
        have t35_33_1 := hF1.1 33 1 rfl rfl
        have t35_33_2 := hF1.1 33 2 rfl rfl
        refine zW_iconst (pc' := 39) dX11_raw_1.2.1.2 rfl ?_
        exact zV_zret rfl (by omega) dX11_raw_1.2.2 ⟨hF, ⟨by omega, (by first | exact Or.inl (by omega) | exact Or.inr hU | exact Or.inr (by rw [hk0]; exact UnC.rf))⟩⟩
      · refine zW_iconst (pc' := 23) dX11_raw_0.2.1.2.1 rfl ?_
        exact zV_zret rfl (by omega) dX11_raw_0.2.1.2.2 ⟨hF, ⟨by omega, (by first | exact Or.inl (by omega) | exact Or.inr hU | exact Or.inr (by rw [hk0]; exact UnC.rf))⟩⟩

abbrev q_X11_row (κ : Hp) (x1 : Int) : Int → Hp → Prop := fun r h' => Fm [(34, 999), (31, 1), (39, 1), (54, 7)] κ h' ∧ (((0 ≤ r) ∧ (r ≤ 1) ∧ ((r = 1 ∧ (0 ≤ x1 ∧ x1 < κ 33 1 ∧ κ 33 0 ≤ κ 31 1) ∧ h' 31 1 = 0) ∨ (r = 0 ∧ ¬ (0 ≤ x1 ∧ x1 < κ 33 1 ∧ κ 33 0 ≤ κ 31 1) ∧ h' 31 1 = κ 31 1))) ∧ ChC κ h')
set_option maxHeartbeats 4000000 in
set_option maxRecDepth 20000 in
theorem s_X11_row {G : Ga} {κ : Hp} (hS : SI κ) (hR : KR κ) (hC : KC κ) (x1 : Int) (hx1 : rng x1) : zM G mX11_row yX11_row [.inr (.inr 30), .inl x1] κ (q_X11_row κ x1) := by
  have f_31_1 := KCt hC
  have f_33_0 := KCw hC
  have f_33_1 := KCh hC
  have f_36_0 := KCk0 hC
  have f_36_1 := KCk1 hC
  unfold rng at hx1
  have main : ∀ N : Nat, (∀ (v2 : Int) (h : Hp), Fm [(34, 999), (31, 1), (39, 1), (54, 7)] κ h → (0 ≤ x1 ∧ x1 ≤ 15) → (x1 - κ 33 1 ≤ -1) → (0 ≤ v2 ∧ v2 ≤ 16) → (v2 - κ 33 0 ≤ 0) → (κ 33 0 ≤ κ 31 1) → (h 31 1 = κ 31 1) → 16740 + 31 * (16 - v2) + 30 < (N : Int) → zV G mX11_row (q_X11_row κ x1) 36 [some (.inr (.inr 30)), some (.inl x1), some (.inl v2)] [] h) := by
    intro N
    induction N with
    | zero =>
      intro v2 h hF g0 g1 g2 g3 gc0 gc1 hm
      exfalso; omega
    | succ N ih =>
      have k36 := ih
      intro v2 h hF g0 g1 g2 g3 gc0 gc1 hm
      refine zW_iload_n (pc' := 37) dX11_row_1.1.1.2.1 rfl rfl ?_
      refine zW_aload_n (pc' := 38) dX11_row_1.1.1.2.2 rfl rfl ?_
      refine zG_ref (pc' := 41) 33 fg_X11_19 tb30 rfl dX11_row_1.1.2.1.1 rfl ?_
      refine zGm (pc' := 44) hF rfl rfl fg_X11_130 tb33 rfl dX11_row_1.1.2.1.2 rfl ?_
      refine zV_cm_ge (tgt := 75) (pc' := 47) dX11_row_1.1.2.2.1 rfl rfl ⟨by omega, by omega⟩ ⟨by omega, by omega⟩ (fun c44 => ?_) (fun c44 => ?_)
      · refine zW_aload_n (pc' := 76) dX11_row_2.1.2.2 rfl rfl ?_
        refine zG_ref (pc' := 79) 31 fg_X11_10 tb30 rfl dX11_row_2.2.1.1.1 rfl ?_
        refine cvV0 (pc' := 82) kX9_empty vX9_empty lk_X11_99 ⟨Nat.le_of_ble_eq_true rfl, Nat.le_of_ble_eq_true rfl⟩ tb31 vq9 rfl rfl (s_X9_empty hF.2.1 hF.2.2.1 hF.2.2.2) dX11_row_2.2.1.1.2 (Nat.le_of_ble_eq_true rfl) rfl ?_
        rintro r79 h ⟨hF1, p79⟩; replace hF := hF.tr hF1 rfl
        have t79_54_7 := hF1.1 54 7 rfl rfl
        refine zW_aload_n (pc' := 83) dX11_row_2.2.1.2 rfl rfl ?_
        refine cvV0 (pc' := 86) kX11_rawChanged vX11_rawChanged lk_X11_124 ⟨Nat.le_of_ble_eq_true rfl, Nat.le_of_ble_eq_true rfl⟩ tb30 vq11 rfl rfl (s_X11_rawChanged hF.2.1 hF.2.2.1 hF.2.2.2) dX11_row_2.2.2.1.1 (Nat.le_of_ble_eq_true rfl) rfl ?_
        rintro r83 h ⟨hF1, p83⟩; replace hF := hF.tr hF1 rfl
        have t83_31_1 := hF1.1 31 1 rfl rfl
        refine zW_iconst (pc' := 87) dX11_row_2.2.2.1.2 rfl ?_
        exact zV_zret rfl (by omega) dX11_row_2.2.2.2 ⟨hF, ⟨by omega, (by first | exact Or.inl (by omega) | exact Or.inr hU | exact Or.inr (by rw [hk0]; exact UnC.rf))⟩⟩
      · refine zW_aload_n (pc' := 48) dX11_row_1.1.2.2.2 rfl rfl ?_
        refine zG_ref (pc' := 51) 33 fg_X11_19 tb30 rfl dX11_row_1.2.1.1.1 rfl ?_
        refine zG_ref (pc' := 54) 34 fg_X11_133 tb33 rfl dX11_row_1.2.1.1.2 rfl ?_
        refine zW_iload_n (pc' := 55) dX11_row_1.2.1.2.1 rfl rfl ?_
        refine zW_bipush (pc' := 57) dX11_row_1.2.1.2.2 rfl rfl ?_
        refine zW_imul (pc' := 58) dX11_row_1.2.2.1.1 rfl ?_
        refine zW_iload_n (pc' := 59) dX11_row_1.2.2.1.2 rfl rfl ?_
        refine zW_iadd (pc' := 60) dX11_row_1.2.2.2.1 rfl ?_
        refine zW_aload_n (pc' := 61) dX11_row_1.2.2.2.2 rfl rfl ?_
        refine zG_ref (pc' := 64) 31 fg_X11_10 tb30 rfl dX11_row_2.1.1.1.1 rfl ?_
        refine zW_iload_n (pc' := 65) dX11_row_2.1.1.1.2 rfl rfl ?_
        refine cvI1 (pc' := 68) kX9_byteAt vX9_byteAt lk_X11_137 ⟨Nat.le_of_ble_eq_true rfl, Nat.le_of_ble_eq_true rfl⟩ tb31 vq9 rfl rfl (s_X9_byteAt (b := bdB true) (κ := h) hF.2.2.2 (Fr.rf hF.2.1) _ ⟨by omega, by omega⟩) dX11_row_2.1.1.2.1 (Nat.le_of_ble_eq_true rfl) rfl ?_
        rintro r65 z65 ⟨hz65, p65⟩; subst z65
        refine zSm (pc' := 69) hF rfl (fun v' hv he => ⟨(SI_irr hF.2.1 (Or.inl (key_of rfl _)) (fun _ _ => hv)), (KR_irr hF.2.2.1 rfl), (KC_irr hF.2.2.2 rfl)⟩) tb34 (by omega) dX11_row_2.1.1.2.2 (by decide) rfl (fun h i68 hF a68 b68 w68 => ?_)
        have t68_31_1 := congrFun (congrFun w68 31) 1
        rw [zwr_ne (Or.inl (by decide))] at t68_31_1
        have t68_54_7 := congrFun (congrFun w68 54) 7
        rw [zwr_ne (Or.inl (by decide))] at t68_54_7
        refine zW_iinc (ls' := [_, _, _]) (pc' := 72) dX11_row_2.1.2.1.1 rfl (by decide) rfl rfl rfl ?_
        refine zV_goto 36 dX11_row_2.1.2.1.2 rfl ?_
        exact k36 _ _ hF (by omega) (by omega) (by omega) (by omega) (by omega) (by omega) (by omega)
  refine zM_of [some (.inr (.inr 30)), some (.inl x1), none] 1 rfl rfl (Nat.le_of_ble_eq_true rfl) rfl ?_
  refine (show ∀ h : Hp, Fm [(34, 999), (31, 1), (39, 1), (54, 7)] κ h → h = κ → zV G mX11_row (q_X11_row κ x1) 0 [some (.inr (.inr 30)), some (.inl x1), none] [] h from fun h hF hk0 => ?_) κ (Fm.rf hS hR hC) rfl
  have y0_31_1 : h 31 1 = κ 31 1 := by rw [hk0]
  refine zW_iload_n (pc' := 1) dX11_row_0.1.1.1.1 rfl rfl ?_
  refine zV_if_lt (tgt := 32) (pc' := 4) dX11_row_0.1.1.1.2 rfl rfl ⟨by omega, by omega⟩ (fun c1 => ?_) (fun c1 => ?_)
  · refine zW_iconst (pc' := 33) dX11_row_0.2.2.2.1 rfl ?_
    exact zV_zret rfl (by omega) dX11_row_0.2.2.2.2 ⟨hF, ⟨by omega, (by first | exact Or.inl (by omega) | exact Or.inr hU | exact Or.inr (by rw [hk0]; exact UnC.rf))⟩⟩
  · refine zW_iload_n (pc' := 5) dX11_row_0.1.1.2.1 rfl rfl ?_
    refine zW_aload_n (pc' := 6) dX11_row_0.1.1.2.2 rfl rfl ?_
    refine zG_ref (pc' := 9) 33 fg_X11_19 tb30 rfl dX11_row_0.1.2.1.1 rfl ?_
    refine zGm (pc' := 12) hF rfl rfl fg_X11_127 tb33 rfl dX11_row_0.1.2.1.2 rfl ?_
    refine zV_cm_ge (tgt := 32) (pc' := 15) dX11_row_0.1.2.2.1 rfl rfl ⟨by omega, by omega⟩ ⟨by omega, by omega⟩ (fun c12 => ?_) (fun c12 => ?_)
    · refine zW_iconst (pc' := 33) dX11_row_0.2.2.2.1 rfl ?_
      exact zV_zret rfl (by omega) dX11_row_0.2.2.2.2 ⟨hF, ⟨by omega, (by first | exact Or.inl (by omega) | exact Or.inr hU | exact Or.inr (by rw [hk0]; exact UnC.rf))⟩⟩
    · refine zW_aload_n (pc' := 16) dX11_row_0.1.2.2.2 rfl rfl ?_
      refine zG_ref (pc' := 19) 31 fg_X11_10 tb30 rfl dX11_row_0.2.1.1.1 rfl ?_
      refine zG_int (pc' := 22) fg_X11_88 tb31 rfl dX11_row_0.2.1.1.2 rfl ?_
      have e19 := KCt hF.2.2.2
      refine zW_aload_n (pc' := 23) dX11_row_0.2.1.2.1 rfl rfl ?_
      refine zG_ref (pc' := 26) 33 fg_X11_19 tb30 rfl dX11_row_0.2.1.2.2 rfl ?_
      refine zGm (pc' := 29) hF rfl rfl fg_X11_130 tb33 rfl dX11_row_0.2.2.1.1 rfl ?_
      refine zV_cm_ge (tgt := 34) (pc' := 32) dX11_row_0.2.2.1.2 rfl rfl ⟨by omega, by omega⟩ ⟨by omega, by omega⟩ (fun c29 => ?_) (fun c29 => ?_)
      · refine zW_iconst (pc' := 35) dX11_row_1.1.1.1.1 rfl ?_
        refine zW_istore_n (ls' := [_, _, _]) (pc' := 36) dX11_row_1.1.1.1.2 (by decide) rfl rfl rfl ?_
        exact (main 10000000000000000000000000000000000000000) _ _ hF (by omega) (by omega) (by omega) (by omega) (by omega) (by omega) (by omega)
      · refine zW_iconst (pc' := 33) dX11_row_0.2.2.2.1 rfl ?_
        exact zV_zret rfl (by omega) dX11_row_0.2.2.2.2 ⟨hF, ⟨by omega, (by first | exact Or.inl (by omega) | exact Or.inr hU | exact Or.inr (by rw [hk0]; exact UnC.rf))⟩⟩

abbrev q_X11_pixel (κ : Hp) (x1 : Int) (x2 : Int) (x3 : Int) : Int → Hp → Prop := fun r h' => Fm [(34, 999), (39, 1), (54, 7)] κ h' ∧ (((0 ≤ r) ∧ (r ≤ 1) ∧ (r = 1 ↔ (0 ≤ x1 ∧ x1 < κ 33 0 ∧ 0 ≤ x2 ∧ x2 < κ 33 1 ∧ 0 ≤ x3 ∧ x3 ≤ 255))) ∧ ChC κ h')
set_option maxHeartbeats 4000000 in
set_option maxRecDepth 20000 in
theorem s_X11_pixel {G : Ga} {κ : Hp} (hS : SI κ) (hR : KR κ) (hC : KC κ) (x1 : Int) (hx1 : rng x1) (x2 : Int) (hx2 : rng x2) (x3 : Int) (hx3 : rng x3) : zM G mX11_pixel yX11_pixel [.inr (.inr 30), .inl x1, .inl x2, .inl x3] κ (q_X11_pixel κ x1 x2 x3) := by
  have f_33_0 := KCw hC
  have f_33_1 := KCh hC
  unfold rng at hx1
  unfold rng at hx2
  unfold rng at hx3
  refine zM_of [some (.inr (.inr 30)), some (.inl x1), some (.inl x2), some (.inl x3)] 0 rfl rfl (Nat.le_of_ble_eq_true rfl) rfl ?_
  refine (show ∀ h : Hp, Fm [(34, 999), (39, 1), (54, 7)] κ h → h = κ → zV G mX11_pixel (q_X11_pixel κ x1 x2 x3) 0 [some (.inr (.inr 30)), some (.inl x1), some (.inl x2), some (.inl x3)] [] h from fun h hF hk0 => ?_) κ (Fm.rf hS hR hC) rfl
  refine zW_aload_n (pc' := 1) dX11_pixel_0.1.1.1.1 rfl rfl ?_
  refine zG_ref (pc' := 4) 33 fg_X11_19 tb30 rfl dX11_pixel_0.1.1.1.2 rfl ?_
  refine zW_iload_n (pc' := 5) dX11_pixel_0.1.1.2.1 rfl rfl ?_
  refine zW_iload_n (pc' := 6) dX11_pixel_0.1.1.2.2 rfl rfl ?_
  have y6_33_0 := hF.1 33 0 rfl rfl
  have y6_33_1 := hF.1 33 1 rfl rfl
  refine cvI2 (pc' := 9) kX5_has vX5_has lk_X11_140 ⟨Nat.le_of_ble_eq_true rfl, Nat.le_of_ble_eq_true rfl⟩ tb33 vq5 rfl rfl (s_X5_has (b := bdB true) (κ := h) hF.2.2.2 (Fr.rf hF.2.1) _ ⟨by omega, by omega⟩ _ ⟨by omega, by omega⟩) dX11_pixel_0.1.2.1.1 (Nat.le_of_ble_eq_true rfl) rfl ?_
  rintro r6 z6 ⟨hz6, p6⟩; subst z6
  refine zV_if_eq (tgt := 22) (pc' := 12) dX11_pixel_0.1.2.1.2 rfl rfl ⟨by omega, by omega⟩ (fun c9 => ?_) (fun c9 => ?_)
  · refine zW_iconst (pc' := 23) dX11_pixel_0.2.1.2.1 rfl ?_
    exact zV_zret rfl (by omega) dX11_pixel_0.2.1.2.2 ⟨hF, ⟨by omega, (by first | exact Or.inl (by omega) | exact Or.inr hU | exact Or.inr (by rw [hk0]; exact UnC.rf))⟩⟩
  · refine zW_iload_n (pc' := 13) dX11_pixel_0.1.2.2.1 rfl rfl ?_
    refine zW_sipush (pc' := 16) dX11_pixel_0.1.2.2.2 rfl rfl ?_
    refine csI2 (pc' := 19) kX11_isWithin vX11_isWithin lk_X11_116 ⟨Nat.le_of_ble_eq_true rfl, Nat.le_of_ble_eq_true rfl⟩ rfl (s_X11_isWithinR (b := bdB true) (κ := h) (Fr.rf hF.2.1) _ ⟨by omega, by omega⟩ _ ⟨by omega, by omega⟩) dX11_pixel_0.2.1.1.1 (Nat.le_of_ble_eq_true rfl) rfl ?_
    rintro r16 z16 ⟨hz16, p16⟩; subst z16
    refine zV_if_ne (tgt := 24) (pc' := 22) dX11_pixel_0.2.1.1.2 rfl rfl ⟨by omega, by omega⟩ (fun c19 => ?_) (fun c19 => ?_)
    · refine zW_aload_n (pc' := 25) dX11_pixel_0.2.2.1.1 rfl rfl ?_
      refine zG_ref (pc' := 28) 33 fg_X11_19 tb30 rfl dX11_pixel_0.2.2.1.2 rfl ?_
      refine zG_ref (pc' := 31) 34 fg_X11_133 tb33 rfl dX11_pixel_0.2.2.2.1 rfl ?_
      refine zW_iload_n (pc' := 32) dX11_pixel_0.2.2.2.2 rfl rfl ?_
      refine zW_bipush (pc' := 34) dX11_pixel_1.1.1.1.1 rfl rfl ?_
      refine zW_imul (pc' := 35) dX11_pixel_1.1.1.1.2 rfl ?_
      refine zW_iload_n (pc' := 36) dX11_pixel_1.1.1.2 rfl rfl ?_
      refine zW_iadd (pc' := 37) dX11_pixel_1.1.2.1 rfl ?_
      refine zW_iload_n (pc' := 38) dX11_pixel_1.1.2.2 rfl rfl ?_
      refine zSm (pc' := 39) hF rfl (fun v' hv he => ⟨(SI_irr hF.2.1 (Or.inl (key_of rfl _)) (fun _ _ => hv)), (KR_irr hF.2.2.1 rfl), (KC_irr hF.2.2.2 rfl)⟩) tb34 (by omega) dX11_pixel_1.2.1.1.1 (by decide) rfl (fun h i38 hF a38 b38 w38 => ?_)
      have t38_54_7 := congrFun (congrFun w38 54) 7
      rw [zwr_ne (Or.inl (by decide))] at t38_54_7
      refine zW_aload_n (pc' := 40) dX11_pixel_1.2.1.1.2 rfl rfl ?_
      refine cvV0 (pc' := 43) kX11_rawChanged vX11_rawChanged lk_X11_124 ⟨Nat.le_of_ble_eq_true rfl, Nat.le_of_ble_eq_true rfl⟩ tb30 vq11 rfl rfl (s_X11_rawChanged hF.2.1 hF.2.2.1 hF.2.2.2) dX11_pixel_1.2.1.2 (Nat.le_of_ble_eq_true rfl) rfl ?_
      rintro r40 h ⟨hF1, p40⟩; replace hF := hF.tr hF1 rfl
      refine zW_iconst (pc' := 44) dX11_pixel_1.2.2.1 rfl ?_
      exact zV_zret rfl (by omega) dX11_pixel_1.2.2.2 ⟨hF, ⟨by omega, (by first | exact Or.inl (by omega) | exact Or.inr hU | exact Or.inr (by rw [hk0]; exact UnC.rf))⟩⟩
    · refine zW_iconst (pc' := 23) dX11_pixel_0.2.1.2.1 rfl ?_
      exact zV_zret rfl (by omega) dX11_pixel_0.2.1.2.2 ⟨hF, ⟨by omega, (by first | exact Or.inl (by omega) | exact Or.inr hU | exact Or.inr (by rw [hk0]; exact UnC.rf))⟩⟩

abbrev q_X11_dead (κ : Hp) (x1 : Int) (x2 : Int) (x3 : Int) : Int → Hp → Prop := fun r h' => Fm [(35, 999), (39, 1), (54, 7)] κ h' ∧ (ChC κ h')
set_option maxHeartbeats 4000000 in
set_option maxRecDepth 20000 in
theorem s_X11_dead {G : Ga} {κ : Hp} (hS : SI κ) (hR : KR κ) (hC : KC κ) (x1 : Int) (hx1 : rng x1) (x2 : Int) (hx2 : rng x2) (x3 : Int) (hx3 : 0 ≤ x3 ∧ x3 ≤ 1) : zM G mX11_dead yX11_dead [.inr (.inr 30), .inl x1, .inl x2, .inl x3] κ (q_X11_dead κ x1 x2 x3) := by
  have f_33_0 := KCw hC
  have f_33_1 := KCh hC
  unfold rng at hx1
  unfold rng at hx2
  refine zM_of [some (.inr (.inr 30)), some (.inl x1), some (.inl x2), some (.inl x3)] 0 rfl rfl (Nat.le_of_ble_eq_true rfl) rfl ?_
  refine (show ∀ h : Hp, Fm [(35, 999), (39, 1), (54, 7)] κ h → h = κ → zV G mX11_dead (q_X11_dead κ x1 x2 x3) 0 [some (.inr (.inr 30)), some (.inl x1), some (.inl x2), some (.inl x3)] [] h from fun h hF hk0 => ?_) κ (Fm.rf hS hR hC) rfl
  refine zW_aload_n (pc' := 1) dX11_dead_0.1.1.1.1 rfl rfl ?_
  refine zG_ref (pc' := 4) 33 fg_X11_19 tb30 rfl dX11_dead_0.1.1.1.2 rfl ?_
  refine zW_iload_n (pc' := 5) dX11_dead_0.1.1.2.1 rfl rfl ?_
  refine zW_iload_n (pc' := 6) dX11_dead_0.1.1.2.2 rfl rfl ?_
  have y6_33_0 := hF.1 33 0 rfl rfl
  have y6_33_1 := hF.1 33 1 rfl rfl
  refine cvI2 (pc' := 9) kX5_has vX5_has lk_X11_140 ⟨Nat.le_of_ble_eq_true rfl, Nat.le_of_ble_eq_true rfl⟩ tb33 vq5 rfl rfl (s_X5_has (b := bdB true) (κ := h) hF.2.2.2 (Fr.rf hF.2.1) _ ⟨by omega, by omega⟩ _ ⟨by omega, by omega⟩) dX11_dead_0.1.2.1.1 (Nat.le_of_ble_eq_true rfl) rfl ?_
  rintro r6 z6 ⟨hz6, p6⟩; subst z6
  refine zV_if_ne (tgt := 14) (pc' := 12) dX11_dead_0.1.2.1.2 rfl rfl ⟨by omega, by omega⟩ (fun c9 => ?_) (fun c9 => ?_)
  · refine zW_aload_n (pc' := 15) dX11_dead_0.2.1.1.1 rfl rfl ?_
    refine zG_ref (pc' := 18) 33 fg_X11_19 tb30 rfl dX11_dead_0.2.1.1.2 rfl ?_
    refine zG_ref (pc' := 21) 35 fg_X11_143 tb33 rfl dX11_dead_0.2.1.2.1 rfl ?_
    refine zW_iload_n (pc' := 22) dX11_dead_0.2.1.2.2 rfl rfl ?_
    refine zW_bipush (pc' := 24) dX11_dead_0.2.2.1.1 rfl rfl ?_
    refine zW_imul (pc' := 25) dX11_dead_0.2.2.1.2 rfl ?_
    refine zW_iload_n (pc' := 26) dX11_dead_0.2.2.2.1 rfl rfl ?_
    refine zW_iadd (pc' := 27) dX11_dead_0.2.2.2.2 rfl ?_
    refine zW_iload_n (pc' := 28) dX11_dead_1.1.1.1.1 rfl rfl ?_
    refine zV_if_eq (tgt := 35) (pc' := 31) dX11_dead_1.1.1.1.2 rfl rfl ⟨by omega, by omega⟩ (fun c28 => ?_) (fun c28 => ?_)
    · refine zW_iconst (pc' := 36) dX11_dead_1.1.2.1.1 rfl ?_
      refine zSm (pc' := 37) hF rfl (fun v' hv he => ⟨(SI_irr hF.2.1 (Or.inl (key_of rfl _)) (fun _ _ => hv)), (KR_irr hF.2.2.1 rfl), (KC_irr hF.2.2.2 rfl)⟩) tb35 (by omega) dX11_dead_1.1.2.1.2 (by decide) rfl (fun h i36 hF a36 b36 w36 => ?_)
      have t36_54_7 := congrFun (congrFun w36 54) 7
      rw [zwr_ne (Or.inl (by decide))] at t36_54_7
      refine zW_aload_n (pc' := 38) dX11_dead_1.1.2.2.1 rfl rfl ?_
      refine cvV0 (pc' := 41) kX11_rawChanged vX11_rawChanged lk_X11_124 ⟨Nat.le_of_ble_eq_true rfl, Nat.le_of_ble_eq_true rfl⟩ tb30 vq11 rfl rfl (s_X11_rawChanged hF.2.1 hF.2.2.1 hF.2.2.2) dX11_dead_1.1.2.2.2 (Nat.le_of_ble_eq_true rfl) rfl ?_
      rintro r38 h ⟨hF1, p38⟩; replace hF := hF.tr hF1 rfl
      refine zW_aload_n (pc' := 42) dX11_dead_1.2.1.1.1 rfl rfl ?_
      refine zG_ref (pc' := 45) 33 fg_X11_19 tb30 rfl dX11_dead_1.2.1.1.2 rfl ?_
      refine zW_aload_n (pc' := 46) dX11_dead_1.2.1.2.1 rfl rfl ?_
      refine zG_ref (pc' := 49) 33 fg_X11_19 tb30 rfl dX11_dead_1.2.1.2.2 rfl ?_
      refine zG_ref (pc' := 52) 35 fg_X11_143 tb33 rfl dX11_dead_1.2.2.1.1 rfl ?_
      refine cvI1 (pc' := 55) kX5_sumOf vX5_sumOf lk_X11_146 ⟨Nat.le_of_ble_eq_true rfl, Nat.le_of_ble_eq_true rfl⟩ tb33 vq5 rfl rfl (s_X5_sumOf (b := bdB true) (κ := h) hF.2.2.2 (Fr.rf hF.2.1) _ tb35 (by decide)) dX11_dead_1.2.2.1.2 (Nat.le_of_ble_eq_true rfl) rfl ?_
      rintro r52 z52 ⟨hz52, p52⟩; subst z52
      exact zV_iret rfl dX11_dead_1.2.2.2 ⟨hF, (by first | exact Or.inl (by omega) | exact Or.inr hU | exact Or.inr (by rw [hk0]; exact UnC.rf))⟩
    · refine zW_iconst (pc' := 32) dX11_dead_1.1.1.2.1 rfl ?_
      refine zV_goto 36 dX11_dead_1.1.1.2.2 rfl ?_
      refine zSm (pc' := 37) hF rfl (fun v' hv he => ⟨(SI_irr hF.2.1 (Or.inl (key_of rfl _)) (fun _ _ => hv)), (KR_irr hF.2.2.1 rfl), (KC_irr hF.2.2.2 rfl)⟩) tb35 (by omega) dX11_dead_1.1.2.1.2 (by decide) rfl (fun h i36 hF a36 b36 w36 => ?_)
      have t36_54_7 := congrFun (congrFun w36 54) 7
      rw [zwr_ne (Or.inl (by decide))] at t36_54_7
      refine zW_aload_n (pc' := 38) dX11_dead_1.1.2.2.1 rfl rfl ?_
      refine cvV0 (pc' := 41) kX11_rawChanged vX11_rawChanged lk_X11_124 ⟨Nat.le_of_ble_eq_true rfl, Nat.le_of_ble_eq_true rfl⟩ tb30 vq11 rfl rfl (s_X11_rawChanged hF.2.1 hF.2.2.1 hF.2.2.2) dX11_dead_1.1.2.2.2 (Nat.le_of_ble_eq_true rfl) rfl ?_
      rintro r38 h ⟨hF1, p38⟩; replace hF := hF.tr hF1 rfl
      refine zW_aload_n (pc' := 42) dX11_dead_1.2.1.1.1 rfl rfl ?_
      refine zG_ref (pc' := 45) 33 fg_X11_19 tb30 rfl dX11_dead_1.2.1.1.2 rfl ?_
      refine zW_aload_n (pc' := 46) dX11_dead_1.2.1.2.1 rfl rfl ?_
      refine zG_ref (pc' := 49) 33 fg_X11_19 tb30 rfl dX11_dead_1.2.1.2.2 rfl ?_
      refine zG_ref (pc' := 52) 35 fg_X11_143 tb33 rfl dX11_dead_1.2.2.1.1 rfl ?_
      refine cvI1 (pc' := 55) kX5_sumOf vX5_sumOf lk_X11_146 ⟨Nat.le_of_ble_eq_true rfl, Nat.le_of_ble_eq_true rfl⟩ tb33 vq5 rfl rfl (s_X5_sumOf (b := bdB true) (κ := h) hF.2.2.2 (Fr.rf hF.2.1) _ tb35 (by decide)) dX11_dead_1.2.2.1.2 (Nat.le_of_ble_eq_true rfl) rfl ?_
      rintro r52 z52 ⟨hz52, p52⟩; subst z52
      exact zV_iret rfl dX11_dead_1.2.2.2 ⟨hF, (by first | exact Or.inl (by omega) | exact Or.inr hU | exact Or.inr (by rw [hk0]; exact UnC.rf))⟩
  · refine zW_iconst (pc' := 13) dX11_dead_0.1.2.2.1 rfl ?_
    exact zV_iret rfl dX11_dead_0.1.2.2.2 ⟨hF, (by first | exact Or.inl (by omega) | exact Or.inr hU | exact Or.inr (by rw [hk0]; exact UnC.rf))⟩

abbrev q_X11_drawn (κ : Hp) (x1 : Int) (x2 : Int) : Int → Hp → Prop := fun r h' => Fm [(30, 12)] κ h' ∧ (True)
set_option maxHeartbeats 4000000 in
set_option maxRecDepth 20000 in
theorem s_X11_drawn {G : Ga} {κ : Hp} (hS : SI κ) (hR : KR κ) (hC : KC κ) (x1 : Int) (hx1 : 0 ≤ x1 ∧ x1 ≤ 255) (x2 : Int) (hx2 : 0 ≤ x2 ∧ x2 ≤ 255) : zM G mX11_drawn yX11_drawn [.inr (.inr 30), .inl x1, .inl x2] κ (q_X11_drawn κ x1 x2) := by
  have f_30_12 := KCc hC
  refine zM_of [some (.inr (.inr 30)), some (.inl x1), some (.inl x2)] 0 rfl rfl (Nat.le_of_ble_eq_true rfl) rfl ?_
  refine (show ∀ h : Hp, Fm [(30, 12)] κ h → h = κ → zV G mX11_drawn (q_X11_drawn κ x1 x2) 0 [some (.inr (.inr 30)), some (.inl x1), some (.inl x2)] [] h from fun h hF hk0 => ?_) κ (Fm.rf hS hR hC) rfl
  refine zW_aload_n (pc' := 1) dX11_drawn_0.1.1.1.1 rfl rfl ?_
  refine zW_sipush (pc' := 4) dX11_drawn_0.1.1.1.2 rfl rfl ?_
  refine zW_aload_n (pc' := 5) dX11_drawn_0.1.1.2.1 rfl rfl ?_
  refine zG_int (pc' := 8) fg_X11_85 tb30 rfl dX11_drawn_0.1.1.2.2 rfl ?_
  have e5 := KCc hF.2.2.2
  refine zW_imul (pc' := 9) dX11_drawn_0.1.2.1.1 rfl ?_
  refine zW_sipush (pc' := 12) dX11_drawn_0.1.2.1.2 rfl rfl ?_
  refine zW_iadd (pc' := 13) dX11_drawn_0.1.2.2.1 rfl ?_
  refine zV_ldc_w (n := 65536) (pc' := 16) kc_X11_398 rfl dX11_drawn_0.1.2.2.2 rfl ?_
  refine zW_irem (pc' := 17) (by omega) (by omega) dX11_drawn_0.2.1.1.1 rfl ?_
  refine zPm (pc' := 20) hF (Or.inl rfl) (SI_irr hF.2.1 (Or.inl rfl) (fun _ _ => ⟨by omega, by omega⟩)) (KR_irr hF.2.2.1 rfl) (KC_30_12 hF.2.2.2 (by omega)) fp_X11_85 tb30 rfl dX11_drawn_0.2.1.1.2 rfl (fun h hF w17 => ?_)
  refine zW_iload_n (pc' := 21) dX11_drawn_0.2.1.2.1 rfl rfl ?_
  refine zW_aload_n (pc' := 22) dX11_drawn_0.2.1.2.2 rfl rfl ?_
  refine zG_int (pc' := 25) fg_X11_85 tb30 rfl dX11_drawn_0.2.2.1.1 rfl ?_
  have e22 := KCc hF.2.2.2
  refine zW_iload_n (pc' := 26) dX11_drawn_0.2.2.1.2 rfl rfl ?_
  refine zW_iconst (pc' := 27) dX11_drawn_0.2.2.2.1 rfl ?_
  refine zW_iadd (pc' := 28) dX11_drawn_0.2.2.2.2 rfl ?_
  refine zW_iremQ (pc' := 29) ⟨by omega, by omega⟩ (by omega) dX11_drawn_1.1.1.1 rfl (fun v28 e28 => ?_)
  unfold rng at e28
  refine zW_iadd (pc' := 30) dX11_drawn_1.1.1.2 rfl ?_
  refine zW_sipush (pc' := 33) dX11_drawn_1.1.2 rfl rfl ?_
  refine zW_iremQ (pc' := 34) ⟨by omega, by omega⟩ (by omega) dX11_drawn_1.2.1 rfl (fun v33 e33 => ?_)
  unfold rng at e33
  exact zV_iret rfl dX11_drawn_1.2.2 ⟨hF, trivial⟩

abbrev q_X11_scene (κ : Hp) (x1 : Int) (x2 : Int) (x3 : Int) : Int → Hp → Prop := fun r h' => Fm [(34, 999), (35, 999), (39, 1), (30, 12), (54, 7)] κ h' ∧ (((0 ≤ r) ∧ (r ≤ 1) ∧ (r = 1 ↔ (0 ≤ x1 ∧ x1 ≤ 6 ∧ 0 ≤ x2 ∧ x2 ≤ 255 ∧ 0 ≤ x3 ∧ x3 ≤ 255))) ∧ ChC κ h')
set_option maxHeartbeats 4000000 in
set_option maxRecDepth 20000 in
theorem s_X11_scene {G : Ga} {κ : Hp} (hS : SI κ) (hR : KR κ) (hC : KC κ) (x1 : Int) (hx1 : rng x1) (x2 : Int) (hx2 : rng x2) (x3 : Int) (hx3 : rng x3) : zM G mX11_scene yX11_scene [.inr (.inr 30), .inl x1, .inl x2, .inl x3] κ (q_X11_scene κ x1 x2 x3) := by
  have f_33_0 := KCw hC
  have f_33_1 := KCh hC
  have f_36_0 := KCk0 hC
  have f_36_1 := KCk1 hC
  unfold rng at hx1
  unfold rng at hx2
  unfold rng at hx3
  have main : ∀ N : Nat, (∀ (v4 : Int) (h : Hp), Fm [(34, 999), (35, 999), (39, 1), (30, 12), (54, 7)] κ h → (0 ≤ x1 ∧ x1 ≤ 6) → (0 ≤ x2 ∧ x2 ≤ 255) → (0 ≤ x3 ∧ x3 ≤ 255) → (0 ≤ v4 ∧ v4 ≤ 16) → (v4 - κ 33 1 ≤ 0) → 32651424 + 35568 * (16 - v4) + 34884 < (N : Int) → zV G mX11_scene (q_X11_scene κ x1 x2 x3) 34 [some (.inr (.inr 30)), some (.inl x1), some (.inl x2), some (.inl x3), some (.inl v4), none] [] h) ∧ (∀ (v4 v5 : Int) (h : Hp), Fm [(34, 999), (35, 999), (39, 1), (30, 12), (54, 7)] κ h → (0 ≤ x1 ∧ x1 ≤ 6) → (0 ≤ x2 ∧ x2 ≤ 255) → (0 ≤ x3 ∧ x3 ≤ 255) → (0 ≤ v4 ∧ v4 ≤ 15) → (v4 - κ 33 1 ≤ -1) → (0 ≤ v5 ∧ v5 ≤ 16) → (v5 - κ 33 0 ≤ 0) → 32651424 + 35568 * (16 - v4) + 25308 + 38 * (16 - v5) + 37 < (N : Int) → zV G mX11_scene (q_X11_scene κ x1 x2 x3) 49 [some (.inr (.inr 30)), some (.inl x1), some (.inl x2), some (.inl x3), some (.inl v4), some (.inl v5)] [] h) := by
    intro N
    induction N with
    | zero =>
      refine ⟨?_, ?_⟩
      · intro v4 h hF g0 g1 g2 g3 g4 hm
        exfalso; omega
      · intro v4 v5 h hF g0 g1 g2 g3 g4 g5 g6 hm
        exfalso; omega
    | succ N ih =>
      obtain ⟨k34, k49⟩ := ih
      refine ⟨?_, ?_⟩
      · intro v4 h hF g0 g1 g2 g3 g4 hm
        refine zW_iload (pc' := 36) dX11_scene_1.1.1.1.1 rfl rfl ?_
        refine zW_aload_n (pc' := 37) dX11_scene_1.1.1.1.2 rfl rfl ?_
        refine zG_ref (pc' := 40) 33 fg_X11_19 tb30 rfl dX11_scene_1.1.1.2.1 rfl ?_
        refine zGm (pc' := 43) hF rfl rfl fg_X11_127 tb33 rfl dX11_scene_1.1.1.2.2 rfl ?_
        refine zV_cm_ge (tgt := 117) (pc' := 46) dX11_scene_1.1.2.1.1 rfl rfl ⟨by omega, by omega⟩ ⟨by omega, by omega⟩ (fun c43 => ?_) (fun c43 => ?_)
        · refine zW_aload_n (pc' := 118) dX11_scene_3.2.1.1.2 rfl rfl ?_
          refine zG_ref (pc' := 121) 33 fg_X11_19 tb30 rfl dX11_scene_3.2.1.2.1 rfl ?_
          refine cvV0 (pc' := 124) kX5_wake vX5_wake lk_X11_158 ⟨Nat.le_of_ble_eq_true rfl, Nat.le_of_ble_eq_true rfl⟩ tb33 vq5 rfl rfl (s_X5_wake hF.2.1 hF.2.2.1 hF.2.2.2) dX11_scene_3.2.1.2.2 (Nat.le_of_ble_eq_true rfl) rfl ?_
          rintro r121 h ⟨hF1, p121⟩; replace hF := hF.tr hF1 rfl
          have t121_54_7 := hF1.1 54 7 rfl rfl
          refine zW_aload_n (pc' := 125) dX11_scene_3.2.2.1.1 rfl rfl ?_
          refine cvV0 (pc' := 128) kX11_rawChanged vX11_rawChanged lk_X11_124 ⟨Nat.le_of_ble_eq_true rfl, Nat.le_of_ble_eq_true rfl⟩ tb30 vq11 rfl rfl (s_X11_rawChanged hF.2.1 hF.2.2.1 hF.2.2.2) dX11_scene_3.2.2.1.2 (Nat.le_of_ble_eq_true rfl) rfl ?_
          rintro r125 h ⟨hF1, p125⟩; replace hF := hF.tr hF1 rfl
          refine zW_iconst (pc' := 129) dX11_scene_3.2.2.2.1 rfl ?_
          exact zV_zret rfl (by omega) dX11_scene_3.2.2.2.2 ⟨hF, ⟨by omega, (by first | exact Or.inl (by omega) | exact Or.inr hU | exact Or.inr (by rw [hk0]; exact UnC.rf))⟩⟩
        · refine zW_iconst (pc' := 47) dX11_scene_1.1.2.1.2 rfl ?_
          refine zW_istore (ls' := [_, _, _, _, _, _]) (pc' := 49) dX11_scene_1.1.2.2.1 (by decide) rfl rfl rfl ?_
          exact k49 _ _ _ hF (by omega) (by omega) (by omega) (by omega) (by omega) (by omega) (by omega) (by omega)
      · intro v4 v5 h hF g0 g1 g2 g3 g4 g5 g6 hm
        refine zW_iload (pc' := 51) dX11_scene_1.1.2.2.2 rfl rfl ?_
        refine zW_aload_n (pc' := 52) dX11_scene_1.2.1.1.1 rfl rfl ?_
        refine zG_ref (pc' := 55) 33 fg_X11_19 tb30 rfl dX11_scene_1.2.1.1.2 rfl ?_
        refine zGm (pc' := 58) hF rfl rfl fg_X11_130 tb33 rfl dX11_scene_1.2.1.2.1 rfl ?_
        refine zV_cm_ge (tgt := 111) (pc' := 61) dX11_scene_1.2.1.2.2 rfl rfl ⟨by omega, by omega⟩ ⟨by omega, by omega⟩ (fun c58 => ?_) (fun c58 => ?_)
        · refine zW_iinc (ls' := [_, _, _, _, _, _]) (pc' := 114) dX11_scene_3.1.2.2.2 rfl (by decide) rfl rfl rfl ?_
          refine zV_goto 34 dX11_scene_3.2.1.1.1 rfl ?_
          refine zV_clr 5 (ls' := [_, _, _, _, _, _]) rfl ?_
          exact k34 _ _ hF (by omega) (by omega) (by omega) (by omega) (by omega) (by omega)
        · refine zW_aload_n (pc' := 62) dX11_scene_1.2.2.1.1 rfl rfl ?_
          refine zG_ref (pc' := 65) 33 fg_X11_19 tb30 rfl dX11_scene_1.2.2.1.2 rfl ?_
          refine zG_ref (pc' := 68) 34 fg_X11_133 tb33 rfl dX11_scene_1.2.2.2.1 rfl ?_
          refine zW_iload (pc' := 70) dX11_scene_1.2.2.2.2 rfl rfl ?_
          refine zW_bipush (pc' := 72) dX11_scene_2.1.1.1.1 rfl rfl ?_
          refine zW_imul (pc' := 73) dX11_scene_2.1.1.1.2 rfl ?_
          refine zW_iload (pc' := 75) dX11_scene_2.1.1.2.1 rfl rfl ?_
          refine zW_iadd (pc' := 76) dX11_scene_2.1.1.2.2 rfl ?_
          refine zW_iload_n (pc' := 77) dX11_scene_2.1.2.1.1 rfl rfl ?_
          refine zW_iconst (pc' := 78) dX11_scene_2.1.2.1.2 rfl ?_
          refine zV_cm_ne (tgt := 90) (pc' := 81) dX11_scene_2.1.2.2.1 rfl rfl ⟨by omega, by omega⟩ ⟨by omega, by omega⟩ (fun c78 => ?_) (fun c78 => ?_)
          · refine zW_aload_n (pc' := 91) dX11_scene_2.2.2.1.1 rfl rfl ?_
            refine zG_ref (pc' := 94) 33 fg_X11_19 tb30 rfl dX11_scene_2.2.2.1.2 rfl ?_
            refine zW_iload_n (pc' := 95) dX11_scene_2.2.2.2.1 rfl rfl ?_
            refine zW_iload_n (pc' := 96) dX11_scene_2.2.2.2.2 rfl rfl ?_
            refine zW_iload_n (pc' := 97) dX11_scene_3.1.1.1.1 rfl rfl ?_
            refine zW_iload (pc' := 99) dX11_scene_3.1.1.1.2 rfl rfl ?_
            refine zW_iload (pc' := 101) dX11_scene_3.1.1.2.1 rfl rfl ?_
            have y101_33_0 := hF.1 33 0 rfl rfl
            have y101_33_1 := hF.1 33 1 rfl rfl
            refine cvI5 (pc' := 104) kX5_laid vX5_laid lk_X11_154 ⟨Nat.le_of_ble_eq_true rfl, Nat.le_of_ble_eq_true rfl⟩ tb33 vq5 rfl rfl (s_X5_laid (b := bdB true) (κ := h) hF.2.2.2 (Fr.rf hF.2.1) _ ⟨by omega, by omega⟩ _ _ _ ⟨by omega, by omega, by omega⟩ _ ⟨by omega, by omega, by omega⟩) dX11_scene_3.1.1.2.2 (Nat.le_of_ble_eq_true rfl) rfl ?_
            rintro r101 z101 ⟨hz101, p101⟩; subst z101
            refine zSm (pc' := 105) hF rfl (fun v' hv he => ⟨(SI_irr hF.2.1 (Or.inl (key_of rfl _)) (fun _ _ => hv)), (KR_irr hF.2.2.1 rfl), (KC_irr hF.2.2.2 rfl)⟩) tb34 (by omega) dX11_scene_3.1.2.1.1 (by decide) rfl (fun h i104 hF a104 b104 w104 => ?_)
            have t104_54_7 := congrFun (congrFun w104 54) 7
            rw [zwr_ne (Or.inl (by decide))] at t104_54_7
            refine zW_iinc (ls' := [_, _, _, _, _, _]) (pc' := 108) dX11_scene_3.1.2.1.2 rfl (by decide) rfl rfl rfl ?_
            refine zV_goto 49 dX11_scene_3.1.2.2.1 rfl ?_
            exact k49 _ _ _ hF (by omega) (by omega) (by omega) (by omega) (by omega) (by omega) (by omega) (by omega)
          · refine zW_aload_n (pc' := 82) dX11_scene_2.1.2.2.2 rfl rfl ?_
            refine zW_iload_n (pc' := 83) dX11_scene_2.2.1.1.1 rfl rfl ?_
            refine zW_iload_n (pc' := 84) dX11_scene_2.2.1.1.2 rfl rfl ?_
            refine cvI2 (pc' := 87) kX11_drawn vX11_drawn lk_X11_150 ⟨Nat.le_of_ble_eq_true rfl, Nat.le_of_ble_eq_true rfl⟩ tb30 vq11 rfl rfl (s_X11_drawn hF.2.1 hF.2.2.1 hF.2.2.2 _ ⟨by omega, by omega⟩ _ ⟨by omega, by omega⟩) dX11_scene_2.2.1.2.1 (Nat.le_of_ble_eq_true rfl) rfl ?_
            rintro r84 h ⟨hF1, p84⟩; replace hF := hF.tr hF1 rfl
            have t84_54_7 := hF1.1 54 7 rfl rfl
            refine zV_goto 104 dX11_scene_2.2.1.2.2 rfl ?_
            refine zSm (pc' := 105) hF rfl (fun v' hv he => ⟨(SI_irr hF.2.1 (Or.inl (key_of rfl _)) (fun _ _ => hv)), (KR_irr hF.2.2.1 rfl), (KC_irr hF.2.2.2 rfl)⟩) tb34 (by omega) dX11_scene_3.1.2.1.1 (by decide) rfl (fun h i104 hF a104 b104 w104 => ?_)
            have t104_54_7 := congrFun (congrFun w104 54) 7
            rw [zwr_ne (Or.inl (by decide))] at t104_54_7
            refine zW_iinc (ls' := [_, _, _, _, _, _]) (pc' := 108) dX11_scene_3.1.2.1.2 rfl (by decide) rfl rfl rfl ?_
            refine zV_goto 49 dX11_scene_3.1.2.2.1 rfl ?_
            exact k49 _ _ _ hF (by omega) (by omega) (by omega) (by omega) (by omega) (by omega) (by omega) (by omega)
  refine zM_of [some (.inr (.inr 30)), some (.inl x1), some (.inl x2), some (.inl x3), none, none] 2 rfl rfl (Nat.le_of_ble_eq_true rfl) rfl ?_
  refine (show ∀ h : Hp, Fm [(34, 999), (35, 999), (39, 1), (30, 12), (54, 7)] κ h → h = κ → zV G mX11_scene (q_X11_scene κ x1 x2 x3) 0 [some (.inr (.inr 30)), some (.inl x1), some (.inl x2), some (.inl x3), none, none] [] h from fun h hF hk0 => ?_) κ (Fm.rf hS hR hC) rfl
  refine zW_iload_n (pc' := 1) dX11_scene_0.1.1.1.1 rfl rfl ?_
  refine zW_bipush (pc' := 3) dX11_scene_0.1.1.1.2 rfl rfl ?_
  refine csI2 (pc' := 6) kX11_isWithin vX11_isWithin lk_X11_116 ⟨Nat.le_of_ble_eq_true rfl, Nat.le_of_ble_eq_true rfl⟩ rfl (s_X11_isWithinR (b := bdB true) (κ := h) (Fr.rf hF.2.1) _ ⟨by omega, by omega⟩ _ ⟨by omega, by omega⟩) dX11_scene_0.1.1.2.1 (Nat.le_of_ble_eq_true rfl) rfl ?_
  rintro r3 z3 ⟨hz3, p3⟩; subst z3
  refine zV_if_eq (tgt := 29) (pc' := 9) dX11_scene_0.1.1.2.2 rfl rfl ⟨by omega, by omega⟩ (fun c6 => ?_) (fun c6 => ?_)
  · refine zW_iconst (pc' := 30) dX11_scene_0.2.2.1.1 rfl ?_
    exact zV_zret rfl (by omega) dX11_scene_0.2.2.1.2 ⟨hF, ⟨by omega, (by first | exact Or.inl (by omega) | exact Or.inr hU | exact Or.inr (by rw [hk0]; exact UnC.rf))⟩⟩
  · refine zW_iload_n (pc' := 10) dX11_scene_0.1.2.1.1 rfl rfl ?_
    refine zW_sipush (pc' := 13) dX11_scene_0.1.2.1.2 rfl rfl ?_
    refine csI2 (pc' := 16) kX11_isWithin vX11_isWithin lk_X11_116 ⟨Nat.le_of_ble_eq_true rfl, Nat.le_of_ble_eq_true rfl⟩ rfl (s_X11_isWithinR (b := bdB true) (κ := h) (Fr.rf hF.2.1) _ ⟨by omega, by omega⟩ _ ⟨by omega, by omega⟩) dX11_scene_0.1.2.2.1 (Nat.le_of_ble_eq_true rfl) rfl ?_
    rintro r13 z13 ⟨hz13, p13⟩; subst z13
    refine zV_if_eq (tgt := 29) (pc' := 19) dX11_scene_0.1.2.2.2 rfl rfl ⟨by omega, by omega⟩ (fun c16 => ?_) (fun c16 => ?_)
    · refine zW_iconst (pc' := 30) dX11_scene_0.2.2.1.1 rfl ?_
      exact zV_zret rfl (by omega) dX11_scene_0.2.2.1.2 ⟨hF, ⟨by omega, (by first | exact Or.inl (by omega) | exact Or.inr hU | exact Or.inr (by rw [hk0]; exact UnC.rf))⟩⟩
    · refine zW_iload_n (pc' := 20) dX11_scene_0.2.1.1.1 rfl rfl ?_
      refine zW_sipush (pc' := 23) dX11_scene_0.2.1.1.2 rfl rfl ?_
      refine csI2 (pc' := 26) kX11_isWithin vX11_isWithin lk_X11_116 ⟨Nat.le_of_ble_eq_true rfl, Nat.le_of_ble_eq_true rfl⟩ rfl (s_X11_isWithinR (b := bdB true) (κ := h) (Fr.rf hF.2.1) _ ⟨by omega, by omega⟩ _ ⟨by omega, by omega⟩) dX11_scene_0.2.1.2.1 (Nat.le_of_ble_eq_true rfl) rfl ?_
      rintro r23 z23 ⟨hz23, p23⟩; subst z23
      refine zV_if_ne (tgt := 31) (pc' := 29) dX11_scene_0.2.1.2.2 rfl rfl ⟨by omega, by omega⟩ (fun c26 => ?_) (fun c26 => ?_)
      · refine zW_iconst (pc' := 32) dX11_scene_0.2.2.2.1 rfl ?_
        refine zW_istore (ls' := [_, _, _, _, _, _]) (pc' := 34) dX11_scene_0.2.2.2.2 (by decide) rfl rfl rfl ?_
        exact (main 10000000000000000000000000000000000000000).1 _ _ hF (by omega) (by omega) (by omega) (by omega) (by omega) (by omega)
      · refine zW_iconst (pc' := 30) dX11_scene_0.2.2.1.1 rfl ?_
        exact zV_zret rfl (by omega) dX11_scene_0.2.2.1.2 ⟨hF, ⟨by omega, (by first | exact Or.inl (by omega) | exact Or.inr hU | exact Or.inr (by rw [hk0]; exact UnC.rf))⟩⟩

abbrev q_X10_lay (κ : Hp) (x1 : Int) : Int → Hp → Prop := fun r h' => Fm [(40, 999)] κ h' ∧ (True)
set_option maxHeartbeats 4000000 in
set_option maxRecDepth 20000 in
theorem s_X10_lay {G : Ga} {κ : Hp} (hS : SI κ) (hR : KR κ) (hC : KC κ) (x1 : Int) (hx1 : rng x1) : zM G mX10_lay yX10_lay [.inr (.inr 39), .inl x1, .inr (.inr 31), .inr (.inr 33)] κ (q_X10_lay κ x1) := by
  have f_33_0 := KCw hC
  have f_33_1 := KCh hC
  have f_36_0 := KCk0 hC
  have f_36_1 := KCk1 hC
  unfold rng at hx1
  have main : ∀ N : Nat, (∀ (v4 : Int) (h : Hp), Fm [(40, 999)] κ h → (0 ≤ v4 ∧ v4 ≤ 3) → 32575102560 + 84610656 * (3 - v4) + 83525904 < (N : Int) → zV G mX10_lay (q_X10_lay κ x1) 3 [some (.inr (.inr 39)), some (.inl x1), some (.inr (.inr 31)), some (.inr (.inr 33)), some (.inl v4), none, none, none, none, none] [] h) ∧ (∀ (v4 v5 v6 v7 : Int) (h : Hp), Fm [(40, 999)] κ h → (0 ≤ v4 ∧ v4 ≤ 2) → (rng v5) → (rng v6) → (0 ≤ v7 ∧ v7 ≤ 16) → (v7 - κ 33 1 ≤ 0) → 32575102560 + 84610656 * (3 - v4) + 66169872 + 60264 * (16 - v7) + 59292 < (N : Int) → zV G mX10_lay (q_X10_lay κ x1) 30 [some (.inr (.inr 39)), some (.inl x1), some (.inr (.inr 31)), some (.inr (.inr 33)), some (.inl v4), some (.inl v5), some (.inl v6), some (.inl v7), none, none] [] h) ∧ (∀ (v4 v5 v6 v7 v8 : Int) (h : Hp), Fm [(40, 999)] κ h → (0 ≤ v4 ∧ v4 ≤ 2) → (rng v5) → (rng v6) → (0 ≤ v7 ∧ v7 ≤ 15) → (v7 - κ 33 1 ≤ -1) → (0 ≤ v8 ∧ v8 ≤ 16) → (v8 - κ 33 0 ≤ 0) → 32575102560 + 84610656 * (3 - v4) + 66169872 + 60264 * (16 - v7) + 51516 + 54 * (16 - v8) + 53 < (N : Int) → zV G mX10_lay (q_X10_lay κ x1) 42 [some (.inr (.inr 39)), some (.inl x1), some (.inr (.inr 31)), some (.inr (.inr 33)), some (.inl v4), some (.inl v5), some (.inl v6), some (.inl v7), some (.inl v8), none] [] h) ∧ (∀ (v4 v5 v6 v7 v8 u0 : Int) (h : Hp), Fm [(40, 999)] κ h → (0 ≤ v4 ∧ v4 ≤ 2) → (rng v5) → (rng v6) → (0 ≤ v7 ∧ v7 ≤ 15) → (v7 - κ 33 1 ≤ -1) → (0 ≤ v8 ∧ v8 ≤ 15) → (v8 - κ 33 0 ≤ -1) → (rng u0) → 32575102560 + 84610656 * (3 - v4) + 66169872 + 60264 * (16 - v7) + 51516 + 54 * (16 - v8) + 37 < (N : Int) → zV G mX10_lay (q_X10_lay κ x1) 71 [some (.inr (.inr 39)), some (.inl x1), some (.inr (.inr 31)), some (.inr (.inr 33)), some (.inl v4), some (.inl v5), some (.inl v6), some (.inl v7), some (.inl v8), none] [.inl u0] h) ∧ (∀ (v4 v5 v6 v7 v8 v9 : Int) (h : Hp), Fm [(40, 999)] κ h → (0 ≤ v4 ∧ v4 ≤ 2) → (rng v5) → (rng v6) → (0 ≤ v7 ∧ v7 ≤ 15) → (v7 - κ 33 1 ≤ -1) → (0 ≤ v8 ∧ v8 ≤ 15) → (v8 - κ 33 0 ≤ -1) → 32575102560 + 84610656 * (3 - v4) + 66169872 + 60264 * (16 - v7) + 51516 + 54 * (16 - v8) + 16 < (N : Int) → zV G mX10_lay (q_X10_lay κ x1) 106 [some (.inr (.inr 39)), some (.inl x1), some (.inr (.inr 31)), some (.inr (.inr 33)), some (.inl v4), some (.inl v5), some (.inl v6), some (.inl v7), some (.inl v8), some (.inl v9)] [] h) := by
    intro N
    induction N with
    | zero =>
      refine ⟨?_, ?_, ?_, ?_, ?_⟩
      · intro v4 h hF g0 hm
        exfalso; omega
      · intro v4 v5 v6 v7 h hF g0 g1 g2 g3 g4 hm
        unfold rng at g1
        unfold rng at g2
        exfalso; omega
      · intro v4 v5 v6 v7 v8 h hF g0 g1 g2 g3 g4 g5 g6 hm
        unfold rng at g1
        unfold rng at g2
        exfalso; omega
      · intro v4 v5 v6 v7 v8 u0 h hF g0 g1 g2 g3 g4 g5 g6 g7 hm
        unfold rng at g1
        unfold rng at g2
        unfold rng at g7
        exfalso; omega
      · intro v4 v5 v6 v7 v8 v9 h hF g0 g1 g2 g3 g4 g5 g6 hm
        unfold rng at g1
        unfold rng at g2
        exfalso; omega
    | succ N ih =>
      obtain ⟨k3, k30, k42, k71, k106⟩ := ih
      refine ⟨?_, ?_, ?_, ?_, ?_⟩
      · intro v4 h hF g0 hm
        refine zW_iload (pc' := 5) dX10_lay_0.1.1.2.1 rfl rfl ?_
        refine zW_iconst (pc' := 6) dX10_lay_0.1.1.2.2 rfl ?_
        refine zV_cm_gt (tgt := 146) (pc' := 9) dX10_lay_0.1.2.1.1 rfl rfl ⟨by omega, by omega⟩ ⟨by omega, by omega⟩ (fun c6 => ?_) (fun c6 => ?_)
        · exact zV_vret rfl dX10_lay_4.2.2.2 ⟨hF, trivial⟩
        · refine zW_aload_n (pc' := 10) dX10_lay_0.1.2.1.2 rfl rfl ?_
          refine zW_iload (pc' := 12) dX10_lay_0.1.2.2.1 rfl rfl ?_
          refine cvI1 (pc' := 15) kX9_byteAt vX9_byteAt lk_X10_15 ⟨Nat.le_of_ble_eq_true rfl, Nat.le_of_ble_eq_true rfl⟩ tb31 vq9 rfl rfl (s_X9_byteAt (b := bdB true) (κ := h) hF.2.2.2 (Fr.rf hF.2.1) _ ⟨by omega, by omega⟩) dX10_lay_0.1.2.2.2 (Nat.le_of_ble_eq_true rfl) rfl ?_
          rintro r12 z12 ⟨hz12, p12⟩; subst z12
          refine zW_istore (ls' := [_, _, _, _, _, _, _, _, _, _]) (pc' := 17) dX10_lay_0.2.1.1.1 (by decide) rfl rfl rfl ?_
          refine zW_aload_n (pc' := 18) dX10_lay_0.2.1.1.2 rfl rfl ?_
          refine zW_iconst (pc' := 19) dX10_lay_0.2.1.2.1 rfl ?_
          refine zW_iload (pc' := 21) dX10_lay_0.2.1.2.2 rfl rfl ?_
          refine zW_iadd (pc' := 22) dX10_lay_0.2.2.1.1 rfl ?_
          refine cvI1 (pc' := 25) kX9_byteAt vX9_byteAt lk_X10_15 ⟨Nat.le_of_ble_eq_true rfl, Nat.le_of_ble_eq_true rfl⟩ tb31 vq9 rfl rfl (s_X9_byteAt (b := bdB true) (κ := h) hF.2.2.2 (Fr.rf hF.2.1) _ ⟨by omega, by omega⟩) dX10_lay_0.2.2.1.2 (Nat.le_of_ble_eq_true rfl) rfl ?_
          rintro r22 z22 ⟨hz22, p22⟩; subst z22
          refine zW_istore (ls' := [_, _, _, _, _, _, _, _, _, _]) (pc' := 27) dX10_lay_0.2.2.2.1 (by decide) rfl rfl rfl ?_
          refine zW_iconst (pc' := 28) dX10_lay_0.2.2.2.2 rfl ?_
          refine zW_istore (ls' := [_, _, _, _, _, _, _, _, _, _]) (pc' := 30) dX10_lay_1.1.1.1.1 (by decide) rfl rfl rfl ?_
          exact k30 _ _ _ _ _ hF (by omega) ⟨by omega, by omega⟩ ⟨by omega, by omega⟩ (by omega) (by omega) (by omega)
      · intro v4 v5 v6 v7 h hF g0 g1 g2 g3 g4 hm
        unfold rng at g1
        unfold rng at g2
        refine zW_iload (pc' := 32) dX10_lay_1.1.1.1.2 rfl rfl ?_
        refine zW_aload_n (pc' := 33) dX10_lay_1.1.1.2.1 rfl rfl ?_
        refine zGm (pc' := 36) hF rfl rfl fg_X10_21 tb33 rfl dX10_lay_1.1.1.2.2 rfl ?_
        refine zV_cm_ge (tgt := 140) (pc' := 39) dX10_lay_1.1.2.1.1 rfl rfl ⟨by omega, by omega⟩ ⟨by omega, by omega⟩ (fun c36 => ?_) (fun c36 => ?_)
        · refine zW_iinc (ls' := [_, _, _, _, _, _, _, _, _, _]) (pc' := 143) dX10_lay_4.2.2.1.1 rfl (by decide) rfl rfl rfl ?_
          refine zV_goto 3 dX10_lay_4.2.2.1.2 rfl ?_
          refine zV_clr 5 (ls' := [_, _, _, _, _, _, _, _, _, _]) rfl ?_
          refine zV_clr 6 (ls' := [_, _, _, _, _, _, _, _, _, _]) rfl ?_
          refine zV_clr 7 (ls' := [_, _, _, _, _, _, _, _, _, _]) rfl ?_
          exact k3 _ _ hF (by omega) (by omega)
        · refine zW_iconst (pc' := 40) dX10_lay_1.1.2.1.2 rfl ?_
          refine zW_istore (ls' := [_, _, _, _, _, _, _, _, _, _]) (pc' := 42) dX10_lay_1.1.2.2.1 (by decide) rfl rfl rfl ?_
          exact k42 _ _ _ _ _ _ hF (by omega) ⟨by omega, by omega⟩ ⟨by omega, by omega⟩ (by omega) (by omega) (by omega) (by omega) (by omega)
      · intro v4 v5 v6 v7 v8 h hF g0 g1 g2 g3 g4 g5 g6 hm
        unfold rng at g1
        unfold rng at g2
        refine zW_iload (pc' := 44) dX10_lay_1.1.2.2.2 rfl rfl ?_
        refine zW_aload_n (pc' := 45) dX10_lay_1.2.1.1.1 rfl rfl ?_
        refine zGm (pc' := 48) hF rfl rfl fg_X10_27 tb33 rfl dX10_lay_1.2.1.1.2 rfl ?_
        refine zV_cm_ge (tgt := 134) (pc' := 51) dX10_lay_1.2.1.2.1 rfl rfl ⟨by omega, by omega⟩ ⟨by omega, by omega⟩ (fun c48 => ?_) (fun c48 => ?_)
        · refine zW_iinc (ls' := [_, _, _, _, _, _, _, _, _, _]) (pc' := 137) dX10_lay_4.2.1.2.1 rfl (by decide) rfl rfl rfl ?_
          refine zV_goto 30 dX10_lay_4.2.1.2.2 rfl ?_
          refine zV_clr 8 (ls' := [_, _, _, _, _, _, _, _, _, _]) rfl ?_
          exact k30 _ _ _ _ _ hF (by omega) ⟨by omega, by omega⟩ ⟨by omega, by omega⟩ (by omega) (by omega) (by omega)
        · refine zW_aload_n (pc' := 52) dX10_lay_1.2.1.2.2 rfl rfl ?_
          refine zW_iload_n (pc' := 53) dX10_lay_1.2.2.1.1 rfl rfl ?_
          refine zW_iload (pc' := 55) dX10_lay_1.2.2.1.2 rfl rfl ?_
          refine zW_iload (pc' := 57) dX10_lay_1.2.2.2.1 rfl rfl ?_
          refine zW_aload_n (pc' := 58) dX10_lay_1.2.2.2.2 rfl rfl ?_
          have y58_33_0 := hF.1 33 0 rfl rfl
          have y58_33_1 := hF.1 33 1 rfl rfl
          refine cvI4 (pc' := 61) kX10_isFirst vX10_isFirst lk_X10_30 ⟨Nat.le_of_ble_eq_true rfl, Nat.le_of_ble_eq_true rfl⟩ tb39 vq10 rfl rfl (s_X10_isFirst (b := bdB true) (κ := h) hF.2.2.2 (Fr.rf hF.2.1) _ ⟨by omega, by omega⟩ _ ⟨by omega, by omega, by omega⟩ _ ⟨by omega, by omega, by omega⟩) dX10_lay_2.1.1.1.1 (Nat.le_of_ble_eq_true rfl) rfl ?_
          rintro r58 z58 ⟨hz58, p58⟩; subst z58
          refine zV_if_eq (tgt := 69) (pc' := 64) dX10_lay_2.1.1.1.2 rfl rfl ⟨by omega, by omega⟩ (fun c61 => ?_) (fun c61 => ?_)
          · refine zW_iload (pc' := 71) dX10_lay_2.1.2.1.1 rfl rfl ?_
            exact k71 _ _ _ _ _ _ _ hF (by omega) ⟨by omega, by omega⟩ ⟨by omega, by omega⟩ (by omega) (by omega) (by omega) (by omega) ⟨by omega, by omega⟩ (by omega)
          · refine zW_iload (pc' := 66) dX10_lay_2.1.1.2.1 rfl rfl ?_
            refine zV_goto 71 dX10_lay_2.1.1.2.2 rfl ?_
            exact k71 _ _ _ _ _ _ _ hF (by omega) ⟨by omega, by omega⟩ ⟨by omega, by omega⟩ (by omega) (by omega) (by omega) (by omega) ⟨by omega, by omega⟩ (by omega)
      · intro v4 v5 v6 v7 v8 u0 h hF g0 g1 g2 g3 g4 g5 g6 g7 hm
        unfold rng at g1
        unfold rng at g2
        unfold rng at g7
        refine zW_istore (ls' := [_, _, _, _, _, _, _, _, _, _]) (pc' := 73) dX10_lay_2.1.2.1.2 (by decide) rfl rfl rfl ?_
        refine zW_iload_n (pc' := 74) dX10_lay_2.1.2.2.1 rfl rfl ?_
        refine zW_iconst (pc' := 75) dX10_lay_2.1.2.2.2 rfl ?_
        refine zV_cm_ne (tgt := 106) (pc' := 78) dX10_lay_2.2.1.1.1 rfl rfl ⟨by omega, by omega⟩ ⟨by omega, by omega⟩ (fun c75 => ?_) (fun c75 => ?_)
        · exact k106 _ _ _ _ _ _ _ hF (by omega) ⟨by omega, by omega⟩ ⟨by omega, by omega⟩ (by omega) (by omega) (by omega) (by omega) (by omega)
        · refine zW_aload_n (pc' := 79) dX10_lay_2.2.1.1.2 rfl rfl ?_
          refine zGm (pc' := 82) hF rfl rfl fg_X10_27 tb33 rfl dX10_lay_2.2.1.2.1 rfl ?_
          refine zW_iconst (pc' := 83) dX10_lay_2.2.1.2.2 rfl ?_
          refine zV_cm_le (tgt := 106) (pc' := 86) dX10_lay_2.2.2.1.1 rfl rfl ⟨by omega, by omega⟩ ⟨by omega, by omega⟩ (fun c83 => ?_) (fun c83 => ?_)
          · exfalso; omega
          · refine zW_iload (pc' := 88) dX10_lay_2.2.2.1.2 rfl rfl ?_
            refine zW_iload (pc' := 90) dX10_lay_2.2.2.2.1 rfl rfl ?_
            refine zW_iload (pc' := 92) dX10_lay_2.2.2.2.2 rfl rfl ?_
            refine zW_isub (pc' := 93) dX10_lay_3.1.1.1.1 rfl ?_
            refine zW_iload (pc' := 95) dX10_lay_3.1.1.1.2 rfl rfl ?_
            refine zW_imul (pc' := 96) dX10_lay_3.1.1.2.1 rfl ?_
            refine zW_aload_n (pc' := 97) dX10_lay_3.1.1.2.2 rfl rfl ?_
            refine zGm (pc' := 100) hF rfl rfl fg_X10_27 tb33 rfl dX10_lay_3.1.2.1.1 rfl ?_
            refine zW_iconst (pc' := 101) dX10_lay_3.1.2.1.2 rfl ?_
            refine zW_isub (pc' := 102) dX10_lay_3.1.2.2.1 rfl ?_
            refine zW_idivQ (pc' := 103) ⟨by omega, by omega⟩ (by omega) dX10_lay_3.1.2.2.2 rfl (fun v102 e102 => ?_)
            unfold rng at e102
            refine zW_iadd (pc' := 104) dX10_lay_3.2.1.1.1 rfl ?_
            refine zW_istore (ls' := [_, _, _, _, _, _, _, _, _, _]) (pc' := 106) dX10_lay_3.2.1.1.2 (by decide) rfl rfl rfl ?_
            exact k106 _ _ _ _ _ _ _ hF (by omega) ⟨by omega, by omega⟩ ⟨by omega, by omega⟩ (by omega) (by omega) (by omega) (by omega) (by omega)
      · intro v4 v5 v6 v7 v8 v9 h hF g0 g1 g2 g3 g4 g5 g6 hm
        unfold rng at g1
        unfold rng at g2
        refine zW_aload_n (pc' := 107) dX10_lay_3.2.1.2.1 rfl rfl ?_
        refine zG_ref (pc' := 110) 40 fg_X10_9 tb39 rfl dX10_lay_3.2.1.2.2 rfl ?_
        refine zW_iload (pc' := 112) dX10_lay_3.2.2.1.1 rfl rfl ?_
        refine zW_sipush (pc' := 115) dX10_lay_3.2.2.1.2 rfl rfl ?_
        refine zW_imul (pc' := 116) dX10_lay_3.2.2.2.1 rfl ?_
        refine zW_iload (pc' := 118) dX10_lay_3.2.2.2.2 rfl rfl ?_
        refine zW_bipush (pc' := 120) dX10_lay_4.1.1.1.1 rfl rfl ?_
        refine zW_imul (pc' := 121) dX10_lay_4.1.1.1.2 rfl ?_
        refine zW_iadd (pc' := 122) dX10_lay_4.1.1.2.1 rfl ?_
        refine zW_iload (pc' := 124) dX10_lay_4.1.1.2.2 rfl rfl ?_
        refine zW_iadd (pc' := 125) dX10_lay_4.1.2.1.1 rfl ?_
        refine zW_iload (pc' := 127) dX10_lay_4.1.2.1.2 rfl rfl ?_
        refine zSm (pc' := 128) hF rfl (fun v' hv he => ⟨(SI_irr hF.2.1 (Or.inl (key_of rfl _)) (fun _ _ => hv)), (KR_irr hF.2.2.1 rfl), (KC_irr hF.2.2.2 rfl)⟩) tb40 (by omega) dX10_lay_4.1.2.2 (by decide) rfl (fun h i127 hF a127 b127 w127 => ?_)
        refine zW_iinc (ls' := [_, _, _, _, _, _, _, _, _, _]) (pc' := 131) dX10_lay_4.2.1.1.1 rfl (by decide) rfl rfl rfl ?_
        refine zV_goto 42 dX10_lay_4.2.1.1.2 rfl ?_
        refine zV_clr 9 (ls' := [_, _, _, _, _, _, _, _, _, _]) rfl ?_
        exact k42 _ _ _ _ _ _ hF (by omega) ⟨by omega, by omega⟩ ⟨by omega, by omega⟩ (by omega) (by omega) (by omega) (by omega) (by omega)
  refine zM_of [some (.inr (.inr 39)), some (.inl x1), some (.inr (.inr 31)), some (.inr (.inr 33)), none, none, none, none, none, none] 6 rfl rfl (Nat.le_of_ble_eq_true rfl) rfl ?_
  refine (show ∀ h : Hp, Fm [(40, 999)] κ h → h = κ → zV G mX10_lay (q_X10_lay κ x1) 0 [some (.inr (.inr 39)), some (.inl x1), some (.inr (.inr 31)), some (.inr (.inr 33)), none, none, none, none, none, none] [] h from fun h hF hk0 => ?_) κ (Fm.rf hS hR hC) rfl
  refine zW_iconst (pc' := 1) dX10_lay_0.1.1.1.1 rfl ?_
  refine zW_istore (ls' := [_, _, _, _, _, _, _, _, _, _]) (pc' := 3) dX10_lay_0.1.1.1.2 (by decide) rfl rfl rfl ?_
  exact (main 10000000000000000000000000000000000000000).1 _ _ hF (by omega) (by omega)

abbrev q_X11_truth (κ : Hp) (x1 : Int) : Int → Hp → Prop := fun r h' => Fm [(34, 999), (35, 999), (40, 999), (39, 1), (31, 1), (54, 7)] κ h' ∧ (((0 ≤ r) ∧ (r ≤ 1) ∧ ((r = 1 ∧ (0 ≤ x1 ∧ x1 ≤ 5 ∧ 6 ≤ κ 31 1) ∧ h' 31 1 = 0) ∨ (r = 0 ∧ ¬ (0 ≤ x1 ∧ x1 ≤ 5 ∧ 6 ≤ κ 31 1) ∧ h' 31 1 = κ 31 1))) ∧ ChC κ h')
set_option maxHeartbeats 4000000 in
set_option maxRecDepth 20000 in
theorem s_X11_truth {G : Ga} {κ : Hp} (hS : SI κ) (hR : KR κ) (hC : KC κ) (x1 : Int) (hx1 : rng x1) : zM G mX11_truth yX11_truth [.inr (.inr 30), .inl x1] κ (q_X11_truth κ x1) := by
  have f_31_1 := KCt hC
  have f_33_0 := KCw hC
  have f_33_1 := KCh hC
  have f_36_0 := KCk0 hC
  have f_36_1 := KCk1 hC
  unfold rng at hx1
  have main : ∀ N : Nat, (∀ (v2 : Int) (h : Hp), Fm [(34, 999), (35, 999), (40, 999), (39, 1), (31, 1), (54, 7)] κ h → (0 ≤ x1 ∧ x1 ≤ 5) → (0 ≤ v2 ∧ v2 ≤ 16) → (v2 - κ 33 1 ≤ 0) → (6 ≤ κ 31 1) → (h 31 1 = 0) → 35604360 + 36630 * (16 - v2) + 35964 < (N : Int) → zV G mX11_truth (q_X11_truth κ x1) 47 [some (.inr (.inr 30)), some (.inl x1), some (.inl v2), none, none] [] h) ∧ (∀ (v2 v3 : Int) (h : Hp), Fm [(34, 999), (35, 999), (40, 999), (39, 1), (31, 1), (54, 7)] κ h → (0 ≤ x1 ∧ x1 ≤ 5) → (0 ≤ v2 ∧ v2 ≤ 15) → (v2 - κ 33 1 ≤ -1) → (0 ≤ v3 ∧ v3 ≤ 16) → (v3 - κ 33 0 ≤ 0) → (6 ≤ κ 31 1) → (h 31 1 = 0) → 35604360 + 36630 * (16 - v2) + 23976 + 37 * (16 - v3) + 36 < (N : Int) → zV G mX11_truth (q_X11_truth κ x1) 60 [some (.inr (.inr 30)), some (.inl x1), some (.inl v2), some (.inl v3), none] [] h) := by
    intro N
    induction N with
    | zero =>
      refine ⟨?_, ?_⟩
      · intro v2 h hF g0 g1 g2 gc0 gc1 hm
        exfalso; omega
      · intro v2 v3 h hF g0 g1 g2 g3 g4 gc0 gc1 hm
        exfalso; omega
    | succ N ih =>
      obtain ⟨k47, k60⟩ := ih
      refine ⟨?_, ?_⟩
      · intro v2 h hF g0 g1 g2 gc0 gc1 hm
        refine zW_iload_n (pc' := 48) dX11_truth_1.2.1.1.1 rfl rfl ?_
        refine zW_aload_n (pc' := 49) dX11_truth_1.2.1.1.2 rfl rfl ?_
        refine zG_ref (pc' := 52) 33 fg_X11_19 tb30 rfl dX11_truth_1.2.1.2.1 rfl ?_
        refine zGm (pc' := 55) hF rfl rfl fg_X11_127 tb33 rfl dX11_truth_1.2.1.2.2 rfl ?_
        refine zV_cm_ge (tgt := 125) (pc' := 58) dX11_truth_1.2.2.1.1 rfl rfl ⟨by omega, by omega⟩ ⟨by omega, by omega⟩ (fun c55 => ?_) (fun c55 => ?_)
        · refine zW_aload_n (pc' := 126) dX11_truth_4.1.1.1.1 rfl rfl ?_
          refine zG_ref (pc' := 129) 33 fg_X11_19 tb30 rfl dX11_truth_4.1.1.1.2 rfl ?_
          refine cvV0 (pc' := 132) kX5_wake vX5_wake lk_X11_158 ⟨Nat.le_of_ble_eq_true rfl, Nat.le_of_ble_eq_true rfl⟩ tb33 vq5 rfl rfl (s_X5_wake hF.2.1 hF.2.2.1 hF.2.2.2) dX11_truth_4.1.1.2 (Nat.le_of_ble_eq_true rfl) rfl ?_
          rintro r129 h ⟨hF1, p129⟩; replace hF := hF.tr hF1 rfl
          have t129_31_1 := hF1.1 31 1 rfl rfl
          have t129_54_7 := hF1.1 54 7 rfl rfl
          refine zW_aload_n (pc' := 133) dX11_truth_4.1.2.1.1 rfl rfl ?_
          refine cvV0 (pc' := 136) kX11_rawChanged vX11_rawChanged lk_X11_124 ⟨Nat.le_of_ble_eq_true rfl, Nat.le_of_ble_eq_true rfl⟩ tb30 vq11 rfl rfl (s_X11_rawChanged hF.2.1 hF.2.2.1 hF.2.2.2) dX11_truth_4.1.2.1.2 (Nat.le_of_ble_eq_true rfl) rfl ?_
          rintro r133 h ⟨hF1, p133⟩; replace hF := hF.tr hF1 rfl
          have t133_31_1 := hF1.1 31 1 rfl rfl
          refine zW_aload_n (pc' := 137) dX11_truth_4.1.2.2 rfl rfl ?_
          refine zG_ref (pc' := 140) 39 fg_X11_26 tb30 rfl dX11_truth_4.2.1.1.1 rfl ?_
          refine zW_iconst (pc' := 141) dX11_truth_4.2.1.1.2 rfl ?_
          refine zPmz (pc' := 144) hF (Or.inl rfl) (SI_irr hF.2.1 (Or.inl rfl) (fun _ _ => ⟨by omega, by omega⟩)) (KR_irr hF.2.2.1 rfl) (KC_irr hF.2.2.2 rfl) (by omega) fp_X11_169 tb39 rfl dX11_truth_4.2.1.2 rfl (fun h hF w141 => ?_)
          have t141_31_1 := congrFun (congrFun w141 31) 1
          rw [zwr_ne (Or.inl (by decide))] at t141_31_1
          have t141_54_7 := congrFun (congrFun w141 54) 7
          rw [zwr_ne (Or.inl (by decide))] at t141_54_7
          refine zW_iconst (pc' := 145) dX11_truth_4.2.2.1 rfl ?_
          exact zV_zret rfl (by omega) dX11_truth_4.2.2.2 ⟨hF, ⟨by omega, (by first | exact Or.inl (by omega) | exact Or.inr hU | exact Or.inr (by rw [hk0]; exact UnC.rf))⟩⟩
        · refine zW_iconst (pc' := 59) dX11_truth_1.2.2.1.2 rfl ?_
          refine zW_istore_n (ls' := [_, _, _, _, _]) (pc' := 60) dX11_truth_1.2.2.2.1 (by decide) rfl rfl rfl ?_
          exact k60 _ _ _ hF (by omega) (by omega) (by omega) (by omega) (by omega) (by omega) (by omega) (by omega)
      · intro v2 v3 h hF g0 g1 g2 g3 g4 gc0 gc1 hm
        refine zW_iload_n (pc' := 61) dX11_truth_1.2.2.2.2 rfl rfl ?_
        refine zW_aload_n (pc' := 62) dX11_truth_2.1.1.1.1 rfl rfl ?_
        refine zG_ref (pc' := 65) 33 fg_X11_19 tb30 rfl dX11_truth_2.1.1.1.2 rfl ?_
        refine zGm (pc' := 68) hF rfl rfl fg_X11_130 tb33 rfl dX11_truth_2.1.1.2.1 rfl ?_
        refine zV_cm_ge (tgt := 119) (pc' := 71) dX11_truth_2.1.1.2.2 rfl rfl ⟨by omega, by omega⟩ ⟨by omega, by omega⟩ (fun c68 => ?_) (fun c68 => ?_)
        · refine zW_iinc (ls' := [_, _, _, _, _]) (pc' := 122) dX11_truth_3.2.2.2.1 rfl (by decide) rfl rfl rfl ?_
          refine zV_goto 47 dX11_truth_3.2.2.2.2 rfl ?_
          refine zV_clr 3 (ls' := [_, _, _, _, _]) rfl ?_
          exact k47 _ _ hF (by omega) (by omega) (by omega) (by omega) (by omega) (by omega)
        · refine zW_iload_n (pc' := 72) dX11_truth_2.1.2.1.1 rfl rfl ?_
          refine zW_bipush (pc' := 74) dX11_truth_2.1.2.1.2 rfl rfl ?_
          refine zW_imul (pc' := 75) dX11_truth_2.1.2.2.1 rfl ?_
          refine zW_iload_n (pc' := 76) dX11_truth_2.1.2.2.2 rfl rfl ?_
          refine zW_iadd (pc' := 77) dX11_truth_2.2.1.1.1 rfl ?_
          refine zW_istore (ls' := [_, _, _, _, _]) (pc' := 79) dX11_truth_2.2.1.1.2 (by decide) rfl rfl rfl ?_
          refine zW_aload_n (pc' := 80) dX11_truth_2.2.1.2.1 rfl rfl ?_
          refine zG_ref (pc' := 83) 33 fg_X11_19 tb30 rfl dX11_truth_2.2.1.2.2 rfl ?_
          refine zG_ref (pc' := 86) 34 fg_X11_133 tb33 rfl dX11_truth_2.2.2.1.1 rfl ?_
          refine zW_iload (pc' := 88) dX11_truth_2.2.2.1.2 rfl rfl ?_
          refine zW_aload_n (pc' := 89) dX11_truth_2.2.2.2.1 rfl rfl ?_
          refine zG_ref (pc' := 92) 39 fg_X11_26 tb30 rfl dX11_truth_2.2.2.2.2 rfl ?_
          refine zG_ref (pc' := 95) 40 fg_X11_165 tb39 rfl dX11_truth_3.1.1.1.1 rfl ?_
          refine zW_aload_n (pc' := 96) dX11_truth_3.1.1.1.2 rfl rfl ?_
          refine zG_ref (pc' := 99) 33 fg_X11_19 tb30 rfl dX11_truth_3.1.1.2.1 rfl ?_
          refine zW_iload_n (pc' := 100) dX11_truth_3.1.1.2.2 rfl rfl ?_
          refine zW_iload_n (pc' := 101) dX11_truth_3.1.2.1.1 rfl rfl ?_
          refine cvI2 (pc' := 104) kX5_colourOf vX5_colourOf lk_X11_166 ⟨Nat.le_of_ble_eq_true rfl, Nat.le_of_ble_eq_true rfl⟩ tb33 vq5 rfl rfl (s_X5_colourOf (b := bdB true) (κ := h) hF.2.2.2 (Fr.rf hF.2.1) _ _) dX11_truth_3.1.2.1.2 (Nat.le_of_ble_eq_true rfl) rfl ?_
          rintro r101 z101 ⟨hz101, p101⟩; subst z101
          refine zW_sipush (pc' := 107) dX11_truth_3.1.2.2.1 rfl rfl ?_
          refine zW_imul (pc' := 108) dX11_truth_3.1.2.2.2 rfl ?_
          refine zW_iload (pc' := 110) dX11_truth_3.2.1.1.1 rfl rfl ?_
          refine zW_iadd (pc' := 111) dX11_truth_3.2.1.1.2 rfl ?_
          refine zAmI (pc' := 112) hF (by decide) (by decide) tb40 (by omega) dX11_truth_3.2.1.2.1 (by decide) rfl (fun e111 => ?_)
          refine zSm (pc' := 113) hF rfl (fun v' hv he => ⟨(SI_irr hF.2.1 (Or.inl (key_of rfl _)) (fun _ _ => hv)), (KR_irr hF.2.2.1 rfl), (KC_irr hF.2.2.2 rfl)⟩) tb34 (by omega) dX11_truth_3.2.1.2.2 (by decide) rfl (fun h i112 hF a112 b112 w112 => ?_)
          have t112_31_1 := congrFun (congrFun w112 31) 1
          rw [zwr_ne (Or.inl (by decide))] at t112_31_1
          have t112_54_7 := congrFun (congrFun w112 54) 7
          rw [zwr_ne (Or.inl (by decide))] at t112_54_7
          refine zW_iinc (ls' := [_, _, _, _, _]) (pc' := 116) dX11_truth_3.2.2.1.1 rfl (by decide) rfl rfl rfl ?_
          refine zV_goto 60 dX11_truth_3.2.2.1.2 rfl ?_
          refine zV_clr 4 (ls' := [_, _, _, _, _]) rfl ?_
          exact k60 _ _ _ hF (by omega) (by omega) (by omega) (by omega) (by omega) (by omega) (by omega) (by omega)
  refine zM_of [some (.inr (.inr 30)), some (.inl x1), none, none, none] 3 rfl rfl (Nat.le_of_ble_eq_true rfl) rfl ?_
  refine (show ∀ h : Hp, Fm [(34, 999), (35, 999), (40, 999), (39, 1), (31, 1), (54, 7)] κ h → h = κ → zV G mX11_truth (q_X11_truth κ x1) 0 [some (.inr (.inr 30)), some (.inl x1), none, none, none] [] h from fun h hF hk0 => ?_) κ (Fm.rf hS hR hC) rfl
  have y0_31_1 : h 31 1 = κ 31 1 := by rw [hk0]
  refine zW_iload_n (pc' := 1) dX11_truth_0.1.1.1.1 rfl rfl ?_
  refine zW_iconst (pc' := 2) dX11_truth_0.1.1.1.2 rfl ?_
  refine csI2 (pc' := 5) kX11_isWithin vX11_isWithin lk_X11_116 ⟨Nat.le_of_ble_eq_true rfl, Nat.le_of_ble_eq_true rfl⟩ rfl (s_X11_isWithinR (b := bdB true) (κ := h) (Fr.rf hF.2.1) _ ⟨by omega, by omega⟩ _ ⟨by omega, by omega⟩) dX11_truth_0.1.1.2.1 (Nat.le_of_ble_eq_true rfl) rfl ?_
  rintro r2 z2 ⟨hz2, p2⟩; subst z2
  refine zV_if_eq (tgt := 20) (pc' := 8) dX11_truth_0.1.1.2.2 rfl rfl ⟨by omega, by omega⟩ (fun c5 => ?_) (fun c5 => ?_)
  · refine zW_iconst (pc' := 21) dX11_truth_0.2.1.1.2 rfl ?_
    exact zV_zret rfl (by omega) dX11_truth_0.2.1.2.1 ⟨hF, ⟨by omega, (by first | exact Or.inl (by omega) | exact Or.inr hU | exact Or.inr (by rw [hk0]; exact UnC.rf))⟩⟩
  · refine zW_aload_n (pc' := 9) dX11_truth_0.1.2.1.1 rfl rfl ?_
    refine zG_ref (pc' := 12) 31 fg_X11_10 tb30 rfl dX11_truth_0.1.2.1.2 rfl ?_
    refine zG_int (pc' := 15) fg_X11_88 tb31 rfl dX11_truth_0.1.2.2.1 rfl ?_
    have e12 := KCt hF.2.2.2
    refine zW_bipush (pc' := 17) dX11_truth_0.1.2.2.2 rfl rfl ?_
    refine zV_cm_ge (tgt := 22) (pc' := 20) dX11_truth_0.2.1.1.1 rfl rfl ⟨by omega, by omega⟩ ⟨by omega, by omega⟩ (fun c17 => ?_) (fun c17 => ?_)
    · refine zW_aload_n (pc' := 23) dX11_truth_0.2.1.2.2 rfl rfl ?_
      refine zG_ref (pc' := 26) 39 fg_X11_26 tb30 rfl dX11_truth_0.2.2.1.1 rfl ?_
      refine zW_iload_n (pc' := 27) dX11_truth_0.2.2.1.2 rfl rfl ?_
      refine zW_aload_n (pc' := 28) dX11_truth_0.2.2.2.1 rfl rfl ?_
      refine zG_ref (pc' := 31) 31 fg_X11_10 tb30 rfl dX11_truth_0.2.2.2.2 rfl ?_
      refine zW_aload_n (pc' := 32) dX11_truth_1.1.1.1.1 rfl rfl ?_
      refine zG_ref (pc' := 35) 33 fg_X11_19 tb30 rfl dX11_truth_1.1.1.1.2 rfl ?_
      refine cvV3 (pc' := 38) kX10_lay vX10_lay lk_X11_161 ⟨Nat.le_of_ble_eq_true rfl, Nat.le_of_ble_eq_true rfl⟩ tb39 vq10 rfl rfl (s_X10_lay hF.2.1 hF.2.2.1 hF.2.2.2 _ ⟨by omega, by omega⟩) dX11_truth_1.1.1.2.1 (Nat.le_of_ble_eq_true rfl) rfl ?_
      rintro r35 h ⟨hF1, p35⟩; replace hF := hF.tr hF1 rfl
      have t35_31_1 := hF1.1 31 1 rfl rfl
      have t35_54_7 := hF1.1 54 7 rfl rfl
      refine zW_aload_n (pc' := 39) dX11_truth_1.1.1.2.2 rfl rfl ?_
      refine zG_ref (pc' := 42) 31 fg_X11_10 tb30 rfl dX11_truth_1.1.2.1.1 rfl ?_
      refine cvV0 (pc' := 45) kX9_empty vX9_empty lk_X11_99 ⟨Nat.le_of_ble_eq_true rfl, Nat.le_of_ble_eq_true rfl⟩ tb31 vq9 rfl rfl (s_X9_empty hF.2.1 hF.2.2.1 hF.2.2.2) dX11_truth_1.1.2.1.2 (Nat.le_of_ble_eq_true rfl) rfl ?_
      rintro r42 h ⟨hF1, p42⟩; replace hF := hF.tr hF1 rfl
      have t42_54_7 := hF1.1 54 7 rfl rfl
      refine zW_iconst (pc' := 46) dX11_truth_1.1.2.2.1 rfl ?_
      refine zW_istore_n (ls' := [_, _, _, _, _]) (pc' := 47) dX11_truth_1.1.2.2.2 (by decide) rfl rfl rfl ?_
      exact (main 10000000000000000000000000000000000000000).1 _ _ hF (by omega) (by omega) (by omega) (by omega) (by omega) (by omega)
    · refine zW_iconst (pc' := 21) dX11_truth_0.2.1.1.2 rfl ?_
      exact zV_zret rfl (by omega) dX11_truth_0.2.1.2.1 ⟨hF, ⟨by omega, (by first | exact Or.inl (by omega) | exact Or.inr hU | exact Or.inr (by rw [hk0]; exact UnC.rf))⟩⟩

abbrev q_X11_seed (κ : Hp) (x1 : Int) : Int → Hp → Prop := fun r h' => Fm [(30, 12)] κ h' ∧ ((0 ≤ r) ∧ (r ≤ 1) ∧ (r = 1 ↔ (0 ≤ x1 ∧ x1 ≤ 65535)))
set_option maxHeartbeats 4000000 in
set_option maxRecDepth 20000 in
theorem s_X11_seed {G : Ga} {κ : Hp} (hS : SI κ) (hR : KR κ) (hC : KC κ) (x1 : Int) (hx1 : rng x1) : zM G mX11_seed yX11_seed [.inr (.inr 30), .inl x1] κ (q_X11_seed κ x1) := by
  unfold rng at hx1
  refine zM_of [some (.inr (.inr 30)), some (.inl x1)] 0 rfl rfl (Nat.le_of_ble_eq_true rfl) rfl ?_
  refine (show ∀ h : Hp, Fm [(30, 12)] κ h → h = κ → zV G mX11_seed (q_X11_seed κ x1) 0 [some (.inr (.inr 30)), some (.inl x1)] [] h from fun h hF hk0 => ?_) κ (Fm.rf hS hR hC) rfl
  refine zW_iload_n (pc' := 1) dX11_seed_0.1.1.1.1 rfl rfl ?_
  refine zV_ldc_w (n := 65535) (pc' := 4) kc_X11_395 rfl dX11_seed_0.1.1.1.2 rfl ?_
  refine csI2 (pc' := 7) kX11_isWithin vX11_isWithin lk_X11_116 ⟨Nat.le_of_ble_eq_true rfl, Nat.le_of_ble_eq_true rfl⟩ rfl (s_X11_isWithinR (b := bdB true) (κ := h) (Fr.rf hF.2.1) _ ⟨by omega, by omega⟩ _ ⟨by omega, by omega⟩) dX11_seed_0.1.1.2 (Nat.le_of_ble_eq_true rfl) rfl ?_
  rintro r4 z4 ⟨hz4, p4⟩; subst z4
  refine zV_if_ne (tgt := 12) (pc' := 10) dX11_seed_0.1.2.1.1 rfl rfl ⟨by omega, by omega⟩ (fun c7 => ?_) (fun c7 => ?_)
  · refine zW_aload_n (pc' := 13) dX11_seed_0.2.1.1.1 rfl rfl ?_
    refine zW_iload_n (pc' := 14) dX11_seed_0.2.1.1.2 rfl rfl ?_
    refine zPm (pc' := 17) hF (Or.inl rfl) (SI_irr hF.2.1 (Or.inl rfl) (fun _ _ => ⟨by omega, by omega⟩)) (KR_irr hF.2.2.1 rfl) (KC_30_12 hF.2.2.2 (by omega)) fp_X11_85 tb30 rfl dX11_seed_0.2.1.2 rfl (fun h hF w14 => ?_)
    refine zW_iconst (pc' := 18) dX11_seed_0.2.2.1 rfl ?_
    exact zV_zret rfl (by omega) dX11_seed_0.2.2.2 ⟨hF, by omega⟩
  · refine zW_iconst (pc' := 11) dX11_seed_0.1.2.1.2 rfl ?_
    exact zV_zret rfl (by omega) dX11_seed_0.1.2.2 ⟨hF, by omega⟩

abbrev q_X11_keep (κ : Hp)  : Int → Hp → Prop := fun r h' => Fm [(36, 0), (36, 1), (36, 2), (37, 999), (38, 999), (45, 0), (45, 1), (46, 999), (47, 999), (48, 999), (30, 10), (30, 11)] κ h' ∧ ((r = κ 41 0 ∧ h' 30 11 = 1 ∧ h' 36 0 = κ 33 0 ∧ h' 36 1 = κ 33 1 ∧ h' 36 2 = κ 33 2 ∧ h' 30 10 = κ 30 12))
set_option maxHeartbeats 4000000 in
set_option maxRecDepth 20000 in
theorem s_X11_keep {G : Ga} {κ : Hp} (hS : SI κ) (hR : KR κ) (hC : KC κ)  : zM G mX11_keep yX11_keep [.inr (.inr 30)] κ (q_X11_keep κ) := by
  have f_30_12 := KCc hC
  have f_33_0 := KCw hC
  have f_33_1 := KCh hC
  have f_33_2 := KCp hC
  have f_41_0 := KCm hC
  have f_45_0 := KCr0 hC
  have f_49_0 := KCd0 hC
  refine zM_of [some (.inr (.inr 30))] 0 rfl rfl (Nat.le_of_ble_eq_true rfl) rfl ?_
  refine (show ∀ h : Hp, Fm [(36, 0), (36, 1), (36, 2), (37, 999), (38, 999), (45, 0), (45, 1), (46, 999), (47, 999), (48, 999), (30, 10), (30, 11)] κ h → h = κ → zV G mX11_keep (q_X11_keep κ) 0 [some (.inr (.inr 30))] [] h from fun h hF hk0 => ?_) κ (Fm.rf hS hR hC) rfl
  refine zW_aload_n (pc' := 1) dX11_keep_0.1.1.1.1 rfl rfl ?_
  refine zG_ref (pc' := 4) 36 fg_X11_71 tb30 rfl dX11_keep_0.1.1.1.2 rfl ?_
  refine zW_aload_n (pc' := 5) dX11_keep_0.1.1.2.1 rfl rfl ?_
  refine zG_ref (pc' := 8) 33 fg_X11_19 tb30 rfl dX11_keep_0.1.1.2.2 rfl ?_
  have y8_33_0 := hF.1 33 0 rfl rfl
  have y8_33_1 := hF.1 33 1 rfl rfl
  have y8_33_2 := hF.1 33 2 rfl rfl
  refine cvV1 (pc' := 11) kX5_copyFrom vX5_copyFrom lk_X11_396 ⟨Nat.le_of_ble_eq_true rfl, Nat.le_of_ble_eq_true rfl⟩ tb36 vq5 rfl rfl (s_X5_copyFromV36_33 hF.2.1 hF.2.2.1 hF.2.2.2) dX11_keep_0.1.2.1.1 (Nat.le_of_ble_eq_true rfl) rfl ?_
  rintro r8 h ⟨hF1, p8⟩; replace hF := hF.tr hF1 rfl
  have t8_30_10 := hF1.1 30 10 rfl rfl
  have t8_30_11 := hF1.1 30 11 rfl rfl
  refine zW_aload_n (pc' := 12) dX11_keep_0.1.2.1.2 rfl rfl ?_
  refine zG_ref (pc' := 15) 45 fg_X11_74 tb30 rfl dX11_keep_0.1.2.2.1 rfl ?_
  refine zW_aload_n (pc' := 16) dX11_keep_0.1.2.2.2 rfl rfl ?_
  refine zG_ref (pc' := 19) 41 fg_X11_33 tb30 rfl dX11_keep_0.2.1.1.1 rfl ?_
  refine cvV1 (pc' := 22) kX7_copyFrom vX7_copyFrom lk_X11_105 ⟨Nat.le_of_ble_eq_true rfl, Nat.le_of_ble_eq_true rfl⟩ tb45 vq7 rfl rfl (s_X7_copyFromV45_41 hF.2.1 hF.2.2.1 hF.2.2.2) dX11_keep_0.2.1.1.2 (Nat.le_of_ble_eq_true rfl) rfl ?_
  rintro r19 h ⟨hF1, p19⟩; replace hF := hF.tr hF1 rfl
  have t19_36_0 := hF1.1 36 0 rfl rfl
  have t19_36_1 := hF1.1 36 1 rfl rfl
  have t19_36_2 := hF1.1 36 2 rfl rfl
  have t19_30_10 := hF1.1 30 10 rfl rfl
  have t19_30_11 := hF1.1 30 11 rfl rfl
  refine zW_aload_n (pc' := 23) dX11_keep_0.2.1.2.1 rfl rfl ?_
  refine zW_aload_n (pc' := 24) dX11_keep_0.2.1.2.2 rfl rfl ?_
  refine zGm (pc' := 27) hF rfl rfl fg_X11_85 tb30 rfl dX11_keep_0.2.2.1.1 rfl ?_
  refine zPm (pc' := 30) hF (Or.inl rfl) (SI_irr hF.2.1 (Or.inl rfl) (fun _ _ => ⟨by omega, by omega⟩)) (KR_irr hF.2.2.1 rfl) (KC_30_10 hF.2.2.2 (by omega)) fp_X11_77 tb30 rfl dX11_keep_0.2.2.1.2 rfl (fun h hF w27 => ?_)
  have t27_36_0 := congrFun (congrFun w27 36) 0
  rw [zwr_ne (Or.inl (by decide))] at t27_36_0
  have t27_36_1 := congrFun (congrFun w27 36) 1
  rw [zwr_ne (Or.inl (by decide))] at t27_36_1
  have t27_36_2 := congrFun (congrFun w27 36) 2
  rw [zwr_ne (Or.inl (by decide))] at t27_36_2
  have t27_30_10 := congrFun (congrFun w27 30) 10
  rw [zwr_eq] at t27_30_10
  have t27_30_11 := congrFun (congrFun w27 30) 11
  rw [zwr_ne (Or.inr (by decide))] at t27_30_11
  refine zW_aload_n (pc' := 31) dX11_keep_0.2.2.2.1 rfl rfl ?_
  refine zW_iconst (pc' := 32) dX11_keep_0.2.2.2.2 rfl ?_
  refine zPmz (pc' := 35) hF (Or.inl rfl) (SI_irr hF.2.1 (Or.inl rfl) (fun _ _ => ⟨by omega, by omega⟩)) (KR_irr hF.2.2.1 rfl) (KC_irr hF.2.2.2 rfl) (by omega) fp_X11_81 tb30 rfl dX11_keep_1.1.1.1 rfl (fun h hF w32 => ?_)
  have t32_36_0 := congrFun (congrFun w32 36) 0
  rw [zwr_ne (Or.inl (by decide))] at t32_36_0
  have t32_36_1 := congrFun (congrFun w32 36) 1
  rw [zwr_ne (Or.inl (by decide))] at t32_36_1
  have t32_36_2 := congrFun (congrFun w32 36) 2
  rw [zwr_ne (Or.inl (by decide))] at t32_36_2
  have t32_30_10 := congrFun (congrFun w32 30) 10
  rw [zwr_ne (Or.inr (by decide))] at t32_30_10
  have t32_30_11 := congrFun (congrFun w32 30) 11
  rw [zwr_eq] at t32_30_11
  refine zW_aload_n (pc' := 36) dX11_keep_1.1.1.2 rfl rfl ?_
  refine zG_ref (pc' := 39) 41 fg_X11_33 tb30 rfl dX11_keep_1.1.2 rfl ?_
  refine zGm (pc' := 42) hF rfl rfl fg_X11_379 tb41 rfl dX11_keep_1.2.1 rfl ?_
  exact zV_iret rfl dX11_keep_1.2.2 ⟨hF, by omega⟩

abbrev q_X11_undo (κ : Hp)  : Int → Hp → Prop := fun r h' => Fm [(33, 0), (33, 1), (33, 2), (34, 999), (35, 999), (41, 0), (41, 1), (42, 999), (43, 999), (44, 999), (30, 12), (39, 1), (54, 7)] κ h' ∧ (((0 ≤ r) ∧ (r ≤ 1) ∧ ((κ 30 11 = 0 ∧ r = 0 ∧ h' 33 0 = κ 33 0 ∧ h' 33 1 = κ 33 1 ∧ h' 33 2 = κ 33 2 ∧ h' 30 12 = κ 30 12) ∨ (κ 30 11 ≠ 0 ∧ r = 1 ∧ h' 33 0 = κ 36 0 ∧ h' 33 1 = κ 36 1 ∧ h' 33 2 = κ 36 2 ∧ h' 30 12 = κ 30 10))) ∧ ChC κ h')
set_option maxHeartbeats 4000000 in
set_option maxRecDepth 20000 in
theorem s_X11_undo {G : Ga} {κ : Hp} (hS : SI κ) (hR : KR κ) (hC : KC κ)  : zM G mX11_undo yX11_undo [.inr (.inr 30)] κ (q_X11_undo κ) := by
  have f_30_10 := KCkc hC
  have f_30_12 := KCc hC
  have f_33_0 := KCw hC
  have f_33_1 := KCh hC
  have f_33_2 := KCp hC
  have f_36_0 := KCk0 hC
  have f_36_1 := KCk1 hC
  have f_36_2 := KCk2 hC
  refine zM_of [some (.inr (.inr 30))] 0 rfl rfl (Nat.le_of_ble_eq_true rfl) rfl ?_
  refine (show ∀ h : Hp, Fm [(33, 0), (33, 1), (33, 2), (34, 999), (35, 999), (41, 0), (41, 1), (42, 999), (43, 999), (44, 999), (30, 12), (39, 1), (54, 7)] κ h → h = κ → zV G mX11_undo (q_X11_undo κ) 0 [some (.inr (.inr 30))] [] h from fun h hF hk0 => ?_) κ (Fm.rf hS hR hC) rfl
  have y0_33_0 : h 33 0 = κ 33 0 := by rw [hk0]
  have y0_33_1 : h 33 1 = κ 33 1 := by rw [hk0]
  have y0_33_2 : h 33 2 = κ 33 2 := by rw [hk0]
  have y0_30_12 : h 30 12 = κ 30 12 := by rw [hk0]
  refine zW_aload_n (pc' := 1) dX11_undo_0.1.1.1.1 rfl rfl ?_
  refine zGm (pc' := 4) hF rfl rfl fg_X11_81 tb30 rfl dX11_undo_0.1.1.1.2 rfl ?_
  have e1 : -2147483648 ≤ κ 30 11 ∧ κ 30 11 ≤ 2147483647 := by rw [← hF.1 30 11 rfl rfl]; exact hF.rh 30 11
  refine zV_if_ne (tgt := 9) (pc' := 7) dX11_undo_0.1.1.2.1 rfl rfl ⟨by omega, by omega⟩ (fun c4 => ?_) (fun c4 => ?_)
  · refine zW_aload_n (pc' := 10) dX11_undo_0.1.2.1.2 rfl rfl ?_
    refine zG_ref (pc' := 13) 33 fg_X11_19 tb30 rfl dX11_undo_0.1.2.2.1 rfl ?_
    refine zW_aload_n (pc' := 14) dX11_undo_0.1.2.2.2 rfl rfl ?_
    refine zG_ref (pc' := 17) 36 fg_X11_71 tb30 rfl dX11_undo_0.2.1.1.1 rfl ?_
    have y17_36_0 := hF.1 36 0 rfl rfl
    have y17_36_1 := hF.1 36 1 rfl rfl
    have y17_36_2 := hF.1 36 2 rfl rfl
    refine cvV1 (pc' := 20) kX5_copyFrom vX5_copyFrom lk_X11_396 ⟨Nat.le_of_ble_eq_true rfl, Nat.le_of_ble_eq_true rfl⟩ tb33 vq5 rfl rfl (s_X5_copyFromV33_36 hF.2.1 hF.2.2.1 hF.2.2.2) dX11_undo_0.2.1.1.2 (Nat.le_of_ble_eq_true rfl) rfl ?_
    rintro r17 h ⟨hF1, p17⟩; replace hF := hF.tr hF1 rfl
    have t17_30_12 := hF1.1 30 12 rfl rfl
    have t17_54_7 := hF1.1 54 7 rfl rfl
    refine zW_aload_n (pc' := 21) dX11_undo_0.2.1.2.1 rfl rfl ?_
    refine zG_ref (pc' := 24) 41 fg_X11_33 tb30 rfl dX11_undo_0.2.1.2.2 rfl ?_
    refine zW_aload_n (pc' := 25) dX11_undo_0.2.2.1.1 rfl rfl ?_
    refine zG_ref (pc' := 28) 45 fg_X11_74 tb30 rfl dX11_undo_0.2.2.1.2 rfl ?_
    refine cvV1 (pc' := 31) kX7_copyFrom vX7_copyFrom lk_X11_105 ⟨Nat.le_of_ble_eq_true rfl, Nat.le_of_ble_eq_true rfl⟩ tb41 vq7 rfl rfl (s_X7_copyFromV41_45 hF.2.1 hF.2.2.1 hF.2.2.2) dX11_undo_0.2.2.2.1 (Nat.le_of_ble_eq_true rfl) rfl ?_
    rintro r28 h ⟨hF1, p28⟩; replace hF := hF.tr hF1 rfl
    have t28_33_0 := hF1.1 33 0 rfl rfl
    have t28_33_1 := hF1.1 33 1 rfl rfl
    have t28_33_2 := hF1.1 33 2 rfl rfl
    have t28_30_12 := hF1.1 30 12 rfl rfl
    have t28_54_7 := hF1.1 54 7 rfl rfl
    refine zW_aload_n (pc' := 32) dX11_undo_0.2.2.2.2 rfl rfl ?_
    refine zW_aload_n (pc' := 33) dX11_undo_1.1.1.1 rfl rfl ?_
    refine zGm (pc' := 36) hF rfl rfl fg_X11_77 tb30 rfl dX11_undo_1.1.1.2 rfl ?_
    refine zPm (pc' := 39) hF (Or.inl rfl) (SI_irr hF.2.1 (Or.inl rfl) (fun _ _ => ⟨by omega, by omega⟩)) (KR_irr hF.2.2.1 rfl) (KC_30_12 hF.2.2.2 (by omega)) fp_X11_85 tb30 rfl dX11_undo_1.1.2.1 rfl (fun h hF w36 => ?_)
    have t36_33_0 := congrFun (congrFun w36 33) 0
    rw [zwr_ne (Or.inl (by decide))] at t36_33_0
    have t36_33_1 := congrFun (congrFun w36 33) 1
    rw [zwr_ne (Or.inl (by decide))] at t36_33_1
    have t36_33_2 := congrFun (congrFun w36 33) 2
    rw [zwr_ne (Or.inl (by decide))] at t36_33_2
    have t36_30_12 := congrFun (congrFun w36 30) 12
    rw [zwr_eq] at t36_30_12
    have t36_54_7 := congrFun (congrFun w36 54) 7
    rw [zwr_ne (Or.inl (by decide))] at t36_54_7
    refine zW_aload_n (pc' := 40) dX11_undo_1.1.2.2 rfl rfl ?_
    refine cvV0 (pc' := 43) kX11_rawChanged vX11_rawChanged lk_X11_124 ⟨Nat.le_of_ble_eq_true rfl, Nat.le_of_ble_eq_true rfl⟩ tb30 vq11 rfl rfl (s_X11_rawChanged hF.2.1 hF.2.2.1 hF.2.2.2) dX11_undo_1.2.1.1 (Nat.le_of_ble_eq_true rfl) rfl ?_
    rintro r40 h ⟨hF1, p40⟩; replace hF := hF.tr hF1 rfl
    have t40_33_0 := hF1.1 33 0 rfl rfl
    have t40_33_1 := hF1.1 33 1 rfl rfl
    have t40_33_2 := hF1.1 33 2 rfl rfl
    have t40_30_12 := hF1.1 30 12 rfl rfl
    refine zW_iconst (pc' := 44) dX11_undo_1.2.1.2 rfl ?_
    exact zV_zret rfl (by omega) dX11_undo_1.2.2 ⟨hF, ⟨by omega, (by first | exact Or.inl (by omega) | exact Or.inr hU | exact Or.inr (by rw [hk0]; exact UnC.rf))⟩⟩
  · refine zW_iconst (pc' := 8) dX11_undo_0.1.1.2.2 rfl ?_
    exact zV_zret rfl (by omega) dX11_undo_0.1.2.1.1 ⟨hF, ⟨by omega, (by first | exact Or.inl (by omega) | exact Or.inr hU | exact Or.inr (by rw [hk0]; exact UnC.rf))⟩⟩

abbrev q_X11_check (κ : Hp) (x1 : Int) : Int → Hp → Prop := fun r h' => Fm [(31, 1)] κ h' ∧ (((0 ≤ x1 ∧ x1 ≤ 16 ∧ x1 ≤ κ 31 1 ∧ h' 31 1 = 0) ∨ (¬ (0 ≤ x1 ∧ x1 ≤ 16 ∧ x1 ≤ κ 31 1) ∧ h' 31 1 = κ 31 1 ∧ r = -2)))
set_option maxHeartbeats 4000000 in
set_option maxRecDepth 20000 in
theorem s_X11_check {G : Ga} {κ : Hp} (hS : SI κ) (hR : KR κ) (hC : KC κ) (x1 : Int) (hx1 : rng x1) : zM G mX11_check yX11_check [.inr (.inr 30), .inl x1] κ (q_X11_check κ x1) := by
  have f_31_1 := KCt hC
  have f_33_0 := KCw hC
  have f_36_0 := KCk0 hC
  unfold rng at hx1
  have main : ∀ N : Nat, (∀ (v2 v3 : Int) (h : Hp), Fm [(31, 1)] κ h → (0 ≤ x1 ∧ x1 ≤ 16) → (-1 ≤ v2 ∧ v2 ≤ 15) → (0 ≤ v3 ∧ v3 ≤ 16) → (x1 ≤ κ 31 1) → (h 31 1 = κ 31 1) → 20196 + 34 * (16 - v3) + 33 < (N : Int) → zV G mX11_check (q_X11_check κ x1) 27 [some (.inr (.inr 30)), some (.inl x1), some (.inl v2), some (.inl v3)] [] h) := by
    intro N
    induction N with
    | zero =>
      intro v2 v3 h hF g0 g1 g2 gc0 gc1 hm
      exfalso; omega
    | succ N ih =>
      have k27 := ih
      intro v2 v3 h hF g0 g1 g2 gc0 gc1 hm
      refine zW_iload_n (pc' := 28) dX11_check_0.2.2.2.2 rfl rfl ?_
      refine zW_iload_n (pc' := 29) dX11_check_1.1.1.1.1 rfl rfl ?_
      refine zV_cm_ge (tgt := 76) (pc' := 32) dX11_check_1.1.1.1.2 rfl rfl ⟨by omega, by omega⟩ ⟨by omega, by omega⟩ (fun c29 => ?_) (fun c29 => ?_)
      · refine zW_aload_n (pc' := 77) dX11_check_2.2.1.1.2 rfl rfl ?_
        refine zG_ref (pc' := 80) 31 fg_X11_10 tb30 rfl dX11_check_2.2.1.2 rfl ?_
        refine cvV0 (pc' := 83) kX9_empty vX9_empty lk_X11_99 ⟨Nat.le_of_ble_eq_true rfl, Nat.le_of_ble_eq_true rfl⟩ tb31 vq9 rfl rfl (s_X9_empty hF.2.1 hF.2.2.1 hF.2.2.2) dX11_check_2.2.2.1.1 (Nat.le_of_ble_eq_true rfl) rfl ?_
        rintro r80 h ⟨hF1, p80⟩; replace hF := hF.tr hF1 rfl
        refine zW_iload_n (pc' := 84) dX11_check_2.2.2.1.2 rfl rfl ?_
        exact zV_iret rfl dX11_check_2.2.2.2 ⟨hF, by omega⟩
      · refine zW_iload_n (pc' := 33) dX11_check_1.1.1.2.1 rfl rfl ?_
        refine zW_iconst (pc' := 34) dX11_check_1.1.1.2.2 rfl ?_
        refine zV_cm_ne (tgt := 76) (pc' := 37) dX11_check_1.1.2.1.1 rfl rfl ⟨by omega, by omega⟩ ⟨by omega, by omega⟩ (fun c34 => ?_) (fun c34 => ?_)
        · refine zW_aload_n (pc' := 77) dX11_check_2.2.1.1.2 rfl rfl ?_
          refine zG_ref (pc' := 80) 31 fg_X11_10 tb30 rfl dX11_check_2.2.1.2 rfl ?_
          refine cvV0 (pc' := 83) kX9_empty vX9_empty lk_X11_99 ⟨Nat.le_of_ble_eq_true rfl, Nat.le_of_ble_eq_true rfl⟩ tb31 vq9 rfl rfl (s_X9_empty hF.2.1 hF.2.2.1 hF.2.2.2) dX11_check_2.2.2.1.1 (Nat.le_of_ble_eq_true rfl) rfl ?_
          rintro r80 h ⟨hF1, p80⟩; replace hF := hF.tr hF1 rfl
          refine zW_iload_n (pc' := 84) dX11_check_2.2.2.1.2 rfl rfl ?_
          exact zV_iret rfl dX11_check_2.2.2.2 ⟨hF, by omega⟩
        · refine zW_iload_n (pc' := 38) dX11_check_1.1.2.1.2 rfl rfl ?_
          refine zW_aload_n (pc' := 39) dX11_check_1.1.2.2.1 rfl rfl ?_
          refine zG_ref (pc' := 42) 33 fg_X11_19 tb30 rfl dX11_check_1.1.2.2.2 rfl ?_
          refine zGm (pc' := 45) hF rfl rfl fg_X11_130 tb33 rfl dX11_check_1.2.1.1.1 rfl ?_
          refine zV_cm_ge (tgt := 68) (pc' := 48) dX11_check_1.2.1.1.2 rfl rfl ⟨by omega, by omega⟩ ⟨by omega, by omega⟩ (fun c45 => ?_) (fun c45 => ?_)
          · refine zW_iload_n (pc' := 69) dX11_check_2.1.2.1.1 rfl rfl ?_
            refine zW_istore_n (ls' := [_, _, _, _]) (pc' := 70) dX11_check_2.1.2.1.2 (by decide) rfl rfl rfl ?_
            refine zW_iinc (ls' := [_, _, _, _]) (pc' := 73) dX11_check_2.1.2.2 rfl (by decide) rfl rfl rfl ?_
            refine zV_goto 27 dX11_check_2.2.1.1.1 rfl ?_
            exact k27 _ _ _ hF (by omega) (by omega) (by omega) (by omega) (by omega) (by omega)
          · refine zW_aload_n (pc' := 49) dX11_check_1.2.1.2.1 rfl rfl ?_
            refine zG_ref (pc' := 52) 33 fg_X11_19 tb30 rfl dX11_check_1.2.1.2.2 rfl ?_
            refine zG_ref (pc' := 55) 34 fg_X11_133 tb33 rfl dX11_check_1.2.2.1.1 rfl ?_
            refine zW_iload_n (pc' := 56) dX11_check_1.2.2.1.2 rfl rfl ?_
            refine zAm (pc' := 57) hF rfl (fun _ => rfl) tb34 (by omega) dX11_check_1.2.2.2.1 (by decide) rfl (fun e56 => ?_)
            refine zW_aload_n (pc' := 58) dX11_check_1.2.2.2.2 rfl rfl ?_
            refine zG_ref (pc' := 61) 31 fg_X11_10 tb30 rfl dX11_check_2.1.1.1.1 rfl ?_
            refine zW_iload_n (pc' := 62) dX11_check_2.1.1.1.2 rfl rfl ?_
            refine cvI1 (pc' := 65) kX9_byteAt vX9_byteAt lk_X11_137 ⟨Nat.le_of_ble_eq_true rfl, Nat.le_of_ble_eq_true rfl⟩ tb31 vq9 rfl rfl (s_X9_byteAt (b := bdB true) (κ := h) hF.2.2.2 (Fr.rf hF.2.1) _ ⟨by omega, by omega⟩) dX11_check_2.1.1.2.1 (Nat.le_of_ble_eq_true rfl) rfl ?_
            rintro r62 z62 ⟨hz62, p62⟩; subst z62
            refine zV_cm_eq (tgt := 70) (pc' := 68) dX11_check_2.1.1.2.2 rfl rfl ⟨by omega, by omega⟩ ⟨by omega, by omega⟩ (fun c65 => ?_) (fun c65 => ?_)
            · refine zW_iinc (ls' := [_, _, _, _]) (pc' := 73) dX11_check_2.1.2.2 rfl (by decide) rfl rfl rfl ?_
              refine zV_goto 27 dX11_check_2.2.1.1.1 rfl ?_
              exact k27 _ _ _ hF (by omega) (by omega) (by omega) (by omega) (by omega) (by omega)
            · refine zW_iload_n (pc' := 69) dX11_check_2.1.2.1.1 rfl rfl ?_
              refine zW_istore_n (ls' := [_, _, _, _]) (pc' := 70) dX11_check_2.1.2.1.2 (by decide) rfl rfl rfl ?_
              refine zW_iinc (ls' := [_, _, _, _]) (pc' := 73) dX11_check_2.1.2.2 rfl (by decide) rfl rfl rfl ?_
              refine zV_goto 27 dX11_check_2.2.1.1.1 rfl ?_
              exact k27 _ _ _ hF (by omega) (by omega) (by omega) (by omega) (by omega) (by omega)
  refine zM_of [some (.inr (.inr 30)), some (.inl x1), none, none] 2 rfl rfl (Nat.le_of_ble_eq_true rfl) rfl ?_
  refine (show ∀ h : Hp, Fm [(31, 1)] κ h → h = κ → zV G mX11_check (q_X11_check κ x1) 0 [some (.inr (.inr 30)), some (.inl x1), none, none] [] h from fun h hF hk0 => ?_) κ (Fm.rf hS hR hC) rfl
  have y0_31_1 : h 31 1 = κ 31 1 := by rw [hk0]
  refine zW_iload_n (pc' := 1) dX11_check_0.1.1.1.1 rfl rfl ?_
  refine zW_bipush (pc' := 3) dX11_check_0.1.1.1.2 rfl rfl ?_
  refine csI2 (pc' := 6) kX11_isWithin vX11_isWithin lk_X11_116 ⟨Nat.le_of_ble_eq_true rfl, Nat.le_of_ble_eq_true rfl⟩ rfl (s_X11_isWithinR (b := bdB true) (κ := h) (Fr.rf hF.2.1) _ ⟨by omega, by omega⟩ _ ⟨by omega, by omega⟩) dX11_check_0.1.1.2.1 (Nat.le_of_ble_eq_true rfl) rfl ?_
  rintro r3 z3 ⟨hz3, p3⟩; subst z3
  refine zV_if_eq (tgt := 20) (pc' := 9) dX11_check_0.1.1.2.2 rfl rfl ⟨by omega, by omega⟩ (fun c6 => ?_) (fun c6 => ?_)
  · refine zW_bipush (pc' := 22) dX11_check_0.2.1.1.2 rfl rfl ?_
    exact zV_iret rfl dX11_check_0.2.1.2.1 ⟨hF, by omega⟩
  · refine zW_iload_n (pc' := 10) dX11_check_0.1.2.1.1 rfl rfl ?_
    refine zW_aload_n (pc' := 11) dX11_check_0.1.2.1.2 rfl rfl ?_
    refine zG_ref (pc' := 14) 31 fg_X11_10 tb30 rfl dX11_check_0.1.2.2.1 rfl ?_
    refine zG_int (pc' := 17) fg_X11_88 tb31 rfl dX11_check_0.1.2.2.2 rfl ?_
    have e14 := KCt hF.2.2.2
    refine zV_cm_le (tgt := 23) (pc' := 20) dX11_check_0.2.1.1.1 rfl rfl ⟨by omega, by omega⟩ ⟨by omega, by omega⟩ (fun c17 => ?_) (fun c17 => ?_)
    · refine zW_iconst (pc' := 24) dX11_check_0.2.1.2.2 rfl ?_
      refine zW_istore_n (ls' := [_, _, _, _]) (pc' := 25) dX11_check_0.2.2.1.1 (by decide) rfl rfl rfl ?_
      refine zW_iconst (pc' := 26) dX11_check_0.2.2.1.2 rfl ?_
      refine zW_istore_n (ls' := [_, _, _, _]) (pc' := 27) dX11_check_0.2.2.2.1 (by decide) rfl rfl rfl ?_
      exact (main 10000000000000000000000000000000000000000) _ _ _ hF (by omega) (by omega) (by omega) (by omega) (by omega) (by omega)
    · refine zW_bipush (pc' := 22) dX11_check_0.2.1.1.2 rfl rfl ?_
      exact zV_iret rfl dX11_check_0.2.1.2.1 ⟨hF, by omega⟩
