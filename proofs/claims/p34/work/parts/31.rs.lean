def HdP (p : Prop) : Prop := p
theorem RecOK.push {L A N L' A' N' : Nat → Int} {m a' c : Int} (h : RecOK L A N m) (hm : 0 ≤ m ∧ m ≤ 11) (hL : L' m.toNat = c) (hL2 : ∀ j, j ≠ m.toNat → L' j = L j) (hA : A' (m + 1).toNat = a') (hA2 : ∀ j, j ≠ (m + 1).toNat → A' j = A j) (hN : ∀ j : Nat, (j : Int) < A m.toNat → N' j = N j) (h0 : 0 ≤ A m.toNat) (h1 : A m.toNat < a') (h2 : a' ≤ 120) (ho : c = 111 ∨ c = 112 → 1 ≤ N' (A m.toNat).toNat ∧ N' (A m.toNat).toNat ≤ 4) (ht : c = 116 → A m.toNat + 4 ≤ a' ∧ (a' - A m.toNat) % 2 = 0 ∧ ∀ i : Int, 0 ≤ i → A m.toNat + 2 * i + 2 < a' → 0 ≤ N' (A m.toNat + 2 * i).toNat ∧ N' (A m.toNat + 2 * i).toNat < N' (A m.toNat + 2 * i + 2).toNat ∧ N' (A m.toNat + 2 * i + 2).toNat ≤ 255) : RecOK L' A' N' (m + 1) := by
  intro k k1 k2
  by_cases e : k = (m + 1).toNat
  · have e1 : k - 1 = m.toNat := by omega
    rw [e1, hL, hA2 m.toNat (by omega), e, hA]
    exact ⟨h1, h2, h0, fun q => ho (Or.inl q), fun q => ho (Or.inr q), ht⟩
  · obtain ⟨a1, a2, a3, a4, a5, a6⟩ := h k k1 (by omega)
    have up := h.up m.toNat k (by omega) (by omega)
    rw [hL2 (k - 1) (by omega), hA2 (k - 1) (by omega), hA2 k e]
    refine ⟨a1, a2, a3, fun q => ?_, fun q => ?_, fun q => ?_⟩
    · rw [hN _ (by omega)]; exact a4 q
    · rw [hN _ (by omega)]; exact a5 q
    · obtain ⟨b1, b2, b3⟩ := a6 q
      refine ⟨b1, b2, fun i hi hl => ?_⟩
      rw [hN _ (by omega), hN _ (by omega)]
      exact b3 i hi hl
def NP (h : Hp) : Prop := (0 ≤ h 0 26 ∧ h 0 26 ≤ h 0 27 ∧ h 0 27 ≤ 120) ∧ (0 ≤ h 0 31 ∧ h 0 31 ≤ h 0 26) ∧ (0 ≤ h 0 30 ∧ h 0 30 ≤ 12) ∧ h 14 (h 0 30).toNat = h 0 31 ∧ RecOK (h 13) (h 14) (h 15) (h 0 30)

abbrev q_X12_readsStage (κ : Hp)  : Int → Hp → Prop := fun r h' => Fm [(0, 26), (0, 28), (0, 29), (0, 31), (15, 999), (0, 30), (13, 999), (14, 999)] κ h' ∧ ((0 ≤ r) ∧ (r ≤ 1) ∧ (κ 0 26 ≤ h' 0 26 ∧ h' 0 26 ≤ κ 0 27 ∧ (r = 1 → NP h')))
set_option maxHeartbeats 4000000 in
set_option maxRecDepth 20000 in
theorem s_X12_readsStage {G : Ga} {κ : Hp} (hS : SI κ) (hR : KR κ) (hC : KC κ) (hp : 0 ≤ κ 0 26 ∧ κ 0 26 ≤ κ 0 27 ∧ κ 0 27 ≤ 120) (hq : 0 ≤ κ 0 31 ∧ κ 0 31 ≤ κ 0 26) (hm0 : 0 ≤ κ 0 30 ∧ κ 0 30 ≤ 12) (hA0 : κ 14 (κ 0 30).toNat = κ 0 31) (hRc : RecOK (κ 13) (κ 14) (κ 15) (κ 0 30)) : zM G mX12_readsStage yX12_readsStage [.inr (.inr 0)] κ (q_X12_readsStage κ) := by
  refine zM_of [some (.inr (.inr 0)), none] 1 rfl rfl (Nat.le_of_ble_eq_true rfl) rfl ?_
  refine (show ∀ h : Hp, Fm [(0, 26), (0, 28), (0, 29), (0, 31), (15, 999), (0, 30), (13, 999), (14, 999)] κ h → h = κ → zV G mX12_readsStage (q_X12_readsStage κ) 0 [some (.inr (.inr 0)), none] [] h from fun h hF hk0 => ?_) κ (Fm.rf hS hR hC) rfl
  have y0_0_26 : h 0 26 = κ 0 26 := by rw [hk0]
  have y0_0_27 : h 0 27 = κ 0 27 := by rw [hk0]
  have y0_0_31 : h 0 31 = κ 0 31 := by rw [hk0]
  have y0_0_30 : h 0 30 = κ 0 30 := by rw [hk0]
  have hPre : Pre15 κ h := by rw [hk0]; exact Pre15.rf
  have h13 : h 13 = κ 13 := by rw [hk0]
  have h14 : h 14 = κ 14 := by rw [hk0]
  refine zW_aload_n (pc' := 1) dX12_readsStage_0.1.1.1.1 rfl rfl ?_
  have y27 := hF.1 0 27 rfl rfl
  refine cvI0 (pc' := 4) kX12_here vX12_here lk_X12_132 ⟨Nat.le_of_ble_eq_true rfl, Nat.le_of_ble_eq_true rfl⟩ tb0 vq12 rfl rfl (s_X12_here (b := bdB true) (κ := h) hF.2.2.1 (Fr.rf hF.2.1) (by omega)) dX12_readsStage_0.1.1.1.2 (Nat.le_of_ble_eq_true rfl) rfl ?_
  rintro r1 z1 ⟨hz1, p1⟩; subst z1
  refine zW_istore_n (ls' := [_, _]) (pc' := 5) dX12_readsStage_0.1.1.2.1 (by decide) rfl rfl rfl ?_
  refine zW_iload_n (pc' := 6) dX12_readsStage_0.1.1.2.2 rfl rfl ?_
  have y27 := hF.1 0 27 rfl rfl
  refine csI1 (pc' := 9) kX12_isEarly vX12_isEarly lk_X12_170 ⟨Nat.le_of_ble_eq_true rfl, Nat.le_of_ble_eq_true rfl⟩ rfl (s_X12_isEarly (b := bdB true) (κ := h) (Fr.rf hF.2.1) _ ⟨by omega, by omega⟩) dX12_readsStage_0.1.2.1.1 (Nat.le_of_ble_eq_true rfl) rfl ?_
  rintro r6 z6 ⟨hz6, p6⟩; subst z6
  refine zV_if_ne (tgt := 29) (pc' := 12) dX12_readsStage_0.1.2.1.2 rfl rfl ⟨by omega, by omega⟩ (fun c9 => ?_) (fun c9 => ?_)
  · refine zW_aload_n (pc' := 30) dX12_readsStage_0.2.2.2.2 rfl rfl ?_
    refine zG_int (pc' := 33) fg_X12_167 tb0 rfl dX12_readsStage_1.1.1.1.1 rfl ?_
    have e30 := hF.rh 0 30
    refine zW_bipush (pc' := 35) dX12_readsStage_1.1.1.1.2 rfl rfl ?_
    refine zV_cm_ne (tgt := 48) (pc' := 38) dX12_readsStage_1.1.1.2.1 rfl rfl ⟨by omega, by omega⟩ ⟨by omega, by omega⟩ (fun c35 => ?_) (fun c35 => ?_)
    · refine zW_aload_n (pc' := 49) dX12_readsStage_1.2.1.1.2 rfl rfl ?_
      have y27 := hF.1 0 27 rfl rfl
      refine cvI0 (pc' := 52) kX12_isFilledSoFar vX12_isFilledSoFar lk_X12_176 ⟨Nat.le_of_ble_eq_true rfl, Nat.le_of_ble_eq_true rfl⟩ tb0 vq12 rfl rfl (s_X12_isFilledSoFar (b := bdB true) (κ := h) hF.2.2.1 (Fr.rf hF.2.1) (by omega)) dX12_readsStage_1.2.1.2.1 (Nat.le_of_ble_eq_true rfl) rfl ?_
      rintro r49 z49 ⟨hz49, p49⟩; subst z49
      refine zW_iload_n (pc' := 53) dX12_readsStage_1.2.1.2.2 rfl rfl ?_
      have y27 := hF.1 0 27 rfl rfl
      refine csI1 (pc' := 56) kX12_isEarly vX12_isEarly lk_X12_170 ⟨Nat.le_of_ble_eq_true rfl, Nat.le_of_ble_eq_true rfl⟩ rfl (s_X12_isEarly (b := bdB true) (κ := h) (Fr.rf hF.2.1) _ ⟨by omega, by omega⟩) dX12_readsStage_1.2.2.1.1 (Nat.le_of_ble_eq_true rfl) rfl ?_
      rintro r53 z53 ⟨hz53, p53⟩; subst z53
      refine zV_cm_ne (tgt := 70) (pc' := 59) dX12_readsStage_1.2.2.1.2 rfl rfl ⟨by omega, by omega⟩ ⟨by omega, by omega⟩ (fun c56 => ?_) (fun c56 => ?_)
      · refine zW_aload_n (pc' := 71) dX12_readsStage_2.1.2.1.1 rfl rfl ?_
        refine zW_aload_n (pc' := 72) dX12_readsStage_2.1.2.1.2 rfl rfl ?_
        refine zG_int (pc' := 75) fg_X12_123 tb0 rfl dX12_readsStage_2.1.2.2.1 rfl ?_
        have e72 := hF.rh 0 26
        refine zW_iconst (pc' := 76) dX12_readsStage_2.1.2.2.2 rfl ?_
        refine zW_iadd (pc' := 77) dX12_readsStage_2.2.1.1.1 rfl ?_
        refine zPm (pc' := 80) hF (Or.inl rfl) (SI_irr hF.2.1 (Or.inl rfl) (fun _ _ => ⟨by omega, by omega⟩)) (KR_irr hF.2.2.1 rfl) (KC_irr hF.2.2.2 rfl) fp_X12_123 tb0 rfl dX12_readsStage_2.2.1.1.2 rfl (fun h hF w77 => ?_)
        replace hPre : Pre15 κ h := by rw [w77]; exact hPre.w (by decide)
        replace h13 : h 13 = κ 13 := by rw [w77]; exact (zfun (by decide)).trans h13
        replace h14 : h 14 = κ 14 := by rw [w77]; exact (zfun (by decide)).trans h14
        have t77_0_26 := congrFun (congrFun w77 0) 26
        rw [zwr_eq] at t77_0_26
        have t77_0_31 := congrFun (congrFun w77 0) 31
        rw [zwr_ne (Or.inr (by decide))] at t77_0_31
        have t77_0_30 := congrFun (congrFun w77 0) 30
        rw [zwr_ne (Or.inr (by decide))] at t77_0_30
        refine zW_aload_n (pc' := 81) dX12_readsStage_2.2.1.2.1 rfl rfl ?_
        refine zW_bipush (pc' := 83) dX12_readsStage_2.2.1.2.2 rfl rfl ?_
        have y27 := hF.1 0 27 rfl rfl
        refine cvI1 (pc' := 86) kX12_takesSign vX12_takesSign lk_X12_154 ⟨Nat.le_of_ble_eq_true rfl, Nat.le_of_ble_eq_true rfl⟩ tb0 vq12 rfl rfl (s_X12_takesSign hF.2.1 hF.2.2.1 hF.2.2.2 _ ⟨by omega, by omega⟩ (by omega)) dX12_readsStage_2.2.2.1.1 (Nat.le_of_ble_eq_true rfl) rfl ?_
        rintro r83 h ⟨hF1, p83⟩; replace hF := hF.tr hF1 rfl
        replace hPre : Pre15 κ h := hPre.fm hF1 (fun _ => rfl)
        replace h13 : h 13 = κ 13 := (hF1.cell 13 rfl (fun _ => rfl)).trans h13
        replace h14 : h 14 = κ 14 := (hF1.cell 14 rfl (fun _ => rfl)).trans h14
        have t83_0_31 := hF1.1 0 31 rfl rfl
        have t83_0_30 := hF1.1 0 30 rfl rfl
        refine zV_if_eq (tgt := 97) (pc' := 89) dX12_readsStage_2.2.2.1.2 rfl rfl ⟨by omega, by omega⟩ (fun c86 => ?_) (fun c86 => ?_)
        · refine zW_iconst (pc' := 98) dX12_readsStage_3.1.1.2.1 rfl ?_
          exact zV_zret rfl (by omega) dX12_readsStage_3.1.1.2.2 ⟨hF, by refine ⟨by omega, by omega, by omega, by omega, fun q => ?_⟩; exfalso; omega⟩
        · refine zW_aload_n (pc' := 90) dX12_readsStage_2.2.2.2.1 rfl rfl ?_
          refine zW_iload_n (pc' := 91) dX12_readsStage_2.2.2.2.2 rfl rfl ?_
          have y27 := hF.1 0 27 rfl rfl
          obtain ⟨hB, eB⟩ : ∃ z : Hp, z = h := ⟨_, rfl⟩
          have eB31 : hB 0 31 = κ 0 31 := by rw [eB]; omega
          have eB26 : hB 0 26 = h 0 26 := by rw [eB]
          have eB27 : hB 0 27 = h 0 27 := by rw [eB]
          refine cvI1 (pc' := 94) kX12_readsNumbers vX12_readsNumbers lk_X12_179 ⟨Nat.le_of_ble_eq_true rfl, Nat.le_of_ble_eq_true rfl⟩ tb0 vq12 rfl rfl (s_X12_readsNumbers hF.2.1 hF.2.2.1 hF.2.2.2 _ ⟨by omega, by omega⟩ (by omega) (by omega)) dX12_readsStage_3.1.1.1.1 (Nat.le_of_ble_eq_true rfl) rfl ?_
          rintro r91 h ⟨hF1, p91⟩; replace hF := hF.tr hF1 rfl
          replace hPre : Pre15 κ h := hPre.tr p91.2.2.2.2.1 (by omega)
          replace h13 : h 13 = κ 13 := (hF1.cell 13 rfl (fun _ => rfl)).trans h13
          replace h14 : h 14 = κ 14 := (hF1.cell 14 rfl (fun _ => rfl)).trans h14
          have t91_0_30 := hF1.1 0 30 rfl rfl
          refine zV_if_ne (tgt := 99) (pc' := 97) dX12_readsStage_3.1.1.1.2 rfl rfl ⟨by omega, by omega⟩ (fun c94 => ?_) (fun c94 => ?_)
          · rw [← eB] at p91
            obtain ⟨n1, n2, n3⟩ := p91.2.2.2.2.2.2.2 (by omega)
            rw [eB31] at n1 n2 n3
            obtain ⟨hC, eC⟩ : ∃ z : Hp, z = h := ⟨_, rfl⟩
            have c31 : hC 0 31 = h 0 31 := by rw [eC]
            rw [← eC] at n1 n2 n3
            have pa := And.intro p91.1 (And.intro p91.2.1 (And.intro p91.2.2.1 (And.intro p91.2.2.2.1 (And.intro p91.2.2.2.2.2.1 p91.2.2.2.2.2.2.1))))
            replace n2 : HdP _ := n2
            replace n3 : HdP _ := n3
            clear p91
            have hPC : Pre15 κ hC := by rw [eC]; exact hPre
            have c13 : hC 13 = κ 13 := by rw [eC]; exact h13
            have c14 : hC 14 = κ 14 := by rw [eC]; exact h14
            refine zW_aload_n (pc' := 100) dX12_readsStage_3.1.2.1.1 rfl rfl ?_
            refine zG_ref (pc' := 103) 13 fg_X12_48 tb0 rfl dX12_readsStage_3.1.2.1.2 rfl ?_
            refine zW_aload_n (pc' := 104) dX12_readsStage_3.1.2.2.1 rfl rfl ?_
            refine zG_int (pc' := 107) fg_X12_167 tb0 rfl dX12_readsStage_3.1.2.2.2 rfl ?_
            have e104 := hF.rh 0 30
            refine zW_iload_n (pc' := 108) dX12_readsStage_3.2.1.1.1 rfl rfl ?_
            have y30 : h 0 30 = κ 0 30 := by omega
            refine zSm (pc' := 109) hF rfl (fun v' hv he => ⟨(SI_irr hF.2.1 (Or.inl (key_of rfl _)) (fun _ _ => hv)), (KR_irr hF.2.2.1 rfl), (KC_irr hF.2.2.2 rfl)⟩) tb13 (by omega) dX12_readsStage_3.2.1.1.2 (by decide) rfl (fun h i108 hF a108 b108 w108 => ?_)
            have t108_0_26 := congrFun (congrFun w108 0) 26
            rw [zwr_ne (Or.inl (by decide))] at t108_0_26
            have t108_0_31 := congrFun (congrFun w108 0) 31
            rw [zwr_ne (Or.inl (by decide))] at t108_0_31
            have t108_0_30 := congrFun (congrFun w108 0) 30
            rw [zwr_ne (Or.inl (by decide))] at t108_0_30
            refine zW_aload_n (pc' := 110) dX12_readsStage_3.2.1.2.1 rfl rfl ?_
            refine zW_aload_n (pc' := 111) dX12_readsStage_3.2.1.2.2 rfl rfl ?_
            refine zG_int (pc' := 114) fg_X12_167 tb0 rfl dX12_readsStage_3.2.2.1.1 rfl ?_
            have e111 := hF.rh 0 30
            refine zW_iconst (pc' := 115) dX12_readsStage_3.2.2.1.2 rfl ?_
            refine zW_iadd (pc' := 116) dX12_readsStage_3.2.2.2.1 rfl ?_
            refine zPm (pc' := 119) hF (Or.inl rfl) (SI_irr hF.2.1 (Or.inl rfl) (fun _ _ => ⟨by omega, by omega⟩)) (KR_irr hF.2.2.1 rfl) (KC_irr hF.2.2.2 rfl) fp_X12_167 tb0 rfl dX12_readsStage_3.2.2.2.2 rfl (fun h hF w116 => ?_)
            have t116_0_26 := congrFun (congrFun w116 0) 26
            rw [zwr_ne (Or.inr (by decide))] at t116_0_26
            have t116_0_31 := congrFun (congrFun w116 0) 31
            rw [zwr_ne (Or.inr (by decide))] at t116_0_31
            have t116_0_30 := congrFun (congrFun w116 0) 30
            rw [zwr_eq] at t116_0_30
            refine zW_aload_n (pc' := 120) dX12_readsStage_4.1.1.1.1 rfl rfl ?_
            refine zG_ref (pc' := 123) 14 fg_X12_51 tb0 rfl dX12_readsStage_4.1.1.1.2 rfl ?_
            refine zW_aload_n (pc' := 124) dX12_readsStage_4.1.1.2 rfl rfl ?_
            refine zG_int (pc' := 127) fg_X12_167 tb0 rfl dX12_readsStage_4.1.2.1 rfl ?_
            have e124 := hF.rh 0 30
            refine zW_aload_n (pc' := 128) dX12_readsStage_4.1.2.2 rfl rfl ?_
            refine zG_int (pc' := 131) fg_X12_151 tb0 rfl dX12_readsStage_4.2.1.1 rfl ?_
            have e128 := hF.rh 0 31
            have y30b : h 0 30 = κ 0 30 + 1 := by omega
            refine zSm (pc' := 132) hF rfl (fun v' hv he => ⟨(SI_irr hF.2.1 (Or.inl (key_of rfl _)) (fun _ _ => hv)), (KR_c14 hF.2.2.1 (by have := he ⟨by omega, by omega⟩; omega)), (KC_irr hF.2.2.2 rfl)⟩) tb14 (by omega) dX12_readsStage_4.2.1.2 (by decide) rfl (fun h i131 hF a131 b131 w131 => ?_)
            have t131_0_26 := congrFun (congrFun w131 0) 26
            rw [zwr_ne (Or.inl (by decide))] at t131_0_26
            have t131_0_31 := congrFun (congrFun w131 0) 31
            rw [zwr_ne (Or.inl (by decide))] at t131_0_31
            have t131_0_30 := congrFun (congrFun w131 0) 30
            rw [zwr_ne (Or.inl (by decide))] at t131_0_30
            have f15 : h 15 = hC 15 := by rw [w131, w116, w108, eC, zfun (by decide), zfun (by decide), zfun (by decide)]
            have f13a : h 13 (κ 0 30).toNat = r1 := by rw [w131, w116, w108, zwr_ne (Or.inl (by decide)), zwr_ne (Or.inl (by decide)), y30, zwr_eq]; exact b108 ⟨by omega, by omega⟩
            have f13b : ∀ j, j ≠ (κ 0 30).toNat → h 13 j = κ 13 j := fun j hj => by rw [w131, w116, w108, zwr_ne (Or.inl (by decide)), zwr_ne (Or.inl (by decide)), y30, zwr_ne (Or.inr hj), ← eC, c13]
            have f14a : h 14 (κ 0 30 + 1).toNat = hC 0 31 := by have q := b131 ⟨by omega, by omega⟩; rw [w131, y30b, zwr_eq]; omega
            have f14b : ∀ j, j ≠ (κ 0 30 + 1).toNat → h 14 j = κ 14 j := fun j hj => by rw [w131, y30b, zwr_ne (Or.inr hj), w116, w108, zwr_ne (Or.inl (by decide)), zwr_ne (Or.inl (by decide)), ← eC, c14]
            have y27 := hF.1 0 27 rfl rfl
            have e30 : h 0 30 = κ 0 30 + 1 := by omega
            have hNP : NP h := ⟨⟨by omega, by omega, by omega⟩, ⟨by omega, by omega⟩, ⟨by omega, by omega⟩, by rw [e30, f14a]; omega, by rw [e30, f15]; exact hRc.push (by omega) f13a f13b f14a f14b (fun j hj => hPC j (by omega)) (by omega) (by omega) (by omega) (by rw [hA0]; exact n2) (by rw [hA0]; exact n3)⟩
            refine zW_iconst (pc' := 133) dX12_readsStage_4.2.2.1 rfl ?_
            exact zV_zret rfl (by omega) dX12_readsStage_4.2.2.2 ⟨hF, by exact ⟨by omega, by omega, by omega, by omega, fun _ => hNP⟩⟩
          · refine zW_iconst (pc' := 98) dX12_readsStage_3.1.1.2.1 rfl ?_
            exact zV_zret rfl (by omega) dX12_readsStage_3.1.1.2.2 ⟨hF, by refine ⟨by omega, by omega, by omega, by omega, fun q => ?_⟩; exfalso; omega⟩
      · refine zW_aload_n (pc' := 60) dX12_readsStage_1.2.2.2.1 rfl rfl ?_
        refine zW_bipush (pc' := 62) dX12_readsStage_1.2.2.2.2 rfl rfl ?_
        refine zW_aload_n (pc' := 63) dX12_readsStage_2.1.1.1.1 rfl rfl ?_
        refine zG_int (pc' := 66) fg_X12_123 tb0 rfl dX12_readsStage_2.1.1.1.2 rfl ?_
        have e63 := hF.rh 0 26
        have y27 := hF.1 0 27 rfl rfl
        refine cvI2 (pc' := 69) kX12_wrongAt vX12_wrongAt lk_X12_136 ⟨Nat.le_of_ble_eq_true rfl, Nat.le_of_ble_eq_true rfl⟩ tb0 vq12 rfl rfl (s_X12_wrongAt hF.2.1 hF.2.2.1 hF.2.2.2 _ ⟨by omega, by omega⟩ _ ⟨by omega, by omega⟩) dX12_readsStage_2.1.1.2.1 (Nat.le_of_ble_eq_true rfl) rfl ?_
        rintro r66 h ⟨hF1, p66⟩; replace hF := hF.tr hF1 rfl
        replace hPre : Pre15 κ h := hPre.fm hF1 (fun _ => rfl)
        replace h13 : h 13 = κ 13 := (hF1.cell 13 rfl (fun _ => rfl)).trans h13
        replace h14 : h 14 = κ 14 := (hF1.cell 14 rfl (fun _ => rfl)).trans h14
        have t66_0_26 := hF1.1 0 26 rfl rfl
        have t66_0_31 := hF1.1 0 31 rfl rfl
        have t66_0_30 := hF1.1 0 30 rfl rfl
        exact zV_zret rfl (by omega) dX12_readsStage_2.1.1.2.2 ⟨hF, by refine ⟨by omega, by omega, by omega, by omega, fun q => ?_⟩; exfalso; omega⟩
    · refine zW_aload_n (pc' := 39) dX12_readsStage_1.1.1.2.2 rfl rfl ?_
      refine zW_iconst (pc' := 40) dX12_readsStage_1.1.2.1.1 rfl ?_
      refine zW_aload_n (pc' := 41) dX12_readsStage_1.1.2.1.2 rfl rfl ?_
      refine zG_int (pc' := 44) fg_X12_123 tb0 rfl dX12_readsStage_1.1.2.2.1 rfl ?_
      have e41 := hF.rh 0 26
      have y27 := hF.1 0 27 rfl rfl
      refine cvI2 (pc' := 47) kX12_wrongAt vX12_wrongAt lk_X12_136 ⟨Nat.le_of_ble_eq_true rfl, Nat.le_of_ble_eq_true rfl⟩ tb0 vq12 rfl rfl (s_X12_wrongAt hF.2.1 hF.2.2.1 hF.2.2.2 _ ⟨by omega, by omega⟩ _ ⟨by omega, by omega⟩) dX12_readsStage_1.1.2.2.2 (Nat.le_of_ble_eq_true rfl) rfl ?_
      rintro r44 h ⟨hF1, p44⟩; replace hF := hF.tr hF1 rfl
      replace hPre : Pre15 κ h := hPre.fm hF1 (fun _ => rfl)
      replace h13 : h 13 = κ 13 := (hF1.cell 13 rfl (fun _ => rfl)).trans h13
      replace h14 : h 14 = κ 14 := (hF1.cell 14 rfl (fun _ => rfl)).trans h14
      have t44_0_26 := hF1.1 0 26 rfl rfl
      have t44_0_31 := hF1.1 0 31 rfl rfl
      have t44_0_30 := hF1.1 0 30 rfl rfl
      exact zV_zret rfl (by omega) dX12_readsStage_1.2.1.1.1 ⟨hF, by refine ⟨by omega, by omega, by omega, by omega, fun q => ?_⟩; exfalso; omega⟩
  · refine zW_iload_n (pc' := 13) dX12_readsStage_0.1.2.2.1 rfl rfl ?_
    have y27 := hF.1 0 27 rfl rfl
    refine csI1 (pc' := 16) kX12_isLate vX12_isLate lk_X12_173 ⟨Nat.le_of_ble_eq_true rfl, Nat.le_of_ble_eq_true rfl⟩ rfl (s_X12_isLate (b := bdB true) (κ := h) (Fr.rf hF.2.1) _ ⟨by omega, by omega⟩) dX12_readsStage_0.1.2.2.2 (Nat.le_of_ble_eq_true rfl) rfl ?_
    rintro r13 z13 ⟨hz13, p13⟩; subst z13
    refine zV_if_ne (tgt := 29) (pc' := 19) dX12_readsStage_0.2.1.1.1 rfl rfl ⟨by omega, by omega⟩ (fun c16 => ?_) (fun c16 => ?_)
    · refine zW_aload_n (pc' := 30) dX12_readsStage_0.2.2.2.2 rfl rfl ?_
      refine zG_int (pc' := 33) fg_X12_167 tb0 rfl dX12_readsStage_1.1.1.1.1 rfl ?_
      have e30 := hF.rh 0 30
      refine zW_bipush (pc' := 35) dX12_readsStage_1.1.1.1.2 rfl rfl ?_
      refine zV_cm_ne (tgt := 48) (pc' := 38) dX12_readsStage_1.1.1.2.1 rfl rfl ⟨by omega, by omega⟩ ⟨by omega, by omega⟩ (fun c35 => ?_) (fun c35 => ?_)
      · refine zW_aload_n (pc' := 49) dX12_readsStage_1.2.1.1.2 rfl rfl ?_
        have y27 := hF.1 0 27 rfl rfl
        refine cvI0 (pc' := 52) kX12_isFilledSoFar vX12_isFilledSoFar lk_X12_176 ⟨Nat.le_of_ble_eq_true rfl, Nat.le_of_ble_eq_true rfl⟩ tb0 vq12 rfl rfl (s_X12_isFilledSoFar (b := bdB true) (κ := h) hF.2.2.1 (Fr.rf hF.2.1) (by omega)) dX12_readsStage_1.2.1.2.1 (Nat.le_of_ble_eq_true rfl) rfl ?_
        rintro r49 z49 ⟨hz49, p49⟩; subst z49
        refine zW_iload_n (pc' := 53) dX12_readsStage_1.2.1.2.2 rfl rfl ?_
        have y27 := hF.1 0 27 rfl rfl
        refine csI1 (pc' := 56) kX12_isEarly vX12_isEarly lk_X12_170 ⟨Nat.le_of_ble_eq_true rfl, Nat.le_of_ble_eq_true rfl⟩ rfl (s_X12_isEarly (b := bdB true) (κ := h) (Fr.rf hF.2.1) _ ⟨by omega, by omega⟩) dX12_readsStage_1.2.2.1.1 (Nat.le_of_ble_eq_true rfl) rfl ?_
        rintro r53 z53 ⟨hz53, p53⟩; subst z53
        refine zV_cm_ne (tgt := 70) (pc' := 59) dX12_readsStage_1.2.2.1.2 rfl rfl ⟨by omega, by omega⟩ ⟨by omega, by omega⟩ (fun c56 => ?_) (fun c56 => ?_)
        · refine zW_aload_n (pc' := 71) dX12_readsStage_2.1.2.1.1 rfl rfl ?_
          refine zW_aload_n (pc' := 72) dX12_readsStage_2.1.2.1.2 rfl rfl ?_
          refine zG_int (pc' := 75) fg_X12_123 tb0 rfl dX12_readsStage_2.1.2.2.1 rfl ?_
          have e72 := hF.rh 0 26
          refine zW_iconst (pc' := 76) dX12_readsStage_2.1.2.2.2 rfl ?_
          refine zW_iadd (pc' := 77) dX12_readsStage_2.2.1.1.1 rfl ?_
          refine zPm (pc' := 80) hF (Or.inl rfl) (SI_irr hF.2.1 (Or.inl rfl) (fun _ _ => ⟨by omega, by omega⟩)) (KR_irr hF.2.2.1 rfl) (KC_irr hF.2.2.2 rfl) fp_X12_123 tb0 rfl dX12_readsStage_2.2.1.1.2 rfl (fun h hF w77 => ?_)
          replace hPre : Pre15 κ h := by rw [w77]; exact hPre.w (by decide)
          replace h13 : h 13 = κ 13 := by rw [w77]; exact (zfun (by decide)).trans h13
          replace h14 : h 14 = κ 14 := by rw [w77]; exact (zfun (by decide)).trans h14
          have t77_0_26 := congrFun (congrFun w77 0) 26
          rw [zwr_eq] at t77_0_26
          have t77_0_31 := congrFun (congrFun w77 0) 31
          rw [zwr_ne (Or.inr (by decide))] at t77_0_31
          have t77_0_30 := congrFun (congrFun w77 0) 30
          rw [zwr_ne (Or.inr (by decide))] at t77_0_30
          refine zW_aload_n (pc' := 81) dX12_readsStage_2.2.1.2.1 rfl rfl ?_
          refine zW_bipush (pc' := 83) dX12_readsStage_2.2.1.2.2 rfl rfl ?_
          have y27 := hF.1 0 27 rfl rfl
          refine cvI1 (pc' := 86) kX12_takesSign vX12_takesSign lk_X12_154 ⟨Nat.le_of_ble_eq_true rfl, Nat.le_of_ble_eq_true rfl⟩ tb0 vq12 rfl rfl (s_X12_takesSign hF.2.1 hF.2.2.1 hF.2.2.2 _ ⟨by omega, by omega⟩ (by omega)) dX12_readsStage_2.2.2.1.1 (Nat.le_of_ble_eq_true rfl) rfl ?_
          rintro r83 h ⟨hF1, p83⟩; replace hF := hF.tr hF1 rfl
          replace hPre : Pre15 κ h := hPre.fm hF1 (fun _ => rfl)
          replace h13 : h 13 = κ 13 := (hF1.cell 13 rfl (fun _ => rfl)).trans h13
          replace h14 : h 14 = κ 14 := (hF1.cell 14 rfl (fun _ => rfl)).trans h14
          have t83_0_31 := hF1.1 0 31 rfl rfl
          have t83_0_30 := hF1.1 0 30 rfl rfl
          refine zV_if_eq (tgt := 97) (pc' := 89) dX12_readsStage_2.2.2.1.2 rfl rfl ⟨by omega, by omega⟩ (fun c86 => ?_) (fun c86 => ?_)
          · refine zW_iconst (pc' := 98) dX12_readsStage_3.1.1.2.1 rfl ?_
            exact zV_zret rfl (by omega) dX12_readsStage_3.1.1.2.2 ⟨hF, by refine ⟨by omega, by omega, by omega, by omega, fun q => ?_⟩; exfalso; omega⟩
          · refine zW_aload_n (pc' := 90) dX12_readsStage_2.2.2.2.1 rfl rfl ?_
            refine zW_iload_n (pc' := 91) dX12_readsStage_2.2.2.2.2 rfl rfl ?_
            have y27 := hF.1 0 27 rfl rfl
            obtain ⟨hB, eB⟩ : ∃ z : Hp, z = h := ⟨_, rfl⟩
            have eB31 : hB 0 31 = κ 0 31 := by rw [eB]; omega
            have eB26 : hB 0 26 = h 0 26 := by rw [eB]
            have eB27 : hB 0 27 = h 0 27 := by rw [eB]
            refine cvI1 (pc' := 94) kX12_readsNumbers vX12_readsNumbers lk_X12_179 ⟨Nat.le_of_ble_eq_true rfl, Nat.le_of_ble_eq_true rfl⟩ tb0 vq12 rfl rfl (s_X12_readsNumbers hF.2.1 hF.2.2.1 hF.2.2.2 _ ⟨by omega, by omega⟩ (by omega) (by omega)) dX12_readsStage_3.1.1.1.1 (Nat.le_of_ble_eq_true rfl) rfl ?_
            rintro r91 h ⟨hF1, p91⟩; replace hF := hF.tr hF1 rfl
            replace hPre : Pre15 κ h := hPre.tr p91.2.2.2.2.1 (by omega)
            replace h13 : h 13 = κ 13 := (hF1.cell 13 rfl (fun _ => rfl)).trans h13
            replace h14 : h 14 = κ 14 := (hF1.cell 14 rfl (fun _ => rfl)).trans h14
            have t91_0_30 := hF1.1 0 30 rfl rfl
            refine zV_if_ne (tgt := 99) (pc' := 97) dX12_readsStage_3.1.1.1.2 rfl rfl ⟨by omega, by omega⟩ (fun c94 => ?_) (fun c94 => ?_)
            · rw [← eB] at p91
              obtain ⟨n1, n2, n3⟩ := p91.2.2.2.2.2.2.2 (by omega)
              rw [eB31] at n1 n2 n3
              obtain ⟨hC, eC⟩ : ∃ z : Hp, z = h := ⟨_, rfl⟩
              have c31 : hC 0 31 = h 0 31 := by rw [eC]
              rw [← eC] at n1 n2 n3
              have pa := And.intro p91.1 (And.intro p91.2.1 (And.intro p91.2.2.1 (And.intro p91.2.2.2.1 (And.intro p91.2.2.2.2.2.1 p91.2.2.2.2.2.2.1))))
              replace n2 : HdP _ := n2
              replace n3 : HdP _ := n3
              clear p91
              have hPC : Pre15 κ hC := by rw [eC]; exact hPre
              have c13 : hC 13 = κ 13 := by rw [eC]; exact h13
              have c14 : hC 14 = κ 14 := by rw [eC]; exact h14
              refine zW_aload_n (pc' := 100) dX12_readsStage_3.1.2.1.1 rfl rfl ?_
              refine zG_ref (pc' := 103) 13 fg_X12_48 tb0 rfl dX12_readsStage_3.1.2.1.2 rfl ?_
              refine zW_aload_n (pc' := 104) dX12_readsStage_3.1.2.2.1 rfl rfl ?_
              refine zG_int (pc' := 107) fg_X12_167 tb0 rfl dX12_readsStage_3.1.2.2.2 rfl ?_
              have e104 := hF.rh 0 30
              refine zW_iload_n (pc' := 108) dX12_readsStage_3.2.1.1.1 rfl rfl ?_
              have y30 : h 0 30 = κ 0 30 := by omega
              refine zSm (pc' := 109) hF rfl (fun v' hv he => ⟨(SI_irr hF.2.1 (Or.inl (key_of rfl _)) (fun _ _ => hv)), (KR_irr hF.2.2.1 rfl), (KC_irr hF.2.2.2 rfl)⟩) tb13 (by omega) dX12_readsStage_3.2.1.1.2 (by decide) rfl (fun h i108 hF a108 b108 w108 => ?_)
              have t108_0_26 := congrFun (congrFun w108 0) 26
              rw [zwr_ne (Or.inl (by decide))] at t108_0_26
              have t108_0_31 := congrFun (congrFun w108 0) 31
              rw [zwr_ne (Or.inl (by decide))] at t108_0_31
              have t108_0_30 := congrFun (congrFun w108 0) 30
              rw [zwr_ne (Or.inl (by decide))] at t108_0_30
              refine zW_aload_n (pc' := 110) dX12_readsStage_3.2.1.2.1 rfl rfl ?_
              refine zW_aload_n (pc' := 111) dX12_readsStage_3.2.1.2.2 rfl rfl ?_
              refine zG_int (pc' := 114) fg_X12_167 tb0 rfl dX12_readsStage_3.2.2.1.1 rfl ?_
              have e111 := hF.rh 0 30
              refine zW_iconst (pc' := 115) dX12_readsStage_3.2.2.1.2 rfl ?_
              refine zW_iadd (pc' := 116) dX12_readsStage_3.2.2.2.1 rfl ?_
              refine zPm (pc' := 119) hF (Or.inl rfl) (SI_irr hF.2.1 (Or.inl rfl) (fun _ _ => ⟨by omega, by omega⟩)) (KR_irr hF.2.2.1 rfl) (KC_irr hF.2.2.2 rfl) fp_X12_167 tb0 rfl dX12_readsStage_3.2.2.2.2 rfl (fun h hF w116 => ?_)
              have t116_0_26 := congrFun (congrFun w116 0) 26
              rw [zwr_ne (Or.inr (by decide))] at t116_0_26
              have t116_0_31 := congrFun (congrFun w116 0) 31
              rw [zwr_ne (Or.inr (by decide))] at t116_0_31
              have t116_0_30 := congrFun (congrFun w116 0) 30
              rw [zwr_eq] at t116_0_30
              refine zW_aload_n (pc' := 120) dX12_readsStage_4.1.1.1.1 rfl rfl ?_
              refine zG_ref (pc' := 123) 14 fg_X12_51 tb0 rfl dX12_readsStage_4.1.1.1.2 rfl ?_
              refine zW_aload_n (pc' := 124) dX12_readsStage_4.1.1.2 rfl rfl ?_
              refine zG_int (pc' := 127) fg_X12_167 tb0 rfl dX12_readsStage_4.1.2.1 rfl ?_
              have e124 := hF.rh 0 30
              refine zW_aload_n (pc' := 128) dX12_readsStage_4.1.2.2 rfl rfl ?_
              refine zG_int (pc' := 131) fg_X12_151 tb0 rfl dX12_readsStage_4.2.1.1 rfl ?_
              have e128 := hF.rh 0 31
              have y30b : h 0 30 = κ 0 30 + 1 := by omega
              refine zSm (pc' := 132) hF rfl (fun v' hv he => ⟨(SI_irr hF.2.1 (Or.inl (key_of rfl _)) (fun _ _ => hv)), (KR_c14 hF.2.2.1 (by have := he ⟨by omega, by omega⟩; omega)), (KC_irr hF.2.2.2 rfl)⟩) tb14 (by omega) dX12_readsStage_4.2.1.2 (by decide) rfl (fun h i131 hF a131 b131 w131 => ?_)
              have t131_0_26 := congrFun (congrFun w131 0) 26
              rw [zwr_ne (Or.inl (by decide))] at t131_0_26
              have t131_0_31 := congrFun (congrFun w131 0) 31
              rw [zwr_ne (Or.inl (by decide))] at t131_0_31
              have t131_0_30 := congrFun (congrFun w131 0) 30
              rw [zwr_ne (Or.inl (by decide))] at t131_0_30
              have f15 : h 15 = hC 15 := by rw [w131, w116, w108, eC, zfun (by decide), zfun (by decide), zfun (by decide)]
              have f13a : h 13 (κ 0 30).toNat = r1 := by rw [w131, w116, w108, zwr_ne (Or.inl (by decide)), zwr_ne (Or.inl (by decide)), y30, zwr_eq]; exact b108 ⟨by omega, by omega⟩
              have f13b : ∀ j, j ≠ (κ 0 30).toNat → h 13 j = κ 13 j := fun j hj => by rw [w131, w116, w108, zwr_ne (Or.inl (by decide)), zwr_ne (Or.inl (by decide)), y30, zwr_ne (Or.inr hj), ← eC, c13]
              have f14a : h 14 (κ 0 30 + 1).toNat = hC 0 31 := by have q := b131 ⟨by omega, by omega⟩; rw [w131, y30b, zwr_eq]; omega
              have f14b : ∀ j, j ≠ (κ 0 30 + 1).toNat → h 14 j = κ 14 j := fun j hj => by rw [w131, y30b, zwr_ne (Or.inr hj), w116, w108, zwr_ne (Or.inl (by decide)), zwr_ne (Or.inl (by decide)), ← eC, c14]
              have y27 := hF.1 0 27 rfl rfl
              have e30 : h 0 30 = κ 0 30 + 1 := by omega
              have hNP : NP h := ⟨⟨by omega, by omega, by omega⟩, ⟨by omega, by omega⟩, ⟨by omega, by omega⟩, by rw [e30, f14a]; omega, by rw [e30, f15]; exact hRc.push (by omega) f13a f13b f14a f14b (fun j hj => hPC j (by omega)) (by omega) (by omega) (by omega) (by rw [hA0]; exact n2) (by rw [hA0]; exact n3)⟩
              refine zW_iconst (pc' := 133) dX12_readsStage_4.2.2.1 rfl ?_
              exact zV_zret rfl (by omega) dX12_readsStage_4.2.2.2 ⟨hF, by exact ⟨by omega, by omega, by omega, by omega, fun _ => hNP⟩⟩
            · refine zW_iconst (pc' := 98) dX12_readsStage_3.1.1.2.1 rfl ?_
              exact zV_zret rfl (by omega) dX12_readsStage_3.1.1.2.2 ⟨hF, by refine ⟨by omega, by omega, by omega, by omega, fun q => ?_⟩; exfalso; omega⟩
        · refine zW_aload_n (pc' := 60) dX12_readsStage_1.2.2.2.1 rfl rfl ?_
          refine zW_bipush (pc' := 62) dX12_readsStage_1.2.2.2.2 rfl rfl ?_
          refine zW_aload_n (pc' := 63) dX12_readsStage_2.1.1.1.1 rfl rfl ?_
          refine zG_int (pc' := 66) fg_X12_123 tb0 rfl dX12_readsStage_2.1.1.1.2 rfl ?_
          have e63 := hF.rh 0 26
          have y27 := hF.1 0 27 rfl rfl
          refine cvI2 (pc' := 69) kX12_wrongAt vX12_wrongAt lk_X12_136 ⟨Nat.le_of_ble_eq_true rfl, Nat.le_of_ble_eq_true rfl⟩ tb0 vq12 rfl rfl (s_X12_wrongAt hF.2.1 hF.2.2.1 hF.2.2.2 _ ⟨by omega, by omega⟩ _ ⟨by omega, by omega⟩) dX12_readsStage_2.1.1.2.1 (Nat.le_of_ble_eq_true rfl) rfl ?_
          rintro r66 h ⟨hF1, p66⟩; replace hF := hF.tr hF1 rfl
          replace hPre : Pre15 κ h := hPre.fm hF1 (fun _ => rfl)
          replace h13 : h 13 = κ 13 := (hF1.cell 13 rfl (fun _ => rfl)).trans h13
          replace h14 : h 14 = κ 14 := (hF1.cell 14 rfl (fun _ => rfl)).trans h14
          have t66_0_26 := hF1.1 0 26 rfl rfl
          have t66_0_31 := hF1.1 0 31 rfl rfl
          have t66_0_30 := hF1.1 0 30 rfl rfl
          exact zV_zret rfl (by omega) dX12_readsStage_2.1.1.2.2 ⟨hF, by refine ⟨by omega, by omega, by omega, by omega, fun q => ?_⟩; exfalso; omega⟩
      · refine zW_aload_n (pc' := 39) dX12_readsStage_1.1.1.2.2 rfl rfl ?_
        refine zW_iconst (pc' := 40) dX12_readsStage_1.1.2.1.1 rfl ?_
        refine zW_aload_n (pc' := 41) dX12_readsStage_1.1.2.1.2 rfl rfl ?_
        refine zG_int (pc' := 44) fg_X12_123 tb0 rfl dX12_readsStage_1.1.2.2.1 rfl ?_
        have e41 := hF.rh 0 26
        have y27 := hF.1 0 27 rfl rfl
        refine cvI2 (pc' := 47) kX12_wrongAt vX12_wrongAt lk_X12_136 ⟨Nat.le_of_ble_eq_true rfl, Nat.le_of_ble_eq_true rfl⟩ tb0 vq12 rfl rfl (s_X12_wrongAt hF.2.1 hF.2.2.1 hF.2.2.2 _ ⟨by omega, by omega⟩ _ ⟨by omega, by omega⟩) dX12_readsStage_1.1.2.2.2 (Nat.le_of_ble_eq_true rfl) rfl ?_
        rintro r44 h ⟨hF1, p44⟩; replace hF := hF.tr hF1 rfl
        replace hPre : Pre15 κ h := hPre.fm hF1 (fun _ => rfl)
        replace h13 : h 13 = κ 13 := (hF1.cell 13 rfl (fun _ => rfl)).trans h13
        replace h14 : h 14 = κ 14 := (hF1.cell 14 rfl (fun _ => rfl)).trans h14
        have t44_0_26 := hF1.1 0 26 rfl rfl
        have t44_0_31 := hF1.1 0 31 rfl rfl
        have t44_0_30 := hF1.1 0 30 rfl rfl
        exact zV_zret rfl (by omega) dX12_readsStage_1.2.1.1.1 ⟨hF, by refine ⟨by omega, by omega, by omega, by omega, fun q => ?_⟩; exfalso; omega⟩
    · refine zW_aload_n (pc' := 20) dX12_readsStage_0.2.1.1.2 rfl rfl ?_
      refine zW_iconst (pc' := 21) dX12_readsStage_0.2.1.2.1 rfl ?_
      refine zW_aload_n (pc' := 22) dX12_readsStage_0.2.1.2.2 rfl rfl ?_
      refine zG_int (pc' := 25) fg_X12_123 tb0 rfl dX12_readsStage_0.2.2.1.1 rfl ?_
      have e22 := hF.rh 0 26
      have y27 := hF.1 0 27 rfl rfl
      refine cvI2 (pc' := 28) kX12_wrongAt vX12_wrongAt lk_X12_136 ⟨Nat.le_of_ble_eq_true rfl, Nat.le_of_ble_eq_true rfl⟩ tb0 vq12 rfl rfl (s_X12_wrongAt hF.2.1 hF.2.2.1 hF.2.2.2 _ ⟨by omega, by omega⟩ _ ⟨by omega, by omega⟩) dX12_readsStage_0.2.2.1.2 (Nat.le_of_ble_eq_true rfl) rfl ?_
      rintro r25 h ⟨hF1, p25⟩; replace hF := hF.tr hF1 rfl
      replace hPre : Pre15 κ h := hPre.fm hF1 (fun _ => rfl)
      replace h13 : h 13 = κ 13 := (hF1.cell 13 rfl (fun _ => rfl)).trans h13
      replace h14 : h 14 = κ 14 := (hF1.cell 14 rfl (fun _ => rfl)).trans h14
      have t25_0_26 := hF1.1 0 26 rfl rfl
      have t25_0_31 := hF1.1 0 31 rfl rfl
      have t25_0_30 := hF1.1 0 30 rfl rfl
      exact zV_zret rfl (by omega) dX12_readsStage_0.2.2.2.1 ⟨hF, by refine ⟨by omega, by omega, by omega, by omega, fun q => ?_⟩; exfalso; omega⟩
