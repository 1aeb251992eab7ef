abbrev q_X11_stagesQ (κ : Hp) (x1 : Int) (g : Int → Int) : Int → Hp → Prop := fun r h' => Fm [(53, 2), (53, 3), (53, 4), (49, 0), (49, 1), (50, 999), (51, 999), (52, 999), (41, 0), (41, 1), (42, 999), (43, 999), (44, 999), (31, 1), (54, 7)] κ h' ∧ (((((¬ (0 ≤ x1 ∧ x1 ≤ 120 ∧ x1 ≤ κ 31 1) ∧ r = -1 ∧ h' 31 1 = κ 31 1 ∧ h' 41 0 = κ 41 0 ∧ h' 41 1 = κ 41 1) ∨ ((0 ≤ x1 ∧ x1 ≤ 120 ∧ x1 ≤ κ 31 1) ∧ h' 31 1 = 0 ∧ r = rdF g x1 ∧ (0 ≤ r → h' 41 0 = r ∧ h' 41 1 = rdA g x1) ∧ (r < 0 → h' 41 0 = κ 41 0 ∧ h' 41 1 = κ 41 1))) ∧ RWC r g (h' 42) (h' 43) (h' 44) ∧ EQC r κ h')) ∧ ChC κ h')
set_option maxHeartbeats 4000000 in
set_option maxRecDepth 20000 in
theorem s_X11_stagesQ {G : Ga} {κ : Hp} (hS : SI κ) (hR : KR κ) (hC : KC κ) (x1 : Int) (hx1 : rng x1) (g : Int → Int) (hg : hr (κ 32) x1 = g) (hb : x1 ≤ κ 31 1 → ∀ q : Int, -1 ≤ g q ∧ g q ≤ 255) (hX : XI G) : zM G mX11_stages yX11_stages [.inr (.inr 30), .inl x1] κ (q_X11_stagesQ κ x1 g) := by
  have f_31_1 := KCt hC
  have f_41_0 := KCm hC
  have f_41_1 := KCf hC
  unfold rng at hx1
  refine zM_of [some (.inr (.inr 30)), some (.inl x1), none] 1 rfl rfl (Nat.le_of_ble_eq_true rfl) rfl ?_
  refine (show ∀ h : Hp, Fm [(53, 2), (53, 3), (53, 4), (49, 0), (49, 1), (50, 999), (51, 999), (52, 999), (41, 0), (41, 1), (42, 999), (43, 999), (44, 999), (31, 1), (54, 7)] κ h → h = κ → zV G mX11_stages (q_X11_stagesQ κ x1 g) 0 [some (.inr (.inr 30)), some (.inl x1), none] [] h from fun h hF hk0 => ?_) κ (Fm.rf hS hR hC) rfl
  have y0_31_1 : h 31 1 = κ 31 1 := by rw [hk0]
  have y0_41_0 : h 41 0 = κ 41 0 := by rw [hk0]
  have y0_41_1 : h 41 1 = κ 41 1 := by rw [hk0]
  have y0_49_0 : h 49 0 = κ 49 0 := by rw [hk0]
  have y0_49_1 : h 49 1 = κ 49 1 := by rw [hk0]
  have hU : UnC κ h := by rw [hk0]; exact UnC.rf
  refine zW_iload_n (pc' := 1) dX11_stages_0.1.1.1.1 rfl rfl ?_
  refine zV_if_lt (tgt := 21) (pc' := 4) dX11_stages_0.1.1.1.2 rfl rfl ⟨by omega, by omega⟩ (fun c1 => ?_) (fun c1 => ?_)
  · refine zW_iconst (pc' := 22) dX11_stages_0.2.1.2.1 rfl ?_
    exact zV_iret rfl dX11_stages_0.2.1.2.2 ⟨hF, ⟨(by refine ⟨by omega, fun z => absurd z (by decide), fun _ => ?_⟩; rw [hk0]; exact ⟨rfl, rfl, rfl⟩), (by first | exact Or.inl (by omega) | exact Or.inr hU | exact Or.inr (by rw [hk0]; exact UnC.rf))⟩⟩
  · refine zW_iload_n (pc' := 5) dX11_stages_0.1.1.2.1 rfl rfl ?_
    refine zW_bipush (pc' := 7) dX11_stages_0.1.1.2.2 rfl rfl ?_
    refine zV_cm_gt (tgt := 21) (pc' := 10) dX11_stages_0.1.2.1.1 rfl rfl ⟨by omega, by omega⟩ ⟨by omega, by omega⟩ (fun c7 => ?_) (fun c7 => ?_)
    · refine zW_iconst (pc' := 22) dX11_stages_0.2.1.2.1 rfl ?_
      exact zV_iret rfl dX11_stages_0.2.1.2.2 ⟨hF, ⟨(by refine ⟨by omega, fun z => absurd z (by decide), fun _ => ?_⟩; rw [hk0]; exact ⟨rfl, rfl, rfl⟩), (by first | exact Or.inl (by omega) | exact Or.inr hU | exact Or.inr (by rw [hk0]; exact UnC.rf))⟩⟩
    · refine zW_iload_n (pc' := 11) dX11_stages_0.1.2.1.2 rfl rfl ?_
      refine zW_aload_n (pc' := 12) dX11_stages_0.1.2.2.1 rfl rfl ?_
      refine zG_ref (pc' := 15) 31 fg_X11_10 tb30 rfl dX11_stages_0.1.2.2.2 rfl ?_
      refine zG_int (pc' := 18) fg_X11_88 tb31 rfl dX11_stages_0.2.1.1.1 rfl ?_
      have e15 := KCt hF.2.2.2
      refine zV_cm_le (tgt := 23) (pc' := 21) dX11_stages_0.2.1.1.2 rfl rfl ⟨by omega, by omega⟩ ⟨by omega, by omega⟩ (fun c18 => ?_) (fun c18 => ?_)
      · refine zW_aload_n (pc' := 24) dX11_stages_0.2.2.1.1 rfl rfl ?_
        refine zG_ref (pc' := 27) 53 fg_X11_42 tb30 rfl dX11_stages_0.2.2.1.2 rfl ?_
        refine zW_iload_n (pc' := 28) dX11_stages_0.2.2.2.1 rfl rfl ?_
        refine cvI1 (pc' := 31) kX6_read vX6_read lk_X11_95 ⟨Nat.le_of_ble_eq_true rfl, Nat.le_of_ble_eq_true rfl⟩ tb53 vq6 rfl rfl (s_X6_readQ hF.2.1 hF.2.2.1 hF.2.2.2 _ ⟨by omega, by omega⟩ g (by rw [hk0]; exact hg) (hb (by omega)) (by omega) hX) dX11_stages_0.2.2.2.2 (Nat.le_of_ble_eq_true rfl) rfl ?_
        rintro r28 h ⟨hF1, p28⟩; replace hF := hF.tr hF1 rfl
        replace hU : UnC κ h := hU.fm hF1 rfl
        have t28_31_1 := hF1.1 31 1 rfl rfl
        have t28_41_0 := hF1.1 41 0 rfl rfl
        have t28_41_1 := hF1.1 41 1 rfl rfl
        have t28_54_7 := hF1.1 54 7 rfl rfl
        have arc : ARCI r28 g h := p28.2.2.2.2
        have k42 : h 42 = κ 42 := (hF1.cell 42 rfl (fun _ => rfl)).trans (congrFun hk0 42)
        have k43 : h 43 = κ 43 := (hF1.cell 43 rfl (fun _ => rfl)).trans (congrFun hk0 43)
        have k44 : h 44 = κ 44 := (hF1.cell 44 rfl (fun _ => rfl)).trans (congrFun hk0 44)
        refine zW_istore_n (ls' := [_, _, _]) (pc' := 32) dX11_stages_1.1.1.1.1 (by decide) rfl rfl rfl ?_
        refine zW_aload_n (pc' := 33) dX11_stages_1.1.1.1.2 rfl rfl ?_
        refine zG_ref (pc' := 36) 31 fg_X11_10 tb30 rfl dX11_stages_1.1.1.2.1 rfl ?_
        refine cvV0 (pc' := 39) kX9_empty vX9_empty lk_X11_99 ⟨Nat.le_of_ble_eq_true rfl, Nat.le_of_ble_eq_true rfl⟩ tb31 vq9 rfl rfl (s_X9_empty hF.2.1 hF.2.2.1 hF.2.2.2) dX11_stages_1.1.1.2.2 (Nat.le_of_ble_eq_true rfl) rfl ?_
        rintro r36 h ⟨hF1, p36⟩; replace hF := hF.tr hF1 rfl
        replace hU : UnC κ h := hU.fm hF1 rfl
        have t36_41_0 := hF1.1 41 0 rfl rfl
        have t36_41_1 := hF1.1 41 1 rfl rfl
        have t36_49_0 := hF1.1 49 0 rfl rfl
        have t36_49_1 := hF1.1 49 1 rfl rfl
        have t36_54_7 := hF1.1 54 7 rfl rfl
        replace arc : ARCI r28 g h := fun z => (arc z).eq (hF1.cell 50 rfl (fun _ => rfl)) (hF1.cell 51 rfl (fun _ => rfl)) (hF1.cell 52 rfl (fun _ => rfl))
        replace k42 : h 42 = κ 42 := (hF1.cell 42 rfl (fun _ => rfl)).trans k42
        replace k43 : h 43 = κ 43 := (hF1.cell 43 rfl (fun _ => rfl)).trans k43
        replace k44 : h 44 = κ 44 := (hF1.cell 44 rfl (fun _ => rfl)).trans k44
        have kc51 := KCdt hF.2.2.2
        have b49 := KCd0 hF.2.2.2
        refine zW_iload_n (pc' := 40) dX11_stages_1.1.2.1.1 rfl rfl ?_
        refine zV_if_lt (tgt := 64) (pc' := 43) dX11_stages_1.1.2.1.2 rfl rfl ⟨by omega, by omega⟩ (fun c40 => ?_) (fun c40 => ?_)
        · first | replace rw1 : RWC r28 g (h 42) (h 43) (h 44) := (by rw [hF1.cell 42 rfl (fun _ => rfl), hF1.cell 43 rfl (fun _ => rfl), hF1.cell 44 rfl (fun _ => rfl)]; exact rw1) | skip
          refine zW_iload_n (pc' := 65) dX11_stages_1.2.2.2.2 rfl rfl ?_
          exact zV_iret rfl dX11_stages_2 ⟨hF, ⟨(by refine ⟨by omega, ?_, ?_⟩; (first | exact rw1 | exact (fun z => absurd z (by omega))); (first | exact (fun z => absurd z (by omega)) | exact (fun _ => ⟨k42, k43, k44⟩))), (by first | exact Or.inl (by omega) | exact Or.inr hU | exact Or.inr (by rw [hk0]; exact UnC.rf))⟩⟩
        · refine zW_aload_n (pc' := 44) dX11_stages_1.1.2.2.1 rfl rfl ?_
          refine zG_ref (pc' := 47) 41 fg_X11_33 tb30 rfl dX11_stages_1.1.2.2.2 rfl ?_
          refine zW_aload_n (pc' := 48) dX11_stages_1.2.1.1.1 rfl rfl ?_
          refine zG_ref (pc' := 51) 53 fg_X11_42 tb30 rfl dX11_stages_1.2.1.1.2 rfl ?_
          refine zG_ref (pc' := 54) 49 fg_X11_102 tb53 rfl dX11_stages_1.2.1.2.1 rfl ?_
          refine cvV1 (pc' := 57) kX7_copyFrom vX7_copyFrom lk_X11_105 ⟨Nat.le_of_ble_eq_true rfl, Nat.le_of_ble_eq_true rfl⟩ tb41 vq7 rfl rfl (s_X7_copyFromV41_49Q hF.2.1 hF.2.2.1 hF.2.2.2) dX11_stages_1.2.1.2.2 (Nat.le_of_ble_eq_true rfl) rfl ?_
          rintro r54 h ⟨hF1, p54⟩; replace hF := hF.tr hF1 rfl
          have t54_31_1 := hF1.1 31 1 rfl rfl
          have t54_49_0 := hF1.1 49 0 rfl rfl
          have t54_49_1 := hF1.1 49 1 rfl rfl
          have t54_54_7 := hF1.1 54 7 rfl rfl
          have rw1 : RWC r28 g (h 42) (h 43) (h 44) := fun z => (arc z).cp (by omega) kc51 p54.2.1 p54.2.2
          refine zW_aload_n (pc' := 58) dX11_stages_1.2.2.1.1 rfl rfl ?_
          refine zG_ref (pc' := 61) 54 fg_X11_51 tb30 rfl dX11_stages_1.2.2.1.2 rfl ?_
          refine cvV0 (pc' := 64) kX1_forget vX1_forget lk_X11_109 ⟨Nat.le_of_ble_eq_true rfl, Nat.le_of_ble_eq_true rfl⟩ tb54 vq1 rfl rfl (s_X1_forget hF.2.1 hF.2.2.1 hF.2.2.2) dX11_stages_1.2.2.2.1 (Nat.le_of_ble_eq_true rfl) rfl ?_
          rintro r61 h ⟨hF1, p61⟩; replace hF := hF.tr hF1 rfl
          have t61_31_1 := hF1.1 31 1 rfl rfl
          have t61_41_0 := hF1.1 41 0 rfl rfl
          have t61_41_1 := hF1.1 41 1 rfl rfl
          have t61_49_0 := hF1.1 49 0 rfl rfl
          have t61_49_1 := hF1.1 49 1 rfl rfl
          first | replace rw1 : RWC r28 g (h 42) (h 43) (h 44) := (by rw [hF1.cell 42 rfl (fun _ => rfl), hF1.cell 43 rfl (fun _ => rfl), hF1.cell 44 rfl (fun _ => rfl)]; exact rw1) | skip
          refine zW_iload_n (pc' := 65) dX11_stages_1.2.2.2.2 rfl rfl ?_
          exact zV_iret rfl dX11_stages_2 ⟨hF, ⟨(by refine ⟨by omega, ?_, ?_⟩; (first | exact rw1 | exact (fun z => absurd z (by omega))); (first | exact (fun z => absurd z (by omega)) | exact (fun _ => ⟨k42, k43, k44⟩))), (by first | exact Or.inl (by omega) | exact Or.inr hU | exact Or.inr (by rw [hk0]; exact UnC.rf))⟩⟩
      · refine zW_iconst (pc' := 22) dX11_stages_0.2.1.2.1 rfl ?_
        exact zV_iret rfl dX11_stages_0.2.1.2.2 ⟨hF, ⟨(by refine ⟨by omega, fun z => absurd z (by decide), fun _ => ?_⟩; rw [hk0]; exact ⟨rfl, rfl, rfl⟩), (by first | exact Or.inl (by omega) | exact Or.inr hU | exact Or.inr (by rw [hk0]; exact UnC.rf))⟩⟩

abbrev q_X11_keepW (κ : Hp)  : Int → Hp → Prop := fun r h' => Fm [(36, 0), (36, 1), (36, 2), (37, 999), (38, 999), (45, 0), (45, 1), (46, 999), (47, 999), (48, 999), (30, 10), (30, 11)] κ h' ∧ ((r = κ 41 0 ∧ h' 30 11 = 1 ∧ h' 36 0 = κ 33 0 ∧ h' 36 1 = κ 33 1 ∧ h' 36 2 = κ 33 2 ∧ h' 30 10 = κ 30 12 ∧ h' 45 0 = κ 41 0 ∧ h' 45 1 = κ 41 1) ∧ (∀ j : Nat, j < 256 → h' 37 j = κ 34 j ∧ h' 38 j = κ 35 j) ∧ (∀ j : Nat, j < 14 → h' 46 j = κ 42 j ∧ h' 47 j = κ 43 j) ∧ (∀ j : Nat, j < 64 → h' 48 j = κ 44 j))
set_option maxHeartbeats 4000000 in
set_option maxRecDepth 20000 in
theorem s_X11_keepW {G : Ga} {κ : Hp} (hS : SI κ) (hR : KR κ) (hC : KC κ)  : zM G mX11_keep yX11_keep [.inr (.inr 30)] κ (q_X11_keepW κ) := by
  have f_30_12 := KCc hC
  have f_33_0 := KCw hC
  have f_33_1 := KCh hC
  have f_33_2 := KCp hC
  have f_41_0 := KCm hC
  have f_41_1 := KCf hC
  have f_45_0 := KCr0 hC
  have f_49_0 := KCd0 hC
  refine zM_of [some (.inr (.inr 30))] 0 rfl rfl (Nat.le_of_ble_eq_true rfl) rfl ?_
  refine (show ∀ h : Hp, Fm [(36, 0), (36, 1), (36, 2), (37, 999), (38, 999), (45, 0), (45, 1), (46, 999), (47, 999), (48, 999), (30, 10), (30, 11)] κ h → h = κ → zV G mX11_keep (q_X11_keepW κ) 0 [some (.inr (.inr 30))] [] h from fun h hF hk0 => ?_) κ (Fm.rf hS hR hC) rfl
  have y0_41_0 : h 41 0 = κ 41 0 := by rw [hk0]
  have y0_41_1 : h 41 1 = κ 41 1 := by rw [hk0]
  have a0_34 := fun j : Nat => congrFun (congrFun hk0 34) j
  have a0_35 := fun j : Nat => congrFun (congrFun hk0 35) j
  have a0_37 := fun j : Nat => congrFun (congrFun hk0 37) j
  have a0_38 := fun j : Nat => congrFun (congrFun hk0 38) j
  have a0_42 := fun j : Nat => congrFun (congrFun hk0 42) j
  have a0_43 := fun j : Nat => congrFun (congrFun hk0 43) j
  have a0_44 := fun j : Nat => congrFun (congrFun hk0 44) j
  have a0_46 := fun j : Nat => congrFun (congrFun hk0 46) j
  have a0_47 := fun j : Nat => congrFun (congrFun hk0 47) j
  have a0_48 := fun j : Nat => congrFun (congrFun hk0 48) j
  refine zW_aload_n (pc' := 1) dX11_keep_0.1.1.1.1 rfl rfl ?_
  refine zG_ref (pc' := 4) 36 fg_X11_71 tb30 rfl dX11_keep_0.1.1.1.2 rfl ?_
  refine zW_aload_n (pc' := 5) dX11_keep_0.1.1.2.1 rfl rfl ?_
  refine zG_ref (pc' := 8) 33 fg_X11_19 tb30 rfl dX11_keep_0.1.1.2.2 rfl ?_
  have y8_33_0 := hF.1 33 0 rfl rfl
  have y8_33_1 := hF.1 33 1 rfl rfl
  have y8_33_2 := hF.1 33 2 rfl rfl
  refine cvV1 (pc' := 11) kX5_copyFrom vX5_copyFrom lk_X11_396 ⟨Nat.le_of_ble_eq_true rfl, Nat.le_of_ble_eq_true rfl⟩ tb36 vq5 rfl rfl (s_X5_copyFromV36_33E hF.2.1 hF.2.2.1 hF.2.2.2) dX11_keep_0.1.2.1.1 (Nat.le_of_ble_eq_true rfl) rfl ?_
  rintro r8 h ⟨hF1, p8⟩; replace hF := hF.tr hF1 rfl
  obtain ⟨p8_0, a8_0⟩ := p8
  have f8_34 := fun j : Nat => hF1.1 34 j rfl rfl
  have f8_35 := fun j : Nat => hF1.1 35 j rfl rfl
  have f8_42 := fun j : Nat => hF1.1 42 j rfl rfl
  have f8_43 := fun j : Nat => hF1.1 43 j rfl rfl
  have f8_44 := fun j : Nat => hF1.1 44 j rfl rfl
  have f8_46 := fun j : Nat => hF1.1 46 j rfl rfl
  have f8_47 := fun j : Nat => hF1.1 47 j rfl rfl
  have f8_48 := fun j : Nat => hF1.1 48 j rfl rfl
  have t8_30_10 := hF1.1 30 10 rfl rfl
  have t8_30_11 := hF1.1 30 11 rfl rfl
  have t8_45_0 := hF1.1 45 0 rfl rfl
  have t8_41_0 := hF1.1 41 0 rfl rfl
  have t8_45_1 := hF1.1 45 1 rfl rfl
  have t8_41_1 := hF1.1 41 1 rfl rfl
  refine zW_aload_n (pc' := 12) dX11_keep_0.1.2.1.2 rfl rfl ?_
  refine zG_ref (pc' := 15) 45 fg_X11_74 tb30 rfl dX11_keep_0.1.2.2.1 rfl ?_
  refine zW_aload_n (pc' := 16) dX11_keep_0.1.2.2.2 rfl rfl ?_
  refine zG_ref (pc' := 19) 41 fg_X11_33 tb30 rfl dX11_keep_0.2.1.1.1 rfl ?_
  have y19_41_0 := hF.1 41 0 rfl rfl
  have y19_41_1 := hF.1 41 1 rfl rfl
  refine cvV1 (pc' := 22) kX7_copyFrom vX7_copyFrom lk_X11_105 ⟨Nat.le_of_ble_eq_true rfl, Nat.le_of_ble_eq_true rfl⟩ tb45 vq7 rfl rfl (s_X7_copyFromV45_41Q hF.2.1 hF.2.2.1 hF.2.2.2) dX11_keep_0.2.1.1.2 (Nat.le_of_ble_eq_true rfl) rfl ?_
  rintro r19 h ⟨hF1, p19⟩; replace hF := hF.tr hF1 rfl
  obtain ⟨p19_0, a19_0, a19_1⟩ := p19
  have f19_34 := fun j : Nat => hF1.1 34 j rfl rfl
  have f19_35 := fun j : Nat => hF1.1 35 j rfl rfl
  have f19_37 := fun j : Nat => hF1.1 37 j rfl rfl
  have f19_38 := fun j : Nat => hF1.1 38 j rfl rfl
  have f19_42 := fun j : Nat => hF1.1 42 j rfl rfl
  have f19_43 := fun j : Nat => hF1.1 43 j rfl rfl
  have f19_44 := fun j : Nat => hF1.1 44 j rfl rfl
  have t19_36_0 := hF1.1 36 0 rfl rfl
  have t19_36_1 := hF1.1 36 1 rfl rfl
  have t19_36_2 := hF1.1 36 2 rfl rfl
  have t19_30_10 := hF1.1 30 10 rfl rfl
  have t19_30_11 := hF1.1 30 11 rfl rfl
  have t19_41_0 := hF1.1 41 0 rfl rfl
  have t19_41_1 := hF1.1 41 1 rfl rfl
  refine zW_aload_n (pc' := 23) dX11_keep_0.2.1.2.1 rfl rfl ?_
  refine zW_aload_n (pc' := 24) dX11_keep_0.2.1.2.2 rfl rfl ?_
  refine zGm (pc' := 27) hF rfl rfl fg_X11_85 tb30 rfl dX11_keep_0.2.2.1.1 rfl ?_
  refine zPm (pc' := 30) hF (Or.inl rfl) (SI_irr hF.2.1 (Or.inl rfl) (fun _ _ => ⟨by omega, by omega⟩)) (KR_irr hF.2.2.1 rfl) (KC_30_10 hF.2.2.2 (by omega)) fp_X11_77 tb30 rfl dX11_keep_0.2.2.1.2 rfl (fun h hF w27 => ?_)
  have a27_34 := fun j : Nat => (congrFun (congrFun w27 34) j).trans (zwr_ne (Or.inl (by decide)))
  have a27_35 := fun j : Nat => (congrFun (congrFun w27 35) j).trans (zwr_ne (Or.inl (by decide)))
  have a27_37 := fun j : Nat => (congrFun (congrFun w27 37) j).trans (zwr_ne (Or.inl (by decide)))
  have a27_38 := fun j : Nat => (congrFun (congrFun w27 38) j).trans (zwr_ne (Or.inl (by decide)))
  have a27_42 := fun j : Nat => (congrFun (congrFun w27 42) j).trans (zwr_ne (Or.inl (by decide)))
  have a27_43 := fun j : Nat => (congrFun (congrFun w27 43) j).trans (zwr_ne (Or.inl (by decide)))
  have a27_44 := fun j : Nat => (congrFun (congrFun w27 44) j).trans (zwr_ne (Or.inl (by decide)))
  have a27_46 := fun j : Nat => (congrFun (congrFun w27 46) j).trans (zwr_ne (Or.inl (by decide)))
  have a27_47 := fun j : Nat => (congrFun (congrFun w27 47) j).trans (zwr_ne (Or.inl (by decide)))
  have a27_48 := fun j : Nat => (congrFun (congrFun w27 48) j).trans (zwr_ne (Or.inl (by decide)))
  have t27_36_0 := congrFun (congrFun w27 36) 0
  rw [zwr_ne (Or.inl (by decide))] at t27_36_0
  have t27_36_1 := congrFun (congrFun w27 36) 1
  rw [zwr_ne (Or.inl (by decide))] at t27_36_1
  have t27_36_2 := congrFun (congrFun w27 36) 2
  rw [zwr_ne (Or.inl (by decide))] at t27_36_2
  have t27_30_10 := congrFun (congrFun w27 30) 10
  rw [zwr_eq] at t27_30_10
  have t27_30_11 := congrFun (congrFun w27 30) 11
  rw [zwr_ne (Or.inr (by decide))] at t27_30_11
  have t27_45_0 := congrFun (congrFun w27 45) 0
  rw [zwr_ne (Or.inl (by decide))] at t27_45_0
  have t27_41_0 := congrFun (congrFun w27 41) 0
  rw [zwr_ne (Or.inl (by decide))] at t27_41_0
  have t27_45_1 := congrFun (congrFun w27 45) 1
  rw [zwr_ne (Or.inl (by decide))] at t27_45_1
  have t27_41_1 := congrFun (congrFun w27 41) 1
  rw [zwr_ne (Or.inl (by decide))] at t27_41_1
  refine zW_aload_n (pc' := 31) dX11_keep_0.2.2.2.1 rfl rfl ?_
  refine zW_iconst (pc' := 32) dX11_keep_0.2.2.2.2 rfl ?_
  refine zPmz (pc' := 35) hF (Or.inl rfl) (SI_irr hF.2.1 (Or.inl rfl) (fun _ _ => ⟨by omega, by omega⟩)) (KR_irr hF.2.2.1 rfl) (KC_irr hF.2.2.2 rfl) (by omega) fp_X11_81 tb30 rfl dX11_keep_1.1.1.1 rfl (fun h hF w32 => ?_)
  have a32_34 := fun j : Nat => (congrFun (congrFun w32 34) j).trans (zwr_ne (Or.inl (by decide)))
  have a32_35 := fun j : Nat => (congrFun (congrFun w32 35) j).trans (zwr_ne (Or.inl (by decide)))
  have a32_37 := fun j : Nat => (congrFun (congrFun w32 37) j).trans (zwr_ne (Or.inl (by decide)))
  have a32_38 := fun j : Nat => (congrFun (congrFun w32 38) j).trans (zwr_ne (Or.inl (by decide)))
  have a32_42 := fun j : Nat => (congrFun (congrFun w32 42) j).trans (zwr_ne (Or.inl (by decide)))
  have a32_43 := fun j : Nat => (congrFun (congrFun w32 43) j).trans (zwr_ne (Or.inl (by decide)))
  have a32_44 := fun j : Nat => (congrFun (congrFun w32 44) j).trans (zwr_ne (Or.inl (by decide)))
  have a32_46 := fun j : Nat => (congrFun (congrFun w32 46) j).trans (zwr_ne (Or.inl (by decide)))
  have a32_47 := fun j : Nat => (congrFun (congrFun w32 47) j).trans (zwr_ne (Or.inl (by decide)))
  have a32_48 := fun j : Nat => (congrFun (congrFun w32 48) j).trans (zwr_ne (Or.inl (by decide)))
  have t32_36_0 := congrFun (congrFun w32 36) 0
  rw [zwr_ne (Or.inl (by decide))] at t32_36_0
  have t32_36_1 := congrFun (congrFun w32 36) 1
  rw [zwr_ne (Or.inl (by decide))] at t32_36_1
  have t32_36_2 := congrFun (congrFun w32 36) 2
  rw [zwr_ne (Or.inl (by decide))] at t32_36_2
  have t32_30_10 := congrFun (congrFun w32 30) 10
  rw [zwr_ne (Or.inr (by decide))] at t32_30_10
  have t32_30_11 := congrFun (congrFun w32 30) 11
  rw [zwr_eq] at t32_30_11
  have t32_45_0 := congrFun (congrFun w32 45) 0
  rw [zwr_ne (Or.inl (by decide))] at t32_45_0
  have t32_41_0 := congrFun (congrFun w32 41) 0
  rw [zwr_ne (Or.inl (by decide))] at t32_41_0
  have t32_45_1 := congrFun (congrFun w32 45) 1
  rw [zwr_ne (Or.inl (by decide))] at t32_45_1
  have t32_41_1 := congrFun (congrFun w32 41) 1
  rw [zwr_ne (Or.inl (by decide))] at t32_41_1
  refine zW_aload_n (pc' := 36) dX11_keep_1.1.1.2 rfl rfl ?_
  refine zG_ref (pc' := 39) 41 fg_X11_33 tb30 rfl dX11_keep_1.1.2 rfl ?_
  refine zGm (pc' := 42) hF rfl rfl fg_X11_379 tb41 rfl dX11_keep_1.2.1 rfl ?_
  exact zV_iret rfl dX11_keep_1.2.2 ⟨hF, ⟨by omega, (fun j => by have q0 := a0_34 j; have q1 := a0_35 j; have q2 := a0_37 j; have q3 := a0_38 j; have q4 := a8_0 j; have q5 := f8_34 j; have q6 := f8_35 j; have q7 := f19_34 j; have q8 := f19_35 j; have q9 := f19_37 j; have q10 := f19_38 j; have q11 := a27_34 j; have q12 := a27_35 j; have q13 := a27_37 j; have q14 := a27_38 j; have q15 := a32_34 j; have q16 := a32_35 j; have q17 := a32_37 j; have q18 := a32_38 j; omega), (fun j => by have q0 := a0_42 j; have q1 := a0_43 j; have q2 := a0_46 j; have q3 := a0_47 j; have q4 := f8_42 j; have q5 := f8_43 j; have q6 := f8_46 j; have q7 := f8_47 j; have q8 := a19_0 j; have q9 := f19_42 j; have q10 := f19_43 j; have q11 := a27_42 j; have q12 := a27_43 j; have q13 := a27_46 j; have q14 := a27_47 j; have q15 := a32_42 j; have q16 := a32_43 j; have q17 := a32_46 j; have q18 := a32_47 j; omega), (fun j => by have q0 := a0_44 j; have q1 := a0_48 j; have q2 := f8_44 j; have q3 := f8_48 j; have q4 := a19_1 j; have q5 := f19_44 j; have q6 := a27_44 j; have q7 := a27_48 j; have q8 := a32_44 j; have q9 := a32_48 j; omega)⟩⟩

abbrev q_X11_undoW (κ : Hp)  : Int → Hp → Prop := fun r h' => Fm [(33, 0), (33, 1), (33, 2), (34, 999), (35, 999), (41, 0), (41, 1), (42, 999), (43, 999), (44, 999), (30, 12), (39, 1), (54, 7)] κ h' ∧ (((0 ≤ r) ∧ (r ≤ 1) ∧ (((κ 30 11 = 0 ∧ r = 0 ∧ h' 33 0 = κ 33 0 ∧ h' 33 1 = κ 33 1 ∧ h' 33 2 = κ 33 2 ∧ h' 30 12 = κ 30 12) ∨ (κ 30 11 ≠ 0 ∧ r = 1 ∧ h' 33 0 = κ 36 0 ∧ h' 33 1 = κ 36 1 ∧ h' 33 2 = κ 36 2 ∧ h' 30 12 = κ 30 10)) ∧ (r = 0 → h' 41 0 = κ 41 0 ∧ h' 41 1 = κ 41 1) ∧ (r = 1 → h' 41 0 = κ 45 0 ∧ h' 41 1 = κ 45 1)) ∧ (∀ j : Nat, (r = 1 → j < 256 → h' 34 j = κ 37 j ∧ h' 35 j = κ 38 j) ∧ (r = 0 → h' 34 j = κ 34 j ∧ h' 35 j = κ 35 j)) ∧ (∀ j : Nat, (r = 1 → j < 14 → h' 42 j = κ 46 j ∧ h' 43 j = κ 47 j) ∧ (r = 0 → h' 42 j = κ 42 j ∧ h' 43 j = κ 43 j)) ∧ (∀ j : Nat, (r = 1 → j < 64 → h' 44 j = κ 48 j) ∧ (r = 0 → h' 44 j = κ 44 j))) ∧ ChC κ h')
set_option maxHeartbeats 4000000 in
set_option maxRecDepth 20000 in
theorem s_X11_undoW {G : Ga} {κ : Hp} (hS : SI κ) (hR : KR κ) (hC : KC κ)  : zM G mX11_undo yX11_undo [.inr (.inr 30)] κ (q_X11_undoW κ) := by
  have f_30_10 := KCkc hC
  have f_30_12 := KCc hC
  have f_33_0 := KCw hC
  have f_33_1 := KCh hC
  have f_33_2 := KCp hC
  have f_36_0 := KCk0 hC
  have f_36_1 := KCk1 hC
  have f_36_2 := KCk2 hC
  have f_41_0 := KCm hC
  have f_41_1 := KCf hC
  have f_45_0 := KCr0 hC
  have f_45_1 := KCr1 hC
  refine zM_of [some (.inr (.inr 30))] 0 rfl rfl (Nat.le_of_ble_eq_true rfl) rfl ?_
  refine (show ∀ h : Hp, Fm [(33, 0), (33, 1), (33, 2), (34, 999), (35, 999), (41, 0), (41, 1), (42, 999), (43, 999), (44, 999), (30, 12), (39, 1), (54, 7)] κ h → h = κ → zV G mX11_undo (q_X11_undoW κ) 0 [some (.inr (.inr 30))] [] h from fun h hF hk0 => ?_) κ (Fm.rf hS hR hC) rfl
  have y0_33_0 : h 33 0 = κ 33 0 := by rw [hk0]
  have y0_33_1 : h 33 1 = κ 33 1 := by rw [hk0]
  have y0_33_2 : h 33 2 = κ 33 2 := by rw [hk0]
  have y0_30_12 : h 30 12 = κ 30 12 := by rw [hk0]
  have y0_41_0 : h 41 0 = κ 41 0 := by rw [hk0]
  have y0_45_0 : h 45 0 = κ 45 0 := by rw [hk0]
  have y0_41_1 : h 41 1 = κ 41 1 := by rw [hk0]
  have y0_45_1 : h 45 1 = κ 45 1 := by rw [hk0]
  have a0_34 := fun j : Nat => congrFun (congrFun hk0 34) j
  have a0_35 := fun j : Nat => congrFun (congrFun hk0 35) j
  have a0_37 := fun j : Nat => congrFun (congrFun hk0 37) j
  have a0_38 := fun j : Nat => congrFun (congrFun hk0 38) j
  have a0_42 := fun j : Nat => congrFun (congrFun hk0 42) j
  have a0_43 := fun j : Nat => congrFun (congrFun hk0 43) j
  have a0_44 := fun j : Nat => congrFun (congrFun hk0 44) j
  have a0_46 := fun j : Nat => congrFun (congrFun hk0 46) j
  have a0_47 := fun j : Nat => congrFun (congrFun hk0 47) j
  have a0_48 := fun j : Nat => congrFun (congrFun hk0 48) j
  refine zW_aload_n (pc' := 1) dX11_undo_0.1.1.1.1 rfl rfl ?_
  refine zGm (pc' := 4) hF rfl rfl fg_X11_81 tb30 rfl dX11_undo_0.1.1.1.2 rfl ?_
  have e1 : -2147483648 ≤ κ 30 11 ∧ κ 30 11 ≤ 2147483647 := by rw [← hF.1 30 11 rfl rfl]; exact hF.rh 30 11
  refine zV_if_ne (tgt := 9) (pc' := 7) dX11_undo_0.1.1.2.1 rfl rfl ⟨by omega, by omega⟩ (fun c4 => ?_) (fun c4 => ?_)
  · refine zW_aload_n (pc' := 10) dX11_undo_0.1.2.1.2 rfl rfl ?_
    refine zG_ref (pc' := 13) 33 fg_X11_19 tb30 rfl dX11_undo_0.1.2.2.1 rfl ?_
    refine zW_aload_n (pc' := 14) dX11_undo_0.1.2.2.2 rfl rfl ?_
    refine zG_ref (pc' := 17) 36 fg_X11_71 tb30 rfl dX11_undo_0.2.1.1.1 rfl ?_
    have y17_36_0 := hF.1 36 0 rfl rfl
    have y17_36_1 := hF.1 36 1 rfl rfl
    have y17_36_2 := hF.1 36 2 rfl rfl
    refine cvV1 (pc' := 20) kX5_copyFrom vX5_copyFrom lk_X11_396 ⟨Nat.le_of_ble_eq_true rfl, Nat.le_of_ble_eq_true rfl⟩ tb33 vq5 rfl rfl (s_X5_copyFromV33_36E hF.2.1 hF.2.2.1 hF.2.2.2) dX11_undo_0.2.1.1.2 (Nat.le_of_ble_eq_true rfl) rfl ?_
    rintro r17 h ⟨hF1, p17⟩; replace hF := hF.tr hF1 rfl
    obtain ⟨p17_0, a17_0⟩ := p17
    have f17_37 := fun j : Nat => hF1.1 37 j rfl rfl
    have f17_38 := fun j : Nat => hF1.1 38 j rfl rfl
    have f17_42 := fun j : Nat => hF1.1 42 j rfl rfl
    have f17_43 := fun j : Nat => hF1.1 43 j rfl rfl
    have f17_44 := fun j : Nat => hF1.1 44 j rfl rfl
    have f17_46 := fun j : Nat => hF1.1 46 j rfl rfl
    have f17_47 := fun j : Nat => hF1.1 47 j rfl rfl
    have f17_48 := fun j : Nat => hF1.1 48 j rfl rfl
    have t17_30_12 := hF1.1 30 12 rfl rfl
    have t17_41_0 := hF1.1 41 0 rfl rfl
    have t17_45_0 := hF1.1 45 0 rfl rfl
    have t17_41_1 := hF1.1 41 1 rfl rfl
    have t17_45_1 := hF1.1 45 1 rfl rfl
    have t17_54_7 := hF1.1 54 7 rfl rfl
    refine zW_aload_n (pc' := 21) dX11_undo_0.2.1.2.1 rfl rfl ?_
    refine zG_ref (pc' := 24) 41 fg_X11_33 tb30 rfl dX11_undo_0.2.1.2.2 rfl ?_
    refine zW_aload_n (pc' := 25) dX11_undo_0.2.2.1.1 rfl rfl ?_
    refine zG_ref (pc' := 28) 45 fg_X11_74 tb30 rfl dX11_undo_0.2.2.1.2 rfl ?_
    have y28_45_0 := hF.1 45 0 rfl rfl
    have y28_45_1 := hF.1 45 1 rfl rfl
    refine cvV1 (pc' := 31) kX7_copyFrom vX7_copyFrom lk_X11_105 ⟨Nat.le_of_ble_eq_true rfl, Nat.le_of_ble_eq_true rfl⟩ tb41 vq7 rfl rfl (s_X7_copyFromV41_45Q hF.2.1 hF.2.2.1 hF.2.2.2) dX11_undo_0.2.2.2.1 (Nat.le_of_ble_eq_true rfl) rfl ?_
    rintro r28 h ⟨hF1, p28⟩; replace hF := hF.tr hF1 rfl
    obtain ⟨p28_0, a28_0, a28_1⟩ := p28
    have f28_34 := fun j : Nat => hF1.1 34 j rfl rfl
    have f28_35 := fun j : Nat => hF1.1 35 j rfl rfl
    have f28_37 := fun j : Nat => hF1.1 37 j rfl rfl
    have f28_38 := fun j : Nat => hF1.1 38 j rfl rfl
    have f28_46 := fun j : Nat => hF1.1 46 j rfl rfl
    have f28_47 := fun j : Nat => hF1.1 47 j rfl rfl
    have f28_48 := fun j : Nat => hF1.1 48 j rfl rfl
    have t28_33_0 := hF1.1 33 0 rfl rfl
    have t28_33_1 := hF1.1 33 1 rfl rfl
    have t28_33_2 := hF1.1 33 2 rfl rfl
    have t28_30_12 := hF1.1 30 12 rfl rfl
    have t28_45_0 := hF1.1 45 0 rfl rfl
    have t28_45_1 := hF1.1 45 1 rfl rfl
    have t28_54_7 := hF1.1 54 7 rfl rfl
    refine zW_aload_n (pc' := 32) dX11_undo_0.2.2.2.2 rfl rfl ?_
    refine zW_aload_n (pc' := 33) dX11_undo_1.1.1.1 rfl rfl ?_
    refine zGm (pc' := 36) hF rfl rfl fg_X11_77 tb30 rfl dX11_undo_1.1.1.2 rfl ?_
    refine zPm (pc' := 39) hF (Or.inl rfl) (SI_irr hF.2.1 (Or.inl rfl) (fun _ _ => ⟨by omega, by omega⟩)) (KR_irr hF.2.2.1 rfl) (KC_30_12 hF.2.2.2 (by omega)) fp_X11_85 tb30 rfl dX11_undo_1.1.2.1 rfl (fun h hF w36 => ?_)
    have a36_34 := fun j : Nat => (congrFun (congrFun w36 34) j).trans (zwr_ne (Or.inl (by decide)))
    have a36_35 := fun j : Nat => (congrFun (congrFun w36 35) j).trans (zwr_ne (Or.inl (by decide)))
    have a36_37 := fun j : Nat => (congrFun (congrFun w36 37) j).trans (zwr_ne (Or.inl (by decide)))
    have a36_38 := fun j : Nat => (congrFun (congrFun w36 38) j).trans (zwr_ne (Or.inl (by decide)))
    have a36_42 := fun j : Nat => (congrFun (congrFun w36 42) j).trans (zwr_ne (Or.inl (by decide)))
    have a36_43 := fun j : Nat => (congrFun (congrFun w36 43) j).trans (zwr_ne (Or.inl (by decide)))
    have a36_44 := fun j : Nat => (congrFun (congrFun w36 44) j).trans (zwr_ne (Or.inl (by decide)))
    have a36_46 := fun j : Nat => (congrFun (congrFun w36 46) j).trans (zwr_ne (Or.inl (by decide)))
    have a36_47 := fun j : Nat => (congrFun (congrFun w36 47) j).trans (zwr_ne (Or.inl (by decide)))
    have a36_48 := fun j : Nat => (congrFun (congrFun w36 48) j).trans (zwr_ne (Or.inl (by decide)))
    have t36_33_0 := congrFun (congrFun w36 33) 0
    rw [zwr_ne (Or.inl (by decide))] at t36_33_0
    have t36_33_1 := congrFun (congrFun w36 33) 1
    rw [zwr_ne (Or.inl (by decide))] at t36_33_1
    have t36_33_2 := congrFun (congrFun w36 33) 2
    rw [zwr_ne (Or.inl (by decide))] at t36_33_2
    have t36_30_12 := congrFun (congrFun w36 30) 12
    rw [zwr_eq] at t36_30_12
    have t36_41_0 := congrFun (congrFun w36 41) 0
    rw [zwr_ne (Or.inl (by decide))] at t36_41_0
    have t36_45_0 := congrFun (congrFun w36 45) 0
    rw [zwr_ne (Or.inl (by decide))] at t36_45_0
    have t36_41_1 := congrFun (congrFun w36 41) 1
    rw [zwr_ne (Or.inl (by decide))] at t36_41_1
    have t36_45_1 := congrFun (congrFun w36 45) 1
    rw [zwr_ne (Or.inl (by decide))] at t36_45_1
    have t36_54_7 := congrFun (congrFun w36 54) 7
    rw [zwr_ne (Or.inl (by decide))] at t36_54_7
    refine zW_aload_n (pc' := 40) dX11_undo_1.1.2.2 rfl rfl ?_
    refine cvV0 (pc' := 43) kX11_rawChanged vX11_rawChanged lk_X11_124 ⟨Nat.le_of_ble_eq_true rfl, Nat.le_of_ble_eq_true rfl⟩ tb30 vq11 rfl rfl (s_X11_rawChanged hF.2.1 hF.2.2.1 hF.2.2.2) dX11_undo_1.2.1.1 (Nat.le_of_ble_eq_true rfl) rfl ?_
    rintro r40 h ⟨hF1, p40⟩; replace hF := hF.tr hF1 rfl
    have f40_34 := fun j : Nat => hF1.1 34 j rfl rfl
    have f40_35 := fun j : Nat => hF1.1 35 j rfl rfl
    have f40_37 := fun j : Nat => hF1.1 37 j rfl rfl
    have f40_38 := fun j : Nat => hF1.1 38 j rfl rfl
    have f40_42 := fun j : Nat => hF1.1 42 j rfl rfl
    have f40_43 := fun j : Nat => hF1.1 43 j rfl rfl
    have f40_44 := fun j : Nat => hF1.1 44 j rfl rfl
    have f40_46 := fun j : Nat => hF1.1 46 j rfl rfl
    have f40_47 := fun j : Nat => hF1.1 47 j rfl rfl
    have f40_48 := fun j : Nat => hF1.1 48 j rfl rfl
    have t40_33_0 := hF1.1 33 0 rfl rfl
    have t40_33_1 := hF1.1 33 1 rfl rfl
    have t40_33_2 := hF1.1 33 2 rfl rfl
    have t40_30_12 := hF1.1 30 12 rfl rfl
    have t40_41_0 := hF1.1 41 0 rfl rfl
    have t40_45_0 := hF1.1 45 0 rfl rfl
    have t40_41_1 := hF1.1 41 1 rfl rfl
    have t40_45_1 := hF1.1 45 1 rfl rfl
    refine zW_iconst (pc' := 44) dX11_undo_1.2.1.2 rfl ?_
    exact zV_zret rfl (by omega) dX11_undo_1.2.2 ⟨hF, ⟨⟨by omega, by omega, by omega, (fun j => by have q0 := a0_34 j; have q1 := a0_35 j; have q2 := a0_37 j; have q3 := a0_38 j; have q4 := a17_0 j; have q5 := f17_37 j; have q6 := f17_38 j; have q7 := f28_34 j; have q8 := f28_35 j; have q9 := f28_37 j; have q10 := f28_38 j; have q11 := a36_34 j; have q12 := a36_35 j; have q13 := a36_37 j; have q14 := a36_38 j; have q15 := f40_34 j; have q16 := f40_35 j; have q17 := f40_37 j; have q18 := f40_38 j; omega), (fun j => by have q0 := a0_42 j; have q1 := a0_43 j; have q2 := a0_46 j; have q3 := a0_47 j; have q4 := f17_42 j; have q5 := f17_43 j; have q6 := f17_46 j; have q7 := f17_47 j; have q8 := a28_0 j; have q9 := f28_46 j; have q10 := f28_47 j; have q11 := a36_42 j; have q12 := a36_43 j; have q13 := a36_46 j; have q14 := a36_47 j; have q15 := f40_42 j; have q16 := f40_43 j; have q17 := f40_46 j; have q18 := f40_47 j; omega), (fun j => by have q0 := a0_44 j; have q1 := a0_48 j; have q2 := f17_44 j; have q3 := f17_48 j; have q4 := a28_1 j; have q5 := f28_48 j; have q6 := a36_44 j; have q7 := a36_48 j; have q8 := f40_44 j; have q9 := f40_48 j; omega)⟩, (by first | exact Or.inl (by omega) | exact Or.inr hU | exact Or.inr (by rw [hk0]; exact UnC.rf))⟩⟩
  · refine zW_iconst (pc' := 8) dX11_undo_0.1.1.2.2 rfl ?_
    exact zV_zret rfl (by omega) dX11_undo_0.1.2.1.1 ⟨hF, ⟨⟨by omega, by omega, by omega, (fun j => by have q0 := a0_34 j; have q1 := a0_35 j; have q2 := a0_37 j; have q3 := a0_38 j; omega), (fun j => by have q0 := a0_42 j; have q1 := a0_43 j; have q2 := a0_46 j; have q3 := a0_47 j; omega), (fun j => by have q0 := a0_44 j; have q1 := a0_48 j; omega)⟩, (by first | exact Or.inl (by omega) | exact Or.inr hU | exact Or.inr (by rw [hk0]; exact UnC.rf))⟩⟩

abbrev q_X12_keepW (κ : Hp) : Int → Hp → Prop := fun r h' => Fm [(0, 22), (0, 16), (0, 17), (0, 18), (0, 19), (0, 20), (6, 999), (7, 999), (8, 999), (9, 999), (11, 999)] κ h' ∧ ((r = κ 0 14 ∧ h' 0 22 = 1 ∧ h' 0 16 = κ 0 11 ∧ h' 0 17 = κ 0 12 ∧ h' 0 18 = κ 0 13 ∧ h' 0 20 = κ 0 15) ∧ (∀ j : Nat, j < 256 → h' 6 j = κ 1 j ∧ h' 11 j = κ 10 j) ∧ h' 0 19 = κ 0 14 ∧ (∀ j : Nat, j < 12 → h' 7 j = κ 3 j) ∧ (∀ j : Nat, j < 13 → h' 8 j = κ 4 j) ∧ (∀ j : Nat, j < 130 → h' 9 j = κ 5 j))
set_option maxHeartbeats 4000000 in
set_option maxRecDepth 20000 in
theorem s_X12_keepW {G : Ga} {κ : Hp} (hS : SI κ) (hR : KR κ) (hC : KC κ) : zM G mX12_keep yX12_keep [.inr (.inr 0)] κ (q_X12_keepW κ) := by
  have f22 := KRk hR
  refine zM_of [some (.inr (.inr 0))] 0 rfl rfl (Nat.le_of_ble_eq_true rfl) rfl ?_
  refine zW_aload_n (pc' := 1) dX12_keep_0.1.1.1.1 rfl rfl ?_
  refine zW_iconst (pc' := 2) dX12_keep_0.1.1.1.2 rfl ?_
  refine zV_putz (pc' := 5) fp_X12_457 (by omega) tb0 rfl dX12_keep_0.1.1.2.1 rfl ?_
  have hS1 := SI_irr (k := 0) (i := 22) (v := 1) hS (Or.inl rfl) (fun _ _ => ⟨by omega, by omega⟩)
  generalize e1 : zwr κ 0 22 (1) = h1 at hS1 ⊢
  refine zW_aload_n (pc' := 6) dX12_keep_0.1.1.2.2 rfl rfl ?_
  refine zW_aload_n (pc' := 7) dX12_keep_0.1.2.1.1 rfl rfl ?_
  refine zG_int (pc' := 10) fg_X12_99 tb0 rfl dX12_keep_0.1.2.1.2 rfl ?_
  refine zV_puti (pc' := 13) fp_X12_460 tb0 rfl dX12_keep_0.1.2.2.1 rfl ?_
  have hS2 := SI_irr (k := 0) (i := 16) (v := h1 0 11) hS1 (Or.inl rfl) (fun _ _ => (hS1.2.2.2.2 _ _ (by decide) (by decide)))
  generalize e2 : zwr h1 0 16 (h1 0 11) = h2 at hS2 ⊢
  refine zW_aload_n (pc' := 14) dX12_keep_0.1.2.2.2 rfl rfl ?_
  refine zW_aload_n (pc' := 15) dX12_keep_0.2.1.1.1 rfl rfl ?_
  refine zG_int (pc' := 18) fg_X12_103 tb0 rfl dX12_keep_0.2.1.1.2 rfl ?_
  refine zV_puti (pc' := 21) fp_X12_463 tb0 rfl dX12_keep_0.2.1.2.1 rfl ?_
  have hS3 := SI_irr (k := 0) (i := 17) (v := h2 0 12) hS2 (Or.inl rfl) (fun _ _ => (hS2.2.2.2.2 _ _ (by decide) (by decide)))
  generalize e3 : zwr h2 0 17 (h2 0 12) = h3 at hS3 ⊢
  refine zW_aload_n (pc' := 22) dX12_keep_0.2.1.2.2 rfl rfl ?_
  refine zW_aload_n (pc' := 23) dX12_keep_0.2.2.1.1 rfl rfl ?_
  refine zG_int (pc' := 26) fg_X12_209 tb0 rfl dX12_keep_0.2.2.1.2 rfl ?_
  refine zV_puti (pc' := 29) fp_X12_466 tb0 rfl dX12_keep_0.2.2.2.1 rfl ?_
  have hS4 := SI_irr (k := 0) (i := 18) (v := h3 0 13) hS3 (Or.inl rfl) (fun _ _ => (hS3.2.2.2.2 _ _ (by decide) (by decide)))
  generalize e4 : zwr h3 0 18 (h3 0 13) = h4 at hS4 ⊢
  refine zW_aload_n (pc' := 30) dX12_keep_0.2.2.2.2 rfl rfl ?_
  refine zW_aload_n (pc' := 31) dX12_keep_1.1.1.1.1 rfl rfl ?_
  refine zG_int (pc' := 34) fg_X12_185 tb0 rfl dX12_keep_1.1.1.1.2 rfl ?_
  refine zV_puti (pc' := 37) fp_X12_469 tb0 rfl dX12_keep_1.1.1.2.1 rfl ?_
  have hS5 := SI_irr (k := 0) (i := 19) (v := h4 0 14) hS4 (Or.inl rfl) (fun _ _ => (hS4.2.2.2.2 _ _ (by decide) (by decide)))
  generalize e5 : zwr h4 0 19 (h4 0 14) = h5 at hS5 ⊢
  refine zW_aload_n (pc' := 38) dX12_keep_1.1.1.2.2 rfl rfl ?_
  refine zW_aload_n (pc' := 39) dX12_keep_1.1.2.1.1 rfl rfl ?_
  refine zG_int (pc' := 42) fg_X12_106 tb0 rfl dX12_keep_1.1.2.1.2 rfl ?_
  refine zV_puti (pc' := 45) fp_X12_472 tb0 rfl dX12_keep_1.1.2.2.1 rfl ?_
  have hS6 := SI_irr (k := 0) (i := 20) (v := h5 0 15) hS5 (Or.inl rfl) (fun _ _ => (hS5.2.2.2.2 _ _ (by decide) (by decide)))
  generalize e6 : zwr h5 0 20 (h5 0 15) = h6 at hS6 ⊢
  refine zW_aload_n (pc' := 46) dX12_keep_1.1.2.2.2 rfl rfl ?_
  refine zG_ref (pc' := 49) 1 fg_X12_7 tb0 rfl dX12_keep_1.2.1.1.1 rfl ?_
  refine zW_aload_n (pc' := 50) dX12_keep_1.2.1.1.2 rfl rfl ?_
  refine zG_ref (pc' := 53) 6 fg_X12_25 tb0 rfl dX12_keep_1.2.1.2.1 rfl ?_
  refine csV2 (pc' := 56) kX12_copies vX12_copies lk_X12_188 ⟨Nat.le_of_ble_eq_true rfl, Nat.le_of_ble_eq_true rfl⟩ rfl (s_X12_copies tb1 tb6 (by decide) (by decide)) dX12_keep_1.2.1.2.2 (Nat.le_of_ble_eq_true rfl) rfl ?_
  rintro _ h7 e7; replace e7 := e7.symm
  have hS7 : SI h7 := by rw [← e7]; exact SI_cpy hS6 rfl (by decide)
  refine zW_aload_n (pc' := 57) dX12_keep_1.2.2.1.1 rfl rfl ?_
  refine zG_ref (pc' := 60) 10 fg_X12_37 tb0 rfl dX12_keep_1.2.2.1.2 rfl ?_
  refine zW_aload_n (pc' := 61) dX12_keep_1.2.2.2.1 rfl rfl ?_
  refine zG_ref (pc' := 64) 11 fg_X12_41 tb0 rfl dX12_keep_1.2.2.2.2 rfl ?_
  have hb : ∀ i, h7 10 i = 0 ∨ h7 10 i = 1 := fun i => by have q := KRd hR i; rw [← e7, cpy_ne (by decide), ← e6, zwr_ne (Or.inl (by decide)), ← e5, zwr_ne (Or.inl (by decide)), ← e4, zwr_ne (Or.inl (by decide)), ← e3, zwr_ne (Or.inl (by decide)), ← e2, zwr_ne (Or.inl (by decide)), ← e1, zwr_ne (Or.inl (by decide))]; omega
  refine csV2 (pc' := 67) kX12_copiesMarks vX12_copiesMarks lk_X12_475 ⟨Nat.le_of_ble_eq_true rfl, Nat.le_of_ble_eq_true rfl⟩ rfl (s_X12_copiesMarks tb10 tb11 (by decide) (by decide) hb) dX12_keep_2.1.1.1.1 (Nat.le_of_ble_eq_true rfl) rfl ?_
  rintro _ h8 e8; replace e8 := e8.symm
  have hS8 : SI h8 := by rw [← e8]; exact SI_cpy hS7 rfl (by decide)
  refine zW_aload_n (pc' := 68) dX12_keep_2.1.1.1.2 rfl rfl ?_
  refine zG_ref (pc' := 71) 3 fg_X12_16 tb0 rfl dX12_keep_2.1.1.2.1 rfl ?_
  refine zW_aload_n (pc' := 72) dX12_keep_2.1.1.2.2 rfl rfl ?_
  refine zG_ref (pc' := 75) 7 fg_X12_28 tb0 rfl dX12_keep_2.1.2.1.1 rfl ?_
  refine csV2 (pc' := 78) kX12_copies vX12_copies lk_X12_188 ⟨Nat.le_of_ble_eq_true rfl, Nat.le_of_ble_eq_true rfl⟩ rfl (s_X12_copies tb3 tb7 (by decide) (by decide)) dX12_keep_2.1.2.1.2 (Nat.le_of_ble_eq_true rfl) rfl ?_
  rintro _ h9 e9; replace e9 := e9.symm
  have hS9 : SI h9 := by rw [← e9]; exact SI_cpy hS8 rfl (by decide)
  refine zW_aload_n (pc' := 79) dX12_keep_2.1.2.2.1 rfl rfl ?_
  refine zG_ref (pc' := 82) 4 fg_X12_19 tb0 rfl dX12_keep_2.1.2.2.2 rfl ?_
  refine zW_aload_n (pc' := 83) dX12_keep_2.2.1.1.1 rfl rfl ?_
  refine zG_ref (pc' := 86) 8 fg_X12_31 tb0 rfl dX12_keep_2.2.1.1.2 rfl ?_
  refine csV2 (pc' := 89) kX12_copies vX12_copies lk_X12_188 ⟨Nat.le_of_ble_eq_true rfl, Nat.le_of_ble_eq_true rfl⟩ rfl (s_X12_copies tb4 tb8 (by decide) (by decide)) dX12_keep_2.2.1.2.1 (Nat.le_of_ble_eq_true rfl) rfl ?_
  rintro _ h10 e10; replace e10 := e10.symm
  have hS10 : SI h10 := by rw [← e10]; exact SI_cpy hS9 rfl (by decide)
  refine zW_aload_n (pc' := 90) dX12_keep_2.2.1.2.2 rfl rfl ?_
  refine zG_ref (pc' := 93) 5 fg_X12_22 tb0 rfl dX12_keep_2.2.2.1.1 rfl ?_
  refine zW_aload_n (pc' := 94) dX12_keep_2.2.2.1.2 rfl rfl ?_
  refine zG_ref (pc' := 97) 9 fg_X12_34 tb0 rfl dX12_keep_2.2.2.2.1 rfl ?_
  refine csV2 (pc' := 100) kX12_copies vX12_copies lk_X12_188 ⟨Nat.le_of_ble_eq_true rfl, Nat.le_of_ble_eq_true rfl⟩ rfl (s_X12_copies tb5 tb9 (by decide) (by decide)) dX12_keep_2.2.2.2.2 (Nat.le_of_ble_eq_true rfl) rfl ?_
  rintro _ h11 e11; replace e11 := e11.symm
  have hS11 : SI h11 := by rw [← e11]; exact SI_cpy hS10 rfl (by decide)
  refine zW_aload_n (pc' := 101) dX12_keep_3.1.1 rfl rfl ?_
  refine zG_int (pc' := 104) fg_X12_185 tb0 rfl dX12_keep_3.1.2 rfl ?_
  have fr : ∀ k i, inW [(0, 22), (0, 16), (0, 17), (0, 18), (0, 19), (0, 20), (6, 999), (7, 999), (8, 999), (9, 999), (11, 999)] k i = false → h11 k i = κ k i := fun k i hl => by rw [← e11, cpy_ne (inW_nc (L := [(0, 22), (0, 16), (0, 17), (0, 18), (0, 19), (0, 20), (6, 999), (7, 999), (8, 999), (9, 999), (11, 999)]) (c := 9) rfl hl), ← e10, cpy_ne (inW_nc (L := [(0, 22), (0, 16), (0, 17), (0, 18), (0, 19), (0, 20), (6, 999), (7, 999), (8, 999), (9, 999), (11, 999)]) (c := 8) rfl hl), ← e9, cpy_ne (inW_nc (L := [(0, 22), (0, 16), (0, 17), (0, 18), (0, 19), (0, 20), (6, 999), (7, 999), (8, 999), (9, 999), (11, 999)]) (c := 7) rfl hl), ← e8, cpy_ne (inW_nc (L := [(0, 22), (0, 16), (0, 17), (0, 18), (0, 19), (0, 20), (6, 999), (7, 999), (8, 999), (9, 999), (11, 999)]) (c := 11) rfl hl), ← e7, cpy_ne (inW_nc (L := [(0, 22), (0, 16), (0, 17), (0, 18), (0, 19), (0, 20), (6, 999), (7, 999), (8, 999), (9, 999), (11, 999)]) (c := 6) rfl hl), ← e6, zwr_ne (inW_ne (L := [(0, 22), (0, 16), (0, 17), (0, 18), (0, 19), (0, 20), (6, 999), (7, 999), (8, 999), (9, 999), (11, 999)]) (k := 0) (i := 20) rfl hl), ← e5, zwr_ne (inW_ne (L := [(0, 22), (0, 16), (0, 17), (0, 18), (0, 19), (0, 20), (6, 999), (7, 999), (8, 999), (9, 999), (11, 999)]) (k := 0) (i := 19) rfl hl), ← e4, zwr_ne (inW_ne (L := [(0, 22), (0, 16), (0, 17), (0, 18), (0, 19), (0, 20), (6, 999), (7, 999), (8, 999), (9, 999), (11, 999)]) (k := 0) (i := 18) rfl hl), ← e3, zwr_ne (inW_ne (L := [(0, 22), (0, 16), (0, 17), (0, 18), (0, 19), (0, 20), (6, 999), (7, 999), (8, 999), (9, 999), (11, 999)]) (k := 0) (i := 17) rfl hl), ← e2, zwr_ne (inW_ne (L := [(0, 22), (0, 16), (0, 17), (0, 18), (0, 19), (0, 20), (6, 999), (7, 999), (8, 999), (9, 999), (11, 999)]) (k := 0) (i := 16) rfl hl), ← e1, zwr_ne (inW_ne (L := [(0, 22), (0, 16), (0, 17), (0, 18), (0, 19), (0, 20), (6, 999), (7, 999), (8, 999), (9, 999), (11, 999)]) (k := 0) (i := 22) rfl hl)]
  have hCf : KC h11 := KC_low hC (fun k i hk => fr k i (by unfold inW; simp [List.any_cons]; omega))
  have g11 : h11 0 11 = κ 0 11 := by rw [← e11, cpy_ne (by decide), ← e10, cpy_ne (by decide), ← e9, cpy_ne (by decide), ← e8, cpy_ne (by decide), ← e7, cpy_ne (by decide), ← e6, zwr_ne (Or.inr (by decide)), ← e5, zwr_ne (Or.inr (by decide)), ← e4, zwr_ne (Or.inr (by decide)), ← e3, zwr_ne (Or.inr (by decide)), ← e2, zwr_ne (Or.inr (by decide)), ← e1, zwr_ne (Or.inr (by decide))]
  have g12 : h11 0 12 = κ 0 12 := by rw [← e11, cpy_ne (by decide), ← e10, cpy_ne (by decide), ← e9, cpy_ne (by decide), ← e8, cpy_ne (by decide), ← e7, cpy_ne (by decide), ← e6, zwr_ne (Or.inr (by decide)), ← e5, zwr_ne (Or.inr (by decide)), ← e4, zwr_ne (Or.inr (by decide)), ← e3, zwr_ne (Or.inr (by decide)), ← e2, zwr_ne (Or.inr (by decide)), ← e1, zwr_ne (Or.inr (by decide))]
  have g13 : h11 0 13 = κ 0 13 := by rw [← e11, cpy_ne (by decide), ← e10, cpy_ne (by decide), ← e9, cpy_ne (by decide), ← e8, cpy_ne (by decide), ← e7, cpy_ne (by decide), ← e6, zwr_ne (Or.inr (by decide)), ← e5, zwr_ne (Or.inr (by decide)), ← e4, zwr_ne (Or.inr (by decide)), ← e3, zwr_ne (Or.inr (by decide)), ← e2, zwr_ne (Or.inr (by decide)), ← e1, zwr_ne (Or.inr (by decide))]
  have g14 : h11 0 14 = κ 0 14 := by rw [← e11, cpy_ne (by decide), ← e10, cpy_ne (by decide), ← e9, cpy_ne (by decide), ← e8, cpy_ne (by decide), ← e7, cpy_ne (by decide), ← e6, zwr_ne (Or.inr (by decide)), ← e5, zwr_ne (Or.inr (by decide)), ← e4, zwr_ne (Or.inr (by decide)), ← e3, zwr_ne (Or.inr (by decide)), ← e2, zwr_ne (Or.inr (by decide)), ← e1, zwr_ne (Or.inr (by decide))]
  have g15 : h11 0 15 = κ 0 15 := by rw [← e11, cpy_ne (by decide), ← e10, cpy_ne (by decide), ← e9, cpy_ne (by decide), ← e8, cpy_ne (by decide), ← e7, cpy_ne (by decide), ← e6, zwr_ne (Or.inr (by decide)), ← e5, zwr_ne (Or.inr (by decide)), ← e4, zwr_ne (Or.inr (by decide)), ← e3, zwr_ne (Or.inr (by decide)), ← e2, zwr_ne (Or.inr (by decide)), ← e1, zwr_ne (Or.inr (by decide))]
  have g16 : h11 0 16 = κ 0 11 := by rw [← e11, cpy_ne (by decide), ← e10, cpy_ne (by decide), ← e9, cpy_ne (by decide), ← e8, cpy_ne (by decide), ← e7, cpy_ne (by decide), ← e6, zwr_ne (Or.inr (by decide)), ← e5, zwr_ne (Or.inr (by decide)), ← e4, zwr_ne (Or.inr (by decide)), ← e3, zwr_ne (Or.inr (by decide)), ← e2, zwr_eq, ← e1, zwr_ne (Or.inr (by decide))]
  have g17 : h11 0 17 = κ 0 12 := by rw [← e11, cpy_ne (by decide), ← e10, cpy_ne (by decide), ← e9, cpy_ne (by decide), ← e8, cpy_ne (by decide), ← e7, cpy_ne (by decide), ← e6, zwr_ne (Or.inr (by decide)), ← e5, zwr_ne (Or.inr (by decide)), ← e4, zwr_ne (Or.inr (by decide)), ← e3, zwr_eq, ← e2, zwr_ne (Or.inr (by decide)), ← e1, zwr_ne (Or.inr (by decide))]
  have g18 : h11 0 18 = κ 0 13 := by rw [← e11, cpy_ne (by decide), ← e10, cpy_ne (by decide), ← e9, cpy_ne (by decide), ← e8, cpy_ne (by decide), ← e7, cpy_ne (by decide), ← e6, zwr_ne (Or.inr (by decide)), ← e5, zwr_ne (Or.inr (by decide)), ← e4, zwr_eq, ← e3, zwr_ne (Or.inr (by decide)), ← e2, zwr_ne (Or.inr (by decide)), ← e1, zwr_ne (Or.inr (by decide))]
  have g19 : h11 0 19 = κ 0 14 := by rw [← e11, cpy_ne (by decide), ← e10, cpy_ne (by decide), ← e9, cpy_ne (by decide), ← e8, cpy_ne (by decide), ← e7, cpy_ne (by decide), ← e6, zwr_ne (Or.inr (by decide)), ← e5, zwr_eq, ← e4, zwr_ne (Or.inr (by decide)), ← e3, zwr_ne (Or.inr (by decide)), ← e2, zwr_ne (Or.inr (by decide)), ← e1, zwr_ne (Or.inr (by decide))]
  have g20 : h11 0 20 = κ 0 15 := by rw [← e11, cpy_ne (by decide), ← e10, cpy_ne (by decide), ← e9, cpy_ne (by decide), ← e8, cpy_ne (by decide), ← e7, cpy_ne (by decide), ← e6, zwr_eq, ← e5, zwr_ne (Or.inr (by decide)), ← e4, zwr_ne (Or.inr (by decide)), ← e3, zwr_ne (Or.inr (by decide)), ← e2, zwr_ne (Or.inr (by decide)), ← e1, zwr_ne (Or.inr (by decide))]
  have g21 : h11 0 21 = κ 0 21 := by rw [← e11, cpy_ne (by decide), ← e10, cpy_ne (by decide), ← e9, cpy_ne (by decide), ← e8, cpy_ne (by decide), ← e7, cpy_ne (by decide), ← e6, zwr_ne (Or.inr (by decide)), ← e5, zwr_ne (Or.inr (by decide)), ← e4, zwr_ne (Or.inr (by decide)), ← e3, zwr_ne (Or.inr (by decide)), ← e2, zwr_ne (Or.inr (by decide)), ← e1, zwr_ne (Or.inr (by decide))]
  have g22 : h11 0 22 = 1 := by rw [← e11, cpy_ne (by decide), ← e10, cpy_ne (by decide), ← e9, cpy_ne (by decide), ← e8, cpy_ne (by decide), ← e7, cpy_ne (by decide), ← e6, zwr_ne (Or.inr (by decide)), ← e5, zwr_ne (Or.inr (by decide)), ← e4, zwr_ne (Or.inr (by decide)), ← e3, zwr_ne (Or.inr (by decide)), ← e2, zwr_ne (Or.inr (by decide)), ← e1, zwr_eq]
  have g25 : h11 0 25 = κ 0 25 := by rw [← e11, cpy_ne (by decide), ← e10, cpy_ne (by decide), ← e9, cpy_ne (by decide), ← e8, cpy_ne (by decide), ← e7, cpy_ne (by decide), ← e6, zwr_ne (Or.inr (by decide)), ← e5, zwr_ne (Or.inr (by decide)), ← e4, zwr_ne (Or.inr (by decide)), ← e3, zwr_ne (Or.inr (by decide)), ← e2, zwr_ne (Or.inr (by decide)), ← e1, zwr_ne (Or.inr (by decide))]
  have c3 : h11 3 = κ 3 := funext fun j => by rw [← e11, cpy_ne (by decide), ← e10, cpy_ne (by decide), ← e9, cpy_ne (by decide), ← e8, cpy_ne (by decide), ← e7, cpy_ne (by decide), ← e6, zwr_ne (Or.inl (by decide)), ← e5, zwr_ne (Or.inl (by decide)), ← e4, zwr_ne (Or.inl (by decide)), ← e3, zwr_ne (Or.inl (by decide)), ← e2, zwr_ne (Or.inl (by decide)), ← e1, zwr_ne (Or.inl (by decide))]
  have c4 : h11 4 = κ 4 := funext fun j => by rw [← e11, cpy_ne (by decide), ← e10, cpy_ne (by decide), ← e9, cpy_ne (by decide), ← e8, cpy_ne (by decide), ← e7, cpy_ne (by decide), ← e6, zwr_ne (Or.inl (by decide)), ← e5, zwr_ne (Or.inl (by decide)), ← e4, zwr_ne (Or.inl (by decide)), ← e3, zwr_ne (Or.inl (by decide)), ← e2, zwr_ne (Or.inl (by decide)), ← e1, zwr_ne (Or.inl (by decide))]
  have c5 : h11 5 = κ 5 := funext fun j => by rw [← e11, cpy_ne (by decide), ← e10, cpy_ne (by decide), ← e9, cpy_ne (by decide), ← e8, cpy_ne (by decide), ← e7, cpy_ne (by decide), ← e6, zwr_ne (Or.inl (by decide)), ← e5, zwr_ne (Or.inl (by decide)), ← e4, zwr_ne (Or.inl (by decide)), ← e3, zwr_ne (Or.inl (by decide)), ← e2, zwr_ne (Or.inl (by decide)), ← e1, zwr_ne (Or.inl (by decide))]
  have c7 : ∀ j, j < 12 → h11 7 j = κ 3 j := fun j hj => by rw [← e11, cpy_ne (by decide), ← e10, cpy_ne (by decide), ← e9, cpy_in hj, ← e8, cpy_ne (by decide), ← e7, cpy_ne (by decide), ← e6, zwr_ne (Or.inl (by decide)), ← e5, zwr_ne (Or.inl (by decide)), ← e4, zwr_ne (Or.inl (by decide)), ← e3, zwr_ne (Or.inl (by decide)), ← e2, zwr_ne (Or.inl (by decide)), ← e1, zwr_ne (Or.inl (by decide))]
  have o7 : ∀ j, 12 ≤ j → h11 7 j = κ 7 j := fun j hj => by rw [← e11, cpy_ne (by decide), ← e10, cpy_ne (by decide), ← e9, cpy_out hj, ← e8, cpy_ne (by decide), ← e7, cpy_ne (by decide), ← e6, zwr_ne (Or.inl (by decide)), ← e5, zwr_ne (Or.inl (by decide)), ← e4, zwr_ne (Or.inl (by decide)), ← e3, zwr_ne (Or.inl (by decide)), ← e2, zwr_ne (Or.inl (by decide)), ← e1, zwr_ne (Or.inl (by decide))]
  have c8 : ∀ j, j < 13 → h11 8 j = κ 4 j := fun j hj => by rw [← e11, cpy_ne (by decide), ← e10, cpy_in hj, ← e9, cpy_ne (by decide), ← e8, cpy_ne (by decide), ← e7, cpy_ne (by decide), ← e6, zwr_ne (Or.inl (by decide)), ← e5, zwr_ne (Or.inl (by decide)), ← e4, zwr_ne (Or.inl (by decide)), ← e3, zwr_ne (Or.inl (by decide)), ← e2, zwr_ne (Or.inl (by decide)), ← e1, zwr_ne (Or.inl (by decide))]
  have o8 : ∀ j, 13 ≤ j → h11 8 j = κ 8 j := fun j hj => by rw [← e11, cpy_ne (by decide), ← e10, cpy_out hj, ← e9, cpy_ne (by decide), ← e8, cpy_ne (by decide), ← e7, cpy_ne (by decide), ← e6, zwr_ne (Or.inl (by decide)), ← e5, zwr_ne (Or.inl (by decide)), ← e4, zwr_ne (Or.inl (by decide)), ← e3, zwr_ne (Or.inl (by decide)), ← e2, zwr_ne (Or.inl (by decide)), ← e1, zwr_ne (Or.inl (by decide))]
  have c9 : ∀ j, j < 130 → h11 9 j = κ 5 j := fun j hj => by rw [← e11, cpy_in hj, ← e10, cpy_ne (by decide), ← e9, cpy_ne (by decide), ← e8, cpy_ne (by decide), ← e7, cpy_ne (by decide), ← e6, zwr_ne (Or.inl (by decide)), ← e5, zwr_ne (Or.inl (by decide)), ← e4, zwr_ne (Or.inl (by decide)), ← e3, zwr_ne (Or.inl (by decide)), ← e2, zwr_ne (Or.inl (by decide)), ← e1, zwr_ne (Or.inl (by decide))]
  have o9 : ∀ j, 130 ≤ j → h11 9 j = κ 9 j := fun j hj => by rw [← e11, cpy_out hj, ← e10, cpy_ne (by decide), ← e9, cpy_ne (by decide), ← e8, cpy_ne (by decide), ← e7, cpy_ne (by decide), ← e6, zwr_ne (Or.inl (by decide)), ← e5, zwr_ne (Or.inl (by decide)), ← e4, zwr_ne (Or.inl (by decide)), ← e3, zwr_ne (Or.inl (by decide)), ← e2, zwr_ne (Or.inl (by decide)), ← e1, zwr_ne (Or.inl (by decide))]
  have c10 : h11 10 = κ 10 := funext fun j => by rw [← e11, cpy_ne (by decide), ← e10, cpy_ne (by decide), ← e9, cpy_ne (by decide), ← e8, cpy_ne (by decide), ← e7, cpy_ne (by decide), ← e6, zwr_ne (Or.inl (by decide)), ← e5, zwr_ne (Or.inl (by decide)), ← e4, zwr_ne (Or.inl (by decide)), ← e3, zwr_ne (Or.inl (by decide)), ← e2, zwr_ne (Or.inl (by decide)), ← e1, zwr_ne (Or.inl (by decide))]
  have c11 : ∀ j, j < 256 → h11 11 j = κ 10 j := fun j hj => by rw [← e11, cpy_ne (by decide), ← e10, cpy_ne (by decide), ← e9, cpy_ne (by decide), ← e8, cpy_in hj, ← e7, cpy_ne (by decide), ← e6, zwr_ne (Or.inl (by decide)), ← e5, zwr_ne (Or.inl (by decide)), ← e4, zwr_ne (Or.inl (by decide)), ← e3, zwr_ne (Or.inl (by decide)), ← e2, zwr_ne (Or.inl (by decide)), ← e1, zwr_ne (Or.inl (by decide))]
  have o11 : ∀ j, 256 ≤ j → h11 11 j = κ 11 j := fun j hj => by rw [← e11, cpy_ne (by decide), ← e10, cpy_ne (by decide), ← e9, cpy_ne (by decide), ← e8, cpy_out hj, ← e7, cpy_ne (by decide), ← e6, zwr_ne (Or.inl (by decide)), ← e5, zwr_ne (Or.inl (by decide)), ← e4, zwr_ne (Or.inl (by decide)), ← e3, zwr_ne (Or.inl (by decide)), ← e2, zwr_ne (Or.inl (by decide)), ← e1, zwr_ne (Or.inl (by decide))]
  have c14 : h11 14 = κ 14 := funext fun j => by rw [← e11, cpy_ne (by decide), ← e10, cpy_ne (by decide), ← e9, cpy_ne (by decide), ← e8, cpy_ne (by decide), ← e7, cpy_ne (by decide), ← e6, zwr_ne (Or.inl (by decide)), ← e5, zwr_ne (Or.inl (by decide)), ← e4, zwr_ne (Or.inl (by decide)), ← e3, zwr_ne (Or.inl (by decide)), ← e2, zwr_ne (Or.inl (by decide)), ← e1, zwr_ne (Or.inl (by decide))]
  have c15 : h11 15 = κ 15 := funext fun j => by rw [← e11, cpy_ne (by decide), ← e10, cpy_ne (by decide), ← e9, cpy_ne (by decide), ← e8, cpy_ne (by decide), ← e7, cpy_ne (by decide), ← e6, zwr_ne (Or.inl (by decide)), ← e5, zwr_ne (Or.inl (by decide)), ← e4, zwr_ne (Or.inl (by decide)), ← e3, zwr_ne (Or.inl (by decide)), ← e2, zwr_ne (Or.inl (by decide)), ← e1, zwr_ne (Or.inl (by decide))]
  have c6 : ∀ j, j < 256 → h11 6 j = κ 1 j := fun j hj => by rw [← e11, cpy_ne (by decide), ← e10, cpy_ne (by decide), ← e9, cpy_ne (by decide), ← e8, cpy_ne (by decide), ← e7, cpy_in hj, ← e6, zwr_ne (Or.inl (by decide)), ← e5, zwr_ne (Or.inl (by decide)), ← e4, zwr_ne (Or.inl (by decide)), ← e3, zwr_ne (Or.inl (by decide)), ← e2, zwr_ne (Or.inl (by decide)), ← e1, zwr_ne (Or.inl (by decide))]
  have o6 : ∀ j, 256 ≤ j → h11 6 j = κ 6 j := fun j hj => by rw [← e11, cpy_ne (by decide), ← e10, cpy_ne (by decide), ← e9, cpy_ne (by decide), ← e8, cpy_ne (by decide), ← e7, cpy_out hj, ← e6, zwr_ne (Or.inl (by decide)), ← e5, zwr_ne (Or.inl (by decide)), ← e4, zwr_ne (Or.inl (by decide)), ← e3, zwr_ne (Or.inl (by decide)), ← e2, zwr_ne (Or.inl (by decide)), ← e1, zwr_ne (Or.inl (by decide))]
  obtain ⟨a0, a1, a2, a3, a4, a5, a6, a7, a8, a9, a10, a11, a12, a13, a14, a15, a16, a17⟩ := hR
  have hRf : KR h11 := by
    unfold KR
    rw [g11, g12, g13, g14, g15, g16, g17, g18, g19, g20, g21, g22, g25, c3, c4, c5, c10, c14, c15]
    refine ⟨a0, a1, a2, a3, a4, a5, a6, a7, a8, ⟨by omega, by omega⟩, fun _ => ⟨a0, a1, a2, a3, a4, (bd2 c8 o8 a6 a16), ?_, (bd2 c9 o9 a11 a17)⟩, a11, a12, (bd2 c11 o11 a12 a13), a14, a15, (bd2 c8 o8 a6 a16), (bd2 c9 o9 a11 a17)⟩
    exact a7.cong3 a3.2 c7 c8 c9
  have hFf : Fm [(0, 22), (0, 16), (0, 17), (0, 18), (0, 19), (0, 20), (6, 999), (7, 999), (8, 999), (9, 999), (11, 999)] κ h11 := ⟨fun k i _ hl => fr k i hl, hS11, hRf, hCf⟩
  exact zV_iret rfl dX12_keep_3.2 ⟨hFf, ⟨⟨by omega, g22, g16, g17, g18, g20⟩, fun j hj => ⟨c6 j hj, c11 j hj⟩, g19, c7, c8, c9⟩⟩

abbrev q_X12_undoW (κ : Hp) : Int → Hp → Prop := fun r h' => Fm [(0, 11), (0, 12), (0, 13), (0, 14), (0, 15), (1, 999), (3, 999), (4, 999), (5, 999), (10, 999), (0, 21), (0, 23)] κ h' ∧ (((((κ 0 22 = 0 ∧ r = 0 ∧ h' 0 11 = κ 0 11 ∧ h' 0 12 = κ 0 12 ∧ h' 0 13 = κ 0 13 ∧ h' 0 15 = κ 0 15) ∨ (κ 0 22 = 1 ∧ r = 1 ∧ h' 0 11 = κ 0 16 ∧ h' 0 12 = κ 0 17 ∧ h' 0 13 = κ 0 18 ∧ h' 0 15 = κ 0 20)) ∧ ChR κ h')) ∧ (∀ j : Nat, (r = 1 → j < 256 → h' 1 j = κ 6 j ∧ h' 10 j = κ 11 j) ∧ (r = 0 → h' 1 j = κ 1 j ∧ h' 10 j = κ 10 j)) ∧ ((r = 0 → h' 0 14 = κ 0 14) ∧ (r = 1 → h' 0 14 = κ 0 19)) ∧ (∀ j : Nat, (r = 1 → j < 12 → h' 3 j = κ 7 j) ∧ (r = 0 → h' 3 j = κ 3 j)) ∧ (∀ j : Nat, (r = 1 → j < 13 → h' 4 j = κ 8 j) ∧ (r = 0 → h' 4 j = κ 4 j)) ∧ (∀ j : Nat, (r = 1 → j < 130 → h' 5 j = κ 9 j) ∧ (r = 0 → h' 5 j = κ 5 j)))
set_option maxHeartbeats 4000000 in
set_option maxRecDepth 20000 in
theorem s_X12_undoW {G : Ga} {κ : Hp} (hS : SI κ) (hR : KR κ) (hC : KC κ) : zM G mX12_undo yX12_undo [.inr (.inr 0)] κ (q_X12_undoW κ) := by
  have f22 := KRk hR
  refine zM_of [some (.inr (.inr 0))] 0 rfl rfl (Nat.le_of_ble_eq_true rfl) rfl ?_
  refine zW_aload_n (pc' := 1) dX12_undo_0.1.1.1.1 rfl rfl ?_
  refine zG_int (pc' := 4) fg_X12_457 tb0 rfl dX12_undo_0.1.1.1.2 rfl ?_
  refine zV_if_ne (tgt := 9) (pc' := 7) dX12_undo_0.1.1.2.1 rfl rfl ⟨by omega, by omega⟩ (fun c => ?_) (fun c => ?_)
  rotate_left
  · refine zW_iconst (pc' := 8) dX12_undo_0.1.1.2.2 rfl ?_
    exact zV_zret rfl (by omega) dX12_undo_0.1.2.1.1 ⟨Fm.rf hS hR hC, ⟨⟨Or.inl ⟨by omega, rfl, rfl, rfl, rfl, rfl⟩, Or.inr UnR.rf⟩, fun j => ⟨fun q => by omega, fun _ => ⟨rfl, rfl⟩⟩, ⟨fun _ => rfl, fun q => by omega⟩, fun j => ⟨fun q => by omega, fun _ => rfl⟩, fun j => ⟨fun q => by omega, fun _ => rfl⟩, fun j => ⟨fun q => by omega, fun _ => rfl⟩⟩⟩
  have hk1 : κ 0 22 = 1 := by omega
  obtain ⟨a0, a1, a2, a3, a4, a5, a6, a7, a8, a9, a10, a11, a12, a13, a14, a15, a16, a17⟩ := hR
  have hR : KR κ := ⟨a0, a1, a2, a3, a4, a5, a6, a7, a8, a9, a10, a11, a12, a13, a14, a15, a16, a17⟩
  obtain ⟨k1, k2, k3, k4, k5, k6, k7, k8⟩ := a10 hk1
  refine zW_aload_n (pc' := 10) dX12_undo_0.1.2.1.2 rfl rfl ?_
  refine zW_aload_n (pc' := 11) dX12_undo_0.1.2.2.1 rfl rfl ?_
  refine zG_int (pc' := 14) fg_X12_460 tb0 rfl dX12_undo_0.1.2.2.2 rfl ?_
  refine zV_puti (pc' := 17) fp_X12_99 tb0 rfl dX12_undo_0.2.1.1.1 rfl ?_
  have hS1 := SI_irr (k := 0) (i := 11) (v := κ 0 16) hS (Or.inl rfl) (fun _ _ => (hS.2.2.2.2 _ _ (by decide) (by decide)))
  generalize e1 : zwr κ 0 11 (κ 0 16) = h1 at hS1 ⊢
  refine zW_aload_n (pc' := 18) dX12_undo_0.2.1.1.2 rfl rfl ?_
  refine zW_aload_n (pc' := 19) dX12_undo_0.2.1.2.1 rfl rfl ?_
  refine zG_int (pc' := 22) fg_X12_463 tb0 rfl dX12_undo_0.2.1.2.2 rfl ?_
  refine zV_puti (pc' := 25) fp_X12_103 tb0 rfl dX12_undo_0.2.2.1.1 rfl ?_
  have hS2 := SI_irr (k := 0) (i := 12) (v := h1 0 17) hS1 (Or.inl rfl) (fun _ _ => (hS1.2.2.2.2 _ _ (by decide) (by decide)))
  generalize e2 : zwr h1 0 12 (h1 0 17) = h2 at hS2 ⊢
  refine zW_aload_n (pc' := 26) dX12_undo_0.2.2.1.2 rfl rfl ?_
  refine zW_aload_n (pc' := 27) dX12_undo_0.2.2.2.1 rfl rfl ?_
  refine zG_int (pc' := 30) fg_X12_466 tb0 rfl dX12_undo_0.2.2.2.2 rfl ?_
  refine zV_puti (pc' := 33) fp_X12_209 tb0 rfl dX12_undo_1.1.1.1.1 rfl ?_
  have hS3 := SI_irr (k := 0) (i := 13) (v := h2 0 18) hS2 (Or.inl rfl) (fun _ _ => (hS2.2.2.2.2 _ _ (by decide) (by decide)))
  generalize e3 : zwr h2 0 13 (h2 0 18) = h3 at hS3 ⊢
  refine zW_aload_n (pc' := 34) dX12_undo_1.1.1.1.2 rfl rfl ?_
  refine zW_aload_n (pc' := 35) dX12_undo_1.1.1.2.1 rfl rfl ?_
  refine zG_int (pc' := 38) fg_X12_469 tb0 rfl dX12_undo_1.1.1.2.2 rfl ?_
  refine zV_puti (pc' := 41) fp_X12_185 tb0 rfl dX12_undo_1.1.2.1.1 rfl ?_
  have hS4 := SI_irr (k := 0) (i := 14) (v := h3 0 19) hS3 (Or.inl rfl) (fun _ _ => (hS3.2.2.2.2 _ _ (by decide) (by decide)))
  generalize e4 : zwr h3 0 14 (h3 0 19) = h4 at hS4 ⊢
  refine zW_aload_n (pc' := 42) dX12_undo_1.1.2.1.2 rfl rfl ?_
  refine zW_aload_n (pc' := 43) dX12_undo_1.1.2.2.1 rfl rfl ?_
  refine zG_int (pc' := 46) fg_X12_472 tb0 rfl dX12_undo_1.1.2.2.2 rfl ?_
  refine zV_puti (pc' := 49) fp_X12_106 tb0 rfl dX12_undo_1.2.1.1.1 rfl ?_
  have hS5 := SI_irr (k := 0) (i := 15) (v := h4 0 20) hS4 (Or.inl rfl) (fun _ _ => (hS4.2.2.2.2 _ _ (by decide) (by decide)))
  generalize e5 : zwr h4 0 15 (h4 0 20) = h5 at hS5 ⊢
  refine zW_aload_n (pc' := 50) dX12_undo_1.2.1.1.2 rfl rfl ?_
  refine zG_ref (pc' := 53) 6 fg_X12_25 tb0 rfl dX12_undo_1.2.1.2.1 rfl ?_
  refine zW_aload_n (pc' := 54) dX12_undo_1.2.1.2.2 rfl rfl ?_
  refine zG_ref (pc' := 57) 1 fg_X12_7 tb0 rfl dX12_undo_1.2.2.1.1 rfl ?_
  refine csV2 (pc' := 60) kX12_copies vX12_copies lk_X12_188 ⟨Nat.le_of_ble_eq_true rfl, Nat.le_of_ble_eq_true rfl⟩ rfl (s_X12_copies tb6 tb1 (by decide) (by decide)) dX12_undo_1.2.2.1.2 (Nat.le_of_ble_eq_true rfl) rfl ?_
  rintro _ h6 e6; replace e6 := e6.symm
  have hS6 : SI h6 := by rw [← e6]; exact SI_cpy hS5 rfl (by decide)
  refine zW_aload_n (pc' := 61) dX12_undo_1.2.2.2.1 rfl rfl ?_
  refine zG_ref (pc' := 64) 11 fg_X12_41 tb0 rfl dX12_undo_1.2.2.2.2 rfl ?_
  refine zW_aload_n (pc' := 65) dX12_undo_2.1.1.1.1 rfl rfl ?_
  refine zG_ref (pc' := 68) 10 fg_X12_37 tb0 rfl dX12_undo_2.1.1.1.2 rfl ?_
  have hb : ∀ i, h6 11 i = 0 ∨ h6 11 i = 1 := fun i => by have q := hR.2.2.2.2.2.2.2.2.2.2.2.2.2.1 i; rw [← e6, cpy_ne (by decide), ← e5, zwr_ne (Or.inl (by decide)), ← e4, zwr_ne (Or.inl (by decide)), ← e3, zwr_ne (Or.inl (by decide)), ← e2, zwr_ne (Or.inl (by decide)), ← e1, zwr_ne (Or.inl (by decide))]; omega
  refine csV2 (pc' := 71) kX12_copiesMarks vX12_copiesMarks lk_X12_475 ⟨Nat.le_of_ble_eq_true rfl, Nat.le_of_ble_eq_true rfl⟩ rfl (s_X12_copiesMarks tb11 tb10 (by decide) (by decide) hb) dX12_undo_2.1.1.2.1 (Nat.le_of_ble_eq_true rfl) rfl ?_
  rintro _ h7 e7; replace e7 := e7.symm
  have hS7 : SI h7 := by rw [← e7]; exact SI_cpy hS6 rfl (by decide)
  refine zW_aload_n (pc' := 72) dX12_undo_2.1.1.2.2 rfl rfl ?_
  refine zG_ref (pc' := 75) 7 fg_X12_28 tb0 rfl dX12_undo_2.1.2.1.1 rfl ?_
  refine zW_aload_n (pc' := 76) dX12_undo_2.1.2.1.2 rfl rfl ?_
  refine zG_ref (pc' := 79) 3 fg_X12_16 tb0 rfl dX12_undo_2.1.2.2.1 rfl ?_
  refine csV2 (pc' := 82) kX12_copies vX12_copies lk_X12_188 ⟨Nat.le_of_ble_eq_true rfl, Nat.le_of_ble_eq_true rfl⟩ rfl (s_X12_copies tb7 tb3 (by decide) (by decide)) dX12_undo_2.1.2.2.2 (Nat.le_of_ble_eq_true rfl) rfl ?_
  rintro _ h8 e8; replace e8 := e8.symm
  have hS8 : SI h8 := by rw [← e8]; exact SI_cpy hS7 rfl (by decide)
  refine zW_aload_n (pc' := 83) dX12_undo_2.2.1.1.1 rfl rfl ?_
  refine zG_ref (pc' := 86) 8 fg_X12_31 tb0 rfl dX12_undo_2.2.1.1.2 rfl ?_
  refine zW_aload_n (pc' := 87) dX12_undo_2.2.1.2.1 rfl rfl ?_
  refine zG_ref (pc' := 90) 4 fg_X12_19 tb0 rfl dX12_undo_2.2.1.2.2 rfl ?_
  refine csV2 (pc' := 93) kX12_copies vX12_copies lk_X12_188 ⟨Nat.le_of_ble_eq_true rfl, Nat.le_of_ble_eq_true rfl⟩ rfl (s_X12_copies tb8 tb4 (by decide) (by decide)) dX12_undo_2.2.2.1.1 (Nat.le_of_ble_eq_true rfl) rfl ?_
  rintro _ h9 e9; replace e9 := e9.symm
  have hS9 : SI h9 := by rw [← e9]; exact SI_cpy hS8 rfl (by decide)
  refine zW_aload_n (pc' := 94) dX12_undo_2.2.2.1.2 rfl rfl ?_
  refine zG_ref (pc' := 97) 9 fg_X12_34 tb0 rfl dX12_undo_2.2.2.2.1 rfl ?_
  refine zW_aload_n (pc' := 98) dX12_undo_2.2.2.2.2 rfl rfl ?_
  refine zG_ref (pc' := 101) 5 fg_X12_22 tb0 rfl dX12_undo_3.1.1.1 rfl ?_
  refine csV2 (pc' := 104) kX12_copies vX12_copies lk_X12_188 ⟨Nat.le_of_ble_eq_true rfl, Nat.le_of_ble_eq_true rfl⟩ rfl (s_X12_copies tb9 tb5 (by decide) (by decide)) dX12_undo_3.1.1.2 (Nat.le_of_ble_eq_true rfl) rfl ?_
  rintro _ h10 e10; replace e10 := e10.symm
  have hS10 : SI h10 := by rw [← e10]; exact SI_cpy hS9 rfl (by decide)
  refine zW_aload_n (pc' := 105) dX12_undo_3.1.2 rfl rfl ?_
  have fr : ∀ k i, inW [(0, 11), (0, 12), (0, 13), (0, 14), (0, 15), (1, 999), (3, 999), (4, 999), (5, 999), (10, 999), (0, 21), (0, 23)] k i = false → h10 k i = κ k i := fun k i hl => by rw [← e10, cpy_ne (inW_nc (L := [(0, 11), (0, 12), (0, 13), (0, 14), (0, 15), (1, 999), (3, 999), (4, 999), (5, 999), (10, 999), (0, 21), (0, 23)]) (c := 5) rfl hl), ← e9, cpy_ne (inW_nc (L := [(0, 11), (0, 12), (0, 13), (0, 14), (0, 15), (1, 999), (3, 999), (4, 999), (5, 999), (10, 999), (0, 21), (0, 23)]) (c := 4) rfl hl), ← e8, cpy_ne (inW_nc (L := [(0, 11), (0, 12), (0, 13), (0, 14), (0, 15), (1, 999), (3, 999), (4, 999), (5, 999), (10, 999), (0, 21), (0, 23)]) (c := 3) rfl hl), ← e7, cpy_ne (inW_nc (L := [(0, 11), (0, 12), (0, 13), (0, 14), (0, 15), (1, 999), (3, 999), (4, 999), (5, 999), (10, 999), (0, 21), (0, 23)]) (c := 10) rfl hl), ← e6, cpy_ne (inW_nc (L := [(0, 11), (0, 12), (0, 13), (0, 14), (0, 15), (1, 999), (3, 999), (4, 999), (5, 999), (10, 999), (0, 21), (0, 23)]) (c := 1) rfl hl), ← e5, zwr_ne (inW_ne (L := [(0, 11), (0, 12), (0, 13), (0, 14), (0, 15), (1, 999), (3, 999), (4, 999), (5, 999), (10, 999), (0, 21), (0, 23)]) (k := 0) (i := 15) rfl hl), ← e4, zwr_ne (inW_ne (L := [(0, 11), (0, 12), (0, 13), (0, 14), (0, 15), (1, 999), (3, 999), (4, 999), (5, 999), (10, 999), (0, 21), (0, 23)]) (k := 0) (i := 14) rfl hl), ← e3, zwr_ne (inW_ne (L := [(0, 11), (0, 12), (0, 13), (0, 14), (0, 15), (1, 999), (3, 999), (4, 999), (5, 999), (10, 999), (0, 21), (0, 23)]) (k := 0) (i := 13) rfl hl), ← e2, zwr_ne (inW_ne (L := [(0, 11), (0, 12), (0, 13), (0, 14), (0, 15), (1, 999), (3, 999), (4, 999), (5, 999), (10, 999), (0, 21), (0, 23)]) (k := 0) (i := 12) rfl hl), ← e1, zwr_ne (inW_ne (L := [(0, 11), (0, 12), (0, 13), (0, 14), (0, 15), (1, 999), (3, 999), (4, 999), (5, 999), (10, 999), (0, 21), (0, 23)]) (k := 0) (i := 11) rfl hl)]
  have hCf : KC h10 := KC_low hC (fun k i hk => fr k i (by unfold inW; simp [List.any_cons]; omega))
  have g11 : h10 0 11 = κ 0 16 := by rw [← e10, cpy_ne (by decide), ← e9, cpy_ne (by decide), ← e8, cpy_ne (by decide), ← e7, cpy_ne (by decide), ← e6, cpy_ne (by decide), ← e5, zwr_ne (Or.inr (by decide)), ← e4, zwr_ne (Or.inr (by decide)), ← e3, zwr_ne (Or.inr (by decide)), ← e2, zwr_ne (Or.inr (by decide)), ← e1, zwr_eq]
  have g12 : h10 0 12 = κ 0 17 := by rw [← e10, cpy_ne (by decide), ← e9, cpy_ne (by decide), ← e8, cpy_ne (by decide), ← e7, cpy_ne (by decide), ← e6, cpy_ne (by decide), ← e5, zwr_ne (Or.inr (by decide)), ← e4, zwr_ne (Or.inr (by decide)), ← e3, zwr_ne (Or.inr (by decide)), ← e2, zwr_eq, ← e1, zwr_ne (Or.inr (by decide))]
  have g13 : h10 0 13 = κ 0 18 := by rw [← e10, cpy_ne (by decide), ← e9, cpy_ne (by decide), ← e8, cpy_ne (by decide), ← e7, cpy_ne (by decide), ← e6, cpy_ne (by decide), ← e5, zwr_ne (Or.inr (by decide)), ← e4, zwr_ne (Or.inr (by decide)), ← e3, zwr_eq, ← e2, zwr_ne (Or.inr (by decide)), ← e1, zwr_ne (Or.inr (by decide))]
  have g14 : h10 0 14 = κ 0 19 := by rw [← e10, cpy_ne (by decide), ← e9, cpy_ne (by decide), ← e8, cpy_ne (by decide), ← e7, cpy_ne (by decide), ← e6, cpy_ne (by decide), ← e5, zwr_ne (Or.inr (by decide)), ← e4, zwr_eq, ← e3, zwr_ne (Or.inr (by decide)), ← e2, zwr_ne (Or.inr (by decide)), ← e1, zwr_ne (Or.inr (by decide))]
  have g15 : h10 0 15 = κ 0 20 := by rw [← e10, cpy_ne (by decide), ← e9, cpy_ne (by decide), ← e8, cpy_ne (by decide), ← e7, cpy_ne (by decide), ← e6, cpy_ne (by decide), ← e5, zwr_eq, ← e4, zwr_ne (Or.inr (by decide)), ← e3, zwr_ne (Or.inr (by decide)), ← e2, zwr_ne (Or.inr (by decide)), ← e1, zwr_ne (Or.inr (by decide))]
  have g16 : h10 0 16 = κ 0 16 := by rw [← e10, cpy_ne (by decide), ← e9, cpy_ne (by decide), ← e8, cpy_ne (by decide), ← e7, cpy_ne (by decide), ← e6, cpy_ne (by decide), ← e5, zwr_ne (Or.inr (by decide)), ← e4, zwr_ne (Or.inr (by decide)), ← e3, zwr_ne (Or.inr (by decide)), ← e2, zwr_ne (Or.inr (by decide)), ← e1, zwr_ne (Or.inr (by decide))]
  have g17 : h10 0 17 = κ 0 17 := by rw [← e10, cpy_ne (by decide), ← e9, cpy_ne (by decide), ← e8, cpy_ne (by decide), ← e7, cpy_ne (by decide), ← e6, cpy_ne (by decide), ← e5, zwr_ne (Or.inr (by decide)), ← e4, zwr_ne (Or.inr (by decide)), ← e3, zwr_ne (Or.inr (by decide)), ← e2, zwr_ne (Or.inr (by decide)), ← e1, zwr_ne (Or.inr (by decide))]
  have g18 : h10 0 18 = κ 0 18 := by rw [← e10, cpy_ne (by decide), ← e9, cpy_ne (by decide), ← e8, cpy_ne (by decide), ← e7, cpy_ne (by decide), ← e6, cpy_ne (by decide), ← e5, zwr_ne (Or.inr (by decide)), ← e4, zwr_ne (Or.inr (by decide)), ← e3, zwr_ne (Or.inr (by decide)), ← e2, zwr_ne (Or.inr (by decide)), ← e1, zwr_ne (Or.inr (by decide))]
  have g19 : h10 0 19 = κ 0 19 := by rw [← e10, cpy_ne (by decide), ← e9, cpy_ne (by decide), ← e8, cpy_ne (by decide), ← e7, cpy_ne (by decide), ← e6, cpy_ne (by decide), ← e5, zwr_ne (Or.inr (by decide)), ← e4, zwr_ne (Or.inr (by decide)), ← e3, zwr_ne (Or.inr (by decide)), ← e2, zwr_ne (Or.inr (by decide)), ← e1, zwr_ne (Or.inr (by decide))]
  have g20 : h10 0 20 = κ 0 20 := by rw [← e10, cpy_ne (by decide), ← e9, cpy_ne (by decide), ← e8, cpy_ne (by decide), ← e7, cpy_ne (by decide), ← e6, cpy_ne (by decide), ← e5, zwr_ne (Or.inr (by decide)), ← e4, zwr_ne (Or.inr (by decide)), ← e3, zwr_ne (Or.inr (by decide)), ← e2, zwr_ne (Or.inr (by decide)), ← e1, zwr_ne (Or.inr (by decide))]
  have g21 : h10 0 21 = κ 0 21 := by rw [← e10, cpy_ne (by decide), ← e9, cpy_ne (by decide), ← e8, cpy_ne (by decide), ← e7, cpy_ne (by decide), ← e6, cpy_ne (by decide), ← e5, zwr_ne (Or.inr (by decide)), ← e4, zwr_ne (Or.inr (by decide)), ← e3, zwr_ne (Or.inr (by decide)), ← e2, zwr_ne (Or.inr (by decide)), ← e1, zwr_ne (Or.inr (by decide))]
  have g22 : h10 0 22 = κ 0 22 := by rw [← e10, cpy_ne (by decide), ← e9, cpy_ne (by decide), ← e8, cpy_ne (by decide), ← e7, cpy_ne (by decide), ← e6, cpy_ne (by decide), ← e5, zwr_ne (Or.inr (by decide)), ← e4, zwr_ne (Or.inr (by decide)), ← e3, zwr_ne (Or.inr (by decide)), ← e2, zwr_ne (Or.inr (by decide)), ← e1, zwr_ne (Or.inr (by decide))]
  have g25 : h10 0 25 = κ 0 25 := by rw [← e10, cpy_ne (by decide), ← e9, cpy_ne (by decide), ← e8, cpy_ne (by decide), ← e7, cpy_ne (by decide), ← e6, cpy_ne (by decide), ← e5, zwr_ne (Or.inr (by decide)), ← e4, zwr_ne (Or.inr (by decide)), ← e3, zwr_ne (Or.inr (by decide)), ← e2, zwr_ne (Or.inr (by decide)), ← e1, zwr_ne (Or.inr (by decide))]
  have c3 : ∀ j, j < 12 → h10 3 j = κ 7 j := fun j hj => by rw [← e10, cpy_ne (by decide), ← e9, cpy_ne (by decide), ← e8, cpy_in hj, ← e7, cpy_ne (by decide), ← e6, cpy_ne (by decide), ← e5, zwr_ne (Or.inl (by decide)), ← e4, zwr_ne (Or.inl (by decide)), ← e3, zwr_ne (Or.inl (by decide)), ← e2, zwr_ne (Or.inl (by decide)), ← e1, zwr_ne (Or.inl (by decide))]
  have o3 : ∀ j, 12 ≤ j → h10 3 j = κ 3 j := fun j hj => by rw [← e10, cpy_ne (by decide), ← e9, cpy_ne (by decide), ← e8, cpy_out hj, ← e7, cpy_ne (by decide), ← e6, cpy_ne (by decide), ← e5, zwr_ne (Or.inl (by decide)), ← e4, zwr_ne (Or.inl (by decide)), ← e3, zwr_ne (Or.inl (by decide)), ← e2, zwr_ne (Or.inl (by decide)), ← e1, zwr_ne (Or.inl (by decide))]
  have c4 : ∀ j, j < 13 → h10 4 j = κ 8 j := fun j hj => by rw [← e10, cpy_ne (by decide), ← e9, cpy_in hj, ← e8, cpy_ne (by decide), ← e7, cpy_ne (by decide), ← e6, cpy_ne (by decide), ← e5, zwr_ne (Or.inl (by decide)), ← e4, zwr_ne (Or.inl (by decide)), ← e3, zwr_ne (Or.inl (by decide)), ← e2, zwr_ne (Or.inl (by decide)), ← e1, zwr_ne (Or.inl (by decide))]
  have o4 : ∀ j, 13 ≤ j → h10 4 j = κ 4 j := fun j hj => by rw [← e10, cpy_ne (by decide), ← e9, cpy_out hj, ← e8, cpy_ne (by decide), ← e7, cpy_ne (by decide), ← e6, cpy_ne (by decide), ← e5, zwr_ne (Or.inl (by decide)), ← e4, zwr_ne (Or.inl (by decide)), ← e3, zwr_ne (Or.inl (by decide)), ← e2, zwr_ne (Or.inl (by decide)), ← e1, zwr_ne (Or.inl (by decide))]
  have c5 : ∀ j, j < 130 → h10 5 j = κ 9 j := fun j hj => by rw [← e10, cpy_in hj, ← e9, cpy_ne (by decide), ← e8, cpy_ne (by decide), ← e7, cpy_ne (by decide), ← e6, cpy_ne (by decide), ← e5, zwr_ne (Or.inl (by decide)), ← e4, zwr_ne (Or.inl (by decide)), ← e3, zwr_ne (Or.inl (by decide)), ← e2, zwr_ne (Or.inl (by decide)), ← e1, zwr_ne (Or.inl (by decide))]
  have o5 : ∀ j, 130 ≤ j → h10 5 j = κ 5 j := fun j hj => by rw [← e10, cpy_out hj, ← e9, cpy_ne (by decide), ← e8, cpy_ne (by decide), ← e7, cpy_ne (by decide), ← e6, cpy_ne (by decide), ← e5, zwr_ne (Or.inl (by decide)), ← e4, zwr_ne (Or.inl (by decide)), ← e3, zwr_ne (Or.inl (by decide)), ← e2, zwr_ne (Or.inl (by decide)), ← e1, zwr_ne (Or.inl (by decide))]
  have c7 : h10 7 = κ 7 := funext fun j => by rw [← e10, cpy_ne (by decide), ← e9, cpy_ne (by decide), ← e8, cpy_ne (by decide), ← e7, cpy_ne (by decide), ← e6, cpy_ne (by decide), ← e5, zwr_ne (Or.inl (by decide)), ← e4, zwr_ne (Or.inl (by decide)), ← e3, zwr_ne (Or.inl (by decide)), ← e2, zwr_ne (Or.inl (by decide)), ← e1, zwr_ne (Or.inl (by decide))]
  have c8 : h10 8 = κ 8 := funext fun j => by rw [← e10, cpy_ne (by decide), ← e9, cpy_ne (by decide), ← e8, cpy_ne (by decide), ← e7, cpy_ne (by decide), ← e6, cpy_ne (by decide), ← e5, zwr_ne (Or.inl (by decide)), ← e4, zwr_ne (Or.inl (by decide)), ← e3, zwr_ne (Or.inl (by decide)), ← e2, zwr_ne (Or.inl (by decide)), ← e1, zwr_ne (Or.inl (by decide))]
  have c9 : h10 9 = κ 9 := funext fun j => by rw [← e10, cpy_ne (by decide), ← e9, cpy_ne (by decide), ← e8, cpy_ne (by decide), ← e7, cpy_ne (by decide), ← e6, cpy_ne (by decide), ← e5, zwr_ne (Or.inl (by decide)), ← e4, zwr_ne (Or.inl (by decide)), ← e3, zwr_ne (Or.inl (by decide)), ← e2, zwr_ne (Or.inl (by decide)), ← e1, zwr_ne (Or.inl (by decide))]
  have c10 : ∀ j, j < 256 → h10 10 j = κ 11 j := fun j hj => by rw [← e10, cpy_ne (by decide), ← e9, cpy_ne (by decide), ← e8, cpy_ne (by decide), ← e7, cpy_in hj, ← e6, cpy_ne (by decide), ← e5, zwr_ne (Or.inl (by decide)), ← e4, zwr_ne (Or.inl (by decide)), ← e3, zwr_ne (Or.inl (by decide)), ← e2, zwr_ne (Or.inl (by decide)), ← e1, zwr_ne (Or.inl (by decide))]
  have o10 : ∀ j, 256 ≤ j → h10 10 j = κ 10 j := fun j hj => by rw [← e10, cpy_ne (by decide), ← e9, cpy_ne (by decide), ← e8, cpy_ne (by decide), ← e7, cpy_out hj, ← e6, cpy_ne (by decide), ← e5, zwr_ne (Or.inl (by decide)), ← e4, zwr_ne (Or.inl (by decide)), ← e3, zwr_ne (Or.inl (by decide)), ← e2, zwr_ne (Or.inl (by decide)), ← e1, zwr_ne (Or.inl (by decide))]
  have c11 : h10 11 = κ 11 := funext fun j => by rw [← e10, cpy_ne (by decide), ← e9, cpy_ne (by decide), ← e8, cpy_ne (by decide), ← e7, cpy_ne (by decide), ← e6, cpy_ne (by decide), ← e5, zwr_ne (Or.inl (by decide)), ← e4, zwr_ne (Or.inl (by decide)), ← e3, zwr_ne (Or.inl (by decide)), ← e2, zwr_ne (Or.inl (by decide)), ← e1, zwr_ne (Or.inl (by decide))]
  have c14 : h10 14 = κ 14 := funext fun j => by rw [← e10, cpy_ne (by decide), ← e9, cpy_ne (by decide), ← e8, cpy_ne (by decide), ← e7, cpy_ne (by decide), ← e6, cpy_ne (by decide), ← e5, zwr_ne (Or.inl (by decide)), ← e4, zwr_ne (Or.inl (by decide)), ← e3, zwr_ne (Or.inl (by decide)), ← e2, zwr_ne (Or.inl (by decide)), ← e1, zwr_ne (Or.inl (by decide))]
  have c15 : h10 15 = κ 15 := funext fun j => by rw [← e10, cpy_ne (by decide), ← e9, cpy_ne (by decide), ← e8, cpy_ne (by decide), ← e7, cpy_ne (by decide), ← e6, cpy_ne (by decide), ← e5, zwr_ne (Or.inl (by decide)), ← e4, zwr_ne (Or.inl (by decide)), ← e3, zwr_ne (Or.inl (by decide)), ← e2, zwr_ne (Or.inl (by decide)), ← e1, zwr_ne (Or.inl (by decide))]
  have c1 : ∀ j, j < 256 → h10 1 j = κ 6 j := fun j hj => by rw [← e10, cpy_ne (by decide), ← e9, cpy_ne (by decide), ← e8, cpy_ne (by decide), ← e7, cpy_ne (by decide), ← e6, cpy_in hj, ← e5, zwr_ne (Or.inl (by decide)), ← e4, zwr_ne (Or.inl (by decide)), ← e3, zwr_ne (Or.inl (by decide)), ← e2, zwr_ne (Or.inl (by decide)), ← e1, zwr_ne (Or.inl (by decide))]
  have o1 : ∀ j, 256 ≤ j → h10 1 j = κ 1 j := fun j hj => by rw [← e10, cpy_ne (by decide), ← e9, cpy_ne (by decide), ← e8, cpy_ne (by decide), ← e7, cpy_ne (by decide), ← e6, cpy_out hj, ← e5, zwr_ne (Or.inl (by decide)), ← e4, zwr_ne (Or.inl (by decide)), ← e3, zwr_ne (Or.inl (by decide)), ← e2, zwr_ne (Or.inl (by decide)), ← e1, zwr_ne (Or.inl (by decide))]
  have hRf : KR h10 := by
    unfold KR
    rw [g11, g12, g13, g14, g15, g16, g17, g18, g19, g20, g21, g22, g25, c7, c8, c9, c11, c14, c15]
    refine ⟨k1, k2, k3, k4, k5, a5, (bd2 c4 o4 k6 a6), ?_, a8, a9, a10, (bd2 c5 o5 k8 a11), (bd2 c10 o10 a13 a12), a13, a14, a15, a16, a17⟩
    exact k7.cong3 k4.2 c3 c4 c5
  have hFf : Fm [(0, 11), (0, 12), (0, 13), (0, 14), (0, 15), (1, 999), (3, 999), (4, 999), (5, 999), (10, 999), (0, 21), (0, 23)] κ h10 := ⟨fun k i _ hl => fr k i hl, hS10, hRf, hCf⟩
  refine cvV0 (pc' := 108) kX12_changed vX12_changed lk_X12_215 ⟨Nat.le_of_ble_eq_true rfl, Nat.le_of_ble_eq_true rfl⟩ tb0 vq12 rfl rfl (s_X12_changed hS10 hRf hCf) dX12_undo_3.2.1.1 (Nat.le_of_ble_eq_true rfl) rfl ?_
  rintro r h ⟨hF1, pch⟩
  refine zW_iconst (pc' := 109) dX12_undo_3.2.1.2 rfl ?_
  exact zV_zret rfl (by omega) dX12_undo_3.2.2 ⟨hFf.tr hF1 rfl, ⟨⟨Or.inr ⟨hk1, rfl, (hF1.1 0 11 rfl rfl).trans g11, (hF1.1 0 12 rfl rfl).trans g12, (hF1.1 0 13 rfl rfl).trans g13, (hF1.1 0 15 rfl rfl).trans g15⟩, Or.inl pch⟩, fun j => ⟨fun _ hj => ⟨(hF1.1 1 j rfl rfl).trans (c1 j hj), (hF1.1 10 j rfl rfl).trans (c10 j hj)⟩, fun q => by omega⟩, ⟨fun q => by omega, fun _ => (hF1.1 0 14 rfl rfl).trans g14⟩, fun j => ⟨fun _ hj => (hF1.1 3 j rfl rfl).trans (c3 j hj), fun q => by omega⟩, fun j => ⟨fun _ hj => (hF1.1 4 j rfl rfl).trans (c4 j hj), fun q => by omega⟩, fun j => ⟨fun _ hj => (hF1.1 5 j rfl rfl).trans (c5 j hj), fun q => by omega⟩⟩⟩

abbrev q_X12_readsCurveQ (κ : Hp) (g : Int → Int) (p : Int) : Int → Hp → Prop := fun r h' => Fm [(0, 26), (0, 28), (0, 29), (0, 31), (15, 999)] κ h' ∧ ((0 ≤ r) ∧ (r ≤ 1) ∧ (κ 0 26 ≤ h' 0 26 ∧ h' 0 26 ≤ κ 0 27 ∧ Pre15 κ h' ∧ κ 0 31 ≤ h' 0 31 ∧ h' 0 31 ≤ h' 0 26 ∧ (r = 1 → Cv h' (κ 0 31) (h' 0 31)) ∧ ((r = 1 ∧ cuF g 200 p (-1) = 0 ∧ h' 0 26 = cuE g 200 p (-1)) ∨ (r = 0 ∧ cuF g 200 p (-1) ≠ 0 ∧ h' 0 28 = cuF g 200 p (-1) ∧ h' 0 28 < 0)) ∧ ApI r (κ 15) (h' 15) (κ 0 31) (h' 0 31) (cuL g 200 p (-1))))
set_option maxHeartbeats 4000000 in
set_option maxRecDepth 20000 in
theorem s_X12_readsCurveQ {G : Ga} {κ : Hp} (hS : SI κ) (hR : KR κ) (hC : KC κ) (g : Int → Int) (p : Int) (hp : 0 ≤ κ 0 26 ∧ κ 0 26 ≤ κ 0 27 ∧ κ 0 27 ≤ 120) (hq : 0 ≤ κ 0 31 ∧ κ 0 31 ≤ κ 0 26) (hg : hr (fun i => κ 12 i % 256) (κ 0 27) = g) (ht : κ 0 26 = p) : zM G mX12_readsCurve yX12_readsCurve [.inr (.inr 0)] κ (q_X12_readsCurveQ κ g p) := by
  have main : ∀ N : Nat, (∀ (v1 : Int) (h : Hp), Fm [(0, 26), (0, 28), (0, 29), (0, 31), (15, 999)] κ h → (-1 ≤ v1 ∧ v1 ≤ 255) → (κ 0 26 ≤ h 0 26 ∧ h 0 26 ≤ κ 0 27) → (κ 0 31 ≤ h 0 31 ∧ h 0 31 ≤ h 0 26) → (Pre15 κ h) → (CvI h (κ 0 31) (h 0 31) v1) → (CuI g p (h 0 26) v1) → (CuB g p (h 0 26) v1 (κ 15) (h 15) (κ 0 31) (h 0 31)) → 308112 + 49 * (κ 0 27 - h 0 26) + 48 < (N : Int) → zV G mX12_readsCurve (q_X12_readsCurveQ κ g p) 2 [some (.inr (.inr 0)), some (.inl v1)] [] h) := by
    intro N
    induction N with
    | zero =>
      intro v1 h hF g0 gc0 gc1 gc2 gc3 gc4 gc5 hm
      exfalso; omega
    | succ N ih =>
      have k2 := ih
      intro v1 h hF g0 gc0 gc1 gc2 gc3 gc4 gc5 hm
      have y27 := hF.1 0 27 rfl rfl
      have hPre := gc2
      obtain ⟨hA, eA⟩ : ∃ z : Hp, z = h := ⟨_, rfl⟩
      have hPA : Pre15 hA h := by rw [eA]; exact Pre15.rf
      have eA26 : hA 0 26 = h 0 26 := by rw [eA]
      have eA31 : hA 0 31 = h 0 31 := by rw [eA]
      have hcvA : CvI hA (κ 0 31) (hA 0 31) v1 := by rw [eA]; exact gc3
      obtain ⟨q, eq⟩ : ∃ q : Int, q = h 0 26 := ⟨_, rfl⟩
      have cu := gc4
      rw [← eq] at cu
      obtain ⟨l, cj, ap⟩ := gc5
      rw [← eq] at cj
      refine zW_iload_n (pc' := 3) dX12_readsCurve_0.1.1.2.1 rfl rfl ?_
      refine zW_sipush (pc' := 6) dX12_readsCurve_0.1.1.2.2 rfl rfl ?_
      refine zV_cm_eq (tgt := 85) (pc' := 9) dX12_readsCurve_0.1.2.1.1 rfl rfl ⟨by omega, by omega⟩ ⟨by omega, by omega⟩ (fun c6 => ?_) (fun c6 => ?_)
      · refine zW_iconst (pc' := 86) dX12_readsCurve_2.2.2.2.2 rfl ?_
        exact zV_zret rfl (by omega) dX12_readsCurve_3 ⟨hF, by have en := (show CuI g p (h 0 26) 255 from c6 ▸ gc4).end; have ej := (show CuJ g p q 255 l from c6 ▸ cj).end; refine ⟨by omega, by omega, by omega, by omega, hPre, by omega, by omega, fun _ => (show CvI h (κ 0 31) (h 0 31) 255 from c6 ▸ gc3).end, by omega, fun _ => by rw [ej]; exact ap⟩⟩
      · refine zW_iload_n (pc' := 10) dX12_readsCurve_0.1.2.1.2 rfl rfl ?_
        refine zW_iconst (pc' := 11) dX12_readsCurve_0.1.2.2.1 rfl ?_
        refine zV_cm_eq (tgt := 25) (pc' := 14) dX12_readsCurve_0.1.2.2.2 rfl rfl ⟨by omega, by omega⟩ ⟨by omega, by omega⟩ (fun c11 => ?_) (fun c11 => ?_)
        · first | (have e1 : v1 = -1 := (by omega); obtain ⟨w, ew⟩ : ∃ w : Int, w = q := ⟨_, rfl⟩; have pt : ptF g q v1 = sq (sq (nF g w 0 0) (sF g (w + nD g w) 62)) (nF g (w + nD g w + 1) 0 255) ∧ ptX g q v1 = nV g w ∧ ptE g q v1 = w + nD g w + 1 + nD g (w + nD g w + 1) := (by rw [ew, e1]; exact ⟨rfl, rfl, rfl⟩); have c1 := sqc (nF g w 0 0) (sF g (w + nD g w) 62); have c2 := sqc (sq (nF g w 0 0) (sF g (w + nD g w) 62)) (nF g (w + nD g w + 1) 0 255)) | (have e1 : v1 ≠ -1 := (by omega); obtain ⟨w, ew⟩ : ∃ w : Int, w = q + 1 := ⟨_, rfl⟩; have pt : ptF g q v1 = sq (sF g q 44) (sq (sq (nF g w (v1 + 1) 255) (sF g (w + nD g w) 62)) (nF g (w + nD g w + 1) 0 255)) ∧ ptX g q v1 = nV g w ∧ ptE g q v1 = w + nD g w + 1 + nD g (w + nD g w + 1) := (by rw [ew]; exact ptF_1 (by omega)); have c1 := sqc (nF g w (v1 + 1) 255) (sF g (w + nD g w) 62); have c2 := sqc (sq (nF g w (v1 + 1) 255) (sF g (w + nD g w) 62)) (nF g (w + nD g w + 1) 0 255); have c3 := sqc (sF g q 44) (sq (sq (nF g w (v1 + 1) 255) (sF g (w + nD g w) 62)) (nF g (w + nD g w + 1) 0 255)))
          have ptY_ : ptY g q v1 = nV g (w + nD g w + 1) := by first | (rw [ew, e1]; rfl) | (rw [ew]; exact ptY_1 (by omega))
          refine zW_aload_n (pc' := 26) dX12_readsCurve_0.2.2.2.1 rfl rfl ?_
          refine zW_iload_n (pc' := 27) dX12_readsCurve_0.2.2.2.2 rfl rfl ?_
          refine zW_iconst (pc' := 28) dX12_readsCurve_1.1.1.1.1 rfl ?_
          refine zV_cm_ne (tgt := 35) (pc' := 31) dX12_readsCurve_1.1.1.1.2 rfl rfl ⟨by omega, by omega⟩ ⟨by omega, by omega⟩ (fun c28 => ?_) (fun c28 => ?_)
          · exfalso; omega
          · refine zW_iconst (pc' := 32) dX12_readsCurve_1.1.1.2.1 rfl ?_
            refine zV_goto 38 dX12_readsCurve_1.1.1.2.2 rfl ?_
            refine zW_iload_n (pc' := 39) dX12_readsCurve_1.1.2.2.2 rfl rfl ?_
            refine zW_iconst (pc' := 40) dX12_readsCurve_1.2.1.1.1 rfl ?_
            refine zV_cm_ne (tgt := 47) (pc' := 43) dX12_readsCurve_1.2.1.1.2 rfl rfl ⟨by omega, by omega⟩ ⟨by omega, by omega⟩ (fun c40 => ?_) (fun c40 => ?_)
            · exfalso; omega
            · refine zW_iconst (pc' := 44) dX12_readsCurve_1.2.1.2.1 rfl ?_
              refine zV_goto 50 dX12_readsCurve_1.2.1.2.2 rfl ?_
              have y27 := hF.1 0 27 rfl rfl
              obtain ⟨hB, eB⟩ : ∃ z : Hp, z = h := ⟨_, rfl⟩
              have eB31 : hB 0 31 = hA 0 31 := by rw [eB]; omega
              have eB26 : hB 0 26 = h 0 26 := by rw [eB]
              have eB27 : hB 0 27 = h 0 27 := by rw [eB]
              obtain ⟨hB50, eB50⟩ : ∃ z : Hp, z = h := ⟨_, rfl⟩
              have apq : Ap (κ 15) (hB50 15) (κ 0 31) (hB50 0 31) (l) := by rw [eB50]; first | exact ap | exact ap (by omega)
              have y50_0_27 := hF.1 0 27 rfl rfl
              refine cvI2 (pc' := 53) kX12_readsNumber vX12_readsNumber lk_X12_157 ⟨Nat.le_of_ble_eq_true rfl, Nat.le_of_ble_eq_true rfl⟩ tb0 vq12 rfl rfl (s_X12_readsNumberP hF.2.1 hF.2.2.1 hF.2.2.2 _ ⟨by omega, by omega⟩ _ ⟨by omega, by omega⟩ g w (by omega) (by omega) (by rw [hF.cell 12 rfl (fun _ => rfl), hF.1 0 27 rfl rfl]; exact hg) (by omega)) dX12_readsCurve_1.2.2.1.2 (Nat.le_of_ble_eq_true rfl) rfl ?_
              rintro r50 h ⟨hF1, p50⟩; replace hF := hF.tr hF1 rfl
              replace hPre : Pre15 κ h := hPre.tr p50.2.2.2.2.1 (by omega)
              replace hPA : Pre15 hA h := hPA.tr p50.2.2.2.2.1 (by omega)
              have pp := p50
              rw [← eB50] at pp
              have ap : ApI r50 (κ 15) (h 15) (κ 0 31) (h 0 31) (l ++ [nV g w]) := fun z => Ap.tr hq.1 apq (Ap_rn pp.2.2.2.2.1 (pp.2.2.2.2.2.1.resolve_right (fun q => by omega)) (pp.2.2.2.2.2.2.resolve_right (fun q => by omega)))
              clear pp
              refine zV_if_ne (tgt := 58) (pc' := 56) dX12_readsCurve_1.2.2.2.1 rfl rfl ⟨by omega, by omega⟩ (fun c53 => ?_) (fun c53 => ?_)
              · rw [← eB] at p50
                have hv1 := (p50.2.2.2.2.2.1.resolve_right (fun q => by omega)).2.2.2.2.2
                rw [eB31] at hv1
                replace ap := ap (by omega)
                refine zW_aload_n (pc' := 59) dX12_readsCurve_2.1.1.1.2 rfl rfl ?_
                refine zG_int (pc' := 62) fg_X12_148 tb0 rfl dX12_readsCurve_2.1.1.2.1 rfl ?_
                have e59 := hF.rh 0 29
                refine zW_istore_n (ls' := [_, _]) (pc' := 63) dX12_readsCurve_2.1.1.2.2 (by decide) rfl rfl rfl ?_
                refine zW_aload_n (pc' := 64) dX12_readsCurve_2.1.2.1.1 rfl rfl ?_
                refine zW_bipush (pc' := 66) dX12_readsCurve_2.1.2.1.2 rfl rfl ?_
                have y27 := hF.1 0 27 rfl rfl
                have y66_0_27 := hF.1 0 27 rfl rfl
                refine cvI1 (pc' := 69) kX12_takesSign vX12_takesSign lk_X12_154 ⟨Nat.le_of_ble_eq_true rfl, Nat.le_of_ble_eq_true rfl⟩ tb0 vq12 rfl rfl (s_X12_takesSignP hF.2.1 hF.2.2.1 hF.2.2.2 _ ⟨by omega, by omega⟩ g (w + nD g w) (by rw [hF.cell 12 rfl (fun _ => rfl), hF.1 0 27 rfl rfl]; exact hg) (by omega) (by omega)) dX12_readsCurve_2.1.2.2.1 (Nat.le_of_ble_eq_true rfl) rfl ?_
                rintro r66 h ⟨hF1, p66⟩; replace hF := hF.tr hF1 rfl
                replace hPre : Pre15 κ h := hPre.fm hF1 (fun _ => rfl)
                replace hPA : Pre15 hA h := hPA.fm hF1 (fun _ => rfl)
                replace ap := Ap_eq ap (hF1.cell 15 rfl (fun _ => rfl)) (hF1.1 0 31 rfl rfl)
                have t66_0_31 := hF1.1 0 31 rfl rfl
                have t66_0_29 := hF1.1 0 29 rfl rfl
                have hv2 := (hF1.1 15 (hA 0 31).toNat rfl rfl).trans hv1
                refine zV_if_eq (tgt := 83) (pc' := 72) dX12_readsCurve_2.1.2.2.2 rfl rfl ⟨by omega, by omega⟩ (fun c69 => ?_) (fun c69 => ?_)
                · have bd := cu.bad (by omega) (by omega) (by omega)
                  refine zW_iconst (pc' := 84) dX12_readsCurve_2.2.2.1.2 rfl ?_
                  exact zV_zret rfl (by omega) dX12_readsCurve_2.2.2.2.1 ⟨hF, by refine ⟨by omega, by omega, by omega, by omega, hPre, by omega, by omega, fun q => by omega, by omega, fun q => absurd q (by decide)⟩⟩
                · refine zW_aload_n (pc' := 73) dX12_readsCurve_2.2.1.1.1 rfl rfl ?_
                  refine zW_iconst (pc' := 74) dX12_readsCurve_2.2.1.1.2 rfl ?_
                  refine zW_sipush (pc' := 77) dX12_readsCurve_2.2.1.2.1 rfl rfl ?_
                  have y27 := hF.1 0 27 rfl rfl
                  obtain ⟨hB77, eB77⟩ : ∃ z : Hp, z = h := ⟨_, rfl⟩
                  have apq : Ap (κ 15) (hB77 15) (κ 0 31) (hB77 0 31) (l ++ [nV g w]) := by rw [eB77]; first | exact ap | exact ap (by omega)
                  have y77_0_27 := hF.1 0 27 rfl rfl
                  refine cvI2 (pc' := 80) kX12_readsNumber vX12_readsNumber lk_X12_157 ⟨Nat.le_of_ble_eq_true rfl, Nat.le_of_ble_eq_true rfl⟩ tb0 vq12 rfl rfl (s_X12_readsNumberP hF.2.1 hF.2.2.1 hF.2.2.2 _ ⟨by omega, by omega⟩ _ ⟨by omega, by omega⟩ g (w + nD g w + 1) (by omega) (by omega) (by rw [hF.cell 12 rfl (fun _ => rfl), hF.1 0 27 rfl rfl]; exact hg) (by omega)) dX12_readsCurve_2.2.1.2.2 (Nat.le_of_ble_eq_true rfl) rfl ?_
                  rintro r77 h ⟨hF1, p77⟩; replace hF := hF.tr hF1 rfl
                  replace hPre : Pre15 κ h := hPre.tr p77.2.2.2.2.1 (by omega)
                  replace hPA : Pre15 hA h := hPA.tr p77.2.2.2.2.1 (by omega)
                  have pp := p77
                  rw [← eB77] at pp
                  have ap : ApI r77 (κ 15) (h 15) (κ 0 31) (h 0 31) (l ++ [nV g w] ++ [nV g (w + nD g w + 1)]) := fun z => Ap.tr hq.1 apq (Ap_rn pp.2.2.2.2.1 (pp.2.2.2.2.2.1.resolve_right (fun q => by omega)) (pp.2.2.2.2.2.2.resolve_right (fun q => by omega)))
                  clear pp
                  have hv3 := (p77.2.2.2.2.1 (hA 0 31).toNat (by omega)).trans hv2
                  have hcs := fun (q : r77 = 1) => CvI.step (h := hA) (h' := h) (a := κ 0 31) (b := hA 0 31) (by omega) hcvA (fun j hj => hPA j hj) hv3 (by omega)
                  refine zV_if_ne (tgt := 2) (pc' := 83) dX12_readsCurve_2.2.2.1.1 rfl rfl ⟨by omega, by omega⟩ (fun c80 => ?_) (fun c80 => ?_)
                  · exact k2 _ _ hF (by omega) (by omega) (by omega) hPre (by first | exact Or.inl ⟨rfl, by omega⟩ | (rw [show h 0 31 = hA 0 31 + 2 by omega]; exact hcs (by omega))) (by first | (rw [show h 0 26 = p by omega]; exact CuI.rf (by omega)) | exact cu.step (by omega) (by omega) (by omega) (by omega) (by omega) (by omega)) (by first | exact ⟨[], by rw [show h 0 26 = p by omega]; exact CuJ.rf (by omega), ap⟩ | (refine ⟨l ++ [nV g w, nV g (w + nD g w + 1)], cj.step (by omega) (by omega) (by omega) (by omega) (by omega) pt.2.1 ptY_, ?_⟩; have z := ap (by omega); rw [List.append_assoc] at z; exact z)) (by omega)
                  · have bd := cu.bad (by omega) (by omega) (by omega)
                    refine zW_iconst (pc' := 84) dX12_readsCurve_2.2.2.1.2 rfl ?_
                    exact zV_zret rfl (by omega) dX12_readsCurve_2.2.2.2.1 ⟨hF, by refine ⟨by omega, by omega, by omega, by omega, hPre, by omega, by omega, fun q => by omega, by omega, fun q => absurd q (by decide)⟩⟩
              · have bd := cu.bad (by omega) (by omega) (by omega)
                refine zW_iconst (pc' := 57) dX12_readsCurve_1.2.2.2.2 rfl ?_
                exact zV_zret rfl (by omega) dX12_readsCurve_2.1.1.1.1 ⟨hF, by refine ⟨by omega, by omega, by omega, by omega, hPre, by omega, by omega, fun q => by omega, by omega, fun q => absurd q (by decide)⟩⟩
        · refine zW_aload_n (pc' := 15) dX12_readsCurve_0.2.1.1.1 rfl rfl ?_
          refine zW_bipush (pc' := 17) dX12_readsCurve_0.2.1.1.2 rfl rfl ?_
          have y27 := hF.1 0 27 rfl rfl
          have y17_0_27 := hF.1 0 27 rfl rfl
          refine cvI1 (pc' := 20) kX12_takesSign vX12_takesSign lk_X12_154 ⟨Nat.le_of_ble_eq_true rfl, Nat.le_of_ble_eq_true rfl⟩ tb0 vq12 rfl rfl (s_X12_takesSignP hF.2.1 hF.2.2.1 hF.2.2.2 _ ⟨by omega, by omega⟩ g q (by rw [hF.cell 12 rfl (fun _ => rfl), hF.1 0 27 rfl rfl]; exact hg) (by omega) (by omega)) dX12_readsCurve_0.2.1.2.1 (Nat.le_of_ble_eq_true rfl) rfl ?_
          rintro r17 h ⟨hF1, p17⟩; replace hF := hF.tr hF1 rfl
          replace hPre : Pre15 κ h := hPre.fm hF1 (fun _ => rfl)
          replace hPA : Pre15 hA h := hPA.fm hF1 (fun _ => rfl)
          replace ap := Ap_eq ap (hF1.cell 15 rfl (fun _ => rfl)) (hF1.1 0 31 rfl rfl)
          have t17_0_31 := hF1.1 0 31 rfl rfl
          have t17_0_29 := hF1.1 0 29 rfl rfl
          refine zV_if_ne (tgt := 25) (pc' := 23) dX12_readsCurve_0.2.1.2.2 rfl rfl ⟨by omega, by omega⟩ (fun c20 => ?_) (fun c20 => ?_)
          · first | (have e1 : v1 = -1 := (by omega); obtain ⟨w, ew⟩ : ∃ w : Int, w = q := ⟨_, rfl⟩; have pt : ptF g q v1 = sq (sq (nF g w 0 0) (sF g (w + nD g w) 62)) (nF g (w + nD g w + 1) 0 255) ∧ ptX g q v1 = nV g w ∧ ptE g q v1 = w + nD g w + 1 + nD g (w + nD g w + 1) := (by rw [ew, e1]; exact ⟨rfl, rfl, rfl⟩); have c1 := sqc (nF g w 0 0) (sF g (w + nD g w) 62); have c2 := sqc (sq (nF g w 0 0) (sF g (w + nD g w) 62)) (nF g (w + nD g w + 1) 0 255)) | (have e1 : v1 ≠ -1 := (by omega); obtain ⟨w, ew⟩ : ∃ w : Int, w = q + 1 := ⟨_, rfl⟩; have pt : ptF g q v1 = sq (sF g q 44) (sq (sq (nF g w (v1 + 1) 255) (sF g (w + nD g w) 62)) (nF g (w + nD g w + 1) 0 255)) ∧ ptX g q v1 = nV g w ∧ ptE g q v1 = w + nD g w + 1 + nD g (w + nD g w + 1) := (by rw [ew]; exact ptF_1 (by omega)); have c1 := sqc (nF g w (v1 + 1) 255) (sF g (w + nD g w) 62); have c2 := sqc (sq (nF g w (v1 + 1) 255) (sF g (w + nD g w) 62)) (nF g (w + nD g w + 1) 0 255); have c3 := sqc (sF g q 44) (sq (sq (nF g w (v1 + 1) 255) (sF g (w + nD g w) 62)) (nF g (w + nD g w + 1) 0 255)))
            have ptY_ : ptY g q v1 = nV g (w + nD g w + 1) := by first | (rw [ew, e1]; rfl) | (rw [ew]; exact ptY_1 (by omega))
            refine zW_aload_n (pc' := 26) dX12_readsCurve_0.2.2.2.1 rfl rfl ?_
            refine zW_iload_n (pc' := 27) dX12_readsCurve_0.2.2.2.2 rfl rfl ?_
            refine zW_iconst (pc' := 28) dX12_readsCurve_1.1.1.1.1 rfl ?_
            refine zV_cm_ne (tgt := 35) (pc' := 31) dX12_readsCurve_1.1.1.1.2 rfl rfl ⟨by omega, by omega⟩ ⟨by omega, by omega⟩ (fun c28 => ?_) (fun c28 => ?_)
            · refine zW_iload_n (pc' := 36) dX12_readsCurve_1.1.2.1.1 rfl rfl ?_
              refine zW_iconst (pc' := 37) dX12_readsCurve_1.1.2.1.2 rfl ?_
              refine zW_iadd (pc' := 38) dX12_readsCurve_1.1.2.2.1 rfl ?_
              refine zW_iload_n (pc' := 39) dX12_readsCurve_1.1.2.2.2 rfl rfl ?_
              refine zW_iconst (pc' := 40) dX12_readsCurve_1.2.1.1.1 rfl ?_
              refine zV_cm_ne (tgt := 47) (pc' := 43) dX12_readsCurve_1.2.1.1.2 rfl rfl ⟨by omega, by omega⟩ ⟨by omega, by omega⟩ (fun c40 => ?_) (fun c40 => ?_)
              · refine zW_sipush (pc' := 50) dX12_readsCurve_1.2.2.1.1 rfl rfl ?_
                have y27 := hF.1 0 27 rfl rfl
                obtain ⟨hB, eB⟩ : ∃ z : Hp, z = h := ⟨_, rfl⟩
                have eB31 : hB 0 31 = hA 0 31 := by rw [eB]; omega
                have eB26 : hB 0 26 = h 0 26 := by rw [eB]
                have eB27 : hB 0 27 = h 0 27 := by rw [eB]
                obtain ⟨hB50, eB50⟩ : ∃ z : Hp, z = h := ⟨_, rfl⟩
                have apq : Ap (κ 15) (hB50 15) (κ 0 31) (hB50 0 31) (l) := by rw [eB50]; first | exact ap | exact ap (by omega)
                have y50_0_27 := hF.1 0 27 rfl rfl
                refine cvI2 (pc' := 53) kX12_readsNumber vX12_readsNumber lk_X12_157 ⟨Nat.le_of_ble_eq_true rfl, Nat.le_of_ble_eq_true rfl⟩ tb0 vq12 rfl rfl (s_X12_readsNumberP hF.2.1 hF.2.2.1 hF.2.2.2 _ ⟨by omega, by omega⟩ _ ⟨by omega, by omega⟩ g w (by omega) (by omega) (by rw [hF.cell 12 rfl (fun _ => rfl), hF.1 0 27 rfl rfl]; exact hg) (by omega)) dX12_readsCurve_1.2.2.1.2 (Nat.le_of_ble_eq_true rfl) rfl ?_
                rintro r50 h ⟨hF1, p50⟩; replace hF := hF.tr hF1 rfl
                replace hPre : Pre15 κ h := hPre.tr p50.2.2.2.2.1 (by omega)
                replace hPA : Pre15 hA h := hPA.tr p50.2.2.2.2.1 (by omega)
                have pp := p50
                rw [← eB50] at pp
                have ap : ApI r50 (κ 15) (h 15) (κ 0 31) (h 0 31) (l ++ [nV g w]) := fun z => Ap.tr hq.1 apq (Ap_rn pp.2.2.2.2.1 (pp.2.2.2.2.2.1.resolve_right (fun q => by omega)) (pp.2.2.2.2.2.2.resolve_right (fun q => by omega)))
                clear pp
                refine zV_if_ne (tgt := 58) (pc' := 56) dX12_readsCurve_1.2.2.2.1 rfl rfl ⟨by omega, by omega⟩ (fun c53 => ?_) (fun c53 => ?_)
                · rw [← eB] at p50
                  have hv1 := (p50.2.2.2.2.2.1.resolve_right (fun q => by omega)).2.2.2.2.2
                  rw [eB31] at hv1
                  replace ap := ap (by omega)
                  refine zW_aload_n (pc' := 59) dX12_readsCurve_2.1.1.1.2 rfl rfl ?_
                  refine zG_int (pc' := 62) fg_X12_148 tb0 rfl dX12_readsCurve_2.1.1.2.1 rfl ?_
                  have e59 := hF.rh 0 29
                  refine zW_istore_n (ls' := [_, _]) (pc' := 63) dX12_readsCurve_2.1.1.2.2 (by decide) rfl rfl rfl ?_
                  refine zW_aload_n (pc' := 64) dX12_readsCurve_2.1.2.1.1 rfl rfl ?_
                  refine zW_bipush (pc' := 66) dX12_readsCurve_2.1.2.1.2 rfl rfl ?_
                  have y27 := hF.1 0 27 rfl rfl
                  have y66_0_27 := hF.1 0 27 rfl rfl
                  refine cvI1 (pc' := 69) kX12_takesSign vX12_takesSign lk_X12_154 ⟨Nat.le_of_ble_eq_true rfl, Nat.le_of_ble_eq_true rfl⟩ tb0 vq12 rfl rfl (s_X12_takesSignP hF.2.1 hF.2.2.1 hF.2.2.2 _ ⟨by omega, by omega⟩ g (w + nD g w) (by rw [hF.cell 12 rfl (fun _ => rfl), hF.1 0 27 rfl rfl]; exact hg) (by omega) (by omega)) dX12_readsCurve_2.1.2.2.1 (Nat.le_of_ble_eq_true rfl) rfl ?_
                  rintro r66 h ⟨hF1, p66⟩; replace hF := hF.tr hF1 rfl
                  replace hPre : Pre15 κ h := hPre.fm hF1 (fun _ => rfl)
                  replace hPA : Pre15 hA h := hPA.fm hF1 (fun _ => rfl)
                  replace ap := Ap_eq ap (hF1.cell 15 rfl (fun _ => rfl)) (hF1.1 0 31 rfl rfl)
                  have t66_0_31 := hF1.1 0 31 rfl rfl
                  have t66_0_29 := hF1.1 0 29 rfl rfl
                  have hv2 := (hF1.1 15 (hA 0 31).toNat rfl rfl).trans hv1
                  refine zV_if_eq (tgt := 83) (pc' := 72) dX12_readsCurve_2.1.2.2.2 rfl rfl ⟨by omega, by omega⟩ (fun c69 => ?_) (fun c69 => ?_)
                  · have bd := cu.bad (by omega) (by omega) (by omega)
                    refine zW_iconst (pc' := 84) dX12_readsCurve_2.2.2.1.2 rfl ?_
                    exact zV_zret rfl (by omega) dX12_readsCurve_2.2.2.2.1 ⟨hF, by refine ⟨by omega, by omega, by omega, by omega, hPre, by omega, by omega, fun q => by omega, by omega, fun q => absurd q (by decide)⟩⟩
                  · refine zW_aload_n (pc' := 73) dX12_readsCurve_2.2.1.1.1 rfl rfl ?_
                    refine zW_iconst (pc' := 74) dX12_readsCurve_2.2.1.1.2 rfl ?_
                    refine zW_sipush (pc' := 77) dX12_readsCurve_2.2.1.2.1 rfl rfl ?_
                    have y27 := hF.1 0 27 rfl rfl
                    obtain ⟨hB77, eB77⟩ : ∃ z : Hp, z = h := ⟨_, rfl⟩
                    have apq : Ap (κ 15) (hB77 15) (κ 0 31) (hB77 0 31) (l ++ [nV g w]) := by rw [eB77]; first | exact ap | exact ap (by omega)
                    have y77_0_27 := hF.1 0 27 rfl rfl
                    refine cvI2 (pc' := 80) kX12_readsNumber vX12_readsNumber lk_X12_157 ⟨Nat.le_of_ble_eq_true rfl, Nat.le_of_ble_eq_true rfl⟩ tb0 vq12 rfl rfl (s_X12_readsNumberP hF.2.1 hF.2.2.1 hF.2.2.2 _ ⟨by omega, by omega⟩ _ ⟨by omega, by omega⟩ g (w + nD g w + 1) (by omega) (by omega) (by rw [hF.cell 12 rfl (fun _ => rfl), hF.1 0 27 rfl rfl]; exact hg) (by omega)) dX12_readsCurve_2.2.1.2.2 (Nat.le_of_ble_eq_true rfl) rfl ?_
                    rintro r77 h ⟨hF1, p77⟩; replace hF := hF.tr hF1 rfl
                    replace hPre : Pre15 κ h := hPre.tr p77.2.2.2.2.1 (by omega)
                    replace hPA : Pre15 hA h := hPA.tr p77.2.2.2.2.1 (by omega)
                    have pp := p77
                    rw [← eB77] at pp
                    have ap : ApI r77 (κ 15) (h 15) (κ 0 31) (h 0 31) (l ++ [nV g w] ++ [nV g (w + nD g w + 1)]) := fun z => Ap.tr hq.1 apq (Ap_rn pp.2.2.2.2.1 (pp.2.2.2.2.2.1.resolve_right (fun q => by omega)) (pp.2.2.2.2.2.2.resolve_right (fun q => by omega)))
                    clear pp
                    have hv3 := (p77.2.2.2.2.1 (hA 0 31).toNat (by omega)).trans hv2
                    have hcs := fun (q : r77 = 1) => CvI.step (h := hA) (h' := h) (a := κ 0 31) (b := hA 0 31) (by omega) hcvA (fun j hj => hPA j hj) hv3 (by omega)
                    refine zV_if_ne (tgt := 2) (pc' := 83) dX12_readsCurve_2.2.2.1.1 rfl rfl ⟨by omega, by omega⟩ (fun c80 => ?_) (fun c80 => ?_)
                    · exact k2 _ _ hF (by omega) (by omega) (by omega) hPre (by first | exact Or.inl ⟨rfl, by omega⟩ | (rw [show h 0 31 = hA 0 31 + 2 by omega]; exact hcs (by omega))) (by first | (rw [show h 0 26 = p by omega]; exact CuI.rf (by omega)) | exact cu.step (by omega) (by omega) (by omega) (by omega) (by omega) (by omega)) (by first | exact ⟨[], by rw [show h 0 26 = p by omega]; exact CuJ.rf (by omega), ap⟩ | (refine ⟨l ++ [nV g w, nV g (w + nD g w + 1)], cj.step (by omega) (by omega) (by omega) (by omega) (by omega) pt.2.1 ptY_, ?_⟩; have z := ap (by omega); rw [List.append_assoc] at z; exact z)) (by omega)
                    · have bd := cu.bad (by omega) (by omega) (by omega)
                      refine zW_iconst (pc' := 84) dX12_readsCurve_2.2.2.1.2 rfl ?_
                      exact zV_zret rfl (by omega) dX12_readsCurve_2.2.2.2.1 ⟨hF, by refine ⟨by omega, by omega, by omega, by omega, hPre, by omega, by omega, fun q => by omega, by omega, fun q => absurd q (by decide)⟩⟩
                · have bd := cu.bad (by omega) (by omega) (by omega)
                  refine zW_iconst (pc' := 57) dX12_readsCurve_1.2.2.2.2 rfl ?_
                  exact zV_zret rfl (by omega) dX12_readsCurve_2.1.1.1.1 ⟨hF, by refine ⟨by omega, by omega, by omega, by omega, hPre, by omega, by omega, fun q => by omega, by omega, fun q => absurd q (by decide)⟩⟩
              · exfalso; omega
            · exfalso; omega
          · have pt := ptF_1 (g := g) (p := q) (x := v1) (by omega)
            have c3 := sqc (sF g q 44) (pqF g (q + 1) (v1 + 1) 255)
            have bd := cu.bad (by omega) (by omega) (by omega)
            refine zW_iconst (pc' := 24) dX12_readsCurve_0.2.2.1.1 rfl ?_
            exact zV_zret rfl (by omega) dX12_readsCurve_0.2.2.1.2 ⟨hF, by refine ⟨by omega, by omega, by omega, by omega, hPre, by omega, by omega, fun q => by omega, by omega, fun q => absurd q (by decide)⟩⟩
  refine zM_of [some (.inr (.inr 0)), none] 1 rfl rfl (Nat.le_of_ble_eq_true rfl) rfl ?_
  refine (show ∀ h : Hp, Fm [(0, 26), (0, 28), (0, 29), (0, 31), (15, 999)] κ h → h = κ → zV G mX12_readsCurve (q_X12_readsCurveQ κ g p) 0 [some (.inr (.inr 0)), none] [] h from fun h hF hk0 => ?_) κ (Fm.rf hS hR hC) rfl
  have y0_0_26 : h 0 26 = κ 0 26 := by rw [hk0]
  have y0_0_27 : h 0 27 = κ 0 27 := by rw [hk0]
  have y0_0_31 : h 0 31 = κ 0 31 := by rw [hk0]
  have hPre : Pre15 κ h := by rw [hk0]; exact Pre15.rf
  obtain ⟨hA, eA⟩ : ∃ z : Hp, z = h := ⟨_, rfl⟩
  have hPA : Pre15 hA h := by rw [eA]; exact Pre15.rf
  have ap : Ap (κ 15) (h 15) (κ 0 31) (h 0 31) [] := by rw [hk0]; exact Ap.rf
  refine zW_iconst (pc' := 1) dX12_readsCurve_0.1.1.1.1 rfl ?_
  refine zW_istore_n (ls' := [_, _]) (pc' := 2) dX12_readsCurve_0.1.1.1.2 (by decide) rfl rfl rfl ?_
  exact (main 10000000000000000000000000000000000000000) _ _ hF (by omega) (by omega) (by omega) hPre (by first | exact Or.inl ⟨rfl, by omega⟩ | (rw [show h 0 31 = hA 0 31 + 2 by omega]; exact hcs (by omega))) (by first | (rw [show h 0 26 = p by omega]; exact CuI.rf (by omega)) | exact cu.step (by omega) (by omega) (by omega) (by omega) (by omega) (by omega)) (by first | exact ⟨[], by rw [show h 0 26 = p by omega]; exact CuJ.rf (by omega), ap⟩ | (refine ⟨l ++ [nV g w, nV g (w + nD g w + 1)], cj.step (by omega) (by omega) (by omega) (by omega) (by omega) pt.2.1 ptY_, ?_⟩; have z := ap (by omega); rw [List.append_assoc] at z; exact z)) (by omega)
