abbrev q_X6_readPointsQ (κ : Hp) (g : Int → Int) (p : Int) (m : Int) (e : Int) : Int → Hp → Prop := fun r h' => Fm [(53, 3), (53, 4), (51, 999), (52, 999)] κ h' ∧ ((h' 53 4 = cuF g 200 p (-1) ∧ (h' 53 4 = 0 → h' 53 3 = cuE g 200 p (-1)) ∧ h' 53 4 ≤ 0 ∧ κ 53 3 ≤ h' 53 3 ∧ (h' 53 3 = κ 53 3 ∨ h' 53 3 ≤ κ 53 2) ∧ CA κ h' m e (cuL g 200 p (-1)) ∧ SMx (κ 51) (h' 51) (m + 1).toNat))
set_option maxHeartbeats 4000000 in
set_option maxRecDepth 20000 in
theorem s_X6_readPointsQ {G : Ga} {κ : Hp} (hS : SI κ) (hR : KR κ) (hC : KC κ) (g : Int → Int) (p : Int) (m : Int) (e : Int) (hg : hr (κ 32) (κ 53 2) = g) (hn : 0 ≤ κ 53 2 ∧ κ 53 2 ≤ 120 ∧ κ 53 2 ≤ κ 31 1) (hp : (κ 53 4 = 0 ∧ κ 53 3 = p ∧ 0 ≤ p)) (ha : κ 53 3 ≤ 150) (hM : κ 49 0 = m ∧ 0 ≤ m ∧ m ≤ 12) (he : κ 51 (m + 1).toNat = e ∧ 0 ≤ e ∧ 2 * e ≤ p ∧ p ≤ κ 53 2) : zM G mX6_readPoints yX6_readPoints [.inr (.inr 53)] κ (q_X6_readPointsQ κ g p m e) := by
  have f_31_1 := KCt hC
  have f_49_0 := KCd0 hC
  have main : ∀ N : Nat, (∀ (v1 v2 : Int) (h : Hp), Fm [(53, 3), (53, 4), (51, 999), (52, 999)] κ h → (0 ≤ v1 ∧ v1 ≤ 999) → (0 ≤ v2 ∧ v2 ≤ 64) → (0 ≤ h 53 3 ∧ κ 53 3 ≤ h 53 3 ∧ (h 53 3 = κ 53 3 ∨ h 53 3 ≤ κ 53 2) ∧ h 53 4 ≤ 0) → (h 53 4 ≠ 0 → h 53 4 = cuF g 200 p (-1)) → (h 53 4 = 0 → CuI g p (h 53 3) v1) → (h 53 4 = 0 → 4 * v2 + 3 ≤ h 53 3 ∧ v1 ≤ 255) → (PB g p κ h v1 v2 m e) → (SMx (κ 51) (h 51) (m + 1).toNat) → 65472 + 32 * (64 - v2) + 31 < (N : Int) → zV G mX6_readPoints (q_X6_readPointsQ κ g p m e) 24 [some (.inr (.inr 53)), some (.inl v1), some (.inl v2)] [] h) := by
    intro N
    induction N with
    | zero =>
      intro v1 v2 h hF g0 g1 gc0 gc1 gc2 gc3 gc4 gc5 hm
      exfalso; omega
    | succ N ih =>
      have k24 := ih
      intro v1 v2 h hF g0 g1 gc0 gc1 gc2 gc3 gc4 gc5 hm
      refine zW_iload_n (pc' := 25) dX6_readPoints_0.2.2.2.2 rfl rfl ?_
      refine zW_bipush (pc' := 27) dX6_readPoints_1.1.1.1.1 rfl rfl ?_
      refine zV_cm_ge (tgt := 82) (pc' := 30) dX6_readPoints_1.1.1.1.2 rfl rfl ⟨by omega, by omega⟩ ⟨by omega, by omega⟩ (fun c27 => ?_) (fun c27 => ?_)
      · exact zV_vret rfl dX6_readPoints_2.2.2.2 ⟨hF, by have pz : h 53 4 = cuF g 200 p (-1) ∧ (h 53 4 = 0 → h 53 3 = cuE g 200 p (-1)) ∧ h 53 4 ≤ 0 ∧ κ 53 3 ≤ h 53 3 ∧ (h 53 3 = κ 53 3 ∨ h 53 3 ≤ κ 53 2) := (by first | omega | (have z := gc2 (by omega); rw [show v1 = 255 by omega] at z; have z2 := z.end; omega)); exact ⟨pz.1, pz.2.1, pz.2.2.1, pz.2.2.2.1, pz.2.2.2.2, fun z => by obtain ⟨-, l, cj, apl, -⟩ := gc4 z; rw [show v1 = 255 by omega] at cj; rw [cj.end]; exact apl, gc5⟩⟩
      · refine zW_aload_n (pc' := 31) dX6_readPoints_1.1.1.2.1 rfl rfl ?_
        refine zG_int (pc' := 34) fg_X6_32 tb53 rfl dX6_readPoints_1.1.1.2.2 rfl ?_
        have e31 := hF.rh 53 4
        refine zV_if_ne (tgt := 82) (pc' := 37) dX6_readPoints_1.1.2.1.1 rfl rfl ⟨by omega, by omega⟩ (fun c34 => ?_) (fun c34 => ?_)
        · exact zV_vret rfl dX6_readPoints_2.2.2.2 ⟨hF, by have pz : h 53 4 = cuF g 200 p (-1) ∧ (h 53 4 = 0 → h 53 3 = cuE g 200 p (-1)) ∧ h 53 4 ≤ 0 ∧ κ 53 3 ≤ h 53 3 ∧ (h 53 3 = κ 53 3 ∨ h 53 3 ≤ κ 53 2) := (by first | omega | (have z := gc2 (by omega); rw [show v1 = 255 by omega] at z; have z2 := z.end; omega)); exact ⟨pz.1, pz.2.1, pz.2.2.1, pz.2.2.2.1, pz.2.2.2.2, fun z => by obtain ⟨-, l, cj, apl, -⟩ := gc4 z; rw [show v1 = 255 by omega] at cj; rw [cj.end]; exact apl, gc5⟩⟩
        · refine zW_iload_n (pc' := 38) dX6_readPoints_1.1.2.1.2 rfl rfl ?_
          refine zW_sipush (pc' := 41) dX6_readPoints_1.1.2.2.1 rfl rfl ?_
          refine zV_cm_ge (tgt := 82) (pc' := 44) dX6_readPoints_1.1.2.2.2 rfl rfl ⟨by omega, by omega⟩ ⟨by omega, by omega⟩ (fun c41 => ?_) (fun c41 => ?_)
          · exact zV_vret rfl dX6_readPoints_2.2.2.2 ⟨hF, by have pz : h 53 4 = cuF g 200 p (-1) ∧ (h 53 4 = 0 → h 53 3 = cuE g 200 p (-1)) ∧ h 53 4 ≤ 0 ∧ κ 53 3 ≤ h 53 3 ∧ (h 53 3 = κ 53 3 ∨ h 53 3 ≤ κ 53 2) := (by first | omega | (have z := gc2 (by omega); rw [show v1 = 255 by omega] at z; have z2 := z.end; omega)); exact ⟨pz.1, pz.2.1, pz.2.2.1, pz.2.2.2.1, pz.2.2.2.2, fun z => by obtain ⟨-, l, cj, apl, -⟩ := gc4 z; rw [show v1 = 255 by omega] at cj; rw [cj.end]; exact apl, gc5⟩⟩
          · obtain ⟨q, eq⟩ : ∃ q : Int, q = h 53 3 := ⟨_, rfl⟩
            have cu := gc2 (by omega)
            rw [← eq] at cu
            have g3 := gc3 (by omega)
            clear gc1 gc2 gc3
            obtain ⟨b4, l, cj, apl, ll⟩ := gc4 (by omega)
            rw [← eq] at cj
            have ca : CA κ h m e l := fun _ => apl
            have sm := gc5
            refine zW_aload_n (pc' := 45) dX6_readPoints_1.2.1.1.1 rfl rfl ?_
            refine zW_bipush (pc' := 47) dX6_readPoints_1.2.1.1.2 rfl rfl ?_
            have y47_31_1 := hF.1 31 1 rfl rfl
            have y47_53_2 := hF.1 53 2 rfl rfl
            refine cvV1 (pc' := 50) kX6_expect vX6_expect lk_X6_45 ⟨Nat.le_of_ble_eq_true rfl, Nat.le_of_ble_eq_true rfl⟩ tb53 vq6 rfl rfl (s_X6_expectP hF.2.1 hF.2.2.1 hF.2.2.2 _ ⟨by omega, by omega⟩ g q (by rw [hF.cell 32 rfl (fun _ => rfl), hF.1 53 2 rfl rfl]; exact hg) (by omega) (by omega) (by omega) (by omega)) dX6_readPoints_1.2.1.2.1 (Nat.le_of_ble_eq_true rfl) rfl ?_
            rintro r47 h ⟨hF1, p47⟩; replace hF := hF.tr hF1 rfl
            replace ca := ca.eq (hF1.cell 51 rfl (fun _ => rfl)) (hF1.cell 52 rfl (fun _ => rfl)) (fun z => sq_0l (p47.1.symm.trans z))
            replace sm : SMx (κ 51) (h 51) (m + 1).toNat := by rw [hF1.cell 51 rfl (fun _ => rfl)]; exact sm
            have e0 : h 53 4 = sF g q 44 := p47.1.trans (sq_z (by omega))
            have i0 := p47.2.1
            have b0 := p47.2.2
            clear p47
            refine zW_aload_n (pc' := 51) dX6_readPoints_1.2.1.2.2 rfl rfl ?_
            refine zW_iload_n (pc' := 52) dX6_readPoints_1.2.2.1.1 rfl rfl ?_
            refine zW_iconst (pc' := 53) dX6_readPoints_1.2.2.1.2 rfl ?_
            refine zW_iadd (pc' := 54) dX6_readPoints_1.2.2.2.1 rfl ?_
            refine zW_sipush (pc' := 57) dX6_readPoints_1.2.2.2.2 rfl rfl ?_
            have y57_31_1 := hF.1 31 1 rfl rfl
            have y57_49_0 := hF.1 49 0 rfl rfl
            have y57_53_2 := hF.1 53 2 rfl rfl
            refine cvI2 (pc' := 60) kX6_readNumber vX6_readNumber lk_X6_87 ⟨Nat.le_of_ble_eq_true rfl, Nat.le_of_ble_eq_true rfl⟩ tb53 vq6 rfl rfl (s_X6_readNumberQ hF.2.1 hF.2.2.1 hF.2.2.2 _ ⟨by omega, by omega⟩ _ ⟨by omega, by omega⟩ g (q + 1) m (h 51 (m + 1).toNat) (by rw [hF.cell 32 rfl (fun _ => rfl), hF.1 53 2 rfl rfl]; exact hg) (by omega) (fun z => ⟨i0 z, by omega⟩) (by omega) (by omega) ⟨(hF.1 49 0 rfl rfl).trans hM.1, hM.2⟩ (fun z => by have a := (ca z).1; (try simp only [List.length_append, List.length_cons, List.length_nil] at a); exact ⟨rfl, by omega, by omega⟩)) dX6_readPoints_2.1.1.1.1 (Nat.le_of_ble_eq_true rfl) rfl ?_
            rintro r57 h ⟨hF1, p57⟩; replace hF := hF.tr hF1 rfl
            replace ca := CA.tr he.2.1 ca p57.2.2.2.2.2.2.2.1 (fun z => sq_0l (p57.2.2.1.symm.trans z))
            replace sm := sm.tr p57.2.2.2.2.2.2.2.2
            have e1 : h 53 4 = sq (sF g q 44) (nF g (q + 1) (v1 + 1) 255) := by rw [p57.2.2.1, e0]
            have i1 := p57.2.2.2.1
            have b1 := p57.2.2.2.2
            have r1b := And.intro p57.1 p57.2.1
            clear p57
            refine zW_istore_n (ls' := [_, _, _]) (pc' := 61) dX6_readPoints_2.1.1.1.2 (by decide) rfl rfl rfl ?_
            refine zW_aload_n (pc' := 62) dX6_readPoints_2.1.1.2.1 rfl rfl ?_
            refine zW_bipush (pc' := 64) dX6_readPoints_2.1.1.2.2 rfl rfl ?_
            have y64_31_1 := hF.1 31 1 rfl rfl
            have y64_53_2 := hF.1 53 2 rfl rfl
            refine cvV1 (pc' := 67) kX6_expect vX6_expect lk_X6_45 ⟨Nat.le_of_ble_eq_true rfl, Nat.le_of_ble_eq_true rfl⟩ tb53 vq6 rfl rfl (s_X6_expectP hF.2.1 hF.2.2.1 hF.2.2.2 _ ⟨by omega, by omega⟩ g (q + 1 + nD g (q + 1)) (by rw [hF.cell 32 rfl (fun _ => rfl), hF.1 53 2 rfl rfl]; exact hg) (by omega) (fun z => ⟨(i1 z).1, by have := nDp g (q + 1); omega⟩) (by omega) (by omega)) dX6_readPoints_2.1.2.1.1 (Nat.le_of_ble_eq_true rfl) rfl ?_
            rintro r64 h ⟨hF1, p64⟩; replace hF := hF.tr hF1 rfl
            replace ca := ca.eq (hF1.cell 51 rfl (fun _ => rfl)) (hF1.cell 52 rfl (fun _ => rfl)) (fun z => sq_0l (p64.1.symm.trans z))
            replace sm : SMx (κ 51) (h 51) (m + 1).toNat := by rw [hF1.cell 51 rfl (fun _ => rfl)]; exact sm
            have e2 : h 53 4 = sq (sq (sF g q 44) (nF g (q + 1) (v1 + 1) 255)) (sF g (q + 1 + nD g (q + 1)) 62) := by rw [p64.1, e1]
            have i2 := p64.2.1
            have b2 := p64.2.2
            clear p64
            refine zW_aload_n (pc' := 68) dX6_readPoints_2.1.2.1.2 rfl rfl ?_
            refine zW_iconst (pc' := 69) dX6_readPoints_2.1.2.2 rfl ?_
            refine zW_sipush (pc' := 72) dX6_readPoints_2.2.1.1.1 rfl rfl ?_
            have y72_31_1 := hF.1 31 1 rfl rfl
            have y72_49_0 := hF.1 49 0 rfl rfl
            have y72_53_2 := hF.1 53 2 rfl rfl
            refine cvI2 (pc' := 75) kX6_readNumber vX6_readNumber lk_X6_87 ⟨Nat.le_of_ble_eq_true rfl, Nat.le_of_ble_eq_true rfl⟩ tb53 vq6 rfl rfl (s_X6_readNumberQ hF.2.1 hF.2.2.1 hF.2.2.2 _ ⟨by omega, by omega⟩ _ ⟨by omega, by omega⟩ g (q + 1 + nD g (q + 1) + 1) m (h 51 (m + 1).toNat) (by rw [hF.cell 32 rfl (fun _ => rfl), hF.1 53 2 rfl rfl]; exact hg) (by omega) (fun z => ⟨i2 z, by have := nDp g (q + 1); omega⟩) (by omega) (by omega) ⟨(hF.1 49 0 rfl rfl).trans hM.1, hM.2⟩ (fun z => by have a := (ca z).1; (try simp only [List.length_append, List.length_cons, List.length_nil] at a); exact ⟨rfl, by omega, by omega⟩)) dX6_readPoints_2.2.1.1.2 (Nat.le_of_ble_eq_true rfl) rfl ?_
            rintro r72 h ⟨hF1, p72⟩; replace hF := hF.tr hF1 rfl
            replace ca := CA.tr he.2.1 ca p72.2.2.2.2.2.2.2.1 (fun z => sq_0l (p72.2.2.1.symm.trans z))
            replace sm := sm.tr p72.2.2.2.2.2.2.2.2
            have w1e : h 53 4 = sq (sq (sq (sF g q 44) (nF g (q + 1) (v1 + 1) 255)) (sF g (q + 1 + nD g (q + 1)) 62)) (nF g (q + 1 + nD g (q + 1) + 1) 0 255) := by rw [p72.2.2.1, e2]
            have pt := ptF_1 (g := g) (p := q) (x := v1) (by omega)
            have w1 : h 53 4 = ptF g q v1 := by rw [w1e, pt.1]; unfold pqF; rw [sq_as, sq_as, sq_as]
            have i3 := p72.2.2.2.1
            have b3 := p72.2.2.2.2
            clear p72
            have z0 : h 53 4 = 0 → sq (sF g q 44) (nF g (q + 1) (v1 + 1) 255) = 0 := fun z => sq_0l (sq_0l (w1e.symm.trans z))
            have z2 : h 53 4 = 0 → (nF g (q + 1 + nD g (q + 1) + 1) 0 255) = 0 := fun z => sq_0r (w1e.symm.trans z)
            have w2 : h 53 4 ≠ 0 → h 53 4 = cuF g 200 p (-1) := fun z => by rw [cu.bad (by omega) (by omega) (fun y => z (w1.trans y))]; exact w1
            have w3 : h 53 4 = 0 → CuI g p (h 53 3) r57 := fun z => cu.step (by omega) (by omega) (w1.symm.trans z) (pt.2.1.trans (i1 (e1.trans (z0 z))).2.symm) (pt.2.2.trans (by show q + 1 + nD g (q + 1) + 1 + nD g (q + 1 + nD g (q + 1) + 1) = h 53 3; exact (i3 z).1.symm)) (by have a := (i3 z).1; have b := nDp g (q + 1); have c := nDp g (q + 1 + nD g (q + 1) + 1); omega)
            have w4 : h 53 4 = 0 → 4 * (v2 + 1) + 3 ≤ h 53 3 ∧ r57 ≤ 255 := fun z => by have a := (i3 z).1; have b := nFz (sq_0r (z0 z)) (by omega); have c := nFz (z2 z) (by omega); have d := (i1 (e1.trans (z0 z))).2; omega
            have pb : PB g p κ h r57 (v2 + 1) m e := fun z => by have a := (i3 z).1; have b := nFz (sq_0r (z0 z)) (by omega); have c := nFz (z2 z) (by omega); have d := (i1 (e1.trans (z0 z))).2; have f := i2 (e2.trans (sq_0l (w1e.symm.trans z))); refine ⟨⟨by omega, by omega⟩, l ++ [nV g (q + 1), nV g (q + 1 + nD g (q + 1) + 1)], cj.step (by omega) (by omega) (pt.2.1.trans d.symm) (pt.2.2.trans (by show q + 1 + nD g (q + 1) + 1 + nD g (q + 1 + nD g (q + 1) + 1) = h 53 3; exact a.symm)) (by omega) pt.2.1 (ptY_1 (by omega)), ?_, ?_⟩; (have y := ca z; rw [List.append_assoc] at y; exact y); (rw [List.length_append]; show ((l.length + 2 : Nat) : Int) = _; omega)
            clear i0 i1 i2 i3 z0 z2 e0 e1 e2 w1e w1 pt
            refine zW_pop (pc' := 76) dX6_readPoints_2.2.1.2 rfl rfl ?_
            refine zW_iinc (ls' := [_, _, _]) (pc' := 79) dX6_readPoints_2.2.2.1.1 rfl (by decide) rfl rfl rfl ?_
            refine zV_goto 24 dX6_readPoints_2.2.2.1.2 rfl ?_
            exact k24 _ _ _ hF (by omega) (by omega) (by omega) w2 w3 (fun q => by have := w4 q; omega) pb sm (by omega)
  refine zM_of [some (.inr (.inr 53)), none, none] 2 rfl rfl (Nat.le_of_ble_eq_true rfl) rfl ?_
  refine (show ∀ h : Hp, Fm [(53, 3), (53, 4), (51, 999), (52, 999)] κ h → h = κ → zV G mX6_readPoints (q_X6_readPointsQ κ g p m e) 0 [some (.inr (.inr 53)), none, none] [] h from fun h hF hk0 => ?_) κ (Fm.rf hS hR hC) rfl
  have y0_53_3 : h 53 3 = κ 53 3 := by rw [hk0]
  have y0_53_4 : h 53 4 = κ 53 4 := by rw [hk0]
  have ca : CA κ h m e [] := fun _ => by rw [hk0, he.1]; exact Ap.rf
  have sm : SMx (κ 51) (h 51) (m + 1).toNat := by rw [hk0]; exact SMx.rf
  refine zW_aload_n (pc' := 1) dX6_readPoints_0.1.1.1.1 rfl rfl ?_
  refine zW_iconst (pc' := 2) dX6_readPoints_0.1.1.1.2 rfl ?_
  refine zW_iconst (pc' := 3) dX6_readPoints_0.1.1.2.1 rfl ?_
  have y3_31_1 := hF.1 31 1 rfl rfl
  have y3_49_0 := hF.1 49 0 rfl rfl
  have y3_53_2 := hF.1 53 2 rfl rfl
  refine cvI2 (pc' := 6) kX6_readNumber vX6_readNumber lk_X6_87 ⟨Nat.le_of_ble_eq_true rfl, Nat.le_of_ble_eq_true rfl⟩ tb53 vq6 rfl rfl (s_X6_readNumberQ hF.2.1 hF.2.2.1 hF.2.2.2 _ ⟨by omega, by omega⟩ _ ⟨by omega, by omega⟩ g p m (h 51 (m + 1).toNat) (by rw [hF.cell 32 rfl (fun _ => rfl), hF.1 53 2 rfl rfl]; exact hg) (by omega) (by omega) (by omega) (by omega) ⟨(hF.1 49 0 rfl rfl).trans hM.1, hM.2⟩ (fun z => by have a := (ca z).1; (try simp only [List.length_append, List.length_cons, List.length_nil] at a); exact ⟨rfl, by omega, by omega⟩)) dX6_readPoints_0.1.1.2.2 (Nat.le_of_ble_eq_true rfl) rfl ?_
  rintro r3 h ⟨hF1, p3⟩; replace hF := hF.tr hF1 rfl
  replace ca := CA.tr he.2.1 ca p3.2.2.2.2.2.2.2.1 (fun z => sq_0l (p3.2.2.1.symm.trans z))
  replace sm := sm.tr p3.2.2.2.2.2.2.2.2
  have hp0 : 0 ≤ p := by omega
  have e1 : h 53 4 = nF g p 0 0 := p3.2.2.1.trans (sq_z (by omega))
  have i1 := p3.2.2.2.1
  have b1 := And.intro p3.2.2.2.2.1 p3.2.2.2.2.2
  have r1b := And.intro p3.1 p3.2.1
  clear p3
  refine zW_istore_n (ls' := [_, _, _]) (pc' := 7) dX6_readPoints_0.1.2.1.1 (by decide) rfl rfl rfl ?_
  refine zW_aload_n (pc' := 8) dX6_readPoints_0.1.2.1.2 rfl rfl ?_
  refine zW_bipush (pc' := 10) dX6_readPoints_0.1.2.2.1 rfl rfl ?_
  have y10_31_1 := hF.1 31 1 rfl rfl
  have y10_53_2 := hF.1 53 2 rfl rfl
  refine cvV1 (pc' := 13) kX6_expect vX6_expect lk_X6_45 ⟨Nat.le_of_ble_eq_true rfl, Nat.le_of_ble_eq_true rfl⟩ tb53 vq6 rfl rfl (s_X6_expectP hF.2.1 hF.2.2.1 hF.2.2.2 _ ⟨by omega, by omega⟩ g (p + nD g p) (by rw [hF.cell 32 rfl (fun _ => rfl), hF.1 53 2 rfl rfl]; exact hg) (by omega) (fun z => ⟨(i1 z).1, by have := nDp g p; omega⟩) (by omega) (by omega)) dX6_readPoints_0.1.2.2.2 (Nat.le_of_ble_eq_true rfl) rfl ?_
  rintro r10 h ⟨hF1, p10⟩; replace hF := hF.tr hF1 rfl
  replace ca := ca.eq (hF1.cell 51 rfl (fun _ => rfl)) (hF1.cell 52 rfl (fun _ => rfl)) (fun z => sq_0l (p10.1.symm.trans z))
  replace sm : SMx (κ 51) (h 51) (m + 1).toNat := by rw [hF1.cell 51 rfl (fun _ => rfl)]; exact sm
  have e2 : h 53 4 = sq (nF g p 0 0) (sF g (p + nD g p) 62) := by rw [p10.1, e1]
  have i2 := p10.2.1
  have b2 := p10.2.2
  clear p10
  refine zW_aload_n (pc' := 14) dX6_readPoints_0.2.1.1.1 rfl rfl ?_
  refine zW_iconst (pc' := 15) dX6_readPoints_0.2.1.1.2 rfl ?_
  refine zW_sipush (pc' := 18) dX6_readPoints_0.2.1.2.1 rfl rfl ?_
  have y18_31_1 := hF.1 31 1 rfl rfl
  have y18_49_0 := hF.1 49 0 rfl rfl
  have y18_53_2 := hF.1 53 2 rfl rfl
  refine cvI2 (pc' := 21) kX6_readNumber vX6_readNumber lk_X6_87 ⟨Nat.le_of_ble_eq_true rfl, Nat.le_of_ble_eq_true rfl⟩ tb53 vq6 rfl rfl (s_X6_readNumberQ hF.2.1 hF.2.2.1 hF.2.2.2 _ ⟨by omega, by omega⟩ _ ⟨by omega, by omega⟩ g (p + nD g p + 1) m (h 51 (m + 1).toNat) (by rw [hF.cell 32 rfl (fun _ => rfl), hF.1 53 2 rfl rfl]; exact hg) (by omega) (fun z => ⟨i2 z, by have := nDp g p; omega⟩) (by omega) (by omega) ⟨(hF.1 49 0 rfl rfl).trans hM.1, hM.2⟩ (fun z => by have a := (ca z).1; (try simp only [List.length_append, List.length_cons, List.length_nil] at a); exact ⟨rfl, by omega, by omega⟩)) dX6_readPoints_0.2.1.2.2 (Nat.le_of_ble_eq_true rfl) rfl ?_
  rintro r18 h ⟨hF1, p18⟩; replace hF := hF.tr hF1 rfl
  replace ca := CA.tr he.2.1 ca p18.2.2.2.2.2.2.2.1 (fun z => sq_0l (p18.2.2.1.symm.trans z))
  replace sm := sm.tr p18.2.2.2.2.2.2.2.2
  have w1e : h 53 4 = sq (sq (nF g p 0 0) (sF g (p + nD g p) 62)) (nF g (p + nD g p + 1) 0 255) := by rw [p18.2.2.1, e2]
  have w1 : h 53 4 = ptF g p (-1) := w1e
  have i3 := p18.2.2.2.1
  have b3 := p18.2.2.2.2
  clear p18
  have z1 : h 53 4 = 0 → nF g p 0 0 = 0 := fun q => sq_0l (sq_0l (w1e.symm.trans q))
  have z2 : h 53 4 = 0 → nF g (p + nD g p + 1) 0 255 = 0 := fun q => sq_0r (w1e.symm.trans q)
  have w2 : h 53 4 ≠ 0 → h 53 4 = cuF g 200 p (-1) := fun q => by rw [(CuI.rf (g := g) (p := p) hp0).bad (by decide) (by omega) (fun z => q (w1.trans z))]; exact w1
  have w3 : h 53 4 = 0 → CuI g p (h 53 3) r3 := fun q => (CuI.rf (g := g) (p := p) hp0).step (by decide) (by omega) (w1.symm.trans q) (by show nV g p = r3; exact (i1 (e1.trans (z1 q))).2.symm) (by show p + nD g p + 1 + nD g (p + nD g p + 1) = h 53 3; exact (i3 q).1.symm) (by have a := (i3 q).1; have b := nDp g p; have c := nDp g (p + nD g p + 1); omega)
  have w4 : h 53 4 = 0 → 3 ≤ h 53 3 ∧ r3 ≤ 255 := fun q => by have a := (i3 q).1; have b := nFz (z1 q) hp0; have c := nFz (z2 q) (by omega); have d := (i1 (e1.trans (z1 q))).2; omega
  have pb : PB g p κ h r3 0 m e := fun q => by have a := (i3 q).1; have b := nFz (z1 q) hp0; have c := nFz (z2 q) (by omega); have d := (i1 (e1.trans (z1 q))).2; have f := i2 (e2.trans (sq_0l (w1e.symm.trans q))); refine ⟨⟨by omega, by omega⟩, [nV g p, nV g (p + nD g p + 1)], (CuJ.rf (g := g) (p := p) hp0).step (by decide) (by omega) (by show nV g p = r3; exact d.symm) (by show p + nD g p + 1 + nD g (p + nD g p + 1) = h 53 3; exact a.symm) (by omega) rfl rfl, ca q, rfl⟩
  clear i1 i2 i3 z1 z2 e1 e2 w1e w1
  refine zW_pop (pc' := 22) dX6_readPoints_0.2.2.1.1 rfl rfl ?_
  refine zW_iconst (pc' := 23) dX6_readPoints_0.2.2.1.2 rfl ?_
  refine zW_istore_n (ls' := [_, _, _]) (pc' := 24) dX6_readPoints_0.2.2.2.1 (by decide) rfl rfl rfl ?_
  exact (main 10000000000000000000000000000000000000000) _ _ _ hF (by omega) (by omega) (by omega) w2 w3 (fun q => by have := w4 q; omega) pb sm (by omega)

abbrev q_X6_readLetterQ (κ : Hp) (g : Int → Int) (p : Int) (m : Int) : Int → Hp → Prop := fun r h' => Fm [(53, 3), (53, 4), (49, 0), (49, 1), (50, 999), (51, 999), (52, 999)] κ h' ∧ ((-1 ≤ r) ∧ (r ≤ 14) ∧ (r = kd (g p) ∧ h' 53 4 = lF g p (κ 49 0) (κ 49 1) ∧ (h' 53 4 = 0 → h' 53 3 = p + 1 ∧ h' 49 0 = κ 49 0 + 1 ∧ (r = 4 → h' 49 1 = κ 49 0 + 1) ∧ (r ≠ 4 → h' 49 1 = κ 49 1)) ∧ κ 53 3 ≤ h' 53 3 ∧ (h' 53 3 = κ 53 3 ∨ h' 53 3 ≤ κ 53 2) ∧ LQ g p κ h' m))
set_option maxHeartbeats 4000000 in
set_option maxRecDepth 20000 in
theorem s_X6_readLetterQ {G : Ga} {κ : Hp} (hS : SI κ) (hR : KR κ) (hC : KC κ) (g : Int → Int) (p : Int) (m : Int) (hg : hr (κ 32) (κ 53 2) = g) (hn : 0 ≤ κ 53 2 ∧ κ 53 2 ≤ 120 ∧ κ 53 2 ≤ κ 31 1) (hb : ∀ q : Int, -1 ≤ g q ∧ g q ≤ 255) (hp : (κ 53 4 = 0 ∧ κ 53 3 = p ∧ 0 ≤ p)) (ha : κ 53 3 ≤ 150) (hX : XI G) (hM : κ 49 0 = m ∧ 0 ≤ m ∧ m ≤ 12) : zM G mX6_readLetter yX6_readLetter [.inr (.inr 53)] κ (q_X6_readLetterQ κ g p m) := by
  have f_31_1 := KCt hC
  have f_41_0 := KCm hC
  have f_41_1 := KCf hC
  have f_45_0 := KCr0 hC
  have f_45_1 := KCr1 hC
  have f_49_0 := KCd0 hC
  have f_49_1 := KCd1 hC
  have lf := lFc g p (κ 49 0) (κ 49 1)
  have kf := kd_f (g p)
  have hbp := hb p
  skip
  refine zM_of [some (.inr (.inr 53)), none, none] 2 rfl rfl (Nat.le_of_ble_eq_true rfl) rfl ?_
  refine (show ∀ h : Hp, Fm [(53, 3), (53, 4), (49, 0), (49, 1), (50, 999), (51, 999), (52, 999)] κ h → h = κ → zV G mX6_readLetter (q_X6_readLetterQ κ g p m) 0 [some (.inr (.inr 53)), none, none] [] h from fun h hF hk0 => ?_) κ (Fm.rf hS hR hC) rfl
  have y0_53_3 : h 53 3 = κ 53 3 := by rw [hk0]
  have y0_53_4 : h 53 4 = κ 53 4 := by rw [hk0]
  have y0_49_0 : h 49 0 = κ 49 0 := by rw [hk0]
  have y0_49_1 : h 49 1 = κ 49 1 := by rw [hk0]
  refine zW_aload_n (pc' := 1) dX6_readLetter_0.1.1.1.1 rfl rfl ?_
  have y1_31_1 := hF.1 31 1 rfl rfl
  have y1_53_2 := hF.1 53 2 rfl rfl
  refine cvI0 (pc' := 4) kX6_here vX6_here lk_X6_56 ⟨Nat.le_of_ble_eq_true rfl, Nat.le_of_ble_eq_true rfl⟩ tb53 vq6 rfl rfl (s_X6_hereP (b := bdB true) (κ := h) hF.2.2.2 (Fr.rf hF.2.1) g p (by rw [hF.cell 32 rfl (fun _ => rfl), hF.1 53 2 rfl rfl]; exact hg) (by omega) (by omega)) dX6_readLetter_0.1.1.1.2 (Nat.le_of_ble_eq_true rfl) rfl ?_
  rintro r1 z1 ⟨hz1, p1⟩; subst z1
  refine zW_istore_n (ls' := [_, _, _]) (pc' := 5) dX6_readLetter_0.1.1.2.1 (by decide) rfl rfl rfl ?_
  have kb := kd_b (g p)
  refine zW_iload_n (pc' := 6) dX6_readLetter_0.1.1.2.2 rfl rfl ?_
  refine zV_if_ge (tgt := 13) (pc' := 9) dX6_readLetter_0.1.2.1.1 rfl rfl ⟨by omega, by omega⟩ (fun c6 => ?_) (fun c6 => ?_)
  · refine zV_ldcS (k := 106) (pc' := 15) (fun U hU => (hX U hU).2.2.1) dX6_readLetter_0.1.2.2.2 rfl ?_
    refine zW_iload_n (pc' := 16) dX6_readLetter_0.2.1.1.1 rfl rfl ?_
    refine zW_i2cE (pc' := 17) ⟨by omega, by omega⟩ dX6_readLetter_0.2.1.1.2 rfl (fun v16 e16 => ?_)
    refine cwI1 (z := 0) hX (by decide) rfl (pc' := 20) kJ0_indexOf_0f7a4 vJ0_indexOf_0f7a4 lk_X6_65 ⟨Nat.le_of_ble_eq_true rfl, Nat.le_of_ble_eq_true rfl⟩ rfl (s_J0_indexOf_0f7a4S0P (b := bdB true) (κ := h) (Fr.rf hF.2.1) _ ⟨by omega, by omega⟩ hX) dX6_readLetter_0.2.1.2.1 (Nat.le_of_ble_eq_true rfl) rfl ?_
    rintro r17 z17 ⟨hz17, p17⟩; subst z17
    first | have k20 : r17 = kd (g p) := by rw [kd_ix p17.2.2, show v16 = g p by omega] | have k20 : (-1 : Int) = kd (g p) := (kd_n (by omega)).symm
    refine zW_istore_n (ls' := [_, _, _]) (pc' := 21) dX6_readLetter_0.2.1.2.2 (by decide) rfl rfl rfl ?_
    refine zW_iload_n (pc' := 22) dX6_readLetter_0.2.2.1.1 rfl rfl ?_
    refine zV_if_ge (tgt := 37) (pc' := 25) dX6_readLetter_0.2.2.1.2 rfl rfl ⟨by omega, by omega⟩ (fun c22 => ?_) (fun c22 => ?_)
    · refine zW_aload_n (pc' := 38) dX6_readLetter_1.1.2.1.1 rfl rfl ?_
      refine zG_ref (pc' := 41) 49 fg_X6_12 tb53 rfl dX6_readLetter_1.1.2.1.2 rfl ?_
      refine zG_int (pc' := 44) fg_X6_38 tb49 rfl dX6_readLetter_1.1.2.2.1 rfl ?_
      have e41 := KCd0 hF.2.2.2
      refine zW_bipush (pc' := 46) dX6_readLetter_1.1.2.2.2 rfl rfl ?_
      refine zV_cm_ne (tgt := 61) (pc' := 49) dX6_readLetter_1.2.1.1.1 rfl rfl ⟨by omega, by omega⟩ ⟨by omega, by omega⟩ (fun c46 => ?_) (fun c46 => ?_)
      · refine zW_iload_n (pc' := 62) dX6_readLetter_1.2.2.2.2 rfl rfl ?_
        refine zW_iconst (pc' := 63) dX6_readLetter_2.1.1.1.1 rfl ?_
        refine zV_cm_gt (tgt := 70) (pc' := 66) dX6_readLetter_2.1.1.1.2 rfl rfl ⟨by omega, by omega⟩ ⟨by omega, by omega⟩ (fun c63 => ?_) (fun c63 => ?_)
        · refine zW_iconst (pc' := 71) dX6_readLetter_2.1.2.1.1 rfl ?_
          refine zW_aload_n (pc' := 72) dX6_readLetter_2.1.2.1.2 rfl rfl ?_
          refine zG_ref (pc' := 75) 49 fg_X6_12 tb53 rfl dX6_readLetter_2.1.2.2.1 rfl ?_
          refine zG_int (pc' := 78) fg_X6_71 tb49 rfl dX6_readLetter_2.1.2.2.2 rfl ?_
          have e75 := KCd1 hF.2.2.2
          refine zV_if_ne (tgt := 85) (pc' := 81) dX6_readLetter_2.2.1.1.1 rfl rfl ⟨by omega, by omega⟩ (fun c78 => ?_) (fun c78 => ?_)
          · refine zW_iconst (pc' := 86) dX6_readLetter_2.2.1.2.2 rfl ?_
            refine zV_cm_eq (tgt := 102) (pc' := 89) dX6_readLetter_2.2.2.1.1 rfl rfl ⟨by omega, by omega⟩ ⟨by omega, by omega⟩ (fun c86 => ?_) (fun c86 => ?_)
            · refine zW_aload_n (pc' := 103) dX6_readLetter_3.1.1.2.2 rfl rfl ?_
              refine zG_ref (pc' := 106) 49 fg_X6_12 tb53 rfl dX6_readLetter_3.1.2.1.1 rfl ?_
              refine zW_iload_n (pc' := 107) dX6_readLetter_3.1.2.1.2 rfl rfl ?_
              refine cvV1 (pc' := 110) kX7_addStage vX7_addStage lk_X6_74 ⟨Nat.le_of_ble_eq_true rfl, Nat.le_of_ble_eq_true rfl⟩ tb49 vq7 rfl rfl (s_X7_addStageV49Q hF.2.1 hF.2.2.1 hF.2.2.2 _ ⟨by omega, by omega⟩ m (by omega) (by omega)) dX6_readLetter_3.1.2.2.1 (Nat.le_of_ble_eq_true rfl) rfl ?_
              rintro r107 h ⟨hF1, p107⟩; replace hF := hF.tr hF1 rfl
              have t107_53_3 := hF1.1 53 3 rfl rfl
              have t107_53_4 := hF1.1 53 4 rfl rfl
              have as4 := p107.2.2.2
              rw [hk0] at as4
              have c52 : h 52 = κ 52 := (hF1.cell 52 rfl (fun _ => rfl)).trans (congrFun hk0 52)
              refine zW_aload_n (pc' := 111) dX6_readLetter_3.1.2.2.2 rfl rfl ?_
              refine zW_dup (pc' := 112) dX6_readLetter_3.2.1.1.1 rfl rfl ?_
              refine zG_int (pc' := 115) fg_X6_29 tb53 rfl dX6_readLetter_3.2.1.1.2 rfl ?_
              have e112 := hF.rh 53 3
              refine zW_iconst (pc' := 116) dX6_readLetter_3.2.1.2.1 rfl ?_
              refine zW_iadd (pc' := 117) dX6_readLetter_3.2.1.2.2 rfl ?_
              refine zPm (pc' := 120) hF (Or.inl rfl) (SI_irr hF.2.1 (Or.inl rfl) (fun _ _ => ⟨by omega, by omega⟩)) (KR_irr hF.2.2.1 rfl) (KC_irr hF.2.2.2 rfl) fp_X6_29 tb53 rfl dX6_readLetter_3.2.2.1.1 rfl (fun h hF w117 => ?_)
              have t117_53_3 := congrFun (congrFun w117 53) 3
              rw [zwr_eq] at t117_53_3
              have t117_53_4 := congrFun (congrFun w117 53) 4
              rw [zwr_ne (Or.inr (by decide))] at t117_53_4
              have t117_49_0 := congrFun (congrFun w117 49) 0
              rw [zwr_ne (Or.inl (by decide))] at t117_49_0
              have t117_49_1 := congrFun (congrFun w117 49) 1
              rw [zwr_ne (Or.inl (by decide))] at t117_49_1
              first | have lq : LQ g p κ h m := as4.lq (by omega) (by rw [w117]; exact zfun (by decide)) (by rw [w117]; exact zfun (by decide)) (by rw [w117]; exact (zfun (by decide)).trans c52) | skip
              refine zW_iload_n (pc' := 121) dX6_readLetter_3.2.2.1.2 rfl rfl ?_
              exact zV_iret rfl dX6_readLetter_3.2.2.2 ⟨hF, by refine ⟨by omega, by omega, by omega, by omega, by omega, by omega, by omega, ?_⟩; first | exact lq | exact (fun z => absurd z (by omega))⟩
            · exfalso; omega
          · refine zW_iconst (pc' := 82) dX6_readLetter_2.2.1.1.2 rfl ?_
            refine zV_goto 86 dX6_readLetter_2.2.1.2.1 rfl ?_
            refine zV_cm_eq (tgt := 102) (pc' := 89) dX6_readLetter_2.2.2.1.1 rfl rfl ⟨by omega, by omega⟩ ⟨by omega, by omega⟩ (fun c86 => ?_) (fun c86 => ?_)
            · exfalso; omega
            · refine zW_aload_n (pc' := 90) dX6_readLetter_2.2.2.1.2 rfl rfl ?_
              refine zW_bipush (pc' := 92) dX6_readLetter_2.2.2.2.1 rfl rfl ?_
              refine zW_aload_n (pc' := 93) dX6_readLetter_2.2.2.2.2 rfl rfl ?_
              refine zG_int (pc' := 96) fg_X6_29 tb53 rfl dX6_readLetter_3.1.1.1.1 rfl ?_
              have e93 := hF.rh 53 3
              refine cvV2 (pc' := 99) kX6_tell vX6_tell lk_X6_59 ⟨Nat.le_of_ble_eq_true rfl, Nat.le_of_ble_eq_true rfl⟩ tb53 vq6 rfl rfl (s_X6_tellP hF.2.1 hF.2.2.1 hF.2.2.2 _ ⟨by omega, by omega⟩ _ ⟨by omega, by omega⟩) dX6_readLetter_3.1.1.1.2 (Nat.le_of_ble_eq_true rfl) rfl ?_
              rintro r96 h ⟨hF1, p96⟩; replace hF := hF.tr hF1 rfl
              have t96_53_3 := hF1.1 53 3 rfl rfl
              have t96_49_0 := hF1.1 49 0 rfl rfl
              have t96_49_1 := hF1.1 49 1 rfl rfl
              refine zV_goto 120 dX6_readLetter_3.1.1.2.1 rfl ?_
              first | have lq : LQ g p κ h m := as4.lq (by omega) (by rw [w117]; exact zfun (by decide)) (by rw [w117]; exact zfun (by decide)) (by rw [w117]; exact (zfun (by decide)).trans c52) | skip
              refine zW_iload_n (pc' := 121) dX6_readLetter_3.2.2.1.2 rfl rfl ?_
              exact zV_iret rfl dX6_readLetter_3.2.2.2 ⟨hF, by refine ⟨by omega, by omega, by omega, by omega, by omega, by omega, by omega, ?_⟩; first | exact lq | exact (fun z => absurd z (by omega))⟩
        · refine zW_iconst (pc' := 67) dX6_readLetter_2.1.1.2.1 rfl ?_
          refine zV_goto 71 dX6_readLetter_2.1.1.2.2 rfl ?_
          refine zW_aload_n (pc' := 72) dX6_readLetter_2.1.2.1.2 rfl rfl ?_
          refine zG_ref (pc' := 75) 49 fg_X6_12 tb53 rfl dX6_readLetter_2.1.2.2.1 rfl ?_
          refine zG_int (pc' := 78) fg_X6_71 tb49 rfl dX6_readLetter_2.1.2.2.2 rfl ?_
          have e75 := KCd1 hF.2.2.2
          refine zV_if_ne (tgt := 85) (pc' := 81) dX6_readLetter_2.2.1.1.1 rfl rfl ⟨by omega, by omega⟩ (fun c78 => ?_) (fun c78 => ?_)
          · refine zW_iconst (pc' := 86) dX6_readLetter_2.2.1.2.2 rfl ?_
            refine zV_cm_eq (tgt := 102) (pc' := 89) dX6_readLetter_2.2.2.1.1 rfl rfl ⟨by omega, by omega⟩ ⟨by omega, by omega⟩ (fun c86 => ?_) (fun c86 => ?_)
            · exfalso; omega
            · refine zW_aload_n (pc' := 90) dX6_readLetter_2.2.2.1.2 rfl rfl ?_
              refine zW_bipush (pc' := 92) dX6_readLetter_2.2.2.2.1 rfl rfl ?_
              refine zW_aload_n (pc' := 93) dX6_readLetter_2.2.2.2.2 rfl rfl ?_
              refine zG_int (pc' := 96) fg_X6_29 tb53 rfl dX6_readLetter_3.1.1.1.1 rfl ?_
              have e93 := hF.rh 53 3
              refine cvV2 (pc' := 99) kX6_tell vX6_tell lk_X6_59 ⟨Nat.le_of_ble_eq_true rfl, Nat.le_of_ble_eq_true rfl⟩ tb53 vq6 rfl rfl (s_X6_tellP hF.2.1 hF.2.2.1 hF.2.2.2 _ ⟨by omega, by omega⟩ _ ⟨by omega, by omega⟩) dX6_readLetter_3.1.1.1.2 (Nat.le_of_ble_eq_true rfl) rfl ?_
              rintro r96 h ⟨hF1, p96⟩; replace hF := hF.tr hF1 rfl
              have t96_53_3 := hF1.1 53 3 rfl rfl
              have t96_49_0 := hF1.1 49 0 rfl rfl
              have t96_49_1 := hF1.1 49 1 rfl rfl
              refine zV_goto 120 dX6_readLetter_3.1.1.2.1 rfl ?_
              first | have lq : LQ g p κ h m := as4.lq (by omega) (by rw [w117]; exact zfun (by decide)) (by rw [w117]; exact zfun (by decide)) (by rw [w117]; exact (zfun (by decide)).trans c52) | skip
              refine zW_iload_n (pc' := 121) dX6_readLetter_3.2.2.1.2 rfl rfl ?_
              exact zV_iret rfl dX6_readLetter_3.2.2.2 ⟨hF, by refine ⟨by omega, by omega, by omega, by omega, by omega, by omega, by omega, ?_⟩; first | exact lq | exact (fun z => absurd z (by omega))⟩
          · refine zW_iconst (pc' := 82) dX6_readLetter_2.2.1.1.2 rfl ?_
            refine zV_goto 86 dX6_readLetter_2.2.1.2.1 rfl ?_
            refine zV_cm_eq (tgt := 102) (pc' := 89) dX6_readLetter_2.2.2.1.1 rfl rfl ⟨by omega, by omega⟩ ⟨by omega, by omega⟩ (fun c86 => ?_) (fun c86 => ?_)
            · refine zW_aload_n (pc' := 103) dX6_readLetter_3.1.1.2.2 rfl rfl ?_
              refine zG_ref (pc' := 106) 49 fg_X6_12 tb53 rfl dX6_readLetter_3.1.2.1.1 rfl ?_
              refine zW_iload_n (pc' := 107) dX6_readLetter_3.1.2.1.2 rfl rfl ?_
              refine cvV1 (pc' := 110) kX7_addStage vX7_addStage lk_X6_74 ⟨Nat.le_of_ble_eq_true rfl, Nat.le_of_ble_eq_true rfl⟩ tb49 vq7 rfl rfl (s_X7_addStageV49Q hF.2.1 hF.2.2.1 hF.2.2.2 _ ⟨by omega, by omega⟩ m (by omega) (by omega)) dX6_readLetter_3.1.2.2.1 (Nat.le_of_ble_eq_true rfl) rfl ?_
              rintro r107 h ⟨hF1, p107⟩; replace hF := hF.tr hF1 rfl
              have t107_53_3 := hF1.1 53 3 rfl rfl
              have t107_53_4 := hF1.1 53 4 rfl rfl
              have as4 := p107.2.2.2
              rw [hk0] at as4
              have c52 : h 52 = κ 52 := (hF1.cell 52 rfl (fun _ => rfl)).trans (congrFun hk0 52)
              refine zW_aload_n (pc' := 111) dX6_readLetter_3.1.2.2.2 rfl rfl ?_
              refine zW_dup (pc' := 112) dX6_readLetter_3.2.1.1.1 rfl rfl ?_
              refine zG_int (pc' := 115) fg_X6_29 tb53 rfl dX6_readLetter_3.2.1.1.2 rfl ?_
              have e112 := hF.rh 53 3
              refine zW_iconst (pc' := 116) dX6_readLetter_3.2.1.2.1 rfl ?_
              refine zW_iadd (pc' := 117) dX6_readLetter_3.2.1.2.2 rfl ?_
              refine zPm (pc' := 120) hF (Or.inl rfl) (SI_irr hF.2.1 (Or.inl rfl) (fun _ _ => ⟨by omega, by omega⟩)) (KR_irr hF.2.2.1 rfl) (KC_irr hF.2.2.2 rfl) fp_X6_29 tb53 rfl dX6_readLetter_3.2.2.1.1 rfl (fun h hF w117 => ?_)
              have t117_53_3 := congrFun (congrFun w117 53) 3
              rw [zwr_eq] at t117_53_3
              have t117_53_4 := congrFun (congrFun w117 53) 4
              rw [zwr_ne (Or.inr (by decide))] at t117_53_4
              have t117_49_0 := congrFun (congrFun w117 49) 0
              rw [zwr_ne (Or.inl (by decide))] at t117_49_0
              have t117_49_1 := congrFun (congrFun w117 49) 1
              rw [zwr_ne (Or.inl (by decide))] at t117_49_1
              first | have lq : LQ g p κ h m := as4.lq (by omega) (by rw [w117]; exact zfun (by decide)) (by rw [w117]; exact zfun (by decide)) (by rw [w117]; exact (zfun (by decide)).trans c52) | skip
              refine zW_iload_n (pc' := 121) dX6_readLetter_3.2.2.1.2 rfl rfl ?_
              exact zV_iret rfl dX6_readLetter_3.2.2.2 ⟨hF, by refine ⟨by omega, by omega, by omega, by omega, by omega, by omega, by omega, ?_⟩; first | exact lq | exact (fun z => absurd z (by omega))⟩
            · exfalso; omega
      · refine zW_aload_n (pc' := 50) dX6_readLetter_1.2.1.1.2 rfl rfl ?_
        refine zW_iconst (pc' := 51) dX6_readLetter_1.2.1.2.1 rfl ?_
        refine zW_aload_n (pc' := 52) dX6_readLetter_1.2.1.2.2 rfl rfl ?_
        refine zG_int (pc' := 55) fg_X6_29 tb53 rfl dX6_readLetter_1.2.2.1.1 rfl ?_
        have e52 := hF.rh 53 3
        refine cvV2 (pc' := 58) kX6_tell vX6_tell lk_X6_59 ⟨Nat.le_of_ble_eq_true rfl, Nat.le_of_ble_eq_true rfl⟩ tb53 vq6 rfl rfl (s_X6_tellP hF.2.1 hF.2.2.1 hF.2.2.2 _ ⟨by omega, by omega⟩ _ ⟨by omega, by omega⟩) dX6_readLetter_1.2.2.1.2 (Nat.le_of_ble_eq_true rfl) rfl ?_
        rintro r55 h ⟨hF1, p55⟩; replace hF := hF.tr hF1 rfl
        have t55_53_3 := hF1.1 53 3 rfl rfl
        have t55_49_0 := hF1.1 49 0 rfl rfl
        have t55_49_1 := hF1.1 49 1 rfl rfl
        refine zV_goto 120 dX6_readLetter_1.2.2.2.1 rfl ?_
        first | have lq : LQ g p κ h m := as4.lq (by omega) (by rw [w117]; exact zfun (by decide)) (by rw [w117]; exact zfun (by decide)) (by rw [w117]; exact (zfun (by decide)).trans c52) | skip
        refine zW_iload_n (pc' := 121) dX6_readLetter_3.2.2.1.2 rfl rfl ?_
        exact zV_iret rfl dX6_readLetter_3.2.2.2 ⟨hF, by refine ⟨by omega, by omega, by omega, by omega, by omega, by omega, by omega, ?_⟩; first | exact lq | exact (fun z => absurd z (by omega))⟩
    · refine zW_aload_n (pc' := 26) dX6_readLetter_0.2.2.2.1 rfl rfl ?_
      refine zW_iconst (pc' := 27) dX6_readLetter_0.2.2.2.2 rfl ?_
      refine zW_aload_n (pc' := 28) dX6_readLetter_1.1.1.1.1 rfl rfl ?_
      refine zG_int (pc' := 31) fg_X6_29 tb53 rfl dX6_readLetter_1.1.1.1.2 rfl ?_
      have e28 := hF.rh 53 3
      refine cvV2 (pc' := 34) kX6_tell vX6_tell lk_X6_59 ⟨Nat.le_of_ble_eq_true rfl, Nat.le_of_ble_eq_true rfl⟩ tb53 vq6 rfl rfl (s_X6_tellP hF.2.1 hF.2.2.1 hF.2.2.2 _ ⟨by omega, by omega⟩ _ ⟨by omega, by omega⟩) dX6_readLetter_1.1.1.2.1 (Nat.le_of_ble_eq_true rfl) rfl ?_
      rintro r31 h ⟨hF1, p31⟩; replace hF := hF.tr hF1 rfl
      have t31_53_3 := hF1.1 53 3 rfl rfl
      have t31_49_0 := hF1.1 49 0 rfl rfl
      have t31_49_1 := hF1.1 49 1 rfl rfl
      refine zV_goto 120 dX6_readLetter_1.1.1.2.2 rfl ?_
      first | have lq : LQ g p κ h m := as4.lq (by omega) (by rw [w117]; exact zfun (by decide)) (by rw [w117]; exact zfun (by decide)) (by rw [w117]; exact (zfun (by decide)).trans c52) | skip
      refine zW_iload_n (pc' := 121) dX6_readLetter_3.2.2.1.2 rfl rfl ?_
      exact zV_iret rfl dX6_readLetter_3.2.2.2 ⟨hF, by refine ⟨by omega, by omega, by omega, by omega, by omega, by omega, by omega, ?_⟩; first | exact lq | exact (fun z => absurd z (by omega))⟩
  · refine zW_iconst (pc' := 10) dX6_readLetter_0.1.2.1.2 rfl ?_
    refine zV_goto 20 dX6_readLetter_0.1.2.2.1 rfl ?_
    first | have k20 : r17 = kd (g p) := by rw [kd_ix p17.2.2, show v16 = g p by omega] | have k20 : (-1 : Int) = kd (g p) := (kd_n (by omega)).symm
    refine zW_istore_n (ls' := [_, _, _]) (pc' := 21) dX6_readLetter_0.2.1.2.2 (by decide) rfl rfl rfl ?_
    refine zW_iload_n (pc' := 22) dX6_readLetter_0.2.2.1.1 rfl rfl ?_
    refine zV_if_ge (tgt := 37) (pc' := 25) dX6_readLetter_0.2.2.1.2 rfl rfl ⟨by omega, by omega⟩ (fun c22 => ?_) (fun c22 => ?_)
    · exfalso; omega
    · refine zW_aload_n (pc' := 26) dX6_readLetter_0.2.2.2.1 rfl rfl ?_
      refine zW_iconst (pc' := 27) dX6_readLetter_0.2.2.2.2 rfl ?_
      refine zW_aload_n (pc' := 28) dX6_readLetter_1.1.1.1.1 rfl rfl ?_
      refine zG_int (pc' := 31) fg_X6_29 tb53 rfl dX6_readLetter_1.1.1.1.2 rfl ?_
      have e28 := hF.rh 53 3
      refine cvV2 (pc' := 34) kX6_tell vX6_tell lk_X6_59 ⟨Nat.le_of_ble_eq_true rfl, Nat.le_of_ble_eq_true rfl⟩ tb53 vq6 rfl rfl (s_X6_tellP hF.2.1 hF.2.2.1 hF.2.2.2 _ ⟨by omega, by omega⟩ _ ⟨by omega, by omega⟩) dX6_readLetter_1.1.1.2.1 (Nat.le_of_ble_eq_true rfl) rfl ?_
      rintro r31 h ⟨hF1, p31⟩; replace hF := hF.tr hF1 rfl
      have t31_53_3 := hF1.1 53 3 rfl rfl
      have t31_49_0 := hF1.1 49 0 rfl rfl
      have t31_49_1 := hF1.1 49 1 rfl rfl
      refine zV_goto 120 dX6_readLetter_1.1.1.2.2 rfl ?_
      first | have lq : LQ g p κ h m := as4.lq (by omega) (by rw [w117]; exact zfun (by decide)) (by rw [w117]; exact zfun (by decide)) (by rw [w117]; exact (zfun (by decide)).trans c52) | skip
      refine zW_iload_n (pc' := 121) dX6_readLetter_3.2.2.1.2 rfl rfl ?_
      exact zV_iret rfl dX6_readLetter_3.2.2.2 ⟨hF, by refine ⟨by omega, by omega, by omega, by omega, by omega, by omega, by omega, ?_⟩; first | exact lq | exact (fun z => absurd z (by omega))⟩

abbrev q_X6_readNumbersQ (κ : Hp) (x1 : Int) (g : Int → Int) (p : Int) (m : Int) (e : Int) : Int → Hp → Prop := fun r h' => Fm [(53, 3), (53, 4), (51, 999), (52, 999)] κ h' ∧ ((h' 53 4 = mnF g p (xvv 102 x1.toNat) (xvv 103 x1.toNat) (xvv 104 x1.toNat) (xvv 105 x1.toNat) ∧ (h' 53 4 = 0 → h' 53 3 = mnE g p (xvv 102 x1.toNat)) ∧ h' 53 4 ≤ 0 ∧ κ 53 3 ≤ h' 53 3 ∧ (h' 53 3 = κ 53 3 ∨ h' 53 3 ≤ κ 53 2) ∧ CA κ h' m e (pnL g p (xvv 102 x1.toNat)) ∧ SMx (κ 51) (h' 51) (m + 1).toNat))
set_option maxHeartbeats 4000000 in
set_option maxRecDepth 20000 in
theorem s_X6_readNumbersQ {G : Ga} {κ : Hp} (hS : SI κ) (hR : KR κ) (hC : KC κ) (x1 : Int) (hx1 : 0 ≤ x1 ∧ x1 ≤ 13) (g : Int → Int) (p : Int) (m : Int) (e : Int) (hg : hr (κ 32) (κ 53 2) = g) (hn : 0 ≤ κ 53 2 ∧ κ 53 2 ≤ 120 ∧ κ 53 2 ≤ κ 31 1) (hp : (κ 53 4 = 0 ∧ κ 53 3 = p ∧ 0 ≤ p)) (ha : κ 53 3 ≤ 150) (hX : XI G) (hM : κ 49 0 = m ∧ 0 ≤ m ∧ m ≤ 12) (he : κ 51 (m + 1).toNat = e ∧ 0 ≤ e ∧ e ≤ 60) : zM G mX6_readNumbers yX6_readNumbers [.inr (.inr 53), .inl x1] κ (q_X6_readNumbersQ κ x1 g p m e) := by
  have f_31_1 := KCt hC
  have f_49_0 := KCd0 hC
  have m1 := xvv_m x1.toNat (by omega)
  obtain ⟨hp1, hp2, hp3⟩ := hp
  have main : ∀ N : Nat, (∀ (v2 v3 : Int) (h : Hp), Fm [(53, 3), (53, 4), (51, 999), (52, 999)] κ h → (1 ≤ v2 ∧ v2 ≤ 3) → (0 ≤ v3 ∧ v3 ≤ 3) → (v2 = xvv 102 x1.toNat) → (0 ≤ h 53 3 ∧ κ 53 3 ≤ h 53 3 ∧ (h 53 3 = κ 53 3 ∨ h 53 3 ≤ κ 53 2) ∧ h 53 4 ≤ 0) → (v3 ≤ v2) → (h 53 4 = pnF g p (xvv 103 x1.toNat) (xvv 104 x1.toNat) (xvv 105 x1.toNat) v3) → (h 53 4 = 0 → h 53 3 = pnE g p v3) → (v3 = 0 → h 53 4 = 0) → (CA κ h m e (pnL g p v3)) → (SMx (κ 51) (h 51) (m + 1).toNat) → 5280 + 33 * (3 - v3) + 32 < (N : Int) → zV G mX6_readNumbers (q_X6_readNumbersQ κ x1 g p m e) 24 [some (.inr (.inr 53)), some (.inl x1), some (.inl v2), some (.inl v3)] [] h) := by
    intro N
    induction N with
    | zero =>
      intro v2 v3 h hF g0 g1 gc0 gc1 gc2 gc3 gc4 gc5 gc6 gc7 hm
      exfalso; omega
    | succ N ih =>
      have k24 := ih
      intro v2 v3 h hF g0 g1 gc0 gc1 gc2 gc3 gc4 gc5 gc6 gc7 hm
      have ca := gc6
      have sm := gc7
      refine zW_iload_n (pc' := 25) dX6_readNumbers_0.2.2.2.1 rfl rfl ?_
      refine zW_iload_n (pc' := 26) dX6_readNumbers_0.2.2.2.2 rfl rfl ?_
      refine zV_cm_ge (tgt := 81) (pc' := 29) dX6_readNumbers_1.1.1.1.1 rfl rfl ⟨by omega, by omega⟩ ⟨by omega, by omega⟩ (fun c26 => ?_) (fun c26 => ?_)
      · exact zV_vret rfl dX6_readNumbers_2.2.2.2 ⟨hF, by have pz : h 53 4 = mnF g p (xvv 102 x1.toNat) (xvv 103 x1.toNat) (xvv 104 x1.toNat) (xvv 105 x1.toNat) ∧ (h 53 4 = 0 → h 53 3 = mnE g p (xvv 102 x1.toNat)) ∧ h 53 4 ≤ 0 ∧ κ 53 3 ≤ h 53 3 ∧ (h 53 3 = κ 53 3 ∨ h 53 3 ≤ κ 53 2) := (by first | (have pe := pn_e (g := g) (p := p) (a := xvv 103 x1.toNat) (b := xvv 104 x1.toNat) (l := xvv 105 x1.toNat) (m := v2) (by omega); have e3 : v3 = v2 := (by omega); rw [← gc0, pe.1, pe.2, ← e3]; exact ⟨gc3, gc4, by omega, by omega, by omega⟩) | (have px := pn_x (g := g) (p := p) (a := xvv 103 x1.toNat) (b := xvv 104 x1.toNat) (l := xvv 105 x1.toNat) (k := v3) (m := v2) (by omega) (by omega); rw [← gc0, px]; exact ⟨gc3, fun z => absurd z (by omega), by omega, by omega, by omega⟩)); refine ⟨pz.1, pz.2.1, pz.2.2.1, pz.2.2.2.1, pz.2.2.2.2, fun z => ?_, sm⟩; have e3 : v3 = xvv 102 x1.toNat := (by omega); rw [← e3]; exact ca z⟩
      · refine zW_aload_n (pc' := 30) dX6_readNumbers_1.1.1.1.2 rfl rfl ?_
        refine zG_int (pc' := 33) fg_X6_32 tb53 rfl dX6_readNumbers_1.1.1.2.1 rfl ?_
        have e30 := hF.rh 53 4
        refine zV_if_ne (tgt := 81) (pc' := 36) dX6_readNumbers_1.1.1.2.2 rfl rfl ⟨by omega, by omega⟩ (fun c33 => ?_) (fun c33 => ?_)
        · exact zV_vret rfl dX6_readNumbers_2.2.2.2 ⟨hF, by have pz : h 53 4 = mnF g p (xvv 102 x1.toNat) (xvv 103 x1.toNat) (xvv 104 x1.toNat) (xvv 105 x1.toNat) ∧ (h 53 4 = 0 → h 53 3 = mnE g p (xvv 102 x1.toNat)) ∧ h 53 4 ≤ 0 ∧ κ 53 3 ≤ h 53 3 ∧ (h 53 3 = κ 53 3 ∨ h 53 3 ≤ κ 53 2) := (by first | (have pe := pn_e (g := g) (p := p) (a := xvv 103 x1.toNat) (b := xvv 104 x1.toNat) (l := xvv 105 x1.toNat) (m := v2) (by omega); have e3 : v3 = v2 := (by omega); rw [← gc0, pe.1, pe.2, ← e3]; exact ⟨gc3, gc4, by omega, by omega, by omega⟩) | (have px := pn_x (g := g) (p := p) (a := xvv 103 x1.toNat) (b := xvv 104 x1.toNat) (l := xvv 105 x1.toNat) (k := v3) (m := v2) (by omega) (by omega); rw [← gc0, px]; exact ⟨gc3, fun z => absurd z (by omega), by omega, by omega, by omega⟩)); refine ⟨pz.1, pz.2.1, pz.2.2.1, pz.2.2.2.1, pz.2.2.2.2, fun z => ?_, sm⟩; have e3 : v3 = xvv 102 x1.toNat := (by omega); rw [← e3]; exact ca z⟩
        · refine zW_iload_n (pc' := 37) dX6_readNumbers_1.1.2.1.1 rfl rfl ?_
          refine zV_if_ne (tgt := 58) (pc' := 40) dX6_readNumbers_1.1.2.1.2 rfl rfl ⟨by omega, by omega⟩ (fun c37 => ?_) (fun c37 => ?_)
          · have k12 : v3 = 1 ∨ v3 = 2 := by omega
            have pq0 : h 53 3 = pnE g p v3 := gc4 (by omega)
            refine zW_aload_n (pc' := 59) dX6_readNumbers_2.1.1.1.1 rfl rfl ?_
            refine zW_bipush (pc' := 61) dX6_readNumbers_2.1.1.1.2 rfl rfl ?_
            have y61_31_1 := hF.1 31 1 rfl rfl
            have y61_53_2 := hF.1 53 2 rfl rfl
            refine cvV1 (pc' := 64) kX6_expect vX6_expect lk_X6_45 ⟨Nat.le_of_ble_eq_true rfl, Nat.le_of_ble_eq_true rfl⟩ tb53 vq6 rfl rfl (s_X6_expectP hF.2.1 hF.2.2.1 hF.2.2.2 _ ⟨by omega, by omega⟩ g (pnE g p v3) (by rw [hF.cell 32 rfl (fun _ => rfl), hF.1 53 2 rfl rfl]; exact hg) (by omega) (by omega) (by omega) (by omega)) dX6_readNumbers_2.1.1.2.1 (Nat.le_of_ble_eq_true rfl) rfl ?_
            rintro r61 h ⟨hF1, p61⟩; replace hF := hF.tr hF1 rfl
            replace ca := ca.eq (hF1.cell 51 rfl (fun _ => rfl)) (hF1.cell 52 rfl (fun _ => rfl)) (fun z => sq_0l (p61.1.symm.trans z))
            replace sm : SMx (κ 51) (h 51) (m + 1).toNat := by rw [hF1.cell 51 rfl (fun _ => rfl)]; exact sm
            have e0 : h 53 4 = sF g (pnE g p v3) 44 := p61.1.trans (sq_z (by omega))
            have i0 := p61.2.1
            have b0 := p61.2.2
            clear p61
            refine zW_aload_n (pc' := 65) dX6_readNumbers_2.1.1.2.2 rfl rfl ?_
            refine zW_iconst (pc' := 66) dX6_readNumbers_2.1.2.1.1 rfl ?_
            refine zV_gsr (k := 105) (pc' := 69) (fun U hU => (hX U hU).1.2.2.2) w_GREATEST_LATER dX6_readNumbers_2.1.2.1.2 rfl ?_
            refine zW_iload_n (pc' := 70) dX6_readNumbers_2.1.2.2 rfl rfl ?_
            refine zV_taldE (k := 105) (pc' := 71) (fun U hU => (hX U hU).1.2.2.2) (by omega) dX6_readNumbers_2.2.1.1.1 rfl (fun v70 e70 f70 => ?_)
            unfold rng at e70
            have b70 := xvv_b 105 (x1).toNat (by omega)
            have y71_31_1 := hF.1 31 1 rfl rfl
            have y71_49_0 := hF.1 49 0 rfl rfl
            have y71_53_2 := hF.1 53 2 rfl rfl
            refine cvI2 (pc' := 74) kX6_readNumber vX6_readNumber lk_X6_87 ⟨Nat.le_of_ble_eq_true rfl, Nat.le_of_ble_eq_true rfl⟩ tb53 vq6 rfl rfl (s_X6_readNumberQ hF.2.1 hF.2.2.1 hF.2.2.2 _ ⟨by omega, by omega⟩ _ ⟨by omega, by omega⟩ g (pnE g p v3 + 1) m (h 51 (m + 1).toNat) (by rw [hF.cell 32 rfl (fun _ => rfl), hF.1 53 2 rfl rfl]; exact hg) (by omega) (fun z => ⟨i0 z, by omega⟩) (by omega) (by omega) ⟨(hF.1 49 0 rfl rfl).trans hM.1, hM.2⟩ (fun z => by have a := (ca z).1; have b := pnL_len (g := g) (p := p) (k := v3) (by omega); exact ⟨rfl, by omega, by omega⟩)) dX6_readNumbers_2.2.1.1.2 (Nat.le_of_ble_eq_true rfl) rfl ?_
            rintro r71 h ⟨hF1, p71⟩; replace hF := hF.tr hF1 rfl
            replace ca := CA.tr he.2.1 ca p71.2.2.2.2.2.2.2.1 (fun z => sq_0l (p71.2.2.1.symm.trans z))
            replace sm := sm.tr p71.2.2.2.2.2.2.2.2
            have ca1 : CA κ h m e (pnL g p (v3 + 1)) := by rw [pnL_s k12]; exact ca
            rw [f70] at p71
            have e1 : h 53 4 = pnF g p (xvv 103 x1.toNat) (xvv 104 x1.toNat) (xvv 105 x1.toNat) (v3 + 1) := by rw [(pn_s k12).1, sq_z (show pnF g p (xvv 103 x1.toNat) (xvv 104 x1.toNat) (xvv 105 x1.toNat) v3 = 0 by omega)]; exact (by rw [p71.2.2.1, e0] : h 53 4 = sq (sF g (pnE g p v3) 44) (nF g (pnE g p v3 + 1) 0 (xvv 105 x1.toNat)))
            have i1 : h 53 4 = 0 → h 53 3 = pnE g p (v3 + 1) := fun z => by rw [(pn_s (g := g) (p := p) (a := 0) (b := 0) (l := 0) k12).2]; exact (p71.2.2.2.1 z).1
            have b1 := p71.2.2.2.2
            clear p71
            refine zW_pop (pc' := 75) dX6_readNumbers_2.2.1.2 rfl rfl ?_
            refine zW_iinc (ls' := [_, _, _, _]) (pc' := 78) dX6_readNumbers_2.2.2.1.1 rfl (by decide) rfl rfl rfl ?_
            refine zV_goto 24 dX6_readNumbers_2.2.2.1.2 rfl ?_
            exact k24 _ _ _ hF (by omega) (by omega) (by omega) (by omega) (by omega) (by first | exact e1 | (show h 53 4 = 0; omega)) (by first | exact i1 | (intro z; show h 53 3 = p; omega)) (by omega) (by first | exact ca1 | exact ca) sm (by omega)
          · have v30 : v3 = 0 := by omega
            have pz : pnE g p v3 = p := by rw [v30]; rfl
            have f0 : h 53 4 = 0 := by omega
            refine zW_aload_n (pc' := 41) dX6_readNumbers_1.1.2.2.1 rfl rfl ?_
            refine zV_gsr (k := 103) (pc' := 44) (fun U hU => (hX U hU).1.2.1) w_LEAST_FIRST dX6_readNumbers_1.1.2.2.2 rfl ?_
            refine zW_iload_n (pc' := 45) dX6_readNumbers_1.2.1.1.1 rfl rfl ?_
            refine zV_taldE (k := 103) (pc' := 46) (fun U hU => (hX U hU).1.2.1) (by omega) dX6_readNumbers_1.2.1.1.2 rfl (fun v45 e45 f45 => ?_)
            unfold rng at e45
            have b45 := xvv_b 103 (x1).toNat (by omega)
            refine zV_gsr (k := 104) (pc' := 49) (fun U hU => (hX U hU).1.2.2.1) w_GREATEST_FIRST dX6_readNumbers_1.2.1.2.1 rfl ?_
            refine zW_iload_n (pc' := 50) dX6_readNumbers_1.2.1.2.2 rfl rfl ?_
            refine zV_taldE (k := 104) (pc' := 51) (fun U hU => (hX U hU).1.2.2.1) (by omega) dX6_readNumbers_1.2.2.1.1 rfl (fun v50 e50 f50 => ?_)
            unfold rng at e50
            have b50 := xvv_b 104 (x1).toNat (by omega)
            have y51_31_1 := hF.1 31 1 rfl rfl
            have y51_49_0 := hF.1 49 0 rfl rfl
            have y51_53_2 := hF.1 53 2 rfl rfl
            refine cvI2 (pc' := 54) kX6_readNumber vX6_readNumber lk_X6_87 ⟨Nat.le_of_ble_eq_true rfl, Nat.le_of_ble_eq_true rfl⟩ tb53 vq6 rfl rfl (s_X6_readNumberQ hF.2.1 hF.2.2.1 hF.2.2.2 _ ⟨by omega, by omega⟩ _ ⟨by omega, by omega⟩ g p m (h 51 (m + 1).toNat) (by rw [hF.cell 32 rfl (fun _ => rfl), hF.1 53 2 rfl rfl]; exact hg) (by omega) (by omega) (by omega) (by omega) ⟨(hF.1 49 0 rfl rfl).trans hM.1, hM.2⟩ (fun z => by have a := (ca z).1; have b := pnL_len (g := g) (p := p) (k := v3) (by omega); exact ⟨rfl, by omega, by omega⟩)) dX6_readNumbers_1.2.2.1.2 (Nat.le_of_ble_eq_true rfl) rfl ?_
            rintro r51 h ⟨hF1, p51⟩; replace hF := hF.tr hF1 rfl
            replace ca := CA.tr he.2.1 ca p51.2.2.2.2.2.2.2.1 (fun z => sq_0l (p51.2.2.1.symm.trans z))
            replace sm := sm.tr p51.2.2.2.2.2.2.2.2
            have ca1 : CA κ h m e (pnL g p (v3 + 1)) := by rw [pnL_z v30]; exact ca
            rw [f45, f50] at p51
            have e1 : h 53 4 = pnF g p (xvv 103 x1.toNat) (xvv 104 x1.toNat) (xvv 105 x1.toNat) (v3 + 1) := by rw [v30]; exact p51.2.2.1.trans (sq_z f0)
            have i1 : h 53 4 = 0 → h 53 3 = pnE g p (v3 + 1) := fun z => by rw [v30]; exact (p51.2.2.2.1 z).1
            have b1 := p51.2.2.2.2
            clear p51
            refine zW_pop (pc' := 55) dX6_readNumbers_1.2.2.2.1 rfl rfl ?_
            refine zV_goto 75 dX6_readNumbers_1.2.2.2.2 rfl ?_
            refine zW_iinc (ls' := [_, _, _, _]) (pc' := 78) dX6_readNumbers_2.2.2.1.1 rfl (by decide) rfl rfl rfl ?_
            refine zV_goto 24 dX6_readNumbers_2.2.2.1.2 rfl ?_
            exact k24 _ _ _ hF (by omega) (by omega) (by omega) (by omega) (by omega) (by first | exact e1 | (show h 53 4 = 0; omega)) (by first | exact i1 | (intro z; show h 53 3 = p; omega)) (by omega) (by first | exact ca1 | exact ca) sm (by omega)
  refine zM_of [some (.inr (.inr 53)), some (.inl x1), none, none] 2 rfl rfl (Nat.le_of_ble_eq_true rfl) rfl ?_
  refine (show ∀ h : Hp, Fm [(53, 3), (53, 4), (51, 999), (52, 999)] κ h → h = κ → zV G mX6_readNumbers (q_X6_readNumbersQ κ x1 g p m e) 0 [some (.inr (.inr 53)), some (.inl x1), none, none] [] h from fun h hF hk0 => ?_) κ (Fm.rf hS hR hC) rfl
  have y0_53_3 : h 53 3 = κ 53 3 := by rw [hk0]
  have y0_53_4 : h 53 4 = κ 53 4 := by rw [hk0]
  have ca : CA κ h m e [] := fun _ => by rw [hk0, he.1]; exact Ap.rf
  have sm : SMx (κ 51) (h 51) (m + 1).toNat := by rw [hk0]; exact SMx.rf
  refine zW_iload_n (pc' := 1) dX6_readNumbers_0.1.1.1.1 rfl rfl ?_
  refine zV_if_lt (tgt := 20) (pc' := 4) dX6_readNumbers_0.1.1.1.2 rfl rfl ⟨by omega, by omega⟩ (fun c1 => ?_) (fun c1 => ?_)
  · exfalso; omega
  · refine zW_iload_n (pc' := 5) dX6_readNumbers_0.1.1.2.1 rfl rfl ?_
    refine zV_gsr (k := 102) (pc' := 8) (fun U hU => (hX U hU).1.1) w_HOW_MANY_NUMBERS dX6_readNumbers_0.1.1.2.2 rfl ?_
    refine zV_talen (k := 102) (pc' := 9) (fun U hU => (hX U hU).1.1) dX6_readNumbers_0.1.2.1.1 rfl ?_
    refine zV_cm_ge (tgt := 20) (pc' := 12) dX6_readNumbers_0.1.2.1.2 rfl rfl ⟨by omega, by omega⟩ ⟨by omega, by omega⟩ (fun c9 => ?_) (fun c9 => ?_)
    · exfalso; omega
    · refine zV_gsr (k := 102) (pc' := 15) (fun U hU => (hX U hU).1.1) w_HOW_MANY_NUMBERS dX6_readNumbers_0.1.2.2.1 rfl ?_
      refine zW_iload_n (pc' := 16) dX6_readNumbers_0.1.2.2.2 rfl rfl ?_
      refine zV_taldE (k := 102) (pc' := 17) (fun U hU => (hX U hU).1.1) (by omega) dX6_readNumbers_0.2.1.1.1 rfl (fun v16 e16 f16 => ?_)
      unfold rng at e16
      have b16 := xvv_b 102 (x1).toNat (by omega)
      refine zV_goto 21 dX6_readNumbers_0.2.1.1.2 rfl ?_
      refine zW_istore_n (ls' := [_, _, _, _]) (pc' := 22) dX6_readNumbers_0.2.1.2.2 (by decide) rfl rfl rfl ?_
      refine zW_iconst (pc' := 23) dX6_readNumbers_0.2.2.1.1 rfl ?_
      refine zW_istore_n (ls' := [_, _, _, _]) (pc' := 24) dX6_readNumbers_0.2.2.1.2 (by decide) rfl rfl rfl ?_
      exact (main 10000000000000000000000000000000000000000) _ _ _ hF (by omega) (by omega) (by omega) (by omega) (by omega) (by first | exact e1 | (show h 53 4 = 0; omega)) (by first | exact i1 | (intro z; show h 53 3 = p; omega)) (by omega) (by first | exact ca1 | exact ca) sm (by omega)
