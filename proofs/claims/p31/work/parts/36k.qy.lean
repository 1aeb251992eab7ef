abbrev q_X12_readsNextQ (κ : Hp) (x1 : Int) (x2 : Int) (g : Int → Int) (p : Int) : Int → Hp → Prop := fun r h' => Fm [(0, 26), (0, 28), (0, 29), (0, 31), (15, 999)] κ h' ∧ ((0 ≤ r) ∧ (r ≤ 1) ∧ (κ 0 26 ≤ h' 0 26 ∧ h' 0 26 ≤ κ 0 27 ∧ Pre15 κ h' ∧ ((r = 1 ∧ h' 0 31 = κ 0 31 + 1 ∧ κ 0 26 + 1 < h' 0 26) ∨ (r = 0 ∧ h' 0 31 = κ 0 31)) ∧ ((r = 1 ∧ nxF g p x2 = 0 ∧ h' 0 26 = nxE g p) ∨ (r = 0 ∧ nxF g p x2 ≠ 0 ∧ h' 0 28 = nxF g p x2 ∧ h' 0 28 < 0)) ∧ ApI r (κ 15) (h' 15) (κ 0 31) (h' 0 31) [nV g (p + 1)]))
set_option maxHeartbeats 4000000 in
set_option maxRecDepth 20000 in
theorem s_X12_readsNextQ {G : Ga} {κ : Hp} (hS : SI κ) (hR : KR κ) (hC : KC κ) (x1 : Int) (hx1 : 0 ≤ x1 ∧ x1 ≤ 0) (x2 : Int) (hx2 : 0 ≤ x2 ∧ x2 ≤ 255) (g : Int → Int) (p : Int) (hp : 0 ≤ κ 0 26 ∧ κ 0 26 ≤ κ 0 27 ∧ κ 0 27 ≤ 120) (hq : 0 ≤ κ 0 31 ∧ κ 0 31 ≤ κ 0 26) (hg : hr (fun i => κ 12 i % 256) (κ 0 27) = g) (ht : κ 0 26 = p) : zM G mX12_readsNext yX12_readsNext [.inr (.inr 0), .inl x1, .inl x2] κ (q_X12_readsNextQ κ x1 x2 g p) := by
  have u1 : nxF g p x2 = sq (sF g p 44) (nF g (p + 1) 0 x2) := rfl
  have u2 := sqc (sF g p 44) (nF g (p + 1) 0 x2)
  have u3 : nxE g p = p + 1 + nD g (p + 1) := rfl
  refine zM_of [some (.inr (.inr 0)), some (.inl x1), some (.inl x2)] 0 rfl rfl (Nat.le_of_ble_eq_true rfl) rfl ?_
  refine (show ∀ h : Hp, Fm [(0, 26), (0, 28), (0, 29), (0, 31), (15, 999)] κ h → h = κ → zV G mX12_readsNext (q_X12_readsNextQ κ x1 x2 g p) 0 [some (.inr (.inr 0)), some (.inl x1), some (.inl x2)] [] h from fun h hF hk0 => ?_) κ (Fm.rf hS hR hC) rfl
  have y0_0_26 : h 0 26 = κ 0 26 := by rw [hk0]
  have y0_0_27 : h 0 27 = κ 0 27 := by rw [hk0]
  have y0_0_31 : h 0 31 = κ 0 31 := by rw [hk0]
  have hPre : Pre15 κ h := by rw [hk0]; exact Pre15.rf
  have ap : Ap (κ 15) (h 15) (κ 0 31) (h 0 31) [] := by rw [hk0]; exact Ap.rf
  refine zW_aload_n (pc' := 1) dX12_readsNext_0.1.1.1.1 rfl rfl ?_
  refine zW_bipush (pc' := 3) dX12_readsNext_0.1.1.1.2 rfl rfl ?_
  have y27 := hF.1 0 27 rfl rfl
  have y3_0_27 := hF.1 0 27 rfl rfl
  refine cvI1 (pc' := 6) kX12_takesSign vX12_takesSign lk_X12_154 ⟨Nat.le_of_ble_eq_true rfl, Nat.le_of_ble_eq_true rfl⟩ tb0 vq12 rfl rfl (s_X12_takesSignP hF.2.1 hF.2.2.1 hF.2.2.2 _ ⟨by omega, by omega⟩ g p (by rw [hF.cell 12 rfl (fun _ => rfl), hF.1 0 27 rfl rfl]; exact hg) (by omega) (by omega)) dX12_readsNext_0.1.1.2.1 (Nat.le_of_ble_eq_true rfl) rfl ?_
  rintro r3 h ⟨hF1, p3⟩; replace hF := hF.tr hF1 rfl
  replace hPre : Pre15 κ h := hPre.fm hF1 (fun _ => rfl)
  replace ap := Ap_eq ap (hF1.cell 15 rfl (fun _ => rfl)) (hF1.1 0 31 rfl rfl)
  have t3_0_31 := hF1.1 0 31 rfl rfl
  refine zV_if_eq (tgt := 22) (pc' := 9) dX12_readsNext_0.1.1.2.2 rfl rfl ⟨by omega, by omega⟩ (fun c6 => ?_) (fun c6 => ?_)
  · refine zW_iconst (pc' := 23) dX12_readsNext_0.2.2.1.2 rfl ?_
    exact zV_zret rfl (by omega) dX12_readsNext_0.2.2.2 ⟨hF, by refine ⟨by omega, by omega, by omega, by omega, hPre, by omega, by omega, ?_⟩; first | exact (fun z => absurd z (by decide)) | exact (fun _ => ap (by omega))⟩
  · refine zW_aload_n (pc' := 10) dX12_readsNext_0.1.2.1.1 rfl rfl ?_
    refine zW_iload_n (pc' := 11) dX12_readsNext_0.1.2.1.2 rfl rfl ?_
    refine zW_iload_n (pc' := 12) dX12_readsNext_0.1.2.2 rfl rfl ?_
    have y27 := hF.1 0 27 rfl rfl
    have e0 : x1 = 0 := by omega
    subst e0
    obtain ⟨hB12, eB12⟩ : ∃ z : Hp, z = h := ⟨_, rfl⟩
    have apq : Ap (κ 15) (hB12 15) (κ 0 31) (hB12 0 31) ([]) := by rw [eB12]; first | exact ap | exact ap (by omega)
    have y12_0_27 := hF.1 0 27 rfl rfl
    refine cvI2 (pc' := 15) kX12_readsNumber vX12_readsNumber lk_X12_157 ⟨Nat.le_of_ble_eq_true rfl, Nat.le_of_ble_eq_true rfl⟩ tb0 vq12 rfl rfl (s_X12_readsNumberP hF.2.1 hF.2.2.1 hF.2.2.2 _ ⟨by omega, by omega⟩ _ ⟨by omega, by omega⟩ g (p + 1) (by omega) (by omega) (by rw [hF.cell 12 rfl (fun _ => rfl), hF.1 0 27 rfl rfl]; exact hg) (by omega)) dX12_readsNext_0.2.1.1.1 (Nat.le_of_ble_eq_true rfl) rfl ?_
    rintro r12 h ⟨hF1, p12⟩; replace hF := hF.tr hF1 rfl
    replace hPre : Pre15 κ h := hPre.tr p12.2.2.2.2.1 (by omega)
    have pp := p12
    rw [← eB12] at pp
    have ap : ApI r12 (κ 15) (h 15) (κ 0 31) (h 0 31) ([nV g (p + 1)]) := fun z => Ap.tr hq.1 apq (Ap_rn pp.2.2.2.2.1 (pp.2.2.2.2.2.1.resolve_right (fun q => by omega)) (pp.2.2.2.2.2.2.resolve_right (fun q => by omega)))
    clear pp
    refine zV_if_eq (tgt := 22) (pc' := 18) dX12_readsNext_0.2.1.1.2 rfl rfl ⟨by omega, by omega⟩ (fun c15 => ?_) (fun c15 => ?_)
    · refine zW_iconst (pc' := 23) dX12_readsNext_0.2.2.1.2 rfl ?_
      exact zV_zret rfl (by omega) dX12_readsNext_0.2.2.2 ⟨hF, by refine ⟨by omega, by omega, by omega, by omega, hPre, by omega, by omega, ?_⟩; first | exact (fun z => absurd z (by decide)) | exact (fun _ => ap (by omega))⟩
    · refine zW_iconst (pc' := 19) dX12_readsNext_0.2.1.2 rfl ?_
      refine zV_goto 23 dX12_readsNext_0.2.2.1.1 rfl ?_
      exact zV_zret rfl (by omega) dX12_readsNext_0.2.2.2 ⟨hF, by refine ⟨by omega, by omega, by omega, by omega, hPre, by omega, by omega, ?_⟩; first | exact (fun z => absurd z (by decide)) | exact (fun _ => ap (by omega))⟩

abbrev q_X12_readsNumbersQ (κ : Hp) (x1 : Int) (g : Int → Int) (p : Int) : Int → Hp → Prop := fun r h' => Fm [(0, 26), (0, 28), (0, 29), (0, 31), (15, 999)] κ h' ∧ ((0 ≤ r) ∧ (r ≤ 1) ∧ (κ 0 26 ≤ h' 0 26 ∧ h' 0 26 ≤ κ 0 27 ∧ Pre15 κ h' ∧ κ 0 31 ≤ h' 0 31 ∧ h' 0 31 ≤ h' 0 26 ∧ (r = 1 → κ 0 31 < h' 0 31 ∧ (x1 = 111 ∨ x1 = 112 → 1 ≤ h' 15 (κ 0 31).toNat ∧ h' 15 (κ 0 31).toNat ≤ 4) ∧ (x1 = 116 → Cv h' (κ 0 31) (h' 0 31))) ∧ ((r = 1 ∧ nbF g x1 p = 0 ∧ h' 0 26 = nbE g x1 p) ∨ (r = 0 ∧ nbF g x1 p ≠ 0 ∧ h' 0 28 = nbF g x1 p ∧ h' 0 28 < 0)) ∧ ApI r (κ 15) (h' 15) (κ 0 31) (h' 0 31) (nbL g x1 p)))
set_option maxHeartbeats 4000000 in
set_option maxRecDepth 20000 in
theorem s_X12_readsNumbersQ {G : Ga} {κ : Hp} (hS : SI κ) (hR : KR κ) (hC : KC κ) (x1 : Int) (hx1 : 0 ≤ x1 ∧ x1 ≤ 255) (g : Int → Int) (p : Int) (hp : 0 ≤ κ 0 26 ∧ κ 0 26 ≤ κ 0 27 ∧ κ 0 27 ≤ 120) (hq : 0 ≤ κ 0 31 ∧ κ 0 31 ≤ κ 0 26) (hg : hr (fun i => κ 12 i % 256) (κ 0 27) = g) (ht : κ 0 26 = p) (hl : 0 ≤ kd x1) : zM G mX12_readsNumbers yX12_readsNumbers [.inr (.inr 0), .inl x1] κ (q_X12_readsNumbersQ κ x1 g p) := by
  refine zM_of [some (.inr (.inr 0)), some (.inl x1)] 0 rfl rfl (Nat.le_of_ble_eq_true rfl) rfl ?_
  refine (show ∀ h : Hp, Fm [(0, 26), (0, 28), (0, 29), (0, 31), (15, 999)] κ h → h = κ → zV G mX12_readsNumbers (q_X12_readsNumbersQ κ x1 g p) 0 [some (.inr (.inr 0)), some (.inl x1)] [] h from fun h hF hk0 => ?_) κ (Fm.rf hS hR hC) rfl
  have y0_0_26 : h 0 26 = κ 0 26 := by rw [hk0]
  have y0_0_27 : h 0 27 = κ 0 27 := by rw [hk0]
  have y0_0_31 : h 0 31 = κ 0 31 := by rw [hk0]
  have hPre : Pre15 κ h := by rw [hk0]; exact Pre15.rf
  have ap : Ap (κ 15) (h 15) (κ 0 31) (h 0 31) [] := by rw [hk0]; exact Ap.rf
  refine zW_iload_n (pc' := 1) dX12_readsNumbers_0.1.1.1.1 rfl rfl ?_
  refine zW_tsw2 (fun z t => (z = 98 ∧ t = 112) ∨ (z = 100 ∧ t = 112) ∨ (z = 102 ∧ t = 128) ∨ (z = 103 ∧ t = 195) ∨ (z = 104 ∧ t = 142) ∨ (z = 108 ∧ t = 151) ∨ (z = 109 ∧ t = 151) ∨ (z = 110 ∧ t = 256) ∨ (z = 111 ∧ t = 121) ∨ (z = 112 ∧ t = 231) ∨ (z = 115 ∧ t = 256) ∨ (z = 118 ∧ t = 135) ∨ (z = 119 ∧ t = 112) ∨ (z = 121 ∧ t = 159) ∨ (t = 282 ∧ z ≠ 98 ∧ z ≠ 100 ∧ z ≠ 111 ∧ z ≠ 108 ∧ z ≠ 102 ∧ z ≠ 118 ∧ z ≠ 119 ∧ z ≠ 104 ∧ z ≠ 121 ∧ z ≠ 103 ∧ z ≠ 109 ∧ z ≠ 112 ∧ z ≠ 110 ∧ z ≠ 115)) (fun z => if z = 98 then 112 else if z = 100 then 112 else if z = 102 then 128 else if z = 103 then 195 else if z = 104 then 142 else if z = 108 then 151 else if z = 109 then 151 else if z = 110 then 256 else if z = 111 then 121 else if z = 112 then 231 else if z = 115 then 256 else if z = 118 then 135 else if z = 119 then 112 else if z = 121 then 159 else 282) dX12_readsNumbers_0.1.1.1.2 ⟨by omega, by omega⟩ (tsw_ok (pc := 1) (lo := 98) (offs := #[111, 281, 111, 281, 127, 194, 141, 281, 281, 281, 150, 150, 255, 120, 230, 281, 281, 255, 281, 281, 134, 111, 281, 158]) (tg := fun z => if z = 98 then 112 else if z = 100 then 112 else if z = 102 then 128 else if z = 103 then 195 else if z = 104 then 142 else if z = 108 then 151 else if z = 109 then 151 else if z = 110 then 256 else if z = 111 then 121 else if z = 112 then 231 else if z = 115 then 256 else if z = 118 then 135 else if z = 119 then 112 else if z = 121 then 159 else 282) (by decide +kernel)) rfl (by decide +kernel) (td := 282) rfl (fun c1 => ?_) (fun t1 w1 => ?_)
  · have nb := nb_else (g := g) (c := x1) (p := p) (by omega)
    have e116 : x1 = 116 := kd_116 hl (by omega)
    have nl : nbL g x1 p = cuL g 200 p (-1) := by rw [e116]; exact nl_116
    refine zW_aload_n (pc' := 283) dX12_readsNumbers_6.1.2 rfl rfl ?_
    have y27 := hF.1 0 27 rfl rfl
    obtain ⟨hB, eB⟩ : ∃ z : Hp, z = h := ⟨_, rfl⟩
    have eB31 : hB 0 31 = κ 0 31 := by rw [eB, hk0]
    have eB26 : hB 0 26 = κ 0 26 := by rw [eB, hk0]
    have eB27 : hB 0 27 = κ 0 27 := by rw [eB, hk0]
    obtain ⟨hB283, eB283⟩ : ∃ z : Hp, z = h := ⟨_, rfl⟩
    have apq : Ap (κ 15) (hB283 15) (κ 0 31) (hB283 0 31) [] := by rw [eB283]; exact ap
    have y283_0_27 := hF.1 0 27 rfl rfl
    refine cvI0 (pc' := 286) kX12_readsCurve vX12_readsCurve lk_X12_163 ⟨Nat.le_of_ble_eq_true rfl, Nat.le_of_ble_eq_true rfl⟩ tb0 vq12 rfl rfl (s_X12_readsCurveQ hF.2.1 hF.2.2.1 hF.2.2.2 g p (by omega) (by omega) (by rw [hF.cell 12 rfl (fun _ => rfl), hF.1 0 27 rfl rfl]; exact hg) (by omega)) dX12_readsNumbers_6.2.1 (Nat.le_of_ble_eq_true rfl) rfl ?_
    rintro r283 h ⟨hF1, p283⟩; replace hF := hF.tr hF1 rfl
    replace hPre : Pre15 κ h := hPre.tr p283.2.2.2.2.1 (by omega)
    have pp := p283
    rw [← eB283] at pp
    have ap : ApI r283 (κ 15) (h 15) (κ 0 31) (h 0 31) (cuL g 200 p (-1)) := fun z => Ap.tr hq.1 apq (pp.2.2.2.2.2.2.2.2.2 z)
    clear pp
    rw [← eB] at p283
    have hcv := p283.2.2.2.2.2.2.2.1
    rw [eB31] at hcv
    exact zV_zret rfl (by omega) dX12_readsNumbers_6.2.2 ⟨hF, (a9 (by refine ⟨by omega, by omega, by omega, by omega, hPre, by omega, by omega, fun q => ⟨?_, fun z => absurd z (by omega), fun _ => hcv q⟩⟩; have := (hcv q).1; omega) (by omega) (by first | exact (fun z => absurd z (by decide)) | (rw [nl]; exact ap) | (rw [nl]; exact fun _ => ap (by omega))))⟩
  · rcases w1 with ⟨s98, rfl⟩ | ⟨s100, rfl⟩ | ⟨s102, rfl⟩ | ⟨s103, rfl⟩ | ⟨s104, rfl⟩ | ⟨s108, rfl⟩ | ⟨s109, rfl⟩ | ⟨s110, rfl⟩ | ⟨s111, rfl⟩ | ⟨s112, rfl⟩ | ⟨s115, rfl⟩ | ⟨s118, rfl⟩ | ⟨s119, rfl⟩ | ⟨s121, rfl⟩ | ⟨rfl, n98, n100, n111, n108, n102, n118, n119, n104, n121, n103, n109, n112, n110, n115⟩
    · first | have nb : nbF g x1 p = nF g p 0 255 ∧ nbE g x1 p = p + nD g p := by rw [s98]; exact nb_98 | have nb : nbF g x1 p = nF g p 0 255 ∧ nbE g x1 p = p + nD g p := by rw [s100]; exact nb_100 | have nb : nbF g x1 p = nF g p 0 255 ∧ nbE g x1 p = p + nD g p := by rw [s119]; exact nb_119
      first | have nl : nbL g x1 p = [nV g p] := by rw [s98]; exact nl_98 | have nl : nbL g x1 p = [nV g p] := by rw [s100]; exact nl_100 | have nl : nbL g x1 p = [nV g p] := by rw [s119]; exact nl_119
      refine zW_aload_n (pc' := 113) dX12_readsNumbers_0.1.1.2.1 rfl rfl ?_
      refine zW_iconst (pc' := 114) dX12_readsNumbers_0.1.1.2.2 rfl ?_
      refine zW_sipush (pc' := 117) dX12_readsNumbers_0.1.2.1.1 rfl rfl ?_
      have y27 := hF.1 0 27 rfl rfl
      obtain ⟨hB117, eB117⟩ : ∃ z : Hp, z = h := ⟨_, rfl⟩
      have apq : Ap (κ 15) (hB117 15) (κ 0 31) (hB117 0 31) ([]) := by rw [eB117]; first | exact ap | exact ap (by omega)
      have y117_0_27 := hF.1 0 27 rfl rfl
      refine cvI2 (pc' := 120) kX12_readsNumber vX12_readsNumber lk_X12_157 ⟨Nat.le_of_ble_eq_true rfl, Nat.le_of_ble_eq_true rfl⟩ tb0 vq12 rfl rfl (s_X12_readsNumberP hF.2.1 hF.2.2.1 hF.2.2.2 _ ⟨by omega, by omega⟩ _ ⟨by omega, by omega⟩ g p (by omega) (by omega) (by rw [hF.cell 12 rfl (fun _ => rfl), hF.1 0 27 rfl rfl]; exact hg) (by omega)) dX12_readsNumbers_0.1.2.1.2 (Nat.le_of_ble_eq_true rfl) rfl ?_
      rintro r117 h ⟨hF1, p117⟩; replace hF := hF.tr hF1 rfl
      replace hPre : Pre15 κ h := hPre.tr p117.2.2.2.2.1 (by omega)
      have pp := p117
      rw [← eB117] at pp
      have ap : ApI r117 (κ 15) (h 15) (κ 0 31) (h 0 31) ([nV g p]) := fun z => Ap.tr hq.1 apq (Ap_rn pp.2.2.2.2.1 (pp.2.2.2.2.2.1.resolve_right (fun q => by omega)) (pp.2.2.2.2.2.2.resolve_right (fun q => by omega)))
      clear pp
      exact zV_zret rfl (by omega) dX12_readsNumbers_0.1.2.2.1 ⟨hF, (a9 (by refine ⟨by omega, by omega, by omega, by omega, hPre, by omega, by omega, fun q => ⟨by omega, fun z => absurd z (by omega), fun z => absurd z (by omega)⟩⟩) (by omega) (by first | exact (fun z => absurd z (by decide)) | (rw [nl]; exact ap) | (rw [nl]; exact fun _ => ap (by omega))))⟩
    · first | have nb : nbF g x1 p = nF g p 0 255 ∧ nbE g x1 p = p + nD g p := by rw [s98]; exact nb_98 | have nb : nbF g x1 p = nF g p 0 255 ∧ nbE g x1 p = p + nD g p := by rw [s100]; exact nb_100 | have nb : nbF g x1 p = nF g p 0 255 ∧ nbE g x1 p = p + nD g p := by rw [s119]; exact nb_119
      first | have nl : nbL g x1 p = [nV g p] := by rw [s98]; exact nl_98 | have nl : nbL g x1 p = [nV g p] := by rw [s100]; exact nl_100 | have nl : nbL g x1 p = [nV g p] := by rw [s119]; exact nl_119
      refine zW_aload_n (pc' := 113) dX12_readsNumbers_0.1.1.2.1 rfl rfl ?_
      refine zW_iconst (pc' := 114) dX12_readsNumbers_0.1.1.2.2 rfl ?_
      refine zW_sipush (pc' := 117) dX12_readsNumbers_0.1.2.1.1 rfl rfl ?_
      have y27 := hF.1 0 27 rfl rfl
      obtain ⟨hB117, eB117⟩ : ∃ z : Hp, z = h := ⟨_, rfl⟩
      have apq : Ap (κ 15) (hB117 15) (κ 0 31) (hB117 0 31) ([]) := by rw [eB117]; first | exact ap | exact ap (by omega)
      have y117_0_27 := hF.1 0 27 rfl rfl
      refine cvI2 (pc' := 120) kX12_readsNumber vX12_readsNumber lk_X12_157 ⟨Nat.le_of_ble_eq_true rfl, Nat.le_of_ble_eq_true rfl⟩ tb0 vq12 rfl rfl (s_X12_readsNumberP hF.2.1 hF.2.2.1 hF.2.2.2 _ ⟨by omega, by omega⟩ _ ⟨by omega, by omega⟩ g p (by omega) (by omega) (by rw [hF.cell 12 rfl (fun _ => rfl), hF.1 0 27 rfl rfl]; exact hg) (by omega)) dX12_readsNumbers_0.1.2.1.2 (Nat.le_of_ble_eq_true rfl) rfl ?_
      rintro r117 h ⟨hF1, p117⟩; replace hF := hF.tr hF1 rfl
      replace hPre : Pre15 κ h := hPre.tr p117.2.2.2.2.1 (by omega)
      have pp := p117
      rw [← eB117] at pp
      have ap : ApI r117 (κ 15) (h 15) (κ 0 31) (h 0 31) ([nV g p]) := fun z => Ap.tr hq.1 apq (Ap_rn pp.2.2.2.2.1 (pp.2.2.2.2.2.1.resolve_right (fun q => by omega)) (pp.2.2.2.2.2.2.resolve_right (fun q => by omega)))
      clear pp
      exact zV_zret rfl (by omega) dX12_readsNumbers_0.1.2.2.1 ⟨hF, (a9 (by refine ⟨by omega, by omega, by omega, by omega, hPre, by omega, by omega, fun q => ⟨by omega, fun z => absurd z (by omega), fun z => absurd z (by omega)⟩⟩) (by omega) (by first | exact (fun z => absurd z (by decide)) | (rw [nl]; exact ap) | (rw [nl]; exact fun _ => ap (by omega))))⟩
    · first | have nb : nbF g x1 p = nF g p 0 1 ∧ nbE g x1 p = p + nD g p := by rw [s102]; exact nb_102
      first | have nl : nbL g x1 p = [nV g p] := by rw [s102]; exact nl_102
      refine zW_aload_n (pc' := 129) dX12_readsNumbers_0.2.2.1.1 rfl rfl ?_
      refine zW_iconst (pc' := 130) dX12_readsNumbers_0.2.2.1.2 rfl ?_
      refine zW_iconst (pc' := 131) dX12_readsNumbers_0.2.2.2.1 rfl ?_
      have y27 := hF.1 0 27 rfl rfl
      obtain ⟨hB131, eB131⟩ : ∃ z : Hp, z = h := ⟨_, rfl⟩
      have apq : Ap (κ 15) (hB131 15) (κ 0 31) (hB131 0 31) ([]) := by rw [eB131]; first | exact ap | exact ap (by omega)
      have y131_0_27 := hF.1 0 27 rfl rfl
      refine cvI2 (pc' := 134) kX12_readsNumber vX12_readsNumber lk_X12_157 ⟨Nat.le_of_ble_eq_true rfl, Nat.le_of_ble_eq_true rfl⟩ tb0 vq12 rfl rfl (s_X12_readsNumberP hF.2.1 hF.2.2.1 hF.2.2.2 _ ⟨by omega, by omega⟩ _ ⟨by omega, by omega⟩ g p (by omega) (by omega) (by rw [hF.cell 12 rfl (fun _ => rfl), hF.1 0 27 rfl rfl]; exact hg) (by omega)) dX12_readsNumbers_0.2.2.2.2 (Nat.le_of_ble_eq_true rfl) rfl ?_
      rintro r131 h ⟨hF1, p131⟩; replace hF := hF.tr hF1 rfl
      replace hPre : Pre15 κ h := hPre.tr p131.2.2.2.2.1 (by omega)
      have pp := p131
      rw [← eB131] at pp
      have ap : ApI r131 (κ 15) (h 15) (κ 0 31) (h 0 31) ([nV g p]) := fun z => Ap.tr hq.1 apq (Ap_rn pp.2.2.2.2.1 (pp.2.2.2.2.2.1.resolve_right (fun q => by omega)) (pp.2.2.2.2.2.2.resolve_right (fun q => by omega)))
      clear pp
      exact zV_zret rfl (by omega) dX12_readsNumbers_1.1.1.1.1 ⟨hF, (a9 (by refine ⟨by omega, by omega, by omega, by omega, hPre, by omega, by omega, fun q => ⟨by omega, fun z => absurd z (by omega), fun z => absurd z (by omega)⟩⟩) (by omega) (by first | exact (fun z => absurd z (by decide)) | (rw [nl]; exact ap) | (rw [nl]; exact fun _ => ap (by omega))))⟩
    · first | have nb : nbF g x1 p = n3F g p 0 99 99 ∧ nbE g x1 p = n3E g p := by rw [s103]; exact nb_103
      have u2 : n2F g p 0 99 99 = sq (nF g p 0 99) (nxF g (p + nD g p) 99) := rfl
      have s2 := sqc (nF g p 0 99) (nxF g (p + nD g p) 99)
      have u4 : n2E g p = nxE g (p + nD g p) := rfl
      have u3 : n3F g p 0 99 99 = sq (n2F g p 0 99 99) (nxF g (n2E g p) 99) := rfl
      have s3 := sqc (n2F g p 0 99 99) (nxF g (n2E g p) 99)
      have u5 : n3E g p = nxE g (n2E g p) := rfl
      first | have nl : nbL g x1 p = [nV g p, nV g (p + nD g p + 1), nV g (n2E g p + 1)] := by rw [s103]; exact nl_103
      refine zW_aload_n (pc' := 196) dX12_readsNumbers_3.1.1.2.2 rfl rfl ?_
      refine zW_iconst (pc' := 197) dX12_readsNumbers_3.1.2.1.1 rfl ?_
      refine zW_bipush (pc' := 199) dX12_readsNumbers_3.1.2.1.2 rfl rfl ?_
      have y27 := hF.1 0 27 rfl rfl
      obtain ⟨hB199, eB199⟩ : ∃ z : Hp, z = h := ⟨_, rfl⟩
      have apq : Ap (κ 15) (hB199 15) (κ 0 31) (hB199 0 31) ([]) := by rw [eB199]; first | exact ap | exact ap (by omega)
      have y199_0_27 := hF.1 0 27 rfl rfl
      refine cvI2 (pc' := 202) kX12_readsNumber vX12_readsNumber lk_X12_157 ⟨Nat.le_of_ble_eq_true rfl, Nat.le_of_ble_eq_true rfl⟩ tb0 vq12 rfl rfl (s_X12_readsNumberP hF.2.1 hF.2.2.1 hF.2.2.2 _ ⟨by omega, by omega⟩ _ ⟨by omega, by omega⟩ g p (by omega) (by omega) (by rw [hF.cell 12 rfl (fun _ => rfl), hF.1 0 27 rfl rfl]; exact hg) (by omega)) dX12_readsNumbers_3.1.2.2.1 (Nat.le_of_ble_eq_true rfl) rfl ?_
      rintro r199 h ⟨hF1, p199⟩; replace hF := hF.tr hF1 rfl
      replace hPre : Pre15 κ h := hPre.tr p199.2.2.2.2.1 (by omega)
      have pp := p199
      rw [← eB199] at pp
      have ap : ApI r199 (κ 15) (h 15) (κ 0 31) (h 0 31) ([nV g p]) := fun z => Ap.tr hq.1 apq (Ap_rn pp.2.2.2.2.1 (pp.2.2.2.2.2.1.resolve_right (fun q => by omega)) (pp.2.2.2.2.2.2.resolve_right (fun q => by omega)))
      clear pp
      refine zV_if_eq (tgt := 229) (pc' := 205) dX12_readsNumbers_3.1.2.2.2 rfl rfl ⟨by omega, by omega⟩ (fun c202 => ?_) (fun c202 => ?_)
      · refine zW_iconst (pc' := 230) dX12_readsNumbers_4.1.2.1.1 rfl ?_
        exact zV_zret rfl (by omega) dX12_readsNumbers_4.1.2.1.2 ⟨hF, (a9 (by refine ⟨by omega, by omega, by omega, by omega, hPre, by omega, by omega, fun q => ⟨by omega, fun z => absurd z (by omega), fun z => absurd z (by omega)⟩⟩) (by omega) (by first | exact (fun z => absurd z (by decide)) | (rw [nl]; exact ap) | (rw [nl]; exact fun _ => ap (by omega))))⟩
      · refine zW_aload_n (pc' := 206) dX12_readsNumbers_3.2.1.1.1 rfl rfl ?_
        refine zW_iconst (pc' := 207) dX12_readsNumbers_3.2.1.1.2 rfl ?_
        refine zW_bipush (pc' := 209) dX12_readsNumbers_3.2.1.2.1 rfl rfl ?_
        have y27 := hF.1 0 27 rfl rfl
        obtain ⟨hB209, eB209⟩ : ∃ z : Hp, z = h := ⟨_, rfl⟩
        have apq : Ap (κ 15) (hB209 15) (κ 0 31) (hB209 0 31) ([nV g p]) := by rw [eB209]; first | exact ap | exact ap (by omega)
        have y209_0_27 := hF.1 0 27 rfl rfl
        refine cvI2 (pc' := 212) kX12_readsNext vX12_readsNext lk_X12_160 ⟨Nat.le_of_ble_eq_true rfl, Nat.le_of_ble_eq_true rfl⟩ tb0 vq12 rfl rfl (s_X12_readsNextQ hF.2.1 hF.2.2.1 hF.2.2.2 _ ⟨by omega, by omega⟩ _ ⟨by omega, by omega⟩ g (p + nD g p) (by omega) (by omega) (by rw [hF.cell 12 rfl (fun _ => rfl), hF.1 0 27 rfl rfl]; exact hg) (by omega)) dX12_readsNumbers_3.2.1.2.2 (Nat.le_of_ble_eq_true rfl) rfl ?_
        rintro r209 h ⟨hF1, p209⟩; replace hF := hF.tr hF1 rfl
        replace hPre : Pre15 κ h := hPre.tr p209.2.2.2.2.1 (by omega)
        have pp := p209
        rw [← eB209] at pp
        have ap : ApI r209 (κ 15) (h 15) (κ 0 31) (h 0 31) ([nV g p] ++ [nV g (p + nD g p + 1)]) := fun z => Ap.tr hq.1 apq (pp.2.2.2.2.2.2.2 z)
        clear pp
        refine zV_if_eq (tgt := 229) (pc' := 215) dX12_readsNumbers_3.2.2.1.1 rfl rfl ⟨by omega, by omega⟩ (fun c212 => ?_) (fun c212 => ?_)
        · refine zW_iconst (pc' := 230) dX12_readsNumbers_4.1.2.1.1 rfl ?_
          exact zV_zret rfl (by omega) dX12_readsNumbers_4.1.2.1.2 ⟨hF, (a9 (by refine ⟨by omega, by omega, by omega, by omega, hPre, by omega, by omega, fun q => ⟨by omega, fun z => absurd z (by omega), fun z => absurd z (by omega)⟩⟩) (by omega) (by first | exact (fun z => absurd z (by decide)) | (rw [nl]; exact ap) | (rw [nl]; exact fun _ => ap (by omega))))⟩
        · refine zW_aload_n (pc' := 216) dX12_readsNumbers_3.2.2.1.2 rfl rfl ?_
          refine zW_iconst (pc' := 217) dX12_readsNumbers_3.2.2.2.1 rfl ?_
          refine zW_bipush (pc' := 219) dX12_readsNumbers_3.2.2.2.2 rfl rfl ?_
          have y27 := hF.1 0 27 rfl rfl
          obtain ⟨hB219, eB219⟩ : ∃ z : Hp, z = h := ⟨_, rfl⟩
          have apq : Ap (κ 15) (hB219 15) (κ 0 31) (hB219 0 31) ([nV g p] ++ [nV g (p + nD g p + 1)]) := by rw [eB219]; first | exact ap | exact ap (by omega)
          have y219_0_27 := hF.1 0 27 rfl rfl
          refine cvI2 (pc' := 222) kX12_readsNext vX12_readsNext lk_X12_160 ⟨Nat.le_of_ble_eq_true rfl, Nat.le_of_ble_eq_true rfl⟩ tb0 vq12 rfl rfl (s_X12_readsNextQ hF.2.1 hF.2.2.1 hF.2.2.2 _ ⟨by omega, by omega⟩ _ ⟨by omega, by omega⟩ g (n2E g p) (by omega) (by omega) (by rw [hF.cell 12 rfl (fun _ => rfl), hF.1 0 27 rfl rfl]; exact hg) (by omega)) dX12_readsNumbers_4.1.1.1.1 (Nat.le_of_ble_eq_true rfl) rfl ?_
          rintro r219 h ⟨hF1, p219⟩; replace hF := hF.tr hF1 rfl
          replace hPre : Pre15 κ h := hPre.tr p219.2.2.2.2.1 (by omega)
          have pp := p219
          rw [← eB219] at pp
          have ap : ApI r219 (κ 15) (h 15) (κ 0 31) (h 0 31) ([nV g p] ++ [nV g (p + nD g p + 1)] ++ [nV g (n2E g p + 1)]) := fun z => Ap.tr hq.1 apq (pp.2.2.2.2.2.2.2 z)
          clear pp
          refine zV_if_eq (tgt := 229) (pc' := 225) dX12_readsNumbers_4.1.1.1.2 rfl rfl ⟨by omega, by omega⟩ (fun c222 => ?_) (fun c222 => ?_)
          · refine zW_iconst (pc' := 230) dX12_readsNumbers_4.1.2.1.1 rfl ?_
            exact zV_zret rfl (by omega) dX12_readsNumbers_4.1.2.1.2 ⟨hF, (a9 (by refine ⟨by omega, by omega, by omega, by omega, hPre, by omega, by omega, fun q => ⟨by omega, fun z => absurd z (by omega), fun z => absurd z (by omega)⟩⟩) (by omega) (by first | exact (fun z => absurd z (by decide)) | (rw [nl]; exact ap) | (rw [nl]; exact fun _ => ap (by omega))))⟩
          · refine zW_iconst (pc' := 226) dX12_readsNumbers_4.1.1.2.1 rfl ?_
            refine zV_goto 230 dX12_readsNumbers_4.1.1.2.2 rfl ?_
            exact zV_zret rfl (by omega) dX12_readsNumbers_4.1.2.1.2 ⟨hF, (a9 (by refine ⟨by omega, by omega, by omega, by omega, hPre, by omega, by omega, fun q => ⟨by omega, fun z => absurd z (by omega), fun z => absurd z (by omega)⟩⟩) (by omega) (by first | exact (fun z => absurd z (by decide)) | (rw [nl]; exact ap) | (rw [nl]; exact fun _ => ap (by omega))))⟩
    · first | have nb : nbF g x1 p = nF g p 0 254 ∧ nbE g x1 p = p + nD g p := by rw [s104]; exact nb_104
      first | have nl : nbL g x1 p = [nV g p] := by rw [s104]; exact nl_104
      refine zW_aload_n (pc' := 143) dX12_readsNumbers_1.1.2.2.1 rfl rfl ?_
      refine zW_iconst (pc' := 144) dX12_readsNumbers_1.1.2.2.2 rfl ?_
      refine zW_sipush (pc' := 147) dX12_readsNumbers_1.2.1.1.1 rfl rfl ?_
      have y27 := hF.1 0 27 rfl rfl
      obtain ⟨hB147, eB147⟩ : ∃ z : Hp, z = h := ⟨_, rfl⟩
      have apq : Ap (κ 15) (hB147 15) (κ 0 31) (hB147 0 31) ([]) := by rw [eB147]; first | exact ap | exact ap (by omega)
      have y147_0_27 := hF.1 0 27 rfl rfl
      refine cvI2 (pc' := 150) kX12_readsNumber vX12_readsNumber lk_X12_157 ⟨Nat.le_of_ble_eq_true rfl, Nat.le_of_ble_eq_true rfl⟩ tb0 vq12 rfl rfl (s_X12_readsNumberP hF.2.1 hF.2.2.1 hF.2.2.2 _ ⟨by omega, by omega⟩ _ ⟨by omega, by omega⟩ g p (by omega) (by omega) (by rw [hF.cell 12 rfl (fun _ => rfl), hF.1 0 27 rfl rfl]; exact hg) (by omega)) dX12_readsNumbers_1.2.1.1.2 (Nat.le_of_ble_eq_true rfl) rfl ?_
      rintro r147 h ⟨hF1, p147⟩; replace hF := hF.tr hF1 rfl
      replace hPre : Pre15 κ h := hPre.tr p147.2.2.2.2.1 (by omega)
      have pp := p147
      rw [← eB147] at pp
      have ap : ApI r147 (κ 15) (h 15) (κ 0 31) (h 0 31) ([nV g p]) := fun z => Ap.tr hq.1 apq (Ap_rn pp.2.2.2.2.1 (pp.2.2.2.2.2.1.resolve_right (fun q => by omega)) (pp.2.2.2.2.2.2.resolve_right (fun q => by omega)))
      clear pp
      exact zV_zret rfl (by omega) dX12_readsNumbers_1.2.1.2.1 ⟨hF, (a9 (by refine ⟨by omega, by omega, by omega, by omega, hPre, by omega, by omega, fun q => ⟨by omega, fun z => absurd z (by omega), fun z => absurd z (by omega)⟩⟩) (by omega) (by first | exact (fun z => absurd z (by decide)) | (rw [nl]; exact ap) | (rw [nl]; exact fun _ => ap (by omega))))⟩
    · first | have nb : nbF g x1 p = nF g p 0 99 ∧ nbE g x1 p = p + nD g p := by rw [s108]; exact nb_108 | have nb : nbF g x1 p = nF g p 0 99 ∧ nbE g x1 p = p + nD g p := by rw [s109]; exact nb_109
      first | have nl : nbL g x1 p = [nV g p] := by rw [s108]; exact nl_108 | have nl : nbL g x1 p = [nV g p] := by rw [s109]; exact nl_109
      refine zW_aload_n (pc' := 152) dX12_readsNumbers_1.2.1.2.2 rfl rfl ?_
      refine zW_iconst (pc' := 153) dX12_readsNumbers_1.2.2.1.1 rfl ?_
      refine zW_bipush (pc' := 155) dX12_readsNumbers_1.2.2.1.2 rfl rfl ?_
      have y27 := hF.1 0 27 rfl rfl
      obtain ⟨hB155, eB155⟩ : ∃ z : Hp, z = h := ⟨_, rfl⟩
      have apq : Ap (κ 15) (hB155 15) (κ 0 31) (hB155 0 31) ([]) := by rw [eB155]; first | exact ap | exact ap (by omega)
      have y155_0_27 := hF.1 0 27 rfl rfl
      refine cvI2 (pc' := 158) kX12_readsNumber vX12_readsNumber lk_X12_157 ⟨Nat.le_of_ble_eq_true rfl, Nat.le_of_ble_eq_true rfl⟩ tb0 vq12 rfl rfl (s_X12_readsNumberP hF.2.1 hF.2.2.1 hF.2.2.2 _ ⟨by omega, by omega⟩ _ ⟨by omega, by omega⟩ g p (by omega) (by omega) (by rw [hF.cell 12 rfl (fun _ => rfl), hF.1 0 27 rfl rfl]; exact hg) (by omega)) dX12_readsNumbers_1.2.2.2.1 (Nat.le_of_ble_eq_true rfl) rfl ?_
      rintro r155 h ⟨hF1, p155⟩; replace hF := hF.tr hF1 rfl
      replace hPre : Pre15 κ h := hPre.tr p155.2.2.2.2.1 (by omega)
      have pp := p155
      rw [← eB155] at pp
      have ap : ApI r155 (κ 15) (h 15) (κ 0 31) (h 0 31) ([nV g p]) := fun z => Ap.tr hq.1 apq (Ap_rn pp.2.2.2.2.1 (pp.2.2.2.2.2.1.resolve_right (fun q => by omega)) (pp.2.2.2.2.2.2.resolve_right (fun q => by omega)))
      clear pp
      exact zV_zret rfl (by omega) dX12_readsNumbers_1.2.2.2.2 ⟨hF, (a9 (by refine ⟨by omega, by omega, by omega, by omega, hPre, by omega, by omega, fun q => ⟨by omega, fun z => absurd z (by omega), fun z => absurd z (by omega)⟩⟩) (by omega) (by first | exact (fun z => absurd z (by decide)) | (rw [nl]; exact ap) | (rw [nl]; exact fun _ => ap (by omega))))⟩
    · first | have nb : nbF g x1 p = nF g p 0 99 ∧ nbE g x1 p = p + nD g p := by rw [s108]; exact nb_108 | have nb : nbF g x1 p = nF g p 0 99 ∧ nbE g x1 p = p + nD g p := by rw [s109]; exact nb_109
      first | have nl : nbL g x1 p = [nV g p] := by rw [s108]; exact nl_108 | have nl : nbL g x1 p = [nV g p] := by rw [s109]; exact nl_109
      refine zW_aload_n (pc' := 152) dX12_readsNumbers_1.2.1.2.2 rfl rfl ?_
      refine zW_iconst (pc' := 153) dX12_readsNumbers_1.2.2.1.1 rfl ?_
      refine zW_bipush (pc' := 155) dX12_readsNumbers_1.2.2.1.2 rfl rfl ?_
      have y27 := hF.1 0 27 rfl rfl
      obtain ⟨hB155, eB155⟩ : ∃ z : Hp, z = h := ⟨_, rfl⟩
      have apq : Ap (κ 15) (hB155 15) (κ 0 31) (hB155 0 31) ([]) := by rw [eB155]; first | exact ap | exact ap (by omega)
      have y155_0_27 := hF.1 0 27 rfl rfl
      refine cvI2 (pc' := 158) kX12_readsNumber vX12_readsNumber lk_X12_157 ⟨Nat.le_of_ble_eq_true rfl, Nat.le_of_ble_eq_true rfl⟩ tb0 vq12 rfl rfl (s_X12_readsNumberP hF.2.1 hF.2.2.1 hF.2.2.2 _ ⟨by omega, by omega⟩ _ ⟨by omega, by omega⟩ g p (by omega) (by omega) (by rw [hF.cell 12 rfl (fun _ => rfl), hF.1 0 27 rfl rfl]; exact hg) (by omega)) dX12_readsNumbers_1.2.2.2.1 (Nat.le_of_ble_eq_true rfl) rfl ?_
      rintro r155 h ⟨hF1, p155⟩; replace hF := hF.tr hF1 rfl
      replace hPre : Pre15 κ h := hPre.tr p155.2.2.2.2.1 (by omega)
      have pp := p155
      rw [← eB155] at pp
      have ap : ApI r155 (κ 15) (h 15) (κ 0 31) (h 0 31) ([nV g p]) := fun z => Ap.tr hq.1 apq (Ap_rn pp.2.2.2.2.1 (pp.2.2.2.2.2.1.resolve_right (fun q => by omega)) (pp.2.2.2.2.2.2.resolve_right (fun q => by omega)))
      clear pp
      exact zV_zret rfl (by omega) dX12_readsNumbers_1.2.2.2.2 ⟨hF, (a9 (by refine ⟨by omega, by omega, by omega, by omega, hPre, by omega, by omega, fun q => ⟨by omega, fun z => absurd z (by omega), fun z => absurd z (by omega)⟩⟩) (by omega) (by first | exact (fun z => absurd z (by decide)) | (rw [nl]; exact ap) | (rw [nl]; exact fun _ => ap (by omega))))⟩
    · first | have nb : nbF g x1 p = n2F g p 0 99 99 ∧ nbE g x1 p = n2E g p := by rw [s110]; exact nb_110 | have nb : nbF g x1 p = n2F g p 0 99 99 ∧ nbE g x1 p = n2E g p := by rw [s115]; exact nb_115
      have u2 : n2F g p 0 99 99 = sq (nF g p 0 99) (nxF g (p + nD g p) 99) := rfl
      have s2 := sqc (nF g p 0 99) (nxF g (p + nD g p) 99)
      have u4 : n2E g p = nxE g (p + nD g p) := rfl
      first | have nl : nbL g x1 p = [nV g p, nV g (p + nD g p + 1)] := by rw [s110]; exact nl_110 | have nl : nbL g x1 p = [nV g p, nV g (p + nD g p + 1)] := by rw [s115]; exact nl_115
      refine zW_aload_n (pc' := 257) dX12_readsNumbers_5.1.2.1.1 rfl rfl ?_
      refine zW_iconst (pc' := 258) dX12_readsNumbers_5.1.2.1.2 rfl ?_
      refine zW_bipush (pc' := 260) dX12_readsNumbers_5.1.2.2.1 rfl rfl ?_
      have y27 := hF.1 0 27 rfl rfl
      obtain ⟨hB260, eB260⟩ : ∃ z : Hp, z = h := ⟨_, rfl⟩
      have apq : Ap (κ 15) (hB260 15) (κ 0 31) (hB260 0 31) ([]) := by rw [eB260]; first | exact ap | exact ap (by omega)
      have y260_0_27 := hF.1 0 27 rfl rfl
      refine cvI2 (pc' := 263) kX12_readsNumber vX12_readsNumber lk_X12_157 ⟨Nat.le_of_ble_eq_true rfl, Nat.le_of_ble_eq_true rfl⟩ tb0 vq12 rfl rfl (s_X12_readsNumberP hF.2.1 hF.2.2.1 hF.2.2.2 _ ⟨by omega, by omega⟩ _ ⟨by omega, by omega⟩ g p (by omega) (by omega) (by rw [hF.cell 12 rfl (fun _ => rfl), hF.1 0 27 rfl rfl]; exact hg) (by omega)) dX12_readsNumbers_5.1.2.2.2 (Nat.le_of_ble_eq_true rfl) rfl ?_
      rintro r260 h ⟨hF1, p260⟩; replace hF := hF.tr hF1 rfl
      replace hPre : Pre15 κ h := hPre.tr p260.2.2.2.2.1 (by omega)
      have pp := p260
      rw [← eB260] at pp
      have ap : ApI r260 (κ 15) (h 15) (κ 0 31) (h 0 31) ([nV g p]) := fun z => Ap.tr hq.1 apq (Ap_rn pp.2.2.2.2.1 (pp.2.2.2.2.2.1.resolve_right (fun q => by omega)) (pp.2.2.2.2.2.2.resolve_right (fun q => by omega)))
      clear pp
      refine zV_if_eq (tgt := 280) (pc' := 266) dX12_readsNumbers_5.2.1.1.1 rfl rfl ⟨by omega, by omega⟩ (fun c263 => ?_) (fun c263 => ?_)
      · refine zW_iconst (pc' := 281) dX12_readsNumbers_6.1.1.1 rfl ?_
        exact zV_zret rfl (by omega) dX12_readsNumbers_6.1.1.2 ⟨hF, (a9 (by refine ⟨by omega, by omega, by omega, by omega, hPre, by omega, by omega, fun q => ⟨by omega, fun z => absurd z (by omega), fun z => absurd z (by omega)⟩⟩) (by omega) (by first | exact (fun z => absurd z (by decide)) | (rw [nl]; exact ap) | (rw [nl]; exact fun _ => ap (by omega))))⟩
      · refine zW_aload_n (pc' := 267) dX12_readsNumbers_5.2.1.1.2 rfl rfl ?_
        refine zW_iconst (pc' := 268) dX12_readsNumbers_5.2.1.2.1 rfl ?_
        refine zW_bipush (pc' := 270) dX12_readsNumbers_5.2.1.2.2 rfl rfl ?_
        have y27 := hF.1 0 27 rfl rfl
        obtain ⟨hB270, eB270⟩ : ∃ z : Hp, z = h := ⟨_, rfl⟩
        have apq : Ap (κ 15) (hB270 15) (κ 0 31) (hB270 0 31) ([nV g p]) := by rw [eB270]; first | exact ap | exact ap (by omega)
        have y270_0_27 := hF.1 0 27 rfl rfl
        refine cvI2 (pc' := 273) kX12_readsNext vX12_readsNext lk_X12_160 ⟨Nat.le_of_ble_eq_true rfl, Nat.le_of_ble_eq_true rfl⟩ tb0 vq12 rfl rfl (s_X12_readsNextQ hF.2.1 hF.2.2.1 hF.2.2.2 _ ⟨by omega, by omega⟩ _ ⟨by omega, by omega⟩ g (p + nD g p) (by omega) (by omega) (by rw [hF.cell 12 rfl (fun _ => rfl), hF.1 0 27 rfl rfl]; exact hg) (by omega)) dX12_readsNumbers_5.2.2.1.1 (Nat.le_of_ble_eq_true rfl) rfl ?_
        rintro r270 h ⟨hF1, p270⟩; replace hF := hF.tr hF1 rfl
        replace hPre : Pre15 κ h := hPre.tr p270.2.2.2.2.1 (by omega)
        have pp := p270
        rw [← eB270] at pp
        have ap : ApI r270 (κ 15) (h 15) (κ 0 31) (h 0 31) ([nV g p] ++ [nV g (p + nD g p + 1)]) := fun z => Ap.tr hq.1 apq (pp.2.2.2.2.2.2.2 z)
        clear pp
        refine zV_if_eq (tgt := 280) (pc' := 276) dX12_readsNumbers_5.2.2.1.2 rfl rfl ⟨by omega, by omega⟩ (fun c273 => ?_) (fun c273 => ?_)
        · refine zW_iconst (pc' := 281) dX12_readsNumbers_6.1.1.1 rfl ?_
          exact zV_zret rfl (by omega) dX12_readsNumbers_6.1.1.2 ⟨hF, (a9 (by refine ⟨by omega, by omega, by omega, by omega, hPre, by omega, by omega, fun q => ⟨by omega, fun z => absurd z (by omega), fun z => absurd z (by omega)⟩⟩) (by omega) (by first | exact (fun z => absurd z (by decide)) | (rw [nl]; exact ap) | (rw [nl]; exact fun _ => ap (by omega))))⟩
        · refine zW_iconst (pc' := 277) dX12_readsNumbers_5.2.2.2.1 rfl ?_
          refine zV_goto 281 dX12_readsNumbers_5.2.2.2.2 rfl ?_
          exact zV_zret rfl (by omega) dX12_readsNumbers_6.1.1.2 ⟨hF, (a9 (by refine ⟨by omega, by omega, by omega, by omega, hPre, by omega, by omega, fun q => ⟨by omega, fun z => absurd z (by omega), fun z => absurd z (by omega)⟩⟩) (by omega) (by first | exact (fun z => absurd z (by decide)) | (rw [nl]; exact ap) | (rw [nl]; exact fun _ => ap (by omega))))⟩
    · first | have nb : nbF g x1 p = nF g p 1 4 ∧ nbE g x1 p = p + nD g p := by rw [s111]; exact nb_111
      first | have nl : nbL g x1 p = [nV g p] := by rw [s111]; exact nl_111
      refine zW_aload_n (pc' := 122) dX12_readsNumbers_0.1.2.2.2 rfl rfl ?_
      refine zW_iconst (pc' := 123) dX12_readsNumbers_0.2.1.1.1 rfl ?_
      refine zW_iconst (pc' := 124) dX12_readsNumbers_0.2.1.1.2 rfl ?_
      have y27 := hF.1 0 27 rfl rfl
      obtain ⟨hB, eB⟩ : ∃ z : Hp, z = h := ⟨_, rfl⟩
      have eB31 : hB 0 31 = κ 0 31 := by rw [eB, hk0]
      have eB26 : hB 0 26 = κ 0 26 := by rw [eB, hk0]
      have eB27 : hB 0 27 = κ 0 27 := by rw [eB, hk0]
      obtain ⟨hB124, eB124⟩ : ∃ z : Hp, z = h := ⟨_, rfl⟩
      have apq : Ap (κ 15) (hB124 15) (κ 0 31) (hB124 0 31) ([]) := by rw [eB124]; first | exact ap | exact ap (by omega)
      have y124_0_27 := hF.1 0 27 rfl rfl
      refine cvI2 (pc' := 127) kX12_readsNumber vX12_readsNumber lk_X12_157 ⟨Nat.le_of_ble_eq_true rfl, Nat.le_of_ble_eq_true rfl⟩ tb0 vq12 rfl rfl (s_X12_readsNumberP hF.2.1 hF.2.2.1 hF.2.2.2 _ ⟨by omega, by omega⟩ _ ⟨by omega, by omega⟩ g p (by omega) (by omega) (by rw [hF.cell 12 rfl (fun _ => rfl), hF.1 0 27 rfl rfl]; exact hg) (by omega)) dX12_readsNumbers_0.2.1.2.1 (Nat.le_of_ble_eq_true rfl) rfl ?_
      rintro r124 h ⟨hF1, p124⟩; replace hF := hF.tr hF1 rfl
      replace hPre : Pre15 κ h := hPre.tr p124.2.2.2.2.1 (by omega)
      have pp := p124
      rw [← eB124] at pp
      have ap : ApI r124 (κ 15) (h 15) (κ 0 31) (h 0 31) ([nV g p]) := fun z => Ap.tr hq.1 apq (Ap_rn pp.2.2.2.2.1 (pp.2.2.2.2.2.1.resolve_right (fun q => by omega)) (pp.2.2.2.2.2.2.resolve_right (fun q => by omega)))
      clear pp
      rw [← eB] at p124
      have hv1 := fun (q : r124 = 1) => (p124.2.2.2.2.2.1.resolve_right (fun z => by omega)).2.2.2.2.2
      rw [eB31] at hv1
      exact zV_zret rfl (by omega) dX12_readsNumbers_0.2.1.2.2 ⟨hF, (a9 (by refine ⟨by omega, by omega, by omega, by omega, hPre, by omega, by omega, fun q => ⟨by omega, fun _ => ?_, fun z => absurd z (by omega)⟩⟩; have := hv1 q; omega) (by omega) (by first | exact (fun z => absurd z (by decide)) | (rw [nl]; exact ap) | (rw [nl]; exact fun _ => ap (by omega))))⟩
    · first | have nb : nbF g x1 p = n2F g p 1 4 32 ∧ nbE g x1 p = n2E g p := by rw [s112]; exact nb_112
      have u2 : n2F g p 1 4 32 = sq (nF g p 1 4) (nxF g (p + nD g p) 32) := rfl
      have s2 := sqc (nF g p 1 4) (nxF g (p + nD g p) 32)
      have u4 : n2E g p = nxE g (p + nD g p) := rfl
      first | have nl : nbL g x1 p = [nV g p, nV g (p + nD g p + 1)] := by rw [s112]; exact nl_112
      refine zW_aload_n (pc' := 232) dX12_readsNumbers_4.1.2.2.1 rfl rfl ?_
      refine zW_iconst (pc' := 233) dX12_readsNumbers_4.1.2.2.2 rfl ?_
      refine zW_iconst (pc' := 234) dX12_readsNumbers_4.2.1.1.1 rfl ?_
      have y27 := hF.1 0 27 rfl rfl
      obtain ⟨hB, eB⟩ : ∃ z : Hp, z = h := ⟨_, rfl⟩
      have eB31 : hB 0 31 = κ 0 31 := by rw [eB, hk0]
      have eB26 : hB 0 26 = κ 0 26 := by rw [eB, hk0]
      have eB27 : hB 0 27 = κ 0 27 := by rw [eB, hk0]
      obtain ⟨hB234, eB234⟩ : ∃ z : Hp, z = h := ⟨_, rfl⟩
      have apq : Ap (κ 15) (hB234 15) (κ 0 31) (hB234 0 31) ([]) := by rw [eB234]; first | exact ap | exact ap (by omega)
      have y234_0_27 := hF.1 0 27 rfl rfl
      refine cvI2 (pc' := 237) kX12_readsNumber vX12_readsNumber lk_X12_157 ⟨Nat.le_of_ble_eq_true rfl, Nat.le_of_ble_eq_true rfl⟩ tb0 vq12 rfl rfl (s_X12_readsNumberP hF.2.1 hF.2.2.1 hF.2.2.2 _ ⟨by omega, by omega⟩ _ ⟨by omega, by omega⟩ g p (by omega) (by omega) (by rw [hF.cell 12 rfl (fun _ => rfl), hF.1 0 27 rfl rfl]; exact hg) (by omega)) dX12_readsNumbers_4.2.1.1.2 (Nat.le_of_ble_eq_true rfl) rfl ?_
      rintro r234 h ⟨hF1, p234⟩; replace hF := hF.tr hF1 rfl
      replace hPre : Pre15 κ h := hPre.tr p234.2.2.2.2.1 (by omega)
      have pp := p234
      rw [← eB234] at pp
      have ap : ApI r234 (κ 15) (h 15) (κ 0 31) (h 0 31) ([nV g p]) := fun z => Ap.tr hq.1 apq (Ap_rn pp.2.2.2.2.1 (pp.2.2.2.2.2.1.resolve_right (fun q => by omega)) (pp.2.2.2.2.2.2.resolve_right (fun q => by omega)))
      clear pp
      rw [← eB] at p234
      have hv1 := fun (q : r234 = 1) => (p234.2.2.2.2.2.1.resolve_right (fun z => by omega)).2.2.2.2.2
      rw [eB31] at hv1
      refine zV_if_eq (tgt := 254) (pc' := 240) dX12_readsNumbers_4.2.1.2.1 rfl rfl ⟨by omega, by omega⟩ (fun c237 => ?_) (fun c237 => ?_)
      · refine zW_iconst (pc' := 255) dX12_readsNumbers_5.1.1.2.1 rfl ?_
        exact zV_zret rfl (by omega) dX12_readsNumbers_5.1.1.2.2 ⟨hF, (a9 (by refine ⟨by omega, by omega, by omega, by omega, hPre, by omega, by omega, fun q => ⟨by omega, fun _ => ?_, fun z => absurd z (by omega)⟩⟩; first | omega | (have := hv2 (by omega); omega)) (by omega) (by first | exact (fun z => absurd z (by decide)) | (rw [nl]; exact ap) | (rw [nl]; exact fun _ => ap (by omega))))⟩
      · refine zW_aload_n (pc' := 241) dX12_readsNumbers_4.2.1.2.2 rfl rfl ?_
        refine zW_iconst (pc' := 242) dX12_readsNumbers_4.2.2.1.1 rfl ?_
        refine zW_bipush (pc' := 244) dX12_readsNumbers_4.2.2.1.2 rfl rfl ?_
        have y27 := hF.1 0 27 rfl rfl
        obtain ⟨hB244, eB244⟩ : ∃ z : Hp, z = h := ⟨_, rfl⟩
        have apq : Ap (κ 15) (hB244 15) (κ 0 31) (hB244 0 31) ([nV g p]) := by rw [eB244]; first | exact ap | exact ap (by omega)
        have y244_0_27 := hF.1 0 27 rfl rfl
        refine cvI2 (pc' := 247) kX12_readsNext vX12_readsNext lk_X12_160 ⟨Nat.le_of_ble_eq_true rfl, Nat.le_of_ble_eq_true rfl⟩ tb0 vq12 rfl rfl (s_X12_readsNextQ hF.2.1 hF.2.2.1 hF.2.2.2 _ ⟨by omega, by omega⟩ _ ⟨by omega, by omega⟩ g (p + nD g p) (by omega) (by omega) (by rw [hF.cell 12 rfl (fun _ => rfl), hF.1 0 27 rfl rfl]; exact hg) (by omega)) dX12_readsNumbers_4.2.2.2.1 (Nat.le_of_ble_eq_true rfl) rfl ?_
        rintro r244 h ⟨hF1, p244⟩; replace hF := hF.tr hF1 rfl
        replace hPre : Pre15 κ h := hPre.tr p244.2.2.2.2.1 (by omega)
        have pp := p244
        rw [← eB244] at pp
        have ap : ApI r244 (κ 15) (h 15) (κ 0 31) (h 0 31) ([nV g p] ++ [nV g (p + nD g p + 1)]) := fun z => Ap.tr hq.1 apq (pp.2.2.2.2.2.2.2 z)
        clear pp
        have hv2 := fun (q : r234 = 1) => (p244.2.2.2.2.1 (κ 0 31).toNat (by omega)).trans (hv1 q)
        refine zV_if_eq (tgt := 254) (pc' := 250) dX12_readsNumbers_4.2.2.2.2 rfl rfl ⟨by omega, by omega⟩ (fun c247 => ?_) (fun c247 => ?_)
        · refine zW_iconst (pc' := 255) dX12_readsNumbers_5.1.1.2.1 rfl ?_
          exact zV_zret rfl (by omega) dX12_readsNumbers_5.1.1.2.2 ⟨hF, (a9 (by refine ⟨by omega, by omega, by omega, by omega, hPre, by omega, by omega, fun q => ⟨by omega, fun _ => ?_, fun z => absurd z (by omega)⟩⟩; first | omega | (have := hv2 (by omega); omega)) (by omega) (by first | exact (fun z => absurd z (by decide)) | (rw [nl]; exact ap) | (rw [nl]; exact fun _ => ap (by omega))))⟩
        · refine zW_iconst (pc' := 251) dX12_readsNumbers_5.1.1.1.1 rfl ?_
          refine zV_goto 255 dX12_readsNumbers_5.1.1.1.2 rfl ?_
          exact zV_zret rfl (by omega) dX12_readsNumbers_5.1.1.2.2 ⟨hF, (a9 (by refine ⟨by omega, by omega, by omega, by omega, hPre, by omega, by omega, fun q => ⟨by omega, fun _ => ?_, fun z => absurd z (by omega)⟩⟩; first | omega | (have := hv2 (by omega); omega)) (by omega) (by first | exact (fun z => absurd z (by decide)) | (rw [nl]; exact ap) | (rw [nl]; exact fun _ => ap (by omega))))⟩
    · first | have nb : nbF g x1 p = n2F g p 0 99 99 ∧ nbE g x1 p = n2E g p := by rw [s110]; exact nb_110 | have nb : nbF g x1 p = n2F g p 0 99 99 ∧ nbE g x1 p = n2E g p := by rw [s115]; exact nb_115
      have u2 : n2F g p 0 99 99 = sq (nF g p 0 99) (nxF g (p + nD g p) 99) := rfl
      have s2 := sqc (nF g p 0 99) (nxF g (p + nD g p) 99)
      have u4 : n2E g p = nxE g (p + nD g p) := rfl
      first | have nl : nbL g x1 p = [nV g p, nV g (p + nD g p + 1)] := by rw [s110]; exact nl_110 | have nl : nbL g x1 p = [nV g p, nV g (p + nD g p + 1)] := by rw [s115]; exact nl_115
      refine zW_aload_n (pc' := 257) dX12_readsNumbers_5.1.2.1.1 rfl rfl ?_
      refine zW_iconst (pc' := 258) dX12_readsNumbers_5.1.2.1.2 rfl ?_
      refine zW_bipush (pc' := 260) dX12_readsNumbers_5.1.2.2.1 rfl rfl ?_
      have y27 := hF.1 0 27 rfl rfl
      obtain ⟨hB260, eB260⟩ : ∃ z : Hp, z = h := ⟨_, rfl⟩
      have apq : Ap (κ 15) (hB260 15) (κ 0 31) (hB260 0 31) ([]) := by rw [eB260]; first | exact ap | exact ap (by omega)
      have y260_0_27 := hF.1 0 27 rfl rfl
      refine cvI2 (pc' := 263) kX12_readsNumber vX12_readsNumber lk_X12_157 ⟨Nat.le_of_ble_eq_true rfl, Nat.le_of_ble_eq_true rfl⟩ tb0 vq12 rfl rfl (s_X12_readsNumberP hF.2.1 hF.2.2.1 hF.2.2.2 _ ⟨by omega, by omega⟩ _ ⟨by omega, by omega⟩ g p (by omega) (by omega) (by rw [hF.cell 12 rfl (fun _ => rfl), hF.1 0 27 rfl rfl]; exact hg) (by omega)) dX12_readsNumbers_5.1.2.2.2 (Nat.le_of_ble_eq_true rfl) rfl ?_
      rintro r260 h ⟨hF1, p260⟩; replace hF := hF.tr hF1 rfl
      replace hPre : Pre15 κ h := hPre.tr p260.2.2.2.2.1 (by omega)
      have pp := p260
      rw [← eB260] at pp
      have ap : ApI r260 (κ 15) (h 15) (κ 0 31) (h 0 31) ([nV g p]) := fun z => Ap.tr hq.1 apq (Ap_rn pp.2.2.2.2.1 (pp.2.2.2.2.2.1.resolve_right (fun q => by omega)) (pp.2.2.2.2.2.2.resolve_right (fun q => by omega)))
      clear pp
      refine zV_if_eq (tgt := 280) (pc' := 266) dX12_readsNumbers_5.2.1.1.1 rfl rfl ⟨by omega, by omega⟩ (fun c263 => ?_) (fun c263 => ?_)
      · refine zW_iconst (pc' := 281) dX12_readsNumbers_6.1.1.1 rfl ?_
        exact zV_zret rfl (by omega) dX12_readsNumbers_6.1.1.2 ⟨hF, (a9 (by refine ⟨by omega, by omega, by omega, by omega, hPre, by omega, by omega, fun q => ⟨by omega, fun z => absurd z (by omega), fun z => absurd z (by omega)⟩⟩) (by omega) (by first | exact (fun z => absurd z (by decide)) | (rw [nl]; exact ap) | (rw [nl]; exact fun _ => ap (by omega))))⟩
      · refine zW_aload_n (pc' := 267) dX12_readsNumbers_5.2.1.1.2 rfl rfl ?_
        refine zW_iconst (pc' := 268) dX12_readsNumbers_5.2.1.2.1 rfl ?_
        refine zW_bipush (pc' := 270) dX12_readsNumbers_5.2.1.2.2 rfl rfl ?_
        have y27 := hF.1 0 27 rfl rfl
        obtain ⟨hB270, eB270⟩ : ∃ z : Hp, z = h := ⟨_, rfl⟩
        have apq : Ap (κ 15) (hB270 15) (κ 0 31) (hB270 0 31) ([nV g p]) := by rw [eB270]; first | exact ap | exact ap (by omega)
        have y270_0_27 := hF.1 0 27 rfl rfl
        refine cvI2 (pc' := 273) kX12_readsNext vX12_readsNext lk_X12_160 ⟨Nat.le_of_ble_eq_true rfl, Nat.le_of_ble_eq_true rfl⟩ tb0 vq12 rfl rfl (s_X12_readsNextQ hF.2.1 hF.2.2.1 hF.2.2.2 _ ⟨by omega, by omega⟩ _ ⟨by omega, by omega⟩ g (p + nD g p) (by omega) (by omega) (by rw [hF.cell 12 rfl (fun _ => rfl), hF.1 0 27 rfl rfl]; exact hg) (by omega)) dX12_readsNumbers_5.2.2.1.1 (Nat.le_of_ble_eq_true rfl) rfl ?_
        rintro r270 h ⟨hF1, p270⟩; replace hF := hF.tr hF1 rfl
        replace hPre : Pre15 κ h := hPre.tr p270.2.2.2.2.1 (by omega)
        have pp := p270
        rw [← eB270] at pp
        have ap : ApI r270 (κ 15) (h 15) (κ 0 31) (h 0 31) ([nV g p] ++ [nV g (p + nD g p + 1)]) := fun z => Ap.tr hq.1 apq (pp.2.2.2.2.2.2.2 z)
        clear pp
        refine zV_if_eq (tgt := 280) (pc' := 276) dX12_readsNumbers_5.2.2.1.2 rfl rfl ⟨by omega, by omega⟩ (fun c273 => ?_) (fun c273 => ?_)
        · refine zW_iconst (pc' := 281) dX12_readsNumbers_6.1.1.1 rfl ?_
          exact zV_zret rfl (by omega) dX12_readsNumbers_6.1.1.2 ⟨hF, (a9 (by refine ⟨by omega, by omega, by omega, by omega, hPre, by omega, by omega, fun q => ⟨by omega, fun z => absurd z (by omega), fun z => absurd z (by omega)⟩⟩) (by omega) (by first | exact (fun z => absurd z (by decide)) | (rw [nl]; exact ap) | (rw [nl]; exact fun _ => ap (by omega))))⟩
        · refine zW_iconst (pc' := 277) dX12_readsNumbers_5.2.2.2.1 rfl ?_
          refine zV_goto 281 dX12_readsNumbers_5.2.2.2.2 rfl ?_
          exact zV_zret rfl (by omega) dX12_readsNumbers_6.1.1.2 ⟨hF, (a9 (by refine ⟨by omega, by omega, by omega, by omega, hPre, by omega, by omega, fun q => ⟨by omega, fun z => absurd z (by omega), fun z => absurd z (by omega)⟩⟩) (by omega) (by first | exact (fun z => absurd z (by decide)) | (rw [nl]; exact ap) | (rw [nl]; exact fun _ => ap (by omega))))⟩
    · first | have nb : nbF g x1 p = nF g p 1 3 ∧ nbE g x1 p = p + nD g p := by rw [s118]; exact nb_118
      first | have nl : nbL g x1 p = [nV g p] := by rw [s118]; exact nl_118
      refine zW_aload_n (pc' := 136) dX12_readsNumbers_1.1.1.1.2 rfl rfl ?_
      refine zW_iconst (pc' := 137) dX12_readsNumbers_1.1.1.2.1 rfl ?_
      refine zW_iconst (pc' := 138) dX12_readsNumbers_1.1.1.2.2 rfl ?_
      have y27 := hF.1 0 27 rfl rfl
      obtain ⟨hB138, eB138⟩ : ∃ z : Hp, z = h := ⟨_, rfl⟩
      have apq : Ap (κ 15) (hB138 15) (κ 0 31) (hB138 0 31) ([]) := by rw [eB138]; first | exact ap | exact ap (by omega)
      have y138_0_27 := hF.1 0 27 rfl rfl
      refine cvI2 (pc' := 141) kX12_readsNumber vX12_readsNumber lk_X12_157 ⟨Nat.le_of_ble_eq_true rfl, Nat.le_of_ble_eq_true rfl⟩ tb0 vq12 rfl rfl (s_X12_readsNumberP hF.2.1 hF.2.2.1 hF.2.2.2 _ ⟨by omega, by omega⟩ _ ⟨by omega, by omega⟩ g p (by omega) (by omega) (by rw [hF.cell 12 rfl (fun _ => rfl), hF.1 0 27 rfl rfl]; exact hg) (by omega)) dX12_readsNumbers_1.1.2.1.1 (Nat.le_of_ble_eq_true rfl) rfl ?_
      rintro r138 h ⟨hF1, p138⟩; replace hF := hF.tr hF1 rfl
      replace hPre : Pre15 κ h := hPre.tr p138.2.2.2.2.1 (by omega)
      have pp := p138
      rw [← eB138] at pp
      have ap : ApI r138 (κ 15) (h 15) (κ 0 31) (h 0 31) ([nV g p]) := fun z => Ap.tr hq.1 apq (Ap_rn pp.2.2.2.2.1 (pp.2.2.2.2.2.1.resolve_right (fun q => by omega)) (pp.2.2.2.2.2.2.resolve_right (fun q => by omega)))
      clear pp
      exact zV_zret rfl (by omega) dX12_readsNumbers_1.1.2.1.2 ⟨hF, (a9 (by refine ⟨by omega, by omega, by omega, by omega, hPre, by omega, by omega, fun q => ⟨by omega, fun z => absurd z (by omega), fun z => absurd z (by omega)⟩⟩) (by omega) (by first | exact (fun z => absurd z (by decide)) | (rw [nl]; exact ap) | (rw [nl]; exact fun _ => ap (by omega))))⟩
    · first | have nb : nbF g x1 p = nF g p 0 255 ∧ nbE g x1 p = p + nD g p := by rw [s98]; exact nb_98 | have nb : nbF g x1 p = nF g p 0 255 ∧ nbE g x1 p = p + nD g p := by rw [s100]; exact nb_100 | have nb : nbF g x1 p = nF g p 0 255 ∧ nbE g x1 p = p + nD g p := by rw [s119]; exact nb_119
      first | have nl : nbL g x1 p = [nV g p] := by rw [s98]; exact nl_98 | have nl : nbL g x1 p = [nV g p] := by rw [s100]; exact nl_100 | have nl : nbL g x1 p = [nV g p] := by rw [s119]; exact nl_119
      refine zW_aload_n (pc' := 113) dX12_readsNumbers_0.1.1.2.1 rfl rfl ?_
      refine zW_iconst (pc' := 114) dX12_readsNumbers_0.1.1.2.2 rfl ?_
      refine zW_sipush (pc' := 117) dX12_readsNumbers_0.1.2.1.1 rfl rfl ?_
      have y27 := hF.1 0 27 rfl rfl
      obtain ⟨hB117, eB117⟩ : ∃ z : Hp, z = h := ⟨_, rfl⟩
      have apq : Ap (κ 15) (hB117 15) (κ 0 31) (hB117 0 31) ([]) := by rw [eB117]; first | exact ap | exact ap (by omega)
      have y117_0_27 := hF.1 0 27 rfl rfl
      refine cvI2 (pc' := 120) kX12_readsNumber vX12_readsNumber lk_X12_157 ⟨Nat.le_of_ble_eq_true rfl, Nat.le_of_ble_eq_true rfl⟩ tb0 vq12 rfl rfl (s_X12_readsNumberP hF.2.1 hF.2.2.1 hF.2.2.2 _ ⟨by omega, by omega⟩ _ ⟨by omega, by omega⟩ g p (by omega) (by omega) (by rw [hF.cell 12 rfl (fun _ => rfl), hF.1 0 27 rfl rfl]; exact hg) (by omega)) dX12_readsNumbers_0.1.2.1.2 (Nat.le_of_ble_eq_true rfl) rfl ?_
      rintro r117 h ⟨hF1, p117⟩; replace hF := hF.tr hF1 rfl
      replace hPre : Pre15 κ h := hPre.tr p117.2.2.2.2.1 (by omega)
      have pp := p117
      rw [← eB117] at pp
      have ap : ApI r117 (κ 15) (h 15) (κ 0 31) (h 0 31) ([nV g p]) := fun z => Ap.tr hq.1 apq (Ap_rn pp.2.2.2.2.1 (pp.2.2.2.2.2.1.resolve_right (fun q => by omega)) (pp.2.2.2.2.2.2.resolve_right (fun q => by omega)))
      clear pp
      exact zV_zret rfl (by omega) dX12_readsNumbers_0.1.2.2.1 ⟨hF, (a9 (by refine ⟨by omega, by omega, by omega, by omega, hPre, by omega, by omega, fun q => ⟨by omega, fun z => absurd z (by omega), fun z => absurd z (by omega)⟩⟩) (by omega) (by first | exact (fun z => absurd z (by decide)) | (rw [nl]; exact ap) | (rw [nl]; exact fun _ => ap (by omega))))⟩
    · first | have nb : nbF g x1 p = n3F g p 0 32 32 ∧ nbE g x1 p = n3E g p := by rw [s121]; exact nb_121
      have u2 : n2F g p 0 32 32 = sq (nF g p 0 32) (nxF g (p + nD g p) 32) := rfl
      have s2 := sqc (nF g p 0 32) (nxF g (p + nD g p) 32)
      have u4 : n2E g p = nxE g (p + nD g p) := rfl
      have u3 : n3F g p 0 32 32 = sq (n2F g p 0 32 32) (nxF g (n2E g p) 32) := rfl
      have s3 := sqc (n2F g p 0 32 32) (nxF g (n2E g p) 32)
      have u5 : n3E g p = nxE g (n2E g p) := rfl
      first | have nl : nbL g x1 p = [nV g p, nV g (p + nD g p + 1), nV g (n2E g p + 1)] := by rw [s121]; exact nl_121
      refine zW_aload_n (pc' := 160) dX12_readsNumbers_2.1.1.1.1 rfl rfl ?_
      refine zW_iconst (pc' := 161) dX12_readsNumbers_2.1.1.1.2 rfl ?_
      refine zW_bipush (pc' := 163) dX12_readsNumbers_2.1.1.2.1 rfl rfl ?_
      have y27 := hF.1 0 27 rfl rfl
      obtain ⟨hB163, eB163⟩ : ∃ z : Hp, z = h := ⟨_, rfl⟩
      have apq : Ap (κ 15) (hB163 15) (κ 0 31) (hB163 0 31) ([]) := by rw [eB163]; first | exact ap | exact ap (by omega)
      have y163_0_27 := hF.1 0 27 rfl rfl
      refine cvI2 (pc' := 166) kX12_readsNumber vX12_readsNumber lk_X12_157 ⟨Nat.le_of_ble_eq_true rfl, Nat.le_of_ble_eq_true rfl⟩ tb0 vq12 rfl rfl (s_X12_readsNumberP hF.2.1 hF.2.2.1 hF.2.2.2 _ ⟨by omega, by omega⟩ _ ⟨by omega, by omega⟩ g p (by omega) (by omega) (by rw [hF.cell 12 rfl (fun _ => rfl), hF.1 0 27 rfl rfl]; exact hg) (by omega)) dX12_readsNumbers_2.1.1.2.2 (Nat.le_of_ble_eq_true rfl) rfl ?_
      rintro r163 h ⟨hF1, p163⟩; replace hF := hF.tr hF1 rfl
      replace hPre : Pre15 κ h := hPre.tr p163.2.2.2.2.1 (by omega)
      have pp := p163
      rw [← eB163] at pp
      have ap : ApI r163 (κ 15) (h 15) (κ 0 31) (h 0 31) ([nV g p]) := fun z => Ap.tr hq.1 apq (Ap_rn pp.2.2.2.2.1 (pp.2.2.2.2.2.1.resolve_right (fun q => by omega)) (pp.2.2.2.2.2.2.resolve_right (fun q => by omega)))
      clear pp
      refine zV_if_eq (tgt := 193) (pc' := 169) dX12_readsNumbers_2.1.2.1.1 rfl rfl ⟨by omega, by omega⟩ (fun c166 => ?_) (fun c166 => ?_)
      · refine zW_iconst (pc' := 194) dX12_readsNumbers_3.1.1.1.2 rfl ?_
        exact zV_zret rfl (by omega) dX12_readsNumbers_3.1.1.2.1 ⟨hF, (a9 (by refine ⟨by omega, by omega, by omega, by omega, hPre, by omega, by omega, fun q => ⟨by omega, fun z => absurd z (by omega), fun z => absurd z (by omega)⟩⟩) (by omega) (by first | exact (fun z => absurd z (by decide)) | (rw [nl]; exact ap) | (rw [nl]; exact fun _ => ap (by omega))))⟩
      · refine zW_aload_n (pc' := 170) dX12_readsNumbers_2.1.2.1.2 rfl rfl ?_
        refine zW_iconst (pc' := 171) dX12_readsNumbers_2.1.2.2.1 rfl ?_
        refine zW_bipush (pc' := 173) dX12_readsNumbers_2.1.2.2.2 rfl rfl ?_
        have y27 := hF.1 0 27 rfl rfl
        obtain ⟨hB173, eB173⟩ : ∃ z : Hp, z = h := ⟨_, rfl⟩
        have apq : Ap (κ 15) (hB173 15) (κ 0 31) (hB173 0 31) ([nV g p]) := by rw [eB173]; first | exact ap | exact ap (by omega)
        have y173_0_27 := hF.1 0 27 rfl rfl
        refine cvI2 (pc' := 176) kX12_readsNext vX12_readsNext lk_X12_160 ⟨Nat.le_of_ble_eq_true rfl, Nat.le_of_ble_eq_true rfl⟩ tb0 vq12 rfl rfl (s_X12_readsNextQ hF.2.1 hF.2.2.1 hF.2.2.2 _ ⟨by omega, by omega⟩ _ ⟨by omega, by omega⟩ g (p + nD g p) (by omega) (by omega) (by rw [hF.cell 12 rfl (fun _ => rfl), hF.1 0 27 rfl rfl]; exact hg) (by omega)) dX12_readsNumbers_2.2.1.1.1 (Nat.le_of_ble_eq_true rfl) rfl ?_
        rintro r173 h ⟨hF1, p173⟩; replace hF := hF.tr hF1 rfl
        replace hPre : Pre15 κ h := hPre.tr p173.2.2.2.2.1 (by omega)
        have pp := p173
        rw [← eB173] at pp
        have ap : ApI r173 (κ 15) (h 15) (κ 0 31) (h 0 31) ([nV g p] ++ [nV g (p + nD g p + 1)]) := fun z => Ap.tr hq.1 apq (pp.2.2.2.2.2.2.2 z)
        clear pp
        refine zV_if_eq (tgt := 193) (pc' := 179) dX12_readsNumbers_2.2.1.1.2 rfl rfl ⟨by omega, by omega⟩ (fun c176 => ?_) (fun c176 => ?_)
        · refine zW_iconst (pc' := 194) dX12_readsNumbers_3.1.1.1.2 rfl ?_
          exact zV_zret rfl (by omega) dX12_readsNumbers_3.1.1.2.1 ⟨hF, (a9 (by refine ⟨by omega, by omega, by omega, by omega, hPre, by omega, by omega, fun q => ⟨by omega, fun z => absurd z (by omega), fun z => absurd z (by omega)⟩⟩) (by omega) (by first | exact (fun z => absurd z (by decide)) | (rw [nl]; exact ap) | (rw [nl]; exact fun _ => ap (by omega))))⟩
        · refine zW_aload_n (pc' := 180) dX12_readsNumbers_2.2.1.2.1 rfl rfl ?_
          refine zW_iconst (pc' := 181) dX12_readsNumbers_2.2.1.2.2 rfl ?_
          refine zW_bipush (pc' := 183) dX12_readsNumbers_2.2.2.1.1 rfl rfl ?_
          have y27 := hF.1 0 27 rfl rfl
          obtain ⟨hB183, eB183⟩ : ∃ z : Hp, z = h := ⟨_, rfl⟩
          have apq : Ap (κ 15) (hB183 15) (κ 0 31) (hB183 0 31) ([nV g p] ++ [nV g (p + nD g p + 1)]) := by rw [eB183]; first | exact ap | exact ap (by omega)
          have y183_0_27 := hF.1 0 27 rfl rfl
          refine cvI2 (pc' := 186) kX12_readsNext vX12_readsNext lk_X12_160 ⟨Nat.le_of_ble_eq_true rfl, Nat.le_of_ble_eq_true rfl⟩ tb0 vq12 rfl rfl (s_X12_readsNextQ hF.2.1 hF.2.2.1 hF.2.2.2 _ ⟨by omega, by omega⟩ _ ⟨by omega, by omega⟩ g (n2E g p) (by omega) (by omega) (by rw [hF.cell 12 rfl (fun _ => rfl), hF.1 0 27 rfl rfl]; exact hg) (by omega)) dX12_readsNumbers_2.2.2.1.2 (Nat.le_of_ble_eq_true rfl) rfl ?_
          rintro r183 h ⟨hF1, p183⟩; replace hF := hF.tr hF1 rfl
          replace hPre : Pre15 κ h := hPre.tr p183.2.2.2.2.1 (by omega)
          have pp := p183
          rw [← eB183] at pp
          have ap : ApI r183 (κ 15) (h 15) (κ 0 31) (h 0 31) ([nV g p] ++ [nV g (p + nD g p + 1)] ++ [nV g (n2E g p + 1)]) := fun z => Ap.tr hq.1 apq (pp.2.2.2.2.2.2.2 z)
          clear pp
          refine zV_if_eq (tgt := 193) (pc' := 189) dX12_readsNumbers_2.2.2.2.1 rfl rfl ⟨by omega, by omega⟩ (fun c186 => ?_) (fun c186 => ?_)
          · refine zW_iconst (pc' := 194) dX12_readsNumbers_3.1.1.1.2 rfl ?_
            exact zV_zret rfl (by omega) dX12_readsNumbers_3.1.1.2.1 ⟨hF, (a9 (by refine ⟨by omega, by omega, by omega, by omega, hPre, by omega, by omega, fun q => ⟨by omega, fun z => absurd z (by omega), fun z => absurd z (by omega)⟩⟩) (by omega) (by first | exact (fun z => absurd z (by decide)) | (rw [nl]; exact ap) | (rw [nl]; exact fun _ => ap (by omega))))⟩
          · refine zW_iconst (pc' := 190) dX12_readsNumbers_2.2.2.2.2 rfl ?_
            refine zV_goto 194 dX12_readsNumbers_3.1.1.1.1 rfl ?_
            exact zV_zret rfl (by omega) dX12_readsNumbers_3.1.1.2.1 ⟨hF, (a9 (by refine ⟨by omega, by omega, by omega, by omega, hPre, by omega, by omega, fun q => ⟨by omega, fun z => absurd z (by omega), fun z => absurd z (by omega)⟩⟩) (by omega) (by first | exact (fun z => absurd z (by decide)) | (rw [nl]; exact ap) | (rw [nl]; exact fun _ => ap (by omega))))⟩
    · have nb := nb_else (g := g) (c := x1) (p := p) (by omega)
      have e116 : x1 = 116 := kd_116 hl (by omega)
      have nl : nbL g x1 p = cuL g 200 p (-1) := by rw [e116]; exact nl_116
      refine zW_aload_n (pc' := 283) dX12_readsNumbers_6.1.2 rfl rfl ?_
      have y27 := hF.1 0 27 rfl rfl
      obtain ⟨hB, eB⟩ : ∃ z : Hp, z = h := ⟨_, rfl⟩
      have eB31 : hB 0 31 = κ 0 31 := by rw [eB, hk0]
      have eB26 : hB 0 26 = κ 0 26 := by rw [eB, hk0]
      have eB27 : hB 0 27 = κ 0 27 := by rw [eB, hk0]
      obtain ⟨hB283, eB283⟩ : ∃ z : Hp, z = h := ⟨_, rfl⟩
      have apq : Ap (κ 15) (hB283 15) (κ 0 31) (hB283 0 31) [] := by rw [eB283]; exact ap
      have y283_0_27 := hF.1 0 27 rfl rfl
      refine cvI0 (pc' := 286) kX12_readsCurve vX12_readsCurve lk_X12_163 ⟨Nat.le_of_ble_eq_true rfl, Nat.le_of_ble_eq_true rfl⟩ tb0 vq12 rfl rfl (s_X12_readsCurveQ hF.2.1 hF.2.2.1 hF.2.2.2 g p (by omega) (by omega) (by rw [hF.cell 12 rfl (fun _ => rfl), hF.1 0 27 rfl rfl]; exact hg) (by omega)) dX12_readsNumbers_6.2.1 (Nat.le_of_ble_eq_true rfl) rfl ?_
      rintro r283 h ⟨hF1, p283⟩; replace hF := hF.tr hF1 rfl
      replace hPre : Pre15 κ h := hPre.tr p283.2.2.2.2.1 (by omega)
      have pp := p283
      rw [← eB283] at pp
      have ap : ApI r283 (κ 15) (h 15) (κ 0 31) (h 0 31) (cuL g 200 p (-1)) := fun z => Ap.tr hq.1 apq (pp.2.2.2.2.2.2.2.2.2 z)
      clear pp
      rw [← eB] at p283
      have hcv := p283.2.2.2.2.2.2.2.1
      rw [eB31] at hcv
      exact zV_zret rfl (by omega) dX12_readsNumbers_6.2.2 ⟨hF, (a9 (by refine ⟨by omega, by omega, by omega, by omega, hPre, by omega, by omega, fun q => ⟨?_, fun z => absurd z (by omega), fun _ => hcv q⟩⟩; have := (hcv q).1; omega) (by omega) (by first | exact (fun z => absurd z (by decide)) | (rw [nl]; exact ap) | (rw [nl]; exact fun _ => ap (by omega))))⟩
