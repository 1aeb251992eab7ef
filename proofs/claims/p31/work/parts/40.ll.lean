/-! the law's loop -/
def lwT : Int → Nat := fun z => if z = 0 then 200 else if z = 1 then 263 else if z = 2 then 286 else if z = 3 then 329 else if z = 4 then 352 else if z = 5 then 395 else if z = 6 then 454 else if z = 7 then 497 else if z = 8 then 520 else if z = 9 then 543 else if z = 10 then 576 else if z = 11 then 609 else if z = 12 then 662 else if z = 13 then 695 else if z = 14 then 728 else if z = 15 then 761 else if z = 16 then 804 else if z = 17 then 837 else if z = 18 then 860 else if z = 19 then 893 else if z = 20 then 936 else if z = 21 then 989 else if z = 22 then 1032 else if z = 23 then 1085 else if z = 24 then 1128 else if z = 25 then 1161 else if z = 26 then 1214 else if z = 27 then 1247 else if z = 28 then 1290 else if z = 29 then 1323 else if z = 30 then 1376 else if z = 31 then 1419 else if z = 32 then 1452 else if z = 33 then 1485 else if z = 34 then 1508 else if z = 35 then 1521 else if z = 36 then 1534 else if z = 37 then 1557 else 0
theorem lwT_in : ∀ j : Fin 38, lwT ((j : Nat) : Int) = 200 ∨ lwT ((j : Nat) : Int) = 263 ∨ lwT ((j : Nat) : Int) = 286 ∨ lwT ((j : Nat) : Int) = 329 ∨ lwT ((j : Nat) : Int) = 352 ∨ lwT ((j : Nat) : Int) = 395 ∨ lwT ((j : Nat) : Int) = 454 ∨ lwT ((j : Nat) : Int) = 497 ∨ lwT ((j : Nat) : Int) = 520 ∨ lwT ((j : Nat) : Int) = 543 ∨ lwT ((j : Nat) : Int) = 576 ∨ lwT ((j : Nat) : Int) = 609 ∨ lwT ((j : Nat) : Int) = 662 ∨ lwT ((j : Nat) : Int) = 695 ∨ lwT ((j : Nat) : Int) = 728 ∨ lwT ((j : Nat) : Int) = 761 ∨ lwT ((j : Nat) : Int) = 804 ∨ lwT ((j : Nat) : Int) = 837 ∨ lwT ((j : Nat) : Int) = 860 ∨ lwT ((j : Nat) : Int) = 893 ∨ lwT ((j : Nat) : Int) = 936 ∨ lwT ((j : Nat) : Int) = 989 ∨ lwT ((j : Nat) : Int) = 1032 ∨ lwT ((j : Nat) : Int) = 1085 ∨ lwT ((j : Nat) : Int) = 1128 ∨ lwT ((j : Nat) : Int) = 1161 ∨ lwT ((j : Nat) : Int) = 1214 ∨ lwT ((j : Nat) : Int) = 1247 ∨ lwT ((j : Nat) : Int) = 1290 ∨ lwT ((j : Nat) : Int) = 1323 ∨ lwT ((j : Nat) : Int) = 1376 ∨ lwT ((j : Nat) : Int) = 1419 ∨ lwT ((j : Nat) : Int) = 1452 ∨ lwT ((j : Nat) : Int) = 1485 ∨ lwT ((j : Nat) : Int) = 1508 ∨ lwT ((j : Nat) : Int) = 1521 ∨ lwT ((j : Nat) : Int) = 1534 ∨ lwT ((j : Nat) : Int) = 1557 := by decide +kernel
set_option maxHeartbeats 4000000 in
theorem law_loop {Γ : Lc} (hX : XI Γ.1) (hcs : Γ.2.2.2.2.2.1 ≤ room_1.cells ∧ Γ.2.2.2.2.2.2 ≤ room_1.slots) (hm : Γ.2.2.1 ≤ 3072) (fin : ∀ (i : Int) (h : Hp), zL Γ 1586 (lsL i) [] h) : ∀ (N : Nat) (i : Int) (h : Hp), 0 ≤ i → i ≤ Γ.2.2.1 → (Γ.2.2.1 : Int) - i < N → SI h → KR h → KC h → TI h → TGA h → TGB h → TGC h → TGD h → TGR h → TGV h → TGE h → TGS h → TGP h → TGF h → zL Γ 18 (lsL i) [] h := by
  intro N
  induction N with
  | zero => intro i h h0 h1 h2; omega
  | succ N ih =>
    intro i h h0 h1 h2 hS hR hC hT gA gB gC gD gR gV gE gS gP gF
    refine zL_iload_n (pc' := 19) dL_18 rfl rfl ?_
    refine zL_aload_n (pc' := 20) dL_19 rfl rfl ?_
    refine zL_slen (pc' := 21) dL_20 rfl ?_
    refine zL_bipush (pc' := 23) dL_21 rfl rfl ?_
    refine zL_isub (pc' := 24) dL_23 rfl ?_
    refine zL_cm_gt (tgt := 1586) (pc' := 27) dL_24 rfl rfl ⟨by omega, by omega⟩ ⟨by omega, by omega⟩ (fun _ => fin i h) (fun q => ?_)
    have hi : 0 ≤ i ∧ i + 6 ≤ Γ.2.2.1 := ⟨h0, by omega⟩
    have hm' : Γ.2.2.1 < 2147483648 := by omega
    have nx : ∀ h' : Hp, SI h' → KR h' → KC h' → TI h' → TGA h' → TGB h' → TGC h' → TGD h' → TGR h' → TGV h' → TGE h' → TGS h' → TGP h' → TGF h' → zL Γ 1580 (lsL i) [] h' := by
      intro h' s1 s2 s3 s4 s5A s5B s5C s5D s5R s5V s5E s5S s5P s5F
      refine zL_iinc (pc' := 1583) dL_1580 rfl (by decide) rfl ?_
      refine zL_goto (tgt := 18) dL_1583 rfl ?_
      exact ih (i + 6) h' (by omega) (by omega) (by omega) s1 s2 s3 s4 s5A s5B s5C s5D s5R s5V s5E s5S s5P s5F
    refine zL_aload_n (pc' := 28) dL_27 rfl rfl ?_
    refine zL_iload_n (pc' := 29) dL_28 rfl rfl ?_
    refine zL_sld (pc' := 30) (by omega) hm' dL_29 rfl (fun v e => ?_)
    refine zL_bipush (pc' := 32) dL_30 rfl rfl ?_
    refine zL_iand (pc' := 33) dL_32 rfl (fun a ea => ?_)
    refine zL_tsw dL_33 lwT ea (tsw_ok (pc := 33) (lo := 0) (offs := #[167, 230, 253, 296, 319, 362, 421, 464, 487, 510, 543, 576, 629, 662, 695, 728, 771, 804, 827, 860, 903, 956, 999, 1052, 1095, 1128, 1181, 1214, 1257, 1290, 1343, 1386, 1419, 1452, 1475, 1488, 1501, 1524]) (tg := lwT) (by decide +kernel)) rfl (td := 1580) rfl (fun _ => nx h hS hR hC hT gA gB gC gD gR gV gE gS gP gF) (fun g1 g2 => ?_)
    have w : lwT ((a.toNat : Nat) : Int) = 200 ∨ lwT ((a.toNat : Nat) : Int) = 263 ∨ lwT ((a.toNat : Nat) : Int) = 286 ∨ lwT ((a.toNat : Nat) : Int) = 329 ∨ lwT ((a.toNat : Nat) : Int) = 352 ∨ lwT ((a.toNat : Nat) : Int) = 395 ∨ lwT ((a.toNat : Nat) : Int) = 454 ∨ lwT ((a.toNat : Nat) : Int) = 497 ∨ lwT ((a.toNat : Nat) : Int) = 520 ∨ lwT ((a.toNat : Nat) : Int) = 543 ∨ lwT ((a.toNat : Nat) : Int) = 576 ∨ lwT ((a.toNat : Nat) : Int) = 609 ∨ lwT ((a.toNat : Nat) : Int) = 662 ∨ lwT ((a.toNat : Nat) : Int) = 695 ∨ lwT ((a.toNat : Nat) : Int) = 728 ∨ lwT ((a.toNat : Nat) : Int) = 761 ∨ lwT ((a.toNat : Nat) : Int) = 804 ∨ lwT ((a.toNat : Nat) : Int) = 837 ∨ lwT ((a.toNat : Nat) : Int) = 860 ∨ lwT ((a.toNat : Nat) : Int) = 893 ∨ lwT ((a.toNat : Nat) : Int) = 936 ∨ lwT ((a.toNat : Nat) : Int) = 989 ∨ lwT ((a.toNat : Nat) : Int) = 1032 ∨ lwT ((a.toNat : Nat) : Int) = 1085 ∨ lwT ((a.toNat : Nat) : Int) = 1128 ∨ lwT ((a.toNat : Nat) : Int) = 1161 ∨ lwT ((a.toNat : Nat) : Int) = 1214 ∨ lwT ((a.toNat : Nat) : Int) = 1247 ∨ lwT ((a.toNat : Nat) : Int) = 1290 ∨ lwT ((a.toNat : Nat) : Int) = 1323 ∨ lwT ((a.toNat : Nat) : Int) = 1376 ∨ lwT ((a.toNat : Nat) : Int) = 1419 ∨ lwT ((a.toNat : Nat) : Int) = 1452 ∨ lwT ((a.toNat : Nat) : Int) = 1485 ∨ lwT ((a.toNat : Nat) : Int) = 1508 ∨ lwT ((a.toNat : Nat) : Int) = 1521 ∨ lwT ((a.toNat : Nat) : Int) = 1534 ∨ lwT ((a.toNat : Nat) : Int) = 1557 := lwT_in ⟨a.toNat, by omega⟩
    rw [show ((a.toNat : Nat) : Int) = a by omega] at w
    generalize lwT a = t at w ⊢
    rcases w with rfl | rfl | rfl | rfl | rfl | rfl | rfl | rfl | rfl | rfl | rfl | rfl | rfl | rfl | rfl | rfl | rfl | rfl | rfl | rfl | rfl | rfl | rfl | rfl | rfl | rfl | rfl | rfl | rfl | rfl | rfl | rfl | rfl | rfl | rfl | rfl | rfl | rfl
    · exact lc_0 hX hcs hm' hi hS hR hC hT gA gB gC gD gR gV gE gS gP gF nx
    · exact lc_1 hX hcs hm' hi hS hR hC hT gA gB gC gD gR gV gE gS gP gF nx
    · exact lc_2 hX hcs hm' hi hS hR hC hT gA gB gC gD gR gV gE gS gP gF nx
    · exact lc_3 hX hcs hm' hi hS hR hC hT gA gB gC gD gR gV gE gS gP gF nx
    · exact lc_4 hX hcs hm' hi hS hR hC hT gA gB gC gD gR gV gE gS gP gF nx
    · exact lc_5 hX hcs hm' hi hS hR hC hT gA gB gC gD gR gV gE gS gP gF nx
    · exact lc_6 hX hcs hm' hi hS hR hC hT gA gB gC gD gR gV gE gS gP gF nx
    · exact lc_7 hX hcs hm' hi hS hR hC hT gA gB gC gD gR gV gE gS gP gF nx
    · exact lc_8 hX hcs hm' hi hS hR hC hT gA gB gC gD gR gV gE gS gP gF nx
    · exact lc_9 hX hcs hm' hi hS hR hC hT gA gB gC gD gR gV gE gS gP gF nx
    · exact lc_10 hX hcs hm' hi hS hR hC hT gA gB gC gD gR gV gE gS gP gF nx
    · exact lc_11 hX hcs hm' hi hS hR hC hT gA gB gC gD gR gV gE gS gP gF nx
    · exact lc_12 hX hcs hm' hi hS hR hC hT gA gB gC gD gR gV gE gS gP gF nx
    · exact lc_13 hX hcs hm' hi hS hR hC hT gA gB gC gD gR gV gE gS gP gF nx
    · exact lc_14 hX hcs hm' hi hS hR hC hT gA gB gC gD gR gV gE gS gP gF nx
    · exact lc_15 hX hcs hm' hi hS hR hC hT gA gB gC gD gR gV gE gS gP gF nx
    · exact lc_16 hX hcs hm' hi hS hR hC hT gA gB gC gD gR gV gE gS gP gF nx
    · exact lc_17 hX hcs hm' hi hS hR hC hT gA gB gC gD gR gV gE gS gP gF nx
    · exact lc_18 hX hcs hm' hi hS hR hC hT gA gB gC gD gR gV gE gS gP gF nx
    · exact lc_19 hX hcs hm' hi hS hR hC hT gA gB gC gD gR gV gE gS gP gF nx
    · exact lc_20 hX hcs hm' hi hS hR hC hT gA gB gC gD gR gV gE gS gP gF nx
    · exact lc_21 hX hcs hm' hi hS hR hC hT gA gB gC gD gR gV gE gS gP gF nx
    · exact lc_22 hX hcs hm' hi hS hR hC hT gA gB gC gD gR gV gE gS gP gF nx
    · exact lc_23 hX hcs hm' hi hS hR hC hT gA gB gC gD gR gV gE gS gP gF nx
    · exact lc_24 hX hcs hm' hi hS hR hC hT gA gB gC gD gR gV gE gS gP gF nx
    · exact lc_25 hX hcs hm' hi hS hR hC hT gA gB gC gD gR gV gE gS gP gF nx
    · exact lc_26 hX hcs hm' hi hS hR hC hT gA gB gC gD gR gV gE gS gP gF nx
    · exact lc_27 hX hcs hm' hi hS hR hC hT gA gB gC gD gR gV gE gS gP gF nx
    · exact lc_28 hX hcs hm' hi hS hR hC hT gA gB gC gD gR gV gE gS gP gF nx
    · exact lc_29 hX hcs hm' hi hS hR hC hT gA gB gC gD gR gV gE gS gP gF nx
    · exact lc_30 hX hcs hm' hi hS hR hC hT gA gB gC gD gR gV gE gS gP gF nx
    · exact lc_31 hX hcs hm' hi hS hR hC hT gA gB gC gD gR gV gE gS gP gF nx
    · exact lc_32 hX hcs hm' hi hS hR hC hT gA gB gC gD gR gV gE gS gP gF nx
    · exact lc_33 hX hcs hm' hi hS hR hC hT gA gB gC gD gR gV gE gS gP gF nx
    · exact lc_34 hX hcs hm' hi hS hR hC hT gA gB gC gD gR gV gE gS gP gF nx
    · exact lc_35 hX hcs hm' hi hS hR hC hT gA gB gC gD gR gV gE gS gP gF nx
    · exact lc_36 hX hcs hm' hi hS hR hC hT gA gB gC gD gR gV gE gS gP gF nx
    · exact lc_37 hX hcs hm' hi hS hR hC hT gA gB gC gD gR gV gE gS gP gF nx
