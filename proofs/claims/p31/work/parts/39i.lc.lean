/-! the law's cases, further -/
set_option maxHeartbeats 4000000 in
theorem lc_26 {Γ : Lc} {i : Int} {h : Hp} (hX : XI Γ.1) (hcs : Γ.2.2.2.2.2.1 ≤ room_1.cells ∧ Γ.2.2.2.2.2.2 ≤ room_1.slots) (hm : Γ.2.2.1 < 2147483648) (hi : 0 ≤ i ∧ i + 6 ≤ Γ.2.2.1) (hS : SI h) (hR : KR h) (hC : KC h) (hT : TI h) (gA : TGA h) (gB : TGB h) (gC : TGC h) (gD : TGD h) (gR : TGR h) (gV : TGV h) (gE : TGE h) (gS : TGS h) (gP : TGP h) (gF : TGF h) (nx : ∀ h' : Hp, SI h' → KR h' → KC h' → TI h' → TGA h' → TGB h' → TGC h' → TGD h' → TGR h' → TGV h' → TGE h' → TGS h' → TGP h' → TGF h' → zL Γ 1580 (lsL i) [] h') : zL Γ 1214 (lsL i) [] h := by
  refine zL_aload_n (pc' := 1215) dL_1214 rfl rfl ?_
  refine zL_aload_n (pc' := 1216) dL_1215 rfl rfl ?_
  refine zL_iload_n (pc' := 1217) dL_1216 rfl rfl ?_
  refine zL_iconst (pc' := 1218) dL_1217 rfl ?_
  refine zL_iadd (pc' := 1219) dL_1218 rfl ?_
  refine zL_sldE (pc' := 1220) (by omega) hm dL_1219 rfl (fun v1219 e1219 q1219 => ?_)
  refine zL_aload_n (pc' := 1221) dL_1220 rfl rfl ?_
  refine zL_iload_n (pc' := 1222) dL_1221 rfl rfl ?_
  refine zL_iconst (pc' := 1223) dL_1222 rfl ?_
  refine zL_iadd (pc' := 1224) dL_1223 rfl ?_
  refine zL_sldE (pc' := 1225) (by omega) hm dL_1224 rfl (fun v1224 e1224 q1224 => ?_)
  have iP : IPW h := IPW_of hR hC hT gA gV gE gS gD gR gP
  refine zL_inv (pc' := 1228) hcs kX11_edges vX11_edges lk_L_125 ⟨Nat.le_of_ble_eq_true rfl, Nat.le_of_ble_eq_true rfl⟩ tb30 vq11 rfl [_, _] (s_X11_edges (b := bW) (κ := _) hC (Fr.rf (b := bW) hS iP) _ ⟨e1219.1, e1219.2⟩ _ ⟨e1224.1, e1224.2⟩ shW_.ok) dL_1225 rfl (Nat.le_of_ble_eq_true rfl) rfl ?_
  rintro r1225 h1225 ⟨f1225, p1225⟩; have g1225 : ∀ k i, key k i = true → inW ([] : List (Nat × Nat)) k i = false → h1225 k i = h k i := fun k i hk _ => f1225.1 k i hk
  replace iP : IPW h1225 := f1225.inv; replace hS := f1225.2.2; replace hR := KR_tr hR f1225; replace hC := KC_tr hC f1225; have pR1225 := iP.1.1; have pC1225 := iP.1.2
  have y1225_0_25 : h1225 0 25 = h 0 25 := g1225 0 25 rfl rfl
  have y1225_31_1 : h1225 31 1 = h 31 1 := g1225 31 1 rfl rfl
  have y1225_33_0 : h1225 33 0 = h 33 0 := g1225 33 0 rfl rfl
  have y1225_33_1 : h1225 33 1 = h 33 1 := g1225 33 1 rfl rfl
  have y1225_33_2 : h1225 33 2 = h 33 2 := g1225 33 2 rfl rfl
  have y1225_0_11 : h1225 0 11 = h 0 11 := g1225 0 11 rfl rfl
  have y1225_0_12 : h1225 0 12 = h 0 12 := g1225 0 12 rfl rfl
  have y1225_0_13 : h1225 0 13 = h 0 13 := g1225 0 13 rfl rfl
  have y1225_30_11 : h1225 30 11 = h 30 11 := g1225 30 11 rfl rfl
  have y1225_0_22 : h1225 0 22 = h 0 22 := g1225 0 22 rfl rfl
  have y1225_36_0 : h1225 36 0 = h 36 0 := g1225 36 0 rfl rfl
  have y1225_36_1 : h1225 36 1 = h 36 1 := g1225 36 1 rfl rfl
  have y1225_36_2 : h1225 36 2 = h 36 2 := g1225 36 2 rfl rfl
  have y1225_0_16 : h1225 0 16 = h 0 16 := g1225 0 16 rfl rfl
  have y1225_0_17 : h1225 0 17 = h 0 17 := g1225 0 17 rfl rfl
  have y1225_0_18 : h1225 0 18 = h 0 18 := g1225 0 18 rfl rfl
  have y1225_0_14 : h1225 0 14 = h 0 14 := g1225 0 14 rfl rfl
  have y1225_0_15 : h1225 0 15 = h 0 15 := g1225 0 15 rfl rfl
  have y1225_0_19 : h1225 0 19 = h 0 19 := g1225 0 19 rfl rfl
  have y1225_0_20 : h1225 0 20 = h 0 20 := g1225 0 20 rfl rfl
  have y1225_30_10 : h1225 30 10 = h 30 10 := g1225 30 10 rfl rfl
  have y1225_30_12 : h1225 30 12 = h 30 12 := g1225 30 12 rfl rfl
  have y1225_41_0 : h1225 41 0 = h 41 0 := g1225 41 0 rfl rfl
  have y1225_41_1 : h1225 41 1 = h 41 1 := g1225 41 1 rfl rfl
  have y1225_45_0 : h1225 45 0 = h 45 0 := g1225 45 0 rfl rfl
  have y1225_45_1 : h1225 45 1 = h 45 1 := g1225 45 1 rfl rfl
  have hT1 := hT; have gA1 := gA; have gB1 := gB; have gC1 := gC; have gD1 := gD; have gR1 := gR; have gV1 := gV; have gE1 := gE; have gS1 := gS; have gP1 := gP; have gF1 := gF
  show zL _ _ _ (.inl r1225 :: []) _
  refine zL_pop (pc' := 1229) dL_1228 rfl rfl ?_
  refine zL_aload_n (pc' := 1230) dL_1229 rfl rfl ?_
  refine zL_aload_n (pc' := 1231) dL_1230 rfl rfl ?_
  refine zL_iload_n (pc' := 1232) dL_1231 rfl rfl ?_
  refine zL_iconst (pc' := 1233) dL_1232 rfl ?_
  refine zL_iadd (pc' := 1234) dL_1233 rfl ?_
  refine zL_sldE (pc' := 1235) (by omega) hm dL_1234 rfl (fun v1234 e1234 q1234 => ?_)
  refine zL_aload_n (pc' := 1236) dL_1235 rfl rfl ?_
  refine zL_iload_n (pc' := 1237) dL_1236 rfl rfl ?_
  refine zL_iconst (pc' := 1238) dL_1237 rfl ?_
  refine zL_iadd (pc' := 1239) dL_1238 rfl ?_
  refine zL_sldE (pc' := 1240) (by omega) hm dL_1239 rfl (fun v1239 e1239 q1239 => ?_)
  refine zL_inv (pc' := 1243) hcs kX12_edges vX12_edges lk_L_128 ⟨Nat.le_of_ble_eq_true rfl, Nat.le_of_ble_eq_true rfl⟩ tb0 vq12 rfl [_, _] (s_X12_edges (b := bW) (κ := _) hR (Fr.rf (b := bW.fo) hS iP) _ ⟨e1234.1, e1234.2⟩ _ ⟨e1239.1, e1239.2⟩ lvW.ok) dL_1240 rfl (Nat.le_of_ble_eq_true rfl) rfl ?_
  rintro r1240 h1240 ⟨f1240, p1240⟩; have g1240 : ∀ k i, key k i = true → inW ([] : List (Nat × Nat)) k i = false → h1240 k i = h1225 k i := fun k i hk _ => f1240.1 k i hk
  replace iP : IPW h1240 := f1240.inv; replace hS := f1240.2.2; replace hR := KR_tr hR f1240; replace hC := KC_tr hC f1240; have pR1240 := iP.1.1; have pC1240 := iP.1.2
  have y1240_0_25 : h1240 0 25 = h1225 0 25 := g1240 0 25 rfl rfl
  have y1240_31_1 : h1240 31 1 = h1225 31 1 := g1240 31 1 rfl rfl
  have y1240_33_0 : h1240 33 0 = h1225 33 0 := g1240 33 0 rfl rfl
  have y1240_33_1 : h1240 33 1 = h1225 33 1 := g1240 33 1 rfl rfl
  have y1240_33_2 : h1240 33 2 = h1225 33 2 := g1240 33 2 rfl rfl
  have y1240_0_11 : h1240 0 11 = h1225 0 11 := g1240 0 11 rfl rfl
  have y1240_0_12 : h1240 0 12 = h1225 0 12 := g1240 0 12 rfl rfl
  have y1240_0_13 : h1240 0 13 = h1225 0 13 := g1240 0 13 rfl rfl
  have y1240_30_11 : h1240 30 11 = h1225 30 11 := g1240 30 11 rfl rfl
  have y1240_0_22 : h1240 0 22 = h1225 0 22 := g1240 0 22 rfl rfl
  have y1240_36_0 : h1240 36 0 = h1225 36 0 := g1240 36 0 rfl rfl
  have y1240_36_1 : h1240 36 1 = h1225 36 1 := g1240 36 1 rfl rfl
  have y1240_36_2 : h1240 36 2 = h1225 36 2 := g1240 36 2 rfl rfl
  have y1240_0_16 : h1240 0 16 = h1225 0 16 := g1240 0 16 rfl rfl
  have y1240_0_17 : h1240 0 17 = h1225 0 17 := g1240 0 17 rfl rfl
  have y1240_0_18 : h1240 0 18 = h1225 0 18 := g1240 0 18 rfl rfl
  have y1240_0_14 : h1240 0 14 = h1225 0 14 := g1240 0 14 rfl rfl
  have y1240_0_15 : h1240 0 15 = h1225 0 15 := g1240 0 15 rfl rfl
  have y1240_0_19 : h1240 0 19 = h1225 0 19 := g1240 0 19 rfl rfl
  have y1240_0_20 : h1240 0 20 = h1225 0 20 := g1240 0 20 rfl rfl
  have y1240_30_10 : h1240 30 10 = h1225 30 10 := g1240 30 10 rfl rfl
  have y1240_30_12 : h1240 30 12 = h1225 30 12 := g1240 30 12 rfl rfl
  have y1240_41_0 : h1240 41 0 = h1225 41 0 := g1240 41 0 rfl rfl
  have y1240_41_1 : h1240 41 1 = h1225 41 1 := g1240 41 1 rfl rfl
  have y1240_45_0 : h1240 45 0 = h1225 45 0 := g1240 45 0 rfl rfl
  have y1240_45_1 : h1240 45 1 = h1225 45 1 := g1240 45 1 rfl rfl
  replace hT : TI h1240 := TI_of hT1 (y1240_0_25.trans y1225_0_25) (y1240_31_1.trans y1225_31_1) (y1240_33_0.trans y1225_33_0) (y1240_33_1.trans y1225_33_1) (y1240_33_2.trans y1225_33_2) (y1240_0_11.trans y1225_0_11) (y1240_0_12.trans y1225_0_12) (y1240_0_13.trans y1225_0_13) (y1240_30_11.trans y1225_30_11) (y1240_0_22.trans y1225_0_22) (y1240_36_0.trans y1225_36_0) (y1240_36_1.trans y1225_36_1) (y1240_36_2.trans y1225_36_2) (y1240_0_16.trans y1225_0_16) (y1240_0_17.trans y1225_0_17) (y1240_0_18.trans y1225_0_18)
  replace gA : TGA h1240 := TGA_of gA1 (fun j => (g1240 1 j rfl rfl).trans (g1225 1 j rfl rfl)) (fun j => (g1240 34 j rfl rfl).trans (g1225 34 j rfl rfl)) (fun j => (g1240 10 j rfl rfl).trans (g1225 10 j rfl rfl)) (fun j => (g1240 35 j rfl rfl).trans (g1225 35 j rfl rfl)) (fun j => (g1240 6 j rfl rfl).trans (g1225 6 j rfl rfl)) (fun j => (g1240 37 j rfl rfl).trans (g1225 37 j rfl rfl)) (fun j => (g1240 11 j rfl rfl).trans (g1225 11 j rfl rfl)) (fun j => (g1240 38 j rfl rfl).trans (g1225 38 j rfl rfl)) ((y1240_0_11).trans (y1225_0_11)) ((y1240_0_12).trans (y1225_0_12)) ((y1240_0_16).trans (y1225_0_16)) ((y1240_0_17).trans (y1225_0_17)) ((y1240_0_22).trans (y1225_0_22))
  replace gB : TGB h1240 := TGB_of gB1 (fun j => (g1240 12 j rfl rfl).trans (g1225 12 j rfl rfl)) (fun j => (g1240 32 j rfl rfl).trans (g1225 32 j rfl rfl)) ((y1240_0_25).trans (y1225_0_25))
  replace gC : TGC h1240 := TGC_of gC1  ((y1240_0_15).trans (y1225_0_15)) ((y1240_30_12).trans (y1225_30_12)) ((y1240_0_11).trans (y1225_0_11)) ((y1240_0_12).trans (y1225_0_12)) ((y1240_0_20).trans (y1225_0_20)) ((y1240_30_10).trans (y1225_30_10)) ((y1240_0_16).trans (y1225_0_16)) ((y1240_0_17).trans (y1225_0_17)) ((y1240_0_22).trans (y1225_0_22))
  replace gD : TGD h1240 := TGD_of gD1  ((y1240_41_0).trans (y1225_41_0)) ((y1240_0_14).trans (y1225_0_14)) ((y1240_45_0).trans (y1225_45_0)) ((y1240_0_19).trans (y1225_0_19)) ((y1240_0_22).trans (y1225_0_22))
  replace gR : TGR h1240 := TGR_of gR1 (fun j => (g1240 3 j rfl rfl).trans (g1225 3 j rfl rfl)) (fun j => (g1240 4 j rfl rfl).trans (g1225 4 j rfl rfl)) (fun j => (g1240 5 j rfl rfl).trans (g1225 5 j rfl rfl)) (fun j => (g1240 7 j rfl rfl).trans (g1225 7 j rfl rfl)) (fun j => (g1240 8 j rfl rfl).trans (g1225 8 j rfl rfl)) (fun j => (g1240 9 j rfl rfl).trans (g1225 9 j rfl rfl)) (fun j => (g1240 42 j rfl rfl).trans (g1225 42 j rfl rfl)) (fun j => (g1240 43 j rfl rfl).trans (g1225 43 j rfl rfl)) (fun j => (g1240 44 j rfl rfl).trans (g1225 44 j rfl rfl)) (fun j => (g1240 46 j rfl rfl).trans (g1225 46 j rfl rfl)) (fun j => (g1240 47 j rfl rfl).trans (g1225 47 j rfl rfl)) (fun j => (g1240 48 j rfl rfl).trans (g1225 48 j rfl rfl)) ((y1240_0_14).trans (y1225_0_14)) ((y1240_0_19).trans (y1225_0_19)) ((y1240_0_22).trans (y1225_0_22))
  replace gV : TGV h1240 := TGV_of gV1 (fun j => (g1240 34 j rfl rfl).trans (g1225 34 j rfl rfl)) (fun j => (g1240 37 j rfl rfl).trans (g1225 37 j rfl rfl)) ((y1240_0_22).trans (y1225_0_22))
  replace gE : TGE h1240 := TGE_of gE1 (fun j => (g1240 3 j rfl rfl).trans (g1225 3 j rfl rfl)) (fun j => (g1240 7 j rfl rfl).trans (g1225 7 j rfl rfl)) ((y1240_0_14).trans (y1225_0_14)) ((y1240_0_19).trans (y1225_0_19)) ((y1240_0_22).trans (y1225_0_22))
  replace gS : TGS h1240 := TGS_of gS1 (fun j => (g1240 3 j rfl rfl).trans (g1225 3 j rfl rfl)) (fun j => (g1240 4 j rfl rfl).trans (g1225 4 j rfl rfl)) (fun j => (g1240 5 j rfl rfl).trans (g1225 5 j rfl rfl)) (fun j => (g1240 7 j rfl rfl).trans (g1225 7 j rfl rfl)) (fun j => (g1240 8 j rfl rfl).trans (g1225 8 j rfl rfl)) (fun j => (g1240 9 j rfl rfl).trans (g1225 9 j rfl rfl)) ((y1240_0_14).trans (y1225_0_14)) ((y1240_0_19).trans (y1225_0_19)) ((y1240_0_22).trans (y1225_0_22))
  have qe1234 : v1234 = v1219 := by rw [q1234, q1219]
  have qe1239 : v1239 = v1224 := by rw [q1239, q1224]
  replace gP : TGP h1240 := by
    have hT2 := hT1
    unfold TI at hT2
    have k1 := KRw hR; have k2 := KRh hR
    clear hcs hm hi
    exact ⟨pR1240, pC1240⟩
  replace gF : TGF h1240 := TGF_of gF1 (fun j => (g1240 3 j rfl rfl).trans (g1225 3 j rfl rfl)) (fun j => (g1240 7 j rfl rfl).trans (g1225 7 j rfl rfl)) ((y1240_41_1).trans (y1225_41_1)) ((y1240_0_14).trans (y1225_0_14)) ((y1240_45_1).trans (y1225_45_1)) ((y1240_0_19).trans (y1225_0_19)) ((y1240_0_22).trans (y1225_0_22))
  show zL _ _ _ (.inl r1240 :: []) _
  refine zL_pop (pc' := 1244) dL_1243 rfl rfl ?_
  refine zL_goto (tgt := 1580) dL_1244 rfl ?_
  exact nx _ hS hR hC hT gA gB gC gD gR gV gE gS gP gF
set_option maxHeartbeats 4000000 in
theorem lc_27 {Γ : Lc} {i : Int} {h : Hp} (hX : XI Γ.1) (hcs : Γ.2.2.2.2.2.1 ≤ room_1.cells ∧ Γ.2.2.2.2.2.2 ≤ room_1.slots) (hm : Γ.2.2.1 < 2147483648) (hi : 0 ≤ i ∧ i + 6 ≤ Γ.2.2.1) (hS : SI h) (hR : KR h) (hC : KC h) (hT : TI h) (gA : TGA h) (gB : TGB h) (gC : TGC h) (gD : TGD h) (gR : TGR h) (gV : TGV h) (gE : TGE h) (gS : TGS h) (gP : TGP h) (gF : TGF h) (nx : ∀ h' : Hp, SI h' → KR h' → KC h' → TI h' → TGA h' → TGB h' → TGC h' → TGD h' → TGR h' → TGV h' → TGE h' → TGS h' → TGP h' → TGF h' → zL Γ 1580 (lsL i) [] h') : zL Γ 1247 (lsL i) [] h := by
  refine zL_aload_n (pc' := 1248) dL_1247 rfl rfl ?_
  refine zL_aload_n (pc' := 1249) dL_1248 rfl rfl ?_
  refine zL_iload_n (pc' := 1250) dL_1249 rfl rfl ?_
  refine zL_iconst (pc' := 1251) dL_1250 rfl ?_
  refine zL_iadd (pc' := 1252) dL_1251 rfl ?_
  refine zL_sldE (pc' := 1253) (by omega) hm dL_1252 rfl (fun v1252 e1252 q1252 => ?_)
  refine zL_aload_n (pc' := 1254) dL_1253 rfl rfl ?_
  refine zL_iload_n (pc' := 1255) dL_1254 rfl rfl ?_
  refine zL_iconst (pc' := 1256) dL_1255 rfl ?_
  refine zL_iadd (pc' := 1257) dL_1256 rfl ?_
  refine zL_sldE (pc' := 1258) (by omega) hm dL_1257 rfl (fun v1257 e1257 q1257 => ?_)
  refine zL_aload_n (pc' := 1259) dL_1258 rfl rfl ?_
  refine zL_iload_n (pc' := 1260) dL_1259 rfl rfl ?_
  refine zL_iconst (pc' := 1261) dL_1260 rfl ?_
  refine zL_iadd (pc' := 1262) dL_1261 rfl ?_
  refine zL_sldE (pc' := 1263) (by omega) hm dL_1262 rfl (fun v1262 e1262 q1262 => ?_)
  have iP : IPW h := IPW_of hR hC hT gA gV gE gS gD gR gP
  refine zL_inv (pc' := 1266) hcs kX11_error vX11_error lk_L_129 ⟨Nat.le_of_ble_eq_true rfl, Nat.le_of_ble_eq_true rfl⟩ tb30 vq11 rfl [_, _, _] (s_X11_error (b := bW) (κ := _) hC (Fr.rf (b := bW) hS iP) _ ⟨e1252.1, e1252.2⟩ _ ⟨e1257.1, e1257.2⟩ _ ⟨e1262.1, e1262.2⟩ shW_.ok) dL_1263 rfl (Nat.le_of_ble_eq_true rfl) rfl ?_
  rintro r1263 h1263 ⟨f1263, p1263⟩; have g1263 : ∀ k i, key k i = true → inW ([] : List (Nat × Nat)) k i = false → h1263 k i = h k i := fun k i hk _ => f1263.1 k i hk
  replace iP : IPW h1263 := f1263.inv; replace hS := f1263.2.2; replace hR := KR_tr hR f1263; replace hC := KC_tr hC f1263; have pR1263 := iP.1.1; have pC1263 := iP.1.2
  have y1263_0_25 : h1263 0 25 = h 0 25 := g1263 0 25 rfl rfl
  have y1263_31_1 : h1263 31 1 = h 31 1 := g1263 31 1 rfl rfl
  have y1263_33_0 : h1263 33 0 = h 33 0 := g1263 33 0 rfl rfl
  have y1263_33_1 : h1263 33 1 = h 33 1 := g1263 33 1 rfl rfl
  have y1263_33_2 : h1263 33 2 = h 33 2 := g1263 33 2 rfl rfl
  have y1263_0_11 : h1263 0 11 = h 0 11 := g1263 0 11 rfl rfl
  have y1263_0_12 : h1263 0 12 = h 0 12 := g1263 0 12 rfl rfl
  have y1263_0_13 : h1263 0 13 = h 0 13 := g1263 0 13 rfl rfl
  have y1263_30_11 : h1263 30 11 = h 30 11 := g1263 30 11 rfl rfl
  have y1263_0_22 : h1263 0 22 = h 0 22 := g1263 0 22 rfl rfl
  have y1263_36_0 : h1263 36 0 = h 36 0 := g1263 36 0 rfl rfl
  have y1263_36_1 : h1263 36 1 = h 36 1 := g1263 36 1 rfl rfl
  have y1263_36_2 : h1263 36 2 = h 36 2 := g1263 36 2 rfl rfl
  have y1263_0_16 : h1263 0 16 = h 0 16 := g1263 0 16 rfl rfl
  have y1263_0_17 : h1263 0 17 = h 0 17 := g1263 0 17 rfl rfl
  have y1263_0_18 : h1263 0 18 = h 0 18 := g1263 0 18 rfl rfl
  have y1263_0_14 : h1263 0 14 = h 0 14 := g1263 0 14 rfl rfl
  have y1263_0_15 : h1263 0 15 = h 0 15 := g1263 0 15 rfl rfl
  have y1263_0_19 : h1263 0 19 = h 0 19 := g1263 0 19 rfl rfl
  have y1263_0_20 : h1263 0 20 = h 0 20 := g1263 0 20 rfl rfl
  have y1263_30_10 : h1263 30 10 = h 30 10 := g1263 30 10 rfl rfl
  have y1263_30_12 : h1263 30 12 = h 30 12 := g1263 30 12 rfl rfl
  have y1263_41_0 : h1263 41 0 = h 41 0 := g1263 41 0 rfl rfl
  have y1263_41_1 : h1263 41 1 = h 41 1 := g1263 41 1 rfl rfl
  have y1263_45_0 : h1263 45 0 = h 45 0 := g1263 45 0 rfl rfl
  have y1263_45_1 : h1263 45 1 = h 45 1 := g1263 45 1 rfl rfl
  have hT1 := hT; have gA1 := gA; have gB1 := gB; have gC1 := gC; have gD1 := gD; have gR1 := gR; have gV1 := gV; have gE1 := gE; have gS1 := gS; have gP1 := gP; have gF1 := gF
  show zL _ _ _ (.inr (.inl r1263) :: []) _
  refine zL_pop2 (pc' := 1267) dL_1266 rfl ?_
  refine zL_aload_n (pc' := 1268) dL_1267 rfl rfl ?_
  refine zL_aload_n (pc' := 1269) dL_1268 rfl rfl ?_
  refine zL_iload_n (pc' := 1270) dL_1269 rfl rfl ?_
  refine zL_iconst (pc' := 1271) dL_1270 rfl ?_
  refine zL_iadd (pc' := 1272) dL_1271 rfl ?_
  refine zL_sldE (pc' := 1273) (by omega) hm dL_1272 rfl (fun v1272 e1272 q1272 => ?_)
  refine zL_aload_n (pc' := 1274) dL_1273 rfl rfl ?_
  refine zL_iload_n (pc' := 1275) dL_1274 rfl rfl ?_
  refine zL_iconst (pc' := 1276) dL_1275 rfl ?_
  refine zL_iadd (pc' := 1277) dL_1276 rfl ?_
  refine zL_sldE (pc' := 1278) (by omega) hm dL_1277 rfl (fun v1277 e1277 q1277 => ?_)
  refine zL_aload_n (pc' := 1279) dL_1278 rfl rfl ?_
  refine zL_iload_n (pc' := 1280) dL_1279 rfl rfl ?_
  refine zL_iconst (pc' := 1281) dL_1280 rfl ?_
  refine zL_iadd (pc' := 1282) dL_1281 rfl ?_
  refine zL_sldE (pc' := 1283) (by omega) hm dL_1282 rfl (fun v1282 e1282 q1282 => ?_)
  refine zL_inv (pc' := 1286) hcs kX12_error vX12_error lk_L_133 ⟨Nat.le_of_ble_eq_true rfl, Nat.le_of_ble_eq_true rfl⟩ tb0 vq12 rfl [_, _, _] (s_X12_error (b := bW) (κ := _) hR (Fr.rf (b := bW.fo) hS iP) _ ⟨e1272.1, e1272.2⟩ _ ⟨e1277.1, e1277.2⟩ _ ⟨e1282.1, e1282.2⟩ lvW.ok) dL_1283 rfl (Nat.le_of_ble_eq_true rfl) rfl ?_
  rintro r1283 h1283 ⟨f1283, p1283⟩; have g1283 : ∀ k i, key k i = true → inW ([] : List (Nat × Nat)) k i = false → h1283 k i = h1263 k i := fun k i hk _ => f1283.1 k i hk
  replace iP : IPW h1283 := f1283.inv; replace hS := f1283.2.2; replace hR := KR_tr hR f1283; replace hC := KC_tr hC f1283; have pR1283 := iP.1.1; have pC1283 := iP.1.2
  have y1283_0_25 : h1283 0 25 = h1263 0 25 := g1283 0 25 rfl rfl
  have y1283_31_1 : h1283 31 1 = h1263 31 1 := g1283 31 1 rfl rfl
  have y1283_33_0 : h1283 33 0 = h1263 33 0 := g1283 33 0 rfl rfl
  have y1283_33_1 : h1283 33 1 = h1263 33 1 := g1283 33 1 rfl rfl
  have y1283_33_2 : h1283 33 2 = h1263 33 2 := g1283 33 2 rfl rfl
  have y1283_0_11 : h1283 0 11 = h1263 0 11 := g1283 0 11 rfl rfl
  have y1283_0_12 : h1283 0 12 = h1263 0 12 := g1283 0 12 rfl rfl
  have y1283_0_13 : h1283 0 13 = h1263 0 13 := g1283 0 13 rfl rfl
  have y1283_30_11 : h1283 30 11 = h1263 30 11 := g1283 30 11 rfl rfl
  have y1283_0_22 : h1283 0 22 = h1263 0 22 := g1283 0 22 rfl rfl
  have y1283_36_0 : h1283 36 0 = h1263 36 0 := g1283 36 0 rfl rfl
  have y1283_36_1 : h1283 36 1 = h1263 36 1 := g1283 36 1 rfl rfl
  have y1283_36_2 : h1283 36 2 = h1263 36 2 := g1283 36 2 rfl rfl
  have y1283_0_16 : h1283 0 16 = h1263 0 16 := g1283 0 16 rfl rfl
  have y1283_0_17 : h1283 0 17 = h1263 0 17 := g1283 0 17 rfl rfl
  have y1283_0_18 : h1283 0 18 = h1263 0 18 := g1283 0 18 rfl rfl
  have y1283_0_14 : h1283 0 14 = h1263 0 14 := g1283 0 14 rfl rfl
  have y1283_0_15 : h1283 0 15 = h1263 0 15 := g1283 0 15 rfl rfl
  have y1283_0_19 : h1283 0 19 = h1263 0 19 := g1283 0 19 rfl rfl
  have y1283_0_20 : h1283 0 20 = h1263 0 20 := g1283 0 20 rfl rfl
  have y1283_30_10 : h1283 30 10 = h1263 30 10 := g1283 30 10 rfl rfl
  have y1283_30_12 : h1283 30 12 = h1263 30 12 := g1283 30 12 rfl rfl
  have y1283_41_0 : h1283 41 0 = h1263 41 0 := g1283 41 0 rfl rfl
  have y1283_41_1 : h1283 41 1 = h1263 41 1 := g1283 41 1 rfl rfl
  have y1283_45_0 : h1283 45 0 = h1263 45 0 := g1283 45 0 rfl rfl
  have y1283_45_1 : h1283 45 1 = h1263 45 1 := g1283 45 1 rfl rfl
  replace hT : TI h1283 := TI_of hT1 (y1283_0_25.trans y1263_0_25) (y1283_31_1.trans y1263_31_1) (y1283_33_0.trans y1263_33_0) (y1283_33_1.trans y1263_33_1) (y1283_33_2.trans y1263_33_2) (y1283_0_11.trans y1263_0_11) (y1283_0_12.trans y1263_0_12) (y1283_0_13.trans y1263_0_13) (y1283_30_11.trans y1263_30_11) (y1283_0_22.trans y1263_0_22) (y1283_36_0.trans y1263_36_0) (y1283_36_1.trans y1263_36_1) (y1283_36_2.trans y1263_36_2) (y1283_0_16.trans y1263_0_16) (y1283_0_17.trans y1263_0_17) (y1283_0_18.trans y1263_0_18)
  replace gA : TGA h1283 := TGA_of gA1 (fun j => (g1283 1 j rfl rfl).trans (g1263 1 j rfl rfl)) (fun j => (g1283 34 j rfl rfl).trans (g1263 34 j rfl rfl)) (fun j => (g1283 10 j rfl rfl).trans (g1263 10 j rfl rfl)) (fun j => (g1283 35 j rfl rfl).trans (g1263 35 j rfl rfl)) (fun j => (g1283 6 j rfl rfl).trans (g1263 6 j rfl rfl)) (fun j => (g1283 37 j rfl rfl).trans (g1263 37 j rfl rfl)) (fun j => (g1283 11 j rfl rfl).trans (g1263 11 j rfl rfl)) (fun j => (g1283 38 j rfl rfl).trans (g1263 38 j rfl rfl)) ((y1283_0_11).trans (y1263_0_11)) ((y1283_0_12).trans (y1263_0_12)) ((y1283_0_16).trans (y1263_0_16)) ((y1283_0_17).trans (y1263_0_17)) ((y1283_0_22).trans (y1263_0_22))
  replace gB : TGB h1283 := TGB_of gB1 (fun j => (g1283 12 j rfl rfl).trans (g1263 12 j rfl rfl)) (fun j => (g1283 32 j rfl rfl).trans (g1263 32 j rfl rfl)) ((y1283_0_25).trans (y1263_0_25))
  replace gC : TGC h1283 := TGC_of gC1  ((y1283_0_15).trans (y1263_0_15)) ((y1283_30_12).trans (y1263_30_12)) ((y1283_0_11).trans (y1263_0_11)) ((y1283_0_12).trans (y1263_0_12)) ((y1283_0_20).trans (y1263_0_20)) ((y1283_30_10).trans (y1263_30_10)) ((y1283_0_16).trans (y1263_0_16)) ((y1283_0_17).trans (y1263_0_17)) ((y1283_0_22).trans (y1263_0_22))
  replace gD : TGD h1283 := TGD_of gD1  ((y1283_41_0).trans (y1263_41_0)) ((y1283_0_14).trans (y1263_0_14)) ((y1283_45_0).trans (y1263_45_0)) ((y1283_0_19).trans (y1263_0_19)) ((y1283_0_22).trans (y1263_0_22))
  replace gR : TGR h1283 := TGR_of gR1 (fun j => (g1283 3 j rfl rfl).trans (g1263 3 j rfl rfl)) (fun j => (g1283 4 j rfl rfl).trans (g1263 4 j rfl rfl)) (fun j => (g1283 5 j rfl rfl).trans (g1263 5 j rfl rfl)) (fun j => (g1283 7 j rfl rfl).trans (g1263 7 j rfl rfl)) (fun j => (g1283 8 j rfl rfl).trans (g1263 8 j rfl rfl)) (fun j => (g1283 9 j rfl rfl).trans (g1263 9 j rfl rfl)) (fun j => (g1283 42 j rfl rfl).trans (g1263 42 j rfl rfl)) (fun j => (g1283 43 j rfl rfl).trans (g1263 43 j rfl rfl)) (fun j => (g1283 44 j rfl rfl).trans (g1263 44 j rfl rfl)) (fun j => (g1283 46 j rfl rfl).trans (g1263 46 j rfl rfl)) (fun j => (g1283 47 j rfl rfl).trans (g1263 47 j rfl rfl)) (fun j => (g1283 48 j rfl rfl).trans (g1263 48 j rfl rfl)) ((y1283_0_14).trans (y1263_0_14)) ((y1283_0_19).trans (y1263_0_19)) ((y1283_0_22).trans (y1263_0_22))
  replace gV : TGV h1283 := TGV_of gV1 (fun j => (g1283 34 j rfl rfl).trans (g1263 34 j rfl rfl)) (fun j => (g1283 37 j rfl rfl).trans (g1263 37 j rfl rfl)) ((y1283_0_22).trans (y1263_0_22))
  replace gE : TGE h1283 := TGE_of gE1 (fun j => (g1283 3 j rfl rfl).trans (g1263 3 j rfl rfl)) (fun j => (g1283 7 j rfl rfl).trans (g1263 7 j rfl rfl)) ((y1283_0_14).trans (y1263_0_14)) ((y1283_0_19).trans (y1263_0_19)) ((y1283_0_22).trans (y1263_0_22))
  replace gS : TGS h1283 := TGS_of gS1 (fun j => (g1283 3 j rfl rfl).trans (g1263 3 j rfl rfl)) (fun j => (g1283 4 j rfl rfl).trans (g1263 4 j rfl rfl)) (fun j => (g1283 5 j rfl rfl).trans (g1263 5 j rfl rfl)) (fun j => (g1283 7 j rfl rfl).trans (g1263 7 j rfl rfl)) (fun j => (g1283 8 j rfl rfl).trans (g1263 8 j rfl rfl)) (fun j => (g1283 9 j rfl rfl).trans (g1263 9 j rfl rfl)) ((y1283_0_14).trans (y1263_0_14)) ((y1283_0_19).trans (y1263_0_19)) ((y1283_0_22).trans (y1263_0_22))
  have qe1272 : v1272 = v1252 := by rw [q1272, q1252]
  have qe1277 : v1277 = v1257 := by rw [q1277, q1257]
  have qe1282 : v1282 = v1262 := by rw [q1282, q1262]
  replace gP : TGP h1283 := by
    have hT2 := hT1
    unfold TI at hT2
    have k1 := KRw hR; have k2 := KRh hR
    clear hcs hm hi
    exact ⟨pR1283, pC1283⟩
  replace gF : TGF h1283 := TGF_of gF1 (fun j => (g1283 3 j rfl rfl).trans (g1263 3 j rfl rfl)) (fun j => (g1283 7 j rfl rfl).trans (g1263 7 j rfl rfl)) ((y1283_41_1).trans (y1263_41_1)) ((y1283_0_14).trans (y1263_0_14)) ((y1283_45_1).trans (y1263_45_1)) ((y1283_0_19).trans (y1263_0_19)) ((y1283_0_22).trans (y1263_0_22))
  show zL _ _ _ (.inr (.inl r1283) :: []) _
  refine zL_pop2 (pc' := 1287) dL_1286 rfl ?_
  refine zL_goto (tgt := 1580) dL_1287 rfl ?_
  exact nx _ hS hR hC hT gA gB gC gD gR gV gE gS gP gF
set_option maxHeartbeats 4000000 in
theorem lc_28 {Γ : Lc} {i : Int} {h : Hp} (hX : XI Γ.1) (hcs : Γ.2.2.2.2.2.1 ≤ room_1.cells ∧ Γ.2.2.2.2.2.2 ≤ room_1.slots) (hm : Γ.2.2.1 < 2147483648) (hi : 0 ≤ i ∧ i + 6 ≤ Γ.2.2.1) (hS : SI h) (hR : KR h) (hC : KC h) (hT : TI h) (gA : TGA h) (gB : TGB h) (gC : TGC h) (gD : TGD h) (gR : TGR h) (gV : TGV h) (gE : TGE h) (gS : TGS h) (gP : TGP h) (gF : TGF h) (nx : ∀ h' : Hp, SI h' → KR h' → KC h' → TI h' → TGA h' → TGB h' → TGC h' → TGD h' → TGR h' → TGV h' → TGE h' → TGS h' → TGP h' → TGF h' → zL Γ 1580 (lsL i) [] h') : zL Γ 1290 (lsL i) [] h := by
  refine zL_aload_n (pc' := 1291) dL_1290 rfl rfl ?_
  refine zL_aload_n (pc' := 1292) dL_1291 rfl rfl ?_
  refine zL_iload_n (pc' := 1293) dL_1292 rfl rfl ?_
  refine zL_iconst (pc' := 1294) dL_1293 rfl ?_
  refine zL_iadd (pc' := 1295) dL_1294 rfl ?_
  refine zL_sldE (pc' := 1296) (by omega) hm dL_1295 rfl (fun v1295 e1295 q1295 => ?_)
  refine zL_aload_n (pc' := 1297) dL_1296 rfl rfl ?_
  refine zL_iload_n (pc' := 1298) dL_1297 rfl rfl ?_
  refine zL_iconst (pc' := 1299) dL_1298 rfl ?_
  refine zL_iadd (pc' := 1300) dL_1299 rfl ?_
  refine zL_sldE (pc' := 1301) (by omega) hm dL_1300 rfl (fun v1300 e1300 q1300 => ?_)
  have iP : IPW h := IPW_of hR hC hT gA gV gE gS gD gR gP
  refine zL_inv (pc' := 1304) hcs kX11_falseOnes vX11_falseOnes lk_L_134 ⟨Nat.le_of_ble_eq_true rfl, Nat.le_of_ble_eq_true rfl⟩ tb30 vq11 rfl [_, _] (s_X11_falseOnes (b := bW) (κ := _) hC (Fr.rf (b := bW) hS iP) _ ⟨e1295.1, e1295.2⟩ _ ⟨e1300.1, e1300.2⟩ shW_.ok) dL_1301 rfl (Nat.le_of_ble_eq_true rfl) rfl ?_
  rintro r1301 h1301 ⟨f1301, p1301⟩; have g1301 : ∀ k i, key k i = true → inW ([] : List (Nat × Nat)) k i = false → h1301 k i = h k i := fun k i hk _ => f1301.1 k i hk
  replace iP : IPW h1301 := f1301.inv; replace hS := f1301.2.2; replace hR := KR_tr hR f1301; replace hC := KC_tr hC f1301; have pR1301 := iP.1.1; have pC1301 := iP.1.2
  have y1301_0_25 : h1301 0 25 = h 0 25 := g1301 0 25 rfl rfl
  have y1301_31_1 : h1301 31 1 = h 31 1 := g1301 31 1 rfl rfl
  have y1301_33_0 : h1301 33 0 = h 33 0 := g1301 33 0 rfl rfl
  have y1301_33_1 : h1301 33 1 = h 33 1 := g1301 33 1 rfl rfl
  have y1301_33_2 : h1301 33 2 = h 33 2 := g1301 33 2 rfl rfl
  have y1301_0_11 : h1301 0 11 = h 0 11 := g1301 0 11 rfl rfl
  have y1301_0_12 : h1301 0 12 = h 0 12 := g1301 0 12 rfl rfl
  have y1301_0_13 : h1301 0 13 = h 0 13 := g1301 0 13 rfl rfl
  have y1301_30_11 : h1301 30 11 = h 30 11 := g1301 30 11 rfl rfl
  have y1301_0_22 : h1301 0 22 = h 0 22 := g1301 0 22 rfl rfl
  have y1301_36_0 : h1301 36 0 = h 36 0 := g1301 36 0 rfl rfl
  have y1301_36_1 : h1301 36 1 = h 36 1 := g1301 36 1 rfl rfl
  have y1301_36_2 : h1301 36 2 = h 36 2 := g1301 36 2 rfl rfl
  have y1301_0_16 : h1301 0 16 = h 0 16 := g1301 0 16 rfl rfl
  have y1301_0_17 : h1301 0 17 = h 0 17 := g1301 0 17 rfl rfl
  have y1301_0_18 : h1301 0 18 = h 0 18 := g1301 0 18 rfl rfl
  have y1301_0_14 : h1301 0 14 = h 0 14 := g1301 0 14 rfl rfl
  have y1301_0_15 : h1301 0 15 = h 0 15 := g1301 0 15 rfl rfl
  have y1301_0_19 : h1301 0 19 = h 0 19 := g1301 0 19 rfl rfl
  have y1301_0_20 : h1301 0 20 = h 0 20 := g1301 0 20 rfl rfl
  have y1301_30_10 : h1301 30 10 = h 30 10 := g1301 30 10 rfl rfl
  have y1301_30_12 : h1301 30 12 = h 30 12 := g1301 30 12 rfl rfl
  have y1301_41_0 : h1301 41 0 = h 41 0 := g1301 41 0 rfl rfl
  have y1301_41_1 : h1301 41 1 = h 41 1 := g1301 41 1 rfl rfl
  have y1301_45_0 : h1301 45 0 = h 45 0 := g1301 45 0 rfl rfl
  have y1301_45_1 : h1301 45 1 = h 45 1 := g1301 45 1 rfl rfl
  have hT1 := hT; have gA1 := gA; have gB1 := gB; have gC1 := gC; have gD1 := gD; have gR1 := gR; have gV1 := gV; have gE1 := gE; have gS1 := gS; have gP1 := gP; have gF1 := gF
  show zL _ _ _ (.inl r1301 :: []) _
  refine zL_pop (pc' := 1305) dL_1304 rfl rfl ?_
  refine zL_aload_n (pc' := 1306) dL_1305 rfl rfl ?_
  refine zL_aload_n (pc' := 1307) dL_1306 rfl rfl ?_
  refine zL_iload_n (pc' := 1308) dL_1307 rfl rfl ?_
  refine zL_iconst (pc' := 1309) dL_1308 rfl ?_
  refine zL_iadd (pc' := 1310) dL_1309 rfl ?_
  refine zL_sldE (pc' := 1311) (by omega) hm dL_1310 rfl (fun v1310 e1310 q1310 => ?_)
  refine zL_aload_n (pc' := 1312) dL_1311 rfl rfl ?_
  refine zL_iload_n (pc' := 1313) dL_1312 rfl rfl ?_
  refine zL_iconst (pc' := 1314) dL_1313 rfl ?_
  refine zL_iadd (pc' := 1315) dL_1314 rfl ?_
  refine zL_sldE (pc' := 1316) (by omega) hm dL_1315 rfl (fun v1315 e1315 q1315 => ?_)
  refine zL_inv (pc' := 1319) hcs kX12_falseOnes vX12_falseOnes lk_L_137 ⟨Nat.le_of_ble_eq_true rfl, Nat.le_of_ble_eq_true rfl⟩ tb0 vq12 rfl [_, _] (s_X12_falseOnes (b := bW) (κ := _) hR (Fr.rf (b := bW.fo) hS iP) _ ⟨e1310.1, e1310.2⟩ _ ⟨e1315.1, e1315.2⟩ lvW.ok) dL_1316 rfl (Nat.le_of_ble_eq_true rfl) rfl ?_
  rintro r1316 h1316 ⟨f1316, p1316⟩; have g1316 : ∀ k i, key k i = true → inW ([] : List (Nat × Nat)) k i = false → h1316 k i = h1301 k i := fun k i hk _ => f1316.1 k i hk
  replace iP : IPW h1316 := f1316.inv; replace hS := f1316.2.2; replace hR := KR_tr hR f1316; replace hC := KC_tr hC f1316; have pR1316 := iP.1.1; have pC1316 := iP.1.2
  have y1316_0_25 : h1316 0 25 = h1301 0 25 := g1316 0 25 rfl rfl
  have y1316_31_1 : h1316 31 1 = h1301 31 1 := g1316 31 1 rfl rfl
  have y1316_33_0 : h1316 33 0 = h1301 33 0 := g1316 33 0 rfl rfl
  have y1316_33_1 : h1316 33 1 = h1301 33 1 := g1316 33 1 rfl rfl
  have y1316_33_2 : h1316 33 2 = h1301 33 2 := g1316 33 2 rfl rfl
  have y1316_0_11 : h1316 0 11 = h1301 0 11 := g1316 0 11 rfl rfl
  have y1316_0_12 : h1316 0 12 = h1301 0 12 := g1316 0 12 rfl rfl
  have y1316_0_13 : h1316 0 13 = h1301 0 13 := g1316 0 13 rfl rfl
  have y1316_30_11 : h1316 30 11 = h1301 30 11 := g1316 30 11 rfl rfl
  have y1316_0_22 : h1316 0 22 = h1301 0 22 := g1316 0 22 rfl rfl
  have y1316_36_0 : h1316 36 0 = h1301 36 0 := g1316 36 0 rfl rfl
  have y1316_36_1 : h1316 36 1 = h1301 36 1 := g1316 36 1 rfl rfl
  have y1316_36_2 : h1316 36 2 = h1301 36 2 := g1316 36 2 rfl rfl
  have y1316_0_16 : h1316 0 16 = h1301 0 16 := g1316 0 16 rfl rfl
  have y1316_0_17 : h1316 0 17 = h1301 0 17 := g1316 0 17 rfl rfl
  have y1316_0_18 : h1316 0 18 = h1301 0 18 := g1316 0 18 rfl rfl
  have y1316_0_14 : h1316 0 14 = h1301 0 14 := g1316 0 14 rfl rfl
  have y1316_0_15 : h1316 0 15 = h1301 0 15 := g1316 0 15 rfl rfl
  have y1316_0_19 : h1316 0 19 = h1301 0 19 := g1316 0 19 rfl rfl
  have y1316_0_20 : h1316 0 20 = h1301 0 20 := g1316 0 20 rfl rfl
  have y1316_30_10 : h1316 30 10 = h1301 30 10 := g1316 30 10 rfl rfl
  have y1316_30_12 : h1316 30 12 = h1301 30 12 := g1316 30 12 rfl rfl
  have y1316_41_0 : h1316 41 0 = h1301 41 0 := g1316 41 0 rfl rfl
  have y1316_41_1 : h1316 41 1 = h1301 41 1 := g1316 41 1 rfl rfl
  have y1316_45_0 : h1316 45 0 = h1301 45 0 := g1316 45 0 rfl rfl
  have y1316_45_1 : h1316 45 1 = h1301 45 1 := g1316 45 1 rfl rfl
  replace hT : TI h1316 := TI_of hT1 (y1316_0_25.trans y1301_0_25) (y1316_31_1.trans y1301_31_1) (y1316_33_0.trans y1301_33_0) (y1316_33_1.trans y1301_33_1) (y1316_33_2.trans y1301_33_2) (y1316_0_11.trans y1301_0_11) (y1316_0_12.trans y1301_0_12) (y1316_0_13.trans y1301_0_13) (y1316_30_11.trans y1301_30_11) (y1316_0_22.trans y1301_0_22) (y1316_36_0.trans y1301_36_0) (y1316_36_1.trans y1301_36_1) (y1316_36_2.trans y1301_36_2) (y1316_0_16.trans y1301_0_16) (y1316_0_17.trans y1301_0_17) (y1316_0_18.trans y1301_0_18)
  replace gA : TGA h1316 := TGA_of gA1 (fun j => (g1316 1 j rfl rfl).trans (g1301 1 j rfl rfl)) (fun j => (g1316 34 j rfl rfl).trans (g1301 34 j rfl rfl)) (fun j => (g1316 10 j rfl rfl).trans (g1301 10 j rfl rfl)) (fun j => (g1316 35 j rfl rfl).trans (g1301 35 j rfl rfl)) (fun j => (g1316 6 j rfl rfl).trans (g1301 6 j rfl rfl)) (fun j => (g1316 37 j rfl rfl).trans (g1301 37 j rfl rfl)) (fun j => (g1316 11 j rfl rfl).trans (g1301 11 j rfl rfl)) (fun j => (g1316 38 j rfl rfl).trans (g1301 38 j rfl rfl)) ((y1316_0_11).trans (y1301_0_11)) ((y1316_0_12).trans (y1301_0_12)) ((y1316_0_16).trans (y1301_0_16)) ((y1316_0_17).trans (y1301_0_17)) ((y1316_0_22).trans (y1301_0_22))
  replace gB : TGB h1316 := TGB_of gB1 (fun j => (g1316 12 j rfl rfl).trans (g1301 12 j rfl rfl)) (fun j => (g1316 32 j rfl rfl).trans (g1301 32 j rfl rfl)) ((y1316_0_25).trans (y1301_0_25))
  replace gC : TGC h1316 := TGC_of gC1  ((y1316_0_15).trans (y1301_0_15)) ((y1316_30_12).trans (y1301_30_12)) ((y1316_0_11).trans (y1301_0_11)) ((y1316_0_12).trans (y1301_0_12)) ((y1316_0_20).trans (y1301_0_20)) ((y1316_30_10).trans (y1301_30_10)) ((y1316_0_16).trans (y1301_0_16)) ((y1316_0_17).trans (y1301_0_17)) ((y1316_0_22).trans (y1301_0_22))
  replace gD : TGD h1316 := TGD_of gD1  ((y1316_41_0).trans (y1301_41_0)) ((y1316_0_14).trans (y1301_0_14)) ((y1316_45_0).trans (y1301_45_0)) ((y1316_0_19).trans (y1301_0_19)) ((y1316_0_22).trans (y1301_0_22))
  replace gR : TGR h1316 := TGR_of gR1 (fun j => (g1316 3 j rfl rfl).trans (g1301 3 j rfl rfl)) (fun j => (g1316 4 j rfl rfl).trans (g1301 4 j rfl rfl)) (fun j => (g1316 5 j rfl rfl).trans (g1301 5 j rfl rfl)) (fun j => (g1316 7 j rfl rfl).trans (g1301 7 j rfl rfl)) (fun j => (g1316 8 j rfl rfl).trans (g1301 8 j rfl rfl)) (fun j => (g1316 9 j rfl rfl).trans (g1301 9 j rfl rfl)) (fun j => (g1316 42 j rfl rfl).trans (g1301 42 j rfl rfl)) (fun j => (g1316 43 j rfl rfl).trans (g1301 43 j rfl rfl)) (fun j => (g1316 44 j rfl rfl).trans (g1301 44 j rfl rfl)) (fun j => (g1316 46 j rfl rfl).trans (g1301 46 j rfl rfl)) (fun j => (g1316 47 j rfl rfl).trans (g1301 47 j rfl rfl)) (fun j => (g1316 48 j rfl rfl).trans (g1301 48 j rfl rfl)) ((y1316_0_14).trans (y1301_0_14)) ((y1316_0_19).trans (y1301_0_19)) ((y1316_0_22).trans (y1301_0_22))
  replace gV : TGV h1316 := TGV_of gV1 (fun j => (g1316 34 j rfl rfl).trans (g1301 34 j rfl rfl)) (fun j => (g1316 37 j rfl rfl).trans (g1301 37 j rfl rfl)) ((y1316_0_22).trans (y1301_0_22))
  replace gE : TGE h1316 := TGE_of gE1 (fun j => (g1316 3 j rfl rfl).trans (g1301 3 j rfl rfl)) (fun j => (g1316 7 j rfl rfl).trans (g1301 7 j rfl rfl)) ((y1316_0_14).trans (y1301_0_14)) ((y1316_0_19).trans (y1301_0_19)) ((y1316_0_22).trans (y1301_0_22))
  replace gS : TGS h1316 := TGS_of gS1 (fun j => (g1316 3 j rfl rfl).trans (g1301 3 j rfl rfl)) (fun j => (g1316 4 j rfl rfl).trans (g1301 4 j rfl rfl)) (fun j => (g1316 5 j rfl rfl).trans (g1301 5 j rfl rfl)) (fun j => (g1316 7 j rfl rfl).trans (g1301 7 j rfl rfl)) (fun j => (g1316 8 j rfl rfl).trans (g1301 8 j rfl rfl)) (fun j => (g1316 9 j rfl rfl).trans (g1301 9 j rfl rfl)) ((y1316_0_14).trans (y1301_0_14)) ((y1316_0_19).trans (y1301_0_19)) ((y1316_0_22).trans (y1301_0_22))
  have qe1310 : v1310 = v1295 := by rw [q1310, q1295]
  have qe1315 : v1315 = v1300 := by rw [q1315, q1300]
  replace gP : TGP h1316 := by
    have hT2 := hT1
    unfold TI at hT2
    have k1 := KRw hR; have k2 := KRh hR
    clear hcs hm hi
    exact ⟨pR1316, pC1316⟩
  replace gF : TGF h1316 := TGF_of gF1 (fun j => (g1316 3 j rfl rfl).trans (g1301 3 j rfl rfl)) (fun j => (g1316 7 j rfl rfl).trans (g1301 7 j rfl rfl)) ((y1316_41_1).trans (y1301_41_1)) ((y1316_0_14).trans (y1301_0_14)) ((y1316_45_1).trans (y1301_45_1)) ((y1316_0_19).trans (y1301_0_19)) ((y1316_0_22).trans (y1301_0_22))
  show zL _ _ _ (.inl r1316 :: []) _
  refine zL_pop (pc' := 1320) dL_1319 rfl rfl ?_
  refine zL_goto (tgt := 1580) dL_1320 rfl ?_
  exact nx _ hS hR hC hT gA gB gC gD gR gV gE gS gP gF
set_option maxHeartbeats 4000000 in
theorem lc_29 {Γ : Lc} {i : Int} {h : Hp} (hX : XI Γ.1) (hcs : Γ.2.2.2.2.2.1 ≤ room_1.cells ∧ Γ.2.2.2.2.2.2 ≤ room_1.slots) (hm : Γ.2.2.1 < 2147483648) (hi : 0 ≤ i ∧ i + 6 ≤ Γ.2.2.1) (hS : SI h) (hR : KR h) (hC : KC h) (hT : TI h) (gA : TGA h) (gB : TGB h) (gC : TGC h) (gD : TGD h) (gR : TGR h) (gV : TGV h) (gE : TGE h) (gS : TGS h) (gP : TGP h) (gF : TGF h) (nx : ∀ h' : Hp, SI h' → KR h' → KC h' → TI h' → TGA h' → TGB h' → TGC h' → TGD h' → TGR h' → TGV h' → TGE h' → TGS h' → TGP h' → TGF h' → zL Γ 1580 (lsL i) [] h') : zL Γ 1323 (lsL i) [] h := by
  have hR0 := hR; have hC0 := hC
  refine zL_aload_n (pc' := 1324) dL_1323 rfl rfl ?_
  refine zL_aload_n (pc' := 1325) dL_1324 rfl rfl ?_
  refine zL_iload_n (pc' := 1326) dL_1325 rfl rfl ?_
  refine zL_iconst (pc' := 1327) dL_1326 rfl ?_
  refine zL_iadd (pc' := 1328) dL_1327 rfl ?_
  refine zL_sldE (pc' := 1329) (by omega) hm dL_1328 rfl (fun v1328 e1328 q1328 => ?_)
  refine zL_aload_n (pc' := 1330) dL_1329 rfl rfl ?_
  refine zL_iload_n (pc' := 1331) dL_1330 rfl rfl ?_
  refine zL_iconst (pc' := 1332) dL_1331 rfl ?_
  refine zL_iadd (pc' := 1333) dL_1332 rfl ?_
  refine zL_sldE (pc' := 1334) (by omega) hm dL_1333 rfl (fun v1333 e1333 q1333 => ?_)
  refine zL_aload_n (pc' := 1335) dL_1334 rfl rfl ?_
  refine zL_iload_n (pc' := 1336) dL_1335 rfl rfl ?_
  refine zL_iconst (pc' := 1337) dL_1336 rfl ?_
  refine zL_iadd (pc' := 1338) dL_1337 rfl ?_
  refine zL_sldE (pc' := 1339) (by omega) hm dL_1338 rfl (fun v1338 e1338 q1338 => ?_)
  refine zL_aload_n (pc' := 1340) dL_1339 rfl rfl ?_
  refine zL_iload_n (pc' := 1341) dL_1340 rfl rfl ?_
  refine zL_iconst (pc' := 1342) dL_1341 rfl ?_
  refine zL_iadd (pc' := 1343) dL_1342 rfl ?_
  refine zL_sldE (pc' := 1344) (by omega) hm dL_1343 rfl (fun v1343 e1343 q1343 => ?_)
  have iP : IPW h := IPW_of hR hC hT gA gV gE gS gD gR gP
  refine zL_inv (pc' := 1347) hcs kX11_places vX11_places lk_L_138 ⟨Nat.le_of_ble_eq_true rfl, Nat.le_of_ble_eq_true rfl⟩ tb30 vq11 rfl [_, _, _, _] (s_X11_placesZ (b := bW) (κ := _) hC (Fr.rf (b := bW) hS iP) _ ⟨e1328.1, e1328.2⟩ _ ⟨e1333.1, e1333.2⟩ _ ⟨e1338.1, e1338.2⟩ _ ⟨e1343.1, e1343.2⟩ shW_ iP.2.1.2 iP.2.2.1.2 (hfB_of gD gR gF)) dL_1344 rfl (Nat.le_of_ble_eq_true rfl) rfl ?_
  rintro r1344 h1344 ⟨f1344, p1344⟩; have g1344 : ∀ k i, key k i = true → inW ([] : List (Nat × Nat)) k i = false → h1344 k i = h k i := fun k i hk _ => f1344.1 k i hk
  replace iP : IPW h1344 := f1344.inv; replace hS := f1344.2.2; replace hR := KR_tr hR f1344; replace hC := KC_tr hC f1344; have pR1344 := iP.1.1; have pC1344 := iP.1.2
  have y1344_0_25 : h1344 0 25 = h 0 25 := g1344 0 25 rfl rfl
  have y1344_31_1 : h1344 31 1 = h 31 1 := g1344 31 1 rfl rfl
  have y1344_33_0 : h1344 33 0 = h 33 0 := g1344 33 0 rfl rfl
  have y1344_33_1 : h1344 33 1 = h 33 1 := g1344 33 1 rfl rfl
  have y1344_33_2 : h1344 33 2 = h 33 2 := g1344 33 2 rfl rfl
  have y1344_0_11 : h1344 0 11 = h 0 11 := g1344 0 11 rfl rfl
  have y1344_0_12 : h1344 0 12 = h 0 12 := g1344 0 12 rfl rfl
  have y1344_0_13 : h1344 0 13 = h 0 13 := g1344 0 13 rfl rfl
  have y1344_30_11 : h1344 30 11 = h 30 11 := g1344 30 11 rfl rfl
  have y1344_0_22 : h1344 0 22 = h 0 22 := g1344 0 22 rfl rfl
  have y1344_36_0 : h1344 36 0 = h 36 0 := g1344 36 0 rfl rfl
  have y1344_36_1 : h1344 36 1 = h 36 1 := g1344 36 1 rfl rfl
  have y1344_36_2 : h1344 36 2 = h 36 2 := g1344 36 2 rfl rfl
  have y1344_0_16 : h1344 0 16 = h 0 16 := g1344 0 16 rfl rfl
  have y1344_0_17 : h1344 0 17 = h 0 17 := g1344 0 17 rfl rfl
  have y1344_0_18 : h1344 0 18 = h 0 18 := g1344 0 18 rfl rfl
  have y1344_0_14 : h1344 0 14 = h 0 14 := g1344 0 14 rfl rfl
  have y1344_0_15 : h1344 0 15 = h 0 15 := g1344 0 15 rfl rfl
  have y1344_0_19 : h1344 0 19 = h 0 19 := g1344 0 19 rfl rfl
  have y1344_0_20 : h1344 0 20 = h 0 20 := g1344 0 20 rfl rfl
  have y1344_30_10 : h1344 30 10 = h 30 10 := g1344 30 10 rfl rfl
  have y1344_30_12 : h1344 30 12 = h 30 12 := g1344 30 12 rfl rfl
  have y1344_41_0 : h1344 41 0 = h 41 0 := g1344 41 0 rfl rfl
  have y1344_41_1 : h1344 41 1 = h 41 1 := g1344 41 1 rfl rfl
  have y1344_45_0 : h1344 45 0 = h 45 0 := g1344 45 0 rfl rfl
  have y1344_45_1 : h1344 45 1 = h 45 1 := g1344 45 1 rfl rfl
  have hT1 := hT; have gA1 := gA; have gB1 := gB; have gC1 := gC; have gD1 := gD; have gR1 := gR; have gV1 := gV; have gE1 := gE; have gS1 := gS; have gP1 := gP; have gF1 := gF
  show zL _ _ _ (.inl r1344 :: []) _
  refine zL_aload_n (pc' := 1348) dL_1347 rfl rfl ?_
  refine zL_aload_n (pc' := 1349) dL_1348 rfl rfl ?_
  refine zL_iload_n (pc' := 1350) dL_1349 rfl rfl ?_
  refine zL_iconst (pc' := 1351) dL_1350 rfl ?_
  refine zL_iadd (pc' := 1352) dL_1351 rfl ?_
  refine zL_sldE (pc' := 1353) (by omega) hm dL_1352 rfl (fun v1352 e1352 q1352 => ?_)
  refine zL_aload_n (pc' := 1354) dL_1353 rfl rfl ?_
  refine zL_iload_n (pc' := 1355) dL_1354 rfl rfl ?_
  refine zL_iconst (pc' := 1356) dL_1355 rfl ?_
  refine zL_iadd (pc' := 1357) dL_1356 rfl ?_
  refine zL_sldE (pc' := 1358) (by omega) hm dL_1357 rfl (fun v1357 e1357 q1357 => ?_)
  refine zL_aload_n (pc' := 1359) dL_1358 rfl rfl ?_
  refine zL_iload_n (pc' := 1360) dL_1359 rfl rfl ?_
  refine zL_iconst (pc' := 1361) dL_1360 rfl ?_
  refine zL_iadd (pc' := 1362) dL_1361 rfl ?_
  refine zL_sldE (pc' := 1363) (by omega) hm dL_1362 rfl (fun v1362 e1362 q1362 => ?_)
  refine zL_aload_n (pc' := 1364) dL_1363 rfl rfl ?_
  refine zL_iload_n (pc' := 1365) dL_1364 rfl rfl ?_
  refine zL_iconst (pc' := 1366) dL_1365 rfl ?_
  refine zL_iadd (pc' := 1367) dL_1366 rfl ?_
  refine zL_sldE (pc' := 1368) (by omega) hm dL_1367 rfl (fun v1367 e1367 q1367 => ?_)
  refine zL_inv (pc' := 1371) hcs kX12_places vX12_places lk_L_141 ⟨Nat.le_of_ble_eq_true rfl, Nat.le_of_ble_eq_true rfl⟩ tb0 vq12 rfl [_, _, _, _] (s_X12_placesZ (b := bW) (κ := _) hR (Fr.rf (b := bW.fo) hS iP) _ ⟨e1352.1, e1352.2⟩ _ ⟨e1357.1, e1357.2⟩ _ ⟨e1362.1, e1362.2⟩ _ ⟨e1367.1, e1367.2⟩ lvW iP.2.1.1 iP.2.2.1.1) dL_1368 rfl (Nat.le_of_ble_eq_true rfl) rfl ?_
  rintro r1368 h1368 ⟨f1368, p1368⟩; have g1368 : ∀ k i, key k i = true → inW ([] : List (Nat × Nat)) k i = false → h1368 k i = h1344 k i := fun k i hk _ => f1368.1 k i hk
  replace iP : IPW h1368 := f1368.inv; replace hS := f1368.2.2; replace hR := KR_tr hR f1368; replace hC := KC_tr hC f1368; have pR1368 := iP.1.1; have pC1368 := iP.1.2
  have y1368_0_25 : h1368 0 25 = h1344 0 25 := g1368 0 25 rfl rfl
  have y1368_31_1 : h1368 31 1 = h1344 31 1 := g1368 31 1 rfl rfl
  have y1368_33_0 : h1368 33 0 = h1344 33 0 := g1368 33 0 rfl rfl
  have y1368_33_1 : h1368 33 1 = h1344 33 1 := g1368 33 1 rfl rfl
  have y1368_33_2 : h1368 33 2 = h1344 33 2 := g1368 33 2 rfl rfl
  have y1368_0_11 : h1368 0 11 = h1344 0 11 := g1368 0 11 rfl rfl
  have y1368_0_12 : h1368 0 12 = h1344 0 12 := g1368 0 12 rfl rfl
  have y1368_0_13 : h1368 0 13 = h1344 0 13 := g1368 0 13 rfl rfl
  have y1368_30_11 : h1368 30 11 = h1344 30 11 := g1368 30 11 rfl rfl
  have y1368_0_22 : h1368 0 22 = h1344 0 22 := g1368 0 22 rfl rfl
  have y1368_36_0 : h1368 36 0 = h1344 36 0 := g1368 36 0 rfl rfl
  have y1368_36_1 : h1368 36 1 = h1344 36 1 := g1368 36 1 rfl rfl
  have y1368_36_2 : h1368 36 2 = h1344 36 2 := g1368 36 2 rfl rfl
  have y1368_0_16 : h1368 0 16 = h1344 0 16 := g1368 0 16 rfl rfl
  have y1368_0_17 : h1368 0 17 = h1344 0 17 := g1368 0 17 rfl rfl
  have y1368_0_18 : h1368 0 18 = h1344 0 18 := g1368 0 18 rfl rfl
  have y1368_0_14 : h1368 0 14 = h1344 0 14 := g1368 0 14 rfl rfl
  have y1368_0_15 : h1368 0 15 = h1344 0 15 := g1368 0 15 rfl rfl
  have y1368_0_19 : h1368 0 19 = h1344 0 19 := g1368 0 19 rfl rfl
  have y1368_0_20 : h1368 0 20 = h1344 0 20 := g1368 0 20 rfl rfl
  have y1368_30_10 : h1368 30 10 = h1344 30 10 := g1368 30 10 rfl rfl
  have y1368_30_12 : h1368 30 12 = h1344 30 12 := g1368 30 12 rfl rfl
  have y1368_41_0 : h1368 41 0 = h1344 41 0 := g1368 41 0 rfl rfl
  have y1368_41_1 : h1368 41 1 = h1344 41 1 := g1368 41 1 rfl rfl
  have y1368_45_0 : h1368 45 0 = h1344 45 0 := g1368 45 0 rfl rfl
  have y1368_45_1 : h1368 45 1 = h1344 45 1 := g1368 45 1 rfl rfl
  replace hT : TI h1368 := TI_of hT1 (y1368_0_25.trans y1344_0_25) (y1368_31_1.trans y1344_31_1) (y1368_33_0.trans y1344_33_0) (y1368_33_1.trans y1344_33_1) (y1368_33_2.trans y1344_33_2) (y1368_0_11.trans y1344_0_11) (y1368_0_12.trans y1344_0_12) (y1368_0_13.trans y1344_0_13) (y1368_30_11.trans y1344_30_11) (y1368_0_22.trans y1344_0_22) (y1368_36_0.trans y1344_36_0) (y1368_36_1.trans y1344_36_1) (y1368_36_2.trans y1344_36_2) (y1368_0_16.trans y1344_0_16) (y1368_0_17.trans y1344_0_17) (y1368_0_18.trans y1344_0_18)
  replace gA : TGA h1368 := TGA_of gA1 (fun j => (g1368 1 j rfl rfl).trans (g1344 1 j rfl rfl)) (fun j => (g1368 34 j rfl rfl).trans (g1344 34 j rfl rfl)) (fun j => (g1368 10 j rfl rfl).trans (g1344 10 j rfl rfl)) (fun j => (g1368 35 j rfl rfl).trans (g1344 35 j rfl rfl)) (fun j => (g1368 6 j rfl rfl).trans (g1344 6 j rfl rfl)) (fun j => (g1368 37 j rfl rfl).trans (g1344 37 j rfl rfl)) (fun j => (g1368 11 j rfl rfl).trans (g1344 11 j rfl rfl)) (fun j => (g1368 38 j rfl rfl).trans (g1344 38 j rfl rfl)) ((y1368_0_11).trans (y1344_0_11)) ((y1368_0_12).trans (y1344_0_12)) ((y1368_0_16).trans (y1344_0_16)) ((y1368_0_17).trans (y1344_0_17)) ((y1368_0_22).trans (y1344_0_22))
  replace gB : TGB h1368 := TGB_of gB1 (fun j => (g1368 12 j rfl rfl).trans (g1344 12 j rfl rfl)) (fun j => (g1368 32 j rfl rfl).trans (g1344 32 j rfl rfl)) ((y1368_0_25).trans (y1344_0_25))
  replace gC : TGC h1368 := TGC_of gC1  ((y1368_0_15).trans (y1344_0_15)) ((y1368_30_12).trans (y1344_30_12)) ((y1368_0_11).trans (y1344_0_11)) ((y1368_0_12).trans (y1344_0_12)) ((y1368_0_20).trans (y1344_0_20)) ((y1368_30_10).trans (y1344_30_10)) ((y1368_0_16).trans (y1344_0_16)) ((y1368_0_17).trans (y1344_0_17)) ((y1368_0_22).trans (y1344_0_22))
  replace gD : TGD h1368 := TGD_of gD1  ((y1368_41_0).trans (y1344_41_0)) ((y1368_0_14).trans (y1344_0_14)) ((y1368_45_0).trans (y1344_45_0)) ((y1368_0_19).trans (y1344_0_19)) ((y1368_0_22).trans (y1344_0_22))
  replace gR : TGR h1368 := TGR_of gR1 (fun j => (g1368 3 j rfl rfl).trans (g1344 3 j rfl rfl)) (fun j => (g1368 4 j rfl rfl).trans (g1344 4 j rfl rfl)) (fun j => (g1368 5 j rfl rfl).trans (g1344 5 j rfl rfl)) (fun j => (g1368 7 j rfl rfl).trans (g1344 7 j rfl rfl)) (fun j => (g1368 8 j rfl rfl).trans (g1344 8 j rfl rfl)) (fun j => (g1368 9 j rfl rfl).trans (g1344 9 j rfl rfl)) (fun j => (g1368 42 j rfl rfl).trans (g1344 42 j rfl rfl)) (fun j => (g1368 43 j rfl rfl).trans (g1344 43 j rfl rfl)) (fun j => (g1368 44 j rfl rfl).trans (g1344 44 j rfl rfl)) (fun j => (g1368 46 j rfl rfl).trans (g1344 46 j rfl rfl)) (fun j => (g1368 47 j rfl rfl).trans (g1344 47 j rfl rfl)) (fun j => (g1368 48 j rfl rfl).trans (g1344 48 j rfl rfl)) ((y1368_0_14).trans (y1344_0_14)) ((y1368_0_19).trans (y1344_0_19)) ((y1368_0_22).trans (y1344_0_22))
  replace gV : TGV h1368 := TGV_of gV1 (fun j => (g1368 34 j rfl rfl).trans (g1344 34 j rfl rfl)) (fun j => (g1368 37 j rfl rfl).trans (g1344 37 j rfl rfl)) ((y1368_0_22).trans (y1344_0_22))
  replace gE : TGE h1368 := TGE_of gE1 (fun j => (g1368 3 j rfl rfl).trans (g1344 3 j rfl rfl)) (fun j => (g1368 7 j rfl rfl).trans (g1344 7 j rfl rfl)) ((y1368_0_14).trans (y1344_0_14)) ((y1368_0_19).trans (y1344_0_19)) ((y1368_0_22).trans (y1344_0_22))
  replace gS : TGS h1368 := TGS_of gS1 (fun j => (g1368 3 j rfl rfl).trans (g1344 3 j rfl rfl)) (fun j => (g1368 4 j rfl rfl).trans (g1344 4 j rfl rfl)) (fun j => (g1368 5 j rfl rfl).trans (g1344 5 j rfl rfl)) (fun j => (g1368 7 j rfl rfl).trans (g1344 7 j rfl rfl)) (fun j => (g1368 8 j rfl rfl).trans (g1344 8 j rfl rfl)) (fun j => (g1368 9 j rfl rfl).trans (g1344 9 j rfl rfl)) ((y1368_0_14).trans (y1344_0_14)) ((y1368_0_19).trans (y1344_0_19)) ((y1368_0_22).trans (y1344_0_22))
  have qe1352 : v1352 = v1328 := by rw [q1352, q1328]
  have qe1357 : v1357 = v1333 := by rw [q1357, q1333]
  have qe1362 : v1362 = v1338 := by rw [q1362, q1338]
  have qe1367 : v1367 = v1343 := by rw [q1367, q1343]
  replace gP : TGP h1368 := by
    have hT2 := hT1
    unfold TI at hT2
    have k1 := KRw hR; have k2 := KRh hR
    clear hcs hm hi
    exact ⟨pR1368, pC1368⟩
  replace gF : TGF h1368 := TGF_of gF1 (fun j => (g1368 3 j rfl rfl).trans (g1344 3 j rfl rfl)) (fun j => (g1368 7 j rfl rfl).trans (g1344 7 j rfl rfl)) ((y1368_41_1).trans (y1344_41_1)) ((y1368_0_14).trans (y1344_0_14)) ((y1368_45_1).trans (y1344_45_1)) ((y1368_0_19).trans (y1344_0_19)) ((y1368_0_22).trans (y1344_0_22))
  show zL _ _ _ (.inl r1368 :: .inl r1344 :: []) _
  have qq1352 : v1352 = v1328 := by rw [q1352, q1328]
  have qq1357 : v1357 = v1333 := by rw [q1357, q1333]
  have qq1362 : v1362 = v1338 := by rw [q1362, q1338]
  have qq1367 : v1367 = v1343 := by rw [q1367, q1343]
  have hT0 := hT1
  have rr : r1344 = r1368 := by
    rw [p1344, p1368, qq1352, qq1357, qq1362, qq1367]
    exact tieW (fun W H P n lt bh pc nm => plQ W H P n lt bh pc nm v1328 v1333 v1338 v1343) g1344 hR0 hT0 gA1 gD1 gR1
  refine zL_cm_eq (tgt := 1580) dL_1371 rfl rr ?_
  exact nx _ hS hR hC hT gA gB gC gD gR gV gE gS gP gF
set_option maxHeartbeats 4000000 in
theorem lc_30 {Γ : Lc} {i : Int} {h : Hp} (hX : XI Γ.1) (hcs : Γ.2.2.2.2.2.1 ≤ room_1.cells ∧ Γ.2.2.2.2.2.2 ≤ room_1.slots) (hm : Γ.2.2.1 < 2147483648) (hi : 0 ≤ i ∧ i + 6 ≤ Γ.2.2.1) (hS : SI h) (hR : KR h) (hC : KC h) (hT : TI h) (gA : TGA h) (gB : TGB h) (gC : TGC h) (gD : TGD h) (gR : TGR h) (gV : TGV h) (gE : TGE h) (gS : TGS h) (gP : TGP h) (gF : TGF h) (nx : ∀ h' : Hp, SI h' → KR h' → KC h' → TI h' → TGA h' → TGB h' → TGC h' → TGD h' → TGR h' → TGV h' → TGE h' → TGS h' → TGP h' → TGF h' → zL Γ 1580 (lsL i) [] h') : zL Γ 1376 (lsL i) [] h := by
  refine zL_aload_n (pc' := 1377) dL_1376 rfl rfl ?_
  refine zL_aload_n (pc' := 1378) dL_1377 rfl rfl ?_
  refine zL_iload_n (pc' := 1379) dL_1378 rfl rfl ?_
  refine zL_iconst (pc' := 1380) dL_1379 rfl ?_
  refine zL_iadd (pc' := 1381) dL_1380 rfl ?_
  refine zL_sldE (pc' := 1382) (by omega) hm dL_1381 rfl (fun v1381 e1381 q1381 => ?_)
  refine zL_aload_n (pc' := 1383) dL_1382 rfl rfl ?_
  refine zL_iload_n (pc' := 1384) dL_1383 rfl rfl ?_
  refine zL_iconst (pc' := 1385) dL_1384 rfl ?_
  refine zL_iadd (pc' := 1386) dL_1385 rfl ?_
  refine zL_sldE (pc' := 1387) (by omega) hm dL_1386 rfl (fun v1386 e1386 q1386 => ?_)
  refine zL_aload_n (pc' := 1388) dL_1387 rfl rfl ?_
  refine zL_iload_n (pc' := 1389) dL_1388 rfl rfl ?_
  refine zL_iconst (pc' := 1390) dL_1389 rfl ?_
  refine zL_iadd (pc' := 1391) dL_1390 rfl ?_
  refine zL_sldE (pc' := 1392) (by omega) hm dL_1391 rfl (fun v1391 e1391 q1391 => ?_)
  have iP : IPW h := IPW_of hR hC hT gA gV gE gS gD gR gP
  refine zL_inv (pc' := 1395) hcs kX11_unlike vX11_unlike lk_L_142 ⟨Nat.le_of_ble_eq_true rfl, Nat.le_of_ble_eq_true rfl⟩ tb30 vq11 rfl [_, _, _] (s_X11_unlike (b := bW) (κ := _) hC (Fr.rf (b := bW) hS iP) _ ⟨e1381.1, e1381.2⟩ _ ⟨e1386.1, e1386.2⟩ _ ⟨e1391.1, e1391.2⟩ shW_.ok) dL_1392 rfl (Nat.le_of_ble_eq_true rfl) rfl ?_
  rintro r1392 h1392 ⟨f1392, p1392⟩; have g1392 : ∀ k i, key k i = true → inW ([] : List (Nat × Nat)) k i = false → h1392 k i = h k i := fun k i hk _ => f1392.1 k i hk
  replace iP : IPW h1392 := f1392.inv; replace hS := f1392.2.2; replace hR := KR_tr hR f1392; replace hC := KC_tr hC f1392; have pR1392 := iP.1.1; have pC1392 := iP.1.2
  have y1392_0_25 : h1392 0 25 = h 0 25 := g1392 0 25 rfl rfl
  have y1392_31_1 : h1392 31 1 = h 31 1 := g1392 31 1 rfl rfl
  have y1392_33_0 : h1392 33 0 = h 33 0 := g1392 33 0 rfl rfl
  have y1392_33_1 : h1392 33 1 = h 33 1 := g1392 33 1 rfl rfl
  have y1392_33_2 : h1392 33 2 = h 33 2 := g1392 33 2 rfl rfl
  have y1392_0_11 : h1392 0 11 = h 0 11 := g1392 0 11 rfl rfl
  have y1392_0_12 : h1392 0 12 = h 0 12 := g1392 0 12 rfl rfl
  have y1392_0_13 : h1392 0 13 = h 0 13 := g1392 0 13 rfl rfl
  have y1392_30_11 : h1392 30 11 = h 30 11 := g1392 30 11 rfl rfl
  have y1392_0_22 : h1392 0 22 = h 0 22 := g1392 0 22 rfl rfl
  have y1392_36_0 : h1392 36 0 = h 36 0 := g1392 36 0 rfl rfl
  have y1392_36_1 : h1392 36 1 = h 36 1 := g1392 36 1 rfl rfl
  have y1392_36_2 : h1392 36 2 = h 36 2 := g1392 36 2 rfl rfl
  have y1392_0_16 : h1392 0 16 = h 0 16 := g1392 0 16 rfl rfl
  have y1392_0_17 : h1392 0 17 = h 0 17 := g1392 0 17 rfl rfl
  have y1392_0_18 : h1392 0 18 = h 0 18 := g1392 0 18 rfl rfl
  have y1392_0_14 : h1392 0 14 = h 0 14 := g1392 0 14 rfl rfl
  have y1392_0_15 : h1392 0 15 = h 0 15 := g1392 0 15 rfl rfl
  have y1392_0_19 : h1392 0 19 = h 0 19 := g1392 0 19 rfl rfl
  have y1392_0_20 : h1392 0 20 = h 0 20 := g1392 0 20 rfl rfl
  have y1392_30_10 : h1392 30 10 = h 30 10 := g1392 30 10 rfl rfl
  have y1392_30_12 : h1392 30 12 = h 30 12 := g1392 30 12 rfl rfl
  have y1392_41_0 : h1392 41 0 = h 41 0 := g1392 41 0 rfl rfl
  have y1392_41_1 : h1392 41 1 = h 41 1 := g1392 41 1 rfl rfl
  have y1392_45_0 : h1392 45 0 = h 45 0 := g1392 45 0 rfl rfl
  have y1392_45_1 : h1392 45 1 = h 45 1 := g1392 45 1 rfl rfl
  have hT1 := hT; have gA1 := gA; have gB1 := gB; have gC1 := gC; have gD1 := gD; have gR1 := gR; have gV1 := gV; have gE1 := gE; have gS1 := gS; have gP1 := gP; have gF1 := gF
  show zL _ _ _ (.inl r1392 :: []) _
  refine zL_pop (pc' := 1396) dL_1395 rfl rfl ?_
  refine zL_aload_n (pc' := 1397) dL_1396 rfl rfl ?_
  refine zL_aload_n (pc' := 1398) dL_1397 rfl rfl ?_
  refine zL_iload_n (pc' := 1399) dL_1398 rfl rfl ?_
  refine zL_iconst (pc' := 1400) dL_1399 rfl ?_
  refine zL_iadd (pc' := 1401) dL_1400 rfl ?_
  refine zL_sldE (pc' := 1402) (by omega) hm dL_1401 rfl (fun v1401 e1401 q1401 => ?_)
  refine zL_aload_n (pc' := 1403) dL_1402 rfl rfl ?_
  refine zL_iload_n (pc' := 1404) dL_1403 rfl rfl ?_
  refine zL_iconst (pc' := 1405) dL_1404 rfl ?_
  refine zL_iadd (pc' := 1406) dL_1405 rfl ?_
  refine zL_sldE (pc' := 1407) (by omega) hm dL_1406 rfl (fun v1406 e1406 q1406 => ?_)
  refine zL_aload_n (pc' := 1408) dL_1407 rfl rfl ?_
  refine zL_iload_n (pc' := 1409) dL_1408 rfl rfl ?_
  refine zL_iconst (pc' := 1410) dL_1409 rfl ?_
  refine zL_iadd (pc' := 1411) dL_1410 rfl ?_
  refine zL_sldE (pc' := 1412) (by omega) hm dL_1411 rfl (fun v1411 e1411 q1411 => ?_)
  refine zL_inv (pc' := 1415) hcs kX12_unlike vX12_unlike lk_L_145 ⟨Nat.le_of_ble_eq_true rfl, Nat.le_of_ble_eq_true rfl⟩ tb0 vq12 rfl [_, _, _] (s_X12_unlike (b := bW) (κ := _) hR (Fr.rf (b := bW.fo) hS iP) _ ⟨e1401.1, e1401.2⟩ _ ⟨e1406.1, e1406.2⟩ _ ⟨e1411.1, e1411.2⟩ lvW.ok) dL_1412 rfl (Nat.le_of_ble_eq_true rfl) rfl ?_
  rintro r1412 h1412 ⟨f1412, p1412⟩; have g1412 : ∀ k i, key k i = true → inW ([] : List (Nat × Nat)) k i = false → h1412 k i = h1392 k i := fun k i hk _ => f1412.1 k i hk
  replace iP : IPW h1412 := f1412.inv; replace hS := f1412.2.2; replace hR := KR_tr hR f1412; replace hC := KC_tr hC f1412; have pR1412 := iP.1.1; have pC1412 := iP.1.2
  have y1412_0_25 : h1412 0 25 = h1392 0 25 := g1412 0 25 rfl rfl
  have y1412_31_1 : h1412 31 1 = h1392 31 1 := g1412 31 1 rfl rfl
  have y1412_33_0 : h1412 33 0 = h1392 33 0 := g1412 33 0 rfl rfl
  have y1412_33_1 : h1412 33 1 = h1392 33 1 := g1412 33 1 rfl rfl
  have y1412_33_2 : h1412 33 2 = h1392 33 2 := g1412 33 2 rfl rfl
  have y1412_0_11 : h1412 0 11 = h1392 0 11 := g1412 0 11 rfl rfl
  have y1412_0_12 : h1412 0 12 = h1392 0 12 := g1412 0 12 rfl rfl
  have y1412_0_13 : h1412 0 13 = h1392 0 13 := g1412 0 13 rfl rfl
  have y1412_30_11 : h1412 30 11 = h1392 30 11 := g1412 30 11 rfl rfl
  have y1412_0_22 : h1412 0 22 = h1392 0 22 := g1412 0 22 rfl rfl
  have y1412_36_0 : h1412 36 0 = h1392 36 0 := g1412 36 0 rfl rfl
  have y1412_36_1 : h1412 36 1 = h1392 36 1 := g1412 36 1 rfl rfl
  have y1412_36_2 : h1412 36 2 = h1392 36 2 := g1412 36 2 rfl rfl
  have y1412_0_16 : h1412 0 16 = h1392 0 16 := g1412 0 16 rfl rfl
  have y1412_0_17 : h1412 0 17 = h1392 0 17 := g1412 0 17 rfl rfl
  have y1412_0_18 : h1412 0 18 = h1392 0 18 := g1412 0 18 rfl rfl
  have y1412_0_14 : h1412 0 14 = h1392 0 14 := g1412 0 14 rfl rfl
  have y1412_0_15 : h1412 0 15 = h1392 0 15 := g1412 0 15 rfl rfl
  have y1412_0_19 : h1412 0 19 = h1392 0 19 := g1412 0 19 rfl rfl
  have y1412_0_20 : h1412 0 20 = h1392 0 20 := g1412 0 20 rfl rfl
  have y1412_30_10 : h1412 30 10 = h1392 30 10 := g1412 30 10 rfl rfl
  have y1412_30_12 : h1412 30 12 = h1392 30 12 := g1412 30 12 rfl rfl
  have y1412_41_0 : h1412 41 0 = h1392 41 0 := g1412 41 0 rfl rfl
  have y1412_41_1 : h1412 41 1 = h1392 41 1 := g1412 41 1 rfl rfl
  have y1412_45_0 : h1412 45 0 = h1392 45 0 := g1412 45 0 rfl rfl
  have y1412_45_1 : h1412 45 1 = h1392 45 1 := g1412 45 1 rfl rfl
  replace hT : TI h1412 := TI_of hT1 (y1412_0_25.trans y1392_0_25) (y1412_31_1.trans y1392_31_1) (y1412_33_0.trans y1392_33_0) (y1412_33_1.trans y1392_33_1) (y1412_33_2.trans y1392_33_2) (y1412_0_11.trans y1392_0_11) (y1412_0_12.trans y1392_0_12) (y1412_0_13.trans y1392_0_13) (y1412_30_11.trans y1392_30_11) (y1412_0_22.trans y1392_0_22) (y1412_36_0.trans y1392_36_0) (y1412_36_1.trans y1392_36_1) (y1412_36_2.trans y1392_36_2) (y1412_0_16.trans y1392_0_16) (y1412_0_17.trans y1392_0_17) (y1412_0_18.trans y1392_0_18)
  replace gA : TGA h1412 := TGA_of gA1 (fun j => (g1412 1 j rfl rfl).trans (g1392 1 j rfl rfl)) (fun j => (g1412 34 j rfl rfl).trans (g1392 34 j rfl rfl)) (fun j => (g1412 10 j rfl rfl).trans (g1392 10 j rfl rfl)) (fun j => (g1412 35 j rfl rfl).trans (g1392 35 j rfl rfl)) (fun j => (g1412 6 j rfl rfl).trans (g1392 6 j rfl rfl)) (fun j => (g1412 37 j rfl rfl).trans (g1392 37 j rfl rfl)) (fun j => (g1412 11 j rfl rfl).trans (g1392 11 j rfl rfl)) (fun j => (g1412 38 j rfl rfl).trans (g1392 38 j rfl rfl)) ((y1412_0_11).trans (y1392_0_11)) ((y1412_0_12).trans (y1392_0_12)) ((y1412_0_16).trans (y1392_0_16)) ((y1412_0_17).trans (y1392_0_17)) ((y1412_0_22).trans (y1392_0_22))
  replace gB : TGB h1412 := TGB_of gB1 (fun j => (g1412 12 j rfl rfl).trans (g1392 12 j rfl rfl)) (fun j => (g1412 32 j rfl rfl).trans (g1392 32 j rfl rfl)) ((y1412_0_25).trans (y1392_0_25))
  replace gC : TGC h1412 := TGC_of gC1  ((y1412_0_15).trans (y1392_0_15)) ((y1412_30_12).trans (y1392_30_12)) ((y1412_0_11).trans (y1392_0_11)) ((y1412_0_12).trans (y1392_0_12)) ((y1412_0_20).trans (y1392_0_20)) ((y1412_30_10).trans (y1392_30_10)) ((y1412_0_16).trans (y1392_0_16)) ((y1412_0_17).trans (y1392_0_17)) ((y1412_0_22).trans (y1392_0_22))
  replace gD : TGD h1412 := TGD_of gD1  ((y1412_41_0).trans (y1392_41_0)) ((y1412_0_14).trans (y1392_0_14)) ((y1412_45_0).trans (y1392_45_0)) ((y1412_0_19).trans (y1392_0_19)) ((y1412_0_22).trans (y1392_0_22))
  replace gR : TGR h1412 := TGR_of gR1 (fun j => (g1412 3 j rfl rfl).trans (g1392 3 j rfl rfl)) (fun j => (g1412 4 j rfl rfl).trans (g1392 4 j rfl rfl)) (fun j => (g1412 5 j rfl rfl).trans (g1392 5 j rfl rfl)) (fun j => (g1412 7 j rfl rfl).trans (g1392 7 j rfl rfl)) (fun j => (g1412 8 j rfl rfl).trans (g1392 8 j rfl rfl)) (fun j => (g1412 9 j rfl rfl).trans (g1392 9 j rfl rfl)) (fun j => (g1412 42 j rfl rfl).trans (g1392 42 j rfl rfl)) (fun j => (g1412 43 j rfl rfl).trans (g1392 43 j rfl rfl)) (fun j => (g1412 44 j rfl rfl).trans (g1392 44 j rfl rfl)) (fun j => (g1412 46 j rfl rfl).trans (g1392 46 j rfl rfl)) (fun j => (g1412 47 j rfl rfl).trans (g1392 47 j rfl rfl)) (fun j => (g1412 48 j rfl rfl).trans (g1392 48 j rfl rfl)) ((y1412_0_14).trans (y1392_0_14)) ((y1412_0_19).trans (y1392_0_19)) ((y1412_0_22).trans (y1392_0_22))
  replace gV : TGV h1412 := TGV_of gV1 (fun j => (g1412 34 j rfl rfl).trans (g1392 34 j rfl rfl)) (fun j => (g1412 37 j rfl rfl).trans (g1392 37 j rfl rfl)) ((y1412_0_22).trans (y1392_0_22))
  replace gE : TGE h1412 := TGE_of gE1 (fun j => (g1412 3 j rfl rfl).trans (g1392 3 j rfl rfl)) (fun j => (g1412 7 j rfl rfl).trans (g1392 7 j rfl rfl)) ((y1412_0_14).trans (y1392_0_14)) ((y1412_0_19).trans (y1392_0_19)) ((y1412_0_22).trans (y1392_0_22))
  replace gS : TGS h1412 := TGS_of gS1 (fun j => (g1412 3 j rfl rfl).trans (g1392 3 j rfl rfl)) (fun j => (g1412 4 j rfl rfl).trans (g1392 4 j rfl rfl)) (fun j => (g1412 5 j rfl rfl).trans (g1392 5 j rfl rfl)) (fun j => (g1412 7 j rfl rfl).trans (g1392 7 j rfl rfl)) (fun j => (g1412 8 j rfl rfl).trans (g1392 8 j rfl rfl)) (fun j => (g1412 9 j rfl rfl).trans (g1392 9 j rfl rfl)) ((y1412_0_14).trans (y1392_0_14)) ((y1412_0_19).trans (y1392_0_19)) ((y1412_0_22).trans (y1392_0_22))
  have qe1401 : v1401 = v1381 := by rw [q1401, q1381]
  have qe1406 : v1406 = v1386 := by rw [q1406, q1386]
  have qe1411 : v1411 = v1391 := by rw [q1411, q1391]
  replace gP : TGP h1412 := by
    have hT2 := hT1
    unfold TI at hT2
    have k1 := KRw hR; have k2 := KRh hR
    clear hcs hm hi
    exact ⟨pR1412, pC1412⟩
  replace gF : TGF h1412 := TGF_of gF1 (fun j => (g1412 3 j rfl rfl).trans (g1392 3 j rfl rfl)) (fun j => (g1412 7 j rfl rfl).trans (g1392 7 j rfl rfl)) ((y1412_41_1).trans (y1392_41_1)) ((y1412_0_14).trans (y1392_0_14)) ((y1412_45_1).trans (y1392_45_1)) ((y1412_0_19).trans (y1392_0_19)) ((y1412_0_22).trans (y1392_0_22))
  show zL _ _ _ (.inl r1412 :: []) _
  refine zL_pop (pc' := 1416) dL_1415 rfl rfl ?_
  refine zL_goto (tgt := 1580) dL_1416 rfl ?_
  exact nx _ hS hR hC hT gA gB gC gD gR gV gE gS gP gF
set_option maxHeartbeats 4000000 in
theorem lc_31 {Γ : Lc} {i : Int} {h : Hp} (hX : XI Γ.1) (hcs : Γ.2.2.2.2.2.1 ≤ room_1.cells ∧ Γ.2.2.2.2.2.2 ≤ room_1.slots) (hm : Γ.2.2.1 < 2147483648) (hi : 0 ≤ i ∧ i + 6 ≤ Γ.2.2.1) (hS : SI h) (hR : KR h) (hC : KC h) (hT : TI h) (gA : TGA h) (gB : TGB h) (gC : TGC h) (gD : TGD h) (gR : TGR h) (gV : TGV h) (gE : TGE h) (gS : TGS h) (gP : TGP h) (gF : TGF h) (nx : ∀ h' : Hp, SI h' → KR h' → KC h' → TI h' → TGA h' → TGB h' → TGC h' → TGD h' → TGR h' → TGV h' → TGE h' → TGS h' → TGP h' → TGF h' → zL Γ 1580 (lsL i) [] h') : zL Γ 1419 (lsL i) [] h := by
  refine zL_aload_n (pc' := 1420) dL_1419 rfl rfl ?_
  refine zL_aload_n (pc' := 1421) dL_1420 rfl rfl ?_
  refine zL_iload_n (pc' := 1422) dL_1421 rfl rfl ?_
  refine zL_iconst (pc' := 1423) dL_1422 rfl ?_
  refine zL_iadd (pc' := 1424) dL_1423 rfl ?_
  refine zL_sldE (pc' := 1425) (by omega) hm dL_1424 rfl (fun v1424 e1424 q1424 => ?_)
  refine zL_aload_n (pc' := 1426) dL_1425 rfl rfl ?_
  refine zL_iload_n (pc' := 1427) dL_1426 rfl rfl ?_
  refine zL_iconst (pc' := 1428) dL_1427 rfl ?_
  refine zL_iadd (pc' := 1429) dL_1428 rfl ?_
  refine zL_sldE (pc' := 1430) (by omega) hm dL_1429 rfl (fun v1429 e1429 q1429 => ?_)
  have iP : IPW h := IPW_of hR hC hT gA gV gE gS gD gR gP
  refine zL_inv (pc' := 1433) hcs kX11_without vX11_without lk_L_146 ⟨Nat.le_of_ble_eq_true rfl, Nat.le_of_ble_eq_true rfl⟩ tb30 vq11 rfl [_, _] (s_X11_without (b := bW) (κ := _) hC (Fr.rf (b := bW) hS iP) _ ⟨e1424.1, e1424.2⟩ _ ⟨e1429.1, e1429.2⟩ shW_.ok okTW) dL_1430 rfl (Nat.le_of_ble_eq_true rfl) rfl ?_
  rintro r1430 h1430 ⟨f1430, p1430⟩; have g1430 : ∀ k i, key k i = true → inW ([] : List (Nat × Nat)) k i = false → h1430 k i = h k i := fun k i hk _ => f1430.1 k i hk
  replace iP : IPW h1430 := f1430.inv; replace hS := f1430.2.2; replace hR := KR_tr hR f1430; replace hC := KC_tr hC f1430; have pR1430 := iP.1.1; have pC1430 := iP.1.2
  have y1430_0_25 : h1430 0 25 = h 0 25 := g1430 0 25 rfl rfl
  have y1430_31_1 : h1430 31 1 = h 31 1 := g1430 31 1 rfl rfl
  have y1430_33_0 : h1430 33 0 = h 33 0 := g1430 33 0 rfl rfl
  have y1430_33_1 : h1430 33 1 = h 33 1 := g1430 33 1 rfl rfl
  have y1430_33_2 : h1430 33 2 = h 33 2 := g1430 33 2 rfl rfl
  have y1430_0_11 : h1430 0 11 = h 0 11 := g1430 0 11 rfl rfl
  have y1430_0_12 : h1430 0 12 = h 0 12 := g1430 0 12 rfl rfl
  have y1430_0_13 : h1430 0 13 = h 0 13 := g1430 0 13 rfl rfl
  have y1430_30_11 : h1430 30 11 = h 30 11 := g1430 30 11 rfl rfl
  have y1430_0_22 : h1430 0 22 = h 0 22 := g1430 0 22 rfl rfl
  have y1430_36_0 : h1430 36 0 = h 36 0 := g1430 36 0 rfl rfl
  have y1430_36_1 : h1430 36 1 = h 36 1 := g1430 36 1 rfl rfl
  have y1430_36_2 : h1430 36 2 = h 36 2 := g1430 36 2 rfl rfl
  have y1430_0_16 : h1430 0 16 = h 0 16 := g1430 0 16 rfl rfl
  have y1430_0_17 : h1430 0 17 = h 0 17 := g1430 0 17 rfl rfl
  have y1430_0_18 : h1430 0 18 = h 0 18 := g1430 0 18 rfl rfl
  have y1430_0_14 : h1430 0 14 = h 0 14 := g1430 0 14 rfl rfl
  have y1430_0_15 : h1430 0 15 = h 0 15 := g1430 0 15 rfl rfl
  have y1430_0_19 : h1430 0 19 = h 0 19 := g1430 0 19 rfl rfl
  have y1430_0_20 : h1430 0 20 = h 0 20 := g1430 0 20 rfl rfl
  have y1430_30_10 : h1430 30 10 = h 30 10 := g1430 30 10 rfl rfl
  have y1430_30_12 : h1430 30 12 = h 30 12 := g1430 30 12 rfl rfl
  have y1430_41_0 : h1430 41 0 = h 41 0 := g1430 41 0 rfl rfl
  have y1430_41_1 : h1430 41 1 = h 41 1 := g1430 41 1 rfl rfl
  have y1430_45_0 : h1430 45 0 = h 45 0 := g1430 45 0 rfl rfl
  have y1430_45_1 : h1430 45 1 = h 45 1 := g1430 45 1 rfl rfl
  have hT1 := hT; have gA1 := gA; have gB1 := gB; have gC1 := gC; have gD1 := gD; have gR1 := gR; have gV1 := gV; have gE1 := gE; have gS1 := gS; have gP1 := gP; have gF1 := gF
  show zL _ _ _ (.inl r1430 :: []) _
  refine zL_pop (pc' := 1434) dL_1433 rfl rfl ?_
  refine zL_aload_n (pc' := 1435) dL_1434 rfl rfl ?_
  refine zL_aload_n (pc' := 1436) dL_1435 rfl rfl ?_
  refine zL_iload_n (pc' := 1437) dL_1436 rfl rfl ?_
  refine zL_iconst (pc' := 1438) dL_1437 rfl ?_
  refine zL_iadd (pc' := 1439) dL_1438 rfl ?_
  refine zL_sldE (pc' := 1440) (by omega) hm dL_1439 rfl (fun v1439 e1439 q1439 => ?_)
  refine zL_aload_n (pc' := 1441) dL_1440 rfl rfl ?_
  refine zL_iload_n (pc' := 1442) dL_1441 rfl rfl ?_
  refine zL_iconst (pc' := 1443) dL_1442 rfl ?_
  refine zL_iadd (pc' := 1444) dL_1443 rfl ?_
  refine zL_sldE (pc' := 1445) (by omega) hm dL_1444 rfl (fun v1444 e1444 q1444 => ?_)
  refine zL_inv (pc' := 1448) hcs kX12_without vX12_without lk_L_149 ⟨Nat.le_of_ble_eq_true rfl, Nat.le_of_ble_eq_true rfl⟩ tb0 vq12 rfl [_, _] (s_X12_without (b := bW) (κ := _) hR (Fr.rf (b := bW.fo) hS iP) _ ⟨e1439.1, e1439.2⟩ _ ⟨e1444.1, e1444.2⟩ lvW.ok ok17W) dL_1445 rfl (Nat.le_of_ble_eq_true rfl) rfl ?_
  rintro r1445 h1445 ⟨f1445, p1445⟩; have g1445 : ∀ k i, key k i = true → inW ([] : List (Nat × Nat)) k i = false → h1445 k i = h1430 k i := fun k i hk _ => f1445.1 k i hk
  replace iP : IPW h1445 := f1445.inv; replace hS := f1445.2.2; replace hR := KR_tr hR f1445; replace hC := KC_tr hC f1445; have pR1445 := iP.1.1; have pC1445 := iP.1.2
  have y1445_0_25 : h1445 0 25 = h1430 0 25 := g1445 0 25 rfl rfl
  have y1445_31_1 : h1445 31 1 = h1430 31 1 := g1445 31 1 rfl rfl
  have y1445_33_0 : h1445 33 0 = h1430 33 0 := g1445 33 0 rfl rfl
  have y1445_33_1 : h1445 33 1 = h1430 33 1 := g1445 33 1 rfl rfl
  have y1445_33_2 : h1445 33 2 = h1430 33 2 := g1445 33 2 rfl rfl
  have y1445_0_11 : h1445 0 11 = h1430 0 11 := g1445 0 11 rfl rfl
  have y1445_0_12 : h1445 0 12 = h1430 0 12 := g1445 0 12 rfl rfl
  have y1445_0_13 : h1445 0 13 = h1430 0 13 := g1445 0 13 rfl rfl
  have y1445_30_11 : h1445 30 11 = h1430 30 11 := g1445 30 11 rfl rfl
  have y1445_0_22 : h1445 0 22 = h1430 0 22 := g1445 0 22 rfl rfl
  have y1445_36_0 : h1445 36 0 = h1430 36 0 := g1445 36 0 rfl rfl
  have y1445_36_1 : h1445 36 1 = h1430 36 1 := g1445 36 1 rfl rfl
  have y1445_36_2 : h1445 36 2 = h1430 36 2 := g1445 36 2 rfl rfl
  have y1445_0_16 : h1445 0 16 = h1430 0 16 := g1445 0 16 rfl rfl
  have y1445_0_17 : h1445 0 17 = h1430 0 17 := g1445 0 17 rfl rfl
  have y1445_0_18 : h1445 0 18 = h1430 0 18 := g1445 0 18 rfl rfl
  have y1445_0_14 : h1445 0 14 = h1430 0 14 := g1445 0 14 rfl rfl
  have y1445_0_15 : h1445 0 15 = h1430 0 15 := g1445 0 15 rfl rfl
  have y1445_0_19 : h1445 0 19 = h1430 0 19 := g1445 0 19 rfl rfl
  have y1445_0_20 : h1445 0 20 = h1430 0 20 := g1445 0 20 rfl rfl
  have y1445_30_10 : h1445 30 10 = h1430 30 10 := g1445 30 10 rfl rfl
  have y1445_30_12 : h1445 30 12 = h1430 30 12 := g1445 30 12 rfl rfl
  have y1445_41_0 : h1445 41 0 = h1430 41 0 := g1445 41 0 rfl rfl
  have y1445_41_1 : h1445 41 1 = h1430 41 1 := g1445 41 1 rfl rfl
  have y1445_45_0 : h1445 45 0 = h1430 45 0 := g1445 45 0 rfl rfl
  have y1445_45_1 : h1445 45 1 = h1430 45 1 := g1445 45 1 rfl rfl
  replace hT : TI h1445 := TI_of hT1 (y1445_0_25.trans y1430_0_25) (y1445_31_1.trans y1430_31_1) (y1445_33_0.trans y1430_33_0) (y1445_33_1.trans y1430_33_1) (y1445_33_2.trans y1430_33_2) (y1445_0_11.trans y1430_0_11) (y1445_0_12.trans y1430_0_12) (y1445_0_13.trans y1430_0_13) (y1445_30_11.trans y1430_30_11) (y1445_0_22.trans y1430_0_22) (y1445_36_0.trans y1430_36_0) (y1445_36_1.trans y1430_36_1) (y1445_36_2.trans y1430_36_2) (y1445_0_16.trans y1430_0_16) (y1445_0_17.trans y1430_0_17) (y1445_0_18.trans y1430_0_18)
  replace gA : TGA h1445 := TGA_of gA1 (fun j => (g1445 1 j rfl rfl).trans (g1430 1 j rfl rfl)) (fun j => (g1445 34 j rfl rfl).trans (g1430 34 j rfl rfl)) (fun j => (g1445 10 j rfl rfl).trans (g1430 10 j rfl rfl)) (fun j => (g1445 35 j rfl rfl).trans (g1430 35 j rfl rfl)) (fun j => (g1445 6 j rfl rfl).trans (g1430 6 j rfl rfl)) (fun j => (g1445 37 j rfl rfl).trans (g1430 37 j rfl rfl)) (fun j => (g1445 11 j rfl rfl).trans (g1430 11 j rfl rfl)) (fun j => (g1445 38 j rfl rfl).trans (g1430 38 j rfl rfl)) ((y1445_0_11).trans (y1430_0_11)) ((y1445_0_12).trans (y1430_0_12)) ((y1445_0_16).trans (y1430_0_16)) ((y1445_0_17).trans (y1430_0_17)) ((y1445_0_22).trans (y1430_0_22))
  replace gB : TGB h1445 := TGB_of gB1 (fun j => (g1445 12 j rfl rfl).trans (g1430 12 j rfl rfl)) (fun j => (g1445 32 j rfl rfl).trans (g1430 32 j rfl rfl)) ((y1445_0_25).trans (y1430_0_25))
  replace gC : TGC h1445 := TGC_of gC1  ((y1445_0_15).trans (y1430_0_15)) ((y1445_30_12).trans (y1430_30_12)) ((y1445_0_11).trans (y1430_0_11)) ((y1445_0_12).trans (y1430_0_12)) ((y1445_0_20).trans (y1430_0_20)) ((y1445_30_10).trans (y1430_30_10)) ((y1445_0_16).trans (y1430_0_16)) ((y1445_0_17).trans (y1430_0_17)) ((y1445_0_22).trans (y1430_0_22))
  replace gD : TGD h1445 := TGD_of gD1  ((y1445_41_0).trans (y1430_41_0)) ((y1445_0_14).trans (y1430_0_14)) ((y1445_45_0).trans (y1430_45_0)) ((y1445_0_19).trans (y1430_0_19)) ((y1445_0_22).trans (y1430_0_22))
  replace gR : TGR h1445 := TGR_of gR1 (fun j => (g1445 3 j rfl rfl).trans (g1430 3 j rfl rfl)) (fun j => (g1445 4 j rfl rfl).trans (g1430 4 j rfl rfl)) (fun j => (g1445 5 j rfl rfl).trans (g1430 5 j rfl rfl)) (fun j => (g1445 7 j rfl rfl).trans (g1430 7 j rfl rfl)) (fun j => (g1445 8 j rfl rfl).trans (g1430 8 j rfl rfl)) (fun j => (g1445 9 j rfl rfl).trans (g1430 9 j rfl rfl)) (fun j => (g1445 42 j rfl rfl).trans (g1430 42 j rfl rfl)) (fun j => (g1445 43 j rfl rfl).trans (g1430 43 j rfl rfl)) (fun j => (g1445 44 j rfl rfl).trans (g1430 44 j rfl rfl)) (fun j => (g1445 46 j rfl rfl).trans (g1430 46 j rfl rfl)) (fun j => (g1445 47 j rfl rfl).trans (g1430 47 j rfl rfl)) (fun j => (g1445 48 j rfl rfl).trans (g1430 48 j rfl rfl)) ((y1445_0_14).trans (y1430_0_14)) ((y1445_0_19).trans (y1430_0_19)) ((y1445_0_22).trans (y1430_0_22))
  replace gV : TGV h1445 := TGV_of gV1 (fun j => (g1445 34 j rfl rfl).trans (g1430 34 j rfl rfl)) (fun j => (g1445 37 j rfl rfl).trans (g1430 37 j rfl rfl)) ((y1445_0_22).trans (y1430_0_22))
  replace gE : TGE h1445 := TGE_of gE1 (fun j => (g1445 3 j rfl rfl).trans (g1430 3 j rfl rfl)) (fun j => (g1445 7 j rfl rfl).trans (g1430 7 j rfl rfl)) ((y1445_0_14).trans (y1430_0_14)) ((y1445_0_19).trans (y1430_0_19)) ((y1445_0_22).trans (y1430_0_22))
  replace gS : TGS h1445 := TGS_of gS1 (fun j => (g1445 3 j rfl rfl).trans (g1430 3 j rfl rfl)) (fun j => (g1445 4 j rfl rfl).trans (g1430 4 j rfl rfl)) (fun j => (g1445 5 j rfl rfl).trans (g1430 5 j rfl rfl)) (fun j => (g1445 7 j rfl rfl).trans (g1430 7 j rfl rfl)) (fun j => (g1445 8 j rfl rfl).trans (g1430 8 j rfl rfl)) (fun j => (g1445 9 j rfl rfl).trans (g1430 9 j rfl rfl)) ((y1445_0_14).trans (y1430_0_14)) ((y1445_0_19).trans (y1430_0_19)) ((y1445_0_22).trans (y1430_0_22))
  have qe1439 : v1439 = v1424 := by rw [q1439, q1424]
  have qe1444 : v1444 = v1429 := by rw [q1444, q1429]
  replace gP : TGP h1445 := by
    have hT2 := hT1
    unfold TI at hT2
    have k1 := KRw hR; have k2 := KRh hR
    clear hcs hm hi
    exact ⟨pR1445, pC1445⟩
  replace gF : TGF h1445 := TGF_of gF1 (fun j => (g1445 3 j rfl rfl).trans (g1430 3 j rfl rfl)) (fun j => (g1445 7 j rfl rfl).trans (g1430 7 j rfl rfl)) ((y1445_41_1).trans (y1430_41_1)) ((y1445_0_14).trans (y1430_0_14)) ((y1445_45_1).trans (y1430_45_1)) ((y1445_0_19).trans (y1430_0_19)) ((y1445_0_22).trans (y1430_0_22))
  show zL _ _ _ (.inl r1445 :: []) _
  refine zL_pop (pc' := 1449) dL_1448 rfl rfl ?_
  refine zL_goto (tgt := 1580) dL_1449 rfl ?_
  exact nx _ hS hR hC hT gA gB gC gD gR gV gE gS gP gF
set_option maxHeartbeats 4000000 in
theorem lc_32 {Γ : Lc} {i : Int} {h : Hp} (hX : XI Γ.1) (hcs : Γ.2.2.2.2.2.1 ≤ room_1.cells ∧ Γ.2.2.2.2.2.2 ≤ room_1.slots) (hm : Γ.2.2.1 < 2147483648) (hi : 0 ≤ i ∧ i + 6 ≤ Γ.2.2.1) (hS : SI h) (hR : KR h) (hC : KC h) (hT : TI h) (gA : TGA h) (gB : TGB h) (gC : TGC h) (gD : TGD h) (gR : TGR h) (gV : TGV h) (gE : TGE h) (gS : TGS h) (gP : TGP h) (gF : TGF h) (nx : ∀ h' : Hp, SI h' → KR h' → KC h' → TI h' → TGA h' → TGB h' → TGC h' → TGD h' → TGR h' → TGV h' → TGE h' → TGS h' → TGP h' → TGF h' → zL Γ 1580 (lsL i) [] h') : zL Γ 1452 (lsL i) [] h := by
  refine zL_aload_n (pc' := 1453) dL_1452 rfl rfl ?_
  refine zL_aload_n (pc' := 1454) dL_1453 rfl rfl ?_
  refine zL_iload_n (pc' := 1455) dL_1454 rfl rfl ?_
  refine zL_iconst (pc' := 1456) dL_1455 rfl ?_
  refine zL_iadd (pc' := 1457) dL_1456 rfl ?_
  refine zL_sldE (pc' := 1458) (by omega) hm dL_1457 rfl (fun v1457 e1457 q1457 => ?_)
  refine zL_aload_n (pc' := 1459) dL_1458 rfl rfl ?_
  refine zL_iload_n (pc' := 1460) dL_1459 rfl rfl ?_
  refine zL_iconst (pc' := 1461) dL_1460 rfl ?_
  refine zL_iadd (pc' := 1462) dL_1461 rfl ?_
  refine zL_sldE (pc' := 1463) (by omega) hm dL_1462 rfl (fun v1462 e1462 q1462 => ?_)
  have iP : IPW h := IPW_of hR hC hT gA gV gE gS gD gR gP
  refine zL_inv (pc' := 1466) hcs kX11_best vX11_best lk_L_150 ⟨Nat.le_of_ble_eq_true rfl, Nat.le_of_ble_eq_true rfl⟩ tb30 vq11 rfl [_, _] (s_X11_best (b := bW) (κ := _) hC (Fr.rf (b := bW) hS iP) _ ⟨e1457.1, e1457.2⟩ _ ⟨e1462.1, e1462.2⟩ shW_.ok okTW hX) dL_1463 rfl (Nat.le_of_ble_eq_true rfl) rfl ?_
  rintro r1463 h1463 ⟨f1463, p1463⟩; have g1463 : ∀ k i, key k i = true → inW ([] : List (Nat × Nat)) k i = false → h1463 k i = h k i := fun k i hk _ => f1463.1 k i hk
  replace iP : IPW h1463 := f1463.inv; replace hS := f1463.2.2; replace hR := KR_tr hR f1463; replace hC := KC_tr hC f1463; have pR1463 := iP.1.1; have pC1463 := iP.1.2
  have y1463_0_25 : h1463 0 25 = h 0 25 := g1463 0 25 rfl rfl
  have y1463_31_1 : h1463 31 1 = h 31 1 := g1463 31 1 rfl rfl
  have y1463_33_0 : h1463 33 0 = h 33 0 := g1463 33 0 rfl rfl
  have y1463_33_1 : h1463 33 1 = h 33 1 := g1463 33 1 rfl rfl
  have y1463_33_2 : h1463 33 2 = h 33 2 := g1463 33 2 rfl rfl
  have y1463_0_11 : h1463 0 11 = h 0 11 := g1463 0 11 rfl rfl
  have y1463_0_12 : h1463 0 12 = h 0 12 := g1463 0 12 rfl rfl
  have y1463_0_13 : h1463 0 13 = h 0 13 := g1463 0 13 rfl rfl
  have y1463_30_11 : h1463 30 11 = h 30 11 := g1463 30 11 rfl rfl
  have y1463_0_22 : h1463 0 22 = h 0 22 := g1463 0 22 rfl rfl
  have y1463_36_0 : h1463 36 0 = h 36 0 := g1463 36 0 rfl rfl
  have y1463_36_1 : h1463 36 1 = h 36 1 := g1463 36 1 rfl rfl
  have y1463_36_2 : h1463 36 2 = h 36 2 := g1463 36 2 rfl rfl
  have y1463_0_16 : h1463 0 16 = h 0 16 := g1463 0 16 rfl rfl
  have y1463_0_17 : h1463 0 17 = h 0 17 := g1463 0 17 rfl rfl
  have y1463_0_18 : h1463 0 18 = h 0 18 := g1463 0 18 rfl rfl
  have y1463_0_14 : h1463 0 14 = h 0 14 := g1463 0 14 rfl rfl
  have y1463_0_15 : h1463 0 15 = h 0 15 := g1463 0 15 rfl rfl
  have y1463_0_19 : h1463 0 19 = h 0 19 := g1463 0 19 rfl rfl
  have y1463_0_20 : h1463 0 20 = h 0 20 := g1463 0 20 rfl rfl
  have y1463_30_10 : h1463 30 10 = h 30 10 := g1463 30 10 rfl rfl
  have y1463_30_12 : h1463 30 12 = h 30 12 := g1463 30 12 rfl rfl
  have y1463_41_0 : h1463 41 0 = h 41 0 := g1463 41 0 rfl rfl
  have y1463_41_1 : h1463 41 1 = h 41 1 := g1463 41 1 rfl rfl
  have y1463_45_0 : h1463 45 0 = h 45 0 := g1463 45 0 rfl rfl
  have y1463_45_1 : h1463 45 1 = h 45 1 := g1463 45 1 rfl rfl
  have hT1 := hT; have gA1 := gA; have gB1 := gB; have gC1 := gC; have gD1 := gD; have gR1 := gR; have gV1 := gV; have gE1 := gE; have gS1 := gS; have gP1 := gP; have gF1 := gF
  show zL _ _ _ (.inl r1463 :: []) _
  refine zL_pop (pc' := 1467) dL_1466 rfl rfl ?_
  refine zL_aload_n (pc' := 1468) dL_1467 rfl rfl ?_
  refine zL_aload_n (pc' := 1469) dL_1468 rfl rfl ?_
  refine zL_iload_n (pc' := 1470) dL_1469 rfl rfl ?_
  refine zL_iconst (pc' := 1471) dL_1470 rfl ?_
  refine zL_iadd (pc' := 1472) dL_1471 rfl ?_
  refine zL_sldE (pc' := 1473) (by omega) hm dL_1472 rfl (fun v1472 e1472 q1472 => ?_)
  refine zL_aload_n (pc' := 1474) dL_1473 rfl rfl ?_
  refine zL_iload_n (pc' := 1475) dL_1474 rfl rfl ?_
  refine zL_iconst (pc' := 1476) dL_1475 rfl ?_
  refine zL_iadd (pc' := 1477) dL_1476 rfl ?_
  refine zL_sldE (pc' := 1478) (by omega) hm dL_1477 rfl (fun v1477 e1477 q1477 => ?_)
  refine zL_inv (pc' := 1481) hcs kX12_best vX12_best lk_L_153 ⟨Nat.le_of_ble_eq_true rfl, Nat.le_of_ble_eq_true rfl⟩ tb0 vq12 rfl [_, _] (s_X12_best (b := bW) (κ := _) hR (Fr.rf (b := bW.fo) hS iP) _ ⟨e1472.1, e1472.2⟩ _ ⟨e1477.1, e1477.2⟩ lvW.ok ok17W) dL_1478 rfl (Nat.le_of_ble_eq_true rfl) rfl ?_
  rintro r1478 h1478 ⟨f1478, p1478⟩; have g1478 : ∀ k i, key k i = true → inW ([] : List (Nat × Nat)) k i = false → h1478 k i = h1463 k i := fun k i hk _ => f1478.1 k i hk
  replace iP : IPW h1478 := f1478.inv; replace hS := f1478.2.2; replace hR := KR_tr hR f1478; replace hC := KC_tr hC f1478; have pR1478 := iP.1.1; have pC1478 := iP.1.2
  have y1478_0_25 : h1478 0 25 = h1463 0 25 := g1478 0 25 rfl rfl
  have y1478_31_1 : h1478 31 1 = h1463 31 1 := g1478 31 1 rfl rfl
  have y1478_33_0 : h1478 33 0 = h1463 33 0 := g1478 33 0 rfl rfl
  have y1478_33_1 : h1478 33 1 = h1463 33 1 := g1478 33 1 rfl rfl
  have y1478_33_2 : h1478 33 2 = h1463 33 2 := g1478 33 2 rfl rfl
  have y1478_0_11 : h1478 0 11 = h1463 0 11 := g1478 0 11 rfl rfl
  have y1478_0_12 : h1478 0 12 = h1463 0 12 := g1478 0 12 rfl rfl
  have y1478_0_13 : h1478 0 13 = h1463 0 13 := g1478 0 13 rfl rfl
  have y1478_30_11 : h1478 30 11 = h1463 30 11 := g1478 30 11 rfl rfl
  have y1478_0_22 : h1478 0 22 = h1463 0 22 := g1478 0 22 rfl rfl
  have y1478_36_0 : h1478 36 0 = h1463 36 0 := g1478 36 0 rfl rfl
  have y1478_36_1 : h1478 36 1 = h1463 36 1 := g1478 36 1 rfl rfl
  have y1478_36_2 : h1478 36 2 = h1463 36 2 := g1478 36 2 rfl rfl
  have y1478_0_16 : h1478 0 16 = h1463 0 16 := g1478 0 16 rfl rfl
  have y1478_0_17 : h1478 0 17 = h1463 0 17 := g1478 0 17 rfl rfl
  have y1478_0_18 : h1478 0 18 = h1463 0 18 := g1478 0 18 rfl rfl
  have y1478_0_14 : h1478 0 14 = h1463 0 14 := g1478 0 14 rfl rfl
  have y1478_0_15 : h1478 0 15 = h1463 0 15 := g1478 0 15 rfl rfl
  have y1478_0_19 : h1478 0 19 = h1463 0 19 := g1478 0 19 rfl rfl
  have y1478_0_20 : h1478 0 20 = h1463 0 20 := g1478 0 20 rfl rfl
  have y1478_30_10 : h1478 30 10 = h1463 30 10 := g1478 30 10 rfl rfl
  have y1478_30_12 : h1478 30 12 = h1463 30 12 := g1478 30 12 rfl rfl
  have y1478_41_0 : h1478 41 0 = h1463 41 0 := g1478 41 0 rfl rfl
  have y1478_41_1 : h1478 41 1 = h1463 41 1 := g1478 41 1 rfl rfl
  have y1478_45_0 : h1478 45 0 = h1463 45 0 := g1478 45 0 rfl rfl
  have y1478_45_1 : h1478 45 1 = h1463 45 1 := g1478 45 1 rfl rfl
  replace hT : TI h1478 := TI_of hT1 (y1478_0_25.trans y1463_0_25) (y1478_31_1.trans y1463_31_1) (y1478_33_0.trans y1463_33_0) (y1478_33_1.trans y1463_33_1) (y1478_33_2.trans y1463_33_2) (y1478_0_11.trans y1463_0_11) (y1478_0_12.trans y1463_0_12) (y1478_0_13.trans y1463_0_13) (y1478_30_11.trans y1463_30_11) (y1478_0_22.trans y1463_0_22) (y1478_36_0.trans y1463_36_0) (y1478_36_1.trans y1463_36_1) (y1478_36_2.trans y1463_36_2) (y1478_0_16.trans y1463_0_16) (y1478_0_17.trans y1463_0_17) (y1478_0_18.trans y1463_0_18)
  replace gA : TGA h1478 := TGA_of gA1 (fun j => (g1478 1 j rfl rfl).trans (g1463 1 j rfl rfl)) (fun j => (g1478 34 j rfl rfl).trans (g1463 34 j rfl rfl)) (fun j => (g1478 10 j rfl rfl).trans (g1463 10 j rfl rfl)) (fun j => (g1478 35 j rfl rfl).trans (g1463 35 j rfl rfl)) (fun j => (g1478 6 j rfl rfl).trans (g1463 6 j rfl rfl)) (fun j => (g1478 37 j rfl rfl).trans (g1463 37 j rfl rfl)) (fun j => (g1478 11 j rfl rfl).trans (g1463 11 j rfl rfl)) (fun j => (g1478 38 j rfl rfl).trans (g1463 38 j rfl rfl)) ((y1478_0_11).trans (y1463_0_11)) ((y1478_0_12).trans (y1463_0_12)) ((y1478_0_16).trans (y1463_0_16)) ((y1478_0_17).trans (y1463_0_17)) ((y1478_0_22).trans (y1463_0_22))
  replace gB : TGB h1478 := TGB_of gB1 (fun j => (g1478 12 j rfl rfl).trans (g1463 12 j rfl rfl)) (fun j => (g1478 32 j rfl rfl).trans (g1463 32 j rfl rfl)) ((y1478_0_25).trans (y1463_0_25))
  replace gC : TGC h1478 := TGC_of gC1  ((y1478_0_15).trans (y1463_0_15)) ((y1478_30_12).trans (y1463_30_12)) ((y1478_0_11).trans (y1463_0_11)) ((y1478_0_12).trans (y1463_0_12)) ((y1478_0_20).trans (y1463_0_20)) ((y1478_30_10).trans (y1463_30_10)) ((y1478_0_16).trans (y1463_0_16)) ((y1478_0_17).trans (y1463_0_17)) ((y1478_0_22).trans (y1463_0_22))
  replace gD : TGD h1478 := TGD_of gD1  ((y1478_41_0).trans (y1463_41_0)) ((y1478_0_14).trans (y1463_0_14)) ((y1478_45_0).trans (y1463_45_0)) ((y1478_0_19).trans (y1463_0_19)) ((y1478_0_22).trans (y1463_0_22))
  replace gR : TGR h1478 := TGR_of gR1 (fun j => (g1478 3 j rfl rfl).trans (g1463 3 j rfl rfl)) (fun j => (g1478 4 j rfl rfl).trans (g1463 4 j rfl rfl)) (fun j => (g1478 5 j rfl rfl).trans (g1463 5 j rfl rfl)) (fun j => (g1478 7 j rfl rfl).trans (g1463 7 j rfl rfl)) (fun j => (g1478 8 j rfl rfl).trans (g1463 8 j rfl rfl)) (fun j => (g1478 9 j rfl rfl).trans (g1463 9 j rfl rfl)) (fun j => (g1478 42 j rfl rfl).trans (g1463 42 j rfl rfl)) (fun j => (g1478 43 j rfl rfl).trans (g1463 43 j rfl rfl)) (fun j => (g1478 44 j rfl rfl).trans (g1463 44 j rfl rfl)) (fun j => (g1478 46 j rfl rfl).trans (g1463 46 j rfl rfl)) (fun j => (g1478 47 j rfl rfl).trans (g1463 47 j rfl rfl)) (fun j => (g1478 48 j rfl rfl).trans (g1463 48 j rfl rfl)) ((y1478_0_14).trans (y1463_0_14)) ((y1478_0_19).trans (y1463_0_19)) ((y1478_0_22).trans (y1463_0_22))
  replace gV : TGV h1478 := TGV_of gV1 (fun j => (g1478 34 j rfl rfl).trans (g1463 34 j rfl rfl)) (fun j => (g1478 37 j rfl rfl).trans (g1463 37 j rfl rfl)) ((y1478_0_22).trans (y1463_0_22))
  replace gE : TGE h1478 := TGE_of gE1 (fun j => (g1478 3 j rfl rfl).trans (g1463 3 j rfl rfl)) (fun j => (g1478 7 j rfl rfl).trans (g1463 7 j rfl rfl)) ((y1478_0_14).trans (y1463_0_14)) ((y1478_0_19).trans (y1463_0_19)) ((y1478_0_22).trans (y1463_0_22))
  replace gS : TGS h1478 := TGS_of gS1 (fun j => (g1478 3 j rfl rfl).trans (g1463 3 j rfl rfl)) (fun j => (g1478 4 j rfl rfl).trans (g1463 4 j rfl rfl)) (fun j => (g1478 5 j rfl rfl).trans (g1463 5 j rfl rfl)) (fun j => (g1478 7 j rfl rfl).trans (g1463 7 j rfl rfl)) (fun j => (g1478 8 j rfl rfl).trans (g1463 8 j rfl rfl)) (fun j => (g1478 9 j rfl rfl).trans (g1463 9 j rfl rfl)) ((y1478_0_14).trans (y1463_0_14)) ((y1478_0_19).trans (y1463_0_19)) ((y1478_0_22).trans (y1463_0_22))
  have qe1472 : v1472 = v1457 := by rw [q1472, q1457]
  have qe1477 : v1477 = v1462 := by rw [q1477, q1462]
  replace gP : TGP h1478 := by
    have hT2 := hT1
    unfold TI at hT2
    have k1 := KRw hR; have k2 := KRh hR
    clear hcs hm hi
    exact ⟨pR1478, pC1478⟩
  replace gF : TGF h1478 := TGF_of gF1 (fun j => (g1478 3 j rfl rfl).trans (g1463 3 j rfl rfl)) (fun j => (g1478 7 j rfl rfl).trans (g1463 7 j rfl rfl)) ((y1478_41_1).trans (y1463_41_1)) ((y1478_0_14).trans (y1463_0_14)) ((y1478_45_1).trans (y1463_45_1)) ((y1478_0_19).trans (y1463_0_19)) ((y1478_0_22).trans (y1463_0_22))
  show zL _ _ _ (.inl r1478 :: []) _
  refine zL_pop (pc' := 1482) dL_1481 rfl rfl ?_
  refine zL_goto (tgt := 1580) dL_1482 rfl ?_
  exact nx _ hS hR hC hT gA gB gC gD gR gV gE gS gP gF
set_option maxHeartbeats 4000000 in
theorem lc_33 {Γ : Lc} {i : Int} {h : Hp} (hX : XI Γ.1) (hcs : Γ.2.2.2.2.2.1 ≤ room_1.cells ∧ Γ.2.2.2.2.2.2 ≤ room_1.slots) (hm : Γ.2.2.1 < 2147483648) (hi : 0 ≤ i ∧ i + 6 ≤ Γ.2.2.1) (hS : SI h) (hR : KR h) (hC : KC h) (hT : TI h) (gA : TGA h) (gB : TGB h) (gC : TGC h) (gD : TGD h) (gR : TGR h) (gV : TGV h) (gE : TGE h) (gS : TGS h) (gP : TGP h) (gF : TGF h) (nx : ∀ h' : Hp, SI h' → KR h' → KC h' → TI h' → TGA h' → TGB h' → TGC h' → TGD h' → TGR h' → TGV h' → TGE h' → TGS h' → TGP h' → TGF h' → zL Γ 1580 (lsL i) [] h') : zL Γ 1485 (lsL i) [] h := by
  refine zL_aload_n (pc' := 1486) dL_1485 rfl rfl ?_
  refine zL_aload_n (pc' := 1487) dL_1486 rfl rfl ?_
  refine zL_iload_n (pc' := 1488) dL_1487 rfl rfl ?_
  refine zL_iconst (pc' := 1489) dL_1488 rfl ?_
  refine zL_iadd (pc' := 1490) dL_1489 rfl ?_
  refine zL_sldE (pc' := 1491) (by omega) hm dL_1490 rfl (fun v1490 e1490 q1490 => ?_)
  refine zL_inv (pc' := 1494) hcs kX11_seed vX11_seed lk_L_154 ⟨Nat.le_of_ble_eq_true rfl, Nat.le_of_ble_eq_true rfl⟩ tb30 vq11 rfl [_] (s_X11_seedE hS hR hC _ ⟨e1490.1, e1490.2⟩) dL_1491 rfl (Nat.le_of_ble_eq_true rfl) rfl ?_
  have hC_1491 := hC
  rintro r1491 h1491 ⟨f1491, p1491⟩; have F1491 := f1491; obtain ⟨g1491, hS, hR, hC⟩ := f1491
  have pR1491 : PicRW h1491 := PicRW_un (UnR.rf.fm F1491 rfl) gP.1
  have pC1491 : PicCW h1491 := PicCW_un (KCm hC_1491).2 (UnC.rf.fm F1491 rfl) gP.2
  obtain ⟨p1491_0, p1491_1, p1491_2⟩ := p1491
  have y1491_0_25 : h1491 0 25 = h 0 25 := g1491 0 25 rfl rfl
  have y1491_31_1 : h1491 31 1 = h 31 1 := g1491 31 1 rfl rfl
  have y1491_33_0 : h1491 33 0 = h 33 0 := g1491 33 0 rfl rfl
  have y1491_33_1 : h1491 33 1 = h 33 1 := g1491 33 1 rfl rfl
  have y1491_33_2 : h1491 33 2 = h 33 2 := g1491 33 2 rfl rfl
  have y1491_0_11 : h1491 0 11 = h 0 11 := g1491 0 11 rfl rfl
  have y1491_0_12 : h1491 0 12 = h 0 12 := g1491 0 12 rfl rfl
  have y1491_0_13 : h1491 0 13 = h 0 13 := g1491 0 13 rfl rfl
  have y1491_30_11 : h1491 30 11 = h 30 11 := g1491 30 11 rfl rfl
  have y1491_0_22 : h1491 0 22 = h 0 22 := g1491 0 22 rfl rfl
  have y1491_36_0 : h1491 36 0 = h 36 0 := g1491 36 0 rfl rfl
  have y1491_36_1 : h1491 36 1 = h 36 1 := g1491 36 1 rfl rfl
  have y1491_36_2 : h1491 36 2 = h 36 2 := g1491 36 2 rfl rfl
  have y1491_0_16 : h1491 0 16 = h 0 16 := g1491 0 16 rfl rfl
  have y1491_0_17 : h1491 0 17 = h 0 17 := g1491 0 17 rfl rfl
  have y1491_0_18 : h1491 0 18 = h 0 18 := g1491 0 18 rfl rfl
  have y1491_0_14 : h1491 0 14 = h 0 14 := g1491 0 14 rfl rfl
  have y1491_0_15 : h1491 0 15 = h 0 15 := g1491 0 15 rfl rfl
  have y1491_0_19 : h1491 0 19 = h 0 19 := g1491 0 19 rfl rfl
  have y1491_0_20 : h1491 0 20 = h 0 20 := g1491 0 20 rfl rfl
  have y1491_30_10 : h1491 30 10 = h 30 10 := g1491 30 10 rfl rfl
  have y1491_41_0 : h1491 41 0 = h 41 0 := g1491 41 0 rfl rfl
  have y1491_41_1 : h1491 41 1 = h 41 1 := g1491 41 1 rfl rfl
  have y1491_45_0 : h1491 45 0 = h 45 0 := g1491 45 0 rfl rfl
  have y1491_45_1 : h1491 45 1 = h 45 1 := g1491 45 1 rfl rfl
  have hT1 := hT; have gA1 := gA; have gB1 := gB; have gC1 := gC; have gD1 := gD; have gR1 := gR; have gV1 := gV; have gE1 := gE; have gS1 := gS; have gP1 := gP; have gF1 := gF
  show zL _ _ _ (.inl r1491 :: []) _
  refine zL_pop (pc' := 1495) dL_1494 rfl rfl ?_
  refine zL_aload_n (pc' := 1496) dL_1495 rfl rfl ?_
  refine zL_aload_n (pc' := 1497) dL_1496 rfl rfl ?_
  refine zL_iload_n (pc' := 1498) dL_1497 rfl rfl ?_
  refine zL_iconst (pc' := 1499) dL_1498 rfl ?_
  refine zL_iadd (pc' := 1500) dL_1499 rfl ?_
  refine zL_sldE (pc' := 1501) (by omega) hm dL_1500 rfl (fun v1500 e1500 q1500 => ?_)
  refine zL_inv (pc' := 1504) hcs kX12_seed vX12_seed lk_L_157 ⟨Nat.le_of_ble_eq_true rfl, Nat.le_of_ble_eq_true rfl⟩ tb0 vq12 rfl [_] (s_X12_seedE hS hR hC _ ⟨e1500.1, e1500.2⟩) dL_1501 rfl (Nat.le_of_ble_eq_true rfl) rfl ?_
  have hC_1501 := hC
  rintro r1501 h1501 ⟨f1501, p1501⟩; have F1501 := f1501; obtain ⟨g1501, hS, hR, hC⟩ := f1501
  have pR1501 : PicRW h1501 := PicRW_un (UnR.rf.fm F1501 rfl) pR1491
  have pC1501 : PicCW h1501 := PicCW_un (KCm hC_1501).2 (UnC.rf.fm F1501 rfl) pC1491
  obtain ⟨p1501_0, p1501_1, p1501_2⟩ := p1501
  have y1501_0_25 : h1501 0 25 = h1491 0 25 := g1501 0 25 rfl rfl
  have y1501_31_1 : h1501 31 1 = h1491 31 1 := g1501 31 1 rfl rfl
  have y1501_33_0 : h1501 33 0 = h1491 33 0 := g1501 33 0 rfl rfl
  have y1501_33_1 : h1501 33 1 = h1491 33 1 := g1501 33 1 rfl rfl
  have y1501_33_2 : h1501 33 2 = h1491 33 2 := g1501 33 2 rfl rfl
  have y1501_0_11 : h1501 0 11 = h1491 0 11 := g1501 0 11 rfl rfl
  have y1501_0_12 : h1501 0 12 = h1491 0 12 := g1501 0 12 rfl rfl
  have y1501_0_13 : h1501 0 13 = h1491 0 13 := g1501 0 13 rfl rfl
  have y1501_30_11 : h1501 30 11 = h1491 30 11 := g1501 30 11 rfl rfl
  have y1501_0_22 : h1501 0 22 = h1491 0 22 := g1501 0 22 rfl rfl
  have y1501_36_0 : h1501 36 0 = h1491 36 0 := g1501 36 0 rfl rfl
  have y1501_36_1 : h1501 36 1 = h1491 36 1 := g1501 36 1 rfl rfl
  have y1501_36_2 : h1501 36 2 = h1491 36 2 := g1501 36 2 rfl rfl
  have y1501_0_16 : h1501 0 16 = h1491 0 16 := g1501 0 16 rfl rfl
  have y1501_0_17 : h1501 0 17 = h1491 0 17 := g1501 0 17 rfl rfl
  have y1501_0_18 : h1501 0 18 = h1491 0 18 := g1501 0 18 rfl rfl
  have y1501_0_14 : h1501 0 14 = h1491 0 14 := g1501 0 14 rfl rfl
  have y1501_0_19 : h1501 0 19 = h1491 0 19 := g1501 0 19 rfl rfl
  have y1501_0_20 : h1501 0 20 = h1491 0 20 := g1501 0 20 rfl rfl
  have y1501_30_10 : h1501 30 10 = h1491 30 10 := g1501 30 10 rfl rfl
  have y1501_30_12 : h1501 30 12 = h1491 30 12 := g1501 30 12 rfl rfl
  have y1501_41_0 : h1501 41 0 = h1491 41 0 := g1501 41 0 rfl rfl
  have y1501_41_1 : h1501 41 1 = h1491 41 1 := g1501 41 1 rfl rfl
  have y1501_45_0 : h1501 45 0 = h1491 45 0 := g1501 45 0 rfl rfl
  have y1501_45_1 : h1501 45 1 = h1491 45 1 := g1501 45 1 rfl rfl
  replace hT : TI h1501 := TI_of hT1 (y1501_0_25.trans y1491_0_25) (y1501_31_1.trans y1491_31_1) (y1501_33_0.trans y1491_33_0) (y1501_33_1.trans y1491_33_1) (y1501_33_2.trans y1491_33_2) (y1501_0_11.trans y1491_0_11) (y1501_0_12.trans y1491_0_12) (y1501_0_13.trans y1491_0_13) (y1501_30_11.trans y1491_30_11) (y1501_0_22.trans y1491_0_22) (y1501_36_0.trans y1491_36_0) (y1501_36_1.trans y1491_36_1) (y1501_36_2.trans y1491_36_2) (y1501_0_16.trans y1491_0_16) (y1501_0_17.trans y1491_0_17) (y1501_0_18.trans y1491_0_18)
  replace gA : TGA h1501 := TGA_of gA1 (fun j => (g1501 1 j rfl rfl).trans (g1491 1 j rfl rfl)) (fun j => (g1501 34 j rfl rfl).trans (g1491 34 j rfl rfl)) (fun j => (g1501 10 j rfl rfl).trans (g1491 10 j rfl rfl)) (fun j => (g1501 35 j rfl rfl).trans (g1491 35 j rfl rfl)) (fun j => (g1501 6 j rfl rfl).trans (g1491 6 j rfl rfl)) (fun j => (g1501 37 j rfl rfl).trans (g1491 37 j rfl rfl)) (fun j => (g1501 11 j rfl rfl).trans (g1491 11 j rfl rfl)) (fun j => (g1501 38 j rfl rfl).trans (g1491 38 j rfl rfl)) ((y1501_0_11).trans (y1491_0_11)) ((y1501_0_12).trans (y1491_0_12)) ((y1501_0_16).trans (y1491_0_16)) ((y1501_0_17).trans (y1491_0_17)) ((y1501_0_22).trans (y1491_0_22))
  replace gB : TGB h1501 := TGB_of gB1 (fun j => (g1501 12 j rfl rfl).trans (g1491 12 j rfl rfl)) (fun j => (g1501 32 j rfl rfl).trans (g1491 32 j rfl rfl)) ((y1501_0_25).trans (y1491_0_25))
  have qe1500 : v1500 = v1490 := by rw [q1500, q1490]
  replace gC : TGC h1501 := by
    have hT2 := hT1
    unfold TI at hT2
    have k1 := KRw hR; have k2 := KRh hR
    clear hcs hm hi
    have d4 := gC1
    unfold TGC at d4 ⊢
    omega
  replace gD : TGD h1501 := TGD_of gD1  ((y1501_41_0).trans (y1491_41_0)) ((y1501_0_14).trans (y1491_0_14)) ((y1501_45_0).trans (y1491_45_0)) ((y1501_0_19).trans (y1491_0_19)) ((y1501_0_22).trans (y1491_0_22))
  replace gR : TGR h1501 := TGR_of gR1 (fun j => (g1501 3 j rfl rfl).trans (g1491 3 j rfl rfl)) (fun j => (g1501 4 j rfl rfl).trans (g1491 4 j rfl rfl)) (fun j => (g1501 5 j rfl rfl).trans (g1491 5 j rfl rfl)) (fun j => (g1501 7 j rfl rfl).trans (g1491 7 j rfl rfl)) (fun j => (g1501 8 j rfl rfl).trans (g1491 8 j rfl rfl)) (fun j => (g1501 9 j rfl rfl).trans (g1491 9 j rfl rfl)) (fun j => (g1501 42 j rfl rfl).trans (g1491 42 j rfl rfl)) (fun j => (g1501 43 j rfl rfl).trans (g1491 43 j rfl rfl)) (fun j => (g1501 44 j rfl rfl).trans (g1491 44 j rfl rfl)) (fun j => (g1501 46 j rfl rfl).trans (g1491 46 j rfl rfl)) (fun j => (g1501 47 j rfl rfl).trans (g1491 47 j rfl rfl)) (fun j => (g1501 48 j rfl rfl).trans (g1491 48 j rfl rfl)) ((y1501_0_14).trans (y1491_0_14)) ((y1501_0_19).trans (y1491_0_19)) ((y1501_0_22).trans (y1491_0_22))
  replace gV : TGV h1501 := TGV_of gV1 (fun j => (g1501 34 j rfl rfl).trans (g1491 34 j rfl rfl)) (fun j => (g1501 37 j rfl rfl).trans (g1491 37 j rfl rfl)) ((y1501_0_22).trans (y1491_0_22))
  replace gE : TGE h1501 := TGE_of gE1 (fun j => (g1501 3 j rfl rfl).trans (g1491 3 j rfl rfl)) (fun j => (g1501 7 j rfl rfl).trans (g1491 7 j rfl rfl)) ((y1501_0_14).trans (y1491_0_14)) ((y1501_0_19).trans (y1491_0_19)) ((y1501_0_22).trans (y1491_0_22))
  replace gS : TGS h1501 := TGS_of gS1 (fun j => (g1501 3 j rfl rfl).trans (g1491 3 j rfl rfl)) (fun j => (g1501 4 j rfl rfl).trans (g1491 4 j rfl rfl)) (fun j => (g1501 5 j rfl rfl).trans (g1491 5 j rfl rfl)) (fun j => (g1501 7 j rfl rfl).trans (g1491 7 j rfl rfl)) (fun j => (g1501 8 j rfl rfl).trans (g1491 8 j rfl rfl)) (fun j => (g1501 9 j rfl rfl).trans (g1491 9 j rfl rfl)) ((y1501_0_14).trans (y1491_0_14)) ((y1501_0_19).trans (y1491_0_19)) ((y1501_0_22).trans (y1491_0_22))
  replace gP : TGP h1501 := by
    have hT2 := hT1
    unfold TI at hT2
    have k1 := KRw hR; have k2 := KRh hR
    clear hcs hm hi
    exact ⟨pR1501, pC1501⟩
  replace gF : TGF h1501 := TGF_of gF1 (fun j => (g1501 3 j rfl rfl).trans (g1491 3 j rfl rfl)) (fun j => (g1501 7 j rfl rfl).trans (g1491 7 j rfl rfl)) ((y1501_41_1).trans (y1491_41_1)) ((y1501_0_14).trans (y1491_0_14)) ((y1501_45_1).trans (y1491_45_1)) ((y1501_0_19).trans (y1491_0_19)) ((y1501_0_22).trans (y1491_0_22))
  show zL _ _ _ (.inl r1501 :: []) _
  refine zL_pop (pc' := 1505) dL_1504 rfl rfl ?_
  refine zL_goto (tgt := 1580) dL_1505 rfl ?_
  exact nx _ hS hR hC hT gA gB gC gD gR gV gE gS gP gF
