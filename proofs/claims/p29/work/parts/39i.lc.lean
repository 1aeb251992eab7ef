/-! the law's cases, further -/
set_option maxHeartbeats 4000000 in
theorem lc_26 {Γ : Lc} {i : Int} {h : Hp} (hX : XI Γ.1) (hcs : Γ.2.2.2.2.2.1 ≤ room_1.cells ∧ Γ.2.2.2.2.2.2 ≤ room_1.slots) (hm : Γ.2.2.1 < 2147483648) (hi : 0 ≤ i ∧ i + 6 ≤ Γ.2.2.1) (hS : SI h) (hR : KR h) (hC : KC h) (hT : TI h) (gA : TGA h) (gB : TGB h) (gC : TGC h) (gD : TGD h) (gR : TGR h) (gV : TGV h) (gE : TGE h) (gS : TGS h) (gP : TGP h) (gF : TGF h) (gT : TGT h) (nx : ∀ h' : Hp, SI h' → KR h' → KC h' → TI h' → TGA h' → TGB h' → TGC h' → TGD h' → TGR h' → TGV h' → TGE h' → TGS h' → TGP h' → TGF h' → TGT h' → zL Γ 1581 (lsL i) [] h') : zL Γ 1214 (lsL i) [] h := by
  refine zL_aload_n (pc' := 1215) dL_1214 rfl rfl ?_
  refine zL_aload_n (pc' := 1216) dL_1215 rfl rfl ?_
  refine zL_iload_n (pc' := 1217) dL_1216 rfl rfl ?_
  refine zL_iconst (pc' := 1218) dL_1217 rfl ?_
  refine zL_iadd (pc' := 1219) dL_1218 rfl ?_
  refine zL_sldE (pc' := 1220) (by omega) hm dL_1219 rfl (fun v1219 e1219 q1219 => ?_)
  refine zL_aload_n (pc' := 1221) dL_1220 rfl rfl ?_
  refine zL_iload_n (pc' := 1222) dL_1221 rfl rfl ?_
  refine zL_iconst (pc' := 1223) dL_1222 rfl ?_
  refine zL_iadd (pc' := 1224) dL_1223 rfl ?_
  refine zL_sldE (pc' := 1225) (by omega) hm dL_1224 rfl (fun v1224 e1224 q1224 => ?_)
  have iP : IPW h := IPW_of hR hC hT gA gV gE gS gD gR gP
  refine zL_inv (pc' := 1228) hcs kX11_edges vX11_edges lk_L_125 ⟨Nat.le_of_ble_eq_true rfl, Nat.le_of_ble_eq_true rfl⟩ tb30 vq11 rfl [_, _] (s_X11_edges (b := bW) (κ := _) hC (Fr.rf (b := bW) hS iP) _ ⟨e1219.1, e1219.2⟩ _ ⟨e1224.1, e1224.2⟩ shW_.ok) dL_1225 rfl (Nat.le_of_ble_eq_true rfl) rfl ?_
  rintro r1225 h1225 ⟨f1225, p1225⟩; have g1225 : ∀ k i, key k i = true → inW ([] : List (Nat × Nat)) k i = false → h1225 k i = h k i := fun k i hk _ => f1225.1 k i hk
  replace iP : IPW h1225 := f1225.inv; replace hS := f1225.2.2; replace hR := KR_tr hR f1225; replace hC := KC_tr hC f1225; have pR1225 := iP.1.1; have pC1225 := iP.1.2
  have y1225_0_25 : h1225 0 25 = h 0 25 := g1225 0 25 rfl rfl
  have y1225_31_1 : h1225 31 1 = h 31 1 := g1225 31 1 rfl rfl
  have y1225_33_0 : h1225 33 0 = h 33 0 := g1225 33 0 rfl rfl
  have y1225_33_1 : h1225 33 1 = h 33 1 := g1225 33 1 rfl rfl
  have y1225_33_2 : h1225 33 2 = h 33 2 := g1225 33 2 rfl rfl
  have y1225_0_11 : h1225 0 11 = h 0 11 := g1225 0 11 rfl rfl
  have y1225_0_12 : h1225 0 12 = h 0 12 := g1225 0 12 rfl rfl
  have y1225_0_13 : h1225 0 13 = h 0 13 := g1225 0 13 rfl rfl
  have y1225_30_11 : h1225 30 11 = h 30 11 := g1225 30 11 rfl rfl
  have y1225_0_22 : h1225 0 22 = h 0 22 := g1225 0 22 rfl rfl
  have y1225_36_0 : h1225 36 0 = h 36 0 := g1225 36 0 rfl rfl
  have y1225_36_1 : h1225 36 1 = h 36 1 := g1225 36 1 rfl rfl
  have y1225_36_2 : h1225 36 2 = h 36 2 := g1225 36 2 rfl rfl
  have y1225_0_16 : h1225 0 16 = h 0 16 := g1225 0 16 rfl rfl
  have y1225_0_17 : h1225 0 17 = h 0 17 := g1225 0 17 rfl rfl
  have y1225_0_18 : h1225 0 18 = h 0 18 := g1225 0 18 rfl rfl
  have y1225_0_14 : h1225 0 14 = h 0 14 := g1225 0 14 rfl rfl
  have y1225_0_15 : h1225 0 15 = h 0 15 := g1225 0 15 rfl rfl
  have y1225_0_19 : h1225 0 19 = h 0 19 := g1225 0 19 rfl rfl
  have y1225_0_20 : h1225 0 20 = h 0 20 := g1225 0 20 rfl rfl
  have y1225_0_21 : h1225 0 21 = h 0 21 := g1225 0 21 rfl rfl
  have y1225_30_10 : h1225 30 10 = h 30 10 := g1225 30 10 rfl rfl
  have y1225_30_12 : h1225 30 12 = h 30 12 := g1225 30 12 rfl rfl
  have y1225_39_1 : h1225 39 1 = h 39 1 := g1225 39 1 rfl rfl
  have y1225_41_0 : h1225 41 0 = h 41 0 := g1225 41 0 rfl rfl
  have y1225_41_1 : h1225 41 1 = h 41 1 := g1225 41 1 rfl rfl
  have y1225_45_0 : h1225 45 0 = h 45 0 := g1225 45 0 rfl rfl
  have y1225_45_1 : h1225 45 1 = h 45 1 := g1225 45 1 rfl rfl
  have hT1 := hT; have gA1 := gA; have gB1 := gB; have gC1 := gC; have gD1 := gD; have gR1 := gR; have gV1 := gV; have gE1 := gE; have gS1 := gS; have gP1 := gP; have gF1 := gF; have gT1 := gT
  show zL _ _ _ (.inl r1225 :: []) _
  refine zL_pop (pc' := 1229) dL_1228 rfl rfl ?_
  refine zL_aload_n (pc' := 1230) dL_1229 rfl rfl ?_
  refine zL_aload_n (pc' := 1231) dL_1230 rfl rfl ?_
  refine zL_iload_n (pc' := 1232) dL_1231 rfl rfl ?_
  refine zL_iconst (pc' := 1233) dL_1232 rfl ?_
  refine zL_iadd (pc' := 1234) dL_1233 rfl ?_
  refine zL_sldE (pc' := 1235) (by omega) hm dL_1234 rfl (fun v1234 e1234 q1234 => ?_)
  refine zL_aload_n (pc' := 1236) dL_1235 rfl rfl ?_
  refine zL_iload_n (pc' := 1237) dL_1236 rfl rfl ?_
  refine zL_iconst (pc' := 1238) dL_1237 rfl ?_
  refine zL_iadd (pc' := 1239) dL_1238 rfl ?_
  refine zL_sldE (pc' := 1240) (by omega) hm dL_1239 rfl (fun v1239 e1239 q1239 => ?_)
  refine zL_inv (pc' := 1243) hcs kX12_edges vX12_edges lk_L_128 ⟨Nat.le_of_ble_eq_true rfl, Nat.le_of_ble_eq_true rfl⟩ tb0 vq12 rfl [_, _] (s_X12_edges (b := bW) (κ := _) hR (Fr.rf (b := bW.fo) hS iP) _ ⟨e1234.1, e1234.2⟩ _ ⟨e1239.1, e1239.2⟩ lvW.ok) dL_1240 rfl (Nat.le_of_ble_eq_true rfl) rfl ?_
  rintro r1240 h1240 ⟨f1240, p1240⟩; have g1240 : ∀ k i, key k i = true → inW ([] : List (Nat × Nat)) k i = false → h1240 k i = h1225 k i := fun k i hk _ => f1240.1 k i hk
  replace iP : IPW h1240 := f1240.inv; replace hS := f1240.2.2; replace hR := KR_tr hR f1240; replace hC := KC_tr hC f1240; have pR1240 := iP.1.1; have pC1240 := iP.1.2
  have y1240_0_25 : h1240 0 25 = h1225 0 25 := g1240 0 25 rfl rfl
  have y1240_31_1 : h1240 31 1 = h1225 31 1 := g1240 31 1 rfl rfl
  have y1240_33_0 : h1240 33 0 = h1225 33 0 := g1240 33 0 rfl rfl
  have y1240_33_1 : h1240 33 1 = h1225 33 1 := g1240 33 1 rfl rfl
  have y1240_33_2 : h1240 33 2 = h1225 33 2 := g1240 33 2 rfl rfl
  have y1240_0_11 : h1240 0 11 = h1225 0 11 := g1240 0 11 rfl rfl
  have y1240_0_12 : h1240 0 12 = h1225 0 12 := g1240 0 12 rfl rfl
  have y1240_0_13 : h1240 0 13 = h1225 0 13 := g1240 0 13 rfl rfl
  have y1240_30_11 : h1240 30 11 = h1225 30 11 := g1240 30 11 rfl rfl
  have y1240_0_22 : h1240 0 22 = h1225 0 22 := g1240 0 22 rfl rfl
  have y1240_36_0 : h1240 36 0 = h1225 36 0 := g1240 36 0 rfl rfl
  have y1240_36_1 : h1240 36 1 = h1225 36 1 := g1240 36 1 rfl rfl
  have y1240_36_2 : h1240 36 2 = h1225 36 2 := g1240 36 2 rfl rfl
  have y1240_0_16 : h1240 0 16 = h1225 0 16 := g1240 0 16 rfl rfl
  have y1240_0_17 : h1240 0 17 = h1225 0 17 := g1240 0 17 rfl rfl
  have y1240_0_18 : h1240 0 18 = h1225 0 18 := g1240 0 18 rfl rfl
  have y1240_0_14 : h1240 0 14 = h1225 0 14 := g1240 0 14 rfl rfl
  have y1240_0_15 : h1240 0 15 = h1225 0 15 := g1240 0 15 rfl rfl
  have y1240_0_19 : h1240 0 19 = h1225 0 19 := g1240 0 19 rfl rfl
  have y1240_0_20 : h1240 0 20 = h1225 0 20 := g1240 0 20 rfl rfl
  have y1240_0_21 : h1240 0 21 = h1225 0 21 := g1240 0 21 rfl rfl
  have y1240_30_10 : h1240 30 10 = h1225 30 10 := g1240 30 10 rfl rfl
  have y1240_30_12 : h1240 30 12 = h1225 30 12 := g1240 30 12 rfl rfl
  have y1240_39_1 : h1240 39 1 = h1225 39 1 := g1240 39 1 rfl rfl
  have y1240_41_0 : h1240 41 0 = h1225 41 0 := g1240 41 0 rfl rfl
  have y1240_41_1 : h1240 41 1 = h1225 41 1 := g1240 41 1 rfl rfl
  have y1240_45_0 : h1240 45 0 = h1225 45 0 := g1240 45 0 rfl rfl
  have y1240_45_1 : h1240 45 1 = h1225 45 1 := g1240 45 1 rfl rfl
  replace hT : TI h1240 := TI_of hT1 (y1240_0_25.trans y1225_0_25) (y1240_31_1.trans y1225_31_1) (y1240_33_0.trans y1225_33_0) (y1240_33_1.trans y1225_33_1) (y1240_33_2.trans y1225_33_2) (y1240_0_11.trans y1225_0_11) (y1240_0_12.trans y1225_0_12) (y1240_0_13.trans y1225_0_13) (y1240_30_11.trans y1225_30_11) (y1240_0_22.trans y1225_0_22) (y1240_36_0.trans y1225_36_0) (y1240_36_1.trans y1225_36_1) (y1240_36_2.trans y1225_36_2) (y1240_0_16.trans y1225_0_16) (y1240_0_17.trans y1225_0_17) (y1240_0_18.trans y1225_0_18)
  replace gA : TGA h1240 := TGA_of gA1 (fun j => (g1240 1 j rfl rfl).trans (g1225 1 j rfl rfl)) (fun j => (g1240 34 j rfl rfl).trans (g1225 34 j rfl rfl)) (fun j => (g1240 10 j rfl rfl).trans (g1225 10 j rfl rfl)) (fun j => (g1240 35 j rfl rfl).trans (g1225 35 j rfl rfl)) (fun j => (g1240 6 j rfl rfl).trans (g1225 6 j rfl rfl)) (fun j => (g1240 37 j rfl rfl).trans (g1225 37 j rfl rfl)) (fun j => (g1240 11 j rfl rfl).trans (g1225 11 j rfl rfl)) (fun j => (g1240 38 j rfl rfl).trans (g1225 38 j rfl rfl)) ((y1240_0_11).trans (y1225_0_11)) ((y1240_0_12).trans (y1225_0_12)) ((y1240_0_16).trans (y1225_0_16)) ((y1240_0_17).trans (y1225_0_17)) ((y1240_0_22).trans (y1225_0_22))
  replace gB : TGB h1240 := TGB_of gB1 (fun j => (g1240 12 j rfl rfl).trans (g1225 12 j rfl rfl)) (fun j => (g1240 32 j rfl rfl).trans (g1225 32 j rfl rfl)) ((y1240_0_25).trans (y1225_0_25))
  replace gC : TGC h1240 := TGC_of gC1  ((y1240_0_15).trans (y1225_0_15)) ((y1240_30_12).trans (y1225_30_12)) ((y1240_0_11).trans (y1225_0_11)) ((y1240_0_12).trans (y1225_0_12)) ((y1240_0_20).trans (y1225_0_20)) ((y1240_30_10).trans (y1225_30_10)) ((y1240_0_16).trans (y1225_0_16)) ((y1240_0_17).trans (y1225_0_17)) ((y1240_0_22).trans (y1225_0_22))
  replace gD : TGD h1240 := TGD_of gD1  ((y1240_41_0).trans (y1225_41_0)) ((y1240_0_14).trans (y1225_0_14)) ((y1240_45_0).trans (y1225_45_0)) ((y1240_0_19).trans (y1225_0_19)) ((y1240_0_22).trans (y1225_0_22))
  replace gR : TGR h1240 := TGR_of gR1 (fun j => (g1240 3 j rfl rfl).trans (g1225 3 j rfl rfl)) (fun j => (g1240 4 j rfl rfl).trans (g1225 4 j rfl rfl)) (fun j => (g1240 5 j rfl rfl).trans (g1225 5 j rfl rfl)) (fun j => (g1240 7 j rfl rfl).trans (g1225 7 j rfl rfl)) (fun j => (g1240 8 j rfl rfl).trans (g1225 8 j rfl rfl)) (fun j => (g1240 9 j rfl rfl).trans (g1225 9 j rfl rfl)) (fun j => (g1240 42 j rfl rfl).trans (g1225 42 j rfl rfl)) (fun j => (g1240 43 j rfl rfl).trans (g1225 43 j rfl rfl)) (fun j => (g1240 44 j rfl rfl).trans (g1225 44 j rfl rfl)) (fun j => (g1240 46 j rfl rfl).trans (g1225 46 j rfl rfl)) (fun j => (g1240 47 j rfl rfl).trans (g1225 47 j rfl rfl)) (fun j => (g1240 48 j rfl rfl).trans (g1225 48 j rfl rfl)) ((y1240_0_14).trans (y1225_0_14)) ((y1240_0_19).trans (y1225_0_19)) ((y1240_0_22).trans (y1225_0_22))
  replace gV : TGV h1240 := TGV_of gV1 (fun j => (g1240 34 j rfl rfl).trans (g1225 34 j rfl rfl)) (fun j => (g1240 37 j rfl rfl).trans (g1225 37 j rfl rfl)) ((y1240_0_22).trans (y1225_0_22))
  replace gE : TGE h1240 := TGE_of gE1 (fun j => (g1240 3 j rfl rfl).trans (g1225 3 j rfl rfl)) (fun j => (g1240 7 j rfl rfl).trans (g1225 7 j rfl rfl)) ((y1240_0_14).trans (y1225_0_14)) ((y1240_0_19).trans (y1225_0_19)) ((y1240_0_22).trans (y1225_0_22))
  replace gS : TGS h1240 := TGS_of gS1 (fun j => (g1240 3 j rfl rfl).trans (g1225 3 j rfl rfl)) (fun j => (g1240 4 j rfl rfl).trans (g1225 4 j rfl rfl)) (fun j => (g1240 5 j rfl rfl).trans (g1225 5 j rfl rfl)) (fun j => (g1240 7 j rfl rfl).trans (g1225 7 j rfl rfl)) (fun j => (g1240 8 j rfl rfl).trans (g1225 8 j rfl rfl)) (fun j => (g1240 9 j rfl rfl).trans (g1225 9 j rfl rfl)) ((y1240_0_14).trans (y1225_0_14)) ((y1240_0_19).trans (y1225_0_19)) ((y1240_0_22).trans (y1225_0_22))
  have qe1234 : v1234 = v1219 := by rw [q1234, q1219]
  have qe1239 : v1239 = v1224 := by rw [q1239, q1224]
  replace gP : TGP h1240 := by
    have hT2 := hT1
    unfold TI at hT2
    have k1 := KRw hR; have k2 := KRh hR
    clear hcs hm hi
    exact ⟨pR1240, pC1240⟩
  replace gF : TGF h1240 := TGF_of gF1 (fun j => (g1240 3 j rfl rfl).trans (g1225 3 j rfl rfl)) (fun j => (g1240 7 j rfl rfl).trans (g1225 7 j rfl rfl)) ((y1240_41_1).trans (y1225_41_1)) ((y1240_0_14).trans (y1225_0_14)) ((y1240_45_1).trans (y1225_45_1)) ((y1240_0_19).trans (y1225_0_19)) ((y1240_0_22).trans (y1225_0_22))
  replace gT : TGT h1240 := TGT_of gT1 (fun j => (g1240 2 j rfl rfl).trans (g1225 2 j rfl rfl)) (fun j => (g1240 40 j rfl rfl).trans (g1225 40 j rfl rfl)) ((y1240_39_1).trans (y1225_39_1)) ((y1240_0_21).trans (y1225_0_21)) ((y1240_0_11).trans (y1225_0_11)) ((y1240_0_12).trans (y1225_0_12))
  show zL _ _ _ (.inl r1240 :: []) _
  refine zL_pop (pc' := 1244) dL_1243 rfl rfl ?_
  refine zL_goto (tgt := 1581) dL_1244 rfl ?_
  exact nx _ hS hR hC hT gA gB gC gD gR gV gE gS gP gF gT
set_option maxHeartbeats 4000000 in
theorem lc_27 {Γ : Lc} {i : Int} {h : Hp} (hX : XI Γ.1) (hcs : Γ.2.2.2.2.2.1 ≤ room_1.cells ∧ Γ.2.2.2.2.2.2 ≤ room_1.slots) (hm : Γ.2.2.1 < 2147483648) (hi : 0 ≤ i ∧ i + 6 ≤ Γ.2.2.1) (hS : SI h) (hR : KR h) (hC : KC h) (hT : TI h) (gA : TGA h) (gB : TGB h) (gC : TGC h) (gD : TGD h) (gR : TGR h) (gV : TGV h) (gE : TGE h) (gS : TGS h) (gP : TGP h) (gF : TGF h) (gT : TGT h) (nx : ∀ h' : Hp, SI h' → KR h' → KC h' → TI h' → TGA h' → TGB h' → TGC h' → TGD h' → TGR h' → TGV h' → TGE h' → TGS h' → TGP h' → TGF h' → TGT h' → zL Γ 1581 (lsL i) [] h') : zL Γ 1247 (lsL i) [] h := by
  have hR0 := hR; have hC0 := hC
  refine zL_aload_n (pc' := 1248) dL_1247 rfl rfl ?_
  refine zL_aload_n (pc' := 1249) dL_1248 rfl rfl ?_
  refine zL_iload_n (pc' := 1250) dL_1249 rfl rfl ?_
  refine zL_iconst (pc' := 1251) dL_1250 rfl ?_
  refine zL_iadd (pc' := 1252) dL_1251 rfl ?_
  refine zL_sldE (pc' := 1253) (by omega) hm dL_1252 rfl (fun v1252 e1252 q1252 => ?_)
  refine zL_aload_n (pc' := 1254) dL_1253 rfl rfl ?_
  refine zL_iload_n (pc' := 1255) dL_1254 rfl rfl ?_
  refine zL_iconst (pc' := 1256) dL_1255 rfl ?_
  refine zL_iadd (pc' := 1257) dL_1256 rfl ?_
  refine zL_sldE (pc' := 1258) (by omega) hm dL_1257 rfl (fun v1257 e1257 q1257 => ?_)
  refine zL_aload_n (pc' := 1259) dL_1258 rfl rfl ?_
  refine zL_iload_n (pc' := 1260) dL_1259 rfl rfl ?_
  refine zL_iconst (pc' := 1261) dL_1260 rfl ?_
  refine zL_iadd (pc' := 1262) dL_1261 rfl ?_
  refine zL_sldE (pc' := 1263) (by omega) hm dL_1262 rfl (fun v1262 e1262 q1262 => ?_)
  have iP : IPW h := IPW_of hR hC hT gA gV gE gS gD gR gP
  refine zL_inv (pc' := 1266) hcs kX11_error vX11_error lk_L_129 ⟨Nat.le_of_ble_eq_true rfl, Nat.le_of_ble_eq_true rfl⟩ tb30 vq11 rfl [_, _, _] (s_X11_errorZ (b := bW) (κ := _) hC (Fr.rf (b := bW) hS iP) _ ⟨e1252.1, e1252.2⟩ _ ⟨e1257.1, e1257.2⟩ _ ⟨e1262.1, e1262.2⟩ shW_ iP.2.1.2 iP.2.2.1.2 (hfB_of gD gR gF) (TrB_C hR hT gT) (by have z := gT.2.1; have z1 := gT.1; omega)) dL_1263 rfl (Nat.le_of_ble_eq_true rfl) rfl ?_
  rintro r1263 h1263 ⟨f1263, p1263⟩; have g1263 : ∀ k i, key k i = true → inW ([] : List (Nat × Nat)) k i = false → h1263 k i = h k i := fun k i hk _ => f1263.1 k i hk
  replace iP : IPW h1263 := f1263.inv; replace hS := f1263.2.2; replace hR := KR_tr hR f1263; replace hC := KC_tr hC f1263; have pR1263 := iP.1.1; have pC1263 := iP.1.2
  have y1263_0_25 : h1263 0 25 = h 0 25 := g1263 0 25 rfl rfl
  have y1263_31_1 : h1263 31 1 = h 31 1 := g1263 31 1 rfl rfl
  have y1263_33_0 : h1263 33 0 = h 33 0 := g1263 33 0 rfl rfl
  have y1263_33_1 : h1263 33 1 = h 33 1 := g1263 33 1 rfl rfl
  have y1263_33_2 : h1263 33 2 = h 33 2 := g1263 33 2 rfl rfl
  have y1263_0_11 : h1263 0 11 = h 0 11 := g1263 0 11 rfl rfl
  have y1263_0_12 : h1263 0 12 = h 0 12 := g1263 0 12 rfl rfl
  have y1263_0_13 : h1263 0 13 = h 0 13 := g1263 0 13 rfl rfl
  have y1263_30_11 : h1263 30 11 = h 30 11 := g1263 30 11 rfl rfl
  have y1263_0_22 : h1263 0 22 = h 0 22 := g1263 0 22 rfl rfl
  have y1263_36_0 : h1263 36 0 = h 36 0 := g1263 36 0 rfl rfl
  have y1263_36_1 : h1263 36 1 = h 36 1 := g1263 36 1 rfl rfl
  have y1263_36_2 : h1263 36 2 = h 36 2 := g1263 36 2 rfl rfl
  have y1263_0_16 : h1263 0 16 = h 0 16 := g1263 0 16 rfl rfl
  have y1263_0_17 : h1263 0 17 = h 0 17 := g1263 0 17 rfl rfl
  have y1263_0_18 : h1263 0 18 = h 0 18 := g1263 0 18 rfl rfl
  have y1263_0_14 : h1263 0 14 = h 0 14 := g1263 0 14 rfl rfl
  have y1263_0_15 : h1263 0 15 = h 0 15 := g1263 0 15 rfl rfl
  have y1263_0_19 : h1263 0 19 = h 0 19 := g1263 0 19 rfl rfl
  have y1263_0_20 : h1263 0 20 = h 0 20 := g1263 0 20 rfl rfl
  have y1263_0_21 : h1263 0 21 = h 0 21 := g1263 0 21 rfl rfl
  have y1263_30_10 : h1263 30 10 = h 30 10 := g1263 30 10 rfl rfl
  have y1263_30_12 : h1263 30 12 = h 30 12 := g1263 30 12 rfl rfl
  have y1263_39_1 : h1263 39 1 = h 39 1 := g1263 39 1 rfl rfl
  have y1263_41_0 : h1263 41 0 = h 41 0 := g1263 41 0 rfl rfl
  have y1263_41_1 : h1263 41 1 = h 41 1 := g1263 41 1 rfl rfl
  have y1263_45_0 : h1263 45 0 = h 45 0 := g1263 45 0 rfl rfl
  have y1263_45_1 : h1263 45 1 = h 45 1 := g1263 45 1 rfl rfl
  have hT1 := hT; have gA1 := gA; have gB1 := gB; have gC1 := gC; have gD1 := gD; have gR1 := gR; have gV1 := gV; have gE1 := gE; have gS1 := gS; have gP1 := gP; have gF1 := gF; have gT1 := gT
  show zL _ _ _ (.inr (.inl r1263) :: []) _
  refine zL_aload_n (pc' := 1267) dL_1266 rfl rfl ?_
  refine zL_aload_n (pc' := 1268) dL_1267 rfl rfl ?_
  refine zL_iload_n (pc' := 1269) dL_1268 rfl rfl ?_
  refine zL_iconst (pc' := 1270) dL_1269 rfl ?_
  refine zL_iadd (pc' := 1271) dL_1270 rfl ?_
  refine zL_sldE (pc' := 1272) (by omega) hm dL_1271 rfl (fun v1271 e1271 q1271 => ?_)
  refine zL_aload_n (pc' := 1273) dL_1272 rfl rfl ?_
  refine zL_iload_n (pc' := 1274) dL_1273 rfl rfl ?_
  refine zL_iconst (pc' := 1275) dL_1274 rfl ?_
  refine zL_iadd (pc' := 1276) dL_1275 rfl ?_
  refine zL_sldE (pc' := 1277) (by omega) hm dL_1276 rfl (fun v1276 e1276 q1276 => ?_)
  refine zL_aload_n (pc' := 1278) dL_1277 rfl rfl ?_
  refine zL_iload_n (pc' := 1279) dL_1278 rfl rfl ?_
  refine zL_iconst (pc' := 1280) dL_1279 rfl ?_
  refine zL_iadd (pc' := 1281) dL_1280 rfl ?_
  refine zL_sldE (pc' := 1282) (by omega) hm dL_1281 rfl (fun v1281 e1281 q1281 => ?_)
  refine zL_inv (pc' := 1285) hcs kX12_error vX12_error lk_L_133 ⟨Nat.le_of_ble_eq_true rfl, Nat.le_of_ble_eq_true rfl⟩ tb0 vq12 rfl [_, _, _] (s_X12_errorZ (b := bW) (κ := _) hR (Fr.rf (b := bW.fo) hS iP) _ ⟨e1271.1, e1271.2⟩ _ ⟨e1276.1, e1276.2⟩ _ ⟨e1281.1, e1281.2⟩ lvW iP.2.1.1 iP.2.2.1.1 (TrB_R g1263 hR0 gT1)) dL_1282 rfl (Nat.le_of_ble_eq_true rfl) rfl ?_
  rintro r1282 h1282 ⟨f1282, p1282⟩; have g1282 : ∀ k i, key k i = true → inW ([] : List (Nat × Nat)) k i = false → h1282 k i = h1263 k i := fun k i hk _ => f1282.1 k i hk
  replace iP : IPW h1282 := f1282.inv; replace hS := f1282.2.2; replace hR := KR_tr hR f1282; replace hC := KC_tr hC f1282; have pR1282 := iP.1.1; have pC1282 := iP.1.2
  have y1282_0_25 : h1282 0 25 = h1263 0 25 := g1282 0 25 rfl rfl
  have y1282_31_1 : h1282 31 1 = h1263 31 1 := g1282 31 1 rfl rfl
  have y1282_33_0 : h1282 33 0 = h1263 33 0 := g1282 33 0 rfl rfl
  have y1282_33_1 : h1282 33 1 = h1263 33 1 := g1282 33 1 rfl rfl
  have y1282_33_2 : h1282 33 2 = h1263 33 2 := g1282 33 2 rfl rfl
  have y1282_0_11 : h1282 0 11 = h1263 0 11 := g1282 0 11 rfl rfl
  have y1282_0_12 : h1282 0 12 = h1263 0 12 := g1282 0 12 rfl rfl
  have y1282_0_13 : h1282 0 13 = h1263 0 13 := g1282 0 13 rfl rfl
  have y1282_30_11 : h1282 30 11 = h1263 30 11 := g1282 30 11 rfl rfl
  have y1282_0_22 : h1282 0 22 = h1263 0 22 := g1282 0 22 rfl rfl
  have y1282_36_0 : h1282 36 0 = h1263 36 0 := g1282 36 0 rfl rfl
  have y1282_36_1 : h1282 36 1 = h1263 36 1 := g1282 36 1 rfl rfl
  have y1282_36_2 : h1282 36 2 = h1263 36 2 := g1282 36 2 rfl rfl
  have y1282_0_16 : h1282 0 16 = h1263 0 16 := g1282 0 16 rfl rfl
  have y1282_0_17 : h1282 0 17 = h1263 0 17 := g1282 0 17 rfl rfl
  have y1282_0_18 : h1282 0 18 = h1263 0 18 := g1282 0 18 rfl rfl
  have y1282_0_14 : h1282 0 14 = h1263 0 14 := g1282 0 14 rfl rfl
  have y1282_0_15 : h1282 0 15 = h1263 0 15 := g1282 0 15 rfl rfl
  have y1282_0_19 : h1282 0 19 = h1263 0 19 := g1282 0 19 rfl rfl
  have y1282_0_20 : h1282 0 20 = h1263 0 20 := g1282 0 20 rfl rfl
  have y1282_0_21 : h1282 0 21 = h1263 0 21 := g1282 0 21 rfl rfl
  have y1282_30_10 : h1282 30 10 = h1263 30 10 := g1282 30 10 rfl rfl
  have y1282_30_12 : h1282 30 12 = h1263 30 12 := g1282 30 12 rfl rfl
  have y1282_39_1 : h1282 39 1 = h1263 39 1 := g1282 39 1 rfl rfl
  have y1282_41_0 : h1282 41 0 = h1263 41 0 := g1282 41 0 rfl rfl
  have y1282_41_1 : h1282 41 1 = h1263 41 1 := g1282 41 1 rfl rfl
  have y1282_45_0 : h1282 45 0 = h1263 45 0 := g1282 45 0 rfl rfl
  have y1282_45_1 : h1282 45 1 = h1263 45 1 := g1282 45 1 rfl rfl
  replace hT : TI h1282 := TI_of hT1 (y1282_0_25.trans y1263_0_25) (y1282_31_1.trans y1263_31_1) (y1282_33_0.trans y1263_33_0) (y1282_33_1.trans y1263_33_1) (y1282_33_2.trans y1263_33_2) (y1282_0_11.trans y1263_0_11) (y1282_0_12.trans y1263_0_12) (y1282_0_13.trans y1263_0_13) (y1282_30_11.trans y1263_30_11) (y1282_0_22.trans y1263_0_22) (y1282_36_0.trans y1263_36_0) (y1282_36_1.trans y1263_36_1) (y1282_36_2.trans y1263_36_2) (y1282_0_16.trans y1263_0_16) (y1282_0_17.trans y1263_0_17) (y1282_0_18.trans y1263_0_18)
  replace gA : TGA h1282 := TGA_of gA1 (fun j => (g1282 1 j rfl rfl).trans (g1263 1 j rfl rfl)) (fun j => (g1282 34 j rfl rfl).trans (g1263 34 j rfl rfl)) (fun j => (g1282 10 j rfl rfl).trans (g1263 10 j rfl rfl)) (fun j => (g1282 35 j rfl rfl).trans (g1263 35 j rfl rfl)) (fun j => (g1282 6 j rfl rfl).trans (g1263 6 j rfl rfl)) (fun j => (g1282 37 j rfl rfl).trans (g1263 37 j rfl rfl)) (fun j => (g1282 11 j rfl rfl).trans (g1263 11 j rfl rfl)) (fun j => (g1282 38 j rfl rfl).trans (g1263 38 j rfl rfl)) ((y1282_0_11).trans (y1263_0_11)) ((y1282_0_12).trans (y1263_0_12)) ((y1282_0_16).trans (y1263_0_16)) ((y1282_0_17).trans (y1263_0_17)) ((y1282_0_22).trans (y1263_0_22))
  replace gB : TGB h1282 := TGB_of gB1 (fun j => (g1282 12 j rfl rfl).trans (g1263 12 j rfl rfl)) (fun j => (g1282 32 j rfl rfl).trans (g1263 32 j rfl rfl)) ((y1282_0_25).trans (y1263_0_25))
  replace gC : TGC h1282 := TGC_of gC1  ((y1282_0_15).trans (y1263_0_15)) ((y1282_30_12).trans (y1263_30_12)) ((y1282_0_11).trans (y1263_0_11)) ((y1282_0_12).trans (y1263_0_12)) ((y1282_0_20).trans (y1263_0_20)) ((y1282_30_10).trans (y1263_30_10)) ((y1282_0_16).trans (y1263_0_16)) ((y1282_0_17).trans (y1263_0_17)) ((y1282_0_22).trans (y1263_0_22))
  replace gD : TGD h1282 := TGD_of gD1  ((y1282_41_0).trans (y1263_41_0)) ((y1282_0_14).trans (y1263_0_14)) ((y1282_45_0).trans (y1263_45_0)) ((y1282_0_19).trans (y1263_0_19)) ((y1282_0_22).trans (y1263_0_22))
  replace gR : TGR h1282 := TGR_of gR1 (fun j => (g1282 3 j rfl rfl).trans (g1263 3 j rfl rfl)) (fun j => (g1282 4 j rfl rfl).trans (g1263 4 j rfl rfl)) (fun j => (g1282 5 j rfl rfl).trans (g1263 5 j rfl rfl)) (fun j => (g1282 7 j rfl rfl).trans (g1263 7 j rfl rfl)) (fun j => (g1282 8 j rfl rfl).trans (g1263 8 j rfl rfl)) (fun j => (g1282 9 j rfl rfl).trans (g1263 9 j rfl rfl)) (fun j => (g1282 42 j rfl rfl).trans (g1263 42 j rfl rfl)) (fun j => (g1282 43 j rfl rfl).trans (g1263 43 j rfl rfl)) (fun j => (g1282 44 j rfl rfl).trans (g1263 44 j rfl rfl)) (fun j => (g1282 46 j rfl rfl).trans (g1263 46 j rfl rfl)) (fun j => (g1282 47 j rfl rfl).trans (g1263 47 j rfl rfl)) (fun j => (g1282 48 j rfl rfl).trans (g1263 48 j rfl rfl)) ((y1282_0_14).trans (y1263_0_14)) ((y1282_0_19).trans (y1263_0_19)) ((y1282_0_22).trans (y1263_0_22))
  replace gV : TGV h1282 := TGV_of gV1 (fun j => (g1282 34 j rfl rfl).trans (g1263 34 j rfl rfl)) (fun j => (g1282 37 j rfl rfl).trans (g1263 37 j rfl rfl)) ((y1282_0_22).trans (y1263_0_22))
  replace gE : TGE h1282 := TGE_of gE1 (fun j => (g1282 3 j rfl rfl).trans (g1263 3 j rfl rfl)) (fun j => (g1282 7 j rfl rfl).trans (g1263 7 j rfl rfl)) ((y1282_0_14).trans (y1263_0_14)) ((y1282_0_19).trans (y1263_0_19)) ((y1282_0_22).trans (y1263_0_22))
  replace gS : TGS h1282 := TGS_of gS1 (fun j => (g1282 3 j rfl rfl).trans (g1263 3 j rfl rfl)) (fun j => (g1282 4 j rfl rfl).trans (g1263 4 j rfl rfl)) (fun j => (g1282 5 j rfl rfl).trans (g1263 5 j rfl rfl)) (fun j => (g1282 7 j rfl rfl).trans (g1263 7 j rfl rfl)) (fun j => (g1282 8 j rfl rfl).trans (g1263 8 j rfl rfl)) (fun j => (g1282 9 j rfl rfl).trans (g1263 9 j rfl rfl)) ((y1282_0_14).trans (y1263_0_14)) ((y1282_0_19).trans (y1263_0_19)) ((y1282_0_22).trans (y1263_0_22))
  have qe1271 : v1271 = v1252 := by rw [q1271, q1252]
  have qe1276 : v1276 = v1257 := by rw [q1276, q1257]
  have qe1281 : v1281 = v1262 := by rw [q1281, q1262]
  replace gP : TGP h1282 := by
    have hT2 := hT1
    unfold TI at hT2
    have k1 := KRw hR; have k2 := KRh hR
    clear hcs hm hi
    exact ⟨pR1282, pC1282⟩
  replace gF : TGF h1282 := TGF_of gF1 (fun j => (g1282 3 j rfl rfl).trans (g1263 3 j rfl rfl)) (fun j => (g1282 7 j rfl rfl).trans (g1263 7 j rfl rfl)) ((y1282_41_1).trans (y1263_41_1)) ((y1282_0_14).trans (y1263_0_14)) ((y1282_45_1).trans (y1263_45_1)) ((y1282_0_19).trans (y1263_0_19)) ((y1282_0_22).trans (y1263_0_22))
  replace gT : TGT h1282 := TGT_of gT1 (fun j => (g1282 2 j rfl rfl).trans (g1263 2 j rfl rfl)) (fun j => (g1282 40 j rfl rfl).trans (g1263 40 j rfl rfl)) ((y1282_39_1).trans (y1263_39_1)) ((y1282_0_21).trans (y1263_0_21)) ((y1282_0_11).trans (y1263_0_11)) ((y1282_0_12).trans (y1263_0_12))
  show zL _ _ _ (.inr (.inl r1282) :: .inr (.inl r1263) :: []) _
  have qq1271 : v1271 = v1252 := by rw [q1271, q1252]
  have qq1276 : v1276 = v1257 := by rw [q1276, q1257]
  have qq1281 : v1281 = v1262 := by rw [q1281, q1262]
  have hT0 := hT1
  have rr : r1263 = r1282 := by
    rw [p1263, p1282, qq1271, qq1276, qq1281]
    exact tieW4 (fun W H P n lt bh pc nm tf tr => erQ W H P n lt bh pc nm tf tr v1252 v1257 v1262) g1263 hR0 hT0 gA1 gD1 gR1 gT1
  refine zL_lcmpE (tgt := 1581) dL_1285 dL_1286 rfl rr ?_
  exact nx _ hS hR hC hT gA gB gC gD gR gV gE gS gP gF gT
set_option maxHeartbeats 4000000 in
theorem lc_28 {Γ : Lc} {i : Int} {h : Hp} (hX : XI Γ.1) (hcs : Γ.2.2.2.2.2.1 ≤ room_1.cells ∧ Γ.2.2.2.2.2.2 ≤ room_1.slots) (hm : Γ.2.2.1 < 2147483648) (hi : 0 ≤ i ∧ i + 6 ≤ Γ.2.2.1) (hS : SI h) (hR : KR h) (hC : KC h) (hT : TI h) (gA : TGA h) (gB : TGB h) (gC : TGC h) (gD : TGD h) (gR : TGR h) (gV : TGV h) (gE : TGE h) (gS : TGS h) (gP : TGP h) (gF : TGF h) (gT : TGT h) (nx : ∀ h' : Hp, SI h' → KR h' → KC h' → TI h' → TGA h' → TGB h' → TGC h' → TGD h' → TGR h' → TGV h' → TGE h' → TGS h' → TGP h' → TGF h' → TGT h' → zL Γ 1581 (lsL i) [] h') : zL Γ 1291 (lsL i) [] h := by
  refine zL_aload_n (pc' := 1292) dL_1291 rfl rfl ?_
  refine zL_aload_n (pc' := 1293) dL_1292 rfl rfl ?_
  refine zL_iload_n (pc' := 1294) dL_1293 rfl rfl ?_
  refine zL_iconst (pc' := 1295) dL_1294 rfl ?_
  refine zL_iadd (pc' := 1296) dL_1295 rfl ?_
  refine zL_sldE (pc' := 1297) (by omega) hm dL_1296 rfl (fun v1296 e1296 q1296 => ?_)
  refine zL_aload_n (pc' := 1298) dL_1297 rfl rfl ?_
  refine zL_iload_n (pc' := 1299) dL_1298 rfl rfl ?_
  refine zL_iconst (pc' := 1300) dL_1299 rfl ?_
  refine zL_iadd (pc' := 1301) dL_1300 rfl ?_
  refine zL_sldE (pc' := 1302) (by omega) hm dL_1301 rfl (fun v1301 e1301 q1301 => ?_)
  have iP : IPW h := IPW_of hR hC hT gA gV gE gS gD gR gP
  refine zL_inv (pc' := 1305) hcs kX11_falseOnes vX11_falseOnes lk_L_134 ⟨Nat.le_of_ble_eq_true rfl, Nat.le_of_ble_eq_true rfl⟩ tb30 vq11 rfl [_, _] (s_X11_falseOnes (b := bW) (κ := _) hC (Fr.rf (b := bW) hS iP) _ ⟨e1296.1, e1296.2⟩ _ ⟨e1301.1, e1301.2⟩ shW_.ok) dL_1302 rfl (Nat.le_of_ble_eq_true rfl) rfl ?_
  rintro r1302 h1302 ⟨f1302, p1302⟩; have g1302 : ∀ k i, key k i = true → inW ([] : List (Nat × Nat)) k i = false → h1302 k i = h k i := fun k i hk _ => f1302.1 k i hk
  replace iP : IPW h1302 := f1302.inv; replace hS := f1302.2.2; replace hR := KR_tr hR f1302; replace hC := KC_tr hC f1302; have pR1302 := iP.1.1; have pC1302 := iP.1.2
  have y1302_0_25 : h1302 0 25 = h 0 25 := g1302 0 25 rfl rfl
  have y1302_31_1 : h1302 31 1 = h 31 1 := g1302 31 1 rfl rfl
  have y1302_33_0 : h1302 33 0 = h 33 0 := g1302 33 0 rfl rfl
  have y1302_33_1 : h1302 33 1 = h 33 1 := g1302 33 1 rfl rfl
  have y1302_33_2 : h1302 33 2 = h 33 2 := g1302 33 2 rfl rfl
  have y1302_0_11 : h1302 0 11 = h 0 11 := g1302 0 11 rfl rfl
  have y1302_0_12 : h1302 0 12 = h 0 12 := g1302 0 12 rfl rfl
  have y1302_0_13 : h1302 0 13 = h 0 13 := g1302 0 13 rfl rfl
  have y1302_30_11 : h1302 30 11 = h 30 11 := g1302 30 11 rfl rfl
  have y1302_0_22 : h1302 0 22 = h 0 22 := g1302 0 22 rfl rfl
  have y1302_36_0 : h1302 36 0 = h 36 0 := g1302 36 0 rfl rfl
  have y1302_36_1 : h1302 36 1 = h 36 1 := g1302 36 1 rfl rfl
  have y1302_36_2 : h1302 36 2 = h 36 2 := g1302 36 2 rfl rfl
  have y1302_0_16 : h1302 0 16 = h 0 16 := g1302 0 16 rfl rfl
  have y1302_0_17 : h1302 0 17 = h 0 17 := g1302 0 17 rfl rfl
  have y1302_0_18 : h1302 0 18 = h 0 18 := g1302 0 18 rfl rfl
  have y1302_0_14 : h1302 0 14 = h 0 14 := g1302 0 14 rfl rfl
  have y1302_0_15 : h1302 0 15 = h 0 15 := g1302 0 15 rfl rfl
  have y1302_0_19 : h1302 0 19 = h 0 19 := g1302 0 19 rfl rfl
  have y1302_0_20 : h1302 0 20 = h 0 20 := g1302 0 20 rfl rfl
  have y1302_0_21 : h1302 0 21 = h 0 21 := g1302 0 21 rfl rfl
  have y1302_30_10 : h1302 30 10 = h 30 10 := g1302 30 10 rfl rfl
  have y1302_30_12 : h1302 30 12 = h 30 12 := g1302 30 12 rfl rfl
  have y1302_39_1 : h1302 39 1 = h 39 1 := g1302 39 1 rfl rfl
  have y1302_41_0 : h1302 41 0 = h 41 0 := g1302 41 0 rfl rfl
  have y1302_41_1 : h1302 41 1 = h 41 1 := g1302 41 1 rfl rfl
  have y1302_45_0 : h1302 45 0 = h 45 0 := g1302 45 0 rfl rfl
  have y1302_45_1 : h1302 45 1 = h 45 1 := g1302 45 1 rfl rfl
  have hT1 := hT; have gA1 := gA; have gB1 := gB; have gC1 := gC; have gD1 := gD; have gR1 := gR; have gV1 := gV; have gE1 := gE; have gS1 := gS; have gP1 := gP; have gF1 := gF; have gT1 := gT
  show zL _ _ _ (.inl r1302 :: []) _
  refine zL_pop (pc' := 1306) dL_1305 rfl rfl ?_
  refine zL_aload_n (pc' := 1307) dL_1306 rfl rfl ?_
  refine zL_aload_n (pc' := 1308) dL_1307 rfl rfl ?_
  refine zL_iload_n (pc' := 1309) dL_1308 rfl rfl ?_
  refine zL_iconst (pc' := 1310) dL_1309 rfl ?_
  refine zL_iadd (pc' := 1311) dL_1310 rfl ?_
  refine zL_sldE (pc' := 1312) (by omega) hm dL_1311 rfl (fun v1311 e1311 q1311 => ?_)
  refine zL_aload_n (pc' := 1313) dL_1312 rfl rfl ?_
  refine zL_iload_n (pc' := 1314) dL_1313 rfl rfl ?_
  refine zL_iconst (pc' := 1315) dL_1314 rfl ?_
  refine zL_iadd (pc' := 1316) dL_1315 rfl ?_
  refine zL_sldE (pc' := 1317) (by omega) hm dL_1316 rfl (fun v1316 e1316 q1316 => ?_)
  refine zL_inv (pc' := 1320) hcs kX12_falseOnes vX12_falseOnes lk_L_137 ⟨Nat.le_of_ble_eq_true rfl, Nat.le_of_ble_eq_true rfl⟩ tb0 vq12 rfl [_, _] (s_X12_falseOnes (b := bW) (κ := _) hR (Fr.rf (b := bW.fo) hS iP) _ ⟨e1311.1, e1311.2⟩ _ ⟨e1316.1, e1316.2⟩ lvW.ok) dL_1317 rfl (Nat.le_of_ble_eq_true rfl) rfl ?_
  rintro r1317 h1317 ⟨f1317, p1317⟩; have g1317 : ∀ k i, key k i = true → inW ([] : List (Nat × Nat)) k i = false → h1317 k i = h1302 k i := fun k i hk _ => f1317.1 k i hk
  replace iP : IPW h1317 := f1317.inv; replace hS := f1317.2.2; replace hR := KR_tr hR f1317; replace hC := KC_tr hC f1317; have pR1317 := iP.1.1; have pC1317 := iP.1.2
  have y1317_0_25 : h1317 0 25 = h1302 0 25 := g1317 0 25 rfl rfl
  have y1317_31_1 : h1317 31 1 = h1302 31 1 := g1317 31 1 rfl rfl
  have y1317_33_0 : h1317 33 0 = h1302 33 0 := g1317 33 0 rfl rfl
  have y1317_33_1 : h1317 33 1 = h1302 33 1 := g1317 33 1 rfl rfl
  have y1317_33_2 : h1317 33 2 = h1302 33 2 := g1317 33 2 rfl rfl
  have y1317_0_11 : h1317 0 11 = h1302 0 11 := g1317 0 11 rfl rfl
  have y1317_0_12 : h1317 0 12 = h1302 0 12 := g1317 0 12 rfl rfl
  have y1317_0_13 : h1317 0 13 = h1302 0 13 := g1317 0 13 rfl rfl
  have y1317_30_11 : h1317 30 11 = h1302 30 11 := g1317 30 11 rfl rfl
  have y1317_0_22 : h1317 0 22 = h1302 0 22 := g1317 0 22 rfl rfl
  have y1317_36_0 : h1317 36 0 = h1302 36 0 := g1317 36 0 rfl rfl
  have y1317_36_1 : h1317 36 1 = h1302 36 1 := g1317 36 1 rfl rfl
  have y1317_36_2 : h1317 36 2 = h1302 36 2 := g1317 36 2 rfl rfl
  have y1317_0_16 : h1317 0 16 = h1302 0 16 := g1317 0 16 rfl rfl
  have y1317_0_17 : h1317 0 17 = h1302 0 17 := g1317 0 17 rfl rfl
  have y1317_0_18 : h1317 0 18 = h1302 0 18 := g1317 0 18 rfl rfl
  have y1317_0_14 : h1317 0 14 = h1302 0 14 := g1317 0 14 rfl rfl
  have y1317_0_15 : h1317 0 15 = h1302 0 15 := g1317 0 15 rfl rfl
  have y1317_0_19 : h1317 0 19 = h1302 0 19 := g1317 0 19 rfl rfl
  have y1317_0_20 : h1317 0 20 = h1302 0 20 := g1317 0 20 rfl rfl
  have y1317_0_21 : h1317 0 21 = h1302 0 21 := g1317 0 21 rfl rfl
  have y1317_30_10 : h1317 30 10 = h1302 30 10 := g1317 30 10 rfl rfl
  have y1317_30_12 : h1317 30 12 = h1302 30 12 := g1317 30 12 rfl rfl
  have y1317_39_1 : h1317 39 1 = h1302 39 1 := g1317 39 1 rfl rfl
  have y1317_41_0 : h1317 41 0 = h1302 41 0 := g1317 41 0 rfl rfl
  have y1317_41_1 : h1317 41 1 = h1302 41 1 := g1317 41 1 rfl rfl
  have y1317_45_0 : h1317 45 0 = h1302 45 0 := g1317 45 0 rfl rfl
  have y1317_45_1 : h1317 45 1 = h1302 45 1 := g1317 45 1 rfl rfl
  replace hT : TI h1317 := TI_of hT1 (y1317_0_25.trans y1302_0_25) (y1317_31_1.trans y1302_31_1) (y1317_33_0.trans y1302_33_0) (y1317_33_1.trans y1302_33_1) (y1317_33_2.trans y1302_33_2) (y1317_0_11.trans y1302_0_11) (y1317_0_12.trans y1302_0_12) (y1317_0_13.trans y1302_0_13) (y1317_30_11.trans y1302_30_11) (y1317_0_22.trans y1302_0_22) (y1317_36_0.trans y1302_36_0) (y1317_36_1.trans y1302_36_1) (y1317_36_2.trans y1302_36_2) (y1317_0_16.trans y1302_0_16) (y1317_0_17.trans y1302_0_17) (y1317_0_18.trans y1302_0_18)
  replace gA : TGA h1317 := TGA_of gA1 (fun j => (g1317 1 j rfl rfl).trans (g1302 1 j rfl rfl)) (fun j => (g1317 34 j rfl rfl).trans (g1302 34 j rfl rfl)) (fun j => (g1317 10 j rfl rfl).trans (g1302 10 j rfl rfl)) (fun j => (g1317 35 j rfl rfl).trans (g1302 35 j rfl rfl)) (fun j => (g1317 6 j rfl rfl).trans (g1302 6 j rfl rfl)) (fun j => (g1317 37 j rfl rfl).trans (g1302 37 j rfl rfl)) (fun j => (g1317 11 j rfl rfl).trans (g1302 11 j rfl rfl)) (fun j => (g1317 38 j rfl rfl).trans (g1302 38 j rfl rfl)) ((y1317_0_11).trans (y1302_0_11)) ((y1317_0_12).trans (y1302_0_12)) ((y1317_0_16).trans (y1302_0_16)) ((y1317_0_17).trans (y1302_0_17)) ((y1317_0_22).trans (y1302_0_22))
  replace gB : TGB h1317 := TGB_of gB1 (fun j => (g1317 12 j rfl rfl).trans (g1302 12 j rfl rfl)) (fun j => (g1317 32 j rfl rfl).trans (g1302 32 j rfl rfl)) ((y1317_0_25).trans (y1302_0_25))
  replace gC : TGC h1317 := TGC_of gC1  ((y1317_0_15).trans (y1302_0_15)) ((y1317_30_12).trans (y1302_30_12)) ((y1317_0_11).trans (y1302_0_11)) ((y1317_0_12).trans (y1302_0_12)) ((y1317_0_20).trans (y1302_0_20)) ((y1317_30_10).trans (y1302_30_10)) ((y1317_0_16).trans (y1302_0_16)) ((y1317_0_17).trans (y1302_0_17)) ((y1317_0_22).trans (y1302_0_22))
  replace gD : TGD h1317 := TGD_of gD1  ((y1317_41_0).trans (y1302_41_0)) ((y1317_0_14).trans (y1302_0_14)) ((y1317_45_0).trans (y1302_45_0)) ((y1317_0_19).trans (y1302_0_19)) ((y1317_0_22).trans (y1302_0_22))
  replace gR : TGR h1317 := TGR_of gR1 (fun j => (g1317 3 j rfl rfl).trans (g1302 3 j rfl rfl)) (fun j => (g1317 4 j rfl rfl).trans (g1302 4 j rfl rfl)) (fun j => (g1317 5 j rfl rfl).trans (g1302 5 j rfl rfl)) (fun j => (g1317 7 j rfl rfl).trans (g1302 7 j rfl rfl)) (fun j => (g1317 8 j rfl rfl).trans (g1302 8 j rfl rfl)) (fun j => (g1317 9 j rfl rfl).trans (g1302 9 j rfl rfl)) (fun j => (g1317 42 j rfl rfl).trans (g1302 42 j rfl rfl)) (fun j => (g1317 43 j rfl rfl).trans (g1302 43 j rfl rfl)) (fun j => (g1317 44 j rfl rfl).trans (g1302 44 j rfl rfl)) (fun j => (g1317 46 j rfl rfl).trans (g1302 46 j rfl rfl)) (fun j => (g1317 47 j rfl rfl).trans (g1302 47 j rfl rfl)) (fun j => (g1317 48 j rfl rfl).trans (g1302 48 j rfl rfl)) ((y1317_0_14).trans (y1302_0_14)) ((y1317_0_19).trans (y1302_0_19)) ((y1317_0_22).trans (y1302_0_22))
  replace gV : TGV h1317 := TGV_of gV1 (fun j => (g1317 34 j rfl rfl).trans (g1302 34 j rfl rfl)) (fun j => (g1317 37 j rfl rfl).trans (g1302 37 j rfl rfl)) ((y1317_0_22).trans (y1302_0_22))
  replace gE : TGE h1317 := TGE_of gE1 (fun j => (g1317 3 j rfl rfl).trans (g1302 3 j rfl rfl)) (fun j => (g1317 7 j rfl rfl).trans (g1302 7 j rfl rfl)) ((y1317_0_14).trans (y1302_0_14)) ((y1317_0_19).trans (y1302_0_19)) ((y1317_0_22).trans (y1302_0_22))
  replace gS : TGS h1317 := TGS_of gS1 (fun j => (g1317 3 j rfl rfl).trans (g1302 3 j rfl rfl)) (fun j => (g1317 4 j rfl rfl).trans (g1302 4 j rfl rfl)) (fun j => (g1317 5 j rfl rfl).trans (g1302 5 j rfl rfl)) (fun j => (g1317 7 j rfl rfl).trans (g1302 7 j rfl rfl)) (fun j => (g1317 8 j rfl rfl).trans (g1302 8 j rfl rfl)) (fun j => (g1317 9 j rfl rfl).trans (g1302 9 j rfl rfl)) ((y1317_0_14).trans (y1302_0_14)) ((y1317_0_19).trans (y1302_0_19)) ((y1317_0_22).trans (y1302_0_22))
  have qe1311 : v1311 = v1296 := by rw [q1311, q1296]
  have qe1316 : v1316 = v1301 := by rw [q1316, q1301]
  replace gP : TGP h1317 := by
    have hT2 := hT1
    unfold TI at hT2
    have k1 := KRw hR; have k2 := KRh hR
    clear hcs hm hi
    exact ⟨pR1317, pC1317⟩
  replace gF : TGF h1317 := TGF_of gF1 (fun j => (g1317 3 j rfl rfl).trans (g1302 3 j rfl rfl)) (fun j => (g1317 7 j rfl rfl).trans (g1302 7 j rfl rfl)) ((y1317_41_1).trans (y1302_41_1)) ((y1317_0_14).trans (y1302_0_14)) ((y1317_45_1).trans (y1302_45_1)) ((y1317_0_19).trans (y1302_0_19)) ((y1317_0_22).trans (y1302_0_22))
  replace gT : TGT h1317 := TGT_of gT1 (fun j => (g1317 2 j rfl rfl).trans (g1302 2 j rfl rfl)) (fun j => (g1317 40 j rfl rfl).trans (g1302 40 j rfl rfl)) ((y1317_39_1).trans (y1302_39_1)) ((y1317_0_21).trans (y1302_0_21)) ((y1317_0_11).trans (y1302_0_11)) ((y1317_0_12).trans (y1302_0_12))
  show zL _ _ _ (.inl r1317 :: []) _
  refine zL_pop (pc' := 1321) dL_1320 rfl rfl ?_
  refine zL_goto (tgt := 1581) dL_1321 rfl ?_
  exact nx _ hS hR hC hT gA gB gC gD gR gV gE gS gP gF gT
set_option maxHeartbeats 4000000 in
theorem lc_29 {Γ : Lc} {i : Int} {h : Hp} (hX : XI Γ.1) (hcs : Γ.2.2.2.2.2.1 ≤ room_1.cells ∧ Γ.2.2.2.2.2.2 ≤ room_1.slots) (hm : Γ.2.2.1 < 2147483648) (hi : 0 ≤ i ∧ i + 6 ≤ Γ.2.2.1) (hS : SI h) (hR : KR h) (hC : KC h) (hT : TI h) (gA : TGA h) (gB : TGB h) (gC : TGC h) (gD : TGD h) (gR : TGR h) (gV : TGV h) (gE : TGE h) (gS : TGS h) (gP : TGP h) (gF : TGF h) (gT : TGT h) (nx : ∀ h' : Hp, SI h' → KR h' → KC h' → TI h' → TGA h' → TGB h' → TGC h' → TGD h' → TGR h' → TGV h' → TGE h' → TGS h' → TGP h' → TGF h' → TGT h' → zL Γ 1581 (lsL i) [] h') : zL Γ 1324 (lsL i) [] h := by
  refine zL_aload_n (pc' := 1325) dL_1324 rfl rfl ?_
  refine zL_aload_n (pc' := 1326) dL_1325 rfl rfl ?_
  refine zL_iload_n (pc' := 1327) dL_1326 rfl rfl ?_
  refine zL_iconst (pc' := 1328) dL_1327 rfl ?_
  refine zL_iadd (pc' := 1329) dL_1328 rfl ?_
  refine zL_sldE (pc' := 1330) (by omega) hm dL_1329 rfl (fun v1329 e1329 q1329 => ?_)
  refine zL_aload_n (pc' := 1331) dL_1330 rfl rfl ?_
  refine zL_iload_n (pc' := 1332) dL_1331 rfl rfl ?_
  refine zL_iconst (pc' := 1333) dL_1332 rfl ?_
  refine zL_iadd (pc' := 1334) dL_1333 rfl ?_
  refine zL_sldE (pc' := 1335) (by omega) hm dL_1334 rfl (fun v1334 e1334 q1334 => ?_)
  refine zL_aload_n (pc' := 1336) dL_1335 rfl rfl ?_
  refine zL_iload_n (pc' := 1337) dL_1336 rfl rfl ?_
  refine zL_iconst (pc' := 1338) dL_1337 rfl ?_
  refine zL_iadd (pc' := 1339) dL_1338 rfl ?_
  refine zL_sldE (pc' := 1340) (by omega) hm dL_1339 rfl (fun v1339 e1339 q1339 => ?_)
  refine zL_aload_n (pc' := 1341) dL_1340 rfl rfl ?_
  refine zL_iload_n (pc' := 1342) dL_1341 rfl rfl ?_
  refine zL_iconst (pc' := 1343) dL_1342 rfl ?_
  refine zL_iadd (pc' := 1344) dL_1343 rfl ?_
  refine zL_sldE (pc' := 1345) (by omega) hm dL_1344 rfl (fun v1344 e1344 q1344 => ?_)
  have iP : IPW h := IPW_of hR hC hT gA gV gE gS gD gR gP
  refine zL_inv (pc' := 1348) hcs kX11_places vX11_places lk_L_138 ⟨Nat.le_of_ble_eq_true rfl, Nat.le_of_ble_eq_true rfl⟩ tb30 vq11 rfl [_, _, _, _] (s_X11_places (b := bW) (κ := _) hC (Fr.rf (b := bW) hS iP) _ ⟨e1329.1, e1329.2⟩ _ ⟨e1334.1, e1334.2⟩ _ ⟨e1339.1, e1339.2⟩ _ ⟨e1344.1, e1344.2⟩ shW_.ok) dL_1345 rfl (Nat.le_of_ble_eq_true rfl) rfl ?_
  rintro r1345 h1345 ⟨f1345, p1345⟩; have g1345 : ∀ k i, key k i = true → inW ([] : List (Nat × Nat)) k i = false → h1345 k i = h k i := fun k i hk _ => f1345.1 k i hk
  replace iP : IPW h1345 := f1345.inv; replace hS := f1345.2.2; replace hR := KR_tr hR f1345; replace hC := KC_tr hC f1345; have pR1345 := iP.1.1; have pC1345 := iP.1.2
  have y1345_0_25 : h1345 0 25 = h 0 25 := g1345 0 25 rfl rfl
  have y1345_31_1 : h1345 31 1 = h 31 1 := g1345 31 1 rfl rfl
  have y1345_33_0 : h1345 33 0 = h 33 0 := g1345 33 0 rfl rfl
  have y1345_33_1 : h1345 33 1 = h 33 1 := g1345 33 1 rfl rfl
  have y1345_33_2 : h1345 33 2 = h 33 2 := g1345 33 2 rfl rfl
  have y1345_0_11 : h1345 0 11 = h 0 11 := g1345 0 11 rfl rfl
  have y1345_0_12 : h1345 0 12 = h 0 12 := g1345 0 12 rfl rfl
  have y1345_0_13 : h1345 0 13 = h 0 13 := g1345 0 13 rfl rfl
  have y1345_30_11 : h1345 30 11 = h 30 11 := g1345 30 11 rfl rfl
  have y1345_0_22 : h1345 0 22 = h 0 22 := g1345 0 22 rfl rfl
  have y1345_36_0 : h1345 36 0 = h 36 0 := g1345 36 0 rfl rfl
  have y1345_36_1 : h1345 36 1 = h 36 1 := g1345 36 1 rfl rfl
  have y1345_36_2 : h1345 36 2 = h 36 2 := g1345 36 2 rfl rfl
  have y1345_0_16 : h1345 0 16 = h 0 16 := g1345 0 16 rfl rfl
  have y1345_0_17 : h1345 0 17 = h 0 17 := g1345 0 17 rfl rfl
  have y1345_0_18 : h1345 0 18 = h 0 18 := g1345 0 18 rfl rfl
  have y1345_0_14 : h1345 0 14 = h 0 14 := g1345 0 14 rfl rfl
  have y1345_0_15 : h1345 0 15 = h 0 15 := g1345 0 15 rfl rfl
  have y1345_0_19 : h1345 0 19 = h 0 19 := g1345 0 19 rfl rfl
  have y1345_0_20 : h1345 0 20 = h 0 20 := g1345 0 20 rfl rfl
  have y1345_0_21 : h1345 0 21 = h 0 21 := g1345 0 21 rfl rfl
  have y1345_30_10 : h1345 30 10 = h 30 10 := g1345 30 10 rfl rfl
  have y1345_30_12 : h1345 30 12 = h 30 12 := g1345 30 12 rfl rfl
  have y1345_39_1 : h1345 39 1 = h 39 1 := g1345 39 1 rfl rfl
  have y1345_41_0 : h1345 41 0 = h 41 0 := g1345 41 0 rfl rfl
  have y1345_41_1 : h1345 41 1 = h 41 1 := g1345 41 1 rfl rfl
  have y1345_45_0 : h1345 45 0 = h 45 0 := g1345 45 0 rfl rfl
  have y1345_45_1 : h1345 45 1 = h 45 1 := g1345 45 1 rfl rfl
  have hT1 := hT; have gA1 := gA; have gB1 := gB; have gC1 := gC; have gD1 := gD; have gR1 := gR; have gV1 := gV; have gE1 := gE; have gS1 := gS; have gP1 := gP; have gF1 := gF; have gT1 := gT
  show zL _ _ _ (.inl r1345 :: []) _
  refine zL_pop (pc' := 1349) dL_1348 rfl rfl ?_
  refine zL_aload_n (pc' := 1350) dL_1349 rfl rfl ?_
  refine zL_aload_n (pc' := 1351) dL_1350 rfl rfl ?_
  refine zL_iload_n (pc' := 1352) dL_1351 rfl rfl ?_
  refine zL_iconst (pc' := 1353) dL_1352 rfl ?_
  refine zL_iadd (pc' := 1354) dL_1353 rfl ?_
  refine zL_sldE (pc' := 1355) (by omega) hm dL_1354 rfl (fun v1354 e1354 q1354 => ?_)
  refine zL_aload_n (pc' := 1356) dL_1355 rfl rfl ?_
  refine zL_iload_n (pc' := 1357) dL_1356 rfl rfl ?_
  refine zL_iconst (pc' := 1358) dL_1357 rfl ?_
  refine zL_iadd (pc' := 1359) dL_1358 rfl ?_
  refine zL_sldE (pc' := 1360) (by omega) hm dL_1359 rfl (fun v1359 e1359 q1359 => ?_)
  refine zL_aload_n (pc' := 1361) dL_1360 rfl rfl ?_
  refine zL_iload_n (pc' := 1362) dL_1361 rfl rfl ?_
  refine zL_iconst (pc' := 1363) dL_1362 rfl ?_
  refine zL_iadd (pc' := 1364) dL_1363 rfl ?_
  refine zL_sldE (pc' := 1365) (by omega) hm dL_1364 rfl (fun v1364 e1364 q1364 => ?_)
  refine zL_aload_n (pc' := 1366) dL_1365 rfl rfl ?_
  refine zL_iload_n (pc' := 1367) dL_1366 rfl rfl ?_
  refine zL_iconst (pc' := 1368) dL_1367 rfl ?_
  refine zL_iadd (pc' := 1369) dL_1368 rfl ?_
  refine zL_sldE (pc' := 1370) (by omega) hm dL_1369 rfl (fun v1369 e1369 q1369 => ?_)
  refine zL_inv (pc' := 1373) hcs kX12_places vX12_places lk_L_141 ⟨Nat.le_of_ble_eq_true rfl, Nat.le_of_ble_eq_true rfl⟩ tb0 vq12 rfl [_, _, _, _] (s_X12_places (b := bW) (κ := _) hR (Fr.rf (b := bW.fo) hS iP) _ ⟨e1354.1, e1354.2⟩ _ ⟨e1359.1, e1359.2⟩ _ ⟨e1364.1, e1364.2⟩ _ ⟨e1369.1, e1369.2⟩ lvW.ok) dL_1370 rfl (Nat.le_of_ble_eq_true rfl) rfl ?_
  rintro r1370 h1370 ⟨f1370, p1370⟩; have g1370 : ∀ k i, key k i = true → inW ([] : List (Nat × Nat)) k i = false → h1370 k i = h1345 k i := fun k i hk _ => f1370.1 k i hk
  replace iP : IPW h1370 := f1370.inv; replace hS := f1370.2.2; replace hR := KR_tr hR f1370; replace hC := KC_tr hC f1370; have pR1370 := iP.1.1; have pC1370 := iP.1.2
  have y1370_0_25 : h1370 0 25 = h1345 0 25 := g1370 0 25 rfl rfl
  have y1370_31_1 : h1370 31 1 = h1345 31 1 := g1370 31 1 rfl rfl
  have y1370_33_0 : h1370 33 0 = h1345 33 0 := g1370 33 0 rfl rfl
  have y1370_33_1 : h1370 33 1 = h1345 33 1 := g1370 33 1 rfl rfl
  have y1370_33_2 : h1370 33 2 = h1345 33 2 := g1370 33 2 rfl rfl
  have y1370_0_11 : h1370 0 11 = h1345 0 11 := g1370 0 11 rfl rfl
  have y1370_0_12 : h1370 0 12 = h1345 0 12 := g1370 0 12 rfl rfl
  have y1370_0_13 : h1370 0 13 = h1345 0 13 := g1370 0 13 rfl rfl
  have y1370_30_11 : h1370 30 11 = h1345 30 11 := g1370 30 11 rfl rfl
  have y1370_0_22 : h1370 0 22 = h1345 0 22 := g1370 0 22 rfl rfl
  have y1370_36_0 : h1370 36 0 = h1345 36 0 := g1370 36 0 rfl rfl
  have y1370_36_1 : h1370 36 1 = h1345 36 1 := g1370 36 1 rfl rfl
  have y1370_36_2 : h1370 36 2 = h1345 36 2 := g1370 36 2 rfl rfl
  have y1370_0_16 : h1370 0 16 = h1345 0 16 := g1370 0 16 rfl rfl
  have y1370_0_17 : h1370 0 17 = h1345 0 17 := g1370 0 17 rfl rfl
  have y1370_0_18 : h1370 0 18 = h1345 0 18 := g1370 0 18 rfl rfl
  have y1370_0_14 : h1370 0 14 = h1345 0 14 := g1370 0 14 rfl rfl
  have y1370_0_15 : h1370 0 15 = h1345 0 15 := g1370 0 15 rfl rfl
  have y1370_0_19 : h1370 0 19 = h1345 0 19 := g1370 0 19 rfl rfl
  have y1370_0_20 : h1370 0 20 = h1345 0 20 := g1370 0 20 rfl rfl
  have y1370_0_21 : h1370 0 21 = h1345 0 21 := g1370 0 21 rfl rfl
  have y1370_30_10 : h1370 30 10 = h1345 30 10 := g1370 30 10 rfl rfl
  have y1370_30_12 : h1370 30 12 = h1345 30 12 := g1370 30 12 rfl rfl
  have y1370_39_1 : h1370 39 1 = h1345 39 1 := g1370 39 1 rfl rfl
  have y1370_41_0 : h1370 41 0 = h1345 41 0 := g1370 41 0 rfl rfl
  have y1370_41_1 : h1370 41 1 = h1345 41 1 := g1370 41 1 rfl rfl
  have y1370_45_0 : h1370 45 0 = h1345 45 0 := g1370 45 0 rfl rfl
  have y1370_45_1 : h1370 45 1 = h1345 45 1 := g1370 45 1 rfl rfl
  replace hT : TI h1370 := TI_of hT1 (y1370_0_25.trans y1345_0_25) (y1370_31_1.trans y1345_31_1) (y1370_33_0.trans y1345_33_0) (y1370_33_1.trans y1345_33_1) (y1370_33_2.trans y1345_33_2) (y1370_0_11.trans y1345_0_11) (y1370_0_12.trans y1345_0_12) (y1370_0_13.trans y1345_0_13) (y1370_30_11.trans y1345_30_11) (y1370_0_22.trans y1345_0_22) (y1370_36_0.trans y1345_36_0) (y1370_36_1.trans y1345_36_1) (y1370_36_2.trans y1345_36_2) (y1370_0_16.trans y1345_0_16) (y1370_0_17.trans y1345_0_17) (y1370_0_18.trans y1345_0_18)
  replace gA : TGA h1370 := TGA_of gA1 (fun j => (g1370 1 j rfl rfl).trans (g1345 1 j rfl rfl)) (fun j => (g1370 34 j rfl rfl).trans (g1345 34 j rfl rfl)) (fun j => (g1370 10 j rfl rfl).trans (g1345 10 j rfl rfl)) (fun j => (g1370 35 j rfl rfl).trans (g1345 35 j rfl rfl)) (fun j => (g1370 6 j rfl rfl).trans (g1345 6 j rfl rfl)) (fun j => (g1370 37 j rfl rfl).trans (g1345 37 j rfl rfl)) (fun j => (g1370 11 j rfl rfl).trans (g1345 11 j rfl rfl)) (fun j => (g1370 38 j rfl rfl).trans (g1345 38 j rfl rfl)) ((y1370_0_11).trans (y1345_0_11)) ((y1370_0_12).trans (y1345_0_12)) ((y1370_0_16).trans (y1345_0_16)) ((y1370_0_17).trans (y1345_0_17)) ((y1370_0_22).trans (y1345_0_22))
  replace gB : TGB h1370 := TGB_of gB1 (fun j => (g1370 12 j rfl rfl).trans (g1345 12 j rfl rfl)) (fun j => (g1370 32 j rfl rfl).trans (g1345 32 j rfl rfl)) ((y1370_0_25).trans (y1345_0_25))
  replace gC : TGC h1370 := TGC_of gC1  ((y1370_0_15).trans (y1345_0_15)) ((y1370_30_12).trans (y1345_30_12)) ((y1370_0_11).trans (y1345_0_11)) ((y1370_0_12).trans (y1345_0_12)) ((y1370_0_20).trans (y1345_0_20)) ((y1370_30_10).trans (y1345_30_10)) ((y1370_0_16).trans (y1345_0_16)) ((y1370_0_17).trans (y1345_0_17)) ((y1370_0_22).trans (y1345_0_22))
  replace gD : TGD h1370 := TGD_of gD1  ((y1370_41_0).trans (y1345_41_0)) ((y1370_0_14).trans (y1345_0_14)) ((y1370_45_0).trans (y1345_45_0)) ((y1370_0_19).trans (y1345_0_19)) ((y1370_0_22).trans (y1345_0_22))
  replace gR : TGR h1370 := TGR_of gR1 (fun j => (g1370 3 j rfl rfl).trans (g1345 3 j rfl rfl)) (fun j => (g1370 4 j rfl rfl).trans (g1345 4 j rfl rfl)) (fun j => (g1370 5 j rfl rfl).trans (g1345 5 j rfl rfl)) (fun j => (g1370 7 j rfl rfl).trans (g1345 7 j rfl rfl)) (fun j => (g1370 8 j rfl rfl).trans (g1345 8 j rfl rfl)) (fun j => (g1370 9 j rfl rfl).trans (g1345 9 j rfl rfl)) (fun j => (g1370 42 j rfl rfl).trans (g1345 42 j rfl rfl)) (fun j => (g1370 43 j rfl rfl).trans (g1345 43 j rfl rfl)) (fun j => (g1370 44 j rfl rfl).trans (g1345 44 j rfl rfl)) (fun j => (g1370 46 j rfl rfl).trans (g1345 46 j rfl rfl)) (fun j => (g1370 47 j rfl rfl).trans (g1345 47 j rfl rfl)) (fun j => (g1370 48 j rfl rfl).trans (g1345 48 j rfl rfl)) ((y1370_0_14).trans (y1345_0_14)) ((y1370_0_19).trans (y1345_0_19)) ((y1370_0_22).trans (y1345_0_22))
  replace gV : TGV h1370 := TGV_of gV1 (fun j => (g1370 34 j rfl rfl).trans (g1345 34 j rfl rfl)) (fun j => (g1370 37 j rfl rfl).trans (g1345 37 j rfl rfl)) ((y1370_0_22).trans (y1345_0_22))
  replace gE : TGE h1370 := TGE_of gE1 (fun j => (g1370 3 j rfl rfl).trans (g1345 3 j rfl rfl)) (fun j => (g1370 7 j rfl rfl).trans (g1345 7 j rfl rfl)) ((y1370_0_14).trans (y1345_0_14)) ((y1370_0_19).trans (y1345_0_19)) ((y1370_0_22).trans (y1345_0_22))
  replace gS : TGS h1370 := TGS_of gS1 (fun j => (g1370 3 j rfl rfl).trans (g1345 3 j rfl rfl)) (fun j => (g1370 4 j rfl rfl).trans (g1345 4 j rfl rfl)) (fun j => (g1370 5 j rfl rfl).trans (g1345 5 j rfl rfl)) (fun j => (g1370 7 j rfl rfl).trans (g1345 7 j rfl rfl)) (fun j => (g1370 8 j rfl rfl).trans (g1345 8 j rfl rfl)) (fun j => (g1370 9 j rfl rfl).trans (g1345 9 j rfl rfl)) ((y1370_0_14).trans (y1345_0_14)) ((y1370_0_19).trans (y1345_0_19)) ((y1370_0_22).trans (y1345_0_22))
  have qe1354 : v1354 = v1329 := by rw [q1354, q1329]
  have qe1359 : v1359 = v1334 := by rw [q1359, q1334]
  have qe1364 : v1364 = v1339 := by rw [q1364, q1339]
  have qe1369 : v1369 = v1344 := by rw [q1369, q1344]
  replace gP : TGP h1370 := by
    have hT2 := hT1
    unfold TI at hT2
    have k1 := KRw hR; have k2 := KRh hR
    clear hcs hm hi
    exact ⟨pR1370, pC1370⟩
  replace gF : TGF h1370 := TGF_of gF1 (fun j => (g1370 3 j rfl rfl).trans (g1345 3 j rfl rfl)) (fun j => (g1370 7 j rfl rfl).trans (g1345 7 j rfl rfl)) ((y1370_41_1).trans (y1345_41_1)) ((y1370_0_14).trans (y1345_0_14)) ((y1370_45_1).trans (y1345_45_1)) ((y1370_0_19).trans (y1345_0_19)) ((y1370_0_22).trans (y1345_0_22))
  replace gT : TGT h1370 := TGT_of gT1 (fun j => (g1370 2 j rfl rfl).trans (g1345 2 j rfl rfl)) (fun j => (g1370 40 j rfl rfl).trans (g1345 40 j rfl rfl)) ((y1370_39_1).trans (y1345_39_1)) ((y1370_0_21).trans (y1345_0_21)) ((y1370_0_11).trans (y1345_0_11)) ((y1370_0_12).trans (y1345_0_12))
  show zL _ _ _ (.inl r1370 :: []) _
  refine zL_pop (pc' := 1374) dL_1373 rfl rfl ?_
  refine zL_goto (tgt := 1581) dL_1374 rfl ?_
  exact nx _ hS hR hC hT gA gB gC gD gR gV gE gS gP gF gT
set_option maxHeartbeats 4000000 in
theorem lc_30 {Γ : Lc} {i : Int} {h : Hp} (hX : XI Γ.1) (hcs : Γ.2.2.2.2.2.1 ≤ room_1.cells ∧ Γ.2.2.2.2.2.2 ≤ room_1.slots) (hm : Γ.2.2.1 < 2147483648) (hi : 0 ≤ i ∧ i + 6 ≤ Γ.2.2.1) (hS : SI h) (hR : KR h) (hC : KC h) (hT : TI h) (gA : TGA h) (gB : TGB h) (gC : TGC h) (gD : TGD h) (gR : TGR h) (gV : TGV h) (gE : TGE h) (gS : TGS h) (gP : TGP h) (gF : TGF h) (gT : TGT h) (nx : ∀ h' : Hp, SI h' → KR h' → KC h' → TI h' → TGA h' → TGB h' → TGC h' → TGD h' → TGR h' → TGV h' → TGE h' → TGS h' → TGP h' → TGF h' → TGT h' → zL Γ 1581 (lsL i) [] h') : zL Γ 1377 (lsL i) [] h := by
  refine zL_aload_n (pc' := 1378) dL_1377 rfl rfl ?_
  refine zL_aload_n (pc' := 1379) dL_1378 rfl rfl ?_
  refine zL_iload_n (pc' := 1380) dL_1379 rfl rfl ?_
  refine zL_iconst (pc' := 1381) dL_1380 rfl ?_
  refine zL_iadd (pc' := 1382) dL_1381 rfl ?_
  refine zL_sldE (pc' := 1383) (by omega) hm dL_1382 rfl (fun v1382 e1382 q1382 => ?_)
  refine zL_aload_n (pc' := 1384) dL_1383 rfl rfl ?_
  refine zL_iload_n (pc' := 1385) dL_1384 rfl rfl ?_
  refine zL_iconst (pc' := 1386) dL_1385 rfl ?_
  refine zL_iadd (pc' := 1387) dL_1386 rfl ?_
  refine zL_sldE (pc' := 1388) (by omega) hm dL_1387 rfl (fun v1387 e1387 q1387 => ?_)
  refine zL_aload_n (pc' := 1389) dL_1388 rfl rfl ?_
  refine zL_iload_n (pc' := 1390) dL_1389 rfl rfl ?_
  refine zL_iconst (pc' := 1391) dL_1390 rfl ?_
  refine zL_iadd (pc' := 1392) dL_1391 rfl ?_
  refine zL_sldE (pc' := 1393) (by omega) hm dL_1392 rfl (fun v1392 e1392 q1392 => ?_)
  have iP : IPW h := IPW_of hR hC hT gA gV gE gS gD gR gP
  refine zL_inv (pc' := 1396) hcs kX11_unlike vX11_unlike lk_L_142 ⟨Nat.le_of_ble_eq_true rfl, Nat.le_of_ble_eq_true rfl⟩ tb30 vq11 rfl [_, _, _] (s_X11_unlike (b := bW) (κ := _) hC (Fr.rf (b := bW) hS iP) _ ⟨e1382.1, e1382.2⟩ _ ⟨e1387.1, e1387.2⟩ _ ⟨e1392.1, e1392.2⟩ shW_.ok) dL_1393 rfl (Nat.le_of_ble_eq_true rfl) rfl ?_
  rintro r1393 h1393 ⟨f1393, p1393⟩; have g1393 : ∀ k i, key k i = true → inW ([] : List (Nat × Nat)) k i = false → h1393 k i = h k i := fun k i hk _ => f1393.1 k i hk
  replace iP : IPW h1393 := f1393.inv; replace hS := f1393.2.2; replace hR := KR_tr hR f1393; replace hC := KC_tr hC f1393; have pR1393 := iP.1.1; have pC1393 := iP.1.2
  have y1393_0_25 : h1393 0 25 = h 0 25 := g1393 0 25 rfl rfl
  have y1393_31_1 : h1393 31 1 = h 31 1 := g1393 31 1 rfl rfl
  have y1393_33_0 : h1393 33 0 = h 33 0 := g1393 33 0 rfl rfl
  have y1393_33_1 : h1393 33 1 = h 33 1 := g1393 33 1 rfl rfl
  have y1393_33_2 : h1393 33 2 = h 33 2 := g1393 33 2 rfl rfl
  have y1393_0_11 : h1393 0 11 = h 0 11 := g1393 0 11 rfl rfl
  have y1393_0_12 : h1393 0 12 = h 0 12 := g1393 0 12 rfl rfl
  have y1393_0_13 : h1393 0 13 = h 0 13 := g1393 0 13 rfl rfl
  have y1393_30_11 : h1393 30 11 = h 30 11 := g1393 30 11 rfl rfl
  have y1393_0_22 : h1393 0 22 = h 0 22 := g1393 0 22 rfl rfl
  have y1393_36_0 : h1393 36 0 = h 36 0 := g1393 36 0 rfl rfl
  have y1393_36_1 : h1393 36 1 = h 36 1 := g1393 36 1 rfl rfl
  have y1393_36_2 : h1393 36 2 = h 36 2 := g1393 36 2 rfl rfl
  have y1393_0_16 : h1393 0 16 = h 0 16 := g1393 0 16 rfl rfl
  have y1393_0_17 : h1393 0 17 = h 0 17 := g1393 0 17 rfl rfl
  have y1393_0_18 : h1393 0 18 = h 0 18 := g1393 0 18 rfl rfl
  have y1393_0_14 : h1393 0 14 = h 0 14 := g1393 0 14 rfl rfl
  have y1393_0_15 : h1393 0 15 = h 0 15 := g1393 0 15 rfl rfl
  have y1393_0_19 : h1393 0 19 = h 0 19 := g1393 0 19 rfl rfl
  have y1393_0_20 : h1393 0 20 = h 0 20 := g1393 0 20 rfl rfl
  have y1393_0_21 : h1393 0 21 = h 0 21 := g1393 0 21 rfl rfl
  have y1393_30_10 : h1393 30 10 = h 30 10 := g1393 30 10 rfl rfl
  have y1393_30_12 : h1393 30 12 = h 30 12 := g1393 30 12 rfl rfl
  have y1393_39_1 : h1393 39 1 = h 39 1 := g1393 39 1 rfl rfl
  have y1393_41_0 : h1393 41 0 = h 41 0 := g1393 41 0 rfl rfl
  have y1393_41_1 : h1393 41 1 = h 41 1 := g1393 41 1 rfl rfl
  have y1393_45_0 : h1393 45 0 = h 45 0 := g1393 45 0 rfl rfl
  have y1393_45_1 : h1393 45 1 = h 45 1 := g1393 45 1 rfl rfl
  have hT1 := hT; have gA1 := gA; have gB1 := gB; have gC1 := gC; have gD1 := gD; have gR1 := gR; have gV1 := gV; have gE1 := gE; have gS1 := gS; have gP1 := gP; have gF1 := gF; have gT1 := gT
  show zL _ _ _ (.inl r1393 :: []) _
  refine zL_pop (pc' := 1397) dL_1396 rfl rfl ?_
  refine zL_aload_n (pc' := 1398) dL_1397 rfl rfl ?_
  refine zL_aload_n (pc' := 1399) dL_1398 rfl rfl ?_
  refine zL_iload_n (pc' := 1400) dL_1399 rfl rfl ?_
  refine zL_iconst (pc' := 1401) dL_1400 rfl ?_
  refine zL_iadd (pc' := 1402) dL_1401 rfl ?_
  refine zL_sldE (pc' := 1403) (by omega) hm dL_1402 rfl (fun v1402 e1402 q1402 => ?_)
  refine zL_aload_n (pc' := 1404) dL_1403 rfl rfl ?_
  refine zL_iload_n (pc' := 1405) dL_1404 rfl rfl ?_
  refine zL_iconst (pc' := 1406) dL_1405 rfl ?_
  refine zL_iadd (pc' := 1407) dL_1406 rfl ?_
  refine zL_sldE (pc' := 1408) (by omega) hm dL_1407 rfl (fun v1407 e1407 q1407 => ?_)
  refine zL_aload_n (pc' := 1409) dL_1408 rfl rfl ?_
  refine zL_iload_n (pc' := 1410) dL_1409 rfl rfl ?_
  refine zL_iconst (pc' := 1411) dL_1410 rfl ?_
  refine zL_iadd (pc' := 1412) dL_1411 rfl ?_
  refine zL_sldE (pc' := 1413) (by omega) hm dL_1412 rfl (fun v1412 e1412 q1412 => ?_)
  refine zL_inv (pc' := 1416) hcs kX12_unlike vX12_unlike lk_L_145 ⟨Nat.le_of_ble_eq_true rfl, Nat.le_of_ble_eq_true rfl⟩ tb0 vq12 rfl [_, _, _] (s_X12_unlike (b := bW) (κ := _) hR (Fr.rf (b := bW.fo) hS iP) _ ⟨e1402.1, e1402.2⟩ _ ⟨e1407.1, e1407.2⟩ _ ⟨e1412.1, e1412.2⟩ lvW.ok) dL_1413 rfl (Nat.le_of_ble_eq_true rfl) rfl ?_
  rintro r1413 h1413 ⟨f1413, p1413⟩; have g1413 : ∀ k i, key k i = true → inW ([] : List (Nat × Nat)) k i = false → h1413 k i = h1393 k i := fun k i hk _ => f1413.1 k i hk
  replace iP : IPW h1413 := f1413.inv; replace hS := f1413.2.2; replace hR := KR_tr hR f1413; replace hC := KC_tr hC f1413; have pR1413 := iP.1.1; have pC1413 := iP.1.2
  have y1413_0_25 : h1413 0 25 = h1393 0 25 := g1413 0 25 rfl rfl
  have y1413_31_1 : h1413 31 1 = h1393 31 1 := g1413 31 1 rfl rfl
  have y1413_33_0 : h1413 33 0 = h1393 33 0 := g1413 33 0 rfl rfl
  have y1413_33_1 : h1413 33 1 = h1393 33 1 := g1413 33 1 rfl rfl
  have y1413_33_2 : h1413 33 2 = h1393 33 2 := g1413 33 2 rfl rfl
  have y1413_0_11 : h1413 0 11 = h1393 0 11 := g1413 0 11 rfl rfl
  have y1413_0_12 : h1413 0 12 = h1393 0 12 := g1413 0 12 rfl rfl
  have y1413_0_13 : h1413 0 13 = h1393 0 13 := g1413 0 13 rfl rfl
  have y1413_30_11 : h1413 30 11 = h1393 30 11 := g1413 30 11 rfl rfl
  have y1413_0_22 : h1413 0 22 = h1393 0 22 := g1413 0 22 rfl rfl
  have y1413_36_0 : h1413 36 0 = h1393 36 0 := g1413 36 0 rfl rfl
  have y1413_36_1 : h1413 36 1 = h1393 36 1 := g1413 36 1 rfl rfl
  have y1413_36_2 : h1413 36 2 = h1393 36 2 := g1413 36 2 rfl rfl
  have y1413_0_16 : h1413 0 16 = h1393 0 16 := g1413 0 16 rfl rfl
  have y1413_0_17 : h1413 0 17 = h1393 0 17 := g1413 0 17 rfl rfl
  have y1413_0_18 : h1413 0 18 = h1393 0 18 := g1413 0 18 rfl rfl
  have y1413_0_14 : h1413 0 14 = h1393 0 14 := g1413 0 14 rfl rfl
  have y1413_0_15 : h1413 0 15 = h1393 0 15 := g1413 0 15 rfl rfl
  have y1413_0_19 : h1413 0 19 = h1393 0 19 := g1413 0 19 rfl rfl
  have y1413_0_20 : h1413 0 20 = h1393 0 20 := g1413 0 20 rfl rfl
  have y1413_0_21 : h1413 0 21 = h1393 0 21 := g1413 0 21 rfl rfl
  have y1413_30_10 : h1413 30 10 = h1393 30 10 := g1413 30 10 rfl rfl
  have y1413_30_12 : h1413 30 12 = h1393 30 12 := g1413 30 12 rfl rfl
  have y1413_39_1 : h1413 39 1 = h1393 39 1 := g1413 39 1 rfl rfl
  have y1413_41_0 : h1413 41 0 = h1393 41 0 := g1413 41 0 rfl rfl
  have y1413_41_1 : h1413 41 1 = h1393 41 1 := g1413 41 1 rfl rfl
  have y1413_45_0 : h1413 45 0 = h1393 45 0 := g1413 45 0 rfl rfl
  have y1413_45_1 : h1413 45 1 = h1393 45 1 := g1413 45 1 rfl rfl
  replace hT : TI h1413 := TI_of hT1 (y1413_0_25.trans y1393_0_25) (y1413_31_1.trans y1393_31_1) (y1413_33_0.trans y1393_33_0) (y1413_33_1.trans y1393_33_1) (y1413_33_2.trans y1393_33_2) (y1413_0_11.trans y1393_0_11) (y1413_0_12.trans y1393_0_12) (y1413_0_13.trans y1393_0_13) (y1413_30_11.trans y1393_30_11) (y1413_0_22.trans y1393_0_22) (y1413_36_0.trans y1393_36_0) (y1413_36_1.trans y1393_36_1) (y1413_36_2.trans y1393_36_2) (y1413_0_16.trans y1393_0_16) (y1413_0_17.trans y1393_0_17) (y1413_0_18.trans y1393_0_18)
  replace gA : TGA h1413 := TGA_of gA1 (fun j => (g1413 1 j rfl rfl).trans (g1393 1 j rfl rfl)) (fun j => (g1413 34 j rfl rfl).trans (g1393 34 j rfl rfl)) (fun j => (g1413 10 j rfl rfl).trans (g1393 10 j rfl rfl)) (fun j => (g1413 35 j rfl rfl).trans (g1393 35 j rfl rfl)) (fun j => (g1413 6 j rfl rfl).trans (g1393 6 j rfl rfl)) (fun j => (g1413 37 j rfl rfl).trans (g1393 37 j rfl rfl)) (fun j => (g1413 11 j rfl rfl).trans (g1393 11 j rfl rfl)) (fun j => (g1413 38 j rfl rfl).trans (g1393 38 j rfl rfl)) ((y1413_0_11).trans (y1393_0_11)) ((y1413_0_12).trans (y1393_0_12)) ((y1413_0_16).trans (y1393_0_16)) ((y1413_0_17).trans (y1393_0_17)) ((y1413_0_22).trans (y1393_0_22))
  replace gB : TGB h1413 := TGB_of gB1 (fun j => (g1413 12 j rfl rfl).trans (g1393 12 j rfl rfl)) (fun j => (g1413 32 j rfl rfl).trans (g1393 32 j rfl rfl)) ((y1413_0_25).trans (y1393_0_25))
  replace gC : TGC h1413 := TGC_of gC1  ((y1413_0_15).trans (y1393_0_15)) ((y1413_30_12).trans (y1393_30_12)) ((y1413_0_11).trans (y1393_0_11)) ((y1413_0_12).trans (y1393_0_12)) ((y1413_0_20).trans (y1393_0_20)) ((y1413_30_10).trans (y1393_30_10)) ((y1413_0_16).trans (y1393_0_16)) ((y1413_0_17).trans (y1393_0_17)) ((y1413_0_22).trans (y1393_0_22))
  replace gD : TGD h1413 := TGD_of gD1  ((y1413_41_0).trans (y1393_41_0)) ((y1413_0_14).trans (y1393_0_14)) ((y1413_45_0).trans (y1393_45_0)) ((y1413_0_19).trans (y1393_0_19)) ((y1413_0_22).trans (y1393_0_22))
  replace gR : TGR h1413 := TGR_of gR1 (fun j => (g1413 3 j rfl rfl).trans (g1393 3 j rfl rfl)) (fun j => (g1413 4 j rfl rfl).trans (g1393 4 j rfl rfl)) (fun j => (g1413 5 j rfl rfl).trans (g1393 5 j rfl rfl)) (fun j => (g1413 7 j rfl rfl).trans (g1393 7 j rfl rfl)) (fun j => (g1413 8 j rfl rfl).trans (g1393 8 j rfl rfl)) (fun j => (g1413 9 j rfl rfl).trans (g1393 9 j rfl rfl)) (fun j => (g1413 42 j rfl rfl).trans (g1393 42 j rfl rfl)) (fun j => (g1413 43 j rfl rfl).trans (g1393 43 j rfl rfl)) (fun j => (g1413 44 j rfl rfl).trans (g1393 44 j rfl rfl)) (fun j => (g1413 46 j rfl rfl).trans (g1393 46 j rfl rfl)) (fun j => (g1413 47 j rfl rfl).trans (g1393 47 j rfl rfl)) (fun j => (g1413 48 j rfl rfl).trans (g1393 48 j rfl rfl)) ((y1413_0_14).trans (y1393_0_14)) ((y1413_0_19).trans (y1393_0_19)) ((y1413_0_22).trans (y1393_0_22))
  replace gV : TGV h1413 := TGV_of gV1 (fun j => (g1413 34 j rfl rfl).trans (g1393 34 j rfl rfl)) (fun j => (g1413 37 j rfl rfl).trans (g1393 37 j rfl rfl)) ((y1413_0_22).trans (y1393_0_22))
  replace gE : TGE h1413 := TGE_of gE1 (fun j => (g1413 3 j rfl rfl).trans (g1393 3 j rfl rfl)) (fun j => (g1413 7 j rfl rfl).trans (g1393 7 j rfl rfl)) ((y1413_0_14).trans (y1393_0_14)) ((y1413_0_19).trans (y1393_0_19)) ((y1413_0_22).trans (y1393_0_22))
  replace gS : TGS h1413 := TGS_of gS1 (fun j => (g1413 3 j rfl rfl).trans (g1393 3 j rfl rfl)) (fun j => (g1413 4 j rfl rfl).trans (g1393 4 j rfl rfl)) (fun j => (g1413 5 j rfl rfl).trans (g1393 5 j rfl rfl)) (fun j => (g1413 7 j rfl rfl).trans (g1393 7 j rfl rfl)) (fun j => (g1413 8 j rfl rfl).trans (g1393 8 j rfl rfl)) (fun j => (g1413 9 j rfl rfl).trans (g1393 9 j rfl rfl)) ((y1413_0_14).trans (y1393_0_14)) ((y1413_0_19).trans (y1393_0_19)) ((y1413_0_22).trans (y1393_0_22))
  have qe1402 : v1402 = v1382 := by rw [q1402, q1382]
  have qe1407 : v1407 = v1387 := by rw [q1407, q1387]
  have qe1412 : v1412 = v1392 := by rw [q1412, q1392]
  replace gP : TGP h1413 := by
    have hT2 := hT1
    unfold TI at hT2
    have k1 := KRw hR; have k2 := KRh hR
    clear hcs hm hi
    exact ⟨pR1413, pC1413⟩
  replace gF : TGF h1413 := TGF_of gF1 (fun j => (g1413 3 j rfl rfl).trans (g1393 3 j rfl rfl)) (fun j => (g1413 7 j rfl rfl).trans (g1393 7 j rfl rfl)) ((y1413_41_1).trans (y1393_41_1)) ((y1413_0_14).trans (y1393_0_14)) ((y1413_45_1).trans (y1393_45_1)) ((y1413_0_19).trans (y1393_0_19)) ((y1413_0_22).trans (y1393_0_22))
  replace gT : TGT h1413 := TGT_of gT1 (fun j => (g1413 2 j rfl rfl).trans (g1393 2 j rfl rfl)) (fun j => (g1413 40 j rfl rfl).trans (g1393 40 j rfl rfl)) ((y1413_39_1).trans (y1393_39_1)) ((y1413_0_21).trans (y1393_0_21)) ((y1413_0_11).trans (y1393_0_11)) ((y1413_0_12).trans (y1393_0_12))
  show zL _ _ _ (.inl r1413 :: []) _
  refine zL_pop (pc' := 1417) dL_1416 rfl rfl ?_
  refine zL_goto (tgt := 1581) dL_1417 rfl ?_
  exact nx _ hS hR hC hT gA gB gC gD gR gV gE gS gP gF gT
set_option maxHeartbeats 4000000 in
theorem lc_31 {Γ : Lc} {i : Int} {h : Hp} (hX : XI Γ.1) (hcs : Γ.2.2.2.2.2.1 ≤ room_1.cells ∧ Γ.2.2.2.2.2.2 ≤ room_1.slots) (hm : Γ.2.2.1 < 2147483648) (hi : 0 ≤ i ∧ i + 6 ≤ Γ.2.2.1) (hS : SI h) (hR : KR h) (hC : KC h) (hT : TI h) (gA : TGA h) (gB : TGB h) (gC : TGC h) (gD : TGD h) (gR : TGR h) (gV : TGV h) (gE : TGE h) (gS : TGS h) (gP : TGP h) (gF : TGF h) (gT : TGT h) (nx : ∀ h' : Hp, SI h' → KR h' → KC h' → TI h' → TGA h' → TGB h' → TGC h' → TGD h' → TGR h' → TGV h' → TGE h' → TGS h' → TGP h' → TGF h' → TGT h' → zL Γ 1581 (lsL i) [] h') : zL Γ 1420 (lsL i) [] h := by
  refine zL_aload_n (pc' := 1421) dL_1420 rfl rfl ?_
  refine zL_aload_n (pc' := 1422) dL_1421 rfl rfl ?_
  refine zL_iload_n (pc' := 1423) dL_1422 rfl rfl ?_
  refine zL_iconst (pc' := 1424) dL_1423 rfl ?_
  refine zL_iadd (pc' := 1425) dL_1424 rfl ?_
  refine zL_sldE (pc' := 1426) (by omega) hm dL_1425 rfl (fun v1425 e1425 q1425 => ?_)
  refine zL_aload_n (pc' := 1427) dL_1426 rfl rfl ?_
  refine zL_iload_n (pc' := 1428) dL_1427 rfl rfl ?_
  refine zL_iconst (pc' := 1429) dL_1428 rfl ?_
  refine zL_iadd (pc' := 1430) dL_1429 rfl ?_
  refine zL_sldE (pc' := 1431) (by omega) hm dL_1430 rfl (fun v1430 e1430 q1430 => ?_)
  have iP : IPW h := IPW_of hR hC hT gA gV gE gS gD gR gP
  refine zL_inv (pc' := 1434) hcs kX11_without vX11_without lk_L_146 ⟨Nat.le_of_ble_eq_true rfl, Nat.le_of_ble_eq_true rfl⟩ tb30 vq11 rfl [_, _] (s_X11_without (b := bW) (κ := _) hC (Fr.rf (b := bW) hS iP) _ ⟨e1425.1, e1425.2⟩ _ ⟨e1430.1, e1430.2⟩ shW_.ok okTW) dL_1431 rfl (Nat.le_of_ble_eq_true rfl) rfl ?_
  rintro r1431 h1431 ⟨f1431, p1431⟩; have g1431 : ∀ k i, key k i = true → inW ([] : List (Nat × Nat)) k i = false → h1431 k i = h k i := fun k i hk _ => f1431.1 k i hk
  replace iP : IPW h1431 := f1431.inv; replace hS := f1431.2.2; replace hR := KR_tr hR f1431; replace hC := KC_tr hC f1431; have pR1431 := iP.1.1; have pC1431 := iP.1.2
  have y1431_0_25 : h1431 0 25 = h 0 25 := g1431 0 25 rfl rfl
  have y1431_31_1 : h1431 31 1 = h 31 1 := g1431 31 1 rfl rfl
  have y1431_33_0 : h1431 33 0 = h 33 0 := g1431 33 0 rfl rfl
  have y1431_33_1 : h1431 33 1 = h 33 1 := g1431 33 1 rfl rfl
  have y1431_33_2 : h1431 33 2 = h 33 2 := g1431 33 2 rfl rfl
  have y1431_0_11 : h1431 0 11 = h 0 11 := g1431 0 11 rfl rfl
  have y1431_0_12 : h1431 0 12 = h 0 12 := g1431 0 12 rfl rfl
  have y1431_0_13 : h1431 0 13 = h 0 13 := g1431 0 13 rfl rfl
  have y1431_30_11 : h1431 30 11 = h 30 11 := g1431 30 11 rfl rfl
  have y1431_0_22 : h1431 0 22 = h 0 22 := g1431 0 22 rfl rfl
  have y1431_36_0 : h1431 36 0 = h 36 0 := g1431 36 0 rfl rfl
  have y1431_36_1 : h1431 36 1 = h 36 1 := g1431 36 1 rfl rfl
  have y1431_36_2 : h1431 36 2 = h 36 2 := g1431 36 2 rfl rfl
  have y1431_0_16 : h1431 0 16 = h 0 16 := g1431 0 16 rfl rfl
  have y1431_0_17 : h1431 0 17 = h 0 17 := g1431 0 17 rfl rfl
  have y1431_0_18 : h1431 0 18 = h 0 18 := g1431 0 18 rfl rfl
  have y1431_0_14 : h1431 0 14 = h 0 14 := g1431 0 14 rfl rfl
  have y1431_0_15 : h1431 0 15 = h 0 15 := g1431 0 15 rfl rfl
  have y1431_0_19 : h1431 0 19 = h 0 19 := g1431 0 19 rfl rfl
  have y1431_0_20 : h1431 0 20 = h 0 20 := g1431 0 20 rfl rfl
  have y1431_0_21 : h1431 0 21 = h 0 21 := g1431 0 21 rfl rfl
  have y1431_30_10 : h1431 30 10 = h 30 10 := g1431 30 10 rfl rfl
  have y1431_30_12 : h1431 30 12 = h 30 12 := g1431 30 12 rfl rfl
  have y1431_39_1 : h1431 39 1 = h 39 1 := g1431 39 1 rfl rfl
  have y1431_41_0 : h1431 41 0 = h 41 0 := g1431 41 0 rfl rfl
  have y1431_41_1 : h1431 41 1 = h 41 1 := g1431 41 1 rfl rfl
  have y1431_45_0 : h1431 45 0 = h 45 0 := g1431 45 0 rfl rfl
  have y1431_45_1 : h1431 45 1 = h 45 1 := g1431 45 1 rfl rfl
  have hT1 := hT; have gA1 := gA; have gB1 := gB; have gC1 := gC; have gD1 := gD; have gR1 := gR; have gV1 := gV; have gE1 := gE; have gS1 := gS; have gP1 := gP; have gF1 := gF; have gT1 := gT
  show zL _ _ _ (.inl r1431 :: []) _
  refine zL_pop (pc' := 1435) dL_1434 rfl rfl ?_
  refine zL_aload_n (pc' := 1436) dL_1435 rfl rfl ?_
  refine zL_aload_n (pc' := 1437) dL_1436 rfl rfl ?_
  refine zL_iload_n (pc' := 1438) dL_1437 rfl rfl ?_
  refine zL_iconst (pc' := 1439) dL_1438 rfl ?_
  refine zL_iadd (pc' := 1440) dL_1439 rfl ?_
  refine zL_sldE (pc' := 1441) (by omega) hm dL_1440 rfl (fun v1440 e1440 q1440 => ?_)
  refine zL_aload_n (pc' := 1442) dL_1441 rfl rfl ?_
  refine zL_iload_n (pc' := 1443) dL_1442 rfl rfl ?_
  refine zL_iconst (pc' := 1444) dL_1443 rfl ?_
  refine zL_iadd (pc' := 1445) dL_1444 rfl ?_
  refine zL_sldE (pc' := 1446) (by omega) hm dL_1445 rfl (fun v1445 e1445 q1445 => ?_)
  refine zL_inv (pc' := 1449) hcs kX12_without vX12_without lk_L_149 ⟨Nat.le_of_ble_eq_true rfl, Nat.le_of_ble_eq_true rfl⟩ tb0 vq12 rfl [_, _] (s_X12_without (b := bW) (κ := _) hR (Fr.rf (b := bW.fo) hS iP) _ ⟨e1440.1, e1440.2⟩ _ ⟨e1445.1, e1445.2⟩ lvW.ok ok17W) dL_1446 rfl (Nat.le_of_ble_eq_true rfl) rfl ?_
  rintro r1446 h1446 ⟨f1446, p1446⟩; have g1446 : ∀ k i, key k i = true → inW ([] : List (Nat × Nat)) k i = false → h1446 k i = h1431 k i := fun k i hk _ => f1446.1 k i hk
  replace iP : IPW h1446 := f1446.inv; replace hS := f1446.2.2; replace hR := KR_tr hR f1446; replace hC := KC_tr hC f1446; have pR1446 := iP.1.1; have pC1446 := iP.1.2
  have y1446_0_25 : h1446 0 25 = h1431 0 25 := g1446 0 25 rfl rfl
  have y1446_31_1 : h1446 31 1 = h1431 31 1 := g1446 31 1 rfl rfl
  have y1446_33_0 : h1446 33 0 = h1431 33 0 := g1446 33 0 rfl rfl
  have y1446_33_1 : h1446 33 1 = h1431 33 1 := g1446 33 1 rfl rfl
  have y1446_33_2 : h1446 33 2 = h1431 33 2 := g1446 33 2 rfl rfl
  have y1446_0_11 : h1446 0 11 = h1431 0 11 := g1446 0 11 rfl rfl
  have y1446_0_12 : h1446 0 12 = h1431 0 12 := g1446 0 12 rfl rfl
  have y1446_0_13 : h1446 0 13 = h1431 0 13 := g1446 0 13 rfl rfl
  have y1446_30_11 : h1446 30 11 = h1431 30 11 := g1446 30 11 rfl rfl
  have y1446_0_22 : h1446 0 22 = h1431 0 22 := g1446 0 22 rfl rfl
  have y1446_36_0 : h1446 36 0 = h1431 36 0 := g1446 36 0 rfl rfl
  have y1446_36_1 : h1446 36 1 = h1431 36 1 := g1446 36 1 rfl rfl
  have y1446_36_2 : h1446 36 2 = h1431 36 2 := g1446 36 2 rfl rfl
  have y1446_0_16 : h1446 0 16 = h1431 0 16 := g1446 0 16 rfl rfl
  have y1446_0_17 : h1446 0 17 = h1431 0 17 := g1446 0 17 rfl rfl
  have y1446_0_18 : h1446 0 18 = h1431 0 18 := g1446 0 18 rfl rfl
  have y1446_0_14 : h1446 0 14 = h1431 0 14 := g1446 0 14 rfl rfl
  have y1446_0_15 : h1446 0 15 = h1431 0 15 := g1446 0 15 rfl rfl
  have y1446_0_19 : h1446 0 19 = h1431 0 19 := g1446 0 19 rfl rfl
  have y1446_0_20 : h1446 0 20 = h1431 0 20 := g1446 0 20 rfl rfl
  have y1446_0_21 : h1446 0 21 = h1431 0 21 := g1446 0 21 rfl rfl
  have y1446_30_10 : h1446 30 10 = h1431 30 10 := g1446 30 10 rfl rfl
  have y1446_30_12 : h1446 30 12 = h1431 30 12 := g1446 30 12 rfl rfl
  have y1446_39_1 : h1446 39 1 = h1431 39 1 := g1446 39 1 rfl rfl
  have y1446_41_0 : h1446 41 0 = h1431 41 0 := g1446 41 0 rfl rfl
  have y1446_41_1 : h1446 41 1 = h1431 41 1 := g1446 41 1 rfl rfl
  have y1446_45_0 : h1446 45 0 = h1431 45 0 := g1446 45 0 rfl rfl
  have y1446_45_1 : h1446 45 1 = h1431 45 1 := g1446 45 1 rfl rfl
  replace hT : TI h1446 := TI_of hT1 (y1446_0_25.trans y1431_0_25) (y1446_31_1.trans y1431_31_1) (y1446_33_0.trans y1431_33_0) (y1446_33_1.trans y1431_33_1) (y1446_33_2.trans y1431_33_2) (y1446_0_11.trans y1431_0_11) (y1446_0_12.trans y1431_0_12) (y1446_0_13.trans y1431_0_13) (y1446_30_11.trans y1431_30_11) (y1446_0_22.trans y1431_0_22) (y1446_36_0.trans y1431_36_0) (y1446_36_1.trans y1431_36_1) (y1446_36_2.trans y1431_36_2) (y1446_0_16.trans y1431_0_16) (y1446_0_17.trans y1431_0_17) (y1446_0_18.trans y1431_0_18)
  replace gA : TGA h1446 := TGA_of gA1 (fun j => (g1446 1 j rfl rfl).trans (g1431 1 j rfl rfl)) (fun j => (g1446 34 j rfl rfl).trans (g1431 34 j rfl rfl)) (fun j => (g1446 10 j rfl rfl).trans (g1431 10 j rfl rfl)) (fun j => (g1446 35 j rfl rfl).trans (g1431 35 j rfl rfl)) (fun j => (g1446 6 j rfl rfl).trans (g1431 6 j rfl rfl)) (fun j => (g1446 37 j rfl rfl).trans (g1431 37 j rfl rfl)) (fun j => (g1446 11 j rfl rfl).trans (g1431 11 j rfl rfl)) (fun j => (g1446 38 j rfl rfl).trans (g1431 38 j rfl rfl)) ((y1446_0_11).trans (y1431_0_11)) ((y1446_0_12).trans (y1431_0_12)) ((y1446_0_16).trans (y1431_0_16)) ((y1446_0_17).trans (y1431_0_17)) ((y1446_0_22).trans (y1431_0_22))
  replace gB : TGB h1446 := TGB_of gB1 (fun j => (g1446 12 j rfl rfl).trans (g1431 12 j rfl rfl)) (fun j => (g1446 32 j rfl rfl).trans (g1431 32 j rfl rfl)) ((y1446_0_25).trans (y1431_0_25))
  replace gC : TGC h1446 := TGC_of gC1  ((y1446_0_15).trans (y1431_0_15)) ((y1446_30_12).trans (y1431_30_12)) ((y1446_0_11).trans (y1431_0_11)) ((y1446_0_12).trans (y1431_0_12)) ((y1446_0_20).trans (y1431_0_20)) ((y1446_30_10).trans (y1431_30_10)) ((y1446_0_16).trans (y1431_0_16)) ((y1446_0_17).trans (y1431_0_17)) ((y1446_0_22).trans (y1431_0_22))
  replace gD : TGD h1446 := TGD_of gD1  ((y1446_41_0).trans (y1431_41_0)) ((y1446_0_14).trans (y1431_0_14)) ((y1446_45_0).trans (y1431_45_0)) ((y1446_0_19).trans (y1431_0_19)) ((y1446_0_22).trans (y1431_0_22))
  replace gR : TGR h1446 := TGR_of gR1 (fun j => (g1446 3 j rfl rfl).trans (g1431 3 j rfl rfl)) (fun j => (g1446 4 j rfl rfl).trans (g1431 4 j rfl rfl)) (fun j => (g1446 5 j rfl rfl).trans (g1431 5 j rfl rfl)) (fun j => (g1446 7 j rfl rfl).trans (g1431 7 j rfl rfl)) (fun j => (g1446 8 j rfl rfl).trans (g1431 8 j rfl rfl)) (fun j => (g1446 9 j rfl rfl).trans (g1431 9 j rfl rfl)) (fun j => (g1446 42 j rfl rfl).trans (g1431 42 j rfl rfl)) (fun j => (g1446 43 j rfl rfl).trans (g1431 43 j rfl rfl)) (fun j => (g1446 44 j rfl rfl).trans (g1431 44 j rfl rfl)) (fun j => (g1446 46 j rfl rfl).trans (g1431 46 j rfl rfl)) (fun j => (g1446 47 j rfl rfl).trans (g1431 47 j rfl rfl)) (fun j => (g1446 48 j rfl rfl).trans (g1431 48 j rfl rfl)) ((y1446_0_14).trans (y1431_0_14)) ((y1446_0_19).trans (y1431_0_19)) ((y1446_0_22).trans (y1431_0_22))
  replace gV : TGV h1446 := TGV_of gV1 (fun j => (g1446 34 j rfl rfl).trans (g1431 34 j rfl rfl)) (fun j => (g1446 37 j rfl rfl).trans (g1431 37 j rfl rfl)) ((y1446_0_22).trans (y1431_0_22))
  replace gE : TGE h1446 := TGE_of gE1 (fun j => (g1446 3 j rfl rfl).trans (g1431 3 j rfl rfl)) (fun j => (g1446 7 j rfl rfl).trans (g1431 7 j rfl rfl)) ((y1446_0_14).trans (y1431_0_14)) ((y1446_0_19).trans (y1431_0_19)) ((y1446_0_22).trans (y1431_0_22))
  replace gS : TGS h1446 := TGS_of gS1 (fun j => (g1446 3 j rfl rfl).trans (g1431 3 j rfl rfl)) (fun j => (g1446 4 j rfl rfl).trans (g1431 4 j rfl rfl)) (fun j => (g1446 5 j rfl rfl).trans (g1431 5 j rfl rfl)) (fun j => (g1446 7 j rfl rfl).trans (g1431 7 j rfl rfl)) (fun j => (g1446 8 j rfl rfl).trans (g1431 8 j rfl rfl)) (fun j => (g1446 9 j rfl rfl).trans (g1431 9 j rfl rfl)) ((y1446_0_14).trans (y1431_0_14)) ((y1446_0_19).trans (y1431_0_19)) ((y1446_0_22).trans (y1431_0_22))
  have qe1440 : v1440 = v1425 := by rw [q1440, q1425]
  have qe1445 : v1445 = v1430 := by rw [q1445, q1430]
  replace gP : TGP h1446 := by
    have hT2 := hT1
    unfold TI at hT2
    have k1 := KRw hR; have k2 := KRh hR
    clear hcs hm hi
    exact ⟨pR1446, pC1446⟩
  replace gF : TGF h1446 := TGF_of gF1 (fun j => (g1446 3 j rfl rfl).trans (g1431 3 j rfl rfl)) (fun j => (g1446 7 j rfl rfl).trans (g1431 7 j rfl rfl)) ((y1446_41_1).trans (y1431_41_1)) ((y1446_0_14).trans (y1431_0_14)) ((y1446_45_1).trans (y1431_45_1)) ((y1446_0_19).trans (y1431_0_19)) ((y1446_0_22).trans (y1431_0_22))
  replace gT : TGT h1446 := TGT_of gT1 (fun j => (g1446 2 j rfl rfl).trans (g1431 2 j rfl rfl)) (fun j => (g1446 40 j rfl rfl).trans (g1431 40 j rfl rfl)) ((y1446_39_1).trans (y1431_39_1)) ((y1446_0_21).trans (y1431_0_21)) ((y1446_0_11).trans (y1431_0_11)) ((y1446_0_12).trans (y1431_0_12))
  show zL _ _ _ (.inl r1446 :: []) _
  refine zL_pop (pc' := 1450) dL_1449 rfl rfl ?_
  refine zL_goto (tgt := 1581) dL_1450 rfl ?_
  exact nx _ hS hR hC hT gA gB gC gD gR gV gE gS gP gF gT
set_option maxHeartbeats 4000000 in
theorem lc_32 {Γ : Lc} {i : Int} {h : Hp} (hX : XI Γ.1) (hcs : Γ.2.2.2.2.2.1 ≤ room_1.cells ∧ Γ.2.2.2.2.2.2 ≤ room_1.slots) (hm : Γ.2.2.1 < 2147483648) (hi : 0 ≤ i ∧ i + 6 ≤ Γ.2.2.1) (hS : SI h) (hR : KR h) (hC : KC h) (hT : TI h) (gA : TGA h) (gB : TGB h) (gC : TGC h) (gD : TGD h) (gR : TGR h) (gV : TGV h) (gE : TGE h) (gS : TGS h) (gP : TGP h) (gF : TGF h) (gT : TGT h) (nx : ∀ h' : Hp, SI h' → KR h' → KC h' → TI h' → TGA h' → TGB h' → TGC h' → TGD h' → TGR h' → TGV h' → TGE h' → TGS h' → TGP h' → TGF h' → TGT h' → zL Γ 1581 (lsL i) [] h') : zL Γ 1453 (lsL i) [] h := by
  refine zL_aload_n (pc' := 1454) dL_1453 rfl rfl ?_
  refine zL_aload_n (pc' := 1455) dL_1454 rfl rfl ?_
  refine zL_iload_n (pc' := 1456) dL_1455 rfl rfl ?_
  refine zL_iconst (pc' := 1457) dL_1456 rfl ?_
  refine zL_iadd (pc' := 1458) dL_1457 rfl ?_
  refine zL_sldE (pc' := 1459) (by omega) hm dL_1458 rfl (fun v1458 e1458 q1458 => ?_)
  refine zL_aload_n (pc' := 1460) dL_1459 rfl rfl ?_
  refine zL_iload_n (pc' := 1461) dL_1460 rfl rfl ?_
  refine zL_iconst (pc' := 1462) dL_1461 rfl ?_
  refine zL_iadd (pc' := 1463) dL_1462 rfl ?_
  refine zL_sldE (pc' := 1464) (by omega) hm dL_1463 rfl (fun v1463 e1463 q1463 => ?_)
  have iP : IPW h := IPW_of hR hC hT gA gV gE gS gD gR gP
  refine zL_inv (pc' := 1467) hcs kX11_best vX11_best lk_L_150 ⟨Nat.le_of_ble_eq_true rfl, Nat.le_of_ble_eq_true rfl⟩ tb30 vq11 rfl [_, _] (s_X11_best (b := bW) (κ := _) hC (Fr.rf (b := bW) hS iP) _ ⟨e1458.1, e1458.2⟩ _ ⟨e1463.1, e1463.2⟩ shW_.ok okTW hX) dL_1464 rfl (Nat.le_of_ble_eq_true rfl) rfl ?_
  rintro r1464 h1464 ⟨f1464, p1464⟩; have g1464 : ∀ k i, key k i = true → inW ([] : List (Nat × Nat)) k i = false → h1464 k i = h k i := fun k i hk _ => f1464.1 k i hk
  replace iP : IPW h1464 := f1464.inv; replace hS := f1464.2.2; replace hR := KR_tr hR f1464; replace hC := KC_tr hC f1464; have pR1464 := iP.1.1; have pC1464 := iP.1.2
  have y1464_0_25 : h1464 0 25 = h 0 25 := g1464 0 25 rfl rfl
  have y1464_31_1 : h1464 31 1 = h 31 1 := g1464 31 1 rfl rfl
  have y1464_33_0 : h1464 33 0 = h 33 0 := g1464 33 0 rfl rfl
  have y1464_33_1 : h1464 33 1 = h 33 1 := g1464 33 1 rfl rfl
  have y1464_33_2 : h1464 33 2 = h 33 2 := g1464 33 2 rfl rfl
  have y1464_0_11 : h1464 0 11 = h 0 11 := g1464 0 11 rfl rfl
  have y1464_0_12 : h1464 0 12 = h 0 12 := g1464 0 12 rfl rfl
  have y1464_0_13 : h1464 0 13 = h 0 13 := g1464 0 13 rfl rfl
  have y1464_30_11 : h1464 30 11 = h 30 11 := g1464 30 11 rfl rfl
  have y1464_0_22 : h1464 0 22 = h 0 22 := g1464 0 22 rfl rfl
  have y1464_36_0 : h1464 36 0 = h 36 0 := g1464 36 0 rfl rfl
  have y1464_36_1 : h1464 36 1 = h 36 1 := g1464 36 1 rfl rfl
  have y1464_36_2 : h1464 36 2 = h 36 2 := g1464 36 2 rfl rfl
  have y1464_0_16 : h1464 0 16 = h 0 16 := g1464 0 16 rfl rfl
  have y1464_0_17 : h1464 0 17 = h 0 17 := g1464 0 17 rfl rfl
  have y1464_0_18 : h1464 0 18 = h 0 18 := g1464 0 18 rfl rfl
  have y1464_0_14 : h1464 0 14 = h 0 14 := g1464 0 14 rfl rfl
  have y1464_0_15 : h1464 0 15 = h 0 15 := g1464 0 15 rfl rfl
  have y1464_0_19 : h1464 0 19 = h 0 19 := g1464 0 19 rfl rfl
  have y1464_0_20 : h1464 0 20 = h 0 20 := g1464 0 20 rfl rfl
  have y1464_0_21 : h1464 0 21 = h 0 21 := g1464 0 21 rfl rfl
  have y1464_30_10 : h1464 30 10 = h 30 10 := g1464 30 10 rfl rfl
  have y1464_30_12 : h1464 30 12 = h 30 12 := g1464 30 12 rfl rfl
  have y1464_39_1 : h1464 39 1 = h 39 1 := g1464 39 1 rfl rfl
  have y1464_41_0 : h1464 41 0 = h 41 0 := g1464 41 0 rfl rfl
  have y1464_41_1 : h1464 41 1 = h 41 1 := g1464 41 1 rfl rfl
  have y1464_45_0 : h1464 45 0 = h 45 0 := g1464 45 0 rfl rfl
  have y1464_45_1 : h1464 45 1 = h 45 1 := g1464 45 1 rfl rfl
  have hT1 := hT; have gA1 := gA; have gB1 := gB; have gC1 := gC; have gD1 := gD; have gR1 := gR; have gV1 := gV; have gE1 := gE; have gS1 := gS; have gP1 := gP; have gF1 := gF; have gT1 := gT
  show zL _ _ _ (.inl r1464 :: []) _
  refine zL_pop (pc' := 1468) dL_1467 rfl rfl ?_
  refine zL_aload_n (pc' := 1469) dL_1468 rfl rfl ?_
  refine zL_aload_n (pc' := 1470) dL_1469 rfl rfl ?_
  refine zL_iload_n (pc' := 1471) dL_1470 rfl rfl ?_
  refine zL_iconst (pc' := 1472) dL_1471 rfl ?_
  refine zL_iadd (pc' := 1473) dL_1472 rfl ?_
  refine zL_sldE (pc' := 1474) (by omega) hm dL_1473 rfl (fun v1473 e1473 q1473 => ?_)
  refine zL_aload_n (pc' := 1475) dL_1474 rfl rfl ?_
  refine zL_iload_n (pc' := 1476) dL_1475 rfl rfl ?_
  refine zL_iconst (pc' := 1477) dL_1476 rfl ?_
  refine zL_iadd (pc' := 1478) dL_1477 rfl ?_
  refine zL_sldE (pc' := 1479) (by omega) hm dL_1478 rfl (fun v1478 e1478 q1478 => ?_)
  refine zL_inv (pc' := 1482) hcs kX12_best vX12_best lk_L_153 ⟨Nat.le_of_ble_eq_true rfl, Nat.le_of_ble_eq_true rfl⟩ tb0 vq12 rfl [_, _] (s_X12_best (b := bW) (κ := _) hR (Fr.rf (b := bW.fo) hS iP) _ ⟨e1473.1, e1473.2⟩ _ ⟨e1478.1, e1478.2⟩ lvW.ok ok17W) dL_1479 rfl (Nat.le_of_ble_eq_true rfl) rfl ?_
  rintro r1479 h1479 ⟨f1479, p1479⟩; have g1479 : ∀ k i, key k i = true → inW ([] : List (Nat × Nat)) k i = false → h1479 k i = h1464 k i := fun k i hk _ => f1479.1 k i hk
  replace iP : IPW h1479 := f1479.inv; replace hS := f1479.2.2; replace hR := KR_tr hR f1479; replace hC := KC_tr hC f1479; have pR1479 := iP.1.1; have pC1479 := iP.1.2
  have y1479_0_25 : h1479 0 25 = h1464 0 25 := g1479 0 25 rfl rfl
  have y1479_31_1 : h1479 31 1 = h1464 31 1 := g1479 31 1 rfl rfl
  have y1479_33_0 : h1479 33 0 = h1464 33 0 := g1479 33 0 rfl rfl
  have y1479_33_1 : h1479 33 1 = h1464 33 1 := g1479 33 1 rfl rfl
  have y1479_33_2 : h1479 33 2 = h1464 33 2 := g1479 33 2 rfl rfl
  have y1479_0_11 : h1479 0 11 = h1464 0 11 := g1479 0 11 rfl rfl
  have y1479_0_12 : h1479 0 12 = h1464 0 12 := g1479 0 12 rfl rfl
  have y1479_0_13 : h1479 0 13 = h1464 0 13 := g1479 0 13 rfl rfl
  have y1479_30_11 : h1479 30 11 = h1464 30 11 := g1479 30 11 rfl rfl
  have y1479_0_22 : h1479 0 22 = h1464 0 22 := g1479 0 22 rfl rfl
  have y1479_36_0 : h1479 36 0 = h1464 36 0 := g1479 36 0 rfl rfl
  have y1479_36_1 : h1479 36 1 = h1464 36 1 := g1479 36 1 rfl rfl
  have y1479_36_2 : h1479 36 2 = h1464 36 2 := g1479 36 2 rfl rfl
  have y1479_0_16 : h1479 0 16 = h1464 0 16 := g1479 0 16 rfl rfl
  have y1479_0_17 : h1479 0 17 = h1464 0 17 := g1479 0 17 rfl rfl
  have y1479_0_18 : h1479 0 18 = h1464 0 18 := g1479 0 18 rfl rfl
  have y1479_0_14 : h1479 0 14 = h1464 0 14 := g1479 0 14 rfl rfl
  have y1479_0_15 : h1479 0 15 = h1464 0 15 := g1479 0 15 rfl rfl
  have y1479_0_19 : h1479 0 19 = h1464 0 19 := g1479 0 19 rfl rfl
  have y1479_0_20 : h1479 0 20 = h1464 0 20 := g1479 0 20 rfl rfl
  have y1479_0_21 : h1479 0 21 = h1464 0 21 := g1479 0 21 rfl rfl
  have y1479_30_10 : h1479 30 10 = h1464 30 10 := g1479 30 10 rfl rfl
  have y1479_30_12 : h1479 30 12 = h1464 30 12 := g1479 30 12 rfl rfl
  have y1479_39_1 : h1479 39 1 = h1464 39 1 := g1479 39 1 rfl rfl
  have y1479_41_0 : h1479 41 0 = h1464 41 0 := g1479 41 0 rfl rfl
  have y1479_41_1 : h1479 41 1 = h1464 41 1 := g1479 41 1 rfl rfl
  have y1479_45_0 : h1479 45 0 = h1464 45 0 := g1479 45 0 rfl rfl
  have y1479_45_1 : h1479 45 1 = h1464 45 1 := g1479 45 1 rfl rfl
  replace hT : TI h1479 := TI_of hT1 (y1479_0_25.trans y1464_0_25) (y1479_31_1.trans y1464_31_1) (y1479_33_0.trans y1464_33_0) (y1479_33_1.trans y1464_33_1) (y1479_33_2.trans y1464_33_2) (y1479_0_11.trans y1464_0_11) (y1479_0_12.trans y1464_0_12) (y1479_0_13.trans y1464_0_13) (y1479_30_11.trans y1464_30_11) (y1479_0_22.trans y1464_0_22) (y1479_36_0.trans y1464_36_0) (y1479_36_1.trans y1464_36_1) (y1479_36_2.trans y1464_36_2) (y1479_0_16.trans y1464_0_16) (y1479_0_17.trans y1464_0_17) (y1479_0_18.trans y1464_0_18)
  replace gA : TGA h1479 := TGA_of gA1 (fun j => (g1479 1 j rfl rfl).trans (g1464 1 j rfl rfl)) (fun j => (g1479 34 j rfl rfl).trans (g1464 34 j rfl rfl)) (fun j => (g1479 10 j rfl rfl).trans (g1464 10 j rfl rfl)) (fun j => (g1479 35 j rfl rfl).trans (g1464 35 j rfl rfl)) (fun j => (g1479 6 j rfl rfl).trans (g1464 6 j rfl rfl)) (fun j => (g1479 37 j rfl rfl).trans (g1464 37 j rfl rfl)) (fun j => (g1479 11 j rfl rfl).trans (g1464 11 j rfl rfl)) (fun j => (g1479 38 j rfl rfl).trans (g1464 38 j rfl rfl)) ((y1479_0_11).trans (y1464_0_11)) ((y1479_0_12).trans (y1464_0_12)) ((y1479_0_16).trans (y1464_0_16)) ((y1479_0_17).trans (y1464_0_17)) ((y1479_0_22).trans (y1464_0_22))
  replace gB : TGB h1479 := TGB_of gB1 (fun j => (g1479 12 j rfl rfl).trans (g1464 12 j rfl rfl)) (fun j => (g1479 32 j rfl rfl).trans (g1464 32 j rfl rfl)) ((y1479_0_25).trans (y1464_0_25))
  replace gC : TGC h1479 := TGC_of gC1  ((y1479_0_15).trans (y1464_0_15)) ((y1479_30_12).trans (y1464_30_12)) ((y1479_0_11).trans (y1464_0_11)) ((y1479_0_12).trans (y1464_0_12)) ((y1479_0_20).trans (y1464_0_20)) ((y1479_30_10).trans (y1464_30_10)) ((y1479_0_16).trans (y1464_0_16)) ((y1479_0_17).trans (y1464_0_17)) ((y1479_0_22).trans (y1464_0_22))
  replace gD : TGD h1479 := TGD_of gD1  ((y1479_41_0).trans (y1464_41_0)) ((y1479_0_14).trans (y1464_0_14)) ((y1479_45_0).trans (y1464_45_0)) ((y1479_0_19).trans (y1464_0_19)) ((y1479_0_22).trans (y1464_0_22))
  replace gR : TGR h1479 := TGR_of gR1 (fun j => (g1479 3 j rfl rfl).trans (g1464 3 j rfl rfl)) (fun j => (g1479 4 j rfl rfl).trans (g1464 4 j rfl rfl)) (fun j => (g1479 5 j rfl rfl).trans (g1464 5 j rfl rfl)) (fun j => (g1479 7 j rfl rfl).trans (g1464 7 j rfl rfl)) (fun j => (g1479 8 j rfl rfl).trans (g1464 8 j rfl rfl)) (fun j => (g1479 9 j rfl rfl).trans (g1464 9 j rfl rfl)) (fun j => (g1479 42 j rfl rfl).trans (g1464 42 j rfl rfl)) (fun j => (g1479 43 j rfl rfl).trans (g1464 43 j rfl rfl)) (fun j => (g1479 44 j rfl rfl).trans (g1464 44 j rfl rfl)) (fun j => (g1479 46 j rfl rfl).trans (g1464 46 j rfl rfl)) (fun j => (g1479 47 j rfl rfl).trans (g1464 47 j rfl rfl)) (fun j => (g1479 48 j rfl rfl).trans (g1464 48 j rfl rfl)) ((y1479_0_14).trans (y1464_0_14)) ((y1479_0_19).trans (y1464_0_19)) ((y1479_0_22).trans (y1464_0_22))
  replace gV : TGV h1479 := TGV_of gV1 (fun j => (g1479 34 j rfl rfl).trans (g1464 34 j rfl rfl)) (fun j => (g1479 37 j rfl rfl).trans (g1464 37 j rfl rfl)) ((y1479_0_22).trans (y1464_0_22))
  replace gE : TGE h1479 := TGE_of gE1 (fun j => (g1479 3 j rfl rfl).trans (g1464 3 j rfl rfl)) (fun j => (g1479 7 j rfl rfl).trans (g1464 7 j rfl rfl)) ((y1479_0_14).trans (y1464_0_14)) ((y1479_0_19).trans (y1464_0_19)) ((y1479_0_22).trans (y1464_0_22))
  replace gS : TGS h1479 := TGS_of gS1 (fun j => (g1479 3 j rfl rfl).trans (g1464 3 j rfl rfl)) (fun j => (g1479 4 j rfl rfl).trans (g1464 4 j rfl rfl)) (fun j => (g1479 5 j rfl rfl).trans (g1464 5 j rfl rfl)) (fun j => (g1479 7 j rfl rfl).trans (g1464 7 j rfl rfl)) (fun j => (g1479 8 j rfl rfl).trans (g1464 8 j rfl rfl)) (fun j => (g1479 9 j rfl rfl).trans (g1464 9 j rfl rfl)) ((y1479_0_14).trans (y1464_0_14)) ((y1479_0_19).trans (y1464_0_19)) ((y1479_0_22).trans (y1464_0_22))
  have qe1473 : v1473 = v1458 := by rw [q1473, q1458]
  have qe1478 : v1478 = v1463 := by rw [q1478, q1463]
  replace gP : TGP h1479 := by
    have hT2 := hT1
    unfold TI at hT2
    have k1 := KRw hR; have k2 := KRh hR
    clear hcs hm hi
    exact ⟨pR1479, pC1479⟩
  replace gF : TGF h1479 := TGF_of gF1 (fun j => (g1479 3 j rfl rfl).trans (g1464 3 j rfl rfl)) (fun j => (g1479 7 j rfl rfl).trans (g1464 7 j rfl rfl)) ((y1479_41_1).trans (y1464_41_1)) ((y1479_0_14).trans (y1464_0_14)) ((y1479_45_1).trans (y1464_45_1)) ((y1479_0_19).trans (y1464_0_19)) ((y1479_0_22).trans (y1464_0_22))
  replace gT : TGT h1479 := TGT_of gT1 (fun j => (g1479 2 j rfl rfl).trans (g1464 2 j rfl rfl)) (fun j => (g1479 40 j rfl rfl).trans (g1464 40 j rfl rfl)) ((y1479_39_1).trans (y1464_39_1)) ((y1479_0_21).trans (y1464_0_21)) ((y1479_0_11).trans (y1464_0_11)) ((y1479_0_12).trans (y1464_0_12))
  show zL _ _ _ (.inl r1479 :: []) _
  refine zL_pop (pc' := 1483) dL_1482 rfl rfl ?_
  refine zL_goto (tgt := 1581) dL_1483 rfl ?_
  exact nx _ hS hR hC hT gA gB gC gD gR gV gE gS gP gF gT
set_option maxHeartbeats 4000000 in
theorem lc_33 {Γ : Lc} {i : Int} {h : Hp} (hX : XI Γ.1) (hcs : Γ.2.2.2.2.2.1 ≤ room_1.cells ∧ Γ.2.2.2.2.2.2 ≤ room_1.slots) (hm : Γ.2.2.1 < 2147483648) (hi : 0 ≤ i ∧ i + 6 ≤ Γ.2.2.1) (hS : SI h) (hR : KR h) (hC : KC h) (hT : TI h) (gA : TGA h) (gB : TGB h) (gC : TGC h) (gD : TGD h) (gR : TGR h) (gV : TGV h) (gE : TGE h) (gS : TGS h) (gP : TGP h) (gF : TGF h) (gT : TGT h) (nx : ∀ h' : Hp, SI h' → KR h' → KC h' → TI h' → TGA h' → TGB h' → TGC h' → TGD h' → TGR h' → TGV h' → TGE h' → TGS h' → TGP h' → TGF h' → TGT h' → zL Γ 1581 (lsL i) [] h') : zL Γ 1486 (lsL i) [] h := by
  refine zL_aload_n (pc' := 1487) dL_1486 rfl rfl ?_
  refine zL_aload_n (pc' := 1488) dL_1487 rfl rfl ?_
  refine zL_iload_n (pc' := 1489) dL_1488 rfl rfl ?_
  refine zL_iconst (pc' := 1490) dL_1489 rfl ?_
  refine zL_iadd (pc' := 1491) dL_1490 rfl ?_
  refine zL_sldE (pc' := 1492) (by omega) hm dL_1491 rfl (fun v1491 e1491 q1491 => ?_)
  refine zL_inv (pc' := 1495) hcs kX11_seed vX11_seed lk_L_154 ⟨Nat.le_of_ble_eq_true rfl, Nat.le_of_ble_eq_true rfl⟩ tb30 vq11 rfl [_] (s_X11_seedE hS hR hC _ ⟨e1491.1, e1491.2⟩) dL_1492 rfl (Nat.le_of_ble_eq_true rfl) rfl ?_
  have hC_1492 := hC
  rintro r1492 h1492 ⟨f1492, p1492⟩; have F1492 := f1492; obtain ⟨g1492, hS, hR, hC⟩ := f1492
  have pR1492 : PicRW h1492 := PicRW_un (UnR.rf.fm F1492 rfl) gP.1
  have pC1492 : PicCW h1492 := PicCW_un (KCm hC_1492).2 (UnC.rf.fm F1492 rfl) gP.2
  obtain ⟨p1492_0, p1492_1, p1492_2⟩ := p1492
  have y1492_0_25 : h1492 0 25 = h 0 25 := g1492 0 25 rfl rfl
  have y1492_31_1 : h1492 31 1 = h 31 1 := g1492 31 1 rfl rfl
  have y1492_33_0 : h1492 33 0 = h 33 0 := g1492 33 0 rfl rfl
  have y1492_33_1 : h1492 33 1 = h 33 1 := g1492 33 1 rfl rfl
  have y1492_33_2 : h1492 33 2 = h 33 2 := g1492 33 2 rfl rfl
  have y1492_0_11 : h1492 0 11 = h 0 11 := g1492 0 11 rfl rfl
  have y1492_0_12 : h1492 0 12 = h 0 12 := g1492 0 12 rfl rfl
  have y1492_0_13 : h1492 0 13 = h 0 13 := g1492 0 13 rfl rfl
  have y1492_30_11 : h1492 30 11 = h 30 11 := g1492 30 11 rfl rfl
  have y1492_0_22 : h1492 0 22 = h 0 22 := g1492 0 22 rfl rfl
  have y1492_36_0 : h1492 36 0 = h 36 0 := g1492 36 0 rfl rfl
  have y1492_36_1 : h1492 36 1 = h 36 1 := g1492 36 1 rfl rfl
  have y1492_36_2 : h1492 36 2 = h 36 2 := g1492 36 2 rfl rfl
  have y1492_0_16 : h1492 0 16 = h 0 16 := g1492 0 16 rfl rfl
  have y1492_0_17 : h1492 0 17 = h 0 17 := g1492 0 17 rfl rfl
  have y1492_0_18 : h1492 0 18 = h 0 18 := g1492 0 18 rfl rfl
  have y1492_0_14 : h1492 0 14 = h 0 14 := g1492 0 14 rfl rfl
  have y1492_0_15 : h1492 0 15 = h 0 15 := g1492 0 15 rfl rfl
  have y1492_0_19 : h1492 0 19 = h 0 19 := g1492 0 19 rfl rfl
  have y1492_0_20 : h1492 0 20 = h 0 20 := g1492 0 20 rfl rfl
  have y1492_0_21 : h1492 0 21 = h 0 21 := g1492 0 21 rfl rfl
  have y1492_30_10 : h1492 30 10 = h 30 10 := g1492 30 10 rfl rfl
  have y1492_39_1 : h1492 39 1 = h 39 1 := g1492 39 1 rfl rfl
  have y1492_41_0 : h1492 41 0 = h 41 0 := g1492 41 0 rfl rfl
  have y1492_41_1 : h1492 41 1 = h 41 1 := g1492 41 1 rfl rfl
  have y1492_45_0 : h1492 45 0 = h 45 0 := g1492 45 0 rfl rfl
  have y1492_45_1 : h1492 45 1 = h 45 1 := g1492 45 1 rfl rfl
  have hT1 := hT; have gA1 := gA; have gB1 := gB; have gC1 := gC; have gD1 := gD; have gR1 := gR; have gV1 := gV; have gE1 := gE; have gS1 := gS; have gP1 := gP; have gF1 := gF; have gT1 := gT
  show zL _ _ _ (.inl r1492 :: []) _
  refine zL_pop (pc' := 1496) dL_1495 rfl rfl ?_
  refine zL_aload_n (pc' := 1497) dL_1496 rfl rfl ?_
  refine zL_aload_n (pc' := 1498) dL_1497 rfl rfl ?_
  refine zL_iload_n (pc' := 1499) dL_1498 rfl rfl ?_
  refine zL_iconst (pc' := 1500) dL_1499 rfl ?_
  refine zL_iadd (pc' := 1501) dL_1500 rfl ?_
  refine zL_sldE (pc' := 1502) (by omega) hm dL_1501 rfl (fun v1501 e1501 q1501 => ?_)
  refine zL_inv (pc' := 1505) hcs kX12_seed vX12_seed lk_L_157 ⟨Nat.le_of_ble_eq_true rfl, Nat.le_of_ble_eq_true rfl⟩ tb0 vq12 rfl [_] (s_X12_seedE hS hR hC _ ⟨e1501.1, e1501.2⟩) dL_1502 rfl (Nat.le_of_ble_eq_true rfl) rfl ?_
  have hC_1502 := hC
  rintro r1502 h1502 ⟨f1502, p1502⟩; have F1502 := f1502; obtain ⟨g1502, hS, hR, hC⟩ := f1502
  have pR1502 : PicRW h1502 := PicRW_un (UnR.rf.fm F1502 rfl) pR1492
  have pC1502 : PicCW h1502 := PicCW_un (KCm hC_1502).2 (UnC.rf.fm F1502 rfl) pC1492
  obtain ⟨p1502_0, p1502_1, p1502_2⟩ := p1502
  have y1502_0_25 : h1502 0 25 = h1492 0 25 := g1502 0 25 rfl rfl
  have y1502_31_1 : h1502 31 1 = h1492 31 1 := g1502 31 1 rfl rfl
  have y1502_33_0 : h1502 33 0 = h1492 33 0 := g1502 33 0 rfl rfl
  have y1502_33_1 : h1502 33 1 = h1492 33 1 := g1502 33 1 rfl rfl
  have y1502_33_2 : h1502 33 2 = h1492 33 2 := g1502 33 2 rfl rfl
  have y1502_0_11 : h1502 0 11 = h1492 0 11 := g1502 0 11 rfl rfl
  have y1502_0_12 : h1502 0 12 = h1492 0 12 := g1502 0 12 rfl rfl
  have y1502_0_13 : h1502 0 13 = h1492 0 13 := g1502 0 13 rfl rfl
  have y1502_30_11 : h1502 30 11 = h1492 30 11 := g1502 30 11 rfl rfl
  have y1502_0_22 : h1502 0 22 = h1492 0 22 := g1502 0 22 rfl rfl
  have y1502_36_0 : h1502 36 0 = h1492 36 0 := g1502 36 0 rfl rfl
  have y1502_36_1 : h1502 36 1 = h1492 36 1 := g1502 36 1 rfl rfl
  have y1502_36_2 : h1502 36 2 = h1492 36 2 := g1502 36 2 rfl rfl
  have y1502_0_16 : h1502 0 16 = h1492 0 16 := g1502 0 16 rfl rfl
  have y1502_0_17 : h1502 0 17 = h1492 0 17 := g1502 0 17 rfl rfl
  have y1502_0_18 : h1502 0 18 = h1492 0 18 := g1502 0 18 rfl rfl
  have y1502_0_14 : h1502 0 14 = h1492 0 14 := g1502 0 14 rfl rfl
  have y1502_0_19 : h1502 0 19 = h1492 0 19 := g1502 0 19 rfl rfl
  have y1502_0_20 : h1502 0 20 = h1492 0 20 := g1502 0 20 rfl rfl
  have y1502_0_21 : h1502 0 21 = h1492 0 21 := g1502 0 21 rfl rfl
  have y1502_30_10 : h1502 30 10 = h1492 30 10 := g1502 30 10 rfl rfl
  have y1502_30_12 : h1502 30 12 = h1492 30 12 := g1502 30 12 rfl rfl
  have y1502_39_1 : h1502 39 1 = h1492 39 1 := g1502 39 1 rfl rfl
  have y1502_41_0 : h1502 41 0 = h1492 41 0 := g1502 41 0 rfl rfl
  have y1502_41_1 : h1502 41 1 = h1492 41 1 := g1502 41 1 rfl rfl
  have y1502_45_0 : h1502 45 0 = h1492 45 0 := g1502 45 0 rfl rfl
  have y1502_45_1 : h1502 45 1 = h1492 45 1 := g1502 45 1 rfl rfl
  replace hT : TI h1502 := TI_of hT1 (y1502_0_25.trans y1492_0_25) (y1502_31_1.trans y1492_31_1) (y1502_33_0.trans y1492_33_0) (y1502_33_1.trans y1492_33_1) (y1502_33_2.trans y1492_33_2) (y1502_0_11.trans y1492_0_11) (y1502_0_12.trans y1492_0_12) (y1502_0_13.trans y1492_0_13) (y1502_30_11.trans y1492_30_11) (y1502_0_22.trans y1492_0_22) (y1502_36_0.trans y1492_36_0) (y1502_36_1.trans y1492_36_1) (y1502_36_2.trans y1492_36_2) (y1502_0_16.trans y1492_0_16) (y1502_0_17.trans y1492_0_17) (y1502_0_18.trans y1492_0_18)
  replace gA : TGA h1502 := TGA_of gA1 (fun j => (g1502 1 j rfl rfl).trans (g1492 1 j rfl rfl)) (fun j => (g1502 34 j rfl rfl).trans (g1492 34 j rfl rfl)) (fun j => (g1502 10 j rfl rfl).trans (g1492 10 j rfl rfl)) (fun j => (g1502 35 j rfl rfl).trans (g1492 35 j rfl rfl)) (fun j => (g1502 6 j rfl rfl).trans (g1492 6 j rfl rfl)) (fun j => (g1502 37 j rfl rfl).trans (g1492 37 j rfl rfl)) (fun j => (g1502 11 j rfl rfl).trans (g1492 11 j rfl rfl)) (fun j => (g1502 38 j rfl rfl).trans (g1492 38 j rfl rfl)) ((y1502_0_11).trans (y1492_0_11)) ((y1502_0_12).trans (y1492_0_12)) ((y1502_0_16).trans (y1492_0_16)) ((y1502_0_17).trans (y1492_0_17)) ((y1502_0_22).trans (y1492_0_22))
  replace gB : TGB h1502 := TGB_of gB1 (fun j => (g1502 12 j rfl rfl).trans (g1492 12 j rfl rfl)) (fun j => (g1502 32 j rfl rfl).trans (g1492 32 j rfl rfl)) ((y1502_0_25).trans (y1492_0_25))
  have qe1501 : v1501 = v1491 := by rw [q1501, q1491]
  replace gC : TGC h1502 := by
    have hT2 := hT1
    unfold TI at hT2
    have k1 := KRw hR; have k2 := KRh hR
    clear hcs hm hi
    have d4 := gC1
    unfold TGC at d4 ⊢
    omega
  replace gD : TGD h1502 := TGD_of gD1  ((y1502_41_0).trans (y1492_41_0)) ((y1502_0_14).trans (y1492_0_14)) ((y1502_45_0).trans (y1492_45_0)) ((y1502_0_19).trans (y1492_0_19)) ((y1502_0_22).trans (y1492_0_22))
  replace gR : TGR h1502 := TGR_of gR1 (fun j => (g1502 3 j rfl rfl).trans (g1492 3 j rfl rfl)) (fun j => (g1502 4 j rfl rfl).trans (g1492 4 j rfl rfl)) (fun j => (g1502 5 j rfl rfl).trans (g1492 5 j rfl rfl)) (fun j => (g1502 7 j rfl rfl).trans (g1492 7 j rfl rfl)) (fun j => (g1502 8 j rfl rfl).trans (g1492 8 j rfl rfl)) (fun j => (g1502 9 j rfl rfl).trans (g1492 9 j rfl rfl)) (fun j => (g1502 42 j rfl rfl).trans (g1492 42 j rfl rfl)) (fun j => (g1502 43 j rfl rfl).trans (g1492 43 j rfl rfl)) (fun j => (g1502 44 j rfl rfl).trans (g1492 44 j rfl rfl)) (fun j => (g1502 46 j rfl rfl).trans (g1492 46 j rfl rfl)) (fun j => (g1502 47 j rfl rfl).trans (g1492 47 j rfl rfl)) (fun j => (g1502 48 j rfl rfl).trans (g1492 48 j rfl rfl)) ((y1502_0_14).trans (y1492_0_14)) ((y1502_0_19).trans (y1492_0_19)) ((y1502_0_22).trans (y1492_0_22))
  replace gV : TGV h1502 := TGV_of gV1 (fun j => (g1502 34 j rfl rfl).trans (g1492 34 j rfl rfl)) (fun j => (g1502 37 j rfl rfl).trans (g1492 37 j rfl rfl)) ((y1502_0_22).trans (y1492_0_22))
  replace gE : TGE h1502 := TGE_of gE1 (fun j => (g1502 3 j rfl rfl).trans (g1492 3 j rfl rfl)) (fun j => (g1502 7 j rfl rfl).trans (g1492 7 j rfl rfl)) ((y1502_0_14).trans (y1492_0_14)) ((y1502_0_19).trans (y1492_0_19)) ((y1502_0_22).trans (y1492_0_22))
  replace gS : TGS h1502 := TGS_of gS1 (fun j => (g1502 3 j rfl rfl).trans (g1492 3 j rfl rfl)) (fun j => (g1502 4 j rfl rfl).trans (g1492 4 j rfl rfl)) (fun j => (g1502 5 j rfl rfl).trans (g1492 5 j rfl rfl)) (fun j => (g1502 7 j rfl rfl).trans (g1492 7 j rfl rfl)) (fun j => (g1502 8 j rfl rfl).trans (g1492 8 j rfl rfl)) (fun j => (g1502 9 j rfl rfl).trans (g1492 9 j rfl rfl)) ((y1502_0_14).trans (y1492_0_14)) ((y1502_0_19).trans (y1492_0_19)) ((y1502_0_22).trans (y1492_0_22))
  replace gP : TGP h1502 := by
    have hT2 := hT1
    unfold TI at hT2
    have k1 := KRw hR; have k2 := KRh hR
    clear hcs hm hi
    exact ⟨pR1502, pC1502⟩
  replace gF : TGF h1502 := TGF_of gF1 (fun j => (g1502 3 j rfl rfl).trans (g1492 3 j rfl rfl)) (fun j => (g1502 7 j rfl rfl).trans (g1492 7 j rfl rfl)) ((y1502_41_1).trans (y1492_41_1)) ((y1502_0_14).trans (y1492_0_14)) ((y1502_45_1).trans (y1492_45_1)) ((y1502_0_19).trans (y1492_0_19)) ((y1502_0_22).trans (y1492_0_22))
  replace gT : TGT h1502 := TGT_of gT1 (fun j => (g1502 2 j rfl rfl).trans (g1492 2 j rfl rfl)) (fun j => (g1502 40 j rfl rfl).trans (g1492 40 j rfl rfl)) ((y1502_39_1).trans (y1492_39_1)) ((y1502_0_21).trans (y1492_0_21)) ((y1502_0_11).trans (y1492_0_11)) ((y1502_0_12).trans (y1492_0_12))
  show zL _ _ _ (.inl r1502 :: []) _
  refine zL_pop (pc' := 1506) dL_1505 rfl rfl ?_
  refine zL_goto (tgt := 1581) dL_1506 rfl ?_
  exact nx _ hS hR hC hT gA gB gC gD gR gV gE gS gP gF gT
