/-! the law's cases, further -/
set_option maxHeartbeats 4000000 in
theorem lc_0 {Γ : Lc} {i : Int} {h : Hp} (hX : XI Γ.1) (hcs : Γ.2.2.2.2.2.1 ≤ room_1.cells ∧ Γ.2.2.2.2.2.2 ≤ room_1.slots) (hm : Γ.2.2.1 < 2147483648) (hi : 0 ≤ i ∧ i + 6 ≤ Γ.2.2.1) (hS : SI h) (hR : KR h) (hC : KC h) (hT : TI h) (gA : TGA h) (gB : TGB h) (gC : TGC h) (gD : TGD h) (gR : TGR h) (gV : TGV h) (gE : TGE h) (gS : TGS h) (gP : TGP h) (gF : TGF h) (nx : ∀ h' : Hp, SI h' → KR h' → KC h' → TI h' → TGA h' → TGB h' → TGC h' → TGD h' → TGR h' → TGV h' → TGE h' → TGS h' → TGP h' → TGF h' → zL Γ 1580 (lsL i) [] h') : zL Γ 200 (lsL i) [] h := by
  refine zL_aload_n (pc' := 201) dL_200 rfl rfl ?_
  refine zL_aload_n (pc' := 202) dL_201 rfl rfl ?_
  refine zL_iload_n (pc' := 203) dL_202 rfl rfl ?_
  refine zL_iconst (pc' := 204) dL_203 rfl ?_
  refine zL_iadd (pc' := 205) dL_204 rfl ?_
  refine zL_sldE (pc' := 206) (by omega) hm dL_205 rfl (fun v205 e205 q205 => ?_)
  refine zL_aload_n (pc' := 207) dL_206 rfl rfl ?_
  refine zL_iload_n (pc' := 208) dL_207 rfl rfl ?_
  refine zL_iconst (pc' := 209) dL_208 rfl ?_
  refine zL_iadd (pc' := 210) dL_209 rfl ?_
  refine zL_sldE (pc' := 211) (by omega) hm dL_210 rfl (fun v210 e210 q210 => ?_)
  refine zL_aload_n (pc' := 212) dL_211 rfl rfl ?_
  refine zL_iload_n (pc' := 213) dL_212 rfl rfl ?_
  refine zL_iconst (pc' := 214) dL_213 rfl ?_
  refine zL_iadd (pc' := 215) dL_214 rfl ?_
  refine zL_sldE (pc' := 216) (by omega) hm dL_215 rfl (fun v215 e215 q215 => ?_)
  refine zL_aload_n (pc' := 217) dL_216 rfl rfl ?_
  refine zL_iload_n (pc' := 218) dL_217 rfl rfl ?_
  refine zL_iconst (pc' := 219) dL_218 rfl ?_
  refine zL_iadd (pc' := 220) dL_219 rfl ?_
  refine zL_sldE (pc' := 221) (by omega) hm dL_220 rfl (fun v220 e220 q220 => ?_)
  refine zL_aload_n (pc' := 222) dL_221 rfl rfl ?_
  refine zL_iload_n (pc' := 223) dL_222 rfl rfl ?_
  refine zL_iconst (pc' := 224) dL_223 rfl ?_
  refine zL_iadd (pc' := 225) dL_224 rfl ?_
  refine zL_sldE (pc' := 226) (by omega) hm dL_225 rfl (fun v225 e225 q225 => ?_)
  refine zL_inv (pc' := 229) hcs kX11_feed vX11_feed lk_L_13 ⟨Nat.le_of_ble_eq_true rfl, Nat.le_of_ble_eq_true rfl⟩ tb30 vq11 rfl [_, _, _, _, _] (s_X11_feedE hS hR hC _ ⟨e205.1, e205.2⟩ _ ⟨e210.1, e210.2⟩ _ ⟨e215.1, e215.2⟩ _ ⟨e220.1, e220.2⟩ _ ⟨e225.1, e225.2⟩) dL_226 rfl (Nat.le_of_ble_eq_true rfl) rfl ?_
  have hC_226 := hC
  rintro r226 h226 ⟨f226, p226⟩; have F226 := f226; obtain ⟨g226, hS, hR, hC⟩ := f226
  have pR226 : PicRW h226 := PicRW_un (UnR.rf.fm F226 rfl) gP.1
  have pC226 : PicCW h226 := PicCW_un (KCm hC_226).2 (UnC.rf.fm F226 rfl) gP.2
  obtain ⟨p226_0, a226_0⟩ := p226
  have y226_0_25 : h226 0 25 = h 0 25 := g226 0 25 rfl rfl
  have y226_33_0 : h226 33 0 = h 33 0 := g226 33 0 rfl rfl
  have y226_33_1 : h226 33 1 = h 33 1 := g226 33 1 rfl rfl
  have y226_33_2 : h226 33 2 = h 33 2 := g226 33 2 rfl rfl
  have y226_0_11 : h226 0 11 = h 0 11 := g226 0 11 rfl rfl
  have y226_0_12 : h226 0 12 = h 0 12 := g226 0 12 rfl rfl
  have y226_0_13 : h226 0 13 = h 0 13 := g226 0 13 rfl rfl
  have y226_30_11 : h226 30 11 = h 30 11 := g226 30 11 rfl rfl
  have y226_0_22 : h226 0 22 = h 0 22 := g226 0 22 rfl rfl
  have y226_36_0 : h226 36 0 = h 36 0 := g226 36 0 rfl rfl
  have y226_36_1 : h226 36 1 = h 36 1 := g226 36 1 rfl rfl
  have y226_36_2 : h226 36 2 = h 36 2 := g226 36 2 rfl rfl
  have y226_0_16 : h226 0 16 = h 0 16 := g226 0 16 rfl rfl
  have y226_0_17 : h226 0 17 = h 0 17 := g226 0 17 rfl rfl
  have y226_0_18 : h226 0 18 = h 0 18 := g226 0 18 rfl rfl
  have y226_0_14 : h226 0 14 = h 0 14 := g226 0 14 rfl rfl
  have y226_0_15 : h226 0 15 = h 0 15 := g226 0 15 rfl rfl
  have y226_0_19 : h226 0 19 = h 0 19 := g226 0 19 rfl rfl
  have y226_0_20 : h226 0 20 = h 0 20 := g226 0 20 rfl rfl
  have y226_30_10 : h226 30 10 = h 30 10 := g226 30 10 rfl rfl
  have y226_30_12 : h226 30 12 = h 30 12 := g226 30 12 rfl rfl
  have y226_41_0 : h226 41 0 = h 41 0 := g226 41 0 rfl rfl
  have y226_41_1 : h226 41 1 = h 41 1 := g226 41 1 rfl rfl
  have y226_45_0 : h226 45 0 = h 45 0 := g226 45 0 rfl rfl
  have y226_45_1 : h226 45 1 = h 45 1 := g226 45 1 rfl rfl
  have hT1 := hT; have gA1 := gA; have gB1 := gB; have gC1 := gC; have gD1 := gD; have gR1 := gR; have gV1 := gV; have gE1 := gE; have gS1 := gS; have gP1 := gP; have gF1 := gF
  show zL _ _ _ (.inl r226 :: []) _
  refine zL_pop (pc' := 230) dL_229 rfl rfl ?_
  refine zL_aload_n (pc' := 231) dL_230 rfl rfl ?_
  refine zL_aload_n (pc' := 232) dL_231 rfl rfl ?_
  refine zL_iload_n (pc' := 233) dL_232 rfl rfl ?_
  refine zL_iconst (pc' := 234) dL_233 rfl ?_
  refine zL_iadd (pc' := 235) dL_234 rfl ?_
  refine zL_sldE (pc' := 236) (by omega) hm dL_235 rfl (fun v235 e235 q235 => ?_)
  refine zL_aload_n (pc' := 237) dL_236 rfl rfl ?_
  refine zL_iload_n (pc' := 238) dL_237 rfl rfl ?_
  refine zL_iconst (pc' := 239) dL_238 rfl ?_
  refine zL_iadd (pc' := 240) dL_239 rfl ?_
  refine zL_sldE (pc' := 241) (by omega) hm dL_240 rfl (fun v240 e240 q240 => ?_)
  refine zL_aload_n (pc' := 242) dL_241 rfl rfl ?_
  refine zL_iload_n (pc' := 243) dL_242 rfl rfl ?_
  refine zL_iconst (pc' := 244) dL_243 rfl ?_
  refine zL_iadd (pc' := 245) dL_244 rfl ?_
  refine zL_sldE (pc' := 246) (by omega) hm dL_245 rfl (fun v245 e245 q245 => ?_)
  refine zL_aload_n (pc' := 247) dL_246 rfl rfl ?_
  refine zL_iload_n (pc' := 248) dL_247 rfl rfl ?_
  refine zL_iconst (pc' := 249) dL_248 rfl ?_
  refine zL_iadd (pc' := 250) dL_249 rfl ?_
  refine zL_sldE (pc' := 251) (by omega) hm dL_250 rfl (fun v250 e250 q250 => ?_)
  refine zL_aload_n (pc' := 252) dL_251 rfl rfl ?_
  refine zL_iload_n (pc' := 253) dL_252 rfl rfl ?_
  refine zL_iconst (pc' := 254) dL_253 rfl ?_
  refine zL_iadd (pc' := 255) dL_254 rfl ?_
  refine zL_sldE (pc' := 256) (by omega) hm dL_255 rfl (fun v255 e255 q255 => ?_)
  refine zL_inv (pc' := 259) hcs kX12_feed vX12_feed lk_L_17 ⟨Nat.le_of_ble_eq_true rfl, Nat.le_of_ble_eq_true rfl⟩ tb0 vq12 rfl [_, _, _, _, _] (s_X12_feedE hS hR hC _ ⟨e235.1, e235.2⟩ _ ⟨e240.1, e240.2⟩ _ ⟨e245.1, e245.2⟩ _ ⟨e250.1, e250.2⟩ _ ⟨e255.1, e255.2⟩) dL_256 rfl (Nat.le_of_ble_eq_true rfl) rfl ?_
  have hC_256 := hC
  rintro r256 h256 ⟨f256, p256⟩; have F256 := f256; obtain ⟨g256, hS, hR, hC⟩ := f256
  have pR256 : PicRW h256 := PicRW_un (UnR.rf.fm F256 rfl) pR226
  have pC256 : PicCW h256 := PicCW_un (KCm hC_256).2 (UnC.rf.fm F256 rfl) pC226
  obtain ⟨p256_0, a256_0⟩ := p256
  have y256_31_1 : h256 31 1 = h226 31 1 := g256 31 1 rfl rfl
  have y256_33_0 : h256 33 0 = h226 33 0 := g256 33 0 rfl rfl
  have y256_33_1 : h256 33 1 = h226 33 1 := g256 33 1 rfl rfl
  have y256_33_2 : h256 33 2 = h226 33 2 := g256 33 2 rfl rfl
  have y256_0_11 : h256 0 11 = h226 0 11 := g256 0 11 rfl rfl
  have y256_0_12 : h256 0 12 = h226 0 12 := g256 0 12 rfl rfl
  have y256_0_13 : h256 0 13 = h226 0 13 := g256 0 13 rfl rfl
  have y256_30_11 : h256 30 11 = h226 30 11 := g256 30 11 rfl rfl
  have y256_0_22 : h256 0 22 = h226 0 22 := g256 0 22 rfl rfl
  have y256_36_0 : h256 36 0 = h226 36 0 := g256 36 0 rfl rfl
  have y256_36_1 : h256 36 1 = h226 36 1 := g256 36 1 rfl rfl
  have y256_36_2 : h256 36 2 = h226 36 2 := g256 36 2 rfl rfl
  have y256_0_16 : h256 0 16 = h226 0 16 := g256 0 16 rfl rfl
  have y256_0_17 : h256 0 17 = h226 0 17 := g256 0 17 rfl rfl
  have y256_0_18 : h256 0 18 = h226 0 18 := g256 0 18 rfl rfl
  have y256_0_14 : h256 0 14 = h226 0 14 := g256 0 14 rfl rfl
  have y256_0_15 : h256 0 15 = h226 0 15 := g256 0 15 rfl rfl
  have y256_0_19 : h256 0 19 = h226 0 19 := g256 0 19 rfl rfl
  have y256_0_20 : h256 0 20 = h226 0 20 := g256 0 20 rfl rfl
  have y256_30_10 : h256 30 10 = h226 30 10 := g256 30 10 rfl rfl
  have y256_30_12 : h256 30 12 = h226 30 12 := g256 30 12 rfl rfl
  have y256_41_0 : h256 41 0 = h226 41 0 := g256 41 0 rfl rfl
  have y256_41_1 : h256 41 1 = h226 41 1 := g256 41 1 rfl rfl
  have y256_45_0 : h256 45 0 = h226 45 0 := g256 45 0 rfl rfl
  have y256_45_1 : h256 45 1 = h226 45 1 := g256 45 1 rfl rfl
  have qe235 : v235 = v205 := by rw [q235, q205]
  have qe240 : v240 = v210 := by rw [q240, q210]
  have qe245 : v245 = v215 := by rw [q245, q215]
  have qe250 : v250 = v220 := by rw [q250, q220]
  have qe255 : v255 = v225 := by rw [q255, q225]
  replace hT : TI h256 := by
    have hT2 := hT1
    unfold TI at hT2 ⊢
    omega
  replace gA : TGA h256 := TGA_of gA1 (fun j => (g256 1 j rfl rfl).trans (g226 1 j rfl rfl)) (fun j => (g256 34 j rfl rfl).trans (g226 34 j rfl rfl)) (fun j => (g256 10 j rfl rfl).trans (g226 10 j rfl rfl)) (fun j => (g256 35 j rfl rfl).trans (g226 35 j rfl rfl)) (fun j => (g256 6 j rfl rfl).trans (g226 6 j rfl rfl)) (fun j => (g256 37 j rfl rfl).trans (g226 37 j rfl rfl)) (fun j => (g256 11 j rfl rfl).trans (g226 11 j rfl rfl)) (fun j => (g256 38 j rfl rfl).trans (g226 38 j rfl rfl)) ((y256_0_11).trans (y226_0_11)) ((y256_0_12).trans (y226_0_12)) ((y256_0_16).trans (y226_0_16)) ((y256_0_17).trans (y226_0_17)) ((y256_0_22).trans (y226_0_22))
  replace gB : TGB h256 := by
    have hT2 := hT1
    unfold TI at hT2
    have k1 := KRw hR; have k2 := KRh hR
    clear hcs hm hi
    intro j hj
    have d3 := gB1 j; have f226_12 := g226 12 j rfl rfl; have fa226_0 := a226_0 j; have f256_32 := g256 32 j rfl rfl; have fa256_0 := a256_0 j; have ef : fb v235 v240 v245 v250 v255 ((j : Int) - h226 0 25) = fb v205 v210 v215 v220 v225 ((j : Int) - h 31 1) := (by rw [qe235, qe240, qe245, qe250, qe255, y226_0_25, hT2.1])
    have l25 : h226 0 25 = h 31 1 := y226_0_25.trans hT2.1.symm
    rw [l25] at p256_0 fa256_0 ef
    rw [f256_32]
    rcases p256_0 with ⟨z1, z2, z3⟩ | ⟨z1, z2, z3⟩
    · rw [z3] at hj
      by_cases c : (j : Int) < h 31 1
      · rw [fa226_0.1 c, fa256_0.1 c, f226_12]; exact d3 (by rw [← hT2.1]; exact c)
      · rw [fa226_0.2.1 z1 (Int.not_lt.mp c) hj, fa256_0.2.1 z1 (Int.not_lt.mp c) hj, ef]
    · rw [z3] at hj
      rw [fa226_0.2.2 z1, fa256_0.2.2 z1, f226_12]; exact d3 (by rw [← hT2.1]; exact hj)
  replace gC : TGC h256 := TGC_of gC1  ((y256_0_15).trans (y226_0_15)) ((y256_30_12).trans (y226_30_12)) ((y256_0_11).trans (y226_0_11)) ((y256_0_12).trans (y226_0_12)) ((y256_0_20).trans (y226_0_20)) ((y256_30_10).trans (y226_30_10)) ((y256_0_16).trans (y226_0_16)) ((y256_0_17).trans (y226_0_17)) ((y256_0_22).trans (y226_0_22))
  replace gD : TGD h256 := TGD_of gD1  ((y256_41_0).trans (y226_41_0)) ((y256_0_14).trans (y226_0_14)) ((y256_45_0).trans (y226_45_0)) ((y256_0_19).trans (y226_0_19)) ((y256_0_22).trans (y226_0_22))
  replace gR : TGR h256 := TGR_of gR1 (fun j => (g256 3 j rfl rfl).trans (g226 3 j rfl rfl)) (fun j => (g256 4 j rfl rfl).trans (g226 4 j rfl rfl)) (fun j => (g256 5 j rfl rfl).trans (g226 5 j rfl rfl)) (fun j => (g256 7 j rfl rfl).trans (g226 7 j rfl rfl)) (fun j => (g256 8 j rfl rfl).trans (g226 8 j rfl rfl)) (fun j => (g256 9 j rfl rfl).trans (g226 9 j rfl rfl)) (fun j => (g256 42 j rfl rfl).trans (g226 42 j rfl rfl)) (fun j => (g256 43 j rfl rfl).trans (g226 43 j rfl rfl)) (fun j => (g256 44 j rfl rfl).trans (g226 44 j rfl rfl)) (fun j => (g256 46 j rfl rfl).trans (g226 46 j rfl rfl)) (fun j => (g256 47 j rfl rfl).trans (g226 47 j rfl rfl)) (fun j => (g256 48 j rfl rfl).trans (g226 48 j rfl rfl)) ((y256_0_14).trans (y226_0_14)) ((y256_0_19).trans (y226_0_19)) ((y256_0_22).trans (y226_0_22))
  replace gV : TGV h256 := TGV_of gV1 (fun j => (g256 34 j rfl rfl).trans (g226 34 j rfl rfl)) (fun j => (g256 37 j rfl rfl).trans (g226 37 j rfl rfl)) ((y256_0_22).trans (y226_0_22))
  replace gE : TGE h256 := TGE_of gE1 (fun j => (g256 3 j rfl rfl).trans (g226 3 j rfl rfl)) (fun j => (g256 7 j rfl rfl).trans (g226 7 j rfl rfl)) ((y256_0_14).trans (y226_0_14)) ((y256_0_19).trans (y226_0_19)) ((y256_0_22).trans (y226_0_22))
  replace gS : TGS h256 := TGS_of gS1 (fun j => (g256 3 j rfl rfl).trans (g226 3 j rfl rfl)) (fun j => (g256 4 j rfl rfl).trans (g226 4 j rfl rfl)) (fun j => (g256 5 j rfl rfl).trans (g226 5 j rfl rfl)) (fun j => (g256 7 j rfl rfl).trans (g226 7 j rfl rfl)) (fun j => (g256 8 j rfl rfl).trans (g226 8 j rfl rfl)) (fun j => (g256 9 j rfl rfl).trans (g226 9 j rfl rfl)) ((y256_0_14).trans (y226_0_14)) ((y256_0_19).trans (y226_0_19)) ((y256_0_22).trans (y226_0_22))
  replace gP : TGP h256 := by
    have hT2 := hT1
    unfold TI at hT2
    have k1 := KRw hR; have k2 := KRh hR
    clear hcs hm hi
    exact ⟨pR256, pC256⟩
  replace gF : TGF h256 := TGF_of gF1 (fun j => (g256 3 j rfl rfl).trans (g226 3 j rfl rfl)) (fun j => (g256 7 j rfl rfl).trans (g226 7 j rfl rfl)) ((y256_41_1).trans (y226_41_1)) ((y256_0_14).trans (y226_0_14)) ((y256_45_1).trans (y226_45_1)) ((y256_0_19).trans (y226_0_19)) ((y256_0_22).trans (y226_0_22))
  show zL _ _ _ (.inl r256 :: []) _
  refine zL_pop (pc' := 260) dL_259 rfl rfl ?_
  refine zL_goto (tgt := 1580) dL_260 rfl ?_
  exact nx _ hS hR hC hT gA gB gC gD gR gV gE gS gP gF
set_option maxHeartbeats 4000000 in
theorem lc_1 {Γ : Lc} {i : Int} {h : Hp} (hX : XI Γ.1) (hcs : Γ.2.2.2.2.2.1 ≤ room_1.cells ∧ Γ.2.2.2.2.2.2 ≤ room_1.slots) (hm : Γ.2.2.1 < 2147483648) (hi : 0 ≤ i ∧ i + 6 ≤ Γ.2.2.1) (hS : SI h) (hR : KR h) (hC : KC h) (hT : TI h) (gA : TGA h) (gB : TGB h) (gC : TGC h) (gD : TGD h) (gR : TGR h) (gV : TGV h) (gE : TGE h) (gS : TGS h) (gP : TGP h) (gF : TGF h) (nx : ∀ h' : Hp, SI h' → KR h' → KC h' → TI h' → TGA h' → TGB h' → TGC h' → TGD h' → TGR h' → TGV h' → TGE h' → TGS h' → TGP h' → TGF h' → zL Γ 1580 (lsL i) [] h') : zL Γ 263 (lsL i) [] h := by
  refine zL_aload_n (pc' := 264) dL_263 rfl rfl ?_
  refine zL_aload_n (pc' := 265) dL_264 rfl rfl ?_
  refine zL_iload_n (pc' := 266) dL_265 rfl rfl ?_
  refine zL_iconst (pc' := 267) dL_266 rfl ?_
  refine zL_iadd (pc' := 268) dL_267 rfl ?_
  refine zL_sldE (pc' := 269) (by omega) hm dL_268 rfl (fun v268 e268 q268 => ?_)
  have hg269 : hr (h 32) v268 = hr (h 32) v268 := rfl
  have hb : v268 ≤ h 31 1 → ∀ q : Int, -1 ≤ hr (h 32) v268 q ∧ hr (h 32) v268 q ≤ 255 := fun hl q => by have z2 := hT; unfold TI at z2; unfold hr; by_cases c : 0 ≤ q ∧ q < v268; (rw [if_pos c]; have z := gB q.toNat (by omega); omega); (rw [if_neg c]; omega)
  refine zL_inv (pc' := 272) hcs kX11_stages vX11_stages lk_L_18 ⟨Nat.le_of_ble_eq_true rfl, Nat.le_of_ble_eq_true rfl⟩ tb30 vq11 rfl [_] (s_X11_stagesQ hS hR hC _ ⟨e268.1, e268.2⟩ _ hg269 hb hX) dL_269 rfl (Nat.le_of_ble_eq_true rfl) rfl ?_
  have hC_269 := hC
  rintro r269 h269 ⟨f269, p269⟩; have F269 := f269; obtain ⟨g269, hS, hR, hC⟩ := f269
  obtain ⟨p269, ch269⟩ := p269
  have pR269 : PicRW h269 := PicRW_un (UnR.rf.fm F269 rfl) gP.1
  have pC269 : PicCW h269 := PicCW_ch hC_269 hC ch269 gP.2
  have y269_0_25 : h269 0 25 = h 0 25 := g269 0 25 rfl rfl
  have y269_33_0 : h269 33 0 = h 33 0 := g269 33 0 rfl rfl
  have y269_33_1 : h269 33 1 = h 33 1 := g269 33 1 rfl rfl
  have y269_33_2 : h269 33 2 = h 33 2 := g269 33 2 rfl rfl
  have y269_0_11 : h269 0 11 = h 0 11 := g269 0 11 rfl rfl
  have y269_0_12 : h269 0 12 = h 0 12 := g269 0 12 rfl rfl
  have y269_0_13 : h269 0 13 = h 0 13 := g269 0 13 rfl rfl
  have y269_30_11 : h269 30 11 = h 30 11 := g269 30 11 rfl rfl
  have y269_0_22 : h269 0 22 = h 0 22 := g269 0 22 rfl rfl
  have y269_36_0 : h269 36 0 = h 36 0 := g269 36 0 rfl rfl
  have y269_36_1 : h269 36 1 = h 36 1 := g269 36 1 rfl rfl
  have y269_36_2 : h269 36 2 = h 36 2 := g269 36 2 rfl rfl
  have y269_0_16 : h269 0 16 = h 0 16 := g269 0 16 rfl rfl
  have y269_0_17 : h269 0 17 = h 0 17 := g269 0 17 rfl rfl
  have y269_0_18 : h269 0 18 = h 0 18 := g269 0 18 rfl rfl
  have y269_0_14 : h269 0 14 = h 0 14 := g269 0 14 rfl rfl
  have y269_0_15 : h269 0 15 = h 0 15 := g269 0 15 rfl rfl
  have y269_0_19 : h269 0 19 = h 0 19 := g269 0 19 rfl rfl
  have y269_0_20 : h269 0 20 = h 0 20 := g269 0 20 rfl rfl
  have y269_30_10 : h269 30 10 = h 30 10 := g269 30 10 rfl rfl
  have y269_30_12 : h269 30 12 = h 30 12 := g269 30 12 rfl rfl
  have y269_45_0 : h269 45 0 = h 45 0 := g269 45 0 rfl rfl
  have y269_45_1 : h269 45 1 = h 45 1 := g269 45 1 rfl rfl
  have hT1 := hT; have gA1 := gA; have gB1 := gB; have gC1 := gC; have gD1 := gD; have gR1 := gR; have gV1 := gV; have gE1 := gE; have gS1 := gS; have gP1 := gP; have gF1 := gF
  show zL _ _ _ (.inl r269 :: []) _
  refine zL_pop (pc' := 273) dL_272 rfl rfl ?_
  refine zL_aload_n (pc' := 274) dL_273 rfl rfl ?_
  refine zL_aload_n (pc' := 275) dL_274 rfl rfl ?_
  refine zL_iload_n (pc' := 276) dL_275 rfl rfl ?_
  refine zL_iconst (pc' := 277) dL_276 rfl ?_
  refine zL_iadd (pc' := 278) dL_277 rfl ?_
  refine zL_sldE (pc' := 279) (by omega) hm dL_278 rfl (fun v278 e278 q278 => ?_)
  have qs279 : v278 = v268 := by rw [q278, q268]
  have hg279 : v278 ≤ h269 0 25 → hr (fun i => h269 12 i % 256) v278 = hr (h 32) v268 := fun hl => by rw [qs279] at hl ⊢; exact hr_cong (fun j hj => by show h269 12 j % 256 = h 32 j; rw [g269 12 j rfl rfl]; exact (gB1 j (by have z := g269 0 25 rfl rfl; omega)).symm)
  refine zL_inv (pc' := 282) hcs kX12_stages vX12_stages lk_L_22 ⟨Nat.le_of_ble_eq_true rfl, Nat.le_of_ble_eq_true rfl⟩ tb0 vq12 rfl [_] (s_X12_stagesQ hS hR hC _ ⟨e278.1, e278.2⟩ _ hg279) dL_279 rfl (Nat.le_of_ble_eq_true rfl) rfl ?_
  have hC_279 := hC
  rintro r279 h279 ⟨f279, p279⟩; have F279 := f279; obtain ⟨g279, hS, hR, hC⟩ := f279
  obtain ⟨p279, ch279⟩ := p279
  have pR279 : PicRW h279 := PicRW_ch ch279 pR269
  have pC279 : PicCW h279 := PicCW_un (KCm hC_279).2 (UnC.rf.fm F279 rfl) pC269
  have y279_31_1 : h279 31 1 = h269 31 1 := g279 31 1 rfl rfl
  have y279_33_0 : h279 33 0 = h269 33 0 := g279 33 0 rfl rfl
  have y279_33_1 : h279 33 1 = h269 33 1 := g279 33 1 rfl rfl
  have y279_33_2 : h279 33 2 = h269 33 2 := g279 33 2 rfl rfl
  have y279_0_11 : h279 0 11 = h269 0 11 := g279 0 11 rfl rfl
  have y279_0_12 : h279 0 12 = h269 0 12 := g279 0 12 rfl rfl
  have y279_0_13 : h279 0 13 = h269 0 13 := g279 0 13 rfl rfl
  have y279_30_11 : h279 30 11 = h269 30 11 := g279 30 11 rfl rfl
  have y279_0_22 : h279 0 22 = h269 0 22 := g279 0 22 rfl rfl
  have y279_36_0 : h279 36 0 = h269 36 0 := g279 36 0 rfl rfl
  have y279_36_1 : h279 36 1 = h269 36 1 := g279 36 1 rfl rfl
  have y279_36_2 : h279 36 2 = h269 36 2 := g279 36 2 rfl rfl
  have y279_0_16 : h279 0 16 = h269 0 16 := g279 0 16 rfl rfl
  have y279_0_17 : h279 0 17 = h269 0 17 := g279 0 17 rfl rfl
  have y279_0_18 : h279 0 18 = h269 0 18 := g279 0 18 rfl rfl
  have y279_0_15 : h279 0 15 = h269 0 15 := g279 0 15 rfl rfl
  have y279_0_19 : h279 0 19 = h269 0 19 := g279 0 19 rfl rfl
  have y279_0_20 : h279 0 20 = h269 0 20 := g279 0 20 rfl rfl
  have y279_30_10 : h279 30 10 = h269 30 10 := g279 30 10 rfl rfl
  have y279_30_12 : h279 30 12 = h269 30 12 := g279 30 12 rfl rfl
  have y279_41_0 : h279 41 0 = h269 41 0 := g279 41 0 rfl rfl
  have y279_41_1 : h279 41 1 = h269 41 1 := g279 41 1 rfl rfl
  have y279_45_0 : h279 45 0 = h269 45 0 := g279 45 0 rfl rfl
  have y279_45_1 : h279 45 1 = h269 45 1 := g279 45 1 rfl rfl
  have qe278 : v278 = v268 := by rw [q278, q268]
  replace hT : TI h279 := by
    have hT2 := hT1
    unfold TI at hT2 ⊢
    omega
  replace gA : TGA h279 := TGA_of gA1 (fun j => (g279 1 j rfl rfl).trans (g269 1 j rfl rfl)) (fun j => (g279 34 j rfl rfl).trans (g269 34 j rfl rfl)) (fun j => (g279 10 j rfl rfl).trans (g269 10 j rfl rfl)) (fun j => (g279 35 j rfl rfl).trans (g269 35 j rfl rfl)) (fun j => (g279 6 j rfl rfl).trans (g269 6 j rfl rfl)) (fun j => (g279 37 j rfl rfl).trans (g269 37 j rfl rfl)) (fun j => (g279 11 j rfl rfl).trans (g269 11 j rfl rfl)) (fun j => (g279 38 j rfl rfl).trans (g269 38 j rfl rfl)) ((y279_0_11).trans (y269_0_11)) ((y279_0_12).trans (y269_0_12)) ((y279_0_16).trans (y269_0_16)) ((y279_0_17).trans (y269_0_17)) ((y279_0_22).trans (y269_0_22))
  replace gB : TGB h279 := by
    have hT2 := hT1
    unfold TI at hT2
    have k1 := KRw hR; have k2 := KRh hR
    clear hcs hm hi
    intro j hj
    have d3 := gB1 j; have f269_12 := g269 12 j rfl rfl; have f269_32 := g269 32 j rfl rfl; have f279_12 := g279 12 j rfl rfl; have f279_32 := g279 32 j rfl rfl; omega
  replace gC : TGC h279 := TGC_of gC1  ((y279_0_15).trans (y269_0_15)) ((y279_30_12).trans (y269_30_12)) ((y279_0_11).trans (y269_0_11)) ((y279_0_12).trans (y269_0_12)) ((y279_0_20).trans (y269_0_20)) ((y279_30_10).trans (y269_30_10)) ((y279_0_16).trans (y269_0_16)) ((y279_0_17).trans (y269_0_17)) ((y279_0_22).trans (y269_0_22))
  replace gD : TGD h279 := by
    have hT2 := hT1
    unfold TI at hT2
    have k1 := KRw hR; have k2 := KRh hR
    clear hcs hm hi
    rw [qe278] at p279
    have d4 := gD1
    unfold TGD at d4 ⊢
    omega
  replace gR : TGR h279 := by
    have hT2 := hT1
    unfold TI at hT2
    have k1 := KRw hR; have k2 := KRh hR
    clear hcs hm hi
    have b64 := KCst hC; have b64k := hC.2.2.2.1.2.2; have m1 := KRm hR
    have u269_3 : h269 3 = h 3 := funext fun j => g269 3 j rfl rfl
    have u269_4 : h269 4 = h 4 := funext fun j => g269 4 j rfl rfl
    have u269_5 : h269 5 = h 5 := funext fun j => g269 5 j rfl rfl
    have u269_7 : h269 7 = h 7 := funext fun j => g269 7 j rfl rfl
    have u269_8 : h269 8 = h 8 := funext fun j => g269 8 j rfl rfl
    have u269_9 : h269 9 = h 9 := funext fun j => g269 9 j rfl rfl
    have u269_46 : h269 46 = h 46 := funext fun j => g269 46 j rfl rfl
    have u269_47 : h269 47 = h 47 := funext fun j => g269 47 j rfl rfl
    have u269_48 : h269 48 = h 48 := funext fun j => g269 48 j rfl rfl
    have u279_7 : h279 7 = h269 7 := funext fun j => g279 7 j rfl rfl
    have u279_8 : h279 8 = h269 8 := funext fun j => g279 8 j rfl rfl
    have u279_9 : h279 9 = h269 9 := funext fun j => g279 9 j rfl rfl
    have u279_42 : h279 42 = h269 42 := funext fun j => g279 42 j rfl rfl
    have u279_43 : h279 43 = h269 43 := funext fun j => g279 43 j rfl rfl
    have u279_44 : h279 44 = h269 44 := funext fun j => g279 44 j rfl rfl
    have u279_46 : h279 46 = h269 46 := funext fun j => g279 46 j rfl rfl
    have u279_47 : h279 47 = h269 47 := funext fun j => g279 47 j rfl rfl
    have u279_48 : h279 48 = h269 48 := funext fun j => g279 48 j rfl rfl
    unfold TGR at gR1 ⊢
    rw [qe278] at p279
    refine ⟨?_, by intro q; rw [show h279 7 = h 7 from (u279_7.trans u269_7), show h279 8 = h 8 from (u279_8.trans u269_8), show h279 9 = h 9 from (u279_9.trans u269_9), show h279 46 = h 46 from (u279_46.trans u269_46), show h279 47 = h 47 from (u279_47.trans u269_47), show h279 48 = h 48 from (u279_48.trans u269_48), y279_0_19, y269_0_19]; exact gR1.2 (by omega)⟩
    by_cases c : 0 ≤ r269
    · have rr : r279 = r269 := by omega
      have t := RW.tr c (p269.2.1 c) (by have z := p279.2.2.2.1 (by omega); rw [rr] at z; exact z)
      rw [show h279 0 14 = r269 by omega, u279_42, u279_43, u279_44]
      exact t
    · have k3 := p269.2.2 (by omega)
      have k4 := p279.2.2.2.2 (by omega)
      rw [show h279 0 14 = h 0 14 by omega, u279_42, u279_43, u279_44, k3.1, k3.2.1, k3.2.2, show h279 3 = h 3 from (funext fun j => (k4 j).1).trans u269_3, show h279 4 = h 4 from (funext fun j => (k4 j).2.1).trans u269_4, show h279 5 = h 5 from (funext fun j => (k4 j).2.2).trans u269_5]
      exact gR1.1
  replace gV : TGV h279 := TGV_of gV1 (fun j => (g279 34 j rfl rfl).trans (g269 34 j rfl rfl)) (fun j => (g279 37 j rfl rfl).trans (g269 37 j rfl rfl)) ((y279_0_22).trans (y269_0_22))
  replace gE : TGE h279 := by
    have hT2 := hT1
    unfold TI at hT2
    have k1 := KRw hR; have k2 := KRh hR
    clear hcs hm hi
    have m1 := KRm hR
    rw [qe278] at p279
    have q22 : h279 0 22 = h 0 22 := y279_0_22.trans y269_0_22
    have e19 : h279 0 19 = h 0 19 := y279_0_19.trans y269_0_19
    have e7 : ∀ j : Nat, h279 7 j = h 7 j := fun j => (g279 7 j rfl rfl).trans (g269 7 j rfl rfl)
    refine ⟨?_, fun q => by rw [e19]; exact (gE1.2 (by rw [← q22]; exact q)).cong (fun k _ => e7 k)⟩
    by_cases c : 0 ≤ r279
    · rw [show h279 0 14 = r279 by have B := p279.1; omega]
      exact RW.ea (n := v268) (p279.2.2.2.1 c) (by have B := p279.1; omega) c
    · rw [show h279 0 14 = h 0 14 by have B := p279.1; omega]
      exact gE1.1.cong (fun k _ => ((p279.2.2.2.2 (by omega) k).1).trans (g269 3 k rfl rfl))
  replace gS : TGS h279 := by
    have hT2 := hT1
    unfold TI at hT2
    have k1 := KRw hR; have k2 := KRh hR
    clear hcs hm hi
    have m1 := KRm hR
    rw [qe278] at p279
    have q22 : h279 0 22 = h 0 22 := y279_0_22.trans y269_0_22
    have e19 : h279 0 19 = h 0 19 := y279_0_19.trans y269_0_19
    have e7 : h279 7 = h 7 := funext fun j => (g279 7 j rfl rfl).trans (g269 7 j rfl rfl)
    have e8 : h279 8 = h 8 := funext fun j => (g279 8 j rfl rfl).trans (g269 8 j rfl rfl)
    have e9 : h279 9 = h 9 := funext fun j => (g279 9 j rfl rfl).trans (g269 9 j rfl rfl)
    refine ⟨?_, fun q => by rw [e19, e7, e8, e9]; exact gS1.2 (by rw [← q22]; exact q)⟩
    by_cases c : 0 ≤ r279
    · rw [show h279 0 14 = r279 by have B := p279.1; omega]
      exact RW.st (n := v268) (p279.2.2.2.1 c) (by have B := p279.1; omega)
    · have k4 := p279.2.2.2.2 (by omega)
      rw [show h279 0 14 = h 0 14 by have B := p279.1; omega, show h279 3 = h 3 from funext fun j => ((k4 j).1).trans (g269 3 j rfl rfl), show h279 4 = h 4 from funext fun j => ((k4 j).2.1).trans (g269 4 j rfl rfl), show h279 5 = h 5 from funext fun j => ((k4 j).2.2).trans (g269 5 j rfl rfl)]
      exact gS1.1
  replace gP : TGP h279 := by
    have hT2 := hT1
    unfold TI at hT2
    have k1 := KRw hR; have k2 := KRh hR
    clear hcs hm hi
    exact ⟨pR279, pC279⟩
  replace gF : TGF h279 := by
    have hT2 := hT1
    unfold TI at hT2
    have k1 := KRw hR; have k2 := KRh hR
    clear hcs hm hi
    have m1 := KRm hR
    rw [qe278] at p279
    have q22 : h279 0 22 = h 0 22 := y279_0_22.trans y269_0_22
    have e45 : h279 45 1 = h 45 1 := y279_45_1.trans y269_45_1
    have e19 : h279 0 19 = h 0 19 := y279_0_19.trans y269_0_19
    have e7 : ∀ j : Nat, h279 7 j = h 7 j := fun j => (g279 7 j rfl rfl).trans (g269 7 j rfl rfl)
    refine ⟨?_, fun q => by have q' : h 0 22 ≠ 0 := (fun z => q (q22.trans z)); exact ⟨by rw [e45]; exact (gF1.2 q').1, by rw [e45, e19]; exact (gF1.2 q').2.1, fun j hj => by rw [e7 j, e45]; exact (gF1.2 q').2.2 j (by rw [← e19]; exact hj)⟩⟩
    have rr : r279 = r269 := by omega
    by_cases c : 0 ≤ r269
    · have A := p269.1.resolve_left (fun z => by omega)
      have e14 : h279 0 14 = r269 := by have B := p279.1; omega
      have e41 := y279_41_1.trans (A.2.2.2.1 c).2
      have bn := p279.2.2.1 (by omega)
      exact ⟨by rw [e41]; exact bn.1, by rw [e41, e14, ← rr]; exact bn.2, fun j hj => by rw [e41]; exact (p279.2.1 j).1 (by omega) (by omega)⟩
    · have e14 : h279 0 14 = h 0 14 := by have B := p279.1; omega
      have e41 : h279 41 1 = h 41 1 := by omega
      have e3 : ∀ j : Nat, h279 3 j = h 3 j := fun j => ((p279.2.1 j).2 (by omega)).trans (g269 3 j rfl rfl)
      exact ⟨by rw [e41]; exact gF1.1.1, by rw [e41, e14]; exact gF1.1.2.1, fun j hj => by rw [e3 j, e41]; exact gF1.1.2.2 j (by rw [← e14]; exact hj)⟩
  show zL _ _ _ (.inl r279 :: []) _
  refine zL_pop (pc' := 283) dL_282 rfl rfl ?_
  refine zL_goto (tgt := 1580) dL_283 rfl ?_
  exact nx _ hS hR hC hT gA gB gC gD gR gV gE gS gP gF
