/-! the law's cases -/
/-- the ties of the two states: the tape's length, W, H, PHASE, whether anything is kept, and what then -/
def TI (h : Hp) : Prop := h 31 1 = h 0 25 ∧ (h 33 0 = h 0 11 ∧ h 33 1 = h 0 12 ∧ h 33 2 = h 0 13) ∧ h 30 11 = h 0 22 ∧ (h 0 22 ≠ 0 → h 36 0 = h 0 16 ∧ h 36 1 = h 0 17 ∧ h 36 2 = h 0 18)
theorem TI_of {h h' : Hp} (hT : TI h) (e_0_25 : h' 0 25 = h 0 25) (e_31_1 : h' 31 1 = h 31 1) (e_33_0 : h' 33 0 = h 33 0) (e_33_1 : h' 33 1 = h 33 1) (e_33_2 : h' 33 2 = h 33 2) (e_0_11 : h' 0 11 = h 0 11) (e_0_12 : h' 0 12 = h 0 12) (e_0_13 : h' 0 13 = h 0 13) (e_30_11 : h' 30 11 = h 30 11) (e_0_22 : h' 0 22 = h 0 22) (e_36_0 : h' 36 0 = h 36 0) (e_36_1 : h' 36 1 = h 36 1) (e_36_2 : h' 36 2 = h 36 2) (e_0_16 : h' 0 16 = h 0 16) (e_0_17 : h' 0 17 = h 0 17) (e_0_18 : h' 0 18 = h 0 18) : TI h' := by
  unfold TI at hT ⊢
  rw [e_0_25, e_31_1, e_33_0, e_33_1, e_33_2, e_0_11, e_0_12, e_0_13, e_30_11, e_0_22, e_36_0, e_36_1, e_36_2, e_0_16, e_0_17, e_0_18]
  exact hT
def TGA (h : Hp) : Prop := (∀ j : Nat, j < 256 → h 10 j = h 35 j ∧ ((h 0 11 ≤ ((j % 16 : Nat) : Int) ∨ h 0 12 ≤ ((j / 16 : Nat) : Int)) → h 10 j = 0) ∧ h 1 j = h 34 j) ∧ (h 0 22 ≠ 0 → ∀ j : Nat, j < 256 → h 11 j = h 38 j ∧ ((h 0 16 ≤ ((j % 16 : Nat) : Int) ∨ h 0 17 ≤ ((j / 16 : Nat) : Int)) → h 11 j = 0) ∧ h 6 j = h 37 j)
theorem TGA_of {h h' : Hp} (hG : TGA h) (e1 : ∀ j, h' 1 j = h 1 j) (e34 : ∀ j, h' 34 j = h 34 j) (e10 : ∀ j, h' 10 j = h 10 j) (e35 : ∀ j, h' 35 j = h 35 j) (e6 : ∀ j, h' 6 j = h 6 j) (e37 : ∀ j, h' 37 j = h 37 j) (e11 : ∀ j, h' 11 j = h 11 j) (e38 : ∀ j, h' 38 j = h 38 j) (f_0_11 : h' 0 11 = h 0 11) (f_0_12 : h' 0 12 = h 0 12) (f_0_16 : h' 0 16 = h 0 16) (f_0_17 : h' 0 17 = h 0 17) (f_0_22 : h' 0 22 = h 0 22) : TGA h' := by
  refine ⟨fun j hj => ?_, fun q j hj => ?_⟩
  · rw [e10 j, e35 j, e1 j, e34 j, f_0_11, f_0_12]; exact hG.1 j hj
  · rw [f_0_22] at q; rw [e11 j, e38 j, e6 j, e37 j, f_0_16, f_0_17]; exact hG.2 q j hj
def TGB (h : Hp) : Prop := ∀ j : Nat, (j : Int) < h 0 25 → h 32 j = h 12 j % 256
theorem TGB_of {h h' : Hp} (hG : TGB h) (e12 : ∀ j, h' 12 j = h 12 j) (e32 : ∀ j, h' 32 j = h 32 j) (f_0_25 : h' 0 25 = h 0 25) : TGB h' := by
  intro j hj
  rw [f_0_25] at hj
  rw [e32 j, e12 j]
  exact hG j hj
def TGC (h : Hp) : Prop := (h 0 15 = h 30 12 ∧ h 0 11 % 2 = 0 ∧ h 0 12 % 2 = 0) ∧ (h 0 22 ≠ 0 → h 0 20 = h 30 10 ∧ h 0 16 % 2 = 0 ∧ h 0 17 % 2 = 0)
theorem TGC_of {h h' : Hp} (hG : TGC h)  (f_0_15 : h' 0 15 = h 0 15) (f_30_12 : h' 30 12 = h 30 12) (f_0_11 : h' 0 11 = h 0 11) (f_0_12 : h' 0 12 = h 0 12) (f_0_20 : h' 0 20 = h 0 20) (f_30_10 : h' 30 10 = h 30 10) (f_0_16 : h' 0 16 = h 0 16) (f_0_17 : h' 0 17 = h 0 17) (f_0_22 : h' 0 22 = h 0 22) : TGC h' := by
  unfold TGC at hG ⊢
  rw [f_0_15, f_30_12, f_0_11, f_0_12, f_0_20, f_30_10, f_0_16, f_0_17, f_0_22]
  exact hG
theorem zL_if_eq {Γ : Lc} {pc pc' tgt : Nat} {ls : Lo} {st : List Sv} {h : Hp} {a : Int} {off : Int} (hd : decode code pc = .ok (.ifCond .eq off, 3)) (ht : (pc : Int) + off = (tgt : Int)) (hn : pc + 3 = pc') (ha : rng a) (kt : a = 0 → zL Γ tgt ls st h) (kf : a ≠ 0 → zL Γ pc' ls st h) : zL Γ pc ls (.inl a :: st) h := by
  subst hn
  intro p e s m below meth c H locs lsA C hX hb hG h0 hP hS hL
  exact lv_if_eq C.1 C.2.1 hd ht (fun q => kt ((eq32 ha zr0).mp q) p e s m below meth c H locs lsA C hX hb hG h0 hP hS hL) (fun q => kf (fun z => q ((eq32 ha zr0).mpr z)) p e s m below meth c H locs lsA C hX hb hG h0 hP hS hL)
abbrev lsL (i : Int) : Lo := [some (.inr (.inr 110)), some (.inr (.inr 30)), some (.inr (.inr 0)), some (.inl i)]
theorem zL_sldE {Γ : Lc} {pc pc' : Nat} {ls : Lo} {st : List Sv} {h : Hp} {i : Int} (hi : 0 ≤ i ∧ i < Γ.2.2.1) (hm : Γ.2.2.1 < 2147483648) (hd : decode code pc = .ok (.iaload, 1)) (hn : pc + 1 = pc') (kk : ∀ v : Int, rng v → v = (Γ.2.2.2.1 i.toNat).toInt → zL Γ pc' ls (.inl v :: st) h) : zL Γ pc ls (.inl i :: .inr (.inr 110) :: st) h := by
  subst hn
  intro p e s m below meth c H locs lsA C hX hb hG h0 hP hS hL
  have hA : ¬ zA Γ.1 Γ.2.1 := fun ⟨k, h1, h2⟩ => by have := hG k h1; omega
  have hst : List.map (dn (zad Γ.1)) (.inl i :: .inr (.inr 110) :: st) = .int (Int32.ofInt i) :: .ref Γ.2.1 :: st.map (dn (zad Γ.1)) := by rw [← h0]; rfl
  rw [hst]
  exact va_sld C.1 C.2.1 hX hb hA hS (vin32 hi hm) hd (zL_any32 C hX hb hG h0 hP hS hL (kk _ (rg32 _) (by rw [tn32 ⟨hi.1, by omega⟩])))
set_option maxHeartbeats 4000000 in
theorem lc_0 {Γ : Lc} {i : Int} {h : Hp} (hX : XI Γ.1) (hcs : Γ.2.2.2.2.2.1 ≤ room_1.cells ∧ Γ.2.2.2.2.2.2 ≤ room_1.slots) (hm : Γ.2.2.1 < 2147483648) (hi : 0 ≤ i ∧ i + 6 ≤ Γ.2.2.1) (hS : SI h) (hR : KR h) (hC : KC h) (hT : TI h) (gA : TGA h) (gB : TGB h) (gC : TGC h) (nx : ∀ h' : Hp, SI h' → KR h' → KC h' → TI h' → TGA h' → TGB h' → TGC h' → zL Γ 1580 (lsL i) [] h') : zL Γ 200 (lsL i) [] h := by
  refine zL_aload_n (pc' := 201) dL_200 rfl rfl ?_
  refine zL_aload_n (pc' := 202) dL_201 rfl rfl ?_
  refine zL_iload_n (pc' := 203) dL_202 rfl rfl ?_
  refine zL_iconst (pc' := 204) dL_203 rfl ?_
  refine zL_iadd (pc' := 205) dL_204 rfl ?_
  refine zL_sldE (pc' := 206) (by omega) hm dL_205 rfl (fun v205 e205 q205 => ?_)
  refine zL_aload_n (pc' := 207) dL_206 rfl rfl ?_
  refine zL_iload_n (pc' := 208) dL_207 rfl rfl ?_
  refine zL_iconst (pc' := 209) dL_208 rfl ?_
  refine zL_iadd (pc' := 210) dL_209 rfl ?_
  refine zL_sldE (pc' := 211) (by omega) hm dL_210 rfl (fun v210 e210 q210 => ?_)
  refine zL_aload_n (pc' := 212) dL_211 rfl rfl ?_
  refine zL_iload_n (pc' := 213) dL_212 rfl rfl ?_
  refine zL_iconst (pc' := 214) dL_213 rfl ?_
  refine zL_iadd (pc' := 215) dL_214 rfl ?_
  refine zL_sldE (pc' := 216) (by omega) hm dL_215 rfl (fun v215 e215 q215 => ?_)
  refine zL_aload_n (pc' := 217) dL_216 rfl rfl ?_
  refine zL_iload_n (pc' := 218) dL_217 rfl rfl ?_
  refine zL_iconst (pc' := 219) dL_218 rfl ?_
  refine zL_iadd (pc' := 220) dL_219 rfl ?_
  refine zL_sldE (pc' := 221) (by omega) hm dL_220 rfl (fun v220 e220 q220 => ?_)
  refine zL_aload_n (pc' := 222) dL_221 rfl rfl ?_
  refine zL_iload_n (pc' := 223) dL_222 rfl rfl ?_
  refine zL_iconst (pc' := 224) dL_223 rfl ?_
  refine zL_iadd (pc' := 225) dL_224 rfl ?_
  refine zL_sldE (pc' := 226) (by omega) hm dL_225 rfl (fun v225 e225 q225 => ?_)
  refine zL_inv (pc' := 229) hcs kX11_feed vX11_feed lk_L_13 ⟨Nat.le_of_ble_eq_true rfl, Nat.le_of_ble_eq_true rfl⟩ tb30 vq11 rfl [_, _, _, _, _] (s_X11_feedE hS hR hC _ ⟨e205.1, e205.2⟩ _ ⟨e210.1, e210.2⟩ _ ⟨e215.1, e215.2⟩ _ ⟨e220.1, e220.2⟩ _ ⟨e225.1, e225.2⟩) dL_226 rfl (Nat.le_of_ble_eq_true rfl) rfl ?_
  rintro r226 h226 ⟨f226, p226⟩; obtain ⟨g226, hS, hR, hC⟩ := f226
  obtain ⟨p226_0, a226_0⟩ := p226
  have y226_0_25 : h226 0 25 = h 0 25 := g226 0 25 rfl rfl
  have y226_33_0 : h226 33 0 = h 33 0 := g226 33 0 rfl rfl
  have y226_33_1 : h226 33 1 = h 33 1 := g226 33 1 rfl rfl
  have y226_33_2 : h226 33 2 = h 33 2 := g226 33 2 rfl rfl
  have y226_0_11 : h226 0 11 = h 0 11 := g226 0 11 rfl rfl
  have y226_0_12 : h226 0 12 = h 0 12 := g226 0 12 rfl rfl
  have y226_0_13 : h226 0 13 = h 0 13 := g226 0 13 rfl rfl
  have y226_30_11 : h226 30 11 = h 30 11 := g226 30 11 rfl rfl
  have y226_0_22 : h226 0 22 = h 0 22 := g226 0 22 rfl rfl
  have y226_36_0 : h226 36 0 = h 36 0 := g226 36 0 rfl rfl
  have y226_36_1 : h226 36 1 = h 36 1 := g226 36 1 rfl rfl
  have y226_36_2 : h226 36 2 = h 36 2 := g226 36 2 rfl rfl
  have y226_0_16 : h226 0 16 = h 0 16 := g226 0 16 rfl rfl
  have y226_0_17 : h226 0 17 = h 0 17 := g226 0 17 rfl rfl
  have y226_0_18 : h226 0 18 = h 0 18 := g226 0 18 rfl rfl
  have y226_0_15 : h226 0 15 = h 0 15 := g226 0 15 rfl rfl
  have y226_0_20 : h226 0 20 = h 0 20 := g226 0 20 rfl rfl
  have y226_30_10 : h226 30 10 = h 30 10 := g226 30 10 rfl rfl
  have y226_30_12 : h226 30 12 = h 30 12 := g226 30 12 rfl rfl
  have hT1 := hT; have gA1 := gA; have gB1 := gB; have gC1 := gC
  show zL _ _ _ (.inl r226 :: []) _
  refine zL_pop (pc' := 230) dL_229 rfl rfl ?_
  refine zL_aload_n (pc' := 231) dL_230 rfl rfl ?_
  refine zL_aload_n (pc' := 232) dL_231 rfl rfl ?_
  refine zL_iload_n (pc' := 233) dL_232 rfl rfl ?_
  refine zL_iconst (pc' := 234) dL_233 rfl ?_
  refine zL_iadd (pc' := 235) dL_234 rfl ?_
  refine zL_sldE (pc' := 236) (by omega) hm dL_235 rfl (fun v235 e235 q235 => ?_)
  refine zL_aload_n (pc' := 237) dL_236 rfl rfl ?_
  refine zL_iload_n (pc' := 238) dL_237 rfl rfl ?_
  refine zL_iconst (pc' := 239) dL_238 rfl ?_
  refine zL_iadd (pc' := 240) dL_239 rfl ?_
  refine zL_sldE (pc' := 241) (by omega) hm dL_240 rfl (fun v240 e240 q240 => ?_)
  refine zL_aload_n (pc' := 242) dL_241 rfl rfl ?_
  refine zL_iload_n (pc' := 243) dL_242 rfl rfl ?_
  refine zL_iconst (pc' := 244) dL_243 rfl ?_
  refine zL_iadd (pc' := 245) dL_244 rfl ?_
  refine zL_sldE (pc' := 246) (by omega) hm dL_245 rfl (fun v245 e245 q245 => ?_)
  refine zL_aload_n (pc' := 247) dL_246 rfl rfl ?_
  refine zL_iload_n (pc' := 248) dL_247 rfl rfl ?_
  refine zL_iconst (pc' := 249) dL_248 rfl ?_
  refine zL_iadd (pc' := 250) dL_249 rfl ?_
  refine zL_sldE (pc' := 251) (by omega) hm dL_250 rfl (fun v250 e250 q250 => ?_)
  refine zL_aload_n (pc' := 252) dL_251 rfl rfl ?_
  refine zL_iload_n (pc' := 253) dL_252 rfl rfl ?_
  refine zL_iconst (pc' := 254) dL_253 rfl ?_
  refine zL_iadd (pc' := 255) dL_254 rfl ?_
  refine zL_sldE (pc' := 256) (by omega) hm dL_255 rfl (fun v255 e255 q255 => ?_)
  refine zL_inv (pc' := 259) hcs kX12_feed vX12_feed lk_L_17 ⟨Nat.le_of_ble_eq_true rfl, Nat.le_of_ble_eq_true rfl⟩ tb0 vq12 rfl [_, _, _, _, _] (s_X12_feedE hS hR hC _ ⟨e235.1, e235.2⟩ _ ⟨e240.1, e240.2⟩ _ ⟨e245.1, e245.2⟩ _ ⟨e250.1, e250.2⟩ _ ⟨e255.1, e255.2⟩) dL_256 rfl (Nat.le_of_ble_eq_true rfl) rfl ?_
  rintro r256 h256 ⟨f256, p256⟩; obtain ⟨g256, hS, hR, hC⟩ := f256
  obtain ⟨p256_0, a256_0⟩ := p256
  have y256_31_1 : h256 31 1 = h226 31 1 := g256 31 1 rfl rfl
  have y256_33_0 : h256 33 0 = h226 33 0 := g256 33 0 rfl rfl
  have y256_33_1 : h256 33 1 = h226 33 1 := g256 33 1 rfl rfl
  have y256_33_2 : h256 33 2 = h226 33 2 := g256 33 2 rfl rfl
  have y256_0_11 : h256 0 11 = h226 0 11 := g256 0 11 rfl rfl
  have y256_0_12 : h256 0 12 = h226 0 12 := g256 0 12 rfl rfl
  have y256_0_13 : h256 0 13 = h226 0 13 := g256 0 13 rfl rfl
  have y256_30_11 : h256 30 11 = h226 30 11 := g256 30 11 rfl rfl
  have y256_0_22 : h256 0 22 = h226 0 22 := g256 0 22 rfl rfl
  have y256_36_0 : h256 36 0 = h226 36 0 := g256 36 0 rfl rfl
  have y256_36_1 : h256 36 1 = h226 36 1 := g256 36 1 rfl rfl
  have y256_36_2 : h256 36 2 = h226 36 2 := g256 36 2 rfl rfl
  have y256_0_16 : h256 0 16 = h226 0 16 := g256 0 16 rfl rfl
  have y256_0_17 : h256 0 17 = h226 0 17 := g256 0 17 rfl rfl
  have y256_0_18 : h256 0 18 = h226 0 18 := g256 0 18 rfl rfl
  have y256_0_15 : h256 0 15 = h226 0 15 := g256 0 15 rfl rfl
  have y256_0_20 : h256 0 20 = h226 0 20 := g256 0 20 rfl rfl
  have y256_30_10 : h256 30 10 = h226 30 10 := g256 30 10 rfl rfl
  have y256_30_12 : h256 30 12 = h226 30 12 := g256 30 12 rfl rfl
  have qe235 : v235 = v205 := by rw [q235, q205]
  have qe240 : v240 = v210 := by rw [q240, q210]
  have qe245 : v245 = v215 := by rw [q245, q215]
  have qe250 : v250 = v220 := by rw [q250, q220]
  have qe255 : v255 = v225 := by rw [q255, q225]
  replace hT : TI h256 := by
    have hT2 := hT1
    unfold TI at hT2 ⊢
    omega
  replace gA : TGA h256 := TGA_of gA1 (fun j => (g256 1 j rfl rfl).trans (g226 1 j rfl rfl)) (fun j => (g256 34 j rfl rfl).trans (g226 34 j rfl rfl)) (fun j => (g256 10 j rfl rfl).trans (g226 10 j rfl rfl)) (fun j => (g256 35 j rfl rfl).trans (g226 35 j rfl rfl)) (fun j => (g256 6 j rfl rfl).trans (g226 6 j rfl rfl)) (fun j => (g256 37 j rfl rfl).trans (g226 37 j rfl rfl)) (fun j => (g256 11 j rfl rfl).trans (g226 11 j rfl rfl)) (fun j => (g256 38 j rfl rfl).trans (g226 38 j rfl rfl)) ((y256_0_11).trans (y226_0_11)) ((y256_0_12).trans (y226_0_12)) ((y256_0_16).trans (y226_0_16)) ((y256_0_17).trans (y226_0_17)) ((y256_0_22).trans (y226_0_22))
  replace gB : TGB h256 := by
    have hT2 := hT1
    unfold TI at hT2
    have k1 := KRw hR; have k2 := KRh hR
    clear hcs hm hi
    intro j hj
    have d3 := gB1 j; have f226_12 := g226 12 j rfl rfl; have fa226_0 := a226_0 j; have f256_32 := g256 32 j rfl rfl; have fa256_0 := a256_0 j; have ef : fb v235 v240 v245 v250 v255 ((j : Int) - h226 0 25) = fb v205 v210 v215 v220 v225 ((j : Int) - h 31 1) := (by rw [qe235, qe240, qe245, qe250, qe255, y226_0_25, hT2.1]); omega
  replace gC : TGC h256 := TGC_of gC1  ((y256_0_15).trans (y226_0_15)) ((y256_30_12).trans (y226_30_12)) ((y256_0_11).trans (y226_0_11)) ((y256_0_12).trans (y226_0_12)) ((y256_0_20).trans (y226_0_20)) ((y256_30_10).trans (y226_30_10)) ((y256_0_16).trans (y226_0_16)) ((y256_0_17).trans (y226_0_17)) ((y256_0_22).trans (y226_0_22))
  show zL _ _ _ (.inl r256 :: []) _
  refine zL_pop (pc' := 260) dL_259 rfl rfl ?_
  refine zL_goto (tgt := 1580) dL_260 rfl ?_
  exact nx _ hS hR hC hT gA gB gC
set_option maxHeartbeats 4000000 in
theorem lc_1 {Γ : Lc} {i : Int} {h : Hp} (hX : XI Γ.1) (hcs : Γ.2.2.2.2.2.1 ≤ room_1.cells ∧ Γ.2.2.2.2.2.2 ≤ room_1.slots) (hm : Γ.2.2.1 < 2147483648) (hi : 0 ≤ i ∧ i + 6 ≤ Γ.2.2.1) (hS : SI h) (hR : KR h) (hC : KC h) (hT : TI h) (gA : TGA h) (gB : TGB h) (gC : TGC h) (nx : ∀ h' : Hp, SI h' → KR h' → KC h' → TI h' → TGA h' → TGB h' → TGC h' → zL Γ 1580 (lsL i) [] h') : zL Γ 263 (lsL i) [] h := by
  refine zL_aload_n (pc' := 264) dL_263 rfl rfl ?_
  refine zL_aload_n (pc' := 265) dL_264 rfl rfl ?_
  refine zL_iload_n (pc' := 266) dL_265 rfl rfl ?_
  refine zL_iconst (pc' := 267) dL_266 rfl ?_
  refine zL_iadd (pc' := 268) dL_267 rfl ?_
  refine zL_sldE (pc' := 269) (by omega) hm dL_268 rfl (fun v268 e268 q268 => ?_)
  refine zL_inv (pc' := 272) hcs kX11_stages vX11_stages lk_L_18 ⟨Nat.le_of_ble_eq_true rfl, Nat.le_of_ble_eq_true rfl⟩ tb30 vq11 rfl [_] (s_X11_stages hS hR hC _ ⟨e268.1, e268.2⟩ hX) dL_269 rfl (Nat.le_of_ble_eq_true rfl) rfl ?_
  rintro r269 h269 ⟨f269, p269⟩; obtain ⟨g269, hS, hR, hC⟩ := f269
  have y269_0_25 : h269 0 25 = h 0 25 := g269 0 25 rfl rfl
  have y269_33_0 : h269 33 0 = h 33 0 := g269 33 0 rfl rfl
  have y269_33_1 : h269 33 1 = h 33 1 := g269 33 1 rfl rfl
  have y269_33_2 : h269 33 2 = h 33 2 := g269 33 2 rfl rfl
  have y269_0_11 : h269 0 11 = h 0 11 := g269 0 11 rfl rfl
  have y269_0_12 : h269 0 12 = h 0 12 := g269 0 12 rfl rfl
  have y269_0_13 : h269 0 13 = h 0 13 := g269 0 13 rfl rfl
  have y269_30_11 : h269 30 11 = h 30 11 := g269 30 11 rfl rfl
  have y269_0_22 : h269 0 22 = h 0 22 := g269 0 22 rfl rfl
  have y269_36_0 : h269 36 0 = h 36 0 := g269 36 0 rfl rfl
  have y269_36_1 : h269 36 1 = h 36 1 := g269 36 1 rfl rfl
  have y269_36_2 : h269 36 2 = h 36 2 := g269 36 2 rfl rfl
  have y269_0_16 : h269 0 16 = h 0 16 := g269 0 16 rfl rfl
  have y269_0_17 : h269 0 17 = h 0 17 := g269 0 17 rfl rfl
  have y269_0_18 : h269 0 18 = h 0 18 := g269 0 18 rfl rfl
  have y269_0_15 : h269 0 15 = h 0 15 := g269 0 15 rfl rfl
  have y269_0_20 : h269 0 20 = h 0 20 := g269 0 20 rfl rfl
  have y269_30_10 : h269 30 10 = h 30 10 := g269 30 10 rfl rfl
  have y269_30_12 : h269 30 12 = h 30 12 := g269 30 12 rfl rfl
  have hT1 := hT; have gA1 := gA; have gB1 := gB; have gC1 := gC
  show zL _ _ _ (.inl r269 :: []) _
  refine zL_pop (pc' := 273) dL_272 rfl rfl ?_
  refine zL_aload_n (pc' := 274) dL_273 rfl rfl ?_
  refine zL_aload_n (pc' := 275) dL_274 rfl rfl ?_
  refine zL_iload_n (pc' := 276) dL_275 rfl rfl ?_
  refine zL_iconst (pc' := 277) dL_276 rfl ?_
  refine zL_iadd (pc' := 278) dL_277 rfl ?_
  refine zL_sldE (pc' := 279) (by omega) hm dL_278 rfl (fun v278 e278 q278 => ?_)
  refine zL_inv (pc' := 282) hcs kX12_stages vX12_stages lk_L_22 ⟨Nat.le_of_ble_eq_true rfl, Nat.le_of_ble_eq_true rfl⟩ tb0 vq12 rfl [_] (s_X12_stages hS hR hC _ ⟨e278.1, e278.2⟩) dL_279 rfl (Nat.le_of_ble_eq_true rfl) rfl ?_
  rintro r279 h279 ⟨f279, p279⟩; obtain ⟨g279, hS, hR, hC⟩ := f279
  have y279_31_1 : h279 31 1 = h269 31 1 := g279 31 1 rfl rfl
  have y279_33_0 : h279 33 0 = h269 33 0 := g279 33 0 rfl rfl
  have y279_33_1 : h279 33 1 = h269 33 1 := g279 33 1 rfl rfl
  have y279_33_2 : h279 33 2 = h269 33 2 := g279 33 2 rfl rfl
  have y279_0_11 : h279 0 11 = h269 0 11 := g279 0 11 rfl rfl
  have y279_0_12 : h279 0 12 = h269 0 12 := g279 0 12 rfl rfl
  have y279_0_13 : h279 0 13 = h269 0 13 := g279 0 13 rfl rfl
  have y279_30_11 : h279 30 11 = h269 30 11 := g279 30 11 rfl rfl
  have y279_0_22 : h279 0 22 = h269 0 22 := g279 0 22 rfl rfl
  have y279_36_0 : h279 36 0 = h269 36 0 := g279 36 0 rfl rfl
  have y279_36_1 : h279 36 1 = h269 36 1 := g279 36 1 rfl rfl
  have y279_36_2 : h279 36 2 = h269 36 2 := g279 36 2 rfl rfl
  have y279_0_16 : h279 0 16 = h269 0 16 := g279 0 16 rfl rfl
  have y279_0_17 : h279 0 17 = h269 0 17 := g279 0 17 rfl rfl
  have y279_0_18 : h279 0 18 = h269 0 18 := g279 0 18 rfl rfl
  have y279_0_15 : h279 0 15 = h269 0 15 := g279 0 15 rfl rfl
  have y279_0_20 : h279 0 20 = h269 0 20 := g279 0 20 rfl rfl
  have y279_30_10 : h279 30 10 = h269 30 10 := g279 30 10 rfl rfl
  have y279_30_12 : h279 30 12 = h269 30 12 := g279 30 12 rfl rfl
  have qe278 : v278 = v268 := by rw [q278, q268]
  replace hT : TI h279 := by
    have hT2 := hT1
    unfold TI at hT2 ⊢
    omega
  replace gA : TGA h279 := TGA_of gA1 (fun j => (g279 1 j rfl rfl).trans (g269 1 j rfl rfl)) (fun j => (g279 34 j rfl rfl).trans (g269 34 j rfl rfl)) (fun j => (g279 10 j rfl rfl).trans (g269 10 j rfl rfl)) (fun j => (g279 35 j rfl rfl).trans (g269 35 j rfl rfl)) (fun j => (g279 6 j rfl rfl).trans (g269 6 j rfl rfl)) (fun j => (g279 37 j rfl rfl).trans (g269 37 j rfl rfl)) (fun j => (g279 11 j rfl rfl).trans (g269 11 j rfl rfl)) (fun j => (g279 38 j rfl rfl).trans (g269 38 j rfl rfl)) ((y279_0_11).trans (y269_0_11)) ((y279_0_12).trans (y269_0_12)) ((y279_0_16).trans (y269_0_16)) ((y279_0_17).trans (y269_0_17)) ((y279_0_22).trans (y269_0_22))
  replace gB : TGB h279 := by
    have hT2 := hT1
    unfold TI at hT2
    have k1 := KRw hR; have k2 := KRh hR
    clear hcs hm hi
    intro j hj
    have d3 := gB1 j; have f269_12 := g269 12 j rfl rfl; have f269_32 := g269 32 j rfl rfl; have f279_12 := g279 12 j rfl rfl; have f279_32 := g279 32 j rfl rfl; omega
  replace gC : TGC h279 := TGC_of gC1  ((y279_0_15).trans (y269_0_15)) ((y279_30_12).trans (y269_30_12)) ((y279_0_11).trans (y269_0_11)) ((y279_0_12).trans (y269_0_12)) ((y279_0_20).trans (y269_0_20)) ((y279_30_10).trans (y269_30_10)) ((y279_0_16).trans (y269_0_16)) ((y279_0_17).trans (y269_0_17)) ((y279_0_22).trans (y269_0_22))
  show zL _ _ _ (.inl r279 :: []) _
  refine zL_pop (pc' := 283) dL_282 rfl rfl ?_
  refine zL_goto (tgt := 1580) dL_283 rfl ?_
  exact nx _ hS hR hC hT gA gB gC
set_option maxHeartbeats 4000000 in
theorem lc_2 {Γ : Lc} {i : Int} {h : Hp} (hX : XI Γ.1) (hcs : Γ.2.2.2.2.2.1 ≤ room_1.cells ∧ Γ.2.2.2.2.2.2 ≤ room_1.slots) (hm : Γ.2.2.1 < 2147483648) (hi : 0 ≤ i ∧ i + 6 ≤ Γ.2.2.1) (hS : SI h) (hR : KR h) (hC : KC h) (hT : TI h) (gA : TGA h) (gB : TGB h) (gC : TGC h) (nx : ∀ h' : Hp, SI h' → KR h' → KC h' → TI h' → TGA h' → TGB h' → TGC h' → zL Γ 1580 (lsL i) [] h') : zL Γ 286 (lsL i) [] h := by
  refine zL_aload_n (pc' := 287) dL_286 rfl rfl ?_
  refine zL_aload_n (pc' := 288) dL_287 rfl rfl ?_
  refine zL_iload_n (pc' := 289) dL_288 rfl rfl ?_
  refine zL_iconst (pc' := 290) dL_289 rfl ?_
  refine zL_iadd (pc' := 291) dL_290 rfl ?_
  refine zL_sldE (pc' := 292) (by omega) hm dL_291 rfl (fun v291 e291 q291 => ?_)
  refine zL_aload_n (pc' := 293) dL_292 rfl rfl ?_
  refine zL_iload_n (pc' := 294) dL_293 rfl rfl ?_
  refine zL_iconst (pc' := 295) dL_294 rfl ?_
  refine zL_iadd (pc' := 296) dL_295 rfl ?_
  refine zL_sldE (pc' := 297) (by omega) hm dL_296 rfl (fun v296 e296 q296 => ?_)
  refine zL_aload_n (pc' := 298) dL_297 rfl rfl ?_
  refine zL_iload_n (pc' := 299) dL_298 rfl rfl ?_
  refine zL_iconst (pc' := 300) dL_299 rfl ?_
  refine zL_iadd (pc' := 301) dL_300 rfl ?_
  refine zL_sldE (pc' := 302) (by omega) hm dL_301 rfl (fun v301 e301 q301 => ?_)
  refine zL_inv (pc' := 305) hcs kX11_raw vX11_raw lk_L_23 ⟨Nat.le_of_ble_eq_true rfl, Nat.le_of_ble_eq_true rfl⟩ tb30 vq11 rfl [_, _, _] (s_X11_rawE hS hR hC _ ⟨e291.1, e291.2⟩ _ ⟨e296.1, e296.2⟩ _ ⟨e301.1, e301.2⟩) dL_302 rfl (Nat.le_of_ble_eq_true rfl) rfl ?_
  rintro r302 h302 ⟨f302, p302⟩; obtain ⟨g302, hS, hR, hC⟩ := f302
  obtain ⟨p302_0, p302_1, p302_2, a302_0⟩ := p302
  have y302_0_25 : h302 0 25 = h 0 25 := g302 0 25 rfl rfl
  have y302_31_1 : h302 31 1 = h 31 1 := g302 31 1 rfl rfl
  have y302_0_11 : h302 0 11 = h 0 11 := g302 0 11 rfl rfl
  have y302_0_12 : h302 0 12 = h 0 12 := g302 0 12 rfl rfl
  have y302_0_13 : h302 0 13 = h 0 13 := g302 0 13 rfl rfl
  have y302_30_11 : h302 30 11 = h 30 11 := g302 30 11 rfl rfl
  have y302_0_22 : h302 0 22 = h 0 22 := g302 0 22 rfl rfl
  have y302_36_0 : h302 36 0 = h 36 0 := g302 36 0 rfl rfl
  have y302_36_1 : h302 36 1 = h 36 1 := g302 36 1 rfl rfl
  have y302_36_2 : h302 36 2 = h 36 2 := g302 36 2 rfl rfl
  have y302_0_16 : h302 0 16 = h 0 16 := g302 0 16 rfl rfl
  have y302_0_17 : h302 0 17 = h 0 17 := g302 0 17 rfl rfl
  have y302_0_18 : h302 0 18 = h 0 18 := g302 0 18 rfl rfl
  have y302_0_15 : h302 0 15 = h 0 15 := g302 0 15 rfl rfl
  have y302_0_20 : h302 0 20 = h 0 20 := g302 0 20 rfl rfl
  have y302_30_10 : h302 30 10 = h 30 10 := g302 30 10 rfl rfl
  have y302_30_12 : h302 30 12 = h 30 12 := g302 30 12 rfl rfl
  have hT1 := hT; have gA1 := gA; have gB1 := gB; have gC1 := gC
  show zL _ _ _ (.inl r302 :: []) _
  refine zL_pop (pc' := 306) dL_305 rfl rfl ?_
  refine zL_aload_n (pc' := 307) dL_306 rfl rfl ?_
  refine zL_aload_n (pc' := 308) dL_307 rfl rfl ?_
  refine zL_iload_n (pc' := 309) dL_308 rfl rfl ?_
  refine zL_iconst (pc' := 310) dL_309 rfl ?_
  refine zL_iadd (pc' := 311) dL_310 rfl ?_
  refine zL_sldE (pc' := 312) (by omega) hm dL_311 rfl (fun v311 e311 q311 => ?_)
  refine zL_aload_n (pc' := 313) dL_312 rfl rfl ?_
  refine zL_iload_n (pc' := 314) dL_313 rfl rfl ?_
  refine zL_iconst (pc' := 315) dL_314 rfl ?_
  refine zL_iadd (pc' := 316) dL_315 rfl ?_
  refine zL_sldE (pc' := 317) (by omega) hm dL_316 rfl (fun v316 e316 q316 => ?_)
  refine zL_aload_n (pc' := 318) dL_317 rfl rfl ?_
  refine zL_iload_n (pc' := 319) dL_318 rfl rfl ?_
  refine zL_iconst (pc' := 320) dL_319 rfl ?_
  refine zL_iadd (pc' := 321) dL_320 rfl ?_
  refine zL_sldE (pc' := 322) (by omega) hm dL_321 rfl (fun v321 e321 q321 => ?_)
  refine zL_inv (pc' := 325) hcs kX12_raw vX12_raw lk_L_27 ⟨Nat.le_of_ble_eq_true rfl, Nat.le_of_ble_eq_true rfl⟩ tb0 vq12 rfl [_, _, _] (s_X12_rawE hS hR hC _ ⟨e311.1, e311.2⟩ _ ⟨e316.1, e316.2⟩ _ ⟨e321.1, e321.2⟩) dL_322 rfl (Nat.le_of_ble_eq_true rfl) rfl ?_
  rintro r322 h322 ⟨f322, p322⟩; obtain ⟨g322, hS, hR, hC⟩ := f322
  obtain ⟨p322_0, p322_1, p322_2, a322_0⟩ := p322
  have y322_0_25 : h322 0 25 = h302 0 25 := g322 0 25 rfl rfl
  have y322_31_1 : h322 31 1 = h302 31 1 := g322 31 1 rfl rfl
  have y322_33_0 : h322 33 0 = h302 33 0 := g322 33 0 rfl rfl
  have y322_33_1 : h322 33 1 = h302 33 1 := g322 33 1 rfl rfl
  have y322_33_2 : h322 33 2 = h302 33 2 := g322 33 2 rfl rfl
  have y322_30_11 : h322 30 11 = h302 30 11 := g322 30 11 rfl rfl
  have y322_0_22 : h322 0 22 = h302 0 22 := g322 0 22 rfl rfl
  have y322_36_0 : h322 36 0 = h302 36 0 := g322 36 0 rfl rfl
  have y322_36_1 : h322 36 1 = h302 36 1 := g322 36 1 rfl rfl
  have y322_36_2 : h322 36 2 = h302 36 2 := g322 36 2 rfl rfl
  have y322_0_16 : h322 0 16 = h302 0 16 := g322 0 16 rfl rfl
  have y322_0_17 : h322 0 17 = h302 0 17 := g322 0 17 rfl rfl
  have y322_0_18 : h322 0 18 = h302 0 18 := g322 0 18 rfl rfl
  have y322_0_15 : h322 0 15 = h302 0 15 := g322 0 15 rfl rfl
  have y322_0_20 : h322 0 20 = h302 0 20 := g322 0 20 rfl rfl
  have y322_30_10 : h322 30 10 = h302 30 10 := g322 30 10 rfl rfl
  have y322_30_12 : h322 30 12 = h302 30 12 := g322 30 12 rfl rfl
  have qe311 : v311 = v291 := by rw [q311, q291]
  have qe316 : v316 = v296 := by rw [q316, q296]
  have qe321 : v321 = v301 := by rw [q321, q301]
  replace hT : TI h322 := by
    have hT2 := hT1
    unfold TI at hT2 ⊢
    omega
  replace gA : TGA h322 := by
    have hT2 := hT1
    unfold TI at hT2
    have k1 := KRw hR; have k2 := KRh hR
    clear hcs hm hi
    refine ⟨fun j hj => ?_, fun q j hj => ?_⟩
    · have d1 := gA1.1 j hj; have f302_1 := g302 1 j rfl rfl; have f302_10 := g302 10 j rfl rfl; have fa302_0 := a302_0 j; have f322_34 := g322 34 j rfl rfl; have f322_35 := g322 35 j rfl rfl; have fa322_0 := a322_0 j; omega
    · have d2 : h 0 22 ≠ 0 → _ := fun z => gA1.2 z j hj; have f302_6 := g302 6 j rfl rfl; have f302_37 := g302 37 j rfl rfl; have f302_11 := g302 11 j rfl rfl; have f302_38 := g302 38 j rfl rfl; have f322_6 := g322 6 j rfl rfl; have f322_37 := g322 37 j rfl rfl; have f322_11 := g322 11 j rfl rfl; have f322_38 := g322 38 j rfl rfl; omega
  replace gB : TGB h322 := TGB_of gB1 (fun j => (g322 12 j rfl rfl).trans (g302 12 j rfl rfl)) (fun j => (g322 32 j rfl rfl).trans (g302 32 j rfl rfl)) ((y322_0_25).trans (y302_0_25))
  replace gC : TGC h322 := by
    have hT2 := hT1
    unfold TI at hT2
    have k1 := KRw hR; have k2 := KRh hR
    clear hcs hm hi
    have d4 := gC1
    unfold TGC at d4 ⊢
    omega
  show zL _ _ _ (.inl r322 :: []) _
  refine zL_pop (pc' := 326) dL_325 rfl rfl ?_
  refine zL_goto (tgt := 1580) dL_326 rfl ?_
  exact nx _ hS hR hC hT gA gB gC
set_option maxHeartbeats 4000000 in
theorem lc_3 {Γ : Lc} {i : Int} {h : Hp} (hX : XI Γ.1) (hcs : Γ.2.2.2.2.2.1 ≤ room_1.cells ∧ Γ.2.2.2.2.2.2 ≤ room_1.slots) (hm : Γ.2.2.1 < 2147483648) (hi : 0 ≤ i ∧ i + 6 ≤ Γ.2.2.1) (hS : SI h) (hR : KR h) (hC : KC h) (hT : TI h) (gA : TGA h) (gB : TGB h) (gC : TGC h) (nx : ∀ h' : Hp, SI h' → KR h' → KC h' → TI h' → TGA h' → TGB h' → TGC h' → zL Γ 1580 (lsL i) [] h') : zL Γ 329 (lsL i) [] h := by
  refine zL_aload_n (pc' := 330) dL_329 rfl rfl ?_
  refine zL_aload_n (pc' := 331) dL_330 rfl rfl ?_
  refine zL_iload_n (pc' := 332) dL_331 rfl rfl ?_
  refine zL_iconst (pc' := 333) dL_332 rfl ?_
  refine zL_iadd (pc' := 334) dL_333 rfl ?_
  refine zL_sldE (pc' := 335) (by omega) hm dL_334 rfl (fun v334 e334 q334 => ?_)
  refine zL_inv (pc' := 338) hcs kX11_row vX11_row lk_L_28 ⟨Nat.le_of_ble_eq_true rfl, Nat.le_of_ble_eq_true rfl⟩ tb30 vq11 rfl [_] (s_X11_rowE hS hR hC _ ⟨e334.1, e334.2⟩) dL_335 rfl (Nat.le_of_ble_eq_true rfl) rfl ?_
  rintro r335 h335 ⟨f335, p335⟩; obtain ⟨g335, hS, hR, hC⟩ := f335
  obtain ⟨p335_0, p335_1, p335_2, a335_0⟩ := p335
  have y335_0_25 : h335 0 25 = h 0 25 := g335 0 25 rfl rfl
  have y335_33_0 : h335 33 0 = h 33 0 := g335 33 0 rfl rfl
  have y335_33_1 : h335 33 1 = h 33 1 := g335 33 1 rfl rfl
  have y335_33_2 : h335 33 2 = h 33 2 := g335 33 2 rfl rfl
  have y335_0_11 : h335 0 11 = h 0 11 := g335 0 11 rfl rfl
  have y335_0_12 : h335 0 12 = h 0 12 := g335 0 12 rfl rfl
  have y335_0_13 : h335 0 13 = h 0 13 := g335 0 13 rfl rfl
  have y335_30_11 : h335 30 11 = h 30 11 := g335 30 11 rfl rfl
  have y335_0_22 : h335 0 22 = h 0 22 := g335 0 22 rfl rfl
  have y335_36_0 : h335 36 0 = h 36 0 := g335 36 0 rfl rfl
  have y335_36_1 : h335 36 1 = h 36 1 := g335 36 1 rfl rfl
  have y335_36_2 : h335 36 2 = h 36 2 := g335 36 2 rfl rfl
  have y335_0_16 : h335 0 16 = h 0 16 := g335 0 16 rfl rfl
  have y335_0_17 : h335 0 17 = h 0 17 := g335 0 17 rfl rfl
  have y335_0_18 : h335 0 18 = h 0 18 := g335 0 18 rfl rfl
  have y335_0_15 : h335 0 15 = h 0 15 := g335 0 15 rfl rfl
  have y335_0_20 : h335 0 20 = h 0 20 := g335 0 20 rfl rfl
  have y335_30_10 : h335 30 10 = h 30 10 := g335 30 10 rfl rfl
  have y335_30_12 : h335 30 12 = h 30 12 := g335 30 12 rfl rfl
  have hT1 := hT; have gA1 := gA; have gB1 := gB; have gC1 := gC
  show zL _ _ _ (.inl r335 :: []) _
  refine zL_pop (pc' := 339) dL_338 rfl rfl ?_
  refine zL_aload_n (pc' := 340) dL_339 rfl rfl ?_
  refine zL_aload_n (pc' := 341) dL_340 rfl rfl ?_
  refine zL_iload_n (pc' := 342) dL_341 rfl rfl ?_
  refine zL_iconst (pc' := 343) dL_342 rfl ?_
  refine zL_iadd (pc' := 344) dL_343 rfl ?_
  refine zL_sldE (pc' := 345) (by omega) hm dL_344 rfl (fun v344 e344 q344 => ?_)
  refine zL_inv (pc' := 348) hcs kX12_row vX12_row lk_L_32 ⟨Nat.le_of_ble_eq_true rfl, Nat.le_of_ble_eq_true rfl⟩ tb0 vq12 rfl [_] (s_X12_rowE hS hR hC _ ⟨e344.1, e344.2⟩) dL_345 rfl (Nat.le_of_ble_eq_true rfl) rfl ?_
  rintro r345 h345 ⟨f345, p345⟩; obtain ⟨g345, hS, hR, hC⟩ := f345
  obtain ⟨p345_0, p345_1, p345_2, a345_0⟩ := p345
  have y345_31_1 : h345 31 1 = h335 31 1 := g345 31 1 rfl rfl
  have y345_33_0 : h345 33 0 = h335 33 0 := g345 33 0 rfl rfl
  have y345_33_1 : h345 33 1 = h335 33 1 := g345 33 1 rfl rfl
  have y345_33_2 : h345 33 2 = h335 33 2 := g345 33 2 rfl rfl
  have y345_0_11 : h345 0 11 = h335 0 11 := g345 0 11 rfl rfl
  have y345_0_12 : h345 0 12 = h335 0 12 := g345 0 12 rfl rfl
  have y345_0_13 : h345 0 13 = h335 0 13 := g345 0 13 rfl rfl
  have y345_30_11 : h345 30 11 = h335 30 11 := g345 30 11 rfl rfl
  have y345_0_22 : h345 0 22 = h335 0 22 := g345 0 22 rfl rfl
  have y345_36_0 : h345 36 0 = h335 36 0 := g345 36 0 rfl rfl
  have y345_36_1 : h345 36 1 = h335 36 1 := g345 36 1 rfl rfl
  have y345_36_2 : h345 36 2 = h335 36 2 := g345 36 2 rfl rfl
  have y345_0_16 : h345 0 16 = h335 0 16 := g345 0 16 rfl rfl
  have y345_0_17 : h345 0 17 = h335 0 17 := g345 0 17 rfl rfl
  have y345_0_18 : h345 0 18 = h335 0 18 := g345 0 18 rfl rfl
  have y345_0_15 : h345 0 15 = h335 0 15 := g345 0 15 rfl rfl
  have y345_0_20 : h345 0 20 = h335 0 20 := g345 0 20 rfl rfl
  have y345_30_10 : h345 30 10 = h335 30 10 := g345 30 10 rfl rfl
  have y345_30_12 : h345 30 12 = h335 30 12 := g345 30 12 rfl rfl
  have qe344 : v344 = v334 := by rw [q344, q334]
  replace hT : TI h345 := by
    have hT2 := hT1
    unfold TI at hT2 ⊢
    omega
  replace gA : TGA h345 := by
    have hT2 := hT1
    unfold TI at hT2
    have k1 := KRw hR; have k2 := KRh hR
    clear hcs hm hi
    refine ⟨fun j hj => ?_, fun q j hj => ?_⟩
    · have d1 := gA1.1 j hj; have f335_1 := g335 1 j rfl rfl; have f335_10 := g335 10 j rfl rfl; have f335_35 := g335 35 j rfl rfl; have fa335_0 := a335_0 j; have f345_34 := g345 34 j rfl rfl; have f345_10 := g345 10 j rfl rfl; have f345_35 := g345 35 j rfl rfl; have fa345_0 := a345_0 j; have eb := gB1 (j % 16); have eb12 := g335 12 (j % 16) rfl rfl; omega
    · have d2 : h 0 22 ≠ 0 → _ := fun z => gA1.2 z j hj; have f335_6 := g335 6 j rfl rfl; have f335_37 := g335 37 j rfl rfl; have f335_11 := g335 11 j rfl rfl; have f335_38 := g335 38 j rfl rfl; have f345_6 := g345 6 j rfl rfl; have f345_37 := g345 37 j rfl rfl; have f345_11 := g345 11 j rfl rfl; have f345_38 := g345 38 j rfl rfl; omega
  replace gB : TGB h345 := by
    have hT2 := hT1
    unfold TI at hT2
    have k1 := KRw hR; have k2 := KRh hR
    clear hcs hm hi
    intro j hj
    have d3 := gB1 j; have f335_12 := g335 12 j rfl rfl; have f335_32 := g335 32 j rfl rfl; have f345_12 := g345 12 j rfl rfl; have f345_32 := g345 32 j rfl rfl; omega
  replace gC : TGC h345 := TGC_of gC1  ((y345_0_15).trans (y335_0_15)) ((y345_30_12).trans (y335_30_12)) ((y345_0_11).trans (y335_0_11)) ((y345_0_12).trans (y335_0_12)) ((y345_0_20).trans (y335_0_20)) ((y345_30_10).trans (y335_30_10)) ((y345_0_16).trans (y335_0_16)) ((y345_0_17).trans (y335_0_17)) ((y345_0_22).trans (y335_0_22))
  show zL _ _ _ (.inl r345 :: []) _
  refine zL_pop (pc' := 349) dL_348 rfl rfl ?_
  refine zL_goto (tgt := 1580) dL_349 rfl ?_
  exact nx _ hS hR hC hT gA gB gC
set_option maxHeartbeats 4000000 in
theorem lc_4 {Γ : Lc} {i : Int} {h : Hp} (hX : XI Γ.1) (hcs : Γ.2.2.2.2.2.1 ≤ room_1.cells ∧ Γ.2.2.2.2.2.2 ≤ room_1.slots) (hm : Γ.2.2.1 < 2147483648) (hi : 0 ≤ i ∧ i + 6 ≤ Γ.2.2.1) (hS : SI h) (hR : KR h) (hC : KC h) (hT : TI h) (gA : TGA h) (gB : TGB h) (gC : TGC h) (nx : ∀ h' : Hp, SI h' → KR h' → KC h' → TI h' → TGA h' → TGB h' → TGC h' → zL Γ 1580 (lsL i) [] h') : zL Γ 352 (lsL i) [] h := by
  refine zL_aload_n (pc' := 353) dL_352 rfl rfl ?_
  refine zL_aload_n (pc' := 354) dL_353 rfl rfl ?_
  refine zL_iload_n (pc' := 355) dL_354 rfl rfl ?_
  refine zL_iconst (pc' := 356) dL_355 rfl ?_
  refine zL_iadd (pc' := 357) dL_356 rfl ?_
  refine zL_sldE (pc' := 358) (by omega) hm dL_357 rfl (fun v357 e357 q357 => ?_)
  refine zL_aload_n (pc' := 359) dL_358 rfl rfl ?_
  refine zL_iload_n (pc' := 360) dL_359 rfl rfl ?_
  refine zL_iconst (pc' := 361) dL_360 rfl ?_
  refine zL_iadd (pc' := 362) dL_361 rfl ?_
  refine zL_sldE (pc' := 363) (by omega) hm dL_362 rfl (fun v362 e362 q362 => ?_)
  refine zL_aload_n (pc' := 364) dL_363 rfl rfl ?_
  refine zL_iload_n (pc' := 365) dL_364 rfl rfl ?_
  refine zL_iconst (pc' := 366) dL_365 rfl ?_
  refine zL_iadd (pc' := 367) dL_366 rfl ?_
  refine zL_sldE (pc' := 368) (by omega) hm dL_367 rfl (fun v367 e367 q367 => ?_)
  refine zL_inv (pc' := 371) hcs kX11_pixel vX11_pixel lk_L_33 ⟨Nat.le_of_ble_eq_true rfl, Nat.le_of_ble_eq_true rfl⟩ tb30 vq11 rfl [_, _, _] (s_X11_pixelE hS hR hC _ ⟨e357.1, e357.2⟩ _ ⟨e362.1, e362.2⟩ _ ⟨e367.1, e367.2⟩) dL_368 rfl (Nat.le_of_ble_eq_true rfl) rfl ?_
  rintro r368 h368 ⟨f368, p368⟩; obtain ⟨g368, hS, hR, hC⟩ := f368
  obtain ⟨p368_0, p368_1, p368_2, a368_0⟩ := p368
  have y368_0_25 : h368 0 25 = h 0 25 := g368 0 25 rfl rfl
  have y368_31_1 : h368 31 1 = h 31 1 := g368 31 1 rfl rfl
  have y368_33_0 : h368 33 0 = h 33 0 := g368 33 0 rfl rfl
  have y368_33_1 : h368 33 1 = h 33 1 := g368 33 1 rfl rfl
  have y368_33_2 : h368 33 2 = h 33 2 := g368 33 2 rfl rfl
  have y368_0_11 : h368 0 11 = h 0 11 := g368 0 11 rfl rfl
  have y368_0_12 : h368 0 12 = h 0 12 := g368 0 12 rfl rfl
  have y368_0_13 : h368 0 13 = h 0 13 := g368 0 13 rfl rfl
  have y368_30_11 : h368 30 11 = h 30 11 := g368 30 11 rfl rfl
  have y368_0_22 : h368 0 22 = h 0 22 := g368 0 22 rfl rfl
  have y368_36_0 : h368 36 0 = h 36 0 := g368 36 0 rfl rfl
  have y368_36_1 : h368 36 1 = h 36 1 := g368 36 1 rfl rfl
  have y368_36_2 : h368 36 2 = h 36 2 := g368 36 2 rfl rfl
  have y368_0_16 : h368 0 16 = h 0 16 := g368 0 16 rfl rfl
  have y368_0_17 : h368 0 17 = h 0 17 := g368 0 17 rfl rfl
  have y368_0_18 : h368 0 18 = h 0 18 := g368 0 18 rfl rfl
  have y368_0_15 : h368 0 15 = h 0 15 := g368 0 15 rfl rfl
  have y368_0_20 : h368 0 20 = h 0 20 := g368 0 20 rfl rfl
  have y368_30_10 : h368 30 10 = h 30 10 := g368 30 10 rfl rfl
  have y368_30_12 : h368 30 12 = h 30 12 := g368 30 12 rfl rfl
  have hT1 := hT; have gA1 := gA; have gB1 := gB; have gC1 := gC
  show zL _ _ _ (.inl r368 :: []) _
  refine zL_pop (pc' := 372) dL_371 rfl rfl ?_
  refine zL_aload_n (pc' := 373) dL_372 rfl rfl ?_
  refine zL_aload_n (pc' := 374) dL_373 rfl rfl ?_
  refine zL_iload_n (pc' := 375) dL_374 rfl rfl ?_
  refine zL_iconst (pc' := 376) dL_375 rfl ?_
  refine zL_iadd (pc' := 377) dL_376 rfl ?_
  refine zL_sldE (pc' := 378) (by omega) hm dL_377 rfl (fun v377 e377 q377 => ?_)
  refine zL_aload_n (pc' := 379) dL_378 rfl rfl ?_
  refine zL_iload_n (pc' := 380) dL_379 rfl rfl ?_
  refine zL_iconst (pc' := 381) dL_380 rfl ?_
  refine zL_iadd (pc' := 382) dL_381 rfl ?_
  refine zL_sldE (pc' := 383) (by omega) hm dL_382 rfl (fun v382 e382 q382 => ?_)
  refine zL_aload_n (pc' := 384) dL_383 rfl rfl ?_
  refine zL_iload_n (pc' := 385) dL_384 rfl rfl ?_
  refine zL_iconst (pc' := 386) dL_385 rfl ?_
  refine zL_iadd (pc' := 387) dL_386 rfl ?_
  refine zL_sldE (pc' := 388) (by omega) hm dL_387 rfl (fun v387 e387 q387 => ?_)
  refine zL_inv (pc' := 391) hcs kX12_pixel vX12_pixel lk_L_36 ⟨Nat.le_of_ble_eq_true rfl, Nat.le_of_ble_eq_true rfl⟩ tb0 vq12 rfl [_, _, _] (s_X12_pixelE hS hR hC _ ⟨e377.1, e377.2⟩ _ ⟨e382.1, e382.2⟩ _ ⟨e387.1, e387.2⟩) dL_388 rfl (Nat.le_of_ble_eq_true rfl) rfl ?_
  rintro r388 h388 ⟨f388, p388⟩; obtain ⟨g388, hS, hR, hC⟩ := f388
  obtain ⟨p388_0, p388_1, p388_2, a388_0⟩ := p388
  have y388_0_25 : h388 0 25 = h368 0 25 := g388 0 25 rfl rfl
  have y388_31_1 : h388 31 1 = h368 31 1 := g388 31 1 rfl rfl
  have y388_33_0 : h388 33 0 = h368 33 0 := g388 33 0 rfl rfl
  have y388_33_1 : h388 33 1 = h368 33 1 := g388 33 1 rfl rfl
  have y388_33_2 : h388 33 2 = h368 33 2 := g388 33 2 rfl rfl
  have y388_0_11 : h388 0 11 = h368 0 11 := g388 0 11 rfl rfl
  have y388_0_12 : h388 0 12 = h368 0 12 := g388 0 12 rfl rfl
  have y388_0_13 : h388 0 13 = h368 0 13 := g388 0 13 rfl rfl
  have y388_30_11 : h388 30 11 = h368 30 11 := g388 30 11 rfl rfl
  have y388_0_22 : h388 0 22 = h368 0 22 := g388 0 22 rfl rfl
  have y388_36_0 : h388 36 0 = h368 36 0 := g388 36 0 rfl rfl
  have y388_36_1 : h388 36 1 = h368 36 1 := g388 36 1 rfl rfl
  have y388_36_2 : h388 36 2 = h368 36 2 := g388 36 2 rfl rfl
  have y388_0_16 : h388 0 16 = h368 0 16 := g388 0 16 rfl rfl
  have y388_0_17 : h388 0 17 = h368 0 17 := g388 0 17 rfl rfl
  have y388_0_18 : h388 0 18 = h368 0 18 := g388 0 18 rfl rfl
  have y388_0_15 : h388 0 15 = h368 0 15 := g388 0 15 rfl rfl
  have y388_0_20 : h388 0 20 = h368 0 20 := g388 0 20 rfl rfl
  have y388_30_10 : h388 30 10 = h368 30 10 := g388 30 10 rfl rfl
  have y388_30_12 : h388 30 12 = h368 30 12 := g388 30 12 rfl rfl
  replace hT : TI h388 := TI_of hT1 (y388_0_25.trans y368_0_25) (y388_31_1.trans y368_31_1) (y388_33_0.trans y368_33_0) (y388_33_1.trans y368_33_1) (y388_33_2.trans y368_33_2) (y388_0_11.trans y368_0_11) (y388_0_12.trans y368_0_12) (y388_0_13.trans y368_0_13) (y388_30_11.trans y368_30_11) (y388_0_22.trans y368_0_22) (y388_36_0.trans y368_36_0) (y388_36_1.trans y368_36_1) (y388_36_2.trans y368_36_2) (y388_0_16.trans y368_0_16) (y388_0_17.trans y368_0_17) (y388_0_18.trans y368_0_18)
  have qe377 : v377 = v357 := by rw [q377, q357]
  have qe382 : v382 = v362 := by rw [q382, q362]
  have qe387 : v387 = v367 := by rw [q387, q367]
  replace gA : TGA h388 := by
    have hT2 := hT1
    unfold TI at hT2
    have k1 := KRw hR; have k2 := KRh hR
    clear hcs hm hi
    refine ⟨fun j hj => ?_, fun q j hj => ?_⟩
    · have d1 := gA1.1 j hj; have f368_1 := g368 1 j rfl rfl; have f368_10 := g368 10 j rfl rfl; have f368_35 := g368 35 j rfl rfl; have fa368_0 := a368_0 j; have f388_34 := g388 34 j rfl rfl; have f388_10 := g388 10 j rfl rfl; have f388_35 := g388 35 j rfl rfl; have fa388_0 := a388_0 j; omega
    · have d2 : h 0 22 ≠ 0 → _ := fun z => gA1.2 z j hj; have f368_6 := g368 6 j rfl rfl; have f368_37 := g368 37 j rfl rfl; have f368_11 := g368 11 j rfl rfl; have f368_38 := g368 38 j rfl rfl; have f388_6 := g388 6 j rfl rfl; have f388_37 := g388 37 j rfl rfl; have f388_11 := g388 11 j rfl rfl; have f388_38 := g388 38 j rfl rfl; omega
  replace gB : TGB h388 := TGB_of gB1 (fun j => (g388 12 j rfl rfl).trans (g368 12 j rfl rfl)) (fun j => (g388 32 j rfl rfl).trans (g368 32 j rfl rfl)) ((y388_0_25).trans (y368_0_25))
  replace gC : TGC h388 := TGC_of gC1  ((y388_0_15).trans (y368_0_15)) ((y388_30_12).trans (y368_30_12)) ((y388_0_11).trans (y368_0_11)) ((y388_0_12).trans (y368_0_12)) ((y388_0_20).trans (y368_0_20)) ((y388_30_10).trans (y368_30_10)) ((y388_0_16).trans (y368_0_16)) ((y388_0_17).trans (y368_0_17)) ((y388_0_22).trans (y368_0_22))
  show zL _ _ _ (.inl r388 :: []) _
  refine zL_pop (pc' := 392) dL_391 rfl rfl ?_
  refine zL_goto (tgt := 1580) dL_392 rfl ?_
  exact nx _ hS hR hC hT gA gB gC
set_option maxHeartbeats 4000000 in
theorem lc_5 {Γ : Lc} {i : Int} {h : Hp} (hX : XI Γ.1) (hcs : Γ.2.2.2.2.2.1 ≤ room_1.cells ∧ Γ.2.2.2.2.2.2 ≤ room_1.slots) (hm : Γ.2.2.1 < 2147483648) (hi : 0 ≤ i ∧ i + 6 ≤ Γ.2.2.1) (hS : SI h) (hR : KR h) (hC : KC h) (hT : TI h) (gA : TGA h) (gB : TGB h) (gC : TGC h) (nx : ∀ h' : Hp, SI h' → KR h' → KC h' → TI h' → TGA h' → TGB h' → TGC h' → zL Γ 1580 (lsL i) [] h') : zL Γ 395 (lsL i) [] h := by
  refine zL_aload_n (pc' := 396) dL_395 rfl rfl ?_
  refine zL_aload_n (pc' := 397) dL_396 rfl rfl ?_
  refine zL_iload_n (pc' := 398) dL_397 rfl rfl ?_
  refine zL_iconst (pc' := 399) dL_398 rfl ?_
  refine zL_iadd (pc' := 400) dL_399 rfl ?_
  refine zL_sldE (pc' := 401) (by omega) hm dL_400 rfl (fun v400 e400 q400 => ?_)
  refine zL_aload_n (pc' := 402) dL_401 rfl rfl ?_
  refine zL_iload_n (pc' := 403) dL_402 rfl rfl ?_
  refine zL_iconst (pc' := 404) dL_403 rfl ?_
  refine zL_iadd (pc' := 405) dL_404 rfl ?_
  refine zL_sldE (pc' := 406) (by omega) hm dL_405 rfl (fun v405 e405 q405 => ?_)
  refine zL_aload_n (pc' := 407) dL_406 rfl rfl ?_
  refine zL_iload_n (pc' := 408) dL_407 rfl rfl ?_
  refine zL_iconst (pc' := 409) dL_408 rfl ?_
  refine zL_iadd (pc' := 410) dL_409 rfl ?_
  refine zL_sldE (pc' := 411) (by omega) hm dL_410 rfl (fun v410 e410 q410 => ?_)
  refine zL_if_eq (tgt := 418) (pc' := 414) dL_411 rfl rfl ⟨e410.1, e410.2⟩ (fun c411 => ?_) (fun c411 => ?_)
  · refine zL_iconst (pc' := 419) dL_418 rfl ?_
    refine zL_inv (pc' := 422) hcs kX11_dead vX11_dead lk_L_37 ⟨Nat.le_of_ble_eq_true rfl, Nat.le_of_ble_eq_true rfl⟩ tb30 vq11 rfl [_, _, _] (s_X11_deadD hS hR hC _ ⟨e400.1, e400.2⟩ _ ⟨e405.1, e405.2⟩ _ ⟨by omega, by omega⟩) dL_419 rfl (Nat.le_of_ble_eq_true rfl) rfl ?_
    rintro r419 h419 ⟨f419, p419⟩; obtain ⟨g419, hS, hR, hC⟩ := f419
    obtain ⟨p419_0, a419_0⟩ := p419
    have y419_0_25 : h419 0 25 = h 0 25 := g419 0 25 rfl rfl
    have y419_31_1 : h419 31 1 = h 31 1 := g419 31 1 rfl rfl
    have y419_33_0 : h419 33 0 = h 33 0 := g419 33 0 rfl rfl
    have y419_33_1 : h419 33 1 = h 33 1 := g419 33 1 rfl rfl
    have y419_33_2 : h419 33 2 = h 33 2 := g419 33 2 rfl rfl
    have y419_0_11 : h419 0 11 = h 0 11 := g419 0 11 rfl rfl
    have y419_0_12 : h419 0 12 = h 0 12 := g419 0 12 rfl rfl
    have y419_0_13 : h419 0 13 = h 0 13 := g419 0 13 rfl rfl
    have y419_30_11 : h419 30 11 = h 30 11 := g419 30 11 rfl rfl
    have y419_0_22 : h419 0 22 = h 0 22 := g419 0 22 rfl rfl
    have y419_36_0 : h419 36 0 = h 36 0 := g419 36 0 rfl rfl
    have y419_36_1 : h419 36 1 = h 36 1 := g419 36 1 rfl rfl
    have y419_36_2 : h419 36 2 = h 36 2 := g419 36 2 rfl rfl
    have y419_0_16 : h419 0 16 = h 0 16 := g419 0 16 rfl rfl
    have y419_0_17 : h419 0 17 = h 0 17 := g419 0 17 rfl rfl
    have y419_0_18 : h419 0 18 = h 0 18 := g419 0 18 rfl rfl
    have y419_0_15 : h419 0 15 = h 0 15 := g419 0 15 rfl rfl
    have y419_0_20 : h419 0 20 = h 0 20 := g419 0 20 rfl rfl
    have y419_30_10 : h419 30 10 = h 30 10 := g419 30 10 rfl rfl
    have y419_30_12 : h419 30 12 = h 30 12 := g419 30 12 rfl rfl
    have hT1 := hT; have gA1 := gA; have gB1 := gB; have gC1 := gC
    show zL _ _ _ (.inl r419 :: []) _
    refine zL_pop (pc' := 423) dL_422 rfl rfl ?_
    refine zL_aload_n (pc' := 424) dL_423 rfl rfl ?_
    refine zL_aload_n (pc' := 425) dL_424 rfl rfl ?_
    refine zL_iload_n (pc' := 426) dL_425 rfl rfl ?_
    refine zL_iconst (pc' := 427) dL_426 rfl ?_
    refine zL_iadd (pc' := 428) dL_427 rfl ?_
    refine zL_sldE (pc' := 429) (by omega) hm dL_428 rfl (fun v428 e428 q428 => ?_)
    refine zL_aload_n (pc' := 430) dL_429 rfl rfl ?_
    refine zL_iload_n (pc' := 431) dL_430 rfl rfl ?_
    refine zL_iconst (pc' := 432) dL_431 rfl ?_
    refine zL_iadd (pc' := 433) dL_432 rfl ?_
    refine zL_sldE (pc' := 434) (by omega) hm dL_433 rfl (fun v433 e433 q433 => ?_)
    refine zL_aload_n (pc' := 435) dL_434 rfl rfl ?_
    refine zL_iload_n (pc' := 436) dL_435 rfl rfl ?_
    refine zL_iconst (pc' := 437) dL_436 rfl ?_
    refine zL_iadd (pc' := 438) dL_437 rfl ?_
    refine zL_sldE (pc' := 439) (by omega) hm dL_438 rfl (fun v438 e438 q438 => ?_)
    refine zL_if_eq (tgt := 446) (pc' := 442) dL_439 rfl rfl ⟨e438.1, e438.2⟩ (fun c439 => ?_) (fun c439 => ?_)
    · refine zL_iconst (pc' := 447) dL_446 rfl ?_
      refine zL_inv (pc' := 450) hcs kX12_dead vX12_dead lk_L_41 ⟨Nat.le_of_ble_eq_true rfl, Nat.le_of_ble_eq_true rfl⟩ tb0 vq12 rfl [_, _, _] (s_X12_deadD hS hR hC _ ⟨e428.1, e428.2⟩ _ ⟨e433.1, e433.2⟩ _ ⟨by omega, by omega⟩) dL_447 rfl (Nat.le_of_ble_eq_true rfl) rfl ?_
      rintro r447 h447 ⟨f447, p447⟩; obtain ⟨g447, hS, hR, hC⟩ := f447
      obtain ⟨p447_0, a447_0⟩ := p447
      have y447_0_25 : h447 0 25 = h419 0 25 := g447 0 25 rfl rfl
      have y447_31_1 : h447 31 1 = h419 31 1 := g447 31 1 rfl rfl
      have y447_33_0 : h447 33 0 = h419 33 0 := g447 33 0 rfl rfl
      have y447_33_1 : h447 33 1 = h419 33 1 := g447 33 1 rfl rfl
      have y447_33_2 : h447 33 2 = h419 33 2 := g447 33 2 rfl rfl
      have y447_0_11 : h447 0 11 = h419 0 11 := g447 0 11 rfl rfl
      have y447_0_12 : h447 0 12 = h419 0 12 := g447 0 12 rfl rfl
      have y447_0_13 : h447 0 13 = h419 0 13 := g447 0 13 rfl rfl
      have y447_30_11 : h447 30 11 = h419 30 11 := g447 30 11 rfl rfl
      have y447_0_22 : h447 0 22 = h419 0 22 := g447 0 22 rfl rfl
      have y447_36_0 : h447 36 0 = h419 36 0 := g447 36 0 rfl rfl
      have y447_36_1 : h447 36 1 = h419 36 1 := g447 36 1 rfl rfl
      have y447_36_2 : h447 36 2 = h419 36 2 := g447 36 2 rfl rfl
      have y447_0_16 : h447 0 16 = h419 0 16 := g447 0 16 rfl rfl
      have y447_0_17 : h447 0 17 = h419 0 17 := g447 0 17 rfl rfl
      have y447_0_18 : h447 0 18 = h419 0 18 := g447 0 18 rfl rfl
      have y447_0_15 : h447 0 15 = h419 0 15 := g447 0 15 rfl rfl
      have y447_0_20 : h447 0 20 = h419 0 20 := g447 0 20 rfl rfl
      have y447_30_10 : h447 30 10 = h419 30 10 := g447 30 10 rfl rfl
      have y447_30_12 : h447 30 12 = h419 30 12 := g447 30 12 rfl rfl
      replace hT : TI h447 := TI_of hT1 (y447_0_25.trans y419_0_25) (y447_31_1.trans y419_31_1) (y447_33_0.trans y419_33_0) (y447_33_1.trans y419_33_1) (y447_33_2.trans y419_33_2) (y447_0_11.trans y419_0_11) (y447_0_12.trans y419_0_12) (y447_0_13.trans y419_0_13) (y447_30_11.trans y419_30_11) (y447_0_22.trans y419_0_22) (y447_36_0.trans y419_36_0) (y447_36_1.trans y419_36_1) (y447_36_2.trans y419_36_2) (y447_0_16.trans y419_0_16) (y447_0_17.trans y419_0_17) (y447_0_18.trans y419_0_18)
      have qe428 : v428 = v400 := by rw [q428, q400]
      have qe433 : v433 = v405 := by rw [q433, q405]
      have qe438 : v438 = v410 := by rw [q438, q410]
      replace gA : TGA h447 := by
        have hT2 := hT1
        unfold TI at hT2
        have k1 := KRw hR; have k2 := KRh hR
        clear hcs hm hi
        refine ⟨fun j hj => ?_, fun q j hj => ?_⟩
        · have d1 := gA1.1 j hj; have f419_1 := g419 1 j rfl rfl; have f419_34 := g419 34 j rfl rfl; have f419_10 := g419 10 j rfl rfl; have fa419_0 := a419_0 j; have f447_1 := g447 1 j rfl rfl; have f447_34 := g447 34 j rfl rfl; have f447_35 := g447 35 j rfl rfl; have fa447_0 := a447_0 j; omega
        · have d2 : h 0 22 ≠ 0 → _ := fun z => gA1.2 z j hj; have f419_6 := g419 6 j rfl rfl; have f419_37 := g419 37 j rfl rfl; have f419_11 := g419 11 j rfl rfl; have f419_38 := g419 38 j rfl rfl; have f447_6 := g447 6 j rfl rfl; have f447_37 := g447 37 j rfl rfl; have f447_11 := g447 11 j rfl rfl; have f447_38 := g447 38 j rfl rfl; omega
      replace gB : TGB h447 := TGB_of gB1 (fun j => (g447 12 j rfl rfl).trans (g419 12 j rfl rfl)) (fun j => (g447 32 j rfl rfl).trans (g419 32 j rfl rfl)) ((y447_0_25).trans (y419_0_25))
      replace gC : TGC h447 := TGC_of gC1  ((y447_0_15).trans (y419_0_15)) ((y447_30_12).trans (y419_30_12)) ((y447_0_11).trans (y419_0_11)) ((y447_0_12).trans (y419_0_12)) ((y447_0_20).trans (y419_0_20)) ((y447_30_10).trans (y419_30_10)) ((y447_0_16).trans (y419_0_16)) ((y447_0_17).trans (y419_0_17)) ((y447_0_22).trans (y419_0_22))
      show zL _ _ _ (.inl r447 :: []) _
      refine zL_pop (pc' := 451) dL_450 rfl rfl ?_
      refine zL_goto (tgt := 1580) dL_451 rfl ?_
      exact nx _ hS hR hC hT gA gB gC
    · have qb438 : v438 = v410 := by rw [q438, q410]
      exfalso; omega
  · refine zL_iconst (pc' := 415) dL_414 rfl ?_
    refine zL_goto (tgt := 419) dL_415 rfl ?_
    refine zL_inv (pc' := 422) hcs kX11_dead vX11_dead lk_L_37 ⟨Nat.le_of_ble_eq_true rfl, Nat.le_of_ble_eq_true rfl⟩ tb30 vq11 rfl [_, _, _] (s_X11_deadD hS hR hC _ ⟨e400.1, e400.2⟩ _ ⟨e405.1, e405.2⟩ _ ⟨by omega, by omega⟩) dL_419 rfl (Nat.le_of_ble_eq_true rfl) rfl ?_
    rintro r419 h419 ⟨f419, p419⟩; obtain ⟨g419, hS, hR, hC⟩ := f419
    obtain ⟨p419_0, a419_0⟩ := p419
    have y419_0_25 : h419 0 25 = h 0 25 := g419 0 25 rfl rfl
    have y419_31_1 : h419 31 1 = h 31 1 := g419 31 1 rfl rfl
    have y419_33_0 : h419 33 0 = h 33 0 := g419 33 0 rfl rfl
    have y419_33_1 : h419 33 1 = h 33 1 := g419 33 1 rfl rfl
    have y419_33_2 : h419 33 2 = h 33 2 := g419 33 2 rfl rfl
    have y419_0_11 : h419 0 11 = h 0 11 := g419 0 11 rfl rfl
    have y419_0_12 : h419 0 12 = h 0 12 := g419 0 12 rfl rfl
    have y419_0_13 : h419 0 13 = h 0 13 := g419 0 13 rfl rfl
    have y419_30_11 : h419 30 11 = h 30 11 := g419 30 11 rfl rfl
    have y419_0_22 : h419 0 22 = h 0 22 := g419 0 22 rfl rfl
    have y419_36_0 : h419 36 0 = h 36 0 := g419 36 0 rfl rfl
    have y419_36_1 : h419 36 1 = h 36 1 := g419 36 1 rfl rfl
    have y419_36_2 : h419 36 2 = h 36 2 := g419 36 2 rfl rfl
    have y419_0_16 : h419 0 16 = h 0 16 := g419 0 16 rfl rfl
    have y419_0_17 : h419 0 17 = h 0 17 := g419 0 17 rfl rfl
    have y419_0_18 : h419 0 18 = h 0 18 := g419 0 18 rfl rfl
    have y419_0_15 : h419 0 15 = h 0 15 := g419 0 15 rfl rfl
    have y419_0_20 : h419 0 20 = h 0 20 := g419 0 20 rfl rfl
    have y419_30_10 : h419 30 10 = h 30 10 := g419 30 10 rfl rfl
    have y419_30_12 : h419 30 12 = h 30 12 := g419 30 12 rfl rfl
    have hT1 := hT; have gA1 := gA; have gB1 := gB; have gC1 := gC
    show zL _ _ _ (.inl r419 :: []) _
    refine zL_pop (pc' := 423) dL_422 rfl rfl ?_
    refine zL_aload_n (pc' := 424) dL_423 rfl rfl ?_
    refine zL_aload_n (pc' := 425) dL_424 rfl rfl ?_
    refine zL_iload_n (pc' := 426) dL_425 rfl rfl ?_
    refine zL_iconst (pc' := 427) dL_426 rfl ?_
    refine zL_iadd (pc' := 428) dL_427 rfl ?_
    refine zL_sldE (pc' := 429) (by omega) hm dL_428 rfl (fun v428 e428 q428 => ?_)
    refine zL_aload_n (pc' := 430) dL_429 rfl rfl ?_
    refine zL_iload_n (pc' := 431) dL_430 rfl rfl ?_
    refine zL_iconst (pc' := 432) dL_431 rfl ?_
    refine zL_iadd (pc' := 433) dL_432 rfl ?_
    refine zL_sldE (pc' := 434) (by omega) hm dL_433 rfl (fun v433 e433 q433 => ?_)
    refine zL_aload_n (pc' := 435) dL_434 rfl rfl ?_
    refine zL_iload_n (pc' := 436) dL_435 rfl rfl ?_
    refine zL_iconst (pc' := 437) dL_436 rfl ?_
    refine zL_iadd (pc' := 438) dL_437 rfl ?_
    refine zL_sldE (pc' := 439) (by omega) hm dL_438 rfl (fun v438 e438 q438 => ?_)
    refine zL_if_eq (tgt := 446) (pc' := 442) dL_439 rfl rfl ⟨e438.1, e438.2⟩ (fun c439 => ?_) (fun c439 => ?_)
    · have qb438 : v438 = v410 := by rw [q438, q410]
      exfalso; omega
    · refine zL_iconst (pc' := 443) dL_442 rfl ?_
      refine zL_goto (tgt := 447) dL_443 rfl ?_
      refine zL_inv (pc' := 450) hcs kX12_dead vX12_dead lk_L_41 ⟨Nat.le_of_ble_eq_true rfl, Nat.le_of_ble_eq_true rfl⟩ tb0 vq12 rfl [_, _, _] (s_X12_deadD hS hR hC _ ⟨e428.1, e428.2⟩ _ ⟨e433.1, e433.2⟩ _ ⟨by omega, by omega⟩) dL_447 rfl (Nat.le_of_ble_eq_true rfl) rfl ?_
      rintro r447 h447 ⟨f447, p447⟩; obtain ⟨g447, hS, hR, hC⟩ := f447
      obtain ⟨p447_0, a447_0⟩ := p447
      have y447_0_25 : h447 0 25 = h419 0 25 := g447 0 25 rfl rfl
      have y447_31_1 : h447 31 1 = h419 31 1 := g447 31 1 rfl rfl
      have y447_33_0 : h447 33 0 = h419 33 0 := g447 33 0 rfl rfl
      have y447_33_1 : h447 33 1 = h419 33 1 := g447 33 1 rfl rfl
      have y447_33_2 : h447 33 2 = h419 33 2 := g447 33 2 rfl rfl
      have y447_0_11 : h447 0 11 = h419 0 11 := g447 0 11 rfl rfl
      have y447_0_12 : h447 0 12 = h419 0 12 := g447 0 12 rfl rfl
      have y447_0_13 : h447 0 13 = h419 0 13 := g447 0 13 rfl rfl
      have y447_30_11 : h447 30 11 = h419 30 11 := g447 30 11 rfl rfl
      have y447_0_22 : h447 0 22 = h419 0 22 := g447 0 22 rfl rfl
      have y447_36_0 : h447 36 0 = h419 36 0 := g447 36 0 rfl rfl
      have y447_36_1 : h447 36 1 = h419 36 1 := g447 36 1 rfl rfl
      have y447_36_2 : h447 36 2 = h419 36 2 := g447 36 2 rfl rfl
      have y447_0_16 : h447 0 16 = h419 0 16 := g447 0 16 rfl rfl
      have y447_0_17 : h447 0 17 = h419 0 17 := g447 0 17 rfl rfl
      have y447_0_18 : h447 0 18 = h419 0 18 := g447 0 18 rfl rfl
      have y447_0_15 : h447 0 15 = h419 0 15 := g447 0 15 rfl rfl
      have y447_0_20 : h447 0 20 = h419 0 20 := g447 0 20 rfl rfl
      have y447_30_10 : h447 30 10 = h419 30 10 := g447 30 10 rfl rfl
      have y447_30_12 : h447 30 12 = h419 30 12 := g447 30 12 rfl rfl
      replace hT : TI h447 := TI_of hT1 (y447_0_25.trans y419_0_25) (y447_31_1.trans y419_31_1) (y447_33_0.trans y419_33_0) (y447_33_1.trans y419_33_1) (y447_33_2.trans y419_33_2) (y447_0_11.trans y419_0_11) (y447_0_12.trans y419_0_12) (y447_0_13.trans y419_0_13) (y447_30_11.trans y419_30_11) (y447_0_22.trans y419_0_22) (y447_36_0.trans y419_36_0) (y447_36_1.trans y419_36_1) (y447_36_2.trans y419_36_2) (y447_0_16.trans y419_0_16) (y447_0_17.trans y419_0_17) (y447_0_18.trans y419_0_18)
      have qe428 : v428 = v400 := by rw [q428, q400]
      have qe433 : v433 = v405 := by rw [q433, q405]
      have qe438 : v438 = v410 := by rw [q438, q410]
      replace gA : TGA h447 := by
        have hT2 := hT1
        unfold TI at hT2
        have k1 := KRw hR; have k2 := KRh hR
        clear hcs hm hi
        refine ⟨fun j hj => ?_, fun q j hj => ?_⟩
        · have d1 := gA1.1 j hj; have f419_1 := g419 1 j rfl rfl; have f419_34 := g419 34 j rfl rfl; have f419_10 := g419 10 j rfl rfl; have fa419_0 := a419_0 j; have f447_1 := g447 1 j rfl rfl; have f447_34 := g447 34 j rfl rfl; have f447_35 := g447 35 j rfl rfl; have fa447_0 := a447_0 j; omega
        · have d2 : h 0 22 ≠ 0 → _ := fun z => gA1.2 z j hj; have f419_6 := g419 6 j rfl rfl; have f419_37 := g419 37 j rfl rfl; have f419_11 := g419 11 j rfl rfl; have f419_38 := g419 38 j rfl rfl; have f447_6 := g447 6 j rfl rfl; have f447_37 := g447 37 j rfl rfl; have f447_11 := g447 11 j rfl rfl; have f447_38 := g447 38 j rfl rfl; omega
      replace gB : TGB h447 := TGB_of gB1 (fun j => (g447 12 j rfl rfl).trans (g419 12 j rfl rfl)) (fun j => (g447 32 j rfl rfl).trans (g419 32 j rfl rfl)) ((y447_0_25).trans (y419_0_25))
      replace gC : TGC h447 := TGC_of gC1  ((y447_0_15).trans (y419_0_15)) ((y447_30_12).trans (y419_30_12)) ((y447_0_11).trans (y419_0_11)) ((y447_0_12).trans (y419_0_12)) ((y447_0_20).trans (y419_0_20)) ((y447_30_10).trans (y419_30_10)) ((y447_0_16).trans (y419_0_16)) ((y447_0_17).trans (y419_0_17)) ((y447_0_22).trans (y419_0_22))
      show zL _ _ _ (.inl r447 :: []) _
      refine zL_pop (pc' := 451) dL_450 rfl rfl ?_
      refine zL_goto (tgt := 1580) dL_451 rfl ?_
      exact nx _ hS hR hC hT gA gB gC
