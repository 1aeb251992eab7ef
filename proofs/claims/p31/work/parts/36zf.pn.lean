/-! false colours voted down -/
def df9 (W H : Int) (F : P3) (c x y : Int) (k : Nat) : Int := F c (mir (x + ((k % 3 : Nat) - 1)) W) (mir (y + ((k / 3 : Nat) - 1)) H) - F 1 (mir (x + ((k % 3 : Nat) - 1)) W) (mir (y + ((k / 3 : Nat) - 1)) H)
def med (W H : Int) (F : P3) (c x y : Int) : Int := srt (df9 W H F c x y) 9 4
def vc (W H : Int) (F : P3) (d c x y : Int) : Int := if c = d then clp (F 1 x y + med W H F d x y) else F c x y
def vtN (W H : Int) (F : P3) : Nat → P3
  | 0 => F
  | k + 1 => vc W H (vc W H (vtN W H F k) 0) 2
theorem vc_b {W H : Int} {F : P3} {d : Int} (h : FB3 W H F) : FB3 W H (vc W H F d) := fun c hc x y hp => by
  unfold vc
  split
  · exact clp_b _
  · exact h c hc x y hp
theorem vtN_b {W H : Int} {F : P3} (h : FB3 W H F) : ∀ k, FB3 W H (vtN W H F k)
  | 0 => h
  | k + 1 => vc_b (vc_b (vtN_b h k))
theorem med_vc {W H : Int} {F : P3} {c d x y : Int} (h : c ≠ d) (h1 : d ≠ 1) : med W H (vc W H F d) c x y = med W H F c x y := by
  have e : df9 W H (vc W H F d) c x y = df9 W H F c x y := by
    funext k
    unfold df9 vc
    rw [if_neg h, if_neg (fun q => h1 q.symm)]
  unfold med
  rw [e]
theorem vt_eq {W H : Int} {F : P3} {c x y : Int} : vc W H (vc W H F 0) 2 c x y = if c = 1 then F 1 x y else if c = 0 ∨ c = 2 then clp (F 1 x y + med W H F c x y) else F c x y := by
  by_cases e : c = 2
  · subst e
    unfold vc
    rw [if_pos rfl, if_neg (by decide), if_neg (by decide), if_pos (Or.inr rfl)]
    have z := med_vc (W := W) (H := H) (F := F) (c := 2) (d := 0) (x := x) (y := y) (by decide) (by decide)
    unfold vc at z
    rw [z]
  · by_cases e0 : c = 0
    · subst e0
      unfold vc
      rw [if_neg (by decide), if_pos rfl, if_neg (by decide), if_pos (Or.inl rfl)]
    · unfold vc
      rw [if_neg e, if_neg e0]
      by_cases e1 : c = 1
      · rw [if_pos e1, e1]
      · rw [if_neg e1, if_neg (by omega)]
theorem swp_hi {A : Nat → Int} {j i : Nat} (h : j + 1 < i) : swp A j i = A i := by
  unfold swp
  rw [if_neg (by omega), if_neg (by omega)]
theorem bub_hi : ∀ (j : Nat) (A : Nat → Int) (i : Nat), j < i → bub A j i = A i
  | 0, _, _, _ => rfl
  | j + 1, A, i, h => by
    rcases bubc A j with ⟨_, e⟩ | ⟨_, e⟩ <;> rw [e]
    rw [bub_hi j _ i (by omega), swp_hi (by omega)]
theorem srt_hi {A : Nat → Int} : ∀ (n i : Nat), n ≤ i → srt A n i = A i
  | 0, _, _ => rfl
  | n + 1, i, h => by
    show bub (srt A n) n i = A i
    rw [bub_hi n _ i (by omega), srt_hi n i (by omega)]
/-- sorted so far, and within bounds -/
def SrO (A R : Nat → Int) (n : Int) : Prop := ∀ j : Nat, (j : Int) < n → R j = srt A n.toNat j ∧ -4095 ≤ R j ∧ R j ≤ 4095
/-- a is on its way down, at w -/
def VSo (A R : Nat → Int) (n w a : Int) : Prop := ∃ B : Nat → Int, (∀ j : Nat, (j : Int) ≤ n → (j : Int) ≠ w → R j = B j ∧ -4095 ≤ R j ∧ R j ≤ 4095) ∧ B w.toNat = a ∧ bub B w.toNat = srt A (n + 1).toNat
theorem VSo.st {A R : Nat → Int} {n a : Int} (hn : 0 ≤ n) (h : SrO A R n) (ha : a = A n.toNat) : VSo A R n n a :=
  ⟨srt A n.toNat, fun j h1 h2 => h j (by omega), by rw [srt_hi _ _ (Nat.le_refl _)]; exact ha.symm, by rw [show (n + 1).toNat = n.toNat + 1 by omega]; rfl⟩
theorem VSo.nx {A : Nat → Int} {h : Hp} {l : Nat} {n w a b : Int} (hV : VSo A (h l) n w a) (hw : 1 ≤ w ∧ w ≤ n) (hb : b = h l (w - 1).toNat) (hl : a < b) : VSo A (zwr h l w.toNat b l) n (w - 1) a := by
  obtain ⟨B, h1, h2, h3⟩ := hV
  have q := h1 (w - 1).toNat (by omega) (by omega)
  refine ⟨swp B (w - 1).toNat, fun j hj hj2 => ?_, ?_, ?_⟩
  · unfold swp
    rw [if_neg (show ¬ j = (w - 1).toNat by omega)] <;> skip
    by_cases e : j = (w - 1).toNat + 1
    · rw [if_pos e, show j = w.toNat by omega, zwr_eq, hb]; exact q
    · rw [if_neg e, zwr_ne (Or.inr (by omega))]
      exact h1 j hj (by omega)
  · unfold swp
    rw [if_neg (by omega), if_pos rfl, show (w - 1).toNat + 1 = w.toNat by omega]; exact h2
  · rw [← h3, show w.toNat = (w - 1).toNat + 1 by omega, bub_s]
    rw [show (w - 1).toNat + 1 = w.toNat by omega, h2, ← q.1, ← hb]; exact hl
theorem VSo.en {A : Nat → Int} {h : Hp} {l : Nat} {n w a : Int} (hV : VSo A (h l) n w a) (hw : 0 ≤ w ∧ w ≤ n) (ha : -4095 ≤ a ∧ a ≤ 4095) (he : w ≤ 0 ∨ (1 ≤ w ∧ ¬ a < h l (w - 1).toNat)) : SrO A (zwr h l w.toNat a l) (n + 1) := by
  obtain ⟨B, h1, h2, h3⟩ := hV
  have e : bub B w.toNat = B := by
    rcases he with q | ⟨q1, q2⟩
    · rw [show w.toNat = 0 by omega]; rfl
    · rw [show w.toNat = (w - 1).toNat + 1 by omega, bub_e]
      rw [show (w - 1).toNat + 1 = w.toNat by omega, h2, ← (h1 (w - 1).toNat (by omega) (by omega)).1]; exact q2
  intro j hj
  rw [← h3, e]
  by_cases c : j = w.toNat
  · rw [c, zwr_eq, h2]; exact ⟨rfl, ha⟩
  · rw [zwr_ne (Or.inr c)]
    exact h1 j (by omega) (by omega)
theorem Fw.wp {C : List Nat} {L : List (Nat × Nat)} {g h : Hp} {a c d n : Nat} (f : Fw C L g h) (hc : c ∈ C) : Fw C L g (zcp h a c d n) := fun k i h1 h2 => (zcp_ne (by intro q; exact h1 c hc (by omega))).trans (f k i h1 h2)

abbrev q_X3_medianAtZ (b : Bd) (κ : Hp) (l1 : Nat) (x2 : Int) (x3 : Int) (x4 : Int) (F : P3) (gh0 : Hp) : Int → Hp → Prop := fun r h' => Fr b κ h' ∧ ((Fw [94] [] gh0 h') ∧ (-4095 ≤ r) ∧ (r ≤ 4095) ∧ (r = med (κ 33 0) (κ 33 1) F x2 x3 x4))
set_option maxHeartbeats 4000000 in
set_option maxRecDepth 20000 in
theorem s_X3_medianAtZ {G : Ga} {b : Bd} {κ h : Hp} (hK : KC κ) (hF : Fr b κ h) (l1 : Nat) (hl1 : 71 ≤ l1 ∧ l1 ≤ 85) (x2 : Int) (hx2 : 0 ≤ x2 ∧ x2 ≤ 2) (x3 : Int) (hx3 : 0 ≤ x3 ∧ x3 ≤ 15 ∧ x3 - κ 33 0 ≤ -1) (x4 : Int) (hx4 : 0 ≤ x4 ∧ x4 ≤ 15 ∧ x4 - κ 33 1 ≤ -1) (F : P3) (gh0 : Hp) (hF3 : FuS (κ 33 0) (κ 33 1) (h l1) F) (hb3 : FB3 (κ 33 0) (κ 33 1) F) (hgh : Fw [94] [] gh0 h) : zM G mX3_medianAt yX3_medianAt [.inr (.inr 87), .inr (.inr l1), .inl x2, .inl x3, .inl x4] h (q_X3_medianAtZ b κ l1 x2 x3 x4 F gh0) := by
  have f_33_0 := KCw hK
  have f_33_1 := KCh hK
  have main : ∀ N : Nat, (∀ (v5 v6 : Int) (h : Hp), Fr b κ h → (0 ≤ v5 ∧ v5 ≤ 9) → (-1 ≤ v6 ∧ v6 ≤ 2) → (v5 = 3 * (v6 + 1)) → (SrO (df9 (κ 33 0) (κ 33 1) F x2 x3 x4) (h 94) v5) → (FuS (κ 33 0) (κ 33 1) (h l1) F) → (Fw [94] [] gh0 h) → 3430224000 + 8366400 * (2 - v6) + 8265600 < (N : Int) → zV G mX3_medianAt (q_X3_medianAtZ b κ l1 x2 x3 x4 F gh0) 6 [some (.inr (.inr 87)), some (.inr (.inr l1)), some (.inl x2), some (.inl x3), some (.inl x4), some (.inl v5), some (.inl v6), none, none, none, none, none] [] h) ∧ (∀ (v5 v6 v7 v8 : Int) (h : Hp), Fr b κ h → (0 ≤ v5 ∧ v5 ≤ 9) → (-1 ≤ v6 ∧ v6 ≤ 1) → (0 ≤ v7 ∧ v7 ≤ 240) → (-1 ≤ v8 ∧ v8 ≤ 2) → (v5 = 3 * (v6 + 1) + (v8 + 1)) → (v7 = 16 * mir (x4 + v6) (κ 33 1)) → (SrO (df9 (κ 33 0) (κ 33 1) F x2 x3 x4) (h 94) v5) → (v6 ≤ 1) → (FuS (κ 33 0) (κ 33 1) (h l1) F) → (Fw [94] [] gh0 h) → 3430224000 + 8366400 * (2 - v6) + 6249600 + 20160 * (2 - v8) + 19840 < (N : Int) → zV G mX3_medianAt (q_X3_medianAtZ b κ l1 x2 x3 x4 F gh0) 35 [some (.inr (.inr 87)), some (.inr (.inr l1)), some (.inl x2), some (.inl x3), some (.inl x4), some (.inl v5), some (.inl v6), some (.inl v7), some (.inl v8), none, none, none] [] h) ∧ (∀ (v5 v6 v7 v8 v9 v10 v11 : Int) (h : Hp), Fr b κ h → (0 ≤ v5 ∧ v5 ≤ 8) → (-1 ≤ v6 ∧ v6 ≤ 1) → (0 ≤ v7 ∧ v7 ≤ 240) → (-1 ≤ v8 ∧ v8 ≤ 1) → (0 ≤ v9 ∧ v9 ≤ 255) → (-4095 ≤ v10 ∧ v10 ≤ 4095) → (0 ≤ v11 ∧ v11 ≤ 8) → (v5 = 3 * (v6 + 1) + (v8 + 1)) → (v11 ≤ v5) → (v7 = 16 * mir (x4 + v6) (κ 33 1)) → (VSo (df9 (κ 33 0) (κ 33 1) F x2 x3 x4) (h 94) v5 v11 v10) → (v6 ≤ 1 ∧ v8 ≤ 1) → (FuS (κ 33 0) (κ 33 1) (h l1) F) → (Fw [94] [] gh0 h) → 3430224000 + 8366400 * (2 - v6) + 6249600 + 20160 * (2 - v8) + 9920 + 32 * (v11 - 0) + 31 < (N : Int) → zV G mX3_medianAt (q_X3_medianAtZ b κ l1 x2 x3 x4 F gh0) 85 [some (.inr (.inr 87)), some (.inr (.inr l1)), some (.inl x2), some (.inl x3), some (.inl x4), some (.inl v5), some (.inl v6), some (.inl v7), some (.inl v8), some (.inl v9), some (.inl v10), some (.inl v11)] [] h) ∧ (∀ (v5 v6 v7 v8 v9 v10 v11 : Int) (h : Hp), Fr b κ h → (0 ≤ v5 ∧ v5 ≤ 8) → (-1 ≤ v6 ∧ v6 ≤ 1) → (0 ≤ v7 ∧ v7 ≤ 240) → (-1 ≤ v8 ∧ v8 ≤ 1) → (0 ≤ v9 ∧ v9 ≤ 255) → (-4095 ≤ v10 ∧ v10 ≤ 4095) → (0 ≤ v11 ∧ v11 ≤ 8) → (v5 = 3 * (v6 + 1) + (v8 + 1)) → (v11 ≤ v5) → (v7 = 16 * mir (x4 + v6) (κ 33 1)) → (VSo (df9 (κ 33 0) (κ 33 1) F x2 x3 x4) (h 94) v5 v11 v10) → (v6 ≤ 1 ∧ v8 ≤ 1) → (v11 ≤ 0 ∨ (1 ≤ v11 ∧ ¬ v10 < h 94 (v11 - 1).toNat)) → (FuS (κ 33 0) (κ 33 1) (h l1) F) → (Fw [94] [] gh0 h) → 3430224000 + 8366400 * (2 - v6) + 6249600 + 20160 * (2 - v8) + 6720 < (N : Int) → zV G mX3_medianAt (q_X3_medianAtZ b κ l1 x2 x3 x4 F gh0) 126 [some (.inr (.inr 87)), some (.inr (.inr l1)), some (.inl x2), some (.inl x3), some (.inl x4), some (.inl v5), some (.inl v6), some (.inl v7), some (.inl v8), some (.inl v9), some (.inl v10), some (.inl v11)] [] h) := by
    intro N
    induction N with
    | zero =>
      refine ⟨?_, ?_, ?_, ?_⟩
      · intro v5 v6 h hF g0 g1 gc0 gc1 hF3 hgh hm
        exfalso; omega
      · intro v5 v6 v7 v8 h hF g0 g1 g2 g3 gc0 gc1 gc2 gc3 hF3 hgh hm
        exfalso; omega
      · intro v5 v6 v7 v8 v9 v10 v11 h hF g0 g1 g2 g3 g4 g5 g6 gc0 gc1 gc2 gc3 gc4 hF3 hgh hm
        exfalso; omega
      · intro v5 v6 v7 v8 v9 v10 v11 h hF g0 g1 g2 g3 g4 g5 g6 gc0 gc1 gc2 gc3 gc4 gc5 hF3 hgh hm
        exfalso; omega
    | succ N ih =>
      obtain ⟨k6, k35, k85, k126⟩ := ih
      refine ⟨?_, ?_, ?_, ?_⟩
      · intro v5 v6 h hF g0 g1 gc0 gc1 hF3 hgh hm
        refine zW_iload (pc' := 8) dX3_medianAt_0.1.2.1.1 rfl rfl ?_
        refine zW_iconst (pc' := 9) dX3_medianAt_0.1.2.1.2 rfl ?_
        refine zV_cm_gt (tgt := 150) (pc' := 12) dX3_medianAt_0.1.2.2.1 rfl rfl ⟨by omega, by omega⟩ ⟨by omega, by omega⟩ (fun c9 => ?_) (fun c9 => ?_)
        · refine zW_aload_n (pc' := 151) dX3_medianAt_5.1.1.1 rfl rfl ?_
          refine zG_ref (pc' := 154) 94 fg_X3_20 tb87 rfl dX3_medianAt_5.1.1.2 rfl ?_
          refine zW_iconst (pc' := 155) dX3_medianAt_5.1.2 rfl ?_
          refine zV_iald (pc' := 156) tb94 (by omega) dX3_medianAt_5.2.1 (by decide) rfl ?_
          have b155 := gc1 4 (by omega)
          exact zV_iret rfl dX3_medianAt_5.2.2 ⟨hF, ⟨hgh, (by unfold med; have z := gc1 4 (by omega); rw [show v5.toNat = 9 by omega] at z; exact ⟨z.2.1, z.2.2, z.1⟩)⟩⟩
        · refine zW_iload (pc' := 14) dX3_medianAt_0.1.2.2.2 rfl rfl ?_
          refine zW_iload (pc' := 16) dX3_medianAt_0.2.1.1.1 rfl rfl ?_
          refine zW_iadd (pc' := 17) dX3_medianAt_0.2.1.1.2 rfl ?_
          refine zW_aload_n (pc' := 18) dX3_medianAt_0.2.1.2.1 rfl rfl ?_
          refine zG_ref (pc' := 21) 33 fg_X3_23 tb87 rfl dX3_medianAt_0.2.1.2.2 rfl ?_
          refine zG_key (pc' := 24) hF rfl fg_X3_42 tb33 rfl dX3_medianAt_0.2.2.1.1 rfl ?_
          refine csI2 (pc' := 27) kX11_mirrored vX11_mirrored lk_X3_59 ⟨Nat.le_of_ble_eq_true rfl, Nat.le_of_ble_eq_true rfl⟩ rfl (s_X11_mirroredZ hF _ ⟨by omega, by omega⟩ _ ⟨by omega, by omega⟩ (by omega)) dX3_medianAt_0.2.2.1.2 (Nat.le_of_ble_eq_true rfl) rfl ?_
          rintro r24 z24 ⟨hz24, p24⟩; subst z24
          refine zW_bipush (pc' := 29) dX3_medianAt_0.2.2.2.1 rfl rfl ?_
          refine zW_imul (pc' := 30) dX3_medianAt_0.2.2.2.2 rfl ?_
          refine zW_istore (ls' := [_, _, _, _, _, _, _, _, _, _, _, _]) (pc' := 32) dX3_medianAt_1.1.1.1.1 (by decide) rfl rfl rfl ?_
          refine zW_iconst (pc' := 33) dX3_medianAt_1.1.1.1.2 rfl ?_
          refine zW_istore (ls' := [_, _, _, _, _, _, _, _, _, _, _, _]) (pc' := 35) dX3_medianAt_1.1.1.2.1 (by decide) rfl rfl rfl ?_
          exact k35 _ _ _ _ _ hF (by omega) (by omega) (by omega) (by omega) (by omega) (by first | exact gc2 | exact gc1 | (have k24 := p24.2.2.2; omega)) (by first | exact hv3 | exact gc1) (by omega) hF3 hgh (by omega)
      · intro v5 v6 v7 v8 h hF g0 g1 g2 g3 gc0 gc1 gc2 gc3 hF3 hgh hm
        refine zW_iload (pc' := 37) dX3_medianAt_1.1.1.2.2 rfl rfl ?_
        refine zW_iconst (pc' := 38) dX3_medianAt_1.1.2.1.1 rfl ?_
        refine zV_cm_gt (tgt := 144) (pc' := 41) dX3_medianAt_1.1.2.1.2 rfl rfl ⟨by omega, by omega⟩ ⟨by omega, by omega⟩ (fun c38 => ?_) (fun c38 => ?_)
        · refine zW_iinc (ls' := [_, _, _, _, _, _, _, _, _, _, _, _]) (pc' := 147) dX3_medianAt_4.2.2.2.1 rfl (by decide) rfl rfl rfl ?_
          refine zV_goto 6 dX3_medianAt_4.2.2.2.2 rfl ?_
          refine zV_clr 7 (ls' := [_, _, _, _, _, _, _, _, _, _, _, _]) rfl ?_
          refine zV_clr 8 (ls' := [_, _, _, _, _, _, _, _, _, _, _, _]) rfl ?_
          exact k6 _ _ _ hF (by omega) (by omega) (by omega) (by first | exact gc2 | exact (fun j hj => by omega)) hF3 hgh (by omega)
        · refine zW_iload (pc' := 43) dX3_medianAt_1.1.2.2.1 rfl rfl ?_
          refine zW_iload_n (pc' := 44) dX3_medianAt_1.1.2.2.2 rfl rfl ?_
          refine zW_iload (pc' := 46) dX3_medianAt_1.2.1.1.1 rfl rfl ?_
          refine zW_iadd (pc' := 47) dX3_medianAt_1.2.1.1.2 rfl ?_
          refine zW_aload_n (pc' := 48) dX3_medianAt_1.2.1.2.1 rfl rfl ?_
          refine zG_ref (pc' := 51) 33 fg_X3_23 tb87 rfl dX3_medianAt_1.2.1.2.2 rfl ?_
          refine zG_key (pc' := 54) hF rfl fg_X3_48 tb33 rfl dX3_medianAt_1.2.2.1.1 rfl ?_
          refine csI2 (pc' := 57) kX11_mirrored vX11_mirrored lk_X3_59 ⟨Nat.le_of_ble_eq_true rfl, Nat.le_of_ble_eq_true rfl⟩ rfl (s_X11_mirroredZ hF _ ⟨by omega, by omega⟩ _ ⟨by omega, by omega⟩ (by omega)) dX3_medianAt_1.2.2.1.2 (Nat.le_of_ble_eq_true rfl) rfl ?_
          rintro r54 z54 ⟨hz54, p54⟩; subst z54
          refine zW_iadd (pc' := 58) dX3_medianAt_1.2.2.2.1 rfl ?_
          refine zW_istore (ls' := [_, _, _, _, _, _, _, _, _, _, _, _]) (pc' := 60) dX3_medianAt_1.2.2.2.2 (by decide) rfl rfl rfl ?_
          have my := mir_b (v := x4 + v6) (n := κ 33 1) (by omega) (by omega) (by omega)
          have mx := mir_b (v := x3 + v8) (n := κ 33 0) (by omega) (by omega) (by omega)
          have k54 := p54.2.2.2
          refine zW_aload_n (pc' := 61) dX3_medianAt_2.1.1.1.1 rfl rfl ?_
          refine zW_iload_n (pc' := 62) dX3_medianAt_2.1.1.1.2 rfl rfl ?_
          refine zW_sipush (pc' := 65) dX3_medianAt_2.1.1.2.1 rfl rfl ?_
          refine zW_imul (pc' := 66) dX3_medianAt_2.1.1.2.2 rfl ?_
          refine zW_iload (pc' := 68) dX3_medianAt_2.1.2.1.1 rfl rfl ?_
          refine zW_iadd (pc' := 69) dX3_medianAt_2.1.2.1.2 rfl ?_
          refine zV_iald (pc' := 70) (tabL (by omega) (by omega)) (by omega) dX3_medianAt_2.1.2.2.1 (by decide) rfl ?_
          have q69 := (hF3 x2 (by omega)).at (i := x2 * 256 + (v7 + r54)) (x := r54) (y := mir (x4 + v6) (κ 33 1)) ⟨by omega, by omega, by omega, by omega⟩ (by omega)
          have b69 := hb3 x2 (by omega) r54 (mir (x4 + v6) (κ 33 1)) ⟨by omega, by omega, by omega, by omega⟩
          rw [← q69] at b69
          refine zW_aload_n (pc' := 71) dX3_medianAt_2.1.2.2.2 rfl rfl ?_
          refine zW_sipush (pc' := 74) dX3_medianAt_2.2.1.1.1 rfl rfl ?_
          refine zW_iload (pc' := 76) dX3_medianAt_2.2.1.1.2 rfl rfl ?_
          refine zW_iadd (pc' := 77) dX3_medianAt_2.2.1.2.1 rfl ?_
          refine zV_iald (pc' := 78) (tabL (by omega) (by omega)) (by omega) dX3_medianAt_2.2.1.2.2 (by decide) rfl ?_
          have q77 := (hF3 1 (by omega)).at (i := 256 + (v7 + r54)) (x := r54) (y := mir (x4 + v6) (κ 33 1)) ⟨by omega, by omega, by omega, by omega⟩ (by omega)
          have b77 := hb3 1 (by omega) r54 (mir (x4 + v6) (κ 33 1)) ⟨by omega, by omega, by omega, by omega⟩
          rw [← q77] at b77
          refine zW_isub (pc' := 79) dX3_medianAt_2.2.2.1.1 rfl ?_
          refine zW_istore (ls' := [_, _, _, _, _, _, _, _, _, _, _, _]) (pc' := 81) dX3_medianAt_2.2.2.1.2 (by decide) rfl rfl rfl ?_
          have hdf : h l1 (x2 * 256 + (v7 + r54)).toNat - h l1 (256 + (v7 + r54)).toNat = (df9 (κ 33 0) (κ 33 1) F x2 x3 x4) v5.toNat := by (unfold df9; rw [show ((v5.toNat % 3 : Nat) : Int) - 1 = v8 by omega, show ((v5.toNat / 3 : Nat) : Int) - 1 = v6 by omega, ← k54, q69, q77])
          refine zW_iload (pc' := 83) dX3_medianAt_2.2.2.2.1 rfl rfl ?_
          refine zW_istore (ls' := [_, _, _, _, _, _, _, _, _, _, _, _]) (pc' := 85) dX3_medianAt_2.2.2.2.2 (by decide) rfl rfl rfl ?_
          exact k85 _ _ _ _ _ _ _ _ hF (by omega) (by omega) (by omega) (by omega) (by omega) (by omega) (by omega) (by omega) (by omega) (by first | exact gc2 | exact gc1) (by first | exact hv2 | exact VSo.st (by omega) gc2 hdf) (by omega) hF3 hgh (by omega)
      · intro v5 v6 v7 v8 v9 v10 v11 h hF g0 g1 g2 g3 g4 g5 g6 gc0 gc1 gc2 gc3 gc4 hF3 hgh hm
        refine zW_iload (pc' := 87) dX3_medianAt_3.1.1.1.1 rfl rfl ?_
        refine zV_if_le (tgt := 126) (pc' := 90) dX3_medianAt_3.1.1.1.2 rfl rfl ⟨by omega, by omega⟩ (fun c87 => ?_) (fun c87 => ?_)
        · exact k126 _ _ _ _ _ _ _ _ hF (by omega) (by omega) (by omega) (by omega) (by omega) (by omega) (by omega) (by omega) (by omega) gc2 gc3 (by omega) (by omega) hF3 hgh (by omega)
        · refine zW_aload_n (pc' := 91) dX3_medianAt_3.1.1.2.1 rfl rfl ?_
          refine zG_ref (pc' := 94) 94 fg_X3_20 tb87 rfl dX3_medianAt_3.1.1.2.2 rfl ?_
          refine zW_iload (pc' := 96) dX3_medianAt_3.1.2.1.1 rfl rfl ?_
          refine zW_iconst (pc' := 97) dX3_medianAt_3.1.2.1.2 rfl ?_
          refine zW_isub (pc' := 98) dX3_medianAt_3.1.2.2.1 rfl ?_
          refine zV_iald (pc' := 99) tb94 (by omega) dX3_medianAt_3.1.2.2.2 (by decide) rfl ?_
          have b98 : -4095 ≤ h 94 (v11 - 1).toNat ∧ h 94 (v11 - 1).toNat ≤ 4095 := by obtain ⟨B, z1, z2, z3⟩ := gc3; exact (z1 (v11 - 1).toNat (by omega) (by omega)).2
          refine zW_iload (pc' := 101) dX3_medianAt_3.2.1.1.1 rfl rfl ?_
          refine zV_cm_le (tgt := 126) (pc' := 104) dX3_medianAt_3.2.1.1.2 rfl rfl ⟨by omega, by omega⟩ ⟨by omega, by omega⟩ (fun c101 => ?_) (fun c101 => ?_)
          · exact k126 _ _ _ _ _ _ _ _ hF (by omega) (by omega) (by omega) (by omega) (by omega) (by omega) (by omega) (by omega) (by omega) gc2 gc3 (by omega) (by omega) hF3 hgh (by omega)
          · refine zW_aload_n (pc' := 105) dX3_medianAt_3.2.1.2.1 rfl rfl ?_
            refine zG_ref (pc' := 108) 94 fg_X3_20 tb87 rfl dX3_medianAt_3.2.1.2.2 rfl ?_
            refine zW_iload (pc' := 110) dX3_medianAt_3.2.2.1.1 rfl rfl ?_
            refine zW_aload_n (pc' := 111) dX3_medianAt_3.2.2.1.2 rfl rfl ?_
            refine zG_ref (pc' := 114) 94 fg_X3_20 tb87 rfl dX3_medianAt_3.2.2.2.1 rfl ?_
            refine zW_iload (pc' := 116) dX3_medianAt_3.2.2.2.2 rfl rfl ?_
            refine zW_iconst (pc' := 117) dX3_medianAt_4.1.1.1.1 rfl ?_
            refine zW_isub (pc' := 118) dX3_medianAt_4.1.1.1.2 rfl ?_
            refine zV_iald (pc' := 119) tb94 (by omega) dX3_medianAt_4.1.1.2.1 (by decide) rfl ?_
            have b118 := b98
            refine zS_i (pc' := 120) hF rfl tb94 (by omega) dX3_medianAt_4.1.1.2.2 (by decide) rfl (fun h i119 hF a119 b119 w119 => ?_)
            replace b119 := b119 ⟨by omega, by omega⟩
            replace hgh : Fw [94] [] gh0 h := by rw [w119]; exact hgh.wc (by simp)
            replace hF3 : FuS (κ 33 0) (κ 33 1) (h l1) F := by have q0_ := (congrFun w119 l1).trans (zfun (by omega)); rw [q0_]; exact hF3
            have hv2 : VSo (df9 (κ 33 0) (κ 33 1) F x2 x3 x4) (h 94) v5 (v11 - 1) v10 := by rw [w119, b119]; exact gc3.nx ⟨by omega, by omega⟩ rfl (by omega)
            refine zW_iinc (ls' := [_, _, _, _, _, _, _, _, _, _, _, _]) (pc' := 123) dX3_medianAt_4.1.2.1.1 rfl (by decide) rfl rfl rfl ?_
            refine zV_goto 85 dX3_medianAt_4.1.2.1.2 rfl ?_
            exact k85 _ _ _ _ _ _ _ _ hF (by omega) (by omega) (by omega) (by omega) (by omega) (by omega) (by omega) (by omega) (by omega) (by first | exact gc2 | exact gc1) (by first | exact hv2 | exact VSo.st (by omega) gc2 hdf) (by omega) hF3 hgh (by omega)
      · intro v5 v6 v7 v8 v9 v10 v11 h hF g0 g1 g2 g3 g4 g5 g6 gc0 gc1 gc2 gc3 gc4 gc5 hF3 hgh hm
        refine zW_aload_n (pc' := 127) dX3_medianAt_4.1.2.2.1 rfl rfl ?_
        refine zG_ref (pc' := 130) 94 fg_X3_20 tb87 rfl dX3_medianAt_4.1.2.2.2 rfl ?_
        refine zW_iload (pc' := 132) dX3_medianAt_4.2.1.1.1 rfl rfl ?_
        refine zW_iload (pc' := 134) dX3_medianAt_4.2.1.1.2 rfl rfl ?_
        refine zS_i (pc' := 135) hF rfl tb94 (by omega) dX3_medianAt_4.2.1.2.1 (by decide) rfl (fun h i134 hF a134 b134 w134 => ?_)
        replace b134 := b134 ⟨by omega, by omega⟩
        replace hgh : Fw [94] [] gh0 h := by rw [w134]; exact hgh.wc (by simp)
        replace hF3 : FuS (κ 33 0) (κ 33 1) (h l1) F := by have q0_ := (congrFun w134 l1).trans (zfun (by omega)); rw [q0_]; exact hF3
        have hv3 : SrO (df9 (κ 33 0) (κ 33 1) F x2 x3 x4) (h 94) (v5 + 1) := by rw [w134, b134]; exact gc3.en ⟨by omega, by omega⟩ ⟨by omega, by omega⟩ gc5
        refine zW_iinc (ls' := [_, _, _, _, _, _, _, _, _, _, _, _]) (pc' := 138) dX3_medianAt_4.2.1.2.2 rfl (by decide) rfl rfl rfl ?_
        refine zW_iinc (ls' := [_, _, _, _, _, _, _, _, _, _, _, _]) (pc' := 141) dX3_medianAt_4.2.2.1.1 rfl (by decide) rfl rfl rfl ?_
        refine zV_goto 35 dX3_medianAt_4.2.2.1.2 rfl ?_
        refine zV_clr 9 (ls' := [_, _, _, _, _, _, _, _, _, _, _, _]) rfl ?_
        refine zV_clr 10 (ls' := [_, _, _, _, _, _, _, _, _, _, _, _]) rfl ?_
        refine zV_clr 11 (ls' := [_, _, _, _, _, _, _, _, _, _, _, _]) rfl ?_
        exact k35 _ _ _ _ _ hF (by omega) (by omega) (by omega) (by omega) (by omega) (by first | exact gc2 | exact gc1 | (have k24 := p24.2.2.2; omega)) (by first | exact hv3 | exact gc1) (by omega) hF3 hgh (by omega)
  refine zM_of [some (.inr (.inr 87)), some (.inr (.inr l1)), some (.inl x2), some (.inl x3), some (.inl x4), none, none, none, none, none, none, none] 7 rfl rfl (Nat.le_of_ble_eq_true rfl) rfl ?_
  refine zW_iconst (pc' := 1) dX3_medianAt_0.1.1.1.1 rfl ?_
  refine zW_istore (ls' := [_, _, _, _, _, _, _, _, _, _, _, _]) (pc' := 3) dX3_medianAt_0.1.1.1.2 (by decide) rfl rfl rfl ?_
  refine zW_iconst (pc' := 4) dX3_medianAt_0.1.1.2.1 rfl ?_
  refine zW_istore (ls' := [_, _, _, _, _, _, _, _, _, _, _, _]) (pc' := 6) dX3_medianAt_0.1.1.2.2 (by decide) rfl rfl rfl ?_
  exact (main 10000000000000000000000000000000000000000).1 _ _ _ hF (by omega) (by omega) (by omega) (by first | exact gc2 | exact (fun j hj => by omega)) hF3 hgh (by omega)

abbrev q_X3_voteColourZ (b : Bd) (κ : Hp) (l1 : Nat) (x2 : Int) (F : P3) (gh0 : Hp) : Int → Hp → Prop := fun r h' => Fr b κ h' ∧ ((Fw [88, 94, l1] [] gh0 h') ∧ (FuS (κ 33 0) (κ 33 1) (h' l1) (vc (κ 33 0) (κ 33 1) F x2)))
set_option maxHeartbeats 4000000 in
set_option maxRecDepth 20000 in
theorem s_X3_voteColourZ {G : Ga} {b : Bd} {κ h : Hp} (hK : KC κ) (hF : Fr b κ h) (l1 : Nat) (hl1 : 71 ≤ l1 ∧ l1 ≤ 85) (x2 : Int) (hx2 : 0 ≤ x2 ∧ x2 ≤ 2) (F : P3) (gh0 : Hp) (hto : OkL b l1) (hc1 : x2 ≠ 1) (hF3 : FuS (κ 33 0) (κ 33 1) (h l1) F) (hb3 : FB3 (κ 33 0) (κ 33 1) F) (hgh : Fw [88, 94, l1] [] gh0 h) : zM G mX3_voteColour yX3_voteColour [.inr (.inr 87), .inr (.inr l1), .inl x2] h (q_X3_voteColourZ b κ l1 x2 F gh0) := by
  have f_33_0 := KCw hK
  have f_33_1 := KCh hK
  have main : ∀ N : Nat, (∀ (v3 : Int) (h : Hp), Fr b κ h → (0 ≤ v3 ∧ v3 ≤ 16) → (v3 - κ 33 1 ≤ 0) → (ShEu (κ 33 0) (κ 33 1) (h 88) (fun x y => clp (F 1 x y + med (κ 33 0) (κ 33 1) F x2 x y)) 0 v3) → (FuS (κ 33 0) (κ 33 1) (h l1) F) → (Fw [88, 94, l1] [] gh0 h) → 28090800 + 31212 * (16 - v3) + 30600 < (N : Int) → zV G mX3_voteColour (q_X3_voteColourZ b κ l1 x2 F gh0) 2 [some (.inr (.inr 87)), some (.inr (.inr l1)), some (.inl x2), some (.inl v3), none, none] [] h) ∧ (∀ (v3 v4 : Int) (h : Hp), Fr b κ h → (0 ≤ v3 ∧ v3 ≤ 15) → (v3 - κ 33 1 ≤ -1) → (0 ≤ v4 ∧ v4 ≤ 16) → (v4 - κ 33 0 ≤ 0) → (ShEu (κ 33 0) (κ 33 1) (h 88) (fun x y => clp (F 1 x y + med (κ 33 0) (κ 33 1) F x2 x y)) v4 v3) → (FuS (κ 33 0) (κ 33 1) (h l1) F) → (Fw [88, 94, l1] [] gh0 h) → 28090800 + 31212 * (16 - v3) + 20196 + 34 * (16 - v4) + 33 < (N : Int) → zV G mX3_voteColour (q_X3_voteColourZ b κ l1 x2 F gh0) 16 [some (.inr (.inr 87)), some (.inr (.inr l1)), some (.inl x2), some (.inl v3), some (.inl v4), none] [] h) := by
    intro N
    induction N with
    | zero =>
      refine ⟨?_, ?_⟩
      · intro v3 h hF g0 g1 gc0 hF3 hgh hm
        exfalso; omega
      · intro v3 v4 h hF g0 g1 g2 g3 gc0 hF3 hgh hm
        exfalso; omega
    | succ N ih =>
      obtain ⟨k2, k16⟩ := ih
      refine ⟨?_, ?_⟩
      · intro v3 h hF g0 g1 gc0 hF3 hgh hm
        refine zW_iload_n (pc' := 3) dX3_voteColour_0.1.1.2.1 rfl rfl ?_
        refine zW_aload_n (pc' := 4) dX3_voteColour_0.1.1.2.2 rfl rfl ?_
        refine zG_ref (pc' := 7) 33 fg_X3_23 tb87 rfl dX3_voteColour_0.1.2.1.1 rfl ?_
        refine zG_key (pc' := 10) hF rfl fg_X3_42 tb33 rfl dX3_voteColour_0.1.2.1.2 rfl ?_
        refine zV_cm_ge (tgt := 77) (pc' := 13) dX3_voteColour_0.1.2.2.1 rfl rfl ⟨by omega, by omega⟩ ⟨by omega, by omega⟩ (fun c10 => ?_) (fun c10 => ?_)
        · have hF3o := hF3
          refine zW_aload_n (pc' := 78) dX3_voteColour_2.2.1.1.2 rfl rfl ?_
          refine zG_ref (pc' := 81) 88 fg_X3_9 tb87 rfl dX3_voteColour_2.2.1.2.1 rfl ?_
          refine zW_iconst (pc' := 82) dX3_voteColour_2.2.1.2.2 rfl ?_
          refine zW_aload_n (pc' := 83) dX3_voteColour_2.2.2.1.1 rfl rfl ?_
          refine zW_iload_n (pc' := 84) dX3_voteColour_2.2.2.1.2 rfl rfl ?_
          refine zW_sipush (pc' := 87) dX3_voteColour_2.2.2.2.1 rfl rfl ?_
          refine zW_imul (pc' := 88) dX3_voteColour_2.2.2.2.2 rfl ?_
          refine zW_sipush (pc' := 91) dX3_voteColour_3.1.1 rfl rfl ?_
          refine zV_acopy (pc' := 94) tb88 (tabL (by omega) (by omega)) (by omega) (by omega) (by omega) (by omega) (by decide) (by decide) ka_X3_32 (Nat.le_of_ble_eq_true rfl) (Nat.le_of_ble_eq_true rfl) dX3_voteColour_3.1.2 rfl ?_
          refine (show ∀ h1 : Hp, Fr b κ h1 → h1 = zcp h 88 l1 (x2 * 256 : Int).toNat (256 : Int).toNat → zV _ _ _ _ _ _ h1 from fun h hF w91 => ?_) _ (hF.zcL (by omega) hto (by decide)) rfl
          replace hgh : Fw [88, 94, l1] [] gh0 h := by rw [w91]; exact hgh.wp (by simp)
          exact zV_vret rfl dX3_voteColour_3.2 ⟨hF, ⟨hgh, (by have hP := gc0.all (by omega); intro c hc x y hp; obtain ⟨k1, k2, k3, k4⟩ := id hp; rw [w91]; unfold vc; by_cases e : c = x2; (rw [if_pos e, zcp_in (by omega)]; have z := hP x y hp; rw [show (256 * c + 16 * y + x).toNat - (x2 * 256).toNat = (16 * y + x).toNat by omega]; exact z); (rw [if_neg e, zcp_out (by omega)]; exact hF3o c hc x y hp))⟩⟩
        · refine zW_iconst (pc' := 14) dX3_voteColour_0.1.2.2.2 rfl ?_
          refine zW_istore (ls' := [_, _, _, _, _, _]) (pc' := 16) dX3_voteColour_0.2.1.1.1 (by decide) rfl rfl rfl ?_
          exact k16 _ _ _ hF (by omega) (by omega) (by omega) (by omega) (by first | exact hr2 | exact gc0) hF3 hgh (by omega)
      · intro v3 v4 h hF g0 g1 g2 g3 gc0 hF3 hgh hm
        refine zW_iload (pc' := 18) dX3_voteColour_0.2.1.1.2 rfl rfl ?_
        refine zW_aload_n (pc' := 19) dX3_voteColour_0.2.1.2.1 rfl rfl ?_
        refine zG_ref (pc' := 22) 33 fg_X3_23 tb87 rfl dX3_voteColour_0.2.1.2.2 rfl ?_
        refine zG_key (pc' := 25) hF rfl fg_X3_48 tb33 rfl dX3_voteColour_0.2.2.1.1 rfl ?_
        refine zV_cm_ge (tgt := 71) (pc' := 28) dX3_voteColour_0.2.2.1.2 rfl rfl ⟨by omega, by omega⟩ ⟨by omega, by omega⟩ (fun c25 => ?_) (fun c25 => ?_)
        · refine zW_iinc (ls' := [_, _, _, _, _, _]) (pc' := 74) dX3_voteColour_2.1.2.2.2 rfl (by decide) rfl rfl rfl ?_
          refine zV_goto 2 dX3_voteColour_2.2.1.1.1 rfl ?_
          refine zV_clr 4 (ls' := [_, _, _, _, _, _]) rfl ?_
          exact k2 _ _ hF (by omega) (by omega) (by first | exact gc0.rowx (by omega) | exact ShEu.no) hF3 hgh (by omega)
        · refine zW_iload_n (pc' := 29) dX3_voteColour_0.2.2.2.1 rfl rfl ?_
          refine zW_bipush (pc' := 31) dX3_voteColour_0.2.2.2.2 rfl rfl ?_
          refine zW_imul (pc' := 32) dX3_voteColour_1.1.1.1.1 rfl ?_
          refine zW_iload (pc' := 34) dX3_voteColour_1.1.1.1.2 rfl rfl ?_
          refine zW_iadd (pc' := 35) dX3_voteColour_1.1.1.2.1 rfl ?_
          refine zW_istore (ls' := [_, _, _, _, _, _]) (pc' := 37) dX3_voteColour_1.1.1.2.2 (by decide) rfl rfl rfl ?_
          refine zW_aload_n (pc' := 38) dX3_voteColour_1.1.2.1.1 rfl rfl ?_
          refine zG_ref (pc' := 41) 88 fg_X3_9 tb87 rfl dX3_voteColour_1.1.2.1.2 rfl ?_
          refine zW_iload (pc' := 43) dX3_voteColour_1.1.2.2.1 rfl rfl ?_
          refine zW_aload_n (pc' := 44) dX3_voteColour_1.1.2.2.2 rfl rfl ?_
          refine zW_sipush (pc' := 47) dX3_voteColour_1.2.1.1.1 rfl rfl ?_
          refine zW_iload (pc' := 49) dX3_voteColour_1.2.1.1.2 rfl rfl ?_
          refine zW_iadd (pc' := 50) dX3_voteColour_1.2.1.2.1 rfl ?_
          refine zV_iald (pc' := 51) (tabL (by omega) (by omega)) (by omega) dX3_voteColour_1.2.1.2.2 (by decide) rfl ?_
          have q50 := (hF3 1 (by omega)).at (i := 256 + (v3 * 16 + v4)) (x := v4) (y := v3) ⟨by omega, by omega, by omega, by omega⟩ (by omega)
          have b50 := hb3 1 (by omega) v4 v3 ⟨by omega, by omega, by omega, by omega⟩
          rw [← q50] at b50
          generalize hyv : h l1 (256 + (v3 * 16 + v4)).toNat = yv at q50 b50 ⊢
          refine zW_aload_n (pc' := 52) dX3_voteColour_1.2.2.1.1 rfl rfl ?_
          refine zW_aload_n (pc' := 53) dX3_voteColour_1.2.2.1.2 rfl rfl ?_
          refine zW_iload_n (pc' := 54) dX3_voteColour_1.2.2.2.1 rfl rfl ?_
          refine zW_iload (pc' := 56) dX3_voteColour_1.2.2.2.2 rfl rfl ?_
          refine zW_iload_n (pc' := 57) dX3_voteColour_2.1.1.1.1 rfl rfl ?_
          refine cvI4 (pc' := 60) kX3_medianAt vX3_medianAt lk_X3_51 ⟨Nat.le_of_ble_eq_true rfl, Nat.le_of_ble_eq_true rfl⟩ tb87 vq3 rfl rfl (s_X3_medianAtZ hK hF _ ⟨by omega, by omega⟩ _ ⟨by omega, by omega⟩ _ ⟨by omega, by omega, by omega⟩ _ ⟨by omega, by omega, by omega⟩ F h (by omega) (by omega) Fw.rf) dX3_voteColour_2.1.1.1.2 (Nat.le_of_ble_eq_true rfl) rfl ?_
          rintro r57 h ⟨hF, d57, p57⟩
          replace hF3 : FuS (κ 33 0) (κ 33 1) (h l1) F := by have q0_ := (d57.cell (k := l1) (by intro c hc; simp at hc <;> omega) (by rintro ⟨a, b⟩ hp; simp at hp <;> (show _ ≠ a; omega))); rw [q0_]; exact hF3
          replace hgh : Fw [88, 94, l1] [] gh0 h := hgh.tr d57 (by simp) (by simp)
          have hu57 : ShEu (κ 33 0) (κ 33 1) (h 88) (fun x y => clp (F 1 x y + med (κ 33 0) (κ 33 1) F x2 x y)) v4 v3 := by rw [d57.cell (k := 88) (by intro c hc; simp at hc <;> omega) (by intro c hc; simp at hc <;> omega)]; exact gc0
          refine zW_iadd (pc' := 61) dX3_voteColour_2.1.1.2.1 rfl ?_
          refine csI1 (pc' := 64) kX11_clipped vX11_clipped lk_X3_55 ⟨Nat.le_of_ble_eq_true rfl, Nat.le_of_ble_eq_true rfl⟩ rfl (s_X11_clippedZ hF _ ⟨by omega, by omega⟩) dX3_voteColour_2.1.1.2.2 (Nat.le_of_ble_eq_true rfl) rfl ?_
          rintro r61 z61 ⟨hz61, p61⟩; subst z61
          refine zS_i (pc' := 65) hF rfl tb88 (by omega) dX3_voteColour_2.1.2.1.1 (by decide) rfl (fun h i64 hF a64 b64 w64 => ?_)
          replace b64 := b64 ⟨by omega, by omega⟩
          replace hgh : Fw [88, 94, l1] [] gh0 h := by rw [w64]; exact hgh.wc (by simp)
          replace hF3 : FuS (κ 33 0) (κ 33 1) (h l1) F := by have q0_ := (congrFun w64 l1).trans (zfun (by omega)); rw [q0_]; exact hF3
          have hr2 : ShEu (κ 33 0) (κ 33 1) (h 88) (fun x y => clp (F 1 x y + med (κ 33 0) (κ 33 1) F x2 x y)) (v4 + 1) v3 := by rw [w64, b64]; exact ShEu.nx (by omega) ⟨by omega, by omega, by omega, by omega⟩ hu57 (by omega) (by rw [p61.2.2, q50, p57.2.2])
          refine zW_iinc (ls' := [_, _, _, _, _, _]) (pc' := 68) dX3_voteColour_2.1.2.1.2 rfl (by decide) rfl rfl rfl ?_
          refine zV_goto 16 dX3_voteColour_2.1.2.2.1 rfl ?_
          refine zV_clr 5 (ls' := [_, _, _, _, _, _]) rfl ?_
          exact k16 _ _ _ hF (by omega) (by omega) (by omega) (by omega) (by first | exact hr2 | exact gc0) hF3 hgh (by omega)
  refine zM_of [some (.inr (.inr 87)), some (.inr (.inr l1)), some (.inl x2), none, none, none] 3 rfl rfl (Nat.le_of_ble_eq_true rfl) rfl ?_
  refine zW_iconst (pc' := 1) dX3_voteColour_0.1.1.1.1 rfl ?_
  refine zW_istore_n (ls' := [_, _, _, _, _, _]) (pc' := 2) dX3_voteColour_0.1.1.1.2 (by decide) rfl rfl rfl ?_
  exact (main 10000000000000000000000000000000000000000).1 _ _ hF (by omega) (by omega) (by first | exact gc0.rowx (by omega) | exact ShEu.no) hF3 hgh (by omega)

abbrev q_X3_voteDownZ (b : Bd) (κ : Hp) (s1 : Nat) (s2 : Nat) (x3 : Int) (F : P3) (gh0 : Hp) : Int → Hp → Prop := fun r h' => Fr b κ h' ∧ ((Fw [88, 94, (s2 + 15)] [] gh0 h') ∧ (FuS (κ 33 0) (κ 33 1) (h' (s2 + 15)) (vtN (κ 33 0) (κ 33 1) F x3.toNat)))
set_option maxHeartbeats 4000000 in
set_option maxRecDepth 20000 in
theorem s_X3_voteDownZ {G : Ga} {b : Bd} {κ h : Hp} (hK : KC κ) (hF : Fr b κ h) (s1 : Nat) (hs1 : 56 ≤ s1 ∧ s1 ≤ 70) (s2 : Nat) (hs2 : 56 ≤ s2 ∧ s2 ≤ 70) (x3 : Int) (hx3 : 0 ≤ x3 ∧ x3 ≤ 255) (F : P3) (gh0 : Hp) (hto : OkL b (s2 + 15)) (hne : s1 ≠ s2) (hF3 : FuS (κ 33 0) (κ 33 1) (h (s1 + 15)) F) (hb3 : FB3 (κ 33 0) (κ 33 1) F) (hgh : Fw [88, 94, (s2 + 15)] [] gh0 h) : zM G mX3_voteDown yX3_voteDown [.inr (.inr 87), .inr (.inr s1), .inr (.inr s2), .inl x3] h (q_X3_voteDownZ b κ s1 s2 x3 F gh0) := by
  have f_33_0 := KCw hK
  have f_33_1 := KCh hK
  have main : ∀ N : Nat, (∀ (v4 : Int) (h : Hp), Fr b κ h → (0 ≤ v4 ∧ v4 ≤ 255) → (FuS (κ 33 0) (κ 33 1) (h (s2 + 15)) (vtN (κ 33 0) (κ 33 1) F v4.toNat)) → (v4 ≤ x3) → (Fw [88, 94, (s2 + 15)] [] gh0 h) → 78642 + 18 * (255 - v4) + 17 < (N : Int) → zV G mX3_voteDown (q_X3_voteDownZ b κ s1 s2 x3 F gh0) 19 [some (.inr (.inr 87)), some (.inr (.inr s1)), some (.inr (.inr s2)), some (.inl x3), some (.inl v4)] [] h) := by
    intro N
    induction N with
    | zero =>
      intro v4 h hF g0 gc0 gc1 hgh hm
      exfalso; omega
    | succ N ih =>
      have k19 := ih
      intro v4 h hF g0 gc0 gc1 hgh hm
      refine zW_iload (pc' := 21) dX3_voteDown_0.2.1.2.1 rfl rfl ?_
      refine zW_iload_n (pc' := 22) dX3_voteDown_0.2.1.2.2 rfl rfl ?_
      refine zV_cm_ge (tgt := 49) (pc' := 25) dX3_voteDown_0.2.2.1.1 rfl rfl ⟨by omega, by omega⟩ ⟨by omega, by omega⟩ (fun c22 => ?_) (fun c22 => ?_)
      · exact zV_vret rfl dX3_voteDown_1.2.2.2 ⟨hF, ⟨hgh, (by rw [show x3 = v4 by omega]; exact gc0)⟩⟩
      · refine zW_aload_n (pc' := 26) dX3_voteDown_0.2.2.1.2 rfl rfl ?_
        refine zW_aload_n (pc' := 27) dX3_voteDown_0.2.2.2.1 rfl rfl ?_
        refine zG_lev (pc' := 30) (by omega) (by omega) fg_X3_27 dX3_voteDown_0.2.2.2.2 rfl ?_
        refine zW_iconst (pc' := 31) dX3_voteDown_1.1.1.1.1 rfl ?_
        refine cvV2 (pc' := 34) kX3_voteColour vX3_voteColour lk_X3_38 ⟨Nat.le_of_ble_eq_true rfl, Nat.le_of_ble_eq_true rfl⟩ tb87 vq3 rfl rfl (s_X3_voteColourZ hK hF _ ⟨by omega, by omega⟩ _ ⟨by omega, by omega⟩ (vtN (κ 33 0) (κ 33 1) F v4.toNat) h hto (by decide) gc0 (vtN_b hb3 _) Fw.rf) dX3_voteDown_1.1.1.1.2 (Nat.le_of_ble_eq_true rfl) rfl ?_
        rintro r31 h ⟨hF, d31, p31⟩
        replace hgh : Fw [88, 94, (s2 + 15)] [] gh0 h := hgh.tr d31 (by simp) (by simp)
        refine zW_aload_n (pc' := 35) dX3_voteDown_1.1.1.2 rfl rfl ?_
        refine zW_aload_n (pc' := 36) dX3_voteDown_1.1.2.1 rfl rfl ?_
        refine zG_lev (pc' := 39) (by omega) (by omega) fg_X3_27 dX3_voteDown_1.1.2.2 rfl ?_
        refine zW_iconst (pc' := 40) dX3_voteDown_1.2.1.1.1 rfl ?_
        refine cvV2 (pc' := 43) kX3_voteColour vX3_voteColour lk_X3_38 ⟨Nat.le_of_ble_eq_true rfl, Nat.le_of_ble_eq_true rfl⟩ tb87 vq3 rfl rfl (s_X3_voteColourZ hK hF _ ⟨by omega, by omega⟩ _ ⟨by omega, by omega⟩ (vc (κ 33 0) (κ 33 1) (vtN (κ 33 0) (κ 33 1) F v4.toNat) 0) h hto (by decide) p31 (vc_b (vtN_b hb3 _)) Fw.rf) dX3_voteDown_1.2.1.1.2 (Nat.le_of_ble_eq_true rfl) rfl ?_
        rintro r40 h ⟨hF, d40, p40⟩
        replace hgh : Fw [88, 94, (s2 + 15)] [] gh0 h := hgh.tr d40 (by simp) (by simp)
        refine zW_iinc (ls' := [_, _, _, _, _]) (pc' := 46) dX3_voteDown_1.2.1.2 rfl (by decide) rfl rfl rfl ?_
        refine zV_goto 19 dX3_voteDown_1.2.2.1 rfl ?_
        exact k19 _ _ hF (by omega) (by first | (rw [show (v4 + 1).toNat = v4.toNat + 1 by omega]; exact p40) | exact hF4) (by omega) hgh (by omega)
  refine zM_of [some (.inr (.inr 87)), some (.inr (.inr s1)), some (.inr (.inr s2)), some (.inl x3), none] 1 rfl rfl (Nat.le_of_ble_eq_true rfl) rfl ?_
  refine zW_aload_n (pc' := 1) dX3_voteDown_0.1.1.1.1 rfl rfl ?_
  refine zG_lev (pc' := 4) (by omega) (by omega) fg_X3_27 dX3_voteDown_0.1.1.1.2 rfl ?_
  refine zW_iconst (pc' := 5) dX3_voteDown_0.1.1.2.1 rfl ?_
  refine zW_aload_n (pc' := 6) dX3_voteDown_0.1.1.2.2 rfl rfl ?_
  refine zG_lev (pc' := 9) (by omega) (by omega) fg_X3_27 dX3_voteDown_0.1.2.1.1 rfl ?_
  refine zW_iconst (pc' := 10) dX3_voteDown_0.1.2.1.2 rfl ?_
  refine zW_sipush (pc' := 13) dX3_voteDown_0.1.2.2.1 rfl rfl ?_
  refine zV_acopy (pc' := 16) (tabL (by omega) (by omega)) (tabL (by omega) (by omega)) (by omega) (by omega) (by omega) (by omega) (by decide) (by decide) ka_X3_32 (Nat.le_of_ble_eq_true rfl) (Nat.le_of_ble_eq_true rfl) dX3_voteDown_0.1.2.2.2 rfl ?_
  refine (show ∀ h1 : Hp, Fr b κ h1 → h1 = zcp h (s1 + 15) (s2 + 15) (0 : Int).toNat (768 : Int).toNat → zV _ _ _ _ _ _ h1 from fun h hF w13 => ?_) _ (hF.zcL (by omega) hto ⟨by omega, by omega⟩) rfl
  replace hgh : Fw [88, 94, (s2 + 15)] [] gh0 h := by rw [w13]; exact hgh.wp (by simp)
  have hF4 : FuS (κ 33 0) (κ 33 1) (h (s2 + 15)) F := by intro c hc x y hp; obtain ⟨k1, k2, k3, k4⟩ := id hp; rw [w13, zcp_in (by omega)]; exact hF3 c hc x y hp
  refine zW_iconst (pc' := 17) dX3_voteDown_0.2.1.1.1 rfl ?_
  refine zW_istore (ls' := [_, _, _, _, _]) (pc' := 19) dX3_voteDown_0.2.1.1.2 (by decide) rfl rfl rfl ?_
  exact (main 10000000000000000000000000000000000000000) _ _ hF (by omega) (by first | (rw [show (v4 + 1).toNat = v4.toNat + 1 by omega]; exact p40) | exact hF4) (by omega) hgh (by omega)
