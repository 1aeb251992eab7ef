/-! all pictures in the sheets of the class -/
/-- the numbers that a stage is done with: x ahead, then the text's -/
def X1f (x : Int) (X : Nat → Int) : Nat → Int := fun j => if j = 0 then x else X j
theorem X1f_eq {x : Int} {X : Nat → Int} (h : x = X 0) : X1f x X = X := by
  funext j
  unfold X1f
  by_cases e : j = 0
  · rw [if_pos e, e]; exact h
  · rw [if_neg e]
abbrev XNc (κ : Hp) (k : Nat) : Nat → Int := XN (AC κ) (κ 44) k
abbrev MNc (κ : Hp) (k : Nat) : Int := MN (AC κ) k
def LtOK (L : Int) : Prop := L = 98 ∨ L = 100 ∨ L = 111 ∨ L = 108 ∨ L = 102 ∨ L = 118 ∨ L = 119 ∨ L = 104 ∨ L = 121 ∨ L = 103 ∨ L = 109 ∨ L = 112 ∨ L = 110 ∨ L = 115 ∨ L = 116
/-- numbers of a stage, its first one x, are within bounds -/
def NbOK (L x : Int) : Prop := (L = 111 → 1 ≤ x ∧ x ≤ 4) ∧ (L = 112 → 1 ≤ x ∧ x ≤ 4) ∧ (L = 102 → 0 ≤ x ∧ x ≤ 1)
/-- the class's text of stages is in order -/
def RecW (κ : Hp) : Prop := ∀ k : Nat, (k : Int) < κ 41 0 → (AC κ k < AC κ (k + 1) ∧ AC κ (k + 1) ≤ 64) ∧ LtOK (LC κ k) ∧ (∀ j : Nat, 0 ≤ XNc κ k j ∧ XNc κ k j ≤ 255) ∧ NbOK (LC κ k) (XNc κ k 0) ∧ (LC κ k = 116 → CrC κ ((k : Int) + 1))
theorem FuS.cong {W H : Int} {A : Nat → Int} {F F' : P3} (h : FuS W H A F) (e : ∀ c : Int, 0 ≤ c ∧ c ≤ 2 → ∀ x y : Int, inP W H x y → F c x y = F' c x y) : FuS W H A F' := fun c hc x y hp => (h c hc x y hp).trans (e c hc x y hp)
theorem FuS.nrm {W H : Int} {A : Nat → Int} {F : P3} (h : FuS W H A F) : FuS W H A (nrm W H F) := h.cong (fun c hc x y hp => (nrm_in hc hp).symm)
theorem ShE.nrm {W H : Int} {A : Nat → Int} {F : P3} (h : ShE W H A (F 0)) : ShE W H A (nrm W H F 0) := fun x y hp => (h x y hp).trans (nrm_in (by omega) hp).symm
theorem lst_v {W H m : Int} {X : Nat → Int} {F : P3} : lst W H 118 X m F = vtN W H F (X 0).toNat := if_pos rfl
theorem lst_o {W H L m : Int} {X : Nat → Int} {F : P3} (h : L ≠ 118) : lst W H L X m F = fun c x y => clp (lsv W H L X m F c x y) := if_neg h
theorem lst_w {W H m g0 g2 : Int} {X : Nat → Int} {F : P3} {c x y : Int} (hc : 0 ≤ c ∧ c ≤ 2) (h0 : g0 = gnR W H F (X 0) 0) (h2 : g2 = gnR W H F (X 0) 2) : muF F (if c = 0 then g0 else if c = 1 then 256 else g2) 256 c x y = lst W H 119 X m F c x y := by
  rw [lst_o (by decide)]
  show clp (F c x y * (if c = 0 then g0 else if c = 1 then 256 else g2) / 256) = clp (lsv W H 119 X m F c x y)
  rw [lsv_w]
  unfold gnd
  rcases (by omega : c = 0 ∨ c = 1 ∨ c = 2) with rfl | rfl | rfl
  · rw [if_pos rfl, if_neg (by decide), if_pos rfl, h0]
  · rw [if_neg (by decide), if_pos rfl, if_pos rfl]
    congr 1
    omega
  · rw [if_neg (by decide), if_neg (by decide), if_neg (by decide), if_neg (by decide), h2]
theorem lst_g {W H m a b d : Int} {X : Nat → Int} {F : P3} {c x y : Int} (hc : 0 ≤ c ∧ c ≤ 2) (h0 : a = X 0) (h1 : b = X 1) (h2 : d = X 2) : muF F (if c = 0 then a else if c = 1 then b else d) 16 c x y = lst W H 103 X m F c x y := by
  rw [lst_o (by decide)]
  show clp (F c x y * (if c = 0 then a else if c = 1 then b else d) / 16) = clp (lsv W H 103 X m F c x y)
  rw [lsv_g]
  rcases (by omega : c = 0 ∨ c = 1 ∨ c = 2) with rfl | rfl | rfl
  · rw [if_pos rfl, h0]; rfl
  · rw [if_neg (by decide), if_pos rfl, h1]; rfl
  · rw [if_neg (by decide), if_neg (by decide), h2]; rfl
theorem lst_m {W H m a : Int} {X : Nat → Int} {F : P3} {c x y : Int} (h0 : a = X 0) : stF3 F a c x y = lst W H 109 X m F c x y := by
  rw [lst_o (by decide)]
  show _ = clp (lsv W H 109 X m F c x y)
  rw [lsv_m, ← h0]; rfl
theorem pal_b {v p n : Int} (h0 : 0 ≤ v) (h1 : v ≤ p) (h2 : p ≤ 4095) (hn : 0 ≤ n ∧ n ≤ 255) : 0 ≤ pal v p n ∧ pal v p n ≤ 4095 := by
  unfold pal
  by_cases c : p ≤ 16 * n
  · rw [if_pos c]; omega
  · rw [if_neg c]
    have z := tdb4 (a := p - v) (b := p - 16 * n) (d := 4095 - 16 * n) (by omega) (by omega) (by omega)
    omega
theorem lst_h {W H m a : Int} {X : Nat → Int} {F : P3} {c x y : Int} (hb : FB3 W H F) (hc : 0 ≤ c ∧ c ≤ 2) (hp : inP W H x y) (ha : 0 ≤ a ∧ a ≤ 255) (h0 : a = X 0) : plF F a c x y = lst W H 104 X m F c x y := by
  rw [lst_o (by decide)]
  show _ = clp (lsv W H 104 X m F c x y)
  rw [lsv_h, ← h0]
  have b0 := hb 0 (by omega) x y hp
  have b1 := hb 1 (by omega) x y hp
  have b2 := hb 2 (by omega) x y hp
  have z1 := max2c (F 1 x y) (F 2 x y)
  have z2 := max2c (F 0 x y) (max2 (F 1 x y) (F 2 x y))
  have hle : 0 ≤ F c x y ∧ F c x y ≤ mx3 F x y ∧ mx3 F x y ≤ 4095 := by
    unfold mx3
    rcases (by omega : c = 0 ∨ c = 1 ∨ c = 2) with rfl | rfl | rfl <;> omega
  exact (clp_id (pal_b hle.1 hle.2.1 hle.2.2 ha)).symm
theorem lst_p {W H m k n : Int} {X : Nat → Int} {F : P3} {c x y : Int} (h0 : k = X 0) (h1 : n = X 1) : evF W H F k n c x y = lst W H 112 X m F c x y := by
  rw [lst_o (by decide)]
  show _ = clp (lsv W H 112 X m F c x y)
  rw [lsv_p, ← h0, ← h1]; rfl
theorem lst_y {W H m a b d : Int} {X : Nat → Int} {F : P3} {c x y : Int} (h0 : a = X 0) (h1 : b = X 1) (h2 : d = X 2) : toF W H F a b d c x y = lst W H 121 X m F c x y := by
  rw [lst_o (by decide)]
  show clp (F c x y + (tnF W H F a b d x y - lgt F x y)) = clp (lsv W H 121 X m F c x y)
  rw [lsv_y, ← h0, ← h1, ← h2, Int.add_sub_assoc]
theorem lst_n {W H m a b : Int} {X : Nat → Int} {F : P3} {c x y : Int} (h0 : a = X 0) (h1 : b = X 1) : nsF W H F a b c x y = lst W H 110 X m F c x y := by
  rw [lst_o (by decide)]
  show _ = clp (lsv W H 110 X m F c x y)
  rw [lsv_n, ← h0, ← h1]; rfl
theorem lst_s {W H m a b : Int} {X : Nat → Int} {F : P3} {c x y : Int} (h0 : a = X 0) (h1 : b = X 1) : spF W H F a b c x y = lst W H 115 X m F c x y := by
  rw [lst_o (by decide)]
  show _ = clp (lsv W H 115 X m F c x y)
  rw [lsv_s (by decide), ← h0, ← h1]; rfl
/-- sheet s of the class holds what stage j left -/
def PkS (κ h : Hp) (s j : Nat) (G : P3) : Prop := (noF (LC κ) j → ShE (κ 33 0) (κ 33 1) (h (s + 15)) (G 0) ∧ h s 1 = 0) ∧ (¬ noF (LC κ) j → FuS (κ 33 0) (κ 33 1) (h (s + 15)) G ∧ h s 1 = 1)
theorem PkS.eq {κ h h' : Hp} {s j : Nat} {G : P3} (p : PkS κ h s j G) (e1 : h' (s + 15) = h (s + 15)) (e2 : h' s = h s) : PkS κ h' s j G := by
  unfold PkS
  rw [e1, e2]; exact p
abbrev stS (κ : Hp) (k : Nat) (x : Int) (G : P3) : P3 := stp (κ 33 0) (κ 33 1) (κ 33 2) (dN (κ 33 0) (κ 33 1) (κ 35)) (LC κ k) (X1f x (XNc κ k)) (MNc κ k) G

abbrev q_X7_numberOfW (κ h : Hp) (x1 : Int) (x2 : Int) : Int → Hp → Prop := fun r h' => h' = h ∧ ((0 ≤ r) ∧ (r ≤ 255) ∧ (r = XNc κ (x1 - 1).toNat x2.toNat))
set_option maxHeartbeats 4000000 in
set_option maxRecDepth 20000 in
theorem s_X7_numberOfW {G : Ga} {b : Bd} {κ h : Hp} (hK : KC κ) (hF : Fr b κ h) (x1 : Int) (hx1 : 1 ≤ x1 ∧ x1 ≤ 12 ∧ x1 - κ 41 0 ≤ 0) (x2 : Int) (hx2 : 0 ≤ x2 ∧ x2 ≤ 63) (hXb : ∀ j : Nat, 0 ≤ XNc κ (x1 - 1).toNat j ∧ XNc κ (x1 - 1).toNat j ≤ 255) : zM G mX7_numberOf yX7_numberOf [.inr (.inr 41), .inl x1, .inl x2] h (q_X7_numberOfW κ h x1 x2) := by
  have f_41_0 := KCm hK
  have eA1 : AC κ (x1 - 1).toNat = κ 43 x1.toNat := by show κ 43 ((x1 - 1).toNat + 1) = _; rw [show (x1 - 1).toNat + 1 = x1.toNat by omega]
  have eA2 : AC κ ((x1 - 1).toNat + 1) = κ 43 (x1 + 1).toNat := by show κ 43 ((x1 - 1).toNat + 1 + 1) = _; rw [show (x1 - 1).toNat + 1 + 1 = (x1 + 1).toNat by omega]
  have hst1 := KCst hK x1.toNat
  have hst2 := KCst hK (x1 + 1).toNat
  have hxb := hXb x2.toNat
  refine zM_of [some (.inr (.inr 41)), some (.inl x1), some (.inl x2)] 0 rfl rfl (Nat.le_of_ble_eq_true rfl) rfl ?_
  refine zW_aload_n (pc' := 1) dX7_numberOf_0.1.1.1.1 rfl rfl ?_
  refine zW_iload_n (pc' := 2) dX7_numberOf_0.1.1.1.2 rfl rfl ?_
  refine cvI1 (pc' := 5) kX7_has vX7_has lk_X7_38 ⟨Nat.le_of_ble_eq_true rfl, Nat.le_of_ble_eq_true rfl⟩ tb41 vq7 rfl rfl (s_X7_has hK hF _ ⟨by omega, by omega⟩) dX7_numberOf_0.1.1.2.1 (Nat.le_of_ble_eq_true rfl) rfl ?_
  rintro r2 z2 ⟨hz2, p2⟩; subst z2
  refine zV_if_eq (tgt := 47) (pc' := 8) dX7_numberOf_0.1.1.2.2 rfl rfl ⟨by omega, by omega⟩ (fun c5 => ?_) (fun c5 => ?_)
  · refine zW_iconst (pc' := 48) dX7_numberOf_1.2.2.1.2 rfl ?_
    exact zV_iret rfl dX7_numberOf_1.2.2.2 ⟨rfl, (by first | (have e : XNc κ (x1 - 1).toNat x2.toNat = κ 44 (κ 43 x1.toNat + x2).toNat := (by rw [show XNc κ (x1 - 1).toNat x2.toNat = κ 44 (AC κ (x1 - 1).toNat + ((x2.toNat : Nat) : Int)).toNat from XN_in (by rw [eA1, eA2]; omega), eA1, show ((x2.toNat : Nat) : Int) = x2 by omega]); rw [← e]; exact ⟨hxb.1, hxb.2, rfl⟩) | (have e : XNc κ (x1 - 1).toNat x2.toNat = 0 := if_neg (by rw [eA1, eA2]; omega); rw [e]; exact ⟨by omega, by omega, rfl⟩) | (exfalso; omega))⟩
  · refine zW_iload_n (pc' := 9) dX7_numberOf_0.1.2.1.1 rfl rfl ?_
    refine zV_if_lt (tgt := 47) (pc' := 12) dX7_numberOf_0.1.2.1.2 rfl rfl ⟨by omega, by omega⟩ (fun c9 => ?_) (fun c9 => ?_)
    · exfalso; omega
    · refine zW_iload_n (pc' := 13) dX7_numberOf_0.1.2.2.1 rfl rfl ?_
      refine zW_aload_n (pc' := 14) dX7_numberOf_0.1.2.2.2 rfl rfl ?_
      refine zG_ref (pc' := 17) 43 fg_X7_15 tb41 rfl dX7_numberOf_0.2.1.1.1 rfl ?_
      refine zW_iload_n (pc' := 18) dX7_numberOf_0.2.1.1.2 rfl rfl ?_
      refine zW_iconst (pc' := 19) dX7_numberOf_0.2.1.2.1 rfl ?_
      refine zW_iadd (pc' := 20) dX7_numberOf_0.2.1.2.2 rfl ?_
      refine zA_keyB (KCst hK) (pc' := 21) hF rfl tb43 (by omega) dX7_numberOf_0.2.2.1.1 (by decide) rfl (fun e20 => ?_)
      refine zW_aload_n (pc' := 22) dX7_numberOf_0.2.2.1.2 rfl rfl ?_
      refine zG_ref (pc' := 25) 43 fg_X7_15 tb41 rfl dX7_numberOf_0.2.2.2.1 rfl ?_
      refine zW_iload_n (pc' := 26) dX7_numberOf_0.2.2.2.2 rfl rfl ?_
      refine zA_keyB (KCst hK) (pc' := 27) hF rfl tb43 (by omega) dX7_numberOf_1.1.1.1.1 (by decide) rfl (fun e26 => ?_)
      refine zW_isub (pc' := 28) dX7_numberOf_1.1.1.1.2 rfl ?_
      refine zV_cm_ge (tgt := 47) (pc' := 31) dX7_numberOf_1.1.1.2.1 rfl rfl ⟨by omega, by omega⟩ ⟨by omega, by omega⟩ (fun c28 => ?_) (fun c28 => ?_)
      · refine zW_iconst (pc' := 48) dX7_numberOf_1.2.2.1.2 rfl ?_
        exact zV_iret rfl dX7_numberOf_1.2.2.2 ⟨rfl, (by first | (have e : XNc κ (x1 - 1).toNat x2.toNat = κ 44 (κ 43 x1.toNat + x2).toNat := (by rw [show XNc κ (x1 - 1).toNat x2.toNat = κ 44 (AC κ (x1 - 1).toNat + ((x2.toNat : Nat) : Int)).toNat from XN_in (by rw [eA1, eA2]; omega), eA1, show ((x2.toNat : Nat) : Int) = x2 by omega]); rw [← e]; exact ⟨hxb.1, hxb.2, rfl⟩) | (have e : XNc κ (x1 - 1).toNat x2.toNat = 0 := if_neg (by rw [eA1, eA2]; omega); rw [e]; exact ⟨by omega, by omega, rfl⟩) | (exfalso; omega))⟩
      · refine zW_aload_n (pc' := 32) dX7_numberOf_1.1.1.2.2 rfl rfl ?_
        refine zG_ref (pc' := 35) 44 fg_X7_18 tb41 rfl dX7_numberOf_1.1.2.1.1 rfl ?_
        refine zW_aload_n (pc' := 36) dX7_numberOf_1.1.2.1.2 rfl rfl ?_
        refine zG_ref (pc' := 39) 43 fg_X7_15 tb41 rfl dX7_numberOf_1.1.2.2.1 rfl ?_
        refine zW_iload_n (pc' := 40) dX7_numberOf_1.1.2.2.2 rfl rfl ?_
        refine zA_keyB (KCst hK) (pc' := 41) hF rfl tb43 (by omega) dX7_numberOf_1.2.1.1.1 (by decide) rfl (fun e40 => ?_)
        refine zW_iload_n (pc' := 42) dX7_numberOf_1.2.1.1.2 rfl rfl ?_
        refine zW_iadd (pc' := 43) dX7_numberOf_1.2.1.2.1 rfl ?_
        refine zA_keyI (pc' := 44) hF rfl (by decide) (by decide) tb44 (by omega) dX7_numberOf_1.2.1.2.2 (by decide) rfl (fun e43 => ?_)
        refine zV_goto 48 dX7_numberOf_1.2.2.1.1 rfl ?_
        exact zV_iret rfl dX7_numberOf_1.2.2.2 ⟨rfl, (by first | (have e : XNc κ (x1 - 1).toNat x2.toNat = κ 44 (κ 43 x1.toNat + x2).toNat := (by rw [show XNc κ (x1 - 1).toNat x2.toNat = κ 44 (AC κ (x1 - 1).toNat + ((x2.toNat : Nat) : Int)).toNat from XN_in (by rw [eA1, eA2]; omega), eA1, show ((x2.toNat : Nat) : Int) = x2 by omega]); rw [← e]; exact ⟨hxb.1, hxb.2, rfl⟩) | (have e : XNc κ (x1 - 1).toNat x2.toNat = 0 := if_neg (by rw [eA1, eA2]; omega); rw [e]; exact ⟨by omega, by omega, rfl⟩) | (exfalso; omega))⟩

abbrev q_X1_applyZF (b : Bd) (κ : Hp) (x1 : Int) (x2 : Int) (s3 : Nat) (s4 : Nat) (T : P3) (gh0 : Hp) : Int → Hp → Prop := fun r h' => Fr b κ h' ∧ ((Fw [(s4 + 15), s4, 88, 90, 91, 92, 93, 94] [(87, 0), (87, 1), (87, 2)] gh0 h') ∧ (FuS (κ 33 0) (κ 33 1) (h' (s4 + 15)) (stS κ (x1 - 1).toNat x2 T) ∧ h' s4 1 = 1))
set_option maxHeartbeats 4000000 in
set_option maxRecDepth 20000 in
theorem s_X1_applyZF {G : Ga} {b : Bd} {κ h : Hp} (hK : KC κ) (hF : Fr b κ h) (x1 : Int) (hx1 : 1 ≤ x1 ∧ x1 ≤ 12 ∧ x1 - κ 41 0 ≤ 0) (x2 : Int) (hx2 : 0 ≤ x2 ∧ x2 ≤ 1) (s3 : Nat) (hs3 : 56 ≤ s3 ∧ s3 ≤ 70) (s4 : Nat) (hs4 : 56 ≤ s4 ∧ s4 ≤ 70) (T : P3) (gh0 : Hp) (hto : OkL b (s4 + 15)) (hfu : OkL b s4) (hne : s3 ≠ s4) (hXb : ∀ j : Nat, 0 ≤ XNc κ (x1 - 1).toNat j ∧ XNc κ (x1 - 1).toNat j ≤ 255) (hl : κ 42 x1.toNat = 102) (hfl : h s3 1 = 0) (hf : ShE (κ 33 0) (κ 33 1) (h (s3 + 15)) (T 0)) (hb3 : FB3 (κ 33 0) (κ 33 1) T) (hgh : Fw [(s4 + 15), s4, 88, 90, 91, 92, 93, 94] [(87, 0), (87, 1), (87, 2)] gh0 h) : zM G mX1_apply yX1_apply [.inr (.inr 54), .inl x1, .inl x2, .inr (.inr s3), .inr (.inr s4)] h (q_X1_applyZF b κ x1 x2 s3 s4 T gh0) := by
  have f_33_0 := KCw hK
  have f_33_1 := KCh hK
  have f_41_0 := KCm hK
  refine zM_of [some (.inr (.inr 54)), some (.inl x1), some (.inl x2), some (.inr (.inr s3)), some (.inr (.inr s4)), none, none] 2 rfl rfl (Nat.le_of_ble_eq_true rfl) rfl ?_
  have eLC : LC κ (x1 - 1).toNat = κ 42 x1.toNat := by show κ 42 ((x1 - 1).toNat + 1) = _; rw [show (x1 - 1).toNat + 1 = x1.toNat by omega]
  refine zW_aload_n (pc' := 1) dX1_apply_0.1.1.1.1 rfl rfl ?_
  refine zG_ref (pc' := 4) 41 fg_X1_33 tb54 rfl dX1_apply_0.1.1.1.2 rfl ?_
  refine zW_iload_n (pc' := 5) dX1_apply_0.1.1.2.1 rfl rfl ?_
  refine zW_iconst (pc' := 6) dX1_apply_0.1.1.2.2 rfl ?_
  refine cvI2 (pc' := 9) kX7_numberOf vX7_numberOf lk_X1_70 ⟨Nat.le_of_ble_eq_true rfl, Nat.le_of_ble_eq_true rfl⟩ tb41 vq7 rfl rfl (s_X7_numberOfW hK hF _ ⟨by omega, by omega, by omega⟩ _ ⟨by omega, by omega⟩ hXb) dX1_apply_0.1.2.1.1 (Nat.le_of_ble_eq_true rfl) rfl ?_
  rintro r6 z6 ⟨hz6, p6⟩; subst z6
  refine zW_istore (ls' := [_, _, _, _, _, _, _]) (pc' := 11) dX1_apply_0.1.2.1.2 (by decide) rfl rfl rfl ?_
  refine zW_aload_n (pc' := 12) dX1_apply_0.1.2.2.1 rfl rfl ?_
  refine zG_ref (pc' := 15) 41 fg_X1_33 tb54 rfl dX1_apply_0.1.2.2.2 rfl ?_
  refine zW_iload_n (pc' := 16) dX1_apply_0.2.1.1.1 rfl rfl ?_
  refine zW_iconst (pc' := 17) dX1_apply_0.2.1.1.2 rfl ?_
  refine cvI2 (pc' := 20) kX7_numberOf vX7_numberOf lk_X1_70 ⟨Nat.le_of_ble_eq_true rfl, Nat.le_of_ble_eq_true rfl⟩ tb41 vq7 rfl rfl (s_X7_numberOfW hK hF _ ⟨by omega, by omega, by omega⟩ _ ⟨by omega, by omega⟩ hXb) dX1_apply_0.2.1.2.1 (Nat.le_of_ble_eq_true rfl) rfl ?_
  rintro r17 z17 ⟨hz17, p17⟩; subst z17
  refine zW_istore (ls' := [_, _, _, _, _, _, _]) (pc' := 22) dX1_apply_0.2.1.2.2 (by decide) rfl rfl rfl ?_
  refine zW_aload (pc' := 24) dX1_apply_0.2.2.1.1 rfl rfl ?_
  refine zW_aload_n (pc' := 25) dX1_apply_0.2.2.1.2 rfl rfl ?_
  refine zG_ful (pc' := 28) (by omega) (by omega) fg_X1_81 dX1_apply_0.2.2.2.1 rfl ?_
  have e25_ := hfl
  refine zV_if_ne (tgt := 44) (pc' := 31) dX1_apply_0.2.2.2.2 rfl rfl ⟨by omega, by omega⟩ (fun c28 => ?_) (fun c28 => ?_)
  · exfalso; omega
  · refine zW_aload_n (pc' := 32) dX1_apply_1.1.1.1.1 rfl rfl ?_
    refine zG_ref (pc' := 35) 41 fg_X1_33 tb54 rfl dX1_apply_1.1.1.1.2 rfl ?_
    refine zW_iload_n (pc' := 36) dX1_apply_1.1.1.2.1 rfl rfl ?_
    refine cvI1 (pc' := 39) kX7_letterOf vX7_letterOf lk_X1_85 ⟨Nat.le_of_ble_eq_true rfl, Nat.le_of_ble_eq_true rfl⟩ tb41 vq7 rfl rfl (s_X7_letterOfZ hK hF _ ⟨by omega, by omega, by omega⟩) dX1_apply_1.1.1.2.2 (Nat.le_of_ble_eq_true rfl) rfl ?_
    rintro r36 z36 ⟨hz36, p36⟩; subst z36
    refine zW_bipush (pc' := 41) dX1_apply_1.1.2.1.1 rfl rfl ?_
    refine zV_cm_ne (tgt := 48) (pc' := 44) dX1_apply_1.1.2.1.2 rfl rfl ⟨by omega, by omega⟩ ⟨by omega, by omega⟩ (fun c41 => ?_) (fun c41 => ?_)
    · exfalso; omega
    · refine zW_iconst (pc' := 45) dX1_apply_1.1.2.2.1 rfl ?_
      refine zV_goto 49 dX1_apply_1.1.2.2.2 rfl ?_
      refine zX_boo (pc' := 52) (hF.wS (by omega) (hfu.wr hF.inv) ⟨by omega, by omega⟩) fp_X1_81 (by omega) (tabS (by omega) (by omega)) rfl dX1_apply_1.2.1.1.2 rfl (fun h hF w49 => ?_)
      replace hgh : Fw [(s4 + 15), s4, 88, 90, 91, 92, 93, 94] [(87, 0), (87, 1), (87, 2)] gh0 h := by rw [w49]; exact hgh.wc (by simp)
      replace hf : ShE (κ 33 0) (κ 33 1) (h (s3 + 15)) (T 0) := by have q0_ := (congrFun w49 (s3 + 15)).trans (zfun (by omega)); rw [q0_]; exact hf
      have hz0 : h s4 1 = 1 := by rw [w49]; exact zwr_eq
      refine zW_aload_n (pc' := 53) dX1_apply_1.2.1.2.1 rfl rfl ?_
      refine zG_ref (pc' := 56) 41 fg_X1_33 tb54 rfl dX1_apply_1.2.1.2.2 rfl ?_
      refine zW_iload_n (pc' := 57) dX1_apply_1.2.2.1.1 rfl rfl ?_
      refine cvI1 (pc' := 60) kX7_letterOf vX7_letterOf lk_X1_85 ⟨Nat.le_of_ble_eq_true rfl, Nat.le_of_ble_eq_true rfl⟩ tb41 vq7 rfl rfl (s_X7_letterOfZ hK hF _ ⟨by omega, by omega, by omega⟩) dX1_apply_1.2.2.1.2 (Nat.le_of_ble_eq_true rfl) rfl ?_
      rintro r57 z57 ⟨hz57, p57⟩; subst z57
      refine zW_tsw2 (fun z t => (z = 98 ∧ t = 172) ∨ (z = 100 ∧ t = 186) ∨ (z = 102 ∧ t = 228) ∨ (z = 103 ∧ t = 298) ∨ (z = 104 ∧ t = 332) ∨ (z = 108 ∧ t = 214) ∨ (z = 109 ∧ t = 318) ∨ (z = 110 ∧ t = 398) ∨ (z = 111 ∧ t = 200) ∨ (z = 112 ∧ t = 364) ∨ (z = 115 ∧ t = 414) ∨ (z = 116 ∧ t = 346) ∨ (z = 118 ∧ t = 242) ∨ (z = 119 ∧ t = 256) ∨ (z = 121 ∧ t = 380) ∨ (t = 430 ∧ z ≠ 102)) (fun z => if z = 98 then 172 else if z = 100 then 186 else if z = 102 then 228 else if z = 103 then 298 else if z = 104 then 332 else if z = 108 then 214 else if z = 109 then 318 else if z = 110 then 398 else if z = 111 then 200 else if z = 112 then 364 else if z = 115 then 414 else if z = 116 then 346 else if z = 118 then 242 else if z = 119 then 256 else if z = 121 then 380 else 430) dX1_apply_1.2.2.2.1 ⟨by omega, by omega⟩ (tsw_ok (pc := 60) (lo := 98) (offs := #[112, 370, 126, 370, 168, 238, 272, 370, 370, 370, 154, 258, 338, 140, 304, 370, 370, 354, 286, 370, 182, 196, 370, 320]) (tg := fun z => if z = 98 then 172 else if z = 100 then 186 else if z = 102 then 228 else if z = 103 then 298 else if z = 104 then 332 else if z = 108 then 214 else if z = 109 then 318 else if z = 110 then 398 else if z = 111 then 200 else if z = 112 then 364 else if z = 115 then 414 else if z = 116 then 346 else if z = 118 then 242 else if z = 119 then 256 else if z = 121 then 380 else 430) (by decide +kernel)) rfl (by decide +kernel) (td := 430) rfl (fun c60 => ?_) (fun t60 w60 => ?_)
      · exact zV_vret rfl dX1_apply_9.2.2.2 ⟨hF, ⟨hgh, (by first | exact ⟨hres, hz⟩ | (exfalso; omega))⟩⟩
      · rcases w60 with ⟨s98, rfl⟩ | ⟨s100, rfl⟩ | ⟨s102, rfl⟩ | ⟨s103, rfl⟩ | ⟨s104, rfl⟩ | ⟨s108, rfl⟩ | ⟨s109, rfl⟩ | ⟨s110, rfl⟩ | ⟨s111, rfl⟩ | ⟨s112, rfl⟩ | ⟨s115, rfl⟩ | ⟨s116, rfl⟩ | ⟨s118, rfl⟩ | ⟨s119, rfl⟩ | ⟨s121, rfl⟩ | ⟨rfl, n102⟩
        · exfalso; omega
        · exfalso; omega
        · refine zW_aload_n (pc' := 229) dX1_apply_3.2.1.2.2 rfl rfl ?_
          refine zG_ref (pc' := 232) 86 fg_X1_42 tb54 rfl dX1_apply_3.2.2.1.1 rfl ?_
          refine zW_aload_n (pc' := 233) dX1_apply_3.2.2.1.2 rfl rfl ?_
          refine zW_aload (pc' := 235) dX1_apply_3.2.2.2.1 rfl rfl ?_
          refine zW_iload_n (pc' := 236) dX1_apply_3.2.2.2.2 rfl rfl ?_
          refine cvV3 (pc' := 239) kX2_fillMosaic vX2_fillMosaic lk_X1_102 ⟨Nat.le_of_ble_eq_true rfl, Nat.le_of_ble_eq_true rfl⟩ tb86 vq2 rfl rfl (s_X2_fillMosaicZ hK hF _ ⟨by omega, by omega⟩ _ ⟨by omega, by omega⟩ _ ⟨by omega, by omega⟩ (T 0) h hto hne hf (hb3 0 (by omega)) Fw.rf) dX1_apply_4.1.1.1.1 (Nat.le_of_ble_eq_true rfl) rfl ?_
          rintro r236 h ⟨hF, d236, p236⟩
          replace hf : ShE (κ 33 0) (κ 33 1) (h (s3 + 15)) (T 0) := by have q0_ := (d236.cell (k := (s3 + 15)) (by intro c hc; simp at hc <;> omega) (by rintro ⟨a, b⟩ hp; simp at hp <;> (show _ ≠ a; omega))); rw [q0_]; exact hf
          replace hgh : Fw [(s4 + 15), s4, 88, 90, 91, 92, 93, 94] [(87, 0), (87, 1), (87, 2)] gh0 h := hgh.tr d236 (by simp) (by simp)
          have hz : h s4 1 = 1 := by rw [d236 s4 1 (by intro c hc; simp at hc <;> omega) (by simp)]; exact hz0
          have hres : FuS (κ 33 0) (κ 33 1) (h (s4 + 15)) (stS κ (x1 - 1).toNat x2 T) := by (unfold stS; rw [stp_f (by rw [eLC]; exact hl), ← (show x2 = X1f x2 (XNc κ (x1 - 1).toNat) 0 from rfl)]; intro c hc; rcases (by omega : c = 0 ∨ c = 1 ∨ c = 2) with q | q | q; (subst q; exact p236.1); (subst q; exact p236.2.1); (subst q; exact p236.2.2))
          refine zV_goto 430 dX1_apply_4.1.1.1.2 rfl ?_
          exact zV_vret rfl dX1_apply_9.2.2.2 ⟨hF, ⟨hgh, (by first | exact ⟨hres, hz⟩ | (exfalso; omega))⟩⟩
        · exfalso; omega
        · exfalso; omega
        · exfalso; omega
        · exfalso; omega
        · exfalso; omega
        · exfalso; omega
        · exfalso; omega
        · exfalso; omega
        · exfalso; omega
        · exfalso; omega
        · exfalso; omega
        · exfalso; omega
        · exact zV_vret rfl dX1_apply_9.2.2.2 ⟨hF, ⟨hgh, (by first | exact ⟨hres, hz⟩ | (exfalso; omega))⟩⟩

abbrev q_X1_applyZL (b : Bd) (κ : Hp) (x1 : Int) (x2 : Int) (s3 : Nat) (s4 : Nat) (T : P3) (gh0 : Hp) : Int → Hp → Prop := fun r h' => Fr b κ h' ∧ ((Fw [(s4 + 15), s4, 88, 90, 91, 92, 93, 94] [(87, 0), (87, 1), (87, 2)] gh0 h') ∧ (FuS (κ 33 0) (κ 33 1) (h' (s4 + 15)) (stS κ (x1 - 1).toNat x2 T) ∧ h' s4 1 = 1))
set_option maxHeartbeats 4000000 in
set_option maxRecDepth 20000 in
theorem s_X1_applyZL {G : Ga} {b : Bd} {κ h : Hp} (hK : KC κ) (hF : Fr b κ h) (x1 : Int) (hx1 : 1 ≤ x1 ∧ x1 ≤ 12 ∧ x1 - κ 41 0 ≤ 0) (x2 : Int) (hx2 : 0 ≤ x2 ∧ x2 ≤ 255) (s3 : Nat) (hs3 : 56 ≤ s3 ∧ s3 ≤ 70) (s4 : Nat) (hs4 : 56 ≤ s4 ∧ s4 ≤ 70) (T : P3) (gh0 : Hp) (hto : OkL b (s4 + 15)) (hfu : OkL b s4) (hne : s3 ≠ s4) (hXb : ∀ j : Nat, 0 ≤ XNc κ (x1 - 1).toNat j ∧ XNc κ (x1 - 1).toNat j ≤ 255) (hl : κ 42 x1.toNat = 118 ∨ κ 42 x1.toNat = 119 ∨ κ 42 x1.toNat = 104 ∨ κ 42 x1.toNat = 121 ∨ κ 42 x1.toNat = 103 ∨ κ 42 x1.toNat = 109 ∨ κ 42 x1.toNat = 112 ∨ κ 42 x1.toNat = 110 ∨ κ 42 x1.toNat = 115 ∨ κ 42 x1.toNat = 116) (hp4 : κ 42 x1.toNat = 112 → 1 ≤ x2 ∧ x2 ≤ 4) (hcr : κ 42 x1.toNat = 116 → CrC κ x1) (hx0 : κ 42 x1.toNat = 116 → x2 = XNc κ (x1 - 1).toNat 0) (hfl : h s3 1 = 1) (hF3 : FuS (κ 33 0) (κ 33 1) (h (s3 + 15)) T) (hb3 : FB3 (κ 33 0) (κ 33 1) T) (hgh : Fw [(s4 + 15), s4, 88, 90, 91, 92, 93, 94] [(87, 0), (87, 1), (87, 2)] gh0 h) : zM G mX1_apply yX1_apply [.inr (.inr 54), .inl x1, .inl x2, .inr (.inr s3), .inr (.inr s4)] h (q_X1_applyZL b κ x1 x2 s3 s4 T gh0) := by
  have f_33_0 := KCw hK
  have f_33_1 := KCh hK
  have f_41_0 := KCm hK
  refine zM_of [some (.inr (.inr 54)), some (.inl x1), some (.inl x2), some (.inr (.inr s3)), some (.inr (.inr s4)), none, none] 2 rfl rfl (Nat.le_of_ble_eq_true rfl) rfl ?_
  have eLC : LC κ (x1 - 1).toNat = κ 42 x1.toNat := by show κ 42 ((x1 - 1).toNat + 1) = _; rw [show (x1 - 1).toNat + 1 = x1.toNat by omega]
  refine zW_aload_n (pc' := 1) dX1_apply_0.1.1.1.1 rfl rfl ?_
  refine zG_ref (pc' := 4) 41 fg_X1_33 tb54 rfl dX1_apply_0.1.1.1.2 rfl ?_
  refine zW_iload_n (pc' := 5) dX1_apply_0.1.1.2.1 rfl rfl ?_
  refine zW_iconst (pc' := 6) dX1_apply_0.1.1.2.2 rfl ?_
  refine cvI2 (pc' := 9) kX7_numberOf vX7_numberOf lk_X1_70 ⟨Nat.le_of_ble_eq_true rfl, Nat.le_of_ble_eq_true rfl⟩ tb41 vq7 rfl rfl (s_X7_numberOfW hK hF _ ⟨by omega, by omega, by omega⟩ _ ⟨by omega, by omega⟩ hXb) dX1_apply_0.1.2.1.1 (Nat.le_of_ble_eq_true rfl) rfl ?_
  rintro r6 z6 ⟨hz6, p6⟩; subst z6
  refine zW_istore (ls' := [_, _, _, _, _, _, _]) (pc' := 11) dX1_apply_0.1.2.1.2 (by decide) rfl rfl rfl ?_
  refine zW_aload_n (pc' := 12) dX1_apply_0.1.2.2.1 rfl rfl ?_
  refine zG_ref (pc' := 15) 41 fg_X1_33 tb54 rfl dX1_apply_0.1.2.2.2 rfl ?_
  refine zW_iload_n (pc' := 16) dX1_apply_0.2.1.1.1 rfl rfl ?_
  refine zW_iconst (pc' := 17) dX1_apply_0.2.1.1.2 rfl ?_
  refine cvI2 (pc' := 20) kX7_numberOf vX7_numberOf lk_X1_70 ⟨Nat.le_of_ble_eq_true rfl, Nat.le_of_ble_eq_true rfl⟩ tb41 vq7 rfl rfl (s_X7_numberOfW hK hF _ ⟨by omega, by omega, by omega⟩ _ ⟨by omega, by omega⟩ hXb) dX1_apply_0.2.1.2.1 (Nat.le_of_ble_eq_true rfl) rfl ?_
  rintro r17 z17 ⟨hz17, p17⟩; subst z17
  refine zW_istore (ls' := [_, _, _, _, _, _, _]) (pc' := 22) dX1_apply_0.2.1.2.2 (by decide) rfl rfl rfl ?_
  have n6 : r6 = X1f x2 (XNc κ (x1 - 1).toNat) 1 := p6.2.2
  have n17 : r17 = X1f x2 (XNc κ (x1 - 1).toNat) 2 := p17.2.2
  have eA1 : AC κ (x1 - 1).toNat = κ 43 x1.toNat := by show κ 43 ((x1 - 1).toNat + 1) = _; rw [show (x1 - 1).toNat + 1 = x1.toNat by omega]
  have eA2 : AC κ ((x1 - 1).toNat + 1) = κ 43 (x1 + 1).toNat := by show κ 43 ((x1 - 1).toNat + 1 + 1) = _; rw [show (x1 - 1).toNat + 1 + 1 = (x1 + 1).toNat by omega]
  have XNc0 : XNc κ (x1 - 1).toNat 0 = XNc κ (x1 - 1).toNat 0 := rfl
  refine zW_aload (pc' := 24) dX1_apply_0.2.2.1.1 rfl rfl ?_
  refine zW_aload_n (pc' := 25) dX1_apply_0.2.2.1.2 rfl rfl ?_
  refine zG_ful (pc' := 28) (by omega) (by omega) fg_X1_81 dX1_apply_0.2.2.2.1 rfl ?_
  have e25_ := hfl
  refine zV_if_ne (tgt := 44) (pc' := 31) dX1_apply_0.2.2.2.2 rfl rfl ⟨by omega, by omega⟩ (fun c28 => ?_) (fun c28 => ?_)
  · refine zW_iconst (pc' := 45) dX1_apply_1.1.2.2.1 rfl ?_
    refine zV_goto 49 dX1_apply_1.1.2.2.2 rfl ?_
    refine zX_boo (pc' := 52) (hF.wS (by omega) (hfu.wr hF.inv) ⟨by omega, by omega⟩) fp_X1_81 (by omega) (tabS (by omega) (by omega)) rfl dX1_apply_1.2.1.1.2 rfl (fun h hF w49 => ?_)
    replace hgh : Fw [(s4 + 15), s4, 88, 90, 91, 92, 93, 94] [(87, 0), (87, 1), (87, 2)] gh0 h := by rw [w49]; exact hgh.wc (by simp)
    replace hF3 : FuS (κ 33 0) (κ 33 1) (h (s3 + 15)) T := by have q0_ := (congrFun w49 (s3 + 15)).trans (zfun (by omega)); rw [q0_]; exact hF3
    have hz0 : h s4 1 = 1 := by rw [w49]; exact zwr_eq
    refine zW_aload_n (pc' := 53) dX1_apply_1.2.1.2.1 rfl rfl ?_
    refine zG_ref (pc' := 56) 41 fg_X1_33 tb54 rfl dX1_apply_1.2.1.2.2 rfl ?_
    refine zW_iload_n (pc' := 57) dX1_apply_1.2.2.1.1 rfl rfl ?_
    refine cvI1 (pc' := 60) kX7_letterOf vX7_letterOf lk_X1_85 ⟨Nat.le_of_ble_eq_true rfl, Nat.le_of_ble_eq_true rfl⟩ tb41 vq7 rfl rfl (s_X7_letterOfZ hK hF _ ⟨by omega, by omega, by omega⟩) dX1_apply_1.2.2.1.2 (Nat.le_of_ble_eq_true rfl) rfl ?_
    rintro r57 z57 ⟨hz57, p57⟩; subst z57
    refine zW_tsw2 (fun z t => (z = 98 ∧ t = 172) ∨ (z = 100 ∧ t = 186) ∨ (z = 102 ∧ t = 228) ∨ (z = 103 ∧ t = 298) ∨ (z = 104 ∧ t = 332) ∨ (z = 108 ∧ t = 214) ∨ (z = 109 ∧ t = 318) ∨ (z = 110 ∧ t = 398) ∨ (z = 111 ∧ t = 200) ∨ (z = 112 ∧ t = 364) ∨ (z = 115 ∧ t = 414) ∨ (z = 116 ∧ t = 346) ∨ (z = 118 ∧ t = 242) ∨ (z = 119 ∧ t = 256) ∨ (z = 121 ∧ t = 380) ∨ (t = 430 ∧ z ≠ 103 ∧ z ≠ 104 ∧ z ≠ 109 ∧ z ≠ 110 ∧ z ≠ 112 ∧ z ≠ 115 ∧ z ≠ 116 ∧ z ≠ 118 ∧ z ≠ 119 ∧ z ≠ 121)) (fun z => if z = 98 then 172 else if z = 100 then 186 else if z = 102 then 228 else if z = 103 then 298 else if z = 104 then 332 else if z = 108 then 214 else if z = 109 then 318 else if z = 110 then 398 else if z = 111 then 200 else if z = 112 then 364 else if z = 115 then 414 else if z = 116 then 346 else if z = 118 then 242 else if z = 119 then 256 else if z = 121 then 380 else 430) dX1_apply_1.2.2.2.1 ⟨by omega, by omega⟩ (tsw_ok (pc := 60) (lo := 98) (offs := #[112, 370, 126, 370, 168, 238, 272, 370, 370, 370, 154, 258, 338, 140, 304, 370, 370, 354, 286, 370, 182, 196, 370, 320]) (tg := fun z => if z = 98 then 172 else if z = 100 then 186 else if z = 102 then 228 else if z = 103 then 298 else if z = 104 then 332 else if z = 108 then 214 else if z = 109 then 318 else if z = 110 then 398 else if z = 111 then 200 else if z = 112 then 364 else if z = 115 then 414 else if z = 116 then 346 else if z = 118 then 242 else if z = 119 then 256 else if z = 121 then 380 else 430) (by decide +kernel)) rfl (by decide +kernel) (td := 430) rfl (fun c60 => ?_) (fun t60 w60 => ?_)
    · exact zV_vret rfl dX1_apply_9.2.2.2 ⟨hF, ⟨hgh, (by first | exact ⟨hres, hz⟩ | (exfalso; omega))⟩⟩
    · rcases w60 with ⟨s98, rfl⟩ | ⟨s100, rfl⟩ | ⟨s102, rfl⟩ | ⟨s103, rfl⟩ | ⟨s104, rfl⟩ | ⟨s108, rfl⟩ | ⟨s109, rfl⟩ | ⟨s110, rfl⟩ | ⟨s111, rfl⟩ | ⟨s112, rfl⟩ | ⟨s115, rfl⟩ | ⟨s116, rfl⟩ | ⟨s118, rfl⟩ | ⟨s119, rfl⟩ | ⟨s121, rfl⟩ | ⟨rfl, n103, n104, n109, n110, n112, n115, n116, n118, n119, n121⟩
      · exfalso; omega
      · exfalso; omega
      · exfalso; omega
      · refine zW_aload_n (pc' := 299) dX1_apply_5.2.2.1.1 rfl rfl ?_
        refine zG_ref (pc' := 302) 87 fg_X1_49 tb54 rfl dX1_apply_5.2.2.1.2 rfl ?_
        refine zW_aload_n (pc' := 303) dX1_apply_5.2.2.2.1 rfl rfl ?_
        refine zW_aload (pc' := 305) dX1_apply_5.2.2.2.2 rfl rfl ?_
        refine zW_iload_n (pc' := 306) dX1_apply_6.1.1.1.1 rfl rfl ?_
        refine zW_iload (pc' := 308) dX1_apply_6.1.1.1.2 rfl rfl ?_
        refine zW_iload (pc' := 310) dX1_apply_6.1.1.2.1 rfl rfl ?_
        refine zW_bipush (pc' := 312) dX1_apply_6.1.1.2.2 rfl rfl ?_
        refine cvV6 (pc' := 315) kX3_multiply vX3_multiply lk_X1_118 ⟨Nat.le_of_ble_eq_true rfl, Nat.le_of_ble_eq_true rfl⟩ tb87 vq3 rfl rfl (s_X3_multiplyZ hK hF _ ⟨by omega, by omega⟩ _ ⟨by omega, by omega⟩ _ ⟨by omega, by omega⟩ _ ⟨by omega, by omega⟩ _ ⟨by omega, by omega⟩ _ ⟨by omega, by omega⟩ T h hto hne hF3 hb3 Fw.rf) dX1_apply_6.1.2.1.1 (Nat.le_of_ble_eq_true rfl) rfl ?_
        rintro r312 h ⟨hF, d312, p312⟩
        replace hF3 : FuS (κ 33 0) (κ 33 1) (h (s3 + 15)) T := by have q0_ := (d312.cell (k := (s3 + 15)) (by intro c hc; simp at hc <;> omega) (by rintro ⟨a, b⟩ hp; simp at hp <;> (show _ ≠ a; omega))); rw [q0_]; exact hF3
        replace hgh : Fw [(s4 + 15), s4, 88, 90, 91, 92, 93, 94] [(87, 0), (87, 1), (87, 2)] gh0 h := hgh.tr d312 (by simp) (by simp)
        have hq : κ 42 x1.toNat = 103 := by omega
        have hz : h s4 1 = 1 := by rw [d312 s4 1 (by intro c hc; simp at hc <;> omega) (by simp)]; exact hz0
        have hres : FuS (κ 33 0) (κ 33 1) (h (s4 + 15)) (stS κ (x1 - 1).toNat x2 T) := by (unfold stS; rw [stp_l (by rw [eLC]; omega), eLC, hq]; exact FuS.cong p312 (fun c hc x y hp => lst_g hc (show x2 = X1f x2 (XNc κ (x1 - 1).toNat) 0 from rfl) n6 n17))
        refine zV_goto 430 dX1_apply_6.1.2.1.2 rfl ?_
        exact zV_vret rfl dX1_apply_9.2.2.2 ⟨hF, ⟨hgh, (by first | exact ⟨hres, hz⟩ | (exfalso; omega))⟩⟩
      · refine zW_aload_n (pc' := 333) dX1_apply_6.2.2.1.2 rfl rfl ?_
        refine zG_ref (pc' := 336) 87 fg_X1_49 tb54 rfl dX1_apply_6.2.2.2.1 rfl ?_
        refine zW_aload_n (pc' := 337) dX1_apply_6.2.2.2.2 rfl rfl ?_
        refine zW_aload (pc' := 339) dX1_apply_7.1.1.1.1 rfl rfl ?_
        refine zW_iload_n (pc' := 340) dX1_apply_7.1.1.1.2 rfl rfl ?_
        refine cvV3 (pc' := 343) kX3_makePale vX3_makePale lk_X1_125 ⟨Nat.le_of_ble_eq_true rfl, Nat.le_of_ble_eq_true rfl⟩ tb87 vq3 rfl rfl (s_X3_makePaleZ hK hF _ ⟨by omega, by omega⟩ _ ⟨by omega, by omega⟩ _ ⟨by omega, by omega⟩ T h hto hne hF3 hb3 Fw.rf) dX1_apply_7.1.1.2.1 (Nat.le_of_ble_eq_true rfl) rfl ?_
        rintro r340 h ⟨hF, d340, p340⟩
        replace hF3 : FuS (κ 33 0) (κ 33 1) (h (s3 + 15)) T := by have q0_ := (d340.cell (k := (s3 + 15)) (by intro c hc; simp at hc <;> omega) (by rintro ⟨a, b⟩ hp; simp at hp <;> (show _ ≠ a; omega))); rw [q0_]; exact hF3
        replace hgh : Fw [(s4 + 15), s4, 88, 90, 91, 92, 93, 94] [(87, 0), (87, 1), (87, 2)] gh0 h := hgh.tr d340 (by simp) (by simp)
        have hq : κ 42 x1.toNat = 104 := by omega
        have hz : h s4 1 = 1 := by rw [d340 s4 1 (by intro c hc; simp at hc <;> omega) (by simp)]; exact hz0
        have hres : FuS (κ 33 0) (κ 33 1) (h (s4 + 15)) (stS κ (x1 - 1).toNat x2 T) := by (unfold stS; rw [stp_l (by rw [eLC]; omega), eLC, hq]; exact FuS.cong p340 (fun c hc x y hp => lst_h hb3 hc hp (by omega) (show x2 = X1f x2 (XNc κ (x1 - 1).toNat) 0 from rfl)))
        refine zV_goto 430 dX1_apply_7.1.1.2.2 rfl ?_
        exact zV_vret rfl dX1_apply_9.2.2.2 ⟨hF, ⟨hgh, (by first | exact ⟨hres, hz⟩ | (exfalso; omega))⟩⟩
      · exfalso; omega
      · refine zW_aload_n (pc' := 319) dX1_apply_6.1.2.2.1 rfl rfl ?_
        refine zG_ref (pc' := 322) 87 fg_X1_49 tb54 rfl dX1_apply_6.1.2.2.2 rfl ?_
        refine zW_aload_n (pc' := 323) dX1_apply_6.2.1.1.1 rfl rfl ?_
        refine zW_aload (pc' := 325) dX1_apply_6.2.1.1.2 rfl rfl ?_
        refine zW_iload_n (pc' := 326) dX1_apply_6.2.1.2.1 rfl rfl ?_
        refine cvV3 (pc' := 329) kX3_stretch vX3_stretch lk_X1_122 ⟨Nat.le_of_ble_eq_true rfl, Nat.le_of_ble_eq_true rfl⟩ tb87 vq3 rfl rfl (s_X3_stretchZ hK hF _ ⟨by omega, by omega⟩ _ ⟨by omega, by omega⟩ _ ⟨by omega, by omega⟩ T h hto hne hF3 hb3 Fw.rf) dX1_apply_6.2.1.2.2 (Nat.le_of_ble_eq_true rfl) rfl ?_
        rintro r326 h ⟨hF, d326, p326⟩
        replace hF3 : FuS (κ 33 0) (κ 33 1) (h (s3 + 15)) T := by have q0_ := (d326.cell (k := (s3 + 15)) (by intro c hc; simp at hc <;> omega) (by rintro ⟨a, b⟩ hp; simp at hp <;> (show _ ≠ a; omega))); rw [q0_]; exact hF3
        replace hgh : Fw [(s4 + 15), s4, 88, 90, 91, 92, 93, 94] [(87, 0), (87, 1), (87, 2)] gh0 h := hgh.tr d326 (by simp) (by simp)
        have hq : κ 42 x1.toNat = 109 := by omega
        have hz : h s4 1 = 1 := by rw [d326 s4 1 (by intro c hc; simp at hc <;> omega) (by simp)]; exact hz0
        have hres : FuS (κ 33 0) (κ 33 1) (h (s4 + 15)) (stS κ (x1 - 1).toNat x2 T) := by (unfold stS; rw [stp_l (by rw [eLC]; omega), eLC, hq]; exact FuS.cong p326 (fun c hc x y hp => lst_m (show x2 = X1f x2 (XNc κ (x1 - 1).toNat) 0 from rfl)))
        refine zV_goto 430 dX1_apply_6.2.2.1.1 rfl ?_
        exact zV_vret rfl dX1_apply_9.2.2.2 ⟨hF, ⟨hgh, (by first | exact ⟨hres, hz⟩ | (exfalso; omega))⟩⟩
      · refine zW_aload_n (pc' := 399) dX1_apply_8.2.2.2.1 rfl rfl ?_
        refine zG_ref (pc' := 402) 87 fg_X1_49 tb54 rfl dX1_apply_8.2.2.2.2 rfl ?_
        refine zW_aload_n (pc' := 403) dX1_apply_9.1.1.1.1 rfl rfl ?_
        refine zW_aload (pc' := 405) dX1_apply_9.1.1.1.2 rfl rfl ?_
        refine zW_iload_n (pc' := 406) dX1_apply_9.1.1.2.1 rfl rfl ?_
        refine zW_iload (pc' := 408) dX1_apply_9.1.1.2.2 rfl rfl ?_
        refine cvV4 (pc' := 411) kX3_takeNoise vX3_takeNoise lk_X1_140 ⟨Nat.le_of_ble_eq_true rfl, Nat.le_of_ble_eq_true rfl⟩ tb87 vq3 rfl rfl (s_X3_takeNoiseZ hK hF _ ⟨by omega, by omega⟩ _ ⟨by omega, by omega⟩ _ ⟨by omega, by omega⟩ _ ⟨by omega, by omega⟩ T h hto hne hF3 hb3 Fw.rf) dX1_apply_9.1.2.1.1 (Nat.le_of_ble_eq_true rfl) rfl ?_
        rintro r408 h ⟨hF, d408, p408⟩
        replace hF3 : FuS (κ 33 0) (κ 33 1) (h (s3 + 15)) T := by have q0_ := (d408.cell (k := (s3 + 15)) (by intro c hc; simp at hc <;> omega) (by rintro ⟨a, b⟩ hp; simp at hp <;> (show _ ≠ a; omega))); rw [q0_]; exact hF3
        replace hgh : Fw [(s4 + 15), s4, 88, 90, 91, 92, 93, 94] [(87, 0), (87, 1), (87, 2)] gh0 h := hgh.tr d408 (by simp) (by simp)
        have hq : κ 42 x1.toNat = 110 := by omega
        have hz : h s4 1 = 1 := by rw [d408 s4 1 (by intro c hc; simp at hc <;> omega) (by simp)]; exact hz0
        have hres : FuS (κ 33 0) (κ 33 1) (h (s4 + 15)) (stS κ (x1 - 1).toNat x2 T) := by (unfold stS; rw [stp_l (by rw [eLC]; omega), eLC, hq]; exact FuS.cong p408 (fun c hc x y hp => lst_n (show x2 = X1f x2 (XNc κ (x1 - 1).toNat) 0 from rfl) n6))
        refine zV_goto 430 dX1_apply_9.1.2.1.2 rfl ?_
        exact zV_vret rfl dX1_apply_9.2.2.2 ⟨hF, ⟨hgh, (by first | exact ⟨hres, hz⟩ | (exfalso; omega))⟩⟩
      · exfalso; omega
      · have hp5 := hp4 (by omega)
        refine zW_aload_n (pc' := 365) dX1_apply_7.2.2.1.2 rfl rfl ?_
        refine zG_ref (pc' := 368) 87 fg_X1_49 tb54 rfl dX1_apply_7.2.2.2.1 rfl ?_
        refine zW_aload_n (pc' := 369) dX1_apply_7.2.2.2.2 rfl rfl ?_
        refine zW_aload (pc' := 371) dX1_apply_8.1.1.1.1 rfl rfl ?_
        refine zW_iload_n (pc' := 372) dX1_apply_8.1.1.1.2 rfl rfl ?_
        refine zW_iload (pc' := 374) dX1_apply_8.1.1.2.1 rfl rfl ?_
        refine cvV4 (pc' := 377) kX3_evenBlocks vX3_evenBlocks lk_X1_132 ⟨Nat.le_of_ble_eq_true rfl, Nat.le_of_ble_eq_true rfl⟩ tb87 vq3 rfl rfl (s_X3_evenBlocksZ hK hF _ ⟨by omega, by omega⟩ _ ⟨by omega, by omega⟩ _ ⟨by omega, by omega⟩ _ ⟨by omega, by omega⟩ T h hto hne hF3 hb3 Fw.rf) dX1_apply_8.1.1.2.2 (Nat.le_of_ble_eq_true rfl) rfl ?_
        rintro r374 h ⟨hF, d374, p374⟩
        replace hF3 : FuS (κ 33 0) (κ 33 1) (h (s3 + 15)) T := by have q0_ := (d374.cell (k := (s3 + 15)) (by intro c hc; simp at hc <;> omega) (by rintro ⟨a, b⟩ hp; simp at hp <;> (show _ ≠ a; omega))); rw [q0_]; exact hF3
        replace hgh : Fw [(s4 + 15), s4, 88, 90, 91, 92, 93, 94] [(87, 0), (87, 1), (87, 2)] gh0 h := hgh.tr d374 (by simp) (by simp)
        have hq : κ 42 x1.toNat = 112 := by omega
        have hz : h s4 1 = 1 := by rw [d374 s4 1 (by intro c hc; simp at hc <;> omega) (by simp)]; exact hz0
        have hres : FuS (κ 33 0) (κ 33 1) (h (s4 + 15)) (stS κ (x1 - 1).toNat x2 T) := by (unfold stS; rw [stp_l (by rw [eLC]; omega), eLC, hq]; exact FuS.cong p374 (fun c hc x y hp => lst_p (show x2 = X1f x2 (XNc κ (x1 - 1).toNat) 0 from rfl) n6))
        refine zV_goto 430 dX1_apply_8.1.2.1.1 rfl ?_
        exact zV_vret rfl dX1_apply_9.2.2.2 ⟨hF, ⟨hgh, (by first | exact ⟨hres, hz⟩ | (exfalso; omega))⟩⟩
      · refine zW_aload_n (pc' := 415) dX1_apply_9.1.2.2.1 rfl rfl ?_
        refine zG_ref (pc' := 418) 87 fg_X1_49 tb54 rfl dX1_apply_9.1.2.2.2 rfl ?_
        refine zW_aload_n (pc' := 419) dX1_apply_9.2.1.1.1 rfl rfl ?_
        refine zW_aload (pc' := 421) dX1_apply_9.2.1.1.2 rfl rfl ?_
        refine zW_iload_n (pc' := 422) dX1_apply_9.2.1.2.1 rfl rfl ?_
        refine zW_iload (pc' := 424) dX1_apply_9.2.1.2.2 rfl rfl ?_
        refine cvV4 (pc' := 427) kX3_sharpen vX3_sharpen lk_X1_143 ⟨Nat.le_of_ble_eq_true rfl, Nat.le_of_ble_eq_true rfl⟩ tb87 vq3 rfl rfl (s_X3_sharpenZ hK hF _ ⟨by omega, by omega⟩ _ ⟨by omega, by omega⟩ _ ⟨by omega, by omega⟩ _ ⟨by omega, by omega⟩ T h hto hne hF3 hb3 Fw.rf) dX1_apply_9.2.2.1.1 (Nat.le_of_ble_eq_true rfl) rfl ?_
        rintro r424 h ⟨hF, d424, p424⟩
        replace hF3 : FuS (κ 33 0) (κ 33 1) (h (s3 + 15)) T := by have q0_ := (d424.cell (k := (s3 + 15)) (by intro c hc; simp at hc <;> omega) (by rintro ⟨a, b⟩ hp; simp at hp <;> (show _ ≠ a; omega))); rw [q0_]; exact hF3
        replace hgh : Fw [(s4 + 15), s4, 88, 90, 91, 92, 93, 94] [(87, 0), (87, 1), (87, 2)] gh0 h := hgh.tr d424 (by simp) (by simp)
        have hq : κ 42 x1.toNat = 115 := by omega
        have hz : h s4 1 = 1 := by rw [d424 s4 1 (by intro c hc; simp at hc <;> omega) (by simp)]; exact hz0
        have hres : FuS (κ 33 0) (κ 33 1) (h (s4 + 15)) (stS κ (x1 - 1).toNat x2 T) := by (unfold stS; rw [stp_l (by rw [eLC]; omega), eLC, hq]; exact FuS.cong p424 (fun c hc x y hp => lst_s (show x2 = X1f x2 (XNc κ (x1 - 1).toNat) 0 from rfl) n6))
        refine zV_goto 430 dX1_apply_9.2.2.1.2 rfl ?_
        exact zV_vret rfl dX1_apply_9.2.2.2 ⟨hF, ⟨hgh, (by first | exact ⟨hres, hz⟩ | (exfalso; omega))⟩⟩
      · have hq_ : κ 42 x1.toNat = 116 := by omega
        refine zW_aload_n (pc' := 347) dX1_apply_7.1.2.1.1 rfl rfl ?_
        refine zG_ref (pc' := 350) 87 fg_X1_49 tb54 rfl dX1_apply_7.1.2.1.2 rfl ?_
        refine zW_aload_n (pc' := 351) dX1_apply_7.1.2.2.1 rfl rfl ?_
        refine zW_aload (pc' := 353) dX1_apply_7.1.2.2.2 rfl rfl ?_
        refine zW_aload_n (pc' := 354) dX1_apply_7.2.1.1.1 rfl rfl ?_
        refine zG_ref (pc' := 357) 41 fg_X1_33 tb54 rfl dX1_apply_7.2.1.1.2 rfl ?_
        refine zW_iload_n (pc' := 358) dX1_apply_7.2.1.2.1 rfl rfl ?_
        refine cvV4 (pc' := 361) kX3_bend vX3_bend lk_X1_128 ⟨Nat.le_of_ble_eq_true rfl, Nat.le_of_ble_eq_true rfl⟩ tb87 vq3 rfl rfl (s_X3_bendZ hK hF _ ⟨by omega, by omega⟩ _ ⟨by omega, by omega⟩ _ ⟨by omega, by omega, by omega⟩ T h hto hne hF3 hb3 (hcr hq_) Fw.rf) dX1_apply_7.2.1.2.2 (Nat.le_of_ble_eq_true rfl) rfl ?_
        rintro r358 h ⟨hF, d358, p358⟩
        replace hF3 : FuS (κ 33 0) (κ 33 1) (h (s3 + 15)) T := by have q0_ := (d358.cell (k := (s3 + 15)) (by intro c hc; simp at hc <;> omega) (by rintro ⟨a, b⟩ hp; simp at hp <;> (show _ ≠ a; omega))); rw [q0_]; exact hF3
        replace hgh : Fw [(s4 + 15), s4, 88, 90, 91, 92, 93, 94] [(87, 0), (87, 1), (87, 2)] gh0 h := hgh.tr d358 (by simp) (by simp)
        have hq : κ 42 x1.toNat = 116 := by omega
        have hz : h s4 1 = 1 := by rw [d358 s4 1 (by intro c hc; simp at hc <;> omega) (by simp)]; exact hz0
        have hcr2 : CrC κ x1 := hcr hq
        have ct : ∀ j : Nat, (j : Int) < 2 * MNc κ (x1 - 1).toNat → XC κ x1 j = X1f x2 (XNc κ (x1 - 1).toNat) j := fun j hj => by (have e : XNc κ (x1 - 1).toNat j = κ 44 (κ 43 x1.toNat + (j : Int)).toNat := by (unfold MNc MN at hj; rw [eA1, eA2] at hj; rw [show XNc κ (x1 - 1).toNat j = κ 44 (AC κ (x1 - 1).toNat + (j : Int)).toNat from XN_in (by rw [eA1, eA2]; omega), eA1])); unfold X1f; by_cases e0 : j = 0; (rw [if_pos e0, hx0 hq, e0, ← XNc0]; rw [e0] at e; exact e.symm); (rw [if_neg e0]; exact e.symm)
        have lst_t : ∀ c x y : Int, bnF κ x1 T c x y = lst (κ 33 0) (κ 33 1) 116 (X1f x2 (XNc κ (x1 - 1).toNat)) (MNc κ (x1 - 1).toNat) T c x y := fun c x y => by (rw [lst_o (by decide)]; show clp (crv (XC κ x1) ((κ 43 (x1 + 1).toNat - κ 43 x1.toNat) / 2) (T c x y)) = clp (lsv _ _ 116 _ _ T c x y); rw [lsv_t, ← crv_X (X := XC κ x1) (by unfold MNc MN; rw [eA1, eA2]; obtain ⟨⟨_, a2, a3⟩, _⟩ := hcr2; omega) ct]; unfold MNc MN; rw [eA1, eA2])
        have hres : FuS (κ 33 0) (κ 33 1) (h (s4 + 15)) (stS κ (x1 - 1).toNat x2 T) := by (unfold stS; rw [stp_l (by rw [eLC]; omega), eLC, hq]; exact FuS.cong p358 (fun c hc x y hp => lst_t c x y))
        refine zV_goto 430 dX1_apply_7.2.2.1.1 rfl ?_
        exact zV_vret rfl dX1_apply_9.2.2.2 ⟨hF, ⟨hgh, (by first | exact ⟨hres, hz⟩ | (exfalso; omega))⟩⟩
      · refine zW_aload_n (pc' := 243) dX1_apply_4.1.1.2.1 rfl rfl ?_
        refine zG_ref (pc' := 246) 87 fg_X1_49 tb54 rfl dX1_apply_4.1.1.2.2 rfl ?_
        refine zW_aload_n (pc' := 247) dX1_apply_4.1.2.1.1 rfl rfl ?_
        refine zW_aload (pc' := 249) dX1_apply_4.1.2.1.2 rfl rfl ?_
        refine zW_iload_n (pc' := 250) dX1_apply_4.1.2.2.1 rfl rfl ?_
        refine cvV3 (pc' := 253) kX3_voteDown vX3_voteDown lk_X1_105 ⟨Nat.le_of_ble_eq_true rfl, Nat.le_of_ble_eq_true rfl⟩ tb87 vq3 rfl rfl (s_X3_voteDownZ hK hF _ ⟨by omega, by omega⟩ _ ⟨by omega, by omega⟩ _ ⟨by omega, by omega⟩ T h hto hne hF3 hb3 Fw.rf) dX1_apply_4.1.2.2.2 (Nat.le_of_ble_eq_true rfl) rfl ?_
        rintro r250 h ⟨hF, d250, p250⟩
        replace hF3 : FuS (κ 33 0) (κ 33 1) (h (s3 + 15)) T := by have q0_ := (d250.cell (k := (s3 + 15)) (by intro c hc; simp at hc <;> omega) (by rintro ⟨a, b⟩ hp; simp at hp <;> (show _ ≠ a; omega))); rw [q0_]; exact hF3
        replace hgh : Fw [(s4 + 15), s4, 88, 90, 91, 92, 93, 94] [(87, 0), (87, 1), (87, 2)] gh0 h := hgh.tr d250 (by simp) (by simp)
        have hq : κ 42 x1.toNat = 118 := by omega
        have hz : h s4 1 = 1 := by rw [d250 s4 1 (by intro c hc; simp at hc <;> omega) (by simp)]; exact hz0
        have hres : FuS (κ 33 0) (κ 33 1) (h (s4 + 15)) (stS κ (x1 - 1).toNat x2 T) := by (unfold stS; rw [stp_l (by rw [eLC]; omega), eLC, hq]; rw [lst_v]; exact p250)
        refine zV_goto 430 dX1_apply_4.2.1.1.1 rfl ?_
        exact zV_vret rfl dX1_apply_9.2.2.2 ⟨hF, ⟨hgh, (by first | exact ⟨hres, hz⟩ | (exfalso; omega))⟩⟩
      · refine zW_aload_n (pc' := 257) dX1_apply_4.2.1.1.2 rfl rfl ?_
        refine zG_ref (pc' := 260) 87 fg_X1_49 tb54 rfl dX1_apply_4.2.1.2.1 rfl ?_
        refine zW_aload_n (pc' := 261) dX1_apply_4.2.1.2.2 rfl rfl ?_
        refine zW_iload_n (pc' := 262) dX1_apply_4.2.2.1.1 rfl rfl ?_
        refine cvV2 (pc' := 265) kX3_findWhite vX3_findWhite lk_X1_108 ⟨Nat.le_of_ble_eq_true rfl, Nat.le_of_ble_eq_true rfl⟩ tb87 vq3 rfl rfl (s_X3_findWhiteZ hK hF _ ⟨by omega, by omega⟩ _ ⟨by omega, by omega⟩ T h hF3 hb3 Fw.rf) dX1_apply_4.2.2.1.2 (Nat.le_of_ble_eq_true rfl) rfl ?_
        rintro r262 h ⟨hF, d262, p262⟩
        replace hF3 : FuS (κ 33 0) (κ 33 1) (h (s3 + 15)) T := by have q0_ := (d262.cell (k := (s3 + 15)) (by intro c hc; simp at hc <;> omega) (by rintro ⟨a, b⟩ hp; simp at hp <;> (show _ ≠ a; omega))); rw [q0_]; exact hF3
        replace hgh : Fw [(s4 + 15), s4, 88, 90, 91, 92, 93, 94] [(87, 0), (87, 1), (87, 2)] gh0 h := hgh.tr d262 (by simp) (by simp)
        have hz0 : h s4 1 = 1 := by rw [d262 s4 1 (by intro c hc; simp at hc) (by rintro ⟨a, b⟩ hp e; have e2 : s4 = a := e; simp at hp; omega)]; exact hz0
        have g0 : h 87 0 = gnR (κ 33 0) (κ 33 1) T (X1f x2 (XNc κ (x1 - 1).toNat) 0) 0 := p262.2.1
        have g2 : h 87 1 = gnR (κ 33 0) (κ 33 1) T (X1f x2 (XNc κ (x1 - 1).toNat) 0) 2 := p262.2.2
        have bg0 := @gnF_b (whK (κ 33 0) (κ 33 1) T x2 (fun _ _ => 1)) (whK (κ 33 0) (κ 33 1) T x2 (T 1)) (whK (κ 33 0) (κ 33 1) T x2 (T 0))
        have bg2 := @gnF_b (whK (κ 33 0) (κ 33 1) T x2 (fun _ _ => 1)) (whK (κ 33 0) (κ 33 1) T x2 (T 1)) (whK (κ 33 0) (κ 33 1) T x2 (T 2))
        have g0b : 64 ≤ h 87 0 ∧ h 87 0 ≤ 1024 := by rw [p262.2.1]; unfold gnR; exact bg0
        have g2b : 64 ≤ h 87 1 ∧ h 87 1 ≤ 1024 := by rw [p262.2.2]; unfold gnR; exact bg2
        skip
        refine zW_aload_n (pc' := 266) dX1_apply_4.2.2.2.1 rfl rfl ?_
        refine zG_ref (pc' := 269) 87 fg_X1_49 tb54 rfl dX1_apply_4.2.2.2.2 rfl ?_
        refine zW_aload_n (pc' := 270) dX1_apply_5.1.1.1.1 rfl rfl ?_
        refine zW_aload (pc' := 272) dX1_apply_5.1.1.1.2 rfl rfl ?_
        refine zW_aload_n (pc' := 273) dX1_apply_5.1.1.2.1 rfl rfl ?_
        refine zG_ref (pc' := 276) 87 fg_X1_49 tb54 rfl dX1_apply_5.1.1.2.2 rfl ?_
        refine zG_int (pc' := 279) fg_X1_112 tb87 rfl dX1_apply_5.1.2.1.1 rfl ?_
        refine zW_sipush (pc' := 282) dX1_apply_5.1.2.1.2 rfl rfl ?_
        refine zW_aload_n (pc' := 283) dX1_apply_5.1.2.2.1 rfl rfl ?_
        refine zG_ref (pc' := 286) 87 fg_X1_49 tb54 rfl dX1_apply_5.1.2.2.2 rfl ?_
        refine zG_int (pc' := 289) fg_X1_115 tb87 rfl dX1_apply_5.2.1.1.1 rfl ?_
        refine zW_sipush (pc' := 292) dX1_apply_5.2.1.1.2 rfl rfl ?_
        refine cvV6 (pc' := 295) kX3_multiply vX3_multiply lk_X1_118 ⟨Nat.le_of_ble_eq_true rfl, Nat.le_of_ble_eq_true rfl⟩ tb87 vq3 rfl rfl (s_X3_multiplyZ hK hF _ ⟨by omega, by omega⟩ _ ⟨by omega, by omega⟩ _ ⟨by omega, by omega⟩ _ ⟨by omega, by omega⟩ _ ⟨by omega, by omega⟩ _ ⟨by omega, by omega⟩ T h hto hne hF3 hb3 Fw.rf) dX1_apply_5.2.1.2.1 (Nat.le_of_ble_eq_true rfl) rfl ?_
        rintro r292 h ⟨hF, d292, p292⟩
        replace hF3 : FuS (κ 33 0) (κ 33 1) (h (s3 + 15)) T := by have q0_ := (d292.cell (k := (s3 + 15)) (by intro c hc; simp at hc <;> omega) (by rintro ⟨a, b⟩ hp; simp at hp <;> (show _ ≠ a; omega))); rw [q0_]; exact hF3
        replace hgh : Fw [(s4 + 15), s4, 88, 90, 91, 92, 93, 94] [(87, 0), (87, 1), (87, 2)] gh0 h := hgh.tr d292 (by simp) (by simp)
        have hq : κ 42 x1.toNat = 119 := by omega
        have hz : h s4 1 = 1 := by rw [d292 s4 1 (by intro c hc; simp at hc <;> omega) (by simp)]; exact hz0
        have hres : FuS (κ 33 0) (κ 33 1) (h (s4 + 15)) (stS κ (x1 - 1).toNat x2 T) := by (unfold stS; rw [stp_l (by rw [eLC]; omega), eLC, hq]; exact FuS.cong p292 (fun c hc x y hp => lst_w hc g0 g2))
        refine zV_goto 430 dX1_apply_5.2.1.2.2 rfl ?_
        exact zV_vret rfl dX1_apply_9.2.2.2 ⟨hF, ⟨hgh, (by first | exact ⟨hres, hz⟩ | (exfalso; omega))⟩⟩
      · refine zW_aload_n (pc' := 381) dX1_apply_8.1.2.1.2 rfl rfl ?_
        refine zG_ref (pc' := 384) 87 fg_X1_49 tb54 rfl dX1_apply_8.1.2.2.1 rfl ?_
        refine zW_aload_n (pc' := 385) dX1_apply_8.1.2.2.2 rfl rfl ?_
        refine zW_aload (pc' := 387) dX1_apply_8.2.1.1.1 rfl rfl ?_
        refine zW_iload_n (pc' := 388) dX1_apply_8.2.1.1.2 rfl rfl ?_
        refine zW_iload (pc' := 390) dX1_apply_8.2.1.2.1 rfl rfl ?_
        refine zW_iload (pc' := 392) dX1_apply_8.2.1.2.2 rfl rfl ?_
        refine cvV5 (pc' := 395) kX3_setTones vX3_setTones lk_X1_136 ⟨Nat.le_of_ble_eq_true rfl, Nat.le_of_ble_eq_true rfl⟩ tb87 vq3 rfl rfl (s_X3_setTonesZ hK hF _ ⟨by omega, by omega⟩ _ ⟨by omega, by omega⟩ _ ⟨by omega, by omega⟩ _ ⟨by omega, by omega⟩ _ ⟨by omega, by omega⟩ T h hto hne hF3 hb3 Fw.rf) dX1_apply_8.2.2.1.1 (Nat.le_of_ble_eq_true rfl) rfl ?_
        rintro r392 h ⟨hF, d392, p392⟩
        replace hF3 : FuS (κ 33 0) (κ 33 1) (h (s3 + 15)) T := by have q0_ := (d392.cell (k := (s3 + 15)) (by intro c hc; simp at hc <;> omega) (by rintro ⟨a, b⟩ hp; simp at hp <;> (show _ ≠ a; omega))); rw [q0_]; exact hF3
        replace hgh : Fw [(s4 + 15), s4, 88, 90, 91, 92, 93, 94] [(87, 0), (87, 1), (87, 2)] gh0 h := hgh.tr d392 (by simp) (by simp)
        have hq : κ 42 x1.toNat = 121 := by omega
        have hz : h s4 1 = 1 := by rw [d392 s4 1 (by intro c hc; simp at hc <;> omega) (by simp)]; exact hz0
        have hres : FuS (κ 33 0) (κ 33 1) (h (s4 + 15)) (stS κ (x1 - 1).toNat x2 T) := by (unfold stS; rw [stp_l (by rw [eLC]; omega), eLC, hq]; exact FuS.cong p392 (fun c hc x y hp => lst_y (show x2 = X1f x2 (XNc κ (x1 - 1).toNat) 0 from rfl) n6 n17))
        refine zV_goto 430 dX1_apply_8.2.2.1.2 rfl ?_
        exact zV_vret rfl dX1_apply_9.2.2.2 ⟨hF, ⟨hgh, (by first | exact ⟨hres, hz⟩ | (exfalso; omega))⟩⟩
      · exact zV_vret rfl dX1_apply_9.2.2.2 ⟨hF, ⟨hgh, (by first | exact ⟨hres, hz⟩ | (exfalso; omega))⟩⟩
  · exfalso; omega

theorem lt_late {c : Int} (h : LtOK c) (l : ¬ (c = 98 ∨ c = 111 ∨ c = 100 ∨ c = 108 ∨ c = 102)) : c = 118 ∨ c = 119 ∨ c = 104 ∨ c = 121 ∨ c = 103 ∨ c = 109 ∨ c = 112 ∨ c = 110 ∨ c = 115 ∨ c = 116 := by
  unfold LtOK at h
  omega
theorem s_X1_applyW {G : Ga} {b : Bd} {κ h : Hp} (hK : KC κ) (hF : Fr b κ h) (x1 : Int) (hx1 : 1 ≤ x1 ∧ x1 ≤ 12 ∧ x1 - κ 41 0 ≤ 0) (x2 : Int) (hx2 : 0 ≤ x2 ∧ x2 ≤ 255) (s3 : Nat) (hs3 : 56 ≤ s3 ∧ s3 ≤ 70) (s4 : Nat) (hs4 : 56 ≤ s4 ∧ s4 ≤ 70) (T : P3) (hto : OkL b (s4 + 15)) (hfu : OkL b s4) (hne : s3 ≠ s4) (hRc : RecW κ) (hE : EaOK (LC κ) (κ 41 0)) (hnb : NbOK (LC κ (x1 - 1).toNat) x2) (hx0 : LC κ (x1 - 1).toNat = 116 → x2 = XNc κ (x1 - 1).toNat 0) (hG : PkS κ h s3 (x1 - 1).toNat T) (hb3 : FB3 (κ 33 0) (κ 33 1) T) : zM G mX1_apply yX1_apply [.inr (.inr 54), .inl x1, .inl x2, .inr (.inr s3), .inr (.inr s4)] h (fun r h' => Fr b κ h' ∧ (Fw [s4 + 15, s4, 88, 90, 91, 92, 93, 94] [(87, 0), (87, 1), (87, 2)] h h' ∧ PkS κ h' s4 ((x1 - 1).toNat + 1) (nrm (κ 33 0) (κ 33 1) (stS κ (x1 - 1).toNat x2 T)))) := by
  have eLC : LC κ (x1 - 1).toNat = κ 42 x1.toNat := by
    show κ 42 ((x1 - 1).toNat + 1) = _
    rw [show (x1 - 1).toNat + 1 = x1.toNat by omega]
  obtain ⟨r1, r2, r3, r4, r5⟩ := hRc (x1 - 1).toNat (by omega)
  have hE0 := hE (x1 - 1).toNat (by omega)
  rw [show (((x1 - 1).toNat : Nat) : Int) + 1 = x1 by omega] at r5
  obtain ⟨n1, n2, n3⟩ := hnb
  have X00 : x2 = X1f x2 (XNc κ (x1 - 1).toNat) 0 := rfl
  by_cases hno : noF (LC κ) (x1 - 1).toNat
  · have l5 := hE0.mp hno
    obtain ⟨z1, z2⟩ := hG.1 hno
    by_cases hf : LC κ (x1 - 1).toNat = 102
    · refine (s_X1_applyZF hK hF x1 hx1 x2 (n3 hf) s3 hs3 s4 hs4 T h hto hfu hne r3 (by rw [← eLC]; exact hf) z2 z1 hb3 Fw.rf).mono (fun r h' q => ⟨q.1, q.2.1, fun w => absurd hf (w (x1 - 1).toNat (Nat.lt_succ_self _)), fun _ => ⟨q.2.2.1.nrm, q.2.2.2⟩⟩)
    · have l4 : LC κ (x1 - 1).toNat = 98 ∨ LC κ (x1 - 1).toNat = 111 ∨ LC κ (x1 - 1).toNat = 100 ∨ LC κ (x1 - 1).toNat = 108 := by omega
      refine (s_X1_applyZ hK hF x1 hx1 x2 hx2 s3 hs3 s4 hs4 (T 0) h hto hfu hne (by rw [← eLC]; omega) (fun q => n1 (by rw [eLC]; exact q)) z2 z1 (hb3 0 (by omega)) Fw.rf).mono (fun r h' q => ⟨q.1, q.2.1.mono (by simp) (by simp), fun _ => ⟨ShE.nrm ?_, q.2.2.2⟩, fun w => absurd (noF_s.mpr ⟨hno, hf⟩) w⟩)
      unfold stS
      rw [stp_e l4]
      intro x y hp
      rw [q.2.2.1 x y hp, ← eLC, ← X00]
      exact stg_cong (KCw hK).1 (KCh hK).1 (fun c => by have := n1 c; have := (KCw hK).1; omega) (fun _ _ _ => rfl) (fun x y hp => (dN_in hp (KCw hK).2).symm) hp
  · have l5 : ¬ (LC κ (x1 - 1).toNat = 98 ∨ LC κ (x1 - 1).toNat = 111 ∨ LC κ (x1 - 1).toNat = 100 ∨ LC κ (x1 - 1).toNat = 108 ∨ LC κ (x1 - 1).toNat = 102) := fun q => hno (hE0.mpr q)
    obtain ⟨z1, z2⟩ := hG.2 hno
    refine (s_X1_applyZL hK hF x1 hx1 x2 hx2 s3 hs3 s4 hs4 T h hto hfu hne r3 (by rw [← eLC]; exact lt_late r2 l5) (fun q => n2 (by rw [eLC]; exact q)) (fun q => r5 (by rw [eLC]; exact q)) (fun q => hx0 (by rw [eLC]; exact q)) z2 z1 hb3 Fw.rf).mono (fun r h' q => ⟨q.1, q.2.1, fun w => absurd (w.le (by omega)) hno, fun _ => ⟨q.2.2.1.nrm, q.2.2.2⟩⟩)
abbrev PFc (κ : Hp) (k : Nat) : P3 := pG (κ 33 0) (κ 33 1) (κ 33 2) (dN (κ 33 0) (κ 33 1) (κ 35)) (LC κ) (XNc κ) (MNc κ) (rawP (κ 33 0) (κ 33 1) (κ 34)) 0 k
theorem PFc_s {κ : Hp} {k : Nat} {x : Int} (h : x = XNc κ k 0) : nrm (κ 33 0) (κ 33 1) (stS κ k x (PFc κ k)) = PFc κ (k + 1) := by
  show _ = nrm (κ 33 0) (κ 33 1) (stp (κ 33 0) (κ 33 1) (κ 33 2) (dN (κ 33 0) (κ 33 1) (κ 35)) (LC κ (0 + k)) (XNc κ (0 + k)) (MNc κ (0 + k)) (PFc κ k))
  unfold stS
  rw [X1f_eq h, Nat.zero_add]
theorem PFc_b {κ : Hp} (hK : KC κ) (hV : VOK (κ 34)) (k : Nat) : FB3 (κ 33 0) (κ 33 1) (PFc κ k) := pG_b (KCw hK).1 (KCh hK).1 (rawP_b (KCw hK).2 (KCh hK).2 hV) k
def ShW (κ h : Hp) (n : Int) : Prop := ∀ k : Nat, (k : Int) ≤ n → PkS κ h (56 + k) k (PFc κ k)
theorem ShW_0 {κ h : Hp} {q : Nat} (e : q = 56) (h1 : ShE (κ 33 0) (κ 33 1) (h (q + 15)) (EFc κ 0)) (h2 : h q 1 = 0) : ShW κ h 0 := fun k hk => by
  have e0 : k = 0 := by omega
  subst e0
  subst e
  refine ⟨fun _ => ⟨fun x y hp => ?_, h2⟩, fun q => absurd (fun j hj => absurd hj (by omega)) q⟩
  show h (56 + 15) (16 * y + x).toNat = nrm (κ 33 0) (κ 33 1) (fun _ x y => 16 * κ 34 (16 * y + x).toNat) 0 x y
  rw [nrm_in (by omega) hp]
  exact h1 x y hp
theorem ShW.w54 {κ h : Hp} {n v : Int} (hn : n ≤ 12) (a : ShW κ h n) : ShW κ (zwr h 54 7 v) n := fun k hk => (a k hk).eq (zfun (by omega)) (zfun (by omega))
theorem FdC.fwW {g h h' : Hp} {s : Nat} (c : FdC g h) (hs : 56 ≤ s ∧ s ≤ 70) (d : Fw [s + 15, s, 88, 90, 91, 92, 93, 94] [(87, 0), (87, 1), (87, 2)] h h') : FdC g h' := fun k i h1 h2 h3 => (d k i (fun c hc => by
  simp only [List.mem_cons, List.not_mem_nil, or_false] at hc
  intro q
  subst q
  rcases hc with e | e | e | e | e | e | e | e
  · omega
  · omega
  · subst e; exact absurd (show dpn 88 i = false by simp [dpn, key]; decide) (by rw [h1]; simp)
  · subst e; exact absurd (show dpn 90 i = false by simp [dpn, key]; decide) (by rw [h1]; simp)
  · subst e; exact absurd (show dpn 91 i = false by simp [dpn, key]; decide) (by rw [h1]; simp)
  · subst e; exact absurd (show dpn 92 i = false by simp [dpn, key]; decide) (by rw [h1]; simp)
  · subst e; exact absurd (show dpn 93 i = false by simp [dpn, key]; decide) (by rw [h1]; simp)
  · subst e; exact absurd (show dpn 94 i = false by simp [dpn, key]; decide) (by rw [h1]; simp)) (fun p hp q => by
  simp only [List.mem_cons, List.not_mem_nil, or_false] at hp
  have hk : k = 87 := by rcases hp with rfl | rfl | rfl <;> exact q
  subst hk
  exact absurd (show dpn 87 i = false by simp [dpn, key]; decide) (by rw [h1]; simp))).trans (c k i h1 h2 h3)
theorem s_X1_applyX {G : Ga} {b : Bd} {κ h : Hp} (hK : KC κ) (hF : Fr b κ h) (x1 : Int) (hx1 : 1 ≤ x1 ∧ x1 ≤ 12 ∧ x1 - κ 41 0 ≤ 0) (x2 : Int) (hx2 : 0 ≤ x2 ∧ x2 ≤ 255) (s3 : Nat) (hs3 : 56 ≤ s3 ∧ s3 ≤ 70) (s4 : Nat) (hs4 : 56 ≤ s4 ∧ s4 ≤ 70) (gh0 : Hp) (m : Int) (he3 : (s3 : Int) = 55 + x1) (he4 : (s4 : Int) = 56 + x1) (hT : ∀ c : Nat, 56 ≤ c → c ≤ 85 → OkL b c) (hRc : RecW κ) (hV : VOK (κ 34)) (hE : EaOK (LC κ) (κ 41 0)) (hxn : x2 = XNc κ (x1 - 1).toNat 0) (hfd : FdC gh0 h) (hm54 : h 54 7 = m) (hsh : ShW κ h (x1 - 1)) : zM G mX1_apply yX1_apply [.inr (.inr 54), .inl x1, .inl x2, .inr (.inr s3), .inr (.inr s4)] h (fun r h' => Fr b κ h' ∧ (FdC gh0 h' ∧ h' 54 7 = m ∧ ShW κ h' x1)) := by
  have z := hsh (x1 - 1).toNat (by omega)
  rw [show 56 + (x1 - 1).toNat = s3 by omega] at z
  obtain ⟨-, -, -, r4, -⟩ := hRc (x1 - 1).toNat (by omega)
  refine (s_X1_applyW hK hF x1 hx1 x2 hx2 s3 hs3 s4 hs4 (PFc κ (x1 - 1).toNat) (hT _ (by omega) (by omega)) (hT _ (by omega) (by omega)) (by omega) hRc hE (by rw [hxn]; exact r4) (fun _ => hxn) z (PFc_b hK hV _)).mono (fun r h' q => ⟨q.1, hfd.fwW hs4 q.2.1, ?_, fun j hj => ?_⟩)
  · rw [q.2.1 54 7 (by intro c hc; simp at hc; omega) (by simp)]; exact hm54
  · by_cases e : (j : Int) = x1
    · have w := q.2.2
      rw [PFc_s hxn] at w
      rw [show j = (x1 - 1).toNat + 1 by omega, show 56 + ((x1 - 1).toNat + 1) = s4 by omega]
      exact w
    · exact (hsh j (by omega)).eq (funext fun i => q.2.1 _ i (by intro c hc; simp at hc; omega) (by intro p hp; simp at hp; rcases hp with rfl | rfl | rfl <;> (intro; omega))) (funext fun i => q.2.1 _ i (by intro c hc; simp at hc; omega) (by intro p hp; simp at hp; rcases hp with rfl | rfl | rfl <;> (intro; omega)))

abbrev q_X1_sheetOfWT (b : Bd) (κ : Hp) (x1 : Int) (gh0 : Hp) : Int → Hp → Prop := fun r h' => Fr b κ h' ∧ ((56 ≤ r) ∧ (r ≤ 70) ∧ (FdC gh0 h' ∧ (h' 54 7 ≤ κ 41 0 ∧ ShW κ h' (h' 54 7)) ∧ (0 ≤ x1 → x1 ≤ κ 41 0 → r = 56 + x1 ∧ ShW κ h' x1)))
set_option maxHeartbeats 4000000 in
set_option maxRecDepth 20000 in
theorem s_X1_sheetOfWT {G : Ga} {b : Bd} {κ h : Hp} (hK : KC κ) (hF : Fr b κ h) (x1 : Int) (hx1 : rng x1) (gh0 : Hp) (hT : ∀ c : Nat, 56 ≤ c → c ≤ 85 → OkL b c) (hmd : ∀ (h : Hp) (v : Int), b.I h → b.I (zwr h 54 7 v)) (hRc : RecW κ) (hV : VOK (κ 34)) (hE : EaOK (LC κ) (κ 41 0)) (hfd : FdC gh0 h) (hP : h 54 7 ≤ κ 41 0 ∧ ShW κ h (h 54 7)) : zM G mX1_sheetOf yX1_sheetOf [.inr (.inr 54), .inl x1] h (q_X1_sheetOfWT b κ x1 gh0) := by
  have f_41_0 := KCm hK
  unfold rng at hx1
  have main : ∀ N : Nat, (∀ (v2 v3 : Int) (h : Hp), Fr b κ h → (0 ≤ v2 ∧ v2 ≤ 12) → (1 ≤ v3 ∧ v3 ≤ 13) → (FdC gh0 h) → (ShW κ h (v3 - 1)) → (h 54 7 = v3 - 1 ∧ v3 - 1 ≤ κ 41 0) → (0 ≤ v2 ∧ v2 ≤ κ 41 0) → (0 ≤ x1 → x1 ≤ κ 41 0 → v2 = x1) → 14784 + 33 * (13 - v3) + 32 < (N : Int) → zV G mX1_sheetOf (q_X1_sheetOfWT b κ x1 gh0) 48 [some (.inr (.inr 54)), some (.inl x1), some (.inl v2), some (.inl v3)] [] h) := by
    intro N
    induction N with
    | zero =>
      intro v2 v3 h hF g0 g1 gc0 gc1 gc2 gc3 gc4 hm
      exfalso; omega
    | succ N ih =>
      have k48 := ih
      intro v2 v3 h hF g0 g1 gc0 gc1 gc2 gc3 gc4 hm
      refine zW_iload_n (pc' := 49) dX1_sheetOf_1.2.1.2.1 rfl rfl ?_
      refine zW_iload_n (pc' := 50) dX1_sheetOf_1.2.1.2.2 rfl rfl ?_
      refine zV_cm_gt (tgt := 92) (pc' := 53) dX1_sheetOf_1.2.2.1.1 rfl rfl ⟨by omega, by omega⟩ ⟨by omega, by omega⟩ (fun c50 => ?_) (fun c50 => ?_)
      · refine zW_aload_n (pc' := 93) dX1_sheetOf_3.1.2.2 rfl rfl ?_
        refine zG_ref (pc' := 96) 55 fg_X1_11 tb54 rfl dX1_sheetOf_3.2.1.1 rfl ?_
        refine zW_iload_n (pc' := 97) dX1_sheetOf_3.2.1.2 rfl rfl ?_
        refine zV_aalS (pc' := 98) (by omega) dX1_sheetOf_3.2.2.1 rfl (fun q97 z97 => ?_)
        exact zV_aret rfl dX1_sheetOf_3.2.2.2 ⟨hF, (by refine ⟨by omega, by omega, gc0, ⟨by omega, by rw [gc2.1]; exact gc1⟩, fun a c => ⟨by omega, fun j hj => gc1 j (by omega)⟩⟩)⟩
      · have hxb : ∀ j : Nat, 0 ≤ XNc κ (v3 - 1).toNat j ∧ XNc κ (v3 - 1).toNat j ≤ 255 := (hRc (v3 - 1).toNat (by omega)).2.2.1
        refine zW_aload_n (pc' := 54) dX1_sheetOf_1.2.2.1.2 rfl rfl ?_
        refine zW_iload_n (pc' := 55) dX1_sheetOf_1.2.2.2.1 rfl rfl ?_
        refine zW_aload_n (pc' := 56) dX1_sheetOf_1.2.2.2.2 rfl rfl ?_
        refine zG_ref (pc' := 59) 41 fg_X1_33 tb54 rfl dX1_sheetOf_2.1.1.1.1 rfl ?_
        refine zW_iload_n (pc' := 60) dX1_sheetOf_2.1.1.1.2 rfl rfl ?_
        refine zW_iconst (pc' := 61) dX1_sheetOf_2.1.1.2.1 rfl ?_
        refine cvI2 (pc' := 64) kX7_numberOf vX7_numberOf lk_X1_70 ⟨Nat.le_of_ble_eq_true rfl, Nat.le_of_ble_eq_true rfl⟩ tb41 vq7 rfl rfl (s_X7_numberOfW hK hF _ ⟨by omega, by omega, by omega⟩ _ ⟨by omega, by omega⟩ hxb) dX1_sheetOf_2.1.1.2.2 (Nat.le_of_ble_eq_true rfl) rfl ?_
        rintro r61 z61 ⟨hz61, p61⟩; subst z61
        refine zW_aload_n (pc' := 65) dX1_sheetOf_2.1.2.1.1 rfl rfl ?_
        refine zG_ref (pc' := 68) 55 fg_X1_11 tb54 rfl dX1_sheetOf_2.1.2.1.2 rfl ?_
        refine zW_iload_n (pc' := 69) dX1_sheetOf_2.1.2.2.1 rfl rfl ?_
        refine zW_iconst (pc' := 70) dX1_sheetOf_2.1.2.2.2 rfl ?_
        refine zW_isub (pc' := 71) dX1_sheetOf_2.2.1.1.1 rfl ?_
        refine zV_aalS (pc' := 72) (by omega) dX1_sheetOf_2.2.1.1.2 rfl (fun q71 z71 => ?_)
        refine zW_aload_n (pc' := 73) dX1_sheetOf_2.2.1.2.1 rfl rfl ?_
        refine zG_ref (pc' := 76) 55 fg_X1_11 tb54 rfl dX1_sheetOf_2.2.1.2.2 rfl ?_
        refine zW_iload_n (pc' := 77) dX1_sheetOf_2.2.2.1.1 rfl rfl ?_
        refine zV_aalS (pc' := 78) (by omega) dX1_sheetOf_2.2.2.1.2 rfl (fun q77 z77 => ?_)
        refine cvV4 (pc' := 81) kX1_apply vX1_apply lk_X1_73 ⟨Nat.le_of_ble_eq_true rfl, Nat.le_of_ble_eq_true rfl⟩ tb54 vq1 rfl rfl (s_X1_applyX hK hF _ ⟨by omega, by omega, by omega⟩ _ ⟨by omega, by omega⟩ _ ⟨by omega, by omega⟩ _ ⟨by omega, by omega⟩ gh0 (v3 - 1) (by omega) (by omega) hT hRc hV hE p61.2.2 gc0 gc2.1 gc1) dX1_sheetOf_2.2.2.2.1 (Nat.le_of_ble_eq_true rfl) rfl ?_
        rintro r78 h ⟨hF, p78⟩
        have hap := p78
        refine zW_aload_n (pc' := 82) dX1_sheetOf_2.2.2.2.2 rfl rfl ?_
        refine zW_iload_n (pc' := 83) dX1_sheetOf_3.1.1.1.1 rfl rfl ?_
        refine zX_int (pc' := 86) (hF.p54 ⟨by omega, by omega⟩ (hmd _ _ hF.inv)) fp_X1_25 tb54 rfl dX1_sheetOf_3.1.1.1.2 rfl (fun h hF w83 => ?_)
        have hs2 : ShW κ h v3 := by rw [w83]; exact hap.2.2.w54 (by omega)
        have hfd2 : FdC gh0 h := by rw [w83]; exact hap.1.w54
        have hm2 : h 54 7 = v3 := by rw [w83]; exact zwr_eq
        refine zW_iinc (ls' := [_, _, _, _]) (pc' := 89) dX1_sheetOf_3.1.1.2 rfl (by decide) rfl rfl rfl ?_
        refine zV_goto 48 dX1_sheetOf_3.1.2.1 rfl ?_
        exact k48 _ _ _ hF (by omega) (by omega) (by first | exact hfd2 | (rw [w38]; exact hfd0.w54) | exact hfd) (by first | (rw [show v3 + 1 - 1 = v3 by omega]; exact hs2) | (rw [w38, zwr_eq, show (0 : Int) + 1 - 1 = 0 by decide]; exact hs0.w54 (by omega)) | (rw [show h 54 7 + 1 - 1 = h 54 7 by omega]; exact hP.2)) (by first | omega | (rw [w38, zwr_eq]; omega)) (by omega) (by omega) (by omega)
  refine zM_of [some (.inr (.inr 54)), some (.inl x1), none, none] 2 rfl rfl (Nat.le_of_ble_eq_true rfl) rfl ?_
  refine zW_iconst (pc' := 1) dX1_sheetOf_0.1.1.1.1 rfl ?_
  refine zW_aload_n (pc' := 2) dX1_sheetOf_0.1.1.1.2 rfl rfl ?_
  refine zG_ref (pc' := 5) 41 fg_X1_33 tb54 rfl dX1_sheetOf_0.1.1.2.1 rfl ?_
  refine zG_key (pc' := 8) hF rfl fg_X1_53 tb41 rfl dX1_sheetOf_0.1.1.2.2 rfl ?_
  refine zW_iload_n (pc' := 9) dX1_sheetOf_0.1.2.1.1 rfl rfl ?_
  refine zV_mmin (pc' := 12) km_X1_58 (Nat.le_of_ble_eq_true rfl) (Nat.le_of_ble_eq_true rfl) dX1_sheetOf_0.1.2.1.2 rfl (fun v9 e9 => ?_)
  replace e9 := e9.2 ⟨by omega, by omega⟩ ⟨by omega, by omega⟩
  refine zV_mmax (pc' := 15) km_X1_64 (Nat.le_of_ble_eq_true rfl) (Nat.le_of_ble_eq_true rfl) dX1_sheetOf_0.1.2.2.1 rfl (fun v12 e12 => ?_)
  replace e12 := e12.2 ⟨by omega, by omega⟩ ⟨by omega, by omega⟩
  refine zW_istore_n (ls' := [_, _, _, _]) (pc' := 16) dX1_sheetOf_0.1.2.2.2 (by decide) rfl rfl rfl ?_
  refine zW_aload_n (pc' := 17) dX1_sheetOf_0.2.1.1.1 rfl rfl ?_
  refine zG_int (pc' := 20) fg_X1_25 tb54 rfl dX1_sheetOf_0.2.1.1.2 rfl ?_
  have e17 := hF.2.2.2.1
  refine zV_if_ge (tgt := 41) (pc' := 23) dX1_sheetOf_0.2.1.2.1 rfl rfl ⟨by omega, by omega⟩ (fun c20 => ?_) (fun c20 => ?_)
  · have hx54 : 0 ≤ h 54 7 := by first | omega | (rw [w38, zwr_eq]; omega)
    refine zW_aload_n (pc' := 42) dX1_sheetOf_1.1.2.1.2 rfl rfl ?_
    refine zG_int (pc' := 45) fg_X1_25 tb54 rfl dX1_sheetOf_1.1.2.2.1 rfl ?_
    have e42 := hF.2.2.2.1
    refine zW_iconst (pc' := 46) dX1_sheetOf_1.1.2.2.2 rfl ?_
    refine zW_iadd (pc' := 47) dX1_sheetOf_1.2.1.1.1 rfl ?_
    refine zW_istore_n (ls' := [_, _, _, _]) (pc' := 48) dX1_sheetOf_1.2.1.1.2 (by decide) rfl rfl rfl ?_
    exact (main 10000000000000000000000000000000000000000) _ _ _ hF (by omega) (by omega) (by first | exact hfd2 | (rw [w38]; exact hfd0.w54) | exact hfd) (by first | (rw [show v3 + 1 - 1 = v3 by omega]; exact hs2) | (rw [w38, zwr_eq, show (0 : Int) + 1 - 1 = 0 by decide]; exact hs0.w54 (by omega)) | (rw [show h 54 7 + 1 - 1 = h 54 7 by omega]; exact hP.2)) (by first | omega | (rw [w38, zwr_eq]; omega)) (by omega) (by omega) (by omega)
  · refine zW_aload_n (pc' := 24) dX1_sheetOf_0.2.1.2.2 rfl rfl ?_
    refine zG_ref (pc' := 27) 55 fg_X1_11 tb54 rfl dX1_sheetOf_0.2.2.1.1 rfl ?_
    refine zW_iconst (pc' := 28) dX1_sheetOf_0.2.2.1.2 rfl ?_
    refine zV_aalS (pc' := 29) (by omega) dX1_sheetOf_0.2.2.2.1 rfl (fun q28 z28 => ?_)
    refine zW_aload_n (pc' := 30) dX1_sheetOf_0.2.2.2.2 rfl rfl ?_
    refine zG_ref (pc' := 33) 33 fg_X1_29 tb54 rfl dX1_sheetOf_1.1.1.1.1 rfl ?_
    refine cvV1 (pc' := 36) kX8_layRaw vX8_layRaw lk_X1_67 ⟨Nat.le_of_ble_eq_true rfl, Nat.le_of_ble_eq_true rfl⟩ (tabS (by omega) (by omega)) vq8 rfl rfl (s_X8_layRawZ hK hF _ ⟨by omega, by omega⟩ h (hT _ (by omega) (by omega)) (hT _ (by omega) (by omega)) hV Fw.rf) dX1_sheetOf_1.1.1.1.2 (Nat.le_of_ble_eq_true rfl) rfl ?_
    rintro r33 h ⟨hF, d33, p33⟩
    have hs0 : ShW κ h 0 := ShW_0 (by omega) p33.1 p33.2
    have hfd0 : FdC gh0 h := hfd.fw (a := q28 + 15) (b := q28) (by omega) (by omega) d33
    refine zW_aload_n (pc' := 37) dX1_sheetOf_1.1.1.2.1 rfl rfl ?_
    refine zW_iconst (pc' := 38) dX1_sheetOf_1.1.1.2.2 rfl ?_
    refine zX_int (pc' := 41) (hF.p54 ⟨by omega, by omega⟩ (hmd _ _ hF.inv)) fp_X1_25 tb54 rfl dX1_sheetOf_1.1.2.1.1 rfl (fun h hF w38 => ?_)
    have hx54 : 0 ≤ h 54 7 := by first | omega | (rw [w38, zwr_eq]; omega)
    refine zW_aload_n (pc' := 42) dX1_sheetOf_1.1.2.1.2 rfl rfl ?_
    refine zG_int (pc' := 45) fg_X1_25 tb54 rfl dX1_sheetOf_1.1.2.2.1 rfl ?_
    have e42 := hF.2.2.2.1
    refine zW_iconst (pc' := 46) dX1_sheetOf_1.1.2.2.2 rfl ?_
    refine zW_iadd (pc' := 47) dX1_sheetOf_1.2.1.1.1 rfl ?_
    refine zW_istore_n (ls' := [_, _, _, _]) (pc' := 48) dX1_sheetOf_1.2.1.1.2 (by decide) rfl rfl rfl ?_
    exact (main 10000000000000000000000000000000000000000) _ _ _ hF (by omega) (by omega) (by first | exact hfd2 | (rw [w38]; exact hfd0.w54) | exact hfd) (by first | (rw [show v3 + 1 - 1 = v3 by omega]; exact hs2) | (rw [w38, zwr_eq, show (0 : Int) + 1 - 1 = 0 by decide]; exact hs0.w54 (by omega)) | (rw [show h 54 7 + 1 - 1 = h 54 7 by omega]; exact hP.2)) (by first | omega | (rw [w38, zwr_eq]; omega)) (by omega) (by omega) (by omega)

/-- the sheets of the class are the pictures, as far as they are made -/
def PicCW (h : Hp) : Prop := h 54 7 ≤ h 41 0 ∧ ShW h h (h 54 7)
theorem ShW.key {κ h g : Hp} {n : Int} (e0 : h 33 0 = κ 33 0) (e1 : h 33 1 = κ 33 1) (e2 : h 33 2 = κ 33 2) (e34 : h 34 = κ 34) (e35 : h 35 = κ 35) (e42 : h 42 = κ 42) (e43 : h 43 = κ 43) (e44 : h 44 = κ 44) : ShW h g n ↔ ShW κ g n := by
  unfold ShW PkS PFc XNc MNc LC AC
  rw [e0, e1, e2, e34, e35, e42, e43, e44]
theorem ShW.keyF {b : Bd} {κ h g : Hp} {n : Int} (hF : Fr b κ h) : ShW h g n ↔ ShW κ g n :=
  ShW.key (hF.1 33 0 rfl) (hF.1 33 1 rfl) (hF.1 33 2 rfl) (keq hF rfl) (keq hF rfl) (keq hF rfl) (keq hF rfl) (keq hF rfl)
theorem RecW.key {κ h : Hp} (p : RecW h) (e0 : h 41 0 = κ 41 0) (e42 : h 42 = κ 42) (e43 : h 43 = κ 43) (e44 : h 44 = κ 44) : RecW κ := by
  unfold RecW CrC XC XNc AC LC at p ⊢
  rw [← e42, ← e43, ← e44, ← e0]; exact p
abbrev q_X1_sheetOfW' (b : Bd) (κ : Hp) (x1 : Int) : Int → Hp → Prop := fun r h' => Fr b κ h' ∧ ((56 ≤ r) ∧ (r ≤ 70) ∧ (0 ≤ x1 → x1 ≤ κ 41 0 → r = 56 + x1 ∧ ShW κ h' x1))
def SheetW (b : Bd) : Prop := ∀ {G : Ga} {κ h : Hp}, KC κ → Fr b κ h → ∀ x1 : Int, rng x1 → zM G mX1_sheetOf yX1_sheetOf [.inr (.inr 54), .inl x1] h (q_X1_sheetOfW' b κ x1)
theorem SheetW.ok {b : Bd} (h : SheetW b) : SheetOK b := fun hK hF x1 hx => (h hK hF x1 hx).mono (fun _ _ q => ⟨q.1, q.2.1, q.2.2.1⟩)
theorem sheetW_of {b : Bd} (hb : ∀ g h : Hp, FdC g h → PicCW h → b.I g → b.I h) (hp : ∀ h : Hp, b.I h → PicCW h ∧ VOK (h 34) ∧ EaOK (LC h) (h 41 0) ∧ RecW h) : SheetW b := by
  intro G κ h hK hF x1 hx
  have hF0 : Fr (bdB b.g) κ h := ⟨hF.1, ⟨hF.2.1.1, True.intro⟩, hF.2.2⟩
  obtain ⟨⟨p1, p2⟩, p3, p4, p5⟩ := hp h hF.inv
  have e0 := hF.1 41 0 rfl
  have p2' := (ShW.keyF hF).mp p2
  rw [e0] at p1
  have e34 : h 34 = κ 34 := keq hF rfl
  have e42 : h 42 = κ 42 := keq hF rfl
  have e43 : h 43 = κ 43 := keq hF rfl
  have e44 : h 44 = κ 44 := keq hF rfl
  have p3' : VOK (κ 34) := by rw [← e34]; exact p3
  have p4' : EaOK (LC κ) (κ 41 0) := by
    unfold LC
    rw [← e42, ← e0]; exact p4
  have p5' : RecW κ := p5.key e0 e42 e43 e44
  refine (s_X1_sheetOfWT hK hF0 x1 hx h (fun _ _ _ _ _ _ _ => True.intro) (fun _ _ _ => True.intro) p5' p3' p4' FdC.rf ⟨p1, p2'⟩).mono (fun r h' q => ?_)
  obtain ⟨q1, q2, q3, q4, ⟨q5, q6⟩, q7⟩ := q
  refine ⟨⟨q1.1, ⟨q1.2.1.1, hb h h' q4 ⟨?_, (ShW.keyF q1).mpr q6⟩ hF.inv⟩, q1.2.2⟩, q2, q3, q7⟩
  rw [q1.1 41 0 rfl]; exact q5

theorem PkS.sk {κ h : Hp} {s j : Nat} {T : P3} (p : PkS κ h s j T) (hl : LC κ j ≠ 102) : PkS κ h s (j + 1) T := ⟨fun q => p.1 (q.le (by omega)), fun q => p.2 (fun z => q (noF_s.mpr ⟨z, hl⟩))⟩

