/-- the numbers that were there stay -/
def Pre15 (κ h : Hp) : Prop := ∀ j : Nat, (j : Int) < κ 0 31 → h 15 j = κ 15 j
theorem Pre15.rf {h : Hp} : Pre15 h h := fun _ _ => rfl
theorem Pre15.w {κ h : Hp} {k i : Nat} {v : Int} (hP : Pre15 κ h) (hk : k ≠ 15) : Pre15 κ (zwr h k i v) := fun j hj => by rw [zwr_ne (Or.inl (Ne.symm hk))]; exact hP j hj
theorem Pre15.n {κ h : Hp} {v : Int} {i : Nat} (hP : Pre15 κ h) (hi : κ 0 31 ≤ (i : Int)) : Pre15 κ (zwr h 15 i v) := fun j hj => by rw [zwr_ne (Or.inr (by omega))]; exact hP j hj
theorem Pre15.fm {L : List (Nat × Nat)} {κ h h' : Hp} (hP : Pre15 κ h) (hF : Fm L h h') (hl : ∀ j, inW L 15 j = false) : Pre15 κ h' := fun j hj => (hF.1 15 j rfl (hl j)).trans (hP j hj)
theorem Pre15.tr {κ h h' : Hp} (h1 : Pre15 κ h) (h2 : Pre15 h h') (hl : κ 0 31 ≤ h 0 31) : Pre15 κ h' := fun j hj => (h2 j (by omega)).trans (h1 j hj)
theorem Fm.cell {L : List (Nat × Nat)} {κ h : Hp} (hF : Fm L κ h) (k : Nat) (hk : ckey k = true) (hl : ∀ j, inW L k j = false) : h k = κ k := funext fun j => hF.1 k j (dpn_k (key_of hk j)) (hl j)
def HR (t : Nat → Int) (p l : Int) : Int := if p < l then (Int32.ofInt (t p.toNat) &&& Int32.ofInt 255).toInt else -1
theorem zW_iandV {G : Ga} {μ : Mt} {Q : Int → Hp → Prop} {pc pc' : Nat} {ls : Lo} {st : List Sv} {h : Hp} {a c : Int} (hc : 0 ≤ c ∧ c ≤ 2147483647) (hd : decode μ.1 pc = .ok (.iand, 1)) (hn : pc + 1 = pc') (kk : ∀ v : Int, 0 ≤ v ∧ v ≤ c ∧ v = (Int32.ofInt a &&& Int32.ofInt c).toInt → zV G μ Q pc' ls (.inl v :: st) h) : zV G μ Q pc ls (.inl c :: .inl a :: st) h := by
  subst hn
  intro p e s m args below meth c0 H locs lsA C hP hS hL
  exact lv_iand C.1 C.2.1 hd (zV_any32 C hP hS hL (kk _ ⟨(and32 hc).1, (and32 hc).2, rfl⟩))
def Cv (h : Hp) (a b : Int) : Prop := a + 4 ≤ b ∧ (b - a) % 2 = 0 ∧ ∀ i : Int, 0 ≤ i → a + 2 * i + 2 < b → 0 ≤ h 15 (a + 2 * i).toNat ∧ h 15 (a + 2 * i).toNat < h 15 (a + 2 * i + 2).toNat ∧ h 15 (a + 2 * i + 2).toNat ≤ 255
def CvI (h : Hp) (a b x : Int) : Prop := (x = -1 ∧ b = a) ∨ (0 ≤ x ∧ x ≤ 255 ∧ a + 2 ≤ b ∧ (b - a) % 2 = 0 ∧ h 15 (b - 2).toNat = x ∧ (b = a + 2 → x = 0) ∧ ∀ i : Int, 0 ≤ i → a + 2 * i + 2 < b → 0 ≤ h 15 (a + 2 * i).toNat ∧ h 15 (a + 2 * i).toNat < h 15 (a + 2 * i + 2).toNat ∧ h 15 (a + 2 * i + 2).toNat ≤ 255)
theorem CvI.end {h : Hp} {a b : Int} (hc : CvI h a b 255) : Cv h a b := by
  rcases hc with ⟨q, -⟩ | ⟨-, -, c1, c2, -, c4, c5⟩
  · omega
  · refine ⟨?_, c2, c5⟩
    have : ¬ b = a + 2 := fun q => by have := c4 q; omega
    omega
theorem CvI.step {h h' : Hp} {a b x y : Int} (ha : 0 ≤ a) (hc : CvI h a b x) (hP : ∀ j : Nat, (j : Int) < b → h' 15 j = h 15 j) (hv : h' 15 b.toNat = y) (hy : (x = -1 ∧ y = 0) ∨ (x ≠ -1 ∧ x + 1 ≤ y ∧ y ≤ 255)) : CvI h' a (b + 2) y := by
  rcases hc with ⟨q1, q2⟩ | ⟨c0, c00, c1, c2, c3, c4, c5⟩
  · refine Or.inr ⟨by omega, by omega, by omega, by omega, ?_, fun _ => by omega, fun i hi hl => by omega⟩
    rw [show b + 2 - 2 = b by omega]
    exact hv
  · refine Or.inr ⟨by omega, by omega, by omega, by omega, ?_, fun q => by omega, fun i hi hl => ?_⟩
    · rw [show b + 2 - 2 = b by omega]
      exact hv
    · by_cases e : a + 2 * i + 2 < b
      · have e1 := hP (a + 2 * i).toNat (by omega)
        have e2 := hP (a + 2 * i + 2).toNat (by omega)
        rw [e1, e2]
        exact c5 i hi e
      · have e3 : a + 2 * i + 2 = b := by omega
        have e4 : a + 2 * i = b - 2 := by omega
        have e1 := hP (b - 2).toNat (by omega)
        rw [e3, e4, e1, c3, hv]
        exact ⟨by omega, by omega, by omega⟩

abbrev q_X12_here (κ h : Hp)  : Int → Hp → Prop := fun r h' => h' = h ∧ ((-1 ≤ r) ∧ (r ≤ 255) ∧ (((r = -1 ∧ κ 0 27 ≤ κ 0 26) ∨ (0 ≤ r ∧ r ≤ 255 ∧ κ 0 26 < κ 0 27)) ∧ r = HR (κ 12) (κ 0 26) (κ 0 27)))
set_option maxHeartbeats 4000000 in
set_option maxRecDepth 20000 in
theorem s_X12_here {G : Ga} {b : Bd} {κ h : Hp} (hK : KR κ) (hF : Fr b κ h) (hp : 0 ≤ κ 0 26 ∧ κ 0 26 ≤ κ 0 27 ∧ κ 0 27 ≤ 120) : zM G mX12_here yX12_here [.inr (.inr 0)] h (q_X12_here κ h) := by
  refine zM_of [some (.inr (.inr 0))] 0 rfl rfl (Nat.le_of_ble_eq_true rfl) rfl ?_
  refine zW_aload_n (pc' := 1) dX12_here_0.1.1.1.1 rfl rfl ?_
  refine zG_key (pc' := 4) hF rfl fg_X12_123 tb0 rfl dX12_here_0.1.1.1.2 rfl ?_
  have e1 := hF.rk (k := 0) (i := 26) rfl (by decide) (by decide)
  refine zW_aload_n (pc' := 5) dX12_here_0.1.1.2.1 rfl rfl ?_
  refine zG_key (pc' := 8) hF rfl fg_X12_126 tb0 rfl dX12_here_0.1.1.2.2 rfl ?_
  have e5 := hF.rk (k := 0) (i := 27) rfl (by decide) (by decide)
  refine zV_cm_ge (tgt := 27) (pc' := 11) dX12_here_0.1.2.1.1 rfl rfl ⟨by omega, by omega⟩ ⟨by omega, by omega⟩ (fun c8 => ?_) (fun c8 => ?_)
  · refine zW_iconst (pc' := 28) dX12_here_0.2.2.1.2 rfl ?_
    exact zV_iret rfl dX12_here_0.2.2.2 ⟨rfl, by refine ⟨by omega, by omega, by omega, ?_⟩; unfold HR; first | (rw [if_pos (by omega)]; exact e23.2.2) | (rw [if_neg (by omega)])⟩
  · refine zW_aload_n (pc' := 12) dX12_here_0.1.2.1.2 rfl rfl ?_
    refine zG_ref (pc' := 15) 12 fg_X12_44 tb0 rfl dX12_here_0.1.2.2.1 rfl ?_
    refine zW_aload_n (pc' := 16) dX12_here_0.1.2.2.2 rfl rfl ?_
    refine zG_key (pc' := 19) hF rfl fg_X12_123 tb0 rfl dX12_here_0.2.1.1.1 rfl ?_
    have e16 := hF.rk (k := 0) (i := 26) rfl (by decide) (by decide)
    refine zA_keyb (pc' := 20) hF rfl tb12 (by omega) dX12_here_0.2.1.1.2 (by decide) rfl ?_
    refine zW_sipush (pc' := 23) dX12_here_0.2.1.2.1 rfl rfl ?_
    refine zW_iandV (pc' := 24) (by omega) dX12_here_0.2.1.2.2 rfl (fun v23 e23 => ?_)
    refine zV_goto 28 dX12_here_0.2.2.1.1 rfl ?_
    exact zV_iret rfl dX12_here_0.2.2.2 ⟨rfl, by refine ⟨by omega, by omega, by omega, ?_⟩; unfold HR; first | (rw [if_pos (by omega)]; exact e23.2.2) | (rw [if_neg (by omega)])⟩

abbrev q_X12_wrongAt (κ : Hp) (x1 : Int) (x2 : Int) : Int → Hp → Prop := fun r h' => Fm [(0, 28)] κ h' ∧ ((0 ≤ r) ∧ (r ≤ 1) ∧ (r = 0))
set_option maxHeartbeats 4000000 in
set_option maxRecDepth 20000 in
theorem s_X12_wrongAt {G : Ga} {κ : Hp} (hS : SI κ) (hR : KR κ) (hC : KC κ) (x1 : Int) (hx1 : 1 ≤ x1 ∧ x1 ≤ 6) (x2 : Int) (hx2 : 0 ≤ x2 ∧ x2 ≤ 120) : zM G mX12_wrongAt yX12_wrongAt [.inr (.inr 0), .inl x1, .inl x2] κ (q_X12_wrongAt κ x1 x2) := by
  refine zM_of [some (.inr (.inr 0)), some (.inl x1), some (.inl x2)] 0 rfl rfl (Nat.le_of_ble_eq_true rfl) rfl ?_
  refine (show ∀ h : Hp, Fm [(0, 28)] κ h → h = κ → zV G mX12_wrongAt (q_X12_wrongAt κ x1 x2) 0 [some (.inr (.inr 0)), some (.inl x1), some (.inl x2)] [] h from fun h hF hk0 => ?_) κ (Fm.rf hS hR hC) rfl
  refine zW_aload_n (pc' := 1) dX12_wrongAt_0.1.1.1.1 rfl rfl ?_
  refine zW_sipush (pc' := 4) dX12_wrongAt_0.1.1.1.2 rfl rfl ?_
  refine zW_iload_n (pc' := 5) dX12_wrongAt_0.1.1.2 rfl rfl ?_
  refine zW_imul (pc' := 6) dX12_wrongAt_0.1.2.1 rfl ?_
  refine zW_iload_n (pc' := 7) dX12_wrongAt_0.1.2.2 rfl rfl ?_
  refine zW_isub (pc' := 8) dX12_wrongAt_0.2.1.1 rfl ?_
  refine zPm (pc' := 11) hF (Or.inl rfl) (SI_irr hF.2.1 (Or.inl rfl) (fun _ _ => ⟨by omega, by omega⟩)) (KR_irr hF.2.2.1 rfl) (KC_irr hF.2.2.2 rfl) fp_X12_129 tb0 rfl dX12_wrongAt_0.2.1.2 rfl (fun h hF w8 => ?_)
  refine zW_iconst (pc' := 12) dX12_wrongAt_0.2.2.1 rfl ?_
  exact zV_zret rfl (by omega) dX12_wrongAt_0.2.2.2 ⟨hF, by omega⟩

abbrev q_X12_takesSign (κ : Hp) (x1 : Int) : Int → Hp → Prop := fun r h' => Fm [(0, 26), (0, 28)] κ h' ∧ ((0 ≤ r) ∧ (r ≤ 1) ∧ ((r = 1 ∧ h' 0 26 = κ 0 26 + 1 ∧ κ 0 26 < κ 0 27) ∨ (r = 0 ∧ h' 0 26 = κ 0 26)))
set_option maxHeartbeats 4000000 in
set_option maxRecDepth 20000 in
theorem s_X12_takesSign {G : Ga} {κ : Hp} (hS : SI κ) (hR : KR κ) (hC : KC κ) (x1 : Int) (hx1 : 0 ≤ x1 ∧ x1 ≤ 255) (hp : 0 ≤ κ 0 26 ∧ κ 0 26 ≤ κ 0 27 ∧ κ 0 27 ≤ 120) : zM G mX12_takesSign yX12_takesSign [.inr (.inr 0), .inl x1] κ (q_X12_takesSign κ x1) := by
  refine zM_of [some (.inr (.inr 0)), some (.inl x1)] 0 rfl rfl (Nat.le_of_ble_eq_true rfl) rfl ?_
  refine (show ∀ h : Hp, Fm [(0, 26), (0, 28)] κ h → h = κ → zV G mX12_takesSign (q_X12_takesSign κ x1) 0 [some (.inr (.inr 0)), some (.inl x1)] [] h from fun h hF hk0 => ?_) κ (Fm.rf hS hR hC) rfl
  have y0_0_26 : h 0 26 = κ 0 26 := by rw [hk0]
  have y0_0_27 : h 0 27 = κ 0 27 := by rw [hk0]
  refine zW_aload_n (pc' := 1) dX12_takesSign_0.1.1.1.1 rfl rfl ?_
  refine cvI0 (pc' := 4) kX12_here vX12_here lk_X12_132 ⟨Nat.le_of_ble_eq_true rfl, Nat.le_of_ble_eq_true rfl⟩ tb0 vq12 rfl rfl (s_X12_here (b := bdB true) (κ := h) hF.2.2.1 (Fr.rf hF.2.1) (by omega)) dX12_takesSign_0.1.1.1.2 (Nat.le_of_ble_eq_true rfl) rfl ?_
  rintro r1 z1 ⟨hz1, p1⟩; subst z1
  refine zW_iload_n (pc' := 5) dX12_takesSign_0.1.1.2.1 rfl rfl ?_
  refine zV_cm_eq (tgt := 18) (pc' := 8) dX12_takesSign_0.1.1.2.2 rfl rfl ⟨by omega, by omega⟩ ⟨by omega, by omega⟩ (fun c5 => ?_) (fun c5 => ?_)
  · refine zW_aload_n (pc' := 19) dX12_takesSign_0.2.1.2.1 rfl rfl ?_
    refine zW_aload_n (pc' := 20) dX12_takesSign_0.2.1.2.2 rfl rfl ?_
    refine zG_int (pc' := 23) fg_X12_123 tb0 rfl dX12_takesSign_0.2.2.1.1 rfl ?_
    have e20 := hF.rh 0 26
    refine zW_iconst (pc' := 24) dX12_takesSign_0.2.2.1.2 rfl ?_
    refine zW_iadd (pc' := 25) dX12_takesSign_0.2.2.2.1 rfl ?_
    refine zPm (pc' := 28) hF (Or.inl rfl) (SI_irr hF.2.1 (Or.inl rfl) (fun _ _ => ⟨by omega, by omega⟩)) (KR_irr hF.2.2.1 rfl) (KC_irr hF.2.2.2 rfl) fp_X12_123 tb0 rfl dX12_takesSign_0.2.2.2.2 rfl (fun h hF w25 => ?_)
    have t25_0_26 := congrFun (congrFun w25 0) 26
    rw [zwr_eq] at t25_0_26
    refine zW_iconst (pc' := 29) dX12_takesSign_1.1 rfl ?_
    exact zV_zret rfl (by omega) dX12_takesSign_1.2 ⟨hF, by omega⟩
  · refine zW_aload_n (pc' := 9) dX12_takesSign_0.1.2.1.1 rfl rfl ?_
    refine zW_iconst (pc' := 10) dX12_takesSign_0.1.2.1.2 rfl ?_
    refine zW_aload_n (pc' := 11) dX12_takesSign_0.1.2.2.1 rfl rfl ?_
    refine zG_int (pc' := 14) fg_X12_123 tb0 rfl dX12_takesSign_0.1.2.2.2 rfl ?_
    have e11 := hF.rh 0 26
    refine cvI2 (pc' := 17) kX12_wrongAt vX12_wrongAt lk_X12_136 ⟨Nat.le_of_ble_eq_true rfl, Nat.le_of_ble_eq_true rfl⟩ tb0 vq12 rfl rfl (s_X12_wrongAt hF.2.1 hF.2.2.1 hF.2.2.2 _ ⟨by omega, by omega⟩ _ ⟨by omega, by omega⟩) dX12_takesSign_0.2.1.1.1 (Nat.le_of_ble_eq_true rfl) rfl ?_
    rintro r14 h ⟨hF1, p14⟩; replace hF := hF.tr hF1 rfl
    have t14_0_26 := hF1.1 0 26 rfl rfl
    exact zV_zret rfl (by omega) dX12_takesSign_0.2.1.1.2 ⟨hF, by omega⟩

abbrev q_X12_readsNumber (κ : Hp) (x1 : Int) (x2 : Int) : Int → Hp → Prop := fun r h' => Fm [(0, 26), (0, 28), (0, 29), (0, 31), (15, 999)] κ h' ∧ ((0 ≤ r) ∧ (r ≤ 1) ∧ (κ 0 26 ≤ h' 0 26 ∧ h' 0 26 ≤ κ 0 27 ∧ Pre15 κ h' ∧ ((r = 1 ∧ x1 ≤ h' 0 29 ∧ h' 0 29 ≤ x2 ∧ h' 0 31 = κ 0 31 + 1 ∧ κ 0 26 < h' 0 26 ∧ h' 15 (κ 0 31).toNat = h' 0 29) ∨ (r = 0 ∧ h' 0 31 = κ 0 31))))
set_option maxHeartbeats 4000000 in
set_option maxRecDepth 20000 in
theorem s_X12_readsNumber {G : Ga} {κ : Hp} (hS : SI κ) (hR : KR κ) (hC : KC κ) (x1 : Int) (hx1 : 0 ≤ x1 ∧ x1 ≤ 256) (x2 : Int) (hx2 : 0 ≤ x2 ∧ x2 ≤ 255) (hp : 0 ≤ κ 0 26 ∧ κ 0 26 ≤ κ 0 27 ∧ κ 0 27 ≤ 120) (hq : 0 ≤ κ 0 31 ∧ κ 0 31 ≤ κ 0 26) : zM G mX12_readsNumber yX12_readsNumber [.inr (.inr 0), .inl x1, .inl x2] κ (q_X12_readsNumber κ x1 x2) := by
  have main : ∀ N : Nat, (∀ (v3 : Int) (h : Hp), Fm [(0, 26), (0, 28), (0, 29), (0, 31), (15, 999)] κ h → (0 ≤ v3 ∧ v3 ≤ 120) → (v3 = κ 0 26 ∧ κ 0 26 ≤ h 0 26 ∧ h 0 26 ≤ κ 0 27 ∧ h 0 26 ≤ κ 0 26 + 3) → (h 0 31 = κ 0 31) → (0 ≤ h 0 29 ∧ h 0 29 ≤ 999) → ((h 0 26 = κ 0 26 → h 0 29 = 0) ∧ (h 0 26 = κ 0 26 + 1 → h 0 29 ≤ 9) ∧ (h 0 26 = κ 0 26 + 2 → h 0 29 ≤ 99) ∧ (h 0 26 = κ 0 26 + 3 → h 0 29 ≤ 999)) → (Pre15 κ h) → (h 0 26 = κ 0 26 → 48 ≤ HR (κ 12) (κ 0 26) (κ 0 27) ∧ HR (κ 12) (κ 0 26) (κ 0 27) ≤ 57) → 596836 + 68 * (κ 0 27 - h 0 26) + 67 < (N : Int) → zV G mX12_readsNumber (q_X12_readsNumber κ x1 x2) 30 [some (.inr (.inr 0)), some (.inl x1), some (.inl x2), some (.inl v3)] [] h) ∧ (∀ (v3 : Int) (h : Hp), Fm [(0, 26), (0, 28), (0, 29), (0, 31), (15, 999)] κ h → (0 ≤ v3 ∧ v3 ≤ 120) → (v3 = κ 0 26 ∧ κ 0 26 < h 0 26 ∧ h 0 26 ≤ κ 0 27) → (h 0 31 = κ 0 31) → (0 ≤ h 0 29 ∧ h 0 29 ≤ 999) → (Pre15 κ h) → 561204 < (N : Int) → zV G mX12_readsNumber (q_X12_readsNumber κ x1 x2) 92 [some (.inr (.inr 0)), some (.inl x1), some (.inl x2), some (.inl v3)] [] h) := by
    intro N
    induction N with
    | zero =>
      refine ⟨?_, ?_⟩
      · intro v3 h hF g0 gc0 gc1 gc2 gc3 gc4 gc5 hm
        exfalso; omega
      · intro v3 h hF g0 gc0 gc1 gc2 gc3 hm
        exfalso; omega
    | succ N ih =>
      obtain ⟨k30, k92⟩ := ih
      refine ⟨?_, ?_⟩
      · intro v3 h hF g0 gc0 gc1 gc2 gc3 gc4 gc5 hm
        have y27 := hF.1 0 27 rfl rfl
        have hPre := gc4
        refine zW_aload_n (pc' := 31) dX12_readsNumber_1.1.1.1.1 rfl rfl ?_
        refine cvI0 (pc' := 34) kX12_here vX12_here lk_X12_132 ⟨Nat.le_of_ble_eq_true rfl, Nat.le_of_ble_eq_true rfl⟩ tb0 vq12 rfl rfl (s_X12_here (b := bdB true) (κ := h) hF.2.2.1 (Fr.rf hF.2.1) (by omega)) dX12_readsNumber_1.1.1.1.2 (Nat.le_of_ble_eq_true rfl) rfl ?_
        rintro r31 z31 ⟨hz31, p31⟩; subst z31
        have hr31 : h 0 26 = κ 0 26 → r31 = HR (κ 12) (κ 0 26) (κ 0 27) := fun q => by rw [p31.2.2.2, hF.cell 12 rfl (fun _ => rfl), q, hF.1 0 27 rfl rfl]
        refine csI1 (pc' := 37) kX12_isDigit vX12_isDigit lk_X12_144 ⟨Nat.le_of_ble_eq_true rfl, Nat.le_of_ble_eq_true rfl⟩ rfl (s_X12_isDigit (b := bdB true) (κ := h) (Fr.rf hF.2.1) _ ⟨by omega, by omega⟩) dX12_readsNumber_1.1.1.2.1 (Nat.le_of_ble_eq_true rfl) rfl ?_
        rintro r34 z34 ⟨hz34, p34⟩; subst z34
        refine zV_if_eq (tgt := 92) (pc' := 40) dX12_readsNumber_1.1.1.2.2 rfl rfl ⟨by omega, by omega⟩ (fun c37 => ?_) (fun c37 => ?_)
        · exact k92 _ _ hF (by omega) (by omega) (by omega) (by omega) hPre (by omega)
        · refine zW_aload_n (pc' := 41) dX12_readsNumber_1.1.2.1.1 rfl rfl ?_
          refine zG_int (pc' := 44) fg_X12_123 tb0 rfl dX12_readsNumber_1.1.2.1.2 rfl ?_
          have e41 := hF.rh 0 26
          refine zW_iload_n (pc' := 45) dX12_readsNumber_1.1.2.2.1 rfl rfl ?_
          refine zW_iconst (pc' := 46) dX12_readsNumber_1.1.2.2.2 rfl ?_
          refine zW_iadd (pc' := 47) dX12_readsNumber_1.2.1.1.1 rfl ?_
          refine zV_cm_ne (tgt := 60) (pc' := 50) dX12_readsNumber_1.2.1.1.2 rfl rfl ⟨by omega, by omega⟩ ⟨by omega, by omega⟩ (fun c47 => ?_) (fun c47 => ?_)
          · refine zW_aload_n (pc' := 61) dX12_readsNumber_2.1.1.1.1 rfl rfl ?_
            refine zW_bipush (pc' := 63) dX12_readsNumber_2.1.1.1.2 rfl rfl ?_
            refine zW_aload_n (pc' := 64) dX12_readsNumber_2.1.1.2.1 rfl rfl ?_
            refine zG_int (pc' := 67) fg_X12_148 tb0 rfl dX12_readsNumber_2.1.1.2.2 rfl ?_
            have e64 := hF.rh 0 29
            refine zW_imul (pc' := 68) dX12_readsNumber_2.1.2.1.1 rfl ?_
            refine zW_aload_n (pc' := 69) dX12_readsNumber_2.1.2.1.2 rfl rfl ?_
            refine cvI0 (pc' := 72) kX12_here vX12_here lk_X12_132 ⟨Nat.le_of_ble_eq_true rfl, Nat.le_of_ble_eq_true rfl⟩ tb0 vq12 rfl rfl (s_X12_here (b := bdB true) (κ := h) hF.2.2.1 (Fr.rf hF.2.1) (by omega)) dX12_readsNumber_2.1.2.2.1 (Nat.le_of_ble_eq_true rfl) rfl ?_
            rintro r69 z69 ⟨hz69, p69⟩; subst z69
            refine zW_iadd (pc' := 73) dX12_readsNumber_2.1.2.2.2 rfl ?_
            refine zW_bipush (pc' := 75) dX12_readsNumber_2.2.1.1.1 rfl rfl ?_
            refine zW_isub (pc' := 76) dX12_readsNumber_2.2.1.1.2 rfl ?_
            refine zPm (pc' := 79) hF (Or.inl rfl) (SI_irr hF.2.1 (Or.inl rfl) (fun _ _ => ⟨by omega, by omega⟩)) (KR_irr hF.2.2.1 rfl) (KC_irr hF.2.2.2 rfl) fp_X12_148 tb0 rfl dX12_readsNumber_2.2.1.2.1 rfl (fun h hF w76 => ?_)
            replace hPre : Pre15 κ h := by rw [w76]; exact hPre.w (by decide)
            have t76_0_26 := congrFun (congrFun w76 0) 26
            rw [zwr_ne (Or.inr (by decide))] at t76_0_26
            have t76_0_29 := congrFun (congrFun w76 0) 29
            rw [zwr_eq] at t76_0_29
            have t76_0_31 := congrFun (congrFun w76 0) 31
            rw [zwr_ne (Or.inr (by decide))] at t76_0_31
            refine zW_aload_n (pc' := 80) dX12_readsNumber_2.2.1.2.2 rfl rfl ?_
            refine zW_aload_n (pc' := 81) dX12_readsNumber_2.2.2.1.1 rfl rfl ?_
            refine zG_int (pc' := 84) fg_X12_123 tb0 rfl dX12_readsNumber_2.2.2.1.2 rfl ?_
            have e81 := hF.rh 0 26
            refine zW_iconst (pc' := 85) dX12_readsNumber_2.2.2.2.1 rfl ?_
            refine zW_iadd (pc' := 86) dX12_readsNumber_2.2.2.2.2 rfl ?_
            refine zPm (pc' := 89) hF (Or.inl rfl) (SI_irr hF.2.1 (Or.inl rfl) (fun _ _ => ⟨by omega, by omega⟩)) (KR_irr hF.2.2.1 rfl) (KC_irr hF.2.2.2 rfl) fp_X12_123 tb0 rfl dX12_readsNumber_3.1.1.1.1 rfl (fun h hF w86 => ?_)
            replace hPre : Pre15 κ h := by rw [w86]; exact hPre.w (by decide)
            have t86_0_26 := congrFun (congrFun w86 0) 26
            rw [zwr_eq] at t86_0_26
            have t86_0_29 := congrFun (congrFun w86 0) 29
            rw [zwr_ne (Or.inr (by decide))] at t86_0_29
            have t86_0_31 := congrFun (congrFun w86 0) 31
            rw [zwr_ne (Or.inr (by decide))] at t86_0_31
            refine zV_goto 30 dX12_readsNumber_3.1.1.1.2 rfl ?_
            exact k30 _ _ hF (by omega) (by omega) (by omega) (by omega) (by omega) hPre (by omega) (by omega)
          · refine zW_aload_n (pc' := 51) dX12_readsNumber_1.2.1.2.1 rfl rfl ?_
            refine zW_iconst (pc' := 52) dX12_readsNumber_1.2.1.2.2 rfl ?_
            refine zW_aload_n (pc' := 53) dX12_readsNumber_1.2.2.1.1 rfl rfl ?_
            refine zG_int (pc' := 56) fg_X12_123 tb0 rfl dX12_readsNumber_1.2.2.1.2 rfl ?_
            have e53 := hF.rh 0 26
            refine cvI2 (pc' := 59) kX12_wrongAt vX12_wrongAt lk_X12_136 ⟨Nat.le_of_ble_eq_true rfl, Nat.le_of_ble_eq_true rfl⟩ tb0 vq12 rfl rfl (s_X12_wrongAt hF.2.1 hF.2.2.1 hF.2.2.2 _ ⟨by omega, by omega⟩ _ ⟨by omega, by omega⟩) dX12_readsNumber_1.2.2.2.1 (Nat.le_of_ble_eq_true rfl) rfl ?_
            rintro r56 h ⟨hF1, p56⟩; replace hF := hF.tr hF1 rfl
            replace hPre : Pre15 κ h := hPre.fm hF1 (fun _ => rfl)
            have t56_0_26 := hF1.1 0 26 rfl rfl
            have t56_0_29 := hF1.1 0 29 rfl rfl
            have t56_0_31 := hF1.1 0 31 rfl rfl
            exact zV_zret rfl (by omega) dX12_readsNumber_1.2.2.2.2 ⟨hF, by refine ⟨by omega, by omega, by omega, by omega, hPre, ?_⟩; omega⟩
      · intro v3 h hF g0 gc0 gc1 gc2 gc3 hm
        have y27 := hF.1 0 27 rfl rfl
        have hPre := gc3
        refine zW_aload_n (pc' := 93) dX12_readsNumber_3.1.1.2.1 rfl rfl ?_
        refine zG_int (pc' := 96) fg_X12_148 tb0 rfl dX12_readsNumber_3.1.1.2.2 rfl ?_
        have e93 := hF.rh 0 29
        refine zW_iload_n (pc' := 97) dX12_readsNumber_3.1.2.1.1 rfl rfl ?_
        refine zW_iload_n (pc' := 98) dX12_readsNumber_3.1.2.1.2 rfl rfl ?_
        refine csI3 (pc' := 101) kX12_in vX12_in lk_X12_140 ⟨Nat.le_of_ble_eq_true rfl, Nat.le_of_ble_eq_true rfl⟩ rfl (s_X12_inR (b := bdB true) (κ := h) (Fr.rf hF.2.1) _ ⟨by omega, by omega⟩ _ ⟨by omega, by omega⟩ _ ⟨by omega, by omega⟩) dX12_readsNumber_3.1.2.2.1 (Nat.le_of_ble_eq_true rfl) rfl ?_
        rintro r98 z98 ⟨hz98, p98⟩; subst z98
        refine zV_if_ne (tgt := 111) (pc' := 104) dX12_readsNumber_3.1.2.2.2 rfl rfl ⟨by omega, by omega⟩ (fun c101 => ?_) (fun c101 => ?_)
        · refine zW_aload_n (pc' := 112) dX12_readsNumber_3.2.2.1.2 rfl rfl ?_
          refine zG_ref (pc' := 115) 15 fg_X12_54 tb0 rfl dX12_readsNumber_3.2.2.2.1 rfl ?_
          refine zW_aload_n (pc' := 116) dX12_readsNumber_3.2.2.2.2 rfl rfl ?_
          refine zG_int (pc' := 119) fg_X12_151 tb0 rfl dX12_readsNumber_4.1.1.1.1 rfl ?_
          have e116 := hF.rh 0 31
          refine zW_aload_n (pc' := 120) dX12_readsNumber_4.1.1.1.2 rfl rfl ?_
          refine zG_int (pc' := 123) fg_X12_148 tb0 rfl dX12_readsNumber_4.1.1.2 rfl ?_
          have e120 := hF.rh 0 29
          refine zSm (pc' := 124) hF rfl (fun v' hv he => ⟨(SI_irr hF.2.1 (Or.inl (key_of rfl _)) (fun _ _ => hv)), (KR_c15 hF.2.2.1 (by have := he ⟨by omega, by omega⟩; omega)), (KC_irr hF.2.2.2 rfl)⟩) tb15 (by omega) dX12_readsNumber_4.1.2.1.1 (by decide) rfl (fun h i123 hF a123 b123 w123 => ?_)
          replace hPre : Pre15 κ h := by rw [w123]; exact hPre.n (by omega)
          have t123_0_26 := congrFun (congrFun w123 0) 26
          rw [zwr_ne (Or.inl (by decide))] at t123_0_26
          have t123_0_29 := congrFun (congrFun w123 0) 29
          rw [zwr_ne (Or.inl (by decide))] at t123_0_29
          have t123_0_31 := congrFun (congrFun w123 0) 31
          rw [zwr_ne (Or.inl (by decide))] at t123_0_31
          have q123 : h 15 (κ 0 31).toNat = i123 := by rw [w123, ← gc1]; exact zwr_eq
          have q2 := b123 ⟨by omega, by omega⟩
          refine zW_aload_n (pc' := 125) dX12_readsNumber_4.1.2.1.2 rfl rfl ?_
          refine zW_aload_n (pc' := 126) dX12_readsNumber_4.1.2.2 rfl rfl ?_
          refine zG_int (pc' := 129) fg_X12_151 tb0 rfl dX12_readsNumber_4.2.1.1.1 rfl ?_
          have e126 := hF.rh 0 31
          refine zW_iconst (pc' := 130) dX12_readsNumber_4.2.1.1.2 rfl ?_
          refine zW_iadd (pc' := 131) dX12_readsNumber_4.2.1.2 rfl ?_
          refine zPm (pc' := 134) hF (Or.inl rfl) (SI_irr hF.2.1 (Or.inl rfl) (fun _ _ => ⟨by omega, by omega⟩)) (KR_irr hF.2.2.1 rfl) (KC_irr hF.2.2.2 rfl) fp_X12_151 tb0 rfl dX12_readsNumber_4.2.2.1.1 rfl (fun h hF w131 => ?_)
          replace hPre : Pre15 κ h := by rw [w131]; exact hPre.w (by decide)
          have t131_0_26 := congrFun (congrFun w131 0) 26
          rw [zwr_ne (Or.inr (by decide))] at t131_0_26
          have t131_0_29 := congrFun (congrFun w131 0) 29
          rw [zwr_ne (Or.inr (by decide))] at t131_0_29
          have t131_0_31 := congrFun (congrFun w131 0) 31
          rw [zwr_eq] at t131_0_31
          have q131 : h 15 (κ 0 31).toNat = i123 := by rw [w131, zwr_ne (Or.inl (by decide))]; exact q123
          refine zW_iconst (pc' := 135) dX12_readsNumber_4.2.2.1.2 rfl ?_
          exact zV_zret rfl (by omega) dX12_readsNumber_4.2.2.2 ⟨hF, by refine ⟨by omega, by omega, by omega, by omega, hPre, ?_⟩; omega⟩
        · refine zW_aload_n (pc' := 105) dX12_readsNumber_3.2.1.1.1 rfl rfl ?_
          refine zW_iconst (pc' := 106) dX12_readsNumber_3.2.1.1.2 rfl ?_
          refine zW_iload_n (pc' := 107) dX12_readsNumber_3.2.1.2.1 rfl rfl ?_
          refine cvI2 (pc' := 110) kX12_wrongAt vX12_wrongAt lk_X12_136 ⟨Nat.le_of_ble_eq_true rfl, Nat.le_of_ble_eq_true rfl⟩ tb0 vq12 rfl rfl (s_X12_wrongAt hF.2.1 hF.2.2.1 hF.2.2.2 _ ⟨by omega, by omega⟩ _ ⟨by omega, by omega⟩) dX12_readsNumber_3.2.1.2.2 (Nat.le_of_ble_eq_true rfl) rfl ?_
          rintro r107 h ⟨hF1, p107⟩; replace hF := hF.tr hF1 rfl
          replace hPre : Pre15 κ h := hPre.fm hF1 (fun _ => rfl)
          have t107_0_26 := hF1.1 0 26 rfl rfl
          have t107_0_29 := hF1.1 0 29 rfl rfl
          have t107_0_31 := hF1.1 0 31 rfl rfl
          exact zV_zret rfl (by omega) dX12_readsNumber_3.2.2.1.1 ⟨hF, by refine ⟨by omega, by omega, by omega, by omega, hPre, ?_⟩; omega⟩
  refine zM_of [some (.inr (.inr 0)), some (.inl x1), some (.inl x2), none] 1 rfl rfl (Nat.le_of_ble_eq_true rfl) rfl ?_
  refine (show ∀ h : Hp, Fm [(0, 26), (0, 28), (0, 29), (0, 31), (15, 999)] κ h → h = κ → zV G mX12_readsNumber (q_X12_readsNumber κ x1 x2) 0 [some (.inr (.inr 0)), some (.inl x1), some (.inl x2), none] [] h from fun h hF hk0 => ?_) κ (Fm.rf hS hR hC) rfl
  have y0_0_26 : h 0 26 = κ 0 26 := by rw [hk0]
  have y0_0_27 : h 0 27 = κ 0 27 := by rw [hk0]
  have y0_0_31 : h 0 31 = κ 0 31 := by rw [hk0]
  have hPre : Pre15 κ h := by rw [hk0]; exact Pre15.rf
  refine zW_aload_n (pc' := 1) dX12_readsNumber_0.1.1.1.1 rfl rfl ?_
  refine zG_int (pc' := 4) fg_X12_123 tb0 rfl dX12_readsNumber_0.1.1.1.2 rfl ?_
  have e1 := hF.rh 0 26
  refine zW_istore_n (ls' := [_, _, _, _]) (pc' := 5) dX12_readsNumber_0.1.1.2.1 (by decide) rfl rfl rfl ?_
  refine zW_aload_n (pc' := 6) dX12_readsNumber_0.1.1.2.2 rfl rfl ?_
  refine cvI0 (pc' := 9) kX12_here vX12_here lk_X12_132 ⟨Nat.le_of_ble_eq_true rfl, Nat.le_of_ble_eq_true rfl⟩ tb0 vq12 rfl rfl (s_X12_here (b := bdB true) (κ := h) hF.2.2.1 (Fr.rf hF.2.1) (by omega)) dX12_readsNumber_0.1.2.1.1 (Nat.le_of_ble_eq_true rfl) rfl ?_
  rintro r6 z6 ⟨hz6, p6⟩; subst z6
  have hr6 : r6 = HR (κ 12) (κ 0 26) (κ 0 27) := by rw [p6.2.2.2, hk0]
  refine csI1 (pc' := 12) kX12_isDigit vX12_isDigit lk_X12_144 ⟨Nat.le_of_ble_eq_true rfl, Nat.le_of_ble_eq_true rfl⟩ rfl (s_X12_isDigit (b := bdB true) (κ := h) (Fr.rf hF.2.1) _ ⟨by omega, by omega⟩) dX12_readsNumber_0.1.2.1.2 (Nat.le_of_ble_eq_true rfl) rfl ?_
  rintro r9 z9 ⟨hz9, p9⟩; subst z9
  refine zV_if_ne (tgt := 25) (pc' := 15) dX12_readsNumber_0.1.2.2.1 rfl rfl ⟨by omega, by omega⟩ (fun c12 => ?_) (fun c12 => ?_)
  · refine zW_aload_n (pc' := 26) dX12_readsNumber_0.2.2.1.2 rfl rfl ?_
    refine zW_iconst (pc' := 27) dX12_readsNumber_0.2.2.2.1 rfl ?_
    refine zPm (pc' := 30) hF (Or.inl rfl) (SI_irr hF.2.1 (Or.inl rfl) (fun _ _ => ⟨by omega, by omega⟩)) (KR_irr hF.2.2.1 rfl) (KC_irr hF.2.2.2 rfl) fp_X12_148 tb0 rfl dX12_readsNumber_0.2.2.2.2 rfl (fun h hF w27 => ?_)
    replace hPre : Pre15 κ h := by rw [w27]; exact hPre.w (by decide)
    have t27_0_26 := congrFun (congrFun w27 0) 26
    rw [zwr_ne (Or.inr (by decide))] at t27_0_26
    have t27_0_29 := congrFun (congrFun w27 0) 29
    rw [zwr_eq] at t27_0_29
    have t27_0_31 := congrFun (congrFun w27 0) 31
    rw [zwr_ne (Or.inr (by decide))] at t27_0_31
    exact (main 10000000000000000000000000000000000000000).1 _ _ hF (by omega) (by omega) (by omega) (by omega) (by omega) hPre (by omega) (by omega)
  · refine zW_aload_n (pc' := 16) dX12_readsNumber_0.1.2.2.2 rfl rfl ?_
    refine zW_iconst (pc' := 17) dX12_readsNumber_0.2.1.1.1 rfl ?_
    refine zW_aload_n (pc' := 18) dX12_readsNumber_0.2.1.1.2 rfl rfl ?_
    refine zG_int (pc' := 21) fg_X12_123 tb0 rfl dX12_readsNumber_0.2.1.2.1 rfl ?_
    have e18 := hF.rh 0 26
    refine cvI2 (pc' := 24) kX12_wrongAt vX12_wrongAt lk_X12_136 ⟨Nat.le_of_ble_eq_true rfl, Nat.le_of_ble_eq_true rfl⟩ tb0 vq12 rfl rfl (s_X12_wrongAt hF.2.1 hF.2.2.1 hF.2.2.2 _ ⟨by omega, by omega⟩ _ ⟨by omega, by omega⟩) dX12_readsNumber_0.2.1.2.2 (Nat.le_of_ble_eq_true rfl) rfl ?_
    rintro r21 h ⟨hF1, p21⟩; replace hF := hF.tr hF1 rfl
    replace hPre : Pre15 κ h := hPre.fm hF1 (fun _ => rfl)
    have t21_0_26 := hF1.1 0 26 rfl rfl
    have t21_0_29 := hF1.1 0 29 rfl rfl
    have t21_0_31 := hF1.1 0 31 rfl rfl
    exact zV_zret rfl (by omega) dX12_readsNumber_0.2.2.1.1 ⟨hF, by refine ⟨by omega, by omega, by omega, by omega, hPre, ?_⟩; omega⟩

abbrev q_X12_readsNext (κ : Hp) (x1 : Int) (x2 : Int) : Int → Hp → Prop := fun r h' => Fm [(0, 26), (0, 28), (0, 29), (0, 31), (15, 999)] κ h' ∧ ((0 ≤ r) ∧ (r ≤ 1) ∧ (κ 0 26 ≤ h' 0 26 ∧ h' 0 26 ≤ κ 0 27 ∧ Pre15 κ h' ∧ ((r = 1 ∧ h' 0 31 = κ 0 31 + 1 ∧ κ 0 26 + 1 < h' 0 26) ∨ (r = 0 ∧ h' 0 31 = κ 0 31))))
set_option maxHeartbeats 4000000 in
set_option maxRecDepth 20000 in
theorem s_X12_readsNext {G : Ga} {κ : Hp} (hS : SI κ) (hR : KR κ) (hC : KC κ) (x1 : Int) (hx1 : 0 ≤ x1 ∧ x1 ≤ 256) (x2 : Int) (hx2 : 0 ≤ x2 ∧ x2 ≤ 255) (hp : 0 ≤ κ 0 26 ∧ κ 0 26 ≤ κ 0 27 ∧ κ 0 27 ≤ 120) (hq : 0 ≤ κ 0 31 ∧ κ 0 31 ≤ κ 0 26) : zM G mX12_readsNext yX12_readsNext [.inr (.inr 0), .inl x1, .inl x2] κ (q_X12_readsNext κ x1 x2) := by
  refine zM_of [some (.inr (.inr 0)), some (.inl x1), some (.inl x2)] 0 rfl rfl (Nat.le_of_ble_eq_true rfl) rfl ?_
  refine (show ∀ h : Hp, Fm [(0, 26), (0, 28), (0, 29), (0, 31), (15, 999)] κ h → h = κ → zV G mX12_readsNext (q_X12_readsNext κ x1 x2) 0 [some (.inr (.inr 0)), some (.inl x1), some (.inl x2)] [] h from fun h hF hk0 => ?_) κ (Fm.rf hS hR hC) rfl
  have y0_0_26 : h 0 26 = κ 0 26 := by rw [hk0]
  have y0_0_27 : h 0 27 = κ 0 27 := by rw [hk0]
  have y0_0_31 : h 0 31 = κ 0 31 := by rw [hk0]
  have hPre : Pre15 κ h := by rw [hk0]; exact Pre15.rf
  refine zW_aload_n (pc' := 1) dX12_readsNext_0.1.1.1.1 rfl rfl ?_
  refine zW_bipush (pc' := 3) dX12_readsNext_0.1.1.1.2 rfl rfl ?_
  have y27 := hF.1 0 27 rfl rfl
  refine cvI1 (pc' := 6) kX12_takesSign vX12_takesSign lk_X12_154 ⟨Nat.le_of_ble_eq_true rfl, Nat.le_of_ble_eq_true rfl⟩ tb0 vq12 rfl rfl (s_X12_takesSign hF.2.1 hF.2.2.1 hF.2.2.2 _ ⟨by omega, by omega⟩ (by omega)) dX12_readsNext_0.1.1.2.1 (Nat.le_of_ble_eq_true rfl) rfl ?_
  rintro r3 h ⟨hF1, p3⟩; replace hF := hF.tr hF1 rfl
  replace hPre : Pre15 κ h := hPre.fm hF1 (fun _ => rfl)
  have t3_0_31 := hF1.1 0 31 rfl rfl
  refine zV_if_eq (tgt := 22) (pc' := 9) dX12_readsNext_0.1.1.2.2 rfl rfl ⟨by omega, by omega⟩ (fun c6 => ?_) (fun c6 => ?_)
  · refine zW_iconst (pc' := 23) dX12_readsNext_0.2.2.1.2 rfl ?_
    exact zV_zret rfl (by omega) dX12_readsNext_0.2.2.2 ⟨hF, by refine ⟨by omega, by omega, by omega, by omega, hPre, ?_⟩; omega⟩
  · refine zW_aload_n (pc' := 10) dX12_readsNext_0.1.2.1.1 rfl rfl ?_
    refine zW_iload_n (pc' := 11) dX12_readsNext_0.1.2.1.2 rfl rfl ?_
    refine zW_iload_n (pc' := 12) dX12_readsNext_0.1.2.2 rfl rfl ?_
    have y27 := hF.1 0 27 rfl rfl
    refine cvI2 (pc' := 15) kX12_readsNumber vX12_readsNumber lk_X12_157 ⟨Nat.le_of_ble_eq_true rfl, Nat.le_of_ble_eq_true rfl⟩ tb0 vq12 rfl rfl (s_X12_readsNumber hF.2.1 hF.2.2.1 hF.2.2.2 _ ⟨by omega, by omega⟩ _ ⟨by omega, by omega⟩ (by omega) (by omega)) dX12_readsNext_0.2.1.1.1 (Nat.le_of_ble_eq_true rfl) rfl ?_
    rintro r12 h ⟨hF1, p12⟩; replace hF := hF.tr hF1 rfl
    replace hPre : Pre15 κ h := hPre.tr p12.2.2.2.2.1 (by omega)
    refine zV_if_eq (tgt := 22) (pc' := 18) dX12_readsNext_0.2.1.1.2 rfl rfl ⟨by omega, by omega⟩ (fun c15 => ?_) (fun c15 => ?_)
    · refine zW_iconst (pc' := 23) dX12_readsNext_0.2.2.1.2 rfl ?_
      exact zV_zret rfl (by omega) dX12_readsNext_0.2.2.2 ⟨hF, by refine ⟨by omega, by omega, by omega, by omega, hPre, ?_⟩; omega⟩
    · refine zW_iconst (pc' := 19) dX12_readsNext_0.2.1.2 rfl ?_
      refine zV_goto 23 dX12_readsNext_0.2.2.1.1 rfl ?_
      exact zV_zret rfl (by omega) dX12_readsNext_0.2.2.2 ⟨hF, by refine ⟨by omega, by omega, by omega, by omega, hPre, ?_⟩; omega⟩

abbrev q_X12_readsCurve (κ : Hp)  : Int → Hp → Prop := fun r h' => Fm [(0, 26), (0, 28), (0, 29), (0, 31), (15, 999)] κ h' ∧ ((0 ≤ r) ∧ (r ≤ 1) ∧ (κ 0 26 ≤ h' 0 26 ∧ h' 0 26 ≤ κ 0 27 ∧ Pre15 κ h' ∧ κ 0 31 ≤ h' 0 31 ∧ h' 0 31 ≤ h' 0 26 ∧ (r = 1 → Cv h' (κ 0 31) (h' 0 31))))
set_option maxHeartbeats 4000000 in
set_option maxRecDepth 20000 in
theorem s_X12_readsCurve {G : Ga} {κ : Hp} (hS : SI κ) (hR : KR κ) (hC : KC κ) (hp : 0 ≤ κ 0 26 ∧ κ 0 26 ≤ κ 0 27 ∧ κ 0 27 ≤ 120) (hq : 0 ≤ κ 0 31 ∧ κ 0 31 ≤ κ 0 26) : zM G mX12_readsCurve yX12_readsCurve [.inr (.inr 0)] κ (q_X12_readsCurve κ) := by
  have main : ∀ N : Nat, (∀ (v1 : Int) (h : Hp), Fm [(0, 26), (0, 28), (0, 29), (0, 31), (15, 999)] κ h → (-1 ≤ v1 ∧ v1 ≤ 255) → (κ 0 26 ≤ h 0 26 ∧ h 0 26 ≤ κ 0 27) → (κ 0 31 ≤ h 0 31 ∧ h 0 31 ≤ h 0 26) → (Pre15 κ h) → (CvI h (κ 0 31) (h 0 31) v1) → 308112 + 49 * (κ 0 27 - h 0 26) + 48 < (N : Int) → zV G mX12_readsCurve (q_X12_readsCurve κ) 2 [some (.inr (.inr 0)), some (.inl v1)] [] h) := by
    intro N
    induction N with
    | zero =>
      intro v1 h hF g0 gc0 gc1 gc2 gc3 hm
      exfalso; omega
    | succ N ih =>
      have k2 := ih
      intro v1 h hF g0 gc0 gc1 gc2 gc3 hm
      have y27 := hF.1 0 27 rfl rfl
      have hPre := gc2
      obtain ⟨hA, eA⟩ : ∃ z : Hp, z = h := ⟨_, rfl⟩
      have hPA : Pre15 hA h := by rw [eA]; exact Pre15.rf
      have eA26 : hA 0 26 = h 0 26 := by rw [eA]
      have eA31 : hA 0 31 = h 0 31 := by rw [eA]
      have hcvA : CvI hA (κ 0 31) (hA 0 31) v1 := by rw [eA]; exact gc3
      refine zW_iload_n (pc' := 3) dX12_readsCurve_0.1.1.2.1 rfl rfl ?_
      refine zW_sipush (pc' := 6) dX12_readsCurve_0.1.1.2.2 rfl rfl ?_
      refine zV_cm_eq (tgt := 85) (pc' := 9) dX12_readsCurve_0.1.2.1.1 rfl rfl ⟨by omega, by omega⟩ ⟨by omega, by omega⟩ (fun c6 => ?_) (fun c6 => ?_)
      · refine zW_iconst (pc' := 86) dX12_readsCurve_2.2.2.2.2 rfl ?_
        exact zV_zret rfl (by omega) dX12_readsCurve_3 ⟨hF, by refine ⟨by omega, by omega, by omega, by omega, hPre, by omega, by omega, fun _ => (show CvI h (κ 0 31) (h 0 31) 255 from c6 ▸ gc3).end⟩⟩
      · refine zW_iload_n (pc' := 10) dX12_readsCurve_0.1.2.1.2 rfl rfl ?_
        refine zW_iconst (pc' := 11) dX12_readsCurve_0.1.2.2.1 rfl ?_
        refine zV_cm_eq (tgt := 25) (pc' := 14) dX12_readsCurve_0.1.2.2.2 rfl rfl ⟨by omega, by omega⟩ ⟨by omega, by omega⟩ (fun c11 => ?_) (fun c11 => ?_)
        · refine zW_aload_n (pc' := 26) dX12_readsCurve_0.2.2.2.1 rfl rfl ?_
          refine zW_iload_n (pc' := 27) dX12_readsCurve_0.2.2.2.2 rfl rfl ?_
          refine zW_iconst (pc' := 28) dX12_readsCurve_1.1.1.1.1 rfl ?_
          refine zV_cm_ne (tgt := 35) (pc' := 31) dX12_readsCurve_1.1.1.1.2 rfl rfl ⟨by omega, by omega⟩ ⟨by omega, by omega⟩ (fun c28 => ?_) (fun c28 => ?_)
          · exfalso; omega
          · refine zW_iconst (pc' := 32) dX12_readsCurve_1.1.1.2.1 rfl ?_
            refine zV_goto 38 dX12_readsCurve_1.1.1.2.2 rfl ?_
            refine zW_iload_n (pc' := 39) dX12_readsCurve_1.1.2.2.2 rfl rfl ?_
            refine zW_iconst (pc' := 40) dX12_readsCurve_1.2.1.1.1 rfl ?_
            refine zV_cm_ne (tgt := 47) (pc' := 43) dX12_readsCurve_1.2.1.1.2 rfl rfl ⟨by omega, by omega⟩ ⟨by omega, by omega⟩ (fun c40 => ?_) (fun c40 => ?_)
            · exfalso; omega
            · refine zW_iconst (pc' := 44) dX12_readsCurve_1.2.1.2.1 rfl ?_
              refine zV_goto 50 dX12_readsCurve_1.2.1.2.2 rfl ?_
              have y27 := hF.1 0 27 rfl rfl
              obtain ⟨hB, eB⟩ : ∃ z : Hp, z = h := ⟨_, rfl⟩
              have eB31 : hB 0 31 = hA 0 31 := by rw [eB]; omega
              have eB26 : hB 0 26 = h 0 26 := by rw [eB]
              have eB27 : hB 0 27 = h 0 27 := by rw [eB]
              refine cvI2 (pc' := 53) kX12_readsNumber vX12_readsNumber lk_X12_157 ⟨Nat.le_of_ble_eq_true rfl, Nat.le_of_ble_eq_true rfl⟩ tb0 vq12 rfl rfl (s_X12_readsNumber hF.2.1 hF.2.2.1 hF.2.2.2 _ ⟨by omega, by omega⟩ _ ⟨by omega, by omega⟩ (by omega) (by omega)) dX12_readsCurve_1.2.2.1.2 (Nat.le_of_ble_eq_true rfl) rfl ?_
              rintro r50 h ⟨hF1, p50⟩; replace hF := hF.tr hF1 rfl
              replace hPre : Pre15 κ h := hPre.tr p50.2.2.2.2.1 (by omega)
              replace hPA : Pre15 hA h := hPA.tr p50.2.2.2.2.1 (by omega)
              refine zV_if_ne (tgt := 58) (pc' := 56) dX12_readsCurve_1.2.2.2.1 rfl rfl ⟨by omega, by omega⟩ (fun c53 => ?_) (fun c53 => ?_)
              · rw [← eB] at p50
                have hv1 := (p50.2.2.2.2.2.resolve_right (fun q => by omega)).2.2.2.2.2
                rw [eB31] at hv1
                refine zW_aload_n (pc' := 59) dX12_readsCurve_2.1.1.1.2 rfl rfl ?_
                refine zG_int (pc' := 62) fg_X12_148 tb0 rfl dX12_readsCurve_2.1.1.2.1 rfl ?_
                have e59 := hF.rh 0 29
                refine zW_istore_n (ls' := [_, _]) (pc' := 63) dX12_readsCurve_2.1.1.2.2 (by decide) rfl rfl rfl ?_
                refine zW_aload_n (pc' := 64) dX12_readsCurve_2.1.2.1.1 rfl rfl ?_
                refine zW_bipush (pc' := 66) dX12_readsCurve_2.1.2.1.2 rfl rfl ?_
                have y27 := hF.1 0 27 rfl rfl
                refine cvI1 (pc' := 69) kX12_takesSign vX12_takesSign lk_X12_154 ⟨Nat.le_of_ble_eq_true rfl, Nat.le_of_ble_eq_true rfl⟩ tb0 vq12 rfl rfl (s_X12_takesSign hF.2.1 hF.2.2.1 hF.2.2.2 _ ⟨by omega, by omega⟩ (by omega)) dX12_readsCurve_2.1.2.2.1 (Nat.le_of_ble_eq_true rfl) rfl ?_
                rintro r66 h ⟨hF1, p66⟩; replace hF := hF.tr hF1 rfl
                replace hPre : Pre15 κ h := hPre.fm hF1 (fun _ => rfl)
                replace hPA : Pre15 hA h := hPA.fm hF1 (fun _ => rfl)
                have t66_0_31 := hF1.1 0 31 rfl rfl
                have t66_0_29 := hF1.1 0 29 rfl rfl
                have hv2 := (hF1.1 15 (hA 0 31).toNat rfl rfl).trans hv1
                refine zV_if_eq (tgt := 83) (pc' := 72) dX12_readsCurve_2.1.2.2.2 rfl rfl ⟨by omega, by omega⟩ (fun c69 => ?_) (fun c69 => ?_)
                · refine zW_iconst (pc' := 84) dX12_readsCurve_2.2.2.1.2 rfl ?_
                  exact zV_zret rfl (by omega) dX12_readsCurve_2.2.2.2.1 ⟨hF, by refine ⟨by omega, by omega, by omega, by omega, hPre, by omega, by omega, fun q => by omega⟩⟩
                · refine zW_aload_n (pc' := 73) dX12_readsCurve_2.2.1.1.1 rfl rfl ?_
                  refine zW_iconst (pc' := 74) dX12_readsCurve_2.2.1.1.2 rfl ?_
                  refine zW_sipush (pc' := 77) dX12_readsCurve_2.2.1.2.1 rfl rfl ?_
                  have y27 := hF.1 0 27 rfl rfl
                  refine cvI2 (pc' := 80) kX12_readsNumber vX12_readsNumber lk_X12_157 ⟨Nat.le_of_ble_eq_true rfl, Nat.le_of_ble_eq_true rfl⟩ tb0 vq12 rfl rfl (s_X12_readsNumber hF.2.1 hF.2.2.1 hF.2.2.2 _ ⟨by omega, by omega⟩ _ ⟨by omega, by omega⟩ (by omega) (by omega)) dX12_readsCurve_2.2.1.2.2 (Nat.le_of_ble_eq_true rfl) rfl ?_
                  rintro r77 h ⟨hF1, p77⟩; replace hF := hF.tr hF1 rfl
                  replace hPre : Pre15 κ h := hPre.tr p77.2.2.2.2.1 (by omega)
                  replace hPA : Pre15 hA h := hPA.tr p77.2.2.2.2.1 (by omega)
                  have hv3 := (p77.2.2.2.2.1 (hA 0 31).toNat (by omega)).trans hv2
                  have hcs := fun (q : r77 = 1) => CvI.step (h := hA) (h' := h) (a := κ 0 31) (b := hA 0 31) (by omega) hcvA (fun j hj => hPA j hj) hv3 (by omega)
                  refine zV_if_ne (tgt := 2) (pc' := 83) dX12_readsCurve_2.2.2.1.1 rfl rfl ⟨by omega, by omega⟩ (fun c80 => ?_) (fun c80 => ?_)
                  · exact k2 _ _ hF (by omega) (by omega) (by omega) hPre (by first | exact Or.inl ⟨rfl, by omega⟩ | (rw [show h 0 31 = hA 0 31 + 2 by omega]; exact hcs (by omega))) (by omega)
                  · refine zW_iconst (pc' := 84) dX12_readsCurve_2.2.2.1.2 rfl ?_
                    exact zV_zret rfl (by omega) dX12_readsCurve_2.2.2.2.1 ⟨hF, by refine ⟨by omega, by omega, by omega, by omega, hPre, by omega, by omega, fun q => by omega⟩⟩
              · refine zW_iconst (pc' := 57) dX12_readsCurve_1.2.2.2.2 rfl ?_
                exact zV_zret rfl (by omega) dX12_readsCurve_2.1.1.1.1 ⟨hF, by refine ⟨by omega, by omega, by omega, by omega, hPre, by omega, by omega, fun q => by omega⟩⟩
        · refine zW_aload_n (pc' := 15) dX12_readsCurve_0.2.1.1.1 rfl rfl ?_
          refine zW_bipush (pc' := 17) dX12_readsCurve_0.2.1.1.2 rfl rfl ?_
          have y27 := hF.1 0 27 rfl rfl
          refine cvI1 (pc' := 20) kX12_takesSign vX12_takesSign lk_X12_154 ⟨Nat.le_of_ble_eq_true rfl, Nat.le_of_ble_eq_true rfl⟩ tb0 vq12 rfl rfl (s_X12_takesSign hF.2.1 hF.2.2.1 hF.2.2.2 _ ⟨by omega, by omega⟩ (by omega)) dX12_readsCurve_0.2.1.2.1 (Nat.le_of_ble_eq_true rfl) rfl ?_
          rintro r17 h ⟨hF1, p17⟩; replace hF := hF.tr hF1 rfl
          replace hPre : Pre15 κ h := hPre.fm hF1 (fun _ => rfl)
          replace hPA : Pre15 hA h := hPA.fm hF1 (fun _ => rfl)
          have t17_0_31 := hF1.1 0 31 rfl rfl
          have t17_0_29 := hF1.1 0 29 rfl rfl
          refine zV_if_ne (tgt := 25) (pc' := 23) dX12_readsCurve_0.2.1.2.2 rfl rfl ⟨by omega, by omega⟩ (fun c20 => ?_) (fun c20 => ?_)
          · refine zW_aload_n (pc' := 26) dX12_readsCurve_0.2.2.2.1 rfl rfl ?_
            refine zW_iload_n (pc' := 27) dX12_readsCurve_0.2.2.2.2 rfl rfl ?_
            refine zW_iconst (pc' := 28) dX12_readsCurve_1.1.1.1.1 rfl ?_
            refine zV_cm_ne (tgt := 35) (pc' := 31) dX12_readsCurve_1.1.1.1.2 rfl rfl ⟨by omega, by omega⟩ ⟨by omega, by omega⟩ (fun c28 => ?_) (fun c28 => ?_)
            · refine zW_iload_n (pc' := 36) dX12_readsCurve_1.1.2.1.1 rfl rfl ?_
              refine zW_iconst (pc' := 37) dX12_readsCurve_1.1.2.1.2 rfl ?_
              refine zW_iadd (pc' := 38) dX12_readsCurve_1.1.2.2.1 rfl ?_
              refine zW_iload_n (pc' := 39) dX12_readsCurve_1.1.2.2.2 rfl rfl ?_
              refine zW_iconst (pc' := 40) dX12_readsCurve_1.2.1.1.1 rfl ?_
              refine zV_cm_ne (tgt := 47) (pc' := 43) dX12_readsCurve_1.2.1.1.2 rfl rfl ⟨by omega, by omega⟩ ⟨by omega, by omega⟩ (fun c40 => ?_) (fun c40 => ?_)
              · refine zW_sipush (pc' := 50) dX12_readsCurve_1.2.2.1.1 rfl rfl ?_
                have y27 := hF.1 0 27 rfl rfl
                obtain ⟨hB, eB⟩ : ∃ z : Hp, z = h := ⟨_, rfl⟩
                have eB31 : hB 0 31 = hA 0 31 := by rw [eB]; omega
                have eB26 : hB 0 26 = h 0 26 := by rw [eB]
                have eB27 : hB 0 27 = h 0 27 := by rw [eB]
                refine cvI2 (pc' := 53) kX12_readsNumber vX12_readsNumber lk_X12_157 ⟨Nat.le_of_ble_eq_true rfl, Nat.le_of_ble_eq_true rfl⟩ tb0 vq12 rfl rfl (s_X12_readsNumber hF.2.1 hF.2.2.1 hF.2.2.2 _ ⟨by omega, by omega⟩ _ ⟨by omega, by omega⟩ (by omega) (by omega)) dX12_readsCurve_1.2.2.1.2 (Nat.le_of_ble_eq_true rfl) rfl ?_
                rintro r50 h ⟨hF1, p50⟩; replace hF := hF.tr hF1 rfl
                replace hPre : Pre15 κ h := hPre.tr p50.2.2.2.2.1 (by omega)
                replace hPA : Pre15 hA h := hPA.tr p50.2.2.2.2.1 (by omega)
                refine zV_if_ne (tgt := 58) (pc' := 56) dX12_readsCurve_1.2.2.2.1 rfl rfl ⟨by omega, by omega⟩ (fun c53 => ?_) (fun c53 => ?_)
                · rw [← eB] at p50
                  have hv1 := (p50.2.2.2.2.2.resolve_right (fun q => by omega)).2.2.2.2.2
                  rw [eB31] at hv1
                  refine zW_aload_n (pc' := 59) dX12_readsCurve_2.1.1.1.2 rfl rfl ?_
                  refine zG_int (pc' := 62) fg_X12_148 tb0 rfl dX12_readsCurve_2.1.1.2.1 rfl ?_
                  have e59 := hF.rh 0 29
                  refine zW_istore_n (ls' := [_, _]) (pc' := 63) dX12_readsCurve_2.1.1.2.2 (by decide) rfl rfl rfl ?_
                  refine zW_aload_n (pc' := 64) dX12_readsCurve_2.1.2.1.1 rfl rfl ?_
                  refine zW_bipush (pc' := 66) dX12_readsCurve_2.1.2.1.2 rfl rfl ?_
                  have y27 := hF.1 0 27 rfl rfl
                  refine cvI1 (pc' := 69) kX12_takesSign vX12_takesSign lk_X12_154 ⟨Nat.le_of_ble_eq_true rfl, Nat.le_of_ble_eq_true rfl⟩ tb0 vq12 rfl rfl (s_X12_takesSign hF.2.1 hF.2.2.1 hF.2.2.2 _ ⟨by omega, by omega⟩ (by omega)) dX12_readsCurve_2.1.2.2.1 (Nat.le_of_ble_eq_true rfl) rfl ?_
                  rintro r66 h ⟨hF1, p66⟩; replace hF := hF.tr hF1 rfl
                  replace hPre : Pre15 κ h := hPre.fm hF1 (fun _ => rfl)
                  replace hPA : Pre15 hA h := hPA.fm hF1 (fun _ => rfl)
                  have t66_0_31 := hF1.1 0 31 rfl rfl
                  have t66_0_29 := hF1.1 0 29 rfl rfl
                  have hv2 := (hF1.1 15 (hA 0 31).toNat rfl rfl).trans hv1
                  refine zV_if_eq (tgt := 83) (pc' := 72) dX12_readsCurve_2.1.2.2.2 rfl rfl ⟨by omega, by omega⟩ (fun c69 => ?_) (fun c69 => ?_)
                  · refine zW_iconst (pc' := 84) dX12_readsCurve_2.2.2.1.2 rfl ?_
                    exact zV_zret rfl (by omega) dX12_readsCurve_2.2.2.2.1 ⟨hF, by refine ⟨by omega, by omega, by omega, by omega, hPre, by omega, by omega, fun q => by omega⟩⟩
                  · refine zW_aload_n (pc' := 73) dX12_readsCurve_2.2.1.1.1 rfl rfl ?_
                    refine zW_iconst (pc' := 74) dX12_readsCurve_2.2.1.1.2 rfl ?_
                    refine zW_sipush (pc' := 77) dX12_readsCurve_2.2.1.2.1 rfl rfl ?_
                    have y27 := hF.1 0 27 rfl rfl
                    refine cvI2 (pc' := 80) kX12_readsNumber vX12_readsNumber lk_X12_157 ⟨Nat.le_of_ble_eq_true rfl, Nat.le_of_ble_eq_true rfl⟩ tb0 vq12 rfl rfl (s_X12_readsNumber hF.2.1 hF.2.2.1 hF.2.2.2 _ ⟨by omega, by omega⟩ _ ⟨by omega, by omega⟩ (by omega) (by omega)) dX12_readsCurve_2.2.1.2.2 (Nat.le_of_ble_eq_true rfl) rfl ?_
                    rintro r77 h ⟨hF1, p77⟩; replace hF := hF.tr hF1 rfl
                    replace hPre : Pre15 κ h := hPre.tr p77.2.2.2.2.1 (by omega)
                    replace hPA : Pre15 hA h := hPA.tr p77.2.2.2.2.1 (by omega)
                    have hv3 := (p77.2.2.2.2.1 (hA 0 31).toNat (by omega)).trans hv2
                    have hcs := fun (q : r77 = 1) => CvI.step (h := hA) (h' := h) (a := κ 0 31) (b := hA 0 31) (by omega) hcvA (fun j hj => hPA j hj) hv3 (by omega)
                    refine zV_if_ne (tgt := 2) (pc' := 83) dX12_readsCurve_2.2.2.1.1 rfl rfl ⟨by omega, by omega⟩ (fun c80 => ?_) (fun c80 => ?_)
                    · exact k2 _ _ hF (by omega) (by omega) (by omega) hPre (by first | exact Or.inl ⟨rfl, by omega⟩ | (rw [show h 0 31 = hA 0 31 + 2 by omega]; exact hcs (by omega))) (by omega)
                    · refine zW_iconst (pc' := 84) dX12_readsCurve_2.2.2.1.2 rfl ?_
                      exact zV_zret rfl (by omega) dX12_readsCurve_2.2.2.2.1 ⟨hF, by refine ⟨by omega, by omega, by omega, by omega, hPre, by omega, by omega, fun q => by omega⟩⟩
                · refine zW_iconst (pc' := 57) dX12_readsCurve_1.2.2.2.2 rfl ?_
                  exact zV_zret rfl (by omega) dX12_readsCurve_2.1.1.1.1 ⟨hF, by refine ⟨by omega, by omega, by omega, by omega, hPre, by omega, by omega, fun q => by omega⟩⟩
              · exfalso; omega
            · exfalso; omega
          · refine zW_iconst (pc' := 24) dX12_readsCurve_0.2.2.1.1 rfl ?_
            exact zV_zret rfl (by omega) dX12_readsCurve_0.2.2.1.2 ⟨hF, by refine ⟨by omega, by omega, by omega, by omega, hPre, by omega, by omega, fun q => by omega⟩⟩
  refine zM_of [some (.inr (.inr 0)), none] 1 rfl rfl (Nat.le_of_ble_eq_true rfl) rfl ?_
  refine (show ∀ h : Hp, Fm [(0, 26), (0, 28), (0, 29), (0, 31), (15, 999)] κ h → h = κ → zV G mX12_readsCurve (q_X12_readsCurve κ) 0 [some (.inr (.inr 0)), none] [] h from fun h hF hk0 => ?_) κ (Fm.rf hS hR hC) rfl
  have y0_0_26 : h 0 26 = κ 0 26 := by rw [hk0]
  have y0_0_27 : h 0 27 = κ 0 27 := by rw [hk0]
  have y0_0_31 : h 0 31 = κ 0 31 := by rw [hk0]
  have hPre : Pre15 κ h := by rw [hk0]; exact Pre15.rf
  obtain ⟨hA, eA⟩ : ∃ z : Hp, z = h := ⟨_, rfl⟩
  have hPA : Pre15 hA h := by rw [eA]; exact Pre15.rf
  refine zW_iconst (pc' := 1) dX12_readsCurve_0.1.1.1.1 rfl ?_
  refine zW_istore_n (ls' := [_, _]) (pc' := 2) dX12_readsCurve_0.1.1.1.2 (by decide) rfl rfl rfl ?_
  exact (main 10000000000000000000000000000000000000000) _ _ hF (by omega) (by omega) (by omega) hPre (by first | exact Or.inl ⟨rfl, by omega⟩ | (rw [show h 0 31 = hA 0 31 + 2 by omega]; exact hcs (by omega))) (by omega)

abbrev q_X12_isFilledSoFar (κ h : Hp)  : Int → Hp → Prop := fun r h' => h' = h ∧ ((0 ≤ r) ∧ (r ≤ 1))
set_option maxHeartbeats 4000000 in
set_option maxRecDepth 20000 in
theorem s_X12_isFilledSoFar {G : Ga} {b : Bd} {κ h : Hp} (hK : KR κ) (hF : Fr b κ h) (hm0 : 0 ≤ κ 0 30 ∧ κ 0 30 ≤ 12) : zM G mX12_isFilledSoFar yX12_isFilledSoFar [.inr (.inr 0)] h (q_X12_isFilledSoFar κ h) := by
  have main : ∀ N : Nat, (∀ (v1 : Int) , (0 ≤ v1 ∧ v1 ≤ 12) → 4284 + 18 * (12 - v1) + 17 < (N : Int) → zV G mX12_isFilledSoFar (q_X12_isFilledSoFar κ h) 2 [some (.inr (.inr 0)), some (.inl v1)] [] h) := by
    intro N
    induction N with
    | zero =>
      intro v1 g0 hm
      exfalso; omega
    | succ N ih =>
      have k2 := ih
      intro v1 g0 hm
      refine zW_iload_n (pc' := 3) dX12_isFilledSoFar_0.1.1.2.1 rfl rfl ?_
      refine zW_aload_n (pc' := 4) dX12_isFilledSoFar_0.1.1.2.2 rfl rfl ?_
      refine zG_key (pc' := 7) hF rfl fg_X12_167 tb0 rfl dX12_isFilledSoFar_0.1.2.1.1 rfl ?_
      have e4 := hF.rk (k := 0) (i := 30) rfl (by decide) (by decide)
      refine zV_cm_ge (tgt := 29) (pc' := 10) dX12_isFilledSoFar_0.1.2.1.2 rfl rfl ⟨by omega, by omega⟩ ⟨by omega, by omega⟩ (fun c7 => ?_) (fun c7 => ?_)
      · refine zW_iconst (pc' := 30) dX12_isFilledSoFar_1.1 rfl ?_
        exact zV_zret rfl (by omega) dX12_isFilledSoFar_1.2 ⟨rfl, by omega⟩
      · refine zW_aload_n (pc' := 11) dX12_isFilledSoFar_0.1.2.2.1 rfl rfl ?_
        refine zG_ref (pc' := 14) 13 fg_X12_48 tb0 rfl dX12_isFilledSoFar_0.1.2.2.2 rfl ?_
        refine zW_iload_n (pc' := 15) dX12_isFilledSoFar_0.2.1.1.1 rfl rfl ?_
        refine zA_keyI (pc' := 16) hF rfl (by decide) (by decide) tb13 (by omega) dX12_isFilledSoFar_0.2.1.1.2 (by decide) rfl (fun e15 => ?_)
        refine zW_bipush (pc' := 18) dX12_isFilledSoFar_0.2.1.2.1 rfl rfl ?_
        refine zV_cm_ne (tgt := 23) (pc' := 21) dX12_isFilledSoFar_0.2.1.2.2 rfl rfl ⟨by omega, by omega⟩ ⟨by omega, by omega⟩ (fun c18 => ?_) (fun c18 => ?_)
        · refine zW_iinc (ls' := [_, _]) (pc' := 26) dX12_isFilledSoFar_0.2.2.2.1 rfl (by decide) rfl rfl rfl ?_
          refine zV_goto 2 dX12_isFilledSoFar_0.2.2.2.2 rfl ?_
          exact k2 _ (by omega) (by omega)
        · refine zW_iconst (pc' := 22) dX12_isFilledSoFar_0.2.2.1.1 rfl ?_
          exact zV_zret rfl (by omega) dX12_isFilledSoFar_0.2.2.1.2 ⟨rfl, by omega⟩
  refine zM_of [some (.inr (.inr 0)), none] 1 rfl rfl (Nat.le_of_ble_eq_true rfl) rfl ?_
  refine zW_iconst (pc' := 1) dX12_isFilledSoFar_0.1.1.1.1 rfl ?_
  refine zW_istore_n (ls' := [_, _]) (pc' := 2) dX12_isFilledSoFar_0.1.1.1.2 (by decide) rfl rfl rfl ?_
  exact (main 10000000000000000000000000000000000000000) _ (by omega) (by omega)

abbrev q_X12_readsNumbers (κ : Hp) (x1 : Int) : Int → Hp → Prop := fun r h' => Fm [(0, 26), (0, 28), (0, 29), (0, 31), (15, 999)] κ h' ∧ ((0 ≤ r) ∧ (r ≤ 1) ∧ (κ 0 26 ≤ h' 0 26 ∧ h' 0 26 ≤ κ 0 27 ∧ Pre15 κ h' ∧ κ 0 31 ≤ h' 0 31 ∧ h' 0 31 ≤ h' 0 26 ∧ (r = 1 → κ 0 31 < h' 0 31 ∧ (x1 = 111 ∨ x1 = 112 → 1 ≤ h' 15 (κ 0 31).toNat ∧ h' 15 (κ 0 31).toNat ≤ 4) ∧ (x1 = 116 → Cv h' (κ 0 31) (h' 0 31)))))
set_option maxHeartbeats 4000000 in
set_option maxRecDepth 20000 in
theorem s_X12_readsNumbers {G : Ga} {κ : Hp} (hS : SI κ) (hR : KR κ) (hC : KC κ) (x1 : Int) (hx1 : 0 ≤ x1 ∧ x1 ≤ 255) (hp : 0 ≤ κ 0 26 ∧ κ 0 26 ≤ κ 0 27 ∧ κ 0 27 ≤ 120) (hq : 0 ≤ κ 0 31 ∧ κ 0 31 ≤ κ 0 26) : zM G mX12_readsNumbers yX12_readsNumbers [.inr (.inr 0), .inl x1] κ (q_X12_readsNumbers κ x1) := by
  refine zM_of [some (.inr (.inr 0)), some (.inl x1)] 0 rfl rfl (Nat.le_of_ble_eq_true rfl) rfl ?_
  refine (show ∀ h : Hp, Fm [(0, 26), (0, 28), (0, 29), (0, 31), (15, 999)] κ h → h = κ → zV G mX12_readsNumbers (q_X12_readsNumbers κ x1) 0 [some (.inr (.inr 0)), some (.inl x1)] [] h from fun h hF hk0 => ?_) κ (Fm.rf hS hR hC) rfl
  have y0_0_26 : h 0 26 = κ 0 26 := by rw [hk0]
  have y0_0_27 : h 0 27 = κ 0 27 := by rw [hk0]
  have y0_0_31 : h 0 31 = κ 0 31 := by rw [hk0]
  have hPre : Pre15 κ h := by rw [hk0]; exact Pre15.rf
  refine zW_iload_n (pc' := 1) dX12_readsNumbers_0.1.1.1.1 rfl rfl ?_
  refine zW_tsw2 (fun z t => (z = 98 ∧ t = 112) ∨ (z = 100 ∧ t = 112) ∨ (z = 102 ∧ t = 128) ∨ (z = 103 ∧ t = 195) ∨ (z = 104 ∧ t = 142) ∨ (z = 108 ∧ t = 151) ∨ (z = 109 ∧ t = 151) ∨ (z = 110 ∧ t = 256) ∨ (z = 111 ∧ t = 121) ∨ (z = 112 ∧ t = 231) ∨ (z = 115 ∧ t = 256) ∨ (z = 118 ∧ t = 135) ∨ (z = 119 ∧ t = 112) ∨ (z = 121 ∧ t = 159) ∨ (t = 282 ∧ z ≠ 111 ∧ z ≠ 112)) (fun z => if z = 98 then 112 else if z = 100 then 112 else if z = 102 then 128 else if z = 103 then 195 else if z = 104 then 142 else if z = 108 then 151 else if z = 109 then 151 else if z = 110 then 256 else if z = 111 then 121 else if z = 112 then 231 else if z = 115 then 256 else if z = 118 then 135 else if z = 119 then 112 else if z = 121 then 159 else 282) dX12_readsNumbers_0.1.1.1.2 ⟨by omega, by omega⟩ (tsw_ok (pc := 1) (lo := 98) (offs := #[111, 281, 111, 281, 127, 194, 141, 281, 281, 281, 150, 150, 255, 120, 230, 281, 281, 255, 281, 281, 134, 111, 281, 158]) (tg := fun z => if z = 98 then 112 else if z = 100 then 112 else if z = 102 then 128 else if z = 103 then 195 else if z = 104 then 142 else if z = 108 then 151 else if z = 109 then 151 else if z = 110 then 256 else if z = 111 then 121 else if z = 112 then 231 else if z = 115 then 256 else if z = 118 then 135 else if z = 119 then 112 else if z = 121 then 159 else 282) (by decide +kernel)) rfl (by decide +kernel) (td := 282) rfl (fun c1 => ?_) (fun t1 w1 => ?_)
  · refine zW_aload_n (pc' := 283) dX12_readsNumbers_6.1.2 rfl rfl ?_
    have y27 := hF.1 0 27 rfl rfl
    obtain ⟨hB, eB⟩ : ∃ z : Hp, z = h := ⟨_, rfl⟩
    have eB31 : hB 0 31 = κ 0 31 := by rw [eB, hk0]
    have eB26 : hB 0 26 = κ 0 26 := by rw [eB, hk0]
    have eB27 : hB 0 27 = κ 0 27 := by rw [eB, hk0]
    refine cvI0 (pc' := 286) kX12_readsCurve vX12_readsCurve lk_X12_163 ⟨Nat.le_of_ble_eq_true rfl, Nat.le_of_ble_eq_true rfl⟩ tb0 vq12 rfl rfl (s_X12_readsCurve hF.2.1 hF.2.2.1 hF.2.2.2 (by omega) (by omega)) dX12_readsNumbers_6.2.1 (Nat.le_of_ble_eq_true rfl) rfl ?_
    rintro r283 h ⟨hF1, p283⟩; replace hF := hF.tr hF1 rfl
    replace hPre : Pre15 κ h := hPre.tr p283.2.2.2.2.1 (by omega)
    rw [← eB] at p283
    have hcv := p283.2.2.2.2.2.2.2
    rw [eB31] at hcv
    exact zV_zret rfl (by omega) dX12_readsNumbers_6.2.2 ⟨hF, by refine ⟨by omega, by omega, by omega, by omega, hPre, by omega, by omega, fun q => ⟨?_, fun z => absurd z (by omega), fun _ => hcv q⟩⟩; have := (hcv q).1; omega⟩
  · rcases w1 with ⟨s98, rfl⟩ | ⟨s100, rfl⟩ | ⟨s102, rfl⟩ | ⟨s103, rfl⟩ | ⟨s104, rfl⟩ | ⟨s108, rfl⟩ | ⟨s109, rfl⟩ | ⟨s110, rfl⟩ | ⟨s111, rfl⟩ | ⟨s112, rfl⟩ | ⟨s115, rfl⟩ | ⟨s118, rfl⟩ | ⟨s119, rfl⟩ | ⟨s121, rfl⟩ | ⟨rfl, n111, n112⟩
    · refine zW_aload_n (pc' := 113) dX12_readsNumbers_0.1.1.2.1 rfl rfl ?_
      refine zW_iconst (pc' := 114) dX12_readsNumbers_0.1.1.2.2 rfl ?_
      refine zW_sipush (pc' := 117) dX12_readsNumbers_0.1.2.1.1 rfl rfl ?_
      have y27 := hF.1 0 27 rfl rfl
      refine cvI2 (pc' := 120) kX12_readsNumber vX12_readsNumber lk_X12_157 ⟨Nat.le_of_ble_eq_true rfl, Nat.le_of_ble_eq_true rfl⟩ tb0 vq12 rfl rfl (s_X12_readsNumber hF.2.1 hF.2.2.1 hF.2.2.2 _ ⟨by omega, by omega⟩ _ ⟨by omega, by omega⟩ (by omega) (by omega)) dX12_readsNumbers_0.1.2.1.2 (Nat.le_of_ble_eq_true rfl) rfl ?_
      rintro r117 h ⟨hF1, p117⟩; replace hF := hF.tr hF1 rfl
      replace hPre : Pre15 κ h := hPre.tr p117.2.2.2.2.1 (by omega)
      exact zV_zret rfl (by omega) dX12_readsNumbers_0.1.2.2.1 ⟨hF, by refine ⟨by omega, by omega, by omega, by omega, hPre, by omega, by omega, fun q => ⟨by omega, fun z => absurd z (by omega), fun z => absurd z (by omega)⟩⟩⟩
    · refine zW_aload_n (pc' := 113) dX12_readsNumbers_0.1.1.2.1 rfl rfl ?_
      refine zW_iconst (pc' := 114) dX12_readsNumbers_0.1.1.2.2 rfl ?_
      refine zW_sipush (pc' := 117) dX12_readsNumbers_0.1.2.1.1 rfl rfl ?_
      have y27 := hF.1 0 27 rfl rfl
      refine cvI2 (pc' := 120) kX12_readsNumber vX12_readsNumber lk_X12_157 ⟨Nat.le_of_ble_eq_true rfl, Nat.le_of_ble_eq_true rfl⟩ tb0 vq12 rfl rfl (s_X12_readsNumber hF.2.1 hF.2.2.1 hF.2.2.2 _ ⟨by omega, by omega⟩ _ ⟨by omega, by omega⟩ (by omega) (by omega)) dX12_readsNumbers_0.1.2.1.2 (Nat.le_of_ble_eq_true rfl) rfl ?_
      rintro r117 h ⟨hF1, p117⟩; replace hF := hF.tr hF1 rfl
      replace hPre : Pre15 κ h := hPre.tr p117.2.2.2.2.1 (by omega)
      exact zV_zret rfl (by omega) dX12_readsNumbers_0.1.2.2.1 ⟨hF, by refine ⟨by omega, by omega, by omega, by omega, hPre, by omega, by omega, fun q => ⟨by omega, fun z => absurd z (by omega), fun z => absurd z (by omega)⟩⟩⟩
    · refine zW_aload_n (pc' := 129) dX12_readsNumbers_0.2.2.1.1 rfl rfl ?_
      refine zW_iconst (pc' := 130) dX12_readsNumbers_0.2.2.1.2 rfl ?_
      refine zW_iconst (pc' := 131) dX12_readsNumbers_0.2.2.2.1 rfl ?_
      have y27 := hF.1 0 27 rfl rfl
      refine cvI2 (pc' := 134) kX12_readsNumber vX12_readsNumber lk_X12_157 ⟨Nat.le_of_ble_eq_true rfl, Nat.le_of_ble_eq_true rfl⟩ tb0 vq12 rfl rfl (s_X12_readsNumber hF.2.1 hF.2.2.1 hF.2.2.2 _ ⟨by omega, by omega⟩ _ ⟨by omega, by omega⟩ (by omega) (by omega)) dX12_readsNumbers_0.2.2.2.2 (Nat.le_of_ble_eq_true rfl) rfl ?_
      rintro r131 h ⟨hF1, p131⟩; replace hF := hF.tr hF1 rfl
      replace hPre : Pre15 κ h := hPre.tr p131.2.2.2.2.1 (by omega)
      exact zV_zret rfl (by omega) dX12_readsNumbers_1.1.1.1.1 ⟨hF, by refine ⟨by omega, by omega, by omega, by omega, hPre, by omega, by omega, fun q => ⟨by omega, fun z => absurd z (by omega), fun z => absurd z (by omega)⟩⟩⟩
    · refine zW_aload_n (pc' := 196) dX12_readsNumbers_3.1.1.2.2 rfl rfl ?_
      refine zW_iconst (pc' := 197) dX12_readsNumbers_3.1.2.1.1 rfl ?_
      refine zW_bipush (pc' := 199) dX12_readsNumbers_3.1.2.1.2 rfl rfl ?_
      have y27 := hF.1 0 27 rfl rfl
      refine cvI2 (pc' := 202) kX12_readsNumber vX12_readsNumber lk_X12_157 ⟨Nat.le_of_ble_eq_true rfl, Nat.le_of_ble_eq_true rfl⟩ tb0 vq12 rfl rfl (s_X12_readsNumber hF.2.1 hF.2.2.1 hF.2.2.2 _ ⟨by omega, by omega⟩ _ ⟨by omega, by omega⟩ (by omega) (by omega)) dX12_readsNumbers_3.1.2.2.1 (Nat.le_of_ble_eq_true rfl) rfl ?_
      rintro r199 h ⟨hF1, p199⟩; replace hF := hF.tr hF1 rfl
      replace hPre : Pre15 κ h := hPre.tr p199.2.2.2.2.1 (by omega)
      refine zV_if_eq (tgt := 229) (pc' := 205) dX12_readsNumbers_3.1.2.2.2 rfl rfl ⟨by omega, by omega⟩ (fun c202 => ?_) (fun c202 => ?_)
      · refine zW_iconst (pc' := 230) dX12_readsNumbers_4.1.2.1.1 rfl ?_
        exact zV_zret rfl (by omega) dX12_readsNumbers_4.1.2.1.2 ⟨hF, by refine ⟨by omega, by omega, by omega, by omega, hPre, by omega, by omega, fun q => ⟨by omega, fun z => absurd z (by omega), fun z => absurd z (by omega)⟩⟩⟩
      · refine zW_aload_n (pc' := 206) dX12_readsNumbers_3.2.1.1.1 rfl rfl ?_
        refine zW_iconst (pc' := 207) dX12_readsNumbers_3.2.1.1.2 rfl ?_
        refine zW_bipush (pc' := 209) dX12_readsNumbers_3.2.1.2.1 rfl rfl ?_
        have y27 := hF.1 0 27 rfl rfl
        refine cvI2 (pc' := 212) kX12_readsNext vX12_readsNext lk_X12_160 ⟨Nat.le_of_ble_eq_true rfl, Nat.le_of_ble_eq_true rfl⟩ tb0 vq12 rfl rfl (s_X12_readsNext hF.2.1 hF.2.2.1 hF.2.2.2 _ ⟨by omega, by omega⟩ _ ⟨by omega, by omega⟩ (by omega) (by omega)) dX12_readsNumbers_3.2.1.2.2 (Nat.le_of_ble_eq_true rfl) rfl ?_
        rintro r209 h ⟨hF1, p209⟩; replace hF := hF.tr hF1 rfl
        replace hPre : Pre15 κ h := hPre.tr p209.2.2.2.2.1 (by omega)
        refine zV_if_eq (tgt := 229) (pc' := 215) dX12_readsNumbers_3.2.2.1.1 rfl rfl ⟨by omega, by omega⟩ (fun c212 => ?_) (fun c212 => ?_)
        · refine zW_iconst (pc' := 230) dX12_readsNumbers_4.1.2.1.1 rfl ?_
          exact zV_zret rfl (by omega) dX12_readsNumbers_4.1.2.1.2 ⟨hF, by refine ⟨by omega, by omega, by omega, by omega, hPre, by omega, by omega, fun q => ⟨by omega, fun z => absurd z (by omega), fun z => absurd z (by omega)⟩⟩⟩
        · refine zW_aload_n (pc' := 216) dX12_readsNumbers_3.2.2.1.2 rfl rfl ?_
          refine zW_iconst (pc' := 217) dX12_readsNumbers_3.2.2.2.1 rfl ?_
          refine zW_bipush (pc' := 219) dX12_readsNumbers_3.2.2.2.2 rfl rfl ?_
          have y27 := hF.1 0 27 rfl rfl
          refine cvI2 (pc' := 222) kX12_readsNext vX12_readsNext lk_X12_160 ⟨Nat.le_of_ble_eq_true rfl, Nat.le_of_ble_eq_true rfl⟩ tb0 vq12 rfl rfl (s_X12_readsNext hF.2.1 hF.2.2.1 hF.2.2.2 _ ⟨by omega, by omega⟩ _ ⟨by omega, by omega⟩ (by omega) (by omega)) dX12_readsNumbers_4.1.1.1.1 (Nat.le_of_ble_eq_true rfl) rfl ?_
          rintro r219 h ⟨hF1, p219⟩; replace hF := hF.tr hF1 rfl
          replace hPre : Pre15 κ h := hPre.tr p219.2.2.2.2.1 (by omega)
          refine zV_if_eq (tgt := 229) (pc' := 225) dX12_readsNumbers_4.1.1.1.2 rfl rfl ⟨by omega, by omega⟩ (fun c222 => ?_) (fun c222 => ?_)
          · refine zW_iconst (pc' := 230) dX12_readsNumbers_4.1.2.1.1 rfl ?_
            exact zV_zret rfl (by omega) dX12_readsNumbers_4.1.2.1.2 ⟨hF, by refine ⟨by omega, by omega, by omega, by omega, hPre, by omega, by omega, fun q => ⟨by omega, fun z => absurd z (by omega), fun z => absurd z (by omega)⟩⟩⟩
          · refine zW_iconst (pc' := 226) dX12_readsNumbers_4.1.1.2.1 rfl ?_
            refine zV_goto 230 dX12_readsNumbers_4.1.1.2.2 rfl ?_
            exact zV_zret rfl (by omega) dX12_readsNumbers_4.1.2.1.2 ⟨hF, by refine ⟨by omega, by omega, by omega, by omega, hPre, by omega, by omega, fun q => ⟨by omega, fun z => absurd z (by omega), fun z => absurd z (by omega)⟩⟩⟩
    · refine zW_aload_n (pc' := 143) dX12_readsNumbers_1.1.2.2.1 rfl rfl ?_
      refine zW_iconst (pc' := 144) dX12_readsNumbers_1.1.2.2.2 rfl ?_
      refine zW_sipush (pc' := 147) dX12_readsNumbers_1.2.1.1.1 rfl rfl ?_
      have y27 := hF.1 0 27 rfl rfl
      refine cvI2 (pc' := 150) kX12_readsNumber vX12_readsNumber lk_X12_157 ⟨Nat.le_of_ble_eq_true rfl, Nat.le_of_ble_eq_true rfl⟩ tb0 vq12 rfl rfl (s_X12_readsNumber hF.2.1 hF.2.2.1 hF.2.2.2 _ ⟨by omega, by omega⟩ _ ⟨by omega, by omega⟩ (by omega) (by omega)) dX12_readsNumbers_1.2.1.1.2 (Nat.le_of_ble_eq_true rfl) rfl ?_
      rintro r147 h ⟨hF1, p147⟩; replace hF := hF.tr hF1 rfl
      replace hPre : Pre15 κ h := hPre.tr p147.2.2.2.2.1 (by omega)
      exact zV_zret rfl (by omega) dX12_readsNumbers_1.2.1.2.1 ⟨hF, by refine ⟨by omega, by omega, by omega, by omega, hPre, by omega, by omega, fun q => ⟨by omega, fun z => absurd z (by omega), fun z => absurd z (by omega)⟩⟩⟩
    · refine zW_aload_n (pc' := 152) dX12_readsNumbers_1.2.1.2.2 rfl rfl ?_
      refine zW_iconst (pc' := 153) dX12_readsNumbers_1.2.2.1.1 rfl ?_
      refine zW_bipush (pc' := 155) dX12_readsNumbers_1.2.2.1.2 rfl rfl ?_
      have y27 := hF.1 0 27 rfl rfl
      refine cvI2 (pc' := 158) kX12_readsNumber vX12_readsNumber lk_X12_157 ⟨Nat.le_of_ble_eq_true rfl, Nat.le_of_ble_eq_true rfl⟩ tb0 vq12 rfl rfl (s_X12_readsNumber hF.2.1 hF.2.2.1 hF.2.2.2 _ ⟨by omega, by omega⟩ _ ⟨by omega, by omega⟩ (by omega) (by omega)) dX12_readsNumbers_1.2.2.2.1 (Nat.le_of_ble_eq_true rfl) rfl ?_
      rintro r155 h ⟨hF1, p155⟩; replace hF := hF.tr hF1 rfl
      replace hPre : Pre15 κ h := hPre.tr p155.2.2.2.2.1 (by omega)
      exact zV_zret rfl (by omega) dX12_readsNumbers_1.2.2.2.2 ⟨hF, by refine ⟨by omega, by omega, by omega, by omega, hPre, by omega, by omega, fun q => ⟨by omega, fun z => absurd z (by omega), fun z => absurd z (by omega)⟩⟩⟩
    · refine zW_aload_n (pc' := 152) dX12_readsNumbers_1.2.1.2.2 rfl rfl ?_
      refine zW_iconst (pc' := 153) dX12_readsNumbers_1.2.2.1.1 rfl ?_
      refine zW_bipush (pc' := 155) dX12_readsNumbers_1.2.2.1.2 rfl rfl ?_
      have y27 := hF.1 0 27 rfl rfl
      refine cvI2 (pc' := 158) kX12_readsNumber vX12_readsNumber lk_X12_157 ⟨Nat.le_of_ble_eq_true rfl, Nat.le_of_ble_eq_true rfl⟩ tb0 vq12 rfl rfl (s_X12_readsNumber hF.2.1 hF.2.2.1 hF.2.2.2 _ ⟨by omega, by omega⟩ _ ⟨by omega, by omega⟩ (by omega) (by omega)) dX12_readsNumbers_1.2.2.2.1 (Nat.le_of_ble_eq_true rfl) rfl ?_
      rintro r155 h ⟨hF1, p155⟩; replace hF := hF.tr hF1 rfl
      replace hPre : Pre15 κ h := hPre.tr p155.2.2.2.2.1 (by omega)
      exact zV_zret rfl (by omega) dX12_readsNumbers_1.2.2.2.2 ⟨hF, by refine ⟨by omega, by omega, by omega, by omega, hPre, by omega, by omega, fun q => ⟨by omega, fun z => absurd z (by omega), fun z => absurd z (by omega)⟩⟩⟩
    · refine zW_aload_n (pc' := 257) dX12_readsNumbers_5.1.2.1.1 rfl rfl ?_
      refine zW_iconst (pc' := 258) dX12_readsNumbers_5.1.2.1.2 rfl ?_
      refine zW_bipush (pc' := 260) dX12_readsNumbers_5.1.2.2.1 rfl rfl ?_
      have y27 := hF.1 0 27 rfl rfl
      refine cvI2 (pc' := 263) kX12_readsNumber vX12_readsNumber lk_X12_157 ⟨Nat.le_of_ble_eq_true rfl, Nat.le_of_ble_eq_true rfl⟩ tb0 vq12 rfl rfl (s_X12_readsNumber hF.2.1 hF.2.2.1 hF.2.2.2 _ ⟨by omega, by omega⟩ _ ⟨by omega, by omega⟩ (by omega) (by omega)) dX12_readsNumbers_5.1.2.2.2 (Nat.le_of_ble_eq_true rfl) rfl ?_
      rintro r260 h ⟨hF1, p260⟩; replace hF := hF.tr hF1 rfl
      replace hPre : Pre15 κ h := hPre.tr p260.2.2.2.2.1 (by omega)
      refine zV_if_eq (tgt := 280) (pc' := 266) dX12_readsNumbers_5.2.1.1.1 rfl rfl ⟨by omega, by omega⟩ (fun c263 => ?_) (fun c263 => ?_)
      · refine zW_iconst (pc' := 281) dX12_readsNumbers_6.1.1.1 rfl ?_
        exact zV_zret rfl (by omega) dX12_readsNumbers_6.1.1.2 ⟨hF, by refine ⟨by omega, by omega, by omega, by omega, hPre, by omega, by omega, fun q => ⟨by omega, fun z => absurd z (by omega), fun z => absurd z (by omega)⟩⟩⟩
      · refine zW_aload_n (pc' := 267) dX12_readsNumbers_5.2.1.1.2 rfl rfl ?_
        refine zW_iconst (pc' := 268) dX12_readsNumbers_5.2.1.2.1 rfl ?_
        refine zW_bipush (pc' := 270) dX12_readsNumbers_5.2.1.2.2 rfl rfl ?_
        have y27 := hF.1 0 27 rfl rfl
        refine cvI2 (pc' := 273) kX12_readsNext vX12_readsNext lk_X12_160 ⟨Nat.le_of_ble_eq_true rfl, Nat.le_of_ble_eq_true rfl⟩ tb0 vq12 rfl rfl (s_X12_readsNext hF.2.1 hF.2.2.1 hF.2.2.2 _ ⟨by omega, by omega⟩ _ ⟨by omega, by omega⟩ (by omega) (by omega)) dX12_readsNumbers_5.2.2.1.1 (Nat.le_of_ble_eq_true rfl) rfl ?_
        rintro r270 h ⟨hF1, p270⟩; replace hF := hF.tr hF1 rfl
        replace hPre : Pre15 κ h := hPre.tr p270.2.2.2.2.1 (by omega)
        refine zV_if_eq (tgt := 280) (pc' := 276) dX12_readsNumbers_5.2.2.1.2 rfl rfl ⟨by omega, by omega⟩ (fun c273 => ?_) (fun c273 => ?_)
        · refine zW_iconst (pc' := 281) dX12_readsNumbers_6.1.1.1 rfl ?_
          exact zV_zret rfl (by omega) dX12_readsNumbers_6.1.1.2 ⟨hF, by refine ⟨by omega, by omega, by omega, by omega, hPre, by omega, by omega, fun q => ⟨by omega, fun z => absurd z (by omega), fun z => absurd z (by omega)⟩⟩⟩
        · refine zW_iconst (pc' := 277) dX12_readsNumbers_5.2.2.2.1 rfl ?_
          refine zV_goto 281 dX12_readsNumbers_5.2.2.2.2 rfl ?_
          exact zV_zret rfl (by omega) dX12_readsNumbers_6.1.1.2 ⟨hF, by refine ⟨by omega, by omega, by omega, by omega, hPre, by omega, by omega, fun q => ⟨by omega, fun z => absurd z (by omega), fun z => absurd z (by omega)⟩⟩⟩
    · refine zW_aload_n (pc' := 122) dX12_readsNumbers_0.1.2.2.2 rfl rfl ?_
      refine zW_iconst (pc' := 123) dX12_readsNumbers_0.2.1.1.1 rfl ?_
      refine zW_iconst (pc' := 124) dX12_readsNumbers_0.2.1.1.2 rfl ?_
      have y27 := hF.1 0 27 rfl rfl
      obtain ⟨hB, eB⟩ : ∃ z : Hp, z = h := ⟨_, rfl⟩
      have eB31 : hB 0 31 = κ 0 31 := by rw [eB, hk0]
      have eB26 : hB 0 26 = κ 0 26 := by rw [eB, hk0]
      have eB27 : hB 0 27 = κ 0 27 := by rw [eB, hk0]
      refine cvI2 (pc' := 127) kX12_readsNumber vX12_readsNumber lk_X12_157 ⟨Nat.le_of_ble_eq_true rfl, Nat.le_of_ble_eq_true rfl⟩ tb0 vq12 rfl rfl (s_X12_readsNumber hF.2.1 hF.2.2.1 hF.2.2.2 _ ⟨by omega, by omega⟩ _ ⟨by omega, by omega⟩ (by omega) (by omega)) dX12_readsNumbers_0.2.1.2.1 (Nat.le_of_ble_eq_true rfl) rfl ?_
      rintro r124 h ⟨hF1, p124⟩; replace hF := hF.tr hF1 rfl
      replace hPre : Pre15 κ h := hPre.tr p124.2.2.2.2.1 (by omega)
      rw [← eB] at p124
      have hv1 := fun (q : r124 = 1) => (p124.2.2.2.2.2.resolve_right (fun z => by omega)).2.2.2.2.2
      rw [eB31] at hv1
      exact zV_zret rfl (by omega) dX12_readsNumbers_0.2.1.2.2 ⟨hF, by refine ⟨by omega, by omega, by omega, by omega, hPre, by omega, by omega, fun q => ⟨by omega, fun _ => ?_, fun z => absurd z (by omega)⟩⟩; have := hv1 q; omega⟩
    · refine zW_aload_n (pc' := 232) dX12_readsNumbers_4.1.2.2.1 rfl rfl ?_
      refine zW_iconst (pc' := 233) dX12_readsNumbers_4.1.2.2.2 rfl ?_
      refine zW_iconst (pc' := 234) dX12_readsNumbers_4.2.1.1.1 rfl ?_
      have y27 := hF.1 0 27 rfl rfl
      obtain ⟨hB, eB⟩ : ∃ z : Hp, z = h := ⟨_, rfl⟩
      have eB31 : hB 0 31 = κ 0 31 := by rw [eB, hk0]
      have eB26 : hB 0 26 = κ 0 26 := by rw [eB, hk0]
      have eB27 : hB 0 27 = κ 0 27 := by rw [eB, hk0]
      refine cvI2 (pc' := 237) kX12_readsNumber vX12_readsNumber lk_X12_157 ⟨Nat.le_of_ble_eq_true rfl, Nat.le_of_ble_eq_true rfl⟩ tb0 vq12 rfl rfl (s_X12_readsNumber hF.2.1 hF.2.2.1 hF.2.2.2 _ ⟨by omega, by omega⟩ _ ⟨by omega, by omega⟩ (by omega) (by omega)) dX12_readsNumbers_4.2.1.1.2 (Nat.le_of_ble_eq_true rfl) rfl ?_
      rintro r234 h ⟨hF1, p234⟩; replace hF := hF.tr hF1 rfl
      replace hPre : Pre15 κ h := hPre.tr p234.2.2.2.2.1 (by omega)
      rw [← eB] at p234
      have hv1 := fun (q : r234 = 1) => (p234.2.2.2.2.2.resolve_right (fun z => by omega)).2.2.2.2.2
      rw [eB31] at hv1
      refine zV_if_eq (tgt := 254) (pc' := 240) dX12_readsNumbers_4.2.1.2.1 rfl rfl ⟨by omega, by omega⟩ (fun c237 => ?_) (fun c237 => ?_)
      · refine zW_iconst (pc' := 255) dX12_readsNumbers_5.1.1.2.1 rfl ?_
        exact zV_zret rfl (by omega) dX12_readsNumbers_5.1.1.2.2 ⟨hF, by refine ⟨by omega, by omega, by omega, by omega, hPre, by omega, by omega, fun q => ⟨by omega, fun _ => ?_, fun z => absurd z (by omega)⟩⟩; first | omega | (have := hv2 (by omega); omega)⟩
      · refine zW_aload_n (pc' := 241) dX12_readsNumbers_4.2.1.2.2 rfl rfl ?_
        refine zW_iconst (pc' := 242) dX12_readsNumbers_4.2.2.1.1 rfl ?_
        refine zW_bipush (pc' := 244) dX12_readsNumbers_4.2.2.1.2 rfl rfl ?_
        have y27 := hF.1 0 27 rfl rfl
        refine cvI2 (pc' := 247) kX12_readsNext vX12_readsNext lk_X12_160 ⟨Nat.le_of_ble_eq_true rfl, Nat.le_of_ble_eq_true rfl⟩ tb0 vq12 rfl rfl (s_X12_readsNext hF.2.1 hF.2.2.1 hF.2.2.2 _ ⟨by omega, by omega⟩ _ ⟨by omega, by omega⟩ (by omega) (by omega)) dX12_readsNumbers_4.2.2.2.1 (Nat.le_of_ble_eq_true rfl) rfl ?_
        rintro r244 h ⟨hF1, p244⟩; replace hF := hF.tr hF1 rfl
        replace hPre : Pre15 κ h := hPre.tr p244.2.2.2.2.1 (by omega)
        have hv2 := fun (q : r234 = 1) => (p244.2.2.2.2.1 (κ 0 31).toNat (by omega)).trans (hv1 q)
        refine zV_if_eq (tgt := 254) (pc' := 250) dX12_readsNumbers_4.2.2.2.2 rfl rfl ⟨by omega, by omega⟩ (fun c247 => ?_) (fun c247 => ?_)
        · refine zW_iconst (pc' := 255) dX12_readsNumbers_5.1.1.2.1 rfl ?_
          exact zV_zret rfl (by omega) dX12_readsNumbers_5.1.1.2.2 ⟨hF, by refine ⟨by omega, by omega, by omega, by omega, hPre, by omega, by omega, fun q => ⟨by omega, fun _ => ?_, fun z => absurd z (by omega)⟩⟩; first | omega | (have := hv2 (by omega); omega)⟩
        · refine zW_iconst (pc' := 251) dX12_readsNumbers_5.1.1.1.1 rfl ?_
          refine zV_goto 255 dX12_readsNumbers_5.1.1.1.2 rfl ?_
          exact zV_zret rfl (by omega) dX12_readsNumbers_5.1.1.2.2 ⟨hF, by refine ⟨by omega, by omega, by omega, by omega, hPre, by omega, by omega, fun q => ⟨by omega, fun _ => ?_, fun z => absurd z (by omega)⟩⟩; first | omega | (have := hv2 (by omega); omega)⟩
    · refine zW_aload_n (pc' := 257) dX12_readsNumbers_5.1.2.1.1 rfl rfl ?_
      refine zW_iconst (pc' := 258) dX12_readsNumbers_5.1.2.1.2 rfl ?_
      refine zW_bipush (pc' := 260) dX12_readsNumbers_5.1.2.2.1 rfl rfl ?_
      have y27 := hF.1 0 27 rfl rfl
      refine cvI2 (pc' := 263) kX12_readsNumber vX12_readsNumber lk_X12_157 ⟨Nat.le_of_ble_eq_true rfl, Nat.le_of_ble_eq_true rfl⟩ tb0 vq12 rfl rfl (s_X12_readsNumber hF.2.1 hF.2.2.1 hF.2.2.2 _ ⟨by omega, by omega⟩ _ ⟨by omega, by omega⟩ (by omega) (by omega)) dX12_readsNumbers_5.1.2.2.2 (Nat.le_of_ble_eq_true rfl) rfl ?_
      rintro r260 h ⟨hF1, p260⟩; replace hF := hF.tr hF1 rfl
      replace hPre : Pre15 κ h := hPre.tr p260.2.2.2.2.1 (by omega)
      refine zV_if_eq (tgt := 280) (pc' := 266) dX12_readsNumbers_5.2.1.1.1 rfl rfl ⟨by omega, by omega⟩ (fun c263 => ?_) (fun c263 => ?_)
      · refine zW_iconst (pc' := 281) dX12_readsNumbers_6.1.1.1 rfl ?_
        exact zV_zret rfl (by omega) dX12_readsNumbers_6.1.1.2 ⟨hF, by refine ⟨by omega, by omega, by omega, by omega, hPre, by omega, by omega, fun q => ⟨by omega, fun z => absurd z (by omega), fun z => absurd z (by omega)⟩⟩⟩
      · refine zW_aload_n (pc' := 267) dX12_readsNumbers_5.2.1.1.2 rfl rfl ?_
        refine zW_iconst (pc' := 268) dX12_readsNumbers_5.2.1.2.1 rfl ?_
        refine zW_bipush (pc' := 270) dX12_readsNumbers_5.2.1.2.2 rfl rfl ?_
        have y27 := hF.1 0 27 rfl rfl
        refine cvI2 (pc' := 273) kX12_readsNext vX12_readsNext lk_X12_160 ⟨Nat.le_of_ble_eq_true rfl, Nat.le_of_ble_eq_true rfl⟩ tb0 vq12 rfl rfl (s_X12_readsNext hF.2.1 hF.2.2.1 hF.2.2.2 _ ⟨by omega, by omega⟩ _ ⟨by omega, by omega⟩ (by omega) (by omega)) dX12_readsNumbers_5.2.2.1.1 (Nat.le_of_ble_eq_true rfl) rfl ?_
        rintro r270 h ⟨hF1, p270⟩; replace hF := hF.tr hF1 rfl
        replace hPre : Pre15 κ h := hPre.tr p270.2.2.2.2.1 (by omega)
        refine zV_if_eq (tgt := 280) (pc' := 276) dX12_readsNumbers_5.2.2.1.2 rfl rfl ⟨by omega, by omega⟩ (fun c273 => ?_) (fun c273 => ?_)
        · refine zW_iconst (pc' := 281) dX12_readsNumbers_6.1.1.1 rfl ?_
          exact zV_zret rfl (by omega) dX12_readsNumbers_6.1.1.2 ⟨hF, by refine ⟨by omega, by omega, by omega, by omega, hPre, by omega, by omega, fun q => ⟨by omega, fun z => absurd z (by omega), fun z => absurd z (by omega)⟩⟩⟩
        · refine zW_iconst (pc' := 277) dX12_readsNumbers_5.2.2.2.1 rfl ?_
          refine zV_goto 281 dX12_readsNumbers_5.2.2.2.2 rfl ?_
          exact zV_zret rfl (by omega) dX12_readsNumbers_6.1.1.2 ⟨hF, by refine ⟨by omega, by omega, by omega, by omega, hPre, by omega, by omega, fun q => ⟨by omega, fun z => absurd z (by omega), fun z => absurd z (by omega)⟩⟩⟩
    · refine zW_aload_n (pc' := 136) dX12_readsNumbers_1.1.1.1.2 rfl rfl ?_
      refine zW_iconst (pc' := 137) dX12_readsNumbers_1.1.1.2.1 rfl ?_
      refine zW_iconst (pc' := 138) dX12_readsNumbers_1.1.1.2.2 rfl ?_
      have y27 := hF.1 0 27 rfl rfl
      refine cvI2 (pc' := 141) kX12_readsNumber vX12_readsNumber lk_X12_157 ⟨Nat.le_of_ble_eq_true rfl, Nat.le_of_ble_eq_true rfl⟩ tb0 vq12 rfl rfl (s_X12_readsNumber hF.2.1 hF.2.2.1 hF.2.2.2 _ ⟨by omega, by omega⟩ _ ⟨by omega, by omega⟩ (by omega) (by omega)) dX12_readsNumbers_1.1.2.1.1 (Nat.le_of_ble_eq_true rfl) rfl ?_
      rintro r138 h ⟨hF1, p138⟩; replace hF := hF.tr hF1 rfl
      replace hPre : Pre15 κ h := hPre.tr p138.2.2.2.2.1 (by omega)
      exact zV_zret rfl (by omega) dX12_readsNumbers_1.1.2.1.2 ⟨hF, by refine ⟨by omega, by omega, by omega, by omega, hPre, by omega, by omega, fun q => ⟨by omega, fun z => absurd z (by omega), fun z => absurd z (by omega)⟩⟩⟩
    · refine zW_aload_n (pc' := 113) dX12_readsNumbers_0.1.1.2.1 rfl rfl ?_
      refine zW_iconst (pc' := 114) dX12_readsNumbers_0.1.1.2.2 rfl ?_
      refine zW_sipush (pc' := 117) dX12_readsNumbers_0.1.2.1.1 rfl rfl ?_
      have y27 := hF.1 0 27 rfl rfl
      refine cvI2 (pc' := 120) kX12_readsNumber vX12_readsNumber lk_X12_157 ⟨Nat.le_of_ble_eq_true rfl, Nat.le_of_ble_eq_true rfl⟩ tb0 vq12 rfl rfl (s_X12_readsNumber hF.2.1 hF.2.2.1 hF.2.2.2 _ ⟨by omega, by omega⟩ _ ⟨by omega, by omega⟩ (by omega) (by omega)) dX12_readsNumbers_0.1.2.1.2 (Nat.le_of_ble_eq_true rfl) rfl ?_
      rintro r117 h ⟨hF1, p117⟩; replace hF := hF.tr hF1 rfl
      replace hPre : Pre15 κ h := hPre.tr p117.2.2.2.2.1 (by omega)
      exact zV_zret rfl (by omega) dX12_readsNumbers_0.1.2.2.1 ⟨hF, by refine ⟨by omega, by omega, by omega, by omega, hPre, by omega, by omega, fun q => ⟨by omega, fun z => absurd z (by omega), fun z => absurd z (by omega)⟩⟩⟩
    · refine zW_aload_n (pc' := 160) dX12_readsNumbers_2.1.1.1.1 rfl rfl ?_
      refine zW_iconst (pc' := 161) dX12_readsNumbers_2.1.1.1.2 rfl ?_
      refine zW_bipush (pc' := 163) dX12_readsNumbers_2.1.1.2.1 rfl rfl ?_
      have y27 := hF.1 0 27 rfl rfl
      refine cvI2 (pc' := 166) kX12_readsNumber vX12_readsNumber lk_X12_157 ⟨Nat.le_of_ble_eq_true rfl, Nat.le_of_ble_eq_true rfl⟩ tb0 vq12 rfl rfl (s_X12_readsNumber hF.2.1 hF.2.2.1 hF.2.2.2 _ ⟨by omega, by omega⟩ _ ⟨by omega, by omega⟩ (by omega) (by omega)) dX12_readsNumbers_2.1.1.2.2 (Nat.le_of_ble_eq_true rfl) rfl ?_
      rintro r163 h ⟨hF1, p163⟩; replace hF := hF.tr hF1 rfl
      replace hPre : Pre15 κ h := hPre.tr p163.2.2.2.2.1 (by omega)
      refine zV_if_eq (tgt := 193) (pc' := 169) dX12_readsNumbers_2.1.2.1.1 rfl rfl ⟨by omega, by omega⟩ (fun c166 => ?_) (fun c166 => ?_)
      · refine zW_iconst (pc' := 194) dX12_readsNumbers_3.1.1.1.2 rfl ?_
        exact zV_zret rfl (by omega) dX12_readsNumbers_3.1.1.2.1 ⟨hF, by refine ⟨by omega, by omega, by omega, by omega, hPre, by omega, by omega, fun q => ⟨by omega, fun z => absurd z (by omega), fun z => absurd z (by omega)⟩⟩⟩
      · refine zW_aload_n (pc' := 170) dX12_readsNumbers_2.1.2.1.2 rfl rfl ?_
        refine zW_iconst (pc' := 171) dX12_readsNumbers_2.1.2.2.1 rfl ?_
        refine zW_bipush (pc' := 173) dX12_readsNumbers_2.1.2.2.2 rfl rfl ?_
        have y27 := hF.1 0 27 rfl rfl
        refine cvI2 (pc' := 176) kX12_readsNext vX12_readsNext lk_X12_160 ⟨Nat.le_of_ble_eq_true rfl, Nat.le_of_ble_eq_true rfl⟩ tb0 vq12 rfl rfl (s_X12_readsNext hF.2.1 hF.2.2.1 hF.2.2.2 _ ⟨by omega, by omega⟩ _ ⟨by omega, by omega⟩ (by omega) (by omega)) dX12_readsNumbers_2.2.1.1.1 (Nat.le_of_ble_eq_true rfl) rfl ?_
        rintro r173 h ⟨hF1, p173⟩; replace hF := hF.tr hF1 rfl
        replace hPre : Pre15 κ h := hPre.tr p173.2.2.2.2.1 (by omega)
        refine zV_if_eq (tgt := 193) (pc' := 179) dX12_readsNumbers_2.2.1.1.2 rfl rfl ⟨by omega, by omega⟩ (fun c176 => ?_) (fun c176 => ?_)
        · refine zW_iconst (pc' := 194) dX12_readsNumbers_3.1.1.1.2 rfl ?_
          exact zV_zret rfl (by omega) dX12_readsNumbers_3.1.1.2.1 ⟨hF, by refine ⟨by omega, by omega, by omega, by omega, hPre, by omega, by omega, fun q => ⟨by omega, fun z => absurd z (by omega), fun z => absurd z (by omega)⟩⟩⟩
        · refine zW_aload_n (pc' := 180) dX12_readsNumbers_2.2.1.2.1 rfl rfl ?_
          refine zW_iconst (pc' := 181) dX12_readsNumbers_2.2.1.2.2 rfl ?_
          refine zW_bipush (pc' := 183) dX12_readsNumbers_2.2.2.1.1 rfl rfl ?_
          have y27 := hF.1 0 27 rfl rfl
          refine cvI2 (pc' := 186) kX12_readsNext vX12_readsNext lk_X12_160 ⟨Nat.le_of_ble_eq_true rfl, Nat.le_of_ble_eq_true rfl⟩ tb0 vq12 rfl rfl (s_X12_readsNext hF.2.1 hF.2.2.1 hF.2.2.2 _ ⟨by omega, by omega⟩ _ ⟨by omega, by omega⟩ (by omega) (by omega)) dX12_readsNumbers_2.2.2.1.2 (Nat.le_of_ble_eq_true rfl) rfl ?_
          rintro r183 h ⟨hF1, p183⟩; replace hF := hF.tr hF1 rfl
          replace hPre : Pre15 κ h := hPre.tr p183.2.2.2.2.1 (by omega)
          refine zV_if_eq (tgt := 193) (pc' := 189) dX12_readsNumbers_2.2.2.2.1 rfl rfl ⟨by omega, by omega⟩ (fun c186 => ?_) (fun c186 => ?_)
          · refine zW_iconst (pc' := 194) dX12_readsNumbers_3.1.1.1.2 rfl ?_
            exact zV_zret rfl (by omega) dX12_readsNumbers_3.1.1.2.1 ⟨hF, by refine ⟨by omega, by omega, by omega, by omega, hPre, by omega, by omega, fun q => ⟨by omega, fun z => absurd z (by omega), fun z => absurd z (by omega)⟩⟩⟩
          · refine zW_iconst (pc' := 190) dX12_readsNumbers_2.2.2.2.2 rfl ?_
            refine zV_goto 194 dX12_readsNumbers_3.1.1.1.1 rfl ?_
            exact zV_zret rfl (by omega) dX12_readsNumbers_3.1.1.2.1 ⟨hF, by refine ⟨by omega, by omega, by omega, by omega, hPre, by omega, by omega, fun q => ⟨by omega, fun z => absurd z (by omega), fun z => absurd z (by omega)⟩⟩⟩
    · refine zW_aload_n (pc' := 283) dX12_readsNumbers_6.1.2 rfl rfl ?_
      have y27 := hF.1 0 27 rfl rfl
      obtain ⟨hB, eB⟩ : ∃ z : Hp, z = h := ⟨_, rfl⟩
      have eB31 : hB 0 31 = κ 0 31 := by rw [eB, hk0]
      have eB26 : hB 0 26 = κ 0 26 := by rw [eB, hk0]
      have eB27 : hB 0 27 = κ 0 27 := by rw [eB, hk0]
      refine cvI0 (pc' := 286) kX12_readsCurve vX12_readsCurve lk_X12_163 ⟨Nat.le_of_ble_eq_true rfl, Nat.le_of_ble_eq_true rfl⟩ tb0 vq12 rfl rfl (s_X12_readsCurve hF.2.1 hF.2.2.1 hF.2.2.2 (by omega) (by omega)) dX12_readsNumbers_6.2.1 (Nat.le_of_ble_eq_true rfl) rfl ?_
      rintro r283 h ⟨hF1, p283⟩; replace hF := hF.tr hF1 rfl
      replace hPre : Pre15 κ h := hPre.tr p283.2.2.2.2.1 (by omega)
      rw [← eB] at p283
      have hcv := p283.2.2.2.2.2.2.2
      rw [eB31] at hcv
      exact zV_zret rfl (by omega) dX12_readsNumbers_6.2.2 ⟨hF, by refine ⟨by omega, by omega, by omega, by omega, hPre, by omega, by omega, fun q => ⟨?_, fun z => absurd z (by omega), fun _ => hcv q⟩⟩; have := (hcv q).1; omega⟩
