/-! what the queries see of a state: letters, whether f stands among the first ones, pictures, numbers -/
def bhI (L : Nat → Int) : Nat → Int
  | 0 => 0
  | k + 1 => if L k = 102 then 1 else bhI L k
theorem bhI_c (L : Nat → Int) : ∀ k : Nat, (bhI L k = 0 ∧ noF L k) ∨ (bhI L k = 1 ∧ ¬ noF L k)
  | 0 => Or.inl ⟨rfl, fun j hj => absurd hj (Nat.not_lt_zero j)⟩
  | k + 1 => by
    show ((if L k = 102 then 1 else bhI L k) = 0 ∧ noF L (k + 1)) ∨ ((if L k = 102 then 1 else bhI L k) = 1 ∧ ¬ noF L (k + 1))
    by_cases c : L k = 102
    · rw [if_pos c]
      exact Or.inr ⟨rfl, fun q => q k (Nat.lt_succ_self k) c⟩
    · rw [if_neg c]
      rcases bhI_c L k with ⟨a, b⟩ | ⟨a, b⟩
      · exact Or.inl ⟨a, noF_s.mpr ⟨b, c⟩⟩
      · exact Or.inr ⟨a, fun q => b (q.le (by omega))⟩
theorem bhI_eq {L L' : Nat → Int} : ∀ k : Nat, (∀ j, j < k → L j = L' j) → bhI L k = bhI L' k
  | 0, _ => rfl
  | k + 1, h => by
    show (if L k = 102 then 1 else bhI L k) = (if L' k = 102 then 1 else bhI L' k)
    rw [h k (Nat.lt_succ_self k), bhI_eq k (fun j hj => h j (by omega))]
def bhV (L : Nat → Int) (n k : Int) : Int := if 0 ≤ k ∧ k ≤ n then bhI L k.toNat else 0
def ltV (L : Nat → Int) (n k : Int) : Int := if 1 ≤ k ∧ k ≤ n then L (k - 1).toNat else 0
def pcV (n : Int) (T : Nat → P3) (k : Int) : P3 := if 0 ≤ k ∧ k ≤ n then T k.toNat else fun _ _ _ => 0
def nmV (n : Int) (X : Nat → Nat → Int) (k : Int) : Nat → Int := if 1 ≤ k ∧ k ≤ n then X (k - 1).toNat else fun _ => 0
theorem bhV_in {L : Nat → Int} {n k : Int} (h : 0 ≤ k ∧ k ≤ n) : bhV L n k = bhI L k.toNat := if_pos h
theorem pcV_in {n : Int} {T : Nat → P3} {k : Int} (h : 0 ≤ k ∧ k ≤ n) : pcV n T k = T k.toNat := if_pos h
theorem cx_eq {α : Type} (Q : Int → Int → Int → Int → (Int → Int) → (Int → Int) → (Int → P3) → (Int → Nat → Int) → α) {h h1 : Hp} (e : ∀ k i, key k i = true → h1 k i = h k i) (hR : KR h) (eW : h 33 0 = h 0 11) (eH : h 33 1 = h 0 12) (eP : h 33 2 = h 0 13) (en : h 41 0 = h 0 14) (hv : ∀ j : Nat, j < 256 → h 34 j = h 1 j) (hd : ∀ j : Nat, j < 256 → h 35 j = h 10 j) (t : TR (h 0 14) (LC h) (AC h) (h 44) (h 3) (h 4) (h 5)) : Q (h 33 0) (h 33 1) (h 33 2) (h 41 0) (ltV (LC h) (h 41 0)) (bhV (LC h) (h 41 0)) (pcV (h 41 0) (PFc h)) (nmV (h 41 0) (XNc h)) = Q (h1 0 11) (h1 0 12) (h1 0 13) (h1 0 14) (ltV (h1 3) (h1 0 14)) (bhV (h1 3) (h1 0 14)) (pcV (h1 0 14) (PF h1)) (nmV (h1 0 14) (XN (h1 4) (h1 5))) := by
  have c : ∀ k, (∀ i, key k i = true) → h1 k = h k := fun k h1 => funext fun i => e k i (h1 i)
  have ePF : PF h1 = PF h := by
    unfold PF
    rw [e 0 11 rfl, e 0 12 rfl, e 0 13 rfl, c 1 (fun _ => rfl), c 10 (fun _ => rfl), c 3 (fun _ => rfl), c 4 (fun _ => rfl), c 5 (fun _ => rfl)]
  rw [ePF, e 0 11 rfl, e 0 12 rfl, e 0 13 rfl, e 0 14 rfl, c 3 (fun _ => rfl), c 4 (fun _ => rfl), c 5 (fun _ => rfl), eW, eH, eP, en]
  have e1 : ltV (LC h) (h 0 14) = ltV (h 3) (h 0 14) := funext fun k => by
    unfold ltV
    by_cases q : 1 ≤ k ∧ k ≤ h 0 14
    · rw [if_pos q, if_pos q]; exact t.1 _ (by omega)
    · rw [if_neg q, if_neg q]
  have e2 : bhV (LC h) (h 0 14) = bhV (h 3) (h 0 14) := funext fun k => by
    unfold bhV
    by_cases q : 0 ≤ k ∧ k ≤ h 0 14
    · rw [if_pos q, if_pos q]; exact bhI_eq _ (fun j hj => t.1 j (by omega))
    · rw [if_neg q, if_neg q]
  have e3 : pcV (h 0 14) (PFc h) = pcV (h 0 14) (PF h) := funext fun k => by
    unfold pcV
    by_cases q : 0 ≤ k ∧ k ≤ h 0 14
    · rw [if_pos q, if_pos q]; exact PF_eq hR eW eH eP hv hd t _ (by omega)
    · rw [if_neg q, if_neg q]
  have e4 : nmV (h 0 14) (XNc h) = nmV (h 0 14) (XN (h 4) (h 5)) := funext fun k => by
    unfold nmV
    by_cases q : 1 ≤ k ∧ k ≤ h 0 14
    · rw [if_pos q, if_pos q]; exact XNc_eq hR t (by omega)
    · rw [if_neg q, if_neg q]
  rw [e1, e2, e3, e4]
theorem flr_first {L : Nat → Int} : ∀ (n k : Nat), 1 ≤ k → ∀ j : Nat, k - 1 ≤ j → (j : Int) + 1 < flr L n k → L j ≠ 102
  | 0, k, _, j, h1, h2 => by
    have e : flr L 0 k = 0 := rfl
    rw [e] at h2; omega
  | n + 1, k, hk, j, h1, h2 => by
    rw [flr] at h2
    by_cases e : L (k - 1) = 102
    · rw [if_pos e] at h2; omega
    · rw [if_neg e] at h2
      by_cases ej : j = k - 1
      · rw [ej]; exact e
      · exact flr_first n (k + 1) (by omega) j (by omega) h2
theorem FL_bh {κ : Hp} (hK : KR κ) {k : Int} (h : 0 ≤ k ∧ k ≤ κ 0 14) : (0 < FL κ ∧ FL κ ≤ k) ↔ bhI (κ 3) k.toNat = 1 := by
  have m := KRm hK
  have r := FL_r hK
  have rr := flr_r (L := κ 3) (κ 0 14).toNat 1 (by omega)
  have nn := flr_none (L := κ 3) (κ 0 14).toNat 1 (by omega)
  have ff := flr_first (L := κ 3) (κ 0 14).toNat 1 (by omega)
  unfold FL at r ⊢
  generalize flr (κ 3) (κ 0 14).toNat 1 = F at *
  rcases bhI_c (κ 3) k.toNat with ⟨a, b⟩ | ⟨a, b⟩
  · rw [a]
    constructor
    · rintro ⟨c, d⟩
      rcases rr with q | ⟨q1, q2, q3⟩
      · omega
      · exact absurd q3 (b _ (by omega))
    · intro q; omega
  · rw [a]
    refine ⟨fun _ => rfl, fun _ => ?_⟩
    by_cases c : 0 < F ∧ F ≤ k
    · exact c
    · exfalso
      apply b
      intro j hj
      rcases rr with q | ⟨q1, q2, q3⟩
      · exact nn q j (by omega) (by omega)
      · exact ff j (by omega) (by omega)

abbrev q_X12_isRowZ (κ h : Hp) (x1 : Int) : Int → Hp → Prop := fun r h' => h' = h ∧ ((0 ≤ r) ∧ (r ≤ 1) ∧ (r = 1 ↔ (0 ≤ x1 ∧ x1 ≤ κ 0 14)))
set_option maxHeartbeats 4000000 in
set_option maxRecDepth 20000 in
theorem s_X12_isRowZ {G : Ga} {b : Bd} {κ h : Hp} (hK : KR κ) (hF : Fr b κ h) (x1 : Int) (hx1 : rng x1) : zM G mX12_isRow yX12_isRow [.inr (.inr 0), .inl x1] h (q_X12_isRowZ κ h x1) := by
  have f_0_14 := KRm hK
  unfold rng at hx1
  refine zM_of [some (.inr (.inr 0)), some (.inl x1)] 0 rfl rfl (Nat.le_of_ble_eq_true rfl) rfl ?_
  refine zW_iload_n (pc' := 1) dX12_isRow_0.1.1.1 rfl rfl ?_
  refine zW_iconst (pc' := 2) dX12_isRow_0.1.1.2 rfl ?_
  refine zW_aload_n (pc' := 3) dX12_isRow_0.1.2 rfl rfl ?_
  refine zG_key (pc' := 6) hF rfl fg_X12_185 tb0 rfl dX12_isRow_0.2.1.1 rfl ?_
  refine csI3 (pc' := 9) kX12_in vX12_in lk_X12_140 ⟨Nat.le_of_ble_eq_true rfl, Nat.le_of_ble_eq_true rfl⟩ rfl (s_X12_inR hF _ ⟨by omega, by omega⟩ _ ⟨by omega, by omega⟩ _ ⟨by omega, by omega⟩) dX12_isRow_0.2.1.2 (Nat.le_of_ble_eq_true rfl) rfl ?_
  rintro r6 z6 ⟨hz6, p6⟩; subst z6
  exact zV_zret rfl (by omega) dX12_isRow_0.2.2 ⟨rfl, by omega⟩

abbrev q_X12_isLeftOfZ (κ h : Hp) (x1 : Int) (x2 : Int) : Int → Hp → Prop := fun r h' => h' = h ∧ ((0 ≤ r) ∧ (r ≤ 1) ∧ (r = 1 ↔ (0 ≤ x1 ∧ x1 ≤ κ 0 14 ∧ 0 ≤ x2 ∧ x2 ≤ 2)))
set_option maxHeartbeats 4000000 in
set_option maxRecDepth 20000 in
theorem s_X12_isLeftOfZ {G : Ga} {b : Bd} {κ h : Hp} (hK : KR κ) (hF : Fr b κ h) (x1 : Int) (hx1 : rng x1) (x2 : Int) (hx2 : rng x2) : zM G mX12_isLeftOf yX12_isLeftOf [.inr (.inr 0), .inl x1, .inl x2] h (q_X12_isLeftOfZ κ h x1 x2) := by
  have f_0_14 := KRm hK
  unfold rng at hx1
  unfold rng at hx2
  refine zM_of [some (.inr (.inr 0)), some (.inl x1), some (.inl x2)] 0 rfl rfl (Nat.le_of_ble_eq_true rfl) rfl ?_
  refine zW_aload_n (pc' := 1) dX12_isLeftOf_0.1.1.1.1 rfl rfl ?_
  refine zW_iload_n (pc' := 2) dX12_isLeftOf_0.1.1.1.2 rfl rfl ?_
  refine cvI1 (pc' := 5) kX12_isRow vX12_isRow lk_X12_374 ⟨Nat.le_of_ble_eq_true rfl, Nat.le_of_ble_eq_true rfl⟩ tb0 vq12 rfl rfl (s_X12_isRowZ hK hF _ ⟨by omega, by omega⟩) dX12_isLeftOf_0.1.1.2.1 (Nat.le_of_ble_eq_true rfl) rfl ?_
  rintro r2 z2 ⟨hz2, p2⟩; subst z2
  refine zV_if_eq (tgt := 21) (pc' := 8) dX12_isLeftOf_0.1.1.2.2 rfl rfl ⟨by omega, by omega⟩ (fun c5 => ?_) (fun c5 => ?_)
  · refine zW_iconst (pc' := 22) dX12_isLeftOf_0.2.2.1.2 rfl ?_
    exact zV_zret rfl (by omega) dX12_isLeftOf_0.2.2.2 ⟨rfl, by omega⟩
  · refine zW_iload_n (pc' := 9) dX12_isLeftOf_0.1.2.1.1 rfl rfl ?_
    refine zW_iconst (pc' := 10) dX12_isLeftOf_0.1.2.1.2 rfl ?_
    refine zW_iconst (pc' := 11) dX12_isLeftOf_0.1.2.2 rfl ?_
    refine csI3 (pc' := 14) kX12_in vX12_in lk_X12_140 ⟨Nat.le_of_ble_eq_true rfl, Nat.le_of_ble_eq_true rfl⟩ rfl (s_X12_inR hF _ ⟨by omega, by omega⟩ _ ⟨by omega, by omega⟩ _ ⟨by omega, by omega⟩) dX12_isLeftOf_0.2.1.1.1 (Nat.le_of_ble_eq_true rfl) rfl ?_
    rintro r11 z11 ⟨hz11, p11⟩; subst z11
    refine zV_if_eq (tgt := 21) (pc' := 17) dX12_isLeftOf_0.2.1.1.2 rfl rfl ⟨by omega, by omega⟩ (fun c14 => ?_) (fun c14 => ?_)
    · refine zW_iconst (pc' := 22) dX12_isLeftOf_0.2.2.1.2 rfl ?_
      exact zV_zret rfl (by omega) dX12_isLeftOf_0.2.2.2 ⟨rfl, by omega⟩
    · refine zW_iconst (pc' := 18) dX12_isLeftOf_0.2.1.2 rfl ?_
      refine zV_goto 22 dX12_isLeftOf_0.2.2.1.1 rfl ?_
      exact zV_zret rfl (by omega) dX12_isLeftOf_0.2.2.2 ⟨rfl, by omega⟩

abbrev q_X12_isBehindZ (κ h : Hp) (x1 : Int) : Int → Hp → Prop := fun r h' => h' = h ∧ ((0 ≤ r) ∧ (r ≤ 1) ∧ (r = bhI (κ 3) x1.toNat))
set_option maxHeartbeats 4000000 in
set_option maxRecDepth 20000 in
theorem s_X12_isBehindZ {G : Ga} {b : Bd} {κ h : Hp} (hK : KR κ) (hF : Fr b κ h) (x1 : Int) (hx1 : 0 ≤ x1 ∧ x1 ≤ 12 ∧ x1 - κ 0 14 ≤ 0) : zM G mX12_isBehind yX12_isBehind [.inr (.inr 0), .inl x1] h (q_X12_isBehindZ κ h x1) := by
  have f_0_14 := KRm hK
  refine zM_of [some (.inr (.inr 0)), some (.inl x1)] 0 rfl rfl (Nat.le_of_ble_eq_true rfl) rfl ?_
  refine zW_aload_n (pc' := 1) dX12_isBehind_0.1.1.1.1 rfl rfl ?_
  refine cvI0 (pc' := 4) kX12_filler vX12_filler lk_X12_196 ⟨Nat.le_of_ble_eq_true rfl, Nat.le_of_ble_eq_true rfl⟩ tb0 vq12 rfl rfl (s_X12_filler hK hF) dX12_isBehind_0.1.1.1.2 (Nat.le_of_ble_eq_true rfl) rfl ?_
  rintro r1 z1 ⟨hz1, p1⟩; subst z1
  refine zV_if_le (tgt := 19) (pc' := 7) dX12_isBehind_0.1.1.2 rfl rfl ⟨by omega, by omega⟩ (fun c4 => ?_) (fun c4 => ?_)
  · refine zW_iconst (pc' := 20) dX12_isBehind_0.2.2.1 rfl ?_
    exact zV_zret rfl (by omega) dX12_isBehind_0.2.2.2 ⟨rfl, (by have z := FL_bh hK (k := x1) ⟨by omega, by omega⟩; have c := bhI_c (κ 3) x1.toNat; omega)⟩
  · refine zW_iload_n (pc' := 8) dX12_isBehind_0.1.2.1.1 rfl rfl ?_
    refine zW_aload_n (pc' := 9) dX12_isBehind_0.1.2.1.2 rfl rfl ?_
    refine cvI0 (pc' := 12) kX12_filler vX12_filler lk_X12_196 ⟨Nat.le_of_ble_eq_true rfl, Nat.le_of_ble_eq_true rfl⟩ tb0 vq12 rfl rfl (s_X12_filler hK hF) dX12_isBehind_0.1.2.2 (Nat.le_of_ble_eq_true rfl) rfl ?_
    rintro r9 z9 ⟨hz9, p9⟩; subst z9
    refine zV_cm_lt (tgt := 19) (pc' := 15) dX12_isBehind_0.2.1.1.1 rfl rfl ⟨by omega, by omega⟩ ⟨by omega, by omega⟩ (fun c12 => ?_) (fun c12 => ?_)
    · refine zW_iconst (pc' := 20) dX12_isBehind_0.2.2.1 rfl ?_
      exact zV_zret rfl (by omega) dX12_isBehind_0.2.2.2 ⟨rfl, (by have z := FL_bh hK (k := x1) ⟨by omega, by omega⟩; have c := bhI_c (κ 3) x1.toNat; omega)⟩
    · refine zW_iconst (pc' := 16) dX12_isBehind_0.2.1.1.2 rfl ?_
      refine zV_goto 20 dX12_isBehind_0.2.1.2 rfl ?_
      exact zV_zret rfl (by omega) dX12_isBehind_0.2.2.2 ⟨rfl, (by have z := FL_bh hK (k := x1) ⟨by omega, by omega⟩; have c := bhI_c (κ 3) x1.toNat; omega)⟩

abbrev q_X11_isLeftOfZ (κ h : Hp) (x1 : Int) (x2 : Int) : Int → Hp → Prop := fun r h' => h' = h ∧ ((0 ≤ r) ∧ (r ≤ 1) ∧ (r = 1 ↔ (0 ≤ x1 ∧ x1 ≤ κ 41 0 ∧ 0 ≤ x2 ∧ x2 ≤ 2)))
set_option maxHeartbeats 4000000 in
set_option maxRecDepth 20000 in
theorem s_X11_isLeftOfZ {G : Ga} {b : Bd} {κ h : Hp} (hK : KC κ) (hF : Fr b κ h) (x1 : Int) (hx1 : rng x1) (x2 : Int) (hx2 : rng x2) : zM G mX11_isLeftOf yX11_isLeftOf [.inr (.inr 30), .inl x1, .inl x2] h (q_X11_isLeftOfZ κ h x1 x2) := by
  have f_41_0 := KCm hK
  unfold rng at hx1
  unfold rng at hx2
  refine zM_of [some (.inr (.inr 30)), some (.inl x1), some (.inl x2)] 0 rfl rfl (Nat.le_of_ble_eq_true rfl) rfl ?_
  refine zW_aload_n (pc' := 1) dX11_isLeftOf_0.1.1.1.1 rfl rfl ?_
  refine zG_ref (pc' := 4) 41 fg_X11_33 tb30 rfl dX11_isLeftOf_0.1.1.1.2 rfl ?_
  refine zW_iload_n (pc' := 5) dX11_isLeftOf_0.1.1.2.1 rfl rfl ?_
  refine cvI1 (pc' := 8) kX7_leaves vX7_leaves lk_X11_189 ⟨Nat.le_of_ble_eq_true rfl, Nat.le_of_ble_eq_true rfl⟩ tb41 vq7 rfl rfl (s_X7_leaves hK hF _ ⟨by omega, by omega⟩) dX11_isLeftOf_0.1.1.2.2 (Nat.le_of_ble_eq_true rfl) rfl ?_
  rintro r5 z5 ⟨hz5, p5⟩; subst z5
  refine zV_if_eq (tgt := 23) (pc' := 11) dX11_isLeftOf_0.1.2.1.1 rfl rfl ⟨by omega, by omega⟩ (fun c8 => ?_) (fun c8 => ?_)
  · refine zW_iconst (pc' := 24) dX11_isLeftOf_0.2.2.1.2 rfl ?_
    exact zV_zret rfl (by omega) dX11_isLeftOf_0.2.2.2 ⟨rfl, by omega⟩
  · refine zW_iload_n (pc' := 12) dX11_isLeftOf_0.1.2.1.2 rfl rfl ?_
    refine zW_iconst (pc' := 13) dX11_isLeftOf_0.1.2.2 rfl ?_
    refine csI2 (pc' := 16) kX11_isWithin vX11_isWithin lk_X11_116 ⟨Nat.le_of_ble_eq_true rfl, Nat.le_of_ble_eq_true rfl⟩ rfl (s_X11_isWithinR hF _ ⟨by omega, by omega⟩ _ ⟨by omega, by omega⟩) dX11_isLeftOf_0.2.1.1.1 (Nat.le_of_ble_eq_true rfl) rfl ?_
    rintro r13 z13 ⟨hz13, p13⟩; subst z13
    refine zV_if_eq (tgt := 23) (pc' := 19) dX11_isLeftOf_0.2.1.1.2 rfl rfl ⟨by omega, by omega⟩ (fun c16 => ?_) (fun c16 => ?_)
    · refine zW_iconst (pc' := 24) dX11_isLeftOf_0.2.2.1.2 rfl ?_
      exact zV_zret rfl (by omega) dX11_isLeftOf_0.2.2.2 ⟨rfl, by omega⟩
    · refine zW_iconst (pc' := 20) dX11_isLeftOf_0.2.1.2 rfl ?_
      refine zV_goto 24 dX11_isLeftOf_0.2.2.1.1 rfl ?_
      exact zV_zret rfl (by omega) dX11_isLeftOf_0.2.2.2 ⟨rfl, by omega⟩


abbrev q_X12_atY (κ h : Hp) (x1 : Int) (x2 : Int) (x3 : Int) (x4 : Int) : Int → Hp → Prop := fun r h' => h' = h ∧ ((r = h 17 (768 * x1 + 256 * x2 + 16 * x4 + x3).toNat))
set_option maxHeartbeats 4000000 in
set_option maxRecDepth 20000 in
theorem s_X12_atY {G : Ga} {b : Bd} {κ h : Hp} (hK : KR κ) (hF : Fr b κ h) (x1 : Int) (hx1 : 0 ≤ x1 ∧ x1 ≤ 14) (x2 : Int) (hx2 : 0 ≤ x2 ∧ x2 ≤ 2) (x3 : Int) (hx3 : 0 ≤ x3 ∧ x3 ≤ 15 ∧ x3 - κ 0 11 ≤ -1) (x4 : Int) (hx4 : 0 ≤ x4 ∧ x4 ≤ 15 ∧ x4 - κ 0 12 ≤ -1) : zM G mX12_at yX12_at [.inr (.inr 0), .inl x1, .inl x2, .inl x3, .inl x4] h (q_X12_atY κ h x1 x2 x3 x4) := by
  have f_0_11 := KRw hK
  have f_0_12 := KRh hK
  refine zM_of [some (.inr (.inr 0)), some (.inl x1), some (.inl x2), some (.inl x3), some (.inl x4)] 0 rfl rfl (Nat.le_of_ble_eq_true rfl) rfl ?_
  refine zW_aload_n (pc' := 1) dX12_at_0.1.1.1.1 rfl rfl ?_
  refine zG_ref (pc' := 4) 17 fg_X12_60 tb0 rfl dX12_at_0.1.1.1.2 rfl ?_
  refine zW_sipush (pc' := 7) dX12_at_0.1.1.2.1 rfl rfl ?_
  refine zW_iload_n (pc' := 8) dX12_at_0.1.1.2.2 rfl rfl ?_
  refine zW_imul (pc' := 9) dX12_at_0.1.2.1.1 rfl ?_
  refine zW_sipush (pc' := 12) dX12_at_0.1.2.1.2 rfl rfl ?_
  refine zW_iload_n (pc' := 13) dX12_at_0.1.2.2.1 rfl rfl ?_
  refine zW_imul (pc' := 14) dX12_at_0.1.2.2.2 rfl ?_
  refine zW_iadd (pc' := 15) dX12_at_0.2.1.1.1 rfl ?_
  refine zW_bipush (pc' := 17) dX12_at_0.2.1.1.2 rfl rfl ?_
  refine zW_iload (pc' := 19) dX12_at_0.2.1.2.1 rfl rfl ?_
  refine zW_aload_n (pc' := 20) dX12_at_0.2.1.2.2 rfl rfl ?_
  refine zG_key (pc' := 23) hF rfl fg_X12_103 tb0 rfl dX12_at_0.2.2.1.1 rfl ?_
  refine csI2 (pc' := 26) kX12_mirrored vX12_mirrored lk_X12_236 ⟨Nat.le_of_ble_eq_true rfl, Nat.le_of_ble_eq_true rfl⟩ rfl (s_X12_mirroredZ hF _ ⟨by omega, by omega⟩ _ ⟨by omega, by omega⟩ (by omega)) dX12_at_0.2.2.1.2 (Nat.le_of_ble_eq_true rfl) rfl ?_
  rintro r23 z23 ⟨hz23, p23⟩; subst z23
  refine zW_imul (pc' := 27) dX12_at_0.2.2.2.1 rfl ?_
  refine zW_iadd (pc' := 28) dX12_at_0.2.2.2.2 rfl ?_
  refine zW_iload_n (pc' := 29) dX12_at_1.1.1.1 rfl rfl ?_
  refine zW_aload_n (pc' := 30) dX12_at_1.1.1.2 rfl rfl ?_
  refine zG_key (pc' := 33) hF rfl fg_X12_99 tb0 rfl dX12_at_1.1.2.1 rfl ?_
  refine csI2 (pc' := 36) kX12_mirrored vX12_mirrored lk_X12_236 ⟨Nat.le_of_ble_eq_true rfl, Nat.le_of_ble_eq_true rfl⟩ rfl (s_X12_mirroredZ hF _ ⟨by omega, by omega⟩ _ ⟨by omega, by omega⟩ (by omega)) dX12_at_1.1.2.2 (Nat.le_of_ble_eq_true rfl) rfl ?_
  rintro r33 z33 ⟨hz33, p33⟩; subst z33
  refine zW_iadd (pc' := 37) dX12_at_1.2.1.1 rfl ?_
  refine zV_iald (pc' := 38) tb17 (by omega) dX12_at_1.2.1.2 (by decide) rfl ?_
  exact zV_iret rfl dX12_at_1.2.2 ⟨rfl, (by rw [mir_i (n := κ 0 11) ⟨by omega, by omega⟩] at p33; rw [mir_i (n := κ 0 12) ⟨by omega, by omega⟩] at p23; rw [p23.2.2.2, p33.2.2.2])⟩



abbrev q_X8_levelAtZ (κ h : Hp) (s0 : Nat) (x1 : Int) (x2 : Int) (bb : Int) : Int → Hp → Prop := fun r h' => h' = h ∧ ((r = h (s0 + 15) (if bb = 1 then 256 * x2 + x1 else x1).toNat))
set_option maxHeartbeats 4000000 in
set_option maxRecDepth 20000 in
theorem s_X8_levelAtZ {G : Ga} {b : Bd} {κ h : Hp} (hF : Fr b κ h) (s0 : Nat) (hthis : 56 ≤ s0 ∧ s0 ≤ 70) (x1 : Int) (hx1 : 0 ≤ x1 ∧ x1 ≤ 255) (x2 : Int) (hx2 : 0 ≤ x2 ∧ x2 ≤ 2) (bb : Int) (hbb : h s0 1 = bb ∧ 0 ≤ bb ∧ bb ≤ 1) : zM G mX8_levelAt yX8_levelAt [.inr (.inr s0), .inl x1, .inl x2] h (q_X8_levelAtZ κ h s0 x1 x2 bb) := by
  refine zM_of [some (.inr (.inr s0)), some (.inl x1), some (.inl x2)] 0 rfl rfl (Nat.le_of_ble_eq_true rfl) rfl ?_
  refine zW_aload_n (pc' := 1) dX8_levelAt_0.1.1.1.1 rfl rfl ?_
  refine zG_ful (pc' := 4) (by omega) (by omega) fg_X8_15 dX8_levelAt_0.1.1.1.2 rfl ?_
  have e1_ := hbb
  refine zV_if_eq (tgt := 22) (pc' := 7) dX8_levelAt_0.1.1.2.1 rfl rfl ⟨by omega, by omega⟩ (fun c4 => ?_) (fun c4 => ?_)
  · refine zW_aload_n (pc' := 23) dX8_levelAt_0.2.2.1.1 rfl rfl ?_
    refine zG_lev (pc' := 26) (by omega) (by omega) fg_X8_9 dX8_levelAt_0.2.2.1.2 rfl ?_
    refine zW_iload_n (pc' := 27) dX8_levelAt_0.2.2.2.1 rfl rfl ?_
    refine zV_iald (pc' := 28) (tabL (by omega) (by omega)) (by omega) dX8_levelAt_0.2.2.2.2 (by decide) rfl ?_
    exact zV_iret rfl dX8_levelAt_1 ⟨rfl, (by obtain ⟨k1, k2, k3⟩ := hbb; first | (rw [if_pos (by omega), show 256 * x2 + x1 = x2 * 256 + x1 by omega]) | (rw [if_neg (by omega)]))⟩
  · refine zW_aload_n (pc' := 8) dX8_levelAt_0.1.1.2.2 rfl rfl ?_
    refine zG_lev (pc' := 11) (by omega) (by omega) fg_X8_9 dX8_levelAt_0.1.2.1.1 rfl ?_
    refine zW_iload_n (pc' := 12) dX8_levelAt_0.1.2.1.2 rfl rfl ?_
    refine zW_sipush (pc' := 15) dX8_levelAt_0.1.2.2.1 rfl rfl ?_
    refine zW_imul (pc' := 16) dX8_levelAt_0.1.2.2.2 rfl ?_
    refine zW_iload_n (pc' := 17) dX8_levelAt_0.2.1.1.1 rfl rfl ?_
    refine zW_iadd (pc' := 18) dX8_levelAt_0.2.1.1.2 rfl ?_
    refine zV_iald (pc' := 19) (tabL (by omega) (by omega)) (by omega) dX8_levelAt_0.2.1.2.1 (by decide) rfl ?_
    refine zV_goto 28 dX8_levelAt_0.2.1.2.2 rfl ?_
    exact zV_iret rfl dX8_levelAt_1 ⟨rfl, (by obtain ⟨k1, k2, k3⟩ := hbb; first | (rw [if_pos (by omega), show 256 * x2 + x1 = x2 * 256 + x1 by omega]) | (rw [if_neg (by omega)]))⟩

