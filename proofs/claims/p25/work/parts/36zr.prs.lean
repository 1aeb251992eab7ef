/-! lists of levels -/
def rgF (W H x y : Int) : Int := ((2 * x + 1 - W) * (2 * x + 1 - W) + (2 * y + 1 - H) * (2 * y + 1 - H)) * 4 / (W * W + H * H)
def slF (W H P bh r c : Int) (x y : Int) : Int := if (r = -1 ∨ rgF W H x y = r) ∧ (bh = 1 ∨ cl P x y = c) then 1 else 0
def put1 (A : Nat → Int) (n v : Int) : Nat → Int := fun j => if j = n.toNat then v else A j
def laR (s v : Int → Int → Int) (y : Int) (A : Nat → Int) (n : Int) : Nat → Nat → Int
  | 0 => A
  | x + 1 => if s x y = 1 then put1 (laR s v y A n x) (n + sumR s y x) (v x y) else laR s v y A n x
def laS (s v : Int → Int → Int) (w : Nat) : Nat → Nat → Int
  | 0 => fun _ => 0
  | y + 1 => laR s v y (laS s v w y) (sumS s w y) w
theorem laR_1 {s v : Int → Int → Int} {y n x : Int} {A : Nat → Int} (h : 0 ≤ x) (hs : s x y = 1) : laR s v y A n (x + 1).toNat = put1 (laR s v y A n x.toNat) (n + sumR s y x.toNat) (v x y) := by
  rw [show (x + 1).toNat = x.toNat + 1 by omega]
  show (if s ((x.toNat : Nat) : Int) y = 1 then _ else _) = _
  rw [show ((x.toNat : Nat) : Int) = x by omega, if_pos hs]
theorem laR_0 {s v : Int → Int → Int} {y n x : Int} {A : Nat → Int} (h : 0 ≤ x) (hs : s x y = 0) : laR s v y A n (x + 1).toNat = laR s v y A n x.toNat := by
  rw [show (x + 1).toNat = x.toNat + 1 by omega]
  show (if s ((x.toNat : Nat) : Int) y = 1 then _ else _) = _
  rw [show ((x.toNat : Nat) : Int) = x by omega, if_neg (by omega)]
theorem laS_s {s v : Int → Int → Int} {w : Nat} {y : Int} (h : 0 ≤ y) : laS s v w (y + 1).toNat = laR s v y (laS s v w y.toNat) (sumS s w y.toNat) w := by
  rw [show (y + 1).toNat = y.toNat + 1 by omega]
  show laR s v ((y.toNat : Nat) : Int) (laS s v w y.toNat) (sumS s w y.toNat) w = _
  rw [show ((y.toNat : Nat) : Int) = y by omega]
def LiO (R M : Nat → Int) (n : Int) : Prop := ∀ j : Nat, (j : Int) < n → R j = M j ∧ 0 ≤ M j ∧ M j ≤ 4095
theorem LiO.no {R M : Nat → Int} : LiO R M 0 := fun j hj => absurd hj (by omega)
theorem LiO.put {R R' M : Nat → Int} {n v : Int} (h : LiO R M n) (hn : 0 ≤ n) (hv : 0 ≤ v ∧ v ≤ 4095) (h1 : R' n.toNat = v) (h2 : ∀ i : Nat, i ≠ n.toNat → R' i = R i) : LiO R' (put1 M n v) (n + 1) := fun j hj => by
  unfold put1
  by_cases e : j = n.toNat
  · rw [if_pos e, e]; exact ⟨h1, hv⟩
  · rw [if_neg e, h2 j e]; exact h j (by omega)
theorem slF_01 {W H P bh r c x y : Int} : slF W H P bh r c x y = 0 ∨ slF W H P bh r c x y = 1 := by
  unfold slF
  split
  · exact Or.inr rfl
  · exact Or.inl rfl
theorem sumR_nn {s : Int → Int → Int} (h : ∀ x y, s x y = 0 ∨ s x y = 1) {y : Int} : ∀ n : Nat, 0 ≤ sumR s y n ∧ sumR s y n ≤ n
  | 0 => ⟨Int.le_refl 0, Int.le_refl 0⟩
  | n + 1 => by
    have a := sumR_nn h (y := y) n
    have b := h n y
    show 0 ≤ sumR s y n + s n y ∧ sumR s y n + s n y ≤ _
    omega
/-- a sheet's level, of the plane or of the square, as its state says -/
theorem PkS_at {κ h : Hp} {s j : Nat} {T : P3} {bb : Int} (p : PkS κ h s j T) (e : bb = bhI (LC κ) j) (hb : FB3 (κ 33 0) (κ 33 1) T) (hc0 : noF (LC κ) j → ∀ c x y : Int, 0 ≤ c ∧ c ≤ 2 → T c x y = T 0 x y) : ∀ c x y : Int, 0 ≤ c ∧ c ≤ 2 → inP (κ 33 0) (κ 33 1) x y → h (s + 15) (if bb = 1 then 256 * c + (16 * y + x) else 16 * y + x).toNat = T c x y ∧ 0 ≤ T c x y ∧ T c x y ≤ 4095 := fun c x y hc hp => by
  refine ⟨?_, hb c hc x y hp⟩
  rcases bhI_c (LC κ) j with ⟨a, b⟩ | ⟨a, b⟩
  · rw [if_neg (by omega), (p.1 b).1 x y hp, hc0 b c x y hc]
  · rw [if_pos (by omega), show 256 * c + (16 * y + x) = 256 * c + 16 * y + x by omega]
    exact (p.2 b).1 c hc x y hp

abbrev q_X12_listsZ (b : Bd) (κ : Hp) (x1 : Int) (x2 : Int) (T : P3) (bb : Int) (gh0 : Hp) : Int → Hp → Prop := fun r h' => Fr b κ h' ∧ ((Fw [29] [(0, 53)] gh0 h') ∧ (h' 0 53 = sumS (slF (κ 0 11) (κ 0 12) (κ 0 13) bb (-1) x2) (κ 0 11).toNat (κ 0 12).toNat ∧ LiO (h' 29) (laS (slF (κ 0 11) (κ 0 12) (κ 0 13) bb (-1) x2) (T x2) (κ 0 11).toNat (κ 0 12).toNat) (h' 0 53)))
set_option maxHeartbeats 4000000 in
set_option maxRecDepth 20000 in
theorem s_X12_listsZ {G : Ga} {b : Bd} {κ h : Hp} (hK : KR κ) (hF : Fr b κ h) (x1 : Int) (hx1 : 0 ≤ x1 ∧ x1 ≤ 12 ∧ x1 - κ 0 14 ≤ 0) (x2 : Int) (hx2 : 0 ≤ x2 ∧ x2 ≤ 2) (T : P3) (bb : Int) (gh0 : Hp) (hAt : ∀ x y : Int, inP (κ 0 11) (κ 0 12) x y → (bb = 1 ∨ cl (κ 0 13) x y = x2) → h 17 (768 * x1 + 256 * x2 + 16 * y + x).toNat = T x2 x y ∧ 0 ≤ T x2 x y ∧ T x2 x y ≤ 4095) (hbb : bb = bhI (κ 3) x1.toNat) (hgh : Fw [29] [(0, 53)] gh0 h) : zM G mX12_lists yX12_lists [.inr (.inr 0), .inl x1, .inl x2] h (q_X12_listsZ b κ x1 x2 T bb gh0) := by
  have f_0_11 := KRw hK
  have f_0_12 := KRh hK
  have f_0_13 := KRp hK
  have f_0_14 := KRm hK
  have main : ∀ N : Nat, (∀ (v3 : Int) (h : Hp), Fr b κ h → (0 ≤ v3 ∧ v3 ≤ 16) → (v3 - κ 0 12 ≤ 0) → (h 0 53 = sumS (slF (κ 0 11) (κ 0 12) (κ 0 13) bb (-1) x2) (κ 0 11).toNat v3.toNat) → (LiO (h 29) (laS (slF (κ 0 11) (κ 0 12) (κ 0 13) bb (-1) x2) (T x2) (κ 0 11).toNat v3.toNat) (h 0 53)) → (0 ≤ h 0 53 ∧ h 0 53 ≤ 16 * v3) → (∀ x y : Int, inP (κ 0 11) (κ 0 12) x y → (bb = 1 ∨ cl (κ 0 13) x y = x2) → h 17 (768 * x1 + 256 * x2 + 16 * y + x).toNat = T x2 x y ∧ 0 ≤ T x2 x y ∧ T x2 x y ≤ 4095) → (Fw [29] [(0, 53)] gh0 h) → 24377760 + 30780 * (16 - v3) + 30096 < (N : Int) → zV G mX12_lists (q_X12_listsZ b κ x1 x2 T bb gh0) 7 [some (.inr (.inr 0)), some (.inl x1), some (.inl x2), some (.inl v3), none] [] h) ∧ (∀ (v3 v4 : Int) (h : Hp), Fr b κ h → (0 ≤ v3 ∧ v3 ≤ 15) → (v3 - κ 0 12 ≤ -1) → (0 ≤ v4 ∧ v4 ≤ 16) → (v4 - κ 0 11 ≤ 0) → (h 0 53 = sumS (slF (κ 0 11) (κ 0 12) (κ 0 13) bb (-1) x2) (κ 0 11).toNat v3.toNat + sumR (slF (κ 0 11) (κ 0 12) (κ 0 13) bb (-1) x2) v3 v4.toNat) → (LiO (h 29) (laR (slF (κ 0 11) (κ 0 12) (κ 0 13) bb (-1) x2) (T x2) v3 (laS (slF (κ 0 11) (κ 0 12) (κ 0 13) bb (-1) x2) (T x2) (κ 0 11).toNat v3.toNat) (sumS (slF (κ 0 11) (κ 0 12) (κ 0 13) bb (-1) x2) (κ 0 11).toNat v3.toNat) v4.toNat) (h 0 53)) → (0 ≤ h 0 53 ∧ h 0 53 ≤ 16 * v3 + v4) → (∀ x y : Int, inP (κ 0 11) (κ 0 12) x y → (bb = 1 ∨ cl (κ 0 13) x y = x2) → h 17 (768 * x1 + 256 * x2 + 16 * y + x).toNat = T x2 x y ∧ 0 ≤ T x2 x y ∧ T x2 x y ≤ 4095) → (Fw [29] [(0, 53)] gh0 h) → 24377760 + 30780 * (16 - v3) + 25308 + 38 * (16 - v4) + 37 < (N : Int) → zV G mX12_lists (q_X12_listsZ b κ x1 x2 T bb gh0) 18 [some (.inr (.inr 0)), some (.inl x1), some (.inl x2), some (.inl v3), some (.inl v4)] [] h) := by
    intro N
    induction N with
    | zero =>
      refine ⟨?_, ?_⟩
      · intro v3 h hF g0 g1 gc0 gc1 gc2 hAt hgh hm
        exfalso; omega
      · intro v3 v4 h hF g0 g1 g2 g3 gc0 gc1 gc2 hAt hgh hm
        exfalso; omega
    | succ N ih =>
      obtain ⟨k7, k18⟩ := ih
      refine ⟨?_, ?_⟩
      · intro v3 h hF g0 g1 gc0 gc1 gc2 hAt hgh hm
        refine zW_iload_n (pc' := 8) dX12_lists_0.1.2.1.2 rfl rfl ?_
        refine zW_aload_n (pc' := 9) dX12_lists_0.1.2.2.1 rfl rfl ?_
        refine zG_key (pc' := 12) hF rfl fg_X12_103 tb0 rfl dX12_lists_0.1.2.2.2 rfl ?_
        refine zV_cm_ge (tgt := 89) (pc' := 15) dX12_lists_0.2.1.1.1 rfl rfl ⟨by omega, by omega⟩ ⟨by omega, by omega⟩ (fun c12 => ?_) (fun c12 => ?_)
        · exact zV_vret rfl dX12_lists_2.2.2.2.2 ⟨hF, ⟨hgh, (by have e : v3 = κ 0 12 := (by omega); rw [e] at gc0 gc1; exact ⟨gc0, gc1⟩)⟩⟩
        · refine zW_iconst (pc' := 16) dX12_lists_0.2.1.1.2 rfl ?_
          refine zW_istore (ls' := [_, _, _, _, _]) (pc' := 18) dX12_lists_0.2.1.2.1 (by decide) rfl rfl rfl ?_
          exact k18 _ _ _ hF (by omega) (by omega) (by omega) (by omega) (by first | (rw [sgu, hn1, z74, hy53, gc0]; omega) | (rw [sgu, hn0, gc0]; omega) | (rw [gc0]; exact (Int.add_zero _).symm)) (by first | exact hl2 | (rw [la]; exact gc1) | exact gc1) (by omega) hAt hgh (by omega)
      · intro v3 v4 h hF g0 g1 g2 g3 gc0 gc1 gc2 hAt hgh hm
        refine zW_iload (pc' := 20) dX12_lists_0.2.1.2.2 rfl rfl ?_
        refine zW_aload_n (pc' := 21) dX12_lists_0.2.2.1.1 rfl rfl ?_
        refine zG_key (pc' := 24) hF rfl fg_X12_99 tb0 rfl dX12_lists_0.2.2.1.2 rfl ?_
        refine zV_cm_ge (tgt := 83) (pc' := 27) dX12_lists_0.2.2.2.1 rfl rfl ⟨by omega, by omega⟩ ⟨by omega, by omega⟩ (fun c24 => ?_) (fun c24 => ?_)
        · have ugu := sumS_s (t := (slF (κ 0 11) (κ 0 12) (κ 0 13) bb (-1) x2)) (w := (κ 0 11).toNat) (v := v3) (by omega)
          have lau := laS_s (s := (slF (κ 0 11) (κ 0 12) (κ 0 13) bb (-1) x2)) (v := (T x2)) (w := (κ 0 11).toNat) (y := v3) (by omega)
          refine zW_iinc (ls' := [_, _, _, _, _]) (pc' := 86) dX12_lists_2.2.2.1.2 rfl (by decide) rfl rfl rfl ?_
          refine zV_goto 7 dX12_lists_2.2.2.2.1 rfl ?_
          refine zV_clr 4 (ls' := [_, _, _, _, _]) rfl ?_
          exact k7 _ _ hF (by omega) (by omega) (by first | (rw [z2]; rfl) | (rw [ugu, gc0, show v4 = κ 0 11 by omega])) (by first | (rw [z2]; exact LiO.no) | (rw [lau, show κ 0 11 = v4 by omega]; rw [show κ 0 11 = v4 by omega] at gc1; exact gc1)) (by omega) hAt hgh (by omega)
        · have sgu := sumR_s (t := (slF (κ 0 11) (κ 0 12) (κ 0 13) bb (-1) x2)) (y := v3) (v := v4) (by omega)
          refine zW_aload_n (pc' := 28) dX12_lists_0.2.2.2.2 rfl rfl ?_
          refine zW_iload_n (pc' := 29) dX12_lists_1.1.1.1.1 rfl rfl ?_
          refine cvI1 (pc' := 32) kX12_isBehind vX12_isBehind lk_X12_380 ⟨Nat.le_of_ble_eq_true rfl, Nat.le_of_ble_eq_true rfl⟩ tb0 vq12 rfl rfl (s_X12_isBehindZ hK hF _ ⟨by omega, by omega, by omega⟩) dX12_lists_1.1.1.1.2 (Nat.le_of_ble_eq_true rfl) rfl ?_
          rintro r29 z29 ⟨hz29, p29⟩; subst z29
          refine zV_if_ne (tgt := 49) (pc' := 35) dX12_lists_1.1.1.2.1 rfl rfl ⟨by omega, by omega⟩ (fun c32 => ?_) (fun c32 => ?_)
          · have hcl : bb = 1 ∨ cl (κ 0 13) v4 v3 = x2 := by unfold cl; omega
            have hn1 : (slF (κ 0 11) (κ 0 12) (κ 0 13) bb (-1) x2) v4 v3 = 1 := if_pos ⟨Or.inl rfl, hcl⟩
            have la := laR_1 (v := (T x2)) (n := sumS (slF (κ 0 11) (κ 0 12) (κ 0 13) bb (-1) x2) (κ 0 11).toNat v3.toNat) (A := laS (slF (κ 0 11) (κ 0 12) (κ 0 13) bb (-1) x2) (T x2) (κ 0 11).toNat v3.toNat) (x := v4) (by omega) hn1
            have ha := hAt v4 v3 ⟨by omega, by omega, by omega, by omega⟩ hcl
            obtain ⟨y53, hy53⟩ : ∃ z : Int, z = h 0 53 := ⟨_, rfl⟩
            refine zW_aload_n (pc' := 50) dX12_lists_1.2.1.2.1 rfl rfl ?_
            refine zG_ref (pc' := 53) 29 fg_X12_96 tb0 rfl dX12_lists_1.2.1.2.2 rfl ?_
            refine zW_aload_n (pc' := 54) dX12_lists_1.2.2.1.1 rfl rfl ?_
            refine zG_int (pc' := 57) fg_X12_403 tb0 rfl dX12_lists_1.2.2.1.2 rfl ?_
            have e54 := hF.2.2.1
            refine zW_aload_n (pc' := 58) dX12_lists_1.2.2.2.1 rfl rfl ?_
            refine zW_iload_n (pc' := 59) dX12_lists_1.2.2.2.2 rfl rfl ?_
            refine zW_iload_n (pc' := 60) dX12_lists_2.1.1.1.1 rfl rfl ?_
            refine zW_iload (pc' := 62) dX12_lists_2.1.1.1.2 rfl rfl ?_
            refine zW_iload_n (pc' := 63) dX12_lists_2.1.1.2.1 rfl rfl ?_
            refine cvI4 (pc' := 66) kX12_at vX12_at lk_X12_277 ⟨Nat.le_of_ble_eq_true rfl, Nat.le_of_ble_eq_true rfl⟩ tb0 vq12 rfl rfl (s_X12_atY hK hF _ ⟨by omega, by omega⟩ _ ⟨by omega, by omega⟩ _ ⟨by omega, by omega, by omega⟩ _ ⟨by omega, by omega, by omega⟩) dX12_lists_2.1.1.2.2 (Nat.le_of_ble_eq_true rfl) rfl ?_
            rintro r63 z63 ⟨hz63, p63⟩; subst z63
            have b63 : 0 ≤ r63 ∧ r63 ≤ 4095 := by rw [p63, ha.1]; exact ha.2
            refine zS_i (pc' := 67) hF sr29 tb29 (by omega) dX12_lists_2.1.2.1.1 (by decide) rfl (fun h i66 hF a66 b66 w66 => ?_)
            replace b66 := b66 ⟨by omega, by omega⟩
            replace hgh : Fw [29] [(0, 53)] gh0 h := by rw [w66]; exact hgh.wc (by simp)
            replace hAt : ∀ x y : Int, inP (κ 0 11) (κ 0 12) x y → (bb = 1 ∨ cl (κ 0 13) x y = x2) → h 17 (768 * x1 + 256 * x2 + 16 * y + x).toNat = T x2 x y ∧ 0 ≤ T x2 x y ∧ T x2 x y ≤ 4095 := by have q0_ := (congrFun w66 17).trans (zfun (by decide)); rw [q0_]; exact hAt
            have z66 : h 0 53 = y53 := by rw [w66, hy53]; exact zwr_ne (Or.inl (by decide))
            have hli : LiO (h 29) (put1 (laR (slF (κ 0 11) (κ 0 12) (κ 0 13) bb (-1) x2) (T x2) v3 (laS (slF (κ 0 11) (κ 0 12) (κ 0 13) bb (-1) x2) (T x2) (κ 0 11).toNat v3.toNat) (sumS (slF (κ 0 11) (κ 0 12) (κ 0 13) bb (-1) x2) (κ 0 11).toNat v3.toNat) v4.toNat) y53 (T x2 v4 v3)) (y53 + 1) := by (have q := gc1; rw [← hy53] at q; refine q.put (by omega) ha.2 ?_ ?_; (rw [w66, b66, hy53]; exact zwr_eq.trans (by rw [p63]; exact ha.1)); (intro i hi; rw [w66]; exact zwr_ne (Or.inr (by rw [← hy53]; exact hi))))
            refine zW_aload_n (pc' := 68) dX12_lists_2.1.2.1.2 rfl rfl ?_
            refine zW_aload_n (pc' := 69) dX12_lists_2.1.2.2.1 rfl rfl ?_
            refine zG_int (pc' := 72) fg_X12_403 tb0 rfl dX12_lists_2.1.2.2.2 rfl ?_
            have e69 := hF.2.2.1
            refine zW_iconst (pc' := 73) dX12_lists_2.2.1.1.1 rfl ?_
            refine zW_iadd (pc' := 74) dX12_lists_2.2.1.1.2 rfl ?_
            refine zX_int (pc' := 77) (hF.p53 ⟨by omega, by omega⟩) fp_X12_403 tb0 rfl dX12_lists_2.2.1.2.1 rfl (fun h hF w74 => ?_)
            replace hgh : Fw [29] [(0, 53)] gh0 h := by rw [w74]; exact hgh.wf (by simp)
            replace hAt : ∀ x y : Int, inP (κ 0 11) (κ 0 12) x y → (bb = 1 ∨ cl (κ 0 13) x y = x2) → h 17 (768 * x1 + 256 * x2 + 16 * y + x).toNat = T x2 x y ∧ 0 ≤ T x2 x y ∧ T x2 x y ≤ 4095 := by have q0_ := (congrFun w74 17).trans (zfun (by decide)); rw [q0_]; exact hAt
            first | (have z74 : h 0 53 = y53 + 1 := by (rw [w74]; exact zwr_eq.trans (by first | (rw [b74, z66]) | (rw [z66])))) | skip
            first | (have hl2 : LiO (h 29) (laR (slF (κ 0 11) (κ 0 12) (κ 0 13) bb (-1) x2) (T x2) v3 (laS (slF (κ 0 11) (κ 0 12) (κ 0 13) bb (-1) x2) (T x2) (κ 0 11).toNat v3.toNat) (sumS (slF (κ 0 11) (κ 0 12) (κ 0 13) bb (-1) x2) (κ 0 11).toNat v3.toNat) (v4 + 1).toNat) (h 0 53) := by (rw [z74, la, w74, zfun (by decide), ← gc0, ← hy53]; exact hli)) | skip
            refine zW_iinc (ls' := [_, _, _, _, _]) (pc' := 80) dX12_lists_2.2.1.2.2 rfl (by decide) rfl rfl rfl ?_
            refine zV_goto 18 dX12_lists_2.2.2.1.1 rfl ?_
            exact k18 _ _ _ hF (by omega) (by omega) (by omega) (by omega) (by first | (rw [sgu, hn1, z74, hy53, gc0]; omega) | (rw [sgu, hn0, gc0]; omega) | (rw [gc0]; exact (Int.add_zero _).symm)) (by first | exact hl2 | (rw [la]; exact gc1) | exact gc1) (by omega) hAt hgh (by omega)
          · refine zW_aload_n (pc' := 36) dX12_lists_1.1.1.2.2 rfl rfl ?_
            refine zW_iload (pc' := 38) dX12_lists_1.1.2.1.1 rfl rfl ?_
            refine zW_iload_n (pc' := 39) dX12_lists_1.1.2.1.2 rfl rfl ?_
            refine cvI2 (pc' := 42) kX12_colourAt vX12_colourAt lk_X12_225 ⟨Nat.le_of_ble_eq_true rfl, Nat.le_of_ble_eq_true rfl⟩ tb0 vq12 rfl rfl (s_X12_colourAtZ hK hF _ ⟨by omega, by omega⟩ _ ⟨by omega, by omega⟩) dX12_lists_1.1.2.2.1 (Nat.le_of_ble_eq_true rfl) rfl ?_
            rintro r39 z39 ⟨hz39, p39⟩; subst z39
            refine zW_iload_n (pc' := 43) dX12_lists_1.1.2.2.2 rfl rfl ?_
            refine zV_cm_eq (tgt := 49) (pc' := 46) dX12_lists_1.2.1.1.1 rfl rfl ⟨by omega, by omega⟩ ⟨by omega, by omega⟩ (fun c43 => ?_) (fun c43 => ?_)
            · have hcl : bb = 1 ∨ cl (κ 0 13) v4 v3 = x2 := by unfold cl; omega
              have hn1 : (slF (κ 0 11) (κ 0 12) (κ 0 13) bb (-1) x2) v4 v3 = 1 := if_pos ⟨Or.inl rfl, hcl⟩
              have la := laR_1 (v := (T x2)) (n := sumS (slF (κ 0 11) (κ 0 12) (κ 0 13) bb (-1) x2) (κ 0 11).toNat v3.toNat) (A := laS (slF (κ 0 11) (κ 0 12) (κ 0 13) bb (-1) x2) (T x2) (κ 0 11).toNat v3.toNat) (x := v4) (by omega) hn1
              have ha := hAt v4 v3 ⟨by omega, by omega, by omega, by omega⟩ hcl
              obtain ⟨y53, hy53⟩ : ∃ z : Int, z = h 0 53 := ⟨_, rfl⟩
              refine zW_aload_n (pc' := 50) dX12_lists_1.2.1.2.1 rfl rfl ?_
              refine zG_ref (pc' := 53) 29 fg_X12_96 tb0 rfl dX12_lists_1.2.1.2.2 rfl ?_
              refine zW_aload_n (pc' := 54) dX12_lists_1.2.2.1.1 rfl rfl ?_
              refine zG_int (pc' := 57) fg_X12_403 tb0 rfl dX12_lists_1.2.2.1.2 rfl ?_
              have e54 := hF.2.2.1
              refine zW_aload_n (pc' := 58) dX12_lists_1.2.2.2.1 rfl rfl ?_
              refine zW_iload_n (pc' := 59) dX12_lists_1.2.2.2.2 rfl rfl ?_
              refine zW_iload_n (pc' := 60) dX12_lists_2.1.1.1.1 rfl rfl ?_
              refine zW_iload (pc' := 62) dX12_lists_2.1.1.1.2 rfl rfl ?_
              refine zW_iload_n (pc' := 63) dX12_lists_2.1.1.2.1 rfl rfl ?_
              refine cvI4 (pc' := 66) kX12_at vX12_at lk_X12_277 ⟨Nat.le_of_ble_eq_true rfl, Nat.le_of_ble_eq_true rfl⟩ tb0 vq12 rfl rfl (s_X12_atY hK hF _ ⟨by omega, by omega⟩ _ ⟨by omega, by omega⟩ _ ⟨by omega, by omega, by omega⟩ _ ⟨by omega, by omega, by omega⟩) dX12_lists_2.1.1.2.2 (Nat.le_of_ble_eq_true rfl) rfl ?_
              rintro r63 z63 ⟨hz63, p63⟩; subst z63
              have b63 : 0 ≤ r63 ∧ r63 ≤ 4095 := by rw [p63, ha.1]; exact ha.2
              refine zS_i (pc' := 67) hF sr29 tb29 (by omega) dX12_lists_2.1.2.1.1 (by decide) rfl (fun h i66 hF a66 b66 w66 => ?_)
              replace b66 := b66 ⟨by omega, by omega⟩
              replace hgh : Fw [29] [(0, 53)] gh0 h := by rw [w66]; exact hgh.wc (by simp)
              replace hAt : ∀ x y : Int, inP (κ 0 11) (κ 0 12) x y → (bb = 1 ∨ cl (κ 0 13) x y = x2) → h 17 (768 * x1 + 256 * x2 + 16 * y + x).toNat = T x2 x y ∧ 0 ≤ T x2 x y ∧ T x2 x y ≤ 4095 := by have q0_ := (congrFun w66 17).trans (zfun (by decide)); rw [q0_]; exact hAt
              have z66 : h 0 53 = y53 := by rw [w66, hy53]; exact zwr_ne (Or.inl (by decide))
              have hli : LiO (h 29) (put1 (laR (slF (κ 0 11) (κ 0 12) (κ 0 13) bb (-1) x2) (T x2) v3 (laS (slF (κ 0 11) (κ 0 12) (κ 0 13) bb (-1) x2) (T x2) (κ 0 11).toNat v3.toNat) (sumS (slF (κ 0 11) (κ 0 12) (κ 0 13) bb (-1) x2) (κ 0 11).toNat v3.toNat) v4.toNat) y53 (T x2 v4 v3)) (y53 + 1) := by (have q := gc1; rw [← hy53] at q; refine q.put (by omega) ha.2 ?_ ?_; (rw [w66, b66, hy53]; exact zwr_eq.trans (by rw [p63]; exact ha.1)); (intro i hi; rw [w66]; exact zwr_ne (Or.inr (by rw [← hy53]; exact hi))))
              refine zW_aload_n (pc' := 68) dX12_lists_2.1.2.1.2 rfl rfl ?_
              refine zW_aload_n (pc' := 69) dX12_lists_2.1.2.2.1 rfl rfl ?_
              refine zG_int (pc' := 72) fg_X12_403 tb0 rfl dX12_lists_2.1.2.2.2 rfl ?_
              have e69 := hF.2.2.1
              refine zW_iconst (pc' := 73) dX12_lists_2.2.1.1.1 rfl ?_
              refine zW_iadd (pc' := 74) dX12_lists_2.2.1.1.2 rfl ?_
              refine zX_int (pc' := 77) (hF.p53 ⟨by omega, by omega⟩) fp_X12_403 tb0 rfl dX12_lists_2.2.1.2.1 rfl (fun h hF w74 => ?_)
              replace hgh : Fw [29] [(0, 53)] gh0 h := by rw [w74]; exact hgh.wf (by simp)
              replace hAt : ∀ x y : Int, inP (κ 0 11) (κ 0 12) x y → (bb = 1 ∨ cl (κ 0 13) x y = x2) → h 17 (768 * x1 + 256 * x2 + 16 * y + x).toNat = T x2 x y ∧ 0 ≤ T x2 x y ∧ T x2 x y ≤ 4095 := by have q0_ := (congrFun w74 17).trans (zfun (by decide)); rw [q0_]; exact hAt
              first | (have z74 : h 0 53 = y53 + 1 := by (rw [w74]; exact zwr_eq.trans (by first | (rw [b74, z66]) | (rw [z66])))) | skip
              first | (have hl2 : LiO (h 29) (laR (slF (κ 0 11) (κ 0 12) (κ 0 13) bb (-1) x2) (T x2) v3 (laS (slF (κ 0 11) (κ 0 12) (κ 0 13) bb (-1) x2) (T x2) (κ 0 11).toNat v3.toNat) (sumS (slF (κ 0 11) (κ 0 12) (κ 0 13) bb (-1) x2) (κ 0 11).toNat v3.toNat) (v4 + 1).toNat) (h 0 53) := by (rw [z74, la, w74, zfun (by decide), ← gc0, ← hy53]; exact hli)) | skip
              refine zW_iinc (ls' := [_, _, _, _, _]) (pc' := 80) dX12_lists_2.2.1.2.2 rfl (by decide) rfl rfl rfl ?_
              refine zV_goto 18 dX12_lists_2.2.2.1.1 rfl ?_
              exact k18 _ _ _ hF (by omega) (by omega) (by omega) (by omega) (by first | (rw [sgu, hn1, z74, hy53, gc0]; omega) | (rw [sgu, hn0, gc0]; omega) | (rw [gc0]; exact (Int.add_zero _).symm)) (by first | exact hl2 | (rw [la]; exact gc1) | exact gc1) (by omega) hAt hgh (by omega)
            · have hn0 : (slF (κ 0 11) (κ 0 12) (κ 0 13) bb (-1) x2) v4 v3 = 0 := if_neg (fun q => by have q2 := q.2; unfold cl at q2; omega)
              have la := laR_0 (v := (T x2)) (n := sumS (slF (κ 0 11) (κ 0 12) (κ 0 13) bb (-1) x2) (κ 0 11).toNat v3.toNat) (A := laS (slF (κ 0 11) (κ 0 12) (κ 0 13) bb (-1) x2) (T x2) (κ 0 11).toNat v3.toNat) (x := v4) (by omega) hn0
              refine zV_goto 77 dX12_lists_1.2.1.1.2 rfl ?_
              first | (have z74 : h 0 53 = y53 + 1 := by (rw [w74]; exact zwr_eq.trans (by first | (rw [b74, z66]) | (rw [z66])))) | skip
              first | (have hl2 : LiO (h 29) (laR (slF (κ 0 11) (κ 0 12) (κ 0 13) bb (-1) x2) (T x2) v3 (laS (slF (κ 0 11) (κ 0 12) (κ 0 13) bb (-1) x2) (T x2) (κ 0 11).toNat v3.toNat) (sumS (slF (κ 0 11) (κ 0 12) (κ 0 13) bb (-1) x2) (κ 0 11).toNat v3.toNat) (v4 + 1).toNat) (h 0 53) := by (rw [z74, la, w74, zfun (by decide), ← gc0, ← hy53]; exact hli)) | skip
              refine zW_iinc (ls' := [_, _, _, _, _]) (pc' := 80) dX12_lists_2.2.1.2.2 rfl (by decide) rfl rfl rfl ?_
              refine zV_goto 18 dX12_lists_2.2.2.1.1 rfl ?_
              exact k18 _ _ _ hF (by omega) (by omega) (by omega) (by omega) (by first | (rw [sgu, hn1, z74, hy53, gc0]; omega) | (rw [sgu, hn0, gc0]; omega) | (rw [gc0]; exact (Int.add_zero _).symm)) (by first | exact hl2 | (rw [la]; exact gc1) | exact gc1) (by omega) hAt hgh (by omega)
  refine zM_of [some (.inr (.inr 0)), some (.inl x1), some (.inl x2), none, none] 2 rfl rfl (Nat.le_of_ble_eq_true rfl) rfl ?_
  refine zW_aload_n (pc' := 1) dX12_lists_0.1.1.1.1 rfl rfl ?_
  refine zW_iconst (pc' := 2) dX12_lists_0.1.1.1.2 rfl ?_
  refine zX_int (pc' := 5) (hF.p53 ⟨by omega, by omega⟩) fp_X12_403 tb0 rfl dX12_lists_0.1.1.2.1 rfl (fun h hF w2 => ?_)
  replace hgh : Fw [29] [(0, 53)] gh0 h := by rw [w2]; exact hgh.wf (by simp)
  replace hAt : ∀ x y : Int, inP (κ 0 11) (κ 0 12) x y → (bb = 1 ∨ cl (κ 0 13) x y = x2) → h 17 (768 * x1 + 256 * x2 + 16 * y + x).toNat = T x2 x y ∧ 0 ≤ T x2 x y ∧ T x2 x y ≤ 4095 := by have q0_ := (congrFun w2 17).trans (zfun (by decide)); rw [q0_]; exact hAt
  have z2 : h 0 53 = 0 := by rw [w2]; exact zwr_eq.trans (by first | rfl | exact b2)
  refine zW_iconst (pc' := 6) dX12_lists_0.1.1.2.2 rfl ?_
  refine zW_istore_n (ls' := [_, _, _, _, _]) (pc' := 7) dX12_lists_0.1.2.1.1 (by decide) rfl rfl rfl ?_
  exact (main 10000000000000000000000000000000000000000).1 _ _ hF (by omega) (by omega) (by first | (rw [z2]; rfl) | (rw [ugu, gc0, show v4 = κ 0 11 by omega])) (by first | (rw [z2]; exact LiO.no) | (rw [lau, show κ 0 11 = v4 by omega]; rw [show κ 0 11 = v4 by omega] at gc1; exact gc1)) (by omega) hAt hgh (by omega)


abbrev q_X4_ringOfZ (κ h : Hp) (x1 : Int) (x2 : Int) : Int → Hp → Prop := fun r h' => h' = h ∧ ((0 ≤ r) ∧ (r ≤ 7688) ∧ (r = rgF (κ 33 0) (κ 33 1) x1 x2))
set_option maxHeartbeats 4000000 in
set_option maxRecDepth 20000 in
theorem s_X4_ringOfZ {G : Ga} {b : Bd} {κ h : Hp} (hK : KC κ) (hF : Fr b κ h) (x1 : Int) (hx1 : 0 ≤ x1 ∧ x1 ≤ 15 ∧ x1 - κ 33 0 ≤ -1) (x2 : Int) (hx2 : 0 ≤ x2 ∧ x2 ≤ 15 ∧ x2 - κ 33 1 ≤ -1) : zM G mX4_ringOf yX4_ringOf [.inr (.inr 95), .inl x1, .inl x2] h (q_X4_ringOfZ κ h x1 x2) := by
  have f_33_0 := KCw hK
  have f_33_1 := KCh hK
  refine zM_of [some (.inr (.inr 95)), some (.inl x1), some (.inl x2), none, none, none] 3 rfl rfl (Nat.le_of_ble_eq_true rfl) rfl ?_
  refine zW_iconst (pc' := 1) dX4_ringOf_0.1.1.1.1 rfl ?_
  refine zW_iload_n (pc' := 2) dX4_ringOf_0.1.1.1.2 rfl rfl ?_
  refine zW_imul (pc' := 3) dX4_ringOf_0.1.1.2.1 rfl ?_
  refine zW_iconst (pc' := 4) dX4_ringOf_0.1.1.2.2 rfl ?_
  refine zW_iadd (pc' := 5) dX4_ringOf_0.1.2.1.1 rfl ?_
  refine zW_aload_n (pc' := 6) dX4_ringOf_0.1.2.1.2 rfl rfl ?_
  refine zG_ref (pc' := 9) 33 fg_X4_19 tb95 rfl dX4_ringOf_0.1.2.2.1 rfl ?_
  refine zG_key (pc' := 12) hF rfl fg_X4_36 tb33 rfl dX4_ringOf_0.1.2.2.2 rfl ?_
  refine zW_isub (pc' := 13) dX4_ringOf_0.2.1.1.1 rfl ?_
  refine zW_istore_n (ls' := [_, _, _, _, _, _]) (pc' := 14) dX4_ringOf_0.2.1.1.2 (by decide) rfl rfl rfl ?_
  refine zW_iconst (pc' := 15) dX4_ringOf_0.2.1.2.1 rfl ?_
  refine zW_iload_n (pc' := 16) dX4_ringOf_0.2.1.2.2 rfl rfl ?_
  refine zW_imul (pc' := 17) dX4_ringOf_0.2.2.1.1 rfl ?_
  refine zW_iconst (pc' := 18) dX4_ringOf_0.2.2.1.2 rfl ?_
  refine zW_iadd (pc' := 19) dX4_ringOf_0.2.2.2.1 rfl ?_
  refine zW_aload_n (pc' := 20) dX4_ringOf_0.2.2.2.2 rfl rfl ?_
  refine zG_ref (pc' := 23) 33 fg_X4_19 tb95 rfl dX4_ringOf_1.1.1.1.1 rfl ?_
  refine zG_key (pc' := 26) hF rfl fg_X4_31 tb33 rfl dX4_ringOf_1.1.1.1.2 rfl ?_
  refine zW_isub (pc' := 27) dX4_ringOf_1.1.1.2.1 rfl ?_
  refine zW_istore (ls' := [_, _, _, _, _, _]) (pc' := 29) dX4_ringOf_1.1.1.2.2 (by decide) rfl rfl rfl ?_
  refine zW_aload_n (pc' := 30) dX4_ringOf_1.1.2.1.1 rfl rfl ?_
  refine zG_ref (pc' := 33) 33 fg_X4_19 tb95 rfl dX4_ringOf_1.1.2.1.2 rfl ?_
  refine zG_key (pc' := 36) hF rfl fg_X4_36 tb33 rfl dX4_ringOf_1.1.2.2.1 rfl ?_
  refine zW_aload_n (pc' := 37) dX4_ringOf_1.1.2.2.2 rfl rfl ?_
  refine zG_ref (pc' := 40) 33 fg_X4_19 tb95 rfl dX4_ringOf_1.2.1.1.1 rfl ?_
  refine zG_key (pc' := 43) hF rfl fg_X4_36 tb33 rfl dX4_ringOf_1.2.1.1.2 rfl ?_
  refine zW_imul (pc' := 44) dX4_ringOf_1.2.1.2.1 rfl ?_
  refine zW_aload_n (pc' := 45) dX4_ringOf_1.2.1.2.2 rfl rfl ?_
  refine zG_ref (pc' := 48) 33 fg_X4_19 tb95 rfl dX4_ringOf_1.2.2.1.1 rfl ?_
  refine zG_key (pc' := 51) hF rfl fg_X4_31 tb33 rfl dX4_ringOf_1.2.2.1.2 rfl ?_
  refine zW_aload_n (pc' := 52) dX4_ringOf_1.2.2.2.1 rfl rfl ?_
  refine zG_ref (pc' := 55) 33 fg_X4_19 tb95 rfl dX4_ringOf_1.2.2.2.2 rfl ?_
  refine zG_key (pc' := 58) hF rfl fg_X4_31 tb33 rfl dX4_ringOf_2.1.1.1.1 rfl ?_
  refine zW_imul (pc' := 59) dX4_ringOf_2.1.1.1.2 rfl ?_
  refine zW_iadd (pc' := 60) dX4_ringOf_2.1.1.2.1 rfl ?_
  refine zW_istore (ls' := [_, _, _, _, _, _]) (pc' := 62) dX4_ringOf_2.1.1.2.2 (by decide) rfl rfl rfl ?_
  have hm1 := mul_b f_33_0 f_33_0
  have hm2 := mul_b f_33_1 f_33_1
  refine zW_iload (pc' := 64) dX4_ringOf_2.1.2.1.1 rfl rfl ?_
  refine zV_if_le (tgt := 84) (pc' := 67) dX4_ringOf_2.1.2.1.2 rfl rfl ⟨by omega, by omega⟩ (fun c64 => ?_) (fun c64 => ?_)
  · exfalso; omega
  · refine zW_iload_n (pc' := 68) dX4_ringOf_2.1.2.2.1 rfl rfl ?_
    refine zW_iload_n (pc' := 69) dX4_ringOf_2.1.2.2.2 rfl rfl ?_
    have qx := sqb (a := 2 * x1 + 1 - κ 33 0) (A := 31) ⟨by omega, by omega⟩
    have qy := sqb (a := 2 * x2 + 1 - κ 33 1) (A := 31) ⟨by omega, by omega⟩
    refine zW_imul (pc' := 70) dX4_ringOf_2.2.1.1.1 rfl ?_
    refine zW_iload (pc' := 72) dX4_ringOf_2.2.1.1.2 rfl rfl ?_
    refine zW_iload (pc' := 74) dX4_ringOf_2.2.1.2.1 rfl rfl ?_
    refine zW_imul (pc' := 75) dX4_ringOf_2.2.1.2.2 rfl ?_
    refine zW_iadd (pc' := 76) dX4_ringOf_2.2.2.1.1 rfl ?_
    refine zW_iconst (pc' := 77) dX4_ringOf_2.2.2.1.2 rfl ?_
    refine zW_imul (pc' := 78) dX4_ringOf_2.2.2.2.1 rfl ?_
    refine zW_iload (pc' := 80) dX4_ringOf_2.2.2.2.2 rfl rfl ?_
    refine zW_idivX (pc' := 81) ⟨by omega, by omega⟩ ⟨by omega, by omega⟩ dX4_ringOf_3.1.1 rfl (fun v80 t80 e80 => ?_)
    unfold rng at e80
    have hq := tdb2 (a := ((2 * x1 + 1 - κ 33 0) * (2 * x1 + 1 - κ 33 0) + (2 * x2 + 1 - κ 33 1) * (2 * x2 + 1 - κ 33 1)) * 4) (d := κ 33 0 * κ 33 0 + κ 33 1 * κ 33 1) (by omega) (by omega)
    refine zV_goto 85 dX4_ringOf_3.1.2 rfl ?_
    exact zV_iret rfl dX4_ringOf_3.2.2 ⟨rfl, (by first | (exfalso; omega) | (have e : v80 = rgF (κ 33 0) (κ 33 1) x1 x2 := (by unfold rgF; rw [t80, Int.tdiv_eq_ediv_of_nonneg (by omega)]); rw [← t80] at hq; exact ⟨by omega, by omega, e⟩))⟩

abbrev q_X4_gatherRingZ (b : Bd) (κ : Hp) (s1 : Nat) (x2 : Int) (x3 : Int) (T : P3) (bb : Int) (gh0 : Hp) : Int → Hp → Prop := fun r h' => Fr b κ h' ∧ ((Fw [96] [(95, 0)] gh0 h') ∧ (h' 95 0 = sumS (slF (κ 33 0) (κ 33 1) (κ 33 2) bb x3 x2) (κ 33 0).toNat (κ 33 1).toNat ∧ LiO (h' 96) (laS (slF (κ 33 0) (κ 33 1) (κ 33 2) bb x3 x2) (T x2) (κ 33 0).toNat (κ 33 1).toNat) (h' 95 0)))
set_option maxHeartbeats 4000000 in
set_option maxRecDepth 20000 in
theorem s_X4_gatherRingZ {G : Ga} {b : Bd} {κ h : Hp} (hK : KC κ) (hF : Fr b κ h) (s1 : Nat) (hs1 : 56 ≤ s1 ∧ s1 ≤ 70) (x2 : Int) (hx2 : 0 ≤ x2 ∧ x2 ≤ 2) (x3 : Int) (hx3 : -1 ≤ x3 ∧ x3 ≤ 3) (T : P3) (bb : Int) (gh0 : Hp) (hbb : h s1 1 = bb) (hb01 : 0 ≤ bb ∧ bb ≤ 1) (hAt : ∀ x y : Int, inP (κ 33 0) (κ 33 1) x y → h (s1 + 15) (if bb = 1 then 256 * x2 + (16 * y + x) else 16 * y + x).toNat = T x2 x y ∧ 0 ≤ T x2 x y ∧ T x2 x y ≤ 4095) (hgh : Fw [96] [(95, 0)] gh0 h) : zM G mX4_gatherRing yX4_gatherRing [.inr (.inr 95), .inr (.inr s1), .inl x2, .inl x3] h (q_X4_gatherRingZ b κ s1 x2 x3 T bb gh0) := by
  have f_33_0 := KCw hK
  have f_33_1 := KCh hK
  have f_33_2 := KCp hK
  have main : ∀ N : Nat, (∀ (v4 : Int) (h : Hp), Fr b κ h → (0 ≤ v4 ∧ v4 ≤ 16) → (v4 - κ 33 1 ≤ 0) → (h 95 0 = sumS (slF (κ 33 0) (κ 33 1) (κ 33 2) bb x3 x2) (κ 33 0).toNat v4.toNat) → (LiO (h 96) (laS (slF (κ 33 0) (κ 33 1) (κ 33 2) bb x3 x2) (T x2) (κ 33 0).toNat v4.toNat) (h 95 0)) → (0 ≤ h 95 0 ∧ h 95 0 ≤ 16 * v4) → (∀ x y : Int, inP (κ 33 0) (κ 33 1) x y → h (s1 + 15) (if bb = 1 then 256 * x2 + (16 * y + x) else 16 * y + x).toNat = T x2 x y ∧ 0 ≤ T x2 x y ∧ T x2 x y ≤ 4095) → (h s1 1 = bb) → (Fw [96] [(95, 0)] gh0 h) → 76826880 + 66690 * (16 - v4) + 65664 < (N : Int) → zV G mX4_gatherRing (q_X4_gatherRingZ b κ s1 x2 x3 T bb gh0) 8 [some (.inr (.inr 95)), some (.inr (.inr s1)), some (.inl x2), some (.inl x3), some (.inl v4), none, none] [] h) ∧ (∀ (v4 v5 : Int) (h : Hp), Fr b κ h → (0 ≤ v4 ∧ v4 ≤ 15) → (v4 - κ 33 1 ≤ -1) → (0 ≤ v5 ∧ v5 ≤ 16) → (v5 - κ 33 0 ≤ 0) → (h 95 0 = sumS (slF (κ 33 0) (κ 33 1) (κ 33 2) bb x3 x2) (κ 33 0).toNat v4.toNat + sumR (slF (κ 33 0) (κ 33 1) (κ 33 2) bb x3 x2) v4 v5.toNat) → (LiO (h 96) (laR (slF (κ 33 0) (κ 33 1) (κ 33 2) bb x3 x2) (T x2) v4 (laS (slF (κ 33 0) (κ 33 1) (κ 33 2) bb x3 x2) (T x2) (κ 33 0).toNat v4.toNat) (sumS (slF (κ 33 0) (κ 33 1) (κ 33 2) bb x3 x2) (κ 33 0).toNat v4.toNat) v5.toNat) (h 95 0)) → (0 ≤ h 95 0 ∧ h 95 0 ≤ 16 * v4 + v5) → (∀ x y : Int, inP (κ 33 0) (κ 33 1) x y → h (s1 + 15) (if bb = 1 then 256 * x2 + (16 * y + x) else 16 * y + x).toNat = T x2 x y ∧ 0 ≤ T x2 x y ∧ T x2 x y ≤ 4095) → (h s1 1 = bb) → (Fw [96] [(95, 0)] gh0 h) → 76826880 + 66690 * (16 - v4) + 57456 + 57 * (16 - v5) + 56 < (N : Int) → zV G mX4_gatherRing (q_X4_gatherRingZ b κ s1 x2 x3 T bb gh0) 23 [some (.inr (.inr 95)), some (.inr (.inr s1)), some (.inl x2), some (.inl x3), some (.inl v4), some (.inl v5), none] [] h) := by
    intro N
    induction N with
    | zero =>
      refine ⟨?_, ?_⟩
      · intro v4 h hF g0 g1 gc0 gc1 gc2 hAt hbb hgh hm
        exfalso; omega
      · intro v4 v5 h hF g0 g1 g2 g3 gc0 gc1 gc2 hAt hbb hgh hm
        exfalso; omega
    | succ N ih =>
      obtain ⟨k8, k23⟩ := ih
      refine ⟨?_, ?_⟩
      · intro v4 h hF g0 g1 gc0 gc1 gc2 hAt hbb hgh hm
        refine zW_iload (pc' := 10) dX4_gatherRing_0.1.2.1.2 rfl rfl ?_
        refine zW_aload_n (pc' := 11) dX4_gatherRing_0.1.2.2.1 rfl rfl ?_
        refine zG_ref (pc' := 14) 33 fg_X4_19 tb95 rfl dX4_gatherRing_0.1.2.2.2 rfl ?_
        refine zG_key (pc' := 17) hF rfl fg_X4_31 tb33 rfl dX4_gatherRing_0.2.1.1.1 rfl ?_
        refine zV_cm_ge (tgt := 134) (pc' := 20) dX4_gatherRing_0.2.1.1.2 rfl rfl ⟨by omega, by omega⟩ ⟨by omega, by omega⟩ (fun c17 => ?_) (fun c17 => ?_)
        · exact zV_vret rfl dX4_gatherRing_4.2.2 ⟨hF, ⟨hgh, (by have e : v4 = κ 33 1 := (by omega); rw [e] at gc0 gc1; exact ⟨gc0, gc1⟩)⟩⟩
        · refine zW_iconst (pc' := 21) dX4_gatherRing_0.2.1.2.1 rfl ?_
          refine zW_istore (ls' := [_, _, _, _, _, _, _]) (pc' := 23) dX4_gatherRing_0.2.1.2.2 (by decide) rfl rfl rfl ?_
          exact k23 _ _ _ hF (by omega) (by omega) (by omega) (by omega) (by first | (rw [sgu, hn1, z119, hy53, gc0]; omega) | (rw [sgu, hn0, gc0]; omega) | (rw [gc0]; exact (Int.add_zero _).symm)) (by first | exact hl2 | (rw [la]; exact gc1) | exact gc1) (by omega) hAt hbb hgh (by omega)
      · intro v4 v5 h hF g0 g1 g2 g3 gc0 gc1 gc2 hAt hbb hgh hm
        refine zW_iload (pc' := 25) dX4_gatherRing_0.2.2.1.1 rfl rfl ?_
        refine zW_aload_n (pc' := 26) dX4_gatherRing_0.2.2.1.2 rfl rfl ?_
        refine zG_ref (pc' := 29) 33 fg_X4_19 tb95 rfl dX4_gatherRing_0.2.2.2.1 rfl ?_
        refine zG_key (pc' := 32) hF rfl fg_X4_36 tb33 rfl dX4_gatherRing_0.2.2.2.2 rfl ?_
        refine zV_cm_ge (tgt := 128) (pc' := 35) dX4_gatherRing_1.1.1.1.1 rfl rfl ⟨by omega, by omega⟩ ⟨by omega, by omega⟩ (fun c32 => ?_) (fun c32 => ?_)
        · have ugu := sumS_s (t := (slF (κ 33 0) (κ 33 1) (κ 33 2) bb x3 x2)) (w := (κ 33 0).toNat) (v := v4) (by omega)
          have lau := laS_s (s := (slF (κ 33 0) (κ 33 1) (κ 33 2) bb x3 x2)) (v := (T x2)) (w := (κ 33 0).toNat) (y := v4) (by omega)
          refine zW_iinc (ls' := [_, _, _, _, _, _, _]) (pc' := 131) dX4_gatherRing_4.1.2 rfl (by decide) rfl rfl rfl ?_
          refine zV_goto 8 dX4_gatherRing_4.2.1 rfl ?_
          refine zV_clr 5 (ls' := [_, _, _, _, _, _, _]) rfl ?_
          exact k8 _ _ hF (by omega) (by omega) (by first | (rw [z2]; rfl) | (rw [ugu, gc0, show v5 = κ 33 0 by omega])) (by first | (rw [z2]; exact LiO.no) | (rw [lau, show κ 33 0 = v5 by omega]; rw [show κ 33 0 = v5 by omega] at gc1; exact gc1)) (by omega) hAt hbb hgh (by omega)
        · have sgu := sumR_s (t := (slF (κ 33 0) (κ 33 1) (κ 33 2) bb x3 x2)) (y := v4) (v := v5) (by omega)
          have h01 := slF_01 (W := κ 33 0) (H := κ 33 1) (P := κ 33 2) (bh := bb) (r := x3) (c := x2) (x := v5) (y := v4)
          obtain ⟨y53, hy53⟩ : ∃ z : Int, z = h 95 0 := ⟨_, rfl⟩
          refine zW_iload_n (pc' := 36) dX4_gatherRing_1.1.1.1.2 rfl rfl ?_
          refine zW_iconst (pc' := 37) dX4_gatherRing_1.1.1.2.1 rfl ?_
          refine zV_cm_eq (tgt := 52) (pc' := 40) dX4_gatherRing_1.1.1.2.2 rfl rfl ⟨by omega, by omega⟩ ⟨by omega, by omega⟩ (fun c37 => ?_) (fun c37 => ?_)
          · refine zW_iconst (pc' := 53) dX4_gatherRing_1.2.1.2.1 rfl ?_
            refine zV_goto 57 dX4_gatherRing_1.2.1.2.2 rfl ?_
            refine zW_istore (ls' := [_, _, _, _, _, _, _]) (pc' := 59) dX4_gatherRing_1.2.2.1.2 (by decide) rfl rfl rfl ?_
            refine zW_iload (pc' := 61) dX4_gatherRing_1.2.2.2.1 rfl rfl ?_
            refine zV_if_eq (tgt := 122) (pc' := 64) dX4_gatherRing_1.2.2.2.2 rfl rfl ⟨by omega, by omega⟩ (fun c61 => ?_) (fun c61 => ?_)
            · exfalso; omega
            · refine zW_aload_n (pc' := 65) dX4_gatherRing_2.1.1.1.1 rfl rfl ?_
              refine zG_int (pc' := 68) fg_X4_27 tb95 rfl dX4_gatherRing_2.1.1.1.2 rfl ?_
              have e65 := hF.2.2.2.2.1
              refine zW_sipush (pc' := 71) dX4_gatherRing_2.1.1.2.1 rfl rfl ?_
              refine zV_cm_ge (tgt := 122) (pc' := 74) dX4_gatherRing_2.1.1.2.2 rfl rfl ⟨by omega, by omega⟩ ⟨by omega, by omega⟩ (fun c71 => ?_) (fun c71 => ?_)
              · first | (have z119 : h 95 0 = y53 + 1 := by (rw [w119]; exact zwr_eq.trans (by first | (rw [b119, z111]) | (rw [z111])))) | (have hn0 : (slF (κ 33 0) (κ 33 1) (κ 33 2) bb x3 x2) v5 v4 = 0 := if_neg (fun q => by omega))
                first | (have hl2 : LiO (h 96) (laR (slF (κ 33 0) (κ 33 1) (κ 33 2) bb x3 x2) (T x2) v4 (laS (slF (κ 33 0) (κ 33 1) (κ 33 2) bb x3 x2) (T x2) (κ 33 0).toNat v4.toNat) (sumS (slF (κ 33 0) (κ 33 1) (κ 33 2) bb x3 x2) (κ 33 0).toNat v4.toNat) (v5 + 1).toNat) (h 95 0) := by (rw [z119, la, w119, zfun (by decide), ← gc0, ← hy53]; exact hli)) | (have la := laR_0 (v := (T x2)) (n := sumS (slF (κ 33 0) (κ 33 1) (κ 33 2) bb x3 x2) (κ 33 0).toNat v4.toNat) (A := laS (slF (κ 33 0) (κ 33 1) (κ 33 2) bb x3 x2) (T x2) (κ 33 0).toNat v4.toNat) (x := v5) (by omega) hn0)
                refine zW_iinc (ls' := [_, _, _, _, _, _, _]) (pc' := 125) dX4_gatherRing_3.2.2.2.2 rfl (by decide) rfl rfl rfl ?_
                refine zV_goto 23 dX4_gatherRing_4.1.1 rfl ?_
                refine zV_clr 6 (ls' := [_, _, _, _, _, _, _]) rfl ?_
                exact k23 _ _ _ hF (by omega) (by omega) (by omega) (by omega) (by first | (rw [sgu, hn1, z119, hy53, gc0]; omega) | (rw [sgu, hn0, gc0]; omega) | (rw [gc0]; exact (Int.add_zero _).symm)) (by first | exact hl2 | (rw [la]; exact gc1) | exact gc1) (by omega) hAt hbb hgh (by omega)
              · refine zW_aload_n (pc' := 75) dX4_gatherRing_2.1.2.1.1 rfl rfl ?_
                refine zW_aload_n (pc' := 76) dX4_gatherRing_2.1.2.1.2 rfl rfl ?_
                refine zG_ref (pc' := 79) 33 fg_X4_19 tb95 rfl dX4_gatherRing_2.1.2.2.1 rfl ?_
                refine zW_iload (pc' := 81) dX4_gatherRing_2.1.2.2.2 rfl rfl ?_
                refine zW_iload (pc' := 83) dX4_gatherRing_2.2.1.1.1 rfl rfl ?_
                refine zW_iload_n (pc' := 84) dX4_gatherRing_2.2.1.1.2 rfl rfl ?_
                refine cvI4 (pc' := 87) kX8_tells vX8_tells lk_X4_43 ⟨Nat.le_of_ble_eq_true rfl, Nat.le_of_ble_eq_true rfl⟩ (tabS (by omega) (by omega)) vq8 rfl rfl (s_X8_tellsZ hK hF _ ⟨by omega, by omega⟩ _ ⟨by omega, by omega, by omega⟩ _ ⟨by omega, by omega, by omega⟩ _ ⟨by omega, by omega⟩ bb ⟨hbb, hb01⟩) dX4_gatherRing_2.2.1.2.1 (Nat.le_of_ble_eq_true rfl) rfl ?_
                rintro r84 z84 ⟨hz84, p84⟩; subst z84
                refine zV_if_eq (tgt := 122) (pc' := 90) dX4_gatherRing_2.2.1.2.2 rfl rfl ⟨by omega, by omega⟩ (fun c87 => ?_) (fun c87 => ?_)
                · first | (have z119 : h 95 0 = y53 + 1 := by (rw [w119]; exact zwr_eq.trans (by first | (rw [b119, z111]) | (rw [z111])))) | (have hn0 : (slF (κ 33 0) (κ 33 1) (κ 33 2) bb x3 x2) v5 v4 = 0 := if_neg (fun q => by omega))
                  first | (have hl2 : LiO (h 96) (laR (slF (κ 33 0) (κ 33 1) (κ 33 2) bb x3 x2) (T x2) v4 (laS (slF (κ 33 0) (κ 33 1) (κ 33 2) bb x3 x2) (T x2) (κ 33 0).toNat v4.toNat) (sumS (slF (κ 33 0) (κ 33 1) (κ 33 2) bb x3 x2) (κ 33 0).toNat v4.toNat) (v5 + 1).toNat) (h 95 0) := by (rw [z119, la, w119, zfun (by decide), ← gc0, ← hy53]; exact hli)) | (have la := laR_0 (v := (T x2)) (n := sumS (slF (κ 33 0) (κ 33 1) (κ 33 2) bb x3 x2) (κ 33 0).toNat v4.toNat) (A := laS (slF (κ 33 0) (κ 33 1) (κ 33 2) bb x3 x2) (T x2) (κ 33 0).toNat v4.toNat) (x := v5) (by omega) hn0)
                  refine zW_iinc (ls' := [_, _, _, _, _, _, _]) (pc' := 125) dX4_gatherRing_3.2.2.2.2 rfl (by decide) rfl rfl rfl ?_
                  refine zV_goto 23 dX4_gatherRing_4.1.1 rfl ?_
                  refine zV_clr 6 (ls' := [_, _, _, _, _, _, _]) rfl ?_
                  exact k23 _ _ _ hF (by omega) (by omega) (by omega) (by omega) (by first | (rw [sgu, hn1, z119, hy53, gc0]; omega) | (rw [sgu, hn0, gc0]; omega) | (rw [gc0]; exact (Int.add_zero _).symm)) (by first | exact hl2 | (rw [la]; exact gc1) | exact gc1) (by omega) hAt hbb hgh (by omega)
                · have hn1 : (slF (κ 33 0) (κ 33 1) (κ 33 2) bb x3 x2) v5 v4 = 1 := if_pos ⟨by omega, by omega⟩
                  have la := laR_1 (v := (T x2)) (n := sumS (slF (κ 33 0) (κ 33 1) (κ 33 2) bb x3 x2) (κ 33 0).toNat v4.toNat) (A := laS (slF (κ 33 0) (κ 33 1) (κ 33 2) bb x3 x2) (T x2) (κ 33 0).toNat v4.toNat) (x := v5) (by omega) hn1
                  have ha := hAt v5 v4 ⟨by omega, by omega, by omega, by omega⟩
                  refine zW_aload_n (pc' := 91) dX4_gatherRing_2.2.2.1.1 rfl rfl ?_
                  refine zG_ref (pc' := 94) 96 fg_X4_9 tb95 rfl dX4_gatherRing_2.2.2.1.2 rfl ?_
                  refine zW_aload_n (pc' := 95) dX4_gatherRing_2.2.2.2.1 rfl rfl ?_
                  refine zG_int (pc' := 98) fg_X4_27 tb95 rfl dX4_gatherRing_2.2.2.2.2 rfl ?_
                  have e95 := hF.2.2.2.2.1
                  refine zW_aload_n (pc' := 99) dX4_gatherRing_3.1.1.1.1 rfl rfl ?_
                  refine zW_iload (pc' := 101) dX4_gatherRing_3.1.1.1.2 rfl rfl ?_
                  refine zW_bipush (pc' := 103) dX4_gatherRing_3.1.1.2.1 rfl rfl ?_
                  refine zW_imul (pc' := 104) dX4_gatherRing_3.1.1.2.2 rfl ?_
                  refine zW_iload (pc' := 106) dX4_gatherRing_3.1.2.1.1 rfl rfl ?_
                  refine zW_iadd (pc' := 107) dX4_gatherRing_3.1.2.1.2 rfl ?_
                  refine zW_iload_n (pc' := 108) dX4_gatherRing_3.1.2.2.1 rfl rfl ?_
                  refine cvI2 (pc' := 111) kX8_levelAt vX8_levelAt lk_X4_49 ⟨Nat.le_of_ble_eq_true rfl, Nat.le_of_ble_eq_true rfl⟩ (tabS (by omega) (by omega)) vq8 rfl rfl (s_X8_levelAtZ hF _ ⟨by omega, by omega⟩ _ ⟨by omega, by omega⟩ _ ⟨by omega, by omega⟩ bb ⟨hbb, hb01⟩) dX4_gatherRing_3.1.2.2.2 (Nat.le_of_ble_eq_true rfl) rfl ?_
                  rintro r108 z108 ⟨hz108, p108⟩; subst z108
                  have e108 : r108 = T x2 v5 v4 := by rw [p108, show 256 * x2 + (v4 * 16 + v5) = 256 * x2 + (16 * v4 + v5) by omega, show v4 * 16 + v5 = 16 * v4 + v5 by omega]; exact ha.1
                  have b108 : 0 ≤ r108 ∧ r108 ≤ 4095 := by rw [e108]; exact ha.2
                  refine zS_i (pc' := 112) hF rfl tb96 (by omega) dX4_gatherRing_3.2.1.1.1 (by decide) rfl (fun h i111 hF a111 b111 w111 => ?_)
                  replace b111 := b111 ⟨by omega, by omega⟩
                  replace hgh : Fw [96] [(95, 0)] gh0 h := by rw [w111]; exact hgh.wc (by simp)
                  replace hAt : ∀ x y : Int, inP (κ 33 0) (κ 33 1) x y → h (s1 + 15) (if bb = 1 then 256 * x2 + (16 * y + x) else 16 * y + x).toNat = T x2 x y ∧ 0 ≤ T x2 x y ∧ T x2 x y ≤ 4095 := by have q0_ := (congrFun w111 (s1 + 15)).trans (zfun (by omega)); rw [q0_]; exact hAt
                  replace hbb : h s1 1 = bb := by have q0_ := (congrFun w111 s1).trans (zfun (by omega)); rw [q0_]; exact hbb
                  have z111 : h 95 0 = y53 := by rw [w111, hy53]; exact zwr_ne (Or.inl (by decide))
                  have hli : LiO (h 96) (put1 (laR (slF (κ 33 0) (κ 33 1) (κ 33 2) bb x3 x2) (T x2) v4 (laS (slF (κ 33 0) (κ 33 1) (κ 33 2) bb x3 x2) (T x2) (κ 33 0).toNat v4.toNat) (sumS (slF (κ 33 0) (κ 33 1) (κ 33 2) bb x3 x2) (κ 33 0).toNat v4.toNat) v5.toNat) y53 (T x2 v5 v4)) (y53 + 1) := by (have q := gc1; rw [← hy53] at q; refine q.put (by omega) ha.2 ?_ ?_; (rw [w111, b111, hy53]; exact zwr_eq.trans e108); (intro i hi; rw [w111]; exact zwr_ne (Or.inr (by rw [← hy53]; exact hi))))
                  refine zW_aload_n (pc' := 113) dX4_gatherRing_3.2.1.1.2 rfl rfl ?_
                  refine zW_dup (pc' := 114) dX4_gatherRing_3.2.1.2.1 rfl rfl ?_
                  refine zG_int (pc' := 117) fg_X4_27 tb95 rfl dX4_gatherRing_3.2.1.2.2 rfl ?_
                  have e114 := hF.2.2.2.2.1
                  refine zW_iconst (pc' := 118) dX4_gatherRing_3.2.2.1.1 rfl ?_
                  refine zW_iadd (pc' := 119) dX4_gatherRing_3.2.2.1.2 rfl ?_
                  refine zX_int (pc' := 122) (hF.p95 ⟨by omega, by omega⟩) fp_X4_27 tb95 rfl dX4_gatherRing_3.2.2.2.1 rfl (fun h hF w119 => ?_)
                  replace hgh : Fw [96] [(95, 0)] gh0 h := by rw [w119]; exact hgh.wf (by simp)
                  replace hAt : ∀ x y : Int, inP (κ 33 0) (κ 33 1) x y → h (s1 + 15) (if bb = 1 then 256 * x2 + (16 * y + x) else 16 * y + x).toNat = T x2 x y ∧ 0 ≤ T x2 x y ∧ T x2 x y ≤ 4095 := by have q0_ := (congrFun w119 (s1 + 15)).trans (zfun (by omega)); rw [q0_]; exact hAt
                  replace hbb : h s1 1 = bb := by have q0_ := (congrFun w119 s1).trans (zfun (by omega)); rw [q0_]; exact hbb
                  first | (have z119 : h 95 0 = y53 + 1 := by (rw [w119]; exact zwr_eq.trans (by first | (rw [b119, z111]) | (rw [z111])))) | (have hn0 : (slF (κ 33 0) (κ 33 1) (κ 33 2) bb x3 x2) v5 v4 = 0 := if_neg (fun q => by omega))
                  first | (have hl2 : LiO (h 96) (laR (slF (κ 33 0) (κ 33 1) (κ 33 2) bb x3 x2) (T x2) v4 (laS (slF (κ 33 0) (κ 33 1) (κ 33 2) bb x3 x2) (T x2) (κ 33 0).toNat v4.toNat) (sumS (slF (κ 33 0) (κ 33 1) (κ 33 2) bb x3 x2) (κ 33 0).toNat v4.toNat) (v5 + 1).toNat) (h 95 0) := by (rw [z119, la, w119, zfun (by decide), ← gc0, ← hy53]; exact hli)) | (have la := laR_0 (v := (T x2)) (n := sumS (slF (κ 33 0) (κ 33 1) (κ 33 2) bb x3 x2) (κ 33 0).toNat v4.toNat) (A := laS (slF (κ 33 0) (κ 33 1) (κ 33 2) bb x3 x2) (T x2) (κ 33 0).toNat v4.toNat) (x := v5) (by omega) hn0)
                  refine zW_iinc (ls' := [_, _, _, _, _, _, _]) (pc' := 125) dX4_gatherRing_3.2.2.2.2 rfl (by decide) rfl rfl rfl ?_
                  refine zV_goto 23 dX4_gatherRing_4.1.1 rfl ?_
                  refine zV_clr 6 (ls' := [_, _, _, _, _, _, _]) rfl ?_
                  exact k23 _ _ _ hF (by omega) (by omega) (by omega) (by omega) (by first | (rw [sgu, hn1, z119, hy53, gc0]; omega) | (rw [sgu, hn0, gc0]; omega) | (rw [gc0]; exact (Int.add_zero _).symm)) (by first | exact hl2 | (rw [la]; exact gc1) | exact gc1) (by omega) hAt hbb hgh (by omega)
          · refine zW_aload_n (pc' := 41) dX4_gatherRing_1.1.2.1.1 rfl rfl ?_
            refine zW_iload (pc' := 43) dX4_gatherRing_1.1.2.1.2 rfl rfl ?_
            refine zW_iload (pc' := 45) dX4_gatherRing_1.1.2.2.1 rfl rfl ?_
            refine cvI2 (pc' := 48) kX4_ringOf vX4_ringOf lk_X4_39 ⟨Nat.le_of_ble_eq_true rfl, Nat.le_of_ble_eq_true rfl⟩ tb95 vq4 rfl rfl (s_X4_ringOfZ hK hF _ ⟨by omega, by omega, by omega⟩ _ ⟨by omega, by omega, by omega⟩) dX4_gatherRing_1.1.2.2.2 (Nat.le_of_ble_eq_true rfl) rfl ?_
            rintro r45 z45 ⟨hz45, p45⟩; subst z45
            refine zW_iload_n (pc' := 49) dX4_gatherRing_1.2.1.1.1 rfl rfl ?_
            refine zV_cm_ne (tgt := 56) (pc' := 52) dX4_gatherRing_1.2.1.1.2 rfl rfl ⟨by omega, by omega⟩ ⟨by omega, by omega⟩ (fun c49 => ?_) (fun c49 => ?_)
            · refine zW_iconst (pc' := 57) dX4_gatherRing_1.2.2.1.1 rfl ?_
              refine zW_istore (ls' := [_, _, _, _, _, _, _]) (pc' := 59) dX4_gatherRing_1.2.2.1.2 (by decide) rfl rfl rfl ?_
              refine zW_iload (pc' := 61) dX4_gatherRing_1.2.2.2.1 rfl rfl ?_
              refine zV_if_eq (tgt := 122) (pc' := 64) dX4_gatherRing_1.2.2.2.2 rfl rfl ⟨by omega, by omega⟩ (fun c61 => ?_) (fun c61 => ?_)
              · first | (have z119 : h 95 0 = y53 + 1 := by (rw [w119]; exact zwr_eq.trans (by first | (rw [b119, z111]) | (rw [z111])))) | (have hn0 : (slF (κ 33 0) (κ 33 1) (κ 33 2) bb x3 x2) v5 v4 = 0 := if_neg (fun q => by omega))
                first | (have hl2 : LiO (h 96) (laR (slF (κ 33 0) (κ 33 1) (κ 33 2) bb x3 x2) (T x2) v4 (laS (slF (κ 33 0) (κ 33 1) (κ 33 2) bb x3 x2) (T x2) (κ 33 0).toNat v4.toNat) (sumS (slF (κ 33 0) (κ 33 1) (κ 33 2) bb x3 x2) (κ 33 0).toNat v4.toNat) (v5 + 1).toNat) (h 95 0) := by (rw [z119, la, w119, zfun (by decide), ← gc0, ← hy53]; exact hli)) | (have la := laR_0 (v := (T x2)) (n := sumS (slF (κ 33 0) (κ 33 1) (κ 33 2) bb x3 x2) (κ 33 0).toNat v4.toNat) (A := laS (slF (κ 33 0) (κ 33 1) (κ 33 2) bb x3 x2) (T x2) (κ 33 0).toNat v4.toNat) (x := v5) (by omega) hn0)
                refine zW_iinc (ls' := [_, _, _, _, _, _, _]) (pc' := 125) dX4_gatherRing_3.2.2.2.2 rfl (by decide) rfl rfl rfl ?_
                refine zV_goto 23 dX4_gatherRing_4.1.1 rfl ?_
                refine zV_clr 6 (ls' := [_, _, _, _, _, _, _]) rfl ?_
                exact k23 _ _ _ hF (by omega) (by omega) (by omega) (by omega) (by first | (rw [sgu, hn1, z119, hy53, gc0]; omega) | (rw [sgu, hn0, gc0]; omega) | (rw [gc0]; exact (Int.add_zero _).symm)) (by first | exact hl2 | (rw [la]; exact gc1) | exact gc1) (by omega) hAt hbb hgh (by omega)
              · exfalso; omega
            · refine zW_iconst (pc' := 53) dX4_gatherRing_1.2.1.2.1 rfl ?_
              refine zV_goto 57 dX4_gatherRing_1.2.1.2.2 rfl ?_
              refine zW_istore (ls' := [_, _, _, _, _, _, _]) (pc' := 59) dX4_gatherRing_1.2.2.1.2 (by decide) rfl rfl rfl ?_
              refine zW_iload (pc' := 61) dX4_gatherRing_1.2.2.2.1 rfl rfl ?_
              refine zV_if_eq (tgt := 122) (pc' := 64) dX4_gatherRing_1.2.2.2.2 rfl rfl ⟨by omega, by omega⟩ (fun c61 => ?_) (fun c61 => ?_)
              · exfalso; omega
              · refine zW_aload_n (pc' := 65) dX4_gatherRing_2.1.1.1.1 rfl rfl ?_
                refine zG_int (pc' := 68) fg_X4_27 tb95 rfl dX4_gatherRing_2.1.1.1.2 rfl ?_
                have e65 := hF.2.2.2.2.1
                refine zW_sipush (pc' := 71) dX4_gatherRing_2.1.1.2.1 rfl rfl ?_
                refine zV_cm_ge (tgt := 122) (pc' := 74) dX4_gatherRing_2.1.1.2.2 rfl rfl ⟨by omega, by omega⟩ ⟨by omega, by omega⟩ (fun c71 => ?_) (fun c71 => ?_)
                · first | (have z119 : h 95 0 = y53 + 1 := by (rw [w119]; exact zwr_eq.trans (by first | (rw [b119, z111]) | (rw [z111])))) | (have hn0 : (slF (κ 33 0) (κ 33 1) (κ 33 2) bb x3 x2) v5 v4 = 0 := if_neg (fun q => by omega))
                  first | (have hl2 : LiO (h 96) (laR (slF (κ 33 0) (κ 33 1) (κ 33 2) bb x3 x2) (T x2) v4 (laS (slF (κ 33 0) (κ 33 1) (κ 33 2) bb x3 x2) (T x2) (κ 33 0).toNat v4.toNat) (sumS (slF (κ 33 0) (κ 33 1) (κ 33 2) bb x3 x2) (κ 33 0).toNat v4.toNat) (v5 + 1).toNat) (h 95 0) := by (rw [z119, la, w119, zfun (by decide), ← gc0, ← hy53]; exact hli)) | (have la := laR_0 (v := (T x2)) (n := sumS (slF (κ 33 0) (κ 33 1) (κ 33 2) bb x3 x2) (κ 33 0).toNat v4.toNat) (A := laS (slF (κ 33 0) (κ 33 1) (κ 33 2) bb x3 x2) (T x2) (κ 33 0).toNat v4.toNat) (x := v5) (by omega) hn0)
                  refine zW_iinc (ls' := [_, _, _, _, _, _, _]) (pc' := 125) dX4_gatherRing_3.2.2.2.2 rfl (by decide) rfl rfl rfl ?_
                  refine zV_goto 23 dX4_gatherRing_4.1.1 rfl ?_
                  refine zV_clr 6 (ls' := [_, _, _, _, _, _, _]) rfl ?_
                  exact k23 _ _ _ hF (by omega) (by omega) (by omega) (by omega) (by first | (rw [sgu, hn1, z119, hy53, gc0]; omega) | (rw [sgu, hn0, gc0]; omega) | (rw [gc0]; exact (Int.add_zero _).symm)) (by first | exact hl2 | (rw [la]; exact gc1) | exact gc1) (by omega) hAt hbb hgh (by omega)
                · refine zW_aload_n (pc' := 75) dX4_gatherRing_2.1.2.1.1 rfl rfl ?_
                  refine zW_aload_n (pc' := 76) dX4_gatherRing_2.1.2.1.2 rfl rfl ?_
                  refine zG_ref (pc' := 79) 33 fg_X4_19 tb95 rfl dX4_gatherRing_2.1.2.2.1 rfl ?_
                  refine zW_iload (pc' := 81) dX4_gatherRing_2.1.2.2.2 rfl rfl ?_
                  refine zW_iload (pc' := 83) dX4_gatherRing_2.2.1.1.1 rfl rfl ?_
                  refine zW_iload_n (pc' := 84) dX4_gatherRing_2.2.1.1.2 rfl rfl ?_
                  refine cvI4 (pc' := 87) kX8_tells vX8_tells lk_X4_43 ⟨Nat.le_of_ble_eq_true rfl, Nat.le_of_ble_eq_true rfl⟩ (tabS (by omega) (by omega)) vq8 rfl rfl (s_X8_tellsZ hK hF _ ⟨by omega, by omega⟩ _ ⟨by omega, by omega, by omega⟩ _ ⟨by omega, by omega, by omega⟩ _ ⟨by omega, by omega⟩ bb ⟨hbb, hb01⟩) dX4_gatherRing_2.2.1.2.1 (Nat.le_of_ble_eq_true rfl) rfl ?_
                  rintro r84 z84 ⟨hz84, p84⟩; subst z84
                  refine zV_if_eq (tgt := 122) (pc' := 90) dX4_gatherRing_2.2.1.2.2 rfl rfl ⟨by omega, by omega⟩ (fun c87 => ?_) (fun c87 => ?_)
                  · first | (have z119 : h 95 0 = y53 + 1 := by (rw [w119]; exact zwr_eq.trans (by first | (rw [b119, z111]) | (rw [z111])))) | (have hn0 : (slF (κ 33 0) (κ 33 1) (κ 33 2) bb x3 x2) v5 v4 = 0 := if_neg (fun q => by omega))
                    first | (have hl2 : LiO (h 96) (laR (slF (κ 33 0) (κ 33 1) (κ 33 2) bb x3 x2) (T x2) v4 (laS (slF (κ 33 0) (κ 33 1) (κ 33 2) bb x3 x2) (T x2) (κ 33 0).toNat v4.toNat) (sumS (slF (κ 33 0) (κ 33 1) (κ 33 2) bb x3 x2) (κ 33 0).toNat v4.toNat) (v5 + 1).toNat) (h 95 0) := by (rw [z119, la, w119, zfun (by decide), ← gc0, ← hy53]; exact hli)) | (have la := laR_0 (v := (T x2)) (n := sumS (slF (κ 33 0) (κ 33 1) (κ 33 2) bb x3 x2) (κ 33 0).toNat v4.toNat) (A := laS (slF (κ 33 0) (κ 33 1) (κ 33 2) bb x3 x2) (T x2) (κ 33 0).toNat v4.toNat) (x := v5) (by omega) hn0)
                    refine zW_iinc (ls' := [_, _, _, _, _, _, _]) (pc' := 125) dX4_gatherRing_3.2.2.2.2 rfl (by decide) rfl rfl rfl ?_
                    refine zV_goto 23 dX4_gatherRing_4.1.1 rfl ?_
                    refine zV_clr 6 (ls' := [_, _, _, _, _, _, _]) rfl ?_
                    exact k23 _ _ _ hF (by omega) (by omega) (by omega) (by omega) (by first | (rw [sgu, hn1, z119, hy53, gc0]; omega) | (rw [sgu, hn0, gc0]; omega) | (rw [gc0]; exact (Int.add_zero _).symm)) (by first | exact hl2 | (rw [la]; exact gc1) | exact gc1) (by omega) hAt hbb hgh (by omega)
                  · have hn1 : (slF (κ 33 0) (κ 33 1) (κ 33 2) bb x3 x2) v5 v4 = 1 := if_pos ⟨by omega, by omega⟩
                    have la := laR_1 (v := (T x2)) (n := sumS (slF (κ 33 0) (κ 33 1) (κ 33 2) bb x3 x2) (κ 33 0).toNat v4.toNat) (A := laS (slF (κ 33 0) (κ 33 1) (κ 33 2) bb x3 x2) (T x2) (κ 33 0).toNat v4.toNat) (x := v5) (by omega) hn1
                    have ha := hAt v5 v4 ⟨by omega, by omega, by omega, by omega⟩
                    refine zW_aload_n (pc' := 91) dX4_gatherRing_2.2.2.1.1 rfl rfl ?_
                    refine zG_ref (pc' := 94) 96 fg_X4_9 tb95 rfl dX4_gatherRing_2.2.2.1.2 rfl ?_
                    refine zW_aload_n (pc' := 95) dX4_gatherRing_2.2.2.2.1 rfl rfl ?_
                    refine zG_int (pc' := 98) fg_X4_27 tb95 rfl dX4_gatherRing_2.2.2.2.2 rfl ?_
                    have e95 := hF.2.2.2.2.1
                    refine zW_aload_n (pc' := 99) dX4_gatherRing_3.1.1.1.1 rfl rfl ?_
                    refine zW_iload (pc' := 101) dX4_gatherRing_3.1.1.1.2 rfl rfl ?_
                    refine zW_bipush (pc' := 103) dX4_gatherRing_3.1.1.2.1 rfl rfl ?_
                    refine zW_imul (pc' := 104) dX4_gatherRing_3.1.1.2.2 rfl ?_
                    refine zW_iload (pc' := 106) dX4_gatherRing_3.1.2.1.1 rfl rfl ?_
                    refine zW_iadd (pc' := 107) dX4_gatherRing_3.1.2.1.2 rfl ?_
                    refine zW_iload_n (pc' := 108) dX4_gatherRing_3.1.2.2.1 rfl rfl ?_
                    refine cvI2 (pc' := 111) kX8_levelAt vX8_levelAt lk_X4_49 ⟨Nat.le_of_ble_eq_true rfl, Nat.le_of_ble_eq_true rfl⟩ (tabS (by omega) (by omega)) vq8 rfl rfl (s_X8_levelAtZ hF _ ⟨by omega, by omega⟩ _ ⟨by omega, by omega⟩ _ ⟨by omega, by omega⟩ bb ⟨hbb, hb01⟩) dX4_gatherRing_3.1.2.2.2 (Nat.le_of_ble_eq_true rfl) rfl ?_
                    rintro r108 z108 ⟨hz108, p108⟩; subst z108
                    have e108 : r108 = T x2 v5 v4 := by rw [p108, show 256 * x2 + (v4 * 16 + v5) = 256 * x2 + (16 * v4 + v5) by omega, show v4 * 16 + v5 = 16 * v4 + v5 by omega]; exact ha.1
                    have b108 : 0 ≤ r108 ∧ r108 ≤ 4095 := by rw [e108]; exact ha.2
                    refine zS_i (pc' := 112) hF rfl tb96 (by omega) dX4_gatherRing_3.2.1.1.1 (by decide) rfl (fun h i111 hF a111 b111 w111 => ?_)
                    replace b111 := b111 ⟨by omega, by omega⟩
                    replace hgh : Fw [96] [(95, 0)] gh0 h := by rw [w111]; exact hgh.wc (by simp)
                    replace hAt : ∀ x y : Int, inP (κ 33 0) (κ 33 1) x y → h (s1 + 15) (if bb = 1 then 256 * x2 + (16 * y + x) else 16 * y + x).toNat = T x2 x y ∧ 0 ≤ T x2 x y ∧ T x2 x y ≤ 4095 := by have q0_ := (congrFun w111 (s1 + 15)).trans (zfun (by omega)); rw [q0_]; exact hAt
                    replace hbb : h s1 1 = bb := by have q0_ := (congrFun w111 s1).trans (zfun (by omega)); rw [q0_]; exact hbb
                    have z111 : h 95 0 = y53 := by rw [w111, hy53]; exact zwr_ne (Or.inl (by decide))
                    have hli : LiO (h 96) (put1 (laR (slF (κ 33 0) (κ 33 1) (κ 33 2) bb x3 x2) (T x2) v4 (laS (slF (κ 33 0) (κ 33 1) (κ 33 2) bb x3 x2) (T x2) (κ 33 0).toNat v4.toNat) (sumS (slF (κ 33 0) (κ 33 1) (κ 33 2) bb x3 x2) (κ 33 0).toNat v4.toNat) v5.toNat) y53 (T x2 v5 v4)) (y53 + 1) := by (have q := gc1; rw [← hy53] at q; refine q.put (by omega) ha.2 ?_ ?_; (rw [w111, b111, hy53]; exact zwr_eq.trans e108); (intro i hi; rw [w111]; exact zwr_ne (Or.inr (by rw [← hy53]; exact hi))))
                    refine zW_aload_n (pc' := 113) dX4_gatherRing_3.2.1.1.2 rfl rfl ?_
                    refine zW_dup (pc' := 114) dX4_gatherRing_3.2.1.2.1 rfl rfl ?_
                    refine zG_int (pc' := 117) fg_X4_27 tb95 rfl dX4_gatherRing_3.2.1.2.2 rfl ?_
                    have e114 := hF.2.2.2.2.1
                    refine zW_iconst (pc' := 118) dX4_gatherRing_3.2.2.1.1 rfl ?_
                    refine zW_iadd (pc' := 119) dX4_gatherRing_3.2.2.1.2 rfl ?_
                    refine zX_int (pc' := 122) (hF.p95 ⟨by omega, by omega⟩) fp_X4_27 tb95 rfl dX4_gatherRing_3.2.2.2.1 rfl (fun h hF w119 => ?_)
                    replace hgh : Fw [96] [(95, 0)] gh0 h := by rw [w119]; exact hgh.wf (by simp)
                    replace hAt : ∀ x y : Int, inP (κ 33 0) (κ 33 1) x y → h (s1 + 15) (if bb = 1 then 256 * x2 + (16 * y + x) else 16 * y + x).toNat = T x2 x y ∧ 0 ≤ T x2 x y ∧ T x2 x y ≤ 4095 := by have q0_ := (congrFun w119 (s1 + 15)).trans (zfun (by omega)); rw [q0_]; exact hAt
                    replace hbb : h s1 1 = bb := by have q0_ := (congrFun w119 s1).trans (zfun (by omega)); rw [q0_]; exact hbb
                    first | (have z119 : h 95 0 = y53 + 1 := by (rw [w119]; exact zwr_eq.trans (by first | (rw [b119, z111]) | (rw [z111])))) | (have hn0 : (slF (κ 33 0) (κ 33 1) (κ 33 2) bb x3 x2) v5 v4 = 0 := if_neg (fun q => by omega))
                    first | (have hl2 : LiO (h 96) (laR (slF (κ 33 0) (κ 33 1) (κ 33 2) bb x3 x2) (T x2) v4 (laS (slF (κ 33 0) (κ 33 1) (κ 33 2) bb x3 x2) (T x2) (κ 33 0).toNat v4.toNat) (sumS (slF (κ 33 0) (κ 33 1) (κ 33 2) bb x3 x2) (κ 33 0).toNat v4.toNat) (v5 + 1).toNat) (h 95 0) := by (rw [z119, la, w119, zfun (by decide), ← gc0, ← hy53]; exact hli)) | (have la := laR_0 (v := (T x2)) (n := sumS (slF (κ 33 0) (κ 33 1) (κ 33 2) bb x3 x2) (κ 33 0).toNat v4.toNat) (A := laS (slF (κ 33 0) (κ 33 1) (κ 33 2) bb x3 x2) (T x2) (κ 33 0).toNat v4.toNat) (x := v5) (by omega) hn0)
                    refine zW_iinc (ls' := [_, _, _, _, _, _, _]) (pc' := 125) dX4_gatherRing_3.2.2.2.2 rfl (by decide) rfl rfl rfl ?_
                    refine zV_goto 23 dX4_gatherRing_4.1.1 rfl ?_
                    refine zV_clr 6 (ls' := [_, _, _, _, _, _, _]) rfl ?_
                    exact k23 _ _ _ hF (by omega) (by omega) (by omega) (by omega) (by first | (rw [sgu, hn1, z119, hy53, gc0]; omega) | (rw [sgu, hn0, gc0]; omega) | (rw [gc0]; exact (Int.add_zero _).symm)) (by first | exact hl2 | (rw [la]; exact gc1) | exact gc1) (by omega) hAt hbb hgh (by omega)
  refine zM_of [some (.inr (.inr 95)), some (.inr (.inr s1)), some (.inl x2), some (.inl x3), none, none, none] 3 rfl rfl (Nat.le_of_ble_eq_true rfl) rfl ?_
  refine zW_aload_n (pc' := 1) dX4_gatherRing_0.1.1.1.1 rfl rfl ?_
  refine zW_iconst (pc' := 2) dX4_gatherRing_0.1.1.1.2 rfl ?_
  refine zX_int (pc' := 5) (hF.p95 ⟨by omega, by omega⟩) fp_X4_27 tb95 rfl dX4_gatherRing_0.1.1.2.1 rfl (fun h hF w2 => ?_)
  replace hgh : Fw [96] [(95, 0)] gh0 h := by rw [w2]; exact hgh.wf (by simp)
  replace hAt : ∀ x y : Int, inP (κ 33 0) (κ 33 1) x y → h (s1 + 15) (if bb = 1 then 256 * x2 + (16 * y + x) else 16 * y + x).toNat = T x2 x y ∧ 0 ≤ T x2 x y ∧ T x2 x y ≤ 4095 := by have q0_ := (congrFun w2 (s1 + 15)).trans (zfun (by omega)); rw [q0_]; exact hAt
  replace hbb : h s1 1 = bb := by have q0_ := (congrFun w2 s1).trans (zfun (by omega)); rw [q0_]; exact hbb
  have z2 : h 95 0 = 0 := by rw [w2]; exact zwr_eq.trans (by first | rfl | exact b2)
  refine zW_iconst (pc' := 6) dX4_gatherRing_0.1.1.2.2 rfl ?_
  refine zW_istore (ls' := [_, _, _, _, _, _, _]) (pc' := 8) dX4_gatherRing_0.1.2.1.1 (by decide) rfl rfl rfl ?_
  exact (main 10000000000000000000000000000000000000000).1 _ _ hF (by omega) (by omega) (by first | (rw [z2]; rfl) | (rw [ugu, gc0, show v5 = κ 33 0 by omega])) (by first | (rw [z2]; exact LiO.no) | (rw [lau, show κ 33 0 = v5 by omega]; rw [show κ 33 0 = v5 by omega] at gc1; exact gc1)) (by omega) hAt hbb hgh (by omega)

abbrev q_X4_gatherZ (b : Bd) (κ : Hp) (s1 : Nat) (x2 : Int) (T : P3) (bb : Int) (gh0 : Hp) : Int → Hp → Prop := fun r h' => Fr b κ h' ∧ ((Fw [96] [(95, 0)] gh0 h') ∧ (h' 95 0 = sumS (slF (κ 33 0) (κ 33 1) (κ 33 2) bb (-1) x2) (κ 33 0).toNat (κ 33 1).toNat ∧ LiO (h' 96) (laS (slF (κ 33 0) (κ 33 1) (κ 33 2) bb (-1) x2) (T x2) (κ 33 0).toNat (κ 33 1).toNat) (h' 95 0)))
set_option maxHeartbeats 4000000 in
set_option maxRecDepth 20000 in
theorem s_X4_gatherZ {G : Ga} {b : Bd} {κ h : Hp} (hK : KC κ) (hF : Fr b κ h) (s1 : Nat) (hs1 : 56 ≤ s1 ∧ s1 ≤ 70) (x2 : Int) (hx2 : 0 ≤ x2 ∧ x2 ≤ 2) (T : P3) (bb : Int) (gh0 : Hp) (hbb : h s1 1 = bb) (hb01 : 0 ≤ bb ∧ bb ≤ 1) (hAt : ∀ x y : Int, inP (κ 33 0) (κ 33 1) x y → h (s1 + 15) (if bb = 1 then 256 * x2 + (16 * y + x) else 16 * y + x).toNat = T x2 x y ∧ 0 ≤ T x2 x y ∧ T x2 x y ≤ 4095) (hgh : Fw [96] [(95, 0)] gh0 h) : zM G mX4_gather yX4_gather [.inr (.inr 95), .inr (.inr s1), .inl x2] h (q_X4_gatherZ b κ s1 x2 T bb gh0) := by
  have f_33_0 := KCw hK
  have f_33_1 := KCh hK
  have f_33_2 := KCp hK
  refine zM_of [some (.inr (.inr 95)), some (.inr (.inr s1)), some (.inl x2)] 0 rfl rfl (Nat.le_of_ble_eq_true rfl) rfl ?_
  refine zW_aload_n (pc' := 1) dX4_gather_0.1.1.1 rfl rfl ?_
  refine zW_aload_n (pc' := 2) dX4_gather_0.1.1.2 rfl rfl ?_
  refine zW_iload_n (pc' := 3) dX4_gather_0.1.2 rfl rfl ?_
  refine zW_iconst (pc' := 4) dX4_gather_0.2.1.1 rfl ?_
  refine cvV3 (pc' := 7) kX4_gatherRing vX4_gatherRing lk_X4_23 ⟨Nat.le_of_ble_eq_true rfl, Nat.le_of_ble_eq_true rfl⟩ tb95 vq4 rfl rfl (s_X4_gatherRingZ hK hF _ ⟨by omega, by omega⟩ _ ⟨by omega, by omega⟩ _ ⟨by omega, by omega⟩ T bb h hbb hb01 hAt Fw.rf) dX4_gather_0.2.1.2 (Nat.le_of_ble_eq_true rfl) rfl ?_
  rintro r4 h ⟨hF, d4, p4⟩
  replace hgh : Fw [96] [(95, 0)] gh0 h := hgh.tr d4 (by simp) (by simp)
  exact zV_vret rfl dX4_gather_0.2.2 ⟨hF, ⟨hgh, p4⟩⟩








