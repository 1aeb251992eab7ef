/-! rows of the reference: early pictures -/
section Eq
variable {G : Ga} {μ : Mt} {Q : Int → Hp → Prop} {pc pc' idx : Nat} {ls : Lo} {st : List Sv} {κ h : Hp} {b : Bd}
theorem zX_int {k i ci : Nat} {cs : List Nat} {v : Int} (hF : Fr b κ (zwr h k i v)) (hf : zFP μ.2.2.2.1 idx ci i .int) (ht : tab[k]? = some (0, ci, cs)) (hc : cs[i]? = some 0) (hd : decode μ.1 pc = .ok (.putfield idx, 3)) (hn : pc + 3 = pc') (kk : ∀ h' : Hp, Fr b κ h' → h' = zwr h k i v → zV G μ Q pc' ls st h') : zV G μ Q pc ls (.inl v :: .inr (.inr k) :: st) h :=
  zV_puti hf ht hc hd hn (kk _ hF rfl)
theorem zX_boo {k i ci : Nat} {cs : List Nat} {v : Int} (hF : Fr b κ (zwr h k i v)) (hf : zFP μ.2.2.2.1 idx ci i .boolean) (hv : v = 0 ∨ v = 1) (ht : tab[k]? = some (0, ci, cs)) (hc : cs[i]? = some 0) (hd : decode μ.1 pc = .ok (.putfield idx, 3)) (hn : pc + 3 = pc') (kk : ∀ h' : Hp, Fr b κ h' → h' = zwr h k i v → zV G μ Q pc' ls st h') : zV G μ Q pc ls (.inl v :: .inr (.inr k) :: st) h :=
  zV_putz hf hv ht hc hd hn (kk _ hF rfl)
end Eq
theorem Fw.mono {C C' : List Nat} {F F' : List (Nat × Nat)} {g h : Hp} (h1 : Fw C F g h) (hC : ∀ c ∈ C, c ∈ C') (hF : ∀ p ∈ F, p ∈ F') : Fw C' F' g h := fun k i a b => h1 k i (fun c hc => a c (hC c hc)) (fun p hp => b p (hF p hp))
abbrev q_X12_earlyZ (b : Bd) (κ : Hp) (x1 x2 x3 x4 : Int) (f : Int → Int → Int) (gh0 : Hp) : Int → Hp → Prop := fun r h' => Fr b κ h' ∧ (Fw [17, 21] [] gh0 h') ∧ (Row17 κ (h' 17) x4 (stg (κ 0 11) (κ 0 12) (κ 10) x1 x2 f) ∧ Oth x4 (gh0 17) (h' 17))
theorem s_X12_earlyZ {G : Ga} {b : Bd} {κ h : Hp} (hK : KR κ) (hF : Fr b κ h) (x1 : Int) (hx1 : 98 ≤ x1 ∧ x1 ≤ 111) (x2 : Int) (hx2 : 0 ≤ x2 ∧ x2 ≤ 255) (x3 : Int) (hx3 : 0 ≤ x3 ∧ x3 ≤ 14) (x4 : Int) (hx4 : 0 ≤ x4 ∧ x4 ≤ 14) (f : Int → Int → Int) (gh0 : Hp) (hl : x1 = 98 ∨ x1 = 111 ∨ x1 = 100 ∨ x1 = 108) (hn : x1 = 111 → 1 ≤ x2 ∧ x2 ≤ 4) (hJ : Ok17 b x4) (hne : x3 ≠ x4) (hf : Row17 κ (h 17) x3 f) (hfb : FB (κ 0 11) (κ 0 12) f) (hge : h = gh0) : zM G mX12_early yX12_early [.inr (.inr 0), .inl x1, .inl x2, .inl x3, .inl x4] h (q_X12_earlyZ b κ x1 x2 x3 x4 f gh0) := by
  rcases hl with rfl | rfl | rfl | rfl
  · refine (s_X12_earlyV98Z hK hF 98 (by omega) x2 hx2 x3 hx3 x4 hx4 f gh0 hJ hne hf hfb hge (by rw [hge]; exact Fw.rf)).mono (fun r h' q => ⟨q.1, q.2.1.mono (by simp) (by simp), fun x y hp => (q.2.2.1 x y hp).trans ?_, q.2.2.2⟩)
    unfold stg
    rw [if_pos rfl]
  · refine (s_X12_earlyV111Z hK hF 111 (by omega) x2 (hn rfl) x3 hx3 x4 hx4 f gh0 hJ hne hf hfb hge (by rw [hge]; exact Fw.rf)).mono (fun r h' q => ⟨q.1, q.2.1.mono (by simp) (by simp), fun x y hp => (q.2.2.1 x y hp).trans ?_, q.2.2.2⟩)
    unfold stg
    rw [if_neg (by decide), if_pos rfl]
  · refine (s_X12_earlyV100Z hK hF 100 (by omega) x2 hx2 x3 hx3 x4 hx4 f gh0 hJ hne hf hfb hge (by rw [hge]; exact Fw.rf)).mono (fun r h' q => ⟨q.1, q.2.1.mono (by simp) (by simp), fun x y hp => (q.2.2.1 x y hp).trans ?_, q.2.2.2⟩)
    unfold stg
    rw [if_neg (by decide), if_neg (by decide), if_pos rfl]
  · refine (s_X12_earlyV108Z hK hF 108 (by omega) x2 hx2 x3 hx3 x4 hx4 f gh0 hJ hne hf hfb hge (by rw [hge]; exact Fw.rf)).mono (fun r h' q => ⟨q.1, q.2.1.mono (by simp) (by simp), fun x y hp => (q.2.2.1 x y hp).trans ?_, q.2.2.2⟩)
    unfold stg
    rw [if_neg (by decide), if_neg (by decide), if_neg (by decide), if_pos rfl]
/-- no f among the first letters -/
def noF (L : Nat → Int) (k : Nat) : Prop := ∀ j, j < k → L j ≠ 102
theorem noF.le {L : Nat → Int} {j k : Nat} (h : noF L k) (hj : j ≤ k) : noF L j := fun i hi => h i (by omega)
def VOK (V : Nat → Int) : Prop := ∀ j, j < 256 → 0 ≤ V j ∧ V j ≤ 255
/-- the letters of the mosaic and f stand where no f is ahead, the others behind it -/
def EaOK (L : Nat → Int) (n : Int) : Prop := ∀ k : Nat, (k : Int) < n → (noF L k ↔ (L k = 98 ∨ L k = 111 ∨ L k = 100 ∨ L k = 108 ∨ L k = 102))
abbrev EF (κ : Hp) (k : Nat) : Int → Int → Int := eF (κ 0 11) (κ 0 12) (κ 1) (κ 10) (κ 3) (κ 4) (κ 5) k
theorem FB_EF {κ : Hp} (hK : KR κ) (hV : VOK (κ 1)) (k : Nat) : FB (κ 0 11) (κ 0 12) (EF κ k) := fun x y hp => eF_b (KRw hK) (KRh hK) hV k x y hp
def Rws (κ : Hp) (A : Nat → Int) (n : Int) : Prop := ∀ k : Nat, (k : Int) ≤ n → noF (κ 3) k → Row17 κ A k (EF κ k)
theorem Rws_0 {κ : Hp} {A : Nat → Int} (h : Row17 κ A 0 (EF κ 0)) : Rws κ A 0 := fun k hk _ => by
  have e : k = 0 := by omega
  subst e
  exact h
def FdR (g h : Hp) : Prop := ∀ k i, dpn k i = true → k ≠ 17 → (k = 0 → i ≠ 23) → h k i = g k i
theorem FdR.rf {g : Hp} : FdR g g := fun _ _ _ _ _ => rfl
theorem FdR.tr {g h h' : Hp} (a : FdR g h) (c : FdR h h') : FdR g h' := fun k i h1 h2 h3 => (c k i h1 h2 h3).trans (a k i h1 h2 h3)
theorem FdR.w17 {g h : Hp} {i : Nat} {v : Int} (a : FdR g h) : FdR g (zwr h 17 i v) := fun k i h1 h2 h3 => (zwr_ne (Or.inl h2)).trans (a k i h1 h2 h3)
theorem FdR.w23 {g h : Hp} {v : Int} (a : FdR g h) : FdR g (zwr h 0 23 v) := fun k i h1 h2 h3 => (zwr_ne (by
  by_cases e : k = 0
  · exact Or.inr (h3 e)
  · exact Or.inl e)).trans (a k i h1 h2 h3)
theorem FdR.fw {g h h' : Hp} (a : FdR g h) (c : Fw [17, 21] [] h h') : FdR g h' := fun k i h1 h2 h3 => (c k i (fun c hc => by
  simp only [List.mem_cons, List.not_mem_nil, or_false] at hc
  rcases hc with rfl | rfl
  · exact h2
  · intro q
    subst q
    exact absurd (show dpn 21 i = false by simp [dpn, key]; decide) (by rw [h1]; simp)) (fun p hp => absurd hp (by simp))).trans (a k i h1 h2 h3)
/-- an invariant that also holds the rows below r and what else pictures hang on as they were -/
def bdO (b : Bd) (h : Hp) (r : Int) : Bd := (b.g, ⟨fun g => b.I g ∧ ∀ k i, dpn k i = true → (k = 17 → (i : Int) < 768 * r) → g k i = h k i, fun _ _ e p => ⟨b.st _ _ e p.1, fun k i hd hr => (e k i hd).trans (p.2 k i hd hr)⟩⟩)
theorem Fr.toOt {b : Bd} {κ h : Hp} {r : Int} (hF : Fr b.to κ h) : Fr (bdO b h r).to κ h := ⟨hF.1, ⟨hF.2.1.1, hF.2.1.2, fun _ _ _ _ => rfl⟩, hF.2.2⟩
theorem Fr.ofOt {b : Bd} {κ g h : Hp} {r : Int} (hF : Fr (bdO b g r).to κ h) : Fr b.to κ h := ⟨hF.1, ⟨hF.2.1.1, hF.2.1.2.1⟩, hF.2.2⟩
theorem Fr.dpO {b : Bd} {κ g h : Hp} {r : Int} (hF : Fr (bdO b g r).to κ h) : ∀ k i, dpn k i = true → (k = 17 → (i : Int) < 768 * r) → h k i = g k i := hF.2.1.2.2
theorem bdO_ok {b : Bd} {g : Hp} {r : Int} (h0 : 0 ≤ r) (hJ : Ok17 b 0) : Ok17 (bdO b g r) r := fun h i v hi p => ⟨hJ h i v (by omega) p.1, fun k j hd hr => (zwr_ne (by
  by_cases e : k = 17
  · exact Or.inr (by have := hr e; omega)
  · exact Or.inl e)).trans (p.2 k j hd hr)⟩

abbrev q_X12_doesZ (b : Bd) (κ : Hp) (x1 : Int) (x2 : Int) (x3 : Int) (f : Int → Int → Int) (gh0 : Hp) : Int → Hp → Prop := fun r h' => Fr b κ h' ∧ ((Fw [17, 21] [] gh0 h') ∧ (Row17 κ (h' 17) x3 (stg (κ 0 11) (κ 0 12) (κ 10) (κ 3 (x1 - 1).toNat) (κ 23 (κ 4 (x1 - 1).toNat).toNat) f) ∧ Oth x3 (gh0 17) (h' 17)))
set_option maxHeartbeats 4000000 in
set_option maxRecDepth 20000 in
theorem s_X12_doesZ {G : Ga} {b : Bd} {κ h : Hp} (hK : KR κ) (hF : Fr b.to κ h) (x1 : Int) (hx1 : 1 ≤ x1 ∧ x1 ≤ 12 ∧ x1 - κ 0 14 ≤ 0) (x2 : Int) (hx2 : 0 ≤ x2 ∧ x2 ≤ 14) (x3 : Int) (hx3 : 0 ≤ x3 ∧ x3 ≤ 14) (f : Int → Int → Int) (gh0 : Hp) (hJ : Ok17 b x3) (hR : GivOK κ) (hne : x2 ≠ x3) (hel : κ 3 (x1 - 1).toNat = 98 ∨ κ 3 (x1 - 1).toNat = 111 ∨ κ 3 (x1 - 1).toNat = 100 ∨ κ 3 (x1 - 1).toNat = 108) (hf : Row17 κ (h 17) x2 f) (hfb : FB (κ 0 11) (κ 0 12) f) (hge : h = gh0) (hgh : Fw [17, 21] [] gh0 h) : zM G mX12_does yX12_does [.inr (.inr 0), .inl x1, .inl x2, .inl x3] h (q_X12_doesZ b.to κ x1 x2 x3 f gh0) := by
  have f_0_11 := KRw hK
  have f_0_12 := KRh hK
  have f_0_14 := KRm hK
  refine zM_of [some (.inr (.inr 0)), some (.inl x1), some (.inl x2), some (.inl x3), none, none] 2 rfl rfl (Nat.le_of_ble_eq_true rfl) rfl ?_
  obtain ⟨d1, d2, d3, d4, d5, d6⟩ := hR.1 x1.toNat (by omega) (by omega)
  rw [show x1.toNat - 1 = (x1 - 1).toNat by omega] at d1 d3 d4 d5 d6
  refine zW_aload_n (pc' := 1) dX12_does_0.1.1.1.1 rfl rfl ?_
  refine zG_ref (pc' := 4) 3 fg_X12_16 tb0 rfl dX12_does_0.1.1.1.2 rfl ?_
  refine zW_iload_n (pc' := 5) dX12_does_0.1.1.2.1 rfl rfl ?_
  refine zW_iconst (pc' := 6) dX12_does_0.1.1.2.2 rfl ?_
  refine zW_isub (pc' := 7) dX12_does_0.1.2.1.1 rfl ?_
  refine zA_keyI (pc' := 8) hF rfl (by decide) (by decide) tb3 (by omega) dX12_does_0.1.2.1.2 (by decide) rfl (fun e7 => ?_)
  have e7_ : 98 ≤ κ 3 (x1 - 1).toNat ∧ κ 3 (x1 - 1).toNat ≤ 111 := by omega
  refine zW_istore (ls' := [_, _, _, _, _, _]) (pc' := 10) dX12_does_0.1.2.2.1 (by decide) rfl rfl rfl ?_
  refine zW_aload_n (pc' := 11) dX12_does_0.1.2.2.2 rfl rfl ?_
  refine zG_ref (pc' := 14) 23 fg_X12_78 tb0 rfl dX12_does_0.2.1.1.1 rfl ?_
  refine zW_aload_n (pc' := 15) dX12_does_0.2.1.1.2 rfl rfl ?_
  refine zG_ref (pc' := 18) 4 fg_X12_19 tb0 rfl dX12_does_0.2.1.2.1 rfl ?_
  refine zW_iload_n (pc' := 19) dX12_does_0.2.1.2.2 rfl rfl ?_
  refine zW_iconst (pc' := 20) dX12_does_0.2.2.1.1 rfl ?_
  refine zW_isub (pc' := 21) dX12_does_0.2.2.1.2 rfl ?_
  refine zA_keyB (KRna hK) (pc' := 22) hF rfl tb4 (by omega) dX12_does_0.2.2.2.1 (by decide) rfl (fun e21 => ?_)
  refine zA_givB (pc' := 23) hR hF (by omega) dX12_does_0.2.2.2.2 rfl (fun e22 => ?_)
  refine zW_istore (ls' := [_, _, _, _, _, _]) (pc' := 25) dX12_does_1.1.1.1.1 (by decide) rfl rfl rfl ?_
  refine zW_iload (pc' := 27) dX12_does_1.1.1.1.2 rfl rfl ?_
  refine zW_bipush (pc' := 29) dX12_does_1.1.1.2.1 rfl rfl ?_
  refine zV_cm_ne (tgt := 43) (pc' := 32) dX12_does_1.1.1.2.2 rfl rfl ⟨by omega, by omega⟩ ⟨by omega, by omega⟩ (fun c29 => ?_) (fun c29 => ?_)
  · refine zW_iload (pc' := 45) dX12_does_1.2.1.2.1 rfl rfl ?_
    refine csI1 (pc' := 48) kX12_isEarly vX12_isEarly lk_X12_170 ⟨Nat.le_of_ble_eq_true rfl, Nat.le_of_ble_eq_true rfl⟩ rfl (s_X12_isEarly hF _ ⟨by omega, by omega⟩) dX12_does_1.2.1.2.2 (Nat.le_of_ble_eq_true rfl) rfl ?_
    rintro r45 z45 ⟨hz45, p45⟩; subst z45
    refine zV_if_eq (tgt := 64) (pc' := 51) dX12_does_1.2.2.1.1 rfl rfl ⟨by omega, by omega⟩ (fun c48 => ?_) (fun c48 => ?_)
    · exfalso; omega
    · refine zW_aload_n (pc' := 52) dX12_does_1.2.2.1.2 rfl rfl ?_
      refine zW_iload (pc' := 54) dX12_does_1.2.2.2.1 rfl rfl ?_
      refine zW_iload (pc' := 56) dX12_does_1.2.2.2.2 rfl rfl ?_
      refine zW_iload_n (pc' := 57) dX12_does_2.1.1.1.1 rfl rfl ?_
      refine zW_iload_n (pc' := 58) dX12_does_2.1.1.1.2 rfl rfl ?_
      refine cvV4 (pc' := 61) kX12_early vX12_early lk_X12_362 ⟨Nat.le_of_ble_eq_true rfl, Nat.le_of_ble_eq_true rfl⟩ tb0 vq12 rfl rfl (s_X12_earlyZ hK hF _ ⟨by omega, by omega⟩ _ ⟨by omega, by omega⟩ _ ⟨by omega, by omega⟩ _ ⟨by omega, by omega⟩ f gh0 hel (fun q => d4 q) hJ hne hf hfb hge) dX12_does_2.1.1.2.1 (Nat.le_of_ble_eq_true rfl) rfl ?_
      rintro r58 h ⟨hF, d58, p58⟩
      have hgh := d58
      refine zV_goto 103 dX12_does_2.1.1.2.2 rfl ?_
      exact zV_vret rfl dX12_does_3.2.2.2 ⟨hF, ⟨hgh, p58⟩⟩
  · exfalso; omega

theorem s_X12_doesY {G : Ga} {b : Bd} {κ h : Hp} (hK : KR κ) (hF : Fr b.to κ h) (x1 : Int) (hx1 : 1 ≤ x1 ∧ x1 ≤ 12 ∧ x1 - κ 0 14 ≤ 0) (x2 : Int) (hx2 : 0 ≤ x2 ∧ x2 ≤ 14) (x3 : Int) (hx3 : 0 ≤ x3 ∧ x3 ≤ 14) (gh0 : Hp) (he2 : x2 = x1 - 1) (he3 : x3 = x1) (hJ : Ok17 b 0) (hR : GivOK κ) (hV : VOK (κ 1)) (hE : EaOK (κ 3) (κ 0 14)) (hgv : ∀ i, i < 130 → κ 23 i = κ 5 i) (hfd : FdR gh0 h) (hrw : Rws κ (h 17) (x1 - 1)) : zM G mX12_does yX12_does [.inr (.inr 0), .inl x1, .inl x2, .inl x3] h (fun r h' => Fr b.to κ h' ∧ (FdR gh0 h' ∧ Rws κ (h' 17) x1)) := by
  subst he2 he3
  have f1 := KRw hK
  have f2 := KRh hK
  have f3 := KRp hK
  obtain ⟨d1, d2, d3, -⟩ := hR.1 x3.toNat (by omega) (by omega)
  by_cases hn : noF (κ 3) x3.toNat
  · have hl := (hE (x3 - 1).toNat (by omega)).mp (hn.le (by omega))
    have hl2 := hn (x3 - 1).toNat (by omega)
    refine (s_X12_doesZ hK hF x3 hx1 (x3 - 1) hx2 x3 hx3 (EF κ (x3 - 1).toNat) h (hJ.mono (by omega)) hR (by omega) (by omega) ?_ (FB_EF hK hV _) rfl Fw.rf).mono (fun r h' q => ⟨q.1, hfd.fw q.2.1, fun k hk hk2 => ?_⟩)
    · have z := hrw (x3 - 1).toNat (by omega) (hn.le (by omega))
      rw [show (((x3 - 1).toNat : Nat) : Int) = x3 - 1 by omega] at z
      exact z
    · by_cases e : (k : Int) = x3
      · have e2 : k = (x3 - 1).toNat + 1 := by omega
        have z := q.2.2.1
        rw [hgv _ (by rw [show x3.toNat - 1 = (x3 - 1).toNat by omega] at d1 d3; omega)] at z
        rw [show ((k : Nat) : Int) = x3 from e, e2]
        exact z
      · have z := hrw k (by omega) hk2
        exact Row17.oth (k := x3) e (by omega) (by omega) f1.2 f2.2 f3.1 q.2.2.2 z
  · refine (s_X12_does (b := bdO b h x3) hK hF.toOt x3 hx1 (x3 - 1) hx2 x3 hx3 (bdO_ok (by omega) hJ) hR).mono (fun r h' q => ⟨q.1.ofOt, fun k i h1 h2 h3 => (q.1.dpO k i h1 (fun z => absurd z h2)).trans (hfd k i h1 h2 h3), fun k hk hk2 => ?_⟩)
    by_cases e : (k : Int) = x3
    · exact absurd hk2 (by rw [show k = x3.toNat by omega]; exact hn)
    · intro x y hp
      have z := hrw k (by omega) hk2 x y hp
      have b2 := ix_b (k := k) hp (by omega) f1.2 f2.2 f3.1
      rw [q.1.dpO 17 _ (by simp [dpn]) (fun _ => by omega)]
      exact z

abbrev q_X12_leavesTZ (b : Bd) (κ : Hp) (gh0 : Hp) : Int → Hp → Prop := fun r h' => Fr b κ h' ∧ ((FdR gh0 h' ∧ Rws κ (h' 17) (κ 0 14)))
set_option maxHeartbeats 4000000 in
set_option maxRecDepth 20000 in
theorem t_X12_leavesTZ {G : Ga} {b : Bd} {κ h : Hp} (hK : KR κ) (hF : Fr b.to κ h) (gh0 : Hp) (hJ : Ok17 b 0) (hw : ∀ (h : Hp) (v : Int), b.I h → b.I (zwr h 0 23 v)) (hR : GivOK κ) (hV : VOK (κ 1)) (hE : EaOK (κ 3) (κ 0 14)) (hgv : ∀ i, i < 130 → κ 23 i = κ 5 i) (hfd : FdR gh0 h) (hP : h 0 23 ≠ 0 → Rws κ (h 17) (κ 0 14)) {Q : Int → Hp → Prop} (hQ : ∀ (r : Int) (h' : Hp), (q_X12_leavesTZ b.to κ gh0) r h' → Q r h') : zV G mX12_leaves Q 11 [some (.inr (.inr 0)), none, none] [] h := by
  have f_0_11 := KRw hK
  have f_0_12 := KRh hK
  have f_0_13 := KRp hK
  have f_0_14 := KRm hK
  have main : ∀ N : Nat, (∀ (v1 : Int) (h : Hp), Fr b.to κ h → (0 ≤ v1 ∧ v1 ≤ 16) → (v1 - κ 0 12 ≤ 0) → (FdR gh0 h) → (Row17u κ (h 17) 0 (EF κ 0) 0 v1) → 19004544 + 22464 * (16 - v1) + 21996 < (N : Int) → zV G mX12_leaves Q 26 [some (.inr (.inr 0)), some (.inl v1), none] [] h) ∧ (∀ (v1 : Int) (h : Hp), Fr b.to κ h → (1 ≤ v1 ∧ v1 ≤ 13) → (v1 - κ 0 14 ≤ 1) → (FdR gh0 h) → (Rws κ (h 17) (v1 - 1)) → (v1 ≤ κ 0 14 + 1) → 16578432 + 22464 * (13 - v1) + 19188 < (N : Int) → zV G mX12_leaves Q 79 [some (.inr (.inr 0)), some (.inl v1), none] [] h) ∧ (∀ (v1 v2 : Int) (h : Hp), Fr b.to κ h → (0 ≤ v1 ∧ v1 ≤ 15) → (v1 - κ 0 12 ≤ -1) → (0 ≤ v2 ∧ v2 ≤ 16) → (v2 - κ 0 11 ≤ 0) → (FdR gh0 h) → (Row17u κ (h 17) 0 (EF κ 0) v2 v1) → 19004544 + 22464 * (16 - v1) + 11700 + 26 * (16 - v2) + 25 < (N : Int) → zV G mX12_leaves Q 36 [some (.inr (.inr 0)), some (.inl v1), some (.inl v2)] [] h) := by
    intro N
    induction N with
    | zero =>
      refine ⟨?_, ?_, ?_⟩
      · intro v1 h hF g0 g1 gc0 gc1 hm
        exfalso; omega
      · intro v1 h hF g0 g1 gc0 gc1 gc2 hm
        exfalso; omega
      · intro v1 v2 h hF g0 g1 g2 g3 gc0 gc1 hm
        exfalso; omega
    | succ N ih =>
      obtain ⟨k26, k79, k36⟩ := ih
      refine ⟨?_, ?_, ?_⟩
      · intro v1 h hF g0 g1 gc0 gc1 hm
        refine zW_iload_n (pc' := 27) dX12_leaves_0.2.2.2.1 rfl rfl ?_
        refine zW_aload_n (pc' := 28) dX12_leaves_0.2.2.2.2 rfl rfl ?_
        refine zG_key (pc' := 31) hF rfl fg_X12_103 tb0 rfl dX12_leaves_1.1.1.1.1 rfl ?_
        refine zV_cm_ge (tgt := 77) (pc' := 34) dX12_leaves_1.1.1.1.2 rfl rfl ⟨by omega, by omega⟩ ⟨by omega, by omega⟩ (fun c31 => ?_) (fun c31 => ?_)
        · refine zW_iconst (pc' := 78) dX12_leaves_2.2.1.2.2 rfl ?_
          refine zW_istore_n (ls' := [_, _, _]) (pc' := 79) dX12_leaves_2.2.2.1.1 (by decide) rfl rfl rfl ?_
          exact k79 _ _ hF (by omega) (by omega) (by first | exact p93.1 | exact gc0) (by first | (rw [show v1 + 1 - 1 = v1 by omega]; exact p93.2) | exact Rws_0 (gc1.all (by omega))) (by omega) (by omega)
        · refine zW_iconst (pc' := 35) dX12_leaves_1.1.1.2.1 rfl ?_
          refine zW_istore_n (ls' := [_, _, _]) (pc' := 36) dX12_leaves_1.1.1.2.2 (by decide) rfl rfl rfl ?_
          exact k36 _ _ _ hF (by omega) (by omega) (by omega) (by omega) (by first | exact hfd2 | exact gc0) (by first | exact hr2 | exact gc1) (by omega)
      · intro v1 h hF g0 g1 gc0 gc1 gc2 hm
        refine zW_iload_n (pc' := 80) dX12_leaves_2.2.2.1.2 rfl rfl ?_
        refine zW_aload_n (pc' := 81) dX12_leaves_2.2.2.2.1 rfl rfl ?_
        refine zG_key (pc' := 84) hF rfl fg_X12_185 tb0 rfl dX12_leaves_2.2.2.2.2 rfl ?_
        refine zV_cm_gt (tgt := 102) (pc' := 87) dX12_leaves_3.1.1.1.1 rfl rfl ⟨by omega, by omega⟩ ⟨by omega, by omega⟩ (fun c84 => ?_) (fun c84 => ?_)
        · exact zV_vret rfl dX12_leaves_3.2.2.2 (hQ _ _ ⟨hF, ⟨gc0, by rw [show κ 0 14 = v1 - 1 by omega]; exact gc1⟩⟩)
        · refine zW_aload_n (pc' := 88) dX12_leaves_3.1.1.1.2 rfl rfl ?_
          refine zW_iload_n (pc' := 89) dX12_leaves_3.1.1.2 rfl rfl ?_
          refine zW_iload_n (pc' := 90) dX12_leaves_3.1.2.1.1 rfl rfl ?_
          refine zW_iconst (pc' := 91) dX12_leaves_3.1.2.1.2 rfl ?_
          refine zW_isub (pc' := 92) dX12_leaves_3.1.2.2 rfl ?_
          refine zW_iload_n (pc' := 93) dX12_leaves_3.2.1.1.1 rfl rfl ?_
          refine cvV3 (pc' := 96) kX12_does vX12_does lk_X12_371 ⟨Nat.le_of_ble_eq_true rfl, Nat.le_of_ble_eq_true rfl⟩ tb0 vq12 rfl rfl (s_X12_doesY hK hF _ ⟨by omega, by omega, by omega⟩ _ ⟨by omega, by omega⟩ _ ⟨by omega, by omega⟩ gh0 (by omega) (by omega) hJ hR hV hE hgv gc0 gc1) dX12_leaves_3.2.1.1.2 (Nat.le_of_ble_eq_true rfl) rfl ?_
          rintro r93 h ⟨hF, p93⟩
          refine zW_iinc (ls' := [_, _, _]) (pc' := 99) dX12_leaves_3.2.1.2 rfl (by decide) rfl rfl rfl ?_
          refine zV_goto 79 dX12_leaves_3.2.2.1 rfl ?_
          exact k79 _ _ hF (by omega) (by omega) (by first | exact p93.1 | exact gc0) (by first | (rw [show v1 + 1 - 1 = v1 by omega]; exact p93.2) | exact Rws_0 (gc1.all (by omega))) (by omega) (by omega)
      · intro v1 v2 h hF g0 g1 g2 g3 gc0 gc1 hm
        refine zW_iload_n (pc' := 37) dX12_leaves_1.1.2.1.1 rfl rfl ?_
        refine zW_aload_n (pc' := 38) dX12_leaves_1.1.2.1.2 rfl rfl ?_
        refine zG_key (pc' := 41) hF rfl fg_X12_99 tb0 rfl dX12_leaves_1.1.2.2.1 rfl ?_
        refine zV_cm_ge (tgt := 71) (pc' := 44) dX12_leaves_1.1.2.2.2 rfl rfl ⟨by omega, by omega⟩ ⟨by omega, by omega⟩ (fun c41 => ?_) (fun c41 => ?_)
        · refine zW_iinc (ls' := [_, _, _]) (pc' := 74) dX12_leaves_2.2.1.1.2 rfl (by decide) rfl rfl rfl ?_
          refine zV_goto 26 dX12_leaves_2.2.1.2.1 rfl ?_
          refine zV_clr 2 (ls' := [_, _, _]) rfl ?_
          exact k26 _ _ hF (by omega) (by omega) (by first | exact gc0 | exact hfd1) (by first | exact gc1.rowx (by omega) | exact Row17u.no) (by omega)
        · refine zW_aload_n (pc' := 45) dX12_leaves_1.2.1.1.1 rfl rfl ?_
          refine zW_iconst (pc' := 46) dX12_leaves_1.2.1.1.2 rfl ?_
          refine zW_iload_n (pc' := 47) dX12_leaves_1.2.1.2.1 rfl rfl ?_
          refine zW_iload_n (pc' := 48) dX12_leaves_1.2.1.2.2 rfl rfl ?_
          refine zW_bipush (pc' := 50) dX12_leaves_1.2.2.1.1 rfl rfl ?_
          refine zW_aload_n (pc' := 51) dX12_leaves_1.2.2.1.2 rfl rfl ?_
          refine zG_ref (pc' := 54) 1 fg_X12_7 tb0 rfl dX12_leaves_1.2.2.2.1 rfl ?_
          refine zW_bipush (pc' := 56) dX12_leaves_1.2.2.2.2 rfl rfl ?_
          refine zW_iload_n (pc' := 57) dX12_leaves_2.1.1.1.1 rfl rfl ?_
          refine zW_imul (pc' := 58) dX12_leaves_2.1.1.1.2 rfl ?_
          refine zW_iload_n (pc' := 59) dX12_leaves_2.1.1.2.1 rfl rfl ?_
          refine zW_iadd (pc' := 60) dX12_leaves_2.1.1.2.2 rfl ?_
          refine zA_keyI (pc' := 61) hF rfl (by decide) (by decide) tb1 (by omega) dX12_leaves_2.1.2.1.1 (by decide) rfl (fun e60 => ?_)
          have b60 := hV (16 * v1 + v2).toNat (by omega)
          refine zW_imul (pc' := 62) dX12_leaves_2.1.2.1.2 rfl ?_
          refine cvV4 (pc' := 65) kX12_laysOwn vX12_laysOwn lk_X12_270 ⟨Nat.le_of_ble_eq_true rfl, Nat.le_of_ble_eq_true rfl⟩ tb0 vq12 rfl rfl (s_X12_laysOwnZ hK hF _ ⟨by omega, by omega⟩ _ ⟨by omega, by omega, by omega⟩ _ ⟨by omega, by omega, by omega⟩ _ ⟨by omega, by omega⟩ h hJ rfl) dX12_leaves_2.1.2.2.1 (Nat.le_of_ble_eq_true rfl) rfl ?_
          rintro r62 h ⟨hF, p62⟩
          have hr2 : Row17u κ (h 17) 0 (EF κ 0) (v2 + 1) v1 := by rw [p62]; exact Row17u.nx (by omega) (by omega) (by omega) (by omega) ⟨by omega, by omega, by omega, by omega⟩ gc1 (clp_id ⟨by omega, by omega⟩)
          have hfd2 : FdR gh0 h := by rw [p62]; exact gc0.w17
          refine zW_iinc (ls' := [_, _, _]) (pc' := 68) dX12_leaves_2.1.2.2.2 rfl (by decide) rfl rfl rfl ?_
          refine zV_goto 36 dX12_leaves_2.2.1.1.1 rfl ?_
          exact k36 _ _ _ hF (by omega) (by omega) (by omega) (by omega) (by first | exact hfd2 | exact gc0) (by first | exact hr2 | exact gc1) (by omega)
  refine zW_aload_n (pc' := 12) dX12_leaves_0.1.2.1.2 rfl rfl ?_
  refine zG_int (pc' := 15) fg_X12_192 tb0 rfl dX12_leaves_0.1.2.2.1 rfl ?_
  have e12_ := hF.2.2.2.2.2.2 0 23 (by decide) (by decide)
  unfold rng at e12_
  refine zV_if_eq (tgt := 19) (pc' := 18) dX12_leaves_0.1.2.2.2 rfl rfl ⟨by omega, by omega⟩ (fun c15 => ?_) (fun c15 => ?_)
  · refine zW_aload_n (pc' := 20) dX12_leaves_0.2.1.1.2 rfl rfl ?_
    refine zW_iconst (pc' := 21) dX12_leaves_0.2.1.2.1 rfl ?_
    refine zX_boo (pc' := 24) (hF.w23 (fun q => q) (hw _ _ hF.inv) ⟨by omega, by omega⟩) fp_X12_192 (by omega) tb0 rfl dX12_leaves_0.2.1.2.2 rfl (fun h hF w21 => ?_)
    have hfd1 : FdR gh0 h := by rw [w21]; exact hfd.w23
    refine zW_iconst (pc' := 25) dX12_leaves_0.2.2.1.1 rfl ?_
    refine zW_istore_n (ls' := [_, _, _]) (pc' := 26) dX12_leaves_0.2.2.1.2 (by decide) rfl rfl rfl ?_
    exact (main 10000000000000000000000000000000000000000).1 _ _ hF (by omega) (by omega) (by first | exact gc0 | exact hfd1) (by first | exact gc1.rowx (by omega) | exact Row17u.no) (by omega)
  · exact zV_vret rfl dX12_leaves_0.2.1.1.1 (hQ _ _ ⟨hF, ⟨hfd, hP c15⟩⟩)

/-- the rows of the reference are the pictures, if it says so -/
def PicR (h : Hp) : Prop := h 0 23 ≠ 0 → Rws h (h 17) (h 0 14)
theorem Rws.key {κ h : Hp} {A : Nat → Int} {n : Int} (e11 : h 0 11 = κ 0 11) (e12 : h 0 12 = κ 0 12) (e13 : h 0 13 = κ 0 13) (e1 : h 1 = κ 1) (e10 : h 10 = κ 10) (e3 : h 3 = κ 3) (e4 : h 4 = κ 4) (e5 : h 5 = κ 5) : Rws h A n ↔ Rws κ A n := by
  unfold Rws Row17 EF
  rw [e11, e12, e13, e1, e10, e3, e4, e5]
theorem Rws.keyF {b : Bd} {κ h : Hp} {A : Nat → Int} {n : Int} (hF : Fr b κ h) : Rws h A n ↔ Rws κ A n :=
  Rws.key (hF.1 0 11 rfl) (hF.1 0 12 rfl) (hF.1 0 13 rfl) (keq hF rfl) (keq hF rfl) (keq hF rfl) (keq hF rfl) (keq hF rfl)
abbrev q_X12_leavesZ (b : Bd) (κ : Hp) : Int → Hp → Prop := fun _ h' => Fr b.fo κ h' ∧ ((∀ i, i < 130 → h' 23 i = κ 5 i) ∧ Rws κ (h' 17) (κ 0 14))
def LeavesZ (b : Bd) : Prop := ∀ {G : Ga} {κ h : Hp}, KR κ → Fr b.fo κ h → zM G mX12_leaves yX12_leaves [.inr (.inr 0)] h (q_X12_leavesZ b κ)
theorem LeavesZ.ok {b : Bd} (h : LeavesZ b) : LeavesOK b := fun hK hF => (h hK hF).mono (fun _ _ q => ⟨q.1, q.2.1⟩)
theorem leavesZ_of {b : Bd} (hb : ∀ g h : Hp, FdR g h → PicR h → b.I g → b.I h) (hp : ∀ h : Hp, b.I h → PicR h ∧ VOK (h 1) ∧ EaOK (h 3) (h 0 14)) : LeavesZ b := by
  intro G κ h hK hF
  refine zM_of [some (.inr (.inr 0)), none, none] 2 rfl rfl (Nat.le_of_ble_eq_true rfl) rfl ?_
  refine zW_aload_n (pc' := 1) dX12_leaves_0.1.1.1.1 rfl rfl ?_
  refine zG_ref (pc' := 4) 5 fg_X12_22 tb0 rfl dX12_leaves_0.1.1.1.2 rfl ?_
  refine zW_aload_n (pc' := 5) dX12_leaves_0.1.1.2.1 rfl rfl ?_
  refine zG_ref (pc' := 8) 23 fg_X12_78 tb0 rfl dX12_leaves_0.1.1.2.2 rfl ?_
  refine csV2 (pc' := 11) kX12_copies vX12_copies lk_X12_188 ⟨Nat.le_of_ble_eq_true rfl, Nat.le_of_ble_eq_true rfl⟩ rfl (s_X12_copies tb5 tb23 (by decide) (by decide)) dX12_leaves_0.1.2.1.1 (Nat.le_of_ble_eq_true rfl) rfl ?_
  rintro r h1 e1
  have hF1 : Fr b.fo κ h1 := by rw [e1]; exact Fr_cpy hF
  have eg : ∀ i, i < 130 → h1 23 i = κ 5 i := fun i hi => by
    rw [e1, cpy_in hi]
    exact hF.1 5 i rfl
  have e5 : h1 5 = κ 5 := keq hF1 rfl
  have hK1 : KR h1 := KR_tr hK hF1
  have hR1 : GivOK h1 := by
    refine ⟨?_, fun j hj => ?_⟩
    · have := (KRr hK).cong eg
      rw [keq hF1 (k := 3) rfl, keq hF1 (k := 4) rfl, hF1.1 0 14 rfl]
      exact this
    · rw [eg j hj]
      exact KRnu hK j
  obtain ⟨p1, p2, p3⟩ := hp h1 hF1.inv
  refine t_X12_leavesTZ (b := bdB true) hK1 (Fr.rf (b := (bdB true).to) hF1.2.2) h1 (fun _ _ _ _ _ => True.intro) (fun _ _ _ => True.intro) hR1 p2 p3 (fun i hi => by rw [eg i hi, e5]) FdR.rf p1 (fun r h' hq => ?_)
  obtain ⟨q1, q2, q3⟩ := hq
  have hF2 : Fr (bdB false) κ h' := ⟨fun k i hk => (q1.1 k i hk).trans (hF1.1 k i hk), ⟨fun z => (by cases z), True.intro⟩, q1.2.2⟩
  have q4 : Rws κ (h' 17) (κ 0 14) := by
    have z := (Rws.keyF hF1).mp q3
    rw [hF1.1 0 14 rfl] at z
    exact z
  have q5 : PicR h' := fun _ => by
    rw [hF2.1 0 14 rfl]
    exact (Rws.keyF hF2).mpr q4
  refine ⟨⟨hF2.1, ⟨fun z => (by cases z), hb h1 h' q2 q5 hF1.inv⟩, q1.2.2⟩, fun i hi => ?_, q4⟩
  rw [q1.2.1.1 rfl i]
  exact eg i hi
