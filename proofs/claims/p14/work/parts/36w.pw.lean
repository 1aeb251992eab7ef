/-! the squares that are found -/
def mk1 (W H : Int) (D : Nat → Int) (f : Int → Int → Int) (n : Int) (q : Nat) : Int := if ((q % 16 : Nat) : Int) < W ∧ ((q / 16 : Nat) : Int) < H ∧ fnd W H D f n ((q % 16 : Nat) : Int) ((q / 16 : Nat) : Int) then 1 else 0
theorem mk1_b {W H : Int} {D : Nat → Int} {f : Int → Int → Int} {n : Int} {q : Nat} : 0 ≤ mk1 W H D f n q ∧ mk1 W H D f n q ≤ 1 := by
  unfold mk1
  split <;> omega
theorem mk1_of {W H v : Int} {D : Nat → Int} {f : Int → Int → Int} {n : Int} {q : Nat} (hv : v = 0 ∨ v = 1) (h : v = 1 ↔ (((q % 16 : Nat) : Int) < W ∧ ((q / 16 : Nat) : Int) < H ∧ fnd W H D f n ((q % 16 : Nat) : Int) ((q / 16 : Nat) : Int))) : v = mk1 W H D f n q := by
  unfold mk1
  by_cases c : ((q % 16 : Nat) : Int) < W ∧ ((q / 16 : Nat) : Int) < H ∧ fnd W H D f n ((q % 16 : Nat) : Int) ((q / 16 : Nat) : Int)
  · rw [if_pos c]; exact h.mpr c
  · rw [if_neg c]
    rcases hv with e | e
    · exact e
    · exact absurd (h.mp e) c
theorem cntZ_le {f : Nat → Int} : ∀ n : Nat, 0 ≤ cntZ f n ∧ cntZ f n ≤ n
  | 0 => ⟨Int.le_refl _, Int.le_refl _⟩
  | n + 1 => by
    have z := cntZ_le (f := f) n
    have e : cntZ f (n + 1) = cntZ f n + (if f n = 0 then 0 else 1) := rfl
    rw [e]
    split <;> omega
/-- the first marked one, the last, among those below v -/
def FsI (M : Nat → Int) (v f : Int) : Prop := (f = -2 ∧ ∀ q : Nat, (q : Int) < v → M q = 0) ∨ (0 ≤ f ∧ f < v ∧ M f.toNat = 1 ∧ ∀ q : Nat, (q : Int) < f → M q = 0)
def LsI (M : Nat → Int) (v f : Int) : Prop := (f = -2 ∧ ∀ q : Nat, (q : Int) < v → M q = 0) ∨ (0 ≤ f ∧ f < v ∧ M f.toNat = 1 ∧ ∀ q : Nat, f < (q : Int) → (q : Int) < v → M q = 0)
theorem FsI.no {M : Nat → Int} : FsI M 0 (-2) := Or.inl ⟨rfl, fun q hq => by omega⟩
theorem LsI.no {M : Nat → Int} : LsI M 0 (-2) := Or.inl ⟨rfl, fun q hq => by omega⟩
theorem FsI.s0 {M : Nat → Int} {v f : Int} (h : FsI M v f) (hv : 0 ≤ v) (hm : M v.toNat = 0) : FsI M (v + 1) f := by
  rcases h with ⟨a, b⟩ | ⟨a, b, c, d⟩
  · refine Or.inl ⟨a, fun q hq => ?_⟩
    by_cases e : (q : Int) = v
    · rw [show q = v.toNat by omega]; exact hm
    · exact b q (by omega)
  · exact Or.inr ⟨a, by omega, c, d⟩
theorem LsI.s0 {M : Nat → Int} {v f : Int} (h : LsI M v f) (hv : 0 ≤ v) (hm : M v.toNat = 0) : LsI M (v + 1) f := by
  rcases h with ⟨a, b⟩ | ⟨a, b, c, d⟩
  · refine Or.inl ⟨a, fun q hq => ?_⟩
    by_cases e : (q : Int) = v
    · rw [show q = v.toNat by omega]; exact hm
    · exact b q (by omega)
  · refine Or.inr ⟨a, by omega, c, fun q h1 h2 => ?_⟩
    by_cases e : (q : Int) = v
    · rw [show q = v.toNat by omega]; exact hm
    · exact d q h1 (by omega)
theorem FsI.s1 {M : Nat → Int} {v f g : Int} (h : FsI M v f) (hv : 0 ≤ v) (hm : M v.toNat = 1) (hg : (f < 0 ∧ g = v) ∨ (0 ≤ f ∧ g = f)) : FsI M (v + 1) g := by
  rcases h with ⟨a, b⟩ | ⟨a, b, c, d⟩
  · have e : g = v := by omega
    subst e
    exact Or.inr ⟨hv, by omega, hm, b⟩
  · have e : g = f := by omega
    subst e
    exact Or.inr ⟨a, by omega, c, d⟩
theorem LsI.s1 {M : Nat → Int} {v f : Int} (h : LsI M v f) (hv : 0 ≤ v) (hm : M v.toNat = 1) : LsI M (v + 1) v := Or.inr ⟨hv, by omega, hm, fun q h1 h2 => by omega⟩
theorem FsI.uniq {M M' : Nat → Int} {v a b : Int} (e : ∀ q : Nat, (q : Int) < v → M q = M' q) (h : FsI M v a) (h' : FsI M' v b) : a = b := by
  rcases h with ⟨a1, a2⟩ | ⟨a1, a2, a3, a4⟩ <;> rcases h' with ⟨b1, b2⟩ | ⟨b1, b2, b3, b4⟩
  · omega
  · have z := a2 b.toNat (by omega)
    rw [e _ (by omega)] at z
    omega
  · have z := b2 a.toNat (by omega)
    rw [← e _ (by omega)] at z
    omega
  · rcases Int.lt_trichotomy a b with l | l | l
    · have z := b4 a.toNat (by omega)
      rw [← e _ (by omega)] at z
      omega
    · exact l
    · have z := a4 b.toNat (by omega)
      rw [e _ (by omega)] at z
      omega
theorem LsI.uniq {M M' : Nat → Int} {v a b : Int} (e : ∀ q : Nat, (q : Int) < v → M q = M' q) (h : LsI M v a) (h' : LsI M' v b) : a = b := by
  rcases h with ⟨a1, a2⟩ | ⟨a1, a2, a3, a4⟩ <;> rcases h' with ⟨b1, b2⟩ | ⟨b1, b2, b3, b4⟩
  · omega
  · have z := a2 b.toNat (by omega)
    rw [e _ (by omega)] at z
    omega
  · have z := b2 a.toNat (by omega)
    rw [← e _ (by omega)] at z
    omega
  · rcases Int.lt_trichotomy a b with l | l | l
    · have z := a4 b.toNat (by omega) (by omega)
      rw [e _ (by omega)] at z
      omega
    · exact l
    · have z := b4 a.toNat (by omega) (by omega)
      rw [← e _ (by omega)] at z
      omega

/-- what found answers: of marks M, dead ones D -/
def FdA (M D : Nat → Int) (w r : Int) : Prop := (w = 0 → r = cntZ M 256) ∧ (w = 1 → r = cntZ D 256) ∧ (w = 2 → FsI M 256 r) ∧ (w = 3 → LsI M 256 r)
def fdP (many : Int) (L : Nat → Int) (x1 x2 r : Int) (P : Prop) : Prop := (¬ (1 ≤ x1 ∧ x1 ≤ many ∧ 0 ≤ x2 ∧ x2 ≤ 3) → r = -1) ∧ (1 ≤ x1 ∧ x1 ≤ many ∧ 0 ≤ x2 ∧ x2 ≤ 3 → L (x1 - 1).toNat ≠ 100 → r = -3) ∧ (1 ≤ x1 ∧ x1 ≤ many ∧ 0 ≤ x2 ∧ x2 ≤ 3 → L (x1 - 1).toNat = 100 → P)

theorem zW_iand01 {G : Ga} {μ : Mt} {Q : Int → Hp → Prop} {pc pc' : Nat} {ls : Lo} {st : List Sv} {h : Hp} {a c : Int} (ha : 0 ≤ a ∧ a ≤ 1) (hc : 0 ≤ c ∧ c ≤ 1) (hd : decode μ.1 pc = .ok (.iand, 1)) (hn : pc + 1 = pc') (kk : ∀ v : Int, v = (if a = 1 ∧ c = 1 then 1 else 0) → zV G μ Q pc' ls (.inl v :: st) h) : zV G μ Q pc ls (.inl c :: .inl a :: st) h := by
  subst hn
  intro p e s m args below meth c0 H locs lsA C hP hS hL
  refine lv_iand C.1 C.2.1 hd (zV_any32 C hP hS hL (kk _ ?_))
  have : (a = 0 ∨ a = 1) ∧ (c = 0 ∨ c = 1) := by omega
  rcases this with ⟨rfl | rfl, rfl | rfl⟩ <;> decide +kernel
theorem LsI.sk {M : Nat → Int} {v w f : Int} (h : LsI M v f) (hv : v ≤ w) (hz : ∀ q : Nat, v ≤ (q : Int) → (q : Int) < w → M q = 0) : LsI M w f := by
  rcases h with ⟨a, b⟩ | ⟨a, b, c, d⟩
  · refine Or.inl ⟨a, fun q hq => ?_⟩
    by_cases e : (q : Int) < v
    · exact b q e
    · exact hz q (by omega) hq
  · refine Or.inr ⟨a, by omega, c, fun q h1 h2 => ?_⟩
    by_cases e : (q : Int) < v
    · exact d q h1 e
    · exact hz q (by omega) h2
/-- marks are none outside the picture -/
def MkO (W H : Int) (M : Nat → Int) : Prop := ∀ q : Nat, (W ≤ ((q % 16 : Nat) : Int) ∨ H ≤ ((q / 16 : Nat) : Int)) → M q = 0
def FdB (M D : Nat → Int) (W H : Int) (w r : Int) : Prop := (w = 0 → r = smS M W.toNat H.toNat) ∧ (w = 1 → r = smS (fun j => if M j = 1 ∧ D j = 1 then 1 else 0) W.toNat H.toNat) ∧ (w = 2 → FsI M 256 r) ∧ (w = 3 → LsI M 256 r)
theorem mk1_O {W H : Int} {D : Nat → Int} {f : Int → Int → Int} {n : Int} : MkO W H (mk1 W H D f n) := fun q hq => by
  unfold mk1
  rw [if_neg (by omega)]

abbrev q_X12_marksFoundZ (b : Bd) (κ : Hp) (x1 : Int) (f : Int → Int → Int) (gh0 : Hp) : Int → Hp → Prop := fun r h' => Fr b κ h' ∧ ((Fw [24, 21] [] gh0 h') ∧ (∀ q : Nat, q < 256 → h' 24 q = (mk1 (κ 0 11) (κ 0 12) (κ 10) f (κ 5 (κ 4 (x1 - 1).toNat).toNat)) q))
set_option maxHeartbeats 4000000 in
set_option maxRecDepth 20000 in
theorem s_X12_marksFoundZ {G : Ga} {b : Bd} {κ h : Hp} (hK : KR κ) (hF : Fr b κ h) (x1 : Int) (hx1 : 1 ≤ x1 ∧ x1 ≤ 12 ∧ x1 - κ 0 14 ≤ 0) (f : Int → Int → Int) (gh0 : Hp) (hf : Row17 κ (h 17) (x1 - 1) f) (hfb : FB (κ 0 11) (κ 0 12) f) (hgh : Fw [24, 21] [] gh0 h) : zM G mX12_marksFound yX12_marksFound [.inr (.inr 0), .inl x1] h (q_X12_marksFoundZ b κ x1 f gh0) := by
  have f_0_11 := KRw hK
  have f_0_12 := KRh hK
  have f_0_14 := KRm hK
  have main : ∀ N : Nat, (∀ (v2 : Int) (h : Hp), Fr b κ h → (0 ≤ v2 ∧ v2 ≤ 256) → (∀ q : Nat, (q : Int) < v2 → h 24 q = (mk1 (κ 0 11) (κ 0 12) (κ 10) f (κ 5 (κ 4 (x1 - 1).toNat).toNat)) q) → (Row17 κ (h 17) (x1 - 1) f) → (Fw [24, 21] [] gh0 h) → 402480 + 40 * (256 - v2) + 39 < (N : Int) → zV G mX12_marksFound (q_X12_marksFoundZ b κ x1 f gh0) 2 [some (.inr (.inr 0)), some (.inl x1), some (.inl v2)] [] h) := by
    intro N
    induction N with
    | zero =>
      intro v2 h hF g0 gc0 hf hgh hm
      exfalso; omega
    | succ N ih =>
      have k2 := ih
      intro v2 h hF g0 gc0 hf hgh hm
      refine zW_iload_n (pc' := 3) dX12_marksFound_0.1.1.2.1 rfl rfl ?_
      refine zW_sipush (pc' := 6) dX12_marksFound_0.1.1.2.2 rfl rfl ?_
      refine zV_cm_ge (tgt := 65) (pc' := 9) dX12_marksFound_0.1.2.1.1 rfl rfl ⟨by omega, by omega⟩ ⟨by omega, by omega⟩ (fun c6 => ?_) (fun c6 => ?_)
      · exact zV_vret rfl dX12_marksFound_2.2.2.2 ⟨hF, ⟨hgh, (fun q hq => gc0 q (by omega))⟩⟩
      · refine zW_aload_n (pc' := 10) dX12_marksFound_0.1.2.1.2 rfl rfl ?_
        refine zG_ref (pc' := 13) 24 fg_X12_81 tb0 rfl dX12_marksFound_0.1.2.2.1 rfl ?_
        refine zW_iload_n (pc' := 14) dX12_marksFound_0.1.2.2.2 rfl rfl ?_
        refine zW_aload_n (pc' := 15) dX12_marksFound_0.2.1.1.1 rfl rfl ?_
        refine zW_iload_n (pc' := 16) dX12_marksFound_0.2.1.1.2 rfl rfl ?_
        refine zW_bipush (pc' := 18) dX12_marksFound_0.2.1.2.1 rfl rfl ?_
        refine zW_irem (pc' := 19) (by omega) (by omega) dX12_marksFound_0.2.1.2.2 rfl ?_
        refine zW_iload_n (pc' := 20) dX12_marksFound_0.2.2.1.1 rfl rfl ?_
        refine zW_bipush (pc' := 22) dX12_marksFound_0.2.2.1.2 rfl rfl ?_
        refine zW_idiv (pc' := 23) (by omega) (by omega) dX12_marksFound_0.2.2.2.1 rfl ?_
        refine cvI2 (pc' := 26) kX12_isSquare vX12_isSquare lk_X12_218 ⟨Nat.le_of_ble_eq_true rfl, Nat.le_of_ble_eq_true rfl⟩ tb0 vq12 rfl rfl (s_X12_isSquare hK hF _ ⟨by omega, by omega⟩ _ ⟨by omega, by omega⟩) dX12_marksFound_0.2.2.2.2 (Nat.le_of_ble_eq_true rfl) rfl ?_
        rintro r23 z23 ⟨hz23, p23⟩; subst z23
        refine zV_if_eq (tgt := 57) (pc' := 29) dX12_marksFound_1.1.1.1.1 rfl rfl ⟨by omega, by omega⟩ (fun c26 => ?_) (fun c26 => ?_)
        · refine zW_iconst (pc' := 58) dX12_marksFound_2.1.2.2 rfl ?_
          refine zS_z (pc' := 59) hF sr24 tb24 (by omega) (by omega) dX12_marksFound_2.2.1.1 (by decide) rfl (fun h hF w58 => ?_)
          replace hgh : Fw [24, 21] [] gh0 h := by rw [w58]; exact hgh.wc (by simp)
          replace hf : Row17 κ (h 17) (x1 - 1) f := by have q0_ := (congrFun w58 17).trans (zfun (by decide)); rw [q0_]; exact hf
          have gn : ∀ q : Nat, (q : Int) < v2 + 1 → h 24 q = (mk1 (κ 0 11) (κ 0 12) (κ 10) f (κ 5 (κ 4 (x1 - 1).toNat).toNat)) q := fun q hq => by rw [w58]; by_cases e : q = v2.toNat; (rw [e, zwr_eq]; exact (by have ex : ((v2.toNat % 16 : Nat) : Int) = v2 % 16 := (by omega); have ey : ((v2.toNat / 16 : Nat) : Int) = v2 / 16 := (by omega); refine mk1_of (by omega) ?_; rw [ex, ey]; first | (have z := p47.2.2; rw [p44, Int.add_zero] at z; exact ⟨fun q => ⟨by omega, by omega, z.mp (by omega)⟩, fun q => by have w := z.mpr q.2.2; omega⟩) | exact ⟨fun q => by omega, fun q => by omega⟩)); (rw [zwr_ne (Or.inr e)]; first | exact gm q (by omega) | exact gc0 q (by omega))
          refine zW_iinc (ls' := [_, _, _]) (pc' := 62) dX12_marksFound_2.2.1.2 rfl (by decide) rfl rfl rfl ?_
          refine zV_goto 2 dX12_marksFound_2.2.2.1 rfl ?_
          exact k2 _ _ hF (by omega) (by first | exact gn | exact (fun q hq => by omega)) hf hgh (by omega)
        · refine zW_aload_n (pc' := 30) dX12_marksFound_1.1.1.1.2 rfl rfl ?_
          refine zW_iload_n (pc' := 31) dX12_marksFound_1.1.1.2.1 rfl rfl ?_
          refine zW_iconst (pc' := 32) dX12_marksFound_1.1.1.2.2 rfl ?_
          refine zW_isub (pc' := 33) dX12_marksFound_1.1.2.1.1 rfl ?_
          refine zW_iload_n (pc' := 34) dX12_marksFound_1.1.2.1.2 rfl rfl ?_
          refine zW_bipush (pc' := 36) dX12_marksFound_1.1.2.2.1 rfl rfl ?_
          refine zW_irem (pc' := 37) (by omega) (by omega) dX12_marksFound_1.1.2.2.2 rfl ?_
          refine zW_iload_n (pc' := 38) dX12_marksFound_1.2.1.1.1 rfl rfl ?_
          refine zW_bipush (pc' := 40) dX12_marksFound_1.2.1.1.2 rfl rfl ?_
          refine zW_idiv (pc' := 41) (by omega) (by omega) dX12_marksFound_1.2.1.2.1 rfl ?_
          refine zW_aload_n (pc' := 42) dX12_marksFound_1.2.1.2.2 rfl rfl ?_
          refine zW_iload_n (pc' := 43) dX12_marksFound_1.2.2.1.1 rfl rfl ?_
          refine zW_iconst (pc' := 44) dX12_marksFound_1.2.2.1.2 rfl ?_
          refine cvI2 (pc' := 47) kX12_numberOf vX12_numberOf lk_X12_206 ⟨Nat.le_of_ble_eq_true rfl, Nat.le_of_ble_eq_true rfl⟩ tb0 vq12 rfl rfl (s_X12_numberOf hK hF _ ⟨by omega, by omega⟩ _ ⟨by omega, by omega⟩) dX12_marksFound_1.2.2.2.1 (Nat.le_of_ble_eq_true rfl) rfl ?_
          rintro r44 z44 ⟨hz44, p44⟩; subst z44
          have b44 := KRnu hK (κ 4 (x1 - 1).toNat + 0).toNat
          rw [← p44] at b44
          refine cvI4 (pc' := 50) kX12_isFound vX12_isFound lk_X12_263 ⟨Nat.le_of_ble_eq_true rfl, Nat.le_of_ble_eq_true rfl⟩ tb0 vq12 rfl rfl (s_X12_isFoundZ hK hF _ ⟨by omega, by omega⟩ _ ⟨by omega, by omega, by omega⟩ _ ⟨by omega, by omega, by omega⟩ _ ⟨by omega, by omega⟩ f h (by omega) (by omega) Fw.rf) dX12_marksFound_1.2.2.2.2 (Nat.le_of_ble_eq_true rfl) rfl ?_
          rintro r47 h ⟨hF, d47, p47⟩
          replace hf : Row17 κ (h 17) (x1 - 1) f := by have q0_ := (d47.cell (k := 17) (by intro c hc; simp at hc <;> omega) (by intro c hc; simp at hc <;> omega)); rw [q0_]; exact hf
          replace hgh : Fw [24, 21] [] gh0 h := hgh.tr d47 (by simp) (by simp)
          have gm : ∀ q : Nat, (q : Int) < v2 → h 24 q = (mk1 (κ 0 11) (κ 0 12) (κ 10) f (κ 5 (κ 4 (x1 - 1).toNat).toNat)) q := fun q hq => by rw [d47.cell (k := 24) (by decide) (by decide)]; exact gc0 q hq
          refine zV_if_eq (tgt := 57) (pc' := 53) dX12_marksFound_2.1.1.1 rfl rfl ⟨by omega, by omega⟩ (fun c50 => ?_) (fun c50 => ?_)
          · refine zW_iconst (pc' := 58) dX12_marksFound_2.1.2.2 rfl ?_
            refine zS_z (pc' := 59) hF sr24 tb24 (by omega) (by omega) dX12_marksFound_2.2.1.1 (by decide) rfl (fun h hF w58 => ?_)
            replace hgh : Fw [24, 21] [] gh0 h := by rw [w58]; exact hgh.wc (by simp)
            replace hf : Row17 κ (h 17) (x1 - 1) f := by have q0_ := (congrFun w58 17).trans (zfun (by decide)); rw [q0_]; exact hf
            have gn : ∀ q : Nat, (q : Int) < v2 + 1 → h 24 q = (mk1 (κ 0 11) (κ 0 12) (κ 10) f (κ 5 (κ 4 (x1 - 1).toNat).toNat)) q := fun q hq => by rw [w58]; by_cases e : q = v2.toNat; (rw [e, zwr_eq]; exact (by have ex : ((v2.toNat % 16 : Nat) : Int) = v2 % 16 := (by omega); have ey : ((v2.toNat / 16 : Nat) : Int) = v2 / 16 := (by omega); refine mk1_of (by omega) ?_; rw [ex, ey]; first | (have z := p47.2.2; rw [p44, Int.add_zero] at z; exact ⟨fun q => ⟨by omega, by omega, z.mp (by omega)⟩, fun q => by have w := z.mpr q.2.2; omega⟩) | exact ⟨fun q => by omega, fun q => by omega⟩)); (rw [zwr_ne (Or.inr e)]; first | exact gm q (by omega) | exact gc0 q (by omega))
            refine zW_iinc (ls' := [_, _, _]) (pc' := 62) dX12_marksFound_2.2.1.2 rfl (by decide) rfl rfl rfl ?_
            refine zV_goto 2 dX12_marksFound_2.2.2.1 rfl ?_
            exact k2 _ _ hF (by omega) (by first | exact gn | exact (fun q hq => by omega)) hf hgh (by omega)
          · refine zW_iconst (pc' := 54) dX12_marksFound_2.1.1.2 rfl ?_
            refine zV_goto 58 dX12_marksFound_2.1.2.1 rfl ?_
            refine zS_z (pc' := 59) hF sr24 tb24 (by omega) (by omega) dX12_marksFound_2.2.1.1 (by decide) rfl (fun h hF w58 => ?_)
            replace hgh : Fw [24, 21] [] gh0 h := by rw [w58]; exact hgh.wc (by simp)
            replace hf : Row17 κ (h 17) (x1 - 1) f := by have q0_ := (congrFun w58 17).trans (zfun (by decide)); rw [q0_]; exact hf
            have gn : ∀ q : Nat, (q : Int) < v2 + 1 → h 24 q = (mk1 (κ 0 11) (κ 0 12) (κ 10) f (κ 5 (κ 4 (x1 - 1).toNat).toNat)) q := fun q hq => by rw [w58]; by_cases e : q = v2.toNat; (rw [e, zwr_eq]; exact (by have ex : ((v2.toNat % 16 : Nat) : Int) = v2 % 16 := (by omega); have ey : ((v2.toNat / 16 : Nat) : Int) = v2 / 16 := (by omega); refine mk1_of (by omega) ?_; rw [ex, ey]; first | (have z := p47.2.2; rw [p44, Int.add_zero] at z; exact ⟨fun q => ⟨by omega, by omega, z.mp (by omega)⟩, fun q => by have w := z.mpr q.2.2; omega⟩) | exact ⟨fun q => by omega, fun q => by omega⟩)); (rw [zwr_ne (Or.inr e)]; first | exact gm q (by omega) | exact gc0 q (by omega))
            refine zW_iinc (ls' := [_, _, _]) (pc' := 62) dX12_marksFound_2.2.1.2 rfl (by decide) rfl rfl rfl ?_
            refine zV_goto 2 dX12_marksFound_2.2.2.1 rfl ?_
            exact k2 _ _ hF (by omega) (by first | exact gn | exact (fun q hq => by omega)) hf hgh (by omega)
  refine zM_of [some (.inr (.inr 0)), some (.inl x1), none] 1 rfl rfl (Nat.le_of_ble_eq_true rfl) rfl ?_
  refine zW_iconst (pc' := 1) dX12_marksFound_0.1.1.1.1 rfl ?_
  refine zW_istore_n (ls' := [_, _, _]) (pc' := 2) dX12_marksFound_0.1.1.1.2 (by decide) rfl rfl rfl ?_
  exact (main 10000000000000000000000000000000000000000) _ _ hF (by omega) (by first | exact gn | exact (fun q hq => by omega)) hf hgh (by omega)

abbrev q_X12_deadManyZ (κ h : Hp)  : Int → Hp → Prop := fun r h' => h' = h ∧ ((r = cntZ (κ 10) 256))
set_option maxHeartbeats 4000000 in
set_option maxRecDepth 20000 in
theorem s_X12_deadManyZ {G : Ga} {b : Bd} {κ h : Hp} (hK : KR κ) (hF : Fr b κ h)  : zM G mX12_deadMany yX12_deadMany [.inr (.inr 0)] h (q_X12_deadManyZ κ h) := by
  have main : ∀ N : Nat, (∀ (v1 v2 : Int) , (0 ≤ v2 ∧ v2 ≤ 256) → (v1 = cntZ (κ 10) v2.toNat) → 78948 + 18 * (256 - v2) + 17 < (N : Int) → zV G mX12_deadMany (q_X12_deadManyZ κ h) 4 [some (.inr (.inr 0)), some (.inl v1), some (.inl v2)] [] h) := by
    intro N
    induction N with
    | zero =>
      intro v1 v2 g0 gc0 hm
      exfalso; omega
    | succ N ih =>
      have k4 := ih
      intro v1 v2 g0 gc0 hm
      refine zW_iload_n (pc' := 5) dX12_deadMany_0.1.2.1.1 rfl rfl ?_
      refine zW_sipush (pc' := 8) dX12_deadMany_0.1.2.1.2 rfl rfl ?_
      refine zV_cm_ge (tgt := 30) (pc' := 11) dX12_deadMany_0.1.2.2.1 rfl rfl ⟨by omega, by omega⟩ ⟨by omega, by omega⟩ (fun c8 => ?_) (fun c8 => ?_)
      · refine zW_iload_n (pc' := 31) dX12_deadMany_1.2.1 rfl rfl ?_
        exact zV_iret rfl dX12_deadMany_1.2.2 ⟨rfl, by rw [show (256 : Nat) = v2.toNat by omega]; exact gc0⟩
      · refine zW_aload_n (pc' := 12) dX12_deadMany_0.1.2.2.2 rfl rfl ?_
        refine zG_ref (pc' := 15) 10 fg_X12_37 tb0 rfl dX12_deadMany_0.2.1.1.1 rfl ?_
        refine zW_iload_n (pc' := 16) dX12_deadMany_0.2.1.1.2 rfl rfl ?_
        refine zA_keyz (pc' := 17) hF rfl tb10 (by omega) dX12_deadMany_0.2.1.2.1 (by decide) rfl ?_
        have hb17 := KRd hK v2.toNat
        refine zV_if_eq (tgt := 24) (pc' := 20) dX12_deadMany_0.2.1.2.2 rfl rfl ⟨by omega, by omega⟩ (fun c17 => ?_) (fun c17 => ?_)
        · refine zW_iinc (ls' := [_, _, _]) (pc' := 27) dX12_deadMany_1.1.1 rfl (by decide) rfl rfl rfl ?_
          refine zV_goto 4 dX12_deadMany_1.1.2 rfl ?_
          exact k4 _ _ (by omega) (by first | rfl | (have q := cntZ_step (f := κ 10) (v := v2) (by omega); first | (rw [if_pos (by omega)] at q; omega) | (rw [if_neg (by omega)] at q; omega))) (by omega)
        · refine zW_iload_n (pc' := 21) dX12_deadMany_0.2.2.1.1 rfl rfl ?_
          refine zW_iconst (pc' := 22) dX12_deadMany_0.2.2.1.2 rfl ?_
          refine zW_iadd (pc' := 23) dX12_deadMany_0.2.2.2.1 rfl ?_
          refine zW_istore_n (ls' := [_, _, _]) (pc' := 24) dX12_deadMany_0.2.2.2.2 (by decide) rfl rfl rfl ?_
          refine zW_iinc (ls' := [_, _, _]) (pc' := 27) dX12_deadMany_1.1.1 rfl (by decide) rfl rfl rfl ?_
          refine zV_goto 4 dX12_deadMany_1.1.2 rfl ?_
          exact k4 _ _ (by omega) (by first | rfl | (have q := cntZ_step (f := κ 10) (v := v2) (by omega); first | (rw [if_pos (by omega)] at q; omega) | (rw [if_neg (by omega)] at q; omega))) (by omega)
  refine zM_of [some (.inr (.inr 0)), none, none] 2 rfl rfl (Nat.le_of_ble_eq_true rfl) rfl ?_
  refine zW_iconst (pc' := 1) dX12_deadMany_0.1.1.1.1 rfl ?_
  refine zW_istore_n (ls' := [_, _, _]) (pc' := 2) dX12_deadMany_0.1.1.1.2 (by decide) rfl rfl rfl ?_
  refine zW_iconst (pc' := 3) dX12_deadMany_0.1.1.2.1 rfl ?_
  refine zW_istore_n (ls' := [_, _, _]) (pc' := 4) dX12_deadMany_0.1.1.2.2 (by decide) rfl rfl rfl ?_
  exact (main 10000000000000000000000000000000000000000) _ _ (by omega) (by first | rfl | (have q := cntZ_step (f := κ 10) (v := v2) (by omega); first | (rw [if_pos (by omega)] at q; omega) | (rw [if_neg (by omega)] at q; omega))) (by omega)

abbrev q_X12_foundZ (b : Bd) (κ : Hp) (x1 : Int) (x2 : Int) : Int → Hp → Prop := fun r h' => Fr b κ h' ∧ ((fdP (κ 0 14) (κ 3) x1 x2 r (FdA (mk1 (κ 0 11) (κ 0 12) (κ 10) (EF κ (x1 - 1).toNat) (κ 5 (κ 4 (x1 - 1).toNat).toNat)) (κ 10) x2 r)))
set_option maxHeartbeats 4000000 in
set_option maxRecDepth 20000 in
theorem s_X12_foundZ {G : Ga} {b : Bd} {κ h : Hp} (hK : KR κ) (hF : Fr b.fo κ h) (x1 : Int) (hx1 : rng x1) (x2 : Int) (hx2 : rng x2) (hLz : LeavesZ b) (hV : VOK (κ 1)) (hE : EaOK (κ 3) (κ 0 14)) : zM G mX12_found yX12_found [.inr (.inr 0), .inl x1, .inl x2] h (q_X12_foundZ b.fo κ x1 x2) := by
  have f_0_11 := KRw hK
  have f_0_12 := KRh hK
  have f_0_14 := KRm hK
  unfold rng at hx1
  unfold rng at hx2
  have main : ∀ N : Nat, (∀ (v3 v4 v5 v6 : Int) (h : Hp), Fr b.fo κ h → (1 ≤ x1 ∧ x1 ≤ 12) → (x1 - κ 0 14 ≤ 0) → (0 ≤ x2 ∧ x2 ≤ 3) → (0 ≤ v3 ∧ v3 ≤ 256) → (-2 ≤ v4 ∧ v4 ≤ 255) → (-2 ≤ v5 ∧ v5 ≤ 255) → (0 ≤ v6 ∧ v6 ≤ 256) → ((1 ≤ x1 ∧ x1 ≤ κ 0 14 ∧ 0 ≤ x2 ∧ x2 ≤ 3) ∧ κ 3 (x1 - 1).toNat = 100) → (v3 = cntZ (mk1 (κ 0 11) (κ 0 12) (κ 10) (EF κ (x1 - 1).toNat) (κ 5 (κ 4 (x1 - 1).toNat).toNat)) v6.toNat) → (FsI (mk1 (κ 0 11) (κ 0 12) (κ 10) (EF κ (x1 - 1).toNat) (κ 5 (κ 4 (x1 - 1).toNat).toNat)) v6 v4) → (LsI (mk1 (κ 0 11) (κ 0 12) (κ 10) (EF κ (x1 - 1).toNat) (κ 5 (κ 4 (x1 - 1).toNat).toNat)) v6 v5) → (∀ q : Nat, q < 256 → h 24 q = (mk1 (κ 0 11) (κ 0 12) (κ 10) (EF κ (x1 - 1).toNat) (κ 5 (κ 4 (x1 - 1).toNat).toNat)) q) → 534060 + 46 * (256 - v6) + 45 < (N : Int) → zV G mX12_found (q_X12_foundZ b.fo κ x1 x2) 54 [some (.inr (.inr 0)), some (.inl x1), some (.inl x2), some (.inl v3), some (.inl v4), some (.inl v5), some (.inl v6)] [] h) := by
    intro N
    induction N with
    | zero =>
      intro v3 v4 v5 v6 h hF g0 g1 g2 g3 g4 g5 g6 gc0 gc1 gc2 gc3 hmk hm
      exfalso; omega
    | succ N ih =>
      have k54 := ih
      intro v3 v4 v5 v6 h hF g0 g1 g2 g3 g4 g5 g6 gc0 gc1 gc2 gc3 hmk hm
      refine zW_iload (pc' := 56) dX12_found_1.2.2.2.2 rfl rfl ?_
      refine zW_sipush (pc' := 59) dX12_found_2.1.1.1.1 rfl rfl ?_
      refine zV_cm_ge (tgt := 103) (pc' := 62) dX12_found_2.1.1.1.2 rfl rfl ⟨by omega, by omega⟩ ⟨by omega, by omega⟩ (fun c59 => ?_) (fun c59 => ?_)
      · refine zW_iload_n (pc' := 104) dX12_found_3.1.2.2.1 rfl rfl ?_
        refine zV_if_ne (tgt := 111) (pc' := 107) dX12_found_3.1.2.2.2 rfl rfl ⟨by omega, by omega⟩ (fun c104 => ?_) (fun c104 => ?_)
        · refine zW_iload_n (pc' := 112) dX12_found_3.2.1.2.1 rfl rfl ?_
          refine zW_iconst (pc' := 113) dX12_found_3.2.1.2.2 rfl ?_
          refine zV_cm_ne (tgt := 123) (pc' := 116) dX12_found_3.2.2.1.1 rfl rfl ⟨by omega, by omega⟩ ⟨by omega, by omega⟩ (fun c113 => ?_) (fun c113 => ?_)
          · refine zW_iload_n (pc' := 124) dX12_found_4.1.1.1 rfl rfl ?_
            refine zW_iconst (pc' := 125) dX12_found_4.1.1.2 rfl ?_
            refine zV_cm_ne (tgt := 133) (pc' := 128) dX12_found_4.1.2.1 rfl rfl ⟨by omega, by omega⟩ ⟨by omega, by omega⟩ (fun c125 => ?_) (fun c125 => ?_)
            · refine zW_iload (pc' := 135) dX12_found_4.2.1.2 rfl rfl ?_
              exact zV_iret rfl dX12_found_4.2.2 ⟨hF, (by refine ⟨fun q => absurd gc0.1 q, fun _ q => absurd gc0.2 q, fun _ _ => ?_⟩; have e6 : v6 = 256 := (by omega); rw [e6] at gc1 gc2 gc3; exact ⟨fun q => by first | exact gc1 | (exfalso; omega), fun q => by first | exact p117 | (exfalso; omega), fun q => by first | exact gc2 | (exfalso; omega), fun q => by first | exact gc3 | (exfalso; omega)⟩)⟩
            · refine zW_iload (pc' := 130) dX12_found_4.1.2.2 rfl rfl ?_
              refine zV_goto 135 dX12_found_4.2.1.1 rfl ?_
              exact zV_iret rfl dX12_found_4.2.2 ⟨hF, (by refine ⟨fun q => absurd gc0.1 q, fun _ q => absurd gc0.2 q, fun _ _ => ?_⟩; have e6 : v6 = 256 := (by omega); rw [e6] at gc1 gc2 gc3; exact ⟨fun q => by first | exact gc1 | (exfalso; omega), fun q => by first | exact p117 | (exfalso; omega), fun q => by first | exact gc2 | (exfalso; omega), fun q => by first | exact gc3 | (exfalso; omega)⟩)⟩
          · refine zW_aload_n (pc' := 117) dX12_found_3.2.2.1.2 rfl rfl ?_
            refine cvI0 (pc' := 120) kX12_deadMany vX12_deadMany lk_X12_221 ⟨Nat.le_of_ble_eq_true rfl, Nat.le_of_ble_eq_true rfl⟩ tb0 vq12 rfl rfl (s_X12_deadManyZ hK hF) dX12_found_3.2.2.2.1 (Nat.le_of_ble_eq_true rfl) rfl ?_
            rintro r117 z117 ⟨hz117, p117⟩; subst z117
            refine zV_goto 135 dX12_found_3.2.2.2.2 rfl ?_
            exact zV_iret rfl dX12_found_4.2.2 ⟨hF, (by refine ⟨fun q => absurd gc0.1 q, fun _ q => absurd gc0.2 q, fun _ _ => ?_⟩; have e6 : v6 = 256 := (by omega); rw [e6] at gc1 gc2 gc3; exact ⟨fun q => by first | exact gc1 | (exfalso; omega), fun q => by first | exact p117 | (exfalso; omega), fun q => by first | exact gc2 | (exfalso; omega), fun q => by first | exact gc3 | (exfalso; omega)⟩)⟩
        · refine zW_iload_n (pc' := 108) dX12_found_3.2.1.1.1 rfl rfl ?_
          refine zV_goto 135 dX12_found_3.2.1.1.2 rfl ?_
          exact zV_iret rfl dX12_found_4.2.2 ⟨hF, (by refine ⟨fun q => absurd gc0.1 q, fun _ q => absurd gc0.2 q, fun _ _ => ?_⟩; have e6 : v6 = 256 := (by omega); rw [e6] at gc1 gc2 gc3; exact ⟨fun q => by first | exact gc1 | (exfalso; omega), fun q => by first | exact p117 | (exfalso; omega), fun q => by first | exact gc2 | (exfalso; omega), fun q => by first | exact gc3 | (exfalso; omega)⟩)⟩
      · refine zW_aload_n (pc' := 63) dX12_found_2.1.1.2.1 rfl rfl ?_
        refine zG_ref (pc' := 66) 24 fg_X12_81 tb0 rfl dX12_found_2.1.1.2.2 rfl ?_
        refine zW_iload (pc' := 68) dX12_found_2.1.2.1.1 rfl rfl ?_
        refine zV_zald (pc' := 69) tb24 (by omega) dX12_found_2.1.2.1.2 (by decide) rfl ?_
        have e68 := hmk v6.toNat (by omega)
        have b68 := mk1_b (W := κ 0 11) (H := κ 0 12) (D := κ 10) (f := EF κ (x1 - 1).toNat) (n := κ 5 (κ 4 (x1 - 1).toNat).toNat) (q := v6.toNat)
        have cz := cntZ_step (f := (mk1 (κ 0 11) (κ 0 12) (κ 10) (EF κ (x1 - 1).toNat) (κ 5 (κ 4 (x1 - 1).toNat).toNat))) (v := v6) (by omega)
        have cl := cntZ_le (f := (mk1 (κ 0 11) (κ 0 12) (κ 10) (EF κ (x1 - 1).toNat) (κ 5 (κ 4 (x1 - 1).toNat).toNat))) v6.toNat
        refine zV_if_ne (tgt := 75) (pc' := 72) dX12_found_2.1.2.2.1 rfl rfl ⟨by omega, by omega⟩ (fun c69 => ?_) (fun c69 => ?_)
        · refine zW_iload_n (pc' := 76) dX12_found_2.2.1.1.1 rfl rfl ?_
          refine zW_iconst (pc' := 77) dX12_found_2.2.1.1.2 rfl ?_
          refine zW_iadd (pc' := 78) dX12_found_2.2.1.2.1 rfl ?_
          refine zW_istore_n (ls' := [_, _, _, _, _, _, _]) (pc' := 79) dX12_found_2.2.1.2.2 (by decide) rfl rfl rfl ?_
          refine zW_iload (pc' := 81) dX12_found_2.2.2.1.1 rfl rfl ?_
          refine zV_if_ge (tgt := 89) (pc' := 84) dX12_found_2.2.2.1.2 rfl rfl ⟨by omega, by omega⟩ (fun c81 => ?_) (fun c81 => ?_)
          · refine zW_iload (pc' := 91) dX12_found_3.1.1.1.1 rfl rfl ?_
            refine zW_istore (ls' := [_, _, _, _, _, _, _]) (pc' := 93) dX12_found_3.1.1.1.2 (by decide) rfl rfl rfl ?_
            refine zW_iload (pc' := 95) dX12_found_3.1.1.2.1 rfl rfl ?_
            refine zW_istore (ls' := [_, _, _, _, _, _, _]) (pc' := 97) dX12_found_3.1.1.2.2 (by decide) rfl rfl rfl ?_
            refine zW_iinc (ls' := [_, _, _, _, _, _, _]) (pc' := 100) dX12_found_3.1.2.1.1 rfl (by decide) rfl rfl rfl ?_
            refine zV_goto 54 dX12_found_3.1.2.1.2 rfl ?_
            exact k54 _ _ _ _ _ hF (by omega) (by omega) (by omega) (by omega) (by omega) (by omega) (by omega) (by first | exact hok | exact gc0) (by first | rfl | (rw [if_pos (by omega)] at cz; omega) | (rw [if_neg (by omega)] at cz; omega)) (by first | exact FsI.no | exact gc2.s0 (by omega) (by omega) | exact gc2.s1 (by omega) (by omega) (by omega)) (by first | exact LsI.no | exact gc3.s0 (by omega) (by omega) | exact gc3.s1 (by omega) (by omega)) hmk (by omega)
          · refine zW_iload (pc' := 86) dX12_found_2.2.2.2.1 rfl rfl ?_
            refine zV_goto 91 dX12_found_2.2.2.2.2 rfl ?_
            refine zW_istore (ls' := [_, _, _, _, _, _, _]) (pc' := 93) dX12_found_3.1.1.1.2 (by decide) rfl rfl rfl ?_
            refine zW_iload (pc' := 95) dX12_found_3.1.1.2.1 rfl rfl ?_
            refine zW_istore (ls' := [_, _, _, _, _, _, _]) (pc' := 97) dX12_found_3.1.1.2.2 (by decide) rfl rfl rfl ?_
            refine zW_iinc (ls' := [_, _, _, _, _, _, _]) (pc' := 100) dX12_found_3.1.2.1.1 rfl (by decide) rfl rfl rfl ?_
            refine zV_goto 54 dX12_found_3.1.2.1.2 rfl ?_
            exact k54 _ _ _ _ _ hF (by omega) (by omega) (by omega) (by omega) (by omega) (by omega) (by omega) (by first | exact hok | exact gc0) (by first | rfl | (rw [if_pos (by omega)] at cz; omega) | (rw [if_neg (by omega)] at cz; omega)) (by first | exact FsI.no | exact gc2.s0 (by omega) (by omega) | exact gc2.s1 (by omega) (by omega) (by omega)) (by first | exact LsI.no | exact gc3.s0 (by omega) (by omega) | exact gc3.s1 (by omega) (by omega)) hmk (by omega)
        · refine zV_goto 97 dX12_found_2.1.2.2.2 rfl ?_
          refine zW_iinc (ls' := [_, _, _, _, _, _, _]) (pc' := 100) dX12_found_3.1.2.1.1 rfl (by decide) rfl rfl rfl ?_
          refine zV_goto 54 dX12_found_3.1.2.1.2 rfl ?_
          exact k54 _ _ _ _ _ hF (by omega) (by omega) (by omega) (by omega) (by omega) (by omega) (by omega) (by first | exact hok | exact gc0) (by first | rfl | (rw [if_pos (by omega)] at cz; omega) | (rw [if_neg (by omega)] at cz; omega)) (by first | exact FsI.no | exact gc2.s0 (by omega) (by omega) | exact gc2.s1 (by omega) (by omega) (by omega)) (by first | exact LsI.no | exact gc3.s0 (by omega) (by omega) | exact gc3.s1 (by omega) (by omega)) hmk (by omega)
  refine zM_of [some (.inr (.inr 0)), some (.inl x1), some (.inl x2), none, none, none, none] 4 rfl rfl (Nat.le_of_ble_eq_true rfl) rfl ?_
  refine zW_aload_n (pc' := 1) dX12_found_0.1.1.1.1 rfl rfl ?_
  refine zW_iload_n (pc' := 2) dX12_found_0.1.1.1.2 rfl rfl ?_
  refine cvI1 (pc' := 5) kX12_isStage vX12_isStage lk_X12_199 ⟨Nat.le_of_ble_eq_true rfl, Nat.le_of_ble_eq_true rfl⟩ tb0 vq12 rfl rfl (s_X12_isStageZ hK hF _ ⟨by omega, by omega⟩) dX12_found_0.1.1.2.1 (Nat.le_of_ble_eq_true rfl) rfl ?_
  rintro r2 z2 ⟨hz2, p2⟩; subst z2
  refine zV_if_eq (tgt := 17) (pc' := 8) dX12_found_0.1.1.2.2 rfl rfl ⟨by omega, by omega⟩ (fun c5 => ?_) (fun c5 => ?_)
  · refine zW_iconst (pc' := 18) dX12_found_0.2.1.1.2 rfl ?_
    exact zV_iret rfl dX12_found_0.2.1.2.1 ⟨hF, (by refine ⟨fun _ => rfl, fun q => by omega, fun q => by omega⟩)⟩
  · refine zW_iload_n (pc' := 9) dX12_found_0.1.2.1.1 rfl rfl ?_
    refine zW_iconst (pc' := 10) dX12_found_0.1.2.1.2 rfl ?_
    refine zW_iconst (pc' := 11) dX12_found_0.1.2.2.1 rfl ?_
    refine csI3 (pc' := 14) kX12_in vX12_in lk_X12_140 ⟨Nat.le_of_ble_eq_true rfl, Nat.le_of_ble_eq_true rfl⟩ rfl (s_X12_inR hF _ ⟨by omega, by omega⟩ _ ⟨by omega, by omega⟩ _ ⟨by omega, by omega⟩) dX12_found_0.1.2.2.2 (Nat.le_of_ble_eq_true rfl) rfl ?_
    rintro r11 z11 ⟨hz11, p11⟩; subst z11
    refine zV_if_ne (tgt := 19) (pc' := 17) dX12_found_0.2.1.1.1 rfl rfl ⟨by omega, by omega⟩ (fun c14 => ?_) (fun c14 => ?_)
    · refine zW_aload_n (pc' := 20) dX12_found_0.2.1.2.2 rfl rfl ?_
      refine zW_iload_n (pc' := 21) dX12_found_0.2.2.1.1 rfl rfl ?_
      refine zW_bipush (pc' := 23) dX12_found_0.2.2.1.2 rfl rfl ?_
      refine cvI2 (pc' := 26) kX12_isKind vX12_isKind lk_X12_383 ⟨Nat.le_of_ble_eq_true rfl, Nat.le_of_ble_eq_true rfl⟩ tb0 vq12 rfl rfl (s_X12_isKind hK hF _ ⟨by omega, by omega⟩ _ ⟨by omega, by omega⟩) dX12_found_0.2.2.2.1 (Nat.le_of_ble_eq_true rfl) rfl ?_
      rintro r23 z23 ⟨hz23, p23⟩; subst z23
      refine zV_if_ne (tgt := 32) (pc' := 29) dX12_found_0.2.2.2.2 rfl rfl ⟨by omega, by omega⟩ (fun c26 => ?_) (fun c26 => ?_)
      · refine zW_aload_n (pc' := 33) dX12_found_1.1.1.2.1 rfl rfl ?_
        refine cvV0 (pc' := 36) kX12_leaves vX12_leaves lk_X12_377 ⟨Nat.le_of_ble_eq_true rfl, Nat.le_of_ble_eq_true rfl⟩ tb0 vq12 rfl rfl (hLz hK hF) dX12_found_1.1.1.2.2 (Nat.le_of_ble_eq_true rfl) rfl ?_
        rintro r33 h ⟨hF, p33⟩
        have hno : noF (κ 3) (x1 - 1).toNat := (hE (x1 - 1).toNat (by omega)).mpr (by omega)
        have hf0 := p33.2 (x1 - 1).toNat (by omega) hno
        rw [show (((x1 - 1).toNat : Nat) : Int) = x1 - 1 by omega] at hf0
        have hok : (1 ≤ x1 ∧ x1 ≤ κ 0 14 ∧ 0 ≤ x2 ∧ x2 ≤ 3) ∧ κ 3 (x1 - 1).toNat = 100 := ⟨⟨by omega, by omega, by omega, by omega⟩, by omega⟩
        refine zW_aload_n (pc' := 37) dX12_found_1.1.2.1.1 rfl rfl ?_
        refine zW_iload_n (pc' := 38) dX12_found_1.1.2.1.2 rfl rfl ?_
        refine cvV1 (pc' := 41) kX12_marksFound vX12_marksFound lk_X12_386 ⟨Nat.le_of_ble_eq_true rfl, Nat.le_of_ble_eq_true rfl⟩ tb0 vq12 rfl rfl (s_X12_marksFoundZ hK hF _ ⟨by omega, by omega, by omega⟩ (EF κ (x1 - 1).toNat) h hf0 (FB_EF hK hV _) Fw.rf) dX12_found_1.1.2.2.1 (Nat.le_of_ble_eq_true rfl) rfl ?_
        rintro r38 h ⟨hF, d38, p38⟩
        have hmk := p38
        refine zW_iconst (pc' := 42) dX12_found_1.1.2.2.2 rfl ?_
        refine zW_istore_n (ls' := [_, _, _, _, _, _, _]) (pc' := 43) dX12_found_1.2.1.1.1 (by decide) rfl rfl rfl ?_
        refine zW_bipush (pc' := 45) dX12_found_1.2.1.1.2 rfl rfl ?_
        refine zW_istore (ls' := [_, _, _, _, _, _, _]) (pc' := 47) dX12_found_1.2.1.2.1 (by decide) rfl rfl rfl ?_
        refine zW_bipush (pc' := 49) dX12_found_1.2.1.2.2 rfl rfl ?_
        refine zW_istore (ls' := [_, _, _, _, _, _, _]) (pc' := 51) dX12_found_1.2.2.1.1 (by decide) rfl rfl rfl ?_
        refine zW_iconst (pc' := 52) dX12_found_1.2.2.1.2 rfl ?_
        refine zW_istore (ls' := [_, _, _, _, _, _, _]) (pc' := 54) dX12_found_1.2.2.2.1 (by decide) rfl rfl rfl ?_
        exact (main 10000000000000000000000000000000000000000) _ _ _ _ _ hF (by omega) (by omega) (by omega) (by omega) (by omega) (by omega) (by omega) (by first | exact hok | exact gc0) (by first | rfl | (rw [if_pos (by omega)] at cz; omega) | (rw [if_neg (by omega)] at cz; omega)) (by first | exact FsI.no | exact gc2.s0 (by omega) (by omega) | exact gc2.s1 (by omega) (by omega) (by omega)) (by first | exact LsI.no | exact gc3.s0 (by omega) (by omega) | exact gc3.s1 (by omega) (by omega)) hmk (by omega)
      · refine zW_bipush (pc' := 31) dX12_found_1.1.1.1.1 rfl rfl ?_
        exact zV_iret rfl dX12_found_1.1.1.1.2 ⟨hF, (by refine ⟨fun q => by omega, fun _ _ => rfl, fun _ q => by omega⟩)⟩
    · refine zW_iconst (pc' := 18) dX12_found_0.2.1.1.2 rfl ?_
      exact zV_iret rfl dX12_found_0.2.1.2.1 ⟨hF, (by refine ⟨fun _ => rfl, fun q => by omega, fun q => by omega⟩)⟩

abbrev q_X0_putZ (b : Bd) (κ : Hp) (x1 : Int) (x2 : Int) (x3 : Int) (gh0 : Hp) : Int → Hp → Prop := fun r h' => Fr b κ h' ∧ ((h' = zwr gh0 99 (x2 * 16 + x1).toNat x3))
set_option maxHeartbeats 4000000 in
set_option maxRecDepth 20000 in
theorem s_X0_putZ {G : Ga} {b : Bd} {κ h : Hp} (hK : KC κ) (hF : Fr b κ h) (x1 : Int) (hx1 : 0 ≤ x1 ∧ x1 ≤ 15 ∧ x1 - κ 33 0 ≤ -1) (x2 : Int) (hx2 : 0 ≤ x2 ∧ x2 ≤ 15 ∧ x2 - κ 33 1 ≤ -1) (x3 : Int) (hx3 : 0 ≤ x3 ∧ x3 ≤ 1) (gh0 : Hp) (hge : h = gh0) : zM G mX0_put yX0_put [.inr (.inr 98), .inl x1, .inl x2, .inl x3] h (q_X0_putZ b κ x1 x2 x3 gh0) := by
  have f_33_0 := KCw hK
  have f_33_1 := KCh hK
  refine zM_of [some (.inr (.inr 98)), some (.inl x1), some (.inl x2), some (.inl x3)] 0 rfl rfl (Nat.le_of_ble_eq_true rfl) rfl ?_
  refine zW_aload_n (pc' := 1) dX0_put_0.1.1.1.1 rfl rfl ?_
  refine zG_ref (pc' := 4) 33 fg_X0_21 tb98 rfl dX0_put_0.1.1.1.2 rfl ?_
  refine zW_iload_n (pc' := 5) dX0_put_0.1.1.2.1 rfl rfl ?_
  refine zW_iload_n (pc' := 6) dX0_put_0.1.1.2.2 rfl rfl ?_
  refine cvI2 (pc' := 9) kX5_has vX5_has lk_X0_25 ⟨Nat.le_of_ble_eq_true rfl, Nat.le_of_ble_eq_true rfl⟩ tb33 vq5 rfl rfl (s_X5_has hK hF _ ⟨by omega, by omega⟩ _ ⟨by omega, by omega⟩) dX0_put_0.1.2.1.1 (Nat.le_of_ble_eq_true rfl) rfl ?_
  rintro r6 z6 ⟨hz6, p6⟩; subst z6
  refine zV_if_eq (tgt := 32) (pc' := 12) dX0_put_0.1.2.1.2 rfl rfl ⟨by omega, by omega⟩ (fun c9 => ?_) (fun c9 => ?_)
  · exact zV_vret rfl dX0_put_1.2.2 ⟨hF, (by first | (rw [w31, b31, hge, show x3 = 1 by omega]) | (rw [w31, b31, hge, show x3 = 0 by omega]) | (exfalso; omega))⟩
  · refine zW_aload_n (pc' := 13) dX0_put_0.1.2.2.1 rfl rfl ?_
    refine zG_ref (pc' := 16) 99 fg_X0_9 tb98 rfl dX0_put_0.1.2.2.2 rfl ?_
    refine zW_iload_n (pc' := 17) dX0_put_0.2.1.1.1 rfl rfl ?_
    refine zW_bipush (pc' := 19) dX0_put_0.2.1.1.2 rfl rfl ?_
    refine zW_imul (pc' := 20) dX0_put_0.2.1.2.1 rfl ?_
    refine zW_iload_n (pc' := 21) dX0_put_0.2.1.2.2 rfl rfl ?_
    refine zW_iadd (pc' := 22) dX0_put_0.2.2.1.1 rfl ?_
    refine zW_iload_n (pc' := 23) dX0_put_0.2.2.1.2 rfl rfl ?_
    refine zV_if_eq (tgt := 30) (pc' := 26) dX0_put_0.2.2.2.1 rfl rfl ⟨by omega, by omega⟩ (fun c23 => ?_) (fun c23 => ?_)
    · refine zW_iconst (pc' := 31) dX0_put_1.1.2 rfl ?_
      refine zS_i (pc' := 32) hF rfl tb99 (by omega) dX0_put_1.2.1 (by decide) rfl (fun h i31 hF a31 b31 w31 => ?_)
      replace b31 := b31 ⟨by omega, by omega⟩
      exact zV_vret rfl dX0_put_1.2.2 ⟨hF, (by first | (rw [w31, b31, hge, show x3 = 1 by omega]) | (rw [w31, b31, hge, show x3 = 0 by omega]) | (exfalso; omega))⟩
    · refine zW_iconst (pc' := 27) dX0_put_0.2.2.2.2 rfl ?_
      refine zV_goto 31 dX0_put_1.1.1 rfl ?_
      refine zS_i (pc' := 32) hF rfl tb99 (by omega) dX0_put_1.2.1 (by decide) rfl (fun h i31 hF a31 b31 w31 => ?_)
      replace b31 := b31 ⟨by omega, by omega⟩
      exact zV_vret rfl dX0_put_1.2.2 ⟨hF, (by first | (rw [w31, b31, hge, show x3 = 1 by omega]) | (rw [w31, b31, hge, show x3 = 0 by omega]) | (exfalso; omega))⟩

abbrev q_X11_markFoundZ (b : Bd) (κ : Hp) (x1 : Int) : Int → Hp → Prop := fun r h' => Fr b κ h' ∧ ((ShE (κ 33 0) (κ 33 1) (h' 99) (fun x y => if fnd (κ 33 0) (κ 33 1) (κ 35) (EFc κ (x1 - 1).toNat) (κ 44 (AC κ (x1 - 1).toNat).toNat) x y then 1 else 0)))
set_option maxHeartbeats 4000000 in
set_option maxRecDepth 20000 in
theorem s_X11_markFoundZ {G : Ga} {b : Bd} {κ h : Hp} (hK : KC κ) (hF : Fr b κ h) (x1 : Int) (hx1 : 1 ≤ x1 ∧ x1 ≤ 12 ∧ x1 - κ 41 0 ≤ 0) (hSz : SheetZ b) (hV : VOK (κ 34)) (hE : EaOK (LC κ) (κ 41 0)) (hRc : RecC κ) (hno : noF (LC κ) (x1 - 1).toNat) : zM G mX11_markFound yX11_markFound [.inr (.inr 30), .inl x1] h (q_X11_markFoundZ b κ x1) := by
  have f_33_0 := KCw hK
  have f_33_1 := KCh hK
  have f_36_0 := KCk0 hK
  have f_36_1 := KCk1 hK
  have f_41_0 := KCm hK
  have main : ∀ N : Nat, (∀ (v3 v4 : Int) (t2 : Nat) (h : Hp), Fr b κ h → (56 ≤ t2 ∧ t2 ≤ 70) → (0 ≤ v3 ∧ v3 ≤ 255) → (0 ≤ v4 ∧ v4 ≤ 16) → (v4 - κ 33 1 ≤ 0) → (ShEu (κ 33 0) (κ 33 1) (h 99) (fun x y => if fnd (κ 33 0) (κ 33 1) (κ 35) (EFc κ (x1 - 1).toNat) (κ 44 (AC κ (x1 - 1).toNat).toNat) x y then 1 else 0) 0 v4) → ((t2 : Int) = 55 + x1) → (v3 = κ 44 (AC κ (x1 - 1).toNat).toNat ∧ 0 ≤ v3 ∧ v3 ≤ 255) → (ShE (κ 33 0) (κ 33 1) (h (71 + (x1 - 1).toNat)) (EFc κ (x1 - 1).toNat)) → 7713792 + 13824 * (16 - v4) + 13392 < (N : Int) → zV G mX11_markFound (q_X11_markFoundZ b κ x1) 24 [some (.inr (.inr 30)), some (.inl x1), some (.inr (.inr t2)), some (.inl v3), some (.inl v4), none] [] h) ∧ (∀ (v3 v4 v5 : Int) (t2 : Nat) (h : Hp), Fr b κ h → (56 ≤ t2 ∧ t2 ≤ 70) → (0 ≤ v3 ∧ v3 ≤ 255) → (0 ≤ v4 ∧ v4 ≤ 15) → (v4 - κ 33 1 ≤ -1) → (0 ≤ v5 ∧ v5 ≤ 16) → (v5 - κ 33 0 ≤ 0) → (ShEu (κ 33 0) (κ 33 1) (h 99) (fun x y => if fnd (κ 33 0) (κ 33 1) (κ 35) (EFc κ (x1 - 1).toNat) (κ 44 (AC κ (x1 - 1).toNat).toNat) x y then 1 else 0) v5 v4) → ((t2 : Int) = 55 + x1) → (v3 = κ 44 (AC κ (x1 - 1).toNat).toNat ∧ 0 ≤ v3 ∧ v3 ≤ 255) → (ShE (κ 33 0) (κ 33 1) (h (71 + (x1 - 1).toNat)) (EFc κ (x1 - 1).toNat)) → 7713792 + 13824 * (16 - v4) + 9936 + 24 * (16 - v5) + 23 < (N : Int) → zV G mX11_markFound (q_X11_markFoundZ b κ x1) 39 [some (.inr (.inr 30)), some (.inl x1), some (.inr (.inr t2)), some (.inl v3), some (.inl v4), some (.inl v5)] [] h) := by
    intro N
    induction N with
    | zero =>
      refine ⟨?_, ?_⟩
      · intro v3 v4 t2 h hF g0 g1 g2 g3 gc0 gc1 gc2 hf0 hm
        exfalso; omega
      · intro v3 v4 v5 t2 h hF g0 g1 g2 g3 g4 g5 gc0 gc1 gc2 hf0 hm
        exfalso; omega
    | succ N ih =>
      obtain ⟨k24, k39⟩ := ih
      refine ⟨?_, ?_⟩
      · intro v3 v4 t2 h hF g0 g1 g2 g3 gc0 gc1 gc2 hf0 hm
        refine zW_iload (pc' := 26) dX11_markFound_0.2.2.2.2 rfl rfl ?_
        refine zW_aload_n (pc' := 27) dX11_markFound_1.1.1.1.1 rfl rfl ?_
        refine zG_ref (pc' := 30) 33 fg_X11_19 tb30 rfl dX11_markFound_1.1.1.1.2 rfl ?_
        refine zG_key (pc' := 33) hF rfl fg_X11_127 tb33 rfl dX11_markFound_1.1.1.2.1 rfl ?_
        refine zV_cm_ge (tgt := 90) (pc' := 36) dX11_markFound_1.1.1.2.2 rfl rfl ⟨by omega, by omega⟩ ⟨by omega, by omega⟩ (fun c33 => ?_) (fun c33 => ?_)
        · exact zV_vret rfl dX11_markFound_2.2.2.2 ⟨hF, gc0.all (by omega)⟩
        · refine zW_iconst (pc' := 37) dX11_markFound_1.1.2.1.1 rfl ?_
          refine zW_istore (ls' := [_, _, _, _, _, _]) (pc' := 39) dX11_markFound_1.1.2.1.2 (by decide) rfl rfl rfl ?_
          exact k39 _ _ _ _ _ hF (by omega) (by omega) (by omega) (by omega) (by omega) (by omega) (by first | exact hr2 | exact gc0) (by omega) (by omega) hf0 (by omega)
      · intro v3 v4 v5 t2 h hF g0 g1 g2 g3 g4 g5 gc0 gc1 gc2 hf0 hm
        refine zW_iload (pc' := 41) dX11_markFound_1.1.2.2.1 rfl rfl ?_
        refine zW_aload_n (pc' := 42) dX11_markFound_1.1.2.2.2 rfl rfl ?_
        refine zG_ref (pc' := 45) 33 fg_X11_19 tb30 rfl dX11_markFound_1.2.1.1.1 rfl ?_
        refine zG_key (pc' := 48) hF rfl fg_X11_130 tb33 rfl dX11_markFound_1.2.1.1.2 rfl ?_
        refine zV_cm_ge (tgt := 84) (pc' := 51) dX11_markFound_1.2.1.2.1 rfl rfl ⟨by omega, by omega⟩ ⟨by omega, by omega⟩ (fun c48 => ?_) (fun c48 => ?_)
        · refine zW_iinc (ls' := [_, _, _, _, _, _]) (pc' := 87) dX11_markFound_2.2.2.1.1 rfl (by decide) rfl rfl rfl ?_
          refine zV_goto 24 dX11_markFound_2.2.2.1.2 rfl ?_
          refine zV_clr 5 (ls' := [_, _, _, _, _, _]) rfl ?_
          exact k24 _ _ _ _ hF (by omega) (by omega) (by omega) (by omega) (by first | exact gc0.rowx (by omega) | exact ShEu.no) (by omega) (by omega) hf0 (by omega)
        · refine zW_aload_n (pc' := 52) dX11_markFound_1.2.1.2.2 rfl rfl ?_
          refine zG_ref (pc' := 55) 98 fg_X11_67 tb30 rfl dX11_markFound_1.2.2.1.1 rfl ?_
          refine zW_iload (pc' := 57) dX11_markFound_1.2.2.1.2 rfl rfl ?_
          refine zW_iload (pc' := 59) dX11_markFound_1.2.2.2.1 rfl rfl ?_
          refine zW_aload_n (pc' := 60) dX11_markFound_1.2.2.2.2 rfl rfl ?_
          refine zG_ref (pc' := 63) 54 fg_X11_51 tb30 rfl dX11_markFound_2.1.1.1.1 rfl ?_
          refine zG_ref (pc' := 66) 86 fg_X11_231 tb54 rfl dX11_markFound_2.1.1.1.2 rfl ?_
          refine zW_aload_n (pc' := 67) dX11_markFound_2.1.1.2.1 rfl rfl ?_
          refine zW_iload (pc' := 69) dX11_markFound_2.1.1.2.2 rfl rfl ?_
          refine zW_iload (pc' := 71) dX11_markFound_2.1.2.1.1 rfl rfl ?_
          refine zW_iload_n (pc' := 72) dX11_markFound_2.1.2.1.2 rfl rfl ?_
          refine cvI4 (pc' := 75) kX2_isFound vX2_isFound lk_X11_399 ⟨Nat.le_of_ble_eq_true rfl, Nat.le_of_ble_eq_true rfl⟩ tb86 vq2 rfl rfl (s_X2_isFoundZ hK hF _ ⟨by omega, by omega⟩ _ ⟨by omega, by omega, by omega⟩ _ ⟨by omega, by omega, by omega⟩ _ ⟨by omega, by omega⟩ (EFc κ (x1 - 1).toNat) (by rw [show t2 + 15 = 71 + (x1 - 1).toNat by omega]; exact hf0) (FB_EFc hK hV _)) dX11_markFound_2.1.2.2 (Nat.le_of_ble_eq_true rfl) rfl ?_
          rintro r72 z72 ⟨hz72, p72⟩; subst z72
          refine cvV3 (pc' := 78) kX0_put vX0_put lk_X11_403 ⟨Nat.le_of_ble_eq_true rfl, Nat.le_of_ble_eq_true rfl⟩ tb98 vq0 rfl rfl (s_X0_putZ hK hF _ ⟨by omega, by omega, by omega⟩ _ ⟨by omega, by omega, by omega⟩ _ ⟨by omega, by omega⟩ h rfl) dX11_markFound_2.2.1.1.1 (Nat.le_of_ble_eq_true rfl) rfl ?_
          rintro r75 h ⟨hF, p75⟩
          have hr2 : ShEu (κ 33 0) (κ 33 1) (h 99) (fun x y => if fnd (κ 33 0) (κ 33 1) (κ 35) (EFc κ (x1 - 1).toNat) (κ 44 (AC κ (x1 - 1).toNat).toNat) x y then 1 else 0) (v5 + 1) v4 := by rw [p75]; exact ShEu.nx (by omega) ⟨by omega, by omega, by omega, by omega⟩ gc0 (by omega) (by by_cases c : r72 = 1; (rw [c]; exact (if_pos (by rw [← gc2.1]; exact p72.2.2.mp c)).symm); (rw [show r72 = 0 by omega]; exact (if_neg (fun q => c (p72.2.2.mpr (by rw [gc2.1]; exact q)))).symm))
          replace hf0 : ShE (κ 33 0) (κ 33 1) (h (71 + (x1 - 1).toNat)) (EFc κ (x1 - 1).toNat) := by rw [p75, zfun (by omega)]; exact hf0
          refine zW_iinc (ls' := [_, _, _, _, _, _]) (pc' := 81) dX11_markFound_2.2.1.1.2 rfl (by decide) rfl rfl rfl ?_
          refine zV_goto 39 dX11_markFound_2.2.1.2 rfl ?_
          exact k39 _ _ _ _ _ hF (by omega) (by omega) (by omega) (by omega) (by omega) (by omega) (by first | exact hr2 | exact gc0) (by omega) (by omega) hf0 (by omega)
  refine zM_of [some (.inr (.inr 30)), some (.inl x1), none, none, none, none] 4 rfl rfl (Nat.le_of_ble_eq_true rfl) rfl ?_
  refine zW_aload_n (pc' := 1) dX11_markFound_0.1.1.1.1 rfl rfl ?_
  refine zG_ref (pc' := 4) 54 fg_X11_51 tb30 rfl dX11_markFound_0.1.1.1.2 rfl ?_
  refine zW_iload_n (pc' := 5) dX11_markFound_0.1.1.2.1 rfl rfl ?_
  refine zW_iconst (pc' := 6) dX11_markFound_0.1.1.2.2 rfl ?_
  refine zW_isub (pc' := 7) dX11_markFound_0.1.2.1.1 rfl ?_
  refine cvA1 (pc' := 10) kX1_sheetOf vX1_sheetOf lk_X11_192 ⟨Nat.le_of_ble_eq_true rfl, Nat.le_of_ble_eq_true rfl⟩ tb54 vq1 rfl rfl (hSz hK hF _ ⟨by omega, by omega⟩) dX11_markFound_0.1.2.1.2 (Nat.le_of_ble_eq_true rfl) rfl ?_
  rintro r7 h ⟨hF, p7⟩
  obtain ⟨q7, z7⟩ : ∃ z : Nat, z = r7.toNat := ⟨_, rfl⟩
  rw [← z7]
  have hsh := p7.2.2 (by omega) (by omega)
  have hf0 := (hsh.2 (x1 - 1).toNat (by omega) hno).1
  have eAC : AC κ (x1 - 1).toNat = κ 43 x1.toNat := by show κ 43 ((x1 - 1).toNat + 1) = _; rw [show (x1 - 1).toNat + 1 = x1.toNat by omega]
  have rc1 : κ 43 x1.toNat < κ 43 (x1 + 1).toNat ∧ κ 43 (x1 + 1).toNat ≤ 64 ∧ (0 ≤ κ 44 (κ 43 x1.toNat).toNat ∧ κ 44 (κ 43 x1.toNat).toNat ≤ 255) := by have z := hRc (x1 - 1).toNat (by omega); rw [eAC, show AC κ ((x1 - 1).toNat + 1) = κ 43 (x1 + 1).toNat by (show κ 43 ((x1 - 1).toNat + 1 + 1) = _; rw [show (x1 - 1).toNat + 1 + 1 = (x1 + 1).toNat by omega])] at z; exact ⟨z.1, z.2.1, z.2.2.1⟩
  refine zW_astore_n (ls' := [_, _, _, _, _, _]) (pc' := 11) dX11_markFound_0.1.2.2.1 (by decide) rfl rfl rfl ?_
  refine zW_aload_n (pc' := 12) dX11_markFound_0.1.2.2.2 rfl rfl ?_
  refine zG_ref (pc' := 15) 41 fg_X11_33 tb30 rfl dX11_markFound_0.2.1.1.1 rfl ?_
  refine zW_iload_n (pc' := 16) dX11_markFound_0.2.1.1.2 rfl rfl ?_
  refine zW_iconst (pc' := 17) dX11_markFound_0.2.1.2.1 rfl ?_
  refine cvI2 (pc' := 20) kX7_numberOf vX7_numberOf lk_X11_186 ⟨Nat.le_of_ble_eq_true rfl, Nat.le_of_ble_eq_true rfl⟩ tb41 vq7 rfl rfl (s_X7_numberOfZ hK hF _ ⟨by omega, by omega, by omega⟩ _ ⟨by omega, by omega⟩ ⟨rc1.1, rc1.2.1⟩) dX11_markFound_0.2.1.2.2 (Nat.le_of_ble_eq_true rfl) rfl ?_
  rintro r17 z17 ⟨hz17, p17⟩; subst z17
  have e17_ := p17.2.2
  rw [← eAC] at e17_ rc1
  refine zW_istore_n (ls' := [_, _, _, _, _, _]) (pc' := 21) dX11_markFound_0.2.2.1.1 (by decide) rfl rfl rfl ?_
  refine zW_iconst (pc' := 22) dX11_markFound_0.2.2.1.2 rfl ?_
  refine zW_istore (ls' := [_, _, _, _, _, _]) (pc' := 24) dX11_markFound_0.2.2.2.1 (by decide) rfl rfl rfl ?_
  exact (main 10000000000000000000000000000000000000000).1 _ _ _ _ hF (by omega) (by omega) (by omega) (by omega) (by first | exact gc0.rowx (by omega) | exact ShEu.no) (by omega) (by omega) hf0 (by omega)

abbrev q_X0_markedZ (κ h : Hp)  : Int → Hp → Prop := fun r h' => h' = h ∧ ((r = smS (h 99) (κ 33 0).toNat (κ 33 1).toNat))
set_option maxHeartbeats 4000000 in
set_option maxRecDepth 20000 in
theorem s_X0_markedZ {G : Ga} {b : Bd} {κ h : Hp} (hK : KC κ) (hF : Fr b κ h)  : zM G mX0_marked yX0_marked [.inr (.inr 98)] h (q_X0_markedZ κ h) := by
  have f_33_0 := KCw hK
  have f_33_1 := KCh hK
  refine zM_of [some (.inr (.inr 98))] 0 rfl rfl (Nat.le_of_ble_eq_true rfl) rfl ?_
  refine zW_aload_n (pc' := 1) dX0_marked_0.1.1.1 rfl rfl ?_
  refine zG_ref (pc' := 4) 33 fg_X0_21 tb98 rfl dX0_marked_0.1.1.2 rfl ?_
  refine zW_aload_n (pc' := 5) dX0_marked_0.1.2 rfl rfl ?_
  refine zG_ref (pc' := 8) 99 fg_X0_9 tb98 rfl dX0_marked_0.2.1.1 rfl ?_
  refine cvI1 (pc' := 11) kX5_sumOf vX5_sumOf lk_X0_48 ⟨Nat.le_of_ble_eq_true rfl, Nat.le_of_ble_eq_true rfl⟩ tb33 vq5 rfl rfl (s_X5_sumOfD hK hF _ tb99 (by decide)) dX0_marked_0.2.1.2 (Nat.le_of_ble_eq_true rfl) rfl ?_
  rintro r8 z8 ⟨hz8, p8⟩; subst z8
  exact zV_iret rfl dX0_marked_0.2.2 ⟨rfl, p8⟩

abbrev q_X0_markedAndZ (κ h : Hp) (M : Nat → Int) : Int → Hp → Prop := fun r h' => h' = h ∧ ((r = smS (fun j => if M j = 1 ∧ κ 35 j = 1 then 1 else 0) (κ 33 0).toNat (κ 33 1).toNat))
set_option maxHeartbeats 4000000 in
set_option maxRecDepth 20000 in
theorem s_X0_markedAndZ {G : Ga} {b : Bd} {κ h : Hp} (hK : KC κ) (hF : Fr b κ h) (M : Nat → Int) (hM : ∀ x y : Int, inP (κ 33 0) (κ 33 1) x y → h 99 (16 * y + x).toNat = M (16 * y + x).toNat) (hMb : ∀ q : Nat, 0 ≤ M q ∧ M q ≤ 1) (hMO : MkO (κ 33 0) (κ 33 1) M) (hd : ∀ j : Nat, j < 256 → 0 ≤ κ 35 j ∧ κ 35 j ≤ 1) : zM G mX0_markedAnd yX0_markedAnd [.inr (.inr 98), .inr (.inr 35)] h (q_X0_markedAndZ κ h M) := by
  have f_33_0 := KCw hK
  have f_33_1 := KCh hK
  have f_36_0 := KCk0 hK
  have f_36_1 := KCk1 hK
  have main : ∀ N : Nat, (∀ (v2 v3 : Int) , (0 ≤ v3 ∧ v3 ≤ 16) → (v3 - κ 33 1 ≤ 0) → (v2 = smS (fun j => if M j = 1 ∧ κ 35 j = 1 then 1 else 0) (κ 33 0).toNat v3.toNat) → 14405040 + 21060 * (16 - v3) + 20520 < (N : Int) → zV G mX0_markedAnd (q_X0_markedAndZ κ h M) 4 [some (.inr (.inr 98)), some (.inr (.inr 35)), some (.inl v2), some (.inl v3), none] [] h) ∧ (∀ (v2 v3 v4 : Int) , (0 ≤ v3 ∧ v3 ≤ 15) → (v3 - κ 33 1 ≤ -1) → (0 ≤ v4 ∧ v4 ≤ 16) → (v4 - κ 33 0 ≤ 0) → (v2 = smS (fun j => if M j = 1 ∧ κ 35 j = 1 then 1 else 0) (κ 33 0).toNat v3.toNat + smR (fun j => if M j = 1 ∧ κ 35 j = 1 then 1 else 0) v3.toNat v4.toNat) → 14405040 + 21060 * (16 - v3) + 15660 + 30 * (16 - v4) + 29 < (N : Int) → zV G mX0_markedAnd (q_X0_markedAndZ κ h M) 18 [some (.inr (.inr 98)), some (.inr (.inr 35)), some (.inl v2), some (.inl v3), some (.inl v4)] [] h) := by
    intro N
    induction N with
    | zero =>
      refine ⟨?_, ?_⟩
      · intro v2 v3 g0 g1 gc0 hm
        exfalso; omega
      · intro v2 v3 v4 g0 g1 g2 g3 gc0 hm
        exfalso; omega
    | succ N ih =>
      obtain ⟨k4, k18⟩ := ih
      refine ⟨?_, ?_⟩
      · intro v2 v3 g0 g1 gc0 hm
        refine zW_iload_n (pc' := 5) dX0_markedAnd_0.1.2.1.1 rfl rfl ?_
        refine zW_aload_n (pc' := 6) dX0_markedAnd_0.1.2.1.2 rfl rfl ?_
        refine zG_ref (pc' := 9) 33 fg_X0_21 tb98 rfl dX0_markedAnd_0.1.2.2.1 rfl ?_
        refine zG_key (pc' := 12) hF rfl fg_X0_31 tb33 rfl dX0_markedAnd_0.1.2.2.2 rfl ?_
        refine zV_cm_ge (tgt := 67) (pc' := 15) dX0_markedAnd_0.2.1.1.1 rfl rfl ⟨by omega, by omega⟩ ⟨by omega, by omega⟩ (fun c12 => ?_) (fun c12 => ?_)
        · refine zW_iload_n (pc' := 68) dX0_markedAnd_2.2.2.1 rfl rfl ?_
          exact zV_iret rfl dX0_markedAnd_2.2.2.2 ⟨rfl, (by rw [show κ 33 1 = v3 by omega]; exact gc0)⟩
        · refine zW_iconst (pc' := 16) dX0_markedAnd_0.2.1.1.2 rfl ?_
          refine zW_istore (ls' := [_, _, _, _, _]) (pc' := 18) dX0_markedAnd_0.2.1.2.1 (by decide) rfl rfl rfl ?_
          exact k18 _ _ _ (by omega) (by omega) (by omega) (by omega) (by first | (have q := smR_step (f := (fun j => if M j = 1 ∧ κ 35 j = 1 then 1 else 0)) (y := v3) (v := v4) (by omega) (by omega); rw [q, gc0, e52, e42, show (16 * v3 + v4).toNat = (v3 * 16 + v4).toNat by omega]; omega) | (show _ = _ + 0; omega)) (by omega)
      · intro v2 v3 v4 g0 g1 g2 g3 gc0 hm
        refine zW_iload (pc' := 20) dX0_markedAnd_0.2.1.2.2 rfl rfl ?_
        refine zW_aload_n (pc' := 21) dX0_markedAnd_0.2.2.1.1 rfl rfl ?_
        refine zG_ref (pc' := 24) 33 fg_X0_21 tb98 rfl dX0_markedAnd_0.2.2.1.2 rfl ?_
        refine zG_key (pc' := 27) hF rfl fg_X0_35 tb33 rfl dX0_markedAnd_0.2.2.2.1 rfl ?_
        refine zV_cm_ge (tgt := 61) (pc' := 30) dX0_markedAnd_0.2.2.2.2 rfl rfl ⟨by omega, by omega⟩ ⟨by omega, by omega⟩ (fun c27 => ?_) (fun c27 => ?_)
        · refine zW_iinc (ls' := [_, _, _, _, _]) (pc' := 64) dX0_markedAnd_2.2.1.1 rfl (by decide) rfl rfl rfl ?_
          refine zV_goto 4 dX0_markedAnd_2.2.1.2 rfl ?_
          refine zV_clr 4 (ls' := [_, _, _, _, _]) rfl ?_
          exact k4 _ _ (by omega) (by omega) (by first | rfl | (have q := smS_step (f := (fun j => if M j = 1 ∧ κ 35 j = 1 then 1 else 0)) (w := (κ 33 0).toNat) (v := v3) (by omega); have e4 : v4.toNat = (κ 33 0).toNat := (by omega); rw [e4] at gc0; rw [q]; exact gc0)) (by omega)
        · refine zW_iload_n (pc' := 31) dX0_markedAnd_1.1.1.1.1 rfl rfl ?_
          refine zW_aload_n (pc' := 32) dX0_markedAnd_1.1.1.1.2 rfl rfl ?_
          refine zG_ref (pc' := 35) 99 fg_X0_9 tb98 rfl dX0_markedAnd_1.1.1.2.1 rfl ?_
          refine zW_iload_n (pc' := 36) dX0_markedAnd_1.1.1.2.2 rfl rfl ?_
          refine zW_bipush (pc' := 38) dX0_markedAnd_1.1.2.1.1 rfl rfl ?_
          refine zW_imul (pc' := 39) dX0_markedAnd_1.1.2.1.2 rfl ?_
          refine zW_iload (pc' := 41) dX0_markedAnd_1.1.2.2.1 rfl rfl ?_
          refine zW_iadd (pc' := 42) dX0_markedAnd_1.1.2.2.2 rfl ?_
          refine zV_ialdI (pc' := 43) hF (by decide) (by decide) tb99 (by omega) dX0_markedAnd_1.2.1.1.1 (by decide) rfl (fun e42 => ?_)
          have e42 : h 99 (v3 * 16 + v4).toNat = M (16 * v3 + v4).toNat := by rw [show v3 * 16 + v4 = 16 * v3 + v4 by omega]; exact hM v4 v3 ⟨by omega, by omega, by omega, by omega⟩
          have b42 := hMb (16 * v3 + v4).toNat
          refine zW_aload_n (pc' := 44) dX0_markedAnd_1.2.1.1.2 rfl rfl ?_
          refine zW_iload_n (pc' := 45) dX0_markedAnd_1.2.1.2.1 rfl rfl ?_
          refine zW_bipush (pc' := 47) dX0_markedAnd_1.2.1.2.2 rfl rfl ?_
          refine zW_imul (pc' := 48) dX0_markedAnd_1.2.2.1.1 rfl ?_
          refine zW_iload (pc' := 50) dX0_markedAnd_1.2.2.1.2 rfl rfl ?_
          refine zW_iadd (pc' := 51) dX0_markedAnd_1.2.2.2.1 rfl ?_
          refine zA_keyI (pc' := 52) hF rfl (by decide) (by decide) tb35 (by omega) dX0_markedAnd_1.2.2.2.2 (by decide) rfl (fun e51 => ?_)
          have bd := hd (v3 * 16 + v4).toNat (by omega)
          refine zW_iand01 (pc' := 53) (by omega) (by omega) dX0_markedAnd_2.1.1.1.1 rfl (fun v52 e52 => ?_)
          refine zW_iadd (pc' := 54) dX0_markedAnd_2.1.1.1.2 rfl ?_
          refine zW_istore_n (ls' := [_, _, _, _, _]) (pc' := 55) dX0_markedAnd_2.1.1.2 (by decide) rfl rfl rfl ?_
          refine zW_iinc (ls' := [_, _, _, _, _]) (pc' := 58) dX0_markedAnd_2.1.2.1 rfl (by decide) rfl rfl rfl ?_
          refine zV_goto 18 dX0_markedAnd_2.1.2.2 rfl ?_
          exact k18 _ _ _ (by omega) (by omega) (by omega) (by omega) (by first | (have q := smR_step (f := (fun j => if M j = 1 ∧ κ 35 j = 1 then 1 else 0)) (y := v3) (v := v4) (by omega) (by omega); rw [q, gc0, e52, e42, show (16 * v3 + v4).toNat = (v3 * 16 + v4).toNat by omega]; omega) | (show _ = _ + 0; omega)) (by omega)
  refine zM_of [some (.inr (.inr 98)), some (.inr (.inr 35)), none, none, none] 3 rfl rfl (Nat.le_of_ble_eq_true rfl) rfl ?_
  refine zW_iconst (pc' := 1) dX0_markedAnd_0.1.1.1.1 rfl ?_
  refine zW_istore_n (ls' := [_, _, _, _, _]) (pc' := 2) dX0_markedAnd_0.1.1.1.2 (by decide) rfl rfl rfl ?_
  refine zW_iconst (pc' := 3) dX0_markedAnd_0.1.1.2.1 rfl ?_
  refine zW_istore_n (ls' := [_, _, _, _, _]) (pc' := 4) dX0_markedAnd_0.1.1.2.2 (by decide) rfl rfl rfl ?_
  exact (main 10000000000000000000000000000000000000000).1 _ _ (by omega) (by omega) (by first | rfl | (have q := smS_step (f := (fun j => if M j = 1 ∧ κ 35 j = 1 then 1 else 0)) (w := (κ 33 0).toNat) (v := v3) (by omega); have e4 : v4.toNat = (κ 33 0).toNat := (by omega); rw [e4] at gc0; rw [q]; exact gc0)) (by omega)

abbrev q_X0_firstMarkedZ (κ h : Hp) (M : Nat → Int) : Int → Hp → Prop := fun r h' => h' = h ∧ ((FsI M 256 r))
set_option maxHeartbeats 4000000 in
set_option maxRecDepth 20000 in
theorem s_X0_firstMarkedZ {G : Ga} {b : Bd} {κ h : Hp} (hK : KC κ) (hF : Fr b κ h) (M : Nat → Int) (hM : ∀ x y : Int, inP (κ 33 0) (κ 33 1) x y → h 99 (16 * y + x).toNat = M (16 * y + x).toNat) (hMb : ∀ q : Nat, 0 ≤ M q ∧ M q ≤ 1) (hMO : MkO (κ 33 0) (κ 33 1) M) : zM G mX0_firstMarked yX0_firstMarked [.inr (.inr 98)] h (q_X0_firstMarkedZ κ h M) := by
  have f_33_0 := KCw hK
  have f_33_1 := KCh hK
  have f_36_0 := KCk0 hK
  have f_36_1 := KCk1 hK
  have main : ∀ N : Nat, (∀ (v1 : Int) , (0 ≤ v1 ∧ v1 ≤ 16) → (v1 - κ 33 1 ≤ 0) → (∀ q : Nat, (q : Int) < 16 * v1 → M q = 0) → 11022480 + 17496 * (16 - v1) + 17010 < (N : Int) → zV G mX0_firstMarked (q_X0_firstMarkedZ κ h M) 2 [some (.inr (.inr 98)), some (.inl v1), none] [] h) ∧ (∀ (v1 v2 : Int) , (0 ≤ v1 ∧ v1 ≤ 15) → (v1 - κ 33 1 ≤ -1) → (0 ≤ v2 ∧ v2 ≤ 16) → (v2 - κ 33 0 ≤ 0) → (∀ q : Nat, (q : Int) < 16 * v1 + v2 → M q = 0) → 11022480 + 17496 * (16 - v1) + 12636 + 27 * (16 - v2) + 26 < (N : Int) → zV G mX0_firstMarked (q_X0_firstMarkedZ κ h M) 15 [some (.inr (.inr 98)), some (.inl v1), some (.inl v2)] [] h) := by
    intro N
    induction N with
    | zero =>
      refine ⟨?_, ?_⟩
      · intro v1 g0 g1 gc0 hm
        exfalso; omega
      · intro v1 v2 g0 g1 g2 g3 gc0 hm
        exfalso; omega
    | succ N ih =>
      obtain ⟨k2, k15⟩ := ih
      refine ⟨?_, ?_⟩
      · intro v1 g0 g1 gc0 hm
        refine zW_iload_n (pc' := 3) dX0_firstMarked_0.1.1.2.1 rfl rfl ?_
        refine zW_aload_n (pc' := 4) dX0_firstMarked_0.1.1.2.2 rfl rfl ?_
        refine zG_ref (pc' := 7) 33 fg_X0_21 tb98 rfl dX0_firstMarked_0.1.2.1.1 rfl ?_
        refine zG_key (pc' := 10) hF rfl fg_X0_31 tb33 rfl dX0_firstMarked_0.1.2.1.2 rfl ?_
        refine zV_cm_ge (tgt := 60) (pc' := 13) dX0_firstMarked_0.1.2.2.1 rfl rfl ⟨by omega, by omega⟩ ⟨by omega, by omega⟩ (fun c10 => ?_) (fun c10 => ?_)
        · refine zW_bipush (pc' := 62) dX0_firstMarked_2.2.1 rfl rfl ?_
          exact zV_iret rfl dX0_firstMarked_2.2.2 ⟨rfl, (Or.inl ⟨rfl, fun q hq => by by_cases e : (q : Int) < 16 * v1; exact gc0 q e; exact hMO q (by omega)⟩)⟩
        · refine zW_iconst (pc' := 14) dX0_firstMarked_0.1.2.2.2 rfl ?_
          refine zW_istore_n (ls' := [_, _, _]) (pc' := 15) dX0_firstMarked_0.2.1.1.1 (by decide) rfl rfl rfl ?_
          exact k15 _ _ (by omega) (by omega) (by omega) (by omega) (by first | exact (fun q hq => gc0 q (by omega)) | (intro q hq; by_cases e : (q : Int) < 16 * v1 + v2; exact gc0 q e; (rw [show q = (16 * v1 + v2).toNat by omega]; omega))) (by omega)
      · intro v1 v2 g0 g1 g2 g3 gc0 hm
        refine zW_iload_n (pc' := 16) dX0_firstMarked_0.2.1.1.2 rfl rfl ?_
        refine zW_aload_n (pc' := 17) dX0_firstMarked_0.2.1.2.1 rfl rfl ?_
        refine zG_ref (pc' := 20) 33 fg_X0_21 tb98 rfl dX0_firstMarked_0.2.1.2.2 rfl ?_
        refine zG_key (pc' := 23) hF rfl fg_X0_35 tb33 rfl dX0_firstMarked_0.2.2.1.1 rfl ?_
        refine zV_cm_ge (tgt := 54) (pc' := 26) dX0_firstMarked_0.2.2.1.2 rfl rfl ⟨by omega, by omega⟩ ⟨by omega, by omega⟩ (fun c23 => ?_) (fun c23 => ?_)
        · refine zW_iinc (ls' := [_, _, _]) (pc' := 57) dX0_firstMarked_2.1.1 rfl (by decide) rfl rfl rfl ?_
          refine zV_goto 2 dX0_firstMarked_2.1.2 rfl ?_
          refine zV_clr 2 (ls' := [_, _, _]) rfl ?_
          exact k2 _ (by omega) (by omega) (by first | exact (fun q hq => by omega) | (intro q hq; by_cases e : (q : Int) < 16 * v1 + v2; exact gc0 q e; exact hMO q (by omega))) (by omega)
        · refine zW_aload_n (pc' := 27) dX0_firstMarked_0.2.2.2.1 rfl rfl ?_
          refine zG_ref (pc' := 30) 99 fg_X0_9 tb98 rfl dX0_firstMarked_0.2.2.2.2 rfl ?_
          refine zW_iload_n (pc' := 31) dX0_firstMarked_1.1.1.1.1 rfl rfl ?_
          refine zW_bipush (pc' := 33) dX0_firstMarked_1.1.1.1.2 rfl rfl ?_
          refine zW_imul (pc' := 34) dX0_firstMarked_1.1.1.2.1 rfl ?_
          refine zW_iload_n (pc' := 35) dX0_firstMarked_1.1.1.2.2 rfl rfl ?_
          refine zW_iadd (pc' := 36) dX0_firstMarked_1.1.2.1.1 rfl ?_
          refine zV_iald (pc' := 37) tb99 (by omega) dX0_firstMarked_1.1.2.1.2 (by decide) rfl ?_
          have e36 : h 99 (v1 * 16 + v2).toNat = M (16 * v1 + v2).toNat := by rw [show v1 * 16 + v2 = 16 * v1 + v2 by omega]; exact hM v2 v1 ⟨by omega, by omega, by omega, by omega⟩
          have b36 := hMb (16 * v1 + v2).toNat
          refine zW_iconst (pc' := 38) dX0_firstMarked_1.1.2.2.1 rfl ?_
          refine zV_cm_ne (tgt := 48) (pc' := 41) dX0_firstMarked_1.1.2.2.2 rfl rfl ⟨by omega, by omega⟩ ⟨by omega, by omega⟩ (fun c38 => ?_) (fun c38 => ?_)
          · refine zW_iinc (ls' := [_, _, _]) (pc' := 51) dX0_firstMarked_1.2.2.2.1 rfl (by decide) rfl rfl rfl ?_
            refine zV_goto 15 dX0_firstMarked_1.2.2.2.2 rfl ?_
            exact k15 _ _ (by omega) (by omega) (by omega) (by omega) (by first | exact (fun q hq => gc0 q (by omega)) | (intro q hq; by_cases e : (q : Int) < 16 * v1 + v2; exact gc0 q e; (rw [show q = (16 * v1 + v2).toNat by omega]; omega))) (by omega)
          · refine zW_iload_n (pc' := 42) dX0_firstMarked_1.2.1.1.1 rfl rfl ?_
            refine zW_bipush (pc' := 44) dX0_firstMarked_1.2.1.1.2 rfl rfl ?_
            refine zW_imul (pc' := 45) dX0_firstMarked_1.2.1.2.1 rfl ?_
            refine zW_iload_n (pc' := 46) dX0_firstMarked_1.2.1.2.2 rfl rfl ?_
            refine zW_iadd (pc' := 47) dX0_firstMarked_1.2.2.1.1 rfl ?_
            exact zV_iret rfl dX0_firstMarked_1.2.2.1.2 ⟨rfl, (Or.inr ⟨by omega, by omega, by rw [show (v1 * 16 + v2).toNat = (16 * v1 + v2).toNat by omega]; omega, fun q hq => gc0 q (by omega)⟩)⟩
  refine zM_of [some (.inr (.inr 98)), none, none] 2 rfl rfl (Nat.le_of_ble_eq_true rfl) rfl ?_
  refine zW_iconst (pc' := 1) dX0_firstMarked_0.1.1.1.1 rfl ?_
  refine zW_istore_n (ls' := [_, _, _]) (pc' := 2) dX0_firstMarked_0.1.1.1.2 (by decide) rfl rfl rfl ?_
  exact (main 10000000000000000000000000000000000000000).1 _ (by omega) (by omega) (by first | exact (fun q hq => by omega) | (intro q hq; by_cases e : (q : Int) < 16 * v1 + v2; exact gc0 q e; exact hMO q (by omega))) (by omega)

abbrev q_X0_lastMarkedZ (κ h : Hp) (M : Nat → Int) : Int → Hp → Prop := fun r h' => h' = h ∧ ((LsI M 256 r))
set_option maxHeartbeats 4000000 in
set_option maxRecDepth 20000 in
theorem s_X0_lastMarkedZ {G : Ga} {b : Bd} {κ h : Hp} (hK : KC κ) (hF : Fr b κ h) (M : Nat → Int) (hM : ∀ x y : Int, inP (κ 33 0) (κ 33 1) x y → h 99 (16 * y + x).toNat = M (16 * y + x).toNat) (hMb : ∀ q : Nat, 0 ≤ M q ∧ M q ≤ 1) (hMO : MkO (κ 33 0) (κ 33 1) M) : zM G mX0_lastMarked yX0_lastMarked [.inr (.inr 98)] h (q_X0_lastMarkedZ κ h M) := by
  have f_33_0 := KCw hK
  have f_33_1 := KCh hK
  have f_36_0 := KCk0 hK
  have f_36_1 := KCk1 hK
  have main : ∀ N : Nat, (∀ (v1 v2 : Int) , (-2 ≤ v1 ∧ v1 ≤ 255) → (0 ≤ v2 ∧ v2 ≤ 16) → (v2 - κ 33 1 ≤ 0) → (LsI M (16 * v2) v1) → 11022480 + 17496 * (16 - v2) + 17010 < (N : Int) → zV G mX0_lastMarked (q_X0_lastMarkedZ κ h M) 5 [some (.inr (.inr 98)), some (.inl v1), some (.inl v2), none] [] h) ∧ (∀ (v1 v2 v3 : Int) , (-2 ≤ v1 ∧ v1 ≤ 255) → (0 ≤ v2 ∧ v2 ≤ 15) → (v2 - κ 33 1 ≤ -1) → (0 ≤ v3 ∧ v3 ≤ 16) → (v3 - κ 33 0 ≤ 0) → (LsI M (16 * v2 + v3) v1) → 11022480 + 17496 * (16 - v2) + 12636 + 27 * (16 - v3) + 26 < (N : Int) → zV G mX0_lastMarked (q_X0_lastMarkedZ κ h M) 18 [some (.inr (.inr 98)), some (.inl v1), some (.inl v2), some (.inl v3)] [] h) := by
    intro N
    induction N with
    | zero =>
      refine ⟨?_, ?_⟩
      · intro v1 v2 g0 g1 g2 gc0 hm
        exfalso; omega
      · intro v1 v2 v3 g0 g1 g2 g3 g4 gc0 hm
        exfalso; omega
    | succ N ih =>
      obtain ⟨k5, k18⟩ := ih
      refine ⟨?_, ?_⟩
      · intro v1 v2 g0 g1 g2 gc0 hm
        refine zW_iload_n (pc' := 6) dX0_lastMarked_0.1.2.1.1 rfl rfl ?_
        refine zW_aload_n (pc' := 7) dX0_lastMarked_0.1.2.1.2 rfl rfl ?_
        refine zG_ref (pc' := 10) 33 fg_X0_21 tb98 rfl dX0_lastMarked_0.1.2.2.1 rfl ?_
        refine zG_key (pc' := 13) hF rfl fg_X0_31 tb33 rfl dX0_lastMarked_0.1.2.2.2 rfl ?_
        refine zV_cm_ge (tgt := 63) (pc' := 16) dX0_lastMarked_0.2.1.1.1 rfl rfl ⟨by omega, by omega⟩ ⟨by omega, by omega⟩ (fun c13 => ?_) (fun c13 => ?_)
        · refine zW_iload_n (pc' := 64) dX0_lastMarked_2.2.1.2 rfl rfl ?_
          exact zV_iret rfl dX0_lastMarked_2.2.2 ⟨rfl, (gc0.sk (by omega) (fun q h1 h2 => hMO q (by omega)))⟩
        · refine zW_iconst (pc' := 17) dX0_lastMarked_0.2.1.1.2 rfl ?_
          refine zW_istore_n (ls' := [_, _, _, _]) (pc' := 18) dX0_lastMarked_0.2.1.2.1 (by decide) rfl rfl rfl ?_
          exact k18 _ _ _ (by omega) (by omega) (by omega) (by omega) (by omega) (by first | (rw [Int.add_zero]; exact gc0) | (rw [show 16 * v2 + (v3 + 1) = 16 * v2 + v3 + 1 by omega]; exact gc0.s0 (by omega) (by omega)) | (rw [show 16 * v2 + (v3 + 1) = 16 * v2 + v3 + 1 by omega, show v2 * 16 + v3 = 16 * v2 + v3 by omega]; exact gc0.s1 (by omega) (by omega))) (by omega)
      · intro v1 v2 v3 g0 g1 g2 g3 g4 gc0 hm
        refine zW_iload_n (pc' := 19) dX0_lastMarked_0.2.1.2.2 rfl rfl ?_
        refine zW_aload_n (pc' := 20) dX0_lastMarked_0.2.2.1.1 rfl rfl ?_
        refine zG_ref (pc' := 23) 33 fg_X0_21 tb98 rfl dX0_lastMarked_0.2.2.1.2 rfl ?_
        refine zG_key (pc' := 26) hF rfl fg_X0_35 tb33 rfl dX0_lastMarked_0.2.2.2.1 rfl ?_
        refine zV_cm_ge (tgt := 57) (pc' := 29) dX0_lastMarked_0.2.2.2.2 rfl rfl ⟨by omega, by omega⟩ ⟨by omega, by omega⟩ (fun c26 => ?_) (fun c26 => ?_)
        · refine zW_iinc (ls' := [_, _, _, _]) (pc' := 60) dX0_lastMarked_2.1.2 rfl (by decide) rfl rfl rfl ?_
          refine zV_goto 5 dX0_lastMarked_2.2.1.1 rfl ?_
          refine zV_clr 3 (ls' := [_, _, _, _]) rfl ?_
          exact k5 _ _ (by omega) (by omega) (by omega) (by first | exact LsI.no | (rw [show 16 * (v2 + 1) = 16 * v2 + 16 by omega]; exact gc0.sk (by omega) (fun q h1 h2 => hMO q (by omega)))) (by omega)
        · refine zW_aload_n (pc' := 30) dX0_lastMarked_1.1.1.1.1 rfl rfl ?_
          refine zG_ref (pc' := 33) 99 fg_X0_9 tb98 rfl dX0_lastMarked_1.1.1.1.2 rfl ?_
          refine zW_iload_n (pc' := 34) dX0_lastMarked_1.1.1.2.1 rfl rfl ?_
          refine zW_bipush (pc' := 36) dX0_lastMarked_1.1.1.2.2 rfl rfl ?_
          refine zW_imul (pc' := 37) dX0_lastMarked_1.1.2.1.1 rfl ?_
          refine zW_iload_n (pc' := 38) dX0_lastMarked_1.1.2.1.2 rfl rfl ?_
          refine zW_iadd (pc' := 39) dX0_lastMarked_1.1.2.2.1 rfl ?_
          refine zV_iald (pc' := 40) tb99 (by omega) dX0_lastMarked_1.1.2.2.2 (by decide) rfl ?_
          have e39 : h 99 (v2 * 16 + v3).toNat = M (16 * v2 + v3).toNat := by rw [show v2 * 16 + v3 = 16 * v2 + v3 by omega]; exact hM v3 v2 ⟨by omega, by omega, by omega, by omega⟩
          have b39 := hMb (16 * v2 + v3).toNat
          refine zW_iconst (pc' := 41) dX0_lastMarked_1.2.1.1.1 rfl ?_
          refine zV_cm_ne (tgt := 51) (pc' := 44) dX0_lastMarked_1.2.1.1.2 rfl rfl ⟨by omega, by omega⟩ ⟨by omega, by omega⟩ (fun c41 => ?_) (fun c41 => ?_)
          · refine zW_iinc (ls' := [_, _, _, _]) (pc' := 54) dX0_lastMarked_2.1.1.1 rfl (by decide) rfl rfl rfl ?_
            refine zV_goto 18 dX0_lastMarked_2.1.1.2 rfl ?_
            exact k18 _ _ _ (by omega) (by omega) (by omega) (by omega) (by omega) (by first | (rw [Int.add_zero]; exact gc0) | (rw [show 16 * v2 + (v3 + 1) = 16 * v2 + v3 + 1 by omega]; exact gc0.s0 (by omega) (by omega)) | (rw [show 16 * v2 + (v3 + 1) = 16 * v2 + v3 + 1 by omega, show v2 * 16 + v3 = 16 * v2 + v3 by omega]; exact gc0.s1 (by omega) (by omega))) (by omega)
          · refine zW_iload_n (pc' := 45) dX0_lastMarked_1.2.1.2.1 rfl rfl ?_
            refine zW_bipush (pc' := 47) dX0_lastMarked_1.2.1.2.2 rfl rfl ?_
            refine zW_imul (pc' := 48) dX0_lastMarked_1.2.2.1.1 rfl ?_
            refine zW_iload_n (pc' := 49) dX0_lastMarked_1.2.2.1.2 rfl rfl ?_
            refine zW_iadd (pc' := 50) dX0_lastMarked_1.2.2.2.1 rfl ?_
            refine zW_istore_n (ls' := [_, _, _, _]) (pc' := 51) dX0_lastMarked_1.2.2.2.2 (by decide) rfl rfl rfl ?_
            refine zW_iinc (ls' := [_, _, _, _]) (pc' := 54) dX0_lastMarked_2.1.1.1 rfl (by decide) rfl rfl rfl ?_
            refine zV_goto 18 dX0_lastMarked_2.1.1.2 rfl ?_
            exact k18 _ _ _ (by omega) (by omega) (by omega) (by omega) (by omega) (by first | (rw [Int.add_zero]; exact gc0) | (rw [show 16 * v2 + (v3 + 1) = 16 * v2 + v3 + 1 by omega]; exact gc0.s0 (by omega) (by omega)) | (rw [show 16 * v2 + (v3 + 1) = 16 * v2 + v3 + 1 by omega, show v2 * 16 + v3 = 16 * v2 + v3 by omega]; exact gc0.s1 (by omega) (by omega))) (by omega)
  refine zM_of [some (.inr (.inr 98)), none, none, none] 3 rfl rfl (Nat.le_of_ble_eq_true rfl) rfl ?_
  refine zW_bipush (pc' := 2) dX0_lastMarked_0.1.1.1.1 rfl rfl ?_
  refine zW_istore_n (ls' := [_, _, _, _]) (pc' := 3) dX0_lastMarked_0.1.1.1.2 (by decide) rfl rfl rfl ?_
  refine zW_iconst (pc' := 4) dX0_lastMarked_0.1.1.2.1 rfl ?_
  refine zW_istore_n (ls' := [_, _, _, _]) (pc' := 5) dX0_lastMarked_0.1.1.2.2 (by decide) rfl rfl rfl ?_
  exact (main 10000000000000000000000000000000000000000).1 _ _ (by omega) (by omega) (by omega) (by first | exact LsI.no | (rw [show 16 * (v2 + 1) = 16 * v2 + 16 by omega]; exact gc0.sk (by omega) (fun q h1 h2 => hMO q (by omega)))) (by omega)

abbrev q_X11_foundZ (b : Bd) (κ : Hp) (x1 : Int) (x2 : Int) : Int → Hp → Prop := fun r h' => Fr b κ h' ∧ ((fdP (κ 41 0) (LC κ) x1 x2 r (FdB (mk1 (κ 33 0) (κ 33 1) (κ 35) (EFc κ (x1 - 1).toNat) (κ 44 (AC κ (x1 - 1).toNat).toNat)) (κ 35) (κ 33 0) (κ 33 1) x2 r)))
set_option maxHeartbeats 4000000 in
set_option maxRecDepth 20000 in
theorem s_X11_foundZ {G : Ga} {b : Bd} {κ h : Hp} (hK : KC κ) (hF : Fr b κ h) (x1 : Int) (hx1 : rng x1) (x2 : Int) (hx2 : rng x2) (hSz : SheetZ b) (hV : VOK (κ 34)) (hE : EaOK (LC κ) (κ 41 0)) (hRc : RecC κ) (hd : ∀ j : Nat, j < 256 → 0 ≤ κ 35 j ∧ κ 35 j ≤ 1) : zM G mX11_found yX11_found [.inr (.inr 30), .inl x1, .inl x2] h (q_X11_foundZ b κ x1 x2) := by
  have f_33_0 := KCw hK
  have f_33_1 := KCh hK
  have f_41_0 := KCm hK
  unfold rng at hx1
  unfold rng at hx2
  refine zM_of [some (.inr (.inr 30)), some (.inl x1), some (.inl x2)] 0 rfl rfl (Nat.le_of_ble_eq_true rfl) rfl ?_
  refine zW_aload_n (pc' := 1) dX11_found_0.1.1.1.1 rfl rfl ?_
  refine zG_ref (pc' := 4) 41 fg_X11_33 tb30 rfl dX11_found_0.1.1.1.2 rfl ?_
  refine zW_iload_n (pc' := 5) dX11_found_0.1.1.2.1 rfl rfl ?_
  refine cvI1 (pc' := 8) kX7_has vX7_has lk_X11_178 ⟨Nat.le_of_ble_eq_true rfl, Nat.le_of_ble_eq_true rfl⟩ tb41 vq7 rfl rfl (s_X7_has hK hF _ ⟨by omega, by omega⟩) dX11_found_0.1.1.2.2 (Nat.le_of_ble_eq_true rfl) rfl ?_
  rintro r5 z5 ⟨hz5, p5⟩; subst z5
  refine zV_if_eq (tgt := 19) (pc' := 11) dX11_found_0.1.2.1.1 rfl rfl ⟨by omega, by omega⟩ (fun c8 => ?_) (fun c8 => ?_)
  · refine zW_iconst (pc' := 20) dX11_found_0.2.1.1.2 rfl ?_
    exact zV_iret rfl dX11_found_0.2.1.2.1 ⟨hF, (by refine ⟨fun _ => rfl, fun q => by omega, fun q => by omega⟩)⟩
  · refine zW_iload_n (pc' := 12) dX11_found_0.1.2.1.2 rfl rfl ?_
    refine zW_iconst (pc' := 13) dX11_found_0.1.2.2.1 rfl ?_
    refine csI2 (pc' := 16) kX11_isWithin vX11_isWithin lk_X11_116 ⟨Nat.le_of_ble_eq_true rfl, Nat.le_of_ble_eq_true rfl⟩ rfl (s_X11_isWithinR hF _ ⟨by omega, by omega⟩ _ ⟨by omega, by omega⟩) dX11_found_0.1.2.2.2 (Nat.le_of_ble_eq_true rfl) rfl ?_
    rintro r13 z13 ⟨hz13, p13⟩; subst z13
    refine zV_if_ne (tgt := 21) (pc' := 19) dX11_found_0.2.1.1.1 rfl rfl ⟨by omega, by omega⟩ (fun c16 => ?_) (fun c16 => ?_)
    · refine zW_aload_n (pc' := 22) dX11_found_0.2.1.2.2 rfl rfl ?_
      refine zG_ref (pc' := 25) 41 fg_X11_33 tb30 rfl dX11_found_0.2.2.1.1 rfl ?_
      refine zW_iload_n (pc' := 26) dX11_found_0.2.2.1.2 rfl rfl ?_
      refine cvI1 (pc' := 29) kX7_letterOf vX7_letterOf lk_X11_180 ⟨Nat.le_of_ble_eq_true rfl, Nat.le_of_ble_eq_true rfl⟩ tb41 vq7 rfl rfl (s_X7_letterOfZ hK hF _ ⟨by omega, by omega, by omega⟩) dX11_found_0.2.2.2.1 (Nat.le_of_ble_eq_true rfl) rfl ?_
      rintro r26 z26 ⟨hz26, p26⟩; subst z26
      refine zW_bipush (pc' := 31) dX11_found_0.2.2.2.2 rfl rfl ?_
      refine zV_cm_eq (tgt := 37) (pc' := 34) dX11_found_1.1.1.1.1 rfl rfl ⟨by omega, by omega⟩ ⟨by omega, by omega⟩ (fun c31 => ?_) (fun c31 => ?_)
      · have eLC : LC κ (x1 - 1).toNat = κ 42 x1.toNat := (by show κ 42 ((x1 - 1).toNat + 1) = _; rw [show (x1 - 1).toNat + 1 = x1.toNat by omega])
        have hno : noF (LC κ) (x1 - 1).toNat := (hE (x1 - 1).toNat (by omega)).mpr (by rw [eLC]; omega)
        refine zW_aload_n (pc' := 38) dX11_found_1.1.1.2.2 rfl rfl ?_
        refine zW_iload_n (pc' := 39) dX11_found_1.1.2.1.1 rfl rfl ?_
        refine cvV1 (pc' := 42) kX11_markFound vX11_markFound lk_X11_205 ⟨Nat.le_of_ble_eq_true rfl, Nat.le_of_ble_eq_true rfl⟩ tb30 vq11 rfl rfl (s_X11_markFoundZ hK hF _ ⟨by omega, by omega, by omega⟩ (by omega) (by omega) (by omega) (by omega) hno) dX11_found_1.1.2.1.2 (Nat.le_of_ble_eq_true rfl) rfl ?_
        rintro r39 h ⟨hF, p39⟩
        have hM : ∀ x y : Int, inP (κ 33 0) (κ 33 1) x y → h 99 (16 * y + x).toNat = (mk1 (κ 33 0) (κ 33 1) (κ 35) (EFc κ (x1 - 1).toNat) (κ 44 (AC κ (x1 - 1).toNat).toNat)) (16 * y + x).toNat := fun x y hp => by obtain ⟨g1, g2, g3, g4⟩ := hp; have e1 := p39 x y ⟨g1, g2, g3, g4⟩; rw [e1]; unfold mk1; have ex : (((16 * y + x).toNat % 16 : Nat) : Int) = x := (by omega); have ey : (((16 * y + x).toNat / 16 : Nat) : Int) = y := (by omega); rw [ex, ey]; by_cases c : fnd (κ 33 0) (κ 33 1) (κ 35) (EFc κ (x1 - 1).toNat) (κ 44 (AC κ (x1 - 1).toNat).toNat) x y; (rw [if_pos ⟨g2, g4, c⟩]; exact if_pos c); (rw [if_neg (fun q => c q.2.2)]; exact if_neg c)
        refine zW_iload_n (pc' := 43) dX11_found_1.1.2.2.1 rfl rfl ?_
        refine zW_iconst (pc' := 44) dX11_found_1.1.2.2.2 rfl ?_
        refine zV_cm_ne (tgt := 55) (pc' := 47) dX11_found_1.2.1.1.1 rfl rfl ⟨by omega, by omega⟩ ⟨by omega, by omega⟩ (fun c44 => ?_) (fun c44 => ?_)
        · refine zW_iload_n (pc' := 56) dX11_found_1.2.2.1.2 rfl rfl ?_
          refine zW_iconst (pc' := 57) dX11_found_1.2.2.2.1 rfl ?_
          refine zV_cm_ne (tgt := 68) (pc' := 60) dX11_found_1.2.2.2.2 rfl rfl ⟨by omega, by omega⟩ ⟨by omega, by omega⟩ (fun c57 => ?_) (fun c57 => ?_)
          · refine zW_iload_n (pc' := 69) dX11_found_2.1.2.1.1 rfl rfl ?_
            refine zV_if_ne (tgt := 82) (pc' := 72) dX11_found_2.1.2.1.2 rfl rfl ⟨by omega, by omega⟩ (fun c69 => ?_) (fun c69 => ?_)
            · refine zW_aload_n (pc' := 83) dX11_found_2.2.1.2.1 rfl rfl ?_
              refine zG_ref (pc' := 86) 98 fg_X11_67 tb30 rfl dX11_found_2.2.1.2.2 rfl ?_
              refine zW_aload_n (pc' := 87) dX11_found_2.2.2.1.1 rfl rfl ?_
              refine zG_ref (pc' := 90) 33 fg_X11_19 tb30 rfl dX11_found_2.2.2.1.2 rfl ?_
              refine zG_ref (pc' := 93) 35 fg_X11_143 tb33 rfl dX11_found_2.2.2.2.1 rfl ?_
              refine cvI1 (pc' := 96) kX0_markedAnd vX0_markedAnd lk_X11_218 ⟨Nat.le_of_ble_eq_true rfl, Nat.le_of_ble_eq_true rfl⟩ tb98 vq0 rfl rfl (s_X0_markedAndZ hK hF (mk1 (κ 33 0) (κ 33 1) (κ 35) (EFc κ (x1 - 1).toNat) (κ 44 (AC κ (x1 - 1).toNat).toNat)) hM (fun _ => mk1_b) mk1_O (by omega)) dX11_found_2.2.2.2.2 (Nat.le_of_ble_eq_true rfl) rfl ?_
              rintro r93 z93 ⟨hz93, p93⟩; subst z93
              exact zV_iret rfl dX11_found_3 ⟨hF, (by first | exact (by have eLC : LC κ (x1 - 1).toNat = κ 42 x1.toNat := (by show κ 42 ((x1 - 1).toNat + 1) = _; rw [show (x1 - 1).toNat + 1 = x1.toNat by omega]); refine ⟨fun q => absurd ⟨by omega, by omega, by omega, by omega⟩ q, fun _ q => absurd (eLC.trans (by omega)) q, fun _ _ => ⟨fun q => ?_, fun q => ?_, fun q => ?_, fun q => ?_⟩⟩; exact (by rw [p76]; exact smS_cong _ (fun y hy => smR_cong _ (by omega) (fun x hx => by have z := hM x y ⟨by omega, by omega, by omega, by omega⟩; rw [show (16 * (y : Int) + (x : Int)).toNat = 16 * y + x by omega] at z; exact z))); (exfalso; omega); (exfalso; omega); (exfalso; omega)) | exact (by have eLC : LC κ (x1 - 1).toNat = κ 42 x1.toNat := (by show κ 42 ((x1 - 1).toNat + 1) = _; rw [show (x1 - 1).toNat + 1 = x1.toNat by omega]); refine ⟨fun q => absurd ⟨by omega, by omega, by omega, by omega⟩ q, fun _ q => absurd (eLC.trans (by omega)) q, fun _ _ => ⟨fun q => ?_, fun q => ?_, fun q => ?_, fun q => ?_⟩⟩; (exfalso; omega); exact p93; (exfalso; omega); (exfalso; omega)))⟩
            · refine zW_aload_n (pc' := 73) dX11_found_2.1.2.2.1 rfl rfl ?_
              refine zG_ref (pc' := 76) 98 fg_X11_67 tb30 rfl dX11_found_2.1.2.2.2 rfl ?_
              refine cvI0 (pc' := 79) kX0_marked vX0_marked lk_X11_215 ⟨Nat.le_of_ble_eq_true rfl, Nat.le_of_ble_eq_true rfl⟩ tb98 vq0 rfl rfl (s_X0_markedZ hK hF) dX11_found_2.2.1.1.1 (Nat.le_of_ble_eq_true rfl) rfl ?_
              rintro r76 z76 ⟨hz76, p76⟩; subst z76
              refine zV_goto 96 dX11_found_2.2.1.1.2 rfl ?_
              exact zV_iret rfl dX11_found_3 ⟨hF, (by first | exact (by have eLC : LC κ (x1 - 1).toNat = κ 42 x1.toNat := (by show κ 42 ((x1 - 1).toNat + 1) = _; rw [show (x1 - 1).toNat + 1 = x1.toNat by omega]); refine ⟨fun q => absurd ⟨by omega, by omega, by omega, by omega⟩ q, fun _ q => absurd (eLC.trans (by omega)) q, fun _ _ => ⟨fun q => ?_, fun q => ?_, fun q => ?_, fun q => ?_⟩⟩; exact (by rw [p76]; exact smS_cong _ (fun y hy => smR_cong _ (by omega) (fun x hx => by have z := hM x y ⟨by omega, by omega, by omega, by omega⟩; rw [show (16 * (y : Int) + (x : Int)).toNat = 16 * y + x by omega] at z; exact z))); (exfalso; omega); (exfalso; omega); (exfalso; omega)) | exact (by have eLC : LC κ (x1 - 1).toNat = κ 42 x1.toNat := (by show κ 42 ((x1 - 1).toNat + 1) = _; rw [show (x1 - 1).toNat + 1 = x1.toNat by omega]); refine ⟨fun q => absurd ⟨by omega, by omega, by omega, by omega⟩ q, fun _ q => absurd (eLC.trans (by omega)) q, fun _ _ => ⟨fun q => ?_, fun q => ?_, fun q => ?_, fun q => ?_⟩⟩; (exfalso; omega); exact p93; (exfalso; omega); (exfalso; omega)))⟩
          · refine zW_aload_n (pc' := 61) dX11_found_2.1.1.1.1 rfl rfl ?_
            refine zG_ref (pc' := 64) 98 fg_X11_67 tb30 rfl dX11_found_2.1.1.1.2 rfl ?_
            refine cvI0 (pc' := 67) kX0_lastMarked vX0_lastMarked lk_X11_212 ⟨Nat.le_of_ble_eq_true rfl, Nat.le_of_ble_eq_true rfl⟩ tb98 vq0 rfl rfl (s_X0_lastMarkedZ hK hF (mk1 (κ 33 0) (κ 33 1) (κ 35) (EFc κ (x1 - 1).toNat) (κ 44 (AC κ (x1 - 1).toNat).toNat)) hM (fun _ => mk1_b) mk1_O) dX11_found_2.1.1.2.1 (Nat.le_of_ble_eq_true rfl) rfl ?_
            rintro r64 z64 ⟨hz64, p64⟩; subst z64
            exact zV_iret rfl dX11_found_2.1.1.2.2 ⟨hF, (by have eLC : LC κ (x1 - 1).toNat = κ 42 x1.toNat := (by show κ 42 ((x1 - 1).toNat + 1) = _; rw [show (x1 - 1).toNat + 1 = x1.toNat by omega]); refine ⟨fun q => absurd ⟨by omega, by omega, by omega, by omega⟩ q, fun _ q => absurd (eLC.trans (by omega)) q, fun _ _ => ⟨fun q => ?_, fun q => ?_, fun q => ?_, fun q => ?_⟩⟩; (exfalso; omega); (exfalso; omega); (exfalso; omega); exact p64)⟩
        · refine zW_aload_n (pc' := 48) dX11_found_1.2.1.1.2 rfl rfl ?_
          refine zG_ref (pc' := 51) 98 fg_X11_67 tb30 rfl dX11_found_1.2.1.2.1 rfl ?_
          refine cvI0 (pc' := 54) kX0_firstMarked vX0_firstMarked lk_X11_208 ⟨Nat.le_of_ble_eq_true rfl, Nat.le_of_ble_eq_true rfl⟩ tb98 vq0 rfl rfl (s_X0_firstMarkedZ hK hF (mk1 (κ 33 0) (κ 33 1) (κ 35) (EFc κ (x1 - 1).toNat) (κ 44 (AC κ (x1 - 1).toNat).toNat)) hM (fun _ => mk1_b) mk1_O) dX11_found_1.2.1.2.2 (Nat.le_of_ble_eq_true rfl) rfl ?_
          rintro r51 z51 ⟨hz51, p51⟩; subst z51
          exact zV_iret rfl dX11_found_1.2.2.1.1 ⟨hF, (by have eLC : LC κ (x1 - 1).toNat = κ 42 x1.toNat := (by show κ 42 ((x1 - 1).toNat + 1) = _; rw [show (x1 - 1).toNat + 1 = x1.toNat by omega]); refine ⟨fun q => absurd ⟨by omega, by omega, by omega, by omega⟩ q, fun _ q => absurd (eLC.trans (by omega)) q, fun _ _ => ⟨fun q => ?_, fun q => ?_, fun q => ?_, fun q => ?_⟩⟩; (exfalso; omega); (exfalso; omega); exact p51; (exfalso; omega))⟩
      · refine zW_bipush (pc' := 36) dX11_found_1.1.1.1.2 rfl rfl ?_
        exact zV_iret rfl dX11_found_1.1.1.2.1 ⟨hF, (by have eLC : LC κ (x1 - 1).toNat = κ 42 x1.toNat := (by show κ 42 ((x1 - 1).toNat + 1) = _; rw [show (x1 - 1).toNat + 1 = x1.toNat by omega]); refine ⟨fun q => absurd ⟨by omega, by omega, by omega, by omega⟩ q, fun _ _ => rfl, fun _ q => absurd (eLC.symm.trans q) (by omega)⟩)⟩
    · refine zW_iconst (pc' := 20) dX11_found_0.2.1.1.2 rfl ?_
      exact zV_iret rfl dX11_found_0.2.1.2.1 ⟨hF, (by refine ⟨fun _ => rfl, fun q => by omega, fun q => by omega⟩)⟩
