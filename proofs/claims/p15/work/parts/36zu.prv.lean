/-! the marks of the dots' stage; groups -/
def mk1 (W H : Int) (D : Nat → Int) (f : Int → Int → Int) (n : Int) (q : Nat) : Int := if ((q % 16 : Nat) : Int) < W ∧ ((q / 16 : Nat) : Int) < H ∧ fnd W H D f n ((q % 16 : Nat) : Int) ((q / 16 : Nat) : Int) then 1 else 0
theorem mk1_b {W H : Int} {D : Nat → Int} {f : Int → Int → Int} {n : Int} {q : Nat} : 0 ≤ mk1 W H D f n q ∧ mk1 W H D f n q ≤ 1 := by
  unfold mk1
  split <;> omega
theorem mk1_of {W H v : Int} {D : Nat → Int} {f : Int → Int → Int} {n : Int} {q : Nat} (hv : v = 0 ∨ v = 1) (h : v = 1 ↔ (((q % 16 : Nat) : Int) < W ∧ ((q / 16 : Nat) : Int) < H ∧ fnd W H D f n ((q % 16 : Nat) : Int) ((q / 16 : Nat) : Int))) : v = mk1 W H D f n q := by
  unfold mk1
  by_cases c : ((q % 16 : Nat) : Int) < W ∧ ((q / 16 : Nat) : Int) < H ∧ fnd W H D f n ((q % 16 : Nat) : Int) ((q / 16 : Nat) : Int)
  · rw [if_pos c]; exact h.mpr c
  · rw [if_neg c]
    rcases hv with e | e
    · exact e
    · exact absurd (h.mp e) c
theorem mk1_in {W H : Int} {D : Nat → Int} {f : Int → Int → Int} {n : Int} {q : Nat} (h : mk1 W H D f n q ≠ 0) : ((q % 16 : Nat) : Int) < W ∧ ((q / 16 : Nat) : Int) < H := by
  unfold mk1 at h
  by_cases c : ((q % 16 : Nat) : Int) < W ∧ ((q / 16 : Nat) : Int) < H ∧ fnd W H D f n ((q % 16 : Nat) : Int) ((q / 16 : Nat) : Int)
  · exact ⟨c.1, c.2.1⟩
  · rw [if_neg c] at h; exact absurd rfl h
theorem mk1_at {W H n x y : Int} {D : Nat → Int} {f : Int → Int → Int} (hW : W ≤ 16) (hp : inP W H x y) : mk1 W H D f n (16 * y + x).toNat = if fnd W H D f n x y then 1 else 0 := by
  obtain ⟨p1, p2, p3, p4⟩ := hp
  have ex : (((16 * y + x).toNat % 16 : Nat) : Int) = x := by omega
  have ey : (((16 * y + x).toNat / 16 : Nat) : Int) = y := by omega
  unfold mk1
  rw [ex, ey]
  by_cases c : fnd W H D f n x y
  · rw [if_pos ⟨p2, p4, c⟩, if_pos c]
  · rw [if_neg (fun q => c q.2.2), if_neg c]
theorem fnd_dN {W H n x y : Int} {D : Nat → Int} {f : Int → Int → Int} (hW : W ≤ 16) (hp : inP W H x y) : fnd W H D f n x y ↔ fnd W H (dN W H D) f n x y := by
  unfold fnd
  rw [dN_in hp hW]
def grQ (W H P n : Int) (lt bh : Int → Int) (pc : Int → P3) (nm : Int → Nat → Int) (D : Nat → Int) (k w : Int) : Int := if 1 ≤ k ∧ k ≤ n ∧ 0 ≤ w ∧ w ≤ 1 then (if lt k = 100 then plO w (otF W H 1 (mk1 W H D (pc (k - 1) 0) (nm k 0)) 256) else -3) else -1
theorem cx3_eq {α : Type} (Q : Int → Int → Int → Int → (Int → Int) → (Int → Int) → (Int → P3) → (Int → Nat → Int) → (Nat → Int) → α) {h h1 : Hp} (e : ∀ k i, key k i = true → h1 k i = h k i) (hR : KR h) (eW : h 33 0 = h 0 11) (eH : h 33 1 = h 0 12) (eP : h 33 2 = h 0 13) (en : h 41 0 = h 0 14) (hv : ∀ j : Nat, j < 256 → h 34 j = h 1 j) (hd : ∀ j : Nat, j < 256 → h 35 j = h 10 j) (t : TR (h 0 14) (LC h) (AC h) (h 44) (h 3) (h 4) (h 5)) : Q (h 33 0) (h 33 1) (h 33 2) (h 41 0) (ltV (LC h) (h 41 0)) (bhV (LC h) (h 41 0)) (pcV (h 41 0) (PFc h)) (nmV (h 41 0) (XNc h)) (dN (h 33 0) (h 33 1) (h 35)) = Q (h1 0 11) (h1 0 12) (h1 0 13) (h1 0 14) (ltV (h1 3) (h1 0 14)) (bhV (h1 3) (h1 0 14)) (pcV (h1 0 14) (PF h1)) (nmV (h1 0 14) (XN (h1 4) (h1 5))) (dN (h1 0 11) (h1 0 12) (h1 10)) := by
  have ed : dN (h 33 0) (h 33 1) (h 35) = dN (h1 0 11) (h1 0 12) (h1 10) := by
    rw [eW, eH, e 0 11 rfl, e 0 12 rfl, show h1 10 = h 10 from funext fun i => e 10 i rfl]
    exact dN_eq (KRw hR).2 (KRh hR).2 hd
  rw [ed]
  exact cx_eq (fun W H P n lt bh pc nm => Q W H P n lt bh pc nm (dN (h1 0 11) (h1 0 12) (h1 10))) e hR eW eH eP en hv hd t

abbrev q_X12_marksFoundZ (b : Bd) (κ : Hp) (x1 : Int) (f : Int → Int → Int) (gh0 : Hp) : Int → Hp → Prop := fun r h' => Fr b κ h' ∧ ((Fw [24, 21] [] gh0 h') ∧ (∀ q : Nat, q < 256 → h' 24 q = (mk1 (κ 0 11) (κ 0 12) (dN (κ 0 11) (κ 0 12) (κ 10)) f (κ 5 (κ 4 (x1 - 1).toNat).toNat)) q))
set_option maxHeartbeats 4000000 in
set_option maxRecDepth 20000 in
theorem s_X12_marksFoundZ {G : Ga} {b : Bd} {κ h : Hp} (hK : KR κ) (hF : Fr b κ h) (x1 : Int) (hx1 : 1 ≤ x1 ∧ x1 ≤ 12 ∧ x1 - κ 0 14 ≤ 0) (f : Int → Int → Int) (gh0 : Hp) (hf : Row17 κ (h 17) (x1 - 1) f) (hfb : FB (κ 0 11) (κ 0 12) f) (hgh : Fw [24, 21] [] gh0 h) : zM G mX12_marksFound yX12_marksFound [.inr (.inr 0), .inl x1] h (q_X12_marksFoundZ b κ x1 f gh0) := by
  have f_0_11 := KRw hK
  have f_0_12 := KRh hK
  have f_0_14 := KRm hK
  have main : ∀ N : Nat, (∀ (v2 : Int) (h : Hp), Fr b κ h → (0 ≤ v2 ∧ v2 ≤ 256) → (∀ q : Nat, (q : Int) < v2 → h 24 q = (mk1 (κ 0 11) (κ 0 12) (dN (κ 0 11) (κ 0 12) (κ 10)) f (κ 5 (κ 4 (x1 - 1).toNat).toNat)) q) → (Row17 κ (h 17) (x1 - 1) f) → (Fw [24, 21] [] gh0 h) → 402480 + 40 * (256 - v2) + 39 < (N : Int) → zV G mX12_marksFound (q_X12_marksFoundZ b κ x1 f gh0) 2 [some (.inr (.inr 0)), some (.inl x1), some (.inl v2)] [] h) := by
    intro N
    induction N with
    | zero =>
      intro v2 h hF g0 gc0 hf hgh hm
      exfalso; omega
    | succ N ih =>
      have k2 := ih
      intro v2 h hF g0 gc0 hf hgh hm
      refine zW_iload_n (pc' := 3) dX12_marksFound_0.1.1.2.1 rfl rfl ?_
      refine zW_sipush (pc' := 6) dX12_marksFound_0.1.1.2.2 rfl rfl ?_
      refine zV_cm_ge (tgt := 65) (pc' := 9) dX12_marksFound_0.1.2.1.1 rfl rfl ⟨by omega, by omega⟩ ⟨by omega, by omega⟩ (fun c6 => ?_) (fun c6 => ?_)
      · exact zV_vret rfl dX12_marksFound_2.2.2.2 ⟨hF, ⟨hgh, (fun q hq => gc0 q (by omega))⟩⟩
      · refine zW_aload_n (pc' := 10) dX12_marksFound_0.1.2.1.2 rfl rfl ?_
        refine zG_ref (pc' := 13) 24 fg_X12_81 tb0 rfl dX12_marksFound_0.1.2.2.1 rfl ?_
        refine zW_iload_n (pc' := 14) dX12_marksFound_0.1.2.2.2 rfl rfl ?_
        refine zW_aload_n (pc' := 15) dX12_marksFound_0.2.1.1.1 rfl rfl ?_
        refine zW_iload_n (pc' := 16) dX12_marksFound_0.2.1.1.2 rfl rfl ?_
        refine zW_bipush (pc' := 18) dX12_marksFound_0.2.1.2.1 rfl rfl ?_
        refine zW_irem (pc' := 19) (by omega) (by omega) dX12_marksFound_0.2.1.2.2 rfl ?_
        refine zW_iload_n (pc' := 20) dX12_marksFound_0.2.2.1.1 rfl rfl ?_
        refine zW_bipush (pc' := 22) dX12_marksFound_0.2.2.1.2 rfl rfl ?_
        refine zW_idiv (pc' := 23) (by omega) (by omega) dX12_marksFound_0.2.2.2.1 rfl ?_
        refine cvI2 (pc' := 26) kX12_isSquare vX12_isSquare lk_X12_218 ⟨Nat.le_of_ble_eq_true rfl, Nat.le_of_ble_eq_true rfl⟩ tb0 vq12 rfl rfl (s_X12_isSquare hK hF _ ⟨by omega, by omega⟩ _ ⟨by omega, by omega⟩) dX12_marksFound_0.2.2.2.2 (Nat.le_of_ble_eq_true rfl) rfl ?_
        rintro r23 z23 ⟨hz23, p23⟩; subst z23
        refine zV_if_eq (tgt := 57) (pc' := 29) dX12_marksFound_1.1.1.1.1 rfl rfl ⟨by omega, by omega⟩ (fun c26 => ?_) (fun c26 => ?_)
        · refine zW_iconst (pc' := 58) dX12_marksFound_2.1.2.2 rfl ?_
          refine zS_z (pc' := 59) hF sr24 tb24 (by omega) (by omega) dX12_marksFound_2.2.1.1 (by decide) rfl (fun h hF w58 => ?_)
          replace hgh : Fw [24, 21] [] gh0 h := by rw [w58]; exact hgh.wc (by simp)
          replace hf : Row17 κ (h 17) (x1 - 1) f := by have q0_ := (congrFun w58 17).trans (zfun (by decide)); rw [q0_]; exact hf
          have gn : ∀ q : Nat, (q : Int) < v2 + 1 → h 24 q = (mk1 (κ 0 11) (κ 0 12) (dN (κ 0 11) (κ 0 12) (κ 10)) f (κ 5 (κ 4 (x1 - 1).toNat).toNat)) q := fun q hq => by rw [w58]; by_cases e : q = v2.toNat; (rw [e, zwr_eq]; exact (by have ex : ((v2.toNat % 16 : Nat) : Int) = v2 % 16 := (by omega); have ey : ((v2.toNat / 16 : Nat) : Int) = v2 / 16 := (by omega); refine mk1_of (by omega) ?_; rw [ex, ey]; first | (have z := p47.2.2.trans (fnd_dN (by omega) ⟨by omega, by omega, by omega, by omega⟩); rw [p44, Int.add_zero] at z; exact ⟨fun q => ⟨by omega, by omega, z.mp (by omega)⟩, fun q => by have w := z.mpr q.2.2; omega⟩) | exact ⟨fun q => by omega, fun q => by omega⟩)); (rw [zwr_ne (Or.inr e)]; first | exact gm q (by omega) | exact gc0 q (by omega))
          refine zW_iinc (ls' := [_, _, _]) (pc' := 62) dX12_marksFound_2.2.1.2 rfl (by decide) rfl rfl rfl ?_
          refine zV_goto 2 dX12_marksFound_2.2.2.1 rfl ?_
          exact k2 _ _ hF (by omega) (by first | exact gn | exact (fun q hq => by omega)) hf hgh (by omega)
        · refine zW_aload_n (pc' := 30) dX12_marksFound_1.1.1.1.2 rfl rfl ?_
          refine zW_iload_n (pc' := 31) dX12_marksFound_1.1.1.2.1 rfl rfl ?_
          refine zW_iconst (pc' := 32) dX12_marksFound_1.1.1.2.2 rfl ?_
          refine zW_isub (pc' := 33) dX12_marksFound_1.1.2.1.1 rfl ?_
          refine zW_iload_n (pc' := 34) dX12_marksFound_1.1.2.1.2 rfl rfl ?_
          refine zW_bipush (pc' := 36) dX12_marksFound_1.1.2.2.1 rfl rfl ?_
          refine zW_irem (pc' := 37) (by omega) (by omega) dX12_marksFound_1.1.2.2.2 rfl ?_
          refine zW_iload_n (pc' := 38) dX12_marksFound_1.2.1.1.1 rfl rfl ?_
          refine zW_bipush (pc' := 40) dX12_marksFound_1.2.1.1.2 rfl rfl ?_
          refine zW_idiv (pc' := 41) (by omega) (by omega) dX12_marksFound_1.2.1.2.1 rfl ?_
          refine zW_aload_n (pc' := 42) dX12_marksFound_1.2.1.2.2 rfl rfl ?_
          refine zW_iload_n (pc' := 43) dX12_marksFound_1.2.2.1.1 rfl rfl ?_
          refine zW_iconst (pc' := 44) dX12_marksFound_1.2.2.1.2 rfl ?_
          refine cvI2 (pc' := 47) kX12_numberOf vX12_numberOf lk_X12_206 ⟨Nat.le_of_ble_eq_true rfl, Nat.le_of_ble_eq_true rfl⟩ tb0 vq12 rfl rfl (s_X12_numberOf hK hF _ ⟨by omega, by omega⟩ _ ⟨by omega, by omega⟩) dX12_marksFound_1.2.2.2.1 (Nat.le_of_ble_eq_true rfl) rfl ?_
          rintro r44 z44 ⟨hz44, p44⟩; subst z44
          have b44 := KRnu hK (κ 4 (x1 - 1).toNat + 0).toNat
          rw [← p44] at b44
          refine cvI4 (pc' := 50) kX12_isFound vX12_isFound lk_X12_263 ⟨Nat.le_of_ble_eq_true rfl, Nat.le_of_ble_eq_true rfl⟩ tb0 vq12 rfl rfl (s_X12_isFoundZ hK hF _ ⟨by omega, by omega⟩ _ ⟨by omega, by omega, by omega⟩ _ ⟨by omega, by omega, by omega⟩ _ ⟨by omega, by omega⟩ f h (by omega) (by omega) Fw.rf) dX12_marksFound_1.2.2.2.2 (Nat.le_of_ble_eq_true rfl) rfl ?_
          rintro r47 h ⟨hF, d47, p47⟩
          replace hf : Row17 κ (h 17) (x1 - 1) f := by have q0_ := (d47.cell (k := 17) (by intro c hc; simp at hc <;> omega) (by rintro ⟨a, b⟩ hp; simp at hp <;> (show _ ≠ a; omega))); rw [q0_]; exact hf
          replace hgh : Fw [24, 21] [] gh0 h := hgh.tr d47 (by simp) (by simp)
          have gm : ∀ q : Nat, (q : Int) < v2 → h 24 q = (mk1 (κ 0 11) (κ 0 12) (dN (κ 0 11) (κ 0 12) (κ 10)) f (κ 5 (κ 4 (x1 - 1).toNat).toNat)) q := fun q hq => by rw [d47.cell (k := 24) (by decide) (by decide)]; exact gc0 q hq
          refine zV_if_eq (tgt := 57) (pc' := 53) dX12_marksFound_2.1.1.1 rfl rfl ⟨by omega, by omega⟩ (fun c50 => ?_) (fun c50 => ?_)
          · refine zW_iconst (pc' := 58) dX12_marksFound_2.1.2.2 rfl ?_
            refine zS_z (pc' := 59) hF sr24 tb24 (by omega) (by omega) dX12_marksFound_2.2.1.1 (by decide) rfl (fun h hF w58 => ?_)
            replace hgh : Fw [24, 21] [] gh0 h := by rw [w58]; exact hgh.wc (by simp)
            replace hf : Row17 κ (h 17) (x1 - 1) f := by have q0_ := (congrFun w58 17).trans (zfun (by decide)); rw [q0_]; exact hf
            have gn : ∀ q : Nat, (q : Int) < v2 + 1 → h 24 q = (mk1 (κ 0 11) (κ 0 12) (dN (κ 0 11) (κ 0 12) (κ 10)) f (κ 5 (κ 4 (x1 - 1).toNat).toNat)) q := fun q hq => by rw [w58]; by_cases e : q = v2.toNat; (rw [e, zwr_eq]; exact (by have ex : ((v2.toNat % 16 : Nat) : Int) = v2 % 16 := (by omega); have ey : ((v2.toNat / 16 : Nat) : Int) = v2 / 16 := (by omega); refine mk1_of (by omega) ?_; rw [ex, ey]; first | (have z := p47.2.2.trans (fnd_dN (by omega) ⟨by omega, by omega, by omega, by omega⟩); rw [p44, Int.add_zero] at z; exact ⟨fun q => ⟨by omega, by omega, z.mp (by omega)⟩, fun q => by have w := z.mpr q.2.2; omega⟩) | exact ⟨fun q => by omega, fun q => by omega⟩)); (rw [zwr_ne (Or.inr e)]; first | exact gm q (by omega) | exact gc0 q (by omega))
            refine zW_iinc (ls' := [_, _, _]) (pc' := 62) dX12_marksFound_2.2.1.2 rfl (by decide) rfl rfl rfl ?_
            refine zV_goto 2 dX12_marksFound_2.2.2.1 rfl ?_
            exact k2 _ _ hF (by omega) (by first | exact gn | exact (fun q hq => by omega)) hf hgh (by omega)
          · refine zW_iconst (pc' := 54) dX12_marksFound_2.1.1.2 rfl ?_
            refine zV_goto 58 dX12_marksFound_2.1.2.1 rfl ?_
            refine zS_z (pc' := 59) hF sr24 tb24 (by omega) (by omega) dX12_marksFound_2.2.1.1 (by decide) rfl (fun h hF w58 => ?_)
            replace hgh : Fw [24, 21] [] gh0 h := by rw [w58]; exact hgh.wc (by simp)
            replace hf : Row17 κ (h 17) (x1 - 1) f := by have q0_ := (congrFun w58 17).trans (zfun (by decide)); rw [q0_]; exact hf
            have gn : ∀ q : Nat, (q : Int) < v2 + 1 → h 24 q = (mk1 (κ 0 11) (κ 0 12) (dN (κ 0 11) (κ 0 12) (κ 10)) f (κ 5 (κ 4 (x1 - 1).toNat).toNat)) q := fun q hq => by rw [w58]; by_cases e : q = v2.toNat; (rw [e, zwr_eq]; exact (by have ex : ((v2.toNat % 16 : Nat) : Int) = v2 % 16 := (by omega); have ey : ((v2.toNat / 16 : Nat) : Int) = v2 / 16 := (by omega); refine mk1_of (by omega) ?_; rw [ex, ey]; first | (have z := p47.2.2.trans (fnd_dN (by omega) ⟨by omega, by omega, by omega, by omega⟩); rw [p44, Int.add_zero] at z; exact ⟨fun q => ⟨by omega, by omega, z.mp (by omega)⟩, fun q => by have w := z.mpr q.2.2; omega⟩) | exact ⟨fun q => by omega, fun q => by omega⟩)); (rw [zwr_ne (Or.inr e)]; first | exact gm q (by omega) | exact gc0 q (by omega))
            refine zW_iinc (ls' := [_, _, _]) (pc' := 62) dX12_marksFound_2.2.1.2 rfl (by decide) rfl rfl rfl ?_
            refine zV_goto 2 dX12_marksFound_2.2.2.1 rfl ?_
            exact k2 _ _ hF (by omega) (by first | exact gn | exact (fun q hq => by omega)) hf hgh (by omega)
  refine zM_of [some (.inr (.inr 0)), some (.inl x1), none] 1 rfl rfl (Nat.le_of_ble_eq_true rfl) rfl ?_
  refine zW_iconst (pc' := 1) dX12_marksFound_0.1.1.1.1 rfl ?_
  refine zW_istore_n (ls' := [_, _, _]) (pc' := 2) dX12_marksFound_0.1.1.1.2 (by decide) rfl rfl rfl ?_
  exact (main 10000000000000000000000000000000000000000) _ _ hF (by omega) (by first | exact gn | exact (fun q hq => by omega)) hf hgh (by omega)

abbrev q_X12_groupsZ (b : Bd) (κ : Hp) (x1 : Int) (x2 : Int) : Int → Hp → Prop := fun r h' => Fr b κ h' ∧ ((r = grQ (κ 0 11) (κ 0 12) (κ 0 13) (κ 0 14) (ltV (κ 3) (κ 0 14)) (bhV (κ 3) (κ 0 14)) (pcV (κ 0 14) (PF κ)) (nmV (κ 0 14) (XN (κ 4) (κ 5))) (dN (κ 0 11) (κ 0 12) (κ 10)) x1 x2))
set_option maxHeartbeats 4000000 in
set_option maxRecDepth 20000 in
theorem s_X12_groupsZ {G : Ga} {b : Bd} {κ h : Hp} (hK : KR κ) (hF : Fr b.fo κ h) (x1 : Int) (hx1 : rng x1) (x2 : Int) (hx2 : rng x2) (hLw : LeavesW b) (hV : VOK (κ 1)) (hE : EaOK (κ 3) (κ 0 14)) : zM G mX12_groups yX12_groups [.inr (.inr 0), .inl x1, .inl x2] h (q_X12_groupsZ b.fo κ x1 x2) := by
  have f_0_11 := KRw hK
  have f_0_12 := KRh hK
  have f_0_13 := KRp hK
  have f_0_14 := KRm hK
  unfold rng at hx1
  unfold rng at hx2
  refine zM_of [some (.inr (.inr 0)), some (.inl x1), some (.inl x2), none, none] 2 rfl rfl (Nat.le_of_ble_eq_true rfl) rfl ?_
  refine zW_aload_n (pc' := 1) dX12_groups_0.1.1.1.1 rfl rfl ?_
  refine zW_iload_n (pc' := 2) dX12_groups_0.1.1.1.2 rfl rfl ?_
  refine cvI1 (pc' := 5) kX12_isStage vX12_isStage lk_X12_199 ⟨Nat.le_of_ble_eq_true rfl, Nat.le_of_ble_eq_true rfl⟩ tb0 vq12 rfl rfl (s_X12_isStageZ hK hF _ ⟨by omega, by omega⟩) dX12_groups_0.1.1.2.1 (Nat.le_of_ble_eq_true rfl) rfl ?_
  rintro r2 z2 ⟨hz2, p2⟩; subst z2
  refine zV_if_eq (tgt := 17) (pc' := 8) dX12_groups_0.1.1.2.2 rfl rfl ⟨by omega, by omega⟩ (fun c5 => ?_) (fun c5 => ?_)
  · refine zW_iconst (pc' := 18) dX12_groups_0.2.1.1.2 rfl ?_
    exact zV_iret rfl dX12_groups_0.2.1.2.1 ⟨hF, (by unfold grQ; rw [if_neg (by omega)])⟩
  · refine zW_iload_n (pc' := 9) dX12_groups_0.1.2.1.1 rfl rfl ?_
    refine zW_iconst (pc' := 10) dX12_groups_0.1.2.1.2 rfl ?_
    refine zW_iconst (pc' := 11) dX12_groups_0.1.2.2.1 rfl ?_
    refine csI3 (pc' := 14) kX12_in vX12_in lk_X12_140 ⟨Nat.le_of_ble_eq_true rfl, Nat.le_of_ble_eq_true rfl⟩ rfl (s_X12_inR hF _ ⟨by omega, by omega⟩ _ ⟨by omega, by omega⟩ _ ⟨by omega, by omega⟩) dX12_groups_0.1.2.2.2 (Nat.le_of_ble_eq_true rfl) rfl ?_
    rintro r11 z11 ⟨hz11, p11⟩; subst z11
    refine zV_if_ne (tgt := 19) (pc' := 17) dX12_groups_0.2.1.1.1 rfl rfl ⟨by omega, by omega⟩ (fun c14 => ?_) (fun c14 => ?_)
    · refine zW_aload_n (pc' := 20) dX12_groups_0.2.1.2.2 rfl rfl ?_
      refine zW_iload_n (pc' := 21) dX12_groups_0.2.2.1.1 rfl rfl ?_
      refine zW_bipush (pc' := 23) dX12_groups_0.2.2.1.2 rfl rfl ?_
      refine cvI2 (pc' := 26) kX12_isKind vX12_isKind lk_X12_383 ⟨Nat.le_of_ble_eq_true rfl, Nat.le_of_ble_eq_true rfl⟩ tb0 vq12 rfl rfl (s_X12_isKind hK hF _ ⟨by omega, by omega⟩ _ ⟨by omega, by omega⟩) dX12_groups_0.2.2.2.1 (Nat.le_of_ble_eq_true rfl) rfl ?_
      rintro r23 z23 ⟨hz23, p23⟩; subst z23
      refine zV_if_ne (tgt := 32) (pc' := 29) dX12_groups_0.2.2.2.2 rfl rfl ⟨by omega, by omega⟩ (fun c26 => ?_) (fun c26 => ?_)
      · refine zW_aload_n (pc' := 33) dX12_groups_1.1.1.2.1 rfl rfl ?_
        refine cvV0 (pc' := 36) kX12_leaves vX12_leaves lk_X12_377 ⟨Nat.le_of_ble_eq_true rfl, Nat.le_of_ble_eq_true rfl⟩ tb0 vq12 rfl rfl (hLw hK hF) dX12_groups_1.1.1.2.2 (Nat.le_of_ble_eq_true rfl) rfl ?_
        rintro r33 h ⟨hF, p33⟩
        have hl : κ 3 (x1 - 1).toNat = 100 := by omega
        have hno : noF (κ 3) (x1 - 1).toNat := (hE (x1 - 1).toNat (by omega)).mpr (by omega)
        have hf0 := (p33.2 (x1 - 1).toNat (by omega)).1 hno
        rw [show (((x1 - 1).toNat : Nat) : Int) = x1 - 1 by omega] at hf0
        have hb0 := PF_b hK hV (x1 - 1).toNat 0 ⟨by omega, by omega⟩
        obtain ⟨d1, -, d3, -⟩ := KRr hK x1.toNat (by omega) (by omega)
        rw [show x1.toNat - 1 = (x1 - 1).toNat by omega, show x1.toNat = (x1 - 1).toNat + 1 by omega] at d1
        have hxn := XN_0 (N := κ 5) d1
        refine zW_aload_n (pc' := 37) dX12_groups_1.1.2.1.1 rfl rfl ?_
        refine zW_iload_n (pc' := 38) dX12_groups_1.1.2.1.2 rfl rfl ?_
        refine cvV1 (pc' := 41) kX12_marksFound vX12_marksFound lk_X12_386 ⟨Nat.le_of_ble_eq_true rfl, Nat.le_of_ble_eq_true rfl⟩ tb0 vq12 rfl rfl (s_X12_marksFoundZ hK hF _ ⟨by omega, by omega, by omega⟩ (PF κ (x1 - 1).toNat 0) h hf0 hb0 Fw.rf) dX12_groups_1.1.2.2.1 (Nat.le_of_ble_eq_true rfl) rfl ?_
        rintro r38 h ⟨hF, d38, p38⟩
        have hmk := p38
        refine zW_aload_n (pc' := 42) dX12_groups_1.1.2.2.2 rfl rfl ?_
        refine zW_iconst (pc' := 43) dX12_groups_1.2.1.1.1 rfl ?_
        refine cvI1 (pc' := 46) kX12_gathers vX12_gathers lk_X12_393 ⟨Nat.le_of_ble_eq_true rfl, Nat.le_of_ble_eq_true rfl⟩ tb0 vq12 rfl rfl (s_X12_gathersZ hK hF _ ⟨by omega, by omega⟩ (mk1 (κ 0 11) (κ 0 12) (dN (κ 0 11) (κ 0 12) (κ 10)) (PF κ (x1 - 1).toNat 0) (κ 5 (κ 4 (x1 - 1).toNat).toNat)) h (fun q hq => by rw [hmk q hq]; exact mk1_b) (fun x y hp => by obtain ⟨p1, p2, p3, p4⟩ := hp; exact hmk _ (by omega)) (fun q hq h0 => by rw [hmk q hq] at h0; exact mk1_in h0) Fw.rf) dX12_groups_1.2.1.1.2 (Nat.le_of_ble_eq_true rfl) rfl ?_
        rintro r43 h ⟨hF, d43, p43⟩
        refine zW_istore_n (ls' := [_, _, _, _, _]) (pc' := 47) dX12_groups_1.2.1.2.1 (by decide) rfl rfl rfl ?_
        refine zW_aload_n (pc' := 48) dX12_groups_1.2.1.2.2 rfl rfl ?_
        refine zW_iload_n (pc' := 49) dX12_groups_1.2.2.1.1 rfl rfl ?_
        refine cvI1 (pc' := 52) kX12_largest vX12_largest lk_X12_397 ⟨Nat.le_of_ble_eq_true rfl, Nat.le_of_ble_eq_true rfl⟩ tb0 vq12 rfl rfl (s_X12_largestZ hF _ ⟨by omega, by omega⟩) dX12_groups_1.2.2.1.2 (Nat.le_of_ble_eq_true rfl) rfl ?_
        rintro r49 z49 ⟨hz49, p49⟩; subst z49
        refine zW_istore (ls' := [_, _, _, _, _]) (pc' := 54) dX12_groups_1.2.2.2.1 (by decide) rfl rfl rfl ?_
        refine zW_iload_n (pc' := 55) dX12_groups_1.2.2.2.2 rfl rfl ?_
        refine zV_if_ne (tgt := 62) (pc' := 58) dX12_groups_2.1.1.1.1 rfl rfl ⟨by omega, by omega⟩ (fun c55 => ?_) (fun c55 => ?_)
        · refine zW_iload (pc' := 64) dX12_groups_2.1.1.2.2 rfl rfl ?_
          refine zW_iconst (pc' := 65) dX12_groups_2.1.2.1.1 rfl ?_
          refine zV_cm_ne (tgt := 72) (pc' := 68) dX12_groups_2.1.2.1.2 rfl rfl ⟨by omega, by omega⟩ ⟨by omega, by omega⟩ (fun c65 => ?_) (fun c65 => ?_)
          · refine zW_aload_n (pc' := 73) dX12_groups_2.2.1.1.2 rfl rfl ?_
            refine zG_ref (pc' := 76) 27 fg_X12_90 tb0 rfl dX12_groups_2.2.1.2 rfl ?_
            refine zW_iload (pc' := 78) dX12_groups_2.2.2.1.1 rfl rfl ?_
            refine zV_ialdI (pc' := 79) hF (by decide) (by decide) tb27 (by omega) dX12_groups_2.2.2.1.2 (by decide) rfl (fun e78 => ?_)
            exact zV_iret rfl dX12_groups_2.2.2.2 ⟨hF, (by unfold grQ; rw [if_pos ⟨by omega, by omega, by omega, by omega⟩, ltV_in ⟨by omega, by omega⟩, if_pos hl, pcV_in ⟨by omega, by omega⟩, nmV_in ⟨by omega, by omega⟩]; rw [hxn]; exact p43.2.2.pl (b := r49) p49.2.2 (fun q => by first | (exfalso; omega) | rfl) (fun q1 q2 => by first | (exfalso; omega) | (rw [if_pos (by omega)])) (fun q1 q2 => by first | (exfalso; omega) | rfl) (fun q1 q2 q3 => by omega))⟩
          · refine zW_iconst (pc' := 69) dX12_groups_2.1.2.2 rfl ?_
            refine zV_goto 79 dX12_groups_2.2.1.1.1 rfl ?_
            exact zV_iret rfl dX12_groups_2.2.2.2 ⟨hF, (by unfold grQ; rw [if_pos ⟨by omega, by omega, by omega, by omega⟩, ltV_in ⟨by omega, by omega⟩, if_pos hl, pcV_in ⟨by omega, by omega⟩, nmV_in ⟨by omega, by omega⟩]; rw [hxn]; exact p43.2.2.pl (b := r49) p49.2.2 (fun q => by first | (exfalso; omega) | rfl) (fun q1 q2 => by first | (exfalso; omega) | (rw [if_pos (by omega)])) (fun q1 q2 => by first | (exfalso; omega) | rfl) (fun q1 q2 q3 => by omega))⟩
        · refine zW_iload_n (pc' := 59) dX12_groups_2.1.1.1.2 rfl rfl ?_
          refine zV_goto 79 dX12_groups_2.1.1.2.1 rfl ?_
          exact zV_iret rfl dX12_groups_2.2.2.2 ⟨hF, (by unfold grQ; rw [if_pos ⟨by omega, by omega, by omega, by omega⟩, ltV_in ⟨by omega, by omega⟩, if_pos hl, pcV_in ⟨by omega, by omega⟩, nmV_in ⟨by omega, by omega⟩]; rw [hxn]; exact p43.2.2.pl (b := r49) p49.2.2 (fun q => by first | (exfalso; omega) | rfl) (fun q1 q2 => by first | (exfalso; omega) | (rw [if_pos (by omega)])) (fun q1 q2 => by first | (exfalso; omega) | rfl) (fun q1 q2 q3 => by omega))⟩
      · refine zW_bipush (pc' := 31) dX12_groups_1.1.1.1.1 rfl rfl ?_
        exact zV_iret rfl dX12_groups_1.1.1.1.2 ⟨hF, (by unfold grQ; rw [if_pos ⟨by omega, by omega, by omega, by omega⟩, ltV_in ⟨by omega, by omega⟩, if_neg (by omega)])⟩
    · refine zW_iconst (pc' := 18) dX12_groups_0.2.1.1.2 rfl ?_
      exact zV_iret rfl dX12_groups_0.2.1.2.1 ⟨hF, (by unfold grQ; rw [if_neg (by omega)])⟩

abbrev q_X11_markFoundZ (b : Bd) (κ : Hp) (x1 : Int) : Int → Hp → Prop := fun r h' => Fr b κ h' ∧ ((ShE (κ 33 0) (κ 33 1) (h' 99) (fun x y => if fnd (κ 33 0) (κ 33 1) (dN (κ 33 0) (κ 33 1) (κ 35)) (PFc κ (x1 - 1).toNat 0) (XNc κ (x1 - 1).toNat 0) x y then 1 else 0)))
set_option maxHeartbeats 4000000 in
set_option maxRecDepth 20000 in
theorem s_X11_markFoundZ {G : Ga} {b : Bd} {κ h : Hp} (hK : KC κ) (hF : Fr b κ h) (x1 : Int) (hx1 : 1 ≤ x1 ∧ x1 ≤ 12 ∧ x1 - κ 41 0 ≤ 0) (hSw : SheetW b) (hV : VOK (κ 34)) (hE : EaOK (LC κ) (κ 41 0)) (hRc : RecW κ) (hno : noF (LC κ) (x1 - 1).toNat) : zM G mX11_markFound yX11_markFound [.inr (.inr 30), .inl x1] h (q_X11_markFoundZ b κ x1) := by
  have f_33_0 := KCw hK
  have f_33_1 := KCh hK
  have f_41_0 := KCm hK
  have main : ∀ N : Nat, (∀ (v3 v4 : Int) (t2 : Nat) (h : Hp), Fr b κ h → (56 ≤ t2 ∧ t2 ≤ 70) → (0 ≤ v3 ∧ v3 ≤ 255) → (0 ≤ v4 ∧ v4 ≤ 16) → (v4 - κ 33 1 ≤ 0) → (ShEu (κ 33 0) (κ 33 1) (h 99) (fun x y => if fnd (κ 33 0) (κ 33 1) (dN (κ 33 0) (κ 33 1) (κ 35)) (PFc κ (x1 - 1).toNat 0) (XNc κ (x1 - 1).toNat 0) x y then 1 else 0) 0 v4) → ((t2 : Int) = 55 + x1) → (v3 = XNc κ (x1 - 1).toNat 0 ∧ 0 ≤ v3 ∧ v3 ≤ 255) → (ShE (κ 33 0) (κ 33 1) (h (71 + (x1 - 1).toNat)) (PFc κ (x1 - 1).toNat 0)) → 7713792 + 13824 * (16 - v4) + 13392 < (N : Int) → zV G mX11_markFound (q_X11_markFoundZ b κ x1) 24 [some (.inr (.inr 30)), some (.inl x1), some (.inr (.inr t2)), some (.inl v3), some (.inl v4), none] [] h) ∧ (∀ (v3 v4 v5 : Int) (t2 : Nat) (h : Hp), Fr b κ h → (56 ≤ t2 ∧ t2 ≤ 70) → (0 ≤ v3 ∧ v3 ≤ 255) → (0 ≤ v4 ∧ v4 ≤ 15) → (v4 - κ 33 1 ≤ -1) → (0 ≤ v5 ∧ v5 ≤ 16) → (v5 - κ 33 0 ≤ 0) → (ShEu (κ 33 0) (κ 33 1) (h 99) (fun x y => if fnd (κ 33 0) (κ 33 1) (dN (κ 33 0) (κ 33 1) (κ 35)) (PFc κ (x1 - 1).toNat 0) (XNc κ (x1 - 1).toNat 0) x y then 1 else 0) v5 v4) → ((t2 : Int) = 55 + x1) → (v3 = XNc κ (x1 - 1).toNat 0 ∧ 0 ≤ v3 ∧ v3 ≤ 255) → (ShE (κ 33 0) (κ 33 1) (h (71 + (x1 - 1).toNat)) (PFc κ (x1 - 1).toNat 0)) → 7713792 + 13824 * (16 - v4) + 9936 + 24 * (16 - v5) + 23 < (N : Int) → zV G mX11_markFound (q_X11_markFoundZ b κ x1) 39 [some (.inr (.inr 30)), some (.inl x1), some (.inr (.inr t2)), some (.inl v3), some (.inl v4), some (.inl v5)] [] h) := by
    intro N
    induction N with
    | zero =>
      refine ⟨?_, ?_⟩
      · intro v3 v4 t2 h hF g0 g1 g2 g3 gc0 gc1 gc2 hf0 hm
        exfalso; omega
      · intro v3 v4 v5 t2 h hF g0 g1 g2 g3 g4 g5 gc0 gc1 gc2 hf0 hm
        exfalso; omega
    | succ N ih =>
      obtain ⟨k24, k39⟩ := ih
      refine ⟨?_, ?_⟩
      · intro v3 v4 t2 h hF g0 g1 g2 g3 gc0 gc1 gc2 hf0 hm
        refine zW_iload (pc' := 26) dX11_markFound_0.2.2.2.2 rfl rfl ?_
        refine zW_aload_n (pc' := 27) dX11_markFound_1.1.1.1.1 rfl rfl ?_
        refine zG_ref (pc' := 30) 33 fg_X11_19 tb30 rfl dX11_markFound_1.1.1.1.2 rfl ?_
        refine zG_key (pc' := 33) hF rfl fg_X11_127 tb33 rfl dX11_markFound_1.1.1.2.1 rfl ?_
        refine zV_cm_ge (tgt := 90) (pc' := 36) dX11_markFound_1.1.1.2.2 rfl rfl ⟨by omega, by omega⟩ ⟨by omega, by omega⟩ (fun c33 => ?_) (fun c33 => ?_)
        · exact zV_vret rfl dX11_markFound_2.2.2.2 ⟨hF, gc0.all (by omega)⟩
        · refine zW_iconst (pc' := 37) dX11_markFound_1.1.2.1.1 rfl ?_
          refine zW_istore (ls' := [_, _, _, _, _, _]) (pc' := 39) dX11_markFound_1.1.2.1.2 (by decide) rfl rfl rfl ?_
          exact k39 _ _ _ _ _ hF (by omega) (by omega) (by omega) (by omega) (by omega) (by omega) (by first | exact hr2 | exact gc0) (by omega) (by omega) hf0 (by omega)
      · intro v3 v4 v5 t2 h hF g0 g1 g2 g3 g4 g5 gc0 gc1 gc2 hf0 hm
        refine zW_iload (pc' := 41) dX11_markFound_1.1.2.2.1 rfl rfl ?_
        refine zW_aload_n (pc' := 42) dX11_markFound_1.1.2.2.2 rfl rfl ?_
        refine zG_ref (pc' := 45) 33 fg_X11_19 tb30 rfl dX11_markFound_1.2.1.1.1 rfl ?_
        refine zG_key (pc' := 48) hF rfl fg_X11_130 tb33 rfl dX11_markFound_1.2.1.1.2 rfl ?_
        refine zV_cm_ge (tgt := 84) (pc' := 51) dX11_markFound_1.2.1.2.1 rfl rfl ⟨by omega, by omega⟩ ⟨by omega, by omega⟩ (fun c48 => ?_) (fun c48 => ?_)
        · refine zW_iinc (ls' := [_, _, _, _, _, _]) (pc' := 87) dX11_markFound_2.2.2.1.1 rfl (by decide) rfl rfl rfl ?_
          refine zV_goto 24 dX11_markFound_2.2.2.1.2 rfl ?_
          refine zV_clr 5 (ls' := [_, _, _, _, _, _]) rfl ?_
          exact k24 _ _ _ _ hF (by omega) (by omega) (by omega) (by omega) (by first | exact gc0.rowx (by omega) | exact ShEu.no) (by omega) (by omega) hf0 (by omega)
        · refine zW_aload_n (pc' := 52) dX11_markFound_1.2.1.2.2 rfl rfl ?_
          refine zG_ref (pc' := 55) 98 fg_X11_67 tb30 rfl dX11_markFound_1.2.2.1.1 rfl ?_
          refine zW_iload (pc' := 57) dX11_markFound_1.2.2.1.2 rfl rfl ?_
          refine zW_iload (pc' := 59) dX11_markFound_1.2.2.2.1 rfl rfl ?_
          refine zW_aload_n (pc' := 60) dX11_markFound_1.2.2.2.2 rfl rfl ?_
          refine zG_ref (pc' := 63) 54 fg_X11_51 tb30 rfl dX11_markFound_2.1.1.1.1 rfl ?_
          refine zG_ref (pc' := 66) 86 fg_X11_231 tb54 rfl dX11_markFound_2.1.1.1.2 rfl ?_
          refine zW_aload_n (pc' := 67) dX11_markFound_2.1.1.2.1 rfl rfl ?_
          refine zW_iload (pc' := 69) dX11_markFound_2.1.1.2.2 rfl rfl ?_
          refine zW_iload (pc' := 71) dX11_markFound_2.1.2.1.1 rfl rfl ?_
          refine zW_iload_n (pc' := 72) dX11_markFound_2.1.2.1.2 rfl rfl ?_
          refine cvI4 (pc' := 75) kX2_isFound vX2_isFound lk_X11_399 ⟨Nat.le_of_ble_eq_true rfl, Nat.le_of_ble_eq_true rfl⟩ tb86 vq2 rfl rfl (s_X2_isFoundZ hK hF _ ⟨by omega, by omega⟩ _ ⟨by omega, by omega, by omega⟩ _ ⟨by omega, by omega, by omega⟩ _ ⟨by omega, by omega⟩ (PFc κ (x1 - 1).toNat 0) (by rw [show t2 + 15 = 71 + (x1 - 1).toNat by omega]; exact hf0) (PFc_b hK hV (x1 - 1).toNat 0 ⟨by omega, by omega⟩)) dX11_markFound_2.1.2.2 (Nat.le_of_ble_eq_true rfl) rfl ?_
          rintro r72 z72 ⟨hz72, p72⟩; subst z72
          refine cvV3 (pc' := 78) kX0_put vX0_put lk_X11_403 ⟨Nat.le_of_ble_eq_true rfl, Nat.le_of_ble_eq_true rfl⟩ tb98 vq0 rfl rfl (s_X0_putZ hK hF _ ⟨by omega, by omega, by omega⟩ _ ⟨by omega, by omega, by omega⟩ _ ⟨by omega, by omega⟩ h rfl) dX11_markFound_2.2.1.1.1 (Nat.le_of_ble_eq_true rfl) rfl ?_
          rintro r75 h ⟨hF, p75⟩
          have hr2 : ShEu (κ 33 0) (κ 33 1) (h 99) (fun x y => if fnd (κ 33 0) (κ 33 1) (dN (κ 33 0) (κ 33 1) (κ 35)) (PFc κ (x1 - 1).toNat 0) (XNc κ (x1 - 1).toNat 0) x y then 1 else 0) (v5 + 1) v4 := by rw [p75]; exact ShEu.nx (by omega) ⟨by omega, by omega, by omega, by omega⟩ gc0 (by omega) (by have z := p72.2.2.trans (fnd_dN (by omega) ⟨by omega, by omega, by omega, by omega⟩); by_cases c : r72 = 1; (rw [c]; exact (if_pos (by rw [← gc2.1]; exact z.mp c)).symm); (rw [show r72 = 0 by omega]; exact (if_neg (fun q => c (z.mpr (by rw [gc2.1]; exact q)))).symm))
          replace hf0 : ShE (κ 33 0) (κ 33 1) (h (71 + (x1 - 1).toNat)) (PFc κ (x1 - 1).toNat 0) := by rw [p75, zfun (by omega)]; exact hf0
          refine zW_iinc (ls' := [_, _, _, _, _, _]) (pc' := 81) dX11_markFound_2.2.1.1.2 rfl (by decide) rfl rfl rfl ?_
          refine zV_goto 39 dX11_markFound_2.2.1.2 rfl ?_
          exact k39 _ _ _ _ _ hF (by omega) (by omega) (by omega) (by omega) (by omega) (by omega) (by first | exact hr2 | exact gc0) (by omega) (by omega) hf0 (by omega)
  refine zM_of [some (.inr (.inr 30)), some (.inl x1), none, none, none, none] 4 rfl rfl (Nat.le_of_ble_eq_true rfl) rfl ?_
  refine zW_aload_n (pc' := 1) dX11_markFound_0.1.1.1.1 rfl rfl ?_
  refine zG_ref (pc' := 4) 54 fg_X11_51 tb30 rfl dX11_markFound_0.1.1.1.2 rfl ?_
  refine zW_iload_n (pc' := 5) dX11_markFound_0.1.1.2.1 rfl rfl ?_
  refine zW_iconst (pc' := 6) dX11_markFound_0.1.1.2.2 rfl ?_
  refine zW_isub (pc' := 7) dX11_markFound_0.1.2.1.1 rfl ?_
  refine cvA1 (pc' := 10) kX1_sheetOf vX1_sheetOf lk_X11_192 ⟨Nat.le_of_ble_eq_true rfl, Nat.le_of_ble_eq_true rfl⟩ tb54 vq1 rfl rfl (hSw hK hF _ ⟨by omega, by omega⟩) dX11_markFound_0.1.2.1.2 (Nat.le_of_ble_eq_true rfl) rfl ?_
  rintro r7 h ⟨hF, p7⟩
  obtain ⟨q7, z7⟩ : ∃ z : Nat, z = r7.toNat := ⟨_, rfl⟩
  rw [← z7]
  have hsh := (p7.2.2 (by omega) (by omega)).2 (x1 - 1).toNat (by omega)
  have hf0 := (hsh.1 hno).1
  rw [show 56 + (x1 - 1).toNat + 15 = 71 + (x1 - 1).toNat by omega] at hf0
  have hq7 := (p7.2.2 (by omega) (by omega)).1
  have hxb : ∀ j : Nat, 0 ≤ XNc κ (x1 - 1).toNat j ∧ XNc κ (x1 - 1).toNat j ≤ 255 := (hRc (x1 - 1).toNat (by omega)).2.2.1
  refine zW_astore_n (ls' := [_, _, _, _, _, _]) (pc' := 11) dX11_markFound_0.1.2.2.1 (by decide) rfl rfl rfl ?_
  refine zW_aload_n (pc' := 12) dX11_markFound_0.1.2.2.2 rfl rfl ?_
  refine zG_ref (pc' := 15) 41 fg_X11_33 tb30 rfl dX11_markFound_0.2.1.1.1 rfl ?_
  refine zW_iload_n (pc' := 16) dX11_markFound_0.2.1.1.2 rfl rfl ?_
  refine zW_iconst (pc' := 17) dX11_markFound_0.2.1.2.1 rfl ?_
  refine cvI2 (pc' := 20) kX7_numberOf vX7_numberOf lk_X11_186 ⟨Nat.le_of_ble_eq_true rfl, Nat.le_of_ble_eq_true rfl⟩ tb41 vq7 rfl rfl (s_X7_numberOfW hK hF _ ⟨by omega, by omega, by omega⟩ _ ⟨by omega, by omega⟩ hxb) dX11_markFound_0.2.1.2.2 (Nat.le_of_ble_eq_true rfl) rfl ?_
  rintro r17 z17 ⟨hz17, p17⟩; subst z17
  have e17_ : r17 = XNc κ (x1 - 1).toNat 0 := p17.2.2
  refine zW_istore_n (ls' := [_, _, _, _, _, _]) (pc' := 21) dX11_markFound_0.2.2.1.1 (by decide) rfl rfl rfl ?_
  refine zW_iconst (pc' := 22) dX11_markFound_0.2.2.1.2 rfl ?_
  refine zW_istore (ls' := [_, _, _, _, _, _]) (pc' := 24) dX11_markFound_0.2.2.2.1 (by decide) rfl rfl rfl ?_
  exact (main 10000000000000000000000000000000000000000).1 _ _ _ _ hF (by omega) (by omega) (by omega) (by omega) (by first | exact gc0.rowx (by omega) | exact ShEu.no) (by omega) (by omega) hf0 (by omega)

abbrev q_X11_groupsZ (b : Bd) (κ : Hp) (x1 : Int) (x2 : Int) : Int → Hp → Prop := fun r h' => Fr b κ h' ∧ ((r = grQ (κ 33 0) (κ 33 1) (κ 33 2) (κ 41 0) (ltV (LC κ) (κ 41 0)) (bhV (LC κ) (κ 41 0)) (pcV (κ 41 0) (PFc κ)) (nmV (κ 41 0) (XNc κ)) (dN (κ 33 0) (κ 33 1) (κ 35)) x1 x2))
set_option maxHeartbeats 4000000 in
set_option maxRecDepth 20000 in
theorem s_X11_groupsZ {G : Ga} {b : Bd} {κ h : Hp} (hK : KC κ) (hF : Fr b κ h) (x1 : Int) (hx1 : rng x1) (x2 : Int) (hx2 : rng x2) (hSw : SheetW b) (hV : VOK (κ 34)) (hE : EaOK (LC κ) (κ 41 0)) (hRc : RecW κ) : zM G mX11_groups yX11_groups [.inr (.inr 30), .inl x1, .inl x2] h (q_X11_groupsZ b κ x1 x2) := by
  have f_33_0 := KCw hK
  have f_33_1 := KCh hK
  have f_33_2 := KCp hK
  have f_41_0 := KCm hK
  unfold rng at hx1
  unfold rng at hx2
  refine zM_of [some (.inr (.inr 30)), some (.inl x1), some (.inl x2)] 0 rfl rfl (Nat.le_of_ble_eq_true rfl) rfl ?_
  refine zW_aload_n (pc' := 1) dX11_groups_0.1.1.1.1 rfl rfl ?_
  refine zG_ref (pc' := 4) 41 fg_X11_33 tb30 rfl dX11_groups_0.1.1.1.2 rfl ?_
  refine zW_iload_n (pc' := 5) dX11_groups_0.1.1.2.1 rfl rfl ?_
  refine cvI1 (pc' := 8) kX7_has vX7_has lk_X11_178 ⟨Nat.le_of_ble_eq_true rfl, Nat.le_of_ble_eq_true rfl⟩ tb41 vq7 rfl rfl (s_X7_has hK hF _ ⟨by omega, by omega⟩) dX11_groups_0.1.1.2.2 (Nat.le_of_ble_eq_true rfl) rfl ?_
  rintro r5 z5 ⟨hz5, p5⟩; subst z5
  refine zV_if_eq (tgt := 19) (pc' := 11) dX11_groups_0.1.2.1.1 rfl rfl ⟨by omega, by omega⟩ (fun c8 => ?_) (fun c8 => ?_)
  · refine zW_iconst (pc' := 20) dX11_groups_0.2.1.1.2 rfl ?_
    exact zV_iret rfl dX11_groups_0.2.1.2.1 ⟨hF, (by unfold grQ; rw [if_neg (by omega)])⟩
  · refine zW_iload_n (pc' := 12) dX11_groups_0.1.2.1.2 rfl rfl ?_
    refine zW_iconst (pc' := 13) dX11_groups_0.1.2.2.1 rfl ?_
    refine csI2 (pc' := 16) kX11_isWithin vX11_isWithin lk_X11_116 ⟨Nat.le_of_ble_eq_true rfl, Nat.le_of_ble_eq_true rfl⟩ rfl (s_X11_isWithinR hF _ ⟨by omega, by omega⟩ _ ⟨by omega, by omega⟩) dX11_groups_0.1.2.2.2 (Nat.le_of_ble_eq_true rfl) rfl ?_
    rintro r13 z13 ⟨hz13, p13⟩; subst z13
    refine zV_if_ne (tgt := 21) (pc' := 19) dX11_groups_0.2.1.1.1 rfl rfl ⟨by omega, by omega⟩ (fun c16 => ?_) (fun c16 => ?_)
    · refine zW_aload_n (pc' := 22) dX11_groups_0.2.1.2.2 rfl rfl ?_
      refine zG_ref (pc' := 25) 41 fg_X11_33 tb30 rfl dX11_groups_0.2.2.1.1 rfl ?_
      refine zW_iload_n (pc' := 26) dX11_groups_0.2.2.1.2 rfl rfl ?_
      refine cvI1 (pc' := 29) kX7_letterOf vX7_letterOf lk_X11_180 ⟨Nat.le_of_ble_eq_true rfl, Nat.le_of_ble_eq_true rfl⟩ tb41 vq7 rfl rfl (s_X7_letterOfZ hK hF _ ⟨by omega, by omega, by omega⟩) dX11_groups_0.2.2.2.1 (Nat.le_of_ble_eq_true rfl) rfl ?_
      rintro r26 z26 ⟨hz26, p26⟩; subst z26
      refine zW_bipush (pc' := 31) dX11_groups_0.2.2.2.2 rfl rfl ?_
      refine zV_cm_eq (tgt := 37) (pc' := 34) dX11_groups_1.1.1.1.1 rfl rfl ⟨by omega, by omega⟩ ⟨by omega, by omega⟩ (fun c31 => ?_) (fun c31 => ?_)
      · have eLC : LC κ (x1 - 1).toNat = κ 42 x1.toNat := (by show κ 42 ((x1 - 1).toNat + 1) = _; rw [show (x1 - 1).toNat + 1 = x1.toNat by omega])
        have hl : LC κ (x1 - 1).toNat = 100 := by omega
        have hno : noF (LC κ) (x1 - 1).toNat := (hE (x1 - 1).toNat (by omega)).mpr (by omega)
        refine zW_aload_n (pc' := 38) dX11_groups_1.1.1.2.2 rfl rfl ?_
        refine zW_iload_n (pc' := 39) dX11_groups_1.1.2.1.1 rfl rfl ?_
        refine cvV1 (pc' := 42) kX11_markFound vX11_markFound lk_X11_205 ⟨Nat.le_of_ble_eq_true rfl, Nat.le_of_ble_eq_true rfl⟩ tb30 vq11 rfl rfl (s_X11_markFoundZ hK hF _ ⟨by omega, by omega, by omega⟩ hSw (by omega) (by omega) (by omega) hno) dX11_groups_1.1.2.1.2 (Nat.le_of_ble_eq_true rfl) rfl ?_
        rintro r39 h ⟨hF, p39⟩
        have hm : ∀ x y : Int, inP (κ 33 0) (κ 33 1) x y → h 99 (16 * y + x).toNat = (mk1 (κ 33 0) (κ 33 1) (dN (κ 33 0) (κ 33 1) (κ 35)) (PFc κ (x1 - 1).toNat 0) (XNc κ (x1 - 1).toNat 0)) (16 * y + x).toNat := fun x y hp => (p39 x y hp).trans (mk1_at (by omega) hp).symm
        refine zW_aload_n (pc' := 43) dX11_groups_1.1.2.2.1 rfl rfl ?_
        refine zG_ref (pc' := 46) 98 fg_X11_67 tb30 rfl dX11_groups_1.1.2.2.2 rfl ?_
        refine zW_iconst (pc' := 47) dX11_groups_1.2.1.1.1 rfl ?_
        refine cvV1 (pc' := 50) kX0_gather vX0_gather lk_X11_221 ⟨Nat.le_of_ble_eq_true rfl, Nat.le_of_ble_eq_true rfl⟩ tb98 vq0 rfl rfl (s_X0_gatherZ hK hF _ ⟨by omega, by omega⟩ (mk1 (κ 33 0) (κ 33 1) (dN (κ 33 0) (κ 33 1) (κ 35)) (PFc κ (x1 - 1).toNat 0) (XNc κ (x1 - 1).toNat 0)) h hm Fw.rf) dX11_groups_1.2.1.1.2 (Nat.le_of_ble_eq_true rfl) rfl ?_
        rintro r47 h ⟨hF, d47, p47⟩
        refine zW_iload_n (pc' := 51) dX11_groups_1.2.1.2.1 rfl rfl ?_
        refine zV_if_ne (tgt := 64) (pc' := 54) dX11_groups_1.2.1.2.2 rfl rfl ⟨by omega, by omega⟩ (fun c51 => ?_) (fun c51 => ?_)
        · refine zW_aload_n (pc' := 65) dX11_groups_2.1.1 rfl rfl ?_
          refine zG_ref (pc' := 68) 98 fg_X11_67 tb30 rfl dX11_groups_2.1.2 rfl ?_
          refine zG_int (pc' := 71) fg_X11_228 tb98 rfl dX11_groups_2.2.1 rfl ?_
          exact zV_iret rfl dX11_groups_2.2.2 ⟨hF, (by unfold grQ; rw [if_pos ⟨by omega, by omega, by omega, by omega⟩, ltV_in ⟨by omega, by omega⟩, if_pos hl, pcV_in ⟨by omega, by omega⟩, nmV_in ⟨by omega, by omega⟩]; exact p47.pl (fun q => by first | (exfalso; omega) | rfl) (fun q => by first | (exfalso; omega) | rfl) (fun q1 q2 => by omega))⟩
        · refine zW_aload_n (pc' := 55) dX11_groups_1.2.2.1.1 rfl rfl ?_
          refine zG_ref (pc' := 58) 98 fg_X11_67 tb30 rfl dX11_groups_1.2.2.1.2 rfl ?_
          refine zG_int (pc' := 61) fg_X11_225 tb98 rfl dX11_groups_1.2.2.2.1 rfl ?_
          refine zV_goto 71 dX11_groups_1.2.2.2.2 rfl ?_
          exact zV_iret rfl dX11_groups_2.2.2 ⟨hF, (by unfold grQ; rw [if_pos ⟨by omega, by omega, by omega, by omega⟩, ltV_in ⟨by omega, by omega⟩, if_pos hl, pcV_in ⟨by omega, by omega⟩, nmV_in ⟨by omega, by omega⟩]; exact p47.pl (fun q => by first | (exfalso; omega) | rfl) (fun q => by first | (exfalso; omega) | rfl) (fun q1 q2 => by omega))⟩
      · refine zW_bipush (pc' := 36) dX11_groups_1.1.1.1.2 rfl rfl ?_
        exact zV_iret rfl dX11_groups_1.1.1.2.1 ⟨hF, (by have eLC : LC κ (x1 - 1).toNat = κ 42 x1.toNat := (by show κ 42 ((x1 - 1).toNat + 1) = _; rw [show (x1 - 1).toNat + 1 = x1.toNat by omega]); unfold grQ; rw [if_pos ⟨by omega, by omega, by omega, by omega⟩, ltV_in ⟨by omega, by omega⟩, if_neg (by rw [eLC]; omega)])⟩
    · refine zW_iconst (pc' := 20) dX11_groups_0.2.1.1.2 rfl ?_
      exact zV_iret rfl dX11_groups_0.2.1.2.1 ⟨hF, (by unfold grQ; rw [if_neg (by omega)])⟩
