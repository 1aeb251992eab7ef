/-! the pyramid -/
def hfN : Nat → Int → Int
  | 0, n => n
  | k + 1, n => (hfN k n + 1) / 2
def upF (g : Int → Int → Int) (w h x y : Int) : Int := (g (2 * x) (2 * y) + (if 2 * x + 1 < w then g (2 * x + 1) (2 * y) else 0) + (if 2 * y + 1 < h then g (2 * x) (2 * y + 1) else 0) + (if 2 * x + 1 < w ∧ 2 * y + 1 < h then g (2 * x + 1) (2 * y + 1) else 0)) / ((if 2 * x + 1 < w then 2 else 1) * (if 2 * y + 1 < h then 2 else 1))
def flo (W H : Int) (F : P3) : Nat → Int → Int → Int
  | 0 => lgt F
  | k + 1 => upF (flo W H F k) (hfN k W) (hfN k H)
theorem hfN_b {n : Int} (h : 1 ≤ n ∧ n ≤ 16) : ∀ k, 1 ≤ hfN k n ∧ hfN k n ≤ 16
  | 0 => h
  | k + 1 => by
    have z := hfN_b h k
    show 1 ≤ (hfN k n + 1) / 2 ∧ (hfN k n + 1) / 2 ≤ 16
    omega
theorem upF_b {w h : Int} {g : Int → Int → Int} (hg : FB w h g) : FB ((w + 1) / 2) ((h + 1) / 2) (upF g w h) := by
  intro x y hp
  obtain ⟨h1, h2, h3, h4⟩ := hp
  have b0 := hg (2 * x) (2 * y) ⟨by omega, by omega, by omega, by omega⟩
  unfold upF
  by_cases c : 2 * x + 1 < w <;> by_cases d : 2 * y + 1 < h
  · have b1 := hg (2 * x + 1) (2 * y) ⟨by omega, by omega, by omega, by omega⟩
    have b2 := hg (2 * x) (2 * y + 1) ⟨by omega, by omega, by omega, by omega⟩
    have b3 := hg (2 * x + 1) (2 * y + 1) ⟨by omega, by omega, by omega, by omega⟩
    rw [if_pos c, if_pos d, if_pos ⟨c, d⟩, if_pos c, if_pos d]; omega
  · have b1 := hg (2 * x + 1) (2 * y) ⟨by omega, by omega, by omega, by omega⟩
    rw [if_pos c, if_neg d, if_neg (fun q => d q.2), if_pos c, if_neg d]; omega
  · have b2 := hg (2 * x) (2 * y + 1) ⟨by omega, by omega, by omega, by omega⟩
    rw [if_neg c, if_pos d, if_neg (fun q => c q.1), if_neg c, if_pos d]; omega
  · rw [if_neg c, if_neg d, if_neg (fun q => c q.1), if_neg c, if_neg d]; omega
theorem flo_b {W H : Int} {F : P3} (hF : FB3 W H F) : ∀ k, FB (hfN k W) (hfN k H) (flo W H F k)
  | 0 => fun x y hp => lgt_b hF hp
  | k + 1 => upF_b (flo_b hF k)
theorem hfN_lt {n x : Int} (h : 0 ≤ x ∧ x < n) : ∀ k : Nat, k ≤ 3 → 0 ≤ x / 2 ^ k ∧ x / 2 ^ k < hfN k n
  | 0, _ => by show 0 ≤ x / 1 ∧ x / 1 < n; omega
  | 1, _ => by show 0 ≤ x / 2 ∧ x / 2 < (n + 1) / 2; omega
  | 2, _ => by show 0 ≤ x / 4 ∧ x / 4 < ((n + 1) / 2 + 1) / 2; omega
  | 3, _ => by show 0 ≤ x / 8 ∧ x / 8 < (((n + 1) / 2 + 1) / 2 + 1) / 2; omega
def tnF (W H : Int) (F : P3) (a b c x y : Int) : Int := flo W H F 3 (x / 8) (y / 8) + ((flo W H F 0 x y - flo W H F 1 (x / 2) (y / 2)) * a).tdiv 16 + ((flo W H F 1 (x / 2) (y / 2) - flo W H F 2 (x / 4) (y / 4)) * b).tdiv 16 + ((flo W H F 2 (x / 4) (y / 4) - flo W H F 3 (x / 8) (y / 8)) * c).tdiv 16
def toF (W H : Int) (F : P3) (a b d : Int) (c x y : Int) : Int := clp (F c x y + (tnF W H F a b d x y - lgt F x y))

abbrev q_X3_buildFloorZ (b : Bd) (κ : Hp) (l1 : Nat) (l2 : Nat) (x3 : Int) (x4 : Int) (g : Int → Int → Int) (gh0 : Hp) : Int → Hp → Prop := fun r h' => Fr b κ h' ∧ ((Fw [l2] [] gh0 h') ∧ (ShE ((x3 + 1) / 2) ((x4 + 1) / 2) (h' l2) (upF g x3 x4)))
set_option maxHeartbeats 4000000 in
set_option maxRecDepth 20000 in
theorem s_X3_buildFloorZ {G : Ga} {b : Bd} {κ h : Hp} (hF : Fr b κ h) (l1 : Nat) (hl1 : 90 ≤ l1 ∧ l1 ≤ 93) (l2 : Nat) (hl2 : 90 ≤ l2 ∧ l2 ≤ 93) (x3 : Int) (hx3 : 1 ≤ x3 ∧ x3 ≤ 16) (x4 : Int) (hx4 : 1 ≤ x4 ∧ x4 ≤ 16) (g : Int → Int → Int) (gh0 : Hp) (hne : l1 ≠ l2) (hg : ShE x3 x4 (h l1) g) (hgb : FB x3 x4 g) (hgh : Fw [l2] [] gh0 h) : zM G mX3_buildFloor yX3_buildFloor [.inr (.inr 87), .inr (.inr l1), .inr (.inr l2), .inl x3, .inl x4] h (q_X3_buildFloorZ b κ l1 l2 x3 x4 g gh0) := by
  have main : ∀ N : Nat, (∀ (v5 : Int) (h : Hp), Fr b κ h → (0 ≤ v5 ∧ v5 ≤ 17) → (ShEu ((x3 + 1) / 2) ((x4 + 1) / 2) (h l2) (upF g x3 x4) 0 (v5 / 2)) → (v5 % 2 = 0) → (ShE x3 x4 (h l1) g) → (Fw [l2] [] gh0 h) → 346379500 + 182305 * (17 - v5) + 180500 < (N : Int) → zV G mX3_buildFloor (q_X3_buildFloorZ b κ l1 l2 x3 x4 g gh0) 3 [some (.inr (.inr 87)), some (.inr (.inr l1)), some (.inr (.inr l2)), some (.inl x3), some (.inl x4), some (.inl v5), none, none, none, none, none] [] h) ∧ (∀ (v5 v6 : Int) (h : Hp), Fr b κ h → (0 ≤ v5 ∧ v5 ≤ 15) → (0 ≤ v6 ∧ v6 ≤ 17) → (ShEu ((x3 + 1) / 2) ((x4 + 1) / 2) (h l2) (upF g x3 x4) (v6 / 2) (v5 / 2)) → (v5 % 2 = 0 ∧ v6 % 2 = 0 ∧ v5 < x4) → (ShE x3 x4 (h l1) g) → (Fw [l2] [] gh0 h) → 346379500 + 182305 * (17 - v5) + 169670 + 95 * (17 - v6) + 94 < (N : Int) → zV G mX3_buildFloor (q_X3_buildFloorZ b κ l1 l2 x3 x4 g gh0) 13 [some (.inr (.inr 87)), some (.inr (.inr l1)), some (.inr (.inr l2)), some (.inl x3), some (.inl x4), some (.inl v5), some (.inl v6), none, none, none, none] [] h) := by
    intro N
    induction N with
    | zero =>
      refine ⟨?_, ?_⟩
      · intro v5 h hF g0 gc0 gc1 hg hgh hm
        exfalso; omega
      · intro v5 v6 h hF g0 g1 gc0 gc1 hg hgh hm
        exfalso; omega
    | succ N ih =>
      obtain ⟨k3, k13⟩ := ih
      refine ⟨?_, ?_⟩
      · intro v5 h hF g0 gc0 gc1 hg hgh hm
        refine zW_iload (pc' := 5) dX3_buildFloor_0.1.1.2.1 rfl rfl ?_
        refine zW_iload (pc' := 7) dX3_buildFloor_0.1.1.2.2 rfl rfl ?_
        refine zV_cm_ge (tgt := 173) (pc' := 10) dX3_buildFloor_0.1.2.1.1 rfl rfl ⟨by omega, by omega⟩ ⟨by omega, by omega⟩ (fun c7 => ?_) (fun c7 => ?_)
        · exact zV_vret rfl dX3_buildFloor_6.2.2 ⟨hF, ⟨hgh, (gc0.all (by omega))⟩⟩
        · refine zW_iconst (pc' := 11) dX3_buildFloor_0.1.2.1.2 rfl ?_
          refine zW_istore (ls' := [_, _, _, _, _, _, _, _, _, _, _]) (pc' := 13) dX3_buildFloor_0.1.2.2.1 (by decide) rfl rfl rfl ?_
          exact k13 _ _ _ hF (by omega) (by omega) (by first | (rw [show (v6 + 2) / 2 = v6 / 2 + 1 by omega]; exact hr2) | exact gc0) (by omega) hg hgh (by omega)
      · intro v5 v6 h hF g0 g1 gc0 gc1 hg hgh hm
        refine zW_iload (pc' := 15) dX3_buildFloor_0.1.2.2.2 rfl rfl ?_
        refine zW_iload_n (pc' := 16) dX3_buildFloor_0.2.1.1.1 rfl rfl ?_
        refine zV_cm_ge (tgt := 167) (pc' := 19) dX3_buildFloor_0.2.1.1.2 rfl rfl ⟨by omega, by omega⟩ ⟨by omega, by omega⟩ (fun c16 => ?_) (fun c16 => ?_)
        · refine zW_iinc (ls' := [_, _, _, _, _, _, _, _, _, _, _]) (pc' := 170) dX3_buildFloor_6.1.2 rfl (by decide) rfl rfl rfl ?_
          refine zV_goto 3 dX3_buildFloor_6.2.1 rfl ?_
          refine zV_clr 6 (ls' := [_, _, _, _, _, _, _, _, _, _, _]) rfl ?_
          exact k3 _ _ hF (by omega) (by first | (rw [show (v5 + 2) / 2 = v5 / 2 + 1 by omega]; exact gc0.rowx (by omega)) | exact ShEu.no) (by omega) hg hgh (by omega)
        · refine zW_iload (pc' := 21) dX3_buildFloor_0.2.1.2.1 rfl rfl ?_
          refine zW_iconst (pc' := 22) dX3_buildFloor_0.2.1.2.2 rfl ?_
          refine zW_iadd (pc' := 23) dX3_buildFloor_0.2.2.1.1 rfl ?_
          refine zW_iload_n (pc' := 24) dX3_buildFloor_0.2.2.1.2 rfl rfl ?_
          refine zV_cm_ge (tgt := 31) (pc' := 27) dX3_buildFloor_0.2.2.2.1 rfl rfl ⟨by omega, by omega⟩ ⟨by omega, by omega⟩ (fun c24 => ?_) (fun c24 => ?_)
          · refine zW_iconst (pc' := 32) dX3_buildFloor_1.1.1.1.2 rfl ?_
            refine zW_istore (ls' := [_, _, _, _, _, _, _, _, _, _, _]) (pc' := 34) dX3_buildFloor_1.1.1.2.1 (by decide) rfl rfl rfl ?_
            refine zW_iload (pc' := 36) dX3_buildFloor_1.1.1.2.2 rfl rfl ?_
            refine zW_iconst (pc' := 37) dX3_buildFloor_1.1.2.1.1 rfl ?_
            refine zW_iadd (pc' := 38) dX3_buildFloor_1.1.2.1.2 rfl ?_
            refine zW_iload (pc' := 40) dX3_buildFloor_1.1.2.2.1 rfl rfl ?_
            refine zV_cm_ge (tgt := 47) (pc' := 43) dX3_buildFloor_1.1.2.2.2 rfl rfl ⟨by omega, by omega⟩ ⟨by omega, by omega⟩ (fun c40 => ?_) (fun c40 => ?_)
            · refine zW_iconst (pc' := 48) dX3_buildFloor_1.2.1.2.1 rfl ?_
              refine zW_istore (ls' := [_, _, _, _, _, _, _, _, _, _, _]) (pc' := 50) dX3_buildFloor_1.2.1.2.2 (by decide) rfl rfl rfl ?_
              refine zW_iload (pc' := 52) dX3_buildFloor_1.2.2.1.1 rfl rfl ?_
              refine zW_bipush (pc' := 54) dX3_buildFloor_1.2.2.1.2 rfl rfl ?_
              refine zW_imul (pc' := 55) dX3_buildFloor_1.2.2.2.1 rfl ?_
              refine zW_iload (pc' := 57) dX3_buildFloor_1.2.2.2.2 rfl rfl ?_
              refine zW_iadd (pc' := 58) dX3_buildFloor_2.1.1.1.1 rfl ?_
              refine zW_istore (ls' := [_, _, _, _, _, _, _, _, _, _, _]) (pc' := 60) dX3_buildFloor_2.1.1.1.2 (by decide) rfl rfl rfl ?_
              refine zW_aload_n (pc' := 61) dX3_buildFloor_2.1.1.2.1 rfl rfl ?_
              refine zW_iload (pc' := 63) dX3_buildFloor_2.1.1.2.2 rfl rfl ?_
              refine zV_iald (pc' := 64) (tabP (by omega) (by omega)) (by omega) dX3_buildFloor_2.1.2.1.1 (by decide) rfl ?_
              have q63 := hg.at (i := v5 * 16 + v6) (x := v6) (y := v5) ⟨by omega, by omega, by omega, by omega⟩ (by omega)
              have b63 := hgb (v6) (v5) ⟨by omega, by omega, by omega, by omega⟩
              rw [← q63] at b63
              refine zW_iload (pc' := 66) dX3_buildFloor_2.1.2.1.2 rfl rfl ?_
              refine zV_if_eq (tgt := 78) (pc' := 69) dX3_buildFloor_2.1.2.2.1 rfl rfl ⟨by omega, by omega⟩ (fun c66 => ?_) (fun c66 => ?_)
              · refine zW_iconst (pc' := 79) dX3_buildFloor_2.2.2.1.2 rfl ?_
                refine zW_iadd (pc' := 80) dX3_buildFloor_2.2.2.2.1 rfl ?_
                refine zW_iload (pc' := 82) dX3_buildFloor_2.2.2.2.2 rfl rfl ?_
                refine zV_if_eq (tgt := 95) (pc' := 85) dX3_buildFloor_3.1.1.1.1 rfl rfl ⟨by omega, by omega⟩ (fun c82 => ?_) (fun c82 => ?_)
                · refine zW_iconst (pc' := 96) dX3_buildFloor_3.1.2.2.2 rfl ?_
                  refine zW_iadd (pc' := 97) dX3_buildFloor_3.2.1.1.1 rfl ?_
                  refine zW_iload (pc' := 99) dX3_buildFloor_3.2.1.1.2 rfl rfl ?_
                  refine zV_if_eq (tgt := 119) (pc' := 102) dX3_buildFloor_3.2.1.2.1 rfl rfl ⟨by omega, by omega⟩ (fun c99 => ?_) (fun c99 => ?_)
                  · refine zW_iconst (pc' := 120) dX3_buildFloor_4.1.2.1.2 rfl ?_
                    refine zW_iadd (pc' := 121) dX3_buildFloor_4.1.2.2.1 rfl ?_
                    refine zW_istore (ls' := [_, _, _, _, _, _, _, _, _, _, _]) (pc' := 123) dX3_buildFloor_4.1.2.2.2 (by decide) rfl rfl rfl ?_
                    refine zW_aload_n (pc' := 124) dX3_buildFloor_4.2.1.1.1 rfl rfl ?_
                    refine zW_iload (pc' := 126) dX3_buildFloor_4.2.1.1.2 rfl rfl ?_
                    refine zW_iconst (pc' := 127) dX3_buildFloor_4.2.1.2.1 rfl ?_
                    refine zW_idiv (pc' := 128) (by omega) (by omega) dX3_buildFloor_4.2.1.2.2 rfl ?_
                    refine zW_bipush (pc' := 130) dX3_buildFloor_4.2.2.1.1 rfl rfl ?_
                    refine zW_imul (pc' := 131) dX3_buildFloor_4.2.2.1.2 rfl ?_
                    refine zW_iload (pc' := 133) dX3_buildFloor_4.2.2.2.1 rfl rfl ?_
                    refine zW_iconst (pc' := 134) dX3_buildFloor_4.2.2.2.2 rfl ?_
                    refine zW_idiv (pc' := 135) (by omega) (by omega) dX3_buildFloor_5.1.1.1.1 rfl ?_
                    refine zW_iadd (pc' := 136) dX3_buildFloor_5.1.1.1.2 rfl ?_
                    refine zW_iload (pc' := 138) dX3_buildFloor_5.1.1.2.1 rfl rfl ?_
                    refine zW_iload (pc' := 140) dX3_buildFloor_5.1.1.2.2 rfl rfl ?_
                    refine zV_if_eq (tgt := 147) (pc' := 143) dX3_buildFloor_5.1.2.1.1 rfl rfl ⟨by omega, by omega⟩ (fun c140 => ?_) (fun c140 => ?_)
                    · refine zW_iconst (pc' := 148) dX3_buildFloor_5.1.2.2.2 rfl ?_
                      refine zW_iload (pc' := 150) dX3_buildFloor_5.2.1.1.1 rfl rfl ?_
                      refine zV_if_eq (tgt := 157) (pc' := 153) dX3_buildFloor_5.2.1.1.2 rfl rfl ⟨by omega, by omega⟩ (fun c150 => ?_) (fun c150 => ?_)
                      · refine zW_iconst (pc' := 158) dX3_buildFloor_5.2.2.1.1 rfl ?_
                        refine zW_imul (pc' := 159) dX3_buildFloor_5.2.2.1.2 rfl ?_
                        refine zW_idiv (pc' := 160) (by omega) (by omega) dX3_buildFloor_5.2.2.2.1 rfl ?_
                        refine zS_i (pc' := 161) hF (scrL (by omega) (by omega)) (tabP (by omega) (by omega)) (by omega) dX3_buildFloor_5.2.2.2.2 (by decide) rfl (fun h i160 hF a160 b160 w160 => ?_)
                        replace b160 := b160 ⟨by omega, by omega⟩
                        replace hgh : Fw [l2] [] gh0 h := by rw [w160]; exact hgh.wc (by simp)
                        replace hg : ShE x3 x4 (h l1) g := by have q0_ := (congrFun w160 l1).trans (zfun (by omega)); rw [q0_]; exact hg
                        have hr2 : ShEu ((x3 + 1) / 2) ((x4 + 1) / 2) (h l2) (upF g x3 x4) (v6 / 2 + 1) (v5 / 2) := by rw [w160, b160]; exact ShEu.nx (by omega) ⟨by omega, by omega, by omega, by omega⟩ gc0 (by omega) (by unfold upF; rw [show 2 * (v6 / 2) = v6 by omega, show 2 * (v5 / 2) = v5 by omega]; first | (rw [if_pos (by omega), if_pos (by omega), if_pos (by omega), if_pos (by omega), if_pos (by omega)]; omega) | (rw [if_pos (by omega), if_neg (by omega), if_neg (by omega), if_pos (by omega), if_neg (by omega)]; omega) | (rw [if_neg (by omega), if_pos (by omega), if_neg (by omega), if_neg (by omega), if_pos (by omega)]; omega) | (rw [if_neg (by omega), if_neg (by omega), if_neg (by omega), if_neg (by omega), if_neg (by omega)]; omega))
                        refine zW_iinc (ls' := [_, _, _, _, _, _, _, _, _, _, _]) (pc' := 164) dX3_buildFloor_6.1.1.1 rfl (by decide) rfl rfl rfl ?_
                        refine zV_goto 13 dX3_buildFloor_6.1.1.2 rfl ?_
                        refine zV_clr 7 (ls' := [_, _, _, _, _, _, _, _, _, _, _]) rfl ?_
                        refine zV_clr 8 (ls' := [_, _, _, _, _, _, _, _, _, _, _]) rfl ?_
                        refine zV_clr 9 (ls' := [_, _, _, _, _, _, _, _, _, _, _]) rfl ?_
                        refine zV_clr 10 (ls' := [_, _, _, _, _, _, _, _, _, _, _]) rfl ?_
                        exact k13 _ _ _ hF (by omega) (by omega) (by first | (rw [show (v6 + 2) / 2 = v6 / 2 + 1 by omega]; exact hr2) | exact gc0) (by omega) hg hgh (by omega)
                      · exfalso; omega
                    · exfalso; omega
                  · exfalso; omega
                · exfalso; omega
              · exfalso; omega
            · refine zW_iconst (pc' := 44) dX3_buildFloor_1.2.1.1.1 rfl ?_
              refine zV_goto 48 dX3_buildFloor_1.2.1.1.2 rfl ?_
              refine zW_istore (ls' := [_, _, _, _, _, _, _, _, _, _, _]) (pc' := 50) dX3_buildFloor_1.2.1.2.2 (by decide) rfl rfl rfl ?_
              refine zW_iload (pc' := 52) dX3_buildFloor_1.2.2.1.1 rfl rfl ?_
              refine zW_bipush (pc' := 54) dX3_buildFloor_1.2.2.1.2 rfl rfl ?_
              refine zW_imul (pc' := 55) dX3_buildFloor_1.2.2.2.1 rfl ?_
              refine zW_iload (pc' := 57) dX3_buildFloor_1.2.2.2.2 rfl rfl ?_
              refine zW_iadd (pc' := 58) dX3_buildFloor_2.1.1.1.1 rfl ?_
              refine zW_istore (ls' := [_, _, _, _, _, _, _, _, _, _, _]) (pc' := 60) dX3_buildFloor_2.1.1.1.2 (by decide) rfl rfl rfl ?_
              refine zW_aload_n (pc' := 61) dX3_buildFloor_2.1.1.2.1 rfl rfl ?_
              refine zW_iload (pc' := 63) dX3_buildFloor_2.1.1.2.2 rfl rfl ?_
              refine zV_iald (pc' := 64) (tabP (by omega) (by omega)) (by omega) dX3_buildFloor_2.1.2.1.1 (by decide) rfl ?_
              have q63 := hg.at (i := v5 * 16 + v6) (x := v6) (y := v5) ⟨by omega, by omega, by omega, by omega⟩ (by omega)
              have b63 := hgb (v6) (v5) ⟨by omega, by omega, by omega, by omega⟩
              rw [← q63] at b63
              refine zW_iload (pc' := 66) dX3_buildFloor_2.1.2.1.2 rfl rfl ?_
              refine zV_if_eq (tgt := 78) (pc' := 69) dX3_buildFloor_2.1.2.2.1 rfl rfl ⟨by omega, by omega⟩ (fun c66 => ?_) (fun c66 => ?_)
              · refine zW_iconst (pc' := 79) dX3_buildFloor_2.2.2.1.2 rfl ?_
                refine zW_iadd (pc' := 80) dX3_buildFloor_2.2.2.2.1 rfl ?_
                refine zW_iload (pc' := 82) dX3_buildFloor_2.2.2.2.2 rfl rfl ?_
                refine zV_if_eq (tgt := 95) (pc' := 85) dX3_buildFloor_3.1.1.1.1 rfl rfl ⟨by omega, by omega⟩ (fun c82 => ?_) (fun c82 => ?_)
                · exfalso; omega
                · refine zW_aload_n (pc' := 86) dX3_buildFloor_3.1.1.1.2 rfl rfl ?_
                  refine zW_iload (pc' := 88) dX3_buildFloor_3.1.1.2.1 rfl rfl ?_
                  refine zW_bipush (pc' := 90) dX3_buildFloor_3.1.1.2.2 rfl rfl ?_
                  refine zW_iadd (pc' := 91) dX3_buildFloor_3.1.2.1.1 rfl ?_
                  refine zV_iald (pc' := 92) (tabP (by omega) (by omega)) (by omega) dX3_buildFloor_3.1.2.1.2 (by decide) rfl ?_
                  have q91 := hg.at (i := v5 * 16 + v6 + 16) (x := v6) (y := v5 + 1) ⟨by omega, by omega, by omega, by omega⟩ (by omega)
                  have b91 := hgb (v6) (v5 + 1) ⟨by omega, by omega, by omega, by omega⟩
                  rw [← q91] at b91
                  refine zV_goto 96 dX3_buildFloor_3.1.2.2.1 rfl ?_
                  refine zW_iadd (pc' := 97) dX3_buildFloor_3.2.1.1.1 rfl ?_
                  refine zW_iload (pc' := 99) dX3_buildFloor_3.2.1.1.2 rfl rfl ?_
                  refine zV_if_eq (tgt := 119) (pc' := 102) dX3_buildFloor_3.2.1.2.1 rfl rfl ⟨by omega, by omega⟩ (fun c99 => ?_) (fun c99 => ?_)
                  · refine zW_iconst (pc' := 120) dX3_buildFloor_4.1.2.1.2 rfl ?_
                    refine zW_iadd (pc' := 121) dX3_buildFloor_4.1.2.2.1 rfl ?_
                    refine zW_istore (ls' := [_, _, _, _, _, _, _, _, _, _, _]) (pc' := 123) dX3_buildFloor_4.1.2.2.2 (by decide) rfl rfl rfl ?_
                    refine zW_aload_n (pc' := 124) dX3_buildFloor_4.2.1.1.1 rfl rfl ?_
                    refine zW_iload (pc' := 126) dX3_buildFloor_4.2.1.1.2 rfl rfl ?_
                    refine zW_iconst (pc' := 127) dX3_buildFloor_4.2.1.2.1 rfl ?_
                    refine zW_idiv (pc' := 128) (by omega) (by omega) dX3_buildFloor_4.2.1.2.2 rfl ?_
                    refine zW_bipush (pc' := 130) dX3_buildFloor_4.2.2.1.1 rfl rfl ?_
                    refine zW_imul (pc' := 131) dX3_buildFloor_4.2.2.1.2 rfl ?_
                    refine zW_iload (pc' := 133) dX3_buildFloor_4.2.2.2.1 rfl rfl ?_
                    refine zW_iconst (pc' := 134) dX3_buildFloor_4.2.2.2.2 rfl ?_
                    refine zW_idiv (pc' := 135) (by omega) (by omega) dX3_buildFloor_5.1.1.1.1 rfl ?_
                    refine zW_iadd (pc' := 136) dX3_buildFloor_5.1.1.1.2 rfl ?_
                    refine zW_iload (pc' := 138) dX3_buildFloor_5.1.1.2.1 rfl rfl ?_
                    refine zW_iload (pc' := 140) dX3_buildFloor_5.1.1.2.2 rfl rfl ?_
                    refine zV_if_eq (tgt := 147) (pc' := 143) dX3_buildFloor_5.1.2.1.1 rfl rfl ⟨by omega, by omega⟩ (fun c140 => ?_) (fun c140 => ?_)
                    · refine zW_iconst (pc' := 148) dX3_buildFloor_5.1.2.2.2 rfl ?_
                      refine zW_iload (pc' := 150) dX3_buildFloor_5.2.1.1.1 rfl rfl ?_
                      refine zV_if_eq (tgt := 157) (pc' := 153) dX3_buildFloor_5.2.1.1.2 rfl rfl ⟨by omega, by omega⟩ (fun c150 => ?_) (fun c150 => ?_)
                      · exfalso; omega
                      · refine zW_iconst (pc' := 154) dX3_buildFloor_5.2.1.2.1 rfl ?_
                        refine zV_goto 158 dX3_buildFloor_5.2.1.2.2 rfl ?_
                        refine zW_imul (pc' := 159) dX3_buildFloor_5.2.2.1.2 rfl ?_
                        refine zW_idiv (pc' := 160) (by omega) (by omega) dX3_buildFloor_5.2.2.2.1 rfl ?_
                        refine zS_i (pc' := 161) hF (scrL (by omega) (by omega)) (tabP (by omega) (by omega)) (by omega) dX3_buildFloor_5.2.2.2.2 (by decide) rfl (fun h i160 hF a160 b160 w160 => ?_)
                        replace b160 := b160 ⟨by omega, by omega⟩
                        replace hgh : Fw [l2] [] gh0 h := by rw [w160]; exact hgh.wc (by simp)
                        replace hg : ShE x3 x4 (h l1) g := by have q0_ := (congrFun w160 l1).trans (zfun (by omega)); rw [q0_]; exact hg
                        have hr2 : ShEu ((x3 + 1) / 2) ((x4 + 1) / 2) (h l2) (upF g x3 x4) (v6 / 2 + 1) (v5 / 2) := by rw [w160, b160]; exact ShEu.nx (by omega) ⟨by omega, by omega, by omega, by omega⟩ gc0 (by omega) (by unfold upF; rw [show 2 * (v6 / 2) = v6 by omega, show 2 * (v5 / 2) = v5 by omega]; first | (rw [if_pos (by omega), if_pos (by omega), if_pos (by omega), if_pos (by omega), if_pos (by omega)]; omega) | (rw [if_pos (by omega), if_neg (by omega), if_neg (by omega), if_pos (by omega), if_neg (by omega)]; omega) | (rw [if_neg (by omega), if_pos (by omega), if_neg (by omega), if_neg (by omega), if_pos (by omega)]; omega) | (rw [if_neg (by omega), if_neg (by omega), if_neg (by omega), if_neg (by omega), if_neg (by omega)]; omega))
                        refine zW_iinc (ls' := [_, _, _, _, _, _, _, _, _, _, _]) (pc' := 164) dX3_buildFloor_6.1.1.1 rfl (by decide) rfl rfl rfl ?_
                        refine zV_goto 13 dX3_buildFloor_6.1.1.2 rfl ?_
                        refine zV_clr 7 (ls' := [_, _, _, _, _, _, _, _, _, _, _]) rfl ?_
                        refine zV_clr 8 (ls' := [_, _, _, _, _, _, _, _, _, _, _]) rfl ?_
                        refine zV_clr 9 (ls' := [_, _, _, _, _, _, _, _, _, _, _]) rfl ?_
                        refine zV_clr 10 (ls' := [_, _, _, _, _, _, _, _, _, _, _]) rfl ?_
                        exact k13 _ _ _ hF (by omega) (by omega) (by first | (rw [show (v6 + 2) / 2 = v6 / 2 + 1 by omega]; exact hr2) | exact gc0) (by omega) hg hgh (by omega)
                    · exfalso; omega
                  · exfalso; omega
              · exfalso; omega
          · refine zW_iconst (pc' := 28) dX3_buildFloor_0.2.2.2.2 rfl ?_
            refine zV_goto 32 dX3_buildFloor_1.1.1.1.1 rfl ?_
            refine zW_istore (ls' := [_, _, _, _, _, _, _, _, _, _, _]) (pc' := 34) dX3_buildFloor_1.1.1.2.1 (by decide) rfl rfl rfl ?_
            refine zW_iload (pc' := 36) dX3_buildFloor_1.1.1.2.2 rfl rfl ?_
            refine zW_iconst (pc' := 37) dX3_buildFloor_1.1.2.1.1 rfl ?_
            refine zW_iadd (pc' := 38) dX3_buildFloor_1.1.2.1.2 rfl ?_
            refine zW_iload (pc' := 40) dX3_buildFloor_1.1.2.2.1 rfl rfl ?_
            refine zV_cm_ge (tgt := 47) (pc' := 43) dX3_buildFloor_1.1.2.2.2 rfl rfl ⟨by omega, by omega⟩ ⟨by omega, by omega⟩ (fun c40 => ?_) (fun c40 => ?_)
            · refine zW_iconst (pc' := 48) dX3_buildFloor_1.2.1.2.1 rfl ?_
              refine zW_istore (ls' := [_, _, _, _, _, _, _, _, _, _, _]) (pc' := 50) dX3_buildFloor_1.2.1.2.2 (by decide) rfl rfl rfl ?_
              refine zW_iload (pc' := 52) dX3_buildFloor_1.2.2.1.1 rfl rfl ?_
              refine zW_bipush (pc' := 54) dX3_buildFloor_1.2.2.1.2 rfl rfl ?_
              refine zW_imul (pc' := 55) dX3_buildFloor_1.2.2.2.1 rfl ?_
              refine zW_iload (pc' := 57) dX3_buildFloor_1.2.2.2.2 rfl rfl ?_
              refine zW_iadd (pc' := 58) dX3_buildFloor_2.1.1.1.1 rfl ?_
              refine zW_istore (ls' := [_, _, _, _, _, _, _, _, _, _, _]) (pc' := 60) dX3_buildFloor_2.1.1.1.2 (by decide) rfl rfl rfl ?_
              refine zW_aload_n (pc' := 61) dX3_buildFloor_2.1.1.2.1 rfl rfl ?_
              refine zW_iload (pc' := 63) dX3_buildFloor_2.1.1.2.2 rfl rfl ?_
              refine zV_iald (pc' := 64) (tabP (by omega) (by omega)) (by omega) dX3_buildFloor_2.1.2.1.1 (by decide) rfl ?_
              have q63 := hg.at (i := v5 * 16 + v6) (x := v6) (y := v5) ⟨by omega, by omega, by omega, by omega⟩ (by omega)
              have b63 := hgb (v6) (v5) ⟨by omega, by omega, by omega, by omega⟩
              rw [← q63] at b63
              refine zW_iload (pc' := 66) dX3_buildFloor_2.1.2.1.2 rfl rfl ?_
              refine zV_if_eq (tgt := 78) (pc' := 69) dX3_buildFloor_2.1.2.2.1 rfl rfl ⟨by omega, by omega⟩ (fun c66 => ?_) (fun c66 => ?_)
              · exfalso; omega
              · refine zW_aload_n (pc' := 70) dX3_buildFloor_2.1.2.2.2 rfl rfl ?_
                refine zW_iload (pc' := 72) dX3_buildFloor_2.2.1.1.1 rfl rfl ?_
                refine zW_iconst (pc' := 73) dX3_buildFloor_2.2.1.1.2 rfl ?_
                refine zW_iadd (pc' := 74) dX3_buildFloor_2.2.1.2.1 rfl ?_
                refine zV_iald (pc' := 75) (tabP (by omega) (by omega)) (by omega) dX3_buildFloor_2.2.1.2.2 (by decide) rfl ?_
                have q74 := hg.at (i := v5 * 16 + v6 + 1) (x := v6 + 1) (y := v5) ⟨by omega, by omega, by omega, by omega⟩ (by omega)
                have b74 := hgb (v6 + 1) (v5) ⟨by omega, by omega, by omega, by omega⟩
                rw [← q74] at b74
                refine zV_goto 79 dX3_buildFloor_2.2.2.1.1 rfl ?_
                refine zW_iadd (pc' := 80) dX3_buildFloor_2.2.2.2.1 rfl ?_
                refine zW_iload (pc' := 82) dX3_buildFloor_2.2.2.2.2 rfl rfl ?_
                refine zV_if_eq (tgt := 95) (pc' := 85) dX3_buildFloor_3.1.1.1.1 rfl rfl ⟨by omega, by omega⟩ (fun c82 => ?_) (fun c82 => ?_)
                · refine zW_iconst (pc' := 96) dX3_buildFloor_3.1.2.2.2 rfl ?_
                  refine zW_iadd (pc' := 97) dX3_buildFloor_3.2.1.1.1 rfl ?_
                  refine zW_iload (pc' := 99) dX3_buildFloor_3.2.1.1.2 rfl rfl ?_
                  refine zV_if_eq (tgt := 119) (pc' := 102) dX3_buildFloor_3.2.1.2.1 rfl rfl ⟨by omega, by omega⟩ (fun c99 => ?_) (fun c99 => ?_)
                  · exfalso; omega
                  · refine zW_iload (pc' := 104) dX3_buildFloor_3.2.1.2.2 rfl rfl ?_
                    refine zV_if_eq (tgt := 119) (pc' := 107) dX3_buildFloor_3.2.2.1.1 rfl rfl ⟨by omega, by omega⟩ (fun c104 => ?_) (fun c104 => ?_)
                    · refine zW_iconst (pc' := 120) dX3_buildFloor_4.1.2.1.2 rfl ?_
                      refine zW_iadd (pc' := 121) dX3_buildFloor_4.1.2.2.1 rfl ?_
                      refine zW_istore (ls' := [_, _, _, _, _, _, _, _, _, _, _]) (pc' := 123) dX3_buildFloor_4.1.2.2.2 (by decide) rfl rfl rfl ?_
                      refine zW_aload_n (pc' := 124) dX3_buildFloor_4.2.1.1.1 rfl rfl ?_
                      refine zW_iload (pc' := 126) dX3_buildFloor_4.2.1.1.2 rfl rfl ?_
                      refine zW_iconst (pc' := 127) dX3_buildFloor_4.2.1.2.1 rfl ?_
                      refine zW_idiv (pc' := 128) (by omega) (by omega) dX3_buildFloor_4.2.1.2.2 rfl ?_
                      refine zW_bipush (pc' := 130) dX3_buildFloor_4.2.2.1.1 rfl rfl ?_
                      refine zW_imul (pc' := 131) dX3_buildFloor_4.2.2.1.2 rfl ?_
                      refine zW_iload (pc' := 133) dX3_buildFloor_4.2.2.2.1 rfl rfl ?_
                      refine zW_iconst (pc' := 134) dX3_buildFloor_4.2.2.2.2 rfl ?_
                      refine zW_idiv (pc' := 135) (by omega) (by omega) dX3_buildFloor_5.1.1.1.1 rfl ?_
                      refine zW_iadd (pc' := 136) dX3_buildFloor_5.1.1.1.2 rfl ?_
                      refine zW_iload (pc' := 138) dX3_buildFloor_5.1.1.2.1 rfl rfl ?_
                      refine zW_iload (pc' := 140) dX3_buildFloor_5.1.1.2.2 rfl rfl ?_
                      refine zV_if_eq (tgt := 147) (pc' := 143) dX3_buildFloor_5.1.2.1.1 rfl rfl ⟨by omega, by omega⟩ (fun c140 => ?_) (fun c140 => ?_)
                      · exfalso; omega
                      · refine zW_iconst (pc' := 144) dX3_buildFloor_5.1.2.1.2 rfl ?_
                        refine zV_goto 148 dX3_buildFloor_5.1.2.2.1 rfl ?_
                        refine zW_iload (pc' := 150) dX3_buildFloor_5.2.1.1.1 rfl rfl ?_
                        refine zV_if_eq (tgt := 157) (pc' := 153) dX3_buildFloor_5.2.1.1.2 rfl rfl ⟨by omega, by omega⟩ (fun c150 => ?_) (fun c150 => ?_)
                        · refine zW_iconst (pc' := 158) dX3_buildFloor_5.2.2.1.1 rfl ?_
                          refine zW_imul (pc' := 159) dX3_buildFloor_5.2.2.1.2 rfl ?_
                          refine zW_idiv (pc' := 160) (by omega) (by omega) dX3_buildFloor_5.2.2.2.1 rfl ?_
                          refine zS_i (pc' := 161) hF (scrL (by omega) (by omega)) (tabP (by omega) (by omega)) (by omega) dX3_buildFloor_5.2.2.2.2 (by decide) rfl (fun h i160 hF a160 b160 w160 => ?_)
                          replace b160 := b160 ⟨by omega, by omega⟩
                          replace hgh : Fw [l2] [] gh0 h := by rw [w160]; exact hgh.wc (by simp)
                          replace hg : ShE x3 x4 (h l1) g := by have q0_ := (congrFun w160 l1).trans (zfun (by omega)); rw [q0_]; exact hg
                          have hr2 : ShEu ((x3 + 1) / 2) ((x4 + 1) / 2) (h l2) (upF g x3 x4) (v6 / 2 + 1) (v5 / 2) := by rw [w160, b160]; exact ShEu.nx (by omega) ⟨by omega, by omega, by omega, by omega⟩ gc0 (by omega) (by unfold upF; rw [show 2 * (v6 / 2) = v6 by omega, show 2 * (v5 / 2) = v5 by omega]; first | (rw [if_pos (by omega), if_pos (by omega), if_pos (by omega), if_pos (by omega), if_pos (by omega)]; omega) | (rw [if_pos (by omega), if_neg (by omega), if_neg (by omega), if_pos (by omega), if_neg (by omega)]; omega) | (rw [if_neg (by omega), if_pos (by omega), if_neg (by omega), if_neg (by omega), if_pos (by omega)]; omega) | (rw [if_neg (by omega), if_neg (by omega), if_neg (by omega), if_neg (by omega), if_neg (by omega)]; omega))
                          refine zW_iinc (ls' := [_, _, _, _, _, _, _, _, _, _, _]) (pc' := 164) dX3_buildFloor_6.1.1.1 rfl (by decide) rfl rfl rfl ?_
                          refine zV_goto 13 dX3_buildFloor_6.1.1.2 rfl ?_
                          refine zV_clr 7 (ls' := [_, _, _, _, _, _, _, _, _, _, _]) rfl ?_
                          refine zV_clr 8 (ls' := [_, _, _, _, _, _, _, _, _, _, _]) rfl ?_
                          refine zV_clr 9 (ls' := [_, _, _, _, _, _, _, _, _, _, _]) rfl ?_
                          refine zV_clr 10 (ls' := [_, _, _, _, _, _, _, _, _, _, _]) rfl ?_
                          exact k13 _ _ _ hF (by omega) (by omega) (by first | (rw [show (v6 + 2) / 2 = v6 / 2 + 1 by omega]; exact hr2) | exact gc0) (by omega) hg hgh (by omega)
                        · exfalso; omega
                    · exfalso; omega
                · exfalso; omega
            · refine zW_iconst (pc' := 44) dX3_buildFloor_1.2.1.1.1 rfl ?_
              refine zV_goto 48 dX3_buildFloor_1.2.1.1.2 rfl ?_
              refine zW_istore (ls' := [_, _, _, _, _, _, _, _, _, _, _]) (pc' := 50) dX3_buildFloor_1.2.1.2.2 (by decide) rfl rfl rfl ?_
              refine zW_iload (pc' := 52) dX3_buildFloor_1.2.2.1.1 rfl rfl ?_
              refine zW_bipush (pc' := 54) dX3_buildFloor_1.2.2.1.2 rfl rfl ?_
              refine zW_imul (pc' := 55) dX3_buildFloor_1.2.2.2.1 rfl ?_
              refine zW_iload (pc' := 57) dX3_buildFloor_1.2.2.2.2 rfl rfl ?_
              refine zW_iadd (pc' := 58) dX3_buildFloor_2.1.1.1.1 rfl ?_
              refine zW_istore (ls' := [_, _, _, _, _, _, _, _, _, _, _]) (pc' := 60) dX3_buildFloor_2.1.1.1.2 (by decide) rfl rfl rfl ?_
              refine zW_aload_n (pc' := 61) dX3_buildFloor_2.1.1.2.1 rfl rfl ?_
              refine zW_iload (pc' := 63) dX3_buildFloor_2.1.1.2.2 rfl rfl ?_
              refine zV_iald (pc' := 64) (tabP (by omega) (by omega)) (by omega) dX3_buildFloor_2.1.2.1.1 (by decide) rfl ?_
              have q63 := hg.at (i := v5 * 16 + v6) (x := v6) (y := v5) ⟨by omega, by omega, by omega, by omega⟩ (by omega)
              have b63 := hgb (v6) (v5) ⟨by omega, by omega, by omega, by omega⟩
              rw [← q63] at b63
              refine zW_iload (pc' := 66) dX3_buildFloor_2.1.2.1.2 rfl rfl ?_
              refine zV_if_eq (tgt := 78) (pc' := 69) dX3_buildFloor_2.1.2.2.1 rfl rfl ⟨by omega, by omega⟩ (fun c66 => ?_) (fun c66 => ?_)
              · exfalso; omega
              · refine zW_aload_n (pc' := 70) dX3_buildFloor_2.1.2.2.2 rfl rfl ?_
                refine zW_iload (pc' := 72) dX3_buildFloor_2.2.1.1.1 rfl rfl ?_
                refine zW_iconst (pc' := 73) dX3_buildFloor_2.2.1.1.2 rfl ?_
                refine zW_iadd (pc' := 74) dX3_buildFloor_2.2.1.2.1 rfl ?_
                refine zV_iald (pc' := 75) (tabP (by omega) (by omega)) (by omega) dX3_buildFloor_2.2.1.2.2 (by decide) rfl ?_
                have q74 := hg.at (i := v5 * 16 + v6 + 1) (x := v6 + 1) (y := v5) ⟨by omega, by omega, by omega, by omega⟩ (by omega)
                have b74 := hgb (v6 + 1) (v5) ⟨by omega, by omega, by omega, by omega⟩
                rw [← q74] at b74
                refine zV_goto 79 dX3_buildFloor_2.2.2.1.1 rfl ?_
                refine zW_iadd (pc' := 80) dX3_buildFloor_2.2.2.2.1 rfl ?_
                refine zW_iload (pc' := 82) dX3_buildFloor_2.2.2.2.2 rfl rfl ?_
                refine zV_if_eq (tgt := 95) (pc' := 85) dX3_buildFloor_3.1.1.1.1 rfl rfl ⟨by omega, by omega⟩ (fun c82 => ?_) (fun c82 => ?_)
                · exfalso; omega
                · refine zW_aload_n (pc' := 86) dX3_buildFloor_3.1.1.1.2 rfl rfl ?_
                  refine zW_iload (pc' := 88) dX3_buildFloor_3.1.1.2.1 rfl rfl ?_
                  refine zW_bipush (pc' := 90) dX3_buildFloor_3.1.1.2.2 rfl rfl ?_
                  refine zW_iadd (pc' := 91) dX3_buildFloor_3.1.2.1.1 rfl ?_
                  refine zV_iald (pc' := 92) (tabP (by omega) (by omega)) (by omega) dX3_buildFloor_3.1.2.1.2 (by decide) rfl ?_
                  have q91 := hg.at (i := v5 * 16 + v6 + 16) (x := v6) (y := v5 + 1) ⟨by omega, by omega, by omega, by omega⟩ (by omega)
                  have b91 := hgb (v6) (v5 + 1) ⟨by omega, by omega, by omega, by omega⟩
                  rw [← q91] at b91
                  refine zV_goto 96 dX3_buildFloor_3.1.2.2.1 rfl ?_
                  refine zW_iadd (pc' := 97) dX3_buildFloor_3.2.1.1.1 rfl ?_
                  refine zW_iload (pc' := 99) dX3_buildFloor_3.2.1.1.2 rfl rfl ?_
                  refine zV_if_eq (tgt := 119) (pc' := 102) dX3_buildFloor_3.2.1.2.1 rfl rfl ⟨by omega, by omega⟩ (fun c99 => ?_) (fun c99 => ?_)
                  · exfalso; omega
                  · refine zW_iload (pc' := 104) dX3_buildFloor_3.2.1.2.2 rfl rfl ?_
                    refine zV_if_eq (tgt := 119) (pc' := 107) dX3_buildFloor_3.2.2.1.1 rfl rfl ⟨by omega, by omega⟩ (fun c104 => ?_) (fun c104 => ?_)
                    · exfalso; omega
                    · refine zW_aload_n (pc' := 108) dX3_buildFloor_3.2.2.1.2 rfl rfl ?_
                      refine zW_iload (pc' := 110) dX3_buildFloor_3.2.2.2.1 rfl rfl ?_
                      refine zW_bipush (pc' := 112) dX3_buildFloor_3.2.2.2.2 rfl rfl ?_
                      refine zW_iadd (pc' := 113) dX3_buildFloor_4.1.1.1.1 rfl ?_
                      refine zW_iconst (pc' := 114) dX3_buildFloor_4.1.1.1.2 rfl ?_
                      refine zW_iadd (pc' := 115) dX3_buildFloor_4.1.1.2.1 rfl ?_
                      refine zV_iald (pc' := 116) (tabP (by omega) (by omega)) (by omega) dX3_buildFloor_4.1.1.2.2 (by decide) rfl ?_
                      have q115 := hg.at (i := v5 * 16 + v6 + 16 + 1) (x := v6 + 1) (y := v5 + 1) ⟨by omega, by omega, by omega, by omega⟩ (by omega)
                      have b115 := hgb (v6 + 1) (v5 + 1) ⟨by omega, by omega, by omega, by omega⟩
                      rw [← q115] at b115
                      refine zV_goto 120 dX3_buildFloor_4.1.2.1.1 rfl ?_
                      refine zW_iadd (pc' := 121) dX3_buildFloor_4.1.2.2.1 rfl ?_
                      refine zW_istore (ls' := [_, _, _, _, _, _, _, _, _, _, _]) (pc' := 123) dX3_buildFloor_4.1.2.2.2 (by decide) rfl rfl rfl ?_
                      refine zW_aload_n (pc' := 124) dX3_buildFloor_4.2.1.1.1 rfl rfl ?_
                      refine zW_iload (pc' := 126) dX3_buildFloor_4.2.1.1.2 rfl rfl ?_
                      refine zW_iconst (pc' := 127) dX3_buildFloor_4.2.1.2.1 rfl ?_
                      refine zW_idiv (pc' := 128) (by omega) (by omega) dX3_buildFloor_4.2.1.2.2 rfl ?_
                      refine zW_bipush (pc' := 130) dX3_buildFloor_4.2.2.1.1 rfl rfl ?_
                      refine zW_imul (pc' := 131) dX3_buildFloor_4.2.2.1.2 rfl ?_
                      refine zW_iload (pc' := 133) dX3_buildFloor_4.2.2.2.1 rfl rfl ?_
                      refine zW_iconst (pc' := 134) dX3_buildFloor_4.2.2.2.2 rfl ?_
                      refine zW_idiv (pc' := 135) (by omega) (by omega) dX3_buildFloor_5.1.1.1.1 rfl ?_
                      refine zW_iadd (pc' := 136) dX3_buildFloor_5.1.1.1.2 rfl ?_
                      refine zW_iload (pc' := 138) dX3_buildFloor_5.1.1.2.1 rfl rfl ?_
                      refine zW_iload (pc' := 140) dX3_buildFloor_5.1.1.2.2 rfl rfl ?_
                      refine zV_if_eq (tgt := 147) (pc' := 143) dX3_buildFloor_5.1.2.1.1 rfl rfl ⟨by omega, by omega⟩ (fun c140 => ?_) (fun c140 => ?_)
                      · exfalso; omega
                      · refine zW_iconst (pc' := 144) dX3_buildFloor_5.1.2.1.2 rfl ?_
                        refine zV_goto 148 dX3_buildFloor_5.1.2.2.1 rfl ?_
                        refine zW_iload (pc' := 150) dX3_buildFloor_5.2.1.1.1 rfl rfl ?_
                        refine zV_if_eq (tgt := 157) (pc' := 153) dX3_buildFloor_5.2.1.1.2 rfl rfl ⟨by omega, by omega⟩ (fun c150 => ?_) (fun c150 => ?_)
                        · exfalso; omega
                        · refine zW_iconst (pc' := 154) dX3_buildFloor_5.2.1.2.1 rfl ?_
                          refine zV_goto 158 dX3_buildFloor_5.2.1.2.2 rfl ?_
                          refine zW_imul (pc' := 159) dX3_buildFloor_5.2.2.1.2 rfl ?_
                          refine zW_idiv (pc' := 160) (by omega) (by omega) dX3_buildFloor_5.2.2.2.1 rfl ?_
                          refine zS_i (pc' := 161) hF (scrL (by omega) (by omega)) (tabP (by omega) (by omega)) (by omega) dX3_buildFloor_5.2.2.2.2 (by decide) rfl (fun h i160 hF a160 b160 w160 => ?_)
                          replace b160 := b160 ⟨by omega, by omega⟩
                          replace hgh : Fw [l2] [] gh0 h := by rw [w160]; exact hgh.wc (by simp)
                          replace hg : ShE x3 x4 (h l1) g := by have q0_ := (congrFun w160 l1).trans (zfun (by omega)); rw [q0_]; exact hg
                          have hr2 : ShEu ((x3 + 1) / 2) ((x4 + 1) / 2) (h l2) (upF g x3 x4) (v6 / 2 + 1) (v5 / 2) := by rw [w160, b160]; exact ShEu.nx (by omega) ⟨by omega, by omega, by omega, by omega⟩ gc0 (by omega) (by unfold upF; rw [show 2 * (v6 / 2) = v6 by omega, show 2 * (v5 / 2) = v5 by omega]; first | (rw [if_pos (by omega), if_pos (by omega), if_pos (by omega), if_pos (by omega), if_pos (by omega)]; omega) | (rw [if_pos (by omega), if_neg (by omega), if_neg (by omega), if_pos (by omega), if_neg (by omega)]; omega) | (rw [if_neg (by omega), if_pos (by omega), if_neg (by omega), if_neg (by omega), if_pos (by omega)]; omega) | (rw [if_neg (by omega), if_neg (by omega), if_neg (by omega), if_neg (by omega), if_neg (by omega)]; omega))
                          refine zW_iinc (ls' := [_, _, _, _, _, _, _, _, _, _, _]) (pc' := 164) dX3_buildFloor_6.1.1.1 rfl (by decide) rfl rfl rfl ?_
                          refine zV_goto 13 dX3_buildFloor_6.1.1.2 rfl ?_
                          refine zV_clr 7 (ls' := [_, _, _, _, _, _, _, _, _, _, _]) rfl ?_
                          refine zV_clr 8 (ls' := [_, _, _, _, _, _, _, _, _, _, _]) rfl ?_
                          refine zV_clr 9 (ls' := [_, _, _, _, _, _, _, _, _, _, _]) rfl ?_
                          refine zV_clr 10 (ls' := [_, _, _, _, _, _, _, _, _, _, _]) rfl ?_
                          exact k13 _ _ _ hF (by omega) (by omega) (by first | (rw [show (v6 + 2) / 2 = v6 / 2 + 1 by omega]; exact hr2) | exact gc0) (by omega) hg hgh (by omega)
  refine zM_of [some (.inr (.inr 87)), some (.inr (.inr l1)), some (.inr (.inr l2)), some (.inl x3), some (.inl x4), none, none, none, none, none, none] 6 rfl rfl (Nat.le_of_ble_eq_true rfl) rfl ?_
  refine zW_iconst (pc' := 1) dX3_buildFloor_0.1.1.1.1 rfl ?_
  refine zW_istore (ls' := [_, _, _, _, _, _, _, _, _, _, _]) (pc' := 3) dX3_buildFloor_0.1.1.1.2 (by decide) rfl rfl rfl ?_
  exact (main 10000000000000000000000000000000000000000).1 _ _ hF (by omega) (by first | (rw [show (v5 + 2) / 2 = v5 / 2 + 1 by omega]; exact gc0.rowx (by omega)) | exact ShEu.no) (by omega) hg hgh (by omega)

abbrev q_X3_floorOfZ (κ h : Hp) (x1 : Int) (x2 : Int) (x3 : Int) (F : P3) : Int → Hp → Prop := fun r h' => h' = h ∧ ((0 ≤ r) ∧ (r ≤ 4095) ∧ (r = flo (κ 33 0) (κ 33 1) F x1.toNat (x2 / 2 ^ x1.toNat) (x3 / 2 ^ x1.toNat)))
set_option maxHeartbeats 4000000 in
set_option maxRecDepth 20000 in
theorem s_X3_floorOfZ {G : Ga} {b : Bd} {κ h : Hp} (hK : KC κ) (hF : Fr b κ h) (x1 : Int) (hx1 : 0 ≤ x1 ∧ x1 ≤ 3) (x2 : Int) (hx2 : 0 ≤ x2 ∧ x2 ≤ 15 ∧ x2 - κ 33 0 ≤ -1) (x3 : Int) (hx3 : 0 ≤ x3 ∧ x3 ≤ 15 ∧ x3 - κ 33 1 ≤ -1) (F : P3) (hfl : ∀ k : Nat, (k : Int) ≤ 3 → ShE (hfN k (κ 33 0)) (hfN k (κ 33 1)) (h (90 + k)) (flo (κ 33 0) (κ 33 1) F k)) (hb3 : FB3 (κ 33 0) (κ 33 1) F) : zM G mX3_floorOf yX3_floorOf [.inr (.inr 87), .inl x1, .inl x2, .inl x3] h (q_X3_floorOfZ κ h x1 x2 x3 F) := by
  have f_33_0 := KCw hK
  have f_33_1 := KCh hK
  refine zM_of [some (.inr (.inr 87)), some (.inl x1), some (.inl x2), some (.inl x3)] 0 rfl rfl (Nat.le_of_ble_eq_true rfl) rfl ?_
  refine zW_iload_n (pc' := 1) dX3_floorOf_0.1.1.1.1 rfl rfl ?_
  refine zV_if_lt (tgt := 29) (pc' := 4) dX3_floorOf_0.1.1.1.2 rfl rfl ⟨by omega, by omega⟩ (fun c1 => ?_) (fun c1 => ?_)
  · exfalso; omega
  · refine zW_iload_n (pc' := 5) dX3_floorOf_0.1.1.2.1 rfl rfl ?_
    refine zW_iconst (pc' := 6) dX3_floorOf_0.1.1.2.2 rfl ?_
    refine zV_cm_gt (tgt := 29) (pc' := 9) dX3_floorOf_0.1.2.1.1 rfl rfl ⟨by omega, by omega⟩ ⟨by omega, by omega⟩ (fun c6 => ?_) (fun c6 => ?_)
    · exfalso; omega
    · refine zW_aload_n (pc' := 10) dX3_floorOf_0.1.2.1.2 rfl rfl ?_
      refine zG_ref (pc' := 13) 89 fg_X3_17 tb87 rfl dX3_floorOf_0.1.2.2.1 rfl ?_
      refine zW_iload_n (pc' := 14) dX3_floorOf_0.1.2.2.2 rfl rfl ?_
      refine zV_aalF (pc' := 15) (by omega) dX3_floorOf_0.2.1.1.1 rfl (fun q14 z14 => ?_)
      refine zW_iload_n (pc' := 16) dX3_floorOf_0.2.1.1.2 rfl rfl ?_
      refine zW_iload_n (pc' := 17) dX3_floorOf_0.2.1.2.1 rfl rfl ?_
      refine zW_ishrN (pc' := 18) (by omega) (by omega) dX3_floorOf_0.2.1.2.2 rfl (fun v17 e17 => ?_)
      refine zW_bipush (pc' := 20) dX3_floorOf_0.2.2.1.1 rfl rfl ?_
      refine zW_imul (pc' := 21) dX3_floorOf_0.2.2.1.2 rfl ?_
      refine zW_iload_n (pc' := 22) dX3_floorOf_0.2.2.2.1 rfl rfl ?_
      refine zW_iload_n (pc' := 23) dX3_floorOf_0.2.2.2.2 rfl rfl ?_
      refine zW_ishrN (pc' := 24) (by omega) (by omega) dX3_floorOf_1.1.1.1 rfl (fun v23 e23 => ?_)
      refine zW_iadd (pc' := 25) dX3_floorOf_1.1.1.2 rfl ?_
      refine zV_iald (pc' := 26) (tabP (by omega) (by omega)) (by omega) dX3_floorOf_1.1.2 (by decide) rfl ?_
      have m1 := hfN_lt (n := κ 33 0) (x := x2) ⟨by omega, by omega⟩ x1.toNat (by omega)
      have m2 := hfN_lt (n := κ 33 1) (x := x3) ⟨by omega, by omega⟩ x1.toNat (by omega)
      have i1 := e23.2.2
      have i2 := e17.2.2
      rw [← i1] at m1
      rw [← i2] at m2
      have q25 : h q14 (v17 * 16 + v23).toNat = flo (κ 33 0) (κ 33 1) F x1.toNat v23 v17 := by rw [show q14 = 90 + x1.toNat by omega]; exact (hfl x1.toNat (by omega)).at (i := v17 * 16 + v23) (x := v23) (y := v17) ⟨m1.1, m1.2, m2.1, m2.2⟩ (by omega)
      have b25 := flo_b hb3 x1.toNat v23 v17 ⟨m1.1, m1.2, m2.1, m2.2⟩
      rw [← q25] at b25
      refine zV_goto 30 dX3_floorOf_1.2.1.1 rfl ?_
      exact zV_iret rfl dX3_floorOf_1.2.2 ⟨rfl, ⟨by omega, by omega, by rw [q25, i1, i2]⟩⟩

abbrev q_X3_toneOfZ (κ h : Hp) (x1 : Int) (x2 : Int) (x3 : Int) (x4 : Int) (x5 : Int) (F : P3) : Int → Hp → Prop := fun r h' => h' = h ∧ ((-300000 ≤ r) ∧ (r ≤ 300000) ∧ (r = tnF (κ 33 0) (κ 33 1) F x3 x4 x5 x1 x2))
set_option maxHeartbeats 4000000 in
set_option maxRecDepth 20000 in
theorem s_X3_toneOfZ {G : Ga} {b : Bd} {κ h : Hp} (hK : KC κ) (hF : Fr b κ h) (x1 : Int) (hx1 : 0 ≤ x1 ∧ x1 ≤ 15 ∧ x1 - κ 33 0 ≤ -1) (x2 : Int) (hx2 : 0 ≤ x2 ∧ x2 ≤ 15 ∧ x2 - κ 33 1 ≤ -1) (x3 : Int) (hx3 : 0 ≤ x3 ∧ x3 ≤ 255) (x4 : Int) (hx4 : 0 ≤ x4 ∧ x4 ≤ 255) (x5 : Int) (hx5 : 0 ≤ x5 ∧ x5 ≤ 255) (F : P3) (hfl : ∀ k : Nat, (k : Int) ≤ 3 → ShE (hfN k (κ 33 0)) (hfN k (κ 33 1)) (h (90 + k)) (flo (κ 33 0) (κ 33 1) F k)) (hb3 : FB3 (κ 33 0) (κ 33 1) F) : zM G mX3_toneOf yX3_toneOf [.inr (.inr 87), .inl x1, .inl x2, .inl x3, .inl x4, .inl x5] h (q_X3_toneOfZ κ h x1 x2 x3 x4 x5 F) := by
  have f_33_0 := KCw hK
  have f_33_1 := KCh hK
  refine zM_of [some (.inr (.inr 87)), some (.inl x1), some (.inl x2), some (.inl x3), some (.inl x4), some (.inl x5), none, none, none] 3 rfl rfl (Nat.le_of_ble_eq_true rfl) rfl ?_
  refine zW_aload_n (pc' := 1) dX3_toneOf_0.1.1.1.1 rfl rfl ?_
  refine zW_iconst (pc' := 2) dX3_toneOf_0.1.1.1.2 rfl ?_
  refine zW_iload_n (pc' := 3) dX3_toneOf_0.1.1.2.1 rfl rfl ?_
  refine zW_iload_n (pc' := 4) dX3_toneOf_0.1.1.2.2 rfl rfl ?_
  refine cvI3 (pc' := 7) kX3_floorOf vX3_floorOf lk_X3_137 ⟨Nat.le_of_ble_eq_true rfl, Nat.le_of_ble_eq_true rfl⟩ tb87 vq3 rfl rfl (s_X3_floorOfZ hK hF _ ⟨by omega, by omega⟩ _ ⟨by omega, by omega, by omega⟩ _ ⟨by omega, by omega, by omega⟩ F (by omega) (by omega)) dX3_toneOf_0.1.2.1.1 (Nat.le_of_ble_eq_true rfl) rfl ?_
  rintro r4 z4 ⟨hz4, p4⟩; subst z4
  refine zW_istore (ls' := [_, _, _, _, _, _, _, _, _]) (pc' := 9) dX3_toneOf_0.1.2.1.2 (by decide) rfl rfl rfl ?_
  refine zW_aload_n (pc' := 10) dX3_toneOf_0.1.2.2.1 rfl rfl ?_
  refine zW_iconst (pc' := 11) dX3_toneOf_0.1.2.2.2 rfl ?_
  refine zW_iload_n (pc' := 12) dX3_toneOf_0.2.1.1.1 rfl rfl ?_
  refine zW_iload_n (pc' := 13) dX3_toneOf_0.2.1.1.2 rfl rfl ?_
  refine cvI3 (pc' := 16) kX3_floorOf vX3_floorOf lk_X3_137 ⟨Nat.le_of_ble_eq_true rfl, Nat.le_of_ble_eq_true rfl⟩ tb87 vq3 rfl rfl (s_X3_floorOfZ hK hF _ ⟨by omega, by omega⟩ _ ⟨by omega, by omega, by omega⟩ _ ⟨by omega, by omega, by omega⟩ F (by omega) (by omega)) dX3_toneOf_0.2.1.2.1 (Nat.le_of_ble_eq_true rfl) rfl ?_
  rintro r13 z13 ⟨hz13, p13⟩; subst z13
  refine zW_istore (ls' := [_, _, _, _, _, _, _, _, _]) (pc' := 18) dX3_toneOf_0.2.1.2.2 (by decide) rfl rfl rfl ?_
  refine zW_aload_n (pc' := 19) dX3_toneOf_0.2.2.1.1 rfl rfl ?_
  refine zW_iconst (pc' := 20) dX3_toneOf_0.2.2.1.2 rfl ?_
  refine zW_iload_n (pc' := 21) dX3_toneOf_0.2.2.2.1 rfl rfl ?_
  refine zW_iload_n (pc' := 22) dX3_toneOf_0.2.2.2.2 rfl rfl ?_
  refine cvI3 (pc' := 25) kX3_floorOf vX3_floorOf lk_X3_137 ⟨Nat.le_of_ble_eq_true rfl, Nat.le_of_ble_eq_true rfl⟩ tb87 vq3 rfl rfl (s_X3_floorOfZ hK hF _ ⟨by omega, by omega⟩ _ ⟨by omega, by omega, by omega⟩ _ ⟨by omega, by omega, by omega⟩ F (by omega) (by omega)) dX3_toneOf_1.1.1.1.1 (Nat.le_of_ble_eq_true rfl) rfl ?_
  rintro r22 z22 ⟨hz22, p22⟩; subst z22
  refine zW_istore (ls' := [_, _, _, _, _, _, _, _, _]) (pc' := 27) dX3_toneOf_1.1.1.1.2 (by decide) rfl rfl rfl ?_
  have k4 : r4 = flo (κ 33 0) (κ 33 1) F 1 (x1 / 2) (x2 / 2) := p4.2.2
  have k13 : r13 = flo (κ 33 0) (κ 33 1) F 2 (x1 / 4) (x2 / 4) := p13.2.2
  have k22 : r22 = flo (κ 33 0) (κ 33 1) F 3 (x1 / 8) (x2 / 8) := p22.2.2
  refine zW_iload (pc' := 29) dX3_toneOf_1.1.1.2.1 rfl rfl ?_
  refine zW_aload_n (pc' := 30) dX3_toneOf_1.1.1.2.2 rfl rfl ?_
  refine zW_iconst (pc' := 31) dX3_toneOf_1.1.2.1.1 rfl ?_
  refine zW_iload_n (pc' := 32) dX3_toneOf_1.1.2.1.2 rfl rfl ?_
  refine zW_iload_n (pc' := 33) dX3_toneOf_1.1.2.2.1 rfl rfl ?_
  refine cvI3 (pc' := 36) kX3_floorOf vX3_floorOf lk_X3_137 ⟨Nat.le_of_ble_eq_true rfl, Nat.le_of_ble_eq_true rfl⟩ tb87 vq3 rfl rfl (s_X3_floorOfZ hK hF _ ⟨by omega, by omega⟩ _ ⟨by omega, by omega, by omega⟩ _ ⟨by omega, by omega, by omega⟩ F (by omega) (by omega)) dX3_toneOf_1.1.2.2.2 (Nat.le_of_ble_eq_true rfl) rfl ?_
  rintro r33 z33 ⟨hz33, p33⟩; subst z33
  have k33 : r33 = flo (κ 33 0) (κ 33 1) F 0 x1 x2 := by have z := p33.2.2; rw [show x1 / 2 ^ (0 : Int).toNat = x1 by show x1 / 1 = x1; omega, show x2 / 2 ^ (0 : Int).toNat = x2 by show x2 / 1 = x2; omega] at z; exact z
  refine zW_iload (pc' := 38) dX3_toneOf_1.2.1.1.1 rfl rfl ?_
  refine zW_isub (pc' := 39) dX3_toneOf_1.2.1.1.2 rfl ?_
  refine zW_iload_n (pc' := 40) dX3_toneOf_1.2.1.2.1 rfl rfl ?_
  refine zW_imul (pc' := 41) dX3_toneOf_1.2.1.2.2 rfl ?_
  have q40 := mulS (a := r33 - r4) (b := x3) (A := 4095) (B := 255) ⟨by omega, by omega⟩ ⟨by omega, by omega⟩
  refine zW_bipush (pc' := 43) dX3_toneOf_1.2.2.1.1 rfl rfl ?_
  refine zW_idivS (pc' := 44) ⟨by omega, by omega⟩ (by omega) dX3_toneOf_1.2.2.1.2 rfl (fun v43 e43 => ?_)
  refine zW_iadd (pc' := 45) dX3_toneOf_1.2.2.2.1 rfl ?_
  refine zW_iload (pc' := 47) dX3_toneOf_1.2.2.2.2 rfl rfl ?_
  refine zW_iload (pc' := 49) dX3_toneOf_2.1.1.1.1 rfl rfl ?_
  refine zW_isub (pc' := 50) dX3_toneOf_2.1.1.1.2 rfl ?_
  refine zW_iload (pc' := 52) dX3_toneOf_2.1.1.2.1 rfl rfl ?_
  refine zW_imul (pc' := 53) dX3_toneOf_2.1.1.2.2 rfl ?_
  have q52 := mulS (a := r4 - r13) (b := x4) (A := 4095) (B := 255) ⟨by omega, by omega⟩ ⟨by omega, by omega⟩
  refine zW_bipush (pc' := 55) dX3_toneOf_2.1.2.1.1 rfl rfl ?_
  refine zW_idivS (pc' := 56) ⟨by omega, by omega⟩ (by omega) dX3_toneOf_2.1.2.1.2 rfl (fun v55 e55 => ?_)
  refine zW_iadd (pc' := 57) dX3_toneOf_2.1.2.2.1 rfl ?_
  refine zW_iload (pc' := 59) dX3_toneOf_2.1.2.2.2 rfl rfl ?_
  refine zW_iload (pc' := 61) dX3_toneOf_2.2.1.1.1 rfl rfl ?_
  refine zW_isub (pc' := 62) dX3_toneOf_2.2.1.1.2 rfl ?_
  refine zW_iload (pc' := 64) dX3_toneOf_2.2.1.2.1 rfl rfl ?_
  refine zW_imul (pc' := 65) dX3_toneOf_2.2.1.2.2 rfl ?_
  have q64 := mulS (a := r13 - r22) (b := x5) (A := 4095) (B := 255) ⟨by omega, by omega⟩ ⟨by omega, by omega⟩
  refine zW_bipush (pc' := 67) dX3_toneOf_2.2.2.1.1 rfl rfl ?_
  refine zW_idivS (pc' := 68) ⟨by omega, by omega⟩ (by omega) dX3_toneOf_2.2.2.1.2 rfl (fun v67 e67 => ?_)
  refine zW_iadd (pc' := 69) dX3_toneOf_2.2.2.2.1 rfl ?_
  exact zV_iret rfl dX3_toneOf_2.2.2.2.2 ⟨rfl, (by have t1 := tdc (a := (r33 - r4) * x3) (d := 16) (by omega); have t2 := tdc (a := (r4 - r13) * x4) (d := 16) (by omega); have t3 := tdc (a := (r13 - r22) * x5) (d := 16) (by omega); refine ⟨by omega, by omega, ?_⟩; unfold tnF; rw [← k33, ← k4, ← k13, ← k22]; omega)⟩

abbrev q_X3_buildFloorsZ (b : Bd) (κ : Hp) (s1 : Nat) (F : P3) (gh0 : Hp) : Int → Hp → Prop := fun r h' => Fr b κ h' ∧ ((Fw [90, 91, 92, 93] [] gh0 h') ∧ (∀ k : Nat, (k : Int) ≤ 3 → ShE (hfN k (κ 33 0)) (hfN k (κ 33 1)) (h' (90 + k)) (flo (κ 33 0) (κ 33 1) F k)))
set_option maxHeartbeats 4000000 in
set_option maxRecDepth 20000 in
theorem s_X3_buildFloorsZ {G : Ga} {b : Bd} {κ h : Hp} (hK : KC κ) (hF : Fr b κ h) (s1 : Nat) (hs1 : 56 ≤ s1 ∧ s1 ≤ 70) (F : P3) (gh0 : Hp) (hF3 : FuS (κ 33 0) (κ 33 1) (h (s1 + 15)) F) (hb3 : FB3 (κ 33 0) (κ 33 1) F) (hgh : Fw [90, 91, 92, 93] [] gh0 h) : zM G mX3_buildFloors yX3_buildFloors [.inr (.inr 87), .inr (.inr s1)] h (q_X3_buildFloorsZ b κ s1 F gh0) := by
  have f_33_0 := KCw hK
  have f_33_1 := KCh hK
  have main : ∀ N : Nat, (∀ (v2 v3 v4 : Int) (h : Hp), Fr b κ h → (4 ≤ v2 ∧ v2 ≤ 16) → (v2 - κ 33 0 ≤ 0) → (4 ≤ v3 ∧ v3 ≤ 16) → (v3 - κ 33 1 ≤ 0) → (0 ≤ v4 ∧ v4 ≤ 16) → (v4 - κ 33 1 ≤ 0) → (v2 = κ 33 0) → (v3 = κ 33 1) → (ShEu (κ 33 0) (κ 33 1) (h 90) (lgt F) 0 v4) → (FuS (κ 33 0) (κ 33 1) (h (s1 + 15)) F) → (Fw [90, 91, 92, 93] [] gh0 h) → 37528920 + 32076 * (16 - v4) + 31590 < (N : Int) → zV G mX3_buildFloors (q_X3_buildFloorsZ b κ s1 F gh0) 19 [some (.inr (.inr 87)), some (.inr (.inr s1)), some (.inl v2), some (.inl v3), some (.inl v4), none] [] h) ∧ (∀ (v2 v3 v4 : Int) (h : Hp), Fr b κ h → (1 ≤ v2 ∧ v2 ≤ 16) → (1 ≤ v3 ∧ v3 ≤ 16) → (1 ≤ v4 ∧ v4 ≤ 4) → (v2 = hfN (v4 - 1).toNat (κ 33 0)) → (v3 = hfN (v4 - 1).toNat (κ 33 1)) → (∀ k : Nat, (k : Int) < v4 → ShE (hfN k (κ 33 0)) (hfN k (κ 33 1)) (h (90 + k)) (flo (κ 33 0) (κ 33 1) F k)) → (FuS (κ 33 0) (κ 33 1) (h (s1 + 15)) F) → (Fw [90, 91, 92, 93] [] gh0 h) → 34642080 + 32076 * (4 - v4) + 29160 < (N : Int) → zV G mX3_buildFloors (q_X3_buildFloorsZ b κ s1 F gh0) 79 [some (.inr (.inr 87)), some (.inr (.inr s1)), some (.inl v2), some (.inl v3), some (.inl v4), none] [] h) ∧ (∀ (v2 v3 v4 v5 : Int) (h : Hp), Fr b κ h → (4 ≤ v2 ∧ v2 ≤ 16) → (v2 - κ 33 0 ≤ 0) → (4 ≤ v3 ∧ v3 ≤ 16) → (v3 - κ 33 1 ≤ 0) → (0 ≤ v4 ∧ v4 ≤ 15) → (v4 - κ 33 1 ≤ -1) → (0 ≤ v5 ∧ v5 ≤ 16) → (v5 - κ 33 0 ≤ 0) → (v2 = κ 33 0) → (v3 = κ 33 1) → (ShEu (κ 33 0) (κ 33 1) (h 90) (lgt F) v5 v4) → (FuS (κ 33 0) (κ 33 1) (h (s1 + 15)) F) → (Fw [90, 91, 92, 93] [] gh0 h) → 37528920 + 32076 * (16 - v4) + 12636 + 27 * (16 - v5) + 26 < (N : Int) → zV G mX3_buildFloors (q_X3_buildFloorsZ b κ s1 F gh0) 28 [some (.inr (.inr 87)), some (.inr (.inr s1)), some (.inl v2), some (.inl v3), some (.inl v4), some (.inl v5)] [] h) := by
    intro N
    induction N with
    | zero =>
      refine ⟨?_, ?_, ?_⟩
      · intro v2 v3 v4 h hF g0 g1 g2 g3 g4 g5 gc0 gc1 gc2 hF3 hgh hm
        exfalso; omega
      · intro v2 v3 v4 h hF g0 g1 g2 gc0 gc1 gc2 hF3 hgh hm
        exfalso; omega
      · intro v2 v3 v4 v5 h hF g0 g1 g2 g3 g4 g5 g6 g7 gc0 gc1 gc2 hF3 hgh hm
        exfalso; omega
    | succ N ih =>
      obtain ⟨k19, k79, k28⟩ := ih
      refine ⟨?_, ?_, ?_⟩
      · intro v2 v3 v4 h hF g0 g1 g2 g3 g4 g5 gc0 gc1 gc2 hF3 hgh hm
        refine zW_iload (pc' := 21) dX3_buildFloors_0.2.1.2.1 rfl rfl ?_
        refine zW_iload_n (pc' := 22) dX3_buildFloors_0.2.1.2.2 rfl rfl ?_
        refine zV_cm_ge (tgt := 76) (pc' := 25) dX3_buildFloors_0.2.2.1.1 rfl rfl ⟨by omega, by omega⟩ ⟨by omega, by omega⟩ (fun c22 => ?_) (fun c22 => ?_)
        · refine zW_iconst (pc' := 77) dX3_buildFloors_2.2.1.1.1 rfl ?_
          refine zW_istore (ls' := [_, _, _, _, _, _]) (pc' := 79) dX3_buildFloors_2.2.1.1.2 (by decide) rfl rfl rfl ?_
          exact k79 _ _ _ _ hF (by omega) (by omega) (by omega) (by first | exact hh2.1 | exact gc0) (by first | exact hh2.2 | exact gc1) (by first | exact hn2 | (intro k hk; have e0 : k = 0 := (by omega); subst e0; exact gc2.all (by omega))) hF3 hgh (by omega)
        · refine zW_iconst (pc' := 26) dX3_buildFloors_0.2.2.1.2 rfl ?_
          refine zW_istore (ls' := [_, _, _, _, _, _]) (pc' := 28) dX3_buildFloors_0.2.2.2.1 (by decide) rfl rfl rfl ?_
          exact k28 _ _ _ _ _ hF (by omega) (by omega) (by omega) (by omega) (by omega) (by omega) (by omega) (by omega) (by first | exact gc0 | rfl) (by first | exact gc1 | rfl) (by first | exact hr2 | exact gc2) hF3 hgh (by omega)
      · intro v2 v3 v4 h hF g0 g1 g2 gc0 gc1 gc2 hF3 hgh hm
        refine zW_iload (pc' := 81) dX3_buildFloors_2.2.1.2.1 rfl rfl ?_
        refine zW_iconst (pc' := 82) dX3_buildFloors_2.2.1.2.2 rfl ?_
        refine zV_cm_gt (tgt := 125) (pc' := 85) dX3_buildFloors_2.2.2.1.1 rfl rfl ⟨by omega, by omega⟩ ⟨by omega, by omega⟩ (fun c82 => ?_) (fun c82 => ?_)
        · exact zV_vret rfl dX3_buildFloors_4.2.2.2 ⟨hF, ⟨hgh, (fun k hk => gc2 k (by omega))⟩⟩
        · refine zW_aload_n (pc' := 86) dX3_buildFloors_2.2.2.1.2 rfl rfl ?_
          refine zW_aload_n (pc' := 87) dX3_buildFloors_2.2.2.2.1 rfl rfl ?_
          refine zG_ref (pc' := 90) 89 fg_X3_17 tb87 rfl dX3_buildFloors_2.2.2.2.2 rfl ?_
          refine zW_iload (pc' := 92) dX3_buildFloors_3.1.1.1.1 rfl rfl ?_
          refine zW_iconst (pc' := 93) dX3_buildFloors_3.1.1.1.2 rfl ?_
          refine zW_isub (pc' := 94) dX3_buildFloors_3.1.1.2.1 rfl ?_
          refine zV_aalF (pc' := 95) (by omega) dX3_buildFloors_3.1.1.2.2 rfl (fun q94 z94 => ?_)
          refine zW_aload_n (pc' := 96) dX3_buildFloors_3.1.2.1.1 rfl rfl ?_
          refine zG_ref (pc' := 99) 89 fg_X3_17 tb87 rfl dX3_buildFloors_3.1.2.1.2 rfl ?_
          refine zW_iload (pc' := 101) dX3_buildFloors_3.1.2.2.1 rfl rfl ?_
          refine zV_aalF (pc' := 102) (by omega) dX3_buildFloors_3.1.2.2.2 rfl (fun q101 z101 => ?_)
          refine zW_iload_n (pc' := 103) dX3_buildFloors_3.2.1.1.1 rfl rfl ?_
          refine zW_iload_n (pc' := 104) dX3_buildFloors_3.2.1.1.2 rfl rfl ?_
          refine cvV4 (pc' := 107) kX3_buildFloor vX3_buildFloor lk_X3_140 ⟨Nat.le_of_ble_eq_true rfl, Nat.le_of_ble_eq_true rfl⟩ tb87 vq3 rfl rfl (s_X3_buildFloorZ hF _ ⟨by omega, by omega⟩ _ ⟨by omega, by omega⟩ _ ⟨by omega, by omega⟩ _ ⟨by omega, by omega⟩ (flo (κ 33 0) (κ 33 1) F (v4 - 1).toNat) h (by omega) (by have z := gc2 (v4 - 1).toNat (by omega); rw [show 90 + (v4 - 1).toNat = q94 by omega, ← gc0, ← gc1] at z; exact z) (by have z := flo_b hb3 (v4 - 1).toNat; rw [← gc0, ← gc1] at z; exact z) Fw.rf) dX3_buildFloors_3.2.1.2.1 (Nat.le_of_ble_eq_true rfl) rfl ?_
          rintro r104 h ⟨hF, d104, p104⟩
          replace hF3 : FuS (κ 33 0) (κ 33 1) (h (s1 + 15)) F := by have q0_ := (d104.cell (k := (s1 + 15)) (by intro c hc; simp at hc <;> omega) (by rintro ⟨a, b⟩ hp; simp at hp <;> (show _ ≠ a; omega))); rw [q0_]; exact hF3
          replace hgh : Fw [90, 91, 92, 93] [] gh0 h := hgh.tr d104 (by first | (simp; done) | (simp; omega)) (by simp)
          have hn2 : ∀ k : Nat, (k : Int) < v4 + 1 → ShE (hfN k (κ 33 0)) (hfN k (κ 33 1)) (h (90 + k)) (flo (κ 33 0) (κ 33 1) F k) := by (intro k hk; by_cases e : (k : Int) = v4; (have e2 : k = (v4 - 1).toNat + 1 := by omega); (rw [show 90 + k = q101 by omega]; rw [e2]; show ShE ((hfN (v4 - 1).toNat (κ 33 0) + 1) / 2) ((hfN (v4 - 1).toNat (κ 33 1) + 1) / 2) _ (upF (flo (κ 33 0) (κ 33 1) F (v4 - 1).toNat) (hfN (v4 - 1).toNat (κ 33 0)) (hfN (v4 - 1).toNat (κ 33 1))); rw [← gc0, ← gc1]; exact p104); (rw [d104.cell (k := 90 + k) (by intro c hc; simp at hc; omega) (by intro c hc; simp at hc)]; exact gc2 k (by omega)))
          have hh2 : (v2 + 1) / 2 = hfN (v4 + 1 - 1).toNat (κ 33 0) ∧ (v3 + 1) / 2 = hfN (v4 + 1 - 1).toNat (κ 33 1) := by rw [show (v4 + 1 - 1).toNat = (v4 - 1).toNat + 1 by omega, gc0, gc1]; exact ⟨rfl, rfl⟩
          refine zW_iload_n (pc' := 108) dX3_buildFloors_3.2.1.2.2 rfl rfl ?_
          refine zW_iconst (pc' := 109) dX3_buildFloors_3.2.2.1.1 rfl ?_
          refine zW_iadd (pc' := 110) dX3_buildFloors_3.2.2.1.2 rfl ?_
          refine zW_iconst (pc' := 111) dX3_buildFloors_3.2.2.2.1 rfl ?_
          refine zW_idiv (pc' := 112) (by omega) (by omega) dX3_buildFloors_3.2.2.2.2 rfl ?_
          refine zW_istore_n (ls' := [_, _, _, _, _, _]) (pc' := 113) dX3_buildFloors_4.1.1.1.1 (by decide) rfl rfl rfl ?_
          refine zW_iload_n (pc' := 114) dX3_buildFloors_4.1.1.1.2 rfl rfl ?_
          refine zW_iconst (pc' := 115) dX3_buildFloors_4.1.1.2 rfl ?_
          refine zW_iadd (pc' := 116) dX3_buildFloors_4.1.2.1 rfl ?_
          refine zW_iconst (pc' := 117) dX3_buildFloors_4.1.2.2 rfl ?_
          refine zW_idiv (pc' := 118) (by omega) (by omega) dX3_buildFloors_4.2.1.1.1 rfl ?_
          refine zW_istore_n (ls' := [_, _, _, _, _, _]) (pc' := 119) dX3_buildFloors_4.2.1.1.2 (by decide) rfl rfl rfl ?_
          refine zW_iinc (ls' := [_, _, _, _, _, _]) (pc' := 122) dX3_buildFloors_4.2.1.2 rfl (by decide) rfl rfl rfl ?_
          refine zV_goto 79 dX3_buildFloors_4.2.2.1 rfl ?_
          exact k79 _ _ _ _ hF (by omega) (by omega) (by omega) (by first | exact hh2.1 | exact gc0) (by first | exact hh2.2 | exact gc1) (by first | exact hn2 | (intro k hk; have e0 : k = 0 := (by omega); subst e0; exact gc2.all (by omega))) hF3 hgh (by omega)
      · intro v2 v3 v4 v5 h hF g0 g1 g2 g3 g4 g5 g6 g7 gc0 gc1 gc2 hF3 hgh hm
        refine zW_iload (pc' := 30) dX3_buildFloors_0.2.2.2.2 rfl rfl ?_
        refine zW_iload_n (pc' := 31) dX3_buildFloors_1.1.1.1.1 rfl rfl ?_
        refine zV_cm_ge (tgt := 70) (pc' := 34) dX3_buildFloors_1.1.1.1.2 rfl rfl ⟨by omega, by omega⟩ ⟨by omega, by omega⟩ (fun c31 => ?_) (fun c31 => ?_)
        · refine zW_iinc (ls' := [_, _, _, _, _, _]) (pc' := 73) dX3_buildFloors_2.1.2.2.1 rfl (by decide) rfl rfl rfl ?_
          refine zV_goto 19 dX3_buildFloors_2.1.2.2.2 rfl ?_
          refine zV_clr 5 (ls' := [_, _, _, _, _, _]) rfl ?_
          exact k19 _ _ _ _ hF (by omega) (by omega) (by omega) (by omega) (by omega) (by omega) (by first | exact gc0 | rfl) (by first | exact gc1 | rfl) (by first | exact gc2.rowx (by omega) | exact ShEu.no) hF3 hgh (by omega)
        · refine zW_aload_n (pc' := 35) dX3_buildFloors_1.1.1.2.1 rfl rfl ?_
          refine zG_ref (pc' := 38) 89 fg_X3_17 tb87 rfl dX3_buildFloors_1.1.1.2.2 rfl ?_
          refine zW_iconst (pc' := 39) dX3_buildFloors_1.1.2.1.1 rfl ?_
          refine zV_aalF (pc' := 40) (by omega) dX3_buildFloors_1.1.2.1.2 rfl (fun q39 z39 => ?_)
          refine zW_iload (pc' := 42) dX3_buildFloors_1.1.2.2.1 rfl rfl ?_
          refine zW_bipush (pc' := 44) dX3_buildFloors_1.1.2.2.2 rfl rfl ?_
          refine zW_imul (pc' := 45) dX3_buildFloors_1.2.1.1.1 rfl ?_
          refine zW_iload (pc' := 47) dX3_buildFloors_1.2.1.1.2 rfl rfl ?_
          refine zW_iadd (pc' := 48) dX3_buildFloors_1.2.1.2.1 rfl ?_
          refine zW_aload_n (pc' := 49) dX3_buildFloors_1.2.1.2.2 rfl rfl ?_
          refine zG_lev (pc' := 52) (by omega) (by omega) fg_X3_27 dX3_buildFloors_1.2.2.1.1 rfl ?_
          refine zW_iload (pc' := 54) dX3_buildFloors_1.2.2.1.2 rfl rfl ?_
          refine zW_bipush (pc' := 56) dX3_buildFloors_1.2.2.2.1 rfl rfl ?_
          refine zW_imul (pc' := 57) dX3_buildFloors_1.2.2.2.2 rfl ?_
          refine zW_iload (pc' := 59) dX3_buildFloors_2.1.1.1.1 rfl rfl ?_
          refine zW_iadd (pc' := 60) dX3_buildFloors_2.1.1.1.2 rfl ?_
          refine csI2 (pc' := 63) kX11_lightOf vX11_lightOf lk_X3_98 ⟨Nat.le_of_ble_eq_true rfl, Nat.le_of_ble_eq_true rfl⟩ rfl (s_X11_lightOfZ hF _ ⟨by omega, by omega⟩ _ ⟨by omega, by omega⟩ (κ 33 0) (κ 33 1) F v5 v4 hF3 hb3 ⟨by omega, by omega, by omega, by omega⟩ (by omega)) dX3_buildFloors_2.1.1.2.1 (Nat.le_of_ble_eq_true rfl) rfl ?_
          rintro r60 z60 ⟨hz60, p60⟩; subst z60
          refine zS_i (pc' := 64) hF (scrL (by omega) (by omega)) (tabP (by omega) (by omega)) (by omega) dX3_buildFloors_2.1.1.2.2 (by decide) rfl (fun h i63 hF a63 b63 w63 => ?_)
          replace b63 := b63 ⟨by omega, by omega⟩
          replace hgh : Fw [90, 91, 92, 93] [] gh0 h := by rw [w63]; exact hgh.wc (by first | (simp; done) | (simp; omega))
          replace hF3 : FuS (κ 33 0) (κ 33 1) (h (s1 + 15)) F := by have q0_ := (congrFun w63 (s1 + 15)).trans (zfun (by omega)); rw [q0_]; exact hF3
          rw [show q39 = 90 by omega] at w63
          have hr2 : ShEu (κ 33 0) (κ 33 1) (h 90) (lgt F) (v5 + 1) v4 := by rw [w63, b63]; exact ShEu.nx (by omega) ⟨by omega, by omega, by omega, by omega⟩ gc2 (by omega) p60.2.2
          refine zW_iinc (ls' := [_, _, _, _, _, _]) (pc' := 67) dX3_buildFloors_2.1.2.1.1 rfl (by decide) rfl rfl rfl ?_
          refine zV_goto 28 dX3_buildFloors_2.1.2.1.2 rfl ?_
          exact k28 _ _ _ _ _ hF (by omega) (by omega) (by omega) (by omega) (by omega) (by omega) (by omega) (by omega) (by first | exact gc0 | rfl) (by first | exact gc1 | rfl) (by first | exact hr2 | exact gc2) hF3 hgh (by omega)
  refine zM_of [some (.inr (.inr 87)), some (.inr (.inr s1)), none, none, none, none] 4 rfl rfl (Nat.le_of_ble_eq_true rfl) rfl ?_
  refine zW_aload_n (pc' := 1) dX3_buildFloors_0.1.1.1.1 rfl rfl ?_
  refine zG_ref (pc' := 4) 33 fg_X3_23 tb87 rfl dX3_buildFloors_0.1.1.1.2 rfl ?_
  refine zG_key (pc' := 7) hF rfl fg_X3_48 tb33 rfl dX3_buildFloors_0.1.1.2.1 rfl ?_
  refine zW_istore_n (ls' := [_, _, _, _, _, _]) (pc' := 8) dX3_buildFloors_0.1.1.2.2 (by decide) rfl rfl rfl ?_
  refine zW_aload_n (pc' := 9) dX3_buildFloors_0.1.2.1.1 rfl rfl ?_
  refine zG_ref (pc' := 12) 33 fg_X3_23 tb87 rfl dX3_buildFloors_0.1.2.1.2 rfl ?_
  refine zG_key (pc' := 15) hF rfl fg_X3_42 tb33 rfl dX3_buildFloors_0.1.2.2.1 rfl ?_
  refine zW_istore_n (ls' := [_, _, _, _, _, _]) (pc' := 16) dX3_buildFloors_0.1.2.2.2 (by decide) rfl rfl rfl ?_
  refine zW_iconst (pc' := 17) dX3_buildFloors_0.2.1.1.1 rfl ?_
  refine zW_istore (ls' := [_, _, _, _, _, _]) (pc' := 19) dX3_buildFloors_0.2.1.1.2 (by decide) rfl rfl rfl ?_
  exact (main 10000000000000000000000000000000000000000).1 _ _ _ _ hF (by omega) (by omega) (by omega) (by omega) (by omega) (by omega) (by first | exact gc0 | rfl) (by first | exact gc1 | rfl) (by first | exact gc2.rowx (by omega) | exact ShEu.no) hF3 hgh (by omega)

abbrev q_X3_setTonesZ (b : Bd) (κ : Hp) (s1 : Nat) (s2 : Nat) (x3 : Int) (x4 : Int) (x5 : Int) (F : P3) (gh0 : Hp) : Int → Hp → Prop := fun r h' => Fr b κ h' ∧ ((Fw [90, 91, 92, 93, (s2 + 15)] [] gh0 h') ∧ (FuS (κ 33 0) (κ 33 1) (h' (s2 + 15)) (toF (κ 33 0) (κ 33 1) F x3 x4 x5)))
set_option maxHeartbeats 4000000 in
set_option maxRecDepth 20000 in
theorem s_X3_setTonesZ {G : Ga} {b : Bd} {κ h : Hp} (hK : KC κ) (hF : Fr b κ h) (s1 : Nat) (hs1 : 56 ≤ s1 ∧ s1 ≤ 70) (s2 : Nat) (hs2 : 56 ≤ s2 ∧ s2 ≤ 70) (x3 : Int) (hx3 : 0 ≤ x3 ∧ x3 ≤ 255) (x4 : Int) (hx4 : 0 ≤ x4 ∧ x4 ≤ 255) (x5 : Int) (hx5 : 0 ≤ x5 ∧ x5 ≤ 255) (F : P3) (gh0 : Hp) (hto : OkL b (s2 + 15)) (hne : s1 ≠ s2) (hF3 : FuS (κ 33 0) (κ 33 1) (h (s1 + 15)) F) (hb3 : FB3 (κ 33 0) (κ 33 1) F) (hgh : Fw [90, 91, 92, 93, (s2 + 15)] [] gh0 h) : zM G mX3_setTones yX3_setTones [.inr (.inr 87), .inr (.inr s1), .inr (.inr s2), .inl x3, .inl x4, .inl x5] h (q_X3_setTonesZ b κ s1 s2 x3 x4 x5 F gh0) := by
  have f_33_0 := KCw hK
  have f_33_1 := KCh hK
  have main : ∀ N : Nat, (∀ (v6 : Int) (h : Hp), Fr b κ h → (0 ≤ v6 ∧ v6 ≤ 16) → (v6 - κ 33 1 ≤ 0) → (∀ k : Nat, (k : Int) ≤ 3 → ShE (hfN k (κ 33 0)) (hfN k (κ 33 1)) (h (90 + k)) (flo (κ 33 0) (κ 33 1) F k)) → (PuS (κ 33 0) (κ 33 1) (h (s2 + 15)) (toF (κ 33 0) (κ 33 1) F x3 x4 x5) 0 v6) → (FuS (κ 33 0) (κ 33 1) (h (s1 + 15)) F) → (Fw [90, 91, 92, 93, (s2 + 15)] [] gh0 h) → 17534880 + 24354 * (16 - v6) + 23760 < (N : Int) → zV G mX3_setTones (q_X3_setTonesZ b κ s1 s2 x3 x4 x5 F gh0) 8 [some (.inr (.inr 87)), some (.inr (.inr s1)), some (.inr (.inr s2)), some (.inl x3), some (.inl x4), some (.inl x5), some (.inl v6), none] [] h) ∧ (∀ (v6 v7 : Int) (h : Hp), Fr b κ h → (0 ≤ v6 ∧ v6 ≤ 15) → (v6 - κ 33 1 ≤ -1) → (0 ≤ v7 ∧ v7 ≤ 16) → (v7 - κ 33 0 ≤ 0) → (∀ k : Nat, (k : Int) ≤ 3 → ShE (hfN k (κ 33 0)) (hfN k (κ 33 1)) (h (90 + k)) (flo (κ 33 0) (κ 33 1) F k)) → (PuS (κ 33 0) (κ 33 1) (h (s2 + 15)) (toF (κ 33 0) (κ 33 1) F x3 x4 x5) v7 v6) → (FuS (κ 33 0) (κ 33 1) (h (s1 + 15)) F) → (Fw [90, 91, 92, 93, (s2 + 15)] [] gh0 h) → 17534880 + 24354 * (16 - v6) + 19008 + 33 * (16 - v7) + 32 < (N : Int) → zV G mX3_setTones (q_X3_setTonesZ b κ s1 s2 x3 x4 x5 F gh0) 23 [some (.inr (.inr 87)), some (.inr (.inr s1)), some (.inr (.inr s2)), some (.inl x3), some (.inl x4), some (.inl x5), some (.inl v6), some (.inl v7)] [] h) := by
    intro N
    induction N with
    | zero =>
      refine ⟨?_, ?_⟩
      · intro v6 h hF g0 g1 gc0 gc1 hF3 hgh hm
        exfalso; omega
      · intro v6 v7 h hF g0 g1 g2 g3 gc0 gc1 hF3 hgh hm
        exfalso; omega
    | succ N ih =>
      obtain ⟨k8, k23⟩ := ih
      refine ⟨?_, ?_⟩
      · intro v6 h hF g0 g1 gc0 gc1 hF3 hgh hm
        refine zW_iload (pc' := 10) dX3_setTones_0.1.2.1.2 rfl rfl ?_
        refine zW_aload_n (pc' := 11) dX3_setTones_0.1.2.2.1 rfl rfl ?_
        refine zG_ref (pc' := 14) 33 fg_X3_23 tb87 rfl dX3_setTones_0.1.2.2.2 rfl ?_
        refine zG_key (pc' := 17) hF rfl fg_X3_42 tb33 rfl dX3_setTones_0.2.1.1.1 rfl ?_
        refine zV_cm_ge (tgt := 84) (pc' := 20) dX3_setTones_0.2.1.1.2 rfl rfl ⟨by omega, by omega⟩ ⟨by omega, by omega⟩ (fun c17 => ?_) (fun c17 => ?_)
        · exact zV_vret rfl dX3_setTones_2.2.2.2 ⟨hF, ⟨hgh, (gc1.all (by omega))⟩⟩
        · refine zW_iconst (pc' := 21) dX3_setTones_0.2.1.2.1 rfl ?_
          refine zW_istore (ls' := [_, _, _, _, _, _, _, _]) (pc' := 23) dX3_setTones_0.2.1.2.2 (by decide) rfl rfl rfl ?_
          exact k23 _ _ _ hF (by omega) (by omega) (by omega) (by omega) (by first | exact gc0 | (intro k hk; rw [d69.cell (k := 90 + k) (by intro c hc; simp at hc; omega) (by intro c hc; simp at hc)]; exact gc0 k hk)) (by first | exact p69 | exact gc1) hF3 hgh (by omega)
      · intro v6 v7 h hF g0 g1 g2 g3 gc0 gc1 hF3 hgh hm
        refine zW_iload (pc' := 25) dX3_setTones_0.2.2.1.1 rfl rfl ?_
        refine zW_aload_n (pc' := 26) dX3_setTones_0.2.2.1.2 rfl rfl ?_
        refine zG_ref (pc' := 29) 33 fg_X3_23 tb87 rfl dX3_setTones_0.2.2.2.1 rfl ?_
        refine zG_key (pc' := 32) hF rfl fg_X3_48 tb33 rfl dX3_setTones_0.2.2.2.2 rfl ?_
        refine zV_cm_ge (tgt := 78) (pc' := 35) dX3_setTones_1.1.1.1.1 rfl rfl ⟨by omega, by omega⟩ ⟨by omega, by omega⟩ (fun c32 => ?_) (fun c32 => ?_)
        · refine zW_iinc (ls' := [_, _, _, _, _, _, _, _]) (pc' := 81) dX3_setTones_2.2.2.1.1 rfl (by decide) rfl rfl rfl ?_
          refine zV_goto 8 dX3_setTones_2.2.2.1.2 rfl ?_
          refine zV_clr 7 (ls' := [_, _, _, _, _, _, _, _]) rfl ?_
          exact k8 _ _ hF (by omega) (by omega) (by first | exact gc0 | exact p2) (by first | exact gc1.rowx (by omega) | exact PuS.no) hF3 hgh (by omega)
        · refine zW_aload_n (pc' := 36) dX3_setTones_1.1.1.1.2 rfl rfl ?_
          refine zW_aload_n (pc' := 37) dX3_setTones_1.1.1.2.1 rfl rfl ?_
          refine zW_aload_n (pc' := 38) dX3_setTones_1.1.1.2.2 rfl rfl ?_
          refine zW_iload (pc' := 40) dX3_setTones_1.1.2.1.1 rfl rfl ?_
          refine zW_bipush (pc' := 42) dX3_setTones_1.1.2.1.2 rfl rfl ?_
          refine zW_imul (pc' := 43) dX3_setTones_1.1.2.2.1 rfl ?_
          refine zW_iload (pc' := 45) dX3_setTones_1.1.2.2.2 rfl rfl ?_
          refine zW_iadd (pc' := 46) dX3_setTones_1.2.1.1.1 rfl ?_
          refine zW_aload_n (pc' := 47) dX3_setTones_1.2.1.1.2 rfl rfl ?_
          refine zW_iload (pc' := 49) dX3_setTones_1.2.1.2.1 rfl rfl ?_
          refine zW_iload (pc' := 51) dX3_setTones_1.2.1.2.2 rfl rfl ?_
          refine zW_iload_n (pc' := 52) dX3_setTones_1.2.2.1.1 rfl rfl ?_
          refine zW_iload (pc' := 54) dX3_setTones_1.2.2.1.2 rfl rfl ?_
          refine zW_iload (pc' := 56) dX3_setTones_1.2.2.2.1 rfl rfl ?_
          refine cvI5 (pc' := 59) kX3_toneOf vX3_toneOf lk_X3_133 ⟨Nat.le_of_ble_eq_true rfl, Nat.le_of_ble_eq_true rfl⟩ tb87 vq3 rfl rfl (s_X3_toneOfZ hK hF _ ⟨by omega, by omega, by omega⟩ _ ⟨by omega, by omega, by omega⟩ _ ⟨by omega, by omega⟩ _ ⟨by omega, by omega⟩ _ ⟨by omega, by omega⟩ F gc0 (by omega)) dX3_setTones_1.2.2.2.2 (Nat.le_of_ble_eq_true rfl) rfl ?_
          rintro r56 z56 ⟨hz56, p56⟩; subst z56
          refine zW_aload_n (pc' := 60) dX3_setTones_2.1.1.1.1 rfl rfl ?_
          refine zW_iconst (pc' := 61) dX3_setTones_2.1.1.1.2 rfl ?_
          refine zW_iload (pc' := 63) dX3_setTones_2.1.1.2 rfl rfl ?_
          refine zW_iload (pc' := 65) dX3_setTones_2.1.2.1.1 rfl rfl ?_
          refine cvI3 (pc' := 68) kX3_floorOf vX3_floorOf lk_X3_137 ⟨Nat.le_of_ble_eq_true rfl, Nat.le_of_ble_eq_true rfl⟩ tb87 vq3 rfl rfl (s_X3_floorOfZ hK hF _ ⟨by omega, by omega⟩ _ ⟨by omega, by omega, by omega⟩ _ ⟨by omega, by omega, by omega⟩ F gc0 (by omega)) dX3_setTones_2.1.2.1.2 (Nat.le_of_ble_eq_true rfl) rfl ?_
          rintro r65 z65 ⟨hz65, p65⟩; subst z65
          have k65 : r65 = lgt F v7 v6 := by have z := p65.2.2; rw [show v7 / 2 ^ (0 : Int).toNat = v7 by show v7 / 1 = v7; omega, show v6 / 2 ^ (0 : Int).toNat = v6 by show v6 / 1 = v6; omega] at z; exact z
          refine zW_isub (pc' := 69) dX3_setTones_2.1.2.2 rfl ?_
          refine cvV4 (pc' := 72) kX3_addToAll vX3_addToAll lk_X3_121 ⟨Nat.le_of_ble_eq_true rfl, Nat.le_of_ble_eq_true rfl⟩ tb87 vq3 rfl rfl (s_X3_addToAllZ hK hF _ ⟨by omega, by omega⟩ _ ⟨by omega, by omega⟩ _ ⟨by omega, by omega⟩ _ ⟨by omega, by omega⟩ F (toF (κ 33 0) (κ 33 1) F x3 x4 x5) v7 v6 h hto (by omega) (by omega) (by omega) ⟨by omega, by omega, by omega, by omega⟩ (by omega) (fun c hc => by unfold toF; rw [← p56.2.2, ← k65]) gc1 Fw.rf) dX3_setTones_2.2.1.1.1 (Nat.le_of_ble_eq_true rfl) rfl ?_
          rintro r69 h ⟨hF, d69, p69⟩
          replace hF3 : FuS (κ 33 0) (κ 33 1) (h (s1 + 15)) F := by have q0_ := (d69.cell (k := (s1 + 15)) (by intro c hc; simp at hc <;> omega) (by rintro ⟨a, b⟩ hp; simp at hp <;> (show _ ≠ a; omega))); rw [q0_]; exact hF3
          replace hgh : Fw [90, 91, 92, 93, (s2 + 15)] [] gh0 h := hgh.tr d69 (by simp) (by simp)
          refine zW_iinc (ls' := [_, _, _, _, _, _, _, _]) (pc' := 75) dX3_setTones_2.2.1.1.2 rfl (by decide) rfl rfl rfl ?_
          refine zV_goto 23 dX3_setTones_2.2.1.2 rfl ?_
          exact k23 _ _ _ hF (by omega) (by omega) (by omega) (by omega) (by first | exact gc0 | (intro k hk; rw [d69.cell (k := 90 + k) (by intro c hc; simp at hc; omega) (by intro c hc; simp at hc)]; exact gc0 k hk)) (by first | exact p69 | exact gc1) hF3 hgh (by omega)
  refine zM_of [some (.inr (.inr 87)), some (.inr (.inr s1)), some (.inr (.inr s2)), some (.inl x3), some (.inl x4), some (.inl x5), none, none] 2 rfl rfl (Nat.le_of_ble_eq_true rfl) rfl ?_
  refine zW_aload_n (pc' := 1) dX3_setTones_0.1.1.1.1 rfl rfl ?_
  refine zW_aload_n (pc' := 2) dX3_setTones_0.1.1.1.2 rfl rfl ?_
  refine cvV1 (pc' := 5) kX3_buildFloors vX3_buildFloors lk_X3_129 ⟨Nat.le_of_ble_eq_true rfl, Nat.le_of_ble_eq_true rfl⟩ tb87 vq3 rfl rfl (s_X3_buildFloorsZ hK hF _ ⟨by omega, by omega⟩ F h (by omega) (by omega) Fw.rf) dX3_setTones_0.1.1.2.1 (Nat.le_of_ble_eq_true rfl) rfl ?_
  rintro r2 h ⟨hF, d2, p2⟩
  replace hF3 : FuS (κ 33 0) (κ 33 1) (h (s1 + 15)) F := by have q0_ := (d2.cell (k := (s1 + 15)) (by intro c hc; simp at hc <;> omega) (by rintro ⟨a, b⟩ hp; simp at hp <;> (show _ ≠ a; omega))); rw [q0_]; exact hF3
  replace hgh : Fw [90, 91, 92, 93, (s2 + 15)] [] gh0 h := hgh.tr d2 (by simp) (by simp)
  refine zW_iconst (pc' := 6) dX3_setTones_0.1.1.2.2 rfl ?_
  refine zW_istore (ls' := [_, _, _, _, _, _, _, _]) (pc' := 8) dX3_setTones_0.1.2.1.1 (by decide) rfl rfl rfl ?_
  exact (main 10000000000000000000000000000000000000000).1 _ _ hF (by omega) (by omega) (by first | exact gc0 | exact p2) (by first | exact gc1.rowx (by omega) | exact PuS.no) hF3 hgh (by omega)
