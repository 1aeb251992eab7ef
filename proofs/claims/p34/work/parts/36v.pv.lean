/-! which way a square is filled; how many are -/
def acW (W : Int) (f : Int → Int → Int) (x y : Int) : Int := ab (f (mir (x - 1) W) y - f (mir (x + 1) W) y) + ab (2 * f x y - f (mir (x - 2) W) y - f (mir (x + 2) W) y)
def dnW (H : Int) (f : Int → Int → Int) (x y : Int) : Int := ab (f x (mir (y - 1) H) - f x (mir (y + 1) H)) + ab (2 * f x y - f x (mir (y - 2) H) - f x (mir (y + 2) H))
def wy (W H : Int) (f : Int → Int → Int) (x y : Int) : Int := if acW W f x y < dnW H f x y then 0 else if dnW H f x y < acW W f x y then 1 else 2
theorem wy_cong {W H : Int} {f f' : Int → Int → Int} (hW : 4 ≤ W) (hH : 4 ≤ H) (hf : ∀ x y, inP W H x y → f x y = f' x y) {x y : Int} (h : inP W H x y) : wy W H f x y = wy W H f' x y := by
  obtain ⟨h1, h2, h3, h4⟩ := h
  have m1 := mir_b (v := x - 2) hW (by omega) (by omega)
  have m2 := mir_b (v := x + 2) hW (by omega) (by omega)
  have m3 := mir_b (v := y - 2) hH (by omega) (by omega)
  have m4 := mir_b (v := y + 2) hH (by omega) (by omega)
  have m5 := mir_b (v := x - 1) hW (by omega) (by omega)
  have m6 := mir_b (v := x + 1) hW (by omega) (by omega)
  have m7 := mir_b (v := y - 1) hH (by omega) (by omega)
  have m8 := mir_b (v := y + 1) hH (by omega) (by omega)
  unfold wy acW dnW
  rw [hf _ _ ⟨m1.1, m1.2, h3, h4⟩, hf _ _ ⟨m2.1, m2.2, h3, h4⟩, hf _ _ ⟨h1, h2, m3.1, m3.2⟩, hf _ _ ⟨h1, h2, m4.1, m4.2⟩, hf _ _ ⟨m5.1, m5.2, h3, h4⟩, hf _ _ ⟨m6.1, m6.2, h3, h4⟩, hf _ _ ⟨h1, h2, m7.1, m7.2⟩, hf _ _ ⟨h1, h2, m8.1, m8.2⟩, hf _ _ ⟨h1, h2, h3, h4⟩]
def cwR (W H P : Int) (f : Int → Int → Int) (w y : Int) : Nat → Int
  | 0 => 0
  | n + 1 => cwR W H P f w y n + (if ((n : Int) + P) % 2 + (y + P / 2) % 2 ≠ 1 ∧ wy W H f n y = w then 1 else 0)
def cyS (W H P : Int) (f : Int → Int → Int) (w : Int) : Nat → Int
  | 0 => 0
  | n + 1 => cyS W H P f w n + cwR W H P f w n W.toNat
theorem cwR_s {W H P : Int} {f : Int → Int → Int} {w y v : Int} (h : 0 ≤ v) : cwR W H P f w y (v + 1).toNat = cwR W H P f w y v.toNat + (if (v + P) % 2 + (y + P / 2) % 2 ≠ 1 ∧ wy W H f v y = w then 1 else 0) := by
  rw [show (v + 1).toNat = v.toNat + 1 by omega]
  show cwR W H P f w y v.toNat + (if (((v.toNat : Nat) : Int) + P) % 2 + (y + P / 2) % 2 ≠ 1 ∧ wy W H f ((v.toNat : Nat) : Int) y = w then 1 else 0) = _
  rw [show ((v.toNat : Nat) : Int) = v by omega]
theorem cyS_s {W H P : Int} {f : Int → Int → Int} {w v : Int} (h : 0 ≤ v) : cyS W H P f w (v + 1).toNat = cyS W H P f w v.toNat + cwR W H P f w v W.toNat := by
  rw [show (v + 1).toNat = v.toNat + 1 by omega]
  show cyS W H P f w v.toNat + cwR W H P f w ((v.toNat : Nat) : Int) W.toNat = _
  rw [show ((v.toNat : Nat) : Int) = v by omega]
theorem cwR_b {W H P : Int} {f : Int → Int → Int} {w y : Int} : ∀ n : Nat, 0 ≤ cwR W H P f w y n ∧ cwR W H P f w y n ≤ n
  | 0 => ⟨Int.le_refl 0, Int.le_refl 0⟩
  | n + 1 => by
    have z := cwR_b (W := W) (H := H) (P := P) (f := f) (w := w) (y := y) n
    show 0 ≤ cwR W H P f w y n + _ ∧ cwR W H P f w y n + _ ≤ _
    split <;> omega
theorem cyS_b {W H P : Int} {f : Int → Int → Int} {w : Int} (hW : 0 ≤ W ∧ W ≤ 16) : ∀ n : Nat, 0 ≤ cyS W H P f w n ∧ cyS W H P f w n ≤ 16 * n
  | 0 => ⟨Int.le_refl 0, Int.le_refl 0⟩
  | n + 1 => by
    have z := cyS_b (H := H) (P := P) (f := f) (w := w) hW n
    have u := cwR_b (W := W) (H := H) (P := P) (f := f) (w := w) (y := n) W.toNat
    show 0 ≤ cyS W H P f w n + cwR W H P f w n W.toNat ∧ cyS W H P f w n + cwR W H P f w n W.toNat ≤ _
    omega
theorem cwR_cong {W H P : Int} {f f' : Int → Int → Int} {w y : Int} (hW : 4 ≤ W) (hH : 4 ≤ H) (hf : ∀ x y, inP W H x y → f x y = f' x y) (hy : 0 ≤ y ∧ y < H) : ∀ n : Nat, (n : Int) ≤ W → cwR W H P f w y n = cwR W H P f' w y n
  | 0, _ => rfl
  | n + 1, hn => by
    show cwR W H P f w y n + _ = cwR W H P f' w y n + _
    rw [cwR_cong hW hH hf hy n (by omega), wy_cong hW hH hf (x := n) (y := y) ⟨by omega, by omega, hy.1, hy.2⟩]
theorem cyS_cong {W H P : Int} {f f' : Int → Int → Int} {w : Int} (hW : 4 ≤ W) (hH : 4 ≤ H) (hf : ∀ x y, inP W H x y → f x y = f' x y) : ∀ n : Nat, (n : Int) ≤ H → cyS W H P f w n = cyS W H P f' w n
  | 0, _ => rfl
  | n + 1, hn => by
    show cyS W H P f w n + _ = cyS W H P f' w n + _
    rw [cyS_cong hW hH hf n (by omega), cwR_cong hW hH hf ⟨by omega, by omega⟩ W.toNat (by omega)]
def wsQ (W H P F : Int) (n : Int) (E : Nat → Int → Int → Int) (x1 : Int) : Int := if 0 ≤ x1 ∧ x1 ≤ 2 then (if 1 ≤ F ∧ n = 1 then cyS W H P (E (F - 1).toNat) x1 H.toNat else -3) else -1

abbrev q_X12_wayOfZ (κ h : Hp) (x1 : Int) (x2 : Int) (x3 : Int) (f : Int → Int → Int) : Int → Hp → Prop := fun r h' => h' = h ∧ ((0 ≤ r) ∧ (r ≤ 2) ∧ (r = wy (κ 0 11) (κ 0 12) f x2 x3))
set_option maxHeartbeats 4000000 in
set_option maxRecDepth 20000 in
theorem s_X12_wayOfZ {G : Ga} {b : Bd} {κ h : Hp} (hK : KR κ) (hF : Fr b κ h) (x1 : Int) (hx1 : 0 ≤ x1 ∧ x1 ≤ 14) (x2 : Int) (hx2 : 0 ≤ x2 ∧ x2 ≤ 15 ∧ x2 - κ 0 11 ≤ -1) (x3 : Int) (hx3 : 0 ≤ x3 ∧ x3 ≤ 15 ∧ x3 - κ 0 12 ≤ -1) (f : Int → Int → Int) (hf : Row17 κ (h 17) x1 f) (hfb : FB (κ 0 11) (κ 0 12) f) : zM G mX12_wayOf yX12_wayOf [.inr (.inr 0), .inl x1, .inl x2, .inl x3] h (q_X12_wayOfZ κ h x1 x2 x3 f) := by
  have f_0_11 := KRw hK
  have f_0_12 := KRh hK
  refine zM_of [some (.inr (.inr 0)), some (.inl x1), some (.inl x2), some (.inl x3), none, none, none] 3 rfl rfl (Nat.le_of_ble_eq_true rfl) rfl ?_
  refine zW_iconst (pc' := 1) dX12_wayOf_0.1.1.1.1 rfl ?_
  refine zW_aload_n (pc' := 2) dX12_wayOf_0.1.1.1.2 rfl rfl ?_
  refine zW_iload_n (pc' := 3) dX12_wayOf_0.1.1.2.1 rfl rfl ?_
  refine zW_iload_n (pc' := 4) dX12_wayOf_0.1.1.2.2 rfl rfl ?_
  refine zW_iload_n (pc' := 5) dX12_wayOf_0.1.2.1.1 rfl rfl ?_
  refine cvI3 (pc' := 8) kX12_own vX12_own lk_X12_246 ⟨Nat.le_of_ble_eq_true rfl, Nat.le_of_ble_eq_true rfl⟩ tb0 vq12 rfl rfl (s_X12_ownZ hK hF _ ⟨by omega, by omega⟩ _ ⟨by omega, by omega, by omega⟩ _ ⟨by omega, by omega, by omega⟩ f (by omega) (by omega)) dX12_wayOf_0.1.2.1.2 (Nat.le_of_ble_eq_true rfl) rfl ?_
  rintro r5 z5 ⟨hz5, p5⟩; subst z5
  refine zW_imul (pc' := 9) dX12_wayOf_0.1.2.2.1 rfl ?_
  refine zW_istore (ls' := [_, _, _, _, _, _, _]) (pc' := 11) dX12_wayOf_0.1.2.2.2 (by decide) rfl rfl rfl ?_
  refine zW_aload_n (pc' := 12) dX12_wayOf_0.2.1.1.1 rfl rfl ?_
  refine zW_iload_n (pc' := 13) dX12_wayOf_0.2.1.1.2 rfl rfl ?_
  refine zW_iload_n (pc' := 14) dX12_wayOf_0.2.1.2.1 rfl rfl ?_
  refine zW_iconst (pc' := 15) dX12_wayOf_0.2.1.2.2 rfl ?_
  refine zW_isub (pc' := 16) dX12_wayOf_0.2.2.1.1 rfl ?_
  refine zW_iload_n (pc' := 17) dX12_wayOf_0.2.2.1.2 rfl rfl ?_
  refine cvI3 (pc' := 20) kX12_own vX12_own lk_X12_246 ⟨Nat.le_of_ble_eq_true rfl, Nat.le_of_ble_eq_true rfl⟩ tb0 vq12 rfl rfl (s_X12_ownZ hK hF _ ⟨by omega, by omega⟩ _ ⟨by omega, by omega, by omega⟩ _ ⟨by omega, by omega, by omega⟩ f (by omega) (by omega)) dX12_wayOf_0.2.2.2.1 (Nat.le_of_ble_eq_true rfl) rfl ?_
  rintro r17 z17 ⟨hz17, p17⟩; subst z17
  refine zW_aload_n (pc' := 21) dX12_wayOf_0.2.2.2.2 rfl rfl ?_
  refine zW_iload_n (pc' := 22) dX12_wayOf_1.1.1.1.1 rfl rfl ?_
  refine zW_iload_n (pc' := 23) dX12_wayOf_1.1.1.1.2 rfl rfl ?_
  refine zW_iconst (pc' := 24) dX12_wayOf_1.1.1.2.1 rfl ?_
  refine zW_iadd (pc' := 25) dX12_wayOf_1.1.1.2.2 rfl ?_
  refine zW_iload_n (pc' := 26) dX12_wayOf_1.1.2.1.1 rfl rfl ?_
  refine cvI3 (pc' := 29) kX12_own vX12_own lk_X12_246 ⟨Nat.le_of_ble_eq_true rfl, Nat.le_of_ble_eq_true rfl⟩ tb0 vq12 rfl rfl (s_X12_ownZ hK hF _ ⟨by omega, by omega⟩ _ ⟨by omega, by omega, by omega⟩ _ ⟨by omega, by omega, by omega⟩ f (by omega) (by omega)) dX12_wayOf_1.1.2.1.2 (Nat.le_of_ble_eq_true rfl) rfl ?_
  rintro r26 z26 ⟨hz26, p26⟩; subst z26
  refine zW_isub (pc' := 30) dX12_wayOf_1.1.2.2.1 rfl ?_
  refine csI1 (pc' := 33) kX12_size vX12_size lk_X12_257 ⟨Nat.le_of_ble_eq_true rfl, Nat.le_of_ble_eq_true rfl⟩ rfl (s_X12_sizeR hF _ ⟨by omega, by omega⟩) dX12_wayOf_1.1.2.2.2 (Nat.le_of_ble_eq_true rfl) rfl ?_
  rintro r30 z30 ⟨hz30, p30⟩; subst z30
  refine zW_iload (pc' := 35) dX12_wayOf_1.2.1.1.1 rfl rfl ?_
  refine zW_aload_n (pc' := 36) dX12_wayOf_1.2.1.1.2 rfl rfl ?_
  refine zW_iload_n (pc' := 37) dX12_wayOf_1.2.1.2.1 rfl rfl ?_
  refine zW_iload_n (pc' := 38) dX12_wayOf_1.2.1.2.2 rfl rfl ?_
  refine zW_iconst (pc' := 39) dX12_wayOf_1.2.2.1.1 rfl ?_
  refine zW_isub (pc' := 40) dX12_wayOf_1.2.2.1.2 rfl ?_
  refine zW_iload_n (pc' := 41) dX12_wayOf_1.2.2.2.1 rfl rfl ?_
  refine cvI3 (pc' := 44) kX12_own vX12_own lk_X12_246 ⟨Nat.le_of_ble_eq_true rfl, Nat.le_of_ble_eq_true rfl⟩ tb0 vq12 rfl rfl (s_X12_ownZ hK hF _ ⟨by omega, by omega⟩ _ ⟨by omega, by omega, by omega⟩ _ ⟨by omega, by omega, by omega⟩ f (by omega) (by omega)) dX12_wayOf_1.2.2.2.2 (Nat.le_of_ble_eq_true rfl) rfl ?_
  rintro r41 z41 ⟨hz41, p41⟩; subst z41
  refine zW_isub (pc' := 45) dX12_wayOf_2.1.1.1.1 rfl ?_
  refine zW_aload_n (pc' := 46) dX12_wayOf_2.1.1.1.2 rfl rfl ?_
  refine zW_iload_n (pc' := 47) dX12_wayOf_2.1.1.2.1 rfl rfl ?_
  refine zW_iload_n (pc' := 48) dX12_wayOf_2.1.1.2.2 rfl rfl ?_
  refine zW_iconst (pc' := 49) dX12_wayOf_2.1.2.1.1 rfl ?_
  refine zW_iadd (pc' := 50) dX12_wayOf_2.1.2.1.2 rfl ?_
  refine zW_iload_n (pc' := 51) dX12_wayOf_2.1.2.2.1 rfl rfl ?_
  refine cvI3 (pc' := 54) kX12_own vX12_own lk_X12_246 ⟨Nat.le_of_ble_eq_true rfl, Nat.le_of_ble_eq_true rfl⟩ tb0 vq12 rfl rfl (s_X12_ownZ hK hF _ ⟨by omega, by omega⟩ _ ⟨by omega, by omega, by omega⟩ _ ⟨by omega, by omega, by omega⟩ f (by omega) (by omega)) dX12_wayOf_2.1.2.2.2 (Nat.le_of_ble_eq_true rfl) rfl ?_
  rintro r51 z51 ⟨hz51, p51⟩; subst z51
  refine zW_isub (pc' := 55) dX12_wayOf_2.2.1.1.1 rfl ?_
  refine csI1 (pc' := 58) kX12_size vX12_size lk_X12_257 ⟨Nat.le_of_ble_eq_true rfl, Nat.le_of_ble_eq_true rfl⟩ rfl (s_X12_sizeR hF _ ⟨by omega, by omega⟩) dX12_wayOf_2.2.1.1.2 (Nat.le_of_ble_eq_true rfl) rfl ?_
  rintro r55 z55 ⟨hz55, p55⟩; subst z55
  refine zW_iadd (pc' := 59) dX12_wayOf_2.2.1.2.1 rfl ?_
  refine zW_istore (ls' := [_, _, _, _, _, _, _]) (pc' := 61) dX12_wayOf_2.2.1.2.2 (by decide) rfl rfl rfl ?_
  refine zW_aload_n (pc' := 62) dX12_wayOf_2.2.2.1.1 rfl rfl ?_
  refine zW_iload_n (pc' := 63) dX12_wayOf_2.2.2.1.2 rfl rfl ?_
  refine zW_iload_n (pc' := 64) dX12_wayOf_2.2.2.2.1 rfl rfl ?_
  refine zW_iload_n (pc' := 65) dX12_wayOf_2.2.2.2.2 rfl rfl ?_
  refine zW_iconst (pc' := 66) dX12_wayOf_3.1.1.1.1 rfl ?_
  refine zW_isub (pc' := 67) dX12_wayOf_3.1.1.1.2 rfl ?_
  refine cvI3 (pc' := 70) kX12_own vX12_own lk_X12_246 ⟨Nat.le_of_ble_eq_true rfl, Nat.le_of_ble_eq_true rfl⟩ tb0 vq12 rfl rfl (s_X12_ownZ hK hF _ ⟨by omega, by omega⟩ _ ⟨by omega, by omega, by omega⟩ _ ⟨by omega, by omega, by omega⟩ f (by omega) (by omega)) dX12_wayOf_3.1.1.2.1 (Nat.le_of_ble_eq_true rfl) rfl ?_
  rintro r67 z67 ⟨hz67, p67⟩; subst z67
  refine zW_aload_n (pc' := 71) dX12_wayOf_3.1.1.2.2 rfl rfl ?_
  refine zW_iload_n (pc' := 72) dX12_wayOf_3.1.2.1.1 rfl rfl ?_
  refine zW_iload_n (pc' := 73) dX12_wayOf_3.1.2.1.2 rfl rfl ?_
  refine zW_iload_n (pc' := 74) dX12_wayOf_3.1.2.2.1 rfl rfl ?_
  refine zW_iconst (pc' := 75) dX12_wayOf_3.1.2.2.2 rfl ?_
  refine zW_iadd (pc' := 76) dX12_wayOf_3.2.1.1.1 rfl ?_
  refine cvI3 (pc' := 79) kX12_own vX12_own lk_X12_246 ⟨Nat.le_of_ble_eq_true rfl, Nat.le_of_ble_eq_true rfl⟩ tb0 vq12 rfl rfl (s_X12_ownZ hK hF _ ⟨by omega, by omega⟩ _ ⟨by omega, by omega, by omega⟩ _ ⟨by omega, by omega, by omega⟩ f (by omega) (by omega)) dX12_wayOf_3.2.1.1.2 (Nat.le_of_ble_eq_true rfl) rfl ?_
  rintro r76 z76 ⟨hz76, p76⟩; subst z76
  refine zW_isub (pc' := 80) dX12_wayOf_3.2.1.2.1 rfl ?_
  refine csI1 (pc' := 83) kX12_size vX12_size lk_X12_257 ⟨Nat.le_of_ble_eq_true rfl, Nat.le_of_ble_eq_true rfl⟩ rfl (s_X12_sizeR hF _ ⟨by omega, by omega⟩) dX12_wayOf_3.2.1.2.2 (Nat.le_of_ble_eq_true rfl) rfl ?_
  rintro r80 z80 ⟨hz80, p80⟩; subst z80
  refine zW_iload (pc' := 85) dX12_wayOf_3.2.2.1.1 rfl rfl ?_
  refine zW_aload_n (pc' := 86) dX12_wayOf_3.2.2.1.2 rfl rfl ?_
  refine zW_iload_n (pc' := 87) dX12_wayOf_3.2.2.2.1 rfl rfl ?_
  refine zW_iload_n (pc' := 88) dX12_wayOf_3.2.2.2.2 rfl rfl ?_
  refine zW_iload_n (pc' := 89) dX12_wayOf_4.1.1.1.1 rfl rfl ?_
  refine zW_iconst (pc' := 90) dX12_wayOf_4.1.1.1.2 rfl ?_
  refine zW_isub (pc' := 91) dX12_wayOf_4.1.1.2.1 rfl ?_
  refine cvI3 (pc' := 94) kX12_own vX12_own lk_X12_246 ⟨Nat.le_of_ble_eq_true rfl, Nat.le_of_ble_eq_true rfl⟩ tb0 vq12 rfl rfl (s_X12_ownZ hK hF _ ⟨by omega, by omega⟩ _ ⟨by omega, by omega, by omega⟩ _ ⟨by omega, by omega, by omega⟩ f (by omega) (by omega)) dX12_wayOf_4.1.1.2.2 (Nat.le_of_ble_eq_true rfl) rfl ?_
  rintro r91 z91 ⟨hz91, p91⟩; subst z91
  refine zW_isub (pc' := 95) dX12_wayOf_4.1.2.1.1 rfl ?_
  refine zW_aload_n (pc' := 96) dX12_wayOf_4.1.2.1.2 rfl rfl ?_
  refine zW_iload_n (pc' := 97) dX12_wayOf_4.1.2.2.1 rfl rfl ?_
  refine zW_iload_n (pc' := 98) dX12_wayOf_4.1.2.2.2 rfl rfl ?_
  refine zW_iload_n (pc' := 99) dX12_wayOf_4.2.1.1.1 rfl rfl ?_
  refine zW_iconst (pc' := 100) dX12_wayOf_4.2.1.1.2 rfl ?_
  refine zW_iadd (pc' := 101) dX12_wayOf_4.2.1.2.1 rfl ?_
  refine cvI3 (pc' := 104) kX12_own vX12_own lk_X12_246 ⟨Nat.le_of_ble_eq_true rfl, Nat.le_of_ble_eq_true rfl⟩ tb0 vq12 rfl rfl (s_X12_ownZ hK hF _ ⟨by omega, by omega⟩ _ ⟨by omega, by omega, by omega⟩ _ ⟨by omega, by omega, by omega⟩ f (by omega) (by omega)) dX12_wayOf_4.2.1.2.2 (Nat.le_of_ble_eq_true rfl) rfl ?_
  rintro r101 z101 ⟨hz101, p101⟩; subst z101
  refine zW_isub (pc' := 105) dX12_wayOf_4.2.2.1.1 rfl ?_
  refine csI1 (pc' := 108) kX12_size vX12_size lk_X12_257 ⟨Nat.le_of_ble_eq_true rfl, Nat.le_of_ble_eq_true rfl⟩ rfl (s_X12_sizeR hF _ ⟨by omega, by omega⟩) dX12_wayOf_4.2.2.1.2 (Nat.le_of_ble_eq_true rfl) rfl ?_
  rintro r105 z105 ⟨hz105, p105⟩; subst z105
  refine zW_iadd (pc' := 109) dX12_wayOf_4.2.2.2.1 rfl ?_
  refine zW_istore (ls' := [_, _, _, _, _, _, _]) (pc' := 111) dX12_wayOf_4.2.2.2.2 (by decide) rfl rfl rfl ?_
  have mx := mir_i (v := x2) (n := κ 0 11) ⟨by omega, by omega⟩
  have my := mir_i (v := x3) (n := κ 0 12) ⟨by omega, by omega⟩
  rw [mx, my] at p5
  rw [my] at p17 p26 p41 p51
  rw [mx] at p67 p76 p91 p101
  have z1 := abc (f (mir (x2 - 1) (κ 0 11)) x3 - f (mir (x2 + 1) (κ 0 11)) x3)
  have z2 := abc (2 * f x2 x3 - f (mir (x2 - 2) (κ 0 11)) x3 - f (mir (x2 + 2) (κ 0 11)) x3)
  have z3 := abc (f x2 (mir (x3 - 1) (κ 0 12)) - f x2 (mir (x3 + 1) (κ 0 12)))
  have z4 := abc (2 * f x2 x3 - f x2 (mir (x3 - 2) (κ 0 12)) - f x2 (mir (x3 + 2) (κ 0 12)))
  have ea : r30 + r55 = acW (κ 0 11) f x2 x3 := by unfold acW; omega
  have ed : r80 + r105 = dnW (κ 0 12) f x2 x3 := by unfold dnW; omega
  refine zW_iload (pc' := 113) dX12_wayOf_5.1.1.1.1 rfl rfl ?_
  refine zW_iload (pc' := 115) dX12_wayOf_5.1.1.1.2 rfl rfl ?_
  refine zV_cm_ge (tgt := 122) (pc' := 118) dX12_wayOf_5.1.1.2 rfl rfl ⟨by omega, by omega⟩ ⟨by omega, by omega⟩ (fun c115 => ?_) (fun c115 => ?_)
  · refine zW_iload (pc' := 124) dX12_wayOf_5.1.2.2 rfl rfl ?_
    refine zW_iload (pc' := 126) dX12_wayOf_5.2.1.1.1 rfl rfl ?_
    refine zV_cm_ge (tgt := 133) (pc' := 129) dX12_wayOf_5.2.1.1.2 rfl rfl ⟨by omega, by omega⟩ ⟨by omega, by omega⟩ (fun c126 => ?_) (fun c126 => ?_)
    · refine zW_iconst (pc' := 134) dX12_wayOf_5.2.2.1.2 rfl ?_
      exact zV_iret rfl dX12_wayOf_5.2.2.2 ⟨rfl, (by refine ⟨by omega, by omega, ?_⟩; unfold wy; rw [← ea, ← ed]; first | (rw [if_pos (by omega)]) | (rw [if_neg (by omega), if_pos (by omega)]) | (rw [if_neg (by omega), if_neg (by omega)]))⟩
    · refine zW_iconst (pc' := 130) dX12_wayOf_5.2.1.2 rfl ?_
      refine zV_goto 134 dX12_wayOf_5.2.2.1.1 rfl ?_
      exact zV_iret rfl dX12_wayOf_5.2.2.2 ⟨rfl, (by refine ⟨by omega, by omega, ?_⟩; unfold wy; rw [← ea, ← ed]; first | (rw [if_pos (by omega)]) | (rw [if_neg (by omega), if_pos (by omega)]) | (rw [if_neg (by omega), if_neg (by omega)]))⟩
  · refine zW_iconst (pc' := 119) dX12_wayOf_5.1.2.1.1 rfl ?_
    refine zV_goto 134 dX12_wayOf_5.1.2.1.2 rfl ?_
    exact zV_iret rfl dX12_wayOf_5.2.2.2 ⟨rfl, (by refine ⟨by omega, by omega, ?_⟩; unfold wy; rw [← ea, ← ed]; first | (rw [if_pos (by omega)]) | (rw [if_neg (by omega), if_pos (by omega)]) | (rw [if_neg (by omega), if_neg (by omega)]))⟩

abbrev q_X2_wayOfZ (κ h : Hp) (s1 : Nat) (x2 : Int) (x3 : Int) (f : Int → Int → Int) : Int → Hp → Prop := fun r h' => h' = h ∧ ((0 ≤ r) ∧ (r ≤ 2) ∧ (r = wy (κ 33 0) (κ 33 1) f x2 x3))
set_option maxHeartbeats 4000000 in
set_option maxRecDepth 20000 in
theorem s_X2_wayOfZ {G : Ga} {b : Bd} {κ h : Hp} (hK : KC κ) (hF : Fr b κ h) (s1 : Nat) (hs1 : 56 ≤ s1 ∧ s1 ≤ 70) (x2 : Int) (hx2 : 0 ≤ x2 ∧ x2 ≤ 15 ∧ x2 - κ 33 0 ≤ -1) (x3 : Int) (hx3 : 0 ≤ x3 ∧ x3 ≤ 15 ∧ x3 - κ 33 1 ≤ -1) (f : Int → Int → Int) (hf : ShE (κ 33 0) (κ 33 1) (h (s1 + 15)) f) (hfb : FB (κ 33 0) (κ 33 1) f) : zM G mX2_wayOf yX2_wayOf [.inr (.inr 86), .inr (.inr s1), .inl x2, .inl x3] h (q_X2_wayOfZ κ h s1 x2 x3 f) := by
  have f_33_0 := KCw hK
  have f_33_1 := KCh hK
  refine zM_of [some (.inr (.inr 86)), some (.inr (.inr s1)), some (.inl x2), some (.inl x3), none, none, none, none, none, none, none, none] 8 rfl rfl (Nat.le_of_ble_eq_true rfl) rfl ?_
  refine zW_aload_n (pc' := 1) dX2_wayOf_0.1.1.1.1 rfl rfl ?_
  refine zG_lev (pc' := 4) (by omega) (by omega) fg_X2_24 dX2_wayOf_0.1.1.1.2 rfl ?_
  refine zW_astore (ls' := [_, _, _, _, _, _, _, _, _, _, _, _]) (pc' := 6) dX2_wayOf_0.1.1.2.1 (by decide) rfl rfl rfl ?_
  refine zW_iload_n (pc' := 7) dX2_wayOf_0.1.1.2.2 rfl rfl ?_
  refine zW_bipush (pc' := 9) dX2_wayOf_0.1.2.1.1 rfl rfl ?_
  refine zW_imul (pc' := 10) dX2_wayOf_0.1.2.1.2 rfl ?_
  refine zW_istore (ls' := [_, _, _, _, _, _, _, _, _, _, _, _]) (pc' := 12) dX2_wayOf_0.1.2.2.1 (by decide) rfl rfl rfl ?_
  refine zW_aload (pc' := 14) dX2_wayOf_0.1.2.2.2 rfl rfl ?_
  refine zW_iload (pc' := 16) dX2_wayOf_0.2.1.1.1 rfl rfl ?_
  refine zW_iload_n (pc' := 17) dX2_wayOf_0.2.1.1.2 rfl rfl ?_
  refine zW_iconst (pc' := 18) dX2_wayOf_0.2.1.2.1 rfl ?_
  refine zW_isub (pc' := 19) dX2_wayOf_0.2.1.2.2 rfl ?_
  refine zW_aload_n (pc' := 20) dX2_wayOf_0.2.2.1.1 rfl rfl ?_
  refine zG_ref (pc' := 23) 33 fg_X2_9 tb86 rfl dX2_wayOf_0.2.2.1.2 rfl ?_
  refine zG_key (pc' := 26) hF rfl fg_X2_21 tb33 rfl dX2_wayOf_0.2.2.2.1 rfl ?_
  refine csI2 (pc' := 29) kX11_mirrored vX11_mirrored lk_X2_38 ⟨Nat.le_of_ble_eq_true rfl, Nat.le_of_ble_eq_true rfl⟩ rfl (s_X11_mirroredZ hF _ ⟨by omega, by omega⟩ _ ⟨by omega, by omega⟩ (by omega)) dX2_wayOf_0.2.2.2.2 (Nat.le_of_ble_eq_true rfl) rfl ?_
  rintro r26 z26 ⟨hz26, p26⟩; subst z26
  refine zW_iadd (pc' := 30) dX2_wayOf_1.1.1.1.1 rfl ?_
  refine zV_iald (pc' := 31) (tabL (by omega) (by omega)) (by omega) dX2_wayOf_1.1.1.1.2 (by decide) rfl ?_
  have q30 := hf.at (i := x3 * 16 + r26) (x := r26) (y := x3) ⟨by omega, by omega, by omega, by omega⟩ (by omega)
  have b30 := hfb (r26) (x3) ⟨by omega, by omega, by omega, by omega⟩
  rw [← q30] at b30
  refine zW_aload (pc' := 33) dX2_wayOf_1.1.1.2.1 rfl rfl ?_
  refine zW_iload (pc' := 35) dX2_wayOf_1.1.1.2.2 rfl rfl ?_
  refine zW_iload_n (pc' := 36) dX2_wayOf_1.1.2.1.1 rfl rfl ?_
  refine zW_iconst (pc' := 37) dX2_wayOf_1.1.2.1.2 rfl ?_
  refine zW_iadd (pc' := 38) dX2_wayOf_1.1.2.2.1 rfl ?_
  refine zW_aload_n (pc' := 39) dX2_wayOf_1.1.2.2.2 rfl rfl ?_
  refine zG_ref (pc' := 42) 33 fg_X2_9 tb86 rfl dX2_wayOf_1.2.1.1.1 rfl ?_
  refine zG_key (pc' := 45) hF rfl fg_X2_21 tb33 rfl dX2_wayOf_1.2.1.1.2 rfl ?_
  refine csI2 (pc' := 48) kX11_mirrored vX11_mirrored lk_X2_38 ⟨Nat.le_of_ble_eq_true rfl, Nat.le_of_ble_eq_true rfl⟩ rfl (s_X11_mirroredZ hF _ ⟨by omega, by omega⟩ _ ⟨by omega, by omega⟩ (by omega)) dX2_wayOf_1.2.1.2.1 (Nat.le_of_ble_eq_true rfl) rfl ?_
  rintro r45 z45 ⟨hz45, p45⟩; subst z45
  refine zW_iadd (pc' := 49) dX2_wayOf_1.2.1.2.2 rfl ?_
  refine zV_iald (pc' := 50) (tabL (by omega) (by omega)) (by omega) dX2_wayOf_1.2.2.1.1 (by decide) rfl ?_
  have q49 := hf.at (i := x3 * 16 + r45) (x := r45) (y := x3) ⟨by omega, by omega, by omega, by omega⟩ (by omega)
  have b49 := hfb (r45) (x3) ⟨by omega, by omega, by omega, by omega⟩
  rw [← q49] at b49
  refine zW_isub (pc' := 51) dX2_wayOf_1.2.2.1.2 rfl ?_
  refine zW_istore (ls' := [_, _, _, _, _, _, _, _, _, _, _, _]) (pc' := 53) dX2_wayOf_1.2.2.2.1 (by decide) rfl rfl rfl ?_
  refine zW_aload (pc' := 55) dX2_wayOf_1.2.2.2.2 rfl rfl ?_
  refine zW_iload (pc' := 57) dX2_wayOf_2.1.1.1.1 rfl rfl ?_
  refine zW_iload_n (pc' := 58) dX2_wayOf_2.1.1.1.2 rfl rfl ?_
  refine zW_iconst (pc' := 59) dX2_wayOf_2.1.1.2.1 rfl ?_
  refine zW_isub (pc' := 60) dX2_wayOf_2.1.1.2.2 rfl ?_
  refine zW_aload_n (pc' := 61) dX2_wayOf_2.1.2.1.1 rfl rfl ?_
  refine zG_ref (pc' := 64) 33 fg_X2_9 tb86 rfl dX2_wayOf_2.1.2.1.2 rfl ?_
  refine zG_key (pc' := 67) hF rfl fg_X2_21 tb33 rfl dX2_wayOf_2.1.2.2.1 rfl ?_
  refine csI2 (pc' := 70) kX11_mirrored vX11_mirrored lk_X2_38 ⟨Nat.le_of_ble_eq_true rfl, Nat.le_of_ble_eq_true rfl⟩ rfl (s_X11_mirroredZ hF _ ⟨by omega, by omega⟩ _ ⟨by omega, by omega⟩ (by omega)) dX2_wayOf_2.1.2.2.2 (Nat.le_of_ble_eq_true rfl) rfl ?_
  rintro r67 z67 ⟨hz67, p67⟩; subst z67
  refine zW_iadd (pc' := 71) dX2_wayOf_2.2.1.1.1 rfl ?_
  refine zV_iald (pc' := 72) (tabL (by omega) (by omega)) (by omega) dX2_wayOf_2.2.1.1.2 (by decide) rfl ?_
  have q71 := hf.at (i := x3 * 16 + r67) (x := r67) (y := x3) ⟨by omega, by omega, by omega, by omega⟩ (by omega)
  have b71 := hfb (r67) (x3) ⟨by omega, by omega, by omega, by omega⟩
  rw [← q71] at b71
  refine zW_aload (pc' := 74) dX2_wayOf_2.2.1.2.1 rfl rfl ?_
  refine zW_iload (pc' := 76) dX2_wayOf_2.2.1.2.2 rfl rfl ?_
  refine zW_iload_n (pc' := 77) dX2_wayOf_2.2.2.1.1 rfl rfl ?_
  refine zW_iconst (pc' := 78) dX2_wayOf_2.2.2.1.2 rfl ?_
  refine zW_iadd (pc' := 79) dX2_wayOf_2.2.2.2.1 rfl ?_
  refine zW_aload_n (pc' := 80) dX2_wayOf_2.2.2.2.2 rfl rfl ?_
  refine zG_ref (pc' := 83) 33 fg_X2_9 tb86 rfl dX2_wayOf_3.1.1.1.1 rfl ?_
  refine zG_key (pc' := 86) hF rfl fg_X2_21 tb33 rfl dX2_wayOf_3.1.1.1.2 rfl ?_
  refine csI2 (pc' := 89) kX11_mirrored vX11_mirrored lk_X2_38 ⟨Nat.le_of_ble_eq_true rfl, Nat.le_of_ble_eq_true rfl⟩ rfl (s_X11_mirroredZ hF _ ⟨by omega, by omega⟩ _ ⟨by omega, by omega⟩ (by omega)) dX2_wayOf_3.1.1.2.1 (Nat.le_of_ble_eq_true rfl) rfl ?_
  rintro r86 z86 ⟨hz86, p86⟩; subst z86
  refine zW_iadd (pc' := 90) dX2_wayOf_3.1.1.2.2 rfl ?_
  refine zV_iald (pc' := 91) (tabL (by omega) (by omega)) (by omega) dX2_wayOf_3.1.2.1.1 (by decide) rfl ?_
  have q90 := hf.at (i := x3 * 16 + r86) (x := r86) (y := x3) ⟨by omega, by omega, by omega, by omega⟩ (by omega)
  have b90 := hfb (r86) (x3) ⟨by omega, by omega, by omega, by omega⟩
  rw [← q90] at b90
  refine zW_iadd (pc' := 92) dX2_wayOf_3.1.2.1.2 rfl ?_
  refine zW_istore (ls' := [_, _, _, _, _, _, _, _, _, _, _, _]) (pc' := 94) dX2_wayOf_3.1.2.2.1 (by decide) rfl rfl rfl ?_
  refine zW_aload (pc' := 96) dX2_wayOf_3.1.2.2.2 rfl rfl ?_
  refine zW_iload_n (pc' := 97) dX2_wayOf_3.2.1.1.1 rfl rfl ?_
  refine zW_iconst (pc' := 98) dX2_wayOf_3.2.1.1.2 rfl ?_
  refine zW_isub (pc' := 99) dX2_wayOf_3.2.1.2.1 rfl ?_
  refine zW_aload_n (pc' := 100) dX2_wayOf_3.2.1.2.2 rfl rfl ?_
  refine zG_ref (pc' := 103) 33 fg_X2_9 tb86 rfl dX2_wayOf_3.2.2.1.1 rfl ?_
  refine zG_key (pc' := 106) hF rfl fg_X2_15 tb33 rfl dX2_wayOf_3.2.2.1.2 rfl ?_
  refine csI2 (pc' := 109) kX11_mirrored vX11_mirrored lk_X2_38 ⟨Nat.le_of_ble_eq_true rfl, Nat.le_of_ble_eq_true rfl⟩ rfl (s_X11_mirroredZ hF _ ⟨by omega, by omega⟩ _ ⟨by omega, by omega⟩ (by omega)) dX2_wayOf_3.2.2.2.1 (Nat.le_of_ble_eq_true rfl) rfl ?_
  rintro r106 z106 ⟨hz106, p106⟩; subst z106
  refine zW_bipush (pc' := 111) dX2_wayOf_3.2.2.2.2 rfl rfl ?_
  refine zW_imul (pc' := 112) dX2_wayOf_4.1.1.1.1 rfl ?_
  refine zW_iload_n (pc' := 113) dX2_wayOf_4.1.1.1.2 rfl rfl ?_
  refine zW_iadd (pc' := 114) dX2_wayOf_4.1.1.2.1 rfl ?_
  refine zV_iald (pc' := 115) (tabL (by omega) (by omega)) (by omega) dX2_wayOf_4.1.1.2.2 (by decide) rfl ?_
  have q114 := hf.at (i := r106 * 16 + x2) (x := x2) (y := r106) ⟨by omega, by omega, by omega, by omega⟩ (by omega)
  have b114 := hfb (x2) (r106) ⟨by omega, by omega, by omega, by omega⟩
  rw [← q114] at b114
  refine zW_aload (pc' := 117) dX2_wayOf_4.1.2.1.1 rfl rfl ?_
  refine zW_iload_n (pc' := 118) dX2_wayOf_4.1.2.1.2 rfl rfl ?_
  refine zW_iconst (pc' := 119) dX2_wayOf_4.1.2.2.1 rfl ?_
  refine zW_iadd (pc' := 120) dX2_wayOf_4.1.2.2.2 rfl ?_
  refine zW_aload_n (pc' := 121) dX2_wayOf_4.2.1.1.1 rfl rfl ?_
  refine zG_ref (pc' := 124) 33 fg_X2_9 tb86 rfl dX2_wayOf_4.2.1.1.2 rfl ?_
  refine zG_key (pc' := 127) hF rfl fg_X2_15 tb33 rfl dX2_wayOf_4.2.1.2.1 rfl ?_
  refine csI2 (pc' := 130) kX11_mirrored vX11_mirrored lk_X2_38 ⟨Nat.le_of_ble_eq_true rfl, Nat.le_of_ble_eq_true rfl⟩ rfl (s_X11_mirroredZ hF _ ⟨by omega, by omega⟩ _ ⟨by omega, by omega⟩ (by omega)) dX2_wayOf_4.2.1.2.2 (Nat.le_of_ble_eq_true rfl) rfl ?_
  rintro r127 z127 ⟨hz127, p127⟩; subst z127
  refine zW_bipush (pc' := 132) dX2_wayOf_4.2.2.1.1 rfl rfl ?_
  refine zW_imul (pc' := 133) dX2_wayOf_4.2.2.1.2 rfl ?_
  refine zW_iload_n (pc' := 134) dX2_wayOf_4.2.2.2.1 rfl rfl ?_
  refine zW_iadd (pc' := 135) dX2_wayOf_4.2.2.2.2 rfl ?_
  refine zV_iald (pc' := 136) (tabL (by omega) (by omega)) (by omega) dX2_wayOf_5.1.1.1.1 (by decide) rfl ?_
  have q135 := hf.at (i := r127 * 16 + x2) (x := x2) (y := r127) ⟨by omega, by omega, by omega, by omega⟩ (by omega)
  have b135 := hfb (x2) (r127) ⟨by omega, by omega, by omega, by omega⟩
  rw [← q135] at b135
  refine zW_isub (pc' := 137) dX2_wayOf_5.1.1.1.2 rfl ?_
  refine zW_istore (ls' := [_, _, _, _, _, _, _, _, _, _, _, _]) (pc' := 139) dX2_wayOf_5.1.1.2.1 (by decide) rfl rfl rfl ?_
  refine zW_aload (pc' := 141) dX2_wayOf_5.1.1.2.2 rfl rfl ?_
  refine zW_iload_n (pc' := 142) dX2_wayOf_5.1.2.1.1 rfl rfl ?_
  refine zW_iconst (pc' := 143) dX2_wayOf_5.1.2.1.2 rfl ?_
  refine zW_isub (pc' := 144) dX2_wayOf_5.1.2.2.1 rfl ?_
  refine zW_aload_n (pc' := 145) dX2_wayOf_5.1.2.2.2 rfl rfl ?_
  refine zG_ref (pc' := 148) 33 fg_X2_9 tb86 rfl dX2_wayOf_5.2.1.1.1 rfl ?_
  refine zG_key (pc' := 151) hF rfl fg_X2_15 tb33 rfl dX2_wayOf_5.2.1.1.2 rfl ?_
  refine csI2 (pc' := 154) kX11_mirrored vX11_mirrored lk_X2_38 ⟨Nat.le_of_ble_eq_true rfl, Nat.le_of_ble_eq_true rfl⟩ rfl (s_X11_mirroredZ hF _ ⟨by omega, by omega⟩ _ ⟨by omega, by omega⟩ (by omega)) dX2_wayOf_5.2.1.2.1 (Nat.le_of_ble_eq_true rfl) rfl ?_
  rintro r151 z151 ⟨hz151, p151⟩; subst z151
  refine zW_bipush (pc' := 156) dX2_wayOf_5.2.1.2.2 rfl rfl ?_
  refine zW_imul (pc' := 157) dX2_wayOf_5.2.2.1.1 rfl ?_
  refine zW_iload_n (pc' := 158) dX2_wayOf_5.2.2.1.2 rfl rfl ?_
  refine zW_iadd (pc' := 159) dX2_wayOf_5.2.2.2.1 rfl ?_
  refine zV_iald (pc' := 160) (tabL (by omega) (by omega)) (by omega) dX2_wayOf_5.2.2.2.2 (by decide) rfl ?_
  have q159 := hf.at (i := r151 * 16 + x2) (x := x2) (y := r151) ⟨by omega, by omega, by omega, by omega⟩ (by omega)
  have b159 := hfb (x2) (r151) ⟨by omega, by omega, by omega, by omega⟩
  rw [← q159] at b159
  refine zW_aload (pc' := 162) dX2_wayOf_6.1.1.1.1 rfl rfl ?_
  refine zW_iload_n (pc' := 163) dX2_wayOf_6.1.1.1.2 rfl rfl ?_
  refine zW_iconst (pc' := 164) dX2_wayOf_6.1.1.2.1 rfl ?_
  refine zW_iadd (pc' := 165) dX2_wayOf_6.1.1.2.2 rfl ?_
  refine zW_aload_n (pc' := 166) dX2_wayOf_6.1.2.1.1 rfl rfl ?_
  refine zG_ref (pc' := 169) 33 fg_X2_9 tb86 rfl dX2_wayOf_6.1.2.1.2 rfl ?_
  refine zG_key (pc' := 172) hF rfl fg_X2_15 tb33 rfl dX2_wayOf_6.1.2.2.1 rfl ?_
  refine csI2 (pc' := 175) kX11_mirrored vX11_mirrored lk_X2_38 ⟨Nat.le_of_ble_eq_true rfl, Nat.le_of_ble_eq_true rfl⟩ rfl (s_X11_mirroredZ hF _ ⟨by omega, by omega⟩ _ ⟨by omega, by omega⟩ (by omega)) dX2_wayOf_6.1.2.2.2 (Nat.le_of_ble_eq_true rfl) rfl ?_
  rintro r172 z172 ⟨hz172, p172⟩; subst z172
  refine zW_bipush (pc' := 177) dX2_wayOf_6.2.1.1.1 rfl rfl ?_
  refine zW_imul (pc' := 178) dX2_wayOf_6.2.1.1.2 rfl ?_
  refine zW_iload_n (pc' := 179) dX2_wayOf_6.2.1.2.1 rfl rfl ?_
  refine zW_iadd (pc' := 180) dX2_wayOf_6.2.1.2.2 rfl ?_
  refine zV_iald (pc' := 181) (tabL (by omega) (by omega)) (by omega) dX2_wayOf_6.2.2.1.1 (by decide) rfl ?_
  have q180 := hf.at (i := r172 * 16 + x2) (x := x2) (y := r172) ⟨by omega, by omega, by omega, by omega⟩ (by omega)
  have b180 := hfb (x2) (r172) ⟨by omega, by omega, by omega, by omega⟩
  rw [← q180] at b180
  refine zW_iadd (pc' := 182) dX2_wayOf_6.2.2.1.2 rfl ?_
  refine zW_istore (ls' := [_, _, _, _, _, _, _, _, _, _, _, _]) (pc' := 184) dX2_wayOf_6.2.2.2.1 (by decide) rfl rfl rfl ?_
  refine zW_iload (pc' := 186) dX2_wayOf_6.2.2.2.2 rfl rfl ?_
  refine zV_mabs (pc' := 189) km_X2_56 (Nat.le_of_ble_eq_true rfl) (Nat.le_of_ble_eq_true rfl) dX2_wayOf_7.1.1.1.1 rfl (fun v186 e186 => ?_)
  replace e186 := e186.2 ⟨by omega, by omega⟩ (by omega)
  refine zW_iconst (pc' := 190) dX2_wayOf_7.1.1.1.2 rfl ?_
  refine zW_aload (pc' := 192) dX2_wayOf_7.1.1.2.1 rfl rfl ?_
  refine zW_iload (pc' := 194) dX2_wayOf_7.1.1.2.2 rfl rfl ?_
  refine zW_iload_n (pc' := 195) dX2_wayOf_7.1.2.1.1 rfl rfl ?_
  refine zW_iadd (pc' := 196) dX2_wayOf_7.1.2.1.2 rfl ?_
  refine zV_iald (pc' := 197) (tabL (by omega) (by omega)) (by omega) dX2_wayOf_7.1.2.2.1 (by decide) rfl ?_
  have q196 := hf.at (i := x3 * 16 + x2) (x := x2) (y := x3) ⟨by omega, by omega, by omega, by omega⟩ (by omega)
  have b196 := hfb (x2) (x3) ⟨by omega, by omega, by omega, by omega⟩
  rw [← q196] at b196
  refine zW_imul (pc' := 198) dX2_wayOf_7.1.2.2.2 rfl ?_
  refine zW_iload (pc' := 200) dX2_wayOf_7.2.1.1.1 rfl rfl ?_
  refine zW_isub (pc' := 201) dX2_wayOf_7.2.1.1.2 rfl ?_
  refine zV_mabs (pc' := 204) km_X2_56 (Nat.le_of_ble_eq_true rfl) (Nat.le_of_ble_eq_true rfl) dX2_wayOf_7.2.1.2.1 rfl (fun v201 e201 => ?_)
  replace e201 := e201.2 ⟨by omega, by omega⟩ (by omega)
  refine zW_iadd (pc' := 205) dX2_wayOf_7.2.1.2.2 rfl ?_
  refine zW_istore (ls' := [_, _, _, _, _, _, _, _, _, _, _, _]) (pc' := 207) dX2_wayOf_7.2.2.1.1 (by decide) rfl rfl rfl ?_
  refine zW_iload (pc' := 209) dX2_wayOf_7.2.2.1.2 rfl rfl ?_
  refine zV_mabs (pc' := 212) km_X2_56 (Nat.le_of_ble_eq_true rfl) (Nat.le_of_ble_eq_true rfl) dX2_wayOf_7.2.2.2.1 rfl (fun v209 e209 => ?_)
  replace e209 := e209.2 ⟨by omega, by omega⟩ (by omega)
  refine zW_iconst (pc' := 213) dX2_wayOf_7.2.2.2.2 rfl ?_
  refine zW_aload (pc' := 215) dX2_wayOf_8.1.1.1.1 rfl rfl ?_
  refine zW_iload (pc' := 217) dX2_wayOf_8.1.1.1.2 rfl rfl ?_
  refine zW_iload_n (pc' := 218) dX2_wayOf_8.1.1.2.1 rfl rfl ?_
  refine zW_iadd (pc' := 219) dX2_wayOf_8.1.1.2.2 rfl ?_
  refine zV_iald (pc' := 220) (tabL (by omega) (by omega)) (by omega) dX2_wayOf_8.1.2.1.1 (by decide) rfl ?_
  have q219 := hf.at (i := x3 * 16 + x2) (x := x2) (y := x3) ⟨by omega, by omega, by omega, by omega⟩ (by omega)
  have b219 := hfb (x2) (x3) ⟨by omega, by omega, by omega, by omega⟩
  rw [← q219] at b219
  refine zW_imul (pc' := 221) dX2_wayOf_8.1.2.1.2 rfl ?_
  refine zW_iload (pc' := 223) dX2_wayOf_8.1.2.2.1 rfl rfl ?_
  refine zW_isub (pc' := 224) dX2_wayOf_8.1.2.2.2 rfl ?_
  refine zV_mabs (pc' := 227) km_X2_56 (Nat.le_of_ble_eq_true rfl) (Nat.le_of_ble_eq_true rfl) dX2_wayOf_8.2.1.1.1 rfl (fun v224 e224 => ?_)
  replace e224 := e224.2 ⟨by omega, by omega⟩ (by omega)
  refine zW_iadd (pc' := 228) dX2_wayOf_8.2.1.1.2 rfl ?_
  refine zW_istore (ls' := [_, _, _, _, _, _, _, _, _, _, _, _]) (pc' := 230) dX2_wayOf_8.2.1.2.1 (by decide) rfl rfl rfl ?_
  have k26 := p26.2.2.2; have k45 := p45.2.2.2; have k67 := p67.2.2.2; have k86 := p86.2.2.2; have k106 := p106.2.2.2; have k127 := p127.2.2.2; have k151 := p151.2.2.2; have k172 := p172.2.2.2
  skip
  have z1 := abc (f (mir (x2 - 1) (κ 33 0)) x3 - f (mir (x2 + 1) (κ 33 0)) x3)
  have z2 := abc (2 * f x2 x3 - f (mir (x2 - 2) (κ 33 0)) x3 - f (mir (x2 + 2) (κ 33 0)) x3)
  have z3 := abc (f x2 (mir (x3 - 1) (κ 33 1)) - f x2 (mir (x3 + 1) (κ 33 1)))
  have z4 := abc (2 * f x2 x3 - f x2 (mir (x3 - 2) (κ 33 1)) - f x2 (mir (x3 + 2) (κ 33 1)))
  rw [← k26, ← k45] at z1
  rw [← k67, ← k86] at z2
  rw [← k106, ← k127] at z3
  rw [← k151, ← k172] at z4
  have ea : v186 + v201 = acW (κ 33 0) f x2 x3 := by unfold acW; rw [← k26, ← k45, ← k67, ← k86]; omega
  have ed : v209 + v224 = dnW (κ 33 1) f x2 x3 := by unfold dnW; rw [← k106, ← k127, ← k151, ← k172]; omega
  refine zW_iload (pc' := 232) dX2_wayOf_8.2.1.2.2 rfl rfl ?_
  refine zW_iload (pc' := 234) dX2_wayOf_8.2.2.1.1 rfl rfl ?_
  refine zV_cm_ge (tgt := 239) (pc' := 237) dX2_wayOf_8.2.2.1.2 rfl rfl ⟨by omega, by omega⟩ ⟨by omega, by omega⟩ (fun c234 => ?_) (fun c234 => ?_)
  · refine zW_iload (pc' := 241) dX2_wayOf_9.1.1.1 rfl rfl ?_
    refine zW_iload (pc' := 243) dX2_wayOf_9.1.1.2 rfl rfl ?_
    refine zV_cm_ge (tgt := 250) (pc' := 246) dX2_wayOf_9.1.2.1 rfl rfl ⟨by omega, by omega⟩ ⟨by omega, by omega⟩ (fun c243 => ?_) (fun c243 => ?_)
    · refine zW_iconst (pc' := 251) dX2_wayOf_9.2.1.2 rfl ?_
      exact zV_iret rfl dX2_wayOf_9.2.2 ⟨rfl, (by refine ⟨by omega, by omega, ?_⟩; unfold wy; rw [← ea, ← ed]; first | (rw [if_pos (by omega)]) | (rw [if_neg (by omega), if_pos (by omega)]) | (rw [if_neg (by omega), if_neg (by omega)]))⟩
    · refine zW_iconst (pc' := 247) dX2_wayOf_9.1.2.2 rfl ?_
      refine zV_goto 251 dX2_wayOf_9.2.1.1 rfl ?_
      exact zV_iret rfl dX2_wayOf_9.2.2 ⟨rfl, (by refine ⟨by omega, by omega, ?_⟩; unfold wy; rw [← ea, ← ed]; first | (rw [if_pos (by omega)]) | (rw [if_neg (by omega), if_pos (by omega)]) | (rw [if_neg (by omega), if_neg (by omega)]))⟩
  · refine zW_iconst (pc' := 238) dX2_wayOf_8.2.2.2.1 rfl ?_
    exact zV_iret rfl dX2_wayOf_8.2.2.2.2 ⟨rfl, (by refine ⟨by omega, by omega, ?_⟩; unfold wy; rw [← ea, ← ed]; first | (rw [if_pos (by omega)]) | (rw [if_neg (by omega), if_pos (by omega)]) | (rw [if_neg (by omega), if_neg (by omega)]))⟩

abbrev q_X5_colourOfZ (κ h : Hp) (x1 : Int) (x2 : Int) : Int → Hp → Prop := fun r h' => h' = h ∧ ((0 ≤ r) ∧ (r ≤ 2) ∧ (r = (x1 + κ 33 2) % 2 + (x2 + κ 33 2 / 2) % 2))
set_option maxHeartbeats 4000000 in
set_option maxRecDepth 20000 in
theorem s_X5_colourOfZ {G : Ga} {b : Bd} {κ h : Hp} (hK : KC κ) (hF : Fr b κ h) (x1 : Int) (hx1 : 0 ≤ x1 ∧ x1 ≤ 16) (x2 : Int) (hx2 : 0 ≤ x2 ∧ x2 ≤ 15) : zM G mX5_colourOf yX5_colourOf [.inr (.inr 33), .inl x1, .inl x2] h (q_X5_colourOfZ κ h x1 x2) := by
  have f_33_2 := KCp hK
  refine zM_of [some (.inr (.inr 33)), some (.inl x1), some (.inl x2), none, none] 2 rfl rfl (Nat.le_of_ble_eq_true rfl) rfl ?_
  refine zW_iload_n (pc' := 1) dX5_colourOf_0.1.1.1.1 rfl rfl ?_
  refine zW_aload_n (pc' := 2) dX5_colourOf_0.1.1.1.2 rfl rfl ?_
  refine zG_key (pc' := 5) hF rfl fg_X5_25 tb33 rfl dX5_colourOf_0.1.1.2.1 rfl ?_
  refine zW_iadd (pc' := 6) dX5_colourOf_0.1.1.2.2 rfl ?_
  refine zW_iconst (pc' := 7) dX5_colourOf_0.1.2.1.1 rfl ?_
  refine zW_iand1 (pc' := 8) dX5_colourOf_0.1.2.1.2 rfl (fun v7 e7 => ?_)
  refine zW_istore_n (ls' := [_, _, _, _, _]) (pc' := 9) dX5_colourOf_0.1.2.2.1 (by decide) rfl rfl rfl ?_
  refine zW_iload_n (pc' := 10) dX5_colourOf_0.1.2.2.2 rfl rfl ?_
  refine zW_aload_n (pc' := 11) dX5_colourOf_0.2.1.1.1 rfl rfl ?_
  refine zG_key (pc' := 14) hF rfl fg_X5_25 tb33 rfl dX5_colourOf_0.2.1.1.2 rfl ?_
  refine zW_iconst (pc' := 15) dX5_colourOf_0.2.1.2.1 rfl ?_
  refine zW_idiv (pc' := 16) (by omega) (by omega) dX5_colourOf_0.2.1.2.2 rfl ?_
  refine zW_iadd (pc' := 17) dX5_colourOf_0.2.2.1.1 rfl ?_
  refine zW_iconst (pc' := 18) dX5_colourOf_0.2.2.1.2 rfl ?_
  refine zW_iand1 (pc' := 19) dX5_colourOf_0.2.2.2.1 rfl (fun v18 e18 => ?_)
  refine zW_istore (ls' := [_, _, _, _, _]) (pc' := 21) dX5_colourOf_0.2.2.2.2 (by decide) rfl rfl rfl ?_
  refine zW_iload_n (pc' := 22) dX5_colourOf_1.1.1.1.1 rfl rfl ?_
  refine zW_iload (pc' := 24) dX5_colourOf_1.1.1.1.2 rfl rfl ?_
  refine zV_cm_ne (tgt := 33) (pc' := 27) dX5_colourOf_1.1.1.2 rfl rfl ⟨by omega, by omega⟩ ⟨by omega, by omega⟩ (fun c24 => ?_) (fun c24 => ?_)
  · refine zW_iconst (pc' := 34) dX5_colourOf_1.2.2.1 rfl ?_
    exact zV_iret rfl dX5_colourOf_1.2.2.2 ⟨rfl, by omega⟩
  · refine zW_iconst (pc' := 28) dX5_colourOf_1.1.2.1 rfl ?_
    refine zW_iload_n (pc' := 29) dX5_colourOf_1.1.2.2 rfl rfl ?_
    refine zW_imul (pc' := 30) dX5_colourOf_1.2.1.1 rfl ?_
    refine zV_goto 34 dX5_colourOf_1.2.1.2 rfl ?_
    exact zV_iret rfl dX5_colourOf_1.2.2.2 ⟨rfl, by omega⟩

abbrev q_X12_isAlongEdgesZ (κ h : Hp)  : Int → Hp → Prop := fun r h' => h' = h ∧ ((0 ≤ r) ∧ (r ≤ 1) ∧ (r = 1 ↔ (1 ≤ FL κ ∧ κ 5 (κ 4 (FL κ - 1).toNat).toNat = 1)))
set_option maxHeartbeats 4000000 in
set_option maxRecDepth 20000 in
theorem s_X12_isAlongEdgesZ {G : Ga} {b : Bd} {κ h : Hp} (hK : KR κ) (hF : Fr b κ h)  : zM G mX12_isAlongEdges yX12_isAlongEdges [.inr (.inr 0)] h (q_X12_isAlongEdgesZ κ h) := by
  have f_0_14 := KRm hK
  refine zM_of [some (.inr (.inr 0))] 0 rfl rfl (Nat.le_of_ble_eq_true rfl) rfl ?_
  refine zW_aload_n (pc' := 1) dX12_isAlongEdges_0.1.1.1.1 rfl rfl ?_
  refine cvI0 (pc' := 4) kX12_filler vX12_filler lk_X12_196 ⟨Nat.le_of_ble_eq_true rfl, Nat.le_of_ble_eq_true rfl⟩ tb0 vq12 rfl rfl (s_X12_filler hK hF) dX12_isAlongEdges_0.1.1.1.2 (Nat.le_of_ble_eq_true rfl) rfl ?_
  rintro r1 z1 ⟨hz1, p1⟩; subst z1
  refine zV_if_le (tgt := 24) (pc' := 7) dX12_isAlongEdges_0.1.1.2.1 rfl rfl ⟨by omega, by omega⟩ (fun c4 => ?_) (fun c4 => ?_)
  · refine zW_iconst (pc' := 25) dX12_isAlongEdges_0.2.2.1.2 rfl ?_
    exact zV_zret rfl (by omega) dX12_isAlongEdges_0.2.2.2 ⟨rfl, (by have e1_ := p1.2.2.2; omega)⟩
  · refine zW_aload_n (pc' := 8) dX12_isAlongEdges_0.1.1.2.2 rfl rfl ?_
    refine zW_aload_n (pc' := 9) dX12_isAlongEdges_0.1.2.1.1 rfl rfl ?_
    refine cvI0 (pc' := 12) kX12_filler vX12_filler lk_X12_196 ⟨Nat.le_of_ble_eq_true rfl, Nat.le_of_ble_eq_true rfl⟩ tb0 vq12 rfl rfl (s_X12_filler hK hF) dX12_isAlongEdges_0.1.2.1.2 (Nat.le_of_ble_eq_true rfl) rfl ?_
    rintro r9 z9 ⟨hz9, p9⟩; subst z9
    refine zW_iconst (pc' := 13) dX12_isAlongEdges_0.1.2.2 rfl ?_
    refine cvI2 (pc' := 16) kX12_numberOf vX12_numberOf lk_X12_206 ⟨Nat.le_of_ble_eq_true rfl, Nat.le_of_ble_eq_true rfl⟩ tb0 vq12 rfl rfl (s_X12_numberOf hK hF _ ⟨by omega, by omega⟩ _ ⟨by omega, by omega⟩) dX12_isAlongEdges_0.2.1.1.1 (Nat.le_of_ble_eq_true rfl) rfl ?_
    rintro r13 z13 ⟨hz13, p13⟩; subst z13
    have e13_ := p13
    have b13 := KRnu hK (κ 4 (r9 - 1).toNat + 0).toNat
    rw [← p13] at b13
    rw [show r9 = FL κ from p9.2.2.2, Int.add_zero] at e13_
    refine zW_iconst (pc' := 17) dX12_isAlongEdges_0.2.1.1.2 rfl ?_
    refine zV_cm_ne (tgt := 24) (pc' := 20) dX12_isAlongEdges_0.2.1.2.1 rfl rfl ⟨by omega, by omega⟩ ⟨by omega, by omega⟩ (fun c17 => ?_) (fun c17 => ?_)
    · refine zW_iconst (pc' := 25) dX12_isAlongEdges_0.2.2.1.2 rfl ?_
      exact zV_zret rfl (by omega) dX12_isAlongEdges_0.2.2.2 ⟨rfl, (by have e1_ := p1.2.2.2; omega)⟩
    · refine zW_iconst (pc' := 21) dX12_isAlongEdges_0.2.1.2.2 rfl ?_
      refine zV_goto 25 dX12_isAlongEdges_0.2.2.1.1 rfl ?_
      exact zV_zret rfl (by omega) dX12_isAlongEdges_0.2.2.2 ⟨rfl, (by have e1_ := p1.2.2.2; omega)⟩

abbrev q_X12_waysZ (b : Bd) (κ : Hp) (x1 : Int) : Int → Hp → Prop := fun r h' => Fr b κ h' ∧ ((r = wsQ (κ 0 11) (κ 0 12) (κ 0 13) (FL κ) (κ 5 (κ 4 (FL κ - 1).toNat).toNat) (EF κ) x1))
set_option maxHeartbeats 4000000 in
set_option maxRecDepth 20000 in
theorem s_X12_waysZ {G : Ga} {b : Bd} {κ h : Hp} (hK : KR κ) (hF : Fr b.fo κ h) (x1 : Int) (hx1 : rng x1) (hLz : LeavesZ b) (hV : VOK (κ 1)) (hE : EaOK (κ 3) (κ 0 14)) (hnf : 1 ≤ FL κ → noF (κ 3) (FL κ - 1).toNat) : zM G mX12_ways yX12_ways [.inr (.inr 0), .inl x1] h (q_X12_waysZ b.fo κ x1) := by
  have f_0_11 := KRw hK
  have f_0_12 := KRh hK
  have f_0_13 := KRp hK
  have f_0_14 := KRm hK
  have fFL := FL_r hK
  unfold rng at hx1
  have main : ∀ N : Nat, (∀ (v2 v3 : Int) (h : Hp), Fr b.fo κ h → (0 ≤ x1 ∧ x1 ≤ 2) → (0 ≤ v2 ∧ v2 ≤ 256) → (0 ≤ v3 ∧ v3 ≤ 16) → (v3 - κ 0 12 ≤ 0) → (1 ≤ FL κ ∧ κ 5 (κ 4 (FL κ - 1).toNat).toNat = 1) → (0 ≤ x1 ∧ x1 ≤ 2) → (v2 = cyS (κ 0 11) (κ 0 12) (κ 0 13) (EF κ (FL κ - 1).toNat) x1 v3.toNat) → (Row17 κ (h 17) (FL κ - 1) (EF κ (FL κ - 1).toNat)) → 18969552 + 25704 * (16 - v3) + 25092 < (N : Int) → zV G mX12_ways (q_X12_waysZ b.fo κ x1) 29 [some (.inr (.inr 0)), some (.inl x1), some (.inl v2), some (.inl v3), none] [] h) ∧ (∀ (v2 v3 v4 : Int) (h : Hp), Fr b.fo κ h → (0 ≤ x1 ∧ x1 ≤ 2) → (0 ≤ v2 ∧ v2 ≤ 256) → (0 ≤ v3 ∧ v3 ≤ 15) → (v3 - κ 0 12 ≤ -1) → (0 ≤ v4 ∧ v4 ≤ 16) → (v4 - κ 0 11 ≤ 0) → (1 ≤ FL κ ∧ κ 5 (κ 4 (FL κ - 1).toNat).toNat = 1) → (0 ≤ x1 ∧ x1 ≤ 2) → (v2 = cyS (κ 0 11) (κ 0 12) (κ 0 13) (EF κ (FL κ - 1).toNat) x1 v3.toNat + cwR (κ 0 11) (κ 0 12) (κ 0 13) (EF κ (FL κ - 1).toNat) x1 v3 v4.toNat) → (Row17 κ (h 17) (FL κ - 1) (EF κ (FL κ - 1).toNat)) → 18969552 + 25704 * (16 - v3) + 20196 + 34 * (16 - v4) + 33 < (N : Int) → zV G mX12_ways (q_X12_waysZ b.fo κ x1) 40 [some (.inr (.inr 0)), some (.inl x1), some (.inl v2), some (.inl v3), some (.inl v4)] [] h) := by
    intro N
    induction N with
    | zero =>
      refine ⟨?_, ?_⟩
      · intro v2 v3 h hF g0 g1 g2 g3 gc0 gc1 gc2 hf0 hm
        exfalso; omega
      · intro v2 v3 v4 h hF g0 g1 g2 g3 g4 g5 gc0 gc1 gc2 hf0 hm
        exfalso; omega
    | succ N ih =>
      obtain ⟨k29, k40⟩ := ih
      refine ⟨?_, ?_⟩
      · intro v2 v3 h hF g0 g1 g2 g3 gc0 gc1 gc2 hf0 hm
        refine zW_iload_n (pc' := 30) dX12_ways_1.1.1.2.1 rfl rfl ?_
        refine zW_aload_n (pc' := 31) dX12_ways_1.1.1.2.2 rfl rfl ?_
        refine zG_key (pc' := 34) hF rfl fg_X12_103 tb0 rfl dX12_ways_1.1.2.1.1 rfl ?_
        refine zV_cm_ge (tgt := 93) (pc' := 37) dX12_ways_1.1.2.1.2 rfl rfl ⟨by omega, by omega⟩ ⟨by omega, by omega⟩ (fun c34 => ?_) (fun c34 => ?_)
        · refine zW_iload_n (pc' := 94) dX12_ways_3.2.1.2 rfl rfl ?_
          exact zV_iret rfl dX12_ways_3.2.2 ⟨hF, (by unfold wsQ; rw [if_pos (by omega), if_pos gc0, show (κ 0 12).toNat = v3.toNat by omega]; exact gc2)⟩
        · refine zW_iconst (pc' := 38) dX12_ways_1.1.2.2.1 rfl ?_
          refine zW_istore (ls' := [_, _, _, _, _]) (pc' := 40) dX12_ways_1.1.2.2.2 (by decide) rfl rfl rfl ?_
          exact k40 _ _ _ _ hF (by omega) (by omega) (by omega) (by omega) (by omega) (by omega) gc0 (by omega) (by first | (rw [if_pos ⟨by omega, by omega⟩] at cs; omega) | (rw [if_neg (fun q => by omega)] at cs; omega) | (rw [gc2, show (0 : Int).toNat = 0 from rfl]; exact (Int.add_zero _).symm)) hf0 (by omega)
      · intro v2 v3 v4 h hF g0 g1 g2 g3 g4 g5 gc0 gc1 gc2 hf0 hm
        refine zW_iload (pc' := 42) dX12_ways_1.2.1.1.1 rfl rfl ?_
        refine zW_aload_n (pc' := 43) dX12_ways_1.2.1.1.2 rfl rfl ?_
        refine zG_key (pc' := 46) hF rfl fg_X12_99 tb0 rfl dX12_ways_1.2.1.2.1 rfl ?_
        refine zV_cm_ge (tgt := 87) (pc' := 49) dX12_ways_1.2.1.2.2 rfl rfl ⟨by omega, by omega⟩ ⟨by omega, by omega⟩ (fun c46 => ?_) (fun c46 => ?_)
        · have cs := cyS_s (W := κ 0 11) (H := κ 0 12) (P := κ 0 13) (f := EF κ (FL κ - 1).toNat) (w := x1) (v := v3) (by omega)
          rw [show (κ 0 11).toNat = v4.toNat by omega] at cs
          refine zW_iinc (ls' := [_, _, _, _, _]) (pc' := 90) dX12_ways_3.1.2 rfl (by decide) rfl rfl rfl ?_
          refine zV_goto 29 dX12_ways_3.2.1.1 rfl ?_
          refine zV_clr 4 (ls' := [_, _, _, _, _]) rfl ?_
          exact k29 _ _ _ hF (by omega) (by omega) (by omega) (by omega) (by first | exact hal | exact gc0) (by omega) (by first | rfl | omega) hf0 (by omega)
        · have cs := cwR_s (W := κ 0 11) (H := κ 0 12) (P := κ 0 13) (f := EF κ (FL κ - 1).toNat) (w := x1) (y := v3) (v := v4) (by omega)
          have cb := cwR_b (W := κ 0 11) (H := κ 0 12) (P := κ 0 13) (f := EF κ (FL κ - 1).toNat) (w := x1) (y := v3) v4.toNat
          have cb2 := cyS_b (W := κ 0 11) (H := κ 0 12) (P := κ 0 13) (f := EF κ (FL κ - 1).toNat) (w := x1) (by omega) v3.toNat
          refine zW_aload_n (pc' := 50) dX12_ways_1.2.2.1.1 rfl rfl ?_
          refine zW_iload (pc' := 52) dX12_ways_1.2.2.1.2 rfl rfl ?_
          refine zW_iload_n (pc' := 53) dX12_ways_1.2.2.2.1 rfl rfl ?_
          refine cvI2 (pc' := 56) kX12_colourAt vX12_colourAt lk_X12_225 ⟨Nat.le_of_ble_eq_true rfl, Nat.le_of_ble_eq_true rfl⟩ tb0 vq12 rfl rfl (s_X12_colourAtZ hK hF _ ⟨by omega, by omega⟩ _ ⟨by omega, by omega⟩) dX12_ways_1.2.2.2.2 (Nat.le_of_ble_eq_true rfl) rfl ?_
          rintro r53 z53 ⟨hz53, p53⟩; subst z53
          refine zW_iconst (pc' := 57) dX12_ways_2.1.1.1.1 rfl ?_
          refine zV_cm_eq (tgt := 81) (pc' := 60) dX12_ways_2.1.1.1.2 rfl rfl ⟨by omega, by omega⟩ ⟨by omega, by omega⟩ (fun c57 => ?_) (fun c57 => ?_)
          · refine zW_iinc (ls' := [_, _, _, _, _]) (pc' := 84) dX12_ways_3.1.1.1 rfl (by decide) rfl rfl rfl ?_
            refine zV_goto 40 dX12_ways_3.1.1.2 rfl ?_
            exact k40 _ _ _ _ hF (by omega) (by omega) (by omega) (by omega) (by omega) (by omega) gc0 (by omega) (by first | (rw [if_pos ⟨by omega, by omega⟩] at cs; omega) | (rw [if_neg (fun q => by omega)] at cs; omega) | (rw [gc2, show (0 : Int).toNat = 0 from rfl]; exact (Int.add_zero _).symm)) hf0 (by omega)
          · refine zW_aload_n (pc' := 61) dX12_ways_2.1.1.2.1 rfl rfl ?_
            refine zW_aload_n (pc' := 62) dX12_ways_2.1.1.2.2 rfl rfl ?_
            refine cvI0 (pc' := 65) kX12_filler vX12_filler lk_X12_196 ⟨Nat.le_of_ble_eq_true rfl, Nat.le_of_ble_eq_true rfl⟩ tb0 vq12 rfl rfl (s_X12_filler hK hF) dX12_ways_2.1.2.1.1 (Nat.le_of_ble_eq_true rfl) rfl ?_
            rintro r62 z62 ⟨hz62, p62⟩; subst z62
            refine zW_iconst (pc' := 66) dX12_ways_2.1.2.1.2 rfl ?_
            have e62_ := p62.2.2.2
            refine zW_isub (pc' := 67) dX12_ways_2.1.2.2.1 rfl ?_
            refine zW_iload (pc' := 69) dX12_ways_2.1.2.2.2 rfl rfl ?_
            refine zW_iload_n (pc' := 70) dX12_ways_2.2.1.1.1 rfl rfl ?_
            refine cvI3 (pc' := 73) kX12_wayOf vX12_wayOf lk_X12_274 ⟨Nat.le_of_ble_eq_true rfl, Nat.le_of_ble_eq_true rfl⟩ tb0 vq12 rfl rfl (s_X12_wayOfZ hK hF _ ⟨by omega, by omega⟩ _ ⟨by omega, by omega, by omega⟩ _ ⟨by omega, by omega, by omega⟩ (EF κ (FL κ - 1).toNat) (by rw [p62.2.2.2]; exact hf0) (FB_EF hK hV _)) dX12_ways_2.2.1.1.2 (Nat.le_of_ble_eq_true rfl) rfl ?_
            rintro r70 z70 ⟨hz70, p70⟩; subst z70
            have e62_ := p62.2.2.2
            refine zW_iload_n (pc' := 74) dX12_ways_2.2.1.2.1 rfl rfl ?_
            refine zV_cm_ne (tgt := 81) (pc' := 77) dX12_ways_2.2.1.2.2 rfl rfl ⟨by omega, by omega⟩ ⟨by omega, by omega⟩ (fun c74 => ?_) (fun c74 => ?_)
            · refine zW_iinc (ls' := [_, _, _, _, _]) (pc' := 84) dX12_ways_3.1.1.1 rfl (by decide) rfl rfl rfl ?_
              refine zV_goto 40 dX12_ways_3.1.1.2 rfl ?_
              exact k40 _ _ _ _ hF (by omega) (by omega) (by omega) (by omega) (by omega) (by omega) gc0 (by omega) (by first | (rw [if_pos ⟨by omega, by omega⟩] at cs; omega) | (rw [if_neg (fun q => by omega)] at cs; omega) | (rw [gc2, show (0 : Int).toNat = 0 from rfl]; exact (Int.add_zero _).symm)) hf0 (by omega)
            · refine zW_iload_n (pc' := 78) dX12_ways_2.2.2.1.1 rfl rfl ?_
              refine zW_iconst (pc' := 79) dX12_ways_2.2.2.1.2 rfl ?_
              refine zW_iadd (pc' := 80) dX12_ways_2.2.2.2.1 rfl ?_
              refine zW_istore_n (ls' := [_, _, _, _, _]) (pc' := 81) dX12_ways_2.2.2.2.2 (by decide) rfl rfl rfl ?_
              refine zW_iinc (ls' := [_, _, _, _, _]) (pc' := 84) dX12_ways_3.1.1.1 rfl (by decide) rfl rfl rfl ?_
              refine zV_goto 40 dX12_ways_3.1.1.2 rfl ?_
              exact k40 _ _ _ _ hF (by omega) (by omega) (by omega) (by omega) (by omega) (by omega) gc0 (by omega) (by first | (rw [if_pos ⟨by omega, by omega⟩] at cs; omega) | (rw [if_neg (fun q => by omega)] at cs; omega) | (rw [gc2, show (0 : Int).toNat = 0 from rfl]; exact (Int.add_zero _).symm)) hf0 (by omega)
  refine zM_of [some (.inr (.inr 0)), some (.inl x1), none, none, none] 3 rfl rfl (Nat.le_of_ble_eq_true rfl) rfl ?_
  refine zW_iload_n (pc' := 1) dX12_ways_0.1.1.1.1 rfl rfl ?_
  refine zW_iconst (pc' := 2) dX12_ways_0.1.1.1.2 rfl ?_
  refine zW_iconst (pc' := 3) dX12_ways_0.1.1.2.1 rfl ?_
  refine csI3 (pc' := 6) kX12_in vX12_in lk_X12_140 ⟨Nat.le_of_ble_eq_true rfl, Nat.le_of_ble_eq_true rfl⟩ rfl (s_X12_inR hF _ ⟨by omega, by omega⟩ _ ⟨by omega, by omega⟩ _ ⟨by omega, by omega⟩) dX12_ways_0.1.1.2.2 (Nat.le_of_ble_eq_true rfl) rfl ?_
  rintro r3 z3 ⟨hz3, p3⟩; subst z3
  refine zV_if_ne (tgt := 11) (pc' := 9) dX12_ways_0.1.2.1.1 rfl rfl ⟨by omega, by omega⟩ (fun c6 => ?_) (fun c6 => ?_)
  · refine zW_aload_n (pc' := 12) dX12_ways_0.1.2.2.2 rfl rfl ?_
    refine cvI0 (pc' := 15) kX12_isAlongEdges vX12_isAlongEdges lk_X12_400 ⟨Nat.le_of_ble_eq_true rfl, Nat.le_of_ble_eq_true rfl⟩ tb0 vq12 rfl rfl (s_X12_isAlongEdgesZ hK hF) dX12_ways_0.2.1.1.1 (Nat.le_of_ble_eq_true rfl) rfl ?_
    rintro r12 z12 ⟨hz12, p12⟩; subst z12
    refine zV_if_ne (tgt := 21) (pc' := 18) dX12_ways_0.2.1.1.2 rfl rfl ⟨by omega, by omega⟩ (fun c15 => ?_) (fun c15 => ?_)
    · refine zW_aload_n (pc' := 22) dX12_ways_0.2.2.1.1 rfl rfl ?_
      refine cvV0 (pc' := 25) kX12_leaves vX12_leaves lk_X12_377 ⟨Nat.le_of_ble_eq_true rfl, Nat.le_of_ble_eq_true rfl⟩ tb0 vq12 rfl rfl (hLz hK hF) dX12_ways_0.2.2.1.2 (Nat.le_of_ble_eq_true rfl) rfl ?_
      rintro r22 h ⟨hF, p22⟩
      have hal : 1 ≤ FL κ ∧ κ 5 (κ 4 (FL κ - 1).toNat).toNat = 1 := p12.2.2.mp (by omega)
      have hf0 := p22.2 (FL κ - 1).toNat (by omega) (hnf hal.1)
      rw [show (((FL κ - 1).toNat : Nat) : Int) = FL κ - 1 by omega] at hf0
      refine zW_iconst (pc' := 26) dX12_ways_0.2.2.2.1 rfl ?_
      refine zW_istore_n (ls' := [_, _, _, _, _]) (pc' := 27) dX12_ways_0.2.2.2.2 (by decide) rfl rfl rfl ?_
      refine zW_iconst (pc' := 28) dX12_ways_1.1.1.1.1 rfl ?_
      refine zW_istore_n (ls' := [_, _, _, _, _]) (pc' := 29) dX12_ways_1.1.1.1.2 (by decide) rfl rfl rfl ?_
      exact (main 10000000000000000000000000000000000000000).1 _ _ _ hF (by omega) (by omega) (by omega) (by omega) (by first | exact hal | exact gc0) (by omega) (by first | rfl | omega) hf0 (by omega)
    · refine zW_bipush (pc' := 20) dX12_ways_0.2.1.2.1 rfl rfl ?_
      exact zV_iret rfl dX12_ways_0.2.1.2.2 ⟨hF, (by unfold wsQ; rw [if_pos (by omega), if_neg (by omega)])⟩
  · refine zW_iconst (pc' := 10) dX12_ways_0.1.2.1.2 rfl ?_
    exact zV_iret rfl dX12_ways_0.1.2.2.1 ⟨hF, (by unfold wsQ; rw [if_neg (by omega)])⟩

abbrev q_X7_fillsAlongEdgesZ (κ h : Hp)  : Int → Hp → Prop := fun r h' => h' = h ∧ ((0 ≤ r) ∧ (r ≤ 1) ∧ (r = 1 ↔ (1 ≤ κ 41 1 ∧ κ 44 (AC κ (κ 41 1 - 1).toNat).toNat = 1)))
set_option maxHeartbeats 4000000 in
set_option maxRecDepth 20000 in
theorem s_X7_fillsAlongEdgesZ {G : Ga} {b : Bd} {κ h : Hp} (hK : KC κ) (hF : Fr b κ h) (hRc : RecC κ) (hfA : κ 41 1 ≤ κ 41 0) : zM G mX7_fillsAlongEdges yX7_fillsAlongEdges [.inr (.inr 41)] h (q_X7_fillsAlongEdgesZ κ h) := by
  have f_41_0 := KCm hK
  have f_41_1 := KCf hK
  refine zM_of [some (.inr (.inr 41))] 0 rfl rfl (Nat.le_of_ble_eq_true rfl) rfl ?_
  refine zW_aload_n (pc' := 1) dX7_fillsAlongEdges_0.1.1.1.1 rfl rfl ?_
  refine zG_key (pc' := 4) hF rfl fg_X7_25 tb41 rfl dX7_fillsAlongEdges_0.1.1.1.2 rfl ?_
  refine zV_if_le (tgt := 24) (pc' := 7) dX7_fillsAlongEdges_0.1.1.2.1 rfl rfl ⟨by omega, by omega⟩ (fun c4 => ?_) (fun c4 => ?_)
  · refine zW_iconst (pc' := 25) dX7_fillsAlongEdges_0.2.2.1.2 rfl ?_
    exact zV_zret rfl (by omega) dX7_fillsAlongEdges_0.2.2.2 ⟨rfl, (by omega)⟩
  · refine zW_aload_n (pc' := 8) dX7_fillsAlongEdges_0.1.1.2.2 rfl rfl ?_
    refine zW_aload_n (pc' := 9) dX7_fillsAlongEdges_0.1.2.1.1 rfl rfl ?_
    refine zG_key (pc' := 12) hF rfl fg_X7_25 tb41 rfl dX7_fillsAlongEdges_0.1.2.1.2 rfl ?_
    refine zW_iconst (pc' := 13) dX7_fillsAlongEdges_0.1.2.2 rfl ?_
    have eAC : AC κ (κ 41 1 - 1).toNat = κ 43 (κ 41 1).toNat := by show κ 43 ((κ 41 1 - 1).toNat + 1) = _; rw [show (κ 41 1 - 1).toNat + 1 = (κ 41 1).toNat by omega]
    have rc1 : κ 43 (κ 41 1).toNat < κ 43 (κ 41 1 + 1).toNat ∧ κ 43 (κ 41 1 + 1).toNat ≤ 64 := by have z := hRc (κ 41 1 - 1).toNat (by omega); rw [eAC, show AC κ ((κ 41 1 - 1).toNat + 1) = κ 43 (κ 41 1 + 1).toNat by (show κ 43 ((κ 41 1 - 1).toNat + 1 + 1) = _; rw [show (κ 41 1 - 1).toNat + 1 + 1 = (κ 41 1 + 1).toNat by omega])] at z; exact ⟨z.1, z.2.1⟩
    refine cvI2 (pc' := 16) kX7_numberOf vX7_numberOf lk_X7_34 ⟨Nat.le_of_ble_eq_true rfl, Nat.le_of_ble_eq_true rfl⟩ tb41 vq7 rfl rfl (s_X7_numberOfZ hK hF _ ⟨by omega, by omega, by omega⟩ _ ⟨by omega, by omega⟩ rc1) dX7_fillsAlongEdges_0.2.1.1.1 (Nat.le_of_ble_eq_true rfl) rfl ?_
    rintro r13 z13 ⟨hz13, p13⟩; subst z13
    have e13_ := p13.2.2
    rw [← eAC] at e13_
    refine zW_iconst (pc' := 17) dX7_fillsAlongEdges_0.2.1.1.2 rfl ?_
    refine zV_cm_ne (tgt := 24) (pc' := 20) dX7_fillsAlongEdges_0.2.1.2.1 rfl rfl ⟨by omega, by omega⟩ ⟨by omega, by omega⟩ (fun c17 => ?_) (fun c17 => ?_)
    · refine zW_iconst (pc' := 25) dX7_fillsAlongEdges_0.2.2.1.2 rfl ?_
      exact zV_zret rfl (by omega) dX7_fillsAlongEdges_0.2.2.2 ⟨rfl, (by omega)⟩
    · refine zW_iconst (pc' := 21) dX7_fillsAlongEdges_0.2.1.2.2 rfl ?_
      refine zV_goto 25 dX7_fillsAlongEdges_0.2.2.1.1 rfl ?_
      exact zV_zret rfl (by omega) dX7_fillsAlongEdges_0.2.2.2 ⟨rfl, (by omega)⟩

abbrev q_X11_waysZ (b : Bd) (κ : Hp) (x1 : Int) : Int → Hp → Prop := fun r h' => Fr b κ h' ∧ ((r = wsQ (κ 33 0) (κ 33 1) (κ 33 2) (κ 41 1) (κ 44 (AC κ (κ 41 1 - 1).toNat).toNat) (EFc κ) x1))
set_option maxHeartbeats 4000000 in
set_option maxRecDepth 20000 in
theorem s_X11_waysZ {G : Ga} {b : Bd} {κ h : Hp} (hK : KC κ) (hF : Fr b κ h) (x1 : Int) (hx1 : rng x1) (hSz : SheetZ b) (hV : VOK (κ 34)) (hE : EaOK (LC κ) (κ 41 0)) (hRc : RecC κ) (hfA : κ 41 1 ≤ κ 41 0) (hnf : 1 ≤ κ 41 1 → noF (LC κ) (κ 41 1 - 1).toNat) : zM G mX11_ways yX11_ways [.inr (.inr 30), .inl x1] h (q_X11_waysZ b κ x1) := by
  have f_33_0 := KCw hK
  have f_33_1 := KCh hK
  have f_33_2 := KCp hK
  have f_41_0 := KCm hK
  have f_41_1 := KCf hK
  unfold rng at hx1
  have main : ∀ N : Nat, (∀ (v3 v4 : Int) (t2 : Nat) (h : Hp), Fr b κ h → (0 ≤ x1 ∧ x1 ≤ 2) → (56 ≤ t2 ∧ t2 ≤ 70) → (0 ≤ v3 ∧ v3 ≤ 256) → (0 ≤ v4 ∧ v4 ≤ 16) → (v4 - κ 33 1 ≤ 0) → (1 ≤ κ 41 1 ∧ κ 44 (AC κ (κ 41 1 - 1).toNat).toNat = 1) → (0 ≤ x1 ∧ x1 ≤ 2) → (v3 = cyS (κ 33 0) (κ 33 1) (κ 33 2) (EFc κ (κ 41 1 - 1).toNat) x1 v4.toNat) → ((t2 : Int) = 55 + κ 41 1) → (ShE (κ 33 0) (κ 33 1) (h (71 + (κ 41 1 - 1).toNat)) (EFc κ (κ 41 1 - 1).toNat)) → 17003520 + 23616 * (16 - v4) + 23040 < (N : Int) → zV G mX11_ways (q_X11_waysZ b κ x1) 45 [some (.inr (.inr 30)), some (.inl x1), some (.inr (.inr t2)), some (.inl v3), some (.inl v4), none] [] h) ∧ (∀ (v3 v4 v5 : Int) (t2 : Nat) (h : Hp), Fr b κ h → (0 ≤ x1 ∧ x1 ≤ 2) → (56 ≤ t2 ∧ t2 ≤ 70) → (0 ≤ v3 ∧ v3 ≤ 256) → (0 ≤ v4 ∧ v4 ≤ 15) → (v4 - κ 33 1 ≤ -1) → (0 ≤ v5 ∧ v5 ≤ 16) → (v5 - κ 33 0 ≤ 0) → (1 ≤ κ 41 1 ∧ κ 44 (AC κ (κ 41 1 - 1).toNat).toNat = 1) → (0 ≤ x1 ∧ x1 ≤ 2) → (v3 = cyS (κ 33 0) (κ 33 1) (κ 33 2) (EFc κ (κ 41 1 - 1).toNat) x1 v4.toNat + cwR (κ 33 0) (κ 33 1) (κ 33 2) (EFc κ (κ 41 1 - 1).toNat) x1 v4 v5.toNat) → ((t2 : Int) = 55 + κ 41 1) → (ShE (κ 33 0) (κ 33 1) (h (71 + (κ 41 1 - 1).toNat)) (EFc κ (κ 41 1 - 1).toNat)) → 17003520 + 23616 * (16 - v4) + 17856 + 32 * (16 - v5) + 31 < (N : Int) → zV G mX11_ways (q_X11_waysZ b κ x1) 60 [some (.inr (.inr 30)), some (.inl x1), some (.inr (.inr t2)), some (.inl v3), some (.inl v4), some (.inl v5)] [] h) := by
    intro N
    induction N with
    | zero =>
      refine ⟨?_, ?_⟩
      · intro v3 v4 t2 h hF g0 g1 g2 g3 g4 gc0 gc1 gc2 gc3 hf0 hm
        exfalso; omega
      · intro v3 v4 v5 t2 h hF g0 g1 g2 g3 g4 g5 g6 gc0 gc1 gc2 gc3 hf0 hm
        exfalso; omega
    | succ N ih =>
      obtain ⟨k45, k60⟩ := ih
      refine ⟨?_, ?_⟩
      · intro v3 v4 t2 h hF g0 g1 g2 g3 g4 gc0 gc1 gc2 gc3 hf0 hm
        refine zW_iload (pc' := 47) dX11_ways_1.2.1.1.2 rfl rfl ?_
        refine zW_aload_n (pc' := 48) dX11_ways_1.2.1.2.1 rfl rfl ?_
        refine zG_ref (pc' := 51) 33 fg_X11_19 tb30 rfl dX11_ways_1.2.1.2.2 rfl ?_
        refine zG_key (pc' := 54) hF rfl fg_X11_127 tb33 rfl dX11_ways_1.2.2.1.1 rfl ?_
        refine zV_cm_ge (tgt := 121) (pc' := 57) dX11_ways_1.2.2.1.2 rfl rfl ⟨by omega, by omega⟩ ⟨by omega, by omega⟩ (fun c54 => ?_) (fun c54 => ?_)
        · refine zW_iload_n (pc' := 122) dX11_ways_3.2.2.1.2 rfl rfl ?_
          exact zV_iret rfl dX11_ways_3.2.2.2 ⟨hF, (by unfold wsQ; rw [if_pos (by omega), if_pos gc0, show (κ 33 1).toNat = v4.toNat by omega]; exact gc2)⟩
        · refine zW_iconst (pc' := 58) dX11_ways_1.2.2.2.1 rfl ?_
          refine zW_istore (ls' := [_, _, _, _, _, _]) (pc' := 60) dX11_ways_1.2.2.2.2 (by decide) rfl rfl rfl ?_
          exact k60 _ _ _ _ _ hF (by omega) (by omega) (by omega) (by omega) (by omega) (by omega) (by omega) gc0 (by omega) (by first | (rw [if_pos ⟨by omega, by omega⟩] at cs; omega) | (rw [if_neg (fun q => by omega)] at cs; omega) | (rw [gc2, show (0 : Int).toNat = 0 from rfl]; exact (Int.add_zero _).symm)) (by omega) hf0 (by omega)
      · intro v3 v4 v5 t2 h hF g0 g1 g2 g3 g4 g5 g6 gc0 gc1 gc2 gc3 hf0 hm
        refine zW_iload (pc' := 62) dX11_ways_2.1.1.1.1 rfl rfl ?_
        refine zW_aload_n (pc' := 63) dX11_ways_2.1.1.1.2 rfl rfl ?_
        refine zG_ref (pc' := 66) 33 fg_X11_19 tb30 rfl dX11_ways_2.1.1.2.1 rfl ?_
        refine zG_key (pc' := 69) hF rfl fg_X11_130 tb33 rfl dX11_ways_2.1.1.2.2 rfl ?_
        refine zV_cm_ge (tgt := 115) (pc' := 72) dX11_ways_2.1.2.1.1 rfl rfl ⟨by omega, by omega⟩ ⟨by omega, by omega⟩ (fun c69 => ?_) (fun c69 => ?_)
        · have cs := cyS_s (W := κ 33 0) (H := κ 33 1) (P := κ 33 2) (f := EFc κ (κ 41 1 - 1).toNat) (w := x1) (v := v4) (by omega)
          rw [show (κ 33 0).toNat = v5.toNat by omega] at cs
          refine zW_iinc (ls' := [_, _, _, _, _, _]) (pc' := 118) dX11_ways_3.2.1.2 rfl (by decide) rfl rfl rfl ?_
          refine zV_goto 45 dX11_ways_3.2.2.1.1 rfl ?_
          refine zV_clr 5 (ls' := [_, _, _, _, _, _]) rfl ?_
          exact k45 _ _ _ _ hF (by omega) (by omega) (by omega) (by omega) (by omega) (by first | exact hal | exact gc0) (by omega) (by first | rfl | omega) (by omega) hf0 (by omega)
        · have cs := cwR_s (W := κ 33 0) (H := κ 33 1) (P := κ 33 2) (f := EFc κ (κ 41 1 - 1).toNat) (w := x1) (y := v4) (v := v5) (by omega)
          have cb := cwR_b (W := κ 33 0) (H := κ 33 1) (P := κ 33 2) (f := EFc κ (κ 41 1 - 1).toNat) (w := x1) (y := v4) v5.toNat
          have cb2 := cyS_b (W := κ 33 0) (H := κ 33 1) (P := κ 33 2) (f := EFc κ (κ 41 1 - 1).toNat) (w := x1) (by omega) v4.toNat
          refine zW_aload_n (pc' := 73) dX11_ways_2.1.2.1.2 rfl rfl ?_
          refine zG_ref (pc' := 76) 33 fg_X11_19 tb30 rfl dX11_ways_2.1.2.2.1 rfl ?_
          refine zW_iload (pc' := 78) dX11_ways_2.1.2.2.2 rfl rfl ?_
          refine zW_iload (pc' := 80) dX11_ways_2.2.1.1.1 rfl rfl ?_
          refine cvI2 (pc' := 83) kX5_colourOf vX5_colourOf lk_X11_166 ⟨Nat.le_of_ble_eq_true rfl, Nat.le_of_ble_eq_true rfl⟩ tb33 vq5 rfl rfl (s_X5_colourOfZ hK hF _ ⟨by omega, by omega⟩ _ ⟨by omega, by omega⟩) dX11_ways_2.2.1.1.2 (Nat.le_of_ble_eq_true rfl) rfl ?_
          rintro r80 z80 ⟨hz80, p80⟩; subst z80
          refine zW_iconst (pc' := 84) dX11_ways_2.2.1.2.1 rfl ?_
          refine zV_cm_eq (tgt := 109) (pc' := 87) dX11_ways_2.2.1.2.2 rfl rfl ⟨by omega, by omega⟩ ⟨by omega, by omega⟩ (fun c84 => ?_) (fun c84 => ?_)
          · refine zW_iinc (ls' := [_, _, _, _, _, _]) (pc' := 112) dX11_ways_3.2.1.1.1 rfl (by decide) rfl rfl rfl ?_
            refine zV_goto 60 dX11_ways_3.2.1.1.2 rfl ?_
            exact k60 _ _ _ _ _ hF (by omega) (by omega) (by omega) (by omega) (by omega) (by omega) (by omega) gc0 (by omega) (by first | (rw [if_pos ⟨by omega, by omega⟩] at cs; omega) | (rw [if_neg (fun q => by omega)] at cs; omega) | (rw [gc2, show (0 : Int).toNat = 0 from rfl]; exact (Int.add_zero _).symm)) (by omega) hf0 (by omega)
          · refine zW_aload_n (pc' := 88) dX11_ways_2.2.2.1.1 rfl rfl ?_
            refine zG_ref (pc' := 91) 54 fg_X11_51 tb30 rfl dX11_ways_2.2.2.1.2 rfl ?_
            refine zG_ref (pc' := 94) 86 fg_X11_231 tb54 rfl dX11_ways_2.2.2.2.1 rfl ?_
            refine zW_aload_n (pc' := 95) dX11_ways_2.2.2.2.2 rfl rfl ?_
            refine zW_iload (pc' := 97) dX11_ways_3.1.1.1.1 rfl rfl ?_
            refine zW_iload (pc' := 99) dX11_ways_3.1.1.1.2 rfl rfl ?_
            refine cvI3 (pc' := 102) kX2_wayOf vX2_wayOf lk_X11_251 ⟨Nat.le_of_ble_eq_true rfl, Nat.le_of_ble_eq_true rfl⟩ tb86 vq2 rfl rfl (s_X2_wayOfZ hK hF _ ⟨by omega, by omega⟩ _ ⟨by omega, by omega, by omega⟩ _ ⟨by omega, by omega, by omega⟩ (EFc κ (κ 41 1 - 1).toNat) (by rw [show t2 + 15 = 71 + (κ 41 1 - 1).toNat by omega]; exact hf0) (FB_EFc hK hV _)) dX11_ways_3.1.1.2 (Nat.le_of_ble_eq_true rfl) rfl ?_
            rintro r99 z99 ⟨hz99, p99⟩; subst z99
            refine zW_iload_n (pc' := 103) dX11_ways_3.1.2.1.1 rfl rfl ?_
            refine zV_cm_ne (tgt := 109) (pc' := 106) dX11_ways_3.1.2.1.2 rfl rfl ⟨by omega, by omega⟩ ⟨by omega, by omega⟩ (fun c103 => ?_) (fun c103 => ?_)
            · refine zW_iinc (ls' := [_, _, _, _, _, _]) (pc' := 112) dX11_ways_3.2.1.1.1 rfl (by decide) rfl rfl rfl ?_
              refine zV_goto 60 dX11_ways_3.2.1.1.2 rfl ?_
              exact k60 _ _ _ _ _ hF (by omega) (by omega) (by omega) (by omega) (by omega) (by omega) (by omega) gc0 (by omega) (by first | (rw [if_pos ⟨by omega, by omega⟩] at cs; omega) | (rw [if_neg (fun q => by omega)] at cs; omega) | (rw [gc2, show (0 : Int).toNat = 0 from rfl]; exact (Int.add_zero _).symm)) (by omega) hf0 (by omega)
            · refine zW_iinc (ls' := [_, _, _, _, _, _]) (pc' := 109) dX11_ways_3.1.2.2 rfl (by decide) rfl rfl rfl ?_
              refine zW_iinc (ls' := [_, _, _, _, _, _]) (pc' := 112) dX11_ways_3.2.1.1.1 rfl (by decide) rfl rfl rfl ?_
              refine zV_goto 60 dX11_ways_3.2.1.1.2 rfl ?_
              exact k60 _ _ _ _ _ hF (by omega) (by omega) (by omega) (by omega) (by omega) (by omega) (by omega) gc0 (by omega) (by first | (rw [if_pos ⟨by omega, by omega⟩] at cs; omega) | (rw [if_neg (fun q => by omega)] at cs; omega) | (rw [gc2, show (0 : Int).toNat = 0 from rfl]; exact (Int.add_zero _).symm)) (by omega) hf0 (by omega)
  refine zM_of [some (.inr (.inr 30)), some (.inl x1), none, none, none, none] 4 rfl rfl (Nat.le_of_ble_eq_true rfl) rfl ?_
  refine zW_iload_n (pc' := 1) dX11_ways_0.1.1.1.1 rfl rfl ?_
  refine zW_iconst (pc' := 2) dX11_ways_0.1.1.1.2 rfl ?_
  refine csI2 (pc' := 5) kX11_isWithin vX11_isWithin lk_X11_116 ⟨Nat.le_of_ble_eq_true rfl, Nat.le_of_ble_eq_true rfl⟩ rfl (s_X11_isWithinR hF _ ⟨by omega, by omega⟩ _ ⟨by omega, by omega⟩) dX11_ways_0.1.1.2.1 (Nat.le_of_ble_eq_true rfl) rfl ?_
  rintro r2 z2 ⟨hz2, p2⟩; subst z2
  refine zV_if_ne (tgt := 10) (pc' := 8) dX11_ways_0.1.1.2.2 rfl rfl ⟨by omega, by omega⟩ (fun c5 => ?_) (fun c5 => ?_)
  · refine zW_aload_n (pc' := 11) dX11_ways_0.1.2.2.1 rfl rfl ?_
    refine zG_ref (pc' := 14) 41 fg_X11_33 tb30 rfl dX11_ways_0.1.2.2.2 rfl ?_
    refine cvI0 (pc' := 17) kX7_fillsAlongEdges vX7_fillsAlongEdges lk_X11_244 ⟨Nat.le_of_ble_eq_true rfl, Nat.le_of_ble_eq_true rfl⟩ tb41 vq7 rfl rfl (s_X7_fillsAlongEdgesZ hK hF (by omega) (by omega)) dX11_ways_0.2.1.1.1 (Nat.le_of_ble_eq_true rfl) rfl ?_
    rintro r14 z14 ⟨hz14, p14⟩; subst z14
    refine zV_if_ne (tgt := 23) (pc' := 20) dX11_ways_0.2.1.1.2 rfl rfl ⟨by omega, by omega⟩ (fun c17 => ?_) (fun c17 => ?_)
    · refine zW_aload_n (pc' := 24) dX11_ways_0.2.2.1.1 rfl rfl ?_
      refine zG_ref (pc' := 27) 54 fg_X11_51 tb30 rfl dX11_ways_0.2.2.1.2 rfl ?_
      refine zW_aload_n (pc' := 28) dX11_ways_0.2.2.2.1 rfl rfl ?_
      refine zG_ref (pc' := 31) 41 fg_X11_33 tb30 rfl dX11_ways_0.2.2.2.2 rfl ?_
      refine zG_key (pc' := 34) hF rfl fg_X11_248 tb41 rfl dX11_ways_1.1.1.1.1 rfl ?_
      refine zW_iconst (pc' := 35) dX11_ways_1.1.1.1.2 rfl ?_
      refine zW_isub (pc' := 36) dX11_ways_1.1.1.2.1 rfl ?_
      refine cvA1 (pc' := 39) kX1_sheetOf vX1_sheetOf lk_X11_192 ⟨Nat.le_of_ble_eq_true rfl, Nat.le_of_ble_eq_true rfl⟩ tb54 vq1 rfl rfl (hSz hK hF _ ⟨by omega, by omega⟩) dX11_ways_1.1.1.2.2 (Nat.le_of_ble_eq_true rfl) rfl ?_
      rintro r36 h ⟨hF, p36⟩
      obtain ⟨q36, z36⟩ : ∃ z : Nat, z = r36.toNat := ⟨_, rfl⟩
      rw [← z36]
      have hal : 1 ≤ κ 41 1 ∧ κ 44 (AC κ (κ 41 1 - 1).toNat).toNat = 1 := p14.2.2.mp (by omega)
      have hsh := p36.2.2 (by omega) (by omega)
      have hf0 := (hsh.2 (κ 41 1 - 1).toNat (by omega) (hnf hal.1)).1
      refine zW_astore_n (ls' := [_, _, _, _, _, _]) (pc' := 40) dX11_ways_1.1.2.1.1 (by decide) rfl rfl rfl ?_
      refine zW_iconst (pc' := 41) dX11_ways_1.1.2.1.2 rfl ?_
      refine zW_istore_n (ls' := [_, _, _, _, _, _]) (pc' := 42) dX11_ways_1.1.2.2.1 (by decide) rfl rfl rfl ?_
      refine zW_iconst (pc' := 43) dX11_ways_1.1.2.2.2 rfl ?_
      refine zW_istore (ls' := [_, _, _, _, _, _]) (pc' := 45) dX11_ways_1.2.1.1.1 (by decide) rfl rfl rfl ?_
      exact (main 10000000000000000000000000000000000000000).1 _ _ _ _ hF (by omega) (by omega) (by omega) (by omega) (by omega) (by first | exact hal | exact gc0) (by omega) (by first | rfl | omega) (by omega) hf0 (by omega)
    · refine zW_bipush (pc' := 22) dX11_ways_0.2.1.2.1 rfl rfl ?_
      exact zV_iret rfl dX11_ways_0.2.1.2.2 ⟨hF, (by unfold wsQ; rw [if_pos (by omega), if_neg (by omega)])⟩
  · refine zW_iconst (pc' := 9) dX11_ways_0.1.2.1.1 rfl ?_
    exact zV_iret rfl dX11_ways_0.1.2.1.2 ⟨hF, (by unfold wsQ; rw [if_neg (by omega)])⟩
