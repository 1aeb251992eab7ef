/-! how many are at most so bright; sorting -/
def cnL (A : Nat → Int) (L : Int) : Nat → Int
  | 0 => 0
  | n + 1 => cnL A L n + (if A n ≤ L then 1 else 0)
theorem cnL_b {A : Nat → Int} {L : Int} : ∀ n : Nat, 0 ≤ cnL A L n ∧ cnL A L n ≤ n
  | 0 => ⟨Int.le_refl 0, Int.le_refl 0⟩
  | n + 1 => by
    have z := cnL_b (A := A) (L := L) n
    show 0 ≤ cnL A L n + (if A n ≤ L then 1 else 0) ∧ cnL A L n + (if A n ≤ L then 1 else 0) ≤ _
    split <;> omega
theorem cnL_mono {A : Nat → Int} {L L' : Int} (h : L ≤ L') : ∀ n : Nat, cnL A L n ≤ cnL A L' n
  | 0 => Int.le_refl 0
  | n + 1 => by
    have z := cnL_mono (A := A) h n
    show cnL A L n + (if A n ≤ L then 1 else 0) ≤ cnL A L' n + (if A n ≤ L' then 1 else 0)
    by_cases c : A n ≤ L
    · rw [if_pos c, if_pos (by omega)]; omega
    · rw [if_neg c]
      split <;> omega
theorem cnL_cong {A B : Nat → Int} {L : Int} : ∀ n : Nat, (∀ j, j < n → A j = B j) → cnL A L n = cnL B L n
  | 0, _ => rfl
  | n + 1, h => by
    show cnL A L n + (if A n ≤ L then 1 else 0) = cnL B L n + (if B n ≤ L then 1 else 0)
    rw [cnL_cong n (fun j hj => h j (by omega)), h n (by omega)]
theorem cnL_all {A : Nat → Int} {L : Int} : ∀ n : Nat, (∀ j, j < n → A j ≤ L) → cnL A L n = n
  | 0, _ => rfl
  | n + 1, h => by
    show cnL A L n + (if A n ≤ L then 1 else 0) = _
    rw [cnL_all n (fun j hj => h j (by omega)), if_pos (h n (by omega))]
    omega
theorem cnL_swp {A : Nat → Int} {L : Int} {j : Nat} : ∀ n : Nat, j + 1 < n → cnL (swp A j) L n = cnL A L n
  | 0, h => absurd h (by omega)
  | n + 1, h => by
    show cnL (swp A j) L n + (if swp A j n ≤ L then 1 else 0) = cnL A L n + (if A n ≤ L then 1 else 0)
    by_cases e : j + 1 < n
    · rw [cnL_swp n e, swp_hi e]
    · have en : n = j + 1 := by omega
      subst en
      show cnL (swp A j) L j + (if swp A j j ≤ L then 1 else 0) + (if swp A j (j + 1) ≤ L then 1 else 0) = cnL A L j + (if A j ≤ L then 1 else 0) + (if A (j + 1) ≤ L then 1 else 0)
      have a : swp A j j = A (j + 1) := by unfold swp; rw [if_neg (by omega), if_pos rfl]
      have b : swp A j (j + 1) = A j := by unfold swp; rw [if_pos rfl]
      rw [a, b, cnL_cong (A := swp A j) (B := A) j (fun i hi => by unfold swp; rw [if_neg (by omega), if_neg (by omega)])]
      omega
theorem cnL_bub {L : Int} {n : Nat} : ∀ (j : Nat) (A : Nat → Int), j < n → cnL (bub A j) L n = cnL A L n
  | 0, _, _ => rfl
  | j + 1, A, h => by
    rcases bubc A j with ⟨_, e⟩ | ⟨_, e⟩ <;> rw [e]
    rw [cnL_bub j _ (by omega), cnL_swp n (by omega)]
theorem cnL_srt {A : Nat → Int} {L : Int} {n : Nat} : ∀ m, m ≤ n → cnL (srt A m) L n = cnL A L n
  | 0, _ => rfl
  | m + 1, h => by
    show cnL (bub (srt A m) m) L n = _
    rw [cnL_bub m _ (by omega), cnL_srt m (by omega)]
def Srd (A : Nat → Int) (n : Nat) : Prop := ∀ i, i + 1 < n → A i ≤ A (i + 1)
theorem Srd.le {A : Nat → Int} {n : Nat} (h : Srd A n) {i : Nat} : ∀ k, i + k < n → A i ≤ A (i + k)
  | 0, _ => Int.le_refl _
  | k + 1, hk => by
    have a := h.le (i := i) k (by omega)
    have b := h (i + k) (by omega)
    rw [show i + (k + 1) = i + k + 1 by omega]
    omega
theorem bub_Srd : ∀ (j : Nat) (A : Nat → Int), Srd A j → Srd (bub A j) (j + 1)
  | 0, A, _ => fun i hi => absurd hi (by omega)
  | j + 1, A, h => by
    rcases bubc A j with ⟨c, e⟩ | ⟨c, e⟩ <;> rw [e]
    · have hs : Srd (swp A j) j := fun i hi => by
        have z := h i (by omega)
        unfold swp
        rw [if_neg (by omega), if_neg (by omega), if_neg (by omega), if_neg (by omega)]
        exact z
      have ih := bub_Srd j _ hs
      intro i hi
      by_cases q : i + 1 < j + 1
      · exact ih i q
      · have ei : i = j := by omega
        subst ei
        have top : bub (swp A i) i (i + 1) = A i := by
          rw [bub_hi i _ _ (by omega)]
          unfold swp
          rw [if_pos rfl]
        rw [top]
        refine bub_r (P := fun v => v ≤ A i) i (swp A i) (fun k hk => ?_) i (Nat.le_refl i)
        unfold swp
        rw [if_neg (by omega)]
        by_cases ek : k = i
        · rw [if_pos ek]; omega
        · rw [if_neg ek]
          have z := h.le (i := k) (i - k) (by omega)
          rw [show k + (i - k) = i by omega] at z
          exact z
    · intro i hi
      by_cases q : i + 1 < j + 1
      · exact h i q
      · rw [show i = j by omega]; exact c
theorem srt_Srd {A : Nat → Int} : ∀ n, Srd (srt A n) n
  | 0 => fun i hi => absurd hi (by omega)
  | n + 1 => bub_Srd n _ (srt_Srd n)
/-- L is the least level that is reached by p of a hundred -/
def PcL (A : Nat → Int) (n : Nat) (p L : Int) : Prop := (0 ≤ L ∧ L ≤ 4095) ∧ p * n ≤ 100 * cnL A L n ∧ ∀ K : Int, K < L → 100 * cnL A K n < p * n
theorem PcL.uni {A : Nat → Int} {n : Nat} {p L K : Int} (h : PcL A n p L) (h2 : PcL A n p K) : L = K := by
  rcases Int.lt_trichotomy L K with q | q | q
  · have := h2.2.2 L q; have := h.2.1; omega
  · exact q
  · have := h.2.2 K q; have := h2.2.1; omega
theorem srt_PcL {A : Nat → Int} {n i : Nat} {p : Int} (hp : 1 ≤ p) (hi : i < n) (hb : ∀ j, j < n → 0 ≤ A j ∧ A j ≤ 4095) (h1 : p * n ≤ 100 * ((i : Int) + 1)) (h2 : i = 0 ∨ 100 * (i : Int) < p * n) (hpn : 1 ≤ p * n) : PcL A n p (srt A n i) := by
  have s := srt_Srd (A := A) n
  have b := srt_r (P := fun v => 0 ≤ v ∧ v ≤ 4095) n hb i hi
  have up : ∀ (B : Nat → Int) (L : Int) (m k : Nat), (∀ j, j < m → B j ≤ L) → (m : Int) ≤ cnL B L (m + k) := by
    intro B L m k hB
    induction k with
    | zero => rw [Nat.add_zero, cnL_all m hB]; exact Int.le_refl _
    | succ k ih =>
      have e : cnL B L (m + (k + 1)) = cnL B L (m + k) + (if B (m + k) ≤ L then 1 else 0) := rfl
      rw [e]
      split <;> omega
  have lo : ∀ (B : Nat → Int) (L : Int) (m k : Nat), (∀ j, m ≤ j → j < m + k → ¬ B j ≤ L) → cnL B L (m + k) ≤ m := by
    intro B L m k hB
    induction k with
    | zero => exact (cnL_b m).2
    | succ k ih =>
      have e : cnL B L (m + (k + 1)) = cnL B L (m + k) + (if B (m + k) ≤ L then 1 else 0) := rfl
      rw [e, if_neg (hB (m + k) (by omega) (by omega))]
      have := ih (fun j a c => hB j a (by omega))
      omega
  refine ⟨b, ?_, fun K hK => ?_⟩
  · have z := up (srt A n) (srt A n i) (i + 1) (n - (i + 1)) (fun j hj => by
      have y := s.le (i := j) (i - j) (by omega)
      rw [show j + (i - j) = i by omega] at y
      exact y)
    rw [show i + 1 + (n - (i + 1)) = n by omega, cnL_srt n (Nat.le_refl n)] at z
    omega
  · have z := lo (srt A n) K i (n - i) (fun j a c => by
      have y := s.le (i := i) (j - i) (by omega)
      rw [show i + (j - i) = j by omega] at y
      omega)
    rw [show i + (n - i) = n by omega, cnL_srt n (Nat.le_refl n)] at z
    rcases h2 with q | q <;> omega
theorem pw_s {i : Int} (h : 0 ≤ i ∧ i < 12) : (2 : Int) ^ (12 - i).toNat = 2 * 2 ^ (12 - (i + 1)).toNat := by
  rw [show (12 - i).toNat = (12 - (i + 1)).toNat + 1 by omega, Int.pow_succ]
  omega
/-- each colour has squares -/
theorem sl_1 {W H P bh c : Int} (hW : 4 ≤ W) (hH : 4 ≤ H) (hc : 0 ≤ c ∧ c ≤ 2) : 1 ≤ sumS (slF W H P bh (-1) c) W.toNat H.toNat := by
  have nn : ∀ x y, slF W H P bh (-1) c x y = 0 ∨ slF W H P bh (-1) c x y = 1 := fun x y => slF_01
  have mR : ∀ (y : Int) (a k : Nat), sumR (slF W H P bh (-1) c) y a ≤ sumR (slF W H P bh (-1) c) y (a + k) := by
    intro y a k
    induction k with
    | zero => exact Int.le_refl _
    | succ k ih =>
      have e : sumR (slF W H P bh (-1) c) y (a + (k + 1)) = sumR (slF W H P bh (-1) c) y (a + k) + slF W H P bh (-1) c (a + k : Nat) y := rfl
      have z := nn (a + k : Nat) y
      rw [e]; omega
  have mS : ∀ (a k : Nat), sumS (slF W H P bh (-1) c) W.toNat a ≤ sumS (slF W H P bh (-1) c) W.toNat (a + k) := by
    intro a k
    induction k with
    | zero => exact Int.le_refl _
    | succ k ih =>
      have e : sumS (slF W H P bh (-1) c) W.toNat (a + (k + 1)) = sumS (slF W H P bh (-1) c) W.toNat (a + k) + sumR (slF W H P bh (-1) c) (a + k : Nat) W.toNat := rfl
      have z := sumR_nn nn (y := (a + k : Nat)) W.toNat
      rw [e]; omega
  have r0 := mR 0 2 (W.toNat - 2)
  have r1 := mR 1 2 (W.toNat - 2)
  have s2 := mS 2 (H.toNat - 2)
  rw [show 2 + (W.toNat - 2) = W.toNat by omega] at r0 r1
  rw [show 2 + (H.toNat - 2) = H.toNat by omega] at s2
  have e2 : sumS (slF W H P bh (-1) c) W.toNat 2 = 0 + sumR (slF W H P bh (-1) c) 0 W.toNat + sumR (slF W H P bh (-1) c) 1 W.toNat := rfl
  have q0 : sumR (slF W H P bh (-1) c) 0 2 = 0 + slF W H P bh (-1) c 0 0 + slF W H P bh (-1) c 1 0 := rfl
  have q1 : sumR (slF W H P bh (-1) c) 1 2 = 0 + slF W H P bh (-1) c 0 1 + slF W H P bh (-1) c 1 1 := rfl
  have a00 := nn 0 0
  have a10 := nn 1 0
  have a01 := nn 0 1
  have a11 := nn 1 1
  have some : slF W H P bh (-1) c 0 0 = 1 ∨ slF W H P bh (-1) c 1 0 = 1 ∨ slF W H P bh (-1) c 0 1 = 1 ∨ slF W H P bh (-1) c 1 1 = 1 := by
    have one : ∀ x y : Int, cl P x y = c → slF W H P bh (-1) c x y = 1 := fun x y e => if_pos ⟨Or.inl rfl, Or.inr e⟩
    have c00 : cl P 0 0 = (0 + P) % 2 + (0 + P / 2) % 2 := rfl
    have c10 : cl P 1 0 = (1 + P) % 2 + (0 + P / 2) % 2 := rfl
    have c01 : cl P 0 1 = (0 + P) % 2 + (1 + P / 2) % 2 := rfl
    have c11 : cl P 1 1 = (1 + P) % 2 + (1 + P / 2) % 2 := rfl
    have : cl P 0 0 = c ∨ cl P 1 0 = c ∨ cl P 0 1 = c ∨ cl P 1 1 = c := by omega
    rcases this with q | q | q | q
    · exact Or.inl (one _ _ q)
    · exact Or.inr (Or.inl (one _ _ q))
    · exact Or.inr (Or.inr (Or.inl (one _ _ q)))
    · exact Or.inr (Or.inr (Or.inr (one _ _ q)))
  omega
def PcQ (W H P n : Int) (lt bh : Int → Int) (pc : Int → P3) (nm : Int → Nat → Int) (k c p r : Int) : Prop := if 0 ≤ k ∧ k ≤ n ∧ 0 ≤ c ∧ c ≤ 2 ∧ 1 ≤ p ∧ p ≤ 100 then PcL (laS (slF W H P (bh k) (-1) c) (pc k c) W.toNat H.toNat) (sumS (slF W H P (bh k) (-1) c) W.toNat H.toNat).toNat p r else r = -1
theorem PcQ.uni {W H P n : Int} {lt bh : Int → Int} {pc : Int → P3} {nm : Int → Nat → Int} {k c p r q : Int} (h : PcQ W H P n lt bh pc nm k c p r) (h2 : PcQ W H P n lt bh pc nm k c p q) : r = q := by
  unfold PcQ at h h2
  by_cases e : 0 ≤ k ∧ k ≤ n ∧ 0 ≤ c ∧ c ≤ 2 ∧ 1 ≤ p ∧ p ≤ 100
  · rw [if_pos e] at h h2; exact h.uni h2
  · rw [if_neg e] at h h2; omega

def bwF (A : Nat → Int) (lo hi : Int) : Nat → Int
  | 0 => 0
  | n + 1 => bwF A lo hi n + (if lo ≤ A n ∧ A n ≤ hi then 1 else 0)
theorem bwF_s {A : Nat → Int} {lo hi i : Int} (h : 0 ≤ i) : bwF A lo hi (i + 1).toNat = bwF A lo hi i.toNat + (if lo ≤ A i.toNat ∧ A i.toNat ≤ hi then 1 else 0) := by
  rw [show (i + 1).toNat = i.toNat + 1 by omega]
  rfl
theorem bwF_0 {A : Nat → Int} {L : Int} : ∀ n : Nat, (∀ j, j < n → 0 ≤ A j) → bwF A 0 L n = cnL A L n
  | 0, _ => rfl
  | n + 1, h => by
    show bwF A 0 L n + (if 0 ≤ A n ∧ A n ≤ L then 1 else 0) = cnL A L n + (if A n ≤ L then 1 else 0)
    rw [bwF_0 n (fun j hj => h j (by omega))]
    have z := h n (by omega)
    by_cases c : A n ≤ L
    · rw [if_pos ⟨z, c⟩, if_pos c]
    · rw [if_neg (fun q => c q.2), if_neg c]

abbrev q_X4_betweenZ (κ h : Hp) (x1 : Int) (x2 : Int) (M : Nat → Int) : Int → Hp → Prop := fun r h' => h' = h ∧ ((0 ≤ r) ∧ (r ≤ 256) ∧ (r = bwF M x1 x2 (h 95 0).toNat))
set_option maxHeartbeats 4000000 in
set_option maxRecDepth 20000 in
theorem s_X4_betweenZ {G : Ga} {b : Bd} {κ h : Hp} (hF : Fr b κ h) (x1 : Int) (hx1 : rng x1) (x2 : Int) (hx2 : rng x2) (M : Nat → Int) (hLi : LiO (h 96) M (h 95 0)) : zM G mX4_between yX4_between [.inr (.inr 95), .inl x1, .inl x2] h (q_X4_betweenZ κ h x1 x2 M) := by
  have e53_ := hF.2.2.2.2.1
  unfold rng at hx1
  unfold rng at hx2
  have main : ∀ N : Nat, (∀ (v3 v4 : Int) , (0 ≤ v3 ∧ v3 ≤ 256) → (0 ≤ v4 ∧ v4 ≤ 256) → (v3 = bwF M x1 x2 v4.toNat) → (v4 ≤ h 95 0) → (v3 ≤ v4) → 130548 + 23 * (256 - v4) + 22 < (N : Int) → zV G mX4_between (q_X4_betweenZ κ h x1 x2 M) 5 [some (.inr (.inr 95)), some (.inl x1), some (.inl x2), some (.inl v3), some (.inl v4)] [] h) := by
    intro N
    induction N with
    | zero =>
      intro v3 v4 g0 g1 gc0 gc1 gc2 hm
      exfalso; omega
    | succ N ih =>
      have k5 := ih
      intro v3 v4 g0 g1 gc0 gc1 gc2 hm
      refine zW_iload (pc' := 7) dX4_between_0.1.2.1.1 rfl rfl ?_
      refine zW_aload_n (pc' := 8) dX4_between_0.1.2.1.2 rfl rfl ?_
      refine zG_int (pc' := 11) fg_X4_27 tb95 rfl dX4_between_0.1.2.2.1 rfl ?_
      have e8 := hF.2.2.2.2.1
      refine zV_cm_ge (tgt := 45) (pc' := 14) dX4_between_0.1.2.2.2 rfl rfl ⟨by omega, by omega⟩ ⟨by omega, by omega⟩ (fun c11 => ?_) (fun c11 => ?_)
      · refine zW_iload_n (pc' := 46) dX4_between_1.2.2.1 rfl rfl ?_
        exact zV_iret rfl dX4_between_1.2.2.2 ⟨rfl, (by rw [show (h 95 0).toNat = v4.toNat by omega]; exact ⟨by omega, by omega, gc0⟩)⟩
      · refine zW_aload_n (pc' := 15) dX4_between_0.2.1.1.1 rfl rfl ?_
        refine zG_ref (pc' := 18) 96 fg_X4_9 tb95 rfl dX4_between_0.2.1.1.2 rfl ?_
        refine zW_iload (pc' := 20) dX4_between_0.2.1.2.1 rfl rfl ?_
        refine zV_iald (pc' := 21) tb96 (by omega) dX4_between_0.2.1.2.2 (by decide) rfl ?_
        have ha := hLi v4.toNat (by omega)
        have b20 : 0 ≤ h 96 v4.toNat ∧ h 96 v4.toNat ≤ 4095 := by rw [ha.1]; exact ha.2
        have sq := bwF_s (A := M) (lo := x1) (hi := x2) (i := v4) (by omega)
        rw [← ha.1] at sq
        refine zW_iload_n (pc' := 22) dX4_between_0.2.2.1.1 rfl rfl ?_
        refine zV_cm_lt (tgt := 39) (pc' := 25) dX4_between_0.2.2.1.2 rfl rfl ⟨by omega, by omega⟩ ⟨by omega, by omega⟩ (fun c22 => ?_) (fun c22 => ?_)
        · first | rw [if_pos (by omega)] at sq | rw [if_neg (by omega)] at sq
          refine zW_iinc (ls' := [_, _, _, _, _]) (pc' := 42) dX4_between_1.2.1.1 rfl (by decide) rfl rfl rfl ?_
          refine zV_goto 5 dX4_between_1.2.1.2 rfl ?_
          exact k5 _ _ (by omega) (by omega) (by first | rfl | (rw [sq, gc0]; omega) | (rw [sq, gc0])) (by omega) (by omega) (by omega)
        · refine zW_aload_n (pc' := 26) dX4_between_0.2.2.2.1 rfl rfl ?_
          refine zG_ref (pc' := 29) 96 fg_X4_9 tb95 rfl dX4_between_0.2.2.2.2 rfl ?_
          refine zW_iload (pc' := 31) dX4_between_1.1.1.1.1 rfl rfl ?_
          refine zV_iald (pc' := 32) tb96 (by omega) dX4_between_1.1.1.1.2 (by decide) rfl ?_
          refine zW_iload_n (pc' := 33) dX4_between_1.1.1.2 rfl rfl ?_
          refine zV_cm_gt (tgt := 39) (pc' := 36) dX4_between_1.1.2.1 rfl rfl ⟨by omega, by omega⟩ ⟨by omega, by omega⟩ (fun c33 => ?_) (fun c33 => ?_)
          · first | rw [if_pos (by omega)] at sq | rw [if_neg (by omega)] at sq
            refine zW_iinc (ls' := [_, _, _, _, _]) (pc' := 42) dX4_between_1.2.1.1 rfl (by decide) rfl rfl rfl ?_
            refine zV_goto 5 dX4_between_1.2.1.2 rfl ?_
            exact k5 _ _ (by omega) (by omega) (by first | rfl | (rw [sq, gc0]; omega) | (rw [sq, gc0])) (by omega) (by omega) (by omega)
          · refine zW_iinc (ls' := [_, _, _, _, _]) (pc' := 39) dX4_between_1.1.2.2 rfl (by decide) rfl rfl rfl ?_
            first | rw [if_pos (by omega)] at sq | rw [if_neg (by omega)] at sq
            refine zW_iinc (ls' := [_, _, _, _, _]) (pc' := 42) dX4_between_1.2.1.1 rfl (by decide) rfl rfl rfl ?_
            refine zV_goto 5 dX4_between_1.2.1.2 rfl ?_
            exact k5 _ _ (by omega) (by omega) (by first | rfl | (rw [sq, gc0]; omega) | (rw [sq, gc0])) (by omega) (by omega) (by omega)
  refine zM_of [some (.inr (.inr 95)), some (.inl x1), some (.inl x2), none, none] 2 rfl rfl (Nat.le_of_ble_eq_true rfl) rfl ?_
  refine zW_iconst (pc' := 1) dX4_between_0.1.1.1.1 rfl ?_
  refine zW_istore_n (ls' := [_, _, _, _, _]) (pc' := 2) dX4_between_0.1.1.1.2 (by decide) rfl rfl rfl ?_
  refine zW_iconst (pc' := 3) dX4_between_0.1.1.2.1 rfl ?_
  refine zW_istore (ls' := [_, _, _, _, _]) (pc' := 5) dX4_between_0.1.1.2.2 (by decide) rfl rfl rfl ?_
  exact (main 10000000000000000000000000000000000000000) _ _ (by omega) (by omega) (by first | rfl | (rw [sq, gc0]; omega) | (rw [sq, gc0])) (by omega) (by omega) (by omega)

abbrev q_X4_percentileZ (κ h : Hp) (x1 : Int) (M : Nat → Int) : Int → Hp → Prop := fun r h' => h' = h ∧ ((0 ≤ r) ∧ (r ≤ 4095) ∧ (PcL M (h 95 0).toNat x1 r))
set_option maxHeartbeats 4000000 in
set_option maxRecDepth 20000 in
theorem s_X4_percentileZ {G : Ga} {b : Bd} {κ h : Hp} (hF : Fr b κ h) (x1 : Int) (hx1 : 1 ≤ x1 ∧ x1 ≤ 100) (M : Nat → Int) (hLi : LiO (h 96) M (h 95 0)) (h1s : 1 ≤ h 95 0) : zM G mX4_percentile yX4_percentile [.inr (.inr 95), .inl x1] h (q_X4_percentileZ κ h x1 M) := by
  have e53_ := hF.2.2.2.2.1
  have hpn := mul_c (a := x1) (b := h 95 0) (by omega) (by omega)
  have hM : ∀ j : Nat, j < (h 95 0).toNat → 0 ≤ M j ∧ M j ≤ 4095 := fun j hj => (hLi j (by omega)).2
  have hpos : 100 * (0 : Int) < x1 * h 95 0 := by have z := Int.mul_pos (a := x1) (b := h 95 0) (by omega) (by omega); omega
  have h100 : x1 * h 95 0 ≤ 100 * (((h 95 0).toNat : Nat) : Int) := by rw [show (((h 95 0).toNat : Nat) : Int) = h 95 0 by omega]; exact Int.mul_le_mul_of_nonneg_right (by omega) (by omega)
  have main : ∀ N : Nat, (∀ (v2 v3 v4 : Int) , (0 ≤ v2 ∧ v2 ≤ 4095) → (0 ≤ v3 ∧ v3 ≤ 4095) → (0 ≤ v4 ∧ v4 ≤ 12) → (∀ K : Int, K < v2 → 100 * cnL M K (h 95 0).toNat < x1 * h 95 0) → (x1 * h 95 0 ≤ 100 * cnL M v3 (h 95 0).toNat) → (v2 ≤ v3 ∧ v3 - v2 < 2 ^ (12 - v4).toNat) → 17640 + 36 * (12 - v4) + 35 < (N : Int) → zV G mX4_percentile (q_X4_percentileZ κ h x1 M) 9 [some (.inr (.inr 95)), some (.inl x1), some (.inl v2), some (.inl v3), some (.inl v4), none] [] h) := by
    intro N
    induction N with
    | zero =>
      intro v2 v3 v4 g0 g1 g2 gc0 gc1 gc2 hm
      exfalso; omega
    | succ N ih =>
      have k9 := ih
      intro v2 v3 v4 g0 g1 g2 gc0 gc1 gc2 hm
      refine zW_iload (pc' := 11) dX4_percentile_0.1.2.2.1 rfl rfl ?_
      refine zW_bipush (pc' := 13) dX4_percentile_0.1.2.2.2 rfl rfl ?_
      refine zV_cm_ge (tgt := 64) (pc' := 16) dX4_percentile_0.2.1.1.1 rfl rfl ⟨by omega, by omega⟩ ⟨by omega, by omega⟩ (fun c13 => ?_) (fun c13 => ?_)
      · refine zW_iload_n (pc' := 65) dX4_percentile_2.2.2.1 rfl rfl ?_
        exact zV_iret rfl dX4_percentile_2.2.2.2 ⟨rfl, (by refine ⟨by omega, by omega, ⟨by omega, by omega⟩, ?_, ?_⟩; (rw [show (((h 95 0).toNat : Nat) : Int) = h 95 0 by omega]; have e : v2 = v3 := (by first | omega | (have e12 : (12 - v4).toNat = 0 := (by omega); rw [e12] at gc2; have g2 := gc2.2; simp at g2; omega)); rw [e]; exact gc1); (intro K hK; rw [show (((h 95 0).toNat : Nat) : Int) = h 95 0 by omega]; exact gc0 K hK))⟩
      · refine zW_iload_n (pc' := 17) dX4_percentile_0.2.1.1.2 rfl rfl ?_
        refine zW_iload_n (pc' := 18) dX4_percentile_0.2.1.2.1 rfl rfl ?_
        refine zV_cm_ge (tgt := 64) (pc' := 21) dX4_percentile_0.2.1.2.2 rfl rfl ⟨by omega, by omega⟩ ⟨by omega, by omega⟩ (fun c18 => ?_) (fun c18 => ?_)
        · refine zW_iload_n (pc' := 65) dX4_percentile_2.2.2.1 rfl rfl ?_
          exact zV_iret rfl dX4_percentile_2.2.2.2 ⟨rfl, (by refine ⟨by omega, by omega, ⟨by omega, by omega⟩, ?_, ?_⟩; (rw [show (((h 95 0).toNat : Nat) : Int) = h 95 0 by omega]; have e : v2 = v3 := (by first | omega | (have e12 : (12 - v4).toNat = 0 := (by omega); rw [e12] at gc2; have g2 := gc2.2; simp at g2; omega)); rw [e]; exact gc1); (intro K hK; rw [show (((h 95 0).toNat : Nat) : Int) = h 95 0 by omega]; exact gc0 K hK))⟩
        · refine zW_iload_n (pc' := 22) dX4_percentile_0.2.2.1.1 rfl rfl ?_
          refine zW_iload_n (pc' := 23) dX4_percentile_0.2.2.1.2 rfl rfl ?_
          refine zW_iadd (pc' := 24) dX4_percentile_0.2.2.2.1 rfl ?_
          refine zW_iconst (pc' := 25) dX4_percentile_0.2.2.2.2 rfl ?_
          refine zW_idiv (pc' := 26) (by omega) (by omega) dX4_percentile_1.1.1.1.1 rfl ?_
          refine zW_istore (ls' := [_, _, _, _, _, _]) (pc' := 28) dX4_percentile_1.1.1.1.2 (by decide) rfl rfl rfl ?_
          refine zW_bipush (pc' := 30) dX4_percentile_1.1.1.2.1 rfl rfl ?_
          refine zW_aload_n (pc' := 31) dX4_percentile_1.1.1.2.2 rfl rfl ?_
          refine zW_iconst (pc' := 32) dX4_percentile_1.1.2.1.1 rfl ?_
          refine zW_iload (pc' := 34) dX4_percentile_1.1.2.1.2 rfl rfl ?_
          refine cvI2 (pc' := 37) kX4_between vX4_between lk_X4_76 ⟨Nat.le_of_ble_eq_true rfl, Nat.le_of_ble_eq_true rfl⟩ tb95 vq4 rfl rfl (s_X4_betweenZ hF _ ⟨by omega, by omega⟩ _ ⟨by omega, by omega⟩ M hLi) dX4_percentile_1.1.2.2.1 (Nat.le_of_ble_eq_true rfl) rfl ?_
          rintro r34 z34 ⟨hz34, p34⟩; subst z34
          have e34 : r34 = cnL M ((v2 + v3) / 2) (h 95 0).toNat := by rw [p34.2.2]; exact bwF_0 _ (fun j hj => (hM j hj).1)
          have pw := pw_s (i := v4) ⟨by omega, by omega⟩
          refine zW_imul (pc' := 38) dX4_percentile_1.1.2.2.2 rfl ?_
          refine zW_iload_n (pc' := 39) dX4_percentile_1.2.1.1.1 rfl rfl ?_
          refine zW_aload_n (pc' := 40) dX4_percentile_1.2.1.1.2 rfl rfl ?_
          refine zG_int (pc' := 43) fg_X4_27 tb95 rfl dX4_percentile_1.2.1.2.1 rfl ?_
          have e40 := hF.2.2.2.2.1
          refine zW_imul (pc' := 44) dX4_percentile_1.2.1.2.2 rfl ?_
          skip
          refine zV_cm_lt (tgt := 53) (pc' := 47) dX4_percentile_1.2.2.1.1 rfl rfl ⟨by omega, by omega⟩ ⟨by omega, by omega⟩ (fun c44 => ?_) (fun c44 => ?_)
          · refine zW_iload (pc' := 55) dX4_percentile_2.1.1.1 rfl rfl ?_
            refine zW_iconst (pc' := 56) dX4_percentile_2.1.1.2 rfl ?_
            refine zW_iadd (pc' := 57) dX4_percentile_2.1.2.1 rfl ?_
            refine zW_istore_n (ls' := [_, _, _, _, _, _]) (pc' := 58) dX4_percentile_2.1.2.2 (by decide) rfl rfl rfl ?_
            refine zW_iinc (ls' := [_, _, _, _, _, _]) (pc' := 61) dX4_percentile_2.2.1.1 rfl (by decide) rfl rfl rfl ?_
            refine zV_goto 9 dX4_percentile_2.2.1.2 rfl ?_
            refine zV_clr 5 (ls' := [_, _, _, _, _, _]) rfl ?_
            exact k9 _ _ _ (by omega) (by omega) (by omega) (by first | exact gc0 | (intro K hK; have z := cnL_mono (A := M) (L := K) (L' := (v2 + v3) / 2) (by omega) (h 95 0).toNat; omega) | (intro K hK; have z : cnL M K (h 95 0).toNat = 0 := (by have q : ∀ n : Nat, n ≤ (h 95 0).toNat → cnL M K n = 0 := (fun n => by induction n with | zero => exact fun _ => rfl | succ n ih => intro hn; show cnL M K n + (if M n ≤ K then 1 else 0) = 0; rw [ih (by omega), if_neg (by have := (hM n (by omega)).1; omega)]; rfl); exact q _ (Nat.le_refl _)); rw [z]; exact hpos)) (by first | exact gc1 | (rw [← e34]; omega) | (rw [cnL_all (h 95 0).toNat (fun j hj => (hM j hj).2)]; exact h100)) (by first | omega | exact ⟨by omega, by decide⟩) (by omega)
          · refine zW_iload (pc' := 49) dX4_percentile_1.2.2.1.2 rfl rfl ?_
            refine zW_istore_n (ls' := [_, _, _, _, _, _]) (pc' := 50) dX4_percentile_1.2.2.2.1 (by decide) rfl rfl rfl ?_
            refine zV_goto 58 dX4_percentile_1.2.2.2.2 rfl ?_
            refine zW_iinc (ls' := [_, _, _, _, _, _]) (pc' := 61) dX4_percentile_2.2.1.1 rfl (by decide) rfl rfl rfl ?_
            refine zV_goto 9 dX4_percentile_2.2.1.2 rfl ?_
            refine zV_clr 5 (ls' := [_, _, _, _, _, _]) rfl ?_
            exact k9 _ _ _ (by omega) (by omega) (by omega) (by first | exact gc0 | (intro K hK; have z := cnL_mono (A := M) (L := K) (L' := (v2 + v3) / 2) (by omega) (h 95 0).toNat; omega) | (intro K hK; have z : cnL M K (h 95 0).toNat = 0 := (by have q : ∀ n : Nat, n ≤ (h 95 0).toNat → cnL M K n = 0 := (fun n => by induction n with | zero => exact fun _ => rfl | succ n ih => intro hn; show cnL M K n + (if M n ≤ K then 1 else 0) = 0; rw [ih (by omega), if_neg (by have := (hM n (by omega)).1; omega)]; rfl); exact q _ (Nat.le_refl _)); rw [z]; exact hpos)) (by first | exact gc1 | (rw [← e34]; omega) | (rw [cnL_all (h 95 0).toNat (fun j hj => (hM j hj).2)]; exact h100)) (by first | omega | exact ⟨by omega, by decide⟩) (by omega)
  refine zM_of [some (.inr (.inr 95)), some (.inl x1), none, none, none, none] 4 rfl rfl (Nat.le_of_ble_eq_true rfl) rfl ?_
  refine zW_iconst (pc' := 1) dX4_percentile_0.1.1.1.1 rfl ?_
  refine zW_istore_n (ls' := [_, _, _, _, _, _]) (pc' := 2) dX4_percentile_0.1.1.1.2 (by decide) rfl rfl rfl ?_
  refine zW_sipush (pc' := 5) dX4_percentile_0.1.1.2.1 rfl rfl ?_
  refine zW_istore_n (ls' := [_, _, _, _, _, _]) (pc' := 6) dX4_percentile_0.1.1.2.2 (by decide) rfl rfl rfl ?_
  refine zW_iconst (pc' := 7) dX4_percentile_0.1.2.1.1 rfl ?_
  refine zW_istore (ls' := [_, _, _, _, _, _]) (pc' := 9) dX4_percentile_0.1.2.1.2 (by decide) rfl rfl rfl ?_
  exact (main 10000000000000000000000000000000000000000) _ _ _ (by omega) (by omega) (by omega) (by first | exact gc0 | (intro K hK; have z := cnL_mono (A := M) (L := K) (L' := (v2 + v3) / 2) (by omega) (h 95 0).toNat; omega) | (intro K hK; have z : cnL M K (h 95 0).toNat = 0 := (by have q : ∀ n : Nat, n ≤ (h 95 0).toNat → cnL M K n = 0 := (fun n => by induction n with | zero => exact fun _ => rfl | succ n ih => intro hn; show cnL M K n + (if M n ≤ K then 1 else 0) = 0; rw [ih (by omega), if_neg (by have := (hM n (by omega)).1; omega)]; rfl); exact q _ (Nat.le_refl _)); rw [z]; exact hpos)) (by first | exact gc1 | (rw [← e34]; omega) | (rw [cnL_all (h 95 0).toNat (fun j hj => (hM j hj).2)]; exact h100)) (by first | omega | exact ⟨by omega, by decide⟩) (by omega)

abbrev q_X11_percentZ (b : Bd) (κ : Hp) (x1 : Int) (x2 : Int) (x3 : Int) : Int → Hp → Prop := fun r h' => Fr b κ h' ∧ ((PcQ (κ 33 0) (κ 33 1) (κ 33 2) (κ 41 0) (ltV (LC κ) (κ 41 0)) (bhV (LC κ) (κ 41 0)) (pcV (κ 41 0) (PFc κ)) (nmV (κ 41 0) (XNc κ)) x1 x2 x3 r))
set_option maxHeartbeats 4000000 in
set_option maxRecDepth 20000 in
theorem s_X11_percentZ {G : Ga} {b : Bd} {κ h : Hp} (hK : KC κ) (hF : Fr b κ h) (x1 : Int) (hx1 : rng x1) (x2 : Int) (hx2 : rng x2) (x3 : Int) (hx3 : rng x3) (hSw : SheetW b) (hV : VOK (κ 34)) (hE : EaOK (LC κ) (κ 41 0)) : zM G mX11_percent yX11_percent [.inr (.inr 30), .inl x1, .inl x2, .inl x3] h (q_X11_percentZ b κ x1 x2 x3) := by
  have f_33_0 := KCw hK
  have f_33_1 := KCh hK
  have f_33_2 := KCp hK
  have f_41_0 := KCm hK
  unfold rng at hx1
  unfold rng at hx2
  unfold rng at hx3
  refine zM_of [some (.inr (.inr 30)), some (.inl x1), some (.inl x2), some (.inl x3)] 0 rfl rfl (Nat.le_of_ble_eq_true rfl) rfl ?_
  refine zW_aload_n (pc' := 1) dX11_percent_0.1.1.1.1 rfl rfl ?_
  refine zW_iload_n (pc' := 2) dX11_percent_0.1.1.1.2 rfl rfl ?_
  refine zW_iload_n (pc' := 3) dX11_percent_0.1.1.2.1 rfl rfl ?_
  refine cvI2 (pc' := 6) kX11_isLeftOf vX11_isLeftOf lk_X11_290 ⟨Nat.le_of_ble_eq_true rfl, Nat.le_of_ble_eq_true rfl⟩ tb30 vq11 rfl rfl (s_X11_isLeftOfZ hK hF _ ⟨by omega, by omega⟩ _ ⟨by omega, by omega⟩) dX11_percent_0.1.1.2.2 (Nat.le_of_ble_eq_true rfl) rfl ?_
  rintro r3 z3 ⟨hz3, p3⟩; subst z3
  refine zV_if_eq (tgt := 20) (pc' := 9) dX11_percent_0.1.2.1.1 rfl rfl ⟨by omega, by omega⟩ (fun c6 => ?_) (fun c6 => ?_)
  · refine zW_iconst (pc' := 21) dX11_percent_0.2.1.2.2 rfl ?_
    exact zV_iret rfl dX11_percent_0.2.2.1.1 ⟨hF, (by unfold PcQ; rw [if_neg (by omega)])⟩
  · refine zW_iload_n (pc' := 10) dX11_percent_0.1.2.1.2 rfl rfl ?_
    refine zW_iconst (pc' := 11) dX11_percent_0.1.2.2.1 rfl ?_
    refine zV_cm_lt (tgt := 20) (pc' := 14) dX11_percent_0.1.2.2.2 rfl rfl ⟨by omega, by omega⟩ ⟨by omega, by omega⟩ (fun c11 => ?_) (fun c11 => ?_)
    · refine zW_iconst (pc' := 21) dX11_percent_0.2.1.2.2 rfl ?_
      exact zV_iret rfl dX11_percent_0.2.2.1.1 ⟨hF, (by unfold PcQ; rw [if_neg (by omega)])⟩
    · refine zW_iload_n (pc' := 15) dX11_percent_0.2.1.1.1 rfl rfl ?_
      refine zW_bipush (pc' := 17) dX11_percent_0.2.1.1.2 rfl rfl ?_
      refine zV_cm_le (tgt := 22) (pc' := 20) dX11_percent_0.2.1.2.1 rfl rfl ⟨by omega, by omega⟩ ⟨by omega, by omega⟩ (fun c17 => ?_) (fun c17 => ?_)
      · refine zW_aload_n (pc' := 23) dX11_percent_0.2.2.1.2 rfl rfl ?_
        refine zG_ref (pc' := 26) 95 fg_X11_60 tb30 rfl dX11_percent_0.2.2.2.1 rfl ?_
        refine zW_aload_n (pc' := 27) dX11_percent_0.2.2.2.2 rfl rfl ?_
        refine zG_ref (pc' := 30) 54 fg_X11_51 tb30 rfl dX11_percent_1.1.1.1.1 rfl ?_
        refine zW_iload_n (pc' := 31) dX11_percent_1.1.1.1.2 rfl rfl ?_
        refine cvA1 (pc' := 34) kX1_sheetOf vX1_sheetOf lk_X11_192 ⟨Nat.le_of_ble_eq_true rfl, Nat.le_of_ble_eq_true rfl⟩ tb54 vq1 rfl rfl (hSw hK hF _ ⟨by omega, by omega⟩) dX11_percent_1.1.1.2 (Nat.le_of_ble_eq_true rfl) rfl ?_
        rintro r31 h ⟨hF, p31⟩
        obtain ⟨q31, z31⟩ : ∃ z : Nat, z = r31.toNat := ⟨_, rfl⟩
        rw [← z31]
        have hsh := (p31.2.2 (by omega) (by omega)).2 x1.toNat (by omega)
        have hqs := (p31.2.2 (by omega) (by omega)).1
        rw [show 56 + x1.toNat = q31 by omega] at hsh
        have hat := PkS_at hsh rfl (PFc_b hK hV _) (fun q => PFc_c hE (by omega) q) x2
        have hb01 : 0 ≤ bhI (LC κ) x1.toNat ∧ bhI (LC κ) x1.toNat ≤ 1 := by have z := bhI_c (LC κ) x1.toNat; omega
        refine zW_iload_n (pc' := 35) dX11_percent_1.1.2.1 rfl rfl ?_
        refine cvV2 (pc' := 38) kX4_gather vX4_gather lk_X11_293 ⟨Nat.le_of_ble_eq_true rfl, Nat.le_of_ble_eq_true rfl⟩ tb95 vq4 rfl rfl (s_X4_gatherZ hK hF _ ⟨by omega, by omega⟩ _ ⟨by omega, by omega⟩ (PFc κ x1.toNat) (bhI (LC κ) x1.toNat) h (PkS_fl hsh) hb01 (fun x y hp => hat x y ⟨by omega, by omega⟩ hp) Fw.rf) dX11_percent_1.1.2.2 (Nat.le_of_ble_eq_true rfl) rfl ?_
        rintro r35 h ⟨hF, d35, p35⟩
        have k1 := p35.1; have k2 := p35.2
        have n1 := sl_1 (W := κ 33 0) (H := κ 33 1) (P := κ 33 2) (bh := bhI (LC κ) x1.toNat) (c := x2) (by omega) (by omega) ⟨by omega, by omega⟩
        refine zW_aload_n (pc' := 39) dX11_percent_1.2.1.1.1 rfl rfl ?_
        refine zG_ref (pc' := 42) 95 fg_X11_60 tb30 rfl dX11_percent_1.2.1.1.2 rfl ?_
        refine zW_iload_n (pc' := 43) dX11_percent_1.2.1.2 rfl rfl ?_
        refine cvI1 (pc' := 46) kX4_percentile vX4_percentile lk_X11_326 ⟨Nat.le_of_ble_eq_true rfl, Nat.le_of_ble_eq_true rfl⟩ tb95 vq4 rfl rfl (s_X4_percentileZ hF _ ⟨by omega, by omega⟩ (laS (slF (κ 33 0) (κ 33 1) (κ 33 2) (bhI (LC κ) x1.toNat) (-1) x2) (PFc κ x1.toNat x2) (κ 33 0).toNat (κ 33 1).toNat) k2 (by omega)) dX11_percent_1.2.2.1 (Nat.le_of_ble_eq_true rfl) rfl ?_
        rintro r43 z43 ⟨hz43, p43⟩; subst z43
        exact zV_iret rfl dX11_percent_1.2.2.2 ⟨hF, (by unfold PcQ; rw [if_pos ⟨by omega, by omega, by omega, by omega, by omega, by omega⟩, bhV_in ⟨by omega, by omega⟩, pcV_in ⟨by omega, by omega⟩, ← k1]; exact p43.2.2)⟩
      · refine zW_iconst (pc' := 21) dX11_percent_0.2.1.2.2 rfl ?_
        exact zV_iret rfl dX11_percent_0.2.2.1.1 ⟨hF, (by unfold PcQ; rw [if_neg (by omega)])⟩

abbrev q_X12_percentZ (b : Bd) (κ : Hp) (x1 : Int) (x2 : Int) (x3 : Int) : Int → Hp → Prop := fun r h' => Fr b κ h' ∧ ((PcQ (κ 0 11) (κ 0 12) (κ 0 13) (κ 0 14) (ltV (κ 3) (κ 0 14)) (bhV (κ 3) (κ 0 14)) (pcV (κ 0 14) (PF κ)) (nmV (κ 0 14) (XN (κ 4) (κ 5))) x1 x2 x3 r))
set_option maxHeartbeats 4000000 in
set_option maxRecDepth 20000 in
theorem s_X12_percentZ {G : Ga} {b : Bd} {κ h : Hp} (hK : KR κ) (hF : Fr b.fo κ h) (x1 : Int) (hx1 : rng x1) (x2 : Int) (hx2 : rng x2) (x3 : Int) (hx3 : rng x3) (hLw : LeavesW b) (hV : VOK (κ 1)) (hE : EaOK (κ 3) (κ 0 14)) : zM G mX12_percent yX12_percent [.inr (.inr 0), .inl x1, .inl x2, .inl x3] h (q_X12_percentZ b.fo κ x1 x2 x3) := by
  have f_0_11 := KRw hK
  have f_0_12 := KRh hK
  have f_0_13 := KRp hK
  have f_0_14 := KRm hK
  unfold rng at hx1
  unfold rng at hx2
  unfold rng at hx3
  have main : ∀ N : Nat, (∀ (v4 : Int) (h : Hp), Fr b.fo κ h → (0 ≤ x1 ∧ x1 ≤ 12) → (x1 - κ 0 14 ≤ 0) → (0 ≤ x2 ∧ x2 ≤ 2) → (1 ≤ x3 ∧ x3 ≤ 100) → (0 ≤ v4 ∧ v4 ≤ 255) → ((∀ j : Nat, (j : Int) < h 0 53 → h 29 j = srt (laS (slF (κ 0 11) (κ 0 12) (κ 0 13) (bhI (κ 3) x1.toNat) (-1) x2) (PF κ x1.toNat x2) (κ 0 11).toNat (κ 0 12).toNat) (h 0 53).toNat j) ∧ h 0 53 = (sumS (slF (κ 0 11) (κ 0 12) (κ 0 13) (bhI (κ 3) x1.toNat) (-1) x2) (κ 0 11).toNat (κ 0 12).toNat)) → (∀ j : Nat, (j : Int) < (sumS (slF (κ 0 11) (κ 0 12) (κ 0 13) (bhI (κ 3) x1.toNat) (-1) x2) (κ 0 11).toNat (κ 0 12).toNat) → 0 ≤ (laS (slF (κ 0 11) (κ 0 12) (κ 0 13) (bhI (κ 3) x1.toNat) (-1) x2) (PF κ x1.toNat x2) (κ 0 11).toNat (κ 0 12).toNat) j ∧ (laS (slF (κ 0 11) (κ 0 12) (κ 0 13) (bhI (κ 3) x1.toNat) (-1) x2) (PF κ x1.toNat x2) (κ 0 11).toNat (κ 0 12).toNat) j ≤ 4095) → (0 ≤ x1 ∧ x1 ≤ κ 0 14 ∧ 0 ≤ x2 ∧ x2 ≤ 2 ∧ 1 ≤ x3 ∧ x3 ≤ 100) → (v4 = 0 ∨ 100 * v4 < x3 * h 0 53) → (v4 < h 0 53) → (x3 * h 0 53 ≤ 100 * h 0 53 ∧ 1 ≤ x3 * h 0 53) → 141864 + 24 * (255 - v4) + 23 < (N : Int) → zV G mX12_percent (q_X12_percentZ b.fo κ x1 x2 x3) 45 [some (.inr (.inr 0)), some (.inl x1), some (.inl x2), some (.inl x3), some (.inl v4)] [] h) := by
    intro N
    induction N with
    | zero =>
      intro v4 h hF g0 g1 g2 g3 g4 gc0 gc1 gc2 gc3 gc4 gc5 hm
      exfalso; omega
    | succ N ih =>
      have k45 := ih
      intro v4 h hF g0 g1 g2 g3 g4 gc0 gc1 gc2 gc3 gc4 gc5 hm
      have e53_ := hF.2.2.1
      refine zW_bipush (pc' := 47) dX12_percent_1.2.1.1.2 rfl rfl ?_
      refine zW_iload (pc' := 49) dX12_percent_1.2.1.2.1 rfl rfl ?_
      refine zW_iconst (pc' := 50) dX12_percent_1.2.1.2.2 rfl ?_
      refine zW_iadd (pc' := 51) dX12_percent_1.2.2.1.1 rfl ?_
      refine zW_imul (pc' := 52) dX12_percent_1.2.2.1.2 rfl ?_
      refine zW_iload_n (pc' := 53) dX12_percent_1.2.2.2.1 rfl rfl ?_
      refine zW_aload_n (pc' := 54) dX12_percent_1.2.2.2.2 rfl rfl ?_
      refine zG_int (pc' := 57) fg_X12_403 tb0 rfl dX12_percent_2.1.1.1.1 rfl ?_
      have e54 := hF.2.2.1
      have hm3 := mul_c (a := x3) (b := h 0 53) (by omega) hF.2.2.1
      refine zW_imul (pc' := 58) dX12_percent_2.1.1.1.2 rfl ?_
      refine zV_cm_ge (tgt := 70) (pc' := 61) dX12_percent_2.1.1.2.1 rfl rfl ⟨by omega, by omega⟩ ⟨by omega, by omega⟩ (fun c58 => ?_) (fun c58 => ?_)
      · refine zW_aload_n (pc' := 71) dX12_percent_2.2.1.1.2 rfl rfl ?_
        refine zG_ref (pc' := 74) 29 fg_X12_96 tb0 rfl dX12_percent_2.2.1.2 rfl ?_
        refine zW_iload (pc' := 76) dX12_percent_2.2.2.1.1 rfl rfl ?_
        refine zV_iald (pc' := 77) tb29 (by omega) dX12_percent_2.2.2.1.2 (by decide) rfl ?_
        exact zV_iret rfl dX12_percent_2.2.2.2 ⟨hF, (by unfold PcQ; rw [if_pos ⟨by omega, by omega, by omega, by omega, by omega, by omega⟩, bhV_in ⟨by omega, by omega⟩, pcV_in ⟨by omega, by omega⟩, ← gc0.2, gc0.1 v4.toNat (by omega)]; exact srt_PcL (by omega) (by omega) (fun j hj => gc1 j (by rw [← gc0.2]; omega)) (by rw [show (((h 0 53).toNat : Nat) : Int) = h 0 53 by omega, show ((v4.toNat : Nat) : Int) = v4 by omega]; omega) (by rw [show (((h 0 53).toNat : Nat) : Int) = h 0 53 by omega, show ((v4.toNat : Nat) : Int) = v4 by omega]; omega) (by rw [show (((h 0 53).toNat : Nat) : Int) = h 0 53 by omega]; exact gc5.2))⟩
      · refine zW_iload (pc' := 63) dX12_percent_2.1.1.2.2 rfl rfl ?_
        refine zW_iconst (pc' := 64) dX12_percent_2.1.2.1.1 rfl ?_
        refine zW_iadd (pc' := 65) dX12_percent_2.1.2.1.2 rfl ?_
        refine zW_istore (ls' := [_, _, _, _, _]) (pc' := 67) dX12_percent_2.1.2.2 (by decide) rfl rfl rfl ?_
        refine zV_goto 45 dX12_percent_2.2.1.1.1 rfl ?_
        exact k45 _ _ hF (by omega) (by omega) (by omega) (by omega) (by omega) (by first | exact gc0 | (refine ⟨fun j hj => ?_, by rw [z53, hy53]; exact k1⟩; have z := p39 j (by omega); rw [← hy53] at z; rw [z53]; exact z)) (by first | exact gc1 | (intro j hj; rw [← k1] at hj; exact (k2 j hj).2)) (by omega) (by omega) (by omega) (by first | exact gc5 | (rw [z53]; exact ⟨h100, by omega⟩)) (by omega)
  refine zM_of [some (.inr (.inr 0)), some (.inl x1), some (.inl x2), some (.inl x3), none] 1 rfl rfl (Nat.le_of_ble_eq_true rfl) rfl ?_
  refine zW_aload_n (pc' := 1) dX12_percent_0.1.1.1.1 rfl rfl ?_
  refine zW_iload_n (pc' := 2) dX12_percent_0.1.1.1.2 rfl rfl ?_
  refine zW_iload_n (pc' := 3) dX12_percent_0.1.1.2.1 rfl rfl ?_
  refine cvI2 (pc' := 6) kX12_isLeftOf vX12_isLeftOf lk_X12_406 ⟨Nat.le_of_ble_eq_true rfl, Nat.le_of_ble_eq_true rfl⟩ tb0 vq12 rfl rfl (s_X12_isLeftOfZ hK hF _ ⟨by omega, by omega⟩ _ ⟨by omega, by omega⟩) dX12_percent_0.1.1.2.2 (Nat.le_of_ble_eq_true rfl) rfl ?_
  rintro r3 z3 ⟨hz3, p3⟩; subst z3
  refine zV_if_eq (tgt := 19) (pc' := 9) dX12_percent_0.1.2.1.1 rfl rfl ⟨by omega, by omega⟩ (fun c6 => ?_) (fun c6 => ?_)
  · refine zW_iconst (pc' := 20) dX12_percent_0.2.1.2.1 rfl ?_
    exact zV_iret rfl dX12_percent_0.2.1.2.2 ⟨hF, (by unfold PcQ; rw [if_neg (by omega)])⟩
  · refine zW_iload_n (pc' := 10) dX12_percent_0.1.2.1.2 rfl rfl ?_
    refine zW_iconst (pc' := 11) dX12_percent_0.1.2.2.1 rfl ?_
    refine zW_bipush (pc' := 13) dX12_percent_0.1.2.2.2 rfl rfl ?_
    refine csI3 (pc' := 16) kX12_in vX12_in lk_X12_140 ⟨Nat.le_of_ble_eq_true rfl, Nat.le_of_ble_eq_true rfl⟩ rfl (s_X12_inR hF _ ⟨by omega, by omega⟩ _ ⟨by omega, by omega⟩ _ ⟨by omega, by omega⟩) dX12_percent_0.2.1.1.1 (Nat.le_of_ble_eq_true rfl) rfl ?_
    rintro r13 z13 ⟨hz13, p13⟩; subst z13
    refine zV_if_ne (tgt := 21) (pc' := 19) dX12_percent_0.2.1.1.2 rfl rfl ⟨by omega, by omega⟩ (fun c16 => ?_) (fun c16 => ?_)
    · refine zW_aload_n (pc' := 22) dX12_percent_0.2.2.1.1 rfl rfl ?_
      refine cvV0 (pc' := 25) kX12_leaves vX12_leaves lk_X12_377 ⟨Nat.le_of_ble_eq_true rfl, Nat.le_of_ble_eq_true rfl⟩ tb0 vq12 rfl rfl (hLw hK hF) dX12_percent_0.2.2.1.2 (Nat.le_of_ble_eq_true rfl) rfl ?_
      rintro r22 h ⟨hF, p22⟩
      have hrow := p22.2 x1.toNat (by omega)
      rw [show ((x1.toNat : Nat) : Int) = x1 by omega] at hrow
      have hat : ∀ x y : Int, inP (κ 0 11) (κ 0 12) x y → (bhI (κ 3) x1.toNat = 1 ∨ cl (κ 0 13) x y = x2) → h 17 (768 * x1 + 256 * x2 + 16 * y + x).toNat = PF κ x1.toNat x2 x y ∧ 0 ≤ PF κ x1.toNat x2 x y ∧ PF κ x1.toNat x2 x y ≤ 4095 := fun x y hp hq => PkR_at hrow rfl (PF_b hK hV _) (fun q => PF_c hE (by omega) q) x2 x y ⟨by omega, by omega⟩ hp hq
      refine zW_aload_n (pc' := 26) dX12_percent_0.2.2.2.1 rfl rfl ?_
      refine zW_iload_n (pc' := 27) dX12_percent_0.2.2.2.2 rfl rfl ?_
      refine zW_iload_n (pc' := 28) dX12_percent_1.1.1.1.1 rfl rfl ?_
      refine cvV2 (pc' := 31) kX12_lists vX12_lists lk_X12_409 ⟨Nat.le_of_ble_eq_true rfl, Nat.le_of_ble_eq_true rfl⟩ tb0 vq12 rfl rfl (s_X12_listsZ hK hF _ ⟨by omega, by omega, by omega⟩ _ ⟨by omega, by omega⟩ (PF κ x1.toNat) (bhI (κ 3) x1.toNat) h hat rfl Fw.rf) dX12_percent_1.1.1.1.2 (Nat.le_of_ble_eq_true rfl) rfl ?_
      rintro r28 h ⟨hF, d28, p28⟩
      have k1 := p28.1; have k2 := p28.2
      have e53_ := hF.2.2.1
      have n1 := sl_1 (W := κ 0 11) (H := κ 0 12) (P := κ 0 13) (bh := bhI (κ 3) x1.toNat) (c := x2) (by omega) (by omega) ⟨by omega, by omega⟩
      obtain ⟨y53, hy53⟩ : ∃ z : Int, z = h 0 53 := ⟨_, rfl⟩
      refine zW_aload_n (pc' := 32) dX12_percent_1.1.1.2.1 rfl rfl ?_
      refine zG_ref (pc' := 35) 29 fg_X12_96 tb0 rfl dX12_percent_1.1.1.2.2 rfl ?_
      refine zW_aload_n (pc' := 36) dX12_percent_1.1.2.1.1 rfl rfl ?_
      refine zG_int (pc' := 39) fg_X12_403 tb0 rfl dX12_percent_1.1.2.1.2 rfl ?_
      have e36 := hF.2.2.1
      refine csV2 (pc' := 42) kX12_sorts vX12_sorts lk_X12_250 ⟨Nat.le_of_ble_eq_true rfl, Nat.le_of_ble_eq_true rfl⟩ rfl (s_X12_sortsZ hF _ tb29 (sr29) (by decide) _ ⟨by omega, by omega⟩ (laS (slF (κ 0 11) (κ 0 12) (κ 0 13) (bhI (κ 3) x1.toNat) (-1) x2) (PF κ x1.toNat x2) (κ 0 11).toNat (κ 0 12).toNat) h (by omega) (fun j hj => (k2 j hj).1) (by omega) (by decide) Fw.rf) dX12_percent_1.1.2.2.1 (Nat.le_of_ble_eq_true rfl) rfl ?_
      rintro r39 h ⟨hF, d39, p39⟩
      have z53 : h 0 53 = y53 := by rw [d39 0 53 (by intro c hc; simp at hc; omega) (by simp)]; exact hy53.symm
      have h100 : x3 * y53 ≤ 100 * y53 := Int.mul_le_mul_of_nonneg_right (by omega) (by omega)
      have hpos := Int.mul_pos (a := x3) (b := y53) (by omega) (by omega)
      refine zW_iconst (pc' := 43) dX12_percent_1.1.2.2.2 rfl ?_
      refine zW_istore (ls' := [_, _, _, _, _]) (pc' := 45) dX12_percent_1.2.1.1.1 (by decide) rfl rfl rfl ?_
      exact (main 10000000000000000000000000000000000000000) _ _ hF (by omega) (by omega) (by omega) (by omega) (by omega) (by first | exact gc0 | (refine ⟨fun j hj => ?_, by rw [z53, hy53]; exact k1⟩; have z := p39 j (by omega); rw [← hy53] at z; rw [z53]; exact z)) (by first | exact gc1 | (intro j hj; rw [← k1] at hj; exact (k2 j hj).2)) (by omega) (by omega) (by omega) (by first | exact gc5 | (rw [z53]; exact ⟨h100, by omega⟩)) (by omega)
    · refine zW_iconst (pc' := 20) dX12_percent_0.2.1.2.1 rfl ?_
      exact zV_iret rfl dX12_percent_0.2.1.2.2 ⟨hF, (by unfold PcQ; rw [if_neg (by omega)])⟩
