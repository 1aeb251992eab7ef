/-! which number is best -/
def tnI (c : Int) : Int := if c = 98 ∨ c = 100 ∨ c = 108 ∨ c = 119 ∨ c = 104 ∨ c = 109 ∨ c = 121 ∨ c = 110 ∨ c = 115 then 1 else 0
theorem tnI_c (c : Int) : (tnI c = 1 ∧ (c = 98 ∨ c = 100 ∨ c = 108 ∨ c = 119 ∨ c = 104 ∨ c = 109 ∨ c = 121 ∨ c = 110 ∨ c = 115)) ∨ (tnI c = 0 ∧ ¬ (c = 98 ∨ c = 100 ∨ c = 108 ∨ c = 119 ∨ c = 104 ∨ c = 109 ∨ c = 121 ∨ c = 110 ∨ c = 115)) := by
  unfold tnI
  by_cases q : c = 98 ∨ c = 100 ∨ c = 108 ∨ c = 119 ∨ c = 104 ∨ c = 109 ∨ c = 121 ∨ c = 110 ∨ c = 115
  · rw [if_pos q]; exact Or.inl ⟨rfl, q⟩
  · rw [if_neg q]; exact Or.inr ⟨rfl, q⟩
theorem tn_ix {c r : Int} (h : (r = -1 ∧ ∀ j : Nat, j < 9 → sbv 1 j ≠ c) ∨ (0 ≤ r ∧ r < 9 ∧ sbv 1 r.toNat = c)) : (0 ≤ r ∧ tnI c = 1) ∨ (r = -1 ∧ tnI c = 0) := by
  have key : ∀ j : Fin 9, tnI (sbv 1 j) = 1 := by decide +kernel
  rcases h with ⟨e, q⟩ | ⟨h1, h2, h3⟩
  · refine Or.inr ⟨e, ?_⟩
    rcases tnI_c c with ⟨a, b⟩ | ⟨a, b⟩
    · exfalso
      have all : ∀ d : Int, (d = 98 ∨ d = 100 ∨ d = 108 ∨ d = 119 ∨ d = 104 ∨ d = 109 ∨ d = 121 ∨ d = 110 ∨ d = 115) → ∃ j : Nat, j < 9 ∧ sbv 1 j = d := by
        have k0 : ∀ d ∈ [(98 : Int), 100, 108, 119, 104, 109, 121, 110, 115], ∃ j : Fin 9, sbv 1 j = d := by decide +kernel
        intro d hd
        obtain ⟨j, hj⟩ := k0 d (by simp only [List.mem_cons, List.mem_nil_iff, or_false]; exact hd)
        exact ⟨j.val, j.isLt, hj⟩
      obtain ⟨j, j1, j2⟩ := all c b
      exact q j j1 j2
    · exact a
  · refine Or.inl ⟨h1, ?_⟩
    have z := key ⟨r.toNat, by omega⟩
    rw [← h3]; exact z
def bdT (W H w : Int) (F tr : P3) (c : Int) : Int := if w = 0 then nz3 W H 4 1 (F c) else er3 W H 0 (F c) (tr c)
def bdQ (W H w : Int) (F tr : P3) : Int := if w = 1 then sumS (foT 256 F) W.toNat H.toNat else sm3 (bdT W H w F tr) 3
def lsB (b : Nat → Int) : Nat → Int
  | 0 => 1000000000
  | n + 1 => if b n < lsB b n then b n else lsB b n
def agB (b : Nat → Int) : Nat → Int
  | 0 => -1
  | n + 1 => if b n < lsB b n then (n : Int) else agB b n
theorem lsB_s {b : Nat → Int} {n : Int} (h : 0 ≤ n) : (b n.toNat < lsB b n.toNat ∧ lsB b (n + 1).toNat = b n.toNat ∧ agB b (n + 1).toNat = n) ∨ (lsB b n.toNat ≤ b n.toNat ∧ lsB b (n + 1).toNat = lsB b n.toNat ∧ agB b (n + 1).toNat = agB b n.toNat) := by
  rw [show (n + 1).toNat = n.toNat + 1 by omega]
  show (_ ∧ (if b n.toNat < lsB b n.toNat then b n.toNat else lsB b n.toNat) = _ ∧ (if b n.toNat < lsB b n.toNat then ((n.toNat : Nat) : Int) else agB b n.toNat) = _) ∨ (_ ∧ (if b n.toNat < lsB b n.toNat then b n.toNat else lsB b n.toNat) = _ ∧ (if b n.toNat < lsB b n.toNat then ((n.toNat : Nat) : Int) else agB b n.toNat) = _)
  by_cases q : b n.toNat < lsB b n.toNat
  · exact Or.inl ⟨q, if_pos q, (if_pos q).trans (by omega)⟩
  · exact Or.inr ⟨by omega, if_neg q, if_neg q⟩
theorem sum_le {t : Int → Int → Int} {W H B : Int} (hW : 0 ≤ W ∧ W ≤ 16) (hH : 0 ≤ H ∧ H ≤ 16) (hB : 0 ≤ B) (h : ∀ x y : Int, inP W H x y → 0 ≤ t x y ∧ t x y ≤ B) : 0 ≤ sumS t W.toNat H.toNat ∧ sumS t W.toNat H.toNat ≤ 256 * B := by
  have z := sumS_b (t := t) (w := W.toNat) (B := B) H.toNat (fun x y h1 h2 h3 h4 => h x y ⟨h1, by omega, h3, by omega⟩)
  refine ⟨z.1, Int.le_trans z.2 ?_⟩
  have a : B * (W.toNat : Int) ≤ B * 16 := Int.mul_le_mul_of_nonneg_left (by omega) hB
  have a0 : 0 ≤ B * (W.toNat : Int) := Int.mul_nonneg hB (by omega)
  have b : B * (W.toNat : Int) * (H.toNat : Int) ≤ B * (W.toNat : Int) * 16 := Int.mul_le_mul_of_nonneg_left (by omega) a0
  omega
theorem fo_b {W H m : Int} {F : P3} (hW : 4 ≤ W ∧ W ≤ 16) (hH : 4 ≤ H ∧ H ≤ 16) : 0 ≤ sumS (foT m F) W.toNat H.toNat ∧ sumS (foT m F) W.toNat H.toNat ≤ 256 := by
  have z := sum_le (t := foT m F) (W := W) (H := H) (B := 1) (by omega) (by omega) (by omega) (fun x y _ => by unfold foT; split <;> omega)
  omega
theorem nz_b {W H : Int} {g : Int → Int → Int} (hW : 4 ≤ W ∧ W ≤ 16) (hH : 4 ≤ H ∧ H ≤ 16) (hg : FB W H g) : 0 ≤ nz3 W H 4 1 g ∧ nz3 W H 4 1 g ≤ 1048320 := by
  have e : nz3 W H 4 1 g = sumS (nzT W H 4 g (ndF W H g)) W.toNat H.toNat := by
    unfold nz3
    rw [if_neg (by decide), if_pos rfl]
  rw [e]
  have z := sum_le (t := nzT W H 4 g (ndF W H g)) (W := W) (H := H) (B := 4095) (by omega) (by omega) (by omega) (fun x y hp => by
    have a := hg x y hp
    have b := blr_b hW.1 hH.1 hg x y hp
    have c := abc (g x y - blr W H g x y)
    unfold nzT
    rw [if_pos (Or.inl rfl)]
    unfold ndF
    omega)
  omega
theorem er_b {W H : Int} {g t : Int → Int → Int} (hW : 4 ≤ W ∧ W ≤ 16) (hH : 4 ≤ H ∧ H ≤ 16) (hg : FB W H g) (ht : ∀ x y : Int, inP W H x y → 0 ≤ t x y ∧ t x y ≤ 255) : 0 ≤ er3 W H 0 g t ∧ er3 W H 0 g t ≤ 2092800 := by
  have e : er3 W H 0 g t = sumS (erT g t) W.toNat H.toNat := by
    unfold er3
    rw [if_pos rfl]
  rw [e]
  have z := sum_le (t := erT g t) (W := W) (H := H) (B := 8175) (by omega) (by omega) (by omega) (fun x y hp => by
    have a := hg x y hp
    have b := ht x y hp
    have c := abc (g x y - 16 * t x y)
    unfold erT
    omega)
  omega
theorem bdQ_b {W H w : Int} {F tr : P3} (hW : 4 ≤ W ∧ W ≤ 16) (hH : 4 ≤ H ∧ H ≤ 16) (hF : FB3 W H F) (hw : 0 ≤ w ∧ w ≤ 2) (ht : w = 2 → ∀ c : Int, 0 ≤ c ∧ c ≤ 2 → ∀ x y : Int, inP W H x y → 0 ≤ tr c x y ∧ tr c x y ≤ 255) : 0 ≤ bdQ W H w F tr ∧ bdQ W H w F tr ≤ 10000000 := by
  unfold bdQ
  by_cases e : w = 1
  · rw [if_pos e]
    have z := fo_b (m := 256) (F := F) hW hH
    omega
  · rw [if_neg e, sm3_3]
    have k : ∀ c : Int, 0 ≤ c ∧ c ≤ 2 → 0 ≤ bdT W H w F tr c ∧ bdT W H w F tr c ≤ 2092800 := fun c hc => by
      unfold bdT
      by_cases q : w = 0
      · rw [if_pos q]
        have z := nz_b hW hH (hF c hc)
        omega
      · rw [if_neg q]
        exact er_b hW hH (hF c hc) (ht (by omega) c hc)
    have a := k 0 (by omega)
    have b := k 1 (by omega)
    have d := k 2 (by omega)
    omega
theorem TrO.b {W H c : Int} {A : Nat → Int} {t : Int → Int → Int} (h : TrO W H A c t) : ∀ x y : Int, inP W H x y → 0 ≤ t x y ∧ t x y ≤ 255 := fun x y hp => (h x y hp).2
/-- the given row with another first number of stage k -/
theorem XN_Xr {κ : Hp} {G : Nat → Int} {k x : Int} (hK : KR κ) (h1 : 1 ≤ k ∧ k ≤ κ 0 14) (e1 : G (κ 4 (k - 1).toNat).toNat = x) (e2 : ∀ i : Nat, i < 130 → i ≠ (κ 4 (k - 1).toNat).toNat → G i = κ 5 i) (j : Nat) (hj : (j : Int) < κ 0 14) : XN (κ 4) G j = Xr κ (k - 1).toNat x j := by
  have R := KRr hK
  obtain ⟨a1, a2, a3, -⟩ := R (j + 1) (by omega) (by omega)
  rw [show j + 1 - 1 = j by omega] at a1 a3
  obtain ⟨b1, b2, b3, -⟩ := R k.toNat (by omega) (by omega)
  rw [show k.toNat - 1 = (k - 1).toNat by omega] at b1 b3
  funext i
  unfold Xr
  by_cases e : j = (k - 1).toNat
  · rw [if_pos e]
    unfold X1f XN
    by_cases i0 : i = 0
    · rw [if_pos i0, i0, if_pos (by omega), ← e1, e, show (κ 4 (k - 1).toNat + ((0 : Nat) : Int)).toNat = (κ 4 (k - 1).toNat).toNat by omega]
    · rw [if_neg i0]
      by_cases c : κ 4 j + (i : Int) < κ 4 (j + 1)
      · rw [if_pos c, if_pos c]
        exact e2 _ (by omega) (by rw [← e]; omega)
      · rw [if_neg c, if_neg c]
  · rw [if_neg e]
    unfold XN
    by_cases c : κ 4 j + (i : Int) < κ 4 (j + 1)
    · rw [if_pos c, if_pos c]
      refine e2 _ (by omega) ?_
      rcases Nat.lt_or_ge j (k - 1).toNat with q | q
      · have u := R.up (k - 1).toNat (j + 1) (by omega) (by omega)
        omega
      · have u := R.up j k.toNat (by omega) (by omega)
        omega
    · rw [if_neg c, if_neg c]
theorem StOK_wr {κ : Hp} {G : Nat → Int} {k : Int} (hK : KR κ) (h1 : 1 ≤ k ∧ k ≤ κ 0 14) (hl : κ 3 (k - 1).toNat ≠ 102) (e2 : ∀ i : Nat, i < 130 → i ≠ (κ 4 (k - 1).toNat).toNat → G i = κ 5 i) (h : StOK (κ 3) (κ 4) (κ 5) (κ 0 14)) : StOK (κ 3) (κ 4) G (κ 0 14) := fun j hj => by
  have R := KRr hK
  obtain ⟨a1, a2, a3, -⟩ := R (j + 1) (by omega) (by omega)
  rw [show j + 1 - 1 = j by omega] at a1 a3
  obtain ⟨b1, b2, b3, -⟩ := R k.toNat (by omega) (by omega)
  rw [show k.toNat - 1 = (k - 1).toNat by omega] at b1 b3
  obtain ⟨s1, s2⟩ := h j hj
  refine ⟨fun q => ?_, s2⟩
  have ne : j ≠ (k - 1).toNat := fun z => hl (by rw [← z]; exact q)
  rw [e2 _ (by omega) ?_]
  · exact s1 q
  · rcases Nat.lt_or_ge j (k - 1).toNat with q | q
    · have u := R.up (k - 1).toNat (j + 1) (by omega) (by omega)
      omega
    · have u := R.up j k.toNat (by omega) (by omega)
      omega
def beQ (W H P n : Int) (lt bh : Int → Int) (pc : Int → P3) (nm : Int → Nat → Int) (tf : Int) (tr : P3) (tw : Int → Int → P3) (k w : Int) : Int := if 1 ≤ k ∧ k ≤ n ∧ 0 ≤ w ∧ w ≤ 2 then (if tnI (lt k) = 1 then (if bh n = 0 ∨ (w = 2 ∧ tf = 0) then -4 else agB (fun i => bdQ W H w (tw k (i : Int)) tr) 9) else -3) else -1
theorem cx5_eq {α : Type} (Q : Int → Int → Int → Int → (Int → Int) → (Int → Int) → (Int → P3) → (Int → Nat → Int) → Int → P3 → (Int → Int → P3) → α) {h h1 : Hp} (e : ∀ k i, key k i = true → h1 k i = h k i) (hR : KR h) (eW : h 33 0 = h 0 11) (eH : h 33 1 = h 0 12) (eP : h 33 2 = h 0 13) (en : h 41 0 = h 0 14) (hv : ∀ j : Nat, j < 256 → h 34 j = h 1 j) (hd : ∀ j : Nat, j < 256 → h 35 j = h 10 j) (t : TR (h 0 14) (LC h) (AC h) (h 44) (h 3) (h 4) (h 5)) (ef : h 39 1 = h 0 21) (et : h 0 21 ≠ 0 → ∀ j : Nat, j < 768 → ((j % 16 : Nat) : Int) < h 0 11 → ((j % 256 / 16 : Nat) : Int) < h 0 12 → h 40 j = h 2 j) : Q (h 33 0) (h 33 1) (h 33 2) (h 41 0) (ltV (LC h) (h 41 0)) (bhV (LC h) (h 41 0)) (pcV (h 41 0) (PFc h)) (nmV (h 41 0) (XNc h)) (h 39 1) (trV (h 39 1) (h 33 0) (h 33 1) (h 40)) (twV (h 41 0) (LcG h)) = Q (h1 0 11) (h1 0 12) (h1 0 13) (h1 0 14) (ltV (h1 3) (h1 0 14)) (bhV (h1 3) (h1 0 14)) (pcV (h1 0 14) (PF h1)) (nmV (h1 0 14) (XN (h1 4) (h1 5))) (h1 0 21) (trV (h1 0 21) (h1 0 11) (h1 0 12) (h1 2)) (twV (h1 0 14) (LrG h1)) := by
  have ed : trV (h 39 1) (h 33 0) (h 33 1) (h 40) = trV (h1 0 21) (h1 0 11) (h1 0 12) (h1 2) := by
    rw [eW, eH, ef, e 0 11 rfl, e 0 12 rfl, e 0 21 rfl, show h1 2 = h 2 from funext fun i => e 2 i rfl]
    exact trV_eq (KRw hR).2 (KRh hR).2 et
  rw [ed, ef, ← e 0 21 rfl]
  exact cx2_eq (fun W H P n lt bh pc nm tw => Q W H P n lt bh pc nm (h1 0 21) (trV (h1 0 21) (h1 0 11) (h1 0 12) (h1 2)) tw) e hR eW eH eP en hv hd t

abbrev q_X12_badnessZ (κ h : Hp) (x1 : Int) (x2 : Int) (F : P3) (tr : P3) : Int → Hp → Prop := fun r h' => h' = h ∧ ((r = bdQ (κ 0 11) (κ 0 12) x2 F tr))
set_option maxHeartbeats 4000000 in
set_option maxRecDepth 20000 in
theorem s_X12_badnessZ {G : Ga} {b : Bd} {κ h : Hp} (hK : KR κ) (hF : Fr b κ h) (x1 : Int) (hx1 : 0 ≤ x1 ∧ x1 ≤ 14) (x2 : Int) (hx2 : 0 ≤ x2 ∧ x2 ≤ 2) (F : P3) (tr : P3) (hF3 : Fu17 κ (h 17) x1 F) (hb3 : FB3 (κ 0 11) (κ 0 12) F) (htr : x2 = 2 → ∀ c : Int, 0 ≤ c ∧ c ≤ 2 → TrO (κ 0 11) (κ 0 12) (κ 2) c (tr c)) : zM G mX12_badness yX12_badness [.inr (.inr 0), .inl x1, .inl x2] h (q_X12_badnessZ κ h x1 x2 F tr) := by
  have f_0_11 := KRw hK
  have f_0_12 := KRh hK
  have main : ∀ N : Nat, (∀ (v3 v5 : Int) , (0 ≤ v5 ∧ v5 ≤ 3) → (v3 = sm3 (bdT (κ 0 11) (κ 0 12) x2 F tr) v5.toNat) → (x2 ≠ 1) → 5280 + 33 * (3 - v5) + 32 < (N : Int) → zV G mX12_badness (q_X12_badnessZ κ h x1 x2 F tr) 20 [some (.inr (.inr 0)), some (.inl x1), some (.inl x2), some (.inr (.inl v3)), none, some (.inl v5)] [] h) := by
    intro N
    induction N with
    | zero =>
      intro v3 v5 g0 gc0 gc1 hm
      exfalso; omega
    | succ N ih =>
      have k20 := ih
      intro v3 v5 g0 gc0 gc1 hm
      refine zW_iload (pc' := 22) dX12_badness_0.2.2.1.2 rfl rfl ?_
      refine zW_iconst (pc' := 23) dX12_badness_0.2.2.2.1 rfl ?_
      refine zV_cm_ge (tgt := 60) (pc' := 26) dX12_badness_0.2.2.2.2 rfl rfl ⟨by omega, by omega⟩ ⟨by omega, by omega⟩ (fun c23 => ?_) (fun c23 => ?_)
      · refine zW_lload_n (pc' := 61) dX12_badness_2.2.1.2 rfl rfl ?_
        exact zV_lret rfl dX12_badness_2.2.2 ⟨rfl, (by unfold bdQ; rw [if_neg (by omega), gc0, show v5 = 3 by omega]; rfl)⟩
      · have ss := sm3_s (t := (bdT (κ 0 11) (κ 0 12) x2 F tr)) (c := v5) (by omega)
        refine zW_lload_n (pc' := 27) dX12_badness_1.1.1.1.1 rfl rfl ?_
        refine zW_iload_n (pc' := 28) dX12_badness_1.1.1.1.2 rfl rfl ?_
        refine zV_if_ne (tgt := 44) (pc' := 31) dX12_badness_1.1.1.2.1 rfl rfl ⟨by omega, by omega⟩ (fun c28 => ?_) (fun c28 => ?_)
        · refine zW_aload_n (pc' := 45) dX12_badness_1.2.1.2.2 rfl rfl ?_
          refine zW_iload_n (pc' := 46) dX12_badness_1.2.2.1.1 rfl rfl ?_
          refine zW_iload (pc' := 48) dX12_badness_1.2.2.1.2 rfl rfl ?_
          refine zW_iconst (pc' := 49) dX12_badness_1.2.2.2.1 rfl ?_
          refine cvL3 (pc' := 52) kX12_errorOf vX12_errorOf lk_X12_433 ⟨Nat.le_of_ble_eq_true rfl, Nat.le_of_ble_eq_true rfl⟩ tb0 vq12 rfl rfl (s_X12_errorOfZ hK hF _ ⟨by omega, by omega⟩ _ ⟨by omega, by omega⟩ _ ⟨by omega, by omega⟩ (F v5) (tr v5) (hF3 v5 (by omega)) (hb3 v5 (by omega)) (htr (by omega) v5 ⟨by omega, by omega⟩)) dX12_badness_1.2.2.2.2 (Nat.le_of_ble_eq_true rfl) rfl ?_
          rintro r49 z49 ⟨hz49, p49⟩; subst z49
          try (have tb : (bdT (κ 0 11) (κ 0 12) x2 F tr) v5 = r49 := by unfold bdT; rw [if_neg (by omega)]; exact p49.symm)
          refine zY_ladd (pc' := 53) dX12_badness_2.1.1.1 rfl (fun v52 e52 => ?_)
          refine zW_lstore_n (ls' := [_, _, _, _, _, _]) (pc' := 54) dX12_badness_2.1.1.2 (by decide) rfl rfl rfl ?_
          refine zW_iinc (ls' := [_, _, _, _, _, _]) (pc' := 57) dX12_badness_2.1.2 rfl (by decide) rfl rfl rfl ?_
          refine zV_goto 20 dX12_badness_2.2.1.1 rfl ?_
          exact k20 _ _ (by omega) (by first | rfl | (rw [ss, tb, ← gc0]; omega)) (by omega) (by omega)
        · refine zW_aload_n (pc' := 32) dX12_badness_1.1.1.2.2 rfl rfl ?_
          refine zW_iload_n (pc' := 33) dX12_badness_1.1.2.1.1 rfl rfl ?_
          refine zW_iload (pc' := 35) dX12_badness_1.1.2.1.2 rfl rfl ?_
          refine zW_iconst (pc' := 36) dX12_badness_1.1.2.2.1 rfl ?_
          refine zW_iconst (pc' := 37) dX12_badness_1.1.2.2.2 rfl ?_
          refine cvI4 (pc' := 40) kX12_noiseOf vX12_noiseOf lk_X12_418 ⟨Nat.le_of_ble_eq_true rfl, Nat.le_of_ble_eq_true rfl⟩ tb0 vq12 rfl rfl (s_X12_noiseOfZ hK hF _ ⟨by omega, by omega⟩ _ ⟨by omega, by omega⟩ _ ⟨by omega, by omega⟩ _ ⟨by omega, by omega⟩ (F v5) (hF3 v5 (by omega)) (hb3 v5 (by omega))) dX12_badness_1.2.1.1.1 (Nat.le_of_ble_eq_true rfl) rfl ?_
          rintro r37 z37 ⟨hz37, p37⟩; subst z37
          have nb := nz_b f_0_11 f_0_12 (hb3 v5 (by omega))
          have e37_ : r37 = _ := p37
          rw [← e37_] at nb
          refine zY_i2l (pc' := 41) ⟨by omega, by omega⟩ dX12_badness_1.2.1.1.2 rfl (fun v40 e40 => ?_)
          have tb : (bdT (κ 0 11) (κ 0 12) x2 F tr) v5 = v40 := by unfold bdT; rw [if_pos (by omega), e40, ← e37_]
          refine zV_goto 52 dX12_badness_1.2.1.2.1 rfl ?_
          try (have tb : (bdT (κ 0 11) (κ 0 12) x2 F tr) v5 = r49 := by unfold bdT; rw [if_neg (by omega)]; exact p49.symm)
          refine zY_ladd (pc' := 53) dX12_badness_2.1.1.1 rfl (fun v52 e52 => ?_)
          refine zW_lstore_n (ls' := [_, _, _, _, _, _]) (pc' := 54) dX12_badness_2.1.1.2 (by decide) rfl rfl rfl ?_
          refine zW_iinc (ls' := [_, _, _, _, _, _]) (pc' := 57) dX12_badness_2.1.2 rfl (by decide) rfl rfl rfl ?_
          refine zV_goto 20 dX12_badness_2.2.1.1 rfl ?_
          exact k20 _ _ (by omega) (by first | rfl | (rw [ss, tb, ← gc0]; omega)) (by omega) (by omega)
  refine zM_of [some (.inr (.inr 0)), some (.inl x1), some (.inl x2), none, none, none] 3 rfl rfl (Nat.le_of_ble_eq_true rfl) rfl ?_
  refine zW_iload_n (pc' := 1) dX12_badness_0.1.1.1.1 rfl rfl ?_
  refine zW_iconst (pc' := 2) dX12_badness_0.1.1.1.2 rfl ?_
  refine zV_cm_ne (tgt := 15) (pc' := 5) dX12_badness_0.1.1.2.1 rfl rfl ⟨by omega, by omega⟩ ⟨by omega, by omega⟩ (fun c2 => ?_) (fun c2 => ?_)
  · refine zW_lconst (pc' := 16) dX12_badness_0.2.1.1.2 rfl ?_
    refine zW_lstore_n (ls' := [_, _, _, _, _, _]) (pc' := 17) dX12_badness_0.2.1.2.1 (by decide) rfl rfl rfl ?_
    refine zW_iconst (pc' := 18) dX12_badness_0.2.1.2.2 rfl ?_
    refine zW_istore (ls' := [_, _, _, _, _, _]) (pc' := 20) dX12_badness_0.2.2.1.1 (by decide) rfl rfl rfl ?_
    exact (main 10000000000000000000000000000000000000000) _ _ (by omega) (by first | rfl | (rw [ss, tb, ← gc0]; omega)) (by omega) (by omega)
  · refine zW_aload_n (pc' := 6) dX12_badness_0.1.1.2.2 rfl rfl ?_
    refine zW_iload_n (pc' := 7) dX12_badness_0.1.2.1.1 rfl rfl ?_
    refine zW_sipush (pc' := 10) dX12_badness_0.1.2.1.2 rfl rfl ?_
    refine cvI2 (pc' := 13) kX12_falseOf vX12_falseOf lk_X12_437 ⟨Nat.le_of_ble_eq_true rfl, Nat.le_of_ble_eq_true rfl⟩ tb0 vq12 rfl rfl (s_X12_falseOfZ hK hF _ ⟨by omega, by omega⟩ _ ⟨by omega, by omega⟩ F hF3 hb3) dX12_badness_0.1.2.2.1 (Nat.le_of_ble_eq_true rfl) rfl ?_
    rintro r10 z10 ⟨hz10, p10⟩; subst z10
    have fb := fo_b (m := 256) (F := F) f_0_11 f_0_12
    have e10_ : r10 = _ := p10
    rw [← e10_] at fb
    refine zY_i2l (pc' := 14) ⟨by omega, by omega⟩ dX12_badness_0.1.2.2.2 rfl (fun v13 e13 => ?_)
    exact zV_lret rfl dX12_badness_0.2.1.1.1 ⟨rfl, (by unfold bdQ; rw [if_pos (by omega), e13, e10_])⟩

abbrev q_X12_isTunableZ (κ h : Hp) (x1 : Int) : Int → Hp → Prop := fun r h' => h' = h ∧ ((0 ≤ r) ∧ (r ≤ 1) ∧ (r = tnI x1))
set_option maxHeartbeats 4000000 in
set_option maxRecDepth 20000 in
theorem s_X12_isTunableZ {G : Ga} {b : Bd} {κ h : Hp} (hF : Fr b κ h) (x1 : Int) (hx1 : rng x1) : zM G mX12_isTunable yX12_isTunable [.inl x1] h (q_X12_isTunableZ κ h x1) := by
  unfold rng at hx1
  refine zM_of [some (.inl x1)] 0 rfl rfl (Nat.le_of_ble_eq_true rfl) rfl ?_
  refine zW_iload_n (pc' := 1) dX12_isTunable_0.1.1.1.1 rfl rfl ?_
  refine zW_bipush (pc' := 3) dX12_isTunable_0.1.1.1.2 rfl rfl ?_
  refine zV_cm_eq (tgt := 54) (pc' := 6) dX12_isTunable_0.1.1.2.1 rfl rfl ⟨by omega, by omega⟩ ⟨by omega, by omega⟩ (fun c3 => ?_) (fun c3 => ?_)
  · refine zW_iconst (pc' := 55) dX12_isTunable_1.2.1.2.2 rfl ?_
    refine zV_goto 59 dX12_isTunable_1.2.2.1.1 rfl ?_
    exact zV_zret rfl (by omega) dX12_isTunable_1.2.2.2 ⟨rfl, (by have z := tnI_c x1; omega)⟩
  · refine zW_iload_n (pc' := 7) dX12_isTunable_0.1.1.2.2 rfl rfl ?_
    refine zW_bipush (pc' := 9) dX12_isTunable_0.1.2.1.1 rfl rfl ?_
    refine zV_cm_eq (tgt := 54) (pc' := 12) dX12_isTunable_0.1.2.1.2 rfl rfl ⟨by omega, by omega⟩ ⟨by omega, by omega⟩ (fun c9 => ?_) (fun c9 => ?_)
    · refine zW_iconst (pc' := 55) dX12_isTunable_1.2.1.2.2 rfl ?_
      refine zV_goto 59 dX12_isTunable_1.2.2.1.1 rfl ?_
      exact zV_zret rfl (by omega) dX12_isTunable_1.2.2.2 ⟨rfl, (by have z := tnI_c x1; omega)⟩
    · refine zW_iload_n (pc' := 13) dX12_isTunable_0.1.2.2.1 rfl rfl ?_
      refine zW_bipush (pc' := 15) dX12_isTunable_0.1.2.2.2 rfl rfl ?_
      refine zV_cm_eq (tgt := 54) (pc' := 18) dX12_isTunable_0.2.1.1.1 rfl rfl ⟨by omega, by omega⟩ ⟨by omega, by omega⟩ (fun c15 => ?_) (fun c15 => ?_)
      · refine zW_iconst (pc' := 55) dX12_isTunable_1.2.1.2.2 rfl ?_
        refine zV_goto 59 dX12_isTunable_1.2.2.1.1 rfl ?_
        exact zV_zret rfl (by omega) dX12_isTunable_1.2.2.2 ⟨rfl, (by have z := tnI_c x1; omega)⟩
      · refine zW_iload_n (pc' := 19) dX12_isTunable_0.2.1.1.2 rfl rfl ?_
        refine zW_bipush (pc' := 21) dX12_isTunable_0.2.1.2.1 rfl rfl ?_
        refine zV_cm_eq (tgt := 54) (pc' := 24) dX12_isTunable_0.2.1.2.2 rfl rfl ⟨by omega, by omega⟩ ⟨by omega, by omega⟩ (fun c21 => ?_) (fun c21 => ?_)
        · refine zW_iconst (pc' := 55) dX12_isTunable_1.2.1.2.2 rfl ?_
          refine zV_goto 59 dX12_isTunable_1.2.2.1.1 rfl ?_
          exact zV_zret rfl (by omega) dX12_isTunable_1.2.2.2 ⟨rfl, (by have z := tnI_c x1; omega)⟩
        · refine zW_iload_n (pc' := 25) dX12_isTunable_0.2.2.1.1 rfl rfl ?_
          refine zW_bipush (pc' := 27) dX12_isTunable_0.2.2.1.2 rfl rfl ?_
          refine zV_cm_eq (tgt := 54) (pc' := 30) dX12_isTunable_0.2.2.2.1 rfl rfl ⟨by omega, by omega⟩ ⟨by omega, by omega⟩ (fun c27 => ?_) (fun c27 => ?_)
          · refine zW_iconst (pc' := 55) dX12_isTunable_1.2.1.2.2 rfl ?_
            refine zV_goto 59 dX12_isTunable_1.2.2.1.1 rfl ?_
            exact zV_zret rfl (by omega) dX12_isTunable_1.2.2.2 ⟨rfl, (by have z := tnI_c x1; omega)⟩
          · refine zW_iload_n (pc' := 31) dX12_isTunable_0.2.2.2.2 rfl rfl ?_
            refine zW_bipush (pc' := 33) dX12_isTunable_1.1.1.1.1 rfl rfl ?_
            refine zV_cm_eq (tgt := 54) (pc' := 36) dX12_isTunable_1.1.1.1.2 rfl rfl ⟨by omega, by omega⟩ ⟨by omega, by omega⟩ (fun c33 => ?_) (fun c33 => ?_)
            · refine zW_iconst (pc' := 55) dX12_isTunable_1.2.1.2.2 rfl ?_
              refine zV_goto 59 dX12_isTunable_1.2.2.1.1 rfl ?_
              exact zV_zret rfl (by omega) dX12_isTunable_1.2.2.2 ⟨rfl, (by have z := tnI_c x1; omega)⟩
            · refine zW_iload_n (pc' := 37) dX12_isTunable_1.1.1.2.1 rfl rfl ?_
              refine zW_bipush (pc' := 39) dX12_isTunable_1.1.1.2.2 rfl rfl ?_
              refine zV_cm_eq (tgt := 54) (pc' := 42) dX12_isTunable_1.1.2.1.1 rfl rfl ⟨by omega, by omega⟩ ⟨by omega, by omega⟩ (fun c39 => ?_) (fun c39 => ?_)
              · refine zW_iconst (pc' := 55) dX12_isTunable_1.2.1.2.2 rfl ?_
                refine zV_goto 59 dX12_isTunable_1.2.2.1.1 rfl ?_
                exact zV_zret rfl (by omega) dX12_isTunable_1.2.2.2 ⟨rfl, (by have z := tnI_c x1; omega)⟩
              · refine zW_iload_n (pc' := 43) dX12_isTunable_1.1.2.1.2 rfl rfl ?_
                refine zW_bipush (pc' := 45) dX12_isTunable_1.1.2.2.1 rfl rfl ?_
                refine zV_cm_eq (tgt := 54) (pc' := 48) dX12_isTunable_1.1.2.2.2 rfl rfl ⟨by omega, by omega⟩ ⟨by omega, by omega⟩ (fun c45 => ?_) (fun c45 => ?_)
                · refine zW_iconst (pc' := 55) dX12_isTunable_1.2.1.2.2 rfl ?_
                  refine zV_goto 59 dX12_isTunable_1.2.2.1.1 rfl ?_
                  exact zV_zret rfl (by omega) dX12_isTunable_1.2.2.2 ⟨rfl, (by have z := tnI_c x1; omega)⟩
                · refine zW_iload_n (pc' := 49) dX12_isTunable_1.2.1.1.1 rfl rfl ?_
                  refine zW_bipush (pc' := 51) dX12_isTunable_1.2.1.1.2 rfl rfl ?_
                  refine zV_cm_ne (tgt := 58) (pc' := 54) dX12_isTunable_1.2.1.2.1 rfl rfl ⟨by omega, by omega⟩ ⟨by omega, by omega⟩ (fun c51 => ?_) (fun c51 => ?_)
                  · refine zW_iconst (pc' := 59) dX12_isTunable_1.2.2.1.2 rfl ?_
                    exact zV_zret rfl (by omega) dX12_isTunable_1.2.2.2 ⟨rfl, (by have z := tnI_c x1; omega)⟩
                  · refine zW_iconst (pc' := 55) dX12_isTunable_1.2.1.2.2 rfl ?_
                    refine zV_goto 59 dX12_isTunable_1.2.2.1.1 rfl ?_
                    exact zV_zret rfl (by omega) dX12_isTunable_1.2.2.2 ⟨rfl, (by have z := tnI_c x1; omega)⟩

abbrev q_X12_bestZ (b : Bd) (κ : Hp) (x1 : Int) (x2 : Int) : Int → Hp → Prop := fun r h' => Fr b κ h' ∧ ((r = beQ (κ 0 11) (κ 0 12) (κ 0 13) (κ 0 14) (ltV (κ 3) (κ 0 14)) (bhV (κ 3) (κ 0 14)) (pcV (κ 0 14) (PF κ)) (nmV (κ 0 14) (XN (κ 4) (κ 5))) (κ 0 21) (trV (κ 0 21) (κ 0 11) (κ 0 12) (κ 2)) (twV (κ 0 14) (LrG κ)) x1 x2))
set_option maxHeartbeats 4000000 in
set_option maxRecDepth 20000 in
theorem s_X12_bestZ {G : Ga} {b : Bd} {κ h : Hp} (hK : KR κ) (hF : Fr b.fo κ h) (x1 : Int) (hx1 : rng x1) (x2 : Int) (hx2 : rng x2) (hJ : Ok17 b 13) (hLw : LeavesW b) (hV : VOK (κ 1)) (hE : EaOK (κ 3) (κ 0 14)) (hSt : StOK (κ 3) (κ 4) (κ 5) (κ 0 14)) (hTB : TrB (κ 0 21) (κ 0 11) (κ 0 12) (κ 2)) : zM G mX12_best yX12_best [.inr (.inr 0), .inl x1, .inl x2] h (q_X12_bestZ b.fo κ x1 x2) := by
  have f_0_11 := KRw hK
  have f_0_12 := KRh hK
  have f_0_13 := KRp hK
  have f_0_14 := KRm hK
  have f_0_21 := KRi hK
  unfold rng at hx1
  unfold rng at hx2
  have main : ∀ N : Nat, (∀ (v3 v4 v6 : Int) (h : Hp), Fr b.fo κ h → (1 ≤ x1 ∧ x1 ≤ 12) → (x1 - κ 0 14 ≤ 0) → (0 ≤ x2 ∧ x2 ≤ 2) → (-1 ≤ v3 ∧ v3 ≤ 8) → (0 ≤ v6 ∧ v6 ≤ 9) → (GivH κ h) → (tnI (κ 3 (x1 - 1).toNat) = 1 ∧ bhI (κ 3) (κ 0 14).toNat = 1 ∧ (x2 = 2 → κ 0 21 ≠ 0)) → (1 ≤ x1 ∧ x1 ≤ κ 0 14 ∧ 0 ≤ x2 ∧ x2 ≤ 2) → (PkR κ (h 17) (x1 - 1) (x1 - 1).toNat (PF κ (x1 - 1).toNat)) → (∀ i : Nat, i < 130 → i ≠ (κ 4 (x1 - 1).toNat).toNat → h 23 i = κ 5 i) → (v4 = lsB (fun i : Nat => bdQ (κ 0 11) (κ 0 12) x2 (LrG κ x1 (i : Int)) (trV (κ 0 21) (κ 0 11) (κ 0 12) (κ 2))) v6.toNat ∧ v3 = agB (fun i : Nat => bdQ (κ 0 11) (κ 0 12) x2 (LrG κ x1 (i : Int)) (trV (κ 0 21) (κ 0 11) (κ 0 12) (κ 2))) v6.toNat) → (0 ≤ v4 ∧ v4 ≤ 1000000000) → ((v6 = 0 ∧ v3 = -1) ∨ (1 ≤ v6 ∧ 0 ≤ v3)) → 24816 + 48 * (9 - v6) + 47 < (N : Int) → zV G mX12_best (q_X12_bestZ b.fo κ x1 x2) 72 [some (.inr (.inr 0)), some (.inl x1), some (.inl x2), some (.inl v3), some (.inr (.inl v4)), none, some (.inl v6), none, none] [] h) := by
    intro N
    induction N with
    | zero =>
      intro v3 v4 v6 h hF g0 g1 g2 g3 g4 gc0 gc1 gc2 gc3 gc4 gc5 gc6 gc7 hm
      exfalso; omega
    | succ N ih =>
      have k72 := ih
      intro v3 v4 v6 h hF g0 g1 g2 g3 g4 gc0 gc1 gc2 gc3 gc4 gc5 gc6 gc7 hm
      refine zW_iload (pc' := 74) dX12_best_2.2.1.1.1 rfl rfl ?_
      refine zW_bipush (pc' := 76) dX12_best_2.2.1.1.2 rfl rfl ?_
      refine zV_cm_ge (tgt := 130) (pc' := 79) dX12_best_2.2.1.2.1 rfl rfl ⟨by omega, by omega⟩ ⟨by omega, by omega⟩ (fun c76 => ?_) (fun c76 => ?_)
      · refine zW_aload_n (pc' := 131) dX12_best_4.2.1.1.2 rfl rfl ?_
        refine zG_ref (pc' := 134) 5 fg_X12_22 tb0 rfl dX12_best_4.2.1.2.1 rfl ?_
        refine zW_aload_n (pc' := 135) dX12_best_4.2.1.2.2 rfl rfl ?_
        refine zG_ref (pc' := 138) 23 fg_X12_78 tb0 rfl dX12_best_4.2.2.1.1 rfl ?_
        refine csV2 (pc' := 141) kX12_copies vX12_copies lk_X12_188 ⟨Nat.le_of_ble_eq_true rfl, Nat.le_of_ble_eq_true rfl⟩ rfl (s_X12_copies tb5 tb23 (by decide) (by decide)) dX12_best_4.2.2.1.2 (Nat.le_of_ble_eq_true rfl) rfl ?_
        rintro r138 h1 e1
        refine zW_iload_n (pc' := 142) dX12_best_4.2.2.2.1 rfl rfl ?_
        exact zV_iret rfl dX12_best_4.2.2.2.2 ⟨by rw [e1]; exact Fr_cpy hF, (by unfold beQ; rw [if_pos ⟨by omega, by omega, by omega, by omega⟩, ltV_in ⟨by omega, by omega⟩, if_pos gc1.1, bhV_in ⟨by omega, by omega⟩, if_neg (fun q => by have g := gc1.2.2; omega)]; have e9 : v6 = 9 := (by omega); rw [e9] at gc5; refine gc5.2.trans ?_; show agB _ 9 = _; congr 1; funext i; rw [twV_in ⟨by omega, by omega⟩])⟩
      · refine zW_aload_n (pc' := 80) dX12_best_2.2.1.2.2 rfl rfl ?_
        have htc := tnI_c (κ 3 (x1 - 1).toNat)
        refine zG_ref (pc' := 83) 23 fg_X12_78 tb0 rfl dX12_best_2.2.2.1.1 rfl ?_
        refine zW_aload_n (pc' := 84) dX12_best_2.2.2.1.2 rfl rfl ?_
        refine zG_ref (pc' := 87) 4 fg_X12_19 tb0 rfl dX12_best_2.2.2.2.1 rfl ?_
        refine zW_iload_n (pc' := 88) dX12_best_2.2.2.2.2 rfl rfl ?_
        refine zW_iconst (pc' := 89) dX12_best_3.1.1.1.1 rfl ?_
        refine zW_isub (pc' := 90) dX12_best_3.1.1.1.2 rfl ?_
        refine zA_keyB (KRna hK) (pc' := 91) hF rfl tb4 (by omega) dX12_best_3.1.1.2.1 (by decide) rfl (fun e90 => ?_)
        refine zW_iload (pc' := 93) dX12_best_3.1.1.2.2 rfl rfl ?_
        refine zS_i (pc' := 94) hF rfl tb23 (by omega) dX12_best_3.1.2.1.1 (by decide) rfl (fun h i93 hF a93 b93 w93 => ?_)
        replace b93 := b93 ⟨by omega, by omega⟩
        have hG2 : GivH κ h := by rw [w93, b93, show (x1 - 1).toNat = x1.toNat - 1 by omega]; exact gc0.wr (by omega) (by omega) (by omega) (by rw [show x1.toNat - 1 = (x1 - 1).toNat by omega]; omega)
        have b93_ := b93
        have hg1 : h 23 (κ 4 (x1 - 1).toNat).toNat = v6 := by rw [w93, b93_]; exact zwr_eq
        have hg2 : ∀ i : Nat, i < 130 → i ≠ (κ 4 (x1 - 1).toNat).toNat → h 23 i = κ 5 i := fun i hi hn => by rw [w93, zwr_ne (Or.inr hn)]; exact gc4 i hi hn
        have hst2 := StOK_wr hK ⟨by omega, by omega⟩ (by omega) hg2 hSt
        have hp2 : PkR κ (h 17) (x1 - 1) (x1 - 1).toNat (PF κ (x1 - 1).toNat) := by rw [w93, zfun (by decide)]; exact gc3
        obtain ⟨g23, hg23⟩ : ∃ A : Nat → Int, A = h 23 := ⟨_, rfl⟩
        have hxr : ∀ j : Nat, (j : Int) < κ 0 14 → XN (κ 4) g23 j = Xr κ (x1 - 1).toNat v6 j := by rw [hg23]; exact fun j hj => XN_Xr hK ⟨by omega, by omega⟩ hg1 hg2 j hj
        refine zW_aload_n (pc' := 95) dX12_best_3.1.2.1.2 rfl rfl ?_
        refine zW_aload_n (pc' := 96) dX12_best_3.1.2.2.1 rfl rfl ?_
        refine zW_iload_n (pc' := 97) dX12_best_3.1.2.2.2 rfl rfl ?_
        refine zW_iload_n (pc' := 98) dX12_best_3.2.1.1.1 rfl rfl ?_
        refine zW_iconst (pc' := 99) dX12_best_3.2.1.1.2 rfl ?_
        refine zW_isub (pc' := 100) dX12_best_3.2.1.2.1 rfl ?_
        refine cvI2 (pc' := 103) kX12_leavesBy vX12_leavesBy lk_X12_444 ⟨Nat.le_of_ble_eq_true rfl, Nat.le_of_ble_eq_true rfl⟩ tb0 vq12 rfl rfl (s_X12_leavesByV hK hF _ ⟨by omega, by omega⟩ _ ⟨by omega, by omega⟩ (PF κ (x1 - 1).toNat) hJ hG2 (by omega) hE hst2 hp2 (PF_b hK hV _)) dX12_best_3.2.1.2.2 (Nat.le_of_ble_eq_true rfl) rfl ?_
        rintro r100 h ⟨hF, p100⟩
        have hTr : PkR κ (h 17) r100 (κ 0 14).toNat (LrG κ x1 v6) := by (have z := p100.2.2.2.1; rw [← hg23] at z; unfold LrG; rw [if_neg (by omega)]; rw [show (κ 0 14 - x1 + 1).toNat = (κ 0 14 + 1 - x1).toNat by omega, pG_eq (L := κ 3) (L' := κ 3) (X := XN (κ 4) g23) (X' := Xr κ (x1 - 1).toNat v6) (M := MN (κ 4)) (M' := MN (κ 4)) (κ 0 14 + 1 - x1).toNat (fun j hj => ⟨rfl, hxr _ (by omega), rfl⟩)] at z; exact z)
        have hbc := bhI_c (κ 3) (κ 0 14).toNat
        have hnn : ¬ noF (κ 3) (κ 0 14).toNat := by rcases hbc with q | q; (exfalso; omega); exact q.2
        have hF3 := hTr.2 hnn
        have hb3 := LrG_b hK hV (k := x1) (x := v6)
        have htr : x2 = 2 → ∀ c : Int, 0 ≤ c ∧ c ≤ 2 → TrO (κ 0 11) (κ 0 12) (κ 2) c ((trV (κ 0 21) (κ 0 11) (κ 0 12) (κ 2)) c) := fun q c hc => TrO_of (gc1.2.2 q) hTB hc
        have hp4 := PkR_lo hp2 ⟨by omega, by omega⟩ (by omega) (by omega) (by omega) p100.2.2.2.2
        have hg4 : ∀ i : Nat, i < 130 → i ≠ (κ 4 (x1 - 1).toNat).toNat → h 23 i = κ 5 i := by rw [p100.2.2.1]; exact hg2
        have hG4 : GivH κ h := by (have e := p100.2.2.1; unfold GivH at hG2 ⊢; rw [e]; exact hG2)
        refine zW_iload_n (pc' := 104) dX12_best_3.2.2.1.1 rfl rfl ?_
        refine cvL2 (pc' := 107) kX12_badness vX12_badness lk_X12_452 ⟨Nat.le_of_ble_eq_true rfl, Nat.le_of_ble_eq_true rfl⟩ tb0 vq12 rfl rfl (s_X12_badnessZ hK hF _ ⟨by omega, by omega⟩ _ ⟨by omega, by omega⟩ (LrG κ x1 v6) (trV (κ 0 21) (κ 0 11) (κ 0 12) (κ 2)) hF3 hb3 htr) dX12_best_3.2.2.1.2 (Nat.le_of_ble_eq_true rfl) rfl ?_
        rintro r104 z104 ⟨hz104, p104⟩; subst z104
        have hbq := bdQ_b (w := x2) f_0_11 f_0_12 hb3 ⟨by omega, by omega⟩ (fun q c hc => (htr q c hc).b)
        have e104 : r104 = _ := p104
        rw [← e104] at hbq
        have lb := lsB_s (b := (fun i : Nat => bdQ (κ 0 11) (κ 0 12) x2 (LrG κ x1 (i : Int)) (trV (κ 0 21) (κ 0 11) (κ 0 12) (κ 2)))) (n := v6) (by omega)
        have ev : bdQ (κ 0 11) (κ 0 12) x2 (LrG κ x1 ((v6.toNat : Nat) : Int)) (trV (κ 0 21) (κ 0 11) (κ 0 12) (κ 2)) = r104 := by rw [e104, show ((v6.toNat : Nat) : Int) = v6 by omega]
        rw [ev] at lb
        have l0 : v6 = 0 → lsB (fun i : Nat => bdQ (κ 0 11) (κ 0 12) x2 (LrG κ x1 (i : Int)) (trV (κ 0 21) (κ 0 11) (κ 0 12) (κ 2))) v6.toNat = 1000000000 := fun q => by rw [q]; rfl
        refine zW_lstore (ls' := [_, _, _, _, _, _, _, _, _]) (pc' := 109) dX12_best_3.2.2.2.1 (by decide) rfl rfl rfl ?_
        refine zW_lload (pc' := 111) dX12_best_3.2.2.2.2 rfl rfl ?_
        refine zW_lload (pc' := 113) dX12_best_4.1.1.1.1 rfl rfl ?_
        refine zX_lcmp (pc' := 114) dX12_best_4.1.1.1.2 rfl ⟨by omega, by omega⟩ ⟨by omega, by omega⟩ (fun v113 e113 => ?_)
        have b113 : -1 ≤ v113 ∧ v113 ≤ 1 := by omega
        refine zV_if_ge (tgt := 124) (pc' := 117) dX12_best_4.1.1.2.1 rfl rfl ⟨by omega, by omega⟩ (fun c114 => ?_) (fun c114 => ?_)
        · refine zW_iinc (ls' := [_, _, _, _, _, _, _, _, _]) (pc' := 127) dX12_best_4.1.2.2.2 rfl (by decide) rfl rfl rfl ?_
          refine zV_goto 72 dX12_best_4.2.1.1.1 rfl ?_
          refine zV_clr 7 (ls' := [_, _, _, _, _, _, _, _, _]) rfl ?_
          exact k72 _ _ _ _ hF (by omega) (by omega) (by omega) (by omega) (by omega) (by first | exact GivH.of hK hgv | exact hG4) (by first | exact gc1 | exact ⟨htun, by omega, fun q => by omega⟩) (by omega) (by first | exact hr1 | exact hp4) (by first | exact hg4 | exact fun i hi _ => hgv i hi) (by first | exact ⟨rfl, rfl⟩ | omega) (by omega) (by omega) (by omega)
        · refine zW_lload (pc' := 119) dX12_best_4.1.1.2.2 rfl rfl ?_
          refine zW_lstore (ls' := [_, _, _, _, _, _, _, _, _]) (pc' := 121) dX12_best_4.1.2.1.1 (by decide) rfl rfl rfl ?_
          refine zW_iload (pc' := 123) dX12_best_4.1.2.1.2 rfl rfl ?_
          refine zW_istore_n (ls' := [_, _, _, _, _, _, _, _, _]) (pc' := 124) dX12_best_4.1.2.2.1 (by decide) rfl rfl rfl ?_
          refine zW_iinc (ls' := [_, _, _, _, _, _, _, _, _]) (pc' := 127) dX12_best_4.1.2.2.2 rfl (by decide) rfl rfl rfl ?_
          refine zV_goto 72 dX12_best_4.2.1.1.1 rfl ?_
          refine zV_clr 7 (ls' := [_, _, _, _, _, _, _, _, _]) rfl ?_
          exact k72 _ _ _ _ hF (by omega) (by omega) (by omega) (by omega) (by omega) (by first | exact GivH.of hK hgv | exact hG4) (by first | exact gc1 | exact ⟨htun, by omega, fun q => by omega⟩) (by omega) (by first | exact hr1 | exact hp4) (by first | exact hg4 | exact fun i hi _ => hgv i hi) (by first | exact ⟨rfl, rfl⟩ | omega) (by omega) (by omega) (by omega)
  refine zM_of [some (.inr (.inr 0)), some (.inl x1), some (.inl x2), none, none, none, none, none, none] 6 rfl rfl (Nat.le_of_ble_eq_true rfl) rfl ?_
  refine zW_aload_n (pc' := 1) dX12_best_0.1.1.1.1 rfl rfl ?_
  refine zW_iload_n (pc' := 2) dX12_best_0.1.1.1.2 rfl rfl ?_
  refine cvI1 (pc' := 5) kX12_isStage vX12_isStage lk_X12_199 ⟨Nat.le_of_ble_eq_true rfl, Nat.le_of_ble_eq_true rfl⟩ tb0 vq12 rfl rfl (s_X12_isStageZ hK hF _ ⟨by omega, by omega⟩) dX12_best_0.1.1.2.1 (Nat.le_of_ble_eq_true rfl) rfl ?_
  rintro r2 z2 ⟨hz2, p2⟩; subst z2
  refine zV_if_eq (tgt := 17) (pc' := 8) dX12_best_0.1.1.2.2 rfl rfl ⟨by omega, by omega⟩ (fun c5 => ?_) (fun c5 => ?_)
  · refine zW_iconst (pc' := 18) dX12_best_0.2.1.1.2 rfl ?_
    exact zV_iret rfl dX12_best_0.2.1.2.1 ⟨hF, (by unfold beQ; rw [if_neg (by omega)])⟩
  · refine zW_iload_n (pc' := 9) dX12_best_0.1.2.1.1 rfl rfl ?_
    refine zW_iconst (pc' := 10) dX12_best_0.1.2.1.2 rfl ?_
    refine zW_iconst (pc' := 11) dX12_best_0.1.2.2.1 rfl ?_
    refine csI3 (pc' := 14) kX12_in vX12_in lk_X12_140 ⟨Nat.le_of_ble_eq_true rfl, Nat.le_of_ble_eq_true rfl⟩ rfl (s_X12_inR hF _ ⟨by omega, by omega⟩ _ ⟨by omega, by omega⟩ _ ⟨by omega, by omega⟩) dX12_best_0.1.2.2.2 (Nat.le_of_ble_eq_true rfl) rfl ?_
    rintro r11 z11 ⟨hz11, p11⟩; subst z11
    refine zV_if_ne (tgt := 19) (pc' := 17) dX12_best_0.2.1.1.1 rfl rfl ⟨by omega, by omega⟩ (fun c14 => ?_) (fun c14 => ?_)
    · refine zW_aload_n (pc' := 20) dX12_best_0.2.1.2.2 rfl rfl ?_
      refine zG_ref (pc' := 23) 3 fg_X12_16 tb0 rfl dX12_best_0.2.2.1.1 rfl ?_
      refine zW_iload_n (pc' := 24) dX12_best_0.2.2.1.2 rfl rfl ?_
      refine zW_iconst (pc' := 25) dX12_best_0.2.2.2.1 rfl ?_
      refine zW_isub (pc' := 26) dX12_best_0.2.2.2.2 rfl ?_
      refine zA_keyI (pc' := 27) hF rfl (by decide) (by decide) tb3 (by omega) dX12_best_1.1.1.1.1 (by decide) rfl (fun e26 => ?_)
      refine csI1 (pc' := 30) kX12_isTunable vX12_isTunable lk_X12_447 ⟨Nat.le_of_ble_eq_true rfl, Nat.le_of_ble_eq_true rfl⟩ rfl (s_X12_isTunableZ hF _ ⟨by omega, by omega⟩) dX12_best_1.1.1.1.2 (Nat.le_of_ble_eq_true rfl) rfl ?_
      rintro r27 z27 ⟨hz27, p27⟩; subst z27
      refine zV_if_ne (tgt := 36) (pc' := 33) dX12_best_1.1.1.2.1 rfl rfl ⟨by omega, by omega⟩ (fun c30 => ?_) (fun c30 => ?_)
      · refine zW_aload_n (pc' := 37) dX12_best_1.1.2.1.2 rfl rfl ?_
        refine cvI0 (pc' := 40) kX12_filler vX12_filler lk_X12_196 ⟨Nat.le_of_ble_eq_true rfl, Nat.le_of_ble_eq_true rfl⟩ tb0 vq12 rfl rfl (s_X12_filler hK hF) dX12_best_1.1.2.2.1 (Nat.le_of_ble_eq_true rfl) rfl ?_
        rintro r37 z37 ⟨hz37, p37⟩; subst z37
        have hfl := FL_bh hK (k := κ 0 14) ⟨by omega, by omega⟩
        have hbz := bhI_c (κ 3) (κ 0 14).toNat
        have hflr := FL_r hK
        refine zV_if_eq (tgt := 55) (pc' := 43) dX12_best_1.1.2.2.2 rfl rfl ⟨by omega, by omega⟩ (fun c40 => ?_) (fun c40 => ?_)
        · refine zW_bipush (pc' := 57) dX12_best_1.2.2.2.1 rfl rfl ?_
          exact zV_iret rfl dX12_best_1.2.2.2.2 ⟨hF, (by unfold beQ; rw [if_pos ⟨by omega, by omega, by omega, by omega⟩, ltV_in ⟨by omega, by omega⟩, if_pos (by omega), bhV_in ⟨by omega, by omega⟩, if_pos (by omega)])⟩
        · refine zW_iload_n (pc' := 44) dX12_best_1.2.1.1.1 rfl rfl ?_
          refine zW_iconst (pc' := 45) dX12_best_1.2.1.1.2 rfl ?_
          refine zV_cm_ne (tgt := 58) (pc' := 48) dX12_best_1.2.1.2.1 rfl rfl ⟨by omega, by omega⟩ ⟨by omega, by omega⟩ (fun c45 => ?_) (fun c45 => ?_)
          · refine zW_aload_n (pc' := 59) dX12_best_2.1.1.1.1 rfl rfl ?_
            refine cvV0 (pc' := 62) kX12_leaves vX12_leaves lk_X12_377 ⟨Nat.le_of_ble_eq_true rfl, Nat.le_of_ble_eq_true rfl⟩ tb0 vq12 rfl rfl (hLw hK hF) dX12_best_2.1.1.1.2 (Nat.le_of_ble_eq_true rfl) rfl ?_
            rintro r59 h ⟨hF, p59⟩
            have hgv := p59.1
            have htun : tnI (κ 3 (x1 - 1).toNat) = 1 := by omega
            have hr1 := p59.2 (x1 - 1).toNat (by omega)
            rw [show (((x1 - 1).toNat : Nat) : Int) = x1 - 1 by omega] at hr1
            refine zW_iconst (pc' := 63) dX12_best_2.1.1.2.1 rfl ?_
            refine zW_istore_n (ls' := [_, _, _, _, _, _, _, _, _]) (pc' := 64) dX12_best_2.1.1.2.2 (by decide) rfl rfl rfl ?_
            refine zV_ldc2 (n := 1000000000) (pc' := 67) kl_X12_450 rfl dX12_best_2.1.2.1.1 rfl ?_
            refine zW_lstore (ls' := [_, _, _, _, _, _, _, _, _]) (pc' := 69) dX12_best_2.1.2.1.2 (by decide) rfl rfl rfl ?_
            refine zW_iconst (pc' := 70) dX12_best_2.1.2.2.1 rfl ?_
            refine zW_istore (ls' := [_, _, _, _, _, _, _, _, _]) (pc' := 72) dX12_best_2.1.2.2.2 (by decide) rfl rfl rfl ?_
            exact (main 10000000000000000000000000000000000000000) _ _ _ _ hF (by omega) (by omega) (by omega) (by omega) (by omega) (by first | exact GivH.of hK hgv | exact hG4) (by first | exact gc1 | exact ⟨htun, by omega, fun q => by omega⟩) (by omega) (by first | exact hr1 | exact hp4) (by first | exact hg4 | exact fun i hi _ => hgv i hi) (by first | exact ⟨rfl, rfl⟩ | omega) (by omega) (by omega) (by omega)
          · refine zW_aload_n (pc' := 49) dX12_best_1.2.1.2.2 rfl rfl ?_
            refine zG_key (pc' := 52) hF rfl fg_X12_212 tb0 rfl dX12_best_1.2.2.1.1 rfl ?_
            refine zV_if_ne (tgt := 58) (pc' := 55) dX12_best_1.2.2.1.2 rfl rfl ⟨by omega, by omega⟩ (fun c52 => ?_) (fun c52 => ?_)
            · refine zW_aload_n (pc' := 59) dX12_best_2.1.1.1.1 rfl rfl ?_
              refine cvV0 (pc' := 62) kX12_leaves vX12_leaves lk_X12_377 ⟨Nat.le_of_ble_eq_true rfl, Nat.le_of_ble_eq_true rfl⟩ tb0 vq12 rfl rfl (hLw hK hF) dX12_best_2.1.1.1.2 (Nat.le_of_ble_eq_true rfl) rfl ?_
              rintro r59 h ⟨hF, p59⟩
              have hgv := p59.1
              have htun : tnI (κ 3 (x1 - 1).toNat) = 1 := by omega
              have hr1 := p59.2 (x1 - 1).toNat (by omega)
              rw [show (((x1 - 1).toNat : Nat) : Int) = x1 - 1 by omega] at hr1
              refine zW_iconst (pc' := 63) dX12_best_2.1.1.2.1 rfl ?_
              refine zW_istore_n (ls' := [_, _, _, _, _, _, _, _, _]) (pc' := 64) dX12_best_2.1.1.2.2 (by decide) rfl rfl rfl ?_
              refine zV_ldc2 (n := 1000000000) (pc' := 67) kl_X12_450 rfl dX12_best_2.1.2.1.1 rfl ?_
              refine zW_lstore (ls' := [_, _, _, _, _, _, _, _, _]) (pc' := 69) dX12_best_2.1.2.1.2 (by decide) rfl rfl rfl ?_
              refine zW_iconst (pc' := 70) dX12_best_2.1.2.2.1 rfl ?_
              refine zW_istore (ls' := [_, _, _, _, _, _, _, _, _]) (pc' := 72) dX12_best_2.1.2.2.2 (by decide) rfl rfl rfl ?_
              exact (main 10000000000000000000000000000000000000000) _ _ _ _ hF (by omega) (by omega) (by omega) (by omega) (by omega) (by first | exact GivH.of hK hgv | exact hG4) (by first | exact gc1 | exact ⟨htun, by omega, fun q => by omega⟩) (by omega) (by first | exact hr1 | exact hp4) (by first | exact hg4 | exact fun i hi _ => hgv i hi) (by first | exact ⟨rfl, rfl⟩ | omega) (by omega) (by omega) (by omega)
            · refine zW_bipush (pc' := 57) dX12_best_1.2.2.2.1 rfl rfl ?_
              exact zV_iret rfl dX12_best_1.2.2.2.2 ⟨hF, (by unfold beQ; rw [if_pos ⟨by omega, by omega, by omega, by omega⟩, ltV_in ⟨by omega, by omega⟩, if_pos (by omega), bhV_in ⟨by omega, by omega⟩, if_pos (by omega)])⟩
      · refine zW_bipush (pc' := 35) dX12_best_1.1.1.2.2 rfl rfl ?_
        exact zV_iret rfl dX12_best_1.1.2.1.1 ⟨hF, (by unfold beQ; rw [if_pos ⟨by omega, by omega, by omega, by omega⟩, ltV_in ⟨by omega, by omega⟩, if_neg (by omega)])⟩
    · refine zW_iconst (pc' := 18) dX12_best_0.2.1.1.2 rfl ?_
      exact zV_iret rfl dX12_best_0.2.1.2.1 ⟨hF, (by unfold beQ; rw [if_neg (by omega)])⟩

theorem sbv1_b' : ∀ j : Fin 9, 97 ≤ sbv 1 j ∧ sbv 1 j ≤ 122 := by decide +kernel
theorem sbv1_b (j : Nat) (h : j < 9) : 97 ≤ sbv 1 j ∧ sbv 1 j ≤ 122 := sbv1_b' ⟨j, h⟩

abbrev q_J1_indexOfChar_4cfefS1P (κ h : Hp) (x2 : Int) (x3 : Int) (x4 : Int) : Int → Hp → Prop := fun r h' => h' = h ∧ ((-1 ≤ r) ∧ (r ≤ 8) ∧ ((r = -1 ∧ ∀ j : Nat, j < 9 → sbv 1 j ≠ x2) ∨ (0 ≤ r ∧ r < 9 ∧ sbv 1 r.toNat = x2)))
set_option maxHeartbeats 4000000 in
set_option maxRecDepth 20000 in
theorem s_J1_indexOfChar_4cfefS1P {G : Ga} {b : Bd} {κ h : Hp} (hF : Fr b κ h) (x2 : Int) (hx2 : 0 ≤ x2 ∧ x2 ≤ 255) (x3 : Int) (hx3 : 0 ≤ x3 ∧ x3 ≤ 0) (x4 : Int) (hx4 : 9 ≤ x4 ∧ x4 ≤ 9) (hX : XI G) : zM G mJ1_indexOfChar_4cfef yJ1_indexOfChar_4cfef [.inr (.inr 109), .inl x2, .inl x3, .inl x4] h (q_J1_indexOfChar_4cfefS1P κ h x2 x3 x4) := by
  have main : ∀ N : Nat, (∀ (v4 v5 : Int) , (-128 ≤ v4 ∧ v4 ≤ 127) → (0 ≤ v5 ∧ v5 ≤ 9) → (∀ j : Nat, (j : Int) < v5 → sbv 1 j ≠ x2) → (v4 % 256 = x2) → 2640 + 16 * (9 - v5) + 15 < (N : Int) → zV G mJ1_indexOfChar_4cfef (q_J1_indexOfChar_4cfefS1P κ h x2 x3 x4) 7 [some (.inr (.inr 109)), some (.inl x2), some (.inl x3), some (.inl x4), some (.inl v4), some (.inl v5)] [] h) := by
    intro N
    induction N with
    | zero =>
      intro v4 v5 g0 g1 gc0 gc1 hm
      exfalso; omega
    | succ N ih =>
      have k7 := ih
      intro v4 v5 g0 g1 gc0 gc1 hm
      refine zW_iload (pc' := 9) dJ1_indexOfChar_4cfef_0.1.2.1.2 rfl rfl ?_
      refine zW_iload_n (pc' := 10) dJ1_indexOfChar_4cfef_0.1.2.2.1 rfl rfl ?_
      refine zV_cm_ge (tgt := 31) (pc' := 13) dJ1_indexOfChar_4cfef_0.1.2.2.2 rfl rfl ⟨by omega, by omega⟩ ⟨by omega, by omega⟩ (fun c10 => ?_) (fun c10 => ?_)
      · refine zW_iconst (pc' := 32) dJ1_indexOfChar_4cfef_1.1.2 rfl ?_
        exact zV_iret rfl dJ1_indexOfChar_4cfef_1.2 ⟨rfl, by refine ⟨by omega, by omega, Or.inl ⟨rfl, fun j hj => gc0 j (by omega)⟩⟩⟩
      · refine zW_aload_n (pc' := 14) dJ1_indexOfChar_4cfef_0.2.1.1.1 rfl rfl ?_
        refine zW_iload (pc' := 16) dJ1_indexOfChar_4cfef_0.2.1.1.2 rfl rfl ?_
        refine zV_sbaldE (z := 1) (pc' := 17) hX (by decide) (show _ ∧ _ < ((9 : Nat) : Int) from (by omega)) dJ1_indexOfChar_4cfef_0.2.1.2.1 rfl (fun v16 e16 f16 => ?_)
        unfold rng at e16
        have b16 := sbv1_b v5.toNat (by omega)
        refine zW_iload (pc' := 19) dJ1_indexOfChar_4cfef_0.2.1.2.2 rfl rfl ?_
        refine zV_cm_ne (tgt := 25) (pc' := 22) dJ1_indexOfChar_4cfef_0.2.2.1.1 rfl rfl ⟨by omega, by omega⟩ ⟨by omega, by omega⟩ (fun c19 => ?_) (fun c19 => ?_)
        · refine zW_iinc (ls' := [_, _, _, _, _, _]) (pc' := 28) dJ1_indexOfChar_4cfef_0.2.2.2.2 rfl (by decide) rfl rfl rfl ?_
          refine zV_goto 7 dJ1_indexOfChar_4cfef_1.1.1 rfl ?_
          exact k7 _ _ (by omega) (by omega) (fun j => by have q0 := gc0 j; by_cases ej : j = v5.toNat; (subst ej; omega); omega) (by omega) (by omega)
        · refine zW_iload (pc' := 24) dJ1_indexOfChar_4cfef_0.2.2.1.2 rfl rfl ?_
          exact zV_iret rfl dJ1_indexOfChar_4cfef_0.2.2.2.1 ⟨rfl, by refine ⟨by omega, by omega, Or.inr ⟨by omega, by omega, by omega⟩⟩⟩
  refine zM_of [some (.inr (.inr 109)), some (.inl x2), some (.inl x3), some (.inl x4), none, none] 2 (by decide +kernel) rfl (Nat.le_of_ble_eq_true rfl) rfl ?_
  refine zW_iload_n (pc' := 1) dJ1_indexOfChar_4cfef_0.1.1.1.1 rfl rfl ?_
  refine zW_i2bE (pc' := 2) ⟨by omega, by omega⟩ dJ1_indexOfChar_4cfef_0.1.1.1.2 rfl (fun v1 e1 => ?_)
  refine zW_istore (ls' := [_, _, _, _, _, _]) (pc' := 4) dJ1_indexOfChar_4cfef_0.1.1.2.1 (by decide) rfl rfl rfl ?_
  refine zW_iload_n (pc' := 5) dJ1_indexOfChar_4cfef_0.1.1.2.2 rfl rfl ?_
  refine zW_istore (ls' := [_, _, _, _, _, _]) (pc' := 7) dJ1_indexOfChar_4cfef_0.1.2.1.1 (by decide) rfl rfl rfl ?_
  exact (main 10000000000000000000000000000000000000000) _ _ (by omega) (by omega) (fun j => by omega) (by omega) (by omega)

abbrev q_J1_indexOf_4cfefS1P (κ h : Hp) (x2 : Int) (x3 : Int) (x4 : Int) : Int → Hp → Prop := fun r h' => h' = h ∧ ((-1 ≤ r) ∧ (r ≤ 8) ∧ ((r = -1 ∧ ∀ j : Nat, j < 9 → sbv 1 j ≠ x2) ∨ (0 ≤ r ∧ r < 9 ∧ sbv 1 r.toNat = x2)))
set_option maxHeartbeats 4000000 in
set_option maxRecDepth 20000 in
theorem s_J1_indexOf_4cfefS1P {G : Ga} {b : Bd} {κ h : Hp} (hF : Fr b κ h) (x2 : Int) (hx2 : 0 ≤ x2 ∧ x2 ≤ 255) (x3 : Int) (hx3 : 0 ≤ x3 ∧ x3 ≤ 0) (x4 : Int) (hx4 : 9 ≤ x4 ∧ x4 ≤ 9) (hX : XI G) : zM G mJ1_indexOf_4cfef yJ1_indexOf_4cfef [.inr (.inr 109), .inl x2, .inl x3, .inl x4] h (q_J1_indexOf_4cfefS1P κ h x2 x3 x4) := by
  refine zM_of [some (.inr (.inr 109)), some (.inl x2), some (.inl x3), some (.inl x4)] 0 (by decide +kernel) rfl (Nat.le_of_ble_eq_true rfl) rfl ?_
  refine zW_iload_n (pc' := 1) dJ1_indexOf_4cfef_0.1.1.1.1 rfl rfl ?_
  refine csI1 (pc' := 4) kJ1_canEncode_9a6ad vJ1_canEncode_9a6ad lk_J1_88 ⟨Nat.le_of_ble_eq_true rfl, Nat.le_of_ble_eq_true rfl⟩ rfl (s_J1_canEncode_9a6adP hF _ ⟨by omega, by omega⟩) dJ1_indexOf_4cfef_0.1.1.1.2 (Nat.le_of_ble_eq_true rfl) rfl ?_
  rintro r1 z1 ⟨hz1, p1⟩; subst z1
  refine zV_if_ne (tgt := 9) (pc' := 7) dJ1_indexOf_4cfef_0.1.1.2.1 rfl rfl ⟨by omega, by omega⟩ (fun c4 => ?_) (fun c4 => ?_)
  · refine zW_iload_n (pc' := 10) dJ1_indexOf_4cfef_0.1.2.1.2 rfl rfl ?_
    refine zW_iconst (pc' := 11) dJ1_indexOf_4cfef_0.1.2.2.1 rfl ?_
    refine zV_mmax (pc' := 14) km_J1_92 (Nat.le_of_ble_eq_true rfl) (Nat.le_of_ble_eq_true rfl) dJ1_indexOf_4cfef_0.1.2.2.2 rfl (fun v11 e11 => ?_)
    replace e11 := e11.2 ⟨by omega, by omega⟩ ⟨by omega, by omega⟩
    refine zW_istore_n (ls' := [_, _, _, _]) (pc' := 15) dJ1_indexOf_4cfef_0.2.1.1.1 (by decide) rfl rfl rfl ?_
    refine zW_iload_n (pc' := 16) dJ1_indexOf_4cfef_0.2.1.1.2 rfl rfl ?_
    refine zW_aload_n (pc' := 17) dJ1_indexOf_4cfef_0.2.1.2.1 rfl rfl ?_
    refine zV_sblen1 (pc' := 18) hX dJ1_indexOf_4cfef_0.2.1.2.2 rfl ?_
    refine zV_mmin (pc' := 21) km_J1_38 (Nat.le_of_ble_eq_true rfl) (Nat.le_of_ble_eq_true rfl) dJ1_indexOf_4cfef_0.2.2.1.1 rfl (fun v18 e18 => ?_)
    replace e18 := e18.2 ⟨by omega, by omega⟩ ⟨by omega, by omega⟩
    refine zW_istore_n (ls' := [_, _, _, _]) (pc' := 22) dJ1_indexOf_4cfef_0.2.2.1.2 (by decide) rfl rfl rfl ?_
    refine zW_iload_n (pc' := 23) dJ1_indexOf_4cfef_0.2.2.2.1 rfl rfl ?_
    refine zW_iload_n (pc' := 24) dJ1_indexOf_4cfef_0.2.2.2.2 rfl rfl ?_
    refine zV_cm_lt (tgt := 29) (pc' := 27) dJ1_indexOf_4cfef_1.1.1.1.1 rfl rfl ⟨by omega, by omega⟩ ⟨by omega, by omega⟩ (fun c24 => ?_) (fun c24 => ?_)
    · refine zW_aload_n (pc' := 30) dJ1_indexOf_4cfef_1.1.2.1 rfl rfl ?_
      refine zW_iload_n (pc' := 31) dJ1_indexOf_4cfef_1.1.2.2 rfl rfl ?_
      refine zW_iload_n (pc' := 32) dJ1_indexOf_4cfef_1.2.1.1 rfl rfl ?_
      refine zW_iload_n (pc' := 33) dJ1_indexOf_4cfef_1.2.1.2 rfl rfl ?_
      refine csI4 (pc' := 36) kJ1_indexOfChar_4cfef vJ1_indexOfChar_4cfef lk_J1_95 ⟨Nat.le_of_ble_eq_true rfl, Nat.le_of_ble_eq_true rfl⟩ rfl (s_J1_indexOfChar_4cfefS1P hF _ ⟨by omega, by omega⟩ _ ⟨by omega, by omega⟩ _ ⟨by omega, by omega⟩ hX) dJ1_indexOf_4cfef_1.2.2.1 (Nat.le_of_ble_eq_true rfl) rfl ?_
      rintro r33 z33 ⟨hz33, p33⟩; subst z33
      exact zV_iret rfl dJ1_indexOf_4cfef_1.2.2.2 ⟨rfl, p33⟩
    · exfalso; omega
  · refine zW_iconst (pc' := 8) dJ1_indexOf_4cfef_0.1.1.2.2 rfl ?_
    exact zV_iret rfl dJ1_indexOf_4cfef_0.1.2.1.1 ⟨rfl, by exfalso; omega⟩

abbrev q_J0_indexOf_7cf53S1P (κ h : Hp) (x1 : Int) (x2 : Int) : Int → Hp → Prop := fun r h' => h' = h ∧ ((-1 ≤ r) ∧ (r ≤ 8) ∧ ((r = -1 ∧ ∀ j : Nat, j < 9 → sbv 1 j ≠ x1) ∨ (0 ≤ r ∧ r < 9 ∧ sbv 1 r.toNat = x1)))
set_option maxHeartbeats 4000000 in
set_option maxRecDepth 20000 in
theorem s_J0_indexOf_7cf53S1P {G : Ga} {b : Bd} {κ h : Hp} (hF : Fr b κ h) (x1 : Int) (hx1 : 0 ≤ x1 ∧ x1 ≤ 255) (x2 : Int) (hx2 : 0 ≤ x2 ∧ x2 ≤ 0) (hX : XI G) : zM G mJ0_indexOf_7cf53 yJ0_indexOf_7cf53 [.inr (.inr 107), .inl x1, .inl x2] h (q_J0_indexOf_7cf53S1P κ h x1 x2) := by
  refine zM_of [some (.inr (.inr 107)), some (.inl x1), some (.inl x2)] 0 (by decide +kernel) rfl (Nat.le_of_ble_eq_true rfl) rfl ?_
  refine zW_aload_n (pc' := 1) dJ0_indexOf_7cf53_0.1.1.1.1 rfl rfl ?_
  refine cwI0 (z := 1) hX (by decide) rfl (pc' := 4) kJ0_isLatin1_aae02 vJ0_isLatin1_aae02 lk_J0_492 ⟨Nat.le_of_ble_eq_true rfl, Nat.le_of_ble_eq_true rfl⟩ rfl (s_J0_isLatin1_aae02S1 hF hX) dJ0_indexOf_7cf53_0.1.1.1.2 (Nat.le_of_ble_eq_true rfl) rfl ?_
  rintro r1 z1 ⟨hz1, p1⟩; subst z1
  refine zV_if_eq (tgt := 23) (pc' := 7) dJ0_indexOf_7cf53_0.1.1.2.1 rfl rfl ⟨by omega, by omega⟩ (fun c4 => ?_) (fun c4 => ?_)
  · exfalso; omega
  · refine zW_aload_n (pc' := 8) dJ0_indexOf_7cf53_0.1.1.2.2 rfl rfl ?_
    refine zV_sval (z := 1) (pc' := 11) hX (by decide) w_svalue dJ0_indexOf_7cf53_0.1.2.1.1 rfl ?_
    refine zW_iload_n (pc' := 12) dJ0_indexOf_7cf53_0.1.2.1.2 rfl rfl ?_
    refine zW_iload_n (pc' := 13) dJ0_indexOf_7cf53_0.1.2.2.1 rfl rfl ?_
    refine zW_aload_n (pc' := 14) dJ0_indexOf_7cf53_0.1.2.2.2 rfl rfl ?_
    refine cwI0 (z := 1) hX (by decide) rfl (pc' := 17) kJ0_length_8abf5 vJ0_length_8abf5 lk_J0_505 ⟨Nat.le_of_ble_eq_true rfl, Nat.le_of_ble_eq_true rfl⟩ rfl (s_J0_length_8abf5S1 hF hX) dJ0_indexOf_7cf53_0.2.1.1.1 (Nat.le_of_ble_eq_true rfl) rfl ?_
    rintro r14 z14 ⟨hz14, p14⟩; subst z14
    refine csI4 (pc' := 20) kJ1_indexOf_4cfef vJ1_indexOf_4cfef lk_J0_637 ⟨Nat.le_of_ble_eq_true rfl, Nat.le_of_ble_eq_true rfl⟩ rfl (s_J1_indexOf_4cfefS1P hF _ ⟨by omega, by omega⟩ _ ⟨by omega, by omega⟩ _ ⟨by omega, by omega⟩ hX) dJ0_indexOf_7cf53_0.2.1.1.2 (Nat.le_of_ble_eq_true rfl) rfl ?_
    rintro r17 z17 ⟨hz17, p17⟩; subst z17
    refine zV_goto 36 dJ0_indexOf_7cf53_0.2.1.2.1 rfl ?_
    exact zV_iret rfl dJ0_indexOf_7cf53_1.2 ⟨rfl, p17⟩

abbrev q_J0_indexOf_0f7a4S1P (κ h : Hp) (x1 : Int) : Int → Hp → Prop := fun r h' => h' = h ∧ ((-1 ≤ r) ∧ (r ≤ 8) ∧ ((r = -1 ∧ ∀ j : Nat, j < 9 → sbv 1 j ≠ x1) ∨ (0 ≤ r ∧ r < 9 ∧ sbv 1 r.toNat = x1)))
set_option maxHeartbeats 4000000 in
set_option maxRecDepth 20000 in
theorem s_J0_indexOf_0f7a4S1P {G : Ga} {b : Bd} {κ h : Hp} (hF : Fr b κ h) (x1 : Int) (hx1 : 0 ≤ x1 ∧ x1 ≤ 255) (hX : XI G) : zM G mJ0_indexOf_0f7a4 yJ0_indexOf_0f7a4 [.inr (.inr 107), .inl x1] h (q_J0_indexOf_0f7a4S1P κ h x1) := by
  refine zM_of [some (.inr (.inr 107)), some (.inl x1)] 0 (by decide +kernel) rfl (Nat.le_of_ble_eq_true rfl) rfl ?_
  refine zW_aload_n (pc' := 1) dJ0_indexOf_0f7a4_0.1.1.1 rfl rfl ?_
  refine zW_iload_n (pc' := 2) dJ0_indexOf_0f7a4_0.1.1.2 rfl rfl ?_
  refine zW_iconst (pc' := 3) dJ0_indexOf_0f7a4_0.1.2 rfl ?_
  refine cwI2 (z := 1) hX (by decide) rfl (pc' := 6) kJ0_indexOf_7cf53 vJ0_indexOf_7cf53 lk_J0_633 ⟨Nat.le_of_ble_eq_true rfl, Nat.le_of_ble_eq_true rfl⟩ rfl (s_J0_indexOf_7cf53S1P hF _ ⟨by omega, by omega⟩ _ ⟨by omega, by omega⟩ hX) dJ0_indexOf_0f7a4_0.2.1 (Nat.le_of_ble_eq_true rfl) rfl ?_
  rintro r3 z3 ⟨hz3, p3⟩; subst z3
  exact zV_iret rfl dJ0_indexOf_0f7a4_0.2.2 ⟨rfl, p3⟩

abbrev q_X11_badnessZ (b : Bd) (κ : Hp) (s1 : Nat) (x2 : Int) (F : P3) (tr : P3) (gh0 : Hp) : Int → Hp → Prop := fun r h' => Fr b κ h' ∧ ((Fw [] [(95, 1), (95, 2), (95, 3), (95, 4), (95, 5), (95, 6)] gh0 h') ∧ (r = bdQ (κ 33 0) (κ 33 1) x2 F tr))
set_option maxHeartbeats 4000000 in
set_option maxRecDepth 20000 in
theorem s_X11_badnessZ {G : Ga} {b : Bd} {κ h : Hp} (hK : KC κ) (hF : Fr b κ h) (s1 : Nat) (hs1 : 56 ≤ s1 ∧ s1 ≤ 70) (x2 : Int) (hx2 : 0 ≤ x2 ∧ x2 ≤ 2) (F : P3) (tr : P3) (gh0 : Hp) (hF3 : FuS (κ 33 0) (κ 33 1) (h (s1 + 15)) F) (hb3 : FB3 (κ 33 0) (κ 33 1) F) (htr : x2 = 2 → ∀ c : Int, 0 ≤ c ∧ c ≤ 2 → TrO (κ 33 0) (κ 33 1) (κ 40) c (tr c)) (hgh : Fw [] [(95, 1), (95, 2), (95, 3), (95, 4), (95, 5), (95, 6)] gh0 h) : zM G mX11_badness yX11_badness [.inr (.inr 30), .inr (.inr s1), .inl x2] h (q_X11_badnessZ b κ s1 x2 F tr gh0) := by
  have f_33_0 := KCw hK
  have f_33_1 := KCh hK
  have main : ∀ N : Nat, (∀ (v3 v5 : Int) (h : Hp), Fr b κ h → (0 ≤ v5 ∧ v5 ≤ 3) → (v3 = sm3 (bdT (κ 33 0) (κ 33 1) x2 F tr) v5.toNat) → (x2 ≠ 1) → (FuS (κ 33 0) (κ 33 1) (h (s1 + 15)) F) → (Fw [] [(95, 1), (95, 2), (95, 3), (95, 4), (95, 5), (95, 6)] gh0 h) → 9900 + 45 * (3 - v5) + 44 < (N : Int) → zV G mX11_badness (q_X11_badnessZ b κ s1 x2 F tr gh0) 23 [some (.inr (.inr 30)), some (.inr (.inr s1)), some (.inl x2), some (.inr (.inl v3)), none, some (.inl v5)] [] h) := by
    intro N
    induction N with
    | zero =>
      intro v3 v5 h hF g0 gc0 gc1 hF3 hgh hm
      exfalso; omega
    | succ N ih =>
      have k23 := ih
      intro v3 v5 h hF g0 gc0 gc1 hF3 hgh hm
      refine zW_iload (pc' := 25) dX11_badness_0.2.2.2.1 rfl rfl ?_
      refine zW_iconst (pc' := 26) dX11_badness_0.2.2.2.2 rfl ?_
      refine zV_cm_gt (tgt := 88) (pc' := 29) dX11_badness_1.1.1.1.1 rfl rfl ⟨by omega, by omega⟩ ⟨by omega, by omega⟩ (fun c26 => ?_) (fun c26 => ?_)
      · refine zW_lload_n (pc' := 89) dX11_badness_3.1 rfl rfl ?_
        exact zV_lret rfl dX11_badness_3.2 ⟨hF, ⟨hgh, (by unfold bdQ; rw [if_neg (by omega), gc0, show v5 = 3 by omega]; rfl)⟩⟩
      · have ss := sm3_s (t := (bdT (κ 33 0) (κ 33 1) x2 F tr)) (c := v5) (by omega)
        refine zW_iload_n (pc' := 30) dX11_badness_1.1.1.1.2 rfl rfl ?_
        refine zV_if_ne (tgt := 58) (pc' := 33) dX11_badness_1.1.1.2.1 rfl rfl ⟨by omega, by omega⟩ (fun c30 => ?_) (fun c30 => ?_)
        · refine zW_aload_n (pc' := 59) dX11_badness_2.1.1.1.2 rfl rfl ?_
          refine zG_ref (pc' := 62) 95 fg_X11_60 tb30 rfl dX11_badness_2.1.1.2.1 rfl ?_
          refine zW_aload_n (pc' := 63) dX11_badness_2.1.1.2.2 rfl rfl ?_
          refine zW_aload_n (pc' := 64) dX11_badness_2.1.2.1.1 rfl rfl ?_
          refine zG_ref (pc' := 67) 39 fg_X11_26 tb30 rfl dX11_badness_2.1.2.1.2 rfl ?_
          refine zW_iload (pc' := 69) dX11_badness_2.1.2.2.1 rfl rfl ?_
          refine cvV3 (pc' := 72) kX4_findErrors vX4_findErrors lk_X11_346 ⟨Nat.le_of_ble_eq_true rfl, Nat.le_of_ble_eq_true rfl⟩ tb95 vq4 rfl rfl (s_X4_findErrorsZ hK hF _ ⟨by omega, by omega⟩ _ ⟨by omega, by omega⟩ (F v5) (tr v5) h (hF3 v5 (by omega)) (hb3 v5 (by omega)) (htr (by omega) v5 ⟨by omega, by omega⟩) Fw.rf) dX11_badness_2.1.2.2.2 (Nat.le_of_ble_eq_true rfl) rfl ?_
          rintro r69 h ⟨hF, d69, p69⟩
          replace hF3 : FuS (κ 33 0) (κ 33 1) (h (s1 + 15)) F := by have q0_ := (d69.cell (k := (s1 + 15)) (by intro c hc; simp at hc <;> omega) (by rintro ⟨a, b⟩ hp; simp at hp <;> (show _ ≠ a; omega))); rw [q0_]; exact hF3
          replace hgh : Fw [] [(95, 1), (95, 2), (95, 3), (95, 4), (95, 5), (95, 6)] gh0 h := hgh.tr d69 (by simp) (by simp)
          have tb : (bdT (κ 33 0) (κ 33 1) x2 F tr) v5 = h 95 4 := by unfold bdT; rw [if_neg (by omega)]; exact p69.1.symm
          refine zW_lload_n (pc' := 73) dX11_badness_2.2.1.1.1 rfl rfl ?_
          refine zW_aload_n (pc' := 74) dX11_badness_2.2.1.1.2 rfl rfl ?_
          refine zG_ref (pc' := 77) 95 fg_X11_60 tb30 rfl dX11_badness_2.2.1.2.1 rfl ?_
          refine zG_lng (pc' := 80) fg_X11_354 tb95 rfl dX11_badness_2.2.1.2.2 rfl ?_
          refine zY_ladd (pc' := 81) dX11_badness_2.2.2.1.1 rfl (fun v80 e80 => ?_)
          refine zW_lstore_n (ls' := [_, _, _, _, _, _]) (pc' := 82) dX11_badness_2.2.2.1.2 (by decide) rfl rfl rfl ?_
          refine zW_iinc (ls' := [_, _, _, _, _, _]) (pc' := 85) dX11_badness_2.2.2.2.1 rfl (by decide) rfl rfl rfl ?_
          refine zV_goto 23 dX11_badness_2.2.2.2.2 rfl ?_
          exact k23 _ _ _ hF (by omega) (by first | rfl | (rw [ss, tb, ← gc0]; omega)) (by omega) hF3 hgh (by omega)
        · refine zW_aload_n (pc' := 34) dX11_badness_1.1.1.2.2 rfl rfl ?_
          refine zG_ref (pc' := 37) 95 fg_X11_60 tb30 rfl dX11_badness_1.1.2.1.1 rfl ?_
          refine zW_aload_n (pc' := 38) dX11_badness_1.1.2.1.2 rfl rfl ?_
          refine zW_iload (pc' := 40) dX11_badness_1.1.2.2.1 rfl rfl ?_
          refine zW_iconst (pc' := 41) dX11_badness_1.1.2.2.2 rfl ?_
          refine cvV3 (pc' := 44) kX4_findNoise vX4_findNoise lk_X11_313 ⟨Nat.le_of_ble_eq_true rfl, Nat.le_of_ble_eq_true rfl⟩ tb95 vq4 rfl rfl (s_X4_findNoiseZ hK hF _ ⟨by omega, by omega⟩ _ ⟨by omega, by omega⟩ _ ⟨by omega, by omega⟩ (F v5) h (hF3 v5 (by omega)) (hb3 v5 (by omega)) Fw.rf) dX11_badness_1.2.1.1.1 (Nat.le_of_ble_eq_true rfl) rfl ?_
          rintro r41 h ⟨hF, d41, p41⟩
          replace hF3 : FuS (κ 33 0) (κ 33 1) (h (s1 + 15)) F := by have q0_ := (d41.cell (k := (s1 + 15)) (by intro c hc; simp at hc <;> omega) (by rintro ⟨a, b⟩ hp; simp at hp <;> (show _ ≠ a; omega))); rw [q0_]; exact hF3
          replace hgh : Fw [] [(95, 1), (95, 2), (95, 3), (95, 4), (95, 5), (95, 6)] gh0 h := hgh.tr d41 (by simp) (by simp)
          have nb := nz_b f_33_0 f_33_1 (hb3 v5 (by omega))
          have e41_ := p41.2.1
          rw [← e41_] at nb
          refine zW_lload_n (pc' := 45) dX11_badness_1.2.1.1.2 rfl rfl ?_
          refine zW_aload_n (pc' := 46) dX11_badness_1.2.1.2.1 rfl rfl ?_
          refine zG_ref (pc' := 49) 95 fg_X11_60 tb30 rfl dX11_badness_1.2.1.2.2 rfl ?_
          refine zG_int (pc' := 52) fg_X11_323 tb95 rfl dX11_badness_1.2.2.1.1 rfl ?_
          refine zY_i2l (pc' := 53) ⟨by omega, by omega⟩ dX11_badness_1.2.2.1.2 rfl (fun v52 e52 => ?_)
          have tb : (bdT (κ 33 0) (κ 33 1) x2 F tr) v5 = v52 := by unfold bdT; rw [if_pos (by omega), e52, ← e41_]
          refine zY_ladd (pc' := 54) dX11_badness_1.2.2.2.1 rfl (fun v53 e53 => ?_)
          refine zW_lstore_n (ls' := [_, _, _, _, _, _]) (pc' := 55) dX11_badness_1.2.2.2.2 (by decide) rfl rfl rfl ?_
          refine zV_goto 82 dX11_badness_2.1.1.1.1 rfl ?_
          refine zW_iinc (ls' := [_, _, _, _, _, _]) (pc' := 85) dX11_badness_2.2.2.2.1 rfl (by decide) rfl rfl rfl ?_
          refine zV_goto 23 dX11_badness_2.2.2.2.2 rfl ?_
          exact k23 _ _ _ hF (by omega) (by first | rfl | (rw [ss, tb, ← gc0]; omega)) (by omega) hF3 hgh (by omega)
  refine zM_of [some (.inr (.inr 30)), some (.inr (.inr s1)), some (.inl x2), none, none, none] 3 rfl rfl (Nat.le_of_ble_eq_true rfl) rfl ?_
  refine zW_iload_n (pc' := 1) dX11_badness_0.1.1.1.1 rfl rfl ?_
  refine zW_iconst (pc' := 2) dX11_badness_0.1.1.1.2 rfl ?_
  refine zV_cm_ne (tgt := 18) (pc' := 5) dX11_badness_0.1.1.2.1 rfl rfl ⟨by omega, by omega⟩ ⟨by omega, by omega⟩ (fun c2 => ?_) (fun c2 => ?_)
  · refine zW_lconst (pc' := 19) dX11_badness_0.2.1.2.1 rfl ?_
    refine zW_lstore_n (ls' := [_, _, _, _, _, _]) (pc' := 20) dX11_badness_0.2.1.2.2 (by decide) rfl rfl rfl ?_
    refine zW_iconst (pc' := 21) dX11_badness_0.2.2.1.1 rfl ?_
    refine zW_istore (ls' := [_, _, _, _, _, _]) (pc' := 23) dX11_badness_0.2.2.1.2 (by decide) rfl rfl rfl ?_
    exact (main 10000000000000000000000000000000000000000) _ _ _ hF (by omega) (by first | rfl | (rw [ss, tb, ← gc0]; omega)) (by omega) hF3 hgh (by omega)
  · refine zW_aload_n (pc' := 6) dX11_badness_0.1.1.2.2 rfl rfl ?_
    refine zG_ref (pc' := 9) 95 fg_X11_60 tb30 rfl dX11_badness_0.1.2.1.1 rfl ?_
    refine zW_aload_n (pc' := 10) dX11_badness_0.1.2.1.2 rfl rfl ?_
    refine zW_sipush (pc' := 13) dX11_badness_0.1.2.2.1 rfl rfl ?_
    refine cvI2 (pc' := 16) kX4_falseOf vX4_falseOf lk_X11_360 ⟨Nat.le_of_ble_eq_true rfl, Nat.le_of_ble_eq_true rfl⟩ tb95 vq4 rfl rfl (s_X4_falseOfZ hK hF _ ⟨by omega, by omega⟩ _ ⟨by omega, by omega⟩ F hF3 hb3) dX11_badness_0.1.2.2.2 (Nat.le_of_ble_eq_true rfl) rfl ?_
    rintro r13 z13 ⟨hz13, p13⟩; subst z13
    have fb := fo_b (m := 256) (F := F) f_33_0 f_33_1
    have e13_ : r13 = _ := p13
    rw [← e13_] at fb
    refine zY_i2l (pc' := 17) ⟨by omega, by omega⟩ dX11_badness_0.2.1.1.1 rfl (fun v16 e16 => ?_)
    exact zV_lret rfl dX11_badness_0.2.1.1.2 ⟨hF, ⟨hgh, (by unfold bdQ; rw [if_pos (by omega), e16, e13_])⟩⟩

abbrev q_X11_bestZ (b : Bd) (κ : Hp) (x1 : Int) (x2 : Int) : Int → Hp → Prop := fun r h' => Fr b κ h' ∧ ((r = beQ (κ 33 0) (κ 33 1) (κ 33 2) (κ 41 0) (ltV (LC κ) (κ 41 0)) (bhV (LC κ) (κ 41 0)) (pcV (κ 41 0) (PFc κ)) (nmV (κ 41 0) (XNc κ)) (κ 39 1) (trV (κ 39 1) (κ 33 0) (κ 33 1) (κ 40)) (twV (κ 41 0) (LcG κ)) x1 x2))
set_option maxHeartbeats 4000000 in
set_option maxRecDepth 20000 in
theorem s_X11_bestZ {G : Ga} {b : Bd} {κ h : Hp} (hK : KC κ) (hF : Fr b κ h) (x1 : Int) (hx1 : rng x1) (x2 : Int) (hx2 : rng x2) (hSw : SheetW b) (hTr : OkT b) (hRc : RecW κ) (hV : VOK (κ 34)) (hE : EaOK (LC κ) (κ 41 0)) (hfB : ∀ k : Nat, (k : Int) ≤ κ 41 0 → ((0 < κ 41 1 ∧ κ 41 1 ≤ (k : Int)) ↔ bhI (LC κ) k = 1)) (hfN : κ 41 1 ≤ κ 41 0) (hTB : TrB (κ 39 1) (κ 33 0) (κ 33 1) (κ 40)) (hTF : 0 ≤ κ 39 1 ∧ κ 39 1 ≤ 1) (hX : XI G) : zM G mX11_best yX11_best [.inr (.inr 30), .inl x1, .inl x2] h (q_X11_bestZ b κ x1 x2) := by
  have f_33_0 := KCw hK
  have f_33_1 := KCh hK
  have f_33_2 := KCp hK
  have f_41_0 := KCm hK
  have f_41_1 := KCf hK
  have f_45_1 := KCr1 hK
  have f_49_1 := KCd1 hK
  unfold rng at hx1
  unfold rng at hx2
  have main : ∀ N : Nat, (∀ (v3 v4 v6 : Int) (h : Hp), Fr b κ h → (1 ≤ x1 ∧ x1 ≤ 12) → (x1 - κ 41 0 ≤ 0) → (0 ≤ x2 ∧ x2 ≤ 2) → (0 ≤ v3 ∧ v3 ≤ 8) → (0 ≤ v6 ∧ v6 ≤ 9) → ((v6 = 0 ∧ v4 = 0 ∧ v3 = 0) ∨ (1 ≤ v6 ∧ v4 = lsB (fun i : Nat => bdQ (κ 33 0) (κ 33 1) x2 (LcG κ x1 (i : Int)) (trV (κ 39 1) (κ 33 0) (κ 33 1) (κ 40))) v6.toNat ∧ v3 = agB (fun i : Nat => bdQ (κ 33 0) (κ 33 1) x2 (LcG κ x1 (i : Int)) (trV (κ 39 1) (κ 33 0) (κ 33 1) (κ 40))) v6.toNat)) → (tnI (LC κ (x1 - 1).toNat) = 1 ∧ bhI (LC κ) (κ 41 0).toNat = 1 ∧ (x2 = 2 → κ 39 1 ≠ 0)) → (1 ≤ x1 ∧ x1 ≤ κ 41 0 ∧ 0 ≤ x2 ∧ x2 ≤ 2) → (0 ≤ v4 ∧ v4 ≤ 1000000000) → 12342 + 34 * (9 - v6) + 33 < (N : Int) → zV G mX11_best (q_X11_bestZ b κ x1 x2) 78 [some (.inr (.inr 30)), some (.inl x1), some (.inl x2), some (.inl v3), some (.inr (.inl v4)), none, some (.inl v6), none, none] [] h) := by
    intro N
    induction N with
    | zero =>
      intro v3 v4 v6 h hF g0 g1 g2 g3 g4 gc0 gc1 gc2 gc3 hm
      exfalso; omega
    | succ N ih =>
      have k78 := ih
      intro v3 v4 v6 h hF g0 g1 g2 g3 g4 gc0 gc1 gc2 gc3 hm
      refine zW_iload (pc' := 80) dX11_best_2.2.1.1.1 rfl rfl ?_
      refine zW_bipush (pc' := 82) dX11_best_2.2.1.1.2 rfl rfl ?_
      refine zV_cm_gt (tgt := 128) (pc' := 85) dX11_best_2.2.1.2.1 rfl rfl ⟨by omega, by omega⟩ ⟨by omega, by omega⟩ (fun c82 => ?_) (fun c82 => ?_)
      · refine zW_iload_n (pc' := 129) dX11_best_4.1 rfl rfl ?_
        exact zV_iret rfl dX11_best_4.2 ⟨hF, (by unfold beQ; rw [if_pos ⟨by omega, by omega, by omega, by omega⟩, ltV_in ⟨by omega, by omega⟩, if_pos gc1.1, bhV_in ⟨by omega, by omega⟩, if_neg (fun q => by have g := gc1.2.2; omega)]; have e9 : v6 = 9 := (by omega); have g0 := gc0.resolve_left (by omega); rw [e9] at g0; refine g0.2.2.trans ?_; show agB _ 9 = _; congr 1; funext i; rw [twV_in ⟨by omega, by omega⟩])⟩
      · have htc := tnI_c (LC κ (x1 - 1).toNat)
        refine zW_aload_n (pc' := 86) dX11_best_2.2.1.2.2 rfl rfl ?_
        refine zW_aload_n (pc' := 87) dX11_best_2.2.2.1.1 rfl rfl ?_
        refine zG_ref (pc' := 90) 54 fg_X11_51 tb30 rfl dX11_best_2.2.2.1.2 rfl ?_
        refine zW_iload_n (pc' := 91) dX11_best_2.2.2.2.1 rfl rfl ?_
        refine zW_iload (pc' := 93) dX11_best_2.2.2.2.2 rfl rfl ?_
        refine cvA2 (pc' := 96) kX1_lastWith vX1_lastWith lk_X11_380 ⟨Nat.le_of_ble_eq_true rfl, Nat.le_of_ble_eq_true rfl⟩ tb54 vq1 rfl rfl (s_X1_lastWithW hK hF _ ⟨by omega, by omega, by omega⟩ _ ⟨by omega, by omega⟩ hSw hTr hRc hE hV (fun _ => ⟨⟨fun q => by omega, fun q => by omega, fun q => by omega⟩, by omega⟩) (fun q => by omega)) dX11_best_3.1.1.1.1 (Nat.le_of_ble_eq_true rfl) rfl ?_
        rintro r93 h ⟨hF, p93⟩
        obtain ⟨q93, z93⟩ : ∃ z : Nat, z = r93.toNat := ⟨_, rfl⟩
        rw [← z93]
        have hP := p93.2.2
        rw [show r93.toNat = q93 from z93.symm] at hP
        have hbc := bhI_c (LC κ) (κ 41 0).toNat
        have hnn : ¬ noF (LC κ) (κ 41 0).toNat := by rcases hbc with q | q; (exfalso; omega); exact q.2
        have hF3 := (hP.2 hnn).1
        have hb3 : FB3 (κ 33 0) (κ 33 1) (LcG κ x1 v6) := LwG_b hK hV
        have htr : x2 = 2 → ∀ c : Int, 0 ≤ c ∧ c ≤ 2 → TrO (κ 33 0) (κ 33 1) (κ 40) c ((trV (κ 39 1) (κ 33 0) (κ 33 1) (κ 40)) c) := fun q c hc => TrO_of (gc1.2.2 q) hTB hc
        refine zW_iload_n (pc' := 97) dX11_best_3.1.1.1.2 rfl rfl ?_
        refine cvL2 (pc' := 100) kX11_badness vX11_badness lk_X11_391 ⟨Nat.le_of_ble_eq_true rfl, Nat.le_of_ble_eq_true rfl⟩ tb30 vq11 rfl rfl (s_X11_badnessZ hK hF _ ⟨by omega, by omega⟩ _ ⟨by omega, by omega⟩ (LcG κ x1 v6) (trV (κ 39 1) (κ 33 0) (κ 33 1) (κ 40)) h hF3 hb3 htr Fw.rf) dX11_best_3.1.1.2.1 (Nat.le_of_ble_eq_true rfl) rfl ?_
        rintro r97 h ⟨hF, d97, p97⟩
        have hbq := bdQ_b (w := x2) f_33_0 f_33_1 hb3 ⟨by omega, by omega⟩ (fun q c hc => (htr q c hc).b)
        have e97 : r97 = _ := p97
        rw [← e97] at hbq
        have lb := lsB_s (b := (fun i : Nat => bdQ (κ 33 0) (κ 33 1) x2 (LcG κ x1 (i : Int)) (trV (κ 39 1) (κ 33 0) (κ 33 1) (κ 40)))) (n := v6) (by omega)
        have ev : bdQ (κ 33 0) (κ 33 1) x2 (LcG κ x1 ((v6.toNat : Nat) : Int)) (trV (κ 39 1) (κ 33 0) (κ 33 1) (κ 40)) = r97 := by rw [e97, show ((v6.toNat : Nat) : Int) = v6 by omega]
        rw [ev] at lb
        have l0 : v6 = 0 → lsB (fun i : Nat => bdQ (κ 33 0) (κ 33 1) x2 (LcG κ x1 (i : Int)) (trV (κ 39 1) (κ 33 0) (κ 33 1) (κ 40))) v6.toNat = 1000000000 := fun q => by rw [q]; rfl
        refine zW_lstore (ls' := [_, _, _, _, _, _, _, _, _]) (pc' := 102) dX11_best_3.1.1.2.2 (by decide) rfl rfl rfl ?_
        refine zW_iload (pc' := 104) dX11_best_3.1.2.1.1 rfl rfl ?_
        refine zV_if_eq (tgt := 115) (pc' := 107) dX11_best_3.1.2.1.2 rfl rfl ⟨by omega, by omega⟩ (fun c104 => ?_) (fun c104 => ?_)
        · refine zW_lload (pc' := 117) dX11_best_3.2.1.2.1 rfl rfl ?_
          refine zW_lstore (ls' := [_, _, _, _, _, _, _, _, _]) (pc' := 119) dX11_best_3.2.1.2.2 (by decide) rfl rfl rfl ?_
          refine zW_iload (pc' := 121) dX11_best_3.2.2.1.1 rfl rfl ?_
          refine zW_istore_n (ls' := [_, _, _, _, _, _, _, _, _]) (pc' := 122) dX11_best_3.2.2.1.2 (by decide) rfl rfl rfl ?_
          refine zW_iinc (ls' := [_, _, _, _, _, _, _, _, _]) (pc' := 125) dX11_best_3.2.2.2.1 rfl (by decide) rfl rfl rfl ?_
          refine zV_goto 78 dX11_best_3.2.2.2.2 rfl ?_
          refine zV_clr 7 (ls' := [_, _, _, _, _, _, _, _, _]) rfl ?_
          exact k78 _ _ _ _ hF (by omega) (by omega) (by omega) (by omega) (by omega) (by first | exact Or.inl ⟨rfl, rfl, rfl⟩ | omega) (by first | exact gc1 | exact ⟨hc1, hc2, fun q => by omega⟩) (by omega) (by omega) (by omega)
        · refine zW_lload (pc' := 109) dX11_best_3.1.2.2.1 rfl rfl ?_
          refine zW_lload (pc' := 111) dX11_best_3.1.2.2.2 rfl rfl ?_
          refine zX_lcmp (pc' := 112) dX11_best_3.2.1.1.1 rfl ⟨by omega, by omega⟩ ⟨by omega, by omega⟩ (fun v111 e111 => ?_)
          have b111 : -1 ≤ v111 ∧ v111 ≤ 1 := by omega
          refine zV_if_ge (tgt := 122) (pc' := 115) dX11_best_3.2.1.1.2 rfl rfl ⟨by omega, by omega⟩ (fun c112 => ?_) (fun c112 => ?_)
          · refine zW_iinc (ls' := [_, _, _, _, _, _, _, _, _]) (pc' := 125) dX11_best_3.2.2.2.1 rfl (by decide) rfl rfl rfl ?_
            refine zV_goto 78 dX11_best_3.2.2.2.2 rfl ?_
            refine zV_clr 7 (ls' := [_, _, _, _, _, _, _, _, _]) rfl ?_
            exact k78 _ _ _ _ hF (by omega) (by omega) (by omega) (by omega) (by omega) (by first | exact Or.inl ⟨rfl, rfl, rfl⟩ | omega) (by first | exact gc1 | exact ⟨hc1, hc2, fun q => by omega⟩) (by omega) (by omega) (by omega)
          · refine zW_lload (pc' := 117) dX11_best_3.2.1.2.1 rfl rfl ?_
            refine zW_lstore (ls' := [_, _, _, _, _, _, _, _, _]) (pc' := 119) dX11_best_3.2.1.2.2 (by decide) rfl rfl rfl ?_
            refine zW_iload (pc' := 121) dX11_best_3.2.2.1.1 rfl rfl ?_
            refine zW_istore_n (ls' := [_, _, _, _, _, _, _, _, _]) (pc' := 122) dX11_best_3.2.2.1.2 (by decide) rfl rfl rfl ?_
            refine zW_iinc (ls' := [_, _, _, _, _, _, _, _, _]) (pc' := 125) dX11_best_3.2.2.2.1 rfl (by decide) rfl rfl rfl ?_
            refine zV_goto 78 dX11_best_3.2.2.2.2 rfl ?_
            refine zV_clr 7 (ls' := [_, _, _, _, _, _, _, _, _]) rfl ?_
            exact k78 _ _ _ _ hF (by omega) (by omega) (by omega) (by omega) (by omega) (by first | exact Or.inl ⟨rfl, rfl, rfl⟩ | omega) (by first | exact gc1 | exact ⟨hc1, hc2, fun q => by omega⟩) (by omega) (by omega) (by omega)
  refine zM_of [some (.inr (.inr 30)), some (.inl x1), some (.inl x2), none, none, none, none, none, none] 6 rfl rfl (Nat.le_of_ble_eq_true rfl) rfl ?_
  refine zW_aload_n (pc' := 1) dX11_best_0.1.1.1.1 rfl rfl ?_
  refine zG_ref (pc' := 4) 41 fg_X11_33 tb30 rfl dX11_best_0.1.1.1.2 rfl ?_
  refine zW_iload_n (pc' := 5) dX11_best_0.1.1.2.1 rfl rfl ?_
  refine cvI1 (pc' := 8) kX7_has vX7_has lk_X11_178 ⟨Nat.le_of_ble_eq_true rfl, Nat.le_of_ble_eq_true rfl⟩ tb41 vq7 rfl rfl (s_X7_has hK hF _ ⟨by omega, by omega⟩) dX11_best_0.1.1.2.2 (Nat.le_of_ble_eq_true rfl) rfl ?_
  rintro r5 z5 ⟨hz5, p5⟩; subst z5
  refine zV_if_eq (tgt := 19) (pc' := 11) dX11_best_0.1.2.1.1 rfl rfl ⟨by omega, by omega⟩ (fun c8 => ?_) (fun c8 => ?_)
  · refine zW_iconst (pc' := 20) dX11_best_0.2.1.1.2 rfl ?_
    exact zV_iret rfl dX11_best_0.2.1.2.1 ⟨hF, (by unfold beQ; rw [if_neg (by omega)])⟩
  · refine zW_iload_n (pc' := 12) dX11_best_0.1.2.1.2 rfl rfl ?_
    refine zW_iconst (pc' := 13) dX11_best_0.1.2.2.1 rfl ?_
    refine csI2 (pc' := 16) kX11_isWithin vX11_isWithin lk_X11_116 ⟨Nat.le_of_ble_eq_true rfl, Nat.le_of_ble_eq_true rfl⟩ rfl (s_X11_isWithinR hF _ ⟨by omega, by omega⟩ _ ⟨by omega, by omega⟩) dX11_best_0.1.2.2.2 (Nat.le_of_ble_eq_true rfl) rfl ?_
    rintro r13 z13 ⟨hz13, p13⟩; subst z13
    refine zV_if_ne (tgt := 21) (pc' := 19) dX11_best_0.2.1.1.1 rfl rfl ⟨by omega, by omega⟩ (fun c16 => ?_) (fun c16 => ?_)
    · refine zV_ldc_wS (k := 107) (pc' := 24) (fun U hU => (hX U hU).2.2.2.1) dX11_best_0.2.1.2.2 rfl ?_
      refine zW_aload_n (pc' := 25) dX11_best_0.2.2.1.1 rfl rfl ?_
      refine zG_ref (pc' := 28) 41 fg_X11_33 tb30 rfl dX11_best_0.2.2.1.2 rfl ?_
      refine zW_iload_n (pc' := 29) dX11_best_0.2.2.2.1 rfl rfl ?_
      refine cvI1 (pc' := 32) kX7_letterOf vX7_letterOf lk_X11_180 ⟨Nat.le_of_ble_eq_true rfl, Nat.le_of_ble_eq_true rfl⟩ tb41 vq7 rfl rfl (s_X7_letterOfZ hK hF _ ⟨by omega, by omega, by omega⟩) dX11_best_0.2.2.2.2 (Nat.le_of_ble_eq_true rfl) rfl ?_
      rintro r29 z29 ⟨hz29, p29⟩; subst z29
      have eLC : LC κ (x1 - 1).toNat = κ 42 x1.toNat := (by show κ 42 ((x1 - 1).toNat + 1) = _; rw [show (x1 - 1).toNat + 1 = x1.toNat by omega])
      have lt29 := (hRc (x1 - 1).toNat (by omega)).2.1
      have e29_ : r29 = LC κ (x1 - 1).toNat := by omega
      have b29 : 0 ≤ r29 ∧ r29 ≤ 255 := by rw [e29_]; unfold LtOK at lt29; omega
      refine zW_i2cE (pc' := 33) ⟨by omega, by omega⟩ dX11_best_1.1.1.1.1 rfl (fun v32 e32 => ?_)
      refine cwI1 (z := 1) hX (by decide) rfl (pc' := 36) kJ0_indexOf_0f7a4 vJ0_indexOf_0f7a4 lk_X11_386 ⟨Nat.le_of_ble_eq_true rfl, Nat.le_of_ble_eq_true rfl⟩ rfl (s_J0_indexOf_0f7a4S1P hF _ ⟨by omega, by omega⟩ hX) dX11_best_1.1.1.1.2 (Nat.le_of_ble_eq_true rfl) rfl ?_
      rintro r33 z33 ⟨hz33, p33⟩; subst z33
      have htn := tn_ix p33.2.2
      have hbz := bhI_c (LC κ) (κ 41 0).toNat
      have hfz := hfB (κ 41 0).toNat (by omega)
      refine zV_if_ge (tgt := 42) (pc' := 39) dX11_best_1.1.1.2.1 rfl rfl ⟨by omega, by omega⟩ (fun c36 => ?_) (fun c36 => ?_)
      · refine zW_aload_n (pc' := 43) dX11_best_1.1.2.1.2 rfl rfl ?_
        refine zG_ref (pc' := 46) 41 fg_X11_33 tb30 rfl dX11_best_1.1.2.2.1 rfl ?_
        refine zG_key (pc' := 49) hF rfl fg_X11_248 tb41 rfl dX11_best_1.1.2.2.2 rfl ?_
        refine zV_if_eq (tgt := 67) (pc' := 52) dX11_best_1.2.1.1.1 rfl rfl ⟨by omega, by omega⟩ (fun c49 => ?_) (fun c49 => ?_)
        · refine zW_bipush (pc' := 69) dX11_best_2.1.1.1.1 rfl rfl ?_
          exact zV_iret rfl dX11_best_2.1.1.1.2 ⟨hF, (by unfold beQ; rw [if_pos ⟨by omega, by omega, by omega, by omega⟩, ltV_in ⟨by omega, by omega⟩, if_pos (by rw [← e29_]; first | (have z := e32; omega) | (rw [show r29 = v32 by omega]; omega)), bhV_in ⟨by omega, by omega⟩, if_pos (by omega)])⟩
        · refine zW_iload_n (pc' := 53) dX11_best_1.2.1.1.2 rfl rfl ?_
          refine zW_iconst (pc' := 54) dX11_best_1.2.1.2.1 rfl ?_
          refine zV_cm_ne (tgt := 70) (pc' := 57) dX11_best_1.2.1.2.2 rfl rfl ⟨by omega, by omega⟩ ⟨by omega, by omega⟩ (fun c54 => ?_) (fun c54 => ?_)
          · have hc1 : tnI (LC κ (x1 - 1).toNat) = 1 := by rw [← e29_]; first | (have z := e32; omega) | (rw [show r29 = v32 by omega]; omega)
            have hc2 : bhI (LC κ) (κ 41 0).toNat = 1 := by omega
            refine zW_iconst (pc' := 71) dX11_best_2.1.1.2.1 rfl ?_
            refine zW_istore_n (ls' := [_, _, _, _, _, _, _, _, _]) (pc' := 72) dX11_best_2.1.1.2.2 (by decide) rfl rfl rfl ?_
            refine zW_lconst (pc' := 73) dX11_best_2.1.2.1.1 rfl ?_
            refine zW_lstore (ls' := [_, _, _, _, _, _, _, _, _]) (pc' := 75) dX11_best_2.1.2.1.2 (by decide) rfl rfl rfl ?_
            refine zW_iconst (pc' := 76) dX11_best_2.1.2.2.1 rfl ?_
            refine zW_istore (ls' := [_, _, _, _, _, _, _, _, _]) (pc' := 78) dX11_best_2.1.2.2.2 (by decide) rfl rfl rfl ?_
            exact (main 10000000000000000000000000000000000000000) _ _ _ _ hF (by omega) (by omega) (by omega) (by omega) (by omega) (by first | exact Or.inl ⟨rfl, rfl, rfl⟩ | omega) (by first | exact gc1 | exact ⟨hc1, hc2, fun q => by omega⟩) (by omega) (by omega) (by omega)
          · refine zW_aload_n (pc' := 58) dX11_best_1.2.2.1.1 rfl rfl ?_
            refine zG_ref (pc' := 61) 39 fg_X11_26 tb30 rfl dX11_best_1.2.2.1.2 rfl ?_
            refine zG_key (pc' := 64) hF rfl fg_X11_169 tb39 rfl dX11_best_1.2.2.2.1 rfl ?_
            have e61 := hF.rk (k := 39) (i := 1) rfl (by decide) (by decide)
            have b61 := hTF
            refine zV_if_ne (tgt := 70) (pc' := 67) dX11_best_1.2.2.2.2 rfl rfl ⟨by omega, by omega⟩ (fun c64 => ?_) (fun c64 => ?_)
            · have hc1 : tnI (LC κ (x1 - 1).toNat) = 1 := by rw [← e29_]; first | (have z := e32; omega) | (rw [show r29 = v32 by omega]; omega)
              have hc2 : bhI (LC κ) (κ 41 0).toNat = 1 := by omega
              refine zW_iconst (pc' := 71) dX11_best_2.1.1.2.1 rfl ?_
              refine zW_istore_n (ls' := [_, _, _, _, _, _, _, _, _]) (pc' := 72) dX11_best_2.1.1.2.2 (by decide) rfl rfl rfl ?_
              refine zW_lconst (pc' := 73) dX11_best_2.1.2.1.1 rfl ?_
              refine zW_lstore (ls' := [_, _, _, _, _, _, _, _, _]) (pc' := 75) dX11_best_2.1.2.1.2 (by decide) rfl rfl rfl ?_
              refine zW_iconst (pc' := 76) dX11_best_2.1.2.2.1 rfl ?_
              refine zW_istore (ls' := [_, _, _, _, _, _, _, _, _]) (pc' := 78) dX11_best_2.1.2.2.2 (by decide) rfl rfl rfl ?_
              exact (main 10000000000000000000000000000000000000000) _ _ _ _ hF (by omega) (by omega) (by omega) (by omega) (by omega) (by first | exact Or.inl ⟨rfl, rfl, rfl⟩ | omega) (by first | exact gc1 | exact ⟨hc1, hc2, fun q => by omega⟩) (by omega) (by omega) (by omega)
            · refine zW_bipush (pc' := 69) dX11_best_2.1.1.1.1 rfl rfl ?_
              exact zV_iret rfl dX11_best_2.1.1.1.2 ⟨hF, (by unfold beQ; rw [if_pos ⟨by omega, by omega, by omega, by omega⟩, ltV_in ⟨by omega, by omega⟩, if_pos (by rw [← e29_]; first | (have z := e32; omega) | (rw [show r29 = v32 by omega]; omega)), bhV_in ⟨by omega, by omega⟩, if_pos (by omega)])⟩
      · refine zW_bipush (pc' := 41) dX11_best_1.1.1.2.2 rfl rfl ?_
        exact zV_iret rfl dX11_best_1.1.2.1.1 ⟨hF, (by unfold beQ; rw [if_pos ⟨by omega, by omega, by omega, by omega⟩, ltV_in ⟨by omega, by omega⟩, if_neg (by rw [← e29_]; first | (have z := e32; omega) | (rw [show r29 = v32 by omega]; omega))])⟩
    · refine zW_iconst (pc' := 20) dX11_best_0.2.1.1.2 rfl ?_
      exact zV_iret rfl dX11_best_0.2.1.2.1 ⟨hF, (by unfold beQ; rw [if_neg (by omega)])⟩
