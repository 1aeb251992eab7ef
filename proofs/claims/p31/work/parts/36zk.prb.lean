/-! all pictures, by recursion over the stages; nothing outside the picture -/
def nrm (W H : Int) (G : P3) : P3 := fun c x y => if 0 ≤ c ∧ c ≤ 2 ∧ 0 ≤ x ∧ x < W ∧ 0 ≤ y ∧ y < H then G c x y else 0
theorem nrm_in {W H c x y : Int} {G : P3} (hc : 0 ≤ c ∧ c ≤ 2) (hp : inP W H x y) : nrm W H G c x y = G c x y := if_pos ⟨hc.1, hc.2, hp.1, hp.2.1, hp.2.2.1, hp.2.2.2⟩
theorem nrm_eq {W H : Int} {G G' : P3} (h : ∀ c x y : Int, 0 ≤ c ∧ c ≤ 2 → inP W H x y → G c x y = G' c x y) : nrm W H G = nrm W H G' := by
  funext c x y
  unfold nrm
  by_cases q : 0 ≤ c ∧ c ≤ 2 ∧ 0 ≤ x ∧ x < W ∧ 0 ≤ y ∧ y < H
  · rw [if_pos q, if_pos q]
    exact h c x y ⟨q.1, q.2.1⟩ ⟨q.2.2.1, q.2.2.2.1, q.2.2.2.2.1, q.2.2.2.2.2⟩
  · rw [if_neg q, if_neg q]
theorem nrm_b {W H : Int} {G : P3} (h : FB3 W H G) : FB3 W H (nrm W H G) := fun c hc x y hp => by rw [nrm_in hc hp]; exact h c hc x y hp
theorem Fu17.nrm {κ : Hp} {A : Nat → Int} {k : Int} {G : P3} (h : Fu17 κ A k G) : Fu17 κ A k (nrm (κ 0 11) (κ 0 12) G) := fun c hc x y hp => (h c hc x y hp).trans (nrm_in hc hp).symm
/-- a row of squares, nothing outside the picture -/
def dN (W H : Int) (D : Nat → Int) : Nat → Int := fun i => if (i : Int) % 16 < W ∧ (i : Int) / 16 < H then D i else 0
theorem dN_in {W H x y : Int} {D : Nat → Int} (hp : inP W H x y) (hW : W ≤ 16) : dN W H D (16 * y + x).toNat = D (16 * y + x).toNat := if_pos (by obtain ⟨a, b, c, d⟩ := hp; omega)
theorem dN_eq {W H : Int} {D D' : Nat → Int} (hW : W ≤ 16) (hH : H ≤ 16) (h : ∀ j : Nat, j < 256 → D j = D' j) : dN W H D = dN W H D' := by
  funext i
  unfold dN
  by_cases q : (i : Int) % 16 < W ∧ (i : Int) / 16 < H
  · rw [if_pos q, if_pos q]; exact h i (by omega)
  · rw [if_neg q, if_neg q]
/-- the numbers of stage k, nothing behind them; half of how many -/
def XN (A N : Nat → Int) (k : Nat) : Nat → Int := fun j => if A k + (j : Int) < A (k + 1) then N (A k + (j : Int)).toNat else 0
def MN (A : Nat → Int) (k : Nat) : Int := (A (k + 1) - A k) / 2
theorem XN_in {A N : Nat → Int} {k j : Nat} (h : A k + (j : Int) < A (k + 1)) : XN A N k j = N (A k + (j : Int)).toNat := if_pos h
theorem XN_0 {A N : Nat → Int} {k : Nat} (h : A k < A (k + 1)) : XN A N k 0 = N (A k).toNat := by
  rw [XN_in (by omega)]
  rw [show A k + ((0 : Nat) : Int) = A k by omega]
def stp (W H P : Int) (D : Nat → Int) (L : Int) (X : Nat → Int) (m : Int) (G : P3) : P3 :=
  if L = 102 then flP W H P (X 0) (G 0) else if L = 98 ∨ L = 111 ∨ L = 100 ∨ L = 108 then (fun _ => stg W H D L (X 0) (G 0)) else lst W H L X m G
theorem stp_f {W H P L m : Int} {D X : Nat → Int} {G : P3} (h : L = 102) : stp W H P D L X m G = flP W H P (X 0) (G 0) := if_pos h
theorem stp_e {W H P L m : Int} {D X : Nat → Int} {G : P3} (h : L = 98 ∨ L = 111 ∨ L = 100 ∨ L = 108) : stp W H P D L X m G = fun _ => stg W H D L (X 0) (G 0) := by
  unfold stp
  rw [if_neg (by omega), if_pos h]
theorem stp_l {W H P L m : Int} {D X : Nat → Int} {G : P3} (h : ¬ (L = 98 ∨ L = 111 ∨ L = 100 ∨ L = 108 ∨ L = 102)) : stp W H P D L X m G = lst W H L X m G := by
  unfold stp
  rw [if_neg (by omega), if_neg (by omega)]
theorem stp_b {W H P L m : Int} {D X : Nat → Int} {G : P3} (hW : 4 ≤ W) (hH : 4 ≤ H) (h : FB3 W H G) : FB3 W H (stp W H P D L X m G) := fun c hc => by
  unfold stp
  split
  · exact flP_b hW hH (h 0 (by omega))
  · split
    · exact fun x y hp => stg_b hW hH (h 0 (by omega)) hp
    · unfold lst
      split
      · exact vtN_b h _ c hc
      · exact fun x y hp => clp_b _
def pG (W H P : Int) (D : Nat → Int) (L : Nat → Int) (X : Nat → Nat → Int) (M : Nat → Int) (G : P3) (s : Nat) : Nat → P3
  | 0 => G
  | i + 1 => nrm W H (stp W H P D (L (s + i)) (X (s + i)) (M (s + i)) (pG W H P D L X M G s i))
theorem pG_b {W H P : Int} {D : Nat → Int} {L : Nat → Int} {X : Nat → Nat → Int} {M : Nat → Int} {G : P3} {s : Nat} (hW : 4 ≤ W) (hH : 4 ≤ H) (h : FB3 W H G) : ∀ i, FB3 W H (pG W H P D L X M G s i)
  | 0 => h
  | i + 1 => nrm_b (stp_b hW hH (pG_b hW hH h i))
theorem pG_eq {W H P : Int} {D : Nat → Int} {L L' : Nat → Int} {X X' : Nat → Nat → Int} {M M' : Nat → Int} {G : P3} {s : Nat} : ∀ i : Nat, (∀ j, j < i → L (s + j) = L' (s + j) ∧ X (s + j) = X' (s + j) ∧ M (s + j) = M' (s + j)) → pG W H P D L X M G s i = pG W H P D L' X' M' G s i
  | 0, _ => rfl
  | i + 1, h => by
    obtain ⟨a, b, c⟩ := h i (Nat.lt_succ_self i)
    show nrm W H (stp W H P D (L (s + i)) (X (s + i)) (M (s + i)) (pG W H P D L X M G s i)) = nrm W H (stp W H P D (L' (s + i)) (X' (s + i)) (M' (s + i)) (pG W H P D L' X' M' G s i))
    rw [a, b, c, pG_eq i (fun j hj => h j (by omega))]
/-- the raw picture -/
def rawP (W H : Int) (V : Nat → Int) : P3 := nrm W H (fun _ x y => 16 * V (16 * y + x).toNat)
theorem rawP_b {W H : Int} {V : Nat → Int} (hW : W ≤ 16) (hH : H ≤ 16) (hV : VOK V) : FB3 W H (rawP W H V) := nrm_b (fun c hc x y hp => by
  obtain ⟨a, b, c, d⟩ := hp
  have z := hV (16 * y + x).toNat (by omega)
  show 0 ≤ 16 * V (16 * y + x).toNat ∧ 16 * V (16 * y + x).toNat ≤ 4095
  omega)
theorem rawP_eq {W H : Int} {V V' : Nat → Int} (hW : W ≤ 16) (hH : H ≤ 16) (h : ∀ j : Nat, j < 256 → V j = V' j) : rawP W H V = rawP W H V' := nrm_eq (fun c x y hc hp => by
  obtain ⟨a, b, c, d⟩ := hp
  rw [h (16 * y + x).toNat (by omega)])
/-- what is known of stage k of a text -/
def StK (L A N : Nat → Int) (k : Nat) : Prop := (L k = 102 → 0 ≤ N (A k).toNat ∧ N (A k).toNat ≤ 1) ∧ (L k = 112 ∨ L k = 110 ∨ L k = 115 → A k + 2 ≤ A (k + 1)) ∧ (L k = 103 ∨ L k = 121 → A k + 3 ≤ A (k + 1)) ∧ (L k = 98 ∨ L k = 100 ∨ L k = 111 ∨ L k = 108 ∨ L k = 102 ∨ L k = 118 ∨ L k = 119 ∨ L k = 104 ∨ L k = 121 ∨ L k = 103 ∨ L k = 109 ∨ L k = 112 ∨ L k = 110 ∨ L k = 115 ∨ L k = 116)
def StOK (L A N : Nat → Int) (n : Int) : Prop := ∀ k : Nat, (k : Int) < n → StK L A N k
theorem crI_X {X X' : Nat → Int} {m v : Int} (h : ∀ j : Nat, (j : Int) < 2 * m → X j = X' j) : ∀ (k : Nat) (i : Int), 0 ≤ i → i + 2 ≤ m → crI X m v k i = crI X' m v k i ∧ 0 ≤ crI X' m v k i ∧ crI X' m v k i + 2 ≤ m
  | 0, i, h0, h1 => ⟨rfl, h0, h1⟩
  | k + 1, i, h0, h1 => by
    show (if i + 2 < m ∧ 16 * X (2 * i + 2).toNat ≤ v then crI X m v k (i + 1) else i) = (if i + 2 < m ∧ 16 * X' (2 * i + 2).toNat ≤ v then crI X' m v k (i + 1) else i) ∧ 0 ≤ (if i + 2 < m ∧ 16 * X' (2 * i + 2).toNat ≤ v then crI X' m v k (i + 1) else i) ∧ (if i + 2 < m ∧ 16 * X' (2 * i + 2).toNat ≤ v then crI X' m v k (i + 1) else i) + 2 ≤ m
    rw [h (2 * i + 2).toNat (by omega)]
    by_cases c : i + 2 < m ∧ 16 * X' (2 * i + 2).toNat ≤ v
    · rw [if_pos c, if_pos c]
      exact crI_X h k (i + 1) (by omega) (by omega)
    · rw [if_neg c, if_neg c]
      exact ⟨rfl, h0, h1⟩
theorem crv_X {X X' : Nat → Int} {m v : Int} (hm : 2 ≤ m) (h : ∀ j : Nat, (j : Int) < 2 * m → X j = X' j) : crv X m v = crv X' m v := by
  obtain ⟨a, b, c⟩ := crI_X (v := v) h 70 0 (by omega) (by omega)
  unfold crv
  rw [a, h _ (by omega), h _ (by omega), h _ (by omega), h _ (by omega)]
theorem lsv_X {W H L : Int} {X X' : Nat → Int} {m : Int} {F : P3} {c x y : Int} (hc : 0 ≤ c ∧ c ≤ 2) (h0 : X 0 = X' 0) (h1 : L = 112 ∨ L = 110 ∨ L = 115 → X 1 = X' 1) (h2 : L = 103 ∨ L = 121 → X 1 = X' 1 ∧ X 2 = X' 2) (ht : L = 116 → ∀ v, crv X m v = crv X' m v) (hL : L = 119 ∨ L = 104 ∨ L = 121 ∨ L = 103 ∨ L = 109 ∨ L = 112 ∨ L = 110 ∨ L = 115 ∨ L = 116) : lsv W H L X m F c x y = lsv W H L X' m F c x y := by
  rcases hL with rfl | rfl | rfl | rfl | rfl | rfl | rfl | rfl | rfl
  · rw [lsv_w, lsv_w, h0]
  · rw [lsv_h, lsv_h, h0]
  · rw [lsv_y, lsv_y, h0, (h2 (Or.inr rfl)).1, (h2 (Or.inr rfl)).2]
  · obtain ⟨a, b⟩ := h2 (Or.inl rfl)
    rw [lsv_g, lsv_g]
    rcases (by omega : c = 0 ∨ c = 1 ∨ c = 2) with rfl | rfl | rfl
    · show _ * X 0 / 16 = _ * X' 0 / 16
      rw [h0]
    · show _ * X 1 / 16 = _ * X' 1 / 16
      rw [a]
    · show _ * X 2 / 16 = _ * X' 2 / 16
      rw [b]
  · rw [lsv_m, lsv_m, h0]
  · rw [lsv_p, lsv_p, h0, h1 (Or.inl rfl)]
  · rw [lsv_n, lsv_n, h0, h1 (Or.inr (Or.inl rfl))]
  · rw [lsv_s (by decide), lsv_s (by decide), h0, h1 (Or.inr (Or.inr rfl))]
  · rw [lsv_t, lsv_t]; exact ht rfl _
/-- row r of the reference holds what stage j left: ahead of f one level for each square, behind it three -/
def PkR (κ : Hp) (A : Nat → Int) (r : Int) (j : Nat) (G : P3) : Prop := (noF (κ 3) j → Row17 κ A r (G 0)) ∧ (¬ noF (κ 3) j → Fu17 κ A r G)
theorem Row17.nrm {κ : Hp} {A : Nat → Int} {k : Int} {G : P3} (h : Row17 κ A k (G 0)) : Row17 κ A k (nrm (κ 0 11) (κ 0 12) G 0) := fun x y hp => (h x y hp).trans (nrm_in (by omega) hp).symm
theorem PkR.oth {κ : Hp} {A B : Nat → Int} {r k : Int} {j : Nat} {G : P3} (h : PkR κ A r j G) (hjk : r ≠ k) (hj : 0 ≤ r) (hk : 0 ≤ k) (hW : κ 0 11 ≤ 16) (hH : κ 0 12 ≤ 16) (hP : 0 ≤ κ 0 13) (o : Oth k A B) : PkR κ B r j G := ⟨fun q => (h.1 q).oth hjk hj hk hW hH hP o, fun q => (h.2 q).oth hjk hj hk hW hH o⟩
abbrev stR (κ : Hp) (k : Nat) (G : P3) : P3 := stp (κ 0 11) (κ 0 12) (κ 0 13) (dN (κ 0 11) (κ 0 12) (κ 10)) (κ 3 k) (XN (κ 4) (κ 23) k) (MN (κ 4) k) G
theorem PkR_f {κ : Hp} {A : Nat → Int} {r : Int} {k : Nat} {G : P3} {K : Int} (hL : κ 3 k = 102) (hK : K = XN (κ 4) (κ 23) k 0) (h0 : Pl17 κ A r 0 (otg (κ 0 11) (κ 0 12) (κ 0 13) (G 0) (grn (κ 0 11) (κ 0 12) (κ 0 13) K (G 0)) 0)) (h1 : Pl17 κ A r 1 (grn (κ 0 11) (κ 0 12) (κ 0 13) K (G 0))) (h2 : Pl17 κ A r 2 (otg (κ 0 11) (κ 0 12) (κ 0 13) (G 0) (grn (κ 0 11) (κ 0 12) (κ 0 13) K (G 0)) 2)) : PkR κ A r (k + 1) (nrm (κ 0 11) (κ 0 12) (stR κ k G)) := by
  refine ⟨fun q => absurd hL (q k (Nat.lt_succ_self k)), fun _ => Fu17.nrm ?_⟩
  unfold stR
  rw [stp_f hL, ← hK]
  intro c hc
  rcases (by omega : c = 0 ∨ c = 1 ∨ c = 2) with rfl | rfl | rfl
  · exact h0
  · exact h1
  · exact h2
theorem PkR_e {κ : Hp} {A : Nat → Int} {r : Int} {k : Nat} {G : P3} {n : Int} (hW : 4 ≤ κ 0 11 ∧ κ 0 11 ≤ 16) (hH : 4 ≤ κ 0 12 ∧ κ 0 12 ≤ 16) (hno : noF (κ 3) k) (hL : κ 3 k = 98 ∨ κ 3 k = 111 ∨ κ 3 k = 100 ∨ κ 3 k = 108) (hn : κ 3 k = 111 → n ≤ 4) (hK : n = XN (κ 4) (κ 23) k 0) (h : Row17 κ A r (stg (κ 0 11) (κ 0 12) (κ 10) (κ 3 k) n (G 0))) : PkR κ A r (k + 1) (nrm (κ 0 11) (κ 0 12) (stR κ k G)) := by
  refine ⟨fun _ => Row17.nrm ?_, fun q => absurd (noF_s.mpr ⟨hno, by omega⟩) q⟩
  unfold stR
  rw [stp_e hL, ← hK]
  intro x y hp
  rw [h x y hp]
  exact stg_cong hW.1 hH.1 (fun q => by have := hn q; omega) (fun _ _ _ => rfl) (fun x y hp => (dN_in hp hW.2).symm) hp
theorem PkR_v {κ : Hp} {A : Nat → Int} {r : Int} {k : Nat} {G : P3} {n : Int} (hL : κ 3 k = 118) (hno : ¬ noF (κ 3) k) (hK : n = XN (κ 4) (κ 23) k 0) (h : Fu17 κ A r (vtN (κ 0 11) (κ 0 12) G n.toNat)) : PkR κ A r (k + 1) (nrm (κ 0 11) (κ 0 12) (stR κ k G)) := by
  refine ⟨fun q => absurd (q.le (by omega)) hno, fun _ => Fu17.nrm ?_⟩
  unfold stR
  rw [stp_l (by omega)]
  unfold lst
  rw [if_pos hL, ← hK]
  exact h
theorem PkR_l {κ : Hp} {A : Nat → Int} {r : Int} {k : Nat} {G : P3} {a m : Int} (ha : a = κ 4 k) (hm : m = MN (κ 4) k) (hlt : κ 4 k < κ 4 (k + 1)) (hS : StK (κ 3) (κ 4) (κ 23) k) (ht : κ 3 k = 116 → κ 4 k + 4 ≤ κ 4 (k + 1)) (hL : κ 3 k ≠ 118) (hE : ¬ (κ 3 k = 98 ∨ κ 3 k = 111 ∨ κ 3 k = 100 ∨ κ 3 k = 108 ∨ κ 3 k = 102)) (hno : ¬ noF (κ 3) k) (h : Fu17 κ A r (fun c x y => clp (lsv (κ 0 11) (κ 0 12) (κ 3 k) (XR κ a) m G c x y))) : PkR κ A r (k + 1) (nrm (κ 0 11) (κ 0 12) (stR κ k G)) := by
  refine ⟨fun q => absurd (q.le (by omega)) hno, fun _ => Fu17.nrm ?_⟩
  unfold stR
  rw [stp_l hE]
  unfold lst
  rw [if_neg hL]
  intro c hc x y hp
  rw [h c hc x y hp]
  subst ha hm
  have e : ∀ j : Nat, κ 4 k + (j : Int) < κ 4 (k + 1) → XR κ (κ 4 k) j = XN (κ 4) (κ 23) k j := fun j hj => (XN_in hj).symm
  obtain ⟨s1, s2, s3, s4⟩ := hS
  show clp (lsv (κ 0 11) (κ 0 12) (κ 3 k) (XR κ (κ 4 k)) (MN (κ 4) k) G c x y) = clp (lsv (κ 0 11) (κ 0 12) (κ 3 k) (XN (κ 4) (κ 23) k) (MN (κ 4) k) G c x y)
  rw [lsv_X hc (e 0 (by omega)) (fun q => e 1 (by have := s2 q; omega)) (fun q => ⟨e 1 (by have := s3 q; omega), e 2 (by have := s3 q; omega)⟩) (fun q v => crv_X (by have := ht q; unfold MN; omega) (fun j hj => e j (by unfold MN at hj; omega))) (by omega)]

abbrev q_X12_doesW (b : Bd) (κ : Hp) (x1 : Int) (x2 : Int) (x3 : Int) (T : P3) (gh0 : Hp) : Int → Hp → Prop := fun r h' => Fr b κ h' ∧ ((Fw [17, 19, 20, 21, 22] [(0, 44), (0, 45), (0, 46), (0, 47)] gh0 h') ∧ (PkR κ (h' 17) x3 ((x1 - 1).toNat + 1) (nrm (κ 0 11) (κ 0 12) (stR κ (x1 - 1).toNat T)) ∧ Oth x3 (gh0 17) (h' 17)))
set_option maxHeartbeats 4000000 in
set_option maxRecDepth 20000 in
theorem s_X12_doesW {G : Ga} {b : Bd} {κ h : Hp} (hK : KR κ) (hF : Fr b.to κ h) (x1 : Int) (hx1 : 1 ≤ x1 ∧ x1 ≤ 12 ∧ x1 - κ 0 14 ≤ 0) (x2 : Int) (hx2 : 0 ≤ x2 ∧ x2 ≤ 14) (x3 : Int) (hx3 : 0 ≤ x3 ∧ x3 ≤ 14) (T : P3) (gh0 : Hp) (hJ : Ok17 b x3) (hR : GivOK κ) (hne : x2 ≠ x3) (hE : EaOK (κ 3) (κ 0 14)) (hSt : StOK (κ 3) (κ 4) (κ 23) (κ 0 14)) (hG : PkR κ (h 17) x2 (x1 - 1).toNat T) (hb3 : FB3 (κ 0 11) (κ 0 12) T) (hge : h = gh0) (hgh : Fw [17, 19, 20, 21, 22] [(0, 44), (0, 45), (0, 46), (0, 47)] gh0 h) : zM G mX12_does yX12_does [.inr (.inr 0), .inl x1, .inl x2, .inl x3] h (q_X12_doesW b.to κ x1 x2 x3 T gh0) := by
  have f_0_11 := KRw hK
  have f_0_12 := KRh hK
  have f_0_14 := KRm hK
  refine zM_of [some (.inr (.inr 0)), some (.inl x1), some (.inl x2), some (.inl x3), none, none] 2 rfl rfl (Nat.le_of_ble_eq_true rfl) rfl ?_
  obtain ⟨d1, d2, d3, d4, d5, d6⟩ := hR.1 x1.toNat (by omega) (by omega)
  rw [show x1.toNat - 1 = (x1 - 1).toNat by omega] at d1 d3 d4 d5 d6
  have hx1s : x1.toNat = (x1 - 1).toNat + 1 := by omega
  rw [hx1s] at d1 d2
  have hb0 : FB (κ 0 11) (κ 0 12) (T 0) := hb3 0 (by omega)
  have hs0 := hSt (x1 - 1).toNat (by omega)
  have hX0 : κ 23 (κ 4 (x1 - 1).toNat).toNat = XN (κ 4) (κ 23) (x1 - 1).toNat 0 := (XN_0 d1).symm
  have hE0 := hE (x1 - 1).toNat (by omega)
  have e7_ := hF.rk (k := 3) (i := (x1 - 1).toNat) rfl (by decide) (by decide)
  refine zW_aload_n (pc' := 1) dX12_does_0.1.1.1.1 rfl rfl ?_
  refine zG_ref (pc' := 4) 3 fg_X12_16 tb0 rfl dX12_does_0.1.1.1.2 rfl ?_
  refine zW_iload_n (pc' := 5) dX12_does_0.1.1.2.1 rfl rfl ?_
  refine zW_iconst (pc' := 6) dX12_does_0.1.1.2.2 rfl ?_
  refine zW_isub (pc' := 7) dX12_does_0.1.2.1.1 rfl ?_
  refine zA_keyI (pc' := 8) hF rfl (by decide) (by decide) tb3 (by omega) dX12_does_0.1.2.1.2 (by decide) rfl (fun e7 => ?_)
  refine zW_istore (ls' := [_, _, _, _, _, _]) (pc' := 10) dX12_does_0.1.2.2.1 (by decide) rfl rfl rfl ?_
  refine zW_aload_n (pc' := 11) dX12_does_0.1.2.2.2 rfl rfl ?_
  refine zG_ref (pc' := 14) 23 fg_X12_78 tb0 rfl dX12_does_0.2.1.1.1 rfl ?_
  refine zW_aload_n (pc' := 15) dX12_does_0.2.1.1.2 rfl rfl ?_
  refine zG_ref (pc' := 18) 4 fg_X12_19 tb0 rfl dX12_does_0.2.1.2.1 rfl ?_
  refine zW_iload_n (pc' := 19) dX12_does_0.2.1.2.2 rfl rfl ?_
  refine zW_iconst (pc' := 20) dX12_does_0.2.2.1.1 rfl ?_
  refine zW_isub (pc' := 21) dX12_does_0.2.2.1.2 rfl ?_
  refine zA_keyB (KRna hK) (pc' := 22) hF rfl tb4 (by omega) dX12_does_0.2.2.2.1 (by decide) rfl (fun e21 => ?_)
  refine zA_givB (pc' := 23) hR hF (by omega) dX12_does_0.2.2.2.2 rfl (fun e22 => ?_)
  refine zW_istore (ls' := [_, _, _, _, _, _]) (pc' := 25) dX12_does_1.1.1.1.1 (by decide) rfl rfl rfl ?_
  refine zW_iload (pc' := 27) dX12_does_1.1.1.1.2 rfl rfl ?_
  refine zW_bipush (pc' := 29) dX12_does_1.1.1.2.1 rfl rfl ?_
  refine zV_cm_ne (tgt := 43) (pc' := 32) dX12_does_1.1.1.2.2 rfl rfl ⟨by omega, by omega⟩ ⟨by omega, by omega⟩ (fun c29 => ?_) (fun c29 => ?_)
  · refine zW_iload (pc' := 45) dX12_does_1.2.1.2.1 rfl rfl ?_
    refine csI1 (pc' := 48) kX12_isEarly vX12_isEarly lk_X12_170 ⟨Nat.le_of_ble_eq_true rfl, Nat.le_of_ble_eq_true rfl⟩ rfl (s_X12_isEarly hF _ ⟨by omega, by omega⟩) dX12_does_1.2.1.2.2 (Nat.le_of_ble_eq_true rfl) rfl ?_
    rintro r45 z45 ⟨hz45, p45⟩; subst z45
    refine zV_if_eq (tgt := 64) (pc' := 51) dX12_does_1.2.2.1.1 rfl rfl ⟨by omega, by omega⟩ (fun c48 => ?_) (fun c48 => ?_)
    · have hnn : ¬ noF (κ 3) (x1 - 1).toNat := fun q => by have z := hE0.mp q; omega
      have hF3 := hG.2 hnn
      refine zW_iload (pc' := 66) dX12_does_2.1.2.1.1 rfl rfl ?_
      refine zW_bipush (pc' := 68) dX12_does_2.1.2.1.2 rfl rfl ?_
      refine zV_cm_ne (tgt := 82) (pc' := 71) dX12_does_2.1.2.2.1 rfl rfl ⟨by omega, by omega⟩ ⟨by omega, by omega⟩ (fun c68 => ?_) (fun c68 => ?_)
      · refine zW_aload_n (pc' := 83) dX12_does_2.2.2.1.2 rfl rfl ?_
        refine zW_iload (pc' := 85) dX12_does_2.2.2.2.1 rfl rfl ?_
        refine zW_aload_n (pc' := 86) dX12_does_2.2.2.2.2 rfl rfl ?_
        refine zG_ref (pc' := 89) 4 fg_X12_19 tb0 rfl dX12_does_3.1.1.1.1 rfl ?_
        refine zW_iload_n (pc' := 90) dX12_does_3.1.1.1.2 rfl rfl ?_
        refine zW_iconst (pc' := 91) dX12_does_3.1.1.2 rfl ?_
        refine zW_isub (pc' := 92) dX12_does_3.1.2.1.1 rfl ?_
        refine zA_keyB (KRna hK) (pc' := 93) hF rfl tb4 (by omega) dX12_does_3.1.2.1.2 (by decide) rfl (fun e92 => ?_)
        refine zW_aload_n (pc' := 94) dX12_does_3.1.2.2 rfl rfl ?_
        refine zW_iload_n (pc' := 95) dX12_does_3.2.1.1.1 rfl rfl ?_
        refine cvI1 (pc' := 98) kX12_numberMany vX12_numberMany lk_X12_202 ⟨Nat.le_of_ble_eq_true rfl, Nat.le_of_ble_eq_true rfl⟩ tb0 vq12 rfl rfl (s_X12_numberMany hK hF _ ⟨by omega, by omega⟩) dX12_does_3.2.1.1.2 (Nat.le_of_ble_eq_true rfl) rfl ?_
        rintro r95 z95 ⟨hz95, p95⟩; subst z95
        refine zW_iload_n (pc' := 99) dX12_does_3.2.1.2 rfl rfl ?_
        refine zW_iload_n (pc' := 100) dX12_does_3.2.2.1.1 rfl rfl ?_
        refine cvV5 (pc' := 103) kX12_late vX12_late lk_X12_368 ⟨Nat.le_of_ble_eq_true rfl, Nat.le_of_ble_eq_true rfl⟩ tb0 vq12 rfl rfl (s_X12_lateZ hK hF _ ⟨by omega, by omega⟩ _ ⟨by omega, by omega⟩ _ ⟨by omega, by omega⟩ _ ⟨by omega, by omega⟩ _ ⟨by omega, by omega⟩ T h hJ hR hne ⟨fun q => d5 q, fun q => by obtain ⟨t1, t2, t3⟩ := d6 q; rw [hx1s] at t1 t2 t3; rw [p95.2.2, hx1s]; exact ⟨by omega, by omega, fun i a c => (t3 i a (by omega)).2.1⟩⟩ hF3 hb3 rfl Fw.rf) dX12_does_3.2.2.1.2 (Nat.le_of_ble_eq_true rfl) rfl ?_
        rintro r100 h ⟨hF, d100, p100⟩
        replace hgh : Fw [17, 19, 20, 21, 22] [(0, 44), (0, 45), (0, 46), (0, 47)] gh0 h := hgh.tr d100 (by simp) (by simp)
        exact zV_vret rfl dX12_does_3.2.2.2 ⟨hF, ⟨hgh, (by first | exact hres | exact ⟨PkR_l rfl (by unfold MN; rw [p95.2.2, hx1s]) d1 hs0 (fun q => by obtain ⟨t1, t2, t3⟩ := d6 q; rw [hx1s] at t1; exact t1) (by omega) (by omega) hnn p100.1, by have z := p100.2; rw [hge] at z; exact z⟩)⟩⟩
      · refine zW_aload_n (pc' := 72) dX12_does_2.1.2.2.2 rfl rfl ?_
        refine zW_iload (pc' := 74) dX12_does_2.2.1.1.1 rfl rfl ?_
        refine zW_iload_n (pc' := 75) dX12_does_2.2.1.1.2 rfl rfl ?_
        refine zW_iload_n (pc' := 76) dX12_does_2.2.1.2.1 rfl rfl ?_
        refine cvV3 (pc' := 79) kX12_votes vX12_votes lk_X12_365 ⟨Nat.le_of_ble_eq_true rfl, Nat.le_of_ble_eq_true rfl⟩ tb0 vq12 rfl rfl (s_X12_votesZ hK hF _ ⟨by omega, by omega⟩ _ ⟨by omega, by omega⟩ _ ⟨by omega, by omega⟩ T h hJ hne hF3 hb3 rfl Fw.rf) dX12_does_2.2.1.2.2 (Nat.le_of_ble_eq_true rfl) rfl ?_
        rintro r76 h ⟨hF, d76, p76⟩
        replace hgh : Fw [17, 19, 20, 21, 22] [(0, 44), (0, 45), (0, 46), (0, 47)] gh0 h := hgh.tr d76 (by simp) (by simp)
        have hres : PkR κ (h 17) x3 ((x1 - 1).toNat + 1) (nrm (κ 0 11) (κ 0 12) (stR κ (x1 - 1).toNat T)) ∧ Oth x3 (gh0 17) (h 17) := ⟨PkR_v (by omega) hnn hX0 p76.1, by have z := p76.2; rw [hge] at z; exact z⟩
        refine zV_goto 103 dX12_does_2.2.2.1.1 rfl ?_
        exact zV_vret rfl dX12_does_3.2.2.2 ⟨hF, ⟨hgh, (by first | exact hres | exact ⟨PkR_l rfl (by unfold MN; rw [p95.2.2, hx1s]) d1 hs0 (fun q => by obtain ⟨t1, t2, t3⟩ := d6 q; rw [hx1s] at t1; exact t1) (by omega) (by omega) hnn p100.1, by have z := p100.2; rw [hge] at z; exact z⟩)⟩⟩
    · have hno : noF (κ 3) (x1 - 1).toNat := hE0.mpr (by omega)
      have hf0 := hG.1 hno
      have hel : κ 3 (x1 - 1).toNat = 98 ∨ κ 3 (x1 - 1).toNat = 111 ∨ κ 3 (x1 - 1).toNat = 100 ∨ κ 3 (x1 - 1).toNat = 108 := by omega
      refine zW_aload_n (pc' := 52) dX12_does_1.2.2.1.2 rfl rfl ?_
      refine zW_iload (pc' := 54) dX12_does_1.2.2.2.1 rfl rfl ?_
      refine zW_iload (pc' := 56) dX12_does_1.2.2.2.2 rfl rfl ?_
      refine zW_iload_n (pc' := 57) dX12_does_2.1.1.1.1 rfl rfl ?_
      refine zW_iload_n (pc' := 58) dX12_does_2.1.1.1.2 rfl rfl ?_
      refine cvV4 (pc' := 61) kX12_early vX12_early lk_X12_362 ⟨Nat.le_of_ble_eq_true rfl, Nat.le_of_ble_eq_true rfl⟩ tb0 vq12 rfl rfl (s_X12_earlyZ hK hF _ ⟨by omega, by omega⟩ _ ⟨by omega, by omega⟩ _ ⟨by omega, by omega⟩ _ ⟨by omega, by omega⟩ (T 0) h hel (fun q => d4 q) hJ hne hf0 hb0 rfl) dX12_does_2.1.1.2.1 (Nat.le_of_ble_eq_true rfl) rfl ?_
      rintro r58 h ⟨hF, d58, p58⟩
      replace hgh : Fw [17, 19, 20, 21, 22] [(0, 44), (0, 45), (0, 46), (0, 47)] gh0 h := hgh.tr d58 (by simp) (by simp)
      have hres : PkR κ (h 17) x3 ((x1 - 1).toNat + 1) (nrm (κ 0 11) (κ 0 12) (stR κ (x1 - 1).toNat T)) ∧ Oth x3 (gh0 17) (h 17) := ⟨PkR_e (by omega) (by omega) hno hel (fun q => by have := d4 q; omega) hX0 p58.1, by have z := p58.2; rw [hge] at z; exact z⟩
      refine zV_goto 103 dX12_does_2.1.1.2.2 rfl ?_
      exact zV_vret rfl dX12_does_3.2.2.2 ⟨hF, ⟨hgh, (by first | exact hres | exact ⟨PkR_l rfl (by unfold MN; rw [p95.2.2, hx1s]) d1 hs0 (fun q => by obtain ⟨t1, t2, t3⟩ := d6 q; rw [hx1s] at t1; exact t1) (by omega) (by omega) hnn p100.1, by have z := p100.2; rw [hge] at z; exact z⟩)⟩⟩
  · have hno : noF (κ 3) (x1 - 1).toNat := hE0.mpr (by omega)
    have hf0 := hG.1 hno
    have hs1 := hs0.1 (by omega)
    refine zW_aload_n (pc' := 33) dX12_does_1.1.2.1.1 rfl rfl ?_
    refine zW_iload (pc' := 35) dX12_does_1.1.2.1.2 rfl rfl ?_
    refine zW_iload_n (pc' := 36) dX12_does_1.1.2.2.1 rfl rfl ?_
    refine zW_iload_n (pc' := 37) dX12_does_1.1.2.2.2 rfl rfl ?_
    refine cvV3 (pc' := 40) kX12_fills vX12_fills lk_X12_358 ⟨Nat.le_of_ble_eq_true rfl, Nat.le_of_ble_eq_true rfl⟩ tb0 vq12 rfl rfl (s_X12_fillsZ hK hF _ ⟨by omega, by omega⟩ _ ⟨by omega, by omega⟩ _ ⟨by omega, by omega⟩ (T 0) h hJ hne hf0 hb0 rfl Fw.rf) dX12_does_1.2.1.1.1 (Nat.le_of_ble_eq_true rfl) rfl ?_
    rintro r37 h ⟨hF, d37, p37⟩
    replace hgh : Fw [17, 19, 20, 21, 22] [(0, 44), (0, 45), (0, 46), (0, 47)] gh0 h := hgh.tr d37 (by simp) (by simp)
    have hres : PkR κ (h 17) x3 ((x1 - 1).toNat + 1) (nrm (κ 0 11) (κ 0 12) (stR κ (x1 - 1).toNat T)) ∧ Oth x3 (gh0 17) (h 17) := ⟨PkR_f (by omega) hX0 p37.1 p37.2.1 p37.2.2.1, by have z := p37.2.2.2; rw [hge] at z; exact z⟩
    refine zV_goto 103 dX12_does_1.2.1.1.2 rfl ?_
    exact zV_vret rfl dX12_does_3.2.2.2 ⟨hF, ⟨hgh, (by first | exact hres | exact ⟨PkR_l rfl (by unfold MN; rw [p95.2.2, hx1s]) d1 hs0 (fun q => by obtain ⟨t1, t2, t3⟩ := d6 q; rw [hx1s] at t1; exact t1) (by omega) (by omega) hnn p100.1, by have z := p100.2; rw [hge] at z; exact z⟩)⟩⟩

theorem XN_cong {A N N' : Nat → Int} {k : Nat} (h0 : 0 ≤ A k) (h1 : A (k + 1) ≤ 130) (e : ∀ i, i < 130 → N i = N' i) : XN A N k = XN A N' k := by
  funext j
  unfold XN
  by_cases c : A k + (j : Int) < A (k + 1)
  · rw [if_pos c, if_pos c]; exact e _ (by omega)
  · rw [if_neg c, if_neg c]
theorem StOK.cong {L A N N' : Nat → Int} {n : Int} (h : StOK L A N n) (h1 : ∀ k : Nat, (k : Int) < n → 0 ≤ A k ∧ A k < 130) (e : ∀ i, i < 130 → N' i = N i) : StOK L A N' n := fun k hk => by
  obtain ⟨a, b, c, d⟩ := h k hk
  have z := h1 k hk
  exact ⟨fun q => by rw [e _ (by omega)]; exact a q, b, c, d⟩
abbrev PF (κ : Hp) (k : Nat) : P3 := pG (κ 0 11) (κ 0 12) (κ 0 13) (dN (κ 0 11) (κ 0 12) (κ 10)) (κ 3) (XN (κ 4) (κ 5)) (MN (κ 4)) (rawP (κ 0 11) (κ 0 12) (κ 1)) 0 k
theorem PF_s {κ : Hp} {k : Nat} : PF κ (k + 1) = nrm (κ 0 11) (κ 0 12) (stp (κ 0 11) (κ 0 12) (κ 0 13) (dN (κ 0 11) (κ 0 12) (κ 10)) (κ 3 k) (XN (κ 4) (κ 5) k) (MN (κ 4) k) (PF κ k)) := by
  show nrm (κ 0 11) (κ 0 12) (stp (κ 0 11) (κ 0 12) (κ 0 13) (dN (κ 0 11) (κ 0 12) (κ 10)) (κ 3 (0 + k)) (XN (κ 4) (κ 5) (0 + k)) (MN (κ 4) (0 + k)) (PF κ k)) = _
  rw [Nat.zero_add]
theorem PF_b {κ : Hp} (hK : KR κ) (hV : VOK (κ 1)) (k : Nat) : FB3 (κ 0 11) (κ 0 12) (PF κ k) := pG_b (KRw hK).1 (KRh hK).1 (rawP_b (KRw hK).2 (KRh hK).2 hV) k
def RwW (κ : Hp) (A : Nat → Int) (n : Int) : Prop := ∀ k : Nat, (k : Int) ≤ n → PkR κ A k k (PF κ k)
theorem RwW_0 {κ : Hp} {A : Nat → Int} (h : Row17 κ A 0 (EF κ 0)) : RwW κ A 0 := fun k hk => by
  have e : k = 0 := by omega
  subst e
  refine ⟨fun _ x y hp => ?_, fun q => absurd (fun j hj => absurd hj (by omega)) q⟩
  show A (ix17 (κ 0 13) ((0 : Nat) : Int) x y).toNat = nrm (κ 0 11) (κ 0 12) (fun _ x y => 16 * κ 1 (16 * y + x).toNat) 0 x y
  rw [nrm_in (by omega) hp]
  exact h x y hp
theorem FdR.fwW {g h h' : Hp} (a : FdR g h) (c : Fw [17, 19, 20, 21, 22] [(0, 44), (0, 45), (0, 46), (0, 47)] h h') : FdR g h' := fun k i h1 h2 h3 => (c k i (fun c hc => by
  simp only [List.mem_cons, List.not_mem_nil, or_false] at hc
  intro q
  subst q
  rcases hc with rfl | rfl | rfl | rfl | rfl
  · exact h2 rfl
  · exact absurd (show dpn 19 i = false by simp [dpn, key]; decide) (by rw [h1]; simp)
  · exact absurd (show dpn 20 i = false by simp [dpn, key]; decide) (by rw [h1]; simp)
  · exact absurd (show dpn 21 i = false by simp [dpn, key]; decide) (by rw [h1]; simp)
  · exact absurd (show dpn 22 i = false by simp [dpn, key]; decide) (by rw [h1]; simp)) (fun p hp q r => by
  simp only [List.mem_cons, List.not_mem_nil, or_false] at hp
  rcases hp with rfl | rfl | rfl | rfl <;> (subst q; subst r; exact absurd h1 (by decide)))).trans (a k i h1 h2 h3)
theorem s_X12_doesX {G : Ga} {b : Bd} {κ h : Hp} (hK : KR κ) (hF : Fr b.to κ h) (x1 : Int) (hx1 : 1 ≤ x1 ∧ x1 ≤ 12 ∧ x1 - κ 0 14 ≤ 0) (x2 : Int) (hx2 : 0 ≤ x2 ∧ x2 ≤ 14) (x3 : Int) (hx3 : 0 ≤ x3 ∧ x3 ≤ 14) (gh0 : Hp) (he2 : x2 = x1 - 1) (he3 : x3 = x1) (hJ : Ok17 b 0) (hR : GivOK κ) (hV : VOK (κ 1)) (hE : EaOK (κ 3) (κ 0 14)) (hSt : StOK (κ 3) (κ 4) (κ 5) (κ 0 14)) (hgv : ∀ i, i < 130 → κ 23 i = κ 5 i) (hfd : FdR gh0 h) (hrw : RwW κ (h 17) (x1 - 1)) : zM G mX12_does yX12_does [.inr (.inr 0), .inl x1, .inl x2, .inl x3] h (fun r h' => Fr b.to κ h' ∧ (FdR gh0 h' ∧ RwW κ (h' 17) x1)) := by
  subst he2 he3
  have f1 := KRw hK
  have f2 := KRh hK
  have f3 := KRp hK
  have up := fun k : Nat => KRna hK k
  have hSt2 : StOK (κ 3) (κ 4) (κ 23) (κ 0 14) := hSt.cong (fun k _ => by have := up k; omega) hgv
  obtain ⟨d1, d2, d3, -⟩ := hR.1 x3.toNat (by omega) (by omega)
  have z := hrw (x3 - 1).toNat (by omega)
  rw [show (((x3 - 1).toNat : Nat) : Int) = x3 - 1 by omega] at z
  refine (s_X12_doesW hK hF x3 hx1 (x3 - 1) hx2 x3 hx3 (PF κ (x3 - 1).toNat) h (hJ.mono (by omega)) hR (by omega) hE hSt2 z (PF_b hK hV _) rfl Fw.rf).mono (fun r h' q => ⟨q.1, hfd.fwW q.2.1, fun k hk => ?_⟩)
  by_cases e : (k : Int) = x3
  · have e2 : k = (x3 - 1).toNat + 1 := by omega
    have w := q.2.2.1
    rw [show ((k : Nat) : Int) = x3 from e, e2, PF_s, ← XN_cong (k := (x3 - 1).toNat) (up (x3 - 1).toNat).1 (by have := up ((x3 - 1).toNat + 1); omega) hgv]
    exact w
  · exact (hrw k (by omega)).oth e (by omega) (by omega) f1.2 f2.2 f3.1 q.2.2.2

abbrev q_X12_leavesTW (b : Bd) (κ : Hp) (gh0 : Hp) : Int → Hp → Prop := fun r h' => Fr b κ h' ∧ ((FdR gh0 h' ∧ RwW κ (h' 17) (κ 0 14)))
set_option maxHeartbeats 4000000 in
set_option maxRecDepth 20000 in
theorem t_X12_leavesTW {G : Ga} {b : Bd} {κ h : Hp} (hK : KR κ) (hF : Fr b.to κ h) (gh0 : Hp) (hJ : Ok17 b 0) (hw : ∀ (h : Hp) (v : Int), b.I h → b.I (zwr h 0 23 v)) (hR : GivOK κ) (hV : VOK (κ 1)) (hE : EaOK (κ 3) (κ 0 14)) (hgv : ∀ i, i < 130 → κ 23 i = κ 5 i) (hfd : FdR gh0 h) (hP : h 0 23 ≠ 0 → RwW κ (h 17) (κ 0 14)) (hSt : StOK (κ 3) (κ 4) (κ 5) (κ 0 14)) {Q : Int → Hp → Prop} (hQ : ∀ (r : Int) (h' : Hp), (q_X12_leavesTW b.to κ gh0) r h' → Q r h') : zV G mX12_leaves Q 11 [some (.inr (.inr 0)), none, none] [] h := by
  have f_0_11 := KRw hK
  have f_0_12 := KRh hK
  have f_0_13 := KRp hK
  have f_0_14 := KRm hK
  have main : ∀ N : Nat, (∀ (v1 : Int) (h : Hp), Fr b.to κ h → (0 ≤ v1 ∧ v1 ≤ 16) → (v1 - κ 0 12 ≤ 0) → (FdR gh0 h) → (Row17u κ (h 17) 0 (EF κ 0) 0 v1) → 19004544 + 22464 * (16 - v1) + 21996 < (N : Int) → zV G mX12_leaves Q 26 [some (.inr (.inr 0)), some (.inl v1), none] [] h) ∧ (∀ (v1 : Int) (h : Hp), Fr b.to κ h → (1 ≤ v1 ∧ v1 ≤ 13) → (v1 - κ 0 14 ≤ 1) → (FdR gh0 h) → (RwW κ (h 17) (v1 - 1)) → (v1 ≤ κ 0 14 + 1) → 16578432 + 22464 * (13 - v1) + 19188 < (N : Int) → zV G mX12_leaves Q 79 [some (.inr (.inr 0)), some (.inl v1), none] [] h) ∧ (∀ (v1 v2 : Int) (h : Hp), Fr b.to κ h → (0 ≤ v1 ∧ v1 ≤ 15) → (v1 - κ 0 12 ≤ -1) → (0 ≤ v2 ∧ v2 ≤ 16) → (v2 - κ 0 11 ≤ 0) → (FdR gh0 h) → (Row17u κ (h 17) 0 (EF κ 0) v2 v1) → 19004544 + 22464 * (16 - v1) + 11700 + 26 * (16 - v2) + 25 < (N : Int) → zV G mX12_leaves Q 36 [some (.inr (.inr 0)), some (.inl v1), some (.inl v2)] [] h) := by
    intro N
    induction N with
    | zero =>
      refine ⟨?_, ?_, ?_⟩
      · intro v1 h hF g0 g1 gc0 gc1 hm
        exfalso; omega
      · intro v1 h hF g0 g1 gc0 gc1 gc2 hm
        exfalso; omega
      · intro v1 v2 h hF g0 g1 g2 g3 gc0 gc1 hm
        exfalso; omega
    | succ N ih =>
      obtain ⟨k26, k79, k36⟩ := ih
      refine ⟨?_, ?_, ?_⟩
      · intro v1 h hF g0 g1 gc0 gc1 hm
        refine zW_iload_n (pc' := 27) dX12_leaves_0.2.2.2.1 rfl rfl ?_
        refine zW_aload_n (pc' := 28) dX12_leaves_0.2.2.2.2 rfl rfl ?_
        refine zG_key (pc' := 31) hF rfl fg_X12_103 tb0 rfl dX12_leaves_1.1.1.1.1 rfl ?_
        refine zV_cm_ge (tgt := 77) (pc' := 34) dX12_leaves_1.1.1.1.2 rfl rfl ⟨by omega, by omega⟩ ⟨by omega, by omega⟩ (fun c31 => ?_) (fun c31 => ?_)
        · refine zW_iconst (pc' := 78) dX12_leaves_2.2.1.2.2 rfl ?_
          refine zW_istore_n (ls' := [_, _, _]) (pc' := 79) dX12_leaves_2.2.2.1.1 (by decide) rfl rfl rfl ?_
          exact k79 _ _ hF (by omega) (by omega) (by first | exact p93.1 | exact gc0) (by first | (rw [show v1 + 1 - 1 = v1 by omega]; exact p93.2) | exact RwW_0 (gc1.all (by omega))) (by omega) (by omega)
        · refine zW_iconst (pc' := 35) dX12_leaves_1.1.1.2.1 rfl ?_
          refine zW_istore_n (ls' := [_, _, _]) (pc' := 36) dX12_leaves_1.1.1.2.2 (by decide) rfl rfl rfl ?_
          exact k36 _ _ _ hF (by omega) (by omega) (by omega) (by omega) (by first | exact hfd2 | exact gc0) (by first | exact hr2 | exact gc1) (by omega)
      · intro v1 h hF g0 g1 gc0 gc1 gc2 hm
        refine zW_iload_n (pc' := 80) dX12_leaves_2.2.2.1.2 rfl rfl ?_
        refine zW_aload_n (pc' := 81) dX12_leaves_2.2.2.2.1 rfl rfl ?_
        refine zG_key (pc' := 84) hF rfl fg_X12_185 tb0 rfl dX12_leaves_2.2.2.2.2 rfl ?_
        refine zV_cm_gt (tgt := 102) (pc' := 87) dX12_leaves_3.1.1.1.1 rfl rfl ⟨by omega, by omega⟩ ⟨by omega, by omega⟩ (fun c84 => ?_) (fun c84 => ?_)
        · exact zV_vret rfl dX12_leaves_3.2.2.2 (hQ _ _ ⟨hF, ⟨gc0, by rw [show κ 0 14 = v1 - 1 by omega]; exact gc1⟩⟩)
        · refine zW_aload_n (pc' := 88) dX12_leaves_3.1.1.1.2 rfl rfl ?_
          refine zW_iload_n (pc' := 89) dX12_leaves_3.1.1.2 rfl rfl ?_
          refine zW_iload_n (pc' := 90) dX12_leaves_3.1.2.1.1 rfl rfl ?_
          refine zW_iconst (pc' := 91) dX12_leaves_3.1.2.1.2 rfl ?_
          refine zW_isub (pc' := 92) dX12_leaves_3.1.2.2 rfl ?_
          refine zW_iload_n (pc' := 93) dX12_leaves_3.2.1.1.1 rfl rfl ?_
          refine cvV3 (pc' := 96) kX12_does vX12_does lk_X12_371 ⟨Nat.le_of_ble_eq_true rfl, Nat.le_of_ble_eq_true rfl⟩ tb0 vq12 rfl rfl (s_X12_doesX hK hF _ ⟨by omega, by omega, by omega⟩ _ ⟨by omega, by omega⟩ _ ⟨by omega, by omega⟩ gh0 (by omega) (by omega) hJ hR hV hE hSt hgv gc0 gc1) dX12_leaves_3.2.1.1.2 (Nat.le_of_ble_eq_true rfl) rfl ?_
          rintro r93 h ⟨hF, p93⟩
          refine zW_iinc (ls' := [_, _, _]) (pc' := 99) dX12_leaves_3.2.1.2 rfl (by decide) rfl rfl rfl ?_
          refine zV_goto 79 dX12_leaves_3.2.2.1 rfl ?_
          exact k79 _ _ hF (by omega) (by omega) (by first | exact p93.1 | exact gc0) (by first | (rw [show v1 + 1 - 1 = v1 by omega]; exact p93.2) | exact RwW_0 (gc1.all (by omega))) (by omega) (by omega)
      · intro v1 v2 h hF g0 g1 g2 g3 gc0 gc1 hm
        refine zW_iload_n (pc' := 37) dX12_leaves_1.1.2.1.1 rfl rfl ?_
        refine zW_aload_n (pc' := 38) dX12_leaves_1.1.2.1.2 rfl rfl ?_
        refine zG_key (pc' := 41) hF rfl fg_X12_99 tb0 rfl dX12_leaves_1.1.2.2.1 rfl ?_
        refine zV_cm_ge (tgt := 71) (pc' := 44) dX12_leaves_1.1.2.2.2 rfl rfl ⟨by omega, by omega⟩ ⟨by omega, by omega⟩ (fun c41 => ?_) (fun c41 => ?_)
        · refine zW_iinc (ls' := [_, _, _]) (pc' := 74) dX12_leaves_2.2.1.1.2 rfl (by decide) rfl rfl rfl ?_
          refine zV_goto 26 dX12_leaves_2.2.1.2.1 rfl ?_
          refine zV_clr 2 (ls' := [_, _, _]) rfl ?_
          exact k26 _ _ hF (by omega) (by omega) (by first | exact gc0 | exact hfd1) (by first | exact gc1.rowx (by omega) | exact Row17u.no) (by omega)
        · refine zW_aload_n (pc' := 45) dX12_leaves_1.2.1.1.1 rfl rfl ?_
          refine zW_iconst (pc' := 46) dX12_leaves_1.2.1.1.2 rfl ?_
          refine zW_iload_n (pc' := 47) dX12_leaves_1.2.1.2.1 rfl rfl ?_
          refine zW_iload_n (pc' := 48) dX12_leaves_1.2.1.2.2 rfl rfl ?_
          refine zW_bipush (pc' := 50) dX12_leaves_1.2.2.1.1 rfl rfl ?_
          refine zW_aload_n (pc' := 51) dX12_leaves_1.2.2.1.2 rfl rfl ?_
          refine zG_ref (pc' := 54) 1 fg_X12_7 tb0 rfl dX12_leaves_1.2.2.2.1 rfl ?_
          refine zW_bipush (pc' := 56) dX12_leaves_1.2.2.2.2 rfl rfl ?_
          refine zW_iload_n (pc' := 57) dX12_leaves_2.1.1.1.1 rfl rfl ?_
          refine zW_imul (pc' := 58) dX12_leaves_2.1.1.1.2 rfl ?_
          refine zW_iload_n (pc' := 59) dX12_leaves_2.1.1.2.1 rfl rfl ?_
          refine zW_iadd (pc' := 60) dX12_leaves_2.1.1.2.2 rfl ?_
          refine zA_keyI (pc' := 61) hF rfl (by decide) (by decide) tb1 (by omega) dX12_leaves_2.1.2.1.1 (by decide) rfl (fun e60 => ?_)
          have b60 := hV (16 * v1 + v2).toNat (by omega)
          refine zW_imul (pc' := 62) dX12_leaves_2.1.2.1.2 rfl ?_
          refine cvV4 (pc' := 65) kX12_laysOwn vX12_laysOwn lk_X12_270 ⟨Nat.le_of_ble_eq_true rfl, Nat.le_of_ble_eq_true rfl⟩ tb0 vq12 rfl rfl (s_X12_laysOwnZ hK hF _ ⟨by omega, by omega⟩ _ ⟨by omega, by omega, by omega⟩ _ ⟨by omega, by omega, by omega⟩ _ ⟨by omega, by omega⟩ h hJ rfl) dX12_leaves_2.1.2.2.1 (Nat.le_of_ble_eq_true rfl) rfl ?_
          rintro r62 h ⟨hF, p62⟩
          have hr2 : Row17u κ (h 17) 0 (EF κ 0) (v2 + 1) v1 := by rw [p62]; exact Row17u.nx (by omega) (by omega) (by omega) (by omega) ⟨by omega, by omega, by omega, by omega⟩ gc1 (clp_id ⟨by omega, by omega⟩)
          have hfd2 : FdR gh0 h := by rw [p62]; exact gc0.w17
          refine zW_iinc (ls' := [_, _, _]) (pc' := 68) dX12_leaves_2.1.2.2.2 rfl (by decide) rfl rfl rfl ?_
          refine zV_goto 36 dX12_leaves_2.2.1.1.1 rfl ?_
          exact k36 _ _ _ hF (by omega) (by omega) (by omega) (by omega) (by first | exact hfd2 | exact gc0) (by first | exact hr2 | exact gc1) (by omega)
  refine zW_aload_n (pc' := 12) dX12_leaves_0.1.2.1.2 rfl rfl ?_
  refine zG_int (pc' := 15) fg_X12_192 tb0 rfl dX12_leaves_0.1.2.2.1 rfl ?_
  have e12_ := hF.2.2.2.2.2.2 0 23 (by decide) (by decide)
  unfold rng at e12_
  refine zV_if_eq (tgt := 19) (pc' := 18) dX12_leaves_0.1.2.2.2 rfl rfl ⟨by omega, by omega⟩ (fun c15 => ?_) (fun c15 => ?_)
  · refine zW_aload_n (pc' := 20) dX12_leaves_0.2.1.1.2 rfl rfl ?_
    refine zW_iconst (pc' := 21) dX12_leaves_0.2.1.2.1 rfl ?_
    refine zX_boo (pc' := 24) (hF.w23 (fun q => q) (hw _ _ hF.inv) ⟨by omega, by omega⟩) fp_X12_192 (by omega) tb0 rfl dX12_leaves_0.2.1.2.2 rfl (fun h hF w21 => ?_)
    have hfd1 : FdR gh0 h := by rw [w21]; exact hfd.w23
    refine zW_iconst (pc' := 25) dX12_leaves_0.2.2.1.1 rfl ?_
    refine zW_istore_n (ls' := [_, _, _]) (pc' := 26) dX12_leaves_0.2.2.1.2 (by decide) rfl rfl rfl ?_
    exact (main 10000000000000000000000000000000000000000).1 _ _ hF (by omega) (by omega) (by first | exact gc0 | exact hfd1) (by first | exact gc1.rowx (by omega) | exact Row17u.no) (by omega)
  · exact zV_vret rfl dX12_leaves_0.2.1.1.1 (hQ _ _ ⟨hF, ⟨hfd, hP c15⟩⟩)

/-- the rows of the reference are the pictures, if it says so -/
def PicRW (h : Hp) : Prop := h 0 23 ≠ 0 → RwW h (h 17) (h 0 14)
theorem RwW.key {κ h : Hp} {A : Nat → Int} {n : Int} (e11 : h 0 11 = κ 0 11) (e12 : h 0 12 = κ 0 12) (e13 : h 0 13 = κ 0 13) (e1 : h 1 = κ 1) (e10 : h 10 = κ 10) (e3 : h 3 = κ 3) (e4 : h 4 = κ 4) (e5 : h 5 = κ 5) : RwW h A n ↔ RwW κ A n := by
  unfold RwW PkR Row17 Fu17 Pl17 PF
  rw [e11, e12, e13, e1, e10, e3, e4, e5]
theorem RwW.keyF {b : Bd} {κ h : Hp} {A : Nat → Int} {n : Int} (hF : Fr b κ h) : RwW h A n ↔ RwW κ A n :=
  RwW.key (hF.1 0 11 rfl) (hF.1 0 12 rfl) (hF.1 0 13 rfl) (keq hF rfl) (keq hF rfl) (keq hF rfl) (keq hF rfl) (keq hF rfl)
abbrev q_X12_leavesW (b : Bd) (κ : Hp) : Int → Hp → Prop := fun _ h' => Fr b.fo κ h' ∧ ((∀ i, i < 130 → h' 23 i = κ 5 i) ∧ RwW κ (h' 17) (κ 0 14))
def LeavesW (b : Bd) : Prop := ∀ {G : Ga} {κ h : Hp}, KR κ → Fr b.fo κ h → zM G mX12_leaves yX12_leaves [.inr (.inr 0)] h (q_X12_leavesW b κ)
theorem LeavesW.ok {b : Bd} (h : LeavesW b) : LeavesOK b := fun hK hF => (h hK hF).mono (fun _ _ q => ⟨q.1, q.2.1⟩)
theorem leavesW_of {b : Bd} (hb : ∀ g h : Hp, FdR g h → PicRW h → b.I g → b.I h) (hp : ∀ h : Hp, b.I h → PicRW h ∧ VOK (h 1) ∧ EaOK (h 3) (h 0 14) ∧ StOK (h 3) (h 4) (h 5) (h 0 14)) : LeavesW b := by
  intro G κ h hK hF
  refine zM_of [some (.inr (.inr 0)), none, none] 2 rfl rfl (Nat.le_of_ble_eq_true rfl) rfl ?_
  refine zW_aload_n (pc' := 1) dX12_leaves_0.1.1.1.1 rfl rfl ?_
  refine zG_ref (pc' := 4) 5 fg_X12_22 tb0 rfl dX12_leaves_0.1.1.1.2 rfl ?_
  refine zW_aload_n (pc' := 5) dX12_leaves_0.1.1.2.1 rfl rfl ?_
  refine zG_ref (pc' := 8) 23 fg_X12_78 tb0 rfl dX12_leaves_0.1.1.2.2 rfl ?_
  refine csV2 (pc' := 11) kX12_copies vX12_copies lk_X12_188 ⟨Nat.le_of_ble_eq_true rfl, Nat.le_of_ble_eq_true rfl⟩ rfl (s_X12_copies tb5 tb23 (by decide) (by decide)) dX12_leaves_0.1.2.1.1 (Nat.le_of_ble_eq_true rfl) rfl ?_
  rintro r h1 e1
  have hF1 : Fr b.fo κ h1 := by rw [e1]; exact Fr_cpy hF
  have eg : ∀ i, i < 130 → h1 23 i = κ 5 i := fun i hi => by
    rw [e1, cpy_in hi]
    exact hF.1 5 i rfl
  have e5 : h1 5 = κ 5 := keq hF1 rfl
  have hK1 : KR h1 := KR_tr hK hF1
  have hR1 : GivOK h1 := by
    refine ⟨?_, fun j hj => ?_⟩
    · have := (KRr hK).cong eg
      rw [keq hF1 (k := 3) rfl, keq hF1 (k := 4) rfl, hF1.1 0 14 rfl]
      exact this
    · rw [eg j hj]
      exact KRnu hK j
  obtain ⟨p1, p2, p3, p4⟩ := hp h1 hF1.inv
  refine t_X12_leavesTW (b := bdB true) hK1 (Fr.rf (b := (bdB true).to) hF1.2.2) h1 (fun _ _ _ _ _ => True.intro) (fun _ _ _ => True.intro) hR1 p2 p3 (fun i hi => by rw [eg i hi, e5]) FdR.rf p1 p4 (fun r h' hq => ?_)
  obtain ⟨q1, q2, q3⟩ := hq
  have hF2 : Fr (bdB false) κ h' := ⟨fun k i hk => (q1.1 k i hk).trans (hF1.1 k i hk), ⟨fun z => (by cases z), True.intro⟩, q1.2.2⟩
  have q4 : RwW κ (h' 17) (κ 0 14) := by
    have z := (RwW.keyF hF1).mp q3
    rw [hF1.1 0 14 rfl] at z
    exact z
  have q5 : PicRW h' := fun _ => by
    rw [hF2.1 0 14 rfl]
    exact (RwW.keyF hF2).mpr q4
  refine ⟨⟨hF2.1, ⟨fun z => (by cases z), hb h1 h' q2 q5 hF1.inv⟩, q1.2.2⟩, fun i hi => ?_, q4⟩
  rw [q1.2.1.1 rfl i]
  exact eg i hi

