/-! what holds between the calls -/
/-- a text of stages as the reference keeps it: letters L, places A, numbers N -/
def RecOK (L A N : Nat → Int) (many : Int) : Prop := ∀ k : Nat, 1 ≤ k → (k : Int) ≤ many → A (k - 1) < A k ∧ A k ≤ 120 ∧ 0 ≤ A (k - 1) ∧ (L (k - 1) = 111 → 1 ≤ N (A (k - 1)).toNat ∧ N (A (k - 1)).toNat ≤ 4) ∧ (L (k - 1) = 112 → 1 ≤ N (A (k - 1)).toNat ∧ N (A (k - 1)).toNat ≤ 4) ∧
  (L (k - 1) = 116 → A (k - 1) + 4 ≤ A k ∧ (A k - A (k - 1)) % 2 = 0 ∧ ∀ i : Int, 0 ≤ i → A (k - 1) + 2 * i + 2 < A k → 0 ≤ N (A (k - 1) + 2 * i).toNat ∧ N (A (k - 1) + 2 * i).toNat < N (A (k - 1) + 2 * i + 2).toNat ∧ N (A (k - 1) + 2 * i + 2).toNat ≤ 255)
def KR (κ : Hp) : Prop := (4 ≤ κ 0 11 ∧ κ 0 11 ≤ 16) ∧ (4 ≤ κ 0 12 ∧ κ 0 12 ≤ 16) ∧ (0 ≤ κ 0 13 ∧ κ 0 13 ≤ 3) ∧ (0 ≤ κ 0 14 ∧ κ 0 14 ≤ 12) ∧ (0 ≤ κ 0 15 ∧ κ 0 15 ≤ 65535) ∧ (0 ≤ κ 0 25 ∧ κ 0 25 ≤ 140) ∧ (∀ j, 0 ≤ κ 4 j ∧ κ 4 j ≤ 120) ∧ RecOK (κ 3) (κ 4) (κ 5) (κ 0 14)
  ∧ (0 ≤ κ 0 21 ∧ κ 0 21 ≤ 1) ∧ (0 ≤ κ 0 22 ∧ κ 0 22 ≤ 1) ∧ (κ 0 22 = 1 → (4 ≤ κ 0 16 ∧ κ 0 16 ≤ 16) ∧ (4 ≤ κ 0 17 ∧ κ 0 17 ≤ 16) ∧ (0 ≤ κ 0 18 ∧ κ 0 18 ≤ 3) ∧ (0 ≤ κ 0 19 ∧ κ 0 19 ≤ 12) ∧ (0 ≤ κ 0 20 ∧ κ 0 20 ≤ 65535) ∧ (∀ j, 0 ≤ κ 8 j ∧ κ 8 j ≤ 120) ∧ RecOK (κ 7) (κ 8) (κ 9) (κ 0 19) ∧ (∀ j, 0 ≤ κ 9 j ∧ κ 9 j ≤ 255)) ∧ (∀ j, 0 ≤ κ 5 j ∧ κ 5 j ≤ 255) ∧ (∀ j, 0 ≤ κ 10 j ∧ κ 10 j ≤ 1) ∧ (∀ j, 0 ≤ κ 11 j ∧ κ 11 j ≤ 1) ∧ (∀ j, 0 ≤ κ 14 j ∧ κ 14 j ≤ 120) ∧ (∀ j, 0 ≤ κ 15 j ∧ κ 15 j ≤ 255) ∧ (∀ j, 0 ≤ κ 8 j ∧ κ 8 j ≤ 120) ∧ (∀ j, 0 ≤ κ 9 j ∧ κ 9 j ≤ 255)
theorem KRw {κ : Hp} (h : KR κ) : 4 ≤ κ 0 11 ∧ κ 0 11 ≤ 16 := h.1
theorem KRh {κ : Hp} (h : KR κ) : 4 ≤ κ 0 12 ∧ κ 0 12 ≤ 16 := h.2.1
theorem KRp {κ : Hp} (h : KR κ) : 0 ≤ κ 0 13 ∧ κ 0 13 ≤ 3 := h.2.2.1
theorem KRm {κ : Hp} (h : KR κ) : 0 ≤ κ 0 14 ∧ κ 0 14 ≤ 12 := h.2.2.2.1
theorem KRl {κ : Hp} (h : KR κ) : 0 ≤ κ 0 15 ∧ κ 0 15 ≤ 65535 := h.2.2.2.2.1
theorem KRt {κ : Hp} (h : KR κ) : 0 ≤ κ 0 25 ∧ κ 0 25 ≤ 140 := h.2.2.2.2.2.1
theorem KRna {κ : Hp} (h : KR κ) : ∀ j, 0 ≤ κ 4 j ∧ κ 4 j ≤ 120 := h.2.2.2.2.2.2.1
theorem KRr {κ : Hp} (h : KR κ) : RecOK (κ 3) (κ 4) (κ 5) (κ 0 14) := h.2.2.2.2.2.2.2.1
theorem KRi {κ : Hp} (h : KR κ) : 0 ≤ κ 0 21 ∧ κ 0 21 ≤ 1 := h.2.2.2.2.2.2.2.2.1
theorem KRk {κ : Hp} (h : KR κ) : 0 ≤ κ 0 22 ∧ κ 0 22 ≤ 1 := h.2.2.2.2.2.2.2.2.2.1
theorem KRnu {κ : Hp} (h : KR κ) : ∀ j, 0 ≤ κ 5 j ∧ κ 5 j ≤ 255 := h.2.2.2.2.2.2.2.2.2.2.2.1
theorem KRd {κ : Hp} (h : KR κ) : ∀ j, 0 ≤ κ 10 j ∧ κ 10 j ≤ 1 := h.2.2.2.2.2.2.2.2.2.2.2.2.1
def GivOK (κ : Hp) : Prop := RecOK (κ 3) (κ 4) (κ 23) (κ 0 14) ∧ (∀ j, j < 130 → 0 ≤ κ 23 j ∧ κ 23 j ≤ 255)
theorem RecOK.cong {L A N N' : Nat → Int} {m : Int} (h : RecOK L A N m) (e : ∀ j, j < 130 → N' j = N j) : RecOK L A N' m := by
  intro k h1 h2
  obtain ⟨a1, a2, a3, a4, a5, a6⟩ := h k h1 h2
  refine ⟨a1, a2, a3, fun q => ?_, fun q => ?_, fun q => ?_⟩
  · rw [e _ (by omega)]
    exact a4 q
  · rw [e _ (by omega)]
    exact a5 q
  · obtain ⟨b1, b2, b3⟩ := a6 q
    refine ⟨b1, b2, fun i hi hl => ?_⟩
    rw [e _ (by omega), e _ (by omega)]
    exact b3 i hi hl
theorem keq {b : Bd} {κ h : Hp} (hF : Fr b κ h) {k : Nat} (hk : ckey k = true) : h k = κ k := funext fun i => hF.1 k i (key_of hk i)
theorem KR_tr {b : Bd} {κ h : Hp} (hK : KR κ) (hF : Fr b κ h) : KR h := by
  unfold KR at hK ⊢
  rw [keq hF (k := 3) rfl, keq hF (k := 4) rfl, keq hF (k := 5) rfl, keq hF (k := 7) rfl, keq hF (k := 8) rfl, keq hF (k := 9) rfl, keq hF (k := 10) rfl, keq hF (k := 11) rfl, keq hF (k := 14) rfl, keq hF (k := 15) rfl,
    hF.1 0 11 rfl, hF.1 0 12 rfl, hF.1 0 13 rfl, hF.1 0 14 rfl, hF.1 0 15 rfl, hF.1 0 25 rfl, hF.1 0 21 rfl, hF.1 0 22 rfl, hF.1 0 16 rfl, hF.1 0 17 rfl, hF.1 0 18 rfl, hF.1 0 19 rfl, hF.1 0 20 rfl]
  exact hK
/-- the first place of f from k on, within n -/
def flr (L : Nat → Int) : Nat → Nat → Int
  | 0, _ => 0
  | n + 1, k => if L (k - 1) = 102 then (k : Int) else flr L n (k + 1)
def FL (κ : Hp) : Int := flr (κ 3) (κ 0 14).toNat 1
theorem flr_s {L : Nat → Int} {n : Nat} {k m : Int} (hk : 1 ≤ k) (h1 : k ≤ m) (hn : (m - k + 1).toNat = n) : flr L n k.toNat = if L (k - 1).toNat = 102 then k else flr L (m - (k + 1) + 1).toNat (k + 1).toNat := by
  obtain ⟨j, hj⟩ : ∃ j, n = j + 1 := ⟨n - 1, by omega⟩
  rw [hj, flr, show (m - (k + 1) + 1).toNat = j by omega, show (k + 1).toNat = k.toNat + 1 by omega, show (k - 1).toNat = k.toNat - 1 by omega, show ((k.toNat : Nat) : Int) = k by omega]
theorem flr_0 {L : Nat → Int} {k : Nat} {m : Int} (h : m ≤ 0) : flr L m.toNat k = 0 := by
  rw [show m.toNat = 0 by omega, flr]
theorem flr_r {L : Nat → Int} : ∀ (n k : Nat), 1 ≤ k → flr L n k = 0 ∨ ((k : Int) ≤ flr L n k ∧ flr L n k < k + n ∧ L (flr L n k - 1).toNat = 102)
  | 0, k, _ => Or.inl rfl
  | n + 1, k, hk => by
    rw [flr]
    by_cases e : L (k - 1) = 102
    · rw [if_pos e]
      exact Or.inr ⟨by omega, by omega, by rw [show ((k : Int) - 1).toNat = k - 1 by omega]; exact e⟩
    · rw [if_neg e]
      rcases flr_r n (k + 1) (by omega) with h | ⟨h1, h2, h3⟩
      · exact Or.inl h
      · exact Or.inr ⟨by omega, by omega, h3⟩
theorem FL_r {κ : Hp} (hK : KR κ) : 0 ≤ FL κ ∧ FL κ ≤ κ 0 14 := by
  have := KRm hK
  unfold FL
  rcases flr_r (L := κ 3) (κ 0 14).toNat 1 (by omega) with h | ⟨h1, h2, h3⟩ <;> omega
def RcC (κ : Hp) (c : Nat) : Prop := (0 ≤ κ c 0 ∧ κ c 0 ≤ 12) ∧ (0 ≤ κ c 1 ∧ κ c 1 ≤ 12) ∧ (∀ j, 0 ≤ κ (c + 2) j ∧ κ (c + 2) j ≤ 64)
def MoC (κ : Hp) (c : Nat) : Prop := (4 ≤ κ c 0 ∧ κ c 0 ≤ 16) ∧ (4 ≤ κ c 1 ∧ κ c 1 ≤ 16) ∧ (0 ≤ κ c 2 ∧ κ c 2 ≤ 3)
def KC (κ : Hp) : Prop := MoC κ 33 ∧ MoC κ 36 ∧ RcC κ 41 ∧ RcC κ 45 ∧ (0 ≤ κ 31 1 ∧ κ 31 1 ≤ 140) ∧ (0 ≤ κ 30 12 ∧ κ 30 12 ≤ 65535) ∧ (0 ≤ κ 30 10 ∧ κ 30 10 ≤ 65535) ∧ RcC κ 49
theorem KCw {κ : Hp} (h : KC κ) : 4 ≤ κ 33 0 ∧ κ 33 0 ≤ 16 := h.1.1
theorem KCh {κ : Hp} (h : KC κ) : 4 ≤ κ 33 1 ∧ κ 33 1 ≤ 16 := h.1.2.1
theorem KCp {κ : Hp} (h : KC κ) : 0 ≤ κ 33 2 ∧ κ 33 2 ≤ 3 := h.1.2.2
theorem KCm {κ : Hp} (h : KC κ) : 0 ≤ κ 41 0 ∧ κ 41 0 ≤ 12 := h.2.2.1.1
theorem KCf {κ : Hp} (h : KC κ) : 0 ≤ κ 41 1 ∧ κ 41 1 ≤ 12 := h.2.2.1.2.1
theorem KCst {κ : Hp} (h : KC κ) : ∀ j, 0 ≤ κ 43 j ∧ κ 43 j ≤ 64 := h.2.2.1.2.2
theorem KCt {κ : Hp} (h : KC κ) : 0 ≤ κ 31 1 ∧ κ 31 1 ≤ 140 := h.2.2.2.2.1
theorem KCc {κ : Hp} (h : KC κ) : 0 ≤ κ 30 12 ∧ κ 30 12 ≤ 65535 := h.2.2.2.2.2.1
theorem tsw_ok {pc : Nat} {lo : Int} {offs : Array Int} {tg : Int → Nat} (hh : (List.range offs.size).all (fun i => decide ((pc : Int) + offs.getD i 0 = (tg (lo + i) : Int))) = true) : ∀ (off : Int) (i : Nat), offs[i]? = some off → (pc : Int) + off = (tg (lo + i) : Int) := by
  intro off i ho
  have hlt : i < offs.size := (Array.getElem?_eq_some_iff.mp ho).1
  have := List.all_eq_true.mp hh i (List.mem_range.mpr hlt)
  have := of_decide_eq_true this
  rw [Array.getD_eq_getD_getElem?, ho] at this
  exact this
def mir (v n : Int) : Int := if v < 0 then -v else if n ≤ v then 2 * n - 2 - v else v
/-- the level of a colour at a square, as the reference keeps it -/
def lv (κ h : Hp) (row c x y : Int) : Int := h 17 (768 * row + 256 * c + 16 * mir y (κ 0 12) + mir x (κ 0 11)).toNat
theorem lv_wr {κ h : Hp} {k i : Nat} {v row c x y : Int} (hk : k ≠ 17) : lv κ (zwr h k i v) row c x y = lv κ h row c x y := by
  unfold lv
  rw [zwr_ne (Or.inl (Ne.symm hk))]
theorem mul_b {a b : Int} (ha : 4 ≤ a ∧ a ≤ 16) (hb : 4 ≤ b ∧ b ≤ 16) : 16 ≤ a * b ∧ a * b ≤ 256 := by
  have h1 : 4 * 4 ≤ a * b := Int.mul_le_mul ha.1 hb.1 (by omega) (by omega)
  have h2 : a * b ≤ 16 * 16 := Int.mul_le_mul ha.2 hb.2 (by omega) (by omega)
  omega
theorem shr32 {a n : Int} (ha : 0 ≤ a ∧ a ≤ 2147483647) (hn : 0 ≤ n ∧ n ≤ 31) : (Int32.ofInt a >>> (Int32.ofInt n &&& 31)).toInt = a / 2 ^ n.toNat := by
  obtain ⟨k, rfl⟩ := Int.eq_ofNat_of_zero_le hn.1
  have hk : k < 32 := by omega
  have e2 : ((Int32.ofInt (k : Int) &&& 31).toBitVec.smod 32).toNat = k := by
    have key : ∀ j : Fin 32, ((Int32.ofInt ((j : Nat) : Int) &&& 31).toBitVec.smod 32).toNat = (j : Nat) := by decide +kernel
    exact key ⟨k, hk⟩
  show ((Int32.ofInt a).toBitVec.sshiftRight ((Int32.ofInt (k : Int) &&& 31).toBitVec.smod 32).toNat).toInt = _
  rw [e2, BitVec.toInt_sshiftRight]
  have e3 : (Int32.ofInt a).toBitVec.toInt = a := ti32 ⟨by omega, ha.2⟩
  rw [e3, Int.shiftRight_eq_div_pow]
  simp
theorem shr_le {a : Int} {n : Nat} (ha : 0 ≤ a) : 0 ≤ a / 2 ^ n ∧ a / 2 ^ n ≤ a := by
  have h2 : (0 : Int) < 2 ^ n := Int.pow_pos (by decide)
  exact ⟨Int.ediv_nonneg ha (Int.le_of_lt h2), Int.ediv_le_self _ ha⟩
/-- the cell c with the first n places of a -/
def cpy (h : Hp) (a c n : Nat) : Hp := fun k i => if k = c then (if i < n then h a i else h c i) else h k i
theorem cpy_0 {h : Hp} {a c : Nat} : cpy h a c 0 = h := by
  funext k i
  unfold cpy
  by_cases e : k = c
  · subst e
    rw [if_pos rfl, if_neg (by omega)]
  · rw [if_neg e]
theorem cpy_s {h : Hp} {a c n : Nat} (hne : a ≠ c) : zwr (cpy h a c n) c n (cpy h a c n a n) = cpy h a c (n + 1) := by
  funext k i
  unfold zwr cpy
  by_cases e : k = c
  · subst e
    rw [if_pos rfl, if_pos rfl, if_pos rfl, if_neg hne]
    by_cases e2 : i = n
    · subst e2
      rw [if_pos rfl, if_pos (by omega)]
    · rw [if_neg e2]
      by_cases e3 : i < n
      · rw [if_pos e3, if_pos (by omega)]
      · rw [if_neg e3, if_neg (by omega)]
  · rw [if_neg e, if_neg e, if_neg e]
theorem cpy_ne {h : Hp} {a c n k i : Nat} (e : k ≠ c) : cpy h a c n k i = h k i := by
  unfold cpy
  rw [if_neg e]
theorem cpy_in {h : Hp} {a c n i : Nat} (e : i < n) : cpy h a c n c i = h a i := by
  unfold cpy
  rw [if_pos rfl, if_pos e]
theorem cpy_out {h : Hp} {a c n i : Nat} (e : n ≤ i) : cpy h a c n c i = h c i := by
  unfold cpy
  rw [if_pos rfl, if_neg (by omega)]
theorem WFcpy {h : Hp} {a c n : Nat} (hW : WF h) (ha : a ≠ 95 ∧ a ≠ 97) : WF (cpy h a c n) := by
  intro k i h1 h2
  unfold cpy
  by_cases e : k = c
  · rw [if_pos e]
    by_cases e2 : i < n
    · rw [if_pos e2]
      exact hW _ _ ha.1 ha.2
    · rw [if_neg e2]
      subst e
      exact hW _ _ h1 h2
  · rw [if_neg e]
    exact hW _ _ h1 h2
theorem zM.mono {G : Ga} {μ : Mt} {y : MethodName} {av : List Sv} {h : Hp} {Q Q' : Int → Hp → Prop} (hM : zM G μ y av h Q) (hq : ∀ (r : Int) (h' : Hp), Q r h' → Q' r h') : zM G μ y av h Q' := by
  intro p e a1 a2 a3 s m args below hf ha hp hk
  obtain ⟨n, o, h1, h2, h3, ⟨⟨r, h', e1, e2, e3⟩, e4⟩, h5⟩ := hM p e a1 a2 a3 s m args below hf ha hp hk
  exact ⟨n, o, h1, h2, h3, ⟨⟨r, h', e1, hq r h' e2, e3⟩, e4⟩, h5⟩
/-- how many of the first n are not -1 -/
def cntN (f : Nat → Int) : Nat → Nat
  | 0 => 0
  | n + 1 => cntN f n + (if f n = -1 then 0 else 1)
theorem cntN_le (f : Nat → Int) : ∀ n, cntN f n ≤ n
  | 0 => Nat.le_refl 0
  | n + 1 => by
    have := cntN_le f n
    unfold cntN
    split <;> omega
theorem cntN_lt {f : Nat → Int} : ∀ {n i : Nat}, i < n → f i = -1 → cntN f n < n
  | 0, i, h, _ => by omega
  | n + 1, i, h, e => by
    unfold cntN
    by_cases hi : i = n
    · subst hi
      rw [if_pos e]
      have := cntN_le f i
      omega
    · have := cntN_lt (n := n) (i := i) (by omega) e
      split <;> omega
theorem cntN_cong {f g : Nat → Int} : ∀ {n : Nat}, (∀ i, i < n → f i = g i) → cntN f n = cntN g n
  | 0, _ => rfl
  | n + 1, h => by
    unfold cntN
    rw [cntN_cong (n := n) (fun i hi => h i (by omega)), h n (by omega)]
theorem cntN_set {h : Hp} {k i : Nat} {v : Int} : ∀ {n : Nat}, i < n → h k i = -1 → v ≠ -1 → cntN (zwr h k i v k) n = cntN (h k) n + 1
  | 0, hi, _, _ => by omega
  | n + 1, hi, e, hv => by
    unfold cntN
    by_cases hn : i = n
    · subst hn
      have e2 : cntN (zwr h k i v k) i = cntN (h k) i := cntN_cong (fun j hj => zwr_ne (Or.inr (by omega)))
      rw [e2, zwr_eq, if_pos e, if_neg hv]
    · rw [cntN_set (n := n) (by omega) e hv, zwr_ne (Or.inr (by omega))]
      omega
theorem cntN_oth {h : Hp} {k k' i : Nat} {v : Int} {n : Nat} (hk : k' ≠ k) : cntN (zwr h k i v k') n = cntN (h k') n := cntN_cong (fun _ _ => zwr_ne (Or.inl hk))
theorem mul_c {a b : Int} (ha : 1 ≤ a ∧ a ≤ 100) (hb : 0 ≤ b ∧ b ≤ 256) : 0 ≤ a * b ∧ a * b ≤ 25600 := by
  have h1 : 0 ≤ a * b := Int.mul_nonneg (by omega) hb.1
  have h2 : a * b ≤ 100 * 256 := Int.mul_le_mul ha.2 hb.2 hb.1 (by omega)
  omega
def GivH (κ h : Hp) : Prop := RecOK (κ 3) (κ 4) (h 23) (κ 0 14) ∧ (∀ j, j < 130 → 0 ≤ h 23 j ∧ h 23 j ≤ 255)
theorem GivH.ok {b : Bd} {κ h : Hp} (hF : Fr b κ h) (hG : GivH κ h) : GivOK h := by
  refine ⟨?_, hG.2⟩
  rw [keq hF (k := 3) rfl, keq hF (k := 4) rfl, hF.1 0 14 rfl]
  exact hG.1
theorem GivH.mv {b : Bd} {κ h h' : Hp} (hG : GivH κ h) (hF : Fr b.to h h') : GivH κ h' := by
  have e : h' 23 = h 23 := funext fun i => hF.2.1.1 rfl i
  unfold GivH
  rw [e]
  exact hG
theorem GivH.of {κ h : Hp} (hK : KR κ) (e : ∀ i, i < 130 → h 23 i = κ 5 i) : GivH κ h := ⟨(KRr hK).cong e, fun j hj => by rw [e j hj]; exact KRnu hK j⟩
theorem RecOK.up {L A N : Nat → Int} {m : Int} (h : RecOK L A N m) : ∀ (j i : Nat), i ≤ j → (j : Int) ≤ m → A i ≤ A j
  | 0, i, h1, _ => by rw [show i = 0 by omega]; exact Int.le_refl _
  | j + 1, i, h1, h2 => by
    by_cases e : i = j + 1
    · rw [e]; exact Int.le_refl _
    · have a1 := RecOK.up h j i (by omega) (by omega)
      have a2 := (h (j + 1) (by omega) (by omega)).1
      rw [show j + 1 - 1 = j by omega] at a2
      omega
theorem GivH.wr {κ h : Hp} {k : Nat} {v : Int} (hG : GivH κ h) (h1 : 1 ≤ k) (h2 : (k : Int) ≤ κ 0 14) (hv : 0 ≤ v ∧ v ≤ 255) (hl : ¬ κ 3 (k - 1) = 111 ∧ ¬ κ 3 (k - 1) = 112 ∧ ¬ κ 3 (k - 1) = 116) : GivH κ (zwr h 23 (κ 4 (k - 1)).toNat v) := by
  obtain ⟨hR, hB⟩ := hG
  obtain ⟨p1, p2, p3, -⟩ := hR k h1 h2
  refine ⟨fun j j1 j2 => ?_, fun j hj => ?_⟩
  · obtain ⟨a1, a2, a3, a4, a5, a6⟩ := hR j j1 j2
    by_cases ejk : j = k
    · subst ejk
      exact ⟨a1, a2, a3, fun q => absurd q hl.1, fun q => absurd q hl.2.1, fun q => absurd q hl.2.2⟩
    · have far : κ 4 j ≤ κ 4 (k - 1) ∨ κ 4 k ≤ κ 4 (j - 1) := by
        by_cases hlt : j < k
        · exact Or.inl (hR.up (k - 1) j (by omega) (by omega))
        · exact Or.inr (hR.up (j - 1) k (by omega) (by omega))
      refine ⟨a1, a2, a3, fun q => ?_, fun q => ?_, fun q => ?_⟩
      · rw [zwr_ne (Or.inr (by omega))]
        exact a4 q
      · rw [zwr_ne (Or.inr (by omega))]
        exact a5 q
      · obtain ⟨b1, b2, b3⟩ := a6 q
        refine ⟨b1, b2, fun i hi hl => ?_⟩
        rw [zwr_ne (Or.inr (by omega)), zwr_ne (Or.inr (by omega))]
        exact b3 i hi hl
  · by_cases e : j = (κ 4 (k - 1)).toNat
    · subst e
      rw [zwr_eq]
      exact hv
    · rw [zwr_ne (Or.inr e)]
      exact hB j hj
theorem Fr_cpy {b : Bd} {κ h : Hp} {a n : Nat} (hF : Fr b.fo κ h) (ha : a ≠ 95 ∧ a ≠ 97 := by decide) : Fr b.fo κ (cpy h a 23 n) := by
  refine ⟨fun k i hk => ?_, ⟨fun q => (by cases q), b.st _ _ (fun k i hk => cpy_ne (fun q => by subst q; exact absurd (show dpn 23 i = false by simp [dpn, key]; decide) (by rw [hk]; simp))) hF.2.1.2⟩, ?_⟩
  · rw [cpy_ne (fun q => by subst q; exact absurd (show key 23 i = false by simp [key]; decide) (by rw [hk]; simp))]
    exact hF.1 k i hk
  · obtain ⟨s1, s2, s3, s4, s5⟩ := hF.2.2
    unfold SI
    rw [cpy_ne (by decide), cpy_ne (by decide), cpy_ne (by decide), cpy_ne (by decide)]
    exact ⟨s1, s2, s3, s4, WFcpy s5 ha⟩
theorem KRo {κ : Hp} (hK : KR κ) {k : Int} (h1 : 1 ≤ k) (h2 : k ≤ κ 0 14) (hl : κ 3 (k - 1).toNat = 111 ∨ κ 3 (k - 1).toNat = 112) : 1 ≤ κ 5 (κ 4 (k - 1).toNat + 0).toNat ∧ κ 5 (κ 4 (k - 1).toNat + 0).toNat ≤ 4 := by
  obtain ⟨-, -, -, d4, d5, -⟩ := KRr hK k.toNat (by omega) (by omega)
  rw [show k.toNat - 1 = (k - 1).toNat by omega] at d4 d5
  rw [Int.add_zero]
  rcases hl with q | q
  · exact d4 q
  · exact d5 q
section More
variable {G : Ga} {μ μ' : Mt} {Q Q' : Int → Hp → Prop} {pc pc' idx : Nat} {ls : Lo} {st : List Sv} {κ h : Hp} {b : Bd}
theorem zA_keyB {k n : Nat} {i lo up : Int} (hB : ∀ j, lo ≤ κ k j ∧ κ k j ≤ up) (hF : Fr b κ h) (hk : ckey k = true) (ht : tab[k]? = some (1, 0, [n])) (hi : 0 ≤ i ∧ i < n) (hd : decode μ.1 pc = .ok (.iaload, 1)) (hs : n < 2147483648) (hn : pc + 1 = pc') (kk : lo ≤ κ k i.toNat ∧ κ k i.toNat ≤ up → zV G μ Q pc' ls (.inl (κ k i.toNat) :: st) h) : zV G μ Q pc ls (.inl i :: .inr (.inr k) :: st) h :=
  zA_key hF hk ht hi hd hs hn (kk (hB _))
theorem Fr.rk {k i : Nat} (hF : Fr b κ h) (hk : key k i = true) (h1 : k ≠ 95) (h2 : k ≠ 97) : -2147483648 ≤ κ k i ∧ κ k i ≤ 2147483647 := by
  have := hF.2.2.2.2.2.2 k i h1 h2
  rw [hF.1 k i hk] at this
  exact this
theorem Fr.rh {k i : Nat} (hF : Fr b κ h) (h1 : k ≠ 95) (h2 : k ≠ 97) : -2147483648 ≤ h k i ∧ h k i ≤ 2147483647 := hF.2.2.2.2.2.2 k i h1 h2
theorem zA_keyI {k n : Nat} {i : Int} (hF : Fr b κ h) (hk : ckey k = true) (h5 : k ≠ 95) (h7 : k ≠ 97) (ht : tab[k]? = some (1, 0, [n])) (hi : 0 ≤ i ∧ i < n) (hd : decode μ.1 pc = .ok (.iaload, 1)) (hs : n < 2147483648) (hn : pc + 1 = pc') (kk : -2147483648 ≤ κ k i.toNat ∧ κ k i.toNat ≤ 2147483647 → zV G μ Q pc' ls (.inl (κ k i.toNat) :: st) h) : zV G μ Q pc ls (.inl i :: .inr (.inr k) :: st) h :=
  zA_key hF hk ht hi hd hs hn (kk (hF.rk (key_of hk _) h5 h7))
theorem zV_ialdI {k n : Nat} {i : Int} (hF : Fr b κ h) (h5 : k ≠ 95) (h7 : k ≠ 97) (ht : tab[k]? = some (1, 0, [n])) (hi : 0 ≤ i ∧ i < n) (hd : decode μ.1 pc = .ok (.iaload, 1)) (hs : n < 2147483648) (hn : pc + 1 = pc') (kk : -2147483648 ≤ h k i.toNat ∧ h k i.toNat ≤ 2147483647 → zV G μ Q pc' ls (.inl (h k i.toNat) :: st) h) : zV G μ Q pc ls (.inl i :: .inr (.inr k) :: st) h :=
  zV_iald ht hi hd hs hn (kk (hF.rh h5 h7))
theorem zW_ishrE {a n : Int} (ha : 0 ≤ a ∧ a ≤ 2147483647) (hb : 0 ≤ n ∧ n ≤ 31) (hd : decode μ.1 pc = .ok (.ishr, 1)) (hn : pc + 1 = pc') (kk : zV G μ Q pc' ls (.inl (a / 2 ^ n.toNat) :: st) h) : zV G μ Q pc ls (.inl n :: .inl a :: st) h := by
  subst hn
  intro p e s m args below meth c H locs lsA C hP hS hL
  refine lv_ishr C.1 C.2.1 hd ?_
  have e1 : Int32.ofInt a >>> (Int32.ofInt n &&& 31) = Int32.ofInt (a / 2 ^ n.toNat) := by
    rw [← Int32.toInt_inj, shr32 ha hb]
    have := shr_le (n := n.toNat) ha.1
    exact (ti32 ⟨by omega, by omega⟩).symm
  rw [e1]
  exact kk p e s m args below meth c H locs lsA C hP hS hL
theorem zW_ishrN {a n : Int} (ha : 0 ≤ a ∧ a ≤ 2147483647) (hb : 0 ≤ n ∧ n ≤ 31) (hd : decode μ.1 pc = .ok (.ishr, 1)) (hn : pc + 1 = pc') (kk : ∀ v : Int, 0 ≤ v ∧ v ≤ a ∧ v = a / 2 ^ n.toNat → zV G μ Q pc' ls (.inl v :: st) h) : zV G μ Q pc ls (.inl n :: .inl a :: st) h :=
  zW_ishrE ha hb hd hn (kk _ ⟨(shr_le ha.1).1, (shr_le ha.1).2, rfl⟩)
theorem zW_shl1 {n w : Int} (hw : (n = 0 ∧ w = 1) ∨ (n = 1 ∧ w = 2) ∨ (n = 2 ∧ w = 4) ∨ (n = 3 ∧ w = 8) ∨ (n = 4 ∧ w = 16)) (hd : decode μ.1 pc = .ok (.ishl, 1)) (hn : pc + 1 = pc') (kk : zV G μ Q pc' ls (.inl w :: st) h) : zV G μ Q pc ls (.inl n :: .inl 1 :: st) h := by
  subst hn
  intro p e s m args below meth c H locs lsA C hP hS hL
  refine lv_ishl C.1 C.2.1 hd ?_
  have e1 : Int32.ofInt 1 <<< (Int32.ofInt n &&& 31) = Int32.ofInt w := by
    rcases hw with ⟨rfl, rfl⟩ | ⟨rfl, rfl⟩ | ⟨rfl, rfl⟩ | ⟨rfl, rfl⟩ | ⟨rfl, rfl⟩ <;> decide
  rw [e1]
  exact kk p e s m args below meth c H locs lsA C hP hS hL
theorem zA_givB {i : Int} (hR : GivOK κ) (hF : Fr b.to κ h) (hi : 0 ≤ i ∧ i < 130) (hd : decode μ.1 pc = .ok (.iaload, 1)) (hn : pc + 1 = pc') (kk : 0 ≤ κ 23 i.toNat ∧ κ 23 i.toNat ≤ 255 → zV G μ Q pc' ls (.inl (κ 23 i.toNat) :: st) h) : zV G μ Q pc ls (.inl i :: .inr (.inr 23) :: st) h :=
  zA_giv hF hi hd hn (kk (hR.2 _ (by omega)))
theorem zW_idivC {a d : Int} (hb : 1 < d ∧ d ≤ 2147483647) (hd : decode μ.1 pc = .ok (.idiv, 1)) (hn : pc + 1 = pc') (kk : ∀ v : Int, -(2147483648 / d) ≤ v ∧ v ≤ 2147483648 / d → zV G μ Q pc' ls (.inl v :: st) h) : zV G μ Q pc ls (.inl d :: .inl a :: st) h := by
  subst hn
  intro p e s m args below meth c H locs lsA C hP hS hL
  have rb : rng d := ⟨by omega, hb.2⟩
  refine lv_idiv C.1 C.2.1 hd (nz32 rb (by omega)) (zV_any32 C hP hS hL (kk _ ?_))
  have r1 := rg32 (Int32.ofInt a)
  have e1 : (Int32.ofInt a / Int32.ofInt d).toInt = (Int32.ofInt a).toInt.tdiv d := by
    rw [Int32.toInt_div_of_ne_right _ _ (fun q => by
      have := congrArg Int32.toInt q
      rw [ti32 rb] at this
      have h2 : (-1 : Int32).toInt = -1 := by decide
      omega), ti32 rb]
  rw [e1]
  generalize (Int32.ofInt a).toInt = x at r1
  obtain ⟨r2, r3⟩ := r1
  by_cases hx : 0 ≤ x
  · rw [Int.tdiv_eq_ediv_of_nonneg hx]
    have h1 : 0 ≤ x / d := Int.ediv_nonneg hx (by omega)
    have h2 : x / d ≤ 2147483648 / d := Int.ediv_le_ediv (by omega) (by omega)
    have h3 : 0 ≤ (2147483648 : Int) / d := Int.ediv_nonneg (by decide) (by omega)
    omega
  · have e2 : x.tdiv d = -((-x) / d) := by
      rw [← Int.tdiv_eq_ediv_of_nonneg (by omega : 0 ≤ -x), Int.neg_tdiv, Int.neg_neg]
    rw [e2]
    have h1 : 0 ≤ (-x) / d := Int.ediv_nonneg (by omega) (by omega)
    have h2 : (-x) / d ≤ 2147483648 / d := Int.ediv_le_ediv (by omega) (by omega)
    have h3 : 0 ≤ (2147483648 : Int) / d := Int.ediv_nonneg (by decide) (by omega)
    omega
theorem zV_clr (i : Nat) {ls' : Lo} (hls : clr ls i = ls') (kk : zV G μ Q pc ls' st h) : zV G μ Q pc ls st h := by
  subst hls
  intro p e s m args below meth c H locs lsA C hP hS hL
  obtain ⟨l, h1, h2⟩ := hL
  exact kk p e s m args below meth c H locs lsA C hP hS ⟨l, h1, fun j w hj => h2 j w (clr_get _ _ _ _ hj).2⟩
theorem zV_ldc_w {n : Int} {idx : Nat} {x : Int32} (hw : Cond.constant μ.2.2.2.1 idx x ∈ gT) (hx : Int32.ofInt n = x) (hd : decode μ.1 pc = .ok (.ldc_w idx, 3)) (hn : pc + 3 = pc') (kk : zV G μ Q pc' ls (.inl n :: st) h) : zV G μ Q pc ls st h := by
  subst hn
  subst hx
  intro p e s m args below meth c H locs lsA C hP hS hL
  exact lv_ldcw C.1 C.2.1 C.2.2.2.2.2.1 (C.2.2.2.2.2.2.1 _ hw) hd (kk p e s m args below meth c H locs lsA C hP hS hL)
theorem zV_acmp_ne {x y : Nat} {off : Int} {tgt : Nat} (hd : decode μ.1 pc = .ok (.if_acmp .ne off, 3)) (ht : (pc : Int) + off = (tgt : Int)) (hn : pc + 3 = pc') (kt : zV G μ Q tgt ls st h) (kf : zV G μ Q pc' ls st h) : zV G μ Q pc ls (.inr (.inr y) :: .inr (.inr x) :: st) h := by
  subst hn
  intro p e s m args below meth c H locs lsA C hP hS hL
  exact lv_acmp_ne (rx := some (zad G x)) (ry := some (zad G y)) C.1 C.2.1 hd ht (fun _ => kt p e s m args below meth c H locs lsA C hP hS hL) (fun _ => kf p e s m args below meth c H locs lsA C hP hS hL)
theorem zV_aalS {i : Int} (hi : 0 ≤ i ∧ i < 13) (hd : decode μ.1 pc = .ok (.aaload, 1)) (hn : pc + 1 = pc') (kk : ∀ q : Nat, 56 ≤ q ∧ q ≤ 68 ∧ (q : Int) = 56 + i → zV G μ Q pc' ls (.inr (.inr q) :: st) h) : zV G μ Q pc ls (.inl i :: .inr (.inr 55) :: st) h := by
  subst hn
  intro p e s m args below meth c H locs lsA C hP hS hL
  have e0 := zwl_get (G := G) (h := h) (k := 55) rfl
  refine va_aldq C.1 C.2.1 C.2.2.2.2.2.2.2.1 hP 55 4 e0 rfl (vin32 (n := 13) hi (by decide)) hd ?_
  rw [tn32 ⟨hi.1, by omega⟩]
  obtain ⟨n, rfl⟩ := Int.eq_ofNat_of_zero_le hi.1
  have hn : n < 13 := by omega
  have ev : va_rf (([56, 57, 58, 59, 60, 61, 62, 63, 64, 65, 66, 67, 68][((n : Int)).toNat]?).map (zad G)) = dn (zad G) (.inr (.inr (56 + n))) := by
    have : n = 0 ∨ n = 1 ∨ n = 2 ∨ n = 3 ∨ n = 4 ∨ n = 5 ∨ n = 6 ∨ n = 7 ∨ n = 8 ∨ n = 9 ∨ n = 10 ∨ n = 11 ∨ n = 12 := by omega
    rcases this with rfl | rfl | rfl | rfl | rfl | rfl | rfl | rfl | rfl | rfl | rfl | rfl | rfl <;> rfl
  have := kk (56 + n) ⟨by omega, by omega, by omega⟩ p e s m args below meth c H locs lsA C hP hS hL
  rw [List.map_cons, ← ev] at this
  exact this
theorem zV_aalF {i : Int} (hi : 0 ≤ i ∧ i < 4) (hd : decode μ.1 pc = .ok (.aaload, 1)) (hn : pc + 1 = pc') (kk : ∀ q : Nat, 90 ≤ q ∧ q ≤ 93 ∧ (q : Int) = 90 + i → zV G μ Q pc' ls (.inr (.inr q) :: st) h) : zV G μ Q pc ls (.inl i :: .inr (.inr 89) :: st) h := by
  subst hn
  intro p e s m args below meth c H locs lsA C hP hS hL
  have e0 := zwl_get (G := G) (h := h) (k := 89) rfl
  obtain ⟨n, rfl⟩ := Int.eq_ofNat_of_zero_le hi.1
  have hn : n < 4 := by omega
  have hin := vin32 (n := 4) hi (by decide)
  have hlt : (Int32.ofInt (n : Int)).toNatClampNeg < 4 := Nat.not_le.mp fun q => hin (Or.inr q)
  have ev : va_rf (([90, 91, 92, 93][((n : Int)).toNat]?).map (zad G)) = dn (zad G) (.inr (.inr (90 + n))) := by
    have : n = 0 ∨ n = 1 ∨ n = 2 ∨ n = 3 := by omega
    rcases this with rfl | rfl | rfl | rfl <;> rfl
  have this := kk (90 + n) ⟨by omega, by omega, by omega⟩ p e s m args below meth c H locs lsA C hP hS hL
  rw [List.map_cons, ← ev, ← tn32 (i := (n : Int)) ⟨by omega, by omega⟩] at this
  exact W.aald (v := va_rf (([90, 91, 92, 93][(Int32.ofInt (n : Int)).toNatClampNeg]?).map (zad G))) (ty := .array .int) C.1 C.2.1 (hP 89 _ e0) ((C.2.2.2.2.2.2.2.1.2 5 _ rfl).1 4 (fun j => va_rf (([90, 91, 92, 93][j]?).map (zad G)))) rfl (fun q => by cases q) (by show ¬ (_ < 0 ∨ (arrV _ _ _).slots.size ≤ _); rw [arrV_size]; exact hin) (arrV_read (zca G 5) (fun j => va_rf (([90, 91, 92, 93][j]?).map (zad G))) hlt) rfl rfl hd this
end More
theorem sr19 {b : Bd} : scr b 19 = true := by unfold scr; cases b.g <;> rfl
theorem sr20 {b : Bd} : scr b 20 = true := by unfold scr; cases b.g <;> rfl
theorem sr21 {b : Bd} : scr b 21 = true := by unfold scr; cases b.g <;> rfl
theorem sr22 {b : Bd} : scr b 22 = true := by unfold scr; cases b.g <;> rfl
theorem sr24 {b : Bd} : scr b 24 = true := by unfold scr; cases b.g <;> rfl
theorem sr25 {b : Bd} : scr b 25 = true := by unfold scr; cases b.g <;> rfl
theorem sr26 {b : Bd} : scr b 26 = true := by unfold scr; cases b.g <;> rfl
theorem sr27 {b : Bd} : scr b 27 = true := by unfold scr; cases b.g <;> rfl
theorem sr28 {b : Bd} : scr b 28 = true := by unfold scr; cases b.g <;> rfl
theorem sr29 {b : Bd} : scr b 29 = true := by unfold scr; cases b.g <;> rfl
theorem tb0 : tab[0]? = some (0, 12, [2+1, 2+2, 2+3, 2+4, 2+5, 2+6, 2+7, 2+8, 2+9, 2+10, 2+11, 0, 0, 0, 0, 0, 0, 0, 0, 0, 0, 0, 0, 0, 2+12, 0, 0, 0, 0, 0, 0, 0, 2+13, 2+14, 2+15, 2+16, 2+17, 2+18, 2+19, 2+20, 2+21, 2+22, 2+23, 2+24, 0, 0, 0, 0, 2+25, 2+26, 2+27, 2+28, 2+29, 0]) := rfl
theorem tb1 : tab[1]? = some (1, 0, [256]) := rfl
theorem tb2 : tab[2]? = some (1, 0, [768]) := rfl
theorem tb3 : tab[3]? = some (1, 0, [12]) := rfl
theorem tb4 : tab[4]? = some (1, 0, [13]) := rfl
theorem tb5 : tab[5]? = some (1, 0, [130]) := rfl
theorem tb6 : tab[6]? = some (1, 0, [256]) := rfl
theorem tb7 : tab[7]? = some (1, 0, [12]) := rfl
theorem tb8 : tab[8]? = some (1, 0, [13]) := rfl
theorem tb9 : tab[9]? = some (1, 0, [130]) := rfl
theorem tb10 : tab[10]? = some (1, 1, [256]) := rfl
theorem tb11 : tab[11]? = some (1, 1, [256]) := rfl
theorem tb12 : tab[12]? = some (1, 2, [140]) := rfl
theorem tb13 : tab[13]? = some (1, 0, [12]) := rfl
theorem tb14 : tab[14]? = some (1, 0, [13]) := rfl
theorem tb15 : tab[15]? = some (1, 0, [130]) := rfl
theorem tb16 : tab[16]? = some (1, 0, [6]) := rfl
theorem tb17 : tab[17]? = some (1, 0, [11520]) := rfl
theorem tb19 : tab[19]? = some (1, 0, [768]) := rfl
theorem tb20 : tab[20]? = some (1, 0, [9]) := rfl
theorem tb21 : tab[21]? = some (1, 0, [4]) := rfl
theorem tb22 : tab[22]? = some (1, 0, [1024]) := rfl
theorem tb23 : tab[23]? = some (1, 0, [130]) := rfl
theorem tb24 : tab[24]? = some (1, 1, [256]) := rfl
theorem tb25 : tab[25]? = some (1, 0, [256]) := rfl
theorem tb26 : tab[26]? = some (1, 0, [256]) := rfl
theorem tb27 : tab[27]? = some (1, 0, [256]) := rfl
theorem tb28 : tab[28]? = some (1, 0, [256]) := rfl
theorem tb29 : tab[29]? = some (1, 0, [256]) := rfl
theorem tb30 : tab[30]? = some (0, 11, [2+31, 2+33, 2+39, 2+41, 2+53, 2+54, 2+95, 2+98, 2+36, 2+45, 0, 0, 0]) := rfl
theorem tb31 : tab[31]? = some (0, 9, [2+32, 0]) := rfl
theorem tb32 : tab[32]? = some (1, 0, [140]) := rfl
theorem tb33 : tab[33]? = some (0, 5, [0, 0, 0, 2+34, 2+35]) := rfl
theorem tb34 : tab[34]? = some (1, 0, [256]) := rfl
theorem tb35 : tab[35]? = some (1, 0, [256]) := rfl
theorem tb36 : tab[36]? = some (0, 5, [0, 0, 0, 2+37, 2+38]) := rfl
theorem tb37 : tab[37]? = some (1, 0, [256]) := rfl
theorem tb38 : tab[38]? = some (1, 0, [256]) := rfl
theorem tb39 : tab[39]? = some (0, 10, [2+40, 0]) := rfl
theorem tb40 : tab[40]? = some (1, 0, [768]) := rfl
theorem tb41 : tab[41]? = some (0, 7, [0, 0, 2+42, 2+43, 2+44]) := rfl
theorem tb42 : tab[42]? = some (1, 0, [14]) := rfl
theorem tb43 : tab[43]? = some (1, 0, [14]) := rfl
theorem tb44 : tab[44]? = some (1, 0, [64]) := rfl
theorem tb45 : tab[45]? = some (0, 7, [0, 0, 2+46, 2+47, 2+48]) := rfl
theorem tb46 : tab[46]? = some (1, 0, [14]) := rfl
theorem tb47 : tab[47]? = some (1, 0, [14]) := rfl
theorem tb48 : tab[48]? = some (1, 0, [64]) := rfl
theorem tb49 : tab[49]? = some (0, 7, [0, 0, 2+50, 2+51, 2+52]) := rfl
theorem tb50 : tab[50]? = some (1, 0, [14]) := rfl
theorem tb51 : tab[51]? = some (1, 0, [14]) := rfl
theorem tb52 : tab[52]? = some (1, 0, [64]) := rfl
theorem tb53 : tab[53]? = some (0, 6, [2+49, 2+31, 0, 0, 0]) := rfl
theorem tb54 : tab[54]? = some (0, 1, [2+86, 2+87, 2+33, 2+41, 2+55, 2+69, 2+70, 0]) := rfl
theorem tb86 : tab[86]? = some (0, 2, [2+33]) := rfl
theorem tb87 : tab[87]? = some (0, 3, [0, 0, 0, 2+88, 2+89, 2+94, 2+33]) := rfl
theorem tb88 : tab[88]? = some (1, 0, [256]) := rfl
theorem tb94 : tab[94]? = some (1, 0, [9]) := rfl
theorem tb95 : tab[95]? = some (0, 4, [0, 0, 0, 0, 1, 1, 1, 0, 0, 2+96, 2+97, 2+33]) := rfl
theorem tb96 : tab[96]? = some (1, 0, [256]) := rfl
theorem tb97 : tab[97]? = some (2, 3, [64]) := rfl
theorem tb98 : tab[98]? = some (0, 0, [0, 0, 0, 2+99, 2+100, 2+101, 0, 2+33]) := rfl
theorem tb99 : tab[99]? = some (1, 0, [256]) := rfl
theorem tb100 : tab[100]? = some (1, 0, [256]) := rfl
theorem tb101 : tab[101]? = some (1, 0, [256]) := rfl
theorem vq0 : vwCl[0]? = some (RX0, TX0, 8) := rfl
theorem vq1 : vwCl[1]? = some (RX1, TX1, 8) := rfl
theorem vq2 : vwCl[2]? = some (RX2, TX2, 1) := rfl
theorem vq3 : vwCl[3]? = some (RX3, TX3, 7) := rfl
theorem vq4 : vwCl[4]? = some (RX4, TX4, 12) := rfl
theorem vq5 : vwCl[5]? = some (RX5, TX5, 5) := rfl
theorem vq6 : vwCl[6]? = some (RX6, TX6, 5) := rfl
theorem vq7 : vwCl[7]? = some (RX7, TX7, 5) := rfl
theorem vq8 : vwCl[8]? = some (RX8, TX8, 2) := rfl
theorem vq9 : vwCl[9]? = some (RX9, TX9, 2) := rfl
theorem vq10 : vwCl[10]? = some (RX10, TX10, 2) := rfl
theorem vq11 : vwCl[11]? = some (RX11, TX11, 13) := rfl
theorem vq12 : vwCl[12]? = some (RX12, TX12, 54) := rfl
