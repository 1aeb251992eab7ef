/-! the law's cases -/
/-- the ties of the two states: the tape's length, W, H, PHASE, whether anything is kept, and what then -/
def TI (h : Hp) : Prop := h 31 1 = h 0 25 ∧ (h 33 0 = h 0 11 ∧ h 33 1 = h 0 12 ∧ h 33 2 = h 0 13) ∧ h 30 11 = h 0 22 ∧ (h 0 22 ≠ 0 → h 36 0 = h 0 16 ∧ h 36 1 = h 0 17 ∧ h 36 2 = h 0 18)
theorem TI_of {h h' : Hp} (hT : TI h) (e_0_25 : h' 0 25 = h 0 25) (e_31_1 : h' 31 1 = h 31 1) (e_33_0 : h' 33 0 = h 33 0) (e_33_1 : h' 33 1 = h 33 1) (e_33_2 : h' 33 2 = h 33 2) (e_0_11 : h' 0 11 = h 0 11) (e_0_12 : h' 0 12 = h 0 12) (e_0_13 : h' 0 13 = h 0 13) (e_30_11 : h' 30 11 = h 30 11) (e_0_22 : h' 0 22 = h 0 22) (e_36_0 : h' 36 0 = h 36 0) (e_36_1 : h' 36 1 = h 36 1) (e_36_2 : h' 36 2 = h 36 2) (e_0_16 : h' 0 16 = h 0 16) (e_0_17 : h' 0 17 = h 0 17) (e_0_18 : h' 0 18 = h 0 18) : TI h' := by
  unfold TI at hT ⊢
  rw [e_0_25, e_31_1, e_33_0, e_33_1, e_33_2, e_0_11, e_0_12, e_0_13, e_30_11, e_0_22, e_36_0, e_36_1, e_36_2, e_0_16, e_0_17, e_0_18]
  exact hT
def TGA (h : Hp) : Prop := (∀ j : Nat, j < 256 → h 10 j = h 35 j ∧ ((h 0 11 ≤ ((j % 16 : Nat) : Int) ∨ h 0 12 ≤ ((j / 16 : Nat) : Int)) → h 10 j = 0) ∧ h 1 j = h 34 j) ∧ (h 0 22 ≠ 0 → ∀ j : Nat, j < 256 → h 11 j = h 38 j ∧ ((h 0 16 ≤ ((j % 16 : Nat) : Int) ∨ h 0 17 ≤ ((j / 16 : Nat) : Int)) → h 11 j = 0) ∧ h 6 j = h 37 j)
theorem TGA_of {h h' : Hp} (hG : TGA h) (e1 : ∀ j, h' 1 j = h 1 j) (e34 : ∀ j, h' 34 j = h 34 j) (e10 : ∀ j, h' 10 j = h 10 j) (e35 : ∀ j, h' 35 j = h 35 j) (e6 : ∀ j, h' 6 j = h 6 j) (e37 : ∀ j, h' 37 j = h 37 j) (e11 : ∀ j, h' 11 j = h 11 j) (e38 : ∀ j, h' 38 j = h 38 j) (f_0_11 : h' 0 11 = h 0 11) (f_0_12 : h' 0 12 = h 0 12) (f_0_16 : h' 0 16 = h 0 16) (f_0_17 : h' 0 17 = h 0 17) (f_0_22 : h' 0 22 = h 0 22) : TGA h' := by
  refine ⟨fun j hj => ?_, fun q j hj => ?_⟩
  · rw [e10 j, e35 j, e1 j, e34 j, f_0_11, f_0_12]; exact hG.1 j hj
  · rw [f_0_22] at q; rw [e11 j, e38 j, e6 j, e37 j, f_0_16, f_0_17]; exact hG.2 q j hj
def TGB (h : Hp) : Prop := ∀ j : Nat, (j : Int) < h 0 25 → h 32 j = h 12 j % 256
theorem TGB_of {h h' : Hp} (hG : TGB h) (e12 : ∀ j, h' 12 j = h 12 j) (e32 : ∀ j, h' 32 j = h 32 j) (f_0_25 : h' 0 25 = h 0 25) : TGB h' := by
  intro j hj
  rw [f_0_25] at hj
  rw [e32 j, e12 j]
  exact hG j hj
def TGC (h : Hp) : Prop := (h 0 15 = h 30 12 ∧ h 0 11 % 2 = 0 ∧ h 0 12 % 2 = 0) ∧ (h 0 22 ≠ 0 → h 0 20 = h 30 10 ∧ h 0 16 % 2 = 0 ∧ h 0 17 % 2 = 0)
theorem TGC_of {h h' : Hp} (hG : TGC h)  (f_0_15 : h' 0 15 = h 0 15) (f_30_12 : h' 30 12 = h 30 12) (f_0_11 : h' 0 11 = h 0 11) (f_0_12 : h' 0 12 = h 0 12) (f_0_20 : h' 0 20 = h 0 20) (f_30_10 : h' 30 10 = h 30 10) (f_0_16 : h' 0 16 = h 0 16) (f_0_17 : h' 0 17 = h 0 17) (f_0_22 : h' 0 22 = h 0 22) : TGC h' := by
  unfold TGC at hG ⊢
  rw [f_0_15, f_30_12, f_0_11, f_0_12, f_0_20, f_30_10, f_0_16, f_0_17, f_0_22]
  exact hG
def TGD (h : Hp) : Prop := h 41 0 = h 0 14 ∧ (h 0 22 ≠ 0 → h 45 0 = h 0 19)
theorem TGD_of {h h' : Hp} (hG : TGD h)  (f_41_0 : h' 41 0 = h 41 0) (f_0_14 : h' 0 14 = h 0 14) (f_45_0 : h' 45 0 = h 45 0) (f_0_19 : h' 0 19 = h 0 19) (f_0_22 : h' 0 22 = h 0 22) : TGD h' := by
  unfold TGD at hG ⊢
  rw [f_41_0, f_0_14, f_45_0, f_0_19, f_0_22]
  exact hG
def TGR (h : Hp) : Prop := TR (h 0 14) (fun k => h 42 (k + 1)) (fun k => h 43 (k + 1)) (h 44) (h 3) (h 4) (h 5) ∧ (h 0 22 ≠ 0 → TR (h 0 19) (fun k => h 46 (k + 1)) (fun k => h 47 (k + 1)) (h 48) (h 7) (h 8) (h 9))
theorem TGR_of {h h' : Hp} (hG : TGR h) (e3 : ∀ j, h' 3 j = h 3 j) (e4 : ∀ j, h' 4 j = h 4 j) (e5 : ∀ j, h' 5 j = h 5 j) (e7 : ∀ j, h' 7 j = h 7 j) (e8 : ∀ j, h' 8 j = h 8 j) (e9 : ∀ j, h' 9 j = h 9 j) (e42 : ∀ j, h' 42 j = h 42 j) (e43 : ∀ j, h' 43 j = h 43 j) (e44 : ∀ j, h' 44 j = h 44 j) (e46 : ∀ j, h' 46 j = h 46 j) (e47 : ∀ j, h' 47 j = h 47 j) (e48 : ∀ j, h' 48 j = h 48 j) (f_0_14 : h' 0 14 = h 0 14) (f_0_19 : h' 0 19 = h 0 19) (f_0_22 : h' 0 22 = h 0 22) : TGR h' := by
  unfold TGR at hG ⊢
  rw [show h' 3 = h 3 from funext e3, show h' 4 = h 4 from funext e4, show h' 5 = h 5 from funext e5, show h' 7 = h 7 from funext e7, show h' 8 = h 8 from funext e8, show h' 9 = h 9 from funext e9, show h' 42 = h 42 from funext e42, show h' 43 = h 43 from funext e43, show h' 44 = h 44 from funext e44, show h' 46 = h 46 from funext e46, show h' 47 = h 47 from funext e47, show h' 48 = h 48 from funext e48, f_0_14, f_0_19, f_0_22]
  exact hG
def TGV (h : Hp) : Prop := VOK (h 34) ∧ (h 0 22 ≠ 0 → VOK (h 37))
theorem TGV_of {h h' : Hp} (hG : TGV h) (e34 : ∀ j, h' 34 j = h 34 j) (e37 : ∀ j, h' 37 j = h 37 j) (f_0_22 : h' 0 22 = h 0 22) : TGV h' := by
  refine ⟨fun j hj => by rw [e34 j]; exact hG.1 j hj, fun q j hj => by rw [e37 j]; exact hG.2 (by rw [← f_0_22]; exact q) j hj⟩
def TGE (h : Hp) : Prop := EaOK (h 3) (h 0 14) ∧ (h 0 22 ≠ 0 → EaOK (h 7) (h 0 19))
theorem TGE_of {h h' : Hp} (hG : TGE h) (e3 : ∀ j, h' 3 j = h 3 j) (e7 : ∀ j, h' 7 j = h 7 j) (f_0_14 : h' 0 14 = h 0 14) (f_0_19 : h' 0 19 = h 0 19) (f_0_22 : h' 0 22 = h 0 22) : TGE h' := by
  refine ⟨by rw [f_0_14]; exact hG.1.cong (fun k _ => e3 k), fun q => by rw [f_0_19]; exact (hG.2 (by rw [← f_0_22]; exact q)).cong (fun k _ => e7 k)⟩
def TGS (h : Hp) : Prop := StOK (h 3) (h 4) (h 5) (h 0 14) ∧ (h 0 22 ≠ 0 → StOK (h 7) (h 8) (h 9) (h 0 19))
theorem TGS_of {h h' : Hp} (hG : TGS h) (e3 : ∀ j, h' 3 j = h 3 j) (e4 : ∀ j, h' 4 j = h 4 j) (e5 : ∀ j, h' 5 j = h 5 j) (e7 : ∀ j, h' 7 j = h 7 j) (e8 : ∀ j, h' 8 j = h 8 j) (e9 : ∀ j, h' 9 j = h 9 j) (f_0_14 : h' 0 14 = h 0 14) (f_0_19 : h' 0 19 = h 0 19) (f_0_22 : h' 0 22 = h 0 22) : TGS h' := by
  unfold TGS at hG ⊢
  rw [show h' 3 = h 3 from funext e3, show h' 4 = h 4 from funext e4, show h' 5 = h 5 from funext e5, show h' 7 = h 7 from funext e7, show h' 8 = h 8 from funext e8, show h' 9 = h 9 from funext e9, f_0_14, f_0_19, f_0_22]
  exact hG
def TGP (h : Hp) : Prop := PicRW h ∧ PicCW h
def TGF (h : Hp) : Prop := (0 ≤ h 41 1 ∧ h 41 1 ≤ h 0 14 ∧ ∀ j : Nat, (j : Int) < h 0 14 → (h 3 j = 102 ↔ (j : Int) + 1 = h 41 1)) ∧ (h 0 22 ≠ 0 → 0 ≤ h 45 1 ∧ h 45 1 ≤ h 0 19 ∧ ∀ j : Nat, (j : Int) < h 0 19 → (h 7 j = 102 ↔ (j : Int) + 1 = h 45 1))
theorem TGF_of {h h' : Hp} (hG : TGF h) (e3 : ∀ j, h' 3 j = h 3 j) (e7 : ∀ j, h' 7 j = h 7 j) (f_41_1 : h' 41 1 = h 41 1) (f_0_14 : h' 0 14 = h 0 14) (f_45_1 : h' 45 1 = h 45 1) (f_0_19 : h' 0 19 = h 0 19) (f_0_22 : h' 0 22 = h 0 22) : TGF h' := by
  refine ⟨⟨?_, ?_, fun j hj => ?_⟩, fun q => ?_⟩
  · rw [f_41_1]; exact hG.1.1
  · rw [f_41_1, f_0_14]; exact hG.1.2.1
  · rw [f_0_14] at hj; rw [e3 j, f_41_1]; exact hG.1.2.2 j hj
  · rw [f_0_22] at q; refine ⟨?_, ?_, fun j hj => ?_⟩
    · rw [f_45_1]; exact (hG.2 q).1
    · rw [f_45_1, f_0_19]; exact (hG.2 q).2.1
    · rw [f_0_19] at hj; rw [e7 j, f_45_1]; exact (hG.2 q).2.2 j hj
theorem zL_if_eq {Γ : Lc} {pc pc' tgt : Nat} {ls : Lo} {st : List Sv} {h : Hp} {a : Int} {off : Int} (hd : decode code pc = .ok (.ifCond .eq off, 3)) (ht : (pc : Int) + off = (tgt : Int)) (hn : pc + 3 = pc') (ha : rng a) (kt : a = 0 → zL Γ tgt ls st h) (kf : a ≠ 0 → zL Γ pc' ls st h) : zL Γ pc ls (.inl a :: st) h := by
  subst hn
  intro p e s m below meth c H locs lsA C hX hb hG h0 hP hS hL
  exact lv_if_eq C.1 C.2.1 hd ht (fun q => kt ((eq32 ha zr0).mp q) p e s m below meth c H locs lsA C hX hb hG h0 hP hS hL) (fun q => kf (fun z => q ((eq32 ha zr0).mpr z)) p e s m below meth c H locs lsA C hX hb hG h0 hP hS hL)
theorem scF_b {k a b W H P s x y : Int} (ha : 0 ≤ a ∧ a ≤ 255) (hb : 0 ≤ b ∧ b ≤ 255) : 0 ≤ scF k a b W H P s x y ∧ scF k a b W H P s x y ≤ 255 := by
  unfold scF
  repeat' split
  all_goals omega
theorem trF_b {k f s W H x y : Int} (hf : 0 ≤ f ∧ f ≤ 255) (hs : 0 ≤ s ∧ s ≤ 255) (hx : 0 ≤ x ∧ x < W) (hW : 4 ≤ W) : 0 ≤ trF k f s W H x y ∧ trF k f s W H x y ≤ 255 := by
  have key : 0 ≤ f + ((s - f) * x).tdiv (W - 1) ∧ f + ((s - f) * x).tdiv (W - 1) ≤ 255 := by
    have hd : 0 < W - 1 := by omega
    rcases Int.le_total f s with q | q
    · have n : 0 ≤ (s - f) * x := Int.mul_nonneg (by omega) hx.1
      have l : (s - f) * x ≤ (s - f) * (W - 1) := Int.mul_le_mul_of_nonneg_left (by omega) (by omega)
      have e : ((s - f) * x).tdiv (W - 1) = ((s - f) * x) / (W - 1) := Int.tdiv_eq_ediv_of_nonneg n
      have a := Int.ediv_nonneg n (Int.le_of_lt hd)
      have b := Int.ediv_le_of_le_mul hd l
      rw [e]; omega
    · have n : 0 ≤ (f - s) * x := Int.mul_nonneg (by omega) hx.1
      have l : (f - s) * x ≤ (f - s) * (W - 1) := Int.mul_le_mul_of_nonneg_left (by omega) (by omega)
      have e : ((s - f) * x).tdiv (W - 1) = -(((f - s) * x) / (W - 1)) := by
        rw [show (s - f) * x = -((f - s) * x) by rw [← Int.neg_mul]; congr 1; omega, Int.neg_tdiv, Int.tdiv_eq_ediv_of_nonneg n]
      have a := Int.ediv_nonneg n (Int.le_of_lt hd)
      have b := Int.ediv_le_of_le_mul hd l
      rw [e]; omega
  unfold trF
  repeat' split
  all_goals first | exact hf | exact hs | exact key
theorem trT_b {k W H : Int} {tp : Nat → Int} {c j : Nat} (hc : c ≤ 2) (hj : j < 256) (hx : ((j % 16 : Nat) : Int) < W) (hW : 4 ≤ W) (ht : ∀ i, i < 6 → 0 ≤ tp i ∧ tp i ≤ 255) : 0 ≤ trT k W H tp (256 * c + j) ∧ trT k W H tp (256 * c + j) ≤ 255 := by
  unfold trT
  have e1 : (256 * c + j) / 256 = c := by omega
  have e2 : (256 * c + j) % 16 = j % 16 := by omega
  rw [e1, e2]
  exact trF_b (ht _ (by omega)) (ht _ (by omega)) ⟨by omega, hx⟩ hW
theorem KRk8 {κ : Hp} (h : KR κ) : ∀ j, 0 ≤ κ 8 j ∧ κ 8 j ≤ 120 := h.2.2.2.2.2.2.2.2.2.2.2.2.2.2.2.2.1
theorem IPW_of {h : Hp} (hR : KR h) (hC : KC h) (hT : TI h) (gA : TGA h) (gV : TGV h) (gE : TGE h) (gS : TGS h) (gD : TGD h) (gR : TGR h) (gP : TGP h) : IPW h := by
  refine ⟨⟨gP.1, gP.2⟩, ⟨fun j hj => ?_, gV.1⟩, ⟨gE.1, ?_⟩, RecW_of hR hC gR.1 gD.1 gS.1, (KRm hR).2, (KCm hC).2, (KRw hR).2, (KRh hR).2, (KRp hR).1, gS.1⟩
  · rw [(gA.1 j hj).2.2]; exact gV.1 j hj
  · rw [gD.1]; exact gE.1.cong (fun k hk => gR.1.1 k hk)
theorem tieW {α : Type} (Q : Int → Int → Int → Int → (Int → Int) → (Int → Int) → (Int → P3) → (Int → Nat → Int) → α) {h h1 : Hp} (e : ∀ k i, key k i = true → inW ([] : List (Nat × Nat)) k i = false → h1 k i = h k i) (hR : KR h) (hT : TI h) (gA : TGA h) (gD : TGD h) (gR : TGR h) : Q (h 33 0) (h 33 1) (h 33 2) (h 41 0) (ltV (LC h) (h 41 0)) (bhV (LC h) (h 41 0)) (pcV (h 41 0) (PFc h)) (nmV (h 41 0) (XNc h)) = Q (h1 0 11) (h1 0 12) (h1 0 13) (h1 0 14) (ltV (h1 3) (h1 0 14)) (bhV (h1 3) (h1 0 14)) (pcV (h1 0 14) (PF h1)) (nmV (h1 0 14) (XN (h1 4) (h1 5))) :=
  cx_eq Q (fun k i hk => e k i hk rfl) hR hT.2.1.1 hT.2.1.2.1 hT.2.1.2.2 gD.1 (fun j hj => (gA.1 j hj).2.2.symm) (fun j hj => (gA.1 j hj).1.symm) gR.1
theorem hfB_of {h : Hp} (gD : TGD h) (gR : TGR h) (gF : TGF h) : ∀ k : Nat, (k : Int) ≤ h 41 0 → ((0 < h 41 1 ∧ h 41 1 ≤ (k : Int)) ↔ bhI (LC h) k = 1) := fun k hk => by
  have e := gD.1
  obtain ⟨f1, f2, f3⟩ := gF.1
  have l : ∀ j : Nat, (j : Int) < h 0 14 → (LC h j = 102 ↔ (j : Int) + 1 = h 41 1) := fun j hj => by
    have z := gR.1.1 j hj
    show h 42 (j + 1) = 102 ↔ _
    rw [show h 42 (j + 1) = h 3 j from z]
    exact f3 j hj
  rcases bhI_c (LC h) k with ⟨a, b⟩ | ⟨a, b⟩
  · rw [a]
    refine ⟨fun q => ?_, fun q => by omega⟩
    exact absurd ((l (h 41 1 - 1).toNat (by omega)).mpr (by omega)) (b _ (by omega))
  · rw [a]
    refine ⟨fun _ => rfl, fun _ => ?_⟩
    by_cases c : 0 < h 41 1 ∧ h 41 1 ≤ (k : Int)
    · exact c
    · exact absurd (fun j hj q => by have z := (l j (by omega)).mp q; omega) b

abbrev lsL (i : Int) : Lo := [some (.inr (.inr 110)), some (.inr (.inr 30)), some (.inr (.inr 0)), some (.inl i)]
theorem zL_sldE {Γ : Lc} {pc pc' : Nat} {ls : Lo} {st : List Sv} {h : Hp} {i : Int} (hi : 0 ≤ i ∧ i < Γ.2.2.1) (hm : Γ.2.2.1 < 2147483648) (hd : decode code pc = .ok (.iaload, 1)) (hn : pc + 1 = pc') (kk : ∀ v : Int, rng v → v = (Γ.2.2.2.1 i.toNat).toInt → zL Γ pc' ls (.inl v :: st) h) : zL Γ pc ls (.inl i :: .inr (.inr 110) :: st) h := by
  subst hn
  intro p e s m below meth c H locs lsA C hX hb hG h0 hP hS hL
  have hA : ¬ zA Γ.1 Γ.2.1 := fun ⟨k, h1, h2⟩ => by have := hG k h1; omega
  have hst : List.map (dn (zad Γ.1)) (.inl i :: .inr (.inr 110) :: st) = .int (Int32.ofInt i) :: .ref Γ.2.1 :: st.map (dn (zad Γ.1)) := by rw [← h0]; rfl
  rw [hst]
  exact va_sld C.1 C.2.1 hX hb hA hS (vin32 hi hm) hd (zL_any32 C hX hb hG h0 hP hS hL (kk _ (rg32 _) (by rw [tn32 ⟨hi.1, by omega⟩])))
