/-! calls that change what is kept: the frame by a list of places -/
def inW (L : List (Nat × Nat)) (k i : Nat) : Bool := L.any (fun p => p.1 == k && (p.2 == i || p.2 == 999))
theorem inW_sub {L L' : List (Nat × Nat)} (h : L'.all (fun p => L.contains p) = true) {k i : Nat} (hw : inW L k i = false) : inW L' k i = false := by
  cases e : inW L' k i with
  | false => rfl
  | true =>
    unfold inW at e hw
    obtain ⟨p, hp, hq⟩ := List.any_eq_true.mp e
    have h1 := List.all_eq_true.mp h p hp
    have h2 : p ∈ L := List.contains_iff_mem.mp h1
    have h3 : (L.any (fun p => p.1 == k && (p.2 == i || p.2 == 999))) = true := List.any_eq_true.mpr ⟨p, h2, hq⟩
    rw [h3] at hw
    cases hw
theorem dpn_k {k i : Nat} (h : key k i = true) : dpn k i = true := by
  unfold dpn
  rw [h]
  rfl
def Fm (L : List (Nat × Nat)) (κ h : Hp) : Prop := (∀ k i, dpn k i = true → inW L k i = false → h k i = κ k i) ∧ SI h ∧ KR h ∧ KC h
theorem Fm.rf {L : List (Nat × Nat)} {h : Hp} (hS : SI h) (hR : KR h) (hC : KC h) : Fm L h h := ⟨fun _ _ _ _ => rfl, hS, hR, hC⟩
theorem Fm.tr {L L' : List (Nat × Nat)} {κ h h' : Hp} (h1 : Fm L κ h) (h2 : Fm L' h h') (hs : L'.all (fun p => L.contains p) = true) : Fm L κ h' := ⟨fun k i hk hw => (h2.1 k i hk (inW_sub hs hw)).trans (h1.1 k i hk hw), h2.2⟩
/-- places that KR speaks of -/
def mR (k i : Nat) : Bool := (k == 0 && (i == 11 || i == 12 || i == 13 || i == 14 || i == 15 || i == 16 || i == 17 || i == 18 || i == 19 || i == 20 || i == 21 || i == 22 || i == 25)) || k == 3 || k == 4 || k == 5 || k == 7 || k == 8 || k == 9 || k == 10 || k == 11 || k == 14 || k == 15
theorem zfun {h : Hp} {k i k' : Nat} {v : Int} (hk : k' ≠ k) : zwr h k i v k' = h k' := funext fun _ => zwr_ne (Or.inl hk)
theorem KR_irr {h : Hp} {k i : Nat} {v : Int} (hK : KR h) (hm : mR k i = false) : KR (zwr h k i v) := by
  have hc : ∀ j, (j = 3 ∨ j = 4 ∨ j = 5 ∨ j = 7 ∨ j = 8 ∨ j = 9 ∨ j = 10 ∨ j = 11 ∨ j = 14 ∨ j = 15) → j ≠ k := by
    intro j hj q
    subst q
    unfold mR at hm
    rcases hj with rfl | rfl | rfl | rfl | rfl | rfl | rfl | rfl | rfl | rfl <;> simp at hm
  have hf : ∀ j, (j = 11 ∨ j = 12 ∨ j = 13 ∨ j = 14 ∨ j = 15 ∨ j = 16 ∨ j = 17 ∨ j = 18 ∨ j = 19 ∨ j = 20 ∨ j = 21 ∨ j = 22 ∨ j = 25) → (0 ≠ k ∨ j ≠ i) := by
    intro j hj
    by_cases e : 0 = k
    · refine Or.inr (fun q => ?_)
      subst e
      subst q
      unfold mR at hm
      rcases hj with rfl | rfl | rfl | rfl | rfl | rfl | rfl | rfl | rfl | rfl | rfl | rfl | rfl <;> simp at hm
    · exact Or.inl e
  unfold KR at hK ⊢
  rw [zfun (hc 3 (by omega)), zfun (hc 4 (by omega)), zfun (hc 5 (by omega)), zfun (hc 7 (by omega)), zfun (hc 8 (by omega)), zfun (hc 9 (by omega)), zfun (hc 10 (by omega)), zfun (hc 11 (by omega)), zfun (hc 14 (by omega)), zfun (hc 15 (by omega)),
    zwr_ne (hf 11 (by omega)), zwr_ne (hf 12 (by omega)), zwr_ne (hf 13 (by omega)), zwr_ne (hf 14 (by omega)), zwr_ne (hf 15 (by omega)), zwr_ne (hf 16 (by omega)), zwr_ne (hf 17 (by omega)), zwr_ne (hf 18 (by omega)), zwr_ne (hf 19 (by omega)), zwr_ne (hf 20 (by omega)), zwr_ne (hf 21 (by omega)), zwr_ne (hf 22 (by omega)), zwr_ne (hf 25 (by omega))]
  exact hK
theorem KR_cell {h : Hp} {k i : Nat} {v lo hi : Int} (hb : ∀ j, lo ≤ h k j ∧ h k j ≤ hi) (hv : lo ≤ v ∧ v ≤ hi) : ∀ j, lo ≤ zwr h k i v k j ∧ zwr h k i v k j ≤ hi := by
  intro j
  by_cases e : j = i
  · subst e
    rw [zwr_eq]
    exact hv
  · rw [zwr_ne (Or.inr e)]
    exact hb j
theorem KR_11 {h : Hp} {v : Int} (hK : KR h) (hv : 4 ≤ v ∧ v ≤ 16) : KR (zwr h 0 11 v) := by
  unfold KR at hK ⊢
  rw [zwr_eq, zfun (h := h) (k := 0) (i := 11) (v := v) (by decide : (3 : Nat) ≠ 0), zfun (h := h) (k := 0) (i := 11) (v := v) (by decide : (4 : Nat) ≠ 0), zfun (h := h) (k := 0) (i := 11) (v := v) (by decide : (5 : Nat) ≠ 0), zfun (h := h) (k := 0) (i := 11) (v := v) (by decide : (7 : Nat) ≠ 0), zfun (h := h) (k := 0) (i := 11) (v := v) (by decide : (8 : Nat) ≠ 0), zfun (h := h) (k := 0) (i := 11) (v := v) (by decide : (9 : Nat) ≠ 0), zfun (h := h) (k := 0) (i := 11) (v := v) (by decide : (10 : Nat) ≠ 0), zfun (h := h) (k := 0) (i := 11) (v := v) (by decide : (11 : Nat) ≠ 0), zfun (h := h) (k := 0) (i := 11) (v := v) (by decide : (14 : Nat) ≠ 0), zfun (h := h) (k := 0) (i := 11) (v := v) (by decide : (15 : Nat) ≠ 0), zwr_ne (h := h) (k := 0) (i := 11) (v := v) (Or.inr (by decide : (12 : Nat) ≠ 11)), zwr_ne (h := h) (k := 0) (i := 11) (v := v) (Or.inr (by decide : (13 : Nat) ≠ 11)), zwr_ne (h := h) (k := 0) (i := 11) (v := v) (Or.inr (by decide : (14 : Nat) ≠ 11)), zwr_ne (h := h) (k := 0) (i := 11) (v := v) (Or.inr (by decide : (15 : Nat) ≠ 11)), zwr_ne (h := h) (k := 0) (i := 11) (v := v) (Or.inr (by decide : (16 : Nat) ≠ 11)), zwr_ne (h := h) (k := 0) (i := 11) (v := v) (Or.inr (by decide : (17 : Nat) ≠ 11)), zwr_ne (h := h) (k := 0) (i := 11) (v := v) (Or.inr (by decide : (18 : Nat) ≠ 11)), zwr_ne (h := h) (k := 0) (i := 11) (v := v) (Or.inr (by decide : (19 : Nat) ≠ 11)), zwr_ne (h := h) (k := 0) (i := 11) (v := v) (Or.inr (by decide : (20 : Nat) ≠ 11)), zwr_ne (h := h) (k := 0) (i := 11) (v := v) (Or.inr (by decide : (21 : Nat) ≠ 11)), zwr_ne (h := h) (k := 0) (i := 11) (v := v) (Or.inr (by decide : (22 : Nat) ≠ 11)), zwr_ne (h := h) (k := 0) (i := 11) (v := v) (Or.inr (by decide : (25 : Nat) ≠ 11))]
  obtain ⟨a0, a1, a2, a3, a4, a5, a6, a7, a8, a9, a10, a11, a12, a13, a14, a15, a16, a17⟩ := hK
  exact ⟨hv, a1, a2, a3, a4, a5, a6, a7, a8, a9, a10, a11, a12, a13, a14, a15, a16, a17⟩
theorem KR_12 {h : Hp} {v : Int} (hK : KR h) (hv : 4 ≤ v ∧ v ≤ 16) : KR (zwr h 0 12 v) := by
  unfold KR at hK ⊢
  rw [zwr_eq, zfun (h := h) (k := 0) (i := 12) (v := v) (by decide : (3 : Nat) ≠ 0), zfun (h := h) (k := 0) (i := 12) (v := v) (by decide : (4 : Nat) ≠ 0), zfun (h := h) (k := 0) (i := 12) (v := v) (by decide : (5 : Nat) ≠ 0), zfun (h := h) (k := 0) (i := 12) (v := v) (by decide : (7 : Nat) ≠ 0), zfun (h := h) (k := 0) (i := 12) (v := v) (by decide : (8 : Nat) ≠ 0), zfun (h := h) (k := 0) (i := 12) (v := v) (by decide : (9 : Nat) ≠ 0), zfun (h := h) (k := 0) (i := 12) (v := v) (by decide : (10 : Nat) ≠ 0), zfun (h := h) (k := 0) (i := 12) (v := v) (by decide : (11 : Nat) ≠ 0), zfun (h := h) (k := 0) (i := 12) (v := v) (by decide : (14 : Nat) ≠ 0), zfun (h := h) (k := 0) (i := 12) (v := v) (by decide : (15 : Nat) ≠ 0), zwr_ne (h := h) (k := 0) (i := 12) (v := v) (Or.inr (by decide : (11 : Nat) ≠ 12)), zwr_ne (h := h) (k := 0) (i := 12) (v := v) (Or.inr (by decide : (13 : Nat) ≠ 12)), zwr_ne (h := h) (k := 0) (i := 12) (v := v) (Or.inr (by decide : (14 : Nat) ≠ 12)), zwr_ne (h := h) (k := 0) (i := 12) (v := v) (Or.inr (by decide : (15 : Nat) ≠ 12)), zwr_ne (h := h) (k := 0) (i := 12) (v := v) (Or.inr (by decide : (16 : Nat) ≠ 12)), zwr_ne (h := h) (k := 0) (i := 12) (v := v) (Or.inr (by decide : (17 : Nat) ≠ 12)), zwr_ne (h := h) (k := 0) (i := 12) (v := v) (Or.inr (by decide : (18 : Nat) ≠ 12)), zwr_ne (h := h) (k := 0) (i := 12) (v := v) (Or.inr (by decide : (19 : Nat) ≠ 12)), zwr_ne (h := h) (k := 0) (i := 12) (v := v) (Or.inr (by decide : (20 : Nat) ≠ 12)), zwr_ne (h := h) (k := 0) (i := 12) (v := v) (Or.inr (by decide : (21 : Nat) ≠ 12)), zwr_ne (h := h) (k := 0) (i := 12) (v := v) (Or.inr (by decide : (22 : Nat) ≠ 12)), zwr_ne (h := h) (k := 0) (i := 12) (v := v) (Or.inr (by decide : (25 : Nat) ≠ 12))]
  obtain ⟨a0, a1, a2, a3, a4, a5, a6, a7, a8, a9, a10, a11, a12, a13, a14, a15, a16, a17⟩ := hK
  exact ⟨a0, hv, a2, a3, a4, a5, a6, a7, a8, a9, a10, a11, a12, a13, a14, a15, a16, a17⟩
theorem KR_13 {h : Hp} {v : Int} (hK : KR h) (hv : 0 ≤ v ∧ v ≤ 3) : KR (zwr h 0 13 v) := by
  unfold KR at hK ⊢
  rw [zwr_eq, zfun (h := h) (k := 0) (i := 13) (v := v) (by decide : (3 : Nat) ≠ 0), zfun (h := h) (k := 0) (i := 13) (v := v) (by decide : (4 : Nat) ≠ 0), zfun (h := h) (k := 0) (i := 13) (v := v) (by decide : (5 : Nat) ≠ 0), zfun (h := h) (k := 0) (i := 13) (v := v) (by decide : (7 : Nat) ≠ 0), zfun (h := h) (k := 0) (i := 13) (v := v) (by decide : (8 : Nat) ≠ 0), zfun (h := h) (k := 0) (i := 13) (v := v) (by decide : (9 : Nat) ≠ 0), zfun (h := h) (k := 0) (i := 13) (v := v) (by decide : (10 : Nat) ≠ 0), zfun (h := h) (k := 0) (i := 13) (v := v) (by decide : (11 : Nat) ≠ 0), zfun (h := h) (k := 0) (i := 13) (v := v) (by decide : (14 : Nat) ≠ 0), zfun (h := h) (k := 0) (i := 13) (v := v) (by decide : (15 : Nat) ≠ 0), zwr_ne (h := h) (k := 0) (i := 13) (v := v) (Or.inr (by decide : (11 : Nat) ≠ 13)), zwr_ne (h := h) (k := 0) (i := 13) (v := v) (Or.inr (by decide : (12 : Nat) ≠ 13)), zwr_ne (h := h) (k := 0) (i := 13) (v := v) (Or.inr (by decide : (14 : Nat) ≠ 13)), zwr_ne (h := h) (k := 0) (i := 13) (v := v) (Or.inr (by decide : (15 : Nat) ≠ 13)), zwr_ne (h := h) (k := 0) (i := 13) (v := v) (Or.inr (by decide : (16 : Nat) ≠ 13)), zwr_ne (h := h) (k := 0) (i := 13) (v := v) (Or.inr (by decide : (17 : Nat) ≠ 13)), zwr_ne (h := h) (k := 0) (i := 13) (v := v) (Or.inr (by decide : (18 : Nat) ≠ 13)), zwr_ne (h := h) (k := 0) (i := 13) (v := v) (Or.inr (by decide : (19 : Nat) ≠ 13)), zwr_ne (h := h) (k := 0) (i := 13) (v := v) (Or.inr (by decide : (20 : Nat) ≠ 13)), zwr_ne (h := h) (k := 0) (i := 13) (v := v) (Or.inr (by decide : (21 : Nat) ≠ 13)), zwr_ne (h := h) (k := 0) (i := 13) (v := v) (Or.inr (by decide : (22 : Nat) ≠ 13)), zwr_ne (h := h) (k := 0) (i := 13) (v := v) (Or.inr (by decide : (25 : Nat) ≠ 13))]
  obtain ⟨a0, a1, a2, a3, a4, a5, a6, a7, a8, a9, a10, a11, a12, a13, a14, a15, a16, a17⟩ := hK
  exact ⟨a0, a1, hv, a3, a4, a5, a6, a7, a8, a9, a10, a11, a12, a13, a14, a15, a16, a17⟩
theorem KR_15 {h : Hp} {v : Int} (hK : KR h) (hv : 0 ≤ v ∧ v ≤ 65535) : KR (zwr h 0 15 v) := by
  unfold KR at hK ⊢
  rw [zwr_eq, zfun (h := h) (k := 0) (i := 15) (v := v) (by decide : (3 : Nat) ≠ 0), zfun (h := h) (k := 0) (i := 15) (v := v) (by decide : (4 : Nat) ≠ 0), zfun (h := h) (k := 0) (i := 15) (v := v) (by decide : (5 : Nat) ≠ 0), zfun (h := h) (k := 0) (i := 15) (v := v) (by decide : (7 : Nat) ≠ 0), zfun (h := h) (k := 0) (i := 15) (v := v) (by decide : (8 : Nat) ≠ 0), zfun (h := h) (k := 0) (i := 15) (v := v) (by decide : (9 : Nat) ≠ 0), zfun (h := h) (k := 0) (i := 15) (v := v) (by decide : (10 : Nat) ≠ 0), zfun (h := h) (k := 0) (i := 15) (v := v) (by decide : (11 : Nat) ≠ 0), zfun (h := h) (k := 0) (i := 15) (v := v) (by decide : (14 : Nat) ≠ 0), zfun (h := h) (k := 0) (i := 15) (v := v) (by decide : (15 : Nat) ≠ 0), zwr_ne (h := h) (k := 0) (i := 15) (v := v) (Or.inr (by decide : (11 : Nat) ≠ 15)), zwr_ne (h := h) (k := 0) (i := 15) (v := v) (Or.inr (by decide : (12 : Nat) ≠ 15)), zwr_ne (h := h) (k := 0) (i := 15) (v := v) (Or.inr (by decide : (13 : Nat) ≠ 15)), zwr_ne (h := h) (k := 0) (i := 15) (v := v) (Or.inr (by decide : (14 : Nat) ≠ 15)), zwr_ne (h := h) (k := 0) (i := 15) (v := v) (Or.inr (by decide : (16 : Nat) ≠ 15)), zwr_ne (h := h) (k := 0) (i := 15) (v := v) (Or.inr (by decide : (17 : Nat) ≠ 15)), zwr_ne (h := h) (k := 0) (i := 15) (v := v) (Or.inr (by decide : (18 : Nat) ≠ 15)), zwr_ne (h := h) (k := 0) (i := 15) (v := v) (Or.inr (by decide : (19 : Nat) ≠ 15)), zwr_ne (h := h) (k := 0) (i := 15) (v := v) (Or.inr (by decide : (20 : Nat) ≠ 15)), zwr_ne (h := h) (k := 0) (i := 15) (v := v) (Or.inr (by decide : (21 : Nat) ≠ 15)), zwr_ne (h := h) (k := 0) (i := 15) (v := v) (Or.inr (by decide : (22 : Nat) ≠ 15)), zwr_ne (h := h) (k := 0) (i := 15) (v := v) (Or.inr (by decide : (25 : Nat) ≠ 15))]
  obtain ⟨a0, a1, a2, a3, a4, a5, a6, a7, a8, a9, a10, a11, a12, a13, a14, a15, a16, a17⟩ := hK
  exact ⟨a0, a1, a2, a3, hv, a5, a6, a7, a8, a9, a10, a11, a12, a13, a14, a15, a16, a17⟩
theorem KR_25 {h : Hp} {v : Int} (hK : KR h) (hv : 0 ≤ v ∧ v ≤ 140) : KR (zwr h 0 25 v) := by
  unfold KR at hK ⊢
  rw [zwr_eq, zfun (h := h) (k := 0) (i := 25) (v := v) (by decide : (3 : Nat) ≠ 0), zfun (h := h) (k := 0) (i := 25) (v := v) (by decide : (4 : Nat) ≠ 0), zfun (h := h) (k := 0) (i := 25) (v := v) (by decide : (5 : Nat) ≠ 0), zfun (h := h) (k := 0) (i := 25) (v := v) (by decide : (7 : Nat) ≠ 0), zfun (h := h) (k := 0) (i := 25) (v := v) (by decide : (8 : Nat) ≠ 0), zfun (h := h) (k := 0) (i := 25) (v := v) (by decide : (9 : Nat) ≠ 0), zfun (h := h) (k := 0) (i := 25) (v := v) (by decide : (10 : Nat) ≠ 0), zfun (h := h) (k := 0) (i := 25) (v := v) (by decide : (11 : Nat) ≠ 0), zfun (h := h) (k := 0) (i := 25) (v := v) (by decide : (14 : Nat) ≠ 0), zfun (h := h) (k := 0) (i := 25) (v := v) (by decide : (15 : Nat) ≠ 0), zwr_ne (h := h) (k := 0) (i := 25) (v := v) (Or.inr (by decide : (11 : Nat) ≠ 25)), zwr_ne (h := h) (k := 0) (i := 25) (v := v) (Or.inr (by decide : (12 : Nat) ≠ 25)), zwr_ne (h := h) (k := 0) (i := 25) (v := v) (Or.inr (by decide : (13 : Nat) ≠ 25)), zwr_ne (h := h) (k := 0) (i := 25) (v := v) (Or.inr (by decide : (14 : Nat) ≠ 25)), zwr_ne (h := h) (k := 0) (i := 25) (v := v) (Or.inr (by decide : (15 : Nat) ≠ 25)), zwr_ne (h := h) (k := 0) (i := 25) (v := v) (Or.inr (by decide : (16 : Nat) ≠ 25)), zwr_ne (h := h) (k := 0) (i := 25) (v := v) (Or.inr (by decide : (17 : Nat) ≠ 25)), zwr_ne (h := h) (k := 0) (i := 25) (v := v) (Or.inr (by decide : (18 : Nat) ≠ 25)), zwr_ne (h := h) (k := 0) (i := 25) (v := v) (Or.inr (by decide : (19 : Nat) ≠ 25)), zwr_ne (h := h) (k := 0) (i := 25) (v := v) (Or.inr (by decide : (20 : Nat) ≠ 25)), zwr_ne (h := h) (k := 0) (i := 25) (v := v) (Or.inr (by decide : (21 : Nat) ≠ 25)), zwr_ne (h := h) (k := 0) (i := 25) (v := v) (Or.inr (by decide : (22 : Nat) ≠ 25))]
  obtain ⟨a0, a1, a2, a3, a4, a5, a6, a7, a8, a9, a10, a11, a12, a13, a14, a15, a16, a17⟩ := hK
  exact ⟨a0, a1, a2, a3, a4, hv, a6, a7, a8, a9, a10, a11, a12, a13, a14, a15, a16, a17⟩
theorem KR_21 {h : Hp} {v : Int} (hK : KR h) (hv : 0 ≤ v ∧ v ≤ 1) : KR (zwr h 0 21 v) := by
  unfold KR at hK ⊢
  rw [zwr_eq, zfun (h := h) (k := 0) (i := 21) (v := v) (by decide : (3 : Nat) ≠ 0), zfun (h := h) (k := 0) (i := 21) (v := v) (by decide : (4 : Nat) ≠ 0), zfun (h := h) (k := 0) (i := 21) (v := v) (by decide : (5 : Nat) ≠ 0), zfun (h := h) (k := 0) (i := 21) (v := v) (by decide : (7 : Nat) ≠ 0), zfun (h := h) (k := 0) (i := 21) (v := v) (by decide : (8 : Nat) ≠ 0), zfun (h := h) (k := 0) (i := 21) (v := v) (by decide : (9 : Nat) ≠ 0), zfun (h := h) (k := 0) (i := 21) (v := v) (by decide : (10 : Nat) ≠ 0), zfun (h := h) (k := 0) (i := 21) (v := v) (by decide : (11 : Nat) ≠ 0), zfun (h := h) (k := 0) (i := 21) (v := v) (by decide : (14 : Nat) ≠ 0), zfun (h := h) (k := 0) (i := 21) (v := v) (by decide : (15 : Nat) ≠ 0), zwr_ne (h := h) (k := 0) (i := 21) (v := v) (Or.inr (by decide : (11 : Nat) ≠ 21)), zwr_ne (h := h) (k := 0) (i := 21) (v := v) (Or.inr (by decide : (12 : Nat) ≠ 21)), zwr_ne (h := h) (k := 0) (i := 21) (v := v) (Or.inr (by decide : (13 : Nat) ≠ 21)), zwr_ne (h := h) (k := 0) (i := 21) (v := v) (Or.inr (by decide : (14 : Nat) ≠ 21)), zwr_ne (h := h) (k := 0) (i := 21) (v := v) (Or.inr (by decide : (15 : Nat) ≠ 21)), zwr_ne (h := h) (k := 0) (i := 21) (v := v) (Or.inr (by decide : (16 : Nat) ≠ 21)), zwr_ne (h := h) (k := 0) (i := 21) (v := v) (Or.inr (by decide : (17 : Nat) ≠ 21)), zwr_ne (h := h) (k := 0) (i := 21) (v := v) (Or.inr (by decide : (18 : Nat) ≠ 21)), zwr_ne (h := h) (k := 0) (i := 21) (v := v) (Or.inr (by decide : (19 : Nat) ≠ 21)), zwr_ne (h := h) (k := 0) (i := 21) (v := v) (Or.inr (by decide : (20 : Nat) ≠ 21)), zwr_ne (h := h) (k := 0) (i := 21) (v := v) (Or.inr (by decide : (22 : Nat) ≠ 21)), zwr_ne (h := h) (k := 0) (i := 21) (v := v) (Or.inr (by decide : (25 : Nat) ≠ 21))]
  obtain ⟨a0, a1, a2, a3, a4, a5, a6, a7, a8, a9, a10, a11, a12, a13, a14, a15, a16, a17⟩ := hK
  exact ⟨a0, a1, a2, a3, a4, a5, a6, a7, hv, a9, a10, a11, a12, a13, a14, a15, a16, a17⟩
theorem KR_c10 {h : Hp} {i : Nat} {v : Int} (hK : KR h) (hv : 0 ≤ v ∧ v ≤ 1) : KR (zwr h 10 i v) := by
  unfold KR at hK ⊢
  rw [zfun (h := h) (k := 10) (i := i) (v := v) (by decide : (3 : Nat) ≠ 10), zfun (h := h) (k := 10) (i := i) (v := v) (by decide : (4 : Nat) ≠ 10), zfun (h := h) (k := 10) (i := i) (v := v) (by decide : (5 : Nat) ≠ 10), zfun (h := h) (k := 10) (i := i) (v := v) (by decide : (7 : Nat) ≠ 10), zfun (h := h) (k := 10) (i := i) (v := v) (by decide : (8 : Nat) ≠ 10), zfun (h := h) (k := 10) (i := i) (v := v) (by decide : (9 : Nat) ≠ 10), zfun (h := h) (k := 10) (i := i) (v := v) (by decide : (11 : Nat) ≠ 10), zfun (h := h) (k := 10) (i := i) (v := v) (by decide : (14 : Nat) ≠ 10), zfun (h := h) (k := 10) (i := i) (v := v) (by decide : (15 : Nat) ≠ 10), zwr_ne (h := h) (k := 10) (i := i) (v := v) (k' := 0) (i' := 11) (Or.inl (by decide : (0 : Nat) ≠ 10)), zwr_ne (h := h) (k := 10) (i := i) (v := v) (k' := 0) (i' := 12) (Or.inl (by decide : (0 : Nat) ≠ 10)), zwr_ne (h := h) (k := 10) (i := i) (v := v) (k' := 0) (i' := 13) (Or.inl (by decide : (0 : Nat) ≠ 10)), zwr_ne (h := h) (k := 10) (i := i) (v := v) (k' := 0) (i' := 14) (Or.inl (by decide : (0 : Nat) ≠ 10)), zwr_ne (h := h) (k := 10) (i := i) (v := v) (k' := 0) (i' := 15) (Or.inl (by decide : (0 : Nat) ≠ 10)), zwr_ne (h := h) (k := 10) (i := i) (v := v) (k' := 0) (i' := 16) (Or.inl (by decide : (0 : Nat) ≠ 10)), zwr_ne (h := h) (k := 10) (i := i) (v := v) (k' := 0) (i' := 17) (Or.inl (by decide : (0 : Nat) ≠ 10)), zwr_ne (h := h) (k := 10) (i := i) (v := v) (k' := 0) (i' := 18) (Or.inl (by decide : (0 : Nat) ≠ 10)), zwr_ne (h := h) (k := 10) (i := i) (v := v) (k' := 0) (i' := 19) (Or.inl (by decide : (0 : Nat) ≠ 10)), zwr_ne (h := h) (k := 10) (i := i) (v := v) (k' := 0) (i' := 20) (Or.inl (by decide : (0 : Nat) ≠ 10)), zwr_ne (h := h) (k := 10) (i := i) (v := v) (k' := 0) (i' := 21) (Or.inl (by decide : (0 : Nat) ≠ 10)), zwr_ne (h := h) (k := 10) (i := i) (v := v) (k' := 0) (i' := 22) (Or.inl (by decide : (0 : Nat) ≠ 10)), zwr_ne (h := h) (k := 10) (i := i) (v := v) (k' := 0) (i' := 25) (Or.inl (by decide : (0 : Nat) ≠ 10))]
  obtain ⟨a0, a1, a2, a3, a4, a5, a6, a7, a8, a9, a10, a11, a12, a13, a14, a15, a16, a17⟩ := hK
  exact ⟨a0, a1, a2, a3, a4, a5, a6, a7, a8, a9, a10, a11, KR_cell a12 hv, a13, a14, a15, a16, a17⟩
theorem KR_c14 {h : Hp} {i : Nat} {v : Int} (hK : KR h) (hv : 0 ≤ v ∧ v ≤ 120) : KR (zwr h 14 i v) := by
  unfold KR at hK ⊢
  rw [zfun (h := h) (k := 14) (i := i) (v := v) (by decide : (3 : Nat) ≠ 14), zfun (h := h) (k := 14) (i := i) (v := v) (by decide : (4 : Nat) ≠ 14), zfun (h := h) (k := 14) (i := i) (v := v) (by decide : (5 : Nat) ≠ 14), zfun (h := h) (k := 14) (i := i) (v := v) (by decide : (7 : Nat) ≠ 14), zfun (h := h) (k := 14) (i := i) (v := v) (by decide : (8 : Nat) ≠ 14), zfun (h := h) (k := 14) (i := i) (v := v) (by decide : (9 : Nat) ≠ 14), zfun (h := h) (k := 14) (i := i) (v := v) (by decide : (10 : Nat) ≠ 14), zfun (h := h) (k := 14) (i := i) (v := v) (by decide : (11 : Nat) ≠ 14), zfun (h := h) (k := 14) (i := i) (v := v) (by decide : (15 : Nat) ≠ 14), zwr_ne (h := h) (k := 14) (i := i) (v := v) (k' := 0) (i' := 11) (Or.inl (by decide : (0 : Nat) ≠ 14)), zwr_ne (h := h) (k := 14) (i := i) (v := v) (k' := 0) (i' := 12) (Or.inl (by decide : (0 : Nat) ≠ 14)), zwr_ne (h := h) (k := 14) (i := i) (v := v) (k' := 0) (i' := 13) (Or.inl (by decide : (0 : Nat) ≠ 14)), zwr_ne (h := h) (k := 14) (i := i) (v := v) (k' := 0) (i' := 14) (Or.inl (by decide : (0 : Nat) ≠ 14)), zwr_ne (h := h) (k := 14) (i := i) (v := v) (k' := 0) (i' := 15) (Or.inl (by decide : (0 : Nat) ≠ 14)), zwr_ne (h := h) (k := 14) (i := i) (v := v) (k' := 0) (i' := 16) (Or.inl (by decide : (0 : Nat) ≠ 14)), zwr_ne (h := h) (k := 14) (i := i) (v := v) (k' := 0) (i' := 17) (Or.inl (by decide : (0 : Nat) ≠ 14)), zwr_ne (h := h) (k := 14) (i := i) (v := v) (k' := 0) (i' := 18) (Or.inl (by decide : (0 : Nat) ≠ 14)), zwr_ne (h := h) (k := 14) (i := i) (v := v) (k' := 0) (i' := 19) (Or.inl (by decide : (0 : Nat) ≠ 14)), zwr_ne (h := h) (k := 14) (i := i) (v := v) (k' := 0) (i' := 20) (Or.inl (by decide : (0 : Nat) ≠ 14)), zwr_ne (h := h) (k := 14) (i := i) (v := v) (k' := 0) (i' := 21) (Or.inl (by decide : (0 : Nat) ≠ 14)), zwr_ne (h := h) (k := 14) (i := i) (v := v) (k' := 0) (i' := 22) (Or.inl (by decide : (0 : Nat) ≠ 14)), zwr_ne (h := h) (k := 14) (i := i) (v := v) (k' := 0) (i' := 25) (Or.inl (by decide : (0 : Nat) ≠ 14))]
  obtain ⟨a0, a1, a2, a3, a4, a5, a6, a7, a8, a9, a10, a11, a12, a13, a14, a15, a16, a17⟩ := hK
  exact ⟨a0, a1, a2, a3, a4, a5, a6, a7, a8, a9, a10, a11, a12, a13, KR_cell a14 hv, a15, a16, a17⟩
theorem KR_c15 {h : Hp} {i : Nat} {v : Int} (hK : KR h) (hv : 0 ≤ v ∧ v ≤ 255) : KR (zwr h 15 i v) := by
  unfold KR at hK ⊢
  rw [zfun (h := h) (k := 15) (i := i) (v := v) (by decide : (3 : Nat) ≠ 15), zfun (h := h) (k := 15) (i := i) (v := v) (by decide : (4 : Nat) ≠ 15), zfun (h := h) (k := 15) (i := i) (v := v) (by decide : (5 : Nat) ≠ 15), zfun (h := h) (k := 15) (i := i) (v := v) (by decide : (7 : Nat) ≠ 15), zfun (h := h) (k := 15) (i := i) (v := v) (by decide : (8 : Nat) ≠ 15), zfun (h := h) (k := 15) (i := i) (v := v) (by decide : (9 : Nat) ≠ 15), zfun (h := h) (k := 15) (i := i) (v := v) (by decide : (10 : Nat) ≠ 15), zfun (h := h) (k := 15) (i := i) (v := v) (by decide : (11 : Nat) ≠ 15), zfun (h := h) (k := 15) (i := i) (v := v) (by decide : (14 : Nat) ≠ 15), zwr_ne (h := h) (k := 15) (i := i) (v := v) (k' := 0) (i' := 11) (Or.inl (by decide : (0 : Nat) ≠ 15)), zwr_ne (h := h) (k := 15) (i := i) (v := v) (k' := 0) (i' := 12) (Or.inl (by decide : (0 : Nat) ≠ 15)), zwr_ne (h := h) (k := 15) (i := i) (v := v) (k' := 0) (i' := 13) (Or.inl (by decide : (0 : Nat) ≠ 15)), zwr_ne (h := h) (k := 15) (i := i) (v := v) (k' := 0) (i' := 14) (Or.inl (by decide : (0 : Nat) ≠ 15)), zwr_ne (h := h) (k := 15) (i := i) (v := v) (k' := 0) (i' := 15) (Or.inl (by decide : (0 : Nat) ≠ 15)), zwr_ne (h := h) (k := 15) (i := i) (v := v) (k' := 0) (i' := 16) (Or.inl (by decide : (0 : Nat) ≠ 15)), zwr_ne (h := h) (k := 15) (i := i) (v := v) (k' := 0) (i' := 17) (Or.inl (by decide : (0 : Nat) ≠ 15)), zwr_ne (h := h) (k := 15) (i := i) (v := v) (k' := 0) (i' := 18) (Or.inl (by decide : (0 : Nat) ≠ 15)), zwr_ne (h := h) (k := 15) (i := i) (v := v) (k' := 0) (i' := 19) (Or.inl (by decide : (0 : Nat) ≠ 15)), zwr_ne (h := h) (k := 15) (i := i) (v := v) (k' := 0) (i' := 20) (Or.inl (by decide : (0 : Nat) ≠ 15)), zwr_ne (h := h) (k := 15) (i := i) (v := v) (k' := 0) (i' := 21) (Or.inl (by decide : (0 : Nat) ≠ 15)), zwr_ne (h := h) (k := 15) (i := i) (v := v) (k' := 0) (i' := 22) (Or.inl (by decide : (0 : Nat) ≠ 15)), zwr_ne (h := h) (k := 15) (i := i) (v := v) (k' := 0) (i' := 25) (Or.inl (by decide : (0 : Nat) ≠ 15))]
  obtain ⟨a0, a1, a2, a3, a4, a5, a6, a7, a8, a9, a10, a11, a12, a13, a14, a15, a16, a17⟩ := hK
  exact ⟨a0, a1, a2, a3, a4, a5, a6, a7, a8, a9, a10, a11, a12, a13, a14, KR_cell a15 hv, a16, a17⟩
/-- places that KC speaks of -/
def mC (k i : Nat) : Bool := (k == 33 && (i == 0 || i == 1 || i == 2)) || (k == 36 && (i == 0 || i == 1 || i == 2)) || ((k == 41 || k == 45 || k == 49) && (i == 0 || i == 1)) || k == 43 || k == 47 || k == 51 || (k == 31 && i == 1) || (k == 30 && (i == 12 || i == 10))
theorem KC_irr {h : Hp} {k i : Nat} {v : Int} (hK : KC h) (hm : mC k i = false) : KC (zwr h k i v) := by
  have hf : ∀ a c, mC a c = true → (a ≠ k ∨ c ≠ i) := by
    intro a c hj
    by_cases e : a = k
    · refine Or.inr (fun q => ?_)
      subst e
      subst q
      rw [hj] at hm
      cases hm
    · exact Or.inl e
  have hc : ∀ a, (a = 43 ∨ a = 47 ∨ a = 51) → a ≠ k := by
    intro a ha q
    subst q
    unfold mC at hm
    rcases ha with rfl | rfl | rfl <;> simp at hm
  unfold KC MoC RcC at hK ⊢
  rw [zwr_ne (hf 33 0 rfl), zwr_ne (hf 33 1 rfl), zwr_ne (hf 33 2 rfl), zwr_ne (hf 36 0 rfl), zwr_ne (hf 36 1 rfl), zwr_ne (hf 36 2 rfl), zwr_ne (hf 41 0 rfl), zwr_ne (hf 41 1 rfl), zwr_ne (hf 45 0 rfl), zwr_ne (hf 45 1 rfl), zwr_ne (hf 49 0 rfl), zwr_ne (hf 49 1 rfl), zwr_ne (hf 31 1 rfl), zwr_ne (hf 30 12 rfl), zwr_ne (hf 30 10 rfl), zfun (k' := 41 + 2) (hc 43 (by omega)), zfun (k' := 45 + 2) (hc 47 (by omega)), zfun (k' := 49 + 2) (hc 51 (by omega))]
  exact hK
theorem KC_33_0 {h : Hp} {v : Int} (hK : KC h) (hv : 4 ≤ v ∧ v ≤ 16) : KC (zwr h 33 0 v) := by
  unfold KC MoC RcC at hK ⊢
  rw [zwr_eq, zwr_ne (h := h) (k := 33) (i := 0) (v := v) (k' := 33) (i' := 1) (by decide), zwr_ne (h := h) (k := 33) (i := 0) (v := v) (k' := 33) (i' := 2) (by decide), zwr_ne (h := h) (k := 33) (i := 0) (v := v) (k' := 36) (i' := 0) (by decide), zwr_ne (h := h) (k := 33) (i := 0) (v := v) (k' := 36) (i' := 1) (by decide), zwr_ne (h := h) (k := 33) (i := 0) (v := v) (k' := 36) (i' := 2) (by decide), zwr_ne (h := h) (k := 33) (i := 0) (v := v) (k' := 41) (i' := 0) (by decide), zwr_ne (h := h) (k := 33) (i := 0) (v := v) (k' := 41) (i' := 1) (by decide), zwr_ne (h := h) (k := 33) (i := 0) (v := v) (k' := 45) (i' := 0) (by decide), zwr_ne (h := h) (k := 33) (i := 0) (v := v) (k' := 45) (i' := 1) (by decide), zwr_ne (h := h) (k := 33) (i := 0) (v := v) (k' := 49) (i' := 0) (by decide), zwr_ne (h := h) (k := 33) (i := 0) (v := v) (k' := 49) (i' := 1) (by decide), zwr_ne (h := h) (k := 33) (i := 0) (v := v) (k' := 31) (i' := 1) (by decide), zwr_ne (h := h) (k := 33) (i := 0) (v := v) (k' := 30) (i' := 12) (by decide), zwr_ne (h := h) (k := 33) (i := 0) (v := v) (k' := 30) (i' := 10) (by decide), zfun (h := h) (k := 33) (i := 0) (v := v) (k' := 41 + 2) (by decide), zfun (h := h) (k := 33) (i := 0) (v := v) (k' := 45 + 2) (by decide), zfun (h := h) (k := 33) (i := 0) (v := v) (k' := 49 + 2) (by decide)]
  obtain ⟨⟨a1, a2, a3⟩, b0, ⟨c1, c2, c3⟩, d0, e0, f0, g0, ⟨i1, i2, i3⟩⟩ := hK
  exact ⟨⟨hv, a2, a3⟩, b0, ⟨c1, c2, c3⟩, d0, e0, f0, g0, ⟨i1, i2, i3⟩⟩
theorem KC_33_1 {h : Hp} {v : Int} (hK : KC h) (hv : 4 ≤ v ∧ v ≤ 16) : KC (zwr h 33 1 v) := by
  unfold KC MoC RcC at hK ⊢
  rw [zwr_eq, zwr_ne (h := h) (k := 33) (i := 1) (v := v) (k' := 33) (i' := 0) (by decide), zwr_ne (h := h) (k := 33) (i := 1) (v := v) (k' := 33) (i' := 2) (by decide), zwr_ne (h := h) (k := 33) (i := 1) (v := v) (k' := 36) (i' := 0) (by decide), zwr_ne (h := h) (k := 33) (i := 1) (v := v) (k' := 36) (i' := 1) (by decide), zwr_ne (h := h) (k := 33) (i := 1) (v := v) (k' := 36) (i' := 2) (by decide), zwr_ne (h := h) (k := 33) (i := 1) (v := v) (k' := 41) (i' := 0) (by decide), zwr_ne (h := h) (k := 33) (i := 1) (v := v) (k' := 41) (i' := 1) (by decide), zwr_ne (h := h) (k := 33) (i := 1) (v := v) (k' := 45) (i' := 0) (by decide), zwr_ne (h := h) (k := 33) (i := 1) (v := v) (k' := 45) (i' := 1) (by decide), zwr_ne (h := h) (k := 33) (i := 1) (v := v) (k' := 49) (i' := 0) (by decide), zwr_ne (h := h) (k := 33) (i := 1) (v := v) (k' := 49) (i' := 1) (by decide), zwr_ne (h := h) (k := 33) (i := 1) (v := v) (k' := 31) (i' := 1) (by decide), zwr_ne (h := h) (k := 33) (i := 1) (v := v) (k' := 30) (i' := 12) (by decide), zwr_ne (h := h) (k := 33) (i := 1) (v := v) (k' := 30) (i' := 10) (by decide), zfun (h := h) (k := 33) (i := 1) (v := v) (k' := 41 + 2) (by decide), zfun (h := h) (k := 33) (i := 1) (v := v) (k' := 45 + 2) (by decide), zfun (h := h) (k := 33) (i := 1) (v := v) (k' := 49 + 2) (by decide)]
  obtain ⟨⟨a1, a2, a3⟩, b0, ⟨c1, c2, c3⟩, d0, e0, f0, g0, ⟨i1, i2, i3⟩⟩ := hK
  exact ⟨⟨a1, hv, a3⟩, b0, ⟨c1, c2, c3⟩, d0, e0, f0, g0, ⟨i1, i2, i3⟩⟩
theorem KC_33_2 {h : Hp} {v : Int} (hK : KC h) (hv : 0 ≤ v ∧ v ≤ 3) : KC (zwr h 33 2 v) := by
  unfold KC MoC RcC at hK ⊢
  rw [zwr_eq, zwr_ne (h := h) (k := 33) (i := 2) (v := v) (k' := 33) (i' := 0) (by decide), zwr_ne (h := h) (k := 33) (i := 2) (v := v) (k' := 33) (i' := 1) (by decide), zwr_ne (h := h) (k := 33) (i := 2) (v := v) (k' := 36) (i' := 0) (by decide), zwr_ne (h := h) (k := 33) (i := 2) (v := v) (k' := 36) (i' := 1) (by decide), zwr_ne (h := h) (k := 33) (i := 2) (v := v) (k' := 36) (i' := 2) (by decide), zwr_ne (h := h) (k := 33) (i := 2) (v := v) (k' := 41) (i' := 0) (by decide), zwr_ne (h := h) (k := 33) (i := 2) (v := v) (k' := 41) (i' := 1) (by decide), zwr_ne (h := h) (k := 33) (i := 2) (v := v) (k' := 45) (i' := 0) (by decide), zwr_ne (h := h) (k := 33) (i := 2) (v := v) (k' := 45) (i' := 1) (by decide), zwr_ne (h := h) (k := 33) (i := 2) (v := v) (k' := 49) (i' := 0) (by decide), zwr_ne (h := h) (k := 33) (i := 2) (v := v) (k' := 49) (i' := 1) (by decide), zwr_ne (h := h) (k := 33) (i := 2) (v := v) (k' := 31) (i' := 1) (by decide), zwr_ne (h := h) (k := 33) (i := 2) (v := v) (k' := 30) (i' := 12) (by decide), zwr_ne (h := h) (k := 33) (i := 2) (v := v) (k' := 30) (i' := 10) (by decide), zfun (h := h) (k := 33) (i := 2) (v := v) (k' := 41 + 2) (by decide), zfun (h := h) (k := 33) (i := 2) (v := v) (k' := 45 + 2) (by decide), zfun (h := h) (k := 33) (i := 2) (v := v) (k' := 49 + 2) (by decide)]
  obtain ⟨⟨a1, a2, a3⟩, b0, ⟨c1, c2, c3⟩, d0, e0, f0, g0, ⟨i1, i2, i3⟩⟩ := hK
  exact ⟨⟨a1, a2, hv⟩, b0, ⟨c1, c2, c3⟩, d0, e0, f0, g0, ⟨i1, i2, i3⟩⟩
theorem KC_31_1 {h : Hp} {v : Int} (hK : KC h) (hv : 0 ≤ v ∧ v ≤ 140) : KC (zwr h 31 1 v) := by
  unfold KC MoC RcC at hK ⊢
  rw [zwr_eq, zwr_ne (h := h) (k := 31) (i := 1) (v := v) (k' := 33) (i' := 0) (by decide), zwr_ne (h := h) (k := 31) (i := 1) (v := v) (k' := 33) (i' := 1) (by decide), zwr_ne (h := h) (k := 31) (i := 1) (v := v) (k' := 33) (i' := 2) (by decide), zwr_ne (h := h) (k := 31) (i := 1) (v := v) (k' := 36) (i' := 0) (by decide), zwr_ne (h := h) (k := 31) (i := 1) (v := v) (k' := 36) (i' := 1) (by decide), zwr_ne (h := h) (k := 31) (i := 1) (v := v) (k' := 36) (i' := 2) (by decide), zwr_ne (h := h) (k := 31) (i := 1) (v := v) (k' := 41) (i' := 0) (by decide), zwr_ne (h := h) (k := 31) (i := 1) (v := v) (k' := 41) (i' := 1) (by decide), zwr_ne (h := h) (k := 31) (i := 1) (v := v) (k' := 45) (i' := 0) (by decide), zwr_ne (h := h) (k := 31) (i := 1) (v := v) (k' := 45) (i' := 1) (by decide), zwr_ne (h := h) (k := 31) (i := 1) (v := v) (k' := 49) (i' := 0) (by decide), zwr_ne (h := h) (k := 31) (i := 1) (v := v) (k' := 49) (i' := 1) (by decide), zwr_ne (h := h) (k := 31) (i := 1) (v := v) (k' := 30) (i' := 12) (by decide), zwr_ne (h := h) (k := 31) (i := 1) (v := v) (k' := 30) (i' := 10) (by decide), zfun (h := h) (k := 31) (i := 1) (v := v) (k' := 41 + 2) (by decide), zfun (h := h) (k := 31) (i := 1) (v := v) (k' := 45 + 2) (by decide), zfun (h := h) (k := 31) (i := 1) (v := v) (k' := 49 + 2) (by decide)]
  obtain ⟨⟨a1, a2, a3⟩, b0, ⟨c1, c2, c3⟩, d0, e0, f0, g0, ⟨i1, i2, i3⟩⟩ := hK
  exact ⟨⟨a1, a2, a3⟩, b0, ⟨c1, c2, c3⟩, d0, hv, f0, g0, ⟨i1, i2, i3⟩⟩
theorem KC_30_12 {h : Hp} {v : Int} (hK : KC h) (hv : 0 ≤ v ∧ v ≤ 65535) : KC (zwr h 30 12 v) := by
  unfold KC MoC RcC at hK ⊢
  rw [zwr_eq, zwr_ne (h := h) (k := 30) (i := 12) (v := v) (k' := 33) (i' := 0) (by decide), zwr_ne (h := h) (k := 30) (i := 12) (v := v) (k' := 33) (i' := 1) (by decide), zwr_ne (h := h) (k := 30) (i := 12) (v := v) (k' := 33) (i' := 2) (by decide), zwr_ne (h := h) (k := 30) (i := 12) (v := v) (k' := 36) (i' := 0) (by decide), zwr_ne (h := h) (k := 30) (i := 12) (v := v) (k' := 36) (i' := 1) (by decide), zwr_ne (h := h) (k := 30) (i := 12) (v := v) (k' := 36) (i' := 2) (by decide), zwr_ne (h := h) (k := 30) (i := 12) (v := v) (k' := 41) (i' := 0) (by decide), zwr_ne (h := h) (k := 30) (i := 12) (v := v) (k' := 41) (i' := 1) (by decide), zwr_ne (h := h) (k := 30) (i := 12) (v := v) (k' := 45) (i' := 0) (by decide), zwr_ne (h := h) (k := 30) (i := 12) (v := v) (k' := 45) (i' := 1) (by decide), zwr_ne (h := h) (k := 30) (i := 12) (v := v) (k' := 49) (i' := 0) (by decide), zwr_ne (h := h) (k := 30) (i := 12) (v := v) (k' := 49) (i' := 1) (by decide), zwr_ne (h := h) (k := 30) (i := 12) (v := v) (k' := 31) (i' := 1) (by decide), zwr_ne (h := h) (k := 30) (i := 12) (v := v) (k' := 30) (i' := 10) (by decide), zfun (h := h) (k := 30) (i := 12) (v := v) (k' := 41 + 2) (by decide), zfun (h := h) (k := 30) (i := 12) (v := v) (k' := 45 + 2) (by decide), zfun (h := h) (k := 30) (i := 12) (v := v) (k' := 49 + 2) (by decide)]
  obtain ⟨⟨a1, a2, a3⟩, b0, ⟨c1, c2, c3⟩, d0, e0, f0, g0, ⟨i1, i2, i3⟩⟩ := hK
  exact ⟨⟨a1, a2, a3⟩, b0, ⟨c1, c2, c3⟩, d0, e0, hv, g0, ⟨i1, i2, i3⟩⟩
theorem KC_49_0 {h : Hp} {v : Int} (hK : KC h) (hv : 0 ≤ v ∧ v ≤ 12) : KC (zwr h 49 0 v) := by
  unfold KC MoC RcC at hK ⊢
  rw [zwr_eq, zwr_ne (h := h) (k := 49) (i := 0) (v := v) (k' := 33) (i' := 0) (by decide), zwr_ne (h := h) (k := 49) (i := 0) (v := v) (k' := 33) (i' := 1) (by decide), zwr_ne (h := h) (k := 49) (i := 0) (v := v) (k' := 33) (i' := 2) (by decide), zwr_ne (h := h) (k := 49) (i := 0) (v := v) (k' := 36) (i' := 0) (by decide), zwr_ne (h := h) (k := 49) (i := 0) (v := v) (k' := 36) (i' := 1) (by decide), zwr_ne (h := h) (k := 49) (i := 0) (v := v) (k' := 36) (i' := 2) (by decide), zwr_ne (h := h) (k := 49) (i := 0) (v := v) (k' := 41) (i' := 0) (by decide), zwr_ne (h := h) (k := 49) (i := 0) (v := v) (k' := 41) (i' := 1) (by decide), zwr_ne (h := h) (k := 49) (i := 0) (v := v) (k' := 45) (i' := 0) (by decide), zwr_ne (h := h) (k := 49) (i := 0) (v := v) (k' := 45) (i' := 1) (by decide), zwr_ne (h := h) (k := 49) (i := 0) (v := v) (k' := 49) (i' := 1) (by decide), zwr_ne (h := h) (k := 49) (i := 0) (v := v) (k' := 31) (i' := 1) (by decide), zwr_ne (h := h) (k := 49) (i := 0) (v := v) (k' := 30) (i' := 12) (by decide), zwr_ne (h := h) (k := 49) (i := 0) (v := v) (k' := 30) (i' := 10) (by decide), zfun (h := h) (k := 49) (i := 0) (v := v) (k' := 41 + 2) (by decide), zfun (h := h) (k := 49) (i := 0) (v := v) (k' := 45 + 2) (by decide), zfun (h := h) (k := 49) (i := 0) (v := v) (k' := 49 + 2) (by decide)]
  obtain ⟨⟨a1, a2, a3⟩, b0, ⟨c1, c2, c3⟩, d0, e0, f0, g0, ⟨i1, i2, i3⟩⟩ := hK
  exact ⟨⟨a1, a2, a3⟩, b0, ⟨c1, c2, c3⟩, d0, e0, f0, g0, ⟨hv, i2, i3⟩⟩
theorem KC_49_1 {h : Hp} {v : Int} (hK : KC h) (hv : 0 ≤ v ∧ v ≤ 12) : KC (zwr h 49 1 v) := by
  unfold KC MoC RcC at hK ⊢
  rw [zwr_eq, zwr_ne (h := h) (k := 49) (i := 1) (v := v) (k' := 33) (i' := 0) (by decide), zwr_ne (h := h) (k := 49) (i := 1) (v := v) (k' := 33) (i' := 1) (by decide), zwr_ne (h := h) (k := 49) (i := 1) (v := v) (k' := 33) (i' := 2) (by decide), zwr_ne (h := h) (k := 49) (i := 1) (v := v) (k' := 36) (i' := 0) (by decide), zwr_ne (h := h) (k := 49) (i := 1) (v := v) (k' := 36) (i' := 1) (by decide), zwr_ne (h := h) (k := 49) (i := 1) (v := v) (k' := 36) (i' := 2) (by decide), zwr_ne (h := h) (k := 49) (i := 1) (v := v) (k' := 41) (i' := 0) (by decide), zwr_ne (h := h) (k := 49) (i := 1) (v := v) (k' := 41) (i' := 1) (by decide), zwr_ne (h := h) (k := 49) (i := 1) (v := v) (k' := 45) (i' := 0) (by decide), zwr_ne (h := h) (k := 49) (i := 1) (v := v) (k' := 45) (i' := 1) (by decide), zwr_ne (h := h) (k := 49) (i := 1) (v := v) (k' := 49) (i' := 0) (by decide), zwr_ne (h := h) (k := 49) (i := 1) (v := v) (k' := 31) (i' := 1) (by decide), zwr_ne (h := h) (k := 49) (i := 1) (v := v) (k' := 30) (i' := 12) (by decide), zwr_ne (h := h) (k := 49) (i := 1) (v := v) (k' := 30) (i' := 10) (by decide), zfun (h := h) (k := 49) (i := 1) (v := v) (k' := 41 + 2) (by decide), zfun (h := h) (k := 49) (i := 1) (v := v) (k' := 45 + 2) (by decide), zfun (h := h) (k := 49) (i := 1) (v := v) (k' := 49 + 2) (by decide)]
  obtain ⟨⟨a1, a2, a3⟩, b0, ⟨c1, c2, c3⟩, d0, e0, f0, g0, ⟨i1, i2, i3⟩⟩ := hK
  exact ⟨⟨a1, a2, a3⟩, b0, ⟨c1, c2, c3⟩, d0, e0, f0, g0, ⟨i1, hv, i3⟩⟩
theorem KC_36_0 {h : Hp} {v : Int} (hK : KC h) (hv : 4 ≤ v ∧ v ≤ 16) : KC (zwr h 36 0 v) := by
  unfold KC MoC RcC at hK ⊢
  rw [zwr_eq, zwr_ne (h := h) (k := 36) (i := 0) (v := v) (k' := 33) (i' := 0) (by decide), zwr_ne (h := h) (k := 36) (i := 0) (v := v) (k' := 33) (i' := 1) (by decide), zwr_ne (h := h) (k := 36) (i := 0) (v := v) (k' := 33) (i' := 2) (by decide), zwr_ne (h := h) (k := 36) (i := 0) (v := v) (k' := 36) (i' := 1) (by decide), zwr_ne (h := h) (k := 36) (i := 0) (v := v) (k' := 36) (i' := 2) (by decide), zwr_ne (h := h) (k := 36) (i := 0) (v := v) (k' := 41) (i' := 0) (by decide), zwr_ne (h := h) (k := 36) (i := 0) (v := v) (k' := 41) (i' := 1) (by decide), zwr_ne (h := h) (k := 36) (i := 0) (v := v) (k' := 45) (i' := 0) (by decide), zwr_ne (h := h) (k := 36) (i := 0) (v := v) (k' := 45) (i' := 1) (by decide), zwr_ne (h := h) (k := 36) (i := 0) (v := v) (k' := 49) (i' := 0) (by decide), zwr_ne (h := h) (k := 36) (i := 0) (v := v) (k' := 49) (i' := 1) (by decide), zwr_ne (h := h) (k := 36) (i := 0) (v := v) (k' := 31) (i' := 1) (by decide), zwr_ne (h := h) (k := 36) (i := 0) (v := v) (k' := 30) (i' := 12) (by decide), zwr_ne (h := h) (k := 36) (i := 0) (v := v) (k' := 30) (i' := 10) (by decide), zfun (h := h) (k := 36) (i := 0) (v := v) (k' := 41 + 2) (by decide), zfun (h := h) (k := 36) (i := 0) (v := v) (k' := 45 + 2) (by decide), zfun (h := h) (k := 36) (i := 0) (v := v) (k' := 49 + 2) (by decide)]
  obtain ⟨⟨a1, a2, a3⟩, b0, ⟨c1, c2, c3⟩, d0, e0, f0, g0, ⟨i1, i2, i3⟩⟩ := hK
  exact ⟨⟨a1, a2, a3⟩, ⟨hv, b0.2.1, b0.2.2⟩, ⟨c1, c2, c3⟩, d0, e0, f0, g0, ⟨i1, i2, i3⟩⟩
theorem KC_36_1 {h : Hp} {v : Int} (hK : KC h) (hv : 4 ≤ v ∧ v ≤ 16) : KC (zwr h 36 1 v) := by
  unfold KC MoC RcC at hK ⊢
  rw [zwr_eq, zwr_ne (h := h) (k := 36) (i := 1) (v := v) (k' := 33) (i' := 0) (by decide), zwr_ne (h := h) (k := 36) (i := 1) (v := v) (k' := 33) (i' := 1) (by decide), zwr_ne (h := h) (k := 36) (i := 1) (v := v) (k' := 33) (i' := 2) (by decide), zwr_ne (h := h) (k := 36) (i := 1) (v := v) (k' := 36) (i' := 0) (by decide), zwr_ne (h := h) (k := 36) (i := 1) (v := v) (k' := 36) (i' := 2) (by decide), zwr_ne (h := h) (k := 36) (i := 1) (v := v) (k' := 41) (i' := 0) (by decide), zwr_ne (h := h) (k := 36) (i := 1) (v := v) (k' := 41) (i' := 1) (by decide), zwr_ne (h := h) (k := 36) (i := 1) (v := v) (k' := 45) (i' := 0) (by decide), zwr_ne (h := h) (k := 36) (i := 1) (v := v) (k' := 45) (i' := 1) (by decide), zwr_ne (h := h) (k := 36) (i := 1) (v := v) (k' := 49) (i' := 0) (by decide), zwr_ne (h := h) (k := 36) (i := 1) (v := v) (k' := 49) (i' := 1) (by decide), zwr_ne (h := h) (k := 36) (i := 1) (v := v) (k' := 31) (i' := 1) (by decide), zwr_ne (h := h) (k := 36) (i := 1) (v := v) (k' := 30) (i' := 12) (by decide), zwr_ne (h := h) (k := 36) (i := 1) (v := v) (k' := 30) (i' := 10) (by decide), zfun (h := h) (k := 36) (i := 1) (v := v) (k' := 41 + 2) (by decide), zfun (h := h) (k := 36) (i := 1) (v := v) (k' := 45 + 2) (by decide), zfun (h := h) (k := 36) (i := 1) (v := v) (k' := 49 + 2) (by decide)]
  obtain ⟨⟨a1, a2, a3⟩, b0, ⟨c1, c2, c3⟩, d0, e0, f0, g0, ⟨i1, i2, i3⟩⟩ := hK
  exact ⟨⟨a1, a2, a3⟩, ⟨b0.1, hv, b0.2.2⟩, ⟨c1, c2, c3⟩, d0, e0, f0, g0, ⟨i1, i2, i3⟩⟩
theorem KC_36_2 {h : Hp} {v : Int} (hK : KC h) (hv : 0 ≤ v ∧ v ≤ 3) : KC (zwr h 36 2 v) := by
  unfold KC MoC RcC at hK ⊢
  rw [zwr_eq, zwr_ne (h := h) (k := 36) (i := 2) (v := v) (k' := 33) (i' := 0) (by decide), zwr_ne (h := h) (k := 36) (i := 2) (v := v) (k' := 33) (i' := 1) (by decide), zwr_ne (h := h) (k := 36) (i := 2) (v := v) (k' := 33) (i' := 2) (by decide), zwr_ne (h := h) (k := 36) (i := 2) (v := v) (k' := 36) (i' := 0) (by decide), zwr_ne (h := h) (k := 36) (i := 2) (v := v) (k' := 36) (i' := 1) (by decide), zwr_ne (h := h) (k := 36) (i := 2) (v := v) (k' := 41) (i' := 0) (by decide), zwr_ne (h := h) (k := 36) (i := 2) (v := v) (k' := 41) (i' := 1) (by decide), zwr_ne (h := h) (k := 36) (i := 2) (v := v) (k' := 45) (i' := 0) (by decide), zwr_ne (h := h) (k := 36) (i := 2) (v := v) (k' := 45) (i' := 1) (by decide), zwr_ne (h := h) (k := 36) (i := 2) (v := v) (k' := 49) (i' := 0) (by decide), zwr_ne (h := h) (k := 36) (i := 2) (v := v) (k' := 49) (i' := 1) (by decide), zwr_ne (h := h) (k := 36) (i := 2) (v := v) (k' := 31) (i' := 1) (by decide), zwr_ne (h := h) (k := 36) (i := 2) (v := v) (k' := 30) (i' := 12) (by decide), zwr_ne (h := h) (k := 36) (i := 2) (v := v) (k' := 30) (i' := 10) (by decide), zfun (h := h) (k := 36) (i := 2) (v := v) (k' := 41 + 2) (by decide), zfun (h := h) (k := 36) (i := 2) (v := v) (k' := 45 + 2) (by decide), zfun (h := h) (k := 36) (i := 2) (v := v) (k' := 49 + 2) (by decide)]
  obtain ⟨⟨a1, a2, a3⟩, b0, ⟨c1, c2, c3⟩, d0, e0, f0, g0, ⟨i1, i2, i3⟩⟩ := hK
  exact ⟨⟨a1, a2, a3⟩, ⟨b0.1, b0.2.1, hv⟩, ⟨c1, c2, c3⟩, d0, e0, f0, g0, ⟨i1, i2, i3⟩⟩
theorem KC_41_0 {h : Hp} {v : Int} (hK : KC h) (hv : 0 ≤ v ∧ v ≤ 12) : KC (zwr h 41 0 v) := by
  unfold KC MoC RcC at hK ⊢
  rw [zwr_eq, zwr_ne (h := h) (k := 41) (i := 0) (v := v) (k' := 33) (i' := 0) (by decide), zwr_ne (h := h) (k := 41) (i := 0) (v := v) (k' := 33) (i' := 1) (by decide), zwr_ne (h := h) (k := 41) (i := 0) (v := v) (k' := 33) (i' := 2) (by decide), zwr_ne (h := h) (k := 41) (i := 0) (v := v) (k' := 36) (i' := 0) (by decide), zwr_ne (h := h) (k := 41) (i := 0) (v := v) (k' := 36) (i' := 1) (by decide), zwr_ne (h := h) (k := 41) (i := 0) (v := v) (k' := 36) (i' := 2) (by decide), zwr_ne (h := h) (k := 41) (i := 0) (v := v) (k' := 41) (i' := 1) (by decide), zwr_ne (h := h) (k := 41) (i := 0) (v := v) (k' := 45) (i' := 0) (by decide), zwr_ne (h := h) (k := 41) (i := 0) (v := v) (k' := 45) (i' := 1) (by decide), zwr_ne (h := h) (k := 41) (i := 0) (v := v) (k' := 49) (i' := 0) (by decide), zwr_ne (h := h) (k := 41) (i := 0) (v := v) (k' := 49) (i' := 1) (by decide), zwr_ne (h := h) (k := 41) (i := 0) (v := v) (k' := 31) (i' := 1) (by decide), zwr_ne (h := h) (k := 41) (i := 0) (v := v) (k' := 30) (i' := 12) (by decide), zwr_ne (h := h) (k := 41) (i := 0) (v := v) (k' := 30) (i' := 10) (by decide), zfun (h := h) (k := 41) (i := 0) (v := v) (k' := 41 + 2) (by decide), zfun (h := h) (k := 41) (i := 0) (v := v) (k' := 45 + 2) (by decide), zfun (h := h) (k := 41) (i := 0) (v := v) (k' := 49 + 2) (by decide)]
  obtain ⟨⟨a1, a2, a3⟩, b0, ⟨c1, c2, c3⟩, d0, e0, f0, g0, ⟨i1, i2, i3⟩⟩ := hK
  exact ⟨⟨a1, a2, a3⟩, b0, ⟨hv, c2, c3⟩, d0, e0, f0, g0, ⟨i1, i2, i3⟩⟩
theorem KC_41_1 {h : Hp} {v : Int} (hK : KC h) (hv : 0 ≤ v ∧ v ≤ 12) : KC (zwr h 41 1 v) := by
  unfold KC MoC RcC at hK ⊢
  rw [zwr_eq, zwr_ne (h := h) (k := 41) (i := 1) (v := v) (k' := 33) (i' := 0) (by decide), zwr_ne (h := h) (k := 41) (i := 1) (v := v) (k' := 33) (i' := 1) (by decide), zwr_ne (h := h) (k := 41) (i := 1) (v := v) (k' := 33) (i' := 2) (by decide), zwr_ne (h := h) (k := 41) (i := 1) (v := v) (k' := 36) (i' := 0) (by decide), zwr_ne (h := h) (k := 41) (i := 1) (v := v) (k' := 36) (i' := 1) (by decide), zwr_ne (h := h) (k := 41) (i := 1) (v := v) (k' := 36) (i' := 2) (by decide), zwr_ne (h := h) (k := 41) (i := 1) (v := v) (k' := 41) (i' := 0) (by decide), zwr_ne (h := h) (k := 41) (i := 1) (v := v) (k' := 45) (i' := 0) (by decide), zwr_ne (h := h) (k := 41) (i := 1) (v := v) (k' := 45) (i' := 1) (by decide), zwr_ne (h := h) (k := 41) (i := 1) (v := v) (k' := 49) (i' := 0) (by decide), zwr_ne (h := h) (k := 41) (i := 1) (v := v) (k' := 49) (i' := 1) (by decide), zwr_ne (h := h) (k := 41) (i := 1) (v := v) (k' := 31) (i' := 1) (by decide), zwr_ne (h := h) (k := 41) (i := 1) (v := v) (k' := 30) (i' := 12) (by decide), zwr_ne (h := h) (k := 41) (i := 1) (v := v) (k' := 30) (i' := 10) (by decide), zfun (h := h) (k := 41) (i := 1) (v := v) (k' := 41 + 2) (by decide), zfun (h := h) (k := 41) (i := 1) (v := v) (k' := 45 + 2) (by decide), zfun (h := h) (k := 41) (i := 1) (v := v) (k' := 49 + 2) (by decide)]
  obtain ⟨⟨a1, a2, a3⟩, b0, ⟨c1, c2, c3⟩, d0, e0, f0, g0, ⟨i1, i2, i3⟩⟩ := hK
  exact ⟨⟨a1, a2, a3⟩, b0, ⟨c1, hv, c3⟩, d0, e0, f0, g0, ⟨i1, i2, i3⟩⟩
theorem KC_45_0 {h : Hp} {v : Int} (hK : KC h) (hv : 0 ≤ v ∧ v ≤ 12) : KC (zwr h 45 0 v) := by
  unfold KC MoC RcC at hK ⊢
  rw [zwr_eq, zwr_ne (h := h) (k := 45) (i := 0) (v := v) (k' := 33) (i' := 0) (by decide), zwr_ne (h := h) (k := 45) (i := 0) (v := v) (k' := 33) (i' := 1) (by decide), zwr_ne (h := h) (k := 45) (i := 0) (v := v) (k' := 33) (i' := 2) (by decide), zwr_ne (h := h) (k := 45) (i := 0) (v := v) (k' := 36) (i' := 0) (by decide), zwr_ne (h := h) (k := 45) (i := 0) (v := v) (k' := 36) (i' := 1) (by decide), zwr_ne (h := h) (k := 45) (i := 0) (v := v) (k' := 36) (i' := 2) (by decide), zwr_ne (h := h) (k := 45) (i := 0) (v := v) (k' := 41) (i' := 0) (by decide), zwr_ne (h := h) (k := 45) (i := 0) (v := v) (k' := 41) (i' := 1) (by decide), zwr_ne (h := h) (k := 45) (i := 0) (v := v) (k' := 45) (i' := 1) (by decide), zwr_ne (h := h) (k := 45) (i := 0) (v := v) (k' := 49) (i' := 0) (by decide), zwr_ne (h := h) (k := 45) (i := 0) (v := v) (k' := 49) (i' := 1) (by decide), zwr_ne (h := h) (k := 45) (i := 0) (v := v) (k' := 31) (i' := 1) (by decide), zwr_ne (h := h) (k := 45) (i := 0) (v := v) (k' := 30) (i' := 12) (by decide), zwr_ne (h := h) (k := 45) (i := 0) (v := v) (k' := 30) (i' := 10) (by decide), zfun (h := h) (k := 45) (i := 0) (v := v) (k' := 41 + 2) (by decide), zfun (h := h) (k := 45) (i := 0) (v := v) (k' := 45 + 2) (by decide), zfun (h := h) (k := 45) (i := 0) (v := v) (k' := 49 + 2) (by decide)]
  obtain ⟨⟨a1, a2, a3⟩, b0, ⟨c1, c2, c3⟩, d0, e0, f0, g0, ⟨i1, i2, i3⟩⟩ := hK
  exact ⟨⟨a1, a2, a3⟩, b0, ⟨c1, c2, c3⟩, ⟨hv, d0.2.1, d0.2.2⟩, e0, f0, g0, ⟨i1, i2, i3⟩⟩
theorem KC_45_1 {h : Hp} {v : Int} (hK : KC h) (hv : 0 ≤ v ∧ v ≤ 12) : KC (zwr h 45 1 v) := by
  unfold KC MoC RcC at hK ⊢
  rw [zwr_eq, zwr_ne (h := h) (k := 45) (i := 1) (v := v) (k' := 33) (i' := 0) (by decide), zwr_ne (h := h) (k := 45) (i := 1) (v := v) (k' := 33) (i' := 1) (by decide), zwr_ne (h := h) (k := 45) (i := 1) (v := v) (k' := 33) (i' := 2) (by decide), zwr_ne (h := h) (k := 45) (i := 1) (v := v) (k' := 36) (i' := 0) (by decide), zwr_ne (h := h) (k := 45) (i := 1) (v := v) (k' := 36) (i' := 1) (by decide), zwr_ne (h := h) (k := 45) (i := 1) (v := v) (k' := 36) (i' := 2) (by decide), zwr_ne (h := h) (k := 45) (i := 1) (v := v) (k' := 41) (i' := 0) (by decide), zwr_ne (h := h) (k := 45) (i := 1) (v := v) (k' := 41) (i' := 1) (by decide), zwr_ne (h := h) (k := 45) (i := 1) (v := v) (k' := 45) (i' := 0) (by decide), zwr_ne (h := h) (k := 45) (i := 1) (v := v) (k' := 49) (i' := 0) (by decide), zwr_ne (h := h) (k := 45) (i := 1) (v := v) (k' := 49) (i' := 1) (by decide), zwr_ne (h := h) (k := 45) (i := 1) (v := v) (k' := 31) (i' := 1) (by decide), zwr_ne (h := h) (k := 45) (i := 1) (v := v) (k' := 30) (i' := 12) (by decide), zwr_ne (h := h) (k := 45) (i := 1) (v := v) (k' := 30) (i' := 10) (by decide), zfun (h := h) (k := 45) (i := 1) (v := v) (k' := 41 + 2) (by decide), zfun (h := h) (k := 45) (i := 1) (v := v) (k' := 45 + 2) (by decide), zfun (h := h) (k := 45) (i := 1) (v := v) (k' := 49 + 2) (by decide)]
  obtain ⟨⟨a1, a2, a3⟩, b0, ⟨c1, c2, c3⟩, d0, e0, f0, g0, ⟨i1, i2, i3⟩⟩ := hK
  exact ⟨⟨a1, a2, a3⟩, b0, ⟨c1, c2, c3⟩, ⟨d0.1, hv, d0.2.2⟩, e0, f0, g0, ⟨i1, i2, i3⟩⟩
theorem KC_30_10 {h : Hp} {v : Int} (hK : KC h) (hv : 0 ≤ v ∧ v ≤ 65535) : KC (zwr h 30 10 v) := by
  unfold KC MoC RcC at hK ⊢
  rw [zwr_eq, zwr_ne (h := h) (k := 30) (i := 10) (v := v) (k' := 33) (i' := 0) (by decide), zwr_ne (h := h) (k := 30) (i := 10) (v := v) (k' := 33) (i' := 1) (by decide), zwr_ne (h := h) (k := 30) (i := 10) (v := v) (k' := 33) (i' := 2) (by decide), zwr_ne (h := h) (k := 30) (i := 10) (v := v) (k' := 36) (i' := 0) (by decide), zwr_ne (h := h) (k := 30) (i := 10) (v := v) (k' := 36) (i' := 1) (by decide), zwr_ne (h := h) (k := 30) (i := 10) (v := v) (k' := 36) (i' := 2) (by decide), zwr_ne (h := h) (k := 30) (i := 10) (v := v) (k' := 41) (i' := 0) (by decide), zwr_ne (h := h) (k := 30) (i := 10) (v := v) (k' := 41) (i' := 1) (by decide), zwr_ne (h := h) (k := 30) (i := 10) (v := v) (k' := 45) (i' := 0) (by decide), zwr_ne (h := h) (k := 30) (i := 10) (v := v) (k' := 45) (i' := 1) (by decide), zwr_ne (h := h) (k := 30) (i := 10) (v := v) (k' := 49) (i' := 0) (by decide), zwr_ne (h := h) (k := 30) (i := 10) (v := v) (k' := 49) (i' := 1) (by decide), zwr_ne (h := h) (k := 30) (i := 10) (v := v) (k' := 31) (i' := 1) (by decide), zwr_ne (h := h) (k := 30) (i := 10) (v := v) (k' := 30) (i' := 12) (by decide), zfun (h := h) (k := 30) (i := 10) (v := v) (k' := 41 + 2) (by decide), zfun (h := h) (k := 30) (i := 10) (v := v) (k' := 45 + 2) (by decide), zfun (h := h) (k := 30) (i := 10) (v := v) (k' := 49 + 2) (by decide)]
  obtain ⟨⟨a1, a2, a3⟩, b0, ⟨c1, c2, c3⟩, d0, e0, f0, g0, ⟨i1, i2, i3⟩⟩ := hK
  exact ⟨⟨a1, a2, a3⟩, b0, ⟨c1, c2, c3⟩, d0, e0, f0, hv, ⟨i1, i2, i3⟩⟩
theorem KC_c51 {h : Hp} {i : Nat} {v : Int} (hK : KC h) (hv : 0 ≤ v ∧ v ≤ 64) : KC (zwr h 51 i v) := by
  unfold KC MoC RcC at hK ⊢
  rw [zwr_ne (h := h) (k := 51) (i := i) (v := v) (k' := 33) (i' := 0) (Or.inl (by decide)), zwr_ne (h := h) (k := 51) (i := i) (v := v) (k' := 33) (i' := 1) (Or.inl (by decide)), zwr_ne (h := h) (k := 51) (i := i) (v := v) (k' := 33) (i' := 2) (Or.inl (by decide)), zwr_ne (h := h) (k := 51) (i := i) (v := v) (k' := 36) (i' := 0) (Or.inl (by decide)), zwr_ne (h := h) (k := 51) (i := i) (v := v) (k' := 36) (i' := 1) (Or.inl (by decide)), zwr_ne (h := h) (k := 51) (i := i) (v := v) (k' := 36) (i' := 2) (Or.inl (by decide)), zwr_ne (h := h) (k := 51) (i := i) (v := v) (k' := 41) (i' := 0) (Or.inl (by decide)), zwr_ne (h := h) (k := 51) (i := i) (v := v) (k' := 41) (i' := 1) (Or.inl (by decide)), zwr_ne (h := h) (k := 51) (i := i) (v := v) (k' := 45) (i' := 0) (Or.inl (by decide)), zwr_ne (h := h) (k := 51) (i := i) (v := v) (k' := 45) (i' := 1) (Or.inl (by decide)), zwr_ne (h := h) (k := 51) (i := i) (v := v) (k' := 49) (i' := 0) (Or.inl (by decide)), zwr_ne (h := h) (k := 51) (i := i) (v := v) (k' := 49) (i' := 1) (Or.inl (by decide)), zwr_ne (h := h) (k := 51) (i := i) (v := v) (k' := 31) (i' := 1) (Or.inl (by decide)), zwr_ne (h := h) (k := 51) (i := i) (v := v) (k' := 30) (i' := 12) (Or.inl (by decide)), zwr_ne (h := h) (k := 51) (i := i) (v := v) (k' := 30) (i' := 10) (Or.inl (by decide)), zfun (h := h) (k := 51) (i := i) (v := v) (k' := 41 + 2) (by decide), zfun (h := h) (k := 51) (i := i) (v := v) (k' := 45 + 2) (by decide)]
  obtain ⟨⟨a1, a2, a3⟩, b0, ⟨c1, c2, c3⟩, d0, e0, f0, g0, ⟨i1, i2, i3⟩⟩ := hK
  exact ⟨⟨a1, a2, a3⟩, b0, ⟨c1, c2, c3⟩, d0, e0, f0, g0, ⟨i1, i2, KR_cell i3 hv⟩⟩
/-- scratch of every kind -/
def scro (k : Nat) : Bool := (Nat.ble 17 k && Nat.ble k 29) || (Nat.ble 55 k && Nat.ble k 94) || k == 96 || k == 97 || Nat.ble 99 k
def scfo (k i : Nat) : Bool := (k == 0 && (i == 23 || (Nat.ble 44 i && Nat.ble i 47))) || (k == 95 && !(i == 0)) || (k == 98 && !(i == 6)) || (Nat.ble 55 k && Nat.ble k 94)
theorem SI_irr {h : Hp} {k i : Nat} {v : Int} (hS : SI h) (hk : key k i = true ∨ scfo k i = true ∨ scro k = true) (hv : k ≠ 95 → k ≠ 97 → rng v) : SI (zwr h k i v) := by
  have hne : ∀ j l, (j = 0 ∧ l = 53) ∨ (j = 54 ∧ l = 7) ∨ (j = 95 ∧ l = 0) ∨ (j = 98 ∧ l = 6) → j ≠ k ∨ l ≠ i := by
    intro j l hj
    by_cases h1 : j = k
    · refine Or.inr (fun h2 => ?_)
      subst h1
      subst h2
      rcases hj with ⟨rfl, rfl⟩ | ⟨rfl, rfl⟩ | ⟨rfl, rfl⟩ | ⟨rfl, rfl⟩ <;> rcases hk with q | q | q <;> revert q <;> decide
    · exact Or.inl h1
  obtain ⟨s1, s2, s3, s4, s5⟩ := hS
  unfold SI
  rw [zwr_ne (hne 0 53 (by omega)), zwr_ne (hne 54 7 (by omega)), zwr_ne (hne 95 0 (by omega)), zwr_ne (hne 98 6 (by omega))]
  exact ⟨s1, s2, s3, s4, s5.wr hv⟩
theorem SI_54 {h : Hp} {v : Int} (hS : SI h) (hv : -1 ≤ v ∧ v ≤ 12) : SI (zwr h 54 7 v) := ((Fr.rf (b := bdB true) hS).p54 hv True.intro).2.2
theorem inW_ne {L : List (Nat × Nat)} {k i k' i' : Nat} (h1 : inW L k i = true) (h2 : inW L k' i' = false) : k' ≠ k ∨ i' ≠ i := by
  by_cases e : k' = k
  · refine Or.inr (fun q => ?_)
    subst e
    subst q
    rw [h1] at h2
    cases h2
  · exact Or.inl e
theorem Fm.wr {L : List (Nat × Nat)} {κ h : Hp} {k i : Nat} {v : Int} (hF : Fm L κ h) (hw : inW L k i = true ∨ dpn k i = false) (hS : SI (zwr h k i v)) (hR : KR (zwr h k i v)) (hC : KC (zwr h k i v)) : Fm L κ (zwr h k i v) := by
  refine ⟨fun k' i' hk hl => ?_, hS, hR, hC⟩
  have hne : k' ≠ k ∨ i' ≠ i := by
    rcases hw with hw | hw
    · exact inW_ne hw hl
    · by_cases e : k' = k
      · refine Or.inr (fun q => ?_)
        subst e
        subst q
        rw [hk] at hw
        cases hw
      · exact Or.inl e
  rw [zwr_ne hne]
  exact hF.1 k' i' hk hl
theorem inW_cell {L : List (Nat × Nat)} {k : Nat} (h : L.contains (k, 999) = true) (i : Nat) : inW L k i = true := by
  unfold inW
  exact List.any_eq_true.mpr ⟨(k, 999), List.contains_iff_mem.mp h, by simp⟩
theorem Fm.rh {L : List (Nat × Nat)} {κ h : Hp} (hF : Fm L κ h) (k i : Nat) (h1 : k ≠ 95 := by decide) (h2 : k ≠ 97 := by decide) : -2147483648 ≤ h k i ∧ h k i ≤ 2147483647 := hF.2.1.2.2.2.2 k i h1 h2
theorem RecOK.cong3 {L A N L' A' N' : Nat → Int} {m : Int} (h : RecOK L A N m) (hm : m ≤ 12) (eL : ∀ j, j < 12 → L' j = L j) (eA : ∀ j, j < 13 → A' j = A j) (eN : ∀ j, j < 130 → N' j = N j) : RecOK L' A' N' m := by
  intro k h1 h2
  have := (h.cong eN) k h1 h2
  rw [eL (k - 1) (by omega), eA (k - 1) (by omega), eA k (by omega)]
  exact this
theorem SI_cpy {h : Hp} {a c n : Nat} (hS : SI h) (hc : ckey c = true) (ha : a ≠ 95 ∧ a ≠ 97) : SI (cpy h a c n) := by
  obtain ⟨s1, s2, s3, s4, s5⟩ := hS
  unfold SI
  rw [cpy_ne (fun q => by subst q; cases hc), cpy_ne (fun q => by subst q; cases hc), cpy_ne (fun q => by subst q; cases hc), cpy_ne (fun q => by subst q; cases hc)]
  exact ⟨s1, s2, s3, s4, WFcpy s5 ha⟩
theorem KC_low {h h' : Hp} (hK : KC h) (e : ∀ k i, 30 ≤ k → h' k i = h k i) : KC h' := by
  have f : ∀ k, 30 ≤ k → h' k = h k := fun k hk => funext fun i => e k i hk
  unfold KC MoC RcC at hK ⊢
  rw [f 33 (by omega), f 36 (by omega), f 41 (by omega), f 45 (by omega), f 49 (by omega), f 31 (by omega), f 30 (by omega), f (41 + 2) (by omega), f (45 + 2) (by omega), f (49 + 2) (by omega)]
  exact hK
theorem KR_high {h h' : Hp} (hK : KR h) (e : ∀ k i, k < 30 → h' k i = h k i) : KR h' := by
  have f : ∀ k, k < 30 → h' k = h k := fun k hk => funext fun i => e k i hk
  unfold KR at hK ⊢
  rw [f 0 (by omega), f 3 (by omega), f 4 (by omega), f 5 (by omega), f 7 (by omega), f 8 (by omega), f 9 (by omega), f 10 (by omega), f 11 (by omega), f 14 (by omega), f 15 (by omega)]
  exact hK
theorem inW_nc {L : List (Nat × Nat)} {c k i : Nat} (h1 : L.contains (c, 999) = true) (h2 : inW L k i = false) : k ≠ c := fun q => by
  subst q
  rw [inW_cell h1 i] at h2
  cases h2
def mCc (c : Nat) : Bool := c == 30 || c == 31 || c == 33 || c == 36 || c == 41 || c == 45 || c == 49 || c == 43 || c == 47 || c == 51
theorem zcfun {h : Hp} {a c d n k' : Nat} (hk : k' ≠ c) : zcp h a c d n k' = h k' := funext fun _ => zcp_ne hk
theorem KC_zc {h : Hp} {a c d n : Nat} (hK : KC h) (hc : mCc c = false) : KC (zcp h a c d n) := by
  have hn : ∀ j, mCc j = true → j ≠ c := fun j hj q => by rw [q, hc] at hj; cases hj
  unfold KC MoC RcC at hK ⊢
  rw [zcfun (hn 33 rfl), zcfun (hn 36 rfl), zcfun (hn 41 rfl), zcfun (hn 45 rfl), zcfun (hn 49 rfl), zcfun (hn 31 rfl), zcfun (hn 30 rfl), zcfun (k' := 41 + 2) (hn 43 rfl), zcfun (k' := 45 + 2) (hn 47 rfl), zcfun (k' := 49 + 2) (hn 51 rfl)]
  exact hK
theorem zc_bd {h : Hp} {a c d n : Nat} {lo hi : Int} (ba : ∀ j, lo ≤ h a j ∧ h a j ≤ hi) (bc : ∀ j, lo ≤ h c j ∧ h c j ≤ hi) : ∀ j, lo ≤ zcp h a c d n c j ∧ zcp h a c d n c j ≤ hi := by
  intro j
  by_cases e : d ≤ j ∧ j < d + n
  · rw [zcp_in e]; exact ba _
  · rw [zcp_out e]; exact bc j
theorem KC_z43 {h : Hp} {a d n : Nat} (hK : KC h) (ba : ∀ j, 0 ≤ h a j ∧ h a j ≤ 64) : KC (zcp h a 43 d n) := by
  unfold KC MoC RcC at hK ⊢
  rw [zcfun (c := 43) (k' := 33) (by decide), zcfun (c := 43) (k' := 36) (by decide), zcfun (c := 43) (k' := 41) (by decide), zcfun (c := 43) (k' := 45) (by decide), zcfun (c := 43) (k' := 49) (by decide), zcfun (c := 43) (k' := 31) (by decide), zcfun (c := 43) (k' := 30) (by decide), zcfun (c := 43) (k' := 45 + 2) (by decide), zcfun (c := 43) (k' := 49 + 2) (by decide)]
  obtain ⟨a1, b0, ⟨c1, c2, c3⟩, d0, e0, f0, g0, i0⟩ := hK
  exact ⟨a1, b0, ⟨c1, c2, zc_bd ba c3⟩, d0, e0, f0, g0, i0⟩
theorem KC_z47 {h : Hp} {a d n : Nat} (hK : KC h) (ba : ∀ j, 0 ≤ h a j ∧ h a j ≤ 64) : KC (zcp h a 47 d n) := by
  unfold KC MoC RcC at hK ⊢
  rw [zcfun (c := 47) (k' := 33) (by decide), zcfun (c := 47) (k' := 36) (by decide), zcfun (c := 47) (k' := 41) (by decide), zcfun (c := 47) (k' := 45) (by decide), zcfun (c := 47) (k' := 49) (by decide), zcfun (c := 47) (k' := 31) (by decide), zcfun (c := 47) (k' := 30) (by decide), zcfun (c := 47) (k' := 41 + 2) (by decide), zcfun (c := 47) (k' := 49 + 2) (by decide)]
  obtain ⟨a1, b0, c0, ⟨d1, d2, d3⟩, e0, f0, g0, i0⟩ := hK
  exact ⟨a1, b0, c0, ⟨d1, d2, zc_bd ba d3⟩, e0, f0, g0, i0⟩
theorem Fm.zc {L : List (Nat × Nat)} {κ h : Hp} {a c d n : Nat} (hF : Fm L κ h) (hw : L.contains (c, 999) = true) (hc : ckey c = true) (h30 : 30 ≤ c) (ha : a ≠ 95 ∧ a ≠ 97) (hK : KC (zcp h a c d n)) : Fm L κ (zcp h a c d n) := by
  refine ⟨fun k i hk hl => ?_, ?_, KR_high hF.2.2.1 (fun k i hk => zcp_ne (by omega)), hK⟩
  · rw [zcp_ne (inW_nc hw hl)]
    exact hF.1 k i hk hl
  · obtain ⟨s1, s2, s3, s4, s5⟩ := hF.2.1
    unfold SI
    rw [zcp_ne (fun q => by subst q; cases hc), zcp_ne (fun q => by subst q; cases hc), zcp_ne (fun q => by subst q; cases hc), zcp_ne (fun q => by subst q; cases hc)]
    exact ⟨s1, s2, s3, s4, WFzcp s5 ha⟩
theorem KCk0 {κ : Hp} (h : KC κ) : 4 ≤ κ 36 0 ∧ κ 36 0 ≤ 16 := h.2.1.1
theorem KCk1 {κ : Hp} (h : KC κ) : 4 ≤ κ 36 1 ∧ κ 36 1 ≤ 16 := h.2.1.2.1
theorem KCk2 {κ : Hp} (h : KC κ) : 0 ≤ κ 36 2 ∧ κ 36 2 ≤ 3 := h.2.1.2.2
theorem KCr0 {κ : Hp} (h : KC κ) : 0 ≤ κ 45 0 ∧ κ 45 0 ≤ 12 := h.2.2.2.1.1
theorem KCr1 {κ : Hp} (h : KC κ) : 0 ≤ κ 45 1 ∧ κ 45 1 ≤ 12 := h.2.2.2.1.2.1
theorem KCd0 {κ : Hp} (h : KC κ) : 0 ≤ κ 49 0 ∧ κ 49 0 ≤ 12 := h.2.2.2.2.2.2.2.1
theorem KCd1 {κ : Hp} (h : KC κ) : 0 ≤ κ 49 1 ∧ κ 49 1 ≤ 12 := h.2.2.2.2.2.2.2.2.1
theorem KCkc {κ : Hp} (h : KC κ) : 0 ≤ κ 30 10 ∧ κ 30 10 ≤ 65535 := h.2.2.2.2.2.2.1
section Mut
variable {G : Ga} {μ μ' : Mt} {Q Q' : Int → Hp → Prop} {pc pc' idx : Nat} {ls : Lo} {st : List Sv} {κ h : Hp} {L : List (Nat × Nat)}
theorem zGm {k i ci : Nat} {cs : List Nat} (hF : Fm L κ h) (hk : dpn k i = true) (hl : inW L k i = false) (hf : zFL μ.2.2.2.1 idx ci i) (ht : tab[k]? = some (0, ci, cs)) (hc : cs[i]? = some 0) (hd : decode μ.1 pc = .ok (.getfield idx, 3)) (hn : pc + 3 = pc') (kk : zV G μ Q pc' ls (.inl (κ k i) :: st) h) : zV G μ Q pc ls (.inr (.inr k) :: st) h := by
  refine zV_getf hf ht hc hd hn ?_
  show zV G μ Q pc' ls (.inl (h k i) :: st) h
  rw [hF.1 k i hk hl]
  exact kk
theorem zAm {k n : Nat} {i : Int} (hF : Fm L κ h) (hk : ckey k = true) (hl : ∀ j, inW L k j = false) (ht : tab[k]? = some (1, 0, [n])) (hi : 0 ≤ i ∧ i < n) (hd : decode μ.1 pc = .ok (.iaload, 1)) (hs : n < 2147483648) (hn : pc + 1 = pc') (kk : -2147483648 ≤ κ k i.toNat ∧ κ k i.toNat ≤ 2147483647 → zV G μ Q pc' ls (.inl (κ k i.toNat) :: st) h) : zV G μ Q pc ls (.inl i :: .inr (.inr k) :: st) h := by
  refine zV_iald ht hi hd hs hn ?_
  have e := hF.1 k i.toNat (dpn_k (key_of hk _)) (hl _)
  have h95 : k ≠ 95 := fun q => by subst q; cases hk
  have h97 : k ≠ 97 := fun q => by subst q; cases hk
  have r := hF.rh k i.toNat h95 h97
  rw [e] at r ⊢
  exact kk r
theorem zAmI {k n : Nat} {i : Int} (hF : Fm L κ h) (h95 : k ≠ 95) (h97 : k ≠ 97) (ht : tab[k]? = some (1, 0, [n])) (hi : 0 ≤ i ∧ i < n) (hd : decode μ.1 pc = .ok (.iaload, 1)) (hs : n < 2147483648) (hn : pc + 1 = pc') (kk : -2147483648 ≤ h k i.toNat ∧ h k i.toNat ≤ 2147483647 → zV G μ Q pc' ls (.inl (h k i.toNat) :: st) h) : zV G μ Q pc ls (.inl i :: .inr (.inr k) :: st) h :=
  zV_iald ht hi hd hs hn (kk (hF.rh k _ h95 h97))
theorem zPm {k i ci : Nat} {cs : List Nat} {v : Int} (hF : Fm L κ h) (hw : inW L k i = true ∨ dpn k i = false) (hS : SI (zwr h k i v)) (hR : KR (zwr h k i v)) (hC : KC (zwr h k i v)) (hf : zFP μ.2.2.2.1 idx ci i .int) (ht : tab[k]? = some (0, ci, cs)) (hc : cs[i]? = some 0) (hd : decode μ.1 pc = .ok (.putfield idx, 3)) (hn : pc + 3 = pc') (kk : ∀ h' : Hp, Fm L κ h' → h' = zwr h k i v → zV G μ Q pc' ls st h') : zV G μ Q pc ls (.inl v :: .inr (.inr k) :: st) h :=
  zV_puti hf ht hc hd hn (kk _ (hF.wr hw hS hR hC) rfl)
theorem zPmz {k i ci : Nat} {cs : List Nat} {v : Int} (hF : Fm L κ h) (hw : inW L k i = true ∨ dpn k i = false) (hS : SI (zwr h k i v)) (hR : KR (zwr h k i v)) (hC : KC (zwr h k i v)) (hv : v = 0 ∨ v = 1) (hf : zFP μ.2.2.2.1 idx ci i .boolean) (ht : tab[k]? = some (0, ci, cs)) (hc : cs[i]? = some 0) (hd : decode μ.1 pc = .ok (.putfield idx, 3)) (hn : pc + 3 = pc') (kk : ∀ h' : Hp, Fm L κ h' → h' = zwr h k i v → zV G μ Q pc' ls st h') : zV G μ Q pc ls (.inl v :: .inr (.inr k) :: st) h :=
  zV_putz hf hv ht hc hd hn (kk _ (hF.wr hw hS hR hC) rfl)
theorem zSm {k n : Nat} {i v : Int} (hF : Fm L κ h) (hw : L.contains (k, 999) = true) (hm : ∀ v', rng v' → (rng v → v' = v) → SI (zwr h k i.toNat v') ∧ KR (zwr h k i.toNat v') ∧ KC (zwr h k i.toNat v')) (ht : tab[k]? = some (1, 0, [n])) (hi : 0 ≤ i ∧ i < n) (hd : decode μ.1 pc = .ok (.iastore, 1)) (hs : n < 2147483648) (hn : pc + 1 = pc') (kk : ∀ (h' : Hp) (v' : Int), Fm L κ h' → rng v' → (rng v → v' = v) → h' = zwr h k i.toNat v' → zV G μ Q pc' ls st h') : zV G μ Q pc ls (.inl v :: .inl i :: .inr (.inr k) :: st) h :=
  zV_anyE (fun v' hv he => zV_iast ht hi hd hs hn (kk _ v' (hF.wr (Or.inl (inW_cell hw _)) (hm v' hv he).1 (hm v' hv he).2.1 (hm v' hv he).2.2) hv he rfl))
theorem zSmz {k n : Nat} {i v : Int} (hF : Fm L κ h) (hw : L.contains (k, 999) = true) (hm : SI (zwr h k i.toNat v) ∧ KR (zwr h k i.toNat v) ∧ KC (zwr h k i.toNat v)) (ht : tab[k]? = some (1, 1, [n])) (hi : 0 ≤ i ∧ i < n) (hv : v = 0 ∨ v = 1) (hd : decode μ.1 pc = .ok (.bastore, 1)) (hs : n < 2147483648) (hn : pc + 1 = pc') (kk : ∀ h' : Hp, Fm L κ h' → h' = zwr h k i.toNat v → zV G μ Q pc' ls st h') : zV G μ Q pc ls (.inl v :: .inl i :: .inr (.inr k) :: st) h :=
  zV_zast ht hi hv hd hs hn (kk _ (hF.wr (Or.inl (inW_cell hw _)) hm.1 hm.2.1 hm.2.2) rfl)
theorem zSmb {k n : Nat} {i v : Int} (hF : Fm L κ h) (hw : L.contains (k, 999) = true) (hm : SI (zwr h k i.toNat v) ∧ KR (zwr h k i.toNat v) ∧ KC (zwr h k i.toNat v)) (ht : tab[k]? = some (1, 2, [n])) (hi : 0 ≤ i ∧ i < n) (hv : -128 ≤ v ∧ v ≤ 127) (hd : decode μ.1 pc = .ok (.bastore, 1)) (hs : n < 2147483648) (hn : pc + 1 = pc') (kk : ∀ h' : Hp, Fm L κ h' → h' = zwr h k i.toNat v → zV G μ Q pc' ls st h') : zV G μ Q pc ls (.inl v :: .inl i :: .inr (.inr k) :: st) h :=
  zV_bast ht hi hv hd hs hn (kk _ (hF.wr (Or.inl (inW_cell hw _)) hm.1 hm.2.1 hm.2.2) rfl)
end Mut
/-! what the pictures of the reference and of the class hang on -/
def prk (k i : Nat) : Bool := (k == 0 && (i == 11 || i == 12 || i == 13 || i == 14 || i == 23)) || k == 1 || k == 3 || k == 4 || k == 5 || k == 10 || k == 17
def pck (k i : Nat) : Bool := (k == 33 && (i == 0 || i == 1 || i == 2)) || k == 34 || k == 35 || (k == 41 && (i == 0 || i == 1)) || k == 42 || k == 43 || k == 44 || (k == 54 && i == 7) || (Nat.ble 56 k && Nat.ble k 85)
theorem prk_dp {k i : Nat} (h : prk k i = true) : dpn k i = true := by
  unfold prk at h
  simp only [Bool.or_eq_true, Bool.and_eq_true, beq_iff_eq, Nat.ble_eq] at h
  have hh : (k = 0 ∧ (i = 11 ∨ i = 12 ∨ i = 13 ∨ i = 14 ∨ i = 23)) ∨ k = 1 ∨ k = 3 ∨ k = 4 ∨ k = 5 ∨ k = 10 ∨ k = 17 := by omega
  rcases hh with ⟨rfl, rfl | rfl | rfl | rfl | rfl⟩ | rfl | rfl | rfl | rfl | rfl | rfl <;> rfl
def UnR (κ h : Hp) : Prop := ∀ k i, prk k i = true → h k i = κ k i
def ChR (κ h : Hp) : Prop := h 0 23 = 0 ∨ UnR κ h
theorem UnR.rf {h : Hp} : UnR h h := fun _ _ _ => rfl
theorem UnR.w {κ h : Hp} {k i : Nat} {v : Int} (hU : UnR κ h) (hq : prk k i = false) : UnR κ (zwr h k i v) := fun k' i' hk => by
  rw [zwr_ne (by
    by_cases h1 : k' = k
    · refine Or.inr (fun h2 => ?_)
      subst h1
      subst h2
      rw [hk] at hq
      cases hq
    · exact Or.inl h1)]
  exact hU k' i' hk
theorem UnR.fm {L : List (Nat × Nat)} {κ h h' : Hp} (hU : UnR κ h) (hF : Fm L h h') (hl : L.all (fun p => !(prk p.1 p.2) && !(p.1 == 0 && p.2 == 999)) = true) : UnR κ h' := fun k i hk => by
  rw [hF.1 k i (prk_dp hk) ?_]
  · exact hU k i hk
  · cases hc : inW L k i with
    | false => rfl
    | true =>
      exfalso
      unfold inW at hc
      rw [List.any_eq_true] at hc
      rw [List.all_eq_true] at hl
      obtain ⟨p, hp, hq⟩ := hc
      have hz := hl p hp
      simp only [Bool.and_eq_true, Bool.or_eq_true, beq_iff_eq] at hq
      obtain ⟨q1, q2⟩ := hq
      subst q1
      unfold prk at hz hk
      simp only [Bool.or_eq_true, Bool.and_eq_true, beq_iff_eq, Nat.ble_eq, Bool.not_eq_true', Bool.or_eq_false_iff, Bool.and_eq_false_iff, beq_eq_false_iff_ne, Bool.not_eq_eq_eq_not, Bool.not_true, Bool.not_false] at hz hk
      have hb : ∀ x y : Nat, (Nat.ble x y = false) = (y < x) := fun x y => propext ⟨fun hb => Nat.lt_of_not_le (fun hc => by rw [Nat.ble_eq_true_of_le hc] at hb; cases hb), fun hb => by
        cases hh : Nat.ble x y with
        | false => rfl
        | true => exact absurd (Nat.le_of_ble_eq_true hh) (by omega)⟩
      try simp only [hb] at hz
      omega
theorem pck_dp {k i : Nat} (h : pck k i = true) : dpn k i = true := by
  unfold pck at h
  simp only [Bool.or_eq_true, Bool.and_eq_true, beq_iff_eq, Nat.ble_eq] at h
  have hh : ((k = 33 ∨ k = 34 ∨ k = 35 ∨ k = 41 ∨ k = 42 ∨ k = 43 ∨ k = 44) ∨ (k = 54 ∧ i = 7)) ∨ (56 ≤ k ∧ k ≤ 85) := by omega
  rcases hh with ((rfl | rfl | rfl | rfl | rfl | rfl | rfl) | ⟨rfl, rfl⟩) | hh
  all_goals first | rfl | (unfold dpn; rw [Nat.ble_eq_true_of_le hh.1, Nat.ble_eq_true_of_le hh.2]; simp)
def UnC (κ h : Hp) : Prop := ∀ k i, pck k i = true → h k i = κ k i
def ChC (κ h : Hp) : Prop := h 54 7 = -1 ∨ UnC κ h
theorem UnC.rf {h : Hp} : UnC h h := fun _ _ _ => rfl
theorem UnC.w {κ h : Hp} {k i : Nat} {v : Int} (hU : UnC κ h) (hq : pck k i = false) : UnC κ (zwr h k i v) := fun k' i' hk => by
  rw [zwr_ne (by
    by_cases h1 : k' = k
    · refine Or.inr (fun h2 => ?_)
      subst h1
      subst h2
      rw [hk] at hq
      cases hq
    · exact Or.inl h1)]
  exact hU k' i' hk
theorem UnC.fm {L : List (Nat × Nat)} {κ h h' : Hp} (hU : UnC κ h) (hF : Fm L h h') (hl : L.all (fun p => !(pck p.1 p.2) && !((p.1 == 33 || p.1 == 41 || p.1 == 54) && p.2 == 999)) = true) : UnC κ h' := fun k i hk => by
  rw [hF.1 k i (pck_dp hk) ?_]
  · exact hU k i hk
  · cases hc : inW L k i with
    | false => rfl
    | true =>
      exfalso
      unfold inW at hc
      rw [List.any_eq_true] at hc
      rw [List.all_eq_true] at hl
      obtain ⟨p, hp, hq⟩ := hc
      have hz := hl p hp
      simp only [Bool.and_eq_true, Bool.or_eq_true, beq_iff_eq] at hq
      obtain ⟨q1, q2⟩ := hq
      subst q1
      unfold pck at hz hk
      simp only [Bool.or_eq_true, Bool.and_eq_true, beq_iff_eq, Nat.ble_eq, Bool.not_eq_true', Bool.or_eq_false_iff, Bool.and_eq_false_iff, beq_eq_false_iff_ne, Bool.not_eq_eq_eq_not, Bool.not_true, Bool.not_false] at hz hk
      have hb : ∀ x y : Nat, (Nat.ble x y = false) = (y < x) := fun x y => propext ⟨fun hb => Nat.lt_of_not_le (fun hc => by rw [Nat.ble_eq_true_of_le hc] at hb; cases hb), fun hb => by
        cases hh : Nat.ble x y with
        | false => rfl
        | true => exact absurd (Nat.le_of_ble_eq_true hh) (by omega)⟩
      try simp only [hb] at hz
      omega
