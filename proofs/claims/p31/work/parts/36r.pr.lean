/-! rows of the reference: early pictures -/
section Eq
variable {G : Ga} {μ : Mt} {Q : Int → Hp → Prop} {pc pc' idx : Nat} {ls : Lo} {st : List Sv} {κ h : Hp} {b : Bd}
theorem zX_int {k i ci : Nat} {cs : List Nat} {v : Int} (hF : Fr b κ (zwr h k i v)) (hf : zFP μ.2.2.2.1 idx ci i .int) (ht : tab[k]? = some (0, ci, cs)) (hc : cs[i]? = some 0) (hd : decode μ.1 pc = .ok (.putfield idx, 3)) (hn : pc + 3 = pc') (kk : ∀ h' : Hp, Fr b κ h' → h' = zwr h k i v → zV G μ Q pc' ls st h') : zV G μ Q pc ls (.inl v :: .inr (.inr k) :: st) h :=
  zV_puti hf ht hc hd hn (kk _ hF rfl)
theorem zX_boo {k i ci : Nat} {cs : List Nat} {v : Int} (hF : Fr b κ (zwr h k i v)) (hf : zFP μ.2.2.2.1 idx ci i .boolean) (hv : v = 0 ∨ v = 1) (ht : tab[k]? = some (0, ci, cs)) (hc : cs[i]? = some 0) (hd : decode μ.1 pc = .ok (.putfield idx, 3)) (hn : pc + 3 = pc') (kk : ∀ h' : Hp, Fr b κ h' → h' = zwr h k i v → zV G μ Q pc' ls st h') : zV G μ Q pc ls (.inl v :: .inr (.inr k) :: st) h :=
  zV_putz hf hv ht hc hd hn (kk _ hF rfl)
end Eq
theorem Fw.mono {C C' : List Nat} {F F' : List (Nat × Nat)} {g h : Hp} (h1 : Fw C F g h) (hC : ∀ c ∈ C, c ∈ C') (hF : ∀ p ∈ F, p ∈ F') : Fw C' F' g h := fun k i a b => h1 k i (fun c hc => a c (hC c hc)) (fun p hp => b p (hF p hp))
abbrev q_X12_earlyZ (b : Bd) (κ : Hp) (x1 x2 x3 x4 : Int) (f : Int → Int → Int) (gh0 : Hp) : Int → Hp → Prop := fun r h' => Fr b κ h' ∧ (Fw [17, 21] [] gh0 h') ∧ (Row17 κ (h' 17) x4 (stg (κ 0 11) (κ 0 12) (κ 10) x1 x2 f) ∧ Oth x4 (gh0 17) (h' 17))
theorem s_X12_earlyZ {G : Ga} {b : Bd} {κ h : Hp} (hK : KR κ) (hF : Fr b κ h) (x1 : Int) (hx1 : 98 ≤ x1 ∧ x1 ≤ 111) (x2 : Int) (hx2 : 0 ≤ x2 ∧ x2 ≤ 255) (x3 : Int) (hx3 : 0 ≤ x3 ∧ x3 ≤ 14) (x4 : Int) (hx4 : 0 ≤ x4 ∧ x4 ≤ 14) (f : Int → Int → Int) (gh0 : Hp) (hl : x1 = 98 ∨ x1 = 111 ∨ x1 = 100 ∨ x1 = 108) (hn : x1 = 111 → 1 ≤ x2 ∧ x2 ≤ 4) (hJ : Ok17 b x4) (hne : x3 ≠ x4) (hf : Row17 κ (h 17) x3 f) (hfb : FB (κ 0 11) (κ 0 12) f) (hge : h = gh0) : zM G mX12_early yX12_early [.inr (.inr 0), .inl x1, .inl x2, .inl x3, .inl x4] h (q_X12_earlyZ b κ x1 x2 x3 x4 f gh0) := by
  rcases hl with rfl | rfl | rfl | rfl
  · refine (s_X12_earlyV98Z hK hF 98 (by omega) x2 hx2 x3 hx3 x4 hx4 f gh0 hJ hne hf hfb hge (by rw [hge]; exact Fw.rf)).mono (fun r h' q => ⟨q.1, q.2.1.mono (by simp) (by simp), fun x y hp => (q.2.2.1 x y hp).trans ?_, q.2.2.2⟩)
    unfold stg
    rw [if_pos rfl]
  · refine (s_X12_earlyV111Z hK hF 111 (by omega) x2 (hn rfl) x3 hx3 x4 hx4 f gh0 hJ hne hf hfb hge (by rw [hge]; exact Fw.rf)).mono (fun r h' q => ⟨q.1, q.2.1.mono (by simp) (by simp), fun x y hp => (q.2.2.1 x y hp).trans ?_, q.2.2.2⟩)
    unfold stg
    rw [if_neg (by decide), if_pos rfl]
  · refine (s_X12_earlyV100Z hK hF 100 (by omega) x2 hx2 x3 hx3 x4 hx4 f gh0 hJ hne hf hfb hge (by rw [hge]; exact Fw.rf)).mono (fun r h' q => ⟨q.1, q.2.1.mono (by simp) (by simp), fun x y hp => (q.2.2.1 x y hp).trans ?_, q.2.2.2⟩)
    unfold stg
    rw [if_neg (by decide), if_neg (by decide), if_pos rfl]
  · refine (s_X12_earlyV108Z hK hF 108 (by omega) x2 hx2 x3 hx3 x4 hx4 f gh0 hJ hne hf hfb hge (by rw [hge]; exact Fw.rf)).mono (fun r h' q => ⟨q.1, q.2.1.mono (by simp) (by simp), fun x y hp => (q.2.2.1 x y hp).trans ?_, q.2.2.2⟩)
    unfold stg
    rw [if_neg (by decide), if_neg (by decide), if_neg (by decide), if_pos rfl]
/-- no f among the first letters -/
def noF (L : Nat → Int) (k : Nat) : Prop := ∀ j, j < k → L j ≠ 102
theorem noF.le {L : Nat → Int} {j k : Nat} (h : noF L k) (hj : j ≤ k) : noF L j := fun i hi => h i (by omega)
def VOK (V : Nat → Int) : Prop := ∀ j, j < 256 → 0 ≤ V j ∧ V j ≤ 255
/-- the letters of the mosaic and f stand where no f is ahead, the others behind it -/
def EaOK (L : Nat → Int) (n : Int) : Prop := ∀ k : Nat, (k : Int) < n → (noF L k ↔ (L k = 98 ∨ L k = 111 ∨ L k = 100 ∨ L k = 108 ∨ L k = 102))
abbrev EF (κ : Hp) (k : Nat) : Int → Int → Int := eF (κ 0 11) (κ 0 12) (κ 1) (κ 10) (κ 3) (κ 4) (κ 5) k
def Rws (κ : Hp) (A : Nat → Int) (n : Int) : Prop := ∀ k : Nat, (k : Int) ≤ n → noF (κ 3) k → Row17 κ A k (EF κ k)
def FdR (g h : Hp) : Prop := ∀ k i, dpn k i = true → k ≠ 17 → (k = 0 → i ≠ 23) → h k i = g k i
theorem FdR.rf {g : Hp} : FdR g g := fun _ _ _ _ _ => rfl
theorem FdR.tr {g h h' : Hp} (a : FdR g h) (c : FdR h h') : FdR g h' := fun k i h1 h2 h3 => (c k i h1 h2 h3).trans (a k i h1 h2 h3)
theorem FdR.w17 {g h : Hp} {i : Nat} {v : Int} (a : FdR g h) : FdR g (zwr h 17 i v) := fun k i h1 h2 h3 => (zwr_ne (Or.inl h2)).trans (a k i h1 h2 h3)
theorem FdR.w23 {g h : Hp} {v : Int} (a : FdR g h) : FdR g (zwr h 0 23 v) := fun k i h1 h2 h3 => (zwr_ne (by
  by_cases e : k = 0
  · exact Or.inr (h3 e)
  · exact Or.inl e)).trans (a k i h1 h2 h3)
theorem FdR.fw {g h h' : Hp} (a : FdR g h) (c : Fw [17, 21] [] h h') : FdR g h' := fun k i h1 h2 h3 => (c k i (fun c hc => by
  simp only [List.mem_cons, List.not_mem_nil, or_false] at hc
  rcases hc with rfl | rfl
  · exact h2
  · intro q
    subst q
    exact absurd (show dpn 21 i = false by simp [dpn, key]; decide) (by rw [h1]; simp)) (fun p hp => absurd hp (by simp))).trans (a k i h1 h2 h3)




/-- the rows of the reference are the pictures, if it says so -/
def PicR (h : Hp) : Prop := h 0 23 ≠ 0 → Rws h (h 17) (h 0 14)
theorem Rws.key {κ h : Hp} {A : Nat → Int} {n : Int} (e11 : h 0 11 = κ 0 11) (e12 : h 0 12 = κ 0 12) (e13 : h 0 13 = κ 0 13) (e1 : h 1 = κ 1) (e10 : h 10 = κ 10) (e3 : h 3 = κ 3) (e4 : h 4 = κ 4) (e5 : h 5 = κ 5) : Rws h A n ↔ Rws κ A n := by
  unfold Rws Row17 EF
  rw [e11, e12, e13, e1, e10, e3, e4, e5]
theorem Rws.keyF {b : Bd} {κ h : Hp} {A : Nat → Int} {n : Int} (hF : Fr b κ h) : Rws h A n ↔ Rws κ A n :=
  Rws.key (hF.1 0 11 rfl) (hF.1 0 12 rfl) (hF.1 0 13 rfl) (keq hF rfl) (keq hF rfl) (keq hF rfl) (keq hF rfl) (keq hF rfl)
abbrev q_X12_leavesZ (b : Bd) (κ : Hp) : Int → Hp → Prop := fun _ h' => Fr b.fo κ h' ∧ ((∀ i, i < 130 → h' 23 i = κ 5 i) ∧ Rws κ (h' 17) (κ 0 14))
def LeavesZ (b : Bd) : Prop := ∀ {G : Ga} {κ h : Hp}, KR κ → Fr b.fo κ h → zM G mX12_leaves yX12_leaves [.inr (.inr 0)] h (q_X12_leavesZ b κ)
theorem LeavesZ.ok {b : Bd} (h : LeavesZ b) : LeavesOK b := fun hK hF => (h hK hF).mono (fun _ _ q => ⟨q.1, q.2.1⟩)
