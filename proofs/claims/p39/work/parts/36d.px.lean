/-! the text, read -/
def hr (t : Nat → Int) (n p : Int) : Int := if 0 ≤ p ∧ p < n then t p.toNat else -1
theorem hr_cong {t t' : Nat → Int} {n : Int} (h : ∀ j : Nat, (j : Int) < n → t j = t' j) : hr t n = hr t' n := by
  funext p
  unfold hr
  by_cases c : 0 ≤ p ∧ p < n
  · rw [if_pos c, if_pos c]; exact h _ (by omega)
  · rw [if_neg c, if_neg c]
def sF (g : Int → Int) (p c : Int) : Int := if g p = c then 0 else -1000 - p
theorem sFc (g : Int → Int) (p c : Int) : (g p = c ∧ sF g p c = 0) ∨ (g p ≠ c ∧ sF g p c = -1000 - p) := by
  unfold sF
  by_cases h : g p = c
  · exact Or.inl ⟨h, if_pos h⟩
  · exact Or.inr ⟨h, if_neg h⟩
def nD (g : Int → Int) (p : Int) : Int := if (48 ≤ g p ∧ g p ≤ 57) then (if (48 ≤ g (p + 1) ∧ g (p + 1) ≤ 57) then (if (48 ≤ g (p + 2) ∧ g (p + 2) ≤ 57) then (if (48 ≤ g (p + 3) ∧ g (p + 3) ≤ 57) then 4 else 3) else 2) else 1) else 0
def nV (g : Int → Int) (p : Int) : Int := if nD g p = 0 then 0 else if nD g p = 1 then g p - 48 else if nD g p = 2 then 10 * (g p - 48) + (g (p + 1) - 48) else 10 * (10 * (g p - 48) + (g (p + 1) - 48)) + (g (p + 2) - 48)
theorem nDc (g : Int → Int) (p : Int) : (nD g p = 0 ∧ ¬ (48 ≤ g p ∧ g p ≤ 57) ∧ nV g p = 0) ∨ (nD g p = 1 ∧ (48 ≤ g p ∧ g p ≤ 57) ∧ ¬ (48 ≤ g (p + 1) ∧ g (p + 1) ≤ 57) ∧ nV g p = g p - 48) ∨ (nD g p = 2 ∧ (48 ≤ g p ∧ g p ≤ 57) ∧ (48 ≤ g (p + 1) ∧ g (p + 1) ≤ 57) ∧ ¬ (48 ≤ g (p + 2) ∧ g (p + 2) ≤ 57) ∧ nV g p = 10 * (g p - 48) + (g (p + 1) - 48)) ∨ (nD g p = 3 ∧ (48 ≤ g p ∧ g p ≤ 57) ∧ (48 ≤ g (p + 1) ∧ g (p + 1) ≤ 57) ∧ (48 ≤ g (p + 2) ∧ g (p + 2) ≤ 57) ∧ ¬ (48 ≤ g (p + 3) ∧ g (p + 3) ≤ 57) ∧ nV g p = 10 * (10 * (g p - 48) + (g (p + 1) - 48)) + (g (p + 2) - 48)) ∨ (nD g p = 4 ∧ (48 ≤ g p ∧ g p ≤ 57) ∧ (48 ≤ g (p + 1) ∧ g (p + 1) ≤ 57) ∧ (48 ≤ g (p + 2) ∧ g (p + 2) ≤ 57) ∧ (48 ≤ g (p + 3) ∧ g (p + 3) ≤ 57) ∧ nV g p = 10 * (10 * (g p - 48) + (g (p + 1) - 48)) + (g (p + 2) - 48)) := by
  by_cases h0 : (48 ≤ g p ∧ g p ≤ 57)
  · by_cases h1 : (48 ≤ g (p + 1) ∧ g (p + 1) ≤ 57)
    · by_cases h2 : (48 ≤ g (p + 2) ∧ g (p + 2) ≤ 57)
      · by_cases h3 : (48 ≤ g (p + 3) ∧ g (p + 3) ≤ 57)
        · have e : nD g p = 4 := by unfold nD; rw [if_pos h0, if_pos h1, if_pos h2, if_pos h3]
          refine Or.inr (Or.inr (Or.inr (Or.inr (⟨e, h0, h1, h2, h3, ?_⟩))))
          unfold nV; rw [e]; rfl
        · have e : nD g p = 3 := by unfold nD; rw [if_pos h0, if_pos h1, if_pos h2, if_neg h3]
          refine Or.inr (Or.inr (Or.inr (Or.inl (⟨e, h0, h1, h2, h3, ?_⟩))))
          unfold nV; rw [e]; rfl
      · have e : nD g p = 2 := by unfold nD; rw [if_pos h0, if_pos h1, if_neg h2]
        refine Or.inr (Or.inr (Or.inl (⟨e, h0, h1, h2, ?_⟩)))
        unfold nV; rw [e]; rfl
    · have e : nD g p = 1 := by unfold nD; rw [if_pos h0, if_neg h1]
      refine Or.inr (Or.inl (⟨e, h0, h1, ?_⟩))
      unfold nV; rw [e]; rfl
  · have e : nD g p = 0 := by unfold nD; rw [if_neg h0]
    refine Or.inl (⟨e, h0, ?_⟩)
    unfold nV; rw [e]; rfl
def nF (g : Int → Int) (p a b : Int) : Int := if nD g p = 0 then -1000 - p else if nD g p = 4 then -2003 - p else if a ≤ nV g p ∧ nV g p ≤ b then 0 else -3000 - p
theorem nFc (g : Int → Int) (p a b : Int) : (nD g p = 0 ∧ nF g p a b = -1000 - p) ∨ (nD g p = 4 ∧ nF g p a b = -2003 - p) ∨ (nD g p ≠ 0 ∧ nD g p ≠ 4 ∧ (a ≤ nV g p ∧ nV g p ≤ b) ∧ nF g p a b = 0) ∨ (nD g p ≠ 0 ∧ nD g p ≠ 4 ∧ ¬ (a ≤ nV g p ∧ nV g p ≤ b) ∧ nF g p a b = -3000 - p) := by
  unfold nF
  by_cases h0 : nD g p = 0
  · exact Or.inl ⟨h0, if_pos h0⟩
  by_cases h4 : nD g p = 4
  · exact Or.inr (Or.inl ⟨h4, by rw [if_neg h0, if_pos h4]⟩)
  by_cases h : a ≤ nV g p ∧ nV g p ≤ b
  · exact Or.inr (Or.inr (Or.inl ⟨h0, h4, h, by rw [if_neg h0, if_neg h4, if_pos h]⟩))
  · exact Or.inr (Or.inr (Or.inr ⟨h0, h4, h, by rw [if_neg h0, if_neg h4, if_neg h]⟩))
/-- the first digits, as a number; they are digits -/
def nVk (g : Int → Int) (p : Int) : Nat → Int
  | 0 => 0
  | k + 1 => 10 * nVk g p k + (g (p + k) - 48)
def DG (g : Int → Int) (p v : Int) : Prop := ∀ i : Nat, (i : Int) < v → 48 ≤ g (p + i) ∧ g (p + i) ≤ 57
theorem nVk_s {g : Int → Int} {p v : Int} (h : 0 ≤ v) : nVk g p (v + 1).toNat = 10 * nVk g p v.toNat + (g (p + v) - 48) := by
  rw [show (v + 1).toNat = v.toNat + 1 by omega]
  show 10 * nVk g p v.toNat + (g (p + ((v.toNat : Nat) : Int)) - 48) = _
  rw [show ((v.toNat : Nat) : Int) = v by omega]
theorem DG_0 {g : Int → Int} {p : Int} : DG g p 0 := fun i hi => by omega
theorem DG_s {g : Int → Int} {p v : Int} (h : DG g p v) (hd : 48 ≤ g (p + v) ∧ g (p + v) ≤ 57) : DG g p (v + 1) := fun i hi => by
  by_cases e : (i : Int) = v
  · rw [e]; exact hd
  · exact h i (by omega)
theorem nVk_1 {g : Int → Int} {p : Int} : nVk g p 1 = g p - 48 := by
  show 10 * 0 + (g (p + ((0 : Nat) : Int)) - 48) = _
  rw [show p + ((0 : Nat) : Int) = p by omega]
  omega
theorem nVk_2 {g : Int → Int} {p : Int} : nVk g p 2 = 10 * (g p - 48) + (g (p + 1) - 48) := by
  show 10 * nVk g p 1 + (g (p + 1) - 48) = _
  rw [nVk_1]
theorem nVk_3 {g : Int → Int} {p : Int} : nVk g p 3 = 10 * (10 * (g p - 48) + (g (p + 1) - 48)) + (g (p + 2) - 48) := by
  show 10 * nVk g p 2 + (g (p + 2) - 48) = _
  rw [nVk_2]
theorem DG_p {g : Int → Int} {p v : Int} (h : DG g p v) : (1 ≤ v → 48 ≤ g p ∧ g p ≤ 57) ∧ (2 ≤ v → 48 ≤ g (p + 1) ∧ g (p + 1) ≤ 57) ∧ (3 ≤ v → 48 ≤ g (p + 2) ∧ g (p + 2) ≤ 57) := by
  refine ⟨fun l => ?_, fun l => h 1 (by omega), fun l => h 2 (by omega)⟩
  have z := h 0 (by omega)
  rwa [show p + ((0 : Nat) : Int) = p by omega] at z
theorem nVk_b {g : Int → Int} {p v : Int} (h : DG g p v) (hv : 0 ≤ v ∧ v ≤ 2) : 0 ≤ nVk g p v.toNat ∧ nVk g p v.toNat ≤ 99 := by
  have d := DG_p h
  rcases (by omega : v = 0 ∨ v = 1 ∨ v = 2) with rfl | rfl | rfl
  · show (0 : Int) ≤ 0 ∧ (0 : Int) ≤ 99
    exact ⟨by decide, by decide⟩
  · show 0 ≤ nVk g p 1 ∧ nVk g p 1 ≤ 99
    rw [nVk_1]; omega
  · show 0 ≤ nVk g p 2 ∧ nVk g p 2 ≤ 99
    rw [nVk_2]; omega
theorem nD_end {g : Int → Int} {p v : Int} (hv : 0 ≤ v ∧ v ≤ 3) (h : DG g p v) (hn : ¬ (48 ≤ g (p + v) ∧ g (p + v) ≤ 57)) : nD g p = v ∧ nV g p = nVk g p v.toNat := by
  have d := DG_p h
  rcases (by omega : v = 0 ∨ v = 1 ∨ v = 2 ∨ v = 3) with rfl | rfl | rfl | rfl
  · rw [Int.add_zero] at hn
    have e : nD g p = 0 := by unfold nD; rw [if_neg hn]
    exact ⟨e, by unfold nV; rw [e]; rfl⟩
  · have e : nD g p = 1 := by unfold nD; rw [if_pos (d.1 (by decide)), if_neg hn]
    exact ⟨e, by show nV g p = nVk g p 1; rw [nVk_1]; unfold nV; rw [e]; rfl⟩
  · have e : nD g p = 2 := by unfold nD; rw [if_pos (d.1 (by decide)), if_pos (d.2.1 (by decide)), if_neg hn]
    exact ⟨e, by show nV g p = nVk g p 2; rw [nVk_2]; unfold nV; rw [e]; rfl⟩
  · have e : nD g p = 3 := by unfold nD; rw [if_pos (d.1 (by decide)), if_pos (d.2.1 (by decide)), if_pos (d.2.2 (by decide)), if_neg hn]
    exact ⟨e, by show nV g p = nVk g p 3; rw [nVk_3]; unfold nV; rw [e]; rfl⟩
theorem nD_4 {g : Int → Int} {p : Int} (h : DG g p 3) (hd : 48 ≤ g (p + 3) ∧ g (p + 3) ≤ 57) : nD g p = 4 := by
  have d := DG_p h
  unfold nD
  rw [if_pos (d.1 (by decide)), if_pos (d.2.1 (by decide)), if_pos (d.2.2 (by decide)), if_pos hd]
theorem nDp (g : Int → Int) (p : Int) : 0 ≤ nD g p ∧ nD g p ≤ 4 := by
  rcases nDc g p with h | h | h | h | h <;> (rw [h.1]; decide)
theorem nFz {g : Int → Int} {p a b : Int} (h : nF g p a b = 0) (hp : 0 ≤ p) : (1 ≤ nD g p ∧ nD g p ≤ 3) ∧ a ≤ nV g p ∧ nV g p ≤ b := by
  have h1 := nDp g p
  have h2 := nFc g p a b
  omega
theorem nFn {g : Int → Int} {p a b : Int} (hp : 0 ≤ p) : nF g p a b ≤ 0 := by
  have h2 := nFc g p a b
  omega
theorem sFn {g : Int → Int} {p c : Int} (hp : 0 ≤ p) : sF g p c ≤ 0 := by
  have h2 := sFc g p c
  omega
def sq (a b : Int) : Int := if a = 0 then b else a
theorem sqc (a b : Int) : (a ≠ 0 ∧ sq a b = a) ∨ (a = 0 ∧ sq a b = b) := by
  unfold sq
  by_cases h : a = 0
  · exact Or.inr ⟨h, if_pos h⟩
  · exact Or.inl ⟨h, if_neg h⟩
theorem sq_z {a b : Int} (h : a = 0) : sq a b = b := if_pos h
theorem sq_m {a b : Int} (h : a ≠ 0) : sq a b = a := if_neg h
theorem sq_0l {a b : Int} (h : sq a b = 0) : a = 0 := by
  have := sqc a b
  omega
theorem sq_0r {a b : Int} (h : sq a b = 0) : b = 0 := by
  have := sqc a b
  omega
theorem sq_as {a b c : Int} : sq (sq a b) c = sq a (sq b c) := by
  by_cases h : a = 0
  · rw [sq_z h, sq_z h]
  · rw [sq_m h, sq_m h, sq_m h]
/-- a point of a curve from a place on -/
def pqF (g : Int → Int) (p a b : Int) : Int := sq (sq (nF g p a b) (sF g (p + nD g p) 62)) (nF g (p + nD g p + 1) 0 255)
def pqE (g : Int → Int) (p : Int) : Int := p + nD g p + 1 + nD g (p + nD g p + 1)
def ptF (g : Int → Int) (p x : Int) : Int := if x = -1 then pqF g p 0 0 else sq (sF g p 44) (pqF g (p + 1) (x + 1) 255)
def ptX (g : Int → Int) (p x : Int) : Int := if x = -1 then nV g p else nV g (p + 1)
def ptE (g : Int → Int) (p x : Int) : Int := if x = -1 then pqE g p else pqE g (p + 1)
def cuF (g : Int → Int) : Nat → Int → Int → Int
  | 0, _, _ => 0
  | k + 1, p, x => if ptF g p x = 0 then (if ptX g p x = 255 then 0 else cuF g k (ptE g p x) (ptX g p x)) else ptF g p x
def cuE (g : Int → Int) : Nat → Int → Int → Int
  | 0, p, _ => p
  | k + 1, p, x => if ptX g p x = 255 then ptE g p x else cuE g k (ptE g p x) (ptX g p x)
/-- the curve from p on is, what it is from q on behind x -/
def CuI (g : Int → Int) (p q x : Int) : Prop := (x = 255 ∧ cuF g 200 p (-1) = 0 ∧ cuE g 200 p (-1) = q) ∨ (x ≠ 255 ∧ ∃ k : Nat, 190 - q < k ∧ cuF g 200 p (-1) = cuF g k q x ∧ cuE g 200 p (-1) = cuE g k q x)
theorem CuI.rf {g : Int → Int} {p : Int} (hp : 0 ≤ p) : CuI g p p (-1) := Or.inr ⟨by decide, 200, by omega, rfl, rfl⟩
theorem CuI.bad {g : Int → Int} {p q x : Int} (h : CuI g p q x) (hx : x ≠ 255) (hq : q ≤ 190) (hf : ptF g q x ≠ 0) : cuF g 200 p (-1) = ptF g q x := by
  rcases h with ⟨a, -, -⟩ | ⟨-, k, k1, k2, -⟩
  · exact absurd a hx
  · obtain ⟨m, rfl⟩ : ∃ m, k = m + 1 := ⟨k - 1, by omega⟩
    rw [k2]
    show (if ptF g q x = 0 then _ else ptF g q x) = ptF g q x
    rw [if_neg hf]
theorem CuI.step {g : Int → Int} {p q x y e : Int} (h : CuI g p q x) (hx : x ≠ 255) (hq : q ≤ 190) (hf : ptF g q x = 0) (hy : ptX g q x = y) (he : ptE g q x = e) (hl : q < e) : CuI g p e y := by
  subst hy he
  rcases h with ⟨a, -, -⟩ | ⟨-, k, k1, k2, k3⟩
  · exact absurd a hx
  · obtain ⟨m, rfl⟩ : ∃ m, k = m + 1 := ⟨k - 1, by omega⟩
    have e1 : cuF g (m + 1) q x = if ptX g q x = 255 then 0 else cuF g m (ptE g q x) (ptX g q x) := by
      show (if ptF g q x = 0 then _ else ptF g q x) = _
      rw [if_pos hf]
    have e2 : cuE g (m + 1) q x = if ptX g q x = 255 then ptE g q x else cuE g m (ptE g q x) (ptX g q x) := rfl
    rw [e1] at k2
    rw [e2] at k3
    by_cases c : ptX g q x = 255
    · rw [if_pos c] at k2 k3; exact Or.inl ⟨c, k2, k3⟩
    · rw [if_neg c] at k2 k3; exact Or.inr ⟨c, m, by omega, k2, k3⟩
theorem CuI.end {g : Int → Int} {p q : Int} (h : CuI g p q 255) : cuF g 200 p (-1) = 0 ∧ cuE g 200 p (-1) = q := by
  rcases h with ⟨-, a, b⟩ | ⟨a, -⟩
  · exact ⟨a, b⟩
  · exact absurd rfl a
theorem ptF_0 {g : Int → Int} {p : Int} : ptF g p (-1) = pqF g p 0 0 ∧ ptX g p (-1) = nV g p ∧ ptE g p (-1) = pqE g p := ⟨rfl, rfl, rfl⟩
theorem ptF_1 {g : Int → Int} {p x : Int} (h : 0 ≤ x) : ptF g p x = sq (sF g p 44) (pqF g (p + 1) (x + 1) 255) ∧ ptX g p x = nV g (p + 1) ∧ ptE g p x = pqE g (p + 1) := by
  unfold ptF ptX ptE
  have n : x ≠ -1 := by omega
  rw [if_neg n, if_neg n, if_neg n]
  exact ⟨rfl, rfl, rfl⟩
/-- the numbers of a stage -/
def nxF (g : Int → Int) (p b : Int) : Int := sq (sF g p 44) (nF g (p + 1) 0 b)
def nxE (g : Int → Int) (p : Int) : Int := p + 1 + nD g (p + 1)
def n2F (g : Int → Int) (p a b l : Int) : Int := sq (nF g p a b) (nxF g (p + nD g p) l)
def n2E (g : Int → Int) (p : Int) : Int := nxE g (p + nD g p)
def n3F (g : Int → Int) (p a b l : Int) : Int := sq (n2F g p a b l) (nxF g (n2E g p) l)
def n3E (g : Int → Int) (p : Int) : Int := nxE g (n2E g p)
def nbF (g : Int → Int) (c p : Int) : Int := if c = 98 ∨ c = 100 ∨ c = 119 then nF g p 0 255 else if c = 111 then nF g p 1 4 else if c = 102 then nF g p 0 1 else if c = 118 then nF g p 1 3 else if c = 104 then nF g p 0 254 else if c = 108 ∨ c = 109 then nF g p 0 99 else if c = 121 then n3F g p 0 32 32 else if c = 103 then n3F g p 0 99 99 else if c = 112 then n2F g p 1 4 32 else if c = 110 ∨ c = 115 then n2F g p 0 99 99 else cuF g 200 p (-1)
def nbE (g : Int → Int) (c p : Int) : Int := if c = 98 ∨ c = 100 ∨ c = 119 then p + nD g p else if c = 111 then p + nD g p else if c = 102 then p + nD g p else if c = 118 then p + nD g p else if c = 104 then p + nD g p else if c = 108 ∨ c = 109 then p + nD g p else if c = 121 then n3E g p else if c = 103 then n3E g p else if c = 112 then n2E g p else if c = 110 ∨ c = 115 then n2E g p else cuE g 200 p (-1)
theorem nb_98 {g : Int → Int} {p : Int} : nbF g 98 p = nF g p 0 255 ∧ nbE g 98 p = p + nD g p := ⟨rfl, rfl⟩
theorem nb_100 {g : Int → Int} {p : Int} : nbF g 100 p = nF g p 0 255 ∧ nbE g 100 p = p + nD g p := ⟨rfl, rfl⟩
theorem nb_111 {g : Int → Int} {p : Int} : nbF g 111 p = nF g p 1 4 ∧ nbE g 111 p = p + nD g p := ⟨rfl, rfl⟩
theorem nb_108 {g : Int → Int} {p : Int} : nbF g 108 p = nF g p 0 99 ∧ nbE g 108 p = p + nD g p := ⟨rfl, rfl⟩
theorem nb_102 {g : Int → Int} {p : Int} : nbF g 102 p = nF g p 0 1 ∧ nbE g 102 p = p + nD g p := ⟨rfl, rfl⟩
theorem nb_118 {g : Int → Int} {p : Int} : nbF g 118 p = nF g p 1 3 ∧ nbE g 118 p = p + nD g p := ⟨rfl, rfl⟩
theorem nb_119 {g : Int → Int} {p : Int} : nbF g 119 p = nF g p 0 255 ∧ nbE g 119 p = p + nD g p := ⟨rfl, rfl⟩
theorem nb_104 {g : Int → Int} {p : Int} : nbF g 104 p = nF g p 0 254 ∧ nbE g 104 p = p + nD g p := ⟨rfl, rfl⟩
theorem nb_121 {g : Int → Int} {p : Int} : nbF g 121 p = n3F g p 0 32 32 ∧ nbE g 121 p = n3E g p := ⟨rfl, rfl⟩
theorem nb_103 {g : Int → Int} {p : Int} : nbF g 103 p = n3F g p 0 99 99 ∧ nbE g 103 p = n3E g p := ⟨rfl, rfl⟩
theorem nb_109 {g : Int → Int} {p : Int} : nbF g 109 p = nF g p 0 99 ∧ nbE g 109 p = p + nD g p := ⟨rfl, rfl⟩
theorem nb_112 {g : Int → Int} {p : Int} : nbF g 112 p = n2F g p 1 4 32 ∧ nbE g 112 p = n2E g p := ⟨rfl, rfl⟩
theorem nb_110 {g : Int → Int} {p : Int} : nbF g 110 p = n2F g p 0 99 99 ∧ nbE g 110 p = n2E g p := ⟨rfl, rfl⟩
theorem nb_115 {g : Int → Int} {p : Int} : nbF g 115 p = n2F g p 0 99 99 ∧ nbE g 115 p = n2E g p := ⟨rfl, rfl⟩
theorem nb_116 {g : Int → Int} {p : Int} : nbF g 116 p = cuF g 200 p (-1) ∧ nbE g 116 p = cuE g 200 p (-1) := ⟨rfl, rfl⟩
theorem sbv_all : sbv 0 0 = 98 ∧ sbv 0 1 = 100 ∧ sbv 0 2 = 111 ∧ sbv 0 3 = 108 ∧ sbv 0 4 = 102 ∧ sbv 0 5 = 118 ∧ sbv 0 6 = 119 ∧ sbv 0 7 = 104 ∧ sbv 0 8 = 121 ∧ sbv 0 9 = 103 ∧ sbv 0 10 = 109 ∧ sbv 0 11 = 112 ∧ sbv 0 12 = 110 ∧ sbv 0 13 = 115 ∧ sbv 0 14 = 116 := by decide +kernel
theorem sbv_0 : sbv 0 0 = 98 := sbv_all.1
theorem sbv_1 : sbv 0 1 = 100 := sbv_all.2.1
theorem sbv_2 : sbv 0 2 = 111 := sbv_all.2.2.1
theorem sbv_3 : sbv 0 3 = 108 := sbv_all.2.2.2.1
theorem sbv_4 : sbv 0 4 = 102 := sbv_all.2.2.2.2.1
theorem sbv_5 : sbv 0 5 = 118 := sbv_all.2.2.2.2.2.1
theorem sbv_6 : sbv 0 6 = 119 := sbv_all.2.2.2.2.2.2.1
theorem sbv_7 : sbv 0 7 = 104 := sbv_all.2.2.2.2.2.2.2.1
theorem sbv_8 : sbv 0 8 = 121 := sbv_all.2.2.2.2.2.2.2.2.1
theorem sbv_9 : sbv 0 9 = 103 := sbv_all.2.2.2.2.2.2.2.2.2.1
theorem sbv_10 : sbv 0 10 = 109 := sbv_all.2.2.2.2.2.2.2.2.2.2.1
theorem sbv_11 : sbv 0 11 = 112 := sbv_all.2.2.2.2.2.2.2.2.2.2.2.1
theorem sbv_12 : sbv 0 12 = 110 := sbv_all.2.2.2.2.2.2.2.2.2.2.2.2.1
theorem sbv_13 : sbv 0 13 = 115 := sbv_all.2.2.2.2.2.2.2.2.2.2.2.2.2.1
theorem sbv_14 : sbv 0 14 = 116 := sbv_all.2.2.2.2.2.2.2.2.2.2.2.2.2.2
theorem xv_all_102 : xvv 102 0 = 1 ∧ xvv 102 1 = 1 ∧ xvv 102 2 = 1 ∧ xvv 102 3 = 1 ∧ xvv 102 4 = 1 ∧ xvv 102 5 = 1 ∧ xvv 102 6 = 1 ∧ xvv 102 7 = 1 ∧ xvv 102 8 = 3 ∧ xvv 102 9 = 3 ∧ xvv 102 10 = 1 ∧ xvv 102 11 = 2 ∧ xvv 102 12 = 2 ∧ xvv 102 13 = 2 ∧ xvv 102 14 = 0 := by decide +kernel
theorem xv_102_0 : xvv 102 0 = 1 := xv_all_102.1
theorem xv_102_1 : xvv 102 1 = 1 := xv_all_102.2.1
theorem xv_102_2 : xvv 102 2 = 1 := xv_all_102.2.2.1
theorem xv_102_3 : xvv 102 3 = 1 := xv_all_102.2.2.2.1
theorem xv_102_4 : xvv 102 4 = 1 := xv_all_102.2.2.2.2.1
theorem xv_102_5 : xvv 102 5 = 1 := xv_all_102.2.2.2.2.2.1
theorem xv_102_6 : xvv 102 6 = 1 := xv_all_102.2.2.2.2.2.2.1
theorem xv_102_7 : xvv 102 7 = 1 := xv_all_102.2.2.2.2.2.2.2.1
theorem xv_102_8 : xvv 102 8 = 3 := xv_all_102.2.2.2.2.2.2.2.2.1
theorem xv_102_9 : xvv 102 9 = 3 := xv_all_102.2.2.2.2.2.2.2.2.2.1
theorem xv_102_10 : xvv 102 10 = 1 := xv_all_102.2.2.2.2.2.2.2.2.2.2.1
theorem xv_102_11 : xvv 102 11 = 2 := xv_all_102.2.2.2.2.2.2.2.2.2.2.2.1
theorem xv_102_12 : xvv 102 12 = 2 := xv_all_102.2.2.2.2.2.2.2.2.2.2.2.2.1
theorem xv_102_13 : xvv 102 13 = 2 := xv_all_102.2.2.2.2.2.2.2.2.2.2.2.2.2.1
theorem xv_102_14 : xvv 102 14 = 0 := xv_all_102.2.2.2.2.2.2.2.2.2.2.2.2.2.2
theorem xv_all_103 : xvv 103 0 = 0 ∧ xvv 103 1 = 0 ∧ xvv 103 2 = 1 ∧ xvv 103 3 = 0 ∧ xvv 103 4 = 0 ∧ xvv 103 5 = 1 ∧ xvv 103 6 = 0 ∧ xvv 103 7 = 0 ∧ xvv 103 8 = 0 ∧ xvv 103 9 = 0 ∧ xvv 103 10 = 0 ∧ xvv 103 11 = 1 ∧ xvv 103 12 = 0 ∧ xvv 103 13 = 0 ∧ xvv 103 14 = 0 := by decide +kernel
theorem xv_103_0 : xvv 103 0 = 0 := xv_all_103.1
theorem xv_103_1 : xvv 103 1 = 0 := xv_all_103.2.1
theorem xv_103_2 : xvv 103 2 = 1 := xv_all_103.2.2.1
theorem xv_103_3 : xvv 103 3 = 0 := xv_all_103.2.2.2.1
theorem xv_103_4 : xvv 103 4 = 0 := xv_all_103.2.2.2.2.1
theorem xv_103_5 : xvv 103 5 = 1 := xv_all_103.2.2.2.2.2.1
theorem xv_103_6 : xvv 103 6 = 0 := xv_all_103.2.2.2.2.2.2.1
theorem xv_103_7 : xvv 103 7 = 0 := xv_all_103.2.2.2.2.2.2.2.1
theorem xv_103_8 : xvv 103 8 = 0 := xv_all_103.2.2.2.2.2.2.2.2.1
theorem xv_103_9 : xvv 103 9 = 0 := xv_all_103.2.2.2.2.2.2.2.2.2.1
theorem xv_103_10 : xvv 103 10 = 0 := xv_all_103.2.2.2.2.2.2.2.2.2.2.1
theorem xv_103_11 : xvv 103 11 = 1 := xv_all_103.2.2.2.2.2.2.2.2.2.2.2.1
theorem xv_103_12 : xvv 103 12 = 0 := xv_all_103.2.2.2.2.2.2.2.2.2.2.2.2.1
theorem xv_103_13 : xvv 103 13 = 0 := xv_all_103.2.2.2.2.2.2.2.2.2.2.2.2.2.1
theorem xv_103_14 : xvv 103 14 = 0 := xv_all_103.2.2.2.2.2.2.2.2.2.2.2.2.2.2
theorem xv_all_104 : xvv 104 0 = 255 ∧ xvv 104 1 = 255 ∧ xvv 104 2 = 4 ∧ xvv 104 3 = 99 ∧ xvv 104 4 = 1 ∧ xvv 104 5 = 3 ∧ xvv 104 6 = 255 ∧ xvv 104 7 = 254 ∧ xvv 104 8 = 32 ∧ xvv 104 9 = 99 ∧ xvv 104 10 = 99 ∧ xvv 104 11 = 4 ∧ xvv 104 12 = 99 ∧ xvv 104 13 = 99 ∧ xvv 104 14 = 0 := by decide +kernel
theorem xv_104_0 : xvv 104 0 = 255 := xv_all_104.1
theorem xv_104_1 : xvv 104 1 = 255 := xv_all_104.2.1
theorem xv_104_2 : xvv 104 2 = 4 := xv_all_104.2.2.1
theorem xv_104_3 : xvv 104 3 = 99 := xv_all_104.2.2.2.1
theorem xv_104_4 : xvv 104 4 = 1 := xv_all_104.2.2.2.2.1
theorem xv_104_5 : xvv 104 5 = 3 := xv_all_104.2.2.2.2.2.1
theorem xv_104_6 : xvv 104 6 = 255 := xv_all_104.2.2.2.2.2.2.1
theorem xv_104_7 : xvv 104 7 = 254 := xv_all_104.2.2.2.2.2.2.2.1
theorem xv_104_8 : xvv 104 8 = 32 := xv_all_104.2.2.2.2.2.2.2.2.1
theorem xv_104_9 : xvv 104 9 = 99 := xv_all_104.2.2.2.2.2.2.2.2.2.1
theorem xv_104_10 : xvv 104 10 = 99 := xv_all_104.2.2.2.2.2.2.2.2.2.2.1
theorem xv_104_11 : xvv 104 11 = 4 := xv_all_104.2.2.2.2.2.2.2.2.2.2.2.1
theorem xv_104_12 : xvv 104 12 = 99 := xv_all_104.2.2.2.2.2.2.2.2.2.2.2.2.1
theorem xv_104_13 : xvv 104 13 = 99 := xv_all_104.2.2.2.2.2.2.2.2.2.2.2.2.2.1
theorem xv_104_14 : xvv 104 14 = 0 := xv_all_104.2.2.2.2.2.2.2.2.2.2.2.2.2.2
theorem xv_all_105 : xvv 105 0 = 0 ∧ xvv 105 1 = 0 ∧ xvv 105 2 = 0 ∧ xvv 105 3 = 0 ∧ xvv 105 4 = 0 ∧ xvv 105 5 = 0 ∧ xvv 105 6 = 0 ∧ xvv 105 7 = 0 ∧ xvv 105 8 = 32 ∧ xvv 105 9 = 99 ∧ xvv 105 10 = 0 ∧ xvv 105 11 = 32 ∧ xvv 105 12 = 99 ∧ xvv 105 13 = 99 ∧ xvv 105 14 = 255 := by decide +kernel
theorem xv_105_0 : xvv 105 0 = 0 := xv_all_105.1
theorem xv_105_1 : xvv 105 1 = 0 := xv_all_105.2.1
theorem xv_105_2 : xvv 105 2 = 0 := xv_all_105.2.2.1
theorem xv_105_3 : xvv 105 3 = 0 := xv_all_105.2.2.2.1
theorem xv_105_4 : xvv 105 4 = 0 := xv_all_105.2.2.2.2.1
theorem xv_105_5 : xvv 105 5 = 0 := xv_all_105.2.2.2.2.2.1
theorem xv_105_6 : xvv 105 6 = 0 := xv_all_105.2.2.2.2.2.2.1
theorem xv_105_7 : xvv 105 7 = 0 := xv_all_105.2.2.2.2.2.2.2.1
theorem xv_105_8 : xvv 105 8 = 32 := xv_all_105.2.2.2.2.2.2.2.2.1
theorem xv_105_9 : xvv 105 9 = 99 := xv_all_105.2.2.2.2.2.2.2.2.2.1
theorem xv_105_10 : xvv 105 10 = 0 := xv_all_105.2.2.2.2.2.2.2.2.2.2.1
theorem xv_105_11 : xvv 105 11 = 32 := xv_all_105.2.2.2.2.2.2.2.2.2.2.2.1
theorem xv_105_12 : xvv 105 12 = 99 := xv_all_105.2.2.2.2.2.2.2.2.2.2.2.2.1
theorem xv_105_13 : xvv 105 13 = 99 := xv_all_105.2.2.2.2.2.2.2.2.2.2.2.2.2.1
theorem xv_105_14 : xvv 105 14 = 255 := xv_all_105.2.2.2.2.2.2.2.2.2.2.2.2.2.2
/-- a number of a static row is within a byte -/
theorem xvv_b' : ∀ k : Fin 4, ∀ j : Fin 15, 0 ≤ xvv (102 + k) j ∧ xvv (102 + k) j ≤ 255 := by decide +kernel
theorem xvv_b (k j : Nat) (h : (102 ≤ k ∧ k ≤ 105) ∧ j < 15) : 0 ≤ xvv k j ∧ xvv k j ≤ 255 := by
  have z := xvv_b' ⟨k - 102, by omega⟩ ⟨j, h.2⟩
  rwa [show 102 + (k - 102) = k by omega] at z
def mnF (g : Int → Int) (p m a b l : Int) : Int := if m = 1 then nF g p a b else if m = 2 then n2F g p a b l else n3F g p a b l
def mnE (g : Int → Int) (p m : Int) : Int := if m = 1 then p + nD g p else if m = 2 then n2E g p else n3E g p
theorem mnFc (g : Int → Int) (p m a b l : Int) : (m = 1 ∧ mnF g p m a b l = nF g p a b ∧ mnE g p m = p + nD g p) ∨ (m ≠ 1 ∧ m = 2 ∧ mnF g p m a b l = n2F g p a b l ∧ mnE g p m = n2E g p) ∨ (m ≠ 1 ∧ m ≠ 2 ∧ mnF g p m a b l = n3F g p a b l ∧ mnE g p m = n3E g p) := by
  unfold mnF mnE
  by_cases h1 : m = 1
  · exact Or.inl ⟨h1, if_pos h1, if_pos h1⟩
  by_cases h2 : m = 2
  · exact Or.inr (Or.inl ⟨h1, h2, by rw [if_neg h1, if_pos h2], by rw [if_neg h1, if_pos h2]⟩)
  · exact Or.inr (Or.inr ⟨h1, h2, by rw [if_neg h1, if_neg h2], by rw [if_neg h1, if_neg h2]⟩)
theorem nb_kind {g : Int → Int} {p : Int} (r : Nat) (hr : r < 14) : nbF g (sbv 0 r) p = mnF g p (xvv 102 r) (xvv 103 r) (xvv 104 r) (xvv 105 r) ∧ nbE g (sbv 0 r) p = mnE g p (xvv 102 r) := by
  match r, hr with
  | 0, _ => rw [sbv_0, xv_102_0, xv_103_0, xv_104_0, xv_105_0]; exact ⟨nb_98.1, nb_98.2⟩
  | 1, _ => rw [sbv_1, xv_102_1, xv_103_1, xv_104_1, xv_105_1]; exact ⟨nb_100.1, nb_100.2⟩
  | 2, _ => rw [sbv_2, xv_102_2, xv_103_2, xv_104_2, xv_105_2]; exact ⟨nb_111.1, nb_111.2⟩
  | 3, _ => rw [sbv_3, xv_102_3, xv_103_3, xv_104_3, xv_105_3]; exact ⟨nb_108.1, nb_108.2⟩
  | 4, _ => rw [sbv_4, xv_102_4, xv_103_4, xv_104_4, xv_105_4]; exact ⟨nb_102.1, nb_102.2⟩
  | 5, _ => rw [sbv_5, xv_102_5, xv_103_5, xv_104_5, xv_105_5]; exact ⟨nb_118.1, nb_118.2⟩
  | 6, _ => rw [sbv_6, xv_102_6, xv_103_6, xv_104_6, xv_105_6]; exact ⟨nb_119.1, nb_119.2⟩
  | 7, _ => rw [sbv_7, xv_102_7, xv_103_7, xv_104_7, xv_105_7]; exact ⟨nb_104.1, nb_104.2⟩
  | 8, _ => rw [sbv_8, xv_102_8, xv_103_8, xv_104_8, xv_105_8]; exact ⟨nb_121.1, nb_121.2⟩
  | 9, _ => rw [sbv_9, xv_102_9, xv_103_9, xv_104_9, xv_105_9]; exact ⟨nb_103.1, nb_103.2⟩
  | 10, _ => rw [sbv_10, xv_102_10, xv_103_10, xv_104_10, xv_105_10]; exact ⟨nb_109.1, nb_109.2⟩
  | 11, _ => rw [sbv_11, xv_102_11, xv_103_11, xv_104_11, xv_105_11]; exact ⟨nb_112.1, nb_112.2⟩
  | 12, _ => rw [sbv_12, xv_102_12, xv_103_12, xv_104_12, xv_105_12]; exact ⟨nb_110.1, nb_110.2⟩
  | 13, _ => rw [sbv_13, xv_102_13, xv_103_13, xv_104_13, xv_105_13]; exact ⟨nb_115.1, nb_115.2⟩
theorem xvv_m' : ∀ j : Fin 14, 1 ≤ xvv 102 j ∧ xvv 102 j ≤ 3 := by decide +kernel
theorem xvv_m (j : Nat) (h : j < 14) : 1 ≤ xvv 102 j ∧ xvv 102 j ≤ 3 := xvv_m' ⟨j, h⟩
theorem sbv_b' : ∀ j : Fin 15, 97 ≤ sbv 0 j ∧ sbv 0 j ≤ 122 := by decide +kernel
theorem sbv_b (j : Nat) (h : j < 15) : 97 ≤ sbv 0 j ∧ sbv 0 j ≤ 122 := sbv_b' ⟨j, h⟩
theorem i2cE {a : Int} (ha : 0 ≤ a ∧ a ≤ 65535) : ((Int32.ofInt a).toUInt32 % 65536).toInt32.toInt = a := by
  have e1 : ((Int32.ofInt a).toUInt32 % 65536).toNat = a.toNat := by
    rw [UInt32.toNat_mod, ush2]
    show (a % 4294967296).toNat % 65536 = a.toNat
    omega
  have e0 : ∀ x : UInt32, x.toInt32.toInt = x.toBitVec.toInt := fun _ => rfl
  have e2 : ∀ x : UInt32, x.toBitVec.toNat = x.toNat := fun _ => rfl
  rw [e0, BitVec.toInt_eq_toNat_of_lt (by rw [e2, e1]; omega), e2, e1]
  omega
theorem zW_i2cE {G : Ga} {μ : Mt} {Q : Int → Hp → Prop} {pc pc' : Nat} {ls : Lo} {st : List Sv} {h : Hp} {a : Int} (ha : 0 ≤ a ∧ a ≤ 65535) (hd : decode μ.1 pc = .ok (.i2c, 1)) (hn : pc + 1 = pc') (kk : ∀ v : Int, v = a → zV G μ Q pc' ls (.inl v :: st) h) : zV G μ Q pc ls (.inl a :: st) h := by
  subst hn
  intro p e s m args below meth c H locs lsA C hP hS hL
  exact lv_i2c C.1 C.2.1 hd rfl (zV_any32 C hP hS hL (kk _ (i2cE ha)))
/-- a letter's kind -/
def kd (c : Int) : Int := if c = 98 then 0 else if c = 100 then 1 else if c = 111 then 2 else if c = 108 then 3 else if c = 102 then 4 else if c = 118 then 5 else if c = 119 then 6 else if c = 104 then 7 else if c = 121 then 8 else if c = 103 then 9 else if c = 109 then 10 else if c = 112 then 11 else if c = 110 then 12 else if c = 115 then 13 else if c = 116 then 14 else -1
theorem kd_ix {c r : Int} (h : (r = -1 ∧ ∀ j : Nat, j < 15 → sbv 0 j ≠ c) ∨ (0 ≤ r ∧ r < 15 ∧ sbv 0 r.toNat = c)) : r = kd c := by
  rcases h with ⟨e, h⟩ | ⟨h0, h1, h⟩
  · unfold kd
    rw [if_neg (fun z => h 0 (by decide) (sbv_0.trans z.symm)), if_neg (fun z => h 1 (by decide) (sbv_1.trans z.symm)), if_neg (fun z => h 2 (by decide) (sbv_2.trans z.symm)), if_neg (fun z => h 3 (by decide) (sbv_3.trans z.symm)), if_neg (fun z => h 4 (by decide) (sbv_4.trans z.symm)), if_neg (fun z => h 5 (by decide) (sbv_5.trans z.symm)), if_neg (fun z => h 6 (by decide) (sbv_6.trans z.symm)), if_neg (fun z => h 7 (by decide) (sbv_7.trans z.symm)), if_neg (fun z => h 8 (by decide) (sbv_8.trans z.symm)), if_neg (fun z => h 9 (by decide) (sbv_9.trans z.symm)), if_neg (fun z => h 10 (by decide) (sbv_10.trans z.symm)), if_neg (fun z => h 11 (by decide) (sbv_11.trans z.symm)), if_neg (fun z => h 12 (by decide) (sbv_12.trans z.symm)), if_neg (fun z => h 13 (by decide) (sbv_13.trans z.symm)), if_neg (fun z => h 14 (by decide) (sbv_14.trans z.symm))]
    exact e
  · have key : ∀ j : Fin 15, kd (sbv 0 j) = ((j : Nat) : Int) := by decide +kernel
    have z := key ⟨r.toNat, by omega⟩
    rw [h] at z
    rw [z]
    show r = ((r.toNat : Nat) : Int)
    omega
theorem kd_c (c : Int) : (kd c = -1 ∧ c ≠ 98 ∧ c ≠ 100 ∧ c ≠ 111 ∧ c ≠ 108 ∧ c ≠ 102 ∧ c ≠ 118 ∧ c ≠ 119 ∧ c ≠ 104 ∧ c ≠ 121 ∧ c ≠ 103 ∧ c ≠ 109 ∧ c ≠ 112 ∧ c ≠ 110 ∧ c ≠ 115 ∧ c ≠ 116) ∨ (kd c = 0 ∧ c = 98) ∨ (kd c = 1 ∧ c = 100) ∨ (kd c = 2 ∧ c = 111) ∨ (kd c = 3 ∧ c = 108) ∨ (kd c = 4 ∧ c = 102) ∨ (kd c = 5 ∧ c = 118) ∨ (kd c = 6 ∧ c = 119) ∨ (kd c = 7 ∧ c = 104) ∨ (kd c = 8 ∧ c = 121) ∨ (kd c = 9 ∧ c = 103) ∨ (kd c = 10 ∧ c = 109) ∨ (kd c = 11 ∧ c = 112) ∨ (kd c = 12 ∧ c = 110) ∨ (kd c = 13 ∧ c = 115) ∨ (kd c = 14 ∧ c = 116) := by
  by_cases e0 : c = 98
  · exact Or.inr (Or.inl (⟨by unfold kd; rw [if_pos e0], e0⟩))
  by_cases e1 : c = 100
  · exact Or.inr (Or.inr (Or.inl (⟨by unfold kd; rw [if_neg e0, if_pos e1], e1⟩)))
  by_cases e2 : c = 111
  · exact Or.inr (Or.inr (Or.inr (Or.inl (⟨by unfold kd; rw [if_neg e0, if_neg e1, if_pos e2], e2⟩))))
  by_cases e3 : c = 108
  · exact Or.inr (Or.inr (Or.inr (Or.inr (Or.inl (⟨by unfold kd; rw [if_neg e0, if_neg e1, if_neg e2, if_pos e3], e3⟩)))))
  by_cases e4 : c = 102
  · exact Or.inr (Or.inr (Or.inr (Or.inr (Or.inr (Or.inl (⟨by unfold kd; rw [if_neg e0, if_neg e1, if_neg e2, if_neg e3, if_pos e4], e4⟩))))))
  by_cases e5 : c = 118
  · exact Or.inr (Or.inr (Or.inr (Or.inr (Or.inr (Or.inr (Or.inl (⟨by unfold kd; rw [if_neg e0, if_neg e1, if_neg e2, if_neg e3, if_neg e4, if_pos e5], e5⟩)))))))
  by_cases e6 : c = 119
  · exact Or.inr (Or.inr (Or.inr (Or.inr (Or.inr (Or.inr (Or.inr (Or.inl (⟨by unfold kd; rw [if_neg e0, if_neg e1, if_neg e2, if_neg e3, if_neg e4, if_neg e5, if_pos e6], e6⟩))))))))
  by_cases e7 : c = 104
  · exact Or.inr (Or.inr (Or.inr (Or.inr (Or.inr (Or.inr (Or.inr (Or.inr (Or.inl (⟨by unfold kd; rw [if_neg e0, if_neg e1, if_neg e2, if_neg e3, if_neg e4, if_neg e5, if_neg e6, if_pos e7], e7⟩)))))))))
  by_cases e8 : c = 121
  · exact Or.inr (Or.inr (Or.inr (Or.inr (Or.inr (Or.inr (Or.inr (Or.inr (Or.inr (Or.inl (⟨by unfold kd; rw [if_neg e0, if_neg e1, if_neg e2, if_neg e3, if_neg e4, if_neg e5, if_neg e6, if_neg e7, if_pos e8], e8⟩))))))))))
  by_cases e9 : c = 103
  · exact Or.inr (Or.inr (Or.inr (Or.inr (Or.inr (Or.inr (Or.inr (Or.inr (Or.inr (Or.inr (Or.inl (⟨by unfold kd; rw [if_neg e0, if_neg e1, if_neg e2, if_neg e3, if_neg e4, if_neg e5, if_neg e6, if_neg e7, if_neg e8, if_pos e9], e9⟩)))))))))))
  by_cases e10 : c = 109
  · exact Or.inr (Or.inr (Or.inr (Or.inr (Or.inr (Or.inr (Or.inr (Or.inr (Or.inr (Or.inr (Or.inr (Or.inl (⟨by unfold kd; rw [if_neg e0, if_neg e1, if_neg e2, if_neg e3, if_neg e4, if_neg e5, if_neg e6, if_neg e7, if_neg e8, if_neg e9, if_pos e10], e10⟩))))))))))))
  by_cases e11 : c = 112
  · exact Or.inr (Or.inr (Or.inr (Or.inr (Or.inr (Or.inr (Or.inr (Or.inr (Or.inr (Or.inr (Or.inr (Or.inr (Or.inl (⟨by unfold kd; rw [if_neg e0, if_neg e1, if_neg e2, if_neg e3, if_neg e4, if_neg e5, if_neg e6, if_neg e7, if_neg e8, if_neg e9, if_neg e10, if_pos e11], e11⟩)))))))))))))
  by_cases e12 : c = 110
  · exact Or.inr (Or.inr (Or.inr (Or.inr (Or.inr (Or.inr (Or.inr (Or.inr (Or.inr (Or.inr (Or.inr (Or.inr (Or.inr (Or.inl (⟨by unfold kd; rw [if_neg e0, if_neg e1, if_neg e2, if_neg e3, if_neg e4, if_neg e5, if_neg e6, if_neg e7, if_neg e8, if_neg e9, if_neg e10, if_neg e11, if_pos e12], e12⟩))))))))))))))
  by_cases e13 : c = 115
  · exact Or.inr (Or.inr (Or.inr (Or.inr (Or.inr (Or.inr (Or.inr (Or.inr (Or.inr (Or.inr (Or.inr (Or.inr (Or.inr (Or.inr (Or.inl (⟨by unfold kd; rw [if_neg e0, if_neg e1, if_neg e2, if_neg e3, if_neg e4, if_neg e5, if_neg e6, if_neg e7, if_neg e8, if_neg e9, if_neg e10, if_neg e11, if_neg e12, if_pos e13], e13⟩)))))))))))))))
  by_cases e14 : c = 116
  · exact Or.inr (Or.inr (Or.inr (Or.inr (Or.inr (Or.inr (Or.inr (Or.inr (Or.inr (Or.inr (Or.inr (Or.inr (Or.inr (Or.inr (Or.inr (⟨by unfold kd; rw [if_neg e0, if_neg e1, if_neg e2, if_neg e3, if_neg e4, if_neg e5, if_neg e6, if_neg e7, if_neg e8, if_neg e9, if_neg e10, if_neg e11, if_neg e12, if_neg e13, if_pos e14], e14⟩)))))))))))))))
  exact Or.inl ⟨by unfold kd; rw [if_neg e0, if_neg e1, if_neg e2, if_neg e3, if_neg e4, if_neg e5, if_neg e6, if_neg e7, if_neg e8, if_neg e9, if_neg e10, if_neg e11, if_neg e12, if_neg e13, if_neg e14], e0, e1, e2, e3, e4, e5, e6, e7, e8, e9, e10, e11, e12, e13, e14⟩
theorem kd_b (c : Int) : -1 ≤ kd c ∧ kd c ≤ 14 := by
  rcases kd_c c with ⟨z, -⟩ | ⟨z, -⟩ | ⟨z, -⟩ | ⟨z, -⟩ | ⟨z, -⟩ | ⟨z, -⟩ | ⟨z, -⟩ | ⟨z, -⟩ | ⟨z, -⟩ | ⟨z, -⟩ | ⟨z, -⟩ | ⟨z, -⟩ | ⟨z, -⟩ | ⟨z, -⟩ | ⟨z, -⟩ | ⟨z, -⟩ <;> (rw [z]; decide)
theorem kd_e (c : Int) : (0 ≤ kd c ∧ kd c ≤ 4) ↔ (c = 98 ∨ c = 100 ∨ c = 111 ∨ c = 108 ∨ c = 102) := by
  rcases kd_c c with ⟨z, n0, n1, n2, n3, n4, n5, n6, n7, n8, n9, n10, n11, n12, n13, n14⟩ | ⟨z, rfl⟩ | ⟨z, rfl⟩ | ⟨z, rfl⟩ | ⟨z, rfl⟩ | ⟨z, rfl⟩ | ⟨z, rfl⟩ | ⟨z, rfl⟩ | ⟨z, rfl⟩ | ⟨z, rfl⟩ | ⟨z, rfl⟩ | ⟨z, rfl⟩ | ⟨z, rfl⟩ | ⟨z, rfl⟩ | ⟨z, rfl⟩ | ⟨z, rfl⟩
  · rw [z]
    refine ⟨fun q => absurd q (by decide), fun q => ?_⟩
    rcases q with q | q | q | q | q
    · exact absurd q n0
    · exact absurd q n1
    · exact absurd q n2
    · exact absurd q n3
    · exact absurd q n4
  · rw [z]; decide
  · rw [z]; decide
  · rw [z]; decide
  · rw [z]; decide
  · rw [z]; decide
  · rw [z]; decide
  · rw [z]; decide
  · rw [z]; decide
  · rw [z]; decide
  · rw [z]; decide
  · rw [z]; decide
  · rw [z]; decide
  · rw [z]; decide
  · rw [z]; decide
  · rw [z]; decide
theorem kd_l (c : Int) : 5 ≤ kd c ↔ (c = 118 ∨ c = 119 ∨ c = 104 ∨ c = 121 ∨ c = 103 ∨ c = 109 ∨ c = 112 ∨ c = 110 ∨ c = 115 ∨ c = 116) := by
  rcases kd_c c with ⟨z, n0, n1, n2, n3, n4, n5, n6, n7, n8, n9, n10, n11, n12, n13, n14⟩ | ⟨z, rfl⟩ | ⟨z, rfl⟩ | ⟨z, rfl⟩ | ⟨z, rfl⟩ | ⟨z, rfl⟩ | ⟨z, rfl⟩ | ⟨z, rfl⟩ | ⟨z, rfl⟩ | ⟨z, rfl⟩ | ⟨z, rfl⟩ | ⟨z, rfl⟩ | ⟨z, rfl⟩ | ⟨z, rfl⟩ | ⟨z, rfl⟩ | ⟨z, rfl⟩
  · rw [z]
    refine ⟨fun q => absurd q (by decide), fun q => ?_⟩
    rcases q with q | q | q | q | q | q | q | q | q | q
    · exact absurd q n5
    · exact absurd q n6
    · exact absurd q n7
    · exact absurd q n8
    · exact absurd q n9
    · exact absurd q n10
    · exact absurd q n11
    · exact absurd q n12
    · exact absurd q n13
    · exact absurd q n14
  · rw [z]; decide
  · rw [z]; decide
  · rw [z]; decide
  · rw [z]; decide
  · rw [z]; decide
  · rw [z]; decide
  · rw [z]; decide
  · rw [z]; decide
  · rw [z]; decide
  · rw [z]; decide
  · rw [z]; decide
  · rw [z]; decide
  · rw [z]; decide
  · rw [z]; decide
  · rw [z]; decide
theorem kd_f (c : Int) : kd c = 4 ↔ c = 102 := by
  rcases kd_c c with ⟨z, n0, n1, n2, n3, n4, n5, n6, n7, n8, n9, n10, n11, n12, n13, n14⟩ | ⟨z, rfl⟩ | ⟨z, rfl⟩ | ⟨z, rfl⟩ | ⟨z, rfl⟩ | ⟨z, rfl⟩ | ⟨z, rfl⟩ | ⟨z, rfl⟩ | ⟨z, rfl⟩ | ⟨z, rfl⟩ | ⟨z, rfl⟩ | ⟨z, rfl⟩ | ⟨z, rfl⟩ | ⟨z, rfl⟩ | ⟨z, rfl⟩ | ⟨z, rfl⟩
  · rw [z]
    refine ⟨fun q => absurd q (by decide), ?_⟩
    exact fun q => absurd q n4
  · rw [z]; decide
  · rw [z]; decide
  · rw [z]; decide
  · rw [z]; decide
  · rw [z]; decide
  · rw [z]; decide
  · rw [z]; decide
  · rw [z]; decide
  · rw [z]; decide
  · rw [z]; decide
  · rw [z]; decide
  · rw [z]; decide
  · rw [z]; decide
  · rw [z]; decide
  · rw [z]; decide
theorem kd_t (c : Int) : kd c = 14 ↔ c = 116 := by
  rcases kd_c c with ⟨z, n0, n1, n2, n3, n4, n5, n6, n7, n8, n9, n10, n11, n12, n13, n14⟩ | ⟨z, rfl⟩ | ⟨z, rfl⟩ | ⟨z, rfl⟩ | ⟨z, rfl⟩ | ⟨z, rfl⟩ | ⟨z, rfl⟩ | ⟨z, rfl⟩ | ⟨z, rfl⟩ | ⟨z, rfl⟩ | ⟨z, rfl⟩ | ⟨z, rfl⟩ | ⟨z, rfl⟩ | ⟨z, rfl⟩ | ⟨z, rfl⟩ | ⟨z, rfl⟩
  · rw [z]
    refine ⟨fun q => absurd q (by decide), ?_⟩
    exact fun q => absurd q n14
  · rw [z]; decide
  · rw [z]; decide
  · rw [z]; decide
  · rw [z]; decide
  · rw [z]; decide
  · rw [z]; decide
  · rw [z]; decide
  · rw [z]; decide
  · rw [z]; decide
  · rw [z]; decide
  · rw [z]; decide
  · rw [z]; decide
  · rw [z]; decide
  · rw [z]; decide
  · rw [z]; decide
def nxf (g : Int → Int) (p m f : Int) : Int := if g p = 102 then m + 1 else f
theorem kd_n {c : Int} (h : c < 0) : kd c = -1 := by
  rcases kd_c c with ⟨z, -⟩ | ⟨z, e⟩ | ⟨z, e⟩ | ⟨z, e⟩ | ⟨z, e⟩ | ⟨z, e⟩ | ⟨z, e⟩ | ⟨z, e⟩ | ⟨z, e⟩ | ⟨z, e⟩ | ⟨z, e⟩ | ⟨z, e⟩ | ⟨z, e⟩ | ⟨z, e⟩ | ⟨z, e⟩ | ⟨z, e⟩
  · exact z
  · omega
  · omega
  · omega
  · omega
  · omega
  · omega
  · omega
  · omega
  · omega
  · omega
  · omega
  · omega
  · omega
  · omega
  · omega
theorem nxfc (g : Int → Int) (p m f : Int) : (g p = 102 ∧ nxf g p m f = m + 1) ∨ (g p ≠ 102 ∧ nxf g p m f = f) := by
  unfold nxf
  by_cases h : g p = 102
  · exact Or.inl ⟨h, if_pos h⟩
  · exact Or.inr ⟨h, if_neg h⟩
theorem kd_s {c : Int} (h : 0 ≤ kd c) : sbv 0 (kd c).toNat = c := by
  have z := kd_c c
  rcases z with ⟨z, -⟩ | ⟨z, e⟩ | ⟨z, e⟩ | ⟨z, e⟩ | ⟨z, e⟩ | ⟨z, e⟩ | ⟨z, e⟩ | ⟨z, e⟩ | ⟨z, e⟩ | ⟨z, e⟩ | ⟨z, e⟩ | ⟨z, e⟩ | ⟨z, e⟩ | ⟨z, e⟩ | ⟨z, e⟩ | ⟨z, e⟩
  · omega
  · rw [z, e]; exact sbv_0
  · rw [z, e]; exact sbv_1
  · rw [z, e]; exact sbv_2
  · rw [z, e]; exact sbv_3
  · rw [z, e]; exact sbv_4
  · rw [z, e]; exact sbv_5
  · rw [z, e]; exact sbv_6
  · rw [z, e]; exact sbv_7
  · rw [z, e]; exact sbv_8
  · rw [z, e]; exact sbv_9
  · rw [z, e]; exact sbv_10
  · rw [z, e]; exact sbv_11
  · rw [z, e]; exact sbv_12
  · rw [z, e]; exact sbv_13
  · rw [z, e]; exact sbv_14
def lF (g : Int → Int) (p m f : Int) : Int := if kd (g p) < 0 then -1000 - p else if m = 12 then -4000 - p else if (kd (g p) ≤ 4 ↔ f ≠ 0) then -6000 - p else 0
theorem lFc (g : Int → Int) (p m f : Int) : (kd (g p) < 0 ∧ lF g p m f = -1000 - p) ∨ (0 ≤ kd (g p) ∧ m = 12 ∧ lF g p m f = -4000 - p) ∨ (0 ≤ kd (g p) ∧ m ≠ 12 ∧ ((kd (g p) ≤ 4 ∧ f ≠ 0) ∨ (4 < kd (g p) ∧ f = 0)) ∧ lF g p m f = -6000 - p) ∨ (0 ≤ kd (g p) ∧ m ≠ 12 ∧ ((kd (g p) ≤ 4 ∧ f = 0) ∨ (4 < kd (g p) ∧ f ≠ 0)) ∧ lF g p m f = 0) := by
  unfold lF
  by_cases h0 : kd (g p) < 0
  · exact Or.inl ⟨h0, if_pos h0⟩
  by_cases h1 : m = 12
  · exact Or.inr (Or.inl ⟨by omega, h1, by rw [if_neg h0, if_pos h1]⟩)
  by_cases h2 : (kd (g p) ≤ 4 ↔ f ≠ 0)
  · exact Or.inr (Or.inr (Or.inl ⟨by omega, h1, by omega, by rw [if_neg h0, if_neg h1, if_pos h2]⟩))
  · exact Or.inr (Or.inr (Or.inr ⟨by omega, h1, by omega, by rw [if_neg h0, if_neg h1, if_neg h2]⟩))
theorem lFn {g : Int → Int} {p m f : Int} (hp : 0 ≤ p) : lF g p m f ≤ 0 := by
  have h2 := lFc g p m f
  omega
theorem lFz {g : Int → Int} {p m f : Int} (h : lF g p m f = 0) (hp : 0 ≤ p) : 0 ≤ kd (g p) := by
  have h2 := lFc g p m f
  omega
def sgF (g : Int → Int) (p m f : Int) : Int := sq (sq (lF g p m f) (sF g (p + 1) 58)) (nbF g (g p) (p + 2))
def sgE (g : Int → Int) (p : Int) : Int := nbE g (g p) (p + 2)
def alF (g : Int → Int) (n : Int) : Nat → Int → Int → Int → Int
  | 0, _, _, _ => 0
  | k + 1, p, m, f => if sgF g p m f = 0 then (if sgE g p < n then (if sF g (sgE g p) 59 = 0 then alF g n k (sgE g p + 1) (m + 1) (nxf g p m f) else sF g (sgE g p) 59) else m + 1) else sgF g p m f
def alA (g : Int → Int) (n : Int) : Nat → Int → Int → Int → Int
  | 0, _, _, _ => 0
  | k + 1, p, m, f => if sgE g p < n then alA g n k (sgE g p + 1) (m + 1) (nxf g p m f) else nxf g p m f
def rdF (g : Int → Int) (n : Int) : Int := if n = 0 then 0 else alF g n 200 0 0 0
def rdA (g : Int → Int) (n : Int) : Int := if n = 0 then 0 else alA g n 200 0 0 0
/-- what stages answers, is what is answered from q on, with m stages read and f the filling one -/
def AlI (g : Int → Int) (n q m f : Int) : Prop := ∃ k : Nat, 190 - q < k ∧ rdF g n = alF g n k q m f ∧ rdA g n = alA g n k q m f
theorem AlI.rf {g : Int → Int} {n : Int} (h : n ≠ 0) : AlI g n 0 0 0 := ⟨200, by decide, if_neg h, if_neg h⟩
theorem AlI.go {g : Int → Int} {n q m f : Int} (h : AlI g n q m f) (hq : q ≤ 190) : (sgF g q m f ≠ 0 → rdF g n = sgF g q m f) ∧ (sgF g q m f = 0 → n ≤ sgE g q → rdF g n = m + 1 ∧ rdA g n = nxf g q m f) ∧ (sgF g q m f = 0 → sgE g q < n → sF g (sgE g q) 59 ≠ 0 → rdF g n = sF g (sgE g q) 59) ∧ (sgF g q m f = 0 → sgE g q < n → sF g (sgE g q) 59 = 0 → q < sgE g q → AlI g n (sgE g q + 1) (m + 1) (nxf g q m f)) := by
  obtain ⟨k, k1, k2, k3⟩ := h
  obtain ⟨j, rfl⟩ : ∃ j, k = j + 1 := ⟨k - 1, by omega⟩
  have e1 : alF g n (j + 1) q m f = if sgF g q m f = 0 then (if sgE g q < n then (if sF g (sgE g q) 59 = 0 then alF g n j (sgE g q + 1) (m + 1) (nxf g q m f) else sF g (sgE g q) 59) else m + 1) else sgF g q m f := rfl
  have e2 : alA g n (j + 1) q m f = if sgE g q < n then alA g n j (sgE g q + 1) (m + 1) (nxf g q m f) else nxf g q m f := rfl
  rw [e1] at k2
  rw [e2] at k3
  refine ⟨fun a => ?_, fun a b => ?_, fun a b c => ?_, fun a b c d => ?_⟩
  · rw [if_neg a] at k2; exact k2
  · rw [if_pos a, if_neg (by omega)] at k2; rw [if_neg (by omega)] at k3; exact ⟨k2, k3⟩
  · rw [if_pos a, if_pos b, if_neg c] at k2; exact k2
  · rw [if_pos a, if_pos b, if_pos c] at k2; rw [if_pos b] at k3; exact ⟨j, by omega, k2, k3⟩
def pnF (g : Int → Int) (p a b l k : Int) : Int := if k = 0 then 0 else if k = 1 then nF g p a b else if k = 2 then n2F g p a b l else n3F g p a b l
def pnE (g : Int → Int) (p k : Int) : Int := if k = 0 then p else if k = 1 then p + nD g p else if k = 2 then n2E g p else n3E g p
theorem pn_s {g : Int → Int} {p a b l k : Int} (h : k = 1 ∨ k = 2) : pnF g p a b l (k + 1) = sq (pnF g p a b l k) (nxF g (pnE g p k) l) ∧ pnE g p (k + 1) = nxE g (pnE g p k) := by
  rcases h with rfl | rfl <;> exact ⟨rfl, rfl⟩
theorem pn_1 {g : Int → Int} {p a b l : Int} : pnF g p a b l 1 = nF g p a b ∧ pnE g p 1 = p + nD g p := ⟨rfl, rfl⟩
theorem pn_e {g : Int → Int} {p a b l m : Int} (h : 1 ≤ m ∧ m ≤ 3) : mnF g p m a b l = pnF g p a b l m ∧ mnE g p m = pnE g p m := by
  rcases (by omega : m = 1 ∨ m = 2 ∨ m = 3) with rfl | rfl | rfl <;> exact ⟨rfl, rfl⟩
theorem pn_x {g : Int → Int} {p a b l k m : Int} (h : 1 ≤ k ∧ k ≤ m ∧ m ≤ 3) (hf : pnF g p a b l k ≠ 0) : mnF g p m a b l = pnF g p a b l k := by
  rw [(pn_e (g := g) (p := p) (a := a) (b := b) (l := l) (m := m) (by omega)).1]
  rcases (by omega : k = m ∨ m = k + 1 ∨ m = k + 2) with rfl | rfl | rfl
  · rfl
  · rw [(pn_s (by omega)).1, sq_m hf]
  · have e : k = 1 := by omega
    subst e
    rw [show (1 : Int) + 2 = 2 + 1 from rfl, (pn_s (Or.inr rfl)).1, show (2 : Int) = 1 + 1 from rfl, (pn_s (Or.inl rfl)).1, sq_m hf, sq_m hf]
theorem a8 {a b c d e f g i n : Prop} (h : a ∧ b ∧ c ∧ d ∧ e ∧ f ∧ g ∧ i) (x : n) : a ∧ b ∧ c ∧ d ∧ e ∧ f ∧ g ∧ i ∧ n := ⟨h.1, h.2.1, h.2.2.1, h.2.2.2.1, h.2.2.2.2.1, h.2.2.2.2.2.1, h.2.2.2.2.2.2.1, h.2.2.2.2.2.2.2, x⟩
theorem nb_else {g : Int → Int} {c p : Int} (h : c ≠ 98 ∧ c ≠ 100 ∧ c ≠ 111 ∧ c ≠ 108 ∧ c ≠ 102 ∧ c ≠ 118 ∧ c ≠ 119 ∧ c ≠ 104 ∧ c ≠ 121 ∧ c ≠ 103 ∧ c ≠ 109 ∧ c ≠ 112 ∧ c ≠ 110 ∧ c ≠ 115) : nbF g c p = cuF g 200 p (-1) ∧ nbE g c p = cuE g 200 p (-1) := by
  unfold nbF nbE
  constructor
  · rw [if_neg (by omega), if_neg (by omega), if_neg (by omega), if_neg (by omega), if_neg (by omega), if_neg (by omega), if_neg (by omega), if_neg (by omega), if_neg (by omega), if_neg (by omega)]
  · rw [if_neg (by omega), if_neg (by omega), if_neg (by omega), if_neg (by omega), if_neg (by omega), if_neg (by omega), if_neg (by omega), if_neg (by omega), if_neg (by omega), if_neg (by omega)]
theorem sg_l {g : Int → Int} {p m f : Int} (h : lF g p m f ≠ 0) : sgF g p m f = lF g p m f := by
  unfold sgF
  rw [sq_m h, sq_m h]
theorem sg_s {g : Int → Int} {p m f : Int} (h : lF g p m f = 0) (hs : sF g (p + 1) 58 ≠ 0) : sgF g p m f = sF g (p + 1) 58 := by
  unfold sgF
  rw [sq_z h, sq_m hs]
theorem sg_n {g : Int → Int} {p m f : Int} (h : lF g p m f = 0) (hs : sF g (p + 1) 58 = 0) : sgF g p m f = nbF g (g p) (p + 2) := by
  unfold sgF
  rw [sq_z h, sq_z hs]
theorem sg_1 {g : Int → Int} {p m f : Int} (hp : 0 ≤ p) (h : kd (g p) < 0) : sgF g p m f = -1000 - p := by
  have e : lF g p m f = -1000 - p := if_pos h
  rw [sg_l (by omega), e]
theorem sg_4 {g : Int → Int} {p m f : Int} (hp : 0 ≤ p) (h : 0 ≤ kd (g p)) (hm : m = 12) : sgF g p m f = -4000 - p := by
  have e : lF g p m f = -4000 - p := by unfold lF; rw [if_neg (by omega), if_pos hm]
  rw [sg_l (by omega), e]
theorem sg_6 {g : Int → Int} {p m f : Int} (hp : 0 ≤ p) (h : 0 ≤ kd (g p)) (hm : m ≠ 12) (hf : kd (g p) ≤ 4 ↔ f ≠ 0) : sgF g p m f = -6000 - p := by
  have e : lF g p m f = -6000 - p := by unfold lF; rw [if_neg (by omega), if_neg hm, if_pos hf]
  rw [sg_l (by omega), e]
theorem lf_0 {g : Int → Int} {p m f : Int} (h : 0 ≤ kd (g p)) (hm : m ≠ 12) (hf : ¬ (kd (g p) ≤ 4 ↔ f ≠ 0)) : lF g p m f = 0 := by
  unfold lF
  rw [if_neg (by omega), if_neg hm, if_neg hf]
def Hid (p : Prop) : Prop := p
/-- between two stages -/
def StI (g : Int → Int) (n e m f : Int) : Prop := (n ≤ e → rdF g n = m ∧ rdA g n = f) ∧ (e < n → sF g e 59 ≠ 0 → rdF g n = sF g e 59) ∧ (e < n → sF g e 59 = 0 → AlI g n (e + 1) m f)
theorem AlI.st {g : Int → Int} {n q m f : Int} (h : AlI g n q m f) (hq : q ≤ 190) (h0 : sgF g q m f = 0) (hl : q < sgE g q) : StI g n (sgE g q) (m + 1) (nxf g q m f) := by
  have go := h.go hq
  exact ⟨fun a => go.2.1 h0 a, fun a b => go.2.2.1 h0 a b, fun a b => go.2.2.2 h0 a b hl⟩
def RfI (g : Int → Int) (n : Int) (h : Hp) : Prop := ∃ f : Int, (0 ≤ f ∧ f ≤ h 0 30) ∧ (∀ j : Nat, (j : Int) < h 0 30 → (h 13 j = 102 ↔ (j : Int) + 1 = f)) ∧ StI g n (h 0 26) (h 0 30) f
theorem RfI.w25 {g : Int → Int} {n v : Int} {h : Hp} (hN : RfI g n h) : RfI g n (zwr h 0 25 v) := by
  unfold RfI at hN ⊢
  rw [zwr_ne (Or.inr (by decide)), zwr_ne (Or.inr (by decide)), zfun (by decide)]
  exact hN
theorem flr_none {L : Nat → Int} : ∀ (n k : Nat), 1 ≤ k → flr L n k = 0 → ∀ j, k - 1 ≤ j → j < k - 1 + n → L j ≠ 102
  | 0, k, _, _, j, h1, h2 => by omega
  | n + 1, k, hk, h, j, h1, h2 => by
    rw [flr] at h
    by_cases e : L (k - 1) = 102
    · rw [if_pos e] at h; omega
    · rw [if_neg e] at h
      by_cases ej : j = k - 1
      · rw [ej]; exact e
      · exact flr_none n (k + 1) (by omega) h j (by omega) (by omega)
theorem FL_tie {κ : Hp} {f : Int} (h0 : 0 ≤ f ∧ f ≤ κ 0 14) (h : ∀ j : Nat, (j : Int) < κ 0 14 → (κ 3 j = 102 ↔ (j : Int) + 1 = f)) : FL κ = f := by
  unfold FL
  rcases flr_r (L := κ 3) (κ 0 14).toNat 1 (by omega) with e | ⟨h1, h2, h3⟩
  · by_cases f0 : f = 0
    · omega
    · have a := flr_none (L := κ 3) (κ 0 14).toNat 1 (by omega) e (f - 1).toNat (by omega) (by omega)
      exact absurd ((h (f - 1).toNat (by omega)).mpr (by omega)) a
  · have b := (h (flr (κ 3) (κ 0 14).toNat 1 - 1).toNat (by omega)).mp h3
    omega
theorem StI.nil {g : Int → Int} : StI g 0 0 0 0 := ⟨fun _ => ⟨if_pos rfl, if_pos rfl⟩, fun a => by omega, fun a => by omega⟩

abbrev q_X6_hereP (κ h : Hp) (g : Int → Int) (p : Int) : Int → Hp → Prop := fun r h' => h' = h ∧ ((-2147483648 ≤ r) ∧ (r ≤ 2147483647) ∧ (r = g p ∧ (κ 53 2 ≤ κ 53 3 → r = -1)))
set_option maxHeartbeats 4000000 in
set_option maxRecDepth 20000 in
theorem s_X6_hereP {G : Ga} {b : Bool} {κ h : Hp} (hK : KC κ) (hF : Fr b κ h) (g : Int → Int) (p : Int) (hg : hr (κ 32) (κ 53 2) = g) (hn : 0 ≤ κ 53 2 ∧ κ 53 2 ≤ 120 ∧ κ 53 2 ≤ κ 31 1) (hp : κ 53 3 = p ∧ 0 ≤ p) : zM G mX6_here yX6_here [.inr (.inr 53)] h (q_X6_hereP κ h g p) := by
  have f_31_1 := KCt hK
  refine zM_of [some (.inr (.inr 53))] 0 rfl rfl (Nat.le_of_ble_eq_true rfl) rfl ?_
  refine zW_aload_n (pc' := 1) dX6_here_0.1.1.1.1 rfl rfl ?_
  refine zG_key (pc' := 4) hF rfl fg_X6_29 tb53 rfl dX6_here_0.1.1.1.2 rfl ?_
  have e1 := hF.rk (k := 53) (i := 3) rfl (by decide) (by decide)
  refine zW_aload_n (pc' := 5) dX6_here_0.1.1.2.1 rfl rfl ?_
  refine zG_key (pc' := 8) hF rfl fg_X6_25 tb53 rfl dX6_here_0.1.1.2.2 rfl ?_
  have e5 := hF.rk (k := 53) (i := 2) rfl (by decide) (by decide)
  refine zV_cm_ge (tgt := 25) (pc' := 11) dX6_here_0.1.2.1.1 rfl rfl ⟨by omega, by omega⟩ ⟨by omega, by omega⟩ (fun c8 => ?_) (fun c8 => ?_)
  · refine zW_iconst (pc' := 26) dX6_here_0.2.2.1.2 rfl ?_
    exact zV_iret rfl dX6_here_0.2.2.2 ⟨rfl, by refine ⟨by omega, by omega, ?_, by omega⟩; rw [← hg]; unfold hr; first | (obtain ⟨a1, a2, a3⟩ := p19.2.2.resolve_right (fun q => by omega); rw [if_pos (by omega), a3, hp.1]) | (rw [if_neg (by omega)])⟩
  · refine zW_aload_n (pc' := 12) dX6_here_0.1.2.1.2 rfl rfl ?_
    refine zG_ref (pc' := 15) 31 fg_X6_18 tb53 rfl dX6_here_0.1.2.2 rfl ?_
    refine zW_aload_n (pc' := 16) dX6_here_0.2.1.1.1 rfl rfl ?_
    refine zG_key (pc' := 19) hF rfl fg_X6_29 tb53 rfl dX6_here_0.2.1.1.2 rfl ?_
    have e16 := hF.rk (k := 53) (i := 3) rfl (by decide) (by decide)
    refine cvI1 (pc' := 22) kX9_byteAt vX9_byteAt lk_X6_101 ⟨Nat.le_of_ble_eq_true rfl, Nat.le_of_ble_eq_true rfl⟩ tb31 vq9 rfl rfl (s_X9_byteAtE hK hF _ ⟨by omega, by omega⟩) dX6_here_0.2.1.2 (Nat.le_of_ble_eq_true rfl) rfl ?_
    rintro r19 z19 ⟨hz19, p19⟩; subst z19
    refine zV_goto 26 dX6_here_0.2.2.1.1 rfl ?_
    exact zV_iret rfl dX6_here_0.2.2.2 ⟨rfl, by refine ⟨by omega, by omega, ?_, by omega⟩; rw [← hg]; unfold hr; first | (obtain ⟨a1, a2, a3⟩ := p19.2.2.resolve_right (fun q => by omega); rw [if_pos (by omega), a3, hp.1]) | (rw [if_neg (by omega)])⟩

abbrev q_X6_isDigitP (κ h : Hp) (g : Int → Int) (p : Int) : Int → Hp → Prop := fun r h' => h' = h ∧ ((0 ≤ r) ∧ (r ≤ 1) ∧ ((r = 1 ↔ (48 ≤ g p ∧ g p ≤ 57)) ∧ (κ 53 2 ≤ κ 53 3 → r = 0)))
set_option maxHeartbeats 4000000 in
set_option maxRecDepth 20000 in
theorem s_X6_isDigitP {G : Ga} {b : Bool} {κ h : Hp} (hK : KC κ) (hF : Fr b κ h) (g : Int → Int) (p : Int) (hg : hr (κ 32) (κ 53 2) = g) (hn : 0 ≤ κ 53 2 ∧ κ 53 2 ≤ 120 ∧ κ 53 2 ≤ κ 31 1) (hp : κ 53 3 = p ∧ 0 ≤ p) : zM G mX6_isDigit yX6_isDigit [.inr (.inr 53)] h (q_X6_isDigitP κ h g p) := by
  have f_31_1 := KCt hK
  refine zM_of [some (.inr (.inr 53))] 0 rfl rfl (Nat.le_of_ble_eq_true rfl) rfl ?_
  refine zW_aload_n (pc' := 1) dX6_isDigit_0.1.1.1.1 rfl rfl ?_
  refine cvI0 (pc' := 4) kX6_here vX6_here lk_X6_56 ⟨Nat.le_of_ble_eq_true rfl, Nat.le_of_ble_eq_true rfl⟩ tb53 vq6 rfl rfl (s_X6_hereP hK hF g p hg (by omega) (by omega)) dX6_isDigit_0.1.1.1.2 (Nat.le_of_ble_eq_true rfl) rfl ?_
  rintro r1 z1 ⟨hz1, p1⟩; subst z1
  refine zW_bipush (pc' := 6) dX6_isDigit_0.1.1.2 rfl rfl ?_
  refine zV_cm_lt (tgt := 22) (pc' := 9) dX6_isDigit_0.1.2.1.1 rfl rfl ⟨by omega, by omega⟩ ⟨by omega, by omega⟩ (fun c6 => ?_) (fun c6 => ?_)
  · refine zW_iconst (pc' := 23) dX6_isDigit_0.2.2.1.2 rfl ?_
    exact zV_zret rfl (by omega) dX6_isDigit_0.2.2.2 ⟨rfl, by omega⟩
  · refine zW_aload_n (pc' := 10) dX6_isDigit_0.1.2.1.2 rfl rfl ?_
    refine cvI0 (pc' := 13) kX6_here vX6_here lk_X6_56 ⟨Nat.le_of_ble_eq_true rfl, Nat.le_of_ble_eq_true rfl⟩ tb53 vq6 rfl rfl (s_X6_hereP hK hF g p hg (by omega) (by omega)) dX6_isDigit_0.1.2.2 (Nat.le_of_ble_eq_true rfl) rfl ?_
    rintro r10 z10 ⟨hz10, p10⟩; subst z10
    refine zW_bipush (pc' := 15) dX6_isDigit_0.2.1.1.1 rfl rfl ?_
    refine zV_cm_gt (tgt := 22) (pc' := 18) dX6_isDigit_0.2.1.1.2 rfl rfl ⟨by omega, by omega⟩ ⟨by omega, by omega⟩ (fun c15 => ?_) (fun c15 => ?_)
    · refine zW_iconst (pc' := 23) dX6_isDigit_0.2.2.1.2 rfl ?_
      exact zV_zret rfl (by omega) dX6_isDigit_0.2.2.2 ⟨rfl, by omega⟩
    · refine zW_iconst (pc' := 19) dX6_isDigit_0.2.1.2 rfl ?_
      refine zV_goto 23 dX6_isDigit_0.2.2.1.1 rfl ?_
      exact zV_zret rfl (by omega) dX6_isDigit_0.2.2.2 ⟨rfl, by omega⟩

abbrev q_X6_tellP (κ : Hp) (x1 : Int) (x2 : Int) : Int → Hp → Prop := fun r h' => Fm [(53, 4)] κ h' ∧ (((κ 53 4 ≠ 0 → h' 53 4 = κ 53 4) ∧ (κ 53 4 = 0 → h' 53 4 = -1000 * x1 - x2)))
set_option maxHeartbeats 4000000 in
set_option maxRecDepth 20000 in
theorem s_X6_tellP {G : Ga} {κ : Hp} (hS : SI κ) (hR : KR κ) (hC : KC κ) (x1 : Int) (hx1 : 1 ≤ x1 ∧ x1 ≤ 6) (x2 : Int) (hx2 : 0 ≤ x2 ∧ x2 ≤ 1000) : zM G mX6_tell yX6_tell [.inr (.inr 53), .inl x1, .inl x2] κ (q_X6_tellP κ x1 x2) := by
  refine zM_of [some (.inr (.inr 53)), some (.inl x1), some (.inl x2)] 0 rfl rfl (Nat.le_of_ble_eq_true rfl) rfl ?_
  refine (show ∀ h : Hp, Fm [(53, 4)] κ h → h = κ → zV G mX6_tell (q_X6_tellP κ x1 x2) 0 [some (.inr (.inr 53)), some (.inl x1), some (.inl x2)] [] h from fun h hF hk0 => ?_) κ (Fm.rf hS hR hC) rfl
  have y0_53_4 : h 53 4 = κ 53 4 := by rw [hk0]
  refine zW_aload_n (pc' := 1) dX6_tell_0.1.1.1.1 rfl rfl ?_
  refine zG_int (pc' := 4) fg_X6_32 tb53 rfl dX6_tell_0.1.1.1.2 rfl ?_
  have e1 := hF.rh 53 4
  refine zV_if_ne (tgt := 18) (pc' := 7) dX6_tell_0.1.1.2 rfl rfl ⟨by omega, by omega⟩ (fun c4 => ?_) (fun c4 => ?_)
  · exact zV_vret rfl dX6_tell_0.2.2.2 ⟨hF, by omega⟩
  · refine zW_aload_n (pc' := 8) dX6_tell_0.1.2.1.1 rfl rfl ?_
    refine zW_sipush (pc' := 11) dX6_tell_0.1.2.1.2 rfl rfl ?_
    refine zW_iload_n (pc' := 12) dX6_tell_0.1.2.2 rfl rfl ?_
    refine zW_imul (pc' := 13) dX6_tell_0.2.1.1.1 rfl ?_
    refine zW_iload_n (pc' := 14) dX6_tell_0.2.1.1.2 rfl rfl ?_
    refine zW_isub (pc' := 15) dX6_tell_0.2.1.2 rfl ?_
    refine zPm (pc' := 18) hF (Or.inl rfl) (SI_irr hF.2.1 (Or.inl rfl) (fun _ _ => ⟨by omega, by omega⟩)) (KR_irr hF.2.2.1 rfl) (KC_irr hF.2.2.2 rfl) fp_X6_32 tb53 rfl dX6_tell_0.2.2.1 rfl (fun h hF w15 => ?_)
    have t15_53_4 := congrFun (congrFun w15 53) 4
    rw [zwr_eq] at t15_53_4
    exact zV_vret rfl dX6_tell_0.2.2.2 ⟨hF, by omega⟩

abbrev q_X6_expectP (κ : Hp) (x1 : Int) (g : Int → Int) (p : Int) : Int → Hp → Prop := fun r h' => Fm [(53, 3), (53, 4)] κ h' ∧ ((h' 53 4 = sq (κ 53 4) (sF g p x1) ∧ (h' 53 4 = 0 → h' 53 3 = p + 1) ∧ h' 53 4 ≤ 0 ∧ κ 53 3 ≤ h' 53 3 ∧ (h' 53 3 = κ 53 3 ∨ h' 53 3 ≤ κ 53 2)))
set_option maxHeartbeats 4000000 in
set_option maxRecDepth 20000 in
theorem s_X6_expectP {G : Ga} {κ : Hp} (hS : SI κ) (hR : KR κ) (hC : KC κ) (x1 : Int) (hx1 : 0 ≤ x1 ∧ x1 ≤ 255) (g : Int → Int) (p : Int) (hg : hr (κ 32) (κ 53 2) = g) (hn : 0 ≤ κ 53 2 ∧ κ 53 2 ≤ 120 ∧ κ 53 2 ≤ κ 31 1) (hp : κ 53 4 = 0 → κ 53 3 = p ∧ 0 ≤ p) (ha : 0 ≤ κ 53 3 ∧ κ 53 3 ≤ 200) (hz : κ 53 4 ≤ 0) : zM G mX6_expect yX6_expect [.inr (.inr 53), .inl x1] κ (q_X6_expectP κ x1 g p) := by
  have f_31_1 := KCt hC
  have sf := sFc g p x1
  have sc := sqc (κ 53 4) (sF g p x1)
  refine zM_of [some (.inr (.inr 53)), some (.inl x1)] 0 rfl rfl (Nat.le_of_ble_eq_true rfl) rfl ?_
  refine (show ∀ h : Hp, Fm [(53, 3), (53, 4)] κ h → h = κ → zV G mX6_expect (q_X6_expectP κ x1 g p) 0 [some (.inr (.inr 53)), some (.inl x1)] [] h from fun h hF hk0 => ?_) κ (Fm.rf hS hR hC) rfl
  have y0_53_3 : h 53 3 = κ 53 3 := by rw [hk0]
  have y0_53_4 : h 53 4 = κ 53 4 := by rw [hk0]
  refine zW_aload_n (pc' := 1) dX6_expect_0.1.1.1.1 rfl rfl ?_
  refine zG_int (pc' := 4) fg_X6_32 tb53 rfl dX6_expect_0.1.1.1.2 rfl ?_
  have e1 := hF.rh 53 4
  refine zV_if_ne (tgt := 28) (pc' := 7) dX6_expect_0.1.1.2.1 rfl rfl ⟨by omega, by omega⟩ (fun c4 => ?_) (fun c4 => ?_)
  · refine zW_aload_n (pc' := 29) dX6_expect_0.2.2.2.1 rfl rfl ?_
    refine zW_iconst (pc' := 30) dX6_expect_0.2.2.2.2 rfl ?_
    refine zW_aload_n (pc' := 31) dX6_expect_1.1.1 rfl rfl ?_
    refine zG_int (pc' := 34) fg_X6_29 tb53 rfl dX6_expect_1.1.2 rfl ?_
    have e31 := hF.rh 53 3
    refine cvV2 (pc' := 37) kX6_tell vX6_tell lk_X6_59 ⟨Nat.le_of_ble_eq_true rfl, Nat.le_of_ble_eq_true rfl⟩ tb53 vq6 rfl rfl (s_X6_tellP hF.2.1 hF.2.2.1 hF.2.2.2 _ ⟨by omega, by omega⟩ _ ⟨by omega, by omega⟩) dX6_expect_1.2.1 (Nat.le_of_ble_eq_true rfl) rfl ?_
    rintro r34 h ⟨hF1, p34⟩; replace hF := hF.tr hF1 rfl
    have t34_53_3 := hF1.1 53 3 rfl rfl
    exact zV_vret rfl dX6_expect_1.2.2 ⟨hF, by omega⟩
  · refine zW_aload_n (pc' := 8) dX6_expect_0.1.1.2.2 rfl rfl ?_
    have y8_31_1 := hF.1 31 1 rfl rfl
    have y8_53_2 := hF.1 53 2 rfl rfl
    refine cvI0 (pc' := 11) kX6_here vX6_here lk_X6_56 ⟨Nat.le_of_ble_eq_true rfl, Nat.le_of_ble_eq_true rfl⟩ tb53 vq6 rfl rfl (s_X6_hereP (b := true) (κ := h) hF.2.2.2 (Fr.rf hF.2.1) g p (by rw [hF.cell 32 rfl (fun _ => rfl), hF.1 53 2 rfl rfl]; exact hg) (by omega) (by omega)) dX6_expect_0.1.2.1.1 (Nat.le_of_ble_eq_true rfl) rfl ?_
    rintro r8 z8 ⟨hz8, p8⟩; subst z8
    refine zW_iload_n (pc' := 12) dX6_expect_0.1.2.1.2 rfl rfl ?_
    refine zV_cm_ne (tgt := 28) (pc' := 15) dX6_expect_0.1.2.2.1 rfl rfl ⟨by omega, by omega⟩ ⟨by omega, by omega⟩ (fun c12 => ?_) (fun c12 => ?_)
    · refine zW_aload_n (pc' := 29) dX6_expect_0.2.2.2.1 rfl rfl ?_
      refine zW_iconst (pc' := 30) dX6_expect_0.2.2.2.2 rfl ?_
      refine zW_aload_n (pc' := 31) dX6_expect_1.1.1 rfl rfl ?_
      refine zG_int (pc' := 34) fg_X6_29 tb53 rfl dX6_expect_1.1.2 rfl ?_
      have e31 := hF.rh 53 3
      refine cvV2 (pc' := 37) kX6_tell vX6_tell lk_X6_59 ⟨Nat.le_of_ble_eq_true rfl, Nat.le_of_ble_eq_true rfl⟩ tb53 vq6 rfl rfl (s_X6_tellP hF.2.1 hF.2.2.1 hF.2.2.2 _ ⟨by omega, by omega⟩ _ ⟨by omega, by omega⟩) dX6_expect_1.2.1 (Nat.le_of_ble_eq_true rfl) rfl ?_
      rintro r34 h ⟨hF1, p34⟩; replace hF := hF.tr hF1 rfl
      have t34_53_3 := hF1.1 53 3 rfl rfl
      exact zV_vret rfl dX6_expect_1.2.2 ⟨hF, by omega⟩
    · refine zW_aload_n (pc' := 16) dX6_expect_0.1.2.2.2 rfl rfl ?_
      refine zW_dup (pc' := 17) dX6_expect_0.2.1.1.1 rfl rfl ?_
      refine zG_int (pc' := 20) fg_X6_29 tb53 rfl dX6_expect_0.2.1.1.2 rfl ?_
      have e17 := hF.rh 53 3
      refine zW_iconst (pc' := 21) dX6_expect_0.2.1.2.1 rfl ?_
      refine zW_iadd (pc' := 22) dX6_expect_0.2.1.2.2 rfl ?_
      refine zPm (pc' := 25) hF (Or.inl rfl) (SI_irr hF.2.1 (Or.inl rfl) (fun _ _ => ⟨by omega, by omega⟩)) (KR_irr hF.2.2.1 rfl) (KC_irr hF.2.2.2 rfl) fp_X6_29 tb53 rfl dX6_expect_0.2.2.1.1 rfl (fun h hF w22 => ?_)
      have t22_53_3 := congrFun (congrFun w22 53) 3
      rw [zwr_eq] at t22_53_3
      have t22_53_4 := congrFun (congrFun w22 53) 4
      rw [zwr_ne (Or.inr (by decide))] at t22_53_4
      refine zV_goto 37 dX6_expect_0.2.2.1.2 rfl ?_
      exact zV_vret rfl dX6_expect_1.2.2 ⟨hF, by omega⟩

abbrev q_X6_readNumberP (κ : Hp) (x1 : Int) (x2 : Int) (g : Int → Int) (p : Int) : Int → Hp → Prop := fun r h' => Fm [(53, 3), (53, 4), (51, 999), (52, 999)] κ h' ∧ ((0 ≤ r) ∧ (r ≤ 999) ∧ (h' 53 4 = sq (κ 53 4) (nF g p x1 x2) ∧ (h' 53 4 = 0 → h' 53 3 = p + nD g p ∧ r = nV g p) ∧ h' 53 4 ≤ 0 ∧ κ 53 3 ≤ h' 53 3 ∧ (h' 53 3 = κ 53 3 ∨ h' 53 3 ≤ κ 53 2)))
set_option maxHeartbeats 4000000 in
set_option maxRecDepth 20000 in
theorem s_X6_readNumberP {G : Ga} {κ : Hp} (hS : SI κ) (hR : KR κ) (hC : KC κ) (x1 : Int) (hx1 : 0 ≤ x1 ∧ x1 ≤ 1000) (x2 : Int) (hx2 : 0 ≤ x2 ∧ x2 ≤ 255) (g : Int → Int) (p : Int) (hg : hr (κ 32) (κ 53 2) = g) (hn : 0 ≤ κ 53 2 ∧ κ 53 2 ≤ 120 ∧ κ 53 2 ≤ κ 31 1) (hp : κ 53 4 = 0 → κ 53 3 = p ∧ 0 ≤ p) (ha : 0 ≤ κ 53 3 ∧ κ 53 3 ≤ 200) (hz : κ 53 4 ≤ 0) : zM G mX6_readNumber yX6_readNumber [.inr (.inr 53), .inl x1, .inl x2] κ (q_X6_readNumberP κ x1 x2 g p) := by
  have f_31_1 := KCt hC
  have sc := sqc (κ 53 4) (nF g p x1 x2)
  have main : ∀ N : Nat, (∀ (v3 v4 v5 : Int) (h : Hp), Fm [(53, 3), (53, 4), (51, 999), (52, 999)] κ h → (0 ≤ v3 ∧ v3 ≤ 200) → (0 ≤ v4 ∧ v4 ≤ 999) → (0 ≤ v5 ∧ v5 ≤ 3) → (v3 = p ∧ κ 53 3 = p ∧ 0 ≤ p) → (h 53 4 = 0 ∧ κ 53 4 = 0) → (h 53 3 = p + v5 ∧ (v5 = 0 ∨ p + v5 ≤ κ 53 2)) → (v4 = nVk g p v5.toNat) → (DG g p v5) → 19530 + 63 * (3 - v5) + 62 < (N : Int) → zV G mX6_readNumber (q_X6_readNumberP κ x1 x2 g p) 20 [some (.inr (.inr 53)), some (.inl x1), some (.inl x2), some (.inl v3), some (.inl v4), some (.inl v5)] [] h) := by
    intro N
    induction N with
    | zero =>
      intro v3 v4 v5 h hF g0 g1 g2 gc0 gc1 gc2 gc3 gc4 hm
      exfalso; omega
    | succ N ih =>
      have k20 := ih
      intro v3 v4 v5 h hF g0 g1 g2 gc0 gc1 gc2 gc3 gc4 hm
      refine zW_iload (pc' := 22) dX6_readNumber_0.2.2.1.1 rfl rfl ?_
      refine zW_iconst (pc' := 23) dX6_readNumber_0.2.2.1.2 rfl ?_
      refine zV_cm_ge (tgt := 64) (pc' := 26) dX6_readNumber_0.2.2.2.1 rfl rfl ⟨by omega, by omega⟩ ⟨by omega, by omega⟩ (fun c23 => ?_) (fun c23 => ?_)
      · refine zW_aload_n (pc' := 65) dX6_readNumber_2.1.1.2.2 rfl rfl ?_
        refine zG_int (pc' := 68) fg_X6_29 tb53 rfl dX6_readNumber_2.1.2.1.1 rfl ?_
        have e65 := hF.rh 53 3
        refine zW_iload_n (pc' := 69) dX6_readNumber_2.1.2.1.2 rfl rfl ?_
        refine zV_cm_ne (tgt := 84) (pc' := 72) dX6_readNumber_2.1.2.2.1 rfl rfl ⟨by omega, by omega⟩ ⟨by omega, by omega⟩ (fun c69 => ?_) (fun c69 => ?_)
        · refine zW_aload_n (pc' := 85) dX6_readNumber_2.2.2.1.2 rfl rfl ?_
          have y85_31_1 := hF.1 31 1 rfl rfl
          have y85_53_2 := hF.1 53 2 rfl rfl
          refine cvI0 (pc' := 88) kX6_isDigit vX6_isDigit lk_X6_94 ⟨Nat.le_of_ble_eq_true rfl, Nat.le_of_ble_eq_true rfl⟩ tb53 vq6 rfl rfl (s_X6_isDigitP (b := true) (κ := h) hF.2.2.2 (Fr.rf hF.2.1) g (p + v5) (by rw [hF.cell 32 rfl (fun _ => rfl), hF.1 53 2 rfl rfl]; exact hg) (by omega) (by omega)) dX6_readNumber_2.2.2.2.1 (Nat.le_of_ble_eq_true rfl) rfl ?_
          rintro r85 z85 ⟨hz85, p85⟩; subst z85
          refine zV_if_eq (tgt := 103) (pc' := 91) dX6_readNumber_2.2.2.2.2 rfl rfl ⟨by omega, by omega⟩ (fun c88 => ?_) (fun c88 => ?_)
          · have nd := nD_end ⟨by omega, by omega⟩ gc4 (fun q => absurd (p85.2.2.1.mpr q) (by omega))
            have nf := nFc g p x1 x2
            have v51 : 1 ≤ v5 := by omega
            clear p85
            refine zW_iload (pc' := 105) dX6_readNumber_3.1.2.2.1 rfl rfl ?_
            refine zW_iload_n (pc' := 106) dX6_readNumber_3.1.2.2.2 rfl rfl ?_
            refine zV_cm_lt (tgt := 115) (pc' := 109) dX6_readNumber_3.2.1.1.1 rfl rfl ⟨by omega, by omega⟩ ⟨by omega, by omega⟩ (fun c106 => ?_) (fun c106 => ?_)
            · refine zW_aload_n (pc' := 116) dX6_readNumber_3.2.2.1.1 rfl rfl ?_
              refine zW_iconst (pc' := 117) dX6_readNumber_3.2.2.1.2 rfl ?_
              refine zW_iload_n (pc' := 118) dX6_readNumber_3.2.2.2.1 rfl rfl ?_
              refine cvV2 (pc' := 121) kX6_tell vX6_tell lk_X6_59 ⟨Nat.le_of_ble_eq_true rfl, Nat.le_of_ble_eq_true rfl⟩ tb53 vq6 rfl rfl (s_X6_tellP hF.2.1 hF.2.2.1 hF.2.2.2 _ ⟨by omega, by omega⟩ _ ⟨by omega, by omega⟩) dX6_readNumber_3.2.2.2.2 (Nat.le_of_ble_eq_true rfl) rfl ?_
              rintro r118 h ⟨hF1, p118⟩; replace hF := hF.tr hF1 rfl
              have t118_53_3 := hF1.1 53 3 rfl rfl
              refine zV_goto 133 dX6_readNumber_4.1.1.1 rfl ?_
              refine zW_iload (pc' := 135) dX6_readNumber_4.2.1.2 rfl rfl ?_
              exact zV_iret rfl dX6_readNumber_4.2.2 ⟨hF, by omega⟩
            · refine zW_iload (pc' := 111) dX6_readNumber_3.2.1.1.2 rfl rfl ?_
              refine zW_iload_n (pc' := 112) dX6_readNumber_3.2.1.2.1 rfl rfl ?_
              refine zV_cm_le (tgt := 124) (pc' := 115) dX6_readNumber_3.2.1.2.2 rfl rfl ⟨by omega, by omega⟩ ⟨by omega, by omega⟩ (fun c112 => ?_) (fun c112 => ?_)
              · refine zW_aload_n (pc' := 125) dX6_readNumber_4.1.1.2 rfl rfl ?_
                refine zG_ref (pc' := 128) 49 fg_X6_12 tb53 rfl dX6_readNumber_4.1.2.1 rfl ?_
                refine zW_iload (pc' := 130) dX6_readNumber_4.1.2.2 rfl rfl ?_
                refine cvV1 (pc' := 133) kX7_addNumber vX7_addNumber lk_X6_98 ⟨Nat.le_of_ble_eq_true rfl, Nat.le_of_ble_eq_true rfl⟩ tb49 vq7 rfl rfl (s_X7_addNumberV49 hF.2.1 hF.2.2.1 hF.2.2.2 _) dX6_readNumber_4.2.1.1 (Nat.le_of_ble_eq_true rfl) rfl ?_
                rintro r130 h ⟨hF1, p130⟩; replace hF := hF.tr hF1 rfl
                have t130_53_3 := hF1.1 53 3 rfl rfl
                have t130_53_4 := hF1.1 53 4 rfl rfl
                refine zW_iload (pc' := 135) dX6_readNumber_4.2.1.2 rfl rfl ?_
                exact zV_iret rfl dX6_readNumber_4.2.2 ⟨hF, by omega⟩
              · refine zW_aload_n (pc' := 116) dX6_readNumber_3.2.2.1.1 rfl rfl ?_
                refine zW_iconst (pc' := 117) dX6_readNumber_3.2.2.1.2 rfl ?_
                refine zW_iload_n (pc' := 118) dX6_readNumber_3.2.2.2.1 rfl rfl ?_
                refine cvV2 (pc' := 121) kX6_tell vX6_tell lk_X6_59 ⟨Nat.le_of_ble_eq_true rfl, Nat.le_of_ble_eq_true rfl⟩ tb53 vq6 rfl rfl (s_X6_tellP hF.2.1 hF.2.2.1 hF.2.2.2 _ ⟨by omega, by omega⟩ _ ⟨by omega, by omega⟩) dX6_readNumber_3.2.2.2.2 (Nat.le_of_ble_eq_true rfl) rfl ?_
                rintro r118 h ⟨hF1, p118⟩; replace hF := hF.tr hF1 rfl
                have t118_53_3 := hF1.1 53 3 rfl rfl
                refine zV_goto 133 dX6_readNumber_4.1.1.1 rfl ?_
                refine zW_iload (pc' := 135) dX6_readNumber_4.2.1.2 rfl rfl ?_
                exact zV_iret rfl dX6_readNumber_4.2.2 ⟨hF, by omega⟩
          · have nd : nD g p = 4 ∧ v5 = 3 := by first | (exfalso; omega) | exact ⟨nD_4 (by rw [show (3 : Int) = v5 by omega]; exact gc4) (by rw [show p + 3 = p + v5 by omega]; exact p85.2.2.1.mp (by omega)), by omega⟩
            have nf := nFc g p x1 x2
            refine zW_aload_n (pc' := 92) dX6_readNumber_3.1.1.1.1 rfl rfl ?_
            refine zW_iconst (pc' := 93) dX6_readNumber_3.1.1.1.2 rfl ?_
            refine zW_aload_n (pc' := 94) dX6_readNumber_3.1.1.2.1 rfl rfl ?_
            refine zG_int (pc' := 97) fg_X6_29 tb53 rfl dX6_readNumber_3.1.1.2.2 rfl ?_
            have e94 := hF.rh 53 3
            refine cvV2 (pc' := 100) kX6_tell vX6_tell lk_X6_59 ⟨Nat.le_of_ble_eq_true rfl, Nat.le_of_ble_eq_true rfl⟩ tb53 vq6 rfl rfl (s_X6_tellP hF.2.1 hF.2.2.1 hF.2.2.2 _ ⟨by omega, by omega⟩ _ ⟨by omega, by omega⟩) dX6_readNumber_3.1.2.1.1 (Nat.le_of_ble_eq_true rfl) rfl ?_
            rintro r97 h ⟨hF1, p97⟩; replace hF := hF.tr hF1 rfl
            have t97_53_3 := hF1.1 53 3 rfl rfl
            refine zV_goto 133 dX6_readNumber_3.1.2.1.2 rfl ?_
            refine zW_iload (pc' := 135) dX6_readNumber_4.2.1.2 rfl rfl ?_
            exact zV_iret rfl dX6_readNumber_4.2.2 ⟨hF, by omega⟩
        · have nd : nD g p = 0 := by first | (exfalso; omega) | (have z := (nD_end ⟨by omega, by omega⟩ gc4 (fun q => absurd (p27.2.2.1.mpr q) (by omega))).1; omega)
          have nf := nFc g p x1 x2
          refine zW_aload_n (pc' := 73) dX6_readNumber_2.1.2.2.2 rfl rfl ?_
          refine zW_iconst (pc' := 74) dX6_readNumber_2.2.1.1.1 rfl ?_
          refine zW_aload_n (pc' := 75) dX6_readNumber_2.2.1.1.2 rfl rfl ?_
          refine zG_int (pc' := 78) fg_X6_29 tb53 rfl dX6_readNumber_2.2.1.2.1 rfl ?_
          have e75 := hF.rh 53 3
          refine cvV2 (pc' := 81) kX6_tell vX6_tell lk_X6_59 ⟨Nat.le_of_ble_eq_true rfl, Nat.le_of_ble_eq_true rfl⟩ tb53 vq6 rfl rfl (s_X6_tellP hF.2.1 hF.2.2.1 hF.2.2.2 _ ⟨by omega, by omega⟩ _ ⟨by omega, by omega⟩) dX6_readNumber_2.2.1.2.2 (Nat.le_of_ble_eq_true rfl) rfl ?_
          rintro r78 h ⟨hF1, p78⟩; replace hF := hF.tr hF1 rfl
          have t78_53_3 := hF1.1 53 3 rfl rfl
          refine zV_goto 133 dX6_readNumber_2.2.2.1.1 rfl ?_
          refine zW_iload (pc' := 135) dX6_readNumber_4.2.1.2 rfl rfl ?_
          exact zV_iret rfl dX6_readNumber_4.2.2 ⟨hF, by omega⟩
      · refine zW_aload_n (pc' := 27) dX6_readNumber_0.2.2.2.2 rfl rfl ?_
        have y27_31_1 := hF.1 31 1 rfl rfl
        have y27_53_2 := hF.1 53 2 rfl rfl
        refine cvI0 (pc' := 30) kX6_isDigit vX6_isDigit lk_X6_94 ⟨Nat.le_of_ble_eq_true rfl, Nat.le_of_ble_eq_true rfl⟩ tb53 vq6 rfl rfl (s_X6_isDigitP (b := true) (κ := h) hF.2.2.2 (Fr.rf hF.2.1) g (p + v5) (by rw [hF.cell 32 rfl (fun _ => rfl), hF.1 53 2 rfl rfl]; exact hg) (by omega) (by omega)) dX6_readNumber_1.1.1.1.1 (Nat.le_of_ble_eq_true rfl) rfl ?_
        rintro r27 z27 ⟨hz27, p27⟩; subst z27
        refine zV_if_eq (tgt := 64) (pc' := 33) dX6_readNumber_1.1.1.1.2 rfl rfl ⟨by omega, by omega⟩ (fun c30 => ?_) (fun c30 => ?_)
        · refine zW_aload_n (pc' := 65) dX6_readNumber_2.1.1.2.2 rfl rfl ?_
          refine zG_int (pc' := 68) fg_X6_29 tb53 rfl dX6_readNumber_2.1.2.1.1 rfl ?_
          have e65 := hF.rh 53 3
          refine zW_iload_n (pc' := 69) dX6_readNumber_2.1.2.1.2 rfl rfl ?_
          refine zV_cm_ne (tgt := 84) (pc' := 72) dX6_readNumber_2.1.2.2.1 rfl rfl ⟨by omega, by omega⟩ ⟨by omega, by omega⟩ (fun c69 => ?_) (fun c69 => ?_)
          · refine zW_aload_n (pc' := 85) dX6_readNumber_2.2.2.1.2 rfl rfl ?_
            have y85_31_1 := hF.1 31 1 rfl rfl
            have y85_53_2 := hF.1 53 2 rfl rfl
            refine cvI0 (pc' := 88) kX6_isDigit vX6_isDigit lk_X6_94 ⟨Nat.le_of_ble_eq_true rfl, Nat.le_of_ble_eq_true rfl⟩ tb53 vq6 rfl rfl (s_X6_isDigitP (b := true) (κ := h) hF.2.2.2 (Fr.rf hF.2.1) g (p + v5) (by rw [hF.cell 32 rfl (fun _ => rfl), hF.1 53 2 rfl rfl]; exact hg) (by omega) (by omega)) dX6_readNumber_2.2.2.2.1 (Nat.le_of_ble_eq_true rfl) rfl ?_
            rintro r85 z85 ⟨hz85, p85⟩; subst z85
            refine zV_if_eq (tgt := 103) (pc' := 91) dX6_readNumber_2.2.2.2.2 rfl rfl ⟨by omega, by omega⟩ (fun c88 => ?_) (fun c88 => ?_)
            · have nd := nD_end ⟨by omega, by omega⟩ gc4 (fun q => absurd (p85.2.2.1.mpr q) (by omega))
              have nf := nFc g p x1 x2
              have v51 : 1 ≤ v5 := by omega
              clear p85
              refine zW_iload (pc' := 105) dX6_readNumber_3.1.2.2.1 rfl rfl ?_
              refine zW_iload_n (pc' := 106) dX6_readNumber_3.1.2.2.2 rfl rfl ?_
              refine zV_cm_lt (tgt := 115) (pc' := 109) dX6_readNumber_3.2.1.1.1 rfl rfl ⟨by omega, by omega⟩ ⟨by omega, by omega⟩ (fun c106 => ?_) (fun c106 => ?_)
              · refine zW_aload_n (pc' := 116) dX6_readNumber_3.2.2.1.1 rfl rfl ?_
                refine zW_iconst (pc' := 117) dX6_readNumber_3.2.2.1.2 rfl ?_
                refine zW_iload_n (pc' := 118) dX6_readNumber_3.2.2.2.1 rfl rfl ?_
                refine cvV2 (pc' := 121) kX6_tell vX6_tell lk_X6_59 ⟨Nat.le_of_ble_eq_true rfl, Nat.le_of_ble_eq_true rfl⟩ tb53 vq6 rfl rfl (s_X6_tellP hF.2.1 hF.2.2.1 hF.2.2.2 _ ⟨by omega, by omega⟩ _ ⟨by omega, by omega⟩) dX6_readNumber_3.2.2.2.2 (Nat.le_of_ble_eq_true rfl) rfl ?_
                rintro r118 h ⟨hF1, p118⟩; replace hF := hF.tr hF1 rfl
                have t118_53_3 := hF1.1 53 3 rfl rfl
                refine zV_goto 133 dX6_readNumber_4.1.1.1 rfl ?_
                refine zW_iload (pc' := 135) dX6_readNumber_4.2.1.2 rfl rfl ?_
                exact zV_iret rfl dX6_readNumber_4.2.2 ⟨hF, by omega⟩
              · refine zW_iload (pc' := 111) dX6_readNumber_3.2.1.1.2 rfl rfl ?_
                refine zW_iload_n (pc' := 112) dX6_readNumber_3.2.1.2.1 rfl rfl ?_
                refine zV_cm_le (tgt := 124) (pc' := 115) dX6_readNumber_3.2.1.2.2 rfl rfl ⟨by omega, by omega⟩ ⟨by omega, by omega⟩ (fun c112 => ?_) (fun c112 => ?_)
                · refine zW_aload_n (pc' := 125) dX6_readNumber_4.1.1.2 rfl rfl ?_
                  refine zG_ref (pc' := 128) 49 fg_X6_12 tb53 rfl dX6_readNumber_4.1.2.1 rfl ?_
                  refine zW_iload (pc' := 130) dX6_readNumber_4.1.2.2 rfl rfl ?_
                  refine cvV1 (pc' := 133) kX7_addNumber vX7_addNumber lk_X6_98 ⟨Nat.le_of_ble_eq_true rfl, Nat.le_of_ble_eq_true rfl⟩ tb49 vq7 rfl rfl (s_X7_addNumberV49 hF.2.1 hF.2.2.1 hF.2.2.2 _) dX6_readNumber_4.2.1.1 (Nat.le_of_ble_eq_true rfl) rfl ?_
                  rintro r130 h ⟨hF1, p130⟩; replace hF := hF.tr hF1 rfl
                  have t130_53_3 := hF1.1 53 3 rfl rfl
                  have t130_53_4 := hF1.1 53 4 rfl rfl
                  refine zW_iload (pc' := 135) dX6_readNumber_4.2.1.2 rfl rfl ?_
                  exact zV_iret rfl dX6_readNumber_4.2.2 ⟨hF, by omega⟩
                · refine zW_aload_n (pc' := 116) dX6_readNumber_3.2.2.1.1 rfl rfl ?_
                  refine zW_iconst (pc' := 117) dX6_readNumber_3.2.2.1.2 rfl ?_
                  refine zW_iload_n (pc' := 118) dX6_readNumber_3.2.2.2.1 rfl rfl ?_
                  refine cvV2 (pc' := 121) kX6_tell vX6_tell lk_X6_59 ⟨Nat.le_of_ble_eq_true rfl, Nat.le_of_ble_eq_true rfl⟩ tb53 vq6 rfl rfl (s_X6_tellP hF.2.1 hF.2.2.1 hF.2.2.2 _ ⟨by omega, by omega⟩ _ ⟨by omega, by omega⟩) dX6_readNumber_3.2.2.2.2 (Nat.le_of_ble_eq_true rfl) rfl ?_
                  rintro r118 h ⟨hF1, p118⟩; replace hF := hF.tr hF1 rfl
                  have t118_53_3 := hF1.1 53 3 rfl rfl
                  refine zV_goto 133 dX6_readNumber_4.1.1.1 rfl ?_
                  refine zW_iload (pc' := 135) dX6_readNumber_4.2.1.2 rfl rfl ?_
                  exact zV_iret rfl dX6_readNumber_4.2.2 ⟨hF, by omega⟩
            · have nd : nD g p = 4 ∧ v5 = 3 := by first | (exfalso; omega) | exact ⟨nD_4 (by rw [show (3 : Int) = v5 by omega]; exact gc4) (by rw [show p + 3 = p + v5 by omega]; exact p85.2.2.1.mp (by omega)), by omega⟩
              have nf := nFc g p x1 x2
              refine zW_aload_n (pc' := 92) dX6_readNumber_3.1.1.1.1 rfl rfl ?_
              refine zW_iconst (pc' := 93) dX6_readNumber_3.1.1.1.2 rfl ?_
              refine zW_aload_n (pc' := 94) dX6_readNumber_3.1.1.2.1 rfl rfl ?_
              refine zG_int (pc' := 97) fg_X6_29 tb53 rfl dX6_readNumber_3.1.1.2.2 rfl ?_
              have e94 := hF.rh 53 3
              refine cvV2 (pc' := 100) kX6_tell vX6_tell lk_X6_59 ⟨Nat.le_of_ble_eq_true rfl, Nat.le_of_ble_eq_true rfl⟩ tb53 vq6 rfl rfl (s_X6_tellP hF.2.1 hF.2.2.1 hF.2.2.2 _ ⟨by omega, by omega⟩ _ ⟨by omega, by omega⟩) dX6_readNumber_3.1.2.1.1 (Nat.le_of_ble_eq_true rfl) rfl ?_
              rintro r97 h ⟨hF1, p97⟩; replace hF := hF.tr hF1 rfl
              have t97_53_3 := hF1.1 53 3 rfl rfl
              refine zV_goto 133 dX6_readNumber_3.1.2.1.2 rfl ?_
              refine zW_iload (pc' := 135) dX6_readNumber_4.2.1.2 rfl rfl ?_
              exact zV_iret rfl dX6_readNumber_4.2.2 ⟨hF, by omega⟩
          · have nd : nD g p = 0 := by first | (exfalso; omega) | (have z := (nD_end ⟨by omega, by omega⟩ gc4 (fun q => absurd (p27.2.2.1.mpr q) (by omega))).1; omega)
            have nf := nFc g p x1 x2
            refine zW_aload_n (pc' := 73) dX6_readNumber_2.1.2.2.2 rfl rfl ?_
            refine zW_iconst (pc' := 74) dX6_readNumber_2.2.1.1.1 rfl ?_
            refine zW_aload_n (pc' := 75) dX6_readNumber_2.2.1.1.2 rfl rfl ?_
            refine zG_int (pc' := 78) fg_X6_29 tb53 rfl dX6_readNumber_2.2.1.2.1 rfl ?_
            have e75 := hF.rh 53 3
            refine cvV2 (pc' := 81) kX6_tell vX6_tell lk_X6_59 ⟨Nat.le_of_ble_eq_true rfl, Nat.le_of_ble_eq_true rfl⟩ tb53 vq6 rfl rfl (s_X6_tellP hF.2.1 hF.2.2.1 hF.2.2.2 _ ⟨by omega, by omega⟩ _ ⟨by omega, by omega⟩) dX6_readNumber_2.2.1.2.2 (Nat.le_of_ble_eq_true rfl) rfl ?_
            rintro r78 h ⟨hF1, p78⟩; replace hF := hF.tr hF1 rfl
            have t78_53_3 := hF1.1 53 3 rfl rfl
            refine zV_goto 133 dX6_readNumber_2.2.2.1.1 rfl ?_
            refine zW_iload (pc' := 135) dX6_readNumber_4.2.1.2 rfl rfl ?_
            exact zV_iret rfl dX6_readNumber_4.2.2 ⟨hF, by omega⟩
        · have bd := nVk_b gc4 ⟨by omega, by omega⟩
          have dg1 : 48 ≤ g (p + v5) ∧ g (p + v5) ≤ 57 := p27.2.2.1.mp (by omega)
          have dgn := DG_s gc4 dg1
          refine zW_bipush (pc' := 35) dX6_readNumber_1.1.1.2.1 rfl rfl ?_
          refine zW_iload (pc' := 37) dX6_readNumber_1.1.1.2.2 rfl rfl ?_
          refine zW_imul (pc' := 38) dX6_readNumber_1.1.2.1.1 rfl ?_
          refine zW_aload_n (pc' := 39) dX6_readNumber_1.1.2.1.2 rfl rfl ?_
          have y39_31_1 := hF.1 31 1 rfl rfl
          have y39_53_2 := hF.1 53 2 rfl rfl
          refine cvI0 (pc' := 42) kX6_here vX6_here lk_X6_56 ⟨Nat.le_of_ble_eq_true rfl, Nat.le_of_ble_eq_true rfl⟩ tb53 vq6 rfl rfl (s_X6_hereP (b := true) (κ := h) hF.2.2.2 (Fr.rf hF.2.1) g (p + v5) (by rw [hF.cell 32 rfl (fun _ => rfl), hF.1 53 2 rfl rfl]; exact hg) (by omega) (by omega)) dX6_readNumber_1.1.2.2.1 (Nat.le_of_ble_eq_true rfl) rfl ?_
          rintro r39 z39 ⟨hz39, p39⟩; subst z39
          refine zW_iadd (pc' := 43) dX6_readNumber_1.1.2.2.2 rfl ?_
          refine zW_bipush (pc' := 45) dX6_readNumber_1.2.1.1.1 rfl rfl ?_
          refine zW_isub (pc' := 46) dX6_readNumber_1.2.1.1.2 rfl ?_
          refine zW_istore (ls' := [_, _, _, _, _, _]) (pc' := 48) dX6_readNumber_1.2.1.2.1 (by decide) rfl rfl rfl ?_
          refine zW_aload_n (pc' := 49) dX6_readNumber_1.2.1.2.2 rfl rfl ?_
          refine zW_dup (pc' := 50) dX6_readNumber_1.2.2.1.1 rfl rfl ?_
          refine zG_int (pc' := 53) fg_X6_29 tb53 rfl dX6_readNumber_1.2.2.1.2 rfl ?_
          have e50 := hF.rh 53 3
          refine zW_iconst (pc' := 54) dX6_readNumber_1.2.2.2.1 rfl ?_
          refine zW_iadd (pc' := 55) dX6_readNumber_1.2.2.2.2 rfl ?_
          refine zPm (pc' := 58) hF (Or.inl rfl) (SI_irr hF.2.1 (Or.inl rfl) (fun _ _ => ⟨by omega, by omega⟩)) (KR_irr hF.2.2.1 rfl) (KC_irr hF.2.2.2 rfl) fp_X6_29 tb53 rfl dX6_readNumber_2.1.1.1.1 rfl (fun h hF w55 => ?_)
          have t55_53_3 := congrFun (congrFun w55 53) 3
          rw [zwr_eq] at t55_53_3
          have t55_53_4 := congrFun (congrFun w55 53) 4
          rw [zwr_ne (Or.inr (by decide))] at t55_53_4
          refine zW_iinc (ls' := [_, _, _, _, _, _]) (pc' := 61) dX6_readNumber_2.1.1.1.2 rfl (by decide) rfl rfl rfl ?_
          refine zV_goto 20 dX6_readNumber_2.1.1.2.1 rfl ?_
          exact k20 _ _ _ _ hF (by omega) (by omega) (by omega) (by omega) (by omega) (by omega) (by first | rfl | (rw [nVk_s (by omega)]; omega)) (by first | exact dgn | exact DG_0) (by omega)
  refine zM_of [some (.inr (.inr 53)), some (.inl x1), some (.inl x2), none, none, none] 3 rfl rfl (Nat.le_of_ble_eq_true rfl) rfl ?_
  refine (show ∀ h : Hp, Fm [(53, 3), (53, 4), (51, 999), (52, 999)] κ h → h = κ → zV G mX6_readNumber (q_X6_readNumberP κ x1 x2 g p) 0 [some (.inr (.inr 53)), some (.inl x1), some (.inl x2), none, none, none] [] h from fun h hF hk0 => ?_) κ (Fm.rf hS hR hC) rfl
  have y0_53_3 : h 53 3 = κ 53 3 := by rw [hk0]
  have y0_53_4 : h 53 4 = κ 53 4 := by rw [hk0]
  refine zW_aload_n (pc' := 1) dX6_readNumber_0.1.1.1.1 rfl rfl ?_
  refine zG_int (pc' := 4) fg_X6_32 tb53 rfl dX6_readNumber_0.1.1.1.2 rfl ?_
  have e1 := hF.rh 53 4
  refine zV_if_eq (tgt := 9) (pc' := 7) dX6_readNumber_0.1.1.2.1 rfl rfl ⟨by omega, by omega⟩ (fun c4 => ?_) (fun c4 => ?_)
  · refine zW_aload_n (pc' := 10) dX6_readNumber_0.1.2.1.2 rfl rfl ?_
    refine zG_int (pc' := 13) fg_X6_29 tb53 rfl dX6_readNumber_0.1.2.2.1 rfl ?_
    have e10 := hF.rh 53 3
    refine zW_istore_n (ls' := [_, _, _, _, _, _]) (pc' := 14) dX6_readNumber_0.1.2.2.2 (by decide) rfl rfl rfl ?_
    refine zW_iconst (pc' := 15) dX6_readNumber_0.2.1.1.1 rfl ?_
    refine zW_istore (ls' := [_, _, _, _, _, _]) (pc' := 17) dX6_readNumber_0.2.1.1.2 (by decide) rfl rfl rfl ?_
    refine zW_iconst (pc' := 18) dX6_readNumber_0.2.1.2.1 rfl ?_
    refine zW_istore (ls' := [_, _, _, _, _, _]) (pc' := 20) dX6_readNumber_0.2.1.2.2 (by decide) rfl rfl rfl ?_
    exact (main 10000000000000000000000000000000000000000) _ _ _ _ hF (by omega) (by omega) (by omega) (by omega) (by omega) (by omega) (by first | rfl | (rw [nVk_s (by omega)]; omega)) (by first | exact dgn | exact DG_0) (by omega)
  · refine zW_iconst (pc' := 8) dX6_readNumber_0.1.1.2.2 rfl ?_
    exact zV_iret rfl dX6_readNumber_0.1.2.1.1 ⟨hF, by omega⟩

abbrev q_X6_readPointsP (κ : Hp) (g : Int → Int) (p : Int) : Int → Hp → Prop := fun r h' => Fm [(53, 3), (53, 4), (51, 999), (52, 999)] κ h' ∧ ((h' 53 4 = cuF g 200 p (-1) ∧ (h' 53 4 = 0 → h' 53 3 = cuE g 200 p (-1)) ∧ h' 53 4 ≤ 0 ∧ κ 53 3 ≤ h' 53 3 ∧ (h' 53 3 = κ 53 3 ∨ h' 53 3 ≤ κ 53 2)))
set_option maxHeartbeats 4000000 in
set_option maxRecDepth 20000 in
theorem s_X6_readPointsP {G : Ga} {κ : Hp} (hS : SI κ) (hR : KR κ) (hC : KC κ) (g : Int → Int) (p : Int) (hg : hr (κ 32) (κ 53 2) = g) (hn : 0 ≤ κ 53 2 ∧ κ 53 2 ≤ 120 ∧ κ 53 2 ≤ κ 31 1) (hp : (κ 53 4 = 0 ∧ κ 53 3 = p ∧ 0 ≤ p)) (ha : κ 53 3 ≤ 150) : zM G mX6_readPoints yX6_readPoints [.inr (.inr 53)] κ (q_X6_readPointsP κ g p) := by
  have f_31_1 := KCt hC
  have main : ∀ N : Nat, (∀ (v1 v2 : Int) (h : Hp), Fm [(53, 3), (53, 4), (51, 999), (52, 999)] κ h → (0 ≤ v1 ∧ v1 ≤ 999) → (0 ≤ v2 ∧ v2 ≤ 64) → (0 ≤ h 53 3 ∧ κ 53 3 ≤ h 53 3 ∧ (h 53 3 = κ 53 3 ∨ h 53 3 ≤ κ 53 2) ∧ h 53 4 ≤ 0) → (h 53 4 ≠ 0 → h 53 4 = cuF g 200 p (-1)) → (h 53 4 = 0 → CuI g p (h 53 3) v1) → (h 53 4 = 0 → 4 * v2 + 3 ≤ h 53 3 ∧ v1 ≤ 255) → 65472 + 32 * (64 - v2) + 31 < (N : Int) → zV G mX6_readPoints (q_X6_readPointsP κ g p) 24 [some (.inr (.inr 53)), some (.inl v1), some (.inl v2)] [] h) := by
    intro N
    induction N with
    | zero =>
      intro v1 v2 h hF g0 g1 gc0 gc1 gc2 gc3 hm
      exfalso; omega
    | succ N ih =>
      have k24 := ih
      intro v1 v2 h hF g0 g1 gc0 gc1 gc2 gc3 hm
      refine zW_iload_n (pc' := 25) dX6_readPoints_0.2.2.2.2 rfl rfl ?_
      refine zW_bipush (pc' := 27) dX6_readPoints_1.1.1.1.1 rfl rfl ?_
      refine zV_cm_ge (tgt := 82) (pc' := 30) dX6_readPoints_1.1.1.1.2 rfl rfl ⟨by omega, by omega⟩ ⟨by omega, by omega⟩ (fun c27 => ?_) (fun c27 => ?_)
      · exact zV_vret rfl dX6_readPoints_2.2.2.2 ⟨hF, by first | omega | (have z := gc2 (by omega); rw [show v1 = 255 by omega] at z; have z2 := z.end; omega)⟩
      · refine zW_aload_n (pc' := 31) dX6_readPoints_1.1.1.2.1 rfl rfl ?_
        refine zG_int (pc' := 34) fg_X6_32 tb53 rfl dX6_readPoints_1.1.1.2.2 rfl ?_
        have e31 := hF.rh 53 4
        refine zV_if_ne (tgt := 82) (pc' := 37) dX6_readPoints_1.1.2.1.1 rfl rfl ⟨by omega, by omega⟩ (fun c34 => ?_) (fun c34 => ?_)
        · exact zV_vret rfl dX6_readPoints_2.2.2.2 ⟨hF, by first | omega | (have z := gc2 (by omega); rw [show v1 = 255 by omega] at z; have z2 := z.end; omega)⟩
        · refine zW_iload_n (pc' := 38) dX6_readPoints_1.1.2.1.2 rfl rfl ?_
          refine zW_sipush (pc' := 41) dX6_readPoints_1.1.2.2.1 rfl rfl ?_
          refine zV_cm_ge (tgt := 82) (pc' := 44) dX6_readPoints_1.1.2.2.2 rfl rfl ⟨by omega, by omega⟩ ⟨by omega, by omega⟩ (fun c41 => ?_) (fun c41 => ?_)
          · exact zV_vret rfl dX6_readPoints_2.2.2.2 ⟨hF, by first | omega | (have z := gc2 (by omega); rw [show v1 = 255 by omega] at z; have z2 := z.end; omega)⟩
          · obtain ⟨q, eq⟩ : ∃ q : Int, q = h 53 3 := ⟨_, rfl⟩
            have cu := gc2 (by omega)
            rw [← eq] at cu
            have g3 := gc3 (by omega)
            clear gc1 gc2 gc3
            refine zW_aload_n (pc' := 45) dX6_readPoints_1.2.1.1.1 rfl rfl ?_
            refine zW_bipush (pc' := 47) dX6_readPoints_1.2.1.1.2 rfl rfl ?_
            have y47_31_1 := hF.1 31 1 rfl rfl
            have y47_53_2 := hF.1 53 2 rfl rfl
            refine cvV1 (pc' := 50) kX6_expect vX6_expect lk_X6_45 ⟨Nat.le_of_ble_eq_true rfl, Nat.le_of_ble_eq_true rfl⟩ tb53 vq6 rfl rfl (s_X6_expectP hF.2.1 hF.2.2.1 hF.2.2.2 _ ⟨by omega, by omega⟩ g q (by rw [hF.cell 32 rfl (fun _ => rfl), hF.1 53 2 rfl rfl]; exact hg) (by omega) (by omega) (by omega) (by omega)) dX6_readPoints_1.2.1.2.1 (Nat.le_of_ble_eq_true rfl) rfl ?_
            rintro r47 h ⟨hF1, p47⟩; replace hF := hF.tr hF1 rfl
            have e0 : h 53 4 = sF g q 44 := p47.1.trans (sq_z (by omega))
            have i0 := p47.2.1
            have b0 := p47.2.2
            clear p47
            refine zW_aload_n (pc' := 51) dX6_readPoints_1.2.1.2.2 rfl rfl ?_
            refine zW_iload_n (pc' := 52) dX6_readPoints_1.2.2.1.1 rfl rfl ?_
            refine zW_iconst (pc' := 53) dX6_readPoints_1.2.2.1.2 rfl ?_
            refine zW_iadd (pc' := 54) dX6_readPoints_1.2.2.2.1 rfl ?_
            refine zW_sipush (pc' := 57) dX6_readPoints_1.2.2.2.2 rfl rfl ?_
            have y57_31_1 := hF.1 31 1 rfl rfl
            have y57_53_2 := hF.1 53 2 rfl rfl
            refine cvI2 (pc' := 60) kX6_readNumber vX6_readNumber lk_X6_87 ⟨Nat.le_of_ble_eq_true rfl, Nat.le_of_ble_eq_true rfl⟩ tb53 vq6 rfl rfl (s_X6_readNumberP hF.2.1 hF.2.2.1 hF.2.2.2 _ ⟨by omega, by omega⟩ _ ⟨by omega, by omega⟩ g (q + 1) (by rw [hF.cell 32 rfl (fun _ => rfl), hF.1 53 2 rfl rfl]; exact hg) (by omega) (fun z => ⟨i0 z, by omega⟩) (by omega) (by omega)) dX6_readPoints_2.1.1.1.1 (Nat.le_of_ble_eq_true rfl) rfl ?_
            rintro r57 h ⟨hF1, p57⟩; replace hF := hF.tr hF1 rfl
            have e1 : h 53 4 = sq (sF g q 44) (nF g (q + 1) (v1 + 1) 255) := by rw [p57.2.2.1, e0]
            have i1 := p57.2.2.2.1
            have b1 := p57.2.2.2.2
            have r1b := And.intro p57.1 p57.2.1
            clear p57
            refine zW_istore_n (ls' := [_, _, _]) (pc' := 61) dX6_readPoints_2.1.1.1.2 (by decide) rfl rfl rfl ?_
            refine zW_aload_n (pc' := 62) dX6_readPoints_2.1.1.2.1 rfl rfl ?_
            refine zW_bipush (pc' := 64) dX6_readPoints_2.1.1.2.2 rfl rfl ?_
            have y64_31_1 := hF.1 31 1 rfl rfl
            have y64_53_2 := hF.1 53 2 rfl rfl
            refine cvV1 (pc' := 67) kX6_expect vX6_expect lk_X6_45 ⟨Nat.le_of_ble_eq_true rfl, Nat.le_of_ble_eq_true rfl⟩ tb53 vq6 rfl rfl (s_X6_expectP hF.2.1 hF.2.2.1 hF.2.2.2 _ ⟨by omega, by omega⟩ g (q + 1 + nD g (q + 1)) (by rw [hF.cell 32 rfl (fun _ => rfl), hF.1 53 2 rfl rfl]; exact hg) (by omega) (fun z => ⟨(i1 z).1, by have := nDp g (q + 1); omega⟩) (by omega) (by omega)) dX6_readPoints_2.1.2.1.1 (Nat.le_of_ble_eq_true rfl) rfl ?_
            rintro r64 h ⟨hF1, p64⟩; replace hF := hF.tr hF1 rfl
            have e2 : h 53 4 = sq (sq (sF g q 44) (nF g (q + 1) (v1 + 1) 255)) (sF g (q + 1 + nD g (q + 1)) 62) := by rw [p64.1, e1]
            have i2 := p64.2.1
            have b2 := p64.2.2
            clear p64
            refine zW_aload_n (pc' := 68) dX6_readPoints_2.1.2.1.2 rfl rfl ?_
            refine zW_iconst (pc' := 69) dX6_readPoints_2.1.2.2 rfl ?_
            refine zW_sipush (pc' := 72) dX6_readPoints_2.2.1.1.1 rfl rfl ?_
            have y72_31_1 := hF.1 31 1 rfl rfl
            have y72_53_2 := hF.1 53 2 rfl rfl
            refine cvI2 (pc' := 75) kX6_readNumber vX6_readNumber lk_X6_87 ⟨Nat.le_of_ble_eq_true rfl, Nat.le_of_ble_eq_true rfl⟩ tb53 vq6 rfl rfl (s_X6_readNumberP hF.2.1 hF.2.2.1 hF.2.2.2 _ ⟨by omega, by omega⟩ _ ⟨by omega, by omega⟩ g (q + 1 + nD g (q + 1) + 1) (by rw [hF.cell 32 rfl (fun _ => rfl), hF.1 53 2 rfl rfl]; exact hg) (by omega) (fun z => ⟨i2 z, by have := nDp g (q + 1); omega⟩) (by omega) (by omega)) dX6_readPoints_2.2.1.1.2 (Nat.le_of_ble_eq_true rfl) rfl ?_
            rintro r72 h ⟨hF1, p72⟩; replace hF := hF.tr hF1 rfl
            have w1e : h 53 4 = sq (sq (sq (sF g q 44) (nF g (q + 1) (v1 + 1) 255)) (sF g (q + 1 + nD g (q + 1)) 62)) (nF g (q + 1 + nD g (q + 1) + 1) 0 255) := by rw [p72.2.2.1, e2]
            have pt := ptF_1 (g := g) (p := q) (x := v1) (by omega)
            have w1 : h 53 4 = ptF g q v1 := by rw [w1e, pt.1]; unfold pqF; rw [sq_as, sq_as, sq_as]
            have i3 := p72.2.2.2.1
            have b3 := p72.2.2.2.2
            clear p72
            have z0 : h 53 4 = 0 → sq (sF g q 44) (nF g (q + 1) (v1 + 1) 255) = 0 := fun z => sq_0l (sq_0l (w1e.symm.trans z))
            have z2 : h 53 4 = 0 → (nF g (q + 1 + nD g (q + 1) + 1) 0 255) = 0 := fun z => sq_0r (w1e.symm.trans z)
            have w2 : h 53 4 ≠ 0 → h 53 4 = cuF g 200 p (-1) := fun z => by rw [cu.bad (by omega) (by omega) (fun y => z (w1.trans y))]; exact w1
            have w3 : h 53 4 = 0 → CuI g p (h 53 3) r57 := fun z => cu.step (by omega) (by omega) (w1.symm.trans z) (pt.2.1.trans (i1 (e1.trans (z0 z))).2.symm) (pt.2.2.trans (by show q + 1 + nD g (q + 1) + 1 + nD g (q + 1 + nD g (q + 1) + 1) = h 53 3; exact (i3 z).1.symm)) (by have a := (i3 z).1; have b := nDp g (q + 1); have c := nDp g (q + 1 + nD g (q + 1) + 1); omega)
            have w4 : h 53 4 = 0 → 4 * (v2 + 1) + 3 ≤ h 53 3 ∧ r57 ≤ 255 := fun z => by have a := (i3 z).1; have b := nFz (sq_0r (z0 z)) (by omega); have c := nFz (z2 z) (by omega); have d := (i1 (e1.trans (z0 z))).2; omega
            clear i0 i1 i2 i3 z0 z2 e0 e1 e2 w1e w1 pt
            refine zW_pop (pc' := 76) dX6_readPoints_2.2.1.2 rfl rfl ?_
            refine zW_iinc (ls' := [_, _, _]) (pc' := 79) dX6_readPoints_2.2.2.1.1 rfl (by decide) rfl rfl rfl ?_
            refine zV_goto 24 dX6_readPoints_2.2.2.1.2 rfl ?_
            exact k24 _ _ _ hF (by omega) (by omega) (by omega) w2 w3 (fun q => by have := w4 q; omega) (by omega)
  refine zM_of [some (.inr (.inr 53)), none, none] 2 rfl rfl (Nat.le_of_ble_eq_true rfl) rfl ?_
  refine (show ∀ h : Hp, Fm [(53, 3), (53, 4), (51, 999), (52, 999)] κ h → h = κ → zV G mX6_readPoints (q_X6_readPointsP κ g p) 0 [some (.inr (.inr 53)), none, none] [] h from fun h hF hk0 => ?_) κ (Fm.rf hS hR hC) rfl
  have y0_53_3 : h 53 3 = κ 53 3 := by rw [hk0]
  have y0_53_4 : h 53 4 = κ 53 4 := by rw [hk0]
  refine zW_aload_n (pc' := 1) dX6_readPoints_0.1.1.1.1 rfl rfl ?_
  refine zW_iconst (pc' := 2) dX6_readPoints_0.1.1.1.2 rfl ?_
  refine zW_iconst (pc' := 3) dX6_readPoints_0.1.1.2.1 rfl ?_
  have y3_31_1 := hF.1 31 1 rfl rfl
  have y3_53_2 := hF.1 53 2 rfl rfl
  refine cvI2 (pc' := 6) kX6_readNumber vX6_readNumber lk_X6_87 ⟨Nat.le_of_ble_eq_true rfl, Nat.le_of_ble_eq_true rfl⟩ tb53 vq6 rfl rfl (s_X6_readNumberP hF.2.1 hF.2.2.1 hF.2.2.2 _ ⟨by omega, by omega⟩ _ ⟨by omega, by omega⟩ g p (by rw [hF.cell 32 rfl (fun _ => rfl), hF.1 53 2 rfl rfl]; exact hg) (by omega) (by omega) (by omega) (by omega)) dX6_readPoints_0.1.1.2.2 (Nat.le_of_ble_eq_true rfl) rfl ?_
  rintro r3 h ⟨hF1, p3⟩; replace hF := hF.tr hF1 rfl
  have hp0 : 0 ≤ p := by omega
  have e1 : h 53 4 = nF g p 0 0 := p3.2.2.1.trans (sq_z (by omega))
  have i1 := p3.2.2.2.1
  have b1 := And.intro p3.2.2.2.2.1 p3.2.2.2.2.2
  have r1b := And.intro p3.1 p3.2.1
  clear p3
  refine zW_istore_n (ls' := [_, _, _]) (pc' := 7) dX6_readPoints_0.1.2.1.1 (by decide) rfl rfl rfl ?_
  refine zW_aload_n (pc' := 8) dX6_readPoints_0.1.2.1.2 rfl rfl ?_
  refine zW_bipush (pc' := 10) dX6_readPoints_0.1.2.2.1 rfl rfl ?_
  have y10_31_1 := hF.1 31 1 rfl rfl
  have y10_53_2 := hF.1 53 2 rfl rfl
  refine cvV1 (pc' := 13) kX6_expect vX6_expect lk_X6_45 ⟨Nat.le_of_ble_eq_true rfl, Nat.le_of_ble_eq_true rfl⟩ tb53 vq6 rfl rfl (s_X6_expectP hF.2.1 hF.2.2.1 hF.2.2.2 _ ⟨by omega, by omega⟩ g (p + nD g p) (by rw [hF.cell 32 rfl (fun _ => rfl), hF.1 53 2 rfl rfl]; exact hg) (by omega) (fun z => ⟨(i1 z).1, by have := nDp g p; omega⟩) (by omega) (by omega)) dX6_readPoints_0.1.2.2.2 (Nat.le_of_ble_eq_true rfl) rfl ?_
  rintro r10 h ⟨hF1, p10⟩; replace hF := hF.tr hF1 rfl
  have e2 : h 53 4 = sq (nF g p 0 0) (sF g (p + nD g p) 62) := by rw [p10.1, e1]
  have i2 := p10.2.1
  have b2 := p10.2.2
  clear p10
  refine zW_aload_n (pc' := 14) dX6_readPoints_0.2.1.1.1 rfl rfl ?_
  refine zW_iconst (pc' := 15) dX6_readPoints_0.2.1.1.2 rfl ?_
  refine zW_sipush (pc' := 18) dX6_readPoints_0.2.1.2.1 rfl rfl ?_
  have y18_31_1 := hF.1 31 1 rfl rfl
  have y18_53_2 := hF.1 53 2 rfl rfl
  refine cvI2 (pc' := 21) kX6_readNumber vX6_readNumber lk_X6_87 ⟨Nat.le_of_ble_eq_true rfl, Nat.le_of_ble_eq_true rfl⟩ tb53 vq6 rfl rfl (s_X6_readNumberP hF.2.1 hF.2.2.1 hF.2.2.2 _ ⟨by omega, by omega⟩ _ ⟨by omega, by omega⟩ g (p + nD g p + 1) (by rw [hF.cell 32 rfl (fun _ => rfl), hF.1 53 2 rfl rfl]; exact hg) (by omega) (fun z => ⟨i2 z, by have := nDp g p; omega⟩) (by omega) (by omega)) dX6_readPoints_0.2.1.2.2 (Nat.le_of_ble_eq_true rfl) rfl ?_
  rintro r18 h ⟨hF1, p18⟩; replace hF := hF.tr hF1 rfl
  have w1e : h 53 4 = sq (sq (nF g p 0 0) (sF g (p + nD g p) 62)) (nF g (p + nD g p + 1) 0 255) := by rw [p18.2.2.1, e2]
  have w1 : h 53 4 = ptF g p (-1) := w1e
  have i3 := p18.2.2.2.1
  have b3 := p18.2.2.2.2
  clear p18
  have z1 : h 53 4 = 0 → nF g p 0 0 = 0 := fun q => sq_0l (sq_0l (w1e.symm.trans q))
  have z2 : h 53 4 = 0 → nF g (p + nD g p + 1) 0 255 = 0 := fun q => sq_0r (w1e.symm.trans q)
  have w2 : h 53 4 ≠ 0 → h 53 4 = cuF g 200 p (-1) := fun q => by rw [(CuI.rf (g := g) (p := p) hp0).bad (by decide) (by omega) (fun z => q (w1.trans z))]; exact w1
  have w3 : h 53 4 = 0 → CuI g p (h 53 3) r3 := fun q => (CuI.rf (g := g) (p := p) hp0).step (by decide) (by omega) (w1.symm.trans q) (by show nV g p = r3; exact (i1 (e1.trans (z1 q))).2.symm) (by show p + nD g p + 1 + nD g (p + nD g p + 1) = h 53 3; exact (i3 q).1.symm) (by have a := (i3 q).1; have b := nDp g p; have c := nDp g (p + nD g p + 1); omega)
  have w4 : h 53 4 = 0 → 3 ≤ h 53 3 ∧ r3 ≤ 255 := fun q => by have a := (i3 q).1; have b := nFz (z1 q) hp0; have c := nFz (z2 q) (by omega); have d := (i1 (e1.trans (z1 q))).2; omega
  clear i1 i2 i3 z1 z2 e1 e2 w1e w1
  refine zW_pop (pc' := 22) dX6_readPoints_0.2.2.1.1 rfl rfl ?_
  refine zW_iconst (pc' := 23) dX6_readPoints_0.2.2.1.2 rfl ?_
  refine zW_istore_n (ls' := [_, _, _]) (pc' := 24) dX6_readPoints_0.2.2.2.1 (by decide) rfl rfl rfl ?_
  exact (main 10000000000000000000000000000000000000000) _ _ _ hF (by omega) (by omega) (by omega) w2 w3 (fun q => by have := w4 q; omega) (by omega)

abbrev q_J1_canEncode_9a6adP (κ h : Hp) (x1 : Int) : Int → Hp → Prop := fun r h' => h' = h ∧ ((0 ≤ r) ∧ (r ≤ 1) ∧ (r = 1 ↔ (0 ≤ x1 ∧ x1 ≤ 255)))
set_option maxHeartbeats 4000000 in
set_option maxRecDepth 20000 in
theorem s_J1_canEncode_9a6adP {G : Ga} {b : Bool} {κ h : Hp} (hF : Fr b κ h) (x1 : Int) (hx1 : rng x1) : zM G mJ1_canEncode_9a6ad yJ1_canEncode_9a6ad [.inl x1] h (q_J1_canEncode_9a6adP κ h x1) := by
  unfold rng at hx1
  refine zM_of [some (.inl x1)] 0 (by decide +kernel) rfl (Nat.le_of_ble_eq_true rfl) rfl ?_
  refine zW_iload_n (pc' := 1) dJ1_canEncode_9a6ad_0.1.1.1.1 rfl rfl ?_
  refine zV_if_lt (tgt := 15) (pc' := 4) dJ1_canEncode_9a6ad_0.1.1.1.2 rfl rfl ⟨by omega, by omega⟩ (fun c1 => ?_) (fun c1 => ?_)
  · refine zW_iconst (pc' := 16) dJ1_canEncode_9a6ad_0.2.2.1 rfl ?_
    exact zV_zret rfl (by omega) dJ1_canEncode_9a6ad_0.2.2.2 ⟨rfl, by omega⟩
  · refine zW_iload_n (pc' := 5) dJ1_canEncode_9a6ad_0.1.1.2 rfl rfl ?_
    refine zW_sipush (pc' := 8) dJ1_canEncode_9a6ad_0.1.2.1 rfl rfl ?_
    refine zV_cm_gt (tgt := 15) (pc' := 11) dJ1_canEncode_9a6ad_0.1.2.2 rfl rfl ⟨by omega, by omega⟩ ⟨by omega, by omega⟩ (fun c8 => ?_) (fun c8 => ?_)
    · refine zW_iconst (pc' := 16) dJ1_canEncode_9a6ad_0.2.2.1 rfl ?_
      exact zV_zret rfl (by omega) dJ1_canEncode_9a6ad_0.2.2.2 ⟨rfl, by omega⟩
    · refine zW_iconst (pc' := 12) dJ1_canEncode_9a6ad_0.2.1.1 rfl ?_
      refine zV_goto 16 dJ1_canEncode_9a6ad_0.2.1.2 rfl ?_
      exact zV_zret rfl (by omega) dJ1_canEncode_9a6ad_0.2.2.2 ⟨rfl, by omega⟩

abbrev q_J1_indexOfChar_4cfefS0P (κ h : Hp) (x2 : Int) (x3 : Int) (x4 : Int) : Int → Hp → Prop := fun r h' => h' = h ∧ ((-1 ≤ r) ∧ (r ≤ 14) ∧ ((r = -1 ∧ ∀ j : Nat, j < 15 → sbv 0 j ≠ x2) ∨ (0 ≤ r ∧ r < 15 ∧ sbv 0 r.toNat = x2)))
set_option maxHeartbeats 4000000 in
set_option maxRecDepth 20000 in
theorem s_J1_indexOfChar_4cfefS0P {G : Ga} {b : Bool} {κ h : Hp} (hF : Fr b κ h) (x2 : Int) (hx2 : 0 ≤ x2 ∧ x2 ≤ 255) (x3 : Int) (hx3 : 0 ≤ x3 ∧ x3 ≤ 0) (x4 : Int) (hx4 : 15 ≤ x4 ∧ x4 ≤ 15) (hX : XI G) : zM G mJ1_indexOfChar_4cfef yJ1_indexOfChar_4cfef [.inr (.inr 108), .inl x2, .inl x3, .inl x4] h (q_J1_indexOfChar_4cfefS0P κ h x2 x3 x4) := by
  have main : ∀ N : Nat, (∀ (v4 v5 : Int) , (-128 ≤ v4 ∧ v4 ≤ 127) → (0 ≤ v5 ∧ v5 ≤ 15) → (∀ j : Nat, (j : Int) < v5 → sbv 0 j ≠ x2) → (v4 % 256 = x2) → 4080 + 16 * (15 - v5) + 15 < (N : Int) → zV G mJ1_indexOfChar_4cfef (q_J1_indexOfChar_4cfefS0P κ h x2 x3 x4) 7 [some (.inr (.inr 108)), some (.inl x2), some (.inl x3), some (.inl x4), some (.inl v4), some (.inl v5)] [] h) := by
    intro N
    induction N with
    | zero =>
      intro v4 v5 g0 g1 gc0 gc1 hm
      exfalso; omega
    | succ N ih =>
      have k7 := ih
      intro v4 v5 g0 g1 gc0 gc1 hm
      refine zW_iload (pc' := 9) dJ1_indexOfChar_4cfef_0.1.2.1.2 rfl rfl ?_
      refine zW_iload_n (pc' := 10) dJ1_indexOfChar_4cfef_0.1.2.2.1 rfl rfl ?_
      refine zV_cm_ge (tgt := 31) (pc' := 13) dJ1_indexOfChar_4cfef_0.1.2.2.2 rfl rfl ⟨by omega, by omega⟩ ⟨by omega, by omega⟩ (fun c10 => ?_) (fun c10 => ?_)
      · refine zW_iconst (pc' := 32) dJ1_indexOfChar_4cfef_1.1.2 rfl ?_
        exact zV_iret rfl dJ1_indexOfChar_4cfef_1.2 ⟨rfl, by refine ⟨by omega, by omega, Or.inl ⟨rfl, fun j hj => gc0 j (by omega)⟩⟩⟩
      · refine zW_aload_n (pc' := 14) dJ1_indexOfChar_4cfef_0.2.1.1.1 rfl rfl ?_
        refine zW_iload (pc' := 16) dJ1_indexOfChar_4cfef_0.2.1.1.2 rfl rfl ?_
        refine zV_sbaldE (z := 0) (pc' := 17) hX (by decide) (show _ ∧ _ < ((15 : Nat) : Int) from (by omega)) dJ1_indexOfChar_4cfef_0.2.1.2.1 rfl (fun v16 e16 f16 => ?_)
        unfold rng at e16
        have b16 := sbv_b v5.toNat (by omega)
        refine zW_iload (pc' := 19) dJ1_indexOfChar_4cfef_0.2.1.2.2 rfl rfl ?_
        refine zV_cm_ne (tgt := 25) (pc' := 22) dJ1_indexOfChar_4cfef_0.2.2.1.1 rfl rfl ⟨by omega, by omega⟩ ⟨by omega, by omega⟩ (fun c19 => ?_) (fun c19 => ?_)
        · refine zW_iinc (ls' := [_, _, _, _, _, _]) (pc' := 28) dJ1_indexOfChar_4cfef_0.2.2.2.2 rfl (by decide) rfl rfl rfl ?_
          refine zV_goto 7 dJ1_indexOfChar_4cfef_1.1.1 rfl ?_
          exact k7 _ _ (by omega) (by omega) (fun j => by have q0 := gc0 j; by_cases ej : j = v5.toNat; (subst ej; omega); omega) (by omega) (by omega)
        · refine zW_iload (pc' := 24) dJ1_indexOfChar_4cfef_0.2.2.1.2 rfl rfl ?_
          exact zV_iret rfl dJ1_indexOfChar_4cfef_0.2.2.2.1 ⟨rfl, by refine ⟨by omega, by omega, Or.inr ⟨by omega, by omega, by omega⟩⟩⟩
  refine zM_of [some (.inr (.inr 108)), some (.inl x2), some (.inl x3), some (.inl x4), none, none] 2 (by decide +kernel) rfl (Nat.le_of_ble_eq_true rfl) rfl ?_
  refine zW_iload_n (pc' := 1) dJ1_indexOfChar_4cfef_0.1.1.1.1 rfl rfl ?_
  refine zW_i2bE (pc' := 2) ⟨by omega, by omega⟩ dJ1_indexOfChar_4cfef_0.1.1.1.2 rfl (fun v1 e1 => ?_)
  refine zW_istore (ls' := [_, _, _, _, _, _]) (pc' := 4) dJ1_indexOfChar_4cfef_0.1.1.2.1 (by decide) rfl rfl rfl ?_
  refine zW_iload_n (pc' := 5) dJ1_indexOfChar_4cfef_0.1.1.2.2 rfl rfl ?_
  refine zW_istore (ls' := [_, _, _, _, _, _]) (pc' := 7) dJ1_indexOfChar_4cfef_0.1.2.1.1 (by decide) rfl rfl rfl ?_
  exact (main 10000000000000000000000000000000000000000) _ _ (by omega) (by omega) (fun j => by omega) (by omega) (by omega)

abbrev q_J1_indexOf_4cfefS0P (κ h : Hp) (x2 : Int) (x3 : Int) (x4 : Int) : Int → Hp → Prop := fun r h' => h' = h ∧ ((-1 ≤ r) ∧ (r ≤ 14) ∧ ((r = -1 ∧ ∀ j : Nat, j < 15 → sbv 0 j ≠ x2) ∨ (0 ≤ r ∧ r < 15 ∧ sbv 0 r.toNat = x2)))
set_option maxHeartbeats 4000000 in
set_option maxRecDepth 20000 in
theorem s_J1_indexOf_4cfefS0P {G : Ga} {b : Bool} {κ h : Hp} (hF : Fr b κ h) (x2 : Int) (hx2 : 0 ≤ x2 ∧ x2 ≤ 255) (x3 : Int) (hx3 : 0 ≤ x3 ∧ x3 ≤ 0) (x4 : Int) (hx4 : 15 ≤ x4 ∧ x4 ≤ 15) (hX : XI G) : zM G mJ1_indexOf_4cfef yJ1_indexOf_4cfef [.inr (.inr 108), .inl x2, .inl x3, .inl x4] h (q_J1_indexOf_4cfefS0P κ h x2 x3 x4) := by
  refine zM_of [some (.inr (.inr 108)), some (.inl x2), some (.inl x3), some (.inl x4)] 0 (by decide +kernel) rfl (Nat.le_of_ble_eq_true rfl) rfl ?_
  refine zW_iload_n (pc' := 1) dJ1_indexOf_4cfef_0.1.1.1.1 rfl rfl ?_
  refine csI1 (pc' := 4) kJ1_canEncode_9a6ad vJ1_canEncode_9a6ad lk_J1_88 ⟨Nat.le_of_ble_eq_true rfl, Nat.le_of_ble_eq_true rfl⟩ rfl (s_J1_canEncode_9a6adP hF _ ⟨by omega, by omega⟩) dJ1_indexOf_4cfef_0.1.1.1.2 (Nat.le_of_ble_eq_true rfl) rfl ?_
  rintro r1 z1 ⟨hz1, p1⟩; subst z1
  refine zV_if_ne (tgt := 9) (pc' := 7) dJ1_indexOf_4cfef_0.1.1.2.1 rfl rfl ⟨by omega, by omega⟩ (fun c4 => ?_) (fun c4 => ?_)
  · refine zW_iload_n (pc' := 10) dJ1_indexOf_4cfef_0.1.2.1.2 rfl rfl ?_
    refine zW_iconst (pc' := 11) dJ1_indexOf_4cfef_0.1.2.2.1 rfl ?_
    refine zV_mmax (pc' := 14) km_J1_92 (Nat.le_of_ble_eq_true rfl) (Nat.le_of_ble_eq_true rfl) dJ1_indexOf_4cfef_0.1.2.2.2 rfl (fun v11 e11 => ?_)
    replace e11 := e11.2 ⟨by omega, by omega⟩ ⟨by omega, by omega⟩
    refine zW_istore_n (ls' := [_, _, _, _]) (pc' := 15) dJ1_indexOf_4cfef_0.2.1.1.1 (by decide) rfl rfl rfl ?_
    refine zW_iload_n (pc' := 16) dJ1_indexOf_4cfef_0.2.1.1.2 rfl rfl ?_
    refine zW_aload_n (pc' := 17) dJ1_indexOf_4cfef_0.2.1.2.1 rfl rfl ?_
    refine zV_sblen0 (pc' := 18) hX dJ1_indexOf_4cfef_0.2.1.2.2 rfl ?_
    refine zV_mmin (pc' := 21) km_J1_38 (Nat.le_of_ble_eq_true rfl) (Nat.le_of_ble_eq_true rfl) dJ1_indexOf_4cfef_0.2.2.1.1 rfl (fun v18 e18 => ?_)
    replace e18 := e18.2 ⟨by omega, by omega⟩ ⟨by omega, by omega⟩
    refine zW_istore_n (ls' := [_, _, _, _]) (pc' := 22) dJ1_indexOf_4cfef_0.2.2.1.2 (by decide) rfl rfl rfl ?_
    refine zW_iload_n (pc' := 23) dJ1_indexOf_4cfef_0.2.2.2.1 rfl rfl ?_
    refine zW_iload_n (pc' := 24) dJ1_indexOf_4cfef_0.2.2.2.2 rfl rfl ?_
    refine zV_cm_lt (tgt := 29) (pc' := 27) dJ1_indexOf_4cfef_1.1.1.1.1 rfl rfl ⟨by omega, by omega⟩ ⟨by omega, by omega⟩ (fun c24 => ?_) (fun c24 => ?_)
    · refine zW_aload_n (pc' := 30) dJ1_indexOf_4cfef_1.1.2.1 rfl rfl ?_
      refine zW_iload_n (pc' := 31) dJ1_indexOf_4cfef_1.1.2.2 rfl rfl ?_
      refine zW_iload_n (pc' := 32) dJ1_indexOf_4cfef_1.2.1.1 rfl rfl ?_
      refine zW_iload_n (pc' := 33) dJ1_indexOf_4cfef_1.2.1.2 rfl rfl ?_
      refine csI4 (pc' := 36) kJ1_indexOfChar_4cfef vJ1_indexOfChar_4cfef lk_J1_95 ⟨Nat.le_of_ble_eq_true rfl, Nat.le_of_ble_eq_true rfl⟩ rfl (s_J1_indexOfChar_4cfefS0P hF _ ⟨by omega, by omega⟩ _ ⟨by omega, by omega⟩ _ ⟨by omega, by omega⟩ hX) dJ1_indexOf_4cfef_1.2.2.1 (Nat.le_of_ble_eq_true rfl) rfl ?_
      rintro r33 z33 ⟨hz33, p33⟩; subst z33
      exact zV_iret rfl dJ1_indexOf_4cfef_1.2.2.2 ⟨rfl, p33⟩
    · exfalso; omega
  · refine zW_iconst (pc' := 8) dJ1_indexOf_4cfef_0.1.1.2.2 rfl ?_
    exact zV_iret rfl dJ1_indexOf_4cfef_0.1.2.1.1 ⟨rfl, by exfalso; omega⟩

abbrev q_J0_indexOf_7cf53S0P (κ h : Hp) (x1 : Int) (x2 : Int) : Int → Hp → Prop := fun r h' => h' = h ∧ ((-1 ≤ r) ∧ (r ≤ 14) ∧ ((r = -1 ∧ ∀ j : Nat, j < 15 → sbv 0 j ≠ x1) ∨ (0 ≤ r ∧ r < 15 ∧ sbv 0 r.toNat = x1)))
set_option maxHeartbeats 4000000 in
set_option maxRecDepth 20000 in
theorem s_J0_indexOf_7cf53S0P {G : Ga} {b : Bool} {κ h : Hp} (hF : Fr b κ h) (x1 : Int) (hx1 : 0 ≤ x1 ∧ x1 ≤ 255) (x2 : Int) (hx2 : 0 ≤ x2 ∧ x2 ≤ 0) (hX : XI G) : zM G mJ0_indexOf_7cf53 yJ0_indexOf_7cf53 [.inr (.inr 106), .inl x1, .inl x2] h (q_J0_indexOf_7cf53S0P κ h x1 x2) := by
  refine zM_of [some (.inr (.inr 106)), some (.inl x1), some (.inl x2)] 0 (by decide +kernel) rfl (Nat.le_of_ble_eq_true rfl) rfl ?_
  refine zW_aload_n (pc' := 1) dJ0_indexOf_7cf53_0.1.1.1.1 rfl rfl ?_
  refine cwI0 (z := 0) hX (by decide) rfl (pc' := 4) kJ0_isLatin1_aae02 vJ0_isLatin1_aae02 lk_J0_492 ⟨Nat.le_of_ble_eq_true rfl, Nat.le_of_ble_eq_true rfl⟩ rfl (s_J0_isLatin1_aae02S0 hF hX) dJ0_indexOf_7cf53_0.1.1.1.2 (Nat.le_of_ble_eq_true rfl) rfl ?_
  rintro r1 z1 ⟨hz1, p1⟩; subst z1
  refine zV_if_eq (tgt := 23) (pc' := 7) dJ0_indexOf_7cf53_0.1.1.2.1 rfl rfl ⟨by omega, by omega⟩ (fun c4 => ?_) (fun c4 => ?_)
  · exfalso; omega
  · refine zW_aload_n (pc' := 8) dJ0_indexOf_7cf53_0.1.1.2.2 rfl rfl ?_
    refine zV_sval (z := 0) (pc' := 11) hX (by decide) w_svalue dJ0_indexOf_7cf53_0.1.2.1.1 rfl ?_
    refine zW_iload_n (pc' := 12) dJ0_indexOf_7cf53_0.1.2.1.2 rfl rfl ?_
    refine zW_iload_n (pc' := 13) dJ0_indexOf_7cf53_0.1.2.2.1 rfl rfl ?_
    refine zW_aload_n (pc' := 14) dJ0_indexOf_7cf53_0.1.2.2.2 rfl rfl ?_
    refine cwI0 (z := 0) hX (by decide) rfl (pc' := 17) kJ0_length_8abf5 vJ0_length_8abf5 lk_J0_505 ⟨Nat.le_of_ble_eq_true rfl, Nat.le_of_ble_eq_true rfl⟩ rfl (s_J0_length_8abf5S0 hF hX) dJ0_indexOf_7cf53_0.2.1.1.1 (Nat.le_of_ble_eq_true rfl) rfl ?_
    rintro r14 z14 ⟨hz14, p14⟩; subst z14
    refine csI4 (pc' := 20) kJ1_indexOf_4cfef vJ1_indexOf_4cfef lk_J0_637 ⟨Nat.le_of_ble_eq_true rfl, Nat.le_of_ble_eq_true rfl⟩ rfl (s_J1_indexOf_4cfefS0P hF _ ⟨by omega, by omega⟩ _ ⟨by omega, by omega⟩ _ ⟨by omega, by omega⟩ hX) dJ0_indexOf_7cf53_0.2.1.1.2 (Nat.le_of_ble_eq_true rfl) rfl ?_
    rintro r17 z17 ⟨hz17, p17⟩; subst z17
    refine zV_goto 36 dJ0_indexOf_7cf53_0.2.1.2.1 rfl ?_
    exact zV_iret rfl dJ0_indexOf_7cf53_1.2 ⟨rfl, p17⟩

abbrev q_J0_indexOf_0f7a4S0P (κ h : Hp) (x1 : Int) : Int → Hp → Prop := fun r h' => h' = h ∧ ((-1 ≤ r) ∧ (r ≤ 14) ∧ ((r = -1 ∧ ∀ j : Nat, j < 15 → sbv 0 j ≠ x1) ∨ (0 ≤ r ∧ r < 15 ∧ sbv 0 r.toNat = x1)))
set_option maxHeartbeats 4000000 in
set_option maxRecDepth 20000 in
theorem s_J0_indexOf_0f7a4S0P {G : Ga} {b : Bool} {κ h : Hp} (hF : Fr b κ h) (x1 : Int) (hx1 : 0 ≤ x1 ∧ x1 ≤ 255) (hX : XI G) : zM G mJ0_indexOf_0f7a4 yJ0_indexOf_0f7a4 [.inr (.inr 106), .inl x1] h (q_J0_indexOf_0f7a4S0P κ h x1) := by
  refine zM_of [some (.inr (.inr 106)), some (.inl x1)] 0 (by decide +kernel) rfl (Nat.le_of_ble_eq_true rfl) rfl ?_
  refine zW_aload_n (pc' := 1) dJ0_indexOf_0f7a4_0.1.1.1 rfl rfl ?_
  refine zW_iload_n (pc' := 2) dJ0_indexOf_0f7a4_0.1.1.2 rfl rfl ?_
  refine zW_iconst (pc' := 3) dJ0_indexOf_0f7a4_0.1.2 rfl ?_
  refine cwI2 (z := 0) hX (by decide) rfl (pc' := 6) kJ0_indexOf_7cf53 vJ0_indexOf_7cf53 lk_J0_633 ⟨Nat.le_of_ble_eq_true rfl, Nat.le_of_ble_eq_true rfl⟩ rfl (s_J0_indexOf_7cf53S0P hF _ ⟨by omega, by omega⟩ _ ⟨by omega, by omega⟩ hX) dJ0_indexOf_0f7a4_0.2.1 (Nat.le_of_ble_eq_true rfl) rfl ?_
  rintro r3 z3 ⟨hz3, p3⟩; subst z3
  exact zV_iret rfl dJ0_indexOf_0f7a4_0.2.2 ⟨rfl, p3⟩

abbrev q_X7_addStageV49P (κ : Hp) (x1 : Int) : Int → Hp → Prop := fun r h' => Fm [(49, 0), (49, 1), (50, 999), (51, 999)] κ h' ∧ ((h' 49 0 = κ 49 0 + 1 ∧ (x1 = 102 → h' 49 1 = κ 49 0 + 1) ∧ (x1 ≠ 102 → h' 49 1 = κ 49 1)))
set_option maxHeartbeats 4000000 in
set_option maxRecDepth 20000 in
theorem s_X7_addStageV49P {G : Ga} {κ : Hp} (hS : SI κ) (hR : KR κ) (hC : KC κ) (x1 : Int) (hx1 : rng x1) (hs : κ 49 0 ≤ 11) : zM G mX7_addStage yX7_addStage [.inr (.inr 49), .inl x1] κ (q_X7_addStageV49P κ x1) := by
  have f_41_0 := KCm hC
  have f_45_0 := KCr0 hC
  have f_49_0 := KCd0 hC
  have f_49_1 := KCd1 hC
  unfold rng at hx1
  refine zM_of [some (.inr (.inr 49)), some (.inl x1)] 0 rfl rfl (Nat.le_of_ble_eq_true rfl) rfl ?_
  refine (show ∀ h : Hp, Fm [(49, 0), (49, 1), (50, 999), (51, 999)] κ h → h = κ → zV G mX7_addStage (q_X7_addStageV49P κ x1) 0 [some (.inr (.inr 49)), some (.inl x1)] [] h from fun h hF hk0 => ?_) κ (Fm.rf hS hR hC) rfl
  have y0_49_0 : h 49 0 = κ 49 0 := by rw [hk0]
  have y0_49_1 : h 49 1 = κ 49 1 := by rw [hk0]
  refine zW_aload_n (pc' := 1) dX7_addStage_0.1.1.1.1 rfl rfl ?_
  refine zG_int (pc' := 4) fg_X7_21 tb49 rfl dX7_addStage_0.1.1.1.2 rfl ?_
  have e1 := KCd0 hF.2.2.2
  refine zW_bipush (pc' := 6) dX7_addStage_0.1.1.2.1 rfl rfl ?_
  refine zV_cm_ge (tgt := 63) (pc' := 9) dX7_addStage_0.1.1.2.2 rfl rfl ⟨by omega, by omega⟩ ⟨by omega, by omega⟩ (fun c6 => ?_) (fun c6 => ?_)
  · exact zV_vret rfl dX7_addStage_2.2.2 ⟨hF, by omega⟩
  · refine zW_aload_n (pc' := 10) dX7_addStage_0.1.2.1.1 rfl rfl ?_
    refine zW_dup (pc' := 11) dX7_addStage_0.1.2.1.2 rfl rfl ?_
    refine zG_int (pc' := 14) fg_X7_21 tb49 rfl dX7_addStage_0.1.2.2.1 rfl ?_
    have e11 := KCd0 hF.2.2.2
    refine zW_iconst (pc' := 15) dX7_addStage_0.1.2.2.2 rfl ?_
    refine zW_iadd (pc' := 16) dX7_addStage_0.2.1.1.1 rfl ?_
    refine zPm (pc' := 19) hF (Or.inl rfl) (SI_irr hF.2.1 (Or.inl rfl) (fun _ _ => ⟨by omega, by omega⟩)) (KR_irr hF.2.2.1 rfl) (KC_49_0 hF.2.2.2 (by omega)) fp_X7_21 tb49 rfl dX7_addStage_0.2.1.1.2 rfl (fun h hF w16 => ?_)
    have t16_49_0 := congrFun (congrFun w16 49) 0
    rw [zwr_eq] at t16_49_0
    have t16_49_1 := congrFun (congrFun w16 49) 1
    rw [zwr_ne (Or.inr (by decide))] at t16_49_1
    refine zW_aload_n (pc' := 20) dX7_addStage_0.2.1.2.1 rfl rfl ?_
    refine zG_ref (pc' := 23) 50 fg_X7_9 tb49 rfl dX7_addStage_0.2.1.2.2 rfl ?_
    refine zW_aload_n (pc' := 24) dX7_addStage_0.2.2.1.1 rfl rfl ?_
    refine zG_int (pc' := 27) fg_X7_21 tb49 rfl dX7_addStage_0.2.2.1.2 rfl ?_
    have e24 := KCd0 hF.2.2.2
    refine zW_iload_n (pc' := 28) dX7_addStage_0.2.2.2.1 rfl rfl ?_
    refine zSm (pc' := 29) hF rfl (fun v' hv he => ⟨(SI_irr hF.2.1 (Or.inl (key_of rfl _)) (fun _ _ => hv)), (KR_irr hF.2.2.1 rfl), (KC_irr hF.2.2.2 rfl)⟩) tb50 (by omega) dX7_addStage_0.2.2.2.2 (by decide) rfl (fun h i28 hF a28 b28 w28 => ?_)
    have t28_49_0 := congrFun (congrFun w28 49) 0
    rw [zwr_ne (Or.inl (by decide))] at t28_49_0
    have t28_49_1 := congrFun (congrFun w28 49) 1
    rw [zwr_ne (Or.inl (by decide))] at t28_49_1
    refine zW_aload_n (pc' := 30) dX7_addStage_1.1.1.1.1 rfl rfl ?_
    refine zG_ref (pc' := 33) 51 fg_X7_15 tb49 rfl dX7_addStage_1.1.1.1.2 rfl ?_
    refine zW_aload_n (pc' := 34) dX7_addStage_1.1.1.2.1 rfl rfl ?_
    refine zG_int (pc' := 37) fg_X7_21 tb49 rfl dX7_addStage_1.1.1.2.2 rfl ?_
    have e34 := KCd0 hF.2.2.2
    refine zW_iconst (pc' := 38) dX7_addStage_1.1.2.1.1 rfl ?_
    refine zW_iadd (pc' := 39) dX7_addStage_1.1.2.1.2 rfl ?_
    refine zW_aload_n (pc' := 40) dX7_addStage_1.1.2.2.1 rfl rfl ?_
    refine zG_ref (pc' := 43) 51 fg_X7_15 tb49 rfl dX7_addStage_1.1.2.2.2 rfl ?_
    refine zW_aload_n (pc' := 44) dX7_addStage_1.2.1.1.1 rfl rfl ?_
    refine zG_int (pc' := 47) fg_X7_21 tb49 rfl dX7_addStage_1.2.1.1.2 rfl ?_
    have e44 := KCd0 hF.2.2.2
    refine zAmD (pc' := 48) hF tb51 (by omega) dX7_addStage_1.2.1.2.1 rfl (fun e47 => ?_)
    refine zSm (pc' := 49) hF rfl (fun v' hv he => ⟨(SI_irr hF.2.1 (Or.inl (key_of rfl _)) (fun _ _ => hv)), (KR_irr hF.2.2.1 rfl), (KC_c51 hF.2.2.2 (by have := he ⟨by omega, by omega⟩; omega))⟩) tb51 (by omega) dX7_addStage_1.2.1.2.2 (by decide) rfl (fun h i48 hF a48 b48 w48 => ?_)
    have t48_49_0 := congrFun (congrFun w48 49) 0
    rw [zwr_ne (Or.inl (by decide))] at t48_49_0
    have t48_49_1 := congrFun (congrFun w48 49) 1
    rw [zwr_ne (Or.inl (by decide))] at t48_49_1
    refine zW_iload_n (pc' := 50) dX7_addStage_1.2.2.1.1 rfl rfl ?_
    refine zW_bipush (pc' := 52) dX7_addStage_1.2.2.1.2 rfl rfl ?_
    refine zV_cm_ne (tgt := 63) (pc' := 55) dX7_addStage_1.2.2.2.1 rfl rfl ⟨by omega, by omega⟩ ⟨by omega, by omega⟩ (fun c52 => ?_) (fun c52 => ?_)
    · exact zV_vret rfl dX7_addStage_2.2.2 ⟨hF, by omega⟩
    · refine zW_aload_n (pc' := 56) dX7_addStage_1.2.2.2.2 rfl rfl ?_
      refine zW_aload_n (pc' := 57) dX7_addStage_2.1.1 rfl rfl ?_
      refine zG_int (pc' := 60) fg_X7_21 tb49 rfl dX7_addStage_2.1.2 rfl ?_
      have e57 := KCd0 hF.2.2.2
      refine zPm (pc' := 63) hF (Or.inl rfl) (SI_irr hF.2.1 (Or.inl rfl) (fun _ _ => ⟨by omega, by omega⟩)) (KR_irr hF.2.2.1 rfl) (KC_49_1 hF.2.2.2 (by omega)) fp_X7_25 tb49 rfl dX7_addStage_2.2.1 rfl (fun h hF w60 => ?_)
      have t60_49_0 := congrFun (congrFun w60 49) 0
      rw [zwr_ne (Or.inr (by decide))] at t60_49_0
      have t60_49_1 := congrFun (congrFun w60 49) 1
      rw [zwr_eq] at t60_49_1
      exact zV_vret rfl dX7_addStage_2.2.2 ⟨hF, by omega⟩

abbrev q_X6_readLetterP (κ : Hp) (g : Int → Int) (p : Int) : Int → Hp → Prop := fun r h' => Fm [(53, 3), (53, 4), (49, 0), (49, 1), (50, 999), (51, 999), (52, 999)] κ h' ∧ ((-1 ≤ r) ∧ (r ≤ 14) ∧ (r = kd (g p) ∧ h' 53 4 = lF g p (κ 49 0) (κ 49 1) ∧ (h' 53 4 = 0 → h' 53 3 = p + 1 ∧ h' 49 0 = κ 49 0 + 1 ∧ (r = 4 → h' 49 1 = κ 49 0 + 1) ∧ (r ≠ 4 → h' 49 1 = κ 49 1)) ∧ κ 53 3 ≤ h' 53 3 ∧ (h' 53 3 = κ 53 3 ∨ h' 53 3 ≤ κ 53 2)))
set_option maxHeartbeats 4000000 in
set_option maxRecDepth 20000 in
theorem s_X6_readLetterP {G : Ga} {κ : Hp} (hS : SI κ) (hR : KR κ) (hC : KC κ) (g : Int → Int) (p : Int) (hg : hr (κ 32) (κ 53 2) = g) (hn : 0 ≤ κ 53 2 ∧ κ 53 2 ≤ 120 ∧ κ 53 2 ≤ κ 31 1) (hb : ∀ q : Int, -1 ≤ g q ∧ g q ≤ 255) (hp : (κ 53 4 = 0 ∧ κ 53 3 = p ∧ 0 ≤ p)) (ha : κ 53 3 ≤ 150) (hX : XI G) : zM G mX6_readLetter yX6_readLetter [.inr (.inr 53)] κ (q_X6_readLetterP κ g p) := by
  have f_31_1 := KCt hC
  have f_41_0 := KCm hC
  have f_41_1 := KCf hC
  have f_45_0 := KCr0 hC
  have f_45_1 := KCr1 hC
  have f_49_0 := KCd0 hC
  have f_49_1 := KCd1 hC
  have lf := lFc g p (κ 49 0) (κ 49 1)
  have kf := kd_f (g p)
  have hbp := hb p
  skip
  refine zM_of [some (.inr (.inr 53)), none, none] 2 rfl rfl (Nat.le_of_ble_eq_true rfl) rfl ?_
  refine (show ∀ h : Hp, Fm [(53, 3), (53, 4), (49, 0), (49, 1), (50, 999), (51, 999), (52, 999)] κ h → h = κ → zV G mX6_readLetter (q_X6_readLetterP κ g p) 0 [some (.inr (.inr 53)), none, none] [] h from fun h hF hk0 => ?_) κ (Fm.rf hS hR hC) rfl
  have y0_53_3 : h 53 3 = κ 53 3 := by rw [hk0]
  have y0_53_4 : h 53 4 = κ 53 4 := by rw [hk0]
  have y0_49_0 : h 49 0 = κ 49 0 := by rw [hk0]
  have y0_49_1 : h 49 1 = κ 49 1 := by rw [hk0]
  refine zW_aload_n (pc' := 1) dX6_readLetter_0.1.1.1.1 rfl rfl ?_
  have y1_31_1 := hF.1 31 1 rfl rfl
  have y1_53_2 := hF.1 53 2 rfl rfl
  refine cvI0 (pc' := 4) kX6_here vX6_here lk_X6_56 ⟨Nat.le_of_ble_eq_true rfl, Nat.le_of_ble_eq_true rfl⟩ tb53 vq6 rfl rfl (s_X6_hereP (b := true) (κ := h) hF.2.2.2 (Fr.rf hF.2.1) g p (by rw [hF.cell 32 rfl (fun _ => rfl), hF.1 53 2 rfl rfl]; exact hg) (by omega) (by omega)) dX6_readLetter_0.1.1.1.2 (Nat.le_of_ble_eq_true rfl) rfl ?_
  rintro r1 z1 ⟨hz1, p1⟩; subst z1
  refine zW_istore_n (ls' := [_, _, _]) (pc' := 5) dX6_readLetter_0.1.1.2.1 (by decide) rfl rfl rfl ?_
  have kb := kd_b (g p)
  refine zW_iload_n (pc' := 6) dX6_readLetter_0.1.1.2.2 rfl rfl ?_
  refine zV_if_ge (tgt := 13) (pc' := 9) dX6_readLetter_0.1.2.1.1 rfl rfl ⟨by omega, by omega⟩ (fun c6 => ?_) (fun c6 => ?_)
  · refine zV_ldcS (k := 106) (pc' := 15) (fun U hU => (hX U hU).2.2.1) dX6_readLetter_0.1.2.2.2 rfl ?_
    refine zW_iload_n (pc' := 16) dX6_readLetter_0.2.1.1.1 rfl rfl ?_
    refine zW_i2cE (pc' := 17) ⟨by omega, by omega⟩ dX6_readLetter_0.2.1.1.2 rfl (fun v16 e16 => ?_)
    refine cwI1 (z := 0) hX (by decide) rfl (pc' := 20) kJ0_indexOf_0f7a4 vJ0_indexOf_0f7a4 lk_X6_65 ⟨Nat.le_of_ble_eq_true rfl, Nat.le_of_ble_eq_true rfl⟩ rfl (s_J0_indexOf_0f7a4S0P (b := true) (κ := h) (Fr.rf hF.2.1) _ ⟨by omega, by omega⟩ hX) dX6_readLetter_0.2.1.2.1 (Nat.le_of_ble_eq_true rfl) rfl ?_
    rintro r17 z17 ⟨hz17, p17⟩; subst z17
    first | have k20 : r17 = kd (g p) := by rw [kd_ix p17.2.2, show v16 = g p by omega] | have k20 : (-1 : Int) = kd (g p) := (kd_n (by omega)).symm
    refine zW_istore_n (ls' := [_, _, _]) (pc' := 21) dX6_readLetter_0.2.1.2.2 (by decide) rfl rfl rfl ?_
    refine zW_iload_n (pc' := 22) dX6_readLetter_0.2.2.1.1 rfl rfl ?_
    refine zV_if_ge (tgt := 37) (pc' := 25) dX6_readLetter_0.2.2.1.2 rfl rfl ⟨by omega, by omega⟩ (fun c22 => ?_) (fun c22 => ?_)
    · refine zW_aload_n (pc' := 38) dX6_readLetter_1.1.2.1.1 rfl rfl ?_
      refine zG_ref (pc' := 41) 49 fg_X6_12 tb53 rfl dX6_readLetter_1.1.2.1.2 rfl ?_
      refine zG_int (pc' := 44) fg_X6_38 tb49 rfl dX6_readLetter_1.1.2.2.1 rfl ?_
      have e41 := KCd0 hF.2.2.2
      refine zW_bipush (pc' := 46) dX6_readLetter_1.1.2.2.2 rfl rfl ?_
      refine zV_cm_ne (tgt := 61) (pc' := 49) dX6_readLetter_1.2.1.1.1 rfl rfl ⟨by omega, by omega⟩ ⟨by omega, by omega⟩ (fun c46 => ?_) (fun c46 => ?_)
      · refine zW_iload_n (pc' := 62) dX6_readLetter_1.2.2.2.2 rfl rfl ?_
        refine zW_iconst (pc' := 63) dX6_readLetter_2.1.1.1.1 rfl ?_
        refine zV_cm_gt (tgt := 70) (pc' := 66) dX6_readLetter_2.1.1.1.2 rfl rfl ⟨by omega, by omega⟩ ⟨by omega, by omega⟩ (fun c63 => ?_) (fun c63 => ?_)
        · refine zW_iconst (pc' := 71) dX6_readLetter_2.1.2.1.1 rfl ?_
          refine zW_aload_n (pc' := 72) dX6_readLetter_2.1.2.1.2 rfl rfl ?_
          refine zG_ref (pc' := 75) 49 fg_X6_12 tb53 rfl dX6_readLetter_2.1.2.2.1 rfl ?_
          refine zG_int (pc' := 78) fg_X6_71 tb49 rfl dX6_readLetter_2.1.2.2.2 rfl ?_
          have e75 := KCd1 hF.2.2.2
          refine zV_if_ne (tgt := 85) (pc' := 81) dX6_readLetter_2.2.1.1.1 rfl rfl ⟨by omega, by omega⟩ (fun c78 => ?_) (fun c78 => ?_)
          · refine zW_iconst (pc' := 86) dX6_readLetter_2.2.1.2.2 rfl ?_
            refine zV_cm_eq (tgt := 102) (pc' := 89) dX6_readLetter_2.2.2.1.1 rfl rfl ⟨by omega, by omega⟩ ⟨by omega, by omega⟩ (fun c86 => ?_) (fun c86 => ?_)
            · refine zW_aload_n (pc' := 103) dX6_readLetter_3.1.1.2.2 rfl rfl ?_
              refine zG_ref (pc' := 106) 49 fg_X6_12 tb53 rfl dX6_readLetter_3.1.2.1.1 rfl ?_
              refine zW_iload_n (pc' := 107) dX6_readLetter_3.1.2.1.2 rfl rfl ?_
              refine cvV1 (pc' := 110) kX7_addStage vX7_addStage lk_X6_74 ⟨Nat.le_of_ble_eq_true rfl, Nat.le_of_ble_eq_true rfl⟩ tb49 vq7 rfl rfl (s_X7_addStageV49P hF.2.1 hF.2.2.1 hF.2.2.2 _ ⟨by omega, by omega⟩ (by omega)) dX6_readLetter_3.1.2.2.1 (Nat.le_of_ble_eq_true rfl) rfl ?_
              rintro r107 h ⟨hF1, p107⟩; replace hF := hF.tr hF1 rfl
              have t107_53_3 := hF1.1 53 3 rfl rfl
              have t107_53_4 := hF1.1 53 4 rfl rfl
              refine zW_aload_n (pc' := 111) dX6_readLetter_3.1.2.2.2 rfl rfl ?_
              refine zW_dup (pc' := 112) dX6_readLetter_3.2.1.1.1 rfl rfl ?_
              refine zG_int (pc' := 115) fg_X6_29 tb53 rfl dX6_readLetter_3.2.1.1.2 rfl ?_
              have e112 := hF.rh 53 3
              refine zW_iconst (pc' := 116) dX6_readLetter_3.2.1.2.1 rfl ?_
              refine zW_iadd (pc' := 117) dX6_readLetter_3.2.1.2.2 rfl ?_
              refine zPm (pc' := 120) hF (Or.inl rfl) (SI_irr hF.2.1 (Or.inl rfl) (fun _ _ => ⟨by omega, by omega⟩)) (KR_irr hF.2.2.1 rfl) (KC_irr hF.2.2.2 rfl) fp_X6_29 tb53 rfl dX6_readLetter_3.2.2.1.1 rfl (fun h hF w117 => ?_)
              have t117_53_3 := congrFun (congrFun w117 53) 3
              rw [zwr_eq] at t117_53_3
              have t117_53_4 := congrFun (congrFun w117 53) 4
              rw [zwr_ne (Or.inr (by decide))] at t117_53_4
              have t117_49_0 := congrFun (congrFun w117 49) 0
              rw [zwr_ne (Or.inl (by decide))] at t117_49_0
              have t117_49_1 := congrFun (congrFun w117 49) 1
              rw [zwr_ne (Or.inl (by decide))] at t117_49_1
              refine zW_iload_n (pc' := 121) dX6_readLetter_3.2.2.1.2 rfl rfl ?_
              exact zV_iret rfl dX6_readLetter_3.2.2.2 ⟨hF, by omega⟩
            · exfalso; omega
          · refine zW_iconst (pc' := 82) dX6_readLetter_2.2.1.1.2 rfl ?_
            refine zV_goto 86 dX6_readLetter_2.2.1.2.1 rfl ?_
            refine zV_cm_eq (tgt := 102) (pc' := 89) dX6_readLetter_2.2.2.1.1 rfl rfl ⟨by omega, by omega⟩ ⟨by omega, by omega⟩ (fun c86 => ?_) (fun c86 => ?_)
            · exfalso; omega
            · refine zW_aload_n (pc' := 90) dX6_readLetter_2.2.2.1.2 rfl rfl ?_
              refine zW_bipush (pc' := 92) dX6_readLetter_2.2.2.2.1 rfl rfl ?_
              refine zW_aload_n (pc' := 93) dX6_readLetter_2.2.2.2.2 rfl rfl ?_
              refine zG_int (pc' := 96) fg_X6_29 tb53 rfl dX6_readLetter_3.1.1.1.1 rfl ?_
              have e93 := hF.rh 53 3
              refine cvV2 (pc' := 99) kX6_tell vX6_tell lk_X6_59 ⟨Nat.le_of_ble_eq_true rfl, Nat.le_of_ble_eq_true rfl⟩ tb53 vq6 rfl rfl (s_X6_tellP hF.2.1 hF.2.2.1 hF.2.2.2 _ ⟨by omega, by omega⟩ _ ⟨by omega, by omega⟩) dX6_readLetter_3.1.1.1.2 (Nat.le_of_ble_eq_true rfl) rfl ?_
              rintro r96 h ⟨hF1, p96⟩; replace hF := hF.tr hF1 rfl
              have t96_53_3 := hF1.1 53 3 rfl rfl
              have t96_49_0 := hF1.1 49 0 rfl rfl
              have t96_49_1 := hF1.1 49 1 rfl rfl
              refine zV_goto 120 dX6_readLetter_3.1.1.2.1 rfl ?_
              refine zW_iload_n (pc' := 121) dX6_readLetter_3.2.2.1.2 rfl rfl ?_
              exact zV_iret rfl dX6_readLetter_3.2.2.2 ⟨hF, by omega⟩
        · refine zW_iconst (pc' := 67) dX6_readLetter_2.1.1.2.1 rfl ?_
          refine zV_goto 71 dX6_readLetter_2.1.1.2.2 rfl ?_
          refine zW_aload_n (pc' := 72) dX6_readLetter_2.1.2.1.2 rfl rfl ?_
          refine zG_ref (pc' := 75) 49 fg_X6_12 tb53 rfl dX6_readLetter_2.1.2.2.1 rfl ?_
          refine zG_int (pc' := 78) fg_X6_71 tb49 rfl dX6_readLetter_2.1.2.2.2 rfl ?_
          have e75 := KCd1 hF.2.2.2
          refine zV_if_ne (tgt := 85) (pc' := 81) dX6_readLetter_2.2.1.1.1 rfl rfl ⟨by omega, by omega⟩ (fun c78 => ?_) (fun c78 => ?_)
          · refine zW_iconst (pc' := 86) dX6_readLetter_2.2.1.2.2 rfl ?_
            refine zV_cm_eq (tgt := 102) (pc' := 89) dX6_readLetter_2.2.2.1.1 rfl rfl ⟨by omega, by omega⟩ ⟨by omega, by omega⟩ (fun c86 => ?_) (fun c86 => ?_)
            · exfalso; omega
            · refine zW_aload_n (pc' := 90) dX6_readLetter_2.2.2.1.2 rfl rfl ?_
              refine zW_bipush (pc' := 92) dX6_readLetter_2.2.2.2.1 rfl rfl ?_
              refine zW_aload_n (pc' := 93) dX6_readLetter_2.2.2.2.2 rfl rfl ?_
              refine zG_int (pc' := 96) fg_X6_29 tb53 rfl dX6_readLetter_3.1.1.1.1 rfl ?_
              have e93 := hF.rh 53 3
              refine cvV2 (pc' := 99) kX6_tell vX6_tell lk_X6_59 ⟨Nat.le_of_ble_eq_true rfl, Nat.le_of_ble_eq_true rfl⟩ tb53 vq6 rfl rfl (s_X6_tellP hF.2.1 hF.2.2.1 hF.2.2.2 _ ⟨by omega, by omega⟩ _ ⟨by omega, by omega⟩) dX6_readLetter_3.1.1.1.2 (Nat.le_of_ble_eq_true rfl) rfl ?_
              rintro r96 h ⟨hF1, p96⟩; replace hF := hF.tr hF1 rfl
              have t96_53_3 := hF1.1 53 3 rfl rfl
              have t96_49_0 := hF1.1 49 0 rfl rfl
              have t96_49_1 := hF1.1 49 1 rfl rfl
              refine zV_goto 120 dX6_readLetter_3.1.1.2.1 rfl ?_
              refine zW_iload_n (pc' := 121) dX6_readLetter_3.2.2.1.2 rfl rfl ?_
              exact zV_iret rfl dX6_readLetter_3.2.2.2 ⟨hF, by omega⟩
          · refine zW_iconst (pc' := 82) dX6_readLetter_2.2.1.1.2 rfl ?_
            refine zV_goto 86 dX6_readLetter_2.2.1.2.1 rfl ?_
            refine zV_cm_eq (tgt := 102) (pc' := 89) dX6_readLetter_2.2.2.1.1 rfl rfl ⟨by omega, by omega⟩ ⟨by omega, by omega⟩ (fun c86 => ?_) (fun c86 => ?_)
            · refine zW_aload_n (pc' := 103) dX6_readLetter_3.1.1.2.2 rfl rfl ?_
              refine zG_ref (pc' := 106) 49 fg_X6_12 tb53 rfl dX6_readLetter_3.1.2.1.1 rfl ?_
              refine zW_iload_n (pc' := 107) dX6_readLetter_3.1.2.1.2 rfl rfl ?_
              refine cvV1 (pc' := 110) kX7_addStage vX7_addStage lk_X6_74 ⟨Nat.le_of_ble_eq_true rfl, Nat.le_of_ble_eq_true rfl⟩ tb49 vq7 rfl rfl (s_X7_addStageV49P hF.2.1 hF.2.2.1 hF.2.2.2 _ ⟨by omega, by omega⟩ (by omega)) dX6_readLetter_3.1.2.2.1 (Nat.le_of_ble_eq_true rfl) rfl ?_
              rintro r107 h ⟨hF1, p107⟩; replace hF := hF.tr hF1 rfl
              have t107_53_3 := hF1.1 53 3 rfl rfl
              have t107_53_4 := hF1.1 53 4 rfl rfl
              refine zW_aload_n (pc' := 111) dX6_readLetter_3.1.2.2.2 rfl rfl ?_
              refine zW_dup (pc' := 112) dX6_readLetter_3.2.1.1.1 rfl rfl ?_
              refine zG_int (pc' := 115) fg_X6_29 tb53 rfl dX6_readLetter_3.2.1.1.2 rfl ?_
              have e112 := hF.rh 53 3
              refine zW_iconst (pc' := 116) dX6_readLetter_3.2.1.2.1 rfl ?_
              refine zW_iadd (pc' := 117) dX6_readLetter_3.2.1.2.2 rfl ?_
              refine zPm (pc' := 120) hF (Or.inl rfl) (SI_irr hF.2.1 (Or.inl rfl) (fun _ _ => ⟨by omega, by omega⟩)) (KR_irr hF.2.2.1 rfl) (KC_irr hF.2.2.2 rfl) fp_X6_29 tb53 rfl dX6_readLetter_3.2.2.1.1 rfl (fun h hF w117 => ?_)
              have t117_53_3 := congrFun (congrFun w117 53) 3
              rw [zwr_eq] at t117_53_3
              have t117_53_4 := congrFun (congrFun w117 53) 4
              rw [zwr_ne (Or.inr (by decide))] at t117_53_4
              have t117_49_0 := congrFun (congrFun w117 49) 0
              rw [zwr_ne (Or.inl (by decide))] at t117_49_0
              have t117_49_1 := congrFun (congrFun w117 49) 1
              rw [zwr_ne (Or.inl (by decide))] at t117_49_1
              refine zW_iload_n (pc' := 121) dX6_readLetter_3.2.2.1.2 rfl rfl ?_
              exact zV_iret rfl dX6_readLetter_3.2.2.2 ⟨hF, by omega⟩
            · exfalso; omega
      · refine zW_aload_n (pc' := 50) dX6_readLetter_1.2.1.1.2 rfl rfl ?_
        refine zW_iconst (pc' := 51) dX6_readLetter_1.2.1.2.1 rfl ?_
        refine zW_aload_n (pc' := 52) dX6_readLetter_1.2.1.2.2 rfl rfl ?_
        refine zG_int (pc' := 55) fg_X6_29 tb53 rfl dX6_readLetter_1.2.2.1.1 rfl ?_
        have e52 := hF.rh 53 3
        refine cvV2 (pc' := 58) kX6_tell vX6_tell lk_X6_59 ⟨Nat.le_of_ble_eq_true rfl, Nat.le_of_ble_eq_true rfl⟩ tb53 vq6 rfl rfl (s_X6_tellP hF.2.1 hF.2.2.1 hF.2.2.2 _ ⟨by omega, by omega⟩ _ ⟨by omega, by omega⟩) dX6_readLetter_1.2.2.1.2 (Nat.le_of_ble_eq_true rfl) rfl ?_
        rintro r55 h ⟨hF1, p55⟩; replace hF := hF.tr hF1 rfl
        have t55_53_3 := hF1.1 53 3 rfl rfl
        have t55_49_0 := hF1.1 49 0 rfl rfl
        have t55_49_1 := hF1.1 49 1 rfl rfl
        refine zV_goto 120 dX6_readLetter_1.2.2.2.1 rfl ?_
        refine zW_iload_n (pc' := 121) dX6_readLetter_3.2.2.1.2 rfl rfl ?_
        exact zV_iret rfl dX6_readLetter_3.2.2.2 ⟨hF, by omega⟩
    · refine zW_aload_n (pc' := 26) dX6_readLetter_0.2.2.2.1 rfl rfl ?_
      refine zW_iconst (pc' := 27) dX6_readLetter_0.2.2.2.2 rfl ?_
      refine zW_aload_n (pc' := 28) dX6_readLetter_1.1.1.1.1 rfl rfl ?_
      refine zG_int (pc' := 31) fg_X6_29 tb53 rfl dX6_readLetter_1.1.1.1.2 rfl ?_
      have e28 := hF.rh 53 3
      refine cvV2 (pc' := 34) kX6_tell vX6_tell lk_X6_59 ⟨Nat.le_of_ble_eq_true rfl, Nat.le_of_ble_eq_true rfl⟩ tb53 vq6 rfl rfl (s_X6_tellP hF.2.1 hF.2.2.1 hF.2.2.2 _ ⟨by omega, by omega⟩ _ ⟨by omega, by omega⟩) dX6_readLetter_1.1.1.2.1 (Nat.le_of_ble_eq_true rfl) rfl ?_
      rintro r31 h ⟨hF1, p31⟩; replace hF := hF.tr hF1 rfl
      have t31_53_3 := hF1.1 53 3 rfl rfl
      have t31_49_0 := hF1.1 49 0 rfl rfl
      have t31_49_1 := hF1.1 49 1 rfl rfl
      refine zV_goto 120 dX6_readLetter_1.1.1.2.2 rfl ?_
      refine zW_iload_n (pc' := 121) dX6_readLetter_3.2.2.1.2 rfl rfl ?_
      exact zV_iret rfl dX6_readLetter_3.2.2.2 ⟨hF, by omega⟩
  · refine zW_iconst (pc' := 10) dX6_readLetter_0.1.2.1.2 rfl ?_
    refine zV_goto 20 dX6_readLetter_0.1.2.2.1 rfl ?_
    first | have k20 : r17 = kd (g p) := by rw [kd_ix p17.2.2, show v16 = g p by omega] | have k20 : (-1 : Int) = kd (g p) := (kd_n (by omega)).symm
    refine zW_istore_n (ls' := [_, _, _]) (pc' := 21) dX6_readLetter_0.2.1.2.2 (by decide) rfl rfl rfl ?_
    refine zW_iload_n (pc' := 22) dX6_readLetter_0.2.2.1.1 rfl rfl ?_
    refine zV_if_ge (tgt := 37) (pc' := 25) dX6_readLetter_0.2.2.1.2 rfl rfl ⟨by omega, by omega⟩ (fun c22 => ?_) (fun c22 => ?_)
    · exfalso; omega
    · refine zW_aload_n (pc' := 26) dX6_readLetter_0.2.2.2.1 rfl rfl ?_
      refine zW_iconst (pc' := 27) dX6_readLetter_0.2.2.2.2 rfl ?_
      refine zW_aload_n (pc' := 28) dX6_readLetter_1.1.1.1.1 rfl rfl ?_
      refine zG_int (pc' := 31) fg_X6_29 tb53 rfl dX6_readLetter_1.1.1.1.2 rfl ?_
      have e28 := hF.rh 53 3
      refine cvV2 (pc' := 34) kX6_tell vX6_tell lk_X6_59 ⟨Nat.le_of_ble_eq_true rfl, Nat.le_of_ble_eq_true rfl⟩ tb53 vq6 rfl rfl (s_X6_tellP hF.2.1 hF.2.2.1 hF.2.2.2 _ ⟨by omega, by omega⟩ _ ⟨by omega, by omega⟩) dX6_readLetter_1.1.1.2.1 (Nat.le_of_ble_eq_true rfl) rfl ?_
      rintro r31 h ⟨hF1, p31⟩; replace hF := hF.tr hF1 rfl
      have t31_53_3 := hF1.1 53 3 rfl rfl
      have t31_49_0 := hF1.1 49 0 rfl rfl
      have t31_49_1 := hF1.1 49 1 rfl rfl
      refine zV_goto 120 dX6_readLetter_1.1.1.2.2 rfl ?_
      refine zW_iload_n (pc' := 121) dX6_readLetter_3.2.2.1.2 rfl rfl ?_
      exact zV_iret rfl dX6_readLetter_3.2.2.2 ⟨hF, by omega⟩

abbrev q_X6_readNumbersP (κ : Hp) (x1 : Int) (g : Int → Int) (p : Int) : Int → Hp → Prop := fun r h' => Fm [(53, 3), (53, 4), (51, 999), (52, 999)] κ h' ∧ ((h' 53 4 = mnF g p (xvv 102 x1.toNat) (xvv 103 x1.toNat) (xvv 104 x1.toNat) (xvv 105 x1.toNat) ∧ (h' 53 4 = 0 → h' 53 3 = mnE g p (xvv 102 x1.toNat)) ∧ h' 53 4 ≤ 0 ∧ κ 53 3 ≤ h' 53 3 ∧ (h' 53 3 = κ 53 3 ∨ h' 53 3 ≤ κ 53 2)))
set_option maxHeartbeats 4000000 in
set_option maxRecDepth 20000 in
theorem s_X6_readNumbersP {G : Ga} {κ : Hp} (hS : SI κ) (hR : KR κ) (hC : KC κ) (x1 : Int) (hx1 : 0 ≤ x1 ∧ x1 ≤ 13) (g : Int → Int) (p : Int) (hg : hr (κ 32) (κ 53 2) = g) (hn : 0 ≤ κ 53 2 ∧ κ 53 2 ≤ 120 ∧ κ 53 2 ≤ κ 31 1) (hp : (κ 53 4 = 0 ∧ κ 53 3 = p ∧ 0 ≤ p)) (ha : κ 53 3 ≤ 150) (hX : XI G) : zM G mX6_readNumbers yX6_readNumbers [.inr (.inr 53), .inl x1] κ (q_X6_readNumbersP κ x1 g p) := by
  have f_31_1 := KCt hC
  have m1 := xvv_m x1.toNat (by omega)
  obtain ⟨hp1, hp2, hp3⟩ := hp
  have main : ∀ N : Nat, (∀ (v2 v3 : Int) (h : Hp), Fm [(53, 3), (53, 4), (51, 999), (52, 999)] κ h → (1 ≤ v2 ∧ v2 ≤ 3) → (0 ≤ v3 ∧ v3 ≤ 3) → (v2 = xvv 102 x1.toNat) → (0 ≤ h 53 3 ∧ κ 53 3 ≤ h 53 3 ∧ (h 53 3 = κ 53 3 ∨ h 53 3 ≤ κ 53 2) ∧ h 53 4 ≤ 0) → (v3 ≤ v2) → (h 53 4 = pnF g p (xvv 103 x1.toNat) (xvv 104 x1.toNat) (xvv 105 x1.toNat) v3) → (h 53 4 = 0 → h 53 3 = pnE g p v3) → (v3 = 0 → h 53 4 = 0) → 5280 + 33 * (3 - v3) + 32 < (N : Int) → zV G mX6_readNumbers (q_X6_readNumbersP κ x1 g p) 24 [some (.inr (.inr 53)), some (.inl x1), some (.inl v2), some (.inl v3)] [] h) := by
    intro N
    induction N with
    | zero =>
      intro v2 v3 h hF g0 g1 gc0 gc1 gc2 gc3 gc4 gc5 hm
      exfalso; omega
    | succ N ih =>
      have k24 := ih
      intro v2 v3 h hF g0 g1 gc0 gc1 gc2 gc3 gc4 gc5 hm
      refine zW_iload_n (pc' := 25) dX6_readNumbers_0.2.2.2.1 rfl rfl ?_
      refine zW_iload_n (pc' := 26) dX6_readNumbers_0.2.2.2.2 rfl rfl ?_
      refine zV_cm_ge (tgt := 81) (pc' := 29) dX6_readNumbers_1.1.1.1.1 rfl rfl ⟨by omega, by omega⟩ ⟨by omega, by omega⟩ (fun c26 => ?_) (fun c26 => ?_)
      · exact zV_vret rfl dX6_readNumbers_2.2.2.2 ⟨hF, by first | (have pe := pn_e (g := g) (p := p) (a := xvv 103 x1.toNat) (b := xvv 104 x1.toNat) (l := xvv 105 x1.toNat) (m := v2) (by omega); have e3 : v3 = v2 := (by omega); rw [← gc0, pe.1, pe.2, ← e3]; exact ⟨gc3, gc4, by omega, by omega, by omega⟩) | (have px := pn_x (g := g) (p := p) (a := xvv 103 x1.toNat) (b := xvv 104 x1.toNat) (l := xvv 105 x1.toNat) (k := v3) (m := v2) (by omega) (by omega); rw [← gc0, px]; exact ⟨gc3, fun z => absurd z (by omega), by omega, by omega, by omega⟩)⟩
      · refine zW_aload_n (pc' := 30) dX6_readNumbers_1.1.1.1.2 rfl rfl ?_
        refine zG_int (pc' := 33) fg_X6_32 tb53 rfl dX6_readNumbers_1.1.1.2.1 rfl ?_
        have e30 := hF.rh 53 4
        refine zV_if_ne (tgt := 81) (pc' := 36) dX6_readNumbers_1.1.1.2.2 rfl rfl ⟨by omega, by omega⟩ (fun c33 => ?_) (fun c33 => ?_)
        · exact zV_vret rfl dX6_readNumbers_2.2.2.2 ⟨hF, by first | (have pe := pn_e (g := g) (p := p) (a := xvv 103 x1.toNat) (b := xvv 104 x1.toNat) (l := xvv 105 x1.toNat) (m := v2) (by omega); have e3 : v3 = v2 := (by omega); rw [← gc0, pe.1, pe.2, ← e3]; exact ⟨gc3, gc4, by omega, by omega, by omega⟩) | (have px := pn_x (g := g) (p := p) (a := xvv 103 x1.toNat) (b := xvv 104 x1.toNat) (l := xvv 105 x1.toNat) (k := v3) (m := v2) (by omega) (by omega); rw [← gc0, px]; exact ⟨gc3, fun z => absurd z (by omega), by omega, by omega, by omega⟩)⟩
        · refine zW_iload_n (pc' := 37) dX6_readNumbers_1.1.2.1.1 rfl rfl ?_
          refine zV_if_ne (tgt := 58) (pc' := 40) dX6_readNumbers_1.1.2.1.2 rfl rfl ⟨by omega, by omega⟩ (fun c37 => ?_) (fun c37 => ?_)
          · have k12 : v3 = 1 ∨ v3 = 2 := by omega
            have pq0 : h 53 3 = pnE g p v3 := gc4 (by omega)
            refine zW_aload_n (pc' := 59) dX6_readNumbers_2.1.1.1.1 rfl rfl ?_
            refine zW_bipush (pc' := 61) dX6_readNumbers_2.1.1.1.2 rfl rfl ?_
            have y61_31_1 := hF.1 31 1 rfl rfl
            have y61_53_2 := hF.1 53 2 rfl rfl
            refine cvV1 (pc' := 64) kX6_expect vX6_expect lk_X6_45 ⟨Nat.le_of_ble_eq_true rfl, Nat.le_of_ble_eq_true rfl⟩ tb53 vq6 rfl rfl (s_X6_expectP hF.2.1 hF.2.2.1 hF.2.2.2 _ ⟨by omega, by omega⟩ g (pnE g p v3) (by rw [hF.cell 32 rfl (fun _ => rfl), hF.1 53 2 rfl rfl]; exact hg) (by omega) (by omega) (by omega) (by omega)) dX6_readNumbers_2.1.1.2.1 (Nat.le_of_ble_eq_true rfl) rfl ?_
            rintro r61 h ⟨hF1, p61⟩; replace hF := hF.tr hF1 rfl
            have e0 : h 53 4 = sF g (pnE g p v3) 44 := p61.1.trans (sq_z (by omega))
            have i0 := p61.2.1
            have b0 := p61.2.2
            clear p61
            refine zW_aload_n (pc' := 65) dX6_readNumbers_2.1.1.2.2 rfl rfl ?_
            refine zW_iconst (pc' := 66) dX6_readNumbers_2.1.2.1.1 rfl ?_
            refine zV_gsr (k := 105) (pc' := 69) (fun U hU => (hX U hU).1.2.2.2) w_GREATEST_LATER dX6_readNumbers_2.1.2.1.2 rfl ?_
            refine zW_iload_n (pc' := 70) dX6_readNumbers_2.1.2.2 rfl rfl ?_
            refine zV_taldE (k := 105) (pc' := 71) (fun U hU => (hX U hU).1.2.2.2) (by omega) dX6_readNumbers_2.2.1.1.1 rfl (fun v70 e70 f70 => ?_)
            unfold rng at e70
            have b70 := xvv_b 105 (x1).toNat (by omega)
            have y71_31_1 := hF.1 31 1 rfl rfl
            have y71_53_2 := hF.1 53 2 rfl rfl
            refine cvI2 (pc' := 74) kX6_readNumber vX6_readNumber lk_X6_87 ⟨Nat.le_of_ble_eq_true rfl, Nat.le_of_ble_eq_true rfl⟩ tb53 vq6 rfl rfl (s_X6_readNumberP hF.2.1 hF.2.2.1 hF.2.2.2 _ ⟨by omega, by omega⟩ _ ⟨by omega, by omega⟩ g (pnE g p v3 + 1) (by rw [hF.cell 32 rfl (fun _ => rfl), hF.1 53 2 rfl rfl]; exact hg) (by omega) (fun z => ⟨i0 z, by omega⟩) (by omega) (by omega)) dX6_readNumbers_2.2.1.1.2 (Nat.le_of_ble_eq_true rfl) rfl ?_
            rintro r71 h ⟨hF1, p71⟩; replace hF := hF.tr hF1 rfl
            rw [f70] at p71
            have e1 : h 53 4 = pnF g p (xvv 103 x1.toNat) (xvv 104 x1.toNat) (xvv 105 x1.toNat) (v3 + 1) := by rw [(pn_s k12).1, sq_z (show pnF g p (xvv 103 x1.toNat) (xvv 104 x1.toNat) (xvv 105 x1.toNat) v3 = 0 by omega)]; exact (by rw [p71.2.2.1, e0] : h 53 4 = sq (sF g (pnE g p v3) 44) (nF g (pnE g p v3 + 1) 0 (xvv 105 x1.toNat)))
            have i1 : h 53 4 = 0 → h 53 3 = pnE g p (v3 + 1) := fun z => by rw [(pn_s (g := g) (p := p) (a := 0) (b := 0) (l := 0) k12).2]; exact (p71.2.2.2.1 z).1
            have b1 := p71.2.2.2.2
            clear p71
            refine zW_pop (pc' := 75) dX6_readNumbers_2.2.1.2 rfl rfl ?_
            refine zW_iinc (ls' := [_, _, _, _]) (pc' := 78) dX6_readNumbers_2.2.2.1.1 rfl (by decide) rfl rfl rfl ?_
            refine zV_goto 24 dX6_readNumbers_2.2.2.1.2 rfl ?_
            exact k24 _ _ _ hF (by omega) (by omega) (by omega) (by omega) (by omega) (by first | exact e1 | (show h 53 4 = 0; omega)) (by first | exact i1 | (intro z; show h 53 3 = p; omega)) (by omega) (by omega)
          · have v30 : v3 = 0 := by omega
            have pz : pnE g p v3 = p := by rw [v30]; rfl
            have f0 : h 53 4 = 0 := by omega
            refine zW_aload_n (pc' := 41) dX6_readNumbers_1.1.2.2.1 rfl rfl ?_
            refine zV_gsr (k := 103) (pc' := 44) (fun U hU => (hX U hU).1.2.1) w_LEAST_FIRST dX6_readNumbers_1.1.2.2.2 rfl ?_
            refine zW_iload_n (pc' := 45) dX6_readNumbers_1.2.1.1.1 rfl rfl ?_
            refine zV_taldE (k := 103) (pc' := 46) (fun U hU => (hX U hU).1.2.1) (by omega) dX6_readNumbers_1.2.1.1.2 rfl (fun v45 e45 f45 => ?_)
            unfold rng at e45
            have b45 := xvv_b 103 (x1).toNat (by omega)
            refine zV_gsr (k := 104) (pc' := 49) (fun U hU => (hX U hU).1.2.2.1) w_GREATEST_FIRST dX6_readNumbers_1.2.1.2.1 rfl ?_
            refine zW_iload_n (pc' := 50) dX6_readNumbers_1.2.1.2.2 rfl rfl ?_
            refine zV_taldE (k := 104) (pc' := 51) (fun U hU => (hX U hU).1.2.2.1) (by omega) dX6_readNumbers_1.2.2.1.1 rfl (fun v50 e50 f50 => ?_)
            unfold rng at e50
            have b50 := xvv_b 104 (x1).toNat (by omega)
            have y51_31_1 := hF.1 31 1 rfl rfl
            have y51_53_2 := hF.1 53 2 rfl rfl
            refine cvI2 (pc' := 54) kX6_readNumber vX6_readNumber lk_X6_87 ⟨Nat.le_of_ble_eq_true rfl, Nat.le_of_ble_eq_true rfl⟩ tb53 vq6 rfl rfl (s_X6_readNumberP hF.2.1 hF.2.2.1 hF.2.2.2 _ ⟨by omega, by omega⟩ _ ⟨by omega, by omega⟩ g p (by rw [hF.cell 32 rfl (fun _ => rfl), hF.1 53 2 rfl rfl]; exact hg) (by omega) (by omega) (by omega) (by omega)) dX6_readNumbers_1.2.2.1.2 (Nat.le_of_ble_eq_true rfl) rfl ?_
            rintro r51 h ⟨hF1, p51⟩; replace hF := hF.tr hF1 rfl
            rw [f45, f50] at p51
            have e1 : h 53 4 = pnF g p (xvv 103 x1.toNat) (xvv 104 x1.toNat) (xvv 105 x1.toNat) (v3 + 1) := by rw [v30]; exact p51.2.2.1.trans (sq_z f0)
            have i1 : h 53 4 = 0 → h 53 3 = pnE g p (v3 + 1) := fun z => by rw [v30]; exact (p51.2.2.2.1 z).1
            have b1 := p51.2.2.2.2
            clear p51
            refine zW_pop (pc' := 55) dX6_readNumbers_1.2.2.2.1 rfl rfl ?_
            refine zV_goto 75 dX6_readNumbers_1.2.2.2.2 rfl ?_
            refine zW_iinc (ls' := [_, _, _, _]) (pc' := 78) dX6_readNumbers_2.2.2.1.1 rfl (by decide) rfl rfl rfl ?_
            refine zV_goto 24 dX6_readNumbers_2.2.2.1.2 rfl ?_
            exact k24 _ _ _ hF (by omega) (by omega) (by omega) (by omega) (by omega) (by first | exact e1 | (show h 53 4 = 0; omega)) (by first | exact i1 | (intro z; show h 53 3 = p; omega)) (by omega) (by omega)
  refine zM_of [some (.inr (.inr 53)), some (.inl x1), none, none] 2 rfl rfl (Nat.le_of_ble_eq_true rfl) rfl ?_
  refine (show ∀ h : Hp, Fm [(53, 3), (53, 4), (51, 999), (52, 999)] κ h → h = κ → zV G mX6_readNumbers (q_X6_readNumbersP κ x1 g p) 0 [some (.inr (.inr 53)), some (.inl x1), none, none] [] h from fun h hF hk0 => ?_) κ (Fm.rf hS hR hC) rfl
  have y0_53_3 : h 53 3 = κ 53 3 := by rw [hk0]
  have y0_53_4 : h 53 4 = κ 53 4 := by rw [hk0]
  refine zW_iload_n (pc' := 1) dX6_readNumbers_0.1.1.1.1 rfl rfl ?_
  refine zV_if_lt (tgt := 20) (pc' := 4) dX6_readNumbers_0.1.1.1.2 rfl rfl ⟨by omega, by omega⟩ (fun c1 => ?_) (fun c1 => ?_)
  · exfalso; omega
  · refine zW_iload_n (pc' := 5) dX6_readNumbers_0.1.1.2.1 rfl rfl ?_
    refine zV_gsr (k := 102) (pc' := 8) (fun U hU => (hX U hU).1.1) w_HOW_MANY_NUMBERS dX6_readNumbers_0.1.1.2.2 rfl ?_
    refine zV_talen (k := 102) (pc' := 9) (fun U hU => (hX U hU).1.1) dX6_readNumbers_0.1.2.1.1 rfl ?_
    refine zV_cm_ge (tgt := 20) (pc' := 12) dX6_readNumbers_0.1.2.1.2 rfl rfl ⟨by omega, by omega⟩ ⟨by omega, by omega⟩ (fun c9 => ?_) (fun c9 => ?_)
    · exfalso; omega
    · refine zV_gsr (k := 102) (pc' := 15) (fun U hU => (hX U hU).1.1) w_HOW_MANY_NUMBERS dX6_readNumbers_0.1.2.2.1 rfl ?_
      refine zW_iload_n (pc' := 16) dX6_readNumbers_0.1.2.2.2 rfl rfl ?_
      refine zV_taldE (k := 102) (pc' := 17) (fun U hU => (hX U hU).1.1) (by omega) dX6_readNumbers_0.2.1.1.1 rfl (fun v16 e16 f16 => ?_)
      unfold rng at e16
      have b16 := xvv_b 102 (x1).toNat (by omega)
      refine zV_goto 21 dX6_readNumbers_0.2.1.1.2 rfl ?_
      refine zW_istore_n (ls' := [_, _, _, _]) (pc' := 22) dX6_readNumbers_0.2.1.2.2 (by decide) rfl rfl rfl ?_
      refine zW_iconst (pc' := 23) dX6_readNumbers_0.2.2.1.1 rfl ?_
      refine zW_istore_n (ls' := [_, _, _, _]) (pc' := 24) dX6_readNumbers_0.2.2.1.2 (by decide) rfl rfl rfl ?_
      exact (main 10000000000000000000000000000000000000000) _ _ _ hF (by omega) (by omega) (by omega) (by omega) (by omega) (by first | exact e1 | (show h 53 4 = 0; omega)) (by first | exact i1 | (intro z; show h 53 3 = p; omega)) (by omega) (by omega)

abbrev q_X6_readStageP (κ : Hp) (g : Int → Int) (p : Int) : Int → Hp → Prop := fun r h' => Fm [(53, 3), (53, 4), (49, 0), (49, 1), (50, 999), (51, 999), (52, 999)] κ h' ∧ (((sgF g p (κ 49 0) (κ 49 1) ≠ 0 → h' 53 4 = sgF g p (κ 49 0) (κ 49 1)) ∧ (sgF g p (κ 49 0) (κ 49 1) = 0 → h' 53 3 = sgE g p ∧ (sgE g p < κ 53 2 → h' 53 4 = sF g (sgE g p) 59) ∧ (κ 53 2 ≤ sgE g p → h' 53 4 = 0) ∧ p + 2 ≤ h' 53 3) ∧ (h' 53 4 = 0 → h' 49 0 = κ 49 0 + 1 ∧ h' 49 1 = nxf g p (κ 49 0) (κ 49 1)) ∧ h' 53 4 ≤ 0 ∧ κ 53 3 ≤ h' 53 3 ∧ (h' 53 3 = κ 53 3 ∨ h' 53 3 ≤ κ 53 2)))
set_option maxHeartbeats 4000000 in
set_option maxRecDepth 20000 in
theorem s_X6_readStageP {G : Ga} {κ : Hp} (hS : SI κ) (hR : KR κ) (hC : KC κ) (g : Int → Int) (p : Int) (hg : hr (κ 32) (κ 53 2) = g) (hn : 0 ≤ κ 53 2 ∧ κ 53 2 ≤ 120 ∧ κ 53 2 ≤ κ 31 1) (hb : ∀ q : Int, -1 ≤ g q ∧ g q ≤ 255) (hp : (κ 53 4 = 0 ∧ κ 53 3 = p ∧ 0 ≤ p)) (ha : κ 53 3 ≤ 150) (hX : XI G) : zM G mX6_readStage yX6_readStage [.inr (.inr 53)] κ (q_X6_readStageP κ g p) := by
  have f_31_1 := KCt hC
  have f_49_0 := KCd0 hC
  have f_49_1 := KCd1 hC
  have g4 : sgE g p = nbE g (g p) (p + 2) := rfl
  refine zM_of [some (.inr (.inr 53)), none] 1 rfl rfl (Nat.le_of_ble_eq_true rfl) rfl ?_
  refine (show ∀ h : Hp, Fm [(53, 3), (53, 4), (49, 0), (49, 1), (50, 999), (51, 999), (52, 999)] κ h → h = κ → zV G mX6_readStage (q_X6_readStageP κ g p) 0 [some (.inr (.inr 53)), none] [] h from fun h hF hk0 => ?_) κ (Fm.rf hS hR hC) rfl
  have y0_53_3 : h 53 3 = κ 53 3 := by rw [hk0]
  have y0_53_4 : h 53 4 = κ 53 4 := by rw [hk0]
  have y0_49_0 : h 49 0 = κ 49 0 := by rw [hk0]
  have y0_49_1 : h 49 1 = κ 49 1 := by rw [hk0]
  refine zW_aload_n (pc' := 1) dX6_readStage_0.1.1.1.1 rfl rfl ?_
  have y1_31_1 := hF.1 31 1 rfl rfl
  have y1_53_2 := hF.1 53 2 rfl rfl
  refine cvI0 (pc' := 4) kX6_readLetter vX6_readLetter lk_X6_41 ⟨Nat.le_of_ble_eq_true rfl, Nat.le_of_ble_eq_true rfl⟩ tb53 vq6 rfl rfl (s_X6_readLetterP hF.2.1 hF.2.2.1 hF.2.2.2 g p (by rw [hF.cell 32 rfl (fun _ => rfl), hF.1 53 2 rfl rfl]; exact hg) (by omega) hb (by omega) (by omega) hX) dX6_readStage_0.1.1.1.2 (Nat.le_of_ble_eq_true rfl) rfl ?_
  rintro r1 h ⟨hF1, p1⟩; replace hF := hF.tr hF1 rfl
  rw [hk0] at p1
  refine zW_istore_n (ls' := [_, _]) (pc' := 5) dX6_readStage_0.1.1.2.1 (by decide) rfl rfl rfl ?_
  have hp0 : 0 ≤ p := by omega
  have r1k := p1.2.2.1
  have e1 := p1.2.2.2.1
  have i1 := p1.2.2.2.2.1
  have m1 := p1.2.2.2.2.2
  have r1b := And.intro p1.1 p1.2.1
  have l1 := lFn (g := g) (p := p) (m := κ 49 0) (f := κ 49 1) hp0
  clear p1
  refine zW_aload_n (pc' := 6) dX6_readStage_0.1.1.2.2 rfl rfl ?_
  refine zW_bipush (pc' := 8) dX6_readStage_0.1.2.1.1 rfl rfl ?_
  have y8_31_1 := hF.1 31 1 rfl rfl
  have y8_53_2 := hF.1 53 2 rfl rfl
  refine cvV1 (pc' := 11) kX6_expect vX6_expect lk_X6_45 ⟨Nat.le_of_ble_eq_true rfl, Nat.le_of_ble_eq_true rfl⟩ tb53 vq6 rfl rfl (s_X6_expectP hF.2.1 hF.2.2.1 hF.2.2.2 _ ⟨by omega, by omega⟩ g (p + 1) (by rw [hF.cell 32 rfl (fun _ => rfl), hF.1 53 2 rfl rfl]; exact hg) (by omega) (fun z => ⟨(i1 z).1, by omega⟩) (by omega) (by omega)) dX6_readStage_0.1.2.1.2 (Nat.le_of_ble_eq_true rfl) rfl ?_
  rintro r8 h ⟨hF1, p8⟩; replace hF := hF.tr hF1 rfl
  have t8_49_0 := hF1.1 49 0 rfl rfl
  have t8_49_1 := hF1.1 49 1 rfl rfl
  have e8 : h 53 4 = sq (lF g p (κ 49 0) (κ 49 1)) (sF g (p + 1) 58) := by rw [p8.1, e1]
  have i8 := p8.2.1
  have b8 := p8.2.2
  clear p8
  have s49 : h 53 4 = 0 → h 49 0 = κ 49 0 + 1 ∧ h 49 1 = nxf g p (κ 49 0) (κ 49 1) := fun z => by have a := i1 (e1.trans (sq_0l (e8.symm.trans z))); have nx := nxfc g p (κ 49 0) (κ 49 1); have kf := kd_f (g p); omega
  clear i1
  refine zW_aload_n (pc' := 12) dX6_readStage_0.1.2.2.1 rfl rfl ?_
  refine zG_int (pc' := 15) fg_X6_32 tb53 rfl dX6_readStage_0.1.2.2.2 rfl ?_
  have e12 := hF.rh 53 4
  refine zV_if_ne (tgt := 31) (pc' := 18) dX6_readStage_0.2.1.1.1 rfl rfl ⟨by omega, by omega⟩ (fun c15 => ?_) (fun c15 => ?_)
  · first | (have z1 : h 53 4 ≠ 0 := (by omega); have gs : sgF g p (κ 49 0) (κ 49 1) = sq (lF g p (κ 49 0) (κ 49 1)) (sF g (p + 1) 58) := sq_m (fun z => z1 (e8.trans z)); clear i8 s49) | skip
    refine zW_aload_n (pc' := 32) dX6_readStage_0.2.2.2.2 rfl rfl ?_
    refine zG_int (pc' := 35) fg_X6_32 tb53 rfl dX6_readStage_1.1.1.1.1 rfl ?_
    have e32 := hF.rh 53 4
    refine zV_if_ne (tgt := 43) (pc' := 38) dX6_readStage_1.1.1.1.2 rfl rfl ⟨by omega, by omega⟩ (fun c35 => ?_) (fun c35 => ?_)
    · first | (have z40 := p40; have nbx : nbF g (g p) (p + 2) = mnF g (p + 2) (xvv 102 r1.toNat) (xvv 103 r1.toNat) (xvv 104 r1.toNat) (xvv 105 r1.toNat) ∧ nbE g (g p) (p + 2) = mnE g (p + 2) (xvv 102 r1.toNat) := (by have z := nb_kind (g := g) (p := p + 2) r1.toNat (by omega); rw [show r1.toNat = (kd (g p)).toNat by omega] at z ⊢; rw [kd_s (by omega)] at z; exact z)) | skip
      refine zW_aload_n (pc' := 44) dX6_readStage_1.1.2.1.2 rfl rfl ?_
      refine zG_int (pc' := 47) fg_X6_32 tb53 rfl dX6_readStage_1.1.2.2.1 rfl ?_
      have e44 := hF.rh 53 4
      refine zV_if_ne (tgt := 79) (pc' := 50) dX6_readStage_1.1.2.2.2 rfl rfl ⟨by omega, by omega⟩ (fun c47 => ?_) (fun c47 => ?_)
      · exact zV_vret rfl dX6_readStage_2.2.2 ⟨hF, by omega⟩
      · have sf2 := sFc g (sgE g p) 59
        refine zW_aload_n (pc' := 51) dX6_readStage_1.2.1.1.1 rfl rfl ?_
        refine zG_int (pc' := 54) fg_X6_29 tb53 rfl dX6_readStage_1.2.1.1.2 rfl ?_
        have e51 := hF.rh 53 3
        refine zW_aload_n (pc' := 55) dX6_readStage_1.2.1.2.1 rfl rfl ?_
        refine zGm (pc' := 58) hF rfl rfl fg_X6_25 tb53 rfl dX6_readStage_1.2.1.2.2 rfl ?_
        have e55 : -2147483648 ≤ κ 53 2 ∧ κ 53 2 ≤ 2147483647 := by rw [← hF.1 53 2 rfl rfl]; exact hF.rh 53 2
        refine zV_cm_ge (tgt := 79) (pc' := 61) dX6_readStage_1.2.2.1.1 rfl rfl ⟨by omega, by omega⟩ ⟨by omega, by omega⟩ (fun c58 => ?_) (fun c58 => ?_)
        · exact zV_vret rfl dX6_readStage_2.2.2 ⟨hF, by omega⟩
        · refine zW_aload_n (pc' := 62) dX6_readStage_1.2.2.1.2 rfl rfl ?_
          have y62_31_1 := hF.1 31 1 rfl rfl
          have y62_53_2 := hF.1 53 2 rfl rfl
          refine cvI0 (pc' := 65) kX6_here vX6_here lk_X6_56 ⟨Nat.le_of_ble_eq_true rfl, Nat.le_of_ble_eq_true rfl⟩ tb53 vq6 rfl rfl (s_X6_hereP (b := true) (κ := h) hF.2.2.2 (Fr.rf hF.2.1) g (sgE g p) (by rw [hF.cell 32 rfl (fun _ => rfl), hF.1 53 2 rfl rfl]; exact hg) (by omega) (by omega)) dX6_readStage_1.2.2.2.1 (Nat.le_of_ble_eq_true rfl) rfl ?_
          rintro r62 z62 ⟨hz62, p62⟩; subst z62
          refine zW_bipush (pc' := 67) dX6_readStage_1.2.2.2.2 rfl rfl ?_
          refine zV_cm_eq (tgt := 79) (pc' := 70) dX6_readStage_2.1.1.1 rfl rfl ⟨by omega, by omega⟩ ⟨by omega, by omega⟩ (fun c67 => ?_) (fun c67 => ?_)
          · exact zV_vret rfl dX6_readStage_2.2.2 ⟨hF, by omega⟩
          · refine zW_aload_n (pc' := 71) dX6_readStage_2.1.1.2 rfl rfl ?_
            refine zW_iconst (pc' := 72) dX6_readStage_2.1.2.1 rfl ?_
            refine zW_aload_n (pc' := 73) dX6_readStage_2.1.2.2 rfl rfl ?_
            refine zG_int (pc' := 76) fg_X6_29 tb53 rfl dX6_readStage_2.2.1.1 rfl ?_
            have e73 := hF.rh 53 3
            refine cvV2 (pc' := 79) kX6_tell vX6_tell lk_X6_59 ⟨Nat.le_of_ble_eq_true rfl, Nat.le_of_ble_eq_true rfl⟩ tb53 vq6 rfl rfl (s_X6_tellP hF.2.1 hF.2.2.1 hF.2.2.2 _ ⟨by omega, by omega⟩ _ ⟨by omega, by omega⟩) dX6_readStage_2.2.1.2 (Nat.le_of_ble_eq_true rfl) rfl ?_
            rintro r76 h ⟨hF1, p76⟩; replace hF := hF.tr hF1 rfl
            have t76_53_3 := hF1.1 53 3 rfl rfl
            have t76_49_0 := hF1.1 49 0 rfl rfl
            have t76_49_1 := hF1.1 49 1 rfl rfl
            exact zV_vret rfl dX6_readStage_2.2.2 ⟨hF, by omega⟩
    · refine zW_aload_n (pc' := 39) dX6_readStage_1.1.1.2.1 rfl rfl ?_
      refine zW_iload_n (pc' := 40) dX6_readStage_1.1.1.2.2 rfl rfl ?_
      have y40_31_1 := hF.1 31 1 rfl rfl
      have y40_53_2 := hF.1 53 2 rfl rfl
      refine cvV1 (pc' := 43) kX6_readNumbers vX6_readNumbers lk_X6_52 ⟨Nat.le_of_ble_eq_true rfl, Nat.le_of_ble_eq_true rfl⟩ tb53 vq6 rfl rfl (s_X6_readNumbersP hF.2.1 hF.2.2.1 hF.2.2.2 _ ⟨by omega, by omega⟩ g (p + 2) (by rw [hF.cell 32 rfl (fun _ => rfl), hF.1 53 2 rfl rfl]; exact hg) (by omega) (by omega) (by omega) hX) dX6_readStage_1.1.2.1.1 (Nat.le_of_ble_eq_true rfl) rfl ?_
      rintro r40 h ⟨hF1, p40⟩; replace hF := hF.tr hF1 rfl
      have t40_49_0 := hF1.1 49 0 rfl rfl
      have t40_49_1 := hF1.1 49 1 rfl rfl
      first | (have z40 := p40; have nbx : nbF g (g p) (p + 2) = mnF g (p + 2) (xvv 102 r1.toNat) (xvv 103 r1.toNat) (xvv 104 r1.toNat) (xvv 105 r1.toNat) ∧ nbE g (g p) (p + 2) = mnE g (p + 2) (xvv 102 r1.toNat) := (by have z := nb_kind (g := g) (p := p + 2) r1.toNat (by omega); rw [show r1.toNat = (kd (g p)).toNat by omega] at z ⊢; rw [kd_s (by omega)] at z; exact z)) | skip
      refine zW_aload_n (pc' := 44) dX6_readStage_1.1.2.1.2 rfl rfl ?_
      refine zG_int (pc' := 47) fg_X6_32 tb53 rfl dX6_readStage_1.1.2.2.1 rfl ?_
      have e44 := hF.rh 53 4
      refine zV_if_ne (tgt := 79) (pc' := 50) dX6_readStage_1.1.2.2.2 rfl rfl ⟨by omega, by omega⟩ (fun c47 => ?_) (fun c47 => ?_)
      · exact zV_vret rfl dX6_readStage_2.2.2 ⟨hF, by omega⟩
      · have sf2 := sFc g (sgE g p) 59
        refine zW_aload_n (pc' := 51) dX6_readStage_1.2.1.1.1 rfl rfl ?_
        refine zG_int (pc' := 54) fg_X6_29 tb53 rfl dX6_readStage_1.2.1.1.2 rfl ?_
        have e51 := hF.rh 53 3
        refine zW_aload_n (pc' := 55) dX6_readStage_1.2.1.2.1 rfl rfl ?_
        refine zGm (pc' := 58) hF rfl rfl fg_X6_25 tb53 rfl dX6_readStage_1.2.1.2.2 rfl ?_
        have e55 : -2147483648 ≤ κ 53 2 ∧ κ 53 2 ≤ 2147483647 := by rw [← hF.1 53 2 rfl rfl]; exact hF.rh 53 2
        refine zV_cm_ge (tgt := 79) (pc' := 61) dX6_readStage_1.2.2.1.1 rfl rfl ⟨by omega, by omega⟩ ⟨by omega, by omega⟩ (fun c58 => ?_) (fun c58 => ?_)
        · exact zV_vret rfl dX6_readStage_2.2.2 ⟨hF, by omega⟩
        · refine zW_aload_n (pc' := 62) dX6_readStage_1.2.2.1.2 rfl rfl ?_
          have y62_31_1 := hF.1 31 1 rfl rfl
          have y62_53_2 := hF.1 53 2 rfl rfl
          refine cvI0 (pc' := 65) kX6_here vX6_here lk_X6_56 ⟨Nat.le_of_ble_eq_true rfl, Nat.le_of_ble_eq_true rfl⟩ tb53 vq6 rfl rfl (s_X6_hereP (b := true) (κ := h) hF.2.2.2 (Fr.rf hF.2.1) g (sgE g p) (by rw [hF.cell 32 rfl (fun _ => rfl), hF.1 53 2 rfl rfl]; exact hg) (by omega) (by omega)) dX6_readStage_1.2.2.2.1 (Nat.le_of_ble_eq_true rfl) rfl ?_
          rintro r62 z62 ⟨hz62, p62⟩; subst z62
          refine zW_bipush (pc' := 67) dX6_readStage_1.2.2.2.2 rfl rfl ?_
          refine zV_cm_eq (tgt := 79) (pc' := 70) dX6_readStage_2.1.1.1 rfl rfl ⟨by omega, by omega⟩ ⟨by omega, by omega⟩ (fun c67 => ?_) (fun c67 => ?_)
          · exact zV_vret rfl dX6_readStage_2.2.2 ⟨hF, by omega⟩
          · refine zW_aload_n (pc' := 71) dX6_readStage_2.1.1.2 rfl rfl ?_
            refine zW_iconst (pc' := 72) dX6_readStage_2.1.2.1 rfl ?_
            refine zW_aload_n (pc' := 73) dX6_readStage_2.1.2.2 rfl rfl ?_
            refine zG_int (pc' := 76) fg_X6_29 tb53 rfl dX6_readStage_2.2.1.1 rfl ?_
            have e73 := hF.rh 53 3
            refine cvV2 (pc' := 79) kX6_tell vX6_tell lk_X6_59 ⟨Nat.le_of_ble_eq_true rfl, Nat.le_of_ble_eq_true rfl⟩ tb53 vq6 rfl rfl (s_X6_tellP hF.2.1 hF.2.2.1 hF.2.2.2 _ ⟨by omega, by omega⟩ _ ⟨by omega, by omega⟩) dX6_readStage_2.2.1.2 (Nat.le_of_ble_eq_true rfl) rfl ?_
            rintro r76 h ⟨hF1, p76⟩; replace hF := hF.tr hF1 rfl
            have t76_53_3 := hF1.1 53 3 rfl rfl
            have t76_49_0 := hF1.1 49 0 rfl rfl
            have t76_49_1 := hF1.1 49 1 rfl rfl
            exact zV_vret rfl dX6_readStage_2.2.2 ⟨hF, by omega⟩
  · have z0 : h 53 4 = 0 := by omega
    have z8 := e8.symm.trans z0
    have kl := lFz (sq_0l z8) hp0
    have gs : sgF g p (κ 49 0) (κ 49 1) = nbF g (g p) (p + 2) := sq_z z8
    have s49b := s49 z0
    have a2 := i8 z0
    clear i8 s49 e8 z8
    refine zW_iload_n (pc' := 19) dX6_readStage_0.2.1.1.2 rfl rfl ?_
    refine zW_bipush (pc' := 21) dX6_readStage_0.2.1.2.1 rfl rfl ?_
    refine zV_cm_ne (tgt := 31) (pc' := 24) dX6_readStage_0.2.1.2.2 rfl rfl ⟨by omega, by omega⟩ ⟨by omega, by omega⟩ (fun c21 => ?_) (fun c21 => ?_)
    · first | (have z1 : h 53 4 ≠ 0 := (by omega); have gs : sgF g p (κ 49 0) (κ 49 1) = sq (lF g p (κ 49 0) (κ 49 1)) (sF g (p + 1) 58) := sq_m (fun z => z1 (e8.trans z)); clear i8 s49) | skip
      refine zW_aload_n (pc' := 32) dX6_readStage_0.2.2.2.2 rfl rfl ?_
      refine zG_int (pc' := 35) fg_X6_32 tb53 rfl dX6_readStage_1.1.1.1.1 rfl ?_
      have e32 := hF.rh 53 4
      refine zV_if_ne (tgt := 43) (pc' := 38) dX6_readStage_1.1.1.1.2 rfl rfl ⟨by omega, by omega⟩ (fun c35 => ?_) (fun c35 => ?_)
      · first | (have z40 := p40; have nbx : nbF g (g p) (p + 2) = mnF g (p + 2) (xvv 102 r1.toNat) (xvv 103 r1.toNat) (xvv 104 r1.toNat) (xvv 105 r1.toNat) ∧ nbE g (g p) (p + 2) = mnE g (p + 2) (xvv 102 r1.toNat) := (by have z := nb_kind (g := g) (p := p + 2) r1.toNat (by omega); rw [show r1.toNat = (kd (g p)).toNat by omega] at z ⊢; rw [kd_s (by omega)] at z; exact z)) | skip
        refine zW_aload_n (pc' := 44) dX6_readStage_1.1.2.1.2 rfl rfl ?_
        refine zG_int (pc' := 47) fg_X6_32 tb53 rfl dX6_readStage_1.1.2.2.1 rfl ?_
        have e44 := hF.rh 53 4
        refine zV_if_ne (tgt := 79) (pc' := 50) dX6_readStage_1.1.2.2.2 rfl rfl ⟨by omega, by omega⟩ (fun c47 => ?_) (fun c47 => ?_)
        · exact zV_vret rfl dX6_readStage_2.2.2 ⟨hF, by omega⟩
        · have sf2 := sFc g (sgE g p) 59
          refine zW_aload_n (pc' := 51) dX6_readStage_1.2.1.1.1 rfl rfl ?_
          refine zG_int (pc' := 54) fg_X6_29 tb53 rfl dX6_readStage_1.2.1.1.2 rfl ?_
          have e51 := hF.rh 53 3
          refine zW_aload_n (pc' := 55) dX6_readStage_1.2.1.2.1 rfl rfl ?_
          refine zGm (pc' := 58) hF rfl rfl fg_X6_25 tb53 rfl dX6_readStage_1.2.1.2.2 rfl ?_
          have e55 : -2147483648 ≤ κ 53 2 ∧ κ 53 2 ≤ 2147483647 := by rw [← hF.1 53 2 rfl rfl]; exact hF.rh 53 2
          refine zV_cm_ge (tgt := 79) (pc' := 61) dX6_readStage_1.2.2.1.1 rfl rfl ⟨by omega, by omega⟩ ⟨by omega, by omega⟩ (fun c58 => ?_) (fun c58 => ?_)
          · exact zV_vret rfl dX6_readStage_2.2.2 ⟨hF, by omega⟩
          · refine zW_aload_n (pc' := 62) dX6_readStage_1.2.2.1.2 rfl rfl ?_
            have y62_31_1 := hF.1 31 1 rfl rfl
            have y62_53_2 := hF.1 53 2 rfl rfl
            refine cvI0 (pc' := 65) kX6_here vX6_here lk_X6_56 ⟨Nat.le_of_ble_eq_true rfl, Nat.le_of_ble_eq_true rfl⟩ tb53 vq6 rfl rfl (s_X6_hereP (b := true) (κ := h) hF.2.2.2 (Fr.rf hF.2.1) g (sgE g p) (by rw [hF.cell 32 rfl (fun _ => rfl), hF.1 53 2 rfl rfl]; exact hg) (by omega) (by omega)) dX6_readStage_1.2.2.2.1 (Nat.le_of_ble_eq_true rfl) rfl ?_
            rintro r62 z62 ⟨hz62, p62⟩; subst z62
            refine zW_bipush (pc' := 67) dX6_readStage_1.2.2.2.2 rfl rfl ?_
            refine zV_cm_eq (tgt := 79) (pc' := 70) dX6_readStage_2.1.1.1 rfl rfl ⟨by omega, by omega⟩ ⟨by omega, by omega⟩ (fun c67 => ?_) (fun c67 => ?_)
            · exact zV_vret rfl dX6_readStage_2.2.2 ⟨hF, by omega⟩
            · refine zW_aload_n (pc' := 71) dX6_readStage_2.1.1.2 rfl rfl ?_
              refine zW_iconst (pc' := 72) dX6_readStage_2.1.2.1 rfl ?_
              refine zW_aload_n (pc' := 73) dX6_readStage_2.1.2.2 rfl rfl ?_
              refine zG_int (pc' := 76) fg_X6_29 tb53 rfl dX6_readStage_2.2.1.1 rfl ?_
              have e73 := hF.rh 53 3
              refine cvV2 (pc' := 79) kX6_tell vX6_tell lk_X6_59 ⟨Nat.le_of_ble_eq_true rfl, Nat.le_of_ble_eq_true rfl⟩ tb53 vq6 rfl rfl (s_X6_tellP hF.2.1 hF.2.2.1 hF.2.2.2 _ ⟨by omega, by omega⟩ _ ⟨by omega, by omega⟩) dX6_readStage_2.2.1.2 (Nat.le_of_ble_eq_true rfl) rfl ?_
              rintro r76 h ⟨hF1, p76⟩; replace hF := hF.tr hF1 rfl
              have t76_53_3 := hF1.1 53 3 rfl rfl
              have t76_49_0 := hF1.1 49 0 rfl rfl
              have t76_49_1 := hF1.1 49 1 rfl rfl
              exact zV_vret rfl dX6_readStage_2.2.2 ⟨hF, by omega⟩
      · refine zW_aload_n (pc' := 39) dX6_readStage_1.1.1.2.1 rfl rfl ?_
        refine zW_iload_n (pc' := 40) dX6_readStage_1.1.1.2.2 rfl rfl ?_
        have y40_31_1 := hF.1 31 1 rfl rfl
        have y40_53_2 := hF.1 53 2 rfl rfl
        refine cvV1 (pc' := 43) kX6_readNumbers vX6_readNumbers lk_X6_52 ⟨Nat.le_of_ble_eq_true rfl, Nat.le_of_ble_eq_true rfl⟩ tb53 vq6 rfl rfl (s_X6_readNumbersP hF.2.1 hF.2.2.1 hF.2.2.2 _ ⟨by omega, by omega⟩ g (p + 2) (by rw [hF.cell 32 rfl (fun _ => rfl), hF.1 53 2 rfl rfl]; exact hg) (by omega) (by omega) (by omega) hX) dX6_readStage_1.1.2.1.1 (Nat.le_of_ble_eq_true rfl) rfl ?_
        rintro r40 h ⟨hF1, p40⟩; replace hF := hF.tr hF1 rfl
        have t40_49_0 := hF1.1 49 0 rfl rfl
        have t40_49_1 := hF1.1 49 1 rfl rfl
        first | (have z40 := p40; have nbx : nbF g (g p) (p + 2) = mnF g (p + 2) (xvv 102 r1.toNat) (xvv 103 r1.toNat) (xvv 104 r1.toNat) (xvv 105 r1.toNat) ∧ nbE g (g p) (p + 2) = mnE g (p + 2) (xvv 102 r1.toNat) := (by have z := nb_kind (g := g) (p := p + 2) r1.toNat (by omega); rw [show r1.toNat = (kd (g p)).toNat by omega] at z ⊢; rw [kd_s (by omega)] at z; exact z)) | skip
        refine zW_aload_n (pc' := 44) dX6_readStage_1.1.2.1.2 rfl rfl ?_
        refine zG_int (pc' := 47) fg_X6_32 tb53 rfl dX6_readStage_1.1.2.2.1 rfl ?_
        have e44 := hF.rh 53 4
        refine zV_if_ne (tgt := 79) (pc' := 50) dX6_readStage_1.1.2.2.2 rfl rfl ⟨by omega, by omega⟩ (fun c47 => ?_) (fun c47 => ?_)
        · exact zV_vret rfl dX6_readStage_2.2.2 ⟨hF, by omega⟩
        · have sf2 := sFc g (sgE g p) 59
          refine zW_aload_n (pc' := 51) dX6_readStage_1.2.1.1.1 rfl rfl ?_
          refine zG_int (pc' := 54) fg_X6_29 tb53 rfl dX6_readStage_1.2.1.1.2 rfl ?_
          have e51 := hF.rh 53 3
          refine zW_aload_n (pc' := 55) dX6_readStage_1.2.1.2.1 rfl rfl ?_
          refine zGm (pc' := 58) hF rfl rfl fg_X6_25 tb53 rfl dX6_readStage_1.2.1.2.2 rfl ?_
          have e55 : -2147483648 ≤ κ 53 2 ∧ κ 53 2 ≤ 2147483647 := by rw [← hF.1 53 2 rfl rfl]; exact hF.rh 53 2
          refine zV_cm_ge (tgt := 79) (pc' := 61) dX6_readStage_1.2.2.1.1 rfl rfl ⟨by omega, by omega⟩ ⟨by omega, by omega⟩ (fun c58 => ?_) (fun c58 => ?_)
          · exact zV_vret rfl dX6_readStage_2.2.2 ⟨hF, by omega⟩
          · refine zW_aload_n (pc' := 62) dX6_readStage_1.2.2.1.2 rfl rfl ?_
            have y62_31_1 := hF.1 31 1 rfl rfl
            have y62_53_2 := hF.1 53 2 rfl rfl
            refine cvI0 (pc' := 65) kX6_here vX6_here lk_X6_56 ⟨Nat.le_of_ble_eq_true rfl, Nat.le_of_ble_eq_true rfl⟩ tb53 vq6 rfl rfl (s_X6_hereP (b := true) (κ := h) hF.2.2.2 (Fr.rf hF.2.1) g (sgE g p) (by rw [hF.cell 32 rfl (fun _ => rfl), hF.1 53 2 rfl rfl]; exact hg) (by omega) (by omega)) dX6_readStage_1.2.2.2.1 (Nat.le_of_ble_eq_true rfl) rfl ?_
            rintro r62 z62 ⟨hz62, p62⟩; subst z62
            refine zW_bipush (pc' := 67) dX6_readStage_1.2.2.2.2 rfl rfl ?_
            refine zV_cm_eq (tgt := 79) (pc' := 70) dX6_readStage_2.1.1.1 rfl rfl ⟨by omega, by omega⟩ ⟨by omega, by omega⟩ (fun c67 => ?_) (fun c67 => ?_)
            · exact zV_vret rfl dX6_readStage_2.2.2 ⟨hF, by omega⟩
            · refine zW_aload_n (pc' := 71) dX6_readStage_2.1.1.2 rfl rfl ?_
              refine zW_iconst (pc' := 72) dX6_readStage_2.1.2.1 rfl ?_
              refine zW_aload_n (pc' := 73) dX6_readStage_2.1.2.2 rfl rfl ?_
              refine zG_int (pc' := 76) fg_X6_29 tb53 rfl dX6_readStage_2.2.1.1 rfl ?_
              have e73 := hF.rh 53 3
              refine cvV2 (pc' := 79) kX6_tell vX6_tell lk_X6_59 ⟨Nat.le_of_ble_eq_true rfl, Nat.le_of_ble_eq_true rfl⟩ tb53 vq6 rfl rfl (s_X6_tellP hF.2.1 hF.2.2.1 hF.2.2.2 _ ⟨by omega, by omega⟩ _ ⟨by omega, by omega⟩) dX6_readStage_2.2.1.2 (Nat.le_of_ble_eq_true rfl) rfl ?_
              rintro r76 h ⟨hF1, p76⟩; replace hF := hF.tr hF1 rfl
              have t76_53_3 := hF1.1 53 3 rfl rfl
              have t76_49_0 := hF1.1 49 0 rfl rfl
              have t76_49_1 := hF1.1 49 1 rfl rfl
              exact zV_vret rfl dX6_readStage_2.2.2 ⟨hF, by omega⟩
    · refine zW_aload_n (pc' := 25) dX6_readStage_0.2.2.1.1 rfl rfl ?_
      have y25_31_1 := hF.1 31 1 rfl rfl
      have y25_53_2 := hF.1 53 2 rfl rfl
      refine cvV0 (pc' := 28) kX6_readPoints vX6_readPoints lk_X6_49 ⟨Nat.le_of_ble_eq_true rfl, Nat.le_of_ble_eq_true rfl⟩ tb53 vq6 rfl rfl (s_X6_readPointsP hF.2.1 hF.2.2.1 hF.2.2.2 g (p + 2) (by rw [hF.cell 32 rfl (fun _ => rfl), hF.1 53 2 rfl rfl]; exact hg) (by omega) (by omega) (by omega)) dX6_readStage_0.2.2.1.2 (Nat.le_of_ble_eq_true rfl) rfl ?_
      rintro r25 h ⟨hF1, p25⟩; replace hF := hF.tr hF1 rfl
      have t25_49_0 := hF1.1 49 0 rfl rfl
      have t25_49_1 := hF1.1 49 1 rfl rfl
      have nbx : nbF g (g p) (p + 2) = cuF g 200 (p + 2) (-1) ∧ nbE g (g p) (p + 2) = cuE g 200 (p + 2) (-1) := by rw [(kd_t (g p)).mp (by omega)]; exact nb_116
      refine zV_goto 43 dX6_readStage_0.2.2.2.1 rfl ?_
      first | (have z40 := p40; have nbx : nbF g (g p) (p + 2) = mnF g (p + 2) (xvv 102 r1.toNat) (xvv 103 r1.toNat) (xvv 104 r1.toNat) (xvv 105 r1.toNat) ∧ nbE g (g p) (p + 2) = mnE g (p + 2) (xvv 102 r1.toNat) := (by have z := nb_kind (g := g) (p := p + 2) r1.toNat (by omega); rw [show r1.toNat = (kd (g p)).toNat by omega] at z ⊢; rw [kd_s (by omega)] at z; exact z)) | skip
      refine zW_aload_n (pc' := 44) dX6_readStage_1.1.2.1.2 rfl rfl ?_
      refine zG_int (pc' := 47) fg_X6_32 tb53 rfl dX6_readStage_1.1.2.2.1 rfl ?_
      have e44 := hF.rh 53 4
      refine zV_if_ne (tgt := 79) (pc' := 50) dX6_readStage_1.1.2.2.2 rfl rfl ⟨by omega, by omega⟩ (fun c47 => ?_) (fun c47 => ?_)
      · exact zV_vret rfl dX6_readStage_2.2.2 ⟨hF, by omega⟩
      · have sf2 := sFc g (sgE g p) 59
        refine zW_aload_n (pc' := 51) dX6_readStage_1.2.1.1.1 rfl rfl ?_
        refine zG_int (pc' := 54) fg_X6_29 tb53 rfl dX6_readStage_1.2.1.1.2 rfl ?_
        have e51 := hF.rh 53 3
        refine zW_aload_n (pc' := 55) dX6_readStage_1.2.1.2.1 rfl rfl ?_
        refine zGm (pc' := 58) hF rfl rfl fg_X6_25 tb53 rfl dX6_readStage_1.2.1.2.2 rfl ?_
        have e55 : -2147483648 ≤ κ 53 2 ∧ κ 53 2 ≤ 2147483647 := by rw [← hF.1 53 2 rfl rfl]; exact hF.rh 53 2
        refine zV_cm_ge (tgt := 79) (pc' := 61) dX6_readStage_1.2.2.1.1 rfl rfl ⟨by omega, by omega⟩ ⟨by omega, by omega⟩ (fun c58 => ?_) (fun c58 => ?_)
        · exact zV_vret rfl dX6_readStage_2.2.2 ⟨hF, by omega⟩
        · refine zW_aload_n (pc' := 62) dX6_readStage_1.2.2.1.2 rfl rfl ?_
          have y62_31_1 := hF.1 31 1 rfl rfl
          have y62_53_2 := hF.1 53 2 rfl rfl
          refine cvI0 (pc' := 65) kX6_here vX6_here lk_X6_56 ⟨Nat.le_of_ble_eq_true rfl, Nat.le_of_ble_eq_true rfl⟩ tb53 vq6 rfl rfl (s_X6_hereP (b := true) (κ := h) hF.2.2.2 (Fr.rf hF.2.1) g (sgE g p) (by rw [hF.cell 32 rfl (fun _ => rfl), hF.1 53 2 rfl rfl]; exact hg) (by omega) (by omega)) dX6_readStage_1.2.2.2.1 (Nat.le_of_ble_eq_true rfl) rfl ?_
          rintro r62 z62 ⟨hz62, p62⟩; subst z62
          refine zW_bipush (pc' := 67) dX6_readStage_1.2.2.2.2 rfl rfl ?_
          refine zV_cm_eq (tgt := 79) (pc' := 70) dX6_readStage_2.1.1.1 rfl rfl ⟨by omega, by omega⟩ ⟨by omega, by omega⟩ (fun c67 => ?_) (fun c67 => ?_)
          · exact zV_vret rfl dX6_readStage_2.2.2 ⟨hF, by omega⟩
          · refine zW_aload_n (pc' := 71) dX6_readStage_2.1.1.2 rfl rfl ?_
            refine zW_iconst (pc' := 72) dX6_readStage_2.1.2.1 rfl ?_
            refine zW_aload_n (pc' := 73) dX6_readStage_2.1.2.2 rfl rfl ?_
            refine zG_int (pc' := 76) fg_X6_29 tb53 rfl dX6_readStage_2.2.1.1 rfl ?_
            have e73 := hF.rh 53 3
            refine cvV2 (pc' := 79) kX6_tell vX6_tell lk_X6_59 ⟨Nat.le_of_ble_eq_true rfl, Nat.le_of_ble_eq_true rfl⟩ tb53 vq6 rfl rfl (s_X6_tellP hF.2.1 hF.2.2.1 hF.2.2.2 _ ⟨by omega, by omega⟩ _ ⟨by omega, by omega⟩) dX6_readStage_2.2.1.2 (Nat.le_of_ble_eq_true rfl) rfl ?_
            rintro r76 h ⟨hF1, p76⟩; replace hF := hF.tr hF1 rfl
            have t76_53_3 := hF1.1 53 3 rfl rfl
            have t76_49_0 := hF1.1 49 0 rfl rfl
            have t76_49_1 := hF1.1 49 1 rfl rfl
            exact zV_vret rfl dX6_readStage_2.2.2 ⟨hF, by omega⟩

abbrev q_X7_clearV49P (κ : Hp)  : Int → Hp → Prop := fun r h' => Fm [(49, 0), (49, 1), (51, 999)] κ h' ∧ ((h' 49 0 = 0 ∧ h' 49 1 = 0))
set_option maxHeartbeats 4000000 in
set_option maxRecDepth 20000 in
theorem s_X7_clearV49P {G : Ga} {κ : Hp} (hS : SI κ) (hR : KR κ) (hC : KC κ)  : zM G mX7_clear yX7_clear [.inr (.inr 49)] κ (q_X7_clearV49P κ) := by
  refine zM_of [some (.inr (.inr 49))] 0 rfl rfl (Nat.le_of_ble_eq_true rfl) rfl ?_
  refine (show ∀ h : Hp, Fm [(49, 0), (49, 1), (51, 999)] κ h → h = κ → zV G mX7_clear (q_X7_clearV49P κ) 0 [some (.inr (.inr 49))] [] h from fun h hF hk0 => ?_) κ (Fm.rf hS hR hC) rfl
  refine zW_aload_n (pc' := 1) dX7_clear_0.1.1.1.1 rfl rfl ?_
  refine zW_iconst (pc' := 2) dX7_clear_0.1.1.1.2 rfl ?_
  refine zPm (pc' := 5) hF (Or.inl rfl) (SI_irr hF.2.1 (Or.inl rfl) (fun _ _ => ⟨by omega, by omega⟩)) (KR_irr hF.2.2.1 rfl) (KC_49_0 hF.2.2.2 (by omega)) fp_X7_21 tb49 rfl dX7_clear_0.1.1.2 rfl (fun h hF w2 => ?_)
  have t2_49_0 := congrFun (congrFun w2 49) 0
  rw [zwr_eq] at t2_49_0
  have t2_49_1 := congrFun (congrFun w2 49) 1
  rw [zwr_ne (Or.inr (by decide))] at t2_49_1
  refine zW_aload_n (pc' := 6) dX7_clear_0.1.2.1.1 rfl rfl ?_
  refine zW_iconst (pc' := 7) dX7_clear_0.1.2.1.2 rfl ?_
  refine zPm (pc' := 10) hF (Or.inl rfl) (SI_irr hF.2.1 (Or.inl rfl) (fun _ _ => ⟨by omega, by omega⟩)) (KR_irr hF.2.2.1 rfl) (KC_49_1 hF.2.2.2 (by omega)) fp_X7_25 tb49 rfl dX7_clear_0.1.2.2 rfl (fun h hF w7 => ?_)
  have t7_49_0 := congrFun (congrFun w7 49) 0
  rw [zwr_ne (Or.inr (by decide))] at t7_49_0
  have t7_49_1 := congrFun (congrFun w7 49) 1
  rw [zwr_eq] at t7_49_1
  refine zW_aload_n (pc' := 11) dX7_clear_0.2.1.1.1 rfl rfl ?_
  refine zG_ref (pc' := 14) 51 fg_X7_15 tb49 rfl dX7_clear_0.2.1.1.2 rfl ?_
  refine zW_iconst (pc' := 15) dX7_clear_0.2.1.2 rfl ?_
  refine zW_iconst (pc' := 16) dX7_clear_0.2.2.1.1 rfl ?_
  refine zSm (pc' := 17) hF rfl (fun v' hv he => ⟨(SI_irr hF.2.1 (Or.inl (key_of rfl _)) (fun _ _ => hv)), (KR_irr hF.2.2.1 rfl), (KC_c51 hF.2.2.2 (by have := he ⟨by omega, by omega⟩; omega))⟩) tb51 (by omega) dX7_clear_0.2.2.1.2 (by decide) rfl (fun h i16 hF a16 b16 w16 => ?_)
  have t16_49_0 := congrFun (congrFun w16 49) 0
  rw [zwr_ne (Or.inl (by decide))] at t16_49_0
  have t16_49_1 := congrFun (congrFun w16 49) 1
  rw [zwr_ne (Or.inl (by decide))] at t16_49_1
  exact zV_vret rfl dX7_clear_0.2.2.2 ⟨hF, by omega⟩

abbrev q_X6_readP (κ : Hp) (x1 : Int) (g : Int → Int) : Int → Hp → Prop := fun r h' => Fm [(53, 2), (53, 3), (53, 4), (49, 0), (49, 1), (50, 999), (51, 999), (52, 999)] κ h' ∧ ((-2147483648 ≤ r) ∧ (r ≤ 2147483647) ∧ (r = rdF g x1 ∧ (0 ≤ r → h' 49 0 = r ∧ h' 49 1 = rdA g x1)))
set_option maxHeartbeats 4000000 in
set_option maxRecDepth 20000 in
theorem s_X6_readP {G : Ga} {κ : Hp} (hS : SI κ) (hR : KR κ) (hC : KC κ) (x1 : Int) (hx1 : 0 ≤ x1 ∧ x1 ≤ 120) (g : Int → Int) (hg : hr (κ 32) x1 = g) (hb : ∀ q : Int, -1 ≤ g q ∧ g q ≤ 255) (hn : x1 ≤ κ 31 1) (hX : XI G) : zM G mX6_read yX6_read [.inr (.inr 53), .inl x1] κ (q_X6_readP κ x1 g) := by
  have f_31_1 := KCt hC
  have f_41_0 := KCm hC
  have f_45_0 := KCr0 hC
  have f_49_0 := KCd0 hC
  have main : ∀ N : Nat, (∀ (v2 v3 : Int) (h : Hp), Fm [(53, 2), (53, 3), (53, 4), (49, 0), (49, 1), (50, 999), (51, 999), (52, 999)] κ h → (0 ≤ v2 ∧ v2 ≤ 1) → (0 ≤ v3 ∧ v3 ≤ 13) → (h 53 2 = x1 ∧ h 53 4 ≤ 0 ∧ 0 ≤ h 53 3 ∧ h 53 3 ≤ 121) → (v2 = 1 → h 53 4 = 0 ∧ h 49 0 = v3 ∧ h 53 3 ≤ x1) → (v2 = 1 → AlI g x1 (h 53 3) (h 49 0) (h 49 1)) → (v2 = 0 → (h 53 4 ≠ 0 → h 53 4 = rdF g x1) ∧ (h 53 4 = 0 → h 49 0 = rdF g x1 ∧ h 49 1 = rdA g x1)) → 22230 + 39 * (13 - v3) + 38 < (N : Int) → zV G mX6_read (q_X6_readP κ x1 g) 34 [some (.inr (.inr 53)), some (.inl x1), some (.inl v2), some (.inl v3)] [] h) := by
    intro N
    induction N with
    | zero =>
      intro v2 v3 h hF g0 g1 gc0 gc1 gc2 gc3 hm
      exfalso; omega
    | succ N ih =>
      have k34 := ih
      intro v2 v3 h hF g0 g1 gc0 gc1 gc2 gc3 hm
      have b49 := KCd0 hF.2.2.2
      refine zW_iload_n (pc' := 35) dX6_read_1.1.2.1.1 rfl rfl ?_
      refine zV_if_eq (tgt := 88) (pc' := 38) dX6_read_1.1.2.1.2 rfl rfl ⟨by omega, by omega⟩ (fun c35 => ?_) (fun c35 => ?_)
      · refine zW_aload_n (pc' := 89) dX6_read_2.2.2.2.2 rfl rfl ?_
        refine zG_int (pc' := 92) fg_X6_32 tb53 rfl dX6_read_3.1.1.1.1 rfl ?_
        have e89 := hF.rh 53 4
        refine zV_if_ne (tgt := 105) (pc' := 95) dX6_read_3.1.1.1.2 rfl rfl ⟨by omega, by omega⟩ (fun c92 => ?_) (fun c92 => ?_)
        · refine zW_aload_n (pc' := 106) dX6_read_3.2.1.2 rfl rfl ?_
          refine zG_int (pc' := 109) fg_X6_32 tb53 rfl dX6_read_3.2.2.1 rfl ?_
          have e106 := hF.rh 53 4
          exact zV_iret rfl dX6_read_3.2.2.2 ⟨hF, by omega⟩
        · refine zW_aload_n (pc' := 96) dX6_read_3.1.1.2 rfl rfl ?_
          refine zG_ref (pc' := 99) 49 fg_X6_12 tb53 rfl dX6_read_3.1.2.1 rfl ?_
          refine zG_int (pc' := 102) fg_X6_38 tb49 rfl dX6_read_3.1.2.2 rfl ?_
          have e99 := KCd0 hF.2.2.2
          refine zV_goto 109 dX6_read_3.2.1.1 rfl ?_
          exact zV_iret rfl dX6_read_3.2.2.2 ⟨hF, by omega⟩
      · refine zW_iload_n (pc' := 39) dX6_read_1.1.2.2.1 rfl rfl ?_
        refine zW_bipush (pc' := 41) dX6_read_1.1.2.2.2 rfl rfl ?_
        refine zV_cm_gt (tgt := 88) (pc' := 44) dX6_read_1.2.1.1.1 rfl rfl ⟨by omega, by omega⟩ ⟨by omega, by omega⟩ (fun c41 => ?_) (fun c41 => ?_)
        · refine zW_aload_n (pc' := 89) dX6_read_2.2.2.2.2 rfl rfl ?_
          refine zG_int (pc' := 92) fg_X6_32 tb53 rfl dX6_read_3.1.1.1.1 rfl ?_
          have e89 := hF.rh 53 4
          refine zV_if_ne (tgt := 105) (pc' := 95) dX6_read_3.1.1.1.2 rfl rfl ⟨by omega, by omega⟩ (fun c92 => ?_) (fun c92 => ?_)
          · refine zW_aload_n (pc' := 106) dX6_read_3.2.1.2 rfl rfl ?_
            refine zG_int (pc' := 109) fg_X6_32 tb53 rfl dX6_read_3.2.2.1 rfl ?_
            have e106 := hF.rh 53 4
            exact zV_iret rfl dX6_read_3.2.2.2 ⟨hF, by omega⟩
          · refine zW_aload_n (pc' := 96) dX6_read_3.1.1.2 rfl rfl ?_
            refine zG_ref (pc' := 99) 49 fg_X6_12 tb53 rfl dX6_read_3.1.2.1 rfl ?_
            refine zG_int (pc' := 102) fg_X6_38 tb49 rfl dX6_read_3.1.2.2 rfl ?_
            have e99 := KCd0 hF.2.2.2
            refine zV_goto 109 dX6_read_3.2.1.1 rfl ?_
            exact zV_iret rfl dX6_read_3.2.2.2 ⟨hF, by omega⟩
        · obtain ⟨q, eq⟩ : ∃ q : Int, q = h 53 3 := ⟨_, rfl⟩
          obtain ⟨m, em⟩ : ∃ m : Int, m = h 49 0 := ⟨_, rfl⟩
          obtain ⟨f, ef⟩ : ∃ f : Int, f = h 49 1 := ⟨_, rfl⟩
          have al := gc2 (by omega)
          rw [← eq, ← em, ← ef] at al
          have go := al.go (by omega)
          have l2 : h 53 2 = x1 := gc0.1
          refine zW_aload_n (pc' := 45) dX6_read_1.2.1.1.2 rfl rfl ?_
          have y45_31_1 := hF.1 31 1 rfl rfl
          refine cvV0 (pc' := 48) kX6_readStage vX6_readStage lk_X6_35 ⟨Nat.le_of_ble_eq_true rfl, Nat.le_of_ble_eq_true rfl⟩ tb53 vq6 rfl rfl (s_X6_readStageP hF.2.1 hF.2.2.1 hF.2.2.2 g q (by rw [hF.cell 32 rfl (fun _ => rfl), gc0.1]; exact hg) (by omega) hb (by omega) (by omega) hX) dX6_read_1.2.1.2.1 (Nat.le_of_ble_eq_true rfl) rfl ?_
          rintro r45 h ⟨hF1, p45⟩; replace hF := hF.tr hF1 rfl
          have t45_53_2 := hF1.1 53 2 rfl rfl
          rw [← em, ← ef, l2] at p45
          have mv : m = v3 := by omega
          have qx : q ≤ x1 := by omega
          have ra : h 53 4 ≠ 0 → h 53 4 = rdF g x1 := fun z => by by_cases c : sgF g q m f = 0; (have a := p45.2.1 c; have l : sgE g q < x1 := (by have := a.2.2.1; omega); have b := a.2.1 l; rw [b]; exact (go.2.2.1 c l (fun y => z (b.trans y))).symm); (rw [p45.1 c]; exact (go.1 c).symm)
          have rb : h 53 4 = 0 → sgF g q m f = 0 ∧ h 53 3 = sgE g q ∧ q + 2 ≤ h 53 3 := fun z => by by_cases c : sgF g q m f = 0; (have a := p45.2.1 c; exact ⟨c, a.1, a.2.2.2⟩); (exact absurd ((p45.1 c).symm.trans z) c)
          have rc := p45.2.2.1
          have rd : h 53 4 = 0 → ¬ h 53 3 < x1 → h 49 0 = rdF g x1 ∧ h 49 1 = rdA g x1 := fun z y => by have a := rb z; have b := go.2.1 a.1 (by omega); have c := rc z; exact ⟨c.1.trans b.1.symm, c.2.trans b.2.symm⟩
          have re : h 53 4 = 0 → h 53 3 < x1 → AlI g x1 (h 53 3 + 1) (h 49 0) (h 49 1) := fun z y => by have a := rb z; have c := rc z; have d := (p45.2.1 a.1).2.1 (by omega); rw [c.1, c.2, a.2.1]; exact go.2.2.2 a.1 (by omega) (d.symm.trans z) (by omega)
          have r9 : h 53 4 = 0 → h 49 0 = v3 + 1 := fun z => by have c := rc z; omega
          have mm := p45.2.2.2
          clear p45 go al gc1 gc2 gc3 rb rc
          refine zW_aload_n (pc' := 49) dX6_read_1.2.1.2.2 rfl rfl ?_
          refine zG_int (pc' := 52) fg_X6_32 tb53 rfl dX6_read_1.2.2.1.1 rfl ?_
          have e49 := hF.rh 53 4
          refine zV_if_ne (tgt := 70) (pc' := 55) dX6_read_1.2.2.1.2 rfl rfl ⟨by omega, by omega⟩ (fun c52 => ?_) (fun c52 => ?_)
          · refine zW_iconst (pc' := 71) dX6_read_2.1.2.1.2 rfl ?_
            refine zW_istore_n (ls' := [_, _, _, _]) (pc' := 72) dX6_read_2.1.2.2.1 (by decide) rfl rfl rfl ?_
            refine zW_aload_n (pc' := 73) dX6_read_2.1.2.2.2 rfl rfl ?_
            refine zW_dup (pc' := 74) dX6_read_2.2.1.1.1 rfl rfl ?_
            refine zG_int (pc' := 77) fg_X6_29 tb53 rfl dX6_read_2.2.1.1.2 rfl ?_
            have e74 := hF.rh 53 3
            refine zW_iconst (pc' := 78) dX6_read_2.2.1.2.1 rfl ?_
            refine zW_iadd (pc' := 79) dX6_read_2.2.1.2.2 rfl ?_
            refine zPm (pc' := 82) hF (Or.inl rfl) (SI_irr hF.2.1 (Or.inl rfl) (fun _ _ => ⟨by omega, by omega⟩)) (KR_irr hF.2.2.1 rfl) (KC_irr hF.2.2.2 rfl) fp_X6_29 tb53 rfl dX6_read_2.2.2.1.1 rfl (fun h hF w79 => ?_)
            have t79_53_2 := congrFun (congrFun w79 53) 2
            rw [zwr_ne (Or.inr (by decide))] at t79_53_2
            have t79_53_3 := congrFun (congrFun w79 53) 3
            rw [zwr_eq] at t79_53_3
            have t79_53_4 := congrFun (congrFun w79 53) 4
            rw [zwr_ne (Or.inr (by decide))] at t79_53_4
            have t79_49_0 := congrFun (congrFun w79 49) 0
            rw [zwr_ne (Or.inl (by decide))] at t79_49_0
            have t79_49_1 := congrFun (congrFun w79 49) 1
            rw [zwr_ne (Or.inl (by decide))] at t79_49_1
            refine zW_iinc (ls' := [_, _, _, _]) (pc' := 85) dX6_read_2.2.2.1.2 rfl (by decide) rfl rfl rfl ?_
            refine zV_goto 34 dX6_read_2.2.2.2.1 rfl ?_
            exact k34 _ _ _ hF (by omega) (by omega) (by omega) (by omega) (by first | (intro z; exfalso; omega) | (intro z; rw [show h 53 3 = 0 by omega, show h 49 0 = 0 by omega, show h 49 1 = 0 by omega]; exact AlI.rf (by omega)) | (intro z; rw [t79_53_3, t79_49_0, t79_49_1]; exact re (by omega) (by omega))) (by first | omega | (intro z; have e0 : x1 = 0 := (by omega); have z1 : rdF g x1 = 0 := (if_pos e0); have z2 : rdA g x1 = 0 := (if_pos e0); omega)) (by omega)
          · refine zW_aload_n (pc' := 56) dX6_read_1.2.2.2.1 rfl rfl ?_
            refine zG_int (pc' := 59) fg_X6_29 tb53 rfl dX6_read_1.2.2.2.2 rfl ?_
            have e56 := hF.rh 53 3
            refine zW_aload_n (pc' := 60) dX6_read_2.1.1.1.1 rfl rfl ?_
            refine zG_int (pc' := 63) fg_X6_25 tb53 rfl dX6_read_2.1.1.1.2 rfl ?_
            have e60 := hF.rh 53 2
            refine zV_cm_ge (tgt := 70) (pc' := 66) dX6_read_2.1.1.2.1 rfl rfl ⟨by omega, by omega⟩ ⟨by omega, by omega⟩ (fun c63 => ?_) (fun c63 => ?_)
            · refine zW_iconst (pc' := 71) dX6_read_2.1.2.1.2 rfl ?_
              refine zW_istore_n (ls' := [_, _, _, _]) (pc' := 72) dX6_read_2.1.2.2.1 (by decide) rfl rfl rfl ?_
              refine zW_aload_n (pc' := 73) dX6_read_2.1.2.2.2 rfl rfl ?_
              refine zW_dup (pc' := 74) dX6_read_2.2.1.1.1 rfl rfl ?_
              refine zG_int (pc' := 77) fg_X6_29 tb53 rfl dX6_read_2.2.1.1.2 rfl ?_
              have e74 := hF.rh 53 3
              refine zW_iconst (pc' := 78) dX6_read_2.2.1.2.1 rfl ?_
              refine zW_iadd (pc' := 79) dX6_read_2.2.1.2.2 rfl ?_
              refine zPm (pc' := 82) hF (Or.inl rfl) (SI_irr hF.2.1 (Or.inl rfl) (fun _ _ => ⟨by omega, by omega⟩)) (KR_irr hF.2.2.1 rfl) (KC_irr hF.2.2.2 rfl) fp_X6_29 tb53 rfl dX6_read_2.2.2.1.1 rfl (fun h hF w79 => ?_)
              have t79_53_2 := congrFun (congrFun w79 53) 2
              rw [zwr_ne (Or.inr (by decide))] at t79_53_2
              have t79_53_3 := congrFun (congrFun w79 53) 3
              rw [zwr_eq] at t79_53_3
              have t79_53_4 := congrFun (congrFun w79 53) 4
              rw [zwr_ne (Or.inr (by decide))] at t79_53_4
              have t79_49_0 := congrFun (congrFun w79 49) 0
              rw [zwr_ne (Or.inl (by decide))] at t79_49_0
              have t79_49_1 := congrFun (congrFun w79 49) 1
              rw [zwr_ne (Or.inl (by decide))] at t79_49_1
              refine zW_iinc (ls' := [_, _, _, _]) (pc' := 85) dX6_read_2.2.2.1.2 rfl (by decide) rfl rfl rfl ?_
              refine zV_goto 34 dX6_read_2.2.2.2.1 rfl ?_
              exact k34 _ _ _ hF (by omega) (by omega) (by omega) (by omega) (by first | (intro z; exfalso; omega) | (intro z; rw [show h 53 3 = 0 by omega, show h 49 0 = 0 by omega, show h 49 1 = 0 by omega]; exact AlI.rf (by omega)) | (intro z; rw [t79_53_3, t79_49_0, t79_49_1]; exact re (by omega) (by omega))) (by first | omega | (intro z; have e0 : x1 = 0 := (by omega); have z1 : rdF g x1 = 0 := (if_pos e0); have z2 : rdA g x1 = 0 := (if_pos e0); omega)) (by omega)
            · refine zW_iconst (pc' := 67) dX6_read_2.1.1.2.2 rfl ?_
              refine zV_goto 71 dX6_read_2.1.2.1.1 rfl ?_
              refine zW_istore_n (ls' := [_, _, _, _]) (pc' := 72) dX6_read_2.1.2.2.1 (by decide) rfl rfl rfl ?_
              refine zW_aload_n (pc' := 73) dX6_read_2.1.2.2.2 rfl rfl ?_
              refine zW_dup (pc' := 74) dX6_read_2.2.1.1.1 rfl rfl ?_
              refine zG_int (pc' := 77) fg_X6_29 tb53 rfl dX6_read_2.2.1.1.2 rfl ?_
              have e74 := hF.rh 53 3
              refine zW_iconst (pc' := 78) dX6_read_2.2.1.2.1 rfl ?_
              refine zW_iadd (pc' := 79) dX6_read_2.2.1.2.2 rfl ?_
              refine zPm (pc' := 82) hF (Or.inl rfl) (SI_irr hF.2.1 (Or.inl rfl) (fun _ _ => ⟨by omega, by omega⟩)) (KR_irr hF.2.2.1 rfl) (KC_irr hF.2.2.2 rfl) fp_X6_29 tb53 rfl dX6_read_2.2.2.1.1 rfl (fun h hF w79 => ?_)
              have t79_53_2 := congrFun (congrFun w79 53) 2
              rw [zwr_ne (Or.inr (by decide))] at t79_53_2
              have t79_53_3 := congrFun (congrFun w79 53) 3
              rw [zwr_eq] at t79_53_3
              have t79_53_4 := congrFun (congrFun w79 53) 4
              rw [zwr_ne (Or.inr (by decide))] at t79_53_4
              have t79_49_0 := congrFun (congrFun w79 49) 0
              rw [zwr_ne (Or.inl (by decide))] at t79_49_0
              have t79_49_1 := congrFun (congrFun w79 49) 1
              rw [zwr_ne (Or.inl (by decide))] at t79_49_1
              refine zW_iinc (ls' := [_, _, _, _]) (pc' := 85) dX6_read_2.2.2.1.2 rfl (by decide) rfl rfl rfl ?_
              refine zV_goto 34 dX6_read_2.2.2.2.1 rfl ?_
              exact k34 _ _ _ hF (by omega) (by omega) (by omega) (by omega) (by first | (intro z; exfalso; omega) | (intro z; rw [show h 53 3 = 0 by omega, show h 49 0 = 0 by omega, show h 49 1 = 0 by omega]; exact AlI.rf (by omega)) | (intro z; rw [t79_53_3, t79_49_0, t79_49_1]; exact re (by omega) (by omega))) (by first | omega | (intro z; have e0 : x1 = 0 := (by omega); have z1 : rdF g x1 = 0 := (if_pos e0); have z2 : rdA g x1 = 0 := (if_pos e0); omega)) (by omega)
  refine zM_of [some (.inr (.inr 53)), some (.inl x1), none, none] 2 rfl rfl (Nat.le_of_ble_eq_true rfl) rfl ?_
  refine (show ∀ h : Hp, Fm [(53, 2), (53, 3), (53, 4), (49, 0), (49, 1), (50, 999), (51, 999), (52, 999)] κ h → h = κ → zV G mX6_read (q_X6_readP κ x1 g) 0 [some (.inr (.inr 53)), some (.inl x1), none, none] [] h from fun h hF hk0 => ?_) κ (Fm.rf hS hR hC) rfl
  refine zW_aload_n (pc' := 1) dX6_read_0.1.1.1.1 rfl rfl ?_
  refine zG_ref (pc' := 4) 49 fg_X6_12 tb53 rfl dX6_read_0.1.1.1.2 rfl ?_
  refine cvV0 (pc' := 7) kX7_clear vX7_clear lk_X6_22 ⟨Nat.le_of_ble_eq_true rfl, Nat.le_of_ble_eq_true rfl⟩ tb49 vq7 rfl rfl (s_X7_clearV49P hF.2.1 hF.2.2.1 hF.2.2.2) dX6_read_0.1.1.2.1 (Nat.le_of_ble_eq_true rfl) rfl ?_
  rintro r4 h ⟨hF1, p4⟩; replace hF := hF.tr hF1 rfl
  have t4_53_2 := hF1.1 53 2 rfl rfl
  have t4_53_3 := hF1.1 53 3 rfl rfl
  have t4_53_4 := hF1.1 53 4 rfl rfl
  refine zW_aload_n (pc' := 8) dX6_read_0.1.1.2.2 rfl rfl ?_
  refine zW_iload_n (pc' := 9) dX6_read_0.1.2.1.1 rfl rfl ?_
  refine zPm (pc' := 12) hF (Or.inl rfl) (SI_irr hF.2.1 (Or.inl rfl) (fun _ _ => ⟨by omega, by omega⟩)) (KR_irr hF.2.2.1 rfl) (KC_irr hF.2.2.2 rfl) fp_X6_25 tb53 rfl dX6_read_0.1.2.1.2 rfl (fun h hF w9 => ?_)
  have t9_53_2 := congrFun (congrFun w9 53) 2
  rw [zwr_eq] at t9_53_2
  have t9_53_3 := congrFun (congrFun w9 53) 3
  rw [zwr_ne (Or.inr (by decide))] at t9_53_3
  have t9_53_4 := congrFun (congrFun w9 53) 4
  rw [zwr_ne (Or.inr (by decide))] at t9_53_4
  have t9_49_0 := congrFun (congrFun w9 49) 0
  rw [zwr_ne (Or.inl (by decide))] at t9_49_0
  have t9_49_1 := congrFun (congrFun w9 49) 1
  rw [zwr_ne (Or.inl (by decide))] at t9_49_1
  refine zW_aload_n (pc' := 13) dX6_read_0.1.2.2.1 rfl rfl ?_
  refine zW_iconst (pc' := 14) dX6_read_0.1.2.2.2 rfl ?_
  refine zPm (pc' := 17) hF (Or.inl rfl) (SI_irr hF.2.1 (Or.inl rfl) (fun _ _ => ⟨by omega, by omega⟩)) (KR_irr hF.2.2.1 rfl) (KC_irr hF.2.2.2 rfl) fp_X6_29 tb53 rfl dX6_read_0.2.1.1.1 rfl (fun h hF w14 => ?_)
  have t14_53_2 := congrFun (congrFun w14 53) 2
  rw [zwr_ne (Or.inr (by decide))] at t14_53_2
  have t14_53_3 := congrFun (congrFun w14 53) 3
  rw [zwr_eq] at t14_53_3
  have t14_53_4 := congrFun (congrFun w14 53) 4
  rw [zwr_ne (Or.inr (by decide))] at t14_53_4
  have t14_49_0 := congrFun (congrFun w14 49) 0
  rw [zwr_ne (Or.inl (by decide))] at t14_49_0
  have t14_49_1 := congrFun (congrFun w14 49) 1
  rw [zwr_ne (Or.inl (by decide))] at t14_49_1
  refine zW_aload_n (pc' := 18) dX6_read_0.2.1.1.2 rfl rfl ?_
  refine zW_iconst (pc' := 19) dX6_read_0.2.1.2.1 rfl ?_
  refine zPm (pc' := 22) hF (Or.inl rfl) (SI_irr hF.2.1 (Or.inl rfl) (fun _ _ => ⟨by omega, by omega⟩)) (KR_irr hF.2.2.1 rfl) (KC_irr hF.2.2.2 rfl) fp_X6_32 tb53 rfl dX6_read_0.2.1.2.2 rfl (fun h hF w19 => ?_)
  have t19_53_2 := congrFun (congrFun w19 53) 2
  rw [zwr_ne (Or.inr (by decide))] at t19_53_2
  have t19_53_3 := congrFun (congrFun w19 53) 3
  rw [zwr_ne (Or.inr (by decide))] at t19_53_3
  have t19_53_4 := congrFun (congrFun w19 53) 4
  rw [zwr_eq] at t19_53_4
  have t19_49_0 := congrFun (congrFun w19 49) 0
  rw [zwr_ne (Or.inl (by decide))] at t19_49_0
  have t19_49_1 := congrFun (congrFun w19 49) 1
  rw [zwr_ne (Or.inl (by decide))] at t19_49_1
  refine zW_iload_n (pc' := 23) dX6_read_0.2.2.1.1 rfl rfl ?_
  refine zV_if_le (tgt := 30) (pc' := 26) dX6_read_0.2.2.1.2 rfl rfl ⟨by omega, by omega⟩ (fun c23 => ?_) (fun c23 => ?_)
  · refine zW_iconst (pc' := 31) dX6_read_1.1.1.1.1 rfl ?_
    refine zW_istore_n (ls' := [_, _, _, _]) (pc' := 32) dX6_read_1.1.1.1.2 (by decide) rfl rfl rfl ?_
    refine zW_iconst (pc' := 33) dX6_read_1.1.1.2.1 rfl ?_
    refine zW_istore_n (ls' := [_, _, _, _]) (pc' := 34) dX6_read_1.1.1.2.2 (by decide) rfl rfl rfl ?_
    exact (main 10000000000000000000000000000000000000000) _ _ _ hF (by omega) (by omega) (by omega) (by omega) (by first | (intro z; exfalso; omega) | (intro z; rw [show h 53 3 = 0 by omega, show h 49 0 = 0 by omega, show h 49 1 = 0 by omega]; exact AlI.rf (by omega)) | (intro z; rw [t79_53_3, t79_49_0, t79_49_1]; exact re (by omega) (by omega))) (by first | omega | (intro z; have e0 : x1 = 0 := (by omega); have z1 : rdF g x1 = 0 := (if_pos e0); have z2 : rdA g x1 = 0 := (if_pos e0); omega)) (by omega)
  · refine zW_iconst (pc' := 27) dX6_read_0.2.2.2.1 rfl ?_
    refine zV_goto 31 dX6_read_0.2.2.2.2 rfl ?_
    refine zW_istore_n (ls' := [_, _, _, _]) (pc' := 32) dX6_read_1.1.1.1.2 (by decide) rfl rfl rfl ?_
    refine zW_iconst (pc' := 33) dX6_read_1.1.1.2.1 rfl ?_
    refine zW_istore_n (ls' := [_, _, _, _]) (pc' := 34) dX6_read_1.1.1.2.2 (by decide) rfl rfl rfl ?_
    exact (main 10000000000000000000000000000000000000000) _ _ _ hF (by omega) (by omega) (by omega) (by omega) (by first | (intro z; exfalso; omega) | (intro z; rw [show h 53 3 = 0 by omega, show h 49 0 = 0 by omega, show h 49 1 = 0 by omega]; exact AlI.rf (by omega)) | (intro z; rw [t79_53_3, t79_49_0, t79_49_1]; exact re (by omega) (by omega))) (by first | omega | (intro z; have e0 : x1 = 0 := (by omega); have z1 : rdF g x1 = 0 := (if_pos e0); have z2 : rdA g x1 = 0 := (if_pos e0); omega)) (by omega)

abbrev q_X7_copyFromV41_49P (κ : Hp)  : Int → Hp → Prop := fun r h' => Fm [(41, 0), (41, 1), (42, 999), (43, 999), (44, 999)] κ h' ∧ ((h' 41 0 = κ 49 0 ∧ h' 41 1 = κ 49 1))
set_option maxHeartbeats 4000000 in
set_option maxRecDepth 20000 in
theorem s_X7_copyFromV41_49P {G : Ga} {κ : Hp} (hS : SI κ) (hR : KR κ) (hC : KC κ)  : zM G mX7_copyFrom yX7_copyFrom [.inr (.inr 41), .inr (.inr 49)] κ (q_X7_copyFromV41_49P κ) := by
  have f_41_0 := KCm hC
  have f_41_1 := KCf hC
  have f_45_0 := KCr0 hC
  have f_45_1 := KCr1 hC
  have f_49_0 := KCd0 hC
  have f_49_1 := KCd1 hC
  refine zM_of [some (.inr (.inr 41)), some (.inr (.inr 49))] 0 rfl rfl (Nat.le_of_ble_eq_true rfl) rfl ?_
  refine (show ∀ h : Hp, Fm [(41, 0), (41, 1), (42, 999), (43, 999), (44, 999)] κ h → h = κ → zV G mX7_copyFrom (q_X7_copyFromV41_49P κ) 0 [some (.inr (.inr 41)), some (.inr (.inr 49))] [] h from fun h hF hk0 => ?_) κ (Fm.rf hS hR hC) rfl
  refine zW_aload_n (pc' := 1) dX7_copyFrom_0.1.1.1.1 rfl rfl ?_
  refine zW_aload_n (pc' := 2) dX7_copyFrom_0.1.1.1.2 rfl rfl ?_
  refine zGm (pc' := 5) hF rfl rfl fg_X7_21 tb49 rfl dX7_copyFrom_0.1.1.2.1 rfl ?_
  refine zPm (pc' := 8) hF (Or.inl rfl) (SI_irr hF.2.1 (Or.inl rfl) (fun _ _ => ⟨by omega, by omega⟩)) (KR_irr hF.2.2.1 rfl) (KC_41_0 hF.2.2.2 (by omega)) fp_X7_21 tb41 rfl dX7_copyFrom_0.1.1.2.2 rfl (fun h hF w5 => ?_)
  have t5_41_0 := congrFun (congrFun w5 41) 0
  rw [zwr_eq] at t5_41_0
  have t5_41_1 := congrFun (congrFun w5 41) 1
  rw [zwr_ne (Or.inr (by decide))] at t5_41_1
  have t5_49_0 := congrFun (congrFun w5 49) 0
  rw [zwr_ne (Or.inl (by decide))] at t5_49_0
  have t5_49_1 := congrFun (congrFun w5 49) 1
  rw [zwr_ne (Or.inl (by decide))] at t5_49_1
  refine zW_aload_n (pc' := 9) dX7_copyFrom_0.1.2.1.1 rfl rfl ?_
  refine zW_aload_n (pc' := 10) dX7_copyFrom_0.1.2.1.2 rfl rfl ?_
  refine zGm (pc' := 13) hF rfl rfl fg_X7_25 tb49 rfl dX7_copyFrom_0.1.2.2.1 rfl ?_
  refine zPm (pc' := 16) hF (Or.inl rfl) (SI_irr hF.2.1 (Or.inl rfl) (fun _ _ => ⟨by omega, by omega⟩)) (KR_irr hF.2.2.1 rfl) (KC_41_1 hF.2.2.2 (by omega)) fp_X7_25 tb41 rfl dX7_copyFrom_0.1.2.2.2 rfl (fun h hF w13 => ?_)
  have t13_41_0 := congrFun (congrFun w13 41) 0
  rw [zwr_ne (Or.inr (by decide))] at t13_41_0
  have t13_41_1 := congrFun (congrFun w13 41) 1
  rw [zwr_eq] at t13_41_1
  have t13_49_0 := congrFun (congrFun w13 49) 0
  rw [zwr_ne (Or.inl (by decide))] at t13_49_0
  have t13_49_1 := congrFun (congrFun w13 49) 1
  rw [zwr_ne (Or.inl (by decide))] at t13_49_1
  refine zW_aload_n (pc' := 17) dX7_copyFrom_0.2.1.1.1 rfl rfl ?_
  refine zG_ref (pc' := 20) 50 fg_X7_9 tb49 rfl dX7_copyFrom_0.2.1.1.2 rfl ?_
  refine zW_iconst (pc' := 21) dX7_copyFrom_0.2.1.2.1 rfl ?_
  refine zW_aload_n (pc' := 22) dX7_copyFrom_0.2.1.2.2 rfl rfl ?_
  refine zG_ref (pc' := 25) 42 fg_X7_9 tb41 rfl dX7_copyFrom_0.2.2.1.1 rfl ?_
  refine zW_iconst (pc' := 26) dX7_copyFrom_0.2.2.1.2 rfl ?_
  refine zW_aload_n (pc' := 27) dX7_copyFrom_0.2.2.2.1 rfl rfl ?_
  refine zG_ref (pc' := 30) 42 fg_X7_9 tb41 rfl dX7_copyFrom_0.2.2.2.2 rfl ?_
  refine zV_alen (pc' := 31) tb42 (by decide) dX7_copyFrom_1.1.1.1.1 rfl ?_
  refine zV_acopy (pc' := 34) tb50 tb42 (by omega) (by omega) (by omega) (by omega) (by decide) (by decide) ka_X7_28 (Nat.le_of_ble_eq_true rfl) (Nat.le_of_ble_eq_true rfl) dX7_copyFrom_1.1.1.1.2 rfl ?_
  have hz31 := hF.zc (a := 50) (c := 42) (d := 0) (n := 14) rfl rfl (by decide) (by decide) (KC_zc hF.2.2.2 rfl)
  refine (show ∀ h1 : Hp, Fm [(41, 0), (41, 1), (42, 999), (43, 999), (44, 999)] κ h1 → h1 = zcp h 50 42 0 14 → zV _ _ _ _ _ _ h1 from fun h hF w31 => ?_) _ hz31 rfl
  have t31_41_0 := congrFun (congrFun w31 41) 0
  rw [zcp_ne (by decide)] at t31_41_0
  have t31_41_1 := congrFun (congrFun w31 41) 1
  rw [zcp_ne (by decide)] at t31_41_1
  have t31_49_0 := congrFun (congrFun w31 49) 0
  rw [zcp_ne (by decide)] at t31_49_0
  have t31_49_1 := congrFun (congrFun w31 49) 1
  rw [zcp_ne (by decide)] at t31_49_1
  refine zW_aload_n (pc' := 35) dX7_copyFrom_1.1.1.2.1 rfl rfl ?_
  refine zG_ref (pc' := 38) 51 fg_X7_15 tb49 rfl dX7_copyFrom_1.1.1.2.2 rfl ?_
  refine zW_iconst (pc' := 39) dX7_copyFrom_1.1.2.1.1 rfl ?_
  refine zW_aload_n (pc' := 40) dX7_copyFrom_1.1.2.1.2 rfl rfl ?_
  refine zG_ref (pc' := 43) 43 fg_X7_15 tb41 rfl dX7_copyFrom_1.1.2.2.1 rfl ?_
  refine zW_iconst (pc' := 44) dX7_copyFrom_1.1.2.2.2 rfl ?_
  refine zW_aload_n (pc' := 45) dX7_copyFrom_1.2.1.1.1 rfl rfl ?_
  refine zG_ref (pc' := 48) 43 fg_X7_15 tb41 rfl dX7_copyFrom_1.2.1.1.2 rfl ?_
  refine zV_alen (pc' := 49) tb43 (by decide) dX7_copyFrom_1.2.1.2.1 rfl ?_
  refine zV_acopy (pc' := 52) tb51 tb43 (by omega) (by omega) (by omega) (by omega) (by decide) (by decide) ka_X7_28 (Nat.le_of_ble_eq_true rfl) (Nat.le_of_ble_eq_true rfl) dX7_copyFrom_1.2.1.2.2 rfl ?_
  have hz49 := hF.zc (a := 51) (c := 43) (d := 0) (n := 14) rfl rfl (by decide) (by decide) (KC_z43 hF.2.2.2 hF.2.2.2.2.2.2.2.2.2.2.2.2)
  refine (show ∀ h1 : Hp, Fm [(41, 0), (41, 1), (42, 999), (43, 999), (44, 999)] κ h1 → h1 = zcp h 51 43 0 14 → zV _ _ _ _ _ _ h1 from fun h hF w49 => ?_) _ hz49 rfl
  have t49_41_0 := congrFun (congrFun w49 41) 0
  rw [zcp_ne (by decide)] at t49_41_0
  have t49_41_1 := congrFun (congrFun w49 41) 1
  rw [zcp_ne (by decide)] at t49_41_1
  have t49_49_0 := congrFun (congrFun w49 49) 0
  rw [zcp_ne (by decide)] at t49_49_0
  have t49_49_1 := congrFun (congrFun w49 49) 1
  rw [zcp_ne (by decide)] at t49_49_1
  refine zW_aload_n (pc' := 53) dX7_copyFrom_1.2.2.1.1 rfl rfl ?_
  refine zG_ref (pc' := 56) 52 fg_X7_18 tb49 rfl dX7_copyFrom_1.2.2.1.2 rfl ?_
  refine zW_iconst (pc' := 57) dX7_copyFrom_1.2.2.2.1 rfl ?_
  refine zW_aload_n (pc' := 58) dX7_copyFrom_1.2.2.2.2 rfl rfl ?_
  refine zG_ref (pc' := 61) 44 fg_X7_18 tb41 rfl dX7_copyFrom_2.1.1.1 rfl ?_
  refine zW_iconst (pc' := 62) dX7_copyFrom_2.1.1.2 rfl ?_
  refine zW_aload_n (pc' := 63) dX7_copyFrom_2.1.2.1 rfl rfl ?_
  refine zG_ref (pc' := 66) 44 fg_X7_18 tb41 rfl dX7_copyFrom_2.1.2.2 rfl ?_
  refine zV_alen (pc' := 67) tb44 (by decide) dX7_copyFrom_2.2.1.1 rfl ?_
  refine zV_acopy (pc' := 70) tb52 tb44 (by omega) (by omega) (by omega) (by omega) (by decide) (by decide) ka_X7_28 (Nat.le_of_ble_eq_true rfl) (Nat.le_of_ble_eq_true rfl) dX7_copyFrom_2.2.1.2 rfl ?_
  have hz67 := hF.zc (a := 52) (c := 44) (d := 0) (n := 64) rfl rfl (by decide) (by decide) (KC_zc hF.2.2.2 rfl)
  refine (show ∀ h1 : Hp, Fm [(41, 0), (41, 1), (42, 999), (43, 999), (44, 999)] κ h1 → h1 = zcp h 52 44 0 64 → zV _ _ _ _ _ _ h1 from fun h hF w67 => ?_) _ hz67 rfl
  have t67_41_0 := congrFun (congrFun w67 41) 0
  rw [zcp_ne (by decide)] at t67_41_0
  have t67_41_1 := congrFun (congrFun w67 41) 1
  rw [zcp_ne (by decide)] at t67_41_1
  have t67_49_0 := congrFun (congrFun w67 49) 0
  rw [zcp_ne (by decide)] at t67_49_0
  have t67_49_1 := congrFun (congrFun w67 49) 1
  rw [zcp_ne (by decide)] at t67_49_1
  exact zV_vret rfl dX7_copyFrom_2.2.2 ⟨hF, by omega⟩

abbrev q_X7_copyFromV45_41P (κ : Hp)  : Int → Hp → Prop := fun r h' => Fm [(45, 0), (45, 1), (46, 999), (47, 999), (48, 999)] κ h' ∧ ((h' 45 0 = κ 41 0 ∧ h' 45 1 = κ 41 1))
set_option maxHeartbeats 4000000 in
set_option maxRecDepth 20000 in
theorem s_X7_copyFromV45_41P {G : Ga} {κ : Hp} (hS : SI κ) (hR : KR κ) (hC : KC κ)  : zM G mX7_copyFrom yX7_copyFrom [.inr (.inr 45), .inr (.inr 41)] κ (q_X7_copyFromV45_41P κ) := by
  have f_41_0 := KCm hC
  have f_41_1 := KCf hC
  have f_45_0 := KCr0 hC
  have f_45_1 := KCr1 hC
  have f_49_0 := KCd0 hC
  have f_49_1 := KCd1 hC
  refine zM_of [some (.inr (.inr 45)), some (.inr (.inr 41))] 0 rfl rfl (Nat.le_of_ble_eq_true rfl) rfl ?_
  refine (show ∀ h : Hp, Fm [(45, 0), (45, 1), (46, 999), (47, 999), (48, 999)] κ h → h = κ → zV G mX7_copyFrom (q_X7_copyFromV45_41P κ) 0 [some (.inr (.inr 45)), some (.inr (.inr 41))] [] h from fun h hF hk0 => ?_) κ (Fm.rf hS hR hC) rfl
  refine zW_aload_n (pc' := 1) dX7_copyFrom_0.1.1.1.1 rfl rfl ?_
  refine zW_aload_n (pc' := 2) dX7_copyFrom_0.1.1.1.2 rfl rfl ?_
  refine zGm (pc' := 5) hF rfl rfl fg_X7_21 tb41 rfl dX7_copyFrom_0.1.1.2.1 rfl ?_
  refine zPm (pc' := 8) hF (Or.inl rfl) (SI_irr hF.2.1 (Or.inl rfl) (fun _ _ => ⟨by omega, by omega⟩)) (KR_irr hF.2.2.1 rfl) (KC_45_0 hF.2.2.2 (by omega)) fp_X7_21 tb45 rfl dX7_copyFrom_0.1.1.2.2 rfl (fun h hF w5 => ?_)
  have t5_45_0 := congrFun (congrFun w5 45) 0
  rw [zwr_eq] at t5_45_0
  have t5_45_1 := congrFun (congrFun w5 45) 1
  rw [zwr_ne (Or.inr (by decide))] at t5_45_1
  have t5_41_0 := congrFun (congrFun w5 41) 0
  rw [zwr_ne (Or.inl (by decide))] at t5_41_0
  have t5_41_1 := congrFun (congrFun w5 41) 1
  rw [zwr_ne (Or.inl (by decide))] at t5_41_1
  refine zW_aload_n (pc' := 9) dX7_copyFrom_0.1.2.1.1 rfl rfl ?_
  refine zW_aload_n (pc' := 10) dX7_copyFrom_0.1.2.1.2 rfl rfl ?_
  refine zGm (pc' := 13) hF rfl rfl fg_X7_25 tb41 rfl dX7_copyFrom_0.1.2.2.1 rfl ?_
  refine zPm (pc' := 16) hF (Or.inl rfl) (SI_irr hF.2.1 (Or.inl rfl) (fun _ _ => ⟨by omega, by omega⟩)) (KR_irr hF.2.2.1 rfl) (KC_45_1 hF.2.2.2 (by omega)) fp_X7_25 tb45 rfl dX7_copyFrom_0.1.2.2.2 rfl (fun h hF w13 => ?_)
  have t13_45_0 := congrFun (congrFun w13 45) 0
  rw [zwr_ne (Or.inr (by decide))] at t13_45_0
  have t13_45_1 := congrFun (congrFun w13 45) 1
  rw [zwr_eq] at t13_45_1
  have t13_41_0 := congrFun (congrFun w13 41) 0
  rw [zwr_ne (Or.inl (by decide))] at t13_41_0
  have t13_41_1 := congrFun (congrFun w13 41) 1
  rw [zwr_ne (Or.inl (by decide))] at t13_41_1
  refine zW_aload_n (pc' := 17) dX7_copyFrom_0.2.1.1.1 rfl rfl ?_
  refine zG_ref (pc' := 20) 42 fg_X7_9 tb41 rfl dX7_copyFrom_0.2.1.1.2 rfl ?_
  refine zW_iconst (pc' := 21) dX7_copyFrom_0.2.1.2.1 rfl ?_
  refine zW_aload_n (pc' := 22) dX7_copyFrom_0.2.1.2.2 rfl rfl ?_
  refine zG_ref (pc' := 25) 46 fg_X7_9 tb45 rfl dX7_copyFrom_0.2.2.1.1 rfl ?_
  refine zW_iconst (pc' := 26) dX7_copyFrom_0.2.2.1.2 rfl ?_
  refine zW_aload_n (pc' := 27) dX7_copyFrom_0.2.2.2.1 rfl rfl ?_
  refine zG_ref (pc' := 30) 46 fg_X7_9 tb45 rfl dX7_copyFrom_0.2.2.2.2 rfl ?_
  refine zV_alen (pc' := 31) tb46 (by decide) dX7_copyFrom_1.1.1.1.1 rfl ?_
  refine zV_acopy (pc' := 34) tb42 tb46 (by omega) (by omega) (by omega) (by omega) (by decide) (by decide) ka_X7_28 (Nat.le_of_ble_eq_true rfl) (Nat.le_of_ble_eq_true rfl) dX7_copyFrom_1.1.1.1.2 rfl ?_
  have hz31 := hF.zc (a := 42) (c := 46) (d := 0) (n := 14) rfl rfl (by decide) (by decide) (KC_zc hF.2.2.2 rfl)
  refine (show ∀ h1 : Hp, Fm [(45, 0), (45, 1), (46, 999), (47, 999), (48, 999)] κ h1 → h1 = zcp h 42 46 0 14 → zV _ _ _ _ _ _ h1 from fun h hF w31 => ?_) _ hz31 rfl
  have t31_45_0 := congrFun (congrFun w31 45) 0
  rw [zcp_ne (by decide)] at t31_45_0
  have t31_45_1 := congrFun (congrFun w31 45) 1
  rw [zcp_ne (by decide)] at t31_45_1
  have t31_41_0 := congrFun (congrFun w31 41) 0
  rw [zcp_ne (by decide)] at t31_41_0
  have t31_41_1 := congrFun (congrFun w31 41) 1
  rw [zcp_ne (by decide)] at t31_41_1
  refine zW_aload_n (pc' := 35) dX7_copyFrom_1.1.1.2.1 rfl rfl ?_
  refine zG_ref (pc' := 38) 43 fg_X7_15 tb41 rfl dX7_copyFrom_1.1.1.2.2 rfl ?_
  refine zW_iconst (pc' := 39) dX7_copyFrom_1.1.2.1.1 rfl ?_
  refine zW_aload_n (pc' := 40) dX7_copyFrom_1.1.2.1.2 rfl rfl ?_
  refine zG_ref (pc' := 43) 47 fg_X7_15 tb45 rfl dX7_copyFrom_1.1.2.2.1 rfl ?_
  refine zW_iconst (pc' := 44) dX7_copyFrom_1.1.2.2.2 rfl ?_
  refine zW_aload_n (pc' := 45) dX7_copyFrom_1.2.1.1.1 rfl rfl ?_
  refine zG_ref (pc' := 48) 47 fg_X7_15 tb45 rfl dX7_copyFrom_1.2.1.1.2 rfl ?_
  refine zV_alen (pc' := 49) tb47 (by decide) dX7_copyFrom_1.2.1.2.1 rfl ?_
  refine zV_acopy (pc' := 52) tb43 tb47 (by omega) (by omega) (by omega) (by omega) (by decide) (by decide) ka_X7_28 (Nat.le_of_ble_eq_true rfl) (Nat.le_of_ble_eq_true rfl) dX7_copyFrom_1.2.1.2.2 rfl ?_
  have hz49 := hF.zc (a := 43) (c := 47) (d := 0) (n := 14) rfl rfl (by decide) (by decide) (KC_z47 hF.2.2.2 hF.2.2.2.2.2.1.2.2)
  refine (show ∀ h1 : Hp, Fm [(45, 0), (45, 1), (46, 999), (47, 999), (48, 999)] κ h1 → h1 = zcp h 43 47 0 14 → zV _ _ _ _ _ _ h1 from fun h hF w49 => ?_) _ hz49 rfl
  have t49_45_0 := congrFun (congrFun w49 45) 0
  rw [zcp_ne (by decide)] at t49_45_0
  have t49_45_1 := congrFun (congrFun w49 45) 1
  rw [zcp_ne (by decide)] at t49_45_1
  have t49_41_0 := congrFun (congrFun w49 41) 0
  rw [zcp_ne (by decide)] at t49_41_0
  have t49_41_1 := congrFun (congrFun w49 41) 1
  rw [zcp_ne (by decide)] at t49_41_1
  refine zW_aload_n (pc' := 53) dX7_copyFrom_1.2.2.1.1 rfl rfl ?_
  refine zG_ref (pc' := 56) 44 fg_X7_18 tb41 rfl dX7_copyFrom_1.2.2.1.2 rfl ?_
  refine zW_iconst (pc' := 57) dX7_copyFrom_1.2.2.2.1 rfl ?_
  refine zW_aload_n (pc' := 58) dX7_copyFrom_1.2.2.2.2 rfl rfl ?_
  refine zG_ref (pc' := 61) 48 fg_X7_18 tb45 rfl dX7_copyFrom_2.1.1.1 rfl ?_
  refine zW_iconst (pc' := 62) dX7_copyFrom_2.1.1.2 rfl ?_
  refine zW_aload_n (pc' := 63) dX7_copyFrom_2.1.2.1 rfl rfl ?_
  refine zG_ref (pc' := 66) 48 fg_X7_18 tb45 rfl dX7_copyFrom_2.1.2.2 rfl ?_
  refine zV_alen (pc' := 67) tb48 (by decide) dX7_copyFrom_2.2.1.1 rfl ?_
  refine zV_acopy (pc' := 70) tb44 tb48 (by omega) (by omega) (by omega) (by omega) (by decide) (by decide) ka_X7_28 (Nat.le_of_ble_eq_true rfl) (Nat.le_of_ble_eq_true rfl) dX7_copyFrom_2.2.1.2 rfl ?_
  have hz67 := hF.zc (a := 44) (c := 48) (d := 0) (n := 64) rfl rfl (by decide) (by decide) (KC_zc hF.2.2.2 rfl)
  refine (show ∀ h1 : Hp, Fm [(45, 0), (45, 1), (46, 999), (47, 999), (48, 999)] κ h1 → h1 = zcp h 44 48 0 64 → zV _ _ _ _ _ _ h1 from fun h hF w67 => ?_) _ hz67 rfl
  have t67_45_0 := congrFun (congrFun w67 45) 0
  rw [zcp_ne (by decide)] at t67_45_0
  have t67_45_1 := congrFun (congrFun w67 45) 1
  rw [zcp_ne (by decide)] at t67_45_1
  have t67_41_0 := congrFun (congrFun w67 41) 0
  rw [zcp_ne (by decide)] at t67_41_0
  have t67_41_1 := congrFun (congrFun w67 41) 1
  rw [zcp_ne (by decide)] at t67_41_1
  exact zV_vret rfl dX7_copyFrom_2.2.2 ⟨hF, by omega⟩

abbrev q_X7_copyFromV41_45P (κ : Hp)  : Int → Hp → Prop := fun r h' => Fm [(41, 0), (41, 1), (42, 999), (43, 999), (44, 999)] κ h' ∧ ((h' 41 0 = κ 45 0 ∧ h' 41 1 = κ 45 1))
set_option maxHeartbeats 4000000 in
set_option maxRecDepth 20000 in
theorem s_X7_copyFromV41_45P {G : Ga} {κ : Hp} (hS : SI κ) (hR : KR κ) (hC : KC κ)  : zM G mX7_copyFrom yX7_copyFrom [.inr (.inr 41), .inr (.inr 45)] κ (q_X7_copyFromV41_45P κ) := by
  have f_41_0 := KCm hC
  have f_41_1 := KCf hC
  have f_45_0 := KCr0 hC
  have f_45_1 := KCr1 hC
  have f_49_0 := KCd0 hC
  have f_49_1 := KCd1 hC
  refine zM_of [some (.inr (.inr 41)), some (.inr (.inr 45))] 0 rfl rfl (Nat.le_of_ble_eq_true rfl) rfl ?_
  refine (show ∀ h : Hp, Fm [(41, 0), (41, 1), (42, 999), (43, 999), (44, 999)] κ h → h = κ → zV G mX7_copyFrom (q_X7_copyFromV41_45P κ) 0 [some (.inr (.inr 41)), some (.inr (.inr 45))] [] h from fun h hF hk0 => ?_) κ (Fm.rf hS hR hC) rfl
  refine zW_aload_n (pc' := 1) dX7_copyFrom_0.1.1.1.1 rfl rfl ?_
  refine zW_aload_n (pc' := 2) dX7_copyFrom_0.1.1.1.2 rfl rfl ?_
  refine zGm (pc' := 5) hF rfl rfl fg_X7_21 tb45 rfl dX7_copyFrom_0.1.1.2.1 rfl ?_
  refine zPm (pc' := 8) hF (Or.inl rfl) (SI_irr hF.2.1 (Or.inl rfl) (fun _ _ => ⟨by omega, by omega⟩)) (KR_irr hF.2.2.1 rfl) (KC_41_0 hF.2.2.2 (by omega)) fp_X7_21 tb41 rfl dX7_copyFrom_0.1.1.2.2 rfl (fun h hF w5 => ?_)
  have t5_41_0 := congrFun (congrFun w5 41) 0
  rw [zwr_eq] at t5_41_0
  have t5_41_1 := congrFun (congrFun w5 41) 1
  rw [zwr_ne (Or.inr (by decide))] at t5_41_1
  have t5_45_0 := congrFun (congrFun w5 45) 0
  rw [zwr_ne (Or.inl (by decide))] at t5_45_0
  have t5_45_1 := congrFun (congrFun w5 45) 1
  rw [zwr_ne (Or.inl (by decide))] at t5_45_1
  refine zW_aload_n (pc' := 9) dX7_copyFrom_0.1.2.1.1 rfl rfl ?_
  refine zW_aload_n (pc' := 10) dX7_copyFrom_0.1.2.1.2 rfl rfl ?_
  refine zGm (pc' := 13) hF rfl rfl fg_X7_25 tb45 rfl dX7_copyFrom_0.1.2.2.1 rfl ?_
  refine zPm (pc' := 16) hF (Or.inl rfl) (SI_irr hF.2.1 (Or.inl rfl) (fun _ _ => ⟨by omega, by omega⟩)) (KR_irr hF.2.2.1 rfl) (KC_41_1 hF.2.2.2 (by omega)) fp_X7_25 tb41 rfl dX7_copyFrom_0.1.2.2.2 rfl (fun h hF w13 => ?_)
  have t13_41_0 := congrFun (congrFun w13 41) 0
  rw [zwr_ne (Or.inr (by decide))] at t13_41_0
  have t13_41_1 := congrFun (congrFun w13 41) 1
  rw [zwr_eq] at t13_41_1
  have t13_45_0 := congrFun (congrFun w13 45) 0
  rw [zwr_ne (Or.inl (by decide))] at t13_45_0
  have t13_45_1 := congrFun (congrFun w13 45) 1
  rw [zwr_ne (Or.inl (by decide))] at t13_45_1
  refine zW_aload_n (pc' := 17) dX7_copyFrom_0.2.1.1.1 rfl rfl ?_
  refine zG_ref (pc' := 20) 46 fg_X7_9 tb45 rfl dX7_copyFrom_0.2.1.1.2 rfl ?_
  refine zW_iconst (pc' := 21) dX7_copyFrom_0.2.1.2.1 rfl ?_
  refine zW_aload_n (pc' := 22) dX7_copyFrom_0.2.1.2.2 rfl rfl ?_
  refine zG_ref (pc' := 25) 42 fg_X7_9 tb41 rfl dX7_copyFrom_0.2.2.1.1 rfl ?_
  refine zW_iconst (pc' := 26) dX7_copyFrom_0.2.2.1.2 rfl ?_
  refine zW_aload_n (pc' := 27) dX7_copyFrom_0.2.2.2.1 rfl rfl ?_
  refine zG_ref (pc' := 30) 42 fg_X7_9 tb41 rfl dX7_copyFrom_0.2.2.2.2 rfl ?_
  refine zV_alen (pc' := 31) tb42 (by decide) dX7_copyFrom_1.1.1.1.1 rfl ?_
  refine zV_acopy (pc' := 34) tb46 tb42 (by omega) (by omega) (by omega) (by omega) (by decide) (by decide) ka_X7_28 (Nat.le_of_ble_eq_true rfl) (Nat.le_of_ble_eq_true rfl) dX7_copyFrom_1.1.1.1.2 rfl ?_
  have hz31 := hF.zc (a := 46) (c := 42) (d := 0) (n := 14) rfl rfl (by decide) (by decide) (KC_zc hF.2.2.2 rfl)
  refine (show ∀ h1 : Hp, Fm [(41, 0), (41, 1), (42, 999), (43, 999), (44, 999)] κ h1 → h1 = zcp h 46 42 0 14 → zV _ _ _ _ _ _ h1 from fun h hF w31 => ?_) _ hz31 rfl
  have t31_41_0 := congrFun (congrFun w31 41) 0
  rw [zcp_ne (by decide)] at t31_41_0
  have t31_41_1 := congrFun (congrFun w31 41) 1
  rw [zcp_ne (by decide)] at t31_41_1
  have t31_45_0 := congrFun (congrFun w31 45) 0
  rw [zcp_ne (by decide)] at t31_45_0
  have t31_45_1 := congrFun (congrFun w31 45) 1
  rw [zcp_ne (by decide)] at t31_45_1
  refine zW_aload_n (pc' := 35) dX7_copyFrom_1.1.1.2.1 rfl rfl ?_
  refine zG_ref (pc' := 38) 47 fg_X7_15 tb45 rfl dX7_copyFrom_1.1.1.2.2 rfl ?_
  refine zW_iconst (pc' := 39) dX7_copyFrom_1.1.2.1.1 rfl ?_
  refine zW_aload_n (pc' := 40) dX7_copyFrom_1.1.2.1.2 rfl rfl ?_
  refine zG_ref (pc' := 43) 43 fg_X7_15 tb41 rfl dX7_copyFrom_1.1.2.2.1 rfl ?_
  refine zW_iconst (pc' := 44) dX7_copyFrom_1.1.2.2.2 rfl ?_
  refine zW_aload_n (pc' := 45) dX7_copyFrom_1.2.1.1.1 rfl rfl ?_
  refine zG_ref (pc' := 48) 43 fg_X7_15 tb41 rfl dX7_copyFrom_1.2.1.1.2 rfl ?_
  refine zV_alen (pc' := 49) tb43 (by decide) dX7_copyFrom_1.2.1.2.1 rfl ?_
  refine zV_acopy (pc' := 52) tb47 tb43 (by omega) (by omega) (by omega) (by omega) (by decide) (by decide) ka_X7_28 (Nat.le_of_ble_eq_true rfl) (Nat.le_of_ble_eq_true rfl) dX7_copyFrom_1.2.1.2.2 rfl ?_
  have hz49 := hF.zc (a := 47) (c := 43) (d := 0) (n := 14) rfl rfl (by decide) (by decide) (KC_z43 hF.2.2.2 hF.2.2.2.2.2.2.1.2.2)
  refine (show ∀ h1 : Hp, Fm [(41, 0), (41, 1), (42, 999), (43, 999), (44, 999)] κ h1 → h1 = zcp h 47 43 0 14 → zV _ _ _ _ _ _ h1 from fun h hF w49 => ?_) _ hz49 rfl
  have t49_41_0 := congrFun (congrFun w49 41) 0
  rw [zcp_ne (by decide)] at t49_41_0
  have t49_41_1 := congrFun (congrFun w49 41) 1
  rw [zcp_ne (by decide)] at t49_41_1
  have t49_45_0 := congrFun (congrFun w49 45) 0
  rw [zcp_ne (by decide)] at t49_45_0
  have t49_45_1 := congrFun (congrFun w49 45) 1
  rw [zcp_ne (by decide)] at t49_45_1
  refine zW_aload_n (pc' := 53) dX7_copyFrom_1.2.2.1.1 rfl rfl ?_
  refine zG_ref (pc' := 56) 48 fg_X7_18 tb45 rfl dX7_copyFrom_1.2.2.1.2 rfl ?_
  refine zW_iconst (pc' := 57) dX7_copyFrom_1.2.2.2.1 rfl ?_
  refine zW_aload_n (pc' := 58) dX7_copyFrom_1.2.2.2.2 rfl rfl ?_
  refine zG_ref (pc' := 61) 44 fg_X7_18 tb41 rfl dX7_copyFrom_2.1.1.1 rfl ?_
  refine zW_iconst (pc' := 62) dX7_copyFrom_2.1.1.2 rfl ?_
  refine zW_aload_n (pc' := 63) dX7_copyFrom_2.1.2.1 rfl rfl ?_
  refine zG_ref (pc' := 66) 44 fg_X7_18 tb41 rfl dX7_copyFrom_2.1.2.2 rfl ?_
  refine zV_alen (pc' := 67) tb44 (by decide) dX7_copyFrom_2.2.1.1 rfl ?_
  refine zV_acopy (pc' := 70) tb48 tb44 (by omega) (by omega) (by omega) (by omega) (by decide) (by decide) ka_X7_28 (Nat.le_of_ble_eq_true rfl) (Nat.le_of_ble_eq_true rfl) dX7_copyFrom_2.2.1.2 rfl ?_
  have hz67 := hF.zc (a := 48) (c := 44) (d := 0) (n := 64) rfl rfl (by decide) (by decide) (KC_zc hF.2.2.2 rfl)
  refine (show ∀ h1 : Hp, Fm [(41, 0), (41, 1), (42, 999), (43, 999), (44, 999)] κ h1 → h1 = zcp h 48 44 0 64 → zV _ _ _ _ _ _ h1 from fun h hF w67 => ?_) _ hz67 rfl
  have t67_41_0 := congrFun (congrFun w67 41) 0
  rw [zcp_ne (by decide)] at t67_41_0
  have t67_41_1 := congrFun (congrFun w67 41) 1
  rw [zcp_ne (by decide)] at t67_41_1
  have t67_45_0 := congrFun (congrFun w67 45) 0
  rw [zcp_ne (by decide)] at t67_45_0
  have t67_45_1 := congrFun (congrFun w67 45) 1
  rw [zcp_ne (by decide)] at t67_45_1
  exact zV_vret rfl dX7_copyFrom_2.2.2 ⟨hF, by omega⟩

abbrev q_X11_stagesP (κ : Hp) (x1 : Int) (g : Int → Int) : Int → Hp → Prop := fun r h' => Fm [(53, 2), (53, 3), (53, 4), (49, 0), (49, 1), (50, 999), (51, 999), (52, 999), (41, 0), (41, 1), (42, 999), (43, 999), (44, 999), (31, 1)] κ h' ∧ (((¬ (0 ≤ x1 ∧ x1 ≤ 120 ∧ x1 ≤ κ 31 1) ∧ r = -1 ∧ h' 31 1 = κ 31 1 ∧ h' 41 0 = κ 41 0 ∧ h' 41 1 = κ 41 1) ∨ ((0 ≤ x1 ∧ x1 ≤ 120 ∧ x1 ≤ κ 31 1) ∧ h' 31 1 = 0 ∧ r = rdF g x1 ∧ (0 ≤ r → h' 41 0 = r ∧ h' 41 1 = rdA g x1) ∧ (r < 0 → h' 41 0 = κ 41 0 ∧ h' 41 1 = κ 41 1))))
set_option maxHeartbeats 4000000 in
set_option maxRecDepth 20000 in
theorem s_X11_stagesP {G : Ga} {κ : Hp} (hS : SI κ) (hR : KR κ) (hC : KC κ) (x1 : Int) (hx1 : rng x1) (g : Int → Int) (hg : hr (κ 32) x1 = g) (hb : x1 ≤ κ 31 1 → ∀ q : Int, -1 ≤ g q ∧ g q ≤ 255) (hX : XI G) : zM G mX11_stages yX11_stages [.inr (.inr 30), .inl x1] κ (q_X11_stagesP κ x1 g) := by
  have f_31_1 := KCt hC
  have f_41_0 := KCm hC
  have f_41_1 := KCf hC
  unfold rng at hx1
  refine zM_of [some (.inr (.inr 30)), some (.inl x1), none] 1 rfl rfl (Nat.le_of_ble_eq_true rfl) rfl ?_
  refine (show ∀ h : Hp, Fm [(53, 2), (53, 3), (53, 4), (49, 0), (49, 1), (50, 999), (51, 999), (52, 999), (41, 0), (41, 1), (42, 999), (43, 999), (44, 999), (31, 1)] κ h → h = κ → zV G mX11_stages (q_X11_stagesP κ x1 g) 0 [some (.inr (.inr 30)), some (.inl x1), none] [] h from fun h hF hk0 => ?_) κ (Fm.rf hS hR hC) rfl
  have y0_31_1 : h 31 1 = κ 31 1 := by rw [hk0]
  have y0_41_0 : h 41 0 = κ 41 0 := by rw [hk0]
  have y0_41_1 : h 41 1 = κ 41 1 := by rw [hk0]
  have y0_49_0 : h 49 0 = κ 49 0 := by rw [hk0]
  have y0_49_1 : h 49 1 = κ 49 1 := by rw [hk0]
  refine zW_iload_n (pc' := 1) dX11_stages_0.1.1.1.1 rfl rfl ?_
  refine zV_if_lt (tgt := 21) (pc' := 4) dX11_stages_0.1.1.1.2 rfl rfl ⟨by omega, by omega⟩ (fun c1 => ?_) (fun c1 => ?_)
  · refine zW_iconst (pc' := 22) dX11_stages_0.2.1.2.1 rfl ?_
    exact zV_iret rfl dX11_stages_0.2.1.2.2 ⟨hF, by omega⟩
  · refine zW_iload_n (pc' := 5) dX11_stages_0.1.1.2.1 rfl rfl ?_
    refine zW_bipush (pc' := 7) dX11_stages_0.1.1.2.2 rfl rfl ?_
    refine zV_cm_gt (tgt := 21) (pc' := 10) dX11_stages_0.1.2.1.1 rfl rfl ⟨by omega, by omega⟩ ⟨by omega, by omega⟩ (fun c7 => ?_) (fun c7 => ?_)
    · refine zW_iconst (pc' := 22) dX11_stages_0.2.1.2.1 rfl ?_
      exact zV_iret rfl dX11_stages_0.2.1.2.2 ⟨hF, by omega⟩
    · refine zW_iload_n (pc' := 11) dX11_stages_0.1.2.1.2 rfl rfl ?_
      refine zW_aload_n (pc' := 12) dX11_stages_0.1.2.2.1 rfl rfl ?_
      refine zG_ref (pc' := 15) 31 fg_X11_10 tb30 rfl dX11_stages_0.1.2.2.2 rfl ?_
      refine zG_int (pc' := 18) fg_X11_88 tb31 rfl dX11_stages_0.2.1.1.1 rfl ?_
      have e15 := KCt hF.2.2.2
      refine zV_cm_le (tgt := 23) (pc' := 21) dX11_stages_0.2.1.1.2 rfl rfl ⟨by omega, by omega⟩ ⟨by omega, by omega⟩ (fun c18 => ?_) (fun c18 => ?_)
      · refine zW_aload_n (pc' := 24) dX11_stages_0.2.2.1.1 rfl rfl ?_
        refine zG_ref (pc' := 27) 53 fg_X11_42 tb30 rfl dX11_stages_0.2.2.1.2 rfl ?_
        refine zW_iload_n (pc' := 28) dX11_stages_0.2.2.2.1 rfl rfl ?_
        refine cvI1 (pc' := 31) kX6_read vX6_read lk_X11_95 ⟨Nat.le_of_ble_eq_true rfl, Nat.le_of_ble_eq_true rfl⟩ tb53 vq6 rfl rfl (s_X6_readP hF.2.1 hF.2.2.1 hF.2.2.2 _ ⟨by omega, by omega⟩ g (by rw [hk0]; exact hg) (hb (by omega)) (by omega) hX) dX11_stages_0.2.2.2.2 (Nat.le_of_ble_eq_true rfl) rfl ?_
        rintro r28 h ⟨hF1, p28⟩; replace hF := hF.tr hF1 rfl
        have t28_31_1 := hF1.1 31 1 rfl rfl
        have t28_41_0 := hF1.1 41 0 rfl rfl
        have t28_41_1 := hF1.1 41 1 rfl rfl
        refine zW_istore_n (ls' := [_, _, _]) (pc' := 32) dX11_stages_1.1.1.1.1 (by decide) rfl rfl rfl ?_
        refine zW_aload_n (pc' := 33) dX11_stages_1.1.1.1.2 rfl rfl ?_
        refine zG_ref (pc' := 36) 31 fg_X11_10 tb30 rfl dX11_stages_1.1.1.2.1 rfl ?_
        refine cvV0 (pc' := 39) kX9_empty vX9_empty lk_X11_99 ⟨Nat.le_of_ble_eq_true rfl, Nat.le_of_ble_eq_true rfl⟩ tb31 vq9 rfl rfl (s_X9_empty hF.2.1 hF.2.2.1 hF.2.2.2) dX11_stages_1.1.1.2.2 (Nat.le_of_ble_eq_true rfl) rfl ?_
        rintro r36 h ⟨hF1, p36⟩; replace hF := hF.tr hF1 rfl
        have t36_41_0 := hF1.1 41 0 rfl rfl
        have t36_41_1 := hF1.1 41 1 rfl rfl
        have t36_49_0 := hF1.1 49 0 rfl rfl
        have t36_49_1 := hF1.1 49 1 rfl rfl
        refine zW_iload_n (pc' := 40) dX11_stages_1.1.2.1.1 rfl rfl ?_
        refine zV_if_lt (tgt := 64) (pc' := 43) dX11_stages_1.1.2.1.2 rfl rfl ⟨by omega, by omega⟩ (fun c40 => ?_) (fun c40 => ?_)
        · refine zW_iload_n (pc' := 65) dX11_stages_1.2.2.2.2 rfl rfl ?_
          exact zV_iret rfl dX11_stages_2 ⟨hF, by omega⟩
        · refine zW_aload_n (pc' := 44) dX11_stages_1.1.2.2.1 rfl rfl ?_
          refine zG_ref (pc' := 47) 41 fg_X11_33 tb30 rfl dX11_stages_1.1.2.2.2 rfl ?_
          refine zW_aload_n (pc' := 48) dX11_stages_1.2.1.1.1 rfl rfl ?_
          refine zG_ref (pc' := 51) 53 fg_X11_42 tb30 rfl dX11_stages_1.2.1.1.2 rfl ?_
          refine zG_ref (pc' := 54) 49 fg_X11_102 tb53 rfl dX11_stages_1.2.1.2.1 rfl ?_
          refine cvV1 (pc' := 57) kX7_copyFrom vX7_copyFrom lk_X11_105 ⟨Nat.le_of_ble_eq_true rfl, Nat.le_of_ble_eq_true rfl⟩ tb41 vq7 rfl rfl (s_X7_copyFromV41_49P hF.2.1 hF.2.2.1 hF.2.2.2) dX11_stages_1.2.1.2.2 (Nat.le_of_ble_eq_true rfl) rfl ?_
          rintro r54 h ⟨hF1, p54⟩; replace hF := hF.tr hF1 rfl
          have t54_31_1 := hF1.1 31 1 rfl rfl
          have t54_49_0 := hF1.1 49 0 rfl rfl
          have t54_49_1 := hF1.1 49 1 rfl rfl
          refine zW_aload_n (pc' := 58) dX11_stages_1.2.2.1.1 rfl rfl ?_
          refine zG_ref (pc' := 61) 54 fg_X11_51 tb30 rfl dX11_stages_1.2.2.1.2 rfl ?_
          refine cvV0 (pc' := 64) kX1_forget vX1_forget lk_X11_109 ⟨Nat.le_of_ble_eq_true rfl, Nat.le_of_ble_eq_true rfl⟩ tb54 vq1 rfl rfl (s_X1_forget hF.2.1 hF.2.2.1 hF.2.2.2) dX11_stages_1.2.2.2.1 (Nat.le_of_ble_eq_true rfl) rfl ?_
          rintro r61 h ⟨hF1, p61⟩; replace hF := hF.tr hF1 rfl
          have t61_31_1 := hF1.1 31 1 rfl rfl
          have t61_41_0 := hF1.1 41 0 rfl rfl
          have t61_41_1 := hF1.1 41 1 rfl rfl
          have t61_49_0 := hF1.1 49 0 rfl rfl
          have t61_49_1 := hF1.1 49 1 rfl rfl
          refine zW_iload_n (pc' := 65) dX11_stages_1.2.2.2.2 rfl rfl ?_
          exact zV_iret rfl dX11_stages_2 ⟨hF, by omega⟩
      · refine zW_iconst (pc' := 22) dX11_stages_0.2.1.2.1 rfl ?_
        exact zV_iret rfl dX11_stages_0.2.1.2.2 ⟨hF, by omega⟩

abbrev q_X11_keepP (κ : Hp)  : Int → Hp → Prop := fun r h' => Fm [(36, 0), (36, 1), (36, 2), (37, 999), (38, 999), (45, 0), (45, 1), (46, 999), (47, 999), (48, 999), (30, 10), (30, 11)] κ h' ∧ ((r = κ 41 0 ∧ h' 30 11 = 1 ∧ h' 36 0 = κ 33 0 ∧ h' 36 1 = κ 33 1 ∧ h' 36 2 = κ 33 2 ∧ h' 30 10 = κ 30 12 ∧ h' 45 0 = κ 41 0 ∧ h' 45 1 = κ 41 1))
set_option maxHeartbeats 4000000 in
set_option maxRecDepth 20000 in
theorem s_X11_keepP {G : Ga} {κ : Hp} (hS : SI κ) (hR : KR κ) (hC : KC κ)  : zM G mX11_keep yX11_keep [.inr (.inr 30)] κ (q_X11_keepP κ) := by
  have f_30_12 := KCc hC
  have f_33_0 := KCw hC
  have f_33_1 := KCh hC
  have f_33_2 := KCp hC
  have f_41_0 := KCm hC
  have f_41_1 := KCf hC
  have f_45_0 := KCr0 hC
  have f_49_0 := KCd0 hC
  refine zM_of [some (.inr (.inr 30))] 0 rfl rfl (Nat.le_of_ble_eq_true rfl) rfl ?_
  refine (show ∀ h : Hp, Fm [(36, 0), (36, 1), (36, 2), (37, 999), (38, 999), (45, 0), (45, 1), (46, 999), (47, 999), (48, 999), (30, 10), (30, 11)] κ h → h = κ → zV G mX11_keep (q_X11_keepP κ) 0 [some (.inr (.inr 30))] [] h from fun h hF hk0 => ?_) κ (Fm.rf hS hR hC) rfl
  have y0_41_0 : h 41 0 = κ 41 0 := by rw [hk0]
  have y0_41_1 : h 41 1 = κ 41 1 := by rw [hk0]
  refine zW_aload_n (pc' := 1) dX11_keep_0.1.1.1.1 rfl rfl ?_
  refine zG_ref (pc' := 4) 36 fg_X11_71 tb30 rfl dX11_keep_0.1.1.1.2 rfl ?_
  refine zW_aload_n (pc' := 5) dX11_keep_0.1.1.2.1 rfl rfl ?_
  refine zG_ref (pc' := 8) 33 fg_X11_19 tb30 rfl dX11_keep_0.1.1.2.2 rfl ?_
  have y8_33_0 := hF.1 33 0 rfl rfl
  have y8_33_1 := hF.1 33 1 rfl rfl
  have y8_33_2 := hF.1 33 2 rfl rfl
  refine cvV1 (pc' := 11) kX5_copyFrom vX5_copyFrom lk_X11_396 ⟨Nat.le_of_ble_eq_true rfl, Nat.le_of_ble_eq_true rfl⟩ tb36 vq5 rfl rfl (s_X5_copyFromV36_33E hF.2.1 hF.2.2.1 hF.2.2.2) dX11_keep_0.1.2.1.1 (Nat.le_of_ble_eq_true rfl) rfl ?_
  rintro r8 h ⟨hF1, p8⟩; replace hF := hF.tr hF1 rfl
  have t8_30_10 := hF1.1 30 10 rfl rfl
  have t8_30_11 := hF1.1 30 11 rfl rfl
  have t8_45_0 := hF1.1 45 0 rfl rfl
  have t8_41_0 := hF1.1 41 0 rfl rfl
  have t8_45_1 := hF1.1 45 1 rfl rfl
  have t8_41_1 := hF1.1 41 1 rfl rfl
  refine zW_aload_n (pc' := 12) dX11_keep_0.1.2.1.2 rfl rfl ?_
  refine zG_ref (pc' := 15) 45 fg_X11_74 tb30 rfl dX11_keep_0.1.2.2.1 rfl ?_
  refine zW_aload_n (pc' := 16) dX11_keep_0.1.2.2.2 rfl rfl ?_
  refine zG_ref (pc' := 19) 41 fg_X11_33 tb30 rfl dX11_keep_0.2.1.1.1 rfl ?_
  have y19_41_0 := hF.1 41 0 rfl rfl
  have y19_41_1 := hF.1 41 1 rfl rfl
  refine cvV1 (pc' := 22) kX7_copyFrom vX7_copyFrom lk_X11_105 ⟨Nat.le_of_ble_eq_true rfl, Nat.le_of_ble_eq_true rfl⟩ tb45 vq7 rfl rfl (s_X7_copyFromV45_41P hF.2.1 hF.2.2.1 hF.2.2.2) dX11_keep_0.2.1.1.2 (Nat.le_of_ble_eq_true rfl) rfl ?_
  rintro r19 h ⟨hF1, p19⟩; replace hF := hF.tr hF1 rfl
  have t19_36_0 := hF1.1 36 0 rfl rfl
  have t19_36_1 := hF1.1 36 1 rfl rfl
  have t19_36_2 := hF1.1 36 2 rfl rfl
  have t19_30_10 := hF1.1 30 10 rfl rfl
  have t19_30_11 := hF1.1 30 11 rfl rfl
  have t19_41_0 := hF1.1 41 0 rfl rfl
  have t19_41_1 := hF1.1 41 1 rfl rfl
  refine zW_aload_n (pc' := 23) dX11_keep_0.2.1.2.1 rfl rfl ?_
  refine zW_aload_n (pc' := 24) dX11_keep_0.2.1.2.2 rfl rfl ?_
  refine zGm (pc' := 27) hF rfl rfl fg_X11_85 tb30 rfl dX11_keep_0.2.2.1.1 rfl ?_
  refine zPm (pc' := 30) hF (Or.inl rfl) (SI_irr hF.2.1 (Or.inl rfl) (fun _ _ => ⟨by omega, by omega⟩)) (KR_irr hF.2.2.1 rfl) (KC_30_10 hF.2.2.2 (by omega)) fp_X11_77 tb30 rfl dX11_keep_0.2.2.1.2 rfl (fun h hF w27 => ?_)
  have t27_36_0 := congrFun (congrFun w27 36) 0
  rw [zwr_ne (Or.inl (by decide))] at t27_36_0
  have t27_36_1 := congrFun (congrFun w27 36) 1
  rw [zwr_ne (Or.inl (by decide))] at t27_36_1
  have t27_36_2 := congrFun (congrFun w27 36) 2
  rw [zwr_ne (Or.inl (by decide))] at t27_36_2
  have t27_30_10 := congrFun (congrFun w27 30) 10
  rw [zwr_eq] at t27_30_10
  have t27_30_11 := congrFun (congrFun w27 30) 11
  rw [zwr_ne (Or.inr (by decide))] at t27_30_11
  have t27_45_0 := congrFun (congrFun w27 45) 0
  rw [zwr_ne (Or.inl (by decide))] at t27_45_0
  have t27_41_0 := congrFun (congrFun w27 41) 0
  rw [zwr_ne (Or.inl (by decide))] at t27_41_0
  have t27_45_1 := congrFun (congrFun w27 45) 1
  rw [zwr_ne (Or.inl (by decide))] at t27_45_1
  have t27_41_1 := congrFun (congrFun w27 41) 1
  rw [zwr_ne (Or.inl (by decide))] at t27_41_1
  refine zW_aload_n (pc' := 31) dX11_keep_0.2.2.2.1 rfl rfl ?_
  refine zW_iconst (pc' := 32) dX11_keep_0.2.2.2.2 rfl ?_
  refine zPmz (pc' := 35) hF (Or.inl rfl) (SI_irr hF.2.1 (Or.inl rfl) (fun _ _ => ⟨by omega, by omega⟩)) (KR_irr hF.2.2.1 rfl) (KC_irr hF.2.2.2 rfl) (by omega) fp_X11_81 tb30 rfl dX11_keep_1.1.1.1 rfl (fun h hF w32 => ?_)
  have t32_36_0 := congrFun (congrFun w32 36) 0
  rw [zwr_ne (Or.inl (by decide))] at t32_36_0
  have t32_36_1 := congrFun (congrFun w32 36) 1
  rw [zwr_ne (Or.inl (by decide))] at t32_36_1
  have t32_36_2 := congrFun (congrFun w32 36) 2
  rw [zwr_ne (Or.inl (by decide))] at t32_36_2
  have t32_30_10 := congrFun (congrFun w32 30) 10
  rw [zwr_ne (Or.inr (by decide))] at t32_30_10
  have t32_30_11 := congrFun (congrFun w32 30) 11
  rw [zwr_eq] at t32_30_11
  have t32_45_0 := congrFun (congrFun w32 45) 0
  rw [zwr_ne (Or.inl (by decide))] at t32_45_0
  have t32_41_0 := congrFun (congrFun w32 41) 0
  rw [zwr_ne (Or.inl (by decide))] at t32_41_0
  have t32_45_1 := congrFun (congrFun w32 45) 1
  rw [zwr_ne (Or.inl (by decide))] at t32_45_1
  have t32_41_1 := congrFun (congrFun w32 41) 1
  rw [zwr_ne (Or.inl (by decide))] at t32_41_1
  refine zW_aload_n (pc' := 36) dX11_keep_1.1.1.2 rfl rfl ?_
  refine zG_ref (pc' := 39) 41 fg_X11_33 tb30 rfl dX11_keep_1.1.2 rfl ?_
  refine zGm (pc' := 42) hF rfl rfl fg_X11_379 tb41 rfl dX11_keep_1.2.1 rfl ?_
  exact zV_iret rfl dX11_keep_1.2.2 ⟨hF, by omega⟩

abbrev q_X11_undoP (κ : Hp)  : Int → Hp → Prop := fun r h' => Fm [(33, 0), (33, 1), (33, 2), (34, 999), (35, 999), (41, 0), (41, 1), (42, 999), (43, 999), (44, 999), (30, 12), (39, 1)] κ h' ∧ ((0 ≤ r) ∧ (r ≤ 1) ∧ (((κ 30 11 = 0 ∧ r = 0 ∧ h' 33 0 = κ 33 0 ∧ h' 33 1 = κ 33 1 ∧ h' 33 2 = κ 33 2 ∧ h' 30 12 = κ 30 12) ∨ (κ 30 11 ≠ 0 ∧ r = 1 ∧ h' 33 0 = κ 36 0 ∧ h' 33 1 = κ 36 1 ∧ h' 33 2 = κ 36 2 ∧ h' 30 12 = κ 30 10)) ∧ (r = 0 → h' 41 0 = κ 41 0 ∧ h' 41 1 = κ 41 1) ∧ (r = 1 → h' 41 0 = κ 45 0 ∧ h' 41 1 = κ 45 1)))
set_option maxHeartbeats 4000000 in
set_option maxRecDepth 20000 in
theorem s_X11_undoP {G : Ga} {κ : Hp} (hS : SI κ) (hR : KR κ) (hC : KC κ)  : zM G mX11_undo yX11_undo [.inr (.inr 30)] κ (q_X11_undoP κ) := by
  have f_30_10 := KCkc hC
  have f_30_12 := KCc hC
  have f_33_0 := KCw hC
  have f_33_1 := KCh hC
  have f_33_2 := KCp hC
  have f_36_0 := KCk0 hC
  have f_36_1 := KCk1 hC
  have f_36_2 := KCk2 hC
  have f_41_0 := KCm hC
  have f_41_1 := KCf hC
  have f_45_0 := KCr0 hC
  have f_45_1 := KCr1 hC
  refine zM_of [some (.inr (.inr 30))] 0 rfl rfl (Nat.le_of_ble_eq_true rfl) rfl ?_
  refine (show ∀ h : Hp, Fm [(33, 0), (33, 1), (33, 2), (34, 999), (35, 999), (41, 0), (41, 1), (42, 999), (43, 999), (44, 999), (30, 12), (39, 1)] κ h → h = κ → zV G mX11_undo (q_X11_undoP κ) 0 [some (.inr (.inr 30))] [] h from fun h hF hk0 => ?_) κ (Fm.rf hS hR hC) rfl
  have y0_33_0 : h 33 0 = κ 33 0 := by rw [hk0]
  have y0_33_1 : h 33 1 = κ 33 1 := by rw [hk0]
  have y0_33_2 : h 33 2 = κ 33 2 := by rw [hk0]
  have y0_30_12 : h 30 12 = κ 30 12 := by rw [hk0]
  have y0_41_0 : h 41 0 = κ 41 0 := by rw [hk0]
  have y0_45_0 : h 45 0 = κ 45 0 := by rw [hk0]
  have y0_41_1 : h 41 1 = κ 41 1 := by rw [hk0]
  have y0_45_1 : h 45 1 = κ 45 1 := by rw [hk0]
  refine zW_aload_n (pc' := 1) dX11_undo_0.1.1.1.1 rfl rfl ?_
  refine zGm (pc' := 4) hF rfl rfl fg_X11_81 tb30 rfl dX11_undo_0.1.1.1.2 rfl ?_
  have e1 : -2147483648 ≤ κ 30 11 ∧ κ 30 11 ≤ 2147483647 := by rw [← hF.1 30 11 rfl rfl]; exact hF.rh 30 11
  refine zV_if_ne (tgt := 9) (pc' := 7) dX11_undo_0.1.1.2.1 rfl rfl ⟨by omega, by omega⟩ (fun c4 => ?_) (fun c4 => ?_)
  · refine zW_aload_n (pc' := 10) dX11_undo_0.1.2.1.2 rfl rfl ?_
    refine zG_ref (pc' := 13) 33 fg_X11_19 tb30 rfl dX11_undo_0.1.2.2.1 rfl ?_
    refine zW_aload_n (pc' := 14) dX11_undo_0.1.2.2.2 rfl rfl ?_
    refine zG_ref (pc' := 17) 36 fg_X11_71 tb30 rfl dX11_undo_0.2.1.1.1 rfl ?_
    have y17_36_0 := hF.1 36 0 rfl rfl
    have y17_36_1 := hF.1 36 1 rfl rfl
    have y17_36_2 := hF.1 36 2 rfl rfl
    refine cvV1 (pc' := 20) kX5_copyFrom vX5_copyFrom lk_X11_396 ⟨Nat.le_of_ble_eq_true rfl, Nat.le_of_ble_eq_true rfl⟩ tb33 vq5 rfl rfl (s_X5_copyFromV33_36E hF.2.1 hF.2.2.1 hF.2.2.2) dX11_undo_0.2.1.1.2 (Nat.le_of_ble_eq_true rfl) rfl ?_
    rintro r17 h ⟨hF1, p17⟩; replace hF := hF.tr hF1 rfl
    have t17_30_12 := hF1.1 30 12 rfl rfl
    have t17_41_0 := hF1.1 41 0 rfl rfl
    have t17_45_0 := hF1.1 45 0 rfl rfl
    have t17_41_1 := hF1.1 41 1 rfl rfl
    have t17_45_1 := hF1.1 45 1 rfl rfl
    refine zW_aload_n (pc' := 21) dX11_undo_0.2.1.2.1 rfl rfl ?_
    refine zG_ref (pc' := 24) 41 fg_X11_33 tb30 rfl dX11_undo_0.2.1.2.2 rfl ?_
    refine zW_aload_n (pc' := 25) dX11_undo_0.2.2.1.1 rfl rfl ?_
    refine zG_ref (pc' := 28) 45 fg_X11_74 tb30 rfl dX11_undo_0.2.2.1.2 rfl ?_
    have y28_45_0 := hF.1 45 0 rfl rfl
    have y28_45_1 := hF.1 45 1 rfl rfl
    refine cvV1 (pc' := 31) kX7_copyFrom vX7_copyFrom lk_X11_105 ⟨Nat.le_of_ble_eq_true rfl, Nat.le_of_ble_eq_true rfl⟩ tb41 vq7 rfl rfl (s_X7_copyFromV41_45P hF.2.1 hF.2.2.1 hF.2.2.2) dX11_undo_0.2.2.2.1 (Nat.le_of_ble_eq_true rfl) rfl ?_
    rintro r28 h ⟨hF1, p28⟩; replace hF := hF.tr hF1 rfl
    have t28_33_0 := hF1.1 33 0 rfl rfl
    have t28_33_1 := hF1.1 33 1 rfl rfl
    have t28_33_2 := hF1.1 33 2 rfl rfl
    have t28_30_12 := hF1.1 30 12 rfl rfl
    have t28_45_0 := hF1.1 45 0 rfl rfl
    have t28_45_1 := hF1.1 45 1 rfl rfl
    refine zW_aload_n (pc' := 32) dX11_undo_0.2.2.2.2 rfl rfl ?_
    refine zW_aload_n (pc' := 33) dX11_undo_1.1.1.1 rfl rfl ?_
    refine zGm (pc' := 36) hF rfl rfl fg_X11_77 tb30 rfl dX11_undo_1.1.1.2 rfl ?_
    refine zPm (pc' := 39) hF (Or.inl rfl) (SI_irr hF.2.1 (Or.inl rfl) (fun _ _ => ⟨by omega, by omega⟩)) (KR_irr hF.2.2.1 rfl) (KC_30_12 hF.2.2.2 (by omega)) fp_X11_85 tb30 rfl dX11_undo_1.1.2.1 rfl (fun h hF w36 => ?_)
    have t36_33_0 := congrFun (congrFun w36 33) 0
    rw [zwr_ne (Or.inl (by decide))] at t36_33_0
    have t36_33_1 := congrFun (congrFun w36 33) 1
    rw [zwr_ne (Or.inl (by decide))] at t36_33_1
    have t36_33_2 := congrFun (congrFun w36 33) 2
    rw [zwr_ne (Or.inl (by decide))] at t36_33_2
    have t36_30_12 := congrFun (congrFun w36 30) 12
    rw [zwr_eq] at t36_30_12
    have t36_41_0 := congrFun (congrFun w36 41) 0
    rw [zwr_ne (Or.inl (by decide))] at t36_41_0
    have t36_45_0 := congrFun (congrFun w36 45) 0
    rw [zwr_ne (Or.inl (by decide))] at t36_45_0
    have t36_41_1 := congrFun (congrFun w36 41) 1
    rw [zwr_ne (Or.inl (by decide))] at t36_41_1
    have t36_45_1 := congrFun (congrFun w36 45) 1
    rw [zwr_ne (Or.inl (by decide))] at t36_45_1
    refine zW_aload_n (pc' := 40) dX11_undo_1.1.2.2 rfl rfl ?_
    refine cvV0 (pc' := 43) kX11_rawChanged vX11_rawChanged lk_X11_124 ⟨Nat.le_of_ble_eq_true rfl, Nat.le_of_ble_eq_true rfl⟩ tb30 vq11 rfl rfl (s_X11_rawChanged hF.2.1 hF.2.2.1 hF.2.2.2) dX11_undo_1.2.1.1 (Nat.le_of_ble_eq_true rfl) rfl ?_
    rintro r40 h ⟨hF1, p40⟩; replace hF := hF.tr hF1 rfl
    have t40_33_0 := hF1.1 33 0 rfl rfl
    have t40_33_1 := hF1.1 33 1 rfl rfl
    have t40_33_2 := hF1.1 33 2 rfl rfl
    have t40_30_12 := hF1.1 30 12 rfl rfl
    have t40_41_0 := hF1.1 41 0 rfl rfl
    have t40_45_0 := hF1.1 45 0 rfl rfl
    have t40_41_1 := hF1.1 41 1 rfl rfl
    have t40_45_1 := hF1.1 45 1 rfl rfl
    refine zW_iconst (pc' := 44) dX11_undo_1.2.1.2 rfl ?_
    exact zV_zret rfl (by omega) dX11_undo_1.2.2 ⟨hF, by omega⟩
  · refine zW_iconst (pc' := 8) dX11_undo_0.1.1.2.2 rfl ?_
    exact zV_zret rfl (by omega) dX11_undo_0.1.2.1.1 ⟨hF, by omega⟩

abbrev q_X12_hereP (κ h : Hp) (g : Int → Int) (p : Int) : Int → Hp → Prop := fun r h' => h' = h ∧ ((-1 ≤ r) ∧ (r ≤ 255) ∧ (r = g p ∧ (κ 0 27 ≤ κ 0 26 → r = -1)))
set_option maxHeartbeats 4000000 in
set_option maxRecDepth 20000 in
theorem s_X12_hereP {G : Ga} {b : Bool} {κ h : Hp} (hK : KR κ) (hF : Fr b κ h) (g : Int → Int) (p : Int) (hg : hr (fun i => κ 12 i % 256) (κ 0 27) = g) (ht : κ 0 26 = p) (hp : 0 ≤ κ 0 26 ∧ κ 0 26 ≤ κ 0 27 ∧ κ 0 27 ≤ 120) : zM G mX12_here yX12_here [.inr (.inr 0)] h (q_X12_hereP κ h g p) := by
  refine zM_of [some (.inr (.inr 0))] 0 rfl rfl (Nat.le_of_ble_eq_true rfl) rfl ?_
  refine zW_aload_n (pc' := 1) dX12_here_0.1.1.1.1 rfl rfl ?_
  refine zG_key (pc' := 4) hF rfl fg_X12_123 tb0 rfl dX12_here_0.1.1.1.2 rfl ?_
  have e1 := hF.rk (k := 0) (i := 26) rfl (by decide) (by decide)
  refine zW_aload_n (pc' := 5) dX12_here_0.1.1.2.1 rfl rfl ?_
  refine zG_key (pc' := 8) hF rfl fg_X12_126 tb0 rfl dX12_here_0.1.1.2.2 rfl ?_
  have e5 := hF.rk (k := 0) (i := 27) rfl (by decide) (by decide)
  refine zV_cm_ge (tgt := 27) (pc' := 11) dX12_here_0.1.2.1.1 rfl rfl ⟨by omega, by omega⟩ ⟨by omega, by omega⟩ (fun c8 => ?_) (fun c8 => ?_)
  · refine zW_iconst (pc' := 28) dX12_here_0.2.2.1.2 rfl ?_
    exact zV_iret rfl dX12_here_0.2.2.2 ⟨rfl, by refine ⟨by omega, by omega, ?_, by omega⟩; rw [← hg]; unfold hr; first | (rw [if_pos (by omega), ← ht]; exact e23) | (rw [if_neg (by omega)])⟩
  · refine zW_aload_n (pc' := 12) dX12_here_0.1.2.1.2 rfl rfl ?_
    refine zG_ref (pc' := 15) 12 fg_X12_44 tb0 rfl dX12_here_0.1.2.2.1 rfl ?_
    refine zW_aload_n (pc' := 16) dX12_here_0.1.2.2.2 rfl rfl ?_
    refine zG_key (pc' := 19) hF rfl fg_X12_123 tb0 rfl dX12_here_0.2.1.1.1 rfl ?_
    have e16 := hF.rk (k := 0) (i := 26) rfl (by decide) (by decide)
    refine zA_keyb (pc' := 20) hF rfl tb12 (by omega) dX12_here_0.2.1.1.2 (by decide) rfl ?_
    refine zW_sipush (pc' := 23) dX12_here_0.2.1.2.1 rfl rfl ?_
    refine zW_iand255 (pc' := 24) dX12_here_0.2.1.2.2 rfl (fun v23 e23 => ?_)
    refine zV_goto 28 dX12_here_0.2.2.1.1 rfl ?_
    exact zV_iret rfl dX12_here_0.2.2.2 ⟨rfl, by refine ⟨by omega, by omega, ?_, by omega⟩; rw [← hg]; unfold hr; first | (rw [if_pos (by omega), ← ht]; exact e23) | (rw [if_neg (by omega)])⟩

abbrev q_X12_wrongAtP (κ : Hp) (x1 : Int) (x2 : Int) : Int → Hp → Prop := fun r h' => Fm [(0, 28)] κ h' ∧ ((0 ≤ r) ∧ (r ≤ 1) ∧ (r = 0 ∧ h' 0 28 = -1000 * x1 - x2))
set_option maxHeartbeats 4000000 in
set_option maxRecDepth 20000 in
theorem s_X12_wrongAtP {G : Ga} {κ : Hp} (hS : SI κ) (hR : KR κ) (hC : KC κ) (x1 : Int) (hx1 : 1 ≤ x1 ∧ x1 ≤ 6) (x2 : Int) (hx2 : 0 ≤ x2 ∧ x2 ≤ 150) : zM G mX12_wrongAt yX12_wrongAt [.inr (.inr 0), .inl x1, .inl x2] κ (q_X12_wrongAtP κ x1 x2) := by
  refine zM_of [some (.inr (.inr 0)), some (.inl x1), some (.inl x2)] 0 rfl rfl (Nat.le_of_ble_eq_true rfl) rfl ?_
  refine (show ∀ h : Hp, Fm [(0, 28)] κ h → h = κ → zV G mX12_wrongAt (q_X12_wrongAtP κ x1 x2) 0 [some (.inr (.inr 0)), some (.inl x1), some (.inl x2)] [] h from fun h hF hk0 => ?_) κ (Fm.rf hS hR hC) rfl
  refine zW_aload_n (pc' := 1) dX12_wrongAt_0.1.1.1.1 rfl rfl ?_
  refine zW_sipush (pc' := 4) dX12_wrongAt_0.1.1.1.2 rfl rfl ?_
  refine zW_iload_n (pc' := 5) dX12_wrongAt_0.1.1.2 rfl rfl ?_
  refine zW_imul (pc' := 6) dX12_wrongAt_0.1.2.1 rfl ?_
  refine zW_iload_n (pc' := 7) dX12_wrongAt_0.1.2.2 rfl rfl ?_
  refine zW_isub (pc' := 8) dX12_wrongAt_0.2.1.1 rfl ?_
  refine zPm (pc' := 11) hF (Or.inl rfl) (SI_irr hF.2.1 (Or.inl rfl) (fun _ _ => ⟨by omega, by omega⟩)) (KR_irr hF.2.2.1 rfl) (KC_irr hF.2.2.2 rfl) fp_X12_129 tb0 rfl dX12_wrongAt_0.2.1.2 rfl (fun h hF w8 => ?_)
  have t8_0_28 := congrFun (congrFun w8 0) 28
  rw [zwr_eq] at t8_0_28
  refine zW_iconst (pc' := 12) dX12_wrongAt_0.2.2.1 rfl ?_
  exact zV_zret rfl (by omega) dX12_wrongAt_0.2.2.2 ⟨hF, by omega⟩

abbrev q_X12_takesSignP (κ : Hp) (x1 : Int) (g : Int → Int) (p : Int) : Int → Hp → Prop := fun r h' => Fm [(0, 26), (0, 28)] κ h' ∧ ((0 ≤ r) ∧ (r ≤ 1) ∧ ((r = 1 ∧ sF g p x1 = 0 ∧ h' 0 26 = p + 1 ∧ p < κ 0 27) ∨ (r = 0 ∧ sF g p x1 ≠ 0 ∧ h' 0 28 = sF g p x1 ∧ h' 0 28 < 0 ∧ h' 0 26 = p)))
set_option maxHeartbeats 4000000 in
set_option maxRecDepth 20000 in
theorem s_X12_takesSignP {G : Ga} {κ : Hp} (hS : SI κ) (hR : KR κ) (hC : KC κ) (x1 : Int) (hx1 : 0 ≤ x1 ∧ x1 ≤ 255) (g : Int → Int) (p : Int) (hg : hr (fun i => κ 12 i % 256) (κ 0 27) = g) (ht : κ 0 26 = p) (hp : 0 ≤ κ 0 26 ∧ κ 0 26 ≤ κ 0 27 ∧ κ 0 27 ≤ 120) : zM G mX12_takesSign yX12_takesSign [.inr (.inr 0), .inl x1] κ (q_X12_takesSignP κ x1 g p) := by
  have sf := sFc g p x1
  refine zM_of [some (.inr (.inr 0)), some (.inl x1)] 0 rfl rfl (Nat.le_of_ble_eq_true rfl) rfl ?_
  refine (show ∀ h : Hp, Fm [(0, 26), (0, 28)] κ h → h = κ → zV G mX12_takesSign (q_X12_takesSignP κ x1 g p) 0 [some (.inr (.inr 0)), some (.inl x1)] [] h from fun h hF hk0 => ?_) κ (Fm.rf hS hR hC) rfl
  have y0_0_26 : h 0 26 = κ 0 26 := by rw [hk0]
  have y0_0_27 : h 0 27 = κ 0 27 := by rw [hk0]
  refine zW_aload_n (pc' := 1) dX12_takesSign_0.1.1.1.1 rfl rfl ?_
  have y1_0_27 := hF.1 0 27 rfl rfl
  refine cvI0 (pc' := 4) kX12_here vX12_here lk_X12_132 ⟨Nat.le_of_ble_eq_true rfl, Nat.le_of_ble_eq_true rfl⟩ tb0 vq12 rfl rfl (s_X12_hereP (b := true) (κ := h) hF.2.2.1 (Fr.rf hF.2.1) g p (by rw [hF.cell 12 rfl (fun _ => rfl), hF.1 0 27 rfl rfl]; exact hg) (by omega) (by omega)) dX12_takesSign_0.1.1.1.2 (Nat.le_of_ble_eq_true rfl) rfl ?_
  rintro r1 z1 ⟨hz1, p1⟩; subst z1
  refine zW_iload_n (pc' := 5) dX12_takesSign_0.1.1.2.1 rfl rfl ?_
  refine zV_cm_eq (tgt := 18) (pc' := 8) dX12_takesSign_0.1.1.2.2 rfl rfl ⟨by omega, by omega⟩ ⟨by omega, by omega⟩ (fun c5 => ?_) (fun c5 => ?_)
  · refine zW_aload_n (pc' := 19) dX12_takesSign_0.2.1.2.1 rfl rfl ?_
    refine zW_aload_n (pc' := 20) dX12_takesSign_0.2.1.2.2 rfl rfl ?_
    refine zG_int (pc' := 23) fg_X12_123 tb0 rfl dX12_takesSign_0.2.2.1.1 rfl ?_
    have e20 := hF.rh 0 26
    refine zW_iconst (pc' := 24) dX12_takesSign_0.2.2.1.2 rfl ?_
    refine zW_iadd (pc' := 25) dX12_takesSign_0.2.2.2.1 rfl ?_
    refine zPm (pc' := 28) hF (Or.inl rfl) (SI_irr hF.2.1 (Or.inl rfl) (fun _ _ => ⟨by omega, by omega⟩)) (KR_irr hF.2.2.1 rfl) (KC_irr hF.2.2.2 rfl) fp_X12_123 tb0 rfl dX12_takesSign_0.2.2.2.2 rfl (fun h hF w25 => ?_)
    have t25_0_26 := congrFun (congrFun w25 0) 26
    rw [zwr_eq] at t25_0_26
    have t25_0_28 := congrFun (congrFun w25 0) 28
    rw [zwr_ne (Or.inr (by decide))] at t25_0_28
    refine zW_iconst (pc' := 29) dX12_takesSign_1.1 rfl ?_
    exact zV_zret rfl (by omega) dX12_takesSign_1.2 ⟨hF, by omega⟩
  · refine zW_aload_n (pc' := 9) dX12_takesSign_0.1.2.1.1 rfl rfl ?_
    refine zW_iconst (pc' := 10) dX12_takesSign_0.1.2.1.2 rfl ?_
    refine zW_aload_n (pc' := 11) dX12_takesSign_0.1.2.2.1 rfl rfl ?_
    refine zG_int (pc' := 14) fg_X12_123 tb0 rfl dX12_takesSign_0.1.2.2.2 rfl ?_
    have e11 := hF.rh 0 26
    refine cvI2 (pc' := 17) kX12_wrongAt vX12_wrongAt lk_X12_136 ⟨Nat.le_of_ble_eq_true rfl, Nat.le_of_ble_eq_true rfl⟩ tb0 vq12 rfl rfl (s_X12_wrongAtP hF.2.1 hF.2.2.1 hF.2.2.2 _ ⟨by omega, by omega⟩ _ ⟨by omega, by omega⟩) dX12_takesSign_0.2.1.1.1 (Nat.le_of_ble_eq_true rfl) rfl ?_
    rintro r14 h ⟨hF1, p14⟩; replace hF := hF.tr hF1 rfl
    have t14_0_26 := hF1.1 0 26 rfl rfl
    exact zV_zret rfl (by omega) dX12_takesSign_0.2.1.1.2 ⟨hF, by omega⟩

abbrev q_X12_readsNumberP (κ : Hp) (x1 : Int) (x2 : Int) (g : Int → Int) (p : Int) : Int → Hp → Prop := fun r h' => Fm [(0, 26), (0, 28), (0, 29), (0, 31), (15, 999)] κ h' ∧ ((0 ≤ r) ∧ (r ≤ 1) ∧ (κ 0 26 ≤ h' 0 26 ∧ h' 0 26 ≤ κ 0 27 ∧ Pre15 κ h' ∧ ((r = 1 ∧ x1 ≤ h' 0 29 ∧ h' 0 29 ≤ x2 ∧ h' 0 31 = κ 0 31 + 1 ∧ κ 0 26 < h' 0 26 ∧ h' 15 (κ 0 31).toNat = h' 0 29) ∨ (r = 0 ∧ h' 0 31 = κ 0 31)) ∧ ((r = 1 ∧ nF g p x1 x2 = 0 ∧ h' 0 26 = p + nD g p ∧ h' 0 29 = nV g p) ∨ (r = 0 ∧ nF g p x1 x2 ≠ 0 ∧ h' 0 28 = nF g p x1 x2 ∧ h' 0 28 < 0))))
set_option maxHeartbeats 4000000 in
set_option maxRecDepth 20000 in
theorem s_X12_readsNumberP {G : Ga} {κ : Hp} (hS : SI κ) (hR : KR κ) (hC : KC κ) (x1 : Int) (hx1 : 0 ≤ x1 ∧ x1 ≤ 256) (x2 : Int) (hx2 : 0 ≤ x2 ∧ x2 ≤ 255) (g : Int → Int) (p : Int) (hp : 0 ≤ κ 0 26 ∧ κ 0 26 ≤ κ 0 27 ∧ κ 0 27 ≤ 120) (hq : 0 ≤ κ 0 31 ∧ κ 0 31 ≤ κ 0 26) (hg : hr (fun i => κ 12 i % 256) (κ 0 27) = g) (ht : κ 0 26 = p) : zM G mX12_readsNumber yX12_readsNumber [.inr (.inr 0), .inl x1, .inl x2] κ (q_X12_readsNumberP κ x1 x2 g p) := by
  have main : ∀ N : Nat, (∀ (v3 : Int) (h : Hp), Fm [(0, 26), (0, 28), (0, 29), (0, 31), (15, 999)] κ h → (0 ≤ v3 ∧ v3 ≤ 120) → (v3 = κ 0 26 ∧ κ 0 26 ≤ h 0 26 ∧ h 0 26 ≤ κ 0 27 ∧ h 0 26 ≤ κ 0 26 + 3) → (h 0 31 = κ 0 31) → (0 ≤ h 0 29 ∧ h 0 29 ≤ 999) → (h 0 29 = nVk g p (h 0 26 - p).toNat) → (Pre15 κ h) → (DG g p (h 0 26 - p)) → (48 ≤ g p ∧ g p ≤ 57) → 596836 + 68 * (κ 0 27 - h 0 26) + 67 < (N : Int) → zV G mX12_readsNumber (q_X12_readsNumberP κ x1 x2 g p) 30 [some (.inr (.inr 0)), some (.inl x1), some (.inl x2), some (.inl v3)] [] h) ∧ (∀ (v3 : Int) (h : Hp), Fm [(0, 26), (0, 28), (0, 29), (0, 31), (15, 999)] κ h → (0 ≤ v3 ∧ v3 ≤ 120) → (v3 = κ 0 26 ∧ κ 0 26 < h 0 26 ∧ h 0 26 ≤ κ 0 27) → (h 0 31 = κ 0 31) → (0 ≤ h 0 29 ∧ h 0 29 ≤ 999) → (Pre15 κ h) → (h 0 26 = p + nD g p ∧ h 0 29 = nV g p ∧ nD g p ≠ 0 ∧ nD g p ≠ 4) → 561204 < (N : Int) → zV G mX12_readsNumber (q_X12_readsNumberP κ x1 x2 g p) 92 [some (.inr (.inr 0)), some (.inl x1), some (.inl x2), some (.inl v3)] [] h) := by
    intro N
    induction N with
    | zero =>
      refine ⟨?_, ?_⟩
      · intro v3 h hF g0 gc0 gc1 gc2 gc3 gc4 gc5 gc6 hm
        exfalso; omega
      · intro v3 h hF g0 gc0 gc1 gc2 gc3 gc4 hm
        exfalso; omega
    | succ N ih =>
      obtain ⟨k30, k92⟩ := ih
      refine ⟨?_, ?_⟩
      · intro v3 h hF g0 gc0 gc1 gc2 gc3 gc4 gc5 gc6 hm
        have y27 := hF.1 0 27 rfl rfl
        have hPre := gc4
        obtain ⟨q, eq⟩ : ∃ q : Int, q = h 0 26 := ⟨_, rfl⟩
        have e2 : p + (q - p) = q := by omega
        rw [← eq] at gc5
        refine zW_aload_n (pc' := 31) dX12_readsNumber_1.1.1.1.1 rfl rfl ?_
        have y31_0_27 := hF.1 0 27 rfl rfl
        refine cvI0 (pc' := 34) kX12_here vX12_here lk_X12_132 ⟨Nat.le_of_ble_eq_true rfl, Nat.le_of_ble_eq_true rfl⟩ tb0 vq12 rfl rfl (s_X12_hereP (b := true) (κ := h) hF.2.2.1 (Fr.rf hF.2.1) g q (by rw [hF.cell 12 rfl (fun _ => rfl), hF.1 0 27 rfl rfl]; exact hg) (by omega) (by omega)) dX12_readsNumber_1.1.1.1.2 (Nat.le_of_ble_eq_true rfl) rfl ?_
        rintro r31 z31 ⟨hz31, p31⟩; subst z31
        refine csI1 (pc' := 37) kX12_isDigit vX12_isDigit lk_X12_144 ⟨Nat.le_of_ble_eq_true rfl, Nat.le_of_ble_eq_true rfl⟩ rfl (s_X12_isDigit (b := true) (κ := h) (Fr.rf hF.2.1) _ ⟨by omega, by omega⟩) dX12_readsNumber_1.1.1.2.1 (Nat.le_of_ble_eq_true rfl) rfl ?_
        rintro r34 z34 ⟨hz34, p34⟩; subst z34
        refine zV_if_eq (tgt := 92) (pc' := 40) dX12_readsNumber_1.1.1.2.2 rfl rfl ⟨by omega, by omega⟩ (fun c37 => ?_) (fun c37 => ?_)
        · exact k92 _ _ hF (by omega) (by have l1 : q ≠ p := (fun z => by rw [z] at p31; omega); omega) (by omega) (by omega) hPre (by have nd := nD_end (v := q - p) ⟨by omega, by omega⟩ gc5 (by rw [e2, ← p31.2.2.1]; omega); rw [← eq] at gc3; have l1 : q ≠ p := (fun z => by rw [z] at p31; omega); omega) (by omega)
        · refine zW_aload_n (pc' := 41) dX12_readsNumber_1.1.2.1.1 rfl rfl ?_
          refine zG_int (pc' := 44) fg_X12_123 tb0 rfl dX12_readsNumber_1.1.2.1.2 rfl ?_
          have e41 := hF.rh 0 26
          refine zW_iload_n (pc' := 45) dX12_readsNumber_1.1.2.2.1 rfl rfl ?_
          refine zW_iconst (pc' := 46) dX12_readsNumber_1.1.2.2.2 rfl ?_
          refine zW_iadd (pc' := 47) dX12_readsNumber_1.2.1.1.1 rfl ?_
          refine zV_cm_ne (tgt := 60) (pc' := 50) dX12_readsNumber_1.2.1.1.2 rfl rfl ⟨by omega, by omega⟩ ⟨by omega, by omega⟩ (fun c47 => ?_) (fun c47 => ?_)
          · have bd := nVk_b (v := q - p) gc5 ⟨by omega, by omega⟩
            have dg1 : 48 ≤ g q ∧ g q ≤ 57 := by rw [← p31.2.2.1]; omega
            rw [← eq] at gc3
            refine zW_aload_n (pc' := 61) dX12_readsNumber_2.1.1.1.1 rfl rfl ?_
            refine zW_bipush (pc' := 63) dX12_readsNumber_2.1.1.1.2 rfl rfl ?_
            refine zW_aload_n (pc' := 64) dX12_readsNumber_2.1.1.2.1 rfl rfl ?_
            refine zG_int (pc' := 67) fg_X12_148 tb0 rfl dX12_readsNumber_2.1.1.2.2 rfl ?_
            have e64 := hF.rh 0 29
            refine zW_imul (pc' := 68) dX12_readsNumber_2.1.2.1.1 rfl ?_
            refine zW_aload_n (pc' := 69) dX12_readsNumber_2.1.2.1.2 rfl rfl ?_
            have y69_0_27 := hF.1 0 27 rfl rfl
            refine cvI0 (pc' := 72) kX12_here vX12_here lk_X12_132 ⟨Nat.le_of_ble_eq_true rfl, Nat.le_of_ble_eq_true rfl⟩ tb0 vq12 rfl rfl (s_X12_hereP (b := true) (κ := h) hF.2.2.1 (Fr.rf hF.2.1) g q (by rw [hF.cell 12 rfl (fun _ => rfl), hF.1 0 27 rfl rfl]; exact hg) (by omega) (by omega)) dX12_readsNumber_2.1.2.2.1 (Nat.le_of_ble_eq_true rfl) rfl ?_
            rintro r69 z69 ⟨hz69, p69⟩; subst z69
            refine zW_iadd (pc' := 73) dX12_readsNumber_2.1.2.2.2 rfl ?_
            refine zW_bipush (pc' := 75) dX12_readsNumber_2.2.1.1.1 rfl rfl ?_
            refine zW_isub (pc' := 76) dX12_readsNumber_2.2.1.1.2 rfl ?_
            refine zPm (pc' := 79) hF (Or.inl rfl) (SI_irr hF.2.1 (Or.inl rfl) (fun _ _ => ⟨by omega, by omega⟩)) (KR_irr hF.2.2.1 rfl) (KC_irr hF.2.2.2 rfl) fp_X12_148 tb0 rfl dX12_readsNumber_2.2.1.2.1 rfl (fun h hF w76 => ?_)
            replace hPre : Pre15 κ h := by rw [w76]; exact hPre.w (by decide)
            have t76_0_26 := congrFun (congrFun w76 0) 26
            rw [zwr_ne (Or.inr (by decide))] at t76_0_26
            have t76_0_29 := congrFun (congrFun w76 0) 29
            rw [zwr_eq] at t76_0_29
            have t76_0_31 := congrFun (congrFun w76 0) 31
            rw [zwr_ne (Or.inr (by decide))] at t76_0_31
            have t76_0_28 := congrFun (congrFun w76 0) 28
            rw [zwr_ne (Or.inr (by decide))] at t76_0_28
            refine zW_aload_n (pc' := 80) dX12_readsNumber_2.2.1.2.2 rfl rfl ?_
            refine zW_aload_n (pc' := 81) dX12_readsNumber_2.2.2.1.1 rfl rfl ?_
            refine zG_int (pc' := 84) fg_X12_123 tb0 rfl dX12_readsNumber_2.2.2.1.2 rfl ?_
            have e81 := hF.rh 0 26
            refine zW_iconst (pc' := 85) dX12_readsNumber_2.2.2.2.1 rfl ?_
            refine zW_iadd (pc' := 86) dX12_readsNumber_2.2.2.2.2 rfl ?_
            refine zPm (pc' := 89) hF (Or.inl rfl) (SI_irr hF.2.1 (Or.inl rfl) (fun _ _ => ⟨by omega, by omega⟩)) (KR_irr hF.2.2.1 rfl) (KC_irr hF.2.2.2 rfl) fp_X12_123 tb0 rfl dX12_readsNumber_3.1.1.1.1 rfl (fun h hF w86 => ?_)
            replace hPre : Pre15 κ h := by rw [w86]; exact hPre.w (by decide)
            have t86_0_26 := congrFun (congrFun w86 0) 26
            rw [zwr_eq] at t86_0_26
            have t86_0_29 := congrFun (congrFun w86 0) 29
            rw [zwr_ne (Or.inr (by decide))] at t86_0_29
            have t86_0_31 := congrFun (congrFun w86 0) 31
            rw [zwr_ne (Or.inr (by decide))] at t86_0_31
            have t86_0_28 := congrFun (congrFun w86 0) 28
            rw [zwr_ne (Or.inr (by decide))] at t86_0_28
            refine zV_goto 30 dX12_readsNumber_3.1.1.1.2 rfl ?_
            exact k30 _ _ hF (by omega) (by omega) (by omega) (by omega) (by first | (rw [show h 0 26 - p = 0 by omega]; show h 0 29 = 0; omega) | (rw [show h 0 26 - p = (q - p) + 1 by omega, nVk_s (by omega), e2]; omega)) hPre (by first | (rw [show h 0 26 - p = 0 by omega]; exact DG_0) | (rw [show h 0 26 - p = (q - p) + 1 by omega]; exact DG_s gc5 (by rw [e2]; exact dg1))) (by omega) (by omega)
          · have nd : nD g p = 4 := nD_4 (by rw [show (3 : Int) = q - p by omega]; exact gc5) (by rw [show p + 3 = q by omega, ← p31.2.2.1]; omega)
            have nf := nFc g p x1 x2
            refine zW_aload_n (pc' := 51) dX12_readsNumber_1.2.1.2.1 rfl rfl ?_
            refine zW_iconst (pc' := 52) dX12_readsNumber_1.2.1.2.2 rfl ?_
            refine zW_aload_n (pc' := 53) dX12_readsNumber_1.2.2.1.1 rfl rfl ?_
            refine zG_int (pc' := 56) fg_X12_123 tb0 rfl dX12_readsNumber_1.2.2.1.2 rfl ?_
            have e53 := hF.rh 0 26
            refine cvI2 (pc' := 59) kX12_wrongAt vX12_wrongAt lk_X12_136 ⟨Nat.le_of_ble_eq_true rfl, Nat.le_of_ble_eq_true rfl⟩ tb0 vq12 rfl rfl (s_X12_wrongAtP hF.2.1 hF.2.2.1 hF.2.2.2 _ ⟨by omega, by omega⟩ _ ⟨by omega, by omega⟩) dX12_readsNumber_1.2.2.2.1 (Nat.le_of_ble_eq_true rfl) rfl ?_
            rintro r56 h ⟨hF1, p56⟩; replace hF := hF.tr hF1 rfl
            replace hPre : Pre15 κ h := hPre.fm hF1 (fun _ => rfl)
            have t56_0_26 := hF1.1 0 26 rfl rfl
            have t56_0_29 := hF1.1 0 29 rfl rfl
            have t56_0_31 := hF1.1 0 31 rfl rfl
            exact zV_zret rfl (by omega) dX12_readsNumber_1.2.2.2.2 ⟨hF, by refine ⟨by omega, by omega, by omega, by omega, hPre, by omega, ?_⟩; omega⟩
      · intro v3 h hF g0 gc0 gc1 gc2 gc3 gc4 hm
        have y27 := hF.1 0 27 rfl rfl
        have hPre := gc3
        have nf := nFc g p x1 x2
        refine zW_aload_n (pc' := 93) dX12_readsNumber_3.1.1.2.1 rfl rfl ?_
        refine zG_int (pc' := 96) fg_X12_148 tb0 rfl dX12_readsNumber_3.1.1.2.2 rfl ?_
        have e93 := hF.rh 0 29
        refine zW_iload_n (pc' := 97) dX12_readsNumber_3.1.2.1.1 rfl rfl ?_
        refine zW_iload_n (pc' := 98) dX12_readsNumber_3.1.2.1.2 rfl rfl ?_
        refine csI3 (pc' := 101) kX12_in vX12_in lk_X12_140 ⟨Nat.le_of_ble_eq_true rfl, Nat.le_of_ble_eq_true rfl⟩ rfl (s_X12_inR (b := true) (κ := h) (Fr.rf hF.2.1) _ ⟨by omega, by omega⟩ _ ⟨by omega, by omega⟩ _ ⟨by omega, by omega⟩) dX12_readsNumber_3.1.2.2.1 (Nat.le_of_ble_eq_true rfl) rfl ?_
        rintro r98 z98 ⟨hz98, p98⟩; subst z98
        refine zV_if_ne (tgt := 111) (pc' := 104) dX12_readsNumber_3.1.2.2.2 rfl rfl ⟨by omega, by omega⟩ (fun c101 => ?_) (fun c101 => ?_)
        · refine zW_aload_n (pc' := 112) dX12_readsNumber_3.2.2.1.2 rfl rfl ?_
          refine zG_ref (pc' := 115) 15 fg_X12_54 tb0 rfl dX12_readsNumber_3.2.2.2.1 rfl ?_
          refine zW_aload_n (pc' := 116) dX12_readsNumber_3.2.2.2.2 rfl rfl ?_
          refine zG_int (pc' := 119) fg_X12_151 tb0 rfl dX12_readsNumber_4.1.1.1.1 rfl ?_
          have e116 := hF.rh 0 31
          refine zW_aload_n (pc' := 120) dX12_readsNumber_4.1.1.1.2 rfl rfl ?_
          refine zG_int (pc' := 123) fg_X12_148 tb0 rfl dX12_readsNumber_4.1.1.2 rfl ?_
          have e120 := hF.rh 0 29
          refine zSm (pc' := 124) hF rfl (fun v' hv he => ⟨(SI_irr hF.2.1 (Or.inl (key_of rfl _)) (fun _ _ => hv)), (KR_c15 hF.2.2.1 (by have := he ⟨by omega, by omega⟩; omega)), (KC_irr hF.2.2.2 rfl)⟩) tb15 (by omega) dX12_readsNumber_4.1.2.1.1 (by decide) rfl (fun h i123 hF a123 b123 w123 => ?_)
          replace hPre : Pre15 κ h := by rw [w123]; exact hPre.n (by omega)
          have t123_0_26 := congrFun (congrFun w123 0) 26
          rw [zwr_ne (Or.inl (by decide))] at t123_0_26
          have t123_0_29 := congrFun (congrFun w123 0) 29
          rw [zwr_ne (Or.inl (by decide))] at t123_0_29
          have t123_0_31 := congrFun (congrFun w123 0) 31
          rw [zwr_ne (Or.inl (by decide))] at t123_0_31
          have t123_0_28 := congrFun (congrFun w123 0) 28
          rw [zwr_ne (Or.inl (by decide))] at t123_0_28
          have q123 : h 15 (κ 0 31).toNat = i123 := by rw [w123, ← gc1]; exact zwr_eq
          have q2 := b123 ⟨by omega, by omega⟩
          refine zW_aload_n (pc' := 125) dX12_readsNumber_4.1.2.1.2 rfl rfl ?_
          refine zW_aload_n (pc' := 126) dX12_readsNumber_4.1.2.2 rfl rfl ?_
          refine zG_int (pc' := 129) fg_X12_151 tb0 rfl dX12_readsNumber_4.2.1.1.1 rfl ?_
          have e126 := hF.rh 0 31
          refine zW_iconst (pc' := 130) dX12_readsNumber_4.2.1.1.2 rfl ?_
          refine zW_iadd (pc' := 131) dX12_readsNumber_4.2.1.2 rfl ?_
          refine zPm (pc' := 134) hF (Or.inl rfl) (SI_irr hF.2.1 (Or.inl rfl) (fun _ _ => ⟨by omega, by omega⟩)) (KR_irr hF.2.2.1 rfl) (KC_irr hF.2.2.2 rfl) fp_X12_151 tb0 rfl dX12_readsNumber_4.2.2.1.1 rfl (fun h hF w131 => ?_)
          replace hPre : Pre15 κ h := by rw [w131]; exact hPre.w (by decide)
          have t131_0_26 := congrFun (congrFun w131 0) 26
          rw [zwr_ne (Or.inr (by decide))] at t131_0_26
          have t131_0_29 := congrFun (congrFun w131 0) 29
          rw [zwr_ne (Or.inr (by decide))] at t131_0_29
          have t131_0_31 := congrFun (congrFun w131 0) 31
          rw [zwr_eq] at t131_0_31
          have t131_0_28 := congrFun (congrFun w131 0) 28
          rw [zwr_ne (Or.inr (by decide))] at t131_0_28
          have q131 : h 15 (κ 0 31).toNat = i123 := by rw [w131, zwr_ne (Or.inl (by decide))]; exact q123
          refine zW_iconst (pc' := 135) dX12_readsNumber_4.2.2.1.2 rfl ?_
          exact zV_zret rfl (by omega) dX12_readsNumber_4.2.2.2 ⟨hF, by refine ⟨by omega, by omega, by omega, by omega, hPre, by omega, ?_⟩; omega⟩
        · refine zW_aload_n (pc' := 105) dX12_readsNumber_3.2.1.1.1 rfl rfl ?_
          refine zW_iconst (pc' := 106) dX12_readsNumber_3.2.1.1.2 rfl ?_
          refine zW_iload_n (pc' := 107) dX12_readsNumber_3.2.1.2.1 rfl rfl ?_
          refine cvI2 (pc' := 110) kX12_wrongAt vX12_wrongAt lk_X12_136 ⟨Nat.le_of_ble_eq_true rfl, Nat.le_of_ble_eq_true rfl⟩ tb0 vq12 rfl rfl (s_X12_wrongAtP hF.2.1 hF.2.2.1 hF.2.2.2 _ ⟨by omega, by omega⟩ _ ⟨by omega, by omega⟩) dX12_readsNumber_3.2.1.2.2 (Nat.le_of_ble_eq_true rfl) rfl ?_
          rintro r107 h ⟨hF1, p107⟩; replace hF := hF.tr hF1 rfl
          replace hPre : Pre15 κ h := hPre.fm hF1 (fun _ => rfl)
          have t107_0_26 := hF1.1 0 26 rfl rfl
          have t107_0_29 := hF1.1 0 29 rfl rfl
          have t107_0_31 := hF1.1 0 31 rfl rfl
          exact zV_zret rfl (by omega) dX12_readsNumber_3.2.2.1.1 ⟨hF, by refine ⟨by omega, by omega, by omega, by omega, hPre, by omega, ?_⟩; omega⟩
  refine zM_of [some (.inr (.inr 0)), some (.inl x1), some (.inl x2), none] 1 rfl rfl (Nat.le_of_ble_eq_true rfl) rfl ?_
  refine (show ∀ h : Hp, Fm [(0, 26), (0, 28), (0, 29), (0, 31), (15, 999)] κ h → h = κ → zV G mX12_readsNumber (q_X12_readsNumberP κ x1 x2 g p) 0 [some (.inr (.inr 0)), some (.inl x1), some (.inl x2), none] [] h from fun h hF hk0 => ?_) κ (Fm.rf hS hR hC) rfl
  have y0_0_26 : h 0 26 = κ 0 26 := by rw [hk0]
  have y0_0_27 : h 0 27 = κ 0 27 := by rw [hk0]
  have y0_0_31 : h 0 31 = κ 0 31 := by rw [hk0]
  have hPre : Pre15 κ h := by rw [hk0]; exact Pre15.rf
  refine zW_aload_n (pc' := 1) dX12_readsNumber_0.1.1.1.1 rfl rfl ?_
  refine zG_int (pc' := 4) fg_X12_123 tb0 rfl dX12_readsNumber_0.1.1.1.2 rfl ?_
  have e1 := hF.rh 0 26
  refine zW_istore_n (ls' := [_, _, _, _]) (pc' := 5) dX12_readsNumber_0.1.1.2.1 (by decide) rfl rfl rfl ?_
  refine zW_aload_n (pc' := 6) dX12_readsNumber_0.1.1.2.2 rfl rfl ?_
  have y6_0_27 := hF.1 0 27 rfl rfl
  refine cvI0 (pc' := 9) kX12_here vX12_here lk_X12_132 ⟨Nat.le_of_ble_eq_true rfl, Nat.le_of_ble_eq_true rfl⟩ tb0 vq12 rfl rfl (s_X12_hereP (b := true) (κ := h) hF.2.2.1 (Fr.rf hF.2.1) g p (by rw [hF.cell 12 rfl (fun _ => rfl), hF.1 0 27 rfl rfl]; exact hg) (by omega) (by omega)) dX12_readsNumber_0.1.2.1.1 (Nat.le_of_ble_eq_true rfl) rfl ?_
  rintro r6 z6 ⟨hz6, p6⟩; subst z6
  refine csI1 (pc' := 12) kX12_isDigit vX12_isDigit lk_X12_144 ⟨Nat.le_of_ble_eq_true rfl, Nat.le_of_ble_eq_true rfl⟩ rfl (s_X12_isDigit (b := true) (κ := h) (Fr.rf hF.2.1) _ ⟨by omega, by omega⟩) dX12_readsNumber_0.1.2.1.2 (Nat.le_of_ble_eq_true rfl) rfl ?_
  rintro r9 z9 ⟨hz9, p9⟩; subst z9
  refine zV_if_ne (tgt := 25) (pc' := 15) dX12_readsNumber_0.1.2.2.1 rfl rfl ⟨by omega, by omega⟩ (fun c12 => ?_) (fun c12 => ?_)
  · refine zW_aload_n (pc' := 26) dX12_readsNumber_0.2.2.1.2 rfl rfl ?_
    refine zW_iconst (pc' := 27) dX12_readsNumber_0.2.2.2.1 rfl ?_
    refine zPm (pc' := 30) hF (Or.inl rfl) (SI_irr hF.2.1 (Or.inl rfl) (fun _ _ => ⟨by omega, by omega⟩)) (KR_irr hF.2.2.1 rfl) (KC_irr hF.2.2.2 rfl) fp_X12_148 tb0 rfl dX12_readsNumber_0.2.2.2.2 rfl (fun h hF w27 => ?_)
    replace hPre : Pre15 κ h := by rw [w27]; exact hPre.w (by decide)
    have t27_0_26 := congrFun (congrFun w27 0) 26
    rw [zwr_ne (Or.inr (by decide))] at t27_0_26
    have t27_0_29 := congrFun (congrFun w27 0) 29
    rw [zwr_eq] at t27_0_29
    have t27_0_31 := congrFun (congrFun w27 0) 31
    rw [zwr_ne (Or.inr (by decide))] at t27_0_31
    have t27_0_28 := congrFun (congrFun w27 0) 28
    rw [zwr_ne (Or.inr (by decide))] at t27_0_28
    exact (main 10000000000000000000000000000000000000000).1 _ _ hF (by omega) (by omega) (by omega) (by omega) (by first | (rw [show h 0 26 - p = 0 by omega]; show h 0 29 = 0; omega) | (rw [show h 0 26 - p = (q - p) + 1 by omega, nVk_s (by omega), e2]; omega)) hPre (by first | (rw [show h 0 26 - p = 0 by omega]; exact DG_0) | (rw [show h 0 26 - p = (q - p) + 1 by omega]; exact DG_s gc5 (by rw [e2]; exact dg1))) (by omega) (by omega)
  · have nd : nD g p = 0 := by unfold nD; rw [if_neg (by omega)]
    have nf := nFc g p x1 x2
    refine zW_aload_n (pc' := 16) dX12_readsNumber_0.1.2.2.2 rfl rfl ?_
    refine zW_iconst (pc' := 17) dX12_readsNumber_0.2.1.1.1 rfl ?_
    refine zW_aload_n (pc' := 18) dX12_readsNumber_0.2.1.1.2 rfl rfl ?_
    refine zG_int (pc' := 21) fg_X12_123 tb0 rfl dX12_readsNumber_0.2.1.2.1 rfl ?_
    have e18 := hF.rh 0 26
    refine cvI2 (pc' := 24) kX12_wrongAt vX12_wrongAt lk_X12_136 ⟨Nat.le_of_ble_eq_true rfl, Nat.le_of_ble_eq_true rfl⟩ tb0 vq12 rfl rfl (s_X12_wrongAtP hF.2.1 hF.2.2.1 hF.2.2.2 _ ⟨by omega, by omega⟩ _ ⟨by omega, by omega⟩) dX12_readsNumber_0.2.1.2.2 (Nat.le_of_ble_eq_true rfl) rfl ?_
    rintro r21 h ⟨hF1, p21⟩; replace hF := hF.tr hF1 rfl
    replace hPre : Pre15 κ h := hPre.fm hF1 (fun _ => rfl)
    have t21_0_26 := hF1.1 0 26 rfl rfl
    have t21_0_29 := hF1.1 0 29 rfl rfl
    have t21_0_31 := hF1.1 0 31 rfl rfl
    exact zV_zret rfl (by omega) dX12_readsNumber_0.2.2.1.1 ⟨hF, by refine ⟨by omega, by omega, by omega, by omega, hPre, by omega, ?_⟩; omega⟩

abbrev q_X12_readsNextP (κ : Hp) (x1 : Int) (x2 : Int) (g : Int → Int) (p : Int) : Int → Hp → Prop := fun r h' => Fm [(0, 26), (0, 28), (0, 29), (0, 31), (15, 999)] κ h' ∧ ((0 ≤ r) ∧ (r ≤ 1) ∧ (κ 0 26 ≤ h' 0 26 ∧ h' 0 26 ≤ κ 0 27 ∧ Pre15 κ h' ∧ ((r = 1 ∧ h' 0 31 = κ 0 31 + 1 ∧ κ 0 26 + 1 < h' 0 26) ∨ (r = 0 ∧ h' 0 31 = κ 0 31)) ∧ ((r = 1 ∧ nxF g p x2 = 0 ∧ h' 0 26 = nxE g p) ∨ (r = 0 ∧ nxF g p x2 ≠ 0 ∧ h' 0 28 = nxF g p x2 ∧ h' 0 28 < 0))))
set_option maxHeartbeats 4000000 in
set_option maxRecDepth 20000 in
theorem s_X12_readsNextP {G : Ga} {κ : Hp} (hS : SI κ) (hR : KR κ) (hC : KC κ) (x1 : Int) (hx1 : 0 ≤ x1 ∧ x1 ≤ 0) (x2 : Int) (hx2 : 0 ≤ x2 ∧ x2 ≤ 255) (g : Int → Int) (p : Int) (hp : 0 ≤ κ 0 26 ∧ κ 0 26 ≤ κ 0 27 ∧ κ 0 27 ≤ 120) (hq : 0 ≤ κ 0 31 ∧ κ 0 31 ≤ κ 0 26) (hg : hr (fun i => κ 12 i % 256) (κ 0 27) = g) (ht : κ 0 26 = p) : zM G mX12_readsNext yX12_readsNext [.inr (.inr 0), .inl x1, .inl x2] κ (q_X12_readsNextP κ x1 x2 g p) := by
  have u1 : nxF g p x2 = sq (sF g p 44) (nF g (p + 1) 0 x2) := rfl
  have u2 := sqc (sF g p 44) (nF g (p + 1) 0 x2)
  have u3 : nxE g p = p + 1 + nD g (p + 1) := rfl
  refine zM_of [some (.inr (.inr 0)), some (.inl x1), some (.inl x2)] 0 rfl rfl (Nat.le_of_ble_eq_true rfl) rfl ?_
  refine (show ∀ h : Hp, Fm [(0, 26), (0, 28), (0, 29), (0, 31), (15, 999)] κ h → h = κ → zV G mX12_readsNext (q_X12_readsNextP κ x1 x2 g p) 0 [some (.inr (.inr 0)), some (.inl x1), some (.inl x2)] [] h from fun h hF hk0 => ?_) κ (Fm.rf hS hR hC) rfl
  have y0_0_26 : h 0 26 = κ 0 26 := by rw [hk0]
  have y0_0_27 : h 0 27 = κ 0 27 := by rw [hk0]
  have y0_0_31 : h 0 31 = κ 0 31 := by rw [hk0]
  have hPre : Pre15 κ h := by rw [hk0]; exact Pre15.rf
  refine zW_aload_n (pc' := 1) dX12_readsNext_0.1.1.1.1 rfl rfl ?_
  refine zW_bipush (pc' := 3) dX12_readsNext_0.1.1.1.2 rfl rfl ?_
  have y27 := hF.1 0 27 rfl rfl
  have y3_0_27 := hF.1 0 27 rfl rfl
  refine cvI1 (pc' := 6) kX12_takesSign vX12_takesSign lk_X12_154 ⟨Nat.le_of_ble_eq_true rfl, Nat.le_of_ble_eq_true rfl⟩ tb0 vq12 rfl rfl (s_X12_takesSignP hF.2.1 hF.2.2.1 hF.2.2.2 _ ⟨by omega, by omega⟩ g p (by rw [hF.cell 12 rfl (fun _ => rfl), hF.1 0 27 rfl rfl]; exact hg) (by omega) (by omega)) dX12_readsNext_0.1.1.2.1 (Nat.le_of_ble_eq_true rfl) rfl ?_
  rintro r3 h ⟨hF1, p3⟩; replace hF := hF.tr hF1 rfl
  replace hPre : Pre15 κ h := hPre.fm hF1 (fun _ => rfl)
  have t3_0_31 := hF1.1 0 31 rfl rfl
  refine zV_if_eq (tgt := 22) (pc' := 9) dX12_readsNext_0.1.1.2.2 rfl rfl ⟨by omega, by omega⟩ (fun c6 => ?_) (fun c6 => ?_)
  · refine zW_iconst (pc' := 23) dX12_readsNext_0.2.2.1.2 rfl ?_
    exact zV_zret rfl (by omega) dX12_readsNext_0.2.2.2 ⟨hF, by refine ⟨by omega, by omega, by omega, by omega, hPre, by omega, ?_⟩; omega⟩
  · refine zW_aload_n (pc' := 10) dX12_readsNext_0.1.2.1.1 rfl rfl ?_
    refine zW_iload_n (pc' := 11) dX12_readsNext_0.1.2.1.2 rfl rfl ?_
    refine zW_iload_n (pc' := 12) dX12_readsNext_0.1.2.2 rfl rfl ?_
    have y27 := hF.1 0 27 rfl rfl
    have e0 : x1 = 0 := by omega
    subst e0
    have y12_0_27 := hF.1 0 27 rfl rfl
    refine cvI2 (pc' := 15) kX12_readsNumber vX12_readsNumber lk_X12_157 ⟨Nat.le_of_ble_eq_true rfl, Nat.le_of_ble_eq_true rfl⟩ tb0 vq12 rfl rfl (s_X12_readsNumberP hF.2.1 hF.2.2.1 hF.2.2.2 _ ⟨by omega, by omega⟩ _ ⟨by omega, by omega⟩ g (p + 1) (by omega) (by omega) (by rw [hF.cell 12 rfl (fun _ => rfl), hF.1 0 27 rfl rfl]; exact hg) (by omega)) dX12_readsNext_0.2.1.1.1 (Nat.le_of_ble_eq_true rfl) rfl ?_
    rintro r12 h ⟨hF1, p12⟩; replace hF := hF.tr hF1 rfl
    replace hPre : Pre15 κ h := hPre.tr p12.2.2.2.2.1 (by omega)
    refine zV_if_eq (tgt := 22) (pc' := 18) dX12_readsNext_0.2.1.1.2 rfl rfl ⟨by omega, by omega⟩ (fun c15 => ?_) (fun c15 => ?_)
    · refine zW_iconst (pc' := 23) dX12_readsNext_0.2.2.1.2 rfl ?_
      exact zV_zret rfl (by omega) dX12_readsNext_0.2.2.2 ⟨hF, by refine ⟨by omega, by omega, by omega, by omega, hPre, by omega, ?_⟩; omega⟩
    · refine zW_iconst (pc' := 19) dX12_readsNext_0.2.1.2 rfl ?_
      refine zV_goto 23 dX12_readsNext_0.2.2.1.1 rfl ?_
      exact zV_zret rfl (by omega) dX12_readsNext_0.2.2.2 ⟨hF, by refine ⟨by omega, by omega, by omega, by omega, hPre, by omega, ?_⟩; omega⟩

abbrev q_X12_readsCurveP (κ : Hp) (g : Int → Int) (p : Int) : Int → Hp → Prop := fun r h' => Fm [(0, 26), (0, 28), (0, 29), (0, 31), (15, 999)] κ h' ∧ ((0 ≤ r) ∧ (r ≤ 1) ∧ (κ 0 26 ≤ h' 0 26 ∧ h' 0 26 ≤ κ 0 27 ∧ Pre15 κ h' ∧ κ 0 31 ≤ h' 0 31 ∧ h' 0 31 ≤ h' 0 26 ∧ (r = 1 → Cv h' (κ 0 31) (h' 0 31)) ∧ ((r = 1 ∧ cuF g 200 p (-1) = 0 ∧ h' 0 26 = cuE g 200 p (-1)) ∨ (r = 0 ∧ cuF g 200 p (-1) ≠ 0 ∧ h' 0 28 = cuF g 200 p (-1) ∧ h' 0 28 < 0))))
set_option maxHeartbeats 4000000 in
set_option maxRecDepth 20000 in
theorem s_X12_readsCurveP {G : Ga} {κ : Hp} (hS : SI κ) (hR : KR κ) (hC : KC κ) (g : Int → Int) (p : Int) (hp : 0 ≤ κ 0 26 ∧ κ 0 26 ≤ κ 0 27 ∧ κ 0 27 ≤ 120) (hq : 0 ≤ κ 0 31 ∧ κ 0 31 ≤ κ 0 26) (hg : hr (fun i => κ 12 i % 256) (κ 0 27) = g) (ht : κ 0 26 = p) : zM G mX12_readsCurve yX12_readsCurve [.inr (.inr 0)] κ (q_X12_readsCurveP κ g p) := by
  have main : ∀ N : Nat, (∀ (v1 : Int) (h : Hp), Fm [(0, 26), (0, 28), (0, 29), (0, 31), (15, 999)] κ h → (-1 ≤ v1 ∧ v1 ≤ 255) → (κ 0 26 ≤ h 0 26 ∧ h 0 26 ≤ κ 0 27) → (κ 0 31 ≤ h 0 31 ∧ h 0 31 ≤ h 0 26) → (Pre15 κ h) → (CvI h (κ 0 31) (h 0 31) v1) → (CuI g p (h 0 26) v1) → 308112 + 49 * (κ 0 27 - h 0 26) + 48 < (N : Int) → zV G mX12_readsCurve (q_X12_readsCurveP κ g p) 2 [some (.inr (.inr 0)), some (.inl v1)] [] h) := by
    intro N
    induction N with
    | zero =>
      intro v1 h hF g0 gc0 gc1 gc2 gc3 gc4 hm
      exfalso; omega
    | succ N ih =>
      have k2 := ih
      intro v1 h hF g0 gc0 gc1 gc2 gc3 gc4 hm
      have y27 := hF.1 0 27 rfl rfl
      have hPre := gc2
      obtain ⟨hA, eA⟩ : ∃ z : Hp, z = h := ⟨_, rfl⟩
      have hPA : Pre15 hA h := by rw [eA]; exact Pre15.rf
      have eA26 : hA 0 26 = h 0 26 := by rw [eA]
      have eA31 : hA 0 31 = h 0 31 := by rw [eA]
      have hcvA : CvI hA (κ 0 31) (hA 0 31) v1 := by rw [eA]; exact gc3
      obtain ⟨q, eq⟩ : ∃ q : Int, q = h 0 26 := ⟨_, rfl⟩
      have cu := gc4
      rw [← eq] at cu
      refine zW_iload_n (pc' := 3) dX12_readsCurve_0.1.1.2.1 rfl rfl ?_
      refine zW_sipush (pc' := 6) dX12_readsCurve_0.1.1.2.2 rfl rfl ?_
      refine zV_cm_eq (tgt := 85) (pc' := 9) dX12_readsCurve_0.1.2.1.1 rfl rfl ⟨by omega, by omega⟩ ⟨by omega, by omega⟩ (fun c6 => ?_) (fun c6 => ?_)
      · refine zW_iconst (pc' := 86) dX12_readsCurve_2.2.2.2.2 rfl ?_
        exact zV_zret rfl (by omega) dX12_readsCurve_3 ⟨hF, by have en := (show CuI g p (h 0 26) 255 from c6 ▸ gc4).end; refine ⟨by omega, by omega, by omega, by omega, hPre, by omega, by omega, fun _ => (show CvI h (κ 0 31) (h 0 31) 255 from c6 ▸ gc3).end, by omega⟩⟩
      · refine zW_iload_n (pc' := 10) dX12_readsCurve_0.1.2.1.2 rfl rfl ?_
        refine zW_iconst (pc' := 11) dX12_readsCurve_0.1.2.2.1 rfl ?_
        refine zV_cm_eq (tgt := 25) (pc' := 14) dX12_readsCurve_0.1.2.2.2 rfl rfl ⟨by omega, by omega⟩ ⟨by omega, by omega⟩ (fun c11 => ?_) (fun c11 => ?_)
        · first | (have e1 : v1 = -1 := (by omega); obtain ⟨w, ew⟩ : ∃ w : Int, w = q := ⟨_, rfl⟩; have pt : ptF g q v1 = sq (sq (nF g w 0 0) (sF g (w + nD g w) 62)) (nF g (w + nD g w + 1) 0 255) ∧ ptX g q v1 = nV g w ∧ ptE g q v1 = w + nD g w + 1 + nD g (w + nD g w + 1) := (by rw [ew, e1]; exact ⟨rfl, rfl, rfl⟩); have c1 := sqc (nF g w 0 0) (sF g (w + nD g w) 62); have c2 := sqc (sq (nF g w 0 0) (sF g (w + nD g w) 62)) (nF g (w + nD g w + 1) 0 255)) | (have e1 : v1 ≠ -1 := (by omega); obtain ⟨w, ew⟩ : ∃ w : Int, w = q + 1 := ⟨_, rfl⟩; have pt : ptF g q v1 = sq (sF g q 44) (sq (sq (nF g w (v1 + 1) 255) (sF g (w + nD g w) 62)) (nF g (w + nD g w + 1) 0 255)) ∧ ptX g q v1 = nV g w ∧ ptE g q v1 = w + nD g w + 1 + nD g (w + nD g w + 1) := (by rw [ew]; exact ptF_1 (by omega)); have c1 := sqc (nF g w (v1 + 1) 255) (sF g (w + nD g w) 62); have c2 := sqc (sq (nF g w (v1 + 1) 255) (sF g (w + nD g w) 62)) (nF g (w + nD g w + 1) 0 255); have c3 := sqc (sF g q 44) (sq (sq (nF g w (v1 + 1) 255) (sF g (w + nD g w) 62)) (nF g (w + nD g w + 1) 0 255)))
          refine zW_aload_n (pc' := 26) dX12_readsCurve_0.2.2.2.1 rfl rfl ?_
          refine zW_iload_n (pc' := 27) dX12_readsCurve_0.2.2.2.2 rfl rfl ?_
          refine zW_iconst (pc' := 28) dX12_readsCurve_1.1.1.1.1 rfl ?_
          refine zV_cm_ne (tgt := 35) (pc' := 31) dX12_readsCurve_1.1.1.1.2 rfl rfl ⟨by omega, by omega⟩ ⟨by omega, by omega⟩ (fun c28 => ?_) (fun c28 => ?_)
          · exfalso; omega
          · refine zW_iconst (pc' := 32) dX12_readsCurve_1.1.1.2.1 rfl ?_
            refine zV_goto 38 dX12_readsCurve_1.1.1.2.2 rfl ?_
            refine zW_iload_n (pc' := 39) dX12_readsCurve_1.1.2.2.2 rfl rfl ?_
            refine zW_iconst (pc' := 40) dX12_readsCurve_1.2.1.1.1 rfl ?_
            refine zV_cm_ne (tgt := 47) (pc' := 43) dX12_readsCurve_1.2.1.1.2 rfl rfl ⟨by omega, by omega⟩ ⟨by omega, by omega⟩ (fun c40 => ?_) (fun c40 => ?_)
            · exfalso; omega
            · refine zW_iconst (pc' := 44) dX12_readsCurve_1.2.1.2.1 rfl ?_
              refine zV_goto 50 dX12_readsCurve_1.2.1.2.2 rfl ?_
              have y27 := hF.1 0 27 rfl rfl
              obtain ⟨hB, eB⟩ : ∃ z : Hp, z = h := ⟨_, rfl⟩
              have eB31 : hB 0 31 = hA 0 31 := by rw [eB]; omega
              have eB26 : hB 0 26 = h 0 26 := by rw [eB]
              have eB27 : hB 0 27 = h 0 27 := by rw [eB]
              have y50_0_27 := hF.1 0 27 rfl rfl
              refine cvI2 (pc' := 53) kX12_readsNumber vX12_readsNumber lk_X12_157 ⟨Nat.le_of_ble_eq_true rfl, Nat.le_of_ble_eq_true rfl⟩ tb0 vq12 rfl rfl (s_X12_readsNumberP hF.2.1 hF.2.2.1 hF.2.2.2 _ ⟨by omega, by omega⟩ _ ⟨by omega, by omega⟩ g w (by omega) (by omega) (by rw [hF.cell 12 rfl (fun _ => rfl), hF.1 0 27 rfl rfl]; exact hg) (by omega)) dX12_readsCurve_1.2.2.1.2 (Nat.le_of_ble_eq_true rfl) rfl ?_
              rintro r50 h ⟨hF1, p50⟩; replace hF := hF.tr hF1 rfl
              replace hPre : Pre15 κ h := hPre.tr p50.2.2.2.2.1 (by omega)
              replace hPA : Pre15 hA h := hPA.tr p50.2.2.2.2.1 (by omega)
              refine zV_if_ne (tgt := 58) (pc' := 56) dX12_readsCurve_1.2.2.2.1 rfl rfl ⟨by omega, by omega⟩ (fun c53 => ?_) (fun c53 => ?_)
              · rw [← eB] at p50
                have hv1 := (p50.2.2.2.2.2.1.resolve_right (fun q => by omega)).2.2.2.2.2
                rw [eB31] at hv1
                refine zW_aload_n (pc' := 59) dX12_readsCurve_2.1.1.1.2 rfl rfl ?_
                refine zG_int (pc' := 62) fg_X12_148 tb0 rfl dX12_readsCurve_2.1.1.2.1 rfl ?_
                have e59 := hF.rh 0 29
                refine zW_istore_n (ls' := [_, _]) (pc' := 63) dX12_readsCurve_2.1.1.2.2 (by decide) rfl rfl rfl ?_
                refine zW_aload_n (pc' := 64) dX12_readsCurve_2.1.2.1.1 rfl rfl ?_
                refine zW_bipush (pc' := 66) dX12_readsCurve_2.1.2.1.2 rfl rfl ?_
                have y27 := hF.1 0 27 rfl rfl
                have y66_0_27 := hF.1 0 27 rfl rfl
                refine cvI1 (pc' := 69) kX12_takesSign vX12_takesSign lk_X12_154 ⟨Nat.le_of_ble_eq_true rfl, Nat.le_of_ble_eq_true rfl⟩ tb0 vq12 rfl rfl (s_X12_takesSignP hF.2.1 hF.2.2.1 hF.2.2.2 _ ⟨by omega, by omega⟩ g (w + nD g w) (by rw [hF.cell 12 rfl (fun _ => rfl), hF.1 0 27 rfl rfl]; exact hg) (by omega) (by omega)) dX12_readsCurve_2.1.2.2.1 (Nat.le_of_ble_eq_true rfl) rfl ?_
                rintro r66 h ⟨hF1, p66⟩; replace hF := hF.tr hF1 rfl
                replace hPre : Pre15 κ h := hPre.fm hF1 (fun _ => rfl)
                replace hPA : Pre15 hA h := hPA.fm hF1 (fun _ => rfl)
                have t66_0_31 := hF1.1 0 31 rfl rfl
                have t66_0_29 := hF1.1 0 29 rfl rfl
                have hv2 := (hF1.1 15 (hA 0 31).toNat rfl rfl).trans hv1
                refine zV_if_eq (tgt := 83) (pc' := 72) dX12_readsCurve_2.1.2.2.2 rfl rfl ⟨by omega, by omega⟩ (fun c69 => ?_) (fun c69 => ?_)
                · have bd := cu.bad (by omega) (by omega) (by omega)
                  refine zW_iconst (pc' := 84) dX12_readsCurve_2.2.2.1.2 rfl ?_
                  exact zV_zret rfl (by omega) dX12_readsCurve_2.2.2.2.1 ⟨hF, by refine ⟨by omega, by omega, by omega, by omega, hPre, by omega, by omega, fun q => by omega, by omega⟩⟩
                · refine zW_aload_n (pc' := 73) dX12_readsCurve_2.2.1.1.1 rfl rfl ?_
                  refine zW_iconst (pc' := 74) dX12_readsCurve_2.2.1.1.2 rfl ?_
                  refine zW_sipush (pc' := 77) dX12_readsCurve_2.2.1.2.1 rfl rfl ?_
                  have y27 := hF.1 0 27 rfl rfl
                  have y77_0_27 := hF.1 0 27 rfl rfl
                  refine cvI2 (pc' := 80) kX12_readsNumber vX12_readsNumber lk_X12_157 ⟨Nat.le_of_ble_eq_true rfl, Nat.le_of_ble_eq_true rfl⟩ tb0 vq12 rfl rfl (s_X12_readsNumberP hF.2.1 hF.2.2.1 hF.2.2.2 _ ⟨by omega, by omega⟩ _ ⟨by omega, by omega⟩ g (w + nD g w + 1) (by omega) (by omega) (by rw [hF.cell 12 rfl (fun _ => rfl), hF.1 0 27 rfl rfl]; exact hg) (by omega)) dX12_readsCurve_2.2.1.2.2 (Nat.le_of_ble_eq_true rfl) rfl ?_
                  rintro r77 h ⟨hF1, p77⟩; replace hF := hF.tr hF1 rfl
                  replace hPre : Pre15 κ h := hPre.tr p77.2.2.2.2.1 (by omega)
                  replace hPA : Pre15 hA h := hPA.tr p77.2.2.2.2.1 (by omega)
                  have hv3 := (p77.2.2.2.2.1 (hA 0 31).toNat (by omega)).trans hv2
                  have hcs := fun (q : r77 = 1) => CvI.step (h := hA) (h' := h) (a := κ 0 31) (b := hA 0 31) (by omega) hcvA (fun j hj => hPA j hj) hv3 (by omega)
                  refine zV_if_ne (tgt := 2) (pc' := 83) dX12_readsCurve_2.2.2.1.1 rfl rfl ⟨by omega, by omega⟩ (fun c80 => ?_) (fun c80 => ?_)
                  · exact k2 _ _ hF (by omega) (by omega) (by omega) hPre (by first | exact Or.inl ⟨rfl, by omega⟩ | (rw [show h 0 31 = hA 0 31 + 2 by omega]; exact hcs (by omega))) (by first | (rw [show h 0 26 = p by omega]; exact CuI.rf (by omega)) | exact cu.step (by omega) (by omega) (by omega) (by omega) (by omega) (by omega)) (by omega)
                  · have bd := cu.bad (by omega) (by omega) (by omega)
                    refine zW_iconst (pc' := 84) dX12_readsCurve_2.2.2.1.2 rfl ?_
                    exact zV_zret rfl (by omega) dX12_readsCurve_2.2.2.2.1 ⟨hF, by refine ⟨by omega, by omega, by omega, by omega, hPre, by omega, by omega, fun q => by omega, by omega⟩⟩
              · have bd := cu.bad (by omega) (by omega) (by omega)
                refine zW_iconst (pc' := 57) dX12_readsCurve_1.2.2.2.2 rfl ?_
                exact zV_zret rfl (by omega) dX12_readsCurve_2.1.1.1.1 ⟨hF, by refine ⟨by omega, by omega, by omega, by omega, hPre, by omega, by omega, fun q => by omega, by omega⟩⟩
        · refine zW_aload_n (pc' := 15) dX12_readsCurve_0.2.1.1.1 rfl rfl ?_
          refine zW_bipush (pc' := 17) dX12_readsCurve_0.2.1.1.2 rfl rfl ?_
          have y27 := hF.1 0 27 rfl rfl
          have y17_0_27 := hF.1 0 27 rfl rfl
          refine cvI1 (pc' := 20) kX12_takesSign vX12_takesSign lk_X12_154 ⟨Nat.le_of_ble_eq_true rfl, Nat.le_of_ble_eq_true rfl⟩ tb0 vq12 rfl rfl (s_X12_takesSignP hF.2.1 hF.2.2.1 hF.2.2.2 _ ⟨by omega, by omega⟩ g q (by rw [hF.cell 12 rfl (fun _ => rfl), hF.1 0 27 rfl rfl]; exact hg) (by omega) (by omega)) dX12_readsCurve_0.2.1.2.1 (Nat.le_of_ble_eq_true rfl) rfl ?_
          rintro r17 h ⟨hF1, p17⟩; replace hF := hF.tr hF1 rfl
          replace hPre : Pre15 κ h := hPre.fm hF1 (fun _ => rfl)
          replace hPA : Pre15 hA h := hPA.fm hF1 (fun _ => rfl)
          have t17_0_31 := hF1.1 0 31 rfl rfl
          have t17_0_29 := hF1.1 0 29 rfl rfl
          refine zV_if_ne (tgt := 25) (pc' := 23) dX12_readsCurve_0.2.1.2.2 rfl rfl ⟨by omega, by omega⟩ (fun c20 => ?_) (fun c20 => ?_)
          · first | (have e1 : v1 = -1 := (by omega); obtain ⟨w, ew⟩ : ∃ w : Int, w = q := ⟨_, rfl⟩; have pt : ptF g q v1 = sq (sq (nF g w 0 0) (sF g (w + nD g w) 62)) (nF g (w + nD g w + 1) 0 255) ∧ ptX g q v1 = nV g w ∧ ptE g q v1 = w + nD g w + 1 + nD g (w + nD g w + 1) := (by rw [ew, e1]; exact ⟨rfl, rfl, rfl⟩); have c1 := sqc (nF g w 0 0) (sF g (w + nD g w) 62); have c2 := sqc (sq (nF g w 0 0) (sF g (w + nD g w) 62)) (nF g (w + nD g w + 1) 0 255)) | (have e1 : v1 ≠ -1 := (by omega); obtain ⟨w, ew⟩ : ∃ w : Int, w = q + 1 := ⟨_, rfl⟩; have pt : ptF g q v1 = sq (sF g q 44) (sq (sq (nF g w (v1 + 1) 255) (sF g (w + nD g w) 62)) (nF g (w + nD g w + 1) 0 255)) ∧ ptX g q v1 = nV g w ∧ ptE g q v1 = w + nD g w + 1 + nD g (w + nD g w + 1) := (by rw [ew]; exact ptF_1 (by omega)); have c1 := sqc (nF g w (v1 + 1) 255) (sF g (w + nD g w) 62); have c2 := sqc (sq (nF g w (v1 + 1) 255) (sF g (w + nD g w) 62)) (nF g (w + nD g w + 1) 0 255); have c3 := sqc (sF g q 44) (sq (sq (nF g w (v1 + 1) 255) (sF g (w + nD g w) 62)) (nF g (w + nD g w + 1) 0 255)))
            refine zW_aload_n (pc' := 26) dX12_readsCurve_0.2.2.2.1 rfl rfl ?_
            refine zW_iload_n (pc' := 27) dX12_readsCurve_0.2.2.2.2 rfl rfl ?_
            refine zW_iconst (pc' := 28) dX12_readsCurve_1.1.1.1.1 rfl ?_
            refine zV_cm_ne (tgt := 35) (pc' := 31) dX12_readsCurve_1.1.1.1.2 rfl rfl ⟨by omega, by omega⟩ ⟨by omega, by omega⟩ (fun c28 => ?_) (fun c28 => ?_)
            · refine zW_iload_n (pc' := 36) dX12_readsCurve_1.1.2.1.1 rfl rfl ?_
              refine zW_iconst (pc' := 37) dX12_readsCurve_1.1.2.1.2 rfl ?_
              refine zW_iadd (pc' := 38) dX12_readsCurve_1.1.2.2.1 rfl ?_
              refine zW_iload_n (pc' := 39) dX12_readsCurve_1.1.2.2.2 rfl rfl ?_
              refine zW_iconst (pc' := 40) dX12_readsCurve_1.2.1.1.1 rfl ?_
              refine zV_cm_ne (tgt := 47) (pc' := 43) dX12_readsCurve_1.2.1.1.2 rfl rfl ⟨by omega, by omega⟩ ⟨by omega, by omega⟩ (fun c40 => ?_) (fun c40 => ?_)
              · refine zW_sipush (pc' := 50) dX12_readsCurve_1.2.2.1.1 rfl rfl ?_
                have y27 := hF.1 0 27 rfl rfl
                obtain ⟨hB, eB⟩ : ∃ z : Hp, z = h := ⟨_, rfl⟩
                have eB31 : hB 0 31 = hA 0 31 := by rw [eB]; omega
                have eB26 : hB 0 26 = h 0 26 := by rw [eB]
                have eB27 : hB 0 27 = h 0 27 := by rw [eB]
                have y50_0_27 := hF.1 0 27 rfl rfl
                refine cvI2 (pc' := 53) kX12_readsNumber vX12_readsNumber lk_X12_157 ⟨Nat.le_of_ble_eq_true rfl, Nat.le_of_ble_eq_true rfl⟩ tb0 vq12 rfl rfl (s_X12_readsNumberP hF.2.1 hF.2.2.1 hF.2.2.2 _ ⟨by omega, by omega⟩ _ ⟨by omega, by omega⟩ g w (by omega) (by omega) (by rw [hF.cell 12 rfl (fun _ => rfl), hF.1 0 27 rfl rfl]; exact hg) (by omega)) dX12_readsCurve_1.2.2.1.2 (Nat.le_of_ble_eq_true rfl) rfl ?_
                rintro r50 h ⟨hF1, p50⟩; replace hF := hF.tr hF1 rfl
                replace hPre : Pre15 κ h := hPre.tr p50.2.2.2.2.1 (by omega)
                replace hPA : Pre15 hA h := hPA.tr p50.2.2.2.2.1 (by omega)
                refine zV_if_ne (tgt := 58) (pc' := 56) dX12_readsCurve_1.2.2.2.1 rfl rfl ⟨by omega, by omega⟩ (fun c53 => ?_) (fun c53 => ?_)
                · rw [← eB] at p50
                  have hv1 := (p50.2.2.2.2.2.1.resolve_right (fun q => by omega)).2.2.2.2.2
                  rw [eB31] at hv1
                  refine zW_aload_n (pc' := 59) dX12_readsCurve_2.1.1.1.2 rfl rfl ?_
                  refine zG_int (pc' := 62) fg_X12_148 tb0 rfl dX12_readsCurve_2.1.1.2.1 rfl ?_
                  have e59 := hF.rh 0 29
                  refine zW_istore_n (ls' := [_, _]) (pc' := 63) dX12_readsCurve_2.1.1.2.2 (by decide) rfl rfl rfl ?_
                  refine zW_aload_n (pc' := 64) dX12_readsCurve_2.1.2.1.1 rfl rfl ?_
                  refine zW_bipush (pc' := 66) dX12_readsCurve_2.1.2.1.2 rfl rfl ?_
                  have y27 := hF.1 0 27 rfl rfl
                  have y66_0_27 := hF.1 0 27 rfl rfl
                  refine cvI1 (pc' := 69) kX12_takesSign vX12_takesSign lk_X12_154 ⟨Nat.le_of_ble_eq_true rfl, Nat.le_of_ble_eq_true rfl⟩ tb0 vq12 rfl rfl (s_X12_takesSignP hF.2.1 hF.2.2.1 hF.2.2.2 _ ⟨by omega, by omega⟩ g (w + nD g w) (by rw [hF.cell 12 rfl (fun _ => rfl), hF.1 0 27 rfl rfl]; exact hg) (by omega) (by omega)) dX12_readsCurve_2.1.2.2.1 (Nat.le_of_ble_eq_true rfl) rfl ?_
                  rintro r66 h ⟨hF1, p66⟩; replace hF := hF.tr hF1 rfl
                  replace hPre : Pre15 κ h := hPre.fm hF1 (fun _ => rfl)
                  replace hPA : Pre15 hA h := hPA.fm hF1 (fun _ => rfl)
                  have t66_0_31 := hF1.1 0 31 rfl rfl
                  have t66_0_29 := hF1.1 0 29 rfl rfl
                  have hv2 := (hF1.1 15 (hA 0 31).toNat rfl rfl).trans hv1
                  refine zV_if_eq (tgt := 83) (pc' := 72) dX12_readsCurve_2.1.2.2.2 rfl rfl ⟨by omega, by omega⟩ (fun c69 => ?_) (fun c69 => ?_)
                  · have bd := cu.bad (by omega) (by omega) (by omega)
                    refine zW_iconst (pc' := 84) dX12_readsCurve_2.2.2.1.2 rfl ?_
                    exact zV_zret rfl (by omega) dX12_readsCurve_2.2.2.2.1 ⟨hF, by refine ⟨by omega, by omega, by omega, by omega, hPre, by omega, by omega, fun q => by omega, by omega⟩⟩
                  · refine zW_aload_n (pc' := 73) dX12_readsCurve_2.2.1.1.1 rfl rfl ?_
                    refine zW_iconst (pc' := 74) dX12_readsCurve_2.2.1.1.2 rfl ?_
                    refine zW_sipush (pc' := 77) dX12_readsCurve_2.2.1.2.1 rfl rfl ?_
                    have y27 := hF.1 0 27 rfl rfl
                    have y77_0_27 := hF.1 0 27 rfl rfl
                    refine cvI2 (pc' := 80) kX12_readsNumber vX12_readsNumber lk_X12_157 ⟨Nat.le_of_ble_eq_true rfl, Nat.le_of_ble_eq_true rfl⟩ tb0 vq12 rfl rfl (s_X12_readsNumberP hF.2.1 hF.2.2.1 hF.2.2.2 _ ⟨by omega, by omega⟩ _ ⟨by omega, by omega⟩ g (w + nD g w + 1) (by omega) (by omega) (by rw [hF.cell 12 rfl (fun _ => rfl), hF.1 0 27 rfl rfl]; exact hg) (by omega)) dX12_readsCurve_2.2.1.2.2 (Nat.le_of_ble_eq_true rfl) rfl ?_
                    rintro r77 h ⟨hF1, p77⟩; replace hF := hF.tr hF1 rfl
                    replace hPre : Pre15 κ h := hPre.tr p77.2.2.2.2.1 (by omega)
                    replace hPA : Pre15 hA h := hPA.tr p77.2.2.2.2.1 (by omega)
                    have hv3 := (p77.2.2.2.2.1 (hA 0 31).toNat (by omega)).trans hv2
                    have hcs := fun (q : r77 = 1) => CvI.step (h := hA) (h' := h) (a := κ 0 31) (b := hA 0 31) (by omega) hcvA (fun j hj => hPA j hj) hv3 (by omega)
                    refine zV_if_ne (tgt := 2) (pc' := 83) dX12_readsCurve_2.2.2.1.1 rfl rfl ⟨by omega, by omega⟩ (fun c80 => ?_) (fun c80 => ?_)
                    · exact k2 _ _ hF (by omega) (by omega) (by omega) hPre (by first | exact Or.inl ⟨rfl, by omega⟩ | (rw [show h 0 31 = hA 0 31 + 2 by omega]; exact hcs (by omega))) (by first | (rw [show h 0 26 = p by omega]; exact CuI.rf (by omega)) | exact cu.step (by omega) (by omega) (by omega) (by omega) (by omega) (by omega)) (by omega)
                    · have bd := cu.bad (by omega) (by omega) (by omega)
                      refine zW_iconst (pc' := 84) dX12_readsCurve_2.2.2.1.2 rfl ?_
                      exact zV_zret rfl (by omega) dX12_readsCurve_2.2.2.2.1 ⟨hF, by refine ⟨by omega, by omega, by omega, by omega, hPre, by omega, by omega, fun q => by omega, by omega⟩⟩
                · have bd := cu.bad (by omega) (by omega) (by omega)
                  refine zW_iconst (pc' := 57) dX12_readsCurve_1.2.2.2.2 rfl ?_
                  exact zV_zret rfl (by omega) dX12_readsCurve_2.1.1.1.1 ⟨hF, by refine ⟨by omega, by omega, by omega, by omega, hPre, by omega, by omega, fun q => by omega, by omega⟩⟩
              · exfalso; omega
            · exfalso; omega
          · have pt := ptF_1 (g := g) (p := q) (x := v1) (by omega)
            have c3 := sqc (sF g q 44) (pqF g (q + 1) (v1 + 1) 255)
            have bd := cu.bad (by omega) (by omega) (by omega)
            refine zW_iconst (pc' := 24) dX12_readsCurve_0.2.2.1.1 rfl ?_
            exact zV_zret rfl (by omega) dX12_readsCurve_0.2.2.1.2 ⟨hF, by refine ⟨by omega, by omega, by omega, by omega, hPre, by omega, by omega, fun q => by omega, by omega⟩⟩
  refine zM_of [some (.inr (.inr 0)), none] 1 rfl rfl (Nat.le_of_ble_eq_true rfl) rfl ?_
  refine (show ∀ h : Hp, Fm [(0, 26), (0, 28), (0, 29), (0, 31), (15, 999)] κ h → h = κ → zV G mX12_readsCurve (q_X12_readsCurveP κ g p) 0 [some (.inr (.inr 0)), none] [] h from fun h hF hk0 => ?_) κ (Fm.rf hS hR hC) rfl
  have y0_0_26 : h 0 26 = κ 0 26 := by rw [hk0]
  have y0_0_27 : h 0 27 = κ 0 27 := by rw [hk0]
  have y0_0_31 : h 0 31 = κ 0 31 := by rw [hk0]
  have hPre : Pre15 κ h := by rw [hk0]; exact Pre15.rf
  obtain ⟨hA, eA⟩ : ∃ z : Hp, z = h := ⟨_, rfl⟩
  have hPA : Pre15 hA h := by rw [eA]; exact Pre15.rf
  refine zW_iconst (pc' := 1) dX12_readsCurve_0.1.1.1.1 rfl ?_
  refine zW_istore_n (ls' := [_, _]) (pc' := 2) dX12_readsCurve_0.1.1.1.2 (by decide) rfl rfl rfl ?_
  exact (main 10000000000000000000000000000000000000000) _ _ hF (by omega) (by omega) (by omega) hPre (by first | exact Or.inl ⟨rfl, by omega⟩ | (rw [show h 0 31 = hA 0 31 + 2 by omega]; exact hcs (by omega))) (by first | (rw [show h 0 26 = p by omega]; exact CuI.rf (by omega)) | exact cu.step (by omega) (by omega) (by omega) (by omega) (by omega) (by omega)) (by omega)

abbrev q_X12_readsNumbersP (κ : Hp) (x1 : Int) (g : Int → Int) (p : Int) : Int → Hp → Prop := fun r h' => Fm [(0, 26), (0, 28), (0, 29), (0, 31), (15, 999)] κ h' ∧ ((0 ≤ r) ∧ (r ≤ 1) ∧ (κ 0 26 ≤ h' 0 26 ∧ h' 0 26 ≤ κ 0 27 ∧ Pre15 κ h' ∧ κ 0 31 ≤ h' 0 31 ∧ h' 0 31 ≤ h' 0 26 ∧ (r = 1 → κ 0 31 < h' 0 31 ∧ (x1 = 111 ∨ x1 = 112 → 1 ≤ h' 15 (κ 0 31).toNat ∧ h' 15 (κ 0 31).toNat ≤ 4) ∧ (x1 = 116 → Cv h' (κ 0 31) (h' 0 31))) ∧ ((r = 1 ∧ nbF g x1 p = 0 ∧ h' 0 26 = nbE g x1 p) ∨ (r = 0 ∧ nbF g x1 p ≠ 0 ∧ h' 0 28 = nbF g x1 p ∧ h' 0 28 < 0))))
set_option maxHeartbeats 4000000 in
set_option maxRecDepth 20000 in
theorem s_X12_readsNumbersP {G : Ga} {κ : Hp} (hS : SI κ) (hR : KR κ) (hC : KC κ) (x1 : Int) (hx1 : 0 ≤ x1 ∧ x1 ≤ 255) (g : Int → Int) (p : Int) (hp : 0 ≤ κ 0 26 ∧ κ 0 26 ≤ κ 0 27 ∧ κ 0 27 ≤ 120) (hq : 0 ≤ κ 0 31 ∧ κ 0 31 ≤ κ 0 26) (hg : hr (fun i => κ 12 i % 256) (κ 0 27) = g) (ht : κ 0 26 = p) : zM G mX12_readsNumbers yX12_readsNumbers [.inr (.inr 0), .inl x1] κ (q_X12_readsNumbersP κ x1 g p) := by
  refine zM_of [some (.inr (.inr 0)), some (.inl x1)] 0 rfl rfl (Nat.le_of_ble_eq_true rfl) rfl ?_
  refine (show ∀ h : Hp, Fm [(0, 26), (0, 28), (0, 29), (0, 31), (15, 999)] κ h → h = κ → zV G mX12_readsNumbers (q_X12_readsNumbersP κ x1 g p) 0 [some (.inr (.inr 0)), some (.inl x1)] [] h from fun h hF hk0 => ?_) κ (Fm.rf hS hR hC) rfl
  have y0_0_26 : h 0 26 = κ 0 26 := by rw [hk0]
  have y0_0_27 : h 0 27 = κ 0 27 := by rw [hk0]
  have y0_0_31 : h 0 31 = κ 0 31 := by rw [hk0]
  have hPre : Pre15 κ h := by rw [hk0]; exact Pre15.rf
  refine zW_iload_n (pc' := 1) dX12_readsNumbers_0.1.1.1.1 rfl rfl ?_
  refine zW_tsw2 (fun z t => (z = 98 ∧ t = 112) ∨ (z = 100 ∧ t = 112) ∨ (z = 102 ∧ t = 128) ∨ (z = 103 ∧ t = 195) ∨ (z = 104 ∧ t = 142) ∨ (z = 108 ∧ t = 151) ∨ (z = 109 ∧ t = 151) ∨ (z = 110 ∧ t = 256) ∨ (z = 111 ∧ t = 121) ∨ (z = 112 ∧ t = 231) ∨ (z = 115 ∧ t = 256) ∨ (z = 118 ∧ t = 135) ∨ (z = 119 ∧ t = 112) ∨ (z = 121 ∧ t = 159) ∨ (t = 282 ∧ z ≠ 98 ∧ z ≠ 100 ∧ z ≠ 111 ∧ z ≠ 108 ∧ z ≠ 102 ∧ z ≠ 118 ∧ z ≠ 119 ∧ z ≠ 104 ∧ z ≠ 121 ∧ z ≠ 103 ∧ z ≠ 109 ∧ z ≠ 112 ∧ z ≠ 110 ∧ z ≠ 115)) (fun z => if z = 98 then 112 else if z = 100 then 112 else if z = 102 then 128 else if z = 103 then 195 else if z = 104 then 142 else if z = 108 then 151 else if z = 109 then 151 else if z = 110 then 256 else if z = 111 then 121 else if z = 112 then 231 else if z = 115 then 256 else if z = 118 then 135 else if z = 119 then 112 else if z = 121 then 159 else 282) dX12_readsNumbers_0.1.1.1.2 ⟨by omega, by omega⟩ (tsw_ok (pc := 1) (lo := 98) (offs := #[111, 281, 111, 281, 127, 194, 141, 281, 281, 281, 150, 150, 255, 120, 230, 281, 281, 255, 281, 281, 134, 111, 281, 158]) (tg := fun z => if z = 98 then 112 else if z = 100 then 112 else if z = 102 then 128 else if z = 103 then 195 else if z = 104 then 142 else if z = 108 then 151 else if z = 109 then 151 else if z = 110 then 256 else if z = 111 then 121 else if z = 112 then 231 else if z = 115 then 256 else if z = 118 then 135 else if z = 119 then 112 else if z = 121 then 159 else 282) (by decide +kernel)) rfl (by decide +kernel) (td := 282) rfl (fun c1 => ?_) (fun t1 w1 => ?_)
  · have nb := nb_else (g := g) (c := x1) (p := p) (by omega)
    refine zW_aload_n (pc' := 283) dX12_readsNumbers_6.1.2 rfl rfl ?_
    have y27 := hF.1 0 27 rfl rfl
    obtain ⟨hB, eB⟩ : ∃ z : Hp, z = h := ⟨_, rfl⟩
    have eB31 : hB 0 31 = κ 0 31 := by rw [eB, hk0]
    have eB26 : hB 0 26 = κ 0 26 := by rw [eB, hk0]
    have eB27 : hB 0 27 = κ 0 27 := by rw [eB, hk0]
    have y283_0_27 := hF.1 0 27 rfl rfl
    refine cvI0 (pc' := 286) kX12_readsCurve vX12_readsCurve lk_X12_163 ⟨Nat.le_of_ble_eq_true rfl, Nat.le_of_ble_eq_true rfl⟩ tb0 vq12 rfl rfl (s_X12_readsCurveP hF.2.1 hF.2.2.1 hF.2.2.2 g p (by omega) (by omega) (by rw [hF.cell 12 rfl (fun _ => rfl), hF.1 0 27 rfl rfl]; exact hg) (by omega)) dX12_readsNumbers_6.2.1 (Nat.le_of_ble_eq_true rfl) rfl ?_
    rintro r283 h ⟨hF1, p283⟩; replace hF := hF.tr hF1 rfl
    replace hPre : Pre15 κ h := hPre.tr p283.2.2.2.2.1 (by omega)
    rw [← eB] at p283
    have hcv := p283.2.2.2.2.2.2.2.1
    rw [eB31] at hcv
    exact zV_zret rfl (by omega) dX12_readsNumbers_6.2.2 ⟨hF, (a8 (by refine ⟨by omega, by omega, by omega, by omega, hPre, by omega, by omega, fun q => ⟨?_, fun z => absurd z (by omega), fun _ => hcv q⟩⟩; have := (hcv q).1; omega) (by omega))⟩
  · rcases w1 with ⟨s98, rfl⟩ | ⟨s100, rfl⟩ | ⟨s102, rfl⟩ | ⟨s103, rfl⟩ | ⟨s104, rfl⟩ | ⟨s108, rfl⟩ | ⟨s109, rfl⟩ | ⟨s110, rfl⟩ | ⟨s111, rfl⟩ | ⟨s112, rfl⟩ | ⟨s115, rfl⟩ | ⟨s118, rfl⟩ | ⟨s119, rfl⟩ | ⟨s121, rfl⟩ | ⟨rfl, n98, n100, n111, n108, n102, n118, n119, n104, n121, n103, n109, n112, n110, n115⟩
    · first | have nb : nbF g x1 p = nF g p 0 255 ∧ nbE g x1 p = p + nD g p := by rw [s98]; exact nb_98 | have nb : nbF g x1 p = nF g p 0 255 ∧ nbE g x1 p = p + nD g p := by rw [s100]; exact nb_100 | have nb : nbF g x1 p = nF g p 0 255 ∧ nbE g x1 p = p + nD g p := by rw [s119]; exact nb_119
      refine zW_aload_n (pc' := 113) dX12_readsNumbers_0.1.1.2.1 rfl rfl ?_
      refine zW_iconst (pc' := 114) dX12_readsNumbers_0.1.1.2.2 rfl ?_
      refine zW_sipush (pc' := 117) dX12_readsNumbers_0.1.2.1.1 rfl rfl ?_
      have y27 := hF.1 0 27 rfl rfl
      have y117_0_27 := hF.1 0 27 rfl rfl
      refine cvI2 (pc' := 120) kX12_readsNumber vX12_readsNumber lk_X12_157 ⟨Nat.le_of_ble_eq_true rfl, Nat.le_of_ble_eq_true rfl⟩ tb0 vq12 rfl rfl (s_X12_readsNumberP hF.2.1 hF.2.2.1 hF.2.2.2 _ ⟨by omega, by omega⟩ _ ⟨by omega, by omega⟩ g p (by omega) (by omega) (by rw [hF.cell 12 rfl (fun _ => rfl), hF.1 0 27 rfl rfl]; exact hg) (by omega)) dX12_readsNumbers_0.1.2.1.2 (Nat.le_of_ble_eq_true rfl) rfl ?_
      rintro r117 h ⟨hF1, p117⟩; replace hF := hF.tr hF1 rfl
      replace hPre : Pre15 κ h := hPre.tr p117.2.2.2.2.1 (by omega)
      exact zV_zret rfl (by omega) dX12_readsNumbers_0.1.2.2.1 ⟨hF, (a8 (by refine ⟨by omega, by omega, by omega, by omega, hPre, by omega, by omega, fun q => ⟨by omega, fun z => absurd z (by omega), fun z => absurd z (by omega)⟩⟩) (by omega))⟩
    · first | have nb : nbF g x1 p = nF g p 0 255 ∧ nbE g x1 p = p + nD g p := by rw [s98]; exact nb_98 | have nb : nbF g x1 p = nF g p 0 255 ∧ nbE g x1 p = p + nD g p := by rw [s100]; exact nb_100 | have nb : nbF g x1 p = nF g p 0 255 ∧ nbE g x1 p = p + nD g p := by rw [s119]; exact nb_119
      refine zW_aload_n (pc' := 113) dX12_readsNumbers_0.1.1.2.1 rfl rfl ?_
      refine zW_iconst (pc' := 114) dX12_readsNumbers_0.1.1.2.2 rfl ?_
      refine zW_sipush (pc' := 117) dX12_readsNumbers_0.1.2.1.1 rfl rfl ?_
      have y27 := hF.1 0 27 rfl rfl
      have y117_0_27 := hF.1 0 27 rfl rfl
      refine cvI2 (pc' := 120) kX12_readsNumber vX12_readsNumber lk_X12_157 ⟨Nat.le_of_ble_eq_true rfl, Nat.le_of_ble_eq_true rfl⟩ tb0 vq12 rfl rfl (s_X12_readsNumberP hF.2.1 hF.2.2.1 hF.2.2.2 _ ⟨by omega, by omega⟩ _ ⟨by omega, by omega⟩ g p (by omega) (by omega) (by rw [hF.cell 12 rfl (fun _ => rfl), hF.1 0 27 rfl rfl]; exact hg) (by omega)) dX12_readsNumbers_0.1.2.1.2 (Nat.le_of_ble_eq_true rfl) rfl ?_
      rintro r117 h ⟨hF1, p117⟩; replace hF := hF.tr hF1 rfl
      replace hPre : Pre15 κ h := hPre.tr p117.2.2.2.2.1 (by omega)
      exact zV_zret rfl (by omega) dX12_readsNumbers_0.1.2.2.1 ⟨hF, (a8 (by refine ⟨by omega, by omega, by omega, by omega, hPre, by omega, by omega, fun q => ⟨by omega, fun z => absurd z (by omega), fun z => absurd z (by omega)⟩⟩) (by omega))⟩
    · first | have nb : nbF g x1 p = nF g p 0 1 ∧ nbE g x1 p = p + nD g p := by rw [s102]; exact nb_102
      refine zW_aload_n (pc' := 129) dX12_readsNumbers_0.2.2.1.1 rfl rfl ?_
      refine zW_iconst (pc' := 130) dX12_readsNumbers_0.2.2.1.2 rfl ?_
      refine zW_iconst (pc' := 131) dX12_readsNumbers_0.2.2.2.1 rfl ?_
      have y27 := hF.1 0 27 rfl rfl
      have y131_0_27 := hF.1 0 27 rfl rfl
      refine cvI2 (pc' := 134) kX12_readsNumber vX12_readsNumber lk_X12_157 ⟨Nat.le_of_ble_eq_true rfl, Nat.le_of_ble_eq_true rfl⟩ tb0 vq12 rfl rfl (s_X12_readsNumberP hF.2.1 hF.2.2.1 hF.2.2.2 _ ⟨by omega, by omega⟩ _ ⟨by omega, by omega⟩ g p (by omega) (by omega) (by rw [hF.cell 12 rfl (fun _ => rfl), hF.1 0 27 rfl rfl]; exact hg) (by omega)) dX12_readsNumbers_0.2.2.2.2 (Nat.le_of_ble_eq_true rfl) rfl ?_
      rintro r131 h ⟨hF1, p131⟩; replace hF := hF.tr hF1 rfl
      replace hPre : Pre15 κ h := hPre.tr p131.2.2.2.2.1 (by omega)
      exact zV_zret rfl (by omega) dX12_readsNumbers_1.1.1.1.1 ⟨hF, (a8 (by refine ⟨by omega, by omega, by omega, by omega, hPre, by omega, by omega, fun q => ⟨by omega, fun z => absurd z (by omega), fun z => absurd z (by omega)⟩⟩) (by omega))⟩
    · first | have nb : nbF g x1 p = n3F g p 0 99 99 ∧ nbE g x1 p = n3E g p := by rw [s103]; exact nb_103
      have u2 : n2F g p 0 99 99 = sq (nF g p 0 99) (nxF g (p + nD g p) 99) := rfl
      have s2 := sqc (nF g p 0 99) (nxF g (p + nD g p) 99)
      have u4 : n2E g p = nxE g (p + nD g p) := rfl
      have u3 : n3F g p 0 99 99 = sq (n2F g p 0 99 99) (nxF g (n2E g p) 99) := rfl
      have s3 := sqc (n2F g p 0 99 99) (nxF g (n2E g p) 99)
      have u5 : n3E g p = nxE g (n2E g p) := rfl
      refine zW_aload_n (pc' := 196) dX12_readsNumbers_3.1.1.2.2 rfl rfl ?_
      refine zW_iconst (pc' := 197) dX12_readsNumbers_3.1.2.1.1 rfl ?_
      refine zW_bipush (pc' := 199) dX12_readsNumbers_3.1.2.1.2 rfl rfl ?_
      have y27 := hF.1 0 27 rfl rfl
      have y199_0_27 := hF.1 0 27 rfl rfl
      refine cvI2 (pc' := 202) kX12_readsNumber vX12_readsNumber lk_X12_157 ⟨Nat.le_of_ble_eq_true rfl, Nat.le_of_ble_eq_true rfl⟩ tb0 vq12 rfl rfl (s_X12_readsNumberP hF.2.1 hF.2.2.1 hF.2.2.2 _ ⟨by omega, by omega⟩ _ ⟨by omega, by omega⟩ g p (by omega) (by omega) (by rw [hF.cell 12 rfl (fun _ => rfl), hF.1 0 27 rfl rfl]; exact hg) (by omega)) dX12_readsNumbers_3.1.2.2.1 (Nat.le_of_ble_eq_true rfl) rfl ?_
      rintro r199 h ⟨hF1, p199⟩; replace hF := hF.tr hF1 rfl
      replace hPre : Pre15 κ h := hPre.tr p199.2.2.2.2.1 (by omega)
      refine zV_if_eq (tgt := 229) (pc' := 205) dX12_readsNumbers_3.1.2.2.2 rfl rfl ⟨by omega, by omega⟩ (fun c202 => ?_) (fun c202 => ?_)
      · refine zW_iconst (pc' := 230) dX12_readsNumbers_4.1.2.1.1 rfl ?_
        exact zV_zret rfl (by omega) dX12_readsNumbers_4.1.2.1.2 ⟨hF, (a8 (by refine ⟨by omega, by omega, by omega, by omega, hPre, by omega, by omega, fun q => ⟨by omega, fun z => absurd z (by omega), fun z => absurd z (by omega)⟩⟩) (by omega))⟩
      · refine zW_aload_n (pc' := 206) dX12_readsNumbers_3.2.1.1.1 rfl rfl ?_
        refine zW_iconst (pc' := 207) dX12_readsNumbers_3.2.1.1.2 rfl ?_
        refine zW_bipush (pc' := 209) dX12_readsNumbers_3.2.1.2.1 rfl rfl ?_
        have y27 := hF.1 0 27 rfl rfl
        have y209_0_27 := hF.1 0 27 rfl rfl
        refine cvI2 (pc' := 212) kX12_readsNext vX12_readsNext lk_X12_160 ⟨Nat.le_of_ble_eq_true rfl, Nat.le_of_ble_eq_true rfl⟩ tb0 vq12 rfl rfl (s_X12_readsNextP hF.2.1 hF.2.2.1 hF.2.2.2 _ ⟨by omega, by omega⟩ _ ⟨by omega, by omega⟩ g (p + nD g p) (by omega) (by omega) (by rw [hF.cell 12 rfl (fun _ => rfl), hF.1 0 27 rfl rfl]; exact hg) (by omega)) dX12_readsNumbers_3.2.1.2.2 (Nat.le_of_ble_eq_true rfl) rfl ?_
        rintro r209 h ⟨hF1, p209⟩; replace hF := hF.tr hF1 rfl
        replace hPre : Pre15 κ h := hPre.tr p209.2.2.2.2.1 (by omega)
        refine zV_if_eq (tgt := 229) (pc' := 215) dX12_readsNumbers_3.2.2.1.1 rfl rfl ⟨by omega, by omega⟩ (fun c212 => ?_) (fun c212 => ?_)
        · refine zW_iconst (pc' := 230) dX12_readsNumbers_4.1.2.1.1 rfl ?_
          exact zV_zret rfl (by omega) dX12_readsNumbers_4.1.2.1.2 ⟨hF, (a8 (by refine ⟨by omega, by omega, by omega, by omega, hPre, by omega, by omega, fun q => ⟨by omega, fun z => absurd z (by omega), fun z => absurd z (by omega)⟩⟩) (by omega))⟩
        · refine zW_aload_n (pc' := 216) dX12_readsNumbers_3.2.2.1.2 rfl rfl ?_
          refine zW_iconst (pc' := 217) dX12_readsNumbers_3.2.2.2.1 rfl ?_
          refine zW_bipush (pc' := 219) dX12_readsNumbers_3.2.2.2.2 rfl rfl ?_
          have y27 := hF.1 0 27 rfl rfl
          have y219_0_27 := hF.1 0 27 rfl rfl
          refine cvI2 (pc' := 222) kX12_readsNext vX12_readsNext lk_X12_160 ⟨Nat.le_of_ble_eq_true rfl, Nat.le_of_ble_eq_true rfl⟩ tb0 vq12 rfl rfl (s_X12_readsNextP hF.2.1 hF.2.2.1 hF.2.2.2 _ ⟨by omega, by omega⟩ _ ⟨by omega, by omega⟩ g (n2E g p) (by omega) (by omega) (by rw [hF.cell 12 rfl (fun _ => rfl), hF.1 0 27 rfl rfl]; exact hg) (by omega)) dX12_readsNumbers_4.1.1.1.1 (Nat.le_of_ble_eq_true rfl) rfl ?_
          rintro r219 h ⟨hF1, p219⟩; replace hF := hF.tr hF1 rfl
          replace hPre : Pre15 κ h := hPre.tr p219.2.2.2.2.1 (by omega)
          refine zV_if_eq (tgt := 229) (pc' := 225) dX12_readsNumbers_4.1.1.1.2 rfl rfl ⟨by omega, by omega⟩ (fun c222 => ?_) (fun c222 => ?_)
          · refine zW_iconst (pc' := 230) dX12_readsNumbers_4.1.2.1.1 rfl ?_
            exact zV_zret rfl (by omega) dX12_readsNumbers_4.1.2.1.2 ⟨hF, (a8 (by refine ⟨by omega, by omega, by omega, by omega, hPre, by omega, by omega, fun q => ⟨by omega, fun z => absurd z (by omega), fun z => absurd z (by omega)⟩⟩) (by omega))⟩
          · refine zW_iconst (pc' := 226) dX12_readsNumbers_4.1.1.2.1 rfl ?_
            refine zV_goto 230 dX12_readsNumbers_4.1.1.2.2 rfl ?_
            exact zV_zret rfl (by omega) dX12_readsNumbers_4.1.2.1.2 ⟨hF, (a8 (by refine ⟨by omega, by omega, by omega, by omega, hPre, by omega, by omega, fun q => ⟨by omega, fun z => absurd z (by omega), fun z => absurd z (by omega)⟩⟩) (by omega))⟩
    · first | have nb : nbF g x1 p = nF g p 0 254 ∧ nbE g x1 p = p + nD g p := by rw [s104]; exact nb_104
      refine zW_aload_n (pc' := 143) dX12_readsNumbers_1.1.2.2.1 rfl rfl ?_
      refine zW_iconst (pc' := 144) dX12_readsNumbers_1.1.2.2.2 rfl ?_
      refine zW_sipush (pc' := 147) dX12_readsNumbers_1.2.1.1.1 rfl rfl ?_
      have y27 := hF.1 0 27 rfl rfl
      have y147_0_27 := hF.1 0 27 rfl rfl
      refine cvI2 (pc' := 150) kX12_readsNumber vX12_readsNumber lk_X12_157 ⟨Nat.le_of_ble_eq_true rfl, Nat.le_of_ble_eq_true rfl⟩ tb0 vq12 rfl rfl (s_X12_readsNumberP hF.2.1 hF.2.2.1 hF.2.2.2 _ ⟨by omega, by omega⟩ _ ⟨by omega, by omega⟩ g p (by omega) (by omega) (by rw [hF.cell 12 rfl (fun _ => rfl), hF.1 0 27 rfl rfl]; exact hg) (by omega)) dX12_readsNumbers_1.2.1.1.2 (Nat.le_of_ble_eq_true rfl) rfl ?_
      rintro r147 h ⟨hF1, p147⟩; replace hF := hF.tr hF1 rfl
      replace hPre : Pre15 κ h := hPre.tr p147.2.2.2.2.1 (by omega)
      exact zV_zret rfl (by omega) dX12_readsNumbers_1.2.1.2.1 ⟨hF, (a8 (by refine ⟨by omega, by omega, by omega, by omega, hPre, by omega, by omega, fun q => ⟨by omega, fun z => absurd z (by omega), fun z => absurd z (by omega)⟩⟩) (by omega))⟩
    · first | have nb : nbF g x1 p = nF g p 0 99 ∧ nbE g x1 p = p + nD g p := by rw [s108]; exact nb_108 | have nb : nbF g x1 p = nF g p 0 99 ∧ nbE g x1 p = p + nD g p := by rw [s109]; exact nb_109
      refine zW_aload_n (pc' := 152) dX12_readsNumbers_1.2.1.2.2 rfl rfl ?_
      refine zW_iconst (pc' := 153) dX12_readsNumbers_1.2.2.1.1 rfl ?_
      refine zW_bipush (pc' := 155) dX12_readsNumbers_1.2.2.1.2 rfl rfl ?_
      have y27 := hF.1 0 27 rfl rfl
      have y155_0_27 := hF.1 0 27 rfl rfl
      refine cvI2 (pc' := 158) kX12_readsNumber vX12_readsNumber lk_X12_157 ⟨Nat.le_of_ble_eq_true rfl, Nat.le_of_ble_eq_true rfl⟩ tb0 vq12 rfl rfl (s_X12_readsNumberP hF.2.1 hF.2.2.1 hF.2.2.2 _ ⟨by omega, by omega⟩ _ ⟨by omega, by omega⟩ g p (by omega) (by omega) (by rw [hF.cell 12 rfl (fun _ => rfl), hF.1 0 27 rfl rfl]; exact hg) (by omega)) dX12_readsNumbers_1.2.2.2.1 (Nat.le_of_ble_eq_true rfl) rfl ?_
      rintro r155 h ⟨hF1, p155⟩; replace hF := hF.tr hF1 rfl
      replace hPre : Pre15 κ h := hPre.tr p155.2.2.2.2.1 (by omega)
      exact zV_zret rfl (by omega) dX12_readsNumbers_1.2.2.2.2 ⟨hF, (a8 (by refine ⟨by omega, by omega, by omega, by omega, hPre, by omega, by omega, fun q => ⟨by omega, fun z => absurd z (by omega), fun z => absurd z (by omega)⟩⟩) (by omega))⟩
    · first | have nb : nbF g x1 p = nF g p 0 99 ∧ nbE g x1 p = p + nD g p := by rw [s108]; exact nb_108 | have nb : nbF g x1 p = nF g p 0 99 ∧ nbE g x1 p = p + nD g p := by rw [s109]; exact nb_109
      refine zW_aload_n (pc' := 152) dX12_readsNumbers_1.2.1.2.2 rfl rfl ?_
      refine zW_iconst (pc' := 153) dX12_readsNumbers_1.2.2.1.1 rfl ?_
      refine zW_bipush (pc' := 155) dX12_readsNumbers_1.2.2.1.2 rfl rfl ?_
      have y27 := hF.1 0 27 rfl rfl
      have y155_0_27 := hF.1 0 27 rfl rfl
      refine cvI2 (pc' := 158) kX12_readsNumber vX12_readsNumber lk_X12_157 ⟨Nat.le_of_ble_eq_true rfl, Nat.le_of_ble_eq_true rfl⟩ tb0 vq12 rfl rfl (s_X12_readsNumberP hF.2.1 hF.2.2.1 hF.2.2.2 _ ⟨by omega, by omega⟩ _ ⟨by omega, by omega⟩ g p (by omega) (by omega) (by rw [hF.cell 12 rfl (fun _ => rfl), hF.1 0 27 rfl rfl]; exact hg) (by omega)) dX12_readsNumbers_1.2.2.2.1 (Nat.le_of_ble_eq_true rfl) rfl ?_
      rintro r155 h ⟨hF1, p155⟩; replace hF := hF.tr hF1 rfl
      replace hPre : Pre15 κ h := hPre.tr p155.2.2.2.2.1 (by omega)
      exact zV_zret rfl (by omega) dX12_readsNumbers_1.2.2.2.2 ⟨hF, (a8 (by refine ⟨by omega, by omega, by omega, by omega, hPre, by omega, by omega, fun q => ⟨by omega, fun z => absurd z (by omega), fun z => absurd z (by omega)⟩⟩) (by omega))⟩
    · first | have nb : nbF g x1 p = n2F g p 0 99 99 ∧ nbE g x1 p = n2E g p := by rw [s110]; exact nb_110 | have nb : nbF g x1 p = n2F g p 0 99 99 ∧ nbE g x1 p = n2E g p := by rw [s115]; exact nb_115
      have u2 : n2F g p 0 99 99 = sq (nF g p 0 99) (nxF g (p + nD g p) 99) := rfl
      have s2 := sqc (nF g p 0 99) (nxF g (p + nD g p) 99)
      have u4 : n2E g p = nxE g (p + nD g p) := rfl
      refine zW_aload_n (pc' := 257) dX12_readsNumbers_5.1.2.1.1 rfl rfl ?_
      refine zW_iconst (pc' := 258) dX12_readsNumbers_5.1.2.1.2 rfl ?_
      refine zW_bipush (pc' := 260) dX12_readsNumbers_5.1.2.2.1 rfl rfl ?_
      have y27 := hF.1 0 27 rfl rfl
      have y260_0_27 := hF.1 0 27 rfl rfl
      refine cvI2 (pc' := 263) kX12_readsNumber vX12_readsNumber lk_X12_157 ⟨Nat.le_of_ble_eq_true rfl, Nat.le_of_ble_eq_true rfl⟩ tb0 vq12 rfl rfl (s_X12_readsNumberP hF.2.1 hF.2.2.1 hF.2.2.2 _ ⟨by omega, by omega⟩ _ ⟨by omega, by omega⟩ g p (by omega) (by omega) (by rw [hF.cell 12 rfl (fun _ => rfl), hF.1 0 27 rfl rfl]; exact hg) (by omega)) dX12_readsNumbers_5.1.2.2.2 (Nat.le_of_ble_eq_true rfl) rfl ?_
      rintro r260 h ⟨hF1, p260⟩; replace hF := hF.tr hF1 rfl
      replace hPre : Pre15 κ h := hPre.tr p260.2.2.2.2.1 (by omega)
      refine zV_if_eq (tgt := 280) (pc' := 266) dX12_readsNumbers_5.2.1.1.1 rfl rfl ⟨by omega, by omega⟩ (fun c263 => ?_) (fun c263 => ?_)
      · refine zW_iconst (pc' := 281) dX12_readsNumbers_6.1.1.1 rfl ?_
        exact zV_zret rfl (by omega) dX12_readsNumbers_6.1.1.2 ⟨hF, (a8 (by refine ⟨by omega, by omega, by omega, by omega, hPre, by omega, by omega, fun q => ⟨by omega, fun z => absurd z (by omega), fun z => absurd z (by omega)⟩⟩) (by omega))⟩
      · refine zW_aload_n (pc' := 267) dX12_readsNumbers_5.2.1.1.2 rfl rfl ?_
        refine zW_iconst (pc' := 268) dX12_readsNumbers_5.2.1.2.1 rfl ?_
        refine zW_bipush (pc' := 270) dX12_readsNumbers_5.2.1.2.2 rfl rfl ?_
        have y27 := hF.1 0 27 rfl rfl
        have y270_0_27 := hF.1 0 27 rfl rfl
        refine cvI2 (pc' := 273) kX12_readsNext vX12_readsNext lk_X12_160 ⟨Nat.le_of_ble_eq_true rfl, Nat.le_of_ble_eq_true rfl⟩ tb0 vq12 rfl rfl (s_X12_readsNextP hF.2.1 hF.2.2.1 hF.2.2.2 _ ⟨by omega, by omega⟩ _ ⟨by omega, by omega⟩ g (p + nD g p) (by omega) (by omega) (by rw [hF.cell 12 rfl (fun _ => rfl), hF.1 0 27 rfl rfl]; exact hg) (by omega)) dX12_readsNumbers_5.2.2.1.1 (Nat.le_of_ble_eq_true rfl) rfl ?_
        rintro r270 h ⟨hF1, p270⟩; replace hF := hF.tr hF1 rfl
        replace hPre : Pre15 κ h := hPre.tr p270.2.2.2.2.1 (by omega)
        refine zV_if_eq (tgt := 280) (pc' := 276) dX12_readsNumbers_5.2.2.1.2 rfl rfl ⟨by omega, by omega⟩ (fun c273 => ?_) (fun c273 => ?_)
        · refine zW_iconst (pc' := 281) dX12_readsNumbers_6.1.1.1 rfl ?_
          exact zV_zret rfl (by omega) dX12_readsNumbers_6.1.1.2 ⟨hF, (a8 (by refine ⟨by omega, by omega, by omega, by omega, hPre, by omega, by omega, fun q => ⟨by omega, fun z => absurd z (by omega), fun z => absurd z (by omega)⟩⟩) (by omega))⟩
        · refine zW_iconst (pc' := 277) dX12_readsNumbers_5.2.2.2.1 rfl ?_
          refine zV_goto 281 dX12_readsNumbers_5.2.2.2.2 rfl ?_
          exact zV_zret rfl (by omega) dX12_readsNumbers_6.1.1.2 ⟨hF, (a8 (by refine ⟨by omega, by omega, by omega, by omega, hPre, by omega, by omega, fun q => ⟨by omega, fun z => absurd z (by omega), fun z => absurd z (by omega)⟩⟩) (by omega))⟩
    · first | have nb : nbF g x1 p = nF g p 1 4 ∧ nbE g x1 p = p + nD g p := by rw [s111]; exact nb_111
      refine zW_aload_n (pc' := 122) dX12_readsNumbers_0.1.2.2.2 rfl rfl ?_
      refine zW_iconst (pc' := 123) dX12_readsNumbers_0.2.1.1.1 rfl ?_
      refine zW_iconst (pc' := 124) dX12_readsNumbers_0.2.1.1.2 rfl ?_
      have y27 := hF.1 0 27 rfl rfl
      obtain ⟨hB, eB⟩ : ∃ z : Hp, z = h := ⟨_, rfl⟩
      have eB31 : hB 0 31 = κ 0 31 := by rw [eB, hk0]
      have eB26 : hB 0 26 = κ 0 26 := by rw [eB, hk0]
      have eB27 : hB 0 27 = κ 0 27 := by rw [eB, hk0]
      have y124_0_27 := hF.1 0 27 rfl rfl
      refine cvI2 (pc' := 127) kX12_readsNumber vX12_readsNumber lk_X12_157 ⟨Nat.le_of_ble_eq_true rfl, Nat.le_of_ble_eq_true rfl⟩ tb0 vq12 rfl rfl (s_X12_readsNumberP hF.2.1 hF.2.2.1 hF.2.2.2 _ ⟨by omega, by omega⟩ _ ⟨by omega, by omega⟩ g p (by omega) (by omega) (by rw [hF.cell 12 rfl (fun _ => rfl), hF.1 0 27 rfl rfl]; exact hg) (by omega)) dX12_readsNumbers_0.2.1.2.1 (Nat.le_of_ble_eq_true rfl) rfl ?_
      rintro r124 h ⟨hF1, p124⟩; replace hF := hF.tr hF1 rfl
      replace hPre : Pre15 κ h := hPre.tr p124.2.2.2.2.1 (by omega)
      rw [← eB] at p124
      have hv1 := fun (q : r124 = 1) => (p124.2.2.2.2.2.1.resolve_right (fun z => by omega)).2.2.2.2.2
      rw [eB31] at hv1
      exact zV_zret rfl (by omega) dX12_readsNumbers_0.2.1.2.2 ⟨hF, (a8 (by refine ⟨by omega, by omega, by omega, by omega, hPre, by omega, by omega, fun q => ⟨by omega, fun _ => ?_, fun z => absurd z (by omega)⟩⟩; have := hv1 q; omega) (by omega))⟩
    · first | have nb : nbF g x1 p = n2F g p 1 4 32 ∧ nbE g x1 p = n2E g p := by rw [s112]; exact nb_112
      have u2 : n2F g p 1 4 32 = sq (nF g p 1 4) (nxF g (p + nD g p) 32) := rfl
      have s2 := sqc (nF g p 1 4) (nxF g (p + nD g p) 32)
      have u4 : n2E g p = nxE g (p + nD g p) := rfl
      refine zW_aload_n (pc' := 232) dX12_readsNumbers_4.1.2.2.1 rfl rfl ?_
      refine zW_iconst (pc' := 233) dX12_readsNumbers_4.1.2.2.2 rfl ?_
      refine zW_iconst (pc' := 234) dX12_readsNumbers_4.2.1.1.1 rfl ?_
      have y27 := hF.1 0 27 rfl rfl
      obtain ⟨hB, eB⟩ : ∃ z : Hp, z = h := ⟨_, rfl⟩
      have eB31 : hB 0 31 = κ 0 31 := by rw [eB, hk0]
      have eB26 : hB 0 26 = κ 0 26 := by rw [eB, hk0]
      have eB27 : hB 0 27 = κ 0 27 := by rw [eB, hk0]
      have y234_0_27 := hF.1 0 27 rfl rfl
      refine cvI2 (pc' := 237) kX12_readsNumber vX12_readsNumber lk_X12_157 ⟨Nat.le_of_ble_eq_true rfl, Nat.le_of_ble_eq_true rfl⟩ tb0 vq12 rfl rfl (s_X12_readsNumberP hF.2.1 hF.2.2.1 hF.2.2.2 _ ⟨by omega, by omega⟩ _ ⟨by omega, by omega⟩ g p (by omega) (by omega) (by rw [hF.cell 12 rfl (fun _ => rfl), hF.1 0 27 rfl rfl]; exact hg) (by omega)) dX12_readsNumbers_4.2.1.1.2 (Nat.le_of_ble_eq_true rfl) rfl ?_
      rintro r234 h ⟨hF1, p234⟩; replace hF := hF.tr hF1 rfl
      replace hPre : Pre15 κ h := hPre.tr p234.2.2.2.2.1 (by omega)
      rw [← eB] at p234
      have hv1 := fun (q : r234 = 1) => (p234.2.2.2.2.2.1.resolve_right (fun z => by omega)).2.2.2.2.2
      rw [eB31] at hv1
      refine zV_if_eq (tgt := 254) (pc' := 240) dX12_readsNumbers_4.2.1.2.1 rfl rfl ⟨by omega, by omega⟩ (fun c237 => ?_) (fun c237 => ?_)
      · refine zW_iconst (pc' := 255) dX12_readsNumbers_5.1.1.2.1 rfl ?_
        exact zV_zret rfl (by omega) dX12_readsNumbers_5.1.1.2.2 ⟨hF, (a8 (by refine ⟨by omega, by omega, by omega, by omega, hPre, by omega, by omega, fun q => ⟨by omega, fun _ => ?_, fun z => absurd z (by omega)⟩⟩; first | omega | (have := hv2 (by omega); omega)) (by omega))⟩
      · refine zW_aload_n (pc' := 241) dX12_readsNumbers_4.2.1.2.2 rfl rfl ?_
        refine zW_iconst (pc' := 242) dX12_readsNumbers_4.2.2.1.1 rfl ?_
        refine zW_bipush (pc' := 244) dX12_readsNumbers_4.2.2.1.2 rfl rfl ?_
        have y27 := hF.1 0 27 rfl rfl
        have y244_0_27 := hF.1 0 27 rfl rfl
        refine cvI2 (pc' := 247) kX12_readsNext vX12_readsNext lk_X12_160 ⟨Nat.le_of_ble_eq_true rfl, Nat.le_of_ble_eq_true rfl⟩ tb0 vq12 rfl rfl (s_X12_readsNextP hF.2.1 hF.2.2.1 hF.2.2.2 _ ⟨by omega, by omega⟩ _ ⟨by omega, by omega⟩ g (p + nD g p) (by omega) (by omega) (by rw [hF.cell 12 rfl (fun _ => rfl), hF.1 0 27 rfl rfl]; exact hg) (by omega)) dX12_readsNumbers_4.2.2.2.1 (Nat.le_of_ble_eq_true rfl) rfl ?_
        rintro r244 h ⟨hF1, p244⟩; replace hF := hF.tr hF1 rfl
        replace hPre : Pre15 κ h := hPre.tr p244.2.2.2.2.1 (by omega)
        have hv2 := fun (q : r234 = 1) => (p244.2.2.2.2.1 (κ 0 31).toNat (by omega)).trans (hv1 q)
        refine zV_if_eq (tgt := 254) (pc' := 250) dX12_readsNumbers_4.2.2.2.2 rfl rfl ⟨by omega, by omega⟩ (fun c247 => ?_) (fun c247 => ?_)
        · refine zW_iconst (pc' := 255) dX12_readsNumbers_5.1.1.2.1 rfl ?_
          exact zV_zret rfl (by omega) dX12_readsNumbers_5.1.1.2.2 ⟨hF, (a8 (by refine ⟨by omega, by omega, by omega, by omega, hPre, by omega, by omega, fun q => ⟨by omega, fun _ => ?_, fun z => absurd z (by omega)⟩⟩; first | omega | (have := hv2 (by omega); omega)) (by omega))⟩
        · refine zW_iconst (pc' := 251) dX12_readsNumbers_5.1.1.1.1 rfl ?_
          refine zV_goto 255 dX12_readsNumbers_5.1.1.1.2 rfl ?_
          exact zV_zret rfl (by omega) dX12_readsNumbers_5.1.1.2.2 ⟨hF, (a8 (by refine ⟨by omega, by omega, by omega, by omega, hPre, by omega, by omega, fun q => ⟨by omega, fun _ => ?_, fun z => absurd z (by omega)⟩⟩; first | omega | (have := hv2 (by omega); omega)) (by omega))⟩
    · first | have nb : nbF g x1 p = n2F g p 0 99 99 ∧ nbE g x1 p = n2E g p := by rw [s110]; exact nb_110 | have nb : nbF g x1 p = n2F g p 0 99 99 ∧ nbE g x1 p = n2E g p := by rw [s115]; exact nb_115
      have u2 : n2F g p 0 99 99 = sq (nF g p 0 99) (nxF g (p + nD g p) 99) := rfl
      have s2 := sqc (nF g p 0 99) (nxF g (p + nD g p) 99)
      have u4 : n2E g p = nxE g (p + nD g p) := rfl
      refine zW_aload_n (pc' := 257) dX12_readsNumbers_5.1.2.1.1 rfl rfl ?_
      refine zW_iconst (pc' := 258) dX12_readsNumbers_5.1.2.1.2 rfl ?_
      refine zW_bipush (pc' := 260) dX12_readsNumbers_5.1.2.2.1 rfl rfl ?_
      have y27 := hF.1 0 27 rfl rfl
      have y260_0_27 := hF.1 0 27 rfl rfl
      refine cvI2 (pc' := 263) kX12_readsNumber vX12_readsNumber lk_X12_157 ⟨Nat.le_of_ble_eq_true rfl, Nat.le_of_ble_eq_true rfl⟩ tb0 vq12 rfl rfl (s_X12_readsNumberP hF.2.1 hF.2.2.1 hF.2.2.2 _ ⟨by omega, by omega⟩ _ ⟨by omega, by omega⟩ g p (by omega) (by omega) (by rw [hF.cell 12 rfl (fun _ => rfl), hF.1 0 27 rfl rfl]; exact hg) (by omega)) dX12_readsNumbers_5.1.2.2.2 (Nat.le_of_ble_eq_true rfl) rfl ?_
      rintro r260 h ⟨hF1, p260⟩; replace hF := hF.tr hF1 rfl
      replace hPre : Pre15 κ h := hPre.tr p260.2.2.2.2.1 (by omega)
      refine zV_if_eq (tgt := 280) (pc' := 266) dX12_readsNumbers_5.2.1.1.1 rfl rfl ⟨by omega, by omega⟩ (fun c263 => ?_) (fun c263 => ?_)
      · refine zW_iconst (pc' := 281) dX12_readsNumbers_6.1.1.1 rfl ?_
        exact zV_zret rfl (by omega) dX12_readsNumbers_6.1.1.2 ⟨hF, (a8 (by refine ⟨by omega, by omega, by omega, by omega, hPre, by omega, by omega, fun q => ⟨by omega, fun z => absurd z (by omega), fun z => absurd z (by omega)⟩⟩) (by omega))⟩
      · refine zW_aload_n (pc' := 267) dX12_readsNumbers_5.2.1.1.2 rfl rfl ?_
        refine zW_iconst (pc' := 268) dX12_readsNumbers_5.2.1.2.1 rfl ?_
        refine zW_bipush (pc' := 270) dX12_readsNumbers_5.2.1.2.2 rfl rfl ?_
        have y27 := hF.1 0 27 rfl rfl
        have y270_0_27 := hF.1 0 27 rfl rfl
        refine cvI2 (pc' := 273) kX12_readsNext vX12_readsNext lk_X12_160 ⟨Nat.le_of_ble_eq_true rfl, Nat.le_of_ble_eq_true rfl⟩ tb0 vq12 rfl rfl (s_X12_readsNextP hF.2.1 hF.2.2.1 hF.2.2.2 _ ⟨by omega, by omega⟩ _ ⟨by omega, by omega⟩ g (p + nD g p) (by omega) (by omega) (by rw [hF.cell 12 rfl (fun _ => rfl), hF.1 0 27 rfl rfl]; exact hg) (by omega)) dX12_readsNumbers_5.2.2.1.1 (Nat.le_of_ble_eq_true rfl) rfl ?_
        rintro r270 h ⟨hF1, p270⟩; replace hF := hF.tr hF1 rfl
        replace hPre : Pre15 κ h := hPre.tr p270.2.2.2.2.1 (by omega)
        refine zV_if_eq (tgt := 280) (pc' := 276) dX12_readsNumbers_5.2.2.1.2 rfl rfl ⟨by omega, by omega⟩ (fun c273 => ?_) (fun c273 => ?_)
        · refine zW_iconst (pc' := 281) dX12_readsNumbers_6.1.1.1 rfl ?_
          exact zV_zret rfl (by omega) dX12_readsNumbers_6.1.1.2 ⟨hF, (a8 (by refine ⟨by omega, by omega, by omega, by omega, hPre, by omega, by omega, fun q => ⟨by omega, fun z => absurd z (by omega), fun z => absurd z (by omega)⟩⟩) (by omega))⟩
        · refine zW_iconst (pc' := 277) dX12_readsNumbers_5.2.2.2.1 rfl ?_
          refine zV_goto 281 dX12_readsNumbers_5.2.2.2.2 rfl ?_
          exact zV_zret rfl (by omega) dX12_readsNumbers_6.1.1.2 ⟨hF, (a8 (by refine ⟨by omega, by omega, by omega, by omega, hPre, by omega, by omega, fun q => ⟨by omega, fun z => absurd z (by omega), fun z => absurd z (by omega)⟩⟩) (by omega))⟩
    · first | have nb : nbF g x1 p = nF g p 1 3 ∧ nbE g x1 p = p + nD g p := by rw [s118]; exact nb_118
      refine zW_aload_n (pc' := 136) dX12_readsNumbers_1.1.1.1.2 rfl rfl ?_
      refine zW_iconst (pc' := 137) dX12_readsNumbers_1.1.1.2.1 rfl ?_
      refine zW_iconst (pc' := 138) dX12_readsNumbers_1.1.1.2.2 rfl ?_
      have y27 := hF.1 0 27 rfl rfl
      have y138_0_27 := hF.1 0 27 rfl rfl
      refine cvI2 (pc' := 141) kX12_readsNumber vX12_readsNumber lk_X12_157 ⟨Nat.le_of_ble_eq_true rfl, Nat.le_of_ble_eq_true rfl⟩ tb0 vq12 rfl rfl (s_X12_readsNumberP hF.2.1 hF.2.2.1 hF.2.2.2 _ ⟨by omega, by omega⟩ _ ⟨by omega, by omega⟩ g p (by omega) (by omega) (by rw [hF.cell 12 rfl (fun _ => rfl), hF.1 0 27 rfl rfl]; exact hg) (by omega)) dX12_readsNumbers_1.1.2.1.1 (Nat.le_of_ble_eq_true rfl) rfl ?_
      rintro r138 h ⟨hF1, p138⟩; replace hF := hF.tr hF1 rfl
      replace hPre : Pre15 κ h := hPre.tr p138.2.2.2.2.1 (by omega)
      exact zV_zret rfl (by omega) dX12_readsNumbers_1.1.2.1.2 ⟨hF, (a8 (by refine ⟨by omega, by omega, by omega, by omega, hPre, by omega, by omega, fun q => ⟨by omega, fun z => absurd z (by omega), fun z => absurd z (by omega)⟩⟩) (by omega))⟩
    · first | have nb : nbF g x1 p = nF g p 0 255 ∧ nbE g x1 p = p + nD g p := by rw [s98]; exact nb_98 | have nb : nbF g x1 p = nF g p 0 255 ∧ nbE g x1 p = p + nD g p := by rw [s100]; exact nb_100 | have nb : nbF g x1 p = nF g p 0 255 ∧ nbE g x1 p = p + nD g p := by rw [s119]; exact nb_119
      refine zW_aload_n (pc' := 113) dX12_readsNumbers_0.1.1.2.1 rfl rfl ?_
      refine zW_iconst (pc' := 114) dX12_readsNumbers_0.1.1.2.2 rfl ?_
      refine zW_sipush (pc' := 117) dX12_readsNumbers_0.1.2.1.1 rfl rfl ?_
      have y27 := hF.1 0 27 rfl rfl
      have y117_0_27 := hF.1 0 27 rfl rfl
      refine cvI2 (pc' := 120) kX12_readsNumber vX12_readsNumber lk_X12_157 ⟨Nat.le_of_ble_eq_true rfl, Nat.le_of_ble_eq_true rfl⟩ tb0 vq12 rfl rfl (s_X12_readsNumberP hF.2.1 hF.2.2.1 hF.2.2.2 _ ⟨by omega, by omega⟩ _ ⟨by omega, by omega⟩ g p (by omega) (by omega) (by rw [hF.cell 12 rfl (fun _ => rfl), hF.1 0 27 rfl rfl]; exact hg) (by omega)) dX12_readsNumbers_0.1.2.1.2 (Nat.le_of_ble_eq_true rfl) rfl ?_
      rintro r117 h ⟨hF1, p117⟩; replace hF := hF.tr hF1 rfl
      replace hPre : Pre15 κ h := hPre.tr p117.2.2.2.2.1 (by omega)
      exact zV_zret rfl (by omega) dX12_readsNumbers_0.1.2.2.1 ⟨hF, (a8 (by refine ⟨by omega, by omega, by omega, by omega, hPre, by omega, by omega, fun q => ⟨by omega, fun z => absurd z (by omega), fun z => absurd z (by omega)⟩⟩) (by omega))⟩
    · first | have nb : nbF g x1 p = n3F g p 0 32 32 ∧ nbE g x1 p = n3E g p := by rw [s121]; exact nb_121
      have u2 : n2F g p 0 32 32 = sq (nF g p 0 32) (nxF g (p + nD g p) 32) := rfl
      have s2 := sqc (nF g p 0 32) (nxF g (p + nD g p) 32)
      have u4 : n2E g p = nxE g (p + nD g p) := rfl
      have u3 : n3F g p 0 32 32 = sq (n2F g p 0 32 32) (nxF g (n2E g p) 32) := rfl
      have s3 := sqc (n2F g p 0 32 32) (nxF g (n2E g p) 32)
      have u5 : n3E g p = nxE g (n2E g p) := rfl
      refine zW_aload_n (pc' := 160) dX12_readsNumbers_2.1.1.1.1 rfl rfl ?_
      refine zW_iconst (pc' := 161) dX12_readsNumbers_2.1.1.1.2 rfl ?_
      refine zW_bipush (pc' := 163) dX12_readsNumbers_2.1.1.2.1 rfl rfl ?_
      have y27 := hF.1 0 27 rfl rfl
      have y163_0_27 := hF.1 0 27 rfl rfl
      refine cvI2 (pc' := 166) kX12_readsNumber vX12_readsNumber lk_X12_157 ⟨Nat.le_of_ble_eq_true rfl, Nat.le_of_ble_eq_true rfl⟩ tb0 vq12 rfl rfl (s_X12_readsNumberP hF.2.1 hF.2.2.1 hF.2.2.2 _ ⟨by omega, by omega⟩ _ ⟨by omega, by omega⟩ g p (by omega) (by omega) (by rw [hF.cell 12 rfl (fun _ => rfl), hF.1 0 27 rfl rfl]; exact hg) (by omega)) dX12_readsNumbers_2.1.1.2.2 (Nat.le_of_ble_eq_true rfl) rfl ?_
      rintro r163 h ⟨hF1, p163⟩; replace hF := hF.tr hF1 rfl
      replace hPre : Pre15 κ h := hPre.tr p163.2.2.2.2.1 (by omega)
      refine zV_if_eq (tgt := 193) (pc' := 169) dX12_readsNumbers_2.1.2.1.1 rfl rfl ⟨by omega, by omega⟩ (fun c166 => ?_) (fun c166 => ?_)
      · refine zW_iconst (pc' := 194) dX12_readsNumbers_3.1.1.1.2 rfl ?_
        exact zV_zret rfl (by omega) dX12_readsNumbers_3.1.1.2.1 ⟨hF, (a8 (by refine ⟨by omega, by omega, by omega, by omega, hPre, by omega, by omega, fun q => ⟨by omega, fun z => absurd z (by omega), fun z => absurd z (by omega)⟩⟩) (by omega))⟩
      · refine zW_aload_n (pc' := 170) dX12_readsNumbers_2.1.2.1.2 rfl rfl ?_
        refine zW_iconst (pc' := 171) dX12_readsNumbers_2.1.2.2.1 rfl ?_
        refine zW_bipush (pc' := 173) dX12_readsNumbers_2.1.2.2.2 rfl rfl ?_
        have y27 := hF.1 0 27 rfl rfl
        have y173_0_27 := hF.1 0 27 rfl rfl
        refine cvI2 (pc' := 176) kX12_readsNext vX12_readsNext lk_X12_160 ⟨Nat.le_of_ble_eq_true rfl, Nat.le_of_ble_eq_true rfl⟩ tb0 vq12 rfl rfl (s_X12_readsNextP hF.2.1 hF.2.2.1 hF.2.2.2 _ ⟨by omega, by omega⟩ _ ⟨by omega, by omega⟩ g (p + nD g p) (by omega) (by omega) (by rw [hF.cell 12 rfl (fun _ => rfl), hF.1 0 27 rfl rfl]; exact hg) (by omega)) dX12_readsNumbers_2.2.1.1.1 (Nat.le_of_ble_eq_true rfl) rfl ?_
        rintro r173 h ⟨hF1, p173⟩; replace hF := hF.tr hF1 rfl
        replace hPre : Pre15 κ h := hPre.tr p173.2.2.2.2.1 (by omega)
        refine zV_if_eq (tgt := 193) (pc' := 179) dX12_readsNumbers_2.2.1.1.2 rfl rfl ⟨by omega, by omega⟩ (fun c176 => ?_) (fun c176 => ?_)
        · refine zW_iconst (pc' := 194) dX12_readsNumbers_3.1.1.1.2 rfl ?_
          exact zV_zret rfl (by omega) dX12_readsNumbers_3.1.1.2.1 ⟨hF, (a8 (by refine ⟨by omega, by omega, by omega, by omega, hPre, by omega, by omega, fun q => ⟨by omega, fun z => absurd z (by omega), fun z => absurd z (by omega)⟩⟩) (by omega))⟩
        · refine zW_aload_n (pc' := 180) dX12_readsNumbers_2.2.1.2.1 rfl rfl ?_
          refine zW_iconst (pc' := 181) dX12_readsNumbers_2.2.1.2.2 rfl ?_
          refine zW_bipush (pc' := 183) dX12_readsNumbers_2.2.2.1.1 rfl rfl ?_
          have y27 := hF.1 0 27 rfl rfl
          have y183_0_27 := hF.1 0 27 rfl rfl
          refine cvI2 (pc' := 186) kX12_readsNext vX12_readsNext lk_X12_160 ⟨Nat.le_of_ble_eq_true rfl, Nat.le_of_ble_eq_true rfl⟩ tb0 vq12 rfl rfl (s_X12_readsNextP hF.2.1 hF.2.2.1 hF.2.2.2 _ ⟨by omega, by omega⟩ _ ⟨by omega, by omega⟩ g (n2E g p) (by omega) (by omega) (by rw [hF.cell 12 rfl (fun _ => rfl), hF.1 0 27 rfl rfl]; exact hg) (by omega)) dX12_readsNumbers_2.2.2.1.2 (Nat.le_of_ble_eq_true rfl) rfl ?_
          rintro r183 h ⟨hF1, p183⟩; replace hF := hF.tr hF1 rfl
          replace hPre : Pre15 κ h := hPre.tr p183.2.2.2.2.1 (by omega)
          refine zV_if_eq (tgt := 193) (pc' := 189) dX12_readsNumbers_2.2.2.2.1 rfl rfl ⟨by omega, by omega⟩ (fun c186 => ?_) (fun c186 => ?_)
          · refine zW_iconst (pc' := 194) dX12_readsNumbers_3.1.1.1.2 rfl ?_
            exact zV_zret rfl (by omega) dX12_readsNumbers_3.1.1.2.1 ⟨hF, (a8 (by refine ⟨by omega, by omega, by omega, by omega, hPre, by omega, by omega, fun q => ⟨by omega, fun z => absurd z (by omega), fun z => absurd z (by omega)⟩⟩) (by omega))⟩
          · refine zW_iconst (pc' := 190) dX12_readsNumbers_2.2.2.2.2 rfl ?_
            refine zV_goto 194 dX12_readsNumbers_3.1.1.1.1 rfl ?_
            exact zV_zret rfl (by omega) dX12_readsNumbers_3.1.1.2.1 ⟨hF, (a8 (by refine ⟨by omega, by omega, by omega, by omega, hPre, by omega, by omega, fun q => ⟨by omega, fun z => absurd z (by omega), fun z => absurd z (by omega)⟩⟩) (by omega))⟩
    · have nb := nb_else (g := g) (c := x1) (p := p) (by omega)
      refine zW_aload_n (pc' := 283) dX12_readsNumbers_6.1.2 rfl rfl ?_
      have y27 := hF.1 0 27 rfl rfl
      obtain ⟨hB, eB⟩ : ∃ z : Hp, z = h := ⟨_, rfl⟩
      have eB31 : hB 0 31 = κ 0 31 := by rw [eB, hk0]
      have eB26 : hB 0 26 = κ 0 26 := by rw [eB, hk0]
      have eB27 : hB 0 27 = κ 0 27 := by rw [eB, hk0]
      have y283_0_27 := hF.1 0 27 rfl rfl
      refine cvI0 (pc' := 286) kX12_readsCurve vX12_readsCurve lk_X12_163 ⟨Nat.le_of_ble_eq_true rfl, Nat.le_of_ble_eq_true rfl⟩ tb0 vq12 rfl rfl (s_X12_readsCurveP hF.2.1 hF.2.2.1 hF.2.2.2 g p (by omega) (by omega) (by rw [hF.cell 12 rfl (fun _ => rfl), hF.1 0 27 rfl rfl]; exact hg) (by omega)) dX12_readsNumbers_6.2.1 (Nat.le_of_ble_eq_true rfl) rfl ?_
      rintro r283 h ⟨hF1, p283⟩; replace hF := hF.tr hF1 rfl
      replace hPre : Pre15 κ h := hPre.tr p283.2.2.2.2.1 (by omega)
      rw [← eB] at p283
      have hcv := p283.2.2.2.2.2.2.2.1
      rw [eB31] at hcv
      exact zV_zret rfl (by omega) dX12_readsNumbers_6.2.2 ⟨hF, (a8 (by refine ⟨by omega, by omega, by omega, by omega, hPre, by omega, by omega, fun q => ⟨?_, fun z => absurd z (by omega), fun _ => hcv q⟩⟩; have := (hcv q).1; omega) (by omega))⟩

abbrev q_X12_isFilledSoFarP (κ h : Hp) (f : Int) : Int → Hp → Prop := fun r h' => h' = h ∧ ((0 ≤ r) ∧ (r ≤ 1) ∧ (r = 1 ↔ f ≠ 0))
set_option maxHeartbeats 4000000 in
set_option maxRecDepth 20000 in
theorem s_X12_isFilledSoFarP {G : Ga} {b : Bool} {κ h : Hp} (hK : KR κ) (hF : Fr b κ h) (f : Int) (hm0 : 0 ≤ κ 0 30 ∧ κ 0 30 ≤ 12) (hf0 : 0 ≤ f ∧ f ≤ κ 0 30) (hfl : ∀ j : Nat, (j : Int) < κ 0 30 → (κ 13 j = 102 ↔ (j : Int) + 1 = f)) : zM G mX12_isFilledSoFar yX12_isFilledSoFar [.inr (.inr 0)] h (q_X12_isFilledSoFarP κ h f) := by
  have main : ∀ N : Nat, (∀ (v1 : Int) , (0 ≤ v1 ∧ v1 ≤ 12) → (∀ j : Nat, (j : Int) < v1 → κ 13 j ≠ 102) → 4284 + 18 * (12 - v1) + 17 < (N : Int) → zV G mX12_isFilledSoFar (q_X12_isFilledSoFarP κ h f) 2 [some (.inr (.inr 0)), some (.inl v1)] [] h) := by
    intro N
    induction N with
    | zero =>
      intro v1 g0 gc0 hm
      exfalso; omega
    | succ N ih =>
      have k2 := ih
      intro v1 g0 gc0 hm
      refine zW_iload_n (pc' := 3) dX12_isFilledSoFar_0.1.1.2.1 rfl rfl ?_
      refine zW_aload_n (pc' := 4) dX12_isFilledSoFar_0.1.1.2.2 rfl rfl ?_
      refine zG_key (pc' := 7) hF rfl fg_X12_167 tb0 rfl dX12_isFilledSoFar_0.1.2.1.1 rfl ?_
      have e4 := hF.rk (k := 0) (i := 30) rfl (by decide) (by decide)
      refine zV_cm_ge (tgt := 29) (pc' := 10) dX12_isFilledSoFar_0.1.2.1.2 rfl rfl ⟨by omega, by omega⟩ ⟨by omega, by omega⟩ (fun c7 => ?_) (fun c7 => ?_)
      · refine zW_iconst (pc' := 30) dX12_isFilledSoFar_1.1 rfl ?_
        exact zV_zret rfl (by omega) dX12_isFilledSoFar_1.2 ⟨rfl, by have z := hfl (f - 1).toNat; have z2 := gc0 (f - 1).toNat; omega⟩
      · refine zW_aload_n (pc' := 11) dX12_isFilledSoFar_0.1.2.2.1 rfl rfl ?_
        refine zG_ref (pc' := 14) 13 fg_X12_48 tb0 rfl dX12_isFilledSoFar_0.1.2.2.2 rfl ?_
        refine zW_iload_n (pc' := 15) dX12_isFilledSoFar_0.2.1.1.1 rfl rfl ?_
        refine zA_keyI (pc' := 16) hF rfl (by decide) (by decide) tb13 (by omega) dX12_isFilledSoFar_0.2.1.1.2 (by decide) rfl (fun e15 => ?_)
        refine zW_bipush (pc' := 18) dX12_isFilledSoFar_0.2.1.2.1 rfl rfl ?_
        refine zV_cm_ne (tgt := 23) (pc' := 21) dX12_isFilledSoFar_0.2.1.2.2 rfl rfl ⟨by omega, by omega⟩ ⟨by omega, by omega⟩ (fun c18 => ?_) (fun c18 => ?_)
        · refine zW_iinc (ls' := [_, _]) (pc' := 26) dX12_isFilledSoFar_0.2.2.2.1 rfl (by decide) rfl rfl rfl ?_
          refine zV_goto 2 dX12_isFilledSoFar_0.2.2.2.2 rfl ?_
          exact k2 _ (by omega) (fun j => by have q0 := gc0 j; by_cases ej : j = v1.toNat; (subst ej; omega); omega) (by omega)
        · refine zW_iconst (pc' := 22) dX12_isFilledSoFar_0.2.2.1.1 rfl ?_
          exact zV_zret rfl (by omega) dX12_isFilledSoFar_0.2.2.1.2 ⟨rfl, by have z := hfl v1.toNat (by omega); omega⟩
  refine zM_of [some (.inr (.inr 0)), none] 1 rfl rfl (Nat.le_of_ble_eq_true rfl) rfl ?_
  refine zW_iconst (pc' := 1) dX12_isFilledSoFar_0.1.1.1.1 rfl ?_
  refine zW_istore_n (ls' := [_, _]) (pc' := 2) dX12_isFilledSoFar_0.1.1.1.2 (by decide) rfl rfl rfl ?_
  exact (main 10000000000000000000000000000000000000000) _ (by omega) (fun j => by omega) (by omega)

abbrev q_X12_readsStageP (κ : Hp) (g : Int → Int) (p : Int) (f : Int) : Int → Hp → Prop := fun r h' => Fm [(0, 26), (0, 28), (0, 29), (0, 31), (15, 999), (0, 30), (13, 999), (14, 999)] κ h' ∧ ((0 ≤ r) ∧ (r ≤ 1) ∧ (κ 0 26 ≤ h' 0 26 ∧ h' 0 26 ≤ κ 0 27 ∧ (r = 1 → NP h') ∧ ((r = 1 ∧ sgF g p (κ 0 30) f = 0 ∧ h' 0 26 = sgE g p ∧ h' 0 30 = κ 0 30 + 1 ∧ p + 2 ≤ h' 0 26) ∨ (r = 0 ∧ sgF g p (κ 0 30) f ≠ 0 ∧ h' 0 28 = sgF g p (κ 0 30) f ∧ h' 0 28 < 0)) ∧ (r = 1 → ∀ j : Nat, (j : Int) < h' 0 30 → (h' 13 j = 102 ↔ (j : Int) + 1 = nxf g p (κ 0 30) f))))
set_option maxHeartbeats 4000000 in
set_option maxRecDepth 20000 in
theorem s_X12_readsStageP {G : Ga} {κ : Hp} (hS : SI κ) (hR : KR κ) (hC : KC κ) (g : Int → Int) (p : Int) (f : Int) (hp : 0 ≤ κ 0 26 ∧ κ 0 26 ≤ κ 0 27 ∧ κ 0 27 ≤ 120) (hq : 0 ≤ κ 0 31 ∧ κ 0 31 ≤ κ 0 26) (hm0 : 0 ≤ κ 0 30 ∧ κ 0 30 ≤ 12) (hA0 : κ 14 (κ 0 30).toNat = κ 0 31) (hRc : RecOK (κ 13) (κ 14) (κ 15) (κ 0 30)) (hg : hr (fun i => κ 12 i % 256) (κ 0 27) = g) (ht : κ 0 26 = p) (hf0 : 0 ≤ f ∧ f ≤ κ 0 30) (hfl : ∀ j : Nat, (j : Int) < κ 0 30 → (κ 13 j = 102 ↔ (j : Int) + 1 = f)) : zM G mX12_readsStage yX12_readsStage [.inr (.inr 0)] κ (q_X12_readsStageP κ g p f) := by
  have k29 : ∀ (v1 : Int) (h : Hp), Fm [(0, 26), (0, 28), (0, 29), (0, 31), (15, 999), (0, 30), (13, 999), (14, 999)] κ h → (-1 ≤ v1 ∧ v1 ≤ 255) → (h = κ) → (v1 = g p ∧ 0 ≤ kd (g p) ∧ p < κ 0 27 ∧ 0 ≤ v1) → zV G mX12_readsStage (q_X12_readsStageP κ g p f) 29 [some (.inr (.inr 0)), some (.inl v1)] [] h := by
    intro v1 h hF g0 gc0 gc1
    have hk0 := gc0
    have y0_0_26 : h 0 26 = κ 0 26 := by rw [hk0]
    have y0_0_27 : h 0 27 = κ 0 27 := by rw [hk0]
    have y0_0_31 : h 0 31 = κ 0 31 := by rw [hk0]
    have y0_0_30 : h 0 30 = κ 0 30 := by rw [hk0]
    have hPre : Pre15 κ h := by rw [hk0]; exact Pre15.rf
    have h13 : h 13 = κ 13 := by rw [hk0]
    have h14 : h 14 = κ 14 := by rw [hk0]
    have q1 : v1 = g p := gc1.1
    have kb := kd_b (g p)
    refine zW_aload_n (pc' := 30) dX12_readsStage_0.2.2.2.2 rfl rfl ?_
    refine zG_int (pc' := 33) fg_X12_167 tb0 rfl dX12_readsStage_1.1.1.1.1 rfl ?_
    have e30 := hF.rh 0 30
    refine zW_bipush (pc' := 35) dX12_readsStage_1.1.1.1.2 rfl rfl ?_
    refine zV_cm_ne (tgt := 48) (pc' := 38) dX12_readsStage_1.1.1.2.1 rfl rfl ⟨by omega, by omega⟩ ⟨by omega, by omega⟩ (fun c35 => ?_) (fun c35 => ?_)
    · refine zW_aload_n (pc' := 49) dX12_readsStage_1.2.1.1.2 rfl rfl ?_
      have y27 := hF.1 0 27 rfl rfl
      refine cvI0 (pc' := 52) kX12_isFilledSoFar vX12_isFilledSoFar lk_X12_176 ⟨Nat.le_of_ble_eq_true rfl, Nat.le_of_ble_eq_true rfl⟩ tb0 vq12 rfl rfl (s_X12_isFilledSoFarP (b := true) (κ := h) hF.2.2.1 (Fr.rf hF.2.1) f (by omega) (by omega) (fun j hj => by rw [h13]; exact hfl j (by omega))) dX12_readsStage_1.2.1.2.1 (Nat.le_of_ble_eq_true rfl) rfl ?_
      rintro r49 z49 ⟨hz49, p49⟩; subst z49
      have e49 := p49.2.2
      have s49 := And.intro p49.1 p49.2.1
      clear p49
      refine zW_iload_n (pc' := 53) dX12_readsStage_1.2.1.2.2 rfl rfl ?_
      have y27 := hF.1 0 27 rfl rfl
      refine csI1 (pc' := 56) kX12_isEarly vX12_isEarly lk_X12_170 ⟨Nat.le_of_ble_eq_true rfl, Nat.le_of_ble_eq_true rfl⟩ rfl (s_X12_isEarly (b := true) (κ := h) (Fr.rf hF.2.1) _ ⟨by omega, by omega⟩) dX12_readsStage_1.2.2.1.1 (Nat.le_of_ble_eq_true rfl) rfl ?_
      rintro r53 z53 ⟨hz53, p53⟩; subst z53
      have e53 : r53 = 1 ↔ (0 ≤ kd (g p) ∧ kd (g p) ≤ 4) := by rw [← q1]; exact p53.2.2.trans (kd_e _).symm
      have s53 := And.intro p53.1 p53.2.1
      clear p53
      refine zV_cm_ne (tgt := 70) (pc' := 59) dX12_readsStage_1.2.2.1.2 rfl rfl ⟨by omega, by omega⟩ ⟨by omega, by omega⟩ (fun c56 => ?_) (fun c56 => ?_)
      · have lz : lF g p (κ 0 30) f = 0 := lf_0 (by omega) (by omega) (by omega)
        have m12 : κ 0 30 ≤ 11 := by omega
        have ff : g p = 102 → f = 0 := fun z => by have := (kd_f (g p)).mpr z; omega
        clear e49 e53
        refine zW_aload_n (pc' := 71) dX12_readsStage_2.1.2.1.1 rfl rfl ?_
        refine zW_aload_n (pc' := 72) dX12_readsStage_2.1.2.1.2 rfl rfl ?_
        refine zG_int (pc' := 75) fg_X12_123 tb0 rfl dX12_readsStage_2.1.2.2.1 rfl ?_
        have e72 := hF.rh 0 26
        refine zW_iconst (pc' := 76) dX12_readsStage_2.1.2.2.2 rfl ?_
        refine zW_iadd (pc' := 77) dX12_readsStage_2.2.1.1.1 rfl ?_
        refine zPm (pc' := 80) hF (Or.inl rfl) (SI_irr hF.2.1 (Or.inl rfl) (fun _ _ => ⟨by omega, by omega⟩)) (KR_irr hF.2.2.1 rfl) (KC_irr hF.2.2.2 rfl) fp_X12_123 tb0 rfl dX12_readsStage_2.2.1.1.2 rfl (fun h hF w77 => ?_)
        replace hPre : Pre15 κ h := by rw [w77]; exact hPre.w (by decide)
        replace h13 : h 13 = κ 13 := by rw [w77]; exact (zfun (by decide)).trans h13
        replace h14 : h 14 = κ 14 := by rw [w77]; exact (zfun (by decide)).trans h14
        have t77_0_26 := congrFun (congrFun w77 0) 26
        rw [zwr_eq] at t77_0_26
        have t77_0_31 := congrFun (congrFun w77 0) 31
        rw [zwr_ne (Or.inr (by decide))] at t77_0_31
        have t77_0_30 := congrFun (congrFun w77 0) 30
        rw [zwr_ne (Or.inr (by decide))] at t77_0_30
        have t77_0_28 := congrFun (congrFun w77 0) 28
        rw [zwr_ne (Or.inr (by decide))] at t77_0_28
        refine zW_aload_n (pc' := 81) dX12_readsStage_2.2.1.2.1 rfl rfl ?_
        refine zW_bipush (pc' := 83) dX12_readsStage_2.2.1.2.2 rfl rfl ?_
        have y27 := hF.1 0 27 rfl rfl
        have y83_0_27 := hF.1 0 27 rfl rfl
        refine cvI1 (pc' := 86) kX12_takesSign vX12_takesSign lk_X12_154 ⟨Nat.le_of_ble_eq_true rfl, Nat.le_of_ble_eq_true rfl⟩ tb0 vq12 rfl rfl (s_X12_takesSignP hF.2.1 hF.2.2.1 hF.2.2.2 _ ⟨by omega, by omega⟩ g (p + 1) (by rw [hF.cell 12 rfl (fun _ => rfl), hF.1 0 27 rfl rfl]; exact hg) (by omega) (by omega)) dX12_readsStage_2.2.2.1.1 (Nat.le_of_ble_eq_true rfl) rfl ?_
        rintro r83 h ⟨hF1, p83⟩; replace hF := hF.tr hF1 rfl
        replace hPre : Pre15 κ h := hPre.fm hF1 (fun _ => rfl)
        replace h13 : h 13 = κ 13 := (hF1.cell 13 rfl (fun _ => rfl)).trans h13
        replace h14 : h 14 = κ 14 := (hF1.cell 14 rfl (fun _ => rfl)).trans h14
        have t83_0_31 := hF1.1 0 31 rfl rfl
        have t83_0_30 := hF1.1 0 30 rfl rfl
        refine zV_if_eq (tgt := 97) (pc' := 89) dX12_readsStage_2.2.2.1.2 rfl rfl ⟨by omega, by omega⟩ (fun c86 => ?_) (fun c86 => ?_)
        · first | (have r0 : r83 = 0 := (by omega); have sg : sgF g p (κ 0 30) f = sF g (p + 1) 58 := sg_s lz (by omega)) | skip
          refine zW_iconst (pc' := 98) dX12_readsStage_3.1.1.2.1 rfl ?_
          exact zV_zret rfl (by omega) dX12_readsStage_3.1.1.2.2 ⟨hF, by refine ⟨by omega, by omega, by omega, by omega, fun q => absurd q (by omega), by omega, fun q => absurd q (by omega)⟩⟩
        · have sg : sgF g p (κ 0 30) f = nbF g (g p) (p + 2) := sg_n lz (by omega)
          have t26 : h 0 26 = p + 2 := by omega
          have t27 : p + 2 ≤ κ 0 27 := by omega
          refine zW_aload_n (pc' := 90) dX12_readsStage_2.2.2.2.1 rfl rfl ?_
          refine zW_iload_n (pc' := 91) dX12_readsStage_2.2.2.2.2 rfl rfl ?_
          clear p83
          have y27 := hF.1 0 27 rfl rfl
          obtain ⟨hB, eB⟩ : ∃ z : Hp, z = h := ⟨_, rfl⟩
          have eB31 : hB 0 31 = κ 0 31 := by rw [eB]; omega
          have eB26 : hB 0 26 = h 0 26 := by rw [eB]
          have eB27 : hB 0 27 = h 0 27 := by rw [eB]
          have y91_0_27 := hF.1 0 27 rfl rfl
          refine cvI1 (pc' := 94) kX12_readsNumbers vX12_readsNumbers lk_X12_179 ⟨Nat.le_of_ble_eq_true rfl, Nat.le_of_ble_eq_true rfl⟩ tb0 vq12 rfl rfl (s_X12_readsNumbersP hF.2.1 hF.2.2.1 hF.2.2.2 _ ⟨by omega, by omega⟩ g (p + 2) (by omega) (by omega) (by rw [hF.cell 12 rfl (fun _ => rfl), hF.1 0 27 rfl rfl]; exact hg) (by omega)) dX12_readsStage_3.1.1.1.1 (Nat.le_of_ble_eq_true rfl) rfl ?_
          rintro r91 h ⟨hF1, p91⟩; replace hF := hF.tr hF1 rfl
          replace hPre : Pre15 κ h := hPre.tr p91.2.2.2.2.1 (by omega)
          replace h13 : h 13 = κ 13 := (hF1.cell 13 rfl (fun _ => rfl)).trans h13
          replace h14 : h 14 = κ 14 := (hF1.cell 14 rfl (fun _ => rfl)).trans h14
          have t91_0_30 := hF1.1 0 30 rfl rfl
          have nbx : nbF g v1 (p + 2) = nbF g (g p) (p + 2) ∧ nbE g v1 (p + 2) = nbE g (g p) (p + 2) := by rw [q1]; exact ⟨rfl, rfl⟩
          refine zV_if_ne (tgt := 99) (pc' := 97) dX12_readsStage_3.1.1.1.2 rfl rfl ⟨by omega, by omega⟩ (fun c94 => ?_) (fun c94 => ?_)
          · rw [← eB] at p91
            obtain ⟨n1, n2, n3⟩ := p91.2.2.2.2.2.2.2.1 (by omega)
            rw [eB31] at n1 n2 n3
            obtain ⟨hC, eC⟩ : ∃ z : Hp, z = h := ⟨_, rfl⟩
            have c31 : hC 0 31 = h 0 31 := by rw [eC]
            rw [← eC] at n1 n2 n3
            have hPC : Pre15 κ hC := by rw [eC]; exact hPre
            have c13 : hC 13 = κ 13 := by rw [eC]; exact h13
            have c14 : hC 14 = κ 14 := by rw [eC]; exact h14
            have w91 := p91.2.2.2.2.2.2.2.2.resolve_right (fun z => by omega)
            have b91 := And.intro p91.2.2.1 (And.intro p91.2.2.2.1 (And.intro p91.2.2.2.2.2.1 p91.2.2.2.2.2.2.1))
            clear p91
            replace n2 : Hid _ := n2
            replace n3 : Hid _ := n3
            refine zW_aload_n (pc' := 100) dX12_readsStage_3.1.2.1.1 rfl rfl ?_
            refine zG_ref (pc' := 103) 13 fg_X12_48 tb0 rfl dX12_readsStage_3.1.2.1.2 rfl ?_
            refine zW_aload_n (pc' := 104) dX12_readsStage_3.1.2.2.1 rfl rfl ?_
            refine zG_int (pc' := 107) fg_X12_167 tb0 rfl dX12_readsStage_3.1.2.2.2 rfl ?_
            have e104 := hF.rh 0 30
            refine zW_iload_n (pc' := 108) dX12_readsStage_3.2.1.1.1 rfl rfl ?_
            have y30 : h 0 30 = κ 0 30 := by omega
            refine zSm (pc' := 109) hF rfl (fun v' hv he => ⟨(SI_irr hF.2.1 (Or.inl (key_of rfl _)) (fun _ _ => hv)), (KR_irr hF.2.2.1 rfl), (KC_irr hF.2.2.2 rfl)⟩) tb13 (by omega) dX12_readsStage_3.2.1.1.2 (by decide) rfl (fun h i108 hF a108 b108 w108 => ?_)
            have t108_0_26 := congrFun (congrFun w108 0) 26
            rw [zwr_ne (Or.inl (by decide))] at t108_0_26
            have t108_0_31 := congrFun (congrFun w108 0) 31
            rw [zwr_ne (Or.inl (by decide))] at t108_0_31
            have t108_0_30 := congrFun (congrFun w108 0) 30
            rw [zwr_ne (Or.inl (by decide))] at t108_0_30
            have t108_0_28 := congrFun (congrFun w108 0) 28
            rw [zwr_ne (Or.inl (by decide))] at t108_0_28
            refine zW_aload_n (pc' := 110) dX12_readsStage_3.2.1.2.1 rfl rfl ?_
            refine zW_aload_n (pc' := 111) dX12_readsStage_3.2.1.2.2 rfl rfl ?_
            refine zG_int (pc' := 114) fg_X12_167 tb0 rfl dX12_readsStage_3.2.2.1.1 rfl ?_
            have e111 := hF.rh 0 30
            refine zW_iconst (pc' := 115) dX12_readsStage_3.2.2.1.2 rfl ?_
            refine zW_iadd (pc' := 116) dX12_readsStage_3.2.2.2.1 rfl ?_
            refine zPm (pc' := 119) hF (Or.inl rfl) (SI_irr hF.2.1 (Or.inl rfl) (fun _ _ => ⟨by omega, by omega⟩)) (KR_irr hF.2.2.1 rfl) (KC_irr hF.2.2.2 rfl) fp_X12_167 tb0 rfl dX12_readsStage_3.2.2.2.2 rfl (fun h hF w116 => ?_)
            have t116_0_26 := congrFun (congrFun w116 0) 26
            rw [zwr_ne (Or.inr (by decide))] at t116_0_26
            have t116_0_31 := congrFun (congrFun w116 0) 31
            rw [zwr_ne (Or.inr (by decide))] at t116_0_31
            have t116_0_30 := congrFun (congrFun w116 0) 30
            rw [zwr_eq] at t116_0_30
            have t116_0_28 := congrFun (congrFun w116 0) 28
            rw [zwr_ne (Or.inr (by decide))] at t116_0_28
            refine zW_aload_n (pc' := 120) dX12_readsStage_4.1.1.1.1 rfl rfl ?_
            refine zG_ref (pc' := 123) 14 fg_X12_51 tb0 rfl dX12_readsStage_4.1.1.1.2 rfl ?_
            refine zW_aload_n (pc' := 124) dX12_readsStage_4.1.1.2 rfl rfl ?_
            refine zG_int (pc' := 127) fg_X12_167 tb0 rfl dX12_readsStage_4.1.2.1 rfl ?_
            have e124 := hF.rh 0 30
            refine zW_aload_n (pc' := 128) dX12_readsStage_4.1.2.2 rfl rfl ?_
            refine zG_int (pc' := 131) fg_X12_151 tb0 rfl dX12_readsStage_4.2.1.1 rfl ?_
            have e128 := hF.rh 0 31
            have y30b : h 0 30 = κ 0 30 + 1 := by omega
            refine zSm (pc' := 132) hF rfl (fun v' hv he => ⟨(SI_irr hF.2.1 (Or.inl (key_of rfl _)) (fun _ _ => hv)), (KR_c14 hF.2.2.1 (by have := he ⟨by omega, by omega⟩; omega)), (KC_irr hF.2.2.2 rfl)⟩) tb14 (by omega) dX12_readsStage_4.2.1.2 (by decide) rfl (fun h i131 hF a131 b131 w131 => ?_)
            have t131_0_26 := congrFun (congrFun w131 0) 26
            rw [zwr_ne (Or.inl (by decide))] at t131_0_26
            have t131_0_31 := congrFun (congrFun w131 0) 31
            rw [zwr_ne (Or.inl (by decide))] at t131_0_31
            have t131_0_30 := congrFun (congrFun w131 0) 30
            rw [zwr_ne (Or.inl (by decide))] at t131_0_30
            have t131_0_28 := congrFun (congrFun w131 0) 28
            rw [zwr_ne (Or.inl (by decide))] at t131_0_28
            have f15 : h 15 = hC 15 := by rw [w131, w116, w108, eC, zfun (by decide), zfun (by decide), zfun (by decide)]
            have f13a : h 13 (κ 0 30).toNat = v1 := by rw [w131, w116, w108, zwr_ne (Or.inl (by decide)), zwr_ne (Or.inl (by decide)), y30, zwr_eq]; exact b108 ⟨by omega, by omega⟩
            have f13b : ∀ j, j ≠ (κ 0 30).toNat → h 13 j = κ 13 j := fun j hj => by rw [w131, w116, w108, zwr_ne (Or.inl (by decide)), zwr_ne (Or.inl (by decide)), y30, zwr_ne (Or.inr hj), ← eC, c13]
            have f14a : h 14 (κ 0 30 + 1).toNat = hC 0 31 := by have q := b131 ⟨by omega, by omega⟩; rw [w131, y30b, zwr_eq]; omega
            have f14b : ∀ j, j ≠ (κ 0 30 + 1).toNat → h 14 j = κ 14 j := fun j hj => by rw [w131, y30b, zwr_ne (Or.inr hj), w116, w108, zwr_ne (Or.inl (by decide)), zwr_ne (Or.inl (by decide)), ← eC, c14]
            have y27 := hF.1 0 27 rfl rfl
            have e30 : h 0 30 = κ 0 30 + 1 := by omega
            have hNP : NP h := ⟨⟨by omega, by omega, by omega⟩, ⟨by omega, by omega⟩, ⟨by omega, by omega⟩, by rw [e30, f14a]; omega, by rw [e30, f15]; exact hRc.push (by omega) f13a f13b f14a f14b (fun j hj => hPC j (by omega)) (by omega) (by omega) (by omega) (by rw [hA0]; exact n2) (by rw [hA0]; exact n3)⟩
            have nx := nxfc g p (κ 0 30) f
            refine zW_iconst (pc' := 133) dX12_readsStage_4.2.2.1 rfl ?_
            exact zV_zret rfl (by omega) dX12_readsStage_4.2.2.2 ⟨hF, by have g4 : sgE g p = nbE g (g p) (p + 2) := rfl; refine ⟨by omega, by omega, by omega, by omega, fun _ => hNP, by omega, fun _ j hj => ?_⟩; by_cases ej : j = (κ 0 30).toNat; (rw [ej, f13a]; omega); (rw [f13b j ej]; have z := hfl j (by omega); omega)⟩
          · first | (have r0 : r83 = 0 := (by omega); have sg : sgF g p (κ 0 30) f = sF g (p + 1) 58 := sg_s lz (by omega)) | skip
            refine zW_iconst (pc' := 98) dX12_readsStage_3.1.1.2.1 rfl ?_
            exact zV_zret rfl (by omega) dX12_readsStage_3.1.1.2.2 ⟨hF, by refine ⟨by omega, by omega, by omega, by omega, fun q => absurd q (by omega), by omega, fun q => absurd q (by omega)⟩⟩
      · have gs : sgF g p (κ 0 30) f = -6000 - p := sg_6 (by omega) (by omega) (by omega) (by omega)
        clear e49 e53
        refine zW_aload_n (pc' := 60) dX12_readsStage_1.2.2.2.1 rfl rfl ?_
        refine zW_bipush (pc' := 62) dX12_readsStage_1.2.2.2.2 rfl rfl ?_
        refine zW_aload_n (pc' := 63) dX12_readsStage_2.1.1.1.1 rfl rfl ?_
        refine zG_int (pc' := 66) fg_X12_123 tb0 rfl dX12_readsStage_2.1.1.1.2 rfl ?_
        have e63 := hF.rh 0 26
        have y27 := hF.1 0 27 rfl rfl
        refine cvI2 (pc' := 69) kX12_wrongAt vX12_wrongAt lk_X12_136 ⟨Nat.le_of_ble_eq_true rfl, Nat.le_of_ble_eq_true rfl⟩ tb0 vq12 rfl rfl (s_X12_wrongAtP hF.2.1 hF.2.2.1 hF.2.2.2 _ ⟨by omega, by omega⟩ _ ⟨by omega, by omega⟩) dX12_readsStage_2.1.1.2.1 (Nat.le_of_ble_eq_true rfl) rfl ?_
        rintro r66 h ⟨hF1, p66⟩; replace hF := hF.tr hF1 rfl
        replace hPre : Pre15 κ h := hPre.fm hF1 (fun _ => rfl)
        replace h13 : h 13 = κ 13 := (hF1.cell 13 rfl (fun _ => rfl)).trans h13
        replace h14 : h 14 = κ 14 := (hF1.cell 14 rfl (fun _ => rfl)).trans h14
        have t66_0_26 := hF1.1 0 26 rfl rfl
        have t66_0_31 := hF1.1 0 31 rfl rfl
        have t66_0_30 := hF1.1 0 30 rfl rfl
        exact zV_zret rfl (by omega) dX12_readsStage_2.1.1.2.2 ⟨hF, by refine ⟨by omega, by omega, by omega, by omega, fun q => absurd q (by omega), by omega, fun q => absurd q (by omega)⟩⟩
    · have gs : sgF g p (κ 0 30) f = -4000 - p := sg_4 (by omega) (by omega) (by omega)
      refine zW_aload_n (pc' := 39) dX12_readsStage_1.1.1.2.2 rfl rfl ?_
      refine zW_iconst (pc' := 40) dX12_readsStage_1.1.2.1.1 rfl ?_
      refine zW_aload_n (pc' := 41) dX12_readsStage_1.1.2.1.2 rfl rfl ?_
      refine zG_int (pc' := 44) fg_X12_123 tb0 rfl dX12_readsStage_1.1.2.2.1 rfl ?_
      have e41 := hF.rh 0 26
      have y27 := hF.1 0 27 rfl rfl
      refine cvI2 (pc' := 47) kX12_wrongAt vX12_wrongAt lk_X12_136 ⟨Nat.le_of_ble_eq_true rfl, Nat.le_of_ble_eq_true rfl⟩ tb0 vq12 rfl rfl (s_X12_wrongAtP hF.2.1 hF.2.2.1 hF.2.2.2 _ ⟨by omega, by omega⟩ _ ⟨by omega, by omega⟩) dX12_readsStage_1.1.2.2.2 (Nat.le_of_ble_eq_true rfl) rfl ?_
      rintro r44 h ⟨hF1, p44⟩; replace hF := hF.tr hF1 rfl
      replace hPre : Pre15 κ h := hPre.fm hF1 (fun _ => rfl)
      replace h13 : h 13 = κ 13 := (hF1.cell 13 rfl (fun _ => rfl)).trans h13
      replace h14 : h 14 = κ 14 := (hF1.cell 14 rfl (fun _ => rfl)).trans h14
      have t44_0_26 := hF1.1 0 26 rfl rfl
      have t44_0_31 := hF1.1 0 31 rfl rfl
      have t44_0_30 := hF1.1 0 30 rfl rfl
      exact zV_zret rfl (by omega) dX12_readsStage_1.2.1.1.1 ⟨hF, by refine ⟨by omega, by omega, by omega, by omega, fun q => absurd q (by omega), by omega, fun q => absurd q (by omega)⟩⟩
  refine zM_of [some (.inr (.inr 0)), none] 1 rfl rfl (Nat.le_of_ble_eq_true rfl) rfl ?_
  refine (show ∀ h : Hp, Fm [(0, 26), (0, 28), (0, 29), (0, 31), (15, 999), (0, 30), (13, 999), (14, 999)] κ h → h = κ → zV G mX12_readsStage (q_X12_readsStageP κ g p f) 0 [some (.inr (.inr 0)), none] [] h from fun h hF hk0 => ?_) κ (Fm.rf hS hR hC) rfl
  have y0_0_26 : h 0 26 = κ 0 26 := by rw [hk0]
  have y0_0_27 : h 0 27 = κ 0 27 := by rw [hk0]
  have y0_0_31 : h 0 31 = κ 0 31 := by rw [hk0]
  have y0_0_30 : h 0 30 = κ 0 30 := by rw [hk0]
  have hPre : Pre15 κ h := by rw [hk0]; exact Pre15.rf
  have h13 : h 13 = κ 13 := by rw [hk0]
  have h14 : h 14 = κ 14 := by rw [hk0]
  refine zW_aload_n (pc' := 1) dX12_readsStage_0.1.1.1.1 rfl rfl ?_
  have y27 := hF.1 0 27 rfl rfl
  have y1_0_27 := hF.1 0 27 rfl rfl
  refine cvI0 (pc' := 4) kX12_here vX12_here lk_X12_132 ⟨Nat.le_of_ble_eq_true rfl, Nat.le_of_ble_eq_true rfl⟩ tb0 vq12 rfl rfl (s_X12_hereP (b := true) (κ := h) hF.2.2.1 (Fr.rf hF.2.1) g p (by rw [hF.cell 12 rfl (fun _ => rfl), hF.1 0 27 rfl rfl]; exact hg) (by omega) (by omega)) dX12_readsStage_0.1.1.1.2 (Nat.le_of_ble_eq_true rfl) rfl ?_
  rintro r1 z1 ⟨hz1, p1⟩; subst z1
  have q1 : r1 = g p := p1.2.2.1
  have kb := kd_b (g p)
  have r1b := And.intro p1.1 p1.2.1
  have pn : ¬ p < κ 0 27 → kd (g p) = -1 := fun z => by rw [← q1, p1.2.2.2 (by omega)]; exact kd_n (by decide)
  have kn : g p < 0 → kd (g p) = -1 := kd_n
  clear p1
  refine zW_istore_n (ls' := [_, _]) (pc' := 5) dX12_readsStage_0.1.1.2.1 (by decide) rfl rfl rfl ?_
  refine zW_iload_n (pc' := 6) dX12_readsStage_0.1.1.2.2 rfl rfl ?_
  have y27 := hF.1 0 27 rfl rfl
  refine csI1 (pc' := 9) kX12_isEarly vX12_isEarly lk_X12_170 ⟨Nat.le_of_ble_eq_true rfl, Nat.le_of_ble_eq_true rfl⟩ rfl (s_X12_isEarly (b := true) (κ := h) (Fr.rf hF.2.1) _ ⟨by omega, by omega⟩) dX12_readsStage_0.1.2.1.1 (Nat.le_of_ble_eq_true rfl) rfl ?_
  rintro r6 z6 ⟨hz6, p6⟩; subst z6
  have e6 : r6 = 1 ↔ (0 ≤ kd (g p) ∧ kd (g p) ≤ 4) := by rw [← q1]; exact p6.2.2.trans (kd_e _).symm
  have s6 := And.intro p6.1 p6.2.1
  clear p6
  refine zV_if_ne (tgt := 29) (pc' := 12) dX12_readsStage_0.1.2.1.2 rfl rfl ⟨by omega, by omega⟩ (fun c9 => ?_) (fun c9 => ?_)
  · exact k29 _ _ hF (by omega) hk0 (by omega)
  · refine zW_iload_n (pc' := 13) dX12_readsStage_0.1.2.2.1 rfl rfl ?_
    have y27 := hF.1 0 27 rfl rfl
    refine csI1 (pc' := 16) kX12_isLate vX12_isLate lk_X12_173 ⟨Nat.le_of_ble_eq_true rfl, Nat.le_of_ble_eq_true rfl⟩ rfl (s_X12_isLate (b := true) (κ := h) (Fr.rf hF.2.1) _ ⟨by omega, by omega⟩) dX12_readsStage_0.1.2.2.2 (Nat.le_of_ble_eq_true rfl) rfl ?_
    rintro r13 z13 ⟨hz13, p13⟩; subst z13
    have e13 : r13 = 1 ↔ 5 ≤ kd (g p) := by rw [← q1]; exact p13.2.2.trans (kd_l _).symm
    have s13 := And.intro p13.1 p13.2.1
    clear p13
    refine zV_if_ne (tgt := 29) (pc' := 19) dX12_readsStage_0.2.1.1.1 rfl rfl ⟨by omega, by omega⟩ (fun c16 => ?_) (fun c16 => ?_)
    · exact k29 _ _ hF (by omega) hk0 (by omega)
    · have gs : sgF g p (κ 0 30) f = -1000 - p := sg_1 (by omega) (by omega)
      clear e6 e13
      refine zW_aload_n (pc' := 20) dX12_readsStage_0.2.1.1.2 rfl rfl ?_
      refine zW_iconst (pc' := 21) dX12_readsStage_0.2.1.2.1 rfl ?_
      refine zW_aload_n (pc' := 22) dX12_readsStage_0.2.1.2.2 rfl rfl ?_
      refine zG_int (pc' := 25) fg_X12_123 tb0 rfl dX12_readsStage_0.2.2.1.1 rfl ?_
      have e22 := hF.rh 0 26
      have y27 := hF.1 0 27 rfl rfl
      refine cvI2 (pc' := 28) kX12_wrongAt vX12_wrongAt lk_X12_136 ⟨Nat.le_of_ble_eq_true rfl, Nat.le_of_ble_eq_true rfl⟩ tb0 vq12 rfl rfl (s_X12_wrongAtP hF.2.1 hF.2.2.1 hF.2.2.2 _ ⟨by omega, by omega⟩ _ ⟨by omega, by omega⟩) dX12_readsStage_0.2.2.1.2 (Nat.le_of_ble_eq_true rfl) rfl ?_
      rintro r25 h ⟨hF1, p25⟩; replace hF := hF.tr hF1 rfl
      replace hPre : Pre15 κ h := hPre.fm hF1 (fun _ => rfl)
      replace h13 : h 13 = κ 13 := (hF1.cell 13 rfl (fun _ => rfl)).trans h13
      replace h14 : h 14 = κ 14 := (hF1.cell 14 rfl (fun _ => rfl)).trans h14
      have t25_0_26 := hF1.1 0 26 rfl rfl
      have t25_0_31 := hF1.1 0 31 rfl rfl
      have t25_0_30 := hF1.1 0 30 rfl rfl
      exact zV_zret rfl (by omega) dX12_readsStage_0.2.2.2.1 ⟨hF, by refine ⟨by omega, by omega, by omega, by omega, fun q => absurd q (by omega), by omega, fun q => absurd q (by omega)⟩⟩

abbrev q_X12_stagesP (κ : Hp) (x1 : Int) (g : Int → Int) : Int → Hp → Prop := fun r h' => Fm [(0, 26), (0, 28), (0, 29), (0, 31), (15, 999), (0, 30), (13, 999), (14, 999), (0, 27), (0, 25), (0, 14), (3, 999), (4, 999), (5, 999)] κ h' ∧ ((((¬ (0 ≤ x1 ∧ x1 ≤ 120 ∧ x1 ≤ κ 0 25) ∧ r = -1 ∧ h' 0 25 = κ 0 25 ∧ h' 0 14 = κ 0 14) ∨ ((0 ≤ x1 ∧ x1 ≤ 120 ∧ x1 ≤ κ 0 25) ∧ h' 0 25 = 0 ∧ r = rdF g x1 ∧ ((0 ≤ r ∧ h' 0 14 = r) ∨ (r < 0 ∧ h' 0 14 = κ 0 14)))) ∧ (∀ j : Nat, (0 ≤ r → (j : Int) < r → (h' 3 j = 102 ↔ (j : Int) + 1 = rdA g x1)) ∧ (r < 0 → h' 3 j = κ 3 j)) ∧ (0 ≤ r → 0 ≤ rdA g x1 ∧ rdA g x1 ≤ r)))
set_option maxHeartbeats 4000000 in
set_option maxRecDepth 20000 in
theorem s_X12_stagesP {G : Ga} {κ : Hp} (hS : SI κ) (hR : KR κ) (hC : KC κ) (x1 : Int) (hx1 : rng x1) (g : Int → Int) (hg : x1 ≤ κ 0 25 → hr (fun i => κ 12 i % 256) x1 = g) : zM G mX12_stages yX12_stages [.inr (.inr 0), .inl x1] κ (q_X12_stagesP κ x1 g) := by
  have f_0_14 := KRm hR
  have f_0_25 := KRt hR
  unfold rng at hx1
  have main : ∀ N : Nat, (∀ (v2 : Int) (h : Hp), Fm [(0, 26), (0, 28), (0, 29), (0, 31), (15, 999), (0, 30), (13, 999), (14, 999), (0, 27), (0, 25), (0, 14), (3, 999), (4, 999), (5, 999)] κ h → (0 ≤ x1 ∧ x1 ≤ 120) → (0 ≤ v2 ∧ v2 ≤ 1) → (0 ≤ h 0 26 ∧ h 0 26 ≤ h 0 27 ∧ h 0 27 = x1 ∧ x1 ≤ 120) → (h 0 25 = κ 0 25 ∧ x1 ≤ κ 0 25) → (v2 = 1 → NP h) → (v2 = 1 → RfI g x1 h) → (v2 = 0 → h 0 28 = rdF g x1 ∧ h 0 28 < 0) → (h 0 14 = κ 0 14) → (∀ j : Nat, h 3 j = κ 3 j) → 1235080 + 56 * (2 * (x1 - h 0 26) + v2) + 55 < (N : Int) → zV G mX12_stages (q_X12_stagesP κ x1 g) 64 [some (.inr (.inr 0)), some (.inl x1), some (.inl v2)] [] h) := by
    intro N
    induction N with
    | zero =>
      intro v2 h hF g0 g1 gc0 gc1 gc2 gc3 gc4 gc5 gc6 hm
      exfalso; omega
    | succ N ih =>
      have k64 := ih
      intro v2 h hF g0 g1 gc0 gc1 gc2 gc3 gc4 gc5 gc6 hm
      refine zW_iload_n (pc' := 65) dX12_stages_2.1.2.1.2 rfl rfl ?_
      refine zV_if_eq (tgt := 104) (pc' := 68) dX12_stages_2.1.2.2.1 rfl rfl ⟨by omega, by omega⟩ (fun c65 => ?_) (fun c65 => ?_)
      · have rf4 : v2 = 1 → rdF g x1 = h 0 30 := fun z => by obtain ⟨f, -, -, st⟩ := gc3 z; exact (st.1 (by omega)).1
        refine zW_aload_n (pc' := 105) dX12_stages_3.2.1.1.1 rfl rfl ?_
        refine zW_iconst (pc' := 106) dX12_stages_3.2.1.1.2 rfl ?_
        refine zPm (pc' := 109) hF (Or.inl rfl) (SI_irr hF.2.1 (Or.inl rfl) (fun _ _ => ⟨by omega, by omega⟩)) (KR_25 hF.2.2.1 (by omega)) (KC_irr hF.2.2.2 rfl) fp_X12_116 tb0 rfl dX12_stages_3.2.1.2.1 rfl (fun h hF w106 => ?_)
        have a106_3 := fun j : Nat => (congrFun (congrFun w106 3) j).trans (zwr_ne (Or.inl (by decide)))
        have t106_0_25 := congrFun (congrFun w106 0) 25
        rw [zwr_eq] at t106_0_25
        have t106_0_26 := congrFun (congrFun w106 0) 26
        rw [zwr_ne (Or.inr (by decide))] at t106_0_26
        have t106_0_27 := congrFun (congrFun w106 0) 27
        rw [zwr_ne (Or.inr (by decide))] at t106_0_27
        have t106_0_30 := congrFun (congrFun w106 0) 30
        rw [zwr_ne (Or.inr (by decide))] at t106_0_30
        have t106_0_31 := congrFun (congrFun w106 0) 31
        rw [zwr_ne (Or.inr (by decide))] at t106_0_31
        have t106_0_28 := congrFun (congrFun w106 0) 28
        rw [zwr_ne (Or.inr (by decide))] at t106_0_28
        have t106_0_14 := congrFun (congrFun w106 0) 14
        rw [zwr_ne (Or.inr (by decide))] at t106_0_14
        have hN4 : v2 = 1 → NP h := fun q => by rw [w106]; exact (gc2 q).w25
        have rf5 : v2 = 1 → RfI g x1 h := fun q => by rw [w106]; exact (gc3 q).w25
        refine zW_iload_n (pc' := 110) dX12_stages_3.2.1.2.2 rfl rfl ?_
        refine zV_if_ne (tgt := 118) (pc' := 113) dX12_stages_3.2.2.1.1 rfl rfl ⟨by omega, by omega⟩ (fun c110 => ?_) (fun c110 => ?_)
        · exfalso; omega
        · refine zW_aload_n (pc' := 114) dX12_stages_3.2.2.1.2 rfl rfl ?_
          refine zG_int (pc' := 117) fg_X12_129 tb0 rfl dX12_stages_3.2.2.2.1 rfl ?_
          have e114 := hF.rh 0 28
          exact zV_iret rfl dX12_stages_3.2.2.2.2 ⟨hF, by exact ⟨by omega, fun j => ⟨fun z => absurd z (by omega), fun _ => (a106_3 j).trans (gc6 j)⟩, fun z => absurd z (by omega)⟩⟩
      · refine zW_aload_n (pc' := 69) dX12_stages_2.1.2.2.2 rfl rfl ?_
        refine zG_int (pc' := 72) fg_X12_123 tb0 rfl dX12_stages_2.2.1.1.1 rfl ?_
        have e69 := hF.rh 0 26
        refine zW_aload_n (pc' := 73) dX12_stages_2.2.1.1.2 rfl rfl ?_
        refine zG_int (pc' := 76) fg_X12_126 tb0 rfl dX12_stages_2.2.1.2.1 rfl ?_
        have e73 := hF.rh 0 27
        refine zV_cm_ge (tgt := 104) (pc' := 79) dX12_stages_2.2.1.2.2 rfl rfl ⟨by omega, by omega⟩ ⟨by omega, by omega⟩ (fun c76 => ?_) (fun c76 => ?_)
        · have rf4 : v2 = 1 → rdF g x1 = h 0 30 := fun z => by obtain ⟨f, -, -, st⟩ := gc3 z; exact (st.1 (by omega)).1
          refine zW_aload_n (pc' := 105) dX12_stages_3.2.1.1.1 rfl rfl ?_
          refine zW_iconst (pc' := 106) dX12_stages_3.2.1.1.2 rfl ?_
          refine zPm (pc' := 109) hF (Or.inl rfl) (SI_irr hF.2.1 (Or.inl rfl) (fun _ _ => ⟨by omega, by omega⟩)) (KR_25 hF.2.2.1 (by omega)) (KC_irr hF.2.2.2 rfl) fp_X12_116 tb0 rfl dX12_stages_3.2.1.2.1 rfl (fun h hF w106 => ?_)
          have a106_3 := fun j : Nat => (congrFun (congrFun w106 3) j).trans (zwr_ne (Or.inl (by decide)))
          have t106_0_25 := congrFun (congrFun w106 0) 25
          rw [zwr_eq] at t106_0_25
          have t106_0_26 := congrFun (congrFun w106 0) 26
          rw [zwr_ne (Or.inr (by decide))] at t106_0_26
          have t106_0_27 := congrFun (congrFun w106 0) 27
          rw [zwr_ne (Or.inr (by decide))] at t106_0_27
          have t106_0_30 := congrFun (congrFun w106 0) 30
          rw [zwr_ne (Or.inr (by decide))] at t106_0_30
          have t106_0_31 := congrFun (congrFun w106 0) 31
          rw [zwr_ne (Or.inr (by decide))] at t106_0_31
          have t106_0_28 := congrFun (congrFun w106 0) 28
          rw [zwr_ne (Or.inr (by decide))] at t106_0_28
          have t106_0_14 := congrFun (congrFun w106 0) 14
          rw [zwr_ne (Or.inr (by decide))] at t106_0_14
          have hN4 : v2 = 1 → NP h := fun q => by rw [w106]; exact (gc2 q).w25
          have rf5 : v2 = 1 → RfI g x1 h := fun q => by rw [w106]; exact (gc3 q).w25
          refine zW_iload_n (pc' := 110) dX12_stages_3.2.1.2.2 rfl rfl ?_
          refine zV_if_ne (tgt := 118) (pc' := 113) dX12_stages_3.2.2.1.1 rfl rfl ⟨by omega, by omega⟩ (fun c110 => ?_) (fun c110 => ?_)
          · obtain ⟨f, hf0, hfl, st⟩ := rf5 (by omega)
            have rA := st.1 (by omega)
            have hN4 := hN4 (by omega)
            obtain ⟨hn1, hn2, hn3, hn4, hn5⟩ := hN4
            have hS0 := hF.2.1
            refine zW_aload_n (pc' := 119) dX12_stages_4.1.1.1.1 rfl rfl ?_
            refine zW_aload_n (pc' := 120) dX12_stages_4.1.1.1.2 rfl rfl ?_
            refine zG_int (pc' := 123) fg_X12_167 tb0 rfl dX12_stages_4.1.1.2.1 rfl ?_
            refine zV_puti (pc' := 126) fp_X12_185 tb0 rfl dX12_stages_4.1.1.2.2 rfl ?_
            have hS1 := SI_irr (k := 0) (i := 14) (v := h 0 30) hS0 (Or.inl rfl) (fun _ _ => ⟨by omega, by omega⟩)
            generalize e1 : zwr h 0 14 (h 0 30) = h1 at hS1 ⊢
            refine zW_aload_n (pc' := 127) dX12_stages_4.1.2.1.1 rfl rfl ?_
            refine zG_ref (pc' := 130) 13 fg_X12_48 tb0 rfl dX12_stages_4.1.2.1.2 rfl ?_
            refine zW_aload_n (pc' := 131) dX12_stages_4.1.2.2.1 rfl rfl ?_
            refine zG_ref (pc' := 134) 3 fg_X12_16 tb0 rfl dX12_stages_4.1.2.2.2 rfl ?_
            refine csV2 (pc' := 137) kX12_copies vX12_copies lk_X12_188 ⟨Nat.le_of_ble_eq_true rfl, Nat.le_of_ble_eq_true rfl⟩ rfl (s_X12_copies tb13 tb3 (by decide) (by decide)) dX12_stages_4.2.1.1.1 (Nat.le_of_ble_eq_true rfl) rfl ?_
            rintro _ h2 e2; replace e2 := e2.symm
            have hS2 : SI h2 := by rw [← e2]; exact SI_cpy hS1 rfl (by decide)
            refine zW_aload_n (pc' := 138) dX12_stages_4.2.1.1.2 rfl rfl ?_
            refine zG_ref (pc' := 141) 14 fg_X12_51 tb0 rfl dX12_stages_4.2.1.2.1 rfl ?_
            refine zW_aload_n (pc' := 142) dX12_stages_4.2.1.2.2 rfl rfl ?_
            refine zG_ref (pc' := 145) 4 fg_X12_19 tb0 rfl dX12_stages_4.2.2.1.1 rfl ?_
            refine csV2 (pc' := 148) kX12_copies vX12_copies lk_X12_188 ⟨Nat.le_of_ble_eq_true rfl, Nat.le_of_ble_eq_true rfl⟩ rfl (s_X12_copies tb14 tb4 (by decide) (by decide)) dX12_stages_4.2.2.1.2 (Nat.le_of_ble_eq_true rfl) rfl ?_
            rintro _ h3 e3; replace e3 := e3.symm
            have hS3 : SI h3 := by rw [← e3]; exact SI_cpy hS2 rfl (by decide)
            refine zW_aload_n (pc' := 149) dX12_stages_4.2.2.2.1 rfl rfl ?_
            refine zG_ref (pc' := 152) 15 fg_X12_54 tb0 rfl dX12_stages_4.2.2.2.2 rfl ?_
            refine zW_aload_n (pc' := 153) dX12_stages_5.1.1.1.1 rfl rfl ?_
            refine zG_ref (pc' := 156) 5 fg_X12_22 tb0 rfl dX12_stages_5.1.1.1.2 rfl ?_
            refine csV2 (pc' := 159) kX12_copies vX12_copies lk_X12_188 ⟨Nat.le_of_ble_eq_true rfl, Nat.le_of_ble_eq_true rfl⟩ rfl (s_X12_copies tb15 tb5 (by decide) (by decide)) dX12_stages_5.1.1.2 (Nat.le_of_ble_eq_true rfl) rfl ?_
            rintro _ h4 e4; replace e4 := e4.symm
            have hS4 : SI h4 := by rw [← e4]; exact SI_cpy hS3 rfl (by decide)
            refine zW_aload_n (pc' := 160) dX12_stages_5.1.2.1 rfl rfl ?_
            refine zW_iconst (pc' := 161) dX12_stages_5.1.2.2 rfl ?_
            refine zV_putz (pc' := 164) fp_X12_192 (by omega) tb0 rfl dX12_stages_5.2.1.1 rfl ?_
            have hS5 := SI_irr (k := 0) (i := 23) (v := 0) hS4 (Or.inr (Or.inl rfl)) (fun _ _ => ⟨by omega, by omega⟩)
            generalize e5 : zwr h4 0 23 0 = h5 at hS5 ⊢
            refine zW_aload_n (pc' := 165) dX12_stages_5.2.1.2 rfl rfl ?_
            refine zG_int (pc' := 168) fg_X12_185 tb0 rfl dX12_stages_5.2.2.1 rfl ?_
            have fr : ∀ k i, key k i = true → inW [(0, 26), (0, 28), (0, 29), (0, 31), (15, 999), (0, 30), (13, 999), (14, 999), (0, 27), (0, 25), (0, 14), (3, 999), (4, 999), (5, 999)] k i = false → h5 k i = h k i := fun k i hk hl => by rw [← e5, zwr_ne (show k ≠ 0 ∨ i ≠ 23 from by by_cases q : k = 0; exact Or.inr (fun z => by subst q; subst z; cases hk); exact Or.inl q), ← e4, cpy_ne (inW_nc (L := [(0, 26), (0, 28), (0, 29), (0, 31), (15, 999), (0, 30), (13, 999), (14, 999), (0, 27), (0, 25), (0, 14), (3, 999), (4, 999), (5, 999)]) (c := 5) rfl hl), ← e3, cpy_ne (inW_nc (L := [(0, 26), (0, 28), (0, 29), (0, 31), (15, 999), (0, 30), (13, 999), (14, 999), (0, 27), (0, 25), (0, 14), (3, 999), (4, 999), (5, 999)]) (c := 4) rfl hl), ← e2, cpy_ne (inW_nc (L := [(0, 26), (0, 28), (0, 29), (0, 31), (15, 999), (0, 30), (13, 999), (14, 999), (0, 27), (0, 25), (0, 14), (3, 999), (4, 999), (5, 999)]) (c := 3) rfl hl), ← e1, zwr_ne (inW_ne (L := [(0, 26), (0, 28), (0, 29), (0, 31), (15, 999), (0, 30), (13, 999), (14, 999), (0, 27), (0, 25), (0, 14), (3, 999), (4, 999), (5, 999)]) (k := 0) (i := 14) rfl hl)]
            have hCf : KC h5 := KC_low hF.2.2.2 (fun k i hk => by rw [← e5, zwr_ne (Or.inl (by omega)), ← e4, cpy_ne (by omega), ← e3, cpy_ne (by omega), ← e2, cpy_ne (by omega), ← e1, zwr_ne (Or.inl (by omega))])
            have g11f : h5 0 11 = h 0 11 := by rw [← e5, zwr_ne (Or.inr (by decide)), ← e4, cpy_ne (by decide), ← e3, cpy_ne (by decide), ← e2, cpy_ne (by decide), ← e1, zwr_ne (Or.inr (by decide))]
            have g12f : h5 0 12 = h 0 12 := by rw [← e5, zwr_ne (Or.inr (by decide)), ← e4, cpy_ne (by decide), ← e3, cpy_ne (by decide), ← e2, cpy_ne (by decide), ← e1, zwr_ne (Or.inr (by decide))]
            have g13f : h5 0 13 = h 0 13 := by rw [← e5, zwr_ne (Or.inr (by decide)), ← e4, cpy_ne (by decide), ← e3, cpy_ne (by decide), ← e2, cpy_ne (by decide), ← e1, zwr_ne (Or.inr (by decide))]
            have g14f : h5 0 14 = h 0 30 := by rw [← e5, zwr_ne (Or.inr (by decide)), ← e4, cpy_ne (by decide), ← e3, cpy_ne (by decide), ← e2, cpy_ne (by decide), ← e1, zwr_eq]
            have g15f : h5 0 15 = h 0 15 := by rw [← e5, zwr_ne (Or.inr (by decide)), ← e4, cpy_ne (by decide), ← e3, cpy_ne (by decide), ← e2, cpy_ne (by decide), ← e1, zwr_ne (Or.inr (by decide))]
            have g16f : h5 0 16 = h 0 16 := by rw [← e5, zwr_ne (Or.inr (by decide)), ← e4, cpy_ne (by decide), ← e3, cpy_ne (by decide), ← e2, cpy_ne (by decide), ← e1, zwr_ne (Or.inr (by decide))]
            have g17f : h5 0 17 = h 0 17 := by rw [← e5, zwr_ne (Or.inr (by decide)), ← e4, cpy_ne (by decide), ← e3, cpy_ne (by decide), ← e2, cpy_ne (by decide), ← e1, zwr_ne (Or.inr (by decide))]
            have g18f : h5 0 18 = h 0 18 := by rw [← e5, zwr_ne (Or.inr (by decide)), ← e4, cpy_ne (by decide), ← e3, cpy_ne (by decide), ← e2, cpy_ne (by decide), ← e1, zwr_ne (Or.inr (by decide))]
            have g19f : h5 0 19 = h 0 19 := by rw [← e5, zwr_ne (Or.inr (by decide)), ← e4, cpy_ne (by decide), ← e3, cpy_ne (by decide), ← e2, cpy_ne (by decide), ← e1, zwr_ne (Or.inr (by decide))]
            have g20f : h5 0 20 = h 0 20 := by rw [← e5, zwr_ne (Or.inr (by decide)), ← e4, cpy_ne (by decide), ← e3, cpy_ne (by decide), ← e2, cpy_ne (by decide), ← e1, zwr_ne (Or.inr (by decide))]
            have g21f : h5 0 21 = h 0 21 := by rw [← e5, zwr_ne (Or.inr (by decide)), ← e4, cpy_ne (by decide), ← e3, cpy_ne (by decide), ← e2, cpy_ne (by decide), ← e1, zwr_ne (Or.inr (by decide))]
            have g22f : h5 0 22 = h 0 22 := by rw [← e5, zwr_ne (Or.inr (by decide)), ← e4, cpy_ne (by decide), ← e3, cpy_ne (by decide), ← e2, cpy_ne (by decide), ← e1, zwr_ne (Or.inr (by decide))]
            have g25f : h5 0 25 = h 0 25 := by rw [← e5, zwr_ne (Or.inr (by decide)), ← e4, cpy_ne (by decide), ← e3, cpy_ne (by decide), ← e2, cpy_ne (by decide), ← e1, zwr_ne (Or.inr (by decide))]
            have cc3 : ∀ j, j < 12 → h5 3 j = h 13 j := fun j hj => by rw [← e5, zwr_ne (Or.inl (by decide)), ← e4, cpy_ne (by decide), ← e3, cpy_ne (by decide), ← e2, cpy_in hj, ← e1, zwr_ne (Or.inl (by decide))]
            have oo3 : ∀ j, 12 ≤ j → h5 3 j = h 3 j := fun j hj => by rw [← e5, zwr_ne (Or.inl (by decide)), ← e4, cpy_ne (by decide), ← e3, cpy_ne (by decide), ← e2, cpy_out hj, ← e1, zwr_ne (Or.inl (by decide))]
            have cc4 : ∀ j, j < 13 → h5 4 j = h 14 j := fun j hj => by rw [← e5, zwr_ne (Or.inl (by decide)), ← e4, cpy_ne (by decide), ← e3, cpy_in hj, ← e2, cpy_ne (by decide), ← e1, zwr_ne (Or.inl (by decide))]
            have oo4 : ∀ j, 13 ≤ j → h5 4 j = h 4 j := fun j hj => by rw [← e5, zwr_ne (Or.inl (by decide)), ← e4, cpy_ne (by decide), ← e3, cpy_out hj, ← e2, cpy_ne (by decide), ← e1, zwr_ne (Or.inl (by decide))]
            have cc5 : ∀ j, j < 130 → h5 5 j = h 15 j := fun j hj => by rw [← e5, zwr_ne (Or.inl (by decide)), ← e4, cpy_in hj, ← e3, cpy_ne (by decide), ← e2, cpy_ne (by decide), ← e1, zwr_ne (Or.inl (by decide))]
            have oo5 : ∀ j, 130 ≤ j → h5 5 j = h 5 j := fun j hj => by rw [← e5, zwr_ne (Or.inl (by decide)), ← e4, cpy_out hj, ← e3, cpy_ne (by decide), ← e2, cpy_ne (by decide), ← e1, zwr_ne (Or.inl (by decide))]
            have cc7 : h5 7 = h 7 := funext fun j => by rw [← e5, zwr_ne (Or.inl (by decide)), ← e4, cpy_ne (by decide), ← e3, cpy_ne (by decide), ← e2, cpy_ne (by decide), ← e1, zwr_ne (Or.inl (by decide))]
            have cc8 : h5 8 = h 8 := funext fun j => by rw [← e5, zwr_ne (Or.inl (by decide)), ← e4, cpy_ne (by decide), ← e3, cpy_ne (by decide), ← e2, cpy_ne (by decide), ← e1, zwr_ne (Or.inl (by decide))]
            have cc9 : h5 9 = h 9 := funext fun j => by rw [← e5, zwr_ne (Or.inl (by decide)), ← e4, cpy_ne (by decide), ← e3, cpy_ne (by decide), ← e2, cpy_ne (by decide), ← e1, zwr_ne (Or.inl (by decide))]
            have cc10 : h5 10 = h 10 := funext fun j => by rw [← e5, zwr_ne (Or.inl (by decide)), ← e4, cpy_ne (by decide), ← e3, cpy_ne (by decide), ← e2, cpy_ne (by decide), ← e1, zwr_ne (Or.inl (by decide))]
            have cc11 : h5 11 = h 11 := funext fun j => by rw [← e5, zwr_ne (Or.inl (by decide)), ← e4, cpy_ne (by decide), ← e3, cpy_ne (by decide), ← e2, cpy_ne (by decide), ← e1, zwr_ne (Or.inl (by decide))]
            have cc14 : h5 14 = h 14 := funext fun j => by rw [← e5, zwr_ne (Or.inl (by decide)), ← e4, cpy_ne (by decide), ← e3, cpy_ne (by decide), ← e2, cpy_ne (by decide), ← e1, zwr_ne (Or.inl (by decide))]
            have cc15 : h5 15 = h 15 := funext fun j => by rw [← e5, zwr_ne (Or.inl (by decide)), ← e4, cpy_ne (by decide), ← e3, cpy_ne (by decide), ← e2, cpy_ne (by decide), ← e1, zwr_ne (Or.inl (by decide))]
            obtain ⟨a0, a1, a2, a3, a4, a5, a6, a7, a8, a9, a10, a11, a12, a13, a14, a15, a16, a17⟩ := hF.2.2.1
            have hRf : KR h5 := by unfold KR; rw [g11f, g12f, g13f, g14f, g15f, g16f, g17f, g18f, g19f, g20f, g21f, g22f, g25f, cc7, cc8, cc9, cc10, cc11, cc14, cc15]; exact ⟨a0, a1, a2, hn3, a4, a5, bd2 cc4 oo4 a14 a6, hn5.cong3 hn3.2 cc3 cc4 cc5, a8, a9, a10, bd2 cc5 oo5 a15 a11, a12, a13, a14, a15, a16, a17⟩
            exact zV_iret rfl dX12_stages_5.2.2.2 ⟨⟨fun k i hk hl => (fr k i hk hl).trans (hF.1 k i hk hl), hS5, hRf, hCf⟩, ⟨by omega, fun j => ⟨fun z hj => by rw [cc3 j (by omega), rA.2]; exact hfl j (by omega), fun z => absurd z (by omega)⟩, fun z => by rw [rA.2]; omega⟩⟩
          · exfalso; omega
        · have hNl := gc2 (by omega)
          obtain ⟨f, hf0, hfl, st⟩ := gc3 (by omega)
          obtain ⟨q, eq⟩ : ∃ q : Int, q = h 0 26 := ⟨_, rfl⟩
          obtain ⟨m, em⟩ : ∃ m : Int, m = h 0 30 := ⟨_, rfl⟩
          rw [← eq, ← em] at st
          rw [← em] at hf0
          clear gc4
          refine zW_aload_n (pc' := 80) dX12_stages_2.2.2.1.1 rfl rfl ?_
          refine zW_bipush (pc' := 82) dX12_stages_2.2.2.1.2 rfl rfl ?_
          refine cvI1 (pc' := 85) kX12_takesSign vX12_takesSign lk_X12_154 ⟨Nat.le_of_ble_eq_true rfl, Nat.le_of_ble_eq_true rfl⟩ tb0 vq12 rfl rfl (s_X12_takesSignP hF.2.1 hF.2.2.1 hF.2.2.2 _ ⟨by omega, by omega⟩ g q (by rw [hF.cell 12 rfl (fun _ => rfl), show h 0 27 = x1 by omega]; exact hg (by omega)) (by omega) hNl.1) dX12_stages_2.2.2.2.1 (Nat.le_of_ble_eq_true rfl) rfl ?_
          rintro r82 h ⟨hF1, p82⟩; replace hF := hF.tr hF1 rfl
          have f82_3 := fun j : Nat => hF1.1 3 j rfl rfl
          have t82_0_25 := hF1.1 0 25 rfl rfl
          have t82_0_27 := hF1.1 0 27 rfl rfl
          have t82_0_30 := hF1.1 0 30 rfl rfl
          have t82_0_31 := hF1.1 0 31 rfl rfl
          have t82_0_14 := hF1.1 0 14 rfl rfl
          refine zV_if_eq (tgt := 99) (pc' := 88) dX12_stages_2.2.2.2.2 rfl rfl ⟨by omega, by omega⟩ (fun c85 => ?_) (fun c85 => ?_)
          · refine zW_iconst (pc' := 100) dX12_stages_3.1.2.1.2 rfl ?_
            refine zW_istore_n (ls' := [_, _, _]) (pc' := 101) dX12_stages_3.1.2.2.1 (by decide) rfl rfl rfl ?_
            refine zV_goto 64 dX12_stages_3.1.2.2.2 rfl ?_
            exact k64 _ _ hF (by omega) (by omega) (by omega) (by omega) (by first | exact (fun q => absurd q (by decide)) | exact (fun _ => hNP) | exact (fun _ => np1 (by omega)) | exact (fun _ => np2 (by omega))) (by first | exact (fun z => absurd z (by decide)) | exact fun _ => rf1 (by omega) | exact fun _ => rf2 (by omega) | (intro z; refine ⟨0, by omega, fun j hj => by omega, ?_⟩; rw [show h 0 26 = 0 by omega, show h 0 30 = 0 by omega, show x1 = 0 by omega]; exact StI.nil)) (by first | exact (fun z => absurd z (by decide)) | exact fun _ => bd1 (by omega) | exact fun _ => bd2 (by omega) | (intro z; have s0 := st.2.1 (by omega) (by omega); omega)) (by omega) (fun j => by have q0 := gc6 j; have q1 := f82_3 j; omega) (by omega)
          · have hN2 : NP h := hNl.mv hF1 (by omega) (by omega)
            have c13 := hF1.cell 13 rfl (fun _ => rfl)
            have m31 : h 0 30 = m := by have := hF1.1 0 30 rfl rfl; omega
            have al1 := st.2.2 (by omega) (by omega)
            have t26 : h 0 26 = q + 1 := by omega
            clear p82
            refine zW_aload_n (pc' := 89) dX12_stages_3.1.1.1.1 rfl rfl ?_
            refine cvI0 (pc' := 92) kX12_readsStage vX12_readsStage lk_X12_182 ⟨Nat.le_of_ble_eq_true rfl, Nat.le_of_ble_eq_true rfl⟩ tb0 vq12 rfl rfl (s_X12_readsStageP hF.2.1 hF.2.2.1 hF.2.2.2 g (q + 1) f hN2.1 hN2.2.1 hN2.2.2.1 hN2.2.2.2.1 hN2.2.2.2.2 (by rw [hF.cell 12 rfl (fun _ => rfl), show h 0 27 = x1 by omega]; exact hg (by omega)) (by omega) (by omega) (fun j hj => by rw [c13]; exact hfl j (by omega))) dX12_stages_3.1.1.1.2 (Nat.le_of_ble_eq_true rfl) rfl ?_
            rintro r89 h ⟨hF1, p89⟩; replace hF := hF.tr hF1 rfl
            have f89_3 := fun j : Nat => hF1.1 3 j rfl rfl
            have t89_0_25 := hF1.1 0 25 rfl rfl
            have t89_0_27 := hF1.1 0 27 rfl rfl
            have t89_0_14 := hF1.1 0 14 rfl rfl
            rw [m31] at p89
            have d89 := p89.2.2.2.2.2.1
            have np2 := p89.2.2.2.2.1
            have fl2 := p89.2.2.2.2.2.2
            have b89 := And.intro p89.1 (And.intro p89.2.1 (And.intro p89.2.2.1 p89.2.2.2.1))
            clear p89
            have rf2 : r89 = 1 → RfI g x1 h := fun z => by have d := d89.resolve_right (fun y => by omega); exact ⟨nxf g (q + 1) m f, by have := nxfc g (q + 1) m f; omega, fl2 z, by rw [d.2.2.1, d.2.2.2.1]; exact al1.st (by omega) d.2.1 (by omega)⟩
            have bd2 : r89 = 0 → h 0 28 = rdF g x1 ∧ h 0 28 < 0 := fun z => by have d := d89.resolve_left (fun y => by omega); have e := (al1.go (by omega)).1 d.2.1; exact ⟨d.2.2.1.trans e.symm, d.2.2.2⟩
            have rb2 : r89 = 1 → h 0 30 = m + 1 ∧ (q + 1) + 2 ≤ h 0 26 := fun z => by have d := d89.resolve_right (fun y => by omega); exact ⟨d.2.2.2.1, d.2.2.2.2⟩
            clear d89 fl2
            refine zV_if_eq (tgt := 99) (pc' := 95) dX12_stages_3.1.1.2.1 rfl rfl ⟨by omega, by omega⟩ (fun c92 => ?_) (fun c92 => ?_)
            · refine zW_iconst (pc' := 100) dX12_stages_3.1.2.1.2 rfl ?_
              refine zW_istore_n (ls' := [_, _, _]) (pc' := 101) dX12_stages_3.1.2.2.1 (by decide) rfl rfl rfl ?_
              refine zV_goto 64 dX12_stages_3.1.2.2.2 rfl ?_
              exact k64 _ _ hF (by omega) (by omega) (by omega) (by omega) (by first | exact (fun q => absurd q (by decide)) | exact (fun _ => hNP) | exact (fun _ => np1 (by omega)) | exact (fun _ => np2 (by omega))) (by first | exact (fun z => absurd z (by decide)) | exact fun _ => rf1 (by omega) | exact fun _ => rf2 (by omega) | (intro z; refine ⟨0, by omega, fun j hj => by omega, ?_⟩; rw [show h 0 26 = 0 by omega, show h 0 30 = 0 by omega, show x1 = 0 by omega]; exact StI.nil)) (by first | exact (fun z => absurd z (by decide)) | exact fun _ => bd1 (by omega) | exact fun _ => bd2 (by omega) | (intro z; have s0 := st.2.1 (by omega) (by omega); omega)) (by omega) (fun j => by have q0 := gc6 j; have q1 := f82_3 j; have q2 := f89_3 j; omega) (by omega)
            · refine zW_iconst (pc' := 96) dX12_stages_3.1.1.2.2 rfl ?_
              refine zV_goto 100 dX12_stages_3.1.2.1.1 rfl ?_
              refine zW_istore_n (ls' := [_, _, _]) (pc' := 101) dX12_stages_3.1.2.2.1 (by decide) rfl rfl rfl ?_
              refine zV_goto 64 dX12_stages_3.1.2.2.2 rfl ?_
              exact k64 _ _ hF (by omega) (by omega) (by omega) (by omega) (by first | exact (fun q => absurd q (by decide)) | exact (fun _ => hNP) | exact (fun _ => np1 (by omega)) | exact (fun _ => np2 (by omega))) (by first | exact (fun z => absurd z (by decide)) | exact fun _ => rf1 (by omega) | exact fun _ => rf2 (by omega) | (intro z; refine ⟨0, by omega, fun j hj => by omega, ?_⟩; rw [show h 0 26 = 0 by omega, show h 0 30 = 0 by omega, show x1 = 0 by omega]; exact StI.nil)) (by first | exact (fun z => absurd z (by decide)) | exact fun _ => bd1 (by omega) | exact fun _ => bd2 (by omega) | (intro z; have s0 := st.2.1 (by omega) (by omega); omega)) (by omega) (fun j => by have q0 := gc6 j; have q1 := f82_3 j; have q2 := f89_3 j; omega) (by omega)
  refine zM_of [some (.inr (.inr 0)), some (.inl x1), none] 1 rfl rfl (Nat.le_of_ble_eq_true rfl) rfl ?_
  refine (show ∀ h : Hp, Fm [(0, 26), (0, 28), (0, 29), (0, 31), (15, 999), (0, 30), (13, 999), (14, 999), (0, 27), (0, 25), (0, 14), (3, 999), (4, 999), (5, 999)] κ h → h = κ → zV G mX12_stages (q_X12_stagesP κ x1 g) 0 [some (.inr (.inr 0)), some (.inl x1), none] [] h from fun h hF hk0 => ?_) κ (Fm.rf hS hR hC) rfl
  have y0_0_25 : h 0 25 = κ 0 25 := by rw [hk0]
  have y0_0_14 : h 0 14 = κ 0 14 := by rw [hk0]
  have a0_3 := fun j : Nat => congrFun (congrFun hk0 3) j
  refine zW_iload_n (pc' := 1) dX12_stages_0.1.1.1.1 rfl rfl ?_
  refine zW_iconst (pc' := 2) dX12_stages_0.1.1.1.2 rfl ?_
  refine zW_bipush (pc' := 4) dX12_stages_0.1.1.2.1 rfl rfl ?_
  refine csI3 (pc' := 7) kX12_in vX12_in lk_X12_140 ⟨Nat.le_of_ble_eq_true rfl, Nat.le_of_ble_eq_true rfl⟩ rfl (s_X12_inR (b := true) (κ := h) (Fr.rf hF.2.1) _ ⟨by omega, by omega⟩ _ ⟨by omega, by omega⟩ _ ⟨by omega, by omega⟩) dX12_stages_0.1.1.2.2 (Nat.le_of_ble_eq_true rfl) rfl ?_
  rintro r4 z4 ⟨hz4, p4⟩; subst z4
  refine zV_if_eq (tgt := 18) (pc' := 10) dX12_stages_0.1.2.1.1 rfl rfl ⟨by omega, by omega⟩ (fun c7 => ?_) (fun c7 => ?_)
  · refine zW_iconst (pc' := 19) dX12_stages_0.2.1.1.2 rfl ?_
    exact zV_iret rfl dX12_stages_0.2.1.2.1 ⟨hF, by exact ⟨by omega, fun j => ⟨fun z => absurd z (by omega), fun _ => by rw [hk0]⟩, fun z => absurd z (by omega)⟩⟩
  · refine zW_iload_n (pc' := 11) dX12_stages_0.1.2.1.2 rfl rfl ?_
    refine zW_aload_n (pc' := 12) dX12_stages_0.1.2.2.1 rfl rfl ?_
    refine zG_int (pc' := 15) fg_X12_116 tb0 rfl dX12_stages_0.1.2.2.2 rfl ?_
    have e12 := KRt hF.2.2.1
    refine zV_cm_le (tgt := 20) (pc' := 18) dX12_stages_0.2.1.1.1 rfl rfl ⟨by omega, by omega⟩ ⟨by omega, by omega⟩ (fun c15 => ?_) (fun c15 => ?_)
    · refine zW_aload_n (pc' := 21) dX12_stages_0.2.1.2.2 rfl rfl ?_
      refine zW_iconst (pc' := 22) dX12_stages_0.2.2.1.1 rfl ?_
      refine zPm (pc' := 25) hF (Or.inl rfl) (SI_irr hF.2.1 (Or.inl rfl) (fun _ _ => ⟨by omega, by omega⟩)) (KR_irr hF.2.2.1 rfl) (KC_irr hF.2.2.2 rfl) fp_X12_123 tb0 rfl dX12_stages_0.2.2.1.2 rfl (fun h hF w22 => ?_)
      have a22_3 := fun j : Nat => (congrFun (congrFun w22 3) j).trans (zwr_ne (Or.inl (by decide)))
      have t22_0_25 := congrFun (congrFun w22 0) 25
      rw [zwr_ne (Or.inr (by decide))] at t22_0_25
      have t22_0_26 := congrFun (congrFun w22 0) 26
      rw [zwr_eq] at t22_0_26
      have t22_0_27 := congrFun (congrFun w22 0) 27
      rw [zwr_ne (Or.inr (by decide))] at t22_0_27
      have t22_0_30 := congrFun (congrFun w22 0) 30
      rw [zwr_ne (Or.inr (by decide))] at t22_0_30
      have t22_0_31 := congrFun (congrFun w22 0) 31
      rw [zwr_ne (Or.inr (by decide))] at t22_0_31
      have t22_0_28 := congrFun (congrFun w22 0) 28
      rw [zwr_ne (Or.inr (by decide))] at t22_0_28
      have t22_0_14 := congrFun (congrFun w22 0) 14
      rw [zwr_ne (Or.inr (by decide))] at t22_0_14
      refine zW_aload_n (pc' := 26) dX12_stages_0.2.2.2.1 rfl rfl ?_
      refine zW_iload_n (pc' := 27) dX12_stages_0.2.2.2.2 rfl rfl ?_
      refine zPm (pc' := 30) hF (Or.inl rfl) (SI_irr hF.2.1 (Or.inl rfl) (fun _ _ => ⟨by omega, by omega⟩)) (KR_irr hF.2.2.1 rfl) (KC_irr hF.2.2.2 rfl) fp_X12_126 tb0 rfl dX12_stages_1.1.1.1.1 rfl (fun h hF w27 => ?_)
      have a27_3 := fun j : Nat => (congrFun (congrFun w27 3) j).trans (zwr_ne (Or.inl (by decide)))
      have t27_0_25 := congrFun (congrFun w27 0) 25
      rw [zwr_ne (Or.inr (by decide))] at t27_0_25
      have t27_0_26 := congrFun (congrFun w27 0) 26
      rw [zwr_ne (Or.inr (by decide))] at t27_0_26
      have t27_0_27 := congrFun (congrFun w27 0) 27
      rw [zwr_eq] at t27_0_27
      have t27_0_30 := congrFun (congrFun w27 0) 30
      rw [zwr_ne (Or.inr (by decide))] at t27_0_30
      have t27_0_31 := congrFun (congrFun w27 0) 31
      rw [zwr_ne (Or.inr (by decide))] at t27_0_31
      have t27_0_28 := congrFun (congrFun w27 0) 28
      rw [zwr_ne (Or.inr (by decide))] at t27_0_28
      have t27_0_14 := congrFun (congrFun w27 0) 14
      rw [zwr_ne (Or.inr (by decide))] at t27_0_14
      refine zW_aload_n (pc' := 31) dX12_stages_1.1.1.1.2 rfl rfl ?_
      refine zW_iconst (pc' := 32) dX12_stages_1.1.1.2.1 rfl ?_
      refine zPm (pc' := 35) hF (Or.inl rfl) (SI_irr hF.2.1 (Or.inl rfl) (fun _ _ => ⟨by omega, by omega⟩)) (KR_irr hF.2.2.1 rfl) (KC_irr hF.2.2.2 rfl) fp_X12_167 tb0 rfl dX12_stages_1.1.1.2.2 rfl (fun h hF w32 => ?_)
      have a32_3 := fun j : Nat => (congrFun (congrFun w32 3) j).trans (zwr_ne (Or.inl (by decide)))
      have t32_0_25 := congrFun (congrFun w32 0) 25
      rw [zwr_ne (Or.inr (by decide))] at t32_0_25
      have t32_0_26 := congrFun (congrFun w32 0) 26
      rw [zwr_ne (Or.inr (by decide))] at t32_0_26
      have t32_0_27 := congrFun (congrFun w32 0) 27
      rw [zwr_ne (Or.inr (by decide))] at t32_0_27
      have t32_0_30 := congrFun (congrFun w32 0) 30
      rw [zwr_eq] at t32_0_30
      have t32_0_31 := congrFun (congrFun w32 0) 31
      rw [zwr_ne (Or.inr (by decide))] at t32_0_31
      have t32_0_28 := congrFun (congrFun w32 0) 28
      rw [zwr_ne (Or.inr (by decide))] at t32_0_28
      have t32_0_14 := congrFun (congrFun w32 0) 14
      rw [zwr_ne (Or.inr (by decide))] at t32_0_14
      refine zW_aload_n (pc' := 36) dX12_stages_1.1.2.1.1 rfl rfl ?_
      refine zW_iconst (pc' := 37) dX12_stages_1.1.2.1.2 rfl ?_
      refine zPm (pc' := 40) hF (Or.inl rfl) (SI_irr hF.2.1 (Or.inl rfl) (fun _ _ => ⟨by omega, by omega⟩)) (KR_irr hF.2.2.1 rfl) (KC_irr hF.2.2.2 rfl) fp_X12_151 tb0 rfl dX12_stages_1.1.2.2.1 rfl (fun h hF w37 => ?_)
      have a37_3 := fun j : Nat => (congrFun (congrFun w37 3) j).trans (zwr_ne (Or.inl (by decide)))
      have t37_0_25 := congrFun (congrFun w37 0) 25
      rw [zwr_ne (Or.inr (by decide))] at t37_0_25
      have t37_0_26 := congrFun (congrFun w37 0) 26
      rw [zwr_ne (Or.inr (by decide))] at t37_0_26
      have t37_0_27 := congrFun (congrFun w37 0) 27
      rw [zwr_ne (Or.inr (by decide))] at t37_0_27
      have t37_0_30 := congrFun (congrFun w37 0) 30
      rw [zwr_ne (Or.inr (by decide))] at t37_0_30
      have t37_0_31 := congrFun (congrFun w37 0) 31
      rw [zwr_eq] at t37_0_31
      have t37_0_28 := congrFun (congrFun w37 0) 28
      rw [zwr_ne (Or.inr (by decide))] at t37_0_28
      have t37_0_14 := congrFun (congrFun w37 0) 14
      rw [zwr_ne (Or.inr (by decide))] at t37_0_14
      refine zW_aload_n (pc' := 41) dX12_stages_1.1.2.2.2 rfl rfl ?_
      refine zG_ref (pc' := 44) 14 fg_X12_51 tb0 rfl dX12_stages_1.2.1.1.1 rfl ?_
      refine zW_iconst (pc' := 45) dX12_stages_1.2.1.1.2 rfl ?_
      refine zW_iconst (pc' := 46) dX12_stages_1.2.1.2.1 rfl ?_
      refine zSm (pc' := 47) hF rfl (fun v' hv he => ⟨(SI_irr hF.2.1 (Or.inl (key_of rfl _)) (fun _ _ => hv)), (KR_c14 hF.2.2.1 (by have := he ⟨by omega, by omega⟩; omega)), (KC_irr hF.2.2.2 rfl)⟩) tb14 (by omega) dX12_stages_1.2.1.2.2 (by decide) rfl (fun h i46 hF a46 b46 w46 => ?_)
      have a46_3 := fun j : Nat => (congrFun (congrFun w46 3) j).trans (zwr_ne (Or.inl (by decide)))
      have t46_0_25 := congrFun (congrFun w46 0) 25
      rw [zwr_ne (Or.inl (by decide))] at t46_0_25
      have t46_0_26 := congrFun (congrFun w46 0) 26
      rw [zwr_ne (Or.inl (by decide))] at t46_0_26
      have t46_0_27 := congrFun (congrFun w46 0) 27
      rw [zwr_ne (Or.inl (by decide))] at t46_0_27
      have t46_0_30 := congrFun (congrFun w46 0) 30
      rw [zwr_ne (Or.inl (by decide))] at t46_0_30
      have t46_0_31 := congrFun (congrFun w46 0) 31
      rw [zwr_ne (Or.inl (by decide))] at t46_0_31
      have t46_0_28 := congrFun (congrFun w46 0) 28
      rw [zwr_ne (Or.inl (by decide))] at t46_0_28
      have t46_0_14 := congrFun (congrFun w46 0) 14
      rw [zwr_ne (Or.inl (by decide))] at t46_0_14
      have q46 : h 14 (0 : Int).toNat = i46 := (congrFun (congrFun w46 14) _).trans zwr_eq
      have hNP : NP h := ⟨⟨by omega, by omega, by omega⟩, ⟨by omega, by omega⟩, ⟨by omega, by omega⟩, by have q := b46 ⟨by omega, by omega⟩; rw [show h 0 30 = 0 by omega, q46]; omega, fun k k1 k2 => by omega⟩
      refine zW_iload_n (pc' := 48) dX12_stages_1.2.2.1.1 rfl rfl ?_
      refine zV_if_eq (tgt := 58) (pc' := 51) dX12_stages_1.2.2.1.2 rfl rfl ⟨by omega, by omega⟩ (fun c48 => ?_) (fun c48 => ?_)
      · refine zW_iconst (pc' := 59) dX12_stages_2.1.1.1.2 rfl ?_
        refine zV_goto 63 dX12_stages_2.1.1.2.1 rfl ?_
        refine zW_istore_n (ls' := [_, _, _]) (pc' := 64) dX12_stages_2.1.2.1.1 (by decide) rfl rfl rfl ?_
        exact (main 10000000000000000000000000000000000000000) _ _ hF (by omega) (by omega) (by omega) (by omega) (by first | exact (fun q => absurd q (by decide)) | exact (fun _ => hNP) | exact (fun _ => np1 (by omega)) | exact (fun _ => np2 (by omega))) (by first | exact (fun z => absurd z (by decide)) | exact fun _ => rf1 (by omega) | exact fun _ => rf2 (by omega) | (intro z; refine ⟨0, by omega, fun j hj => by omega, ?_⟩; rw [show h 0 26 = 0 by omega, show h 0 30 = 0 by omega, show x1 = 0 by omega]; exact StI.nil)) (by first | exact (fun z => absurd z (by decide)) | exact fun _ => bd1 (by omega) | exact fun _ => bd2 (by omega) | (intro z; have s0 := st.2.1 (by omega) (by omega); omega)) (by omega) (fun j => by have q0 := a0_3 j; have q1 := a22_3 j; have q2 := a27_3 j; have q3 := a32_3 j; have q4 := a37_3 j; have q5 := a46_3 j; omega) (by omega)
      · have m30 : h 0 30 = 0 := by omega
        refine zW_aload_n (pc' := 52) dX12_stages_1.2.2.2.1 rfl rfl ?_
        refine cvI0 (pc' := 55) kX12_readsStage vX12_readsStage lk_X12_182 ⟨Nat.le_of_ble_eq_true rfl, Nat.le_of_ble_eq_true rfl⟩ tb0 vq12 rfl rfl (s_X12_readsStageP hF.2.1 hF.2.2.1 hF.2.2.2 g 0 0 hNP.1 hNP.2.1 hNP.2.2.1 hNP.2.2.2.1 hNP.2.2.2.2 (by rw [hF.cell 12 rfl (fun _ => rfl), show h 0 27 = x1 by omega]; exact hg (by omega)) (by omega) (by omega) (fun j hj => by omega)) dX12_stages_1.2.2.2.2 (Nat.le_of_ble_eq_true rfl) rfl ?_
        rintro r52 h ⟨hF1, p52⟩; replace hF := hF.tr hF1 rfl
        have f52_3 := fun j : Nat => hF1.1 3 j rfl rfl
        have t52_0_25 := hF1.1 0 25 rfl rfl
        have t52_0_27 := hF1.1 0 27 rfl rfl
        have t52_0_14 := hF1.1 0 14 rfl rfl
        rw [m30] at p52
        have al0 : AlI g x1 0 0 0 := AlI.rf (by omega)
        have d52 := p52.2.2.2.2.2.1
        have np1 := p52.2.2.2.2.1
        have fl1 := p52.2.2.2.2.2.2
        have b52 := And.intro p52.1 (And.intro p52.2.1 (And.intro p52.2.2.1 p52.2.2.2.1))
        clear p52
        have rf1 : r52 = 1 → RfI g x1 h := fun z => by have d := d52.resolve_right (fun y => by omega); exact ⟨nxf g 0 0 0, by have := nxfc g 0 0 0; omega, fl1 z, by rw [d.2.2.1, d.2.2.2.1]; exact al0.st (by omega) d.2.1 (by omega)⟩
        have bd1 : r52 = 0 → h 0 28 = rdF g x1 ∧ h 0 28 < 0 := fun z => by have d := d52.resolve_left (fun y => by omega); have e := (al0.go (by omega)).1 d.2.1; exact ⟨d.2.2.1.trans e.symm, d.2.2.2⟩
        have rb1 : r52 = 1 → h 0 30 = 0 + 1 ∧ 0 + 2 ≤ h 0 26 := fun z => by have d := d52.resolve_right (fun y => by omega); exact ⟨d.2.2.2.1, d.2.2.2.2⟩
        clear d52 fl1
        refine zV_if_eq (tgt := 62) (pc' := 58) dX12_stages_2.1.1.1.1 rfl rfl ⟨by omega, by omega⟩ (fun c55 => ?_) (fun c55 => ?_)
        · refine zW_iconst (pc' := 63) dX12_stages_2.1.1.2.2 rfl ?_
          refine zW_istore_n (ls' := [_, _, _]) (pc' := 64) dX12_stages_2.1.2.1.1 (by decide) rfl rfl rfl ?_
          exact (main 10000000000000000000000000000000000000000) _ _ hF (by omega) (by omega) (by omega) (by omega) (by first | exact (fun q => absurd q (by decide)) | exact (fun _ => hNP) | exact (fun _ => np1 (by omega)) | exact (fun _ => np2 (by omega))) (by first | exact (fun z => absurd z (by decide)) | exact fun _ => rf1 (by omega) | exact fun _ => rf2 (by omega) | (intro z; refine ⟨0, by omega, fun j hj => by omega, ?_⟩; rw [show h 0 26 = 0 by omega, show h 0 30 = 0 by omega, show x1 = 0 by omega]; exact StI.nil)) (by first | exact (fun z => absurd z (by decide)) | exact fun _ => bd1 (by omega) | exact fun _ => bd2 (by omega) | (intro z; have s0 := st.2.1 (by omega) (by omega); omega)) (by omega) (fun j => by have q0 := a0_3 j; have q1 := a22_3 j; have q2 := a27_3 j; have q3 := a32_3 j; have q4 := a37_3 j; have q5 := a46_3 j; have q6 := f52_3 j; omega) (by omega)
        · refine zW_iconst (pc' := 59) dX12_stages_2.1.1.1.2 rfl ?_
          refine zV_goto 63 dX12_stages_2.1.1.2.1 rfl ?_
          refine zW_istore_n (ls' := [_, _, _]) (pc' := 64) dX12_stages_2.1.2.1.1 (by decide) rfl rfl rfl ?_
          exact (main 10000000000000000000000000000000000000000) _ _ hF (by omega) (by omega) (by omega) (by omega) (by first | exact (fun q => absurd q (by decide)) | exact (fun _ => hNP) | exact (fun _ => np1 (by omega)) | exact (fun _ => np2 (by omega))) (by first | exact (fun z => absurd z (by decide)) | exact fun _ => rf1 (by omega) | exact fun _ => rf2 (by omega) | (intro z; refine ⟨0, by omega, fun j hj => by omega, ?_⟩; rw [show h 0 26 = 0 by omega, show h 0 30 = 0 by omega, show x1 = 0 by omega]; exact StI.nil)) (by first | exact (fun z => absurd z (by decide)) | exact fun _ => bd1 (by omega) | exact fun _ => bd2 (by omega) | (intro z; have s0 := st.2.1 (by omega) (by omega); omega)) (by omega) (fun j => by have q0 := a0_3 j; have q1 := a22_3 j; have q2 := a27_3 j; have q3 := a32_3 j; have q4 := a37_3 j; have q5 := a46_3 j; have q6 := f52_3 j; omega) (by omega)
    · refine zW_iconst (pc' := 19) dX12_stages_0.2.1.1.2 rfl ?_
      exact zV_iret rfl dX12_stages_0.2.1.2.1 ⟨hF, by exact ⟨by omega, fun j => ⟨fun z => absurd z (by omega), fun _ => by rw [hk0]⟩, fun z => absurd z (by omega)⟩⟩

abbrev q_X11_countP (κ h : Hp) (x1 : Int) : Int → Hp → Prop := fun r h' => h' = h ∧ (((x1 = 0 → r = κ 41 0) ∧ (x1 = 1 → r = κ 31 1) ∧ (x1 = 2 → r = κ 30 12) ∧ (x1 = 3 → r = κ 41 1) ∧ (x1 < 0 ∨ 3 < x1 → r = -1)))
set_option maxHeartbeats 4000000 in
set_option maxRecDepth 20000 in
theorem s_X11_countP {G : Ga} {b : Bool} {κ h : Hp} (hK : KC κ) (hF : Fr b κ h) (x1 : Int) (hx1 : rng x1) : zM G mX11_count yX11_count [.inr (.inr 30), .inl x1] h (q_X11_countP κ h x1) := by
  have f_30_12 := KCc hK
  have f_31_1 := KCt hK
  have f_41_0 := KCm hK
  have f_41_1 := KCf hK
  have f_45_0 := KCr0 hK
  have f_45_1 := KCr1 hK
  have f_49_0 := KCd0 hK
  have f_49_1 := KCd1 hK
  unfold rng at hx1
  refine zM_of [some (.inr (.inr 30)), some (.inl x1)] 0 rfl rfl (Nat.le_of_ble_eq_true rfl) rfl ?_
  refine zW_iload_n (pc' := 1) dX11_count_0.1.1.1.1 rfl rfl ?_
  refine zW_tsw2 (fun z t => (z = 0 ∧ t = 32) ∨ (z = 1 ∧ t = 40) ∨ (z = 2 ∧ t = 48) ∨ (z = 3 ∧ t = 53)) (fun z => if z = 0 then 32 else if z = 1 then 40 else if z = 2 then 48 else if z = 3 then 53 else 61) dX11_count_0.1.1.1.2 ⟨by omega, by omega⟩ (tsw_ok (pc := 1) (lo := 0) (offs := #[31, 39, 47, 52]) (tg := fun z => if z = 0 then 32 else if z = 1 then 40 else if z = 2 then 48 else if z = 3 then 53 else 61) (by decide +kernel)) rfl (by decide +kernel) (td := 61) rfl (fun c1 => ?_) (fun t1 w1 => ?_)
  · refine zW_iconst (pc' := 62) dX11_count_1.1.2 rfl ?_
    exact zV_iret rfl dX11_count_1.2 ⟨rfl, by omega⟩
  · rcases w1 with ⟨s0, rfl⟩ | ⟨s1, rfl⟩ | ⟨s2, rfl⟩ | ⟨s3, rfl⟩
    · refine zW_aload_n (pc' := 33) dX11_count_0.1.1.2.1 rfl rfl ?_
      refine zG_ref (pc' := 36) 41 fg_X11_33 tb30 rfl dX11_count_0.1.1.2.2 rfl ?_
      refine zG_key (pc' := 39) hF rfl fg_X11_379 tb41 rfl dX11_count_0.1.2.1.1 rfl ?_
      exact zV_iret rfl dX11_count_0.1.2.1.2 ⟨rfl, by omega⟩
    · refine zW_aload_n (pc' := 41) dX11_count_0.1.2.2.1 rfl rfl ?_
      refine zG_ref (pc' := 44) 31 fg_X11_10 tb30 rfl dX11_count_0.1.2.2.2 rfl ?_
      refine zG_key (pc' := 47) hF rfl fg_X11_88 tb31 rfl dX11_count_0.2.1.1.1 rfl ?_
      exact zV_iret rfl dX11_count_0.2.1.1.2 ⟨rfl, by omega⟩
    · refine zW_aload_n (pc' := 49) dX11_count_0.2.1.2.1 rfl rfl ?_
      refine zG_key (pc' := 52) hF rfl fg_X11_85 tb30 rfl dX11_count_0.2.1.2.2 rfl ?_
      exact zV_iret rfl dX11_count_0.2.2.1.1 ⟨rfl, by omega⟩
    · refine zW_aload_n (pc' := 54) dX11_count_0.2.2.1.2 rfl rfl ?_
      refine zG_ref (pc' := 57) 41 fg_X11_33 tb30 rfl dX11_count_0.2.2.2.1 rfl ?_
      refine zG_key (pc' := 60) hF rfl fg_X11_248 tb41 rfl dX11_count_0.2.2.2.2 rfl ?_
      exact zV_iret rfl dX11_count_1.1.1 ⟨rfl, by omega⟩

abbrev q_X12_countP (κ h : Hp) (x1 : Int) : Int → Hp → Prop := fun r h' => h' = h ∧ (((x1 = 0 → r = κ 0 14) ∧ (x1 = 1 → r = κ 0 25) ∧ (x1 = 2 → r = κ 0 15) ∧ (x1 = 3 → r = FL κ) ∧ (x1 < 0 ∨ 3 < x1 → r = -1)))
set_option maxHeartbeats 4000000 in
set_option maxRecDepth 20000 in
theorem s_X12_countP {G : Ga} {b : Bool} {κ h : Hp} (hK : KR κ) (hF : Fr b κ h) (x1 : Int) (hx1 : rng x1) : zM G mX12_count yX12_count [.inr (.inr 0), .inl x1] h (q_X12_countP κ h x1) := by
  have f_0_14 := KRm hK
  have f_0_15 := KRl hK
  have f_0_25 := KRt hK
  unfold rng at hx1
  refine zM_of [some (.inr (.inr 0)), some (.inl x1)] 0 rfl rfl (Nat.le_of_ble_eq_true rfl) rfl ?_
  refine zW_iload_n (pc' := 1) dX12_count_0.1.1.1.1 rfl rfl ?_
  refine zV_if_ne (tgt := 11) (pc' := 4) dX12_count_0.1.1.1.2 rfl rfl ⟨by omega, by omega⟩ (fun c1 => ?_) (fun c1 => ?_)
  · refine zW_iload_n (pc' := 12) dX12_count_0.1.2.1.2 rfl rfl ?_
    refine zW_iconst (pc' := 13) dX12_count_0.1.2.2.1 rfl ?_
    refine zV_cm_ne (tgt := 23) (pc' := 16) dX12_count_0.1.2.2.2 rfl rfl ⟨by omega, by omega⟩ ⟨by omega, by omega⟩ (fun c13 => ?_) (fun c13 => ?_)
    · refine zW_iload_n (pc' := 24) dX12_count_0.2.1.2.2 rfl rfl ?_
      refine zW_iconst (pc' := 25) dX12_count_0.2.2.1.1 rfl ?_
      refine zV_cm_ne (tgt := 35) (pc' := 28) dX12_count_0.2.2.1.2 rfl rfl ⟨by omega, by omega⟩ ⟨by omega, by omega⟩ (fun c25 => ?_) (fun c25 => ?_)
      · refine zW_iload_n (pc' := 36) dX12_count_1.1.1.1.2 rfl rfl ?_
        refine zW_iconst (pc' := 37) dX12_count_1.1.1.2 rfl ?_
        refine zV_cm_ne (tgt := 47) (pc' := 40) dX12_count_1.1.2.1 rfl rfl ⟨by omega, by omega⟩ ⟨by omega, by omega⟩ (fun c37 => ?_) (fun c37 => ?_)
        · refine zW_iconst (pc' := 48) dX12_count_1.2.2.1 rfl ?_
          exact zV_iret rfl dX12_count_1.2.2.2 ⟨rfl, by omega⟩
        · refine zW_aload_n (pc' := 41) dX12_count_1.1.2.2 rfl rfl ?_
          refine cvI0 (pc' := 44) kX12_filler vX12_filler lk_X12_196 ⟨Nat.le_of_ble_eq_true rfl, Nat.le_of_ble_eq_true rfl⟩ tb0 vq12 rfl rfl (s_X12_filler hK hF) dX12_count_1.2.1.1 (Nat.le_of_ble_eq_true rfl) rfl ?_
          rintro r41 z41 ⟨hz41, p41⟩; subst z41
          refine zV_goto 48 dX12_count_1.2.1.2 rfl ?_
          exact zV_iret rfl dX12_count_1.2.2.2 ⟨rfl, by omega⟩
      · refine zW_aload_n (pc' := 29) dX12_count_0.2.2.2.1 rfl rfl ?_
        refine zG_key (pc' := 32) hF rfl fg_X12_106 tb0 rfl dX12_count_0.2.2.2.2 rfl ?_
        refine zV_goto 48 dX12_count_1.1.1.1.1 rfl ?_
        exact zV_iret rfl dX12_count_1.2.2.2 ⟨rfl, by omega⟩
    · refine zW_aload_n (pc' := 17) dX12_count_0.2.1.1.1 rfl rfl ?_
      refine zG_key (pc' := 20) hF rfl fg_X12_116 tb0 rfl dX12_count_0.2.1.1.2 rfl ?_
      refine zV_goto 48 dX12_count_0.2.1.2.1 rfl ?_
      exact zV_iret rfl dX12_count_1.2.2.2 ⟨rfl, by omega⟩
  · refine zW_aload_n (pc' := 5) dX12_count_0.1.1.2.1 rfl rfl ?_
    refine zG_key (pc' := 8) hF rfl fg_X12_185 tb0 rfl dX12_count_0.1.1.2.2 rfl ?_
    refine zV_goto 48 dX12_count_0.1.2.1.1 rfl ?_
    exact zV_iret rfl dX12_count_1.2.2.2 ⟨rfl, by omega⟩

abbrev q_X12_keepP (κ : Hp) : Int → Hp → Prop := fun r h' => Fm [(0, 22), (0, 16), (0, 17), (0, 18), (0, 19), (0, 20), (6, 999), (7, 999), (8, 999), (9, 999), (11, 999)] κ h' ∧ ((r = κ 0 14 ∧ h' 0 22 = 1 ∧ h' 0 16 = κ 0 11 ∧ h' 0 17 = κ 0 12 ∧ h' 0 18 = κ 0 13 ∧ h' 0 20 = κ 0 15) ∧ h' 0 19 = κ 0 14 ∧ (∀ j : Nat, j < 12 → h' 7 j = κ 3 j))
set_option maxHeartbeats 4000000 in
set_option maxRecDepth 20000 in
theorem s_X12_keepP {G : Ga} {κ : Hp} (hS : SI κ) (hR : KR κ) (hC : KC κ) : zM G mX12_keep yX12_keep [.inr (.inr 0)] κ (q_X12_keepP κ) := by
  have f22 := KRk hR
  refine zM_of [some (.inr (.inr 0))] 0 rfl rfl (Nat.le_of_ble_eq_true rfl) rfl ?_
  refine zW_aload_n (pc' := 1) dX12_keep_0.1.1.1.1 rfl rfl ?_
  refine zW_iconst (pc' := 2) dX12_keep_0.1.1.1.2 rfl ?_
  refine zV_putz (pc' := 5) fp_X12_457 (by omega) tb0 rfl dX12_keep_0.1.1.2.1 rfl ?_
  have hS1 := SI_irr (k := 0) (i := 22) (v := 1) hS (Or.inl rfl) (fun _ _ => ⟨by omega, by omega⟩)
  generalize e1 : zwr κ 0 22 (1) = h1 at hS1 ⊢
  refine zW_aload_n (pc' := 6) dX12_keep_0.1.1.2.2 rfl rfl ?_
  refine zW_aload_n (pc' := 7) dX12_keep_0.1.2.1.1 rfl rfl ?_
  refine zG_int (pc' := 10) fg_X12_99 tb0 rfl dX12_keep_0.1.2.1.2 rfl ?_
  refine zV_puti (pc' := 13) fp_X12_460 tb0 rfl dX12_keep_0.1.2.2.1 rfl ?_
  have hS2 := SI_irr (k := 0) (i := 16) (v := h1 0 11) hS1 (Or.inl rfl) (fun _ _ => (hS1.2.2.2.2 _ _ (by decide) (by decide)))
  generalize e2 : zwr h1 0 16 (h1 0 11) = h2 at hS2 ⊢
  refine zW_aload_n (pc' := 14) dX12_keep_0.1.2.2.2 rfl rfl ?_
  refine zW_aload_n (pc' := 15) dX12_keep_0.2.1.1.1 rfl rfl ?_
  refine zG_int (pc' := 18) fg_X12_103 tb0 rfl dX12_keep_0.2.1.1.2 rfl ?_
  refine zV_puti (pc' := 21) fp_X12_463 tb0 rfl dX12_keep_0.2.1.2.1 rfl ?_
  have hS3 := SI_irr (k := 0) (i := 17) (v := h2 0 12) hS2 (Or.inl rfl) (fun _ _ => (hS2.2.2.2.2 _ _ (by decide) (by decide)))
  generalize e3 : zwr h2 0 17 (h2 0 12) = h3 at hS3 ⊢
  refine zW_aload_n (pc' := 22) dX12_keep_0.2.1.2.2 rfl rfl ?_
  refine zW_aload_n (pc' := 23) dX12_keep_0.2.2.1.1 rfl rfl ?_
  refine zG_int (pc' := 26) fg_X12_209 tb0 rfl dX12_keep_0.2.2.1.2 rfl ?_
  refine zV_puti (pc' := 29) fp_X12_466 tb0 rfl dX12_keep_0.2.2.2.1 rfl ?_
  have hS4 := SI_irr (k := 0) (i := 18) (v := h3 0 13) hS3 (Or.inl rfl) (fun _ _ => (hS3.2.2.2.2 _ _ (by decide) (by decide)))
  generalize e4 : zwr h3 0 18 (h3 0 13) = h4 at hS4 ⊢
  refine zW_aload_n (pc' := 30) dX12_keep_0.2.2.2.2 rfl rfl ?_
  refine zW_aload_n (pc' := 31) dX12_keep_1.1.1.1.1 rfl rfl ?_
  refine zG_int (pc' := 34) fg_X12_185 tb0 rfl dX12_keep_1.1.1.1.2 rfl ?_
  refine zV_puti (pc' := 37) fp_X12_469 tb0 rfl dX12_keep_1.1.1.2.1 rfl ?_
  have hS5 := SI_irr (k := 0) (i := 19) (v := h4 0 14) hS4 (Or.inl rfl) (fun _ _ => (hS4.2.2.2.2 _ _ (by decide) (by decide)))
  generalize e5 : zwr h4 0 19 (h4 0 14) = h5 at hS5 ⊢
  refine zW_aload_n (pc' := 38) dX12_keep_1.1.1.2.2 rfl rfl ?_
  refine zW_aload_n (pc' := 39) dX12_keep_1.1.2.1.1 rfl rfl ?_
  refine zG_int (pc' := 42) fg_X12_106 tb0 rfl dX12_keep_1.1.2.1.2 rfl ?_
  refine zV_puti (pc' := 45) fp_X12_472 tb0 rfl dX12_keep_1.1.2.2.1 rfl ?_
  have hS6 := SI_irr (k := 0) (i := 20) (v := h5 0 15) hS5 (Or.inl rfl) (fun _ _ => (hS5.2.2.2.2 _ _ (by decide) (by decide)))
  generalize e6 : zwr h5 0 20 (h5 0 15) = h6 at hS6 ⊢
  refine zW_aload_n (pc' := 46) dX12_keep_1.1.2.2.2 rfl rfl ?_
  refine zG_ref (pc' := 49) 1 fg_X12_7 tb0 rfl dX12_keep_1.2.1.1.1 rfl ?_
  refine zW_aload_n (pc' := 50) dX12_keep_1.2.1.1.2 rfl rfl ?_
  refine zG_ref (pc' := 53) 6 fg_X12_25 tb0 rfl dX12_keep_1.2.1.2.1 rfl ?_
  refine csV2 (pc' := 56) kX12_copies vX12_copies lk_X12_188 ⟨Nat.le_of_ble_eq_true rfl, Nat.le_of_ble_eq_true rfl⟩ rfl (s_X12_copies tb1 tb6 (by decide) (by decide)) dX12_keep_1.2.1.2.2 (Nat.le_of_ble_eq_true rfl) rfl ?_
  rintro _ h7 e7; replace e7 := e7.symm
  have hS7 : SI h7 := by rw [← e7]; exact SI_cpy hS6 rfl (by decide)
  refine zW_aload_n (pc' := 57) dX12_keep_1.2.2.1.1 rfl rfl ?_
  refine zG_ref (pc' := 60) 10 fg_X12_37 tb0 rfl dX12_keep_1.2.2.1.2 rfl ?_
  refine zW_aload_n (pc' := 61) dX12_keep_1.2.2.2.1 rfl rfl ?_
  refine zG_ref (pc' := 64) 11 fg_X12_41 tb0 rfl dX12_keep_1.2.2.2.2 rfl ?_
  have hb : ∀ i, h7 10 i = 0 ∨ h7 10 i = 1 := fun i => by have q := KRd hR i; rw [← e7, cpy_ne (by decide), ← e6, zwr_ne (Or.inl (by decide)), ← e5, zwr_ne (Or.inl (by decide)), ← e4, zwr_ne (Or.inl (by decide)), ← e3, zwr_ne (Or.inl (by decide)), ← e2, zwr_ne (Or.inl (by decide)), ← e1, zwr_ne (Or.inl (by decide))]; omega
  refine csV2 (pc' := 67) kX12_copiesMarks vX12_copiesMarks lk_X12_475 ⟨Nat.le_of_ble_eq_true rfl, Nat.le_of_ble_eq_true rfl⟩ rfl (s_X12_copiesMarks tb10 tb11 (by decide) (by decide) hb) dX12_keep_2.1.1.1.1 (Nat.le_of_ble_eq_true rfl) rfl ?_
  rintro _ h8 e8; replace e8 := e8.symm
  have hS8 : SI h8 := by rw [← e8]; exact SI_cpy hS7 rfl (by decide)
  refine zW_aload_n (pc' := 68) dX12_keep_2.1.1.1.2 rfl rfl ?_
  refine zG_ref (pc' := 71) 3 fg_X12_16 tb0 rfl dX12_keep_2.1.1.2.1 rfl ?_
  refine zW_aload_n (pc' := 72) dX12_keep_2.1.1.2.2 rfl rfl ?_
  refine zG_ref (pc' := 75) 7 fg_X12_28 tb0 rfl dX12_keep_2.1.2.1.1 rfl ?_
  refine csV2 (pc' := 78) kX12_copies vX12_copies lk_X12_188 ⟨Nat.le_of_ble_eq_true rfl, Nat.le_of_ble_eq_true rfl⟩ rfl (s_X12_copies tb3 tb7 (by decide) (by decide)) dX12_keep_2.1.2.1.2 (Nat.le_of_ble_eq_true rfl) rfl ?_
  rintro _ h9 e9; replace e9 := e9.symm
  have hS9 : SI h9 := by rw [← e9]; exact SI_cpy hS8 rfl (by decide)
  refine zW_aload_n (pc' := 79) dX12_keep_2.1.2.2.1 rfl rfl ?_
  refine zG_ref (pc' := 82) 4 fg_X12_19 tb0 rfl dX12_keep_2.1.2.2.2 rfl ?_
  refine zW_aload_n (pc' := 83) dX12_keep_2.2.1.1.1 rfl rfl ?_
  refine zG_ref (pc' := 86) 8 fg_X12_31 tb0 rfl dX12_keep_2.2.1.1.2 rfl ?_
  refine csV2 (pc' := 89) kX12_copies vX12_copies lk_X12_188 ⟨Nat.le_of_ble_eq_true rfl, Nat.le_of_ble_eq_true rfl⟩ rfl (s_X12_copies tb4 tb8 (by decide) (by decide)) dX12_keep_2.2.1.2.1 (Nat.le_of_ble_eq_true rfl) rfl ?_
  rintro _ h10 e10; replace e10 := e10.symm
  have hS10 : SI h10 := by rw [← e10]; exact SI_cpy hS9 rfl (by decide)
  refine zW_aload_n (pc' := 90) dX12_keep_2.2.1.2.2 rfl rfl ?_
  refine zG_ref (pc' := 93) 5 fg_X12_22 tb0 rfl dX12_keep_2.2.2.1.1 rfl ?_
  refine zW_aload_n (pc' := 94) dX12_keep_2.2.2.1.2 rfl rfl ?_
  refine zG_ref (pc' := 97) 9 fg_X12_34 tb0 rfl dX12_keep_2.2.2.2.1 rfl ?_
  refine csV2 (pc' := 100) kX12_copies vX12_copies lk_X12_188 ⟨Nat.le_of_ble_eq_true rfl, Nat.le_of_ble_eq_true rfl⟩ rfl (s_X12_copies tb5 tb9 (by decide) (by decide)) dX12_keep_2.2.2.2.2 (Nat.le_of_ble_eq_true rfl) rfl ?_
  rintro _ h11 e11; replace e11 := e11.symm
  have hS11 : SI h11 := by rw [← e11]; exact SI_cpy hS10 rfl (by decide)
  refine zW_aload_n (pc' := 101) dX12_keep_3.1.1 rfl rfl ?_
  refine zG_int (pc' := 104) fg_X12_185 tb0 rfl dX12_keep_3.1.2 rfl ?_
  have fr : ∀ k i, inW [(0, 22), (0, 16), (0, 17), (0, 18), (0, 19), (0, 20), (6, 999), (7, 999), (8, 999), (9, 999), (11, 999)] k i = false → h11 k i = κ k i := fun k i hl => by rw [← e11, cpy_ne (inW_nc (L := [(0, 22), (0, 16), (0, 17), (0, 18), (0, 19), (0, 20), (6, 999), (7, 999), (8, 999), (9, 999), (11, 999)]) (c := 9) rfl hl), ← e10, cpy_ne (inW_nc (L := [(0, 22), (0, 16), (0, 17), (0, 18), (0, 19), (0, 20), (6, 999), (7, 999), (8, 999), (9, 999), (11, 999)]) (c := 8) rfl hl), ← e9, cpy_ne (inW_nc (L := [(0, 22), (0, 16), (0, 17), (0, 18), (0, 19), (0, 20), (6, 999), (7, 999), (8, 999), (9, 999), (11, 999)]) (c := 7) rfl hl), ← e8, cpy_ne (inW_nc (L := [(0, 22), (0, 16), (0, 17), (0, 18), (0, 19), (0, 20), (6, 999), (7, 999), (8, 999), (9, 999), (11, 999)]) (c := 11) rfl hl), ← e7, cpy_ne (inW_nc (L := [(0, 22), (0, 16), (0, 17), (0, 18), (0, 19), (0, 20), (6, 999), (7, 999), (8, 999), (9, 999), (11, 999)]) (c := 6) rfl hl), ← e6, zwr_ne (inW_ne (L := [(0, 22), (0, 16), (0, 17), (0, 18), (0, 19), (0, 20), (6, 999), (7, 999), (8, 999), (9, 999), (11, 999)]) (k := 0) (i := 20) rfl hl), ← e5, zwr_ne (inW_ne (L := [(0, 22), (0, 16), (0, 17), (0, 18), (0, 19), (0, 20), (6, 999), (7, 999), (8, 999), (9, 999), (11, 999)]) (k := 0) (i := 19) rfl hl), ← e4, zwr_ne (inW_ne (L := [(0, 22), (0, 16), (0, 17), (0, 18), (0, 19), (0, 20), (6, 999), (7, 999), (8, 999), (9, 999), (11, 999)]) (k := 0) (i := 18) rfl hl), ← e3, zwr_ne (inW_ne (L := [(0, 22), (0, 16), (0, 17), (0, 18), (0, 19), (0, 20), (6, 999), (7, 999), (8, 999), (9, 999), (11, 999)]) (k := 0) (i := 17) rfl hl), ← e2, zwr_ne (inW_ne (L := [(0, 22), (0, 16), (0, 17), (0, 18), (0, 19), (0, 20), (6, 999), (7, 999), (8, 999), (9, 999), (11, 999)]) (k := 0) (i := 16) rfl hl), ← e1, zwr_ne (inW_ne (L := [(0, 22), (0, 16), (0, 17), (0, 18), (0, 19), (0, 20), (6, 999), (7, 999), (8, 999), (9, 999), (11, 999)]) (k := 0) (i := 22) rfl hl)]
  have hCf : KC h11 := KC_low hC (fun k i hk => fr k i (by unfold inW; simp [List.any_cons]; omega))
  have g11 : h11 0 11 = κ 0 11 := by rw [← e11, cpy_ne (by decide), ← e10, cpy_ne (by decide), ← e9, cpy_ne (by decide), ← e8, cpy_ne (by decide), ← e7, cpy_ne (by decide), ← e6, zwr_ne (Or.inr (by decide)), ← e5, zwr_ne (Or.inr (by decide)), ← e4, zwr_ne (Or.inr (by decide)), ← e3, zwr_ne (Or.inr (by decide)), ← e2, zwr_ne (Or.inr (by decide)), ← e1, zwr_ne (Or.inr (by decide))]
  have g12 : h11 0 12 = κ 0 12 := by rw [← e11, cpy_ne (by decide), ← e10, cpy_ne (by decide), ← e9, cpy_ne (by decide), ← e8, cpy_ne (by decide), ← e7, cpy_ne (by decide), ← e6, zwr_ne (Or.inr (by decide)), ← e5, zwr_ne (Or.inr (by decide)), ← e4, zwr_ne (Or.inr (by decide)), ← e3, zwr_ne (Or.inr (by decide)), ← e2, zwr_ne (Or.inr (by decide)), ← e1, zwr_ne (Or.inr (by decide))]
  have g13 : h11 0 13 = κ 0 13 := by rw [← e11, cpy_ne (by decide), ← e10, cpy_ne (by decide), ← e9, cpy_ne (by decide), ← e8, cpy_ne (by decide), ← e7, cpy_ne (by decide), ← e6, zwr_ne (Or.inr (by decide)), ← e5, zwr_ne (Or.inr (by decide)), ← e4, zwr_ne (Or.inr (by decide)), ← e3, zwr_ne (Or.inr (by decide)), ← e2, zwr_ne (Or.inr (by decide)), ← e1, zwr_ne (Or.inr (by decide))]
  have g14 : h11 0 14 = κ 0 14 := by rw [← e11, cpy_ne (by decide), ← e10, cpy_ne (by decide), ← e9, cpy_ne (by decide), ← e8, cpy_ne (by decide), ← e7, cpy_ne (by decide), ← e6, zwr_ne (Or.inr (by decide)), ← e5, zwr_ne (Or.inr (by decide)), ← e4, zwr_ne (Or.inr (by decide)), ← e3, zwr_ne (Or.inr (by decide)), ← e2, zwr_ne (Or.inr (by decide)), ← e1, zwr_ne (Or.inr (by decide))]
  have g15 : h11 0 15 = κ 0 15 := by rw [← e11, cpy_ne (by decide), ← e10, cpy_ne (by decide), ← e9, cpy_ne (by decide), ← e8, cpy_ne (by decide), ← e7, cpy_ne (by decide), ← e6, zwr_ne (Or.inr (by decide)), ← e5, zwr_ne (Or.inr (by decide)), ← e4, zwr_ne (Or.inr (by decide)), ← e3, zwr_ne (Or.inr (by decide)), ← e2, zwr_ne (Or.inr (by decide)), ← e1, zwr_ne (Or.inr (by decide))]
  have g16 : h11 0 16 = κ 0 11 := by rw [← e11, cpy_ne (by decide), ← e10, cpy_ne (by decide), ← e9, cpy_ne (by decide), ← e8, cpy_ne (by decide), ← e7, cpy_ne (by decide), ← e6, zwr_ne (Or.inr (by decide)), ← e5, zwr_ne (Or.inr (by decide)), ← e4, zwr_ne (Or.inr (by decide)), ← e3, zwr_ne (Or.inr (by decide)), ← e2, zwr_eq, ← e1, zwr_ne (Or.inr (by decide))]
  have g17 : h11 0 17 = κ 0 12 := by rw [← e11, cpy_ne (by decide), ← e10, cpy_ne (by decide), ← e9, cpy_ne (by decide), ← e8, cpy_ne (by decide), ← e7, cpy_ne (by decide), ← e6, zwr_ne (Or.inr (by decide)), ← e5, zwr_ne (Or.inr (by decide)), ← e4, zwr_ne (Or.inr (by decide)), ← e3, zwr_eq, ← e2, zwr_ne (Or.inr (by decide)), ← e1, zwr_ne (Or.inr (by decide))]
  have g18 : h11 0 18 = κ 0 13 := by rw [← e11, cpy_ne (by decide), ← e10, cpy_ne (by decide), ← e9, cpy_ne (by decide), ← e8, cpy_ne (by decide), ← e7, cpy_ne (by decide), ← e6, zwr_ne (Or.inr (by decide)), ← e5, zwr_ne (Or.inr (by decide)), ← e4, zwr_eq, ← e3, zwr_ne (Or.inr (by decide)), ← e2, zwr_ne (Or.inr (by decide)), ← e1, zwr_ne (Or.inr (by decide))]
  have g19 : h11 0 19 = κ 0 14 := by rw [← e11, cpy_ne (by decide), ← e10, cpy_ne (by decide), ← e9, cpy_ne (by decide), ← e8, cpy_ne (by decide), ← e7, cpy_ne (by decide), ← e6, zwr_ne (Or.inr (by decide)), ← e5, zwr_eq, ← e4, zwr_ne (Or.inr (by decide)), ← e3, zwr_ne (Or.inr (by decide)), ← e2, zwr_ne (Or.inr (by decide)), ← e1, zwr_ne (Or.inr (by decide))]
  have g20 : h11 0 20 = κ 0 15 := by rw [← e11, cpy_ne (by decide), ← e10, cpy_ne (by decide), ← e9, cpy_ne (by decide), ← e8, cpy_ne (by decide), ← e7, cpy_ne (by decide), ← e6, zwr_eq, ← e5, zwr_ne (Or.inr (by decide)), ← e4, zwr_ne (Or.inr (by decide)), ← e3, zwr_ne (Or.inr (by decide)), ← e2, zwr_ne (Or.inr (by decide)), ← e1, zwr_ne (Or.inr (by decide))]
  have g21 : h11 0 21 = κ 0 21 := by rw [← e11, cpy_ne (by decide), ← e10, cpy_ne (by decide), ← e9, cpy_ne (by decide), ← e8, cpy_ne (by decide), ← e7, cpy_ne (by decide), ← e6, zwr_ne (Or.inr (by decide)), ← e5, zwr_ne (Or.inr (by decide)), ← e4, zwr_ne (Or.inr (by decide)), ← e3, zwr_ne (Or.inr (by decide)), ← e2, zwr_ne (Or.inr (by decide)), ← e1, zwr_ne (Or.inr (by decide))]
  have g22 : h11 0 22 = 1 := by rw [← e11, cpy_ne (by decide), ← e10, cpy_ne (by decide), ← e9, cpy_ne (by decide), ← e8, cpy_ne (by decide), ← e7, cpy_ne (by decide), ← e6, zwr_ne (Or.inr (by decide)), ← e5, zwr_ne (Or.inr (by decide)), ← e4, zwr_ne (Or.inr (by decide)), ← e3, zwr_ne (Or.inr (by decide)), ← e2, zwr_ne (Or.inr (by decide)), ← e1, zwr_eq]
  have g25 : h11 0 25 = κ 0 25 := by rw [← e11, cpy_ne (by decide), ← e10, cpy_ne (by decide), ← e9, cpy_ne (by decide), ← e8, cpy_ne (by decide), ← e7, cpy_ne (by decide), ← e6, zwr_ne (Or.inr (by decide)), ← e5, zwr_ne (Or.inr (by decide)), ← e4, zwr_ne (Or.inr (by decide)), ← e3, zwr_ne (Or.inr (by decide)), ← e2, zwr_ne (Or.inr (by decide)), ← e1, zwr_ne (Or.inr (by decide))]
  have c3 : h11 3 = κ 3 := funext fun j => by rw [← e11, cpy_ne (by decide), ← e10, cpy_ne (by decide), ← e9, cpy_ne (by decide), ← e8, cpy_ne (by decide), ← e7, cpy_ne (by decide), ← e6, zwr_ne (Or.inl (by decide)), ← e5, zwr_ne (Or.inl (by decide)), ← e4, zwr_ne (Or.inl (by decide)), ← e3, zwr_ne (Or.inl (by decide)), ← e2, zwr_ne (Or.inl (by decide)), ← e1, zwr_ne (Or.inl (by decide))]
  have c4 : h11 4 = κ 4 := funext fun j => by rw [← e11, cpy_ne (by decide), ← e10, cpy_ne (by decide), ← e9, cpy_ne (by decide), ← e8, cpy_ne (by decide), ← e7, cpy_ne (by decide), ← e6, zwr_ne (Or.inl (by decide)), ← e5, zwr_ne (Or.inl (by decide)), ← e4, zwr_ne (Or.inl (by decide)), ← e3, zwr_ne (Or.inl (by decide)), ← e2, zwr_ne (Or.inl (by decide)), ← e1, zwr_ne (Or.inl (by decide))]
  have c5 : h11 5 = κ 5 := funext fun j => by rw [← e11, cpy_ne (by decide), ← e10, cpy_ne (by decide), ← e9, cpy_ne (by decide), ← e8, cpy_ne (by decide), ← e7, cpy_ne (by decide), ← e6, zwr_ne (Or.inl (by decide)), ← e5, zwr_ne (Or.inl (by decide)), ← e4, zwr_ne (Or.inl (by decide)), ← e3, zwr_ne (Or.inl (by decide)), ← e2, zwr_ne (Or.inl (by decide)), ← e1, zwr_ne (Or.inl (by decide))]
  have c7 : ∀ j, j < 12 → h11 7 j = κ 3 j := fun j hj => by rw [← e11, cpy_ne (by decide), ← e10, cpy_ne (by decide), ← e9, cpy_in hj, ← e8, cpy_ne (by decide), ← e7, cpy_ne (by decide), ← e6, zwr_ne (Or.inl (by decide)), ← e5, zwr_ne (Or.inl (by decide)), ← e4, zwr_ne (Or.inl (by decide)), ← e3, zwr_ne (Or.inl (by decide)), ← e2, zwr_ne (Or.inl (by decide)), ← e1, zwr_ne (Or.inl (by decide))]
  have o7 : ∀ j, 12 ≤ j → h11 7 j = κ 7 j := fun j hj => by rw [← e11, cpy_ne (by decide), ← e10, cpy_ne (by decide), ← e9, cpy_out hj, ← e8, cpy_ne (by decide), ← e7, cpy_ne (by decide), ← e6, zwr_ne (Or.inl (by decide)), ← e5, zwr_ne (Or.inl (by decide)), ← e4, zwr_ne (Or.inl (by decide)), ← e3, zwr_ne (Or.inl (by decide)), ← e2, zwr_ne (Or.inl (by decide)), ← e1, zwr_ne (Or.inl (by decide))]
  have c8 : ∀ j, j < 13 → h11 8 j = κ 4 j := fun j hj => by rw [← e11, cpy_ne (by decide), ← e10, cpy_in hj, ← e9, cpy_ne (by decide), ← e8, cpy_ne (by decide), ← e7, cpy_ne (by decide), ← e6, zwr_ne (Or.inl (by decide)), ← e5, zwr_ne (Or.inl (by decide)), ← e4, zwr_ne (Or.inl (by decide)), ← e3, zwr_ne (Or.inl (by decide)), ← e2, zwr_ne (Or.inl (by decide)), ← e1, zwr_ne (Or.inl (by decide))]
  have o8 : ∀ j, 13 ≤ j → h11 8 j = κ 8 j := fun j hj => by rw [← e11, cpy_ne (by decide), ← e10, cpy_out hj, ← e9, cpy_ne (by decide), ← e8, cpy_ne (by decide), ← e7, cpy_ne (by decide), ← e6, zwr_ne (Or.inl (by decide)), ← e5, zwr_ne (Or.inl (by decide)), ← e4, zwr_ne (Or.inl (by decide)), ← e3, zwr_ne (Or.inl (by decide)), ← e2, zwr_ne (Or.inl (by decide)), ← e1, zwr_ne (Or.inl (by decide))]
  have c9 : ∀ j, j < 130 → h11 9 j = κ 5 j := fun j hj => by rw [← e11, cpy_in hj, ← e10, cpy_ne (by decide), ← e9, cpy_ne (by decide), ← e8, cpy_ne (by decide), ← e7, cpy_ne (by decide), ← e6, zwr_ne (Or.inl (by decide)), ← e5, zwr_ne (Or.inl (by decide)), ← e4, zwr_ne (Or.inl (by decide)), ← e3, zwr_ne (Or.inl (by decide)), ← e2, zwr_ne (Or.inl (by decide)), ← e1, zwr_ne (Or.inl (by decide))]
  have o9 : ∀ j, 130 ≤ j → h11 9 j = κ 9 j := fun j hj => by rw [← e11, cpy_out hj, ← e10, cpy_ne (by decide), ← e9, cpy_ne (by decide), ← e8, cpy_ne (by decide), ← e7, cpy_ne (by decide), ← e6, zwr_ne (Or.inl (by decide)), ← e5, zwr_ne (Or.inl (by decide)), ← e4, zwr_ne (Or.inl (by decide)), ← e3, zwr_ne (Or.inl (by decide)), ← e2, zwr_ne (Or.inl (by decide)), ← e1, zwr_ne (Or.inl (by decide))]
  have c10 : h11 10 = κ 10 := funext fun j => by rw [← e11, cpy_ne (by decide), ← e10, cpy_ne (by decide), ← e9, cpy_ne (by decide), ← e8, cpy_ne (by decide), ← e7, cpy_ne (by decide), ← e6, zwr_ne (Or.inl (by decide)), ← e5, zwr_ne (Or.inl (by decide)), ← e4, zwr_ne (Or.inl (by decide)), ← e3, zwr_ne (Or.inl (by decide)), ← e2, zwr_ne (Or.inl (by decide)), ← e1, zwr_ne (Or.inl (by decide))]
  have c11 : ∀ j, j < 256 → h11 11 j = κ 10 j := fun j hj => by rw [← e11, cpy_ne (by decide), ← e10, cpy_ne (by decide), ← e9, cpy_ne (by decide), ← e8, cpy_in hj, ← e7, cpy_ne (by decide), ← e6, zwr_ne (Or.inl (by decide)), ← e5, zwr_ne (Or.inl (by decide)), ← e4, zwr_ne (Or.inl (by decide)), ← e3, zwr_ne (Or.inl (by decide)), ← e2, zwr_ne (Or.inl (by decide)), ← e1, zwr_ne (Or.inl (by decide))]
  have o11 : ∀ j, 256 ≤ j → h11 11 j = κ 11 j := fun j hj => by rw [← e11, cpy_ne (by decide), ← e10, cpy_ne (by decide), ← e9, cpy_ne (by decide), ← e8, cpy_out hj, ← e7, cpy_ne (by decide), ← e6, zwr_ne (Or.inl (by decide)), ← e5, zwr_ne (Or.inl (by decide)), ← e4, zwr_ne (Or.inl (by decide)), ← e3, zwr_ne (Or.inl (by decide)), ← e2, zwr_ne (Or.inl (by decide)), ← e1, zwr_ne (Or.inl (by decide))]
  have c14 : h11 14 = κ 14 := funext fun j => by rw [← e11, cpy_ne (by decide), ← e10, cpy_ne (by decide), ← e9, cpy_ne (by decide), ← e8, cpy_ne (by decide), ← e7, cpy_ne (by decide), ← e6, zwr_ne (Or.inl (by decide)), ← e5, zwr_ne (Or.inl (by decide)), ← e4, zwr_ne (Or.inl (by decide)), ← e3, zwr_ne (Or.inl (by decide)), ← e2, zwr_ne (Or.inl (by decide)), ← e1, zwr_ne (Or.inl (by decide))]
  have c15 : h11 15 = κ 15 := funext fun j => by rw [← e11, cpy_ne (by decide), ← e10, cpy_ne (by decide), ← e9, cpy_ne (by decide), ← e8, cpy_ne (by decide), ← e7, cpy_ne (by decide), ← e6, zwr_ne (Or.inl (by decide)), ← e5, zwr_ne (Or.inl (by decide)), ← e4, zwr_ne (Or.inl (by decide)), ← e3, zwr_ne (Or.inl (by decide)), ← e2, zwr_ne (Or.inl (by decide)), ← e1, zwr_ne (Or.inl (by decide))]
  obtain ⟨a0, a1, a2, a3, a4, a5, a6, a7, a8, a9, a10, a11, a12, a13, a14, a15, a16, a17⟩ := hR
  have hRf : KR h11 := by
    unfold KR
    rw [g11, g12, g13, g14, g15, g16, g17, g18, g19, g20, g21, g22, g25, c3, c4, c5, c10, c14, c15]
    refine ⟨a0, a1, a2, a3, a4, a5, a6, a7, a8, ⟨by omega, by omega⟩, fun _ => ⟨a0, a1, a2, a3, a4, (bd2 c8 o8 a6 a16), ?_, (bd2 c9 o9 a11 a17)⟩, a11, a12, (bd2 c11 o11 a12 a13), a14, a15, (bd2 c8 o8 a6 a16), (bd2 c9 o9 a11 a17)⟩
    exact a7.cong3 a3.2 c7 c8 c9
  have hFf : Fm [(0, 22), (0, 16), (0, 17), (0, 18), (0, 19), (0, 20), (6, 999), (7, 999), (8, 999), (9, 999), (11, 999)] κ h11 := ⟨fun k i _ hl => fr k i hl, hS11, hRf, hCf⟩
  exact zV_iret rfl dX12_keep_3.2 ⟨hFf, ⟨by omega, g22, g16, g17, g18, g20⟩, g19, c7⟩

abbrev q_X12_undoP (κ : Hp) : Int → Hp → Prop := fun r h' => Fm [(0, 11), (0, 12), (0, 13), (0, 14), (0, 15), (1, 999), (3, 999), (4, 999), (5, 999), (10, 999), (0, 21)] κ h' ∧ (((κ 0 22 = 0 ∧ r = 0 ∧ h' 0 11 = κ 0 11 ∧ h' 0 12 = κ 0 12 ∧ h' 0 13 = κ 0 13 ∧ h' 0 15 = κ 0 15) ∨ (κ 0 22 = 1 ∧ r = 1 ∧ h' 0 11 = κ 0 16 ∧ h' 0 12 = κ 0 17 ∧ h' 0 13 = κ 0 18 ∧ h' 0 15 = κ 0 20)) ∧ ((r = 0 → h' 0 14 = κ 0 14) ∧ (r = 1 → h' 0 14 = κ 0 19)) ∧ (∀ j : Nat, (r = 1 → j < 12 → h' 3 j = κ 7 j) ∧ (r = 0 → h' 3 j = κ 3 j)))
set_option maxHeartbeats 4000000 in
set_option maxRecDepth 20000 in
theorem s_X12_undoP {G : Ga} {κ : Hp} (hS : SI κ) (hR : KR κ) (hC : KC κ) : zM G mX12_undo yX12_undo [.inr (.inr 0)] κ (q_X12_undoP κ) := by
  have f22 := KRk hR
  refine zM_of [some (.inr (.inr 0))] 0 rfl rfl (Nat.le_of_ble_eq_true rfl) rfl ?_
  refine zW_aload_n (pc' := 1) dX12_undo_0.1.1.1.1 rfl rfl ?_
  refine zG_int (pc' := 4) fg_X12_457 tb0 rfl dX12_undo_0.1.1.1.2 rfl ?_
  refine zV_if_ne (tgt := 9) (pc' := 7) dX12_undo_0.1.1.2.1 rfl rfl ⟨by omega, by omega⟩ (fun c => ?_) (fun c => ?_)
  rotate_left
  · refine zW_iconst (pc' := 8) dX12_undo_0.1.1.2.2 rfl ?_
    exact zV_zret rfl (by omega) dX12_undo_0.1.2.1.1 ⟨Fm.rf hS hR hC, ⟨Or.inl ⟨by omega, rfl, rfl, rfl, rfl, rfl⟩, ⟨fun _ => rfl, fun q => by omega⟩, fun j => ⟨fun q => by omega, fun _ => rfl⟩⟩⟩
  have hk1 : κ 0 22 = 1 := by omega
  obtain ⟨a0, a1, a2, a3, a4, a5, a6, a7, a8, a9, a10, a11, a12, a13, a14, a15, a16, a17⟩ := hR
  have hR : KR κ := ⟨a0, a1, a2, a3, a4, a5, a6, a7, a8, a9, a10, a11, a12, a13, a14, a15, a16, a17⟩
  obtain ⟨k1, k2, k3, k4, k5, k6, k7, k8⟩ := a10 hk1
  refine zW_aload_n (pc' := 10) dX12_undo_0.1.2.1.2 rfl rfl ?_
  refine zW_aload_n (pc' := 11) dX12_undo_0.1.2.2.1 rfl rfl ?_
  refine zG_int (pc' := 14) fg_X12_460 tb0 rfl dX12_undo_0.1.2.2.2 rfl ?_
  refine zV_puti (pc' := 17) fp_X12_99 tb0 rfl dX12_undo_0.2.1.1.1 rfl ?_
  have hS1 := SI_irr (k := 0) (i := 11) (v := κ 0 16) hS (Or.inl rfl) (fun _ _ => (hS.2.2.2.2 _ _ (by decide) (by decide)))
  generalize e1 : zwr κ 0 11 (κ 0 16) = h1 at hS1 ⊢
  refine zW_aload_n (pc' := 18) dX12_undo_0.2.1.1.2 rfl rfl ?_
  refine zW_aload_n (pc' := 19) dX12_undo_0.2.1.2.1 rfl rfl ?_
  refine zG_int (pc' := 22) fg_X12_463 tb0 rfl dX12_undo_0.2.1.2.2 rfl ?_
  refine zV_puti (pc' := 25) fp_X12_103 tb0 rfl dX12_undo_0.2.2.1.1 rfl ?_
  have hS2 := SI_irr (k := 0) (i := 12) (v := h1 0 17) hS1 (Or.inl rfl) (fun _ _ => (hS1.2.2.2.2 _ _ (by decide) (by decide)))
  generalize e2 : zwr h1 0 12 (h1 0 17) = h2 at hS2 ⊢
  refine zW_aload_n (pc' := 26) dX12_undo_0.2.2.1.2 rfl rfl ?_
  refine zW_aload_n (pc' := 27) dX12_undo_0.2.2.2.1 rfl rfl ?_
  refine zG_int (pc' := 30) fg_X12_466 tb0 rfl dX12_undo_0.2.2.2.2 rfl ?_
  refine zV_puti (pc' := 33) fp_X12_209 tb0 rfl dX12_undo_1.1.1.1.1 rfl ?_
  have hS3 := SI_irr (k := 0) (i := 13) (v := h2 0 18) hS2 (Or.inl rfl) (fun _ _ => (hS2.2.2.2.2 _ _ (by decide) (by decide)))
  generalize e3 : zwr h2 0 13 (h2 0 18) = h3 at hS3 ⊢
  refine zW_aload_n (pc' := 34) dX12_undo_1.1.1.1.2 rfl rfl ?_
  refine zW_aload_n (pc' := 35) dX12_undo_1.1.1.2.1 rfl rfl ?_
  refine zG_int (pc' := 38) fg_X12_469 tb0 rfl dX12_undo_1.1.1.2.2 rfl ?_
  refine zV_puti (pc' := 41) fp_X12_185 tb0 rfl dX12_undo_1.1.2.1.1 rfl ?_
  have hS4 := SI_irr (k := 0) (i := 14) (v := h3 0 19) hS3 (Or.inl rfl) (fun _ _ => (hS3.2.2.2.2 _ _ (by decide) (by decide)))
  generalize e4 : zwr h3 0 14 (h3 0 19) = h4 at hS4 ⊢
  refine zW_aload_n (pc' := 42) dX12_undo_1.1.2.1.2 rfl rfl ?_
  refine zW_aload_n (pc' := 43) dX12_undo_1.1.2.2.1 rfl rfl ?_
  refine zG_int (pc' := 46) fg_X12_472 tb0 rfl dX12_undo_1.1.2.2.2 rfl ?_
  refine zV_puti (pc' := 49) fp_X12_106 tb0 rfl dX12_undo_1.2.1.1.1 rfl ?_
  have hS5 := SI_irr (k := 0) (i := 15) (v := h4 0 20) hS4 (Or.inl rfl) (fun _ _ => (hS4.2.2.2.2 _ _ (by decide) (by decide)))
  generalize e5 : zwr h4 0 15 (h4 0 20) = h5 at hS5 ⊢
  refine zW_aload_n (pc' := 50) dX12_undo_1.2.1.1.2 rfl rfl ?_
  refine zG_ref (pc' := 53) 6 fg_X12_25 tb0 rfl dX12_undo_1.2.1.2.1 rfl ?_
  refine zW_aload_n (pc' := 54) dX12_undo_1.2.1.2.2 rfl rfl ?_
  refine zG_ref (pc' := 57) 1 fg_X12_7 tb0 rfl dX12_undo_1.2.2.1.1 rfl ?_
  refine csV2 (pc' := 60) kX12_copies vX12_copies lk_X12_188 ⟨Nat.le_of_ble_eq_true rfl, Nat.le_of_ble_eq_true rfl⟩ rfl (s_X12_copies tb6 tb1 (by decide) (by decide)) dX12_undo_1.2.2.1.2 (Nat.le_of_ble_eq_true rfl) rfl ?_
  rintro _ h6 e6; replace e6 := e6.symm
  have hS6 : SI h6 := by rw [← e6]; exact SI_cpy hS5 rfl (by decide)
  refine zW_aload_n (pc' := 61) dX12_undo_1.2.2.2.1 rfl rfl ?_
  refine zG_ref (pc' := 64) 11 fg_X12_41 tb0 rfl dX12_undo_1.2.2.2.2 rfl ?_
  refine zW_aload_n (pc' := 65) dX12_undo_2.1.1.1.1 rfl rfl ?_
  refine zG_ref (pc' := 68) 10 fg_X12_37 tb0 rfl dX12_undo_2.1.1.1.2 rfl ?_
  have hb : ∀ i, h6 11 i = 0 ∨ h6 11 i = 1 := fun i => by have q := hR.2.2.2.2.2.2.2.2.2.2.2.2.2.1 i; rw [← e6, cpy_ne (by decide), ← e5, zwr_ne (Or.inl (by decide)), ← e4, zwr_ne (Or.inl (by decide)), ← e3, zwr_ne (Or.inl (by decide)), ← e2, zwr_ne (Or.inl (by decide)), ← e1, zwr_ne (Or.inl (by decide))]; omega
  refine csV2 (pc' := 71) kX12_copiesMarks vX12_copiesMarks lk_X12_475 ⟨Nat.le_of_ble_eq_true rfl, Nat.le_of_ble_eq_true rfl⟩ rfl (s_X12_copiesMarks tb11 tb10 (by decide) (by decide) hb) dX12_undo_2.1.1.2.1 (Nat.le_of_ble_eq_true rfl) rfl ?_
  rintro _ h7 e7; replace e7 := e7.symm
  have hS7 : SI h7 := by rw [← e7]; exact SI_cpy hS6 rfl (by decide)
  refine zW_aload_n (pc' := 72) dX12_undo_2.1.1.2.2 rfl rfl ?_
  refine zG_ref (pc' := 75) 7 fg_X12_28 tb0 rfl dX12_undo_2.1.2.1.1 rfl ?_
  refine zW_aload_n (pc' := 76) dX12_undo_2.1.2.1.2 rfl rfl ?_
  refine zG_ref (pc' := 79) 3 fg_X12_16 tb0 rfl dX12_undo_2.1.2.2.1 rfl ?_
  refine csV2 (pc' := 82) kX12_copies vX12_copies lk_X12_188 ⟨Nat.le_of_ble_eq_true rfl, Nat.le_of_ble_eq_true rfl⟩ rfl (s_X12_copies tb7 tb3 (by decide) (by decide)) dX12_undo_2.1.2.2.2 (Nat.le_of_ble_eq_true rfl) rfl ?_
  rintro _ h8 e8; replace e8 := e8.symm
  have hS8 : SI h8 := by rw [← e8]; exact SI_cpy hS7 rfl (by decide)
  refine zW_aload_n (pc' := 83) dX12_undo_2.2.1.1.1 rfl rfl ?_
  refine zG_ref (pc' := 86) 8 fg_X12_31 tb0 rfl dX12_undo_2.2.1.1.2 rfl ?_
  refine zW_aload_n (pc' := 87) dX12_undo_2.2.1.2.1 rfl rfl ?_
  refine zG_ref (pc' := 90) 4 fg_X12_19 tb0 rfl dX12_undo_2.2.1.2.2 rfl ?_
  refine csV2 (pc' := 93) kX12_copies vX12_copies lk_X12_188 ⟨Nat.le_of_ble_eq_true rfl, Nat.le_of_ble_eq_true rfl⟩ rfl (s_X12_copies tb8 tb4 (by decide) (by decide)) dX12_undo_2.2.2.1.1 (Nat.le_of_ble_eq_true rfl) rfl ?_
  rintro _ h9 e9; replace e9 := e9.symm
  have hS9 : SI h9 := by rw [← e9]; exact SI_cpy hS8 rfl (by decide)
  refine zW_aload_n (pc' := 94) dX12_undo_2.2.2.1.2 rfl rfl ?_
  refine zG_ref (pc' := 97) 9 fg_X12_34 tb0 rfl dX12_undo_2.2.2.2.1 rfl ?_
  refine zW_aload_n (pc' := 98) dX12_undo_2.2.2.2.2 rfl rfl ?_
  refine zG_ref (pc' := 101) 5 fg_X12_22 tb0 rfl dX12_undo_3.1.1.1 rfl ?_
  refine csV2 (pc' := 104) kX12_copies vX12_copies lk_X12_188 ⟨Nat.le_of_ble_eq_true rfl, Nat.le_of_ble_eq_true rfl⟩ rfl (s_X12_copies tb9 tb5 (by decide) (by decide)) dX12_undo_3.1.1.2 (Nat.le_of_ble_eq_true rfl) rfl ?_
  rintro _ h10 e10; replace e10 := e10.symm
  have hS10 : SI h10 := by rw [← e10]; exact SI_cpy hS9 rfl (by decide)
  refine zW_aload_n (pc' := 105) dX12_undo_3.1.2 rfl rfl ?_
  have fr : ∀ k i, inW [(0, 11), (0, 12), (0, 13), (0, 14), (0, 15), (1, 999), (3, 999), (4, 999), (5, 999), (10, 999), (0, 21)] k i = false → h10 k i = κ k i := fun k i hl => by rw [← e10, cpy_ne (inW_nc (L := [(0, 11), (0, 12), (0, 13), (0, 14), (0, 15), (1, 999), (3, 999), (4, 999), (5, 999), (10, 999), (0, 21)]) (c := 5) rfl hl), ← e9, cpy_ne (inW_nc (L := [(0, 11), (0, 12), (0, 13), (0, 14), (0, 15), (1, 999), (3, 999), (4, 999), (5, 999), (10, 999), (0, 21)]) (c := 4) rfl hl), ← e8, cpy_ne (inW_nc (L := [(0, 11), (0, 12), (0, 13), (0, 14), (0, 15), (1, 999), (3, 999), (4, 999), (5, 999), (10, 999), (0, 21)]) (c := 3) rfl hl), ← e7, cpy_ne (inW_nc (L := [(0, 11), (0, 12), (0, 13), (0, 14), (0, 15), (1, 999), (3, 999), (4, 999), (5, 999), (10, 999), (0, 21)]) (c := 10) rfl hl), ← e6, cpy_ne (inW_nc (L := [(0, 11), (0, 12), (0, 13), (0, 14), (0, 15), (1, 999), (3, 999), (4, 999), (5, 999), (10, 999), (0, 21)]) (c := 1) rfl hl), ← e5, zwr_ne (inW_ne (L := [(0, 11), (0, 12), (0, 13), (0, 14), (0, 15), (1, 999), (3, 999), (4, 999), (5, 999), (10, 999), (0, 21)]) (k := 0) (i := 15) rfl hl), ← e4, zwr_ne (inW_ne (L := [(0, 11), (0, 12), (0, 13), (0, 14), (0, 15), (1, 999), (3, 999), (4, 999), (5, 999), (10, 999), (0, 21)]) (k := 0) (i := 14) rfl hl), ← e3, zwr_ne (inW_ne (L := [(0, 11), (0, 12), (0, 13), (0, 14), (0, 15), (1, 999), (3, 999), (4, 999), (5, 999), (10, 999), (0, 21)]) (k := 0) (i := 13) rfl hl), ← e2, zwr_ne (inW_ne (L := [(0, 11), (0, 12), (0, 13), (0, 14), (0, 15), (1, 999), (3, 999), (4, 999), (5, 999), (10, 999), (0, 21)]) (k := 0) (i := 12) rfl hl), ← e1, zwr_ne (inW_ne (L := [(0, 11), (0, 12), (0, 13), (0, 14), (0, 15), (1, 999), (3, 999), (4, 999), (5, 999), (10, 999), (0, 21)]) (k := 0) (i := 11) rfl hl)]
  have hCf : KC h10 := KC_low hC (fun k i hk => fr k i (by unfold inW; simp [List.any_cons]; omega))
  have g11 : h10 0 11 = κ 0 16 := by rw [← e10, cpy_ne (by decide), ← e9, cpy_ne (by decide), ← e8, cpy_ne (by decide), ← e7, cpy_ne (by decide), ← e6, cpy_ne (by decide), ← e5, zwr_ne (Or.inr (by decide)), ← e4, zwr_ne (Or.inr (by decide)), ← e3, zwr_ne (Or.inr (by decide)), ← e2, zwr_ne (Or.inr (by decide)), ← e1, zwr_eq]
  have g12 : h10 0 12 = κ 0 17 := by rw [← e10, cpy_ne (by decide), ← e9, cpy_ne (by decide), ← e8, cpy_ne (by decide), ← e7, cpy_ne (by decide), ← e6, cpy_ne (by decide), ← e5, zwr_ne (Or.inr (by decide)), ← e4, zwr_ne (Or.inr (by decide)), ← e3, zwr_ne (Or.inr (by decide)), ← e2, zwr_eq, ← e1, zwr_ne (Or.inr (by decide))]
  have g13 : h10 0 13 = κ 0 18 := by rw [← e10, cpy_ne (by decide), ← e9, cpy_ne (by decide), ← e8, cpy_ne (by decide), ← e7, cpy_ne (by decide), ← e6, cpy_ne (by decide), ← e5, zwr_ne (Or.inr (by decide)), ← e4, zwr_ne (Or.inr (by decide)), ← e3, zwr_eq, ← e2, zwr_ne (Or.inr (by decide)), ← e1, zwr_ne (Or.inr (by decide))]
  have g14 : h10 0 14 = κ 0 19 := by rw [← e10, cpy_ne (by decide), ← e9, cpy_ne (by decide), ← e8, cpy_ne (by decide), ← e7, cpy_ne (by decide), ← e6, cpy_ne (by decide), ← e5, zwr_ne (Or.inr (by decide)), ← e4, zwr_eq, ← e3, zwr_ne (Or.inr (by decide)), ← e2, zwr_ne (Or.inr (by decide)), ← e1, zwr_ne (Or.inr (by decide))]
  have g15 : h10 0 15 = κ 0 20 := by rw [← e10, cpy_ne (by decide), ← e9, cpy_ne (by decide), ← e8, cpy_ne (by decide), ← e7, cpy_ne (by decide), ← e6, cpy_ne (by decide), ← e5, zwr_eq, ← e4, zwr_ne (Or.inr (by decide)), ← e3, zwr_ne (Or.inr (by decide)), ← e2, zwr_ne (Or.inr (by decide)), ← e1, zwr_ne (Or.inr (by decide))]
  have g16 : h10 0 16 = κ 0 16 := by rw [← e10, cpy_ne (by decide), ← e9, cpy_ne (by decide), ← e8, cpy_ne (by decide), ← e7, cpy_ne (by decide), ← e6, cpy_ne (by decide), ← e5, zwr_ne (Or.inr (by decide)), ← e4, zwr_ne (Or.inr (by decide)), ← e3, zwr_ne (Or.inr (by decide)), ← e2, zwr_ne (Or.inr (by decide)), ← e1, zwr_ne (Or.inr (by decide))]
  have g17 : h10 0 17 = κ 0 17 := by rw [← e10, cpy_ne (by decide), ← e9, cpy_ne (by decide), ← e8, cpy_ne (by decide), ← e7, cpy_ne (by decide), ← e6, cpy_ne (by decide), ← e5, zwr_ne (Or.inr (by decide)), ← e4, zwr_ne (Or.inr (by decide)), ← e3, zwr_ne (Or.inr (by decide)), ← e2, zwr_ne (Or.inr (by decide)), ← e1, zwr_ne (Or.inr (by decide))]
  have g18 : h10 0 18 = κ 0 18 := by rw [← e10, cpy_ne (by decide), ← e9, cpy_ne (by decide), ← e8, cpy_ne (by decide), ← e7, cpy_ne (by decide), ← e6, cpy_ne (by decide), ← e5, zwr_ne (Or.inr (by decide)), ← e4, zwr_ne (Or.inr (by decide)), ← e3, zwr_ne (Or.inr (by decide)), ← e2, zwr_ne (Or.inr (by decide)), ← e1, zwr_ne (Or.inr (by decide))]
  have g19 : h10 0 19 = κ 0 19 := by rw [← e10, cpy_ne (by decide), ← e9, cpy_ne (by decide), ← e8, cpy_ne (by decide), ← e7, cpy_ne (by decide), ← e6, cpy_ne (by decide), ← e5, zwr_ne (Or.inr (by decide)), ← e4, zwr_ne (Or.inr (by decide)), ← e3, zwr_ne (Or.inr (by decide)), ← e2, zwr_ne (Or.inr (by decide)), ← e1, zwr_ne (Or.inr (by decide))]
  have g20 : h10 0 20 = κ 0 20 := by rw [← e10, cpy_ne (by decide), ← e9, cpy_ne (by decide), ← e8, cpy_ne (by decide), ← e7, cpy_ne (by decide), ← e6, cpy_ne (by decide), ← e5, zwr_ne (Or.inr (by decide)), ← e4, zwr_ne (Or.inr (by decide)), ← e3, zwr_ne (Or.inr (by decide)), ← e2, zwr_ne (Or.inr (by decide)), ← e1, zwr_ne (Or.inr (by decide))]
  have g21 : h10 0 21 = κ 0 21 := by rw [← e10, cpy_ne (by decide), ← e9, cpy_ne (by decide), ← e8, cpy_ne (by decide), ← e7, cpy_ne (by decide), ← e6, cpy_ne (by decide), ← e5, zwr_ne (Or.inr (by decide)), ← e4, zwr_ne (Or.inr (by decide)), ← e3, zwr_ne (Or.inr (by decide)), ← e2, zwr_ne (Or.inr (by decide)), ← e1, zwr_ne (Or.inr (by decide))]
  have g22 : h10 0 22 = κ 0 22 := by rw [← e10, cpy_ne (by decide), ← e9, cpy_ne (by decide), ← e8, cpy_ne (by decide), ← e7, cpy_ne (by decide), ← e6, cpy_ne (by decide), ← e5, zwr_ne (Or.inr (by decide)), ← e4, zwr_ne (Or.inr (by decide)), ← e3, zwr_ne (Or.inr (by decide)), ← e2, zwr_ne (Or.inr (by decide)), ← e1, zwr_ne (Or.inr (by decide))]
  have g25 : h10 0 25 = κ 0 25 := by rw [← e10, cpy_ne (by decide), ← e9, cpy_ne (by decide), ← e8, cpy_ne (by decide), ← e7, cpy_ne (by decide), ← e6, cpy_ne (by decide), ← e5, zwr_ne (Or.inr (by decide)), ← e4, zwr_ne (Or.inr (by decide)), ← e3, zwr_ne (Or.inr (by decide)), ← e2, zwr_ne (Or.inr (by decide)), ← e1, zwr_ne (Or.inr (by decide))]
  have c3 : ∀ j, j < 12 → h10 3 j = κ 7 j := fun j hj => by rw [← e10, cpy_ne (by decide), ← e9, cpy_ne (by decide), ← e8, cpy_in hj, ← e7, cpy_ne (by decide), ← e6, cpy_ne (by decide), ← e5, zwr_ne (Or.inl (by decide)), ← e4, zwr_ne (Or.inl (by decide)), ← e3, zwr_ne (Or.inl (by decide)), ← e2, zwr_ne (Or.inl (by decide)), ← e1, zwr_ne (Or.inl (by decide))]
  have o3 : ∀ j, 12 ≤ j → h10 3 j = κ 3 j := fun j hj => by rw [← e10, cpy_ne (by decide), ← e9, cpy_ne (by decide), ← e8, cpy_out hj, ← e7, cpy_ne (by decide), ← e6, cpy_ne (by decide), ← e5, zwr_ne (Or.inl (by decide)), ← e4, zwr_ne (Or.inl (by decide)), ← e3, zwr_ne (Or.inl (by decide)), ← e2, zwr_ne (Or.inl (by decide)), ← e1, zwr_ne (Or.inl (by decide))]
  have c4 : ∀ j, j < 13 → h10 4 j = κ 8 j := fun j hj => by rw [← e10, cpy_ne (by decide), ← e9, cpy_in hj, ← e8, cpy_ne (by decide), ← e7, cpy_ne (by decide), ← e6, cpy_ne (by decide), ← e5, zwr_ne (Or.inl (by decide)), ← e4, zwr_ne (Or.inl (by decide)), ← e3, zwr_ne (Or.inl (by decide)), ← e2, zwr_ne (Or.inl (by decide)), ← e1, zwr_ne (Or.inl (by decide))]
  have o4 : ∀ j, 13 ≤ j → h10 4 j = κ 4 j := fun j hj => by rw [← e10, cpy_ne (by decide), ← e9, cpy_out hj, ← e8, cpy_ne (by decide), ← e7, cpy_ne (by decide), ← e6, cpy_ne (by decide), ← e5, zwr_ne (Or.inl (by decide)), ← e4, zwr_ne (Or.inl (by decide)), ← e3, zwr_ne (Or.inl (by decide)), ← e2, zwr_ne (Or.inl (by decide)), ← e1, zwr_ne (Or.inl (by decide))]
  have c5 : ∀ j, j < 130 → h10 5 j = κ 9 j := fun j hj => by rw [← e10, cpy_in hj, ← e9, cpy_ne (by decide), ← e8, cpy_ne (by decide), ← e7, cpy_ne (by decide), ← e6, cpy_ne (by decide), ← e5, zwr_ne (Or.inl (by decide)), ← e4, zwr_ne (Or.inl (by decide)), ← e3, zwr_ne (Or.inl (by decide)), ← e2, zwr_ne (Or.inl (by decide)), ← e1, zwr_ne (Or.inl (by decide))]
  have o5 : ∀ j, 130 ≤ j → h10 5 j = κ 5 j := fun j hj => by rw [← e10, cpy_out hj, ← e9, cpy_ne (by decide), ← e8, cpy_ne (by decide), ← e7, cpy_ne (by decide), ← e6, cpy_ne (by decide), ← e5, zwr_ne (Or.inl (by decide)), ← e4, zwr_ne (Or.inl (by decide)), ← e3, zwr_ne (Or.inl (by decide)), ← e2, zwr_ne (Or.inl (by decide)), ← e1, zwr_ne (Or.inl (by decide))]
  have c7 : h10 7 = κ 7 := funext fun j => by rw [← e10, cpy_ne (by decide), ← e9, cpy_ne (by decide), ← e8, cpy_ne (by decide), ← e7, cpy_ne (by decide), ← e6, cpy_ne (by decide), ← e5, zwr_ne (Or.inl (by decide)), ← e4, zwr_ne (Or.inl (by decide)), ← e3, zwr_ne (Or.inl (by decide)), ← e2, zwr_ne (Or.inl (by decide)), ← e1, zwr_ne (Or.inl (by decide))]
  have c8 : h10 8 = κ 8 := funext fun j => by rw [← e10, cpy_ne (by decide), ← e9, cpy_ne (by decide), ← e8, cpy_ne (by decide), ← e7, cpy_ne (by decide), ← e6, cpy_ne (by decide), ← e5, zwr_ne (Or.inl (by decide)), ← e4, zwr_ne (Or.inl (by decide)), ← e3, zwr_ne (Or.inl (by decide)), ← e2, zwr_ne (Or.inl (by decide)), ← e1, zwr_ne (Or.inl (by decide))]
  have c9 : h10 9 = κ 9 := funext fun j => by rw [← e10, cpy_ne (by decide), ← e9, cpy_ne (by decide), ← e8, cpy_ne (by decide), ← e7, cpy_ne (by decide), ← e6, cpy_ne (by decide), ← e5, zwr_ne (Or.inl (by decide)), ← e4, zwr_ne (Or.inl (by decide)), ← e3, zwr_ne (Or.inl (by decide)), ← e2, zwr_ne (Or.inl (by decide)), ← e1, zwr_ne (Or.inl (by decide))]
  have c10 : ∀ j, j < 256 → h10 10 j = κ 11 j := fun j hj => by rw [← e10, cpy_ne (by decide), ← e9, cpy_ne (by decide), ← e8, cpy_ne (by decide), ← e7, cpy_in hj, ← e6, cpy_ne (by decide), ← e5, zwr_ne (Or.inl (by decide)), ← e4, zwr_ne (Or.inl (by decide)), ← e3, zwr_ne (Or.inl (by decide)), ← e2, zwr_ne (Or.inl (by decide)), ← e1, zwr_ne (Or.inl (by decide))]
  have o10 : ∀ j, 256 ≤ j → h10 10 j = κ 10 j := fun j hj => by rw [← e10, cpy_ne (by decide), ← e9, cpy_ne (by decide), ← e8, cpy_ne (by decide), ← e7, cpy_out hj, ← e6, cpy_ne (by decide), ← e5, zwr_ne (Or.inl (by decide)), ← e4, zwr_ne (Or.inl (by decide)), ← e3, zwr_ne (Or.inl (by decide)), ← e2, zwr_ne (Or.inl (by decide)), ← e1, zwr_ne (Or.inl (by decide))]
  have c11 : h10 11 = κ 11 := funext fun j => by rw [← e10, cpy_ne (by decide), ← e9, cpy_ne (by decide), ← e8, cpy_ne (by decide), ← e7, cpy_ne (by decide), ← e6, cpy_ne (by decide), ← e5, zwr_ne (Or.inl (by decide)), ← e4, zwr_ne (Or.inl (by decide)), ← e3, zwr_ne (Or.inl (by decide)), ← e2, zwr_ne (Or.inl (by decide)), ← e1, zwr_ne (Or.inl (by decide))]
  have c14 : h10 14 = κ 14 := funext fun j => by rw [← e10, cpy_ne (by decide), ← e9, cpy_ne (by decide), ← e8, cpy_ne (by decide), ← e7, cpy_ne (by decide), ← e6, cpy_ne (by decide), ← e5, zwr_ne (Or.inl (by decide)), ← e4, zwr_ne (Or.inl (by decide)), ← e3, zwr_ne (Or.inl (by decide)), ← e2, zwr_ne (Or.inl (by decide)), ← e1, zwr_ne (Or.inl (by decide))]
  have c15 : h10 15 = κ 15 := funext fun j => by rw [← e10, cpy_ne (by decide), ← e9, cpy_ne (by decide), ← e8, cpy_ne (by decide), ← e7, cpy_ne (by decide), ← e6, cpy_ne (by decide), ← e5, zwr_ne (Or.inl (by decide)), ← e4, zwr_ne (Or.inl (by decide)), ← e3, zwr_ne (Or.inl (by decide)), ← e2, zwr_ne (Or.inl (by decide)), ← e1, zwr_ne (Or.inl (by decide))]
  have hRf : KR h10 := by
    unfold KR
    rw [g11, g12, g13, g14, g15, g16, g17, g18, g19, g20, g21, g22, g25, c7, c8, c9, c11, c14, c15]
    refine ⟨k1, k2, k3, k4, k5, a5, (bd2 c4 o4 k6 a6), ?_, a8, a9, a10, (bd2 c5 o5 k8 a11), (bd2 c10 o10 a13 a12), a13, a14, a15, a16, a17⟩
    exact k7.cong3 k4.2 c3 c4 c5
  have hFf : Fm [(0, 11), (0, 12), (0, 13), (0, 14), (0, 15), (1, 999), (3, 999), (4, 999), (5, 999), (10, 999), (0, 21)] κ h10 := ⟨fun k i _ hl => fr k i hl, hS10, hRf, hCf⟩
  refine cvV0 (pc' := 108) kX12_changed vX12_changed lk_X12_215 ⟨Nat.le_of_ble_eq_true rfl, Nat.le_of_ble_eq_true rfl⟩ tb0 vq12 rfl rfl (s_X12_changed hS10 hRf hCf) dX12_undo_3.2.1.1 (Nat.le_of_ble_eq_true rfl) rfl ?_
  rintro r h ⟨hF1, -⟩
  refine zW_iconst (pc' := 109) dX12_undo_3.2.1.2 rfl ?_
  exact zV_zret rfl (by omega) dX12_undo_3.2.2 ⟨hFf.tr hF1 rfl, ⟨Or.inr ⟨hk1, rfl, (hF1.1 0 11 rfl rfl).trans g11, (hF1.1 0 12 rfl rfl).trans g12, (hF1.1 0 13 rfl rfl).trans g13, (hF1.1 0 15 rfl rfl).trans g15⟩, ⟨fun q => by omega, fun _ => (hF1.1 0 14 rfl rfl).trans g14⟩, fun j => ⟨fun _ hj => (hF1.1 3 j rfl rfl).trans (c3 j hj), fun q => by omega⟩⟩⟩
