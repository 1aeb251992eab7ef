/-! the text, read -/
def hr (t : Nat → Int) (n p : Int) : Int := if 0 ≤ p ∧ p < n then t p.toNat else -1
theorem hr_cong {t t' : Nat → Int} {n : Int} (h : ∀ j : Nat, (j : Int) < n → t j = t' j) : hr t n = hr t' n := by
  funext p
  unfold hr
  by_cases c : 0 ≤ p ∧ p < n
  · rw [if_pos c, if_pos c]; exact h _ (by omega)
  · rw [if_neg c, if_neg c]
def sF (g : Int → Int) (p c : Int) : Int := if g p = c then 0 else -1000 - p
theorem sFc (g : Int → Int) (p c : Int) : (g p = c ∧ sF g p c = 0) ∨ (g p ≠ c ∧ sF g p c = -1000 - p) := by
  unfold sF
  by_cases h : g p = c
  · exact Or.inl ⟨h, if_pos h⟩
  · exact Or.inr ⟨h, if_neg h⟩
def nD (g : Int → Int) (p : Int) : Int := if (48 ≤ g p ∧ g p ≤ 57) then (if (48 ≤ g (p + 1) ∧ g (p + 1) ≤ 57) then (if (48 ≤ g (p + 2) ∧ g (p + 2) ≤ 57) then (if (48 ≤ g (p + 3) ∧ g (p + 3) ≤ 57) then 4 else 3) else 2) else 1) else 0
def nV (g : Int → Int) (p : Int) : Int := if nD g p = 0 then 0 else if nD g p = 1 then g p - 48 else if nD g p = 2 then 10 * (g p - 48) + (g (p + 1) - 48) else 10 * (10 * (g p - 48) + (g (p + 1) - 48)) + (g (p + 2) - 48)
theorem nDc (g : Int → Int) (p : Int) : (nD g p = 0 ∧ ¬ (48 ≤ g p ∧ g p ≤ 57) ∧ nV g p = 0) ∨ (nD g p = 1 ∧ (48 ≤ g p ∧ g p ≤ 57) ∧ ¬ (48 ≤ g (p + 1) ∧ g (p + 1) ≤ 57) ∧ nV g p = g p - 48) ∨ (nD g p = 2 ∧ (48 ≤ g p ∧ g p ≤ 57) ∧ (48 ≤ g (p + 1) ∧ g (p + 1) ≤ 57) ∧ ¬ (48 ≤ g (p + 2) ∧ g (p + 2) ≤ 57) ∧ nV g p = 10 * (g p - 48) + (g (p + 1) - 48)) ∨ (nD g p = 3 ∧ (48 ≤ g p ∧ g p ≤ 57) ∧ (48 ≤ g (p + 1) ∧ g (p + 1) ≤ 57) ∧ (48 ≤ g (p + 2) ∧ g (p + 2) ≤ 57) ∧ ¬ (48 ≤ g (p + 3) ∧ g (p + 3) ≤ 57) ∧ nV g p = 10 * (10 * (g p - 48) + (g (p + 1) - 48)) + (g (p + 2) - 48)) ∨ (nD g p = 4 ∧ (48 ≤ g p ∧ g p ≤ 57) ∧ (48 ≤ g (p + 1) ∧ g (p + 1) ≤ 57) ∧ (48 ≤ g (p + 2) ∧ g (p + 2) ≤ 57) ∧ (48 ≤ g (p + 3) ∧ g (p + 3) ≤ 57) ∧ nV g p = 10 * (10 * (g p - 48) + (g (p + 1) - 48)) + (g (p + 2) - 48)) := by
  by_cases h0 : (48 ≤ g p ∧ g p ≤ 57)
  · by_cases h1 : (48 ≤ g (p + 1) ∧ g (p + 1) ≤ 57)
    · by_cases h2 : (48 ≤ g (p + 2) ∧ g (p + 2) ≤ 57)
      · by_cases h3 : (48 ≤ g (p + 3) ∧ g (p + 3) ≤ 57)
        · have e : nD g p = 4 := by unfold nD; rw [if_pos h0, if_pos h1, if_pos h2, if_pos h3]
          refine Or.inr (Or.inr (Or.inr (Or.inr (⟨e, h0, h1, h2, h3, ?_⟩))))
          unfold nV; rw [e]; rfl
        · have e : nD g p = 3 := by unfold nD; rw [if_pos h0, if_pos h1, if_pos h2, if_neg h3]
          refine Or.inr (Or.inr (Or.inr (Or.inl (⟨e, h0, h1, h2, h3, ?_⟩))))
          unfold nV; rw [e]; rfl
      · have e : nD g p = 2 := by unfold nD; rw [if_pos h0, if_pos h1, if_neg h2]
        refine Or.inr (Or.inr (Or.inl (⟨e, h0, h1, h2, ?_⟩)))
        unfold nV; rw [e]; rfl
    · have e : nD g p = 1 := by unfold nD; rw [if_pos h0, if_neg h1]
      refine Or.inr (Or.inl (⟨e, h0, h1, ?_⟩))
      unfold nV; rw [e]; rfl
  · have e : nD g p = 0 := by unfold nD; rw [if_neg h0]
    refine Or.inl (⟨e, h0, ?_⟩)
    unfold nV; rw [e]; rfl
def nF (g : Int → Int) (p a b : Int) : Int := if nD g p = 0 then -1000 - p else if nD g p = 4 then -2003 - p else if a ≤ nV g p ∧ nV g p ≤ b then 0 else -3000 - p
theorem nFc (g : Int → Int) (p a b : Int) : (nD g p = 0 ∧ nF g p a b = -1000 - p) ∨ (nD g p = 4 ∧ nF g p a b = -2003 - p) ∨ (nD g p ≠ 0 ∧ nD g p ≠ 4 ∧ (a ≤ nV g p ∧ nV g p ≤ b) ∧ nF g p a b = 0) ∨ (nD g p ≠ 0 ∧ nD g p ≠ 4 ∧ ¬ (a ≤ nV g p ∧ nV g p ≤ b) ∧ nF g p a b = -3000 - p) := by
  unfold nF
  by_cases h0 : nD g p = 0
  · exact Or.inl ⟨h0, if_pos h0⟩
  by_cases h4 : nD g p = 4
  · exact Or.inr (Or.inl ⟨h4, by rw [if_neg h0, if_pos h4]⟩)
  by_cases h : a ≤ nV g p ∧ nV g p ≤ b
  · exact Or.inr (Or.inr (Or.inl ⟨h0, h4, h, by rw [if_neg h0, if_neg h4, if_pos h]⟩))
  · exact Or.inr (Or.inr (Or.inr ⟨h0, h4, h, by rw [if_neg h0, if_neg h4, if_neg h]⟩))
/-- the first digits, as a number; they are digits -/
def nVk (g : Int → Int) (p : Int) : Nat → Int
  | 0 => 0
  | k + 1 => 10 * nVk g p k + (g (p + k) - 48)
def DG (g : Int → Int) (p v : Int) : Prop := ∀ i : Nat, (i : Int) < v → 48 ≤ g (p + i) ∧ g (p + i) ≤ 57
theorem nVk_s {g : Int → Int} {p v : Int} (h : 0 ≤ v) : nVk g p (v + 1).toNat = 10 * nVk g p v.toNat + (g (p + v) - 48) := by
  rw [show (v + 1).toNat = v.toNat + 1 by omega]
  show 10 * nVk g p v.toNat + (g (p + ((v.toNat : Nat) : Int)) - 48) = _
  rw [show ((v.toNat : Nat) : Int) = v by omega]
theorem DG_0 {g : Int → Int} {p : Int} : DG g p 0 := fun i hi => by omega
theorem DG_s {g : Int → Int} {p v : Int} (h : DG g p v) (hd : 48 ≤ g (p + v) ∧ g (p + v) ≤ 57) : DG g p (v + 1) := fun i hi => by
  by_cases e : (i : Int) = v
  · rw [e]; exact hd
  · exact h i (by omega)
theorem nVk_1 {g : Int → Int} {p : Int} : nVk g p 1 = g p - 48 := by
  show 10 * 0 + (g (p + ((0 : Nat) : Int)) - 48) = _
  rw [show p + ((0 : Nat) : Int) = p by omega]
  omega
theorem nVk_2 {g : Int → Int} {p : Int} : nVk g p 2 = 10 * (g p - 48) + (g (p + 1) - 48) := by
  show 10 * nVk g p 1 + (g (p + 1) - 48) = _
  rw [nVk_1]
theorem nVk_3 {g : Int → Int} {p : Int} : nVk g p 3 = 10 * (10 * (g p - 48) + (g (p + 1) - 48)) + (g (p + 2) - 48) := by
  show 10 * nVk g p 2 + (g (p + 2) - 48) = _
  rw [nVk_2]
theorem DG_p {g : Int → Int} {p v : Int} (h : DG g p v) : (1 ≤ v → 48 ≤ g p ∧ g p ≤ 57) ∧ (2 ≤ v → 48 ≤ g (p + 1) ∧ g (p + 1) ≤ 57) ∧ (3 ≤ v → 48 ≤ g (p + 2) ∧ g (p + 2) ≤ 57) := by
  refine ⟨fun l => ?_, fun l => h 1 (by omega), fun l => h 2 (by omega)⟩
  have z := h 0 (by omega)
  rwa [show p + ((0 : Nat) : Int) = p by omega] at z
theorem nVk_b {g : Int → Int} {p v : Int} (h : DG g p v) (hv : 0 ≤ v ∧ v ≤ 2) : 0 ≤ nVk g p v.toNat ∧ nVk g p v.toNat ≤ 99 := by
  have d := DG_p h
  rcases (by omega : v = 0 ∨ v = 1 ∨ v = 2) with rfl | rfl | rfl
  · show (0 : Int) ≤ 0 ∧ (0 : Int) ≤ 99
    exact ⟨by decide, by decide⟩
  · show 0 ≤ nVk g p 1 ∧ nVk g p 1 ≤ 99
    rw [nVk_1]; omega
  · show 0 ≤ nVk g p 2 ∧ nVk g p 2 ≤ 99
    rw [nVk_2]; omega
theorem nD_end {g : Int → Int} {p v : Int} (hv : 0 ≤ v ∧ v ≤ 3) (h : DG g p v) (hn : ¬ (48 ≤ g (p + v) ∧ g (p + v) ≤ 57)) : nD g p = v ∧ nV g p = nVk g p v.toNat := by
  have d := DG_p h
  rcases (by omega : v = 0 ∨ v = 1 ∨ v = 2 ∨ v = 3) with rfl | rfl | rfl | rfl
  · rw [Int.add_zero] at hn
    have e : nD g p = 0 := by unfold nD; rw [if_neg hn]
    exact ⟨e, by unfold nV; rw [e]; rfl⟩
  · have e : nD g p = 1 := by unfold nD; rw [if_pos (d.1 (by decide)), if_neg hn]
    exact ⟨e, by show nV g p = nVk g p 1; rw [nVk_1]; unfold nV; rw [e]; rfl⟩
  · have e : nD g p = 2 := by unfold nD; rw [if_pos (d.1 (by decide)), if_pos (d.2.1 (by decide)), if_neg hn]
    exact ⟨e, by show nV g p = nVk g p 2; rw [nVk_2]; unfold nV; rw [e]; rfl⟩
  · have e : nD g p = 3 := by unfold nD; rw [if_pos (d.1 (by decide)), if_pos (d.2.1 (by decide)), if_pos (d.2.2 (by decide)), if_neg hn]
    exact ⟨e, by show nV g p = nVk g p 3; rw [nVk_3]; unfold nV; rw [e]; rfl⟩
theorem nD_4 {g : Int → Int} {p : Int} (h : DG g p 3) (hd : 48 ≤ g (p + 3) ∧ g (p + 3) ≤ 57) : nD g p = 4 := by
  have d := DG_p h
  unfold nD
  rw [if_pos (d.1 (by decide)), if_pos (d.2.1 (by decide)), if_pos (d.2.2 (by decide)), if_pos hd]
theorem nDp (g : Int → Int) (p : Int) : 0 ≤ nD g p ∧ nD g p ≤ 4 := by
  rcases nDc g p with h | h | h | h | h <;> (rw [h.1]; decide)
theorem nFz {g : Int → Int} {p a b : Int} (h : nF g p a b = 0) (hp : 0 ≤ p) : (1 ≤ nD g p ∧ nD g p ≤ 3) ∧ a ≤ nV g p ∧ nV g p ≤ b := by
  have h1 := nDp g p
  have h2 := nFc g p a b
  omega
theorem nFn {g : Int → Int} {p a b : Int} (hp : 0 ≤ p) : nF g p a b ≤ 0 := by
  have h2 := nFc g p a b
  omega
theorem sFn {g : Int → Int} {p c : Int} (hp : 0 ≤ p) : sF g p c ≤ 0 := by
  have h2 := sFc g p c
  omega
def sq (a b : Int) : Int := if a = 0 then b else a
theorem sqc (a b : Int) : (a ≠ 0 ∧ sq a b = a) ∨ (a = 0 ∧ sq a b = b) := by
  unfold sq
  by_cases h : a = 0
  · exact Or.inr ⟨h, if_pos h⟩
  · exact Or.inl ⟨h, if_neg h⟩
theorem sq_z {a b : Int} (h : a = 0) : sq a b = b := if_pos h
theorem sq_m {a b : Int} (h : a ≠ 0) : sq a b = a := if_neg h
theorem sq_0l {a b : Int} (h : sq a b = 0) : a = 0 := by
  have := sqc a b
  omega
theorem sq_0r {a b : Int} (h : sq a b = 0) : b = 0 := by
  have := sqc a b
  omega
theorem sq_as {a b c : Int} : sq (sq a b) c = sq a (sq b c) := by
  by_cases h : a = 0
  · rw [sq_z h, sq_z h]
  · rw [sq_m h, sq_m h, sq_m h]
/-- a point of a curve from a place on -/
def pqF (g : Int → Int) (p a b : Int) : Int := sq (sq (nF g p a b) (sF g (p + nD g p) 62)) (nF g (p + nD g p + 1) 0 255)
def pqE (g : Int → Int) (p : Int) : Int := p + nD g p + 1 + nD g (p + nD g p + 1)
def ptF (g : Int → Int) (p x : Int) : Int := if x = -1 then pqF g p 0 0 else sq (sF g p 44) (pqF g (p + 1) (x + 1) 255)
def ptX (g : Int → Int) (p x : Int) : Int := if x = -1 then nV g p else nV g (p + 1)
def ptE (g : Int → Int) (p x : Int) : Int := if x = -1 then pqE g p else pqE g (p + 1)
def cuF (g : Int → Int) : Nat → Int → Int → Int
  | 0, _, _ => 0
  | k + 1, p, x => if ptF g p x = 0 then (if ptX g p x = 255 then 0 else cuF g k (ptE g p x) (ptX g p x)) else ptF g p x
def cuE (g : Int → Int) : Nat → Int → Int → Int
  | 0, p, _ => p
  | k + 1, p, x => if ptX g p x = 255 then ptE g p x else cuE g k (ptE g p x) (ptX g p x)
/-- the curve from p on is, what it is from q on behind x -/
def CuI (g : Int → Int) (p q x : Int) : Prop := (x = 255 ∧ cuF g 200 p (-1) = 0 ∧ cuE g 200 p (-1) = q) ∨ (x ≠ 255 ∧ ∃ k : Nat, 190 - q < k ∧ cuF g 200 p (-1) = cuF g k q x ∧ cuE g 200 p (-1) = cuE g k q x)
theorem CuI.rf {g : Int → Int} {p : Int} (hp : 0 ≤ p) : CuI g p p (-1) := Or.inr ⟨by decide, 200, by omega, rfl, rfl⟩
theorem CuI.bad {g : Int → Int} {p q x : Int} (h : CuI g p q x) (hx : x ≠ 255) (hq : q ≤ 190) (hf : ptF g q x ≠ 0) : cuF g 200 p (-1) = ptF g q x := by
  rcases h with ⟨a, -, -⟩ | ⟨-, k, k1, k2, -⟩
  · exact absurd a hx
  · obtain ⟨m, rfl⟩ : ∃ m, k = m + 1 := ⟨k - 1, by omega⟩
    rw [k2]
    show (if ptF g q x = 0 then _ else ptF g q x) = ptF g q x
    rw [if_neg hf]
theorem CuI.step {g : Int → Int} {p q x y e : Int} (h : CuI g p q x) (hx : x ≠ 255) (hq : q ≤ 190) (hf : ptF g q x = 0) (hy : ptX g q x = y) (he : ptE g q x = e) (hl : q < e) : CuI g p e y := by
  subst hy he
  rcases h with ⟨a, -, -⟩ | ⟨-, k, k1, k2, k3⟩
  · exact absurd a hx
  · obtain ⟨m, rfl⟩ : ∃ m, k = m + 1 := ⟨k - 1, by omega⟩
    have e1 : cuF g (m + 1) q x = if ptX g q x = 255 then 0 else cuF g m (ptE g q x) (ptX g q x) := by
      show (if ptF g q x = 0 then _ else ptF g q x) = _
      rw [if_pos hf]
    have e2 : cuE g (m + 1) q x = if ptX g q x = 255 then ptE g q x else cuE g m (ptE g q x) (ptX g q x) := rfl
    rw [e1] at k2
    rw [e2] at k3
    by_cases c : ptX g q x = 255
    · rw [if_pos c] at k2 k3; exact Or.inl ⟨c, k2, k3⟩
    · rw [if_neg c] at k2 k3; exact Or.inr ⟨c, m, by omega, k2, k3⟩
theorem CuI.end {g : Int → Int} {p q : Int} (h : CuI g p q 255) : cuF g 200 p (-1) = 0 ∧ cuE g 200 p (-1) = q := by
  rcases h with ⟨-, a, b⟩ | ⟨a, -⟩
  · exact ⟨a, b⟩
  · exact absurd rfl a
theorem ptF_1 {g : Int → Int} {p x : Int} (h : 0 ≤ x) : ptF g p x = sq (sF g p 44) (pqF g (p + 1) (x + 1) 255) ∧ ptX g p x = nV g (p + 1) ∧ ptE g p x = pqE g (p + 1) := by
  unfold ptF ptX ptE
  have n : x ≠ -1 := by omega
  rw [if_neg n, if_neg n, if_neg n]
  exact ⟨rfl, rfl, rfl⟩
/-- the numbers of a stage -/
def nxF (g : Int → Int) (p b : Int) : Int := sq (sF g p 44) (nF g (p + 1) 0 b)
def nxE (g : Int → Int) (p : Int) : Int := p + 1 + nD g (p + 1)
def n2F (g : Int → Int) (p a b l : Int) : Int := sq (nF g p a b) (nxF g (p + nD g p) l)
def n2E (g : Int → Int) (p : Int) : Int := nxE g (p + nD g p)
def n3F (g : Int → Int) (p a b l : Int) : Int := sq (n2F g p a b l) (nxF g (n2E g p) l)
def n3E (g : Int → Int) (p : Int) : Int := nxE g (n2E g p)
def nbF (g : Int → Int) (c p : Int) : Int := if c = 98 ∨ c = 100 ∨ c = 119 then nF g p 0 255 else if c = 111 then nF g p 1 4 else if c = 102 then nF g p 0 1 else if c = 118 then nF g p 1 3 else if c = 104 then nF g p 0 254 else if c = 108 ∨ c = 109 then nF g p 0 99 else if c = 121 then n3F g p 0 32 32 else if c = 103 then n3F g p 0 99 99 else if c = 112 then n2F g p 1 4 32 else if c = 110 ∨ c = 115 then n2F g p 0 99 99 else cuF g 200 p (-1)
def nbE (g : Int → Int) (c p : Int) : Int := if c = 98 ∨ c = 100 ∨ c = 119 then p + nD g p else if c = 111 then p + nD g p else if c = 102 then p + nD g p else if c = 118 then p + nD g p else if c = 104 then p + nD g p else if c = 108 ∨ c = 109 then p + nD g p else if c = 121 then n3E g p else if c = 103 then n3E g p else if c = 112 then n2E g p else if c = 110 ∨ c = 115 then n2E g p else cuE g 200 p (-1)
theorem nb_98 {g : Int → Int} {p : Int} : nbF g 98 p = nF g p 0 255 ∧ nbE g 98 p = p + nD g p := ⟨rfl, rfl⟩
theorem nb_100 {g : Int → Int} {p : Int} : nbF g 100 p = nF g p 0 255 ∧ nbE g 100 p = p + nD g p := ⟨rfl, rfl⟩
theorem nb_111 {g : Int → Int} {p : Int} : nbF g 111 p = nF g p 1 4 ∧ nbE g 111 p = p + nD g p := ⟨rfl, rfl⟩
theorem nb_108 {g : Int → Int} {p : Int} : nbF g 108 p = nF g p 0 99 ∧ nbE g 108 p = p + nD g p := ⟨rfl, rfl⟩
theorem nb_102 {g : Int → Int} {p : Int} : nbF g 102 p = nF g p 0 1 ∧ nbE g 102 p = p + nD g p := ⟨rfl, rfl⟩
theorem nb_118 {g : Int → Int} {p : Int} : nbF g 118 p = nF g p 1 3 ∧ nbE g 118 p = p + nD g p := ⟨rfl, rfl⟩
theorem nb_119 {g : Int → Int} {p : Int} : nbF g 119 p = nF g p 0 255 ∧ nbE g 119 p = p + nD g p := ⟨rfl, rfl⟩
theorem nb_104 {g : Int → Int} {p : Int} : nbF g 104 p = nF g p 0 254 ∧ nbE g 104 p = p + nD g p := ⟨rfl, rfl⟩
theorem nb_121 {g : Int → Int} {p : Int} : nbF g 121 p = n3F g p 0 32 32 ∧ nbE g 121 p = n3E g p := ⟨rfl, rfl⟩
theorem nb_103 {g : Int → Int} {p : Int} : nbF g 103 p = n3F g p 0 99 99 ∧ nbE g 103 p = n3E g p := ⟨rfl, rfl⟩
theorem nb_109 {g : Int → Int} {p : Int} : nbF g 109 p = nF g p 0 99 ∧ nbE g 109 p = p + nD g p := ⟨rfl, rfl⟩
theorem nb_112 {g : Int → Int} {p : Int} : nbF g 112 p = n2F g p 1 4 32 ∧ nbE g 112 p = n2E g p := ⟨rfl, rfl⟩
theorem nb_110 {g : Int → Int} {p : Int} : nbF g 110 p = n2F g p 0 99 99 ∧ nbE g 110 p = n2E g p := ⟨rfl, rfl⟩
theorem nb_115 {g : Int → Int} {p : Int} : nbF g 115 p = n2F g p 0 99 99 ∧ nbE g 115 p = n2E g p := ⟨rfl, rfl⟩
theorem nb_116 {g : Int → Int} {p : Int} : nbF g 116 p = cuF g 200 p (-1) ∧ nbE g 116 p = cuE g 200 p (-1) := by
  unfold nbF nbE
  exact ⟨by rw [if_neg (by decide), if_neg (by decide), if_neg (by decide), if_neg (by decide), if_neg (by decide), if_neg (by decide), if_neg (by decide), if_neg (by decide), if_neg (by decide), if_neg (by decide)], by rw [if_neg (by decide), if_neg (by decide), if_neg (by decide), if_neg (by decide), if_neg (by decide), if_neg (by decide), if_neg (by decide), if_neg (by decide), if_neg (by decide), if_neg (by decide)]⟩
theorem sbv_all : sbv 0 0 = 98 ∧ sbv 0 1 = 100 ∧ sbv 0 2 = 111 ∧ sbv 0 3 = 108 ∧ sbv 0 4 = 102 ∧ sbv 0 5 = 118 ∧ sbv 0 6 = 119 ∧ sbv 0 7 = 104 ∧ sbv 0 8 = 121 ∧ sbv 0 9 = 103 ∧ sbv 0 10 = 109 ∧ sbv 0 11 = 112 ∧ sbv 0 12 = 110 ∧ sbv 0 13 = 115 ∧ sbv 0 14 = 116 := by decide +kernel
theorem sbv_0 : sbv 0 0 = 98 := sbv_all.1
theorem sbv_1 : sbv 0 1 = 100 := sbv_all.2.1
theorem sbv_2 : sbv 0 2 = 111 := sbv_all.2.2.1
theorem sbv_3 : sbv 0 3 = 108 := sbv_all.2.2.2.1
theorem sbv_4 : sbv 0 4 = 102 := sbv_all.2.2.2.2.1
theorem sbv_5 : sbv 0 5 = 118 := sbv_all.2.2.2.2.2.1
theorem sbv_6 : sbv 0 6 = 119 := sbv_all.2.2.2.2.2.2.1
theorem sbv_7 : sbv 0 7 = 104 := sbv_all.2.2.2.2.2.2.2.1
theorem sbv_8 : sbv 0 8 = 121 := sbv_all.2.2.2.2.2.2.2.2.1
theorem sbv_9 : sbv 0 9 = 103 := sbv_all.2.2.2.2.2.2.2.2.2.1
theorem sbv_10 : sbv 0 10 = 109 := sbv_all.2.2.2.2.2.2.2.2.2.2.1
theorem sbv_11 : sbv 0 11 = 112 := sbv_all.2.2.2.2.2.2.2.2.2.2.2.1
theorem sbv_12 : sbv 0 12 = 110 := sbv_all.2.2.2.2.2.2.2.2.2.2.2.2.1
theorem sbv_13 : sbv 0 13 = 115 := sbv_all.2.2.2.2.2.2.2.2.2.2.2.2.2.1
theorem sbv_14 : sbv 0 14 = 116 := sbv_all.2.2.2.2.2.2.2.2.2.2.2.2.2.2
theorem xv_all_102 : xvv 102 0 = 1 ∧ xvv 102 1 = 1 ∧ xvv 102 2 = 1 ∧ xvv 102 3 = 1 ∧ xvv 102 4 = 1 ∧ xvv 102 5 = 1 ∧ xvv 102 6 = 1 ∧ xvv 102 7 = 1 ∧ xvv 102 8 = 3 ∧ xvv 102 9 = 3 ∧ xvv 102 10 = 1 ∧ xvv 102 11 = 2 ∧ xvv 102 12 = 2 ∧ xvv 102 13 = 2 ∧ xvv 102 14 = 0 := by decide +kernel
theorem xv_102_0 : xvv 102 0 = 1 := xv_all_102.1
theorem xv_102_1 : xvv 102 1 = 1 := xv_all_102.2.1
theorem xv_102_2 : xvv 102 2 = 1 := xv_all_102.2.2.1
theorem xv_102_3 : xvv 102 3 = 1 := xv_all_102.2.2.2.1
theorem xv_102_4 : xvv 102 4 = 1 := xv_all_102.2.2.2.2.1
theorem xv_102_5 : xvv 102 5 = 1 := xv_all_102.2.2.2.2.2.1
theorem xv_102_6 : xvv 102 6 = 1 := xv_all_102.2.2.2.2.2.2.1
theorem xv_102_7 : xvv 102 7 = 1 := xv_all_102.2.2.2.2.2.2.2.1
theorem xv_102_8 : xvv 102 8 = 3 := xv_all_102.2.2.2.2.2.2.2.2.1
theorem xv_102_9 : xvv 102 9 = 3 := xv_all_102.2.2.2.2.2.2.2.2.2.1
theorem xv_102_10 : xvv 102 10 = 1 := xv_all_102.2.2.2.2.2.2.2.2.2.2.1
theorem xv_102_11 : xvv 102 11 = 2 := xv_all_102.2.2.2.2.2.2.2.2.2.2.2.1
theorem xv_102_12 : xvv 102 12 = 2 := xv_all_102.2.2.2.2.2.2.2.2.2.2.2.2.1
theorem xv_102_13 : xvv 102 13 = 2 := xv_all_102.2.2.2.2.2.2.2.2.2.2.2.2.2.1
theorem xv_all_103 : xvv 103 0 = 0 ∧ xvv 103 1 = 0 ∧ xvv 103 2 = 1 ∧ xvv 103 3 = 0 ∧ xvv 103 4 = 0 ∧ xvv 103 5 = 1 ∧ xvv 103 6 = 0 ∧ xvv 103 7 = 0 ∧ xvv 103 8 = 0 ∧ xvv 103 9 = 0 ∧ xvv 103 10 = 0 ∧ xvv 103 11 = 1 ∧ xvv 103 12 = 0 ∧ xvv 103 13 = 0 ∧ xvv 103 14 = 0 := by decide +kernel
theorem xv_103_0 : xvv 103 0 = 0 := xv_all_103.1
theorem xv_103_1 : xvv 103 1 = 0 := xv_all_103.2.1
theorem xv_103_2 : xvv 103 2 = 1 := xv_all_103.2.2.1
theorem xv_103_3 : xvv 103 3 = 0 := xv_all_103.2.2.2.1
theorem xv_103_4 : xvv 103 4 = 0 := xv_all_103.2.2.2.2.1
theorem xv_103_5 : xvv 103 5 = 1 := xv_all_103.2.2.2.2.2.1
theorem xv_103_6 : xvv 103 6 = 0 := xv_all_103.2.2.2.2.2.2.1
theorem xv_103_7 : xvv 103 7 = 0 := xv_all_103.2.2.2.2.2.2.2.1
theorem xv_103_8 : xvv 103 8 = 0 := xv_all_103.2.2.2.2.2.2.2.2.1
theorem xv_103_9 : xvv 103 9 = 0 := xv_all_103.2.2.2.2.2.2.2.2.2.1
theorem xv_103_10 : xvv 103 10 = 0 := xv_all_103.2.2.2.2.2.2.2.2.2.2.1
theorem xv_103_11 : xvv 103 11 = 1 := xv_all_103.2.2.2.2.2.2.2.2.2.2.2.1
theorem xv_103_12 : xvv 103 12 = 0 := xv_all_103.2.2.2.2.2.2.2.2.2.2.2.2.1
theorem xv_103_13 : xvv 103 13 = 0 := xv_all_103.2.2.2.2.2.2.2.2.2.2.2.2.2.1
theorem xv_all_104 : xvv 104 0 = 255 ∧ xvv 104 1 = 255 ∧ xvv 104 2 = 4 ∧ xvv 104 3 = 99 ∧ xvv 104 4 = 1 ∧ xvv 104 5 = 3 ∧ xvv 104 6 = 255 ∧ xvv 104 7 = 254 ∧ xvv 104 8 = 32 ∧ xvv 104 9 = 99 ∧ xvv 104 10 = 99 ∧ xvv 104 11 = 4 ∧ xvv 104 12 = 99 ∧ xvv 104 13 = 99 ∧ xvv 104 14 = 0 := by decide +kernel
theorem xv_104_0 : xvv 104 0 = 255 := xv_all_104.1
theorem xv_104_1 : xvv 104 1 = 255 := xv_all_104.2.1
theorem xv_104_2 : xvv 104 2 = 4 := xv_all_104.2.2.1
theorem xv_104_3 : xvv 104 3 = 99 := xv_all_104.2.2.2.1
theorem xv_104_4 : xvv 104 4 = 1 := xv_all_104.2.2.2.2.1
theorem xv_104_5 : xvv 104 5 = 3 := xv_all_104.2.2.2.2.2.1
theorem xv_104_6 : xvv 104 6 = 255 := xv_all_104.2.2.2.2.2.2.1
theorem xv_104_7 : xvv 104 7 = 254 := xv_all_104.2.2.2.2.2.2.2.1
theorem xv_104_8 : xvv 104 8 = 32 := xv_all_104.2.2.2.2.2.2.2.2.1
theorem xv_104_9 : xvv 104 9 = 99 := xv_all_104.2.2.2.2.2.2.2.2.2.1
theorem xv_104_10 : xvv 104 10 = 99 := xv_all_104.2.2.2.2.2.2.2.2.2.2.1
theorem xv_104_11 : xvv 104 11 = 4 := xv_all_104.2.2.2.2.2.2.2.2.2.2.2.1
theorem xv_104_12 : xvv 104 12 = 99 := xv_all_104.2.2.2.2.2.2.2.2.2.2.2.2.1
theorem xv_104_13 : xvv 104 13 = 99 := xv_all_104.2.2.2.2.2.2.2.2.2.2.2.2.2.1
theorem xv_all_105 : xvv 105 0 = 0 ∧ xvv 105 1 = 0 ∧ xvv 105 2 = 0 ∧ xvv 105 3 = 0 ∧ xvv 105 4 = 0 ∧ xvv 105 5 = 0 ∧ xvv 105 6 = 0 ∧ xvv 105 7 = 0 ∧ xvv 105 8 = 32 ∧ xvv 105 9 = 99 ∧ xvv 105 10 = 0 ∧ xvv 105 11 = 32 ∧ xvv 105 12 = 99 ∧ xvv 105 13 = 99 ∧ xvv 105 14 = 255 := by decide +kernel
theorem xv_105_0 : xvv 105 0 = 0 := xv_all_105.1
theorem xv_105_1 : xvv 105 1 = 0 := xv_all_105.2.1
theorem xv_105_2 : xvv 105 2 = 0 := xv_all_105.2.2.1
theorem xv_105_3 : xvv 105 3 = 0 := xv_all_105.2.2.2.1
theorem xv_105_4 : xvv 105 4 = 0 := xv_all_105.2.2.2.2.1
theorem xv_105_5 : xvv 105 5 = 0 := xv_all_105.2.2.2.2.2.1
theorem xv_105_6 : xvv 105 6 = 0 := xv_all_105.2.2.2.2.2.2.1
theorem xv_105_7 : xvv 105 7 = 0 := xv_all_105.2.2.2.2.2.2.2.1
theorem xv_105_8 : xvv 105 8 = 32 := xv_all_105.2.2.2.2.2.2.2.2.1
theorem xv_105_9 : xvv 105 9 = 99 := xv_all_105.2.2.2.2.2.2.2.2.2.1
theorem xv_105_10 : xvv 105 10 = 0 := xv_all_105.2.2.2.2.2.2.2.2.2.2.1
theorem xv_105_11 : xvv 105 11 = 32 := xv_all_105.2.2.2.2.2.2.2.2.2.2.2.1
theorem xv_105_12 : xvv 105 12 = 99 := xv_all_105.2.2.2.2.2.2.2.2.2.2.2.2.1
theorem xv_105_13 : xvv 105 13 = 99 := xv_all_105.2.2.2.2.2.2.2.2.2.2.2.2.2.1
/-- a number of a static row is within a byte -/
theorem xvv_b' : ∀ k : Fin 4, ∀ j : Fin 15, 0 ≤ xvv (102 + k) j ∧ xvv (102 + k) j ≤ 255 := by decide +kernel
theorem xvv_b (k j : Nat) (h : (102 ≤ k ∧ k ≤ 105) ∧ j < 15) : 0 ≤ xvv k j ∧ xvv k j ≤ 255 := by
  have z := xvv_b' ⟨k - 102, by omega⟩ ⟨j, h.2⟩
  rwa [show 102 + (k - 102) = k by omega] at z
def mnF (g : Int → Int) (p m a b l : Int) : Int := if m = 1 then nF g p a b else if m = 2 then n2F g p a b l else n3F g p a b l
def mnE (g : Int → Int) (p m : Int) : Int := if m = 1 then p + nD g p else if m = 2 then n2E g p else n3E g p
theorem nb_kind {g : Int → Int} {p : Int} (r : Nat) (hr : r < 14) : nbF g (sbv 0 r) p = mnF g p (xvv 102 r) (xvv 103 r) (xvv 104 r) (xvv 105 r) ∧ nbE g (sbv 0 r) p = mnE g p (xvv 102 r) := by
  match r, hr with
  | 0, _ => rw [sbv_0, xv_102_0, xv_103_0, xv_104_0, xv_105_0]; exact ⟨nb_98.1, nb_98.2⟩
  | 1, _ => rw [sbv_1, xv_102_1, xv_103_1, xv_104_1, xv_105_1]; exact ⟨nb_100.1, nb_100.2⟩
  | 2, _ => rw [sbv_2, xv_102_2, xv_103_2, xv_104_2, xv_105_2]; exact ⟨nb_111.1, nb_111.2⟩
  | 3, _ => rw [sbv_3, xv_102_3, xv_103_3, xv_104_3, xv_105_3]; exact ⟨nb_108.1, nb_108.2⟩
  | 4, _ => rw [sbv_4, xv_102_4, xv_103_4, xv_104_4, xv_105_4]; exact ⟨nb_102.1, nb_102.2⟩
  | 5, _ => rw [sbv_5, xv_102_5, xv_103_5, xv_104_5, xv_105_5]; exact ⟨nb_118.1, nb_118.2⟩
  | 6, _ => rw [sbv_6, xv_102_6, xv_103_6, xv_104_6, xv_105_6]; exact ⟨nb_119.1, nb_119.2⟩
  | 7, _ => rw [sbv_7, xv_102_7, xv_103_7, xv_104_7, xv_105_7]; exact ⟨nb_104.1, nb_104.2⟩
  | 8, _ => rw [sbv_8, xv_102_8, xv_103_8, xv_104_8, xv_105_8]; exact ⟨nb_121.1, nb_121.2⟩
  | 9, _ => rw [sbv_9, xv_102_9, xv_103_9, xv_104_9, xv_105_9]; exact ⟨nb_103.1, nb_103.2⟩
  | 10, _ => rw [sbv_10, xv_102_10, xv_103_10, xv_104_10, xv_105_10]; exact ⟨nb_109.1, nb_109.2⟩
  | 11, _ => rw [sbv_11, xv_102_11, xv_103_11, xv_104_11, xv_105_11]; exact ⟨nb_112.1, nb_112.2⟩
  | 12, _ => rw [sbv_12, xv_102_12, xv_103_12, xv_104_12, xv_105_12]; exact ⟨nb_110.1, nb_110.2⟩
  | 13, _ => rw [sbv_13, xv_102_13, xv_103_13, xv_104_13, xv_105_13]; exact ⟨nb_115.1, nb_115.2⟩
theorem xvv_m' : ∀ j : Fin 14, 1 ≤ xvv 102 j ∧ xvv 102 j ≤ 3 := by decide +kernel
theorem xvv_m (j : Nat) (h : j < 14) : 1 ≤ xvv 102 j ∧ xvv 102 j ≤ 3 := xvv_m' ⟨j, h⟩
theorem sbv_b' : ∀ j : Fin 15, 97 ≤ sbv 0 j ∧ sbv 0 j ≤ 122 := by decide +kernel
theorem sbv_b (j : Nat) (h : j < 15) : 97 ≤ sbv 0 j ∧ sbv 0 j ≤ 122 := sbv_b' ⟨j, h⟩
theorem i2cE {a : Int} (ha : 0 ≤ a ∧ a ≤ 65535) : ((Int32.ofInt a).toUInt32 % 65536).toInt32.toInt = a := by
  have e1 : ((Int32.ofInt a).toUInt32 % 65536).toNat = a.toNat := by
    rw [UInt32.toNat_mod, ush2]
    show (a % 4294967296).toNat % 65536 = a.toNat
    omega
  have e0 : ∀ x : UInt32, x.toInt32.toInt = x.toBitVec.toInt := fun _ => rfl
  have e2 : ∀ x : UInt32, x.toBitVec.toNat = x.toNat := fun _ => rfl
  rw [e0, BitVec.toInt_eq_toNat_of_lt (by rw [e2, e1]; omega), e2, e1]
  omega
theorem zW_i2cE {G : Ga} {μ : Mt} {Q : Int → Hp → Prop} {pc pc' : Nat} {ls : Lo} {st : List Sv} {h : Hp} {a : Int} (ha : 0 ≤ a ∧ a ≤ 65535) (hd : decode μ.1 pc = .ok (.i2c, 1)) (hn : pc + 1 = pc') (kk : ∀ v : Int, v = a → zV G μ Q pc' ls (.inl v :: st) h) : zV G μ Q pc ls (.inl a :: st) h := by
  subst hn
  intro p e s m args below meth c H locs lsA C hP hS hL
  exact lv_i2c C.1 C.2.1 hd rfl (zV_any32 C hP hS hL (kk _ (i2cE ha)))
/-- a letter's kind -/
def kd (c : Int) : Int := if c = 98 then 0 else if c = 100 then 1 else if c = 111 then 2 else if c = 108 then 3 else if c = 102 then 4 else if c = 118 then 5 else if c = 119 then 6 else if c = 104 then 7 else if c = 121 then 8 else if c = 103 then 9 else if c = 109 then 10 else if c = 112 then 11 else if c = 110 then 12 else if c = 115 then 13 else if c = 116 then 14 else -1
theorem kd_ix {c r : Int} (h : (r = -1 ∧ ∀ j : Nat, j < 15 → sbv 0 j ≠ c) ∨ (0 ≤ r ∧ r < 15 ∧ sbv 0 r.toNat = c)) : r = kd c := by
  rcases h with ⟨e, h⟩ | ⟨h0, h1, h⟩
  · unfold kd
    rw [if_neg (fun z => h 0 (by decide) (sbv_0.trans z.symm)), if_neg (fun z => h 1 (by decide) (sbv_1.trans z.symm)), if_neg (fun z => h 2 (by decide) (sbv_2.trans z.symm)), if_neg (fun z => h 3 (by decide) (sbv_3.trans z.symm)), if_neg (fun z => h 4 (by decide) (sbv_4.trans z.symm)), if_neg (fun z => h 5 (by decide) (sbv_5.trans z.symm)), if_neg (fun z => h 6 (by decide) (sbv_6.trans z.symm)), if_neg (fun z => h 7 (by decide) (sbv_7.trans z.symm)), if_neg (fun z => h 8 (by decide) (sbv_8.trans z.symm)), if_neg (fun z => h 9 (by decide) (sbv_9.trans z.symm)), if_neg (fun z => h 10 (by decide) (sbv_10.trans z.symm)), if_neg (fun z => h 11 (by decide) (sbv_11.trans z.symm)), if_neg (fun z => h 12 (by decide) (sbv_12.trans z.symm)), if_neg (fun z => h 13 (by decide) (sbv_13.trans z.symm)), if_neg (fun z => h 14 (by decide) (sbv_14.trans z.symm))]
    exact e
  · have key : ∀ j : Fin 15, kd (sbv 0 j) = ((j : Nat) : Int) := by decide +kernel
    have z := key ⟨r.toNat, by omega⟩
    rw [h] at z
    rw [z]
    show r = ((r.toNat : Nat) : Int)
    omega
theorem kd_c (c : Int) : (kd c = -1 ∧ c ≠ 98 ∧ c ≠ 100 ∧ c ≠ 111 ∧ c ≠ 108 ∧ c ≠ 102 ∧ c ≠ 118 ∧ c ≠ 119 ∧ c ≠ 104 ∧ c ≠ 121 ∧ c ≠ 103 ∧ c ≠ 109 ∧ c ≠ 112 ∧ c ≠ 110 ∧ c ≠ 115 ∧ c ≠ 116) ∨ (kd c = 0 ∧ c = 98) ∨ (kd c = 1 ∧ c = 100) ∨ (kd c = 2 ∧ c = 111) ∨ (kd c = 3 ∧ c = 108) ∨ (kd c = 4 ∧ c = 102) ∨ (kd c = 5 ∧ c = 118) ∨ (kd c = 6 ∧ c = 119) ∨ (kd c = 7 ∧ c = 104) ∨ (kd c = 8 ∧ c = 121) ∨ (kd c = 9 ∧ c = 103) ∨ (kd c = 10 ∧ c = 109) ∨ (kd c = 11 ∧ c = 112) ∨ (kd c = 12 ∧ c = 110) ∨ (kd c = 13 ∧ c = 115) ∨ (kd c = 14 ∧ c = 116) := by
  by_cases e0 : c = 98
  · exact Or.inr (Or.inl (⟨by unfold kd; rw [if_pos e0], e0⟩))
  by_cases e1 : c = 100
  · exact Or.inr (Or.inr (Or.inl (⟨by unfold kd; rw [if_neg e0, if_pos e1], e1⟩)))
  by_cases e2 : c = 111
  · exact Or.inr (Or.inr (Or.inr (Or.inl (⟨by unfold kd; rw [if_neg e0, if_neg e1, if_pos e2], e2⟩))))
  by_cases e3 : c = 108
  · exact Or.inr (Or.inr (Or.inr (Or.inr (Or.inl (⟨by unfold kd; rw [if_neg e0, if_neg e1, if_neg e2, if_pos e3], e3⟩)))))
  by_cases e4 : c = 102
  · exact Or.inr (Or.inr (Or.inr (Or.inr (Or.inr (Or.inl (⟨by unfold kd; rw [if_neg e0, if_neg e1, if_neg e2, if_neg e3, if_pos e4], e4⟩))))))
  by_cases e5 : c = 118
  · exact Or.inr (Or.inr (Or.inr (Or.inr (Or.inr (Or.inr (Or.inl (⟨by unfold kd; rw [if_neg e0, if_neg e1, if_neg e2, if_neg e3, if_neg e4, if_pos e5], e5⟩)))))))
  by_cases e6 : c = 119
  · exact Or.inr (Or.inr (Or.inr (Or.inr (Or.inr (Or.inr (Or.inr (Or.inl (⟨by unfold kd; rw [if_neg e0, if_neg e1, if_neg e2, if_neg e3, if_neg e4, if_neg e5, if_pos e6], e6⟩))))))))
  by_cases e7 : c = 104
  · exact Or.inr (Or.inr (Or.inr (Or.inr (Or.inr (Or.inr (Or.inr (Or.inr (Or.inl (⟨by unfold kd; rw [if_neg e0, if_neg e1, if_neg e2, if_neg e3, if_neg e4, if_neg e5, if_neg e6, if_pos e7], e7⟩)))))))))
  by_cases e8 : c = 121
  · exact Or.inr (Or.inr (Or.inr (Or.inr (Or.inr (Or.inr (Or.inr (Or.inr (Or.inr (Or.inl (⟨by unfold kd; rw [if_neg e0, if_neg e1, if_neg e2, if_neg e3, if_neg e4, if_neg e5, if_neg e6, if_neg e7, if_pos e8], e8⟩))))))))))
  by_cases e9 : c = 103
  · exact Or.inr (Or.inr (Or.inr (Or.inr (Or.inr (Or.inr (Or.inr (Or.inr (Or.inr (Or.inr (Or.inl (⟨by unfold kd; rw [if_neg e0, if_neg e1, if_neg e2, if_neg e3, if_neg e4, if_neg e5, if_neg e6, if_neg e7, if_neg e8, if_pos e9], e9⟩)))))))))))
  by_cases e10 : c = 109
  · exact Or.inr (Or.inr (Or.inr (Or.inr (Or.inr (Or.inr (Or.inr (Or.inr (Or.inr (Or.inr (Or.inr (Or.inl (⟨by unfold kd; rw [if_neg e0, if_neg e1, if_neg e2, if_neg e3, if_neg e4, if_neg e5, if_neg e6, if_neg e7, if_neg e8, if_neg e9, if_pos e10], e10⟩))))))))))))
  by_cases e11 : c = 112
  · exact Or.inr (Or.inr (Or.inr (Or.inr (Or.inr (Or.inr (Or.inr (Or.inr (Or.inr (Or.inr (Or.inr (Or.inr (Or.inl (⟨by unfold kd; rw [if_neg e0, if_neg e1, if_neg e2, if_neg e3, if_neg e4, if_neg e5, if_neg e6, if_neg e7, if_neg e8, if_neg e9, if_neg e10, if_pos e11], e11⟩)))))))))))))
  by_cases e12 : c = 110
  · exact Or.inr (Or.inr (Or.inr (Or.inr (Or.inr (Or.inr (Or.inr (Or.inr (Or.inr (Or.inr (Or.inr (Or.inr (Or.inr (Or.inl (⟨by unfold kd; rw [if_neg e0, if_neg e1, if_neg e2, if_neg e3, if_neg e4, if_neg e5, if_neg e6, if_neg e7, if_neg e8, if_neg e9, if_neg e10, if_neg e11, if_pos e12], e12⟩))))))))))))))
  by_cases e13 : c = 115
  · exact Or.inr (Or.inr (Or.inr (Or.inr (Or.inr (Or.inr (Or.inr (Or.inr (Or.inr (Or.inr (Or.inr (Or.inr (Or.inr (Or.inr (Or.inl (⟨by unfold kd; rw [if_neg e0, if_neg e1, if_neg e2, if_neg e3, if_neg e4, if_neg e5, if_neg e6, if_neg e7, if_neg e8, if_neg e9, if_neg e10, if_neg e11, if_neg e12, if_pos e13], e13⟩)))))))))))))))
  by_cases e14 : c = 116
  · exact Or.inr (Or.inr (Or.inr (Or.inr (Or.inr (Or.inr (Or.inr (Or.inr (Or.inr (Or.inr (Or.inr (Or.inr (Or.inr (Or.inr (Or.inr (⟨by unfold kd; rw [if_neg e0, if_neg e1, if_neg e2, if_neg e3, if_neg e4, if_neg e5, if_neg e6, if_neg e7, if_neg e8, if_neg e9, if_neg e10, if_neg e11, if_neg e12, if_neg e13, if_pos e14], e14⟩)))))))))))))))
  exact Or.inl ⟨by unfold kd; rw [if_neg e0, if_neg e1, if_neg e2, if_neg e3, if_neg e4, if_neg e5, if_neg e6, if_neg e7, if_neg e8, if_neg e9, if_neg e10, if_neg e11, if_neg e12, if_neg e13, if_neg e14], e0, e1, e2, e3, e4, e5, e6, e7, e8, e9, e10, e11, e12, e13, e14⟩
theorem kd_b (c : Int) : -1 ≤ kd c ∧ kd c ≤ 14 := by
  rcases kd_c c with ⟨z, -⟩ | ⟨z, -⟩ | ⟨z, -⟩ | ⟨z, -⟩ | ⟨z, -⟩ | ⟨z, -⟩ | ⟨z, -⟩ | ⟨z, -⟩ | ⟨z, -⟩ | ⟨z, -⟩ | ⟨z, -⟩ | ⟨z, -⟩ | ⟨z, -⟩ | ⟨z, -⟩ | ⟨z, -⟩ | ⟨z, -⟩ <;> (rw [z]; decide)
theorem kd_e (c : Int) : (0 ≤ kd c ∧ kd c ≤ 4) ↔ (c = 98 ∨ c = 100 ∨ c = 111 ∨ c = 108 ∨ c = 102) := by
  rcases kd_c c with ⟨z, n0, n1, n2, n3, n4, n5, n6, n7, n8, n9, n10, n11, n12, n13, n14⟩ | ⟨z, rfl⟩ | ⟨z, rfl⟩ | ⟨z, rfl⟩ | ⟨z, rfl⟩ | ⟨z, rfl⟩ | ⟨z, rfl⟩ | ⟨z, rfl⟩ | ⟨z, rfl⟩ | ⟨z, rfl⟩ | ⟨z, rfl⟩ | ⟨z, rfl⟩ | ⟨z, rfl⟩ | ⟨z, rfl⟩ | ⟨z, rfl⟩ | ⟨z, rfl⟩
  · rw [z]
    refine ⟨fun q => absurd q (by decide), fun q => ?_⟩
    rcases q with q | q | q | q | q
    · exact absurd q n0
    · exact absurd q n1
    · exact absurd q n2
    · exact absurd q n3
    · exact absurd q n4
  · rw [z]; decide
  · rw [z]; decide
  · rw [z]; decide
  · rw [z]; decide
  · rw [z]; decide
  · rw [z]; decide
  · rw [z]; decide
  · rw [z]; decide
  · rw [z]; decide
  · rw [z]; decide
  · rw [z]; decide
  · rw [z]; decide
  · rw [z]; decide
  · rw [z]; decide
  · rw [z]; decide
theorem kd_l (c : Int) : 5 ≤ kd c ↔ (c = 118 ∨ c = 119 ∨ c = 104 ∨ c = 121 ∨ c = 103 ∨ c = 109 ∨ c = 112 ∨ c = 110 ∨ c = 115 ∨ c = 116) := by
  rcases kd_c c with ⟨z, n0, n1, n2, n3, n4, n5, n6, n7, n8, n9, n10, n11, n12, n13, n14⟩ | ⟨z, rfl⟩ | ⟨z, rfl⟩ | ⟨z, rfl⟩ | ⟨z, rfl⟩ | ⟨z, rfl⟩ | ⟨z, rfl⟩ | ⟨z, rfl⟩ | ⟨z, rfl⟩ | ⟨z, rfl⟩ | ⟨z, rfl⟩ | ⟨z, rfl⟩ | ⟨z, rfl⟩ | ⟨z, rfl⟩ | ⟨z, rfl⟩ | ⟨z, rfl⟩
  · rw [z]
    refine ⟨fun q => absurd q (by decide), fun q => ?_⟩
    rcases q with q | q | q | q | q | q | q | q | q | q
    · exact absurd q n5
    · exact absurd q n6
    · exact absurd q n7
    · exact absurd q n8
    · exact absurd q n9
    · exact absurd q n10
    · exact absurd q n11
    · exact absurd q n12
    · exact absurd q n13
    · exact absurd q n14
  · rw [z]; decide
  · rw [z]; decide
  · rw [z]; decide
  · rw [z]; decide
  · rw [z]; decide
  · rw [z]; decide
  · rw [z]; decide
  · rw [z]; decide
  · rw [z]; decide
  · rw [z]; decide
  · rw [z]; decide
  · rw [z]; decide
  · rw [z]; decide
  · rw [z]; decide
  · rw [z]; decide
theorem kd_f (c : Int) : kd c = 4 ↔ c = 102 := by
  rcases kd_c c with ⟨z, n0, n1, n2, n3, n4, n5, n6, n7, n8, n9, n10, n11, n12, n13, n14⟩ | ⟨z, rfl⟩ | ⟨z, rfl⟩ | ⟨z, rfl⟩ | ⟨z, rfl⟩ | ⟨z, rfl⟩ | ⟨z, rfl⟩ | ⟨z, rfl⟩ | ⟨z, rfl⟩ | ⟨z, rfl⟩ | ⟨z, rfl⟩ | ⟨z, rfl⟩ | ⟨z, rfl⟩ | ⟨z, rfl⟩ | ⟨z, rfl⟩ | ⟨z, rfl⟩
  · rw [z]
    refine ⟨fun q => absurd q (by decide), ?_⟩
    exact fun q => absurd q n4
  · rw [z]; decide
  · rw [z]; decide
  · rw [z]; decide
  · rw [z]; decide
  · rw [z]; decide
  · rw [z]; decide
  · rw [z]; decide
  · rw [z]; decide
  · rw [z]; decide
  · rw [z]; decide
  · rw [z]; decide
  · rw [z]; decide
  · rw [z]; decide
  · rw [z]; decide
  · rw [z]; decide
theorem kd_t (c : Int) : kd c = 14 ↔ c = 116 := by
  rcases kd_c c with ⟨z, n0, n1, n2, n3, n4, n5, n6, n7, n8, n9, n10, n11, n12, n13, n14⟩ | ⟨z, rfl⟩ | ⟨z, rfl⟩ | ⟨z, rfl⟩ | ⟨z, rfl⟩ | ⟨z, rfl⟩ | ⟨z, rfl⟩ | ⟨z, rfl⟩ | ⟨z, rfl⟩ | ⟨z, rfl⟩ | ⟨z, rfl⟩ | ⟨z, rfl⟩ | ⟨z, rfl⟩ | ⟨z, rfl⟩ | ⟨z, rfl⟩ | ⟨z, rfl⟩
  · rw [z]
    refine ⟨fun q => absurd q (by decide), ?_⟩
    exact fun q => absurd q n14
  · rw [z]; decide
  · rw [z]; decide
  · rw [z]; decide
  · rw [z]; decide
  · rw [z]; decide
  · rw [z]; decide
  · rw [z]; decide
  · rw [z]; decide
  · rw [z]; decide
  · rw [z]; decide
  · rw [z]; decide
  · rw [z]; decide
  · rw [z]; decide
  · rw [z]; decide
  · rw [z]; decide
def nxf (g : Int → Int) (p m f : Int) : Int := if g p = 102 then m + 1 else f
theorem kd_n {c : Int} (h : c < 0) : kd c = -1 := by
  rcases kd_c c with ⟨z, -⟩ | ⟨z, e⟩ | ⟨z, e⟩ | ⟨z, e⟩ | ⟨z, e⟩ | ⟨z, e⟩ | ⟨z, e⟩ | ⟨z, e⟩ | ⟨z, e⟩ | ⟨z, e⟩ | ⟨z, e⟩ | ⟨z, e⟩ | ⟨z, e⟩ | ⟨z, e⟩ | ⟨z, e⟩ | ⟨z, e⟩
  · exact z
  · omega
  · omega
  · omega
  · omega
  · omega
  · omega
  · omega
  · omega
  · omega
  · omega
  · omega
  · omega
  · omega
  · omega
  · omega
theorem nxfc (g : Int → Int) (p m f : Int) : (g p = 102 ∧ nxf g p m f = m + 1) ∨ (g p ≠ 102 ∧ nxf g p m f = f) := by
  unfold nxf
  by_cases h : g p = 102
  · exact Or.inl ⟨h, if_pos h⟩
  · exact Or.inr ⟨h, if_neg h⟩
theorem kd_s {c : Int} (h : 0 ≤ kd c) : sbv 0 (kd c).toNat = c := by
  have z := kd_c c
  rcases z with ⟨z, -⟩ | ⟨z, e⟩ | ⟨z, e⟩ | ⟨z, e⟩ | ⟨z, e⟩ | ⟨z, e⟩ | ⟨z, e⟩ | ⟨z, e⟩ | ⟨z, e⟩ | ⟨z, e⟩ | ⟨z, e⟩ | ⟨z, e⟩ | ⟨z, e⟩ | ⟨z, e⟩ | ⟨z, e⟩ | ⟨z, e⟩
  · omega
  · rw [z, e]; exact sbv_0
  · rw [z, e]; exact sbv_1
  · rw [z, e]; exact sbv_2
  · rw [z, e]; exact sbv_3
  · rw [z, e]; exact sbv_4
  · rw [z, e]; exact sbv_5
  · rw [z, e]; exact sbv_6
  · rw [z, e]; exact sbv_7
  · rw [z, e]; exact sbv_8
  · rw [z, e]; exact sbv_9
  · rw [z, e]; exact sbv_10
  · rw [z, e]; exact sbv_11
  · rw [z, e]; exact sbv_12
  · rw [z, e]; exact sbv_13
  · rw [z, e]; exact sbv_14
def lF (g : Int → Int) (p m f : Int) : Int := if kd (g p) < 0 then -1000 - p else if m = 12 then -4000 - p else if (kd (g p) ≤ 4 ↔ f ≠ 0) then -6000 - p else 0
theorem lFc (g : Int → Int) (p m f : Int) : (kd (g p) < 0 ∧ lF g p m f = -1000 - p) ∨ (0 ≤ kd (g p) ∧ m = 12 ∧ lF g p m f = -4000 - p) ∨ (0 ≤ kd (g p) ∧ m ≠ 12 ∧ ((kd (g p) ≤ 4 ∧ f ≠ 0) ∨ (4 < kd (g p) ∧ f = 0)) ∧ lF g p m f = -6000 - p) ∨ (0 ≤ kd (g p) ∧ m ≠ 12 ∧ ((kd (g p) ≤ 4 ∧ f = 0) ∨ (4 < kd (g p) ∧ f ≠ 0)) ∧ lF g p m f = 0) := by
  unfold lF
  by_cases h0 : kd (g p) < 0
  · exact Or.inl ⟨h0, if_pos h0⟩
  by_cases h1 : m = 12
  · exact Or.inr (Or.inl ⟨by omega, h1, by rw [if_neg h0, if_pos h1]⟩)
  by_cases h2 : (kd (g p) ≤ 4 ↔ f ≠ 0)
  · exact Or.inr (Or.inr (Or.inl ⟨by omega, h1, by omega, by rw [if_neg h0, if_neg h1, if_pos h2]⟩))
  · exact Or.inr (Or.inr (Or.inr ⟨by omega, h1, by omega, by rw [if_neg h0, if_neg h1, if_neg h2]⟩))
theorem lFn {g : Int → Int} {p m f : Int} (hp : 0 ≤ p) : lF g p m f ≤ 0 := by
  have h2 := lFc g p m f
  omega
theorem lFz {g : Int → Int} {p m f : Int} (h : lF g p m f = 0) (hp : 0 ≤ p) : 0 ≤ kd (g p) := by
  have h2 := lFc g p m f
  omega
def sgF (g : Int → Int) (p m f : Int) : Int := sq (sq (lF g p m f) (sF g (p + 1) 58)) (nbF g (g p) (p + 2))
def sgE (g : Int → Int) (p : Int) : Int := nbE g (g p) (p + 2)
def alF (g : Int → Int) (n : Int) : Nat → Int → Int → Int → Int
  | 0, _, _, _ => 0
  | k + 1, p, m, f => if sgF g p m f = 0 then (if sgE g p < n then (if sF g (sgE g p) 59 = 0 then alF g n k (sgE g p + 1) (m + 1) (nxf g p m f) else sF g (sgE g p) 59) else m + 1) else sgF g p m f
def alA (g : Int → Int) (n : Int) : Nat → Int → Int → Int → Int
  | 0, _, _, _ => 0
  | k + 1, p, m, f => if sgE g p < n then alA g n k (sgE g p + 1) (m + 1) (nxf g p m f) else nxf g p m f
def rdF (g : Int → Int) (n : Int) : Int := if n = 0 then 0 else alF g n 200 0 0 0
def rdA (g : Int → Int) (n : Int) : Int := if n = 0 then 0 else alA g n 200 0 0 0
/-- what stages answers, is what is answered from q on, with m stages read and f the filling one -/
def AlI (g : Int → Int) (n q m f : Int) : Prop := ∃ k : Nat, 190 - q < k ∧ rdF g n = alF g n k q m f ∧ rdA g n = alA g n k q m f
theorem AlI.rf {g : Int → Int} {n : Int} (h : n ≠ 0) : AlI g n 0 0 0 := ⟨200, by decide, if_neg h, if_neg h⟩
theorem AlI.go {g : Int → Int} {n q m f : Int} (h : AlI g n q m f) (hq : q ≤ 190) : (sgF g q m f ≠ 0 → rdF g n = sgF g q m f) ∧ (sgF g q m f = 0 → n ≤ sgE g q → rdF g n = m + 1 ∧ rdA g n = nxf g q m f) ∧ (sgF g q m f = 0 → sgE g q < n → sF g (sgE g q) 59 ≠ 0 → rdF g n = sF g (sgE g q) 59) ∧ (sgF g q m f = 0 → sgE g q < n → sF g (sgE g q) 59 = 0 → q < sgE g q → AlI g n (sgE g q + 1) (m + 1) (nxf g q m f)) := by
  obtain ⟨k, k1, k2, k3⟩ := h
  obtain ⟨j, rfl⟩ : ∃ j, k = j + 1 := ⟨k - 1, by omega⟩
  have e1 : alF g n (j + 1) q m f = if sgF g q m f = 0 then (if sgE g q < n then (if sF g (sgE g q) 59 = 0 then alF g n j (sgE g q + 1) (m + 1) (nxf g q m f) else sF g (sgE g q) 59) else m + 1) else sgF g q m f := rfl
  have e2 : alA g n (j + 1) q m f = if sgE g q < n then alA g n j (sgE g q + 1) (m + 1) (nxf g q m f) else nxf g q m f := rfl
  rw [e1] at k2
  rw [e2] at k3
  refine ⟨fun a => ?_, fun a b => ?_, fun a b c => ?_, fun a b c d => ?_⟩
  · rw [if_neg a] at k2; exact k2
  · rw [if_pos a, if_neg (by omega)] at k2; rw [if_neg (by omega)] at k3; exact ⟨k2, k3⟩
  · rw [if_pos a, if_pos b, if_neg c] at k2; exact k2
  · rw [if_pos a, if_pos b, if_pos c] at k2; rw [if_pos b] at k3; exact ⟨j, by omega, k2, k3⟩
def pnF (g : Int → Int) (p a b l k : Int) : Int := if k = 0 then 0 else if k = 1 then nF g p a b else if k = 2 then n2F g p a b l else n3F g p a b l
def pnE (g : Int → Int) (p k : Int) : Int := if k = 0 then p else if k = 1 then p + nD g p else if k = 2 then n2E g p else n3E g p
theorem pn_s {g : Int → Int} {p a b l k : Int} (h : k = 1 ∨ k = 2) : pnF g p a b l (k + 1) = sq (pnF g p a b l k) (nxF g (pnE g p k) l) ∧ pnE g p (k + 1) = nxE g (pnE g p k) := by
  rcases h with rfl | rfl <;> exact ⟨rfl, rfl⟩
theorem pn_e {g : Int → Int} {p a b l m : Int} (h : 1 ≤ m ∧ m ≤ 3) : mnF g p m a b l = pnF g p a b l m ∧ mnE g p m = pnE g p m := by
  rcases (by omega : m = 1 ∨ m = 2 ∨ m = 3) with rfl | rfl | rfl <;> exact ⟨rfl, rfl⟩
theorem pn_x {g : Int → Int} {p a b l k m : Int} (h : 1 ≤ k ∧ k ≤ m ∧ m ≤ 3) (hf : pnF g p a b l k ≠ 0) : mnF g p m a b l = pnF g p a b l k := by
  rw [(pn_e (g := g) (p := p) (a := a) (b := b) (l := l) (m := m) (by omega)).1]
  rcases (by omega : k = m ∨ m = k + 1 ∨ m = k + 2) with rfl | rfl | rfl
  · rfl
  · rw [(pn_s (by omega)).1, sq_m hf]
  · have e : k = 1 := by omega
    subst e
    rw [show (1 : Int) + 2 = 2 + 1 from rfl, (pn_s (Or.inr rfl)).1, show (2 : Int) = 1 + 1 from rfl, (pn_s (Or.inl rfl)).1, sq_m hf, sq_m hf]
theorem a8 {a b c d e f g i n : Prop} (h : a ∧ b ∧ c ∧ d ∧ e ∧ f ∧ g ∧ i) (x : n) : a ∧ b ∧ c ∧ d ∧ e ∧ f ∧ g ∧ i ∧ n := ⟨h.1, h.2.1, h.2.2.1, h.2.2.2.1, h.2.2.2.2.1, h.2.2.2.2.2.1, h.2.2.2.2.2.2.1, h.2.2.2.2.2.2.2, x⟩
theorem nb_else {g : Int → Int} {c p : Int} (h : c ≠ 98 ∧ c ≠ 100 ∧ c ≠ 111 ∧ c ≠ 108 ∧ c ≠ 102 ∧ c ≠ 118 ∧ c ≠ 119 ∧ c ≠ 104 ∧ c ≠ 121 ∧ c ≠ 103 ∧ c ≠ 109 ∧ c ≠ 112 ∧ c ≠ 110 ∧ c ≠ 115) : nbF g c p = cuF g 200 p (-1) ∧ nbE g c p = cuE g 200 p (-1) := by
  unfold nbF nbE
  constructor
  · rw [if_neg (by omega), if_neg (by omega), if_neg (by omega), if_neg (by omega), if_neg (by omega), if_neg (by omega), if_neg (by omega), if_neg (by omega), if_neg (by omega), if_neg (by omega)]
  · rw [if_neg (by omega), if_neg (by omega), if_neg (by omega), if_neg (by omega), if_neg (by omega), if_neg (by omega), if_neg (by omega), if_neg (by omega), if_neg (by omega), if_neg (by omega)]
theorem sg_l {g : Int → Int} {p m f : Int} (h : lF g p m f ≠ 0) : sgF g p m f = lF g p m f := by
  unfold sgF
  rw [sq_m h, sq_m h]
theorem sg_s {g : Int → Int} {p m f : Int} (h : lF g p m f = 0) (hs : sF g (p + 1) 58 ≠ 0) : sgF g p m f = sF g (p + 1) 58 := by
  unfold sgF
  rw [sq_z h, sq_m hs]
theorem sg_n {g : Int → Int} {p m f : Int} (h : lF g p m f = 0) (hs : sF g (p + 1) 58 = 0) : sgF g p m f = nbF g (g p) (p + 2) := by
  unfold sgF
  rw [sq_z h, sq_z hs]
theorem sg_1 {g : Int → Int} {p m f : Int} (hp : 0 ≤ p) (h : kd (g p) < 0) : sgF g p m f = -1000 - p := by
  have e : lF g p m f = -1000 - p := if_pos h
  rw [sg_l (by omega), e]
theorem sg_4 {g : Int → Int} {p m f : Int} (hp : 0 ≤ p) (h : 0 ≤ kd (g p)) (hm : m = 12) : sgF g p m f = -4000 - p := by
  have e : lF g p m f = -4000 - p := by unfold lF; rw [if_neg (by omega), if_pos hm]
  rw [sg_l (by omega), e]
theorem sg_6 {g : Int → Int} {p m f : Int} (hp : 0 ≤ p) (h : 0 ≤ kd (g p)) (hm : m ≠ 12) (hf : kd (g p) ≤ 4 ↔ f ≠ 0) : sgF g p m f = -6000 - p := by
  have e : lF g p m f = -6000 - p := by unfold lF; rw [if_neg (by omega), if_neg hm, if_pos hf]
  rw [sg_l (by omega), e]
theorem lf_0 {g : Int → Int} {p m f : Int} (h : 0 ≤ kd (g p)) (hm : m ≠ 12) (hf : ¬ (kd (g p) ≤ 4 ↔ f ≠ 0)) : lF g p m f = 0 := by
  unfold lF
  rw [if_neg (by omega), if_neg hm, if_neg hf]
def Hid (p : Prop) : Prop := p
/-- between two stages -/
def StI (g : Int → Int) (n e m f : Int) : Prop := (n ≤ e → rdF g n = m ∧ rdA g n = f) ∧ (e < n → sF g e 59 ≠ 0 → rdF g n = sF g e 59) ∧ (e < n → sF g e 59 = 0 → AlI g n (e + 1) m f)
theorem AlI.st {g : Int → Int} {n q m f : Int} (h : AlI g n q m f) (hq : q ≤ 190) (h0 : sgF g q m f = 0) (hl : q < sgE g q) : StI g n (sgE g q) (m + 1) (nxf g q m f) := by
  have go := h.go hq
  exact ⟨fun a => go.2.1 h0 a, fun a b => go.2.2.1 h0 a b, fun a b => go.2.2.2 h0 a b hl⟩
def RfI (g : Int → Int) (n : Int) (h : Hp) : Prop := ∃ f : Int, (0 ≤ f ∧ f ≤ h 0 30) ∧ (∀ j : Nat, (j : Int) < h 0 30 → (h 13 j = 102 ↔ (j : Int) + 1 = f)) ∧ StI g n (h 0 26) (h 0 30) f
theorem RfI.w25 {g : Int → Int} {n v : Int} {h : Hp} (hN : RfI g n h) : RfI g n (zwr h 0 25 v) := by
  unfold RfI at hN ⊢
  rw [zwr_ne (Or.inr (by decide)), zwr_ne (Or.inr (by decide)), zfun (by decide)]
  exact hN
theorem flr_none {L : Nat → Int} : ∀ (n k : Nat), 1 ≤ k → flr L n k = 0 → ∀ j, k - 1 ≤ j → j < k - 1 + n → L j ≠ 102
  | 0, k, _, _, j, h1, h2 => by omega
  | n + 1, k, hk, h, j, h1, h2 => by
    rw [flr] at h
    by_cases e : L (k - 1) = 102
    · rw [if_pos e] at h; omega
    · rw [if_neg e] at h
      by_cases ej : j = k - 1
      · rw [ej]; exact e
      · exact flr_none n (k + 1) (by omega) h j (by omega) (by omega)
theorem StI.nil {g : Int → Int} : StI g 0 0 0 0 := ⟨fun _ => ⟨if_pos rfl, if_pos rfl⟩, fun a => by omega, fun a => by omega⟩

abbrev q_X6_hereP (κ h : Hp) (g : Int → Int) (p : Int) : Int → Hp → Prop := fun r h' => h' = h ∧ ((-2147483648 ≤ r) ∧ (r ≤ 2147483647) ∧ (r = g p ∧ (κ 53 2 ≤ κ 53 3 → r = -1)))
set_option maxHeartbeats 4000000 in
set_option maxRecDepth 20000 in
theorem s_X6_hereP {G : Ga} {b : Bd} {κ h : Hp} (hK : KC κ) (hF : Fr b κ h) (g : Int → Int) (p : Int) (hg : hr (κ 32) (κ 53 2) = g) (hn : 0 ≤ κ 53 2 ∧ κ 53 2 ≤ 120 ∧ κ 53 2 ≤ κ 31 1) (hp : κ 53 3 = p ∧ 0 ≤ p) : zM G mX6_here yX6_here [.inr (.inr 53)] h (q_X6_hereP κ h g p) := by
  have f_31_1 := KCt hK
  refine zM_of [some (.inr (.inr 53))] 0 rfl rfl (Nat.le_of_ble_eq_true rfl) rfl ?_
  refine zW_aload_n (pc' := 1) dX6_here_0.1.1.1.1 rfl rfl ?_
  refine zG_key (pc' := 4) hF rfl fg_X6_29 tb53 rfl dX6_here_0.1.1.1.2 rfl ?_
  have e1 := hF.rk (k := 53) (i := 3) rfl (by decide) (by decide)
  refine zW_aload_n (pc' := 5) dX6_here_0.1.1.2.1 rfl rfl ?_
  refine zG_key (pc' := 8) hF rfl fg_X6_25 tb53 rfl dX6_here_0.1.1.2.2 rfl ?_
  have e5 := hF.rk (k := 53) (i := 2) rfl (by decide) (by decide)
  refine zV_cm_ge (tgt := 25) (pc' := 11) dX6_here_0.1.2.1.1 rfl rfl ⟨by omega, by omega⟩ ⟨by omega, by omega⟩ (fun c8 => ?_) (fun c8 => ?_)
  · refine zW_iconst (pc' := 26) dX6_here_0.2.2.1.2 rfl ?_
    exact zV_iret rfl dX6_here_0.2.2.2 ⟨rfl, by refine ⟨by omega, by omega, ?_, by omega⟩; rw [← hg]; unfold hr; first | (obtain ⟨a1, a2, a3⟩ := p19.2.2.resolve_right (fun q => by omega); rw [if_pos (by omega), a3, hp.1]) | (rw [if_neg (by omega)])⟩
  · refine zW_aload_n (pc' := 12) dX6_here_0.1.2.1.2 rfl rfl ?_
    refine zG_ref (pc' := 15) 31 fg_X6_18 tb53 rfl dX6_here_0.1.2.2 rfl ?_
    refine zW_aload_n (pc' := 16) dX6_here_0.2.1.1.1 rfl rfl ?_
    refine zG_key (pc' := 19) hF rfl fg_X6_29 tb53 rfl dX6_here_0.2.1.1.2 rfl ?_
    have e16 := hF.rk (k := 53) (i := 3) rfl (by decide) (by decide)
    refine cvI1 (pc' := 22) kX9_byteAt vX9_byteAt lk_X6_101 ⟨Nat.le_of_ble_eq_true rfl, Nat.le_of_ble_eq_true rfl⟩ tb31 vq9 rfl rfl (s_X9_byteAtE hK hF _ ⟨by omega, by omega⟩) dX6_here_0.2.1.2 (Nat.le_of_ble_eq_true rfl) rfl ?_
    rintro r19 z19 ⟨hz19, p19⟩; subst z19
    refine zV_goto 26 dX6_here_0.2.2.1.1 rfl ?_
    exact zV_iret rfl dX6_here_0.2.2.2 ⟨rfl, by refine ⟨by omega, by omega, ?_, by omega⟩; rw [← hg]; unfold hr; first | (obtain ⟨a1, a2, a3⟩ := p19.2.2.resolve_right (fun q => by omega); rw [if_pos (by omega), a3, hp.1]) | (rw [if_neg (by omega)])⟩

abbrev q_X6_isDigitP (κ h : Hp) (g : Int → Int) (p : Int) : Int → Hp → Prop := fun r h' => h' = h ∧ ((0 ≤ r) ∧ (r ≤ 1) ∧ ((r = 1 ↔ (48 ≤ g p ∧ g p ≤ 57)) ∧ (κ 53 2 ≤ κ 53 3 → r = 0)))
set_option maxHeartbeats 4000000 in
set_option maxRecDepth 20000 in
theorem s_X6_isDigitP {G : Ga} {b : Bd} {κ h : Hp} (hK : KC κ) (hF : Fr b κ h) (g : Int → Int) (p : Int) (hg : hr (κ 32) (κ 53 2) = g) (hn : 0 ≤ κ 53 2 ∧ κ 53 2 ≤ 120 ∧ κ 53 2 ≤ κ 31 1) (hp : κ 53 3 = p ∧ 0 ≤ p) : zM G mX6_isDigit yX6_isDigit [.inr (.inr 53)] h (q_X6_isDigitP κ h g p) := by
  have f_31_1 := KCt hK
  refine zM_of [some (.inr (.inr 53))] 0 rfl rfl (Nat.le_of_ble_eq_true rfl) rfl ?_
  refine zW_aload_n (pc' := 1) dX6_isDigit_0.1.1.1.1 rfl rfl ?_
  refine cvI0 (pc' := 4) kX6_here vX6_here lk_X6_56 ⟨Nat.le_of_ble_eq_true rfl, Nat.le_of_ble_eq_true rfl⟩ tb53 vq6 rfl rfl (s_X6_hereP hK hF g p hg (by omega) (by omega)) dX6_isDigit_0.1.1.1.2 (Nat.le_of_ble_eq_true rfl) rfl ?_
  rintro r1 z1 ⟨hz1, p1⟩; subst z1
  refine zW_bipush (pc' := 6) dX6_isDigit_0.1.1.2 rfl rfl ?_
  refine zV_cm_lt (tgt := 22) (pc' := 9) dX6_isDigit_0.1.2.1.1 rfl rfl ⟨by omega, by omega⟩ ⟨by omega, by omega⟩ (fun c6 => ?_) (fun c6 => ?_)
  · refine zW_iconst (pc' := 23) dX6_isDigit_0.2.2.1.2 rfl ?_
    exact zV_zret rfl (by omega) dX6_isDigit_0.2.2.2 ⟨rfl, by omega⟩
  · refine zW_aload_n (pc' := 10) dX6_isDigit_0.1.2.1.2 rfl rfl ?_
    refine cvI0 (pc' := 13) kX6_here vX6_here lk_X6_56 ⟨Nat.le_of_ble_eq_true rfl, Nat.le_of_ble_eq_true rfl⟩ tb53 vq6 rfl rfl (s_X6_hereP hK hF g p hg (by omega) (by omega)) dX6_isDigit_0.1.2.2 (Nat.le_of_ble_eq_true rfl) rfl ?_
    rintro r10 z10 ⟨hz10, p10⟩; subst z10
    refine zW_bipush (pc' := 15) dX6_isDigit_0.2.1.1.1 rfl rfl ?_
    refine zV_cm_gt (tgt := 22) (pc' := 18) dX6_isDigit_0.2.1.1.2 rfl rfl ⟨by omega, by omega⟩ ⟨by omega, by omega⟩ (fun c15 => ?_) (fun c15 => ?_)
    · refine zW_iconst (pc' := 23) dX6_isDigit_0.2.2.1.2 rfl ?_
      exact zV_zret rfl (by omega) dX6_isDigit_0.2.2.2 ⟨rfl, by omega⟩
    · refine zW_iconst (pc' := 19) dX6_isDigit_0.2.1.2 rfl ?_
      refine zV_goto 23 dX6_isDigit_0.2.2.1.1 rfl ?_
      exact zV_zret rfl (by omega) dX6_isDigit_0.2.2.2 ⟨rfl, by omega⟩

abbrev q_X6_tellP (κ : Hp) (x1 : Int) (x2 : Int) : Int → Hp → Prop := fun r h' => Fm [(53, 4)] κ h' ∧ (((κ 53 4 ≠ 0 → h' 53 4 = κ 53 4) ∧ (κ 53 4 = 0 → h' 53 4 = -1000 * x1 - x2)))
set_option maxHeartbeats 4000000 in
set_option maxRecDepth 20000 in
theorem s_X6_tellP {G : Ga} {κ : Hp} (hS : SI κ) (hR : KR κ) (hC : KC κ) (x1 : Int) (hx1 : 1 ≤ x1 ∧ x1 ≤ 6) (x2 : Int) (hx2 : 0 ≤ x2 ∧ x2 ≤ 1000) : zM G mX6_tell yX6_tell [.inr (.inr 53), .inl x1, .inl x2] κ (q_X6_tellP κ x1 x2) := by
  refine zM_of [some (.inr (.inr 53)), some (.inl x1), some (.inl x2)] 0 rfl rfl (Nat.le_of_ble_eq_true rfl) rfl ?_
  refine (show ∀ h : Hp, Fm [(53, 4)] κ h → h = κ → zV G mX6_tell (q_X6_tellP κ x1 x2) 0 [some (.inr (.inr 53)), some (.inl x1), some (.inl x2)] [] h from fun h hF hk0 => ?_) κ (Fm.rf hS hR hC) rfl
  have y0_53_4 : h 53 4 = κ 53 4 := by rw [hk0]
  refine zW_aload_n (pc' := 1) dX6_tell_0.1.1.1.1 rfl rfl ?_
  refine zG_int (pc' := 4) fg_X6_32 tb53 rfl dX6_tell_0.1.1.1.2 rfl ?_
  have e1 := hF.rh 53 4
  refine zV_if_ne (tgt := 18) (pc' := 7) dX6_tell_0.1.1.2 rfl rfl ⟨by omega, by omega⟩ (fun c4 => ?_) (fun c4 => ?_)
  · exact zV_vret rfl dX6_tell_0.2.2.2 ⟨hF, by omega⟩
  · refine zW_aload_n (pc' := 8) dX6_tell_0.1.2.1.1 rfl rfl ?_
    refine zW_sipush (pc' := 11) dX6_tell_0.1.2.1.2 rfl rfl ?_
    refine zW_iload_n (pc' := 12) dX6_tell_0.1.2.2 rfl rfl ?_
    refine zW_imul (pc' := 13) dX6_tell_0.2.1.1.1 rfl ?_
    refine zW_iload_n (pc' := 14) dX6_tell_0.2.1.1.2 rfl rfl ?_
    refine zW_isub (pc' := 15) dX6_tell_0.2.1.2 rfl ?_
    refine zPm (pc' := 18) hF (Or.inl rfl) (SI_irr hF.2.1 (Or.inl rfl) (fun _ _ => ⟨by omega, by omega⟩)) (KR_irr hF.2.2.1 rfl) (KC_irr hF.2.2.2 rfl) fp_X6_32 tb53 rfl dX6_tell_0.2.2.1 rfl (fun h hF w15 => ?_)
    have t15_53_4 := congrFun (congrFun w15 53) 4
    rw [zwr_eq] at t15_53_4
    exact zV_vret rfl dX6_tell_0.2.2.2 ⟨hF, by omega⟩

abbrev q_X6_expectP (κ : Hp) (x1 : Int) (g : Int → Int) (p : Int) : Int → Hp → Prop := fun r h' => Fm [(53, 3), (53, 4)] κ h' ∧ ((h' 53 4 = sq (κ 53 4) (sF g p x1) ∧ (h' 53 4 = 0 → h' 53 3 = p + 1) ∧ h' 53 4 ≤ 0 ∧ κ 53 3 ≤ h' 53 3 ∧ (h' 53 3 = κ 53 3 ∨ h' 53 3 ≤ κ 53 2)))
set_option maxHeartbeats 4000000 in
set_option maxRecDepth 20000 in
theorem s_X6_expectP {G : Ga} {κ : Hp} (hS : SI κ) (hR : KR κ) (hC : KC κ) (x1 : Int) (hx1 : 0 ≤ x1 ∧ x1 ≤ 255) (g : Int → Int) (p : Int) (hg : hr (κ 32) (κ 53 2) = g) (hn : 0 ≤ κ 53 2 ∧ κ 53 2 ≤ 120 ∧ κ 53 2 ≤ κ 31 1) (hp : κ 53 4 = 0 → κ 53 3 = p ∧ 0 ≤ p) (ha : 0 ≤ κ 53 3 ∧ κ 53 3 ≤ 200) (hz : κ 53 4 ≤ 0) : zM G mX6_expect yX6_expect [.inr (.inr 53), .inl x1] κ (q_X6_expectP κ x1 g p) := by
  have f_31_1 := KCt hC
  have sf := sFc g p x1
  have sc := sqc (κ 53 4) (sF g p x1)
  refine zM_of [some (.inr (.inr 53)), some (.inl x1)] 0 rfl rfl (Nat.le_of_ble_eq_true rfl) rfl ?_
  refine (show ∀ h : Hp, Fm [(53, 3), (53, 4)] κ h → h = κ → zV G mX6_expect (q_X6_expectP κ x1 g p) 0 [some (.inr (.inr 53)), some (.inl x1)] [] h from fun h hF hk0 => ?_) κ (Fm.rf hS hR hC) rfl
  have y0_53_3 : h 53 3 = κ 53 3 := by rw [hk0]
  have y0_53_4 : h 53 4 = κ 53 4 := by rw [hk0]
  refine zW_aload_n (pc' := 1) dX6_expect_0.1.1.1.1 rfl rfl ?_
  refine zG_int (pc' := 4) fg_X6_32 tb53 rfl dX6_expect_0.1.1.1.2 rfl ?_
  have e1 := hF.rh 53 4
  refine zV_if_ne (tgt := 28) (pc' := 7) dX6_expect_0.1.1.2.1 rfl rfl ⟨by omega, by omega⟩ (fun c4 => ?_) (fun c4 => ?_)
  · refine zW_aload_n (pc' := 29) dX6_expect_0.2.2.2.1 rfl rfl ?_
    refine zW_iconst (pc' := 30) dX6_expect_0.2.2.2.2 rfl ?_
    refine zW_aload_n (pc' := 31) dX6_expect_1.1.1 rfl rfl ?_
    refine zG_int (pc' := 34) fg_X6_29 tb53 rfl dX6_expect_1.1.2 rfl ?_
    have e31 := hF.rh 53 3
    refine cvV2 (pc' := 37) kX6_tell vX6_tell lk_X6_59 ⟨Nat.le_of_ble_eq_true rfl, Nat.le_of_ble_eq_true rfl⟩ tb53 vq6 rfl rfl (s_X6_tellP hF.2.1 hF.2.2.1 hF.2.2.2 _ ⟨by omega, by omega⟩ _ ⟨by omega, by omega⟩) dX6_expect_1.2.1 (Nat.le_of_ble_eq_true rfl) rfl ?_
    rintro r34 h ⟨hF1, p34⟩; replace hF := hF.tr hF1 rfl
    have t34_53_3 := hF1.1 53 3 rfl rfl
    exact zV_vret rfl dX6_expect_1.2.2 ⟨hF, by omega⟩
  · refine zW_aload_n (pc' := 8) dX6_expect_0.1.1.2.2 rfl rfl ?_
    have y8_31_1 := hF.1 31 1 rfl rfl
    have y8_53_2 := hF.1 53 2 rfl rfl
    refine cvI0 (pc' := 11) kX6_here vX6_here lk_X6_56 ⟨Nat.le_of_ble_eq_true rfl, Nat.le_of_ble_eq_true rfl⟩ tb53 vq6 rfl rfl (s_X6_hereP (b := bdB true) (κ := h) hF.2.2.2 (Fr.rf hF.2.1) g p (by rw [hF.cell 32 rfl (fun _ => rfl), hF.1 53 2 rfl rfl]; exact hg) (by omega) (by omega)) dX6_expect_0.1.2.1.1 (Nat.le_of_ble_eq_true rfl) rfl ?_
    rintro r8 z8 ⟨hz8, p8⟩; subst z8
    refine zW_iload_n (pc' := 12) dX6_expect_0.1.2.1.2 rfl rfl ?_
    refine zV_cm_ne (tgt := 28) (pc' := 15) dX6_expect_0.1.2.2.1 rfl rfl ⟨by omega, by omega⟩ ⟨by omega, by omega⟩ (fun c12 => ?_) (fun c12 => ?_)
    · refine zW_aload_n (pc' := 29) dX6_expect_0.2.2.2.1 rfl rfl ?_
      refine zW_iconst (pc' := 30) dX6_expect_0.2.2.2.2 rfl ?_
      refine zW_aload_n (pc' := 31) dX6_expect_1.1.1 rfl rfl ?_
      refine zG_int (pc' := 34) fg_X6_29 tb53 rfl dX6_expect_1.1.2 rfl ?_
      have e31 := hF.rh 53 3
      refine cvV2 (pc' := 37) kX6_tell vX6_tell lk_X6_59 ⟨Nat.le_of_ble_eq_true rfl, Nat.le_of_ble_eq_true rfl⟩ tb53 vq6 rfl rfl (s_X6_tellP hF.2.1 hF.2.2.1 hF.2.2.2 _ ⟨by omega, by omega⟩ _ ⟨by omega, by omega⟩) dX6_expect_1.2.1 (Nat.le_of_ble_eq_true rfl) rfl ?_
      rintro r34 h ⟨hF1, p34⟩; replace hF := hF.tr hF1 rfl
      have t34_53_3 := hF1.1 53 3 rfl rfl
      exact zV_vret rfl dX6_expect_1.2.2 ⟨hF, by omega⟩
    · refine zW_aload_n (pc' := 16) dX6_expect_0.1.2.2.2 rfl rfl ?_
      refine zW_dup (pc' := 17) dX6_expect_0.2.1.1.1 rfl rfl ?_
      refine zG_int (pc' := 20) fg_X6_29 tb53 rfl dX6_expect_0.2.1.1.2 rfl ?_
      have e17 := hF.rh 53 3
      refine zW_iconst (pc' := 21) dX6_expect_0.2.1.2.1 rfl ?_
      refine zW_iadd (pc' := 22) dX6_expect_0.2.1.2.2 rfl ?_
      refine zPm (pc' := 25) hF (Or.inl rfl) (SI_irr hF.2.1 (Or.inl rfl) (fun _ _ => ⟨by omega, by omega⟩)) (KR_irr hF.2.2.1 rfl) (KC_irr hF.2.2.2 rfl) fp_X6_29 tb53 rfl dX6_expect_0.2.2.1.1 rfl (fun h hF w22 => ?_)
      have t22_53_3 := congrFun (congrFun w22 53) 3
      rw [zwr_eq] at t22_53_3
      have t22_53_4 := congrFun (congrFun w22 53) 4
      rw [zwr_ne (Or.inr (by decide))] at t22_53_4
      refine zV_goto 37 dX6_expect_0.2.2.1.2 rfl ?_
      exact zV_vret rfl dX6_expect_1.2.2 ⟨hF, by omega⟩

abbrev q_J1_canEncode_9a6adP (κ h : Hp) (x1 : Int) : Int → Hp → Prop := fun r h' => h' = h ∧ ((0 ≤ r) ∧ (r ≤ 1) ∧ (r = 1 ↔ (0 ≤ x1 ∧ x1 ≤ 255)))
set_option maxHeartbeats 4000000 in
set_option maxRecDepth 20000 in
theorem s_J1_canEncode_9a6adP {G : Ga} {b : Bd} {κ h : Hp} (hF : Fr b κ h) (x1 : Int) (hx1 : rng x1) : zM G mJ1_canEncode_9a6ad yJ1_canEncode_9a6ad [.inl x1] h (q_J1_canEncode_9a6adP κ h x1) := by
  unfold rng at hx1
  refine zM_of [some (.inl x1)] 0 (by decide +kernel) rfl (Nat.le_of_ble_eq_true rfl) rfl ?_
  refine zW_iload_n (pc' := 1) dJ1_canEncode_9a6ad_0.1.1.1.1 rfl rfl ?_
  refine zV_if_lt (tgt := 15) (pc' := 4) dJ1_canEncode_9a6ad_0.1.1.1.2 rfl rfl ⟨by omega, by omega⟩ (fun c1 => ?_) (fun c1 => ?_)
  · refine zW_iconst (pc' := 16) dJ1_canEncode_9a6ad_0.2.2.1 rfl ?_
    exact zV_zret rfl (by omega) dJ1_canEncode_9a6ad_0.2.2.2 ⟨rfl, by omega⟩
  · refine zW_iload_n (pc' := 5) dJ1_canEncode_9a6ad_0.1.1.2 rfl rfl ?_
    refine zW_sipush (pc' := 8) dJ1_canEncode_9a6ad_0.1.2.1 rfl rfl ?_
    refine zV_cm_gt (tgt := 15) (pc' := 11) dJ1_canEncode_9a6ad_0.1.2.2 rfl rfl ⟨by omega, by omega⟩ ⟨by omega, by omega⟩ (fun c8 => ?_) (fun c8 => ?_)
    · refine zW_iconst (pc' := 16) dJ1_canEncode_9a6ad_0.2.2.1 rfl ?_
      exact zV_zret rfl (by omega) dJ1_canEncode_9a6ad_0.2.2.2 ⟨rfl, by omega⟩
    · refine zW_iconst (pc' := 12) dJ1_canEncode_9a6ad_0.2.1.1 rfl ?_
      refine zV_goto 16 dJ1_canEncode_9a6ad_0.2.1.2 rfl ?_
      exact zV_zret rfl (by omega) dJ1_canEncode_9a6ad_0.2.2.2 ⟨rfl, by omega⟩

abbrev q_J1_indexOfChar_4cfefS0P (κ h : Hp) (x2 : Int) (x3 : Int) (x4 : Int) : Int → Hp → Prop := fun r h' => h' = h ∧ ((-1 ≤ r) ∧ (r ≤ 14) ∧ ((r = -1 ∧ ∀ j : Nat, j < 15 → sbv 0 j ≠ x2) ∨ (0 ≤ r ∧ r < 15 ∧ sbv 0 r.toNat = x2)))
set_option maxHeartbeats 4000000 in
set_option maxRecDepth 20000 in
theorem s_J1_indexOfChar_4cfefS0P {G : Ga} {b : Bd} {κ h : Hp} (hF : Fr b κ h) (x2 : Int) (hx2 : 0 ≤ x2 ∧ x2 ≤ 255) (x3 : Int) (hx3 : 0 ≤ x3 ∧ x3 ≤ 0) (x4 : Int) (hx4 : 15 ≤ x4 ∧ x4 ≤ 15) (hX : XI G) : zM G mJ1_indexOfChar_4cfef yJ1_indexOfChar_4cfef [.inr (.inr 108), .inl x2, .inl x3, .inl x4] h (q_J1_indexOfChar_4cfefS0P κ h x2 x3 x4) := by
  have main : ∀ N : Nat, (∀ (v4 v5 : Int) , (-128 ≤ v4 ∧ v4 ≤ 127) → (0 ≤ v5 ∧ v5 ≤ 15) → (∀ j : Nat, (j : Int) < v5 → sbv 0 j ≠ x2) → (v4 % 256 = x2) → 4080 + 16 * (15 - v5) + 15 < (N : Int) → zV G mJ1_indexOfChar_4cfef (q_J1_indexOfChar_4cfefS0P κ h x2 x3 x4) 7 [some (.inr (.inr 108)), some (.inl x2), some (.inl x3), some (.inl x4), some (.inl v4), some (.inl v5)] [] h) := by
    intro N
    induction N with
    | zero =>
      intro v4 v5 g0 g1 gc0 gc1 hm
      exfalso; omega
    | succ N ih =>
      have k7 := ih
      intro v4 v5 g0 g1 gc0 gc1 hm
      refine zW_iload (pc' := 9) dJ1_indexOfChar_4cfef_0.1.2.1.2 rfl rfl ?_
      refine zW_iload_n (pc' := 10) dJ1_indexOfChar_4cfef_0.1.2.2.1 rfl rfl ?_
      refine zV_cm_ge (tgt := 31) (pc' := 13) dJ1_indexOfChar_4cfef_0.1.2.2.2 rfl rfl ⟨by omega, by omega⟩ ⟨by omega, by omega⟩ (fun c10 => ?_) (fun c10 => ?_)
      · refine zW_iconst (pc' := 32) dJ1_indexOfChar_4cfef_1.1.2 rfl ?_
        exact zV_iret rfl dJ1_indexOfChar_4cfef_1.2 ⟨rfl, by refine ⟨by omega, by omega, Or.inl ⟨rfl, fun j hj => gc0 j (by omega)⟩⟩⟩
      · refine zW_aload_n (pc' := 14) dJ1_indexOfChar_4cfef_0.2.1.1.1 rfl rfl ?_
        refine zW_iload (pc' := 16) dJ1_indexOfChar_4cfef_0.2.1.1.2 rfl rfl ?_
        refine zV_sbaldE (z := 0) (pc' := 17) hX (by decide) (show _ ∧ _ < ((15 : Nat) : Int) from (by omega)) dJ1_indexOfChar_4cfef_0.2.1.2.1 rfl (fun v16 e16 f16 => ?_)
        unfold rng at e16
        have b16 := sbv_b v5.toNat (by omega)
        refine zW_iload (pc' := 19) dJ1_indexOfChar_4cfef_0.2.1.2.2 rfl rfl ?_
        refine zV_cm_ne (tgt := 25) (pc' := 22) dJ1_indexOfChar_4cfef_0.2.2.1.1 rfl rfl ⟨by omega, by omega⟩ ⟨by omega, by omega⟩ (fun c19 => ?_) (fun c19 => ?_)
        · refine zW_iinc (ls' := [_, _, _, _, _, _]) (pc' := 28) dJ1_indexOfChar_4cfef_0.2.2.2.2 rfl (by decide) rfl rfl rfl ?_
          refine zV_goto 7 dJ1_indexOfChar_4cfef_1.1.1 rfl ?_
          exact k7 _ _ (by omega) (by omega) (fun j => by have q0 := gc0 j; by_cases ej : j = v5.toNat; (subst ej; omega); omega) (by omega) (by omega)
        · refine zW_iload (pc' := 24) dJ1_indexOfChar_4cfef_0.2.2.1.2 rfl rfl ?_
          exact zV_iret rfl dJ1_indexOfChar_4cfef_0.2.2.2.1 ⟨rfl, by refine ⟨by omega, by omega, Or.inr ⟨by omega, by omega, by omega⟩⟩⟩
  refine zM_of [some (.inr (.inr 108)), some (.inl x2), some (.inl x3), some (.inl x4), none, none] 2 (by decide +kernel) rfl (Nat.le_of_ble_eq_true rfl) rfl ?_
  refine zW_iload_n (pc' := 1) dJ1_indexOfChar_4cfef_0.1.1.1.1 rfl rfl ?_
  refine zW_i2bE (pc' := 2) ⟨by omega, by omega⟩ dJ1_indexOfChar_4cfef_0.1.1.1.2 rfl (fun v1 e1 => ?_)
  refine zW_istore (ls' := [_, _, _, _, _, _]) (pc' := 4) dJ1_indexOfChar_4cfef_0.1.1.2.1 (by decide) rfl rfl rfl ?_
  refine zW_iload_n (pc' := 5) dJ1_indexOfChar_4cfef_0.1.1.2.2 rfl rfl ?_
  refine zW_istore (ls' := [_, _, _, _, _, _]) (pc' := 7) dJ1_indexOfChar_4cfef_0.1.2.1.1 (by decide) rfl rfl rfl ?_
  exact (main 10000000000000000000000000000000000000000) _ _ (by omega) (by omega) (fun j => by omega) (by omega) (by omega)

abbrev q_J1_indexOf_4cfefS0P (κ h : Hp) (x2 : Int) (x3 : Int) (x4 : Int) : Int → Hp → Prop := fun r h' => h' = h ∧ ((-1 ≤ r) ∧ (r ≤ 14) ∧ ((r = -1 ∧ ∀ j : Nat, j < 15 → sbv 0 j ≠ x2) ∨ (0 ≤ r ∧ r < 15 ∧ sbv 0 r.toNat = x2)))
set_option maxHeartbeats 4000000 in
set_option maxRecDepth 20000 in
theorem s_J1_indexOf_4cfefS0P {G : Ga} {b : Bd} {κ h : Hp} (hF : Fr b κ h) (x2 : Int) (hx2 : 0 ≤ x2 ∧ x2 ≤ 255) (x3 : Int) (hx3 : 0 ≤ x3 ∧ x3 ≤ 0) (x4 : Int) (hx4 : 15 ≤ x4 ∧ x4 ≤ 15) (hX : XI G) : zM G mJ1_indexOf_4cfef yJ1_indexOf_4cfef [.inr (.inr 108), .inl x2, .inl x3, .inl x4] h (q_J1_indexOf_4cfefS0P κ h x2 x3 x4) := by
  refine zM_of [some (.inr (.inr 108)), some (.inl x2), some (.inl x3), some (.inl x4)] 0 (by decide +kernel) rfl (Nat.le_of_ble_eq_true rfl) rfl ?_
  refine zW_iload_n (pc' := 1) dJ1_indexOf_4cfef_0.1.1.1.1 rfl rfl ?_
  refine csI1 (pc' := 4) kJ1_canEncode_9a6ad vJ1_canEncode_9a6ad lk_J1_88 ⟨Nat.le_of_ble_eq_true rfl, Nat.le_of_ble_eq_true rfl⟩ rfl (s_J1_canEncode_9a6adP hF _ ⟨by omega, by omega⟩) dJ1_indexOf_4cfef_0.1.1.1.2 (Nat.le_of_ble_eq_true rfl) rfl ?_
  rintro r1 z1 ⟨hz1, p1⟩; subst z1
  refine zV_if_ne (tgt := 9) (pc' := 7) dJ1_indexOf_4cfef_0.1.1.2.1 rfl rfl ⟨by omega, by omega⟩ (fun c4 => ?_) (fun c4 => ?_)
  · refine zW_iload_n (pc' := 10) dJ1_indexOf_4cfef_0.1.2.1.2 rfl rfl ?_
    refine zW_iconst (pc' := 11) dJ1_indexOf_4cfef_0.1.2.2.1 rfl ?_
    refine zV_mmax (pc' := 14) km_J1_92 (Nat.le_of_ble_eq_true rfl) (Nat.le_of_ble_eq_true rfl) dJ1_indexOf_4cfef_0.1.2.2.2 rfl (fun v11 e11 => ?_)
    replace e11 := e11.2 ⟨by omega, by omega⟩ ⟨by omega, by omega⟩
    refine zW_istore_n (ls' := [_, _, _, _]) (pc' := 15) dJ1_indexOf_4cfef_0.2.1.1.1 (by decide) rfl rfl rfl ?_
    refine zW_iload_n (pc' := 16) dJ1_indexOf_4cfef_0.2.1.1.2 rfl rfl ?_
    refine zW_aload_n (pc' := 17) dJ1_indexOf_4cfef_0.2.1.2.1 rfl rfl ?_
    refine zV_sblen0 (pc' := 18) hX dJ1_indexOf_4cfef_0.2.1.2.2 rfl ?_
    refine zV_mmin (pc' := 21) km_J1_38 (Nat.le_of_ble_eq_true rfl) (Nat.le_of_ble_eq_true rfl) dJ1_indexOf_4cfef_0.2.2.1.1 rfl (fun v18 e18 => ?_)
    replace e18 := e18.2 ⟨by omega, by omega⟩ ⟨by omega, by omega⟩
    refine zW_istore_n (ls' := [_, _, _, _]) (pc' := 22) dJ1_indexOf_4cfef_0.2.2.1.2 (by decide) rfl rfl rfl ?_
    refine zW_iload_n (pc' := 23) dJ1_indexOf_4cfef_0.2.2.2.1 rfl rfl ?_
    refine zW_iload_n (pc' := 24) dJ1_indexOf_4cfef_0.2.2.2.2 rfl rfl ?_
    refine zV_cm_lt (tgt := 29) (pc' := 27) dJ1_indexOf_4cfef_1.1.1.1.1 rfl rfl ⟨by omega, by omega⟩ ⟨by omega, by omega⟩ (fun c24 => ?_) (fun c24 => ?_)
    · refine zW_aload_n (pc' := 30) dJ1_indexOf_4cfef_1.1.2.1 rfl rfl ?_
      refine zW_iload_n (pc' := 31) dJ1_indexOf_4cfef_1.1.2.2 rfl rfl ?_
      refine zW_iload_n (pc' := 32) dJ1_indexOf_4cfef_1.2.1.1 rfl rfl ?_
      refine zW_iload_n (pc' := 33) dJ1_indexOf_4cfef_1.2.1.2 rfl rfl ?_
      refine csI4 (pc' := 36) kJ1_indexOfChar_4cfef vJ1_indexOfChar_4cfef lk_J1_95 ⟨Nat.le_of_ble_eq_true rfl, Nat.le_of_ble_eq_true rfl⟩ rfl (s_J1_indexOfChar_4cfefS0P hF _ ⟨by omega, by omega⟩ _ ⟨by omega, by omega⟩ _ ⟨by omega, by omega⟩ hX) dJ1_indexOf_4cfef_1.2.2.1 (Nat.le_of_ble_eq_true rfl) rfl ?_
      rintro r33 z33 ⟨hz33, p33⟩; subst z33
      exact zV_iret rfl dJ1_indexOf_4cfef_1.2.2.2 ⟨rfl, p33⟩
    · exfalso; omega
  · refine zW_iconst (pc' := 8) dJ1_indexOf_4cfef_0.1.1.2.2 rfl ?_
    exact zV_iret rfl dJ1_indexOf_4cfef_0.1.2.1.1 ⟨rfl, by exfalso; omega⟩

abbrev q_J0_indexOf_7cf53S0P (κ h : Hp) (x1 : Int) (x2 : Int) : Int → Hp → Prop := fun r h' => h' = h ∧ ((-1 ≤ r) ∧ (r ≤ 14) ∧ ((r = -1 ∧ ∀ j : Nat, j < 15 → sbv 0 j ≠ x1) ∨ (0 ≤ r ∧ r < 15 ∧ sbv 0 r.toNat = x1)))
set_option maxHeartbeats 4000000 in
set_option maxRecDepth 20000 in
theorem s_J0_indexOf_7cf53S0P {G : Ga} {b : Bd} {κ h : Hp} (hF : Fr b κ h) (x1 : Int) (hx1 : 0 ≤ x1 ∧ x1 ≤ 255) (x2 : Int) (hx2 : 0 ≤ x2 ∧ x2 ≤ 0) (hX : XI G) : zM G mJ0_indexOf_7cf53 yJ0_indexOf_7cf53 [.inr (.inr 106), .inl x1, .inl x2] h (q_J0_indexOf_7cf53S0P κ h x1 x2) := by
  refine zM_of [some (.inr (.inr 106)), some (.inl x1), some (.inl x2)] 0 (by decide +kernel) rfl (Nat.le_of_ble_eq_true rfl) rfl ?_
  refine zW_aload_n (pc' := 1) dJ0_indexOf_7cf53_0.1.1.1.1 rfl rfl ?_
  refine cwI0 (z := 0) hX (by decide) rfl (pc' := 4) kJ0_isLatin1_aae02 vJ0_isLatin1_aae02 lk_J0_492 ⟨Nat.le_of_ble_eq_true rfl, Nat.le_of_ble_eq_true rfl⟩ rfl (s_J0_isLatin1_aae02S0 hF hX) dJ0_indexOf_7cf53_0.1.1.1.2 (Nat.le_of_ble_eq_true rfl) rfl ?_
  rintro r1 z1 ⟨hz1, p1⟩; subst z1
  refine zV_if_eq (tgt := 23) (pc' := 7) dJ0_indexOf_7cf53_0.1.1.2.1 rfl rfl ⟨by omega, by omega⟩ (fun c4 => ?_) (fun c4 => ?_)
  · exfalso; omega
  · refine zW_aload_n (pc' := 8) dJ0_indexOf_7cf53_0.1.1.2.2 rfl rfl ?_
    refine zV_sval (z := 0) (pc' := 11) hX (by decide) w_svalue dJ0_indexOf_7cf53_0.1.2.1.1 rfl ?_
    refine zW_iload_n (pc' := 12) dJ0_indexOf_7cf53_0.1.2.1.2 rfl rfl ?_
    refine zW_iload_n (pc' := 13) dJ0_indexOf_7cf53_0.1.2.2.1 rfl rfl ?_
    refine zW_aload_n (pc' := 14) dJ0_indexOf_7cf53_0.1.2.2.2 rfl rfl ?_
    refine cwI0 (z := 0) hX (by decide) rfl (pc' := 17) kJ0_length_8abf5 vJ0_length_8abf5 lk_J0_505 ⟨Nat.le_of_ble_eq_true rfl, Nat.le_of_ble_eq_true rfl⟩ rfl (s_J0_length_8abf5S0 hF hX) dJ0_indexOf_7cf53_0.2.1.1.1 (Nat.le_of_ble_eq_true rfl) rfl ?_
    rintro r14 z14 ⟨hz14, p14⟩; subst z14
    refine csI4 (pc' := 20) kJ1_indexOf_4cfef vJ1_indexOf_4cfef lk_J0_637 ⟨Nat.le_of_ble_eq_true rfl, Nat.le_of_ble_eq_true rfl⟩ rfl (s_J1_indexOf_4cfefS0P hF _ ⟨by omega, by omega⟩ _ ⟨by omega, by omega⟩ _ ⟨by omega, by omega⟩ hX) dJ0_indexOf_7cf53_0.2.1.1.2 (Nat.le_of_ble_eq_true rfl) rfl ?_
    rintro r17 z17 ⟨hz17, p17⟩; subst z17
    refine zV_goto 36 dJ0_indexOf_7cf53_0.2.1.2.1 rfl ?_
    exact zV_iret rfl dJ0_indexOf_7cf53_1.2 ⟨rfl, p17⟩

abbrev q_J0_indexOf_0f7a4S0P (κ h : Hp) (x1 : Int) : Int → Hp → Prop := fun r h' => h' = h ∧ ((-1 ≤ r) ∧ (r ≤ 14) ∧ ((r = -1 ∧ ∀ j : Nat, j < 15 → sbv 0 j ≠ x1) ∨ (0 ≤ r ∧ r < 15 ∧ sbv 0 r.toNat = x1)))
set_option maxHeartbeats 4000000 in
set_option maxRecDepth 20000 in
theorem s_J0_indexOf_0f7a4S0P {G : Ga} {b : Bd} {κ h : Hp} (hF : Fr b κ h) (x1 : Int) (hx1 : 0 ≤ x1 ∧ x1 ≤ 255) (hX : XI G) : zM G mJ0_indexOf_0f7a4 yJ0_indexOf_0f7a4 [.inr (.inr 106), .inl x1] h (q_J0_indexOf_0f7a4S0P κ h x1) := by
  refine zM_of [some (.inr (.inr 106)), some (.inl x1)] 0 (by decide +kernel) rfl (Nat.le_of_ble_eq_true rfl) rfl ?_
  refine zW_aload_n (pc' := 1) dJ0_indexOf_0f7a4_0.1.1.1 rfl rfl ?_
  refine zW_iload_n (pc' := 2) dJ0_indexOf_0f7a4_0.1.1.2 rfl rfl ?_
  refine zW_iconst (pc' := 3) dJ0_indexOf_0f7a4_0.1.2 rfl ?_
  refine cwI2 (z := 0) hX (by decide) rfl (pc' := 6) kJ0_indexOf_7cf53 vJ0_indexOf_7cf53 lk_J0_633 ⟨Nat.le_of_ble_eq_true rfl, Nat.le_of_ble_eq_true rfl⟩ rfl (s_J0_indexOf_7cf53S0P hF _ ⟨by omega, by omega⟩ _ ⟨by omega, by omega⟩ hX) dJ0_indexOf_0f7a4_0.2.1 (Nat.le_of_ble_eq_true rfl) rfl ?_
  rintro r3 z3 ⟨hz3, p3⟩; subst z3
  exact zV_iret rfl dJ0_indexOf_0f7a4_0.2.2 ⟨rfl, p3⟩

abbrev q_X12_hereP (κ h : Hp) (g : Int → Int) (p : Int) : Int → Hp → Prop := fun r h' => h' = h ∧ ((-1 ≤ r) ∧ (r ≤ 255) ∧ (r = g p ∧ (κ 0 27 ≤ κ 0 26 → r = -1)))
set_option maxHeartbeats 4000000 in
set_option maxRecDepth 20000 in
theorem s_X12_hereP {G : Ga} {b : Bd} {κ h : Hp} (hK : KR κ) (hF : Fr b κ h) (g : Int → Int) (p : Int) (hg : hr (fun i => κ 12 i % 256) (κ 0 27) = g) (ht : κ 0 26 = p) (hp : 0 ≤ κ 0 26 ∧ κ 0 26 ≤ κ 0 27 ∧ κ 0 27 ≤ 120) : zM G mX12_here yX12_here [.inr (.inr 0)] h (q_X12_hereP κ h g p) := by
  refine zM_of [some (.inr (.inr 0))] 0 rfl rfl (Nat.le_of_ble_eq_true rfl) rfl ?_
  refine zW_aload_n (pc' := 1) dX12_here_0.1.1.1.1 rfl rfl ?_
  refine zG_key (pc' := 4) hF rfl fg_X12_123 tb0 rfl dX12_here_0.1.1.1.2 rfl ?_
  have e1 := hF.rk (k := 0) (i := 26) rfl (by decide) (by decide)
  refine zW_aload_n (pc' := 5) dX12_here_0.1.1.2.1 rfl rfl ?_
  refine zG_key (pc' := 8) hF rfl fg_X12_126 tb0 rfl dX12_here_0.1.1.2.2 rfl ?_
  have e5 := hF.rk (k := 0) (i := 27) rfl (by decide) (by decide)
  refine zV_cm_ge (tgt := 27) (pc' := 11) dX12_here_0.1.2.1.1 rfl rfl ⟨by omega, by omega⟩ ⟨by omega, by omega⟩ (fun c8 => ?_) (fun c8 => ?_)
  · refine zW_iconst (pc' := 28) dX12_here_0.2.2.1.2 rfl ?_
    exact zV_iret rfl dX12_here_0.2.2.2 ⟨rfl, by refine ⟨by omega, by omega, ?_, by omega⟩; rw [← hg]; unfold hr; first | (rw [if_pos (by omega), ← ht]; exact e23) | (rw [if_neg (by omega)])⟩
  · refine zW_aload_n (pc' := 12) dX12_here_0.1.2.1.2 rfl rfl ?_
    refine zG_ref (pc' := 15) 12 fg_X12_44 tb0 rfl dX12_here_0.1.2.2.1 rfl ?_
    refine zW_aload_n (pc' := 16) dX12_here_0.1.2.2.2 rfl rfl ?_
    refine zG_key (pc' := 19) hF rfl fg_X12_123 tb0 rfl dX12_here_0.2.1.1.1 rfl ?_
    have e16 := hF.rk (k := 0) (i := 26) rfl (by decide) (by decide)
    refine zA_keyb (pc' := 20) hF rfl tb12 (by omega) dX12_here_0.2.1.1.2 (by decide) rfl ?_
    refine zW_sipush (pc' := 23) dX12_here_0.2.1.2.1 rfl rfl ?_
    refine zW_iand255 (pc' := 24) dX12_here_0.2.1.2.2 rfl (fun v23 e23 => ?_)
    refine zV_goto 28 dX12_here_0.2.2.1.1 rfl ?_
    exact zV_iret rfl dX12_here_0.2.2.2 ⟨rfl, by refine ⟨by omega, by omega, ?_, by omega⟩; rw [← hg]; unfold hr; first | (rw [if_pos (by omega), ← ht]; exact e23) | (rw [if_neg (by omega)])⟩

abbrev q_X12_wrongAtP (κ : Hp) (x1 : Int) (x2 : Int) : Int → Hp → Prop := fun r h' => Fm [(0, 28)] κ h' ∧ ((0 ≤ r) ∧ (r ≤ 1) ∧ (r = 0 ∧ h' 0 28 = -1000 * x1 - x2))
set_option maxHeartbeats 4000000 in
set_option maxRecDepth 20000 in
theorem s_X12_wrongAtP {G : Ga} {κ : Hp} (hS : SI κ) (hR : KR κ) (hC : KC κ) (x1 : Int) (hx1 : 1 ≤ x1 ∧ x1 ≤ 6) (x2 : Int) (hx2 : 0 ≤ x2 ∧ x2 ≤ 150) : zM G mX12_wrongAt yX12_wrongAt [.inr (.inr 0), .inl x1, .inl x2] κ (q_X12_wrongAtP κ x1 x2) := by
  refine zM_of [some (.inr (.inr 0)), some (.inl x1), some (.inl x2)] 0 rfl rfl (Nat.le_of_ble_eq_true rfl) rfl ?_
  refine (show ∀ h : Hp, Fm [(0, 28)] κ h → h = κ → zV G mX12_wrongAt (q_X12_wrongAtP κ x1 x2) 0 [some (.inr (.inr 0)), some (.inl x1), some (.inl x2)] [] h from fun h hF hk0 => ?_) κ (Fm.rf hS hR hC) rfl
  refine zW_aload_n (pc' := 1) dX12_wrongAt_0.1.1.1.1 rfl rfl ?_
  refine zW_sipush (pc' := 4) dX12_wrongAt_0.1.1.1.2 rfl rfl ?_
  refine zW_iload_n (pc' := 5) dX12_wrongAt_0.1.1.2 rfl rfl ?_
  refine zW_imul (pc' := 6) dX12_wrongAt_0.1.2.1 rfl ?_
  refine zW_iload_n (pc' := 7) dX12_wrongAt_0.1.2.2 rfl rfl ?_
  refine zW_isub (pc' := 8) dX12_wrongAt_0.2.1.1 rfl ?_
  refine zPm (pc' := 11) hF (Or.inl rfl) (SI_irr hF.2.1 (Or.inl rfl) (fun _ _ => ⟨by omega, by omega⟩)) (KR_irr hF.2.2.1 rfl) (KC_irr hF.2.2.2 rfl) fp_X12_129 tb0 rfl dX12_wrongAt_0.2.1.2 rfl (fun h hF w8 => ?_)
  have t8_0_28 := congrFun (congrFun w8 0) 28
  rw [zwr_eq] at t8_0_28
  refine zW_iconst (pc' := 12) dX12_wrongAt_0.2.2.1 rfl ?_
  exact zV_zret rfl (by omega) dX12_wrongAt_0.2.2.2 ⟨hF, by omega⟩

abbrev q_X12_takesSignP (κ : Hp) (x1 : Int) (g : Int → Int) (p : Int) : Int → Hp → Prop := fun r h' => Fm [(0, 26), (0, 28)] κ h' ∧ ((0 ≤ r) ∧ (r ≤ 1) ∧ ((r = 1 ∧ sF g p x1 = 0 ∧ h' 0 26 = p + 1 ∧ p < κ 0 27) ∨ (r = 0 ∧ sF g p x1 ≠ 0 ∧ h' 0 28 = sF g p x1 ∧ h' 0 28 < 0 ∧ h' 0 26 = p)))
set_option maxHeartbeats 4000000 in
set_option maxRecDepth 20000 in
theorem s_X12_takesSignP {G : Ga} {κ : Hp} (hS : SI κ) (hR : KR κ) (hC : KC κ) (x1 : Int) (hx1 : 0 ≤ x1 ∧ x1 ≤ 255) (g : Int → Int) (p : Int) (hg : hr (fun i => κ 12 i % 256) (κ 0 27) = g) (ht : κ 0 26 = p) (hp : 0 ≤ κ 0 26 ∧ κ 0 26 ≤ κ 0 27 ∧ κ 0 27 ≤ 120) : zM G mX12_takesSign yX12_takesSign [.inr (.inr 0), .inl x1] κ (q_X12_takesSignP κ x1 g p) := by
  have sf := sFc g p x1
  refine zM_of [some (.inr (.inr 0)), some (.inl x1)] 0 rfl rfl (Nat.le_of_ble_eq_true rfl) rfl ?_
  refine (show ∀ h : Hp, Fm [(0, 26), (0, 28)] κ h → h = κ → zV G mX12_takesSign (q_X12_takesSignP κ x1 g p) 0 [some (.inr (.inr 0)), some (.inl x1)] [] h from fun h hF hk0 => ?_) κ (Fm.rf hS hR hC) rfl
  have y0_0_26 : h 0 26 = κ 0 26 := by rw [hk0]
  have y0_0_27 : h 0 27 = κ 0 27 := by rw [hk0]
  refine zW_aload_n (pc' := 1) dX12_takesSign_0.1.1.1.1 rfl rfl ?_
  have y1_0_27 := hF.1 0 27 rfl rfl
  refine cvI0 (pc' := 4) kX12_here vX12_here lk_X12_132 ⟨Nat.le_of_ble_eq_true rfl, Nat.le_of_ble_eq_true rfl⟩ tb0 vq12 rfl rfl (s_X12_hereP (b := bdB true) (κ := h) hF.2.2.1 (Fr.rf hF.2.1) g p (by rw [hF.cell 12 rfl (fun _ => rfl), hF.1 0 27 rfl rfl]; exact hg) (by omega) (by omega)) dX12_takesSign_0.1.1.1.2 (Nat.le_of_ble_eq_true rfl) rfl ?_
  rintro r1 z1 ⟨hz1, p1⟩; subst z1
  refine zW_iload_n (pc' := 5) dX12_takesSign_0.1.1.2.1 rfl rfl ?_
  refine zV_cm_eq (tgt := 18) (pc' := 8) dX12_takesSign_0.1.1.2.2 rfl rfl ⟨by omega, by omega⟩ ⟨by omega, by omega⟩ (fun c5 => ?_) (fun c5 => ?_)
  · refine zW_aload_n (pc' := 19) dX12_takesSign_0.2.1.2.1 rfl rfl ?_
    refine zW_aload_n (pc' := 20) dX12_takesSign_0.2.1.2.2 rfl rfl ?_
    refine zG_int (pc' := 23) fg_X12_123 tb0 rfl dX12_takesSign_0.2.2.1.1 rfl ?_
    have e20 := hF.rh 0 26
    refine zW_iconst (pc' := 24) dX12_takesSign_0.2.2.1.2 rfl ?_
    refine zW_iadd (pc' := 25) dX12_takesSign_0.2.2.2.1 rfl ?_
    refine zPm (pc' := 28) hF (Or.inl rfl) (SI_irr hF.2.1 (Or.inl rfl) (fun _ _ => ⟨by omega, by omega⟩)) (KR_irr hF.2.2.1 rfl) (KC_irr hF.2.2.2 rfl) fp_X12_123 tb0 rfl dX12_takesSign_0.2.2.2.2 rfl (fun h hF w25 => ?_)
    have t25_0_26 := congrFun (congrFun w25 0) 26
    rw [zwr_eq] at t25_0_26
    have t25_0_28 := congrFun (congrFun w25 0) 28
    rw [zwr_ne (Or.inr (by decide))] at t25_0_28
    refine zW_iconst (pc' := 29) dX12_takesSign_1.1 rfl ?_
    exact zV_zret rfl (by omega) dX12_takesSign_1.2 ⟨hF, by omega⟩
  · refine zW_aload_n (pc' := 9) dX12_takesSign_0.1.2.1.1 rfl rfl ?_
    refine zW_iconst (pc' := 10) dX12_takesSign_0.1.2.1.2 rfl ?_
    refine zW_aload_n (pc' := 11) dX12_takesSign_0.1.2.2.1 rfl rfl ?_
    refine zG_int (pc' := 14) fg_X12_123 tb0 rfl dX12_takesSign_0.1.2.2.2 rfl ?_
    have e11 := hF.rh 0 26
    refine cvI2 (pc' := 17) kX12_wrongAt vX12_wrongAt lk_X12_136 ⟨Nat.le_of_ble_eq_true rfl, Nat.le_of_ble_eq_true rfl⟩ tb0 vq12 rfl rfl (s_X12_wrongAtP hF.2.1 hF.2.2.1 hF.2.2.2 _ ⟨by omega, by omega⟩ _ ⟨by omega, by omega⟩) dX12_takesSign_0.2.1.1.1 (Nat.le_of_ble_eq_true rfl) rfl ?_
    rintro r14 h ⟨hF1, p14⟩; replace hF := hF.tr hF1 rfl
    have t14_0_26 := hF1.1 0 26 rfl rfl
    exact zV_zret rfl (by omega) dX12_takesSign_0.2.1.1.2 ⟨hF, by omega⟩

abbrev q_X12_readsNumberP (κ : Hp) (x1 : Int) (x2 : Int) (g : Int → Int) (p : Int) : Int → Hp → Prop := fun r h' => Fm [(0, 26), (0, 28), (0, 29), (0, 31), (15, 999)] κ h' ∧ ((0 ≤ r) ∧ (r ≤ 1) ∧ (κ 0 26 ≤ h' 0 26 ∧ h' 0 26 ≤ κ 0 27 ∧ Pre15 κ h' ∧ ((r = 1 ∧ x1 ≤ h' 0 29 ∧ h' 0 29 ≤ x2 ∧ h' 0 31 = κ 0 31 + 1 ∧ κ 0 26 < h' 0 26 ∧ h' 15 (κ 0 31).toNat = h' 0 29) ∨ (r = 0 ∧ h' 0 31 = κ 0 31)) ∧ ((r = 1 ∧ nF g p x1 x2 = 0 ∧ h' 0 26 = p + nD g p ∧ h' 0 29 = nV g p) ∨ (r = 0 ∧ nF g p x1 x2 ≠ 0 ∧ h' 0 28 = nF g p x1 x2 ∧ h' 0 28 < 0))))
set_option maxHeartbeats 4000000 in
set_option maxRecDepth 20000 in
theorem s_X12_readsNumberP {G : Ga} {κ : Hp} (hS : SI κ) (hR : KR κ) (hC : KC κ) (x1 : Int) (hx1 : 0 ≤ x1 ∧ x1 ≤ 256) (x2 : Int) (hx2 : 0 ≤ x2 ∧ x2 ≤ 255) (g : Int → Int) (p : Int) (hp : 0 ≤ κ 0 26 ∧ κ 0 26 ≤ κ 0 27 ∧ κ 0 27 ≤ 120) (hq : 0 ≤ κ 0 31 ∧ κ 0 31 ≤ κ 0 26) (hg : hr (fun i => κ 12 i % 256) (κ 0 27) = g) (ht : κ 0 26 = p) : zM G mX12_readsNumber yX12_readsNumber [.inr (.inr 0), .inl x1, .inl x2] κ (q_X12_readsNumberP κ x1 x2 g p) := by
  have main : ∀ N : Nat, (∀ (v3 : Int) (h : Hp), Fm [(0, 26), (0, 28), (0, 29), (0, 31), (15, 999)] κ h → (0 ≤ v3 ∧ v3 ≤ 120) → (v3 = κ 0 26 ∧ κ 0 26 ≤ h 0 26 ∧ h 0 26 ≤ κ 0 27 ∧ h 0 26 ≤ κ 0 26 + 3) → (h 0 31 = κ 0 31) → (0 ≤ h 0 29 ∧ h 0 29 ≤ 999) → (h 0 29 = nVk g p (h 0 26 - p).toNat) → (Pre15 κ h) → (DG g p (h 0 26 - p)) → (48 ≤ g p ∧ g p ≤ 57) → 596836 + 68 * (κ 0 27 - h 0 26) + 67 < (N : Int) → zV G mX12_readsNumber (q_X12_readsNumberP κ x1 x2 g p) 30 [some (.inr (.inr 0)), some (.inl x1), some (.inl x2), some (.inl v3)] [] h) ∧ (∀ (v3 : Int) (h : Hp), Fm [(0, 26), (0, 28), (0, 29), (0, 31), (15, 999)] κ h → (0 ≤ v3 ∧ v3 ≤ 120) → (v3 = κ 0 26 ∧ κ 0 26 < h 0 26 ∧ h 0 26 ≤ κ 0 27) → (h 0 31 = κ 0 31) → (0 ≤ h 0 29 ∧ h 0 29 ≤ 999) → (Pre15 κ h) → (h 0 26 = p + nD g p ∧ h 0 29 = nV g p ∧ nD g p ≠ 0 ∧ nD g p ≠ 4) → 561204 < (N : Int) → zV G mX12_readsNumber (q_X12_readsNumberP κ x1 x2 g p) 92 [some (.inr (.inr 0)), some (.inl x1), some (.inl x2), some (.inl v3)] [] h) := by
    intro N
    induction N with
    | zero =>
      refine ⟨?_, ?_⟩
      · intro v3 h hF g0 gc0 gc1 gc2 gc3 gc4 gc5 gc6 hm
        exfalso; omega
      · intro v3 h hF g0 gc0 gc1 gc2 gc3 gc4 hm
        exfalso; omega
    | succ N ih =>
      obtain ⟨k30, k92⟩ := ih
      refine ⟨?_, ?_⟩
      · intro v3 h hF g0 gc0 gc1 gc2 gc3 gc4 gc5 gc6 hm
        have y27 := hF.1 0 27 rfl rfl
        have hPre := gc4
        obtain ⟨q, eq⟩ : ∃ q : Int, q = h 0 26 := ⟨_, rfl⟩
        have e2 : p + (q - p) = q := by omega
        rw [← eq] at gc5
        refine zW_aload_n (pc' := 31) dX12_readsNumber_1.1.1.1.1 rfl rfl ?_
        have y31_0_27 := hF.1 0 27 rfl rfl
        refine cvI0 (pc' := 34) kX12_here vX12_here lk_X12_132 ⟨Nat.le_of_ble_eq_true rfl, Nat.le_of_ble_eq_true rfl⟩ tb0 vq12 rfl rfl (s_X12_hereP (b := bdB true) (κ := h) hF.2.2.1 (Fr.rf hF.2.1) g q (by rw [hF.cell 12 rfl (fun _ => rfl), hF.1 0 27 rfl rfl]; exact hg) (by omega) (by omega)) dX12_readsNumber_1.1.1.1.2 (Nat.le_of_ble_eq_true rfl) rfl ?_
        rintro r31 z31 ⟨hz31, p31⟩; subst z31
        refine csI1 (pc' := 37) kX12_isDigit vX12_isDigit lk_X12_144 ⟨Nat.le_of_ble_eq_true rfl, Nat.le_of_ble_eq_true rfl⟩ rfl (s_X12_isDigit (b := bdB true) (κ := h) (Fr.rf hF.2.1) _ ⟨by omega, by omega⟩) dX12_readsNumber_1.1.1.2.1 (Nat.le_of_ble_eq_true rfl) rfl ?_
        rintro r34 z34 ⟨hz34, p34⟩; subst z34
        refine zV_if_eq (tgt := 92) (pc' := 40) dX12_readsNumber_1.1.1.2.2 rfl rfl ⟨by omega, by omega⟩ (fun c37 => ?_) (fun c37 => ?_)
        · exact k92 _ _ hF (by omega) (by have l1 : q ≠ p := (fun z => by rw [z] at p31; omega); omega) (by omega) (by omega) hPre (by have nd := nD_end (v := q - p) ⟨by omega, by omega⟩ gc5 (by rw [e2, ← p31.2.2.1]; omega); rw [← eq] at gc3; have l1 : q ≠ p := (fun z => by rw [z] at p31; omega); omega) (by omega)
        · refine zW_aload_n (pc' := 41) dX12_readsNumber_1.1.2.1.1 rfl rfl ?_
          refine zG_int (pc' := 44) fg_X12_123 tb0 rfl dX12_readsNumber_1.1.2.1.2 rfl ?_
          have e41 := hF.rh 0 26
          refine zW_iload_n (pc' := 45) dX12_readsNumber_1.1.2.2.1 rfl rfl ?_
          refine zW_iconst (pc' := 46) dX12_readsNumber_1.1.2.2.2 rfl ?_
          refine zW_iadd (pc' := 47) dX12_readsNumber_1.2.1.1.1 rfl ?_
          refine zV_cm_ne (tgt := 60) (pc' := 50) dX12_readsNumber_1.2.1.1.2 rfl rfl ⟨by omega, by omega⟩ ⟨by omega, by omega⟩ (fun c47 => ?_) (fun c47 => ?_)
          · have bd := nVk_b (v := q - p) gc5 ⟨by omega, by omega⟩
            have dg1 : 48 ≤ g q ∧ g q ≤ 57 := by rw [← p31.2.2.1]; omega
            rw [← eq] at gc3
            refine zW_aload_n (pc' := 61) dX12_readsNumber_2.1.1.1.1 rfl rfl ?_
            refine zW_bipush (pc' := 63) dX12_readsNumber_2.1.1.1.2 rfl rfl ?_
            refine zW_aload_n (pc' := 64) dX12_readsNumber_2.1.1.2.1 rfl rfl ?_
            refine zG_int (pc' := 67) fg_X12_148 tb0 rfl dX12_readsNumber_2.1.1.2.2 rfl ?_
            have e64 := hF.rh 0 29
            refine zW_imul (pc' := 68) dX12_readsNumber_2.1.2.1.1 rfl ?_
            refine zW_aload_n (pc' := 69) dX12_readsNumber_2.1.2.1.2 rfl rfl ?_
            have y69_0_27 := hF.1 0 27 rfl rfl
            refine cvI0 (pc' := 72) kX12_here vX12_here lk_X12_132 ⟨Nat.le_of_ble_eq_true rfl, Nat.le_of_ble_eq_true rfl⟩ tb0 vq12 rfl rfl (s_X12_hereP (b := bdB true) (κ := h) hF.2.2.1 (Fr.rf hF.2.1) g q (by rw [hF.cell 12 rfl (fun _ => rfl), hF.1 0 27 rfl rfl]; exact hg) (by omega) (by omega)) dX12_readsNumber_2.1.2.2.1 (Nat.le_of_ble_eq_true rfl) rfl ?_
            rintro r69 z69 ⟨hz69, p69⟩; subst z69
            refine zW_iadd (pc' := 73) dX12_readsNumber_2.1.2.2.2 rfl ?_
            refine zW_bipush (pc' := 75) dX12_readsNumber_2.2.1.1.1 rfl rfl ?_
            refine zW_isub (pc' := 76) dX12_readsNumber_2.2.1.1.2 rfl ?_
            refine zPm (pc' := 79) hF (Or.inl rfl) (SI_irr hF.2.1 (Or.inl rfl) (fun _ _ => ⟨by omega, by omega⟩)) (KR_irr hF.2.2.1 rfl) (KC_irr hF.2.2.2 rfl) fp_X12_148 tb0 rfl dX12_readsNumber_2.2.1.2.1 rfl (fun h hF w76 => ?_)
            replace hPre : Pre15 κ h := by rw [w76]; exact hPre.w (by decide)
            have t76_0_26 := congrFun (congrFun w76 0) 26
            rw [zwr_ne (Or.inr (by decide))] at t76_0_26
            have t76_0_29 := congrFun (congrFun w76 0) 29
            rw [zwr_eq] at t76_0_29
            have t76_0_31 := congrFun (congrFun w76 0) 31
            rw [zwr_ne (Or.inr (by decide))] at t76_0_31
            have t76_0_28 := congrFun (congrFun w76 0) 28
            rw [zwr_ne (Or.inr (by decide))] at t76_0_28
            refine zW_aload_n (pc' := 80) dX12_readsNumber_2.2.1.2.2 rfl rfl ?_
            refine zW_aload_n (pc' := 81) dX12_readsNumber_2.2.2.1.1 rfl rfl ?_
            refine zG_int (pc' := 84) fg_X12_123 tb0 rfl dX12_readsNumber_2.2.2.1.2 rfl ?_
            have e81 := hF.rh 0 26
            refine zW_iconst (pc' := 85) dX12_readsNumber_2.2.2.2.1 rfl ?_
            refine zW_iadd (pc' := 86) dX12_readsNumber_2.2.2.2.2 rfl ?_
            refine zPm (pc' := 89) hF (Or.inl rfl) (SI_irr hF.2.1 (Or.inl rfl) (fun _ _ => ⟨by omega, by omega⟩)) (KR_irr hF.2.2.1 rfl) (KC_irr hF.2.2.2 rfl) fp_X12_123 tb0 rfl dX12_readsNumber_3.1.1.1.1 rfl (fun h hF w86 => ?_)
            replace hPre : Pre15 κ h := by rw [w86]; exact hPre.w (by decide)
            have t86_0_26 := congrFun (congrFun w86 0) 26
            rw [zwr_eq] at t86_0_26
            have t86_0_29 := congrFun (congrFun w86 0) 29
            rw [zwr_ne (Or.inr (by decide))] at t86_0_29
            have t86_0_31 := congrFun (congrFun w86 0) 31
            rw [zwr_ne (Or.inr (by decide))] at t86_0_31
            have t86_0_28 := congrFun (congrFun w86 0) 28
            rw [zwr_ne (Or.inr (by decide))] at t86_0_28
            refine zV_goto 30 dX12_readsNumber_3.1.1.1.2 rfl ?_
            exact k30 _ _ hF (by omega) (by omega) (by omega) (by omega) (by first | (rw [show h 0 26 - p = 0 by omega]; show h 0 29 = 0; omega) | (rw [show h 0 26 - p = (q - p) + 1 by omega, nVk_s (by omega), e2]; omega)) hPre (by first | (rw [show h 0 26 - p = 0 by omega]; exact DG_0) | (rw [show h 0 26 - p = (q - p) + 1 by omega]; exact DG_s gc5 (by rw [e2]; exact dg1))) (by omega) (by omega)
          · have nd : nD g p = 4 := nD_4 (by rw [show (3 : Int) = q - p by omega]; exact gc5) (by rw [show p + 3 = q by omega, ← p31.2.2.1]; omega)
            have nf := nFc g p x1 x2
            refine zW_aload_n (pc' := 51) dX12_readsNumber_1.2.1.2.1 rfl rfl ?_
            refine zW_iconst (pc' := 52) dX12_readsNumber_1.2.1.2.2 rfl ?_
            refine zW_aload_n (pc' := 53) dX12_readsNumber_1.2.2.1.1 rfl rfl ?_
            refine zG_int (pc' := 56) fg_X12_123 tb0 rfl dX12_readsNumber_1.2.2.1.2 rfl ?_
            have e53 := hF.rh 0 26
            refine cvI2 (pc' := 59) kX12_wrongAt vX12_wrongAt lk_X12_136 ⟨Nat.le_of_ble_eq_true rfl, Nat.le_of_ble_eq_true rfl⟩ tb0 vq12 rfl rfl (s_X12_wrongAtP hF.2.1 hF.2.2.1 hF.2.2.2 _ ⟨by omega, by omega⟩ _ ⟨by omega, by omega⟩) dX12_readsNumber_1.2.2.2.1 (Nat.le_of_ble_eq_true rfl) rfl ?_
            rintro r56 h ⟨hF1, p56⟩; replace hF := hF.tr hF1 rfl
            replace hPre : Pre15 κ h := hPre.fm hF1 (fun _ => rfl)
            have t56_0_26 := hF1.1 0 26 rfl rfl
            have t56_0_29 := hF1.1 0 29 rfl rfl
            have t56_0_31 := hF1.1 0 31 rfl rfl
            exact zV_zret rfl (by omega) dX12_readsNumber_1.2.2.2.2 ⟨hF, by refine ⟨by omega, by omega, by omega, by omega, hPre, by omega, ?_⟩; omega⟩
      · intro v3 h hF g0 gc0 gc1 gc2 gc3 gc4 hm
        have y27 := hF.1 0 27 rfl rfl
        have hPre := gc3
        have nf := nFc g p x1 x2
        refine zW_aload_n (pc' := 93) dX12_readsNumber_3.1.1.2.1 rfl rfl ?_
        refine zG_int (pc' := 96) fg_X12_148 tb0 rfl dX12_readsNumber_3.1.1.2.2 rfl ?_
        have e93 := hF.rh 0 29
        refine zW_iload_n (pc' := 97) dX12_readsNumber_3.1.2.1.1 rfl rfl ?_
        refine zW_iload_n (pc' := 98) dX12_readsNumber_3.1.2.1.2 rfl rfl ?_
        refine csI3 (pc' := 101) kX12_in vX12_in lk_X12_140 ⟨Nat.le_of_ble_eq_true rfl, Nat.le_of_ble_eq_true rfl⟩ rfl (s_X12_inR (b := bdB true) (κ := h) (Fr.rf hF.2.1) _ ⟨by omega, by omega⟩ _ ⟨by omega, by omega⟩ _ ⟨by omega, by omega⟩) dX12_readsNumber_3.1.2.2.1 (Nat.le_of_ble_eq_true rfl) rfl ?_
        rintro r98 z98 ⟨hz98, p98⟩; subst z98
        refine zV_if_ne (tgt := 111) (pc' := 104) dX12_readsNumber_3.1.2.2.2 rfl rfl ⟨by omega, by omega⟩ (fun c101 => ?_) (fun c101 => ?_)
        · refine zW_aload_n (pc' := 112) dX12_readsNumber_3.2.2.1.2 rfl rfl ?_
          refine zG_ref (pc' := 115) 15 fg_X12_54 tb0 rfl dX12_readsNumber_3.2.2.2.1 rfl ?_
          refine zW_aload_n (pc' := 116) dX12_readsNumber_3.2.2.2.2 rfl rfl ?_
          refine zG_int (pc' := 119) fg_X12_151 tb0 rfl dX12_readsNumber_4.1.1.1.1 rfl ?_
          have e116 := hF.rh 0 31
          refine zW_aload_n (pc' := 120) dX12_readsNumber_4.1.1.1.2 rfl rfl ?_
          refine zG_int (pc' := 123) fg_X12_148 tb0 rfl dX12_readsNumber_4.1.1.2 rfl ?_
          have e120 := hF.rh 0 29
          refine zSm (pc' := 124) hF rfl (fun v' hv he => ⟨(SI_irr hF.2.1 (Or.inl (key_of rfl _)) (fun _ _ => hv)), (KR_c15 hF.2.2.1 (by have := he ⟨by omega, by omega⟩; omega)), (KC_irr hF.2.2.2 rfl)⟩) tb15 (by omega) dX12_readsNumber_4.1.2.1.1 (by decide) rfl (fun h i123 hF a123 b123 w123 => ?_)
          replace hPre : Pre15 κ h := by rw [w123]; exact hPre.n (by omega)
          have t123_0_26 := congrFun (congrFun w123 0) 26
          rw [zwr_ne (Or.inl (by decide))] at t123_0_26
          have t123_0_29 := congrFun (congrFun w123 0) 29
          rw [zwr_ne (Or.inl (by decide))] at t123_0_29
          have t123_0_31 := congrFun (congrFun w123 0) 31
          rw [zwr_ne (Or.inl (by decide))] at t123_0_31
          have t123_0_28 := congrFun (congrFun w123 0) 28
          rw [zwr_ne (Or.inl (by decide))] at t123_0_28
          have q123 : h 15 (κ 0 31).toNat = i123 := by rw [w123, ← gc1]; exact zwr_eq
          have q2 := b123 ⟨by omega, by omega⟩
          refine zW_aload_n (pc' := 125) dX12_readsNumber_4.1.2.1.2 rfl rfl ?_
          refine zW_aload_n (pc' := 126) dX12_readsNumber_4.1.2.2 rfl rfl ?_
          refine zG_int (pc' := 129) fg_X12_151 tb0 rfl dX12_readsNumber_4.2.1.1.1 rfl ?_
          have e126 := hF.rh 0 31
          refine zW_iconst (pc' := 130) dX12_readsNumber_4.2.1.1.2 rfl ?_
          refine zW_iadd (pc' := 131) dX12_readsNumber_4.2.1.2 rfl ?_
          refine zPm (pc' := 134) hF (Or.inl rfl) (SI_irr hF.2.1 (Or.inl rfl) (fun _ _ => ⟨by omega, by omega⟩)) (KR_irr hF.2.2.1 rfl) (KC_irr hF.2.2.2 rfl) fp_X12_151 tb0 rfl dX12_readsNumber_4.2.2.1.1 rfl (fun h hF w131 => ?_)
          replace hPre : Pre15 κ h := by rw [w131]; exact hPre.w (by decide)
          have t131_0_26 := congrFun (congrFun w131 0) 26
          rw [zwr_ne (Or.inr (by decide))] at t131_0_26
          have t131_0_29 := congrFun (congrFun w131 0) 29
          rw [zwr_ne (Or.inr (by decide))] at t131_0_29
          have t131_0_31 := congrFun (congrFun w131 0) 31
          rw [zwr_eq] at t131_0_31
          have t131_0_28 := congrFun (congrFun w131 0) 28
          rw [zwr_ne (Or.inr (by decide))] at t131_0_28
          have q131 : h 15 (κ 0 31).toNat = i123 := by rw [w131, zwr_ne (Or.inl (by decide))]; exact q123
          refine zW_iconst (pc' := 135) dX12_readsNumber_4.2.2.1.2 rfl ?_
          exact zV_zret rfl (by omega) dX12_readsNumber_4.2.2.2 ⟨hF, by refine ⟨by omega, by omega, by omega, by omega, hPre, by omega, ?_⟩; omega⟩
        · refine zW_aload_n (pc' := 105) dX12_readsNumber_3.2.1.1.1 rfl rfl ?_
          refine zW_iconst (pc' := 106) dX12_readsNumber_3.2.1.1.2 rfl ?_
          refine zW_iload_n (pc' := 107) dX12_readsNumber_3.2.1.2.1 rfl rfl ?_
          refine cvI2 (pc' := 110) kX12_wrongAt vX12_wrongAt lk_X12_136 ⟨Nat.le_of_ble_eq_true rfl, Nat.le_of_ble_eq_true rfl⟩ tb0 vq12 rfl rfl (s_X12_wrongAtP hF.2.1 hF.2.2.1 hF.2.2.2 _ ⟨by omega, by omega⟩ _ ⟨by omega, by omega⟩) dX12_readsNumber_3.2.1.2.2 (Nat.le_of_ble_eq_true rfl) rfl ?_
          rintro r107 h ⟨hF1, p107⟩; replace hF := hF.tr hF1 rfl
          replace hPre : Pre15 κ h := hPre.fm hF1 (fun _ => rfl)
          have t107_0_26 := hF1.1 0 26 rfl rfl
          have t107_0_29 := hF1.1 0 29 rfl rfl
          have t107_0_31 := hF1.1 0 31 rfl rfl
          exact zV_zret rfl (by omega) dX12_readsNumber_3.2.2.1.1 ⟨hF, by refine ⟨by omega, by omega, by omega, by omega, hPre, by omega, ?_⟩; omega⟩
  refine zM_of [some (.inr (.inr 0)), some (.inl x1), some (.inl x2), none] 1 rfl rfl (Nat.le_of_ble_eq_true rfl) rfl ?_
  refine (show ∀ h : Hp, Fm [(0, 26), (0, 28), (0, 29), (0, 31), (15, 999)] κ h → h = κ → zV G mX12_readsNumber (q_X12_readsNumberP κ x1 x2 g p) 0 [some (.inr (.inr 0)), some (.inl x1), some (.inl x2), none] [] h from fun h hF hk0 => ?_) κ (Fm.rf hS hR hC) rfl
  have y0_0_26 : h 0 26 = κ 0 26 := by rw [hk0]
  have y0_0_27 : h 0 27 = κ 0 27 := by rw [hk0]
  have y0_0_31 : h 0 31 = κ 0 31 := by rw [hk0]
  have hPre : Pre15 κ h := by rw [hk0]; exact Pre15.rf
  refine zW_aload_n (pc' := 1) dX12_readsNumber_0.1.1.1.1 rfl rfl ?_
  refine zG_int (pc' := 4) fg_X12_123 tb0 rfl dX12_readsNumber_0.1.1.1.2 rfl ?_
  have e1 := hF.rh 0 26
  refine zW_istore_n (ls' := [_, _, _, _]) (pc' := 5) dX12_readsNumber_0.1.1.2.1 (by decide) rfl rfl rfl ?_
  refine zW_aload_n (pc' := 6) dX12_readsNumber_0.1.1.2.2 rfl rfl ?_
  have y6_0_27 := hF.1 0 27 rfl rfl
  refine cvI0 (pc' := 9) kX12_here vX12_here lk_X12_132 ⟨Nat.le_of_ble_eq_true rfl, Nat.le_of_ble_eq_true rfl⟩ tb0 vq12 rfl rfl (s_X12_hereP (b := bdB true) (κ := h) hF.2.2.1 (Fr.rf hF.2.1) g p (by rw [hF.cell 12 rfl (fun _ => rfl), hF.1 0 27 rfl rfl]; exact hg) (by omega) (by omega)) dX12_readsNumber_0.1.2.1.1 (Nat.le_of_ble_eq_true rfl) rfl ?_
  rintro r6 z6 ⟨hz6, p6⟩; subst z6
  refine csI1 (pc' := 12) kX12_isDigit vX12_isDigit lk_X12_144 ⟨Nat.le_of_ble_eq_true rfl, Nat.le_of_ble_eq_true rfl⟩ rfl (s_X12_isDigit (b := bdB true) (κ := h) (Fr.rf hF.2.1) _ ⟨by omega, by omega⟩) dX12_readsNumber_0.1.2.1.2 (Nat.le_of_ble_eq_true rfl) rfl ?_
  rintro r9 z9 ⟨hz9, p9⟩; subst z9
  refine zV_if_ne (tgt := 25) (pc' := 15) dX12_readsNumber_0.1.2.2.1 rfl rfl ⟨by omega, by omega⟩ (fun c12 => ?_) (fun c12 => ?_)
  · refine zW_aload_n (pc' := 26) dX12_readsNumber_0.2.2.1.2 rfl rfl ?_
    refine zW_iconst (pc' := 27) dX12_readsNumber_0.2.2.2.1 rfl ?_
    refine zPm (pc' := 30) hF (Or.inl rfl) (SI_irr hF.2.1 (Or.inl rfl) (fun _ _ => ⟨by omega, by omega⟩)) (KR_irr hF.2.2.1 rfl) (KC_irr hF.2.2.2 rfl) fp_X12_148 tb0 rfl dX12_readsNumber_0.2.2.2.2 rfl (fun h hF w27 => ?_)
    replace hPre : Pre15 κ h := by rw [w27]; exact hPre.w (by decide)
    have t27_0_26 := congrFun (congrFun w27 0) 26
    rw [zwr_ne (Or.inr (by decide))] at t27_0_26
    have t27_0_29 := congrFun (congrFun w27 0) 29
    rw [zwr_eq] at t27_0_29
    have t27_0_31 := congrFun (congrFun w27 0) 31
    rw [zwr_ne (Or.inr (by decide))] at t27_0_31
    have t27_0_28 := congrFun (congrFun w27 0) 28
    rw [zwr_ne (Or.inr (by decide))] at t27_0_28
    exact (main 10000000000000000000000000000000000000000).1 _ _ hF (by omega) (by omega) (by omega) (by omega) (by first | (rw [show h 0 26 - p = 0 by omega]; show h 0 29 = 0; omega) | (rw [show h 0 26 - p = (q - p) + 1 by omega, nVk_s (by omega), e2]; omega)) hPre (by first | (rw [show h 0 26 - p = 0 by omega]; exact DG_0) | (rw [show h 0 26 - p = (q - p) + 1 by omega]; exact DG_s gc5 (by rw [e2]; exact dg1))) (by omega) (by omega)
  · have nd : nD g p = 0 := by unfold nD; rw [if_neg (by omega)]
    have nf := nFc g p x1 x2
    refine zW_aload_n (pc' := 16) dX12_readsNumber_0.1.2.2.2 rfl rfl ?_
    refine zW_iconst (pc' := 17) dX12_readsNumber_0.2.1.1.1 rfl ?_
    refine zW_aload_n (pc' := 18) dX12_readsNumber_0.2.1.1.2 rfl rfl ?_
    refine zG_int (pc' := 21) fg_X12_123 tb0 rfl dX12_readsNumber_0.2.1.2.1 rfl ?_
    have e18 := hF.rh 0 26
    refine cvI2 (pc' := 24) kX12_wrongAt vX12_wrongAt lk_X12_136 ⟨Nat.le_of_ble_eq_true rfl, Nat.le_of_ble_eq_true rfl⟩ tb0 vq12 rfl rfl (s_X12_wrongAtP hF.2.1 hF.2.2.1 hF.2.2.2 _ ⟨by omega, by omega⟩ _ ⟨by omega, by omega⟩) dX12_readsNumber_0.2.1.2.2 (Nat.le_of_ble_eq_true rfl) rfl ?_
    rintro r21 h ⟨hF1, p21⟩; replace hF := hF.tr hF1 rfl
    replace hPre : Pre15 κ h := hPre.fm hF1 (fun _ => rfl)
    have t21_0_26 := hF1.1 0 26 rfl rfl
    have t21_0_29 := hF1.1 0 29 rfl rfl
    have t21_0_31 := hF1.1 0 31 rfl rfl
    exact zV_zret rfl (by omega) dX12_readsNumber_0.2.2.1.1 ⟨hF, by refine ⟨by omega, by omega, by omega, by omega, hPre, by omega, ?_⟩; omega⟩

abbrev q_X12_isFilledSoFarP (κ h : Hp) (f : Int) : Int → Hp → Prop := fun r h' => h' = h ∧ ((0 ≤ r) ∧ (r ≤ 1) ∧ (r = 1 ↔ f ≠ 0))
set_option maxHeartbeats 4000000 in
set_option maxRecDepth 20000 in
theorem s_X12_isFilledSoFarP {G : Ga} {b : Bd} {κ h : Hp} (hK : KR κ) (hF : Fr b κ h) (f : Int) (hm0 : 0 ≤ κ 0 30 ∧ κ 0 30 ≤ 12) (hf0 : 0 ≤ f ∧ f ≤ κ 0 30) (hfl : ∀ j : Nat, (j : Int) < κ 0 30 → (κ 13 j = 102 ↔ (j : Int) + 1 = f)) : zM G mX12_isFilledSoFar yX12_isFilledSoFar [.inr (.inr 0)] h (q_X12_isFilledSoFarP κ h f) := by
  have main : ∀ N : Nat, (∀ (v1 : Int) , (0 ≤ v1 ∧ v1 ≤ 12) → (∀ j : Nat, (j : Int) < v1 → κ 13 j ≠ 102) → 4284 + 18 * (12 - v1) + 17 < (N : Int) → zV G mX12_isFilledSoFar (q_X12_isFilledSoFarP κ h f) 2 [some (.inr (.inr 0)), some (.inl v1)] [] h) := by
    intro N
    induction N with
    | zero =>
      intro v1 g0 gc0 hm
      exfalso; omega
    | succ N ih =>
      have k2 := ih
      intro v1 g0 gc0 hm
      refine zW_iload_n (pc' := 3) dX12_isFilledSoFar_0.1.1.2.1 rfl rfl ?_
      refine zW_aload_n (pc' := 4) dX12_isFilledSoFar_0.1.1.2.2 rfl rfl ?_
      refine zG_key (pc' := 7) hF rfl fg_X12_167 tb0 rfl dX12_isFilledSoFar_0.1.2.1.1 rfl ?_
      have e4 := hF.rk (k := 0) (i := 30) rfl (by decide) (by decide)
      refine zV_cm_ge (tgt := 29) (pc' := 10) dX12_isFilledSoFar_0.1.2.1.2 rfl rfl ⟨by omega, by omega⟩ ⟨by omega, by omega⟩ (fun c7 => ?_) (fun c7 => ?_)
      · refine zW_iconst (pc' := 30) dX12_isFilledSoFar_1.1 rfl ?_
        exact zV_zret rfl (by omega) dX12_isFilledSoFar_1.2 ⟨rfl, by have z := hfl (f - 1).toNat; have z2 := gc0 (f - 1).toNat; omega⟩
      · refine zW_aload_n (pc' := 11) dX12_isFilledSoFar_0.1.2.2.1 rfl rfl ?_
        refine zG_ref (pc' := 14) 13 fg_X12_48 tb0 rfl dX12_isFilledSoFar_0.1.2.2.2 rfl ?_
        refine zW_iload_n (pc' := 15) dX12_isFilledSoFar_0.2.1.1.1 rfl rfl ?_
        refine zA_keyI (pc' := 16) hF rfl (by decide) (by decide) tb13 (by omega) dX12_isFilledSoFar_0.2.1.1.2 (by decide) rfl (fun e15 => ?_)
        refine zW_bipush (pc' := 18) dX12_isFilledSoFar_0.2.1.2.1 rfl rfl ?_
        refine zV_cm_ne (tgt := 23) (pc' := 21) dX12_isFilledSoFar_0.2.1.2.2 rfl rfl ⟨by omega, by omega⟩ ⟨by omega, by omega⟩ (fun c18 => ?_) (fun c18 => ?_)
        · refine zW_iinc (ls' := [_, _]) (pc' := 26) dX12_isFilledSoFar_0.2.2.2.1 rfl (by decide) rfl rfl rfl ?_
          refine zV_goto 2 dX12_isFilledSoFar_0.2.2.2.2 rfl ?_
          exact k2 _ (by omega) (fun j => by have q0 := gc0 j; by_cases ej : j = v1.toNat; (subst ej; omega); omega) (by omega)
        · refine zW_iconst (pc' := 22) dX12_isFilledSoFar_0.2.2.1.1 rfl ?_
          exact zV_zret rfl (by omega) dX12_isFilledSoFar_0.2.2.1.2 ⟨rfl, by have z := hfl v1.toNat (by omega); omega⟩
  refine zM_of [some (.inr (.inr 0)), none] 1 rfl rfl (Nat.le_of_ble_eq_true rfl) rfl ?_
  refine zW_iconst (pc' := 1) dX12_isFilledSoFar_0.1.1.1.1 rfl ?_
  refine zW_istore_n (ls' := [_, _]) (pc' := 2) dX12_isFilledSoFar_0.1.1.1.2 (by decide) rfl rfl rfl ?_
  exact (main 10000000000000000000000000000000000000000) _ (by omega) (fun j => by omega) (by omega)
