/-! what the text lays down: letters, where numbers start, numbers (lists of them) -/
def Ap (A B : Nat → Int) (e e' : Int) (l : List Int) : Prop := e' = e + ((l.length : Nat) : Int) ∧ (∀ j : Nat, (j : Int) < e → B j = A j) ∧ (∀ i : Nat, i < l.length → B (e.toNat + i) = (l[i]?).getD 0)
theorem Ap.rf {A : Nat → Int} {e : Int} : Ap A A e e [] := ⟨(Int.add_zero e).symm, fun _ _ => rfl, fun i h => absurd h (Nat.not_lt_zero i)⟩
theorem Ap.one {A B : Nat → Int} {e e' v : Int} (he : e' = e + 1) (hA : ∀ j : Nat, (j : Int) < e → B j = A j) (hv : B e.toNat = v) : Ap A B e e' [v] := by
  refine ⟨he, hA, fun i hi => ?_⟩
  have e0 : i = 0 := Nat.lt_one_iff.mp hi
  subst e0
  exact hv
theorem Ap.tr {A B C : Nat → Int} {e e' e'' : Int} {l k : List Int} (h0 : 0 ≤ e) (h : Ap A B e e' l) (h2 : Ap B C e' e'' k) : Ap A C e e'' (l ++ k) := by
  obtain ⟨a1, a2, a3⟩ := h
  obtain ⟨b1, b2, b3⟩ := h2
  refine ⟨?_, fun j hj => ?_, fun i hi => ?_⟩
  · rw [List.length_append, b1, a1]; omega
  · rw [b2 j (by omega), a2 j hj]
  · rw [List.length_append] at hi
    by_cases c : i < l.length
    · rw [b2 _ (by omega), a3 i c, List.getElem?_append_left c]
    · rw [List.getElem?_append_right (by omega)]
      have z := b3 (i - l.length) (by omega)
      rw [show e'.toNat + (i - l.length) = e.toNat + i by omega] at z
      exact z
theorem Ap_eq {A B B' : Nat → Int} {e e' e2 : Int} {l : List Int} (h : Ap A B e e' l) (hb : B' = B) (he : e2 = e') : Ap A B' e e2 l := by
  rw [hb, he]; exact h
theorem Ap.pre {A A' B : Nat → Int} {e e' : Int} {l : List Int} (h : Ap A B e e' l) (hP : ∀ j : Nat, (j : Int) < e → B j = A' j) : Ap A' B e e' l := ⟨h.1, hP, h.2.2⟩
theorem Ap.l1 {A B : Nat → Int} {e e' x : Int} (h : Ap A B e e' [x]) : e' = e + 1 := h.1
theorem Ap.l2 {A B : Nat → Int} {e e' x y : Int} (h : Ap A B e e' [x, y]) : e' = e + 2 := h.1
def ApI (r : Int) (A B : Nat → Int) (e e' : Int) (l : List Int) : Prop := r = 1 → Ap A B e e' l
theorem Ap_rn {κ h : Hp} {r a b f v x w : Int} {N E : Prop} (hp : Pre15 κ h) (c : r = 1 ∧ a ≤ h 0 29 ∧ h 0 29 ≤ b ∧ h 0 31 = κ 0 31 + 1 ∧ w < f ∧ h 15 (κ 0 31).toNat = h 0 29) (d : x = 1 ∧ N ∧ E ∧ h 0 29 = v) : Ap (κ 15) (h 15) (κ 0 31) (h 0 31) [v] :=
  Ap.one c.2.2.2.1 (fun j hj => hp j hj) (c.2.2.2.2.2.trans d.2.2.2)
/-- a row's first entries are the list's -/
def Ls (A : Nat → Int) (e : Int) (l : List Int) : Prop := e = ((l.length : Nat) : Int) ∧ ∀ i : Nat, i < l.length → A i = (l[i]?).getD 0
theorem Ls.nil {A : Nat → Int} : Ls A 0 [] := ⟨rfl, fun i h => absurd h (Nat.not_lt_zero i)⟩
theorem Ls.ap {A B : Nat → Int} {e e' : Int} {l k : List Int} (h : Ls A e l) (h2 : Ap A B e e' k) : Ls B e' (l ++ k) := by
  obtain ⟨a1, a2⟩ := h
  obtain ⟨b1, b2, b3⟩ := h2
  refine ⟨?_, fun i hi => ?_⟩
  · rw [List.length_append, b1, a1]; omega
  · rw [List.length_append] at hi
    by_cases c : i < l.length
    · rw [b2 i (by omega), a2 i c, List.getElem?_append_left c]
    · rw [List.getElem?_append_right (by omega)]
      have z := b3 (i - l.length) (by omega)
      rw [show e.toNat + (i - l.length) = i by omega] at z
      exact z
/-- the numbers of a curve -/
def ptY (g : Int → Int) (p x : Int) : Int := if x = -1 then nV g (p + nD g p + 1) else nV g (p + 1 + nD g (p + 1) + 1)
theorem ptY_1 {g : Int → Int} {p x : Int} (h : 0 ≤ x) : ptY g p x = nV g (p + 1 + nD g (p + 1) + 1) := if_neg (by omega)
def cuL (g : Int → Int) : Nat → Int → Int → List Int
  | 0, _, _ => []
  | k + 1, p, x => if ptX g p x = 255 then [ptX g p x, ptY g p x] else [ptX g p x, ptY g p x] ++ cuL g k (ptE g p x) (ptX g p x)
/-- as CuI, with the numbers that were read -/
def CuJ (g : Int → Int) (p q x : Int) (l : List Int) : Prop := (x = 255 ∧ cuL g 200 p (-1) = l) ∨ (x ≠ 255 ∧ ∃ k : Nat, 190 - q < k ∧ cuL g 200 p (-1) = l ++ cuL g k q x)
theorem CuJ.rf {g : Int → Int} {p : Int} (hp : 0 ≤ p) : CuJ g p p (-1) [] := Or.inr ⟨by decide, 200, by omega, rfl⟩
theorem CuJ.step {g : Int → Int} {p q x y e a b : Int} {l : List Int} (h : CuJ g p q x l) (hx : x ≠ 255) (hq : q ≤ 190) (hy : ptX g q x = y) (he : ptE g q x = e) (hl : q < e) (ha : ptX g q x = a) (hb : ptY g q x = b) : CuJ g p e y (l ++ [a, b]) := by
  subst hy he ha hb
  rcases h with ⟨c, -⟩ | ⟨-, k, k1, k2⟩
  · exact absurd c hx
  · obtain ⟨j, rfl⟩ : ∃ j, k = j + 1 := ⟨k - 1, by omega⟩
    have e1 : cuL g (j + 1) q x = if ptX g q x = 255 then [ptX g q x, ptY g q x] else [ptX g q x, ptY g q x] ++ cuL g j (ptE g q x) (ptX g q x) := rfl
    rw [e1] at k2
    by_cases c : ptX g q x = 255
    · rw [if_pos c] at k2; exact Or.inl ⟨c, k2⟩
    · rw [if_neg c, ← List.append_assoc] at k2; exact Or.inr ⟨c, j, by omega, k2⟩
theorem CuJ.end {g : Int → Int} {p q : Int} {l : List Int} (h : CuJ g p q 255 l) : cuL g 200 p (-1) = l := by
  rcases h with ⟨-, a⟩ | ⟨a, -⟩
  · exact a
  · exact absurd rfl a
def CuB (g : Int → Int) (p q x : Int) (A B : Nat → Int) (e e' : Int) : Prop := ∃ l : List Int, CuJ g p q x l ∧ Ap A B e e' l
def nbL (g : Int → Int) (c p : Int) : List Int := if c = 121 ∨ c = 103 then [nV g p, nV g (p + nD g p + 1), nV g (n2E g p + 1)] else if c = 112 ∨ c = 110 ∨ c = 115 then [nV g p, nV g (p + nD g p + 1)] else if c = 116 then cuL g 200 p (-1) else [nV g p]
/-- a number read takes a sign at least -/
theorem pq_l {g : Int → Int} {p a b : Int} (hp : 0 ≤ p) (h : pqF g p a b = 0) : p + 3 ≤ pqE g p := by
  unfold pqF at h
  have h1 := nFz (sq_0l (sq_0l h)) hp
  have h2 := nFz (sq_0r h) (by omega)
  unfold pqE
  omega
theorem pt_l {g : Int → Int} {p x : Int} (hp : 0 ≤ p) (hx : -1 ≤ x) (h : ptF g p x = 0) : (x = -1 → p + 3 ≤ ptE g p x) ∧ (x ≠ -1 → p + 4 ≤ ptE g p x) ∧ 0 ≤ ptX g p x := by
  by_cases e : x = -1
  · subst e
    have h0 : pqF g p 0 0 = 0 := h
    have h1 := nFz (sq_0l (sq_0l h0)) hp
    exact ⟨fun _ => pq_l hp h0, fun z => absurd rfl z, h1.2.1⟩
  · have t := ptF_1 (g := g) (p := p) (x := x) (by omega)
    rw [t.1] at h
    rw [t.2.1, t.2.2]
    have h0 := sq_0r h
    have h1 := nFz (sq_0l (sq_0l h0)) (by omega)
    have h2 := pq_l (by omega) h0
    exact ⟨fun z => absurd z e, fun _ => by omega, by omega⟩
theorem cu_l {g : Int → Int} : ∀ (k : Nat) (p x : Int), 0 ≤ p → -1 ≤ x → cuF g k p x = 0 → p + 2 * ((cuL g k p x).length : Nat) ≤ cuE g k p x + (if x = -1 then 1 else 0)
  | 0, p, x, hp, hx, h => by
    show p + 2 * ((0 : Nat) : Int) ≤ p + _
    by_cases e : x = -1
    · rw [if_pos e]; omega
    · rw [if_neg e]; omega
  | k + 1, p, x, hp, hx, h => by
    have e0 : cuF g (k + 1) p x = if ptF g p x = 0 then (if ptX g p x = 255 then 0 else cuF g k (ptE g p x) (ptX g p x)) else ptF g p x := rfl
    have e1 : cuL g (k + 1) p x = if ptX g p x = 255 then [ptX g p x, ptY g p x] else [ptX g p x, ptY g p x] ++ cuL g k (ptE g p x) (ptX g p x) := rfl
    have e2 : cuE g (k + 1) p x = if ptX g p x = 255 then ptE g p x else cuE g k (ptE g p x) (ptX g p x) := rfl
    by_cases c : ptF g p x = 0
    · have t := pt_l hp hx c
      have t2 : p + 4 ≤ ptE g p x + (if x = -1 then 1 else 0) := by
        by_cases e : x = -1
        · rw [if_pos e]; have := t.1 e; omega
        · rw [if_neg e]; have := t.2.1 e; omega
      rw [e0, if_pos c] at h
      rw [e1, e2]
      by_cases d : ptX g p x = 255
      · rw [if_pos d, if_pos d]
        show p + 2 * ((2 : Nat) : Int) ≤ _
        omega
      · rw [if_neg d] at h
        rw [if_neg d, if_neg d]
        have ih := cu_l k (ptE g p x) (ptX g p x) (by split at t2 <;> omega) (by omega) h
        rw [if_neg (by omega)] at ih
        rw [List.length_append]
        have l2 : ([ptX g p x, ptY g p x] : List Int).length = 2 := rfl
        rw [l2]
        omega
    · rw [e0, if_neg c] at h
      exact absurd h c
/-- the place of a stage; the numbers of the first stages -/
def qP (g : Int → Int) : Nat → Int
  | 0 => 0
  | k + 1 => sgE g (qP g k) + 1
def nL (g : Int → Int) : Nat → List Int
  | 0 => []
  | k + 1 => nL g k ++ nbL g (g (qP g k)) (qP g k + 2)
def SMx (A B : Nat → Int) (k : Nat) : Prop := ∀ j : Nat, j ≠ k → B j = A j
theorem SMx.rf {A : Nat → Int} {k : Nat} : SMx A A k := fun _ _ => rfl
theorem SMx.tr {A B C : Nat → Int} {k : Nat} (h : SMx A B k) (h2 : SMx B C k) : SMx A C k := fun j hj => (h2 j hj).trans (h j hj)
theorem nl_98 {g : Int → Int} {p : Int} : nbL g 98 p = [nV g p] := rfl
theorem nl_100 {g : Int → Int} {p : Int} : nbL g 100 p = [nV g p] := rfl
theorem nl_111 {g : Int → Int} {p : Int} : nbL g 111 p = [nV g p] := rfl
theorem nl_108 {g : Int → Int} {p : Int} : nbL g 108 p = [nV g p] := rfl
theorem nl_102 {g : Int → Int} {p : Int} : nbL g 102 p = [nV g p] := rfl
theorem nl_118 {g : Int → Int} {p : Int} : nbL g 118 p = [nV g p] := rfl
theorem nl_119 {g : Int → Int} {p : Int} : nbL g 119 p = [nV g p] := rfl
theorem nl_104 {g : Int → Int} {p : Int} : nbL g 104 p = [nV g p] := rfl
theorem nl_121 {g : Int → Int} {p : Int} : nbL g 121 p = [nV g p, nV g (p + nD g p + 1), nV g (n2E g p + 1)] := rfl
theorem nl_103 {g : Int → Int} {p : Int} : nbL g 103 p = [nV g p, nV g (p + nD g p + 1), nV g (n2E g p + 1)] := rfl
theorem nl_109 {g : Int → Int} {p : Int} : nbL g 109 p = [nV g p] := rfl
theorem nl_112 {g : Int → Int} {p : Int} : nbL g 112 p = [nV g p, nV g (p + nD g p + 1)] := rfl
theorem nl_110 {g : Int → Int} {p : Int} : nbL g 110 p = [nV g p, nV g (p + nD g p + 1)] := rfl
theorem nl_115 {g : Int → Int} {p : Int} : nbL g 115 p = [nV g p, nV g (p + nD g p + 1)] := rfl
theorem nl_116 {g : Int → Int} {p : Int} : nbL g 116 p = cuL g 200 p (-1) := rfl
theorem kd_116 {c : Int} (h : 0 ≤ kd c) (n : c ≠ 98 ∧ c ≠ 100 ∧ c ≠ 111 ∧ c ≠ 108 ∧ c ≠ 102 ∧ c ≠ 118 ∧ c ≠ 119 ∧ c ≠ 104 ∧ c ≠ 121 ∧ c ≠ 103 ∧ c ≠ 109 ∧ c ≠ 112 ∧ c ≠ 110 ∧ c ≠ 115) : c = 116 := by
  rcases kd_c c with ⟨z, -⟩ | ⟨-, e⟩ | ⟨-, e⟩ | ⟨-, e⟩ | ⟨-, e⟩ | ⟨-, e⟩ | ⟨-, e⟩ | ⟨-, e⟩ | ⟨-, e⟩ | ⟨-, e⟩ | ⟨-, e⟩ | ⟨-, e⟩ | ⟨-, e⟩ | ⟨-, e⟩ | ⟨-, e⟩ | ⟨-, e⟩
  · omega
  · exact absurd e (by omega)
  · exact absurd e (by omega)
  · exact absurd e (by omega)
  · exact absurd e (by omega)
  · exact absurd e (by omega)
  · exact absurd e (by omega)
  · exact absurd e (by omega)
  · exact absurd e (by omega)
  · exact absurd e (by omega)
  · exact absurd e (by omega)
  · exact absurd e (by omega)
  · exact absurd e (by omega)
  · exact absurd e (by omega)
  · exact absurd e (by omega)
  · exact e
theorem a9 {a b c d e f g i n m : Prop} (h : a ∧ b ∧ c ∧ d ∧ e ∧ f ∧ g ∧ i) (x : n) (y : m) : a ∧ b ∧ c ∧ d ∧ e ∧ f ∧ g ∧ i ∧ n ∧ m := ⟨h.1, h.2.1, h.2.2.1, h.2.2.2.1, h.2.2.2.2.1, h.2.2.2.2.2.1, h.2.2.2.2.2.2.1, h.2.2.2.2.2.2.2, x, y⟩
/-- what a stage lays down -/
def AQ (g : Int → Int) (p : Int) (h0 h : Hp) : Prop := h 13 (h0 0 30).toNat = g p ∧ SMx (h0 13) (h 13) (h0 0 30).toNat ∧ h 14 (h0 0 30 + 1).toNat = h 0 31 ∧ SMx (h0 14) (h 14) (h0 0 30 + 1).toNat ∧ Ap (h0 15) (h 15) (h0 0 31) (h 0 31) (nbL g (g p) (p + 2))
def AQI (r : Int) (g : Int → Int) (p : Int) (h0 h : Hp) : Prop := r = 1 → AQ g p h0 h
def AR0 (g : Int → Int) (h : Hp) : Prop := (∀ k : Nat, (k : Int) < h 0 30 → h 13 k = g (qP g k)) ∧ (∀ k : Nat, (k : Int) ≤ h 0 30 → h 14 k = (((nL g k).length : Nat) : Int)) ∧ Ls (h 15) (h 0 31) (nL g (h 0 30).toNat)
def ARR (g : Int → Int) (h : Hp) : Prop := AR0 g h ∧ (0 < h 0 30 → h 0 26 + 1 = qP g (h 0 30).toNat)
theorem AR0.push {g : Int → Int} {h0 h : Hp} {p : Int} (hm : 0 ≤ h0 0 30) (A : AR0 g h0) (hp : p = qP g (h0 0 30).toNat) (e30 : h 0 30 = h0 0 30 + 1) (e26 : h 0 26 = sgE g p) (Q : AQ g p h0 h) : ARR g h := by
  obtain ⟨a1, a2, a3⟩ := A
  obtain ⟨q1, q2, q3, q4, q5⟩ := Q
  obtain ⟨m, em⟩ : ∃ m : Nat, h0 0 30 = m := ⟨(h0 0 30).toNat, by omega⟩
  have t0 : (h0 0 30).toNat = m := by omega
  have t1 : (h0 0 30 + 1).toNat = m + 1 := by omega
  have t2 : (h 0 30).toNat = m + 1 := by omega
  rw [t0] at hp a3 q1 q2
  rw [t1] at q3 q4
  rw [hp] at q1 q5 e26
  have L : Ls (h 15) (h 0 31) (nL g (m + 1)) := a3.ap q5
  refine ⟨⟨fun k hk => ?_, fun k hk => ?_, ?_⟩, fun _ => ?_⟩
  · by_cases c : k = m
    · rw [c]; exact q1
    · rw [q2 k c]; exact a1 k (by omega)
  · by_cases c : k = m + 1
    · rw [c, q3]; exact L.1
    · rw [q4 k c]; exact a2 k (by omega)
  · rw [t2]; exact L
  · rw [t2, e26]; rfl
theorem AR0.mv {g : Int → Int} {h h' : Hp} (A : AR0 g h) (hF : Fm [(0, 26), (0, 28)] h h') : AR0 g h' := by
  unfold AR0 at A ⊢
  rw [hF.1 0 30 rfl rfl, hF.1 0 31 rfl rfl, hF.cell 13 rfl (fun _ => rfl), hF.cell 14 rfl (fun _ => rfl), hF.cell 15 rfl (fun _ => rfl)]
  exact A
theorem ARR.w25 {g : Int → Int} {h : Hp} {v : Int} (A : ARR g h) : ARR g (zwr h 0 25 v) := by
  unfold ARR AR0 at A ⊢
  rw [zwr_ne (Or.inr (by decide)), zwr_ne (Or.inr (by decide)), zwr_ne (Or.inr (by decide)), zfun (by decide), zfun (by decide), zfun (by decide)]
  exact A
def ARI (r : Int) (g : Int → Int) (h : Hp) : Prop := r = 1 → ARR g h
/-- the rows of letters, starts, numbers of m stages -/
def RW (g : Int → Int) (m : Int) (A B C : Nat → Int) : Prop := (∀ k : Nat, (k : Int) < m → A k = g (qP g k)) ∧ (∀ k : Nat, (k : Int) ≤ m → B k = (((nL g k).length : Nat) : Int)) ∧ (∀ j : Nat, j < (nL g m.toNat).length → C j = ((nL g m.toNat)[j]?).getD 0)
def RWI (r : Int) (g : Int → Int) (A B C : Nat → Int) : Prop := 0 ≤ r → RW g r A B C
theorem AR0.rw {g : Int → Int} {h : Hp} {m : Int} {A B C : Nat → Int} (a : AR0 g h) (em : h 0 30 = m) (hm : m ≤ 12) (b : h 0 31 ≤ 130) (cA : ∀ j, j < 12 → A j = h 13 j) (cB : ∀ j, j < 13 → B j = h 14 j) (cC : ∀ j, j < 130 → C j = h 15 j) : RW g m A B C := by
  subst em
  obtain ⟨a1, a2, a3⟩ := a
  refine ⟨fun k hk => by rw [cA k (by omega)]; exact a1 k hk, fun k hk => by rw [cB k (by omega)]; exact a2 k hk, fun j hj => ?_⟩
  have l := a3.1
  rw [cC j (by omega)]
  exact a3.2 j hj
def EQ3 (r : Int) (κ h : Hp) : Prop := r < 0 → ∀ j : Nat, h 3 j = κ 3 j ∧ h 4 j = κ 4 j ∧ h 5 j = κ 5 j
/-- the class's draft: numbers laid down while there is no fault -/
def HE (κ : Hp) (m e : Int) : Prop := κ 53 4 = 0 → κ 51 (m + 1).toNat = e ∧ 0 ≤ e ∧ e < 64
def CA (κ h : Hp) (m e : Int) (l : List Int) : Prop := h 53 4 = 0 → Ap (κ 52) (h 52) e (h 51 (m + 1).toNat) l
theorem CA.eq {κ h1 h2 : Hp} {m e : Int} {l : List Int} (h : CA κ h1 m e l) (h51 : h2 51 = h1 51) (h52 : h2 52 = h1 52) (hz : h2 53 4 = 0 → h1 53 4 = 0) : CA κ h2 m e l := fun z => by
  rw [h51, h52]; exact h (hz z)
theorem CA.tr {κ h1 h2 : Hp} {m e : Int} {l k : List Int} (h0 : 0 ≤ e) (a : CA κ h1 m e l) (b : CA h1 h2 m (h1 51 (m + 1).toNat) k) (hz : h2 53 4 = 0 → h1 53 4 = 0) : CA κ h2 m e (l ++ k) := fun z => Ap.tr h0 (a (hz z)) (b z)
def PB (g : Int → Int) (p : Int) (κ h : Hp) (x n m e : Int) : Prop := h 53 4 = 0 → (p + 4 * n + 3 ≤ h 53 3 ∧ h 53 3 ≤ κ 53 2) ∧ ∃ l : List Int, CuJ g p (h 53 3) x l ∧ Ap (κ 52) (h 52) e (h 51 (m + 1).toNat) l ∧ ((l.length : Nat) : Int) = 2 * n + 2
def pnL (g : Int → Int) (p k : Int) : List Int := if k = 0 then [] else if k = 1 then [nV g p] else if k = 2 then [nV g p, nV g (p + nD g p + 1)] else [nV g p, nV g (p + nD g p + 1), nV g (n2E g p + 1)]
theorem pnL_s {g : Int → Int} {p k : Int} (h : k = 1 ∨ k = 2) : pnL g p (k + 1) = pnL g p k ++ [nV g (pnE g p k + 1)] := by
  rcases h with rfl | rfl <;> rfl
theorem pnL_z {g : Int → Int} {p k : Int} (h : k = 0) : pnL g p (k + 1) = pnL g p k ++ [nV g p] := by
  subst h; rfl
theorem pnL_len {g : Int → Int} {p k : Int} (h : 0 ≤ k ∧ k ≤ 3) : (((pnL g p k).length : Nat) : Int) = k := by
  rcases (by omega : k = 0 ∨ k = 1 ∨ k = 2 ∨ k = 3) with rfl | rfl | rfl | rfl <;> rfl
theorem nl_kind {g : Int → Int} {p : Int} (r : Nat) (hr : r < 14) : nbL g (sbv 0 r) p = pnL g p (xvv 102 r) := by
  match r, hr with
  | 0, _ => rw [sbv_0, xv_102_0]; exact nl_98
  | 1, _ => rw [sbv_1, xv_102_1]; exact nl_100
  | 2, _ => rw [sbv_2, xv_102_2]; exact nl_111
  | 3, _ => rw [sbv_3, xv_102_3]; exact nl_108
  | 4, _ => rw [sbv_4, xv_102_4]; exact nl_102
  | 5, _ => rw [sbv_5, xv_102_5]; exact nl_118
  | 6, _ => rw [sbv_6, xv_102_6]; exact nl_119
  | 7, _ => rw [sbv_7, xv_102_7]; exact nl_104
  | 8, _ => rw [sbv_8, xv_102_8]; exact nl_121
  | 9, _ => rw [sbv_9, xv_102_9]; exact nl_103
  | 10, _ => rw [sbv_10, xv_102_10]; exact nl_109
  | 11, _ => rw [sbv_11, xv_102_11]; exact nl_112
  | 12, _ => rw [sbv_12, xv_102_12]; exact nl_110
  | 13, _ => rw [sbv_13, xv_102_13]; exact nl_115
def LQ (g : Int → Int) (p : Int) (κ h : Hp) (m : Int) : Prop := h 53 4 = 0 → h 50 (m + 1).toNat = g p ∧ SMx (κ 50) (h 50) (m + 1).toNat ∧ h 51 (m + 1 + 1).toNat = κ 51 (m + 1).toNat ∧ SMx (κ 51) (h 51) (m + 1 + 1).toNat ∧ h 52 = κ 52
theorem LQ.eq {g : Int → Int} {p m : Int} {κ h1 h2 : Hp} (a : LQ g p κ h1 m) (h50 : h2 50 = h1 50) (h51 : h2 51 = h1 51) (h52 : h2 52 = h1 52) (hz : h2 53 4 = 0 → h1 53 4 = 0) : LQ g p κ h2 m := fun z => by
  rw [h50, h51, h52]; exact a (hz z)
def SQ (g : Int → Int) (p : Int) (κ h : Hp) (m : Int) : Prop := h 53 4 = 0 → h 50 (m + 1).toNat = g p ∧ SMx (κ 50) (h 50) (m + 1).toNat ∧ SMx (κ 51) (h 51) (m + 1 + 1).toNat ∧ Ap (κ 52) (h 52) (κ 51 (m + 1).toNat) (h 51 (m + 1 + 1).toNat) (nbL g (g p) (p + 2))
theorem LQ.sq {g : Int → Int} {p m : Int} {κ h1 h2 : Hp} {l : List Int} (a : LQ g p κ h1 m) (h50 : h2 50 = h1 50) (s : SMx (h1 51) (h2 51) (m + 1 + 1).toNat) (c : CA h1 h2 (m + 1) (κ 51 (m + 1).toNat) l) (hl : nbL g (g p) (p + 2) = l) (hz : h2 53 4 = 0 → h1 53 4 = 0) : SQ g p κ h2 m := fun z => by
  obtain ⟨a1, a2, a3, a4, a5⟩ := a (hz z)
  have c1 := c z
  rw [a5, ← hl] at c1
  rw [h50]
  exact ⟨a1, a2, a4.tr s, c1⟩
theorem SQ.eq {g : Int → Int} {p m : Int} {κ h1 h2 : Hp} (a : SQ g p κ h1 m) (h50 : h2 50 = h1 50) (h51 : h2 51 = h1 51) (h52 : h2 52 = h1 52) (hz : h2 53 4 = 0 → h1 53 4 = 0) : SQ g p κ h2 m := fun z => by
  rw [h50, h51, h52]; exact a (hz z)
theorem nx_l {g : Int → Int} {p b : Int} (hp : 0 ≤ p) (h : nxF g p b = 0) : p + 2 ≤ nxE g p := by
  unfold nxF at h
  have h1 := nFz (sq_0r h) (by omega)
  unfold nxE
  omega
theorem n2_l {g : Int → Int} {p a b l : Int} (hp : 0 ≤ p) (h : n2F g p a b l = 0) : p + 3 ≤ n2E g p := by
  unfold n2F at h
  have h1 := nFz (sq_0l h) hp
  have h2 := nx_l (by omega) (sq_0r h)
  unfold n2E
  omega
theorem n3_l {g : Int → Int} {p a b l : Int} (hp : 0 ≤ p) (h : n3F g p a b l = 0) : p + 5 ≤ n3E g p := by
  unfold n3F at h
  have h1 := n2_l hp (sq_0l h)
  have h2 := nx_l (by omega) (sq_0r h)
  unfold n3E
  omega
theorem nb_l {g : Int → Int} {c p : Int} (hp : 0 ≤ p) (hc : 0 ≤ kd c) (h : nbF g c p = 0) : p + 2 * (((nbL g c p).length : Nat) : Int) ≤ nbE g c p + 1 := by
  rcases kd_c c with ⟨z, -⟩ | ⟨-, rfl⟩ | ⟨-, rfl⟩ | ⟨-, rfl⟩ | ⟨-, rfl⟩ | ⟨-, rfl⟩ | ⟨-, rfl⟩ | ⟨-, rfl⟩ | ⟨-, rfl⟩ | ⟨-, rfl⟩ | ⟨-, rfl⟩ | ⟨-, rfl⟩ | ⟨-, rfl⟩ | ⟨-, rfl⟩ | ⟨-, rfl⟩ | ⟨-, rfl⟩
  · omega
  · have z : nF g p _ _ = 0 := h
    have z2 := nFz z hp
    show p + 2 * ((1 : Nat) : Int) ≤ p + nD g p + 1
    omega
  · have z : nF g p _ _ = 0 := h
    have z2 := nFz z hp
    show p + 2 * ((1 : Nat) : Int) ≤ p + nD g p + 1
    omega
  · have z : nF g p _ _ = 0 := h
    have z2 := nFz z hp
    show p + 2 * ((1 : Nat) : Int) ≤ p + nD g p + 1
    omega
  · have z : nF g p _ _ = 0 := h
    have z2 := nFz z hp
    show p + 2 * ((1 : Nat) : Int) ≤ p + nD g p + 1
    omega
  · have z : nF g p _ _ = 0 := h
    have z2 := nFz z hp
    show p + 2 * ((1 : Nat) : Int) ≤ p + nD g p + 1
    omega
  · have z : nF g p _ _ = 0 := h
    have z2 := nFz z hp
    show p + 2 * ((1 : Nat) : Int) ≤ p + nD g p + 1
    omega
  · have z : nF g p _ _ = 0 := h
    have z2 := nFz z hp
    show p + 2 * ((1 : Nat) : Int) ≤ p + nD g p + 1
    omega
  · have z : nF g p _ _ = 0 := h
    have z2 := nFz z hp
    show p + 2 * ((1 : Nat) : Int) ≤ p + nD g p + 1
    omega
  · have z2 : p + 5 ≤ n3E g p := n3_l hp h
    show p + 2 * ((3 : Nat) : Int) ≤ n3E g p + 1
    omega
  · have z2 : p + 5 ≤ n3E g p := n3_l hp h
    show p + 2 * ((3 : Nat) : Int) ≤ n3E g p + 1
    omega
  · have z : nF g p _ _ = 0 := h
    have z2 := nFz z hp
    show p + 2 * ((1 : Nat) : Int) ≤ p + nD g p + 1
    omega
  · have z2 : p + 3 ≤ n2E g p := n2_l hp h
    show p + 2 * ((2 : Nat) : Int) ≤ n2E g p + 1
    omega
  · have z2 : p + 3 ≤ n2E g p := n2_l hp h
    show p + 2 * ((2 : Nat) : Int) ≤ n2E g p + 1
    omega
  · have z2 : p + 3 ≤ n2E g p := n2_l hp h
    show p + 2 * ((2 : Nat) : Int) ≤ n2E g p + 1
    omega
  · have z2 := cu_l (g := g) 200 p (-1) hp (by decide) h
    rw [if_pos rfl] at z2
    exact z2
/-- the draft's rows hold m stages -/
def ARC (g : Int → Int) (m : Int) (h : Hp) : Prop := (∀ k : Nat, (k : Int) < m → h 50 (k + 1) = g (qP g k)) ∧ (∀ k : Nat, (k : Int) ≤ m → h 51 (k + 1) = (((nL g k).length : Nat) : Int)) ∧ Ls (h 52) (h 51 (m + 1).toNat) (nL g m.toNat)
theorem ARC.push {g : Int → Int} {h0 h : Hp} {p m : Int} (hm : 0 ≤ m) (A : ARC g m h0) (hp : p = qP g m.toNat) (Q : h 50 (m + 1).toNat = g p ∧ SMx (h0 50) (h 50) (m + 1).toNat ∧ SMx (h0 51) (h 51) (m + 1 + 1).toNat ∧ Ap (h0 52) (h 52) (h0 51 (m + 1).toNat) (h 51 (m + 1 + 1).toNat) (nbL g (g p) (p + 2))) : ARC g (m + 1) h := by
  obtain ⟨a1, a2, a3⟩ := A
  obtain ⟨q1, q2, q3, q4⟩ := Q
  obtain ⟨n, rfl⟩ : ∃ n : Nat, m = n := ⟨m.toNat, by omega⟩
  have t0 : ((n : Int)).toNat = n := by omega
  have t1 : ((n : Int) + 1).toNat = n + 1 := by omega
  have t2 : ((n : Int) + 1 + 1).toNat = n + 2 := by omega
  rw [t0] at hp a3
  rw [t1] at q1 q2 q4 a3
  rw [t2] at q3 q4
  rw [hp] at q1 q4
  have L : Ls (h 52) (h 51 (n + 2)) (nL g (n + 1)) := a3.ap q4
  refine ⟨fun k hk => ?_, fun k hk => ?_, ?_⟩
  · by_cases c : k = n
    · rw [c]; exact q1
    · rw [q2 (k + 1) (by omega)]; exact a1 k (by omega)
  · by_cases c : k = n + 1
    · rw [c]; exact L.1
    · rw [q3 (k + 1) (by omega)]; exact a2 k (by omega)
  · rw [t1, t2]; exact L
theorem ARC.eq {g : Int → Int} {m : Int} {h1 h2 : Hp} (a : ARC g m h1) (h50 : h2 50 = h1 50) (h51 : h2 51 = h1 51) (h52 : h2 52 = h1 52) : ARC g m h2 := by
  unfold ARC at a ⊢
  rw [h50, h51, h52]; exact a
/-- reading, behind m stages -/
def RDI (v : Int) (g : Int → Int) (m : Int) (h : Hp) : Prop := v = 1 → ARC g m h ∧ h 53 3 = qP g m.toNat ∧ 2 * h 51 (m + 1).toNat ≤ h 53 3
def RDE (v : Int) (g : Int → Int) (h : Hp) : Prop := v = 0 → h 53 4 = 0 → ARC g (h 49 0) h
def RWC (r : Int) (g : Int → Int) (A B C : Nat → Int) : Prop := 0 ≤ r → RW g r (fun k => A (k + 1)) (fun k => B (k + 1)) C
theorem ARC.rw {g : Int → Int} {h : Hp} {m : Int} (a : ARC g m h) (hm : 0 ≤ m) : RW g m (fun k => h 50 (k + 1)) (fun k => h 51 (k + 1)) (h 52) := ⟨a.1, a.2.1, fun j hj => a.2.2.2 j hj⟩
def AS4 (x m : Int) (κ h : Hp) : Prop := h 50 (m + 1).toNat = x ∧ SMx (κ 50) (h 50) (m + 1).toNat ∧ h 51 (m + 1 + 1).toNat = κ 51 (m + 1).toNat ∧ SMx (κ 51) (h 51) (m + 1 + 1).toNat
theorem AS4.eq {x m : Int} {κ h1 h2 : Hp} (a : AS4 x m κ h1) (h50 : h2 50 = h1 50) (h51 : h2 51 = h1 51) : AS4 x m κ h2 := by
  unfold AS4 at a ⊢
  rw [h50, h51]; exact a
theorem AS4.lq {x m p : Int} {κ h1 h2 : Hp} {g : Int → Int} (a : AS4 x m κ h1) (hx : x = g p) (h50 : h2 50 = h1 50) (h51 : h2 51 = h1 51) (h52 : h2 52 = κ 52) : LQ g p κ h2 m := fun _ => by
  rw [h50, h51, ← hx]; exact ⟨a.1, a.2.1, a.2.2.1, a.2.2.2, h52⟩
def AF (h : Hp) (P : Prop) : Prop := h 53 4 = 0 → P
theorem ARC0 {g : Int → Int} {h : Hp} (z : h 51 1 = 0) : ARC g 0 h := by
  refine ⟨fun k hk => by omega, fun k hk => ?_, ?_⟩
  · have e : k = 0 := by omega
    subst e
    exact z
  · show Ls (h 52) (h 51 1) []
    rw [z]; exact Ls.nil
theorem RDI.z {g : Int → Int} {h : Hp} {v : Int} (z : h 51 1 = 0) (e : h 53 3 = 0) : RDI v g 0 h := fun _ => ⟨ARC0 z, e, by show 2 * h 51 1 ≤ h 53 3; omega⟩
theorem RDE.z {g : Int → Int} {h : Hp} {v : Int} (z : h 51 1 = 0) (e : h 49 0 = 0) : RDE v g h := fun _ _ => by rw [e]; exact ARC0 z
theorem RDI.nx {g : Int → Int} {h1 h2 : Hp} {v q : Int} (v0 : 0 ≤ v) (a : ARC g (v + 1) h1) (b : h1 53 3 = sgE g q) (c : q = qP g v.toNat) (d : 2 * h1 51 (v + 1 + 1).toNat ≤ h1 53 3) (w : h2 = zwr h1 53 3 (h1 53 3 + 1)) : RDI 1 g (v + 1) h2 := fun _ => by
  have k50 : h2 50 = h1 50 := by rw [w]; exact zfun (by decide)
  have k51 : h2 51 = h1 51 := by rw [w]; exact zfun (by decide)
  have k52 : h2 52 = h1 52 := by rw [w]; exact zfun (by decide)
  have k3 : h2 53 3 = h1 53 3 + 1 := by rw [w, zwr_eq]
  refine ⟨a.eq k50 k51 k52, ?_, ?_⟩
  · rw [k3, b, c, show (v + 1).toNat = v.toNat + 1 by omega]; rfl
  · rw [k51, k3]; omega
theorem RDE.nx {g : Int → Int} {h1 h2 : Hp} {v m x : Int} (a : AF h1 (ARC g m h1)) (b : h1 53 4 = 0 → h1 49 0 = m) (w : h2 = zwr h1 53 3 x) : RDE v g h2 := fun _ z => by
  have k50 : h2 50 = h1 50 := by rw [w]; exact zfun (by decide)
  have k51 : h2 51 = h1 51 := by rw [w]; exact zfun (by decide)
  have k52 : h2 52 = h1 52 := by rw [w]; exact zfun (by decide)
  have k4 : h2 53 4 = h1 53 4 := by rw [w]; exact zwr_ne (Or.inr (by decide))
  have k0 : h2 49 0 = h1 49 0 := by rw [w]; exact zwr_ne (Or.inl (by decide))
  rw [k4] at z
  rw [k0, b z]
  exact (a z).eq k50 k51 k52
def ARCI (r : Int) (g : Int → Int) (h : Hp) : Prop := 0 ≤ r → ARC g r h
theorem ARC.cp {g : Int → Int} {h : Hp} {m : Int} {A B C : Nat → Int} (a : ARC g m h) (hm : 0 ≤ m ∧ m ≤ 12) (kc : ∀ j, 0 ≤ h 51 j ∧ h 51 j ≤ 64) (c1 : ∀ j : Nat, j < 14 → A j = h 50 j ∧ B j = h 51 j) (c2 : ∀ j : Nat, j < 64 → C j = h 52 j) : RW g m (fun k => A (k + 1)) (fun k => B (k + 1)) C := by
  obtain ⟨a1, a2, a3⟩ := a
  refine ⟨fun k hk => ?_, fun k hk => ?_, fun j hj => ?_⟩
  · show A (k + 1) = _
    rw [(c1 (k + 1) (by omega)).1]; exact a1 k hk
  · show B (k + 1) = _
    rw [(c1 (k + 1) (by omega)).2]; exact a2 k hk
  · have l := a3.1
    have b := kc (m + 1).toNat
    rw [c2 j (by omega)]
    exact a3.2 j hj
def EQC (r : Int) (κ h : Hp) : Prop := r < 0 → h 42 = κ 42 ∧ h 43 = κ 43 ∧ h 44 = κ 44
/-- what stage answers -/
def stF (m : Int) (L A N : Nat → Int) (k w : Int) : Int := if 1 ≤ k ∧ k ≤ m ∧ 0 ≤ w ∧ w ≤ 4 then (if w = 0 then L (k - 1).toNat else if w = 4 then A k.toNat - A (k - 1).toNat else if w ≤ A k.toNat - A (k - 1).toNat then N (A (k - 1).toNat + (w - 1)).toNat else -2) else -1
theorem st_no {m k w : Int} {L A N : Nat → Int} (h : ¬ (1 ≤ k ∧ k ≤ m ∧ 0 ≤ w ∧ w ≤ 4)) : stF m L A N k w = -1 := if_neg h
theorem st_0 {m k w : Int} {L A N : Nat → Int} (h : 1 ≤ k ∧ k ≤ m ∧ 0 ≤ w ∧ w ≤ 4) (e : w = 0) : stF m L A N k w = L (k - 1).toNat := by
  unfold stF; rw [if_pos h, if_pos e]
theorem st_4 {m k w : Int} {L A N : Nat → Int} (h : 1 ≤ k ∧ k ≤ m ∧ 0 ≤ w ∧ w ≤ 4) (e : w = 4) : stF m L A N k w = A k.toNat - A (k - 1).toNat := by
  unfold stF; rw [if_pos h, if_neg (by omega), if_pos e]
theorem st_n {m k w : Int} {L A N : Nat → Int} (h : 1 ≤ k ∧ k ≤ m ∧ 0 ≤ w ∧ w ≤ 4) (e : w ≠ 0 ∧ w ≠ 4) (c : w ≤ A k.toNat - A (k - 1).toNat) : stF m L A N k w = N (A (k - 1).toNat + (w - 1)).toNat := by
  unfold stF; rw [if_pos h, if_neg e.1, if_neg e.2, if_pos c]
theorem st_2 {m k w : Int} {L A N : Nat → Int} (h : 1 ≤ k ∧ k ≤ m ∧ 0 ≤ w ∧ w ≤ 4) (e : w ≠ 0 ∧ w ≠ 4) (c : ¬ w ≤ A k.toNat - A (k - 1).toNat) : stF m L A N k w = -2 := by
  unfold stF; rw [if_pos h, if_neg e.1, if_neg e.2, if_neg c]
/-- the rows are the same as far as they say anything -/
def TR (m : Int) (L A N L' A' N' : Nat → Int) : Prop := (∀ k : Nat, (k : Int) < m → L k = L' k) ∧ (∀ k : Nat, (k : Int) ≤ m → A k = A' k) ∧ (∀ j : Nat, (j : Int) < A' m.toNat → N j = N' j)
theorem RW.tr {g : Int → Int} {m : Int} {L A N L' A' N' : Nat → Int} (h0 : 0 ≤ m) (a : RW g m L A N) (b : RW g m L' A' N') : TR m L A N L' A' N' := by
  refine ⟨fun k hk => (a.1 k hk).trans (b.1 k hk).symm, fun k hk => (a.2.1 k hk).trans (b.2.1 k hk).symm, fun j hj => ?_⟩
  have l := b.2.1 m.toNat (by omega)
  exact (a.2.2 j (by omega)).trans (b.2.2 j (by omega)).symm
theorem TR.cp {m m' : Int} {L A N L' A' N' L1 A1 N1 L2 A2 N2 : Nat → Int} (t : TR m L A N L' A' N') (em : m' = m) (hm : 0 ≤ m ∧ m ≤ 12) (b : ∀ j, A j ≤ 64) (c1 : ∀ j : Nat, j < 12 → L1 j = L j) (c2 : ∀ j : Nat, j < 13 → A1 j = A j) (c3 : ∀ j : Nat, j < 64 → N1 j = N j) (d1 : ∀ j : Nat, j < 12 → L2 j = L' j) (d2 : ∀ j : Nat, j < 13 → A2 j = A' j) (d3 : ∀ j : Nat, j < 64 → N2 j = N' j) : TR m' L1 A1 N1 L2 A2 N2 := by
  subst em
  refine ⟨fun k hk => by rw [c1 k (by omega), d1 k (by omega)]; exact t.1 k hk, fun k hk => by rw [c2 k (by omega), d2 k (by omega)]; exact t.2.1 k hk, fun j hj => ?_⟩
  rw [d2 _ (by omega)] at hj
  have e := t.2.1 m'.toNat (by omega)
  have b' := b m'.toNat
  rw [c3 j (by omega), d3 j (by omega)]
  exact t.2.2 j hj
theorem st_tr {m k w : Int} {L A N L' A' N' : Nat → Int} (t : TR m L A N L' A' N') (up : ∀ i j : Nat, i ≤ j → (j : Int) ≤ m → A' i ≤ A' j) (p : ∀ j : Nat, 0 ≤ A' j) : stF m L A N k w = stF m L' A' N' k w := by
  by_cases h : 1 ≤ k ∧ k ≤ m ∧ 0 ≤ w ∧ w ≤ 4
  · have a1 := t.2.1 k.toNat (by omega)
    have a2 := t.2.1 (k - 1).toNat (by omega)
    by_cases e0 : w = 0
    · rw [st_0 h e0, st_0 h e0]; exact t.1 _ (by omega)
    by_cases e4 : w = 4
    · rw [st_4 h e4, st_4 h e4, a1, a2]
    by_cases c : w ≤ A' k.toNat - A' (k - 1).toNat
    · rw [st_n h ⟨e0, e4⟩ (by rw [a1, a2]; exact c), st_n h ⟨e0, e4⟩ c, a2]
      have u := up k.toNat m.toNat (by omega) (by omega)
      have q := p (k - 1).toNat
      exact t.2.2 _ (by omega)
    · rw [st_2 h ⟨e0, e4⟩ (by rw [a1, a2]; exact c), st_2 h ⟨e0, e4⟩ c]
  · rw [st_no h, st_no h]
theorem sc_k {k : Int} (h : 1 ≤ k) : (k - 1).toNat + 1 = k.toNat ∧ k.toNat + 1 = (k + 1).toNat := ⟨by omega, by omega⟩

abbrev q_X7_addNumberV49Q (κ : Hp) (x1 : Int) (m : Int) (e : Int) : Int → Hp → Prop := fun r h' => Fm [(51, 999), (52, 999)] κ h' ∧ ((Ap (κ 52) (h' 52) e (h' 51 (m + 1).toNat) [x1] ∧ SMx (κ 51) (h' 51) (m + 1).toNat))
set_option maxHeartbeats 4000000 in
set_option maxRecDepth 20000 in
theorem s_X7_addNumberV49Q {G : Ga} {κ : Hp} (hS : SI κ) (hR : KR κ) (hC : KC κ) (x1 : Int) (hx1 : rng x1) (m : Int) (e : Int) (hM : κ 49 0 = m ∧ 0 ≤ m ∧ m ≤ 12) (he : κ 51 (m + 1).toNat = e ∧ 0 ≤ e ∧ e < 64) : zM G mX7_addNumber yX7_addNumber [.inr (.inr 49), .inl x1] κ (q_X7_addNumberV49Q κ x1 m e) := by
  have f_41_0 := KCm hC
  have f_45_0 := KCr0 hC
  have f_49_0 := KCd0 hC
  unfold rng at hx1
  refine zM_of [some (.inr (.inr 49)), some (.inl x1), none] 1 rfl rfl (Nat.le_of_ble_eq_true rfl) rfl ?_
  refine (show ∀ h : Hp, Fm [(51, 999), (52, 999)] κ h → h = κ → zV G mX7_addNumber (q_X7_addNumberV49Q κ x1 m e) 0 [some (.inr (.inr 49)), some (.inl x1), none] [] h from fun h hF hk0 => ?_) κ (Fm.rf hS hR hC) rfl
  have y0_49_0 : h 49 0 = κ 49 0 := by rw [hk0]
  refine zW_aload_n (pc' := 1) dX7_addNumber_0.1.1.1.1 rfl rfl ?_
  refine zG_ref (pc' := 4) 51 fg_X7_15 tb49 rfl dX7_addNumber_0.1.1.1.2 rfl ?_
  refine zW_aload_n (pc' := 5) dX7_addNumber_0.1.1.2.1 rfl rfl ?_
  refine zGm (pc' := 8) hF rfl rfl fg_X7_21 tb49 rfl dX7_addNumber_0.1.1.2.2 rfl ?_
  refine zW_iconst (pc' := 9) dX7_addNumber_0.1.2.1.1 rfl ?_
  refine zW_iadd (pc' := 10) dX7_addNumber_0.1.2.1.2 rfl ?_
  refine zAmD (pc' := 11) hF tb51 (by omega) dX7_addNumber_0.1.2.2.1 rfl (fun e10 => ?_)
  refine zW_istore_n (ls' := [_, _, _]) (pc' := 12) dX7_addNumber_0.1.2.2.2 (by decide) rfl rfl rfl ?_
  have ev : h 51 (κ 49 0 + 1).toNat = e := by rw [hk0, hM.1]; exact he.1
  rw [ev]
  refine zW_iload_n (pc' := 13) dX7_addNumber_0.2.1.1.1 rfl rfl ?_
  refine zW_bipush (pc' := 15) dX7_addNumber_0.2.1.1.2 rfl rfl ?_
  refine zV_cm_ge (tgt := 39) (pc' := 18) dX7_addNumber_0.2.1.2.1 rfl rfl ⟨by omega, by omega⟩ ⟨by omega, by omega⟩ (fun c15 => ?_) (fun c15 => ?_)
  · exact zV_vret rfl dX7_addNumber_1.2.2.2 ⟨hF, by first | (exfalso; omega) | exact ⟨Ap.one (by rw [w38, hM.1, zwr_eq]; exact b38 ⟨by omega, by omega⟩) (fun j hj => by rw [w38, zwr_ne (Or.inl (by decide)), w24, zwr_ne (Or.inr (by omega)), hk0]) (by rw [w38, zwr_ne (Or.inl (by decide)), w24, zwr_eq]; exact b24 ⟨by omega, by omega⟩), fun j hj => by rw [w38, hM.1, zwr_ne (Or.inr hj), w24, zwr_ne (Or.inl (by decide)), hk0]⟩⟩
  · refine zW_aload_n (pc' := 19) dX7_addNumber_0.2.1.2.2 rfl rfl ?_
    refine zG_ref (pc' := 22) 52 fg_X7_18 tb49 rfl dX7_addNumber_0.2.2.1.1 rfl ?_
    refine zW_iload_n (pc' := 23) dX7_addNumber_0.2.2.1.2 rfl rfl ?_
    refine zW_iload_n (pc' := 24) dX7_addNumber_0.2.2.2.1 rfl rfl ?_
    refine zSm (pc' := 25) hF rfl (fun v' hv he => ⟨(SI_irr hF.2.1 (Or.inl (key_of rfl _)) (fun _ _ => hv)), (KR_irr hF.2.2.1 rfl), (KC_irr hF.2.2.2 rfl)⟩) tb52 (by omega) dX7_addNumber_0.2.2.2.2 (by decide) rfl (fun h i24 hF a24 b24 w24 => ?_)
    have t24_49_0 := congrFun (congrFun w24 49) 0
    rw [zwr_ne (Or.inl (by decide))] at t24_49_0
    refine zW_aload_n (pc' := 26) dX7_addNumber_1.1.1.1.1 rfl rfl ?_
    refine zG_ref (pc' := 29) 51 fg_X7_15 tb49 rfl dX7_addNumber_1.1.1.1.2 rfl ?_
    refine zW_aload_n (pc' := 30) dX7_addNumber_1.1.1.2 rfl rfl ?_
    refine zGm (pc' := 33) hF rfl rfl fg_X7_21 tb49 rfl dX7_addNumber_1.1.2.1.1 rfl ?_
    refine zW_iconst (pc' := 34) dX7_addNumber_1.1.2.1.2 rfl ?_
    refine zW_iadd (pc' := 35) dX7_addNumber_1.1.2.2 rfl ?_
    refine zW_iload_n (pc' := 36) dX7_addNumber_1.2.1.1.1 rfl rfl ?_
    refine zW_iconst (pc' := 37) dX7_addNumber_1.2.1.1.2 rfl ?_
    refine zW_iadd (pc' := 38) dX7_addNumber_1.2.1.2 rfl ?_
    refine zSm (pc' := 39) hF rfl (fun v' hv he => ⟨(SI_irr hF.2.1 (Or.inl (key_of rfl _)) (fun _ _ => hv)), (KR_irr hF.2.2.1 rfl), (KC_c51 hF.2.2.2 (by have := he ⟨by omega, by omega⟩; omega))⟩) tb51 (by omega) dX7_addNumber_1.2.2.1 (by decide) rfl (fun h i38 hF a38 b38 w38 => ?_)
    have t38_49_0 := congrFun (congrFun w38 49) 0
    rw [zwr_ne (Or.inl (by decide))] at t38_49_0
    exact zV_vret rfl dX7_addNumber_1.2.2.2 ⟨hF, by first | (exfalso; omega) | exact ⟨Ap.one (by rw [w38, hM.1, zwr_eq]; exact b38 ⟨by omega, by omega⟩) (fun j hj => by rw [w38, zwr_ne (Or.inl (by decide)), w24, zwr_ne (Or.inr (by omega)), hk0]) (by rw [w38, zwr_ne (Or.inl (by decide)), w24, zwr_eq]; exact b24 ⟨by omega, by omega⟩), fun j hj => by rw [w38, hM.1, zwr_ne (Or.inr hj), w24, zwr_ne (Or.inl (by decide)), hk0]⟩⟩

abbrev q_X6_readNumberQ (κ : Hp) (x1 : Int) (x2 : Int) (g : Int → Int) (p : Int) (m : Int) (e : Int) : Int → Hp → Prop := fun r h' => Fm [(53, 3), (53, 4), (51, 999), (52, 999)] κ h' ∧ ((0 ≤ r) ∧ (r ≤ 999) ∧ (h' 53 4 = sq (κ 53 4) (nF g p x1 x2) ∧ (h' 53 4 = 0 → h' 53 3 = p + nD g p ∧ r = nV g p) ∧ h' 53 4 ≤ 0 ∧ κ 53 3 ≤ h' 53 3 ∧ (h' 53 3 = κ 53 3 ∨ h' 53 3 ≤ κ 53 2) ∧ CA κ h' m e [nV g p] ∧ SMx (κ 51) (h' 51) (m + 1).toNat))
set_option maxHeartbeats 4000000 in
set_option maxRecDepth 20000 in
theorem s_X6_readNumberQ {G : Ga} {κ : Hp} (hS : SI κ) (hR : KR κ) (hC : KC κ) (x1 : Int) (hx1 : 0 ≤ x1 ∧ x1 ≤ 1000) (x2 : Int) (hx2 : 0 ≤ x2 ∧ x2 ≤ 255) (g : Int → Int) (p : Int) (m : Int) (e : Int) (hg : hr (κ 32) (κ 53 2) = g) (hn : 0 ≤ κ 53 2 ∧ κ 53 2 ≤ 120 ∧ κ 53 2 ≤ κ 31 1) (hp : κ 53 4 = 0 → κ 53 3 = p ∧ 0 ≤ p) (ha : 0 ≤ κ 53 3 ∧ κ 53 3 ≤ 200) (hz : κ 53 4 ≤ 0) (hM : κ 49 0 = m ∧ 0 ≤ m ∧ m ≤ 12) (he : HE κ m e) : zM G mX6_readNumber yX6_readNumber [.inr (.inr 53), .inl x1, .inl x2] κ (q_X6_readNumberQ κ x1 x2 g p m e) := by
  have f_31_1 := KCt hC
  have f_49_0 := KCd0 hC
  have sc := sqc (κ 53 4) (nF g p x1 x2)
  have main : ∀ N : Nat, (∀ (v3 v4 v5 : Int) (h : Hp), Fm [(53, 3), (53, 4), (51, 999), (52, 999)] κ h → (0 ≤ v3 ∧ v3 ≤ 200) → (0 ≤ v4 ∧ v4 ≤ 999) → (0 ≤ v5 ∧ v5 ≤ 3) → (v3 = p ∧ κ 53 3 = p ∧ 0 ≤ p) → (h 53 4 = 0 ∧ κ 53 4 = 0) → (h 53 3 = p + v5 ∧ (v5 = 0 ∨ p + v5 ≤ κ 53 2)) → (v4 = nVk g p v5.toNat) → (DG g p v5) → (h 51 = κ 51 ∧ h 52 = κ 52) → 19530 + 63 * (3 - v5) + 62 < (N : Int) → zV G mX6_readNumber (q_X6_readNumberQ κ x1 x2 g p m e) 20 [some (.inr (.inr 53)), some (.inl x1), some (.inl x2), some (.inl v3), some (.inl v4), some (.inl v5)] [] h) := by
    intro N
    induction N with
    | zero =>
      intro v3 v4 v5 h hF g0 g1 g2 gc0 gc1 gc2 gc3 gc4 gc5 hm
      exfalso; omega
    | succ N ih =>
      have k20 := ih
      intro v3 v4 v5 h hF g0 g1 g2 gc0 gc1 gc2 gc3 gc4 gc5 hm
      have h51 := gc5.1
      have h52 := gc5.2
      refine zW_iload (pc' := 22) dX6_readNumber_0.2.2.1.1 rfl rfl ?_
      refine zW_iconst (pc' := 23) dX6_readNumber_0.2.2.1.2 rfl ?_
      refine zV_cm_ge (tgt := 64) (pc' := 26) dX6_readNumber_0.2.2.2.1 rfl rfl ⟨by omega, by omega⟩ ⟨by omega, by omega⟩ (fun c23 => ?_) (fun c23 => ?_)
      · refine zW_aload_n (pc' := 65) dX6_readNumber_2.1.1.2.2 rfl rfl ?_
        refine zG_int (pc' := 68) fg_X6_29 tb53 rfl dX6_readNumber_2.1.2.1.1 rfl ?_
        have e65 := hF.rh 53 3
        refine zW_iload_n (pc' := 69) dX6_readNumber_2.1.2.1.2 rfl rfl ?_
        refine zV_cm_ne (tgt := 84) (pc' := 72) dX6_readNumber_2.1.2.2.1 rfl rfl ⟨by omega, by omega⟩ ⟨by omega, by omega⟩ (fun c69 => ?_) (fun c69 => ?_)
        · refine zW_aload_n (pc' := 85) dX6_readNumber_2.2.2.1.2 rfl rfl ?_
          have y85_31_1 := hF.1 31 1 rfl rfl
          have y85_53_2 := hF.1 53 2 rfl rfl
          refine cvI0 (pc' := 88) kX6_isDigit vX6_isDigit lk_X6_94 ⟨Nat.le_of_ble_eq_true rfl, Nat.le_of_ble_eq_true rfl⟩ tb53 vq6 rfl rfl (s_X6_isDigitP (b := true) (κ := h) hF.2.2.2 (Fr.rf hF.2.1) g (p + v5) (by rw [hF.cell 32 rfl (fun _ => rfl), hF.1 53 2 rfl rfl]; exact hg) (by omega) (by omega)) dX6_readNumber_2.2.2.2.1 (Nat.le_of_ble_eq_true rfl) rfl ?_
          rintro r85 z85 ⟨hz85, p85⟩; subst z85
          refine zV_if_eq (tgt := 103) (pc' := 91) dX6_readNumber_2.2.2.2.2 rfl rfl ⟨by omega, by omega⟩ (fun c88 => ?_) (fun c88 => ?_)
          · have nd := nD_end ⟨by omega, by omega⟩ gc4 (fun q => absurd (p85.2.2.1.mpr q) (by omega))
            have nf := nFc g p x1 x2
            have v51 : 1 ≤ v5 := by omega
            clear p85
            refine zW_iload (pc' := 105) dX6_readNumber_3.1.2.2.1 rfl rfl ?_
            refine zW_iload_n (pc' := 106) dX6_readNumber_3.1.2.2.2 rfl rfl ?_
            refine zV_cm_lt (tgt := 115) (pc' := 109) dX6_readNumber_3.2.1.1.1 rfl rfl ⟨by omega, by omega⟩ ⟨by omega, by omega⟩ (fun c106 => ?_) (fun c106 => ?_)
            · refine zW_aload_n (pc' := 116) dX6_readNumber_3.2.2.1.1 rfl rfl ?_
              refine zW_iconst (pc' := 117) dX6_readNumber_3.2.2.1.2 rfl ?_
              refine zW_iload_n (pc' := 118) dX6_readNumber_3.2.2.2.1 rfl rfl ?_
              refine cvV2 (pc' := 121) kX6_tell vX6_tell lk_X6_59 ⟨Nat.le_of_ble_eq_true rfl, Nat.le_of_ble_eq_true rfl⟩ tb53 vq6 rfl rfl (s_X6_tellP hF.2.1 hF.2.2.1 hF.2.2.2 _ ⟨by omega, by omega⟩ _ ⟨by omega, by omega⟩) dX6_readNumber_3.2.2.2.2 (Nat.le_of_ble_eq_true rfl) rfl ?_
              rintro r118 h ⟨hF1, p118⟩; replace hF := hF.tr hF1 rfl
              replace h51 : h 51 = κ 51 := (hF1.cell 51 rfl (fun _ => rfl)).trans h51
              replace h52 : h 52 = κ 52 := (hF1.cell 52 rfl (fun _ => rfl)).trans h52
              have t118_53_3 := hF1.1 53 3 rfl rfl
              refine zV_goto 133 dX6_readNumber_4.1.1.1 rfl ?_
              first | (have ev4 : v4 = nV g p := (by omega); have apx := p130.1; rw [h52, ev4] at apx; have smx := p130.2; rw [h51] at smx) | skip
              refine zW_iload (pc' := 135) dX6_readNumber_4.2.1.2 rfl rfl ?_
              exact zV_iret rfl dX6_readNumber_4.2.2 ⟨hF, by refine ⟨by omega, by omega, by omega, by omega, by omega, by omega, by omega, ?_, ?_⟩; (first | exact (fun _ => apx) | exact (fun z => absurd z (by omega))); (first | exact smx | (rw [h51]; exact SMx.rf))⟩
            · refine zW_iload (pc' := 111) dX6_readNumber_3.2.1.1.2 rfl rfl ?_
              refine zW_iload_n (pc' := 112) dX6_readNumber_3.2.1.2.1 rfl rfl ?_
              refine zV_cm_le (tgt := 124) (pc' := 115) dX6_readNumber_3.2.1.2.2 rfl rfl ⟨by omega, by omega⟩ ⟨by omega, by omega⟩ (fun c112 => ?_) (fun c112 => ?_)
              · refine zW_aload_n (pc' := 125) dX6_readNumber_4.1.1.2 rfl rfl ?_
                refine zG_ref (pc' := 128) 49 fg_X6_12 tb53 rfl dX6_readNumber_4.1.2.1 rfl ?_
                refine zW_iload (pc' := 130) dX6_readNumber_4.1.2.2 rfl rfl ?_
                have y130_49_0 := hF.1 49 0 rfl rfl
                refine cvV1 (pc' := 133) kX7_addNumber vX7_addNumber lk_X6_98 ⟨Nat.le_of_ble_eq_true rfl, Nat.le_of_ble_eq_true rfl⟩ tb49 vq7 rfl rfl (s_X7_addNumberV49Q hF.2.1 hF.2.2.1 hF.2.2.2 _ ⟨by omega, by omega⟩ m e ⟨(hF.1 49 0 rfl rfl).trans hM.1, hM.2⟩ (by rw [h51]; exact he (by omega))) dX6_readNumber_4.2.1.1 (Nat.le_of_ble_eq_true rfl) rfl ?_
                rintro r130 h ⟨hF1, p130⟩; replace hF := hF.tr hF1 rfl
                have t130_53_3 := hF1.1 53 3 rfl rfl
                have t130_53_4 := hF1.1 53 4 rfl rfl
                first | (have ev4 : v4 = nV g p := (by omega); have apx := p130.1; rw [h52, ev4] at apx; have smx := p130.2; rw [h51] at smx) | skip
                refine zW_iload (pc' := 135) dX6_readNumber_4.2.1.2 rfl rfl ?_
                exact zV_iret rfl dX6_readNumber_4.2.2 ⟨hF, by refine ⟨by omega, by omega, by omega, by omega, by omega, by omega, by omega, ?_, ?_⟩; (first | exact (fun _ => apx) | exact (fun z => absurd z (by omega))); (first | exact smx | (rw [h51]; exact SMx.rf))⟩
              · refine zW_aload_n (pc' := 116) dX6_readNumber_3.2.2.1.1 rfl rfl ?_
                refine zW_iconst (pc' := 117) dX6_readNumber_3.2.2.1.2 rfl ?_
                refine zW_iload_n (pc' := 118) dX6_readNumber_3.2.2.2.1 rfl rfl ?_
                refine cvV2 (pc' := 121) kX6_tell vX6_tell lk_X6_59 ⟨Nat.le_of_ble_eq_true rfl, Nat.le_of_ble_eq_true rfl⟩ tb53 vq6 rfl rfl (s_X6_tellP hF.2.1 hF.2.2.1 hF.2.2.2 _ ⟨by omega, by omega⟩ _ ⟨by omega, by omega⟩) dX6_readNumber_3.2.2.2.2 (Nat.le_of_ble_eq_true rfl) rfl ?_
                rintro r118 h ⟨hF1, p118⟩; replace hF := hF.tr hF1 rfl
                replace h51 : h 51 = κ 51 := (hF1.cell 51 rfl (fun _ => rfl)).trans h51
                replace h52 : h 52 = κ 52 := (hF1.cell 52 rfl (fun _ => rfl)).trans h52
                have t118_53_3 := hF1.1 53 3 rfl rfl
                refine zV_goto 133 dX6_readNumber_4.1.1.1 rfl ?_
                first | (have ev4 : v4 = nV g p := (by omega); have apx := p130.1; rw [h52, ev4] at apx; have smx := p130.2; rw [h51] at smx) | skip
                refine zW_iload (pc' := 135) dX6_readNumber_4.2.1.2 rfl rfl ?_
                exact zV_iret rfl dX6_readNumber_4.2.2 ⟨hF, by refine ⟨by omega, by omega, by omega, by omega, by omega, by omega, by omega, ?_, ?_⟩; (first | exact (fun _ => apx) | exact (fun z => absurd z (by omega))); (first | exact smx | (rw [h51]; exact SMx.rf))⟩
          · have nd : nD g p = 4 ∧ v5 = 3 := by first | (exfalso; omega) | exact ⟨nD_4 (by rw [show (3 : Int) = v5 by omega]; exact gc4) (by rw [show p + 3 = p + v5 by omega]; exact p85.2.2.1.mp (by omega)), by omega⟩
            have nf := nFc g p x1 x2
            refine zW_aload_n (pc' := 92) dX6_readNumber_3.1.1.1.1 rfl rfl ?_
            refine zW_iconst (pc' := 93) dX6_readNumber_3.1.1.1.2 rfl ?_
            refine zW_aload_n (pc' := 94) dX6_readNumber_3.1.1.2.1 rfl rfl ?_
            refine zG_int (pc' := 97) fg_X6_29 tb53 rfl dX6_readNumber_3.1.1.2.2 rfl ?_
            have e94 := hF.rh 53 3
            refine cvV2 (pc' := 100) kX6_tell vX6_tell lk_X6_59 ⟨Nat.le_of_ble_eq_true rfl, Nat.le_of_ble_eq_true rfl⟩ tb53 vq6 rfl rfl (s_X6_tellP hF.2.1 hF.2.2.1 hF.2.2.2 _ ⟨by omega, by omega⟩ _ ⟨by omega, by omega⟩) dX6_readNumber_3.1.2.1.1 (Nat.le_of_ble_eq_true rfl) rfl ?_
            rintro r97 h ⟨hF1, p97⟩; replace hF := hF.tr hF1 rfl
            replace h51 : h 51 = κ 51 := (hF1.cell 51 rfl (fun _ => rfl)).trans h51
            replace h52 : h 52 = κ 52 := (hF1.cell 52 rfl (fun _ => rfl)).trans h52
            have t97_53_3 := hF1.1 53 3 rfl rfl
            refine zV_goto 133 dX6_readNumber_3.1.2.1.2 rfl ?_
            first | (have ev4 : v4 = nV g p := (by omega); have apx := p130.1; rw [h52, ev4] at apx; have smx := p130.2; rw [h51] at smx) | skip
            refine zW_iload (pc' := 135) dX6_readNumber_4.2.1.2 rfl rfl ?_
            exact zV_iret rfl dX6_readNumber_4.2.2 ⟨hF, by refine ⟨by omega, by omega, by omega, by omega, by omega, by omega, by omega, ?_, ?_⟩; (first | exact (fun _ => apx) | exact (fun z => absurd z (by omega))); (first | exact smx | (rw [h51]; exact SMx.rf))⟩
        · have nd : nD g p = 0 := by first | (exfalso; omega) | (have z := (nD_end ⟨by omega, by omega⟩ gc4 (fun q => absurd (p27.2.2.1.mpr q) (by omega))).1; omega)
          have nf := nFc g p x1 x2
          refine zW_aload_n (pc' := 73) dX6_readNumber_2.1.2.2.2 rfl rfl ?_
          refine zW_iconst (pc' := 74) dX6_readNumber_2.2.1.1.1 rfl ?_
          refine zW_aload_n (pc' := 75) dX6_readNumber_2.2.1.1.2 rfl rfl ?_
          refine zG_int (pc' := 78) fg_X6_29 tb53 rfl dX6_readNumber_2.2.1.2.1 rfl ?_
          have e75 := hF.rh 53 3
          refine cvV2 (pc' := 81) kX6_tell vX6_tell lk_X6_59 ⟨Nat.le_of_ble_eq_true rfl, Nat.le_of_ble_eq_true rfl⟩ tb53 vq6 rfl rfl (s_X6_tellP hF.2.1 hF.2.2.1 hF.2.2.2 _ ⟨by omega, by omega⟩ _ ⟨by omega, by omega⟩) dX6_readNumber_2.2.1.2.2 (Nat.le_of_ble_eq_true rfl) rfl ?_
          rintro r78 h ⟨hF1, p78⟩; replace hF := hF.tr hF1 rfl
          replace h51 : h 51 = κ 51 := (hF1.cell 51 rfl (fun _ => rfl)).trans h51
          replace h52 : h 52 = κ 52 := (hF1.cell 52 rfl (fun _ => rfl)).trans h52
          have t78_53_3 := hF1.1 53 3 rfl rfl
          refine zV_goto 133 dX6_readNumber_2.2.2.1.1 rfl ?_
          first | (have ev4 : v4 = nV g p := (by omega); have apx := p130.1; rw [h52, ev4] at apx; have smx := p130.2; rw [h51] at smx) | skip
          refine zW_iload (pc' := 135) dX6_readNumber_4.2.1.2 rfl rfl ?_
          exact zV_iret rfl dX6_readNumber_4.2.2 ⟨hF, by refine ⟨by omega, by omega, by omega, by omega, by omega, by omega, by omega, ?_, ?_⟩; (first | exact (fun _ => apx) | exact (fun z => absurd z (by omega))); (first | exact smx | (rw [h51]; exact SMx.rf))⟩
      · refine zW_aload_n (pc' := 27) dX6_readNumber_0.2.2.2.2 rfl rfl ?_
        have y27_31_1 := hF.1 31 1 rfl rfl
        have y27_53_2 := hF.1 53 2 rfl rfl
        refine cvI0 (pc' := 30) kX6_isDigit vX6_isDigit lk_X6_94 ⟨Nat.le_of_ble_eq_true rfl, Nat.le_of_ble_eq_true rfl⟩ tb53 vq6 rfl rfl (s_X6_isDigitP (b := true) (κ := h) hF.2.2.2 (Fr.rf hF.2.1) g (p + v5) (by rw [hF.cell 32 rfl (fun _ => rfl), hF.1 53 2 rfl rfl]; exact hg) (by omega) (by omega)) dX6_readNumber_1.1.1.1.1 (Nat.le_of_ble_eq_true rfl) rfl ?_
        rintro r27 z27 ⟨hz27, p27⟩; subst z27
        refine zV_if_eq (tgt := 64) (pc' := 33) dX6_readNumber_1.1.1.1.2 rfl rfl ⟨by omega, by omega⟩ (fun c30 => ?_) (fun c30 => ?_)
        · refine zW_aload_n (pc' := 65) dX6_readNumber_2.1.1.2.2 rfl rfl ?_
          refine zG_int (pc' := 68) fg_X6_29 tb53 rfl dX6_readNumber_2.1.2.1.1 rfl ?_
          have e65 := hF.rh 53 3
          refine zW_iload_n (pc' := 69) dX6_readNumber_2.1.2.1.2 rfl rfl ?_
          refine zV_cm_ne (tgt := 84) (pc' := 72) dX6_readNumber_2.1.2.2.1 rfl rfl ⟨by omega, by omega⟩ ⟨by omega, by omega⟩ (fun c69 => ?_) (fun c69 => ?_)
          · refine zW_aload_n (pc' := 85) dX6_readNumber_2.2.2.1.2 rfl rfl ?_
            have y85_31_1 := hF.1 31 1 rfl rfl
            have y85_53_2 := hF.1 53 2 rfl rfl
            refine cvI0 (pc' := 88) kX6_isDigit vX6_isDigit lk_X6_94 ⟨Nat.le_of_ble_eq_true rfl, Nat.le_of_ble_eq_true rfl⟩ tb53 vq6 rfl rfl (s_X6_isDigitP (b := true) (κ := h) hF.2.2.2 (Fr.rf hF.2.1) g (p + v5) (by rw [hF.cell 32 rfl (fun _ => rfl), hF.1 53 2 rfl rfl]; exact hg) (by omega) (by omega)) dX6_readNumber_2.2.2.2.1 (Nat.le_of_ble_eq_true rfl) rfl ?_
            rintro r85 z85 ⟨hz85, p85⟩; subst z85
            refine zV_if_eq (tgt := 103) (pc' := 91) dX6_readNumber_2.2.2.2.2 rfl rfl ⟨by omega, by omega⟩ (fun c88 => ?_) (fun c88 => ?_)
            · have nd := nD_end ⟨by omega, by omega⟩ gc4 (fun q => absurd (p85.2.2.1.mpr q) (by omega))
              have nf := nFc g p x1 x2
              have v51 : 1 ≤ v5 := by omega
              clear p85
              refine zW_iload (pc' := 105) dX6_readNumber_3.1.2.2.1 rfl rfl ?_
              refine zW_iload_n (pc' := 106) dX6_readNumber_3.1.2.2.2 rfl rfl ?_
              refine zV_cm_lt (tgt := 115) (pc' := 109) dX6_readNumber_3.2.1.1.1 rfl rfl ⟨by omega, by omega⟩ ⟨by omega, by omega⟩ (fun c106 => ?_) (fun c106 => ?_)
              · refine zW_aload_n (pc' := 116) dX6_readNumber_3.2.2.1.1 rfl rfl ?_
                refine zW_iconst (pc' := 117) dX6_readNumber_3.2.2.1.2 rfl ?_
                refine zW_iload_n (pc' := 118) dX6_readNumber_3.2.2.2.1 rfl rfl ?_
                refine cvV2 (pc' := 121) kX6_tell vX6_tell lk_X6_59 ⟨Nat.le_of_ble_eq_true rfl, Nat.le_of_ble_eq_true rfl⟩ tb53 vq6 rfl rfl (s_X6_tellP hF.2.1 hF.2.2.1 hF.2.2.2 _ ⟨by omega, by omega⟩ _ ⟨by omega, by omega⟩) dX6_readNumber_3.2.2.2.2 (Nat.le_of_ble_eq_true rfl) rfl ?_
                rintro r118 h ⟨hF1, p118⟩; replace hF := hF.tr hF1 rfl
                replace h51 : h 51 = κ 51 := (hF1.cell 51 rfl (fun _ => rfl)).trans h51
                replace h52 : h 52 = κ 52 := (hF1.cell 52 rfl (fun _ => rfl)).trans h52
                have t118_53_3 := hF1.1 53 3 rfl rfl
                refine zV_goto 133 dX6_readNumber_4.1.1.1 rfl ?_
                first | (have ev4 : v4 = nV g p := (by omega); have apx := p130.1; rw [h52, ev4] at apx; have smx := p130.2; rw [h51] at smx) | skip
                refine zW_iload (pc' := 135) dX6_readNumber_4.2.1.2 rfl rfl ?_
                exact zV_iret rfl dX6_readNumber_4.2.2 ⟨hF, by refine ⟨by omega, by omega, by omega, by omega, by omega, by omega, by omega, ?_, ?_⟩; (first | exact (fun _ => apx) | exact (fun z => absurd z (by omega))); (first | exact smx | (rw [h51]; exact SMx.rf))⟩
              · refine zW_iload (pc' := 111) dX6_readNumber_3.2.1.1.2 rfl rfl ?_
                refine zW_iload_n (pc' := 112) dX6_readNumber_3.2.1.2.1 rfl rfl ?_
                refine zV_cm_le (tgt := 124) (pc' := 115) dX6_readNumber_3.2.1.2.2 rfl rfl ⟨by omega, by omega⟩ ⟨by omega, by omega⟩ (fun c112 => ?_) (fun c112 => ?_)
                · refine zW_aload_n (pc' := 125) dX6_readNumber_4.1.1.2 rfl rfl ?_
                  refine zG_ref (pc' := 128) 49 fg_X6_12 tb53 rfl dX6_readNumber_4.1.2.1 rfl ?_
                  refine zW_iload (pc' := 130) dX6_readNumber_4.1.2.2 rfl rfl ?_
                  have y130_49_0 := hF.1 49 0 rfl rfl
                  refine cvV1 (pc' := 133) kX7_addNumber vX7_addNumber lk_X6_98 ⟨Nat.le_of_ble_eq_true rfl, Nat.le_of_ble_eq_true rfl⟩ tb49 vq7 rfl rfl (s_X7_addNumberV49Q hF.2.1 hF.2.2.1 hF.2.2.2 _ ⟨by omega, by omega⟩ m e ⟨(hF.1 49 0 rfl rfl).trans hM.1, hM.2⟩ (by rw [h51]; exact he (by omega))) dX6_readNumber_4.2.1.1 (Nat.le_of_ble_eq_true rfl) rfl ?_
                  rintro r130 h ⟨hF1, p130⟩; replace hF := hF.tr hF1 rfl
                  have t130_53_3 := hF1.1 53 3 rfl rfl
                  have t130_53_4 := hF1.1 53 4 rfl rfl
                  first | (have ev4 : v4 = nV g p := (by omega); have apx := p130.1; rw [h52, ev4] at apx; have smx := p130.2; rw [h51] at smx) | skip
                  refine zW_iload (pc' := 135) dX6_readNumber_4.2.1.2 rfl rfl ?_
                  exact zV_iret rfl dX6_readNumber_4.2.2 ⟨hF, by refine ⟨by omega, by omega, by omega, by omega, by omega, by omega, by omega, ?_, ?_⟩; (first | exact (fun _ => apx) | exact (fun z => absurd z (by omega))); (first | exact smx | (rw [h51]; exact SMx.rf))⟩
                · refine zW_aload_n (pc' := 116) dX6_readNumber_3.2.2.1.1 rfl rfl ?_
                  refine zW_iconst (pc' := 117) dX6_readNumber_3.2.2.1.2 rfl ?_
                  refine zW_iload_n (pc' := 118) dX6_readNumber_3.2.2.2.1 rfl rfl ?_
                  refine cvV2 (pc' := 121) kX6_tell vX6_tell lk_X6_59 ⟨Nat.le_of_ble_eq_true rfl, Nat.le_of_ble_eq_true rfl⟩ tb53 vq6 rfl rfl (s_X6_tellP hF.2.1 hF.2.2.1 hF.2.2.2 _ ⟨by omega, by omega⟩ _ ⟨by omega, by omega⟩) dX6_readNumber_3.2.2.2.2 (Nat.le_of_ble_eq_true rfl) rfl ?_
                  rintro r118 h ⟨hF1, p118⟩; replace hF := hF.tr hF1 rfl
                  replace h51 : h 51 = κ 51 := (hF1.cell 51 rfl (fun _ => rfl)).trans h51
                  replace h52 : h 52 = κ 52 := (hF1.cell 52 rfl (fun _ => rfl)).trans h52
                  have t118_53_3 := hF1.1 53 3 rfl rfl
                  refine zV_goto 133 dX6_readNumber_4.1.1.1 rfl ?_
                  first | (have ev4 : v4 = nV g p := (by omega); have apx := p130.1; rw [h52, ev4] at apx; have smx := p130.2; rw [h51] at smx) | skip
                  refine zW_iload (pc' := 135) dX6_readNumber_4.2.1.2 rfl rfl ?_
                  exact zV_iret rfl dX6_readNumber_4.2.2 ⟨hF, by refine ⟨by omega, by omega, by omega, by omega, by omega, by omega, by omega, ?_, ?_⟩; (first | exact (fun _ => apx) | exact (fun z => absurd z (by omega))); (first | exact smx | (rw [h51]; exact SMx.rf))⟩
            · have nd : nD g p = 4 ∧ v5 = 3 := by first | (exfalso; omega) | exact ⟨nD_4 (by rw [show (3 : Int) = v5 by omega]; exact gc4) (by rw [show p + 3 = p + v5 by omega]; exact p85.2.2.1.mp (by omega)), by omega⟩
              have nf := nFc g p x1 x2
              refine zW_aload_n (pc' := 92) dX6_readNumber_3.1.1.1.1 rfl rfl ?_
              refine zW_iconst (pc' := 93) dX6_readNumber_3.1.1.1.2 rfl ?_
              refine zW_aload_n (pc' := 94) dX6_readNumber_3.1.1.2.1 rfl rfl ?_
              refine zG_int (pc' := 97) fg_X6_29 tb53 rfl dX6_readNumber_3.1.1.2.2 rfl ?_
              have e94 := hF.rh 53 3
              refine cvV2 (pc' := 100) kX6_tell vX6_tell lk_X6_59 ⟨Nat.le_of_ble_eq_true rfl, Nat.le_of_ble_eq_true rfl⟩ tb53 vq6 rfl rfl (s_X6_tellP hF.2.1 hF.2.2.1 hF.2.2.2 _ ⟨by omega, by omega⟩ _ ⟨by omega, by omega⟩) dX6_readNumber_3.1.2.1.1 (Nat.le_of_ble_eq_true rfl) rfl ?_
              rintro r97 h ⟨hF1, p97⟩; replace hF := hF.tr hF1 rfl
              replace h51 : h 51 = κ 51 := (hF1.cell 51 rfl (fun _ => rfl)).trans h51
              replace h52 : h 52 = κ 52 := (hF1.cell 52 rfl (fun _ => rfl)).trans h52
              have t97_53_3 := hF1.1 53 3 rfl rfl
              refine zV_goto 133 dX6_readNumber_3.1.2.1.2 rfl ?_
              first | (have ev4 : v4 = nV g p := (by omega); have apx := p130.1; rw [h52, ev4] at apx; have smx := p130.2; rw [h51] at smx) | skip
              refine zW_iload (pc' := 135) dX6_readNumber_4.2.1.2 rfl rfl ?_
              exact zV_iret rfl dX6_readNumber_4.2.2 ⟨hF, by refine ⟨by omega, by omega, by omega, by omega, by omega, by omega, by omega, ?_, ?_⟩; (first | exact (fun _ => apx) | exact (fun z => absurd z (by omega))); (first | exact smx | (rw [h51]; exact SMx.rf))⟩
          · have nd : nD g p = 0 := by first | (exfalso; omega) | (have z := (nD_end ⟨by omega, by omega⟩ gc4 (fun q => absurd (p27.2.2.1.mpr q) (by omega))).1; omega)
            have nf := nFc g p x1 x2
            refine zW_aload_n (pc' := 73) dX6_readNumber_2.1.2.2.2 rfl rfl ?_
            refine zW_iconst (pc' := 74) dX6_readNumber_2.2.1.1.1 rfl ?_
            refine zW_aload_n (pc' := 75) dX6_readNumber_2.2.1.1.2 rfl rfl ?_
            refine zG_int (pc' := 78) fg_X6_29 tb53 rfl dX6_readNumber_2.2.1.2.1 rfl ?_
            have e75 := hF.rh 53 3
            refine cvV2 (pc' := 81) kX6_tell vX6_tell lk_X6_59 ⟨Nat.le_of_ble_eq_true rfl, Nat.le_of_ble_eq_true rfl⟩ tb53 vq6 rfl rfl (s_X6_tellP hF.2.1 hF.2.2.1 hF.2.2.2 _ ⟨by omega, by omega⟩ _ ⟨by omega, by omega⟩) dX6_readNumber_2.2.1.2.2 (Nat.le_of_ble_eq_true rfl) rfl ?_
            rintro r78 h ⟨hF1, p78⟩; replace hF := hF.tr hF1 rfl
            replace h51 : h 51 = κ 51 := (hF1.cell 51 rfl (fun _ => rfl)).trans h51
            replace h52 : h 52 = κ 52 := (hF1.cell 52 rfl (fun _ => rfl)).trans h52
            have t78_53_3 := hF1.1 53 3 rfl rfl
            refine zV_goto 133 dX6_readNumber_2.2.2.1.1 rfl ?_
            first | (have ev4 : v4 = nV g p := (by omega); have apx := p130.1; rw [h52, ev4] at apx; have smx := p130.2; rw [h51] at smx) | skip
            refine zW_iload (pc' := 135) dX6_readNumber_4.2.1.2 rfl rfl ?_
            exact zV_iret rfl dX6_readNumber_4.2.2 ⟨hF, by refine ⟨by omega, by omega, by omega, by omega, by omega, by omega, by omega, ?_, ?_⟩; (first | exact (fun _ => apx) | exact (fun z => absurd z (by omega))); (first | exact smx | (rw [h51]; exact SMx.rf))⟩
        · have bd := nVk_b gc4 ⟨by omega, by omega⟩
          have dg1 : 48 ≤ g (p + v5) ∧ g (p + v5) ≤ 57 := p27.2.2.1.mp (by omega)
          have dgn := DG_s gc4 dg1
          refine zW_bipush (pc' := 35) dX6_readNumber_1.1.1.2.1 rfl rfl ?_
          refine zW_iload (pc' := 37) dX6_readNumber_1.1.1.2.2 rfl rfl ?_
          refine zW_imul (pc' := 38) dX6_readNumber_1.1.2.1.1 rfl ?_
          refine zW_aload_n (pc' := 39) dX6_readNumber_1.1.2.1.2 rfl rfl ?_
          have y39_31_1 := hF.1 31 1 rfl rfl
          have y39_53_2 := hF.1 53 2 rfl rfl
          refine cvI0 (pc' := 42) kX6_here vX6_here lk_X6_56 ⟨Nat.le_of_ble_eq_true rfl, Nat.le_of_ble_eq_true rfl⟩ tb53 vq6 rfl rfl (s_X6_hereP (b := true) (κ := h) hF.2.2.2 (Fr.rf hF.2.1) g (p + v5) (by rw [hF.cell 32 rfl (fun _ => rfl), hF.1 53 2 rfl rfl]; exact hg) (by omega) (by omega)) dX6_readNumber_1.1.2.2.1 (Nat.le_of_ble_eq_true rfl) rfl ?_
          rintro r39 z39 ⟨hz39, p39⟩; subst z39
          refine zW_iadd (pc' := 43) dX6_readNumber_1.1.2.2.2 rfl ?_
          refine zW_bipush (pc' := 45) dX6_readNumber_1.2.1.1.1 rfl rfl ?_
          refine zW_isub (pc' := 46) dX6_readNumber_1.2.1.1.2 rfl ?_
          refine zW_istore (ls' := [_, _, _, _, _, _]) (pc' := 48) dX6_readNumber_1.2.1.2.1 (by decide) rfl rfl rfl ?_
          refine zW_aload_n (pc' := 49) dX6_readNumber_1.2.1.2.2 rfl rfl ?_
          refine zW_dup (pc' := 50) dX6_readNumber_1.2.2.1.1 rfl rfl ?_
          refine zG_int (pc' := 53) fg_X6_29 tb53 rfl dX6_readNumber_1.2.2.1.2 rfl ?_
          have e50 := hF.rh 53 3
          refine zW_iconst (pc' := 54) dX6_readNumber_1.2.2.2.1 rfl ?_
          refine zW_iadd (pc' := 55) dX6_readNumber_1.2.2.2.2 rfl ?_
          refine zPm (pc' := 58) hF (Or.inl rfl) (SI_irr hF.2.1 (Or.inl rfl) (fun _ _ => ⟨by omega, by omega⟩)) (KR_irr hF.2.2.1 rfl) (KC_irr hF.2.2.2 rfl) fp_X6_29 tb53 rfl dX6_readNumber_2.1.1.1.1 rfl (fun h hF w55 => ?_)
          replace h51 : h 51 = κ 51 := by rw [w55]; exact (zfun (by decide)).trans h51
          replace h52 : h 52 = κ 52 := by rw [w55]; exact (zfun (by decide)).trans h52
          have t55_53_3 := congrFun (congrFun w55 53) 3
          rw [zwr_eq] at t55_53_3
          have t55_53_4 := congrFun (congrFun w55 53) 4
          rw [zwr_ne (Or.inr (by decide))] at t55_53_4
          refine zW_iinc (ls' := [_, _, _, _, _, _]) (pc' := 61) dX6_readNumber_2.1.1.1.2 rfl (by decide) rfl rfl rfl ?_
          refine zV_goto 20 dX6_readNumber_2.1.1.2.1 rfl ?_
          exact k20 _ _ _ _ hF (by omega) (by omega) (by omega) (by omega) (by omega) (by omega) (by first | rfl | (rw [nVk_s (by omega)]; omega)) (by first | exact dgn | exact DG_0) ⟨h51, h52⟩ (by omega)
  refine zM_of [some (.inr (.inr 53)), some (.inl x1), some (.inl x2), none, none, none] 3 rfl rfl (Nat.le_of_ble_eq_true rfl) rfl ?_
  refine (show ∀ h : Hp, Fm [(53, 3), (53, 4), (51, 999), (52, 999)] κ h → h = κ → zV G mX6_readNumber (q_X6_readNumberQ κ x1 x2 g p m e) 0 [some (.inr (.inr 53)), some (.inl x1), some (.inl x2), none, none, none] [] h from fun h hF hk0 => ?_) κ (Fm.rf hS hR hC) rfl
  have y0_53_3 : h 53 3 = κ 53 3 := by rw [hk0]
  have y0_53_4 : h 53 4 = κ 53 4 := by rw [hk0]
  have h51 : h 51 = κ 51 := by rw [hk0]
  have h52 : h 52 = κ 52 := by rw [hk0]
  refine zW_aload_n (pc' := 1) dX6_readNumber_0.1.1.1.1 rfl rfl ?_
  refine zG_int (pc' := 4) fg_X6_32 tb53 rfl dX6_readNumber_0.1.1.1.2 rfl ?_
  have e1 := hF.rh 53 4
  refine zV_if_eq (tgt := 9) (pc' := 7) dX6_readNumber_0.1.1.2.1 rfl rfl ⟨by omega, by omega⟩ (fun c4 => ?_) (fun c4 => ?_)
  · refine zW_aload_n (pc' := 10) dX6_readNumber_0.1.2.1.2 rfl rfl ?_
    refine zG_int (pc' := 13) fg_X6_29 tb53 rfl dX6_readNumber_0.1.2.2.1 rfl ?_
    have e10 := hF.rh 53 3
    refine zW_istore_n (ls' := [_, _, _, _, _, _]) (pc' := 14) dX6_readNumber_0.1.2.2.2 (by decide) rfl rfl rfl ?_
    refine zW_iconst (pc' := 15) dX6_readNumber_0.2.1.1.1 rfl ?_
    refine zW_istore (ls' := [_, _, _, _, _, _]) (pc' := 17) dX6_readNumber_0.2.1.1.2 (by decide) rfl rfl rfl ?_
    refine zW_iconst (pc' := 18) dX6_readNumber_0.2.1.2.1 rfl ?_
    refine zW_istore (ls' := [_, _, _, _, _, _]) (pc' := 20) dX6_readNumber_0.2.1.2.2 (by decide) rfl rfl rfl ?_
    exact (main 10000000000000000000000000000000000000000) _ _ _ _ hF (by omega) (by omega) (by omega) (by omega) (by omega) (by omega) (by first | rfl | (rw [nVk_s (by omega)]; omega)) (by first | exact dgn | exact DG_0) ⟨h51, h52⟩ (by omega)
  · refine zW_iconst (pc' := 8) dX6_readNumber_0.1.1.2.2 rfl ?_
    exact zV_iret rfl dX6_readNumber_0.1.2.1.1 ⟨hF, by refine ⟨by omega, by omega, by omega, by omega, by omega, by omega, by omega, ?_, ?_⟩; exact (fun z => absurd z (by omega)); (rw [h51]; exact SMx.rf)⟩

abbrev q_X6_readPointsQ (κ : Hp) (g : Int → Int) (p : Int) (m : Int) (e : Int) : Int → Hp → Prop := fun r h' => Fm [(53, 3), (53, 4), (51, 999), (52, 999)] κ h' ∧ ((h' 53 4 = cuF g 200 p (-1) ∧ (h' 53 4 = 0 → h' 53 3 = cuE g 200 p (-1)) ∧ h' 53 4 ≤ 0 ∧ κ 53 3 ≤ h' 53 3 ∧ (h' 53 3 = κ 53 3 ∨ h' 53 3 ≤ κ 53 2) ∧ CA κ h' m e (cuL g 200 p (-1)) ∧ SMx (κ 51) (h' 51) (m + 1).toNat))
set_option maxHeartbeats 4000000 in
set_option maxRecDepth 20000 in
theorem s_X6_readPointsQ {G : Ga} {κ : Hp} (hS : SI κ) (hR : KR κ) (hC : KC κ) (g : Int → Int) (p : Int) (m : Int) (e : Int) (hg : hr (κ 32) (κ 53 2) = g) (hn : 0 ≤ κ 53 2 ∧ κ 53 2 ≤ 120 ∧ κ 53 2 ≤ κ 31 1) (hp : (κ 53 4 = 0 ∧ κ 53 3 = p ∧ 0 ≤ p)) (ha : κ 53 3 ≤ 150) (hM : κ 49 0 = m ∧ 0 ≤ m ∧ m ≤ 12) (he : κ 51 (m + 1).toNat = e ∧ 0 ≤ e ∧ 2 * e ≤ p ∧ p ≤ κ 53 2) : zM G mX6_readPoints yX6_readPoints [.inr (.inr 53)] κ (q_X6_readPointsQ κ g p m e) := by
  have f_31_1 := KCt hC
  have f_49_0 := KCd0 hC
  have main : ∀ N : Nat, (∀ (v1 v2 : Int) (h : Hp), Fm [(53, 3), (53, 4), (51, 999), (52, 999)] κ h → (0 ≤ v1 ∧ v1 ≤ 999) → (0 ≤ v2 ∧ v2 ≤ 64) → (0 ≤ h 53 3 ∧ κ 53 3 ≤ h 53 3 ∧ (h 53 3 = κ 53 3 ∨ h 53 3 ≤ κ 53 2) ∧ h 53 4 ≤ 0) → (h 53 4 ≠ 0 → h 53 4 = cuF g 200 p (-1)) → (h 53 4 = 0 → CuI g p (h 53 3) v1) → (h 53 4 = 0 → 4 * v2 + 3 ≤ h 53 3 ∧ v1 ≤ 255) → (PB g p κ h v1 v2 m e) → (SMx (κ 51) (h 51) (m + 1).toNat) → 65472 + 32 * (64 - v2) + 31 < (N : Int) → zV G mX6_readPoints (q_X6_readPointsQ κ g p m e) 24 [some (.inr (.inr 53)), some (.inl v1), some (.inl v2)] [] h) := by
    intro N
    induction N with
    | zero =>
      intro v1 v2 h hF g0 g1 gc0 gc1 gc2 gc3 gc4 gc5 hm
      exfalso; omega
    | succ N ih =>
      have k24 := ih
      intro v1 v2 h hF g0 g1 gc0 gc1 gc2 gc3 gc4 gc5 hm
      refine zW_iload_n (pc' := 25) dX6_readPoints_0.2.2.2.2 rfl rfl ?_
      refine zW_bipush (pc' := 27) dX6_readPoints_1.1.1.1.1 rfl rfl ?_
      refine zV_cm_ge (tgt := 82) (pc' := 30) dX6_readPoints_1.1.1.1.2 rfl rfl ⟨by omega, by omega⟩ ⟨by omega, by omega⟩ (fun c27 => ?_) (fun c27 => ?_)
      · exact zV_vret rfl dX6_readPoints_2.2.2.2 ⟨hF, by have pz : h 53 4 = cuF g 200 p (-1) ∧ (h 53 4 = 0 → h 53 3 = cuE g 200 p (-1)) ∧ h 53 4 ≤ 0 ∧ κ 53 3 ≤ h 53 3 ∧ (h 53 3 = κ 53 3 ∨ h 53 3 ≤ κ 53 2) := (by first | omega | (have z := gc2 (by omega); rw [show v1 = 255 by omega] at z; have z2 := z.end; omega)); exact ⟨pz.1, pz.2.1, pz.2.2.1, pz.2.2.2.1, pz.2.2.2.2, fun z => by obtain ⟨-, l, cj, apl, -⟩ := gc4 z; rw [show v1 = 255 by omega] at cj; rw [cj.end]; exact apl, gc5⟩⟩
      · refine zW_aload_n (pc' := 31) dX6_readPoints_1.1.1.2.1 rfl rfl ?_
        refine zG_int (pc' := 34) fg_X6_32 tb53 rfl dX6_readPoints_1.1.1.2.2 rfl ?_
        have e31 := hF.rh 53 4
        refine zV_if_ne (tgt := 82) (pc' := 37) dX6_readPoints_1.1.2.1.1 rfl rfl ⟨by omega, by omega⟩ (fun c34 => ?_) (fun c34 => ?_)
        · exact zV_vret rfl dX6_readPoints_2.2.2.2 ⟨hF, by have pz : h 53 4 = cuF g 200 p (-1) ∧ (h 53 4 = 0 → h 53 3 = cuE g 200 p (-1)) ∧ h 53 4 ≤ 0 ∧ κ 53 3 ≤ h 53 3 ∧ (h 53 3 = κ 53 3 ∨ h 53 3 ≤ κ 53 2) := (by first | omega | (have z := gc2 (by omega); rw [show v1 = 255 by omega] at z; have z2 := z.end; omega)); exact ⟨pz.1, pz.2.1, pz.2.2.1, pz.2.2.2.1, pz.2.2.2.2, fun z => by obtain ⟨-, l, cj, apl, -⟩ := gc4 z; rw [show v1 = 255 by omega] at cj; rw [cj.end]; exact apl, gc5⟩⟩
        · refine zW_iload_n (pc' := 38) dX6_readPoints_1.1.2.1.2 rfl rfl ?_
          refine zW_sipush (pc' := 41) dX6_readPoints_1.1.2.2.1 rfl rfl ?_
          refine zV_cm_ge (tgt := 82) (pc' := 44) dX6_readPoints_1.1.2.2.2 rfl rfl ⟨by omega, by omega⟩ ⟨by omega, by omega⟩ (fun c41 => ?_) (fun c41 => ?_)
          · exact zV_vret rfl dX6_readPoints_2.2.2.2 ⟨hF, by have pz : h 53 4 = cuF g 200 p (-1) ∧ (h 53 4 = 0 → h 53 3 = cuE g 200 p (-1)) ∧ h 53 4 ≤ 0 ∧ κ 53 3 ≤ h 53 3 ∧ (h 53 3 = κ 53 3 ∨ h 53 3 ≤ κ 53 2) := (by first | omega | (have z := gc2 (by omega); rw [show v1 = 255 by omega] at z; have z2 := z.end; omega)); exact ⟨pz.1, pz.2.1, pz.2.2.1, pz.2.2.2.1, pz.2.2.2.2, fun z => by obtain ⟨-, l, cj, apl, -⟩ := gc4 z; rw [show v1 = 255 by omega] at cj; rw [cj.end]; exact apl, gc5⟩⟩
          · obtain ⟨q, eq⟩ : ∃ q : Int, q = h 53 3 := ⟨_, rfl⟩
            have cu := gc2 (by omega)
            rw [← eq] at cu
            have g3 := gc3 (by omega)
            clear gc1 gc2 gc3
            obtain ⟨b4, l, cj, apl, ll⟩ := gc4 (by omega)
            rw [← eq] at cj
            have ca : CA κ h m e l := fun _ => apl
            have sm := gc5
            refine zW_aload_n (pc' := 45) dX6_readPoints_1.2.1.1.1 rfl rfl ?_
            refine zW_bipush (pc' := 47) dX6_readPoints_1.2.1.1.2 rfl rfl ?_
            have y47_31_1 := hF.1 31 1 rfl rfl
            have y47_53_2 := hF.1 53 2 rfl rfl
            refine cvV1 (pc' := 50) kX6_expect vX6_expect lk_X6_45 ⟨Nat.le_of_ble_eq_true rfl, Nat.le_of_ble_eq_true rfl⟩ tb53 vq6 rfl rfl (s_X6_expectP hF.2.1 hF.2.2.1 hF.2.2.2 _ ⟨by omega, by omega⟩ g q (by rw [hF.cell 32 rfl (fun _ => rfl), hF.1 53 2 rfl rfl]; exact hg) (by omega) (by omega) (by omega) (by omega)) dX6_readPoints_1.2.1.2.1 (Nat.le_of_ble_eq_true rfl) rfl ?_
            rintro r47 h ⟨hF1, p47⟩; replace hF := hF.tr hF1 rfl
            replace ca := ca.eq (hF1.cell 51 rfl (fun _ => rfl)) (hF1.cell 52 rfl (fun _ => rfl)) (fun z => sq_0l (p47.1.symm.trans z))
            replace sm : SMx (κ 51) (h 51) (m + 1).toNat := by rw [hF1.cell 51 rfl (fun _ => rfl)]; exact sm
            have e0 : h 53 4 = sF g q 44 := p47.1.trans (sq_z (by omega))
            have i0 := p47.2.1
            have b0 := p47.2.2
            clear p47
            refine zW_aload_n (pc' := 51) dX6_readPoints_1.2.1.2.2 rfl rfl ?_
            refine zW_iload_n (pc' := 52) dX6_readPoints_1.2.2.1.1 rfl rfl ?_
            refine zW_iconst (pc' := 53) dX6_readPoints_1.2.2.1.2 rfl ?_
            refine zW_iadd (pc' := 54) dX6_readPoints_1.2.2.2.1 rfl ?_
            refine zW_sipush (pc' := 57) dX6_readPoints_1.2.2.2.2 rfl rfl ?_
            have y57_31_1 := hF.1 31 1 rfl rfl
            have y57_49_0 := hF.1 49 0 rfl rfl
            have y57_53_2 := hF.1 53 2 rfl rfl
            refine cvI2 (pc' := 60) kX6_readNumber vX6_readNumber lk_X6_87 ⟨Nat.le_of_ble_eq_true rfl, Nat.le_of_ble_eq_true rfl⟩ tb53 vq6 rfl rfl (s_X6_readNumberQ hF.2.1 hF.2.2.1 hF.2.2.2 _ ⟨by omega, by omega⟩ _ ⟨by omega, by omega⟩ g (q + 1) m (h 51 (m + 1).toNat) (by rw [hF.cell 32 rfl (fun _ => rfl), hF.1 53 2 rfl rfl]; exact hg) (by omega) (fun z => ⟨i0 z, by omega⟩) (by omega) (by omega) ⟨(hF.1 49 0 rfl rfl).trans hM.1, hM.2⟩ (fun z => by have a := (ca z).1; (try simp only [List.length_append, List.length_cons, List.length_nil] at a); exact ⟨rfl, by omega, by omega⟩)) dX6_readPoints_2.1.1.1.1 (Nat.le_of_ble_eq_true rfl) rfl ?_
            rintro r57 h ⟨hF1, p57⟩; replace hF := hF.tr hF1 rfl
            replace ca := CA.tr he.2.1 ca p57.2.2.2.2.2.2.2.1 (fun z => sq_0l (p57.2.2.1.symm.trans z))
            replace sm := sm.tr p57.2.2.2.2.2.2.2.2
            have e1 : h 53 4 = sq (sF g q 44) (nF g (q + 1) (v1 + 1) 255) := by rw [p57.2.2.1, e0]
            have i1 := p57.2.2.2.1
            have b1 := p57.2.2.2.2
            have r1b := And.intro p57.1 p57.2.1
            clear p57
            refine zW_istore_n (ls' := [_, _, _]) (pc' := 61) dX6_readPoints_2.1.1.1.2 (by decide) rfl rfl rfl ?_
            refine zW_aload_n (pc' := 62) dX6_readPoints_2.1.1.2.1 rfl rfl ?_
            refine zW_bipush (pc' := 64) dX6_readPoints_2.1.1.2.2 rfl rfl ?_
            have y64_31_1 := hF.1 31 1 rfl rfl
            have y64_53_2 := hF.1 53 2 rfl rfl
            refine cvV1 (pc' := 67) kX6_expect vX6_expect lk_X6_45 ⟨Nat.le_of_ble_eq_true rfl, Nat.le_of_ble_eq_true rfl⟩ tb53 vq6 rfl rfl (s_X6_expectP hF.2.1 hF.2.2.1 hF.2.2.2 _ ⟨by omega, by omega⟩ g (q + 1 + nD g (q + 1)) (by rw [hF.cell 32 rfl (fun _ => rfl), hF.1 53 2 rfl rfl]; exact hg) (by omega) (fun z => ⟨(i1 z).1, by have := nDp g (q + 1); omega⟩) (by omega) (by omega)) dX6_readPoints_2.1.2.1.1 (Nat.le_of_ble_eq_true rfl) rfl ?_
            rintro r64 h ⟨hF1, p64⟩; replace hF := hF.tr hF1 rfl
            replace ca := ca.eq (hF1.cell 51 rfl (fun _ => rfl)) (hF1.cell 52 rfl (fun _ => rfl)) (fun z => sq_0l (p64.1.symm.trans z))
            replace sm : SMx (κ 51) (h 51) (m + 1).toNat := by rw [hF1.cell 51 rfl (fun _ => rfl)]; exact sm
            have e2 : h 53 4 = sq (sq (sF g q 44) (nF g (q + 1) (v1 + 1) 255)) (sF g (q + 1 + nD g (q + 1)) 62) := by rw [p64.1, e1]
            have i2 := p64.2.1
            have b2 := p64.2.2
            clear p64
            refine zW_aload_n (pc' := 68) dX6_readPoints_2.1.2.1.2 rfl rfl ?_
            refine zW_iconst (pc' := 69) dX6_readPoints_2.1.2.2 rfl ?_
            refine zW_sipush (pc' := 72) dX6_readPoints_2.2.1.1.1 rfl rfl ?_
            have y72_31_1 := hF.1 31 1 rfl rfl
            have y72_49_0 := hF.1 49 0 rfl rfl
            have y72_53_2 := hF.1 53 2 rfl rfl
            refine cvI2 (pc' := 75) kX6_readNumber vX6_readNumber lk_X6_87 ⟨Nat.le_of_ble_eq_true rfl, Nat.le_of_ble_eq_true rfl⟩ tb53 vq6 rfl rfl (s_X6_readNumberQ hF.2.1 hF.2.2.1 hF.2.2.2 _ ⟨by omega, by omega⟩ _ ⟨by omega, by omega⟩ g (q + 1 + nD g (q + 1) + 1) m (h 51 (m + 1).toNat) (by rw [hF.cell 32 rfl (fun _ => rfl), hF.1 53 2 rfl rfl]; exact hg) (by omega) (fun z => ⟨i2 z, by have := nDp g (q + 1); omega⟩) (by omega) (by omega) ⟨(hF.1 49 0 rfl rfl).trans hM.1, hM.2⟩ (fun z => by have a := (ca z).1; (try simp only [List.length_append, List.length_cons, List.length_nil] at a); exact ⟨rfl, by omega, by omega⟩)) dX6_readPoints_2.2.1.1.2 (Nat.le_of_ble_eq_true rfl) rfl ?_
            rintro r72 h ⟨hF1, p72⟩; replace hF := hF.tr hF1 rfl
            replace ca := CA.tr he.2.1 ca p72.2.2.2.2.2.2.2.1 (fun z => sq_0l (p72.2.2.1.symm.trans z))
            replace sm := sm.tr p72.2.2.2.2.2.2.2.2
            have w1e : h 53 4 = sq (sq (sq (sF g q 44) (nF g (q + 1) (v1 + 1) 255)) (sF g (q + 1 + nD g (q + 1)) 62)) (nF g (q + 1 + nD g (q + 1) + 1) 0 255) := by rw [p72.2.2.1, e2]
            have pt := ptF_1 (g := g) (p := q) (x := v1) (by omega)
            have w1 : h 53 4 = ptF g q v1 := by rw [w1e, pt.1]; unfold pqF; rw [sq_as, sq_as, sq_as]
            have i3 := p72.2.2.2.1
            have b3 := p72.2.2.2.2
            clear p72
            have z0 : h 53 4 = 0 → sq (sF g q 44) (nF g (q + 1) (v1 + 1) 255) = 0 := fun z => sq_0l (sq_0l (w1e.symm.trans z))
            have z2 : h 53 4 = 0 → (nF g (q + 1 + nD g (q + 1) + 1) 0 255) = 0 := fun z => sq_0r (w1e.symm.trans z)
            have w2 : h 53 4 ≠ 0 → h 53 4 = cuF g 200 p (-1) := fun z => by rw [cu.bad (by omega) (by omega) (fun y => z (w1.trans y))]; exact w1
            have w3 : h 53 4 = 0 → CuI g p (h 53 3) r57 := fun z => cu.step (by omega) (by omega) (w1.symm.trans z) (pt.2.1.trans (i1 (e1.trans (z0 z))).2.symm) (pt.2.2.trans (by show q + 1 + nD g (q + 1) + 1 + nD g (q + 1 + nD g (q + 1) + 1) = h 53 3; exact (i3 z).1.symm)) (by have a := (i3 z).1; have b := nDp g (q + 1); have c := nDp g (q + 1 + nD g (q + 1) + 1); omega)
            have w4 : h 53 4 = 0 → 4 * (v2 + 1) + 3 ≤ h 53 3 ∧ r57 ≤ 255 := fun z => by have a := (i3 z).1; have b := nFz (sq_0r (z0 z)) (by omega); have c := nFz (z2 z) (by omega); have d := (i1 (e1.trans (z0 z))).2; omega
            have pb : PB g p κ h r57 (v2 + 1) m e := fun z => by have a := (i3 z).1; have b := nFz (sq_0r (z0 z)) (by omega); have c := nFz (z2 z) (by omega); have d := (i1 (e1.trans (z0 z))).2; have f := i2 (e2.trans (sq_0l (w1e.symm.trans z))); refine ⟨⟨by omega, by omega⟩, l ++ [nV g (q + 1), nV g (q + 1 + nD g (q + 1) + 1)], cj.step (by omega) (by omega) (pt.2.1.trans d.symm) (pt.2.2.trans (by show q + 1 + nD g (q + 1) + 1 + nD g (q + 1 + nD g (q + 1) + 1) = h 53 3; exact a.symm)) (by omega) pt.2.1 (ptY_1 (by omega)), ?_, ?_⟩; (have y := ca z; rw [List.append_assoc] at y; exact y); (rw [List.length_append]; show ((l.length + 2 : Nat) : Int) = _; omega)
            clear i0 i1 i2 i3 z0 z2 e0 e1 e2 w1e w1 pt
            refine zW_pop (pc' := 76) dX6_readPoints_2.2.1.2 rfl rfl ?_
            refine zW_iinc (ls' := [_, _, _]) (pc' := 79) dX6_readPoints_2.2.2.1.1 rfl (by decide) rfl rfl rfl ?_
            refine zV_goto 24 dX6_readPoints_2.2.2.1.2 rfl ?_
            exact k24 _ _ _ hF (by omega) (by omega) (by omega) w2 w3 (fun q => by have := w4 q; omega) pb sm (by omega)
  refine zM_of [some (.inr (.inr 53)), none, none] 2 rfl rfl (Nat.le_of_ble_eq_true rfl) rfl ?_
  refine (show ∀ h : Hp, Fm [(53, 3), (53, 4), (51, 999), (52, 999)] κ h → h = κ → zV G mX6_readPoints (q_X6_readPointsQ κ g p m e) 0 [some (.inr (.inr 53)), none, none] [] h from fun h hF hk0 => ?_) κ (Fm.rf hS hR hC) rfl
  have y0_53_3 : h 53 3 = κ 53 3 := by rw [hk0]
  have y0_53_4 : h 53 4 = κ 53 4 := by rw [hk0]
  have ca : CA κ h m e [] := fun _ => by rw [hk0, he.1]; exact Ap.rf
  have sm : SMx (κ 51) (h 51) (m + 1).toNat := by rw [hk0]; exact SMx.rf
  refine zW_aload_n (pc' := 1) dX6_readPoints_0.1.1.1.1 rfl rfl ?_
  refine zW_iconst (pc' := 2) dX6_readPoints_0.1.1.1.2 rfl ?_
  refine zW_iconst (pc' := 3) dX6_readPoints_0.1.1.2.1 rfl ?_
  have y3_31_1 := hF.1 31 1 rfl rfl
  have y3_49_0 := hF.1 49 0 rfl rfl
  have y3_53_2 := hF.1 53 2 rfl rfl
  refine cvI2 (pc' := 6) kX6_readNumber vX6_readNumber lk_X6_87 ⟨Nat.le_of_ble_eq_true rfl, Nat.le_of_ble_eq_true rfl⟩ tb53 vq6 rfl rfl (s_X6_readNumberQ hF.2.1 hF.2.2.1 hF.2.2.2 _ ⟨by omega, by omega⟩ _ ⟨by omega, by omega⟩ g p m (h 51 (m + 1).toNat) (by rw [hF.cell 32 rfl (fun _ => rfl), hF.1 53 2 rfl rfl]; exact hg) (by omega) (by omega) (by omega) (by omega) ⟨(hF.1 49 0 rfl rfl).trans hM.1, hM.2⟩ (fun z => by have a := (ca z).1; (try simp only [List.length_append, List.length_cons, List.length_nil] at a); exact ⟨rfl, by omega, by omega⟩)) dX6_readPoints_0.1.1.2.2 (Nat.le_of_ble_eq_true rfl) rfl ?_
  rintro r3 h ⟨hF1, p3⟩; replace hF := hF.tr hF1 rfl
  replace ca := CA.tr he.2.1 ca p3.2.2.2.2.2.2.2.1 (fun z => sq_0l (p3.2.2.1.symm.trans z))
  replace sm := sm.tr p3.2.2.2.2.2.2.2.2
  have hp0 : 0 ≤ p := by omega
  have e1 : h 53 4 = nF g p 0 0 := p3.2.2.1.trans (sq_z (by omega))
  have i1 := p3.2.2.2.1
  have b1 := And.intro p3.2.2.2.2.1 p3.2.2.2.2.2
  have r1b := And.intro p3.1 p3.2.1
  clear p3
  refine zW_istore_n (ls' := [_, _, _]) (pc' := 7) dX6_readPoints_0.1.2.1.1 (by decide) rfl rfl rfl ?_
  refine zW_aload_n (pc' := 8) dX6_readPoints_0.1.2.1.2 rfl rfl ?_
  refine zW_bipush (pc' := 10) dX6_readPoints_0.1.2.2.1 rfl rfl ?_
  have y10_31_1 := hF.1 31 1 rfl rfl
  have y10_53_2 := hF.1 53 2 rfl rfl
  refine cvV1 (pc' := 13) kX6_expect vX6_expect lk_X6_45 ⟨Nat.le_of_ble_eq_true rfl, Nat.le_of_ble_eq_true rfl⟩ tb53 vq6 rfl rfl (s_X6_expectP hF.2.1 hF.2.2.1 hF.2.2.2 _ ⟨by omega, by omega⟩ g (p + nD g p) (by rw [hF.cell 32 rfl (fun _ => rfl), hF.1 53 2 rfl rfl]; exact hg) (by omega) (fun z => ⟨(i1 z).1, by have := nDp g p; omega⟩) (by omega) (by omega)) dX6_readPoints_0.1.2.2.2 (Nat.le_of_ble_eq_true rfl) rfl ?_
  rintro r10 h ⟨hF1, p10⟩; replace hF := hF.tr hF1 rfl
  replace ca := ca.eq (hF1.cell 51 rfl (fun _ => rfl)) (hF1.cell 52 rfl (fun _ => rfl)) (fun z => sq_0l (p10.1.symm.trans z))
  replace sm : SMx (κ 51) (h 51) (m + 1).toNat := by rw [hF1.cell 51 rfl (fun _ => rfl)]; exact sm
  have e2 : h 53 4 = sq (nF g p 0 0) (sF g (p + nD g p) 62) := by rw [p10.1, e1]
  have i2 := p10.2.1
  have b2 := p10.2.2
  clear p10
  refine zW_aload_n (pc' := 14) dX6_readPoints_0.2.1.1.1 rfl rfl ?_
  refine zW_iconst (pc' := 15) dX6_readPoints_0.2.1.1.2 rfl ?_
  refine zW_sipush (pc' := 18) dX6_readPoints_0.2.1.2.1 rfl rfl ?_
  have y18_31_1 := hF.1 31 1 rfl rfl
  have y18_49_0 := hF.1 49 0 rfl rfl
  have y18_53_2 := hF.1 53 2 rfl rfl
  refine cvI2 (pc' := 21) kX6_readNumber vX6_readNumber lk_X6_87 ⟨Nat.le_of_ble_eq_true rfl, Nat.le_of_ble_eq_true rfl⟩ tb53 vq6 rfl rfl (s_X6_readNumberQ hF.2.1 hF.2.2.1 hF.2.2.2 _ ⟨by omega, by omega⟩ _ ⟨by omega, by omega⟩ g (p + nD g p + 1) m (h 51 (m + 1).toNat) (by rw [hF.cell 32 rfl (fun _ => rfl), hF.1 53 2 rfl rfl]; exact hg) (by omega) (fun z => ⟨i2 z, by have := nDp g p; omega⟩) (by omega) (by omega) ⟨(hF.1 49 0 rfl rfl).trans hM.1, hM.2⟩ (fun z => by have a := (ca z).1; (try simp only [List.length_append, List.length_cons, List.length_nil] at a); exact ⟨rfl, by omega, by omega⟩)) dX6_readPoints_0.2.1.2.2 (Nat.le_of_ble_eq_true rfl) rfl ?_
  rintro r18 h ⟨hF1, p18⟩; replace hF := hF.tr hF1 rfl
  replace ca := CA.tr he.2.1 ca p18.2.2.2.2.2.2.2.1 (fun z => sq_0l (p18.2.2.1.symm.trans z))
  replace sm := sm.tr p18.2.2.2.2.2.2.2.2
  have w1e : h 53 4 = sq (sq (nF g p 0 0) (sF g (p + nD g p) 62)) (nF g (p + nD g p + 1) 0 255) := by rw [p18.2.2.1, e2]
  have w1 : h 53 4 = ptF g p (-1) := w1e
  have i3 := p18.2.2.2.1
  have b3 := p18.2.2.2.2
  clear p18
  have z1 : h 53 4 = 0 → nF g p 0 0 = 0 := fun q => sq_0l (sq_0l (w1e.symm.trans q))
  have z2 : h 53 4 = 0 → nF g (p + nD g p + 1) 0 255 = 0 := fun q => sq_0r (w1e.symm.trans q)
  have w2 : h 53 4 ≠ 0 → h 53 4 = cuF g 200 p (-1) := fun q => by rw [(CuI.rf (g := g) (p := p) hp0).bad (by decide) (by omega) (fun z => q (w1.trans z))]; exact w1
  have w3 : h 53 4 = 0 → CuI g p (h 53 3) r3 := fun q => (CuI.rf (g := g) (p := p) hp0).step (by decide) (by omega) (w1.symm.trans q) (by show nV g p = r3; exact (i1 (e1.trans (z1 q))).2.symm) (by show p + nD g p + 1 + nD g (p + nD g p + 1) = h 53 3; exact (i3 q).1.symm) (by have a := (i3 q).1; have b := nDp g p; have c := nDp g (p + nD g p + 1); omega)
  have w4 : h 53 4 = 0 → 3 ≤ h 53 3 ∧ r3 ≤ 255 := fun q => by have a := (i3 q).1; have b := nFz (z1 q) hp0; have c := nFz (z2 q) (by omega); have d := (i1 (e1.trans (z1 q))).2; omega
  have pb : PB g p κ h r3 0 m e := fun q => by have a := (i3 q).1; have b := nFz (z1 q) hp0; have c := nFz (z2 q) (by omega); have d := (i1 (e1.trans (z1 q))).2; have f := i2 (e2.trans (sq_0l (w1e.symm.trans q))); refine ⟨⟨by omega, by omega⟩, [nV g p, nV g (p + nD g p + 1)], (CuJ.rf (g := g) (p := p) hp0).step (by decide) (by omega) (by show nV g p = r3; exact d.symm) (by show p + nD g p + 1 + nD g (p + nD g p + 1) = h 53 3; exact a.symm) (by omega) rfl rfl, ca q, rfl⟩
  clear i1 i2 i3 z1 z2 e1 e2 w1e w1
  refine zW_pop (pc' := 22) dX6_readPoints_0.2.2.1.1 rfl rfl ?_
  refine zW_iconst (pc' := 23) dX6_readPoints_0.2.2.1.2 rfl ?_
  refine zW_istore_n (ls' := [_, _, _]) (pc' := 24) dX6_readPoints_0.2.2.2.1 (by decide) rfl rfl rfl ?_
  exact (main 10000000000000000000000000000000000000000) _ _ _ hF (by omega) (by omega) (by omega) w2 w3 (fun q => by have := w4 q; omega) pb sm (by omega)

abbrev q_X7_addStageV49Q (κ : Hp) (x1 : Int) (m : Int) : Int → Hp → Prop := fun r h' => Fm [(49, 0), (49, 1), (50, 999), (51, 999)] κ h' ∧ ((h' 49 0 = κ 49 0 + 1 ∧ (x1 = 102 → h' 49 1 = κ 49 0 + 1) ∧ (x1 ≠ 102 → h' 49 1 = κ 49 1) ∧ AS4 x1 m κ h'))
set_option maxHeartbeats 4000000 in
set_option maxRecDepth 20000 in
theorem s_X7_addStageV49Q {G : Ga} {κ : Hp} (hS : SI κ) (hR : KR κ) (hC : KC κ) (x1 : Int) (hx1 : rng x1) (m : Int) (hs : κ 49 0 ≤ 11) (hM : κ 49 0 = m ∧ 0 ≤ m ∧ m ≤ 12) : zM G mX7_addStage yX7_addStage [.inr (.inr 49), .inl x1] κ (q_X7_addStageV49Q κ x1 m) := by
  have f_41_0 := KCm hC
  have f_45_0 := KCr0 hC
  have f_49_0 := KCd0 hC
  have f_49_1 := KCd1 hC
  unfold rng at hx1
  refine zM_of [some (.inr (.inr 49)), some (.inl x1)] 0 rfl rfl (Nat.le_of_ble_eq_true rfl) rfl ?_
  refine (show ∀ h : Hp, Fm [(49, 0), (49, 1), (50, 999), (51, 999)] κ h → h = κ → zV G mX7_addStage (q_X7_addStageV49Q κ x1 m) 0 [some (.inr (.inr 49)), some (.inl x1)] [] h from fun h hF hk0 => ?_) κ (Fm.rf hS hR hC) rfl
  have y0_49_0 : h 49 0 = κ 49 0 := by rw [hk0]
  have y0_49_1 : h 49 1 = κ 49 1 := by rw [hk0]
  refine zW_aload_n (pc' := 1) dX7_addStage_0.1.1.1.1 rfl rfl ?_
  refine zG_int (pc' := 4) fg_X7_21 tb49 rfl dX7_addStage_0.1.1.1.2 rfl ?_
  have e1 := KCd0 hF.2.2.2
  refine zW_bipush (pc' := 6) dX7_addStage_0.1.1.2.1 rfl rfl ?_
  refine zV_cm_ge (tgt := 63) (pc' := 9) dX7_addStage_0.1.1.2.2 rfl rfl ⟨by omega, by omega⟩ ⟨by omega, by omega⟩ (fun c6 => ?_) (fun c6 => ?_)
  · exact zV_vret rfl dX7_addStage_2.2.2 ⟨hF, by refine ⟨by omega, by omega, by omega, ?_⟩; first | (exfalso; omega) | exact lq | exact lq.eq (by rw [w60]; exact zfun (by decide)) (by rw [w60]; exact zfun (by decide))⟩
  · refine zW_aload_n (pc' := 10) dX7_addStage_0.1.2.1.1 rfl rfl ?_
    refine zW_dup (pc' := 11) dX7_addStage_0.1.2.1.2 rfl rfl ?_
    refine zG_int (pc' := 14) fg_X7_21 tb49 rfl dX7_addStage_0.1.2.2.1 rfl ?_
    have e11 := KCd0 hF.2.2.2
    refine zW_iconst (pc' := 15) dX7_addStage_0.1.2.2.2 rfl ?_
    refine zW_iadd (pc' := 16) dX7_addStage_0.2.1.1.1 rfl ?_
    refine zPm (pc' := 19) hF (Or.inl rfl) (SI_irr hF.2.1 (Or.inl rfl) (fun _ _ => ⟨by omega, by omega⟩)) (KR_irr hF.2.2.1 rfl) (KC_49_0 hF.2.2.2 (by omega)) fp_X7_21 tb49 rfl dX7_addStage_0.2.1.1.2 rfl (fun h hF w16 => ?_)
    have t16_49_0 := congrFun (congrFun w16 49) 0
    rw [zwr_eq] at t16_49_0
    have t16_49_1 := congrFun (congrFun w16 49) 1
    rw [zwr_ne (Or.inr (by decide))] at t16_49_1
    refine zW_aload_n (pc' := 20) dX7_addStage_0.2.1.2.1 rfl rfl ?_
    refine zG_ref (pc' := 23) 50 fg_X7_9 tb49 rfl dX7_addStage_0.2.1.2.2 rfl ?_
    refine zW_aload_n (pc' := 24) dX7_addStage_0.2.2.1.1 rfl rfl ?_
    refine zG_int (pc' := 27) fg_X7_21 tb49 rfl dX7_addStage_0.2.2.1.2 rfl ?_
    have e24 := KCd0 hF.2.2.2
    refine zW_iload_n (pc' := 28) dX7_addStage_0.2.2.2.1 rfl rfl ?_
    have n28 : h 49 0 = m + 1 := by omega
    refine zSm (pc' := 29) hF rfl (fun v' hv he => ⟨(SI_irr hF.2.1 (Or.inl (key_of rfl _)) (fun _ _ => hv)), (KR_irr hF.2.2.1 rfl), (KC_irr hF.2.2.2 rfl)⟩) tb50 (by omega) dX7_addStage_0.2.2.2.2 (by decide) rfl (fun h i28 hF a28 b28 w28 => ?_)
    have t28_49_0 := congrFun (congrFun w28 49) 0
    rw [zwr_ne (Or.inl (by decide))] at t28_49_0
    have t28_49_1 := congrFun (congrFun w28 49) 1
    rw [zwr_ne (Or.inl (by decide))] at t28_49_1
    rw [n28] at w28
    refine zW_aload_n (pc' := 30) dX7_addStage_1.1.1.1.1 rfl rfl ?_
    refine zG_ref (pc' := 33) 51 fg_X7_15 tb49 rfl dX7_addStage_1.1.1.1.2 rfl ?_
    refine zW_aload_n (pc' := 34) dX7_addStage_1.1.1.2.1 rfl rfl ?_
    refine zG_int (pc' := 37) fg_X7_21 tb49 rfl dX7_addStage_1.1.1.2.2 rfl ?_
    have e34 := KCd0 hF.2.2.2
    refine zW_iconst (pc' := 38) dX7_addStage_1.1.2.1.1 rfl ?_
    refine zW_iadd (pc' := 39) dX7_addStage_1.1.2.1.2 rfl ?_
    refine zW_aload_n (pc' := 40) dX7_addStage_1.1.2.2.1 rfl rfl ?_
    refine zG_ref (pc' := 43) 51 fg_X7_15 tb49 rfl dX7_addStage_1.1.2.2.2 rfl ?_
    refine zW_aload_n (pc' := 44) dX7_addStage_1.2.1.1.1 rfl rfl ?_
    refine zG_int (pc' := 47) fg_X7_21 tb49 rfl dX7_addStage_1.2.1.1.2 rfl ?_
    have e44 := KCd0 hF.2.2.2
    refine zAmD (pc' := 48) hF tb51 (by omega) dX7_addStage_1.2.1.2.1 rfl (fun e47 => ?_)
    have n48 : h 49 0 = m + 1 := by omega
    have v48 : h 51 (h 49 0).toNat = κ 51 (m + 1).toNat := by rw [n48, w28, zwr_ne (Or.inl (by decide)), w16, zwr_ne (Or.inl (by decide)), hk0]
    rw [v48, n48]
    refine zSm (pc' := 49) hF rfl (fun v' hv he => ⟨(SI_irr hF.2.1 (Or.inl (key_of rfl _)) (fun _ _ => hv)), (KR_irr hF.2.2.1 rfl), (KC_c51 hF.2.2.2 (by have := he ⟨by omega, by omega⟩; omega))⟩) tb51 (by omega) dX7_addStage_1.2.1.2.2 (by decide) rfl (fun h i48 hF a48 b48 w48 => ?_)
    have t48_49_0 := congrFun (congrFun w48 49) 0
    rw [zwr_ne (Or.inl (by decide))] at t48_49_0
    have t48_49_1 := congrFun (congrFun w48 49) 1
    rw [zwr_ne (Or.inl (by decide))] at t48_49_1
    have lq : AS4 x1 m κ h := ⟨by rw [w48, zwr_ne (Or.inl (by decide)), w28, zwr_eq]; exact b28 ⟨by omega, by omega⟩, fun j hj => by rw [w48, zwr_ne (Or.inl (by decide)), w28, zwr_ne (Or.inr hj), w16, zwr_ne (Or.inl (by decide)), hk0], by rw [w48, zwr_eq]; exact b48 ⟨by omega, by omega⟩, fun j hj => by rw [w48, zwr_ne (Or.inr hj), w28, zwr_ne (Or.inl (by decide)), w16, zwr_ne (Or.inl (by decide)), hk0]⟩
    refine zW_iload_n (pc' := 50) dX7_addStage_1.2.2.1.1 rfl rfl ?_
    refine zW_bipush (pc' := 52) dX7_addStage_1.2.2.1.2 rfl rfl ?_
    refine zV_cm_ne (tgt := 63) (pc' := 55) dX7_addStage_1.2.2.2.1 rfl rfl ⟨by omega, by omega⟩ ⟨by omega, by omega⟩ (fun c52 => ?_) (fun c52 => ?_)
    · exact zV_vret rfl dX7_addStage_2.2.2 ⟨hF, by refine ⟨by omega, by omega, by omega, ?_⟩; first | (exfalso; omega) | exact lq | exact lq.eq (by rw [w60]; exact zfun (by decide)) (by rw [w60]; exact zfun (by decide))⟩
    · refine zW_aload_n (pc' := 56) dX7_addStage_1.2.2.2.2 rfl rfl ?_
      refine zW_aload_n (pc' := 57) dX7_addStage_2.1.1 rfl rfl ?_
      refine zG_int (pc' := 60) fg_X7_21 tb49 rfl dX7_addStage_2.1.2 rfl ?_
      have e57 := KCd0 hF.2.2.2
      refine zPm (pc' := 63) hF (Or.inl rfl) (SI_irr hF.2.1 (Or.inl rfl) (fun _ _ => ⟨by omega, by omega⟩)) (KR_irr hF.2.2.1 rfl) (KC_49_1 hF.2.2.2 (by omega)) fp_X7_25 tb49 rfl dX7_addStage_2.2.1 rfl (fun h hF w60 => ?_)
      have t60_49_0 := congrFun (congrFun w60 49) 0
      rw [zwr_ne (Or.inr (by decide))] at t60_49_0
      have t60_49_1 := congrFun (congrFun w60 49) 1
      rw [zwr_eq] at t60_49_1
      exact zV_vret rfl dX7_addStage_2.2.2 ⟨hF, by refine ⟨by omega, by omega, by omega, ?_⟩; first | (exfalso; omega) | exact lq | exact lq.eq (by rw [w60]; exact zfun (by decide)) (by rw [w60]; exact zfun (by decide))⟩

abbrev q_X6_readLetterQ (κ : Hp) (g : Int → Int) (p : Int) (m : Int) : Int → Hp → Prop := fun r h' => Fm [(53, 3), (53, 4), (49, 0), (49, 1), (50, 999), (51, 999), (52, 999)] κ h' ∧ ((-1 ≤ r) ∧ (r ≤ 14) ∧ (r = kd (g p) ∧ h' 53 4 = lF g p (κ 49 0) (κ 49 1) ∧ (h' 53 4 = 0 → h' 53 3 = p + 1 ∧ h' 49 0 = κ 49 0 + 1 ∧ (r = 4 → h' 49 1 = κ 49 0 + 1) ∧ (r ≠ 4 → h' 49 1 = κ 49 1)) ∧ κ 53 3 ≤ h' 53 3 ∧ (h' 53 3 = κ 53 3 ∨ h' 53 3 ≤ κ 53 2) ∧ LQ g p κ h' m))
set_option maxHeartbeats 4000000 in
set_option maxRecDepth 20000 in
theorem s_X6_readLetterQ {G : Ga} {κ : Hp} (hS : SI κ) (hR : KR κ) (hC : KC κ) (g : Int → Int) (p : Int) (m : Int) (hg : hr (κ 32) (κ 53 2) = g) (hn : 0 ≤ κ 53 2 ∧ κ 53 2 ≤ 120 ∧ κ 53 2 ≤ κ 31 1) (hb : ∀ q : Int, -1 ≤ g q ∧ g q ≤ 255) (hp : (κ 53 4 = 0 ∧ κ 53 3 = p ∧ 0 ≤ p)) (ha : κ 53 3 ≤ 150) (hX : XI G) (hM : κ 49 0 = m ∧ 0 ≤ m ∧ m ≤ 12) : zM G mX6_readLetter yX6_readLetter [.inr (.inr 53)] κ (q_X6_readLetterQ κ g p m) := by
  have f_31_1 := KCt hC
  have f_41_0 := KCm hC
  have f_41_1 := KCf hC
  have f_45_0 := KCr0 hC
  have f_45_1 := KCr1 hC
  have f_49_0 := KCd0 hC
  have f_49_1 := KCd1 hC
  have lf := lFc g p (κ 49 0) (κ 49 1)
  have kf := kd_f (g p)
  have hbp := hb p
  skip
  refine zM_of [some (.inr (.inr 53)), none, none] 2 rfl rfl (Nat.le_of_ble_eq_true rfl) rfl ?_
  refine (show ∀ h : Hp, Fm [(53, 3), (53, 4), (49, 0), (49, 1), (50, 999), (51, 999), (52, 999)] κ h → h = κ → zV G mX6_readLetter (q_X6_readLetterQ κ g p m) 0 [some (.inr (.inr 53)), none, none] [] h from fun h hF hk0 => ?_) κ (Fm.rf hS hR hC) rfl
  have y0_53_3 : h 53 3 = κ 53 3 := by rw [hk0]
  have y0_53_4 : h 53 4 = κ 53 4 := by rw [hk0]
  have y0_49_0 : h 49 0 = κ 49 0 := by rw [hk0]
  have y0_49_1 : h 49 1 = κ 49 1 := by rw [hk0]
  refine zW_aload_n (pc' := 1) dX6_readLetter_0.1.1.1.1 rfl rfl ?_
  have y1_31_1 := hF.1 31 1 rfl rfl
  have y1_53_2 := hF.1 53 2 rfl rfl
  refine cvI0 (pc' := 4) kX6_here vX6_here lk_X6_56 ⟨Nat.le_of_ble_eq_true rfl, Nat.le_of_ble_eq_true rfl⟩ tb53 vq6 rfl rfl (s_X6_hereP (b := true) (κ := h) hF.2.2.2 (Fr.rf hF.2.1) g p (by rw [hF.cell 32 rfl (fun _ => rfl), hF.1 53 2 rfl rfl]; exact hg) (by omega) (by omega)) dX6_readLetter_0.1.1.1.2 (Nat.le_of_ble_eq_true rfl) rfl ?_
  rintro r1 z1 ⟨hz1, p1⟩; subst z1
  refine zW_istore_n (ls' := [_, _, _]) (pc' := 5) dX6_readLetter_0.1.1.2.1 (by decide) rfl rfl rfl ?_
  have kb := kd_b (g p)
  refine zW_iload_n (pc' := 6) dX6_readLetter_0.1.1.2.2 rfl rfl ?_
  refine zV_if_ge (tgt := 13) (pc' := 9) dX6_readLetter_0.1.2.1.1 rfl rfl ⟨by omega, by omega⟩ (fun c6 => ?_) (fun c6 => ?_)
  · refine zV_ldcS (k := 106) (pc' := 15) (fun U hU => (hX U hU).2.2.1) dX6_readLetter_0.1.2.2.2 rfl ?_
    refine zW_iload_n (pc' := 16) dX6_readLetter_0.2.1.1.1 rfl rfl ?_
    refine zW_i2cE (pc' := 17) ⟨by omega, by omega⟩ dX6_readLetter_0.2.1.1.2 rfl (fun v16 e16 => ?_)
    refine cwI1 (z := 0) hX (by decide) rfl (pc' := 20) kJ0_indexOf_0f7a4 vJ0_indexOf_0f7a4 lk_X6_65 ⟨Nat.le_of_ble_eq_true rfl, Nat.le_of_ble_eq_true rfl⟩ rfl (s_J0_indexOf_0f7a4S0P (b := true) (κ := h) (Fr.rf hF.2.1) _ ⟨by omega, by omega⟩ hX) dX6_readLetter_0.2.1.2.1 (Nat.le_of_ble_eq_true rfl) rfl ?_
    rintro r17 z17 ⟨hz17, p17⟩; subst z17
    first | have k20 : r17 = kd (g p) := by rw [kd_ix p17.2.2, show v16 = g p by omega] | have k20 : (-1 : Int) = kd (g p) := (kd_n (by omega)).symm
    refine zW_istore_n (ls' := [_, _, _]) (pc' := 21) dX6_readLetter_0.2.1.2.2 (by decide) rfl rfl rfl ?_
    refine zW_iload_n (pc' := 22) dX6_readLetter_0.2.2.1.1 rfl rfl ?_
    refine zV_if_ge (tgt := 37) (pc' := 25) dX6_readLetter_0.2.2.1.2 rfl rfl ⟨by omega, by omega⟩ (fun c22 => ?_) (fun c22 => ?_)
    · refine zW_aload_n (pc' := 38) dX6_readLetter_1.1.2.1.1 rfl rfl ?_
      refine zG_ref (pc' := 41) 49 fg_X6_12 tb53 rfl dX6_readLetter_1.1.2.1.2 rfl ?_
      refine zG_int (pc' := 44) fg_X6_38 tb49 rfl dX6_readLetter_1.1.2.2.1 rfl ?_
      have e41 := KCd0 hF.2.2.2
      refine zW_bipush (pc' := 46) dX6_readLetter_1.1.2.2.2 rfl rfl ?_
      refine zV_cm_ne (tgt := 61) (pc' := 49) dX6_readLetter_1.2.1.1.1 rfl rfl ⟨by omega, by omega⟩ ⟨by omega, by omega⟩ (fun c46 => ?_) (fun c46 => ?_)
      · refine zW_iload_n (pc' := 62) dX6_readLetter_1.2.2.2.2 rfl rfl ?_
        refine zW_iconst (pc' := 63) dX6_readLetter_2.1.1.1.1 rfl ?_
        refine zV_cm_gt (tgt := 70) (pc' := 66) dX6_readLetter_2.1.1.1.2 rfl rfl ⟨by omega, by omega⟩ ⟨by omega, by omega⟩ (fun c63 => ?_) (fun c63 => ?_)
        · refine zW_iconst (pc' := 71) dX6_readLetter_2.1.2.1.1 rfl ?_
          refine zW_aload_n (pc' := 72) dX6_readLetter_2.1.2.1.2 rfl rfl ?_
          refine zG_ref (pc' := 75) 49 fg_X6_12 tb53 rfl dX6_readLetter_2.1.2.2.1 rfl ?_
          refine zG_int (pc' := 78) fg_X6_71 tb49 rfl dX6_readLetter_2.1.2.2.2 rfl ?_
          have e75 := KCd1 hF.2.2.2
          refine zV_if_ne (tgt := 85) (pc' := 81) dX6_readLetter_2.2.1.1.1 rfl rfl ⟨by omega, by omega⟩ (fun c78 => ?_) (fun c78 => ?_)
          · refine zW_iconst (pc' := 86) dX6_readLetter_2.2.1.2.2 rfl ?_
            refine zV_cm_eq (tgt := 102) (pc' := 89) dX6_readLetter_2.2.2.1.1 rfl rfl ⟨by omega, by omega⟩ ⟨by omega, by omega⟩ (fun c86 => ?_) (fun c86 => ?_)
            · refine zW_aload_n (pc' := 103) dX6_readLetter_3.1.1.2.2 rfl rfl ?_
              refine zG_ref (pc' := 106) 49 fg_X6_12 tb53 rfl dX6_readLetter_3.1.2.1.1 rfl ?_
              refine zW_iload_n (pc' := 107) dX6_readLetter_3.1.2.1.2 rfl rfl ?_
              refine cvV1 (pc' := 110) kX7_addStage vX7_addStage lk_X6_74 ⟨Nat.le_of_ble_eq_true rfl, Nat.le_of_ble_eq_true rfl⟩ tb49 vq7 rfl rfl (s_X7_addStageV49Q hF.2.1 hF.2.2.1 hF.2.2.2 _ ⟨by omega, by omega⟩ m (by omega) (by omega)) dX6_readLetter_3.1.2.2.1 (Nat.le_of_ble_eq_true rfl) rfl ?_
              rintro r107 h ⟨hF1, p107⟩; replace hF := hF.tr hF1 rfl
              have t107_53_3 := hF1.1 53 3 rfl rfl
              have t107_53_4 := hF1.1 53 4 rfl rfl
              have as4 := p107.2.2.2
              rw [hk0] at as4
              have c52 : h 52 = κ 52 := (hF1.cell 52 rfl (fun _ => rfl)).trans (congrFun hk0 52)
              refine zW_aload_n (pc' := 111) dX6_readLetter_3.1.2.2.2 rfl rfl ?_
              refine zW_dup (pc' := 112) dX6_readLetter_3.2.1.1.1 rfl rfl ?_
              refine zG_int (pc' := 115) fg_X6_29 tb53 rfl dX6_readLetter_3.2.1.1.2 rfl ?_
              have e112 := hF.rh 53 3
              refine zW_iconst (pc' := 116) dX6_readLetter_3.2.1.2.1 rfl ?_
              refine zW_iadd (pc' := 117) dX6_readLetter_3.2.1.2.2 rfl ?_
              refine zPm (pc' := 120) hF (Or.inl rfl) (SI_irr hF.2.1 (Or.inl rfl) (fun _ _ => ⟨by omega, by omega⟩)) (KR_irr hF.2.2.1 rfl) (KC_irr hF.2.2.2 rfl) fp_X6_29 tb53 rfl dX6_readLetter_3.2.2.1.1 rfl (fun h hF w117 => ?_)
              have t117_53_3 := congrFun (congrFun w117 53) 3
              rw [zwr_eq] at t117_53_3
              have t117_53_4 := congrFun (congrFun w117 53) 4
              rw [zwr_ne (Or.inr (by decide))] at t117_53_4
              have t117_49_0 := congrFun (congrFun w117 49) 0
              rw [zwr_ne (Or.inl (by decide))] at t117_49_0
              have t117_49_1 := congrFun (congrFun w117 49) 1
              rw [zwr_ne (Or.inl (by decide))] at t117_49_1
              first | have lq : LQ g p κ h m := as4.lq (by omega) (by rw [w117]; exact zfun (by decide)) (by rw [w117]; exact zfun (by decide)) (by rw [w117]; exact (zfun (by decide)).trans c52) | skip
              refine zW_iload_n (pc' := 121) dX6_readLetter_3.2.2.1.2 rfl rfl ?_
              exact zV_iret rfl dX6_readLetter_3.2.2.2 ⟨hF, by refine ⟨by omega, by omega, by omega, by omega, by omega, by omega, by omega, ?_⟩; first | exact lq | exact (fun z => absurd z (by omega))⟩
            · exfalso; omega
          · refine zW_iconst (pc' := 82) dX6_readLetter_2.2.1.1.2 rfl ?_
            refine zV_goto 86 dX6_readLetter_2.2.1.2.1 rfl ?_
            refine zV_cm_eq (tgt := 102) (pc' := 89) dX6_readLetter_2.2.2.1.1 rfl rfl ⟨by omega, by omega⟩ ⟨by omega, by omega⟩ (fun c86 => ?_) (fun c86 => ?_)
            · exfalso; omega
            · refine zW_aload_n (pc' := 90) dX6_readLetter_2.2.2.1.2 rfl rfl ?_
              refine zW_bipush (pc' := 92) dX6_readLetter_2.2.2.2.1 rfl rfl ?_
              refine zW_aload_n (pc' := 93) dX6_readLetter_2.2.2.2.2 rfl rfl ?_
              refine zG_int (pc' := 96) fg_X6_29 tb53 rfl dX6_readLetter_3.1.1.1.1 rfl ?_
              have e93 := hF.rh 53 3
              refine cvV2 (pc' := 99) kX6_tell vX6_tell lk_X6_59 ⟨Nat.le_of_ble_eq_true rfl, Nat.le_of_ble_eq_true rfl⟩ tb53 vq6 rfl rfl (s_X6_tellP hF.2.1 hF.2.2.1 hF.2.2.2 _ ⟨by omega, by omega⟩ _ ⟨by omega, by omega⟩) dX6_readLetter_3.1.1.1.2 (Nat.le_of_ble_eq_true rfl) rfl ?_
              rintro r96 h ⟨hF1, p96⟩; replace hF := hF.tr hF1 rfl
              have t96_53_3 := hF1.1 53 3 rfl rfl
              have t96_49_0 := hF1.1 49 0 rfl rfl
              have t96_49_1 := hF1.1 49 1 rfl rfl
              refine zV_goto 120 dX6_readLetter_3.1.1.2.1 rfl ?_
              first | have lq : LQ g p κ h m := as4.lq (by omega) (by rw [w117]; exact zfun (by decide)) (by rw [w117]; exact zfun (by decide)) (by rw [w117]; exact (zfun (by decide)).trans c52) | skip
              refine zW_iload_n (pc' := 121) dX6_readLetter_3.2.2.1.2 rfl rfl ?_
              exact zV_iret rfl dX6_readLetter_3.2.2.2 ⟨hF, by refine ⟨by omega, by omega, by omega, by omega, by omega, by omega, by omega, ?_⟩; first | exact lq | exact (fun z => absurd z (by omega))⟩
        · refine zW_iconst (pc' := 67) dX6_readLetter_2.1.1.2.1 rfl ?_
          refine zV_goto 71 dX6_readLetter_2.1.1.2.2 rfl ?_
          refine zW_aload_n (pc' := 72) dX6_readLetter_2.1.2.1.2 rfl rfl ?_
          refine zG_ref (pc' := 75) 49 fg_X6_12 tb53 rfl dX6_readLetter_2.1.2.2.1 rfl ?_
          refine zG_int (pc' := 78) fg_X6_71 tb49 rfl dX6_readLetter_2.1.2.2.2 rfl ?_
          have e75 := KCd1 hF.2.2.2
          refine zV_if_ne (tgt := 85) (pc' := 81) dX6_readLetter_2.2.1.1.1 rfl rfl ⟨by omega, by omega⟩ (fun c78 => ?_) (fun c78 => ?_)
          · refine zW_iconst (pc' := 86) dX6_readLetter_2.2.1.2.2 rfl ?_
            refine zV_cm_eq (tgt := 102) (pc' := 89) dX6_readLetter_2.2.2.1.1 rfl rfl ⟨by omega, by omega⟩ ⟨by omega, by omega⟩ (fun c86 => ?_) (fun c86 => ?_)
            · exfalso; omega
            · refine zW_aload_n (pc' := 90) dX6_readLetter_2.2.2.1.2 rfl rfl ?_
              refine zW_bipush (pc' := 92) dX6_readLetter_2.2.2.2.1 rfl rfl ?_
              refine zW_aload_n (pc' := 93) dX6_readLetter_2.2.2.2.2 rfl rfl ?_
              refine zG_int (pc' := 96) fg_X6_29 tb53 rfl dX6_readLetter_3.1.1.1.1 rfl ?_
              have e93 := hF.rh 53 3
              refine cvV2 (pc' := 99) kX6_tell vX6_tell lk_X6_59 ⟨Nat.le_of_ble_eq_true rfl, Nat.le_of_ble_eq_true rfl⟩ tb53 vq6 rfl rfl (s_X6_tellP hF.2.1 hF.2.2.1 hF.2.2.2 _ ⟨by omega, by omega⟩ _ ⟨by omega, by omega⟩) dX6_readLetter_3.1.1.1.2 (Nat.le_of_ble_eq_true rfl) rfl ?_
              rintro r96 h ⟨hF1, p96⟩; replace hF := hF.tr hF1 rfl
              have t96_53_3 := hF1.1 53 3 rfl rfl
              have t96_49_0 := hF1.1 49 0 rfl rfl
              have t96_49_1 := hF1.1 49 1 rfl rfl
              refine zV_goto 120 dX6_readLetter_3.1.1.2.1 rfl ?_
              first | have lq : LQ g p κ h m := as4.lq (by omega) (by rw [w117]; exact zfun (by decide)) (by rw [w117]; exact zfun (by decide)) (by rw [w117]; exact (zfun (by decide)).trans c52) | skip
              refine zW_iload_n (pc' := 121) dX6_readLetter_3.2.2.1.2 rfl rfl ?_
              exact zV_iret rfl dX6_readLetter_3.2.2.2 ⟨hF, by refine ⟨by omega, by omega, by omega, by omega, by omega, by omega, by omega, ?_⟩; first | exact lq | exact (fun z => absurd z (by omega))⟩
          · refine zW_iconst (pc' := 82) dX6_readLetter_2.2.1.1.2 rfl ?_
            refine zV_goto 86 dX6_readLetter_2.2.1.2.1 rfl ?_
            refine zV_cm_eq (tgt := 102) (pc' := 89) dX6_readLetter_2.2.2.1.1 rfl rfl ⟨by omega, by omega⟩ ⟨by omega, by omega⟩ (fun c86 => ?_) (fun c86 => ?_)
            · refine zW_aload_n (pc' := 103) dX6_readLetter_3.1.1.2.2 rfl rfl ?_
              refine zG_ref (pc' := 106) 49 fg_X6_12 tb53 rfl dX6_readLetter_3.1.2.1.1 rfl ?_
              refine zW_iload_n (pc' := 107) dX6_readLetter_3.1.2.1.2 rfl rfl ?_
              refine cvV1 (pc' := 110) kX7_addStage vX7_addStage lk_X6_74 ⟨Nat.le_of_ble_eq_true rfl, Nat.le_of_ble_eq_true rfl⟩ tb49 vq7 rfl rfl (s_X7_addStageV49Q hF.2.1 hF.2.2.1 hF.2.2.2 _ ⟨by omega, by omega⟩ m (by omega) (by omega)) dX6_readLetter_3.1.2.2.1 (Nat.le_of_ble_eq_true rfl) rfl ?_
              rintro r107 h ⟨hF1, p107⟩; replace hF := hF.tr hF1 rfl
              have t107_53_3 := hF1.1 53 3 rfl rfl
              have t107_53_4 := hF1.1 53 4 rfl rfl
              have as4 := p107.2.2.2
              rw [hk0] at as4
              have c52 : h 52 = κ 52 := (hF1.cell 52 rfl (fun _ => rfl)).trans (congrFun hk0 52)
              refine zW_aload_n (pc' := 111) dX6_readLetter_3.1.2.2.2 rfl rfl ?_
              refine zW_dup (pc' := 112) dX6_readLetter_3.2.1.1.1 rfl rfl ?_
              refine zG_int (pc' := 115) fg_X6_29 tb53 rfl dX6_readLetter_3.2.1.1.2 rfl ?_
              have e112 := hF.rh 53 3
              refine zW_iconst (pc' := 116) dX6_readLetter_3.2.1.2.1 rfl ?_
              refine zW_iadd (pc' := 117) dX6_readLetter_3.2.1.2.2 rfl ?_
              refine zPm (pc' := 120) hF (Or.inl rfl) (SI_irr hF.2.1 (Or.inl rfl) (fun _ _ => ⟨by omega, by omega⟩)) (KR_irr hF.2.2.1 rfl) (KC_irr hF.2.2.2 rfl) fp_X6_29 tb53 rfl dX6_readLetter_3.2.2.1.1 rfl (fun h hF w117 => ?_)
              have t117_53_3 := congrFun (congrFun w117 53) 3
              rw [zwr_eq] at t117_53_3
              have t117_53_4 := congrFun (congrFun w117 53) 4
              rw [zwr_ne (Or.inr (by decide))] at t117_53_4
              have t117_49_0 := congrFun (congrFun w117 49) 0
              rw [zwr_ne (Or.inl (by decide))] at t117_49_0
              have t117_49_1 := congrFun (congrFun w117 49) 1
              rw [zwr_ne (Or.inl (by decide))] at t117_49_1
              first | have lq : LQ g p κ h m := as4.lq (by omega) (by rw [w117]; exact zfun (by decide)) (by rw [w117]; exact zfun (by decide)) (by rw [w117]; exact (zfun (by decide)).trans c52) | skip
              refine zW_iload_n (pc' := 121) dX6_readLetter_3.2.2.1.2 rfl rfl ?_
              exact zV_iret rfl dX6_readLetter_3.2.2.2 ⟨hF, by refine ⟨by omega, by omega, by omega, by omega, by omega, by omega, by omega, ?_⟩; first | exact lq | exact (fun z => absurd z (by omega))⟩
            · exfalso; omega
      · refine zW_aload_n (pc' := 50) dX6_readLetter_1.2.1.1.2 rfl rfl ?_
        refine zW_iconst (pc' := 51) dX6_readLetter_1.2.1.2.1 rfl ?_
        refine zW_aload_n (pc' := 52) dX6_readLetter_1.2.1.2.2 rfl rfl ?_
        refine zG_int (pc' := 55) fg_X6_29 tb53 rfl dX6_readLetter_1.2.2.1.1 rfl ?_
        have e52 := hF.rh 53 3
        refine cvV2 (pc' := 58) kX6_tell vX6_tell lk_X6_59 ⟨Nat.le_of_ble_eq_true rfl, Nat.le_of_ble_eq_true rfl⟩ tb53 vq6 rfl rfl (s_X6_tellP hF.2.1 hF.2.2.1 hF.2.2.2 _ ⟨by omega, by omega⟩ _ ⟨by omega, by omega⟩) dX6_readLetter_1.2.2.1.2 (Nat.le_of_ble_eq_true rfl) rfl ?_
        rintro r55 h ⟨hF1, p55⟩; replace hF := hF.tr hF1 rfl
        have t55_53_3 := hF1.1 53 3 rfl rfl
        have t55_49_0 := hF1.1 49 0 rfl rfl
        have t55_49_1 := hF1.1 49 1 rfl rfl
        refine zV_goto 120 dX6_readLetter_1.2.2.2.1 rfl ?_
        first | have lq : LQ g p κ h m := as4.lq (by omega) (by rw [w117]; exact zfun (by decide)) (by rw [w117]; exact zfun (by decide)) (by rw [w117]; exact (zfun (by decide)).trans c52) | skip
        refine zW_iload_n (pc' := 121) dX6_readLetter_3.2.2.1.2 rfl rfl ?_
        exact zV_iret rfl dX6_readLetter_3.2.2.2 ⟨hF, by refine ⟨by omega, by omega, by omega, by omega, by omega, by omega, by omega, ?_⟩; first | exact lq | exact (fun z => absurd z (by omega))⟩
    · refine zW_aload_n (pc' := 26) dX6_readLetter_0.2.2.2.1 rfl rfl ?_
      refine zW_iconst (pc' := 27) dX6_readLetter_0.2.2.2.2 rfl ?_
      refine zW_aload_n (pc' := 28) dX6_readLetter_1.1.1.1.1 rfl rfl ?_
      refine zG_int (pc' := 31) fg_X6_29 tb53 rfl dX6_readLetter_1.1.1.1.2 rfl ?_
      have e28 := hF.rh 53 3
      refine cvV2 (pc' := 34) kX6_tell vX6_tell lk_X6_59 ⟨Nat.le_of_ble_eq_true rfl, Nat.le_of_ble_eq_true rfl⟩ tb53 vq6 rfl rfl (s_X6_tellP hF.2.1 hF.2.2.1 hF.2.2.2 _ ⟨by omega, by omega⟩ _ ⟨by omega, by omega⟩) dX6_readLetter_1.1.1.2.1 (Nat.le_of_ble_eq_true rfl) rfl ?_
      rintro r31 h ⟨hF1, p31⟩; replace hF := hF.tr hF1 rfl
      have t31_53_3 := hF1.1 53 3 rfl rfl
      have t31_49_0 := hF1.1 49 0 rfl rfl
      have t31_49_1 := hF1.1 49 1 rfl rfl
      refine zV_goto 120 dX6_readLetter_1.1.1.2.2 rfl ?_
      first | have lq : LQ g p κ h m := as4.lq (by omega) (by rw [w117]; exact zfun (by decide)) (by rw [w117]; exact zfun (by decide)) (by rw [w117]; exact (zfun (by decide)).trans c52) | skip
      refine zW_iload_n (pc' := 121) dX6_readLetter_3.2.2.1.2 rfl rfl ?_
      exact zV_iret rfl dX6_readLetter_3.2.2.2 ⟨hF, by refine ⟨by omega, by omega, by omega, by omega, by omega, by omega, by omega, ?_⟩; first | exact lq | exact (fun z => absurd z (by omega))⟩
  · refine zW_iconst (pc' := 10) dX6_readLetter_0.1.2.1.2 rfl ?_
    refine zV_goto 20 dX6_readLetter_0.1.2.2.1 rfl ?_
    first | have k20 : r17 = kd (g p) := by rw [kd_ix p17.2.2, show v16 = g p by omega] | have k20 : (-1 : Int) = kd (g p) := (kd_n (by omega)).symm
    refine zW_istore_n (ls' := [_, _, _]) (pc' := 21) dX6_readLetter_0.2.1.2.2 (by decide) rfl rfl rfl ?_
    refine zW_iload_n (pc' := 22) dX6_readLetter_0.2.2.1.1 rfl rfl ?_
    refine zV_if_ge (tgt := 37) (pc' := 25) dX6_readLetter_0.2.2.1.2 rfl rfl ⟨by omega, by omega⟩ (fun c22 => ?_) (fun c22 => ?_)
    · exfalso; omega
    · refine zW_aload_n (pc' := 26) dX6_readLetter_0.2.2.2.1 rfl rfl ?_
      refine zW_iconst (pc' := 27) dX6_readLetter_0.2.2.2.2 rfl ?_
      refine zW_aload_n (pc' := 28) dX6_readLetter_1.1.1.1.1 rfl rfl ?_
      refine zG_int (pc' := 31) fg_X6_29 tb53 rfl dX6_readLetter_1.1.1.1.2 rfl ?_
      have e28 := hF.rh 53 3
      refine cvV2 (pc' := 34) kX6_tell vX6_tell lk_X6_59 ⟨Nat.le_of_ble_eq_true rfl, Nat.le_of_ble_eq_true rfl⟩ tb53 vq6 rfl rfl (s_X6_tellP hF.2.1 hF.2.2.1 hF.2.2.2 _ ⟨by omega, by omega⟩ _ ⟨by omega, by omega⟩) dX6_readLetter_1.1.1.2.1 (Nat.le_of_ble_eq_true rfl) rfl ?_
      rintro r31 h ⟨hF1, p31⟩; replace hF := hF.tr hF1 rfl
      have t31_53_3 := hF1.1 53 3 rfl rfl
      have t31_49_0 := hF1.1 49 0 rfl rfl
      have t31_49_1 := hF1.1 49 1 rfl rfl
      refine zV_goto 120 dX6_readLetter_1.1.1.2.2 rfl ?_
      first | have lq : LQ g p κ h m := as4.lq (by omega) (by rw [w117]; exact zfun (by decide)) (by rw [w117]; exact zfun (by decide)) (by rw [w117]; exact (zfun (by decide)).trans c52) | skip
      refine zW_iload_n (pc' := 121) dX6_readLetter_3.2.2.1.2 rfl rfl ?_
      exact zV_iret rfl dX6_readLetter_3.2.2.2 ⟨hF, by refine ⟨by omega, by omega, by omega, by omega, by omega, by omega, by omega, ?_⟩; first | exact lq | exact (fun z => absurd z (by omega))⟩

abbrev q_X6_readNumbersQ (κ : Hp) (x1 : Int) (g : Int → Int) (p : Int) (m : Int) (e : Int) : Int → Hp → Prop := fun r h' => Fm [(53, 3), (53, 4), (51, 999), (52, 999)] κ h' ∧ ((h' 53 4 = mnF g p (xvv 102 x1.toNat) (xvv 103 x1.toNat) (xvv 104 x1.toNat) (xvv 105 x1.toNat) ∧ (h' 53 4 = 0 → h' 53 3 = mnE g p (xvv 102 x1.toNat)) ∧ h' 53 4 ≤ 0 ∧ κ 53 3 ≤ h' 53 3 ∧ (h' 53 3 = κ 53 3 ∨ h' 53 3 ≤ κ 53 2) ∧ CA κ h' m e (pnL g p (xvv 102 x1.toNat)) ∧ SMx (κ 51) (h' 51) (m + 1).toNat))
set_option maxHeartbeats 4000000 in
set_option maxRecDepth 20000 in
theorem s_X6_readNumbersQ {G : Ga} {κ : Hp} (hS : SI κ) (hR : KR κ) (hC : KC κ) (x1 : Int) (hx1 : 0 ≤ x1 ∧ x1 ≤ 13) (g : Int → Int) (p : Int) (m : Int) (e : Int) (hg : hr (κ 32) (κ 53 2) = g) (hn : 0 ≤ κ 53 2 ∧ κ 53 2 ≤ 120 ∧ κ 53 2 ≤ κ 31 1) (hp : (κ 53 4 = 0 ∧ κ 53 3 = p ∧ 0 ≤ p)) (ha : κ 53 3 ≤ 150) (hX : XI G) (hM : κ 49 0 = m ∧ 0 ≤ m ∧ m ≤ 12) (he : κ 51 (m + 1).toNat = e ∧ 0 ≤ e ∧ e ≤ 60) : zM G mX6_readNumbers yX6_readNumbers [.inr (.inr 53), .inl x1] κ (q_X6_readNumbersQ κ x1 g p m e) := by
  have f_31_1 := KCt hC
  have f_49_0 := KCd0 hC
  have m1 := xvv_m x1.toNat (by omega)
  obtain ⟨hp1, hp2, hp3⟩ := hp
  have main : ∀ N : Nat, (∀ (v2 v3 : Int) (h : Hp), Fm [(53, 3), (53, 4), (51, 999), (52, 999)] κ h → (1 ≤ v2 ∧ v2 ≤ 3) → (0 ≤ v3 ∧ v3 ≤ 3) → (v2 = xvv 102 x1.toNat) → (0 ≤ h 53 3 ∧ κ 53 3 ≤ h 53 3 ∧ (h 53 3 = κ 53 3 ∨ h 53 3 ≤ κ 53 2) ∧ h 53 4 ≤ 0) → (v3 ≤ v2) → (h 53 4 = pnF g p (xvv 103 x1.toNat) (xvv 104 x1.toNat) (xvv 105 x1.toNat) v3) → (h 53 4 = 0 → h 53 3 = pnE g p v3) → (v3 = 0 → h 53 4 = 0) → (CA κ h m e (pnL g p v3)) → (SMx (κ 51) (h 51) (m + 1).toNat) → 5280 + 33 * (3 - v3) + 32 < (N : Int) → zV G mX6_readNumbers (q_X6_readNumbersQ κ x1 g p m e) 24 [some (.inr (.inr 53)), some (.inl x1), some (.inl v2), some (.inl v3)] [] h) := by
    intro N
    induction N with
    | zero =>
      intro v2 v3 h hF g0 g1 gc0 gc1 gc2 gc3 gc4 gc5 gc6 gc7 hm
      exfalso; omega
    | succ N ih =>
      have k24 := ih
      intro v2 v3 h hF g0 g1 gc0 gc1 gc2 gc3 gc4 gc5 gc6 gc7 hm
      have ca := gc6
      have sm := gc7
      refine zW_iload_n (pc' := 25) dX6_readNumbers_0.2.2.2.1 rfl rfl ?_
      refine zW_iload_n (pc' := 26) dX6_readNumbers_0.2.2.2.2 rfl rfl ?_
      refine zV_cm_ge (tgt := 81) (pc' := 29) dX6_readNumbers_1.1.1.1.1 rfl rfl ⟨by omega, by omega⟩ ⟨by omega, by omega⟩ (fun c26 => ?_) (fun c26 => ?_)
      · exact zV_vret rfl dX6_readNumbers_2.2.2.2 ⟨hF, by have pz : h 53 4 = mnF g p (xvv 102 x1.toNat) (xvv 103 x1.toNat) (xvv 104 x1.toNat) (xvv 105 x1.toNat) ∧ (h 53 4 = 0 → h 53 3 = mnE g p (xvv 102 x1.toNat)) ∧ h 53 4 ≤ 0 ∧ κ 53 3 ≤ h 53 3 ∧ (h 53 3 = κ 53 3 ∨ h 53 3 ≤ κ 53 2) := (by first | (have pe := pn_e (g := g) (p := p) (a := xvv 103 x1.toNat) (b := xvv 104 x1.toNat) (l := xvv 105 x1.toNat) (m := v2) (by omega); have e3 : v3 = v2 := (by omega); rw [← gc0, pe.1, pe.2, ← e3]; exact ⟨gc3, gc4, by omega, by omega, by omega⟩) | (have px := pn_x (g := g) (p := p) (a := xvv 103 x1.toNat) (b := xvv 104 x1.toNat) (l := xvv 105 x1.toNat) (k := v3) (m := v2) (by omega) (by omega); rw [← gc0, px]; exact ⟨gc3, fun z => absurd z (by omega), by omega, by omega, by omega⟩)); refine ⟨pz.1, pz.2.1, pz.2.2.1, pz.2.2.2.1, pz.2.2.2.2, fun z => ?_, sm⟩; have e3 : v3 = xvv 102 x1.toNat := (by omega); rw [← e3]; exact ca z⟩
      · refine zW_aload_n (pc' := 30) dX6_readNumbers_1.1.1.1.2 rfl rfl ?_
        refine zG_int (pc' := 33) fg_X6_32 tb53 rfl dX6_readNumbers_1.1.1.2.1 rfl ?_
        have e30 := hF.rh 53 4
        refine zV_if_ne (tgt := 81) (pc' := 36) dX6_readNumbers_1.1.1.2.2 rfl rfl ⟨by omega, by omega⟩ (fun c33 => ?_) (fun c33 => ?_)
        · exact zV_vret rfl dX6_readNumbers_2.2.2.2 ⟨hF, by have pz : h 53 4 = mnF g p (xvv 102 x1.toNat) (xvv 103 x1.toNat) (xvv 104 x1.toNat) (xvv 105 x1.toNat) ∧ (h 53 4 = 0 → h 53 3 = mnE g p (xvv 102 x1.toNat)) ∧ h 53 4 ≤ 0 ∧ κ 53 3 ≤ h 53 3 ∧ (h 53 3 = κ 53 3 ∨ h 53 3 ≤ κ 53 2) := (by first | (have pe := pn_e (g := g) (p := p) (a := xvv 103 x1.toNat) (b := xvv 104 x1.toNat) (l := xvv 105 x1.toNat) (m := v2) (by omega); have e3 : v3 = v2 := (by omega); rw [← gc0, pe.1, pe.2, ← e3]; exact ⟨gc3, gc4, by omega, by omega, by omega⟩) | (have px := pn_x (g := g) (p := p) (a := xvv 103 x1.toNat) (b := xvv 104 x1.toNat) (l := xvv 105 x1.toNat) (k := v3) (m := v2) (by omega) (by omega); rw [← gc0, px]; exact ⟨gc3, fun z => absurd z (by omega), by omega, by omega, by omega⟩)); refine ⟨pz.1, pz.2.1, pz.2.2.1, pz.2.2.2.1, pz.2.2.2.2, fun z => ?_, sm⟩; have e3 : v3 = xvv 102 x1.toNat := (by omega); rw [← e3]; exact ca z⟩
        · refine zW_iload_n (pc' := 37) dX6_readNumbers_1.1.2.1.1 rfl rfl ?_
          refine zV_if_ne (tgt := 58) (pc' := 40) dX6_readNumbers_1.1.2.1.2 rfl rfl ⟨by omega, by omega⟩ (fun c37 => ?_) (fun c37 => ?_)
          · have k12 : v3 = 1 ∨ v3 = 2 := by omega
            have pq0 : h 53 3 = pnE g p v3 := gc4 (by omega)
            refine zW_aload_n (pc' := 59) dX6_readNumbers_2.1.1.1.1 rfl rfl ?_
            refine zW_bipush (pc' := 61) dX6_readNumbers_2.1.1.1.2 rfl rfl ?_
            have y61_31_1 := hF.1 31 1 rfl rfl
            have y61_53_2 := hF.1 53 2 rfl rfl
            refine cvV1 (pc' := 64) kX6_expect vX6_expect lk_X6_45 ⟨Nat.le_of_ble_eq_true rfl, Nat.le_of_ble_eq_true rfl⟩ tb53 vq6 rfl rfl (s_X6_expectP hF.2.1 hF.2.2.1 hF.2.2.2 _ ⟨by omega, by omega⟩ g (pnE g p v3) (by rw [hF.cell 32 rfl (fun _ => rfl), hF.1 53 2 rfl rfl]; exact hg) (by omega) (by omega) (by omega) (by omega)) dX6_readNumbers_2.1.1.2.1 (Nat.le_of_ble_eq_true rfl) rfl ?_
            rintro r61 h ⟨hF1, p61⟩; replace hF := hF.tr hF1 rfl
            replace ca := ca.eq (hF1.cell 51 rfl (fun _ => rfl)) (hF1.cell 52 rfl (fun _ => rfl)) (fun z => sq_0l (p61.1.symm.trans z))
            replace sm : SMx (κ 51) (h 51) (m + 1).toNat := by rw [hF1.cell 51 rfl (fun _ => rfl)]; exact sm
            have e0 : h 53 4 = sF g (pnE g p v3) 44 := p61.1.trans (sq_z (by omega))
            have i0 := p61.2.1
            have b0 := p61.2.2
            clear p61
            refine zW_aload_n (pc' := 65) dX6_readNumbers_2.1.1.2.2 rfl rfl ?_
            refine zW_iconst (pc' := 66) dX6_readNumbers_2.1.2.1.1 rfl ?_
            refine zV_gsr (k := 105) (pc' := 69) (fun U hU => (hX U hU).1.2.2.2) w_GREATEST_LATER dX6_readNumbers_2.1.2.1.2 rfl ?_
            refine zW_iload_n (pc' := 70) dX6_readNumbers_2.1.2.2 rfl rfl ?_
            refine zV_taldE (k := 105) (pc' := 71) (fun U hU => (hX U hU).1.2.2.2) (by omega) dX6_readNumbers_2.2.1.1.1 rfl (fun v70 e70 f70 => ?_)
            unfold rng at e70
            have b70 := xvv_b 105 (x1).toNat (by omega)
            have y71_31_1 := hF.1 31 1 rfl rfl
            have y71_49_0 := hF.1 49 0 rfl rfl
            have y71_53_2 := hF.1 53 2 rfl rfl
            refine cvI2 (pc' := 74) kX6_readNumber vX6_readNumber lk_X6_87 ⟨Nat.le_of_ble_eq_true rfl, Nat.le_of_ble_eq_true rfl⟩ tb53 vq6 rfl rfl (s_X6_readNumberQ hF.2.1 hF.2.2.1 hF.2.2.2 _ ⟨by omega, by omega⟩ _ ⟨by omega, by omega⟩ g (pnE g p v3 + 1) m (h 51 (m + 1).toNat) (by rw [hF.cell 32 rfl (fun _ => rfl), hF.1 53 2 rfl rfl]; exact hg) (by omega) (fun z => ⟨i0 z, by omega⟩) (by omega) (by omega) ⟨(hF.1 49 0 rfl rfl).trans hM.1, hM.2⟩ (fun z => by have a := (ca z).1; have b := pnL_len (g := g) (p := p) (k := v3) (by omega); exact ⟨rfl, by omega, by omega⟩)) dX6_readNumbers_2.2.1.1.2 (Nat.le_of_ble_eq_true rfl) rfl ?_
            rintro r71 h ⟨hF1, p71⟩; replace hF := hF.tr hF1 rfl
            replace ca := CA.tr he.2.1 ca p71.2.2.2.2.2.2.2.1 (fun z => sq_0l (p71.2.2.1.symm.trans z))
            replace sm := sm.tr p71.2.2.2.2.2.2.2.2
            have ca1 : CA κ h m e (pnL g p (v3 + 1)) := by rw [pnL_s k12]; exact ca
            rw [f70] at p71
            have e1 : h 53 4 = pnF g p (xvv 103 x1.toNat) (xvv 104 x1.toNat) (xvv 105 x1.toNat) (v3 + 1) := by rw [(pn_s k12).1, sq_z (show pnF g p (xvv 103 x1.toNat) (xvv 104 x1.toNat) (xvv 105 x1.toNat) v3 = 0 by omega)]; exact (by rw [p71.2.2.1, e0] : h 53 4 = sq (sF g (pnE g p v3) 44) (nF g (pnE g p v3 + 1) 0 (xvv 105 x1.toNat)))
            have i1 : h 53 4 = 0 → h 53 3 = pnE g p (v3 + 1) := fun z => by rw [(pn_s (g := g) (p := p) (a := 0) (b := 0) (l := 0) k12).2]; exact (p71.2.2.2.1 z).1
            have b1 := p71.2.2.2.2
            clear p71
            refine zW_pop (pc' := 75) dX6_readNumbers_2.2.1.2 rfl rfl ?_
            refine zW_iinc (ls' := [_, _, _, _]) (pc' := 78) dX6_readNumbers_2.2.2.1.1 rfl (by decide) rfl rfl rfl ?_
            refine zV_goto 24 dX6_readNumbers_2.2.2.1.2 rfl ?_
            exact k24 _ _ _ hF (by omega) (by omega) (by omega) (by omega) (by omega) (by first | exact e1 | (show h 53 4 = 0; omega)) (by first | exact i1 | (intro z; show h 53 3 = p; omega)) (by omega) (by first | exact ca1 | exact ca) sm (by omega)
          · have v30 : v3 = 0 := by omega
            have pz : pnE g p v3 = p := by rw [v30]; rfl
            have f0 : h 53 4 = 0 := by omega
            refine zW_aload_n (pc' := 41) dX6_readNumbers_1.1.2.2.1 rfl rfl ?_
            refine zV_gsr (k := 103) (pc' := 44) (fun U hU => (hX U hU).1.2.1) w_LEAST_FIRST dX6_readNumbers_1.1.2.2.2 rfl ?_
            refine zW_iload_n (pc' := 45) dX6_readNumbers_1.2.1.1.1 rfl rfl ?_
            refine zV_taldE (k := 103) (pc' := 46) (fun U hU => (hX U hU).1.2.1) (by omega) dX6_readNumbers_1.2.1.1.2 rfl (fun v45 e45 f45 => ?_)
            unfold rng at e45
            have b45 := xvv_b 103 (x1).toNat (by omega)
            refine zV_gsr (k := 104) (pc' := 49) (fun U hU => (hX U hU).1.2.2.1) w_GREATEST_FIRST dX6_readNumbers_1.2.1.2.1 rfl ?_
            refine zW_iload_n (pc' := 50) dX6_readNumbers_1.2.1.2.2 rfl rfl ?_
            refine zV_taldE (k := 104) (pc' := 51) (fun U hU => (hX U hU).1.2.2.1) (by omega) dX6_readNumbers_1.2.2.1.1 rfl (fun v50 e50 f50 => ?_)
            unfold rng at e50
            have b50 := xvv_b 104 (x1).toNat (by omega)
            have y51_31_1 := hF.1 31 1 rfl rfl
            have y51_49_0 := hF.1 49 0 rfl rfl
            have y51_53_2 := hF.1 53 2 rfl rfl
            refine cvI2 (pc' := 54) kX6_readNumber vX6_readNumber lk_X6_87 ⟨Nat.le_of_ble_eq_true rfl, Nat.le_of_ble_eq_true rfl⟩ tb53 vq6 rfl rfl (s_X6_readNumberQ hF.2.1 hF.2.2.1 hF.2.2.2 _ ⟨by omega, by omega⟩ _ ⟨by omega, by omega⟩ g p m (h 51 (m + 1).toNat) (by rw [hF.cell 32 rfl (fun _ => rfl), hF.1 53 2 rfl rfl]; exact hg) (by omega) (by omega) (by omega) (by omega) ⟨(hF.1 49 0 rfl rfl).trans hM.1, hM.2⟩ (fun z => by have a := (ca z).1; have b := pnL_len (g := g) (p := p) (k := v3) (by omega); exact ⟨rfl, by omega, by omega⟩)) dX6_readNumbers_1.2.2.1.2 (Nat.le_of_ble_eq_true rfl) rfl ?_
            rintro r51 h ⟨hF1, p51⟩; replace hF := hF.tr hF1 rfl
            replace ca := CA.tr he.2.1 ca p51.2.2.2.2.2.2.2.1 (fun z => sq_0l (p51.2.2.1.symm.trans z))
            replace sm := sm.tr p51.2.2.2.2.2.2.2.2
            have ca1 : CA κ h m e (pnL g p (v3 + 1)) := by rw [pnL_z v30]; exact ca
            rw [f45, f50] at p51
            have e1 : h 53 4 = pnF g p (xvv 103 x1.toNat) (xvv 104 x1.toNat) (xvv 105 x1.toNat) (v3 + 1) := by rw [v30]; exact p51.2.2.1.trans (sq_z f0)
            have i1 : h 53 4 = 0 → h 53 3 = pnE g p (v3 + 1) := fun z => by rw [v30]; exact (p51.2.2.2.1 z).1
            have b1 := p51.2.2.2.2
            clear p51
            refine zW_pop (pc' := 55) dX6_readNumbers_1.2.2.2.1 rfl rfl ?_
            refine zV_goto 75 dX6_readNumbers_1.2.2.2.2 rfl ?_
            refine zW_iinc (ls' := [_, _, _, _]) (pc' := 78) dX6_readNumbers_2.2.2.1.1 rfl (by decide) rfl rfl rfl ?_
            refine zV_goto 24 dX6_readNumbers_2.2.2.1.2 rfl ?_
            exact k24 _ _ _ hF (by omega) (by omega) (by omega) (by omega) (by omega) (by first | exact e1 | (show h 53 4 = 0; omega)) (by first | exact i1 | (intro z; show h 53 3 = p; omega)) (by omega) (by first | exact ca1 | exact ca) sm (by omega)
  refine zM_of [some (.inr (.inr 53)), some (.inl x1), none, none] 2 rfl rfl (Nat.le_of_ble_eq_true rfl) rfl ?_
  refine (show ∀ h : Hp, Fm [(53, 3), (53, 4), (51, 999), (52, 999)] κ h → h = κ → zV G mX6_readNumbers (q_X6_readNumbersQ κ x1 g p m e) 0 [some (.inr (.inr 53)), some (.inl x1), none, none] [] h from fun h hF hk0 => ?_) κ (Fm.rf hS hR hC) rfl
  have y0_53_3 : h 53 3 = κ 53 3 := by rw [hk0]
  have y0_53_4 : h 53 4 = κ 53 4 := by rw [hk0]
  have ca : CA κ h m e [] := fun _ => by rw [hk0, he.1]; exact Ap.rf
  have sm : SMx (κ 51) (h 51) (m + 1).toNat := by rw [hk0]; exact SMx.rf
  refine zW_iload_n (pc' := 1) dX6_readNumbers_0.1.1.1.1 rfl rfl ?_
  refine zV_if_lt (tgt := 20) (pc' := 4) dX6_readNumbers_0.1.1.1.2 rfl rfl ⟨by omega, by omega⟩ (fun c1 => ?_) (fun c1 => ?_)
  · exfalso; omega
  · refine zW_iload_n (pc' := 5) dX6_readNumbers_0.1.1.2.1 rfl rfl ?_
    refine zV_gsr (k := 102) (pc' := 8) (fun U hU => (hX U hU).1.1) w_HOW_MANY_NUMBERS dX6_readNumbers_0.1.1.2.2 rfl ?_
    refine zV_talen (k := 102) (pc' := 9) (fun U hU => (hX U hU).1.1) dX6_readNumbers_0.1.2.1.1 rfl ?_
    refine zV_cm_ge (tgt := 20) (pc' := 12) dX6_readNumbers_0.1.2.1.2 rfl rfl ⟨by omega, by omega⟩ ⟨by omega, by omega⟩ (fun c9 => ?_) (fun c9 => ?_)
    · exfalso; omega
    · refine zV_gsr (k := 102) (pc' := 15) (fun U hU => (hX U hU).1.1) w_HOW_MANY_NUMBERS dX6_readNumbers_0.1.2.2.1 rfl ?_
      refine zW_iload_n (pc' := 16) dX6_readNumbers_0.1.2.2.2 rfl rfl ?_
      refine zV_taldE (k := 102) (pc' := 17) (fun U hU => (hX U hU).1.1) (by omega) dX6_readNumbers_0.2.1.1.1 rfl (fun v16 e16 f16 => ?_)
      unfold rng at e16
      have b16 := xvv_b 102 (x1).toNat (by omega)
      refine zV_goto 21 dX6_readNumbers_0.2.1.1.2 rfl ?_
      refine zW_istore_n (ls' := [_, _, _, _]) (pc' := 22) dX6_readNumbers_0.2.1.2.2 (by decide) rfl rfl rfl ?_
      refine zW_iconst (pc' := 23) dX6_readNumbers_0.2.2.1.1 rfl ?_
      refine zW_istore_n (ls' := [_, _, _, _]) (pc' := 24) dX6_readNumbers_0.2.2.1.2 (by decide) rfl rfl rfl ?_
      exact (main 10000000000000000000000000000000000000000) _ _ _ hF (by omega) (by omega) (by omega) (by omega) (by omega) (by first | exact e1 | (show h 53 4 = 0; omega)) (by first | exact i1 | (intro z; show h 53 3 = p; omega)) (by omega) (by first | exact ca1 | exact ca) sm (by omega)

abbrev q_X6_readStageQ (κ : Hp) (g : Int → Int) (p : Int) (m : Int) : Int → Hp → Prop := fun r h' => Fm [(53, 3), (53, 4), (49, 0), (49, 1), (50, 999), (51, 999), (52, 999)] κ h' ∧ (((sgF g p (κ 49 0) (κ 49 1) ≠ 0 → h' 53 4 = sgF g p (κ 49 0) (κ 49 1)) ∧ (sgF g p (κ 49 0) (κ 49 1) = 0 → h' 53 3 = sgE g p ∧ (sgE g p < κ 53 2 → h' 53 4 = sF g (sgE g p) 59) ∧ (κ 53 2 ≤ sgE g p → h' 53 4 = 0) ∧ p + 2 ≤ h' 53 3) ∧ (h' 53 4 = 0 → h' 49 0 = κ 49 0 + 1 ∧ h' 49 1 = nxf g p (κ 49 0) (κ 49 1)) ∧ h' 53 4 ≤ 0 ∧ κ 53 3 ≤ h' 53 3 ∧ (h' 53 3 = κ 53 3 ∨ h' 53 3 ≤ κ 53 2) ∧ SQ g p κ h' m))
set_option maxHeartbeats 4000000 in
set_option maxRecDepth 20000 in
theorem s_X6_readStageQ {G : Ga} {κ : Hp} (hS : SI κ) (hR : KR κ) (hC : KC κ) (g : Int → Int) (p : Int) (m : Int) (hg : hr (κ 32) (κ 53 2) = g) (hn : 0 ≤ κ 53 2 ∧ κ 53 2 ≤ 120 ∧ κ 53 2 ≤ κ 31 1) (hb : ∀ q : Int, -1 ≤ g q ∧ g q ≤ 255) (hp : (κ 53 4 = 0 ∧ κ 53 3 = p ∧ 0 ≤ p)) (ha : κ 53 3 ≤ 150) (hX : XI G) (hM : κ 49 0 = m ∧ 0 ≤ m ∧ m ≤ 12) (he : 2 * κ 51 (m + 1).toNat ≤ κ 53 3 ∧ 0 ≤ κ 51 (m + 1).toNat) : zM G mX6_readStage yX6_readStage [.inr (.inr 53)] κ (q_X6_readStageQ κ g p m) := by
  have f_31_1 := KCt hC
  have f_49_0 := KCd0 hC
  have f_49_1 := KCd1 hC
  have g4 : sgE g p = nbE g (g p) (p + 2) := rfl
  refine zM_of [some (.inr (.inr 53)), none] 1 rfl rfl (Nat.le_of_ble_eq_true rfl) rfl ?_
  refine (show ∀ h : Hp, Fm [(53, 3), (53, 4), (49, 0), (49, 1), (50, 999), (51, 999), (52, 999)] κ h → h = κ → zV G mX6_readStage (q_X6_readStageQ κ g p m) 0 [some (.inr (.inr 53)), none] [] h from fun h hF hk0 => ?_) κ (Fm.rf hS hR hC) rfl
  have y0_53_3 : h 53 3 = κ 53 3 := by rw [hk0]
  have y0_53_4 : h 53 4 = κ 53 4 := by rw [hk0]
  have y0_49_0 : h 49 0 = κ 49 0 := by rw [hk0]
  have y0_49_1 : h 49 1 = κ 49 1 := by rw [hk0]
  refine zW_aload_n (pc' := 1) dX6_readStage_0.1.1.1.1 rfl rfl ?_
  have y1_31_1 := hF.1 31 1 rfl rfl
  have y1_53_2 := hF.1 53 2 rfl rfl
  refine cvI0 (pc' := 4) kX6_readLetter vX6_readLetter lk_X6_41 ⟨Nat.le_of_ble_eq_true rfl, Nat.le_of_ble_eq_true rfl⟩ tb53 vq6 rfl rfl (s_X6_readLetterQ hF.2.1 hF.2.2.1 hF.2.2.2 g p m (by rw [hF.cell 32 rfl (fun _ => rfl), hF.1 53 2 rfl rfl]; exact hg) (by omega) hb (by omega) (by omega) hX (by omega)) dX6_readStage_0.1.1.1.2 (Nat.le_of_ble_eq_true rfl) rfl ?_
  rintro r1 h ⟨hF1, p1⟩; replace hF := hF.tr hF1 rfl
  rw [hk0] at p1
  refine zW_istore_n (ls' := [_, _]) (pc' := 5) dX6_readStage_0.1.1.2.1 (by decide) rfl rfl rfl ?_
  have hp0 : 0 ≤ p := by omega
  have r1k := p1.2.2.1
  have e1 := p1.2.2.2.1
  have i1 := p1.2.2.2.2.1
  have m1 := And.intro p1.2.2.2.2.2.1 p1.2.2.2.2.2.2.1
  have r1b := And.intro p1.1 p1.2.1
  have l1 := lFn (g := g) (p := p) (m := κ 49 0) (f := κ 49 1) hp0
  have lq := p1.2.2.2.2.2.2.2
  clear p1
  refine zW_aload_n (pc' := 6) dX6_readStage_0.1.1.2.2 rfl rfl ?_
  refine zW_bipush (pc' := 8) dX6_readStage_0.1.2.1.1 rfl rfl ?_
  have y8_31_1 := hF.1 31 1 rfl rfl
  have y8_53_2 := hF.1 53 2 rfl rfl
  refine cvV1 (pc' := 11) kX6_expect vX6_expect lk_X6_45 ⟨Nat.le_of_ble_eq_true rfl, Nat.le_of_ble_eq_true rfl⟩ tb53 vq6 rfl rfl (s_X6_expectP hF.2.1 hF.2.2.1 hF.2.2.2 _ ⟨by omega, by omega⟩ g (p + 1) (by rw [hF.cell 32 rfl (fun _ => rfl), hF.1 53 2 rfl rfl]; exact hg) (by omega) (fun z => ⟨(i1 z).1, by omega⟩) (by omega) (by omega)) dX6_readStage_0.1.2.1.2 (Nat.le_of_ble_eq_true rfl) rfl ?_
  rintro r8 h ⟨hF1, p8⟩; replace hF := hF.tr hF1 rfl
  replace lq := lq.eq (hF1.cell 50 rfl (fun _ => rfl)) (hF1.cell 51 rfl (fun _ => rfl)) (hF1.cell 52 rfl (fun _ => rfl)) (fun z => sq_0l (p8.1.symm.trans z))
  have t8_49_0 := hF1.1 49 0 rfl rfl
  have t8_49_1 := hF1.1 49 1 rfl rfl
  have e8 : h 53 4 = sq (lF g p (κ 49 0) (κ 49 1)) (sF g (p + 1) 58) := by rw [p8.1, e1]
  have i8 := p8.2.1
  have b8 := p8.2.2
  clear p8
  have s49 : h 53 4 = 0 → h 49 0 = κ 49 0 + 1 ∧ h 49 1 = nxf g p (κ 49 0) (κ 49 1) := fun z => by have a := i1 (e1.trans (sq_0l (e8.symm.trans z))); have nx := nxfc g p (κ 49 0) (κ 49 1); have kf := kd_f (g p); omega
  clear i1
  refine zW_aload_n (pc' := 12) dX6_readStage_0.1.2.2.1 rfl rfl ?_
  refine zG_int (pc' := 15) fg_X6_32 tb53 rfl dX6_readStage_0.1.2.2.2 rfl ?_
  have e12 := hF.rh 53 4
  refine zV_if_ne (tgt := 31) (pc' := 18) dX6_readStage_0.2.1.1.1 rfl rfl ⟨by omega, by omega⟩ (fun c15 => ?_) (fun c15 => ?_)
  · first | (have z1 : h 53 4 ≠ 0 := (by omega); have gs : sgF g p (κ 49 0) (κ 49 1) = sq (lF g p (κ 49 0) (κ 49 1)) (sF g (p + 1) 58) := sq_m (fun z => z1 (e8.trans z)); clear i8 s49) | skip
    refine zW_aload_n (pc' := 32) dX6_readStage_0.2.2.2.2 rfl rfl ?_
    refine zG_int (pc' := 35) fg_X6_32 tb53 rfl dX6_readStage_1.1.1.1.1 rfl ?_
    have e32 := hF.rh 53 4
    refine zV_if_ne (tgt := 43) (pc' := 38) dX6_readStage_1.1.1.1.2 rfl rfl ⟨by omega, by omega⟩ (fun c35 => ?_) (fun c35 => ?_)
    · first | (have z40 := p40; have nbx : nbF g (g p) (p + 2) = mnF g (p + 2) (xvv 102 r1.toNat) (xvv 103 r1.toNat) (xvv 104 r1.toNat) (xvv 105 r1.toNat) ∧ nbE g (g p) (p + 2) = mnE g (p + 2) (xvv 102 r1.toNat) := (by have z := nb_kind (g := g) (p := p + 2) r1.toNat (by omega); rw [show r1.toNat = (kd (g p)).toNat by omega] at z ⊢; rw [kd_s (by omega)] at z; exact z)) | skip
      first | (have z40 := p40; have nlx : nbL g (g p) (p + 2) = pnL g (p + 2) (xvv 102 r1.toNat) := (by have z := nl_kind (g := g) (p := p + 2) r1.toNat (by omega); rw [show r1.toNat = (kd (g p)).toNat by omega] at z ⊢; rw [kd_s (by omega)] at z; exact z); have sqf : SQ g p κ h m := lq.sq (hF1.cell 50 rfl (fun _ => rfl)) p40.2.2.2.2.2.2 p40.2.2.2.2.2.1 nlx (fun _ => z0)) | skip
      refine zW_aload_n (pc' := 44) dX6_readStage_1.1.2.1.2 rfl rfl ?_
      refine zG_int (pc' := 47) fg_X6_32 tb53 rfl dX6_readStage_1.1.2.2.1 rfl ?_
      have e44 := hF.rh 53 4
      refine zV_if_ne (tgt := 79) (pc' := 50) dX6_readStage_1.1.2.2.2 rfl rfl ⟨by omega, by omega⟩ (fun c47 => ?_) (fun c47 => ?_)
      · exact zV_vret rfl dX6_readStage_2.2.2 ⟨hF, by refine ⟨by omega, by omega, by omega, by omega, by omega, by omega, ?_⟩; first | exact sqf | exact (fun z => absurd z (by omega))⟩
      · have sf2 := sFc g (sgE g p) 59
        refine zW_aload_n (pc' := 51) dX6_readStage_1.2.1.1.1 rfl rfl ?_
        refine zG_int (pc' := 54) fg_X6_29 tb53 rfl dX6_readStage_1.2.1.1.2 rfl ?_
        have e51 := hF.rh 53 3
        refine zW_aload_n (pc' := 55) dX6_readStage_1.2.1.2.1 rfl rfl ?_
        refine zGm (pc' := 58) hF rfl rfl fg_X6_25 tb53 rfl dX6_readStage_1.2.1.2.2 rfl ?_
        have e55 : -2147483648 ≤ κ 53 2 ∧ κ 53 2 ≤ 2147483647 := by rw [← hF.1 53 2 rfl rfl]; exact hF.rh 53 2
        refine zV_cm_ge (tgt := 79) (pc' := 61) dX6_readStage_1.2.2.1.1 rfl rfl ⟨by omega, by omega⟩ ⟨by omega, by omega⟩ (fun c58 => ?_) (fun c58 => ?_)
        · exact zV_vret rfl dX6_readStage_2.2.2 ⟨hF, by refine ⟨by omega, by omega, by omega, by omega, by omega, by omega, ?_⟩; first | exact sqf | exact (fun z => absurd z (by omega))⟩
        · refine zW_aload_n (pc' := 62) dX6_readStage_1.2.2.1.2 rfl rfl ?_
          have y62_31_1 := hF.1 31 1 rfl rfl
          have y62_53_2 := hF.1 53 2 rfl rfl
          refine cvI0 (pc' := 65) kX6_here vX6_here lk_X6_56 ⟨Nat.le_of_ble_eq_true rfl, Nat.le_of_ble_eq_true rfl⟩ tb53 vq6 rfl rfl (s_X6_hereP (b := true) (κ := h) hF.2.2.2 (Fr.rf hF.2.1) g (sgE g p) (by rw [hF.cell 32 rfl (fun _ => rfl), hF.1 53 2 rfl rfl]; exact hg) (by omega) (by omega)) dX6_readStage_1.2.2.2.1 (Nat.le_of_ble_eq_true rfl) rfl ?_
          rintro r62 z62 ⟨hz62, p62⟩; subst z62
          refine zW_bipush (pc' := 67) dX6_readStage_1.2.2.2.2 rfl rfl ?_
          refine zV_cm_eq (tgt := 79) (pc' := 70) dX6_readStage_2.1.1.1 rfl rfl ⟨by omega, by omega⟩ ⟨by omega, by omega⟩ (fun c67 => ?_) (fun c67 => ?_)
          · exact zV_vret rfl dX6_readStage_2.2.2 ⟨hF, by refine ⟨by omega, by omega, by omega, by omega, by omega, by omega, ?_⟩; first | exact sqf | exact (fun z => absurd z (by omega))⟩
          · refine zW_aload_n (pc' := 71) dX6_readStage_2.1.1.2 rfl rfl ?_
            refine zW_iconst (pc' := 72) dX6_readStage_2.1.2.1 rfl ?_
            refine zW_aload_n (pc' := 73) dX6_readStage_2.1.2.2 rfl rfl ?_
            refine zG_int (pc' := 76) fg_X6_29 tb53 rfl dX6_readStage_2.2.1.1 rfl ?_
            have e73 := hF.rh 53 3
            refine cvV2 (pc' := 79) kX6_tell vX6_tell lk_X6_59 ⟨Nat.le_of_ble_eq_true rfl, Nat.le_of_ble_eq_true rfl⟩ tb53 vq6 rfl rfl (s_X6_tellP hF.2.1 hF.2.2.1 hF.2.2.2 _ ⟨by omega, by omega⟩ _ ⟨by omega, by omega⟩) dX6_readStage_2.2.1.2 (Nat.le_of_ble_eq_true rfl) rfl ?_
            rintro r76 h ⟨hF1, p76⟩; replace hF := hF.tr hF1 rfl
            have t76_53_3 := hF1.1 53 3 rfl rfl
            have t76_49_0 := hF1.1 49 0 rfl rfl
            have t76_49_1 := hF1.1 49 1 rfl rfl
            exact zV_vret rfl dX6_readStage_2.2.2 ⟨hF, by refine ⟨by omega, by omega, by omega, by omega, by omega, by omega, ?_⟩; first | exact sqf | exact (fun z => absurd z (by omega))⟩
    · refine zW_aload_n (pc' := 39) dX6_readStage_1.1.1.2.1 rfl rfl ?_
      refine zW_iload_n (pc' := 40) dX6_readStage_1.1.1.2.2 rfl rfl ?_
      have y40_31_1 := hF.1 31 1 rfl rfl
      have y40_53_2 := hF.1 53 2 rfl rfl
      refine cvV1 (pc' := 43) kX6_readNumbers vX6_readNumbers lk_X6_52 ⟨Nat.le_of_ble_eq_true rfl, Nat.le_of_ble_eq_true rfl⟩ tb53 vq6 rfl rfl (s_X6_readNumbersQ hF.2.1 hF.2.2.1 hF.2.2.2 _ ⟨by omega, by omega⟩ g (p + 2) (m + 1) (κ 51 (m + 1).toNat) (by rw [hF.cell 32 rfl (fun _ => rfl), hF.1 53 2 rfl rfl]; exact hg) (by omega) (by omega) (by omega) hX ⟨by omega, by omega, by omega⟩ (by first | exact ⟨e2x, by omega, by omega⟩ | (exfalso; omega))) dX6_readStage_1.1.2.1.1 (Nat.le_of_ble_eq_true rfl) rfl ?_
      rintro r40 h ⟨hF1, p40⟩; replace hF := hF.tr hF1 rfl
      have t40_49_0 := hF1.1 49 0 rfl rfl
      have t40_49_1 := hF1.1 49 1 rfl rfl
      first | (have z40 := p40; have nbx : nbF g (g p) (p + 2) = mnF g (p + 2) (xvv 102 r1.toNat) (xvv 103 r1.toNat) (xvv 104 r1.toNat) (xvv 105 r1.toNat) ∧ nbE g (g p) (p + 2) = mnE g (p + 2) (xvv 102 r1.toNat) := (by have z := nb_kind (g := g) (p := p + 2) r1.toNat (by omega); rw [show r1.toNat = (kd (g p)).toNat by omega] at z ⊢; rw [kd_s (by omega)] at z; exact z)) | skip
      first | (have z40 := p40; have nlx : nbL g (g p) (p + 2) = pnL g (p + 2) (xvv 102 r1.toNat) := (by have z := nl_kind (g := g) (p := p + 2) r1.toNat (by omega); rw [show r1.toNat = (kd (g p)).toNat by omega] at z ⊢; rw [kd_s (by omega)] at z; exact z); have sqf : SQ g p κ h m := lq.sq (hF1.cell 50 rfl (fun _ => rfl)) p40.2.2.2.2.2.2 p40.2.2.2.2.2.1 nlx (fun _ => z0)) | skip
      refine zW_aload_n (pc' := 44) dX6_readStage_1.1.2.1.2 rfl rfl ?_
      refine zG_int (pc' := 47) fg_X6_32 tb53 rfl dX6_readStage_1.1.2.2.1 rfl ?_
      have e44 := hF.rh 53 4
      refine zV_if_ne (tgt := 79) (pc' := 50) dX6_readStage_1.1.2.2.2 rfl rfl ⟨by omega, by omega⟩ (fun c47 => ?_) (fun c47 => ?_)
      · exact zV_vret rfl dX6_readStage_2.2.2 ⟨hF, by refine ⟨by omega, by omega, by omega, by omega, by omega, by omega, ?_⟩; first | exact sqf | exact (fun z => absurd z (by omega))⟩
      · have sf2 := sFc g (sgE g p) 59
        refine zW_aload_n (pc' := 51) dX6_readStage_1.2.1.1.1 rfl rfl ?_
        refine zG_int (pc' := 54) fg_X6_29 tb53 rfl dX6_readStage_1.2.1.1.2 rfl ?_
        have e51 := hF.rh 53 3
        refine zW_aload_n (pc' := 55) dX6_readStage_1.2.1.2.1 rfl rfl ?_
        refine zGm (pc' := 58) hF rfl rfl fg_X6_25 tb53 rfl dX6_readStage_1.2.1.2.2 rfl ?_
        have e55 : -2147483648 ≤ κ 53 2 ∧ κ 53 2 ≤ 2147483647 := by rw [← hF.1 53 2 rfl rfl]; exact hF.rh 53 2
        refine zV_cm_ge (tgt := 79) (pc' := 61) dX6_readStage_1.2.2.1.1 rfl rfl ⟨by omega, by omega⟩ ⟨by omega, by omega⟩ (fun c58 => ?_) (fun c58 => ?_)
        · exact zV_vret rfl dX6_readStage_2.2.2 ⟨hF, by refine ⟨by omega, by omega, by omega, by omega, by omega, by omega, ?_⟩; first | exact sqf | exact (fun z => absurd z (by omega))⟩
        · refine zW_aload_n (pc' := 62) dX6_readStage_1.2.2.1.2 rfl rfl ?_
          have y62_31_1 := hF.1 31 1 rfl rfl
          have y62_53_2 := hF.1 53 2 rfl rfl
          refine cvI0 (pc' := 65) kX6_here vX6_here lk_X6_56 ⟨Nat.le_of_ble_eq_true rfl, Nat.le_of_ble_eq_true rfl⟩ tb53 vq6 rfl rfl (s_X6_hereP (b := true) (κ := h) hF.2.2.2 (Fr.rf hF.2.1) g (sgE g p) (by rw [hF.cell 32 rfl (fun _ => rfl), hF.1 53 2 rfl rfl]; exact hg) (by omega) (by omega)) dX6_readStage_1.2.2.2.1 (Nat.le_of_ble_eq_true rfl) rfl ?_
          rintro r62 z62 ⟨hz62, p62⟩; subst z62
          refine zW_bipush (pc' := 67) dX6_readStage_1.2.2.2.2 rfl rfl ?_
          refine zV_cm_eq (tgt := 79) (pc' := 70) dX6_readStage_2.1.1.1 rfl rfl ⟨by omega, by omega⟩ ⟨by omega, by omega⟩ (fun c67 => ?_) (fun c67 => ?_)
          · exact zV_vret rfl dX6_readStage_2.2.2 ⟨hF, by refine ⟨by omega, by omega, by omega, by omega, by omega, by omega, ?_⟩; first | exact sqf | exact (fun z => absurd z (by omega))⟩
          · refine zW_aload_n (pc' := 71) dX6_readStage_2.1.1.2 rfl rfl ?_
            refine zW_iconst (pc' := 72) dX6_readStage_2.1.2.1 rfl ?_
            refine zW_aload_n (pc' := 73) dX6_readStage_2.1.2.2 rfl rfl ?_
            refine zG_int (pc' := 76) fg_X6_29 tb53 rfl dX6_readStage_2.2.1.1 rfl ?_
            have e73 := hF.rh 53 3
            refine cvV2 (pc' := 79) kX6_tell vX6_tell lk_X6_59 ⟨Nat.le_of_ble_eq_true rfl, Nat.le_of_ble_eq_true rfl⟩ tb53 vq6 rfl rfl (s_X6_tellP hF.2.1 hF.2.2.1 hF.2.2.2 _ ⟨by omega, by omega⟩ _ ⟨by omega, by omega⟩) dX6_readStage_2.2.1.2 (Nat.le_of_ble_eq_true rfl) rfl ?_
            rintro r76 h ⟨hF1, p76⟩; replace hF := hF.tr hF1 rfl
            have t76_53_3 := hF1.1 53 3 rfl rfl
            have t76_49_0 := hF1.1 49 0 rfl rfl
            have t76_49_1 := hF1.1 49 1 rfl rfl
            exact zV_vret rfl dX6_readStage_2.2.2 ⟨hF, by refine ⟨by omega, by omega, by omega, by omega, by omega, by omega, ?_⟩; first | exact sqf | exact (fun z => absurd z (by omega))⟩
  · have z0 : h 53 4 = 0 := by omega
    have z8 := e8.symm.trans z0
    have kl := lFz (sq_0l z8) hp0
    have gs : sgF g p (κ 49 0) (κ 49 1) = nbF g (g p) (p + 2) := sq_z z8
    have s49b := s49 z0
    have a2 := i8 z0
    have m11 : m ≤ 11 := by have a := lFc g p (κ 49 0) (κ 49 1); have b := sq_0l z8; omega
    have p2n : p + 2 ≤ κ 53 2 := by omega
    have e2x : h 51 (m + 1 + 1).toNat = κ 51 (m + 1).toNat := (lq z0).2.2.1
    clear i8 s49 e8 z8
    refine zW_iload_n (pc' := 19) dX6_readStage_0.2.1.1.2 rfl rfl ?_
    refine zW_bipush (pc' := 21) dX6_readStage_0.2.1.2.1 rfl rfl ?_
    refine zV_cm_ne (tgt := 31) (pc' := 24) dX6_readStage_0.2.1.2.2 rfl rfl ⟨by omega, by omega⟩ ⟨by omega, by omega⟩ (fun c21 => ?_) (fun c21 => ?_)
    · first | (have z1 : h 53 4 ≠ 0 := (by omega); have gs : sgF g p (κ 49 0) (κ 49 1) = sq (lF g p (κ 49 0) (κ 49 1)) (sF g (p + 1) 58) := sq_m (fun z => z1 (e8.trans z)); clear i8 s49) | skip
      refine zW_aload_n (pc' := 32) dX6_readStage_0.2.2.2.2 rfl rfl ?_
      refine zG_int (pc' := 35) fg_X6_32 tb53 rfl dX6_readStage_1.1.1.1.1 rfl ?_
      have e32 := hF.rh 53 4
      refine zV_if_ne (tgt := 43) (pc' := 38) dX6_readStage_1.1.1.1.2 rfl rfl ⟨by omega, by omega⟩ (fun c35 => ?_) (fun c35 => ?_)
      · first | (have z40 := p40; have nbx : nbF g (g p) (p + 2) = mnF g (p + 2) (xvv 102 r1.toNat) (xvv 103 r1.toNat) (xvv 104 r1.toNat) (xvv 105 r1.toNat) ∧ nbE g (g p) (p + 2) = mnE g (p + 2) (xvv 102 r1.toNat) := (by have z := nb_kind (g := g) (p := p + 2) r1.toNat (by omega); rw [show r1.toNat = (kd (g p)).toNat by omega] at z ⊢; rw [kd_s (by omega)] at z; exact z)) | skip
        first | (have z40 := p40; have nlx : nbL g (g p) (p + 2) = pnL g (p + 2) (xvv 102 r1.toNat) := (by have z := nl_kind (g := g) (p := p + 2) r1.toNat (by omega); rw [show r1.toNat = (kd (g p)).toNat by omega] at z ⊢; rw [kd_s (by omega)] at z; exact z); have sqf : SQ g p κ h m := lq.sq (hF1.cell 50 rfl (fun _ => rfl)) p40.2.2.2.2.2.2 p40.2.2.2.2.2.1 nlx (fun _ => z0)) | skip
        refine zW_aload_n (pc' := 44) dX6_readStage_1.1.2.1.2 rfl rfl ?_
        refine zG_int (pc' := 47) fg_X6_32 tb53 rfl dX6_readStage_1.1.2.2.1 rfl ?_
        have e44 := hF.rh 53 4
        refine zV_if_ne (tgt := 79) (pc' := 50) dX6_readStage_1.1.2.2.2 rfl rfl ⟨by omega, by omega⟩ (fun c47 => ?_) (fun c47 => ?_)
        · exact zV_vret rfl dX6_readStage_2.2.2 ⟨hF, by refine ⟨by omega, by omega, by omega, by omega, by omega, by omega, ?_⟩; first | exact sqf | exact (fun z => absurd z (by omega))⟩
        · have sf2 := sFc g (sgE g p) 59
          refine zW_aload_n (pc' := 51) dX6_readStage_1.2.1.1.1 rfl rfl ?_
          refine zG_int (pc' := 54) fg_X6_29 tb53 rfl dX6_readStage_1.2.1.1.2 rfl ?_
          have e51 := hF.rh 53 3
          refine zW_aload_n (pc' := 55) dX6_readStage_1.2.1.2.1 rfl rfl ?_
          refine zGm (pc' := 58) hF rfl rfl fg_X6_25 tb53 rfl dX6_readStage_1.2.1.2.2 rfl ?_
          have e55 : -2147483648 ≤ κ 53 2 ∧ κ 53 2 ≤ 2147483647 := by rw [← hF.1 53 2 rfl rfl]; exact hF.rh 53 2
          refine zV_cm_ge (tgt := 79) (pc' := 61) dX6_readStage_1.2.2.1.1 rfl rfl ⟨by omega, by omega⟩ ⟨by omega, by omega⟩ (fun c58 => ?_) (fun c58 => ?_)
          · exact zV_vret rfl dX6_readStage_2.2.2 ⟨hF, by refine ⟨by omega, by omega, by omega, by omega, by omega, by omega, ?_⟩; first | exact sqf | exact (fun z => absurd z (by omega))⟩
          · refine zW_aload_n (pc' := 62) dX6_readStage_1.2.2.1.2 rfl rfl ?_
            have y62_31_1 := hF.1 31 1 rfl rfl
            have y62_53_2 := hF.1 53 2 rfl rfl
            refine cvI0 (pc' := 65) kX6_here vX6_here lk_X6_56 ⟨Nat.le_of_ble_eq_true rfl, Nat.le_of_ble_eq_true rfl⟩ tb53 vq6 rfl rfl (s_X6_hereP (b := true) (κ := h) hF.2.2.2 (Fr.rf hF.2.1) g (sgE g p) (by rw [hF.cell 32 rfl (fun _ => rfl), hF.1 53 2 rfl rfl]; exact hg) (by omega) (by omega)) dX6_readStage_1.2.2.2.1 (Nat.le_of_ble_eq_true rfl) rfl ?_
            rintro r62 z62 ⟨hz62, p62⟩; subst z62
            refine zW_bipush (pc' := 67) dX6_readStage_1.2.2.2.2 rfl rfl ?_
            refine zV_cm_eq (tgt := 79) (pc' := 70) dX6_readStage_2.1.1.1 rfl rfl ⟨by omega, by omega⟩ ⟨by omega, by omega⟩ (fun c67 => ?_) (fun c67 => ?_)
            · exact zV_vret rfl dX6_readStage_2.2.2 ⟨hF, by refine ⟨by omega, by omega, by omega, by omega, by omega, by omega, ?_⟩; first | exact sqf | exact (fun z => absurd z (by omega))⟩
            · refine zW_aload_n (pc' := 71) dX6_readStage_2.1.1.2 rfl rfl ?_
              refine zW_iconst (pc' := 72) dX6_readStage_2.1.2.1 rfl ?_
              refine zW_aload_n (pc' := 73) dX6_readStage_2.1.2.2 rfl rfl ?_
              refine zG_int (pc' := 76) fg_X6_29 tb53 rfl dX6_readStage_2.2.1.1 rfl ?_
              have e73 := hF.rh 53 3
              refine cvV2 (pc' := 79) kX6_tell vX6_tell lk_X6_59 ⟨Nat.le_of_ble_eq_true rfl, Nat.le_of_ble_eq_true rfl⟩ tb53 vq6 rfl rfl (s_X6_tellP hF.2.1 hF.2.2.1 hF.2.2.2 _ ⟨by omega, by omega⟩ _ ⟨by omega, by omega⟩) dX6_readStage_2.2.1.2 (Nat.le_of_ble_eq_true rfl) rfl ?_
              rintro r76 h ⟨hF1, p76⟩; replace hF := hF.tr hF1 rfl
              have t76_53_3 := hF1.1 53 3 rfl rfl
              have t76_49_0 := hF1.1 49 0 rfl rfl
              have t76_49_1 := hF1.1 49 1 rfl rfl
              exact zV_vret rfl dX6_readStage_2.2.2 ⟨hF, by refine ⟨by omega, by omega, by omega, by omega, by omega, by omega, ?_⟩; first | exact sqf | exact (fun z => absurd z (by omega))⟩
      · refine zW_aload_n (pc' := 39) dX6_readStage_1.1.1.2.1 rfl rfl ?_
        refine zW_iload_n (pc' := 40) dX6_readStage_1.1.1.2.2 rfl rfl ?_
        have y40_31_1 := hF.1 31 1 rfl rfl
        have y40_53_2 := hF.1 53 2 rfl rfl
        refine cvV1 (pc' := 43) kX6_readNumbers vX6_readNumbers lk_X6_52 ⟨Nat.le_of_ble_eq_true rfl, Nat.le_of_ble_eq_true rfl⟩ tb53 vq6 rfl rfl (s_X6_readNumbersQ hF.2.1 hF.2.2.1 hF.2.2.2 _ ⟨by omega, by omega⟩ g (p + 2) (m + 1) (κ 51 (m + 1).toNat) (by rw [hF.cell 32 rfl (fun _ => rfl), hF.1 53 2 rfl rfl]; exact hg) (by omega) (by omega) (by omega) hX ⟨by omega, by omega, by omega⟩ (by first | exact ⟨e2x, by omega, by omega⟩ | (exfalso; omega))) dX6_readStage_1.1.2.1.1 (Nat.le_of_ble_eq_true rfl) rfl ?_
        rintro r40 h ⟨hF1, p40⟩; replace hF := hF.tr hF1 rfl
        have t40_49_0 := hF1.1 49 0 rfl rfl
        have t40_49_1 := hF1.1 49 1 rfl rfl
        first | (have z40 := p40; have nbx : nbF g (g p) (p + 2) = mnF g (p + 2) (xvv 102 r1.toNat) (xvv 103 r1.toNat) (xvv 104 r1.toNat) (xvv 105 r1.toNat) ∧ nbE g (g p) (p + 2) = mnE g (p + 2) (xvv 102 r1.toNat) := (by have z := nb_kind (g := g) (p := p + 2) r1.toNat (by omega); rw [show r1.toNat = (kd (g p)).toNat by omega] at z ⊢; rw [kd_s (by omega)] at z; exact z)) | skip
        first | (have z40 := p40; have nlx : nbL g (g p) (p + 2) = pnL g (p + 2) (xvv 102 r1.toNat) := (by have z := nl_kind (g := g) (p := p + 2) r1.toNat (by omega); rw [show r1.toNat = (kd (g p)).toNat by omega] at z ⊢; rw [kd_s (by omega)] at z; exact z); have sqf : SQ g p κ h m := lq.sq (hF1.cell 50 rfl (fun _ => rfl)) p40.2.2.2.2.2.2 p40.2.2.2.2.2.1 nlx (fun _ => z0)) | skip
        refine zW_aload_n (pc' := 44) dX6_readStage_1.1.2.1.2 rfl rfl ?_
        refine zG_int (pc' := 47) fg_X6_32 tb53 rfl dX6_readStage_1.1.2.2.1 rfl ?_
        have e44 := hF.rh 53 4
        refine zV_if_ne (tgt := 79) (pc' := 50) dX6_readStage_1.1.2.2.2 rfl rfl ⟨by omega, by omega⟩ (fun c47 => ?_) (fun c47 => ?_)
        · exact zV_vret rfl dX6_readStage_2.2.2 ⟨hF, by refine ⟨by omega, by omega, by omega, by omega, by omega, by omega, ?_⟩; first | exact sqf | exact (fun z => absurd z (by omega))⟩
        · have sf2 := sFc g (sgE g p) 59
          refine zW_aload_n (pc' := 51) dX6_readStage_1.2.1.1.1 rfl rfl ?_
          refine zG_int (pc' := 54) fg_X6_29 tb53 rfl dX6_readStage_1.2.1.1.2 rfl ?_
          have e51 := hF.rh 53 3
          refine zW_aload_n (pc' := 55) dX6_readStage_1.2.1.2.1 rfl rfl ?_
          refine zGm (pc' := 58) hF rfl rfl fg_X6_25 tb53 rfl dX6_readStage_1.2.1.2.2 rfl ?_
          have e55 : -2147483648 ≤ κ 53 2 ∧ κ 53 2 ≤ 2147483647 := by rw [← hF.1 53 2 rfl rfl]; exact hF.rh 53 2
          refine zV_cm_ge (tgt := 79) (pc' := 61) dX6_readStage_1.2.2.1.1 rfl rfl ⟨by omega, by omega⟩ ⟨by omega, by omega⟩ (fun c58 => ?_) (fun c58 => ?_)
          · exact zV_vret rfl dX6_readStage_2.2.2 ⟨hF, by refine ⟨by omega, by omega, by omega, by omega, by omega, by omega, ?_⟩; first | exact sqf | exact (fun z => absurd z (by omega))⟩
          · refine zW_aload_n (pc' := 62) dX6_readStage_1.2.2.1.2 rfl rfl ?_
            have y62_31_1 := hF.1 31 1 rfl rfl
            have y62_53_2 := hF.1 53 2 rfl rfl
            refine cvI0 (pc' := 65) kX6_here vX6_here lk_X6_56 ⟨Nat.le_of_ble_eq_true rfl, Nat.le_of_ble_eq_true rfl⟩ tb53 vq6 rfl rfl (s_X6_hereP (b := true) (κ := h) hF.2.2.2 (Fr.rf hF.2.1) g (sgE g p) (by rw [hF.cell 32 rfl (fun _ => rfl), hF.1 53 2 rfl rfl]; exact hg) (by omega) (by omega)) dX6_readStage_1.2.2.2.1 (Nat.le_of_ble_eq_true rfl) rfl ?_
            rintro r62 z62 ⟨hz62, p62⟩; subst z62
            refine zW_bipush (pc' := 67) dX6_readStage_1.2.2.2.2 rfl rfl ?_
            refine zV_cm_eq (tgt := 79) (pc' := 70) dX6_readStage_2.1.1.1 rfl rfl ⟨by omega, by omega⟩ ⟨by omega, by omega⟩ (fun c67 => ?_) (fun c67 => ?_)
            · exact zV_vret rfl dX6_readStage_2.2.2 ⟨hF, by refine ⟨by omega, by omega, by omega, by omega, by omega, by omega, ?_⟩; first | exact sqf | exact (fun z => absurd z (by omega))⟩
            · refine zW_aload_n (pc' := 71) dX6_readStage_2.1.1.2 rfl rfl ?_
              refine zW_iconst (pc' := 72) dX6_readStage_2.1.2.1 rfl ?_
              refine zW_aload_n (pc' := 73) dX6_readStage_2.1.2.2 rfl rfl ?_
              refine zG_int (pc' := 76) fg_X6_29 tb53 rfl dX6_readStage_2.2.1.1 rfl ?_
              have e73 := hF.rh 53 3
              refine cvV2 (pc' := 79) kX6_tell vX6_tell lk_X6_59 ⟨Nat.le_of_ble_eq_true rfl, Nat.le_of_ble_eq_true rfl⟩ tb53 vq6 rfl rfl (s_X6_tellP hF.2.1 hF.2.2.1 hF.2.2.2 _ ⟨by omega, by omega⟩ _ ⟨by omega, by omega⟩) dX6_readStage_2.2.1.2 (Nat.le_of_ble_eq_true rfl) rfl ?_
              rintro r76 h ⟨hF1, p76⟩; replace hF := hF.tr hF1 rfl
              have t76_53_3 := hF1.1 53 3 rfl rfl
              have t76_49_0 := hF1.1 49 0 rfl rfl
              have t76_49_1 := hF1.1 49 1 rfl rfl
              exact zV_vret rfl dX6_readStage_2.2.2 ⟨hF, by refine ⟨by omega, by omega, by omega, by omega, by omega, by omega, ?_⟩; first | exact sqf | exact (fun z => absurd z (by omega))⟩
    · refine zW_aload_n (pc' := 25) dX6_readStage_0.2.2.1.1 rfl rfl ?_
      have y25_31_1 := hF.1 31 1 rfl rfl
      have y25_53_2 := hF.1 53 2 rfl rfl
      refine cvV0 (pc' := 28) kX6_readPoints vX6_readPoints lk_X6_49 ⟨Nat.le_of_ble_eq_true rfl, Nat.le_of_ble_eq_true rfl⟩ tb53 vq6 rfl rfl (s_X6_readPointsQ hF.2.1 hF.2.2.1 hF.2.2.2 g (p + 2) (m + 1) (κ 51 (m + 1).toNat) (by rw [hF.cell 32 rfl (fun _ => rfl), hF.1 53 2 rfl rfl]; exact hg) (by omega) (by omega) (by omega) ⟨by omega, by omega, by omega⟩ (by first | exact ⟨e2x, by omega, by omega, by omega⟩ | (exfalso; omega))) dX6_readStage_0.2.2.1.2 (Nat.le_of_ble_eq_true rfl) rfl ?_
      rintro r25 h ⟨hF1, p25⟩; replace hF := hF.tr hF1 rfl
      have t25_49_0 := hF1.1 49 0 rfl rfl
      have t25_49_1 := hF1.1 49 1 rfl rfl
      have nbx : nbF g (g p) (p + 2) = cuF g 200 (p + 2) (-1) ∧ nbE g (g p) (p + 2) = cuE g 200 (p + 2) (-1) := by rw [(kd_t (g p)).mp (by omega)]; exact nb_116
      have nlx : nbL g (g p) (p + 2) = cuL g 200 (p + 2) (-1) := by rw [(kd_t (g p)).mp (by omega)]; exact nl_116
      have sqf : SQ g p κ h m := lq.sq (hF1.cell 50 rfl (fun _ => rfl)) p25.2.2.2.2.2.2 p25.2.2.2.2.2.1 nlx (fun _ => z0)
      refine zV_goto 43 dX6_readStage_0.2.2.2.1 rfl ?_
      first | (have z40 := p40; have nbx : nbF g (g p) (p + 2) = mnF g (p + 2) (xvv 102 r1.toNat) (xvv 103 r1.toNat) (xvv 104 r1.toNat) (xvv 105 r1.toNat) ∧ nbE g (g p) (p + 2) = mnE g (p + 2) (xvv 102 r1.toNat) := (by have z := nb_kind (g := g) (p := p + 2) r1.toNat (by omega); rw [show r1.toNat = (kd (g p)).toNat by omega] at z ⊢; rw [kd_s (by omega)] at z; exact z)) | skip
      first | (have z40 := p40; have nlx : nbL g (g p) (p + 2) = pnL g (p + 2) (xvv 102 r1.toNat) := (by have z := nl_kind (g := g) (p := p + 2) r1.toNat (by omega); rw [show r1.toNat = (kd (g p)).toNat by omega] at z ⊢; rw [kd_s (by omega)] at z; exact z); have sqf : SQ g p κ h m := lq.sq (hF1.cell 50 rfl (fun _ => rfl)) p40.2.2.2.2.2.2 p40.2.2.2.2.2.1 nlx (fun _ => z0)) | skip
      refine zW_aload_n (pc' := 44) dX6_readStage_1.1.2.1.2 rfl rfl ?_
      refine zG_int (pc' := 47) fg_X6_32 tb53 rfl dX6_readStage_1.1.2.2.1 rfl ?_
      have e44 := hF.rh 53 4
      refine zV_if_ne (tgt := 79) (pc' := 50) dX6_readStage_1.1.2.2.2 rfl rfl ⟨by omega, by omega⟩ (fun c47 => ?_) (fun c47 => ?_)
      · exact zV_vret rfl dX6_readStage_2.2.2 ⟨hF, by refine ⟨by omega, by omega, by omega, by omega, by omega, by omega, ?_⟩; first | exact sqf | exact (fun z => absurd z (by omega))⟩
      · have sf2 := sFc g (sgE g p) 59
        refine zW_aload_n (pc' := 51) dX6_readStage_1.2.1.1.1 rfl rfl ?_
        refine zG_int (pc' := 54) fg_X6_29 tb53 rfl dX6_readStage_1.2.1.1.2 rfl ?_
        have e51 := hF.rh 53 3
        refine zW_aload_n (pc' := 55) dX6_readStage_1.2.1.2.1 rfl rfl ?_
        refine zGm (pc' := 58) hF rfl rfl fg_X6_25 tb53 rfl dX6_readStage_1.2.1.2.2 rfl ?_
        have e55 : -2147483648 ≤ κ 53 2 ∧ κ 53 2 ≤ 2147483647 := by rw [← hF.1 53 2 rfl rfl]; exact hF.rh 53 2
        refine zV_cm_ge (tgt := 79) (pc' := 61) dX6_readStage_1.2.2.1.1 rfl rfl ⟨by omega, by omega⟩ ⟨by omega, by omega⟩ (fun c58 => ?_) (fun c58 => ?_)
        · exact zV_vret rfl dX6_readStage_2.2.2 ⟨hF, by refine ⟨by omega, by omega, by omega, by omega, by omega, by omega, ?_⟩; first | exact sqf | exact (fun z => absurd z (by omega))⟩
        · refine zW_aload_n (pc' := 62) dX6_readStage_1.2.2.1.2 rfl rfl ?_
          have y62_31_1 := hF.1 31 1 rfl rfl
          have y62_53_2 := hF.1 53 2 rfl rfl
          refine cvI0 (pc' := 65) kX6_here vX6_here lk_X6_56 ⟨Nat.le_of_ble_eq_true rfl, Nat.le_of_ble_eq_true rfl⟩ tb53 vq6 rfl rfl (s_X6_hereP (b := true) (κ := h) hF.2.2.2 (Fr.rf hF.2.1) g (sgE g p) (by rw [hF.cell 32 rfl (fun _ => rfl), hF.1 53 2 rfl rfl]; exact hg) (by omega) (by omega)) dX6_readStage_1.2.2.2.1 (Nat.le_of_ble_eq_true rfl) rfl ?_
          rintro r62 z62 ⟨hz62, p62⟩; subst z62
          refine zW_bipush (pc' := 67) dX6_readStage_1.2.2.2.2 rfl rfl ?_
          refine zV_cm_eq (tgt := 79) (pc' := 70) dX6_readStage_2.1.1.1 rfl rfl ⟨by omega, by omega⟩ ⟨by omega, by omega⟩ (fun c67 => ?_) (fun c67 => ?_)
          · exact zV_vret rfl dX6_readStage_2.2.2 ⟨hF, by refine ⟨by omega, by omega, by omega, by omega, by omega, by omega, ?_⟩; first | exact sqf | exact (fun z => absurd z (by omega))⟩
          · refine zW_aload_n (pc' := 71) dX6_readStage_2.1.1.2 rfl rfl ?_
            refine zW_iconst (pc' := 72) dX6_readStage_2.1.2.1 rfl ?_
            refine zW_aload_n (pc' := 73) dX6_readStage_2.1.2.2 rfl rfl ?_
            refine zG_int (pc' := 76) fg_X6_29 tb53 rfl dX6_readStage_2.2.1.1 rfl ?_
            have e73 := hF.rh 53 3
            refine cvV2 (pc' := 79) kX6_tell vX6_tell lk_X6_59 ⟨Nat.le_of_ble_eq_true rfl, Nat.le_of_ble_eq_true rfl⟩ tb53 vq6 rfl rfl (s_X6_tellP hF.2.1 hF.2.2.1 hF.2.2.2 _ ⟨by omega, by omega⟩ _ ⟨by omega, by omega⟩) dX6_readStage_2.2.1.2 (Nat.le_of_ble_eq_true rfl) rfl ?_
            rintro r76 h ⟨hF1, p76⟩; replace hF := hF.tr hF1 rfl
            have t76_53_3 := hF1.1 53 3 rfl rfl
            have t76_49_0 := hF1.1 49 0 rfl rfl
            have t76_49_1 := hF1.1 49 1 rfl rfl
            exact zV_vret rfl dX6_readStage_2.2.2 ⟨hF, by refine ⟨by omega, by omega, by omega, by omega, by omega, by omega, ?_⟩; first | exact sqf | exact (fun z => absurd z (by omega))⟩

abbrev q_X7_clearV49Q (κ : Hp)  : Int → Hp → Prop := fun r h' => Fm [(49, 0), (49, 1), (51, 999)] κ h' ∧ ((h' 49 0 = 0 ∧ h' 49 1 = 0 ∧ h' 51 1 = 0))
set_option maxHeartbeats 4000000 in
set_option maxRecDepth 20000 in
theorem s_X7_clearV49Q {G : Ga} {κ : Hp} (hS : SI κ) (hR : KR κ) (hC : KC κ)  : zM G mX7_clear yX7_clear [.inr (.inr 49)] κ (q_X7_clearV49Q κ) := by
  refine zM_of [some (.inr (.inr 49))] 0 rfl rfl (Nat.le_of_ble_eq_true rfl) rfl ?_
  refine (show ∀ h : Hp, Fm [(49, 0), (49, 1), (51, 999)] κ h → h = κ → zV G mX7_clear (q_X7_clearV49Q κ) 0 [some (.inr (.inr 49))] [] h from fun h hF hk0 => ?_) κ (Fm.rf hS hR hC) rfl
  refine zW_aload_n (pc' := 1) dX7_clear_0.1.1.1.1 rfl rfl ?_
  refine zW_iconst (pc' := 2) dX7_clear_0.1.1.1.2 rfl ?_
  refine zPm (pc' := 5) hF (Or.inl rfl) (SI_irr hF.2.1 (Or.inl rfl) (fun _ _ => ⟨by omega, by omega⟩)) (KR_irr hF.2.2.1 rfl) (KC_49_0 hF.2.2.2 (by omega)) fp_X7_21 tb49 rfl dX7_clear_0.1.1.2 rfl (fun h hF w2 => ?_)
  have t2_49_0 := congrFun (congrFun w2 49) 0
  rw [zwr_eq] at t2_49_0
  have t2_49_1 := congrFun (congrFun w2 49) 1
  rw [zwr_ne (Or.inr (by decide))] at t2_49_1
  refine zW_aload_n (pc' := 6) dX7_clear_0.1.2.1.1 rfl rfl ?_
  refine zW_iconst (pc' := 7) dX7_clear_0.1.2.1.2 rfl ?_
  refine zPm (pc' := 10) hF (Or.inl rfl) (SI_irr hF.2.1 (Or.inl rfl) (fun _ _ => ⟨by omega, by omega⟩)) (KR_irr hF.2.2.1 rfl) (KC_49_1 hF.2.2.2 (by omega)) fp_X7_25 tb49 rfl dX7_clear_0.1.2.2 rfl (fun h hF w7 => ?_)
  have t7_49_0 := congrFun (congrFun w7 49) 0
  rw [zwr_ne (Or.inr (by decide))] at t7_49_0
  have t7_49_1 := congrFun (congrFun w7 49) 1
  rw [zwr_eq] at t7_49_1
  refine zW_aload_n (pc' := 11) dX7_clear_0.2.1.1.1 rfl rfl ?_
  refine zG_ref (pc' := 14) 51 fg_X7_15 tb49 rfl dX7_clear_0.2.1.1.2 rfl ?_
  refine zW_iconst (pc' := 15) dX7_clear_0.2.1.2 rfl ?_
  refine zW_iconst (pc' := 16) dX7_clear_0.2.2.1.1 rfl ?_
  refine zSm (pc' := 17) hF rfl (fun v' hv he => ⟨(SI_irr hF.2.1 (Or.inl (key_of rfl _)) (fun _ _ => hv)), (KR_irr hF.2.2.1 rfl), (KC_c51 hF.2.2.2 (by have := he ⟨by omega, by omega⟩; omega))⟩) tb51 (by omega) dX7_clear_0.2.2.1.2 (by decide) rfl (fun h i16 hF a16 b16 w16 => ?_)
  have t16_49_0 := congrFun (congrFun w16 49) 0
  rw [zwr_ne (Or.inl (by decide))] at t16_49_0
  have t16_49_1 := congrFun (congrFun w16 49) 1
  rw [zwr_ne (Or.inl (by decide))] at t16_49_1
  exact zV_vret rfl dX7_clear_0.2.2.2 ⟨hF, by refine ⟨by omega, by omega, ?_⟩; rw [w16]; show zwr _ 51 1 _ 51 1 = 0; rw [zwr_eq]; exact b16 ⟨by omega, by omega⟩⟩

abbrev q_X6_readQ (κ : Hp) (x1 : Int) (g : Int → Int) : Int → Hp → Prop := fun r h' => Fm [(53, 2), (53, 3), (53, 4), (49, 0), (49, 1), (50, 999), (51, 999), (52, 999)] κ h' ∧ ((-2147483648 ≤ r) ∧ (r ≤ 2147483647) ∧ (r = rdF g x1 ∧ (0 ≤ r → h' 49 0 = r ∧ h' 49 1 = rdA g x1) ∧ ARCI r g h'))
set_option maxHeartbeats 4000000 in
set_option maxRecDepth 20000 in
theorem s_X6_readQ {G : Ga} {κ : Hp} (hS : SI κ) (hR : KR κ) (hC : KC κ) (x1 : Int) (hx1 : 0 ≤ x1 ∧ x1 ≤ 120) (g : Int → Int) (hg : hr (κ 32) x1 = g) (hb : ∀ q : Int, -1 ≤ g q ∧ g q ≤ 255) (hn : x1 ≤ κ 31 1) (hX : XI G) : zM G mX6_read yX6_read [.inr (.inr 53), .inl x1] κ (q_X6_readQ κ x1 g) := by
  have f_31_1 := KCt hC
  have f_41_0 := KCm hC
  have f_45_0 := KCr0 hC
  have f_49_0 := KCd0 hC
  have main : ∀ N : Nat, (∀ (v2 v3 : Int) (h : Hp), Fm [(53, 2), (53, 3), (53, 4), (49, 0), (49, 1), (50, 999), (51, 999), (52, 999)] κ h → (0 ≤ v2 ∧ v2 ≤ 1) → (0 ≤ v3 ∧ v3 ≤ 13) → (h 53 2 = x1 ∧ h 53 4 ≤ 0 ∧ 0 ≤ h 53 3 ∧ h 53 3 ≤ 121) → (v2 = 1 → h 53 4 = 0 ∧ h 49 0 = v3 ∧ h 53 3 ≤ x1) → (v2 = 1 → AlI g x1 (h 53 3) (h 49 0) (h 49 1)) → (v2 = 0 → (h 53 4 ≠ 0 → h 53 4 = rdF g x1) ∧ (h 53 4 = 0 → h 49 0 = rdF g x1 ∧ h 49 1 = rdA g x1)) → (RDI v2 g v3 h) → (RDE v2 g h) → 22230 + 39 * (13 - v3) + 38 < (N : Int) → zV G mX6_read (q_X6_readQ κ x1 g) 34 [some (.inr (.inr 53)), some (.inl x1), some (.inl v2), some (.inl v3)] [] h) := by
    intro N
    induction N with
    | zero =>
      intro v2 v3 h hF g0 g1 gc0 gc1 gc2 gc3 gc4 gc5 hm
      exfalso; omega
    | succ N ih =>
      have k34 := ih
      intro v2 v3 h hF g0 g1 gc0 gc1 gc2 gc3 gc4 gc5 hm
      have b49 := KCd0 hF.2.2.2
      refine zW_iload_n (pc' := 35) dX6_read_1.1.2.1.1 rfl rfl ?_
      refine zV_if_eq (tgt := 88) (pc' := 38) dX6_read_1.1.2.1.2 rfl rfl ⟨by omega, by omega⟩ (fun c35 => ?_) (fun c35 => ?_)
      · refine zW_aload_n (pc' := 89) dX6_read_2.2.2.2.2 rfl rfl ?_
        refine zG_int (pc' := 92) fg_X6_32 tb53 rfl dX6_read_3.1.1.1.1 rfl ?_
        have e89 := hF.rh 53 4
        refine zV_if_ne (tgt := 105) (pc' := 95) dX6_read_3.1.1.1.2 rfl rfl ⟨by omega, by omega⟩ (fun c92 => ?_) (fun c92 => ?_)
        · refine zW_aload_n (pc' := 106) dX6_read_3.2.1.2 rfl rfl ?_
          refine zG_int (pc' := 109) fg_X6_32 tb53 rfl dX6_read_3.2.2.1 rfl ?_
          have e106 := hF.rh 53 4
          exact zV_iret rfl dX6_read_3.2.2.2 ⟨hF, by refine ⟨by omega, by omega, by omega, by omega, ?_⟩; first | exact (fun _ => gc5 (by omega) (by omega)) | exact (fun z => absurd z (by omega))⟩
        · refine zW_aload_n (pc' := 96) dX6_read_3.1.1.2 rfl rfl ?_
          refine zG_ref (pc' := 99) 49 fg_X6_12 tb53 rfl dX6_read_3.1.2.1 rfl ?_
          refine zG_int (pc' := 102) fg_X6_38 tb49 rfl dX6_read_3.1.2.2 rfl ?_
          have e99 := KCd0 hF.2.2.2
          refine zV_goto 109 dX6_read_3.2.1.1 rfl ?_
          exact zV_iret rfl dX6_read_3.2.2.2 ⟨hF, by refine ⟨by omega, by omega, by omega, by omega, ?_⟩; first | exact (fun _ => gc5 (by omega) (by omega)) | exact (fun z => absurd z (by omega))⟩
      · refine zW_iload_n (pc' := 39) dX6_read_1.1.2.2.1 rfl rfl ?_
        refine zW_bipush (pc' := 41) dX6_read_1.1.2.2.2 rfl rfl ?_
        refine zV_cm_gt (tgt := 88) (pc' := 44) dX6_read_1.2.1.1.1 rfl rfl ⟨by omega, by omega⟩ ⟨by omega, by omega⟩ (fun c41 => ?_) (fun c41 => ?_)
        · refine zW_aload_n (pc' := 89) dX6_read_2.2.2.2.2 rfl rfl ?_
          refine zG_int (pc' := 92) fg_X6_32 tb53 rfl dX6_read_3.1.1.1.1 rfl ?_
          have e89 := hF.rh 53 4
          refine zV_if_ne (tgt := 105) (pc' := 95) dX6_read_3.1.1.1.2 rfl rfl ⟨by omega, by omega⟩ (fun c92 => ?_) (fun c92 => ?_)
          · refine zW_aload_n (pc' := 106) dX6_read_3.2.1.2 rfl rfl ?_
            refine zG_int (pc' := 109) fg_X6_32 tb53 rfl dX6_read_3.2.2.1 rfl ?_
            have e106 := hF.rh 53 4
            exact zV_iret rfl dX6_read_3.2.2.2 ⟨hF, by refine ⟨by omega, by omega, by omega, by omega, ?_⟩; first | exact (fun _ => gc5 (by omega) (by omega)) | exact (fun z => absurd z (by omega))⟩
          · refine zW_aload_n (pc' := 96) dX6_read_3.1.1.2 rfl rfl ?_
            refine zG_ref (pc' := 99) 49 fg_X6_12 tb53 rfl dX6_read_3.1.2.1 rfl ?_
            refine zG_int (pc' := 102) fg_X6_38 tb49 rfl dX6_read_3.1.2.2 rfl ?_
            have e99 := KCd0 hF.2.2.2
            refine zV_goto 109 dX6_read_3.2.1.1 rfl ?_
            exact zV_iret rfl dX6_read_3.2.2.2 ⟨hF, by refine ⟨by omega, by omega, by omega, by omega, ?_⟩; first | exact (fun _ => gc5 (by omega) (by omega)) | exact (fun z => absurd z (by omega))⟩
        · obtain ⟨q, eq⟩ : ∃ q : Int, q = h 53 3 := ⟨_, rfl⟩
          obtain ⟨m, em⟩ : ∃ m : Int, m = h 49 0 := ⟨_, rfl⟩
          obtain ⟨f, ef⟩ : ∃ f : Int, f = h 49 1 := ⟨_, rfl⟩
          have al := gc2 (by omega)
          rw [← eq, ← em, ← ef] at al
          have go := al.go (by omega)
          have l2 : h 53 2 = x1 := gc0.1
          obtain ⟨arc, qe, q51⟩ := gc4 (by omega)
          refine zW_aload_n (pc' := 45) dX6_read_1.2.1.1.2 rfl rfl ?_
          have y45_31_1 := hF.1 31 1 rfl rfl
          refine cvV0 (pc' := 48) kX6_readStage vX6_readStage lk_X6_35 ⟨Nat.le_of_ble_eq_true rfl, Nat.le_of_ble_eq_true rfl⟩ tb53 vq6 rfl rfl (s_X6_readStageQ hF.2.1 hF.2.2.1 hF.2.2.2 g q v3 (by rw [hF.cell 32 rfl (fun _ => rfl), gc0.1]; exact hg) (by omega) hb (by omega) (by omega) hX ⟨by omega, by omega, by omega⟩ ⟨q51, by have := arc.2.2.1; omega⟩) dX6_read_1.2.1.2.1 (Nat.le_of_ble_eq_true rfl) rfl ?_
          rintro r45 h ⟨hF1, p45⟩; replace hF := hF.tr hF1 rfl
          have t45_53_2 := hF1.1 53 2 rfl rfl
          have sqs := p45.2.2.2.2.2.2
          rw [← em, ← ef, l2] at p45
          have mv : m = v3 := by omega
          have qx : q ≤ x1 := by omega
          have ra : h 53 4 ≠ 0 → h 53 4 = rdF g x1 := fun z => by by_cases c : sgF g q m f = 0; (have a := p45.2.1 c; have l : sgE g q < x1 := (by have := a.2.2.1; omega); have b := a.2.1 l; rw [b]; exact (go.2.2.1 c l (fun y => z (b.trans y))).symm); (rw [p45.1 c]; exact (go.1 c).symm)
          have rb : h 53 4 = 0 → sgF g q m f = 0 ∧ h 53 3 = sgE g q ∧ q + 2 ≤ h 53 3 := fun z => by by_cases c : sgF g q m f = 0; (have a := p45.2.1 c; exact ⟨c, a.1, a.2.2.2⟩); (exact absurd ((p45.1 c).symm.trans z) c)
          have rc := p45.2.2.1
          have rd : h 53 4 = 0 → ¬ h 53 3 < x1 → h 49 0 = rdF g x1 ∧ h 49 1 = rdA g x1 := fun z y => by have a := rb z; have b := go.2.1 a.1 (by omega); have c := rc z; exact ⟨c.1.trans b.1.symm, c.2.trans b.2.symm⟩
          have re : h 53 4 = 0 → h 53 3 < x1 → AlI g x1 (h 53 3 + 1) (h 49 0) (h 49 1) := fun z y => by have a := rb z; have c := rc z; have d := (p45.2.1 a.1).2.1 (by omega); rw [c.1, c.2, a.2.1]; exact go.2.2.2 a.1 (by omega) (d.symm.trans z) (by omega)
          have r9 : h 53 4 = 0 → h 49 0 = v3 + 1 := fun z => by have c := rc z; omega
          have mm := And.intro p45.2.2.2.1 (And.intro p45.2.2.2.2.1 p45.2.2.2.2.2.1)
          have arc1 : AF h (ARC g (v3 + 1) h) := fun z => ARC.push (p := q) (by omega) arc (eq.trans qe) (sqs z)
          have qn : AF h (h 53 3 = sgE g q) := fun z => (rb z).2.1
          have len1 : AF h (2 * h 51 (v3 + 1 + 1).toNat ≤ h 53 3) := fun z => by have a := rb z; have b := (sqs z).2.2.2.1; have c := nb_l (g := g) (c := g q) (p := q + 2) (by omega) (lFz (sq_0l (sq_0l a.1)) (by omega)) (sq_0r a.1); have d : sgE g q = nbE g (g q) (q + 2) := rfl; omega
          clear sqs
          clear p45 go al gc1 gc2 gc3 rb rc
          refine zW_aload_n (pc' := 49) dX6_read_1.2.1.2.2 rfl rfl ?_
          refine zG_int (pc' := 52) fg_X6_32 tb53 rfl dX6_read_1.2.2.1.1 rfl ?_
          have e49 := hF.rh 53 4
          refine zV_if_ne (tgt := 70) (pc' := 55) dX6_read_1.2.2.1.2 rfl rfl ⟨by omega, by omega⟩ (fun c52 => ?_) (fun c52 => ?_)
          · refine zW_iconst (pc' := 71) dX6_read_2.1.2.1.2 rfl ?_
            refine zW_istore_n (ls' := [_, _, _, _]) (pc' := 72) dX6_read_2.1.2.2.1 (by decide) rfl rfl rfl ?_
            refine zW_aload_n (pc' := 73) dX6_read_2.1.2.2.2 rfl rfl ?_
            refine zW_dup (pc' := 74) dX6_read_2.2.1.1.1 rfl rfl ?_
            refine zG_int (pc' := 77) fg_X6_29 tb53 rfl dX6_read_2.2.1.1.2 rfl ?_
            have e74 := hF.rh 53 3
            refine zW_iconst (pc' := 78) dX6_read_2.2.1.2.1 rfl ?_
            refine zW_iadd (pc' := 79) dX6_read_2.2.1.2.2 rfl ?_
            refine zPm (pc' := 82) hF (Or.inl rfl) (SI_irr hF.2.1 (Or.inl rfl) (fun _ _ => ⟨by omega, by omega⟩)) (KR_irr hF.2.2.1 rfl) (KC_irr hF.2.2.2 rfl) fp_X6_29 tb53 rfl dX6_read_2.2.2.1.1 rfl (fun h hF w79 => ?_)
            have t79_53_2 := congrFun (congrFun w79 53) 2
            rw [zwr_ne (Or.inr (by decide))] at t79_53_2
            have t79_53_3 := congrFun (congrFun w79 53) 3
            rw [zwr_eq] at t79_53_3
            have t79_53_4 := congrFun (congrFun w79 53) 4
            rw [zwr_ne (Or.inr (by decide))] at t79_53_4
            have t79_49_0 := congrFun (congrFun w79 49) 0
            rw [zwr_ne (Or.inl (by decide))] at t79_49_0
            have t79_49_1 := congrFun (congrFun w79 49) 1
            rw [zwr_ne (Or.inl (by decide))] at t79_49_1
            refine zW_iinc (ls' := [_, _, _, _]) (pc' := 85) dX6_read_2.2.2.1.2 rfl (by decide) rfl rfl rfl ?_
            refine zV_goto 34 dX6_read_2.2.2.2.1 rfl ?_
            exact k34 _ _ _ hF (by omega) (by omega) (by omega) (by omega) (by first | (intro z; exfalso; omega) | (intro z; rw [show h 53 3 = 0 by omega, show h 49 0 = 0 by omega, show h 49 1 = 0 by omega]; exact AlI.rf (by omega)) | (intro z; rw [t79_53_3, t79_49_0, t79_49_1]; exact re (by omega) (by omega))) (by first | omega | (intro z; have e0 : x1 = 0 := (by omega); have z1 : rdF g x1 = 0 := (if_pos e0); have z2 : rdA g x1 = 0 := (if_pos e0); omega)) (by first | exact (fun z => absurd z (by decide)) | exact RDI.z z51 (by omega) | exact RDI.nx (by omega) (arc1 (by omega)) (qn (by omega)) (eq.trans qe) (len1 (by omega)) w79) (by first | exact (fun z => absurd z (by decide)) | exact RDE.z z51 (by omega) | exact RDE.nx arc1 r9 w79) (by omega)
          · refine zW_aload_n (pc' := 56) dX6_read_1.2.2.2.1 rfl rfl ?_
            refine zG_int (pc' := 59) fg_X6_29 tb53 rfl dX6_read_1.2.2.2.2 rfl ?_
            have e56 := hF.rh 53 3
            refine zW_aload_n (pc' := 60) dX6_read_2.1.1.1.1 rfl rfl ?_
            refine zG_int (pc' := 63) fg_X6_25 tb53 rfl dX6_read_2.1.1.1.2 rfl ?_
            have e60 := hF.rh 53 2
            refine zV_cm_ge (tgt := 70) (pc' := 66) dX6_read_2.1.1.2.1 rfl rfl ⟨by omega, by omega⟩ ⟨by omega, by omega⟩ (fun c63 => ?_) (fun c63 => ?_)
            · refine zW_iconst (pc' := 71) dX6_read_2.1.2.1.2 rfl ?_
              refine zW_istore_n (ls' := [_, _, _, _]) (pc' := 72) dX6_read_2.1.2.2.1 (by decide) rfl rfl rfl ?_
              refine zW_aload_n (pc' := 73) dX6_read_2.1.2.2.2 rfl rfl ?_
              refine zW_dup (pc' := 74) dX6_read_2.2.1.1.1 rfl rfl ?_
              refine zG_int (pc' := 77) fg_X6_29 tb53 rfl dX6_read_2.2.1.1.2 rfl ?_
              have e74 := hF.rh 53 3
              refine zW_iconst (pc' := 78) dX6_read_2.2.1.2.1 rfl ?_
              refine zW_iadd (pc' := 79) dX6_read_2.2.1.2.2 rfl ?_
              refine zPm (pc' := 82) hF (Or.inl rfl) (SI_irr hF.2.1 (Or.inl rfl) (fun _ _ => ⟨by omega, by omega⟩)) (KR_irr hF.2.2.1 rfl) (KC_irr hF.2.2.2 rfl) fp_X6_29 tb53 rfl dX6_read_2.2.2.1.1 rfl (fun h hF w79 => ?_)
              have t79_53_2 := congrFun (congrFun w79 53) 2
              rw [zwr_ne (Or.inr (by decide))] at t79_53_2
              have t79_53_3 := congrFun (congrFun w79 53) 3
              rw [zwr_eq] at t79_53_3
              have t79_53_4 := congrFun (congrFun w79 53) 4
              rw [zwr_ne (Or.inr (by decide))] at t79_53_4
              have t79_49_0 := congrFun (congrFun w79 49) 0
              rw [zwr_ne (Or.inl (by decide))] at t79_49_0
              have t79_49_1 := congrFun (congrFun w79 49) 1
              rw [zwr_ne (Or.inl (by decide))] at t79_49_1
              refine zW_iinc (ls' := [_, _, _, _]) (pc' := 85) dX6_read_2.2.2.1.2 rfl (by decide) rfl rfl rfl ?_
              refine zV_goto 34 dX6_read_2.2.2.2.1 rfl ?_
              exact k34 _ _ _ hF (by omega) (by omega) (by omega) (by omega) (by first | (intro z; exfalso; omega) | (intro z; rw [show h 53 3 = 0 by omega, show h 49 0 = 0 by omega, show h 49 1 = 0 by omega]; exact AlI.rf (by omega)) | (intro z; rw [t79_53_3, t79_49_0, t79_49_1]; exact re (by omega) (by omega))) (by first | omega | (intro z; have e0 : x1 = 0 := (by omega); have z1 : rdF g x1 = 0 := (if_pos e0); have z2 : rdA g x1 = 0 := (if_pos e0); omega)) (by first | exact (fun z => absurd z (by decide)) | exact RDI.z z51 (by omega) | exact RDI.nx (by omega) (arc1 (by omega)) (qn (by omega)) (eq.trans qe) (len1 (by omega)) w79) (by first | exact (fun z => absurd z (by decide)) | exact RDE.z z51 (by omega) | exact RDE.nx arc1 r9 w79) (by omega)
            · refine zW_iconst (pc' := 67) dX6_read_2.1.1.2.2 rfl ?_
              refine zV_goto 71 dX6_read_2.1.2.1.1 rfl ?_
              refine zW_istore_n (ls' := [_, _, _, _]) (pc' := 72) dX6_read_2.1.2.2.1 (by decide) rfl rfl rfl ?_
              refine zW_aload_n (pc' := 73) dX6_read_2.1.2.2.2 rfl rfl ?_
              refine zW_dup (pc' := 74) dX6_read_2.2.1.1.1 rfl rfl ?_
              refine zG_int (pc' := 77) fg_X6_29 tb53 rfl dX6_read_2.2.1.1.2 rfl ?_
              have e74 := hF.rh 53 3
              refine zW_iconst (pc' := 78) dX6_read_2.2.1.2.1 rfl ?_
              refine zW_iadd (pc' := 79) dX6_read_2.2.1.2.2 rfl ?_
              refine zPm (pc' := 82) hF (Or.inl rfl) (SI_irr hF.2.1 (Or.inl rfl) (fun _ _ => ⟨by omega, by omega⟩)) (KR_irr hF.2.2.1 rfl) (KC_irr hF.2.2.2 rfl) fp_X6_29 tb53 rfl dX6_read_2.2.2.1.1 rfl (fun h hF w79 => ?_)
              have t79_53_2 := congrFun (congrFun w79 53) 2
              rw [zwr_ne (Or.inr (by decide))] at t79_53_2
              have t79_53_3 := congrFun (congrFun w79 53) 3
              rw [zwr_eq] at t79_53_3
              have t79_53_4 := congrFun (congrFun w79 53) 4
              rw [zwr_ne (Or.inr (by decide))] at t79_53_4
              have t79_49_0 := congrFun (congrFun w79 49) 0
              rw [zwr_ne (Or.inl (by decide))] at t79_49_0
              have t79_49_1 := congrFun (congrFun w79 49) 1
              rw [zwr_ne (Or.inl (by decide))] at t79_49_1
              refine zW_iinc (ls' := [_, _, _, _]) (pc' := 85) dX6_read_2.2.2.1.2 rfl (by decide) rfl rfl rfl ?_
              refine zV_goto 34 dX6_read_2.2.2.2.1 rfl ?_
              exact k34 _ _ _ hF (by omega) (by omega) (by omega) (by omega) (by first | (intro z; exfalso; omega) | (intro z; rw [show h 53 3 = 0 by omega, show h 49 0 = 0 by omega, show h 49 1 = 0 by omega]; exact AlI.rf (by omega)) | (intro z; rw [t79_53_3, t79_49_0, t79_49_1]; exact re (by omega) (by omega))) (by first | omega | (intro z; have e0 : x1 = 0 := (by omega); have z1 : rdF g x1 = 0 := (if_pos e0); have z2 : rdA g x1 = 0 := (if_pos e0); omega)) (by first | exact (fun z => absurd z (by decide)) | exact RDI.z z51 (by omega) | exact RDI.nx (by omega) (arc1 (by omega)) (qn (by omega)) (eq.trans qe) (len1 (by omega)) w79) (by first | exact (fun z => absurd z (by decide)) | exact RDE.z z51 (by omega) | exact RDE.nx arc1 r9 w79) (by omega)
  refine zM_of [some (.inr (.inr 53)), some (.inl x1), none, none] 2 rfl rfl (Nat.le_of_ble_eq_true rfl) rfl ?_
  refine (show ∀ h : Hp, Fm [(53, 2), (53, 3), (53, 4), (49, 0), (49, 1), (50, 999), (51, 999), (52, 999)] κ h → h = κ → zV G mX6_read (q_X6_readQ κ x1 g) 0 [some (.inr (.inr 53)), some (.inl x1), none, none] [] h from fun h hF hk0 => ?_) κ (Fm.rf hS hR hC) rfl
  refine zW_aload_n (pc' := 1) dX6_read_0.1.1.1.1 rfl rfl ?_
  refine zG_ref (pc' := 4) 49 fg_X6_12 tb53 rfl dX6_read_0.1.1.1.2 rfl ?_
  refine cvV0 (pc' := 7) kX7_clear vX7_clear lk_X6_22 ⟨Nat.le_of_ble_eq_true rfl, Nat.le_of_ble_eq_true rfl⟩ tb49 vq7 rfl rfl (s_X7_clearV49Q hF.2.1 hF.2.2.1 hF.2.2.2) dX6_read_0.1.1.2.1 (Nat.le_of_ble_eq_true rfl) rfl ?_
  rintro r4 h ⟨hF1, p4⟩; replace hF := hF.tr hF1 rfl
  have t4_53_2 := hF1.1 53 2 rfl rfl
  have t4_53_3 := hF1.1 53 3 rfl rfl
  have t4_53_4 := hF1.1 53 4 rfl rfl
  refine zW_aload_n (pc' := 8) dX6_read_0.1.1.2.2 rfl rfl ?_
  refine zW_iload_n (pc' := 9) dX6_read_0.1.2.1.1 rfl rfl ?_
  refine zPm (pc' := 12) hF (Or.inl rfl) (SI_irr hF.2.1 (Or.inl rfl) (fun _ _ => ⟨by omega, by omega⟩)) (KR_irr hF.2.2.1 rfl) (KC_irr hF.2.2.2 rfl) fp_X6_25 tb53 rfl dX6_read_0.1.2.1.2 rfl (fun h hF w9 => ?_)
  have t9_53_2 := congrFun (congrFun w9 53) 2
  rw [zwr_eq] at t9_53_2
  have t9_53_3 := congrFun (congrFun w9 53) 3
  rw [zwr_ne (Or.inr (by decide))] at t9_53_3
  have t9_53_4 := congrFun (congrFun w9 53) 4
  rw [zwr_ne (Or.inr (by decide))] at t9_53_4
  have t9_49_0 := congrFun (congrFun w9 49) 0
  rw [zwr_ne (Or.inl (by decide))] at t9_49_0
  have t9_49_1 := congrFun (congrFun w9 49) 1
  rw [zwr_ne (Or.inl (by decide))] at t9_49_1
  refine zW_aload_n (pc' := 13) dX6_read_0.1.2.2.1 rfl rfl ?_
  refine zW_iconst (pc' := 14) dX6_read_0.1.2.2.2 rfl ?_
  refine zPm (pc' := 17) hF (Or.inl rfl) (SI_irr hF.2.1 (Or.inl rfl) (fun _ _ => ⟨by omega, by omega⟩)) (KR_irr hF.2.2.1 rfl) (KC_irr hF.2.2.2 rfl) fp_X6_29 tb53 rfl dX6_read_0.2.1.1.1 rfl (fun h hF w14 => ?_)
  have t14_53_2 := congrFun (congrFun w14 53) 2
  rw [zwr_ne (Or.inr (by decide))] at t14_53_2
  have t14_53_3 := congrFun (congrFun w14 53) 3
  rw [zwr_eq] at t14_53_3
  have t14_53_4 := congrFun (congrFun w14 53) 4
  rw [zwr_ne (Or.inr (by decide))] at t14_53_4
  have t14_49_0 := congrFun (congrFun w14 49) 0
  rw [zwr_ne (Or.inl (by decide))] at t14_49_0
  have t14_49_1 := congrFun (congrFun w14 49) 1
  rw [zwr_ne (Or.inl (by decide))] at t14_49_1
  refine zW_aload_n (pc' := 18) dX6_read_0.2.1.1.2 rfl rfl ?_
  refine zW_iconst (pc' := 19) dX6_read_0.2.1.2.1 rfl ?_
  refine zPm (pc' := 22) hF (Or.inl rfl) (SI_irr hF.2.1 (Or.inl rfl) (fun _ _ => ⟨by omega, by omega⟩)) (KR_irr hF.2.2.1 rfl) (KC_irr hF.2.2.2 rfl) fp_X6_32 tb53 rfl dX6_read_0.2.1.2.2 rfl (fun h hF w19 => ?_)
  have t19_53_2 := congrFun (congrFun w19 53) 2
  rw [zwr_ne (Or.inr (by decide))] at t19_53_2
  have t19_53_3 := congrFun (congrFun w19 53) 3
  rw [zwr_ne (Or.inr (by decide))] at t19_53_3
  have t19_53_4 := congrFun (congrFun w19 53) 4
  rw [zwr_eq] at t19_53_4
  have t19_49_0 := congrFun (congrFun w19 49) 0
  rw [zwr_ne (Or.inl (by decide))] at t19_49_0
  have t19_49_1 := congrFun (congrFun w19 49) 1
  rw [zwr_ne (Or.inl (by decide))] at t19_49_1
  have z51 : h 51 1 = 0 := by rw [w19, zwr_ne (Or.inl (by decide)), w14, zwr_ne (Or.inl (by decide)), w9, zwr_ne (Or.inl (by decide))]; exact p4.2.2
  refine zW_iload_n (pc' := 23) dX6_read_0.2.2.1.1 rfl rfl ?_
  refine zV_if_le (tgt := 30) (pc' := 26) dX6_read_0.2.2.1.2 rfl rfl ⟨by omega, by omega⟩ (fun c23 => ?_) (fun c23 => ?_)
  · refine zW_iconst (pc' := 31) dX6_read_1.1.1.1.1 rfl ?_
    refine zW_istore_n (ls' := [_, _, _, _]) (pc' := 32) dX6_read_1.1.1.1.2 (by decide) rfl rfl rfl ?_
    refine zW_iconst (pc' := 33) dX6_read_1.1.1.2.1 rfl ?_
    refine zW_istore_n (ls' := [_, _, _, _]) (pc' := 34) dX6_read_1.1.1.2.2 (by decide) rfl rfl rfl ?_
    exact (main 10000000000000000000000000000000000000000) _ _ _ hF (by omega) (by omega) (by omega) (by omega) (by first | (intro z; exfalso; omega) | (intro z; rw [show h 53 3 = 0 by omega, show h 49 0 = 0 by omega, show h 49 1 = 0 by omega]; exact AlI.rf (by omega)) | (intro z; rw [t79_53_3, t79_49_0, t79_49_1]; exact re (by omega) (by omega))) (by first | omega | (intro z; have e0 : x1 = 0 := (by omega); have z1 : rdF g x1 = 0 := (if_pos e0); have z2 : rdA g x1 = 0 := (if_pos e0); omega)) (by first | exact (fun z => absurd z (by decide)) | exact RDI.z z51 (by omega) | exact RDI.nx (by omega) (arc1 (by omega)) (qn (by omega)) (eq.trans qe) (len1 (by omega)) w79) (by first | exact (fun z => absurd z (by decide)) | exact RDE.z z51 (by omega) | exact RDE.nx arc1 r9 w79) (by omega)
  · refine zW_iconst (pc' := 27) dX6_read_0.2.2.2.1 rfl ?_
    refine zV_goto 31 dX6_read_0.2.2.2.2 rfl ?_
    refine zW_istore_n (ls' := [_, _, _, _]) (pc' := 32) dX6_read_1.1.1.1.2 (by decide) rfl rfl rfl ?_
    refine zW_iconst (pc' := 33) dX6_read_1.1.1.2.1 rfl ?_
    refine zW_istore_n (ls' := [_, _, _, _]) (pc' := 34) dX6_read_1.1.1.2.2 (by decide) rfl rfl rfl ?_
    exact (main 10000000000000000000000000000000000000000) _ _ _ hF (by omega) (by omega) (by omega) (by omega) (by first | (intro z; exfalso; omega) | (intro z; rw [show h 53 3 = 0 by omega, show h 49 0 = 0 by omega, show h 49 1 = 0 by omega]; exact AlI.rf (by omega)) | (intro z; rw [t79_53_3, t79_49_0, t79_49_1]; exact re (by omega) (by omega))) (by first | omega | (intro z; have e0 : x1 = 0 := (by omega); have z1 : rdF g x1 = 0 := (if_pos e0); have z2 : rdA g x1 = 0 := (if_pos e0); omega)) (by first | exact (fun z => absurd z (by decide)) | exact RDI.z z51 (by omega) | exact RDI.nx (by omega) (arc1 (by omega)) (qn (by omega)) (eq.trans qe) (len1 (by omega)) w79) (by first | exact (fun z => absurd z (by decide)) | exact RDE.z z51 (by omega) | exact RDE.nx arc1 r9 w79) (by omega)

abbrev q_X7_copyFromV41_49Q (κ : Hp)  : Int → Hp → Prop := fun r h' => Fm [(41, 0), (41, 1), (42, 999), (43, 999), (44, 999)] κ h' ∧ ((h' 41 0 = κ 49 0 ∧ h' 41 1 = κ 49 1) ∧ (∀ j : Nat, j < 14 → h' 42 j = κ 50 j ∧ h' 43 j = κ 51 j) ∧ (∀ j : Nat, j < 64 → h' 44 j = κ 52 j))
set_option maxHeartbeats 4000000 in
set_option maxRecDepth 20000 in
theorem s_X7_copyFromV41_49Q {G : Ga} {κ : Hp} (hS : SI κ) (hR : KR κ) (hC : KC κ)  : zM G mX7_copyFrom yX7_copyFrom [.inr (.inr 41), .inr (.inr 49)] κ (q_X7_copyFromV41_49Q κ) := by
  have f_41_0 := KCm hC
  have f_41_1 := KCf hC
  have f_45_0 := KCr0 hC
  have f_45_1 := KCr1 hC
  have f_49_0 := KCd0 hC
  have f_49_1 := KCd1 hC
  refine zM_of [some (.inr (.inr 41)), some (.inr (.inr 49))] 0 rfl rfl (Nat.le_of_ble_eq_true rfl) rfl ?_
  refine (show ∀ h : Hp, Fm [(41, 0), (41, 1), (42, 999), (43, 999), (44, 999)] κ h → h = κ → zV G mX7_copyFrom (q_X7_copyFromV41_49Q κ) 0 [some (.inr (.inr 41)), some (.inr (.inr 49))] [] h from fun h hF hk0 => ?_) κ (Fm.rf hS hR hC) rfl
  have a0_42 := fun j : Nat => congrFun (congrFun hk0 42) j
  have a0_43 := fun j : Nat => congrFun (congrFun hk0 43) j
  have a0_44 := fun j : Nat => congrFun (congrFun hk0 44) j
  have a0_50 := fun j : Nat => congrFun (congrFun hk0 50) j
  have a0_51 := fun j : Nat => congrFun (congrFun hk0 51) j
  have a0_52 := fun j : Nat => congrFun (congrFun hk0 52) j
  refine zW_aload_n (pc' := 1) dX7_copyFrom_0.1.1.1.1 rfl rfl ?_
  refine zW_aload_n (pc' := 2) dX7_copyFrom_0.1.1.1.2 rfl rfl ?_
  refine zGm (pc' := 5) hF rfl rfl fg_X7_21 tb49 rfl dX7_copyFrom_0.1.1.2.1 rfl ?_
  refine zPm (pc' := 8) hF (Or.inl rfl) (SI_irr hF.2.1 (Or.inl rfl) (fun _ _ => ⟨by omega, by omega⟩)) (KR_irr hF.2.2.1 rfl) (KC_41_0 hF.2.2.2 (by omega)) fp_X7_21 tb41 rfl dX7_copyFrom_0.1.1.2.2 rfl (fun h hF w5 => ?_)
  have a5_42 := fun j : Nat => (congrFun (congrFun w5 42) j).trans (zwr_ne (Or.inl (by decide)))
  have a5_43 := fun j : Nat => (congrFun (congrFun w5 43) j).trans (zwr_ne (Or.inl (by decide)))
  have a5_44 := fun j : Nat => (congrFun (congrFun w5 44) j).trans (zwr_ne (Or.inl (by decide)))
  have a5_50 := fun j : Nat => (congrFun (congrFun w5 50) j).trans (zwr_ne (Or.inl (by decide)))
  have a5_51 := fun j : Nat => (congrFun (congrFun w5 51) j).trans (zwr_ne (Or.inl (by decide)))
  have a5_52 := fun j : Nat => (congrFun (congrFun w5 52) j).trans (zwr_ne (Or.inl (by decide)))
  have t5_41_0 := congrFun (congrFun w5 41) 0
  rw [zwr_eq] at t5_41_0
  have t5_41_1 := congrFun (congrFun w5 41) 1
  rw [zwr_ne (Or.inr (by decide))] at t5_41_1
  have t5_49_0 := congrFun (congrFun w5 49) 0
  rw [zwr_ne (Or.inl (by decide))] at t5_49_0
  have t5_49_1 := congrFun (congrFun w5 49) 1
  rw [zwr_ne (Or.inl (by decide))] at t5_49_1
  refine zW_aload_n (pc' := 9) dX7_copyFrom_0.1.2.1.1 rfl rfl ?_
  refine zW_aload_n (pc' := 10) dX7_copyFrom_0.1.2.1.2 rfl rfl ?_
  refine zGm (pc' := 13) hF rfl rfl fg_X7_25 tb49 rfl dX7_copyFrom_0.1.2.2.1 rfl ?_
  refine zPm (pc' := 16) hF (Or.inl rfl) (SI_irr hF.2.1 (Or.inl rfl) (fun _ _ => ⟨by omega, by omega⟩)) (KR_irr hF.2.2.1 rfl) (KC_41_1 hF.2.2.2 (by omega)) fp_X7_25 tb41 rfl dX7_copyFrom_0.1.2.2.2 rfl (fun h hF w13 => ?_)
  have a13_42 := fun j : Nat => (congrFun (congrFun w13 42) j).trans (zwr_ne (Or.inl (by decide)))
  have a13_43 := fun j : Nat => (congrFun (congrFun w13 43) j).trans (zwr_ne (Or.inl (by decide)))
  have a13_44 := fun j : Nat => (congrFun (congrFun w13 44) j).trans (zwr_ne (Or.inl (by decide)))
  have a13_50 := fun j : Nat => (congrFun (congrFun w13 50) j).trans (zwr_ne (Or.inl (by decide)))
  have a13_51 := fun j : Nat => (congrFun (congrFun w13 51) j).trans (zwr_ne (Or.inl (by decide)))
  have a13_52 := fun j : Nat => (congrFun (congrFun w13 52) j).trans (zwr_ne (Or.inl (by decide)))
  have t13_41_0 := congrFun (congrFun w13 41) 0
  rw [zwr_ne (Or.inr (by decide))] at t13_41_0
  have t13_41_1 := congrFun (congrFun w13 41) 1
  rw [zwr_eq] at t13_41_1
  have t13_49_0 := congrFun (congrFun w13 49) 0
  rw [zwr_ne (Or.inl (by decide))] at t13_49_0
  have t13_49_1 := congrFun (congrFun w13 49) 1
  rw [zwr_ne (Or.inl (by decide))] at t13_49_1
  refine zW_aload_n (pc' := 17) dX7_copyFrom_0.2.1.1.1 rfl rfl ?_
  refine zG_ref (pc' := 20) 50 fg_X7_9 tb49 rfl dX7_copyFrom_0.2.1.1.2 rfl ?_
  refine zW_iconst (pc' := 21) dX7_copyFrom_0.2.1.2.1 rfl ?_
  refine zW_aload_n (pc' := 22) dX7_copyFrom_0.2.1.2.2 rfl rfl ?_
  refine zG_ref (pc' := 25) 42 fg_X7_9 tb41 rfl dX7_copyFrom_0.2.2.1.1 rfl ?_
  refine zW_iconst (pc' := 26) dX7_copyFrom_0.2.2.1.2 rfl ?_
  refine zW_aload_n (pc' := 27) dX7_copyFrom_0.2.2.2.1 rfl rfl ?_
  refine zG_ref (pc' := 30) 42 fg_X7_9 tb41 rfl dX7_copyFrom_0.2.2.2.2 rfl ?_
  refine zV_alen (pc' := 31) tb42 (by decide) dX7_copyFrom_1.1.1.1.1 rfl ?_
  refine zV_acopy (pc' := 34) tb50 tb42 (by omega) (by omega) (by omega) (by omega) (by decide) (by decide) ka_X7_28 (Nat.le_of_ble_eq_true rfl) (Nat.le_of_ble_eq_true rfl) dX7_copyFrom_1.1.1.1.2 rfl ?_
  have hz31 := hF.zc (a := 50) (c := 42) (d := 0) (n := 14) rfl rfl (by decide) (by decide) (KC_zc hF.2.2.2 rfl)
  refine (show ∀ h1 : Hp, Fm [(41, 0), (41, 1), (42, 999), (43, 999), (44, 999)] κ h1 → h1 = zcp h 50 42 0 14 → zV _ _ _ _ _ _ h1 from fun h hF w31 => ?_) _ hz31 rfl
  have a31_42 := fun j : Nat => zcp_pt (congrFun (congrFun w31 42) j)
  have a31_43 := fun j : Nat => (congrFun (congrFun w31 43) j).trans (zcp_ne (by decide))
  have a31_44 := fun j : Nat => (congrFun (congrFun w31 44) j).trans (zcp_ne (by decide))
  have a31_50 := fun j : Nat => (congrFun (congrFun w31 50) j).trans (zcp_ne (by decide))
  have a31_51 := fun j : Nat => (congrFun (congrFun w31 51) j).trans (zcp_ne (by decide))
  have a31_52 := fun j : Nat => (congrFun (congrFun w31 52) j).trans (zcp_ne (by decide))
  have t31_41_0 := congrFun (congrFun w31 41) 0
  rw [zcp_ne (by decide)] at t31_41_0
  have t31_41_1 := congrFun (congrFun w31 41) 1
  rw [zcp_ne (by decide)] at t31_41_1
  have t31_49_0 := congrFun (congrFun w31 49) 0
  rw [zcp_ne (by decide)] at t31_49_0
  have t31_49_1 := congrFun (congrFun w31 49) 1
  rw [zcp_ne (by decide)] at t31_49_1
  refine zW_aload_n (pc' := 35) dX7_copyFrom_1.1.1.2.1 rfl rfl ?_
  refine zG_ref (pc' := 38) 51 fg_X7_15 tb49 rfl dX7_copyFrom_1.1.1.2.2 rfl ?_
  refine zW_iconst (pc' := 39) dX7_copyFrom_1.1.2.1.1 rfl ?_
  refine zW_aload_n (pc' := 40) dX7_copyFrom_1.1.2.1.2 rfl rfl ?_
  refine zG_ref (pc' := 43) 43 fg_X7_15 tb41 rfl dX7_copyFrom_1.1.2.2.1 rfl ?_
  refine zW_iconst (pc' := 44) dX7_copyFrom_1.1.2.2.2 rfl ?_
  refine zW_aload_n (pc' := 45) dX7_copyFrom_1.2.1.1.1 rfl rfl ?_
  refine zG_ref (pc' := 48) 43 fg_X7_15 tb41 rfl dX7_copyFrom_1.2.1.1.2 rfl ?_
  refine zV_alen (pc' := 49) tb43 (by decide) dX7_copyFrom_1.2.1.2.1 rfl ?_
  refine zV_acopy (pc' := 52) tb51 tb43 (by omega) (by omega) (by omega) (by omega) (by decide) (by decide) ka_X7_28 (Nat.le_of_ble_eq_true rfl) (Nat.le_of_ble_eq_true rfl) dX7_copyFrom_1.2.1.2.2 rfl ?_
  have hz49 := hF.zc (a := 51) (c := 43) (d := 0) (n := 14) rfl rfl (by decide) (by decide) (KC_z43 hF.2.2.2 hF.2.2.2.2.2.2.2.2.2.2.2.2)
  refine (show ∀ h1 : Hp, Fm [(41, 0), (41, 1), (42, 999), (43, 999), (44, 999)] κ h1 → h1 = zcp h 51 43 0 14 → zV _ _ _ _ _ _ h1 from fun h hF w49 => ?_) _ hz49 rfl
  have a49_42 := fun j : Nat => (congrFun (congrFun w49 42) j).trans (zcp_ne (by decide))
  have a49_43 := fun j : Nat => zcp_pt (congrFun (congrFun w49 43) j)
  have a49_44 := fun j : Nat => (congrFun (congrFun w49 44) j).trans (zcp_ne (by decide))
  have a49_50 := fun j : Nat => (congrFun (congrFun w49 50) j).trans (zcp_ne (by decide))
  have a49_51 := fun j : Nat => (congrFun (congrFun w49 51) j).trans (zcp_ne (by decide))
  have a49_52 := fun j : Nat => (congrFun (congrFun w49 52) j).trans (zcp_ne (by decide))
  have t49_41_0 := congrFun (congrFun w49 41) 0
  rw [zcp_ne (by decide)] at t49_41_0
  have t49_41_1 := congrFun (congrFun w49 41) 1
  rw [zcp_ne (by decide)] at t49_41_1
  have t49_49_0 := congrFun (congrFun w49 49) 0
  rw [zcp_ne (by decide)] at t49_49_0
  have t49_49_1 := congrFun (congrFun w49 49) 1
  rw [zcp_ne (by decide)] at t49_49_1
  refine zW_aload_n (pc' := 53) dX7_copyFrom_1.2.2.1.1 rfl rfl ?_
  refine zG_ref (pc' := 56) 52 fg_X7_18 tb49 rfl dX7_copyFrom_1.2.2.1.2 rfl ?_
  refine zW_iconst (pc' := 57) dX7_copyFrom_1.2.2.2.1 rfl ?_
  refine zW_aload_n (pc' := 58) dX7_copyFrom_1.2.2.2.2 rfl rfl ?_
  refine zG_ref (pc' := 61) 44 fg_X7_18 tb41 rfl dX7_copyFrom_2.1.1.1 rfl ?_
  refine zW_iconst (pc' := 62) dX7_copyFrom_2.1.1.2 rfl ?_
  refine zW_aload_n (pc' := 63) dX7_copyFrom_2.1.2.1 rfl rfl ?_
  refine zG_ref (pc' := 66) 44 fg_X7_18 tb41 rfl dX7_copyFrom_2.1.2.2 rfl ?_
  refine zV_alen (pc' := 67) tb44 (by decide) dX7_copyFrom_2.2.1.1 rfl ?_
  refine zV_acopy (pc' := 70) tb52 tb44 (by omega) (by omega) (by omega) (by omega) (by decide) (by decide) ka_X7_28 (Nat.le_of_ble_eq_true rfl) (Nat.le_of_ble_eq_true rfl) dX7_copyFrom_2.2.1.2 rfl ?_
  have hz67 := hF.zc (a := 52) (c := 44) (d := 0) (n := 64) rfl rfl (by decide) (by decide) (KC_zc hF.2.2.2 rfl)
  refine (show ∀ h1 : Hp, Fm [(41, 0), (41, 1), (42, 999), (43, 999), (44, 999)] κ h1 → h1 = zcp h 52 44 0 64 → zV _ _ _ _ _ _ h1 from fun h hF w67 => ?_) _ hz67 rfl
  have a67_42 := fun j : Nat => (congrFun (congrFun w67 42) j).trans (zcp_ne (by decide))
  have a67_43 := fun j : Nat => (congrFun (congrFun w67 43) j).trans (zcp_ne (by decide))
  have a67_44 := fun j : Nat => zcp_pt (congrFun (congrFun w67 44) j)
  have a67_50 := fun j : Nat => (congrFun (congrFun w67 50) j).trans (zcp_ne (by decide))
  have a67_51 := fun j : Nat => (congrFun (congrFun w67 51) j).trans (zcp_ne (by decide))
  have a67_52 := fun j : Nat => (congrFun (congrFun w67 52) j).trans (zcp_ne (by decide))
  have t67_41_0 := congrFun (congrFun w67 41) 0
  rw [zcp_ne (by decide)] at t67_41_0
  have t67_41_1 := congrFun (congrFun w67 41) 1
  rw [zcp_ne (by decide)] at t67_41_1
  have t67_49_0 := congrFun (congrFun w67 49) 0
  rw [zcp_ne (by decide)] at t67_49_0
  have t67_49_1 := congrFun (congrFun w67 49) 1
  rw [zcp_ne (by decide)] at t67_49_1
  exact zV_vret rfl dX7_copyFrom_2.2.2 ⟨hF, ⟨by omega, (fun j => by have q0 := a0_42 j; have q1 := a0_43 j; have q2 := a0_50 j; have q3 := a0_51 j; have q4 := a5_42 j; have q5 := a5_43 j; have q6 := a5_50 j; have q7 := a5_51 j; have q8 := a13_42 j; have q9 := a13_43 j; have q10 := a13_50 j; have q11 := a13_51 j; have q12 := a31_42 j; have q13 := a31_43 j; have q14 := a31_50 j; have q15 := a31_51 j; have q16 := a49_42 j; have q17 := a49_43 j; have q18 := a49_50 j; have q19 := a49_51 j; have q20 := a67_42 j; have q21 := a67_43 j; have q22 := a67_50 j; have q23 := a67_51 j; omega), (fun j => by have q0 := a0_44 j; have q1 := a0_52 j; have q2 := a5_44 j; have q3 := a5_52 j; have q4 := a13_44 j; have q5 := a13_52 j; have q6 := a31_44 j; have q7 := a31_52 j; have q8 := a49_44 j; have q9 := a49_52 j; have q10 := a67_44 j; have q11 := a67_52 j; omega)⟩⟩

abbrev q_X7_copyFromV45_41Q (κ : Hp)  : Int → Hp → Prop := fun r h' => Fm [(45, 0), (45, 1), (46, 999), (47, 999), (48, 999)] κ h' ∧ ((h' 45 0 = κ 41 0 ∧ h' 45 1 = κ 41 1) ∧ (∀ j : Nat, j < 14 → h' 46 j = κ 42 j ∧ h' 47 j = κ 43 j) ∧ (∀ j : Nat, j < 64 → h' 48 j = κ 44 j))
set_option maxHeartbeats 4000000 in
set_option maxRecDepth 20000 in
theorem s_X7_copyFromV45_41Q {G : Ga} {κ : Hp} (hS : SI κ) (hR : KR κ) (hC : KC κ)  : zM G mX7_copyFrom yX7_copyFrom [.inr (.inr 45), .inr (.inr 41)] κ (q_X7_copyFromV45_41Q κ) := by
  have f_41_0 := KCm hC
  have f_41_1 := KCf hC
  have f_45_0 := KCr0 hC
  have f_45_1 := KCr1 hC
  have f_49_0 := KCd0 hC
  have f_49_1 := KCd1 hC
  refine zM_of [some (.inr (.inr 45)), some (.inr (.inr 41))] 0 rfl rfl (Nat.le_of_ble_eq_true rfl) rfl ?_
  refine (show ∀ h : Hp, Fm [(45, 0), (45, 1), (46, 999), (47, 999), (48, 999)] κ h → h = κ → zV G mX7_copyFrom (q_X7_copyFromV45_41Q κ) 0 [some (.inr (.inr 45)), some (.inr (.inr 41))] [] h from fun h hF hk0 => ?_) κ (Fm.rf hS hR hC) rfl
  have a0_46 := fun j : Nat => congrFun (congrFun hk0 46) j
  have a0_47 := fun j : Nat => congrFun (congrFun hk0 47) j
  have a0_48 := fun j : Nat => congrFun (congrFun hk0 48) j
  have a0_42 := fun j : Nat => congrFun (congrFun hk0 42) j
  have a0_43 := fun j : Nat => congrFun (congrFun hk0 43) j
  have a0_44 := fun j : Nat => congrFun (congrFun hk0 44) j
  refine zW_aload_n (pc' := 1) dX7_copyFrom_0.1.1.1.1 rfl rfl ?_
  refine zW_aload_n (pc' := 2) dX7_copyFrom_0.1.1.1.2 rfl rfl ?_
  refine zGm (pc' := 5) hF rfl rfl fg_X7_21 tb41 rfl dX7_copyFrom_0.1.1.2.1 rfl ?_
  refine zPm (pc' := 8) hF (Or.inl rfl) (SI_irr hF.2.1 (Or.inl rfl) (fun _ _ => ⟨by omega, by omega⟩)) (KR_irr hF.2.2.1 rfl) (KC_45_0 hF.2.2.2 (by omega)) fp_X7_21 tb45 rfl dX7_copyFrom_0.1.1.2.2 rfl (fun h hF w5 => ?_)
  have a5_46 := fun j : Nat => (congrFun (congrFun w5 46) j).trans (zwr_ne (Or.inl (by decide)))
  have a5_47 := fun j : Nat => (congrFun (congrFun w5 47) j).trans (zwr_ne (Or.inl (by decide)))
  have a5_48 := fun j : Nat => (congrFun (congrFun w5 48) j).trans (zwr_ne (Or.inl (by decide)))
  have a5_42 := fun j : Nat => (congrFun (congrFun w5 42) j).trans (zwr_ne (Or.inl (by decide)))
  have a5_43 := fun j : Nat => (congrFun (congrFun w5 43) j).trans (zwr_ne (Or.inl (by decide)))
  have a5_44 := fun j : Nat => (congrFun (congrFun w5 44) j).trans (zwr_ne (Or.inl (by decide)))
  have t5_45_0 := congrFun (congrFun w5 45) 0
  rw [zwr_eq] at t5_45_0
  have t5_45_1 := congrFun (congrFun w5 45) 1
  rw [zwr_ne (Or.inr (by decide))] at t5_45_1
  have t5_41_0 := congrFun (congrFun w5 41) 0
  rw [zwr_ne (Or.inl (by decide))] at t5_41_0
  have t5_41_1 := congrFun (congrFun w5 41) 1
  rw [zwr_ne (Or.inl (by decide))] at t5_41_1
  refine zW_aload_n (pc' := 9) dX7_copyFrom_0.1.2.1.1 rfl rfl ?_
  refine zW_aload_n (pc' := 10) dX7_copyFrom_0.1.2.1.2 rfl rfl ?_
  refine zGm (pc' := 13) hF rfl rfl fg_X7_25 tb41 rfl dX7_copyFrom_0.1.2.2.1 rfl ?_
  refine zPm (pc' := 16) hF (Or.inl rfl) (SI_irr hF.2.1 (Or.inl rfl) (fun _ _ => ⟨by omega, by omega⟩)) (KR_irr hF.2.2.1 rfl) (KC_45_1 hF.2.2.2 (by omega)) fp_X7_25 tb45 rfl dX7_copyFrom_0.1.2.2.2 rfl (fun h hF w13 => ?_)
  have a13_46 := fun j : Nat => (congrFun (congrFun w13 46) j).trans (zwr_ne (Or.inl (by decide)))
  have a13_47 := fun j : Nat => (congrFun (congrFun w13 47) j).trans (zwr_ne (Or.inl (by decide)))
  have a13_48 := fun j : Nat => (congrFun (congrFun w13 48) j).trans (zwr_ne (Or.inl (by decide)))
  have a13_42 := fun j : Nat => (congrFun (congrFun w13 42) j).trans (zwr_ne (Or.inl (by decide)))
  have a13_43 := fun j : Nat => (congrFun (congrFun w13 43) j).trans (zwr_ne (Or.inl (by decide)))
  have a13_44 := fun j : Nat => (congrFun (congrFun w13 44) j).trans (zwr_ne (Or.inl (by decide)))
  have t13_45_0 := congrFun (congrFun w13 45) 0
  rw [zwr_ne (Or.inr (by decide))] at t13_45_0
  have t13_45_1 := congrFun (congrFun w13 45) 1
  rw [zwr_eq] at t13_45_1
  have t13_41_0 := congrFun (congrFun w13 41) 0
  rw [zwr_ne (Or.inl (by decide))] at t13_41_0
  have t13_41_1 := congrFun (congrFun w13 41) 1
  rw [zwr_ne (Or.inl (by decide))] at t13_41_1
  refine zW_aload_n (pc' := 17) dX7_copyFrom_0.2.1.1.1 rfl rfl ?_
  refine zG_ref (pc' := 20) 42 fg_X7_9 tb41 rfl dX7_copyFrom_0.2.1.1.2 rfl ?_
  refine zW_iconst (pc' := 21) dX7_copyFrom_0.2.1.2.1 rfl ?_
  refine zW_aload_n (pc' := 22) dX7_copyFrom_0.2.1.2.2 rfl rfl ?_
  refine zG_ref (pc' := 25) 46 fg_X7_9 tb45 rfl dX7_copyFrom_0.2.2.1.1 rfl ?_
  refine zW_iconst (pc' := 26) dX7_copyFrom_0.2.2.1.2 rfl ?_
  refine zW_aload_n (pc' := 27) dX7_copyFrom_0.2.2.2.1 rfl rfl ?_
  refine zG_ref (pc' := 30) 46 fg_X7_9 tb45 rfl dX7_copyFrom_0.2.2.2.2 rfl ?_
  refine zV_alen (pc' := 31) tb46 (by decide) dX7_copyFrom_1.1.1.1.1 rfl ?_
  refine zV_acopy (pc' := 34) tb42 tb46 (by omega) (by omega) (by omega) (by omega) (by decide) (by decide) ka_X7_28 (Nat.le_of_ble_eq_true rfl) (Nat.le_of_ble_eq_true rfl) dX7_copyFrom_1.1.1.1.2 rfl ?_
  have hz31 := hF.zc (a := 42) (c := 46) (d := 0) (n := 14) rfl rfl (by decide) (by decide) (KC_zc hF.2.2.2 rfl)
  refine (show ∀ h1 : Hp, Fm [(45, 0), (45, 1), (46, 999), (47, 999), (48, 999)] κ h1 → h1 = zcp h 42 46 0 14 → zV _ _ _ _ _ _ h1 from fun h hF w31 => ?_) _ hz31 rfl
  have a31_46 := fun j : Nat => zcp_pt (congrFun (congrFun w31 46) j)
  have a31_47 := fun j : Nat => (congrFun (congrFun w31 47) j).trans (zcp_ne (by decide))
  have a31_48 := fun j : Nat => (congrFun (congrFun w31 48) j).trans (zcp_ne (by decide))
  have a31_42 := fun j : Nat => (congrFun (congrFun w31 42) j).trans (zcp_ne (by decide))
  have a31_43 := fun j : Nat => (congrFun (congrFun w31 43) j).trans (zcp_ne (by decide))
  have a31_44 := fun j : Nat => (congrFun (congrFun w31 44) j).trans (zcp_ne (by decide))
  have t31_45_0 := congrFun (congrFun w31 45) 0
  rw [zcp_ne (by decide)] at t31_45_0
  have t31_45_1 := congrFun (congrFun w31 45) 1
  rw [zcp_ne (by decide)] at t31_45_1
  have t31_41_0 := congrFun (congrFun w31 41) 0
  rw [zcp_ne (by decide)] at t31_41_0
  have t31_41_1 := congrFun (congrFun w31 41) 1
  rw [zcp_ne (by decide)] at t31_41_1
  refine zW_aload_n (pc' := 35) dX7_copyFrom_1.1.1.2.1 rfl rfl ?_
  refine zG_ref (pc' := 38) 43 fg_X7_15 tb41 rfl dX7_copyFrom_1.1.1.2.2 rfl ?_
  refine zW_iconst (pc' := 39) dX7_copyFrom_1.1.2.1.1 rfl ?_
  refine zW_aload_n (pc' := 40) dX7_copyFrom_1.1.2.1.2 rfl rfl ?_
  refine zG_ref (pc' := 43) 47 fg_X7_15 tb45 rfl dX7_copyFrom_1.1.2.2.1 rfl ?_
  refine zW_iconst (pc' := 44) dX7_copyFrom_1.1.2.2.2 rfl ?_
  refine zW_aload_n (pc' := 45) dX7_copyFrom_1.2.1.1.1 rfl rfl ?_
  refine zG_ref (pc' := 48) 47 fg_X7_15 tb45 rfl dX7_copyFrom_1.2.1.1.2 rfl ?_
  refine zV_alen (pc' := 49) tb47 (by decide) dX7_copyFrom_1.2.1.2.1 rfl ?_
  refine zV_acopy (pc' := 52) tb43 tb47 (by omega) (by omega) (by omega) (by omega) (by decide) (by decide) ka_X7_28 (Nat.le_of_ble_eq_true rfl) (Nat.le_of_ble_eq_true rfl) dX7_copyFrom_1.2.1.2.2 rfl ?_
  have hz49 := hF.zc (a := 43) (c := 47) (d := 0) (n := 14) rfl rfl (by decide) (by decide) (KC_z47 hF.2.2.2 hF.2.2.2.2.2.1.2.2)
  refine (show ∀ h1 : Hp, Fm [(45, 0), (45, 1), (46, 999), (47, 999), (48, 999)] κ h1 → h1 = zcp h 43 47 0 14 → zV _ _ _ _ _ _ h1 from fun h hF w49 => ?_) _ hz49 rfl
  have a49_46 := fun j : Nat => (congrFun (congrFun w49 46) j).trans (zcp_ne (by decide))
  have a49_47 := fun j : Nat => zcp_pt (congrFun (congrFun w49 47) j)
  have a49_48 := fun j : Nat => (congrFun (congrFun w49 48) j).trans (zcp_ne (by decide))
  have a49_42 := fun j : Nat => (congrFun (congrFun w49 42) j).trans (zcp_ne (by decide))
  have a49_43 := fun j : Nat => (congrFun (congrFun w49 43) j).trans (zcp_ne (by decide))
  have a49_44 := fun j : Nat => (congrFun (congrFun w49 44) j).trans (zcp_ne (by decide))
  have t49_45_0 := congrFun (congrFun w49 45) 0
  rw [zcp_ne (by decide)] at t49_45_0
  have t49_45_1 := congrFun (congrFun w49 45) 1
  rw [zcp_ne (by decide)] at t49_45_1
  have t49_41_0 := congrFun (congrFun w49 41) 0
  rw [zcp_ne (by decide)] at t49_41_0
  have t49_41_1 := congrFun (congrFun w49 41) 1
  rw [zcp_ne (by decide)] at t49_41_1
  refine zW_aload_n (pc' := 53) dX7_copyFrom_1.2.2.1.1 rfl rfl ?_
  refine zG_ref (pc' := 56) 44 fg_X7_18 tb41 rfl dX7_copyFrom_1.2.2.1.2 rfl ?_
  refine zW_iconst (pc' := 57) dX7_copyFrom_1.2.2.2.1 rfl ?_
  refine zW_aload_n (pc' := 58) dX7_copyFrom_1.2.2.2.2 rfl rfl ?_
  refine zG_ref (pc' := 61) 48 fg_X7_18 tb45 rfl dX7_copyFrom_2.1.1.1 rfl ?_
  refine zW_iconst (pc' := 62) dX7_copyFrom_2.1.1.2 rfl ?_
  refine zW_aload_n (pc' := 63) dX7_copyFrom_2.1.2.1 rfl rfl ?_
  refine zG_ref (pc' := 66) 48 fg_X7_18 tb45 rfl dX7_copyFrom_2.1.2.2 rfl ?_
  refine zV_alen (pc' := 67) tb48 (by decide) dX7_copyFrom_2.2.1.1 rfl ?_
  refine zV_acopy (pc' := 70) tb44 tb48 (by omega) (by omega) (by omega) (by omega) (by decide) (by decide) ka_X7_28 (Nat.le_of_ble_eq_true rfl) (Nat.le_of_ble_eq_true rfl) dX7_copyFrom_2.2.1.2 rfl ?_
  have hz67 := hF.zc (a := 44) (c := 48) (d := 0) (n := 64) rfl rfl (by decide) (by decide) (KC_zc hF.2.2.2 rfl)
  refine (show ∀ h1 : Hp, Fm [(45, 0), (45, 1), (46, 999), (47, 999), (48, 999)] κ h1 → h1 = zcp h 44 48 0 64 → zV _ _ _ _ _ _ h1 from fun h hF w67 => ?_) _ hz67 rfl
  have a67_46 := fun j : Nat => (congrFun (congrFun w67 46) j).trans (zcp_ne (by decide))
  have a67_47 := fun j : Nat => (congrFun (congrFun w67 47) j).trans (zcp_ne (by decide))
  have a67_48 := fun j : Nat => zcp_pt (congrFun (congrFun w67 48) j)
  have a67_42 := fun j : Nat => (congrFun (congrFun w67 42) j).trans (zcp_ne (by decide))
  have a67_43 := fun j : Nat => (congrFun (congrFun w67 43) j).trans (zcp_ne (by decide))
  have a67_44 := fun j : Nat => (congrFun (congrFun w67 44) j).trans (zcp_ne (by decide))
  have t67_45_0 := congrFun (congrFun w67 45) 0
  rw [zcp_ne (by decide)] at t67_45_0
  have t67_45_1 := congrFun (congrFun w67 45) 1
  rw [zcp_ne (by decide)] at t67_45_1
  have t67_41_0 := congrFun (congrFun w67 41) 0
  rw [zcp_ne (by decide)] at t67_41_0
  have t67_41_1 := congrFun (congrFun w67 41) 1
  rw [zcp_ne (by decide)] at t67_41_1
  exact zV_vret rfl dX7_copyFrom_2.2.2 ⟨hF, ⟨by omega, (fun j => by have q0 := a0_46 j; have q1 := a0_47 j; have q2 := a0_42 j; have q3 := a0_43 j; have q4 := a5_46 j; have q5 := a5_47 j; have q6 := a5_42 j; have q7 := a5_43 j; have q8 := a13_46 j; have q9 := a13_47 j; have q10 := a13_42 j; have q11 := a13_43 j; have q12 := a31_46 j; have q13 := a31_47 j; have q14 := a31_42 j; have q15 := a31_43 j; have q16 := a49_46 j; have q17 := a49_47 j; have q18 := a49_42 j; have q19 := a49_43 j; have q20 := a67_46 j; have q21 := a67_47 j; have q22 := a67_42 j; have q23 := a67_43 j; omega), (fun j => by have q0 := a0_48 j; have q1 := a0_44 j; have q2 := a5_48 j; have q3 := a5_44 j; have q4 := a13_48 j; have q5 := a13_44 j; have q6 := a31_48 j; have q7 := a31_44 j; have q8 := a49_48 j; have q9 := a49_44 j; have q10 := a67_48 j; have q11 := a67_44 j; omega)⟩⟩

abbrev q_X7_copyFromV41_45Q (κ : Hp)  : Int → Hp → Prop := fun r h' => Fm [(41, 0), (41, 1), (42, 999), (43, 999), (44, 999)] κ h' ∧ ((h' 41 0 = κ 45 0 ∧ h' 41 1 = κ 45 1) ∧ (∀ j : Nat, j < 14 → h' 42 j = κ 46 j ∧ h' 43 j = κ 47 j) ∧ (∀ j : Nat, j < 64 → h' 44 j = κ 48 j))
set_option maxHeartbeats 4000000 in
set_option maxRecDepth 20000 in
theorem s_X7_copyFromV41_45Q {G : Ga} {κ : Hp} (hS : SI κ) (hR : KR κ) (hC : KC κ)  : zM G mX7_copyFrom yX7_copyFrom [.inr (.inr 41), .inr (.inr 45)] κ (q_X7_copyFromV41_45Q κ) := by
  have f_41_0 := KCm hC
  have f_41_1 := KCf hC
  have f_45_0 := KCr0 hC
  have f_45_1 := KCr1 hC
  have f_49_0 := KCd0 hC
  have f_49_1 := KCd1 hC
  refine zM_of [some (.inr (.inr 41)), some (.inr (.inr 45))] 0 rfl rfl (Nat.le_of_ble_eq_true rfl) rfl ?_
  refine (show ∀ h : Hp, Fm [(41, 0), (41, 1), (42, 999), (43, 999), (44, 999)] κ h → h = κ → zV G mX7_copyFrom (q_X7_copyFromV41_45Q κ) 0 [some (.inr (.inr 41)), some (.inr (.inr 45))] [] h from fun h hF hk0 => ?_) κ (Fm.rf hS hR hC) rfl
  have a0_42 := fun j : Nat => congrFun (congrFun hk0 42) j
  have a0_43 := fun j : Nat => congrFun (congrFun hk0 43) j
  have a0_44 := fun j : Nat => congrFun (congrFun hk0 44) j
  have a0_46 := fun j : Nat => congrFun (congrFun hk0 46) j
  have a0_47 := fun j : Nat => congrFun (congrFun hk0 47) j
  have a0_48 := fun j : Nat => congrFun (congrFun hk0 48) j
  refine zW_aload_n (pc' := 1) dX7_copyFrom_0.1.1.1.1 rfl rfl ?_
  refine zW_aload_n (pc' := 2) dX7_copyFrom_0.1.1.1.2 rfl rfl ?_
  refine zGm (pc' := 5) hF rfl rfl fg_X7_21 tb45 rfl dX7_copyFrom_0.1.1.2.1 rfl ?_
  refine zPm (pc' := 8) hF (Or.inl rfl) (SI_irr hF.2.1 (Or.inl rfl) (fun _ _ => ⟨by omega, by omega⟩)) (KR_irr hF.2.2.1 rfl) (KC_41_0 hF.2.2.2 (by omega)) fp_X7_21 tb41 rfl dX7_copyFrom_0.1.1.2.2 rfl (fun h hF w5 => ?_)
  have a5_42 := fun j : Nat => (congrFun (congrFun w5 42) j).trans (zwr_ne (Or.inl (by decide)))
  have a5_43 := fun j : Nat => (congrFun (congrFun w5 43) j).trans (zwr_ne (Or.inl (by decide)))
  have a5_44 := fun j : Nat => (congrFun (congrFun w5 44) j).trans (zwr_ne (Or.inl (by decide)))
  have a5_46 := fun j : Nat => (congrFun (congrFun w5 46) j).trans (zwr_ne (Or.inl (by decide)))
  have a5_47 := fun j : Nat => (congrFun (congrFun w5 47) j).trans (zwr_ne (Or.inl (by decide)))
  have a5_48 := fun j : Nat => (congrFun (congrFun w5 48) j).trans (zwr_ne (Or.inl (by decide)))
  have t5_41_0 := congrFun (congrFun w5 41) 0
  rw [zwr_eq] at t5_41_0
  have t5_41_1 := congrFun (congrFun w5 41) 1
  rw [zwr_ne (Or.inr (by decide))] at t5_41_1
  have t5_45_0 := congrFun (congrFun w5 45) 0
  rw [zwr_ne (Or.inl (by decide))] at t5_45_0
  have t5_45_1 := congrFun (congrFun w5 45) 1
  rw [zwr_ne (Or.inl (by decide))] at t5_45_1
  refine zW_aload_n (pc' := 9) dX7_copyFrom_0.1.2.1.1 rfl rfl ?_
  refine zW_aload_n (pc' := 10) dX7_copyFrom_0.1.2.1.2 rfl rfl ?_
  refine zGm (pc' := 13) hF rfl rfl fg_X7_25 tb45 rfl dX7_copyFrom_0.1.2.2.1 rfl ?_
  refine zPm (pc' := 16) hF (Or.inl rfl) (SI_irr hF.2.1 (Or.inl rfl) (fun _ _ => ⟨by omega, by omega⟩)) (KR_irr hF.2.2.1 rfl) (KC_41_1 hF.2.2.2 (by omega)) fp_X7_25 tb41 rfl dX7_copyFrom_0.1.2.2.2 rfl (fun h hF w13 => ?_)
  have a13_42 := fun j : Nat => (congrFun (congrFun w13 42) j).trans (zwr_ne (Or.inl (by decide)))
  have a13_43 := fun j : Nat => (congrFun (congrFun w13 43) j).trans (zwr_ne (Or.inl (by decide)))
  have a13_44 := fun j : Nat => (congrFun (congrFun w13 44) j).trans (zwr_ne (Or.inl (by decide)))
  have a13_46 := fun j : Nat => (congrFun (congrFun w13 46) j).trans (zwr_ne (Or.inl (by decide)))
  have a13_47 := fun j : Nat => (congrFun (congrFun w13 47) j).trans (zwr_ne (Or.inl (by decide)))
  have a13_48 := fun j : Nat => (congrFun (congrFun w13 48) j).trans (zwr_ne (Or.inl (by decide)))
  have t13_41_0 := congrFun (congrFun w13 41) 0
  rw [zwr_ne (Or.inr (by decide))] at t13_41_0
  have t13_41_1 := congrFun (congrFun w13 41) 1
  rw [zwr_eq] at t13_41_1
  have t13_45_0 := congrFun (congrFun w13 45) 0
  rw [zwr_ne (Or.inl (by decide))] at t13_45_0
  have t13_45_1 := congrFun (congrFun w13 45) 1
  rw [zwr_ne (Or.inl (by decide))] at t13_45_1
  refine zW_aload_n (pc' := 17) dX7_copyFrom_0.2.1.1.1 rfl rfl ?_
  refine zG_ref (pc' := 20) 46 fg_X7_9 tb45 rfl dX7_copyFrom_0.2.1.1.2 rfl ?_
  refine zW_iconst (pc' := 21) dX7_copyFrom_0.2.1.2.1 rfl ?_
  refine zW_aload_n (pc' := 22) dX7_copyFrom_0.2.1.2.2 rfl rfl ?_
  refine zG_ref (pc' := 25) 42 fg_X7_9 tb41 rfl dX7_copyFrom_0.2.2.1.1 rfl ?_
  refine zW_iconst (pc' := 26) dX7_copyFrom_0.2.2.1.2 rfl ?_
  refine zW_aload_n (pc' := 27) dX7_copyFrom_0.2.2.2.1 rfl rfl ?_
  refine zG_ref (pc' := 30) 42 fg_X7_9 tb41 rfl dX7_copyFrom_0.2.2.2.2 rfl ?_
  refine zV_alen (pc' := 31) tb42 (by decide) dX7_copyFrom_1.1.1.1.1 rfl ?_
  refine zV_acopy (pc' := 34) tb46 tb42 (by omega) (by omega) (by omega) (by omega) (by decide) (by decide) ka_X7_28 (Nat.le_of_ble_eq_true rfl) (Nat.le_of_ble_eq_true rfl) dX7_copyFrom_1.1.1.1.2 rfl ?_
  have hz31 := hF.zc (a := 46) (c := 42) (d := 0) (n := 14) rfl rfl (by decide) (by decide) (KC_zc hF.2.2.2 rfl)
  refine (show ∀ h1 : Hp, Fm [(41, 0), (41, 1), (42, 999), (43, 999), (44, 999)] κ h1 → h1 = zcp h 46 42 0 14 → zV _ _ _ _ _ _ h1 from fun h hF w31 => ?_) _ hz31 rfl
  have a31_42 := fun j : Nat => zcp_pt (congrFun (congrFun w31 42) j)
  have a31_43 := fun j : Nat => (congrFun (congrFun w31 43) j).trans (zcp_ne (by decide))
  have a31_44 := fun j : Nat => (congrFun (congrFun w31 44) j).trans (zcp_ne (by decide))
  have a31_46 := fun j : Nat => (congrFun (congrFun w31 46) j).trans (zcp_ne (by decide))
  have a31_47 := fun j : Nat => (congrFun (congrFun w31 47) j).trans (zcp_ne (by decide))
  have a31_48 := fun j : Nat => (congrFun (congrFun w31 48) j).trans (zcp_ne (by decide))
  have t31_41_0 := congrFun (congrFun w31 41) 0
  rw [zcp_ne (by decide)] at t31_41_0
  have t31_41_1 := congrFun (congrFun w31 41) 1
  rw [zcp_ne (by decide)] at t31_41_1
  have t31_45_0 := congrFun (congrFun w31 45) 0
  rw [zcp_ne (by decide)] at t31_45_0
  have t31_45_1 := congrFun (congrFun w31 45) 1
  rw [zcp_ne (by decide)] at t31_45_1
  refine zW_aload_n (pc' := 35) dX7_copyFrom_1.1.1.2.1 rfl rfl ?_
  refine zG_ref (pc' := 38) 47 fg_X7_15 tb45 rfl dX7_copyFrom_1.1.1.2.2 rfl ?_
  refine zW_iconst (pc' := 39) dX7_copyFrom_1.1.2.1.1 rfl ?_
  refine zW_aload_n (pc' := 40) dX7_copyFrom_1.1.2.1.2 rfl rfl ?_
  refine zG_ref (pc' := 43) 43 fg_X7_15 tb41 rfl dX7_copyFrom_1.1.2.2.1 rfl ?_
  refine zW_iconst (pc' := 44) dX7_copyFrom_1.1.2.2.2 rfl ?_
  refine zW_aload_n (pc' := 45) dX7_copyFrom_1.2.1.1.1 rfl rfl ?_
  refine zG_ref (pc' := 48) 43 fg_X7_15 tb41 rfl dX7_copyFrom_1.2.1.1.2 rfl ?_
  refine zV_alen (pc' := 49) tb43 (by decide) dX7_copyFrom_1.2.1.2.1 rfl ?_
  refine zV_acopy (pc' := 52) tb47 tb43 (by omega) (by omega) (by omega) (by omega) (by decide) (by decide) ka_X7_28 (Nat.le_of_ble_eq_true rfl) (Nat.le_of_ble_eq_true rfl) dX7_copyFrom_1.2.1.2.2 rfl ?_
  have hz49 := hF.zc (a := 47) (c := 43) (d := 0) (n := 14) rfl rfl (by decide) (by decide) (KC_z43 hF.2.2.2 hF.2.2.2.2.2.2.1.2.2)
  refine (show ∀ h1 : Hp, Fm [(41, 0), (41, 1), (42, 999), (43, 999), (44, 999)] κ h1 → h1 = zcp h 47 43 0 14 → zV _ _ _ _ _ _ h1 from fun h hF w49 => ?_) _ hz49 rfl
  have a49_42 := fun j : Nat => (congrFun (congrFun w49 42) j).trans (zcp_ne (by decide))
  have a49_43 := fun j : Nat => zcp_pt (congrFun (congrFun w49 43) j)
  have a49_44 := fun j : Nat => (congrFun (congrFun w49 44) j).trans (zcp_ne (by decide))
  have a49_46 := fun j : Nat => (congrFun (congrFun w49 46) j).trans (zcp_ne (by decide))
  have a49_47 := fun j : Nat => (congrFun (congrFun w49 47) j).trans (zcp_ne (by decide))
  have a49_48 := fun j : Nat => (congrFun (congrFun w49 48) j).trans (zcp_ne (by decide))
  have t49_41_0 := congrFun (congrFun w49 41) 0
  rw [zcp_ne (by decide)] at t49_41_0
  have t49_41_1 := congrFun (congrFun w49 41) 1
  rw [zcp_ne (by decide)] at t49_41_1
  have t49_45_0 := congrFun (congrFun w49 45) 0
  rw [zcp_ne (by decide)] at t49_45_0
  have t49_45_1 := congrFun (congrFun w49 45) 1
  rw [zcp_ne (by decide)] at t49_45_1
  refine zW_aload_n (pc' := 53) dX7_copyFrom_1.2.2.1.1 rfl rfl ?_
  refine zG_ref (pc' := 56) 48 fg_X7_18 tb45 rfl dX7_copyFrom_1.2.2.1.2 rfl ?_
  refine zW_iconst (pc' := 57) dX7_copyFrom_1.2.2.2.1 rfl ?_
  refine zW_aload_n (pc' := 58) dX7_copyFrom_1.2.2.2.2 rfl rfl ?_
  refine zG_ref (pc' := 61) 44 fg_X7_18 tb41 rfl dX7_copyFrom_2.1.1.1 rfl ?_
  refine zW_iconst (pc' := 62) dX7_copyFrom_2.1.1.2 rfl ?_
  refine zW_aload_n (pc' := 63) dX7_copyFrom_2.1.2.1 rfl rfl ?_
  refine zG_ref (pc' := 66) 44 fg_X7_18 tb41 rfl dX7_copyFrom_2.1.2.2 rfl ?_
  refine zV_alen (pc' := 67) tb44 (by decide) dX7_copyFrom_2.2.1.1 rfl ?_
  refine zV_acopy (pc' := 70) tb48 tb44 (by omega) (by omega) (by omega) (by omega) (by decide) (by decide) ka_X7_28 (Nat.le_of_ble_eq_true rfl) (Nat.le_of_ble_eq_true rfl) dX7_copyFrom_2.2.1.2 rfl ?_
  have hz67 := hF.zc (a := 48) (c := 44) (d := 0) (n := 64) rfl rfl (by decide) (by decide) (KC_zc hF.2.2.2 rfl)
  refine (show ∀ h1 : Hp, Fm [(41, 0), (41, 1), (42, 999), (43, 999), (44, 999)] κ h1 → h1 = zcp h 48 44 0 64 → zV _ _ _ _ _ _ h1 from fun h hF w67 => ?_) _ hz67 rfl
  have a67_42 := fun j : Nat => (congrFun (congrFun w67 42) j).trans (zcp_ne (by decide))
  have a67_43 := fun j : Nat => (congrFun (congrFun w67 43) j).trans (zcp_ne (by decide))
  have a67_44 := fun j : Nat => zcp_pt (congrFun (congrFun w67 44) j)
  have a67_46 := fun j : Nat => (congrFun (congrFun w67 46) j).trans (zcp_ne (by decide))
  have a67_47 := fun j : Nat => (congrFun (congrFun w67 47) j).trans (zcp_ne (by decide))
  have a67_48 := fun j : Nat => (congrFun (congrFun w67 48) j).trans (zcp_ne (by decide))
  have t67_41_0 := congrFun (congrFun w67 41) 0
  rw [zcp_ne (by decide)] at t67_41_0
  have t67_41_1 := congrFun (congrFun w67 41) 1
  rw [zcp_ne (by decide)] at t67_41_1
  have t67_45_0 := congrFun (congrFun w67 45) 0
  rw [zcp_ne (by decide)] at t67_45_0
  have t67_45_1 := congrFun (congrFun w67 45) 1
  rw [zcp_ne (by decide)] at t67_45_1
  exact zV_vret rfl dX7_copyFrom_2.2.2 ⟨hF, ⟨by omega, (fun j => by have q0 := a0_42 j; have q1 := a0_43 j; have q2 := a0_46 j; have q3 := a0_47 j; have q4 := a5_42 j; have q5 := a5_43 j; have q6 := a5_46 j; have q7 := a5_47 j; have q8 := a13_42 j; have q9 := a13_43 j; have q10 := a13_46 j; have q11 := a13_47 j; have q12 := a31_42 j; have q13 := a31_43 j; have q14 := a31_46 j; have q15 := a31_47 j; have q16 := a49_42 j; have q17 := a49_43 j; have q18 := a49_46 j; have q19 := a49_47 j; have q20 := a67_42 j; have q21 := a67_43 j; have q22 := a67_46 j; have q23 := a67_47 j; omega), (fun j => by have q0 := a0_44 j; have q1 := a0_48 j; have q2 := a5_44 j; have q3 := a5_48 j; have q4 := a13_44 j; have q5 := a13_48 j; have q6 := a31_44 j; have q7 := a31_48 j; have q8 := a49_44 j; have q9 := a49_48 j; have q10 := a67_44 j; have q11 := a67_48 j; omega)⟩⟩

abbrev q_X11_stagesQ (κ : Hp) (x1 : Int) (g : Int → Int) : Int → Hp → Prop := fun r h' => Fm [(53, 2), (53, 3), (53, 4), (49, 0), (49, 1), (50, 999), (51, 999), (52, 999), (41, 0), (41, 1), (42, 999), (43, 999), (44, 999), (31, 1)] κ h' ∧ ((((¬ (0 ≤ x1 ∧ x1 ≤ 120 ∧ x1 ≤ κ 31 1) ∧ r = -1 ∧ h' 31 1 = κ 31 1 ∧ h' 41 0 = κ 41 0 ∧ h' 41 1 = κ 41 1) ∨ ((0 ≤ x1 ∧ x1 ≤ 120 ∧ x1 ≤ κ 31 1) ∧ h' 31 1 = 0 ∧ r = rdF g x1 ∧ (0 ≤ r → h' 41 0 = r ∧ h' 41 1 = rdA g x1) ∧ (r < 0 → h' 41 0 = κ 41 0 ∧ h' 41 1 = κ 41 1))) ∧ RWC r g (h' 42) (h' 43) (h' 44) ∧ EQC r κ h'))
set_option maxHeartbeats 4000000 in
set_option maxRecDepth 20000 in
theorem s_X11_stagesQ {G : Ga} {κ : Hp} (hS : SI κ) (hR : KR κ) (hC : KC κ) (x1 : Int) (hx1 : rng x1) (g : Int → Int) (hg : hr (κ 32) x1 = g) (hb : x1 ≤ κ 31 1 → ∀ q : Int, -1 ≤ g q ∧ g q ≤ 255) (hX : XI G) : zM G mX11_stages yX11_stages [.inr (.inr 30), .inl x1] κ (q_X11_stagesQ κ x1 g) := by
  have f_31_1 := KCt hC
  have f_41_0 := KCm hC
  have f_41_1 := KCf hC
  unfold rng at hx1
  refine zM_of [some (.inr (.inr 30)), some (.inl x1), none] 1 rfl rfl (Nat.le_of_ble_eq_true rfl) rfl ?_
  refine (show ∀ h : Hp, Fm [(53, 2), (53, 3), (53, 4), (49, 0), (49, 1), (50, 999), (51, 999), (52, 999), (41, 0), (41, 1), (42, 999), (43, 999), (44, 999), (31, 1)] κ h → h = κ → zV G mX11_stages (q_X11_stagesQ κ x1 g) 0 [some (.inr (.inr 30)), some (.inl x1), none] [] h from fun h hF hk0 => ?_) κ (Fm.rf hS hR hC) rfl
  have y0_31_1 : h 31 1 = κ 31 1 := by rw [hk0]
  have y0_41_0 : h 41 0 = κ 41 0 := by rw [hk0]
  have y0_41_1 : h 41 1 = κ 41 1 := by rw [hk0]
  have y0_49_0 : h 49 0 = κ 49 0 := by rw [hk0]
  have y0_49_1 : h 49 1 = κ 49 1 := by rw [hk0]
  refine zW_iload_n (pc' := 1) dX11_stages_0.1.1.1.1 rfl rfl ?_
  refine zV_if_lt (tgt := 21) (pc' := 4) dX11_stages_0.1.1.1.2 rfl rfl ⟨by omega, by omega⟩ (fun c1 => ?_) (fun c1 => ?_)
  · refine zW_iconst (pc' := 22) dX11_stages_0.2.1.2.1 rfl ?_
    exact zV_iret rfl dX11_stages_0.2.1.2.2 ⟨hF, by refine ⟨by omega, fun z => absurd z (by decide), fun _ => ?_⟩; rw [hk0]; exact ⟨rfl, rfl, rfl⟩⟩
  · refine zW_iload_n (pc' := 5) dX11_stages_0.1.1.2.1 rfl rfl ?_
    refine zW_bipush (pc' := 7) dX11_stages_0.1.1.2.2 rfl rfl ?_
    refine zV_cm_gt (tgt := 21) (pc' := 10) dX11_stages_0.1.2.1.1 rfl rfl ⟨by omega, by omega⟩ ⟨by omega, by omega⟩ (fun c7 => ?_) (fun c7 => ?_)
    · refine zW_iconst (pc' := 22) dX11_stages_0.2.1.2.1 rfl ?_
      exact zV_iret rfl dX11_stages_0.2.1.2.2 ⟨hF, by refine ⟨by omega, fun z => absurd z (by decide), fun _ => ?_⟩; rw [hk0]; exact ⟨rfl, rfl, rfl⟩⟩
    · refine zW_iload_n (pc' := 11) dX11_stages_0.1.2.1.2 rfl rfl ?_
      refine zW_aload_n (pc' := 12) dX11_stages_0.1.2.2.1 rfl rfl ?_
      refine zG_ref (pc' := 15) 31 fg_X11_10 tb30 rfl dX11_stages_0.1.2.2.2 rfl ?_
      refine zG_int (pc' := 18) fg_X11_88 tb31 rfl dX11_stages_0.2.1.1.1 rfl ?_
      have e15 := KCt hF.2.2.2
      refine zV_cm_le (tgt := 23) (pc' := 21) dX11_stages_0.2.1.1.2 rfl rfl ⟨by omega, by omega⟩ ⟨by omega, by omega⟩ (fun c18 => ?_) (fun c18 => ?_)
      · refine zW_aload_n (pc' := 24) dX11_stages_0.2.2.1.1 rfl rfl ?_
        refine zG_ref (pc' := 27) 53 fg_X11_42 tb30 rfl dX11_stages_0.2.2.1.2 rfl ?_
        refine zW_iload_n (pc' := 28) dX11_stages_0.2.2.2.1 rfl rfl ?_
        refine cvI1 (pc' := 31) kX6_read vX6_read lk_X11_95 ⟨Nat.le_of_ble_eq_true rfl, Nat.le_of_ble_eq_true rfl⟩ tb53 vq6 rfl rfl (s_X6_readQ hF.2.1 hF.2.2.1 hF.2.2.2 _ ⟨by omega, by omega⟩ g (by rw [hk0]; exact hg) (hb (by omega)) (by omega) hX) dX11_stages_0.2.2.2.2 (Nat.le_of_ble_eq_true rfl) rfl ?_
        rintro r28 h ⟨hF1, p28⟩; replace hF := hF.tr hF1 rfl
        have t28_31_1 := hF1.1 31 1 rfl rfl
        have t28_41_0 := hF1.1 41 0 rfl rfl
        have t28_41_1 := hF1.1 41 1 rfl rfl
        have arc : ARCI r28 g h := p28.2.2.2.2
        have k42 : h 42 = κ 42 := (hF1.cell 42 rfl (fun _ => rfl)).trans (congrFun hk0 42)
        have k43 : h 43 = κ 43 := (hF1.cell 43 rfl (fun _ => rfl)).trans (congrFun hk0 43)
        have k44 : h 44 = κ 44 := (hF1.cell 44 rfl (fun _ => rfl)).trans (congrFun hk0 44)
        refine zW_istore_n (ls' := [_, _, _]) (pc' := 32) dX11_stages_1.1.1.1.1 (by decide) rfl rfl rfl ?_
        refine zW_aload_n (pc' := 33) dX11_stages_1.1.1.1.2 rfl rfl ?_
        refine zG_ref (pc' := 36) 31 fg_X11_10 tb30 rfl dX11_stages_1.1.1.2.1 rfl ?_
        refine cvV0 (pc' := 39) kX9_empty vX9_empty lk_X11_99 ⟨Nat.le_of_ble_eq_true rfl, Nat.le_of_ble_eq_true rfl⟩ tb31 vq9 rfl rfl (s_X9_empty hF.2.1 hF.2.2.1 hF.2.2.2) dX11_stages_1.1.1.2.2 (Nat.le_of_ble_eq_true rfl) rfl ?_
        rintro r36 h ⟨hF1, p36⟩; replace hF := hF.tr hF1 rfl
        have t36_41_0 := hF1.1 41 0 rfl rfl
        have t36_41_1 := hF1.1 41 1 rfl rfl
        have t36_49_0 := hF1.1 49 0 rfl rfl
        have t36_49_1 := hF1.1 49 1 rfl rfl
        replace arc : ARCI r28 g h := fun z => (arc z).eq (hF1.cell 50 rfl (fun _ => rfl)) (hF1.cell 51 rfl (fun _ => rfl)) (hF1.cell 52 rfl (fun _ => rfl))
        replace k42 : h 42 = κ 42 := (hF1.cell 42 rfl (fun _ => rfl)).trans k42
        replace k43 : h 43 = κ 43 := (hF1.cell 43 rfl (fun _ => rfl)).trans k43
        replace k44 : h 44 = κ 44 := (hF1.cell 44 rfl (fun _ => rfl)).trans k44
        have kc51 := KCdt hF.2.2.2
        have b49 := KCd0 hF.2.2.2
        refine zW_iload_n (pc' := 40) dX11_stages_1.1.2.1.1 rfl rfl ?_
        refine zV_if_lt (tgt := 64) (pc' := 43) dX11_stages_1.1.2.1.2 rfl rfl ⟨by omega, by omega⟩ (fun c40 => ?_) (fun c40 => ?_)
        · first | replace rw1 : RWC r28 g (h 42) (h 43) (h 44) := (by rw [hF1.cell 42 rfl (fun _ => rfl), hF1.cell 43 rfl (fun _ => rfl), hF1.cell 44 rfl (fun _ => rfl)]; exact rw1) | skip
          refine zW_iload_n (pc' := 65) dX11_stages_1.2.2.2.2 rfl rfl ?_
          exact zV_iret rfl dX11_stages_2 ⟨hF, by refine ⟨by omega, ?_, ?_⟩; (first | exact rw1 | exact (fun z => absurd z (by omega))); (first | exact (fun z => absurd z (by omega)) | exact (fun _ => ⟨k42, k43, k44⟩))⟩
        · refine zW_aload_n (pc' := 44) dX11_stages_1.1.2.2.1 rfl rfl ?_
          refine zG_ref (pc' := 47) 41 fg_X11_33 tb30 rfl dX11_stages_1.1.2.2.2 rfl ?_
          refine zW_aload_n (pc' := 48) dX11_stages_1.2.1.1.1 rfl rfl ?_
          refine zG_ref (pc' := 51) 53 fg_X11_42 tb30 rfl dX11_stages_1.2.1.1.2 rfl ?_
          refine zG_ref (pc' := 54) 49 fg_X11_102 tb53 rfl dX11_stages_1.2.1.2.1 rfl ?_
          refine cvV1 (pc' := 57) kX7_copyFrom vX7_copyFrom lk_X11_105 ⟨Nat.le_of_ble_eq_true rfl, Nat.le_of_ble_eq_true rfl⟩ tb41 vq7 rfl rfl (s_X7_copyFromV41_49Q hF.2.1 hF.2.2.1 hF.2.2.2) dX11_stages_1.2.1.2.2 (Nat.le_of_ble_eq_true rfl) rfl ?_
          rintro r54 h ⟨hF1, p54⟩; replace hF := hF.tr hF1 rfl
          have t54_31_1 := hF1.1 31 1 rfl rfl
          have t54_49_0 := hF1.1 49 0 rfl rfl
          have t54_49_1 := hF1.1 49 1 rfl rfl
          have rw1 : RWC r28 g (h 42) (h 43) (h 44) := fun z => (arc z).cp (by omega) kc51 p54.2.1 p54.2.2
          refine zW_aload_n (pc' := 58) dX11_stages_1.2.2.1.1 rfl rfl ?_
          refine zG_ref (pc' := 61) 54 fg_X11_51 tb30 rfl dX11_stages_1.2.2.1.2 rfl ?_
          refine cvV0 (pc' := 64) kX1_forget vX1_forget lk_X11_109 ⟨Nat.le_of_ble_eq_true rfl, Nat.le_of_ble_eq_true rfl⟩ tb54 vq1 rfl rfl (s_X1_forget hF.2.1 hF.2.2.1 hF.2.2.2) dX11_stages_1.2.2.2.1 (Nat.le_of_ble_eq_true rfl) rfl ?_
          rintro r61 h ⟨hF1, p61⟩; replace hF := hF.tr hF1 rfl
          have t61_31_1 := hF1.1 31 1 rfl rfl
          have t61_41_0 := hF1.1 41 0 rfl rfl
          have t61_41_1 := hF1.1 41 1 rfl rfl
          have t61_49_0 := hF1.1 49 0 rfl rfl
          have t61_49_1 := hF1.1 49 1 rfl rfl
          first | replace rw1 : RWC r28 g (h 42) (h 43) (h 44) := (by rw [hF1.cell 42 rfl (fun _ => rfl), hF1.cell 43 rfl (fun _ => rfl), hF1.cell 44 rfl (fun _ => rfl)]; exact rw1) | skip
          refine zW_iload_n (pc' := 65) dX11_stages_1.2.2.2.2 rfl rfl ?_
          exact zV_iret rfl dX11_stages_2 ⟨hF, by refine ⟨by omega, ?_, ?_⟩; (first | exact rw1 | exact (fun z => absurd z (by omega))); (first | exact (fun z => absurd z (by omega)) | exact (fun _ => ⟨k42, k43, k44⟩))⟩
      · refine zW_iconst (pc' := 22) dX11_stages_0.2.1.2.1 rfl ?_
        exact zV_iret rfl dX11_stages_0.2.1.2.2 ⟨hF, by refine ⟨by omega, fun z => absurd z (by decide), fun _ => ?_⟩; rw [hk0]; exact ⟨rfl, rfl, rfl⟩⟩

abbrev q_X12_readsNextQ (κ : Hp) (x1 : Int) (x2 : Int) (g : Int → Int) (p : Int) : Int → Hp → Prop := fun r h' => Fm [(0, 26), (0, 28), (0, 29), (0, 31), (15, 999)] κ h' ∧ ((0 ≤ r) ∧ (r ≤ 1) ∧ (κ 0 26 ≤ h' 0 26 ∧ h' 0 26 ≤ κ 0 27 ∧ Pre15 κ h' ∧ ((r = 1 ∧ h' 0 31 = κ 0 31 + 1 ∧ κ 0 26 + 1 < h' 0 26) ∨ (r = 0 ∧ h' 0 31 = κ 0 31)) ∧ ((r = 1 ∧ nxF g p x2 = 0 ∧ h' 0 26 = nxE g p) ∨ (r = 0 ∧ nxF g p x2 ≠ 0 ∧ h' 0 28 = nxF g p x2 ∧ h' 0 28 < 0)) ∧ ApI r (κ 15) (h' 15) (κ 0 31) (h' 0 31) [nV g (p + 1)]))
set_option maxHeartbeats 4000000 in
set_option maxRecDepth 20000 in
theorem s_X12_readsNextQ {G : Ga} {κ : Hp} (hS : SI κ) (hR : KR κ) (hC : KC κ) (x1 : Int) (hx1 : 0 ≤ x1 ∧ x1 ≤ 0) (x2 : Int) (hx2 : 0 ≤ x2 ∧ x2 ≤ 255) (g : Int → Int) (p : Int) (hp : 0 ≤ κ 0 26 ∧ κ 0 26 ≤ κ 0 27 ∧ κ 0 27 ≤ 120) (hq : 0 ≤ κ 0 31 ∧ κ 0 31 ≤ κ 0 26) (hg : hr (fun i => κ 12 i % 256) (κ 0 27) = g) (ht : κ 0 26 = p) : zM G mX12_readsNext yX12_readsNext [.inr (.inr 0), .inl x1, .inl x2] κ (q_X12_readsNextQ κ x1 x2 g p) := by
  have u1 : nxF g p x2 = sq (sF g p 44) (nF g (p + 1) 0 x2) := rfl
  have u2 := sqc (sF g p 44) (nF g (p + 1) 0 x2)
  have u3 : nxE g p = p + 1 + nD g (p + 1) := rfl
  refine zM_of [some (.inr (.inr 0)), some (.inl x1), some (.inl x2)] 0 rfl rfl (Nat.le_of_ble_eq_true rfl) rfl ?_
  refine (show ∀ h : Hp, Fm [(0, 26), (0, 28), (0, 29), (0, 31), (15, 999)] κ h → h = κ → zV G mX12_readsNext (q_X12_readsNextQ κ x1 x2 g p) 0 [some (.inr (.inr 0)), some (.inl x1), some (.inl x2)] [] h from fun h hF hk0 => ?_) κ (Fm.rf hS hR hC) rfl
  have y0_0_26 : h 0 26 = κ 0 26 := by rw [hk0]
  have y0_0_27 : h 0 27 = κ 0 27 := by rw [hk0]
  have y0_0_31 : h 0 31 = κ 0 31 := by rw [hk0]
  have hPre : Pre15 κ h := by rw [hk0]; exact Pre15.rf
  have ap : Ap (κ 15) (h 15) (κ 0 31) (h 0 31) [] := by rw [hk0]; exact Ap.rf
  refine zW_aload_n (pc' := 1) dX12_readsNext_0.1.1.1.1 rfl rfl ?_
  refine zW_bipush (pc' := 3) dX12_readsNext_0.1.1.1.2 rfl rfl ?_
  have y27 := hF.1 0 27 rfl rfl
  have y3_0_27 := hF.1 0 27 rfl rfl
  refine cvI1 (pc' := 6) kX12_takesSign vX12_takesSign lk_X12_154 ⟨Nat.le_of_ble_eq_true rfl, Nat.le_of_ble_eq_true rfl⟩ tb0 vq12 rfl rfl (s_X12_takesSignP hF.2.1 hF.2.2.1 hF.2.2.2 _ ⟨by omega, by omega⟩ g p (by rw [hF.cell 12 rfl (fun _ => rfl), hF.1 0 27 rfl rfl]; exact hg) (by omega) (by omega)) dX12_readsNext_0.1.1.2.1 (Nat.le_of_ble_eq_true rfl) rfl ?_
  rintro r3 h ⟨hF1, p3⟩; replace hF := hF.tr hF1 rfl
  replace hPre : Pre15 κ h := hPre.fm hF1 (fun _ => rfl)
  replace ap := Ap_eq ap (hF1.cell 15 rfl (fun _ => rfl)) (hF1.1 0 31 rfl rfl)
  have t3_0_31 := hF1.1 0 31 rfl rfl
  refine zV_if_eq (tgt := 22) (pc' := 9) dX12_readsNext_0.1.1.2.2 rfl rfl ⟨by omega, by omega⟩ (fun c6 => ?_) (fun c6 => ?_)
  · refine zW_iconst (pc' := 23) dX12_readsNext_0.2.2.1.2 rfl ?_
    exact zV_zret rfl (by omega) dX12_readsNext_0.2.2.2 ⟨hF, by refine ⟨by omega, by omega, by omega, by omega, hPre, by omega, by omega, ?_⟩; first | exact (fun z => absurd z (by decide)) | exact (fun _ => ap (by omega))⟩
  · refine zW_aload_n (pc' := 10) dX12_readsNext_0.1.2.1.1 rfl rfl ?_
    refine zW_iload_n (pc' := 11) dX12_readsNext_0.1.2.1.2 rfl rfl ?_
    refine zW_iload_n (pc' := 12) dX12_readsNext_0.1.2.2 rfl rfl ?_
    have y27 := hF.1 0 27 rfl rfl
    have e0 : x1 = 0 := by omega
    subst e0
    obtain ⟨hB12, eB12⟩ : ∃ z : Hp, z = h := ⟨_, rfl⟩
    have apq : Ap (κ 15) (hB12 15) (κ 0 31) (hB12 0 31) ([]) := by rw [eB12]; first | exact ap | exact ap (by omega)
    have y12_0_27 := hF.1 0 27 rfl rfl
    refine cvI2 (pc' := 15) kX12_readsNumber vX12_readsNumber lk_X12_157 ⟨Nat.le_of_ble_eq_true rfl, Nat.le_of_ble_eq_true rfl⟩ tb0 vq12 rfl rfl (s_X12_readsNumberP hF.2.1 hF.2.2.1 hF.2.2.2 _ ⟨by omega, by omega⟩ _ ⟨by omega, by omega⟩ g (p + 1) (by omega) (by omega) (by rw [hF.cell 12 rfl (fun _ => rfl), hF.1 0 27 rfl rfl]; exact hg) (by omega)) dX12_readsNext_0.2.1.1.1 (Nat.le_of_ble_eq_true rfl) rfl ?_
    rintro r12 h ⟨hF1, p12⟩; replace hF := hF.tr hF1 rfl
    replace hPre : Pre15 κ h := hPre.tr p12.2.2.2.2.1 (by omega)
    have pp := p12
    rw [← eB12] at pp
    have ap : ApI r12 (κ 15) (h 15) (κ 0 31) (h 0 31) ([nV g (p + 1)]) := fun z => Ap.tr hq.1 apq (Ap_rn pp.2.2.2.2.1 (pp.2.2.2.2.2.1.resolve_right (fun q => by omega)) (pp.2.2.2.2.2.2.resolve_right (fun q => by omega)))
    clear pp
    refine zV_if_eq (tgt := 22) (pc' := 18) dX12_readsNext_0.2.1.1.2 rfl rfl ⟨by omega, by omega⟩ (fun c15 => ?_) (fun c15 => ?_)
    · refine zW_iconst (pc' := 23) dX12_readsNext_0.2.2.1.2 rfl ?_
      exact zV_zret rfl (by omega) dX12_readsNext_0.2.2.2 ⟨hF, by refine ⟨by omega, by omega, by omega, by omega, hPre, by omega, by omega, ?_⟩; first | exact (fun z => absurd z (by decide)) | exact (fun _ => ap (by omega))⟩
    · refine zW_iconst (pc' := 19) dX12_readsNext_0.2.1.2 rfl ?_
      refine zV_goto 23 dX12_readsNext_0.2.2.1.1 rfl ?_
      exact zV_zret rfl (by omega) dX12_readsNext_0.2.2.2 ⟨hF, by refine ⟨by omega, by omega, by omega, by omega, hPre, by omega, by omega, ?_⟩; first | exact (fun z => absurd z (by decide)) | exact (fun _ => ap (by omega))⟩

abbrev q_X12_readsCurveQ (κ : Hp) (g : Int → Int) (p : Int) : Int → Hp → Prop := fun r h' => Fm [(0, 26), (0, 28), (0, 29), (0, 31), (15, 999)] κ h' ∧ ((0 ≤ r) ∧ (r ≤ 1) ∧ (κ 0 26 ≤ h' 0 26 ∧ h' 0 26 ≤ κ 0 27 ∧ Pre15 κ h' ∧ κ 0 31 ≤ h' 0 31 ∧ h' 0 31 ≤ h' 0 26 ∧ (r = 1 → Cv h' (κ 0 31) (h' 0 31)) ∧ ((r = 1 ∧ cuF g 200 p (-1) = 0 ∧ h' 0 26 = cuE g 200 p (-1)) ∨ (r = 0 ∧ cuF g 200 p (-1) ≠ 0 ∧ h' 0 28 = cuF g 200 p (-1) ∧ h' 0 28 < 0)) ∧ ApI r (κ 15) (h' 15) (κ 0 31) (h' 0 31) (cuL g 200 p (-1))))
set_option maxHeartbeats 4000000 in
set_option maxRecDepth 20000 in
theorem s_X12_readsCurveQ {G : Ga} {κ : Hp} (hS : SI κ) (hR : KR κ) (hC : KC κ) (g : Int → Int) (p : Int) (hp : 0 ≤ κ 0 26 ∧ κ 0 26 ≤ κ 0 27 ∧ κ 0 27 ≤ 120) (hq : 0 ≤ κ 0 31 ∧ κ 0 31 ≤ κ 0 26) (hg : hr (fun i => κ 12 i % 256) (κ 0 27) = g) (ht : κ 0 26 = p) : zM G mX12_readsCurve yX12_readsCurve [.inr (.inr 0)] κ (q_X12_readsCurveQ κ g p) := by
  have main : ∀ N : Nat, (∀ (v1 : Int) (h : Hp), Fm [(0, 26), (0, 28), (0, 29), (0, 31), (15, 999)] κ h → (-1 ≤ v1 ∧ v1 ≤ 255) → (κ 0 26 ≤ h 0 26 ∧ h 0 26 ≤ κ 0 27) → (κ 0 31 ≤ h 0 31 ∧ h 0 31 ≤ h 0 26) → (Pre15 κ h) → (CvI h (κ 0 31) (h 0 31) v1) → (CuI g p (h 0 26) v1) → (CuB g p (h 0 26) v1 (κ 15) (h 15) (κ 0 31) (h 0 31)) → 308112 + 49 * (κ 0 27 - h 0 26) + 48 < (N : Int) → zV G mX12_readsCurve (q_X12_readsCurveQ κ g p) 2 [some (.inr (.inr 0)), some (.inl v1)] [] h) := by
    intro N
    induction N with
    | zero =>
      intro v1 h hF g0 gc0 gc1 gc2 gc3 gc4 gc5 hm
      exfalso; omega
    | succ N ih =>
      have k2 := ih
      intro v1 h hF g0 gc0 gc1 gc2 gc3 gc4 gc5 hm
      have y27 := hF.1 0 27 rfl rfl
      have hPre := gc2
      obtain ⟨hA, eA⟩ : ∃ z : Hp, z = h := ⟨_, rfl⟩
      have hPA : Pre15 hA h := by rw [eA]; exact Pre15.rf
      have eA26 : hA 0 26 = h 0 26 := by rw [eA]
      have eA31 : hA 0 31 = h 0 31 := by rw [eA]
      have hcvA : CvI hA (κ 0 31) (hA 0 31) v1 := by rw [eA]; exact gc3
      obtain ⟨q, eq⟩ : ∃ q : Int, q = h 0 26 := ⟨_, rfl⟩
      have cu := gc4
      rw [← eq] at cu
      obtain ⟨l, cj, ap⟩ := gc5
      rw [← eq] at cj
      refine zW_iload_n (pc' := 3) dX12_readsCurve_0.1.1.2.1 rfl rfl ?_
      refine zW_sipush (pc' := 6) dX12_readsCurve_0.1.1.2.2 rfl rfl ?_
      refine zV_cm_eq (tgt := 85) (pc' := 9) dX12_readsCurve_0.1.2.1.1 rfl rfl ⟨by omega, by omega⟩ ⟨by omega, by omega⟩ (fun c6 => ?_) (fun c6 => ?_)
      · refine zW_iconst (pc' := 86) dX12_readsCurve_2.2.2.2.2 rfl ?_
        exact zV_zret rfl (by omega) dX12_readsCurve_3 ⟨hF, by have en := (show CuI g p (h 0 26) 255 from c6 ▸ gc4).end; have ej := (show CuJ g p q 255 l from c6 ▸ cj).end; refine ⟨by omega, by omega, by omega, by omega, hPre, by omega, by omega, fun _ => (show CvI h (κ 0 31) (h 0 31) 255 from c6 ▸ gc3).end, by omega, fun _ => by rw [ej]; exact ap⟩⟩
      · refine zW_iload_n (pc' := 10) dX12_readsCurve_0.1.2.1.2 rfl rfl ?_
        refine zW_iconst (pc' := 11) dX12_readsCurve_0.1.2.2.1 rfl ?_
        refine zV_cm_eq (tgt := 25) (pc' := 14) dX12_readsCurve_0.1.2.2.2 rfl rfl ⟨by omega, by omega⟩ ⟨by omega, by omega⟩ (fun c11 => ?_) (fun c11 => ?_)
        · first | (have e1 : v1 = -1 := (by omega); obtain ⟨w, ew⟩ : ∃ w : Int, w = q := ⟨_, rfl⟩; have pt : ptF g q v1 = sq (sq (nF g w 0 0) (sF g (w + nD g w) 62)) (nF g (w + nD g w + 1) 0 255) ∧ ptX g q v1 = nV g w ∧ ptE g q v1 = w + nD g w + 1 + nD g (w + nD g w + 1) := (by rw [ew, e1]; exact ⟨rfl, rfl, rfl⟩); have c1 := sqc (nF g w 0 0) (sF g (w + nD g w) 62); have c2 := sqc (sq (nF g w 0 0) (sF g (w + nD g w) 62)) (nF g (w + nD g w + 1) 0 255)) | (have e1 : v1 ≠ -1 := (by omega); obtain ⟨w, ew⟩ : ∃ w : Int, w = q + 1 := ⟨_, rfl⟩; have pt : ptF g q v1 = sq (sF g q 44) (sq (sq (nF g w (v1 + 1) 255) (sF g (w + nD g w) 62)) (nF g (w + nD g w + 1) 0 255)) ∧ ptX g q v1 = nV g w ∧ ptE g q v1 = w + nD g w + 1 + nD g (w + nD g w + 1) := (by rw [ew]; exact ptF_1 (by omega)); have c1 := sqc (nF g w (v1 + 1) 255) (sF g (w + nD g w) 62); have c2 := sqc (sq (nF g w (v1 + 1) 255) (sF g (w + nD g w) 62)) (nF g (w + nD g w + 1) 0 255); have c3 := sqc (sF g q 44) (sq (sq (nF g w (v1 + 1) 255) (sF g (w + nD g w) 62)) (nF g (w + nD g w + 1) 0 255)))
          have ptY_ : ptY g q v1 = nV g (w + nD g w + 1) := by first | (rw [ew, e1]; rfl) | (rw [ew]; exact ptY_1 (by omega))
          refine zW_aload_n (pc' := 26) dX12_readsCurve_0.2.2.2.1 rfl rfl ?_
          refine zW_iload_n (pc' := 27) dX12_readsCurve_0.2.2.2.2 rfl rfl ?_
          refine zW_iconst (pc' := 28) dX12_readsCurve_1.1.1.1.1 rfl ?_
          refine zV_cm_ne (tgt := 35) (pc' := 31) dX12_readsCurve_1.1.1.1.2 rfl rfl ⟨by omega, by omega⟩ ⟨by omega, by omega⟩ (fun c28 => ?_) (fun c28 => ?_)
          · exfalso; omega
          · refine zW_iconst (pc' := 32) dX12_readsCurve_1.1.1.2.1 rfl ?_
            refine zV_goto 38 dX12_readsCurve_1.1.1.2.2 rfl ?_
            refine zW_iload_n (pc' := 39) dX12_readsCurve_1.1.2.2.2 rfl rfl ?_
            refine zW_iconst (pc' := 40) dX12_readsCurve_1.2.1.1.1 rfl ?_
            refine zV_cm_ne (tgt := 47) (pc' := 43) dX12_readsCurve_1.2.1.1.2 rfl rfl ⟨by omega, by omega⟩ ⟨by omega, by omega⟩ (fun c40 => ?_) (fun c40 => ?_)
            · exfalso; omega
            · refine zW_iconst (pc' := 44) dX12_readsCurve_1.2.1.2.1 rfl ?_
              refine zV_goto 50 dX12_readsCurve_1.2.1.2.2 rfl ?_
              have y27 := hF.1 0 27 rfl rfl
              obtain ⟨hB, eB⟩ : ∃ z : Hp, z = h := ⟨_, rfl⟩
              have eB31 : hB 0 31 = hA 0 31 := by rw [eB]; omega
              have eB26 : hB 0 26 = h 0 26 := by rw [eB]
              have eB27 : hB 0 27 = h 0 27 := by rw [eB]
              obtain ⟨hB50, eB50⟩ : ∃ z : Hp, z = h := ⟨_, rfl⟩
              have apq : Ap (κ 15) (hB50 15) (κ 0 31) (hB50 0 31) (l) := by rw [eB50]; first | exact ap | exact ap (by omega)
              have y50_0_27 := hF.1 0 27 rfl rfl
              refine cvI2 (pc' := 53) kX12_readsNumber vX12_readsNumber lk_X12_157 ⟨Nat.le_of_ble_eq_true rfl, Nat.le_of_ble_eq_true rfl⟩ tb0 vq12 rfl rfl (s_X12_readsNumberP hF.2.1 hF.2.2.1 hF.2.2.2 _ ⟨by omega, by omega⟩ _ ⟨by omega, by omega⟩ g w (by omega) (by omega) (by rw [hF.cell 12 rfl (fun _ => rfl), hF.1 0 27 rfl rfl]; exact hg) (by omega)) dX12_readsCurve_1.2.2.1.2 (Nat.le_of_ble_eq_true rfl) rfl ?_
              rintro r50 h ⟨hF1, p50⟩; replace hF := hF.tr hF1 rfl
              replace hPre : Pre15 κ h := hPre.tr p50.2.2.2.2.1 (by omega)
              replace hPA : Pre15 hA h := hPA.tr p50.2.2.2.2.1 (by omega)
              have pp := p50
              rw [← eB50] at pp
              have ap : ApI r50 (κ 15) (h 15) (κ 0 31) (h 0 31) (l ++ [nV g w]) := fun z => Ap.tr hq.1 apq (Ap_rn pp.2.2.2.2.1 (pp.2.2.2.2.2.1.resolve_right (fun q => by omega)) (pp.2.2.2.2.2.2.resolve_right (fun q => by omega)))
              clear pp
              refine zV_if_ne (tgt := 58) (pc' := 56) dX12_readsCurve_1.2.2.2.1 rfl rfl ⟨by omega, by omega⟩ (fun c53 => ?_) (fun c53 => ?_)
              · rw [← eB] at p50
                have hv1 := (p50.2.2.2.2.2.1.resolve_right (fun q => by omega)).2.2.2.2.2
                rw [eB31] at hv1
                replace ap := ap (by omega)
                refine zW_aload_n (pc' := 59) dX12_readsCurve_2.1.1.1.2 rfl rfl ?_
                refine zG_int (pc' := 62) fg_X12_148 tb0 rfl dX12_readsCurve_2.1.1.2.1 rfl ?_
                have e59 := hF.rh 0 29
                refine zW_istore_n (ls' := [_, _]) (pc' := 63) dX12_readsCurve_2.1.1.2.2 (by decide) rfl rfl rfl ?_
                refine zW_aload_n (pc' := 64) dX12_readsCurve_2.1.2.1.1 rfl rfl ?_
                refine zW_bipush (pc' := 66) dX12_readsCurve_2.1.2.1.2 rfl rfl ?_
                have y27 := hF.1 0 27 rfl rfl
                have y66_0_27 := hF.1 0 27 rfl rfl
                refine cvI1 (pc' := 69) kX12_takesSign vX12_takesSign lk_X12_154 ⟨Nat.le_of_ble_eq_true rfl, Nat.le_of_ble_eq_true rfl⟩ tb0 vq12 rfl rfl (s_X12_takesSignP hF.2.1 hF.2.2.1 hF.2.2.2 _ ⟨by omega, by omega⟩ g (w + nD g w) (by rw [hF.cell 12 rfl (fun _ => rfl), hF.1 0 27 rfl rfl]; exact hg) (by omega) (by omega)) dX12_readsCurve_2.1.2.2.1 (Nat.le_of_ble_eq_true rfl) rfl ?_
                rintro r66 h ⟨hF1, p66⟩; replace hF := hF.tr hF1 rfl
                replace hPre : Pre15 κ h := hPre.fm hF1 (fun _ => rfl)
                replace hPA : Pre15 hA h := hPA.fm hF1 (fun _ => rfl)
                replace ap := Ap_eq ap (hF1.cell 15 rfl (fun _ => rfl)) (hF1.1 0 31 rfl rfl)
                have t66_0_31 := hF1.1 0 31 rfl rfl
                have t66_0_29 := hF1.1 0 29 rfl rfl
                have hv2 := (hF1.1 15 (hA 0 31).toNat rfl rfl).trans hv1
                refine zV_if_eq (tgt := 83) (pc' := 72) dX12_readsCurve_2.1.2.2.2 rfl rfl ⟨by omega, by omega⟩ (fun c69 => ?_) (fun c69 => ?_)
                · have bd := cu.bad (by omega) (by omega) (by omega)
                  refine zW_iconst (pc' := 84) dX12_readsCurve_2.2.2.1.2 rfl ?_
                  exact zV_zret rfl (by omega) dX12_readsCurve_2.2.2.2.1 ⟨hF, by refine ⟨by omega, by omega, by omega, by omega, hPre, by omega, by omega, fun q => by omega, by omega, fun q => absurd q (by decide)⟩⟩
                · refine zW_aload_n (pc' := 73) dX12_readsCurve_2.2.1.1.1 rfl rfl ?_
                  refine zW_iconst (pc' := 74) dX12_readsCurve_2.2.1.1.2 rfl ?_
                  refine zW_sipush (pc' := 77) dX12_readsCurve_2.2.1.2.1 rfl rfl ?_
                  have y27 := hF.1 0 27 rfl rfl
                  obtain ⟨hB77, eB77⟩ : ∃ z : Hp, z = h := ⟨_, rfl⟩
                  have apq : Ap (κ 15) (hB77 15) (κ 0 31) (hB77 0 31) (l ++ [nV g w]) := by rw [eB77]; first | exact ap | exact ap (by omega)
                  have y77_0_27 := hF.1 0 27 rfl rfl
                  refine cvI2 (pc' := 80) kX12_readsNumber vX12_readsNumber lk_X12_157 ⟨Nat.le_of_ble_eq_true rfl, Nat.le_of_ble_eq_true rfl⟩ tb0 vq12 rfl rfl (s_X12_readsNumberP hF.2.1 hF.2.2.1 hF.2.2.2 _ ⟨by omega, by omega⟩ _ ⟨by omega, by omega⟩ g (w + nD g w + 1) (by omega) (by omega) (by rw [hF.cell 12 rfl (fun _ => rfl), hF.1 0 27 rfl rfl]; exact hg) (by omega)) dX12_readsCurve_2.2.1.2.2 (Nat.le_of_ble_eq_true rfl) rfl ?_
                  rintro r77 h ⟨hF1, p77⟩; replace hF := hF.tr hF1 rfl
                  replace hPre : Pre15 κ h := hPre.tr p77.2.2.2.2.1 (by omega)
                  replace hPA : Pre15 hA h := hPA.tr p77.2.2.2.2.1 (by omega)
                  have pp := p77
                  rw [← eB77] at pp
                  have ap : ApI r77 (κ 15) (h 15) (κ 0 31) (h 0 31) (l ++ [nV g w] ++ [nV g (w + nD g w + 1)]) := fun z => Ap.tr hq.1 apq (Ap_rn pp.2.2.2.2.1 (pp.2.2.2.2.2.1.resolve_right (fun q => by omega)) (pp.2.2.2.2.2.2.resolve_right (fun q => by omega)))
                  clear pp
                  have hv3 := (p77.2.2.2.2.1 (hA 0 31).toNat (by omega)).trans hv2
                  have hcs := fun (q : r77 = 1) => CvI.step (h := hA) (h' := h) (a := κ 0 31) (b := hA 0 31) (by omega) hcvA (fun j hj => hPA j hj) hv3 (by omega)
                  refine zV_if_ne (tgt := 2) (pc' := 83) dX12_readsCurve_2.2.2.1.1 rfl rfl ⟨by omega, by omega⟩ (fun c80 => ?_) (fun c80 => ?_)
                  · exact k2 _ _ hF (by omega) (by omega) (by omega) hPre (by first | exact Or.inl ⟨rfl, by omega⟩ | (rw [show h 0 31 = hA 0 31 + 2 by omega]; exact hcs (by omega))) (by first | (rw [show h 0 26 = p by omega]; exact CuI.rf (by omega)) | exact cu.step (by omega) (by omega) (by omega) (by omega) (by omega) (by omega)) (by first | exact ⟨[], by rw [show h 0 26 = p by omega]; exact CuJ.rf (by omega), ap⟩ | (refine ⟨l ++ [nV g w, nV g (w + nD g w + 1)], cj.step (by omega) (by omega) (by omega) (by omega) (by omega) pt.2.1 ptY_, ?_⟩; have z := ap (by omega); rw [List.append_assoc] at z; exact z)) (by omega)
                  · have bd := cu.bad (by omega) (by omega) (by omega)
                    refine zW_iconst (pc' := 84) dX12_readsCurve_2.2.2.1.2 rfl ?_
                    exact zV_zret rfl (by omega) dX12_readsCurve_2.2.2.2.1 ⟨hF, by refine ⟨by omega, by omega, by omega, by omega, hPre, by omega, by omega, fun q => by omega, by omega, fun q => absurd q (by decide)⟩⟩
              · have bd := cu.bad (by omega) (by omega) (by omega)
                refine zW_iconst (pc' := 57) dX12_readsCurve_1.2.2.2.2 rfl ?_
                exact zV_zret rfl (by omega) dX12_readsCurve_2.1.1.1.1 ⟨hF, by refine ⟨by omega, by omega, by omega, by omega, hPre, by omega, by omega, fun q => by omega, by omega, fun q => absurd q (by decide)⟩⟩
        · refine zW_aload_n (pc' := 15) dX12_readsCurve_0.2.1.1.1 rfl rfl ?_
          refine zW_bipush (pc' := 17) dX12_readsCurve_0.2.1.1.2 rfl rfl ?_
          have y27 := hF.1 0 27 rfl rfl
          have y17_0_27 := hF.1 0 27 rfl rfl
          refine cvI1 (pc' := 20) kX12_takesSign vX12_takesSign lk_X12_154 ⟨Nat.le_of_ble_eq_true rfl, Nat.le_of_ble_eq_true rfl⟩ tb0 vq12 rfl rfl (s_X12_takesSignP hF.2.1 hF.2.2.1 hF.2.2.2 _ ⟨by omega, by omega⟩ g q (by rw [hF.cell 12 rfl (fun _ => rfl), hF.1 0 27 rfl rfl]; exact hg) (by omega) (by omega)) dX12_readsCurve_0.2.1.2.1 (Nat.le_of_ble_eq_true rfl) rfl ?_
          rintro r17 h ⟨hF1, p17⟩; replace hF := hF.tr hF1 rfl
          replace hPre : Pre15 κ h := hPre.fm hF1 (fun _ => rfl)
          replace hPA : Pre15 hA h := hPA.fm hF1 (fun _ => rfl)
          replace ap := Ap_eq ap (hF1.cell 15 rfl (fun _ => rfl)) (hF1.1 0 31 rfl rfl)
          have t17_0_31 := hF1.1 0 31 rfl rfl
          have t17_0_29 := hF1.1 0 29 rfl rfl
          refine zV_if_ne (tgt := 25) (pc' := 23) dX12_readsCurve_0.2.1.2.2 rfl rfl ⟨by omega, by omega⟩ (fun c20 => ?_) (fun c20 => ?_)
          · first | (have e1 : v1 = -1 := (by omega); obtain ⟨w, ew⟩ : ∃ w : Int, w = q := ⟨_, rfl⟩; have pt : ptF g q v1 = sq (sq (nF g w 0 0) (sF g (w + nD g w) 62)) (nF g (w + nD g w + 1) 0 255) ∧ ptX g q v1 = nV g w ∧ ptE g q v1 = w + nD g w + 1 + nD g (w + nD g w + 1) := (by rw [ew, e1]; exact ⟨rfl, rfl, rfl⟩); have c1 := sqc (nF g w 0 0) (sF g (w + nD g w) 62); have c2 := sqc (sq (nF g w 0 0) (sF g (w + nD g w) 62)) (nF g (w + nD g w + 1) 0 255)) | (have e1 : v1 ≠ -1 := (by omega); obtain ⟨w, ew⟩ : ∃ w : Int, w = q + 1 := ⟨_, rfl⟩; have pt : ptF g q v1 = sq (sF g q 44) (sq (sq (nF g w (v1 + 1) 255) (sF g (w + nD g w) 62)) (nF g (w + nD g w + 1) 0 255)) ∧ ptX g q v1 = nV g w ∧ ptE g q v1 = w + nD g w + 1 + nD g (w + nD g w + 1) := (by rw [ew]; exact ptF_1 (by omega)); have c1 := sqc (nF g w (v1 + 1) 255) (sF g (w + nD g w) 62); have c2 := sqc (sq (nF g w (v1 + 1) 255) (sF g (w + nD g w) 62)) (nF g (w + nD g w + 1) 0 255); have c3 := sqc (sF g q 44) (sq (sq (nF g w (v1 + 1) 255) (sF g (w + nD g w) 62)) (nF g (w + nD g w + 1) 0 255)))
            have ptY_ : ptY g q v1 = nV g (w + nD g w + 1) := by first | (rw [ew, e1]; rfl) | (rw [ew]; exact ptY_1 (by omega))
            refine zW_aload_n (pc' := 26) dX12_readsCurve_0.2.2.2.1 rfl rfl ?_
            refine zW_iload_n (pc' := 27) dX12_readsCurve_0.2.2.2.2 rfl rfl ?_
            refine zW_iconst (pc' := 28) dX12_readsCurve_1.1.1.1.1 rfl ?_
            refine zV_cm_ne (tgt := 35) (pc' := 31) dX12_readsCurve_1.1.1.1.2 rfl rfl ⟨by omega, by omega⟩ ⟨by omega, by omega⟩ (fun c28 => ?_) (fun c28 => ?_)
            · refine zW_iload_n (pc' := 36) dX12_readsCurve_1.1.2.1.1 rfl rfl ?_
              refine zW_iconst (pc' := 37) dX12_readsCurve_1.1.2.1.2 rfl ?_
              refine zW_iadd (pc' := 38) dX12_readsCurve_1.1.2.2.1 rfl ?_
              refine zW_iload_n (pc' := 39) dX12_readsCurve_1.1.2.2.2 rfl rfl ?_
              refine zW_iconst (pc' := 40) dX12_readsCurve_1.2.1.1.1 rfl ?_
              refine zV_cm_ne (tgt := 47) (pc' := 43) dX12_readsCurve_1.2.1.1.2 rfl rfl ⟨by omega, by omega⟩ ⟨by omega, by omega⟩ (fun c40 => ?_) (fun c40 => ?_)
              · refine zW_sipush (pc' := 50) dX12_readsCurve_1.2.2.1.1 rfl rfl ?_
                have y27 := hF.1 0 27 rfl rfl
                obtain ⟨hB, eB⟩ : ∃ z : Hp, z = h := ⟨_, rfl⟩
                have eB31 : hB 0 31 = hA 0 31 := by rw [eB]; omega
                have eB26 : hB 0 26 = h 0 26 := by rw [eB]
                have eB27 : hB 0 27 = h 0 27 := by rw [eB]
                obtain ⟨hB50, eB50⟩ : ∃ z : Hp, z = h := ⟨_, rfl⟩
                have apq : Ap (κ 15) (hB50 15) (κ 0 31) (hB50 0 31) (l) := by rw [eB50]; first | exact ap | exact ap (by omega)
                have y50_0_27 := hF.1 0 27 rfl rfl
                refine cvI2 (pc' := 53) kX12_readsNumber vX12_readsNumber lk_X12_157 ⟨Nat.le_of_ble_eq_true rfl, Nat.le_of_ble_eq_true rfl⟩ tb0 vq12 rfl rfl (s_X12_readsNumberP hF.2.1 hF.2.2.1 hF.2.2.2 _ ⟨by omega, by omega⟩ _ ⟨by omega, by omega⟩ g w (by omega) (by omega) (by rw [hF.cell 12 rfl (fun _ => rfl), hF.1 0 27 rfl rfl]; exact hg) (by omega)) dX12_readsCurve_1.2.2.1.2 (Nat.le_of_ble_eq_true rfl) rfl ?_
                rintro r50 h ⟨hF1, p50⟩; replace hF := hF.tr hF1 rfl
                replace hPre : Pre15 κ h := hPre.tr p50.2.2.2.2.1 (by omega)
                replace hPA : Pre15 hA h := hPA.tr p50.2.2.2.2.1 (by omega)
                have pp := p50
                rw [← eB50] at pp
                have ap : ApI r50 (κ 15) (h 15) (κ 0 31) (h 0 31) (l ++ [nV g w]) := fun z => Ap.tr hq.1 apq (Ap_rn pp.2.2.2.2.1 (pp.2.2.2.2.2.1.resolve_right (fun q => by omega)) (pp.2.2.2.2.2.2.resolve_right (fun q => by omega)))
                clear pp
                refine zV_if_ne (tgt := 58) (pc' := 56) dX12_readsCurve_1.2.2.2.1 rfl rfl ⟨by omega, by omega⟩ (fun c53 => ?_) (fun c53 => ?_)
                · rw [← eB] at p50
                  have hv1 := (p50.2.2.2.2.2.1.resolve_right (fun q => by omega)).2.2.2.2.2
                  rw [eB31] at hv1
                  replace ap := ap (by omega)
                  refine zW_aload_n (pc' := 59) dX12_readsCurve_2.1.1.1.2 rfl rfl ?_
                  refine zG_int (pc' := 62) fg_X12_148 tb0 rfl dX12_readsCurve_2.1.1.2.1 rfl ?_
                  have e59 := hF.rh 0 29
                  refine zW_istore_n (ls' := [_, _]) (pc' := 63) dX12_readsCurve_2.1.1.2.2 (by decide) rfl rfl rfl ?_
                  refine zW_aload_n (pc' := 64) dX12_readsCurve_2.1.2.1.1 rfl rfl ?_
                  refine zW_bipush (pc' := 66) dX12_readsCurve_2.1.2.1.2 rfl rfl ?_
                  have y27 := hF.1 0 27 rfl rfl
                  have y66_0_27 := hF.1 0 27 rfl rfl
                  refine cvI1 (pc' := 69) kX12_takesSign vX12_takesSign lk_X12_154 ⟨Nat.le_of_ble_eq_true rfl, Nat.le_of_ble_eq_true rfl⟩ tb0 vq12 rfl rfl (s_X12_takesSignP hF.2.1 hF.2.2.1 hF.2.2.2 _ ⟨by omega, by omega⟩ g (w + nD g w) (by rw [hF.cell 12 rfl (fun _ => rfl), hF.1 0 27 rfl rfl]; exact hg) (by omega) (by omega)) dX12_readsCurve_2.1.2.2.1 (Nat.le_of_ble_eq_true rfl) rfl ?_
                  rintro r66 h ⟨hF1, p66⟩; replace hF := hF.tr hF1 rfl
                  replace hPre : Pre15 κ h := hPre.fm hF1 (fun _ => rfl)
                  replace hPA : Pre15 hA h := hPA.fm hF1 (fun _ => rfl)
                  replace ap := Ap_eq ap (hF1.cell 15 rfl (fun _ => rfl)) (hF1.1 0 31 rfl rfl)
                  have t66_0_31 := hF1.1 0 31 rfl rfl
                  have t66_0_29 := hF1.1 0 29 rfl rfl
                  have hv2 := (hF1.1 15 (hA 0 31).toNat rfl rfl).trans hv1
                  refine zV_if_eq (tgt := 83) (pc' := 72) dX12_readsCurve_2.1.2.2.2 rfl rfl ⟨by omega, by omega⟩ (fun c69 => ?_) (fun c69 => ?_)
                  · have bd := cu.bad (by omega) (by omega) (by omega)
                    refine zW_iconst (pc' := 84) dX12_readsCurve_2.2.2.1.2 rfl ?_
                    exact zV_zret rfl (by omega) dX12_readsCurve_2.2.2.2.1 ⟨hF, by refine ⟨by omega, by omega, by omega, by omega, hPre, by omega, by omega, fun q => by omega, by omega, fun q => absurd q (by decide)⟩⟩
                  · refine zW_aload_n (pc' := 73) dX12_readsCurve_2.2.1.1.1 rfl rfl ?_
                    refine zW_iconst (pc' := 74) dX12_readsCurve_2.2.1.1.2 rfl ?_
                    refine zW_sipush (pc' := 77) dX12_readsCurve_2.2.1.2.1 rfl rfl ?_
                    have y27 := hF.1 0 27 rfl rfl
                    obtain ⟨hB77, eB77⟩ : ∃ z : Hp, z = h := ⟨_, rfl⟩
                    have apq : Ap (κ 15) (hB77 15) (κ 0 31) (hB77 0 31) (l ++ [nV g w]) := by rw [eB77]; first | exact ap | exact ap (by omega)
                    have y77_0_27 := hF.1 0 27 rfl rfl
                    refine cvI2 (pc' := 80) kX12_readsNumber vX12_readsNumber lk_X12_157 ⟨Nat.le_of_ble_eq_true rfl, Nat.le_of_ble_eq_true rfl⟩ tb0 vq12 rfl rfl (s_X12_readsNumberP hF.2.1 hF.2.2.1 hF.2.2.2 _ ⟨by omega, by omega⟩ _ ⟨by omega, by omega⟩ g (w + nD g w + 1) (by omega) (by omega) (by rw [hF.cell 12 rfl (fun _ => rfl), hF.1 0 27 rfl rfl]; exact hg) (by omega)) dX12_readsCurve_2.2.1.2.2 (Nat.le_of_ble_eq_true rfl) rfl ?_
                    rintro r77 h ⟨hF1, p77⟩; replace hF := hF.tr hF1 rfl
                    replace hPre : Pre15 κ h := hPre.tr p77.2.2.2.2.1 (by omega)
                    replace hPA : Pre15 hA h := hPA.tr p77.2.2.2.2.1 (by omega)
                    have pp := p77
                    rw [← eB77] at pp
                    have ap : ApI r77 (κ 15) (h 15) (κ 0 31) (h 0 31) (l ++ [nV g w] ++ [nV g (w + nD g w + 1)]) := fun z => Ap.tr hq.1 apq (Ap_rn pp.2.2.2.2.1 (pp.2.2.2.2.2.1.resolve_right (fun q => by omega)) (pp.2.2.2.2.2.2.resolve_right (fun q => by omega)))
                    clear pp
                    have hv3 := (p77.2.2.2.2.1 (hA 0 31).toNat (by omega)).trans hv2
                    have hcs := fun (q : r77 = 1) => CvI.step (h := hA) (h' := h) (a := κ 0 31) (b := hA 0 31) (by omega) hcvA (fun j hj => hPA j hj) hv3 (by omega)
                    refine zV_if_ne (tgt := 2) (pc' := 83) dX12_readsCurve_2.2.2.1.1 rfl rfl ⟨by omega, by omega⟩ (fun c80 => ?_) (fun c80 => ?_)
                    · exact k2 _ _ hF (by omega) (by omega) (by omega) hPre (by first | exact Or.inl ⟨rfl, by omega⟩ | (rw [show h 0 31 = hA 0 31 + 2 by omega]; exact hcs (by omega))) (by first | (rw [show h 0 26 = p by omega]; exact CuI.rf (by omega)) | exact cu.step (by omega) (by omega) (by omega) (by omega) (by omega) (by omega)) (by first | exact ⟨[], by rw [show h 0 26 = p by omega]; exact CuJ.rf (by omega), ap⟩ | (refine ⟨l ++ [nV g w, nV g (w + nD g w + 1)], cj.step (by omega) (by omega) (by omega) (by omega) (by omega) pt.2.1 ptY_, ?_⟩; have z := ap (by omega); rw [List.append_assoc] at z; exact z)) (by omega)
                    · have bd := cu.bad (by omega) (by omega) (by omega)
                      refine zW_iconst (pc' := 84) dX12_readsCurve_2.2.2.1.2 rfl ?_
                      exact zV_zret rfl (by omega) dX12_readsCurve_2.2.2.2.1 ⟨hF, by refine ⟨by omega, by omega, by omega, by omega, hPre, by omega, by omega, fun q => by omega, by omega, fun q => absurd q (by decide)⟩⟩
                · have bd := cu.bad (by omega) (by omega) (by omega)
                  refine zW_iconst (pc' := 57) dX12_readsCurve_1.2.2.2.2 rfl ?_
                  exact zV_zret rfl (by omega) dX12_readsCurve_2.1.1.1.1 ⟨hF, by refine ⟨by omega, by omega, by omega, by omega, hPre, by omega, by omega, fun q => by omega, by omega, fun q => absurd q (by decide)⟩⟩
              · exfalso; omega
            · exfalso; omega
          · have pt := ptF_1 (g := g) (p := q) (x := v1) (by omega)
            have c3 := sqc (sF g q 44) (pqF g (q + 1) (v1 + 1) 255)
            have bd := cu.bad (by omega) (by omega) (by omega)
            refine zW_iconst (pc' := 24) dX12_readsCurve_0.2.2.1.1 rfl ?_
            exact zV_zret rfl (by omega) dX12_readsCurve_0.2.2.1.2 ⟨hF, by refine ⟨by omega, by omega, by omega, by omega, hPre, by omega, by omega, fun q => by omega, by omega, fun q => absurd q (by decide)⟩⟩
  refine zM_of [some (.inr (.inr 0)), none] 1 rfl rfl (Nat.le_of_ble_eq_true rfl) rfl ?_
  refine (show ∀ h : Hp, Fm [(0, 26), (0, 28), (0, 29), (0, 31), (15, 999)] κ h → h = κ → zV G mX12_readsCurve (q_X12_readsCurveQ κ g p) 0 [some (.inr (.inr 0)), none] [] h from fun h hF hk0 => ?_) κ (Fm.rf hS hR hC) rfl
  have y0_0_26 : h 0 26 = κ 0 26 := by rw [hk0]
  have y0_0_27 : h 0 27 = κ 0 27 := by rw [hk0]
  have y0_0_31 : h 0 31 = κ 0 31 := by rw [hk0]
  have hPre : Pre15 κ h := by rw [hk0]; exact Pre15.rf
  obtain ⟨hA, eA⟩ : ∃ z : Hp, z = h := ⟨_, rfl⟩
  have hPA : Pre15 hA h := by rw [eA]; exact Pre15.rf
  have ap : Ap (κ 15) (h 15) (κ 0 31) (h 0 31) [] := by rw [hk0]; exact Ap.rf
  refine zW_iconst (pc' := 1) dX12_readsCurve_0.1.1.1.1 rfl ?_
  refine zW_istore_n (ls' := [_, _]) (pc' := 2) dX12_readsCurve_0.1.1.1.2 (by decide) rfl rfl rfl ?_
  exact (main 10000000000000000000000000000000000000000) _ _ hF (by omega) (by omega) (by omega) hPre (by first | exact Or.inl ⟨rfl, by omega⟩ | (rw [show h 0 31 = hA 0 31 + 2 by omega]; exact hcs (by omega))) (by first | (rw [show h 0 26 = p by omega]; exact CuI.rf (by omega)) | exact cu.step (by omega) (by omega) (by omega) (by omega) (by omega) (by omega)) (by first | exact ⟨[], by rw [show h 0 26 = p by omega]; exact CuJ.rf (by omega), ap⟩ | (refine ⟨l ++ [nV g w, nV g (w + nD g w + 1)], cj.step (by omega) (by omega) (by omega) (by omega) (by omega) pt.2.1 ptY_, ?_⟩; have z := ap (by omega); rw [List.append_assoc] at z; exact z)) (by omega)

abbrev q_X12_readsNumbersQ (κ : Hp) (x1 : Int) (g : Int → Int) (p : Int) : Int → Hp → Prop := fun r h' => Fm [(0, 26), (0, 28), (0, 29), (0, 31), (15, 999)] κ h' ∧ ((0 ≤ r) ∧ (r ≤ 1) ∧ (κ 0 26 ≤ h' 0 26 ∧ h' 0 26 ≤ κ 0 27 ∧ Pre15 κ h' ∧ κ 0 31 ≤ h' 0 31 ∧ h' 0 31 ≤ h' 0 26 ∧ (r = 1 → κ 0 31 < h' 0 31 ∧ (x1 = 111 ∨ x1 = 112 → 1 ≤ h' 15 (κ 0 31).toNat ∧ h' 15 (κ 0 31).toNat ≤ 4) ∧ (x1 = 116 → Cv h' (κ 0 31) (h' 0 31))) ∧ ((r = 1 ∧ nbF g x1 p = 0 ∧ h' 0 26 = nbE g x1 p) ∨ (r = 0 ∧ nbF g x1 p ≠ 0 ∧ h' 0 28 = nbF g x1 p ∧ h' 0 28 < 0)) ∧ ApI r (κ 15) (h' 15) (κ 0 31) (h' 0 31) (nbL g x1 p)))
set_option maxHeartbeats 4000000 in
set_option maxRecDepth 20000 in
theorem s_X12_readsNumbersQ {G : Ga} {κ : Hp} (hS : SI κ) (hR : KR κ) (hC : KC κ) (x1 : Int) (hx1 : 0 ≤ x1 ∧ x1 ≤ 255) (g : Int → Int) (p : Int) (hp : 0 ≤ κ 0 26 ∧ κ 0 26 ≤ κ 0 27 ∧ κ 0 27 ≤ 120) (hq : 0 ≤ κ 0 31 ∧ κ 0 31 ≤ κ 0 26) (hg : hr (fun i => κ 12 i % 256) (κ 0 27) = g) (ht : κ 0 26 = p) (hl : 0 ≤ kd x1) : zM G mX12_readsNumbers yX12_readsNumbers [.inr (.inr 0), .inl x1] κ (q_X12_readsNumbersQ κ x1 g p) := by
  refine zM_of [some (.inr (.inr 0)), some (.inl x1)] 0 rfl rfl (Nat.le_of_ble_eq_true rfl) rfl ?_
  refine (show ∀ h : Hp, Fm [(0, 26), (0, 28), (0, 29), (0, 31), (15, 999)] κ h → h = κ → zV G mX12_readsNumbers (q_X12_readsNumbersQ κ x1 g p) 0 [some (.inr (.inr 0)), some (.inl x1)] [] h from fun h hF hk0 => ?_) κ (Fm.rf hS hR hC) rfl
  have y0_0_26 : h 0 26 = κ 0 26 := by rw [hk0]
  have y0_0_27 : h 0 27 = κ 0 27 := by rw [hk0]
  have y0_0_31 : h 0 31 = κ 0 31 := by rw [hk0]
  have hPre : Pre15 κ h := by rw [hk0]; exact Pre15.rf
  have ap : Ap (κ 15) (h 15) (κ 0 31) (h 0 31) [] := by rw [hk0]; exact Ap.rf
  refine zW_iload_n (pc' := 1) dX12_readsNumbers_0.1.1.1.1 rfl rfl ?_
  refine zW_tsw2 (fun z t => (z = 98 ∧ t = 112) ∨ (z = 100 ∧ t = 112) ∨ (z = 102 ∧ t = 128) ∨ (z = 103 ∧ t = 195) ∨ (z = 104 ∧ t = 142) ∨ (z = 108 ∧ t = 151) ∨ (z = 109 ∧ t = 151) ∨ (z = 110 ∧ t = 256) ∨ (z = 111 ∧ t = 121) ∨ (z = 112 ∧ t = 231) ∨ (z = 115 ∧ t = 256) ∨ (z = 118 ∧ t = 135) ∨ (z = 119 ∧ t = 112) ∨ (z = 121 ∧ t = 159) ∨ (t = 282 ∧ z ≠ 98 ∧ z ≠ 100 ∧ z ≠ 111 ∧ z ≠ 108 ∧ z ≠ 102 ∧ z ≠ 118 ∧ z ≠ 119 ∧ z ≠ 104 ∧ z ≠ 121 ∧ z ≠ 103 ∧ z ≠ 109 ∧ z ≠ 112 ∧ z ≠ 110 ∧ z ≠ 115)) (fun z => if z = 98 then 112 else if z = 100 then 112 else if z = 102 then 128 else if z = 103 then 195 else if z = 104 then 142 else if z = 108 then 151 else if z = 109 then 151 else if z = 110 then 256 else if z = 111 then 121 else if z = 112 then 231 else if z = 115 then 256 else if z = 118 then 135 else if z = 119 then 112 else if z = 121 then 159 else 282) dX12_readsNumbers_0.1.1.1.2 ⟨by omega, by omega⟩ (tsw_ok (pc := 1) (lo := 98) (offs := #[111, 281, 111, 281, 127, 194, 141, 281, 281, 281, 150, 150, 255, 120, 230, 281, 281, 255, 281, 281, 134, 111, 281, 158]) (tg := fun z => if z = 98 then 112 else if z = 100 then 112 else if z = 102 then 128 else if z = 103 then 195 else if z = 104 then 142 else if z = 108 then 151 else if z = 109 then 151 else if z = 110 then 256 else if z = 111 then 121 else if z = 112 then 231 else if z = 115 then 256 else if z = 118 then 135 else if z = 119 then 112 else if z = 121 then 159 else 282) (by decide +kernel)) rfl (by decide +kernel) (td := 282) rfl (fun c1 => ?_) (fun t1 w1 => ?_)
  · have nb := nb_else (g := g) (c := x1) (p := p) (by omega)
    have e116 : x1 = 116 := kd_116 hl (by omega)
    have nl : nbL g x1 p = cuL g 200 p (-1) := by rw [e116]; exact nl_116
    refine zW_aload_n (pc' := 283) dX12_readsNumbers_6.1.2 rfl rfl ?_
    have y27 := hF.1 0 27 rfl rfl
    obtain ⟨hB, eB⟩ : ∃ z : Hp, z = h := ⟨_, rfl⟩
    have eB31 : hB 0 31 = κ 0 31 := by rw [eB, hk0]
    have eB26 : hB 0 26 = κ 0 26 := by rw [eB, hk0]
    have eB27 : hB 0 27 = κ 0 27 := by rw [eB, hk0]
    obtain ⟨hB283, eB283⟩ : ∃ z : Hp, z = h := ⟨_, rfl⟩
    have apq : Ap (κ 15) (hB283 15) (κ 0 31) (hB283 0 31) [] := by rw [eB283]; exact ap
    have y283_0_27 := hF.1 0 27 rfl rfl
    refine cvI0 (pc' := 286) kX12_readsCurve vX12_readsCurve lk_X12_163 ⟨Nat.le_of_ble_eq_true rfl, Nat.le_of_ble_eq_true rfl⟩ tb0 vq12 rfl rfl (s_X12_readsCurveQ hF.2.1 hF.2.2.1 hF.2.2.2 g p (by omega) (by omega) (by rw [hF.cell 12 rfl (fun _ => rfl), hF.1 0 27 rfl rfl]; exact hg) (by omega)) dX12_readsNumbers_6.2.1 (Nat.le_of_ble_eq_true rfl) rfl ?_
    rintro r283 h ⟨hF1, p283⟩; replace hF := hF.tr hF1 rfl
    replace hPre : Pre15 κ h := hPre.tr p283.2.2.2.2.1 (by omega)
    have pp := p283
    rw [← eB283] at pp
    have ap : ApI r283 (κ 15) (h 15) (κ 0 31) (h 0 31) (cuL g 200 p (-1)) := fun z => Ap.tr hq.1 apq (pp.2.2.2.2.2.2.2.2.2 z)
    clear pp
    rw [← eB] at p283
    have hcv := p283.2.2.2.2.2.2.2.1
    rw [eB31] at hcv
    exact zV_zret rfl (by omega) dX12_readsNumbers_6.2.2 ⟨hF, (a9 (by refine ⟨by omega, by omega, by omega, by omega, hPre, by omega, by omega, fun q => ⟨?_, fun z => absurd z (by omega), fun _ => hcv q⟩⟩; have := (hcv q).1; omega) (by omega) (by first | exact (fun z => absurd z (by decide)) | (rw [nl]; exact ap) | (rw [nl]; exact fun _ => ap (by omega))))⟩
  · rcases w1 with ⟨s98, rfl⟩ | ⟨s100, rfl⟩ | ⟨s102, rfl⟩ | ⟨s103, rfl⟩ | ⟨s104, rfl⟩ | ⟨s108, rfl⟩ | ⟨s109, rfl⟩ | ⟨s110, rfl⟩ | ⟨s111, rfl⟩ | ⟨s112, rfl⟩ | ⟨s115, rfl⟩ | ⟨s118, rfl⟩ | ⟨s119, rfl⟩ | ⟨s121, rfl⟩ | ⟨rfl, n98, n100, n111, n108, n102, n118, n119, n104, n121, n103, n109, n112, n110, n115⟩
    · first | have nb : nbF g x1 p = nF g p 0 255 ∧ nbE g x1 p = p + nD g p := by rw [s98]; exact nb_98 | have nb : nbF g x1 p = nF g p 0 255 ∧ nbE g x1 p = p + nD g p := by rw [s100]; exact nb_100 | have nb : nbF g x1 p = nF g p 0 255 ∧ nbE g x1 p = p + nD g p := by rw [s119]; exact nb_119
      first | have nl : nbL g x1 p = [nV g p] := by rw [s98]; exact nl_98 | have nl : nbL g x1 p = [nV g p] := by rw [s100]; exact nl_100 | have nl : nbL g x1 p = [nV g p] := by rw [s119]; exact nl_119
      refine zW_aload_n (pc' := 113) dX12_readsNumbers_0.1.1.2.1 rfl rfl ?_
      refine zW_iconst (pc' := 114) dX12_readsNumbers_0.1.1.2.2 rfl ?_
      refine zW_sipush (pc' := 117) dX12_readsNumbers_0.1.2.1.1 rfl rfl ?_
      have y27 := hF.1 0 27 rfl rfl
      obtain ⟨hB117, eB117⟩ : ∃ z : Hp, z = h := ⟨_, rfl⟩
      have apq : Ap (κ 15) (hB117 15) (κ 0 31) (hB117 0 31) ([]) := by rw [eB117]; first | exact ap | exact ap (by omega)
      have y117_0_27 := hF.1 0 27 rfl rfl
      refine cvI2 (pc' := 120) kX12_readsNumber vX12_readsNumber lk_X12_157 ⟨Nat.le_of_ble_eq_true rfl, Nat.le_of_ble_eq_true rfl⟩ tb0 vq12 rfl rfl (s_X12_readsNumberP hF.2.1 hF.2.2.1 hF.2.2.2 _ ⟨by omega, by omega⟩ _ ⟨by omega, by omega⟩ g p (by omega) (by omega) (by rw [hF.cell 12 rfl (fun _ => rfl), hF.1 0 27 rfl rfl]; exact hg) (by omega)) dX12_readsNumbers_0.1.2.1.2 (Nat.le_of_ble_eq_true rfl) rfl ?_
      rintro r117 h ⟨hF1, p117⟩; replace hF := hF.tr hF1 rfl
      replace hPre : Pre15 κ h := hPre.tr p117.2.2.2.2.1 (by omega)
      have pp := p117
      rw [← eB117] at pp
      have ap : ApI r117 (κ 15) (h 15) (κ 0 31) (h 0 31) ([nV g p]) := fun z => Ap.tr hq.1 apq (Ap_rn pp.2.2.2.2.1 (pp.2.2.2.2.2.1.resolve_right (fun q => by omega)) (pp.2.2.2.2.2.2.resolve_right (fun q => by omega)))
      clear pp
      exact zV_zret rfl (by omega) dX12_readsNumbers_0.1.2.2.1 ⟨hF, (a9 (by refine ⟨by omega, by omega, by omega, by omega, hPre, by omega, by omega, fun q => ⟨by omega, fun z => absurd z (by omega), fun z => absurd z (by omega)⟩⟩) (by omega) (by first | exact (fun z => absurd z (by decide)) | (rw [nl]; exact ap) | (rw [nl]; exact fun _ => ap (by omega))))⟩
    · first | have nb : nbF g x1 p = nF g p 0 255 ∧ nbE g x1 p = p + nD g p := by rw [s98]; exact nb_98 | have nb : nbF g x1 p = nF g p 0 255 ∧ nbE g x1 p = p + nD g p := by rw [s100]; exact nb_100 | have nb : nbF g x1 p = nF g p 0 255 ∧ nbE g x1 p = p + nD g p := by rw [s119]; exact nb_119
      first | have nl : nbL g x1 p = [nV g p] := by rw [s98]; exact nl_98 | have nl : nbL g x1 p = [nV g p] := by rw [s100]; exact nl_100 | have nl : nbL g x1 p = [nV g p] := by rw [s119]; exact nl_119
      refine zW_aload_n (pc' := 113) dX12_readsNumbers_0.1.1.2.1 rfl rfl ?_
      refine zW_iconst (pc' := 114) dX12_readsNumbers_0.1.1.2.2 rfl ?_
      refine zW_sipush (pc' := 117) dX12_readsNumbers_0.1.2.1.1 rfl rfl ?_
      have y27 := hF.1 0 27 rfl rfl
      obtain ⟨hB117, eB117⟩ : ∃ z : Hp, z = h := ⟨_, rfl⟩
      have apq : Ap (κ 15) (hB117 15) (κ 0 31) (hB117 0 31) ([]) := by rw [eB117]; first | exact ap | exact ap (by omega)
      have y117_0_27 := hF.1 0 27 rfl rfl
      refine cvI2 (pc' := 120) kX12_readsNumber vX12_readsNumber lk_X12_157 ⟨Nat.le_of_ble_eq_true rfl, Nat.le_of_ble_eq_true rfl⟩ tb0 vq12 rfl rfl (s_X12_readsNumberP hF.2.1 hF.2.2.1 hF.2.2.2 _ ⟨by omega, by omega⟩ _ ⟨by omega, by omega⟩ g p (by omega) (by omega) (by rw [hF.cell 12 rfl (fun _ => rfl), hF.1 0 27 rfl rfl]; exact hg) (by omega)) dX12_readsNumbers_0.1.2.1.2 (Nat.le_of_ble_eq_true rfl) rfl ?_
      rintro r117 h ⟨hF1, p117⟩; replace hF := hF.tr hF1 rfl
      replace hPre : Pre15 κ h := hPre.tr p117.2.2.2.2.1 (by omega)
      have pp := p117
      rw [← eB117] at pp
      have ap : ApI r117 (κ 15) (h 15) (κ 0 31) (h 0 31) ([nV g p]) := fun z => Ap.tr hq.1 apq (Ap_rn pp.2.2.2.2.1 (pp.2.2.2.2.2.1.resolve_right (fun q => by omega)) (pp.2.2.2.2.2.2.resolve_right (fun q => by omega)))
      clear pp
      exact zV_zret rfl (by omega) dX12_readsNumbers_0.1.2.2.1 ⟨hF, (a9 (by refine ⟨by omega, by omega, by omega, by omega, hPre, by omega, by omega, fun q => ⟨by omega, fun z => absurd z (by omega), fun z => absurd z (by omega)⟩⟩) (by omega) (by first | exact (fun z => absurd z (by decide)) | (rw [nl]; exact ap) | (rw [nl]; exact fun _ => ap (by omega))))⟩
    · first | have nb : nbF g x1 p = nF g p 0 1 ∧ nbE g x1 p = p + nD g p := by rw [s102]; exact nb_102
      first | have nl : nbL g x1 p = [nV g p] := by rw [s102]; exact nl_102
      refine zW_aload_n (pc' := 129) dX12_readsNumbers_0.2.2.1.1 rfl rfl ?_
      refine zW_iconst (pc' := 130) dX12_readsNumbers_0.2.2.1.2 rfl ?_
      refine zW_iconst (pc' := 131) dX12_readsNumbers_0.2.2.2.1 rfl ?_
      have y27 := hF.1 0 27 rfl rfl
      obtain ⟨hB131, eB131⟩ : ∃ z : Hp, z = h := ⟨_, rfl⟩
      have apq : Ap (κ 15) (hB131 15) (κ 0 31) (hB131 0 31) ([]) := by rw [eB131]; first | exact ap | exact ap (by omega)
      have y131_0_27 := hF.1 0 27 rfl rfl
      refine cvI2 (pc' := 134) kX12_readsNumber vX12_readsNumber lk_X12_157 ⟨Nat.le_of_ble_eq_true rfl, Nat.le_of_ble_eq_true rfl⟩ tb0 vq12 rfl rfl (s_X12_readsNumberP hF.2.1 hF.2.2.1 hF.2.2.2 _ ⟨by omega, by omega⟩ _ ⟨by omega, by omega⟩ g p (by omega) (by omega) (by rw [hF.cell 12 rfl (fun _ => rfl), hF.1 0 27 rfl rfl]; exact hg) (by omega)) dX12_readsNumbers_0.2.2.2.2 (Nat.le_of_ble_eq_true rfl) rfl ?_
      rintro r131 h ⟨hF1, p131⟩; replace hF := hF.tr hF1 rfl
      replace hPre : Pre15 κ h := hPre.tr p131.2.2.2.2.1 (by omega)
      have pp := p131
      rw [← eB131] at pp
      have ap : ApI r131 (κ 15) (h 15) (κ 0 31) (h 0 31) ([nV g p]) := fun z => Ap.tr hq.1 apq (Ap_rn pp.2.2.2.2.1 (pp.2.2.2.2.2.1.resolve_right (fun q => by omega)) (pp.2.2.2.2.2.2.resolve_right (fun q => by omega)))
      clear pp
      exact zV_zret rfl (by omega) dX12_readsNumbers_1.1.1.1.1 ⟨hF, (a9 (by refine ⟨by omega, by omega, by omega, by omega, hPre, by omega, by omega, fun q => ⟨by omega, fun z => absurd z (by omega), fun z => absurd z (by omega)⟩⟩) (by omega) (by first | exact (fun z => absurd z (by decide)) | (rw [nl]; exact ap) | (rw [nl]; exact fun _ => ap (by omega))))⟩
    · first | have nb : nbF g x1 p = n3F g p 0 99 99 ∧ nbE g x1 p = n3E g p := by rw [s103]; exact nb_103
      have u2 : n2F g p 0 99 99 = sq (nF g p 0 99) (nxF g (p + nD g p) 99) := rfl
      have s2 := sqc (nF g p 0 99) (nxF g (p + nD g p) 99)
      have u4 : n2E g p = nxE g (p + nD g p) := rfl
      have u3 : n3F g p 0 99 99 = sq (n2F g p 0 99 99) (nxF g (n2E g p) 99) := rfl
      have s3 := sqc (n2F g p 0 99 99) (nxF g (n2E g p) 99)
      have u5 : n3E g p = nxE g (n2E g p) := rfl
      first | have nl : nbL g x1 p = [nV g p, nV g (p + nD g p + 1), nV g (n2E g p + 1)] := by rw [s103]; exact nl_103
      refine zW_aload_n (pc' := 196) dX12_readsNumbers_3.1.1.2.2 rfl rfl ?_
      refine zW_iconst (pc' := 197) dX12_readsNumbers_3.1.2.1.1 rfl ?_
      refine zW_bipush (pc' := 199) dX12_readsNumbers_3.1.2.1.2 rfl rfl ?_
      have y27 := hF.1 0 27 rfl rfl
      obtain ⟨hB199, eB199⟩ : ∃ z : Hp, z = h := ⟨_, rfl⟩
      have apq : Ap (κ 15) (hB199 15) (κ 0 31) (hB199 0 31) ([]) := by rw [eB199]; first | exact ap | exact ap (by omega)
      have y199_0_27 := hF.1 0 27 rfl rfl
      refine cvI2 (pc' := 202) kX12_readsNumber vX12_readsNumber lk_X12_157 ⟨Nat.le_of_ble_eq_true rfl, Nat.le_of_ble_eq_true rfl⟩ tb0 vq12 rfl rfl (s_X12_readsNumberP hF.2.1 hF.2.2.1 hF.2.2.2 _ ⟨by omega, by omega⟩ _ ⟨by omega, by omega⟩ g p (by omega) (by omega) (by rw [hF.cell 12 rfl (fun _ => rfl), hF.1 0 27 rfl rfl]; exact hg) (by omega)) dX12_readsNumbers_3.1.2.2.1 (Nat.le_of_ble_eq_true rfl) rfl ?_
      rintro r199 h ⟨hF1, p199⟩; replace hF := hF.tr hF1 rfl
      replace hPre : Pre15 κ h := hPre.tr p199.2.2.2.2.1 (by omega)
      have pp := p199
      rw [← eB199] at pp
      have ap : ApI r199 (κ 15) (h 15) (κ 0 31) (h 0 31) ([nV g p]) := fun z => Ap.tr hq.1 apq (Ap_rn pp.2.2.2.2.1 (pp.2.2.2.2.2.1.resolve_right (fun q => by omega)) (pp.2.2.2.2.2.2.resolve_right (fun q => by omega)))
      clear pp
      refine zV_if_eq (tgt := 229) (pc' := 205) dX12_readsNumbers_3.1.2.2.2 rfl rfl ⟨by omega, by omega⟩ (fun c202 => ?_) (fun c202 => ?_)
      · refine zW_iconst (pc' := 230) dX12_readsNumbers_4.1.2.1.1 rfl ?_
        exact zV_zret rfl (by omega) dX12_readsNumbers_4.1.2.1.2 ⟨hF, (a9 (by refine ⟨by omega, by omega, by omega, by omega, hPre, by omega, by omega, fun q => ⟨by omega, fun z => absurd z (by omega), fun z => absurd z (by omega)⟩⟩) (by omega) (by first | exact (fun z => absurd z (by decide)) | (rw [nl]; exact ap) | (rw [nl]; exact fun _ => ap (by omega))))⟩
      · refine zW_aload_n (pc' := 206) dX12_readsNumbers_3.2.1.1.1 rfl rfl ?_
        refine zW_iconst (pc' := 207) dX12_readsNumbers_3.2.1.1.2 rfl ?_
        refine zW_bipush (pc' := 209) dX12_readsNumbers_3.2.1.2.1 rfl rfl ?_
        have y27 := hF.1 0 27 rfl rfl
        obtain ⟨hB209, eB209⟩ : ∃ z : Hp, z = h := ⟨_, rfl⟩
        have apq : Ap (κ 15) (hB209 15) (κ 0 31) (hB209 0 31) ([nV g p]) := by rw [eB209]; first | exact ap | exact ap (by omega)
        have y209_0_27 := hF.1 0 27 rfl rfl
        refine cvI2 (pc' := 212) kX12_readsNext vX12_readsNext lk_X12_160 ⟨Nat.le_of_ble_eq_true rfl, Nat.le_of_ble_eq_true rfl⟩ tb0 vq12 rfl rfl (s_X12_readsNextQ hF.2.1 hF.2.2.1 hF.2.2.2 _ ⟨by omega, by omega⟩ _ ⟨by omega, by omega⟩ g (p + nD g p) (by omega) (by omega) (by rw [hF.cell 12 rfl (fun _ => rfl), hF.1 0 27 rfl rfl]; exact hg) (by omega)) dX12_readsNumbers_3.2.1.2.2 (Nat.le_of_ble_eq_true rfl) rfl ?_
        rintro r209 h ⟨hF1, p209⟩; replace hF := hF.tr hF1 rfl
        replace hPre : Pre15 κ h := hPre.tr p209.2.2.2.2.1 (by omega)
        have pp := p209
        rw [← eB209] at pp
        have ap : ApI r209 (κ 15) (h 15) (κ 0 31) (h 0 31) ([nV g p] ++ [nV g (p + nD g p + 1)]) := fun z => Ap.tr hq.1 apq (pp.2.2.2.2.2.2.2 z)
        clear pp
        refine zV_if_eq (tgt := 229) (pc' := 215) dX12_readsNumbers_3.2.2.1.1 rfl rfl ⟨by omega, by omega⟩ (fun c212 => ?_) (fun c212 => ?_)
        · refine zW_iconst (pc' := 230) dX12_readsNumbers_4.1.2.1.1 rfl ?_
          exact zV_zret rfl (by omega) dX12_readsNumbers_4.1.2.1.2 ⟨hF, (a9 (by refine ⟨by omega, by omega, by omega, by omega, hPre, by omega, by omega, fun q => ⟨by omega, fun z => absurd z (by omega), fun z => absurd z (by omega)⟩⟩) (by omega) (by first | exact (fun z => absurd z (by decide)) | (rw [nl]; exact ap) | (rw [nl]; exact fun _ => ap (by omega))))⟩
        · refine zW_aload_n (pc' := 216) dX12_readsNumbers_3.2.2.1.2 rfl rfl ?_
          refine zW_iconst (pc' := 217) dX12_readsNumbers_3.2.2.2.1 rfl ?_
          refine zW_bipush (pc' := 219) dX12_readsNumbers_3.2.2.2.2 rfl rfl ?_
          have y27 := hF.1 0 27 rfl rfl
          obtain ⟨hB219, eB219⟩ : ∃ z : Hp, z = h := ⟨_, rfl⟩
          have apq : Ap (κ 15) (hB219 15) (κ 0 31) (hB219 0 31) ([nV g p] ++ [nV g (p + nD g p + 1)]) := by rw [eB219]; first | exact ap | exact ap (by omega)
          have y219_0_27 := hF.1 0 27 rfl rfl
          refine cvI2 (pc' := 222) kX12_readsNext vX12_readsNext lk_X12_160 ⟨Nat.le_of_ble_eq_true rfl, Nat.le_of_ble_eq_true rfl⟩ tb0 vq12 rfl rfl (s_X12_readsNextQ hF.2.1 hF.2.2.1 hF.2.2.2 _ ⟨by omega, by omega⟩ _ ⟨by omega, by omega⟩ g (n2E g p) (by omega) (by omega) (by rw [hF.cell 12 rfl (fun _ => rfl), hF.1 0 27 rfl rfl]; exact hg) (by omega)) dX12_readsNumbers_4.1.1.1.1 (Nat.le_of_ble_eq_true rfl) rfl ?_
          rintro r219 h ⟨hF1, p219⟩; replace hF := hF.tr hF1 rfl
          replace hPre : Pre15 κ h := hPre.tr p219.2.2.2.2.1 (by omega)
          have pp := p219
          rw [← eB219] at pp
          have ap : ApI r219 (κ 15) (h 15) (κ 0 31) (h 0 31) ([nV g p] ++ [nV g (p + nD g p + 1)] ++ [nV g (n2E g p + 1)]) := fun z => Ap.tr hq.1 apq (pp.2.2.2.2.2.2.2 z)
          clear pp
          refine zV_if_eq (tgt := 229) (pc' := 225) dX12_readsNumbers_4.1.1.1.2 rfl rfl ⟨by omega, by omega⟩ (fun c222 => ?_) (fun c222 => ?_)
          · refine zW_iconst (pc' := 230) dX12_readsNumbers_4.1.2.1.1 rfl ?_
            exact zV_zret rfl (by omega) dX12_readsNumbers_4.1.2.1.2 ⟨hF, (a9 (by refine ⟨by omega, by omega, by omega, by omega, hPre, by omega, by omega, fun q => ⟨by omega, fun z => absurd z (by omega), fun z => absurd z (by omega)⟩⟩) (by omega) (by first | exact (fun z => absurd z (by decide)) | (rw [nl]; exact ap) | (rw [nl]; exact fun _ => ap (by omega))))⟩
          · refine zW_iconst (pc' := 226) dX12_readsNumbers_4.1.1.2.1 rfl ?_
            refine zV_goto 230 dX12_readsNumbers_4.1.1.2.2 rfl ?_
            exact zV_zret rfl (by omega) dX12_readsNumbers_4.1.2.1.2 ⟨hF, (a9 (by refine ⟨by omega, by omega, by omega, by omega, hPre, by omega, by omega, fun q => ⟨by omega, fun z => absurd z (by omega), fun z => absurd z (by omega)⟩⟩) (by omega) (by first | exact (fun z => absurd z (by decide)) | (rw [nl]; exact ap) | (rw [nl]; exact fun _ => ap (by omega))))⟩
    · first | have nb : nbF g x1 p = nF g p 0 254 ∧ nbE g x1 p = p + nD g p := by rw [s104]; exact nb_104
      first | have nl : nbL g x1 p = [nV g p] := by rw [s104]; exact nl_104
      refine zW_aload_n (pc' := 143) dX12_readsNumbers_1.1.2.2.1 rfl rfl ?_
      refine zW_iconst (pc' := 144) dX12_readsNumbers_1.1.2.2.2 rfl ?_
      refine zW_sipush (pc' := 147) dX12_readsNumbers_1.2.1.1.1 rfl rfl ?_
      have y27 := hF.1 0 27 rfl rfl
      obtain ⟨hB147, eB147⟩ : ∃ z : Hp, z = h := ⟨_, rfl⟩
      have apq : Ap (κ 15) (hB147 15) (κ 0 31) (hB147 0 31) ([]) := by rw [eB147]; first | exact ap | exact ap (by omega)
      have y147_0_27 := hF.1 0 27 rfl rfl
      refine cvI2 (pc' := 150) kX12_readsNumber vX12_readsNumber lk_X12_157 ⟨Nat.le_of_ble_eq_true rfl, Nat.le_of_ble_eq_true rfl⟩ tb0 vq12 rfl rfl (s_X12_readsNumberP hF.2.1 hF.2.2.1 hF.2.2.2 _ ⟨by omega, by omega⟩ _ ⟨by omega, by omega⟩ g p (by omega) (by omega) (by rw [hF.cell 12 rfl (fun _ => rfl), hF.1 0 27 rfl rfl]; exact hg) (by omega)) dX12_readsNumbers_1.2.1.1.2 (Nat.le_of_ble_eq_true rfl) rfl ?_
      rintro r147 h ⟨hF1, p147⟩; replace hF := hF.tr hF1 rfl
      replace hPre : Pre15 κ h := hPre.tr p147.2.2.2.2.1 (by omega)
      have pp := p147
      rw [← eB147] at pp
      have ap : ApI r147 (κ 15) (h 15) (κ 0 31) (h 0 31) ([nV g p]) := fun z => Ap.tr hq.1 apq (Ap_rn pp.2.2.2.2.1 (pp.2.2.2.2.2.1.resolve_right (fun q => by omega)) (pp.2.2.2.2.2.2.resolve_right (fun q => by omega)))
      clear pp
      exact zV_zret rfl (by omega) dX12_readsNumbers_1.2.1.2.1 ⟨hF, (a9 (by refine ⟨by omega, by omega, by omega, by omega, hPre, by omega, by omega, fun q => ⟨by omega, fun z => absurd z (by omega), fun z => absurd z (by omega)⟩⟩) (by omega) (by first | exact (fun z => absurd z (by decide)) | (rw [nl]; exact ap) | (rw [nl]; exact fun _ => ap (by omega))))⟩
    · first | have nb : nbF g x1 p = nF g p 0 99 ∧ nbE g x1 p = p + nD g p := by rw [s108]; exact nb_108 | have nb : nbF g x1 p = nF g p 0 99 ∧ nbE g x1 p = p + nD g p := by rw [s109]; exact nb_109
      first | have nl : nbL g x1 p = [nV g p] := by rw [s108]; exact nl_108 | have nl : nbL g x1 p = [nV g p] := by rw [s109]; exact nl_109
      refine zW_aload_n (pc' := 152) dX12_readsNumbers_1.2.1.2.2 rfl rfl ?_
      refine zW_iconst (pc' := 153) dX12_readsNumbers_1.2.2.1.1 rfl ?_
      refine zW_bipush (pc' := 155) dX12_readsNumbers_1.2.2.1.2 rfl rfl ?_
      have y27 := hF.1 0 27 rfl rfl
      obtain ⟨hB155, eB155⟩ : ∃ z : Hp, z = h := ⟨_, rfl⟩
      have apq : Ap (κ 15) (hB155 15) (κ 0 31) (hB155 0 31) ([]) := by rw [eB155]; first | exact ap | exact ap (by omega)
      have y155_0_27 := hF.1 0 27 rfl rfl
      refine cvI2 (pc' := 158) kX12_readsNumber vX12_readsNumber lk_X12_157 ⟨Nat.le_of_ble_eq_true rfl, Nat.le_of_ble_eq_true rfl⟩ tb0 vq12 rfl rfl (s_X12_readsNumberP hF.2.1 hF.2.2.1 hF.2.2.2 _ ⟨by omega, by omega⟩ _ ⟨by omega, by omega⟩ g p (by omega) (by omega) (by rw [hF.cell 12 rfl (fun _ => rfl), hF.1 0 27 rfl rfl]; exact hg) (by omega)) dX12_readsNumbers_1.2.2.2.1 (Nat.le_of_ble_eq_true rfl) rfl ?_
      rintro r155 h ⟨hF1, p155⟩; replace hF := hF.tr hF1 rfl
      replace hPre : Pre15 κ h := hPre.tr p155.2.2.2.2.1 (by omega)
      have pp := p155
      rw [← eB155] at pp
      have ap : ApI r155 (κ 15) (h 15) (κ 0 31) (h 0 31) ([nV g p]) := fun z => Ap.tr hq.1 apq (Ap_rn pp.2.2.2.2.1 (pp.2.2.2.2.2.1.resolve_right (fun q => by omega)) (pp.2.2.2.2.2.2.resolve_right (fun q => by omega)))
      clear pp
      exact zV_zret rfl (by omega) dX12_readsNumbers_1.2.2.2.2 ⟨hF, (a9 (by refine ⟨by omega, by omega, by omega, by omega, hPre, by omega, by omega, fun q => ⟨by omega, fun z => absurd z (by omega), fun z => absurd z (by omega)⟩⟩) (by omega) (by first | exact (fun z => absurd z (by decide)) | (rw [nl]; exact ap) | (rw [nl]; exact fun _ => ap (by omega))))⟩
    · first | have nb : nbF g x1 p = nF g p 0 99 ∧ nbE g x1 p = p + nD g p := by rw [s108]; exact nb_108 | have nb : nbF g x1 p = nF g p 0 99 ∧ nbE g x1 p = p + nD g p := by rw [s109]; exact nb_109
      first | have nl : nbL g x1 p = [nV g p] := by rw [s108]; exact nl_108 | have nl : nbL g x1 p = [nV g p] := by rw [s109]; exact nl_109
      refine zW_aload_n (pc' := 152) dX12_readsNumbers_1.2.1.2.2 rfl rfl ?_
      refine zW_iconst (pc' := 153) dX12_readsNumbers_1.2.2.1.1 rfl ?_
      refine zW_bipush (pc' := 155) dX12_readsNumbers_1.2.2.1.2 rfl rfl ?_
      have y27 := hF.1 0 27 rfl rfl
      obtain ⟨hB155, eB155⟩ : ∃ z : Hp, z = h := ⟨_, rfl⟩
      have apq : Ap (κ 15) (hB155 15) (κ 0 31) (hB155 0 31) ([]) := by rw [eB155]; first | exact ap | exact ap (by omega)
      have y155_0_27 := hF.1 0 27 rfl rfl
      refine cvI2 (pc' := 158) kX12_readsNumber vX12_readsNumber lk_X12_157 ⟨Nat.le_of_ble_eq_true rfl, Nat.le_of_ble_eq_true rfl⟩ tb0 vq12 rfl rfl (s_X12_readsNumberP hF.2.1 hF.2.2.1 hF.2.2.2 _ ⟨by omega, by omega⟩ _ ⟨by omega, by omega⟩ g p (by omega) (by omega) (by rw [hF.cell 12 rfl (fun _ => rfl), hF.1 0 27 rfl rfl]; exact hg) (by omega)) dX12_readsNumbers_1.2.2.2.1 (Nat.le_of_ble_eq_true rfl) rfl ?_
      rintro r155 h ⟨hF1, p155⟩; replace hF := hF.tr hF1 rfl
      replace hPre : Pre15 κ h := hPre.tr p155.2.2.2.2.1 (by omega)
      have pp := p155
      rw [← eB155] at pp
      have ap : ApI r155 (κ 15) (h 15) (κ 0 31) (h 0 31) ([nV g p]) := fun z => Ap.tr hq.1 apq (Ap_rn pp.2.2.2.2.1 (pp.2.2.2.2.2.1.resolve_right (fun q => by omega)) (pp.2.2.2.2.2.2.resolve_right (fun q => by omega)))
      clear pp
      exact zV_zret rfl (by omega) dX12_readsNumbers_1.2.2.2.2 ⟨hF, (a9 (by refine ⟨by omega, by omega, by omega, by omega, hPre, by omega, by omega, fun q => ⟨by omega, fun z => absurd z (by omega), fun z => absurd z (by omega)⟩⟩) (by omega) (by first | exact (fun z => absurd z (by decide)) | (rw [nl]; exact ap) | (rw [nl]; exact fun _ => ap (by omega))))⟩
    · first | have nb : nbF g x1 p = n2F g p 0 99 99 ∧ nbE g x1 p = n2E g p := by rw [s110]; exact nb_110 | have nb : nbF g x1 p = n2F g p 0 99 99 ∧ nbE g x1 p = n2E g p := by rw [s115]; exact nb_115
      have u2 : n2F g p 0 99 99 = sq (nF g p 0 99) (nxF g (p + nD g p) 99) := rfl
      have s2 := sqc (nF g p 0 99) (nxF g (p + nD g p) 99)
      have u4 : n2E g p = nxE g (p + nD g p) := rfl
      first | have nl : nbL g x1 p = [nV g p, nV g (p + nD g p + 1)] := by rw [s110]; exact nl_110 | have nl : nbL g x1 p = [nV g p, nV g (p + nD g p + 1)] := by rw [s115]; exact nl_115
      refine zW_aload_n (pc' := 257) dX12_readsNumbers_5.1.2.1.1 rfl rfl ?_
      refine zW_iconst (pc' := 258) dX12_readsNumbers_5.1.2.1.2 rfl ?_
      refine zW_bipush (pc' := 260) dX12_readsNumbers_5.1.2.2.1 rfl rfl ?_
      have y27 := hF.1 0 27 rfl rfl
      obtain ⟨hB260, eB260⟩ : ∃ z : Hp, z = h := ⟨_, rfl⟩
      have apq : Ap (κ 15) (hB260 15) (κ 0 31) (hB260 0 31) ([]) := by rw [eB260]; first | exact ap | exact ap (by omega)
      have y260_0_27 := hF.1 0 27 rfl rfl
      refine cvI2 (pc' := 263) kX12_readsNumber vX12_readsNumber lk_X12_157 ⟨Nat.le_of_ble_eq_true rfl, Nat.le_of_ble_eq_true rfl⟩ tb0 vq12 rfl rfl (s_X12_readsNumberP hF.2.1 hF.2.2.1 hF.2.2.2 _ ⟨by omega, by omega⟩ _ ⟨by omega, by omega⟩ g p (by omega) (by omega) (by rw [hF.cell 12 rfl (fun _ => rfl), hF.1 0 27 rfl rfl]; exact hg) (by omega)) dX12_readsNumbers_5.1.2.2.2 (Nat.le_of_ble_eq_true rfl) rfl ?_
      rintro r260 h ⟨hF1, p260⟩; replace hF := hF.tr hF1 rfl
      replace hPre : Pre15 κ h := hPre.tr p260.2.2.2.2.1 (by omega)
      have pp := p260
      rw [← eB260] at pp
      have ap : ApI r260 (κ 15) (h 15) (κ 0 31) (h 0 31) ([nV g p]) := fun z => Ap.tr hq.1 apq (Ap_rn pp.2.2.2.2.1 (pp.2.2.2.2.2.1.resolve_right (fun q => by omega)) (pp.2.2.2.2.2.2.resolve_right (fun q => by omega)))
      clear pp
      refine zV_if_eq (tgt := 280) (pc' := 266) dX12_readsNumbers_5.2.1.1.1 rfl rfl ⟨by omega, by omega⟩ (fun c263 => ?_) (fun c263 => ?_)
      · refine zW_iconst (pc' := 281) dX12_readsNumbers_6.1.1.1 rfl ?_
        exact zV_zret rfl (by omega) dX12_readsNumbers_6.1.1.2 ⟨hF, (a9 (by refine ⟨by omega, by omega, by omega, by omega, hPre, by omega, by omega, fun q => ⟨by omega, fun z => absurd z (by omega), fun z => absurd z (by omega)⟩⟩) (by omega) (by first | exact (fun z => absurd z (by decide)) | (rw [nl]; exact ap) | (rw [nl]; exact fun _ => ap (by omega))))⟩
      · refine zW_aload_n (pc' := 267) dX12_readsNumbers_5.2.1.1.2 rfl rfl ?_
        refine zW_iconst (pc' := 268) dX12_readsNumbers_5.2.1.2.1 rfl ?_
        refine zW_bipush (pc' := 270) dX12_readsNumbers_5.2.1.2.2 rfl rfl ?_
        have y27 := hF.1 0 27 rfl rfl
        obtain ⟨hB270, eB270⟩ : ∃ z : Hp, z = h := ⟨_, rfl⟩
        have apq : Ap (κ 15) (hB270 15) (κ 0 31) (hB270 0 31) ([nV g p]) := by rw [eB270]; first | exact ap | exact ap (by omega)
        have y270_0_27 := hF.1 0 27 rfl rfl
        refine cvI2 (pc' := 273) kX12_readsNext vX12_readsNext lk_X12_160 ⟨Nat.le_of_ble_eq_true rfl, Nat.le_of_ble_eq_true rfl⟩ tb0 vq12 rfl rfl (s_X12_readsNextQ hF.2.1 hF.2.2.1 hF.2.2.2 _ ⟨by omega, by omega⟩ _ ⟨by omega, by omega⟩ g (p + nD g p) (by omega) (by omega) (by rw [hF.cell 12 rfl (fun _ => rfl), hF.1 0 27 rfl rfl]; exact hg) (by omega)) dX12_readsNumbers_5.2.2.1.1 (Nat.le_of_ble_eq_true rfl) rfl ?_
        rintro r270 h ⟨hF1, p270⟩; replace hF := hF.tr hF1 rfl
        replace hPre : Pre15 κ h := hPre.tr p270.2.2.2.2.1 (by omega)
        have pp := p270
        rw [← eB270] at pp
        have ap : ApI r270 (κ 15) (h 15) (κ 0 31) (h 0 31) ([nV g p] ++ [nV g (p + nD g p + 1)]) := fun z => Ap.tr hq.1 apq (pp.2.2.2.2.2.2.2 z)
        clear pp
        refine zV_if_eq (tgt := 280) (pc' := 276) dX12_readsNumbers_5.2.2.1.2 rfl rfl ⟨by omega, by omega⟩ (fun c273 => ?_) (fun c273 => ?_)
        · refine zW_iconst (pc' := 281) dX12_readsNumbers_6.1.1.1 rfl ?_
          exact zV_zret rfl (by omega) dX12_readsNumbers_6.1.1.2 ⟨hF, (a9 (by refine ⟨by omega, by omega, by omega, by omega, hPre, by omega, by omega, fun q => ⟨by omega, fun z => absurd z (by omega), fun z => absurd z (by omega)⟩⟩) (by omega) (by first | exact (fun z => absurd z (by decide)) | (rw [nl]; exact ap) | (rw [nl]; exact fun _ => ap (by omega))))⟩
        · refine zW_iconst (pc' := 277) dX12_readsNumbers_5.2.2.2.1 rfl ?_
          refine zV_goto 281 dX12_readsNumbers_5.2.2.2.2 rfl ?_
          exact zV_zret rfl (by omega) dX12_readsNumbers_6.1.1.2 ⟨hF, (a9 (by refine ⟨by omega, by omega, by omega, by omega, hPre, by omega, by omega, fun q => ⟨by omega, fun z => absurd z (by omega), fun z => absurd z (by omega)⟩⟩) (by omega) (by first | exact (fun z => absurd z (by decide)) | (rw [nl]; exact ap) | (rw [nl]; exact fun _ => ap (by omega))))⟩
    · first | have nb : nbF g x1 p = nF g p 1 4 ∧ nbE g x1 p = p + nD g p := by rw [s111]; exact nb_111
      first | have nl : nbL g x1 p = [nV g p] := by rw [s111]; exact nl_111
      refine zW_aload_n (pc' := 122) dX12_readsNumbers_0.1.2.2.2 rfl rfl ?_
      refine zW_iconst (pc' := 123) dX12_readsNumbers_0.2.1.1.1 rfl ?_
      refine zW_iconst (pc' := 124) dX12_readsNumbers_0.2.1.1.2 rfl ?_
      have y27 := hF.1 0 27 rfl rfl
      obtain ⟨hB, eB⟩ : ∃ z : Hp, z = h := ⟨_, rfl⟩
      have eB31 : hB 0 31 = κ 0 31 := by rw [eB, hk0]
      have eB26 : hB 0 26 = κ 0 26 := by rw [eB, hk0]
      have eB27 : hB 0 27 = κ 0 27 := by rw [eB, hk0]
      obtain ⟨hB124, eB124⟩ : ∃ z : Hp, z = h := ⟨_, rfl⟩
      have apq : Ap (κ 15) (hB124 15) (κ 0 31) (hB124 0 31) ([]) := by rw [eB124]; first | exact ap | exact ap (by omega)
      have y124_0_27 := hF.1 0 27 rfl rfl
      refine cvI2 (pc' := 127) kX12_readsNumber vX12_readsNumber lk_X12_157 ⟨Nat.le_of_ble_eq_true rfl, Nat.le_of_ble_eq_true rfl⟩ tb0 vq12 rfl rfl (s_X12_readsNumberP hF.2.1 hF.2.2.1 hF.2.2.2 _ ⟨by omega, by omega⟩ _ ⟨by omega, by omega⟩ g p (by omega) (by omega) (by rw [hF.cell 12 rfl (fun _ => rfl), hF.1 0 27 rfl rfl]; exact hg) (by omega)) dX12_readsNumbers_0.2.1.2.1 (Nat.le_of_ble_eq_true rfl) rfl ?_
      rintro r124 h ⟨hF1, p124⟩; replace hF := hF.tr hF1 rfl
      replace hPre : Pre15 κ h := hPre.tr p124.2.2.2.2.1 (by omega)
      have pp := p124
      rw [← eB124] at pp
      have ap : ApI r124 (κ 15) (h 15) (κ 0 31) (h 0 31) ([nV g p]) := fun z => Ap.tr hq.1 apq (Ap_rn pp.2.2.2.2.1 (pp.2.2.2.2.2.1.resolve_right (fun q => by omega)) (pp.2.2.2.2.2.2.resolve_right (fun q => by omega)))
      clear pp
      rw [← eB] at p124
      have hv1 := fun (q : r124 = 1) => (p124.2.2.2.2.2.1.resolve_right (fun z => by omega)).2.2.2.2.2
      rw [eB31] at hv1
      exact zV_zret rfl (by omega) dX12_readsNumbers_0.2.1.2.2 ⟨hF, (a9 (by refine ⟨by omega, by omega, by omega, by omega, hPre, by omega, by omega, fun q => ⟨by omega, fun _ => ?_, fun z => absurd z (by omega)⟩⟩; have := hv1 q; omega) (by omega) (by first | exact (fun z => absurd z (by decide)) | (rw [nl]; exact ap) | (rw [nl]; exact fun _ => ap (by omega))))⟩
    · first | have nb : nbF g x1 p = n2F g p 1 4 32 ∧ nbE g x1 p = n2E g p := by rw [s112]; exact nb_112
      have u2 : n2F g p 1 4 32 = sq (nF g p 1 4) (nxF g (p + nD g p) 32) := rfl
      have s2 := sqc (nF g p 1 4) (nxF g (p + nD g p) 32)
      have u4 : n2E g p = nxE g (p + nD g p) := rfl
      first | have nl : nbL g x1 p = [nV g p, nV g (p + nD g p + 1)] := by rw [s112]; exact nl_112
      refine zW_aload_n (pc' := 232) dX12_readsNumbers_4.1.2.2.1 rfl rfl ?_
      refine zW_iconst (pc' := 233) dX12_readsNumbers_4.1.2.2.2 rfl ?_
      refine zW_iconst (pc' := 234) dX12_readsNumbers_4.2.1.1.1 rfl ?_
      have y27 := hF.1 0 27 rfl rfl
      obtain ⟨hB, eB⟩ : ∃ z : Hp, z = h := ⟨_, rfl⟩
      have eB31 : hB 0 31 = κ 0 31 := by rw [eB, hk0]
      have eB26 : hB 0 26 = κ 0 26 := by rw [eB, hk0]
      have eB27 : hB 0 27 = κ 0 27 := by rw [eB, hk0]
      obtain ⟨hB234, eB234⟩ : ∃ z : Hp, z = h := ⟨_, rfl⟩
      have apq : Ap (κ 15) (hB234 15) (κ 0 31) (hB234 0 31) ([]) := by rw [eB234]; first | exact ap | exact ap (by omega)
      have y234_0_27 := hF.1 0 27 rfl rfl
      refine cvI2 (pc' := 237) kX12_readsNumber vX12_readsNumber lk_X12_157 ⟨Nat.le_of_ble_eq_true rfl, Nat.le_of_ble_eq_true rfl⟩ tb0 vq12 rfl rfl (s_X12_readsNumberP hF.2.1 hF.2.2.1 hF.2.2.2 _ ⟨by omega, by omega⟩ _ ⟨by omega, by omega⟩ g p (by omega) (by omega) (by rw [hF.cell 12 rfl (fun _ => rfl), hF.1 0 27 rfl rfl]; exact hg) (by omega)) dX12_readsNumbers_4.2.1.1.2 (Nat.le_of_ble_eq_true rfl) rfl ?_
      rintro r234 h ⟨hF1, p234⟩; replace hF := hF.tr hF1 rfl
      replace hPre : Pre15 κ h := hPre.tr p234.2.2.2.2.1 (by omega)
      have pp := p234
      rw [← eB234] at pp
      have ap : ApI r234 (κ 15) (h 15) (κ 0 31) (h 0 31) ([nV g p]) := fun z => Ap.tr hq.1 apq (Ap_rn pp.2.2.2.2.1 (pp.2.2.2.2.2.1.resolve_right (fun q => by omega)) (pp.2.2.2.2.2.2.resolve_right (fun q => by omega)))
      clear pp
      rw [← eB] at p234
      have hv1 := fun (q : r234 = 1) => (p234.2.2.2.2.2.1.resolve_right (fun z => by omega)).2.2.2.2.2
      rw [eB31] at hv1
      refine zV_if_eq (tgt := 254) (pc' := 240) dX12_readsNumbers_4.2.1.2.1 rfl rfl ⟨by omega, by omega⟩ (fun c237 => ?_) (fun c237 => ?_)
      · refine zW_iconst (pc' := 255) dX12_readsNumbers_5.1.1.2.1 rfl ?_
        exact zV_zret rfl (by omega) dX12_readsNumbers_5.1.1.2.2 ⟨hF, (a9 (by refine ⟨by omega, by omega, by omega, by omega, hPre, by omega, by omega, fun q => ⟨by omega, fun _ => ?_, fun z => absurd z (by omega)⟩⟩; first | omega | (have := hv2 (by omega); omega)) (by omega) (by first | exact (fun z => absurd z (by decide)) | (rw [nl]; exact ap) | (rw [nl]; exact fun _ => ap (by omega))))⟩
      · refine zW_aload_n (pc' := 241) dX12_readsNumbers_4.2.1.2.2 rfl rfl ?_
        refine zW_iconst (pc' := 242) dX12_readsNumbers_4.2.2.1.1 rfl ?_
        refine zW_bipush (pc' := 244) dX12_readsNumbers_4.2.2.1.2 rfl rfl ?_
        have y27 := hF.1 0 27 rfl rfl
        obtain ⟨hB244, eB244⟩ : ∃ z : Hp, z = h := ⟨_, rfl⟩
        have apq : Ap (κ 15) (hB244 15) (κ 0 31) (hB244 0 31) ([nV g p]) := by rw [eB244]; first | exact ap | exact ap (by omega)
        have y244_0_27 := hF.1 0 27 rfl rfl
        refine cvI2 (pc' := 247) kX12_readsNext vX12_readsNext lk_X12_160 ⟨Nat.le_of_ble_eq_true rfl, Nat.le_of_ble_eq_true rfl⟩ tb0 vq12 rfl rfl (s_X12_readsNextQ hF.2.1 hF.2.2.1 hF.2.2.2 _ ⟨by omega, by omega⟩ _ ⟨by omega, by omega⟩ g (p + nD g p) (by omega) (by omega) (by rw [hF.cell 12 rfl (fun _ => rfl), hF.1 0 27 rfl rfl]; exact hg) (by omega)) dX12_readsNumbers_4.2.2.2.1 (Nat.le_of_ble_eq_true rfl) rfl ?_
        rintro r244 h ⟨hF1, p244⟩; replace hF := hF.tr hF1 rfl
        replace hPre : Pre15 κ h := hPre.tr p244.2.2.2.2.1 (by omega)
        have pp := p244
        rw [← eB244] at pp
        have ap : ApI r244 (κ 15) (h 15) (κ 0 31) (h 0 31) ([nV g p] ++ [nV g (p + nD g p + 1)]) := fun z => Ap.tr hq.1 apq (pp.2.2.2.2.2.2.2 z)
        clear pp
        have hv2 := fun (q : r234 = 1) => (p244.2.2.2.2.1 (κ 0 31).toNat (by omega)).trans (hv1 q)
        refine zV_if_eq (tgt := 254) (pc' := 250) dX12_readsNumbers_4.2.2.2.2 rfl rfl ⟨by omega, by omega⟩ (fun c247 => ?_) (fun c247 => ?_)
        · refine zW_iconst (pc' := 255) dX12_readsNumbers_5.1.1.2.1 rfl ?_
          exact zV_zret rfl (by omega) dX12_readsNumbers_5.1.1.2.2 ⟨hF, (a9 (by refine ⟨by omega, by omega, by omega, by omega, hPre, by omega, by omega, fun q => ⟨by omega, fun _ => ?_, fun z => absurd z (by omega)⟩⟩; first | omega | (have := hv2 (by omega); omega)) (by omega) (by first | exact (fun z => absurd z (by decide)) | (rw [nl]; exact ap) | (rw [nl]; exact fun _ => ap (by omega))))⟩
        · refine zW_iconst (pc' := 251) dX12_readsNumbers_5.1.1.1.1 rfl ?_
          refine zV_goto 255 dX12_readsNumbers_5.1.1.1.2 rfl ?_
          exact zV_zret rfl (by omega) dX12_readsNumbers_5.1.1.2.2 ⟨hF, (a9 (by refine ⟨by omega, by omega, by omega, by omega, hPre, by omega, by omega, fun q => ⟨by omega, fun _ => ?_, fun z => absurd z (by omega)⟩⟩; first | omega | (have := hv2 (by omega); omega)) (by omega) (by first | exact (fun z => absurd z (by decide)) | (rw [nl]; exact ap) | (rw [nl]; exact fun _ => ap (by omega))))⟩
    · first | have nb : nbF g x1 p = n2F g p 0 99 99 ∧ nbE g x1 p = n2E g p := by rw [s110]; exact nb_110 | have nb : nbF g x1 p = n2F g p 0 99 99 ∧ nbE g x1 p = n2E g p := by rw [s115]; exact nb_115
      have u2 : n2F g p 0 99 99 = sq (nF g p 0 99) (nxF g (p + nD g p) 99) := rfl
      have s2 := sqc (nF g p 0 99) (nxF g (p + nD g p) 99)
      have u4 : n2E g p = nxE g (p + nD g p) := rfl
      first | have nl : nbL g x1 p = [nV g p, nV g (p + nD g p + 1)] := by rw [s110]; exact nl_110 | have nl : nbL g x1 p = [nV g p, nV g (p + nD g p + 1)] := by rw [s115]; exact nl_115
      refine zW_aload_n (pc' := 257) dX12_readsNumbers_5.1.2.1.1 rfl rfl ?_
      refine zW_iconst (pc' := 258) dX12_readsNumbers_5.1.2.1.2 rfl ?_
      refine zW_bipush (pc' := 260) dX12_readsNumbers_5.1.2.2.1 rfl rfl ?_
      have y27 := hF.1 0 27 rfl rfl
      obtain ⟨hB260, eB260⟩ : ∃ z : Hp, z = h := ⟨_, rfl⟩
      have apq : Ap (κ 15) (hB260 15) (κ 0 31) (hB260 0 31) ([]) := by rw [eB260]; first | exact ap | exact ap (by omega)
      have y260_0_27 := hF.1 0 27 rfl rfl
      refine cvI2 (pc' := 263) kX12_readsNumber vX12_readsNumber lk_X12_157 ⟨Nat.le_of_ble_eq_true rfl, Nat.le_of_ble_eq_true rfl⟩ tb0 vq12 rfl rfl (s_X12_readsNumberP hF.2.1 hF.2.2.1 hF.2.2.2 _ ⟨by omega, by omega⟩ _ ⟨by omega, by omega⟩ g p (by omega) (by omega) (by rw [hF.cell 12 rfl (fun _ => rfl), hF.1 0 27 rfl rfl]; exact hg) (by omega)) dX12_readsNumbers_5.1.2.2.2 (Nat.le_of_ble_eq_true rfl) rfl ?_
      rintro r260 h ⟨hF1, p260⟩; replace hF := hF.tr hF1 rfl
      replace hPre : Pre15 κ h := hPre.tr p260.2.2.2.2.1 (by omega)
      have pp := p260
      rw [← eB260] at pp
      have ap : ApI r260 (κ 15) (h 15) (κ 0 31) (h 0 31) ([nV g p]) := fun z => Ap.tr hq.1 apq (Ap_rn pp.2.2.2.2.1 (pp.2.2.2.2.2.1.resolve_right (fun q => by omega)) (pp.2.2.2.2.2.2.resolve_right (fun q => by omega)))
      clear pp
      refine zV_if_eq (tgt := 280) (pc' := 266) dX12_readsNumbers_5.2.1.1.1 rfl rfl ⟨by omega, by omega⟩ (fun c263 => ?_) (fun c263 => ?_)
      · refine zW_iconst (pc' := 281) dX12_readsNumbers_6.1.1.1 rfl ?_
        exact zV_zret rfl (by omega) dX12_readsNumbers_6.1.1.2 ⟨hF, (a9 (by refine ⟨by omega, by omega, by omega, by omega, hPre, by omega, by omega, fun q => ⟨by omega, fun z => absurd z (by omega), fun z => absurd z (by omega)⟩⟩) (by omega) (by first | exact (fun z => absurd z (by decide)) | (rw [nl]; exact ap) | (rw [nl]; exact fun _ => ap (by omega))))⟩
      · refine zW_aload_n (pc' := 267) dX12_readsNumbers_5.2.1.1.2 rfl rfl ?_
        refine zW_iconst (pc' := 268) dX12_readsNumbers_5.2.1.2.1 rfl ?_
        refine zW_bipush (pc' := 270) dX12_readsNumbers_5.2.1.2.2 rfl rfl ?_
        have y27 := hF.1 0 27 rfl rfl
        obtain ⟨hB270, eB270⟩ : ∃ z : Hp, z = h := ⟨_, rfl⟩
        have apq : Ap (κ 15) (hB270 15) (κ 0 31) (hB270 0 31) ([nV g p]) := by rw [eB270]; first | exact ap | exact ap (by omega)
        have y270_0_27 := hF.1 0 27 rfl rfl
        refine cvI2 (pc' := 273) kX12_readsNext vX12_readsNext lk_X12_160 ⟨Nat.le_of_ble_eq_true rfl, Nat.le_of_ble_eq_true rfl⟩ tb0 vq12 rfl rfl (s_X12_readsNextQ hF.2.1 hF.2.2.1 hF.2.2.2 _ ⟨by omega, by omega⟩ _ ⟨by omega, by omega⟩ g (p + nD g p) (by omega) (by omega) (by rw [hF.cell 12 rfl (fun _ => rfl), hF.1 0 27 rfl rfl]; exact hg) (by omega)) dX12_readsNumbers_5.2.2.1.1 (Nat.le_of_ble_eq_true rfl) rfl ?_
        rintro r270 h ⟨hF1, p270⟩; replace hF := hF.tr hF1 rfl
        replace hPre : Pre15 κ h := hPre.tr p270.2.2.2.2.1 (by omega)
        have pp := p270
        rw [← eB270] at pp
        have ap : ApI r270 (κ 15) (h 15) (κ 0 31) (h 0 31) ([nV g p] ++ [nV g (p + nD g p + 1)]) := fun z => Ap.tr hq.1 apq (pp.2.2.2.2.2.2.2 z)
        clear pp
        refine zV_if_eq (tgt := 280) (pc' := 276) dX12_readsNumbers_5.2.2.1.2 rfl rfl ⟨by omega, by omega⟩ (fun c273 => ?_) (fun c273 => ?_)
        · refine zW_iconst (pc' := 281) dX12_readsNumbers_6.1.1.1 rfl ?_
          exact zV_zret rfl (by omega) dX12_readsNumbers_6.1.1.2 ⟨hF, (a9 (by refine ⟨by omega, by omega, by omega, by omega, hPre, by omega, by omega, fun q => ⟨by omega, fun z => absurd z (by omega), fun z => absurd z (by omega)⟩⟩) (by omega) (by first | exact (fun z => absurd z (by decide)) | (rw [nl]; exact ap) | (rw [nl]; exact fun _ => ap (by omega))))⟩
        · refine zW_iconst (pc' := 277) dX12_readsNumbers_5.2.2.2.1 rfl ?_
          refine zV_goto 281 dX12_readsNumbers_5.2.2.2.2 rfl ?_
          exact zV_zret rfl (by omega) dX12_readsNumbers_6.1.1.2 ⟨hF, (a9 (by refine ⟨by omega, by omega, by omega, by omega, hPre, by omega, by omega, fun q => ⟨by omega, fun z => absurd z (by omega), fun z => absurd z (by omega)⟩⟩) (by omega) (by first | exact (fun z => absurd z (by decide)) | (rw [nl]; exact ap) | (rw [nl]; exact fun _ => ap (by omega))))⟩
    · first | have nb : nbF g x1 p = nF g p 1 3 ∧ nbE g x1 p = p + nD g p := by rw [s118]; exact nb_118
      first | have nl : nbL g x1 p = [nV g p] := by rw [s118]; exact nl_118
      refine zW_aload_n (pc' := 136) dX12_readsNumbers_1.1.1.1.2 rfl rfl ?_
      refine zW_iconst (pc' := 137) dX12_readsNumbers_1.1.1.2.1 rfl ?_
      refine zW_iconst (pc' := 138) dX12_readsNumbers_1.1.1.2.2 rfl ?_
      have y27 := hF.1 0 27 rfl rfl
      obtain ⟨hB138, eB138⟩ : ∃ z : Hp, z = h := ⟨_, rfl⟩
      have apq : Ap (κ 15) (hB138 15) (κ 0 31) (hB138 0 31) ([]) := by rw [eB138]; first | exact ap | exact ap (by omega)
      have y138_0_27 := hF.1 0 27 rfl rfl
      refine cvI2 (pc' := 141) kX12_readsNumber vX12_readsNumber lk_X12_157 ⟨Nat.le_of_ble_eq_true rfl, Nat.le_of_ble_eq_true rfl⟩ tb0 vq12 rfl rfl (s_X12_readsNumberP hF.2.1 hF.2.2.1 hF.2.2.2 _ ⟨by omega, by omega⟩ _ ⟨by omega, by omega⟩ g p (by omega) (by omega) (by rw [hF.cell 12 rfl (fun _ => rfl), hF.1 0 27 rfl rfl]; exact hg) (by omega)) dX12_readsNumbers_1.1.2.1.1 (Nat.le_of_ble_eq_true rfl) rfl ?_
      rintro r138 h ⟨hF1, p138⟩; replace hF := hF.tr hF1 rfl
      replace hPre : Pre15 κ h := hPre.tr p138.2.2.2.2.1 (by omega)
      have pp := p138
      rw [← eB138] at pp
      have ap : ApI r138 (κ 15) (h 15) (κ 0 31) (h 0 31) ([nV g p]) := fun z => Ap.tr hq.1 apq (Ap_rn pp.2.2.2.2.1 (pp.2.2.2.2.2.1.resolve_right (fun q => by omega)) (pp.2.2.2.2.2.2.resolve_right (fun q => by omega)))
      clear pp
      exact zV_zret rfl (by omega) dX12_readsNumbers_1.1.2.1.2 ⟨hF, (a9 (by refine ⟨by omega, by omega, by omega, by omega, hPre, by omega, by omega, fun q => ⟨by omega, fun z => absurd z (by omega), fun z => absurd z (by omega)⟩⟩) (by omega) (by first | exact (fun z => absurd z (by decide)) | (rw [nl]; exact ap) | (rw [nl]; exact fun _ => ap (by omega))))⟩
    · first | have nb : nbF g x1 p = nF g p 0 255 ∧ nbE g x1 p = p + nD g p := by rw [s98]; exact nb_98 | have nb : nbF g x1 p = nF g p 0 255 ∧ nbE g x1 p = p + nD g p := by rw [s100]; exact nb_100 | have nb : nbF g x1 p = nF g p 0 255 ∧ nbE g x1 p = p + nD g p := by rw [s119]; exact nb_119
      first | have nl : nbL g x1 p = [nV g p] := by rw [s98]; exact nl_98 | have nl : nbL g x1 p = [nV g p] := by rw [s100]; exact nl_100 | have nl : nbL g x1 p = [nV g p] := by rw [s119]; exact nl_119
      refine zW_aload_n (pc' := 113) dX12_readsNumbers_0.1.1.2.1 rfl rfl ?_
      refine zW_iconst (pc' := 114) dX12_readsNumbers_0.1.1.2.2 rfl ?_
      refine zW_sipush (pc' := 117) dX12_readsNumbers_0.1.2.1.1 rfl rfl ?_
      have y27 := hF.1 0 27 rfl rfl
      obtain ⟨hB117, eB117⟩ : ∃ z : Hp, z = h := ⟨_, rfl⟩
      have apq : Ap (κ 15) (hB117 15) (κ 0 31) (hB117 0 31) ([]) := by rw [eB117]; first | exact ap | exact ap (by omega)
      have y117_0_27 := hF.1 0 27 rfl rfl
      refine cvI2 (pc' := 120) kX12_readsNumber vX12_readsNumber lk_X12_157 ⟨Nat.le_of_ble_eq_true rfl, Nat.le_of_ble_eq_true rfl⟩ tb0 vq12 rfl rfl (s_X12_readsNumberP hF.2.1 hF.2.2.1 hF.2.2.2 _ ⟨by omega, by omega⟩ _ ⟨by omega, by omega⟩ g p (by omega) (by omega) (by rw [hF.cell 12 rfl (fun _ => rfl), hF.1 0 27 rfl rfl]; exact hg) (by omega)) dX12_readsNumbers_0.1.2.1.2 (Nat.le_of_ble_eq_true rfl) rfl ?_
      rintro r117 h ⟨hF1, p117⟩; replace hF := hF.tr hF1 rfl
      replace hPre : Pre15 κ h := hPre.tr p117.2.2.2.2.1 (by omega)
      have pp := p117
      rw [← eB117] at pp
      have ap : ApI r117 (κ 15) (h 15) (κ 0 31) (h 0 31) ([nV g p]) := fun z => Ap.tr hq.1 apq (Ap_rn pp.2.2.2.2.1 (pp.2.2.2.2.2.1.resolve_right (fun q => by omega)) (pp.2.2.2.2.2.2.resolve_right (fun q => by omega)))
      clear pp
      exact zV_zret rfl (by omega) dX12_readsNumbers_0.1.2.2.1 ⟨hF, (a9 (by refine ⟨by omega, by omega, by omega, by omega, hPre, by omega, by omega, fun q => ⟨by omega, fun z => absurd z (by omega), fun z => absurd z (by omega)⟩⟩) (by omega) (by first | exact (fun z => absurd z (by decide)) | (rw [nl]; exact ap) | (rw [nl]; exact fun _ => ap (by omega))))⟩
    · first | have nb : nbF g x1 p = n3F g p 0 32 32 ∧ nbE g x1 p = n3E g p := by rw [s121]; exact nb_121
      have u2 : n2F g p 0 32 32 = sq (nF g p 0 32) (nxF g (p + nD g p) 32) := rfl
      have s2 := sqc (nF g p 0 32) (nxF g (p + nD g p) 32)
      have u4 : n2E g p = nxE g (p + nD g p) := rfl
      have u3 : n3F g p 0 32 32 = sq (n2F g p 0 32 32) (nxF g (n2E g p) 32) := rfl
      have s3 := sqc (n2F g p 0 32 32) (nxF g (n2E g p) 32)
      have u5 : n3E g p = nxE g (n2E g p) := rfl
      first | have nl : nbL g x1 p = [nV g p, nV g (p + nD g p + 1), nV g (n2E g p + 1)] := by rw [s121]; exact nl_121
      refine zW_aload_n (pc' := 160) dX12_readsNumbers_2.1.1.1.1 rfl rfl ?_
      refine zW_iconst (pc' := 161) dX12_readsNumbers_2.1.1.1.2 rfl ?_
      refine zW_bipush (pc' := 163) dX12_readsNumbers_2.1.1.2.1 rfl rfl ?_
      have y27 := hF.1 0 27 rfl rfl
      obtain ⟨hB163, eB163⟩ : ∃ z : Hp, z = h := ⟨_, rfl⟩
      have apq : Ap (κ 15) (hB163 15) (κ 0 31) (hB163 0 31) ([]) := by rw [eB163]; first | exact ap | exact ap (by omega)
      have y163_0_27 := hF.1 0 27 rfl rfl
      refine cvI2 (pc' := 166) kX12_readsNumber vX12_readsNumber lk_X12_157 ⟨Nat.le_of_ble_eq_true rfl, Nat.le_of_ble_eq_true rfl⟩ tb0 vq12 rfl rfl (s_X12_readsNumberP hF.2.1 hF.2.2.1 hF.2.2.2 _ ⟨by omega, by omega⟩ _ ⟨by omega, by omega⟩ g p (by omega) (by omega) (by rw [hF.cell 12 rfl (fun _ => rfl), hF.1 0 27 rfl rfl]; exact hg) (by omega)) dX12_readsNumbers_2.1.1.2.2 (Nat.le_of_ble_eq_true rfl) rfl ?_
      rintro r163 h ⟨hF1, p163⟩; replace hF := hF.tr hF1 rfl
      replace hPre : Pre15 κ h := hPre.tr p163.2.2.2.2.1 (by omega)
      have pp := p163
      rw [← eB163] at pp
      have ap : ApI r163 (κ 15) (h 15) (κ 0 31) (h 0 31) ([nV g p]) := fun z => Ap.tr hq.1 apq (Ap_rn pp.2.2.2.2.1 (pp.2.2.2.2.2.1.resolve_right (fun q => by omega)) (pp.2.2.2.2.2.2.resolve_right (fun q => by omega)))
      clear pp
      refine zV_if_eq (tgt := 193) (pc' := 169) dX12_readsNumbers_2.1.2.1.1 rfl rfl ⟨by omega, by omega⟩ (fun c166 => ?_) (fun c166 => ?_)
      · refine zW_iconst (pc' := 194) dX12_readsNumbers_3.1.1.1.2 rfl ?_
        exact zV_zret rfl (by omega) dX12_readsNumbers_3.1.1.2.1 ⟨hF, (a9 (by refine ⟨by omega, by omega, by omega, by omega, hPre, by omega, by omega, fun q => ⟨by omega, fun z => absurd z (by omega), fun z => absurd z (by omega)⟩⟩) (by omega) (by first | exact (fun z => absurd z (by decide)) | (rw [nl]; exact ap) | (rw [nl]; exact fun _ => ap (by omega))))⟩
      · refine zW_aload_n (pc' := 170) dX12_readsNumbers_2.1.2.1.2 rfl rfl ?_
        refine zW_iconst (pc' := 171) dX12_readsNumbers_2.1.2.2.1 rfl ?_
        refine zW_bipush (pc' := 173) dX12_readsNumbers_2.1.2.2.2 rfl rfl ?_
        have y27 := hF.1 0 27 rfl rfl
        obtain ⟨hB173, eB173⟩ : ∃ z : Hp, z = h := ⟨_, rfl⟩
        have apq : Ap (κ 15) (hB173 15) (κ 0 31) (hB173 0 31) ([nV g p]) := by rw [eB173]; first | exact ap | exact ap (by omega)
        have y173_0_27 := hF.1 0 27 rfl rfl
        refine cvI2 (pc' := 176) kX12_readsNext vX12_readsNext lk_X12_160 ⟨Nat.le_of_ble_eq_true rfl, Nat.le_of_ble_eq_true rfl⟩ tb0 vq12 rfl rfl (s_X12_readsNextQ hF.2.1 hF.2.2.1 hF.2.2.2 _ ⟨by omega, by omega⟩ _ ⟨by omega, by omega⟩ g (p + nD g p) (by omega) (by omega) (by rw [hF.cell 12 rfl (fun _ => rfl), hF.1 0 27 rfl rfl]; exact hg) (by omega)) dX12_readsNumbers_2.2.1.1.1 (Nat.le_of_ble_eq_true rfl) rfl ?_
        rintro r173 h ⟨hF1, p173⟩; replace hF := hF.tr hF1 rfl
        replace hPre : Pre15 κ h := hPre.tr p173.2.2.2.2.1 (by omega)
        have pp := p173
        rw [← eB173] at pp
        have ap : ApI r173 (κ 15) (h 15) (κ 0 31) (h 0 31) ([nV g p] ++ [nV g (p + nD g p + 1)]) := fun z => Ap.tr hq.1 apq (pp.2.2.2.2.2.2.2 z)
        clear pp
        refine zV_if_eq (tgt := 193) (pc' := 179) dX12_readsNumbers_2.2.1.1.2 rfl rfl ⟨by omega, by omega⟩ (fun c176 => ?_) (fun c176 => ?_)
        · refine zW_iconst (pc' := 194) dX12_readsNumbers_3.1.1.1.2 rfl ?_
          exact zV_zret rfl (by omega) dX12_readsNumbers_3.1.1.2.1 ⟨hF, (a9 (by refine ⟨by omega, by omega, by omega, by omega, hPre, by omega, by omega, fun q => ⟨by omega, fun z => absurd z (by omega), fun z => absurd z (by omega)⟩⟩) (by omega) (by first | exact (fun z => absurd z (by decide)) | (rw [nl]; exact ap) | (rw [nl]; exact fun _ => ap (by omega))))⟩
        · refine zW_aload_n (pc' := 180) dX12_readsNumbers_2.2.1.2.1 rfl rfl ?_
          refine zW_iconst (pc' := 181) dX12_readsNumbers_2.2.1.2.2 rfl ?_
          refine zW_bipush (pc' := 183) dX12_readsNumbers_2.2.2.1.1 rfl rfl ?_
          have y27 := hF.1 0 27 rfl rfl
          obtain ⟨hB183, eB183⟩ : ∃ z : Hp, z = h := ⟨_, rfl⟩
          have apq : Ap (κ 15) (hB183 15) (κ 0 31) (hB183 0 31) ([nV g p] ++ [nV g (p + nD g p + 1)]) := by rw [eB183]; first | exact ap | exact ap (by omega)
          have y183_0_27 := hF.1 0 27 rfl rfl
          refine cvI2 (pc' := 186) kX12_readsNext vX12_readsNext lk_X12_160 ⟨Nat.le_of_ble_eq_true rfl, Nat.le_of_ble_eq_true rfl⟩ tb0 vq12 rfl rfl (s_X12_readsNextQ hF.2.1 hF.2.2.1 hF.2.2.2 _ ⟨by omega, by omega⟩ _ ⟨by omega, by omega⟩ g (n2E g p) (by omega) (by omega) (by rw [hF.cell 12 rfl (fun _ => rfl), hF.1 0 27 rfl rfl]; exact hg) (by omega)) dX12_readsNumbers_2.2.2.1.2 (Nat.le_of_ble_eq_true rfl) rfl ?_
          rintro r183 h ⟨hF1, p183⟩; replace hF := hF.tr hF1 rfl
          replace hPre : Pre15 κ h := hPre.tr p183.2.2.2.2.1 (by omega)
          have pp := p183
          rw [← eB183] at pp
          have ap : ApI r183 (κ 15) (h 15) (κ 0 31) (h 0 31) ([nV g p] ++ [nV g (p + nD g p + 1)] ++ [nV g (n2E g p + 1)]) := fun z => Ap.tr hq.1 apq (pp.2.2.2.2.2.2.2 z)
          clear pp
          refine zV_if_eq (tgt := 193) (pc' := 189) dX12_readsNumbers_2.2.2.2.1 rfl rfl ⟨by omega, by omega⟩ (fun c186 => ?_) (fun c186 => ?_)
          · refine zW_iconst (pc' := 194) dX12_readsNumbers_3.1.1.1.2 rfl ?_
            exact zV_zret rfl (by omega) dX12_readsNumbers_3.1.1.2.1 ⟨hF, (a9 (by refine ⟨by omega, by omega, by omega, by omega, hPre, by omega, by omega, fun q => ⟨by omega, fun z => absurd z (by omega), fun z => absurd z (by omega)⟩⟩) (by omega) (by first | exact (fun z => absurd z (by decide)) | (rw [nl]; exact ap) | (rw [nl]; exact fun _ => ap (by omega))))⟩
          · refine zW_iconst (pc' := 190) dX12_readsNumbers_2.2.2.2.2 rfl ?_
            refine zV_goto 194 dX12_readsNumbers_3.1.1.1.1 rfl ?_
            exact zV_zret rfl (by omega) dX12_readsNumbers_3.1.1.2.1 ⟨hF, (a9 (by refine ⟨by omega, by omega, by omega, by omega, hPre, by omega, by omega, fun q => ⟨by omega, fun z => absurd z (by omega), fun z => absurd z (by omega)⟩⟩) (by omega) (by first | exact (fun z => absurd z (by decide)) | (rw [nl]; exact ap) | (rw [nl]; exact fun _ => ap (by omega))))⟩
    · have nb := nb_else (g := g) (c := x1) (p := p) (by omega)
      have e116 : x1 = 116 := kd_116 hl (by omega)
      have nl : nbL g x1 p = cuL g 200 p (-1) := by rw [e116]; exact nl_116
      refine zW_aload_n (pc' := 283) dX12_readsNumbers_6.1.2 rfl rfl ?_
      have y27 := hF.1 0 27 rfl rfl
      obtain ⟨hB, eB⟩ : ∃ z : Hp, z = h := ⟨_, rfl⟩
      have eB31 : hB 0 31 = κ 0 31 := by rw [eB, hk0]
      have eB26 : hB 0 26 = κ 0 26 := by rw [eB, hk0]
      have eB27 : hB 0 27 = κ 0 27 := by rw [eB, hk0]
      obtain ⟨hB283, eB283⟩ : ∃ z : Hp, z = h := ⟨_, rfl⟩
      have apq : Ap (κ 15) (hB283 15) (κ 0 31) (hB283 0 31) [] := by rw [eB283]; exact ap
      have y283_0_27 := hF.1 0 27 rfl rfl
      refine cvI0 (pc' := 286) kX12_readsCurve vX12_readsCurve lk_X12_163 ⟨Nat.le_of_ble_eq_true rfl, Nat.le_of_ble_eq_true rfl⟩ tb0 vq12 rfl rfl (s_X12_readsCurveQ hF.2.1 hF.2.2.1 hF.2.2.2 g p (by omega) (by omega) (by rw [hF.cell 12 rfl (fun _ => rfl), hF.1 0 27 rfl rfl]; exact hg) (by omega)) dX12_readsNumbers_6.2.1 (Nat.le_of_ble_eq_true rfl) rfl ?_
      rintro r283 h ⟨hF1, p283⟩; replace hF := hF.tr hF1 rfl
      replace hPre : Pre15 κ h := hPre.tr p283.2.2.2.2.1 (by omega)
      have pp := p283
      rw [← eB283] at pp
      have ap : ApI r283 (κ 15) (h 15) (κ 0 31) (h 0 31) (cuL g 200 p (-1)) := fun z => Ap.tr hq.1 apq (pp.2.2.2.2.2.2.2.2.2 z)
      clear pp
      rw [← eB] at p283
      have hcv := p283.2.2.2.2.2.2.2.1
      rw [eB31] at hcv
      exact zV_zret rfl (by omega) dX12_readsNumbers_6.2.2 ⟨hF, (a9 (by refine ⟨by omega, by omega, by omega, by omega, hPre, by omega, by omega, fun q => ⟨?_, fun z => absurd z (by omega), fun _ => hcv q⟩⟩; have := (hcv q).1; omega) (by omega) (by first | exact (fun z => absurd z (by decide)) | (rw [nl]; exact ap) | (rw [nl]; exact fun _ => ap (by omega))))⟩

abbrev q_X12_readsStageQ (κ : Hp) (g : Int → Int) (p : Int) (f : Int) : Int → Hp → Prop := fun r h' => Fm [(0, 26), (0, 28), (0, 29), (0, 31), (15, 999), (0, 30), (13, 999), (14, 999)] κ h' ∧ ((0 ≤ r) ∧ (r ≤ 1) ∧ (κ 0 26 ≤ h' 0 26 ∧ h' 0 26 ≤ κ 0 27 ∧ (r = 1 → NP h') ∧ ((r = 1 ∧ sgF g p (κ 0 30) f = 0 ∧ h' 0 26 = sgE g p ∧ h' 0 30 = κ 0 30 + 1 ∧ p + 2 ≤ h' 0 26) ∨ (r = 0 ∧ sgF g p (κ 0 30) f ≠ 0 ∧ h' 0 28 = sgF g p (κ 0 30) f ∧ h' 0 28 < 0)) ∧ (r = 1 → ∀ j : Nat, (j : Int) < h' 0 30 → (h' 13 j = 102 ↔ (j : Int) + 1 = nxf g p (κ 0 30) f)) ∧ AQI r g p κ h'))
set_option maxHeartbeats 4000000 in
set_option maxRecDepth 20000 in
theorem s_X12_readsStageQ {G : Ga} {κ : Hp} (hS : SI κ) (hR : KR κ) (hC : KC κ) (g : Int → Int) (p : Int) (f : Int) (hp : 0 ≤ κ 0 26 ∧ κ 0 26 ≤ κ 0 27 ∧ κ 0 27 ≤ 120) (hq : 0 ≤ κ 0 31 ∧ κ 0 31 ≤ κ 0 26) (hm0 : 0 ≤ κ 0 30 ∧ κ 0 30 ≤ 12) (hA0 : κ 14 (κ 0 30).toNat = κ 0 31) (hRc : RecOK (κ 13) (κ 14) (κ 15) (κ 0 30)) (hg : hr (fun i => κ 12 i % 256) (κ 0 27) = g) (ht : κ 0 26 = p) (hf0 : 0 ≤ f ∧ f ≤ κ 0 30) (hfl : ∀ j : Nat, (j : Int) < κ 0 30 → (κ 13 j = 102 ↔ (j : Int) + 1 = f)) : zM G mX12_readsStage yX12_readsStage [.inr (.inr 0)] κ (q_X12_readsStageQ κ g p f) := by
  have k29 : ∀ (v1 : Int) (h : Hp), Fm [(0, 26), (0, 28), (0, 29), (0, 31), (15, 999), (0, 30), (13, 999), (14, 999)] κ h → (-1 ≤ v1 ∧ v1 ≤ 255) → (h = κ) → (v1 = g p ∧ 0 ≤ kd (g p) ∧ p < κ 0 27 ∧ 0 ≤ v1) → zV G mX12_readsStage (q_X12_readsStageQ κ g p f) 29 [some (.inr (.inr 0)), some (.inl v1)] [] h := by
    intro v1 h hF g0 gc0 gc1
    have hk0 := gc0
    have y0_0_26 : h 0 26 = κ 0 26 := by rw [hk0]
    have y0_0_27 : h 0 27 = κ 0 27 := by rw [hk0]
    have y0_0_31 : h 0 31 = κ 0 31 := by rw [hk0]
    have y0_0_30 : h 0 30 = κ 0 30 := by rw [hk0]
    have hPre : Pre15 κ h := by rw [hk0]; exact Pre15.rf
    have h13 : h 13 = κ 13 := by rw [hk0]
    have h14 : h 14 = κ 14 := by rw [hk0]
    have q1 : v1 = g p := gc1.1
    have kb := kd_b (g p)
    refine zW_aload_n (pc' := 30) dX12_readsStage_0.2.2.2.2 rfl rfl ?_
    refine zG_int (pc' := 33) fg_X12_167 tb0 rfl dX12_readsStage_1.1.1.1.1 rfl ?_
    have e30 := hF.rh 0 30
    refine zW_bipush (pc' := 35) dX12_readsStage_1.1.1.1.2 rfl rfl ?_
    refine zV_cm_ne (tgt := 48) (pc' := 38) dX12_readsStage_1.1.1.2.1 rfl rfl ⟨by omega, by omega⟩ ⟨by omega, by omega⟩ (fun c35 => ?_) (fun c35 => ?_)
    · refine zW_aload_n (pc' := 49) dX12_readsStage_1.2.1.1.2 rfl rfl ?_
      have y27 := hF.1 0 27 rfl rfl
      refine cvI0 (pc' := 52) kX12_isFilledSoFar vX12_isFilledSoFar lk_X12_176 ⟨Nat.le_of_ble_eq_true rfl, Nat.le_of_ble_eq_true rfl⟩ tb0 vq12 rfl rfl (s_X12_isFilledSoFarP (b := true) (κ := h) hF.2.2.1 (Fr.rf hF.2.1) f (by omega) (by omega) (fun j hj => by rw [h13]; exact hfl j (by omega))) dX12_readsStage_1.2.1.2.1 (Nat.le_of_ble_eq_true rfl) rfl ?_
      rintro r49 z49 ⟨hz49, p49⟩; subst z49
      have e49 := p49.2.2
      have s49 := And.intro p49.1 p49.2.1
      clear p49
      refine zW_iload_n (pc' := 53) dX12_readsStage_1.2.1.2.2 rfl rfl ?_
      have y27 := hF.1 0 27 rfl rfl
      refine csI1 (pc' := 56) kX12_isEarly vX12_isEarly lk_X12_170 ⟨Nat.le_of_ble_eq_true rfl, Nat.le_of_ble_eq_true rfl⟩ rfl (s_X12_isEarly (b := true) (κ := h) (Fr.rf hF.2.1) _ ⟨by omega, by omega⟩) dX12_readsStage_1.2.2.1.1 (Nat.le_of_ble_eq_true rfl) rfl ?_
      rintro r53 z53 ⟨hz53, p53⟩; subst z53
      have e53 : r53 = 1 ↔ (0 ≤ kd (g p) ∧ kd (g p) ≤ 4) := by rw [← q1]; exact p53.2.2.trans (kd_e _).symm
      have s53 := And.intro p53.1 p53.2.1
      clear p53
      refine zV_cm_ne (tgt := 70) (pc' := 59) dX12_readsStage_1.2.2.1.2 rfl rfl ⟨by omega, by omega⟩ ⟨by omega, by omega⟩ (fun c56 => ?_) (fun c56 => ?_)
      · have lz : lF g p (κ 0 30) f = 0 := lf_0 (by omega) (by omega) (by omega)
        have m12 : κ 0 30 ≤ 11 := by omega
        have ff : g p = 102 → f = 0 := fun z => by have := (kd_f (g p)).mpr z; omega
        clear e49 e53
        refine zW_aload_n (pc' := 71) dX12_readsStage_2.1.2.1.1 rfl rfl ?_
        refine zW_aload_n (pc' := 72) dX12_readsStage_2.1.2.1.2 rfl rfl ?_
        refine zG_int (pc' := 75) fg_X12_123 tb0 rfl dX12_readsStage_2.1.2.2.1 rfl ?_
        have e72 := hF.rh 0 26
        refine zW_iconst (pc' := 76) dX12_readsStage_2.1.2.2.2 rfl ?_
        refine zW_iadd (pc' := 77) dX12_readsStage_2.2.1.1.1 rfl ?_
        refine zPm (pc' := 80) hF (Or.inl rfl) (SI_irr hF.2.1 (Or.inl rfl) (fun _ _ => ⟨by omega, by omega⟩)) (KR_irr hF.2.2.1 rfl) (KC_irr hF.2.2.2 rfl) fp_X12_123 tb0 rfl dX12_readsStage_2.2.1.1.2 rfl (fun h hF w77 => ?_)
        replace hPre : Pre15 κ h := by rw [w77]; exact hPre.w (by decide)
        replace h13 : h 13 = κ 13 := by rw [w77]; exact (zfun (by decide)).trans h13
        replace h14 : h 14 = κ 14 := by rw [w77]; exact (zfun (by decide)).trans h14
        have t77_0_26 := congrFun (congrFun w77 0) 26
        rw [zwr_eq] at t77_0_26
        have t77_0_31 := congrFun (congrFun w77 0) 31
        rw [zwr_ne (Or.inr (by decide))] at t77_0_31
        have t77_0_30 := congrFun (congrFun w77 0) 30
        rw [zwr_ne (Or.inr (by decide))] at t77_0_30
        have t77_0_28 := congrFun (congrFun w77 0) 28
        rw [zwr_ne (Or.inr (by decide))] at t77_0_28
        refine zW_aload_n (pc' := 81) dX12_readsStage_2.2.1.2.1 rfl rfl ?_
        refine zW_bipush (pc' := 83) dX12_readsStage_2.2.1.2.2 rfl rfl ?_
        have y27 := hF.1 0 27 rfl rfl
        have y83_0_27 := hF.1 0 27 rfl rfl
        refine cvI1 (pc' := 86) kX12_takesSign vX12_takesSign lk_X12_154 ⟨Nat.le_of_ble_eq_true rfl, Nat.le_of_ble_eq_true rfl⟩ tb0 vq12 rfl rfl (s_X12_takesSignP hF.2.1 hF.2.2.1 hF.2.2.2 _ ⟨by omega, by omega⟩ g (p + 1) (by rw [hF.cell 12 rfl (fun _ => rfl), hF.1 0 27 rfl rfl]; exact hg) (by omega) (by omega)) dX12_readsStage_2.2.2.1.1 (Nat.le_of_ble_eq_true rfl) rfl ?_
        rintro r83 h ⟨hF1, p83⟩; replace hF := hF.tr hF1 rfl
        replace hPre : Pre15 κ h := hPre.fm hF1 (fun _ => rfl)
        replace h13 : h 13 = κ 13 := (hF1.cell 13 rfl (fun _ => rfl)).trans h13
        replace h14 : h 14 = κ 14 := (hF1.cell 14 rfl (fun _ => rfl)).trans h14
        have t83_0_31 := hF1.1 0 31 rfl rfl
        have t83_0_30 := hF1.1 0 30 rfl rfl
        refine zV_if_eq (tgt := 97) (pc' := 89) dX12_readsStage_2.2.2.1.2 rfl rfl ⟨by omega, by omega⟩ (fun c86 => ?_) (fun c86 => ?_)
        · first | (have r0 : r83 = 0 := (by omega); have sg : sgF g p (κ 0 30) f = sF g (p + 1) 58 := sg_s lz (by omega)) | skip
          refine zW_iconst (pc' := 98) dX12_readsStage_3.1.1.2.1 rfl ?_
          exact zV_zret rfl (by omega) dX12_readsStage_3.1.1.2.2 ⟨hF, by refine ⟨by omega, by omega, by omega, by omega, fun q => absurd q (by omega), by omega, fun q => absurd q (by omega), fun q => absurd q (by omega)⟩⟩
        · have sg : sgF g p (κ 0 30) f = nbF g (g p) (p + 2) := sg_n lz (by omega)
          have t26 : h 0 26 = p + 2 := by omega
          have t27 : p + 2 ≤ κ 0 27 := by omega
          refine zW_aload_n (pc' := 90) dX12_readsStage_2.2.2.2.1 rfl rfl ?_
          refine zW_iload_n (pc' := 91) dX12_readsStage_2.2.2.2.2 rfl rfl ?_
          clear p83
          have y27 := hF.1 0 27 rfl rfl
          obtain ⟨hB, eB⟩ : ∃ z : Hp, z = h := ⟨_, rfl⟩
          have eB31 : hB 0 31 = κ 0 31 := by rw [eB]; omega
          have eB26 : hB 0 26 = h 0 26 := by rw [eB]
          have eB27 : hB 0 27 = h 0 27 := by rw [eB]
          have y91_0_27 := hF.1 0 27 rfl rfl
          refine cvI1 (pc' := 94) kX12_readsNumbers vX12_readsNumbers lk_X12_179 ⟨Nat.le_of_ble_eq_true rfl, Nat.le_of_ble_eq_true rfl⟩ tb0 vq12 rfl rfl (s_X12_readsNumbersQ hF.2.1 hF.2.2.1 hF.2.2.2 _ ⟨by omega, by omega⟩ g (p + 2) (by omega) (by omega) (by rw [hF.cell 12 rfl (fun _ => rfl), hF.1 0 27 rfl rfl]; exact hg) (by omega) (by rw [q1]; omega)) dX12_readsStage_3.1.1.1.1 (Nat.le_of_ble_eq_true rfl) rfl ?_
          rintro r91 h ⟨hF1, p91⟩; replace hF := hF.tr hF1 rfl
          replace hPre : Pre15 κ h := hPre.tr p91.2.2.2.2.1 (by omega)
          replace h13 : h 13 = κ 13 := (hF1.cell 13 rfl (fun _ => rfl)).trans h13
          replace h14 : h 14 = κ 14 := (hF1.cell 14 rfl (fun _ => rfl)).trans h14
          have t91_0_30 := hF1.1 0 30 rfl rfl
          have nbx : nbF g v1 (p + 2) = nbF g (g p) (p + 2) ∧ nbE g v1 (p + 2) = nbE g (g p) (p + 2) := by rw [q1]; exact ⟨rfl, rfl⟩
          refine zV_if_ne (tgt := 99) (pc' := 97) dX12_readsStage_3.1.1.1.2 rfl rfl ⟨by omega, by omega⟩ (fun c94 => ?_) (fun c94 => ?_)
          · rw [← eB] at p91
            obtain ⟨n1, n2, n3⟩ := p91.2.2.2.2.2.2.2.1 (by omega)
            rw [eB31] at n1 n2 n3
            obtain ⟨hC, eC⟩ : ∃ z : Hp, z = h := ⟨_, rfl⟩
            have c31 : hC 0 31 = h 0 31 := by rw [eC]
            rw [← eC] at n1 n2 n3
            have hPC : Pre15 κ hC := by rw [eC]; exact hPre
            have c13 : hC 13 = κ 13 := by rw [eC]; exact h13
            have c14 : hC 14 = κ 14 := by rw [eC]; exact h14
            have qn := p91.2.2.2.2.2.2.2.2.2 (by omega)
            rw [eB31, q1] at qn
            have qn2 : Ap (κ 15) (hC 15) (κ 0 31) (hC 0 31) (nbL g (g p) (p + 2)) := by rw [eC]; exact qn.pre (fun j hj => hPre j hj)
            clear qn
            have w91 := p91.2.2.2.2.2.2.2.2.1.resolve_right (fun z => by omega)
            have b91 := And.intro p91.2.2.1 (And.intro p91.2.2.2.1 (And.intro p91.2.2.2.2.2.1 p91.2.2.2.2.2.2.1))
            clear p91
            replace n2 : Hid _ := n2
            replace n3 : Hid _ := n3
            refine zW_aload_n (pc' := 100) dX12_readsStage_3.1.2.1.1 rfl rfl ?_
            refine zG_ref (pc' := 103) 13 fg_X12_48 tb0 rfl dX12_readsStage_3.1.2.1.2 rfl ?_
            refine zW_aload_n (pc' := 104) dX12_readsStage_3.1.2.2.1 rfl rfl ?_
            refine zG_int (pc' := 107) fg_X12_167 tb0 rfl dX12_readsStage_3.1.2.2.2 rfl ?_
            have e104 := hF.rh 0 30
            refine zW_iload_n (pc' := 108) dX12_readsStage_3.2.1.1.1 rfl rfl ?_
            have y30 : h 0 30 = κ 0 30 := by omega
            refine zSm (pc' := 109) hF rfl (fun v' hv he => ⟨(SI_irr hF.2.1 (Or.inl (key_of rfl _)) (fun _ _ => hv)), (KR_irr hF.2.2.1 rfl), (KC_irr hF.2.2.2 rfl)⟩) tb13 (by omega) dX12_readsStage_3.2.1.1.2 (by decide) rfl (fun h i108 hF a108 b108 w108 => ?_)
            have t108_0_26 := congrFun (congrFun w108 0) 26
            rw [zwr_ne (Or.inl (by decide))] at t108_0_26
            have t108_0_31 := congrFun (congrFun w108 0) 31
            rw [zwr_ne (Or.inl (by decide))] at t108_0_31
            have t108_0_30 := congrFun (congrFun w108 0) 30
            rw [zwr_ne (Or.inl (by decide))] at t108_0_30
            have t108_0_28 := congrFun (congrFun w108 0) 28
            rw [zwr_ne (Or.inl (by decide))] at t108_0_28
            refine zW_aload_n (pc' := 110) dX12_readsStage_3.2.1.2.1 rfl rfl ?_
            refine zW_aload_n (pc' := 111) dX12_readsStage_3.2.1.2.2 rfl rfl ?_
            refine zG_int (pc' := 114) fg_X12_167 tb0 rfl dX12_readsStage_3.2.2.1.1 rfl ?_
            have e111 := hF.rh 0 30
            refine zW_iconst (pc' := 115) dX12_readsStage_3.2.2.1.2 rfl ?_
            refine zW_iadd (pc' := 116) dX12_readsStage_3.2.2.2.1 rfl ?_
            refine zPm (pc' := 119) hF (Or.inl rfl) (SI_irr hF.2.1 (Or.inl rfl) (fun _ _ => ⟨by omega, by omega⟩)) (KR_irr hF.2.2.1 rfl) (KC_irr hF.2.2.2 rfl) fp_X12_167 tb0 rfl dX12_readsStage_3.2.2.2.2 rfl (fun h hF w116 => ?_)
            have t116_0_26 := congrFun (congrFun w116 0) 26
            rw [zwr_ne (Or.inr (by decide))] at t116_0_26
            have t116_0_31 := congrFun (congrFun w116 0) 31
            rw [zwr_ne (Or.inr (by decide))] at t116_0_31
            have t116_0_30 := congrFun (congrFun w116 0) 30
            rw [zwr_eq] at t116_0_30
            have t116_0_28 := congrFun (congrFun w116 0) 28
            rw [zwr_ne (Or.inr (by decide))] at t116_0_28
            refine zW_aload_n (pc' := 120) dX12_readsStage_4.1.1.1.1 rfl rfl ?_
            refine zG_ref (pc' := 123) 14 fg_X12_51 tb0 rfl dX12_readsStage_4.1.1.1.2 rfl ?_
            refine zW_aload_n (pc' := 124) dX12_readsStage_4.1.1.2 rfl rfl ?_
            refine zG_int (pc' := 127) fg_X12_167 tb0 rfl dX12_readsStage_4.1.2.1 rfl ?_
            have e124 := hF.rh 0 30
            refine zW_aload_n (pc' := 128) dX12_readsStage_4.1.2.2 rfl rfl ?_
            refine zG_int (pc' := 131) fg_X12_151 tb0 rfl dX12_readsStage_4.2.1.1 rfl ?_
            have e128 := hF.rh 0 31
            have y30b : h 0 30 = κ 0 30 + 1 := by omega
            refine zSm (pc' := 132) hF rfl (fun v' hv he => ⟨(SI_irr hF.2.1 (Or.inl (key_of rfl _)) (fun _ _ => hv)), (KR_c14 hF.2.2.1 (by have := he ⟨by omega, by omega⟩; omega)), (KC_irr hF.2.2.2 rfl)⟩) tb14 (by omega) dX12_readsStage_4.2.1.2 (by decide) rfl (fun h i131 hF a131 b131 w131 => ?_)
            have t131_0_26 := congrFun (congrFun w131 0) 26
            rw [zwr_ne (Or.inl (by decide))] at t131_0_26
            have t131_0_31 := congrFun (congrFun w131 0) 31
            rw [zwr_ne (Or.inl (by decide))] at t131_0_31
            have t131_0_30 := congrFun (congrFun w131 0) 30
            rw [zwr_ne (Or.inl (by decide))] at t131_0_30
            have t131_0_28 := congrFun (congrFun w131 0) 28
            rw [zwr_ne (Or.inl (by decide))] at t131_0_28
            have f15 : h 15 = hC 15 := by rw [w131, w116, w108, eC, zfun (by decide), zfun (by decide), zfun (by decide)]
            have f13a : h 13 (κ 0 30).toNat = v1 := by rw [w131, w116, w108, zwr_ne (Or.inl (by decide)), zwr_ne (Or.inl (by decide)), y30, zwr_eq]; exact b108 ⟨by omega, by omega⟩
            have f13b : ∀ j, j ≠ (κ 0 30).toNat → h 13 j = κ 13 j := fun j hj => by rw [w131, w116, w108, zwr_ne (Or.inl (by decide)), zwr_ne (Or.inl (by decide)), y30, zwr_ne (Or.inr hj), ← eC, c13]
            have f14a : h 14 (κ 0 30 + 1).toNat = hC 0 31 := by have q := b131 ⟨by omega, by omega⟩; rw [w131, y30b, zwr_eq]; omega
            have f14b : ∀ j, j ≠ (κ 0 30 + 1).toNat → h 14 j = κ 14 j := fun j hj => by rw [w131, y30b, zwr_ne (Or.inr hj), w116, w108, zwr_ne (Or.inl (by decide)), zwr_ne (Or.inl (by decide)), ← eC, c14]
            have y27 := hF.1 0 27 rfl rfl
            have e30 : h 0 30 = κ 0 30 + 1 := by omega
            have hNP : NP h := ⟨⟨by omega, by omega, by omega⟩, ⟨by omega, by omega⟩, ⟨by omega, by omega⟩, by rw [e30, f14a]; omega, by rw [e30, f15]; exact hRc.push (by omega) f13a f13b f14a f14b (fun j hj => hPC j (by omega)) (by omega) (by omega) (by omega) (by rw [hA0]; exact n2) (by rw [hA0]; exact n3)⟩
            have nx := nxfc g p (κ 0 30) f
            have fin31 : h 0 31 = hC 0 31 := by omega
            have aq : AQ g p κ h := ⟨f13a.trans q1, f13b, f14a.trans fin31.symm, f14b, by rw [f15, fin31]; exact qn2⟩
            refine zW_iconst (pc' := 133) dX12_readsStage_4.2.2.1 rfl ?_
            exact zV_zret rfl (by omega) dX12_readsStage_4.2.2.2 ⟨hF, by have g4 : sgE g p = nbE g (g p) (p + 2) := rfl; refine ⟨by omega, by omega, by omega, by omega, fun _ => hNP, by omega, ?_, fun _ => aq⟩; intro _ j hj; by_cases ej : j = (κ 0 30).toNat; (rw [ej, f13a]; omega); (rw [f13b j ej]; have z := hfl j (by omega); omega)⟩
          · first | (have r0 : r83 = 0 := (by omega); have sg : sgF g p (κ 0 30) f = sF g (p + 1) 58 := sg_s lz (by omega)) | skip
            refine zW_iconst (pc' := 98) dX12_readsStage_3.1.1.2.1 rfl ?_
            exact zV_zret rfl (by omega) dX12_readsStage_3.1.1.2.2 ⟨hF, by refine ⟨by omega, by omega, by omega, by omega, fun q => absurd q (by omega), by omega, fun q => absurd q (by omega), fun q => absurd q (by omega)⟩⟩
      · have gs : sgF g p (κ 0 30) f = -6000 - p := sg_6 (by omega) (by omega) (by omega) (by omega)
        clear e49 e53
        refine zW_aload_n (pc' := 60) dX12_readsStage_1.2.2.2.1 rfl rfl ?_
        refine zW_bipush (pc' := 62) dX12_readsStage_1.2.2.2.2 rfl rfl ?_
        refine zW_aload_n (pc' := 63) dX12_readsStage_2.1.1.1.1 rfl rfl ?_
        refine zG_int (pc' := 66) fg_X12_123 tb0 rfl dX12_readsStage_2.1.1.1.2 rfl ?_
        have e63 := hF.rh 0 26
        have y27 := hF.1 0 27 rfl rfl
        refine cvI2 (pc' := 69) kX12_wrongAt vX12_wrongAt lk_X12_136 ⟨Nat.le_of_ble_eq_true rfl, Nat.le_of_ble_eq_true rfl⟩ tb0 vq12 rfl rfl (s_X12_wrongAtP hF.2.1 hF.2.2.1 hF.2.2.2 _ ⟨by omega, by omega⟩ _ ⟨by omega, by omega⟩) dX12_readsStage_2.1.1.2.1 (Nat.le_of_ble_eq_true rfl) rfl ?_
        rintro r66 h ⟨hF1, p66⟩; replace hF := hF.tr hF1 rfl
        replace hPre : Pre15 κ h := hPre.fm hF1 (fun _ => rfl)
        replace h13 : h 13 = κ 13 := (hF1.cell 13 rfl (fun _ => rfl)).trans h13
        replace h14 : h 14 = κ 14 := (hF1.cell 14 rfl (fun _ => rfl)).trans h14
        have t66_0_26 := hF1.1 0 26 rfl rfl
        have t66_0_31 := hF1.1 0 31 rfl rfl
        have t66_0_30 := hF1.1 0 30 rfl rfl
        exact zV_zret rfl (by omega) dX12_readsStage_2.1.1.2.2 ⟨hF, by refine ⟨by omega, by omega, by omega, by omega, fun q => absurd q (by omega), by omega, fun q => absurd q (by omega), fun q => absurd q (by omega)⟩⟩
    · have gs : sgF g p (κ 0 30) f = -4000 - p := sg_4 (by omega) (by omega) (by omega)
      refine zW_aload_n (pc' := 39) dX12_readsStage_1.1.1.2.2 rfl rfl ?_
      refine zW_iconst (pc' := 40) dX12_readsStage_1.1.2.1.1 rfl ?_
      refine zW_aload_n (pc' := 41) dX12_readsStage_1.1.2.1.2 rfl rfl ?_
      refine zG_int (pc' := 44) fg_X12_123 tb0 rfl dX12_readsStage_1.1.2.2.1 rfl ?_
      have e41 := hF.rh 0 26
      have y27 := hF.1 0 27 rfl rfl
      refine cvI2 (pc' := 47) kX12_wrongAt vX12_wrongAt lk_X12_136 ⟨Nat.le_of_ble_eq_true rfl, Nat.le_of_ble_eq_true rfl⟩ tb0 vq12 rfl rfl (s_X12_wrongAtP hF.2.1 hF.2.2.1 hF.2.2.2 _ ⟨by omega, by omega⟩ _ ⟨by omega, by omega⟩) dX12_readsStage_1.1.2.2.2 (Nat.le_of_ble_eq_true rfl) rfl ?_
      rintro r44 h ⟨hF1, p44⟩; replace hF := hF.tr hF1 rfl
      replace hPre : Pre15 κ h := hPre.fm hF1 (fun _ => rfl)
      replace h13 : h 13 = κ 13 := (hF1.cell 13 rfl (fun _ => rfl)).trans h13
      replace h14 : h 14 = κ 14 := (hF1.cell 14 rfl (fun _ => rfl)).trans h14
      have t44_0_26 := hF1.1 0 26 rfl rfl
      have t44_0_31 := hF1.1 0 31 rfl rfl
      have t44_0_30 := hF1.1 0 30 rfl rfl
      exact zV_zret rfl (by omega) dX12_readsStage_1.2.1.1.1 ⟨hF, by refine ⟨by omega, by omega, by omega, by omega, fun q => absurd q (by omega), by omega, fun q => absurd q (by omega), fun q => absurd q (by omega)⟩⟩
  refine zM_of [some (.inr (.inr 0)), none] 1 rfl rfl (Nat.le_of_ble_eq_true rfl) rfl ?_
  refine (show ∀ h : Hp, Fm [(0, 26), (0, 28), (0, 29), (0, 31), (15, 999), (0, 30), (13, 999), (14, 999)] κ h → h = κ → zV G mX12_readsStage (q_X12_readsStageQ κ g p f) 0 [some (.inr (.inr 0)), none] [] h from fun h hF hk0 => ?_) κ (Fm.rf hS hR hC) rfl
  have y0_0_26 : h 0 26 = κ 0 26 := by rw [hk0]
  have y0_0_27 : h 0 27 = κ 0 27 := by rw [hk0]
  have y0_0_31 : h 0 31 = κ 0 31 := by rw [hk0]
  have y0_0_30 : h 0 30 = κ 0 30 := by rw [hk0]
  have hPre : Pre15 κ h := by rw [hk0]; exact Pre15.rf
  have h13 : h 13 = κ 13 := by rw [hk0]
  have h14 : h 14 = κ 14 := by rw [hk0]
  refine zW_aload_n (pc' := 1) dX12_readsStage_0.1.1.1.1 rfl rfl ?_
  have y27 := hF.1 0 27 rfl rfl
  have y1_0_27 := hF.1 0 27 rfl rfl
  refine cvI0 (pc' := 4) kX12_here vX12_here lk_X12_132 ⟨Nat.le_of_ble_eq_true rfl, Nat.le_of_ble_eq_true rfl⟩ tb0 vq12 rfl rfl (s_X12_hereP (b := true) (κ := h) hF.2.2.1 (Fr.rf hF.2.1) g p (by rw [hF.cell 12 rfl (fun _ => rfl), hF.1 0 27 rfl rfl]; exact hg) (by omega) (by omega)) dX12_readsStage_0.1.1.1.2 (Nat.le_of_ble_eq_true rfl) rfl ?_
  rintro r1 z1 ⟨hz1, p1⟩; subst z1
  have q1 : r1 = g p := p1.2.2.1
  have kb := kd_b (g p)
  have r1b := And.intro p1.1 p1.2.1
  have pn : ¬ p < κ 0 27 → kd (g p) = -1 := fun z => by rw [← q1, p1.2.2.2 (by omega)]; exact kd_n (by decide)
  have kn : g p < 0 → kd (g p) = -1 := kd_n
  clear p1
  refine zW_istore_n (ls' := [_, _]) (pc' := 5) dX12_readsStage_0.1.1.2.1 (by decide) rfl rfl rfl ?_
  refine zW_iload_n (pc' := 6) dX12_readsStage_0.1.1.2.2 rfl rfl ?_
  have y27 := hF.1 0 27 rfl rfl
  refine csI1 (pc' := 9) kX12_isEarly vX12_isEarly lk_X12_170 ⟨Nat.le_of_ble_eq_true rfl, Nat.le_of_ble_eq_true rfl⟩ rfl (s_X12_isEarly (b := true) (κ := h) (Fr.rf hF.2.1) _ ⟨by omega, by omega⟩) dX12_readsStage_0.1.2.1.1 (Nat.le_of_ble_eq_true rfl) rfl ?_
  rintro r6 z6 ⟨hz6, p6⟩; subst z6
  have e6 : r6 = 1 ↔ (0 ≤ kd (g p) ∧ kd (g p) ≤ 4) := by rw [← q1]; exact p6.2.2.trans (kd_e _).symm
  have s6 := And.intro p6.1 p6.2.1
  clear p6
  refine zV_if_ne (tgt := 29) (pc' := 12) dX12_readsStage_0.1.2.1.2 rfl rfl ⟨by omega, by omega⟩ (fun c9 => ?_) (fun c9 => ?_)
  · exact k29 _ _ hF (by omega) hk0 (by omega)
  · refine zW_iload_n (pc' := 13) dX12_readsStage_0.1.2.2.1 rfl rfl ?_
    have y27 := hF.1 0 27 rfl rfl
    refine csI1 (pc' := 16) kX12_isLate vX12_isLate lk_X12_173 ⟨Nat.le_of_ble_eq_true rfl, Nat.le_of_ble_eq_true rfl⟩ rfl (s_X12_isLate (b := true) (κ := h) (Fr.rf hF.2.1) _ ⟨by omega, by omega⟩) dX12_readsStage_0.1.2.2.2 (Nat.le_of_ble_eq_true rfl) rfl ?_
    rintro r13 z13 ⟨hz13, p13⟩; subst z13
    have e13 : r13 = 1 ↔ 5 ≤ kd (g p) := by rw [← q1]; exact p13.2.2.trans (kd_l _).symm
    have s13 := And.intro p13.1 p13.2.1
    clear p13
    refine zV_if_ne (tgt := 29) (pc' := 19) dX12_readsStage_0.2.1.1.1 rfl rfl ⟨by omega, by omega⟩ (fun c16 => ?_) (fun c16 => ?_)
    · exact k29 _ _ hF (by omega) hk0 (by omega)
    · have gs : sgF g p (κ 0 30) f = -1000 - p := sg_1 (by omega) (by omega)
      clear e6 e13
      refine zW_aload_n (pc' := 20) dX12_readsStage_0.2.1.1.2 rfl rfl ?_
      refine zW_iconst (pc' := 21) dX12_readsStage_0.2.1.2.1 rfl ?_
      refine zW_aload_n (pc' := 22) dX12_readsStage_0.2.1.2.2 rfl rfl ?_
      refine zG_int (pc' := 25) fg_X12_123 tb0 rfl dX12_readsStage_0.2.2.1.1 rfl ?_
      have e22 := hF.rh 0 26
      have y27 := hF.1 0 27 rfl rfl
      refine cvI2 (pc' := 28) kX12_wrongAt vX12_wrongAt lk_X12_136 ⟨Nat.le_of_ble_eq_true rfl, Nat.le_of_ble_eq_true rfl⟩ tb0 vq12 rfl rfl (s_X12_wrongAtP hF.2.1 hF.2.2.1 hF.2.2.2 _ ⟨by omega, by omega⟩ _ ⟨by omega, by omega⟩) dX12_readsStage_0.2.2.1.2 (Nat.le_of_ble_eq_true rfl) rfl ?_
      rintro r25 h ⟨hF1, p25⟩; replace hF := hF.tr hF1 rfl
      replace hPre : Pre15 κ h := hPre.fm hF1 (fun _ => rfl)
      replace h13 : h 13 = κ 13 := (hF1.cell 13 rfl (fun _ => rfl)).trans h13
      replace h14 : h 14 = κ 14 := (hF1.cell 14 rfl (fun _ => rfl)).trans h14
      have t25_0_26 := hF1.1 0 26 rfl rfl
      have t25_0_31 := hF1.1 0 31 rfl rfl
      have t25_0_30 := hF1.1 0 30 rfl rfl
      exact zV_zret rfl (by omega) dX12_readsStage_0.2.2.2.1 ⟨hF, by refine ⟨by omega, by omega, by omega, by omega, fun q => absurd q (by omega), by omega, fun q => absurd q (by omega), fun q => absurd q (by omega)⟩⟩

abbrev q_X12_stagesQ (κ : Hp) (x1 : Int) (g : Int → Int) : Int → Hp → Prop := fun r h' => Fm [(0, 26), (0, 28), (0, 29), (0, 31), (15, 999), (0, 30), (13, 999), (14, 999), (0, 27), (0, 25), (0, 14), (3, 999), (4, 999), (5, 999)] κ h' ∧ ((((¬ (0 ≤ x1 ∧ x1 ≤ 120 ∧ x1 ≤ κ 0 25) ∧ r = -1 ∧ h' 0 25 = κ 0 25 ∧ h' 0 14 = κ 0 14) ∨ ((0 ≤ x1 ∧ x1 ≤ 120 ∧ x1 ≤ κ 0 25) ∧ h' 0 25 = 0 ∧ r = rdF g x1 ∧ ((0 ≤ r ∧ h' 0 14 = r) ∨ (r < 0 ∧ h' 0 14 = κ 0 14)))) ∧ (∀ j : Nat, (0 ≤ r → (j : Int) < r → (h' 3 j = 102 ↔ (j : Int) + 1 = rdA g x1)) ∧ (r < 0 → h' 3 j = κ 3 j)) ∧ (0 ≤ r → 0 ≤ rdA g x1 ∧ rdA g x1 ≤ r) ∧ RWI r g (h' 3) (h' 4) (h' 5) ∧ EQ3 r κ h'))
set_option maxHeartbeats 4000000 in
set_option maxRecDepth 20000 in
theorem s_X12_stagesQ {G : Ga} {κ : Hp} (hS : SI κ) (hR : KR κ) (hC : KC κ) (x1 : Int) (hx1 : rng x1) (g : Int → Int) (hg : x1 ≤ κ 0 25 → hr (fun i => κ 12 i % 256) x1 = g) : zM G mX12_stages yX12_stages [.inr (.inr 0), .inl x1] κ (q_X12_stagesQ κ x1 g) := by
  have f_0_14 := KRm hR
  have f_0_25 := KRt hR
  unfold rng at hx1
  have main : ∀ N : Nat, (∀ (v2 : Int) (h : Hp), Fm [(0, 26), (0, 28), (0, 29), (0, 31), (15, 999), (0, 30), (13, 999), (14, 999), (0, 27), (0, 25), (0, 14), (3, 999), (4, 999), (5, 999)] κ h → (0 ≤ x1 ∧ x1 ≤ 120) → (0 ≤ v2 ∧ v2 ≤ 1) → (0 ≤ h 0 26 ∧ h 0 26 ≤ h 0 27 ∧ h 0 27 = x1 ∧ x1 ≤ 120) → (h 0 25 = κ 0 25 ∧ x1 ≤ κ 0 25) → (v2 = 1 → NP h) → (v2 = 1 → RfI g x1 h) → (v2 = 0 → h 0 28 = rdF g x1 ∧ h 0 28 < 0) → (h 0 14 = κ 0 14) → (∀ j : Nat, h 3 j = κ 3 j) → (ARI v2 g h) → (v2 = 1 → h 0 30 = 0 → x1 = 0) → (∀ j : Nat, h 4 j = κ 4 j) → (∀ j : Nat, h 5 j = κ 5 j) → 1235080 + 56 * (2 * (x1 - h 0 26) + v2) + 55 < (N : Int) → zV G mX12_stages (q_X12_stagesQ κ x1 g) 64 [some (.inr (.inr 0)), some (.inl x1), some (.inl v2)] [] h) := by
    intro N
    induction N with
    | zero =>
      intro v2 h hF g0 g1 gc0 gc1 gc2 gc3 gc4 gc5 gc6 gc7 gc8 gc9 gc10 hm
      exfalso; omega
    | succ N ih =>
      have k64 := ih
      intro v2 h hF g0 g1 gc0 gc1 gc2 gc3 gc4 gc5 gc6 gc7 gc8 gc9 gc10 hm
      refine zW_iload_n (pc' := 65) dX12_stages_2.1.2.1.2 rfl rfl ?_
      refine zV_if_eq (tgt := 104) (pc' := 68) dX12_stages_2.1.2.2.1 rfl rfl ⟨by omega, by omega⟩ (fun c65 => ?_) (fun c65 => ?_)
      · have rf4 : v2 = 1 → rdF g x1 = h 0 30 := fun z => by obtain ⟨f, -, -, st⟩ := gc3 z; exact (st.1 (by omega)).1
        refine zW_aload_n (pc' := 105) dX12_stages_3.2.1.1.1 rfl rfl ?_
        refine zW_iconst (pc' := 106) dX12_stages_3.2.1.1.2 rfl ?_
        refine zPm (pc' := 109) hF (Or.inl rfl) (SI_irr hF.2.1 (Or.inl rfl) (fun _ _ => ⟨by omega, by omega⟩)) (KR_25 hF.2.2.1 (by omega)) (KC_irr hF.2.2.2 rfl) fp_X12_116 tb0 rfl dX12_stages_3.2.1.2.1 rfl (fun h hF w106 => ?_)
        have a106_3 := fun j : Nat => (congrFun (congrFun w106 3) j).trans (zwr_ne (Or.inl (by decide)))
        have a106_4 := fun j : Nat => (congrFun (congrFun w106 4) j).trans (zwr_ne (Or.inl (by decide)))
        have a106_5 := fun j : Nat => (congrFun (congrFun w106 5) j).trans (zwr_ne (Or.inl (by decide)))
        have t106_0_25 := congrFun (congrFun w106 0) 25
        rw [zwr_eq] at t106_0_25
        have t106_0_26 := congrFun (congrFun w106 0) 26
        rw [zwr_ne (Or.inr (by decide))] at t106_0_26
        have t106_0_27 := congrFun (congrFun w106 0) 27
        rw [zwr_ne (Or.inr (by decide))] at t106_0_27
        have t106_0_30 := congrFun (congrFun w106 0) 30
        rw [zwr_ne (Or.inr (by decide))] at t106_0_30
        have t106_0_31 := congrFun (congrFun w106 0) 31
        rw [zwr_ne (Or.inr (by decide))] at t106_0_31
        have t106_0_28 := congrFun (congrFun w106 0) 28
        rw [zwr_ne (Or.inr (by decide))] at t106_0_28
        have t106_0_14 := congrFun (congrFun w106 0) 14
        rw [zwr_ne (Or.inr (by decide))] at t106_0_14
        have hN4 : v2 = 1 → NP h := fun q => by rw [w106]; exact (gc2 q).w25
        have rf5 : v2 = 1 → RfI g x1 h := fun q => by rw [w106]; exact (gc3 q).w25
        have ar9 : ARI v2 g h := fun q => by rw [w106]; exact (gc7 q).w25
        refine zW_iload_n (pc' := 110) dX12_stages_3.2.1.2.2 rfl rfl ?_
        refine zV_if_ne (tgt := 118) (pc' := 113) dX12_stages_3.2.2.1.1 rfl rfl ⟨by omega, by omega⟩ (fun c110 => ?_) (fun c110 => ?_)
        · exfalso; omega
        · refine zW_aload_n (pc' := 114) dX12_stages_3.2.2.1.2 rfl rfl ?_
          refine zG_int (pc' := 117) fg_X12_129 tb0 rfl dX12_stages_3.2.2.2.1 rfl ?_
          have e114 := hF.rh 0 28
          exact zV_iret rfl dX12_stages_3.2.2.2.2 ⟨hF, by exact ⟨by omega, fun j => ⟨fun z => absurd z (by omega), fun _ => (a106_3 j).trans (gc6 j)⟩, fun z => absurd z (by omega), fun z => absurd z (by omega), fun _ j => ⟨(a106_3 j).trans (gc6 j), (a106_4 j).trans (gc9 j), (a106_5 j).trans (gc10 j)⟩⟩⟩
      · refine zW_aload_n (pc' := 69) dX12_stages_2.1.2.2.2 rfl rfl ?_
        refine zG_int (pc' := 72) fg_X12_123 tb0 rfl dX12_stages_2.2.1.1.1 rfl ?_
        have e69 := hF.rh 0 26
        refine zW_aload_n (pc' := 73) dX12_stages_2.2.1.1.2 rfl rfl ?_
        refine zG_int (pc' := 76) fg_X12_126 tb0 rfl dX12_stages_2.2.1.2.1 rfl ?_
        have e73 := hF.rh 0 27
        refine zV_cm_ge (tgt := 104) (pc' := 79) dX12_stages_2.2.1.2.2 rfl rfl ⟨by omega, by omega⟩ ⟨by omega, by omega⟩ (fun c76 => ?_) (fun c76 => ?_)
        · have rf4 : v2 = 1 → rdF g x1 = h 0 30 := fun z => by obtain ⟨f, -, -, st⟩ := gc3 z; exact (st.1 (by omega)).1
          refine zW_aload_n (pc' := 105) dX12_stages_3.2.1.1.1 rfl rfl ?_
          refine zW_iconst (pc' := 106) dX12_stages_3.2.1.1.2 rfl ?_
          refine zPm (pc' := 109) hF (Or.inl rfl) (SI_irr hF.2.1 (Or.inl rfl) (fun _ _ => ⟨by omega, by omega⟩)) (KR_25 hF.2.2.1 (by omega)) (KC_irr hF.2.2.2 rfl) fp_X12_116 tb0 rfl dX12_stages_3.2.1.2.1 rfl (fun h hF w106 => ?_)
          have a106_3 := fun j : Nat => (congrFun (congrFun w106 3) j).trans (zwr_ne (Or.inl (by decide)))
          have a106_4 := fun j : Nat => (congrFun (congrFun w106 4) j).trans (zwr_ne (Or.inl (by decide)))
          have a106_5 := fun j : Nat => (congrFun (congrFun w106 5) j).trans (zwr_ne (Or.inl (by decide)))
          have t106_0_25 := congrFun (congrFun w106 0) 25
          rw [zwr_eq] at t106_0_25
          have t106_0_26 := congrFun (congrFun w106 0) 26
          rw [zwr_ne (Or.inr (by decide))] at t106_0_26
          have t106_0_27 := congrFun (congrFun w106 0) 27
          rw [zwr_ne (Or.inr (by decide))] at t106_0_27
          have t106_0_30 := congrFun (congrFun w106 0) 30
          rw [zwr_ne (Or.inr (by decide))] at t106_0_30
          have t106_0_31 := congrFun (congrFun w106 0) 31
          rw [zwr_ne (Or.inr (by decide))] at t106_0_31
          have t106_0_28 := congrFun (congrFun w106 0) 28
          rw [zwr_ne (Or.inr (by decide))] at t106_0_28
          have t106_0_14 := congrFun (congrFun w106 0) 14
          rw [zwr_ne (Or.inr (by decide))] at t106_0_14
          have hN4 : v2 = 1 → NP h := fun q => by rw [w106]; exact (gc2 q).w25
          have rf5 : v2 = 1 → RfI g x1 h := fun q => by rw [w106]; exact (gc3 q).w25
          have ar9 : ARI v2 g h := fun q => by rw [w106]; exact (gc7 q).w25
          refine zW_iload_n (pc' := 110) dX12_stages_3.2.1.2.2 rfl rfl ?_
          refine zV_if_ne (tgt := 118) (pc' := 113) dX12_stages_3.2.2.1.1 rfl rfl ⟨by omega, by omega⟩ (fun c110 => ?_) (fun c110 => ?_)
          · have ar8 := (ar9 (by omega)).1
            obtain ⟨f, hf0, hfl, st⟩ := rf5 (by omega)
            have rA := st.1 (by omega)
            have hN4 := hN4 (by omega)
            obtain ⟨hn1, hn2, hn3, hn4, hn5⟩ := hN4
            have hS0 := hF.2.1
            refine zW_aload_n (pc' := 119) dX12_stages_4.1.1.1.1 rfl rfl ?_
            refine zW_aload_n (pc' := 120) dX12_stages_4.1.1.1.2 rfl rfl ?_
            refine zG_int (pc' := 123) fg_X12_167 tb0 rfl dX12_stages_4.1.1.2.1 rfl ?_
            refine zV_puti (pc' := 126) fp_X12_185 tb0 rfl dX12_stages_4.1.1.2.2 rfl ?_
            have hS1 := SI_irr (k := 0) (i := 14) (v := h 0 30) hS0 (Or.inl rfl) (fun _ _ => ⟨by omega, by omega⟩)
            generalize e1 : zwr h 0 14 (h 0 30) = h1 at hS1 ⊢
            refine zW_aload_n (pc' := 127) dX12_stages_4.1.2.1.1 rfl rfl ?_
            refine zG_ref (pc' := 130) 13 fg_X12_48 tb0 rfl dX12_stages_4.1.2.1.2 rfl ?_
            refine zW_aload_n (pc' := 131) dX12_stages_4.1.2.2.1 rfl rfl ?_
            refine zG_ref (pc' := 134) 3 fg_X12_16 tb0 rfl dX12_stages_4.1.2.2.2 rfl ?_
            refine csV2 (pc' := 137) kX12_copies vX12_copies lk_X12_188 ⟨Nat.le_of_ble_eq_true rfl, Nat.le_of_ble_eq_true rfl⟩ rfl (s_X12_copies tb13 tb3 (by decide) (by decide)) dX12_stages_4.2.1.1.1 (Nat.le_of_ble_eq_true rfl) rfl ?_
            rintro _ h2 e2; replace e2 := e2.symm
            have hS2 : SI h2 := by rw [← e2]; exact SI_cpy hS1 rfl (by decide)
            refine zW_aload_n (pc' := 138) dX12_stages_4.2.1.1.2 rfl rfl ?_
            refine zG_ref (pc' := 141) 14 fg_X12_51 tb0 rfl dX12_stages_4.2.1.2.1 rfl ?_
            refine zW_aload_n (pc' := 142) dX12_stages_4.2.1.2.2 rfl rfl ?_
            refine zG_ref (pc' := 145) 4 fg_X12_19 tb0 rfl dX12_stages_4.2.2.1.1 rfl ?_
            refine csV2 (pc' := 148) kX12_copies vX12_copies lk_X12_188 ⟨Nat.le_of_ble_eq_true rfl, Nat.le_of_ble_eq_true rfl⟩ rfl (s_X12_copies tb14 tb4 (by decide) (by decide)) dX12_stages_4.2.2.1.2 (Nat.le_of_ble_eq_true rfl) rfl ?_
            rintro _ h3 e3; replace e3 := e3.symm
            have hS3 : SI h3 := by rw [← e3]; exact SI_cpy hS2 rfl (by decide)
            refine zW_aload_n (pc' := 149) dX12_stages_4.2.2.2.1 rfl rfl ?_
            refine zG_ref (pc' := 152) 15 fg_X12_54 tb0 rfl dX12_stages_4.2.2.2.2 rfl ?_
            refine zW_aload_n (pc' := 153) dX12_stages_5.1.1.1.1 rfl rfl ?_
            refine zG_ref (pc' := 156) 5 fg_X12_22 tb0 rfl dX12_stages_5.1.1.1.2 rfl ?_
            refine csV2 (pc' := 159) kX12_copies vX12_copies lk_X12_188 ⟨Nat.le_of_ble_eq_true rfl, Nat.le_of_ble_eq_true rfl⟩ rfl (s_X12_copies tb15 tb5 (by decide) (by decide)) dX12_stages_5.1.1.2 (Nat.le_of_ble_eq_true rfl) rfl ?_
            rintro _ h4 e4; replace e4 := e4.symm
            have hS4 : SI h4 := by rw [← e4]; exact SI_cpy hS3 rfl (by decide)
            refine zW_aload_n (pc' := 160) dX12_stages_5.1.2.1 rfl rfl ?_
            refine zW_iconst (pc' := 161) dX12_stages_5.1.2.2 rfl ?_
            refine zV_putz (pc' := 164) fp_X12_192 (by omega) tb0 rfl dX12_stages_5.2.1.1 rfl ?_
            have hS5 := SI_irr (k := 0) (i := 23) (v := 0) hS4 (Or.inr (Or.inl rfl)) (fun _ _ => ⟨by omega, by omega⟩)
            generalize e5 : zwr h4 0 23 0 = h5 at hS5 ⊢
            refine zW_aload_n (pc' := 165) dX12_stages_5.2.1.2 rfl rfl ?_
            refine zG_int (pc' := 168) fg_X12_185 tb0 rfl dX12_stages_5.2.2.1 rfl ?_
            have fr : ∀ k i, key k i = true → inW [(0, 26), (0, 28), (0, 29), (0, 31), (15, 999), (0, 30), (13, 999), (14, 999), (0, 27), (0, 25), (0, 14), (3, 999), (4, 999), (5, 999)] k i = false → h5 k i = h k i := fun k i hk hl => by rw [← e5, zwr_ne (show k ≠ 0 ∨ i ≠ 23 from by by_cases q : k = 0; exact Or.inr (fun z => by subst q; subst z; cases hk); exact Or.inl q), ← e4, cpy_ne (inW_nc (L := [(0, 26), (0, 28), (0, 29), (0, 31), (15, 999), (0, 30), (13, 999), (14, 999), (0, 27), (0, 25), (0, 14), (3, 999), (4, 999), (5, 999)]) (c := 5) rfl hl), ← e3, cpy_ne (inW_nc (L := [(0, 26), (0, 28), (0, 29), (0, 31), (15, 999), (0, 30), (13, 999), (14, 999), (0, 27), (0, 25), (0, 14), (3, 999), (4, 999), (5, 999)]) (c := 4) rfl hl), ← e2, cpy_ne (inW_nc (L := [(0, 26), (0, 28), (0, 29), (0, 31), (15, 999), (0, 30), (13, 999), (14, 999), (0, 27), (0, 25), (0, 14), (3, 999), (4, 999), (5, 999)]) (c := 3) rfl hl), ← e1, zwr_ne (inW_ne (L := [(0, 26), (0, 28), (0, 29), (0, 31), (15, 999), (0, 30), (13, 999), (14, 999), (0, 27), (0, 25), (0, 14), (3, 999), (4, 999), (5, 999)]) (k := 0) (i := 14) rfl hl)]
            have hCf : KC h5 := KC_low hF.2.2.2 (fun k i hk => by rw [← e5, zwr_ne (Or.inl (by omega)), ← e4, cpy_ne (by omega), ← e3, cpy_ne (by omega), ← e2, cpy_ne (by omega), ← e1, zwr_ne (Or.inl (by omega))])
            have g11f : h5 0 11 = h 0 11 := by rw [← e5, zwr_ne (Or.inr (by decide)), ← e4, cpy_ne (by decide), ← e3, cpy_ne (by decide), ← e2, cpy_ne (by decide), ← e1, zwr_ne (Or.inr (by decide))]
            have g12f : h5 0 12 = h 0 12 := by rw [← e5, zwr_ne (Or.inr (by decide)), ← e4, cpy_ne (by decide), ← e3, cpy_ne (by decide), ← e2, cpy_ne (by decide), ← e1, zwr_ne (Or.inr (by decide))]
            have g13f : h5 0 13 = h 0 13 := by rw [← e5, zwr_ne (Or.inr (by decide)), ← e4, cpy_ne (by decide), ← e3, cpy_ne (by decide), ← e2, cpy_ne (by decide), ← e1, zwr_ne (Or.inr (by decide))]
            have g14f : h5 0 14 = h 0 30 := by rw [← e5, zwr_ne (Or.inr (by decide)), ← e4, cpy_ne (by decide), ← e3, cpy_ne (by decide), ← e2, cpy_ne (by decide), ← e1, zwr_eq]
            have g15f : h5 0 15 = h 0 15 := by rw [← e5, zwr_ne (Or.inr (by decide)), ← e4, cpy_ne (by decide), ← e3, cpy_ne (by decide), ← e2, cpy_ne (by decide), ← e1, zwr_ne (Or.inr (by decide))]
            have g16f : h5 0 16 = h 0 16 := by rw [← e5, zwr_ne (Or.inr (by decide)), ← e4, cpy_ne (by decide), ← e3, cpy_ne (by decide), ← e2, cpy_ne (by decide), ← e1, zwr_ne (Or.inr (by decide))]
            have g17f : h5 0 17 = h 0 17 := by rw [← e5, zwr_ne (Or.inr (by decide)), ← e4, cpy_ne (by decide), ← e3, cpy_ne (by decide), ← e2, cpy_ne (by decide), ← e1, zwr_ne (Or.inr (by decide))]
            have g18f : h5 0 18 = h 0 18 := by rw [← e5, zwr_ne (Or.inr (by decide)), ← e4, cpy_ne (by decide), ← e3, cpy_ne (by decide), ← e2, cpy_ne (by decide), ← e1, zwr_ne (Or.inr (by decide))]
            have g19f : h5 0 19 = h 0 19 := by rw [← e5, zwr_ne (Or.inr (by decide)), ← e4, cpy_ne (by decide), ← e3, cpy_ne (by decide), ← e2, cpy_ne (by decide), ← e1, zwr_ne (Or.inr (by decide))]
            have g20f : h5 0 20 = h 0 20 := by rw [← e5, zwr_ne (Or.inr (by decide)), ← e4, cpy_ne (by decide), ← e3, cpy_ne (by decide), ← e2, cpy_ne (by decide), ← e1, zwr_ne (Or.inr (by decide))]
            have g21f : h5 0 21 = h 0 21 := by rw [← e5, zwr_ne (Or.inr (by decide)), ← e4, cpy_ne (by decide), ← e3, cpy_ne (by decide), ← e2, cpy_ne (by decide), ← e1, zwr_ne (Or.inr (by decide))]
            have g22f : h5 0 22 = h 0 22 := by rw [← e5, zwr_ne (Or.inr (by decide)), ← e4, cpy_ne (by decide), ← e3, cpy_ne (by decide), ← e2, cpy_ne (by decide), ← e1, zwr_ne (Or.inr (by decide))]
            have g25f : h5 0 25 = h 0 25 := by rw [← e5, zwr_ne (Or.inr (by decide)), ← e4, cpy_ne (by decide), ← e3, cpy_ne (by decide), ← e2, cpy_ne (by decide), ← e1, zwr_ne (Or.inr (by decide))]
            have cc3 : ∀ j, j < 12 → h5 3 j = h 13 j := fun j hj => by rw [← e5, zwr_ne (Or.inl (by decide)), ← e4, cpy_ne (by decide), ← e3, cpy_ne (by decide), ← e2, cpy_in hj, ← e1, zwr_ne (Or.inl (by decide))]
            have oo3 : ∀ j, 12 ≤ j → h5 3 j = h 3 j := fun j hj => by rw [← e5, zwr_ne (Or.inl (by decide)), ← e4, cpy_ne (by decide), ← e3, cpy_ne (by decide), ← e2, cpy_out hj, ← e1, zwr_ne (Or.inl (by decide))]
            have cc4 : ∀ j, j < 13 → h5 4 j = h 14 j := fun j hj => by rw [← e5, zwr_ne (Or.inl (by decide)), ← e4, cpy_ne (by decide), ← e3, cpy_in hj, ← e2, cpy_ne (by decide), ← e1, zwr_ne (Or.inl (by decide))]
            have oo4 : ∀ j, 13 ≤ j → h5 4 j = h 4 j := fun j hj => by rw [← e5, zwr_ne (Or.inl (by decide)), ← e4, cpy_ne (by decide), ← e3, cpy_out hj, ← e2, cpy_ne (by decide), ← e1, zwr_ne (Or.inl (by decide))]
            have cc5 : ∀ j, j < 130 → h5 5 j = h 15 j := fun j hj => by rw [← e5, zwr_ne (Or.inl (by decide)), ← e4, cpy_in hj, ← e3, cpy_ne (by decide), ← e2, cpy_ne (by decide), ← e1, zwr_ne (Or.inl (by decide))]
            have oo5 : ∀ j, 130 ≤ j → h5 5 j = h 5 j := fun j hj => by rw [← e5, zwr_ne (Or.inl (by decide)), ← e4, cpy_out hj, ← e3, cpy_ne (by decide), ← e2, cpy_ne (by decide), ← e1, zwr_ne (Or.inl (by decide))]
            have cc7 : h5 7 = h 7 := funext fun j => by rw [← e5, zwr_ne (Or.inl (by decide)), ← e4, cpy_ne (by decide), ← e3, cpy_ne (by decide), ← e2, cpy_ne (by decide), ← e1, zwr_ne (Or.inl (by decide))]
            have cc8 : h5 8 = h 8 := funext fun j => by rw [← e5, zwr_ne (Or.inl (by decide)), ← e4, cpy_ne (by decide), ← e3, cpy_ne (by decide), ← e2, cpy_ne (by decide), ← e1, zwr_ne (Or.inl (by decide))]
            have cc9 : h5 9 = h 9 := funext fun j => by rw [← e5, zwr_ne (Or.inl (by decide)), ← e4, cpy_ne (by decide), ← e3, cpy_ne (by decide), ← e2, cpy_ne (by decide), ← e1, zwr_ne (Or.inl (by decide))]
            have cc10 : h5 10 = h 10 := funext fun j => by rw [← e5, zwr_ne (Or.inl (by decide)), ← e4, cpy_ne (by decide), ← e3, cpy_ne (by decide), ← e2, cpy_ne (by decide), ← e1, zwr_ne (Or.inl (by decide))]
            have cc11 : h5 11 = h 11 := funext fun j => by rw [← e5, zwr_ne (Or.inl (by decide)), ← e4, cpy_ne (by decide), ← e3, cpy_ne (by decide), ← e2, cpy_ne (by decide), ← e1, zwr_ne (Or.inl (by decide))]
            have cc14 : h5 14 = h 14 := funext fun j => by rw [← e5, zwr_ne (Or.inl (by decide)), ← e4, cpy_ne (by decide), ← e3, cpy_ne (by decide), ← e2, cpy_ne (by decide), ← e1, zwr_ne (Or.inl (by decide))]
            have cc15 : h5 15 = h 15 := funext fun j => by rw [← e5, zwr_ne (Or.inl (by decide)), ← e4, cpy_ne (by decide), ← e3, cpy_ne (by decide), ← e2, cpy_ne (by decide), ← e1, zwr_ne (Or.inl (by decide))]
            obtain ⟨a0, a1, a2, a3, a4, a5, a6, a7, a8, a9, a10, a11, a12, a13, a14, a15, a16, a17⟩ := hF.2.2.1
            have hRf : KR h5 := by unfold KR; rw [g11f, g12f, g13f, g14f, g15f, g16f, g17f, g18f, g19f, g20f, g21f, g22f, g25f, cc7, cc8, cc9, cc10, cc11, cc14, cc15]; exact ⟨a0, a1, a2, hn3, a4, a5, bd2 cc4 oo4 a14 a6, hn5.cong3 hn3.2 cc3 cc4 cc5, a8, a9, a10, bd2 cc5 oo5 a15 a11, a12, a13, a14, a15, a16, a17⟩
            exact zV_iret rfl dX12_stages_5.2.2.2 ⟨⟨fun k i hk hl => (fr k i hk hl).trans (hF.1 k i hk hl), hS5, hRf, hCf⟩, ⟨by omega, fun j => ⟨fun z hj => by rw [cc3 j (by omega), rA.2]; exact hfl j (by omega), fun z => absurd z (by omega)⟩, fun z => by rw [rA.2]; omega, fun z => ar8.rw (by omega) (by omega) (by omega) cc3 cc4 cc5, fun z => absurd z (by omega)⟩⟩
          · exfalso; omega
        · have hNl := gc2 (by omega)
          obtain ⟨f, hf0, hfl, st⟩ := gc3 (by omega)
          obtain ⟨q, eq⟩ : ∃ q : Int, q = h 0 26 := ⟨_, rfl⟩
          obtain ⟨m, em⟩ : ∃ m : Int, m = h 0 30 := ⟨_, rfl⟩
          rw [← eq, ← em] at st
          rw [← em] at hf0
          clear gc4
          obtain ⟨arx, ar4⟩ := gc7 (by omega)
          have n30 : h 0 30 ≠ 0 := fun z => by have := gc8 (by omega) z; omega
          have qp : q + 1 = qP g m.toNat := by rw [eq, em]; exact ar4 (by omega)
          refine zW_aload_n (pc' := 80) dX12_stages_2.2.2.1.1 rfl rfl ?_
          refine zW_bipush (pc' := 82) dX12_stages_2.2.2.1.2 rfl rfl ?_
          refine cvI1 (pc' := 85) kX12_takesSign vX12_takesSign lk_X12_154 ⟨Nat.le_of_ble_eq_true rfl, Nat.le_of_ble_eq_true rfl⟩ tb0 vq12 rfl rfl (s_X12_takesSignP hF.2.1 hF.2.2.1 hF.2.2.2 _ ⟨by omega, by omega⟩ g q (by rw [hF.cell 12 rfl (fun _ => rfl), show h 0 27 = x1 by omega]; exact hg (by omega)) (by omega) hNl.1) dX12_stages_2.2.2.2.1 (Nat.le_of_ble_eq_true rfl) rfl ?_
          rintro r82 h ⟨hF1, p82⟩; replace hF := hF.tr hF1 rfl
          have f82_3 := fun j : Nat => hF1.1 3 j rfl rfl
          have f82_4 := fun j : Nat => hF1.1 4 j rfl rfl
          have f82_5 := fun j : Nat => hF1.1 5 j rfl rfl
          have t82_0_25 := hF1.1 0 25 rfl rfl
          have t82_0_27 := hF1.1 0 27 rfl rfl
          have t82_0_30 := hF1.1 0 30 rfl rfl
          have t82_0_31 := hF1.1 0 31 rfl rfl
          have t82_0_14 := hF1.1 0 14 rfl rfl
          refine zV_if_eq (tgt := 99) (pc' := 88) dX12_stages_2.2.2.2.2 rfl rfl ⟨by omega, by omega⟩ (fun c85 => ?_) (fun c85 => ?_)
          · refine zW_iconst (pc' := 100) dX12_stages_3.1.2.1.2 rfl ?_
            refine zW_istore_n (ls' := [_, _, _]) (pc' := 101) dX12_stages_3.1.2.2.1 (by decide) rfl rfl rfl ?_
            refine zV_goto 64 dX12_stages_3.1.2.2.2 rfl ?_
            exact k64 _ _ hF (by omega) (by omega) (by omega) (by omega) (by first | exact (fun q => absurd q (by decide)) | exact (fun _ => hNP) | exact (fun _ => np1 (by omega)) | exact (fun _ => np2 (by omega))) (by first | exact (fun z => absurd z (by decide)) | exact fun _ => rf1 (by omega) | exact fun _ => rf2 (by omega) | (intro z; refine ⟨0, by omega, fun j hj => by omega, ?_⟩; rw [show h 0 26 = 0 by omega, show h 0 30 = 0 by omega, show x1 = 0 by omega]; exact StI.nil)) (by first | exact (fun z => absurd z (by decide)) | exact fun _ => bd1 (by omega) | exact fun _ => bd2 (by omega) | (intro z; have s0 := st.2.1 (by omega) (by omega); omega)) (by omega) (fun j => by have q0 := gc6 j; have q1 := f82_3 j; omega) (by first | exact (fun z => absurd z (by decide)) | exact fun _ => ar2 (by omega) | exact fun _ => ar7 (by omega) | exact fun _ => ⟨ar0, fun z => by omega⟩) (by omega) (fun j => by have q0 := gc9 j; have q1 := f82_4 j; omega) (fun j => by have q0 := gc10 j; have q1 := f82_5 j; omega) (by omega)
          · have hN2 : NP h := hNl.mv hF1 (by omega) (by omega)
            have c13 := hF1.cell 13 rfl (fun _ => rfl)
            have m31 : h 0 30 = m := by have := hF1.1 0 30 rfl rfl; omega
            have al1 := st.2.2 (by omega) (by omega)
            have t26 : h 0 26 = q + 1 := by omega
            clear p82
            have ar5 : AR0 g h := arx.mv hF1
            obtain ⟨h0, e0⟩ : ∃ z : Hp, z = h := ⟨_, rfl⟩
            have ar6 : AR0 g h0 := by rw [e0]; exact ar5
            have b30 : h0 0 30 = m := by rw [e0]; exact m31
            refine zW_aload_n (pc' := 89) dX12_stages_3.1.1.1.1 rfl rfl ?_
            refine cvI0 (pc' := 92) kX12_readsStage vX12_readsStage lk_X12_182 ⟨Nat.le_of_ble_eq_true rfl, Nat.le_of_ble_eq_true rfl⟩ tb0 vq12 rfl rfl (s_X12_readsStageQ hF.2.1 hF.2.2.1 hF.2.2.2 g (q + 1) f hN2.1 hN2.2.1 hN2.2.2.1 hN2.2.2.2.1 hN2.2.2.2.2 (by rw [hF.cell 12 rfl (fun _ => rfl), show h 0 27 = x1 by omega]; exact hg (by omega)) (by omega) (by omega) (fun j hj => by rw [c13]; exact hfl j (by omega))) dX12_stages_3.1.1.1.2 (Nat.le_of_ble_eq_true rfl) rfl ?_
            rintro r89 h ⟨hF1, p89⟩; replace hF := hF.tr hF1 rfl
            have f89_3 := fun j : Nat => hF1.1 3 j rfl rfl
            have f89_4 := fun j : Nat => hF1.1 4 j rfl rfl
            have f89_5 := fun j : Nat => hF1.1 5 j rfl rfl
            have t89_0_25 := hF1.1 0 25 rfl rfl
            have t89_0_27 := hF1.1 0 27 rfl rfl
            have t89_0_14 := hF1.1 0 14 rfl rfl
            have qq := p89.2.2.2.2.2.2.2
            rw [← e0] at qq
            rw [m31] at p89
            have d89 := p89.2.2.2.2.2.1
            have np2 := p89.2.2.2.2.1
            have fl2 := p89.2.2.2.2.2.2.1
            have b89 := And.intro p89.1 (And.intro p89.2.1 (And.intro p89.2.2.1 p89.2.2.2.1))
            clear p89
            have rf2 : r89 = 1 → RfI g x1 h := fun z => by have d := d89.resolve_right (fun y => by omega); exact ⟨nxf g (q + 1) m f, by have := nxfc g (q + 1) m f; omega, fl2 z, by rw [d.2.2.1, d.2.2.2.1]; exact al1.st (by omega) d.2.1 (by omega)⟩
            have bd2 : r89 = 0 → h 0 28 = rdF g x1 ∧ h 0 28 < 0 := fun z => by have d := d89.resolve_left (fun y => by omega); have e := (al1.go (by omega)).1 d.2.1; exact ⟨d.2.2.1.trans e.symm, d.2.2.2⟩
            have rb2 : r89 = 1 → h 0 30 = m + 1 ∧ (q + 1) + 2 ≤ h 0 26 := fun z => by have d := d89.resolve_right (fun y => by omega); exact ⟨d.2.2.2.1, d.2.2.2.2⟩
            have rc2 : r89 = 1 → h 0 26 = sgE g (q + 1) := fun z => (d89.resolve_right (fun y => by omega)).2.2.1
            clear d89 fl2
            have ar7 : ARI r89 g h := fun z => AR0.push (p := q + 1) (by omega) ar6 (by rw [b30]; exact qp) (by have := rb2 z; omega) (rc2 z) (qq z)
            refine zV_if_eq (tgt := 99) (pc' := 95) dX12_stages_3.1.1.2.1 rfl rfl ⟨by omega, by omega⟩ (fun c92 => ?_) (fun c92 => ?_)
            · refine zW_iconst (pc' := 100) dX12_stages_3.1.2.1.2 rfl ?_
              refine zW_istore_n (ls' := [_, _, _]) (pc' := 101) dX12_stages_3.1.2.2.1 (by decide) rfl rfl rfl ?_
              refine zV_goto 64 dX12_stages_3.1.2.2.2 rfl ?_
              exact k64 _ _ hF (by omega) (by omega) (by omega) (by omega) (by first | exact (fun q => absurd q (by decide)) | exact (fun _ => hNP) | exact (fun _ => np1 (by omega)) | exact (fun _ => np2 (by omega))) (by first | exact (fun z => absurd z (by decide)) | exact fun _ => rf1 (by omega) | exact fun _ => rf2 (by omega) | (intro z; refine ⟨0, by omega, fun j hj => by omega, ?_⟩; rw [show h 0 26 = 0 by omega, show h 0 30 = 0 by omega, show x1 = 0 by omega]; exact StI.nil)) (by first | exact (fun z => absurd z (by decide)) | exact fun _ => bd1 (by omega) | exact fun _ => bd2 (by omega) | (intro z; have s0 := st.2.1 (by omega) (by omega); omega)) (by omega) (fun j => by have q0 := gc6 j; have q1 := f82_3 j; have q2 := f89_3 j; omega) (by first | exact (fun z => absurd z (by decide)) | exact fun _ => ar2 (by omega) | exact fun _ => ar7 (by omega) | exact fun _ => ⟨ar0, fun z => by omega⟩) (by omega) (fun j => by have q0 := gc9 j; have q1 := f82_4 j; have q2 := f89_4 j; omega) (fun j => by have q0 := gc10 j; have q1 := f82_5 j; have q2 := f89_5 j; omega) (by omega)
            · refine zW_iconst (pc' := 96) dX12_stages_3.1.1.2.2 rfl ?_
              refine zV_goto 100 dX12_stages_3.1.2.1.1 rfl ?_
              refine zW_istore_n (ls' := [_, _, _]) (pc' := 101) dX12_stages_3.1.2.2.1 (by decide) rfl rfl rfl ?_
              refine zV_goto 64 dX12_stages_3.1.2.2.2 rfl ?_
              exact k64 _ _ hF (by omega) (by omega) (by omega) (by omega) (by first | exact (fun q => absurd q (by decide)) | exact (fun _ => hNP) | exact (fun _ => np1 (by omega)) | exact (fun _ => np2 (by omega))) (by first | exact (fun z => absurd z (by decide)) | exact fun _ => rf1 (by omega) | exact fun _ => rf2 (by omega) | (intro z; refine ⟨0, by omega, fun j hj => by omega, ?_⟩; rw [show h 0 26 = 0 by omega, show h 0 30 = 0 by omega, show x1 = 0 by omega]; exact StI.nil)) (by first | exact (fun z => absurd z (by decide)) | exact fun _ => bd1 (by omega) | exact fun _ => bd2 (by omega) | (intro z; have s0 := st.2.1 (by omega) (by omega); omega)) (by omega) (fun j => by have q0 := gc6 j; have q1 := f82_3 j; have q2 := f89_3 j; omega) (by first | exact (fun z => absurd z (by decide)) | exact fun _ => ar2 (by omega) | exact fun _ => ar7 (by omega) | exact fun _ => ⟨ar0, fun z => by omega⟩) (by omega) (fun j => by have q0 := gc9 j; have q1 := f82_4 j; have q2 := f89_4 j; omega) (fun j => by have q0 := gc10 j; have q1 := f82_5 j; have q2 := f89_5 j; omega) (by omega)
  refine zM_of [some (.inr (.inr 0)), some (.inl x1), none] 1 rfl rfl (Nat.le_of_ble_eq_true rfl) rfl ?_
  refine (show ∀ h : Hp, Fm [(0, 26), (0, 28), (0, 29), (0, 31), (15, 999), (0, 30), (13, 999), (14, 999), (0, 27), (0, 25), (0, 14), (3, 999), (4, 999), (5, 999)] κ h → h = κ → zV G mX12_stages (q_X12_stagesQ κ x1 g) 0 [some (.inr (.inr 0)), some (.inl x1), none] [] h from fun h hF hk0 => ?_) κ (Fm.rf hS hR hC) rfl
  have y0_0_25 : h 0 25 = κ 0 25 := by rw [hk0]
  have y0_0_14 : h 0 14 = κ 0 14 := by rw [hk0]
  have a0_3 := fun j : Nat => congrFun (congrFun hk0 3) j
  have a0_4 := fun j : Nat => congrFun (congrFun hk0 4) j
  have a0_5 := fun j : Nat => congrFun (congrFun hk0 5) j
  refine zW_iload_n (pc' := 1) dX12_stages_0.1.1.1.1 rfl rfl ?_
  refine zW_iconst (pc' := 2) dX12_stages_0.1.1.1.2 rfl ?_
  refine zW_bipush (pc' := 4) dX12_stages_0.1.1.2.1 rfl rfl ?_
  refine csI3 (pc' := 7) kX12_in vX12_in lk_X12_140 ⟨Nat.le_of_ble_eq_true rfl, Nat.le_of_ble_eq_true rfl⟩ rfl (s_X12_inR (b := true) (κ := h) (Fr.rf hF.2.1) _ ⟨by omega, by omega⟩ _ ⟨by omega, by omega⟩ _ ⟨by omega, by omega⟩) dX12_stages_0.1.1.2.2 (Nat.le_of_ble_eq_true rfl) rfl ?_
  rintro r4 z4 ⟨hz4, p4⟩; subst z4
  refine zV_if_eq (tgt := 18) (pc' := 10) dX12_stages_0.1.2.1.1 rfl rfl ⟨by omega, by omega⟩ (fun c7 => ?_) (fun c7 => ?_)
  · refine zW_iconst (pc' := 19) dX12_stages_0.2.1.1.2 rfl ?_
    exact zV_iret rfl dX12_stages_0.2.1.2.1 ⟨hF, by exact ⟨by omega, fun j => ⟨fun z => absurd z (by omega), fun _ => by rw [hk0]⟩, fun z => absurd z (by omega), fun z => absurd z (by decide), fun _ j => ⟨by rw [hk0], by rw [hk0], by rw [hk0]⟩⟩⟩
  · refine zW_iload_n (pc' := 11) dX12_stages_0.1.2.1.2 rfl rfl ?_
    refine zW_aload_n (pc' := 12) dX12_stages_0.1.2.2.1 rfl rfl ?_
    refine zG_int (pc' := 15) fg_X12_116 tb0 rfl dX12_stages_0.1.2.2.2 rfl ?_
    have e12 := KRt hF.2.2.1
    refine zV_cm_le (tgt := 20) (pc' := 18) dX12_stages_0.2.1.1.1 rfl rfl ⟨by omega, by omega⟩ ⟨by omega, by omega⟩ (fun c15 => ?_) (fun c15 => ?_)
    · refine zW_aload_n (pc' := 21) dX12_stages_0.2.1.2.2 rfl rfl ?_
      refine zW_iconst (pc' := 22) dX12_stages_0.2.2.1.1 rfl ?_
      refine zPm (pc' := 25) hF (Or.inl rfl) (SI_irr hF.2.1 (Or.inl rfl) (fun _ _ => ⟨by omega, by omega⟩)) (KR_irr hF.2.2.1 rfl) (KC_irr hF.2.2.2 rfl) fp_X12_123 tb0 rfl dX12_stages_0.2.2.1.2 rfl (fun h hF w22 => ?_)
      have a22_3 := fun j : Nat => (congrFun (congrFun w22 3) j).trans (zwr_ne (Or.inl (by decide)))
      have a22_4 := fun j : Nat => (congrFun (congrFun w22 4) j).trans (zwr_ne (Or.inl (by decide)))
      have a22_5 := fun j : Nat => (congrFun (congrFun w22 5) j).trans (zwr_ne (Or.inl (by decide)))
      have t22_0_25 := congrFun (congrFun w22 0) 25
      rw [zwr_ne (Or.inr (by decide))] at t22_0_25
      have t22_0_26 := congrFun (congrFun w22 0) 26
      rw [zwr_eq] at t22_0_26
      have t22_0_27 := congrFun (congrFun w22 0) 27
      rw [zwr_ne (Or.inr (by decide))] at t22_0_27
      have t22_0_30 := congrFun (congrFun w22 0) 30
      rw [zwr_ne (Or.inr (by decide))] at t22_0_30
      have t22_0_31 := congrFun (congrFun w22 0) 31
      rw [zwr_ne (Or.inr (by decide))] at t22_0_31
      have t22_0_28 := congrFun (congrFun w22 0) 28
      rw [zwr_ne (Or.inr (by decide))] at t22_0_28
      have t22_0_14 := congrFun (congrFun w22 0) 14
      rw [zwr_ne (Or.inr (by decide))] at t22_0_14
      refine zW_aload_n (pc' := 26) dX12_stages_0.2.2.2.1 rfl rfl ?_
      refine zW_iload_n (pc' := 27) dX12_stages_0.2.2.2.2 rfl rfl ?_
      refine zPm (pc' := 30) hF (Or.inl rfl) (SI_irr hF.2.1 (Or.inl rfl) (fun _ _ => ⟨by omega, by omega⟩)) (KR_irr hF.2.2.1 rfl) (KC_irr hF.2.2.2 rfl) fp_X12_126 tb0 rfl dX12_stages_1.1.1.1.1 rfl (fun h hF w27 => ?_)
      have a27_3 := fun j : Nat => (congrFun (congrFun w27 3) j).trans (zwr_ne (Or.inl (by decide)))
      have a27_4 := fun j : Nat => (congrFun (congrFun w27 4) j).trans (zwr_ne (Or.inl (by decide)))
      have a27_5 := fun j : Nat => (congrFun (congrFun w27 5) j).trans (zwr_ne (Or.inl (by decide)))
      have t27_0_25 := congrFun (congrFun w27 0) 25
      rw [zwr_ne (Or.inr (by decide))] at t27_0_25
      have t27_0_26 := congrFun (congrFun w27 0) 26
      rw [zwr_ne (Or.inr (by decide))] at t27_0_26
      have t27_0_27 := congrFun (congrFun w27 0) 27
      rw [zwr_eq] at t27_0_27
      have t27_0_30 := congrFun (congrFun w27 0) 30
      rw [zwr_ne (Or.inr (by decide))] at t27_0_30
      have t27_0_31 := congrFun (congrFun w27 0) 31
      rw [zwr_ne (Or.inr (by decide))] at t27_0_31
      have t27_0_28 := congrFun (congrFun w27 0) 28
      rw [zwr_ne (Or.inr (by decide))] at t27_0_28
      have t27_0_14 := congrFun (congrFun w27 0) 14
      rw [zwr_ne (Or.inr (by decide))] at t27_0_14
      refine zW_aload_n (pc' := 31) dX12_stages_1.1.1.1.2 rfl rfl ?_
      refine zW_iconst (pc' := 32) dX12_stages_1.1.1.2.1 rfl ?_
      refine zPm (pc' := 35) hF (Or.inl rfl) (SI_irr hF.2.1 (Or.inl rfl) (fun _ _ => ⟨by omega, by omega⟩)) (KR_irr hF.2.2.1 rfl) (KC_irr hF.2.2.2 rfl) fp_X12_167 tb0 rfl dX12_stages_1.1.1.2.2 rfl (fun h hF w32 => ?_)
      have a32_3 := fun j : Nat => (congrFun (congrFun w32 3) j).trans (zwr_ne (Or.inl (by decide)))
      have a32_4 := fun j : Nat => (congrFun (congrFun w32 4) j).trans (zwr_ne (Or.inl (by decide)))
      have a32_5 := fun j : Nat => (congrFun (congrFun w32 5) j).trans (zwr_ne (Or.inl (by decide)))
      have t32_0_25 := congrFun (congrFun w32 0) 25
      rw [zwr_ne (Or.inr (by decide))] at t32_0_25
      have t32_0_26 := congrFun (congrFun w32 0) 26
      rw [zwr_ne (Or.inr (by decide))] at t32_0_26
      have t32_0_27 := congrFun (congrFun w32 0) 27
      rw [zwr_ne (Or.inr (by decide))] at t32_0_27
      have t32_0_30 := congrFun (congrFun w32 0) 30
      rw [zwr_eq] at t32_0_30
      have t32_0_31 := congrFun (congrFun w32 0) 31
      rw [zwr_ne (Or.inr (by decide))] at t32_0_31
      have t32_0_28 := congrFun (congrFun w32 0) 28
      rw [zwr_ne (Or.inr (by decide))] at t32_0_28
      have t32_0_14 := congrFun (congrFun w32 0) 14
      rw [zwr_ne (Or.inr (by decide))] at t32_0_14
      refine zW_aload_n (pc' := 36) dX12_stages_1.1.2.1.1 rfl rfl ?_
      refine zW_iconst (pc' := 37) dX12_stages_1.1.2.1.2 rfl ?_
      refine zPm (pc' := 40) hF (Or.inl rfl) (SI_irr hF.2.1 (Or.inl rfl) (fun _ _ => ⟨by omega, by omega⟩)) (KR_irr hF.2.2.1 rfl) (KC_irr hF.2.2.2 rfl) fp_X12_151 tb0 rfl dX12_stages_1.1.2.2.1 rfl (fun h hF w37 => ?_)
      have a37_3 := fun j : Nat => (congrFun (congrFun w37 3) j).trans (zwr_ne (Or.inl (by decide)))
      have a37_4 := fun j : Nat => (congrFun (congrFun w37 4) j).trans (zwr_ne (Or.inl (by decide)))
      have a37_5 := fun j : Nat => (congrFun (congrFun w37 5) j).trans (zwr_ne (Or.inl (by decide)))
      have t37_0_25 := congrFun (congrFun w37 0) 25
      rw [zwr_ne (Or.inr (by decide))] at t37_0_25
      have t37_0_26 := congrFun (congrFun w37 0) 26
      rw [zwr_ne (Or.inr (by decide))] at t37_0_26
      have t37_0_27 := congrFun (congrFun w37 0) 27
      rw [zwr_ne (Or.inr (by decide))] at t37_0_27
      have t37_0_30 := congrFun (congrFun w37 0) 30
      rw [zwr_ne (Or.inr (by decide))] at t37_0_30
      have t37_0_31 := congrFun (congrFun w37 0) 31
      rw [zwr_eq] at t37_0_31
      have t37_0_28 := congrFun (congrFun w37 0) 28
      rw [zwr_ne (Or.inr (by decide))] at t37_0_28
      have t37_0_14 := congrFun (congrFun w37 0) 14
      rw [zwr_ne (Or.inr (by decide))] at t37_0_14
      refine zW_aload_n (pc' := 41) dX12_stages_1.1.2.2.2 rfl rfl ?_
      refine zG_ref (pc' := 44) 14 fg_X12_51 tb0 rfl dX12_stages_1.2.1.1.1 rfl ?_
      refine zW_iconst (pc' := 45) dX12_stages_1.2.1.1.2 rfl ?_
      refine zW_iconst (pc' := 46) dX12_stages_1.2.1.2.1 rfl ?_
      refine zSm (pc' := 47) hF rfl (fun v' hv he => ⟨(SI_irr hF.2.1 (Or.inl (key_of rfl _)) (fun _ _ => hv)), (KR_c14 hF.2.2.1 (by have := he ⟨by omega, by omega⟩; omega)), (KC_irr hF.2.2.2 rfl)⟩) tb14 (by omega) dX12_stages_1.2.1.2.2 (by decide) rfl (fun h i46 hF a46 b46 w46 => ?_)
      have a46_3 := fun j : Nat => (congrFun (congrFun w46 3) j).trans (zwr_ne (Or.inl (by decide)))
      have a46_4 := fun j : Nat => (congrFun (congrFun w46 4) j).trans (zwr_ne (Or.inl (by decide)))
      have a46_5 := fun j : Nat => (congrFun (congrFun w46 5) j).trans (zwr_ne (Or.inl (by decide)))
      have t46_0_25 := congrFun (congrFun w46 0) 25
      rw [zwr_ne (Or.inl (by decide))] at t46_0_25
      have t46_0_26 := congrFun (congrFun w46 0) 26
      rw [zwr_ne (Or.inl (by decide))] at t46_0_26
      have t46_0_27 := congrFun (congrFun w46 0) 27
      rw [zwr_ne (Or.inl (by decide))] at t46_0_27
      have t46_0_30 := congrFun (congrFun w46 0) 30
      rw [zwr_ne (Or.inl (by decide))] at t46_0_30
      have t46_0_31 := congrFun (congrFun w46 0) 31
      rw [zwr_ne (Or.inl (by decide))] at t46_0_31
      have t46_0_28 := congrFun (congrFun w46 0) 28
      rw [zwr_ne (Or.inl (by decide))] at t46_0_28
      have t46_0_14 := congrFun (congrFun w46 0) 14
      rw [zwr_ne (Or.inl (by decide))] at t46_0_14
      have q46 : h 14 (0 : Int).toNat = i46 := (congrFun (congrFun w46 14) _).trans zwr_eq
      have hNP : NP h := ⟨⟨by omega, by omega, by omega⟩, ⟨by omega, by omega⟩, ⟨by omega, by omega⟩, by have q := b46 ⟨by omega, by omega⟩; rw [show h 0 30 = 0 by omega, q46]; omega, fun k k1 k2 => by omega⟩
      have ar0 : AR0 g h := by have z30 : h 0 30 = 0 := (by omega); have z31 : h 0 31 = 0 := (by omega); have z := hNP.2.2.2.1; rw [z30, z31] at z; refine ⟨fun k hk => by omega, fun k hk => ?_, by rw [z30, z31]; exact Ls.nil⟩; have e : k = 0 := (by omega); subst e; exact z
      refine zW_iload_n (pc' := 48) dX12_stages_1.2.2.1.1 rfl rfl ?_
      refine zV_if_eq (tgt := 58) (pc' := 51) dX12_stages_1.2.2.1.2 rfl rfl ⟨by omega, by omega⟩ (fun c48 => ?_) (fun c48 => ?_)
      · refine zW_iconst (pc' := 59) dX12_stages_2.1.1.1.2 rfl ?_
        refine zV_goto 63 dX12_stages_2.1.1.2.1 rfl ?_
        refine zW_istore_n (ls' := [_, _, _]) (pc' := 64) dX12_stages_2.1.2.1.1 (by decide) rfl rfl rfl ?_
        exact (main 10000000000000000000000000000000000000000) _ _ hF (by omega) (by omega) (by omega) (by omega) (by first | exact (fun q => absurd q (by decide)) | exact (fun _ => hNP) | exact (fun _ => np1 (by omega)) | exact (fun _ => np2 (by omega))) (by first | exact (fun z => absurd z (by decide)) | exact fun _ => rf1 (by omega) | exact fun _ => rf2 (by omega) | (intro z; refine ⟨0, by omega, fun j hj => by omega, ?_⟩; rw [show h 0 26 = 0 by omega, show h 0 30 = 0 by omega, show x1 = 0 by omega]; exact StI.nil)) (by first | exact (fun z => absurd z (by decide)) | exact fun _ => bd1 (by omega) | exact fun _ => bd2 (by omega) | (intro z; have s0 := st.2.1 (by omega) (by omega); omega)) (by omega) (fun j => by have q0 := a0_3 j; have q1 := a22_3 j; have q2 := a27_3 j; have q3 := a32_3 j; have q4 := a37_3 j; have q5 := a46_3 j; omega) (by first | exact (fun z => absurd z (by decide)) | exact fun _ => ar2 (by omega) | exact fun _ => ar7 (by omega) | exact fun _ => ⟨ar0, fun z => by omega⟩) (by omega) (fun j => by have q0 := a0_4 j; have q1 := a22_4 j; have q2 := a27_4 j; have q3 := a32_4 j; have q4 := a37_4 j; have q5 := a46_4 j; omega) (fun j => by have q0 := a0_5 j; have q1 := a22_5 j; have q2 := a27_5 j; have q3 := a32_5 j; have q4 := a37_5 j; have q5 := a46_5 j; omega) (by omega)
      · have m30 : h 0 30 = 0 := by omega
        obtain ⟨h0, e0⟩ : ∃ z : Hp, z = h := ⟨_, rfl⟩
        have ar1 : AR0 g h0 := by rw [e0]; exact ar0
        have b030 : h0 0 30 = 0 := by rw [e0]; omega
        refine zW_aload_n (pc' := 52) dX12_stages_1.2.2.2.1 rfl rfl ?_
        refine cvI0 (pc' := 55) kX12_readsStage vX12_readsStage lk_X12_182 ⟨Nat.le_of_ble_eq_true rfl, Nat.le_of_ble_eq_true rfl⟩ tb0 vq12 rfl rfl (s_X12_readsStageQ hF.2.1 hF.2.2.1 hF.2.2.2 g 0 0 hNP.1 hNP.2.1 hNP.2.2.1 hNP.2.2.2.1 hNP.2.2.2.2 (by rw [hF.cell 12 rfl (fun _ => rfl), show h 0 27 = x1 by omega]; exact hg (by omega)) (by omega) (by omega) (fun j hj => by omega)) dX12_stages_1.2.2.2.2 (Nat.le_of_ble_eq_true rfl) rfl ?_
        rintro r52 h ⟨hF1, p52⟩; replace hF := hF.tr hF1 rfl
        have f52_3 := fun j : Nat => hF1.1 3 j rfl rfl
        have f52_4 := fun j : Nat => hF1.1 4 j rfl rfl
        have f52_5 := fun j : Nat => hF1.1 5 j rfl rfl
        have t52_0_25 := hF1.1 0 25 rfl rfl
        have t52_0_27 := hF1.1 0 27 rfl rfl
        have t52_0_14 := hF1.1 0 14 rfl rfl
        have qq := p52.2.2.2.2.2.2.2
        rw [← e0] at qq
        rw [m30] at p52
        have al0 : AlI g x1 0 0 0 := AlI.rf (by omega)
        have d52 := p52.2.2.2.2.2.1
        have np1 := p52.2.2.2.2.1
        have fl1 := p52.2.2.2.2.2.2.1
        have b52 := And.intro p52.1 (And.intro p52.2.1 (And.intro p52.2.2.1 p52.2.2.2.1))
        clear p52
        have rf1 : r52 = 1 → RfI g x1 h := fun z => by have d := d52.resolve_right (fun y => by omega); exact ⟨nxf g 0 0 0, by have := nxfc g 0 0 0; omega, fl1 z, by rw [d.2.2.1, d.2.2.2.1]; exact al0.st (by omega) d.2.1 (by omega)⟩
        have bd1 : r52 = 0 → h 0 28 = rdF g x1 ∧ h 0 28 < 0 := fun z => by have d := d52.resolve_left (fun y => by omega); have e := (al0.go (by omega)).1 d.2.1; exact ⟨d.2.2.1.trans e.symm, d.2.2.2⟩
        have rb1 : r52 = 1 → h 0 30 = 0 + 1 ∧ 0 + 2 ≤ h 0 26 := fun z => by have d := d52.resolve_right (fun y => by omega); exact ⟨d.2.2.2.1, d.2.2.2.2⟩
        have rc1 : r52 = 1 → h 0 26 = sgE g 0 := fun z => (d52.resolve_right (fun y => by omega)).2.2.1
        clear d52 fl1
        have ar2 : ARI r52 g h := fun z => AR0.push (by omega) ar1 (by rw [b030]; rfl) (by have := rb1 z; omega) (rc1 z) (qq z)
        refine zV_if_eq (tgt := 62) (pc' := 58) dX12_stages_2.1.1.1.1 rfl rfl ⟨by omega, by omega⟩ (fun c55 => ?_) (fun c55 => ?_)
        · refine zW_iconst (pc' := 63) dX12_stages_2.1.1.2.2 rfl ?_
          refine zW_istore_n (ls' := [_, _, _]) (pc' := 64) dX12_stages_2.1.2.1.1 (by decide) rfl rfl rfl ?_
          exact (main 10000000000000000000000000000000000000000) _ _ hF (by omega) (by omega) (by omega) (by omega) (by first | exact (fun q => absurd q (by decide)) | exact (fun _ => hNP) | exact (fun _ => np1 (by omega)) | exact (fun _ => np2 (by omega))) (by first | exact (fun z => absurd z (by decide)) | exact fun _ => rf1 (by omega) | exact fun _ => rf2 (by omega) | (intro z; refine ⟨0, by omega, fun j hj => by omega, ?_⟩; rw [show h 0 26 = 0 by omega, show h 0 30 = 0 by omega, show x1 = 0 by omega]; exact StI.nil)) (by first | exact (fun z => absurd z (by decide)) | exact fun _ => bd1 (by omega) | exact fun _ => bd2 (by omega) | (intro z; have s0 := st.2.1 (by omega) (by omega); omega)) (by omega) (fun j => by have q0 := a0_3 j; have q1 := a22_3 j; have q2 := a27_3 j; have q3 := a32_3 j; have q4 := a37_3 j; have q5 := a46_3 j; have q6 := f52_3 j; omega) (by first | exact (fun z => absurd z (by decide)) | exact fun _ => ar2 (by omega) | exact fun _ => ar7 (by omega) | exact fun _ => ⟨ar0, fun z => by omega⟩) (by omega) (fun j => by have q0 := a0_4 j; have q1 := a22_4 j; have q2 := a27_4 j; have q3 := a32_4 j; have q4 := a37_4 j; have q5 := a46_4 j; have q6 := f52_4 j; omega) (fun j => by have q0 := a0_5 j; have q1 := a22_5 j; have q2 := a27_5 j; have q3 := a32_5 j; have q4 := a37_5 j; have q5 := a46_5 j; have q6 := f52_5 j; omega) (by omega)
        · refine zW_iconst (pc' := 59) dX12_stages_2.1.1.1.2 rfl ?_
          refine zV_goto 63 dX12_stages_2.1.1.2.1 rfl ?_
          refine zW_istore_n (ls' := [_, _, _]) (pc' := 64) dX12_stages_2.1.2.1.1 (by decide) rfl rfl rfl ?_
          exact (main 10000000000000000000000000000000000000000) _ _ hF (by omega) (by omega) (by omega) (by omega) (by first | exact (fun q => absurd q (by decide)) | exact (fun _ => hNP) | exact (fun _ => np1 (by omega)) | exact (fun _ => np2 (by omega))) (by first | exact (fun z => absurd z (by decide)) | exact fun _ => rf1 (by omega) | exact fun _ => rf2 (by omega) | (intro z; refine ⟨0, by omega, fun j hj => by omega, ?_⟩; rw [show h 0 26 = 0 by omega, show h 0 30 = 0 by omega, show x1 = 0 by omega]; exact StI.nil)) (by first | exact (fun z => absurd z (by decide)) | exact fun _ => bd1 (by omega) | exact fun _ => bd2 (by omega) | (intro z; have s0 := st.2.1 (by omega) (by omega); omega)) (by omega) (fun j => by have q0 := a0_3 j; have q1 := a22_3 j; have q2 := a27_3 j; have q3 := a32_3 j; have q4 := a37_3 j; have q5 := a46_3 j; have q6 := f52_3 j; omega) (by first | exact (fun z => absurd z (by decide)) | exact fun _ => ar2 (by omega) | exact fun _ => ar7 (by omega) | exact fun _ => ⟨ar0, fun z => by omega⟩) (by omega) (fun j => by have q0 := a0_4 j; have q1 := a22_4 j; have q2 := a27_4 j; have q3 := a32_4 j; have q4 := a37_4 j; have q5 := a46_4 j; have q6 := f52_4 j; omega) (fun j => by have q0 := a0_5 j; have q1 := a22_5 j; have q2 := a27_5 j; have q3 := a32_5 j; have q4 := a37_5 j; have q5 := a46_5 j; have q6 := f52_5 j; omega) (by omega)
    · refine zW_iconst (pc' := 19) dX12_stages_0.2.1.1.2 rfl ?_
      exact zV_iret rfl dX12_stages_0.2.1.2.1 ⟨hF, by exact ⟨by omega, fun j => ⟨fun z => absurd z (by omega), fun _ => by rw [hk0]⟩, fun z => absurd z (by omega), fun z => absurd z (by decide), fun _ j => ⟨by rw [hk0], by rw [hk0], by rw [hk0]⟩⟩⟩

abbrev q_X11_keepQ (κ : Hp)  : Int → Hp → Prop := fun r h' => Fm [(36, 0), (36, 1), (36, 2), (37, 999), (38, 999), (45, 0), (45, 1), (46, 999), (47, 999), (48, 999), (30, 10), (30, 11)] κ h' ∧ ((r = κ 41 0 ∧ h' 30 11 = 1 ∧ h' 36 0 = κ 33 0 ∧ h' 36 1 = κ 33 1 ∧ h' 36 2 = κ 33 2 ∧ h' 30 10 = κ 30 12 ∧ h' 45 0 = κ 41 0 ∧ h' 45 1 = κ 41 1) ∧ (∀ j : Nat, j < 14 → h' 46 j = κ 42 j ∧ h' 47 j = κ 43 j) ∧ (∀ j : Nat, j < 64 → h' 48 j = κ 44 j))
set_option maxHeartbeats 4000000 in
set_option maxRecDepth 20000 in
theorem s_X11_keepQ {G : Ga} {κ : Hp} (hS : SI κ) (hR : KR κ) (hC : KC κ)  : zM G mX11_keep yX11_keep [.inr (.inr 30)] κ (q_X11_keepQ κ) := by
  have f_30_12 := KCc hC
  have f_33_0 := KCw hC
  have f_33_1 := KCh hC
  have f_33_2 := KCp hC
  have f_41_0 := KCm hC
  have f_41_1 := KCf hC
  have f_45_0 := KCr0 hC
  have f_49_0 := KCd0 hC
  refine zM_of [some (.inr (.inr 30))] 0 rfl rfl (Nat.le_of_ble_eq_true rfl) rfl ?_
  refine (show ∀ h : Hp, Fm [(36, 0), (36, 1), (36, 2), (37, 999), (38, 999), (45, 0), (45, 1), (46, 999), (47, 999), (48, 999), (30, 10), (30, 11)] κ h → h = κ → zV G mX11_keep (q_X11_keepQ κ) 0 [some (.inr (.inr 30))] [] h from fun h hF hk0 => ?_) κ (Fm.rf hS hR hC) rfl
  have y0_41_0 : h 41 0 = κ 41 0 := by rw [hk0]
  have y0_41_1 : h 41 1 = κ 41 1 := by rw [hk0]
  have a0_42 := fun j : Nat => congrFun (congrFun hk0 42) j
  have a0_43 := fun j : Nat => congrFun (congrFun hk0 43) j
  have a0_44 := fun j : Nat => congrFun (congrFun hk0 44) j
  have a0_46 := fun j : Nat => congrFun (congrFun hk0 46) j
  have a0_47 := fun j : Nat => congrFun (congrFun hk0 47) j
  have a0_48 := fun j : Nat => congrFun (congrFun hk0 48) j
  refine zW_aload_n (pc' := 1) dX11_keep_0.1.1.1.1 rfl rfl ?_
  refine zG_ref (pc' := 4) 36 fg_X11_71 tb30 rfl dX11_keep_0.1.1.1.2 rfl ?_
  refine zW_aload_n (pc' := 5) dX11_keep_0.1.1.2.1 rfl rfl ?_
  refine zG_ref (pc' := 8) 33 fg_X11_19 tb30 rfl dX11_keep_0.1.1.2.2 rfl ?_
  have y8_33_0 := hF.1 33 0 rfl rfl
  have y8_33_1 := hF.1 33 1 rfl rfl
  have y8_33_2 := hF.1 33 2 rfl rfl
  refine cvV1 (pc' := 11) kX5_copyFrom vX5_copyFrom lk_X11_396 ⟨Nat.le_of_ble_eq_true rfl, Nat.le_of_ble_eq_true rfl⟩ tb36 vq5 rfl rfl (s_X5_copyFromV36_33E hF.2.1 hF.2.2.1 hF.2.2.2) dX11_keep_0.1.2.1.1 (Nat.le_of_ble_eq_true rfl) rfl ?_
  rintro r8 h ⟨hF1, p8⟩; replace hF := hF.tr hF1 rfl
  obtain ⟨p8_0, a8_0⟩ := p8
  have f8_42 := fun j : Nat => hF1.1 42 j rfl rfl
  have f8_43 := fun j : Nat => hF1.1 43 j rfl rfl
  have f8_44 := fun j : Nat => hF1.1 44 j rfl rfl
  have f8_46 := fun j : Nat => hF1.1 46 j rfl rfl
  have f8_47 := fun j : Nat => hF1.1 47 j rfl rfl
  have f8_48 := fun j : Nat => hF1.1 48 j rfl rfl
  have t8_30_10 := hF1.1 30 10 rfl rfl
  have t8_30_11 := hF1.1 30 11 rfl rfl
  have t8_45_0 := hF1.1 45 0 rfl rfl
  have t8_41_0 := hF1.1 41 0 rfl rfl
  have t8_45_1 := hF1.1 45 1 rfl rfl
  have t8_41_1 := hF1.1 41 1 rfl rfl
  refine zW_aload_n (pc' := 12) dX11_keep_0.1.2.1.2 rfl rfl ?_
  refine zG_ref (pc' := 15) 45 fg_X11_74 tb30 rfl dX11_keep_0.1.2.2.1 rfl ?_
  refine zW_aload_n (pc' := 16) dX11_keep_0.1.2.2.2 rfl rfl ?_
  refine zG_ref (pc' := 19) 41 fg_X11_33 tb30 rfl dX11_keep_0.2.1.1.1 rfl ?_
  have y19_41_0 := hF.1 41 0 rfl rfl
  have y19_41_1 := hF.1 41 1 rfl rfl
  refine cvV1 (pc' := 22) kX7_copyFrom vX7_copyFrom lk_X11_105 ⟨Nat.le_of_ble_eq_true rfl, Nat.le_of_ble_eq_true rfl⟩ tb45 vq7 rfl rfl (s_X7_copyFromV45_41Q hF.2.1 hF.2.2.1 hF.2.2.2) dX11_keep_0.2.1.1.2 (Nat.le_of_ble_eq_true rfl) rfl ?_
  rintro r19 h ⟨hF1, p19⟩; replace hF := hF.tr hF1 rfl
  obtain ⟨p19_0, a19_0, a19_1⟩ := p19
  have f19_42 := fun j : Nat => hF1.1 42 j rfl rfl
  have f19_43 := fun j : Nat => hF1.1 43 j rfl rfl
  have f19_44 := fun j : Nat => hF1.1 44 j rfl rfl
  have t19_36_0 := hF1.1 36 0 rfl rfl
  have t19_36_1 := hF1.1 36 1 rfl rfl
  have t19_36_2 := hF1.1 36 2 rfl rfl
  have t19_30_10 := hF1.1 30 10 rfl rfl
  have t19_30_11 := hF1.1 30 11 rfl rfl
  have t19_41_0 := hF1.1 41 0 rfl rfl
  have t19_41_1 := hF1.1 41 1 rfl rfl
  refine zW_aload_n (pc' := 23) dX11_keep_0.2.1.2.1 rfl rfl ?_
  refine zW_aload_n (pc' := 24) dX11_keep_0.2.1.2.2 rfl rfl ?_
  refine zGm (pc' := 27) hF rfl rfl fg_X11_85 tb30 rfl dX11_keep_0.2.2.1.1 rfl ?_
  refine zPm (pc' := 30) hF (Or.inl rfl) (SI_irr hF.2.1 (Or.inl rfl) (fun _ _ => ⟨by omega, by omega⟩)) (KR_irr hF.2.2.1 rfl) (KC_30_10 hF.2.2.2 (by omega)) fp_X11_77 tb30 rfl dX11_keep_0.2.2.1.2 rfl (fun h hF w27 => ?_)
  have a27_42 := fun j : Nat => (congrFun (congrFun w27 42) j).trans (zwr_ne (Or.inl (by decide)))
  have a27_43 := fun j : Nat => (congrFun (congrFun w27 43) j).trans (zwr_ne (Or.inl (by decide)))
  have a27_44 := fun j : Nat => (congrFun (congrFun w27 44) j).trans (zwr_ne (Or.inl (by decide)))
  have a27_46 := fun j : Nat => (congrFun (congrFun w27 46) j).trans (zwr_ne (Or.inl (by decide)))
  have a27_47 := fun j : Nat => (congrFun (congrFun w27 47) j).trans (zwr_ne (Or.inl (by decide)))
  have a27_48 := fun j : Nat => (congrFun (congrFun w27 48) j).trans (zwr_ne (Or.inl (by decide)))
  have t27_36_0 := congrFun (congrFun w27 36) 0
  rw [zwr_ne (Or.inl (by decide))] at t27_36_0
  have t27_36_1 := congrFun (congrFun w27 36) 1
  rw [zwr_ne (Or.inl (by decide))] at t27_36_1
  have t27_36_2 := congrFun (congrFun w27 36) 2
  rw [zwr_ne (Or.inl (by decide))] at t27_36_2
  have t27_30_10 := congrFun (congrFun w27 30) 10
  rw [zwr_eq] at t27_30_10
  have t27_30_11 := congrFun (congrFun w27 30) 11
  rw [zwr_ne (Or.inr (by decide))] at t27_30_11
  have t27_45_0 := congrFun (congrFun w27 45) 0
  rw [zwr_ne (Or.inl (by decide))] at t27_45_0
  have t27_41_0 := congrFun (congrFun w27 41) 0
  rw [zwr_ne (Or.inl (by decide))] at t27_41_0
  have t27_45_1 := congrFun (congrFun w27 45) 1
  rw [zwr_ne (Or.inl (by decide))] at t27_45_1
  have t27_41_1 := congrFun (congrFun w27 41) 1
  rw [zwr_ne (Or.inl (by decide))] at t27_41_1
  refine zW_aload_n (pc' := 31) dX11_keep_0.2.2.2.1 rfl rfl ?_
  refine zW_iconst (pc' := 32) dX11_keep_0.2.2.2.2 rfl ?_
  refine zPmz (pc' := 35) hF (Or.inl rfl) (SI_irr hF.2.1 (Or.inl rfl) (fun _ _ => ⟨by omega, by omega⟩)) (KR_irr hF.2.2.1 rfl) (KC_irr hF.2.2.2 rfl) (by omega) fp_X11_81 tb30 rfl dX11_keep_1.1.1.1 rfl (fun h hF w32 => ?_)
  have a32_42 := fun j : Nat => (congrFun (congrFun w32 42) j).trans (zwr_ne (Or.inl (by decide)))
  have a32_43 := fun j : Nat => (congrFun (congrFun w32 43) j).trans (zwr_ne (Or.inl (by decide)))
  have a32_44 := fun j : Nat => (congrFun (congrFun w32 44) j).trans (zwr_ne (Or.inl (by decide)))
  have a32_46 := fun j : Nat => (congrFun (congrFun w32 46) j).trans (zwr_ne (Or.inl (by decide)))
  have a32_47 := fun j : Nat => (congrFun (congrFun w32 47) j).trans (zwr_ne (Or.inl (by decide)))
  have a32_48 := fun j : Nat => (congrFun (congrFun w32 48) j).trans (zwr_ne (Or.inl (by decide)))
  have t32_36_0 := congrFun (congrFun w32 36) 0
  rw [zwr_ne (Or.inl (by decide))] at t32_36_0
  have t32_36_1 := congrFun (congrFun w32 36) 1
  rw [zwr_ne (Or.inl (by decide))] at t32_36_1
  have t32_36_2 := congrFun (congrFun w32 36) 2
  rw [zwr_ne (Or.inl (by decide))] at t32_36_2
  have t32_30_10 := congrFun (congrFun w32 30) 10
  rw [zwr_ne (Or.inr (by decide))] at t32_30_10
  have t32_30_11 := congrFun (congrFun w32 30) 11
  rw [zwr_eq] at t32_30_11
  have t32_45_0 := congrFun (congrFun w32 45) 0
  rw [zwr_ne (Or.inl (by decide))] at t32_45_0
  have t32_41_0 := congrFun (congrFun w32 41) 0
  rw [zwr_ne (Or.inl (by decide))] at t32_41_0
  have t32_45_1 := congrFun (congrFun w32 45) 1
  rw [zwr_ne (Or.inl (by decide))] at t32_45_1
  have t32_41_1 := congrFun (congrFun w32 41) 1
  rw [zwr_ne (Or.inl (by decide))] at t32_41_1
  refine zW_aload_n (pc' := 36) dX11_keep_1.1.1.2 rfl rfl ?_
  refine zG_ref (pc' := 39) 41 fg_X11_33 tb30 rfl dX11_keep_1.1.2 rfl ?_
  refine zGm (pc' := 42) hF rfl rfl fg_X11_379 tb41 rfl dX11_keep_1.2.1 rfl ?_
  exact zV_iret rfl dX11_keep_1.2.2 ⟨hF, ⟨by omega, (fun j => by have q0 := a0_42 j; have q1 := a0_43 j; have q2 := a0_46 j; have q3 := a0_47 j; have q4 := f8_42 j; have q5 := f8_43 j; have q6 := f8_46 j; have q7 := f8_47 j; have q8 := a19_0 j; have q9 := f19_42 j; have q10 := f19_43 j; have q11 := a27_42 j; have q12 := a27_43 j; have q13 := a27_46 j; have q14 := a27_47 j; have q15 := a32_42 j; have q16 := a32_43 j; have q17 := a32_46 j; have q18 := a32_47 j; omega), (fun j => by have q0 := a0_44 j; have q1 := a0_48 j; have q2 := f8_44 j; have q3 := f8_48 j; have q4 := a19_1 j; have q5 := f19_44 j; have q6 := a27_44 j; have q7 := a27_48 j; have q8 := a32_44 j; have q9 := a32_48 j; omega)⟩⟩

abbrev q_X11_undoQ (κ : Hp)  : Int → Hp → Prop := fun r h' => Fm [(33, 0), (33, 1), (33, 2), (34, 999), (35, 999), (41, 0), (41, 1), (42, 999), (43, 999), (44, 999), (30, 12), (39, 1)] κ h' ∧ ((0 ≤ r) ∧ (r ≤ 1) ∧ (((κ 30 11 = 0 ∧ r = 0 ∧ h' 33 0 = κ 33 0 ∧ h' 33 1 = κ 33 1 ∧ h' 33 2 = κ 33 2 ∧ h' 30 12 = κ 30 12) ∨ (κ 30 11 ≠ 0 ∧ r = 1 ∧ h' 33 0 = κ 36 0 ∧ h' 33 1 = κ 36 1 ∧ h' 33 2 = κ 36 2 ∧ h' 30 12 = κ 30 10)) ∧ (r = 0 → h' 41 0 = κ 41 0 ∧ h' 41 1 = κ 41 1) ∧ (r = 1 → h' 41 0 = κ 45 0 ∧ h' 41 1 = κ 45 1)) ∧ (∀ j : Nat, (r = 1 → j < 14 → h' 42 j = κ 46 j ∧ h' 43 j = κ 47 j) ∧ (r = 0 → h' 42 j = κ 42 j ∧ h' 43 j = κ 43 j)) ∧ (∀ j : Nat, (r = 1 → j < 64 → h' 44 j = κ 48 j) ∧ (r = 0 → h' 44 j = κ 44 j)))
set_option maxHeartbeats 4000000 in
set_option maxRecDepth 20000 in
theorem s_X11_undoQ {G : Ga} {κ : Hp} (hS : SI κ) (hR : KR κ) (hC : KC κ)  : zM G mX11_undo yX11_undo [.inr (.inr 30)] κ (q_X11_undoQ κ) := by
  have f_30_10 := KCkc hC
  have f_30_12 := KCc hC
  have f_33_0 := KCw hC
  have f_33_1 := KCh hC
  have f_33_2 := KCp hC
  have f_36_0 := KCk0 hC
  have f_36_1 := KCk1 hC
  have f_36_2 := KCk2 hC
  have f_41_0 := KCm hC
  have f_41_1 := KCf hC
  have f_45_0 := KCr0 hC
  have f_45_1 := KCr1 hC
  refine zM_of [some (.inr (.inr 30))] 0 rfl rfl (Nat.le_of_ble_eq_true rfl) rfl ?_
  refine (show ∀ h : Hp, Fm [(33, 0), (33, 1), (33, 2), (34, 999), (35, 999), (41, 0), (41, 1), (42, 999), (43, 999), (44, 999), (30, 12), (39, 1)] κ h → h = κ → zV G mX11_undo (q_X11_undoQ κ) 0 [some (.inr (.inr 30))] [] h from fun h hF hk0 => ?_) κ (Fm.rf hS hR hC) rfl
  have y0_33_0 : h 33 0 = κ 33 0 := by rw [hk0]
  have y0_33_1 : h 33 1 = κ 33 1 := by rw [hk0]
  have y0_33_2 : h 33 2 = κ 33 2 := by rw [hk0]
  have y0_30_12 : h 30 12 = κ 30 12 := by rw [hk0]
  have y0_41_0 : h 41 0 = κ 41 0 := by rw [hk0]
  have y0_45_0 : h 45 0 = κ 45 0 := by rw [hk0]
  have y0_41_1 : h 41 1 = κ 41 1 := by rw [hk0]
  have y0_45_1 : h 45 1 = κ 45 1 := by rw [hk0]
  have a0_42 := fun j : Nat => congrFun (congrFun hk0 42) j
  have a0_43 := fun j : Nat => congrFun (congrFun hk0 43) j
  have a0_44 := fun j : Nat => congrFun (congrFun hk0 44) j
  have a0_46 := fun j : Nat => congrFun (congrFun hk0 46) j
  have a0_47 := fun j : Nat => congrFun (congrFun hk0 47) j
  have a0_48 := fun j : Nat => congrFun (congrFun hk0 48) j
  refine zW_aload_n (pc' := 1) dX11_undo_0.1.1.1.1 rfl rfl ?_
  refine zGm (pc' := 4) hF rfl rfl fg_X11_81 tb30 rfl dX11_undo_0.1.1.1.2 rfl ?_
  have e1 : -2147483648 ≤ κ 30 11 ∧ κ 30 11 ≤ 2147483647 := by rw [← hF.1 30 11 rfl rfl]; exact hF.rh 30 11
  refine zV_if_ne (tgt := 9) (pc' := 7) dX11_undo_0.1.1.2.1 rfl rfl ⟨by omega, by omega⟩ (fun c4 => ?_) (fun c4 => ?_)
  · refine zW_aload_n (pc' := 10) dX11_undo_0.1.2.1.2 rfl rfl ?_
    refine zG_ref (pc' := 13) 33 fg_X11_19 tb30 rfl dX11_undo_0.1.2.2.1 rfl ?_
    refine zW_aload_n (pc' := 14) dX11_undo_0.1.2.2.2 rfl rfl ?_
    refine zG_ref (pc' := 17) 36 fg_X11_71 tb30 rfl dX11_undo_0.2.1.1.1 rfl ?_
    have y17_36_0 := hF.1 36 0 rfl rfl
    have y17_36_1 := hF.1 36 1 rfl rfl
    have y17_36_2 := hF.1 36 2 rfl rfl
    refine cvV1 (pc' := 20) kX5_copyFrom vX5_copyFrom lk_X11_396 ⟨Nat.le_of_ble_eq_true rfl, Nat.le_of_ble_eq_true rfl⟩ tb33 vq5 rfl rfl (s_X5_copyFromV33_36E hF.2.1 hF.2.2.1 hF.2.2.2) dX11_undo_0.2.1.1.2 (Nat.le_of_ble_eq_true rfl) rfl ?_
    rintro r17 h ⟨hF1, p17⟩; replace hF := hF.tr hF1 rfl
    obtain ⟨p17_0, a17_0⟩ := p17
    have f17_42 := fun j : Nat => hF1.1 42 j rfl rfl
    have f17_43 := fun j : Nat => hF1.1 43 j rfl rfl
    have f17_44 := fun j : Nat => hF1.1 44 j rfl rfl
    have f17_46 := fun j : Nat => hF1.1 46 j rfl rfl
    have f17_47 := fun j : Nat => hF1.1 47 j rfl rfl
    have f17_48 := fun j : Nat => hF1.1 48 j rfl rfl
    have t17_30_12 := hF1.1 30 12 rfl rfl
    have t17_41_0 := hF1.1 41 0 rfl rfl
    have t17_45_0 := hF1.1 45 0 rfl rfl
    have t17_41_1 := hF1.1 41 1 rfl rfl
    have t17_45_1 := hF1.1 45 1 rfl rfl
    refine zW_aload_n (pc' := 21) dX11_undo_0.2.1.2.1 rfl rfl ?_
    refine zG_ref (pc' := 24) 41 fg_X11_33 tb30 rfl dX11_undo_0.2.1.2.2 rfl ?_
    refine zW_aload_n (pc' := 25) dX11_undo_0.2.2.1.1 rfl rfl ?_
    refine zG_ref (pc' := 28) 45 fg_X11_74 tb30 rfl dX11_undo_0.2.2.1.2 rfl ?_
    have y28_45_0 := hF.1 45 0 rfl rfl
    have y28_45_1 := hF.1 45 1 rfl rfl
    refine cvV1 (pc' := 31) kX7_copyFrom vX7_copyFrom lk_X11_105 ⟨Nat.le_of_ble_eq_true rfl, Nat.le_of_ble_eq_true rfl⟩ tb41 vq7 rfl rfl (s_X7_copyFromV41_45Q hF.2.1 hF.2.2.1 hF.2.2.2) dX11_undo_0.2.2.2.1 (Nat.le_of_ble_eq_true rfl) rfl ?_
    rintro r28 h ⟨hF1, p28⟩; replace hF := hF.tr hF1 rfl
    obtain ⟨p28_0, a28_0, a28_1⟩ := p28
    have f28_46 := fun j : Nat => hF1.1 46 j rfl rfl
    have f28_47 := fun j : Nat => hF1.1 47 j rfl rfl
    have f28_48 := fun j : Nat => hF1.1 48 j rfl rfl
    have t28_33_0 := hF1.1 33 0 rfl rfl
    have t28_33_1 := hF1.1 33 1 rfl rfl
    have t28_33_2 := hF1.1 33 2 rfl rfl
    have t28_30_12 := hF1.1 30 12 rfl rfl
    have t28_45_0 := hF1.1 45 0 rfl rfl
    have t28_45_1 := hF1.1 45 1 rfl rfl
    refine zW_aload_n (pc' := 32) dX11_undo_0.2.2.2.2 rfl rfl ?_
    refine zW_aload_n (pc' := 33) dX11_undo_1.1.1.1 rfl rfl ?_
    refine zGm (pc' := 36) hF rfl rfl fg_X11_77 tb30 rfl dX11_undo_1.1.1.2 rfl ?_
    refine zPm (pc' := 39) hF (Or.inl rfl) (SI_irr hF.2.1 (Or.inl rfl) (fun _ _ => ⟨by omega, by omega⟩)) (KR_irr hF.2.2.1 rfl) (KC_30_12 hF.2.2.2 (by omega)) fp_X11_85 tb30 rfl dX11_undo_1.1.2.1 rfl (fun h hF w36 => ?_)
    have a36_42 := fun j : Nat => (congrFun (congrFun w36 42) j).trans (zwr_ne (Or.inl (by decide)))
    have a36_43 := fun j : Nat => (congrFun (congrFun w36 43) j).trans (zwr_ne (Or.inl (by decide)))
    have a36_44 := fun j : Nat => (congrFun (congrFun w36 44) j).trans (zwr_ne (Or.inl (by decide)))
    have a36_46 := fun j : Nat => (congrFun (congrFun w36 46) j).trans (zwr_ne (Or.inl (by decide)))
    have a36_47 := fun j : Nat => (congrFun (congrFun w36 47) j).trans (zwr_ne (Or.inl (by decide)))
    have a36_48 := fun j : Nat => (congrFun (congrFun w36 48) j).trans (zwr_ne (Or.inl (by decide)))
    have t36_33_0 := congrFun (congrFun w36 33) 0
    rw [zwr_ne (Or.inl (by decide))] at t36_33_0
    have t36_33_1 := congrFun (congrFun w36 33) 1
    rw [zwr_ne (Or.inl (by decide))] at t36_33_1
    have t36_33_2 := congrFun (congrFun w36 33) 2
    rw [zwr_ne (Or.inl (by decide))] at t36_33_2
    have t36_30_12 := congrFun (congrFun w36 30) 12
    rw [zwr_eq] at t36_30_12
    have t36_41_0 := congrFun (congrFun w36 41) 0
    rw [zwr_ne (Or.inl (by decide))] at t36_41_0
    have t36_45_0 := congrFun (congrFun w36 45) 0
    rw [zwr_ne (Or.inl (by decide))] at t36_45_0
    have t36_41_1 := congrFun (congrFun w36 41) 1
    rw [zwr_ne (Or.inl (by decide))] at t36_41_1
    have t36_45_1 := congrFun (congrFun w36 45) 1
    rw [zwr_ne (Or.inl (by decide))] at t36_45_1
    refine zW_aload_n (pc' := 40) dX11_undo_1.1.2.2 rfl rfl ?_
    refine cvV0 (pc' := 43) kX11_rawChanged vX11_rawChanged lk_X11_124 ⟨Nat.le_of_ble_eq_true rfl, Nat.le_of_ble_eq_true rfl⟩ tb30 vq11 rfl rfl (s_X11_rawChanged hF.2.1 hF.2.2.1 hF.2.2.2) dX11_undo_1.2.1.1 (Nat.le_of_ble_eq_true rfl) rfl ?_
    rintro r40 h ⟨hF1, p40⟩; replace hF := hF.tr hF1 rfl
    have f40_42 := fun j : Nat => hF1.1 42 j rfl rfl
    have f40_43 := fun j : Nat => hF1.1 43 j rfl rfl
    have f40_44 := fun j : Nat => hF1.1 44 j rfl rfl
    have f40_46 := fun j : Nat => hF1.1 46 j rfl rfl
    have f40_47 := fun j : Nat => hF1.1 47 j rfl rfl
    have f40_48 := fun j : Nat => hF1.1 48 j rfl rfl
    have t40_33_0 := hF1.1 33 0 rfl rfl
    have t40_33_1 := hF1.1 33 1 rfl rfl
    have t40_33_2 := hF1.1 33 2 rfl rfl
    have t40_30_12 := hF1.1 30 12 rfl rfl
    have t40_41_0 := hF1.1 41 0 rfl rfl
    have t40_45_0 := hF1.1 45 0 rfl rfl
    have t40_41_1 := hF1.1 41 1 rfl rfl
    have t40_45_1 := hF1.1 45 1 rfl rfl
    refine zW_iconst (pc' := 44) dX11_undo_1.2.1.2 rfl ?_
    exact zV_zret rfl (by omega) dX11_undo_1.2.2 ⟨hF, ⟨by omega, by omega, by omega, (fun j => by have q0 := a0_42 j; have q1 := a0_43 j; have q2 := a0_46 j; have q3 := a0_47 j; have q4 := f17_42 j; have q5 := f17_43 j; have q6 := f17_46 j; have q7 := f17_47 j; have q8 := a28_0 j; have q9 := f28_46 j; have q10 := f28_47 j; have q11 := a36_42 j; have q12 := a36_43 j; have q13 := a36_46 j; have q14 := a36_47 j; have q15 := f40_42 j; have q16 := f40_43 j; have q17 := f40_46 j; have q18 := f40_47 j; omega), (fun j => by have q0 := a0_44 j; have q1 := a0_48 j; have q2 := f17_44 j; have q3 := f17_48 j; have q4 := a28_1 j; have q5 := f28_48 j; have q6 := a36_44 j; have q7 := a36_48 j; have q8 := f40_44 j; have q9 := f40_48 j; omega)⟩⟩
  · refine zW_iconst (pc' := 8) dX11_undo_0.1.1.2.2 rfl ?_
    exact zV_zret rfl (by omega) dX11_undo_0.1.2.1.1 ⟨hF, ⟨by omega, by omega, by omega, (fun j => by have q0 := a0_42 j; have q1 := a0_43 j; have q2 := a0_46 j; have q3 := a0_47 j; omega), (fun j => by have q0 := a0_44 j; have q1 := a0_48 j; omega)⟩⟩

abbrev q_X12_isStageQ (κ h : Hp) (x1 : Int) : Int → Hp → Prop := fun r h' => h' = h ∧ ((0 ≤ r) ∧ (r ≤ 1) ∧ (r = 1 ↔ (1 ≤ x1 ∧ x1 ≤ κ 0 14)))
set_option maxHeartbeats 4000000 in
set_option maxRecDepth 20000 in
theorem s_X12_isStageQ {G : Ga} {b : Bool} {κ h : Hp} (hK : KR κ) (hF : Fr b κ h) (x1 : Int) (hx1 : rng x1) : zM G mX12_isStage yX12_isStage [.inr (.inr 0), .inl x1] h (q_X12_isStageQ κ h x1) := by
  have f_0_14 := KRm hK
  unfold rng at hx1
  refine zM_of [some (.inr (.inr 0)), some (.inl x1)] 0 rfl rfl (Nat.le_of_ble_eq_true rfl) rfl ?_
  refine zW_iload_n (pc' := 1) dX12_isStage_0.1.1.1 rfl rfl ?_
  refine zW_iconst (pc' := 2) dX12_isStage_0.1.1.2 rfl ?_
  refine zW_aload_n (pc' := 3) dX12_isStage_0.1.2 rfl rfl ?_
  refine zG_key (pc' := 6) hF rfl fg_X12_185 tb0 rfl dX12_isStage_0.2.1.1 rfl ?_
  refine csI3 (pc' := 9) kX12_in vX12_in lk_X12_140 ⟨Nat.le_of_ble_eq_true rfl, Nat.le_of_ble_eq_true rfl⟩ rfl (s_X12_inR hF _ ⟨by omega, by omega⟩ _ ⟨by omega, by omega⟩ _ ⟨by omega, by omega⟩) dX12_isStage_0.2.1.2 (Nat.le_of_ble_eq_true rfl) rfl ?_
  rintro r6 z6 ⟨hz6, p6⟩; subst z6
  exact zV_zret rfl (by omega) dX12_isStage_0.2.2 ⟨rfl, by omega⟩

abbrev q_X12_stageQ (κ h : Hp) (x1 : Int) (x2 : Int) : Int → Hp → Prop := fun r h' => h' = h ∧ ((r = stF (κ 0 14) (κ 3) (κ 4) (κ 5) x1 x2))
set_option maxHeartbeats 4000000 in
set_option maxRecDepth 20000 in
theorem s_X12_stageQ {G : Ga} {b : Bool} {κ h : Hp} (hK : KR κ) (hF : Fr b κ h) (x1 : Int) (hx1 : rng x1) (x2 : Int) (hx2 : rng x2) : zM G mX12_stage yX12_stage [.inr (.inr 0), .inl x1, .inl x2] h (q_X12_stageQ κ h x1 x2) := by
  have f_0_14 := KRm hK
  unfold rng at hx1
  unfold rng at hx2
  refine zM_of [some (.inr (.inr 0)), some (.inl x1), some (.inl x2)] 0 rfl rfl (Nat.le_of_ble_eq_true rfl) rfl ?_
  refine zW_aload_n (pc' := 1) dX12_stage_0.1.1.1.1 rfl rfl ?_
  refine zW_iload_n (pc' := 2) dX12_stage_0.1.1.1.2 rfl rfl ?_
  refine cvI1 (pc' := 5) kX12_isStage vX12_isStage lk_X12_199 ⟨Nat.le_of_ble_eq_true rfl, Nat.le_of_ble_eq_true rfl⟩ tb0 vq12 rfl rfl (s_X12_isStageQ hK hF _ ⟨by omega, by omega⟩) dX12_stage_0.1.1.2.1 (Nat.le_of_ble_eq_true rfl) rfl ?_
  rintro r2 z2 ⟨hz2, p2⟩; subst z2
  refine zV_if_eq (tgt := 17) (pc' := 8) dX12_stage_0.1.1.2.2 rfl rfl ⟨by omega, by omega⟩ (fun c5 => ?_) (fun c5 => ?_)
  · refine zW_iconst (pc' := 18) dX12_stage_0.2.1.1.2 rfl ?_
    exact zV_iret rfl dX12_stage_0.2.1.2.1 ⟨rfl, by exact (st_no (by omega)).symm⟩
  · refine zW_iload_n (pc' := 9) dX12_stage_0.1.2.1.1 rfl rfl ?_
    refine zW_iconst (pc' := 10) dX12_stage_0.1.2.1.2 rfl ?_
    refine zW_iconst (pc' := 11) dX12_stage_0.1.2.2.1 rfl ?_
    refine csI3 (pc' := 14) kX12_in vX12_in lk_X12_140 ⟨Nat.le_of_ble_eq_true rfl, Nat.le_of_ble_eq_true rfl⟩ rfl (s_X12_inR hF _ ⟨by omega, by omega⟩ _ ⟨by omega, by omega⟩ _ ⟨by omega, by omega⟩) dX12_stage_0.1.2.2.2 (Nat.le_of_ble_eq_true rfl) rfl ?_
    rintro r11 z11 ⟨hz11, p11⟩; subst z11
    refine zV_if_ne (tgt := 19) (pc' := 17) dX12_stage_0.2.1.1.1 rfl rfl ⟨by omega, by omega⟩ (fun c14 => ?_) (fun c14 => ?_)
    · refine zW_iload_n (pc' := 20) dX12_stage_0.2.1.2.2 rfl rfl ?_
      refine zV_if_ne (tgt := 32) (pc' := 23) dX12_stage_0.2.2.1.1 rfl rfl ⟨by omega, by omega⟩ (fun c20 => ?_) (fun c20 => ?_)
      · refine zW_iload_n (pc' := 33) dX12_stage_1.1.2.1.1 rfl rfl ?_
        refine zW_iconst (pc' := 34) dX12_stage_1.1.2.1.2 rfl ?_
        refine zV_cm_ne (tgt := 43) (pc' := 37) dX12_stage_1.1.2.2.1 rfl rfl ⟨by omega, by omega⟩ ⟨by omega, by omega⟩ (fun c34 => ?_) (fun c34 => ?_)
        · refine zW_iload_n (pc' := 44) dX12_stage_1.2.1.2.2 rfl rfl ?_
          refine zW_aload_n (pc' := 45) dX12_stage_1.2.2.1.1 rfl rfl ?_
          refine zW_iload_n (pc' := 46) dX12_stage_1.2.2.1.2 rfl rfl ?_
          refine cvI1 (pc' := 49) kX12_numberMany vX12_numberMany lk_X12_202 ⟨Nat.le_of_ble_eq_true rfl, Nat.le_of_ble_eq_true rfl⟩ tb0 vq12 rfl rfl (s_X12_numberMany hK hF _ ⟨by omega, by omega⟩) dX12_stage_1.2.2.2.1 (Nat.le_of_ble_eq_true rfl) rfl ?_
          rintro r46 z46 ⟨hz46, p46⟩; subst z46
          refine zV_cm_gt (tgt := 63) (pc' := 52) dX12_stage_1.2.2.2.2 rfl rfl ⟨by omega, by omega⟩ ⟨by omega, by omega⟩ (fun c49 => ?_) (fun c49 => ?_)
          · refine zW_bipush (pc' := 65) dX12_stage_2.2.2.1 rfl rfl ?_
            exact zV_iret rfl dX12_stage_2.2.2.2 ⟨rfl, by first | (rw [st_n (by omega) (by omega) (by omega)]; omega) | (rw [st_2 (by omega) (by omega) (by omega)])⟩
          · refine zW_aload_n (pc' := 53) dX12_stage_2.1.1.1.1 rfl rfl ?_
            refine zW_iload_n (pc' := 54) dX12_stage_2.1.1.1.2 rfl rfl ?_
            refine zW_iload_n (pc' := 55) dX12_stage_2.1.1.2 rfl rfl ?_
            refine zW_iconst (pc' := 56) dX12_stage_2.1.2.1 rfl ?_
            refine zW_isub (pc' := 57) dX12_stage_2.1.2.2 rfl ?_
            refine cvI2 (pc' := 60) kX12_numberOf vX12_numberOf lk_X12_206 ⟨Nat.le_of_ble_eq_true rfl, Nat.le_of_ble_eq_true rfl⟩ tb0 vq12 rfl rfl (s_X12_numberOf hK hF _ ⟨by omega, by omega⟩ _ ⟨by omega, by omega⟩) dX12_stage_2.2.1.1 (Nat.le_of_ble_eq_true rfl) rfl ?_
            rintro r57 z57 ⟨hz57, p57⟩; subst z57
            refine zV_goto 65 dX12_stage_2.2.1.2 rfl ?_
            exact zV_iret rfl dX12_stage_2.2.2.2 ⟨rfl, by first | (rw [st_n (by omega) (by omega) (by omega)]; omega) | (rw [st_2 (by omega) (by omega) (by omega)])⟩
        · refine zW_aload_n (pc' := 38) dX12_stage_1.1.2.2.2 rfl rfl ?_
          refine zW_iload_n (pc' := 39) dX12_stage_1.2.1.1.1 rfl rfl ?_
          refine cvI1 (pc' := 42) kX12_numberMany vX12_numberMany lk_X12_202 ⟨Nat.le_of_ble_eq_true rfl, Nat.le_of_ble_eq_true rfl⟩ tb0 vq12 rfl rfl (s_X12_numberMany hK hF _ ⟨by omega, by omega⟩) dX12_stage_1.2.1.1.2 (Nat.le_of_ble_eq_true rfl) rfl ?_
          rintro r39 z39 ⟨hz39, p39⟩; subst z39
          exact zV_iret rfl dX12_stage_1.2.1.2.1 ⟨rfl, by rw [st_4 (by omega) (by omega)]; omega⟩
      · refine zW_aload_n (pc' := 24) dX12_stage_0.2.2.1.2 rfl rfl ?_
        refine zG_ref (pc' := 27) 3 fg_X12_16 tb0 rfl dX12_stage_0.2.2.2.1 rfl ?_
        refine zW_iload_n (pc' := 28) dX12_stage_0.2.2.2.2 rfl rfl ?_
        refine zW_iconst (pc' := 29) dX12_stage_1.1.1.1.1 rfl ?_
        refine zW_isub (pc' := 30) dX12_stage_1.1.1.1.2 rfl ?_
        refine zA_key (pc' := 31) hF rfl tb3 (by omega) dX12_stage_1.1.1.2.1 (by decide) rfl ?_
        exact zV_iret rfl dX12_stage_1.1.1.2.2 ⟨rfl, by exact (st_0 (by omega) (by omega)).symm⟩
    · refine zW_iconst (pc' := 18) dX12_stage_0.2.1.1.2 rfl ?_
      exact zV_iret rfl dX12_stage_0.2.1.2.1 ⟨rfl, by exact (st_no (by omega)).symm⟩

abbrev q_X7_letterOfQ (κ h : Hp) (x1 : Int) : Int → Hp → Prop := fun r h' => h' = h ∧ ((1 ≤ x1 ∧ x1 ≤ κ 41 0 → r = κ 42 x1.toNat))
set_option maxHeartbeats 4000000 in
set_option maxRecDepth 20000 in
theorem s_X7_letterOfQ {G : Ga} {b : Bool} {κ h : Hp} (hK : KC κ) (hF : Fr b κ h) (x1 : Int) (hx1 : rng x1) : zM G mX7_letterOf yX7_letterOf [.inr (.inr 41), .inl x1] h (q_X7_letterOfQ κ h x1) := by
  have f_41_0 := KCm hK
  unfold rng at hx1
  refine zM_of [some (.inr (.inr 41)), some (.inl x1)] 0 rfl rfl (Nat.le_of_ble_eq_true rfl) rfl ?_
  refine zW_aload_n (pc' := 1) dX7_letterOf_0.1.1.1.1 rfl rfl ?_
  refine zW_iload_n (pc' := 2) dX7_letterOf_0.1.1.1.2 rfl rfl ?_
  refine cvI1 (pc' := 5) kX7_has vX7_has lk_X7_38 ⟨Nat.le_of_ble_eq_true rfl, Nat.le_of_ble_eq_true rfl⟩ tb41 vq7 rfl rfl (s_X7_has hK hF _ ⟨by omega, by omega⟩) dX7_letterOf_0.1.1.2 (Nat.le_of_ble_eq_true rfl) rfl ?_
  rintro r2 z2 ⟨hz2, p2⟩; subst z2
  refine zV_if_eq (tgt := 17) (pc' := 8) dX7_letterOf_0.1.2.1.1 rfl rfl ⟨by omega, by omega⟩ (fun c5 => ?_) (fun c5 => ?_)
  · refine zW_iconst (pc' := 18) dX7_letterOf_0.2.2.1 rfl ?_
    exact zV_iret rfl dX7_letterOf_0.2.2.2 ⟨rfl, by omega⟩
  · refine zW_aload_n (pc' := 9) dX7_letterOf_0.1.2.1.2 rfl rfl ?_
    refine zG_ref (pc' := 12) 42 fg_X7_9 tb41 rfl dX7_letterOf_0.1.2.2 rfl ?_
    refine zW_iload_n (pc' := 13) dX7_letterOf_0.2.1.1.1 rfl rfl ?_
    refine zA_keyI (pc' := 14) hF rfl (by decide) (by decide) tb42 (by omega) dX7_letterOf_0.2.1.1.2 (by decide) rfl (fun e13 => ?_)
    refine zV_goto 18 dX7_letterOf_0.2.1.2 rfl ?_
    exact zV_iret rfl dX7_letterOf_0.2.2.2 ⟨rfl, by omega⟩

abbrev q_X7_numbersOfQ (κ h : Hp) (x1 : Int) : Int → Hp → Prop := fun r h' => h' = h ∧ ((-64 ≤ r) ∧ (r ≤ 64) ∧ (1 ≤ x1 ∧ x1 ≤ κ 41 0 → r = κ 43 (x1 + 1).toNat - κ 43 x1.toNat))
set_option maxHeartbeats 4000000 in
set_option maxRecDepth 20000 in
theorem s_X7_numbersOfQ {G : Ga} {b : Bool} {κ h : Hp} (hK : KC κ) (hF : Fr b κ h) (x1 : Int) (hx1 : rng x1) : zM G mX7_numbersOf yX7_numbersOf [.inr (.inr 41), .inl x1] h (q_X7_numbersOfQ κ h x1) := by
  have f_41_0 := KCm hK
  unfold rng at hx1
  refine zM_of [some (.inr (.inr 41)), some (.inl x1)] 0 rfl rfl (Nat.le_of_ble_eq_true rfl) rfl ?_
  refine zW_aload_n (pc' := 1) dX7_numbersOf_0.1.1.1.1 rfl rfl ?_
  refine zW_iload_n (pc' := 2) dX7_numbersOf_0.1.1.1.2 rfl rfl ?_
  refine cvI1 (pc' := 5) kX7_has vX7_has lk_X7_38 ⟨Nat.le_of_ble_eq_true rfl, Nat.le_of_ble_eq_true rfl⟩ tb41 vq7 rfl rfl (s_X7_has hK hF _ ⟨by omega, by omega⟩) dX7_numbersOf_0.1.1.2.1 (Nat.le_of_ble_eq_true rfl) rfl ?_
  rintro r2 z2 ⟨hz2, p2⟩; subst z2
  refine zV_if_eq (tgt := 26) (pc' := 8) dX7_numbersOf_0.1.1.2.2 rfl rfl ⟨by omega, by omega⟩ (fun c5 => ?_) (fun c5 => ?_)
  · refine zW_iconst (pc' := 27) dX7_numbersOf_1.1 rfl ?_
    exact zV_iret rfl dX7_numbersOf_1.2 ⟨rfl, by omega⟩
  · refine zW_aload_n (pc' := 9) dX7_numbersOf_0.1.2.1.1 rfl rfl ?_
    refine zG_ref (pc' := 12) 43 fg_X7_15 tb41 rfl dX7_numbersOf_0.1.2.1.2 rfl ?_
    refine zW_iload_n (pc' := 13) dX7_numbersOf_0.1.2.2.1 rfl rfl ?_
    refine zW_iconst (pc' := 14) dX7_numbersOf_0.1.2.2.2 rfl ?_
    refine zW_iadd (pc' := 15) dX7_numbersOf_0.2.1.1.1 rfl ?_
    refine zA_keyB (KCst hK) (pc' := 16) hF rfl tb43 (by omega) dX7_numbersOf_0.2.1.1.2 (by decide) rfl (fun e15 => ?_)
    refine zW_aload_n (pc' := 17) dX7_numbersOf_0.2.1.2.1 rfl rfl ?_
    refine zG_ref (pc' := 20) 43 fg_X7_15 tb41 rfl dX7_numbersOf_0.2.1.2.2 rfl ?_
    refine zW_iload_n (pc' := 21) dX7_numbersOf_0.2.2.1.1 rfl rfl ?_
    refine zA_keyB (KCst hK) (pc' := 22) hF rfl tb43 (by omega) dX7_numbersOf_0.2.2.1.2 (by decide) rfl (fun e21 => ?_)
    refine zW_isub (pc' := 23) dX7_numbersOf_0.2.2.2.1 rfl ?_
    refine zV_goto 27 dX7_numbersOf_0.2.2.2.2 rfl ?_
    exact zV_iret rfl dX7_numbersOf_1.2 ⟨rfl, by omega⟩

abbrev q_X7_numberOfQ (κ h : Hp) (x1 : Int) (x2 : Int) : Int → Hp → Prop := fun r h' => h' = h ∧ ((1 ≤ x1 ∧ x1 ≤ κ 41 0 → 0 ≤ x2 → x2 < κ 43 (x1 + 1).toNat - κ 43 x1.toNat → r = κ 44 (κ 43 x1.toNat + x2).toNat))
set_option maxHeartbeats 4000000 in
set_option maxRecDepth 20000 in
theorem s_X7_numberOfQ {G : Ga} {b : Bool} {κ h : Hp} (hK : KC κ) (hF : Fr b κ h) (x1 : Int) (hx1 : rng x1) (x2 : Int) (hx2 : rng x2) : zM G mX7_numberOf yX7_numberOf [.inr (.inr 41), .inl x1, .inl x2] h (q_X7_numberOfQ κ h x1 x2) := by
  have f_41_0 := KCm hK
  unfold rng at hx1
  unfold rng at hx2
  refine zM_of [some (.inr (.inr 41)), some (.inl x1), some (.inl x2)] 0 rfl rfl (Nat.le_of_ble_eq_true rfl) rfl ?_
  refine zW_aload_n (pc' := 1) dX7_numberOf_0.1.1.1.1 rfl rfl ?_
  refine zW_iload_n (pc' := 2) dX7_numberOf_0.1.1.1.2 rfl rfl ?_
  refine cvI1 (pc' := 5) kX7_has vX7_has lk_X7_38 ⟨Nat.le_of_ble_eq_true rfl, Nat.le_of_ble_eq_true rfl⟩ tb41 vq7 rfl rfl (s_X7_has hK hF _ ⟨by omega, by omega⟩) dX7_numberOf_0.1.1.2.1 (Nat.le_of_ble_eq_true rfl) rfl ?_
  rintro r2 z2 ⟨hz2, p2⟩; subst z2
  refine zV_if_eq (tgt := 47) (pc' := 8) dX7_numberOf_0.1.1.2.2 rfl rfl ⟨by omega, by omega⟩ (fun c5 => ?_) (fun c5 => ?_)
  · refine zW_iconst (pc' := 48) dX7_numberOf_1.2.2.1.2 rfl ?_
    exact zV_iret rfl dX7_numberOf_1.2.2.2 ⟨rfl, by omega⟩
  · refine zW_iload_n (pc' := 9) dX7_numberOf_0.1.2.1.1 rfl rfl ?_
    refine zV_if_lt (tgt := 47) (pc' := 12) dX7_numberOf_0.1.2.1.2 rfl rfl ⟨by omega, by omega⟩ (fun c9 => ?_) (fun c9 => ?_)
    · refine zW_iconst (pc' := 48) dX7_numberOf_1.2.2.1.2 rfl ?_
      exact zV_iret rfl dX7_numberOf_1.2.2.2 ⟨rfl, by omega⟩
    · refine zW_iload_n (pc' := 13) dX7_numberOf_0.1.2.2.1 rfl rfl ?_
      refine zW_aload_n (pc' := 14) dX7_numberOf_0.1.2.2.2 rfl rfl ?_
      refine zG_ref (pc' := 17) 43 fg_X7_15 tb41 rfl dX7_numberOf_0.2.1.1.1 rfl ?_
      refine zW_iload_n (pc' := 18) dX7_numberOf_0.2.1.1.2 rfl rfl ?_
      refine zW_iconst (pc' := 19) dX7_numberOf_0.2.1.2.1 rfl ?_
      refine zW_iadd (pc' := 20) dX7_numberOf_0.2.1.2.2 rfl ?_
      refine zA_keyB (KCst hK) (pc' := 21) hF rfl tb43 (by omega) dX7_numberOf_0.2.2.1.1 (by decide) rfl (fun e20 => ?_)
      refine zW_aload_n (pc' := 22) dX7_numberOf_0.2.2.1.2 rfl rfl ?_
      refine zG_ref (pc' := 25) 43 fg_X7_15 tb41 rfl dX7_numberOf_0.2.2.2.1 rfl ?_
      refine zW_iload_n (pc' := 26) dX7_numberOf_0.2.2.2.2 rfl rfl ?_
      refine zA_keyB (KCst hK) (pc' := 27) hF rfl tb43 (by omega) dX7_numberOf_1.1.1.1.1 (by decide) rfl (fun e26 => ?_)
      refine zW_isub (pc' := 28) dX7_numberOf_1.1.1.1.2 rfl ?_
      refine zV_cm_ge (tgt := 47) (pc' := 31) dX7_numberOf_1.1.1.2.1 rfl rfl ⟨by omega, by omega⟩ ⟨by omega, by omega⟩ (fun c28 => ?_) (fun c28 => ?_)
      · refine zW_iconst (pc' := 48) dX7_numberOf_1.2.2.1.2 rfl ?_
        exact zV_iret rfl dX7_numberOf_1.2.2.2 ⟨rfl, by omega⟩
      · refine zW_aload_n (pc' := 32) dX7_numberOf_1.1.1.2.2 rfl rfl ?_
        refine zG_ref (pc' := 35) 44 fg_X7_18 tb41 rfl dX7_numberOf_1.1.2.1.1 rfl ?_
        refine zW_aload_n (pc' := 36) dX7_numberOf_1.1.2.1.2 rfl rfl ?_
        refine zG_ref (pc' := 39) 43 fg_X7_15 tb41 rfl dX7_numberOf_1.1.2.2.1 rfl ?_
        refine zW_iload_n (pc' := 40) dX7_numberOf_1.1.2.2.2 rfl rfl ?_
        refine zA_keyB (KCst hK) (pc' := 41) hF rfl tb43 (by omega) dX7_numberOf_1.2.1.1.1 (by decide) rfl (fun e40 => ?_)
        refine zW_iload_n (pc' := 42) dX7_numberOf_1.2.1.1.2 rfl rfl ?_
        refine zW_iadd (pc' := 43) dX7_numberOf_1.2.1.2.1 rfl ?_
        refine zA_keyI (pc' := 44) hF rfl (by decide) (by decide) tb44 (by omega) dX7_numberOf_1.2.1.2.2 (by decide) rfl (fun e43 => ?_)
        refine zV_goto 48 dX7_numberOf_1.2.2.1.1 rfl ?_
        exact zV_iret rfl dX7_numberOf_1.2.2.2 ⟨rfl, by omega⟩

abbrev q_X11_stageQ (κ h : Hp) (x1 : Int) (x2 : Int) : Int → Hp → Prop := fun r h' => h' = h ∧ ((r = stF (κ 41 0) (fun k => κ 42 (k + 1)) (fun k => κ 43 (k + 1)) (κ 44) x1 x2))
set_option maxHeartbeats 4000000 in
set_option maxRecDepth 20000 in
theorem s_X11_stageQ {G : Ga} {b : Bool} {κ h : Hp} (hK : KC κ) (hF : Fr b κ h) (x1 : Int) (hx1 : rng x1) (x2 : Int) (hx2 : rng x2) : zM G mX11_stage yX11_stage [.inr (.inr 30), .inl x1, .inl x2] h (q_X11_stageQ κ h x1 x2) := by
  have f_41_0 := KCm hK
  unfold rng at hx1
  unfold rng at hx2
  refine zM_of [some (.inr (.inr 30)), some (.inl x1), some (.inl x2)] 0 rfl rfl (Nat.le_of_ble_eq_true rfl) rfl ?_
  refine zW_aload_n (pc' := 1) dX11_stage_0.1.1.1.1 rfl rfl ?_
  refine zG_ref (pc' := 4) 41 fg_X11_33 tb30 rfl dX11_stage_0.1.1.1.2 rfl ?_
  refine zW_iload_n (pc' := 5) dX11_stage_0.1.1.2.1 rfl rfl ?_
  refine cvI1 (pc' := 8) kX7_has vX7_has lk_X11_178 ⟨Nat.le_of_ble_eq_true rfl, Nat.le_of_ble_eq_true rfl⟩ tb41 vq7 rfl rfl (s_X7_has hK hF _ ⟨by omega, by omega⟩) dX11_stage_0.1.1.2.2 (Nat.le_of_ble_eq_true rfl) rfl ?_
  rintro r5 z5 ⟨hz5, p5⟩; subst z5
  refine zV_if_eq (tgt := 19) (pc' := 11) dX11_stage_0.1.2.1.1 rfl rfl ⟨by omega, by omega⟩ (fun c8 => ?_) (fun c8 => ?_)
  · refine zW_iconst (pc' := 20) dX11_stage_0.2.1.1.2 rfl ?_
    exact zV_iret rfl dX11_stage_0.2.1.2.1 ⟨rfl, by exact (st_no (by omega)).symm⟩
  · refine zW_iload_n (pc' := 12) dX11_stage_0.1.2.1.2 rfl rfl ?_
    refine zW_iconst (pc' := 13) dX11_stage_0.1.2.2.1 rfl ?_
    refine csI2 (pc' := 16) kX11_isWithin vX11_isWithin lk_X11_116 ⟨Nat.le_of_ble_eq_true rfl, Nat.le_of_ble_eq_true rfl⟩ rfl (s_X11_isWithinR hF _ ⟨by omega, by omega⟩ _ ⟨by omega, by omega⟩) dX11_stage_0.1.2.2.2 (Nat.le_of_ble_eq_true rfl) rfl ?_
    rintro r13 z13 ⟨hz13, p13⟩; subst z13
    refine zV_if_ne (tgt := 21) (pc' := 19) dX11_stage_0.2.1.1.1 rfl rfl ⟨by omega, by omega⟩ (fun c16 => ?_) (fun c16 => ?_)
    · refine zW_iload_n (pc' := 22) dX11_stage_0.2.1.2.2 rfl rfl ?_
      refine zV_if_ne (tgt := 34) (pc' := 25) dX11_stage_0.2.2.1.1 rfl rfl ⟨by omega, by omega⟩ (fun c22 => ?_) (fun c22 => ?_)
      · refine zW_iload_n (pc' := 35) dX11_stage_1.1.1.2.1 rfl rfl ?_
        refine zW_iconst (pc' := 36) dX11_stage_1.1.1.2.2 rfl ?_
        refine zV_cm_ne (tgt := 48) (pc' := 39) dX11_stage_1.1.2.1.1 rfl rfl ⟨by omega, by omega⟩ ⟨by omega, by omega⟩ (fun c36 => ?_) (fun c36 => ?_)
        · refine zW_iload_n (pc' := 49) dX11_stage_1.2.1.2.1 rfl rfl ?_
          refine zW_aload_n (pc' := 50) dX11_stage_1.2.1.2.2 rfl rfl ?_
          refine zG_ref (pc' := 53) 41 fg_X11_33 tb30 rfl dX11_stage_1.2.2.1.1 rfl ?_
          refine zW_iload_n (pc' := 54) dX11_stage_1.2.2.1.2 rfl rfl ?_
          refine cvI1 (pc' := 57) kX7_numbersOf vX7_numbersOf lk_X11_183 ⟨Nat.le_of_ble_eq_true rfl, Nat.le_of_ble_eq_true rfl⟩ tb41 vq7 rfl rfl (s_X7_numbersOfQ hK hF _ ⟨by omega, by omega⟩) dX11_stage_1.2.2.2.1 (Nat.le_of_ble_eq_true rfl) rfl ?_
          rintro r54 z54 ⟨hz54, p54⟩; subst z54
          refine zV_cm_gt (tgt := 74) (pc' := 60) dX11_stage_1.2.2.2.2 rfl rfl ⟨by omega, by omega⟩ ⟨by omega, by omega⟩ (fun c57 => ?_) (fun c57 => ?_)
          · refine zW_bipush (pc' := 76) dX11_stage_2.2.2.1 rfl rfl ?_
            exact zV_iret rfl dX11_stage_2.2.2.2 ⟨rfl, by have kk := sc_k (k := x1) (by omega); have w := p54.2.2 (by omega); first | (rw [st_n (by omega) (by omega) (by show x2 ≤ κ 43 (x1.toNat + 1) - κ 43 ((x1 - 1).toNat + 1); rw [kk.1, kk.2]; omega)]; show _ = κ 44 (κ 43 ((x1 - 1).toNat + 1) + (x2 - 1)).toNat; rw [kk.1]; exact p68 (by omega) (by omega) (by omega)) | (rw [st_2 (by omega) (by omega) (by show ¬ x2 ≤ κ 43 (x1.toNat + 1) - κ 43 ((x1 - 1).toNat + 1); rw [kk.1, kk.2]; omega)])⟩
          · refine zW_aload_n (pc' := 61) dX11_stage_2.1.1.1.1 rfl rfl ?_
            refine zG_ref (pc' := 64) 41 fg_X11_33 tb30 rfl dX11_stage_2.1.1.1.2 rfl ?_
            refine zW_iload_n (pc' := 65) dX11_stage_2.1.1.2 rfl rfl ?_
            refine zW_iload_n (pc' := 66) dX11_stage_2.1.2.1 rfl rfl ?_
            refine zW_iconst (pc' := 67) dX11_stage_2.1.2.2 rfl ?_
            refine zW_isub (pc' := 68) dX11_stage_2.2.1.1.1 rfl ?_
            refine cvI2 (pc' := 71) kX7_numberOf vX7_numberOf lk_X11_186 ⟨Nat.le_of_ble_eq_true rfl, Nat.le_of_ble_eq_true rfl⟩ tb41 vq7 rfl rfl (s_X7_numberOfQ hK hF _ ⟨by omega, by omega⟩ _ ⟨by omega, by omega⟩) dX11_stage_2.2.1.1.2 (Nat.le_of_ble_eq_true rfl) rfl ?_
            rintro r68 z68 ⟨hz68, p68⟩; subst z68
            refine zV_goto 76 dX11_stage_2.2.1.2 rfl ?_
            exact zV_iret rfl dX11_stage_2.2.2.2 ⟨rfl, by have kk := sc_k (k := x1) (by omega); have w := p54.2.2 (by omega); first | (rw [st_n (by omega) (by omega) (by show x2 ≤ κ 43 (x1.toNat + 1) - κ 43 ((x1 - 1).toNat + 1); rw [kk.1, kk.2]; omega)]; show _ = κ 44 (κ 43 ((x1 - 1).toNat + 1) + (x2 - 1)).toNat; rw [kk.1]; exact p68 (by omega) (by omega) (by omega)) | (rw [st_2 (by omega) (by omega) (by show ¬ x2 ≤ κ 43 (x1.toNat + 1) - κ 43 ((x1 - 1).toNat + 1); rw [kk.1, kk.2]; omega)])⟩
        · refine zW_aload_n (pc' := 40) dX11_stage_1.1.2.1.2 rfl rfl ?_
          refine zG_ref (pc' := 43) 41 fg_X11_33 tb30 rfl dX11_stage_1.1.2.2.1 rfl ?_
          refine zW_iload_n (pc' := 44) dX11_stage_1.1.2.2.2 rfl rfl ?_
          refine cvI1 (pc' := 47) kX7_numbersOf vX7_numbersOf lk_X11_183 ⟨Nat.le_of_ble_eq_true rfl, Nat.le_of_ble_eq_true rfl⟩ tb41 vq7 rfl rfl (s_X7_numbersOfQ hK hF _ ⟨by omega, by omega⟩) dX11_stage_1.2.1.1.1 (Nat.le_of_ble_eq_true rfl) rfl ?_
          rintro r44 z44 ⟨hz44, p44⟩; subst z44
          exact zV_iret rfl dX11_stage_1.2.1.1.2 ⟨rfl, by have kk := sc_k (k := x1) (by omega); rw [st_4 (by omega) (by omega)]; show _ = κ 43 (x1.toNat + 1) - κ 43 ((x1 - 1).toNat + 1); rw [kk.1, kk.2]; exact p44.2.2 (by omega)⟩
      · refine zW_aload_n (pc' := 26) dX11_stage_0.2.2.1.2 rfl rfl ?_
        refine zG_ref (pc' := 29) 41 fg_X11_33 tb30 rfl dX11_stage_0.2.2.2.1 rfl ?_
        refine zW_iload_n (pc' := 30) dX11_stage_0.2.2.2.2 rfl rfl ?_
        refine cvI1 (pc' := 33) kX7_letterOf vX7_letterOf lk_X11_180 ⟨Nat.le_of_ble_eq_true rfl, Nat.le_of_ble_eq_true rfl⟩ tb41 vq7 rfl rfl (s_X7_letterOfQ hK hF _ ⟨by omega, by omega⟩) dX11_stage_1.1.1.1.1 (Nat.le_of_ble_eq_true rfl) rfl ?_
        rintro r30 z30 ⟨hz30, p30⟩; subst z30
        exact zV_iret rfl dX11_stage_1.1.1.1.2 ⟨rfl, by have kk := sc_k (k := x1) (by omega); rw [st_0 (by omega) (by omega)]; show _ = κ 42 ((x1 - 1).toNat + 1); rw [kk.1]; exact p30 (by omega)⟩
    · refine zW_iconst (pc' := 20) dX11_stage_0.2.1.1.2 rfl ?_
      exact zV_iret rfl dX11_stage_0.2.1.2.1 ⟨rfl, by exact (st_no (by omega)).symm⟩

abbrev q_X12_keepQ (κ : Hp) : Int → Hp → Prop := fun r h' => Fm [(0, 22), (0, 16), (0, 17), (0, 18), (0, 19), (0, 20), (6, 999), (7, 999), (8, 999), (9, 999), (11, 999)] κ h' ∧ ((r = κ 0 14 ∧ h' 0 22 = 1 ∧ h' 0 16 = κ 0 11 ∧ h' 0 17 = κ 0 12 ∧ h' 0 18 = κ 0 13 ∧ h' 0 20 = κ 0 15) ∧ h' 0 19 = κ 0 14 ∧ (∀ j : Nat, j < 12 → h' 7 j = κ 3 j) ∧ (∀ j : Nat, j < 13 → h' 8 j = κ 4 j) ∧ (∀ j : Nat, j < 130 → h' 9 j = κ 5 j))
set_option maxHeartbeats 4000000 in
set_option maxRecDepth 20000 in
theorem s_X12_keepQ {G : Ga} {κ : Hp} (hS : SI κ) (hR : KR κ) (hC : KC κ) : zM G mX12_keep yX12_keep [.inr (.inr 0)] κ (q_X12_keepQ κ) := by
  have f22 := KRk hR
  refine zM_of [some (.inr (.inr 0))] 0 rfl rfl (Nat.le_of_ble_eq_true rfl) rfl ?_
  refine zW_aload_n (pc' := 1) dX12_keep_0.1.1.1.1 rfl rfl ?_
  refine zW_iconst (pc' := 2) dX12_keep_0.1.1.1.2 rfl ?_
  refine zV_putz (pc' := 5) fp_X12_457 (by omega) tb0 rfl dX12_keep_0.1.1.2.1 rfl ?_
  have hS1 := SI_irr (k := 0) (i := 22) (v := 1) hS (Or.inl rfl) (fun _ _ => ⟨by omega, by omega⟩)
  generalize e1 : zwr κ 0 22 (1) = h1 at hS1 ⊢
  refine zW_aload_n (pc' := 6) dX12_keep_0.1.1.2.2 rfl rfl ?_
  refine zW_aload_n (pc' := 7) dX12_keep_0.1.2.1.1 rfl rfl ?_
  refine zG_int (pc' := 10) fg_X12_99 tb0 rfl dX12_keep_0.1.2.1.2 rfl ?_
  refine zV_puti (pc' := 13) fp_X12_460 tb0 rfl dX12_keep_0.1.2.2.1 rfl ?_
  have hS2 := SI_irr (k := 0) (i := 16) (v := h1 0 11) hS1 (Or.inl rfl) (fun _ _ => (hS1.2.2.2.2 _ _ (by decide) (by decide)))
  generalize e2 : zwr h1 0 16 (h1 0 11) = h2 at hS2 ⊢
  refine zW_aload_n (pc' := 14) dX12_keep_0.1.2.2.2 rfl rfl ?_
  refine zW_aload_n (pc' := 15) dX12_keep_0.2.1.1.1 rfl rfl ?_
  refine zG_int (pc' := 18) fg_X12_103 tb0 rfl dX12_keep_0.2.1.1.2 rfl ?_
  refine zV_puti (pc' := 21) fp_X12_463 tb0 rfl dX12_keep_0.2.1.2.1 rfl ?_
  have hS3 := SI_irr (k := 0) (i := 17) (v := h2 0 12) hS2 (Or.inl rfl) (fun _ _ => (hS2.2.2.2.2 _ _ (by decide) (by decide)))
  generalize e3 : zwr h2 0 17 (h2 0 12) = h3 at hS3 ⊢
  refine zW_aload_n (pc' := 22) dX12_keep_0.2.1.2.2 rfl rfl ?_
  refine zW_aload_n (pc' := 23) dX12_keep_0.2.2.1.1 rfl rfl ?_
  refine zG_int (pc' := 26) fg_X12_209 tb0 rfl dX12_keep_0.2.2.1.2 rfl ?_
  refine zV_puti (pc' := 29) fp_X12_466 tb0 rfl dX12_keep_0.2.2.2.1 rfl ?_
  have hS4 := SI_irr (k := 0) (i := 18) (v := h3 0 13) hS3 (Or.inl rfl) (fun _ _ => (hS3.2.2.2.2 _ _ (by decide) (by decide)))
  generalize e4 : zwr h3 0 18 (h3 0 13) = h4 at hS4 ⊢
  refine zW_aload_n (pc' := 30) dX12_keep_0.2.2.2.2 rfl rfl ?_
  refine zW_aload_n (pc' := 31) dX12_keep_1.1.1.1.1 rfl rfl ?_
  refine zG_int (pc' := 34) fg_X12_185 tb0 rfl dX12_keep_1.1.1.1.2 rfl ?_
  refine zV_puti (pc' := 37) fp_X12_469 tb0 rfl dX12_keep_1.1.1.2.1 rfl ?_
  have hS5 := SI_irr (k := 0) (i := 19) (v := h4 0 14) hS4 (Or.inl rfl) (fun _ _ => (hS4.2.2.2.2 _ _ (by decide) (by decide)))
  generalize e5 : zwr h4 0 19 (h4 0 14) = h5 at hS5 ⊢
  refine zW_aload_n (pc' := 38) dX12_keep_1.1.1.2.2 rfl rfl ?_
  refine zW_aload_n (pc' := 39) dX12_keep_1.1.2.1.1 rfl rfl ?_
  refine zG_int (pc' := 42) fg_X12_106 tb0 rfl dX12_keep_1.1.2.1.2 rfl ?_
  refine zV_puti (pc' := 45) fp_X12_472 tb0 rfl dX12_keep_1.1.2.2.1 rfl ?_
  have hS6 := SI_irr (k := 0) (i := 20) (v := h5 0 15) hS5 (Or.inl rfl) (fun _ _ => (hS5.2.2.2.2 _ _ (by decide) (by decide)))
  generalize e6 : zwr h5 0 20 (h5 0 15) = h6 at hS6 ⊢
  refine zW_aload_n (pc' := 46) dX12_keep_1.1.2.2.2 rfl rfl ?_
  refine zG_ref (pc' := 49) 1 fg_X12_7 tb0 rfl dX12_keep_1.2.1.1.1 rfl ?_
  refine zW_aload_n (pc' := 50) dX12_keep_1.2.1.1.2 rfl rfl ?_
  refine zG_ref (pc' := 53) 6 fg_X12_25 tb0 rfl dX12_keep_1.2.1.2.1 rfl ?_
  refine csV2 (pc' := 56) kX12_copies vX12_copies lk_X12_188 ⟨Nat.le_of_ble_eq_true rfl, Nat.le_of_ble_eq_true rfl⟩ rfl (s_X12_copies tb1 tb6 (by decide) (by decide)) dX12_keep_1.2.1.2.2 (Nat.le_of_ble_eq_true rfl) rfl ?_
  rintro _ h7 e7; replace e7 := e7.symm
  have hS7 : SI h7 := by rw [← e7]; exact SI_cpy hS6 rfl (by decide)
  refine zW_aload_n (pc' := 57) dX12_keep_1.2.2.1.1 rfl rfl ?_
  refine zG_ref (pc' := 60) 10 fg_X12_37 tb0 rfl dX12_keep_1.2.2.1.2 rfl ?_
  refine zW_aload_n (pc' := 61) dX12_keep_1.2.2.2.1 rfl rfl ?_
  refine zG_ref (pc' := 64) 11 fg_X12_41 tb0 rfl dX12_keep_1.2.2.2.2 rfl ?_
  have hb : ∀ i, h7 10 i = 0 ∨ h7 10 i = 1 := fun i => by have q := KRd hR i; rw [← e7, cpy_ne (by decide), ← e6, zwr_ne (Or.inl (by decide)), ← e5, zwr_ne (Or.inl (by decide)), ← e4, zwr_ne (Or.inl (by decide)), ← e3, zwr_ne (Or.inl (by decide)), ← e2, zwr_ne (Or.inl (by decide)), ← e1, zwr_ne (Or.inl (by decide))]; omega
  refine csV2 (pc' := 67) kX12_copiesMarks vX12_copiesMarks lk_X12_475 ⟨Nat.le_of_ble_eq_true rfl, Nat.le_of_ble_eq_true rfl⟩ rfl (s_X12_copiesMarks tb10 tb11 (by decide) (by decide) hb) dX12_keep_2.1.1.1.1 (Nat.le_of_ble_eq_true rfl) rfl ?_
  rintro _ h8 e8; replace e8 := e8.symm
  have hS8 : SI h8 := by rw [← e8]; exact SI_cpy hS7 rfl (by decide)
  refine zW_aload_n (pc' := 68) dX12_keep_2.1.1.1.2 rfl rfl ?_
  refine zG_ref (pc' := 71) 3 fg_X12_16 tb0 rfl dX12_keep_2.1.1.2.1 rfl ?_
  refine zW_aload_n (pc' := 72) dX12_keep_2.1.1.2.2 rfl rfl ?_
  refine zG_ref (pc' := 75) 7 fg_X12_28 tb0 rfl dX12_keep_2.1.2.1.1 rfl ?_
  refine csV2 (pc' := 78) kX12_copies vX12_copies lk_X12_188 ⟨Nat.le_of_ble_eq_true rfl, Nat.le_of_ble_eq_true rfl⟩ rfl (s_X12_copies tb3 tb7 (by decide) (by decide)) dX12_keep_2.1.2.1.2 (Nat.le_of_ble_eq_true rfl) rfl ?_
  rintro _ h9 e9; replace e9 := e9.symm
  have hS9 : SI h9 := by rw [← e9]; exact SI_cpy hS8 rfl (by decide)
  refine zW_aload_n (pc' := 79) dX12_keep_2.1.2.2.1 rfl rfl ?_
  refine zG_ref (pc' := 82) 4 fg_X12_19 tb0 rfl dX12_keep_2.1.2.2.2 rfl ?_
  refine zW_aload_n (pc' := 83) dX12_keep_2.2.1.1.1 rfl rfl ?_
  refine zG_ref (pc' := 86) 8 fg_X12_31 tb0 rfl dX12_keep_2.2.1.1.2 rfl ?_
  refine csV2 (pc' := 89) kX12_copies vX12_copies lk_X12_188 ⟨Nat.le_of_ble_eq_true rfl, Nat.le_of_ble_eq_true rfl⟩ rfl (s_X12_copies tb4 tb8 (by decide) (by decide)) dX12_keep_2.2.1.2.1 (Nat.le_of_ble_eq_true rfl) rfl ?_
  rintro _ h10 e10; replace e10 := e10.symm
  have hS10 : SI h10 := by rw [← e10]; exact SI_cpy hS9 rfl (by decide)
  refine zW_aload_n (pc' := 90) dX12_keep_2.2.1.2.2 rfl rfl ?_
  refine zG_ref (pc' := 93) 5 fg_X12_22 tb0 rfl dX12_keep_2.2.2.1.1 rfl ?_
  refine zW_aload_n (pc' := 94) dX12_keep_2.2.2.1.2 rfl rfl ?_
  refine zG_ref (pc' := 97) 9 fg_X12_34 tb0 rfl dX12_keep_2.2.2.2.1 rfl ?_
  refine csV2 (pc' := 100) kX12_copies vX12_copies lk_X12_188 ⟨Nat.le_of_ble_eq_true rfl, Nat.le_of_ble_eq_true rfl⟩ rfl (s_X12_copies tb5 tb9 (by decide) (by decide)) dX12_keep_2.2.2.2.2 (Nat.le_of_ble_eq_true rfl) rfl ?_
  rintro _ h11 e11; replace e11 := e11.symm
  have hS11 : SI h11 := by rw [← e11]; exact SI_cpy hS10 rfl (by decide)
  refine zW_aload_n (pc' := 101) dX12_keep_3.1.1 rfl rfl ?_
  refine zG_int (pc' := 104) fg_X12_185 tb0 rfl dX12_keep_3.1.2 rfl ?_
  have fr : ∀ k i, inW [(0, 22), (0, 16), (0, 17), (0, 18), (0, 19), (0, 20), (6, 999), (7, 999), (8, 999), (9, 999), (11, 999)] k i = false → h11 k i = κ k i := fun k i hl => by rw [← e11, cpy_ne (inW_nc (L := [(0, 22), (0, 16), (0, 17), (0, 18), (0, 19), (0, 20), (6, 999), (7, 999), (8, 999), (9, 999), (11, 999)]) (c := 9) rfl hl), ← e10, cpy_ne (inW_nc (L := [(0, 22), (0, 16), (0, 17), (0, 18), (0, 19), (0, 20), (6, 999), (7, 999), (8, 999), (9, 999), (11, 999)]) (c := 8) rfl hl), ← e9, cpy_ne (inW_nc (L := [(0, 22), (0, 16), (0, 17), (0, 18), (0, 19), (0, 20), (6, 999), (7, 999), (8, 999), (9, 999), (11, 999)]) (c := 7) rfl hl), ← e8, cpy_ne (inW_nc (L := [(0, 22), (0, 16), (0, 17), (0, 18), (0, 19), (0, 20), (6, 999), (7, 999), (8, 999), (9, 999), (11, 999)]) (c := 11) rfl hl), ← e7, cpy_ne (inW_nc (L := [(0, 22), (0, 16), (0, 17), (0, 18), (0, 19), (0, 20), (6, 999), (7, 999), (8, 999), (9, 999), (11, 999)]) (c := 6) rfl hl), ← e6, zwr_ne (inW_ne (L := [(0, 22), (0, 16), (0, 17), (0, 18), (0, 19), (0, 20), (6, 999), (7, 999), (8, 999), (9, 999), (11, 999)]) (k := 0) (i := 20) rfl hl), ← e5, zwr_ne (inW_ne (L := [(0, 22), (0, 16), (0, 17), (0, 18), (0, 19), (0, 20), (6, 999), (7, 999), (8, 999), (9, 999), (11, 999)]) (k := 0) (i := 19) rfl hl), ← e4, zwr_ne (inW_ne (L := [(0, 22), (0, 16), (0, 17), (0, 18), (0, 19), (0, 20), (6, 999), (7, 999), (8, 999), (9, 999), (11, 999)]) (k := 0) (i := 18) rfl hl), ← e3, zwr_ne (inW_ne (L := [(0, 22), (0, 16), (0, 17), (0, 18), (0, 19), (0, 20), (6, 999), (7, 999), (8, 999), (9, 999), (11, 999)]) (k := 0) (i := 17) rfl hl), ← e2, zwr_ne (inW_ne (L := [(0, 22), (0, 16), (0, 17), (0, 18), (0, 19), (0, 20), (6, 999), (7, 999), (8, 999), (9, 999), (11, 999)]) (k := 0) (i := 16) rfl hl), ← e1, zwr_ne (inW_ne (L := [(0, 22), (0, 16), (0, 17), (0, 18), (0, 19), (0, 20), (6, 999), (7, 999), (8, 999), (9, 999), (11, 999)]) (k := 0) (i := 22) rfl hl)]
  have hCf : KC h11 := KC_low hC (fun k i hk => fr k i (by unfold inW; simp [List.any_cons]; omega))
  have g11 : h11 0 11 = κ 0 11 := by rw [← e11, cpy_ne (by decide), ← e10, cpy_ne (by decide), ← e9, cpy_ne (by decide), ← e8, cpy_ne (by decide), ← e7, cpy_ne (by decide), ← e6, zwr_ne (Or.inr (by decide)), ← e5, zwr_ne (Or.inr (by decide)), ← e4, zwr_ne (Or.inr (by decide)), ← e3, zwr_ne (Or.inr (by decide)), ← e2, zwr_ne (Or.inr (by decide)), ← e1, zwr_ne (Or.inr (by decide))]
  have g12 : h11 0 12 = κ 0 12 := by rw [← e11, cpy_ne (by decide), ← e10, cpy_ne (by decide), ← e9, cpy_ne (by decide), ← e8, cpy_ne (by decide), ← e7, cpy_ne (by decide), ← e6, zwr_ne (Or.inr (by decide)), ← e5, zwr_ne (Or.inr (by decide)), ← e4, zwr_ne (Or.inr (by decide)), ← e3, zwr_ne (Or.inr (by decide)), ← e2, zwr_ne (Or.inr (by decide)), ← e1, zwr_ne (Or.inr (by decide))]
  have g13 : h11 0 13 = κ 0 13 := by rw [← e11, cpy_ne (by decide), ← e10, cpy_ne (by decide), ← e9, cpy_ne (by decide), ← e8, cpy_ne (by decide), ← e7, cpy_ne (by decide), ← e6, zwr_ne (Or.inr (by decide)), ← e5, zwr_ne (Or.inr (by decide)), ← e4, zwr_ne (Or.inr (by decide)), ← e3, zwr_ne (Or.inr (by decide)), ← e2, zwr_ne (Or.inr (by decide)), ← e1, zwr_ne (Or.inr (by decide))]
  have g14 : h11 0 14 = κ 0 14 := by rw [← e11, cpy_ne (by decide), ← e10, cpy_ne (by decide), ← e9, cpy_ne (by decide), ← e8, cpy_ne (by decide), ← e7, cpy_ne (by decide), ← e6, zwr_ne (Or.inr (by decide)), ← e5, zwr_ne (Or.inr (by decide)), ← e4, zwr_ne (Or.inr (by decide)), ← e3, zwr_ne (Or.inr (by decide)), ← e2, zwr_ne (Or.inr (by decide)), ← e1, zwr_ne (Or.inr (by decide))]
  have g15 : h11 0 15 = κ 0 15 := by rw [← e11, cpy_ne (by decide), ← e10, cpy_ne (by decide), ← e9, cpy_ne (by decide), ← e8, cpy_ne (by decide), ← e7, cpy_ne (by decide), ← e6, zwr_ne (Or.inr (by decide)), ← e5, zwr_ne (Or.inr (by decide)), ← e4, zwr_ne (Or.inr (by decide)), ← e3, zwr_ne (Or.inr (by decide)), ← e2, zwr_ne (Or.inr (by decide)), ← e1, zwr_ne (Or.inr (by decide))]
  have g16 : h11 0 16 = κ 0 11 := by rw [← e11, cpy_ne (by decide), ← e10, cpy_ne (by decide), ← e9, cpy_ne (by decide), ← e8, cpy_ne (by decide), ← e7, cpy_ne (by decide), ← e6, zwr_ne (Or.inr (by decide)), ← e5, zwr_ne (Or.inr (by decide)), ← e4, zwr_ne (Or.inr (by decide)), ← e3, zwr_ne (Or.inr (by decide)), ← e2, zwr_eq, ← e1, zwr_ne (Or.inr (by decide))]
  have g17 : h11 0 17 = κ 0 12 := by rw [← e11, cpy_ne (by decide), ← e10, cpy_ne (by decide), ← e9, cpy_ne (by decide), ← e8, cpy_ne (by decide), ← e7, cpy_ne (by decide), ← e6, zwr_ne (Or.inr (by decide)), ← e5, zwr_ne (Or.inr (by decide)), ← e4, zwr_ne (Or.inr (by decide)), ← e3, zwr_eq, ← e2, zwr_ne (Or.inr (by decide)), ← e1, zwr_ne (Or.inr (by decide))]
  have g18 : h11 0 18 = κ 0 13 := by rw [← e11, cpy_ne (by decide), ← e10, cpy_ne (by decide), ← e9, cpy_ne (by decide), ← e8, cpy_ne (by decide), ← e7, cpy_ne (by decide), ← e6, zwr_ne (Or.inr (by decide)), ← e5, zwr_ne (Or.inr (by decide)), ← e4, zwr_eq, ← e3, zwr_ne (Or.inr (by decide)), ← e2, zwr_ne (Or.inr (by decide)), ← e1, zwr_ne (Or.inr (by decide))]
  have g19 : h11 0 19 = κ 0 14 := by rw [← e11, cpy_ne (by decide), ← e10, cpy_ne (by decide), ← e9, cpy_ne (by decide), ← e8, cpy_ne (by decide), ← e7, cpy_ne (by decide), ← e6, zwr_ne (Or.inr (by decide)), ← e5, zwr_eq, ← e4, zwr_ne (Or.inr (by decide)), ← e3, zwr_ne (Or.inr (by decide)), ← e2, zwr_ne (Or.inr (by decide)), ← e1, zwr_ne (Or.inr (by decide))]
  have g20 : h11 0 20 = κ 0 15 := by rw [← e11, cpy_ne (by decide), ← e10, cpy_ne (by decide), ← e9, cpy_ne (by decide), ← e8, cpy_ne (by decide), ← e7, cpy_ne (by decide), ← e6, zwr_eq, ← e5, zwr_ne (Or.inr (by decide)), ← e4, zwr_ne (Or.inr (by decide)), ← e3, zwr_ne (Or.inr (by decide)), ← e2, zwr_ne (Or.inr (by decide)), ← e1, zwr_ne (Or.inr (by decide))]
  have g21 : h11 0 21 = κ 0 21 := by rw [← e11, cpy_ne (by decide), ← e10, cpy_ne (by decide), ← e9, cpy_ne (by decide), ← e8, cpy_ne (by decide), ← e7, cpy_ne (by decide), ← e6, zwr_ne (Or.inr (by decide)), ← e5, zwr_ne (Or.inr (by decide)), ← e4, zwr_ne (Or.inr (by decide)), ← e3, zwr_ne (Or.inr (by decide)), ← e2, zwr_ne (Or.inr (by decide)), ← e1, zwr_ne (Or.inr (by decide))]
  have g22 : h11 0 22 = 1 := by rw [← e11, cpy_ne (by decide), ← e10, cpy_ne (by decide), ← e9, cpy_ne (by decide), ← e8, cpy_ne (by decide), ← e7, cpy_ne (by decide), ← e6, zwr_ne (Or.inr (by decide)), ← e5, zwr_ne (Or.inr (by decide)), ← e4, zwr_ne (Or.inr (by decide)), ← e3, zwr_ne (Or.inr (by decide)), ← e2, zwr_ne (Or.inr (by decide)), ← e1, zwr_eq]
  have g25 : h11 0 25 = κ 0 25 := by rw [← e11, cpy_ne (by decide), ← e10, cpy_ne (by decide), ← e9, cpy_ne (by decide), ← e8, cpy_ne (by decide), ← e7, cpy_ne (by decide), ← e6, zwr_ne (Or.inr (by decide)), ← e5, zwr_ne (Or.inr (by decide)), ← e4, zwr_ne (Or.inr (by decide)), ← e3, zwr_ne (Or.inr (by decide)), ← e2, zwr_ne (Or.inr (by decide)), ← e1, zwr_ne (Or.inr (by decide))]
  have c3 : h11 3 = κ 3 := funext fun j => by rw [← e11, cpy_ne (by decide), ← e10, cpy_ne (by decide), ← e9, cpy_ne (by decide), ← e8, cpy_ne (by decide), ← e7, cpy_ne (by decide), ← e6, zwr_ne (Or.inl (by decide)), ← e5, zwr_ne (Or.inl (by decide)), ← e4, zwr_ne (Or.inl (by decide)), ← e3, zwr_ne (Or.inl (by decide)), ← e2, zwr_ne (Or.inl (by decide)), ← e1, zwr_ne (Or.inl (by decide))]
  have c4 : h11 4 = κ 4 := funext fun j => by rw [← e11, cpy_ne (by decide), ← e10, cpy_ne (by decide), ← e9, cpy_ne (by decide), ← e8, cpy_ne (by decide), ← e7, cpy_ne (by decide), ← e6, zwr_ne (Or.inl (by decide)), ← e5, zwr_ne (Or.inl (by decide)), ← e4, zwr_ne (Or.inl (by decide)), ← e3, zwr_ne (Or.inl (by decide)), ← e2, zwr_ne (Or.inl (by decide)), ← e1, zwr_ne (Or.inl (by decide))]
  have c5 : h11 5 = κ 5 := funext fun j => by rw [← e11, cpy_ne (by decide), ← e10, cpy_ne (by decide), ← e9, cpy_ne (by decide), ← e8, cpy_ne (by decide), ← e7, cpy_ne (by decide), ← e6, zwr_ne (Or.inl (by decide)), ← e5, zwr_ne (Or.inl (by decide)), ← e4, zwr_ne (Or.inl (by decide)), ← e3, zwr_ne (Or.inl (by decide)), ← e2, zwr_ne (Or.inl (by decide)), ← e1, zwr_ne (Or.inl (by decide))]
  have c7 : ∀ j, j < 12 → h11 7 j = κ 3 j := fun j hj => by rw [← e11, cpy_ne (by decide), ← e10, cpy_ne (by decide), ← e9, cpy_in hj, ← e8, cpy_ne (by decide), ← e7, cpy_ne (by decide), ← e6, zwr_ne (Or.inl (by decide)), ← e5, zwr_ne (Or.inl (by decide)), ← e4, zwr_ne (Or.inl (by decide)), ← e3, zwr_ne (Or.inl (by decide)), ← e2, zwr_ne (Or.inl (by decide)), ← e1, zwr_ne (Or.inl (by decide))]
  have o7 : ∀ j, 12 ≤ j → h11 7 j = κ 7 j := fun j hj => by rw [← e11, cpy_ne (by decide), ← e10, cpy_ne (by decide), ← e9, cpy_out hj, ← e8, cpy_ne (by decide), ← e7, cpy_ne (by decide), ← e6, zwr_ne (Or.inl (by decide)), ← e5, zwr_ne (Or.inl (by decide)), ← e4, zwr_ne (Or.inl (by decide)), ← e3, zwr_ne (Or.inl (by decide)), ← e2, zwr_ne (Or.inl (by decide)), ← e1, zwr_ne (Or.inl (by decide))]
  have c8 : ∀ j, j < 13 → h11 8 j = κ 4 j := fun j hj => by rw [← e11, cpy_ne (by decide), ← e10, cpy_in hj, ← e9, cpy_ne (by decide), ← e8, cpy_ne (by decide), ← e7, cpy_ne (by decide), ← e6, zwr_ne (Or.inl (by decide)), ← e5, zwr_ne (Or.inl (by decide)), ← e4, zwr_ne (Or.inl (by decide)), ← e3, zwr_ne (Or.inl (by decide)), ← e2, zwr_ne (Or.inl (by decide)), ← e1, zwr_ne (Or.inl (by decide))]
  have o8 : ∀ j, 13 ≤ j → h11 8 j = κ 8 j := fun j hj => by rw [← e11, cpy_ne (by decide), ← e10, cpy_out hj, ← e9, cpy_ne (by decide), ← e8, cpy_ne (by decide), ← e7, cpy_ne (by decide), ← e6, zwr_ne (Or.inl (by decide)), ← e5, zwr_ne (Or.inl (by decide)), ← e4, zwr_ne (Or.inl (by decide)), ← e3, zwr_ne (Or.inl (by decide)), ← e2, zwr_ne (Or.inl (by decide)), ← e1, zwr_ne (Or.inl (by decide))]
  have c9 : ∀ j, j < 130 → h11 9 j = κ 5 j := fun j hj => by rw [← e11, cpy_in hj, ← e10, cpy_ne (by decide), ← e9, cpy_ne (by decide), ← e8, cpy_ne (by decide), ← e7, cpy_ne (by decide), ← e6, zwr_ne (Or.inl (by decide)), ← e5, zwr_ne (Or.inl (by decide)), ← e4, zwr_ne (Or.inl (by decide)), ← e3, zwr_ne (Or.inl (by decide)), ← e2, zwr_ne (Or.inl (by decide)), ← e1, zwr_ne (Or.inl (by decide))]
  have o9 : ∀ j, 130 ≤ j → h11 9 j = κ 9 j := fun j hj => by rw [← e11, cpy_out hj, ← e10, cpy_ne (by decide), ← e9, cpy_ne (by decide), ← e8, cpy_ne (by decide), ← e7, cpy_ne (by decide), ← e6, zwr_ne (Or.inl (by decide)), ← e5, zwr_ne (Or.inl (by decide)), ← e4, zwr_ne (Or.inl (by decide)), ← e3, zwr_ne (Or.inl (by decide)), ← e2, zwr_ne (Or.inl (by decide)), ← e1, zwr_ne (Or.inl (by decide))]
  have c10 : h11 10 = κ 10 := funext fun j => by rw [← e11, cpy_ne (by decide), ← e10, cpy_ne (by decide), ← e9, cpy_ne (by decide), ← e8, cpy_ne (by decide), ← e7, cpy_ne (by decide), ← e6, zwr_ne (Or.inl (by decide)), ← e5, zwr_ne (Or.inl (by decide)), ← e4, zwr_ne (Or.inl (by decide)), ← e3, zwr_ne (Or.inl (by decide)), ← e2, zwr_ne (Or.inl (by decide)), ← e1, zwr_ne (Or.inl (by decide))]
  have c11 : ∀ j, j < 256 → h11 11 j = κ 10 j := fun j hj => by rw [← e11, cpy_ne (by decide), ← e10, cpy_ne (by decide), ← e9, cpy_ne (by decide), ← e8, cpy_in hj, ← e7, cpy_ne (by decide), ← e6, zwr_ne (Or.inl (by decide)), ← e5, zwr_ne (Or.inl (by decide)), ← e4, zwr_ne (Or.inl (by decide)), ← e3, zwr_ne (Or.inl (by decide)), ← e2, zwr_ne (Or.inl (by decide)), ← e1, zwr_ne (Or.inl (by decide))]
  have o11 : ∀ j, 256 ≤ j → h11 11 j = κ 11 j := fun j hj => by rw [← e11, cpy_ne (by decide), ← e10, cpy_ne (by decide), ← e9, cpy_ne (by decide), ← e8, cpy_out hj, ← e7, cpy_ne (by decide), ← e6, zwr_ne (Or.inl (by decide)), ← e5, zwr_ne (Or.inl (by decide)), ← e4, zwr_ne (Or.inl (by decide)), ← e3, zwr_ne (Or.inl (by decide)), ← e2, zwr_ne (Or.inl (by decide)), ← e1, zwr_ne (Or.inl (by decide))]
  have c14 : h11 14 = κ 14 := funext fun j => by rw [← e11, cpy_ne (by decide), ← e10, cpy_ne (by decide), ← e9, cpy_ne (by decide), ← e8, cpy_ne (by decide), ← e7, cpy_ne (by decide), ← e6, zwr_ne (Or.inl (by decide)), ← e5, zwr_ne (Or.inl (by decide)), ← e4, zwr_ne (Or.inl (by decide)), ← e3, zwr_ne (Or.inl (by decide)), ← e2, zwr_ne (Or.inl (by decide)), ← e1, zwr_ne (Or.inl (by decide))]
  have c15 : h11 15 = κ 15 := funext fun j => by rw [← e11, cpy_ne (by decide), ← e10, cpy_ne (by decide), ← e9, cpy_ne (by decide), ← e8, cpy_ne (by decide), ← e7, cpy_ne (by decide), ← e6, zwr_ne (Or.inl (by decide)), ← e5, zwr_ne (Or.inl (by decide)), ← e4, zwr_ne (Or.inl (by decide)), ← e3, zwr_ne (Or.inl (by decide)), ← e2, zwr_ne (Or.inl (by decide)), ← e1, zwr_ne (Or.inl (by decide))]
  obtain ⟨a0, a1, a2, a3, a4, a5, a6, a7, a8, a9, a10, a11, a12, a13, a14, a15, a16, a17⟩ := hR
  have hRf : KR h11 := by
    unfold KR
    rw [g11, g12, g13, g14, g15, g16, g17, g18, g19, g20, g21, g22, g25, c3, c4, c5, c10, c14, c15]
    refine ⟨a0, a1, a2, a3, a4, a5, a6, a7, a8, ⟨by omega, by omega⟩, fun _ => ⟨a0, a1, a2, a3, a4, (bd2 c8 o8 a6 a16), ?_, (bd2 c9 o9 a11 a17)⟩, a11, a12, (bd2 c11 o11 a12 a13), a14, a15, (bd2 c8 o8 a6 a16), (bd2 c9 o9 a11 a17)⟩
    exact a7.cong3 a3.2 c7 c8 c9
  have hFf : Fm [(0, 22), (0, 16), (0, 17), (0, 18), (0, 19), (0, 20), (6, 999), (7, 999), (8, 999), (9, 999), (11, 999)] κ h11 := ⟨fun k i _ hl => fr k i hl, hS11, hRf, hCf⟩
  exact zV_iret rfl dX12_keep_3.2 ⟨hFf, ⟨by omega, g22, g16, g17, g18, g20⟩, g19, c7, c8, c9⟩

abbrev q_X12_undoQ (κ : Hp) : Int → Hp → Prop := fun r h' => Fm [(0, 11), (0, 12), (0, 13), (0, 14), (0, 15), (1, 999), (3, 999), (4, 999), (5, 999), (10, 999), (0, 21)] κ h' ∧ (((κ 0 22 = 0 ∧ r = 0 ∧ h' 0 11 = κ 0 11 ∧ h' 0 12 = κ 0 12 ∧ h' 0 13 = κ 0 13 ∧ h' 0 15 = κ 0 15) ∨ (κ 0 22 = 1 ∧ r = 1 ∧ h' 0 11 = κ 0 16 ∧ h' 0 12 = κ 0 17 ∧ h' 0 13 = κ 0 18 ∧ h' 0 15 = κ 0 20)) ∧ ((r = 0 → h' 0 14 = κ 0 14) ∧ (r = 1 → h' 0 14 = κ 0 19)) ∧ (∀ j : Nat, (r = 1 → j < 12 → h' 3 j = κ 7 j) ∧ (r = 0 → h' 3 j = κ 3 j)) ∧ (∀ j : Nat, (r = 1 → j < 13 → h' 4 j = κ 8 j) ∧ (r = 0 → h' 4 j = κ 4 j)) ∧ (∀ j : Nat, (r = 1 → j < 130 → h' 5 j = κ 9 j) ∧ (r = 0 → h' 5 j = κ 5 j)))
set_option maxHeartbeats 4000000 in
set_option maxRecDepth 20000 in
theorem s_X12_undoQ {G : Ga} {κ : Hp} (hS : SI κ) (hR : KR κ) (hC : KC κ) : zM G mX12_undo yX12_undo [.inr (.inr 0)] κ (q_X12_undoQ κ) := by
  have f22 := KRk hR
  refine zM_of [some (.inr (.inr 0))] 0 rfl rfl (Nat.le_of_ble_eq_true rfl) rfl ?_
  refine zW_aload_n (pc' := 1) dX12_undo_0.1.1.1.1 rfl rfl ?_
  refine zG_int (pc' := 4) fg_X12_457 tb0 rfl dX12_undo_0.1.1.1.2 rfl ?_
  refine zV_if_ne (tgt := 9) (pc' := 7) dX12_undo_0.1.1.2.1 rfl rfl ⟨by omega, by omega⟩ (fun c => ?_) (fun c => ?_)
  rotate_left
  · refine zW_iconst (pc' := 8) dX12_undo_0.1.1.2.2 rfl ?_
    exact zV_zret rfl (by omega) dX12_undo_0.1.2.1.1 ⟨Fm.rf hS hR hC, ⟨Or.inl ⟨by omega, rfl, rfl, rfl, rfl, rfl⟩, ⟨fun _ => rfl, fun q => by omega⟩, fun j => ⟨fun q => by omega, fun _ => rfl⟩, fun j => ⟨fun q => by omega, fun _ => rfl⟩, fun j => ⟨fun q => by omega, fun _ => rfl⟩⟩⟩
  have hk1 : κ 0 22 = 1 := by omega
  obtain ⟨a0, a1, a2, a3, a4, a5, a6, a7, a8, a9, a10, a11, a12, a13, a14, a15, a16, a17⟩ := hR
  have hR : KR κ := ⟨a0, a1, a2, a3, a4, a5, a6, a7, a8, a9, a10, a11, a12, a13, a14, a15, a16, a17⟩
  obtain ⟨k1, k2, k3, k4, k5, k6, k7, k8⟩ := a10 hk1
  refine zW_aload_n (pc' := 10) dX12_undo_0.1.2.1.2 rfl rfl ?_
  refine zW_aload_n (pc' := 11) dX12_undo_0.1.2.2.1 rfl rfl ?_
  refine zG_int (pc' := 14) fg_X12_460 tb0 rfl dX12_undo_0.1.2.2.2 rfl ?_
  refine zV_puti (pc' := 17) fp_X12_99 tb0 rfl dX12_undo_0.2.1.1.1 rfl ?_
  have hS1 := SI_irr (k := 0) (i := 11) (v := κ 0 16) hS (Or.inl rfl) (fun _ _ => (hS.2.2.2.2 _ _ (by decide) (by decide)))
  generalize e1 : zwr κ 0 11 (κ 0 16) = h1 at hS1 ⊢
  refine zW_aload_n (pc' := 18) dX12_undo_0.2.1.1.2 rfl rfl ?_
  refine zW_aload_n (pc' := 19) dX12_undo_0.2.1.2.1 rfl rfl ?_
  refine zG_int (pc' := 22) fg_X12_463 tb0 rfl dX12_undo_0.2.1.2.2 rfl ?_
  refine zV_puti (pc' := 25) fp_X12_103 tb0 rfl dX12_undo_0.2.2.1.1 rfl ?_
  have hS2 := SI_irr (k := 0) (i := 12) (v := h1 0 17) hS1 (Or.inl rfl) (fun _ _ => (hS1.2.2.2.2 _ _ (by decide) (by decide)))
  generalize e2 : zwr h1 0 12 (h1 0 17) = h2 at hS2 ⊢
  refine zW_aload_n (pc' := 26) dX12_undo_0.2.2.1.2 rfl rfl ?_
  refine zW_aload_n (pc' := 27) dX12_undo_0.2.2.2.1 rfl rfl ?_
  refine zG_int (pc' := 30) fg_X12_466 tb0 rfl dX12_undo_0.2.2.2.2 rfl ?_
  refine zV_puti (pc' := 33) fp_X12_209 tb0 rfl dX12_undo_1.1.1.1.1 rfl ?_
  have hS3 := SI_irr (k := 0) (i := 13) (v := h2 0 18) hS2 (Or.inl rfl) (fun _ _ => (hS2.2.2.2.2 _ _ (by decide) (by decide)))
  generalize e3 : zwr h2 0 13 (h2 0 18) = h3 at hS3 ⊢
  refine zW_aload_n (pc' := 34) dX12_undo_1.1.1.1.2 rfl rfl ?_
  refine zW_aload_n (pc' := 35) dX12_undo_1.1.1.2.1 rfl rfl ?_
  refine zG_int (pc' := 38) fg_X12_469 tb0 rfl dX12_undo_1.1.1.2.2 rfl ?_
  refine zV_puti (pc' := 41) fp_X12_185 tb0 rfl dX12_undo_1.1.2.1.1 rfl ?_
  have hS4 := SI_irr (k := 0) (i := 14) (v := h3 0 19) hS3 (Or.inl rfl) (fun _ _ => (hS3.2.2.2.2 _ _ (by decide) (by decide)))
  generalize e4 : zwr h3 0 14 (h3 0 19) = h4 at hS4 ⊢
  refine zW_aload_n (pc' := 42) dX12_undo_1.1.2.1.2 rfl rfl ?_
  refine zW_aload_n (pc' := 43) dX12_undo_1.1.2.2.1 rfl rfl ?_
  refine zG_int (pc' := 46) fg_X12_472 tb0 rfl dX12_undo_1.1.2.2.2 rfl ?_
  refine zV_puti (pc' := 49) fp_X12_106 tb0 rfl dX12_undo_1.2.1.1.1 rfl ?_
  have hS5 := SI_irr (k := 0) (i := 15) (v := h4 0 20) hS4 (Or.inl rfl) (fun _ _ => (hS4.2.2.2.2 _ _ (by decide) (by decide)))
  generalize e5 : zwr h4 0 15 (h4 0 20) = h5 at hS5 ⊢
  refine zW_aload_n (pc' := 50) dX12_undo_1.2.1.1.2 rfl rfl ?_
  refine zG_ref (pc' := 53) 6 fg_X12_25 tb0 rfl dX12_undo_1.2.1.2.1 rfl ?_
  refine zW_aload_n (pc' := 54) dX12_undo_1.2.1.2.2 rfl rfl ?_
  refine zG_ref (pc' := 57) 1 fg_X12_7 tb0 rfl dX12_undo_1.2.2.1.1 rfl ?_
  refine csV2 (pc' := 60) kX12_copies vX12_copies lk_X12_188 ⟨Nat.le_of_ble_eq_true rfl, Nat.le_of_ble_eq_true rfl⟩ rfl (s_X12_copies tb6 tb1 (by decide) (by decide)) dX12_undo_1.2.2.1.2 (Nat.le_of_ble_eq_true rfl) rfl ?_
  rintro _ h6 e6; replace e6 := e6.symm
  have hS6 : SI h6 := by rw [← e6]; exact SI_cpy hS5 rfl (by decide)
  refine zW_aload_n (pc' := 61) dX12_undo_1.2.2.2.1 rfl rfl ?_
  refine zG_ref (pc' := 64) 11 fg_X12_41 tb0 rfl dX12_undo_1.2.2.2.2 rfl ?_
  refine zW_aload_n (pc' := 65) dX12_undo_2.1.1.1.1 rfl rfl ?_
  refine zG_ref (pc' := 68) 10 fg_X12_37 tb0 rfl dX12_undo_2.1.1.1.2 rfl ?_
  have hb : ∀ i, h6 11 i = 0 ∨ h6 11 i = 1 := fun i => by have q := hR.2.2.2.2.2.2.2.2.2.2.2.2.2.1 i; rw [← e6, cpy_ne (by decide), ← e5, zwr_ne (Or.inl (by decide)), ← e4, zwr_ne (Or.inl (by decide)), ← e3, zwr_ne (Or.inl (by decide)), ← e2, zwr_ne (Or.inl (by decide)), ← e1, zwr_ne (Or.inl (by decide))]; omega
  refine csV2 (pc' := 71) kX12_copiesMarks vX12_copiesMarks lk_X12_475 ⟨Nat.le_of_ble_eq_true rfl, Nat.le_of_ble_eq_true rfl⟩ rfl (s_X12_copiesMarks tb11 tb10 (by decide) (by decide) hb) dX12_undo_2.1.1.2.1 (Nat.le_of_ble_eq_true rfl) rfl ?_
  rintro _ h7 e7; replace e7 := e7.symm
  have hS7 : SI h7 := by rw [← e7]; exact SI_cpy hS6 rfl (by decide)
  refine zW_aload_n (pc' := 72) dX12_undo_2.1.1.2.2 rfl rfl ?_
  refine zG_ref (pc' := 75) 7 fg_X12_28 tb0 rfl dX12_undo_2.1.2.1.1 rfl ?_
  refine zW_aload_n (pc' := 76) dX12_undo_2.1.2.1.2 rfl rfl ?_
  refine zG_ref (pc' := 79) 3 fg_X12_16 tb0 rfl dX12_undo_2.1.2.2.1 rfl ?_
  refine csV2 (pc' := 82) kX12_copies vX12_copies lk_X12_188 ⟨Nat.le_of_ble_eq_true rfl, Nat.le_of_ble_eq_true rfl⟩ rfl (s_X12_copies tb7 tb3 (by decide) (by decide)) dX12_undo_2.1.2.2.2 (Nat.le_of_ble_eq_true rfl) rfl ?_
  rintro _ h8 e8; replace e8 := e8.symm
  have hS8 : SI h8 := by rw [← e8]; exact SI_cpy hS7 rfl (by decide)
  refine zW_aload_n (pc' := 83) dX12_undo_2.2.1.1.1 rfl rfl ?_
  refine zG_ref (pc' := 86) 8 fg_X12_31 tb0 rfl dX12_undo_2.2.1.1.2 rfl ?_
  refine zW_aload_n (pc' := 87) dX12_undo_2.2.1.2.1 rfl rfl ?_
  refine zG_ref (pc' := 90) 4 fg_X12_19 tb0 rfl dX12_undo_2.2.1.2.2 rfl ?_
  refine csV2 (pc' := 93) kX12_copies vX12_copies lk_X12_188 ⟨Nat.le_of_ble_eq_true rfl, Nat.le_of_ble_eq_true rfl⟩ rfl (s_X12_copies tb8 tb4 (by decide) (by decide)) dX12_undo_2.2.2.1.1 (Nat.le_of_ble_eq_true rfl) rfl ?_
  rintro _ h9 e9; replace e9 := e9.symm
  have hS9 : SI h9 := by rw [← e9]; exact SI_cpy hS8 rfl (by decide)
  refine zW_aload_n (pc' := 94) dX12_undo_2.2.2.1.2 rfl rfl ?_
  refine zG_ref (pc' := 97) 9 fg_X12_34 tb0 rfl dX12_undo_2.2.2.2.1 rfl ?_
  refine zW_aload_n (pc' := 98) dX12_undo_2.2.2.2.2 rfl rfl ?_
  refine zG_ref (pc' := 101) 5 fg_X12_22 tb0 rfl dX12_undo_3.1.1.1 rfl ?_
  refine csV2 (pc' := 104) kX12_copies vX12_copies lk_X12_188 ⟨Nat.le_of_ble_eq_true rfl, Nat.le_of_ble_eq_true rfl⟩ rfl (s_X12_copies tb9 tb5 (by decide) (by decide)) dX12_undo_3.1.1.2 (Nat.le_of_ble_eq_true rfl) rfl ?_
  rintro _ h10 e10; replace e10 := e10.symm
  have hS10 : SI h10 := by rw [← e10]; exact SI_cpy hS9 rfl (by decide)
  refine zW_aload_n (pc' := 105) dX12_undo_3.1.2 rfl rfl ?_
  have fr : ∀ k i, inW [(0, 11), (0, 12), (0, 13), (0, 14), (0, 15), (1, 999), (3, 999), (4, 999), (5, 999), (10, 999), (0, 21)] k i = false → h10 k i = κ k i := fun k i hl => by rw [← e10, cpy_ne (inW_nc (L := [(0, 11), (0, 12), (0, 13), (0, 14), (0, 15), (1, 999), (3, 999), (4, 999), (5, 999), (10, 999), (0, 21)]) (c := 5) rfl hl), ← e9, cpy_ne (inW_nc (L := [(0, 11), (0, 12), (0, 13), (0, 14), (0, 15), (1, 999), (3, 999), (4, 999), (5, 999), (10, 999), (0, 21)]) (c := 4) rfl hl), ← e8, cpy_ne (inW_nc (L := [(0, 11), (0, 12), (0, 13), (0, 14), (0, 15), (1, 999), (3, 999), (4, 999), (5, 999), (10, 999), (0, 21)]) (c := 3) rfl hl), ← e7, cpy_ne (inW_nc (L := [(0, 11), (0, 12), (0, 13), (0, 14), (0, 15), (1, 999), (3, 999), (4, 999), (5, 999), (10, 999), (0, 21)]) (c := 10) rfl hl), ← e6, cpy_ne (inW_nc (L := [(0, 11), (0, 12), (0, 13), (0, 14), (0, 15), (1, 999), (3, 999), (4, 999), (5, 999), (10, 999), (0, 21)]) (c := 1) rfl hl), ← e5, zwr_ne (inW_ne (L := [(0, 11), (0, 12), (0, 13), (0, 14), (0, 15), (1, 999), (3, 999), (4, 999), (5, 999), (10, 999), (0, 21)]) (k := 0) (i := 15) rfl hl), ← e4, zwr_ne (inW_ne (L := [(0, 11), (0, 12), (0, 13), (0, 14), (0, 15), (1, 999), (3, 999), (4, 999), (5, 999), (10, 999), (0, 21)]) (k := 0) (i := 14) rfl hl), ← e3, zwr_ne (inW_ne (L := [(0, 11), (0, 12), (0, 13), (0, 14), (0, 15), (1, 999), (3, 999), (4, 999), (5, 999), (10, 999), (0, 21)]) (k := 0) (i := 13) rfl hl), ← e2, zwr_ne (inW_ne (L := [(0, 11), (0, 12), (0, 13), (0, 14), (0, 15), (1, 999), (3, 999), (4, 999), (5, 999), (10, 999), (0, 21)]) (k := 0) (i := 12) rfl hl), ← e1, zwr_ne (inW_ne (L := [(0, 11), (0, 12), (0, 13), (0, 14), (0, 15), (1, 999), (3, 999), (4, 999), (5, 999), (10, 999), (0, 21)]) (k := 0) (i := 11) rfl hl)]
  have hCf : KC h10 := KC_low hC (fun k i hk => fr k i (by unfold inW; simp [List.any_cons]; omega))
  have g11 : h10 0 11 = κ 0 16 := by rw [← e10, cpy_ne (by decide), ← e9, cpy_ne (by decide), ← e8, cpy_ne (by decide), ← e7, cpy_ne (by decide), ← e6, cpy_ne (by decide), ← e5, zwr_ne (Or.inr (by decide)), ← e4, zwr_ne (Or.inr (by decide)), ← e3, zwr_ne (Or.inr (by decide)), ← e2, zwr_ne (Or.inr (by decide)), ← e1, zwr_eq]
  have g12 : h10 0 12 = κ 0 17 := by rw [← e10, cpy_ne (by decide), ← e9, cpy_ne (by decide), ← e8, cpy_ne (by decide), ← e7, cpy_ne (by decide), ← e6, cpy_ne (by decide), ← e5, zwr_ne (Or.inr (by decide)), ← e4, zwr_ne (Or.inr (by decide)), ← e3, zwr_ne (Or.inr (by decide)), ← e2, zwr_eq, ← e1, zwr_ne (Or.inr (by decide))]
  have g13 : h10 0 13 = κ 0 18 := by rw [← e10, cpy_ne (by decide), ← e9, cpy_ne (by decide), ← e8, cpy_ne (by decide), ← e7, cpy_ne (by decide), ← e6, cpy_ne (by decide), ← e5, zwr_ne (Or.inr (by decide)), ← e4, zwr_ne (Or.inr (by decide)), ← e3, zwr_eq, ← e2, zwr_ne (Or.inr (by decide)), ← e1, zwr_ne (Or.inr (by decide))]
  have g14 : h10 0 14 = κ 0 19 := by rw [← e10, cpy_ne (by decide), ← e9, cpy_ne (by decide), ← e8, cpy_ne (by decide), ← e7, cpy_ne (by decide), ← e6, cpy_ne (by decide), ← e5, zwr_ne (Or.inr (by decide)), ← e4, zwr_eq, ← e3, zwr_ne (Or.inr (by decide)), ← e2, zwr_ne (Or.inr (by decide)), ← e1, zwr_ne (Or.inr (by decide))]
  have g15 : h10 0 15 = κ 0 20 := by rw [← e10, cpy_ne (by decide), ← e9, cpy_ne (by decide), ← e8, cpy_ne (by decide), ← e7, cpy_ne (by decide), ← e6, cpy_ne (by decide), ← e5, zwr_eq, ← e4, zwr_ne (Or.inr (by decide)), ← e3, zwr_ne (Or.inr (by decide)), ← e2, zwr_ne (Or.inr (by decide)), ← e1, zwr_ne (Or.inr (by decide))]
  have g16 : h10 0 16 = κ 0 16 := by rw [← e10, cpy_ne (by decide), ← e9, cpy_ne (by decide), ← e8, cpy_ne (by decide), ← e7, cpy_ne (by decide), ← e6, cpy_ne (by decide), ← e5, zwr_ne (Or.inr (by decide)), ← e4, zwr_ne (Or.inr (by decide)), ← e3, zwr_ne (Or.inr (by decide)), ← e2, zwr_ne (Or.inr (by decide)), ← e1, zwr_ne (Or.inr (by decide))]
  have g17 : h10 0 17 = κ 0 17 := by rw [← e10, cpy_ne (by decide), ← e9, cpy_ne (by decide), ← e8, cpy_ne (by decide), ← e7, cpy_ne (by decide), ← e6, cpy_ne (by decide), ← e5, zwr_ne (Or.inr (by decide)), ← e4, zwr_ne (Or.inr (by decide)), ← e3, zwr_ne (Or.inr (by decide)), ← e2, zwr_ne (Or.inr (by decide)), ← e1, zwr_ne (Or.inr (by decide))]
  have g18 : h10 0 18 = κ 0 18 := by rw [← e10, cpy_ne (by decide), ← e9, cpy_ne (by decide), ← e8, cpy_ne (by decide), ← e7, cpy_ne (by decide), ← e6, cpy_ne (by decide), ← e5, zwr_ne (Or.inr (by decide)), ← e4, zwr_ne (Or.inr (by decide)), ← e3, zwr_ne (Or.inr (by decide)), ← e2, zwr_ne (Or.inr (by decide)), ← e1, zwr_ne (Or.inr (by decide))]
  have g19 : h10 0 19 = κ 0 19 := by rw [← e10, cpy_ne (by decide), ← e9, cpy_ne (by decide), ← e8, cpy_ne (by decide), ← e7, cpy_ne (by decide), ← e6, cpy_ne (by decide), ← e5, zwr_ne (Or.inr (by decide)), ← e4, zwr_ne (Or.inr (by decide)), ← e3, zwr_ne (Or.inr (by decide)), ← e2, zwr_ne (Or.inr (by decide)), ← e1, zwr_ne (Or.inr (by decide))]
  have g20 : h10 0 20 = κ 0 20 := by rw [← e10, cpy_ne (by decide), ← e9, cpy_ne (by decide), ← e8, cpy_ne (by decide), ← e7, cpy_ne (by decide), ← e6, cpy_ne (by decide), ← e5, zwr_ne (Or.inr (by decide)), ← e4, zwr_ne (Or.inr (by decide)), ← e3, zwr_ne (Or.inr (by decide)), ← e2, zwr_ne (Or.inr (by decide)), ← e1, zwr_ne (Or.inr (by decide))]
  have g21 : h10 0 21 = κ 0 21 := by rw [← e10, cpy_ne (by decide), ← e9, cpy_ne (by decide), ← e8, cpy_ne (by decide), ← e7, cpy_ne (by decide), ← e6, cpy_ne (by decide), ← e5, zwr_ne (Or.inr (by decide)), ← e4, zwr_ne (Or.inr (by decide)), ← e3, zwr_ne (Or.inr (by decide)), ← e2, zwr_ne (Or.inr (by decide)), ← e1, zwr_ne (Or.inr (by decide))]
  have g22 : h10 0 22 = κ 0 22 := by rw [← e10, cpy_ne (by decide), ← e9, cpy_ne (by decide), ← e8, cpy_ne (by decide), ← e7, cpy_ne (by decide), ← e6, cpy_ne (by decide), ← e5, zwr_ne (Or.inr (by decide)), ← e4, zwr_ne (Or.inr (by decide)), ← e3, zwr_ne (Or.inr (by decide)), ← e2, zwr_ne (Or.inr (by decide)), ← e1, zwr_ne (Or.inr (by decide))]
  have g25 : h10 0 25 = κ 0 25 := by rw [← e10, cpy_ne (by decide), ← e9, cpy_ne (by decide), ← e8, cpy_ne (by decide), ← e7, cpy_ne (by decide), ← e6, cpy_ne (by decide), ← e5, zwr_ne (Or.inr (by decide)), ← e4, zwr_ne (Or.inr (by decide)), ← e3, zwr_ne (Or.inr (by decide)), ← e2, zwr_ne (Or.inr (by decide)), ← e1, zwr_ne (Or.inr (by decide))]
  have c3 : ∀ j, j < 12 → h10 3 j = κ 7 j := fun j hj => by rw [← e10, cpy_ne (by decide), ← e9, cpy_ne (by decide), ← e8, cpy_in hj, ← e7, cpy_ne (by decide), ← e6, cpy_ne (by decide), ← e5, zwr_ne (Or.inl (by decide)), ← e4, zwr_ne (Or.inl (by decide)), ← e3, zwr_ne (Or.inl (by decide)), ← e2, zwr_ne (Or.inl (by decide)), ← e1, zwr_ne (Or.inl (by decide))]
  have o3 : ∀ j, 12 ≤ j → h10 3 j = κ 3 j := fun j hj => by rw [← e10, cpy_ne (by decide), ← e9, cpy_ne (by decide), ← e8, cpy_out hj, ← e7, cpy_ne (by decide), ← e6, cpy_ne (by decide), ← e5, zwr_ne (Or.inl (by decide)), ← e4, zwr_ne (Or.inl (by decide)), ← e3, zwr_ne (Or.inl (by decide)), ← e2, zwr_ne (Or.inl (by decide)), ← e1, zwr_ne (Or.inl (by decide))]
  have c4 : ∀ j, j < 13 → h10 4 j = κ 8 j := fun j hj => by rw [← e10, cpy_ne (by decide), ← e9, cpy_in hj, ← e8, cpy_ne (by decide), ← e7, cpy_ne (by decide), ← e6, cpy_ne (by decide), ← e5, zwr_ne (Or.inl (by decide)), ← e4, zwr_ne (Or.inl (by decide)), ← e3, zwr_ne (Or.inl (by decide)), ← e2, zwr_ne (Or.inl (by decide)), ← e1, zwr_ne (Or.inl (by decide))]
  have o4 : ∀ j, 13 ≤ j → h10 4 j = κ 4 j := fun j hj => by rw [← e10, cpy_ne (by decide), ← e9, cpy_out hj, ← e8, cpy_ne (by decide), ← e7, cpy_ne (by decide), ← e6, cpy_ne (by decide), ← e5, zwr_ne (Or.inl (by decide)), ← e4, zwr_ne (Or.inl (by decide)), ← e3, zwr_ne (Or.inl (by decide)), ← e2, zwr_ne (Or.inl (by decide)), ← e1, zwr_ne (Or.inl (by decide))]
  have c5 : ∀ j, j < 130 → h10 5 j = κ 9 j := fun j hj => by rw [← e10, cpy_in hj, ← e9, cpy_ne (by decide), ← e8, cpy_ne (by decide), ← e7, cpy_ne (by decide), ← e6, cpy_ne (by decide), ← e5, zwr_ne (Or.inl (by decide)), ← e4, zwr_ne (Or.inl (by decide)), ← e3, zwr_ne (Or.inl (by decide)), ← e2, zwr_ne (Or.inl (by decide)), ← e1, zwr_ne (Or.inl (by decide))]
  have o5 : ∀ j, 130 ≤ j → h10 5 j = κ 5 j := fun j hj => by rw [← e10, cpy_out hj, ← e9, cpy_ne (by decide), ← e8, cpy_ne (by decide), ← e7, cpy_ne (by decide), ← e6, cpy_ne (by decide), ← e5, zwr_ne (Or.inl (by decide)), ← e4, zwr_ne (Or.inl (by decide)), ← e3, zwr_ne (Or.inl (by decide)), ← e2, zwr_ne (Or.inl (by decide)), ← e1, zwr_ne (Or.inl (by decide))]
  have c7 : h10 7 = κ 7 := funext fun j => by rw [← e10, cpy_ne (by decide), ← e9, cpy_ne (by decide), ← e8, cpy_ne (by decide), ← e7, cpy_ne (by decide), ← e6, cpy_ne (by decide), ← e5, zwr_ne (Or.inl (by decide)), ← e4, zwr_ne (Or.inl (by decide)), ← e3, zwr_ne (Or.inl (by decide)), ← e2, zwr_ne (Or.inl (by decide)), ← e1, zwr_ne (Or.inl (by decide))]
  have c8 : h10 8 = κ 8 := funext fun j => by rw [← e10, cpy_ne (by decide), ← e9, cpy_ne (by decide), ← e8, cpy_ne (by decide), ← e7, cpy_ne (by decide), ← e6, cpy_ne (by decide), ← e5, zwr_ne (Or.inl (by decide)), ← e4, zwr_ne (Or.inl (by decide)), ← e3, zwr_ne (Or.inl (by decide)), ← e2, zwr_ne (Or.inl (by decide)), ← e1, zwr_ne (Or.inl (by decide))]
  have c9 : h10 9 = κ 9 := funext fun j => by rw [← e10, cpy_ne (by decide), ← e9, cpy_ne (by decide), ← e8, cpy_ne (by decide), ← e7, cpy_ne (by decide), ← e6, cpy_ne (by decide), ← e5, zwr_ne (Or.inl (by decide)), ← e4, zwr_ne (Or.inl (by decide)), ← e3, zwr_ne (Or.inl (by decide)), ← e2, zwr_ne (Or.inl (by decide)), ← e1, zwr_ne (Or.inl (by decide))]
  have c10 : ∀ j, j < 256 → h10 10 j = κ 11 j := fun j hj => by rw [← e10, cpy_ne (by decide), ← e9, cpy_ne (by decide), ← e8, cpy_ne (by decide), ← e7, cpy_in hj, ← e6, cpy_ne (by decide), ← e5, zwr_ne (Or.inl (by decide)), ← e4, zwr_ne (Or.inl (by decide)), ← e3, zwr_ne (Or.inl (by decide)), ← e2, zwr_ne (Or.inl (by decide)), ← e1, zwr_ne (Or.inl (by decide))]
  have o10 : ∀ j, 256 ≤ j → h10 10 j = κ 10 j := fun j hj => by rw [← e10, cpy_ne (by decide), ← e9, cpy_ne (by decide), ← e8, cpy_ne (by decide), ← e7, cpy_out hj, ← e6, cpy_ne (by decide), ← e5, zwr_ne (Or.inl (by decide)), ← e4, zwr_ne (Or.inl (by decide)), ← e3, zwr_ne (Or.inl (by decide)), ← e2, zwr_ne (Or.inl (by decide)), ← e1, zwr_ne (Or.inl (by decide))]
  have c11 : h10 11 = κ 11 := funext fun j => by rw [← e10, cpy_ne (by decide), ← e9, cpy_ne (by decide), ← e8, cpy_ne (by decide), ← e7, cpy_ne (by decide), ← e6, cpy_ne (by decide), ← e5, zwr_ne (Or.inl (by decide)), ← e4, zwr_ne (Or.inl (by decide)), ← e3, zwr_ne (Or.inl (by decide)), ← e2, zwr_ne (Or.inl (by decide)), ← e1, zwr_ne (Or.inl (by decide))]
  have c14 : h10 14 = κ 14 := funext fun j => by rw [← e10, cpy_ne (by decide), ← e9, cpy_ne (by decide), ← e8, cpy_ne (by decide), ← e7, cpy_ne (by decide), ← e6, cpy_ne (by decide), ← e5, zwr_ne (Or.inl (by decide)), ← e4, zwr_ne (Or.inl (by decide)), ← e3, zwr_ne (Or.inl (by decide)), ← e2, zwr_ne (Or.inl (by decide)), ← e1, zwr_ne (Or.inl (by decide))]
  have c15 : h10 15 = κ 15 := funext fun j => by rw [← e10, cpy_ne (by decide), ← e9, cpy_ne (by decide), ← e8, cpy_ne (by decide), ← e7, cpy_ne (by decide), ← e6, cpy_ne (by decide), ← e5, zwr_ne (Or.inl (by decide)), ← e4, zwr_ne (Or.inl (by decide)), ← e3, zwr_ne (Or.inl (by decide)), ← e2, zwr_ne (Or.inl (by decide)), ← e1, zwr_ne (Or.inl (by decide))]
  have hRf : KR h10 := by
    unfold KR
    rw [g11, g12, g13, g14, g15, g16, g17, g18, g19, g20, g21, g22, g25, c7, c8, c9, c11, c14, c15]
    refine ⟨k1, k2, k3, k4, k5, a5, (bd2 c4 o4 k6 a6), ?_, a8, a9, a10, (bd2 c5 o5 k8 a11), (bd2 c10 o10 a13 a12), a13, a14, a15, a16, a17⟩
    exact k7.cong3 k4.2 c3 c4 c5
  have hFf : Fm [(0, 11), (0, 12), (0, 13), (0, 14), (0, 15), (1, 999), (3, 999), (4, 999), (5, 999), (10, 999), (0, 21)] κ h10 := ⟨fun k i _ hl => fr k i hl, hS10, hRf, hCf⟩
  refine cvV0 (pc' := 108) kX12_changed vX12_changed lk_X12_215 ⟨Nat.le_of_ble_eq_true rfl, Nat.le_of_ble_eq_true rfl⟩ tb0 vq12 rfl rfl (s_X12_changed hS10 hRf hCf) dX12_undo_3.2.1.1 (Nat.le_of_ble_eq_true rfl) rfl ?_
  rintro r h ⟨hF1, -⟩
  refine zW_iconst (pc' := 109) dX12_undo_3.2.1.2 rfl ?_
  exact zV_zret rfl (by omega) dX12_undo_3.2.2 ⟨hFf.tr hF1 rfl, ⟨Or.inr ⟨hk1, rfl, (hF1.1 0 11 rfl rfl).trans g11, (hF1.1 0 12 rfl rfl).trans g12, (hF1.1 0 13 rfl rfl).trans g13, (hF1.1 0 15 rfl rfl).trans g15⟩, ⟨fun q => by omega, fun _ => (hF1.1 0 14 rfl rfl).trans g14⟩, fun j => ⟨fun _ hj => (hF1.1 3 j rfl rfl).trans (c3 j hj), fun q => by omega⟩, fun j => ⟨fun _ hj => (hF1.1 4 j rfl rfl).trans (c4 j hj), fun q => by omega⟩, fun j => ⟨fun _ hj => (hF1.1 5 j rfl rfl).trans (c5 j hj), fun q => by omega⟩⟩⟩
