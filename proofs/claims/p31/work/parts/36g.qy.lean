/-! what the text lays down: letters, where numbers start, numbers (lists of them) -/
def Ap (A B : Nat → Int) (e e' : Int) (l : List Int) : Prop := e' = e + ((l.length : Nat) : Int) ∧ (∀ j : Nat, (j : Int) < e → B j = A j) ∧ (∀ i : Nat, i < l.length → B (e.toNat + i) = (l[i]?).getD 0)
theorem Ap.rf {A : Nat → Int} {e : Int} : Ap A A e e [] := ⟨(Int.add_zero e).symm, fun _ _ => rfl, fun i h => absurd h (Nat.not_lt_zero i)⟩
theorem Ap.one {A B : Nat → Int} {e e' v : Int} (he : e' = e + 1) (hA : ∀ j : Nat, (j : Int) < e → B j = A j) (hv : B e.toNat = v) : Ap A B e e' [v] := by
  refine ⟨he, hA, fun i hi => ?_⟩
  have e0 : i = 0 := Nat.lt_one_iff.mp hi
  subst e0
  exact hv
theorem Ap.tr {A B C : Nat → Int} {e e' e'' : Int} {l k : List Int} (h0 : 0 ≤ e) (h : Ap A B e e' l) (h2 : Ap B C e' e'' k) : Ap A C e e'' (l ++ k) := by
  obtain ⟨a1, a2, a3⟩ := h
  obtain ⟨b1, b2, b3⟩ := h2
  refine ⟨?_, fun j hj => ?_, fun i hi => ?_⟩
  · rw [List.length_append, b1, a1]; omega
  · rw [b2 j (by omega), a2 j hj]
  · rw [List.length_append] at hi
    by_cases c : i < l.length
    · rw [b2 _ (by omega), a3 i c, List.getElem?_append_left c]
    · rw [List.getElem?_append_right (by omega)]
      have z := b3 (i - l.length) (by omega)
      rw [show e'.toNat + (i - l.length) = e.toNat + i by omega] at z
      exact z
theorem Ap_eq {A B B' : Nat → Int} {e e' e2 : Int} {l : List Int} (h : Ap A B e e' l) (hb : B' = B) (he : e2 = e') : Ap A B' e e2 l := by
  rw [hb, he]; exact h
theorem Ap.pre {A A' B : Nat → Int} {e e' : Int} {l : List Int} (h : Ap A B e e' l) (hP : ∀ j : Nat, (j : Int) < e → B j = A' j) : Ap A' B e e' l := ⟨h.1, hP, h.2.2⟩
theorem Ap.l1 {A B : Nat → Int} {e e' x : Int} (h : Ap A B e e' [x]) : e' = e + 1 := h.1
theorem Ap.l2 {A B : Nat → Int} {e e' x y : Int} (h : Ap A B e e' [x, y]) : e' = e + 2 := h.1
def ApI (r : Int) (A B : Nat → Int) (e e' : Int) (l : List Int) : Prop := r = 1 → Ap A B e e' l
theorem Ap_rn {κ h : Hp} {r a b f v x w : Int} {N E : Prop} (hp : Pre15 κ h) (c : r = 1 ∧ a ≤ h 0 29 ∧ h 0 29 ≤ b ∧ h 0 31 = κ 0 31 + 1 ∧ w < f ∧ h 15 (κ 0 31).toNat = h 0 29) (d : x = 1 ∧ N ∧ E ∧ h 0 29 = v) : Ap (κ 15) (h 15) (κ 0 31) (h 0 31) [v] :=
  Ap.one c.2.2.2.1 (fun j hj => hp j hj) (c.2.2.2.2.2.trans d.2.2.2)
/-- a row's first entries are the list's -/
def Ls (A : Nat → Int) (e : Int) (l : List Int) : Prop := e = ((l.length : Nat) : Int) ∧ ∀ i : Nat, i < l.length → A i = (l[i]?).getD 0
theorem Ls.nil {A : Nat → Int} : Ls A 0 [] := ⟨rfl, fun i h => absurd h (Nat.not_lt_zero i)⟩
theorem Ls.ap {A B : Nat → Int} {e e' : Int} {l k : List Int} (h : Ls A e l) (h2 : Ap A B e e' k) : Ls B e' (l ++ k) := by
  obtain ⟨a1, a2⟩ := h
  obtain ⟨b1, b2, b3⟩ := h2
  refine ⟨?_, fun i hi => ?_⟩
  · rw [List.length_append, b1, a1]; omega
  · rw [List.length_append] at hi
    by_cases c : i < l.length
    · rw [b2 i (by omega), a2 i c, List.getElem?_append_left c]
    · rw [List.getElem?_append_right (by omega)]
      have z := b3 (i - l.length) (by omega)
      rw [show e.toNat + (i - l.length) = i by omega] at z
      exact z
/-- the numbers of a curve -/
def ptY (g : Int → Int) (p x : Int) : Int := if x = -1 then nV g (p + nD g p + 1) else nV g (p + 1 + nD g (p + 1) + 1)
theorem ptY_1 {g : Int → Int} {p x : Int} (h : 0 ≤ x) : ptY g p x = nV g (p + 1 + nD g (p + 1) + 1) := if_neg (by omega)
def cuL (g : Int → Int) : Nat → Int → Int → List Int
  | 0, _, _ => []
  | k + 1, p, x => if ptX g p x = 255 then [ptX g p x, ptY g p x] else [ptX g p x, ptY g p x] ++ cuL g k (ptE g p x) (ptX g p x)
/-- as CuI, with the numbers that were read -/
def CuJ (g : Int → Int) (p q x : Int) (l : List Int) : Prop := (x = 255 ∧ cuL g 200 p (-1) = l) ∨ (x ≠ 255 ∧ ∃ k : Nat, 190 - q < k ∧ cuL g 200 p (-1) = l ++ cuL g k q x)
theorem CuJ.rf {g : Int → Int} {p : Int} (hp : 0 ≤ p) : CuJ g p p (-1) [] := Or.inr ⟨by decide, 200, by omega, rfl⟩
theorem CuJ.step {g : Int → Int} {p q x y e a b : Int} {l : List Int} (h : CuJ g p q x l) (hx : x ≠ 255) (hq : q ≤ 190) (hy : ptX g q x = y) (he : ptE g q x = e) (hl : q < e) (ha : ptX g q x = a) (hb : ptY g q x = b) : CuJ g p e y (l ++ [a, b]) := by
  subst hy he ha hb
  rcases h with ⟨c, -⟩ | ⟨-, k, k1, k2⟩
  · exact absurd c hx
  · obtain ⟨j, rfl⟩ : ∃ j, k = j + 1 := ⟨k - 1, by omega⟩
    have e1 : cuL g (j + 1) q x = if ptX g q x = 255 then [ptX g q x, ptY g q x] else [ptX g q x, ptY g q x] ++ cuL g j (ptE g q x) (ptX g q x) := rfl
    rw [e1] at k2
    by_cases c : ptX g q x = 255
    · rw [if_pos c] at k2; exact Or.inl ⟨c, k2⟩
    · rw [if_neg c, ← List.append_assoc] at k2; exact Or.inr ⟨c, j, by omega, k2⟩
theorem CuJ.end {g : Int → Int} {p q : Int} {l : List Int} (h : CuJ g p q 255 l) : cuL g 200 p (-1) = l := by
  rcases h with ⟨-, a⟩ | ⟨a, -⟩
  · exact a
  · exact absurd rfl a
def CuB (g : Int → Int) (p q x : Int) (A B : Nat → Int) (e e' : Int) : Prop := ∃ l : List Int, CuJ g p q x l ∧ Ap A B e e' l
def nbL (g : Int → Int) (c p : Int) : List Int := if c = 121 ∨ c = 103 then [nV g p, nV g (p + nD g p + 1), nV g (n2E g p + 1)] else if c = 112 ∨ c = 110 ∨ c = 115 then [nV g p, nV g (p + nD g p + 1)] else if c = 116 then cuL g 200 p (-1) else [nV g p]
/-- a number read takes a sign at least -/
theorem pq_l {g : Int → Int} {p a b : Int} (hp : 0 ≤ p) (h : pqF g p a b = 0) : p + 3 ≤ pqE g p := by
  unfold pqF at h
  have h1 := nFz (sq_0l (sq_0l h)) hp
  have h2 := nFz (sq_0r h) (by omega)
  unfold pqE
  omega
theorem pt_l {g : Int → Int} {p x : Int} (hp : 0 ≤ p) (hx : -1 ≤ x) (h : ptF g p x = 0) : (x = -1 → p + 3 ≤ ptE g p x) ∧ (x ≠ -1 → p + 4 ≤ ptE g p x) ∧ 0 ≤ ptX g p x := by
  by_cases e : x = -1
  · subst e
    have h0 : pqF g p 0 0 = 0 := h
    have h1 := nFz (sq_0l (sq_0l h0)) hp
    exact ⟨fun _ => pq_l hp h0, fun z => absurd rfl z, h1.2.1⟩
  · have t := ptF_1 (g := g) (p := p) (x := x) (by omega)
    rw [t.1] at h
    rw [t.2.1, t.2.2]
    have h0 := sq_0r h
    have h1 := nFz (sq_0l (sq_0l h0)) (by omega)
    have h2 := pq_l (by omega) h0
    exact ⟨fun z => absurd z e, fun _ => by omega, by omega⟩
theorem cu_l {g : Int → Int} : ∀ (k : Nat) (p x : Int), 0 ≤ p → -1 ≤ x → cuF g k p x = 0 → p + 2 * ((cuL g k p x).length : Nat) ≤ cuE g k p x + (if x = -1 then 1 else 0)
  | 0, p, x, hp, hx, h => by
    show p + 2 * ((0 : Nat) : Int) ≤ p + _
    by_cases e : x = -1
    · rw [if_pos e]; omega
    · rw [if_neg e]; omega
  | k + 1, p, x, hp, hx, h => by
    have e0 : cuF g (k + 1) p x = if ptF g p x = 0 then (if ptX g p x = 255 then 0 else cuF g k (ptE g p x) (ptX g p x)) else ptF g p x := rfl
    have e1 : cuL g (k + 1) p x = if ptX g p x = 255 then [ptX g p x, ptY g p x] else [ptX g p x, ptY g p x] ++ cuL g k (ptE g p x) (ptX g p x) := rfl
    have e2 : cuE g (k + 1) p x = if ptX g p x = 255 then ptE g p x else cuE g k (ptE g p x) (ptX g p x) := rfl
    by_cases c : ptF g p x = 0
    · have t := pt_l hp hx c
      have t2 : p + 4 ≤ ptE g p x + (if x = -1 then 1 else 0) := by
        by_cases e : x = -1
        · rw [if_pos e]; have := t.1 e; omega
        · rw [if_neg e]; have := t.2.1 e; omega
      rw [e0, if_pos c] at h
      rw [e1, e2]
      by_cases d : ptX g p x = 255
      · rw [if_pos d, if_pos d]
        show p + 2 * ((2 : Nat) : Int) ≤ _
        omega
      · rw [if_neg d] at h
        rw [if_neg d, if_neg d]
        have ih := cu_l k (ptE g p x) (ptX g p x) (by split at t2 <;> omega) (by omega) h
        rw [if_neg (by omega)] at ih
        rw [List.length_append]
        have l2 : ([ptX g p x, ptY g p x] : List Int).length = 2 := rfl
        rw [l2]
        omega
    · rw [e0, if_neg c] at h
      exact absurd h c
/-- the place of a stage; the numbers of the first stages -/
def qP (g : Int → Int) : Nat → Int
  | 0 => 0
  | k + 1 => sgE g (qP g k) + 1
def nL (g : Int → Int) : Nat → List Int
  | 0 => []
  | k + 1 => nL g k ++ nbL g (g (qP g k)) (qP g k + 2)
def SMx (A B : Nat → Int) (k : Nat) : Prop := ∀ j : Nat, j ≠ k → B j = A j
theorem SMx.rf {A : Nat → Int} {k : Nat} : SMx A A k := fun _ _ => rfl
theorem SMx.tr {A B C : Nat → Int} {k : Nat} (h : SMx A B k) (h2 : SMx B C k) : SMx A C k := fun j hj => (h2 j hj).trans (h j hj)
theorem nl_98 {g : Int → Int} {p : Int} : nbL g 98 p = [nV g p] := rfl
theorem nl_100 {g : Int → Int} {p : Int} : nbL g 100 p = [nV g p] := rfl
theorem nl_111 {g : Int → Int} {p : Int} : nbL g 111 p = [nV g p] := rfl
theorem nl_108 {g : Int → Int} {p : Int} : nbL g 108 p = [nV g p] := rfl
theorem nl_102 {g : Int → Int} {p : Int} : nbL g 102 p = [nV g p] := rfl
theorem nl_118 {g : Int → Int} {p : Int} : nbL g 118 p = [nV g p] := rfl
theorem nl_119 {g : Int → Int} {p : Int} : nbL g 119 p = [nV g p] := rfl
theorem nl_104 {g : Int → Int} {p : Int} : nbL g 104 p = [nV g p] := rfl
theorem nl_121 {g : Int → Int} {p : Int} : nbL g 121 p = [nV g p, nV g (p + nD g p + 1), nV g (n2E g p + 1)] := rfl
theorem nl_103 {g : Int → Int} {p : Int} : nbL g 103 p = [nV g p, nV g (p + nD g p + 1), nV g (n2E g p + 1)] := rfl
theorem nl_109 {g : Int → Int} {p : Int} : nbL g 109 p = [nV g p] := rfl
theorem nl_112 {g : Int → Int} {p : Int} : nbL g 112 p = [nV g p, nV g (p + nD g p + 1)] := rfl
theorem nl_110 {g : Int → Int} {p : Int} : nbL g 110 p = [nV g p, nV g (p + nD g p + 1)] := rfl
theorem nl_115 {g : Int → Int} {p : Int} : nbL g 115 p = [nV g p, nV g (p + nD g p + 1)] := rfl
theorem nl_116 {g : Int → Int} {p : Int} : nbL g 116 p = cuL g 200 p (-1) := rfl
theorem kd_116 {c : Int} (h : 0 ≤ kd c) (n : c ≠ 98 ∧ c ≠ 100 ∧ c ≠ 111 ∧ c ≠ 108 ∧ c ≠ 102 ∧ c ≠ 118 ∧ c ≠ 119 ∧ c ≠ 104 ∧ c ≠ 121 ∧ c ≠ 103 ∧ c ≠ 109 ∧ c ≠ 112 ∧ c ≠ 110 ∧ c ≠ 115) : c = 116 := by
  rcases kd_c c with ⟨z, -⟩ | ⟨-, e⟩ | ⟨-, e⟩ | ⟨-, e⟩ | ⟨-, e⟩ | ⟨-, e⟩ | ⟨-, e⟩ | ⟨-, e⟩ | ⟨-, e⟩ | ⟨-, e⟩ | ⟨-, e⟩ | ⟨-, e⟩ | ⟨-, e⟩ | ⟨-, e⟩ | ⟨-, e⟩ | ⟨-, e⟩
  · omega
  · exact absurd e (by omega)
  · exact absurd e (by omega)
  · exact absurd e (by omega)
  · exact absurd e (by omega)
  · exact absurd e (by omega)
  · exact absurd e (by omega)
  · exact absurd e (by omega)
  · exact absurd e (by omega)
  · exact absurd e (by omega)
  · exact absurd e (by omega)
  · exact absurd e (by omega)
  · exact absurd e (by omega)
  · exact absurd e (by omega)
  · exact absurd e (by omega)
  · exact e
theorem a9 {a b c d e f g i n m : Prop} (h : a ∧ b ∧ c ∧ d ∧ e ∧ f ∧ g ∧ i) (x : n) (y : m) : a ∧ b ∧ c ∧ d ∧ e ∧ f ∧ g ∧ i ∧ n ∧ m := ⟨h.1, h.2.1, h.2.2.1, h.2.2.2.1, h.2.2.2.2.1, h.2.2.2.2.2.1, h.2.2.2.2.2.2.1, h.2.2.2.2.2.2.2, x, y⟩
/-- what a stage lays down -/
def AQ (g : Int → Int) (p : Int) (h0 h : Hp) : Prop := h 13 (h0 0 30).toNat = g p ∧ SMx (h0 13) (h 13) (h0 0 30).toNat ∧ h 14 (h0 0 30 + 1).toNat = h 0 31 ∧ SMx (h0 14) (h 14) (h0 0 30 + 1).toNat ∧ Ap (h0 15) (h 15) (h0 0 31) (h 0 31) (nbL g (g p) (p + 2))
def AQI (r : Int) (g : Int → Int) (p : Int) (h0 h : Hp) : Prop := r = 1 → AQ g p h0 h
def AR0 (g : Int → Int) (h : Hp) : Prop := (∀ k : Nat, (k : Int) < h 0 30 → h 13 k = g (qP g k)) ∧ (∀ k : Nat, (k : Int) ≤ h 0 30 → h 14 k = (((nL g k).length : Nat) : Int)) ∧ Ls (h 15) (h 0 31) (nL g (h 0 30).toNat)
def ARR (g : Int → Int) (h : Hp) : Prop := AR0 g h ∧ (0 < h 0 30 → h 0 26 + 1 = qP g (h 0 30).toNat)
theorem AR0.push {g : Int → Int} {h0 h : Hp} {p : Int} (hm : 0 ≤ h0 0 30) (A : AR0 g h0) (hp : p = qP g (h0 0 30).toNat) (e30 : h 0 30 = h0 0 30 + 1) (e26 : h 0 26 = sgE g p) (Q : AQ g p h0 h) : ARR g h := by
  obtain ⟨a1, a2, a3⟩ := A
  obtain ⟨q1, q2, q3, q4, q5⟩ := Q
  obtain ⟨m, em⟩ : ∃ m : Nat, h0 0 30 = m := ⟨(h0 0 30).toNat, by omega⟩
  have t0 : (h0 0 30).toNat = m := by omega
  have t1 : (h0 0 30 + 1).toNat = m + 1 := by omega
  have t2 : (h 0 30).toNat = m + 1 := by omega
  rw [t0] at hp a3 q1 q2
  rw [t1] at q3 q4
  rw [hp] at q1 q5 e26
  have L : Ls (h 15) (h 0 31) (nL g (m + 1)) := a3.ap q5
  refine ⟨⟨fun k hk => ?_, fun k hk => ?_, ?_⟩, fun _ => ?_⟩
  · by_cases c : k = m
    · rw [c]; exact q1
    · rw [q2 k c]; exact a1 k (by omega)
  · by_cases c : k = m + 1
    · rw [c, q3]; exact L.1
    · rw [q4 k c]; exact a2 k (by omega)
  · rw [t2]; exact L
  · rw [t2, e26]; rfl
theorem AR0.mv {g : Int → Int} {h h' : Hp} (A : AR0 g h) (hF : Fm [(0, 26), (0, 28)] h h') : AR0 g h' := by
  unfold AR0 at A ⊢
  rw [hF.1 0 30 rfl rfl, hF.1 0 31 rfl rfl, hF.cell 13 rfl (fun _ => rfl), hF.cell 14 rfl (fun _ => rfl), hF.cell 15 rfl (fun _ => rfl)]
  exact A
theorem ARR.w25 {g : Int → Int} {h : Hp} {v : Int} (A : ARR g h) : ARR g (zwr h 0 25 v) := by
  unfold ARR AR0 at A ⊢
  rw [zwr_ne (Or.inr (by decide)), zwr_ne (Or.inr (by decide)), zwr_ne (Or.inr (by decide)), zfun (by decide), zfun (by decide), zfun (by decide)]
  exact A
def ARI (r : Int) (g : Int → Int) (h : Hp) : Prop := r = 1 → ARR g h
/-- the rows of letters, starts, numbers of m stages -/
def RW (g : Int → Int) (m : Int) (A B C : Nat → Int) : Prop := (∀ k : Nat, (k : Int) < m → A k = g (qP g k)) ∧ (∀ k : Nat, (k : Int) ≤ m → B k = (((nL g k).length : Nat) : Int)) ∧ (∀ j : Nat, j < (nL g m.toNat).length → C j = ((nL g m.toNat)[j]?).getD 0)
def RWI (r : Int) (g : Int → Int) (A B C : Nat → Int) : Prop := 0 ≤ r → RW g r A B C
theorem AR0.rw {g : Int → Int} {h : Hp} {m : Int} {A B C : Nat → Int} (a : AR0 g h) (em : h 0 30 = m) (hm : m ≤ 12) (b : h 0 31 ≤ 130) (cA : ∀ j, j < 12 → A j = h 13 j) (cB : ∀ j, j < 13 → B j = h 14 j) (cC : ∀ j, j < 130 → C j = h 15 j) : RW g m A B C := by
  subst em
  obtain ⟨a1, a2, a3⟩ := a
  refine ⟨fun k hk => by rw [cA k (by omega)]; exact a1 k hk, fun k hk => by rw [cB k (by omega)]; exact a2 k hk, fun j hj => ?_⟩
  have l := a3.1
  rw [cC j (by omega)]
  exact a3.2 j hj
def EQ3 (r : Int) (κ h : Hp) : Prop := r < 0 → ∀ j : Nat, h 3 j = κ 3 j ∧ h 4 j = κ 4 j ∧ h 5 j = κ 5 j
/-- the class's draft: numbers laid down while there is no fault -/
def HE (κ : Hp) (m e : Int) : Prop := κ 53 4 = 0 → κ 51 (m + 1).toNat = e ∧ 0 ≤ e ∧ e < 64
def CA (κ h : Hp) (m e : Int) (l : List Int) : Prop := h 53 4 = 0 → Ap (κ 52) (h 52) e (h 51 (m + 1).toNat) l
theorem CA.eq {κ h1 h2 : Hp} {m e : Int} {l : List Int} (h : CA κ h1 m e l) (h51 : h2 51 = h1 51) (h52 : h2 52 = h1 52) (hz : h2 53 4 = 0 → h1 53 4 = 0) : CA κ h2 m e l := fun z => by
  rw [h51, h52]; exact h (hz z)
theorem CA.tr {κ h1 h2 : Hp} {m e : Int} {l k : List Int} (h0 : 0 ≤ e) (a : CA κ h1 m e l) (b : CA h1 h2 m (h1 51 (m + 1).toNat) k) (hz : h2 53 4 = 0 → h1 53 4 = 0) : CA κ h2 m e (l ++ k) := fun z => Ap.tr h0 (a (hz z)) (b z)
def PB (g : Int → Int) (p : Int) (κ h : Hp) (x n m e : Int) : Prop := h 53 4 = 0 → (p + 4 * n + 3 ≤ h 53 3 ∧ h 53 3 ≤ κ 53 2) ∧ ∃ l : List Int, CuJ g p (h 53 3) x l ∧ Ap (κ 52) (h 52) e (h 51 (m + 1).toNat) l ∧ ((l.length : Nat) : Int) = 2 * n + 2
def pnL (g : Int → Int) (p k : Int) : List Int := if k = 0 then [] else if k = 1 then [nV g p] else if k = 2 then [nV g p, nV g (p + nD g p + 1)] else [nV g p, nV g (p + nD g p + 1), nV g (n2E g p + 1)]
theorem pnL_s {g : Int → Int} {p k : Int} (h : k = 1 ∨ k = 2) : pnL g p (k + 1) = pnL g p k ++ [nV g (pnE g p k + 1)] := by
  rcases h with rfl | rfl <;> rfl
theorem pnL_z {g : Int → Int} {p k : Int} (h : k = 0) : pnL g p (k + 1) = pnL g p k ++ [nV g p] := by
  subst h; rfl
theorem pnL_len {g : Int → Int} {p k : Int} (h : 0 ≤ k ∧ k ≤ 3) : (((pnL g p k).length : Nat) : Int) = k := by
  rcases (by omega : k = 0 ∨ k = 1 ∨ k = 2 ∨ k = 3) with rfl | rfl | rfl | rfl <;> rfl
theorem nl_kind {g : Int → Int} {p : Int} (r : Nat) (hr : r < 14) : nbL g (sbv 0 r) p = pnL g p (xvv 102 r) := by
  match r, hr with
  | 0, _ => rw [sbv_0, xv_102_0]; exact nl_98
  | 1, _ => rw [sbv_1, xv_102_1]; exact nl_100
  | 2, _ => rw [sbv_2, xv_102_2]; exact nl_111
  | 3, _ => rw [sbv_3, xv_102_3]; exact nl_108
  | 4, _ => rw [sbv_4, xv_102_4]; exact nl_102
  | 5, _ => rw [sbv_5, xv_102_5]; exact nl_118
  | 6, _ => rw [sbv_6, xv_102_6]; exact nl_119
  | 7, _ => rw [sbv_7, xv_102_7]; exact nl_104
  | 8, _ => rw [sbv_8, xv_102_8]; exact nl_121
  | 9, _ => rw [sbv_9, xv_102_9]; exact nl_103
  | 10, _ => rw [sbv_10, xv_102_10]; exact nl_109
  | 11, _ => rw [sbv_11, xv_102_11]; exact nl_112
  | 12, _ => rw [sbv_12, xv_102_12]; exact nl_110
  | 13, _ => rw [sbv_13, xv_102_13]; exact nl_115
def LQ (g : Int → Int) (p : Int) (κ h : Hp) (m : Int) : Prop := h 53 4 = 0 → h 50 (m + 1).toNat = g p ∧ SMx (κ 50) (h 50) (m + 1).toNat ∧ h 51 (m + 1 + 1).toNat = κ 51 (m + 1).toNat ∧ SMx (κ 51) (h 51) (m + 1 + 1).toNat ∧ h 52 = κ 52
theorem LQ.eq {g : Int → Int} {p m : Int} {κ h1 h2 : Hp} (a : LQ g p κ h1 m) (h50 : h2 50 = h1 50) (h51 : h2 51 = h1 51) (h52 : h2 52 = h1 52) (hz : h2 53 4 = 0 → h1 53 4 = 0) : LQ g p κ h2 m := fun z => by
  rw [h50, h51, h52]; exact a (hz z)
def SQ (g : Int → Int) (p : Int) (κ h : Hp) (m : Int) : Prop := h 53 4 = 0 → h 50 (m + 1).toNat = g p ∧ SMx (κ 50) (h 50) (m + 1).toNat ∧ SMx (κ 51) (h 51) (m + 1 + 1).toNat ∧ Ap (κ 52) (h 52) (κ 51 (m + 1).toNat) (h 51 (m + 1 + 1).toNat) (nbL g (g p) (p + 2))
theorem LQ.sq {g : Int → Int} {p m : Int} {κ h1 h2 : Hp} {l : List Int} (a : LQ g p κ h1 m) (h50 : h2 50 = h1 50) (s : SMx (h1 51) (h2 51) (m + 1 + 1).toNat) (c : CA h1 h2 (m + 1) (κ 51 (m + 1).toNat) l) (hl : nbL g (g p) (p + 2) = l) (hz : h2 53 4 = 0 → h1 53 4 = 0) : SQ g p κ h2 m := fun z => by
  obtain ⟨a1, a2, a3, a4, a5⟩ := a (hz z)
  have c1 := c z
  rw [a5, ← hl] at c1
  rw [h50]
  exact ⟨a1, a2, a4.tr s, c1⟩
theorem SQ.eq {g : Int → Int} {p m : Int} {κ h1 h2 : Hp} (a : SQ g p κ h1 m) (h50 : h2 50 = h1 50) (h51 : h2 51 = h1 51) (h52 : h2 52 = h1 52) (hz : h2 53 4 = 0 → h1 53 4 = 0) : SQ g p κ h2 m := fun z => by
  rw [h50, h51, h52]; exact a (hz z)
theorem nx_l {g : Int → Int} {p b : Int} (hp : 0 ≤ p) (h : nxF g p b = 0) : p + 2 ≤ nxE g p := by
  unfold nxF at h
  have h1 := nFz (sq_0r h) (by omega)
  unfold nxE
  omega
theorem n2_l {g : Int → Int} {p a b l : Int} (hp : 0 ≤ p) (h : n2F g p a b l = 0) : p + 3 ≤ n2E g p := by
  unfold n2F at h
  have h1 := nFz (sq_0l h) hp
  have h2 := nx_l (by omega) (sq_0r h)
  unfold n2E
  omega
theorem n3_l {g : Int → Int} {p a b l : Int} (hp : 0 ≤ p) (h : n3F g p a b l = 0) : p + 5 ≤ n3E g p := by
  unfold n3F at h
  have h1 := n2_l hp (sq_0l h)
  have h2 := nx_l (by omega) (sq_0r h)
  unfold n3E
  omega
theorem nb_l {g : Int → Int} {c p : Int} (hp : 0 ≤ p) (hc : 0 ≤ kd c) (h : nbF g c p = 0) : p + 2 * (((nbL g c p).length : Nat) : Int) ≤ nbE g c p + 1 := by
  rcases kd_c c with ⟨z, -⟩ | ⟨-, rfl⟩ | ⟨-, rfl⟩ | ⟨-, rfl⟩ | ⟨-, rfl⟩ | ⟨-, rfl⟩ | ⟨-, rfl⟩ | ⟨-, rfl⟩ | ⟨-, rfl⟩ | ⟨-, rfl⟩ | ⟨-, rfl⟩ | ⟨-, rfl⟩ | ⟨-, rfl⟩ | ⟨-, rfl⟩ | ⟨-, rfl⟩ | ⟨-, rfl⟩
  · omega
  · have z : nF g p _ _ = 0 := h
    have z2 := nFz z hp
    show p + 2 * ((1 : Nat) : Int) ≤ p + nD g p + 1
    omega
  · have z : nF g p _ _ = 0 := h
    have z2 := nFz z hp
    show p + 2 * ((1 : Nat) : Int) ≤ p + nD g p + 1
    omega
  · have z : nF g p _ _ = 0 := h
    have z2 := nFz z hp
    show p + 2 * ((1 : Nat) : Int) ≤ p + nD g p + 1
    omega
  · have z : nF g p _ _ = 0 := h
    have z2 := nFz z hp
    show p + 2 * ((1 : Nat) : Int) ≤ p + nD g p + 1
    omega
  · have z : nF g p _ _ = 0 := h
    have z2 := nFz z hp
    show p + 2 * ((1 : Nat) : Int) ≤ p + nD g p + 1
    omega
  · have z : nF g p _ _ = 0 := h
    have z2 := nFz z hp
    show p + 2 * ((1 : Nat) : Int) ≤ p + nD g p + 1
    omega
  · have z : nF g p _ _ = 0 := h
    have z2 := nFz z hp
    show p + 2 * ((1 : Nat) : Int) ≤ p + nD g p + 1
    omega
  · have z : nF g p _ _ = 0 := h
    have z2 := nFz z hp
    show p + 2 * ((1 : Nat) : Int) ≤ p + nD g p + 1
    omega
  · have z2 : p + 5 ≤ n3E g p := n3_l hp h
    show p + 2 * ((3 : Nat) : Int) ≤ n3E g p + 1
    omega
  · have z2 : p + 5 ≤ n3E g p := n3_l hp h
    show p + 2 * ((3 : Nat) : Int) ≤ n3E g p + 1
    omega
  · have z : nF g p _ _ = 0 := h
    have z2 := nFz z hp
    show p + 2 * ((1 : Nat) : Int) ≤ p + nD g p + 1
    omega
  · have z2 : p + 3 ≤ n2E g p := n2_l hp h
    show p + 2 * ((2 : Nat) : Int) ≤ n2E g p + 1
    omega
  · have z2 : p + 3 ≤ n2E g p := n2_l hp h
    show p + 2 * ((2 : Nat) : Int) ≤ n2E g p + 1
    omega
  · have z2 : p + 3 ≤ n2E g p := n2_l hp h
    show p + 2 * ((2 : Nat) : Int) ≤ n2E g p + 1
    omega
  · have eL : nbL g 116 p = cuL g 200 p (-1) := by
      unfold nbL
      rw [if_neg (by decide), if_neg (by decide), if_pos (by decide)]
    rw [nb_116.1] at h
    rw [nb_116.2, eL]
    have z2 := cu_l (g := g) 200 p (-1) hp (by decide) h
    rw [if_pos rfl] at z2
    exact z2
/-- the draft's rows hold m stages -/
def ARC (g : Int → Int) (m : Int) (h : Hp) : Prop := (∀ k : Nat, (k : Int) < m → h 50 (k + 1) = g (qP g k)) ∧ (∀ k : Nat, (k : Int) ≤ m → h 51 (k + 1) = (((nL g k).length : Nat) : Int)) ∧ Ls (h 52) (h 51 (m + 1).toNat) (nL g m.toNat)
theorem ARC.push {g : Int → Int} {h0 h : Hp} {p m : Int} (hm : 0 ≤ m) (A : ARC g m h0) (hp : p = qP g m.toNat) (Q : h 50 (m + 1).toNat = g p ∧ SMx (h0 50) (h 50) (m + 1).toNat ∧ SMx (h0 51) (h 51) (m + 1 + 1).toNat ∧ Ap (h0 52) (h 52) (h0 51 (m + 1).toNat) (h 51 (m + 1 + 1).toNat) (nbL g (g p) (p + 2))) : ARC g (m + 1) h := by
  obtain ⟨a1, a2, a3⟩ := A
  obtain ⟨q1, q2, q3, q4⟩ := Q
  obtain ⟨n, rfl⟩ : ∃ n : Nat, m = n := ⟨m.toNat, by omega⟩
  have t0 : ((n : Int)).toNat = n := by omega
  have t1 : ((n : Int) + 1).toNat = n + 1 := by omega
  have t2 : ((n : Int) + 1 + 1).toNat = n + 2 := by omega
  rw [t0] at hp a3
  rw [t1] at q1 q2 q4 a3
  rw [t2] at q3 q4
  rw [hp] at q1 q4
  have L : Ls (h 52) (h 51 (n + 2)) (nL g (n + 1)) := a3.ap q4
  refine ⟨fun k hk => ?_, fun k hk => ?_, ?_⟩
  · by_cases c : k = n
    · rw [c]; exact q1
    · rw [q2 (k + 1) (by omega)]; exact a1 k (by omega)
  · by_cases c : k = n + 1
    · rw [c]; exact L.1
    · rw [q3 (k + 1) (by omega)]; exact a2 k (by omega)
  · rw [t1, t2]; exact L
theorem ARC.eq {g : Int → Int} {m : Int} {h1 h2 : Hp} (a : ARC g m h1) (h50 : h2 50 = h1 50) (h51 : h2 51 = h1 51) (h52 : h2 52 = h1 52) : ARC g m h2 := by
  unfold ARC at a ⊢
  rw [h50, h51, h52]; exact a
/-- reading, behind m stages -/
def RDI (v : Int) (g : Int → Int) (m : Int) (h : Hp) : Prop := v = 1 → ARC g m h ∧ h 53 3 = qP g m.toNat ∧ 2 * h 51 (m + 1).toNat ≤ h 53 3
def RDE (v : Int) (g : Int → Int) (h : Hp) : Prop := v = 0 → h 53 4 = 0 → ARC g (h 49 0) h
def RWC (r : Int) (g : Int → Int) (A B C : Nat → Int) : Prop := 0 ≤ r → RW g r (fun k => A (k + 1)) (fun k => B (k + 1)) C
theorem ARC.rw {g : Int → Int} {h : Hp} {m : Int} (a : ARC g m h) (hm : 0 ≤ m) : RW g m (fun k => h 50 (k + 1)) (fun k => h 51 (k + 1)) (h 52) := ⟨a.1, a.2.1, fun j hj => a.2.2.2 j hj⟩
def AS4 (x m : Int) (κ h : Hp) : Prop := h 50 (m + 1).toNat = x ∧ SMx (κ 50) (h 50) (m + 1).toNat ∧ h 51 (m + 1 + 1).toNat = κ 51 (m + 1).toNat ∧ SMx (κ 51) (h 51) (m + 1 + 1).toNat
theorem AS4.eq {x m : Int} {κ h1 h2 : Hp} (a : AS4 x m κ h1) (h50 : h2 50 = h1 50) (h51 : h2 51 = h1 51) : AS4 x m κ h2 := by
  unfold AS4 at a ⊢
  rw [h50, h51]; exact a
theorem AS4.lq {x m p : Int} {κ h1 h2 : Hp} {g : Int → Int} (a : AS4 x m κ h1) (hx : x = g p) (h50 : h2 50 = h1 50) (h51 : h2 51 = h1 51) (h52 : h2 52 = κ 52) : LQ g p κ h2 m := fun _ => by
  rw [h50, h51, ← hx]; exact ⟨a.1, a.2.1, a.2.2.1, a.2.2.2, h52⟩
def AF (h : Hp) (P : Prop) : Prop := h 53 4 = 0 → P
theorem ARC0 {g : Int → Int} {h : Hp} (z : h 51 1 = 0) : ARC g 0 h := by
  refine ⟨fun k hk => by omega, fun k hk => ?_, ?_⟩
  · have e : k = 0 := by omega
    subst e
    exact z
  · show Ls (h 52) (h 51 1) []
    rw [z]; exact Ls.nil
theorem RDI.z {g : Int → Int} {h : Hp} {v : Int} (z : h 51 1 = 0) (e : h 53 3 = 0) : RDI v g 0 h := fun _ => ⟨ARC0 z, e, by show 2 * h 51 1 ≤ h 53 3; omega⟩
theorem RDE.z {g : Int → Int} {h : Hp} {v : Int} (z : h 51 1 = 0) (e : h 49 0 = 0) : RDE v g h := fun _ _ => by rw [e]; exact ARC0 z
theorem RDI.nx {g : Int → Int} {h1 h2 : Hp} {v q : Int} (v0 : 0 ≤ v) (a : ARC g (v + 1) h1) (b : h1 53 3 = sgE g q) (c : q = qP g v.toNat) (d : 2 * h1 51 (v + 1 + 1).toNat ≤ h1 53 3) (w : h2 = zwr h1 53 3 (h1 53 3 + 1)) : RDI 1 g (v + 1) h2 := fun _ => by
  have k50 : h2 50 = h1 50 := by rw [w]; exact zfun (by decide)
  have k51 : h2 51 = h1 51 := by rw [w]; exact zfun (by decide)
  have k52 : h2 52 = h1 52 := by rw [w]; exact zfun (by decide)
  have k3 : h2 53 3 = h1 53 3 + 1 := by rw [w, zwr_eq]
  refine ⟨a.eq k50 k51 k52, ?_, ?_⟩
  · rw [k3, b, c, show (v + 1).toNat = v.toNat + 1 by omega]; rfl
  · rw [k51, k3]; omega
theorem RDE.nx {g : Int → Int} {h1 h2 : Hp} {v m x : Int} (a : AF h1 (ARC g m h1)) (b : h1 53 4 = 0 → h1 49 0 = m) (w : h2 = zwr h1 53 3 x) : RDE v g h2 := fun _ z => by
  have k50 : h2 50 = h1 50 := by rw [w]; exact zfun (by decide)
  have k51 : h2 51 = h1 51 := by rw [w]; exact zfun (by decide)
  have k52 : h2 52 = h1 52 := by rw [w]; exact zfun (by decide)
  have k4 : h2 53 4 = h1 53 4 := by rw [w]; exact zwr_ne (Or.inr (by decide))
  have k0 : h2 49 0 = h1 49 0 := by rw [w]; exact zwr_ne (Or.inl (by decide))
  rw [k4] at z
  rw [k0, b z]
  exact (a z).eq k50 k51 k52
def ARCI (r : Int) (g : Int → Int) (h : Hp) : Prop := 0 ≤ r → ARC g r h
theorem ARC.cp {g : Int → Int} {h : Hp} {m : Int} {A B C : Nat → Int} (a : ARC g m h) (hm : 0 ≤ m ∧ m ≤ 12) (kc : ∀ j, 0 ≤ h 51 j ∧ h 51 j ≤ 64) (c1 : ∀ j : Nat, j < 14 → A j = h 50 j ∧ B j = h 51 j) (c2 : ∀ j : Nat, j < 64 → C j = h 52 j) : RW g m (fun k => A (k + 1)) (fun k => B (k + 1)) C := by
  obtain ⟨a1, a2, a3⟩ := a
  refine ⟨fun k hk => ?_, fun k hk => ?_, fun j hj => ?_⟩
  · show A (k + 1) = _
    rw [(c1 (k + 1) (by omega)).1]; exact a1 k hk
  · show B (k + 1) = _
    rw [(c1 (k + 1) (by omega)).2]; exact a2 k hk
  · have l := a3.1
    have b := kc (m + 1).toNat
    rw [c2 j (by omega)]
    exact a3.2 j hj
def EQC (r : Int) (κ h : Hp) : Prop := r < 0 → h 42 = κ 42 ∧ h 43 = κ 43 ∧ h 44 = κ 44
/-- the rows are the same as far as they say anything -/
def TR (m : Int) (L A N L' A' N' : Nat → Int) : Prop := (∀ k : Nat, (k : Int) < m → L k = L' k) ∧ (∀ k : Nat, (k : Int) ≤ m → A k = A' k) ∧ (∀ j : Nat, (j : Int) < A' m.toNat → N j = N' j)
theorem RW.tr {g : Int → Int} {m : Int} {L A N L' A' N' : Nat → Int} (h0 : 0 ≤ m) (a : RW g m L A N) (b : RW g m L' A' N') : TR m L A N L' A' N' := by
  refine ⟨fun k hk => (a.1 k hk).trans (b.1 k hk).symm, fun k hk => (a.2.1 k hk).trans (b.2.1 k hk).symm, fun j hj => ?_⟩
  have l := b.2.1 m.toNat (by omega)
  exact (a.2.2 j (by omega)).trans (b.2.2 j (by omega)).symm
theorem TR.cp {m m' : Int} {L A N L' A' N' L1 A1 N1 L2 A2 N2 : Nat → Int} (t : TR m L A N L' A' N') (em : m' = m) (hm : 0 ≤ m ∧ m ≤ 12) (b : ∀ j, A j ≤ 64) (c1 : ∀ j : Nat, j < 12 → L1 j = L j) (c2 : ∀ j : Nat, j < 13 → A1 j = A j) (c3 : ∀ j : Nat, j < 64 → N1 j = N j) (d1 : ∀ j : Nat, j < 12 → L2 j = L' j) (d2 : ∀ j : Nat, j < 13 → A2 j = A' j) (d3 : ∀ j : Nat, j < 64 → N2 j = N' j) : TR m' L1 A1 N1 L2 A2 N2 := by
  subst em
  refine ⟨fun k hk => by rw [c1 k (by omega), d1 k (by omega)]; exact t.1 k hk, fun k hk => by rw [c2 k (by omega), d2 k (by omega)]; exact t.2.1 k hk, fun j hj => ?_⟩
  rw [d2 _ (by omega)] at hj
  have e := t.2.1 m'.toNat (by omega)
  have b' := b m'.toNat
  rw [c3 j (by omega), d3 j (by omega)]
  exact t.2.2 j hj

abbrev q_X7_addNumberV49Q (κ : Hp) (x1 : Int) (m : Int) (e : Int) : Int → Hp → Prop := fun r h' => Fm [(51, 999), (52, 999)] κ h' ∧ ((Ap (κ 52) (h' 52) e (h' 51 (m + 1).toNat) [x1] ∧ SMx (κ 51) (h' 51) (m + 1).toNat))
set_option maxHeartbeats 4000000 in
set_option maxRecDepth 20000 in
theorem s_X7_addNumberV49Q {G : Ga} {κ : Hp} (hS : SI κ) (hR : KR κ) (hC : KC κ) (x1 : Int) (hx1 : rng x1) (m : Int) (e : Int) (hM : κ 49 0 = m ∧ 0 ≤ m ∧ m ≤ 12) (he : κ 51 (m + 1).toNat = e ∧ 0 ≤ e ∧ e < 64) : zM G mX7_addNumber yX7_addNumber [.inr (.inr 49), .inl x1] κ (q_X7_addNumberV49Q κ x1 m e) := by
  have f_41_0 := KCm hC
  have f_45_0 := KCr0 hC
  have f_49_0 := KCd0 hC
  unfold rng at hx1
  refine zM_of [some (.inr (.inr 49)), some (.inl x1), none] 1 rfl rfl (Nat.le_of_ble_eq_true rfl) rfl ?_
  refine (show ∀ h : Hp, Fm [(51, 999), (52, 999)] κ h → h = κ → zV G mX7_addNumber (q_X7_addNumberV49Q κ x1 m e) 0 [some (.inr (.inr 49)), some (.inl x1), none] [] h from fun h hF hk0 => ?_) κ (Fm.rf hS hR hC) rfl
  have y0_49_0 : h 49 0 = κ 49 0 := by rw [hk0]
  refine zW_aload_n (pc' := 1) dX7_addNumber_0.1.1.1.1 rfl rfl ?_
  refine zG_ref (pc' := 4) 51 fg_X7_15 tb49 rfl dX7_addNumber_0.1.1.1.2 rfl ?_
  refine zW_aload_n (pc' := 5) dX7_addNumber_0.1.1.2.1 rfl rfl ?_
  refine zGm (pc' := 8) hF rfl rfl fg_X7_21 tb49 rfl dX7_addNumber_0.1.1.2.2 rfl ?_
  refine zW_iconst (pc' := 9) dX7_addNumber_0.1.2.1.1 rfl ?_
  refine zW_iadd (pc' := 10) dX7_addNumber_0.1.2.1.2 rfl ?_
  refine zAmD (pc' := 11) hF tb51 (by omega) dX7_addNumber_0.1.2.2.1 rfl (fun e10 => ?_)
  refine zW_istore_n (ls' := [_, _, _]) (pc' := 12) dX7_addNumber_0.1.2.2.2 (by decide) rfl rfl rfl ?_
  have ev : h 51 (κ 49 0 + 1).toNat = e := by rw [hk0, hM.1]; exact he.1
  rw [ev]
  refine zW_iload_n (pc' := 13) dX7_addNumber_0.2.1.1.1 rfl rfl ?_
  refine zW_bipush (pc' := 15) dX7_addNumber_0.2.1.1.2 rfl rfl ?_
  refine zV_cm_ge (tgt := 39) (pc' := 18) dX7_addNumber_0.2.1.2.1 rfl rfl ⟨by omega, by omega⟩ ⟨by omega, by omega⟩ (fun c15 => ?_) (fun c15 => ?_)
  · exact zV_vret rfl dX7_addNumber_1.2.2.2 ⟨hF, by first | (exfalso; omega) | exact ⟨Ap.one (by rw [w38, hM.1, zwr_eq]; exact b38 ⟨by omega, by omega⟩) (fun j hj => by rw [w38, zwr_ne (Or.inl (by decide)), w24, zwr_ne (Or.inr (by omega)), hk0]) (by rw [w38, zwr_ne (Or.inl (by decide)), w24, zwr_eq]; exact b24 ⟨by omega, by omega⟩), fun j hj => by rw [w38, hM.1, zwr_ne (Or.inr hj), w24, zwr_ne (Or.inl (by decide)), hk0]⟩⟩
  · refine zW_aload_n (pc' := 19) dX7_addNumber_0.2.1.2.2 rfl rfl ?_
    refine zG_ref (pc' := 22) 52 fg_X7_18 tb49 rfl dX7_addNumber_0.2.2.1.1 rfl ?_
    refine zW_iload_n (pc' := 23) dX7_addNumber_0.2.2.1.2 rfl rfl ?_
    refine zW_iload_n (pc' := 24) dX7_addNumber_0.2.2.2.1 rfl rfl ?_
    refine zSm (pc' := 25) hF rfl (fun v' hv he => ⟨(SI_irr hF.2.1 (Or.inl (key_of rfl _)) (fun _ _ => hv)), (KR_irr hF.2.2.1 rfl), (KC_irr hF.2.2.2 rfl)⟩) tb52 (by omega) dX7_addNumber_0.2.2.2.2 (by decide) rfl (fun h i24 hF a24 b24 w24 => ?_)
    have t24_49_0 := congrFun (congrFun w24 49) 0
    rw [zwr_ne (Or.inl (by decide))] at t24_49_0
    refine zW_aload_n (pc' := 26) dX7_addNumber_1.1.1.1.1 rfl rfl ?_
    refine zG_ref (pc' := 29) 51 fg_X7_15 tb49 rfl dX7_addNumber_1.1.1.1.2 rfl ?_
    refine zW_aload_n (pc' := 30) dX7_addNumber_1.1.1.2 rfl rfl ?_
    refine zGm (pc' := 33) hF rfl rfl fg_X7_21 tb49 rfl dX7_addNumber_1.1.2.1.1 rfl ?_
    refine zW_iconst (pc' := 34) dX7_addNumber_1.1.2.1.2 rfl ?_
    refine zW_iadd (pc' := 35) dX7_addNumber_1.1.2.2 rfl ?_
    refine zW_iload_n (pc' := 36) dX7_addNumber_1.2.1.1.1 rfl rfl ?_
    refine zW_iconst (pc' := 37) dX7_addNumber_1.2.1.1.2 rfl ?_
    refine zW_iadd (pc' := 38) dX7_addNumber_1.2.1.2 rfl ?_
    refine zSm (pc' := 39) hF rfl (fun v' hv he => ⟨(SI_irr hF.2.1 (Or.inl (key_of rfl _)) (fun _ _ => hv)), (KR_irr hF.2.2.1 rfl), (KC_c51 hF.2.2.2 (by have := he ⟨by omega, by omega⟩; omega))⟩) tb51 (by omega) dX7_addNumber_1.2.2.1 (by decide) rfl (fun h i38 hF a38 b38 w38 => ?_)
    have t38_49_0 := congrFun (congrFun w38 49) 0
    rw [zwr_ne (Or.inl (by decide))] at t38_49_0
    exact zV_vret rfl dX7_addNumber_1.2.2.2 ⟨hF, by first | (exfalso; omega) | exact ⟨Ap.one (by rw [w38, hM.1, zwr_eq]; exact b38 ⟨by omega, by omega⟩) (fun j hj => by rw [w38, zwr_ne (Or.inl (by decide)), w24, zwr_ne (Or.inr (by omega)), hk0]) (by rw [w38, zwr_ne (Or.inl (by decide)), w24, zwr_eq]; exact b24 ⟨by omega, by omega⟩), fun j hj => by rw [w38, hM.1, zwr_ne (Or.inr hj), w24, zwr_ne (Or.inl (by decide)), hk0]⟩⟩

abbrev q_X6_readNumberQ (κ : Hp) (x1 : Int) (x2 : Int) (g : Int → Int) (p : Int) (m : Int) (e : Int) : Int → Hp → Prop := fun r h' => Fm [(53, 3), (53, 4), (51, 999), (52, 999)] κ h' ∧ ((0 ≤ r) ∧ (r ≤ 999) ∧ (h' 53 4 = sq (κ 53 4) (nF g p x1 x2) ∧ (h' 53 4 = 0 → h' 53 3 = p + nD g p ∧ r = nV g p) ∧ h' 53 4 ≤ 0 ∧ κ 53 3 ≤ h' 53 3 ∧ (h' 53 3 = κ 53 3 ∨ h' 53 3 ≤ κ 53 2) ∧ CA κ h' m e [nV g p] ∧ SMx (κ 51) (h' 51) (m + 1).toNat))
set_option maxHeartbeats 4000000 in
set_option maxRecDepth 20000 in
theorem s_X6_readNumberQ {G : Ga} {κ : Hp} (hS : SI κ) (hR : KR κ) (hC : KC κ) (x1 : Int) (hx1 : 0 ≤ x1 ∧ x1 ≤ 1000) (x2 : Int) (hx2 : 0 ≤ x2 ∧ x2 ≤ 255) (g : Int → Int) (p : Int) (m : Int) (e : Int) (hg : hr (κ 32) (κ 53 2) = g) (hn : 0 ≤ κ 53 2 ∧ κ 53 2 ≤ 120 ∧ κ 53 2 ≤ κ 31 1) (hp : κ 53 4 = 0 → κ 53 3 = p ∧ 0 ≤ p) (ha : 0 ≤ κ 53 3 ∧ κ 53 3 ≤ 200) (hz : κ 53 4 ≤ 0) (hM : κ 49 0 = m ∧ 0 ≤ m ∧ m ≤ 12) (he : HE κ m e) : zM G mX6_readNumber yX6_readNumber [.inr (.inr 53), .inl x1, .inl x2] κ (q_X6_readNumberQ κ x1 x2 g p m e) := by
  have f_31_1 := KCt hC
  have f_49_0 := KCd0 hC
  have sc := sqc (κ 53 4) (nF g p x1 x2)
  have main : ∀ N : Nat, (∀ (v3 v4 v5 : Int) (h : Hp), Fm [(53, 3), (53, 4), (51, 999), (52, 999)] κ h → (0 ≤ v3 ∧ v3 ≤ 200) → (0 ≤ v4 ∧ v4 ≤ 999) → (0 ≤ v5 ∧ v5 ≤ 3) → (v3 = p ∧ κ 53 3 = p ∧ 0 ≤ p) → (h 53 4 = 0 ∧ κ 53 4 = 0) → (h 53 3 = p + v5 ∧ (v5 = 0 ∨ p + v5 ≤ κ 53 2)) → (v4 = nVk g p v5.toNat) → (DG g p v5) → (h 51 = κ 51 ∧ h 52 = κ 52) → 19530 + 63 * (3 - v5) + 62 < (N : Int) → zV G mX6_readNumber (q_X6_readNumberQ κ x1 x2 g p m e) 20 [some (.inr (.inr 53)), some (.inl x1), some (.inl x2), some (.inl v3), some (.inl v4), some (.inl v5)] [] h) := by
    intro N
    induction N with
    | zero =>
      intro v3 v4 v5 h hF g0 g1 g2 gc0 gc1 gc2 gc3 gc4 gc5 hm
      exfalso; omega
    | succ N ih =>
      have k20 := ih
      intro v3 v4 v5 h hF g0 g1 g2 gc0 gc1 gc2 gc3 gc4 gc5 hm
      have h51 := gc5.1
      have h52 := gc5.2
      refine zW_iload (pc' := 22) dX6_readNumber_0.2.2.1.1 rfl rfl ?_
      refine zW_iconst (pc' := 23) dX6_readNumber_0.2.2.1.2 rfl ?_
      refine zV_cm_ge (tgt := 64) (pc' := 26) dX6_readNumber_0.2.2.2.1 rfl rfl ⟨by omega, by omega⟩ ⟨by omega, by omega⟩ (fun c23 => ?_) (fun c23 => ?_)
      · refine zW_aload_n (pc' := 65) dX6_readNumber_2.1.1.2.2 rfl rfl ?_
        refine zG_int (pc' := 68) fg_X6_29 tb53 rfl dX6_readNumber_2.1.2.1.1 rfl ?_
        have e65 := hF.rh 53 3
        refine zW_iload_n (pc' := 69) dX6_readNumber_2.1.2.1.2 rfl rfl ?_
        refine zV_cm_ne (tgt := 84) (pc' := 72) dX6_readNumber_2.1.2.2.1 rfl rfl ⟨by omega, by omega⟩ ⟨by omega, by omega⟩ (fun c69 => ?_) (fun c69 => ?_)
        · refine zW_aload_n (pc' := 85) dX6_readNumber_2.2.2.1.2 rfl rfl ?_
          have y85_31_1 := hF.1 31 1 rfl rfl
          have y85_53_2 := hF.1 53 2 rfl rfl
          refine cvI0 (pc' := 88) kX6_isDigit vX6_isDigit lk_X6_94 ⟨Nat.le_of_ble_eq_true rfl, Nat.le_of_ble_eq_true rfl⟩ tb53 vq6 rfl rfl (s_X6_isDigitP (b := bdB true) (κ := h) hF.2.2.2 (Fr.rf hF.2.1) g (p + v5) (by rw [hF.cell 32 rfl (fun _ => rfl), hF.1 53 2 rfl rfl]; exact hg) (by omega) (by omega)) dX6_readNumber_2.2.2.2.1 (Nat.le_of_ble_eq_true rfl) rfl ?_
          rintro r85 z85 ⟨hz85, p85⟩; subst z85
          refine zV_if_eq (tgt := 103) (pc' := 91) dX6_readNumber_2.2.2.2.2 rfl rfl ⟨by omega, by omega⟩ (fun c88 => ?_) (fun c88 => ?_)
          · have nd := nD_end ⟨by omega, by omega⟩ gc4 (fun q => absurd (p85.2.2.1.mpr q) (by omega))
            have nf := nFc g p x1 x2
            have v51 : 1 ≤ v5 := by omega
            clear p85
            refine zW_iload (pc' := 105) dX6_readNumber_3.1.2.2.1 rfl rfl ?_
            refine zW_iload_n (pc' := 106) dX6_readNumber_3.1.2.2.2 rfl rfl ?_
            refine zV_cm_lt (tgt := 115) (pc' := 109) dX6_readNumber_3.2.1.1.1 rfl rfl ⟨by omega, by omega⟩ ⟨by omega, by omega⟩ (fun c106 => ?_) (fun c106 => ?_)
            · refine zW_aload_n (pc' := 116) dX6_readNumber_3.2.2.1.1 rfl rfl ?_
              refine zW_iconst (pc' := 117) dX6_readNumber_3.2.2.1.2 rfl ?_
              refine zW_iload_n (pc' := 118) dX6_readNumber_3.2.2.2.1 rfl rfl ?_
              refine cvV2 (pc' := 121) kX6_tell vX6_tell lk_X6_59 ⟨Nat.le_of_ble_eq_true rfl, Nat.le_of_ble_eq_true rfl⟩ tb53 vq6 rfl rfl (s_X6_tellP hF.2.1 hF.2.2.1 hF.2.2.2 _ ⟨by omega, by omega⟩ _ ⟨by omega, by omega⟩) dX6_readNumber_3.2.2.2.2 (Nat.le_of_ble_eq_true rfl) rfl ?_
              rintro r118 h ⟨hF1, p118⟩; replace hF := hF.tr hF1 rfl
              replace h51 : h 51 = κ 51 := (hF1.cell 51 rfl (fun _ => rfl)).trans h51
              replace h52 : h 52 = κ 52 := (hF1.cell 52 rfl (fun _ => rfl)).trans h52
              have t118_53_3 := hF1.1 53 3 rfl rfl
              refine zV_goto 133 dX6_readNumber_4.1.1.1 rfl ?_
              first | (have ev4 : v4 = nV g p := (by omega); have apx := p130.1; rw [h52, ev4] at apx; have smx := p130.2; rw [h51] at smx) | skip
              refine zW_iload (pc' := 135) dX6_readNumber_4.2.1.2 rfl rfl ?_
              exact zV_iret rfl dX6_readNumber_4.2.2 ⟨hF, by refine ⟨by omega, by omega, by omega, by omega, by omega, by omega, by omega, ?_, ?_⟩; (first | exact (fun _ => apx) | exact (fun z => absurd z (by omega))); (first | exact smx | (rw [h51]; exact SMx.rf))⟩
            · refine zW_iload (pc' := 111) dX6_readNumber_3.2.1.1.2 rfl rfl ?_
              refine zW_iload_n (pc' := 112) dX6_readNumber_3.2.1.2.1 rfl rfl ?_
              refine zV_cm_le (tgt := 124) (pc' := 115) dX6_readNumber_3.2.1.2.2 rfl rfl ⟨by omega, by omega⟩ ⟨by omega, by omega⟩ (fun c112 => ?_) (fun c112 => ?_)
              · refine zW_aload_n (pc' := 125) dX6_readNumber_4.1.1.2 rfl rfl ?_
                refine zG_ref (pc' := 128) 49 fg_X6_12 tb53 rfl dX6_readNumber_4.1.2.1 rfl ?_
                refine zW_iload (pc' := 130) dX6_readNumber_4.1.2.2 rfl rfl ?_
                have y130_49_0 := hF.1 49 0 rfl rfl
                refine cvV1 (pc' := 133) kX7_addNumber vX7_addNumber lk_X6_98 ⟨Nat.le_of_ble_eq_true rfl, Nat.le_of_ble_eq_true rfl⟩ tb49 vq7 rfl rfl (s_X7_addNumberV49Q hF.2.1 hF.2.2.1 hF.2.2.2 _ ⟨by omega, by omega⟩ m e ⟨(hF.1 49 0 rfl rfl).trans hM.1, hM.2⟩ (by rw [h51]; exact he (by omega))) dX6_readNumber_4.2.1.1 (Nat.le_of_ble_eq_true rfl) rfl ?_
                rintro r130 h ⟨hF1, p130⟩; replace hF := hF.tr hF1 rfl
                have t130_53_3 := hF1.1 53 3 rfl rfl
                have t130_53_4 := hF1.1 53 4 rfl rfl
                first | (have ev4 : v4 = nV g p := (by omega); have apx := p130.1; rw [h52, ev4] at apx; have smx := p130.2; rw [h51] at smx) | skip
                refine zW_iload (pc' := 135) dX6_readNumber_4.2.1.2 rfl rfl ?_
                exact zV_iret rfl dX6_readNumber_4.2.2 ⟨hF, by refine ⟨by omega, by omega, by omega, by omega, by omega, by omega, by omega, ?_, ?_⟩; (first | exact (fun _ => apx) | exact (fun z => absurd z (by omega))); (first | exact smx | (rw [h51]; exact SMx.rf))⟩
              · refine zW_aload_n (pc' := 116) dX6_readNumber_3.2.2.1.1 rfl rfl ?_
                refine zW_iconst (pc' := 117) dX6_readNumber_3.2.2.1.2 rfl ?_
                refine zW_iload_n (pc' := 118) dX6_readNumber_3.2.2.2.1 rfl rfl ?_
                refine cvV2 (pc' := 121) kX6_tell vX6_tell lk_X6_59 ⟨Nat.le_of_ble_eq_true rfl, Nat.le_of_ble_eq_true rfl⟩ tb53 vq6 rfl rfl (s_X6_tellP hF.2.1 hF.2.2.1 hF.2.2.2 _ ⟨by omega, by omega⟩ _ ⟨by omega, by omega⟩) dX6_readNumber_3.2.2.2.2 (Nat.le_of_ble_eq_true rfl) rfl ?_
                rintro r118 h ⟨hF1, p118⟩; replace hF := hF.tr hF1 rfl
                replace h51 : h 51 = κ 51 := (hF1.cell 51 rfl (fun _ => rfl)).trans h51
                replace h52 : h 52 = κ 52 := (hF1.cell 52 rfl (fun _ => rfl)).trans h52
                have t118_53_3 := hF1.1 53 3 rfl rfl
                refine zV_goto 133 dX6_readNumber_4.1.1.1 rfl ?_
                first | (have ev4 : v4 = nV g p := (by omega); have apx := p130.1; rw [h52, ev4] at apx; have smx := p130.2; rw [h51] at smx) | skip
                refine zW_iload (pc' := 135) dX6_readNumber_4.2.1.2 rfl rfl ?_
                exact zV_iret rfl dX6_readNumber_4.2.2 ⟨hF, by refine ⟨by omega, by omega, by omega, by omega, by omega, by omega, by omega, ?_, ?_⟩; (first | exact (fun _ => apx) | exact (fun z => absurd z (by omega))); (first | exact smx | (rw [h51]; exact SMx.rf))⟩
          · have nd : nD g p = 4 ∧ v5 = 3 := by first | (exfalso; omega) | exact ⟨nD_4 (by rw [show (3 : Int) = v5 by omega]; exact gc4) (by rw [show p + 3 = p + v5 by omega]; exact p85.2.2.1.mp (by omega)), by omega⟩
            have nf := nFc g p x1 x2
            refine zW_aload_n (pc' := 92) dX6_readNumber_3.1.1.1.1 rfl rfl ?_
            refine zW_iconst (pc' := 93) dX6_readNumber_3.1.1.1.2 rfl ?_
            refine zW_aload_n (pc' := 94) dX6_readNumber_3.1.1.2.1 rfl rfl ?_
            refine zG_int (pc' := 97) fg_X6_29 tb53 rfl dX6_readNumber_3.1.1.2.2 rfl ?_
            have e94 := hF.rh 53 3
            refine cvV2 (pc' := 100) kX6_tell vX6_tell lk_X6_59 ⟨Nat.le_of_ble_eq_true rfl, Nat.le_of_ble_eq_true rfl⟩ tb53 vq6 rfl rfl (s_X6_tellP hF.2.1 hF.2.2.1 hF.2.2.2 _ ⟨by omega, by omega⟩ _ ⟨by omega, by omega⟩) dX6_readNumber_3.1.2.1.1 (Nat.le_of_ble_eq_true rfl) rfl ?_
            rintro r97 h ⟨hF1, p97⟩; replace hF := hF.tr hF1 rfl
            replace h51 : h 51 = κ 51 := (hF1.cell 51 rfl (fun _ => rfl)).trans h51
            replace h52 : h 52 = κ 52 := (hF1.cell 52 rfl (fun _ => rfl)).trans h52
            have t97_53_3 := hF1.1 53 3 rfl rfl
            refine zV_goto 133 dX6_readNumber_3.1.2.1.2 rfl ?_
            first | (have ev4 : v4 = nV g p := (by omega); have apx := p130.1; rw [h52, ev4] at apx; have smx := p130.2; rw [h51] at smx) | skip
            refine zW_iload (pc' := 135) dX6_readNumber_4.2.1.2 rfl rfl ?_
            exact zV_iret rfl dX6_readNumber_4.2.2 ⟨hF, by refine ⟨by omega, by omega, by omega, by omega, by omega, by omega, by omega, ?_, ?_⟩; (first | exact (fun _ => apx) | exact (fun z => absurd z (by omega))); (first | exact smx | (rw [h51]; exact SMx.rf))⟩
        · have nd : nD g p = 0 := by first | (exfalso; omega) | (have z := (nD_end ⟨by omega, by omega⟩ gc4 (fun q => absurd (p27.2.2.1.mpr q) (by omega))).1; omega)
          have nf := nFc g p x1 x2
          refine zW_aload_n (pc' := 73) dX6_readNumber_2.1.2.2.2 rfl rfl ?_
          refine zW_iconst (pc' := 74) dX6_readNumber_2.2.1.1.1 rfl ?_
          refine zW_aload_n (pc' := 75) dX6_readNumber_2.2.1.1.2 rfl rfl ?_
          refine zG_int (pc' := 78) fg_X6_29 tb53 rfl dX6_readNumber_2.2.1.2.1 rfl ?_
          have e75 := hF.rh 53 3
          refine cvV2 (pc' := 81) kX6_tell vX6_tell lk_X6_59 ⟨Nat.le_of_ble_eq_true rfl, Nat.le_of_ble_eq_true rfl⟩ tb53 vq6 rfl rfl (s_X6_tellP hF.2.1 hF.2.2.1 hF.2.2.2 _ ⟨by omega, by omega⟩ _ ⟨by omega, by omega⟩) dX6_readNumber_2.2.1.2.2 (Nat.le_of_ble_eq_true rfl) rfl ?_
          rintro r78 h ⟨hF1, p78⟩; replace hF := hF.tr hF1 rfl
          replace h51 : h 51 = κ 51 := (hF1.cell 51 rfl (fun _ => rfl)).trans h51
          replace h52 : h 52 = κ 52 := (hF1.cell 52 rfl (fun _ => rfl)).trans h52
          have t78_53_3 := hF1.1 53 3 rfl rfl
          refine zV_goto 133 dX6_readNumber_2.2.2.1.1 rfl ?_
          first | (have ev4 : v4 = nV g p := (by omega); have apx := p130.1; rw [h52, ev4] at apx; have smx := p130.2; rw [h51] at smx) | skip
          refine zW_iload (pc' := 135) dX6_readNumber_4.2.1.2 rfl rfl ?_
          exact zV_iret rfl dX6_readNumber_4.2.2 ⟨hF, by refine ⟨by omega, by omega, by omega, by omega, by omega, by omega, by omega, ?_, ?_⟩; (first | exact (fun _ => apx) | exact (fun z => absurd z (by omega))); (first | exact smx | (rw [h51]; exact SMx.rf))⟩
      · refine zW_aload_n (pc' := 27) dX6_readNumber_0.2.2.2.2 rfl rfl ?_
        have y27_31_1 := hF.1 31 1 rfl rfl
        have y27_53_2 := hF.1 53 2 rfl rfl
        refine cvI0 (pc' := 30) kX6_isDigit vX6_isDigit lk_X6_94 ⟨Nat.le_of_ble_eq_true rfl, Nat.le_of_ble_eq_true rfl⟩ tb53 vq6 rfl rfl (s_X6_isDigitP (b := bdB true) (κ := h) hF.2.2.2 (Fr.rf hF.2.1) g (p + v5) (by rw [hF.cell 32 rfl (fun _ => rfl), hF.1 53 2 rfl rfl]; exact hg) (by omega) (by omega)) dX6_readNumber_1.1.1.1.1 (Nat.le_of_ble_eq_true rfl) rfl ?_
        rintro r27 z27 ⟨hz27, p27⟩; subst z27
        refine zV_if_eq (tgt := 64) (pc' := 33) dX6_readNumber_1.1.1.1.2 rfl rfl ⟨by omega, by omega⟩ (fun c30 => ?_) (fun c30 => ?_)
        · refine zW_aload_n (pc' := 65) dX6_readNumber_2.1.1.2.2 rfl rfl ?_
          refine zG_int (pc' := 68) fg_X6_29 tb53 rfl dX6_readNumber_2.1.2.1.1 rfl ?_
          have e65 := hF.rh 53 3
          refine zW_iload_n (pc' := 69) dX6_readNumber_2.1.2.1.2 rfl rfl ?_
          refine zV_cm_ne (tgt := 84) (pc' := 72) dX6_readNumber_2.1.2.2.1 rfl rfl ⟨by omega, by omega⟩ ⟨by omega, by omega⟩ (fun c69 => ?_) (fun c69 => ?_)
          · refine zW_aload_n (pc' := 85) dX6_readNumber_2.2.2.1.2 rfl rfl ?_
            have y85_31_1 := hF.1 31 1 rfl rfl
            have y85_53_2 := hF.1 53 2 rfl rfl
            refine cvI0 (pc' := 88) kX6_isDigit vX6_isDigit lk_X6_94 ⟨Nat.le_of_ble_eq_true rfl, Nat.le_of_ble_eq_true rfl⟩ tb53 vq6 rfl rfl (s_X6_isDigitP (b := bdB true) (κ := h) hF.2.2.2 (Fr.rf hF.2.1) g (p + v5) (by rw [hF.cell 32 rfl (fun _ => rfl), hF.1 53 2 rfl rfl]; exact hg) (by omega) (by omega)) dX6_readNumber_2.2.2.2.1 (Nat.le_of_ble_eq_true rfl) rfl ?_
            rintro r85 z85 ⟨hz85, p85⟩; subst z85
            refine zV_if_eq (tgt := 103) (pc' := 91) dX6_readNumber_2.2.2.2.2 rfl rfl ⟨by omega, by omega⟩ (fun c88 => ?_) (fun c88 => ?_)
            · have nd := nD_end ⟨by omega, by omega⟩ gc4 (fun q => absurd (p85.2.2.1.mpr q) (by omega))
              have nf := nFc g p x1 x2
              have v51 : 1 ≤ v5 := by omega
              clear p85
              refine zW_iload (pc' := 105) dX6_readNumber_3.1.2.2.1 rfl rfl ?_
              refine zW_iload_n (pc' := 106) dX6_readNumber_3.1.2.2.2 rfl rfl ?_
              refine zV_cm_lt (tgt := 115) (pc' := 109) dX6_readNumber_3.2.1.1.1 rfl rfl ⟨by omega, by omega⟩ ⟨by omega, by omega⟩ (fun c106 => ?_) (fun c106 => ?_)
              · refine zW_aload_n (pc' := 116) dX6_readNumber_3.2.2.1.1 rfl rfl ?_
                refine zW_iconst (pc' := 117) dX6_readNumber_3.2.2.1.2 rfl ?_
                refine zW_iload_n (pc' := 118) dX6_readNumber_3.2.2.2.1 rfl rfl ?_
                refine cvV2 (pc' := 121) kX6_tell vX6_tell lk_X6_59 ⟨Nat.le_of_ble_eq_true rfl, Nat.le_of_ble_eq_true rfl⟩ tb53 vq6 rfl rfl (s_X6_tellP hF.2.1 hF.2.2.1 hF.2.2.2 _ ⟨by omega, by omega⟩ _ ⟨by omega, by omega⟩) dX6_readNumber_3.2.2.2.2 (Nat.le_of_ble_eq_true rfl) rfl ?_
                rintro r118 h ⟨hF1, p118⟩; replace hF := hF.tr hF1 rfl
                replace h51 : h 51 = κ 51 := (hF1.cell 51 rfl (fun _ => rfl)).trans h51
                replace h52 : h 52 = κ 52 := (hF1.cell 52 rfl (fun _ => rfl)).trans h52
                have t118_53_3 := hF1.1 53 3 rfl rfl
                refine zV_goto 133 dX6_readNumber_4.1.1.1 rfl ?_
                first | (have ev4 : v4 = nV g p := (by omega); have apx := p130.1; rw [h52, ev4] at apx; have smx := p130.2; rw [h51] at smx) | skip
                refine zW_iload (pc' := 135) dX6_readNumber_4.2.1.2 rfl rfl ?_
                exact zV_iret rfl dX6_readNumber_4.2.2 ⟨hF, by refine ⟨by omega, by omega, by omega, by omega, by omega, by omega, by omega, ?_, ?_⟩; (first | exact (fun _ => apx) | exact (fun z => absurd z (by omega))); (first | exact smx | (rw [h51]; exact SMx.rf))⟩
              · refine zW_iload (pc' := 111) dX6_readNumber_3.2.1.1.2 rfl rfl ?_
                refine zW_iload_n (pc' := 112) dX6_readNumber_3.2.1.2.1 rfl rfl ?_
                refine zV_cm_le (tgt := 124) (pc' := 115) dX6_readNumber_3.2.1.2.2 rfl rfl ⟨by omega, by omega⟩ ⟨by omega, by omega⟩ (fun c112 => ?_) (fun c112 => ?_)
                · refine zW_aload_n (pc' := 125) dX6_readNumber_4.1.1.2 rfl rfl ?_
                  refine zG_ref (pc' := 128) 49 fg_X6_12 tb53 rfl dX6_readNumber_4.1.2.1 rfl ?_
                  refine zW_iload (pc' := 130) dX6_readNumber_4.1.2.2 rfl rfl ?_
                  have y130_49_0 := hF.1 49 0 rfl rfl
                  refine cvV1 (pc' := 133) kX7_addNumber vX7_addNumber lk_X6_98 ⟨Nat.le_of_ble_eq_true rfl, Nat.le_of_ble_eq_true rfl⟩ tb49 vq7 rfl rfl (s_X7_addNumberV49Q hF.2.1 hF.2.2.1 hF.2.2.2 _ ⟨by omega, by omega⟩ m e ⟨(hF.1 49 0 rfl rfl).trans hM.1, hM.2⟩ (by rw [h51]; exact he (by omega))) dX6_readNumber_4.2.1.1 (Nat.le_of_ble_eq_true rfl) rfl ?_
                  rintro r130 h ⟨hF1, p130⟩; replace hF := hF.tr hF1 rfl
                  have t130_53_3 := hF1.1 53 3 rfl rfl
                  have t130_53_4 := hF1.1 53 4 rfl rfl
                  first | (have ev4 : v4 = nV g p := (by omega); have apx := p130.1; rw [h52, ev4] at apx; have smx := p130.2; rw [h51] at smx) | skip
                  refine zW_iload (pc' := 135) dX6_readNumber_4.2.1.2 rfl rfl ?_
                  exact zV_iret rfl dX6_readNumber_4.2.2 ⟨hF, by refine ⟨by omega, by omega, by omega, by omega, by omega, by omega, by omega, ?_, ?_⟩; (first | exact (fun _ => apx) | exact (fun z => absurd z (by omega))); (first | exact smx | (rw [h51]; exact SMx.rf))⟩
                · refine zW_aload_n (pc' := 116) dX6_readNumber_3.2.2.1.1 rfl rfl ?_
                  refine zW_iconst (pc' := 117) dX6_readNumber_3.2.2.1.2 rfl ?_
                  refine zW_iload_n (pc' := 118) dX6_readNumber_3.2.2.2.1 rfl rfl ?_
                  refine cvV2 (pc' := 121) kX6_tell vX6_tell lk_X6_59 ⟨Nat.le_of_ble_eq_true rfl, Nat.le_of_ble_eq_true rfl⟩ tb53 vq6 rfl rfl (s_X6_tellP hF.2.1 hF.2.2.1 hF.2.2.2 _ ⟨by omega, by omega⟩ _ ⟨by omega, by omega⟩) dX6_readNumber_3.2.2.2.2 (Nat.le_of_ble_eq_true rfl) rfl ?_
                  rintro r118 h ⟨hF1, p118⟩; replace hF := hF.tr hF1 rfl
                  replace h51 : h 51 = κ 51 := (hF1.cell 51 rfl (fun _ => rfl)).trans h51
                  replace h52 : h 52 = κ 52 := (hF1.cell 52 rfl (fun _ => rfl)).trans h52
                  have t118_53_3 := hF1.1 53 3 rfl rfl
                  refine zV_goto 133 dX6_readNumber_4.1.1.1 rfl ?_
                  first | (have ev4 : v4 = nV g p := (by omega); have apx := p130.1; rw [h52, ev4] at apx; have smx := p130.2; rw [h51] at smx) | skip
                  refine zW_iload (pc' := 135) dX6_readNumber_4.2.1.2 rfl rfl ?_
                  exact zV_iret rfl dX6_readNumber_4.2.2 ⟨hF, by refine ⟨by omega, by omega, by omega, by omega, by omega, by omega, by omega, ?_, ?_⟩; (first | exact (fun _ => apx) | exact (fun z => absurd z (by omega))); (first | exact smx | (rw [h51]; exact SMx.rf))⟩
            · have nd : nD g p = 4 ∧ v5 = 3 := by first | (exfalso; omega) | exact ⟨nD_4 (by rw [show (3 : Int) = v5 by omega]; exact gc4) (by rw [show p + 3 = p + v5 by omega]; exact p85.2.2.1.mp (by omega)), by omega⟩
              have nf := nFc g p x1 x2
              refine zW_aload_n (pc' := 92) dX6_readNumber_3.1.1.1.1 rfl rfl ?_
              refine zW_iconst (pc' := 93) dX6_readNumber_3.1.1.1.2 rfl ?_
              refine zW_aload_n (pc' := 94) dX6_readNumber_3.1.1.2.1 rfl rfl ?_
              refine zG_int (pc' := 97) fg_X6_29 tb53 rfl dX6_readNumber_3.1.1.2.2 rfl ?_
              have e94 := hF.rh 53 3
              refine cvV2 (pc' := 100) kX6_tell vX6_tell lk_X6_59 ⟨Nat.le_of_ble_eq_true rfl, Nat.le_of_ble_eq_true rfl⟩ tb53 vq6 rfl rfl (s_X6_tellP hF.2.1 hF.2.2.1 hF.2.2.2 _ ⟨by omega, by omega⟩ _ ⟨by omega, by omega⟩) dX6_readNumber_3.1.2.1.1 (Nat.le_of_ble_eq_true rfl) rfl ?_
              rintro r97 h ⟨hF1, p97⟩; replace hF := hF.tr hF1 rfl
              replace h51 : h 51 = κ 51 := (hF1.cell 51 rfl (fun _ => rfl)).trans h51
              replace h52 : h 52 = κ 52 := (hF1.cell 52 rfl (fun _ => rfl)).trans h52
              have t97_53_3 := hF1.1 53 3 rfl rfl
              refine zV_goto 133 dX6_readNumber_3.1.2.1.2 rfl ?_
              first | (have ev4 : v4 = nV g p := (by omega); have apx := p130.1; rw [h52, ev4] at apx; have smx := p130.2; rw [h51] at smx) | skip
              refine zW_iload (pc' := 135) dX6_readNumber_4.2.1.2 rfl rfl ?_
              exact zV_iret rfl dX6_readNumber_4.2.2 ⟨hF, by refine ⟨by omega, by omega, by omega, by omega, by omega, by omega, by omega, ?_, ?_⟩; (first | exact (fun _ => apx) | exact (fun z => absurd z (by omega))); (first | exact smx | (rw [h51]; exact SMx.rf))⟩
          · have nd : nD g p = 0 := by first | (exfalso; omega) | (have z := (nD_end ⟨by omega, by omega⟩ gc4 (fun q => absurd (p27.2.2.1.mpr q) (by omega))).1; omega)
            have nf := nFc g p x1 x2
            refine zW_aload_n (pc' := 73) dX6_readNumber_2.1.2.2.2 rfl rfl ?_
            refine zW_iconst (pc' := 74) dX6_readNumber_2.2.1.1.1 rfl ?_
            refine zW_aload_n (pc' := 75) dX6_readNumber_2.2.1.1.2 rfl rfl ?_
            refine zG_int (pc' := 78) fg_X6_29 tb53 rfl dX6_readNumber_2.2.1.2.1 rfl ?_
            have e75 := hF.rh 53 3
            refine cvV2 (pc' := 81) kX6_tell vX6_tell lk_X6_59 ⟨Nat.le_of_ble_eq_true rfl, Nat.le_of_ble_eq_true rfl⟩ tb53 vq6 rfl rfl (s_X6_tellP hF.2.1 hF.2.2.1 hF.2.2.2 _ ⟨by omega, by omega⟩ _ ⟨by omega, by omega⟩) dX6_readNumber_2.2.1.2.2 (Nat.le_of_ble_eq_true rfl) rfl ?_
            rintro r78 h ⟨hF1, p78⟩; replace hF := hF.tr hF1 rfl
            replace h51 : h 51 = κ 51 := (hF1.cell 51 rfl (fun _ => rfl)).trans h51
            replace h52 : h 52 = κ 52 := (hF1.cell 52 rfl (fun _ => rfl)).trans h52
            have t78_53_3 := hF1.1 53 3 rfl rfl
            refine zV_goto 133 dX6_readNumber_2.2.2.1.1 rfl ?_
            first | (have ev4 : v4 = nV g p := (by omega); have apx := p130.1; rw [h52, ev4] at apx; have smx := p130.2; rw [h51] at smx) | skip
            refine zW_iload (pc' := 135) dX6_readNumber_4.2.1.2 rfl rfl ?_
            exact zV_iret rfl dX6_readNumber_4.2.2 ⟨hF, by refine ⟨by omega, by omega, by omega, by omega, by omega, by omega, by omega, ?_, ?_⟩; (first | exact (fun _ => apx) | exact (fun z => absurd z (by omega))); (first | exact smx | (rw [h51]; exact SMx.rf))⟩
        · have bd := nVk_b gc4 ⟨by omega, by omega⟩
          have dg1 : 48 ≤ g (p + v5) ∧ g (p + v5) ≤ 57 := p27.2.2.1.mp (by omega)
          have dgn := DG_s gc4 dg1
          refine zW_bipush (pc' := 35) dX6_readNumber_1.1.1.2.1 rfl rfl ?_
          refine zW_iload (pc' := 37) dX6_readNumber_1.1.1.2.2 rfl rfl ?_
          refine zW_imul (pc' := 38) dX6_readNumber_1.1.2.1.1 rfl ?_
          refine zW_aload_n (pc' := 39) dX6_readNumber_1.1.2.1.2 rfl rfl ?_
          have y39_31_1 := hF.1 31 1 rfl rfl
          have y39_53_2 := hF.1 53 2 rfl rfl
          refine cvI0 (pc' := 42) kX6_here vX6_here lk_X6_56 ⟨Nat.le_of_ble_eq_true rfl, Nat.le_of_ble_eq_true rfl⟩ tb53 vq6 rfl rfl (s_X6_hereP (b := bdB true) (κ := h) hF.2.2.2 (Fr.rf hF.2.1) g (p + v5) (by rw [hF.cell 32 rfl (fun _ => rfl), hF.1 53 2 rfl rfl]; exact hg) (by omega) (by omega)) dX6_readNumber_1.1.2.2.1 (Nat.le_of_ble_eq_true rfl) rfl ?_
          rintro r39 z39 ⟨hz39, p39⟩; subst z39
          refine zW_iadd (pc' := 43) dX6_readNumber_1.1.2.2.2 rfl ?_
          refine zW_bipush (pc' := 45) dX6_readNumber_1.2.1.1.1 rfl rfl ?_
          refine zW_isub (pc' := 46) dX6_readNumber_1.2.1.1.2 rfl ?_
          refine zW_istore (ls' := [_, _, _, _, _, _]) (pc' := 48) dX6_readNumber_1.2.1.2.1 (by decide) rfl rfl rfl ?_
          refine zW_aload_n (pc' := 49) dX6_readNumber_1.2.1.2.2 rfl rfl ?_
          refine zW_dup (pc' := 50) dX6_readNumber_1.2.2.1.1 rfl rfl ?_
          refine zG_int (pc' := 53) fg_X6_29 tb53 rfl dX6_readNumber_1.2.2.1.2 rfl ?_
          have e50 := hF.rh 53 3
          refine zW_iconst (pc' := 54) dX6_readNumber_1.2.2.2.1 rfl ?_
          refine zW_iadd (pc' := 55) dX6_readNumber_1.2.2.2.2 rfl ?_
          refine zPm (pc' := 58) hF (Or.inl rfl) (SI_irr hF.2.1 (Or.inl rfl) (fun _ _ => ⟨by omega, by omega⟩)) (KR_irr hF.2.2.1 rfl) (KC_irr hF.2.2.2 rfl) fp_X6_29 tb53 rfl dX6_readNumber_2.1.1.1.1 rfl (fun h hF w55 => ?_)
          replace h51 : h 51 = κ 51 := by rw [w55]; exact (zfun (by decide)).trans h51
          replace h52 : h 52 = κ 52 := by rw [w55]; exact (zfun (by decide)).trans h52
          have t55_53_3 := congrFun (congrFun w55 53) 3
          rw [zwr_eq] at t55_53_3
          have t55_53_4 := congrFun (congrFun w55 53) 4
          rw [zwr_ne (Or.inr (by decide))] at t55_53_4
          refine zW_iinc (ls' := [_, _, _, _, _, _]) (pc' := 61) dX6_readNumber_2.1.1.1.2 rfl (by decide) rfl rfl rfl ?_
          refine zV_goto 20 dX6_readNumber_2.1.1.2.1 rfl ?_
          exact k20 _ _ _ _ hF (by omega) (by omega) (by omega) (by omega) (by omega) (by omega) (by first | rfl | (rw [nVk_s (by omega)]; omega)) (by first | exact dgn | exact DG_0) ⟨h51, h52⟩ (by omega)
  refine zM_of [some (.inr (.inr 53)), some (.inl x1), some (.inl x2), none, none, none] 3 rfl rfl (Nat.le_of_ble_eq_true rfl) rfl ?_
  refine (show ∀ h : Hp, Fm [(53, 3), (53, 4), (51, 999), (52, 999)] κ h → h = κ → zV G mX6_readNumber (q_X6_readNumberQ κ x1 x2 g p m e) 0 [some (.inr (.inr 53)), some (.inl x1), some (.inl x2), none, none, none] [] h from fun h hF hk0 => ?_) κ (Fm.rf hS hR hC) rfl
  have y0_53_3 : h 53 3 = κ 53 3 := by rw [hk0]
  have y0_53_4 : h 53 4 = κ 53 4 := by rw [hk0]
  have h51 : h 51 = κ 51 := by rw [hk0]
  have h52 : h 52 = κ 52 := by rw [hk0]
  refine zW_aload_n (pc' := 1) dX6_readNumber_0.1.1.1.1 rfl rfl ?_
  refine zG_int (pc' := 4) fg_X6_32 tb53 rfl dX6_readNumber_0.1.1.1.2 rfl ?_
  have e1 := hF.rh 53 4
  refine zV_if_eq (tgt := 9) (pc' := 7) dX6_readNumber_0.1.1.2.1 rfl rfl ⟨by omega, by omega⟩ (fun c4 => ?_) (fun c4 => ?_)
  · refine zW_aload_n (pc' := 10) dX6_readNumber_0.1.2.1.2 rfl rfl ?_
    refine zG_int (pc' := 13) fg_X6_29 tb53 rfl dX6_readNumber_0.1.2.2.1 rfl ?_
    have e10 := hF.rh 53 3
    refine zW_istore_n (ls' := [_, _, _, _, _, _]) (pc' := 14) dX6_readNumber_0.1.2.2.2 (by decide) rfl rfl rfl ?_
    refine zW_iconst (pc' := 15) dX6_readNumber_0.2.1.1.1 rfl ?_
    refine zW_istore (ls' := [_, _, _, _, _, _]) (pc' := 17) dX6_readNumber_0.2.1.1.2 (by decide) rfl rfl rfl ?_
    refine zW_iconst (pc' := 18) dX6_readNumber_0.2.1.2.1 rfl ?_
    refine zW_istore (ls' := [_, _, _, _, _, _]) (pc' := 20) dX6_readNumber_0.2.1.2.2 (by decide) rfl rfl rfl ?_
    exact (main 10000000000000000000000000000000000000000) _ _ _ _ hF (by omega) (by omega) (by omega) (by omega) (by omega) (by omega) (by first | rfl | (rw [nVk_s (by omega)]; omega)) (by first | exact dgn | exact DG_0) ⟨h51, h52⟩ (by omega)
  · refine zW_iconst (pc' := 8) dX6_readNumber_0.1.1.2.2 rfl ?_
    exact zV_iret rfl dX6_readNumber_0.1.2.1.1 ⟨hF, by refine ⟨by omega, by omega, by omega, by omega, by omega, by omega, by omega, ?_, ?_⟩; exact (fun z => absurd z (by omega)); (rw [h51]; exact SMx.rf)⟩

abbrev q_X7_addStageV49Q (κ : Hp) (x1 : Int) (m : Int) : Int → Hp → Prop := fun r h' => Fm [(49, 0), (49, 1), (50, 999), (51, 999)] κ h' ∧ ((h' 49 0 = κ 49 0 + 1 ∧ (x1 = 102 → h' 49 1 = κ 49 0 + 1) ∧ (x1 ≠ 102 → h' 49 1 = κ 49 1) ∧ AS4 x1 m κ h'))
set_option maxHeartbeats 4000000 in
set_option maxRecDepth 20000 in
theorem s_X7_addStageV49Q {G : Ga} {κ : Hp} (hS : SI κ) (hR : KR κ) (hC : KC κ) (x1 : Int) (hx1 : rng x1) (m : Int) (hs : κ 49 0 ≤ 11) (hM : κ 49 0 = m ∧ 0 ≤ m ∧ m ≤ 12) : zM G mX7_addStage yX7_addStage [.inr (.inr 49), .inl x1] κ (q_X7_addStageV49Q κ x1 m) := by
  have f_41_0 := KCm hC
  have f_45_0 := KCr0 hC
  have f_49_0 := KCd0 hC
  have f_49_1 := KCd1 hC
  unfold rng at hx1
  refine zM_of [some (.inr (.inr 49)), some (.inl x1)] 0 rfl rfl (Nat.le_of_ble_eq_true rfl) rfl ?_
  refine (show ∀ h : Hp, Fm [(49, 0), (49, 1), (50, 999), (51, 999)] κ h → h = κ → zV G mX7_addStage (q_X7_addStageV49Q κ x1 m) 0 [some (.inr (.inr 49)), some (.inl x1)] [] h from fun h hF hk0 => ?_) κ (Fm.rf hS hR hC) rfl
  have y0_49_0 : h 49 0 = κ 49 0 := by rw [hk0]
  have y0_49_1 : h 49 1 = κ 49 1 := by rw [hk0]
  refine zW_aload_n (pc' := 1) dX7_addStage_0.1.1.1.1 rfl rfl ?_
  refine zG_int (pc' := 4) fg_X7_21 tb49 rfl dX7_addStage_0.1.1.1.2 rfl ?_
  have e1 := KCd0 hF.2.2.2
  refine zW_bipush (pc' := 6) dX7_addStage_0.1.1.2.1 rfl rfl ?_
  refine zV_cm_ge (tgt := 63) (pc' := 9) dX7_addStage_0.1.1.2.2 rfl rfl ⟨by omega, by omega⟩ ⟨by omega, by omega⟩ (fun c6 => ?_) (fun c6 => ?_)
  · exact zV_vret rfl dX7_addStage_2.2.2 ⟨hF, by refine ⟨by omega, by omega, by omega, ?_⟩; first | (exfalso; omega) | exact lq | exact lq.eq (by rw [w60]; exact zfun (by decide)) (by rw [w60]; exact zfun (by decide))⟩
  · refine zW_aload_n (pc' := 10) dX7_addStage_0.1.2.1.1 rfl rfl ?_
    refine zW_dup (pc' := 11) dX7_addStage_0.1.2.1.2 rfl rfl ?_
    refine zG_int (pc' := 14) fg_X7_21 tb49 rfl dX7_addStage_0.1.2.2.1 rfl ?_
    have e11 := KCd0 hF.2.2.2
    refine zW_iconst (pc' := 15) dX7_addStage_0.1.2.2.2 rfl ?_
    refine zW_iadd (pc' := 16) dX7_addStage_0.2.1.1.1 rfl ?_
    refine zPm (pc' := 19) hF (Or.inl rfl) (SI_irr hF.2.1 (Or.inl rfl) (fun _ _ => ⟨by omega, by omega⟩)) (KR_irr hF.2.2.1 rfl) (KC_49_0 hF.2.2.2 (by omega)) fp_X7_21 tb49 rfl dX7_addStage_0.2.1.1.2 rfl (fun h hF w16 => ?_)
    have t16_49_0 := congrFun (congrFun w16 49) 0
    rw [zwr_eq] at t16_49_0
    have t16_49_1 := congrFun (congrFun w16 49) 1
    rw [zwr_ne (Or.inr (by decide))] at t16_49_1
    refine zW_aload_n (pc' := 20) dX7_addStage_0.2.1.2.1 rfl rfl ?_
    refine zG_ref (pc' := 23) 50 fg_X7_9 tb49 rfl dX7_addStage_0.2.1.2.2 rfl ?_
    refine zW_aload_n (pc' := 24) dX7_addStage_0.2.2.1.1 rfl rfl ?_
    refine zG_int (pc' := 27) fg_X7_21 tb49 rfl dX7_addStage_0.2.2.1.2 rfl ?_
    have e24 := KCd0 hF.2.2.2
    refine zW_iload_n (pc' := 28) dX7_addStage_0.2.2.2.1 rfl rfl ?_
    have n28 : h 49 0 = m + 1 := by omega
    refine zSm (pc' := 29) hF rfl (fun v' hv he => ⟨(SI_irr hF.2.1 (Or.inl (key_of rfl _)) (fun _ _ => hv)), (KR_irr hF.2.2.1 rfl), (KC_irr hF.2.2.2 rfl)⟩) tb50 (by omega) dX7_addStage_0.2.2.2.2 (by decide) rfl (fun h i28 hF a28 b28 w28 => ?_)
    have t28_49_0 := congrFun (congrFun w28 49) 0
    rw [zwr_ne (Or.inl (by decide))] at t28_49_0
    have t28_49_1 := congrFun (congrFun w28 49) 1
    rw [zwr_ne (Or.inl (by decide))] at t28_49_1
    rw [n28] at w28
    refine zW_aload_n (pc' := 30) dX7_addStage_1.1.1.1.1 rfl rfl ?_
    refine zG_ref (pc' := 33) 51 fg_X7_15 tb49 rfl dX7_addStage_1.1.1.1.2 rfl ?_
    refine zW_aload_n (pc' := 34) dX7_addStage_1.1.1.2.1 rfl rfl ?_
    refine zG_int (pc' := 37) fg_X7_21 tb49 rfl dX7_addStage_1.1.1.2.2 rfl ?_
    have e34 := KCd0 hF.2.2.2
    refine zW_iconst (pc' := 38) dX7_addStage_1.1.2.1.1 rfl ?_
    refine zW_iadd (pc' := 39) dX7_addStage_1.1.2.1.2 rfl ?_
    refine zW_aload_n (pc' := 40) dX7_addStage_1.1.2.2.1 rfl rfl ?_
    refine zG_ref (pc' := 43) 51 fg_X7_15 tb49 rfl dX7_addStage_1.1.2.2.2 rfl ?_
    refine zW_aload_n (pc' := 44) dX7_addStage_1.2.1.1.1 rfl rfl ?_
    refine zG_int (pc' := 47) fg_X7_21 tb49 rfl dX7_addStage_1.2.1.1.2 rfl ?_
    have e44 := KCd0 hF.2.2.2
    refine zAmD (pc' := 48) hF tb51 (by omega) dX7_addStage_1.2.1.2.1 rfl (fun e47 => ?_)
    have n48 : h 49 0 = m + 1 := by omega
    have v48 : h 51 (h 49 0).toNat = κ 51 (m + 1).toNat := by rw [n48, w28, zwr_ne (Or.inl (by decide)), w16, zwr_ne (Or.inl (by decide)), hk0]
    rw [v48, n48]
    refine zSm (pc' := 49) hF rfl (fun v' hv he => ⟨(SI_irr hF.2.1 (Or.inl (key_of rfl _)) (fun _ _ => hv)), (KR_irr hF.2.2.1 rfl), (KC_c51 hF.2.2.2 (by have := he ⟨by omega, by omega⟩; omega))⟩) tb51 (by omega) dX7_addStage_1.2.1.2.2 (by decide) rfl (fun h i48 hF a48 b48 w48 => ?_)
    have t48_49_0 := congrFun (congrFun w48 49) 0
    rw [zwr_ne (Or.inl (by decide))] at t48_49_0
    have t48_49_1 := congrFun (congrFun w48 49) 1
    rw [zwr_ne (Or.inl (by decide))] at t48_49_1
    have lq : AS4 x1 m κ h := ⟨by rw [w48, zwr_ne (Or.inl (by decide)), w28, zwr_eq]; exact b28 ⟨by omega, by omega⟩, fun j hj => by rw [w48, zwr_ne (Or.inl (by decide)), w28, zwr_ne (Or.inr hj), w16, zwr_ne (Or.inl (by decide)), hk0], by rw [w48, zwr_eq]; exact b48 ⟨by omega, by omega⟩, fun j hj => by rw [w48, zwr_ne (Or.inr hj), w28, zwr_ne (Or.inl (by decide)), w16, zwr_ne (Or.inl (by decide)), hk0]⟩
    refine zW_iload_n (pc' := 50) dX7_addStage_1.2.2.1.1 rfl rfl ?_
    refine zW_bipush (pc' := 52) dX7_addStage_1.2.2.1.2 rfl rfl ?_
    refine zV_cm_ne (tgt := 63) (pc' := 55) dX7_addStage_1.2.2.2.1 rfl rfl ⟨by omega, by omega⟩ ⟨by omega, by omega⟩ (fun c52 => ?_) (fun c52 => ?_)
    · exact zV_vret rfl dX7_addStage_2.2.2 ⟨hF, by refine ⟨by omega, by omega, by omega, ?_⟩; first | (exfalso; omega) | exact lq | exact lq.eq (by rw [w60]; exact zfun (by decide)) (by rw [w60]; exact zfun (by decide))⟩
    · refine zW_aload_n (pc' := 56) dX7_addStage_1.2.2.2.2 rfl rfl ?_
      refine zW_aload_n (pc' := 57) dX7_addStage_2.1.1 rfl rfl ?_
      refine zG_int (pc' := 60) fg_X7_21 tb49 rfl dX7_addStage_2.1.2 rfl ?_
      have e57 := KCd0 hF.2.2.2
      refine zPm (pc' := 63) hF (Or.inl rfl) (SI_irr hF.2.1 (Or.inl rfl) (fun _ _ => ⟨by omega, by omega⟩)) (KR_irr hF.2.2.1 rfl) (KC_49_1 hF.2.2.2 (by omega)) fp_X7_25 tb49 rfl dX7_addStage_2.2.1 rfl (fun h hF w60 => ?_)
      have t60_49_0 := congrFun (congrFun w60 49) 0
      rw [zwr_ne (Or.inr (by decide))] at t60_49_0
      have t60_49_1 := congrFun (congrFun w60 49) 1
      rw [zwr_eq] at t60_49_1
      exact zV_vret rfl dX7_addStage_2.2.2 ⟨hF, by refine ⟨by omega, by omega, by omega, ?_⟩; first | (exfalso; omega) | exact lq | exact lq.eq (by rw [w60]; exact zfun (by decide)) (by rw [w60]; exact zfun (by decide))⟩

abbrev q_X7_clearV49Q (κ : Hp)  : Int → Hp → Prop := fun r h' => Fm [(49, 0), (49, 1), (51, 999)] κ h' ∧ ((h' 49 0 = 0 ∧ h' 49 1 = 0 ∧ h' 51 1 = 0))
set_option maxHeartbeats 4000000 in
set_option maxRecDepth 20000 in
theorem s_X7_clearV49Q {G : Ga} {κ : Hp} (hS : SI κ) (hR : KR κ) (hC : KC κ)  : zM G mX7_clear yX7_clear [.inr (.inr 49)] κ (q_X7_clearV49Q κ) := by
  refine zM_of [some (.inr (.inr 49))] 0 rfl rfl (Nat.le_of_ble_eq_true rfl) rfl ?_
  refine (show ∀ h : Hp, Fm [(49, 0), (49, 1), (51, 999)] κ h → h = κ → zV G mX7_clear (q_X7_clearV49Q κ) 0 [some (.inr (.inr 49))] [] h from fun h hF hk0 => ?_) κ (Fm.rf hS hR hC) rfl
  refine zW_aload_n (pc' := 1) dX7_clear_0.1.1.1.1 rfl rfl ?_
  refine zW_iconst (pc' := 2) dX7_clear_0.1.1.1.2 rfl ?_
  refine zPm (pc' := 5) hF (Or.inl rfl) (SI_irr hF.2.1 (Or.inl rfl) (fun _ _ => ⟨by omega, by omega⟩)) (KR_irr hF.2.2.1 rfl) (KC_49_0 hF.2.2.2 (by omega)) fp_X7_21 tb49 rfl dX7_clear_0.1.1.2 rfl (fun h hF w2 => ?_)
  have t2_49_0 := congrFun (congrFun w2 49) 0
  rw [zwr_eq] at t2_49_0
  have t2_49_1 := congrFun (congrFun w2 49) 1
  rw [zwr_ne (Or.inr (by decide))] at t2_49_1
  refine zW_aload_n (pc' := 6) dX7_clear_0.1.2.1.1 rfl rfl ?_
  refine zW_iconst (pc' := 7) dX7_clear_0.1.2.1.2 rfl ?_
  refine zPm (pc' := 10) hF (Or.inl rfl) (SI_irr hF.2.1 (Or.inl rfl) (fun _ _ => ⟨by omega, by omega⟩)) (KR_irr hF.2.2.1 rfl) (KC_49_1 hF.2.2.2 (by omega)) fp_X7_25 tb49 rfl dX7_clear_0.1.2.2 rfl (fun h hF w7 => ?_)
  have t7_49_0 := congrFun (congrFun w7 49) 0
  rw [zwr_ne (Or.inr (by decide))] at t7_49_0
  have t7_49_1 := congrFun (congrFun w7 49) 1
  rw [zwr_eq] at t7_49_1
  refine zW_aload_n (pc' := 11) dX7_clear_0.2.1.1.1 rfl rfl ?_
  refine zG_ref (pc' := 14) 51 fg_X7_15 tb49 rfl dX7_clear_0.2.1.1.2 rfl ?_
  refine zW_iconst (pc' := 15) dX7_clear_0.2.1.2 rfl ?_
  refine zW_iconst (pc' := 16) dX7_clear_0.2.2.1.1 rfl ?_
  refine zSm (pc' := 17) hF rfl (fun v' hv he => ⟨(SI_irr hF.2.1 (Or.inl (key_of rfl _)) (fun _ _ => hv)), (KR_irr hF.2.2.1 rfl), (KC_c51 hF.2.2.2 (by have := he ⟨by omega, by omega⟩; omega))⟩) tb51 (by omega) dX7_clear_0.2.2.1.2 (by decide) rfl (fun h i16 hF a16 b16 w16 => ?_)
  have t16_49_0 := congrFun (congrFun w16 49) 0
  rw [zwr_ne (Or.inl (by decide))] at t16_49_0
  have t16_49_1 := congrFun (congrFun w16 49) 1
  rw [zwr_ne (Or.inl (by decide))] at t16_49_1
  exact zV_vret rfl dX7_clear_0.2.2.2 ⟨hF, by refine ⟨by omega, by omega, ?_⟩; rw [w16]; show zwr _ 51 1 _ 51 1 = 0; rw [zwr_eq]; exact b16 ⟨by omega, by omega⟩⟩

abbrev q_X7_copyFromV41_49Q (κ : Hp)  : Int → Hp → Prop := fun r h' => Fm [(41, 0), (41, 1), (42, 999), (43, 999), (44, 999)] κ h' ∧ ((h' 41 0 = κ 49 0 ∧ h' 41 1 = κ 49 1) ∧ (∀ j : Nat, j < 14 → h' 42 j = κ 50 j ∧ h' 43 j = κ 51 j) ∧ (∀ j : Nat, j < 64 → h' 44 j = κ 52 j))
set_option maxHeartbeats 4000000 in
set_option maxRecDepth 20000 in
theorem s_X7_copyFromV41_49Q {G : Ga} {κ : Hp} (hS : SI κ) (hR : KR κ) (hC : KC κ)  : zM G mX7_copyFrom yX7_copyFrom [.inr (.inr 41), .inr (.inr 49)] κ (q_X7_copyFromV41_49Q κ) := by
  have f_41_0 := KCm hC
  have f_41_1 := KCf hC
  have f_45_0 := KCr0 hC
  have f_45_1 := KCr1 hC
  have f_49_0 := KCd0 hC
  have f_49_1 := KCd1 hC
  refine zM_of [some (.inr (.inr 41)), some (.inr (.inr 49))] 0 rfl rfl (Nat.le_of_ble_eq_true rfl) rfl ?_
  refine (show ∀ h : Hp, Fm [(41, 0), (41, 1), (42, 999), (43, 999), (44, 999)] κ h → h = κ → zV G mX7_copyFrom (q_X7_copyFromV41_49Q κ) 0 [some (.inr (.inr 41)), some (.inr (.inr 49))] [] h from fun h hF hk0 => ?_) κ (Fm.rf hS hR hC) rfl
  have a0_42 := fun j : Nat => congrFun (congrFun hk0 42) j
  have a0_43 := fun j : Nat => congrFun (congrFun hk0 43) j
  have a0_44 := fun j : Nat => congrFun (congrFun hk0 44) j
  have a0_50 := fun j : Nat => congrFun (congrFun hk0 50) j
  have a0_51 := fun j : Nat => congrFun (congrFun hk0 51) j
  have a0_52 := fun j : Nat => congrFun (congrFun hk0 52) j
  refine zW_aload_n (pc' := 1) dX7_copyFrom_0.1.1.1.1 rfl rfl ?_
  refine zW_aload_n (pc' := 2) dX7_copyFrom_0.1.1.1.2 rfl rfl ?_
  refine zGm (pc' := 5) hF rfl rfl fg_X7_21 tb49 rfl dX7_copyFrom_0.1.1.2.1 rfl ?_
  refine zPm (pc' := 8) hF (Or.inl rfl) (SI_irr hF.2.1 (Or.inl rfl) (fun _ _ => ⟨by omega, by omega⟩)) (KR_irr hF.2.2.1 rfl) (KC_41_0 hF.2.2.2 (by omega)) fp_X7_21 tb41 rfl dX7_copyFrom_0.1.1.2.2 rfl (fun h hF w5 => ?_)
  have a5_42 := fun j : Nat => (congrFun (congrFun w5 42) j).trans (zwr_ne (Or.inl (by decide)))
  have a5_43 := fun j : Nat => (congrFun (congrFun w5 43) j).trans (zwr_ne (Or.inl (by decide)))
  have a5_44 := fun j : Nat => (congrFun (congrFun w5 44) j).trans (zwr_ne (Or.inl (by decide)))
  have a5_50 := fun j : Nat => (congrFun (congrFun w5 50) j).trans (zwr_ne (Or.inl (by decide)))
  have a5_51 := fun j : Nat => (congrFun (congrFun w5 51) j).trans (zwr_ne (Or.inl (by decide)))
  have a5_52 := fun j : Nat => (congrFun (congrFun w5 52) j).trans (zwr_ne (Or.inl (by decide)))
  have t5_41_0 := congrFun (congrFun w5 41) 0
  rw [zwr_eq] at t5_41_0
  have t5_41_1 := congrFun (congrFun w5 41) 1
  rw [zwr_ne (Or.inr (by decide))] at t5_41_1
  have t5_49_0 := congrFun (congrFun w5 49) 0
  rw [zwr_ne (Or.inl (by decide))] at t5_49_0
  have t5_49_1 := congrFun (congrFun w5 49) 1
  rw [zwr_ne (Or.inl (by decide))] at t5_49_1
  refine zW_aload_n (pc' := 9) dX7_copyFrom_0.1.2.1.1 rfl rfl ?_
  refine zW_aload_n (pc' := 10) dX7_copyFrom_0.1.2.1.2 rfl rfl ?_
  refine zGm (pc' := 13) hF rfl rfl fg_X7_25 tb49 rfl dX7_copyFrom_0.1.2.2.1 rfl ?_
  refine zPm (pc' := 16) hF (Or.inl rfl) (SI_irr hF.2.1 (Or.inl rfl) (fun _ _ => ⟨by omega, by omega⟩)) (KR_irr hF.2.2.1 rfl) (KC_41_1 hF.2.2.2 (by omega)) fp_X7_25 tb41 rfl dX7_copyFrom_0.1.2.2.2 rfl (fun h hF w13 => ?_)
  have a13_42 := fun j : Nat => (congrFun (congrFun w13 42) j).trans (zwr_ne (Or.inl (by decide)))
  have a13_43 := fun j : Nat => (congrFun (congrFun w13 43) j).trans (zwr_ne (Or.inl (by decide)))
  have a13_44 := fun j : Nat => (congrFun (congrFun w13 44) j).trans (zwr_ne (Or.inl (by decide)))
  have a13_50 := fun j : Nat => (congrFun (congrFun w13 50) j).trans (zwr_ne (Or.inl (by decide)))
  have a13_51 := fun j : Nat => (congrFun (congrFun w13 51) j).trans (zwr_ne (Or.inl (by decide)))
  have a13_52 := fun j : Nat => (congrFun (congrFun w13 52) j).trans (zwr_ne (Or.inl (by decide)))
  have t13_41_0 := congrFun (congrFun w13 41) 0
  rw [zwr_ne (Or.inr (by decide))] at t13_41_0
  have t13_41_1 := congrFun (congrFun w13 41) 1
  rw [zwr_eq] at t13_41_1
  have t13_49_0 := congrFun (congrFun w13 49) 0
  rw [zwr_ne (Or.inl (by decide))] at t13_49_0
  have t13_49_1 := congrFun (congrFun w13 49) 1
  rw [zwr_ne (Or.inl (by decide))] at t13_49_1
  refine zW_aload_n (pc' := 17) dX7_copyFrom_0.2.1.1.1 rfl rfl ?_
  refine zG_ref (pc' := 20) 50 fg_X7_9 tb49 rfl dX7_copyFrom_0.2.1.1.2 rfl ?_
  refine zW_iconst (pc' := 21) dX7_copyFrom_0.2.1.2.1 rfl ?_
  refine zW_aload_n (pc' := 22) dX7_copyFrom_0.2.1.2.2 rfl rfl ?_
  refine zG_ref (pc' := 25) 42 fg_X7_9 tb41 rfl dX7_copyFrom_0.2.2.1.1 rfl ?_
  refine zW_iconst (pc' := 26) dX7_copyFrom_0.2.2.1.2 rfl ?_
  refine zW_aload_n (pc' := 27) dX7_copyFrom_0.2.2.2.1 rfl rfl ?_
  refine zG_ref (pc' := 30) 42 fg_X7_9 tb41 rfl dX7_copyFrom_0.2.2.2.2 rfl ?_
  refine zV_alen (pc' := 31) tb42 (by decide) dX7_copyFrom_1.1.1.1.1 rfl ?_
  refine zV_acopy (pc' := 34) tb50 tb42 (by omega) (by omega) (by omega) (by omega) (by decide) (by decide) ka_X7_28 (Nat.le_of_ble_eq_true rfl) (Nat.le_of_ble_eq_true rfl) dX7_copyFrom_1.1.1.1.2 rfl ?_
  have hz31 := hF.zc (a := 50) (c := 42) (d := 0) (n := 14) rfl rfl (by decide) (by decide) (KC_zc hF.2.2.2 rfl)
  refine (show ∀ h1 : Hp, Fm [(41, 0), (41, 1), (42, 999), (43, 999), (44, 999)] κ h1 → h1 = zcp h 50 42 0 14 → zV _ _ _ _ _ _ h1 from fun h hF w31 => ?_) _ hz31 rfl
  have a31_42 := fun j : Nat => zcp_pt (congrFun (congrFun w31 42) j)
  have a31_43 := fun j : Nat => (congrFun (congrFun w31 43) j).trans (zcp_ne (by decide))
  have a31_44 := fun j : Nat => (congrFun (congrFun w31 44) j).trans (zcp_ne (by decide))
  have a31_50 := fun j : Nat => (congrFun (congrFun w31 50) j).trans (zcp_ne (by decide))
  have a31_51 := fun j : Nat => (congrFun (congrFun w31 51) j).trans (zcp_ne (by decide))
  have a31_52 := fun j : Nat => (congrFun (congrFun w31 52) j).trans (zcp_ne (by decide))
  have t31_41_0 := congrFun (congrFun w31 41) 0
  rw [zcp_ne (by decide)] at t31_41_0
  have t31_41_1 := congrFun (congrFun w31 41) 1
  rw [zcp_ne (by decide)] at t31_41_1
  have t31_49_0 := congrFun (congrFun w31 49) 0
  rw [zcp_ne (by decide)] at t31_49_0
  have t31_49_1 := congrFun (congrFun w31 49) 1
  rw [zcp_ne (by decide)] at t31_49_1
  refine zW_aload_n (pc' := 35) dX7_copyFrom_1.1.1.2.1 rfl rfl ?_
  refine zG_ref (pc' := 38) 51 fg_X7_15 tb49 rfl dX7_copyFrom_1.1.1.2.2 rfl ?_
  refine zW_iconst (pc' := 39) dX7_copyFrom_1.1.2.1.1 rfl ?_
  refine zW_aload_n (pc' := 40) dX7_copyFrom_1.1.2.1.2 rfl rfl ?_
  refine zG_ref (pc' := 43) 43 fg_X7_15 tb41 rfl dX7_copyFrom_1.1.2.2.1 rfl ?_
  refine zW_iconst (pc' := 44) dX7_copyFrom_1.1.2.2.2 rfl ?_
  refine zW_aload_n (pc' := 45) dX7_copyFrom_1.2.1.1.1 rfl rfl ?_
  refine zG_ref (pc' := 48) 43 fg_X7_15 tb41 rfl dX7_copyFrom_1.2.1.1.2 rfl ?_
  refine zV_alen (pc' := 49) tb43 (by decide) dX7_copyFrom_1.2.1.2.1 rfl ?_
  refine zV_acopy (pc' := 52) tb51 tb43 (by omega) (by omega) (by omega) (by omega) (by decide) (by decide) ka_X7_28 (Nat.le_of_ble_eq_true rfl) (Nat.le_of_ble_eq_true rfl) dX7_copyFrom_1.2.1.2.2 rfl ?_
  have hz49 := hF.zc (a := 51) (c := 43) (d := 0) (n := 14) rfl rfl (by decide) (by decide) (KC_z43 hF.2.2.2 hF.2.2.2.2.2.2.2.2.2.2.2.2)
  refine (show ∀ h1 : Hp, Fm [(41, 0), (41, 1), (42, 999), (43, 999), (44, 999)] κ h1 → h1 = zcp h 51 43 0 14 → zV _ _ _ _ _ _ h1 from fun h hF w49 => ?_) _ hz49 rfl
  have a49_42 := fun j : Nat => (congrFun (congrFun w49 42) j).trans (zcp_ne (by decide))
  have a49_43 := fun j : Nat => zcp_pt (congrFun (congrFun w49 43) j)
  have a49_44 := fun j : Nat => (congrFun (congrFun w49 44) j).trans (zcp_ne (by decide))
  have a49_50 := fun j : Nat => (congrFun (congrFun w49 50) j).trans (zcp_ne (by decide))
  have a49_51 := fun j : Nat => (congrFun (congrFun w49 51) j).trans (zcp_ne (by decide))
  have a49_52 := fun j : Nat => (congrFun (congrFun w49 52) j).trans (zcp_ne (by decide))
  have t49_41_0 := congrFun (congrFun w49 41) 0
  rw [zcp_ne (by decide)] at t49_41_0
  have t49_41_1 := congrFun (congrFun w49 41) 1
  rw [zcp_ne (by decide)] at t49_41_1
  have t49_49_0 := congrFun (congrFun w49 49) 0
  rw [zcp_ne (by decide)] at t49_49_0
  have t49_49_1 := congrFun (congrFun w49 49) 1
  rw [zcp_ne (by decide)] at t49_49_1
  refine zW_aload_n (pc' := 53) dX7_copyFrom_1.2.2.1.1 rfl rfl ?_
  refine zG_ref (pc' := 56) 52 fg_X7_18 tb49 rfl dX7_copyFrom_1.2.2.1.2 rfl ?_
  refine zW_iconst (pc' := 57) dX7_copyFrom_1.2.2.2.1 rfl ?_
  refine zW_aload_n (pc' := 58) dX7_copyFrom_1.2.2.2.2 rfl rfl ?_
  refine zG_ref (pc' := 61) 44 fg_X7_18 tb41 rfl dX7_copyFrom_2.1.1.1 rfl ?_
  refine zW_iconst (pc' := 62) dX7_copyFrom_2.1.1.2 rfl ?_
  refine zW_aload_n (pc' := 63) dX7_copyFrom_2.1.2.1 rfl rfl ?_
  refine zG_ref (pc' := 66) 44 fg_X7_18 tb41 rfl dX7_copyFrom_2.1.2.2 rfl ?_
  refine zV_alen (pc' := 67) tb44 (by decide) dX7_copyFrom_2.2.1.1 rfl ?_
  refine zV_acopy (pc' := 70) tb52 tb44 (by omega) (by omega) (by omega) (by omega) (by decide) (by decide) ka_X7_28 (Nat.le_of_ble_eq_true rfl) (Nat.le_of_ble_eq_true rfl) dX7_copyFrom_2.2.1.2 rfl ?_
  have hz67 := hF.zc (a := 52) (c := 44) (d := 0) (n := 64) rfl rfl (by decide) (by decide) (KC_zc hF.2.2.2 rfl)
  refine (show ∀ h1 : Hp, Fm [(41, 0), (41, 1), (42, 999), (43, 999), (44, 999)] κ h1 → h1 = zcp h 52 44 0 64 → zV _ _ _ _ _ _ h1 from fun h hF w67 => ?_) _ hz67 rfl
  have a67_42 := fun j : Nat => (congrFun (congrFun w67 42) j).trans (zcp_ne (by decide))
  have a67_43 := fun j : Nat => (congrFun (congrFun w67 43) j).trans (zcp_ne (by decide))
  have a67_44 := fun j : Nat => zcp_pt (congrFun (congrFun w67 44) j)
  have a67_50 := fun j : Nat => (congrFun (congrFun w67 50) j).trans (zcp_ne (by decide))
  have a67_51 := fun j : Nat => (congrFun (congrFun w67 51) j).trans (zcp_ne (by decide))
  have a67_52 := fun j : Nat => (congrFun (congrFun w67 52) j).trans (zcp_ne (by decide))
  have t67_41_0 := congrFun (congrFun w67 41) 0
  rw [zcp_ne (by decide)] at t67_41_0
  have t67_41_1 := congrFun (congrFun w67 41) 1
  rw [zcp_ne (by decide)] at t67_41_1
  have t67_49_0 := congrFun (congrFun w67 49) 0
  rw [zcp_ne (by decide)] at t67_49_0
  have t67_49_1 := congrFun (congrFun w67 49) 1
  rw [zcp_ne (by decide)] at t67_49_1
  exact zV_vret rfl dX7_copyFrom_2.2.2 ⟨hF, ⟨by omega, (fun j => by have q0 := a0_42 j; have q1 := a0_43 j; have q2 := a0_50 j; have q3 := a0_51 j; have q4 := a5_42 j; have q5 := a5_43 j; have q6 := a5_50 j; have q7 := a5_51 j; have q8 := a13_42 j; have q9 := a13_43 j; have q10 := a13_50 j; have q11 := a13_51 j; have q12 := a31_42 j; have q13 := a31_43 j; have q14 := a31_50 j; have q15 := a31_51 j; have q16 := a49_42 j; have q17 := a49_43 j; have q18 := a49_50 j; have q19 := a49_51 j; have q20 := a67_42 j; have q21 := a67_43 j; have q22 := a67_50 j; have q23 := a67_51 j; omega), (fun j => by have q0 := a0_44 j; have q1 := a0_52 j; have q2 := a5_44 j; have q3 := a5_52 j; have q4 := a13_44 j; have q5 := a13_52 j; have q6 := a31_44 j; have q7 := a31_52 j; have q8 := a49_44 j; have q9 := a49_52 j; have q10 := a67_44 j; have q11 := a67_52 j; omega)⟩⟩

abbrev q_X7_copyFromV45_41Q (κ : Hp)  : Int → Hp → Prop := fun r h' => Fm [(45, 0), (45, 1), (46, 999), (47, 999), (48, 999)] κ h' ∧ ((h' 45 0 = κ 41 0 ∧ h' 45 1 = κ 41 1) ∧ (∀ j : Nat, j < 14 → h' 46 j = κ 42 j ∧ h' 47 j = κ 43 j) ∧ (∀ j : Nat, j < 64 → h' 48 j = κ 44 j))
set_option maxHeartbeats 4000000 in
set_option maxRecDepth 20000 in
theorem s_X7_copyFromV45_41Q {G : Ga} {κ : Hp} (hS : SI κ) (hR : KR κ) (hC : KC κ)  : zM G mX7_copyFrom yX7_copyFrom [.inr (.inr 45), .inr (.inr 41)] κ (q_X7_copyFromV45_41Q κ) := by
  have f_41_0 := KCm hC
  have f_41_1 := KCf hC
  have f_45_0 := KCr0 hC
  have f_45_1 := KCr1 hC
  have f_49_0 := KCd0 hC
  have f_49_1 := KCd1 hC
  refine zM_of [some (.inr (.inr 45)), some (.inr (.inr 41))] 0 rfl rfl (Nat.le_of_ble_eq_true rfl) rfl ?_
  refine (show ∀ h : Hp, Fm [(45, 0), (45, 1), (46, 999), (47, 999), (48, 999)] κ h → h = κ → zV G mX7_copyFrom (q_X7_copyFromV45_41Q κ) 0 [some (.inr (.inr 45)), some (.inr (.inr 41))] [] h from fun h hF hk0 => ?_) κ (Fm.rf hS hR hC) rfl
  have a0_46 := fun j : Nat => congrFun (congrFun hk0 46) j
  have a0_47 := fun j : Nat => congrFun (congrFun hk0 47) j
  have a0_48 := fun j : Nat => congrFun (congrFun hk0 48) j
  have a0_42 := fun j : Nat => congrFun (congrFun hk0 42) j
  have a0_43 := fun j : Nat => congrFun (congrFun hk0 43) j
  have a0_44 := fun j : Nat => congrFun (congrFun hk0 44) j
  refine zW_aload_n (pc' := 1) dX7_copyFrom_0.1.1.1.1 rfl rfl ?_
  refine zW_aload_n (pc' := 2) dX7_copyFrom_0.1.1.1.2 rfl rfl ?_
  refine zGm (pc' := 5) hF rfl rfl fg_X7_21 tb41 rfl dX7_copyFrom_0.1.1.2.1 rfl ?_
  refine zPm (pc' := 8) hF (Or.inl rfl) (SI_irr hF.2.1 (Or.inl rfl) (fun _ _ => ⟨by omega, by omega⟩)) (KR_irr hF.2.2.1 rfl) (KC_45_0 hF.2.2.2 (by omega)) fp_X7_21 tb45 rfl dX7_copyFrom_0.1.1.2.2 rfl (fun h hF w5 => ?_)
  have a5_46 := fun j : Nat => (congrFun (congrFun w5 46) j).trans (zwr_ne (Or.inl (by decide)))
  have a5_47 := fun j : Nat => (congrFun (congrFun w5 47) j).trans (zwr_ne (Or.inl (by decide)))
  have a5_48 := fun j : Nat => (congrFun (congrFun w5 48) j).trans (zwr_ne (Or.inl (by decide)))
  have a5_42 := fun j : Nat => (congrFun (congrFun w5 42) j).trans (zwr_ne (Or.inl (by decide)))
  have a5_43 := fun j : Nat => (congrFun (congrFun w5 43) j).trans (zwr_ne (Or.inl (by decide)))
  have a5_44 := fun j : Nat => (congrFun (congrFun w5 44) j).trans (zwr_ne (Or.inl (by decide)))
  have t5_45_0 := congrFun (congrFun w5 45) 0
  rw [zwr_eq] at t5_45_0
  have t5_45_1 := congrFun (congrFun w5 45) 1
  rw [zwr_ne (Or.inr (by decide))] at t5_45_1
  have t5_41_0 := congrFun (congrFun w5 41) 0
  rw [zwr_ne (Or.inl (by decide))] at t5_41_0
  have t5_41_1 := congrFun (congrFun w5 41) 1
  rw [zwr_ne (Or.inl (by decide))] at t5_41_1
  refine zW_aload_n (pc' := 9) dX7_copyFrom_0.1.2.1.1 rfl rfl ?_
  refine zW_aload_n (pc' := 10) dX7_copyFrom_0.1.2.1.2 rfl rfl ?_
  refine zGm (pc' := 13) hF rfl rfl fg_X7_25 tb41 rfl dX7_copyFrom_0.1.2.2.1 rfl ?_
  refine zPm (pc' := 16) hF (Or.inl rfl) (SI_irr hF.2.1 (Or.inl rfl) (fun _ _ => ⟨by omega, by omega⟩)) (KR_irr hF.2.2.1 rfl) (KC_45_1 hF.2.2.2 (by omega)) fp_X7_25 tb45 rfl dX7_copyFrom_0.1.2.2.2 rfl (fun h hF w13 => ?_)
  have a13_46 := fun j : Nat => (congrFun (congrFun w13 46) j).trans (zwr_ne (Or.inl (by decide)))
  have a13_47 := fun j : Nat => (congrFun (congrFun w13 47) j).trans (zwr_ne (Or.inl (by decide)))
  have a13_48 := fun j : Nat => (congrFun (congrFun w13 48) j).trans (zwr_ne (Or.inl (by decide)))
  have a13_42 := fun j : Nat => (congrFun (congrFun w13 42) j).trans (zwr_ne (Or.inl (by decide)))
  have a13_43 := fun j : Nat => (congrFun (congrFun w13 43) j).trans (zwr_ne (Or.inl (by decide)))
  have a13_44 := fun j : Nat => (congrFun (congrFun w13 44) j).trans (zwr_ne (Or.inl (by decide)))
  have t13_45_0 := congrFun (congrFun w13 45) 0
  rw [zwr_ne (Or.inr (by decide))] at t13_45_0
  have t13_45_1 := congrFun (congrFun w13 45) 1
  rw [zwr_eq] at t13_45_1
  have t13_41_0 := congrFun (congrFun w13 41) 0
  rw [zwr_ne (Or.inl (by decide))] at t13_41_0
  have t13_41_1 := congrFun (congrFun w13 41) 1
  rw [zwr_ne (Or.inl (by decide))] at t13_41_1
  refine zW_aload_n (pc' := 17) dX7_copyFrom_0.2.1.1.1 rfl rfl ?_
  refine zG_ref (pc' := 20) 42 fg_X7_9 tb41 rfl dX7_copyFrom_0.2.1.1.2 rfl ?_
  refine zW_iconst (pc' := 21) dX7_copyFrom_0.2.1.2.1 rfl ?_
  refine zW_aload_n (pc' := 22) dX7_copyFrom_0.2.1.2.2 rfl rfl ?_
  refine zG_ref (pc' := 25) 46 fg_X7_9 tb45 rfl dX7_copyFrom_0.2.2.1.1 rfl ?_
  refine zW_iconst (pc' := 26) dX7_copyFrom_0.2.2.1.2 rfl ?_
  refine zW_aload_n (pc' := 27) dX7_copyFrom_0.2.2.2.1 rfl rfl ?_
  refine zG_ref (pc' := 30) 46 fg_X7_9 tb45 rfl dX7_copyFrom_0.2.2.2.2 rfl ?_
  refine zV_alen (pc' := 31) tb46 (by decide) dX7_copyFrom_1.1.1.1.1 rfl ?_
  refine zV_acopy (pc' := 34) tb42 tb46 (by omega) (by omega) (by omega) (by omega) (by decide) (by decide) ka_X7_28 (Nat.le_of_ble_eq_true rfl) (Nat.le_of_ble_eq_true rfl) dX7_copyFrom_1.1.1.1.2 rfl ?_
  have hz31 := hF.zc (a := 42) (c := 46) (d := 0) (n := 14) rfl rfl (by decide) (by decide) (KC_zc hF.2.2.2 rfl)
  refine (show ∀ h1 : Hp, Fm [(45, 0), (45, 1), (46, 999), (47, 999), (48, 999)] κ h1 → h1 = zcp h 42 46 0 14 → zV _ _ _ _ _ _ h1 from fun h hF w31 => ?_) _ hz31 rfl
  have a31_46 := fun j : Nat => zcp_pt (congrFun (congrFun w31 46) j)
  have a31_47 := fun j : Nat => (congrFun (congrFun w31 47) j).trans (zcp_ne (by decide))
  have a31_48 := fun j : Nat => (congrFun (congrFun w31 48) j).trans (zcp_ne (by decide))
  have a31_42 := fun j : Nat => (congrFun (congrFun w31 42) j).trans (zcp_ne (by decide))
  have a31_43 := fun j : Nat => (congrFun (congrFun w31 43) j).trans (zcp_ne (by decide))
  have a31_44 := fun j : Nat => (congrFun (congrFun w31 44) j).trans (zcp_ne (by decide))
  have t31_45_0 := congrFun (congrFun w31 45) 0
  rw [zcp_ne (by decide)] at t31_45_0
  have t31_45_1 := congrFun (congrFun w31 45) 1
  rw [zcp_ne (by decide)] at t31_45_1
  have t31_41_0 := congrFun (congrFun w31 41) 0
  rw [zcp_ne (by decide)] at t31_41_0
  have t31_41_1 := congrFun (congrFun w31 41) 1
  rw [zcp_ne (by decide)] at t31_41_1
  refine zW_aload_n (pc' := 35) dX7_copyFrom_1.1.1.2.1 rfl rfl ?_
  refine zG_ref (pc' := 38) 43 fg_X7_15 tb41 rfl dX7_copyFrom_1.1.1.2.2 rfl ?_
  refine zW_iconst (pc' := 39) dX7_copyFrom_1.1.2.1.1 rfl ?_
  refine zW_aload_n (pc' := 40) dX7_copyFrom_1.1.2.1.2 rfl rfl ?_
  refine zG_ref (pc' := 43) 47 fg_X7_15 tb45 rfl dX7_copyFrom_1.1.2.2.1 rfl ?_
  refine zW_iconst (pc' := 44) dX7_copyFrom_1.1.2.2.2 rfl ?_
  refine zW_aload_n (pc' := 45) dX7_copyFrom_1.2.1.1.1 rfl rfl ?_
  refine zG_ref (pc' := 48) 47 fg_X7_15 tb45 rfl dX7_copyFrom_1.2.1.1.2 rfl ?_
  refine zV_alen (pc' := 49) tb47 (by decide) dX7_copyFrom_1.2.1.2.1 rfl ?_
  refine zV_acopy (pc' := 52) tb43 tb47 (by omega) (by omega) (by omega) (by omega) (by decide) (by decide) ka_X7_28 (Nat.le_of_ble_eq_true rfl) (Nat.le_of_ble_eq_true rfl) dX7_copyFrom_1.2.1.2.2 rfl ?_
  have hz49 := hF.zc (a := 43) (c := 47) (d := 0) (n := 14) rfl rfl (by decide) (by decide) (KC_z47 hF.2.2.2 hF.2.2.2.2.2.1.2.2)
  refine (show ∀ h1 : Hp, Fm [(45, 0), (45, 1), (46, 999), (47, 999), (48, 999)] κ h1 → h1 = zcp h 43 47 0 14 → zV _ _ _ _ _ _ h1 from fun h hF w49 => ?_) _ hz49 rfl
  have a49_46 := fun j : Nat => (congrFun (congrFun w49 46) j).trans (zcp_ne (by decide))
  have a49_47 := fun j : Nat => zcp_pt (congrFun (congrFun w49 47) j)
  have a49_48 := fun j : Nat => (congrFun (congrFun w49 48) j).trans (zcp_ne (by decide))
  have a49_42 := fun j : Nat => (congrFun (congrFun w49 42) j).trans (zcp_ne (by decide))
  have a49_43 := fun j : Nat => (congrFun (congrFun w49 43) j).trans (zcp_ne (by decide))
  have a49_44 := fun j : Nat => (congrFun (congrFun w49 44) j).trans (zcp_ne (by decide))
  have t49_45_0 := congrFun (congrFun w49 45) 0
  rw [zcp_ne (by decide)] at t49_45_0
  have t49_45_1 := congrFun (congrFun w49 45) 1
  rw [zcp_ne (by decide)] at t49_45_1
  have t49_41_0 := congrFun (congrFun w49 41) 0
  rw [zcp_ne (by decide)] at t49_41_0
  have t49_41_1 := congrFun (congrFun w49 41) 1
  rw [zcp_ne (by decide)] at t49_41_1
  refine zW_aload_n (pc' := 53) dX7_copyFrom_1.2.2.1.1 rfl rfl ?_
  refine zG_ref (pc' := 56) 44 fg_X7_18 tb41 rfl dX7_copyFrom_1.2.2.1.2 rfl ?_
  refine zW_iconst (pc' := 57) dX7_copyFrom_1.2.2.2.1 rfl ?_
  refine zW_aload_n (pc' := 58) dX7_copyFrom_1.2.2.2.2 rfl rfl ?_
  refine zG_ref (pc' := 61) 48 fg_X7_18 tb45 rfl dX7_copyFrom_2.1.1.1 rfl ?_
  refine zW_iconst (pc' := 62) dX7_copyFrom_2.1.1.2 rfl ?_
  refine zW_aload_n (pc' := 63) dX7_copyFrom_2.1.2.1 rfl rfl ?_
  refine zG_ref (pc' := 66) 48 fg_X7_18 tb45 rfl dX7_copyFrom_2.1.2.2 rfl ?_
  refine zV_alen (pc' := 67) tb48 (by decide) dX7_copyFrom_2.2.1.1 rfl ?_
  refine zV_acopy (pc' := 70) tb44 tb48 (by omega) (by omega) (by omega) (by omega) (by decide) (by decide) ka_X7_28 (Nat.le_of_ble_eq_true rfl) (Nat.le_of_ble_eq_true rfl) dX7_copyFrom_2.2.1.2 rfl ?_
  have hz67 := hF.zc (a := 44) (c := 48) (d := 0) (n := 64) rfl rfl (by decide) (by decide) (KC_zc hF.2.2.2 rfl)
  refine (show ∀ h1 : Hp, Fm [(45, 0), (45, 1), (46, 999), (47, 999), (48, 999)] κ h1 → h1 = zcp h 44 48 0 64 → zV _ _ _ _ _ _ h1 from fun h hF w67 => ?_) _ hz67 rfl
  have a67_46 := fun j : Nat => (congrFun (congrFun w67 46) j).trans (zcp_ne (by decide))
  have a67_47 := fun j : Nat => (congrFun (congrFun w67 47) j).trans (zcp_ne (by decide))
  have a67_48 := fun j : Nat => zcp_pt (congrFun (congrFun w67 48) j)
  have a67_42 := fun j : Nat => (congrFun (congrFun w67 42) j).trans (zcp_ne (by decide))
  have a67_43 := fun j : Nat => (congrFun (congrFun w67 43) j).trans (zcp_ne (by decide))
  have a67_44 := fun j : Nat => (congrFun (congrFun w67 44) j).trans (zcp_ne (by decide))
  have t67_45_0 := congrFun (congrFun w67 45) 0
  rw [zcp_ne (by decide)] at t67_45_0
  have t67_45_1 := congrFun (congrFun w67 45) 1
  rw [zcp_ne (by decide)] at t67_45_1
  have t67_41_0 := congrFun (congrFun w67 41) 0
  rw [zcp_ne (by decide)] at t67_41_0
  have t67_41_1 := congrFun (congrFun w67 41) 1
  rw [zcp_ne (by decide)] at t67_41_1
  exact zV_vret rfl dX7_copyFrom_2.2.2 ⟨hF, ⟨by omega, (fun j => by have q0 := a0_46 j; have q1 := a0_47 j; have q2 := a0_42 j; have q3 := a0_43 j; have q4 := a5_46 j; have q5 := a5_47 j; have q6 := a5_42 j; have q7 := a5_43 j; have q8 := a13_46 j; have q9 := a13_47 j; have q10 := a13_42 j; have q11 := a13_43 j; have q12 := a31_46 j; have q13 := a31_47 j; have q14 := a31_42 j; have q15 := a31_43 j; have q16 := a49_46 j; have q17 := a49_47 j; have q18 := a49_42 j; have q19 := a49_43 j; have q20 := a67_46 j; have q21 := a67_47 j; have q22 := a67_42 j; have q23 := a67_43 j; omega), (fun j => by have q0 := a0_48 j; have q1 := a0_44 j; have q2 := a5_48 j; have q3 := a5_44 j; have q4 := a13_48 j; have q5 := a13_44 j; have q6 := a31_48 j; have q7 := a31_44 j; have q8 := a49_48 j; have q9 := a49_44 j; have q10 := a67_48 j; have q11 := a67_44 j; omega)⟩⟩

abbrev q_X7_copyFromV41_45Q (κ : Hp)  : Int → Hp → Prop := fun r h' => Fm [(41, 0), (41, 1), (42, 999), (43, 999), (44, 999)] κ h' ∧ ((h' 41 0 = κ 45 0 ∧ h' 41 1 = κ 45 1) ∧ (∀ j : Nat, j < 14 → h' 42 j = κ 46 j ∧ h' 43 j = κ 47 j) ∧ (∀ j : Nat, j < 64 → h' 44 j = κ 48 j))
set_option maxHeartbeats 4000000 in
set_option maxRecDepth 20000 in
theorem s_X7_copyFromV41_45Q {G : Ga} {κ : Hp} (hS : SI κ) (hR : KR κ) (hC : KC κ)  : zM G mX7_copyFrom yX7_copyFrom [.inr (.inr 41), .inr (.inr 45)] κ (q_X7_copyFromV41_45Q κ) := by
  have f_41_0 := KCm hC
  have f_41_1 := KCf hC
  have f_45_0 := KCr0 hC
  have f_45_1 := KCr1 hC
  have f_49_0 := KCd0 hC
  have f_49_1 := KCd1 hC
  refine zM_of [some (.inr (.inr 41)), some (.inr (.inr 45))] 0 rfl rfl (Nat.le_of_ble_eq_true rfl) rfl ?_
  refine (show ∀ h : Hp, Fm [(41, 0), (41, 1), (42, 999), (43, 999), (44, 999)] κ h → h = κ → zV G mX7_copyFrom (q_X7_copyFromV41_45Q κ) 0 [some (.inr (.inr 41)), some (.inr (.inr 45))] [] h from fun h hF hk0 => ?_) κ (Fm.rf hS hR hC) rfl
  have a0_42 := fun j : Nat => congrFun (congrFun hk0 42) j
  have a0_43 := fun j : Nat => congrFun (congrFun hk0 43) j
  have a0_44 := fun j : Nat => congrFun (congrFun hk0 44) j
  have a0_46 := fun j : Nat => congrFun (congrFun hk0 46) j
  have a0_47 := fun j : Nat => congrFun (congrFun hk0 47) j
  have a0_48 := fun j : Nat => congrFun (congrFun hk0 48) j
  refine zW_aload_n (pc' := 1) dX7_copyFrom_0.1.1.1.1 rfl rfl ?_
  refine zW_aload_n (pc' := 2) dX7_copyFrom_0.1.1.1.2 rfl rfl ?_
  refine zGm (pc' := 5) hF rfl rfl fg_X7_21 tb45 rfl dX7_copyFrom_0.1.1.2.1 rfl ?_
  refine zPm (pc' := 8) hF (Or.inl rfl) (SI_irr hF.2.1 (Or.inl rfl) (fun _ _ => ⟨by omega, by omega⟩)) (KR_irr hF.2.2.1 rfl) (KC_41_0 hF.2.2.2 (by omega)) fp_X7_21 tb41 rfl dX7_copyFrom_0.1.1.2.2 rfl (fun h hF w5 => ?_)
  have a5_42 := fun j : Nat => (congrFun (congrFun w5 42) j).trans (zwr_ne (Or.inl (by decide)))
  have a5_43 := fun j : Nat => (congrFun (congrFun w5 43) j).trans (zwr_ne (Or.inl (by decide)))
  have a5_44 := fun j : Nat => (congrFun (congrFun w5 44) j).trans (zwr_ne (Or.inl (by decide)))
  have a5_46 := fun j : Nat => (congrFun (congrFun w5 46) j).trans (zwr_ne (Or.inl (by decide)))
  have a5_47 := fun j : Nat => (congrFun (congrFun w5 47) j).trans (zwr_ne (Or.inl (by decide)))
  have a5_48 := fun j : Nat => (congrFun (congrFun w5 48) j).trans (zwr_ne (Or.inl (by decide)))
  have t5_41_0 := congrFun (congrFun w5 41) 0
  rw [zwr_eq] at t5_41_0
  have t5_41_1 := congrFun (congrFun w5 41) 1
  rw [zwr_ne (Or.inr (by decide))] at t5_41_1
  have t5_45_0 := congrFun (congrFun w5 45) 0
  rw [zwr_ne (Or.inl (by decide))] at t5_45_0
  have t5_45_1 := congrFun (congrFun w5 45) 1
  rw [zwr_ne (Or.inl (by decide))] at t5_45_1
  refine zW_aload_n (pc' := 9) dX7_copyFrom_0.1.2.1.1 rfl rfl ?_
  refine zW_aload_n (pc' := 10) dX7_copyFrom_0.1.2.1.2 rfl rfl ?_
  refine zGm (pc' := 13) hF rfl rfl fg_X7_25 tb45 rfl dX7_copyFrom_0.1.2.2.1 rfl ?_
  refine zPm (pc' := 16) hF (Or.inl rfl) (SI_irr hF.2.1 (Or.inl rfl) (fun _ _ => ⟨by omega, by omega⟩)) (KR_irr hF.2.2.1 rfl) (KC_41_1 hF.2.2.2 (by omega)) fp_X7_25 tb41 rfl dX7_copyFrom_0.1.2.2.2 rfl (fun h hF w13 => ?_)
  have a13_42 := fun j : Nat => (congrFun (congrFun w13 42) j).trans (zwr_ne (Or.inl (by decide)))
  have a13_43 := fun j : Nat => (congrFun (congrFun w13 43) j).trans (zwr_ne (Or.inl (by decide)))
  have a13_44 := fun j : Nat => (congrFun (congrFun w13 44) j).trans (zwr_ne (Or.inl (by decide)))
  have a13_46 := fun j : Nat => (congrFun (congrFun w13 46) j).trans (zwr_ne (Or.inl (by decide)))
  have a13_47 := fun j : Nat => (congrFun (congrFun w13 47) j).trans (zwr_ne (Or.inl (by decide)))
  have a13_48 := fun j : Nat => (congrFun (congrFun w13 48) j).trans (zwr_ne (Or.inl (by decide)))
  have t13_41_0 := congrFun (congrFun w13 41) 0
  rw [zwr_ne (Or.inr (by decide))] at t13_41_0
  have t13_41_1 := congrFun (congrFun w13 41) 1
  rw [zwr_eq] at t13_41_1
  have t13_45_0 := congrFun (congrFun w13 45) 0
  rw [zwr_ne (Or.inl (by decide))] at t13_45_0
  have t13_45_1 := congrFun (congrFun w13 45) 1
  rw [zwr_ne (Or.inl (by decide))] at t13_45_1
  refine zW_aload_n (pc' := 17) dX7_copyFrom_0.2.1.1.1 rfl rfl ?_
  refine zG_ref (pc' := 20) 46 fg_X7_9 tb45 rfl dX7_copyFrom_0.2.1.1.2 rfl ?_
  refine zW_iconst (pc' := 21) dX7_copyFrom_0.2.1.2.1 rfl ?_
  refine zW_aload_n (pc' := 22) dX7_copyFrom_0.2.1.2.2 rfl rfl ?_
  refine zG_ref (pc' := 25) 42 fg_X7_9 tb41 rfl dX7_copyFrom_0.2.2.1.1 rfl ?_
  refine zW_iconst (pc' := 26) dX7_copyFrom_0.2.2.1.2 rfl ?_
  refine zW_aload_n (pc' := 27) dX7_copyFrom_0.2.2.2.1 rfl rfl ?_
  refine zG_ref (pc' := 30) 42 fg_X7_9 tb41 rfl dX7_copyFrom_0.2.2.2.2 rfl ?_
  refine zV_alen (pc' := 31) tb42 (by decide) dX7_copyFrom_1.1.1.1.1 rfl ?_
  refine zV_acopy (pc' := 34) tb46 tb42 (by omega) (by omega) (by omega) (by omega) (by decide) (by decide) ka_X7_28 (Nat.le_of_ble_eq_true rfl) (Nat.le_of_ble_eq_true rfl) dX7_copyFrom_1.1.1.1.2 rfl ?_
  have hz31 := hF.zc (a := 46) (c := 42) (d := 0) (n := 14) rfl rfl (by decide) (by decide) (KC_zc hF.2.2.2 rfl)
  refine (show ∀ h1 : Hp, Fm [(41, 0), (41, 1), (42, 999), (43, 999), (44, 999)] κ h1 → h1 = zcp h 46 42 0 14 → zV _ _ _ _ _ _ h1 from fun h hF w31 => ?_) _ hz31 rfl
  have a31_42 := fun j : Nat => zcp_pt (congrFun (congrFun w31 42) j)
  have a31_43 := fun j : Nat => (congrFun (congrFun w31 43) j).trans (zcp_ne (by decide))
  have a31_44 := fun j : Nat => (congrFun (congrFun w31 44) j).trans (zcp_ne (by decide))
  have a31_46 := fun j : Nat => (congrFun (congrFun w31 46) j).trans (zcp_ne (by decide))
  have a31_47 := fun j : Nat => (congrFun (congrFun w31 47) j).trans (zcp_ne (by decide))
  have a31_48 := fun j : Nat => (congrFun (congrFun w31 48) j).trans (zcp_ne (by decide))
  have t31_41_0 := congrFun (congrFun w31 41) 0
  rw [zcp_ne (by decide)] at t31_41_0
  have t31_41_1 := congrFun (congrFun w31 41) 1
  rw [zcp_ne (by decide)] at t31_41_1
  have t31_45_0 := congrFun (congrFun w31 45) 0
  rw [zcp_ne (by decide)] at t31_45_0
  have t31_45_1 := congrFun (congrFun w31 45) 1
  rw [zcp_ne (by decide)] at t31_45_1
  refine zW_aload_n (pc' := 35) dX7_copyFrom_1.1.1.2.1 rfl rfl ?_
  refine zG_ref (pc' := 38) 47 fg_X7_15 tb45 rfl dX7_copyFrom_1.1.1.2.2 rfl ?_
  refine zW_iconst (pc' := 39) dX7_copyFrom_1.1.2.1.1 rfl ?_
  refine zW_aload_n (pc' := 40) dX7_copyFrom_1.1.2.1.2 rfl rfl ?_
  refine zG_ref (pc' := 43) 43 fg_X7_15 tb41 rfl dX7_copyFrom_1.1.2.2.1 rfl ?_
  refine zW_iconst (pc' := 44) dX7_copyFrom_1.1.2.2.2 rfl ?_
  refine zW_aload_n (pc' := 45) dX7_copyFrom_1.2.1.1.1 rfl rfl ?_
  refine zG_ref (pc' := 48) 43 fg_X7_15 tb41 rfl dX7_copyFrom_1.2.1.1.2 rfl ?_
  refine zV_alen (pc' := 49) tb43 (by decide) dX7_copyFrom_1.2.1.2.1 rfl ?_
  refine zV_acopy (pc' := 52) tb47 tb43 (by omega) (by omega) (by omega) (by omega) (by decide) (by decide) ka_X7_28 (Nat.le_of_ble_eq_true rfl) (Nat.le_of_ble_eq_true rfl) dX7_copyFrom_1.2.1.2.2 rfl ?_
  have hz49 := hF.zc (a := 47) (c := 43) (d := 0) (n := 14) rfl rfl (by decide) (by decide) (KC_z43 hF.2.2.2 hF.2.2.2.2.2.2.1.2.2)
  refine (show ∀ h1 : Hp, Fm [(41, 0), (41, 1), (42, 999), (43, 999), (44, 999)] κ h1 → h1 = zcp h 47 43 0 14 → zV _ _ _ _ _ _ h1 from fun h hF w49 => ?_) _ hz49 rfl
  have a49_42 := fun j : Nat => (congrFun (congrFun w49 42) j).trans (zcp_ne (by decide))
  have a49_43 := fun j : Nat => zcp_pt (congrFun (congrFun w49 43) j)
  have a49_44 := fun j : Nat => (congrFun (congrFun w49 44) j).trans (zcp_ne (by decide))
  have a49_46 := fun j : Nat => (congrFun (congrFun w49 46) j).trans (zcp_ne (by decide))
  have a49_47 := fun j : Nat => (congrFun (congrFun w49 47) j).trans (zcp_ne (by decide))
  have a49_48 := fun j : Nat => (congrFun (congrFun w49 48) j).trans (zcp_ne (by decide))
  have t49_41_0 := congrFun (congrFun w49 41) 0
  rw [zcp_ne (by decide)] at t49_41_0
  have t49_41_1 := congrFun (congrFun w49 41) 1
  rw [zcp_ne (by decide)] at t49_41_1
  have t49_45_0 := congrFun (congrFun w49 45) 0
  rw [zcp_ne (by decide)] at t49_45_0
  have t49_45_1 := congrFun (congrFun w49 45) 1
  rw [zcp_ne (by decide)] at t49_45_1
  refine zW_aload_n (pc' := 53) dX7_copyFrom_1.2.2.1.1 rfl rfl ?_
  refine zG_ref (pc' := 56) 48 fg_X7_18 tb45 rfl dX7_copyFrom_1.2.2.1.2 rfl ?_
  refine zW_iconst (pc' := 57) dX7_copyFrom_1.2.2.2.1 rfl ?_
  refine zW_aload_n (pc' := 58) dX7_copyFrom_1.2.2.2.2 rfl rfl ?_
  refine zG_ref (pc' := 61) 44 fg_X7_18 tb41 rfl dX7_copyFrom_2.1.1.1 rfl ?_
  refine zW_iconst (pc' := 62) dX7_copyFrom_2.1.1.2 rfl ?_
  refine zW_aload_n (pc' := 63) dX7_copyFrom_2.1.2.1 rfl rfl ?_
  refine zG_ref (pc' := 66) 44 fg_X7_18 tb41 rfl dX7_copyFrom_2.1.2.2 rfl ?_
  refine zV_alen (pc' := 67) tb44 (by decide) dX7_copyFrom_2.2.1.1 rfl ?_
  refine zV_acopy (pc' := 70) tb48 tb44 (by omega) (by omega) (by omega) (by omega) (by decide) (by decide) ka_X7_28 (Nat.le_of_ble_eq_true rfl) (Nat.le_of_ble_eq_true rfl) dX7_copyFrom_2.2.1.2 rfl ?_
  have hz67 := hF.zc (a := 48) (c := 44) (d := 0) (n := 64) rfl rfl (by decide) (by decide) (KC_zc hF.2.2.2 rfl)
  refine (show ∀ h1 : Hp, Fm [(41, 0), (41, 1), (42, 999), (43, 999), (44, 999)] κ h1 → h1 = zcp h 48 44 0 64 → zV _ _ _ _ _ _ h1 from fun h hF w67 => ?_) _ hz67 rfl
  have a67_42 := fun j : Nat => (congrFun (congrFun w67 42) j).trans (zcp_ne (by decide))
  have a67_43 := fun j : Nat => (congrFun (congrFun w67 43) j).trans (zcp_ne (by decide))
  have a67_44 := fun j : Nat => zcp_pt (congrFun (congrFun w67 44) j)
  have a67_46 := fun j : Nat => (congrFun (congrFun w67 46) j).trans (zcp_ne (by decide))
  have a67_47 := fun j : Nat => (congrFun (congrFun w67 47) j).trans (zcp_ne (by decide))
  have a67_48 := fun j : Nat => (congrFun (congrFun w67 48) j).trans (zcp_ne (by decide))
  have t67_41_0 := congrFun (congrFun w67 41) 0
  rw [zcp_ne (by decide)] at t67_41_0
  have t67_41_1 := congrFun (congrFun w67 41) 1
  rw [zcp_ne (by decide)] at t67_41_1
  have t67_45_0 := congrFun (congrFun w67 45) 0
  rw [zcp_ne (by decide)] at t67_45_0
  have t67_45_1 := congrFun (congrFun w67 45) 1
  rw [zcp_ne (by decide)] at t67_45_1
  exact zV_vret rfl dX7_copyFrom_2.2.2 ⟨hF, ⟨by omega, (fun j => by have q0 := a0_42 j; have q1 := a0_43 j; have q2 := a0_46 j; have q3 := a0_47 j; have q4 := a5_42 j; have q5 := a5_43 j; have q6 := a5_46 j; have q7 := a5_47 j; have q8 := a13_42 j; have q9 := a13_43 j; have q10 := a13_46 j; have q11 := a13_47 j; have q12 := a31_42 j; have q13 := a31_43 j; have q14 := a31_46 j; have q15 := a31_47 j; have q16 := a49_42 j; have q17 := a49_43 j; have q18 := a49_46 j; have q19 := a49_47 j; have q20 := a67_42 j; have q21 := a67_43 j; have q22 := a67_46 j; have q23 := a67_47 j; omega), (fun j => by have q0 := a0_44 j; have q1 := a0_48 j; have q2 := a5_44 j; have q3 := a5_48 j; have q4 := a13_44 j; have q5 := a13_48 j; have q6 := a31_44 j; have q7 := a31_48 j; have q8 := a49_44 j; have q9 := a49_48 j; have q10 := a67_44 j; have q11 := a67_48 j; omega)⟩⟩






