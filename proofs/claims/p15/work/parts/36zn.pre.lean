/-! what the queries see of a state: letters, whether f stands among the first ones, pictures, numbers -/
def bhI (L : Nat → Int) : Nat → Int
  | 0 => 0
  | k + 1 => if L k = 102 then 1 else bhI L k
theorem bhI_eq {L L' : Nat → Int} : ∀ k : Nat, (∀ j, j < k → L j = L' j) → bhI L k = bhI L' k
  | 0, _ => rfl
  | k + 1, h => by
    show (if L k = 102 then 1 else bhI L k) = (if L' k = 102 then 1 else bhI L' k)
    rw [h k (Nat.lt_succ_self k), bhI_eq k (fun j hj => h j (by omega))]
def bhV (L : Nat → Int) (n k : Int) : Int := if 0 ≤ k ∧ k ≤ n then bhI L k.toNat else 0
def ltV (L : Nat → Int) (n k : Int) : Int := if 1 ≤ k ∧ k ≤ n then L (k - 1).toNat else 0
def pcV (n : Int) (T : Nat → P3) (k : Int) : P3 := if 0 ≤ k ∧ k ≤ n then T k.toNat else fun _ _ _ => 0
def nmV (n : Int) (X : Nat → Nat → Int) (k : Int) : Nat → Int := if 1 ≤ k ∧ k ≤ n then X (k - 1).toNat else fun _ => 0
theorem ltV_in {L : Nat → Int} {n k : Int} (h : 1 ≤ k ∧ k ≤ n) : ltV L n k = L (k - 1).toNat := if_pos h
theorem pcV_in {n : Int} {T : Nat → P3} {k : Int} (h : 0 ≤ k ∧ k ≤ n) : pcV n T k = T k.toNat := if_pos h
theorem nmV_in {n : Int} {X : Nat → Nat → Int} {k : Int} (h : 1 ≤ k ∧ k ≤ n) : nmV n X k = X (k - 1).toNat := if_pos h
theorem cx_eq {α : Type} (Q : Int → Int → Int → Int → (Int → Int) → (Int → Int) → (Int → P3) → (Int → Nat → Int) → α) {h h1 : Hp} (e : ∀ k i, key k i = true → h1 k i = h k i) (hR : KR h) (eW : h 33 0 = h 0 11) (eH : h 33 1 = h 0 12) (eP : h 33 2 = h 0 13) (en : h 41 0 = h 0 14) (hv : ∀ j : Nat, j < 256 → h 34 j = h 1 j) (hd : ∀ j : Nat, j < 256 → h 35 j = h 10 j) (t : TR (h 0 14) (LC h) (AC h) (h 44) (h 3) (h 4) (h 5)) : Q (h 33 0) (h 33 1) (h 33 2) (h 41 0) (ltV (LC h) (h 41 0)) (bhV (LC h) (h 41 0)) (pcV (h 41 0) (PFc h)) (nmV (h 41 0) (XNc h)) = Q (h1 0 11) (h1 0 12) (h1 0 13) (h1 0 14) (ltV (h1 3) (h1 0 14)) (bhV (h1 3) (h1 0 14)) (pcV (h1 0 14) (PF h1)) (nmV (h1 0 14) (XN (h1 4) (h1 5))) := by
  have c : ∀ k, (∀ i, key k i = true) → h1 k = h k := fun k h1 => funext fun i => e k i (h1 i)
  have ePF : PF h1 = PF h := by
    unfold PF
    rw [e 0 11 rfl, e 0 12 rfl, e 0 13 rfl, c 1 (fun _ => rfl), c 10 (fun _ => rfl), c 3 (fun _ => rfl), c 4 (fun _ => rfl), c 5 (fun _ => rfl)]
  rw [ePF, e 0 11 rfl, e 0 12 rfl, e 0 13 rfl, e 0 14 rfl, c 3 (fun _ => rfl), c 4 (fun _ => rfl), c 5 (fun _ => rfl), eW, eH, eP, en]
  have e1 : ltV (LC h) (h 0 14) = ltV (h 3) (h 0 14) := funext fun k => by
    unfold ltV
    by_cases q : 1 ≤ k ∧ k ≤ h 0 14
    · rw [if_pos q, if_pos q]; exact t.1 _ (by omega)
    · rw [if_neg q, if_neg q]
  have e2 : bhV (LC h) (h 0 14) = bhV (h 3) (h 0 14) := funext fun k => by
    unfold bhV
    by_cases q : 0 ≤ k ∧ k ≤ h 0 14
    · rw [if_pos q, if_pos q]; exact bhI_eq _ (fun j hj => t.1 j (by omega))
    · rw [if_neg q, if_neg q]
  have e3 : pcV (h 0 14) (PFc h) = pcV (h 0 14) (PF h) := funext fun k => by
    unfold pcV
    by_cases q : 0 ≤ k ∧ k ≤ h 0 14
    · rw [if_pos q, if_pos q]; exact PF_eq hR eW eH eP hv hd t _ (by omega)
    · rw [if_neg q, if_neg q]
  have e4 : nmV (h 0 14) (XNc h) = nmV (h 0 14) (XN (h 4) (h 5)) := funext fun k => by
    unfold nmV
    by_cases q : 1 ≤ k ∧ k ≤ h 0 14
    · rw [if_pos q, if_pos q]; exact XNc_eq hR t (by omega)
    · rw [if_neg q, if_neg q]
  rw [e1, e2, e3, e4]










