/-! squares that hang together: what is left, the queue, how many -/
abbrev Sq3 : Type := (Nat → Int) × (Nat → Int) × Int
def puN (A : Nat → Int) (i v : Int) : Nat → Int := fun j => if j = i.toNat then v else A j
def enF (W H x y : Int) (S : Sq3) : Sq3 := if 0 ≤ x ∧ x < W ∧ 0 ≤ y ∧ y < H ∧ S.2.2 < 256 ∧ S.1 (16 * y + x).toNat = 1 then (puN S.1 (16 * y + x) 0, puN S.2.1 S.2.2 (16 * y + x), S.2.2 + 1) else S
def nb1 (W H a p j : Int) (S : Sq3) : Sq3 := if a = 1 ∨ j % 3 = 1 ∨ j / 3 = 1 then enF W H (p % 16 + (j % 3 - 1)) (p / 16 + (j / 3 - 1)) S else S
def nbS (W H a p : Int) (S : Sq3) : Nat → Sq3
  | 0 => S
  | j + 1 => nb1 W H a p j (nbS W H a p S j)
def bfF (W H a : Int) (S : Sq3) : Nat → Sq3
  | 0 => S
  | i + 1 => if (i : Int) < (bfF W H a S i).2.2 then nbS W H a ((bfF W H a S i).2.1 i) (bfF W H a S i) 9 else bfF W H a S i
theorem enF_y {W H x y : Int} {S : Sq3} (h : 0 ≤ x ∧ x < W ∧ 0 ≤ y ∧ y < H ∧ S.2.2 < 256 ∧ S.1 (16 * y + x).toNat = 1) : enF W H x y S = (puN S.1 (16 * y + x) 0, puN S.2.1 S.2.2 (16 * y + x), S.2.2 + 1) := if_pos h
theorem enF_n {W H x y : Int} {S : Sq3} (h : ¬ (0 ≤ x ∧ x < W ∧ 0 ≤ y ∧ y < H ∧ S.2.2 < 256 ∧ S.1 (16 * y + x).toNat = 1)) : enF W H x y S = S := if_neg h
theorem nbS_s {W H a p j : Int} {S : Sq3} (h : 0 ≤ j) : nbS W H a p S (j + 1).toNat = nb1 W H a p j (nbS W H a p S j.toNat) := by
  rw [show (j + 1).toNat = j.toNat + 1 by omega]
  show nb1 W H a p ((j.toNat : Nat) : Int) (nbS W H a p S j.toNat) = _
  rw [show ((j.toNat : Nat) : Int) = j by omega]
theorem bfF_s {W H a i : Int} {S : Sq3} (h : 0 ≤ i) (hl : i < (bfF W H a S i.toNat).2.2) : bfF W H a S (i + 1).toNat = nbS W H a ((bfF W H a S i.toNat).2.1 i.toNat) (bfF W H a S i.toNat) 9 := by
  rw [show (i + 1).toNat = i.toNat + 1 by omega]
  show (if ((i.toNat : Nat) : Int) < (bfF W H a S i.toNat).2.2 then _ else _) = _
  rw [if_pos (by omega)]
theorem bfF_end {W H a : Int} {S : Sq3} {i : Nat} (hl : (bfF W H a S i).2.2 ≤ i) : ∀ k, bfF W H a S (i + k) = bfF W H a S i
  | 0 => rfl
  | k + 1 => by
    show (if ((i + k : Nat) : Int) < (bfF W H a S (i + k)).2.2 then nbS W H a ((bfF W H a S (i + k)).2.1 (i + k)) (bfF W H a S (i + k)) 9 else bfF W H a S (i + k)) = _
    rw [bfF_end hl k, if_neg (by omega)]
/-- code's rest R, queue Q, how many n, and the model's -/
def StE (W H : Int) (R Q : Nat → Int) (n : Int) (S : Sq3) : Prop := (∀ x y : Int, inP W H x y → R (16 * y + x).toNat = S.1 (16 * y + x).toNat) ∧ n = S.2.2 ∧ (∀ j : Nat, (j : Int) < n → Q j = S.2.1 j ∧ 0 ≤ Q j ∧ Q j ≤ 255) ∧ 0 ≤ n ∧ n ≤ 256
theorem StE.en {W H x y n : Int} {R Q R' Q' : Nat → Int} {S : Sq3} (h : StE W H R Q n S) (hW : W ≤ 16) (hH : H ≤ 16) (hp : inP W H x y) (hn : n < 256) (h1 : R (16 * y + x).toNat = 1) (hR : R' (16 * y + x).toNat = 0) (hR2 : ∀ i : Nat, i < 256 → i ≠ (16 * y + x).toNat → R' i = R i) (hQ : Q' n.toNat = 16 * y + x) (hQ2 : ∀ i : Nat, (i : Int) < n → Q' i = Q i) : StE W H R' Q' (n + 1) (enF W H x y S) := by
  obtain ⟨a, b, c, d, e⟩ := h
  obtain ⟨p1, p2, p3, p4⟩ := id hp
  rw [enF_y ⟨p1, p2, p3, p4, by omega, by rw [← a x y hp]; exact h1⟩]
  refine ⟨fun u v hq => ?_, by show n + 1 = S.2.2 + 1; omega, fun j hj => ?_, by omega, by omega⟩
  · show R' (16 * v + u).toNat = if (16 * v + u).toNat = (16 * y + x).toNat then 0 else S.1 (16 * v + u).toNat
    obtain ⟨q1, q2, q3, q4⟩ := id hq
    by_cases q : (16 * v + u).toNat = (16 * y + x).toNat
    · rw [if_pos q, q]; exact hR
    · rw [if_neg q, hR2 _ (by omega) q]; exact a u v hq
  · show Q' j = (if j = (S.2.2).toNat then 16 * y + x else S.2.1 j) ∧ _
    by_cases q : j = n.toNat
    · rw [if_pos (by omega), q, hQ]; exact ⟨rfl, by omega, by omega⟩
    · rw [if_neg (by omega), hQ2 j (by omega)]; exact c j (by omega)
theorem StE.ne {W H x y n : Int} {R Q : Nat → Int} {S : Sq3} (h : StE W H R Q n S) (hq : ¬ (inP W H x y ∧ n < 256 ∧ R (16 * y + x).toNat = 1)) : StE W H R Q n (enF W H x y S) := by
  obtain ⟨a, b, c, d, e⟩ := h
  rw [enF_n (fun z => hq ⟨⟨z.1, z.2.1, z.2.2.1, z.2.2.2.1⟩, by omega, by rw [a x y ⟨z.1, z.2.1, z.2.2.1, z.2.2.2.1⟩]; exact z.2.2.2.2.2⟩)]
  exact ⟨a, b, c, d, e⟩
theorem StE.st {W H : Int} {R Q : Nat → Int} {R0 : Nat → Int} (h : ∀ x y : Int, inP W H x y → R (16 * y + x).toNat = R0 (16 * y + x).toNat) : StE W H R Q 0 (R0, fun _ => 0, 0) := ⟨h, rfl, fun j hj => absurd hj (by omega), Int.le_refl 0, by omega⟩
/-- all groups: what is left, how many, their sizes, their first squares -/
abbrev O4 : Type := (Nat → Int) × Int × (Nat → Int) × (Nat → Int)
abbrev S0F (W H a x y : Int) (R : Nat → Int) : Sq3 := bfF W H a (enF W H x y (R, fun _ => 0, 0)) 256
def otF (W H a : Int) (R0 : Nat → Int) : Nat → O4
  | 0 => (R0, 0, fun _ => 0, fun _ => 0)
  | p + 1 => if ((p % 16 : Nat) : Int) < W ∧ ((p / 16 : Nat) : Int) < H ∧ (otF W H a R0 p).1 p = 1 then ((S0F W H a ((p % 16 : Nat) : Int) ((p / 16 : Nat) : Int) (otF W H a R0 p).1).1, (otF W H a R0 p).2.1 + 1, puN (otF W H a R0 p).2.2.1 (otF W H a R0 p).2.1 (S0F W H a ((p % 16 : Nat) : Int) ((p / 16 : Nat) : Int) (otF W H a R0 p).1).2.2, puN (otF W H a R0 p).2.2.2 (otF W H a R0 p).2.1 p) else otF W H a R0 p
theorem otF_y {W H a x y : Int} {R0 : Nat → Int} (hW : W ≤ 16) (hp : inP W H x y) (h : (otF W H a R0 (16 * y + x).toNat).1 (16 * y + x).toNat = 1) : otF W H a R0 (16 * y + x + 1).toNat = ((S0F W H a x y (otF W H a R0 (16 * y + x).toNat).1).1, (otF W H a R0 (16 * y + x).toNat).2.1 + 1, puN (otF W H a R0 (16 * y + x).toNat).2.2.1 (otF W H a R0 (16 * y + x).toNat).2.1 (S0F W H a x y (otF W H a R0 (16 * y + x).toNat).1).2.2, puN (otF W H a R0 (16 * y + x).toNat).2.2.2 (otF W H a R0 (16 * y + x).toNat).2.1 (16 * y + x)) := by
  obtain ⟨p1, p2, p3, p4⟩ := hp
  rw [show (16 * y + x + 1).toNat = (16 * y + x).toNat + 1 by omega]
  have ex : (((16 * y + x).toNat % 16 : Nat) : Int) = x := by omega
  have ey : (((16 * y + x).toNat / 16 : Nat) : Int) = y := by omega
  have ep : (((16 * y + x).toNat : Nat) : Int) = 16 * y + x := by omega
  show (if (((16 * y + x).toNat % 16 : Nat) : Int) < W ∧ (((16 * y + x).toNat / 16 : Nat) : Int) < H ∧ (otF W H a R0 (16 * y + x).toNat).1 (16 * y + x).toNat = 1 then _ else _) = _
  rw [if_pos ⟨by omega, by omega, h⟩, ex, ey, ep]
theorem otF_n {W H a p : Int} {R0 : Nat → Int} (h0 : 0 ≤ p) (h : ¬ (p % 16 < W ∧ p / 16 < H ∧ (otF W H a R0 p.toNat).1 p.toNat = 1)) : otF W H a R0 (p + 1).toNat = otF W H a R0 p.toNat := by
  rw [show (p + 1).toNat = p.toNat + 1 by omega]
  show (if ((p.toNat % 16 : Nat) : Int) < W ∧ ((p.toNat / 16 : Nat) : Int) < H ∧ (otF W H a R0 p.toNat).1 p.toNat = 1 then _ else _) = _
  rw [if_neg (fun z => h ⟨by omega, by omega, z.2.2⟩)]
theorem otF_out {W H a p : Int} {R0 : Nat → Int} (h0 : 0 ≤ p) : ∀ k : Nat, (∀ i : Int, p ≤ i → i < p + k → ¬ (i % 16 < W ∧ i / 16 < H)) → otF W H a R0 (p + k).toNat = otF W H a R0 p.toNat
  | 0, _ => by rw [show (p + ((0 : Nat) : Int)).toNat = p.toNat by omega]
  | k + 1, h => by
    rw [show p + ((k + 1 : Nat) : Int) = (p + (k : Int)) + 1 by omega, otF_n (by omega) (fun z => h (p + (k : Int)) (by omega) (by omega) ⟨z.1, z.2.1⟩)]
    exact otF_out h0 k (fun i h1 h2 => h i h1 (by omega))
/-- the largest group, of like ones the first; none: -1 -/
def bsG (G : Nat → Int) : Nat → Int
  | 0 => -1
  | g + 1 => if bsG G g = -1 ∨ G (bsG G g).toNat < G g then g else bsG G g
theorem bsG_b {G : Nat → Int} : ∀ n : Nat, -1 ≤ bsG G n ∧ bsG G n < n
  | 0 => ⟨Int.le_refl _, by show (-1 : Int) < 0; omega⟩
  | n + 1 => by
    have z := bsG_b (G := G) n
    show -1 ≤ (if bsG G n = -1 ∨ G (bsG G n).toNat < G n then (n : Int) else bsG G n) ∧ (if bsG G n = -1 ∨ G (bsG G n).toNat < G n then (n : Int) else bsG G n) < _
    split <;> omega
theorem bsG_s {G : Nat → Int} {g : Int} (h : 0 ≤ g) : bsG G (g + 1).toNat = if bsG G g.toNat = -1 ∨ G (bsG G g.toNat).toNat < G g.toNat then g else bsG G g.toNat := by
  rw [show (g + 1).toNat = g.toNat + 1 by omega]
  show (if bsG G g.toNat = -1 ∨ G (bsG G g.toNat).toNat < G g.toNat then ((g.toNat : Nat) : Int) else _) = _
  rw [show ((g.toNat : Nat) : Int) = g by omega]
theorem bsG_cong {G G' : Nat → Int} : ∀ n : Nat, (∀ j, j < n → G j = G' j) → bsG G n = bsG G' n
  | 0, _ => rfl
  | n + 1, h => by
    have ih := bsG_cong n (fun j hj => h j (by omega))
    have b := bsG_b (G := G') n
    show (if bsG G n = -1 ∨ G (bsG G n).toNat < G n then (n : Int) else bsG G n) = (if bsG G' n = -1 ∨ G' (bsG G' n).toNat < G' n then (n : Int) else bsG G' n)
    rw [ih, h n (by omega)]
    by_cases q : bsG G' n = -1
    · rw [if_pos (Or.inl q), if_pos (Or.inl q)]
    · rw [h (bsG G' n).toNat (by omega)]
def lgG (G : Nat → Int) (m : Int) : Int := if bsG G m.toNat = -1 then 0 else G (bsG G m.toNat).toNat
def fsG (G F : Nat → Int) (m : Int) : Int := if bsG G m.toNat = -1 then -2 else F (bsG G m.toNat).toNat
theorem lg_s {G F : Nat → Int} {m s p : Int} (hm : 0 ≤ m) (hs : 1 ≤ s) : lgG (puN G m s) (m + 1) = (if lgG G m < s then s else lgG G m) ∧ fsG (puN G m s) (puN F m p) (m + 1) = (if lgG G m < s then p else fsG G F m) := by
  have b := bsG_b (G := G) m.toNat
  have ec : bsG (puN G m s) m.toNat = bsG G m.toNat := bsG_cong _ (fun j hj => if_neg (by omega))
  have em : puN G m s m.toNat = s := if_pos rfl
  have fm : puN F m p m.toNat = p := if_pos rfl
  by_cases q : bsG G m.toNat = -1
  · have e1 : bsG (puN G m s) (m + 1).toNat = m := by rw [bsG_s hm, ec, if_pos (Or.inl q)]
    have l0 : lgG G m = 0 := if_pos q
    have l1 : lgG (puN G m s) (m + 1) = s := by
      unfold lgG
      rw [e1, if_neg (show ¬ m = -1 by omega), em]
    have f1 : fsG (puN G m s) (puN F m p) (m + 1) = p := by
      unfold fsG
      rw [e1, if_neg (show ¬ m = -1 by omega), fm]
    rw [l1, f1, l0, if_pos (show (0 : Int) < s by omega), if_pos (show (0 : Int) < s by omega)]
    exact ⟨rfl, rfl⟩
  · have eo : puN G m s (bsG G m.toNat).toNat = G (bsG G m.toNat).toNat := if_neg (by omega)
    have fo : puN F m p (bsG G m.toNat).toNat = F (bsG G m.toNat).toNat := if_neg (by omega)
    have l0 : lgG G m = G (bsG G m.toNat).toNat := if_neg q
    have f0 : fsG G F m = F (bsG G m.toNat).toNat := if_neg q
    by_cases c : G (bsG G m.toNat).toNat < s
    · have e1 : bsG (puN G m s) (m + 1).toNat = m := by rw [bsG_s hm, ec, if_pos (Or.inr (by rw [eo, em]; exact c))]
      have l1 : lgG (puN G m s) (m + 1) = s := by
        unfold lgG
        rw [e1, if_neg (show ¬ m = -1 by omega), em]
      have f1 : fsG (puN G m s) (puN F m p) (m + 1) = p := by
        unfold fsG
        rw [e1, if_neg (show ¬ m = -1 by omega), fm]
      rw [l1, f1, l0, if_pos c, if_pos c]
      exact ⟨rfl, rfl⟩
    · have e1 : bsG (puN G m s) (m + 1).toNat = bsG G m.toNat := by
        rw [bsG_s hm, ec, if_neg (fun z => z.elim q (by rw [eo, em]; exact c))]
      have l1 : lgG (puN G m s) (m + 1) = G (bsG G m.toNat).toNat := by
        unfold lgG
        rw [e1, if_neg q, eo]
      have f1 : fsG (puN G m s) (puN F m p) (m + 1) = F (bsG G m.toNat).toNat := by
        unfold fsG
        rw [e1, if_neg q, fo]
      rw [l1, f1, l0, f0, if_neg c, if_neg c]
      exact ⟨rfl, rfl⟩
theorem enF_m {W H x y : Int} {S : Sq3} : S.2.2 ≤ (enF W H x y S).2.2 := by
  unfold enF
  split
  · show S.2.2 ≤ S.2.2 + 1; omega
  · exact Int.le_refl _
theorem nbS_m {W H a p : Int} {S : Sq3} : ∀ j : Nat, S.2.2 ≤ (nbS W H a p S j).2.2
  | 0 => Int.le_refl _
  | j + 1 => by
    have z := nbS_m (W := W) (H := H) (a := a) (p := p) (S := S) j
    show S.2.2 ≤ (nb1 W H a p j (nbS W H a p S j)).2.2
    unfold nb1
    split
    · exact Int.le_trans z enF_m
    · exact z
theorem bfF_m {W H a : Int} {S : Sq3} : ∀ i : Nat, S.2.2 ≤ (bfF W H a S i).2.2
  | 0 => Int.le_refl _
  | i + 1 => by
    have z := bfF_m (W := W) (H := H) (a := a) (S := S) i
    show S.2.2 ≤ (if (i : Int) < (bfF W H a S i).2.2 then nbS W H a ((bfF W H a S i).2.1 i) (bfF W H a S i) 9 else bfF W H a S i).2.2
    split
    · exact Int.le_trans z (nbS_m 9)
    · exact z
theorem S0_1 {W H a x y : Int} {R : Nat → Int} (hp : inP W H x y) (h : R (16 * y + x).toNat = 1) : 1 ≤ (S0F W H a x y R).2.2 := by
  have z := bfF_m (W := W) (H := H) (a := a) (S := enF W H x y (R, fun _ => 0, 0)) 256
  rw [enF_y (S := (R, fun _ => 0, 0)) ⟨hp.1, hp.2.1, hp.2.2.1, hp.2.2.2, by show (0 : Int) < 256; omega, h⟩] at z
  have e : (puN R (16 * y + x) 0, puN (fun _ => 0) 0 (16 * y + x), (0 : Int) + 1).2.2 = (1 : Int) := rfl
  unfold S0F
  rw [enF_y (S := (R, fun _ => 0, 0)) ⟨hp.1, hp.2.1, hp.2.2.1, hp.2.2.2, by show (0 : Int) < 256; omega, h⟩]
  exact z


/-! all groups, as they stand when the squares below p have been looked at -/
def OtE (W H a : Int) (M R : Nat → Int) (n l f p : Int) : Prop := (∀ x y : Int, inP W H x y → R (16 * y + x).toNat = (otF W H a M p.toNat).1 (16 * y + x).toNat) ∧ n = (otF W H a M p.toNat).2.1 ∧ l = lgG (otF W H a M p.toNat).2.2.1 (otF W H a M p.toNat).2.1 ∧ f = fsG (otF W H a M p.toNat).2.2.1 (otF W H a M p.toNat).2.2.2 (otF W H a M p.toNat).2.1 ∧ 0 ≤ n ∧ n ≤ p
theorem OtE.st {W H a : Int} {M R : Nat → Int} (h : ∀ x y : Int, inP W H x y → R (16 * y + x).toNat = M (16 * y + x).toNat) : OtE W H a M R 0 0 (-2) 0 := ⟨h, rfl, rfl, rfl, Int.le_refl 0, Int.le_refl 0⟩
theorem OtE.n {W H a : Int} {M R : Nat → Int} {n l f x y : Int} (h : OtE W H a M R n l f (16 * y + x)) (hW : W ≤ 16) (hp : inP W H x y) (h1 : R (16 * y + x).toNat ≠ 1) : OtE W H a M R n l f (16 * y + (x + 1)) := by
  obtain ⟨a1, a2, a3, a4, a5, a6⟩ := h
  obtain ⟨p1, p2, p3, p4⟩ := id hp
  have e : otF W H a M (16 * y + (x + 1)).toNat = otF W H a M (16 * y + x).toNat := by
    rw [show 16 * y + (x + 1) = 16 * y + x + 1 by omega]
    exact otF_n (by omega) (fun z => h1 ((a1 x y hp).trans z.2.2))
  unfold OtE
  rw [e]
  exact ⟨a1, a2, a3, a4, a5, by omega⟩
theorem OtE.y {W H a : Int} {M R R' : Nat → Int} {n l f n' l' f' s x y : Int} (h : OtE W H a M R n l f (16 * y + x)) (hW : W ≤ 16) (hp : inP W H x y) (h1 : R (16 * y + x).toNat = 1)
    (hR : ∀ u v : Int, inP W H u v → R' (16 * v + u).toNat = (S0F W H a x y (otF W H a M (16 * y + x).toNat).1).1 (16 * v + u).toNat) (hs : s = (S0F W H a x y (otF W H a M (16 * y + x).toNat).1).2.2) (hn : n' = n + 1) (hl : (l < s ∧ l' = s ∧ f' = 16 * y + x) ∨ (s ≤ l ∧ l' = l ∧ f' = f)) : OtE W H a M R' n' l' f' (16 * y + (x + 1)) := by
  obtain ⟨a1, a2, a3, a4, a5, a6⟩ := h
  have h2 : (otF W H a M (16 * y + x).toNat).1 (16 * y + x).toNat = 1 := (a1 x y hp).symm.trans h1
  have e := otF_y (a := a) (R0 := M) hW hp h2
  have hs1 := S0_1 (a := a) hp h2
  have lg := lg_s (G := (otF W H a M (16 * y + x).toNat).2.2.1) (F := (otF W H a M (16 * y + x).toNat).2.2.2) (m := n) (s := s) (p := 16 * y + x) a5 (by omega)
  rw [← a2] at a3 a4
  unfold OtE
  rw [show 16 * y + (x + 1) = 16 * y + x + 1 by omega, e]
  clear e h2
  generalize S0F W H a x y (otF W H a M (16 * y + x).toNat).1 = X at *
  generalize otF W H a M (16 * y + x).toNat = O at *
  refine ⟨hR, ?_, ?_, ?_, by omega, by omega⟩
  · show n' = O.2.1 + 1
    omega
  · show l' = lgG (puN O.2.2.1 O.2.1 X.2.2) (O.2.1 + 1)
    rw [← hs, ← a2, lg.1, ← a3]
    rcases hl with ⟨q1, q2, q3⟩ | ⟨q1, q2, q3⟩
    · rw [if_pos q1]; exact q2
    · rw [if_neg (by omega)]; exact q2
  · show f' = fsG (puN O.2.2.1 O.2.1 X.2.2) (puN O.2.2.2 O.2.1 (16 * y + x)) (O.2.1 + 1)
    rw [← hs, ← a2, lg.2, ← a3, ← a4]
    rcases hl with ⟨q1, q2, q3⟩ | ⟨q1, q2, q3⟩
    · rw [if_pos q1]; exact q3
    · rw [if_neg (by omega)]; exact q3
theorem OtE.out {W H a : Int} {M R : Nat → Int} {n l f p : Int} (h : OtE W H a M R n l f p) (h0 : 0 ≤ p) (k : Nat) (hk : ∀ i : Int, p ≤ i → i < p + k → ¬ (i % 16 < W ∧ i / 16 < H)) : OtE W H a M R n l f (p + k) := by
  obtain ⟨a1, a2, a3, a4, a5, a6⟩ := h
  unfold OtE
  rw [otF_out h0 k hk]
  exact ⟨a1, a2, a3, a4, a5, by omega⟩
theorem OtE.row {W H a : Int} {M R : Nat → Int} {n l f x y : Int} (h : OtE W H a M R n l f (16 * y + x)) (h0 : 0 ≤ y) (h1 : 0 ≤ W) (h2 : W ≤ 16) (hx : x = W) : OtE W H a M R n l f (16 * (y + 1)) := by
  have z := h.out (by omega) (16 - x).toNat (fun i i1 i2 q => by omega)
  rw [show 16 * y + x + (((16 - x).toNat : Nat) : Int) = 16 * (y + 1) by omega] at z
  exact z
theorem OtE.end {W H a : Int} {M R : Nat → Int} {n l f y : Int} (h : OtE W H a M R n l f (16 * y)) (h0 : 0 ≤ H) (h1 : H ≤ 16) (hy : y = H) : OtE W H a M R n l f 256 := by
  have z := h.out (by omega) (256 - 16 * y).toNat (fun i i1 i2 q => by omega)
  rw [show 16 * y + (((256 - 16 * y).toNat : Nat) : Int) = 256 by omega] at z
  exact z
theorem bfF_full {W H a : Int} {S : Sq3} {i : Int} (h0 : 0 ≤ i) (h1 : i ≤ 256) (hl : (bfF W H a S i.toNat).2.2 ≤ i) : bfF W H a S 256 = bfF W H a S i.toNat := by
  have z := bfF_end (W := W) (H := H) (a := a) (S := S) (i := i.toNat) (by omega) (256 - i.toNat)
  rw [show i.toNat + (256 - i.toNat) = 256 by omega] at z
  exact z
theorem nb1_y {W H a p j dx dy x y : Int} {S : Sq3} (h : a = 1 ∨ dx = 0 ∨ dy = 0) (hx : -1 ≤ dx ∧ dx ≤ 1) (hy : -1 ≤ dy ∧ dy ≤ 1) (hj : j = 3 * (dy + 1) + (dx + 1)) (ex : x = p % 16 + dx) (ey : y = p / 16 + dy) : nb1 W H a p j S = enF W H x y S := by
  unfold nb1
  rw [if_pos (by omega), show j % 3 - 1 = dx by omega, show j / 3 - 1 = dy by omega, ex, ey]
theorem nb1_n {W H a p j dx dy : Int} {S : Sq3} (h : ¬ (a = 1 ∨ dx = 0 ∨ dy = 0)) (hx : -1 ≤ dx ∧ dx ≤ 1) (hy : -1 ≤ dy ∧ dy ≤ 1) (hj : j = 3 * (dy + 1) + (dx + 1)) : nb1 W H a p j S = S := by
  unfold nb1
  rw [if_neg (by omega)]

abbrev q_X0_enqueueZ (b : Bd) (κ : Hp) (x1 : Int) (x2 : Int) (S : Sq3) (gh0 : Hp) : Int → Hp → Prop := fun r h' => Fr b κ h' ∧ ((Fw [100, 101] [(98, 6)] gh0 h') ∧ (StE (κ 33 0) (κ 33 1) (h' 100) (h' 101) (h' 98 6) (enF (κ 33 0) (κ 33 1) x1 x2 S)))
set_option maxHeartbeats 4000000 in
set_option maxRecDepth 20000 in
theorem s_X0_enqueueZ {G : Ga} {b : Bd} {κ h : Hp} (hK : KC κ) (hF : Fr b κ h) (x1 : Int) (hx1 : -1 ≤ x1 ∧ x1 ≤ 16) (x2 : Int) (hx2 : -1 ≤ x2 ∧ x2 ≤ 16) (S : Sq3) (gh0 : Hp) (hSt : StE (κ 33 0) (κ 33 1) (h 100) (h 101) (h 98 6) S) (hgh : Fw [100, 101] [(98, 6)] gh0 h) : zM G mX0_enqueue yX0_enqueue [.inr (.inr 98), .inl x1, .inl x2] h (q_X0_enqueueZ b κ x1 x2 S gh0) := by
  have f_33_0 := KCw hK
  have f_33_1 := KCh hK
  refine zM_of [some (.inr (.inr 98)), some (.inl x1), some (.inl x2)] 0 rfl rfl (Nat.le_of_ble_eq_true rfl) rfl ?_
  refine zW_aload_n (pc' := 1) dX0_enqueue_0.1.1.1.1 rfl rfl ?_
  refine zG_ref (pc' := 4) 33 fg_X0_21 tb98 rfl dX0_enqueue_0.1.1.1.2 rfl ?_
  refine zW_iload_n (pc' := 5) dX0_enqueue_0.1.1.2.1 rfl rfl ?_
  refine zW_iload_n (pc' := 6) dX0_enqueue_0.1.1.2.2 rfl rfl ?_
  refine cvI2 (pc' := 9) kX5_has vX5_has lk_X0_25 ⟨Nat.le_of_ble_eq_true rfl, Nat.le_of_ble_eq_true rfl⟩ tb33 vq5 rfl rfl (s_X5_has hK hF _ ⟨by omega, by omega⟩ _ ⟨by omega, by omega⟩) dX0_enqueue_0.1.2.1.1 (Nat.le_of_ble_eq_true rfl) rfl ?_
  rintro r6 z6 ⟨hz6, p6⟩; subst z6
  refine zV_if_eq (tgt := 74) (pc' := 12) dX0_enqueue_0.1.2.1.2 rfl rfl ⟨by omega, by omega⟩ (fun c9 => ?_) (fun c9 => ?_)
  · try (have z71 : h 98 6 = ysv + 1 := by rw [w71]; exact zwr_eq.trans (by rw [z63]))
    exact zV_vret rfl dX0_enqueue_2.2.2.2 ⟨hF, ⟨hgh, (by first | (exact hSt.ne (fun q => by obtain ⟨⟨q1, q2, q3, q4⟩, q5, q6⟩ := q; rw [show 16 * x2 + x1 = x2 * 16 + x1 by omega] at q6; omega)) | (rw [show h 98 6 = ysv + 1 from z71, w71, zfun (by decide), zfun (by decide)]; exact st0.en (by omega) (by omega) ⟨by omega, by omega, by omega, by omega⟩ (by omega) st1 k63.1 k63.2.1 k63.2.2.1 k63.2.2.2))⟩⟩
  · refine zW_aload_n (pc' := 13) dX0_enqueue_0.1.2.2.1 rfl rfl ?_
    refine zG_int (pc' := 16) fg_X0_71 tb98 rfl dX0_enqueue_0.1.2.2.2 rfl ?_
    have e13 := hF.2.2.2.2.2.1
    refine zW_sipush (pc' := 19) dX0_enqueue_0.2.1.1.1 rfl rfl ?_
    refine zV_cm_ge (tgt := 74) (pc' := 22) dX0_enqueue_0.2.1.1.2 rfl rfl ⟨by omega, by omega⟩ ⟨by omega, by omega⟩ (fun c19 => ?_) (fun c19 => ?_)
    · try (have z71 : h 98 6 = ysv + 1 := by rw [w71]; exact zwr_eq.trans (by rw [z63]))
      exact zV_vret rfl dX0_enqueue_2.2.2.2 ⟨hF, ⟨hgh, (by first | (exact hSt.ne (fun q => by obtain ⟨⟨q1, q2, q3, q4⟩, q5, q6⟩ := q; rw [show 16 * x2 + x1 = x2 * 16 + x1 by omega] at q6; omega)) | (rw [show h 98 6 = ysv + 1 from z71, w71, zfun (by decide), zfun (by decide)]; exact st0.en (by omega) (by omega) ⟨by omega, by omega, by omega, by omega⟩ (by omega) st1 k63.1 k63.2.1 k63.2.2.1 k63.2.2.2))⟩⟩
    · refine zW_aload_n (pc' := 23) dX0_enqueue_0.2.1.2.1 rfl rfl ?_
      refine zG_ref (pc' := 26) 100 fg_X0_15 tb98 rfl dX0_enqueue_0.2.1.2.2 rfl ?_
      refine zW_iload_n (pc' := 27) dX0_enqueue_0.2.2.1.1 rfl rfl ?_
      refine zW_bipush (pc' := 29) dX0_enqueue_0.2.2.1.2 rfl rfl ?_
      refine zW_imul (pc' := 30) dX0_enqueue_0.2.2.2.1 rfl ?_
      refine zW_iload_n (pc' := 31) dX0_enqueue_0.2.2.2.2 rfl rfl ?_
      refine zW_iadd (pc' := 32) dX0_enqueue_1.1.1.1.1 rfl ?_
      refine zV_ialdI (pc' := 33) hF (by decide) (by decide) tb100 (by omega) dX0_enqueue_1.1.1.1.2 (by decide) rfl (fun e32 => ?_)
      refine zW_iconst (pc' := 34) dX0_enqueue_1.1.1.2.1 rfl ?_
      refine zV_cm_ne (tgt := 74) (pc' := 37) dX0_enqueue_1.1.1.2.2 rfl rfl ⟨by omega, by omega⟩ ⟨by omega, by omega⟩ (fun c34 => ?_) (fun c34 => ?_)
      · try (have z71 : h 98 6 = ysv + 1 := by rw [w71]; exact zwr_eq.trans (by rw [z63]))
        exact zV_vret rfl dX0_enqueue_2.2.2.2 ⟨hF, ⟨hgh, (by first | (exact hSt.ne (fun q => by obtain ⟨⟨q1, q2, q3, q4⟩, q5, q6⟩ := q; rw [show 16 * x2 + x1 = x2 * 16 + x1 by omega] at q6; omega)) | (rw [show h 98 6 = ysv + 1 from z71, w71, zfun (by decide), zfun (by decide)]; exact st0.en (by omega) (by omega) ⟨by omega, by omega, by omega, by omega⟩ (by omega) st1 k63.1 k63.2.1 k63.2.2.1 k63.2.2.2))⟩⟩
      · refine zW_aload_n (pc' := 38) dX0_enqueue_1.1.2.1.1 rfl rfl ?_
        refine zG_ref (pc' := 41) 100 fg_X0_15 tb98 rfl dX0_enqueue_1.1.2.1.2 rfl ?_
        refine zW_iload_n (pc' := 42) dX0_enqueue_1.1.2.2.1 rfl rfl ?_
        refine zW_bipush (pc' := 44) dX0_enqueue_1.1.2.2.2 rfl rfl ?_
        refine zW_imul (pc' := 45) dX0_enqueue_1.2.1.1.1 rfl ?_
        refine zW_iload_n (pc' := 46) dX0_enqueue_1.2.1.1.2 rfl rfl ?_
        refine zW_iadd (pc' := 47) dX0_enqueue_1.2.1.2.1 rfl ?_
        refine zW_iconst (pc' := 48) dX0_enqueue_1.2.1.2.2 rfl ?_
        have ei : x2 * 16 + x1 = 16 * x2 + x1 := by omega
        obtain ⟨hh, hhe⟩ : ∃ z : Hp, z = h := ⟨_, rfl⟩
        obtain ⟨ysv, hysv⟩ : ∃ z : Int, z = h 98 6 := ⟨_, rfl⟩
        have st0 : StE (κ 33 0) (κ 33 1) (hh 100) (hh 101) ysv S := by rw [hhe, hysv]; exact hSt
        have st1 : hh 100 (16 * x2 + x1).toNat = 1 := by rw [hhe, ← ei]; omega
        refine zS_i (pc' := 49) hF rfl tb100 (by omega) dX0_enqueue_1.2.2.1.1 (by decide) rfl (fun h i48 hF a48 b48 w48 => ?_)
        replace b48 := b48 ⟨by omega, by omega⟩
        replace hgh : Fw [100, 101] [(98, 6)] gh0 h := by rw [w48]; exact hgh.wc (by simp)
        have z48 : h 98 6 = ysv := by rw [w48, hysv]; exact zwr_ne (Or.inl (by decide))
        have k48 : h 100 (16 * x2 + x1).toNat = 0 ∧ (∀ i : Nat, i < 256 → i ≠ (16 * x2 + x1).toNat → h 100 i = hh 100 i) ∧ (∀ i : Nat, h 101 i = hh 101 i) := by rw [w48, hhe, ← ei]; exact ⟨zwr_eq.trans b48, fun i i1 i2 => zwr_ne (Or.inr i2), fun i => zwr_ne (Or.inl (by decide))⟩
        refine zW_aload_n (pc' := 50) dX0_enqueue_1.2.2.1.2 rfl rfl ?_
        refine zG_ref (pc' := 53) 101 fg_X0_18 tb98 rfl dX0_enqueue_1.2.2.2.1 rfl ?_
        refine zW_aload_n (pc' := 54) dX0_enqueue_1.2.2.2.2 rfl rfl ?_
        refine zG_int (pc' := 57) fg_X0_71 tb98 rfl dX0_enqueue_2.1.1.1.1 rfl ?_
        have e54 := hF.2.2.2.2.2.1
        refine zW_iload_n (pc' := 58) dX0_enqueue_2.1.1.1.2 rfl rfl ?_
        refine zW_bipush (pc' := 60) dX0_enqueue_2.1.1.2.1 rfl rfl ?_
        refine zW_imul (pc' := 61) dX0_enqueue_2.1.1.2.2 rfl ?_
        refine zW_iload_n (pc' := 62) dX0_enqueue_2.1.2.1.1 rfl rfl ?_
        refine zW_iadd (pc' := 63) dX0_enqueue_2.1.2.1.2 rfl ?_
        refine zS_i (pc' := 64) hF rfl tb101 (by omega) dX0_enqueue_2.1.2.2 (by decide) rfl (fun h i63 hF a63 b63 w63 => ?_)
        replace b63 := b63 ⟨by omega, by omega⟩
        replace hgh : Fw [100, 101] [(98, 6)] gh0 h := by rw [w63]; exact hgh.wc (by simp)
        have z63 : h 98 6 = ysv := by rw [w63]; exact (zwr_ne (Or.inl (by decide))).trans z48
        have k63 : h 100 (16 * x2 + x1).toNat = 0 ∧ (∀ i : Nat, i < 256 → i ≠ (16 * x2 + x1).toNat → h 100 i = hh 100 i) ∧ h 101 ysv.toNat = 16 * x2 + x1 ∧ (∀ i : Nat, (i : Int) < ysv → h 101 i = hh 101 i) := by rw [w63, z48]; exact ⟨(zwr_ne (Or.inl (by decide))).trans k48.1, fun i i1 i2 => (zwr_ne (Or.inl (by decide))).trans (k48.2.1 i i1 i2), zwr_eq.trans (by rw [b63, ei]), fun i hi => (zwr_ne (Or.inr (by omega))).trans (k48.2.2 i)⟩
        refine zW_aload_n (pc' := 65) dX0_enqueue_2.2.1.1.1 rfl rfl ?_
        refine zW_dup (pc' := 66) dX0_enqueue_2.2.1.1.2 rfl rfl ?_
        refine zG_int (pc' := 69) fg_X0_71 tb98 rfl dX0_enqueue_2.2.1.2.1 rfl ?_
        have e66 := hF.2.2.2.2.2.1
        refine zW_iconst (pc' := 70) dX0_enqueue_2.2.1.2.2 rfl ?_
        refine zW_iadd (pc' := 71) dX0_enqueue_2.2.2.1.1 rfl ?_
        refine zX_int (pc' := 74) (hF.p98 ⟨by omega, by omega⟩) fp_X0_71 tb98 rfl dX0_enqueue_2.2.2.1.2 rfl (fun h hF w71 => ?_)
        replace hgh : Fw [100, 101] [(98, 6)] gh0 h := by rw [w71]; exact hgh.wf (by simp)
        try (have z71 : h 98 6 = ysv + 1 := by rw [w71]; exact zwr_eq.trans (by rw [z63]))
        exact zV_vret rfl dX0_enqueue_2.2.2.2 ⟨hF, ⟨hgh, (by first | (exact hSt.ne (fun q => by obtain ⟨⟨q1, q2, q3, q4⟩, q5, q6⟩ := q; rw [show 16 * x2 + x1 = x2 * 16 + x1 by omega] at q6; omega)) | (rw [show h 98 6 = ysv + 1 from z71, w71, zfun (by decide), zfun (by decide)]; exact st0.en (by omega) (by omega) ⟨by omega, by omega, by omega, by omega⟩ (by omega) st1 k63.1 k63.2.1 k63.2.2.1 k63.2.2.2))⟩⟩

abbrev q_X0_takeZ (b : Bd) (κ : Hp) (x1 : Int) (x2 : Int) (x3 : Int) (R0 : Nat → Int) (gh0 : Hp) : Int → Hp → Prop := fun r h' => Fr b κ h' ∧ ((Fw [100, 101] [(98, 6)] gh0 h') ∧ (0 ≤ r) ∧ (r ≤ 256) ∧ ((∀ x y : Int, inP (κ 33 0) (κ 33 1) x y → h' 100 (16 * y + x).toNat = (S0F (κ 33 0) (κ 33 1) x3 x1 x2 R0).1 (16 * y + x).toNat) ∧ r = (S0F (κ 33 0) (κ 33 1) x3 x1 x2 R0).2.2))
set_option maxHeartbeats 4000000 in
set_option maxRecDepth 20000 in
theorem s_X0_takeZ {G : Ga} {b : Bd} {κ h : Hp} (hK : KC κ) (hF : Fr b κ h) (x1 : Int) (hx1 : 0 ≤ x1 ∧ x1 ≤ 15 ∧ x1 - κ 33 0 ≤ -1) (x2 : Int) (hx2 : 0 ≤ x2 ∧ x2 ≤ 15 ∧ x2 - κ 33 1 ≤ -1) (x3 : Int) (hx3 : 0 ≤ x3 ∧ x3 ≤ 1) (R0 : Nat → Int) (gh0 : Hp) (hR0 : ∀ x y : Int, inP (κ 33 0) (κ 33 1) x y → h 100 (16 * y + x).toNat = R0 (16 * y + x).toNat) (hgh : Fw [100, 101] [(98, 6)] gh0 h) : zM G mX0_take yX0_take [.inr (.inr 98), .inl x1, .inl x2, .inl x3] h (q_X0_takeZ b κ x1 x2 x3 R0 gh0) := by
  have f_33_0 := KCw hK
  have f_33_1 := KCh hK
  have main : ∀ N : Nat, (∀ (v4 : Int) (h : Hp), Fr b κ h → (0 ≤ v4 ∧ v4 ≤ 256) → (StE (κ 33 0) (κ 33 1) (h 100) (h 101) (h 98 6) (bfF (κ 33 0) (κ 33 1) x3 (enF (κ 33 0) (κ 33 1) x1 x2 (R0, fun _ => 0, 0)) v4.toNat)) → (Fw [100, 101] [(98, 6)] gh0 h) → 13707540000 + 966000 * (256 - v4) + 948750 < (N : Int) → zV G mX0_take (q_X0_takeZ b κ x1 x2 x3 R0 gh0) 14 [some (.inr (.inr 98)), some (.inl x1), some (.inl x2), some (.inl x3), some (.inl v4), none, none, none, none] [] h) ∧ (∀ (v4 v5 v6 v7 : Int) (h : Hp), Fr b κ h → (0 ≤ v4 ∧ v4 ≤ 255) → (0 ≤ v5 ∧ v5 ≤ 15) → (0 ≤ v6 ∧ v6 ≤ 15) → (-1 ≤ v7 ∧ v7 ≤ 2) → (StE (κ 33 0) (κ 33 1) (h 100) (h 101) (h 98 6) (nbS (κ 33 0) (κ 33 1) x3 ((bfF (κ 33 0) (κ 33 1) x3 (enF (κ 33 0) (κ 33 1) x1 x2 (R0, fun _ => 0, 0)) v4.toNat).2.1 v4.toNat) (bfF (κ 33 0) (κ 33 1) x3 (enF (κ 33 0) (κ 33 1) x1 x2 (R0, fun _ => 0, 0)) v4.toNat) (3 * (v7 + 1)).toNat)) → (v5 = ((bfF (κ 33 0) (κ 33 1) x3 (enF (κ 33 0) (κ 33 1) x1 x2 (R0, fun _ => 0, 0)) v4.toNat).2.1 v4.toNat) % 16) → (v6 = ((bfF (κ 33 0) (κ 33 1) x3 (enF (κ 33 0) (κ 33 1) x1 x2 (R0, fun _ => 0, 0)) v4.toNat).2.1 v4.toNat) / 16) → (0 ≤ (bfF (κ 33 0) (κ 33 1) x3 (enF (κ 33 0) (κ 33 1) x1 x2 (R0, fun _ => 0, 0)) v4.toNat).2.1 v4.toNat ∧ (bfF (κ 33 0) (κ 33 1) x3 (enF (κ 33 0) (κ 33 1) x1 x2 (R0, fun _ => 0, 0)) v4.toNat).2.1 v4.toNat ≤ 255) → (v4 < (bfF (κ 33 0) (κ 33 1) x3 (enF (κ 33 0) (κ 33 1) x1 x2 (R0, fun _ => 0, 0)) v4.toNat).2.2) → (Fw [100, 101] [(98, 6)] gh0 h) → 13707540000 + 966000 * (256 - v4) + 500250 + 3450 * (2 - v7) + 3335 < (N : Int) → zV G mX0_take (q_X0_takeZ b κ x1 x2 x3 R0 gh0) 58 [some (.inr (.inr 98)), some (.inl x1), some (.inl x2), some (.inl x3), some (.inl v4), some (.inl v5), some (.inl v6), some (.inl v7), none] [] h) ∧ (∀ (v4 v5 v6 v7 v8 : Int) (h : Hp), Fr b κ h → (0 ≤ v4 ∧ v4 ≤ 255) → (0 ≤ v5 ∧ v5 ≤ 15) → (0 ≤ v6 ∧ v6 ≤ 15) → (-1 ≤ v7 ∧ v7 ≤ 1) → (-1 ≤ v8 ∧ v8 ≤ 2) → (StE (κ 33 0) (κ 33 1) (h 100) (h 101) (h 98 6) (nbS (κ 33 0) (κ 33 1) x3 ((bfF (κ 33 0) (κ 33 1) x3 (enF (κ 33 0) (κ 33 1) x1 x2 (R0, fun _ => 0, 0)) v4.toNat).2.1 v4.toNat) (bfF (κ 33 0) (κ 33 1) x3 (enF (κ 33 0) (κ 33 1) x1 x2 (R0, fun _ => 0, 0)) v4.toNat) (3 * (v7 + 1) + (v8 + 1)).toNat)) → (v5 = ((bfF (κ 33 0) (κ 33 1) x3 (enF (κ 33 0) (κ 33 1) x1 x2 (R0, fun _ => 0, 0)) v4.toNat).2.1 v4.toNat) % 16) → (v6 = ((bfF (κ 33 0) (κ 33 1) x3 (enF (κ 33 0) (κ 33 1) x1 x2 (R0, fun _ => 0, 0)) v4.toNat).2.1 v4.toNat) / 16) → (0 ≤ (bfF (κ 33 0) (κ 33 1) x3 (enF (κ 33 0) (κ 33 1) x1 x2 (R0, fun _ => 0, 0)) v4.toNat).2.1 v4.toNat ∧ (bfF (κ 33 0) (κ 33 1) x3 (enF (κ 33 0) (κ 33 1) x1 x2 (R0, fun _ => 0, 0)) v4.toNat).2.1 v4.toNat ≤ 255) → (v4 < (bfF (κ 33 0) (κ 33 1) x3 (enF (κ 33 0) (κ 33 1) x1 x2 (R0, fun _ => 0, 0)) v4.toNat).2.2) → (Fw [100, 101] [(98, 6)] gh0 h) → 13707540000 + 966000 * (256 - v4) + 500250 + 3450 * (2 - v7) + 2530 + 23 * (2 - v8) + 22 < (N : Int) → zV G mX0_take (q_X0_takeZ b κ x1 x2 x3 R0 gh0) 67 [some (.inr (.inr 98)), some (.inl x1), some (.inl x2), some (.inl x3), some (.inl v4), some (.inl v5), some (.inl v6), some (.inl v7), some (.inl v8)] [] h) := by
    intro N
    induction N with
    | zero =>
      refine ⟨?_, ?_, ?_⟩
      · intro v4 h hF g0 gc0 hgh hm
        exfalso; omega
      · intro v4 v5 v6 v7 h hF g0 g1 g2 g3 gc0 gc1 gc2 gc3 gc4 hgh hm
        exfalso; omega
      · intro v4 v5 v6 v7 v8 h hF g0 g1 g2 g3 g4 gc0 gc1 gc2 gc3 gc4 hgh hm
        exfalso; omega
    | succ N ih =>
      obtain ⟨k14, k58, k67⟩ := ih
      refine ⟨?_, ?_, ?_⟩
      · intro v4 h hF g0 gc0 hgh hm
        refine zW_iload (pc' := 16) dX0_take_0.2.1.1.2 rfl rfl ?_
        refine zW_aload_n (pc' := 17) dX0_take_0.2.1.2.1 rfl rfl ?_
        refine zG_int (pc' := 20) fg_X0_71 tb98 rfl dX0_take_0.2.1.2.2 rfl ?_
        have e17 := hF.2.2.2.2.2.1
        refine zV_cm_ge (tgt := 119) (pc' := 23) dX0_take_0.2.2.1.1 rfl rfl ⟨by omega, by omega⟩ ⟨by omega, by omega⟩ (fun c20 => ?_) (fun c20 => ?_)
        · refine zW_aload_n (pc' := 120) dX0_take_3.2.2.1.1 rfl rfl ?_
          refine zG_int (pc' := 123) fg_X0_71 tb98 rfl dX0_take_3.2.2.1.2 rfl ?_
          have e120 := hF.2.2.2.2.2.1
          exact zV_iret rfl dX0_take_3.2.2.2 ⟨hF, ⟨hgh, (by have e := bfF_full (W := κ 33 0) (H := κ 33 1) (a := x3) (S := enF (κ 33 0) (κ 33 1) x1 x2 (R0, fun _ => 0, 0)) (i := v4) (by omega) (by omega) (by have z := gc0.2.1; have z2 := gc0.2.2.2.2; omega); refine ⟨by have z2 := gc0.2.2.2.1; omega, by have z2 := gc0.2.2.2.2; omega, ?_, ?_⟩; (unfold S0F; rw [e]; exact gc0.1); (unfold S0F; rw [e]; exact gc0.2.1))⟩⟩
        · refine zW_iload (pc' := 25) dX0_take_0.2.2.1.2 rfl rfl ?_
          refine zW_sipush (pc' := 28) dX0_take_0.2.2.2.1 rfl rfl ?_
          refine zV_cm_ge (tgt := 119) (pc' := 31) dX0_take_0.2.2.2.2 rfl rfl ⟨by omega, by omega⟩ ⟨by omega, by omega⟩ (fun c28 => ?_) (fun c28 => ?_)
          · exfalso; omega
          · refine zW_aload_n (pc' := 32) dX0_take_1.1.1.1.1 rfl rfl ?_
            refine zG_ref (pc' := 35) 101 fg_X0_18 tb98 rfl dX0_take_1.1.1.1.2 rfl ?_
            refine zW_iload (pc' := 37) dX0_take_1.1.1.2.1 rfl rfl ?_
            refine zV_ialdI (pc' := 38) hF (by decide) (by decide) tb101 (by omega) dX0_take_1.1.1.2.2 (by decide) rfl (fun e37 => ?_)
            have eq0 := (gc0.2.2.1 v4.toNat (by omega))
            have eqn := gc0.2.1
            refine zW_bipush (pc' := 40) dX0_take_1.1.2.1.1 rfl rfl ?_
            refine zW_iremS (pc' := 41) ⟨by omega, by omega⟩ (by omega) dX0_take_1.1.2.1.2 rfl (fun v40 e40 => ?_)
            refine zW_istore (ls' := [_, _, _, _, _, _, _, _, _]) (pc' := 43) dX0_take_1.1.2.2.1 (by decide) rfl rfl rfl ?_
            refine zW_aload_n (pc' := 44) dX0_take_1.1.2.2.2 rfl rfl ?_
            refine zG_ref (pc' := 47) 101 fg_X0_18 tb98 rfl dX0_take_1.2.1.1.1 rfl ?_
            refine zW_iload (pc' := 49) dX0_take_1.2.1.1.2 rfl rfl ?_
            refine zV_ialdI (pc' := 50) hF (by decide) (by decide) tb101 (by omega) dX0_take_1.2.1.2.1 (by decide) rfl (fun e49 => ?_)
            refine zW_bipush (pc' := 52) dX0_take_1.2.1.2.2 rfl rfl ?_
            refine zW_idivS (pc' := 53) ⟨by omega, by omega⟩ (by omega) dX0_take_1.2.2.1.1 rfl (fun v52 e52 => ?_)
            refine zW_istore (ls' := [_, _, _, _, _, _, _, _, _]) (pc' := 55) dX0_take_1.2.2.1.2 (by decide) rfl rfl rfl ?_
            refine zW_iconst (pc' := 56) dX0_take_1.2.2.2.1 rfl ?_
            refine zW_istore (ls' := [_, _, _, _, _, _, _, _, _]) (pc' := 58) dX0_take_1.2.2.2.2 (by decide) rfl rfl rfl ?_
            exact k58 _ _ _ _ _ hF (by omega) (by omega) (by omega) (by omega) (by first | exact gc0 | (rw [show 3 * (v7 + 1 + 1) = 3 * (v7 + 1) + (v8 + 1) by omega]; exact gc0)) (by omega) (by omega) (by omega) (by omega) hgh (by omega)
      · intro v4 v5 v6 v7 h hF g0 g1 g2 g3 gc0 gc1 gc2 gc3 gc4 hgh hm
        refine zW_iload (pc' := 60) dX0_take_2.1.1.1.1 rfl rfl ?_
        refine zW_iconst (pc' := 61) dX0_take_2.1.1.1.2 rfl ?_
        refine zV_cm_gt (tgt := 113) (pc' := 64) dX0_take_2.1.1.2.1 rfl rfl ⟨by omega, by omega⟩ ⟨by omega, by omega⟩ (fun c61 => ?_) (fun c61 => ?_)
        · have sb := bfF_s (W := κ 33 0) (H := κ 33 1) (a := x3) (S := enF (κ 33 0) (κ 33 1) x1 x2 (R0, fun _ => 0, 0)) (i := v4) (by omega) (by omega)
          refine zW_iinc (ls' := [_, _, _, _, _, _, _, _, _]) (pc' := 116) dX0_take_3.2.1.2.1 rfl (by decide) rfl rfl rfl ?_
          refine zV_goto 14 dX0_take_3.2.1.2.2 rfl ?_
          refine zV_clr 5 (ls' := [_, _, _, _, _, _, _, _, _]) rfl ?_
          refine zV_clr 6 (ls' := [_, _, _, _, _, _, _, _, _]) rfl ?_
          refine zV_clr 7 (ls' := [_, _, _, _, _, _, _, _, _]) rfl ?_
          exact k14 _ _ hF (by omega) (by first | exact p8 | (rw [sb]; rw [show (3 * (v7 + 1)).toNat = 9 by omega] at gc0; exact gc0)) hgh (by omega)
        · refine zW_iconst (pc' := 65) dX0_take_2.1.1.2.2 rfl ?_
          refine zW_istore (ls' := [_, _, _, _, _, _, _, _, _]) (pc' := 67) dX0_take_2.1.2.1.1 (by decide) rfl rfl rfl ?_
          exact k67 _ _ _ _ _ _ hF (by omega) (by omega) (by omega) (by omega) (by omega) (by first | (rw [show 3 * (v7 + 1) + (v8 + 1 + 1) = 3 * (v7 + 1) + (v8 + 1) + 1 by omega, sj]; first | (rw [nb1_y (dx := v8) (dy := v7) (x := v5 + v8) (y := v6 + v7) (by omega) (by omega) (by omega) rfl (by omega) (by omega)]; exact p98) | (rw [nb1_n (dx := v8) (dy := v7) (by omega) (by omega) (by omega) rfl]; exact gc0)) | (rw [show 3 * (v7 + 1) + (-1 + 1) = 3 * (v7 + 1) by omega]; exact gc0)) (by omega) (by omega) (by omega) (by omega) hgh (by omega)
      · intro v4 v5 v6 v7 v8 h hF g0 g1 g2 g3 g4 gc0 gc1 gc2 gc3 gc4 hgh hm
        refine zW_iload (pc' := 69) dX0_take_2.1.2.1.2 rfl rfl ?_
        refine zW_iconst (pc' := 70) dX0_take_2.1.2.2.1 rfl ?_
        refine zV_cm_gt (tgt := 107) (pc' := 73) dX0_take_2.1.2.2.2 rfl rfl ⟨by omega, by omega⟩ ⟨by omega, by omega⟩ (fun c70 => ?_) (fun c70 => ?_)
        · refine zW_iinc (ls' := [_, _, _, _, _, _, _, _, _]) (pc' := 110) dX0_take_3.2.1.1.1 rfl (by decide) rfl rfl rfl ?_
          refine zV_goto 58 dX0_take_3.2.1.1.2 rfl ?_
          refine zV_clr 8 (ls' := [_, _, _, _, _, _, _, _, _]) rfl ?_
          exact k58 _ _ _ _ _ hF (by omega) (by omega) (by omega) (by omega) (by first | exact gc0 | (rw [show 3 * (v7 + 1 + 1) = 3 * (v7 + 1) + (v8 + 1) by omega]; exact gc0)) (by omega) (by omega) (by omega) (by omega) hgh (by omega)
        · refine zW_iload_n (pc' := 74) dX0_take_2.2.1.1.1 rfl rfl ?_
          refine zV_if_ne (tgt := 87) (pc' := 77) dX0_take_2.2.1.1.2 rfl rfl ⟨by omega, by omega⟩ (fun c74 => ?_) (fun c74 => ?_)
          · refine zW_aload_n (pc' := 88) dX0_take_2.2.2.2.1 rfl rfl ?_
            refine zW_iload (pc' := 90) dX0_take_2.2.2.2.2 rfl rfl ?_
            refine zW_iload (pc' := 92) dX0_take_3.1.1.1.1 rfl rfl ?_
            refine zW_iadd (pc' := 93) dX0_take_3.1.1.1.2 rfl ?_
            refine zW_iload (pc' := 95) dX0_take_3.1.1.2.1 rfl rfl ?_
            refine zW_iload (pc' := 97) dX0_take_3.1.1.2.2 rfl rfl ?_
            refine zW_iadd (pc' := 98) dX0_take_3.1.2.1.1 rfl ?_
            refine cvV2 (pc' := 101) kX0_enqueue vX0_enqueue lk_X0_74 ⟨Nat.le_of_ble_eq_true rfl, Nat.le_of_ble_eq_true rfl⟩ tb98 vq0 rfl rfl (s_X0_enqueueZ hK hF _ ⟨by omega, by omega⟩ _ ⟨by omega, by omega⟩ (nbS (κ 33 0) (κ 33 1) x3 ((bfF (κ 33 0) (κ 33 1) x3 (enF (κ 33 0) (κ 33 1) x1 x2 (R0, fun _ => 0, 0)) v4.toNat).2.1 v4.toNat) (bfF (κ 33 0) (κ 33 1) x3 (enF (κ 33 0) (κ 33 1) x1 x2 (R0, fun _ => 0, 0)) v4.toNat) (3 * (v7 + 1) + (v8 + 1)).toNat) h gc0 Fw.rf) dX0_take_3.1.2.1.2 (Nat.le_of_ble_eq_true rfl) rfl ?_
            rintro r98 h ⟨hF, d98, p98⟩
            replace hgh : Fw [100, 101] [(98, 6)] gh0 h := hgh.tr d98 (by simp) (by simp)
            have sj := nbS_s (W := κ 33 0) (H := κ 33 1) (a := x3) (p := (bfF (κ 33 0) (κ 33 1) x3 (enF (κ 33 0) (κ 33 1) x1 x2 (R0, fun _ => 0, 0)) v4.toNat).2.1 v4.toNat) (S := (bfF (κ 33 0) (κ 33 1) x3 (enF (κ 33 0) (κ 33 1) x1 x2 (R0, fun _ => 0, 0)) v4.toNat)) (j := 3 * (v7 + 1) + (v8 + 1)) (by omega)
            refine zW_iinc (ls' := [_, _, _, _, _, _, _, _, _]) (pc' := 104) dX0_take_3.1.2.2.1 rfl (by decide) rfl rfl rfl ?_
            refine zV_goto 67 dX0_take_3.1.2.2.2 rfl ?_
            exact k67 _ _ _ _ _ _ hF (by omega) (by omega) (by omega) (by omega) (by omega) (by first | (rw [show 3 * (v7 + 1) + (v8 + 1 + 1) = 3 * (v7 + 1) + (v8 + 1) + 1 by omega, sj]; first | (rw [nb1_y (dx := v8) (dy := v7) (x := v5 + v8) (y := v6 + v7) (by omega) (by omega) (by omega) rfl (by omega) (by omega)]; exact p98) | (rw [nb1_n (dx := v8) (dy := v7) (by omega) (by omega) (by omega) rfl]; exact gc0)) | (rw [show 3 * (v7 + 1) + (-1 + 1) = 3 * (v7 + 1) by omega]; exact gc0)) (by omega) (by omega) (by omega) (by omega) hgh (by omega)
          · refine zW_iload (pc' := 79) dX0_take_2.2.1.2.1 rfl rfl ?_
            refine zV_if_eq (tgt := 87) (pc' := 82) dX0_take_2.2.1.2.2 rfl rfl ⟨by omega, by omega⟩ (fun c79 => ?_) (fun c79 => ?_)
            · refine zW_aload_n (pc' := 88) dX0_take_2.2.2.2.1 rfl rfl ?_
              refine zW_iload (pc' := 90) dX0_take_2.2.2.2.2 rfl rfl ?_
              refine zW_iload (pc' := 92) dX0_take_3.1.1.1.1 rfl rfl ?_
              refine zW_iadd (pc' := 93) dX0_take_3.1.1.1.2 rfl ?_
              refine zW_iload (pc' := 95) dX0_take_3.1.1.2.1 rfl rfl ?_
              refine zW_iload (pc' := 97) dX0_take_3.1.1.2.2 rfl rfl ?_
              refine zW_iadd (pc' := 98) dX0_take_3.1.2.1.1 rfl ?_
              refine cvV2 (pc' := 101) kX0_enqueue vX0_enqueue lk_X0_74 ⟨Nat.le_of_ble_eq_true rfl, Nat.le_of_ble_eq_true rfl⟩ tb98 vq0 rfl rfl (s_X0_enqueueZ hK hF _ ⟨by omega, by omega⟩ _ ⟨by omega, by omega⟩ (nbS (κ 33 0) (κ 33 1) x3 ((bfF (κ 33 0) (κ 33 1) x3 (enF (κ 33 0) (κ 33 1) x1 x2 (R0, fun _ => 0, 0)) v4.toNat).2.1 v4.toNat) (bfF (κ 33 0) (κ 33 1) x3 (enF (κ 33 0) (κ 33 1) x1 x2 (R0, fun _ => 0, 0)) v4.toNat) (3 * (v7 + 1) + (v8 + 1)).toNat) h gc0 Fw.rf) dX0_take_3.1.2.1.2 (Nat.le_of_ble_eq_true rfl) rfl ?_
              rintro r98 h ⟨hF, d98, p98⟩
              replace hgh : Fw [100, 101] [(98, 6)] gh0 h := hgh.tr d98 (by simp) (by simp)
              have sj := nbS_s (W := κ 33 0) (H := κ 33 1) (a := x3) (p := (bfF (κ 33 0) (κ 33 1) x3 (enF (κ 33 0) (κ 33 1) x1 x2 (R0, fun _ => 0, 0)) v4.toNat).2.1 v4.toNat) (S := (bfF (κ 33 0) (κ 33 1) x3 (enF (κ 33 0) (κ 33 1) x1 x2 (R0, fun _ => 0, 0)) v4.toNat)) (j := 3 * (v7 + 1) + (v8 + 1)) (by omega)
              refine zW_iinc (ls' := [_, _, _, _, _, _, _, _, _]) (pc' := 104) dX0_take_3.1.2.2.1 rfl (by decide) rfl rfl rfl ?_
              refine zV_goto 67 dX0_take_3.1.2.2.2 rfl ?_
              exact k67 _ _ _ _ _ _ hF (by omega) (by omega) (by omega) (by omega) (by omega) (by first | (rw [show 3 * (v7 + 1) + (v8 + 1 + 1) = 3 * (v7 + 1) + (v8 + 1) + 1 by omega, sj]; first | (rw [nb1_y (dx := v8) (dy := v7) (x := v5 + v8) (y := v6 + v7) (by omega) (by omega) (by omega) rfl (by omega) (by omega)]; exact p98) | (rw [nb1_n (dx := v8) (dy := v7) (by omega) (by omega) (by omega) rfl]; exact gc0)) | (rw [show 3 * (v7 + 1) + (-1 + 1) = 3 * (v7 + 1) by omega]; exact gc0)) (by omega) (by omega) (by omega) (by omega) hgh (by omega)
            · refine zW_iload (pc' := 84) dX0_take_2.2.2.1.1 rfl rfl ?_
              refine zV_if_ne (tgt := 101) (pc' := 87) dX0_take_2.2.2.1.2 rfl rfl ⟨by omega, by omega⟩ (fun c84 => ?_) (fun c84 => ?_)
              · have sj := nbS_s (W := κ 33 0) (H := κ 33 1) (a := x3) (p := (bfF (κ 33 0) (κ 33 1) x3 (enF (κ 33 0) (κ 33 1) x1 x2 (R0, fun _ => 0, 0)) v4.toNat).2.1 v4.toNat) (S := (bfF (κ 33 0) (κ 33 1) x3 (enF (κ 33 0) (κ 33 1) x1 x2 (R0, fun _ => 0, 0)) v4.toNat)) (j := 3 * (v7 + 1) + (v8 + 1)) (by omega)
                refine zW_iinc (ls' := [_, _, _, _, _, _, _, _, _]) (pc' := 104) dX0_take_3.1.2.2.1 rfl (by decide) rfl rfl rfl ?_
                refine zV_goto 67 dX0_take_3.1.2.2.2 rfl ?_
                exact k67 _ _ _ _ _ _ hF (by omega) (by omega) (by omega) (by omega) (by omega) (by first | (rw [show 3 * (v7 + 1) + (v8 + 1 + 1) = 3 * (v7 + 1) + (v8 + 1) + 1 by omega, sj]; first | (rw [nb1_y (dx := v8) (dy := v7) (x := v5 + v8) (y := v6 + v7) (by omega) (by omega) (by omega) rfl (by omega) (by omega)]; exact p98) | (rw [nb1_n (dx := v8) (dy := v7) (by omega) (by omega) (by omega) rfl]; exact gc0)) | (rw [show 3 * (v7 + 1) + (-1 + 1) = 3 * (v7 + 1) by omega]; exact gc0)) (by omega) (by omega) (by omega) (by omega) hgh (by omega)
              · refine zW_aload_n (pc' := 88) dX0_take_2.2.2.2.1 rfl rfl ?_
                refine zW_iload (pc' := 90) dX0_take_2.2.2.2.2 rfl rfl ?_
                refine zW_iload (pc' := 92) dX0_take_3.1.1.1.1 rfl rfl ?_
                refine zW_iadd (pc' := 93) dX0_take_3.1.1.1.2 rfl ?_
                refine zW_iload (pc' := 95) dX0_take_3.1.1.2.1 rfl rfl ?_
                refine zW_iload (pc' := 97) dX0_take_3.1.1.2.2 rfl rfl ?_
                refine zW_iadd (pc' := 98) dX0_take_3.1.2.1.1 rfl ?_
                refine cvV2 (pc' := 101) kX0_enqueue vX0_enqueue lk_X0_74 ⟨Nat.le_of_ble_eq_true rfl, Nat.le_of_ble_eq_true rfl⟩ tb98 vq0 rfl rfl (s_X0_enqueueZ hK hF _ ⟨by omega, by omega⟩ _ ⟨by omega, by omega⟩ (nbS (κ 33 0) (κ 33 1) x3 ((bfF (κ 33 0) (κ 33 1) x3 (enF (κ 33 0) (κ 33 1) x1 x2 (R0, fun _ => 0, 0)) v4.toNat).2.1 v4.toNat) (bfF (κ 33 0) (κ 33 1) x3 (enF (κ 33 0) (κ 33 1) x1 x2 (R0, fun _ => 0, 0)) v4.toNat) (3 * (v7 + 1) + (v8 + 1)).toNat) h gc0 Fw.rf) dX0_take_3.1.2.1.2 (Nat.le_of_ble_eq_true rfl) rfl ?_
                rintro r98 h ⟨hF, d98, p98⟩
                replace hgh : Fw [100, 101] [(98, 6)] gh0 h := hgh.tr d98 (by simp) (by simp)
                have sj := nbS_s (W := κ 33 0) (H := κ 33 1) (a := x3) (p := (bfF (κ 33 0) (κ 33 1) x3 (enF (κ 33 0) (κ 33 1) x1 x2 (R0, fun _ => 0, 0)) v4.toNat).2.1 v4.toNat) (S := (bfF (κ 33 0) (κ 33 1) x3 (enF (κ 33 0) (κ 33 1) x1 x2 (R0, fun _ => 0, 0)) v4.toNat)) (j := 3 * (v7 + 1) + (v8 + 1)) (by omega)
                refine zW_iinc (ls' := [_, _, _, _, _, _, _, _, _]) (pc' := 104) dX0_take_3.1.2.2.1 rfl (by decide) rfl rfl rfl ?_
                refine zV_goto 67 dX0_take_3.1.2.2.2 rfl ?_
                exact k67 _ _ _ _ _ _ hF (by omega) (by omega) (by omega) (by omega) (by omega) (by first | (rw [show 3 * (v7 + 1) + (v8 + 1 + 1) = 3 * (v7 + 1) + (v8 + 1) + 1 by omega, sj]; first | (rw [nb1_y (dx := v8) (dy := v7) (x := v5 + v8) (y := v6 + v7) (by omega) (by omega) (by omega) rfl (by omega) (by omega)]; exact p98) | (rw [nb1_n (dx := v8) (dy := v7) (by omega) (by omega) (by omega) rfl]; exact gc0)) | (rw [show 3 * (v7 + 1) + (-1 + 1) = 3 * (v7 + 1) by omega]; exact gc0)) (by omega) (by omega) (by omega) (by omega) hgh (by omega)
  refine zM_of [some (.inr (.inr 98)), some (.inl x1), some (.inl x2), some (.inl x3), none, none, none, none, none] 5 rfl rfl (Nat.le_of_ble_eq_true rfl) rfl ?_
  refine zW_aload_n (pc' := 1) dX0_take_0.1.1.1.1 rfl rfl ?_
  refine zW_iconst (pc' := 2) dX0_take_0.1.1.1.2 rfl ?_
  refine zX_int (pc' := 5) (hF.p98 ⟨by omega, by omega⟩) fp_X0_71 tb98 rfl dX0_take_0.1.1.2.1 rfl (fun h hF w2 => ?_)
  replace hgh : Fw [100, 101] [(98, 6)] gh0 h := by rw [w2]; exact hgh.wf (by simp)
  have st0 := StE.st (W := κ 33 0) (H := κ 33 1) (R := h 100) (Q := h 101) (R0 := R0) (fun x y hp => by rw [w2, zfun (by decide)]; exact hR0 x y hp)
  have z2 : h 98 6 = 0 := by rw [w2]; exact zwr_eq
  refine zW_aload_n (pc' := 6) dX0_take_0.1.1.2.2 rfl rfl ?_
  refine zW_iload_n (pc' := 7) dX0_take_0.1.2.1.1 rfl rfl ?_
  refine zW_iload_n (pc' := 8) dX0_take_0.1.2.1.2 rfl rfl ?_
  refine cvV2 (pc' := 11) kX0_enqueue vX0_enqueue lk_X0_74 ⟨Nat.le_of_ble_eq_true rfl, Nat.le_of_ble_eq_true rfl⟩ tb98 vq0 rfl rfl (s_X0_enqueueZ hK hF _ ⟨by omega, by omega⟩ _ ⟨by omega, by omega⟩ (R0, fun _ => 0, 0) h (by rw [z2]; exact st0) Fw.rf) dX0_take_0.1.2.2.1 (Nat.le_of_ble_eq_true rfl) rfl ?_
  rintro r8 h ⟨hF, d8, p8⟩
  replace hgh : Fw [100, 101] [(98, 6)] gh0 h := hgh.tr d8 (by simp) (by simp)
  refine zW_iconst (pc' := 12) dX0_take_0.1.2.2.2 rfl ?_
  refine zW_istore (ls' := [_, _, _, _, _, _, _, _, _]) (pc' := 14) dX0_take_0.2.1.1.1 (by decide) rfl rfl rfl ?_
  exact (main 10000000000000000000000000000000000000000).1 _ _ hF (by omega) (by first | exact p8 | (rw [sb]; rw [show (3 * (v7 + 1)).toNat = 9 by omega] at gc0; exact gc0)) hgh (by omega)

abbrev q_X0_gatherZ (b : Bd) (κ : Hp) (x1 : Int) (M : Nat → Int) (gh0 : Hp) : Int → Hp → Prop := fun r h' => Fr b κ h' ∧ ((Fw [100, 101] [(98, 0), (98, 1), (98, 2), (98, 6)] gh0 h') ∧ (OtE (κ 33 0) (κ 33 1) x1 M (h' 100) (h' 98 0) (h' 98 1) (h' 98 2) 256))
set_option maxHeartbeats 4000000 in
set_option maxRecDepth 20000 in
theorem s_X0_gatherZ {G : Ga} {b : Bd} {κ h : Hp} (hK : KC κ) (hF : Fr b κ h) (x1 : Int) (hx1 : 0 ≤ x1 ∧ x1 ≤ 1) (M : Nat → Int) (gh0 : Hp) (hM : ∀ x y : Int, inP (κ 33 0) (κ 33 1) x y → h 99 (16 * y + x).toNat = M (16 * y + x).toNat) (hgh : Fw [100, 101] [(98, 0), (98, 1), (98, 2), (98, 6)] gh0 h) : zM G mX0_gather yX0_gather [.inr (.inr 98), .inl x1] h (q_X0_gatherZ b κ x1 M gh0) := by
  have f_33_0 := KCw hK
  have f_33_1 := KCh hK
  have main : ∀ N : Nat, (∀ (v2 : Int) (h : Hp), Fr b κ h → (0 ≤ v2 ∧ v2 ≤ 16) → (v2 - κ 33 1 ≤ 0) → (OtE (κ 33 0) (κ 33 1) x1 M (h 100) (h 98 0) (h 98 1) (h 98 2) (16 * v2)) → (0 ≤ h 98 1 ∧ h 98 1 ≤ 256) → (Fw [100, 101] [(98, 0), (98, 1), (98, 2), (98, 6)] gh0 h) → 45227160 + 46530 * (16 - v2) + 45684 < (N : Int) → zV G mX0_gather (q_X0_gatherZ b κ x1 M gh0) 34 [some (.inr (.inr 98)), some (.inl x1), some (.inl v2), none, none] [] h) ∧ (∀ (v2 v3 : Int) (h : Hp), Fr b κ h → (0 ≤ v2 ∧ v2 ≤ 15) → (v2 - κ 33 1 ≤ -1) → (0 ≤ v3 ∧ v3 ≤ 16) → (v3 - κ 33 0 ≤ 0) → (OtE (κ 33 0) (κ 33 1) x1 M (h 100) (h 98 0) (h 98 1) (h 98 2) (16 * v2 + v3)) → (0 ≤ h 98 1 ∧ h 98 1 ≤ 256) → (Fw [100, 101] [(98, 0), (98, 1), (98, 2), (98, 6)] gh0 h) → 45227160 + 46530 * (16 - v2) + 38916 + 47 * (16 - v3) + 46 < (N : Int) → zV G mX0_gather (q_X0_gatherZ b κ x1 M gh0) 47 [some (.inr (.inr 98)), some (.inl x1), some (.inl v2), some (.inl v3), none] [] h) := by
    intro N
    induction N with
    | zero =>
      refine ⟨?_, ?_⟩
      · intro v2 h hF g0 g1 gc0 gc1 hgh hm
        exfalso; omega
      · intro v2 v3 h hF g0 g1 g2 g3 gc0 gc1 hgh hm
        exfalso; omega
    | succ N ih =>
      obtain ⟨k34, k47⟩ := ih
      refine ⟨?_, ?_⟩
      · intro v2 h hF g0 g1 gc0 gc1 hgh hm
        refine zW_iload_n (pc' := 35) dX0_gather_1.1.1.2.2 rfl rfl ?_
        refine zW_aload_n (pc' := 36) dX0_gather_1.1.2.1.1 rfl rfl ?_
        refine zG_ref (pc' := 39) 33 fg_X0_21 tb98 rfl dX0_gather_1.1.2.1.2 rfl ?_
        refine zG_key (pc' := 42) hF rfl fg_X0_31 tb33 rfl dX0_gather_1.1.2.2.1 rfl ?_
        refine zV_cm_ge (tgt := 129) (pc' := 45) dX0_gather_1.1.2.2.2 rfl rfl ⟨by omega, by omega⟩ ⟨by omega, by omega⟩ (fun c42 => ?_) (fun c42 => ?_)
        · exact zV_vret rfl dX0_gather_4.2.2.2 ⟨hF, ⟨hgh, (gc0.end (by omega) (by omega) (by omega))⟩⟩
        · refine zW_iconst (pc' := 46) dX0_gather_1.2.1.1.1 rfl ?_
          refine zW_istore_n (ls' := [_, _, _, _, _]) (pc' := 47) dX0_gather_1.2.1.1.2 (by decide) rfl rfl rfl ?_
          exact k47 _ _ _ hF (by omega) (by omega) (by omega) (by omega) (by first | exact o2 | (rw [Int.add_zero]; exact gc0)) (by first | exact gc1 | (rw [z87.2.1]; exact byl) | (rw [w114, zwr_ne (Or.inr (by decide)), z104.2]; omega)) hgh (by omega)
      · intro v2 v3 h hF g0 g1 g2 g3 gc0 gc1 hgh hm
        refine zW_iload_n (pc' := 48) dX0_gather_1.2.1.2.1 rfl rfl ?_
        refine zW_aload_n (pc' := 49) dX0_gather_1.2.1.2.2 rfl rfl ?_
        refine zG_ref (pc' := 52) 33 fg_X0_21 tb98 rfl dX0_gather_1.2.2.1.1 rfl ?_
        refine zG_key (pc' := 55) hF rfl fg_X0_35 tb33 rfl dX0_gather_1.2.2.1.2 rfl ?_
        refine zV_cm_ge (tgt := 123) (pc' := 58) dX0_gather_1.2.2.2.1 rfl rfl ⟨by omega, by omega⟩ ⟨by omega, by omega⟩ (fun c55 => ?_) (fun c55 => ?_)
        · refine zW_iinc (ls' := [_, _, _, _, _]) (pc' := 126) dX0_gather_4.2.1.2 rfl (by decide) rfl rfl rfl ?_
          refine zV_goto 34 dX0_gather_4.2.2.1 rfl ?_
          refine zV_clr 3 (ls' := [_, _, _, _, _]) rfl ?_
          exact k34 _ _ hF (by omega) (by omega) (by first | exact st0 | exact gc0.row (by omega) (by omega) (by omega) (by omega)) (by first | exact gc1 | (have z := z13.2.1; rw [w29, zcp_ne (by decide)]; omega)) hgh (by omega)
        · refine zW_aload_n (pc' := 59) dX0_gather_1.2.2.2.2 rfl rfl ?_
          refine zG_ref (pc' := 62) 100 fg_X0_15 tb98 rfl dX0_gather_2.1.1.1.1 rfl ?_
          refine zW_iload_n (pc' := 63) dX0_gather_2.1.1.1.2 rfl rfl ?_
          refine zW_bipush (pc' := 65) dX0_gather_2.1.1.2.1 rfl rfl ?_
          refine zW_imul (pc' := 66) dX0_gather_2.1.1.2.2 rfl ?_
          refine zW_iload_n (pc' := 67) dX0_gather_2.1.2.1.1 rfl rfl ?_
          refine zW_iadd (pc' := 68) dX0_gather_2.1.2.1.2 rfl ?_
          refine zV_ialdI (pc' := 69) hF (by decide) (by decide) tb100 (by omega) dX0_gather_2.1.2.2.1 (by decide) rfl (fun e68 => ?_)
          refine zW_iconst (pc' := 70) dX0_gather_2.1.2.2.2 rfl ?_
          refine zV_cm_ne (tgt := 117) (pc' := 73) dX0_gather_2.2.1.1.1 rfl rfl ⟨by omega, by omega⟩ ⟨by omega, by omega⟩ (fun c70 => ?_) (fun c70 => ?_)
          · first | (have o2 : OtE (κ 33 0) (κ 33 1) x1 M (h 100) (h 98 0) (h 98 1) (h 98 2) (16 * v2 + (v3 + 1)) := gc0.n (by omega) ⟨by omega, by omega, by omega, by omega⟩ (fun q => by rw [show 16 * v2 + v3 = v2 * 16 + v3 by omega] at q; omega)) | (have o2 : OtE (κ 33 0) (κ 33 1) x1 M (h 100) (h 98 0) (h 98 1) (h 98 2) (16 * v2 + (v3 + 1)) := by (rw [w114, zfun (by decide), q104, hke]; refine o0.y (by omega) ⟨by omega, by omega, by omega, by omega⟩ o1 k87.1 k87.2 ?_ (Or.inl ⟨?_, ?_, ?_⟩); exact (zwr_ne (Or.inr (by decide))).trans z104.1; (rw [← z87.2.1]; omega); exact (zwr_ne (Or.inr (by decide))).trans z104.2; exact zwr_eq.trans (by rw [b114, ei]))) | (have o2 : OtE (κ 33 0) (κ 33 1) x1 M (h 100) (h 98 0) (h 98 1) (h 98 2) (16 * v2 + (v3 + 1)) := o0.y (by omega) ⟨by omega, by omega, by omega, by omega⟩ o1 k87.1 k87.2 z87.1 (Or.inr ⟨by rw [← z87.2.1]; omega, z87.2.1, z87.2.2⟩))
            refine zW_iinc (ls' := [_, _, _, _, _]) (pc' := 120) dX0_gather_4.1.2.2 rfl (by decide) rfl rfl rfl ?_
            refine zV_goto 47 dX0_gather_4.2.1.1 rfl ?_
            exact k47 _ _ _ hF (by omega) (by omega) (by omega) (by omega) (by first | exact o2 | (rw [Int.add_zero]; exact gc0)) (by first | exact gc1 | (rw [z87.2.1]; exact byl) | (rw [w114, zwr_ne (Or.inr (by decide)), z104.2]; omega)) hgh (by omega)
          · have ei : v2 * 16 + v3 = 16 * v2 + v3 := by omega
            obtain ⟨yn, hyn⟩ : ∃ z : Int, z = h 98 0 := ⟨_, rfl⟩
            obtain ⟨yl, hyl⟩ : ∃ z : Int, z = h 98 1 := ⟨_, rfl⟩
            obtain ⟨yf, hyf⟩ : ∃ z : Int, z = h 98 2 := ⟨_, rfl⟩
            obtain ⟨hh, hhe⟩ : ∃ z : Hp, z = h := ⟨_, rfl⟩
            have o0 : OtE (κ 33 0) (κ 33 1) x1 M (hh 100) yn yl yf (16 * v2 + v3) := by rw [hhe, hyn, hyl, hyf]; exact gc0
            have o1 : hh 100 (16 * v2 + v3).toNat = 1 := by rw [hhe, ← ei]; omega
            have bn : 0 ≤ yn ∧ yn ≤ 16 * v2 + v3 := o0.2.2.2.2
            have bn2 : 0 ≤ h 98 0 ∧ h 98 0 ≤ 16 * v2 + v3 := gc0.2.2.2.2
            have byl : 0 ≤ yl ∧ yl ≤ 256 := by rw [hyl]; exact gc1
            refine zW_aload_n (pc' := 74) dX0_gather_2.2.1.1.2 rfl rfl ?_
            refine zW_dup (pc' := 75) dX0_gather_2.2.1.2.1 rfl rfl ?_
            refine zG_int (pc' := 78) fg_X0_52 tb98 rfl dX0_gather_2.2.1.2.2 rfl ?_
            refine zW_iconst (pc' := 79) dX0_gather_2.2.2.1.1 rfl ?_
            refine zW_iadd (pc' := 80) dX0_gather_2.2.2.1.2 rfl ?_
            refine zP_scf (pc' := 83) hF rfl fp_X0_52 tb98 rfl dX0_gather_2.2.2.2.1 rfl (fun h i80 hF a80 b80 w80 => ?_)
            replace b80 := b80 ⟨by omega, by omega⟩
            replace hgh : Fw [100, 101] [(98, 0), (98, 1), (98, 2), (98, 6)] gh0 h := by rw [w80]; exact hgh.wf (by simp)
            have z80 : h 98 0 = yn + 1 ∧ h 98 1 = yl ∧ h 98 2 = yf := by rw [w80]; exact ⟨zwr_eq.trans (by rw [b80, hyn]), (zwr_ne (Or.inr (by decide))).trans hyl.symm, (zwr_ne (Or.inr (by decide))).trans hyf.symm⟩
            have q80 : h 100 = hh 100 := by rw [w80, zfun (by decide), hhe]
            refine zW_aload_n (pc' := 84) dX0_gather_2.2.2.2.2 rfl rfl ?_
            refine zW_iload_n (pc' := 85) dX0_gather_3.1.1.1.1 rfl rfl ?_
            refine zW_iload_n (pc' := 86) dX0_gather_3.1.1.1.2 rfl rfl ?_
            refine zW_iload_n (pc' := 87) dX0_gather_3.1.1.2.1 rfl rfl ?_
            refine cvI3 (pc' := 90) kX0_take vX0_take lk_X0_67 ⟨Nat.le_of_ble_eq_true rfl, Nat.le_of_ble_eq_true rfl⟩ tb98 vq0 rfl rfl (s_X0_takeZ hK hF _ ⟨by omega, by omega, by omega⟩ _ ⟨by omega, by omega, by omega⟩ _ ⟨by omega, by omega⟩ (otF (κ 33 0) (κ 33 1) x1 M (16 * v2 + v3).toNat).1 h (fun x y hp => by rw [q80]; exact o0.1 x y hp) Fw.rf) dX0_gather_3.1.1.2.2 (Nat.le_of_ble_eq_true rfl) rfl ?_
            rintro r87 h ⟨hF, d87, p87⟩
            replace hgh : Fw [100, 101] [(98, 0), (98, 1), (98, 2), (98, 6)] gh0 h := hgh.tr d87 (by simp) (by simp)
            have z87 : h 98 0 = yn + 1 ∧ h 98 1 = yl ∧ h 98 2 = yf := ⟨(d87 98 0 (by decide) (by decide)).trans z80.1, (d87 98 1 (by decide) (by decide)).trans z80.2.1, (d87 98 2 (by decide) (by decide)).trans z80.2.2⟩
            have k87 := p87.2.2
            obtain ⟨hk, hke⟩ : ∃ z : Hp, z = h := ⟨_, rfl⟩
            refine zW_istore (ls' := [_, _, _, _, _]) (pc' := 92) dX0_gather_3.1.2.1.1 (by decide) rfl rfl rfl ?_
            refine zW_iload (pc' := 94) dX0_gather_3.1.2.1.2 rfl rfl ?_
            refine zW_aload_n (pc' := 95) dX0_gather_3.1.2.2.1 rfl rfl ?_
            refine zG_int (pc' := 98) fg_X0_55 tb98 rfl dX0_gather_3.1.2.2.2 rfl ?_
            refine zV_cm_le (tgt := 117) (pc' := 101) dX0_gather_3.2.1.1.1 rfl rfl ⟨by omega, by omega⟩ ⟨by omega, by omega⟩ (fun c98 => ?_) (fun c98 => ?_)
            · first | (have o2 : OtE (κ 33 0) (κ 33 1) x1 M (h 100) (h 98 0) (h 98 1) (h 98 2) (16 * v2 + (v3 + 1)) := gc0.n (by omega) ⟨by omega, by omega, by omega, by omega⟩ (fun q => by rw [show 16 * v2 + v3 = v2 * 16 + v3 by omega] at q; omega)) | (have o2 : OtE (κ 33 0) (κ 33 1) x1 M (h 100) (h 98 0) (h 98 1) (h 98 2) (16 * v2 + (v3 + 1)) := by (rw [w114, zfun (by decide), q104, hke]; refine o0.y (by omega) ⟨by omega, by omega, by omega, by omega⟩ o1 k87.1 k87.2 ?_ (Or.inl ⟨?_, ?_, ?_⟩); exact (zwr_ne (Or.inr (by decide))).trans z104.1; (rw [← z87.2.1]; omega); exact (zwr_ne (Or.inr (by decide))).trans z104.2; exact zwr_eq.trans (by rw [b114, ei]))) | (have o2 : OtE (κ 33 0) (κ 33 1) x1 M (h 100) (h 98 0) (h 98 1) (h 98 2) (16 * v2 + (v3 + 1)) := o0.y (by omega) ⟨by omega, by omega, by omega, by omega⟩ o1 k87.1 k87.2 z87.1 (Or.inr ⟨by rw [← z87.2.1]; omega, z87.2.1, z87.2.2⟩))
              refine zW_iinc (ls' := [_, _, _, _, _]) (pc' := 120) dX0_gather_4.1.2.2 rfl (by decide) rfl rfl rfl ?_
              refine zV_goto 47 dX0_gather_4.2.1.1 rfl ?_
              refine zV_clr 4 (ls' := [_, _, _, _, _]) rfl ?_
              exact k47 _ _ _ hF (by omega) (by omega) (by omega) (by omega) (by first | exact o2 | (rw [Int.add_zero]; exact gc0)) (by first | exact gc1 | (rw [z87.2.1]; exact byl) | (rw [w114, zwr_ne (Or.inr (by decide)), z104.2]; omega)) hgh (by omega)
            · refine zW_aload_n (pc' := 102) dX0_gather_3.2.1.1.2 rfl rfl ?_
              refine zW_iload (pc' := 104) dX0_gather_3.2.1.2.1 rfl rfl ?_
              refine zP_scf (pc' := 107) hF rfl fp_X0_55 tb98 rfl dX0_gather_3.2.1.2.2 rfl (fun h i104 hF a104 b104 w104 => ?_)
              replace b104 := b104 ⟨by omega, by omega⟩
              replace hgh : Fw [100, 101] [(98, 0), (98, 1), (98, 2), (98, 6)] gh0 h := by rw [w104]; exact hgh.wf (by simp)
              have z104 : h 98 0 = yn + 1 ∧ h 98 1 = r87 := by rw [w104]; exact ⟨(zwr_ne (Or.inr (by decide))).trans z87.1, zwr_eq.trans b104⟩
              have q104 : h 100 = hk 100 := by rw [w104, zfun (by decide), hke]
              refine zW_aload_n (pc' := 108) dX0_gather_3.2.2.1.1 rfl rfl ?_
              refine zW_iload_n (pc' := 109) dX0_gather_3.2.2.1.2 rfl rfl ?_
              refine zW_bipush (pc' := 111) dX0_gather_3.2.2.2.1 rfl rfl ?_
              refine zW_imul (pc' := 112) dX0_gather_3.2.2.2.2 rfl ?_
              refine zW_iload_n (pc' := 113) dX0_gather_4.1.1.1 rfl rfl ?_
              refine zW_iadd (pc' := 114) dX0_gather_4.1.1.2 rfl ?_
              refine zP_scf (pc' := 117) hF rfl fp_X0_58 tb98 rfl dX0_gather_4.1.2.1 rfl (fun h i114 hF a114 b114 w114 => ?_)
              replace b114 := b114 ⟨by omega, by omega⟩
              replace hgh : Fw [100, 101] [(98, 0), (98, 1), (98, 2), (98, 6)] gh0 h := by rw [w114]; exact hgh.wf (by simp)
              first | (have o2 : OtE (κ 33 0) (κ 33 1) x1 M (h 100) (h 98 0) (h 98 1) (h 98 2) (16 * v2 + (v3 + 1)) := gc0.n (by omega) ⟨by omega, by omega, by omega, by omega⟩ (fun q => by rw [show 16 * v2 + v3 = v2 * 16 + v3 by omega] at q; omega)) | (have o2 : OtE (κ 33 0) (κ 33 1) x1 M (h 100) (h 98 0) (h 98 1) (h 98 2) (16 * v2 + (v3 + 1)) := by (rw [w114, zfun (by decide), q104, hke]; refine o0.y (by omega) ⟨by omega, by omega, by omega, by omega⟩ o1 k87.1 k87.2 ?_ (Or.inl ⟨?_, ?_, ?_⟩); exact (zwr_ne (Or.inr (by decide))).trans z104.1; (rw [← z87.2.1]; omega); exact (zwr_ne (Or.inr (by decide))).trans z104.2; exact zwr_eq.trans (by rw [b114, ei]))) | (have o2 : OtE (κ 33 0) (κ 33 1) x1 M (h 100) (h 98 0) (h 98 1) (h 98 2) (16 * v2 + (v3 + 1)) := o0.y (by omega) ⟨by omega, by omega, by omega, by omega⟩ o1 k87.1 k87.2 z87.1 (Or.inr ⟨by rw [← z87.2.1]; omega, z87.2.1, z87.2.2⟩))
              refine zW_iinc (ls' := [_, _, _, _, _]) (pc' := 120) dX0_gather_4.1.2.2 rfl (by decide) rfl rfl rfl ?_
              refine zV_goto 47 dX0_gather_4.2.1.1 rfl ?_
              refine zV_clr 4 (ls' := [_, _, _, _, _]) rfl ?_
              exact k47 _ _ _ hF (by omega) (by omega) (by omega) (by omega) (by first | exact o2 | (rw [Int.add_zero]; exact gc0)) (by first | exact gc1 | (rw [z87.2.1]; exact byl) | (rw [w114, zwr_ne (Or.inr (by decide)), z104.2]; omega)) hgh (by omega)
  refine zM_of [some (.inr (.inr 98)), some (.inl x1), none, none, none] 3 rfl rfl (Nat.le_of_ble_eq_true rfl) rfl ?_
  refine zW_aload_n (pc' := 1) dX0_gather_0.1.1.1.1 rfl rfl ?_
  refine zW_iconst (pc' := 2) dX0_gather_0.1.1.1.2 rfl ?_
  refine zP_scf (pc' := 5) hF rfl fp_X0_52 tb98 rfl dX0_gather_0.1.1.2.1 rfl (fun h i2 hF a2 b2 w2 => ?_)
  replace b2 := b2 ⟨by omega, by omega⟩
  replace hgh : Fw [100, 101] [(98, 0), (98, 1), (98, 2), (98, 6)] gh0 h := by rw [w2]; exact hgh.wf (by simp)
  refine zW_aload_n (pc' := 6) dX0_gather_0.1.1.2.2 rfl rfl ?_
  refine zW_iconst (pc' := 7) dX0_gather_0.1.2.1.1 rfl ?_
  refine zP_scf (pc' := 10) hF rfl fp_X0_55 tb98 rfl dX0_gather_0.1.2.1.2 rfl (fun h i7 hF a7 b7 w7 => ?_)
  replace b7 := b7 ⟨by omega, by omega⟩
  replace hgh : Fw [100, 101] [(98, 0), (98, 1), (98, 2), (98, 6)] gh0 h := by rw [w7]; exact hgh.wf (by simp)
  refine zW_aload_n (pc' := 11) dX0_gather_0.1.2.2.1 rfl rfl ?_
  refine zW_bipush (pc' := 13) dX0_gather_0.1.2.2.2 rfl rfl ?_
  refine zP_scf (pc' := 16) hF rfl fp_X0_58 tb98 rfl dX0_gather_0.2.1.1.1 rfl (fun h i13 hF a13 b13 w13 => ?_)
  replace b13 := b13 ⟨by omega, by omega⟩
  replace hgh : Fw [100, 101] [(98, 0), (98, 1), (98, 2), (98, 6)] gh0 h := by rw [w13]; exact hgh.wf (by simp)
  refine zW_aload_n (pc' := 17) dX0_gather_0.2.1.1.2 rfl rfl ?_
  refine zG_ref (pc' := 20) 99 fg_X0_9 tb98 rfl dX0_gather_0.2.1.2.1 rfl ?_
  refine zW_iconst (pc' := 21) dX0_gather_0.2.1.2.2 rfl ?_
  refine zW_aload_n (pc' := 22) dX0_gather_0.2.2.1.1 rfl rfl ?_
  refine zG_ref (pc' := 25) 100 fg_X0_15 tb98 rfl dX0_gather_0.2.2.1.2 rfl ?_
  refine zW_iconst (pc' := 26) dX0_gather_0.2.2.2.1 rfl ?_
  refine zW_sipush (pc' := 29) dX0_gather_0.2.2.2.2 rfl rfl ?_
  obtain ⟨hg, hge⟩ : ∃ z : Hp, z = h := ⟨_, rfl⟩
  have z13 : h 98 0 = 0 ∧ h 98 1 = 0 ∧ h 98 2 = -2 := by rw [w13]; refine ⟨?_, ?_, zwr_eq.trans b13⟩; (rw [zwr_ne (Or.inr (by decide)), w7, zwr_ne (Or.inr (by decide)), w2]; exact zwr_eq.trans b2); (rw [zwr_ne (Or.inr (by decide)), w7]; exact zwr_eq.trans b7)
  have m13 : ∀ x y : Int, inP (κ 33 0) (κ 33 1) x y → h 99 (16 * y + x).toNat = M (16 * y + x).toNat := fun x y hp => by rw [w13, w7, w2, zfun (by decide), zfun (by decide), zfun (by decide)]; exact hM x y hp
  refine zV_acopy (pc' := 32) tb99 tb100 (by omega) (by omega) (by omega) (by omega) (by decide) (by decide) ka_X0_61 (Nat.le_of_ble_eq_true rfl) (Nat.le_of_ble_eq_true rfl) dX0_gather_1.1.1.1.1 rfl ?_
  refine (show ∀ h1 : Hp, Fr b κ h1 → h1 = zcp h 99 100 (0 : Int).toNat (256 : Int).toNat → zV _ _ _ _ _ _ h1 from fun h hF w29 => ?_) _ (hF.zc rfl (by decide)) rfl
  replace hgh : Fw [100, 101] [(98, 0), (98, 1), (98, 2), (98, 6)] gh0 h := by rw [w29]; exact hgh.wp (by simp)
  have st0 : OtE (κ 33 0) (κ 33 1) x1 M (h 100) (h 98 0) (h 98 1) (h 98 2) 0 := by (have z := OtE.st (W := κ 33 0) (H := κ 33 1) (a := x1) (M := M) (R := h 100) (fun x y hp => by obtain ⟨p1, p2, p3, p4⟩ := id hp; rw [w29]; exact (zcp_in ⟨by omega, by omega⟩).trans (by rw [show (0 : Int).toNat = 0 from rfl, Nat.sub_zero]; exact m13 x y hp)); rw [show h 98 0 = 0 by (rw [w29, zcp_ne (by decide)]; exact z13.1), show h 98 1 = 0 by (rw [w29, zcp_ne (by decide)]; exact z13.2.1), show h 98 2 = -2 by (rw [w29, zcp_ne (by decide)]; exact z13.2.2)]; exact z)
  refine zW_iconst (pc' := 33) dX0_gather_1.1.1.1.2 rfl ?_
  refine zW_istore_n (ls' := [_, _, _, _, _]) (pc' := 34) dX0_gather_1.1.1.2.1 (by decide) rfl rfl rfl ?_
  exact (main 10000000000000000000000000000000000000000).1 _ _ hF (by omega) (by omega) (by first | exact st0 | exact gc0.row (by omega) (by omega) (by omega) (by omega)) (by first | exact gc1 | (have z := z13.2.1; rw [w29, zcp_ne (by decide)]; omega)) hgh (by omega)

abbrev q_X0_putZ (b : Bd) (κ : Hp) (x1 : Int) (x2 : Int) (x3 : Int) (gh0 : Hp) : Int → Hp → Prop := fun r h' => Fr b κ h' ∧ ((h' = zwr gh0 99 (x2 * 16 + x1).toNat x3))
set_option maxHeartbeats 4000000 in
set_option maxRecDepth 20000 in
theorem s_X0_putZ {G : Ga} {b : Bd} {κ h : Hp} (hK : KC κ) (hF : Fr b κ h) (x1 : Int) (hx1 : 0 ≤ x1 ∧ x1 ≤ 15 ∧ x1 - κ 33 0 ≤ -1) (x2 : Int) (hx2 : 0 ≤ x2 ∧ x2 ≤ 15 ∧ x2 - κ 33 1 ≤ -1) (x3 : Int) (hx3 : 0 ≤ x3 ∧ x3 ≤ 1) (gh0 : Hp) (hge : h = gh0) : zM G mX0_put yX0_put [.inr (.inr 98), .inl x1, .inl x2, .inl x3] h (q_X0_putZ b κ x1 x2 x3 gh0) := by
  have f_33_0 := KCw hK
  have f_33_1 := KCh hK
  refine zM_of [some (.inr (.inr 98)), some (.inl x1), some (.inl x2), some (.inl x3)] 0 rfl rfl (Nat.le_of_ble_eq_true rfl) rfl ?_
  refine zW_aload_n (pc' := 1) dX0_put_0.1.1.1.1 rfl rfl ?_
  refine zG_ref (pc' := 4) 33 fg_X0_21 tb98 rfl dX0_put_0.1.1.1.2 rfl ?_
  refine zW_iload_n (pc' := 5) dX0_put_0.1.1.2.1 rfl rfl ?_
  refine zW_iload_n (pc' := 6) dX0_put_0.1.1.2.2 rfl rfl ?_
  refine cvI2 (pc' := 9) kX5_has vX5_has lk_X0_25 ⟨Nat.le_of_ble_eq_true rfl, Nat.le_of_ble_eq_true rfl⟩ tb33 vq5 rfl rfl (s_X5_has hK hF _ ⟨by omega, by omega⟩ _ ⟨by omega, by omega⟩) dX0_put_0.1.2.1.1 (Nat.le_of_ble_eq_true rfl) rfl ?_
  rintro r6 z6 ⟨hz6, p6⟩; subst z6
  refine zV_if_eq (tgt := 32) (pc' := 12) dX0_put_0.1.2.1.2 rfl rfl ⟨by omega, by omega⟩ (fun c9 => ?_) (fun c9 => ?_)
  · exact zV_vret rfl dX0_put_1.2.2 ⟨hF, (by first | (rw [w31, b31, hge, show x3 = 1 by omega]) | (rw [w31, b31, hge, show x3 = 0 by omega]) | (exfalso; omega))⟩
  · refine zW_aload_n (pc' := 13) dX0_put_0.1.2.2.1 rfl rfl ?_
    refine zG_ref (pc' := 16) 99 fg_X0_9 tb98 rfl dX0_put_0.1.2.2.2 rfl ?_
    refine zW_iload_n (pc' := 17) dX0_put_0.2.1.1.1 rfl rfl ?_
    refine zW_bipush (pc' := 19) dX0_put_0.2.1.1.2 rfl rfl ?_
    refine zW_imul (pc' := 20) dX0_put_0.2.1.2.1 rfl ?_
    refine zW_iload_n (pc' := 21) dX0_put_0.2.1.2.2 rfl rfl ?_
    refine zW_iadd (pc' := 22) dX0_put_0.2.2.1.1 rfl ?_
    refine zW_iload_n (pc' := 23) dX0_put_0.2.2.1.2 rfl rfl ?_
    refine zV_if_eq (tgt := 30) (pc' := 26) dX0_put_0.2.2.2.1 rfl rfl ⟨by omega, by omega⟩ (fun c23 => ?_) (fun c23 => ?_)
    · refine zW_iconst (pc' := 31) dX0_put_1.1.2 rfl ?_
      refine zS_i (pc' := 32) hF rfl tb99 (by omega) dX0_put_1.2.1 (by decide) rfl (fun h i31 hF a31 b31 w31 => ?_)
      replace b31 := b31 ⟨by omega, by omega⟩
      exact zV_vret rfl dX0_put_1.2.2 ⟨hF, (by first | (rw [w31, b31, hge, show x3 = 1 by omega]) | (rw [w31, b31, hge, show x3 = 0 by omega]) | (exfalso; omega))⟩
    · refine zW_iconst (pc' := 27) dX0_put_0.2.2.2.2 rfl ?_
      refine zV_goto 31 dX0_put_1.1.1 rfl ?_
      refine zS_i (pc' := 32) hF rfl tb99 (by omega) dX0_put_1.2.1 (by decide) rfl (fun h i31 hF a31 b31 w31 => ?_)
      replace b31 := b31 ⟨by omega, by omega⟩
      exact zV_vret rfl dX0_put_1.2.2 ⟨hF, (by first | (rw [w31, b31, hge, show x3 = 1 by omega]) | (rw [w31, b31, hge, show x3 = 0 by omega]) | (exfalso; omega))⟩

abbrev q_X0_markBrightZ (b : Bd) (κ : Hp) (s1 : Nat) (x2 : Int) (x3 : Int) (T : P3) (bb : Int) : Int → Hp → Prop := fun r h' => Fr b κ h' ∧ ((ShE (κ 33 0) (κ 33 1) (h' 99) (fun x y => if x3 ≤ T x2 x y then 1 else 0)))
set_option maxHeartbeats 4000000 in
set_option maxRecDepth 20000 in
theorem s_X0_markBrightZ {G : Ga} {b : Bd} {κ h : Hp} (hK : KC κ) (hF : Fr b κ h) (s1 : Nat) (hs1 : 56 ≤ s1 ∧ s1 ≤ 70) (x2 : Int) (hx2 : 0 ≤ x2 ∧ x2 ≤ 2) (x3 : Int) (hx3 : 0 ≤ x3 ∧ x3 ≤ 4095) (T : P3) (bb : Int) (hbb : h s1 1 = bb) (hb01 : 0 ≤ bb ∧ bb ≤ 1) (hAt : ∀ x y : Int, inP (κ 33 0) (κ 33 1) x y → h (s1 + 15) (if bb = 1 then 256 * x2 + (16 * y + x) else 16 * y + x).toNat = T x2 x y ∧ 0 ≤ T x2 x y ∧ T x2 x y ≤ 4095) : zM G mX0_markBright yX0_markBright [.inr (.inr 98), .inr (.inr s1), .inl x2, .inl x3] h (q_X0_markBrightZ b κ s1 x2 x3 T bb) := by
  have f_33_0 := KCw hK
  have f_33_1 := KCh hK
  have main : ∀ N : Nat, (∀ (v4 : Int) (h : Hp), Fr b κ h → (0 ≤ v4 ∧ v4 ≤ 16) → (v4 - κ 33 1 ≤ 0) → (ShEu (κ 33 0) (κ 33 1) (h 99) (fun x y => if x3 ≤ T x2 x y then 1 else 0) 0 v4) → (∀ x y : Int, inP (κ 33 0) (κ 33 1) x y → h (s1 + 15) (if bb = 1 then 256 * x2 + (16 * y + x) else 16 * y + x).toNat = T x2 x y ∧ 0 ≤ T x2 x y ∧ T x2 x y ≤ 4095) → (h s1 1 = bb) → 11430720 + 18144 * (16 - v4) + 17640 < (N : Int) → zV G mX0_markBright (q_X0_markBrightZ b κ s1 x2 x3 T bb) 3 [some (.inr (.inr 98)), some (.inr (.inr s1)), some (.inl x2), some (.inl x3), some (.inl v4), none] [] h) ∧ (∀ (v4 v5 : Int) (h : Hp), Fr b κ h → (0 ≤ v4 ∧ v4 ≤ 15) → (v4 - κ 33 1 ≤ -1) → (0 ≤ v5 ∧ v5 ≤ 16) → (v5 - κ 33 0 ≤ 0) → (ShEu (κ 33 0) (κ 33 1) (h 99) (fun x y => if x3 ≤ T x2 x y then 1 else 0) v5 v4) → (∀ x y : Int, inP (κ 33 0) (κ 33 1) x y → h (s1 + 15) (if bb = 1 then 256 * x2 + (16 * y + x) else 16 * y + x).toNat = T x2 x y ∧ 0 ≤ T x2 x y ∧ T x2 x y ≤ 4095) → (h s1 1 = bb) → 11430720 + 18144 * (16 - v4) + 13608 + 28 * (16 - v5) + 27 < (N : Int) → zV G mX0_markBright (q_X0_markBrightZ b κ s1 x2 x3 T bb) 18 [some (.inr (.inr 98)), some (.inr (.inr s1)), some (.inl x2), some (.inl x3), some (.inl v4), some (.inl v5)] [] h) := by
    intro N
    induction N with
    | zero =>
      refine ⟨?_, ?_⟩
      · intro v4 h hF g0 g1 gc0 hAt hbb hm
        exfalso; omega
      · intro v4 v5 h hF g0 g1 g2 g3 gc0 hAt hbb hm
        exfalso; omega
    | succ N ih =>
      obtain ⟨k3, k18⟩ := ih
      refine ⟨?_, ?_⟩
      · intro v4 h hF g0 g1 gc0 hAt hbb hm
        refine zW_iload (pc' := 5) dX0_markBright_0.1.1.2.1 rfl rfl ?_
        refine zW_aload_n (pc' := 6) dX0_markBright_0.1.1.2.2 rfl rfl ?_
        refine zG_ref (pc' := 9) 33 fg_X0_21 tb98 rfl dX0_markBright_0.1.2.1.1 rfl ?_
        refine zG_key (pc' := 12) hF rfl fg_X0_31 tb33 rfl dX0_markBright_0.1.2.1.2 rfl ?_
        refine zV_cm_ge (tgt := 72) (pc' := 15) dX0_markBright_0.1.2.2.1 rfl rfl ⟨by omega, by omega⟩ ⟨by omega, by omega⟩ (fun c12 => ?_) (fun c12 => ?_)
        · exact zV_vret rfl dX0_markBright_2.2.2 ⟨hF, gc0.all (by omega)⟩
        · refine zW_iconst (pc' := 16) dX0_markBright_0.1.2.2.2 rfl ?_
          refine zW_istore (ls' := [_, _, _, _, _, _]) (pc' := 18) dX0_markBright_0.2.1.1.1 (by decide) rfl rfl rfl ?_
          exact k18 _ _ _ hF (by omega) (by omega) (by omega) (by omega) (by first | exact hr2 | exact gc0) hAt hbb (by omega)
      · intro v4 v5 h hF g0 g1 g2 g3 gc0 hAt hbb hm
        refine zW_iload (pc' := 20) dX0_markBright_0.2.1.1.2 rfl rfl ?_
        refine zW_aload_n (pc' := 21) dX0_markBright_0.2.1.2.1 rfl rfl ?_
        refine zG_ref (pc' := 24) 33 fg_X0_21 tb98 rfl dX0_markBright_0.2.1.2.2 rfl ?_
        refine zG_key (pc' := 27) hF rfl fg_X0_35 tb33 rfl dX0_markBright_0.2.2.1.1 rfl ?_
        refine zV_cm_ge (tgt := 66) (pc' := 30) dX0_markBright_0.2.2.1.2 rfl rfl ⟨by omega, by omega⟩ ⟨by omega, by omega⟩ (fun c27 => ?_) (fun c27 => ?_)
        · refine zW_iinc (ls' := [_, _, _, _, _, _]) (pc' := 69) dX0_markBright_2.1.2 rfl (by decide) rfl rfl rfl ?_
          refine zV_goto 3 dX0_markBright_2.2.1 rfl ?_
          refine zV_clr 5 (ls' := [_, _, _, _, _, _]) rfl ?_
          exact k3 _ _ hF (by omega) (by omega) (by first | exact gc0.rowx (by omega) | exact ShEu.no) hAt hbb (by omega)
        · refine zW_aload_n (pc' := 31) dX0_markBright_0.2.2.2.1 rfl rfl ?_
          refine zW_iload (pc' := 33) dX0_markBright_0.2.2.2.2 rfl rfl ?_
          refine zW_iload (pc' := 35) dX0_markBright_1.1.1.1.1 rfl rfl ?_
          refine zW_aload_n (pc' := 36) dX0_markBright_1.1.1.1.2 rfl rfl ?_
          refine zW_iload (pc' := 38) dX0_markBright_1.1.1.2.1 rfl rfl ?_
          refine zW_bipush (pc' := 40) dX0_markBright_1.1.1.2.2 rfl rfl ?_
          refine zW_imul (pc' := 41) dX0_markBright_1.1.2.1.1 rfl ?_
          refine zW_iload (pc' := 43) dX0_markBright_1.1.2.1.2 rfl rfl ?_
          refine zW_iadd (pc' := 44) dX0_markBright_1.1.2.2.1 rfl ?_
          refine zW_iload_n (pc' := 45) dX0_markBright_1.1.2.2.2 rfl rfl ?_
          refine cvI2 (pc' := 48) kX8_levelAt vX8_levelAt lk_X0_38 ⟨Nat.le_of_ble_eq_true rfl, Nat.le_of_ble_eq_true rfl⟩ (tabS (by omega) (by omega)) vq8 rfl rfl (s_X8_levelAtZ hF _ ⟨by omega, by omega⟩ _ ⟨by omega, by omega⟩ _ ⟨by omega, by omega⟩ bb ⟨hbb, hb01⟩) dX0_markBright_1.2.1.1.1 (Nat.le_of_ble_eq_true rfl) rfl ?_
          rintro r45 z45 ⟨hz45, p45⟩; subst z45
          have ha := hAt v5 v4 ⟨by omega, by omega, by omega, by omega⟩
          have e45 : r45 = T x2 v5 v4 := by rw [p45, show 256 * x2 + (v4 * 16 + v5) = 256 * x2 + (16 * v4 + v5) by omega, show v4 * 16 + v5 = 16 * v4 + v5 by omega]; exact ha.1
          have b45 : 0 ≤ r45 ∧ r45 ≤ 4095 := by rw [e45]; exact ha.2
          have c01 : (x3 ≤ T x2 v5 v4 ∧ (fun x y => if x3 ≤ T x2 x y then 1 else 0) v5 v4 = 1) ∨ (¬ x3 ≤ T x2 v5 v4 ∧ (fun x y => if x3 ≤ T x2 x y then 1 else 0) v5 v4 = 0) := by (by_cases c : x3 ≤ T x2 v5 v4; exact Or.inl ⟨c, if_pos c⟩; exact Or.inr ⟨c, if_neg c⟩)
          refine zW_iload_n (pc' := 49) dX0_markBright_1.2.1.1.2 rfl rfl ?_
          refine zV_cm_lt (tgt := 56) (pc' := 52) dX0_markBright_1.2.1.2.1 rfl rfl ⟨by omega, by omega⟩ ⟨by omega, by omega⟩ (fun c49 => ?_) (fun c49 => ?_)
          · refine zW_iconst (pc' := 57) dX0_markBright_1.2.2.1.2 rfl ?_
            refine cvV3 (pc' := 60) kX0_put vX0_put lk_X0_44 ⟨Nat.le_of_ble_eq_true rfl, Nat.le_of_ble_eq_true rfl⟩ tb98 vq0 rfl rfl (s_X0_putZ hK hF _ ⟨by omega, by omega, by omega⟩ _ ⟨by omega, by omega, by omega⟩ _ ⟨by omega, by omega⟩ h rfl) dX0_markBright_1.2.2.2.1 (Nat.le_of_ble_eq_true rfl) rfl ?_
            rintro r57 h ⟨hF, p57⟩
            have hr2 : ShEu (κ 33 0) (κ 33 1) (h 99) (fun x y => if x3 ≤ T x2 x y then 1 else 0) (v5 + 1) v4 := by rw [p57]; exact ShEu.nx (by omega) ⟨by omega, by omega, by omega, by omega⟩ gc0 (by omega) (by omega)
            replace hAt : ∀ x y : Int, inP (κ 33 0) (κ 33 1) x y → h (s1 + 15) (if bb = 1 then 256 * x2 + (16 * y + x) else 16 * y + x).toNat = T x2 x y ∧ 0 ≤ T x2 x y ∧ T x2 x y ≤ 4095 := by rw [p57, zfun (by omega)]; exact hAt
            replace hbb : h s1 1 = bb := by rw [p57, zfun (by omega)]; exact hbb
            refine zW_iinc (ls' := [_, _, _, _, _, _]) (pc' := 63) dX0_markBright_1.2.2.2.2 rfl (by decide) rfl rfl rfl ?_
            refine zV_goto 18 dX0_markBright_2.1.1 rfl ?_
            exact k18 _ _ _ hF (by omega) (by omega) (by omega) (by omega) (by first | exact hr2 | exact gc0) hAt hbb (by omega)
          · refine zW_iconst (pc' := 53) dX0_markBright_1.2.1.2.2 rfl ?_
            refine zV_goto 57 dX0_markBright_1.2.2.1.1 rfl ?_
            refine cvV3 (pc' := 60) kX0_put vX0_put lk_X0_44 ⟨Nat.le_of_ble_eq_true rfl, Nat.le_of_ble_eq_true rfl⟩ tb98 vq0 rfl rfl (s_X0_putZ hK hF _ ⟨by omega, by omega, by omega⟩ _ ⟨by omega, by omega, by omega⟩ _ ⟨by omega, by omega⟩ h rfl) dX0_markBright_1.2.2.2.1 (Nat.le_of_ble_eq_true rfl) rfl ?_
            rintro r57 h ⟨hF, p57⟩
            have hr2 : ShEu (κ 33 0) (κ 33 1) (h 99) (fun x y => if x3 ≤ T x2 x y then 1 else 0) (v5 + 1) v4 := by rw [p57]; exact ShEu.nx (by omega) ⟨by omega, by omega, by omega, by omega⟩ gc0 (by omega) (by omega)
            replace hAt : ∀ x y : Int, inP (κ 33 0) (κ 33 1) x y → h (s1 + 15) (if bb = 1 then 256 * x2 + (16 * y + x) else 16 * y + x).toNat = T x2 x y ∧ 0 ≤ T x2 x y ∧ T x2 x y ≤ 4095 := by rw [p57, zfun (by omega)]; exact hAt
            replace hbb : h s1 1 = bb := by rw [p57, zfun (by omega)]; exact hbb
            refine zW_iinc (ls' := [_, _, _, _, _, _]) (pc' := 63) dX0_markBright_1.2.2.2.2 rfl (by decide) rfl rfl rfl ?_
            refine zV_goto 18 dX0_markBright_2.1.1 rfl ?_
            exact k18 _ _ _ hF (by omega) (by omega) (by omega) (by omega) (by first | exact hr2 | exact gc0) hAt hbb (by omega)
  refine zM_of [some (.inr (.inr 98)), some (.inr (.inr s1)), some (.inl x2), some (.inl x3), none, none] 2 rfl rfl (Nat.le_of_ble_eq_true rfl) rfl ?_
  refine zW_iconst (pc' := 1) dX0_markBright_0.1.1.1.1 rfl ?_
  refine zW_istore (ls' := [_, _, _, _, _, _]) (pc' := 3) dX0_markBright_0.1.1.1.2 (by decide) rfl rfl rfl ?_
  exact (main 10000000000000000000000000000000000000000).1 _ _ hF (by omega) (by omega) (by first | exact gc0.rowx (by omega) | exact ShEu.no) hAt hbb (by omega)

def brM (W H : Int) (T : P3) (c lv : Int) (q : Nat) : Int := if ((q % 16 : Nat) : Int) < W ∧ ((q / 16 : Nat) : Int) < H ∧ lv ≤ T c ((q % 16 : Nat) : Int) ((q / 16 : Nat) : Int) then 1 else 0
theorem brM_at {W H c lv x y : Int} {T : P3} (hW : W ≤ 16) (hp : inP W H x y) : brM W H T c lv (16 * y + x).toNat = if lv ≤ T c x y then 1 else 0 := by
  obtain ⟨p1, p2, p3, p4⟩ := hp
  have ex : (((16 * y + x).toNat % 16 : Nat) : Int) = x := by omega
  have ey : (((16 * y + x).toNat / 16 : Nat) : Int) = y := by omega
  unfold brM
  rw [ex, ey]
  by_cases c : lv ≤ T c x y
  · rw [if_pos ⟨p2, p4, c⟩, if_pos c]
  · rw [if_neg (fun q => c q.2.2), if_neg c]
def plO (w : Int) (O : O4) : Int := if w = 0 then O.2.1 else if w = 1 then lgG O.2.2.1 O.2.1 else fsG O.2.2.1 O.2.2.2 O.2.1
def plQ (W H P n : Int) (lt bh : Int → Int) (pc : Int → P3) (nm : Int → Nat → Int) (k c lv w : Int) : Int := if 0 ≤ k ∧ k ≤ n ∧ 0 ≤ c ∧ c ≤ 2 ∧ 0 ≤ lv ∧ lv ≤ 4095 ∧ 0 ≤ w ∧ w ≤ 2 then (if bh k = 1 then plO w (otF W H 0 (brM W H (pc k) c lv) 256) else -3) else -1
theorem OtE.pl {W H a w r : Int} {M R : Nat → Int} {n l f : Int} (h : OtE W H a M R n l f 256) (h0 : w = 0 → r = n) (h1 : w = 1 → r = l) (h2 : w ≠ 0 → w ≠ 1 → r = f) : r = plO w (otF W H a M 256) := by
  obtain ⟨a1, a2, a3, a4, a5, a6⟩ := h
  rw [show (256 : Int).toNat = 256 from rfl] at a2 a3 a4
  generalize otF W H a M 256 = O at *
  unfold plO
  by_cases c : w = 0
  · rw [if_pos c, h0 c]; exact a2
  · by_cases d : w = 1
    · rw [if_neg c, if_pos d, h1 d]; exact a3
    · rw [if_neg c, if_neg d, h2 c d]; exact a4
/-- the reference's groups: its lists of sizes, of first squares -/
def OtR (W H a : Int) (M R G F : Nat → Int) (n p : Int) : Prop := (∀ x y : Int, inP W H x y → R (16 * y + x).toNat = (otF W H a M p.toNat).1 (16 * y + x).toNat) ∧ n = (otF W H a M p.toNat).2.1 ∧ 0 ≤ n ∧ n ≤ p ∧ (∀ j : Nat, (j : Int) < n → G j = (otF W H a M p.toNat).2.2.1 j ∧ F j = (otF W H a M p.toNat).2.2.2 j)
theorem OtR.st {W H a : Int} {M R G F : Nat → Int} (h : ∀ x y : Int, inP W H x y → R (16 * y + x).toNat = M (16 * y + x).toNat) : OtR W H a M R G F 0 0 := ⟨h, rfl, Int.le_refl 0, Int.le_refl 0, fun j hj => absurd hj (by omega)⟩
theorem OtR.n {W H a : Int} {M R G F : Nat → Int} {n p : Int} (h : OtR W H a M R G F n p) (h0 : 0 ≤ p) (h1 : inP W H (p % 16) (p / 16) → R p.toNat ≠ 1) : OtR W H a M R G F n (p + 1) := by
  obtain ⟨a1, a2, a3, a4, a5⟩ := h
  have e : otF W H a M (p + 1).toNat = otF W H a M p.toNat := otF_n h0 (fun z => by
    have hp : inP W H (p % 16) (p / 16) := ⟨by omega, z.1, by omega, z.2.1⟩
    have q := a1 _ _ hp
    rw [show 16 * (p / 16) + p % 16 = p by omega] at q
    exact h1 hp (q.trans z.2.2))
  unfold OtR
  rw [e]
  exact ⟨a1, a2, a3, by omega, a5⟩
theorem OtR.y {W H a : Int} {M R R' G G' F F' : Nat → Int} {n s p : Int} (h : OtR W H a M R G F n p) (h0 : 0 ≤ p) (hW : W ≤ 16) (hp : inP W H (p % 16) (p / 16)) (h1 : R p.toNat = 1)
    (hR : ∀ u v : Int, inP W H u v → R' (16 * v + u).toNat = (S0F W H a (p % 16) (p / 16) (otF W H a M p.toNat).1).1 (16 * v + u).toNat) (hs : s = (S0F W H a (p % 16) (p / 16) (otF W H a M p.toNat).1).2.2) (hG : G' n.toNat = s) (hF : F' n.toNat = p) (hG2 : ∀ j : Nat, (j : Int) < n → G' j = G j) (hF2 : ∀ j : Nat, (j : Int) < n → F' j = F j) : OtR W H a M R' G' F' (n + 1) (p + 1) := by
  obtain ⟨a1, a2, a3, a4, a5⟩ := h
  have q := otF_y (a := a) (R0 := M) hW hp (by have q := a1 _ _ hp; rw [show 16 * (p / 16) + p % 16 = p by omega] at q ⊢; exact q.symm.trans h1)
  rw [show 16 * (p / 16) + p % 16 = p by omega] at q
  unfold OtR
  rw [q]
  clear q
  generalize S0F W H a (p % 16) (p / 16) (otF W H a M p.toNat).1 = X at *
  generalize otF W H a M p.toNat = O at *
  refine ⟨hR, ?_, by omega, by omega, fun j hj => ?_⟩
  · show n + 1 = O.2.1 + 1
    omega
  · show G' j = (if j = (O.2.1).toNat then X.2.2 else O.2.2.1 j) ∧ F' j = (if j = (O.2.1).toNat then p else O.2.2.2 j)
    by_cases c : j = n.toNat
    · rw [if_pos (by omega), if_pos (by omega), c]
      exact ⟨hG.trans hs, hF⟩
    · rw [if_neg (by omega), if_neg (by omega), hG2 j (by omega), hF2 j (by omega)]
      exact a5 j (by omega)
theorem OtR.pl {W H a w r b : Int} {M R G F : Nat → Int} {n : Int} (h : OtR W H a M R G F n 256) (hb : b = bsG G n.toNat) (h0 : w = 0 → r = n) (h1 : w ≠ 0 → b = -1 → r = if w = 1 then 0 else -2) (h2 : w = 1 → b ≠ -1 → r = G b.toNat) (h3 : w ≠ 0 → w ≠ 1 → b ≠ -1 → r = F b.toNat) : r = plO w (otF W H a M 256) := by
  obtain ⟨a1, a2, a3, a4, a5⟩ := h
  rw [show (256 : Int).toNat = 256 from rfl] at a2 a5
  generalize otF W H a M 256 = O at *
  have e : bsG G n.toNat = bsG O.2.2.1 n.toNat := bsG_cong _ (fun j hj => (a5 j (by omega)).1)
  have hb2 := bsG_b (G := G) n.toNat
  unfold plO lgG fsG
  rw [← a2, ← e, ← hb]
  by_cases c : w = 0
  · rw [if_pos c, h0 c]
  · by_cases d : b = -1
    · rw [if_neg c, if_pos d, if_pos d]; exact h1 c d
    · have z := a5 b.toNat (by omega)
      rw [if_neg c, if_neg d, if_neg d, ← z.1, ← z.2]
      by_cases f : w = 1
      · rw [if_pos f]; exact h2 f d
      · rw [if_neg f]; exact h3 c f d
theorem StE.nn {W H a p j dx dy x y n : Int} {R Q : Nat → Int} {S : Sq3} (h : StE W H R Q n S) (hx : -1 ≤ dx ∧ dx ≤ 1) (hy : -1 ≤ dy ∧ dy ≤ 1) (hj : j = 3 * (dy + 1) + (dx + 1)) (ex : x = p % 16 + dx) (ey : y = p / 16 + dy) (hq : ¬ ((a = 1 ∨ dx = 0 ∨ dy = 0) ∧ inP W H x y ∧ n < 256 ∧ R (16 * y + x).toNat = 1)) : StE W H R Q n (nb1 W H a p j S) := by
  by_cases c : a = 1 ∨ dx = 0 ∨ dy = 0
  · rw [nb1_y c hx hy hj ex ey]; exact h.ne (fun z => hq ⟨c, z⟩)
  · rw [nb1_n c hx hy hj]; exact h
def rsF (A B : Nat → Int) (q : Nat) : Int := if A q ≠ 0 ∧ B q = -1 then 1 else 0
theorem rsF_1 {A B : Nat → Int} {q : Nat} (h : A q ≠ 0) (h2 : B q = -1) : rsF A B q = 1 := if_pos ⟨h, h2⟩
theorem rsF_0 {A B : Nat → Int} {q : Nat} (h : A q = 0 ∨ B q ≠ -1) : rsF A B q = 0 := if_neg (fun z => h.elim z.1 (fun w => w z.2))
theorem rsF_c {A B : Nat → Int} {q : Nat} (h : rsF A B q = 1) : A q ≠ 0 ∧ B q = -1 := by
  by_cases c : A q ≠ 0 ∧ B q = -1
  · exact c
  · unfold rsF at h; rw [if_neg c] at h; omega

abbrev q_X11_placesZ (b : Bd) (κ : Hp) (x1 : Int) (x2 : Int) (x3 : Int) (x4 : Int) : Int → Hp → Prop := fun r h' => Fr b κ h' ∧ ((r = plQ (κ 33 0) (κ 33 1) (κ 33 2) (κ 41 0) (ltV (LC κ) (κ 41 0)) (bhV (LC κ) (κ 41 0)) (pcV (κ 41 0) (PFc κ)) (nmV (κ 41 0) (XNc κ)) x1 x2 x3 x4))
set_option maxHeartbeats 4000000 in
set_option maxRecDepth 20000 in
theorem s_X11_placesZ {G : Ga} {b : Bd} {κ h : Hp} (hK : KC κ) (hF : Fr b κ h) (x1 : Int) (hx1 : rng x1) (x2 : Int) (hx2 : rng x2) (x3 : Int) (hx3 : rng x3) (x4 : Int) (hx4 : rng x4) (hSw : SheetW b) (hV : VOK (κ 34)) (hE : EaOK (LC κ) (κ 41 0)) (hfB : ∀ k : Nat, (k : Int) ≤ κ 41 0 → ((0 < κ 41 1 ∧ κ 41 1 ≤ (k : Int)) ↔ bhI (LC κ) k = 1)) : zM G mX11_places yX11_places [.inr (.inr 30), .inl x1, .inl x2, .inl x3, .inl x4] h (q_X11_placesZ b κ x1 x2 x3 x4) := by
  have f_33_0 := KCw hK
  have f_33_1 := KCh hK
  have f_33_2 := KCp hK
  have f_41_0 := KCm hK
  have f_41_1 := KCf hK
  unfold rng at hx1
  unfold rng at hx2
  unfold rng at hx3
  unfold rng at hx4
  refine zM_of [some (.inr (.inr 30)), some (.inl x1), some (.inl x2), some (.inl x3), some (.inl x4)] 0 rfl rfl (Nat.le_of_ble_eq_true rfl) rfl ?_
  refine zW_aload_n (pc' := 1) dX11_places_0.1.1.1.1 rfl rfl ?_
  refine zW_iload_n (pc' := 2) dX11_places_0.1.1.1.2 rfl rfl ?_
  refine zW_iload_n (pc' := 3) dX11_places_0.1.1.2.1 rfl rfl ?_
  refine cvI2 (pc' := 6) kX11_isLeftOf vX11_isLeftOf lk_X11_290 ⟨Nat.le_of_ble_eq_true rfl, Nat.le_of_ble_eq_true rfl⟩ tb30 vq11 rfl rfl (s_X11_isLeftOfZ hK hF _ ⟨by omega, by omega⟩ _ ⟨by omega, by omega⟩) dX11_places_0.1.1.2.2 (Nat.le_of_ble_eq_true rfl) rfl ?_
  rintro r3 z3 ⟨hz3, p3⟩; subst z3
  refine zV_if_eq (tgt := 28) (pc' := 9) dX11_places_0.1.2.1.1 rfl rfl ⟨by omega, by omega⟩ (fun c6 => ?_) (fun c6 => ?_)
  · refine zW_iconst (pc' := 29) dX11_places_0.2.2.1.2 rfl ?_
    exact zV_iret rfl dX11_places_0.2.2.2.1 ⟨hF, (by unfold plQ; rw [if_neg (by omega)])⟩
  · refine zW_iload_n (pc' := 10) dX11_places_0.1.2.1.2 rfl rfl ?_
    refine zW_sipush (pc' := 13) dX11_places_0.1.2.2.1 rfl rfl ?_
    refine csI2 (pc' := 16) kX11_isWithin vX11_isWithin lk_X11_116 ⟨Nat.le_of_ble_eq_true rfl, Nat.le_of_ble_eq_true rfl⟩ rfl (s_X11_isWithinR hF _ ⟨by omega, by omega⟩ _ ⟨by omega, by omega⟩) dX11_places_0.1.2.2.2 (Nat.le_of_ble_eq_true rfl) rfl ?_
    rintro r13 z13 ⟨hz13, p13⟩; subst z13
    refine zV_if_eq (tgt := 28) (pc' := 19) dX11_places_0.2.1.1.1 rfl rfl ⟨by omega, by omega⟩ (fun c16 => ?_) (fun c16 => ?_)
    · refine zW_iconst (pc' := 29) dX11_places_0.2.2.1.2 rfl ?_
      exact zV_iret rfl dX11_places_0.2.2.2.1 ⟨hF, (by unfold plQ; rw [if_neg (by omega)])⟩
    · refine zW_iload (pc' := 21) dX11_places_0.2.1.1.2 rfl rfl ?_
      refine zW_iconst (pc' := 22) dX11_places_0.2.1.2.1 rfl ?_
      refine csI2 (pc' := 25) kX11_isWithin vX11_isWithin lk_X11_116 ⟨Nat.le_of_ble_eq_true rfl, Nat.le_of_ble_eq_true rfl⟩ rfl (s_X11_isWithinR hF _ ⟨by omega, by omega⟩ _ ⟨by omega, by omega⟩) dX11_places_0.2.1.2.2 (Nat.le_of_ble_eq_true rfl) rfl ?_
      rintro r22 z22 ⟨hz22, p22⟩; subst z22
      refine zV_if_ne (tgt := 30) (pc' := 28) dX11_places_0.2.2.1.1 rfl rfl ⟨by omega, by omega⟩ (fun c25 => ?_) (fun c25 => ?_)
      · refine zW_aload_n (pc' := 31) dX11_places_0.2.2.2.2 rfl rfl ?_
        refine zG_ref (pc' := 34) 41 fg_X11_33 tb30 rfl dX11_places_1.1.1.1.1 rfl ?_
        refine zW_iload_n (pc' := 35) dX11_places_1.1.1.1.2 rfl rfl ?_
        refine cvI1 (pc' := 38) kX7_isBehindF vX7_isBehindF lk_X11_310 ⟨Nat.le_of_ble_eq_true rfl, Nat.le_of_ble_eq_true rfl⟩ tb41 vq7 rfl rfl (s_X7_isBehindFZ hK hF _ ⟨by omega, by omega, by omega⟩ hfB) dX11_places_1.1.1.2.1 (Nat.le_of_ble_eq_true rfl) rfl ?_
        rintro r35 z35 ⟨hz35, p35⟩; subst z35
        refine zV_if_ne (tgt := 44) (pc' := 41) dX11_places_1.1.1.2.2 rfl rfl ⟨by omega, by omega⟩ (fun c38 => ?_) (fun c38 => ?_)
        · refine zW_aload_n (pc' := 45) dX11_places_1.1.2.2.1 rfl rfl ?_
          refine zG_ref (pc' := 48) 98 fg_X11_67 tb30 rfl dX11_places_1.1.2.2.2 rfl ?_
          refine zW_aload_n (pc' := 49) dX11_places_1.2.1.1.1 rfl rfl ?_
          refine zG_ref (pc' := 52) 54 fg_X11_51 tb30 rfl dX11_places_1.2.1.1.2 rfl ?_
          refine zW_iload_n (pc' := 53) dX11_places_1.2.1.2.1 rfl rfl ?_
          refine cvA1 (pc' := 56) kX1_sheetOf vX1_sheetOf lk_X11_192 ⟨Nat.le_of_ble_eq_true rfl, Nat.le_of_ble_eq_true rfl⟩ tb54 vq1 rfl rfl (hSw hK hF _ ⟨by omega, by omega⟩) dX11_places_1.2.1.2.2 (Nat.le_of_ble_eq_true rfl) rfl ?_
          rintro r53 h ⟨hF, p53⟩
          obtain ⟨q53, z53⟩ : ∃ z : Nat, z = r53.toNat := ⟨_, rfl⟩
          rw [← z53]
          have hbc := bhI_c (LC κ) x1.toNat
          have hnn : ¬ noF (LC κ) x1.toNat := by rcases hbc with q | q; (exfalso; omega); exact q.2
          have hF3 := (((p53.2.2 (by omega) (by omega)).2 x1.toNat (by omega)).2 hnn).1
          have hqs := (p53.2.2 (by omega) (by omega)).1
          rw [show 56 + x1.toNat + 15 = q53 + 15 by omega] at hF3
          have hb3 := PFc_b hK hV x1.toNat
          have hf1 : h q53 1 = 1 := by have z := (((p53.2.2 (by omega) (by omega)).2 x1.toNat (by omega)).2 hnn).2; rw [show 56 + x1.toNat = q53 by omega] at z; exact z
          have hat : ∀ x y : Int, inP (κ 33 0) (κ 33 1) x y → h (q53 + 15) (if (1 : Int) = 1 then 256 * x2 + (16 * y + x) else 16 * y + x).toNat = PFc κ x1.toNat x2 x y ∧ 0 ≤ PFc κ x1.toNat x2 x y ∧ PFc κ x1.toNat x2 x y ≤ 4095 := fun x y hp => ⟨by rw [if_pos rfl, show 256 * x2 + (16 * y + x) = 256 * x2 + 16 * y + x by omega]; exact hF3 x2 ⟨by omega, by omega⟩ x y hp, hb3 x2 ⟨by omega, by omega⟩ x y hp⟩
          refine zW_iload_n (pc' := 57) dX11_places_1.2.2.1.1 rfl rfl ?_
          refine zW_iload_n (pc' := 58) dX11_places_1.2.2.1.2 rfl rfl ?_
          refine cvV3 (pc' := 61) kX0_markBright vX0_markBright lk_X11_363 ⟨Nat.le_of_ble_eq_true rfl, Nat.le_of_ble_eq_true rfl⟩ tb98 vq0 rfl rfl (s_X0_markBrightZ hK hF _ ⟨by omega, by omega⟩ _ ⟨by omega, by omega⟩ _ ⟨by omega, by omega⟩ (PFc κ x1.toNat) 1 hf1 ⟨by omega, by omega⟩ hat) dX11_places_1.2.2.2.1 (Nat.le_of_ble_eq_true rfl) rfl ?_
          rintro r58 h ⟨hF, p58⟩
          have hm : ∀ x y : Int, inP (κ 33 0) (κ 33 1) x y → h 99 (16 * y + x).toNat = (brM (κ 33 0) (κ 33 1) (PFc κ x1.toNat) x2 x3) (16 * y + x).toNat := fun x y hp => (p58 x y hp).trans (brM_at (by omega) hp).symm
          refine zW_aload_n (pc' := 62) dX11_places_1.2.2.2.2 rfl rfl ?_
          refine zG_ref (pc' := 65) 98 fg_X11_67 tb30 rfl dX11_places_2.1.1.1.1 rfl ?_
          refine zW_iconst (pc' := 66) dX11_places_2.1.1.1.2 rfl ?_
          refine cvV1 (pc' := 69) kX0_gather vX0_gather lk_X11_221 ⟨Nat.le_of_ble_eq_true rfl, Nat.le_of_ble_eq_true rfl⟩ tb98 vq0 rfl rfl (s_X0_gatherZ hK hF _ ⟨by omega, by omega⟩ (brM (κ 33 0) (κ 33 1) (PFc κ x1.toNat) x2 x3) h hm Fw.rf) dX11_places_2.1.1.2.1 (Nat.le_of_ble_eq_true rfl) rfl ?_
          rintro r66 h ⟨hF, d66, p66⟩
          refine zW_iload (pc' := 71) dX11_places_2.1.1.2.2 rfl rfl ?_
          refine zW_iconst (pc' := 72) dX11_places_2.1.2.1.1 rfl ?_
          refine zV_cm_ne (tgt := 83) (pc' := 75) dX11_places_2.1.2.1.2 rfl rfl ⟨by omega, by omega⟩ ⟨by omega, by omega⟩ (fun c72 => ?_) (fun c72 => ?_)
          · refine zW_iload (pc' := 85) dX11_places_2.2.1.2.1 rfl rfl ?_
            refine zV_if_ne (tgt := 98) (pc' := 88) dX11_places_2.2.1.2.2 rfl rfl ⟨by omega, by omega⟩ (fun c85 => ?_) (fun c85 => ?_)
            · refine zW_aload_n (pc' := 99) dX11_places_3.1.1 rfl rfl ?_
              refine zG_ref (pc' := 102) 98 fg_X11_67 tb30 rfl dX11_places_3.1.2 rfl ?_
              refine zG_int (pc' := 105) fg_X11_228 tb98 rfl dX11_places_3.2.1 rfl ?_
              exact zV_iret rfl dX11_places_3.2.2 ⟨hF, (by unfold plQ; rw [if_pos ⟨by omega, by omega, by omega, by omega, by omega, by omega, by omega, by omega⟩, bhV_in ⟨by omega, by omega⟩, if_pos (by omega), pcV_in ⟨by omega, by omega⟩]; exact p66.pl (fun q => by first | rfl | omega) (fun q => by first | rfl | omega) (fun q1 q2 => by omega))⟩
            · refine zW_aload_n (pc' := 89) dX11_places_2.2.2.1.1 rfl rfl ?_
              refine zG_ref (pc' := 92) 98 fg_X11_67 tb30 rfl dX11_places_2.2.2.1.2 rfl ?_
              refine zG_int (pc' := 95) fg_X11_225 tb98 rfl dX11_places_2.2.2.2.1 rfl ?_
              refine zV_goto 105 dX11_places_2.2.2.2.2 rfl ?_
              exact zV_iret rfl dX11_places_3.2.2 ⟨hF, (by unfold plQ; rw [if_pos ⟨by omega, by omega, by omega, by omega, by omega, by omega, by omega, by omega⟩, bhV_in ⟨by omega, by omega⟩, if_pos (by omega), pcV_in ⟨by omega, by omega⟩]; exact p66.pl (fun q => by first | rfl | omega) (fun q => by first | rfl | omega) (fun q1 q2 => by omega))⟩
          · refine zW_aload_n (pc' := 76) dX11_places_2.1.2.2.1 rfl rfl ?_
            refine zG_ref (pc' := 79) 98 fg_X11_67 tb30 rfl dX11_places_2.1.2.2.2 rfl ?_
            refine zG_int (pc' := 82) fg_X11_366 tb98 rfl dX11_places_2.2.1.1.1 rfl ?_
            exact zV_iret rfl dX11_places_2.2.1.1.2 ⟨hF, (by unfold plQ; rw [if_pos ⟨by omega, by omega, by omega, by omega, by omega, by omega, by omega, by omega⟩, bhV_in ⟨by omega, by omega⟩, if_pos (by omega), pcV_in ⟨by omega, by omega⟩]; exact p66.pl (fun q => by omega) (fun q => by omega) (fun q1 q2 => rfl))⟩
        · refine zW_bipush (pc' := 43) dX11_places_1.1.2.1.1 rfl rfl ?_
          exact zV_iret rfl dX11_places_1.1.2.1.2 ⟨hF, (by unfold plQ; rw [if_pos ⟨by omega, by omega, by omega, by omega, by omega, by omega, by omega, by omega⟩, bhV_in ⟨by omega, by omega⟩, if_neg (by omega)])⟩
      · refine zW_iconst (pc' := 29) dX11_places_0.2.2.1.2 rfl ?_
        exact zV_iret rfl dX11_places_0.2.2.2.1 ⟨hF, (by unfold plQ; rw [if_neg (by omega)])⟩

abbrev q_X12_spreadsZ (b : Bd) (κ : Hp) (x1 : Int) (x2 : Int) (x3 : Int) (R0 : Nat → Int) (gh0 : Hp) : Int → Hp → Prop := fun r h' => Fr b κ h' ∧ ((Fw [25, 26] [] gh0 h') ∧ (1 ≤ r) ∧ (r ≤ 256) ∧ ((∀ x y : Int, inP (κ 0 11) (κ 0 12) x y → (rsF (h' 24) (h' 25)) (16 * y + x).toNat = (S0F (κ 0 11) (κ 0 12) x3 (x1 % 16) (x1 / 16) R0).1 (16 * y + x).toNat) ∧ r = (S0F (κ 0 11) (κ 0 12) x3 (x1 % 16) (x1 / 16) R0).2.2))
set_option maxHeartbeats 4000000 in
set_option maxRecDepth 20000 in
theorem s_X12_spreadsZ {G : Ga} {b : Bd} {κ h : Hp} (hK : KR κ) (hF : Fr b κ h) (x1 : Int) (hx1 : 0 ≤ x1 ∧ x1 ≤ 255) (x2 : Int) (hx2 : 0 ≤ x2 ∧ x2 ≤ 255) (x3 : Int) (hx3 : 0 ≤ x3 ∧ x3 ≤ 1) (R0 : Nat → Int) (gh0 : Hp) (hp : h 25 x1.toNat = -1) (hf01 : ∀ q : Nat, q < 256 → 0 ≤ h 24 q ∧ h 24 q ≤ 1) (hfd : h 24 x1.toNat ≠ 0) (hin : inP (κ 0 11) (κ 0 12) (x1 % 16) (x1 / 16)) (hR0 : ∀ x y : Int, inP (κ 0 11) (κ 0 12) x y → (rsF (h 24) (h 25)) (16 * y + x).toNat = R0 (16 * y + x).toNat) (hgh : Fw [25, 26] [] gh0 h) : zM G mX12_spreads yX12_spreads [.inr (.inr 0), .inl x1, .inl x2, .inl x3] h (q_X12_spreadsZ b κ x1 x2 x3 R0 gh0) := by
  have f_0_11 := KRw hK
  have f_0_12 := KRh hK
  have main : ∀ N : Nat, (∀ (v4 v5 : Int) (h : Hp), Fr b κ h → (1 ≤ v4 ∧ v4 ≤ 256) → (0 ≤ v5 ∧ v5 ≤ 256) → (v4 ≤ (cntN (h 25) 256 : Int)) → (StE (κ 0 11) (κ 0 12) (rsF (h 24) (h 25)) (h 26) v4 (bfF (κ 0 11) (κ 0 12) x3 (enF (κ 0 11) (κ 0 12) (x1 % 16) (x1 / 16) (R0, fun _ => 0, 0)) v5.toNat)) → (∀ q : Nat, q < 256 → 0 ≤ h 24 q ∧ h 24 q ≤ 1) → (Fw [25, 26] [] gh0 h) → 1886787540 + 82170 * (256 - v5) + 81257 < (N : Int) → zV G mX12_spreads (q_X12_spreadsZ b κ x1 x2 x3 R0 gh0) 20 [some (.inr (.inr 0)), some (.inl x1), some (.inl x2), some (.inl x3), some (.inl v4), some (.inl v5), none, none, none, none, none, none] [] h) ∧ (∀ (v4 v5 v6 : Int) (h : Hp), Fr b κ h → (1 ≤ v4 ∧ v4 ≤ 256) → (0 ≤ v5 ∧ v5 ≤ 255) → (0 ≤ v6 ∧ v6 ≤ 9) → (v4 ≤ (cntN (h 25) 256 : Int)) → (v5 < v4) → (StE (κ 0 11) (κ 0 12) (rsF (h 24) (h 25)) (h 26) v4 (nbS (κ 0 11) (κ 0 12) x3 ((bfF (κ 0 11) (κ 0 12) x3 (enF (κ 0 11) (κ 0 12) (x1 % 16) (x1 / 16) (R0, fun _ => 0, 0)) v5.toNat).2.1 v5.toNat) (bfF (κ 0 11) (κ 0 12) x3 (enF (κ 0 11) (κ 0 12) (x1 % 16) (x1 / 16) (R0, fun _ => 0, 0)) v5.toNat) (v6).toNat)) → (0 ≤ (bfF (κ 0 11) (κ 0 12) x3 (enF (κ 0 11) (κ 0 12) (x1 % 16) (x1 / 16) (R0, fun _ => 0, 0)) v5.toNat).2.1 v5.toNat ∧ (bfF (κ 0 11) (κ 0 12) x3 (enF (κ 0 11) (κ 0 12) (x1 % 16) (x1 / 16) (R0, fun _ => 0, 0)) v5.toNat).2.1 v5.toNat ≤ 255) → (h 26 v5.toNat = (bfF (κ 0 11) (κ 0 12) x3 (enF (κ 0 11) (κ 0 12) (x1 % 16) (x1 / 16) (R0, fun _ => 0, 0)) v5.toNat).2.1 v5.toNat) → (v5 < (bfF (κ 0 11) (κ 0 12) x3 (enF (κ 0 11) (κ 0 12) (x1 % 16) (x1 / 16) (R0, fun _ => 0, 0)) v5.toNat).2.2) → (∀ q : Nat, q < 256 → 0 ≤ h 24 q ∧ h 24 q ≤ 1) → (Fw [25, 26] [] gh0 h) → 1886787540 + 82170 * (256 - v5) + 74866 + 83 * (9 - v6) + 82 < (N : Int) → zV G mX12_spreads (q_X12_spreadsZ b κ x1 x2 x3 R0 gh0) 30 [some (.inr (.inr 0)), some (.inl x1), some (.inl x2), some (.inl x3), some (.inl v4), some (.inl v5), some (.inl v6), none, none, none, none, none] [] h) := by
    intro N
    induction N with
    | zero =>
      refine ⟨?_, ?_⟩
      · intro v4 v5 h hF g0 g1 gc0 gc1 hf01 hgh hm
        exfalso; omega
      · intro v4 v5 v6 h hF g0 g1 g2 gc0 gc1 gc2 gc3 gc4 gc5 hf01 hgh hm
        exfalso; omega
    | succ N ih =>
      obtain ⟨k20, k30⟩ := ih
      refine ⟨?_, ?_⟩
      · intro v4 v5 h hF g0 g1 gc0 gc1 hf01 hgh hm
        refine zW_iload (pc' := 22) dX12_spreads_0.2.2.2.1 rfl rfl ?_
        refine zW_iload (pc' := 24) dX12_spreads_0.2.2.2.2 rfl rfl ?_
        refine zV_cm_ge (tgt := 180) (pc' := 27) dX12_spreads_1.1.1.1.1 rfl rfl ⟨by omega, by omega⟩ ⟨by omega, by omega⟩ (fun c24 => ?_) (fun c24 => ?_)
        · refine zW_iload (pc' := 182) dX12_spreads_6.2.1.2 rfl rfl ?_
          exact zV_iret rfl dX12_spreads_6.2.2 ⟨hF, ⟨hgh, (by have e := bfF_full (W := κ 0 11) (H := κ 0 12) (a := x3) (S := (enF (κ 0 11) (κ 0 12) (x1 % 16) (x1 / 16) (R0, fun _ => 0, 0))) (i := v5) (by omega) (by omega) (by have z := gc1.2.1; omega); refine ⟨by omega, by omega, ?_, ?_⟩; (unfold S0F; rw [e]; exact gc1.1); (unfold S0F; rw [e]; exact gc1.2.1))⟩⟩
        · have eq0 := gc1.2.2.1 v5.toNat (by omega)
          have eqn := gc1.2.1
          refine zW_iconst (pc' := 28) dX12_spreads_1.1.1.1.2 rfl ?_
          refine zW_istore (ls' := [_, _, _, _, _, _, _, _, _, _, _, _]) (pc' := 30) dX12_spreads_1.1.1.2.1 (by decide) rfl rfl rfl ?_
          exact k30 _ _ _ _ hF (by omega) (by omega) (by omega) (by omega) (by omega) (by first | exact o2 | exact gc1) (by first | exact gc3 | omega) (by first | exact gc4 | exact (k161.2.2.2.2 v5.toNat (by omega)).trans qv | exact eq0.1) (by first | exact gc5 | omega) hf01 hgh (by omega)
      · intro v4 v5 v6 h hF g0 g1 g2 gc0 gc1 gc2 gc3 gc4 gc5 hf01 hgh hm
        refine zW_iload (pc' := 32) dX12_spreads_1.1.1.2.2 rfl rfl ?_
        refine zW_bipush (pc' := 34) dX12_spreads_1.1.2.1.1 rfl rfl ?_
        refine zV_cm_ge (tgt := 174) (pc' := 37) dX12_spreads_1.1.2.1.2 rfl rfl ⟨by omega, by omega⟩ ⟨by omega, by omega⟩ (fun c34 => ?_) (fun c34 => ?_)
        · have sb := bfF_s (W := κ 0 11) (H := κ 0 12) (a := x3) (S := (enF (κ 0 11) (κ 0 12) (x1 % 16) (x1 / 16) (R0, fun _ => 0, 0))) (i := v5) (by omega) (by omega)
          refine zW_iinc (ls' := [_, _, _, _, _, _, _, _, _, _, _, _]) (pc' := 177) dX12_spreads_6.1.2 rfl (by decide) rfl rfl rfl ?_
          refine zV_goto 20 dX12_spreads_6.2.1.1 rfl ?_
          refine zV_clr 6 (ls' := [_, _, _, _, _, _, _, _, _, _, _, _]) rfl ?_
          exact k20 _ _ _ hF (by omega) (by omega) (by omega) (by first | exact st0 | (rw [sb]; rw [show v6.toNat = 9 by omega] at gc2; exact gc2)) hf01 hgh (by omega)
        · have ej1 : v6 % 3 = v6 - 3 * (v6 / 3) := by omega
          refine zW_iload (pc' := 39) dX12_spreads_1.1.2.2.1 rfl rfl ?_
          refine zW_iconst (pc' := 40) dX12_spreads_1.1.2.2.2 rfl ?_
          refine zW_irem (pc' := 41) (by omega) (by omega) dX12_spreads_1.2.1.1.1 rfl ?_
          refine zW_iconst (pc' := 42) dX12_spreads_1.2.1.1.2 rfl ?_
          refine zW_isub (pc' := 43) dX12_spreads_1.2.1.2.1 rfl ?_
          refine zW_istore (ls' := [_, _, _, _, _, _, _, _, _, _, _, _]) (pc' := 45) dX12_spreads_1.2.1.2.2 (by decide) rfl rfl rfl ?_
          refine zW_iload (pc' := 47) dX12_spreads_1.2.2.1.1 rfl rfl ?_
          refine zW_iconst (pc' := 48) dX12_spreads_1.2.2.1.2 rfl ?_
          refine zW_idiv (pc' := 49) (by omega) (by omega) dX12_spreads_1.2.2.2.1 rfl ?_
          refine zW_iconst (pc' := 50) dX12_spreads_1.2.2.2.2 rfl ?_
          refine zW_isub (pc' := 51) dX12_spreads_2.1.1.1.1 rfl ?_
          refine zW_istore (ls' := [_, _, _, _, _, _, _, _, _, _, _, _]) (pc' := 53) dX12_spreads_2.1.1.1.2 (by decide) rfl rfl rfl ?_
          refine zW_aload_n (pc' := 54) dX12_spreads_2.1.1.2.1 rfl rfl ?_
          refine zG_ref (pc' := 57) 26 fg_X12_87 tb0 rfl dX12_spreads_2.1.1.2.2 rfl ?_
          refine zW_iload (pc' := 59) dX12_spreads_2.1.2.1.1 rfl rfl ?_
          refine zV_ialdI (pc' := 60) hF (by decide) (by decide) tb26 (by omega) dX12_spreads_2.1.2.1.2 (by decide) rfl (fun e59 => ?_)
          have b59 : 0 ≤ h 26 v5.toNat ∧ h 26 v5.toNat ≤ 255 := by rw [gc4]; exact gc3
          refine zW_bipush (pc' := 62) dX12_spreads_2.1.2.2.1 rfl rfl ?_
          refine zW_irem (pc' := 63) (by omega) (by omega) dX12_spreads_2.1.2.2.2 rfl ?_
          refine zW_iload (pc' := 65) dX12_spreads_2.2.1.1.1 rfl rfl ?_
          refine zW_iadd (pc' := 66) dX12_spreads_2.2.1.1.2 rfl ?_
          refine zW_istore (ls' := [_, _, _, _, _, _, _, _, _, _, _, _]) (pc' := 68) dX12_spreads_2.2.1.2.1 (by decide) rfl rfl rfl ?_
          refine zW_aload_n (pc' := 69) dX12_spreads_2.2.1.2.2 rfl rfl ?_
          refine zG_ref (pc' := 72) 26 fg_X12_87 tb0 rfl dX12_spreads_2.2.2.1.1 rfl ?_
          refine zW_iload (pc' := 74) dX12_spreads_2.2.2.1.2 rfl rfl ?_
          refine zV_ialdI (pc' := 75) hF (by decide) (by decide) tb26 (by omega) dX12_spreads_2.2.2.2.1 (by decide) rfl (fun e74 => ?_)
          have b74 : 0 ≤ h 26 v5.toNat ∧ h 26 v5.toNat ≤ 255 := by rw [gc4]; exact gc3
          refine zW_bipush (pc' := 77) dX12_spreads_2.2.2.2.2 rfl rfl ?_
          refine zW_idiv (pc' := 78) (by omega) (by omega) dX12_spreads_3.1.1.1.1 rfl ?_
          refine zW_iload (pc' := 80) dX12_spreads_3.1.1.1.2 rfl rfl ?_
          refine zW_iadd (pc' := 81) dX12_spreads_3.1.1.2.1 rfl ?_
          refine zW_istore (ls' := [_, _, _, _, _, _, _, _, _, _, _, _]) (pc' := 83) dX12_spreads_3.1.1.2.2 (by decide) rfl rfl rfl ?_
          refine zW_aload_n (pc' := 84) dX12_spreads_3.1.2.1.1 rfl rfl ?_
          refine zW_iload (pc' := 86) dX12_spreads_3.1.2.1.2 rfl rfl ?_
          refine zW_iload (pc' := 88) dX12_spreads_3.1.2.2.1 rfl rfl ?_
          refine cvI2 (pc' := 91) kX12_isSquare vX12_isSquare lk_X12_218 ⟨Nat.le_of_ble_eq_true rfl, Nat.le_of_ble_eq_true rfl⟩ tb0 vq12 rfl rfl (s_X12_isSquare hK hF _ ⟨by omega, by omega⟩ _ ⟨by omega, by omega⟩) dX12_spreads_3.1.2.2.2 (Nat.le_of_ble_eq_true rfl) rfl ?_
          rintro r88 z88 ⟨hz88, p88⟩; subst z88
          refine zV_if_eq (tgt := 168) (pc' := 94) dX12_spreads_3.2.1.1.1 rfl rfl ⟨by omega, by omega⟩ (fun c91 => ?_) (fun c91 => ?_)
          · have sj := nbS_s (W := κ 0 11) (H := κ 0 12) (a := x3) (p := (bfF (κ 0 11) (κ 0 12) x3 (enF (κ 0 11) (κ 0 12) (x1 % 16) (x1 / 16) (R0, fun _ => 0, 0)) v5.toNat).2.1 v5.toNat) (S := (bfF (κ 0 11) (κ 0 12) x3 (enF (κ 0 11) (κ 0 12) (x1 % 16) (x1 / 16) (R0, fun _ => 0, 0)) v5.toNat)) (j := v6) (by omega)
            first | (have o2 : StE (κ 0 11) (κ 0 12) (rsF (h 24) (h 25)) (h 26) (v4 + 1) (nbS (κ 0 11) (κ 0 12) x3 ((bfF (κ 0 11) (κ 0 12) x3 (enF (κ 0 11) (κ 0 12) (x1 % 16) (x1 / 16) (R0, fun _ => 0, 0)) v5.toNat).2.1 v5.toNat) (bfF (κ 0 11) (κ 0 12) x3 (enF (κ 0 11) (κ 0 12) (x1 % 16) (x1 / 16) (R0, fun _ => 0, 0)) v5.toNat) (v6 + 1).toNat) := by (rw [sj, nb1_y (dx := v6 % 3 - 1) (dy := v6 / 3 - 1) (x := (hb_ 26 v5.toNat % 16 + (v6 % 3 - 1))) (y := (hb_ 26 v5.toNat / 16 + (v6 / 3 - 1))) (by omega) (by omega) (by omega) (by omega) (by omega) (by omega)]; refine stb.en (by omega) (by omega) hpx hv4 (by rw [← hix2]; exact h1x) (by rw [← hix2]; exact rsF_0 (Or.inr (by rw [k161.1]; omega))) (fun i i1 i2 => by rw [← hix2] at i2; unfold rsF; rw [k161.2.1 i i2, k161.2.2.1]) (by rw [← hix2]; exact k161.2.2.2.1) k161.2.2.2.2)) | (have o2 : StE (κ 0 11) (κ 0 12) (rsF (h 24) (h 25)) (h 26) v4 (nbS (κ 0 11) (κ 0 12) x3 ((bfF (κ 0 11) (κ 0 12) x3 (enF (κ 0 11) (κ 0 12) (x1 % 16) (x1 / 16) (R0, fun _ => 0, 0)) v5.toNat).2.1 v5.toNat) (bfF (κ 0 11) (κ 0 12) x3 (enF (κ 0 11) (κ 0 12) (x1 % 16) (x1 / 16) (R0, fun _ => 0, 0)) v5.toNat) (v6 + 1).toNat) := by (rw [sj]; exact gc2.nn (dx := v6 % 3 - 1) (dy := v6 / 3 - 1) (x := (h 26 v5.toNat % 16 + (v6 % 3 - 1))) (y := (h 26 v5.toNat / 16 + (v6 / 3 - 1))) (by omega) (by omega) (by omega) (by omega) (by omega) (fun q => by obtain ⟨c, ⟨q1, q2, q3, q4⟩, q5, q6⟩ := q; have z := rsF_c q6; omega)))
            refine zW_iinc (ls' := [_, _, _, _, _, _, _, _, _, _, _, _]) (pc' := 171) dX12_spreads_6.1.1.1 rfl (by decide) rfl rfl rfl ?_
            refine zV_goto 30 dX12_spreads_6.1.1.2 rfl ?_
            refine zV_clr 7 (ls' := [_, _, _, _, _, _, _, _, _, _, _, _]) rfl ?_
            refine zV_clr 8 (ls' := [_, _, _, _, _, _, _, _, _, _, _, _]) rfl ?_
            refine zV_clr 9 (ls' := [_, _, _, _, _, _, _, _, _, _, _, _]) rfl ?_
            refine zV_clr 10 (ls' := [_, _, _, _, _, _, _, _, _, _, _, _]) rfl ?_
            exact k30 _ _ _ _ hF (by omega) (by omega) (by omega) (by omega) (by omega) (by first | exact o2 | exact gc1) (by first | exact gc3 | omega) (by first | exact gc4 | exact (k161.2.2.2.2 v5.toNat (by omega)).trans qv | exact eq0.1) (by first | exact gc5 | omega) hf01 hgh (by omega)
          · refine zW_iload_n (pc' := 95) dX12_spreads_3.2.1.1.2 rfl rfl ?_
            refine zV_if_ne (tgt := 111) (pc' := 98) dX12_spreads_3.2.1.2.1 rfl rfl ⟨by omega, by omega⟩ (fun c95 => ?_) (fun c95 => ?_)
            · refine zW_bipush (pc' := 113) dX12_spreads_4.1.1.1.1 rfl rfl ?_
              refine zW_iload (pc' := 115) dX12_spreads_4.1.1.1.2 rfl rfl ?_
              refine zW_imul (pc' := 116) dX12_spreads_4.1.1.2.1 rfl ?_
              refine zW_iload (pc' := 118) dX12_spreads_4.1.1.2.2 rfl rfl ?_
              refine zW_iadd (pc' := 119) dX12_spreads_4.1.2.1.1 rfl ?_
              refine zW_istore (ls' := [_, _, _, _, _, _, _, _, _, _, _, _]) (pc' := 121) dX12_spreads_4.1.2.1.2 (by decide) rfl rfl rfl ?_
              refine zW_aload_n (pc' := 122) dX12_spreads_4.1.2.2.1 rfl rfl ?_
              refine zG_ref (pc' := 125) 24 fg_X12_81 tb0 rfl dX12_spreads_4.1.2.2.2 rfl ?_
              refine zW_iload (pc' := 127) dX12_spreads_4.2.1.1.1 rfl rfl ?_
              refine zV_zald (pc' := 128) tb24 (by omega) dX12_spreads_4.2.1.1.2 (by decide) rfl ?_
              have b127 := hf01 (16 * (h 26 v5.toNat / 16 + (v6 / 3 - 1)) + (h 26 v5.toNat % 16 + (v6 % 3 - 1))).toNat (by omega)
              refine zV_if_eq (tgt := 168) (pc' := 131) dX12_spreads_4.2.1.2.1 rfl rfl ⟨by omega, by omega⟩ (fun c128 => ?_) (fun c128 => ?_)
              · have sj := nbS_s (W := κ 0 11) (H := κ 0 12) (a := x3) (p := (bfF (κ 0 11) (κ 0 12) x3 (enF (κ 0 11) (κ 0 12) (x1 % 16) (x1 / 16) (R0, fun _ => 0, 0)) v5.toNat).2.1 v5.toNat) (S := (bfF (κ 0 11) (κ 0 12) x3 (enF (κ 0 11) (κ 0 12) (x1 % 16) (x1 / 16) (R0, fun _ => 0, 0)) v5.toNat)) (j := v6) (by omega)
                first | (have o2 : StE (κ 0 11) (κ 0 12) (rsF (h 24) (h 25)) (h 26) (v4 + 1) (nbS (κ 0 11) (κ 0 12) x3 ((bfF (κ 0 11) (κ 0 12) x3 (enF (κ 0 11) (κ 0 12) (x1 % 16) (x1 / 16) (R0, fun _ => 0, 0)) v5.toNat).2.1 v5.toNat) (bfF (κ 0 11) (κ 0 12) x3 (enF (κ 0 11) (κ 0 12) (x1 % 16) (x1 / 16) (R0, fun _ => 0, 0)) v5.toNat) (v6 + 1).toNat) := by (rw [sj, nb1_y (dx := v6 % 3 - 1) (dy := v6 / 3 - 1) (x := (hb_ 26 v5.toNat % 16 + (v6 % 3 - 1))) (y := (hb_ 26 v5.toNat / 16 + (v6 / 3 - 1))) (by omega) (by omega) (by omega) (by omega) (by omega) (by omega)]; refine stb.en (by omega) (by omega) hpx hv4 (by rw [← hix2]; exact h1x) (by rw [← hix2]; exact rsF_0 (Or.inr (by rw [k161.1]; omega))) (fun i i1 i2 => by rw [← hix2] at i2; unfold rsF; rw [k161.2.1 i i2, k161.2.2.1]) (by rw [← hix2]; exact k161.2.2.2.1) k161.2.2.2.2)) | (have o2 : StE (κ 0 11) (κ 0 12) (rsF (h 24) (h 25)) (h 26) v4 (nbS (κ 0 11) (κ 0 12) x3 ((bfF (κ 0 11) (κ 0 12) x3 (enF (κ 0 11) (κ 0 12) (x1 % 16) (x1 / 16) (R0, fun _ => 0, 0)) v5.toNat).2.1 v5.toNat) (bfF (κ 0 11) (κ 0 12) x3 (enF (κ 0 11) (κ 0 12) (x1 % 16) (x1 / 16) (R0, fun _ => 0, 0)) v5.toNat) (v6 + 1).toNat) := by (rw [sj]; exact gc2.nn (dx := v6 % 3 - 1) (dy := v6 / 3 - 1) (x := (h 26 v5.toNat % 16 + (v6 % 3 - 1))) (y := (h 26 v5.toNat / 16 + (v6 / 3 - 1))) (by omega) (by omega) (by omega) (by omega) (by omega) (fun q => by obtain ⟨c, ⟨q1, q2, q3, q4⟩, q5, q6⟩ := q; have z := rsF_c q6; omega)))
                refine zW_iinc (ls' := [_, _, _, _, _, _, _, _, _, _, _, _]) (pc' := 171) dX12_spreads_6.1.1.1 rfl (by decide) rfl rfl rfl ?_
                refine zV_goto 30 dX12_spreads_6.1.1.2 rfl ?_
                refine zV_clr 7 (ls' := [_, _, _, _, _, _, _, _, _, _, _, _]) rfl ?_
                refine zV_clr 8 (ls' := [_, _, _, _, _, _, _, _, _, _, _, _]) rfl ?_
                refine zV_clr 9 (ls' := [_, _, _, _, _, _, _, _, _, _, _, _]) rfl ?_
                refine zV_clr 10 (ls' := [_, _, _, _, _, _, _, _, _, _, _, _]) rfl ?_
                refine zV_clr 11 (ls' := [_, _, _, _, _, _, _, _, _, _, _, _]) rfl ?_
                exact k30 _ _ _ _ hF (by omega) (by omega) (by omega) (by omega) (by omega) (by first | exact o2 | exact gc1) (by first | exact gc3 | omega) (by first | exact gc4 | exact (k161.2.2.2.2 v5.toNat (by omega)).trans qv | exact eq0.1) (by first | exact gc5 | omega) hf01 hgh (by omega)
              · refine zW_aload_n (pc' := 132) dX12_spreads_4.2.1.2.2 rfl rfl ?_
                refine zG_ref (pc' := 135) 25 fg_X12_84 tb0 rfl dX12_spreads_4.2.2.1.1 rfl ?_
                refine zW_iload (pc' := 137) dX12_spreads_4.2.2.1.2 rfl rfl ?_
                refine zV_ialdI (pc' := 138) hF (by decide) (by decide) tb25 (by omega) dX12_spreads_4.2.2.2.1 (by decide) rfl (fun e137 => ?_)
                refine zW_iconst (pc' := 139) dX12_spreads_4.2.2.2.2 rfl ?_
                refine zV_cm_eq (tgt := 145) (pc' := 142) dX12_spreads_5.1.1.1.1 rfl rfl ⟨by omega, by omega⟩ ⟨by omega, by omega⟩ (fun c139 => ?_) (fun c139 => ?_)
                · have hq1 : cntN (h 25) 256 < 256 := cntN_lt (by omega) c139
                  have hv4 : v4 < 256 := by omega
                  obtain ⟨hb_, hbe⟩ : ∃ z : Hp, z = h := ⟨_, rfl⟩
                  obtain ⟨ix, hix⟩ : ∃ z : Int, z = 16 * (h 26 v5.toNat / 16 + (v6 / 3 - 1)) + (h 26 v5.toNat % 16 + (v6 % 3 - 1)) := ⟨_, rfl⟩
                  have hix2 : ix = 16 * (hb_ 26 v5.toNat / 16 + (v6 / 3 - 1)) + (hb_ 26 v5.toNat % 16 + (v6 % 3 - 1)) := by rw [hix, hbe]
                  have qv : hb_ 26 v5.toNat = (bfF (κ 0 11) (κ 0 12) x3 (enF (κ 0 11) (κ 0 12) (x1 % 16) (x1 / 16) (R0, fun _ => 0, 0)) v5.toNat).2.1 v5.toNat := by rw [hbe]; exact gc4
                  have stb : StE (κ 0 11) (κ 0 12) (rsF (hb_ 24) (hb_ 25)) (hb_ 26) v4 (nbS (κ 0 11) (κ 0 12) x3 ((bfF (κ 0 11) (κ 0 12) x3 (enF (κ 0 11) (κ 0 12) (x1 % 16) (x1 / 16) (R0, fun _ => 0, 0)) v5.toNat).2.1 v5.toNat) (bfF (κ 0 11) (κ 0 12) x3 (enF (κ 0 11) (κ 0 12) (x1 % 16) (x1 / 16) (R0, fun _ => 0, 0)) v5.toNat) (v6).toNat) := by rw [hbe]; exact gc2
                  have hpx : inP (κ 0 11) (κ 0 12) (hb_ 26 v5.toNat % 16 + (v6 % 3 - 1)) (hb_ 26 v5.toNat / 16 + (v6 / 3 - 1)) := by rw [hbe]; exact ⟨by omega, by omega, by omega, by omega⟩
                  have h1x : rsF (hb_ 24) (hb_ 25) ix.toNat = 1 := by rw [hix, hbe]; exact rsF_1 (by omega) (by omega)
                  refine zW_aload_n (pc' := 146) dX12_spreads_5.1.1.2.1 rfl rfl ?_
                  refine zG_ref (pc' := 149) 25 fg_X12_84 tb0 rfl dX12_spreads_5.1.1.2.2 rfl ?_
                  refine zW_iload (pc' := 151) dX12_spreads_5.1.2.1.1 rfl rfl ?_
                  refine zW_iload_n (pc' := 152) dX12_spreads_5.1.2.1.2 rfl rfl ?_
                  obtain ⟨ye, hye⟩ : ∃ z : Hp, z = h := ⟨_, rfl⟩
                  refine zS_i (pc' := 153) hF sr25 tb25 (by omega) dX12_spreads_5.1.2.2.1 (by decide) rfl (fun h i152 hF a152 b152 w152 => ?_)
                  replace b152 := b152 ⟨by omega, by omega⟩
                  replace hgh : Fw [25, 26] [] gh0 h := by rw [w152]; exact hgh.wc (by simp)
                  replace hf01 : ∀ q : Nat, q < 256 → 0 ≤ h 24 q ∧ h 24 q ≤ 1 := by have q0_ := (congrFun w152 24).trans (zfun (by decide)); rw [q0_]; exact hf01
                  have z152 : cntN (h 25) 256 = cntN (ye 25) 256 + 1 := by rw [w152, b152, hye]; exact cntN_set (by omega) c139 (by omega)
                  rw [hye] at z152
                  have k152 : h 25 ix.toNat = x2 ∧ (∀ i : Nat, i ≠ ix.toNat → h 25 i = hb_ 25 i) ∧ h 24 = hb_ 24 ∧ h 26 = hb_ 26 := by rw [w152, hix, hbe]; exact ⟨zwr_eq.trans b152, fun i hi => zwr_ne (Or.inr hi), zfun (by decide), zfun (by decide)⟩
                  refine zW_aload_n (pc' := 154) dX12_spreads_5.1.2.2.2 rfl rfl ?_
                  refine zG_ref (pc' := 157) 26 fg_X12_87 tb0 rfl dX12_spreads_5.2.1.1.1 rfl ?_
                  refine zW_iload (pc' := 159) dX12_spreads_5.2.1.1.2 rfl rfl ?_
                  refine zW_iload (pc' := 161) dX12_spreads_5.2.1.2.1 rfl rfl ?_
                  obtain ⟨yf, hyf⟩ : ∃ z : Hp, z = h := ⟨_, rfl⟩
                  refine zS_i (pc' := 162) hF sr26 tb26 (by omega) dX12_spreads_5.2.1.2.2 (by decide) rfl (fun h i161 hF a161 b161 w161 => ?_)
                  replace b161 := b161 ⟨by omega, by omega⟩
                  replace hgh : Fw [25, 26] [] gh0 h := by rw [w161]; exact hgh.wc (by simp)
                  replace hf01 : ∀ q : Nat, q < 256 → 0 ≤ h 24 q ∧ h 24 q ≤ 1 := by have q0_ := (congrFun w161 24).trans (zfun (by decide)); rw [q0_]; exact hf01
                  have z161 : cntN (h 25) 256 = cntN (yf 25) 256 := by rw [w161, hyf]; exact cntN_oth (by decide)
                  rw [hyf] at z161
                  have k161 : h 25 ix.toNat = x2 ∧ (∀ i : Nat, i ≠ ix.toNat → h 25 i = hb_ 25 i) ∧ h 24 = hb_ 24 ∧ h 26 v4.toNat = ix ∧ (∀ i : Nat, (i : Int) < v4 → h 26 i = hb_ 26 i) := by rw [w161, zfun (by decide), zfun (by decide)]; exact ⟨k152.1, k152.2.1, k152.2.2.1, zwr_eq.trans (by rw [b161, hix]), fun i hi => (zwr_ne (Or.inr (by omega))).trans (congrFun k152.2.2.2 i)⟩
                  refine zW_iload (pc' := 164) dX12_spreads_5.2.2.1.1 rfl rfl ?_
                  refine zW_iconst (pc' := 165) dX12_spreads_5.2.2.1.2 rfl ?_
                  refine zW_iadd (pc' := 166) dX12_spreads_5.2.2.2.1 rfl ?_
                  refine zW_istore (ls' := [_, _, _, _, _, _, _, _, _, _, _, _]) (pc' := 168) dX12_spreads_5.2.2.2.2 (by decide) rfl rfl rfl ?_
                  have sj := nbS_s (W := κ 0 11) (H := κ 0 12) (a := x3) (p := (bfF (κ 0 11) (κ 0 12) x3 (enF (κ 0 11) (κ 0 12) (x1 % 16) (x1 / 16) (R0, fun _ => 0, 0)) v5.toNat).2.1 v5.toNat) (S := (bfF (κ 0 11) (κ 0 12) x3 (enF (κ 0 11) (κ 0 12) (x1 % 16) (x1 / 16) (R0, fun _ => 0, 0)) v5.toNat)) (j := v6) (by omega)
                  first | (have o2 : StE (κ 0 11) (κ 0 12) (rsF (h 24) (h 25)) (h 26) (v4 + 1) (nbS (κ 0 11) (κ 0 12) x3 ((bfF (κ 0 11) (κ 0 12) x3 (enF (κ 0 11) (κ 0 12) (x1 % 16) (x1 / 16) (R0, fun _ => 0, 0)) v5.toNat).2.1 v5.toNat) (bfF (κ 0 11) (κ 0 12) x3 (enF (κ 0 11) (κ 0 12) (x1 % 16) (x1 / 16) (R0, fun _ => 0, 0)) v5.toNat) (v6 + 1).toNat) := by (rw [sj, nb1_y (dx := v6 % 3 - 1) (dy := v6 / 3 - 1) (x := (hb_ 26 v5.toNat % 16 + (v6 % 3 - 1))) (y := (hb_ 26 v5.toNat / 16 + (v6 / 3 - 1))) (by omega) (by omega) (by omega) (by omega) (by omega) (by omega)]; refine stb.en (by omega) (by omega) hpx hv4 (by rw [← hix2]; exact h1x) (by rw [← hix2]; exact rsF_0 (Or.inr (by rw [k161.1]; omega))) (fun i i1 i2 => by rw [← hix2] at i2; unfold rsF; rw [k161.2.1 i i2, k161.2.2.1]) (by rw [← hix2]; exact k161.2.2.2.1) k161.2.2.2.2)) | (have o2 : StE (κ 0 11) (κ 0 12) (rsF (h 24) (h 25)) (h 26) v4 (nbS (κ 0 11) (κ 0 12) x3 ((bfF (κ 0 11) (κ 0 12) x3 (enF (κ 0 11) (κ 0 12) (x1 % 16) (x1 / 16) (R0, fun _ => 0, 0)) v5.toNat).2.1 v5.toNat) (bfF (κ 0 11) (κ 0 12) x3 (enF (κ 0 11) (κ 0 12) (x1 % 16) (x1 / 16) (R0, fun _ => 0, 0)) v5.toNat) (v6 + 1).toNat) := by (rw [sj]; exact gc2.nn (dx := v6 % 3 - 1) (dy := v6 / 3 - 1) (x := (h 26 v5.toNat % 16 + (v6 % 3 - 1))) (y := (h 26 v5.toNat / 16 + (v6 / 3 - 1))) (by omega) (by omega) (by omega) (by omega) (by omega) (fun q => by obtain ⟨c, ⟨q1, q2, q3, q4⟩, q5, q6⟩ := q; have z := rsF_c q6; omega)))
                  refine zW_iinc (ls' := [_, _, _, _, _, _, _, _, _, _, _, _]) (pc' := 171) dX12_spreads_6.1.1.1 rfl (by decide) rfl rfl rfl ?_
                  refine zV_goto 30 dX12_spreads_6.1.1.2 rfl ?_
                  refine zV_clr 7 (ls' := [_, _, _, _, _, _, _, _, _, _, _, _]) rfl ?_
                  refine zV_clr 8 (ls' := [_, _, _, _, _, _, _, _, _, _, _, _]) rfl ?_
                  refine zV_clr 9 (ls' := [_, _, _, _, _, _, _, _, _, _, _, _]) rfl ?_
                  refine zV_clr 10 (ls' := [_, _, _, _, _, _, _, _, _, _, _, _]) rfl ?_
                  refine zV_clr 11 (ls' := [_, _, _, _, _, _, _, _, _, _, _, _]) rfl ?_
                  exact k30 _ _ _ _ hF (by omega) (by omega) (by omega) (by omega) (by omega) (by first | exact o2 | exact gc1) (by first | exact gc3 | omega) (by first | exact gc4 | exact (k161.2.2.2.2 v5.toNat (by omega)).trans qv | exact eq0.1) (by first | exact gc5 | omega) hf01 hgh (by omega)
                · refine zV_goto 168 dX12_spreads_5.1.1.1.2 rfl ?_
                  have sj := nbS_s (W := κ 0 11) (H := κ 0 12) (a := x3) (p := (bfF (κ 0 11) (κ 0 12) x3 (enF (κ 0 11) (κ 0 12) (x1 % 16) (x1 / 16) (R0, fun _ => 0, 0)) v5.toNat).2.1 v5.toNat) (S := (bfF (κ 0 11) (κ 0 12) x3 (enF (κ 0 11) (κ 0 12) (x1 % 16) (x1 / 16) (R0, fun _ => 0, 0)) v5.toNat)) (j := v6) (by omega)
                  first | (have o2 : StE (κ 0 11) (κ 0 12) (rsF (h 24) (h 25)) (h 26) (v4 + 1) (nbS (κ 0 11) (κ 0 12) x3 ((bfF (κ 0 11) (κ 0 12) x3 (enF (κ 0 11) (κ 0 12) (x1 % 16) (x1 / 16) (R0, fun _ => 0, 0)) v5.toNat).2.1 v5.toNat) (bfF (κ 0 11) (κ 0 12) x3 (enF (κ 0 11) (κ 0 12) (x1 % 16) (x1 / 16) (R0, fun _ => 0, 0)) v5.toNat) (v6 + 1).toNat) := by (rw [sj, nb1_y (dx := v6 % 3 - 1) (dy := v6 / 3 - 1) (x := (hb_ 26 v5.toNat % 16 + (v6 % 3 - 1))) (y := (hb_ 26 v5.toNat / 16 + (v6 / 3 - 1))) (by omega) (by omega) (by omega) (by omega) (by omega) (by omega)]; refine stb.en (by omega) (by omega) hpx hv4 (by rw [← hix2]; exact h1x) (by rw [← hix2]; exact rsF_0 (Or.inr (by rw [k161.1]; omega))) (fun i i1 i2 => by rw [← hix2] at i2; unfold rsF; rw [k161.2.1 i i2, k161.2.2.1]) (by rw [← hix2]; exact k161.2.2.2.1) k161.2.2.2.2)) | (have o2 : StE (κ 0 11) (κ 0 12) (rsF (h 24) (h 25)) (h 26) v4 (nbS (κ 0 11) (κ 0 12) x3 ((bfF (κ 0 11) (κ 0 12) x3 (enF (κ 0 11) (κ 0 12) (x1 % 16) (x1 / 16) (R0, fun _ => 0, 0)) v5.toNat).2.1 v5.toNat) (bfF (κ 0 11) (κ 0 12) x3 (enF (κ 0 11) (κ 0 12) (x1 % 16) (x1 / 16) (R0, fun _ => 0, 0)) v5.toNat) (v6 + 1).toNat) := by (rw [sj]; exact gc2.nn (dx := v6 % 3 - 1) (dy := v6 / 3 - 1) (x := (h 26 v5.toNat % 16 + (v6 % 3 - 1))) (y := (h 26 v5.toNat / 16 + (v6 / 3 - 1))) (by omega) (by omega) (by omega) (by omega) (by omega) (fun q => by obtain ⟨c, ⟨q1, q2, q3, q4⟩, q5, q6⟩ := q; have z := rsF_c q6; omega)))
                  refine zW_iinc (ls' := [_, _, _, _, _, _, _, _, _, _, _, _]) (pc' := 171) dX12_spreads_6.1.1.1 rfl (by decide) rfl rfl rfl ?_
                  refine zV_goto 30 dX12_spreads_6.1.1.2 rfl ?_
                  refine zV_clr 7 (ls' := [_, _, _, _, _, _, _, _, _, _, _, _]) rfl ?_
                  refine zV_clr 8 (ls' := [_, _, _, _, _, _, _, _, _, _, _, _]) rfl ?_
                  refine zV_clr 9 (ls' := [_, _, _, _, _, _, _, _, _, _, _, _]) rfl ?_
                  refine zV_clr 10 (ls' := [_, _, _, _, _, _, _, _, _, _, _, _]) rfl ?_
                  refine zV_clr 11 (ls' := [_, _, _, _, _, _, _, _, _, _, _, _]) rfl ?_
                  exact k30 _ _ _ _ hF (by omega) (by omega) (by omega) (by omega) (by omega) (by first | exact o2 | exact gc1) (by first | exact gc3 | omega) (by first | exact gc4 | exact (k161.2.2.2.2 v5.toNat (by omega)).trans qv | exact eq0.1) (by first | exact gc5 | omega) hf01 hgh (by omega)
            · refine zW_iload (pc' := 100) dX12_spreads_3.2.1.2.2 rfl rfl ?_
              refine zV_if_eq (tgt := 111) (pc' := 103) dX12_spreads_3.2.2.1.1 rfl rfl ⟨by omega, by omega⟩ (fun c100 => ?_) (fun c100 => ?_)
              · refine zW_bipush (pc' := 113) dX12_spreads_4.1.1.1.1 rfl rfl ?_
                refine zW_iload (pc' := 115) dX12_spreads_4.1.1.1.2 rfl rfl ?_
                refine zW_imul (pc' := 116) dX12_spreads_4.1.1.2.1 rfl ?_
                refine zW_iload (pc' := 118) dX12_spreads_4.1.1.2.2 rfl rfl ?_
                refine zW_iadd (pc' := 119) dX12_spreads_4.1.2.1.1 rfl ?_
                refine zW_istore (ls' := [_, _, _, _, _, _, _, _, _, _, _, _]) (pc' := 121) dX12_spreads_4.1.2.1.2 (by decide) rfl rfl rfl ?_
                refine zW_aload_n (pc' := 122) dX12_spreads_4.1.2.2.1 rfl rfl ?_
                refine zG_ref (pc' := 125) 24 fg_X12_81 tb0 rfl dX12_spreads_4.1.2.2.2 rfl ?_
                refine zW_iload (pc' := 127) dX12_spreads_4.2.1.1.1 rfl rfl ?_
                refine zV_zald (pc' := 128) tb24 (by omega) dX12_spreads_4.2.1.1.2 (by decide) rfl ?_
                have b127 := hf01 (16 * (h 26 v5.toNat / 16 + (v6 / 3 - 1)) + (h 26 v5.toNat % 16 + (v6 % 3 - 1))).toNat (by omega)
                refine zV_if_eq (tgt := 168) (pc' := 131) dX12_spreads_4.2.1.2.1 rfl rfl ⟨by omega, by omega⟩ (fun c128 => ?_) (fun c128 => ?_)
                · have sj := nbS_s (W := κ 0 11) (H := κ 0 12) (a := x3) (p := (bfF (κ 0 11) (κ 0 12) x3 (enF (κ 0 11) (κ 0 12) (x1 % 16) (x1 / 16) (R0, fun _ => 0, 0)) v5.toNat).2.1 v5.toNat) (S := (bfF (κ 0 11) (κ 0 12) x3 (enF (κ 0 11) (κ 0 12) (x1 % 16) (x1 / 16) (R0, fun _ => 0, 0)) v5.toNat)) (j := v6) (by omega)
                  first | (have o2 : StE (κ 0 11) (κ 0 12) (rsF (h 24) (h 25)) (h 26) (v4 + 1) (nbS (κ 0 11) (κ 0 12) x3 ((bfF (κ 0 11) (κ 0 12) x3 (enF (κ 0 11) (κ 0 12) (x1 % 16) (x1 / 16) (R0, fun _ => 0, 0)) v5.toNat).2.1 v5.toNat) (bfF (κ 0 11) (κ 0 12) x3 (enF (κ 0 11) (κ 0 12) (x1 % 16) (x1 / 16) (R0, fun _ => 0, 0)) v5.toNat) (v6 + 1).toNat) := by (rw [sj, nb1_y (dx := v6 % 3 - 1) (dy := v6 / 3 - 1) (x := (hb_ 26 v5.toNat % 16 + (v6 % 3 - 1))) (y := (hb_ 26 v5.toNat / 16 + (v6 / 3 - 1))) (by omega) (by omega) (by omega) (by omega) (by omega) (by omega)]; refine stb.en (by omega) (by omega) hpx hv4 (by rw [← hix2]; exact h1x) (by rw [← hix2]; exact rsF_0 (Or.inr (by rw [k161.1]; omega))) (fun i i1 i2 => by rw [← hix2] at i2; unfold rsF; rw [k161.2.1 i i2, k161.2.2.1]) (by rw [← hix2]; exact k161.2.2.2.1) k161.2.2.2.2)) | (have o2 : StE (κ 0 11) (κ 0 12) (rsF (h 24) (h 25)) (h 26) v4 (nbS (κ 0 11) (κ 0 12) x3 ((bfF (κ 0 11) (κ 0 12) x3 (enF (κ 0 11) (κ 0 12) (x1 % 16) (x1 / 16) (R0, fun _ => 0, 0)) v5.toNat).2.1 v5.toNat) (bfF (κ 0 11) (κ 0 12) x3 (enF (κ 0 11) (κ 0 12) (x1 % 16) (x1 / 16) (R0, fun _ => 0, 0)) v5.toNat) (v6 + 1).toNat) := by (rw [sj]; exact gc2.nn (dx := v6 % 3 - 1) (dy := v6 / 3 - 1) (x := (h 26 v5.toNat % 16 + (v6 % 3 - 1))) (y := (h 26 v5.toNat / 16 + (v6 / 3 - 1))) (by omega) (by omega) (by omega) (by omega) (by omega) (fun q => by obtain ⟨c, ⟨q1, q2, q3, q4⟩, q5, q6⟩ := q; have z := rsF_c q6; omega)))
                  refine zW_iinc (ls' := [_, _, _, _, _, _, _, _, _, _, _, _]) (pc' := 171) dX12_spreads_6.1.1.1 rfl (by decide) rfl rfl rfl ?_
                  refine zV_goto 30 dX12_spreads_6.1.1.2 rfl ?_
                  refine zV_clr 7 (ls' := [_, _, _, _, _, _, _, _, _, _, _, _]) rfl ?_
                  refine zV_clr 8 (ls' := [_, _, _, _, _, _, _, _, _, _, _, _]) rfl ?_
                  refine zV_clr 9 (ls' := [_, _, _, _, _, _, _, _, _, _, _, _]) rfl ?_
                  refine zV_clr 10 (ls' := [_, _, _, _, _, _, _, _, _, _, _, _]) rfl ?_
                  refine zV_clr 11 (ls' := [_, _, _, _, _, _, _, _, _, _, _, _]) rfl ?_
                  exact k30 _ _ _ _ hF (by omega) (by omega) (by omega) (by omega) (by omega) (by first | exact o2 | exact gc1) (by first | exact gc3 | omega) (by first | exact gc4 | exact (k161.2.2.2.2 v5.toNat (by omega)).trans qv | exact eq0.1) (by first | exact gc5 | omega) hf01 hgh (by omega)
                · refine zW_aload_n (pc' := 132) dX12_spreads_4.2.1.2.2 rfl rfl ?_
                  refine zG_ref (pc' := 135) 25 fg_X12_84 tb0 rfl dX12_spreads_4.2.2.1.1 rfl ?_
                  refine zW_iload (pc' := 137) dX12_spreads_4.2.2.1.2 rfl rfl ?_
                  refine zV_ialdI (pc' := 138) hF (by decide) (by decide) tb25 (by omega) dX12_spreads_4.2.2.2.1 (by decide) rfl (fun e137 => ?_)
                  refine zW_iconst (pc' := 139) dX12_spreads_4.2.2.2.2 rfl ?_
                  refine zV_cm_eq (tgt := 145) (pc' := 142) dX12_spreads_5.1.1.1.1 rfl rfl ⟨by omega, by omega⟩ ⟨by omega, by omega⟩ (fun c139 => ?_) (fun c139 => ?_)
                  · have hq1 : cntN (h 25) 256 < 256 := cntN_lt (by omega) c139
                    have hv4 : v4 < 256 := by omega
                    obtain ⟨hb_, hbe⟩ : ∃ z : Hp, z = h := ⟨_, rfl⟩
                    obtain ⟨ix, hix⟩ : ∃ z : Int, z = 16 * (h 26 v5.toNat / 16 + (v6 / 3 - 1)) + (h 26 v5.toNat % 16 + (v6 % 3 - 1)) := ⟨_, rfl⟩
                    have hix2 : ix = 16 * (hb_ 26 v5.toNat / 16 + (v6 / 3 - 1)) + (hb_ 26 v5.toNat % 16 + (v6 % 3 - 1)) := by rw [hix, hbe]
                    have qv : hb_ 26 v5.toNat = (bfF (κ 0 11) (κ 0 12) x3 (enF (κ 0 11) (κ 0 12) (x1 % 16) (x1 / 16) (R0, fun _ => 0, 0)) v5.toNat).2.1 v5.toNat := by rw [hbe]; exact gc4
                    have stb : StE (κ 0 11) (κ 0 12) (rsF (hb_ 24) (hb_ 25)) (hb_ 26) v4 (nbS (κ 0 11) (κ 0 12) x3 ((bfF (κ 0 11) (κ 0 12) x3 (enF (κ 0 11) (κ 0 12) (x1 % 16) (x1 / 16) (R0, fun _ => 0, 0)) v5.toNat).2.1 v5.toNat) (bfF (κ 0 11) (κ 0 12) x3 (enF (κ 0 11) (κ 0 12) (x1 % 16) (x1 / 16) (R0, fun _ => 0, 0)) v5.toNat) (v6).toNat) := by rw [hbe]; exact gc2
                    have hpx : inP (κ 0 11) (κ 0 12) (hb_ 26 v5.toNat % 16 + (v6 % 3 - 1)) (hb_ 26 v5.toNat / 16 + (v6 / 3 - 1)) := by rw [hbe]; exact ⟨by omega, by omega, by omega, by omega⟩
                    have h1x : rsF (hb_ 24) (hb_ 25) ix.toNat = 1 := by rw [hix, hbe]; exact rsF_1 (by omega) (by omega)
                    refine zW_aload_n (pc' := 146) dX12_spreads_5.1.1.2.1 rfl rfl ?_
                    refine zG_ref (pc' := 149) 25 fg_X12_84 tb0 rfl dX12_spreads_5.1.1.2.2 rfl ?_
                    refine zW_iload (pc' := 151) dX12_spreads_5.1.2.1.1 rfl rfl ?_
                    refine zW_iload_n (pc' := 152) dX12_spreads_5.1.2.1.2 rfl rfl ?_
                    obtain ⟨ye, hye⟩ : ∃ z : Hp, z = h := ⟨_, rfl⟩
                    refine zS_i (pc' := 153) hF sr25 tb25 (by omega) dX12_spreads_5.1.2.2.1 (by decide) rfl (fun h i152 hF a152 b152 w152 => ?_)
                    replace b152 := b152 ⟨by omega, by omega⟩
                    replace hgh : Fw [25, 26] [] gh0 h := by rw [w152]; exact hgh.wc (by simp)
                    replace hf01 : ∀ q : Nat, q < 256 → 0 ≤ h 24 q ∧ h 24 q ≤ 1 := by have q0_ := (congrFun w152 24).trans (zfun (by decide)); rw [q0_]; exact hf01
                    have z152 : cntN (h 25) 256 = cntN (ye 25) 256 + 1 := by rw [w152, b152, hye]; exact cntN_set (by omega) c139 (by omega)
                    rw [hye] at z152
                    have k152 : h 25 ix.toNat = x2 ∧ (∀ i : Nat, i ≠ ix.toNat → h 25 i = hb_ 25 i) ∧ h 24 = hb_ 24 ∧ h 26 = hb_ 26 := by rw [w152, hix, hbe]; exact ⟨zwr_eq.trans b152, fun i hi => zwr_ne (Or.inr hi), zfun (by decide), zfun (by decide)⟩
                    refine zW_aload_n (pc' := 154) dX12_spreads_5.1.2.2.2 rfl rfl ?_
                    refine zG_ref (pc' := 157) 26 fg_X12_87 tb0 rfl dX12_spreads_5.2.1.1.1 rfl ?_
                    refine zW_iload (pc' := 159) dX12_spreads_5.2.1.1.2 rfl rfl ?_
                    refine zW_iload (pc' := 161) dX12_spreads_5.2.1.2.1 rfl rfl ?_
                    obtain ⟨yf, hyf⟩ : ∃ z : Hp, z = h := ⟨_, rfl⟩
                    refine zS_i (pc' := 162) hF sr26 tb26 (by omega) dX12_spreads_5.2.1.2.2 (by decide) rfl (fun h i161 hF a161 b161 w161 => ?_)
                    replace b161 := b161 ⟨by omega, by omega⟩
                    replace hgh : Fw [25, 26] [] gh0 h := by rw [w161]; exact hgh.wc (by simp)
                    replace hf01 : ∀ q : Nat, q < 256 → 0 ≤ h 24 q ∧ h 24 q ≤ 1 := by have q0_ := (congrFun w161 24).trans (zfun (by decide)); rw [q0_]; exact hf01
                    have z161 : cntN (h 25) 256 = cntN (yf 25) 256 := by rw [w161, hyf]; exact cntN_oth (by decide)
                    rw [hyf] at z161
                    have k161 : h 25 ix.toNat = x2 ∧ (∀ i : Nat, i ≠ ix.toNat → h 25 i = hb_ 25 i) ∧ h 24 = hb_ 24 ∧ h 26 v4.toNat = ix ∧ (∀ i : Nat, (i : Int) < v4 → h 26 i = hb_ 26 i) := by rw [w161, zfun (by decide), zfun (by decide)]; exact ⟨k152.1, k152.2.1, k152.2.2.1, zwr_eq.trans (by rw [b161, hix]), fun i hi => (zwr_ne (Or.inr (by omega))).trans (congrFun k152.2.2.2 i)⟩
                    refine zW_iload (pc' := 164) dX12_spreads_5.2.2.1.1 rfl rfl ?_
                    refine zW_iconst (pc' := 165) dX12_spreads_5.2.2.1.2 rfl ?_
                    refine zW_iadd (pc' := 166) dX12_spreads_5.2.2.2.1 rfl ?_
                    refine zW_istore (ls' := [_, _, _, _, _, _, _, _, _, _, _, _]) (pc' := 168) dX12_spreads_5.2.2.2.2 (by decide) rfl rfl rfl ?_
                    have sj := nbS_s (W := κ 0 11) (H := κ 0 12) (a := x3) (p := (bfF (κ 0 11) (κ 0 12) x3 (enF (κ 0 11) (κ 0 12) (x1 % 16) (x1 / 16) (R0, fun _ => 0, 0)) v5.toNat).2.1 v5.toNat) (S := (bfF (κ 0 11) (κ 0 12) x3 (enF (κ 0 11) (κ 0 12) (x1 % 16) (x1 / 16) (R0, fun _ => 0, 0)) v5.toNat)) (j := v6) (by omega)
                    first | (have o2 : StE (κ 0 11) (κ 0 12) (rsF (h 24) (h 25)) (h 26) (v4 + 1) (nbS (κ 0 11) (κ 0 12) x3 ((bfF (κ 0 11) (κ 0 12) x3 (enF (κ 0 11) (κ 0 12) (x1 % 16) (x1 / 16) (R0, fun _ => 0, 0)) v5.toNat).2.1 v5.toNat) (bfF (κ 0 11) (κ 0 12) x3 (enF (κ 0 11) (κ 0 12) (x1 % 16) (x1 / 16) (R0, fun _ => 0, 0)) v5.toNat) (v6 + 1).toNat) := by (rw [sj, nb1_y (dx := v6 % 3 - 1) (dy := v6 / 3 - 1) (x := (hb_ 26 v5.toNat % 16 + (v6 % 3 - 1))) (y := (hb_ 26 v5.toNat / 16 + (v6 / 3 - 1))) (by omega) (by omega) (by omega) (by omega) (by omega) (by omega)]; refine stb.en (by omega) (by omega) hpx hv4 (by rw [← hix2]; exact h1x) (by rw [← hix2]; exact rsF_0 (Or.inr (by rw [k161.1]; omega))) (fun i i1 i2 => by rw [← hix2] at i2; unfold rsF; rw [k161.2.1 i i2, k161.2.2.1]) (by rw [← hix2]; exact k161.2.2.2.1) k161.2.2.2.2)) | (have o2 : StE (κ 0 11) (κ 0 12) (rsF (h 24) (h 25)) (h 26) v4 (nbS (κ 0 11) (κ 0 12) x3 ((bfF (κ 0 11) (κ 0 12) x3 (enF (κ 0 11) (κ 0 12) (x1 % 16) (x1 / 16) (R0, fun _ => 0, 0)) v5.toNat).2.1 v5.toNat) (bfF (κ 0 11) (κ 0 12) x3 (enF (κ 0 11) (κ 0 12) (x1 % 16) (x1 / 16) (R0, fun _ => 0, 0)) v5.toNat) (v6 + 1).toNat) := by (rw [sj]; exact gc2.nn (dx := v6 % 3 - 1) (dy := v6 / 3 - 1) (x := (h 26 v5.toNat % 16 + (v6 % 3 - 1))) (y := (h 26 v5.toNat / 16 + (v6 / 3 - 1))) (by omega) (by omega) (by omega) (by omega) (by omega) (fun q => by obtain ⟨c, ⟨q1, q2, q3, q4⟩, q5, q6⟩ := q; have z := rsF_c q6; omega)))
                    refine zW_iinc (ls' := [_, _, _, _, _, _, _, _, _, _, _, _]) (pc' := 171) dX12_spreads_6.1.1.1 rfl (by decide) rfl rfl rfl ?_
                    refine zV_goto 30 dX12_spreads_6.1.1.2 rfl ?_
                    refine zV_clr 7 (ls' := [_, _, _, _, _, _, _, _, _, _, _, _]) rfl ?_
                    refine zV_clr 8 (ls' := [_, _, _, _, _, _, _, _, _, _, _, _]) rfl ?_
                    refine zV_clr 9 (ls' := [_, _, _, _, _, _, _, _, _, _, _, _]) rfl ?_
                    refine zV_clr 10 (ls' := [_, _, _, _, _, _, _, _, _, _, _, _]) rfl ?_
                    refine zV_clr 11 (ls' := [_, _, _, _, _, _, _, _, _, _, _, _]) rfl ?_
                    exact k30 _ _ _ _ hF (by omega) (by omega) (by omega) (by omega) (by omega) (by first | exact o2 | exact gc1) (by first | exact gc3 | omega) (by first | exact gc4 | exact (k161.2.2.2.2 v5.toNat (by omega)).trans qv | exact eq0.1) (by first | exact gc5 | omega) hf01 hgh (by omega)
                  · refine zV_goto 168 dX12_spreads_5.1.1.1.2 rfl ?_
                    have sj := nbS_s (W := κ 0 11) (H := κ 0 12) (a := x3) (p := (bfF (κ 0 11) (κ 0 12) x3 (enF (κ 0 11) (κ 0 12) (x1 % 16) (x1 / 16) (R0, fun _ => 0, 0)) v5.toNat).2.1 v5.toNat) (S := (bfF (κ 0 11) (κ 0 12) x3 (enF (κ 0 11) (κ 0 12) (x1 % 16) (x1 / 16) (R0, fun _ => 0, 0)) v5.toNat)) (j := v6) (by omega)
                    first | (have o2 : StE (κ 0 11) (κ 0 12) (rsF (h 24) (h 25)) (h 26) (v4 + 1) (nbS (κ 0 11) (κ 0 12) x3 ((bfF (κ 0 11) (κ 0 12) x3 (enF (κ 0 11) (κ 0 12) (x1 % 16) (x1 / 16) (R0, fun _ => 0, 0)) v5.toNat).2.1 v5.toNat) (bfF (κ 0 11) (κ 0 12) x3 (enF (κ 0 11) (κ 0 12) (x1 % 16) (x1 / 16) (R0, fun _ => 0, 0)) v5.toNat) (v6 + 1).toNat) := by (rw [sj, nb1_y (dx := v6 % 3 - 1) (dy := v6 / 3 - 1) (x := (hb_ 26 v5.toNat % 16 + (v6 % 3 - 1))) (y := (hb_ 26 v5.toNat / 16 + (v6 / 3 - 1))) (by omega) (by omega) (by omega) (by omega) (by omega) (by omega)]; refine stb.en (by omega) (by omega) hpx hv4 (by rw [← hix2]; exact h1x) (by rw [← hix2]; exact rsF_0 (Or.inr (by rw [k161.1]; omega))) (fun i i1 i2 => by rw [← hix2] at i2; unfold rsF; rw [k161.2.1 i i2, k161.2.2.1]) (by rw [← hix2]; exact k161.2.2.2.1) k161.2.2.2.2)) | (have o2 : StE (κ 0 11) (κ 0 12) (rsF (h 24) (h 25)) (h 26) v4 (nbS (κ 0 11) (κ 0 12) x3 ((bfF (κ 0 11) (κ 0 12) x3 (enF (κ 0 11) (κ 0 12) (x1 % 16) (x1 / 16) (R0, fun _ => 0, 0)) v5.toNat).2.1 v5.toNat) (bfF (κ 0 11) (κ 0 12) x3 (enF (κ 0 11) (κ 0 12) (x1 % 16) (x1 / 16) (R0, fun _ => 0, 0)) v5.toNat) (v6 + 1).toNat) := by (rw [sj]; exact gc2.nn (dx := v6 % 3 - 1) (dy := v6 / 3 - 1) (x := (h 26 v5.toNat % 16 + (v6 % 3 - 1))) (y := (h 26 v5.toNat / 16 + (v6 / 3 - 1))) (by omega) (by omega) (by omega) (by omega) (by omega) (fun q => by obtain ⟨c, ⟨q1, q2, q3, q4⟩, q5, q6⟩ := q; have z := rsF_c q6; omega)))
                    refine zW_iinc (ls' := [_, _, _, _, _, _, _, _, _, _, _, _]) (pc' := 171) dX12_spreads_6.1.1.1 rfl (by decide) rfl rfl rfl ?_
                    refine zV_goto 30 dX12_spreads_6.1.1.2 rfl ?_
                    refine zV_clr 7 (ls' := [_, _, _, _, _, _, _, _, _, _, _, _]) rfl ?_
                    refine zV_clr 8 (ls' := [_, _, _, _, _, _, _, _, _, _, _, _]) rfl ?_
                    refine zV_clr 9 (ls' := [_, _, _, _, _, _, _, _, _, _, _, _]) rfl ?_
                    refine zV_clr 10 (ls' := [_, _, _, _, _, _, _, _, _, _, _, _]) rfl ?_
                    refine zV_clr 11 (ls' := [_, _, _, _, _, _, _, _, _, _, _, _]) rfl ?_
                    exact k30 _ _ _ _ hF (by omega) (by omega) (by omega) (by omega) (by omega) (by first | exact o2 | exact gc1) (by first | exact gc3 | omega) (by first | exact gc4 | exact (k161.2.2.2.2 v5.toNat (by omega)).trans qv | exact eq0.1) (by first | exact gc5 | omega) hf01 hgh (by omega)
              · refine zW_iload (pc' := 105) dX12_spreads_3.2.2.1.2 rfl rfl ?_
                refine zV_if_eq (tgt := 111) (pc' := 108) dX12_spreads_3.2.2.2.1 rfl rfl ⟨by omega, by omega⟩ (fun c105 => ?_) (fun c105 => ?_)
                · refine zW_bipush (pc' := 113) dX12_spreads_4.1.1.1.1 rfl rfl ?_
                  refine zW_iload (pc' := 115) dX12_spreads_4.1.1.1.2 rfl rfl ?_
                  refine zW_imul (pc' := 116) dX12_spreads_4.1.1.2.1 rfl ?_
                  refine zW_iload (pc' := 118) dX12_spreads_4.1.1.2.2 rfl rfl ?_
                  refine zW_iadd (pc' := 119) dX12_spreads_4.1.2.1.1 rfl ?_
                  refine zW_istore (ls' := [_, _, _, _, _, _, _, _, _, _, _, _]) (pc' := 121) dX12_spreads_4.1.2.1.2 (by decide) rfl rfl rfl ?_
                  refine zW_aload_n (pc' := 122) dX12_spreads_4.1.2.2.1 rfl rfl ?_
                  refine zG_ref (pc' := 125) 24 fg_X12_81 tb0 rfl dX12_spreads_4.1.2.2.2 rfl ?_
                  refine zW_iload (pc' := 127) dX12_spreads_4.2.1.1.1 rfl rfl ?_
                  refine zV_zald (pc' := 128) tb24 (by omega) dX12_spreads_4.2.1.1.2 (by decide) rfl ?_
                  have b127 := hf01 (16 * (h 26 v5.toNat / 16 + (v6 / 3 - 1)) + (h 26 v5.toNat % 16 + (v6 % 3 - 1))).toNat (by omega)
                  refine zV_if_eq (tgt := 168) (pc' := 131) dX12_spreads_4.2.1.2.1 rfl rfl ⟨by omega, by omega⟩ (fun c128 => ?_) (fun c128 => ?_)
                  · have sj := nbS_s (W := κ 0 11) (H := κ 0 12) (a := x3) (p := (bfF (κ 0 11) (κ 0 12) x3 (enF (κ 0 11) (κ 0 12) (x1 % 16) (x1 / 16) (R0, fun _ => 0, 0)) v5.toNat).2.1 v5.toNat) (S := (bfF (κ 0 11) (κ 0 12) x3 (enF (κ 0 11) (κ 0 12) (x1 % 16) (x1 / 16) (R0, fun _ => 0, 0)) v5.toNat)) (j := v6) (by omega)
                    first | (have o2 : StE (κ 0 11) (κ 0 12) (rsF (h 24) (h 25)) (h 26) (v4 + 1) (nbS (κ 0 11) (κ 0 12) x3 ((bfF (κ 0 11) (κ 0 12) x3 (enF (κ 0 11) (κ 0 12) (x1 % 16) (x1 / 16) (R0, fun _ => 0, 0)) v5.toNat).2.1 v5.toNat) (bfF (κ 0 11) (κ 0 12) x3 (enF (κ 0 11) (κ 0 12) (x1 % 16) (x1 / 16) (R0, fun _ => 0, 0)) v5.toNat) (v6 + 1).toNat) := by (rw [sj, nb1_y (dx := v6 % 3 - 1) (dy := v6 / 3 - 1) (x := (hb_ 26 v5.toNat % 16 + (v6 % 3 - 1))) (y := (hb_ 26 v5.toNat / 16 + (v6 / 3 - 1))) (by omega) (by omega) (by omega) (by omega) (by omega) (by omega)]; refine stb.en (by omega) (by omega) hpx hv4 (by rw [← hix2]; exact h1x) (by rw [← hix2]; exact rsF_0 (Or.inr (by rw [k161.1]; omega))) (fun i i1 i2 => by rw [← hix2] at i2; unfold rsF; rw [k161.2.1 i i2, k161.2.2.1]) (by rw [← hix2]; exact k161.2.2.2.1) k161.2.2.2.2)) | (have o2 : StE (κ 0 11) (κ 0 12) (rsF (h 24) (h 25)) (h 26) v4 (nbS (κ 0 11) (κ 0 12) x3 ((bfF (κ 0 11) (κ 0 12) x3 (enF (κ 0 11) (κ 0 12) (x1 % 16) (x1 / 16) (R0, fun _ => 0, 0)) v5.toNat).2.1 v5.toNat) (bfF (κ 0 11) (κ 0 12) x3 (enF (κ 0 11) (κ 0 12) (x1 % 16) (x1 / 16) (R0, fun _ => 0, 0)) v5.toNat) (v6 + 1).toNat) := by (rw [sj]; exact gc2.nn (dx := v6 % 3 - 1) (dy := v6 / 3 - 1) (x := (h 26 v5.toNat % 16 + (v6 % 3 - 1))) (y := (h 26 v5.toNat / 16 + (v6 / 3 - 1))) (by omega) (by omega) (by omega) (by omega) (by omega) (fun q => by obtain ⟨c, ⟨q1, q2, q3, q4⟩, q5, q6⟩ := q; have z := rsF_c q6; omega)))
                    refine zW_iinc (ls' := [_, _, _, _, _, _, _, _, _, _, _, _]) (pc' := 171) dX12_spreads_6.1.1.1 rfl (by decide) rfl rfl rfl ?_
                    refine zV_goto 30 dX12_spreads_6.1.1.2 rfl ?_
                    refine zV_clr 7 (ls' := [_, _, _, _, _, _, _, _, _, _, _, _]) rfl ?_
                    refine zV_clr 8 (ls' := [_, _, _, _, _, _, _, _, _, _, _, _]) rfl ?_
                    refine zV_clr 9 (ls' := [_, _, _, _, _, _, _, _, _, _, _, _]) rfl ?_
                    refine zV_clr 10 (ls' := [_, _, _, _, _, _, _, _, _, _, _, _]) rfl ?_
                    refine zV_clr 11 (ls' := [_, _, _, _, _, _, _, _, _, _, _, _]) rfl ?_
                    exact k30 _ _ _ _ hF (by omega) (by omega) (by omega) (by omega) (by omega) (by first | exact o2 | exact gc1) (by first | exact gc3 | omega) (by first | exact gc4 | exact (k161.2.2.2.2 v5.toNat (by omega)).trans qv | exact eq0.1) (by first | exact gc5 | omega) hf01 hgh (by omega)
                  · refine zW_aload_n (pc' := 132) dX12_spreads_4.2.1.2.2 rfl rfl ?_
                    refine zG_ref (pc' := 135) 25 fg_X12_84 tb0 rfl dX12_spreads_4.2.2.1.1 rfl ?_
                    refine zW_iload (pc' := 137) dX12_spreads_4.2.2.1.2 rfl rfl ?_
                    refine zV_ialdI (pc' := 138) hF (by decide) (by decide) tb25 (by omega) dX12_spreads_4.2.2.2.1 (by decide) rfl (fun e137 => ?_)
                    refine zW_iconst (pc' := 139) dX12_spreads_4.2.2.2.2 rfl ?_
                    refine zV_cm_eq (tgt := 145) (pc' := 142) dX12_spreads_5.1.1.1.1 rfl rfl ⟨by omega, by omega⟩ ⟨by omega, by omega⟩ (fun c139 => ?_) (fun c139 => ?_)
                    · have hq1 : cntN (h 25) 256 < 256 := cntN_lt (by omega) c139
                      have hv4 : v4 < 256 := by omega
                      obtain ⟨hb_, hbe⟩ : ∃ z : Hp, z = h := ⟨_, rfl⟩
                      obtain ⟨ix, hix⟩ : ∃ z : Int, z = 16 * (h 26 v5.toNat / 16 + (v6 / 3 - 1)) + (h 26 v5.toNat % 16 + (v6 % 3 - 1)) := ⟨_, rfl⟩
                      have hix2 : ix = 16 * (hb_ 26 v5.toNat / 16 + (v6 / 3 - 1)) + (hb_ 26 v5.toNat % 16 + (v6 % 3 - 1)) := by rw [hix, hbe]
                      have qv : hb_ 26 v5.toNat = (bfF (κ 0 11) (κ 0 12) x3 (enF (κ 0 11) (κ 0 12) (x1 % 16) (x1 / 16) (R0, fun _ => 0, 0)) v5.toNat).2.1 v5.toNat := by rw [hbe]; exact gc4
                      have stb : StE (κ 0 11) (κ 0 12) (rsF (hb_ 24) (hb_ 25)) (hb_ 26) v4 (nbS (κ 0 11) (κ 0 12) x3 ((bfF (κ 0 11) (κ 0 12) x3 (enF (κ 0 11) (κ 0 12) (x1 % 16) (x1 / 16) (R0, fun _ => 0, 0)) v5.toNat).2.1 v5.toNat) (bfF (κ 0 11) (κ 0 12) x3 (enF (κ 0 11) (κ 0 12) (x1 % 16) (x1 / 16) (R0, fun _ => 0, 0)) v5.toNat) (v6).toNat) := by rw [hbe]; exact gc2
                      have hpx : inP (κ 0 11) (κ 0 12) (hb_ 26 v5.toNat % 16 + (v6 % 3 - 1)) (hb_ 26 v5.toNat / 16 + (v6 / 3 - 1)) := by rw [hbe]; exact ⟨by omega, by omega, by omega, by omega⟩
                      have h1x : rsF (hb_ 24) (hb_ 25) ix.toNat = 1 := by rw [hix, hbe]; exact rsF_1 (by omega) (by omega)
                      refine zW_aload_n (pc' := 146) dX12_spreads_5.1.1.2.1 rfl rfl ?_
                      refine zG_ref (pc' := 149) 25 fg_X12_84 tb0 rfl dX12_spreads_5.1.1.2.2 rfl ?_
                      refine zW_iload (pc' := 151) dX12_spreads_5.1.2.1.1 rfl rfl ?_
                      refine zW_iload_n (pc' := 152) dX12_spreads_5.1.2.1.2 rfl rfl ?_
                      obtain ⟨ye, hye⟩ : ∃ z : Hp, z = h := ⟨_, rfl⟩
                      refine zS_i (pc' := 153) hF sr25 tb25 (by omega) dX12_spreads_5.1.2.2.1 (by decide) rfl (fun h i152 hF a152 b152 w152 => ?_)
                      replace b152 := b152 ⟨by omega, by omega⟩
                      replace hgh : Fw [25, 26] [] gh0 h := by rw [w152]; exact hgh.wc (by simp)
                      replace hf01 : ∀ q : Nat, q < 256 → 0 ≤ h 24 q ∧ h 24 q ≤ 1 := by have q0_ := (congrFun w152 24).trans (zfun (by decide)); rw [q0_]; exact hf01
                      have z152 : cntN (h 25) 256 = cntN (ye 25) 256 + 1 := by rw [w152, b152, hye]; exact cntN_set (by omega) c139 (by omega)
                      rw [hye] at z152
                      have k152 : h 25 ix.toNat = x2 ∧ (∀ i : Nat, i ≠ ix.toNat → h 25 i = hb_ 25 i) ∧ h 24 = hb_ 24 ∧ h 26 = hb_ 26 := by rw [w152, hix, hbe]; exact ⟨zwr_eq.trans b152, fun i hi => zwr_ne (Or.inr hi), zfun (by decide), zfun (by decide)⟩
                      refine zW_aload_n (pc' := 154) dX12_spreads_5.1.2.2.2 rfl rfl ?_
                      refine zG_ref (pc' := 157) 26 fg_X12_87 tb0 rfl dX12_spreads_5.2.1.1.1 rfl ?_
                      refine zW_iload (pc' := 159) dX12_spreads_5.2.1.1.2 rfl rfl ?_
                      refine zW_iload (pc' := 161) dX12_spreads_5.2.1.2.1 rfl rfl ?_
                      obtain ⟨yf, hyf⟩ : ∃ z : Hp, z = h := ⟨_, rfl⟩
                      refine zS_i (pc' := 162) hF sr26 tb26 (by omega) dX12_spreads_5.2.1.2.2 (by decide) rfl (fun h i161 hF a161 b161 w161 => ?_)
                      replace b161 := b161 ⟨by omega, by omega⟩
                      replace hgh : Fw [25, 26] [] gh0 h := by rw [w161]; exact hgh.wc (by simp)
                      replace hf01 : ∀ q : Nat, q < 256 → 0 ≤ h 24 q ∧ h 24 q ≤ 1 := by have q0_ := (congrFun w161 24).trans (zfun (by decide)); rw [q0_]; exact hf01
                      have z161 : cntN (h 25) 256 = cntN (yf 25) 256 := by rw [w161, hyf]; exact cntN_oth (by decide)
                      rw [hyf] at z161
                      have k161 : h 25 ix.toNat = x2 ∧ (∀ i : Nat, i ≠ ix.toNat → h 25 i = hb_ 25 i) ∧ h 24 = hb_ 24 ∧ h 26 v4.toNat = ix ∧ (∀ i : Nat, (i : Int) < v4 → h 26 i = hb_ 26 i) := by rw [w161, zfun (by decide), zfun (by decide)]; exact ⟨k152.1, k152.2.1, k152.2.2.1, zwr_eq.trans (by rw [b161, hix]), fun i hi => (zwr_ne (Or.inr (by omega))).trans (congrFun k152.2.2.2 i)⟩
                      refine zW_iload (pc' := 164) dX12_spreads_5.2.2.1.1 rfl rfl ?_
                      refine zW_iconst (pc' := 165) dX12_spreads_5.2.2.1.2 rfl ?_
                      refine zW_iadd (pc' := 166) dX12_spreads_5.2.2.2.1 rfl ?_
                      refine zW_istore (ls' := [_, _, _, _, _, _, _, _, _, _, _, _]) (pc' := 168) dX12_spreads_5.2.2.2.2 (by decide) rfl rfl rfl ?_
                      have sj := nbS_s (W := κ 0 11) (H := κ 0 12) (a := x3) (p := (bfF (κ 0 11) (κ 0 12) x3 (enF (κ 0 11) (κ 0 12) (x1 % 16) (x1 / 16) (R0, fun _ => 0, 0)) v5.toNat).2.1 v5.toNat) (S := (bfF (κ 0 11) (κ 0 12) x3 (enF (κ 0 11) (κ 0 12) (x1 % 16) (x1 / 16) (R0, fun _ => 0, 0)) v5.toNat)) (j := v6) (by omega)
                      first | (have o2 : StE (κ 0 11) (κ 0 12) (rsF (h 24) (h 25)) (h 26) (v4 + 1) (nbS (κ 0 11) (κ 0 12) x3 ((bfF (κ 0 11) (κ 0 12) x3 (enF (κ 0 11) (κ 0 12) (x1 % 16) (x1 / 16) (R0, fun _ => 0, 0)) v5.toNat).2.1 v5.toNat) (bfF (κ 0 11) (κ 0 12) x3 (enF (κ 0 11) (κ 0 12) (x1 % 16) (x1 / 16) (R0, fun _ => 0, 0)) v5.toNat) (v6 + 1).toNat) := by (rw [sj, nb1_y (dx := v6 % 3 - 1) (dy := v6 / 3 - 1) (x := (hb_ 26 v5.toNat % 16 + (v6 % 3 - 1))) (y := (hb_ 26 v5.toNat / 16 + (v6 / 3 - 1))) (by omega) (by omega) (by omega) (by omega) (by omega) (by omega)]; refine stb.en (by omega) (by omega) hpx hv4 (by rw [← hix2]; exact h1x) (by rw [← hix2]; exact rsF_0 (Or.inr (by rw [k161.1]; omega))) (fun i i1 i2 => by rw [← hix2] at i2; unfold rsF; rw [k161.2.1 i i2, k161.2.2.1]) (by rw [← hix2]; exact k161.2.2.2.1) k161.2.2.2.2)) | (have o2 : StE (κ 0 11) (κ 0 12) (rsF (h 24) (h 25)) (h 26) v4 (nbS (κ 0 11) (κ 0 12) x3 ((bfF (κ 0 11) (κ 0 12) x3 (enF (κ 0 11) (κ 0 12) (x1 % 16) (x1 / 16) (R0, fun _ => 0, 0)) v5.toNat).2.1 v5.toNat) (bfF (κ 0 11) (κ 0 12) x3 (enF (κ 0 11) (κ 0 12) (x1 % 16) (x1 / 16) (R0, fun _ => 0, 0)) v5.toNat) (v6 + 1).toNat) := by (rw [sj]; exact gc2.nn (dx := v6 % 3 - 1) (dy := v6 / 3 - 1) (x := (h 26 v5.toNat % 16 + (v6 % 3 - 1))) (y := (h 26 v5.toNat / 16 + (v6 / 3 - 1))) (by omega) (by omega) (by omega) (by omega) (by omega) (fun q => by obtain ⟨c, ⟨q1, q2, q3, q4⟩, q5, q6⟩ := q; have z := rsF_c q6; omega)))
                      refine zW_iinc (ls' := [_, _, _, _, _, _, _, _, _, _, _, _]) (pc' := 171) dX12_spreads_6.1.1.1 rfl (by decide) rfl rfl rfl ?_
                      refine zV_goto 30 dX12_spreads_6.1.1.2 rfl ?_
                      refine zV_clr 7 (ls' := [_, _, _, _, _, _, _, _, _, _, _, _]) rfl ?_
                      refine zV_clr 8 (ls' := [_, _, _, _, _, _, _, _, _, _, _, _]) rfl ?_
                      refine zV_clr 9 (ls' := [_, _, _, _, _, _, _, _, _, _, _, _]) rfl ?_
                      refine zV_clr 10 (ls' := [_, _, _, _, _, _, _, _, _, _, _, _]) rfl ?_
                      refine zV_clr 11 (ls' := [_, _, _, _, _, _, _, _, _, _, _, _]) rfl ?_
                      exact k30 _ _ _ _ hF (by omega) (by omega) (by omega) (by omega) (by omega) (by first | exact o2 | exact gc1) (by first | exact gc3 | omega) (by first | exact gc4 | exact (k161.2.2.2.2 v5.toNat (by omega)).trans qv | exact eq0.1) (by first | exact gc5 | omega) hf01 hgh (by omega)
                    · refine zV_goto 168 dX12_spreads_5.1.1.1.2 rfl ?_
                      have sj := nbS_s (W := κ 0 11) (H := κ 0 12) (a := x3) (p := (bfF (κ 0 11) (κ 0 12) x3 (enF (κ 0 11) (κ 0 12) (x1 % 16) (x1 / 16) (R0, fun _ => 0, 0)) v5.toNat).2.1 v5.toNat) (S := (bfF (κ 0 11) (κ 0 12) x3 (enF (κ 0 11) (κ 0 12) (x1 % 16) (x1 / 16) (R0, fun _ => 0, 0)) v5.toNat)) (j := v6) (by omega)
                      first | (have o2 : StE (κ 0 11) (κ 0 12) (rsF (h 24) (h 25)) (h 26) (v4 + 1) (nbS (κ 0 11) (κ 0 12) x3 ((bfF (κ 0 11) (κ 0 12) x3 (enF (κ 0 11) (κ 0 12) (x1 % 16) (x1 / 16) (R0, fun _ => 0, 0)) v5.toNat).2.1 v5.toNat) (bfF (κ 0 11) (κ 0 12) x3 (enF (κ 0 11) (κ 0 12) (x1 % 16) (x1 / 16) (R0, fun _ => 0, 0)) v5.toNat) (v6 + 1).toNat) := by (rw [sj, nb1_y (dx := v6 % 3 - 1) (dy := v6 / 3 - 1) (x := (hb_ 26 v5.toNat % 16 + (v6 % 3 - 1))) (y := (hb_ 26 v5.toNat / 16 + (v6 / 3 - 1))) (by omega) (by omega) (by omega) (by omega) (by omega) (by omega)]; refine stb.en (by omega) (by omega) hpx hv4 (by rw [← hix2]; exact h1x) (by rw [← hix2]; exact rsF_0 (Or.inr (by rw [k161.1]; omega))) (fun i i1 i2 => by rw [← hix2] at i2; unfold rsF; rw [k161.2.1 i i2, k161.2.2.1]) (by rw [← hix2]; exact k161.2.2.2.1) k161.2.2.2.2)) | (have o2 : StE (κ 0 11) (κ 0 12) (rsF (h 24) (h 25)) (h 26) v4 (nbS (κ 0 11) (κ 0 12) x3 ((bfF (κ 0 11) (κ 0 12) x3 (enF (κ 0 11) (κ 0 12) (x1 % 16) (x1 / 16) (R0, fun _ => 0, 0)) v5.toNat).2.1 v5.toNat) (bfF (κ 0 11) (κ 0 12) x3 (enF (κ 0 11) (κ 0 12) (x1 % 16) (x1 / 16) (R0, fun _ => 0, 0)) v5.toNat) (v6 + 1).toNat) := by (rw [sj]; exact gc2.nn (dx := v6 % 3 - 1) (dy := v6 / 3 - 1) (x := (h 26 v5.toNat % 16 + (v6 % 3 - 1))) (y := (h 26 v5.toNat / 16 + (v6 / 3 - 1))) (by omega) (by omega) (by omega) (by omega) (by omega) (fun q => by obtain ⟨c, ⟨q1, q2, q3, q4⟩, q5, q6⟩ := q; have z := rsF_c q6; omega)))
                      refine zW_iinc (ls' := [_, _, _, _, _, _, _, _, _, _, _, _]) (pc' := 171) dX12_spreads_6.1.1.1 rfl (by decide) rfl rfl rfl ?_
                      refine zV_goto 30 dX12_spreads_6.1.1.2 rfl ?_
                      refine zV_clr 7 (ls' := [_, _, _, _, _, _, _, _, _, _, _, _]) rfl ?_
                      refine zV_clr 8 (ls' := [_, _, _, _, _, _, _, _, _, _, _, _]) rfl ?_
                      refine zV_clr 9 (ls' := [_, _, _, _, _, _, _, _, _, _, _, _]) rfl ?_
                      refine zV_clr 10 (ls' := [_, _, _, _, _, _, _, _, _, _, _, _]) rfl ?_
                      refine zV_clr 11 (ls' := [_, _, _, _, _, _, _, _, _, _, _, _]) rfl ?_
                      exact k30 _ _ _ _ hF (by omega) (by omega) (by omega) (by omega) (by omega) (by first | exact o2 | exact gc1) (by first | exact gc3 | omega) (by first | exact gc4 | exact (k161.2.2.2.2 v5.toNat (by omega)).trans qv | exact eq0.1) (by first | exact gc5 | omega) hf01 hgh (by omega)
                · refine zV_goto 168 dX12_spreads_3.2.2.2.2 rfl ?_
                  have sj := nbS_s (W := κ 0 11) (H := κ 0 12) (a := x3) (p := (bfF (κ 0 11) (κ 0 12) x3 (enF (κ 0 11) (κ 0 12) (x1 % 16) (x1 / 16) (R0, fun _ => 0, 0)) v5.toNat).2.1 v5.toNat) (S := (bfF (κ 0 11) (κ 0 12) x3 (enF (κ 0 11) (κ 0 12) (x1 % 16) (x1 / 16) (R0, fun _ => 0, 0)) v5.toNat)) (j := v6) (by omega)
                  first | (have o2 : StE (κ 0 11) (κ 0 12) (rsF (h 24) (h 25)) (h 26) (v4 + 1) (nbS (κ 0 11) (κ 0 12) x3 ((bfF (κ 0 11) (κ 0 12) x3 (enF (κ 0 11) (κ 0 12) (x1 % 16) (x1 / 16) (R0, fun _ => 0, 0)) v5.toNat).2.1 v5.toNat) (bfF (κ 0 11) (κ 0 12) x3 (enF (κ 0 11) (κ 0 12) (x1 % 16) (x1 / 16) (R0, fun _ => 0, 0)) v5.toNat) (v6 + 1).toNat) := by (rw [sj, nb1_y (dx := v6 % 3 - 1) (dy := v6 / 3 - 1) (x := (hb_ 26 v5.toNat % 16 + (v6 % 3 - 1))) (y := (hb_ 26 v5.toNat / 16 + (v6 / 3 - 1))) (by omega) (by omega) (by omega) (by omega) (by omega) (by omega)]; refine stb.en (by omega) (by omega) hpx hv4 (by rw [← hix2]; exact h1x) (by rw [← hix2]; exact rsF_0 (Or.inr (by rw [k161.1]; omega))) (fun i i1 i2 => by rw [← hix2] at i2; unfold rsF; rw [k161.2.1 i i2, k161.2.2.1]) (by rw [← hix2]; exact k161.2.2.2.1) k161.2.2.2.2)) | (have o2 : StE (κ 0 11) (κ 0 12) (rsF (h 24) (h 25)) (h 26) v4 (nbS (κ 0 11) (κ 0 12) x3 ((bfF (κ 0 11) (κ 0 12) x3 (enF (κ 0 11) (κ 0 12) (x1 % 16) (x1 / 16) (R0, fun _ => 0, 0)) v5.toNat).2.1 v5.toNat) (bfF (κ 0 11) (κ 0 12) x3 (enF (κ 0 11) (κ 0 12) (x1 % 16) (x1 / 16) (R0, fun _ => 0, 0)) v5.toNat) (v6 + 1).toNat) := by (rw [sj]; exact gc2.nn (dx := v6 % 3 - 1) (dy := v6 / 3 - 1) (x := (h 26 v5.toNat % 16 + (v6 % 3 - 1))) (y := (h 26 v5.toNat / 16 + (v6 / 3 - 1))) (by omega) (by omega) (by omega) (by omega) (by omega) (fun q => by obtain ⟨c, ⟨q1, q2, q3, q4⟩, q5, q6⟩ := q; have z := rsF_c q6; omega)))
                  refine zW_iinc (ls' := [_, _, _, _, _, _, _, _, _, _, _, _]) (pc' := 171) dX12_spreads_6.1.1.1 rfl (by decide) rfl rfl rfl ?_
                  refine zV_goto 30 dX12_spreads_6.1.1.2 rfl ?_
                  refine zV_clr 7 (ls' := [_, _, _, _, _, _, _, _, _, _, _, _]) rfl ?_
                  refine zV_clr 8 (ls' := [_, _, _, _, _, _, _, _, _, _, _, _]) rfl ?_
                  refine zV_clr 9 (ls' := [_, _, _, _, _, _, _, _, _, _, _, _]) rfl ?_
                  refine zV_clr 10 (ls' := [_, _, _, _, _, _, _, _, _, _, _, _]) rfl ?_
                  exact k30 _ _ _ _ hF (by omega) (by omega) (by omega) (by omega) (by omega) (by first | exact o2 | exact gc1) (by first | exact gc3 | omega) (by first | exact gc4 | exact (k161.2.2.2.2 v5.toNat (by omega)).trans qv | exact eq0.1) (by first | exact gc5 | omega) hf01 hgh (by omega)
  refine zM_of [some (.inr (.inr 0)), some (.inl x1), some (.inl x2), some (.inl x3), none, none, none, none, none, none, none, none] 8 rfl rfl (Nat.le_of_ble_eq_true rfl) rfl ?_
  refine zW_aload_n (pc' := 1) dX12_spreads_0.1.1.1.1 rfl rfl ?_
  refine zG_ref (pc' := 4) 25 fg_X12_84 tb0 rfl dX12_spreads_0.1.1.1.2 rfl ?_
  refine zW_iload_n (pc' := 5) dX12_spreads_0.1.1.2.1 rfl rfl ?_
  refine zW_iload_n (pc' := 6) dX12_spreads_0.1.1.2.2 rfl rfl ?_
  obtain ⟨hh, hhe⟩ : ∃ z : Hp, z = h := ⟨_, rfl⟩
  obtain ⟨yc, hyc⟩ : ∃ z : Hp, z = h := ⟨_, rfl⟩
  refine zS_i (pc' := 7) hF sr25 tb25 (by omega) dX12_spreads_0.1.2.1.1 (by decide) rfl (fun h i6 hF a6 b6 w6 => ?_)
  replace b6 := b6 ⟨by omega, by omega⟩
  replace hgh : Fw [25, 26] [] gh0 h := by rw [w6]; exact hgh.wc (by simp)
  replace hf01 : ∀ q : Nat, q < 256 → 0 ≤ h 24 q ∧ h 24 q ≤ 1 := by have q0_ := (congrFun w6 24).trans (zfun (by decide)); rw [q0_]; exact hf01
  have z6 : cntN (h 25) 256 = cntN (yc 25) 256 + 1 := by rw [w6, b6, hyc]; exact cntN_set (by omega) hp (by omega)
  refine zW_aload_n (pc' := 8) dX12_spreads_0.1.2.1.2 rfl rfl ?_
  refine zG_ref (pc' := 11) 26 fg_X12_87 tb0 rfl dX12_spreads_0.1.2.2.1 rfl ?_
  refine zW_iconst (pc' := 12) dX12_spreads_0.1.2.2.2 rfl ?_
  refine zW_iload_n (pc' := 13) dX12_spreads_0.2.1.1.1 rfl rfl ?_
  obtain ⟨yd, hyd⟩ : ∃ z : Hp, z = h := ⟨_, rfl⟩
  refine zS_i (pc' := 14) hF sr26 tb26 (by omega) dX12_spreads_0.2.1.1.2 (by decide) rfl (fun h i13 hF a13 b13 w13 => ?_)
  replace b13 := b13 ⟨by omega, by omega⟩
  replace hgh : Fw [25, 26] [] gh0 h := by rw [w13]; exact hgh.wc (by simp)
  replace hf01 : ∀ q : Nat, q < 256 → 0 ≤ h 24 q ∧ h 24 q ≤ 1 := by have q0_ := (congrFun w13 24).trans (zfun (by decide)); rw [q0_]; exact hf01
  have z13 : cntN (h 25) 256 = cntN (yd 25) 256 := by rw [w13, hyd]; exact cntN_oth (by decide)
  rw [hyd] at z13
  have st0 : StE (κ 0 11) (κ 0 12) (rsF (h 24) (h 25)) (h 26) 1 (enF (κ 0 11) (κ 0 12) (x1 % 16) (x1 / 16) (R0, fun _ => 0, 0)) := by (have s0 := StE.st (W := κ 0 11) (H := κ 0 12) (R := rsF (hh 24) (hh 25)) (Q := hh 26) (R0 := R0) (fun x y hq => by rw [hhe]; exact hR0 x y hq); have z := s0.en (R' := (rsF (h 24) (h 25))) (Q' := h 26) (by omega) (by omega) hin (by omega) (by rw [show 16 * (x1 / 16) + x1 % 16 = x1 by omega, hhe]; exact rsF_1 hfd hp) ?_ ?_ ?_ ?_; exact z; (rw [show 16 * (x1 / 16) + x1 % 16 = x1 by omega]; exact rsF_0 (Or.inr (by rw [w13, zwr_ne (Or.inl (by decide)), w6, zwr_eq]; omega))); (intro i i1 i2; rw [show 16 * (x1 / 16) + x1 % 16 = x1 by omega] at i2; unfold rsF; rw [w13, zwr_ne (Or.inl (by decide)), zwr_ne (Or.inl (by decide)), w6, zwr_ne (Or.inl (by decide)), zwr_ne (Or.inr i2), hhe]); (rw [w13]; exact zwr_eq.trans (by omega)); (intro i hi; omega))
  refine zW_iconst (pc' := 15) dX12_spreads_0.2.1.2.1 rfl ?_
  refine zW_istore (ls' := [_, _, _, _, _, _, _, _, _, _, _, _]) (pc' := 17) dX12_spreads_0.2.1.2.2 (by decide) rfl rfl rfl ?_
  refine zW_iconst (pc' := 18) dX12_spreads_0.2.2.1.1 rfl ?_
  refine zW_istore (ls' := [_, _, _, _, _, _, _, _, _, _, _, _]) (pc' := 20) dX12_spreads_0.2.2.1.2 (by decide) rfl rfl rfl ?_
  exact (main 10000000000000000000000000000000000000000).1 _ _ _ hF (by omega) (by omega) (by omega) (by first | exact st0 | (rw [sb]; rw [show v6.toNat = 9 by omega] at gc2; exact gc2)) hf01 hgh (by omega)

abbrev q_X12_gathersZ (b : Bd) (κ : Hp) (x1 : Int) (M : Nat → Int) (gh0 : Hp) : Int → Hp → Prop := fun r h' => Fr b κ h' ∧ ((Fw [25, 26, 27, 28] [] gh0 h') ∧ (0 ≤ r) ∧ (r ≤ 256) ∧ (OtR (κ 0 11) (κ 0 12) x1 M (rsF (h' 24) (h' 25)) (h' 27) (h' 28) r 256))
set_option maxHeartbeats 4000000 in
set_option maxRecDepth 20000 in
theorem s_X12_gathersZ {G : Ga} {b : Bd} {κ h : Hp} (hK : KR κ) (hF : Fr b κ h) (x1 : Int) (hx1 : 0 ≤ x1 ∧ x1 ≤ 1) (M : Nat → Int) (gh0 : Hp) (hf01 : ∀ q : Nat, q < 256 → 0 ≤ h 24 q ∧ h 24 q ≤ 1) (hMr : ∀ x y : Int, inP (κ 0 11) (κ 0 12) x y → h 24 (16 * y + x).toNat = M (16 * y + x).toNat) (hout : ∀ q : Nat, q < 256 → h 24 q ≠ 0 → ((q % 16 : Nat) : Int) < κ 0 11 ∧ ((q / 16 : Nat) : Int) < κ 0 12) (hgh : Fw [25, 26, 27, 28] [] gh0 h) : zM G mX12_gathers yX12_gathers [.inr (.inr 0), .inl x1] h (q_X12_gathersZ b κ x1 M gh0) := by
  have f_0_11 := KRw hK
  have f_0_12 := KRh hK
  have main : ∀ N : Nat, (∀ (v2 : Int) (h : Hp), Fr b κ h → (0 ≤ v2 ∧ v2 ≤ 256) → (∀ q : Nat, (q : Int) < v2 → h 25 q = -1) → (∀ q : Nat, q < 256 → 0 ≤ h 24 q ∧ h 24 q ≤ 1) → (∀ x y : Int, inP (κ 0 11) (κ 0 12) x y → h 24 (16 * y + x).toNat = M (16 * y + x).toNat) → (∀ q : Nat, q < 256 → h 24 q ≠ 0 → ((q % 16 : Nat) : Int) < κ 0 11 ∧ ((q / 16 : Nat) : Int) < κ 0 12) → (Fw [25, 26, 27, 28] [] gh0 h) → 711048 + 53 * (256 - v2) + 52 < (N : Int) → zV G mX12_gathers (q_X12_gathersZ b κ x1 M gh0) 2 [some (.inr (.inr 0)), some (.inl x1), some (.inl v2), none] [] h) ∧ (∀ (v2 v3 : Int) (h : Hp), Fr b κ h → (0 ≤ v2 ∧ v2 ≤ 256) → (0 ≤ v3 ∧ v3 ≤ 256) → (v2 ≤ v3) → (OtR (κ 0 11) (κ 0 12) x1 M (rsF (h 24) (h 25)) (h 27) (h 28) v2 v3) → (∀ q : Nat, q < 256 → 0 ≤ h 24 q ∧ h 24 q ≤ 1) → (∀ x y : Int, inP (κ 0 11) (κ 0 12) x y → h 24 (16 * y + x).toNat = M (16 * y + x).toNat) → (∀ q : Nat, q < 256 → h 24 q ≠ 0 → ((q % 16 : Nat) : Int) < κ 0 11 ∧ ((q / 16 : Nat) : Int) < κ 0 12) → (Fw [25, 26, 27, 28] [] gh0 h) → 615330 + 53 * (256 - v3) + 45 < (N : Int) → zV G mX12_gathers (q_X12_gathersZ b κ x1 M gh0) 26 [some (.inr (.inr 0)), some (.inl x1), some (.inl v2), some (.inl v3)] [] h) := by
    intro N
    induction N with
    | zero =>
      refine ⟨?_, ?_⟩
      · intro v2 h hF g0 gc0 hf01 hMr hout hgh hm
        exfalso; omega
      · intro v2 v3 h hF g0 g1 gc0 gc1 hf01 hMr hout hgh hm
        exfalso; omega
    | succ N ih =>
      obtain ⟨k2, k26⟩ := ih
      refine ⟨?_, ?_⟩
      · intro v2 h hF g0 gc0 hf01 hMr hout hgh hm
        refine zW_iload_n (pc' := 3) dX12_gathers_0.1.1.2.1 rfl rfl ?_
        refine zW_sipush (pc' := 6) dX12_gathers_0.1.1.2.2 rfl rfl ?_
        refine zV_cm_ge (tgt := 22) (pc' := 9) dX12_gathers_0.1.2.1.1 rfl rfl ⟨by omega, by omega⟩ ⟨by omega, by omega⟩ (fun c6 => ?_) (fun c6 => ?_)
        · refine zW_iconst (pc' := 23) dX12_gathers_0.2.2.1.1 rfl ?_
          refine zW_istore_n (ls' := [_, _, _, _]) (pc' := 24) dX12_gathers_0.2.2.1.2 (by decide) rfl rfl rfl ?_
          have st0 : OtR (κ 0 11) (κ 0 12) x1 M (rsF (h 24) (h 25)) (h 27) (h 28) 0 0 := OtR.st (fun x y hp => by have z := hMr x y hp; obtain ⟨p1, p2, p3, p4⟩ := hp; have z1 := hf01 (16 * y + x).toNat (by omega); have z2 := gc0 (16 * y + x).toNat (by omega); rw [← z]; by_cases c : h 24 (16 * y + x).toNat = 0; (rw [rsF_0 (Or.inl c), c]); (rw [rsF_1 c z2]; omega))
          refine zW_iconst (pc' := 25) dX12_gathers_0.2.2.2.1 rfl ?_
          refine zW_istore_n (ls' := [_, _, _, _]) (pc' := 26) dX12_gathers_0.2.2.2.2 (by decide) rfl rfl rfl ?_
          exact k26 _ _ _ hF (by omega) (by omega) (by omega) (by first | exact o2 | exact st0) hf01 hMr hout hgh (by omega)
        · refine zW_aload_n (pc' := 10) dX12_gathers_0.1.2.1.2 rfl rfl ?_
          refine zG_ref (pc' := 13) 25 fg_X12_84 tb0 rfl dX12_gathers_0.1.2.2.1 rfl ?_
          refine zW_iload_n (pc' := 14) dX12_gathers_0.1.2.2.2 rfl rfl ?_
          refine zW_iconst (pc' := 15) dX12_gathers_0.2.1.1.1 rfl ?_
          refine zS_i (pc' := 16) hF sr25 tb25 (by omega) dX12_gathers_0.2.1.1.2 (by decide) rfl (fun h i15 hF a15 b15 w15 => ?_)
          replace b15 := b15 ⟨by omega, by omega⟩
          replace hgh : Fw [25, 26, 27, 28] [] gh0 h := by rw [w15]; exact hgh.wc (by simp)
          replace hf01 : ∀ q : Nat, q < 256 → 0 ≤ h 24 q ∧ h 24 q ≤ 1 := by have q0_ := (congrFun w15 24).trans (zfun (by decide)); rw [q0_]; exact hf01
          replace hMr : ∀ x y : Int, inP (κ 0 11) (κ 0 12) x y → h 24 (16 * y + x).toNat = M (16 * y + x).toNat := by have q0_ := (congrFun w15 24).trans (zfun (by decide)); rw [q0_]; exact hMr
          replace hout : ∀ q : Nat, q < 256 → h 24 q ≠ 0 → ((q % 16 : Nat) : Int) < κ 0 11 ∧ ((q / 16 : Nat) : Int) < κ 0 12 := by have q0_ := (congrFun w15 24).trans (zfun (by decide)); rw [q0_]; exact hout
          have gm : ∀ q : Nat, (q : Int) < v2 + 1 → h 25 q = -1 := fun q hq => by rw [w15]; by_cases e : q = v2.toNat; (rw [e, zwr_eq]; exact b15); (rw [zwr_ne (Or.inr e)]; exact gc0 q (by omega))
          refine zW_iinc (ls' := [_, _, _, _]) (pc' := 19) dX12_gathers_0.2.1.2.1 rfl (by decide) rfl rfl rfl ?_
          refine zV_goto 2 dX12_gathers_0.2.1.2.2 rfl ?_
          exact k2 _ _ hF (by omega) (by first | exact gm | exact (fun q hq => by omega)) hf01 hMr hout hgh (by omega)
      · intro v2 v3 h hF g0 g1 gc0 gc1 hf01 hMr hout hgh hm
        refine zW_iload_n (pc' := 27) dX12_gathers_1.1.1.1.1 rfl rfl ?_
        refine zW_sipush (pc' := 30) dX12_gathers_1.1.1.1.2 rfl rfl ?_
        refine zV_cm_ge (tgt := 85) (pc' := 33) dX12_gathers_1.1.1.2.1 rfl rfl ⟨by omega, by omega⟩ ⟨by omega, by omega⟩ (fun c30 => ?_) (fun c30 => ?_)
        · refine zW_iload_n (pc' := 86) dX12_gathers_3.2.1 rfl rfl ?_
          exact zV_iret rfl dX12_gathers_3.2.2 ⟨hF, ⟨hgh, (by have e : v3 = 256 := (by omega); rw [e] at gc1; exact ⟨by omega, by omega, gc1⟩)⟩⟩
        · refine zW_aload_n (pc' := 34) dX12_gathers_1.1.1.2.2 rfl rfl ?_
          refine zG_ref (pc' := 37) 24 fg_X12_81 tb0 rfl dX12_gathers_1.1.2.1.1 rfl ?_
          refine zW_iload_n (pc' := 38) dX12_gathers_1.1.2.1.2 rfl rfl ?_
          refine zV_zald (pc' := 39) tb24 (by omega) dX12_gathers_1.1.2.2.1 (by decide) rfl ?_
          have b38 := hf01 v3.toNat (by omega)
          refine zV_if_eq (tgt := 79) (pc' := 42) dX12_gathers_1.1.2.2.2 rfl rfl ⟨by omega, by omega⟩ (fun c39 => ?_) (fun c39 => ?_)
          · first | (have o2 : OtR (κ 0 11) (κ 0 12) x1 M (rsF (h 24) (h 25)) (h 27) (h 28) (v2 + 1) (v3 + 1) := by (refine o0.y (by omega) (by omega) hin r1 ?_ s71 ?_ ?_ ?_ ?_; (rw [w74, zfun (by decide), zfun (by decide)]; exact u71); (rw [w74]; exact zwr_eq.trans b74); (rw [w74, zwr_ne (Or.inl (by decide))]; exact k71.2.1); (intro j hj; rw [w74, zwr_ne (Or.inr (by omega)), k71.1]); (intro j hj; rw [w74, zwr_ne (Or.inl (by decide))]; exact k71.2.2 j hj))) | (have o2 : OtR (κ 0 11) (κ 0 12) x1 M (rsF (h 24) (h 25)) (h 27) (h 28) v2 (v3 + 1) := gc1.n (by omega) (fun hp q => by have z := rsF_c q; omega))
            refine zW_iinc (ls' := [_, _, _, _]) (pc' := 82) dX12_gathers_3.1.1.2 rfl (by decide) rfl rfl rfl ?_
            refine zV_goto 26 dX12_gathers_3.1.2 rfl ?_
            exact k26 _ _ _ hF (by omega) (by omega) (by omega) (by first | exact o2 | exact st0) hf01 hMr hout hgh (by omega)
          · refine zW_aload_n (pc' := 43) dX12_gathers_1.2.1.1.1 rfl rfl ?_
            refine zG_ref (pc' := 46) 25 fg_X12_84 tb0 rfl dX12_gathers_1.2.1.1.2 rfl ?_
            refine zW_iload_n (pc' := 47) dX12_gathers_1.2.1.2.1 rfl rfl ?_
            refine zV_ialdI (pc' := 48) hF (by decide) (by decide) tb25 (by omega) dX12_gathers_1.2.1.2.2 (by decide) rfl (fun e47 => ?_)
            refine zW_iconst (pc' := 49) dX12_gathers_1.2.2.1.1 rfl ?_
            refine zV_cm_eq (tgt := 55) (pc' := 52) dX12_gathers_1.2.2.1.2 rfl rfl ⟨by omega, by omega⟩ ⟨by omega, by omega⟩ (fun c49 => ?_) (fun c49 => ?_)
            · obtain ⟨hh, hhe⟩ : ∃ z : Hp, z = h := ⟨_, rfl⟩
              have o0 : OtR (κ 0 11) (κ 0 12) x1 M (rsF (hh 24) (hh 25)) (hh 27) (hh 28) v2 v3 := by rw [hhe]; exact gc1
              have hfd : hh 24 v3.toNat ≠ 0 := by rw [hhe]; omega
              have hgp0 : hh 25 v3.toNat = -1 := by rw [hhe]; exact c49
              have r1 : rsF (hh 24) (hh 25) v3.toNat = 1 := rsF_1 hfd hgp0
              have hin0 := hout v3.toNat (by omega) (by rw [← hhe]; exact hfd)
              have hin : inP (κ 0 11) (κ 0 12) (v3 % 16) (v3 / 16) := ⟨by omega, by omega, by omega, by omega⟩
              refine zW_aload_n (pc' := 56) dX12_gathers_1.2.2.2.2 rfl rfl ?_
              refine zG_ref (pc' := 59) 28 fg_X12_93 tb0 rfl dX12_gathers_2.1.1.1.1 rfl ?_
              refine zW_iload_n (pc' := 60) dX12_gathers_2.1.1.1.2 rfl rfl ?_
              refine zW_iload_n (pc' := 61) dX12_gathers_2.1.1.2.1 rfl rfl ?_
              refine zS_i (pc' := 62) hF sr28 tb28 (by omega) dX12_gathers_2.1.1.2.2 (by decide) rfl (fun h i61 hF a61 b61 w61 => ?_)
              replace b61 := b61 ⟨by omega, by omega⟩
              replace hgh : Fw [25, 26, 27, 28] [] gh0 h := by rw [w61]; exact hgh.wc (by simp)
              replace hf01 : ∀ q : Nat, q < 256 → 0 ≤ h 24 q ∧ h 24 q ≤ 1 := by have q0_ := (congrFun w61 24).trans (zfun (by decide)); rw [q0_]; exact hf01
              replace hMr : ∀ x y : Int, inP (κ 0 11) (κ 0 12) x y → h 24 (16 * y + x).toNat = M (16 * y + x).toNat := by have q0_ := (congrFun w61 24).trans (zfun (by decide)); rw [q0_]; exact hMr
              replace hout : ∀ q : Nat, q < 256 → h 24 q ≠ 0 → ((q % 16 : Nat) : Int) < κ 0 11 ∧ ((q / 16 : Nat) : Int) < κ 0 12 := by have q0_ := (congrFun w61 24).trans (zfun (by decide)); rw [q0_]; exact hout
              have hgp : h 25 v3.toNat = -1 := by rw [w61, ← hhe]; exact (zwr_ne (Or.inl (by decide))).trans hgp0
              have hfd1 : h 24 v3.toNat ≠ 0 := by rw [w61, zfun (by decide), ← hhe]; exact hfd
              have q61 : rsF (h 24) (h 25) = rsF (hh 24) (hh 25) := by rw [w61, zfun (by decide), zfun (by decide), hhe]
              have k61 : h 27 = hh 27 ∧ h 28 v2.toNat = v3 ∧ (∀ j : Nat, (j : Int) < v2 → h 28 j = hh 28 j) := by rw [w61, hhe]; exact ⟨zfun (by decide), zwr_eq.trans b61, fun j hj => zwr_ne (Or.inr (by omega))⟩
              refine zW_aload_n (pc' := 63) dX12_gathers_2.1.2.1.1 rfl rfl ?_
              refine zG_ref (pc' := 66) 27 fg_X12_90 tb0 rfl dX12_gathers_2.1.2.1.2 rfl ?_
              refine zW_iload_n (pc' := 67) dX12_gathers_2.1.2.2.1 rfl rfl ?_
              refine zW_aload_n (pc' := 68) dX12_gathers_2.1.2.2.2 rfl rfl ?_
              refine zW_iload_n (pc' := 69) dX12_gathers_2.2.1.1.1 rfl rfl ?_
              refine zW_iload_n (pc' := 70) dX12_gathers_2.2.1.1.2 rfl rfl ?_
              refine zW_iload_n (pc' := 71) dX12_gathers_2.2.1.2.1 rfl rfl ?_
              refine cvI3 (pc' := 74) kX12_spreads vX12_spreads lk_X12_389 ⟨Nat.le_of_ble_eq_true rfl, Nat.le_of_ble_eq_true rfl⟩ tb0 vq12 rfl rfl (s_X12_spreadsZ hK hF _ ⟨by omega, by omega⟩ _ ⟨by omega, by omega⟩ _ ⟨by omega, by omega⟩ (otF (κ 0 11) (κ 0 12) x1 M v3.toNat).1 h hgp hf01 hfd1 hin (fun x y hp => by rw [q61]; exact o0.1 x y hp) Fw.rf) dX12_gathers_2.2.1.2.2 (Nat.le_of_ble_eq_true rfl) rfl ?_
              rintro r71 h ⟨hF, d71, p71⟩
              replace hf01 : ∀ q : Nat, q < 256 → 0 ≤ h 24 q ∧ h 24 q ≤ 1 := by have q0_ := (d71.cell (k := 24) (by intro c hc; simp at hc <;> omega) (by rintro ⟨a, b⟩ hp; simp at hp <;> (show _ ≠ a; omega))); rw [q0_]; exact hf01
              replace hMr : ∀ x y : Int, inP (κ 0 11) (κ 0 12) x y → h 24 (16 * y + x).toNat = M (16 * y + x).toNat := by have q0_ := (d71.cell (k := 24) (by intro c hc; simp at hc <;> omega) (by rintro ⟨a, b⟩ hp; simp at hp <;> (show _ ≠ a; omega))); rw [q0_]; exact hMr
              replace hout : ∀ q : Nat, q < 256 → h 24 q ≠ 0 → ((q % 16 : Nat) : Int) < κ 0 11 ∧ ((q / 16 : Nat) : Int) < κ 0 12 := by have q0_ := (d71.cell (k := 24) (by intro c hc; simp at hc <;> omega) (by rintro ⟨a, b⟩ hp; simp at hp <;> (show _ ≠ a; omega))); rw [q0_]; exact hout
              replace hgh : Fw [25, 26, 27, 28] [] gh0 h := hgh.tr d71 (by simp) (by simp)
              have k71 : h 27 = hh 27 ∧ h 28 v2.toNat = v3 ∧ (∀ j : Nat, (j : Int) < v2 → h 28 j = hh 28 j) := by rw [d71.cell (k := 27) (by decide) (by decide), d71.cell (k := 28) (by decide) (by decide)]; exact k61
              have u71 := p71.2.2.1
              have s71 := p71.2.2.2
              refine zS_i (pc' := 75) hF sr27 tb27 (by omega) dX12_gathers_2.2.2.1.1 (by decide) rfl (fun h i74 hF a74 b74 w74 => ?_)
              replace b74 := b74 ⟨by omega, by omega⟩
              replace hgh : Fw [25, 26, 27, 28] [] gh0 h := by rw [w74]; exact hgh.wc (by simp)
              replace hf01 : ∀ q : Nat, q < 256 → 0 ≤ h 24 q ∧ h 24 q ≤ 1 := by have q0_ := (congrFun w74 24).trans (zfun (by decide)); rw [q0_]; exact hf01
              replace hMr : ∀ x y : Int, inP (κ 0 11) (κ 0 12) x y → h 24 (16 * y + x).toNat = M (16 * y + x).toNat := by have q0_ := (congrFun w74 24).trans (zfun (by decide)); rw [q0_]; exact hMr
              replace hout : ∀ q : Nat, q < 256 → h 24 q ≠ 0 → ((q % 16 : Nat) : Int) < κ 0 11 ∧ ((q / 16 : Nat) : Int) < κ 0 12 := by have q0_ := (congrFun w74 24).trans (zfun (by decide)); rw [q0_]; exact hout
              refine zW_iload_n (pc' := 76) dX12_gathers_2.2.2.1.2 rfl rfl ?_
              refine zW_iconst (pc' := 77) dX12_gathers_2.2.2.2.1 rfl ?_
              refine zW_iadd (pc' := 78) dX12_gathers_2.2.2.2.2 rfl ?_
              refine zW_istore_n (ls' := [_, _, _, _]) (pc' := 79) dX12_gathers_3.1.1.1 (by decide) rfl rfl rfl ?_
              first | (have o2 : OtR (κ 0 11) (κ 0 12) x1 M (rsF (h 24) (h 25)) (h 27) (h 28) (v2 + 1) (v3 + 1) := by (refine o0.y (by omega) (by omega) hin r1 ?_ s71 ?_ ?_ ?_ ?_; (rw [w74, zfun (by decide), zfun (by decide)]; exact u71); (rw [w74]; exact zwr_eq.trans b74); (rw [w74, zwr_ne (Or.inl (by decide))]; exact k71.2.1); (intro j hj; rw [w74, zwr_ne (Or.inr (by omega)), k71.1]); (intro j hj; rw [w74, zwr_ne (Or.inl (by decide))]; exact k71.2.2 j hj))) | (have o2 : OtR (κ 0 11) (κ 0 12) x1 M (rsF (h 24) (h 25)) (h 27) (h 28) v2 (v3 + 1) := gc1.n (by omega) (fun hp q => by have z := rsF_c q; omega))
              refine zW_iinc (ls' := [_, _, _, _]) (pc' := 82) dX12_gathers_3.1.1.2 rfl (by decide) rfl rfl rfl ?_
              refine zV_goto 26 dX12_gathers_3.1.2 rfl ?_
              exact k26 _ _ _ hF (by omega) (by omega) (by omega) (by first | exact o2 | exact st0) hf01 hMr hout hgh (by omega)
            · refine zV_goto 79 dX12_gathers_1.2.2.2.1 rfl ?_
              first | (have o2 : OtR (κ 0 11) (κ 0 12) x1 M (rsF (h 24) (h 25)) (h 27) (h 28) (v2 + 1) (v3 + 1) := by (refine o0.y (by omega) (by omega) hin r1 ?_ s71 ?_ ?_ ?_ ?_; (rw [w74, zfun (by decide), zfun (by decide)]; exact u71); (rw [w74]; exact zwr_eq.trans b74); (rw [w74, zwr_ne (Or.inl (by decide))]; exact k71.2.1); (intro j hj; rw [w74, zwr_ne (Or.inr (by omega)), k71.1]); (intro j hj; rw [w74, zwr_ne (Or.inl (by decide))]; exact k71.2.2 j hj))) | (have o2 : OtR (κ 0 11) (κ 0 12) x1 M (rsF (h 24) (h 25)) (h 27) (h 28) v2 (v3 + 1) := gc1.n (by omega) (fun hp q => by have z := rsF_c q; omega))
              refine zW_iinc (ls' := [_, _, _, _]) (pc' := 82) dX12_gathers_3.1.1.2 rfl (by decide) rfl rfl rfl ?_
              refine zV_goto 26 dX12_gathers_3.1.2 rfl ?_
              exact k26 _ _ _ hF (by omega) (by omega) (by omega) (by first | exact o2 | exact st0) hf01 hMr hout hgh (by omega)
  refine zM_of [some (.inr (.inr 0)), some (.inl x1), none, none] 2 rfl rfl (Nat.le_of_ble_eq_true rfl) rfl ?_
  refine zW_iconst (pc' := 1) dX12_gathers_0.1.1.1.1 rfl ?_
  refine zW_istore_n (ls' := [_, _, _, _]) (pc' := 2) dX12_gathers_0.1.1.1.2 (by decide) rfl rfl rfl ?_
  exact (main 10000000000000000000000000000000000000000).1 _ _ hF (by omega) (by first | exact gm | exact (fun q hq => by omega)) hf01 hMr hout hgh (by omega)

abbrev q_X12_largestZ (κ h : Hp) (x1 : Int) : Int → Hp → Prop := fun r h' => h' = h ∧ ((-1 ≤ r) ∧ (r ≤ 255) ∧ (r = bsG (h 27) x1.toNat))
set_option maxHeartbeats 4000000 in
set_option maxRecDepth 20000 in
theorem s_X12_largestZ {G : Ga} {b : Bd} {κ h : Hp} (hF : Fr b κ h) (x1 : Int) (hx1 : 0 ≤ x1 ∧ x1 ≤ 256) : zM G mX12_largest yX12_largest [.inr (.inr 0), .inl x1] h (q_X12_largestZ κ h x1) := by
  have main : ∀ N : Nat, (∀ (v2 v3 : Int) , (-1 ≤ v2 ∧ v2 ≤ 255) → (0 ≤ v3 ∧ v3 ≤ 256) → (v2 = bsG (h 27) v3.toNat) → (v3 ≤ x1) → 130548 + 23 * (256 - v3) + 22 < (N : Int) → zV G mX12_largest (q_X12_largestZ κ h x1) 4 [some (.inr (.inr 0)), some (.inl x1), some (.inl v2), some (.inl v3)] [] h) := by
    intro N
    induction N with
    | zero =>
      intro v2 v3 g0 g1 gc0 gc1 hm
      exfalso; omega
    | succ N ih =>
      have k4 := ih
      intro v2 v3 g0 g1 gc0 gc1 hm
      refine zW_iload_n (pc' := 5) dX12_largest_0.1.2.1.1 rfl rfl ?_
      refine zW_iload_n (pc' := 6) dX12_largest_0.1.2.1.2 rfl rfl ?_
      refine zV_cm_ge (tgt := 37) (pc' := 9) dX12_largest_0.1.2.2.1 rfl rfl ⟨by omega, by omega⟩ ⟨by omega, by omega⟩ (fun c6 => ?_) (fun c6 => ?_)
      · refine zW_iload_n (pc' := 38) dX12_largest_1.2.2.1 rfl rfl ?_
        exact zV_iret rfl dX12_largest_1.2.2.2 ⟨rfl, (by rw [show x1 = v3 by omega]; exact ⟨by omega, by omega, gc0⟩)⟩
      · refine zW_iload_n (pc' := 10) dX12_largest_0.1.2.2.2 rfl rfl ?_
        refine zW_iconst (pc' := 11) dX12_largest_0.2.1.1.1 rfl ?_
        refine zV_cm_eq (tgt := 29) (pc' := 14) dX12_largest_0.2.1.1.2 rfl rfl ⟨by omega, by omega⟩ ⟨by omega, by omega⟩ (fun c11 => ?_) (fun c11 => ?_)
        · refine zW_iload_n (pc' := 30) dX12_largest_1.1.2.1 rfl rfl ?_
          refine zW_istore_n (ls' := [_, _, _, _]) (pc' := 31) dX12_largest_1.1.2.2 (by decide) rfl rfl rfl ?_
          have sb := bsG_s (G := h 27) (g := v3) (by omega)
          rw [← gc0] at sb
          refine zW_iinc (ls' := [_, _, _, _]) (pc' := 34) dX12_largest_1.2.1.1 rfl (by decide) rfl rfl rfl ?_
          refine zV_goto 4 dX12_largest_1.2.1.2 rfl ?_
          exact k4 _ _ (by omega) (by omega) (by first | rfl | (rw [sb, if_pos (by omega)]) | (rw [sb, if_neg (by omega)])) (by omega) (by omega)
        · refine zW_aload_n (pc' := 15) dX12_largest_0.2.1.2.1 rfl rfl ?_
          refine zG_ref (pc' := 18) 27 fg_X12_90 tb0 rfl dX12_largest_0.2.1.2.2 rfl ?_
          refine zW_iload_n (pc' := 19) dX12_largest_0.2.2.1.1 rfl rfl ?_
          refine zV_ialdI (pc' := 20) hF (by decide) (by decide) tb27 (by omega) dX12_largest_0.2.2.1.2 (by decide) rfl (fun e19 => ?_)
          refine zW_aload_n (pc' := 21) dX12_largest_0.2.2.2.1 rfl rfl ?_
          refine zG_ref (pc' := 24) 27 fg_X12_90 tb0 rfl dX12_largest_0.2.2.2.2 rfl ?_
          refine zW_iload_n (pc' := 25) dX12_largest_1.1.1.1.1 rfl rfl ?_
          refine zV_ialdI (pc' := 26) hF (by decide) (by decide) tb27 (by omega) dX12_largest_1.1.1.1.2 (by decide) rfl (fun e25 => ?_)
          refine zV_cm_le (tgt := 31) (pc' := 29) dX12_largest_1.1.1.2 rfl rfl ⟨by omega, by omega⟩ ⟨by omega, by omega⟩ (fun c26 => ?_) (fun c26 => ?_)
          · have sb := bsG_s (G := h 27) (g := v3) (by omega)
            rw [← gc0] at sb
            refine zW_iinc (ls' := [_, _, _, _]) (pc' := 34) dX12_largest_1.2.1.1 rfl (by decide) rfl rfl rfl ?_
            refine zV_goto 4 dX12_largest_1.2.1.2 rfl ?_
            exact k4 _ _ (by omega) (by omega) (by first | rfl | (rw [sb, if_pos (by omega)]) | (rw [sb, if_neg (by omega)])) (by omega) (by omega)
          · refine zW_iload_n (pc' := 30) dX12_largest_1.1.2.1 rfl rfl ?_
            refine zW_istore_n (ls' := [_, _, _, _]) (pc' := 31) dX12_largest_1.1.2.2 (by decide) rfl rfl rfl ?_
            have sb := bsG_s (G := h 27) (g := v3) (by omega)
            rw [← gc0] at sb
            refine zW_iinc (ls' := [_, _, _, _]) (pc' := 34) dX12_largest_1.2.1.1 rfl (by decide) rfl rfl rfl ?_
            refine zV_goto 4 dX12_largest_1.2.1.2 rfl ?_
            exact k4 _ _ (by omega) (by omega) (by first | rfl | (rw [sb, if_pos (by omega)]) | (rw [sb, if_neg (by omega)])) (by omega) (by omega)
  refine zM_of [some (.inr (.inr 0)), some (.inl x1), none, none] 2 rfl rfl (Nat.le_of_ble_eq_true rfl) rfl ?_
  refine zW_iconst (pc' := 1) dX12_largest_0.1.1.1.1 rfl ?_
  refine zW_istore_n (ls' := [_, _, _, _]) (pc' := 2) dX12_largest_0.1.1.1.2 (by decide) rfl rfl rfl ?_
  refine zW_iconst (pc' := 3) dX12_largest_0.1.1.2.1 rfl ?_
  refine zW_istore_n (ls' := [_, _, _, _]) (pc' := 4) dX12_largest_0.1.1.2.2 (by decide) rfl rfl rfl ?_
  exact (main 10000000000000000000000000000000000000000) _ _ (by omega) (by omega) (by first | rfl | (rw [sb, if_pos (by omega)]) | (rw [sb, if_neg (by omega)])) (by omega) (by omega)

theorem brM_v {W H c lv v : Int} {T : P3} (h : 0 ≤ v) : brM W H T c lv v.toNat = if v % 16 < W ∧ v / 16 < H ∧ lv ≤ T c (v % 16) (v / 16) then 1 else 0 := by
  unfold brM
  rw [show ((v.toNat % 16 : Nat) : Int) = v % 16 by omega, show ((v.toNat / 16 : Nat) : Int) = v / 16 by omega]
theorem brM_b {W H c lv : Int} {T : P3} {q : Nat} : 0 ≤ brM W H T c lv q ∧ brM W H T c lv q ≤ 1 := by
  unfold brM
  split <;> omega
theorem brM_in {W H c lv : Int} {T : P3} {q : Nat} (h : brM W H T c lv q ≠ 0) : ((q % 16 : Nat) : Int) < W ∧ ((q / 16 : Nat) : Int) < H := by
  unfold brM at h
  by_cases c : ((q % 16 : Nat) : Int) < W ∧ ((q / 16 : Nat) : Int) < H ∧ lv ≤ T c ((q % 16 : Nat) : Int) ((q / 16 : Nat) : Int)
  · exact ⟨c.1, c.2.1⟩
  · rw [if_neg c] at h; exact absurd rfl h

abbrev q_X12_placesZ (b : Bd) (κ : Hp) (x1 : Int) (x2 : Int) (x3 : Int) (x4 : Int) : Int → Hp → Prop := fun r h' => Fr b κ h' ∧ ((r = plQ (κ 0 11) (κ 0 12) (κ 0 13) (κ 0 14) (ltV (κ 3) (κ 0 14)) (bhV (κ 3) (κ 0 14)) (pcV (κ 0 14) (PF κ)) (nmV (κ 0 14) (XN (κ 4) (κ 5))) x1 x2 x3 x4))
set_option maxHeartbeats 4000000 in
set_option maxRecDepth 20000 in
theorem s_X12_placesZ {G : Ga} {b : Bd} {κ h : Hp} (hK : KR κ) (hF : Fr b.fo κ h) (x1 : Int) (hx1 : rng x1) (x2 : Int) (hx2 : rng x2) (x3 : Int) (hx3 : rng x3) (x4 : Int) (hx4 : rng x4) (hLw : LeavesW b) (hV : VOK (κ 1)) (hE : EaOK (κ 3) (κ 0 14)) : zM G mX12_places yX12_places [.inr (.inr 0), .inl x1, .inl x2, .inl x3, .inl x4] h (q_X12_placesZ b.fo κ x1 x2 x3 x4) := by
  have f_0_11 := KRw hK
  have f_0_12 := KRh hK
  have f_0_13 := KRp hK
  have f_0_14 := KRm hK
  unfold rng at hx1
  unfold rng at hx2
  unfold rng at hx3
  unfold rng at hx4
  have main : ∀ N : Nat, (∀ (v5 : Int) (h : Hp), Fr b.fo κ h → (0 ≤ x1 ∧ x1 ≤ 12) → (x1 - κ 0 14 ≤ 0) → (0 ≤ x2 ∧ x2 ≤ 2) → (0 ≤ x3 ∧ x3 ≤ 4095) → (0 ≤ x4 ∧ x4 ≤ 2) → (0 ≤ v5 ∧ v5 ≤ 256) → (0 ≤ x1 ∧ x1 ≤ κ 0 14 ∧ 0 ≤ x2 ∧ x2 ≤ 2 ∧ 0 ≤ x3 ∧ x3 ≤ 4095 ∧ 0 ≤ x4 ∧ x4 ≤ 2) → (bhI (κ 3) x1.toNat = 1) → (∀ q : Nat, (q : Int) < v5 → h 24 q = (brM (κ 0 11) (κ 0 12) (PF κ x1.toNat) x2 x3) q) → (Fu17 κ (h 17) x1 (PF κ x1.toNat)) → 1393716 + 74 * (256 - v5) + 73 < (N : Int) → zV G mX12_places (q_X12_placesZ b.fo κ x1 x2 x3 x4) 50 [some (.inr (.inr 0)), some (.inl x1), some (.inl x2), some (.inl x3), some (.inl x4), some (.inl v5), none] [] h) := by
    intro N
    induction N with
    | zero =>
      intro v5 h hF g0 g1 g2 g3 g4 g5 gc0 gc1 gc2 hF3 hm
      exfalso; omega
    | succ N ih =>
      have k50 := ih
      intro v5 h hF g0 g1 g2 g3 g4 g5 gc0 gc1 gc2 hF3 hm
      refine zW_iload (pc' := 52) dX12_places_1.2.1.2.2 rfl rfl ?_
      refine zW_sipush (pc' := 55) dX12_places_1.2.2.1.1 rfl rfl ?_
      refine zV_cm_ge (tgt := 113) (pc' := 58) dX12_places_1.2.2.1.2 rfl rfl ⟨by omega, by omega⟩ ⟨by omega, by omega⟩ (fun c55 => ?_) (fun c55 => ?_)
      · refine zW_aload_n (pc' := 114) dX12_places_3.2.2.1.1 rfl rfl ?_
        refine zW_iconst (pc' := 115) dX12_places_3.2.2.1.2 rfl ?_
        refine cvI1 (pc' := 118) kX12_gathers vX12_gathers lk_X12_393 ⟨Nat.le_of_ble_eq_true rfl, Nat.le_of_ble_eq_true rfl⟩ tb0 vq12 rfl rfl (s_X12_gathersZ hK hF _ ⟨by omega, by omega⟩ (brM (κ 0 11) (κ 0 12) (PF κ x1.toNat) x2 x3) h (fun q hq => by rw [gc2 q (by omega)]; exact brM_b) (fun x y hp => by obtain ⟨p1, p2, p3, p4⟩ := hp; exact gc2 _ (by omega)) (fun q hq h0 => by rw [gc2 q (by omega)] at h0; exact brM_in h0) Fw.rf) dX12_places_3.2.2.2.1 (Nat.le_of_ble_eq_true rfl) rfl ?_
        rintro r115 h ⟨hF, d115, p115⟩
        replace hF3 : Fu17 κ (h 17) x1 (PF κ x1.toNat) := by have q0_ := (d115.cell (k := 17) (by intro c hc; simp at hc <;> omega) (by rintro ⟨a, b⟩ hp; simp at hp <;> (show _ ≠ a; omega))); rw [q0_]; exact hF3
        refine zW_istore (ls' := [_, _, _, _, _, _, _]) (pc' := 120) dX12_places_3.2.2.2.2 (by decide) rfl rfl rfl ?_
        refine zW_aload_n (pc' := 121) dX12_places_4.1.1.1.1 rfl rfl ?_
        refine zW_iload (pc' := 123) dX12_places_4.1.1.1.2 rfl rfl ?_
        refine cvI1 (pc' := 126) kX12_largest vX12_largest lk_X12_397 ⟨Nat.le_of_ble_eq_true rfl, Nat.le_of_ble_eq_true rfl⟩ tb0 vq12 rfl rfl (s_X12_largestZ hF _ ⟨by omega, by omega⟩) dX12_places_4.1.1.2.1 (Nat.le_of_ble_eq_true rfl) rfl ?_
        rintro r123 z123 ⟨hz123, p123⟩; subst z123
        refine zW_istore (ls' := [_, _, _, _, _, _, _]) (pc' := 128) dX12_places_4.1.1.2.2 (by decide) rfl rfl rfl ?_
        refine zW_iload (pc' := 130) dX12_places_4.1.2.1.1 rfl rfl ?_
        refine zV_if_ne (tgt := 136) (pc' := 133) dX12_places_4.1.2.1.2 rfl rfl ⟨by omega, by omega⟩ (fun c130 => ?_) (fun c130 => ?_)
        · refine zW_iload (pc' := 138) dX12_places_4.2.1.1.1 rfl rfl ?_
          refine zW_iconst (pc' := 139) dX12_places_4.2.1.1.2 rfl ?_
          refine zV_cm_ne (tgt := 157) (pc' := 142) dX12_places_4.2.1.2.1 rfl rfl ⟨by omega, by omega⟩ ⟨by omega, by omega⟩ (fun c139 => ?_) (fun c139 => ?_)
          · refine zW_iload (pc' := 159) dX12_places_5.1.1.2.1 rfl rfl ?_
            refine zW_iconst (pc' := 160) dX12_places_5.1.1.2.2 rfl ?_
            refine zV_cm_ne (tgt := 173) (pc' := 163) dX12_places_5.1.2.1.1 rfl rfl ⟨by omega, by omega⟩ ⟨by omega, by omega⟩ (fun c160 => ?_) (fun c160 => ?_)
            · refine zW_aload_n (pc' := 174) dX12_places_5.2.1.2.1 rfl rfl ?_
              refine zG_ref (pc' := 177) 28 fg_X12_93 tb0 rfl dX12_places_5.2.1.2.2 rfl ?_
              refine zW_iload (pc' := 179) dX12_places_5.2.2.1.1 rfl rfl ?_
              refine zV_ialdI (pc' := 180) hF (by decide) (by decide) tb28 (by omega) dX12_places_5.2.2.1.2 (by decide) rfl (fun e179 => ?_)
              exact zV_iret rfl dX12_places_5.2.2.2 ⟨hF, (by unfold plQ; rw [if_pos ⟨by omega, by omega, by omega, by omega, by omega, by omega, by omega, by omega⟩, bhV_in ⟨by omega, by omega⟩, if_pos (by omega), pcV_in ⟨by omega, by omega⟩]; exact p115.2.2.pl (b := r123) p123.2.2 (fun q => by omega) (fun q1 q2 => by first | (exfalso; omega) | (rw [if_pos (by omega)]) | (rw [if_neg (by omega)])) (fun q1 q2 => by first | (exfalso; omega) | rfl) (fun q1 q2 q3 => by first | (exfalso; omega) | rfl))⟩
            · refine zW_aload_n (pc' := 164) dX12_places_5.1.2.1.2 rfl rfl ?_
              refine zG_ref (pc' := 167) 27 fg_X12_90 tb0 rfl dX12_places_5.1.2.2.1 rfl ?_
              refine zW_iload (pc' := 169) dX12_places_5.1.2.2.2 rfl rfl ?_
              refine zV_ialdI (pc' := 170) hF (by decide) (by decide) tb27 (by omega) dX12_places_5.2.1.1.1 (by decide) rfl (fun e169 => ?_)
              refine zV_goto 180 dX12_places_5.2.1.1.2 rfl ?_
              exact zV_iret rfl dX12_places_5.2.2.2 ⟨hF, (by unfold plQ; rw [if_pos ⟨by omega, by omega, by omega, by omega, by omega, by omega, by omega, by omega⟩, bhV_in ⟨by omega, by omega⟩, if_pos (by omega), pcV_in ⟨by omega, by omega⟩]; exact p115.2.2.pl (b := r123) p123.2.2 (fun q => by omega) (fun q1 q2 => by first | (exfalso; omega) | (rw [if_pos (by omega)]) | (rw [if_neg (by omega)])) (fun q1 q2 => by first | (exfalso; omega) | rfl) (fun q1 q2 q3 => by first | (exfalso; omega) | rfl))⟩
          · refine zW_iload (pc' := 144) dX12_places_4.2.1.2.2 rfl rfl ?_
            refine zW_iconst (pc' := 145) dX12_places_4.2.2.1.1 rfl ?_
            refine zV_cm_ne (tgt := 152) (pc' := 148) dX12_places_4.2.2.1.2 rfl rfl ⟨by omega, by omega⟩ ⟨by omega, by omega⟩ (fun c145 => ?_) (fun c145 => ?_)
            · refine zW_bipush (pc' := 154) dX12_places_5.1.1.1.1 rfl rfl ?_
              refine zV_goto 180 dX12_places_5.1.1.1.2 rfl ?_
              exact zV_iret rfl dX12_places_5.2.2.2 ⟨hF, (by unfold plQ; rw [if_pos ⟨by omega, by omega, by omega, by omega, by omega, by omega, by omega, by omega⟩, bhV_in ⟨by omega, by omega⟩, if_pos (by omega), pcV_in ⟨by omega, by omega⟩]; exact p115.2.2.pl (b := r123) p123.2.2 (fun q => by omega) (fun q1 q2 => by first | (exfalso; omega) | (rw [if_pos (by omega)]) | (rw [if_neg (by omega)])) (fun q1 q2 => by first | (exfalso; omega) | rfl) (fun q1 q2 q3 => by first | (exfalso; omega) | rfl))⟩
            · refine zW_iconst (pc' := 149) dX12_places_4.2.2.2.1 rfl ?_
              refine zV_goto 180 dX12_places_4.2.2.2.2 rfl ?_
              exact zV_iret rfl dX12_places_5.2.2.2 ⟨hF, (by unfold plQ; rw [if_pos ⟨by omega, by omega, by omega, by omega, by omega, by omega, by omega, by omega⟩, bhV_in ⟨by omega, by omega⟩, if_pos (by omega), pcV_in ⟨by omega, by omega⟩]; exact p115.2.2.pl (b := r123) p123.2.2 (fun q => by omega) (fun q1 q2 => by first | (exfalso; omega) | (rw [if_pos (by omega)]) | (rw [if_neg (by omega)])) (fun q1 q2 => by first | (exfalso; omega) | rfl) (fun q1 q2 q3 => by first | (exfalso; omega) | rfl))⟩
        · refine zW_iload (pc' := 135) dX12_places_4.1.2.2.1 rfl rfl ?_
          exact zV_iret rfl dX12_places_4.1.2.2.2 ⟨hF, (by unfold plQ; rw [if_pos ⟨by omega, by omega, by omega, by omega, by omega, by omega, by omega, by omega⟩, bhV_in ⟨by omega, by omega⟩, if_pos (by omega), pcV_in ⟨by omega, by omega⟩]; exact p115.2.2.pl (b := r123) p123.2.2 (fun q => rfl) (fun q1 q2 => by omega) (fun q1 q2 => by omega) (fun q1 q2 q3 => by omega))⟩
      · refine zW_aload_n (pc' := 59) dX12_places_1.2.2.2.1 rfl rfl ?_
        refine zG_ref (pc' := 62) 24 fg_X12_81 tb0 rfl dX12_places_1.2.2.2.2 rfl ?_
        refine zW_iload (pc' := 64) dX12_places_2.1.1.1.1 rfl rfl ?_
        refine zW_aload_n (pc' := 65) dX12_places_2.1.1.1.2 rfl rfl ?_
        refine zW_iload (pc' := 67) dX12_places_2.1.1.2.1 rfl rfl ?_
        refine zW_bipush (pc' := 69) dX12_places_2.1.1.2.2 rfl rfl ?_
        refine zW_irem (pc' := 70) (by omega) (by omega) dX12_places_2.1.2.1.1 rfl ?_
        refine zW_iload (pc' := 72) dX12_places_2.1.2.1.2 rfl rfl ?_
        refine zW_bipush (pc' := 74) dX12_places_2.1.2.2.1 rfl rfl ?_
        refine zW_idiv (pc' := 75) (by omega) (by omega) dX12_places_2.1.2.2.2 rfl ?_
        refine cvI2 (pc' := 78) kX12_isSquare vX12_isSquare lk_X12_218 ⟨Nat.le_of_ble_eq_true rfl, Nat.le_of_ble_eq_true rfl⟩ tb0 vq12 rfl rfl (s_X12_isSquare hK hF _ ⟨by omega, by omega⟩ _ ⟨by omega, by omega⟩) dX12_places_2.2.1.1.1 (Nat.le_of_ble_eq_true rfl) rfl ?_
        rintro r75 z75 ⟨hz75, p75⟩; subst z75
        refine zV_if_eq (tgt := 105) (pc' := 81) dX12_places_2.2.1.1.2 rfl rfl ⟨by omega, by omega⟩ (fun c78 => ?_) (fun c78 => ?_)
        · refine zW_iconst (pc' := 106) dX12_places_3.2.1.1.1 rfl ?_
          refine zS_z (pc' := 107) hF sr24 tb24 (by omega) (by omega) dX12_places_3.2.1.1.2 (by decide) rfl (fun h hF w106 => ?_)
          replace hF3 : Fu17 κ (h 17) x1 (PF κ x1.toNat) := by have q0_ := (congrFun w106 17).trans (zfun (by decide)); rw [q0_]; exact hF3
          have bv := brM_v (W := κ 0 11) (H := κ 0 12) (c := x2) (lv := x3) (T := PF κ x1.toNat) (v := v5) (by omega)
          first | rw [if_pos ⟨by omega, by omega, by omega⟩] at bv | rw [if_neg (fun q => by omega)] at bv
          have gn : ∀ q : Nat, (q : Int) < v5 + 1 → h 24 q = (brM (κ 0 11) (κ 0 12) (PF κ x1.toNat) x2 x3) q := fun q hq => by rw [w106]; by_cases e : q = v5.toNat; (rw [e, zwr_eq, bv]); (rw [zwr_ne (Or.inr e)]; exact gc2 q (by omega))
          refine zW_iinc (ls' := [_, _, _, _, _, _, _]) (pc' := 110) dX12_places_3.2.1.2.1 rfl (by decide) rfl rfl rfl ?_
          refine zV_goto 50 dX12_places_3.2.1.2.2 rfl ?_
          exact k50 _ _ hF (by omega) (by omega) (by omega) (by omega) (by omega) (by omega) (by first | exact gc0 | omega) (by first | exact gc1 | omega) (by first | exact gn | exact (fun q hq => by omega)) hF3 (by omega)
        · refine zW_aload_n (pc' := 82) dX12_places_2.2.1.2.1 rfl rfl ?_
          refine zW_iload_n (pc' := 83) dX12_places_2.2.1.2.2 rfl rfl ?_
          refine zW_iload_n (pc' := 84) dX12_places_2.2.2.1.1 rfl rfl ?_
          refine zW_iload (pc' := 86) dX12_places_2.2.2.1.2 rfl rfl ?_
          refine zW_bipush (pc' := 88) dX12_places_2.2.2.2.1 rfl rfl ?_
          refine zW_irem (pc' := 89) (by omega) (by omega) dX12_places_2.2.2.2.2 rfl ?_
          refine zW_iload (pc' := 91) dX12_places_3.1.1.1.1 rfl rfl ?_
          refine zW_bipush (pc' := 93) dX12_places_3.1.1.1.2 rfl rfl ?_
          refine zW_idiv (pc' := 94) (by omega) (by omega) dX12_places_3.1.1.2.1 rfl ?_
          refine cvI4 (pc' := 97) kX12_at vX12_at lk_X12_277 ⟨Nat.le_of_ble_eq_true rfl, Nat.le_of_ble_eq_true rfl⟩ tb0 vq12 rfl rfl (s_X12_atY hK hF _ ⟨by omega, by omega⟩ _ ⟨by omega, by omega⟩ _ ⟨by omega, by omega, by omega⟩ _ ⟨by omega, by omega, by omega⟩) dX12_places_3.1.1.2.2 (Nat.le_of_ble_eq_true rfl) rfl ?_
          rintro r94 z94 ⟨hz94, p94⟩; subst z94
          have hb3 := PF_b hK hV x1.toNat
          have e94 : r94 = PF κ x1.toNat x2 (v5 % 16) (v5 / 16) := p94.trans (hF3 x2 ⟨by omega, by omega⟩ (v5 % 16) (v5 / 16) ⟨by omega, by omega, by omega, by omega⟩)
          have b94 : 0 ≤ r94 ∧ r94 ≤ 4095 := by rw [e94]; exact hb3 x2 ⟨by omega, by omega⟩ (v5 % 16) (v5 / 16) ⟨by omega, by omega, by omega, by omega⟩
          refine zW_iload_n (pc' := 98) dX12_places_3.1.2.1.1 rfl rfl ?_
          refine zV_cm_lt (tgt := 105) (pc' := 101) dX12_places_3.1.2.1.2 rfl rfl ⟨by omega, by omega⟩ ⟨by omega, by omega⟩ (fun c98 => ?_) (fun c98 => ?_)
          · refine zW_iconst (pc' := 106) dX12_places_3.2.1.1.1 rfl ?_
            refine zS_z (pc' := 107) hF sr24 tb24 (by omega) (by omega) dX12_places_3.2.1.1.2 (by decide) rfl (fun h hF w106 => ?_)
            replace hF3 : Fu17 κ (h 17) x1 (PF κ x1.toNat) := by have q0_ := (congrFun w106 17).trans (zfun (by decide)); rw [q0_]; exact hF3
            have bv := brM_v (W := κ 0 11) (H := κ 0 12) (c := x2) (lv := x3) (T := PF κ x1.toNat) (v := v5) (by omega)
            first | rw [if_pos ⟨by omega, by omega, by omega⟩] at bv | rw [if_neg (fun q => by omega)] at bv
            have gn : ∀ q : Nat, (q : Int) < v5 + 1 → h 24 q = (brM (κ 0 11) (κ 0 12) (PF κ x1.toNat) x2 x3) q := fun q hq => by rw [w106]; by_cases e : q = v5.toNat; (rw [e, zwr_eq, bv]); (rw [zwr_ne (Or.inr e)]; exact gc2 q (by omega))
            refine zW_iinc (ls' := [_, _, _, _, _, _, _]) (pc' := 110) dX12_places_3.2.1.2.1 rfl (by decide) rfl rfl rfl ?_
            refine zV_goto 50 dX12_places_3.2.1.2.2 rfl ?_
            exact k50 _ _ hF (by omega) (by omega) (by omega) (by omega) (by omega) (by omega) (by first | exact gc0 | omega) (by first | exact gc1 | omega) (by first | exact gn | exact (fun q hq => by omega)) hF3 (by omega)
          · refine zW_iconst (pc' := 102) dX12_places_3.1.2.2.1 rfl ?_
            refine zV_goto 106 dX12_places_3.1.2.2.2 rfl ?_
            refine zS_z (pc' := 107) hF sr24 tb24 (by omega) (by omega) dX12_places_3.2.1.1.2 (by decide) rfl (fun h hF w106 => ?_)
            replace hF3 : Fu17 κ (h 17) x1 (PF κ x1.toNat) := by have q0_ := (congrFun w106 17).trans (zfun (by decide)); rw [q0_]; exact hF3
            have bv := brM_v (W := κ 0 11) (H := κ 0 12) (c := x2) (lv := x3) (T := PF κ x1.toNat) (v := v5) (by omega)
            first | rw [if_pos ⟨by omega, by omega, by omega⟩] at bv | rw [if_neg (fun q => by omega)] at bv
            have gn : ∀ q : Nat, (q : Int) < v5 + 1 → h 24 q = (brM (κ 0 11) (κ 0 12) (PF κ x1.toNat) x2 x3) q := fun q hq => by rw [w106]; by_cases e : q = v5.toNat; (rw [e, zwr_eq, bv]); (rw [zwr_ne (Or.inr e)]; exact gc2 q (by omega))
            refine zW_iinc (ls' := [_, _, _, _, _, _, _]) (pc' := 110) dX12_places_3.2.1.2.1 rfl (by decide) rfl rfl rfl ?_
            refine zV_goto 50 dX12_places_3.2.1.2.2 rfl ?_
            exact k50 _ _ hF (by omega) (by omega) (by omega) (by omega) (by omega) (by omega) (by first | exact gc0 | omega) (by first | exact gc1 | omega) (by first | exact gn | exact (fun q hq => by omega)) hF3 (by omega)
  refine zM_of [some (.inr (.inr 0)), some (.inl x1), some (.inl x2), some (.inl x3), some (.inl x4), none, none] 2 rfl rfl (Nat.le_of_ble_eq_true rfl) rfl ?_
  refine zW_aload_n (pc' := 1) dX12_places_0.1.1.1.1 rfl rfl ?_
  refine zW_iload_n (pc' := 2) dX12_places_0.1.1.1.2 rfl rfl ?_
  refine zW_iload_n (pc' := 3) dX12_places_0.1.1.2.1 rfl rfl ?_
  refine cvI2 (pc' := 6) kX12_isLeftOf vX12_isLeftOf lk_X12_406 ⟨Nat.le_of_ble_eq_true rfl, Nat.le_of_ble_eq_true rfl⟩ tb0 vq12 rfl rfl (s_X12_isLeftOfZ hK hF _ ⟨by omega, by omega⟩ _ ⟨by omega, by omega⟩) dX12_places_0.1.1.2.2 (Nat.le_of_ble_eq_true rfl) rfl ?_
  rintro r3 z3 ⟨hz3, p3⟩; subst z3
  refine zV_if_eq (tgt := 30) (pc' := 9) dX12_places_0.1.2.1.1 rfl rfl ⟨by omega, by omega⟩ (fun c6 => ?_) (fun c6 => ?_)
  · refine zW_iconst (pc' := 31) dX12_places_0.2.2.2.2 rfl ?_
    exact zV_iret rfl dX12_places_1.1.1.1.1 ⟨hF, (by unfold plQ; rw [if_neg (by omega)])⟩
  · refine zW_iload_n (pc' := 10) dX12_places_0.1.2.1.2 rfl rfl ?_
    refine zW_iconst (pc' := 11) dX12_places_0.1.2.2.1 rfl ?_
    refine zW_sipush (pc' := 14) dX12_places_0.1.2.2.2 rfl rfl ?_
    refine csI3 (pc' := 17) kX12_in vX12_in lk_X12_140 ⟨Nat.le_of_ble_eq_true rfl, Nat.le_of_ble_eq_true rfl⟩ rfl (s_X12_inR hF _ ⟨by omega, by omega⟩ _ ⟨by omega, by omega⟩ _ ⟨by omega, by omega⟩) dX12_places_0.2.1.1.1 (Nat.le_of_ble_eq_true rfl) rfl ?_
    rintro r14 z14 ⟨hz14, p14⟩; subst z14
    refine zV_if_eq (tgt := 30) (pc' := 20) dX12_places_0.2.1.1.2 rfl rfl ⟨by omega, by omega⟩ (fun c17 => ?_) (fun c17 => ?_)
    · refine zW_iconst (pc' := 31) dX12_places_0.2.2.2.2 rfl ?_
      exact zV_iret rfl dX12_places_1.1.1.1.1 ⟨hF, (by unfold plQ; rw [if_neg (by omega)])⟩
    · refine zW_iload (pc' := 22) dX12_places_0.2.1.2.1 rfl rfl ?_
      refine zW_iconst (pc' := 23) dX12_places_0.2.1.2.2 rfl ?_
      refine zW_iconst (pc' := 24) dX12_places_0.2.2.1.1 rfl ?_
      refine csI3 (pc' := 27) kX12_in vX12_in lk_X12_140 ⟨Nat.le_of_ble_eq_true rfl, Nat.le_of_ble_eq_true rfl⟩ rfl (s_X12_inR hF _ ⟨by omega, by omega⟩ _ ⟨by omega, by omega⟩ _ ⟨by omega, by omega⟩) dX12_places_0.2.2.1.2 (Nat.le_of_ble_eq_true rfl) rfl ?_
      rintro r24 z24 ⟨hz24, p24⟩; subst z24
      refine zV_if_ne (tgt := 32) (pc' := 30) dX12_places_0.2.2.2.1 rfl rfl ⟨by omega, by omega⟩ (fun c27 => ?_) (fun c27 => ?_)
      · refine zW_aload_n (pc' := 33) dX12_places_1.1.1.1.2 rfl rfl ?_
        refine zW_iload_n (pc' := 34) dX12_places_1.1.1.2.1 rfl rfl ?_
        refine cvI1 (pc' := 37) kX12_isBehind vX12_isBehind lk_X12_380 ⟨Nat.le_of_ble_eq_true rfl, Nat.le_of_ble_eq_true rfl⟩ tb0 vq12 rfl rfl (s_X12_isBehindZ hK hF _ ⟨by omega, by omega, by omega⟩) dX12_places_1.1.1.2.2 (Nat.le_of_ble_eq_true rfl) rfl ?_
        rintro r34 z34 ⟨hz34, p34⟩; subst z34
        refine zV_if_ne (tgt := 43) (pc' := 40) dX12_places_1.1.2.1.1 rfl rfl ⟨by omega, by omega⟩ (fun c37 => ?_) (fun c37 => ?_)
        · refine zW_aload_n (pc' := 44) dX12_places_1.1.2.2.2 rfl rfl ?_
          refine cvV0 (pc' := 47) kX12_leaves vX12_leaves lk_X12_377 ⟨Nat.le_of_ble_eq_true rfl, Nat.le_of_ble_eq_true rfl⟩ tb0 vq12 rfl rfl (hLw hK hF) dX12_places_1.2.1.1.1 (Nat.le_of_ble_eq_true rfl) rfl ?_
          rintro r44 h ⟨hF, p44⟩
          have hbc := bhI_c (κ 3) x1.toNat
          have hnn : ¬ noF (κ 3) x1.toNat := by rcases hbc with q | q; (exfalso; omega); exact q.2
          have hF3 := (p44.2 x1.toNat (by omega)).2 hnn
          rw [show ((x1.toNat : Nat) : Int) = x1 by omega] at hF3
          have hb3 := PF_b hK hV x1.toNat
          refine zW_iconst (pc' := 48) dX12_places_1.2.1.1.2 rfl ?_
          refine zW_istore (ls' := [_, _, _, _, _, _, _]) (pc' := 50) dX12_places_1.2.1.2.1 (by decide) rfl rfl rfl ?_
          exact (main 10000000000000000000000000000000000000000) _ _ hF (by omega) (by omega) (by omega) (by omega) (by omega) (by omega) (by first | exact gc0 | omega) (by first | exact gc1 | omega) (by first | exact gn | exact (fun q hq => by omega)) hF3 (by omega)
        · refine zW_bipush (pc' := 42) dX12_places_1.1.2.1.2 rfl rfl ?_
          exact zV_iret rfl dX12_places_1.1.2.2.1 ⟨hF, (by unfold plQ; rw [if_pos ⟨by omega, by omega, by omega, by omega, by omega, by omega, by omega, by omega⟩, bhV_in ⟨by omega, by omega⟩, if_neg (by omega)])⟩
      · refine zW_iconst (pc' := 31) dX12_places_0.2.2.2.2 rfl ?_
        exact zV_iret rfl dX12_places_1.1.1.1.1 ⟨hF, (by unfold plQ; rw [if_neg (by omega)])⟩
