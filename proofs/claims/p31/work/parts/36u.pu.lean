/-! faults are not above 0; letters of what was read -/
theorem sq_le {a b : Int} (ha : a ≤ 0) (hb : b ≤ 0) : sq a b ≤ 0 := by
  have z := sqc a b
  omega
theorem nxFn {g : Int → Int} {p b : Int} (hp : 0 ≤ p) : nxF g p b ≤ 0 := sq_le (sFn hp) (nFn (by omega))
theorem n2Fn {g : Int → Int} {p a b l : Int} (hp : 0 ≤ p) : n2F g p a b l ≤ 0 := sq_le (nFn hp) (nxFn (by have := nDp g p; omega))
theorem n2En {g : Int → Int} {p : Int} (hp : 0 ≤ p) : 0 ≤ n2E g p := by
  unfold n2E nxE
  have a := nDp g p
  have b := nDp g (p + nD g p + 1)
  omega
theorem n3Fn {g : Int → Int} {p a b l : Int} (hp : 0 ≤ p) : n3F g p a b l ≤ 0 := sq_le (n2Fn hp) (nxFn (n2En hp))
theorem n3En {g : Int → Int} {p : Int} (hp : 0 ≤ p) : 0 ≤ n3E g p := by
  unfold n3E nxE
  have a := n2En (g := g) hp
  have b := nDp g (n2E g p + 1)
  omega
theorem pqFn {g : Int → Int} {p a b : Int} (hp : 0 ≤ p) : pqF g p a b ≤ 0 := by
  have z := nDp g p
  exact sq_le (sq_le (nFn hp) (sFn (by omega))) (nFn (by omega))
theorem pqEn {g : Int → Int} {p : Int} (hp : 0 ≤ p) : 0 ≤ pqE g p := by
  unfold pqE
  have a := nDp g p
  have b := nDp g (p + nD g p + 1)
  omega
theorem ptFn {g : Int → Int} {p x : Int} (hp : 0 ≤ p) : ptF g p x ≤ 0 := by
  unfold ptF
  by_cases c : x = -1
  · rw [if_pos c]; exact pqFn hp
  · rw [if_neg c]; exact sq_le (sFn hp) (pqFn (by omega))
theorem ptEn {g : Int → Int} {p x : Int} (hp : 0 ≤ p) : 0 ≤ ptE g p x := by
  unfold ptE
  by_cases c : x = -1
  · rw [if_pos c]; exact pqEn hp
  · rw [if_neg c]; exact pqEn (by omega)
theorem cuFn {g : Int → Int} : ∀ (k : Nat) (p x : Int), 0 ≤ p → cuF g k p x ≤ 0
  | 0, _, _, _ => Int.le_refl 0
  | k + 1, p, x, hp => by
    have e : cuF g (k + 1) p x = if ptF g p x = 0 then (if ptX g p x = 255 then 0 else cuF g k (ptE g p x) (ptX g p x)) else ptF g p x := rfl
    rw [e]
    by_cases c : ptF g p x = 0
    · rw [if_pos c]
      by_cases d : ptX g p x = 255
      · rw [if_pos d]; exact Int.le_refl 0
      · rw [if_neg d]; exact cuFn k _ _ (ptEn hp)
    · rw [if_neg c]; exact ptFn hp
theorem cuEn {g : Int → Int} : ∀ (k : Nat) (p x : Int), 0 ≤ p → 0 ≤ cuE g k p x
  | 0, _, _, hp => hp
  | k + 1, p, x, hp => by
    have e : cuE g (k + 1) p x = if ptX g p x = 255 then ptE g p x else cuE g k (ptE g p x) (ptX g p x) := rfl
    rw [e]
    by_cases d : ptX g p x = 255
    · rw [if_pos d]; exact ptEn hp
    · rw [if_neg d]; exact cuEn k _ _ (ptEn hp)
theorem nbFn {g : Int → Int} {c p : Int} (hp : 0 ≤ p) : nbF g c p ≤ 0 := by
  unfold nbF
  repeat' split
  all_goals first | exact nFn hp | exact n2Fn hp | exact n3Fn hp | exact cuFn _ _ _ hp
theorem nbEn {g : Int → Int} {c p : Int} (hp : 0 ≤ p) : 0 ≤ nbE g c p := by
  unfold nbE
  have a := nDp g p
  repeat' split
  all_goals first | omega | exact n2En hp | exact n3En hp | exact cuEn _ _ _ hp
theorem sgFn {g : Int → Int} {p m f : Int} (hp : 0 ≤ p) : sgF g p m f ≤ 0 := sq_le (sq_le (lFn hp) (sFn (by omega))) (nbFn (by omega))
theorem sgEn {g : Int → Int} {p : Int} (hp : 0 ≤ p) : 0 ≤ sgE g p := nbEn (by omega)
theorem noF_s {L : Nat → Int} {m : Nat} : noF L (m + 1) ↔ (noF L m ∧ L m ≠ 102) := by
  constructor
  · exact fun h => ⟨h.le (by omega), h m (by omega)⟩
  · rintro ⟨a, b⟩ j hj
    by_cases e : j = m
    · rw [e]; exact b
    · exact a j (by omega)
theorem EaOK_s {L : Nat → Int} {m : Nat} (h : EaOK L m) (hm : noF L m ↔ (L m = 98 ∨ L m = 111 ∨ L m = 100 ∨ L m = 108 ∨ L m = 102)) : EaOK L ((m : Int) + 1) := fun k hk => by
  by_cases e : k = m
  · rw [e]; exact hm
  · exact h k (by omega)
theorem EaOK_0 {L : Nat → Int} : EaOK L 0 := fun k hk => absurd hk (by omega)
theorem al_ea {g : Int → Int} {n : Int} : ∀ (K m : Nat) (f r : Int), (f = 0 ↔ noF (fun k => g (qP g k)) m) → 0 ≤ f → 0 ≤ qP g m → EaOK (fun k => g (qP g k)) m → alF g n K (qP g m) m f = r → 0 ≤ r → EaOK (fun k => g (qP g k)) r
  | 0, m, f, r, _, _, _, _, e, _ => by
    have e0 : (0 : Int) = r := e
    rw [← e0]; exact EaOK_0
  | K + 1, m, f, r, hf, hf0, hq, hE, e, hr => by
    have e1 : alF g n (K + 1) (qP g m) m f = if sgF g (qP g m) m f = 0 then (if sgE g (qP g m) < n then (if sF g (sgE g (qP g m)) 59 = 0 then alF g n K (sgE g (qP g m) + 1) ((m : Int) + 1) (nxf g (qP g m) m f) else sF g (sgE g (qP g m)) 59) else (m : Int) + 1) else sgF g (qP g m) m f := rfl
    rw [e1] at e
    by_cases c : sgF g (qP g m) m f = 0
    · rw [if_pos c] at e
      have l0 : lF g (qP g m) m f = 0 := sq_0l (sq_0l c)
      have lc := lFc g (qP g m) m f
      have ke := kd_e (g (qP g m))
      have hm : noF (fun k => g (qP g k)) m ↔ (g (qP g m) = 98 ∨ g (qP g m) = 111 ∨ g (qP g m) = 100 ∨ g (qP g m) = 108 ∨ g (qP g m) = 102) := by
        rw [← hf]
        constructor
        · intro z
          have w := ke.mp (by omega)
          omega
        · intro z
          have w := ke.mpr (by omega)
          omega
      have hE2 := EaOK_s hE hm
      by_cases d : sgE g (qP g m) < n
      · rw [if_pos d] at e
        by_cases s : sF g (sgE g (qP g m)) 59 = 0
        · rw [if_pos s] at e
          have nx := nxfc g (qP g m) m f
          refine al_ea K (m + 1) (nxf g (qP g m) m f) r ?_ (by omega) ?_ hE2 e hr
          · rw [noF_s, ← hf]
            show _ ↔ (f = 0 ∧ g (qP g m) ≠ 102)
            omega
          · show 0 ≤ sgE g (qP g m) + 1
            have := sgEn (g := g) hq
            omega
        · rw [if_neg s] at e
          have := sFn (g := g) (p := sgE g (qP g m)) (c := 59) (sgEn hq)
          omega
      · rw [if_neg d] at e
        rw [← e]; exact hE2
    · rw [if_neg c] at e
      have := sgFn (g := g) (p := qP g m) (m := m) (f := f) hq
      omega
theorem rd_ea {g : Int → Int} {n r : Int} (h : rdF g n = r) (hr : 0 ≤ r) : EaOK (fun k => g (qP g k)) r := by
  unfold rdF at h
  by_cases c : n = 0
  · rw [if_pos c] at h
    rw [← h]; exact EaOK_0
  · rw [if_neg c] at h
    exact al_ea 200 0 0 r ⟨fun _ j hj => absurd hj (by omega), fun _ => rfl⟩ (Int.le_refl 0) (Int.le_refl 0) EaOK_0 h hr
theorem EaOK.cong {L L' : Nat → Int} {n : Int} (h : EaOK L n) (e : ∀ k : Nat, (k : Int) < n → L' k = L k) : EaOK L' n := fun k hk => by
  have a : noF L' k ↔ noF L k := by
    constructor
    · exact fun z j hj => by rw [← e j (by omega)]; exact z j hj
    · exact fun z j hj => by rw [e j (by omega)]; exact z j hj
  rw [a, e k hk]
  exact h k hk
theorem RW.ea {g : Int → Int} {n r : Int} {A B C : Nat → Int} (a : RW g r A B C) (h : rdF g n = r) (hr : 0 ≤ r) : EaOK A r := (rd_ea h hr).cong a.1
/-- the law's invariant of pictures -/
def IP (h : Hp) : Prop := (PicR h ∧ PicC h) ∧ (VOK (h 1) ∧ VOK (h 34)) ∧ (EaOK (h 3) (h 0 14) ∧ EaOK (LC h) (h 41 0)) ∧ RecC h ∧ h 0 14 ≤ 12 ∧ h 41 0 ≤ 12 ∧ h 0 11 ≤ 16 ∧ h 0 12 ≤ 16 ∧ 0 ≤ h 0 13
theorem kfun {h h' : Hp} {k : Nat} (e : ∀ k i, dpn k i = true → h' k i = h k i) (hk : ∀ i, dpn k i = true) : h' k = h k := funext fun i => e k i (hk i)
theorem pck_S {k i : Nat} (h1 : 56 ≤ k) (h2 : k ≤ 85) : pck k i = true := by
  unfold pck
  rw [Nat.ble_eq_true_of_le h1, Nat.ble_eq_true_of_le h2]
  simp
theorem ShsC.sh {κ h h' : Hp} {n : Int} (hn : n ≤ 12) (e : ∀ k i, (56 ≤ k ∧ k ≤ 68 ∨ 71 ≤ k ∧ k ≤ 83) → h' k i = h k i) (p : ShsC κ h n) : ShsC κ h' n := fun k hk hk2 => by
  rw [show h' (71 + k) = h (71 + k) from funext fun i => e _ i (by omega), e _ _ (by omega)]
  exact p k hk hk2
theorem prk_lo {k i : Nat} (h : prk k i = true) : k ≤ 17 := by
  unfold prk at h
  simp only [Bool.or_eq_true, Bool.and_eq_true, beq_iff_eq] at h
  omega
theorem IP.mv {h h' : Hp} (p : IP h) (hR : PicR h') (hC : PicC h') (e : ∀ k i, key k i = true → h' k i = h k i) : IP h' := by
  obtain ⟨-, ⟨p3, p4⟩, ⟨p5, p6⟩, p7, p8, p9, pw, ph, pp⟩ := p
  have c : ∀ k, (∀ i, key k i = true) → h' k = h k := fun k h1 => funext fun i => e k i (h1 i)
  have e42 := c 42 (fun _ => rfl)
  have e43 := c 43 (fun _ => rfl)
  have e44 := c 44 (fun _ => rfl)
  refine ⟨⟨hR, hC⟩, ⟨?_, ?_⟩, ⟨?_, ?_⟩, ?_, ?_, ?_, ?_, ?_, ?_⟩
  · rw [c 1 (fun _ => rfl)]; exact p3
  · rw [c 34 (fun _ => rfl)]; exact p4
  · rw [c 3 (fun _ => rfl), e 0 14 rfl]; exact p5
  · unfold LC at p6 ⊢; rw [e42, e 41 0 rfl]; exact p6
  · unfold RecC AC LC at p7 ⊢; rw [e42, e43, e44, e 41 0 rfl]; exact p7
  · rw [e 0 14 rfl]; exact p8
  · rw [e 41 0 rfl]; exact p9
  · rw [e 0 11 rfl]; exact pw
  · rw [e 0 12 rfl]; exact ph
  · rw [e 0 13 rfl]; exact pp
theorem KC_tr {b : Bd} {κ h : Hp} (hK : KC κ) (hF : Fr b κ h) : KC h := by
  obtain ⟨⟨a1, a2, a3⟩, ⟨b1, b2, b3⟩, ⟨c1, c2, c3⟩, ⟨d1, d2, d3⟩, e1, f1, g1, ⟨k1, k2, k3⟩⟩ := hK
  have e : ∀ k i, key k i = true → h k i = κ k i := hF.1
  refine ⟨⟨?_, ?_, ?_⟩, ⟨?_, ?_, ?_⟩, ⟨?_, ?_, fun j => ?_⟩, ⟨?_, ?_, fun j => ?_⟩, ?_, ?_, ?_, ⟨?_, ?_, fun j => ?_⟩⟩
  · rw [e 33 0 rfl]; exact a1
  · rw [e 33 1 rfl]; exact a2
  · rw [e 33 2 rfl]; exact a3
  · rw [e 36 0 rfl]; exact b1
  · rw [e 36 1 rfl]; exact b2
  · rw [e 36 2 rfl]; exact b3
  · rw [e 41 0 rfl]; exact c1
  · rw [e 41 1 rfl]; exact c2
  · have z : 0 ≤ κ 43 j ∧ κ 43 j ≤ 64 := c3 j
    show 0 ≤ h 43 j ∧ h 43 j ≤ 64
    rw [e 43 j rfl]; exact z
  · rw [e 45 0 rfl]; exact d1
  · rw [e 45 1 rfl]; exact d2
  · have z : 0 ≤ κ 47 j ∧ κ 47 j ≤ 64 := d3 j
    show 0 ≤ h 47 j ∧ h 47 j ≤ 64
    rw [e 47 j rfl]; exact z
  · rw [e 31 1 rfl]; exact e1
  · rw [e 30 12 rfl]; exact f1
  · rw [e 30 10 rfl]; exact g1
  · rw [e 49 0 rfl]; exact k1
  · rw [e 49 1 rfl]; exact k2
  · have z : 0 ≤ κ 51 j ∧ κ 51 j ≤ 64 := k3 j
    show 0 ≤ h 51 j ∧ h 51 j ≤ 64
    rw [e 51 j rfl]; exact z
