/-! zX's content at the start, joined -/
theorem ext_at {args : Array Value} {s : State} {A : Nat → Prop} (ht : ∀ w ∈ lw_tbl, w.before args s = true) (hg : (Jvm.Cond.and given_1 narrow_1).before args s = true) (hA : ∀ a : Nat, a < s.heap.size → ¬ A a) : ∃ x : Nat → Nat, ∀ G : Ga, zA G = A → (∀ j, j < 8 → zad G (102 + j) = x j) → XF G s := by
  obtain ⟨a, b, c, d, ra, rb, rc, rd, z⟩ := rows_at ht hg hA
  obtain ⟨adK, adV, h1, k1, k2⟩ := strs_at ht hg hA
  refine ⟨fun j => ([a, b, c, d, adK 0, adK 1, adV 0, adV 1] : List Nat).getD j 0, fun G hGA hx => ?_⟩
  have e0 : zad G 102 = a := hx 0 (by decide)
  have e1 : zad G 103 = b := hx 1 (by decide)
  have e2 : zad G 104 = c := hx 2 (by decide)
  have e3 : zad G 105 = d := hx 3 (by decide)
  have e4 : zad G 106 = adK 0 := hx 4 (by decide)
  have e5 : zad G 107 = adK 1 := hx 5 (by decide)
  have e6 : zad G 108 = adV 0 := hx 6 (by decide)
  have e7 : zad G 109 = adV 1 := hx 7 (by decide)
  have ck : ∀ i, i < 2 → zad G (106 + i) = adK i := fun i hi => by
    match i, hi with
    | 0, _ => exact e4
    | 1, _ => exact e5
  have cv : ∀ i, i < 2 → zad G (108 + i) = adV i := fun i hi => by
    match i, hi with
    | 0, _ => exact e6
    | 1, _ => exact e7
  unfold XF Xrow Xstr
  rw [hGA, e0, e1, e2, e3, e4, e5]
  refine ⟨⟨ra, rb, rc, rd⟩, ⟨sby, rfl, fun i hi => ?_, fun i j hi hj e => h1.2 i j hi hj (by rw [← ck i hi, ← ck j hj]; exact e)⟩, k1, k2, z⟩
  show va_O _ (zad G (106 + i)) _ _ _ ∧ va_OF _ _ _ _ (zad G (106 + i)) _ _ _ ∧ va_OF _ _ _ (.ref (zad G (108 + i))) (zad G (106 + i)) _ _ _ ∧ va_T _ (zad G (108 + i)) _ _ _ _ _
  rw [ck i hi, cv i hi]
  exact h1.1 i hi
