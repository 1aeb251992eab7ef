/-! The cells of the two systems: the reference (0 to 29), the class (30 to 101) -/
def tab : List Ds := [
  (0, 12, [2+1, 2+2, 2+3, 2+4, 2+5, 2+6, 2+7, 2+8, 2+9, 2+10, 2+11, 0, 0, 0, 0, 0, 0, 0, 0, 0, 0, 0, 0, 0, 2+12, 0, 0, 0, 0, 0, 0, 0, 2+13, 2+14, 2+15, 2+16, 2+17, 2+18, 2+19, 2+20, 2+21, 2+22, 2+23, 2+24, 0, 0, 0, 0, 2+25, 2+26, 2+27, 2+28, 2+29, 0]),
  (1, 0, [256]), (1, 0, [768]), (1, 0, [12]), (1, 0, [13]), (1, 0, [130]), (1, 0, [256]), (1, 0, [12]), (1, 0, [13]), (1, 0, [130]), (1, 1, [256]), (1, 1, [256]), (1, 2, [140]),
  (1, 0, [12]), (1, 0, [13]), (1, 0, [130]), (1, 0, [6]), (1, 0, [11520]), (1, 0, [256]), (1, 0, [768]), (1, 0, [9]), (1, 0, [4]), (1, 0, [1024]), (1, 0, [130]), (1, 1, [256]),
  (1, 0, [256]), (1, 0, [256]), (1, 0, [256]), (1, 0, [256]), (1, 0, [256]),
  (0, 11, [2+31, 2+33, 2+39, 2+41, 2+53, 2+54, 2+95, 2+98, 2+36, 2+45, 0, 0, 0]),
  (0, 9, [2+32, 0]), (1, 0, [140]),
  (0, 5, [0, 0, 0, 2+34, 2+35]), (1, 0, [256]), (1, 0, [256]),
  (0, 5, [0, 0, 0, 2+37, 2+38]), (1, 0, [256]), (1, 0, [256]),
  (0, 10, [2+40, 0]), (1, 0, [768]),
  (0, 7, [0, 0, 2+42, 2+43, 2+44]), (1, 0, [14]), (1, 0, [14]), (1, 0, [64]),
  (0, 7, [0, 0, 2+46, 2+47, 2+48]), (1, 0, [14]), (1, 0, [14]), (1, 0, [64]),
  (0, 7, [0, 0, 2+50, 2+51, 2+52]), (1, 0, [14]), (1, 0, [14]), (1, 0, [64]),
  (0, 6, [2+49, 2+31, 0, 0, 0]),
  (0, 1, [2+86, 2+87, 2+33, 2+41, 2+55, 2+69, 2+70, 0]), (3, 4, [56, 57, 58, 59, 60, 61, 62, 63, 64, 65, 66, 67, 68]),
  (0, 8, [2+71, 0]), (0, 8, [2+72, 0]), (0, 8, [2+73, 0]), (0, 8, [2+74, 0]), (0, 8, [2+75, 0]), (0, 8, [2+76, 0]), (0, 8, [2+77, 0]), (0, 8, [2+78, 0]), (0, 8, [2+79, 0]), (0, 8, [2+80, 0]), (0, 8, [2+81, 0]), (0, 8, [2+82, 0]), (0, 8, [2+83, 0]), (0, 8, [2+84, 0]), (0, 8, [2+85, 0]),
  (1, 0, [768]), (1, 0, [768]), (1, 0, [768]), (1, 0, [768]), (1, 0, [768]), (1, 0, [768]), (1, 0, [768]), (1, 0, [768]), (1, 0, [768]), (1, 0, [768]), (1, 0, [768]), (1, 0, [768]), (1, 0, [768]), (1, 0, [768]), (1, 0, [768]),
  (0, 2, [2+33]),
  (0, 3, [0, 0, 0, 2+88, 2+89, 2+94, 2+33]), (1, 0, [256]), (3, 5, [90, 91, 92, 93]), (1, 0, [256]), (1, 0, [256]), (1, 0, [256]), (1, 0, [256]), (1, 0, [9]),
  (0, 4, [0, 0, 0, 0, 1, 1, 1, 0, 0, 2+96, 2+97, 2+33]), (1, 0, [256]), (2, 3, [64]),
  (0, 0, [0, 0, 0, 2+99, 2+100, 2+101, 0, 2+33]), (1, 0, [256]), (1, 0, [256]), (1, 0, [256])]
theorem tab_len : tab.length = 102 := by decide +kernel
abbrev Gx : Type := (State → Prop)
abbrev Ga : Type := Launch × va_G × (Nat → ClassId) × (Nat → Nat) × Gx
abbrev zD (G : Ga) : va_G := G.2.1
abbrev zca (G : Ga) : Nat → ClassId := G.2.2.1
abbrev zad (G : Ga) : Nat → Nat := G.2.2.2.1
abbrev zX (G : Ga) : State → Prop := G.2.2.2.2
def zA (G : Ga) : Nat → Prop := fun q => ∃ k, k < 102 ∧ q = zad G k
def ztys (G : Ga) : List (ClassId × FieldType) := [(zca G 0, .int), (zca G 1, .boolean), (zca G 2, .byte), (zca G 3, .long), (zca G 4, .object "RawPictures$Sheet"), (zca G 5, .array .int)]
def zInj (G : Ga) : Prop := ∀ i j, i < 102 → j < 102 → zad G i = zad G j → i = j
def zXS (G : Ga) : Prop := ∀ (u U : State), zX G u → (u.WarmedH U.vm ∨ U.vm = u.vm) → u.heap.size ≤ U.heap.size → (∀ q : Nat, q < u.heap.size → ¬ zA G q → U.heap[q]? = u.heap[q]?) → zX G U
def zwl (G : Ga) (h : Hp) : va_W := wlFrom (zca G) (zad G) h 0 tab
def zP (G : Ga) (h : Hp) (H : Heap) : Prop := va_P (zD G) vwCl (zwl G h) H
def zK (G : Ga) (U : State) : Prop := va_K (zD G) vwCl (ztys G) U
theorem zwl_get {G : Ga} {h : Hp} {k : Nat} {d : Ds} (e : tab[k]? = some d) : (zwl G h)[k]? = some (zad G k, cellOf (zca G) (zad G) d (h k)) := by
  have := wlF_get (zca G) (zad G) h tab 0 k d e
  rwa [Nat.zero_add] at this
theorem zwl_D {G : Ga} {h : Hp} (hI : zInj G) : va_D (zA G) (zwl G h) := by
  have key : ∀ (k : Nat) (q : Nat × va_E), (zwl G h)[k]? = some q → k < 102 ∧ q.1 = zad G k := by
    intro k q hq
    obtain ⟨d, h1, h2⟩ := wlF_inv (zca G) (zad G) h tab 0 k q hq
    rw [Nat.zero_add] at h2
    have := (List.getElem?_eq_some_iff.mp h1).1
    rw [tab_len] at this
    exact ⟨this, by rw [h2]⟩
  refine ⟨fun i j p q hp hq he => ?_, fun k q hq => ?_⟩
  · obtain ⟨a1, a2⟩ := key i p hp
    obtain ⟨b1, b2⟩ := key j q hq
    exact hI i j a1 b1 (by rw [← a2, ← b2]; exact he)
  · obtain ⟨a1, a2⟩ := key k q hq
    exact ⟨k, a1, a2⟩
theorem zwl_set {G : Ga} {h : Hp} {k i : Nat} {v : Int} {d : Ds} (e : tab[k]? = some d) : (zwl G h).set k (zad G k, cellOf (zca G) (zad G) d (fun j => if j = i then v else h k j)) = zwl G (zwr h k i v) := by
  have := wlF_set (zca G) (zad G) h (fun j => if j = i then v else h k j) tab 0 k d e
  rw [Nat.zero_add] at this
  unfold zwl
  rw [this]
  congr 1
  funext k' j
  unfold zwr
  by_cases hk : k' = k
  · rw [if_pos hk, if_pos hk]
  · rw [if_neg hk, if_neg hk]
/-- what holds throughout a method's body -/
def zCx (G : Ga) (μ : Mt) (p : Program) (s : State) (m : MethodId) (args : Array Value) (meth : Method) (c : Code) : Prop :=
  p.tables.exec = Jvm.exec ∧ c.code = μ.1 ∧ c.maxLocals = μ.2.1 ∧ meth.sig.returnType = μ.2.2.1 ∧ meth.locks = false ∧ s.vm.findClass μ.2.2.2.1 = some m.cls ∧ (∀ w ∈ gT, w.before args s = true) ∧ zK G s ∧ zInj G ∧ zXS G ∧ zX G s
def zLH (ad : Nat → Nat) (lsA : Array Slot) (nL : Nat) (ls : Lo) : Prop := ∃ l, lv_has lsA nL l ∧ ∀ (j : Nat) (w : Sv), ls[j]? = some (some w) → (j, dn ad w) ∈ l
def zrv (G : Ga) (rt : Option FieldType) (r : Int) : Option Value := match rt with
  | none => none
  | some .long => some (.long (Int64.ofInt r))
  | some (.object _) => some (.ref (zad G r.toNat))
  | some _ => some (.int (Int32.ofInt r))
def zQ (G : Ga) (rt : Option FieldType) (Q : Int → Hp → Prop) : Array Value → State → Outcome → State → Prop := fun _ st oc t =>
  (∃ (r : Int) (h' : Hp), oc = .returned (zrv G rt r) ∧ Q r h' ∧ zP G h' t.heap) ∧ va_F (zA G) st t
def zV (G : Ga) (μ : Mt) (Q : Int → Hp → Prop) (pc : Nat) (ls : Lo) (st : List Sv) (h : Hp) : Prop :=
  ∀ (p : Program) (e : Env) (s : State) (m : MethodId) (args : Array Value) (below : List Frame) (meth : Method) (c : Code) (H : Heap) (locs : List Loc) (lsA : Array Slot),
    zCx G μ p s m args meth c → zP G h H → va_S (zA G) s.heap H locs → zLH (zad G) lsA μ.2.1 ls →
    W p G.1 e μ.2.2.2.2 s m args below meth c H locs 0 0 (MQ below (zQ G μ.2.2.1 Q) args s 0 0 (zA G)) (F0 m pc lsA (st.map (dn (zad G))))
theorem zLH.at {ad : Nat → Nat} {lsA : Array Slot} {nL : Nat} {ls : Lo} (h : zLH ad lsA nL ls) {j : Nat} {w : Sv} (e : ls[j]? = some (some w)) : lsA[j]? = some (.val (dn ad w)) := by
  obtain ⟨l, h1, h2⟩ := h
  exact h1.2.2 _ (h2 j w e)
theorem zLH.size {ad : Nat → Nat} {lsA : Array Slot} {nL : Nat} {ls : Lo} (h : zLH ad lsA nL ls) : lsA.size = nL := by
  obtain ⟨l, h1, h2⟩ := h
  exact h1.1
/-- a store of one slot -/
def stl : Lo → Nat → Sv → Lo
  | [], _, _ => []
  | _ :: t, 0, v => some v :: t
  | x :: t, 1, v => (match x with | some (.inr (.inl _)) => none | y => y) :: stl t 0 v
  | x :: t, n + 2, v => x :: stl t (n + 1) v
def clr : Lo → Nat → Lo
  | [], _ => []
  | _ :: t, 0 => none :: t
  | x :: t, n + 1 => x :: clr t n
def stl2 (ls : Lo) (i : Nat) (v : Sv) : Lo := clr (stl ls i v) (i + 1)
theorem clr_get : ∀ (ls : Lo) (i j : Nat) (w : Sv), (clr ls i)[j]? = some (some w) → j ≠ i ∧ ls[j]? = some (some w)
  | [], i, j, w, h => by simp [clr] at h
  | x :: t, 0, 0, w, h => by simp [clr] at h
  | x :: t, 0, j + 1, w, h => ⟨by omega, by simpa [clr] using h⟩
  | x :: t, i + 1, 0, w, h => ⟨by omega, by simpa [clr] using h⟩
  | x :: t, i + 1, j + 1, w, h => by
    obtain ⟨a, b⟩ := clr_get t i j w (by simpa [clr] using h)
    exact ⟨by omega, by simpa using b⟩
theorem stl_get : ∀ (ls : Lo) (i : Nat) (v : Sv) (j : Nat) (w : Sv), (stl ls i v)[j]? = some (some w) → (j = i ∧ w = v) ∨ (j ≠ i ∧ ls[j]? = some (some w) ∧ ¬ (j + 1 = i ∧ ∃ a, w = .inr (.inl a)))
  | [], i, v, j, w, h => by simp [stl] at h
  | x :: t, 0, v, 0, w, h => by simp [stl] at h; exact Or.inl ⟨rfl, h.symm⟩
  | x :: t, 0, v, j + 1, w, h => by
    refine Or.inr ⟨by omega, by simpa [stl] using h, fun q => by omega⟩
  | x :: t, 1, v, 0, w, h => by
    refine Or.inr ⟨by omega, ?_, ?_⟩
    · simp only [stl, List.getElem?_cons_zero] at h
      split at h
      · cases h
      · simpa using h
    · rintro ⟨-, a, rfl⟩
      simp only [stl, List.getElem?_cons_zero] at h
      split at h
      · cases h
      · rename_i q
        exact q a (Option.some.inj h)
  | x :: t, 1, v, j + 1, w, h => by
    have h' : (stl t 0 v)[j]? = some (some w) := by simpa [stl] using h
    rcases stl_get t 0 v j w h' with ⟨a, b⟩ | ⟨a, b, c⟩
    · exact Or.inl ⟨by omega, b⟩
    · exact Or.inr ⟨by omega, by simpa using b, fun q => by omega⟩
  | x :: t, n + 2, v, 0, w, h => by
    exact Or.inr ⟨by omega, by simpa [stl] using h, fun q => by omega⟩
  | x :: t, n + 2, v, j + 1, w, h => by
    have h' : (stl t (n + 1) v)[j]? = some (some w) := by simpa [stl] using h
    rcases stl_get t (n + 1) v j w h' with ⟨a, b⟩ | ⟨a, b, c⟩
    · exact Or.inl ⟨by omega, b⟩
    · exact Or.inr ⟨by omega, by simpa using b, fun q => c ⟨by omega, q.2⟩⟩
theorem stl2_get (ls : Lo) (i : Nat) (v : Sv) (j : Nat) (w : Sv) (h : (stl2 ls i v)[j]? = some (some w)) : (j = i ∧ w = v) ∨ (j ≠ i ∧ j ≠ i + 1 ∧ ls[j]? = some (some w) ∧ ¬ (j + 1 = i ∧ ∃ a, w = .inr (.inl a))) := by
  obtain ⟨h1, h2⟩ := clr_get _ _ _ _ h
  rcases stl_get ls i v j w h2 with a | ⟨a, b, c⟩
  · exact Or.inl a
  · exact Or.inr ⟨a, h1, b, c⟩
theorem dn_cat2 {ad : Nat → Nat} {w : Sv} (h : (dn ad w).category = 2) : ∃ a, w = .inr (.inl a) := by
  match w with
  | .inl a => cases h
  | .inr (.inl a) => exact ⟨a, rfl⟩
  | .inr (.inr k) => cases h
theorem zLH.set1 {ad : Nat → Nat} {lsA : Array Slot} {nL : Nat} {ls : Lo} {i : Nat} {v : Sv} (h : zLH ad lsA nL ls) (hi : i < nL) (hc : (dn ad v).category = 1) : ∃ l, lv_has lsA nL l ∧ ∀ lsB : Array Slot, lv_has lsB nL ((i, dn ad v) :: l.filter (fun q => !(q.1 == i) && !(q.1 + 1 == i && q.2.category == 2))) → zLH ad lsB nL (stl ls i v) := by
  obtain ⟨l, h1, h2⟩ := h
  refine ⟨l, h1, fun lsB hB => ⟨_, hB, fun j w hj => ?_⟩⟩
  rcases stl_get ls i v j w hj with ⟨rfl, rfl⟩ | ⟨a, b, c⟩
  · exact List.mem_cons_self
  · refine List.mem_cons_of_mem _ (List.mem_filter.mpr ⟨h2 j w b, ?_⟩)
    have e1 : (j == i) = false := by simp [a]
    simp only [e1, Bool.not_false, Bool.true_and, Bool.not_eq_true', Bool.and_eq_false_iff]
    by_cases hj2 : j + 1 = i
    · right
      have : ¬ (dn ad w).category = 2 := fun q => c ⟨hj2, dn_cat2 q⟩
      simp [this]
    · left
      simp [hj2]
theorem zLH.set2 {ad : Nat → Nat} {lsA : Array Slot} {nL : Nat} {ls : Lo} {i : Nat} {v : Sv} (h : zLH ad lsA nL ls) : ∃ l, lv_has lsA nL l ∧ ∀ lsB : Array Slot, lv_has lsB nL ((i, dn ad v) :: l.filter (fun q => !(q.1 == i) && (!(q.1 == i + 1) && !(q.1 + 1 == i && q.2.category == 2)))) → zLH ad lsB nL (stl2 ls i v) := by
  obtain ⟨l, h1, h2⟩ := h
  refine ⟨l, h1, fun lsB hB => ⟨_, hB, fun j w hj => ?_⟩⟩
  rcases stl2_get ls i v j w hj with ⟨rfl, rfl⟩ | ⟨a, a2, b, c⟩
  · exact List.mem_cons_self
  · refine List.mem_cons_of_mem _ (List.mem_filter.mpr ⟨h2 j w b, ?_⟩)
    have e1 : (j == i) = false := by simp [a]
    have e2 : (j == i + 1) = false := by simp [a2]
    simp only [e1, e2, Bool.not_false, Bool.true_and, Bool.not_eq_true', Bool.and_eq_false_iff]
    by_cases hj2 : j + 1 = i
    · right
      have : ¬ (dn ad w).category = 2 := fun q => c ⟨hj2, dn_cat2 q⟩
      simp [this]
    · left
      simp [hj2]
