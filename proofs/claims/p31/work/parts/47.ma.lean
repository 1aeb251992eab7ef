/-! multianewarray of 4 rows of 256 ints; anewarray; a row's reference stored -/
def mO (cA : ClassId) (h i : Nat) : Cell := arrV cA 4 (fun j => if j < i then .ref (h + 1 + j) else .null)
def mI (c0 : ClassId) : Cell := arrV c0 256 (fun _ => .int 0)
def mS (T : State) (cA c0 : ClassId) : Nat → State
  | 0 => T.pushCell (mO cA T.heap.size 0)
  | i + 1 => ((mS T cA c0 i).pushCell (mI c0)).setCell T.heap.size (mO cA T.heap.size (i + 1))
theorem mO_next (cA : ClassId) (h i : Nat) : (mO cA h i).setSlot i (.ref (h + 1 + i)) = mO cA h (i + 1) := by
  unfold mO
  rw [arrV_store]
  congr 1
  funext j
  unfold updV
  by_cases hj : j = i
  · subst hj
    rw [if_pos rfl, if_pos (by omega)]
  · rw [if_neg hj]
    show (if j < i then Value.ref (h + 1 + j) else Value.null) = (if j < i + 1 then Value.ref (h + 1 + j) else Value.null)
    by_cases h2 : j < i
    · rw [if_pos h2, if_pos (by omega)]
    · rw [if_neg h2, if_neg (by omega)]
theorem mO_zero (cA : ClassId) (h : Nat) : mO cA h 0 = { cls := cA, slots := Array.replicate 4 .null, vm := .none } := by
  rw [arrV_new]
  unfold mO
  congr 1
theorem mS_facts (T : State) (cA c0 : ClassId) : ∀ i, (mS T cA c0 i).heap.size = T.heap.size + 1 + i ∧ (mS T cA c0 i).heap[T.heap.size]? = some (mO cA T.heap.size i) ∧ (mS T cA c0 i).vm = T.vm ∧ (mS T cA c0 i).slotsUsed = T.slotsUsed + 4 + i * 256
  | 0 => ⟨by simp [mS], by simp [mS], rfl, by simp [mS, mO, arrV]⟩
  | i + 1 => by
    obtain ⟨a, b, d, u⟩ := mS_facts T cA c0 i
    have hlt : T.heap.size < (mS T cA c0 i).heap.size := by omega
    have hb' : ((mS T cA c0 i).pushCell (mI c0)).heap[T.heap.size]? = some (mO cA T.heap.size i) := by rw [State.heap_pushCell_of_lt (h := hlt)]; exact b
    refine ⟨?_, State.heap_setCell_self hb', by simp [mS, d], ?_⟩
    · simp [mS, State.setCell, a]; omega
    · simp [mS, u, mI, arrV]; omega
theorem mS_setTop (s : State) (f : JFrame) (cA c0 : ClassId) : ∀ i, mS (s.setTop f) cA c0 i = (mS s cA c0 i).setTop f
  | 0 => rfl
  | i + 1 => by simp only [mS, mS_setTop s f cA c0 i, State.heap_setTop, State.pushCell_setTop, State.setCell_setTop]
theorem mS_old (s : State) (cA c0 : ClassId) {a : Addr} (ha : a < s.heap.size) : ∀ i, (mS s cA c0 i).heap[a]? = s.heap[a]?
  | 0 => State.heap_pushCell_of_lt _ _ ha
  | i + 1 => by
    have f1 := (mS_facts s cA c0 i).1
    have hlt : a < (mS s cA c0 i).heap.size := Nat.lt_of_lt_of_le ha (by rw [f1]; omega)
    show (((mS s cA c0 i).pushCell (mI c0)).setCell s.heap.size _).heap[a]? = _
    rw [State.heap_setCell_other (Nat.ne_of_gt ha), State.heap_pushCell_of_lt (h := hlt)]
    exact mS_old s cA c0 ha i
theorem mS_in (s : State) (cA c0 : ClassId) : ∀ i j, j < i → (mS s cA c0 i).heap[s.heap.size + 1 + j]? = some (mI c0)
  | 0, _, h => absurd h (Nat.not_lt_zero _)
  | i + 1, j, h => by
    have f1 := (mS_facts s cA c0 i).1
    show (((mS s cA c0 i).pushCell (mI c0)).setCell s.heap.size _).heap[s.heap.size + 1 + j]? = _
    rw [State.heap_setCell_other (show s.heap.size ≠ s.heap.size + 1 + j by omega)]
    rcases Nat.lt_or_ge j i with hj | hj
    · rw [State.heap_pushCell_of_lt (h := show s.heap.size + 1 + j < (mS s cA c0 i).heap.size by omega)]
      exact mS_in s cA c0 i j hj
    · have e0 : j = i := by omega
      subst e0
      rw [← f1]
      exact State.heap_pushCell_size _ _
section
variable {E : CtlPost} {e : Env} {d : Bool} {acts : List Action} {s : State}
theorem mw_in {c0 cc : ClassId} {k0 : Class} (hk0 : s.vm.classes[c0]? = some k0) (hkind : k0.kind = .array cc .int) (hl : 256 ≤ e.platform.arrayLengthLimit) (hh : 1024 ≤ e.platform.maxHeapBytes) (h1 : s.heap.size < e.platform.maxCells) (h2 : s.slotsUsed + 256 ≤ e.platform.maxSlots) {Q : Addr → Pre} (hq : ∀ acts', Q s.heap.size d acts' (s.pushCell (mI c0))) : wp (multianewarray.make c0 [256]) Q E e d acts s := by
  rw [multianewarray.make]
  have hn : ¬ ((256 : Int32) < 0) := by decide
  simp only [wp_bind', W.ite, hn, if_false, wp_pure', W.theClass, hk0, hkind, Option.some.injEq, exists_eq_left']
  refine W.newArray_of hk0 hkind (show ¬ 256 > e.platform.arrayLengthLimit by omega) (show ¬ 1024 > e.platform.maxHeapBytes by omega) h1 h2 rfl (fun acts' => ?_)
  have e0 : ({ cls := c0, slots := Array.replicate (256 : Int32).toNatClampNeg (defaultValue .int), vm := .none } : Cell) = mI c0 := by
    rw [arrV_new]
    rfl
  have := hq acts'
  rw [← e0] at this
  exact this
theorem mw_make {cA c0 cc : ClassId} {kA k0 : Class} (hkA : s.vm.classes[cA]? = some kA) (hkindA : kA.kind = .array c0 (.array .int)) (hk0 : s.vm.classes[c0]? = some k0) (hkind : k0.kind = .array cc .int) (hl : 256 ≤ e.platform.arrayLengthLimit) (hh : 1024 ≤ e.platform.maxHeapBytes) (hc : s.heap.size + 5 ≤ e.platform.maxCells) (hs : s.slotsUsed + 1028 ≤ e.platform.maxSlots) {Q : Addr → Pre} (hq : ∀ d' acts', Q s.heap.size d' acts' (mS s cA c0 4)) : wp (multianewarray.make cA [4, 256]) Q E e d acts s := by
  rw [multianewarray.make]
  have hn : ¬ ((4 : Int32) < 0) := by decide
  have hfind : ([(256 : Int32)].find? (· < 0)) = none := by decide
  have h4 : (4 : Int32).toNatClampNeg = 4 := by decide
  simp only [wp_bind', W.ite, hn, if_false, wp_pure', W.theClass, hkA, hkindA, Option.some.injEq, exists_eq_left', h4]
  refine W.newArray_of hkA hkindA (show ¬ 4 > e.platform.arrayLengthLimit by omega) (show ¬ 16 > e.platform.maxHeapBytes by omega) (by omega) (by omega) rfl (fun acts1 => ?_)
  simp only [hfind]
  rw [ite_self, wp_bind', Std.Legacy.Range.forIn_eq_forIn_range']
  have hsz : ([:4] : Std.Legacy.Range).size = 4 := by simp [Std.Legacy.Range.size]
  rw [hsz]
  show wp (forIn (List.range' 0 4 1) PUnit.unit _) _ E e d acts1 _
  refine wp_forIn_inv (fun rest s' => ∃ i, i ≤ 4 ∧ rest = List.range' i (4 - i) ∧ s' = mS s cA c0 i) _ _ ⟨0, Nat.zero_le _, rfl, by rw [mS, mO_zero]⟩ ?_ ?_
  · rintro x rest s' d' acts' Q' ⟨i, hi, hr, rfl⟩ hnext
    have hlt : i < 4 := by
      rcases Nat.lt_or_ge i 4 with h | h
      · exact h
      · rw [show 4 - i = 0 from by omega] at hr; simp at hr
    obtain ⟨rfl, hrest⟩ : x = i ∧ rest = List.range' (i + 1) (4 - (i + 1)) := by
      rw [show 4 - i = (4 - (i + 1)) + 1 from by omega, List.range'_succ] at hr
      exact ⟨(List.cons.inj hr).1, (List.cons.inj hr).2⟩
    obtain ⟨f1, f2, f3, f4⟩ := mS_facts s cA c0 x
    simp only [wp_bind']
    refine mw_in (by rw [f3]; exact hk0) hkind hl hh (by rw [f1]; omega) (by rw [f4]; omega) (fun acts2 => ?_)
    have hlt0 : s.heap.size < (mS s cA c0 x).heap.size := by rw [f1]; omega
    simp only [wp_bind', W.writeLoc, wp_pure']
    refine ⟨mO cA s.heap.size x, by rw [State.heap_pushCell_of_lt (h := hlt0)]; exact f2, by simp [mO, arrV], by simp [mO, arrV, hlt], ?_, hnext _ _ _ ⟨x + 1, hlt, hrest, ?_⟩⟩
    · simp [mO, arrV, State.fitsSlot, State.slotType?, f3, hkA, hkindA, fits]
    · rw [f1, mO_next]; rfl
  · rintro s' d' acts' ⟨i, hi, hr, rfl⟩
    have hiN : i = 4 := by
      rcases Nat.lt_or_ge i 4 with h | h
      · rw [show 4 - i = (4 - (i + 1)) + 1 from by omega, List.range'_succ] at hr; cases hr
      · omega
    subst hiN
    simp only [wp_pure']
    exact hq _ _
end
theorem mX {p : Program} {l : Launch} {e : Env} {R : Room} {s : State} {m : MethodId} {args : Array Value} {below : List Frame} {meth : Method} {c : Code} {T : State} {locs : List Loc} {cells slots : Nat} (X : Stand p l e R s m args below meth c T locs cells slots) (cA c0 : ClassId) :
    ∀ i, Stand p l e R s m args below meth c (mS T cA c0 i) (locs ++ (List.range i).map fun j => ⟨T.heap.size, j⟩) (cells + 1 + i) (slots + 4 + i * 256)
  | 0 => by
    have h := X.pushed (mO cA T.heap.size 0)
    rw [show (mO cA T.heap.size 0).slots.size = 4 by simp [mO, arrV]] at h
    simpa [mS] using h
  | i + 1 => by
    have Xi := mX X cA c0 i
    obtain ⟨f1, f2, f3, f4⟩ := mS_facts T cA c0 i
    have hlt0 : T.heap.size < (mS T cA c0 i).heap.size := by rw [f1]; omega
    have hcell : ((mS T cA c0 i).pushCell (mI c0)).heap[T.heap.size]? = some (mO cA T.heap.size i) := by rw [State.heap_pushCell_of_lt (h := hlt0)]; exact f2
    have h := (Xi.pushed (mI c0)).stored hcell i (.ref (T.heap.size + 1 + i))
    rw [show (mI c0).slots.size = 256 by simp [mI, arrV], mO_next] at h
    have e2 : (locs ++ (List.range (i + 1)).map fun j => (⟨T.heap.size, j⟩ : Loc)) = (locs ++ (List.range i).map fun j => (⟨T.heap.size, j⟩ : Loc)) ++ [⟨T.heap.size, i⟩] := by simp [List.range_succ, List.append_assoc]
    rw [e2, show slots + 4 + (i + 1) * 256 = slots + 4 + i * 256 + 256 by omega]
    exact h
theorem nP_app {D : va_G} {b n j : Nat} {ws w : va_W} {H H1 : Heap} (hP : nP D b n ws H) (z1 : H1.size = b + n + j) (o1 : ∀ q, q < b + n → H1[q]? = H[q]?) (hw : va_P D vwCl w H1) (ha : ∀ (k : Nat) (q : Nat × va_E), w[k]? = some q → q.1 = b + n + k) : nP D b (n + j) (ws ++ w) H1 := by
  obtain ⟨hz, hPP, hDD⟩ := hP
  refine ⟨by omega, (hPP.kept (fun k q hq => o1 q.1 (by have := (hPP k q hq).lt; omega))).app hw, va_D.app hDD ⟨fun i j x y hx hy hxy => ?_, fun k q hq => ?_⟩ (fun i j x y hx hy hxy => ?_)⟩
  · have := ha i x hx
    have := ha j y hy
    omega
  · have := ha k q hq
    show b ≤ q.1
    omega
  · have h1 := (hPP i x hx).lt
    have h2 := ha j y hy
    omega
/-- rows of zeros -/
abbrev zI (cA : ClassId) (N : Nat) : va_E := .inl (cA, N, .inl (fun _ => 0))
abbrev zJ (cA : ClassId) (N : Nat) : va_E := .inl (cA, N, .inr (.inl (fun _ => 0)))
abbrev zR (cA : ClassId) (N : Nat) (f : Nat → Option Nat) : va_E := .inl (cA, N, .inr (.inr (.inr (.inr f))))
def w5 (ca : Nat → ClassId) (h : Nat) : va_W := [(h, zR (ca 5) 4 (fun j => if j < 4 then some (h + 1 + j) else none)), (h + 1, zI (ca 0) 256), (h + 2, zI (ca 0) 256), (h + 3, zI (ca 0) 256), (h + 4, zI (ca 0) 256)]
section Nw2
variable {p : Program} {l : Launch} {e : Env} {s : State} {m : MethodId} {args : Array Value} {below : List Frame} {meth : Method} {c : Code} {H H0 : Heap} {locs : List Loc} {cells slots : Nat} {Q : State → Prop} {pc pc' : Nat} {ls : Array Slot} {rest : List Value} {D : va_G} {ca : Nat → ClassId} {μ : Mt} {b n : Nat} {ws : va_W}
theorem nw_multi (C : nCx D ca μ p s m args meth c) {idx : Nat} (hcl : Cond.classLink μ.2.2.2.1 idx "[[I" ∈ gT) (hc : cells + 5 ≤ μ.2.2.2.2.cells) (hs : slots + 1028 ≤ μ.2.2.2.2.slots) (hP : nP D b n ws H) (hS : nS b H0 H locs) (hdg : decode μ.1 pc = .ok (.multianewarray idx 2, 4)) (hp : pc + 4 = pc')
    (kk : ∀ (H1 : Heap) (locs1 : List Loc), nP D b (n + 5) (ws ++ w5 ca (b + n)) H1 → nS b H0 H1 locs1 → W p l e μ.2.2.2.2 s m args below meth c H1 locs1 (cells + 5) (slots + 1028) Q (F0 m pc' ls (.ref (b + n) :: rest))) : W p l e μ.2.2.2.2 s m args below meth c H locs cells slots Q (F0 m pc ls (.int 256 :: .int 4 :: rest)) := by
  subst hp
  obtain ⟨hx, hb, -, -, -, hown, hts, hK, hAO, kA, hkA, hkindA⟩ := C
  intro T hT X
  subst hT
  have hpl : e.platform.magicAccessors = ({} : Platform).magicAccessors := by rw [X.admits.platform]
  have hnameA : s.vm.findClass "[[I" = some (ca 5) := (hK.2 5 _ rfl).2
  obtain ⟨-, k0, hk0, cc, hkind0⟩ := (hK.2 0 _ rfl).1 0 (fun _ => .null)
  have hk0 : s.vm.classes[ca 0]? = some k0 := hk0
  obtain ⟨c5, hfc0, hclk⟩ := Cond.classLink_spec hown (hts _ hcl) e.platform hpl
  cases hnameA.symm.trans hfc0
  obtain ⟨hg₁, hwarm₁, hready₁⟩ := State.classEntry (e := e) X.warmed hclk
  generalize T.vm.noted m.cls idx (.cls (ca 5)) = vm₁ at hg₁ hwarm₁ hready₁
  have hal : s.vm.Alike vm₁ := hwarm₁.alike
  obtain ⟨kA₁, hkA₁, heA⟩ := hal.2.2 _ _ hkA
  obtain ⟨k0₁, hk0₁, he0⟩ := hal.2.2 _ _ hk0
  have hkindA₁ : kA₁.kind = .array (ca 0) (.array .int) := by rw [heA]; exact hkindA
  have hkind0₁ : k0₁.kind = .array cc .int := by rw [he0]; exact hkind0
  have X₁ := X.noted hwarm₁
  obtain ⟨hr1, hr2⟩ := X.roomAbove hc hs
  have XF := mX X₁ (ca 5) (ca 0) 4
  obtain ⟨f1, f2, f3, f4⟩ := mS_facts (T.setVm vm₁) (ca 5) (ca 0) 4
  have hz : T.heap.size = b + n := hP.1
  have g1 : (mS (T.setVm vm₁) (ca 5) (ca 0) 4).heap.size = b + n + 5 := by rw [f1]; show T.heap.size + 1 + 4 = _; omega
  have go : ∀ q, q < b + n → (mS (T.setVm vm₁) (ca 5) (ca 0) 4).heap[q]? = T.heap[q]? := fun q hq => mS_old (T.setVm vm₁) (ca 5) (ca 0) (by show q < T.heap.size; omega) 4
  have gw : va_P D vwCl (w5 ca (b + n)) (mS (T.setVm vm₁) (ca 5) (ca 0) 4).heap := by
    have hin : ∀ j, j < 4 → (mS (T.setVm vm₁) (ca 5) (ca 0) 4).heap[b + n + 1 + j]? = some (mI (ca 0)) := fun j hj => by
      have := mS_in (T.setVm vm₁) (ca 5) (ca 0) 4 j hj
      rw [show (T.setVm vm₁).heap.size = b + n from hz] at this
      exact this
    intro k q hq
    match k, hq with
    | 0, hq =>
      cases hq
      show (mS (T.setVm vm₁) (ca 5) (ca 0) 4).heap[b + n]? = some (vp_cell _ _)
      rw [show (T.setVm vm₁).heap.size = b + n from hz] at f2
      rw [f2, vp_cell_q]
      have hf : (fun j => if j < 4 then Value.ref (b + n + 1 + j) else Value.null) = (fun j => va_rf (if j < 4 then some (b + n + 1 + j) else none)) := by
        funext j
        by_cases hj : j < 4
        · rw [if_pos hj, if_pos hj]; rfl
        · rw [if_neg hj, if_neg hj]; rfl
      unfold mO
      rw [hf]
    | 1, hq => cases hq; exact hin 0 (by decide)
    | 2, hq => cases hq; exact hin 1 (by decide)
    | 3, hq => cases hq; exact hin 2 (by decide)
    | 4, hq => cases hq; exact hin 3 (by decide)
    | k + 5, hq => simp [w5] at hq
  have ga : ∀ (k : Nat) (q : Nat × va_E), (w5 ca (b + n))[k]? = some q → q.1 = b + n + k := by
    intro k q hq
    match k, hq with
    | 0, hq => cases hq; rfl
    | 1, hq => cases hq; rfl
    | 2, hq => cases hq; rfl
    | 3, hq => cases hq; rfl
    | 4, hq => cases hq; rfl
    | k + 5, hq => simp [w5] at hq
  have hS1 : nS b H0 (mS (T.setVm vm₁) (ca 5) (ca 0) 4).heap (locs ++ (List.range 4).map fun j => ⟨T.heap.size, j⟩) := by
    refine ⟨Nat.le_trans hS.1 (by omega), fun q h1 h2 => (go q (by have := hS.1; omega)).trans (hS.2.1 q h1 h2), fun q hq => ?_⟩
    rcases List.mem_append.mp hq with h | h
    · exact hS.2.2 q h
    · obtain ⟨j, -, rfl⟩ := List.mem_map.mp h
      show b ≤ T.heap.size
      omega
  obtain ⟨t, a1, b1⟩ := kk _ _ (nP_app hP g1 go gw ga) hS1 (mS (T.setVm vm₁) (ca 5) (ca 0) 4) rfl (by simpa [Nat.add_assoc] using XF)
  refine ⟨t, ?_, b1⟩
  have hcd : decode c.code pc = .ok (.multianewarray idx 2, 4) := by rw [hb]; exact hdg
  jvm_step X.here [hx, hcd]
  simp only [multianewarray.sem, wp_bind', W.resolveClassAt_links (State.method?_setTop (F0 m pc ls (.int 256 :: .int 4 :: rest)) X.here.top) hg₁]
  rw [W.popN, if_neg (by decide)]
  refine ⟨F0 m pc ls (.int 256 :: .int 4 :: rest), State.topJava?_setTop' (s := T.setVm vm₁) _ X.here.top, [.int 4, .int 256], rest, rfl, rfl, ?_⟩
  simp only [List.mapM_cons, List.mapM_nil, wp_bind', wp_pure']
  refine mw_make (kA := kA₁) (k0 := k0₁) (cc := cc) hkA₁ hkindA₁ hk0₁ hkind0₁ (by rw [Launch.admits_arrayLengthLimit X.admits]; omega) (by rw [Launch.admits_maxHeapBytes X.admits]; omega) (by show T.heap.size + 5 ≤ _; omega) (by show T.slotsUsed + 1028 ≤ _; omega) (fun d' acts' => ?_)
  have eS : ((T.setTop (F0 m pc ls (.int 256 :: .int 4 :: rest))).setVm vm₁).setTop { (F0 m pc ls (.int 256 :: .int 4 :: rest)) with stack := rest } = (T.setVm vm₁).setTop { (F0 m pc ls (.int 256 :: .int 4 :: rest)) with stack := rest } := by
    show ((T.setVm vm₁).setTop _).setTop _ = _
    rw [State.setTop_setTop]
  rw [eS, mS_setTop]
  simp only [wp_bind', W.mark, W.pushRef, State.topJava?_setTop' _ XF.here.top, Option.some.injEq, exists_eq_left', State.setTop_setTop, State.heap_setTop]
  intro acts
  simp [jvm, XF.here.top]
  rw [hz]
  exact a1
theorem nw_newq (C : nCx D ca μ p s m args meth c) {idx N : Nat} (hcl : Cond.classLink μ.2.2.2.1 idx "RawPictures$Sheet" ∈ gT) {x : Int32} (hn : ¬ x < 0) (hN : x.toNatClampNeg = N) (hby : N * 4 ≤ 536870912) (hc : cells + 1 ≤ μ.2.2.2.2.cells) (hs : slots + N ≤ μ.2.2.2.2.slots) (hP : nP D b n ws H) (hS : nS b H0 H locs) (hdg : decode μ.1 pc = .ok (.anewarray idx, 3)) (hp : pc + 3 = pc')
    (kk : ∀ H1 : Heap, nP D b (n + 1) (ws ++ [(b + n, zR (ca 4) N (fun _ => none))]) H1 → nS b H0 H1 locs → W p l e μ.2.2.2.2 s m args below meth c H1 locs (cells + 1) (slots + N) Q (F0 m pc' ls (.ref (b + n) :: rest))) : W p l e μ.2.2.2.2 s m args below meth c H locs cells slots Q (F0 m pc ls (.int x :: rest)) := by
  subst hp
  subst hN
  obtain ⟨hx, hb, -, -, -, hown, hts, hK, hAO, -⟩ := C
  refine W.anew hx hb hown (hts _ hcl) (va_AO.use hAO) rfl hdg rfl hn hby hc hs fun cA kA comp f1 f2 f3 f4 => ?_
  have hcA : cA = ca 4 := by
    obtain ⟨_, _, -, -, -, h4⟩ := (hK.2 4 _ rfl).2
    exact Option.some.inj (f1.symm.trans h4)
  subst hcA
  have hz := hP.1
  generalize hH1 : H.push ({ cls := ca 4, slots := Array.replicate x.toNatClampNeg .null, vm := .none } : Cell) = H1
  have z1 : H1.size = b + n + 1 := by rw [← hH1, Array.size_push, hz]
  have e1 : H1[b + n]? = some (arrV (ca 4) x.toNatClampNeg (fun _ => .null)) := by rw [← hH1, ← hz, Array.getElem?_push_size, ← arrV_new]
  have o1 : ∀ q : Nat, q < b + n → H1[q]? = H[q]? := fun q hq => by rw [← hH1, Array.getElem?_push, if_neg (by omega)]
  refine W.eq (g2 := F0 m (pc + 3) ls (.ref (b + n) :: rest)) (by rw [hz]) ?_
  exact kk H1 (nP_push hP z1 o1 e1) (nS_push hz hS z1 o1)
theorem nw_ast (C : nCx D ca μ p s m args meth c) {x0 : Nat × va_E} {a N v : Nat} {f : Nat → Option Nat} {vs : List Value} (hP : nP D b n (x0 :: (a, zR (ca 4) N f) :: ws) H) (hv : (v, (.inr (8, vs) : va_E)) ∈ ws) (hS : nS b H0 H locs) {i : Int32} {j : Nat} (hj : i.toNatClampNeg = j) (hin : vp_in i N) {f' : Nat → Option Nat} (hf : va_up f j (some v) = f') (hdg : decode μ.1 pc = .ok (.aastore, 1)) (hp : pc + 1 = pc')
    (kk : ∀ (H1 : Heap) (locs1 : List Loc), nP D b n (x0 :: (a, zR (ca 4) N f') :: ws) H1 → nS b H0 H1 locs1 → W p l e μ.2.2.2.2 s m args below meth c H1 locs1 cells slots Q (F0 m pc' ls rest)) : W p l e μ.2.2.2.2 s m args below meth c H locs cells slots Q (F0 m pc ls (.ref v :: .int i :: .ref a :: rest)) := by
  subst hp
  subst hf
  subst hj
  obtain ⟨hx, hb, -, -, -, hown, hts, hK, -⟩ := C
  obtain ⟨hz, hPP, hDD⟩ := hP
  obtain ⟨qk, hqk⟩ := List.getElem?_of_mem hv
  have hlt : i.toNatClampNeg < N := Nat.not_le.mp fun q => hin (Or.inr q)
  have h0 : ¬ i < 0 := fun q => hin (Or.inl q)
  obtain ⟨r', hr', cellV, g1, g2, g3, -⟩ := hPP (qk + 2) (v, .inr (8, vs)) (by simpa using hqk)
  have hcls := (hK.1 8 _ rfl).2
  obtain ⟨kA, comp, k1, k2, k3, -⟩ := (hK.2 4 _ rfl).2
  have hcomp : comp = D.1 8 := Option.some.inj (k3.symm.trans hcls.1)
  subst hcomp
  obtain ⟨kC, hkC, -⟩ := hcls.2
  have h1 : ((x0 :: (a, zR (ca 4) N f) :: ws : va_W))[1]? = some (a, zR (ca 4) N f) := rfl
  refine W.aast hx hb (hPP 1 _ h1) (fun q h => by cases h) (fun h => by cases h) k1 k2 rfl hkC ⟨h0, by show _ < (arrV _ _ _).slots.size; rw [arrV_size]; exact hlt⟩ g1 (fun q h => by rw [g3] at h; cases h) (by rw [g2]; exact hkC) (by rw [g2]; exact va_assign hcls) rfl rfl hdg fun H1 e1 z1 oq => ?_
  refine kk H1 _ ⟨by rw [z1]; exact hz, hPP.set hDD h1 ?_ oq, hDD.set h1⟩ (hS.put z1 oq (hDD.2 1 _ h1))
  show H1[a]? = some (vp_cell _ _)
  rw [e1]
  rw [vp_cell_q, vp_cell_q, arrV_store]
  congr 2
  funext q
  by_cases hq : q = i.toNatClampNeg
  · subst hq
    simp [updV, va_up, va_rf]
  · simp [updV, va_up, hq]
end Nw2
