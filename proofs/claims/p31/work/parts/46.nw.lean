/-! cells in the making: from b on there are n cells; those of the list are known -/
def nty (ca : Nat → ClassId) : List (ClassId × FieldType) := [(ca 0, .int), (ca 1, .boolean), (ca 2, .byte), (ca 3, .long), (ca 4, .object "RawPictures$Sheet"), (ca 5, .array .int)]
def nP (D : va_G) (b n : Nat) (ws : va_W) (H : Heap) : Prop := H.size = b + n ∧ va_P D vwCl ws H ∧ va_D (fun q => b ≤ q) ws
def nK (D : va_G) (ca : Nat → ClassId) (U : State) : Prop := va_K D vwCl (nty ca) U ∧ va_AO "RawPictures$Sheet" U ∧ ∃ k : Class, U.vm.classes[ca 5]? = some k ∧ k.kind = .array (ca 0) (.array .int)
abbrev nS (b : Nat) (H0 H : Heap) (locs : List Loc) : Prop := va_S (fun q => b ≤ q) H0 H locs
theorem nK.moved {D : va_G} {ca : Nat → ClassId} {u U : State} (hvm : u.vm.Alike U.vm) (h : nK D ca u) : nK D ca U := by
  obtain ⟨h1, h2, k, h3, h4⟩ := h
  obtain ⟨k', hk', he⟩ := hvm.2.2 _ _ h3
  exact ⟨va_K.moved hvm h1, va_AO.moved hvm h2, k', hk', by rw [he]; exact h4⟩
/-- what holds throughout a body that makes cells -/
def nCx (D : va_G) (ca : Nat → ClassId) (μ : Mt) (p : Program) (s : State) (m : MethodId) (args : Array Value) (meth : Method) (c : Code) : Prop :=
  p.tables.exec = Jvm.exec ∧ c.code = μ.1 ∧ c.maxLocals = μ.2.1 ∧ meth.sig.returnType = μ.2.2.1 ∧ meth.locks = false ∧ s.vm.findClass μ.2.2.2.1 = some m.cls ∧ (∀ w ∈ gT, w.before args s = true) ∧ nK D ca s
/-- a constructor's contract: its object lies at b, the last cell there is, as e0; behind it there are k cells more, as w1 says -/
def nQ (D : va_G) (b k : Nat) (w1 : va_W) : Array Value → State → Outcome → State → Prop := va_Qv (fun _ : Unit => True) (fun _ t => nP D b (1 + k) w1 t.heap) (fun q => b ≤ q)
def nM (l : Launch) (D : va_G) (ca : Nat → ClassId) (μ : Mt) (y : MethodName) (As : List Value) (b : Nat) (e0 : va_E) (k : Nat) (w1 : va_W) : Prop :=
  Met l y (.code y μ.1 μ.2.1 none :: gT) μ.2.2.2.2 (va_Pc (.ref b :: As) (fun U => nP D b 1 [(b, e0)] U.heap ∧ nK D ca U)) (nQ D b k w1) μ.2.2.2.2.cells μ.2.2.2.2.slots (fun q => b ≤ q)
theorem nP_last {D : va_G} {b n : Nat} {ws : va_W} {e0 : va_E} {H : Heap} (h : nP D b (n + 1) (ws ++ [(b + n, e0)]) H) : nP D (b + n) 1 [(b + n, e0)] H ∧ ∀ (k : Nat) (q : Nat × va_E), ws[k]? = some q → q.1 < b + n := by
  obtain ⟨hz, hP, hD⟩ := h
  have hl : (ws ++ [(b + n, e0)])[ws.length]? = some (b + n, e0) := by simp
  refine ⟨⟨by omega, fun k q hq => ?_, fun i j x y hx hy _ => ?_, fun k q hq => ?_⟩, fun k q hq => ?_⟩
  · have hk : k < 1 := (List.getElem?_eq_some_iff.mp hq).1
    rw [show k = 0 by omega] at hq
    cases hq
    exact hP _ _ hl
  · have hi : i < 1 := (List.getElem?_eq_some_iff.mp hx).1
    have hj : j < 1 := (List.getElem?_eq_some_iff.mp hy).1
    omega
  · have hk : k < 1 := (List.getElem?_eq_some_iff.mp hq).1
    rw [show k = 0 by omega] at hq
    cases hq
    exact Nat.le_refl _
  · have hk : k < ws.length := (List.getElem?_eq_some_iff.mp hq).1
    have hq' : (ws ++ [(b + n, e0)])[k]? = some q := by rw [List.getElem?_append_left hk]; exact hq
    have h1 := (hP k q hq').lt
    have h2 : q.1 ≠ b + n := fun z => by
      have := hD.1 k ws.length q (b + n, e0) hq' hl z
      omega
    omega
section Nw
variable {p : Program} {l : Launch} {e : Env} {s : State} {m : MethodId} {args : Array Value} {below : List Frame} {meth : Method} {c : Code} {H H0 : Heap} {locs : List Loc} {cells slots : Nat} {Q : State → Prop} {pc pc' : Nat} {ls : Array Slot} {rest : List Value} {D : va_G} {ca : Nat → ClassId} {μ : Mt} {b n : Nat} {ws : va_W}
theorem nw_obj (C : nCx D ca μ p s m args meth c) {idx a : Nat} (h1 : Cond.methodLink μ.2.2.2.1 idx Lib.objectInit ∈ gT) (h2 : Cond.instanceMethod Lib.objectInit ∈ gT) (h3 : Cond.code Lib.objectInit ⟨#[0xb1]⟩ 1 none ∈ gT) (hsz : ls.size = μ.2.1) (hd : decode μ.1 pc = .ok (.invokespecial idx, 3)) (hf : 1 ≤ μ.2.2.2.2.frames) (hl : (rest.map fun v => v.category).sum + 12 ≤ μ.2.2.2.2.locals) (hp : pc + 3 = pc')
    (kk : W p l e μ.2.2.2.2 s m args below meth c H locs cells slots Q (F0 m pc' ls rest)) : W p l e μ.2.2.2.2 s m args below meth c H locs cells slots Q (F0 m pc ls (.ref a :: rest)) := by
  subst hp
  obtain ⟨hx, hb, hml, -, -, hown, hts, -⟩ := C
  refine W.objInit hx hb hown (hts _ h1) (hts _ h2) (hts _ h3) rfl (by rw [hml]; exact hsz) rfl hd hf (by simpa [F0] using hl) ?_
  exact kk
theorem nw_putF (C : nCx D ca μ p s m args meth c) (hin2 : meth.name = "<init>") {idx ci i : Nat} (hf : zFL μ.2.2.2.1 idx ci i) {q : vw_C} (hq : vwCl[ci]? = some q) (hdecl : (q.2.1 i).1 = μ.2.2.2.1) (hfin : (q.2.1 i).2.2.2 = true) {ty : FieldType} {v : Value} (hd : parseFieldDescriptor (q.2.1 i).2.2.1 = some ty) (hna : narrow ty v = v) (hfit : fits ty v = true) {fs : List Value} (hl : i < fs.length) (hP : nP D b n ((b, .inr (ci, fs)) :: ws) H) (hS : nS b H0 H locs) (hdg : decode μ.1 pc = .ok (.putfield idx, 3)) (hp : pc + 3 = pc')
    (kk : ∀ (H1 : Heap) (locs1 : List Loc), nP D b n ((b, .inr (ci, fs.set i v)) :: ws) H1 → nS b H0 H1 locs1 → W p l e μ.2.2.2.2 s m args below meth c H1 locs1 cells slots Q (F0 m pc' ls rest)) : W p l e μ.2.2.2.2 s m args below meth c H locs cells slots Q (F0 m pc ls (v :: .ref b :: rest)) := by
  subst hp
  obtain ⟨C', T, N, ty0, h1, h2, h3, h4, h5, h6⟩ := hf
  cases hq.symm.trans h1
  obtain ⟨hx, hb, -, -, -, hown, hts, hK, -⟩ := C
  obtain ⟨hz, hPP, hDD⟩ := hP
  have hap := va_apart (own := μ.2.2.2.1) hts h3 ty0 h4 h5 hK h1
  obtain ⟨r, e1, cell, q1, q2, q3, q4⟩ := hPP 0 _ rfl
  have hr : r = (C', T, N) := Option.some.inj (e1.symm.trans h1)
  subst hr
  obtain ⟨hSn, hfc, kC, hkC, hkind⟩ := hK.1 ci _ h1
  obtain ⟨cf, kf, fi, f, hi, hsl⟩ := hSn i h2
  have hlay := hts _ (h3 _ (u_in_lay h2))
  unfold u_lay at hlay
  rw [if_pos hfin] at hlay
  have hst := (u_facts hfc hkC (u_lays hts h3 h2) hi).1
  have hcf : m.cls = cf := by
    obtain ⟨_, _, c', _, _, _, -, -, hf', -, -, -, hown2, -⟩ := Cond.laysFinal_spec hlay
    have e2 : c' = cf := by have := hi.symm.trans hf'; simp at this; exact this.1.symm
    rw [show (T i).1 = μ.2.2.2.1 from hdecl] at hown2
    rw [← e2]; exact Option.some.inj (hown.symm.trans hown2)
  have h7 := u_fits hfc hkC hkind (Or.inr hlay) hi hd hna hfit
  refine W.putFinK hx hb hown (hts _ h6) hi hst hcf hin2 (by rw [q2]; exact h7) q1 q3 (by rw [hsl]; exact k2_hasslot (q4 i h2)) rfl rfl hdg fun H' e1 e2 e3 => ?_
  rw [hsl] at e1 ⊢
  exact kk H' _ ⟨by rw [e2]; exact hz, hPP.set hDD (p := 0) rfl ⟨_, h1, t_OB.to (V := updV (vp_V fs) i v) ⟨_, e1, q2, q3, t_set q4 hap h2 v⟩ (fun j _ => vp_updV_set hl v j)⟩ e3, hDD.set (p := 0) rfl⟩ (hS.put e2 e3 (Nat.le_refl b))
theorem nw_put (C : nCx D ca μ p s m args meth c) {idx ci i : Nat} {ty : FieldType} (hf : zFP μ.2.2.2.1 idx ci i ty) {v : Value} (hna : narrow ty v = v) (hfit : fits ty v = true) {fs : List Value} (hl : i < fs.length) (hP : nP D b n ((b, .inr (ci, fs)) :: ws) H) (hS : nS b H0 H locs) (hdg : decode μ.1 pc = .ok (.putfield idx, 3)) (hp : pc + 3 = pc')
    (kk : ∀ (H1 : Heap) (locs1 : List Loc), nP D b n ((b, .inr (ci, fs.set i v)) :: ws) H1 → nS b H0 H1 locs1 → W p l e μ.2.2.2.2 s m args below meth c H1 locs1 cells slots Q (F0 m pc' ls rest)) : W p l e μ.2.2.2.2 s m args below meth c H locs cells slots Q (F0 m pc ls (v :: .ref b :: rest)) := by
  subst hp
  obtain ⟨C', T, N, ty0, h1, h2, h3, h4, h5, h6, hfin, hd⟩ := hf
  obtain ⟨hx, hb, -, -, -, hown, hts, hK, -⟩ := C
  obtain ⟨hz, hPP, hDD⟩ := hP
  have hap := va_apart (own := μ.2.2.2.1) hts h3 ty0 h4 h5 hK h1
  obtain ⟨r, e1, cell, q1, q2, q3, q4⟩ := hPP 0 _ rfl
  have hr : r = (C', T, N) := Option.some.inj (e1.symm.trans h1)
  subst hr
  obtain ⟨hSn, hfc, kC, hkC, hkind⟩ := hK.1 ci _ h1
  obtain ⟨cf, kf, fi, f, hi, hsl⟩ := hSn i h2
  have hlay := hts _ (h3 _ (u_in_lay h2))
  unfold u_lay at hlay
  rw [if_neg (by rw [hfin]; decide)] at hlay
  have hst := (u_facts hfc hkC (u_lays hts h3 h2) hi).1
  have h7 := u_store hfc hkC hkind hlay hi hd hna hfit
  refine W.putK hx hb (f := f) ⟨hown, hts _ h6, ⟨_, _, _, hi⟩, hst⟩ (by rw [q2]; exact h7) q1 q3 (by rw [hsl]; exact k2_hasslot (q4 i h2)) rfl rfl hdg fun H' e1 e2 e3 => ?_
  rw [hsl] at e1 ⊢
  exact kk H' _ ⟨by rw [e2]; exact hz, hPP.set hDD (p := 0) rfl ⟨_, h1, t_OB.to (V := updV (vp_V fs) i v) ⟨_, e1, q2, q3, t_set q4 hap h2 v⟩ (fun j _ => vp_updV_set hl v j)⟩ e3, hDD.set (p := 0) rfl⟩ (hS.put e2 e3 (Nat.le_refl b))
theorem nw_get (C : nCx D ca μ p s m args meth c) {idx ci i : Nat} (hf : zFL μ.2.2.2.1 idx ci i) {fs : List Value} {v : Value} (hv : fs[i]? = some v) (hP : nP D b n ((b, .inr (ci, fs)) :: ws) H) (hdg : decode μ.1 pc = .ok (.getfield idx, 3)) (hp : pc + 3 = pc')
    (kk : W p l e μ.2.2.2.2 s m args below meth c H locs cells slots Q (F0 m pc' ls (v :: rest))) : W p l e μ.2.2.2.2 s m args below meth c H locs cells slots Q (F0 m pc ls (.ref b :: rest)) := by
  subst hp
  obtain ⟨C', T, N, ty0, h1, h2, h3, h4, h5, h6⟩ := hf
  obtain ⟨hx, hb, -, -, -, hown, hts, hK, -⟩ := C
  exact va_get hx hb hts h3 hown hK hP.2.1 0 (fs := fs) rfl h1 i h2 (hts _ h6) (fun _ z => z) hv hdg kk
theorem nP_push {D : va_G} {H H1 : Heap} (hP : nP D b n ws H) {x : va_E} (z1 : H1.size = b + n + 1) (o1 : ∀ q, q < b + n → H1[q]? = H[q]?) (hx : va_at D vwCl (b + n, x) H1) : nP D b (n + 1) (ws ++ [(b + n, x)]) H1 := by
  obtain ⟨hz, hPP, hDD⟩ := hP
  refine ⟨by omega, (hPP.kept (fun k q hq => o1 q.1 (by have := (hPP k q hq).lt; omega))).app (fun k q hq => ?_), hDD.push hPP hz.symm (Nat.le_add_right b n)⟩
  have hk : k < 1 := (List.getElem?_eq_some_iff.mp hq).1
  rw [show k = 0 by omega] at hq
  cases hq
  exact hx
theorem nS_push {H H1 : Heap} (hz : H.size = b + n) (hS : nS b H0 H locs) (z1 : H1.size = b + n + 1) (o1 : ∀ q, q < b + n → H1[q]? = H[q]?) : nS b H0 H1 locs :=
  ⟨Nat.le_trans hS.1 (by omega), fun x h1 h2 => (o1 x (by have := hS.1; omega)).trans (hS.2.1 x h1 h2), hS.2.2⟩
theorem nw_newa (C : nCx D ca μ p s m args meth c) {atype : ArrayType} {t N : Nat} {a0 : vp_A} {ty : FieldType} (hty : newarray.typeOf atype = ty) (har : Cond.arrayClass ty ∈ gT) (ht : (nty ca)[t]? = some (ca t, ty)) (hrf : va_RA s (ca t) ty → s.vm.findClass ("[" ++ ty.toString) = some (ca t)) (ha : ∀ cA : ClassId, vp_cell cA a0 = arrV cA N (fun _ => defaultValue ty)) {x : Int32} (hn : ¬ x < 0) (hN : x.toNatClampNeg = N) (hby : N * componentBytes ty ≤ 536870912) (hc : cells + 1 ≤ μ.2.2.2.2.cells) (hs : slots + N ≤ μ.2.2.2.2.slots) (hP : nP D b n ws H) (hS : nS b H0 H locs) (hdg : decode μ.1 pc = .ok (.newarray atype, 2)) (hp : pc + 2 = pc')
    (kk : ∀ H1 : Heap, nP D b (n + 1) (ws ++ [(b + n, .inl (ca t, a0))]) H1 → nS b H0 H1 locs → W p l e μ.2.2.2.2 s m args below meth c H1 locs (cells + 1) (slots + N) Q (F0 m pc' ls (.ref (b + n) :: rest))) : W p l e μ.2.2.2.2 s m args below meth c H locs cells slots Q (F0 m pc ls (.int x :: rest)) := by
  subst hp
  subst hty
  obtain ⟨hx, hb, -, -, -, hown, hts, hK, -⟩ := C
  refine va_newaK hx hb (hts _ har) rfl hdg rfl hn hN hby hc hs hP.1 fun H1 cA e1 z1 o1 hAr hNm => ?_
  have hcA : cA = ca t := Option.some.inj (hNm.symm.trans (hrf (hK.2 t _ ht).2))
  subst hcA
  refine kk H1 (nP_push hP z1 o1 ?_) (nS_push hP.1 hS z1 o1)
  show H1[b + n]? = some (vp_cell _ _)
  rw [ha]
  exact e1
theorem nw_new (C : nCx D ca μ p s m args meth c) {idx ci : Nat} {q : vw_C} (hq : vwCl[ci]? = some q) (hin : ∀ w ∈ u_ws q.1 q.2.1 q.2.2, w ∈ gT) (ty : Nat → FieldType) (hty : ∀ k, k < q.2.2 → parseFieldDescriptor (q.2.1 k).2.2.1 = some (ty k)) (hcl : Cond.classLink μ.2.2.2.1 idx q.1 ∈ gT) (hinst : Cond.instantiable q.1 q.2.2 ∈ gT) (hini : Cond.initialized q.1 ∈ gT) {fs : List Value} (hfs : ∀ j, j < q.2.2 → defaultValue (ty j) = vp_V fs j) {N : Nat} (hN : q.2.2 = N) (hc : cells + 1 ≤ μ.2.2.2.2.cells) (hs : slots + N ≤ μ.2.2.2.2.slots) (hP : nP D b n ws H) (hS : nS b H0 H locs) (hdg : decode μ.1 pc = .ok (.new idx, 3)) (hp : pc + 3 = pc')
    (kk : ∀ H1 : Heap, nP D b (n + 1) (ws ++ [(b + n, .inr (ci, fs))]) H1 → nS b H0 H1 locs → W p l e μ.2.2.2.2 s m args below meth c H1 locs (cells + 1) (slots + N) Q (F0 m pc' ls (.ref (b + n) :: rest))) : W p l e μ.2.2.2.2 s m args below meth c H locs cells slots Q (F0 m pc ls rest) := by
  subst hp
  subst hN
  obtain ⟨hx, hb, -, -, -, hown, hts, hK, -⟩ := C
  have hKn := hK.1 ci _ hq
  refine W.newcK hx hb hown (hts _ hcl) (hts _ hinst) (hts _ hini) rfl hdg hc hs hKn.2.1 hP.1 fun H1 kC hkC e1 z1 o1 => ?_
  exact kk H1 (nP_push hP z1 o1 ⟨_, hq, (u_born ty hts hin hKn hkC e1 hty).to hfs⟩) (nS_push hP.1 hS z1 o1)
theorem nw_call (C : nCx D ca μ p s m args meth c) {μ' : Mt} {y : MethodName} {idx k : Nat} {w1 : va_W} {e0 : va_E} {As : List Value} {st0 : List Value} (hcode : Cond.code y μ'.1 μ'.2.1 none ∈ gT) (hini : Cond.initialized y.cls ∈ gT) (hne : y.cls ≠ "java/lang/invoke/MethodHandle" ∧ y.cls ≠ "java/lang/invoke/VarHandle") (hpar : (parseMethodDescriptor y.desc).map (fun d => d.parameters.length) = some As.length) (hins : Cond.instanceMethod y ∈ gT) (hnm : y.name = "<init>") (lk : zLk μ.2.2.2.1 idx y) (rm : zRm μ μ') (hM : nM l D ca μ' y As (b + n) e0 k w1) (hP : nP D b (n + 1) (ws ++ [(b + n, e0)]) H) (hS : nS b H0 H locs) (h8 : (rest.map fun v => v.category).sum ≤ 8) (hsz : ls.size = μ.2.1) (hst : st0 = As.reverse ++ .ref (b + n) :: rest) (hdg : decode μ.1 pc = .ok (.invokespecial idx, 3)) (hp : pc + 3 = pc') (hc : cells + μ'.2.2.2.2.cells ≤ μ.2.2.2.2.cells ∧ slots + μ'.2.2.2.2.slots ≤ μ.2.2.2.2.slots)
    (kk : ∀ (H1 : Heap) (locs1 : List Loc), nP D b (n + 1 + k) (ws ++ w1) H1 → nS b H0 H1 locs1 → W p l e μ.2.2.2.2 s m args below meth c H1 locs1 (cells + μ'.2.2.2.2.cells) (slots + μ'.2.2.2.2.slots) Q (F0 m pc' ls rest)) : W p l e μ.2.2.2.2 s m args below meth c H locs cells slots Q (F0 m pc ls st0) := by
  subst hp
  subst hst
  obtain ⟨hx, hb, hml, -, -, hown, hts, hK⟩ := C
  obtain ⟨hl1, hlt⟩ := nP_last hP
  have hsig : ∀ sig, parseMethodDescriptor y.desc = some sig → As.length = sig.parameters.length := fun sig hh => by
    rw [hh] at hpar
    exact (Option.some.inj hpar).symm
  have hws : ∀ w ∈ Cond.code y μ'.1 μ'.2.1 none :: gT, ∀ (a' : Array Value) (U : State), s.WarmedH U.vm → w.before a' U = true := by
    intro w hw a' U hW
    have hw : w ∈ gT := by
      rcases List.mem_cons.mp hw with rfl | h
      · exact hcode
      · exact h
    exact gT_pay hts w hw a' U hW
  have hbl : FrameBlind (va_Pc (.ref (b + n) :: As) (fun U => nP D (b + n) 1 [(b + n, e0)] U.heap ∧ nK D ca U)) := by
    intro a U g mk hp
    obtain ⟨q0, qP, qK⟩ := hp
    exact ⟨q0, qP, nK.moved (u := U) (U := U.calling g mk a) (Vm.Alike.refl U.vm) qK⟩
  have hpre : PreS s H (va_Pc (.ref (b + n) :: As) (fun U => nP D (b + n) 1 [(b + n, e0)] U.heap ∧ nK D ca U)) (.ref (b + n) :: As) := ⟨hbl, fun U hU hW => ⟨rfl, by rw [hU]; exact hl1, nK.moved hW.alike hK⟩⟩
  have fx : CallFix p m c μ.1 μ.2.1 s args gT μ.2.2.2.1 := ⟨hx, hb, hml, hown, hts⟩
  have hW8 : 2 * (F0 m pc ls (As.reverse ++ .ref (b + n) :: rest)).monitorRoom + (rest.map fun v => v.category).sum ≤ 8 := lv_room h8
  have hr : va_Run p l e μ.2.2.2.2 s m args below meth c H locs cells slots μ'.2.2.2.2.cells μ'.2.2.2.2.slots (F0 m pc ls (As.reverse ++ .ref (b + n) :: rest)) rest (nQ D (b + n) k w1 (Value.ref (b + n) :: As).toArray) (fun q => b + n ≤ q) := by
    rcases lk with lk | ⟨host, lk⟩
    · exact va_runI (As := As) (rest := rest) (bytes := μ'.1) (maxL := μ'.2.1) (n := As.length) fx hM ⟨⟨rfl, rfl, rm.1, rm.2, hws, List.mem_cons_self, hts _ hcode, hts _ hini, hne, hsig, hts _ lk⟩, hnm, hts _ hins⟩ hpre rfl rfl hsz rfl hW8 hdg hc
    · exact va_runIN (As := As) (rest := rest) (host := host) (bytes := μ'.1) (maxL := μ'.2.1) (n := As.length) fx hM ⟨⟨⟨rfl, rfl, rm.1, rm.2, hws, List.mem_cons_self⟩, hts _ hcode, hts _ hini, hne, hsig, hts _ lk⟩, hnm, hts _ hins⟩ hpre rfl rfl hsz rfl hW8 hdg hc
  refine va_callv hr hS (fun q _ h => Nat.le_trans (Nat.le_add_right b n) h) (fun q h => Nat.le_trans (Nat.le_add_right b n) h) (fun u t H1 locs1 ht hvm _ hB hz1 hk1 hS1 => ?_)
  rw [ht] at hB
  obtain ⟨gz, gP, gD⟩ := hB
  obtain ⟨hz, hPP, hDD⟩ := hP
  have hPw : va_P D vwCl ws H := fun k q hq => hPP k q (by
    have hk : k < ws.length := (List.getElem?_eq_some_iff.mp hq).1
    rw [List.getElem?_append_left hk]; exact hq)
  have hDw : va_D (fun q => b ≤ q) ws := by
    have up : ∀ (k : Nat) (q : Nat × va_E), ws[k]? = some q → (ws ++ [(b + n, e0)])[k]? = some q := fun k q hq => by
      have hk : k < ws.length := (List.getElem?_eq_some_iff.mp hq).1
      rw [List.getElem?_append_left hk]; exact hq
    exact ⟨fun i j x y hx hy hxy => hDD.1 i j x y (up i x hx) (up j y hy) hxy, fun k q hq => hDD.2 k q (up k q hq)⟩
  refine kk H1 locs1 ⟨by omega, (hPw.kept (fun k q hq => hk1 q.1 (by have := hlt k q hq; omega) (by have := hlt k q hq; omega))).app gP, va_D.app hDw (gD.weaken (fun k q _ h => Nat.le_trans (Nat.le_add_right b n) h)) (fun i j x y hx hy hxy => ?_)⟩ hS1
  have h1 := hlt i x hx
  have h2 : b + n ≤ y.1 := gD.2 j y hy
  omega
theorem nw_ret (C : nCx D ca μ p s m args meth c) (hret : μ.2.2.1 = none) {k : Nat} {w1 : va_W} (hP : nP D b (1 + k) w1 H) (hS : nS b s.heap H locs) (hdg : decode μ.1 pc = .ok (.return_, 1)) : W p l e μ.2.2.2.2 s m args below meth c H locs cells slots (MQ below (nQ D b k w1) args s cells slots (fun q => b ≤ q)) (F0 m pc ls []) :=
  W.vret C.1 C.2.1 (C.2.2.2.1.trans hret) (fun t ht hW => ⟨⟨(), rfl, trivial, show nP D b (1 + k) w1 t.heap by rw [ht]; exact hP⟩, hS.F ht⟩) hS.2.2 hdg (hlocks := C.2.2.2.2.1)
end Nw
theorem nM_of {l : Launch} {D : va_G} {ca : Nat → ClassId} {μ : Mt} {y : MethodName} {As : List Value} {b : Nat} {e0 : va_E} {k : Nat} {w1 : va_W} (hy : plainName y.cls = true) (hcls : y.cls = μ.2.2.2.1) (hret : μ.2.2.1 = none) (hnm : y.name = "<init>") (hlen : (lg_sl (.ref b :: As)).length ≤ μ.2.1)
    (kk : ∀ (p : Program) (e : Env) (s : State) (m : MethodId) (args : Array Value) (below : List Frame) (meth : Method) (c : Code) (ls : Array Slot), nCx D ca μ p s m args meth c → meth.name = "<init>" → lv_has ls μ.2.1 (lv_args 0 (.ref b :: As)) → nP D b 1 [(b, e0)] s.heap →
      W p l e μ.2.2.2.2 s m args below meth c s.heap [] 0 0 (MQ below (nQ D b k w1) args s μ.2.2.2.2.cells μ.2.2.2.2.slots (fun q => b ≤ q)) (F0 m 0 ls [])) : nM l D ca μ y As b e0 k w1 := by
  refine Met.ofW (cc := μ.1) (maxL := μ.2.1) (ret := none) hy rfl ?_
  intro p e s m args below meth c s₁ B hml hv
  obtain ⟨rfl, hP, hK⟩ := hv
  have hts := atoms_spec (ws := (.code y μ.1 μ.2.1 none :: gT)) B.pre
  have hl := lv_entry (.ref b :: As) (n := μ.2.1) hlen
  rw [lg_entry_eq]
  refine kk p e s m _ below meth c _ ⟨B.exec, B.bytes, hml, B.returns.trans hret.symm, B.notSynchronized, ?_, fun w hw => hts w (List.mem_cons_of_mem _ hw), hK⟩ ((name_of_methodNamed B.named B.method).1.trans hnm) hl hP
  rw [← hcls]
  exact findClass_of_methodNamed B.named
