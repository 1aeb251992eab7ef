/-! calls and contracts -/
def zB (G : Ga) (h : Hp) (U : State) : Prop := zP G h U.heap ∧ zK G U ∧ zInj G ∧ zXS G ∧ zX G U
/-- a method's contract: from the heap h with these arguments it ends, with Q -/
def zM (G : Ga) (μ : Mt) (y : MethodName) (av : List Sv) (h : Hp) (Q : Int → Hp → Prop) : Prop :=
  Met G.1 y (.code y μ.1 μ.2.1 μ.2.2.1 :: gT) μ.2.2.2.2 (va_Pc (av.map (dn (zad G))) (zB G h)) (zQ G μ.2.2.1 Q) 0 0 (zA G)
def ent : List Sv → Lo
  | [] => []
  | .inl a :: t => some (.inl a) :: ent t
  | .inr (.inl a) :: t => some (.inr (.inl a)) :: none :: ent t
  | .inr (.inr a) :: t => some (.inr (.inr a)) :: ent t
theorem lg_sl_cons (v : Value) (t : List Value) : lg_sl (v :: t) = (if v.category = 2 then [.val v, .second] else [.val v]) ++ lg_sl t := by
  simp only [lg_sl, List.flatMap_cons]
theorem ent_len (ad : Nat → Nat) : ∀ av : List Sv, (lg_sl (av.map (dn ad))).length = (ent av).length
  | [] => rfl
  | .inl a :: t => by
    have := ent_len ad t
    rw [List.map_cons, lg_sl_cons, List.length_append, this, if_neg (show ¬ (dn ad (.inl a)).category = 2 from (by decide : ¬ (1 = 2)))]
    simp only [ent, List.length_cons, List.length_nil]
    omega
  | .inr (.inl a) :: t => by
    have := ent_len ad t
    rw [List.map_cons, lg_sl_cons, List.length_append, this, if_pos (show (dn ad (.inr (.inl a))).category = 2 from rfl)]
    simp only [ent, List.length_cons, List.length_nil]
    omega
  | .inr (.inr a) :: t => by
    have := ent_len ad t
    rw [List.map_cons, lg_sl_cons, List.length_append, this, if_neg (show ¬ (dn ad (.inr (.inr a))).category = 2 from (by decide : ¬ (1 = 2)))]
    simp only [ent, List.length_cons, List.length_nil]
    omega
theorem ent_in (ad : Nat → Nat) : ∀ (av : List Sv) (i j : Nat) (w : Sv), (ent av)[j]? = some (some w) → (i + j, dn ad w) ∈ lv_args i (av.map (dn ad))
  | [], i, j, w, h => by simp [ent] at h
  | .inl a :: t, i, 0, w, h => by
    simp [ent] at h
    subst h
    simp [lv_args]
  | .inr (.inr a) :: t, i, 0, w, h => by
    simp [ent] at h
    subst h
    simp [lv_args]
  | .inr (.inl a) :: t, i, 0, w, h => by
    simp [ent] at h
    subst h
    simp [lv_args]
  | .inl a :: t, i, j + 1, w, h => by
    have := ent_in ad t (i + 1) j w (by simpa [ent] using h)
    rw [show i + 1 + j = i + (j + 1) by omega] at this
    simp only [List.map_cons, lv_args]
    exact List.mem_cons_of_mem _ this
  | .inr (.inr a) :: t, i, j + 1, w, h => by
    have := ent_in ad t (i + 1) j w (by simpa [ent] using h)
    rw [show i + 1 + j = i + (j + 1) by omega] at this
    simp only [List.map_cons, lv_args]
    exact List.mem_cons_of_mem _ this
  | .inr (.inl a) :: t, i, 1, w, h => by simp [ent] at h
  | .inr (.inl a) :: t, i, j + 2, w, h => by
    have := ent_in ad t (i + 2) j w (by simpa [ent] using h)
    rw [show i + 2 + j = i + (j + 2) by omega] at this
    simp only [List.map_cons, lv_args]
    exact List.mem_cons_of_mem _ this
theorem zM_of {G : Ga} {μ : Mt} {y : MethodName} {av : List Sv} {h : Hp} {Q : Int → Hp → Prop} (ls : Lo) (n : Nat) (hy : plainName y.cls = true) (hc : y.cls = μ.2.2.2.1) (hn : (ent av).length ≤ μ.2.1) (hls : ls = ent av ++ List.replicate n none) (kk : zV G μ Q 0 ls [] h) : zM G μ y av h Q := by
  refine Met.ofW (cc := μ.1) (maxL := μ.2.1) (ret := μ.2.2.1) hy rfl ?_
  intro p e s m args below meth c s₁ B hml hv
  obtain ⟨rfl, hP, hK, hI, hXS, hX⟩ := hv
  have hts := atoms_spec (ws := (.code y μ.1 μ.2.1 μ.2.2.1 :: gT)) B.pre
  have hl := lv_entry (av.map (dn (zad G))) (n := μ.2.1) (by rw [ent_len]; exact hn)
  rw [lg_entry_eq]
  refine kk p e s m _ below meth c s.heap [] _ ⟨B.exec, B.bytes, hml, B.returns, B.notSynchronized, ?_, fun w hw => hts w (List.mem_cons_of_mem _ hw), hK, hI, hXS, hX⟩ hP va_S.rf ⟨_, hl, fun j w hj => ?_⟩
  · rw [← hc]
    exact findClass_of_methodNamed B.named
  · rw [hls] at hj
    have hj2 : (ent av)[j]? = some (some w) := by
      by_cases hlt : j < (ent av).length
      · rwa [List.getElem?_append_left hlt] at hj
      · rw [List.getElem?_append_right (by omega)] at hj
        have := List.mem_of_getElem? hj
        have := (List.mem_replicate.mp this).2
        cases this
    have := ent_in (zad G) av 0 j w hj2
    rwa [Nat.zero_add] at this
def zpu (rt : Option FieldType) (r : Int) : List Sv := match rt with
  | none => []
  | some .long => [.inr (.inl r)]
  | some (.object _) => [.inr (.inr r.toNat)]
  | some _ => [.inl r]
theorem zpu_dn (G : Ga) (rt : Option FieldType) (r : Int) : (zrv G rt r).toList = (zpu rt r).map (dn (zad G)) := by
  match rt with
  | none => rfl
  | some .long => rfl
  | some (.object _) => rfl
  | some .int => rfl
  | some .byte => rfl
  | some .char => rfl
  | some .double => rfl
  | some .float => rfl
  | some .short => rfl
  | some .boolean => rfl
  | some (.array _) => rfl
def svW : Sv → Nat
  | .inr (.inl _) => 2
  | _ => 1
def stW : List Sv → Nat
  | [] => 0
  | v :: t => svW v + stW t
theorem stW_dn (ad : Nat → Nat) : ∀ st : List Sv, ((st.map (dn ad)).map fun v => v.category).sum = stW st
  | [] => rfl
  | .inl a :: t => by simp only [List.map_cons, List.sum_cons, stW, stW_dn ad t]; rfl
  | .inr (.inl a) :: t => by simp only [List.map_cons, List.sum_cons, stW, stW_dn ad t]; rfl
  | .inr (.inr a) :: t => by simp only [List.map_cons, List.sum_cons, stW, stW_dn ad t]; rfl
/-- what the tables say of a method that is called: its code, its parameters, no cells -/
def zTk (μ : Mt) (y : MethodName) (n : Nat) : Prop := Cond.code y μ.1 μ.2.1 μ.2.2.1 ∈ gT ∧ Cond.initialized y.cls ∈ gT ∧ (y.cls ≠ "java/lang/invoke/MethodHandle" ∧ y.cls ≠ "java/lang/invoke/VarHandle") ∧ (parseMethodDescriptor y.desc).map (fun d => d.parameters.length) = some n ∧ μ.2.2.2.2.cells = 0 ∧ μ.2.2.2.2.slots = 0
def zTv (y : MethodName) : Prop := Cond.instanceMethod y ∈ gT ∧ Cond.selects y.cls y y ∈ gT
def zLk (own : String) (idx : Nat) (y : MethodName) : Prop := Cond.methodLink own idx y ∈ gT ∨ ∃ host, Cond.methodLinkNest own idx y host ∈ gT
def zRm (μ μ' : Mt) : Prop := μ'.2.2.2.2.frames + 1 ≤ μ.2.2.2.2.frames ∧ 8 + (μ'.2.1 + 11) + μ'.2.2.2.2.locals ≤ μ.2.2.2.2.locals
section Calls
variable {G : Ga} {μ μ' : Mt} {Q Q' : Int → Hp → Prop} {pc pc' idx n : Nat} {ls : Lo} {st : List Sv} {h : Hp} {y : MethodName}
theorem zV_cont {p : Program} {e : Env} {s : State} {m : MethodId} {args : Array Value} {below : List Frame} {meth : Method} {c : Code} {H : Heap} {locs : List Loc} {lsA : Array Slot} {st0 : List Value} {a : Array Value} {rt : Option FieldType}
    (C : zCx G μ p s m args meth c) (hS : va_S (zA G) s.heap H locs) (hL : zLH (zad G) lsA μ.2.1 ls)
    (hr : va_Run p G.1 e μ.2.2.2.2 s m args below meth c H locs 0 0 0 0 (F0 m pc lsA st0) (st.map (dn (zad G))) (zQ G rt Q' a) (zA G))
    (kk : ∀ (r : Int) (h' : Hp), Q' r h' → zV G μ Q (pc + 3) ls (zpu rt r ++ st) h') :
    W p G.1 e μ.2.2.2.2 s m args below meth c H locs 0 0 (MQ below (zQ G μ.2.2.1 Q) args s 0 0 (zA G)) (F0 m pc lsA st0) := by
  intro T hT X
  obtain ⟨v, st₀, t, T', L, e0, X', hLf, e1, e2, ⟨⟨r, h', hv, hq, hP'⟩, hz, hk⟩, st1⟩ := hr T hT X
  cases hv
  rw [e0] at hz hk
  have hS1 : va_S (zA G) s.heap T'.heap (locs ++ L) := ⟨Nat.le_trans hS.1 (by rw [e1]; exact hz), fun q h1 h2 => by rw [e1, hk q (Nat.lt_of_lt_of_le h1 hS.1) h2]; exact hS.2.1 q h1 h2, fun q hq => by
      rcases List.mem_append.mp hq with h | h
      · exact hS.2.2 q h
      · exact hLf q h⟩
  obtain ⟨t2, a1, b1⟩ := kk r h' hq p e s m args below meth c T'.heap (locs ++ L) lsA C (by rw [e1]; exact hP') hS1 hL T' rfl X'
  refine ⟨t2, st1 t2 ?_, b1⟩
  rw [zpu_dn, ← List.map_append]
  exact a1
theorem zB_blind {av : List Value} : FrameBlind (va_Pc av (zB G h)) := by
  intro a U g mk hp
  obtain ⟨q0, qP, qK, qI, qS, qX⟩ := hp
  exact ⟨q0, qP, va_K.moved (u := U) (U := U.calling g mk a) (Vm.Alike.refl U.vm) qK, qI, qS, qS U (U.calling g mk a) qX (Or.inr rfl) (Nat.le_refl _) (fun _ _ _ => rfl)⟩
theorem zB_at {p : Program} {s U : State} {m : MethodId} {args : Array Value} {meth : Method} {c : Code} {H : Heap} {locs : List Loc} (C : zCx G μ p s m args meth c) (hP : zP G h H) (hS : va_S (zA G) s.heap H locs) (hU : U.heap = H) (hW : s.WarmedH U.vm) : zB G h U := by
  refine ⟨by rw [hU]; exact hP, va_K.moved hW.alike C.2.2.2.2.2.2.2.1, C.2.2.2.2.2.2.2.2.1, C.2.2.2.2.2.2.2.2.2.1, ?_⟩
  refine C.2.2.2.2.2.2.2.2.2.1 s U C.2.2.2.2.2.2.2.2.2.2 (Or.inl hW) (by rw [hU]; exact hS.1) (fun q h1 h2 => ?_)
  rw [hU]
  exact hS.2.1 q h1 h2
theorem gT_ws {p : Program} {s : State} {m : MethodId} {args : Array Value} {meth : Method} {c : Code} {w0 : Cond} (C : zCx G μ p s m args meth c) (h0 : w0 ∈ gT) : ∀ w ∈ w0 :: gT, ∀ (a' : Array Value) (U : State), s.WarmedH U.vm → w.before a' U = true := by
  intro w hw a' U hW
  have hw : w ∈ gT := by
    rcases List.mem_cons.mp hw with rfl | h
    · exact h0
    · exact h
  exact gT_pay C.2.2.2.2.2.2.1 w hw a' U hW
theorem zV_inv (tk : zTk μ' y n) (tv : zTv y) (lk : zLk μ.2.2.2.1 idx y) (rm : zRm μ μ') {k ci : Nat} {cs : List Nat} {q : vw_C} (ht : tab[k]? = some (0, ci, cs)) (hq : vwCl[ci]? = some q) (hqc : q.1 = y.cls) (As : List Sv) (hM : zM G μ' y (.inr (.inr k) :: As) h Q') (hd : decode μ.1 pc = .ok (.invokevirtual idx, 3)) (hn : As.length = n) (h8 : stW st ≤ 8) (hp : pc + 3 = pc')
    (kk : ∀ (r : Int) (h' : Hp), Q' r h' → zV G μ Q pc' ls (zpu μ'.2.2.1 r ++ st) h') : zV G μ Q pc ls (As.reverse ++ .inr (.inr k) :: st) h := by
  subst hp
  intro p e s m args below meth c H locs lsA C hP hS hL
  obtain ⟨t1, t2, t3, t4, t5, t6⟩ := tk
  have ok : ∀ w ∈ gT, w.before args s = true := C.2.2.2.2.2.2.1
  have e0 := zwl_get (G := G) (h := h) ht
  have hrc := va_recv C.2.2.2.2.2.2.2.1 hP (ci := ci) (q0 := k) hq e0
  rw [hqc] at hrc
  have hpre : PreV s H y.cls (zad G k) (va_Pc ((.inr (.inr k) :: As).map (dn (zad G))) (zB G h)) (As.map (dn (zad G))) := ⟨zB_blind, hrc, fun U hU hW => ⟨by rw [List.map_cons]; rfl, zB_at C hP hS hU hW⟩⟩
  have hsig : ∀ sig, parseMethodDescriptor y.desc = some sig → n = sig.parameters.length := fun sig hh => by
    rw [hh] at t4
    exact (Option.some.inj t4).symm
  have hstk : ((As.reverse ++ .inr (.inr k) :: st).map (dn (zad G))) = (As.map (dn (zad G))).reverse ++ Value.ref (zad G k) :: st.map (dn (zad G)) := by
    rw [List.map_append, List.map_reverse, List.map_cons]
    rfl
  have hW8 : 2 * (F0 m pc lsA ((As.reverse ++ .inr (.inr k) :: st).map (dn (zad G)))).monitorRoom + ((st.map (dn (zad G))).map fun v => v.category).sum ≤ 8 := lv_room (by rw [stW_dn]; exact h8)
  have fx : CallFix p m c μ.1 μ.2.1 s args gT μ.2.2.2.1 := ⟨C.1, C.2.1, C.2.2.1, C.2.2.2.2.2.1, ok⟩
  rcases lk with lk | ⟨host, lk⟩
  · refine zV_cont C hS hL (va_runV (As := As.map (dn (zad G))) (rest := st.map (dn (zad G))) (C := y.cls) (bytes := μ'.1) (maxL := μ'.2.1) (ret := μ'.2.2.1) (n := n) fx hM ⟨⟨t5, t6, rm.1, rm.2, gT_ws C t1, List.mem_cons_self, ok _ t1, ok _ t2, t3, hsig, ok _ lk⟩, ok _ tv.1, ok _ tv.2⟩ hpre rfl (by rw [List.length_map]; exact hn) hL.size hstk hW8 hd ⟨Nat.zero_le _, Nat.zero_le _⟩) kk
  · refine zV_cont C hS hL (va_runVN (As := As.map (dn (zad G))) (rest := st.map (dn (zad G))) (C := y.cls) (host := host) (bytes := μ'.1) (maxL := μ'.2.1) (ret := μ'.2.2.1) (n := n) fx hM ⟨⟨⟨t5, t6, rm.1, rm.2, gT_ws C t1, List.mem_cons_self⟩, ok _ t1, ok _ t2, t3, hsig, ok _ lk⟩, ok _ tv.1, ok _ tv.2⟩ hpre rfl (by rw [List.length_map]; exact hn) hL.size hstk hW8 hd ⟨Nat.zero_le _, Nat.zero_le _⟩) kk
theorem zV_ins (tk : zTk μ' y n) (tv : Cond.static y ∈ gT) (lk : zLk μ.2.2.2.1 idx y) (rm : zRm μ μ') (As : List Sv) (hM : zM G μ' y As h Q') (hd : decode μ.1 pc = .ok (.invokestatic idx, 3)) (hn : As.length = n) (h8 : stW st ≤ 8) (hp : pc + 3 = pc')
    (kk : ∀ (r : Int) (h' : Hp), Q' r h' → zV G μ Q pc' ls (zpu μ'.2.2.1 r ++ st) h') : zV G μ Q pc ls (As.reverse ++ st) h := by
  subst hp
  intro p e s m args below meth c H locs lsA C hP hS hL
  obtain ⟨t1, t2, t3, t4, t5, t6⟩ := tk
  have ok : ∀ w ∈ gT, w.before args s = true := C.2.2.2.2.2.2.1
  have hpre : PreS s H (va_Pc (As.map (dn (zad G))) (zB G h)) (As.map (dn (zad G))) := ⟨zB_blind, fun U hU hW => ⟨rfl, zB_at C hP hS hU hW⟩⟩
  have hsig : ∀ sig, parseMethodDescriptor y.desc = some sig → n = sig.parameters.length := fun sig hh => by
    rw [hh] at t4
    exact (Option.some.inj t4).symm
  have hstk : ((As.reverse ++ st).map (dn (zad G))) = (As.map (dn (zad G))).reverse ++ st.map (dn (zad G)) := by
    rw [List.map_append, List.map_reverse]
  have hW8 : 2 * (F0 m pc lsA ((As.reverse ++ st).map (dn (zad G)))).monitorRoom + ((st.map (dn (zad G))).map fun v => v.category).sum ≤ 8 := lv_room (by rw [stW_dn]; exact h8)
  have fx : CallFix p m c μ.1 μ.2.1 s args gT μ.2.2.2.1 := ⟨C.1, C.2.1, C.2.2.1, C.2.2.2.2.2.1, ok⟩
  rcases lk with lk | ⟨host, lk⟩
  · refine zV_cont C hS hL (va_runS (As := As.map (dn (zad G))) (rest := st.map (dn (zad G))) (bytes := μ'.1) (maxL := μ'.2.1) (ret := μ'.2.2.1) (n := n) fx hM ⟨⟨t5, t6, rm.1, rm.2, gT_ws C t1, List.mem_cons_self, ok _ t1, ok _ t2, t3, hsig, ok _ lk⟩, ok _ tv⟩ hpre rfl (by rw [List.length_map]; exact hn) hL.size hstk hW8 hd ⟨Nat.zero_le _, Nat.zero_le _⟩) kk
  · refine zV_cont C hS hL (va_runSN (As := As.map (dn (zad G))) (rest := st.map (dn (zad G))) (host := host) (bytes := μ'.1) (maxL := μ'.2.1) (ret := μ'.2.2.1) (n := n) fx hM ⟨⟨⟨t5, t6, rm.1, rm.2, gT_ws C t1, List.mem_cons_self⟩, ok _ t1, ok _ t2, t3, hsig, ok _ lk⟩, ok _ tv, trivial⟩ hpre rfl (by rw [List.length_map]; exact hn) hL.size hstk hW8 hd ⟨Nat.zero_le _, Nat.zero_le _⟩) kk
end Calls
