/-! the law's body: as zV, with room for what it makes, and its own end -/
abbrev mLw : Mt := (code, 4, ret, RL, room_1)
abbrev Lc : Type := Ga × Nat × Nat × (Nat → Int32) × (List Frame → Array Value → State → State → Prop) × Nat × Nat
def zL (Γ : Lc) (pc : Nat) (ls : Lo) (st : List Sv) (h : Hp) : Prop :=
  ∀ (p : Program) (e : Env) (s : State) (m : MethodId) (below : List Frame) (meth : Method) (c : Code) (H : Heap) (locs : List Loc) (lsA : Array Slot),
    zCx Γ.1 mLw p s m #[.ref Γ.2.1] meth c → va_X Γ.2.1 Γ.2.2.1 Γ.2.2.2.1 s s.heap → Γ.2.1 < s.heap.size → (∀ k, k < 102 → s.heap.size ≤ zad Γ.1 k) → zad Γ.1 110 = Γ.2.1 → zP Γ.1 h H → va_S (zA Γ.1) s.heap H locs → zLH (zad Γ.1) lsA 4 ls →
    W p Γ.1.1 e room_1 s m #[.ref Γ.2.1] below meth c H locs Γ.2.2.2.2.2.1 Γ.2.2.2.2.2.2 (Γ.2.2.2.2.1 below #[.ref Γ.2.1] s) (F0 m pc lsA (st.map (dn (zad Γ.1))))
section Lw
variable {Γ : Lc} {pc pc' tgt : Nat} {ls : Lo} {st : List Sv} {h : Hp}
theorem zL_iconst {n : Int} (hd : decode code pc = .ok (.iconst n, 1)) (hn : pc + 1 = pc') (kk : zL Γ pc' ls (.inl n :: st) h) : zL Γ pc ls (st) h := by
  subst hn
  intro p e s m below meth c H locs lsA C hX hb hG h0 hP hS hL
  exact lv_iconst C.1 C.2.1 hd rfl (kk p e s m below meth c H locs lsA C hX hb hG h0 hP hS hL)
theorem zL_bipush {n : Int} (hd : decode code pc = .ok (.bipush n, 2)) (hi : (Int8.ofInt n).toInt32 = Int32.ofInt n) (hn : pc + 2 = pc') (kk : zL Γ pc' ls (.inl n :: st) h) : zL Γ pc ls (st) h := by
  subst hn
  intro p e s m below meth c H locs lsA C hX hb hG h0 hP hS hL
  exact lv_bipush C.1 C.2.1 hd hi (kk p e s m below meth c H locs lsA C hX hb hG h0 hP hS hL)
theorem zL_iload_n {k : Fin 4} {a : Int} (hd : decode code pc = .ok (.iload_n k, 1)) (hl : ls[(k : Nat)]? = some (some (.inl a))) (hn : pc + 1 = pc') (kk : zL Γ pc' ls (.inl a :: st) h) : zL Γ pc ls (st) h := by
  subst hn
  intro p e s m below meth c H locs lsA C hX hb hG h0 hP hS hL
  exact lv_iload_n C.1 C.2.1 hd rfl (hL.at hl) (kk p e s m below meth c H locs lsA C hX hb hG h0 hP hS hL)
theorem zL_aload_n {k : Fin 4} {a : Nat} (hd : decode code pc = .ok (.aload_n k, 1)) (hl : ls[(k : Nat)]? = some (some (.inr (.inr a)))) (hn : pc + 1 = pc') (kk : zL Γ pc' ls (.inr (.inr a) :: st) h) : zL Γ pc ls (st) h := by
  subst hn
  intro p e s m below meth c H locs lsA C hX hb hG h0 hP hS hL
  exact lv_aload_n C.1 C.2.1 hd rfl (hL.at hl) (kk p e s m below meth c H locs lsA C hX hb hG h0 hP hS hL)
theorem zL_iadd {a b : Int} (hd : decode code pc = .ok (.iadd, 1)) (hn : pc + 1 = pc') (kk : zL Γ pc' ls (.inl (a + b) :: st) h) : zL Γ pc ls (.inl b :: .inl a :: st) h := by
  subst hn
  intro p e s m below meth c H locs lsA C hX hb hG h0 hP hS hL
  refine lv_iadd C.1 C.2.1 hd ?_
  rw [← Int32.ofInt_add]
  exact kk p e s m below meth c H locs lsA C hX hb hG h0 hP hS hL
theorem zL_isub {a b : Int} (hd : decode code pc = .ok (.isub, 1)) (hn : pc + 1 = pc') (kk : zL Γ pc' ls (.inl (a - b) :: st) h) : zL Γ pc ls (.inl b :: .inl a :: st) h := by
  subst hn
  intro p e s m below meth c H locs lsA C hX hb hG h0 hP hS hL
  refine lv_isub C.1 C.2.1 hd ?_
  rw [← Int32.ofInt_sub]
  exact kk p e s m below meth c H locs lsA C hX hb hG h0 hP hS hL
theorem zL_any32 {x : Int32} {p : Program} {e : Env} {s : State} {m : MethodId} {below : List Frame} {meth : Method} {c : Code} {H : Heap} {locs : List Loc} {lsA : Array Slot} (C : zCx Γ.1 mLw p s m #[.ref Γ.2.1] meth c) (hX : va_X Γ.2.1 Γ.2.2.1 Γ.2.2.2.1 s s.heap) (hb : Γ.2.1 < s.heap.size) (hG : ∀ k, k < 102 → s.heap.size ≤ zad Γ.1 k) (h0 : zad Γ.1 110 = Γ.2.1) (hP : zP Γ.1 h H) (hS : va_S (zA Γ.1) s.heap H locs) (hL : zLH (zad Γ.1) lsA 4 ls) (kk : zL Γ pc ls (.inl x.toInt :: st) h) :
    W p Γ.1.1 e room_1 s m #[.ref Γ.2.1] below meth c H locs Γ.2.2.2.2.2.1 Γ.2.2.2.2.2.2 (Γ.2.2.2.2.1 below #[.ref Γ.2.1] s) (F0 m pc lsA (.int x :: st.map (dn (zad Γ.1)))) := by
  have := kk p e s m below meth c H locs lsA C hX hb hG h0 hP hS hL
  simpa [dn, Int32.ofInt_toInt] using this
theorem zL_iand {a b : Int} (hd : decode code pc = .ok (.iand, 1)) (hn : pc + 1 = pc') (kk : ∀ v : Int, rng v → zL Γ pc' ls (.inl v :: st) h) : zL Γ pc ls (.inl b :: .inl a :: st) h := by
  subst hn
  intro p e s m below meth c H locs lsA C hX hb hG h0 hP hS hL
  exact lv_iand C.1 C.2.1 hd (zL_any32 C hX hb hG h0 hP hS hL (kk _ (rg32 _)))
theorem zL_sld {i : Int} (hi : 0 ≤ i ∧ i < Γ.2.2.1) (hm : Γ.2.2.1 < 2147483648) (hd : decode code pc = .ok (.iaload, 1)) (hn : pc + 1 = pc') (kk : ∀ v : Int, rng v → zL Γ pc' ls (.inl v :: st) h) : zL Γ pc ls (.inl i :: .inr (.inr 110) :: st) h := by
  subst hn
  intro p e s m below meth c H locs lsA C hX hb hG h0 hP hS hL
  have hA : ¬ zA Γ.1 Γ.2.1 := fun ⟨k, h1, h2⟩ => by have := hG k h1; omega
  have hst : List.map (dn (zad Γ.1)) (.inl i :: .inr (.inr 110) :: st) = .int (Int32.ofInt i) :: .ref Γ.2.1 :: st.map (dn (zad Γ.1)) := by rw [← h0]; rfl
  rw [hst]
  exact va_sld C.1 C.2.1 hX hb hA hS (vin32 hi hm) hd (zL_any32 C hX hb hG h0 hP hS hL (kk _ (rg32 _)))
theorem zL_slen (hd : decode code pc = .ok (.arraylength, 1)) (hn : pc + 1 = pc') (kk : zL Γ pc' ls (.inl (Γ.2.2.1 : Int) :: st) h) : zL Γ pc ls (.inr (.inr 110) :: st) h := by
  subst hn
  intro p e s m below meth c H locs lsA C hX hb hG h0 hP hS hL
  have hA : ¬ zA Γ.1 Γ.2.1 := fun ⟨k, h1, h2⟩ => by have := hG k h1; omega
  have hst : List.map (dn (zad Γ.1)) (.inr (.inr 110) :: st) = .ref Γ.2.1 :: st.map (dn (zad Γ.1)) := by rw [← h0]; rfl
  rw [hst]
  exact va_slen C.1 C.2.1 hX hb hA hS hd (kk p e s m below meth c H locs lsA C hX hb hG h0 hP hS hL)
theorem zL_pop {v : Sv} (hd : decode code pc = .ok (.pop, 1)) (hv : (dn (zad Γ.1) v).category = 1) (hn : pc + 1 = pc') (kk : zL Γ pc' ls st h) : zL Γ pc ls (v :: st) h := by
  subst hn
  intro p e s m below meth c H locs lsA C hX hb hG h0 hP hS hL
  exact lv_pop C.1 C.2.1 hd hv (kk p e s m below meth c H locs lsA C hX hb hG h0 hP hS hL)
theorem zL_goto {off : Int} (hd : decode code pc = .ok (.goto off, 3)) (ht : (pc : Int) + off = (tgt : Int)) (kk : zL Γ tgt ls st h) : zL Γ pc ls st h := by
  intro p e s m below meth c H locs lsA C hX hb hG h0 hP hS hL
  exact lv_goto C.1 C.2.1 hd ht (kk p e s m below meth c H locs lsA C hX hb hG h0 hP hS hL)
theorem zL_cm_gt {a b : Int} {off : Int} (hd : decode code pc = .ok (.if_icmp .gt off, 3)) (ht : (pc : Int) + off = (tgt : Int)) (hn : pc + 3 = pc') (ha : rng a) (hb' : rng b) (kt : b < a → zL Γ tgt ls st h) (kf : ¬ b < a → zL Γ pc' ls st h) : zL Γ pc ls (.inl b :: .inl a :: st) h := by
  subst hn
  intro p e s m below meth c H locs lsA C hX hb hG h0 hP hS hL
  exact lv_icmp_gt C.1 C.2.1 hd ht (fun q => kt ((lt32 hb' ha).mp q) p e s m below meth c H locs lsA C hX hb hG h0 hP hS hL) (fun q => kf (fun z => q ((lt32 hb' ha).mpr z)) p e s m below meth c H locs lsA C hX hb hG h0 hP hS hL)
theorem zL_pop2 {a : Int} (hd : decode code pc = .ok (.pop2, 1)) (hn : pc + 1 = pc') (kk : zL Γ pc' ls st h) : zL Γ pc ls (.inr (.inl a) :: st) h := by
  subst hn
  intro p e s m below meth c H locs lsA C hX hb hG h0 hP hS hL
  exact lv_pop2_2 C.1 C.2.1 hd rfl (kk p e s m below meth c H locs lsA C hX hb hG h0 hP hS hL)
theorem zL_cm_eq {a b : Int} {off : Int} (hd : decode code pc = .ok (.if_icmp .eq off, 3)) (ht : (pc : Int) + off = (tgt : Int)) (he : a = b) (kt : zL Γ tgt ls st h) : zL Γ pc ls (.inl b :: .inl a :: st) h := by
  subst he
  intro p e s m below meth c H locs lsA C hX hb hG h0 hP hS hL
  exact lv_icmp_eq C.1 C.2.1 hd ht (fun _ => kt p e s m below meth c H locs lsA C hX hb hG h0 hP hS hL) (fun q => absurd rfl q)
theorem zL_iinc {k : Nat} {n a : Int} (hd : decode code pc = .ok (.iinc k n, 3)) (hl : ls[k]? = some (some (.inl a))) (hn : k < 4) (hp : pc + 3 = pc') (kk : zL Γ pc' (stl ls k (.inl (a + n))) st h) : zL Γ pc ls st h := by
  subst hp
  intro p e s m below meth c H locs lsA C hX hb hG h0 hP hS hL
  obtain ⟨l, h1, h2⟩ := hL.set1 (i := k) (v := .inl (a + n)) hn rfl
  have hg := hL.at hl
  have ha : Int32.ofInt a + Int32.ofInt n = Int32.ofInt (a + n) := (Int32.ofInt_add a n).symm
  obtain ⟨lsB, e', h'⟩ := lv_store1 (v := .int (Int32.ofInt a + Int32.ofInt n)) h1 hn rfl
  intro T hT X
  obtain ⟨t, z1, z2⟩ := kk p e s m below meth c H locs lsB C hX hb hG h0 hP hS (h2 lsB (by rw [ha] at h'; exact h')) T hT X
  refine ⟨t, ?_, z2⟩
  have hx := C.1
  have hcb : c.code = code := C.2.1
  have hg : lsA[k]? = some (.val (.int (Int32.ofInt a))) := hg
  jvm_step X.here [X.here.top, ↓top_set X.here.top, hx, hcb, hd, hg, e']
  exact z1
theorem zL_tsw {a : Int} {dflt lo hi : Int} {offs : Array Int} {len : Nat} (hd : decode code pc = .ok (.tableswitch dflt lo hi offs, len)) (tg : Int → Nat) (ha : rng a) (hin : ∀ (off : Int) (i : Nat), offs[i]? = some off → (pc : Int) + off = (tg (lo + i) : Int)) (hz : ((offs.size : Nat) : Int) = hi - lo + 1) {td : Nat} (htd : (pc : Int) + dflt = (td : Int))
    (kd : a < lo ∨ hi < a → zL Γ td ls st h) (ki : ¬ a < lo → ¬ hi < a → zL Γ (tg a) ls st h) : zL Γ pc ls (.inl a :: st) h := by
  intro p e s m below meth c H locs lsA C hX hb hG h0 hP hS hL
  have ea := ti32 ha
  by_cases h1 : a < lo ∨ hi < a
  · exact lv_tableOut C.1 C.2.1 hd (by rw [ea]; exact h1) htd (kd h1 p e s m below meth c H locs lsA C hX hb hG h0 hP hS hL)
  · have h2 : ¬ a < lo := fun q => h1 (Or.inl q)
    have h3 : ¬ hi < a := fun q => h1 (Or.inr q)
    have hlt : (a - lo).toNat < offs.size := by omega
    have ho : offs[(a - lo).toNat]? = some offs[(a - lo).toNat] := Array.getElem?_eq_getElem hlt
    have := hin _ _ ho
    have e1 : lo + (((a - lo).toNat : Nat) : Int) = a := by omega
    rw [e1] at this
    exact lv_tableIn C.1 C.2.1 hd (by rw [ea]; exact h2) (by rw [ea]; exact h3) (by rw [ea]; exact ho) this (ki h2 h3 p e s m below meth c H locs lsA C hX hb hG h0 hP hS hL)
theorem zL_inv {μ' : Mt} {y : MethodName} {n idx : Nat} {Q' : Int → Hp → Prop} (hcs : Γ.2.2.2.2.2.1 ≤ room_1.cells ∧ Γ.2.2.2.2.2.2 ≤ room_1.slots) (tk : zTk μ' y n) (tv : zTv y) (lk : zLk RL idx y) (rm : zRm mLw μ') {k ci : Nat} {cs : List Nat} {q : vw_C} (ht : tab[k]? = some (0, ci, cs)) (hq : vwCl[ci]? = some q) (hqc : q.1 = y.cls) (As : List Sv) (hM : zM Γ.1 μ' y (.inr (.inr k) :: As) h Q') (hd : decode code pc = .ok (.invokevirtual idx, 3)) (hn : As.length = n) (h8 : stW st ≤ 8) (hp : pc + 3 = pc')
    (kk : ∀ (r : Int) (h' : Hp), Q' r h' → zL Γ pc' ls (zpu μ'.2.2.1 r ++ st) h') : zL Γ pc ls (As.reverse ++ .inr (.inr k) :: st) h := by
  subst hp
  intro p e s m below meth c H locs lsA C hX hb hG h0 hP hS hL
  obtain ⟨t1, t2, t3, t4, t5, t6⟩ := tk
  have ok : ∀ w ∈ gT, w.before #[.ref Γ.2.1] s = true := C.2.2.2.2.2.2.1
  have e0 := zwl_get (G := Γ.1) (h := h) ht
  have hrc := va_recv C.2.2.2.2.2.2.2.1 hP (ci := ci) (q0 := k) hq e0
  rw [hqc] at hrc
  have hpre : PreV s H y.cls (zad Γ.1 k) (va_Pc ((.inr (.inr k) :: As).map (dn (zad Γ.1))) (zB Γ.1 h)) (As.map (dn (zad Γ.1))) := ⟨zB_blind, hrc, fun U hU hW => ⟨by rw [List.map_cons]; rfl, zB_at C hP hS hU hW⟩⟩
  have hsig : ∀ sig, parseMethodDescriptor y.desc = some sig → n = sig.parameters.length := fun sig hh => by
    rw [hh] at t4
    exact (Option.some.inj t4).symm
  have hstk : ((As.reverse ++ .inr (.inr k) :: st).map (dn (zad Γ.1))) = (As.map (dn (zad Γ.1))).reverse ++ Value.ref (zad Γ.1 k) :: st.map (dn (zad Γ.1)) := by
    rw [List.map_append, List.map_reverse, List.map_cons]
    rfl
  have hW8 : 2 * (F0 m pc lsA ((As.reverse ++ .inr (.inr k) :: st).map (dn (zad Γ.1)))).monitorRoom + ((st.map (dn (zad Γ.1))).map fun v => v.category).sum ≤ 8 := lv_room (by rw [stW_dn]; exact h8)
  have fx : CallFix p m c code 4 s #[.ref Γ.2.1] gT RL := ⟨C.1, C.2.1, C.2.2.1, C.2.2.2.2.2.1, ok⟩
  have hr : va_Run p Γ.1.1 e room_1 s m #[.ref Γ.2.1] below meth c H locs Γ.2.2.2.2.2.1 Γ.2.2.2.2.2.2 0 0 (F0 m pc lsA ((As.reverse ++ .inr (.inr k) :: st).map (dn (zad Γ.1)))) (st.map (dn (zad Γ.1))) (zQ Γ.1 μ'.2.2.1 Q' (Value.ref (zad Γ.1 k) :: As.map (dn (zad Γ.1))).toArray) (zA Γ.1) := by
    rcases lk with lk | ⟨host, lk⟩
    · exact va_runV (As := As.map (dn (zad Γ.1))) (rest := st.map (dn (zad Γ.1))) (C := y.cls) (bytes := μ'.1) (maxL := μ'.2.1) (ret := μ'.2.2.1) (n := n) fx hM ⟨⟨t5, t6, rm.1, rm.2, gT_ws C t1, List.mem_cons_self, ok _ t1, ok _ t2, t3, hsig, ok _ lk⟩, ok _ tv.1, ok _ tv.2⟩ hpre rfl (by rw [List.length_map]; exact hn) hL.size hstk hW8 hd hcs
    · exact va_runVN (As := As.map (dn (zad Γ.1))) (rest := st.map (dn (zad Γ.1))) (C := y.cls) (host := host) (bytes := μ'.1) (maxL := μ'.2.1) (ret := μ'.2.2.1) (n := n) fx hM ⟨⟨⟨t5, t6, rm.1, rm.2, gT_ws C t1, List.mem_cons_self⟩, ok _ t1, ok _ t2, t3, hsig, ok _ lk⟩, ok _ tv.1, ok _ tv.2⟩ hpre rfl (by rw [List.length_map]; exact hn) hL.size hstk hW8 hd hcs
  intro T hT X
  obtain ⟨v, st₀, t, T', L, e0, X', hLf, e1, e2, ⟨⟨r, h', hv, hq', hP'⟩, hz, hk⟩, st1⟩ := hr T hT X
  cases hv
  rw [e0] at hz hk
  have hS1 : va_S (zA Γ.1) s.heap T'.heap (locs ++ L) := ⟨Nat.le_trans hS.1 (by rw [e1]; exact hz), fun q h1 h2 => by rw [e1, hk q (Nat.lt_of_lt_of_le h1 hS.1) h2]; exact hS.2.1 q h1 h2, fun q hq => by
      rcases List.mem_append.mp hq with h | h
      · exact hS.2.2 q h
      · exact hLf q h⟩
  obtain ⟨t2', a1, b1⟩ := kk r h' hq' p e s m below meth c T'.heap (locs ++ L) lsA C hX hb hG h0 (by rw [e1]; exact hP') hS1 hL T' rfl X'
  refine ⟨t2', st1 t2' ?_, b1⟩
  rw [zpu_dn, ← List.map_append]
  exact a1
end Lw
