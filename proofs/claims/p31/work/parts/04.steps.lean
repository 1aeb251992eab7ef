/-! one instruction each -/
def rng (a : Int) : Prop := -2147483648 ≤ a ∧ a ≤ 2147483647
theorem ti32 {a : Int} (h : rng a) : (Int32.ofInt a).toInt = a := by
  obtain ⟨h1, h2⟩ := h
  exact Int32.toInt_ofInt_of_le (by simpa using h1) (by omega)
theorem rg32 (x : Int32) : rng x.toInt := ⟨Int32.le_toInt x, by have := Int32.toInt_lt x; omega⟩
theorem le32 {a b : Int} (ha : rng a) (hb : rng b) : Int32.ofInt a ≤ Int32.ofInt b ↔ a ≤ b := by rw [Int32.le_iff_toInt_le, ti32 ha, ti32 hb]
theorem lt32 {a b : Int} (ha : rng a) (hb : rng b) : Int32.ofInt a < Int32.ofInt b ↔ a < b := by rw [Int32.lt_iff_toInt_lt, ti32 ha, ti32 hb]
theorem eq32 {a b : Int} (ha : rng a) (hb : rng b) : Int32.ofInt a = Int32.ofInt b ↔ a = b := by
  rw [← Int32.toInt_inj, ti32 ha, ti32 hb]
theorem zr0 : rng 0 := ⟨by decide, by decide⟩
theorem oz32 : Int32.ofInt 0 = 0 := rfl
section Steps
variable {G : Ga} {μ : Mt} {Q : Int → Hp → Prop} {pc : Nat} {ls : Lo} {st : List Sv} {h : Hp}
theorem zV_anyI {a : Int} (kk : ∀ v : Int, rng v → zV G μ Q pc ls (.inl v :: st) h) : zV G μ Q pc ls (.inl a :: st) h := by
  intro p e s m args below meth c H locs lsA C hP hS hL
  have := kk (Int32.ofInt a).toInt (rg32 _) p e s m args below meth c H locs lsA C hP hS hL
  have e0 : dn (zad G) (.inl (Int32.ofInt a).toInt) = dn (zad G) (.inl a) := by simp only [dn]; rw [Int32.ofInt_toInt]
  rw [List.map_cons, e0] at this
  exact this
theorem zV_iconst {n : Int} (hd : decode μ.1 pc = .ok (.iconst n, 1)) (kk : zV G μ Q (pc + 1) ls (.inl n :: st) h) : zV G μ Q pc ls st h := by
  intro p e s m args below meth c H locs lsA C hP hS hL
  exact lv_iconst C.1 C.2.1 hd rfl (kk p e s m args below meth c H locs lsA C hP hS hL)
theorem zV_bipush {n : Int} (hd : decode μ.1 pc = .ok (.bipush n, 2)) (hn : (Int8.ofInt n).toInt32 = Int32.ofInt n) (kk : zV G μ Q (pc + 2) ls (.inl n :: st) h) : zV G μ Q pc ls st h := by
  intro p e s m args below meth c H locs lsA C hP hS hL
  exact lv_bipush C.1 C.2.1 hd hn (kk p e s m args below meth c H locs lsA C hP hS hL)
theorem zV_sipush {n : Int} (hd : decode μ.1 pc = .ok (.sipush n, 3)) (hn : (Int16.ofInt n).toInt32 = Int32.ofInt n) (kk : zV G μ Q (pc + 3) ls (.inl n :: st) h) : zV G μ Q pc ls st h := by
  intro p e s m args below meth c H locs lsA C hP hS hL
  exact lv_sipush C.1 C.2.1 hd hn (kk p e s m args below meth c H locs lsA C hP hS hL)
theorem zV_lconst {n : Fin 2} (hd : decode μ.1 pc = .ok (.lconst n, 1)) (kk : zV G μ Q (pc + 1) ls (.inr (.inl (n : Nat)) :: st) h) : zV G μ Q pc ls st h := by
  intro p e s m args below meth c H locs lsA C hP hS hL
  refine lv_lconst C.1 C.2.1 hd ?_ (kk p e s m args below meth c H locs lsA C hP hS hL)
  match n with
  | 0 => rfl
  | 1 => rfl
theorem zV_iload_n {k : Fin 4} {a : Int} (hd : decode μ.1 pc = .ok (.iload_n k, 1)) (hl : ls[(k : Nat)]? = some (some (.inl a))) (kk : zV G μ Q (pc + 1) ls (.inl a :: st) h) : zV G μ Q pc ls st h := by
  intro p e s m args below meth c H locs lsA C hP hS hL
  exact lv_iload_n C.1 C.2.1 hd rfl (hL.at hl) (kk p e s m args below meth c H locs lsA C hP hS hL)
theorem zV_iload {k : Nat} {a : Int} (hd : decode μ.1 pc = .ok (.iload k, 2)) (hl : ls[k]? = some (some (.inl a))) (kk : zV G μ Q (pc + 2) ls (.inl a :: st) h) : zV G μ Q pc ls st h := by
  intro p e s m args below meth c H locs lsA C hP hS hL
  exact lv_iload C.1 C.2.1 hd (hL.at hl) (kk p e s m args below meth c H locs lsA C hP hS hL)
theorem zV_aload_n {k : Fin 4} {a : Nat} (hd : decode μ.1 pc = .ok (.aload_n k, 1)) (hl : ls[(k : Nat)]? = some (some (.inr (.inr a)))) (kk : zV G μ Q (pc + 1) ls (.inr (.inr a) :: st) h) : zV G μ Q pc ls st h := by
  intro p e s m args below meth c H locs lsA C hP hS hL
  exact lv_aload_n C.1 C.2.1 hd rfl (hL.at hl) (kk p e s m args below meth c H locs lsA C hP hS hL)
theorem zV_aload {k : Nat} {a : Nat} (hd : decode μ.1 pc = .ok (.aload k, 2)) (hl : ls[k]? = some (some (.inr (.inr a)))) (kk : zV G μ Q (pc + 2) ls (.inr (.inr a) :: st) h) : zV G μ Q pc ls st h := by
  intro p e s m args below meth c H locs lsA C hP hS hL
  exact lv_aload C.1 C.2.1 hd (hL.at hl) (kk p e s m args below meth c H locs lsA C hP hS hL)
theorem zV_lload_n {k : Fin 4} {a : Int} (hd : decode μ.1 pc = .ok (.lload_n k, 1)) (hl : ls[(k : Nat)]? = some (some (.inr (.inl a)))) (kk : zV G μ Q (pc + 1) ls (.inr (.inl a) :: st) h) : zV G μ Q pc ls st h := by
  intro p e s m args below meth c H locs lsA C hP hS hL
  exact lv_lload_n C.1 C.2.1 hd rfl (hL.at hl) (kk p e s m args below meth c H locs lsA C hP hS hL)
theorem zV_lload {k : Nat} {a : Int} (hd : decode μ.1 pc = .ok (.lload k, 2)) (hl : ls[k]? = some (some (.inr (.inl a)))) (kk : zV G μ Q (pc + 2) ls (.inr (.inl a) :: st) h) : zV G μ Q pc ls st h := by
  intro p e s m args below meth c H locs lsA C hP hS hL
  exact lv_lload C.1 C.2.1 hd (hL.at hl) (kk p e s m args below meth c H locs lsA C hP hS hL)
theorem zV_istore_n {k : Fin 4} {a : Int} (hd : decode μ.1 pc = .ok (.istore_n k, 1)) (hn : (k : Nat) < μ.2.1) (kk : zV G μ Q (pc + 1) (stl ls k (.inl a)) st h) : zV G μ Q pc ls (.inl a :: st) h := by
  intro p e s m args below meth c H locs lsA C hP hS hL
  obtain ⟨l, h1, h2⟩ := hL.set1 (i := k) (v := .inl a) hn rfl
  exact lv_istore_n C.1 C.2.1 hd rfl h1 hn rfl (fun lsB hB => kk p e s m args below meth c H locs lsB C hP hS (h2 lsB hB))
theorem zV_istore {k : Nat} {a : Int} (hd : decode μ.1 pc = .ok (.istore k, 2)) (hn : k < μ.2.1) (kk : zV G μ Q (pc + 2) (stl ls k (.inl a)) st h) : zV G μ Q pc ls (.inl a :: st) h := by
  intro p e s m args below meth c H locs lsA C hP hS hL
  obtain ⟨l, h1, h2⟩ := hL.set1 (i := k) (v := .inl a) hn rfl
  exact lv_istore C.1 C.2.1 hd h1 hn rfl (fun lsB hB => kk p e s m args below meth c H locs lsB C hP hS (h2 lsB hB))
theorem zV_astore_n {k : Fin 4} {a : Nat} (hd : decode μ.1 pc = .ok (.astore_n k, 1)) (hn : (k : Nat) < μ.2.1) (kk : zV G μ Q (pc + 1) (stl ls k (.inr (.inr a))) st h) : zV G μ Q pc ls (.inr (.inr a) :: st) h := by
  intro p e s m args below meth c H locs lsA C hP hS hL
  obtain ⟨l, h1, h2⟩ := hL.set1 (i := k) (v := .inr (.inr a)) hn rfl
  exact lv_astore_n C.1 C.2.1 hd rfl h1 hn rfl (fun lsB hB => kk p e s m args below meth c H locs lsB C hP hS (h2 lsB hB))
theorem zV_astore {k : Nat} {a : Nat} (hd : decode μ.1 pc = .ok (.astore k, 2)) (hn : k < μ.2.1) (kk : zV G μ Q (pc + 2) (stl ls k (.inr (.inr a))) st h) : zV G μ Q pc ls (.inr (.inr a) :: st) h := by
  intro p e s m args below meth c H locs lsA C hP hS hL
  obtain ⟨l, h1, h2⟩ := hL.set1 (i := k) (v := .inr (.inr a)) hn rfl
  exact lv_astore C.1 C.2.1 hd h1 hn rfl (fun lsB hB => kk p e s m args below meth c H locs lsB C hP hS (h2 lsB hB))
theorem zV_lstore_n {k : Fin 4} {a : Int} (hd : decode μ.1 pc = .ok (.lstore_n k, 1)) (hn : (k : Nat) + 1 < μ.2.1) (kk : zV G μ Q (pc + 1) (stl2 ls k (.inr (.inl a))) st h) : zV G μ Q pc ls (.inr (.inl a) :: st) h := by
  intro p e s m args below meth c H locs lsA C hP hS hL
  obtain ⟨l, h1, h2⟩ := hL.set2 (i := k) (v := .inr (.inl a))
  exact lv_lstore_n C.1 C.2.1 hd rfl h1 hn rfl (fun lsB hB => kk p e s m args below meth c H locs lsB C hP hS (h2 lsB hB))
theorem zV_lstore {k : Nat} {a : Int} (hd : decode μ.1 pc = .ok (.lstore k, 2)) (hn : k + 1 < μ.2.1) (kk : zV G μ Q (pc + 2) (stl2 ls k (.inr (.inl a))) st h) : zV G μ Q pc ls (.inr (.inl a) :: st) h := by
  intro p e s m args below meth c H locs lsA C hP hS hL
  obtain ⟨l, h1, h2⟩ := hL.set2 (i := k) (v := .inr (.inl a))
  exact lv_lstore C.1 C.2.1 hd h1 hn rfl (fun lsB hB => kk p e s m args below meth c H locs lsB C hP hS (h2 lsB hB))
theorem zV_iinc {k : Nat} {n a : Int} (hd : decode μ.1 pc = .ok (.iinc k n, 3)) (hl : ls[k]? = some (some (.inl a))) (hn : k < μ.2.1) (kk : zV G μ Q (pc + 3) (stl ls k (.inl (a + n))) st h) : zV G μ Q pc ls st h := by
  intro p e s m args below meth c H locs lsA C hP hS hL
  obtain ⟨l, h1, h2⟩ := hL.set1 (i := k) (v := .inl (a + n)) hn rfl
  have hg := hL.at hl
  have ha : Int32.ofInt a + Int32.ofInt n = Int32.ofInt (a + n) := (Int32.ofInt_add a n).symm
  obtain ⟨lsB, e', h'⟩ := lv_store1 (v := .int (Int32.ofInt a + Int32.ofInt n)) h1 hn rfl
  intro T hT X
  obtain ⟨t, z1, z2⟩ := kk p e s m args below meth c H locs lsB C hP hS (h2 lsB (by rw [ha] at h'; exact h')) T hT X
  refine ⟨t, ?_, z2⟩
  have hx := C.1
  have hb := C.2.1
  have hg : lsA[k]? = some (.val (.int (Int32.ofInt a))) := hg
  jvm_step X.here [X.here.top, ↓top_set X.here.top, hx, hb, hd, hg, e']
  exact z1
theorem zV_iadd {a b : Int} (hd : decode μ.1 pc = .ok (.iadd, 1)) (kk : zV G μ Q (pc + 1) ls (.inl (a + b) :: st) h) : zV G μ Q pc ls (.inl b :: .inl a :: st) h := by
  intro p e s m args below meth c H locs lsA C hP hS hL
  refine lv_iadd C.1 C.2.1 hd ?_
  rw [← Int32.ofInt_add]
  exact kk p e s m args below meth c H locs lsA C hP hS hL
theorem zV_isub {a b : Int} (hd : decode μ.1 pc = .ok (.isub, 1)) (kk : zV G μ Q (pc + 1) ls (.inl (a - b) :: st) h) : zV G μ Q pc ls (.inl b :: .inl a :: st) h := by
  intro p e s m args below meth c H locs lsA C hP hS hL
  refine lv_isub C.1 C.2.1 hd ?_
  rw [← Int32.ofInt_sub]
  exact kk p e s m args below meth c H locs lsA C hP hS hL
theorem zV_imul {a b : Int} (hd : decode μ.1 pc = .ok (.imul, 1)) (kk : zV G μ Q (pc + 1) ls (.inl (a * b) :: st) h) : zV G μ Q pc ls (.inl b :: .inl a :: st) h := by
  intro p e s m args below meth c H locs lsA C hP hS hL
  refine lv_imul C.1 C.2.1 hd ?_
  rw [← Int32.ofInt_mul]
  exact kk p e s m args below meth c H locs lsA C hP hS hL
theorem zV_ineg {a : Int} (hd : decode μ.1 pc = .ok (.ineg, 1)) (kk : zV G μ Q (pc + 1) ls (.inl (-a) :: st) h) : zV G μ Q pc ls (.inl a :: st) h := by
  intro p e s m args below meth c H locs lsA C hP hS hL
  refine lv_ineg C.1 C.2.1 hd ?_
  rw [← Int32.ofInt_neg]
  exact kk p e s m args below meth c H locs lsA C hP hS hL
theorem zV_ladd {a b : Int} (hd : decode μ.1 pc = .ok (.ladd, 1)) (kk : zV G μ Q (pc + 1) ls (.inr (.inl (a + b)) :: st) h) : zV G μ Q pc ls (.inr (.inl b) :: .inr (.inl a) :: st) h := by
  intro p e s m args below meth c H locs lsA C hP hS hL
  refine lv_ladd C.1 C.2.1 hd ?_
  rw [← Int64.ofInt_add]
  exact kk p e s m args below meth c H locs lsA C hP hS hL
theorem zV_lmul {a b : Int} (hd : decode μ.1 pc = .ok (.lmul, 1)) (kk : zV G μ Q (pc + 1) ls (.inr (.inl (a * b)) :: st) h) : zV G μ Q pc ls (.inr (.inl b) :: .inr (.inl a) :: st) h := by
  intro p e s m args below meth c H locs lsA C hP hS hL
  refine lv_lmul C.1 C.2.1 hd ?_
  rw [← Int64.ofInt_mul]
  exact kk p e s m args below meth c H locs lsA C hP hS hL
theorem zV_dup {v : Sv} (hd : decode μ.1 pc = .ok (.dup, 1)) (hv : (dn (zad G) v).category = 1) (kk : zV G μ Q (pc + 1) ls (v :: v :: st) h) : zV G μ Q pc ls (v :: st) h := by
  intro p e s m args below meth c H locs lsA C hP hS hL
  exact lv_dup C.1 C.2.1 hd hv (kk p e s m args below meth c H locs lsA C hP hS hL)
theorem zV_pop {v : Sv} (hd : decode μ.1 pc = .ok (.pop, 1)) (hv : (dn (zad G) v).category = 1) (kk : zV G μ Q (pc + 1) ls st h) : zV G μ Q pc ls (v :: st) h := by
  intro p e s m args below meth c H locs lsA C hP hS hL
  exact lv_pop C.1 C.2.1 hd hv (kk p e s m args below meth c H locs lsA C hP hS hL)
theorem zV_goto {off : Int} (tgt : Nat) (hd : decode μ.1 pc = .ok (.goto off, 3)) (ht : (pc : Int) + off = (tgt : Int)) (kk : zV G μ Q tgt ls st h) : zV G μ Q pc ls st h := by
  intro p e s m args below meth c H locs lsA C hP hS hL
  exact lv_goto C.1 C.2.1 hd ht (kk p e s m args below meth c H locs lsA C hP hS hL)
/-- a result that is some int -/
theorem zV_any32 {x : Int32} {p : Program} {e : Env} {s : State} {m : MethodId} {args : Array Value} {below : List Frame} {meth : Method} {c : Code} {H : Heap} {locs : List Loc} {lsA : Array Slot} (C : zCx G μ p s m args meth c) (hP : zP G h H) (hS : va_S (zA G) s.heap H locs) (hL : zLH (zad G) lsA μ.2.1 ls) (kk : zV G μ Q pc ls (.inl x.toInt :: st) h) :
    W p G.1 e μ.2.2.2.2 s m args below meth c H locs 0 0 (MQ below (zQ G μ.2.2.1 Q) args s 0 0 (zA G)) (F0 m pc lsA (.int x :: st.map (dn (zad G)))) := by
  have := kk p e s m args below meth c H locs lsA C hP hS hL
  simpa [dn, Int32.ofInt_toInt] using this
theorem zV_any64 {x : Int64} {p : Program} {e : Env} {s : State} {m : MethodId} {args : Array Value} {below : List Frame} {meth : Method} {c : Code} {H : Heap} {locs : List Loc} {lsA : Array Slot} (C : zCx G μ p s m args meth c) (hP : zP G h H) (hS : va_S (zA G) s.heap H locs) (hL : zLH (zad G) lsA μ.2.1 ls) (kk : zV G μ Q pc ls (.inr (.inl x.toInt) :: st) h) :
    W p G.1 e μ.2.2.2.2 s m args below meth c H locs 0 0 (MQ below (zQ G μ.2.2.1 Q) args s 0 0 (zA G)) (F0 m pc lsA (.long x :: st.map (dn (zad G)))) := by
  have := kk p e s m args below meth c H locs lsA C hP hS hL
  simpa [dn, Int64.ofInt_toInt] using this
theorem zV_i2l {a : Int} (hd : decode μ.1 pc = .ok (.i2l, 1)) (kk : ∀ v : Int, zV G μ Q (pc + 1) ls (.inr (.inl v) :: st) h) : zV G μ Q pc ls (.inl a :: st) h := by
  intro p e s m args below meth c H locs lsA C hP hS hL
  exact lv_i2l C.1 C.2.1 hd rfl (zV_any64 C hP hS hL (kk _))
theorem zV_i2c {a : Int} (hd : decode μ.1 pc = .ok (.i2c, 1)) (kk : ∀ v : Int, rng v → zV G μ Q (pc + 1) ls (.inl v :: st) h) : zV G μ Q pc ls (.inl a :: st) h := by
  intro p e s m args below meth c H locs lsA C hP hS hL
  exact lv_i2c C.1 C.2.1 hd rfl (zV_any32 C hP hS hL (kk _ (rg32 _)))
theorem zV_lor {a b : Int} (hd : decode μ.1 pc = .ok (.lor, 1)) (kk : ∀ v : Int, zV G μ Q (pc + 1) ls (.inr (.inl v) :: st) h) : zV G μ Q pc ls (.inr (.inl b) :: .inr (.inl a) :: st) h := by
  intro p e s m args below meth c H locs lsA C hP hS hL
  exact lv_lor C.1 C.2.1 hd (zV_any64 C hP hS hL (kk _))
theorem zV_lshl {a b : Int} (hd : decode μ.1 pc = .ok (.lshl, 1)) (kk : ∀ v : Int, zV G μ Q (pc + 1) ls (.inr (.inl v) :: st) h) : zV G μ Q pc ls (.inl b :: .inr (.inl a) :: st) h := by
  intro p e s m args below meth c H locs lsA C hP hS hL
  exact lv_lshl C.1 C.2.1 hd rfl (zV_any64 C hP hS hL (kk _))
theorem zV_ishrQ {a b : Int} (hd : decode μ.1 pc = .ok (.ishr, 1)) (kk : ∀ v : Int, rng v → zV G μ Q (pc + 1) ls (.inl v :: st) h) : zV G μ Q pc ls (.inl b :: .inl a :: st) h := by
  intro p e s m args below meth c H locs lsA C hP hS hL
  exact lv_ishr C.1 C.2.1 hd (zV_any32 C hP hS hL (kk _ (rg32 _)))
theorem zV_iandQ {a b : Int} (hd : decode μ.1 pc = .ok (.iand, 1)) (kk : ∀ v : Int, rng v → zV G μ Q (pc + 1) ls (.inl v :: st) h) : zV G μ Q pc ls (.inl b :: .inl a :: st) h := by
  intro p e s m args below meth c H locs lsA C hP hS hL
  exact lv_iand C.1 C.2.1 hd (zV_any32 C hP hS hL (kk _ (rg32 _)))
theorem nz32 {b : Int} (hb : rng b) (h0 : b ≠ 0) : ¬ Int32.ofInt b = 0 := fun q => h0 ((eq32 hb zr0).mp (q.trans oz32.symm))
theorem zV_idivQ {a b : Int} (hb : rng b) (h0 : b ≠ 0) (hd : decode μ.1 pc = .ok (.idiv, 1)) (kk : ∀ v : Int, rng v → zV G μ Q (pc + 1) ls (.inl v :: st) h) : zV G μ Q pc ls (.inl b :: .inl a :: st) h := by
  intro p e s m args below meth c H locs lsA C hP hS hL
  exact lv_idiv C.1 C.2.1 hd (nz32 hb h0) (zV_any32 C hP hS hL (kk _ (rg32 _)))
theorem zV_iremQ {a b : Int} (hb : rng b) (h0 : b ≠ 0) (hd : decode μ.1 pc = .ok (.irem, 1)) (kk : ∀ v : Int, rng v → zV G μ Q (pc + 1) ls (.inl v :: st) h) : zV G μ Q pc ls (.inl b :: .inl a :: st) h := by
  intro p e s m args below meth c H locs lsA C hP hS hL
  exact lv_irem C.1 C.2.1 hd (nz32 hb h0) (zV_any32 C hP hS hL (kk _ (rg32 _)))
theorem div32 {a b : Int} (ha : rng a) (hb : rng b) (h1 : 0 ≤ a) (h2 : 0 < b) : Int32.ofInt a / Int32.ofInt b = Int32.ofInt (a / b) := by
  obtain ⟨n, rfl⟩ := Int.eq_ofNat_of_zero_le h1
  obtain ⟨d, rfl⟩ := Int.eq_ofNat_of_zero_le (Int.le_of_lt h2)
  have e1 : ∀ x : Nat, Int32.ofInt (x : Int) = nI x := fun x => rfl
  have ha2 := ha.2
  have hb2 := hb.2
  rw [e1, e1, pk_div (by omega) (by omega) (by omega)]
  have : ((n : Int) / (d : Int)) = ((n / d : Nat) : Int) := rfl
  rw [this, e1]
theorem rem32 {a b : Int} (ha : rng a) (hb : rng b) (h1 : 0 ≤ a) (h2 : 0 < b) : Int32.ofInt a - Int32.ofInt a / Int32.ofInt b * Int32.ofInt b = Int32.ofInt (a % b) := by
  rw [div32 ha hb h1 h2, ← Int32.ofInt_mul, ← Int32.ofInt_sub]
  congr 1
  have := Int.emod_def a b
  rw [this, Int.mul_comm]
theorem zV_idiv {a b : Int} (ha : 0 ≤ a ∧ a ≤ 2147483647) (hb : 0 < b ∧ b ≤ 2147483647) (hd : decode μ.1 pc = .ok (.idiv, 1)) (kk : zV G μ Q (pc + 1) ls (.inl (a / b) :: st) h) : zV G μ Q pc ls (.inl b :: .inl a :: st) h := by
  intro p e s m args below meth c H locs lsA C hP hS hL
  have ra : rng a := ⟨by omega, ha.2⟩
  have rb : rng b := ⟨by omega, hb.2⟩
  refine lv_idiv C.1 C.2.1 hd (nz32 rb (by omega)) ?_
  rw [div32 ra rb ha.1 hb.1]
  exact kk p e s m args below meth c H locs lsA C hP hS hL
theorem zV_irem {a b : Int} (ha : 0 ≤ a ∧ a ≤ 2147483647) (hb : 0 < b ∧ b ≤ 2147483647) (hd : decode μ.1 pc = .ok (.irem, 1)) (kk : zV G μ Q (pc + 1) ls (.inl (a % b) :: st) h) : zV G μ Q pc ls (.inl b :: .inl a :: st) h := by
  intro p e s m args below meth c H locs lsA C hP hS hL
  have ra : rng a := ⟨by omega, ha.2⟩
  have rb : rng b := ⟨by omega, hb.2⟩
  refine lv_irem C.1 C.2.1 hd (nz32 rb (by omega)) ?_
  rw [rem32 ra rb ha.1 hb.1]
  exact kk p e s m args below meth c H locs lsA C hP hS hL
end Steps
