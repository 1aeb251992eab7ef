/-! rules with the next place named; the frame of what the calls do not change -/
section Named
variable {G : Ga} {μ : Mt} {Q : Int → Hp → Prop} {pc pc' : Nat} {ls ls' : Lo} {st : List Sv} {h : Hp}
theorem zW_iconst {n : Int} (hd : decode μ.1 pc = .ok (.iconst n, 1)) (hn : pc + 1 = pc') (kk : zV G μ Q pc' ls (.inl n :: st) h) : zV G μ Q pc ls st h := by
  subst hn
  exact zV_iconst hd kk
theorem zW_bipush {n : Int} (hd : decode μ.1 pc = .ok (.bipush n, 2)) (hn : (Int8.ofInt n).toInt32 = Int32.ofInt n) (hn : pc + 2 = pc') (kk : zV G μ Q pc' ls (.inl n :: st) h) : zV G μ Q pc ls st h := by
  subst hn
  exact zV_bipush hd hn kk
theorem zW_sipush {n : Int} (hd : decode μ.1 pc = .ok (.sipush n, 3)) (hn : (Int16.ofInt n).toInt32 = Int32.ofInt n) (hn : pc + 3 = pc') (kk : zV G μ Q pc' ls (.inl n :: st) h) : zV G μ Q pc ls st h := by
  subst hn
  exact zV_sipush hd hn kk
theorem zW_lconst {n : Fin 2} (hd : decode μ.1 pc = .ok (.lconst n, 1)) (hn : pc + 1 = pc') (kk : zV G μ Q pc' ls (.inr (.inl (n : Nat)) :: st) h) : zV G μ Q pc ls st h := by
  subst hn
  exact zV_lconst hd kk
theorem zW_iload_n {k : Fin 4} {a : Int} (hd : decode μ.1 pc = .ok (.iload_n k, 1)) (hl : ls[(k : Nat)]? = some (some (.inl a))) (hn : pc + 1 = pc') (kk : zV G μ Q pc' ls (.inl a :: st) h) : zV G μ Q pc ls st h := by
  subst hn
  exact zV_iload_n hd hl kk
theorem zW_iload {k : Nat} {a : Int} (hd : decode μ.1 pc = .ok (.iload k, 2)) (hl : ls[k]? = some (some (.inl a))) (hn : pc + 2 = pc') (kk : zV G μ Q pc' ls (.inl a :: st) h) : zV G μ Q pc ls st h := by
  subst hn
  exact zV_iload hd hl kk
theorem zW_aload_n {k : Fin 4} {a : Nat} (hd : decode μ.1 pc = .ok (.aload_n k, 1)) (hl : ls[(k : Nat)]? = some (some (.inr (.inr a)))) (hn : pc + 1 = pc') (kk : zV G μ Q pc' ls (.inr (.inr a) :: st) h) : zV G μ Q pc ls st h := by
  subst hn
  exact zV_aload_n hd hl kk
theorem zW_aload {k : Nat} {a : Nat} (hd : decode μ.1 pc = .ok (.aload k, 2)) (hl : ls[k]? = some (some (.inr (.inr a)))) (hn : pc + 2 = pc') (kk : zV G μ Q pc' ls (.inr (.inr a) :: st) h) : zV G μ Q pc ls st h := by
  subst hn
  exact zV_aload hd hl kk
theorem zW_lload_n {k : Fin 4} {a : Int} (hd : decode μ.1 pc = .ok (.lload_n k, 1)) (hl : ls[(k : Nat)]? = some (some (.inr (.inl a)))) (hn : pc + 1 = pc') (kk : zV G μ Q pc' ls (.inr (.inl a) :: st) h) : zV G μ Q pc ls st h := by
  subst hn
  exact zV_lload_n hd hl kk
theorem zW_lload {k : Nat} {a : Int} (hd : decode μ.1 pc = .ok (.lload k, 2)) (hl : ls[k]? = some (some (.inr (.inl a)))) (hn : pc + 2 = pc') (kk : zV G μ Q pc' ls (.inr (.inl a) :: st) h) : zV G μ Q pc ls st h := by
  subst hn
  exact zV_lload hd hl kk
theorem zW_iadd {a b : Int} (hd : decode μ.1 pc = .ok (.iadd, 1)) (hn : pc + 1 = pc') (kk : zV G μ Q pc' ls (.inl (a + b) :: st) h) : zV G μ Q pc ls (.inl b :: .inl a :: st) h := by
  subst hn
  exact zV_iadd hd kk
theorem zW_isub {a b : Int} (hd : decode μ.1 pc = .ok (.isub, 1)) (hn : pc + 1 = pc') (kk : zV G μ Q pc' ls (.inl (a - b) :: st) h) : zV G μ Q pc ls (.inl b :: .inl a :: st) h := by
  subst hn
  exact zV_isub hd kk
theorem zW_imul {a b : Int} (hd : decode μ.1 pc = .ok (.imul, 1)) (hn : pc + 1 = pc') (kk : zV G μ Q pc' ls (.inl (a * b) :: st) h) : zV G μ Q pc ls (.inl b :: .inl a :: st) h := by
  subst hn
  exact zV_imul hd kk
theorem zW_ineg {a : Int} (hd : decode μ.1 pc = .ok (.ineg, 1)) (hn : pc + 1 = pc') (kk : zV G μ Q pc' ls (.inl (-a) :: st) h) : zV G μ Q pc ls (.inl a :: st) h := by
  subst hn
  exact zV_ineg hd kk
theorem zW_ladd {a b : Int} (hd : decode μ.1 pc = .ok (.ladd, 1)) (hn : pc + 1 = pc') (kk : zV G μ Q pc' ls (.inr (.inl (a + b)) :: st) h) : zV G μ Q pc ls (.inr (.inl b) :: .inr (.inl a) :: st) h := by
  subst hn
  exact zV_ladd hd kk
theorem zW_lmul {a b : Int} (hd : decode μ.1 pc = .ok (.lmul, 1)) (hn : pc + 1 = pc') (kk : zV G μ Q pc' ls (.inr (.inl (a * b)) :: st) h) : zV G μ Q pc ls (.inr (.inl b) :: .inr (.inl a) :: st) h := by
  subst hn
  exact zV_lmul hd kk
theorem zW_dup {v : Sv} (hd : decode μ.1 pc = .ok (.dup, 1)) (hv : (dn (zad G) v).category = 1) (hn : pc + 1 = pc') (kk : zV G μ Q pc' ls (v :: v :: st) h) : zV G μ Q pc ls (v :: st) h := by
  subst hn
  exact zV_dup hd hv kk
theorem zW_pop {v : Sv} (hd : decode μ.1 pc = .ok (.pop, 1)) (hv : (dn (zad G) v).category = 1) (hn : pc + 1 = pc') (kk : zV G μ Q pc' ls st h) : zV G μ Q pc ls (v :: st) h := by
  subst hn
  exact zV_pop hd hv kk
theorem zW_i2l {a : Int} (hd : decode μ.1 pc = .ok (.i2l, 1)) (hn : pc + 1 = pc') (kk : ∀ v : Int, zV G μ Q pc' ls (.inr (.inl v) :: st) h) : zV G μ Q pc ls (.inl a :: st) h := by
  subst hn
  exact zV_i2l hd kk
theorem zW_i2c {a : Int} (hd : decode μ.1 pc = .ok (.i2c, 1)) (hn : pc + 1 = pc') (kk : ∀ v : Int, rng v → zV G μ Q pc' ls (.inl v :: st) h) : zV G μ Q pc ls (.inl a :: st) h := by
  subst hn
  exact zV_i2c hd kk
theorem zW_lor {a b : Int} (hd : decode μ.1 pc = .ok (.lor, 1)) (hn : pc + 1 = pc') (kk : ∀ v : Int, zV G μ Q pc' ls (.inr (.inl v) :: st) h) : zV G μ Q pc ls (.inr (.inl b) :: .inr (.inl a) :: st) h := by
  subst hn
  exact zV_lor hd kk
theorem zW_lshl {a b : Int} (hd : decode μ.1 pc = .ok (.lshl, 1)) (hn : pc + 1 = pc') (kk : ∀ v : Int, zV G μ Q pc' ls (.inr (.inl v) :: st) h) : zV G μ Q pc ls (.inl b :: .inr (.inl a) :: st) h := by
  subst hn
  exact zV_lshl hd kk
theorem zW_ishrQ {a b : Int} (hd : decode μ.1 pc = .ok (.ishr, 1)) (hn : pc + 1 = pc') (kk : ∀ v : Int, rng v → zV G μ Q pc' ls (.inl v :: st) h) : zV G μ Q pc ls (.inl b :: .inl a :: st) h := by
  subst hn
  exact zV_ishrQ hd kk
theorem zW_iandQ {a b : Int} (hd : decode μ.1 pc = .ok (.iand, 1)) (hn : pc + 1 = pc') (kk : ∀ v : Int, rng v → zV G μ Q pc' ls (.inl v :: st) h) : zV G μ Q pc ls (.inl b :: .inl a :: st) h := by
  subst hn
  exact zV_iandQ hd kk
theorem zW_idivQ {a b : Int} (hb : rng b) (h0 : b ≠ 0) (hd : decode μ.1 pc = .ok (.idiv, 1)) (hn : pc + 1 = pc') (kk : ∀ v : Int, rng v → zV G μ Q pc' ls (.inl v :: st) h) : zV G μ Q pc ls (.inl b :: .inl a :: st) h := by
  subst hn
  exact zV_idivQ hb h0 hd kk
theorem zW_iremQ {a b : Int} (hb : rng b) (h0 : b ≠ 0) (hd : decode μ.1 pc = .ok (.irem, 1)) (hn : pc + 1 = pc') (kk : ∀ v : Int, rng v → zV G μ Q pc' ls (.inl v :: st) h) : zV G μ Q pc ls (.inl b :: .inl a :: st) h := by
  subst hn
  exact zV_iremQ hb h0 hd kk
theorem zW_idiv {a b : Int} (ha : 0 ≤ a ∧ a ≤ 2147483647) (hb : 0 < b ∧ b ≤ 2147483647) (hd : decode μ.1 pc = .ok (.idiv, 1)) (hn : pc + 1 = pc') (kk : zV G μ Q pc' ls (.inl (a / b) :: st) h) : zV G μ Q pc ls (.inl b :: .inl a :: st) h := by
  subst hn
  exact zV_idiv ha hb hd kk
theorem zW_irem {a b : Int} (ha : 0 ≤ a ∧ a ≤ 2147483647) (hb : 0 < b ∧ b ≤ 2147483647) (hd : decode μ.1 pc = .ok (.irem, 1)) (hn : pc + 1 = pc') (kk : zV G μ Q pc' ls (.inl (a % b) :: st) h) : zV G μ Q pc ls (.inl b :: .inl a :: st) h := by
  subst hn
  exact zV_irem ha hb hd kk
def st0 : Lo → Nat → Sv → Lo
  | [], _, _ => []
  | _ :: t, 0, v => some v :: t
  | x :: t, n + 1, v => x :: st0 t n v
def nl : Lo → Nat → Bool
  | _, 0 => true
  | [], _ => true
  | some (.inr (.inl _)) :: _, 1 => false
  | _ :: _, 1 => true
  | _ :: t, n + 2 => nl t (n + 1)
theorem stl_st0 : ∀ (ls : Lo) (k : Nat) (v : Sv), nl ls k = true → stl ls k v = st0 ls k v
  | [], 0, _, _ => rfl
  | [], _ + 1, _, _ => by simp [stl, st0]
  | x :: t, 0, v, _ => rfl
  | x :: t, 1, v, hh => by
    match x, hh with
    | none, _ => cases t <;> rfl
    | some (.inl a), _ => cases t <;> rfl
    | some (.inr (.inr a)), _ => cases t <;> rfl
  | x :: t, n + 2, v, hh => by
    have := stl_st0 t (n + 1) v (by
      match x, hh with
      | none, hh => exact hh
      | some (.inl a), hh => exact hh
      | some (.inr (.inr a)), hh => exact hh
      | some (.inr (.inl a)), hh => exact hh)
    simp only [stl, st0, this]
theorem zW_istore_n {k : Fin 4} {a : Int} (hd : decode μ.1 pc = .ok (.istore_n k, 1)) (hk : (k : Nat) < μ.2.1) (hnl : nl ls k = true) (hls : st0 ls k (.inl a) = ls') (hn : pc + 1 = pc') (kk : zV G μ Q pc' ls' st h) : zV G μ Q pc ls (.inl a :: st) h := by
  subst hn; subst hls
  exact zV_istore_n hd hk (by rw [stl_st0 _ _ _ hnl]; exact kk)
theorem zW_istore {k : Nat} {a : Int} (hd : decode μ.1 pc = .ok (.istore k, 2)) (hk : k < μ.2.1) (hnl : nl ls k = true) (hls : st0 ls k (.inl a) = ls') (hn : pc + 2 = pc') (kk : zV G μ Q pc' ls' st h) : zV G μ Q pc ls (.inl a :: st) h := by
  subst hn; subst hls
  exact zV_istore hd hk (by rw [stl_st0 _ _ _ hnl]; exact kk)
theorem zW_astore_n {k : Fin 4} {a : Nat} (hd : decode μ.1 pc = .ok (.astore_n k, 1)) (hk : (k : Nat) < μ.2.1) (hnl : nl ls k = true) (hls : st0 ls k (.inr (.inr a)) = ls') (hn : pc + 1 = pc') (kk : zV G μ Q pc' ls' st h) : zV G μ Q pc ls (.inr (.inr a) :: st) h := by
  subst hn; subst hls
  exact zV_astore_n hd hk (by rw [stl_st0 _ _ _ hnl]; exact kk)
theorem zW_astore {k : Nat} {a : Nat} (hd : decode μ.1 pc = .ok (.astore k, 2)) (hk : k < μ.2.1) (hnl : nl ls k = true) (hls : st0 ls k (.inr (.inr a)) = ls') (hn : pc + 2 = pc') (kk : zV G μ Q pc' ls' st h) : zV G μ Q pc ls (.inr (.inr a) :: st) h := by
  subst hn; subst hls
  exact zV_astore hd hk (by rw [stl_st0 _ _ _ hnl]; exact kk)
theorem zW_lstore_n {k : Fin 4} {a : Int} (hd : decode μ.1 pc = .ok (.lstore_n k, 1)) (hk : (k : Nat) + 1 < μ.2.1) (hnl : nl ls k = true) (hls : clr (st0 ls k (.inr (.inl a))) (k + 1) = ls') (hn : pc + 1 = pc') (kk : zV G μ Q pc' ls' st h) : zV G μ Q pc ls (.inr (.inl a) :: st) h := by
  subst hn; subst hls
  exact zV_lstore_n hd hk (by unfold stl2; rw [stl_st0 _ _ _ hnl]; exact kk)
theorem zW_lstore {k : Nat} {a : Int} (hd : decode μ.1 pc = .ok (.lstore k, 2)) (hk : k + 1 < μ.2.1) (hnl : nl ls k = true) (hls : clr (st0 ls k (.inr (.inl a))) (k + 1) = ls') (hn : pc + 2 = pc') (kk : zV G μ Q pc' ls' st h) : zV G μ Q pc ls (.inr (.inl a) :: st) h := by
  subst hn; subst hls
  exact zV_lstore hd hk (by unfold stl2; rw [stl_st0 _ _ _ hnl]; exact kk)
theorem zW_iinc {k : Nat} {n a : Int} (hd : decode μ.1 pc = .ok (.iinc k n, 3)) (hl : ls[k]? = some (some (.inl a))) (hk : k < μ.2.1) (hnl : nl ls k = true) (hls : st0 ls k (.inl (a + n)) = ls') (hn : pc + 3 = pc') (kk : zV G μ Q pc' ls' st h) : zV G μ Q pc ls st h := by
  subst hn; subst hls
  exact zV_iinc hd hl hk (by rw [stl_st0 _ _ _ hnl]; exact kk)
theorem zW_i2b {a : Int} (hd : decode μ.1 pc = .ok (.i2b, 1)) (hn : pc + 1 = pc') (kk : ∀ v : Int, -128 ≤ v ∧ v ≤ 127 → zV G μ Q pc' ls (.inl v :: st) h) : zV G μ Q pc ls (.inl a :: st) h := by
  subst hn
  intro p e s m args below meth c H locs lsA C hP hS hL
  refine lv_i2b C.1 C.2.1 hd rfl (zV_any32 C hP hS hL (kk _ ?_))
  have h1 := Int8.le_toInt (Int32.ofInt a).toInt8
  have h2 := Int8.toInt_lt (Int32.ofInt a).toInt8
  rw [Int8.toInt_toInt32]
  constructor <;> omega
theorem and32 {x : Int32} {c : Int} (hc : 0 ≤ c ∧ c ≤ 2147483647) : 0 ≤ (x &&& Int32.ofInt c).toInt ∧ (x &&& Int32.ofInt c).toInt ≤ c := by
  have e1 : (x &&& Int32.ofInt c).toInt = (x.toBitVec &&& (Int32.ofInt c).toBitVec).toInt := by rw [← Int32.toBitVec_and]; rfl
  have e2 : (Int32.ofInt c).toBitVec.toNat = c.toNat := by
    have := ti32 (a := c) ⟨by omega, hc.2⟩
    have h3 : (Int32.ofInt c).toBitVec.toInt = c := this
    rw [BitVec.toInt_eq_toNat_cond] at h3
    split at h3 <;> omega
  have e3 : (x.toBitVec &&& (Int32.ofInt c).toBitVec).toNat ≤ c.toNat := by
    rw [BitVec.toNat_and, e2]
    exact Nat.and_le_right
  rw [e1, BitVec.toInt_eq_toNat_cond]
  split <;> omega
theorem zW_iandC {a c : Int} (hc : 0 ≤ c ∧ c ≤ 2147483647) (hd : decode μ.1 pc = .ok (.iand, 1)) (hn : pc + 1 = pc') (kk : ∀ v : Int, 0 ≤ v ∧ v ≤ c → zV G μ Q pc' ls (.inl v :: st) h) : zV G μ Q pc ls (.inl c :: .inl a :: st) h := by
  subst hn
  intro p e s m args below meth c0 H locs lsA C hP hS hL
  exact lv_iand C.1 C.2.1 hd (zV_any32 C hP hS hL (kk _ (and32 hc)))
theorem zW_dup2 {a b : Sv} (hd : decode μ.1 pc = .ok (.dup2, 1)) (h1 : (dn (zad G) a).category = 1) (h2 : (dn (zad G) b).category = 1) (hn : pc + 1 = pc') (kk : zV G μ Q pc' ls (a :: b :: a :: b :: st) h) : zV G μ Q pc ls (a :: b :: st) h := by
  subst hn
  intro p e s m args below meth c H locs lsA C hP hS hL
  exact lv_dup2_11 C.1 C.2.1 hd h1 h2 (kk p e s m args below meth c H locs lsA C hP hS hL)
theorem zW_tsw {a : Int} {dflt lo hi : Int} {offs : Array Int} {len : Nat} (hd : decode μ.1 pc = .ok (.tableswitch dflt lo hi offs, len)) (tg : Int → Nat) (ha : rng a) (hin : ∀ (off : Int) (i : Nat), offs[i]? = some off → (pc : Int) + off = (tg (lo + i) : Int)) (hz : ((offs.size : Nat) : Int) = hi - lo + 1) {td : Nat} (htd : (pc : Int) + dflt = (td : Int))
    (kd : a < lo ∨ hi < a → zV G μ Q td ls st h) (ki : ¬ a < lo → ¬ hi < a → zV G μ Q (tg a) ls st h) : zV G μ Q pc ls (.inl a :: st) h := by
  intro p e s m args below meth c H locs lsA C hP hS hL
  have ea := ti32 ha
  by_cases h1 : a < lo ∨ hi < a
  · exact lv_tableOut C.1 C.2.1 hd (by rw [ea]; exact h1) htd (kd h1 p e s m args below meth c H locs lsA C hP hS hL)
  · have h2 : ¬ a < lo := fun q => h1 (Or.inl q)
    have h3 : ¬ hi < a := fun q => h1 (Or.inr q)
    have hlt : (a - lo).toNat < offs.size := by omega
    have ho : offs[(a - lo).toNat]? = some offs[(a - lo).toNat] := Array.getElem?_eq_getElem hlt
    have := hin _ _ ho
    have e1 : lo + (((a - lo).toNat : Nat) : Int) = a := by omega
    rw [e1] at this
    exact lv_tableIn C.1 C.2.1 hd (by rw [ea]; exact h2) (by rw [ea]; exact h3) (by rw [ea]; exact ho) this (ki h2 h3 p e s m args below meth c H locs lsA C hP hS hL)
end Named
