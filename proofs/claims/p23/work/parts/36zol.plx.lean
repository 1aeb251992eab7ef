/-! longs, exactly -/
section LongX
variable {G : Ga} {μ : Mt} {Q : Int → Hp → Prop} {pc pc' : Nat} {ls : Lo} {st : List Sv} {h : Hp} {idx : Nat}
theorem zX_lsub {a b : Int} (hd : decode μ.1 pc = .ok (.lsub, 1)) (hn : pc + 1 = pc') (kk : zV G μ Q pc' ls (.inr (.inl (a - b)) :: st) h) : zV G μ Q pc ls (.inr (.inl b) :: .inr (.inl a) :: st) h := by
  subst hn
  intro p e s m args below meth c H locs lsA C hP hS hL
  refine lv_lsub C.1 C.2.1 hd ?_
  rw [← Int64.ofInt_sub]
  exact kk p e s m args below meth c H locs lsA C hP hS hL
theorem lx_l2i64 (a : Int) : (Int64.ofInt a).toInt32 = Int32.ofInt a := by
  rw [Int64.toInt32_ofInt]
theorem zX_l2i {a : Int} (hd : decode μ.1 pc = .ok (.l2i, 1)) (hn : pc + 1 = pc') (kk : zV G μ Q pc' ls (.inl a :: st) h) : zV G μ Q pc ls (.inr (.inl a) :: st) h := by
  subst hn
  intro p e s m args below meth c H locs lsA C hP hS hL
  exact lv_l2i C.1 C.2.1 hd (lx_l2i64 a) (kk p e s m args below meth c H locs lsA C hP hS hL)
/-- a natural number below 2^64 as a long -/
def lxN (X : Nat) : Int64 := Int64.ofInt (X : Int)
theorem lxN_bv (X : Nat) : (lxN X).toBitVec = BitVec.ofNat 64 X := by
  unfold lxN
  rw [Int64.toBitVec_ofInt, BitVec.ofInt_natCast]
theorem lxN_of {v : Int64} {X : Nat} (h : v.toBitVec = BitVec.ofNat 64 X) : v = lxN X := by
  apply Int64.toBitVec.inj
  rw [h, lxN_bv]
theorem lxN_and (X Y : Nat) : lxN X &&& lxN Y = lxN (X &&& Y) := by
  apply lxN_of
  rw [Int64.toBitVec_and, lxN_bv, lxN_bv]
  apply BitVec.eq_of_toNat_eq
  rw [BitVec.toNat_and, BitVec.toNat_ofNat, BitVec.toNat_ofNat, BitVec.toNat_ofNat, Nat.and_mod_two_pow]
theorem lxN_or (X Y : Nat) : lxN X ||| lxN Y = lxN (X ||| Y) := by
  apply lxN_of
  rw [Int64.toBitVec_or, lxN_bv, lxN_bv]
  apply BitVec.eq_of_toNat_eq
  rw [BitVec.toNat_or, BitVec.toNat_ofNat, BitVec.toNat_ofNat, BitVec.toNat_ofNat, Nat.or_mod_two_pow]
theorem zX_land {a b : Int} (hd : decode μ.1 pc = .ok (.land, 1)) (hn : pc + 1 = pc') (ha : 0 ≤ a) (hb : 0 ≤ b) (kk : zV G μ Q pc' ls (.inr (.inl ((a.toNat &&& b.toNat : Nat) : Int)) :: st) h) : zV G μ Q pc ls (.inr (.inl b) :: .inr (.inl a) :: st) h := by
  subst hn
  intro p e s m args below meth c H locs lsA C hP hS hL
  refine lv_land C.1 C.2.1 hd ?_
  have e1 : Int64.ofInt a = lxN a.toNat := by unfold lxN; rw [Int.toNat_of_nonneg ha]
  have e2 : Int64.ofInt b = lxN b.toNat := by unfold lxN; rw [Int.toNat_of_nonneg hb]
  rw [e1, e2, lxN_and]
  exact kk p e s m args below meth c H locs lsA C hP hS hL
theorem zX_lor {a b : Int} (hd : decode μ.1 pc = .ok (.lor, 1)) (hn : pc + 1 = pc') (ha : 0 ≤ a) (hb : 0 ≤ b) (kk : zV G μ Q pc' ls (.inr (.inl ((a.toNat ||| b.toNat : Nat) : Int)) :: st) h) : zV G μ Q pc ls (.inr (.inl b) :: .inr (.inl a) :: st) h := by
  subst hn
  intro p e s m args below meth c H locs lsA C hP hS hL
  refine lv_lor C.1 C.2.1 hd ?_
  have e1 : Int64.ofInt a = lxN a.toNat := by unfold lxN; rw [Int.toNat_of_nonneg ha]
  have e2 : Int64.ofInt b = lxN b.toNat := by unfold lxN; rw [Int.toNat_of_nonneg hb]
  rw [e1, e2, lxN_or]
  exact kk p e s m args below meth c H locs lsA C hP hS hL
theorem lx_b63 {b : Int} (hb : 0 ≤ b ∧ b < 64) : ∃ n : Nat, n < 64 ∧ b = (n : Int) := ⟨b.toNat, by omega, by omega⟩
theorem lx_sh63 : ∀ n : Fin 64, ((Int32.ofInt (n.val : Int)).toInt64.toUInt64 &&& Int64.toUInt64 63).toBitVec = BitVec.ofNat 64 n.val ∧ ((Int32.ofInt (n.val : Int)).toInt64 &&& 63).toBitVec = BitVec.ofNat 64 n.val := by decide +kernel
theorem zX_lushr {a b : Int} (hd : decode μ.1 pc = .ok (.lushr, 1)) (hn : pc + 1 = pc') (ha : 0 ≤ a ∧ a < 18446744073709551616) (hb : 0 ≤ b ∧ b < 64) (kk : zV G μ Q pc' ls (.inr (.inl ((a.toNat / 2 ^ b.toNat : Nat) : Int)) :: st) h) : zV G μ Q pc ls (.inl b :: .inr (.inl a) :: st) h := by
  subst hn
  intro p e s m args below meth c H locs lsA C hP hS hL
  refine lv_lushr C.1 C.2.1 hd (v := lxN (a.toNat / 2 ^ b.toNat)) ?_ (kk p e s m args below meth c H locs lsA C hP hS hL)
  obtain ⟨n, hn1, rfl⟩ := lx_b63 hb
  have e1 : Int64.ofInt a = lxN a.toNat := by unfold lxN; rw [Int.toNat_of_nonneg ha.1]
  have k := (lx_sh63 ⟨n, hn1⟩).1
  dsimp only at k
  apply lxN_of
  show (((Int64.ofInt a).toUInt64 >>> ((Int32.ofInt (n : Int)).toInt64.toUInt64 &&& Int64.toUInt64 63)).toBitVec) = _
  rw [UInt64.toBitVec_shiftRight, k, e1]
  show (lxN a.toNat).toBitVec >>> (BitVec.ofNat 64 n % 64) = _
  rw [lxN_bv]
  apply BitVec.eq_of_toNat_eq
  rw [BitVec.ushiftRight_eq', BitVec.toNat_ushiftRight, BitVec.toNat_ofNat, BitVec.toNat_ofNat, BitVec.toNat_umod, BitVec.toNat_ofNat, Nat.shiftRight_eq_div_pow, Int.toNat_natCast]
  have q : a.toNat < 18446744073709551616 := by omega
  have q1 : a.toNat / 2 ^ n < 18446744073709551616 := Nat.lt_of_le_of_lt (Nat.div_le_self _ _) q
  show a.toNat % 18446744073709551616 / 2 ^ (n % 18446744073709551616 % 64) = a.toNat / 2 ^ n % 18446744073709551616
  rw [Nat.mod_eq_of_lt q, Nat.mod_eq_of_lt q1, Nat.mod_eq_of_lt (show n < 18446744073709551616 by omega), Nat.mod_eq_of_lt hn1]
theorem zX_lshl1 {b : Int} (hd : decode μ.1 pc = .ok (.lshl, 1)) (hn : pc + 1 = pc') (hb : 0 ≤ b ∧ b < 64) (kk : zV G μ Q pc' ls (.inr (.inl ((2 ^ b.toNat : Nat) : Int)) :: st) h) : zV G μ Q pc ls (.inl b :: .inr (.inl 1) :: st) h := by
  subst hn
  intro p e s m args below meth c H locs lsA C hP hS hL
  refine lv_lshl C.1 C.2.1 hd (v := lxN (2 ^ b.toNat)) ?_ (kk p e s m args below meth c H locs lsA C hP hS hL)
  obtain ⟨n, hn1, rfl⟩ := lx_b63 hb
  have k := (lx_sh63 ⟨n, hn1⟩).2
  dsimp only at k
  apply lxN_of
  rw [Int64.toBitVec_shiftLeft, k]
  show (lxN 1).toBitVec <<< (BitVec.smod (BitVec.ofNat 64 n) 64) = _
  rw [lxN_bv]
  have k2 : ∀ n : Fin 64, (BitVec.ofNat 64 1) <<< (BitVec.smod (BitVec.ofNat 64 n.val) 64) = BitVec.ofNat 64 (2 ^ n.val) := by decide +kernel
  exact k2 ⟨n, hn1⟩
theorem zY_land {a b : Int} (hd : decode μ.1 pc = .ok (.land, 1)) (hn : pc + 1 = pc') (ha : 0 ≤ a) (hb : 0 ≤ b) (kk : ∀ v : Int, v = ((a.toNat &&& b.toNat : Nat) : Int) → zV G μ Q pc' ls (.inr (.inl v) :: st) h) : zV G μ Q pc ls (.inr (.inl b) :: .inr (.inl a) :: st) h := zX_land hd hn ha hb (kk _ rfl)
theorem zY_lor {a b : Int} (hd : decode μ.1 pc = .ok (.lor, 1)) (hn : pc + 1 = pc') (ha : 0 ≤ a) (hb : 0 ≤ b) (kk : ∀ v : Int, v = ((a.toNat ||| b.toNat : Nat) : Int) → zV G μ Q pc' ls (.inr (.inl v) :: st) h) : zV G μ Q pc ls (.inr (.inl b) :: .inr (.inl a) :: st) h := zX_lor hd hn ha hb (kk _ rfl)
theorem zY_lushr {a b : Int} (hd : decode μ.1 pc = .ok (.lushr, 1)) (hn : pc + 1 = pc') (ha : 0 ≤ a ∧ a < 18446744073709551616) (hb : 0 ≤ b ∧ b < 64) (kk : ∀ v : Int, v = ((a.toNat / 2 ^ b.toNat : Nat) : Int) → zV G μ Q pc' ls (.inr (.inl v) :: st) h) : zV G μ Q pc ls (.inl b :: .inr (.inl a) :: st) h := zX_lushr hd hn ha hb (kk _ rfl)
theorem zY_lshl {b : Int} (hd : decode μ.1 pc = .ok (.lshl, 1)) (hn : pc + 1 = pc') (hb : 0 ≤ b ∧ b < 64) (kk : ∀ v : Int, v = ((2 ^ b.toNat : Nat) : Int) → zV G μ Q pc' ls (.inr (.inl v) :: st) h) : zV G μ Q pc ls (.inl b :: .inr (.inl 1) :: st) h := zX_lshl1 hd hn hb (kk _ rfl)
theorem zY_lsub {a b : Int} (hd : decode μ.1 pc = .ok (.lsub, 1)) (hn : pc + 1 = pc') (kk : ∀ v : Int, v = a - b → zV G μ Q pc' ls (.inr (.inl v) :: st) h) : zV G μ Q pc ls (.inr (.inl b) :: .inr (.inl a) :: st) h := zX_lsub hd hn (kk _ rfl)
theorem zY_ladd {a b : Int} (hd : decode μ.1 pc = .ok (.ladd, 1)) (hn : pc + 1 = pc') (kk : ∀ v : Int, v = a + b → zV G μ Q pc' ls (.inr (.inl v) :: st) h) : zV G μ Q pc ls (.inr (.inl b) :: .inr (.inl a) :: st) h := zW_ladd hd hn (kk _ rfl)
theorem lx_and127 (A : Nat) : Int32.ofInt (A : Int) &&& Int32.ofInt 127 = Int32.ofInt ((A % 128 : Nat) : Int) := by
  apply Int32.toBitVec.inj
  rw [Int32.toBitVec_and, Int32.toBitVec_ofInt, Int32.toBitVec_ofInt, Int32.toBitVec_ofInt, BitVec.ofInt_natCast, BitVec.ofInt_natCast]
  apply BitVec.eq_of_toNat_eq
  rw [BitVec.toNat_and, BitVec.toNat_ofNat, BitVec.toNat_ofNat]
  show A % 4294967296 &&& (2 ^ 7 - 1) = A % 128 % 4294967296
  rw [Nat.and_two_pow_sub_one_eq_mod]
  omega
theorem zY_iand127 {a : Int} (ha : 0 ≤ a) (hd : decode μ.1 pc = .ok (.iand, 1)) (hn : pc + 1 = pc') (kk : ∀ v : Int, v = ((a.toNat % 128 : Nat) : Int) → zV G μ Q pc' ls (.inl v :: st) h) : zV G μ Q pc ls (.inl 127 :: .inl a :: st) h := by
  subst hn
  intro p e s m args below meth c H locs lsA C hP hS hL
  refine lv_iand C.1 C.2.1 hd ?_
  have e1 : Int32.ofInt a = Int32.ofInt ((a.toNat : Nat) : Int) := by rw [Int.toNat_of_nonneg ha]
  rw [e1, lx_and127]
  exact kk _ rfl p e s m args below meth c H locs lsA C hP hS hL
theorem zX_Sl {b : Bd} {κ : Hp} {k n : Nat} {i v : Int} (hF : Fr b κ h) (hk : scr b k = true) (h97 : k = 97) (ht : tab[k]? = some (2, 3, [n])) (hi : 0 ≤ i ∧ i < n) (hd : decode μ.1 pc = .ok (.lastore, 1)) (hs : n < 2147483648) (hn : pc + 1 = pc') (kk : ∀ h' : Hp, Fr b κ h' → h' = zwr h k i.toNat v → zV G μ Q pc' ls st h') : zV G μ Q pc ls (.inr (.inl v) :: .inl i :: .inr (.inr k) :: st) h :=
  zV_last ht hi hd hs hn (kk _ (hF.wr hk (fun _ q => absurd h97 q)) rfl)
end LongX
