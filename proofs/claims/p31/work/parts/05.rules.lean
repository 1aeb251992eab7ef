/-! branches, arrays, fields, answers, calls -/
section Branch
variable {G : Ga} {μ : Mt} {Q : Int → Hp → Prop} {pc pc' tgt : Nat} {ls : Lo} {st : List Sv} {h : Hp}
theorem zV_if_eq {a : Int} {off : Int} (hd : decode μ.1 pc = .ok (.ifCond .eq off, 3)) (ht : (pc : Int) + off = (tgt : Int)) (hn : pc + 3 = pc') (ha : rng a) (kt : a = 0 → zV G μ Q tgt ls st h) (kf : ¬ a = 0 → zV G μ Q pc' ls st h) : zV G μ Q pc ls (.inl a :: st) h := by
  subst hn
  intro p e s m args below meth c H locs lsA C hP hS hL
  exact lv_if_eq C.1 C.2.1 hd ht (fun q => kt ((eq32 ha zr0).mp q) p e s m args below meth c H locs lsA C hP hS hL) (fun q => kf (fun z => q ((eq32 ha zr0).mpr z)) p e s m args below meth c H locs lsA C hP hS hL)
theorem zV_ifQ_eq {a : Int} {off : Int} (hd : decode μ.1 pc = .ok (.ifCond .eq off, 3)) (ht : (pc : Int) + off = (tgt : Int)) (hn : pc + 3 = pc') (kt : zV G μ Q tgt ls st h) (kf : zV G μ Q pc' ls st h) : zV G μ Q pc ls (.inl a :: st) h := by
  subst hn
  intro p e s m args below meth c H locs lsA C hP hS hL
  exact lv_if_eq C.1 C.2.1 hd ht (fun _ => kt p e s m args below meth c H locs lsA C hP hS hL) (fun _ => kf p e s m args below meth c H locs lsA C hP hS hL)
theorem zV_if_ne {a : Int} {off : Int} (hd : decode μ.1 pc = .ok (.ifCond .ne off, 3)) (ht : (pc : Int) + off = (tgt : Int)) (hn : pc + 3 = pc') (ha : rng a) (kt : ¬ a = 0 → zV G μ Q tgt ls st h) (kf : a = 0 → zV G μ Q pc' ls st h) : zV G μ Q pc ls (.inl a :: st) h := by
  subst hn
  intro p e s m args below meth c H locs lsA C hP hS hL
  exact lv_if_ne C.1 C.2.1 hd ht (fun q => kt (fun z => q ((eq32 ha zr0).mpr z)) p e s m args below meth c H locs lsA C hP hS hL) (fun q => kf ((eq32 ha zr0).mp q) p e s m args below meth c H locs lsA C hP hS hL)
theorem zV_ifQ_ne {a : Int} {off : Int} (hd : decode μ.1 pc = .ok (.ifCond .ne off, 3)) (ht : (pc : Int) + off = (tgt : Int)) (hn : pc + 3 = pc') (kt : zV G μ Q tgt ls st h) (kf : zV G μ Q pc' ls st h) : zV G μ Q pc ls (.inl a :: st) h := by
  subst hn
  intro p e s m args below meth c H locs lsA C hP hS hL
  exact lv_if_ne C.1 C.2.1 hd ht (fun _ => kt p e s m args below meth c H locs lsA C hP hS hL) (fun _ => kf p e s m args below meth c H locs lsA C hP hS hL)
theorem zV_if_lt {a : Int} {off : Int} (hd : decode μ.1 pc = .ok (.ifCond .lt off, 3)) (ht : (pc : Int) + off = (tgt : Int)) (hn : pc + 3 = pc') (ha : rng a) (kt : a < 0 → zV G μ Q tgt ls st h) (kf : ¬ a < 0 → zV G μ Q pc' ls st h) : zV G μ Q pc ls (.inl a :: st) h := by
  subst hn
  intro p e s m args below meth c H locs lsA C hP hS hL
  exact lv_if_lt C.1 C.2.1 hd ht (fun q => kt ((lt32 ha zr0).mp q) p e s m args below meth c H locs lsA C hP hS hL) (fun q => kf (fun z => q ((lt32 ha zr0).mpr z)) p e s m args below meth c H locs lsA C hP hS hL)
theorem zV_if_ge {a : Int} {off : Int} (hd : decode μ.1 pc = .ok (.ifCond .ge off, 3)) (ht : (pc : Int) + off = (tgt : Int)) (hn : pc + 3 = pc') (ha : rng a) (kt : 0 ≤ a → zV G μ Q tgt ls st h) (kf : ¬ 0 ≤ a → zV G μ Q pc' ls st h) : zV G μ Q pc ls (.inl a :: st) h := by
  subst hn
  intro p e s m args below meth c H locs lsA C hP hS hL
  exact lv_if_ge C.1 C.2.1 hd ht (fun q => kt ((le32 zr0 ha).mp q) p e s m args below meth c H locs lsA C hP hS hL) (fun q => kf (fun z => q ((le32 zr0 ha).mpr z)) p e s m args below meth c H locs lsA C hP hS hL)
theorem zV_ifQ_ge {a : Int} {off : Int} (hd : decode μ.1 pc = .ok (.ifCond .ge off, 3)) (ht : (pc : Int) + off = (tgt : Int)) (hn : pc + 3 = pc') (kt : zV G μ Q tgt ls st h) (kf : zV G μ Q pc' ls st h) : zV G μ Q pc ls (.inl a :: st) h := by
  subst hn
  intro p e s m args below meth c H locs lsA C hP hS hL
  exact lv_if_ge C.1 C.2.1 hd ht (fun _ => kt p e s m args below meth c H locs lsA C hP hS hL) (fun _ => kf p e s m args below meth c H locs lsA C hP hS hL)
theorem zV_if_le {a : Int} {off : Int} (hd : decode μ.1 pc = .ok (.ifCond .le off, 3)) (ht : (pc : Int) + off = (tgt : Int)) (hn : pc + 3 = pc') (ha : rng a) (kt : a ≤ 0 → zV G μ Q tgt ls st h) (kf : ¬ a ≤ 0 → zV G μ Q pc' ls st h) : zV G μ Q pc ls (.inl a :: st) h := by
  subst hn
  intro p e s m args below meth c H locs lsA C hP hS hL
  exact lv_if_le C.1 C.2.1 hd ht (fun q => kt ((le32 ha zr0).mp q) p e s m args below meth c H locs lsA C hP hS hL) (fun q => kf (fun z => q ((le32 ha zr0).mpr z)) p e s m args below meth c H locs lsA C hP hS hL)
theorem zV_ifQ_le {a : Int} {off : Int} (hd : decode μ.1 pc = .ok (.ifCond .le off, 3)) (ht : (pc : Int) + off = (tgt : Int)) (hn : pc + 3 = pc') (kt : zV G μ Q tgt ls st h) (kf : zV G μ Q pc' ls st h) : zV G μ Q pc ls (.inl a :: st) h := by
  subst hn
  intro p e s m args below meth c H locs lsA C hP hS hL
  exact lv_if_le C.1 C.2.1 hd ht (fun _ => kt p e s m args below meth c H locs lsA C hP hS hL) (fun _ => kf p e s m args below meth c H locs lsA C hP hS hL)
theorem zV_cm_eq {a b : Int} {off : Int} (hd : decode μ.1 pc = .ok (.if_icmp .eq off, 3)) (ht : (pc : Int) + off = (tgt : Int)) (hn : pc + 3 = pc') (ha : rng a) (hb : rng b) (kt : a = b → zV G μ Q tgt ls st h) (kf : ¬ a = b → zV G μ Q pc' ls st h) : zV G μ Q pc ls (.inl b :: .inl a :: st) h := by
  subst hn
  intro p e s m args below meth c H locs lsA C hP hS hL
  exact lv_icmp_eq C.1 C.2.1 hd ht (fun q => kt ((eq32 ha hb).mp q) p e s m args below meth c H locs lsA C hP hS hL) (fun q => kf (fun z => q ((eq32 ha hb).mpr z)) p e s m args below meth c H locs lsA C hP hS hL)
theorem zV_cmQ_eq {a b : Int} {off : Int} (hd : decode μ.1 pc = .ok (.if_icmp .eq off, 3)) (ht : (pc : Int) + off = (tgt : Int)) (hn : pc + 3 = pc') (kt : zV G μ Q tgt ls st h) (kf : zV G μ Q pc' ls st h) : zV G μ Q pc ls (.inl b :: .inl a :: st) h := by
  subst hn
  intro p e s m args below meth c H locs lsA C hP hS hL
  exact lv_icmp_eq C.1 C.2.1 hd ht (fun _ => kt p e s m args below meth c H locs lsA C hP hS hL) (fun _ => kf p e s m args below meth c H locs lsA C hP hS hL)
theorem zV_cm_ne {a b : Int} {off : Int} (hd : decode μ.1 pc = .ok (.if_icmp .ne off, 3)) (ht : (pc : Int) + off = (tgt : Int)) (hn : pc + 3 = pc') (ha : rng a) (hb : rng b) (kt : ¬ a = b → zV G μ Q tgt ls st h) (kf : a = b → zV G μ Q pc' ls st h) : zV G μ Q pc ls (.inl b :: .inl a :: st) h := by
  subst hn
  intro p e s m args below meth c H locs lsA C hP hS hL
  exact lv_icmp_ne C.1 C.2.1 hd ht (fun q => kt (fun z => q ((eq32 ha hb).mpr z)) p e s m args below meth c H locs lsA C hP hS hL) (fun q => kf ((eq32 ha hb).mp q) p e s m args below meth c H locs lsA C hP hS hL)
theorem zV_cmQ_ne {a b : Int} {off : Int} (hd : decode μ.1 pc = .ok (.if_icmp .ne off, 3)) (ht : (pc : Int) + off = (tgt : Int)) (hn : pc + 3 = pc') (kt : zV G μ Q tgt ls st h) (kf : zV G μ Q pc' ls st h) : zV G μ Q pc ls (.inl b :: .inl a :: st) h := by
  subst hn
  intro p e s m args below meth c H locs lsA C hP hS hL
  exact lv_icmp_ne C.1 C.2.1 hd ht (fun _ => kt p e s m args below meth c H locs lsA C hP hS hL) (fun _ => kf p e s m args below meth c H locs lsA C hP hS hL)
theorem zV_cm_lt {a b : Int} {off : Int} (hd : decode μ.1 pc = .ok (.if_icmp .lt off, 3)) (ht : (pc : Int) + off = (tgt : Int)) (hn : pc + 3 = pc') (ha : rng a) (hb : rng b) (kt : a < b → zV G μ Q tgt ls st h) (kf : ¬ a < b → zV G μ Q pc' ls st h) : zV G μ Q pc ls (.inl b :: .inl a :: st) h := by
  subst hn
  intro p e s m args below meth c H locs lsA C hP hS hL
  exact lv_icmp_lt C.1 C.2.1 hd ht (fun q => kt ((lt32 ha hb).mp q) p e s m args below meth c H locs lsA C hP hS hL) (fun q => kf (fun z => q ((lt32 ha hb).mpr z)) p e s m args below meth c H locs lsA C hP hS hL)
theorem zV_cmQ_lt {a b : Int} {off : Int} (hd : decode μ.1 pc = .ok (.if_icmp .lt off, 3)) (ht : (pc : Int) + off = (tgt : Int)) (hn : pc + 3 = pc') (kt : zV G μ Q tgt ls st h) (kf : zV G μ Q pc' ls st h) : zV G μ Q pc ls (.inl b :: .inl a :: st) h := by
  subst hn
  intro p e s m args below meth c H locs lsA C hP hS hL
  exact lv_icmp_lt C.1 C.2.1 hd ht (fun _ => kt p e s m args below meth c H locs lsA C hP hS hL) (fun _ => kf p e s m args below meth c H locs lsA C hP hS hL)
theorem zV_cm_ge {a b : Int} {off : Int} (hd : decode μ.1 pc = .ok (.if_icmp .ge off, 3)) (ht : (pc : Int) + off = (tgt : Int)) (hn : pc + 3 = pc') (ha : rng a) (hb : rng b) (kt : b ≤ a → zV G μ Q tgt ls st h) (kf : ¬ b ≤ a → zV G μ Q pc' ls st h) : zV G μ Q pc ls (.inl b :: .inl a :: st) h := by
  subst hn
  intro p e s m args below meth c H locs lsA C hP hS hL
  exact lv_icmp_ge C.1 C.2.1 hd ht (fun q => kt ((le32 hb ha).mp q) p e s m args below meth c H locs lsA C hP hS hL) (fun q => kf (fun z => q ((le32 hb ha).mpr z)) p e s m args below meth c H locs lsA C hP hS hL)
theorem zV_cmQ_ge {a b : Int} {off : Int} (hd : decode μ.1 pc = .ok (.if_icmp .ge off, 3)) (ht : (pc : Int) + off = (tgt : Int)) (hn : pc + 3 = pc') (kt : zV G μ Q tgt ls st h) (kf : zV G μ Q pc' ls st h) : zV G μ Q pc ls (.inl b :: .inl a :: st) h := by
  subst hn
  intro p e s m args below meth c H locs lsA C hP hS hL
  exact lv_icmp_ge C.1 C.2.1 hd ht (fun _ => kt p e s m args below meth c H locs lsA C hP hS hL) (fun _ => kf p e s m args below meth c H locs lsA C hP hS hL)
theorem zV_cm_gt {a b : Int} {off : Int} (hd : decode μ.1 pc = .ok (.if_icmp .gt off, 3)) (ht : (pc : Int) + off = (tgt : Int)) (hn : pc + 3 = pc') (ha : rng a) (hb : rng b) (kt : b < a → zV G μ Q tgt ls st h) (kf : ¬ b < a → zV G μ Q pc' ls st h) : zV G μ Q pc ls (.inl b :: .inl a :: st) h := by
  subst hn
  intro p e s m args below meth c H locs lsA C hP hS hL
  exact lv_icmp_gt C.1 C.2.1 hd ht (fun q => kt ((lt32 hb ha).mp q) p e s m args below meth c H locs lsA C hP hS hL) (fun q => kf (fun z => q ((lt32 hb ha).mpr z)) p e s m args below meth c H locs lsA C hP hS hL)
theorem zV_cmQ_gt {a b : Int} {off : Int} (hd : decode μ.1 pc = .ok (.if_icmp .gt off, 3)) (ht : (pc : Int) + off = (tgt : Int)) (hn : pc + 3 = pc') (kt : zV G μ Q tgt ls st h) (kf : zV G μ Q pc' ls st h) : zV G μ Q pc ls (.inl b :: .inl a :: st) h := by
  subst hn
  intro p e s m args below meth c H locs lsA C hP hS hL
  exact lv_icmp_gt C.1 C.2.1 hd ht (fun _ => kt p e s m args below meth c H locs lsA C hP hS hL) (fun _ => kf p e s m args below meth c H locs lsA C hP hS hL)
theorem zV_cm_le {a b : Int} {off : Int} (hd : decode μ.1 pc = .ok (.if_icmp .le off, 3)) (ht : (pc : Int) + off = (tgt : Int)) (hn : pc + 3 = pc') (ha : rng a) (hb : rng b) (kt : a ≤ b → zV G μ Q tgt ls st h) (kf : ¬ a ≤ b → zV G μ Q pc' ls st h) : zV G μ Q pc ls (.inl b :: .inl a :: st) h := by
  subst hn
  intro p e s m args below meth c H locs lsA C hP hS hL
  exact lv_icmp_le C.1 C.2.1 hd ht (fun q => kt ((le32 ha hb).mp q) p e s m args below meth c H locs lsA C hP hS hL) (fun q => kf (fun z => q ((le32 ha hb).mpr z)) p e s m args below meth c H locs lsA C hP hS hL)
theorem zV_cmQ_le {a b : Int} {off : Int} (hd : decode μ.1 pc = .ok (.if_icmp .le off, 3)) (ht : (pc : Int) + off = (tgt : Int)) (hn : pc + 3 = pc') (kt : zV G μ Q tgt ls st h) (kf : zV G μ Q pc' ls st h) : zV G μ Q pc ls (.inl b :: .inl a :: st) h := by
  subst hn
  intro p e s m args below meth c H locs lsA C hP hS hL
  exact lv_icmp_le C.1 C.2.1 hd ht (fun _ => kt p e s m args below meth c H locs lsA C hP hS hL) (fun _ => kf p e s m args below meth c H locs lsA C hP hS hL)
theorem zV_lcmp {a b : Int} (hd : decode μ.1 pc = .ok (.lcmp, 1)) (hn : pc + 1 = pc') (kk : ∀ v : Int, rng v → zV G μ Q pc' ls (.inl v :: st) h) : zV G μ Q pc ls (.inr (.inl b) :: .inr (.inl a) :: st) h := by
  subst hn
  intro p e s m args below meth c H locs lsA C hP hS hL
  exact W.lcmp C.1 C.2.1 hd (zV_any32 C hP hS hL (kk _ (rg32 _)))
theorem vin32 {i : Int} {n : Nat} (hi : 0 ≤ i ∧ i < n) (hn : n < 2147483648) : vp_in (Int32.ofInt i) n := by
  rw [vp_in_iff, ti32 ⟨by omega, by omega⟩]
  exact hi
theorem tn32 {i : Int} (hi : 0 ≤ i ∧ i < 2147483648) : (Int32.ofInt i).toNatClampNeg = i.toNat := by
  have e : Int32.ofInt i = nI i.toNat := by
    show Int32.ofInt i = Int32.ofInt ((i.toNat : Nat) : Int)
    rw [Int.toNat_of_nonneg hi.1]
  rw [e, nI_clamp (by omega)]
theorem zV_iald {k n : Nat} {i : Int} (ht : tab[k]? = some (1, 0, [n])) (hi : 0 ≤ i ∧ i < n) (hd : decode μ.1 pc = .ok (.iaload, 1)) (hs : n < 2147483648) (hn : pc + 1 = pc') (kk : zV G μ Q pc' ls (.inl (h k i.toNat) :: st) h) : zV G μ Q pc ls (.inl i :: .inr (.inr k) :: st) h := by
  subst hn
  intro p e s m args below meth c H locs lsA C hP hS hL
  have e0 := zwl_get (G := G) (h := h) ht
  refine va_iald C.1 C.2.1 C.2.2.2.2.2.2.2.1 hP k 0 e0 rfl (vin32 hi hs) hd ?_
  rw [tn32 ⟨hi.1, by omega⟩]
  exact kk p e s m args below meth c H locs lsA C hP hS hL
theorem zV_bald {k n : Nat} {i : Int} (ht : tab[k]? = some (1, 2, [n])) (hi : 0 ≤ i ∧ i < n) (hd : decode μ.1 pc = .ok (.baload, 1)) (hs : n < 2147483648) (hn : pc + 1 = pc') (kk : zV G μ Q pc' ls (.inl (h k i.toNat) :: st) h) : zV G μ Q pc ls (.inl i :: .inr (.inr k) :: st) h := by
  subst hn
  intro p e s m args below meth c H locs lsA C hP hS hL
  have e0 := zwl_get (G := G) (h := h) ht
  refine va_bald C.1 C.2.1 C.2.2.2.2.2.2.2.1 hP k 2 e0 rfl (vin32 hi hs) hd ?_
  rw [tn32 ⟨hi.1, by omega⟩]
  exact kk p e s m args below meth c H locs lsA C hP hS hL
theorem zV_zald {k n : Nat} {i : Int} (ht : tab[k]? = some (1, 1, [n])) (hi : 0 ≤ i ∧ i < n) (hd : decode μ.1 pc = .ok (.baload, 1)) (hs : n < 2147483648) (hn : pc + 1 = pc') (kk : zV G μ Q pc' ls (.inl (h k i.toNat) :: st) h) : zV G μ Q pc ls (.inl i :: .inr (.inr k) :: st) h := by
  subst hn
  intro p e s m args below meth c H locs lsA C hP hS hL
  have e0 := zwl_get (G := G) (h := h) ht
  refine va_zald C.1 C.2.1 C.2.2.2.2.2.2.2.1 hP k 1 e0 rfl (vin32 hi hs) hd ?_
  rw [tn32 ⟨hi.1, by omega⟩]
  exact kk p e s m args below meth c H locs lsA C hP hS hL
theorem zV_lald {k n : Nat} {i : Int} (ht : tab[k]? = some (2, 3, [n])) (hi : 0 ≤ i ∧ i < n) (hd : decode μ.1 pc = .ok (.laload, 1)) (hs : n < 2147483648) (hn : pc + 1 = pc') (kk : zV G μ Q pc' ls (.inr (.inl (h k i.toNat)) :: st) h) : zV G μ Q pc ls (.inl i :: .inr (.inr k) :: st) h := by
  subst hn
  intro p e s m args below meth c H locs lsA C hP hS hL
  have e0 := zwl_get (G := G) (h := h) ht
  refine va_lald C.1 C.2.1 C.2.2.2.2.2.2.2.1 hP k 3 e0 rfl (vin32 hi hs) hd ?_
  rw [tn32 ⟨hi.1, by omega⟩]
  exact kk p e s m args below meth c H locs lsA C hP hS hL
theorem zV_iast {k n : Nat} {i v : Int} (ht : tab[k]? = some (1, 0, [n])) (hi : 0 ≤ i ∧ i < n) (hd : decode μ.1 pc = .ok (.iastore, 1)) (hs : n < 2147483648) (hn : pc + 1 = pc') (kk : zV G μ Q pc' ls st (zwr h k i.toNat v)) : zV G μ Q pc ls (.inl v :: .inl i :: .inr (.inr k) :: st) h := by
  subst hn
  intro p e s m args below meth c H locs lsA C hP hS hL
  have e0 := zwl_get (G := G) (h := h) ht
  have hD := zwl_D (G := G) (h := h) C.2.2.2.2.2.2.2.2.1
  refine va_iast C.1 C.2.1 C.2.2.2.2.2.2.2.1 hP hD hS k 0 e0 rfl (vin32 hi hs) hd (fun H1 locs1 hP1 _ hS1 => ?_)
  have ew := zwl_set (G := G) (h := h) (i := i.toNat) (v := v) ht
  refine kk p e s m args below meth c H1 locs1 lsA C ?_ hS1 hL
  show va_P _ _ (zwl G (zwr h k i.toNat v)) H1
  rw [← ew]
  rw [tn32 ⟨hi.1, by omega⟩] at hP1
  have ef : cellOf (zca G) (zad G) (1, 0, [n]) (fun j => if j = i.toNat then v else h k j) = .inl (zca G 0, n, .inl (upd (fun j => Int32.ofInt (h k j)) i.toNat (Int32.ofInt v))) := by
    simp only [cellOf]
    congr 4
    funext j
    simp only [upd, vp_updL]
    by_cases hj : j = i.toNat
    · simp [hj]
    · simp [hj]
  rw [ef]
  exact hP1
theorem nrb32 {v : Int} (hv : v = 0 ∨ v = 1) : vp_nar .boolean (Int32.ofInt v) = Int32.ofInt v := by
  rcases hv with rfl | rfl <;> decide
theorem nrB32 {v : Int} (hv : -128 ≤ v ∧ v ≤ 127) : vp_nar .byte (Int32.ofInt v) = Int32.ofInt v := by
  have key : ∀ n : Fin 256, vp_nar .byte (Int32.ofInt ((n : Nat) - 128 : Int)) = Int32.ofInt ((n : Nat) - 128 : Int) := by decide +kernel
  have := key ⟨(v + 128).toNat, by omega⟩
  have e : (((v + 128).toNat : Nat) : Int) - 128 = v := by omega
  change vp_nar .byte (Int32.ofInt ((((v + 128).toNat : Nat) : Int) - 128)) = Int32.ofInt ((((v + 128).toNat : Nat) : Int) - 128) at this
  rwa [e] at this
theorem zV_zast {k n : Nat} {i v : Int} (ht : tab[k]? = some (1, 1, [n])) (hi : 0 ≤ i ∧ i < n) (hv : v = 0 ∨ v = 1) (hd : decode μ.1 pc = .ok (.bastore, 1)) (hs : n < 2147483648) (hn : pc + 1 = pc') (kk : zV G μ Q pc' ls st (zwr h k i.toNat v)) : zV G μ Q pc ls (.inl v :: .inl i :: .inr (.inr k) :: st) h := by
  subst hn
  intro p e s m args below meth c H locs lsA C hP hS hL
  have e0 := zwl_get (G := G) (h := h) ht
  have hD := zwl_D (G := G) (h := h) C.2.2.2.2.2.2.2.2.1
  refine va_zast C.1 C.2.1 C.2.2.2.2.2.2.2.1 hP hD hS k 1 e0 rfl (vin32 hi hs) hd (fun H1 locs1 hP1 _ hS1 => ?_)
  have ew := zwl_set (G := G) (h := h) (i := i.toNat) (v := v) ht
  refine kk p e s m args below meth c H1 locs1 lsA C ?_ hS1 hL
  show va_P _ _ (zwl G (zwr h k i.toNat v)) H1
  rw [← ew]
  rw [tn32 ⟨hi.1, by omega⟩] at hP1
  have ef : cellOf (zca G) (zad G) (1, 1, [n]) (fun j => if j = i.toNat then v else h k j) = .inl (zca G 1, n, .inl (upd (fun j => Int32.ofInt (h k j)) i.toNat (vp_nar .boolean (Int32.ofInt v)))) := by
    simp only [cellOf]
    congr 4
    funext j
    simp only [upd, vp_updL]
    by_cases hj : j = i.toNat
    · simp [hj, nrb32 hv]
    · simp [hj]
  rw [ef]
  exact hP1
theorem zV_bast {k n : Nat} {i v : Int} (ht : tab[k]? = some (1, 2, [n])) (hi : 0 ≤ i ∧ i < n) (hv : -128 ≤ v ∧ v ≤ 127) (hd : decode μ.1 pc = .ok (.bastore, 1)) (hs : n < 2147483648) (hn : pc + 1 = pc') (kk : zV G μ Q pc' ls st (zwr h k i.toNat v)) : zV G μ Q pc ls (.inl v :: .inl i :: .inr (.inr k) :: st) h := by
  subst hn
  intro p e s m args below meth c H locs lsA C hP hS hL
  have e0 := zwl_get (G := G) (h := h) ht
  have hD := zwl_D (G := G) (h := h) C.2.2.2.2.2.2.2.2.1
  refine va_bast C.1 C.2.1 C.2.2.2.2.2.2.2.1 hP hD hS k 2 e0 rfl (vin32 hi hs) hd (fun H1 locs1 hP1 _ hS1 => ?_)
  have ew := zwl_set (G := G) (h := h) (i := i.toNat) (v := v) ht
  refine kk p e s m args below meth c H1 locs1 lsA C ?_ hS1 hL
  show va_P _ _ (zwl G (zwr h k i.toNat v)) H1
  rw [← ew]
  rw [tn32 ⟨hi.1, by omega⟩] at hP1
  have ef : cellOf (zca G) (zad G) (1, 2, [n]) (fun j => if j = i.toNat then v else h k j) = .inl (zca G 2, n, .inl (upd (fun j => Int32.ofInt (h k j)) i.toNat (vp_nar .byte (Int32.ofInt v)))) := by
    simp only [cellOf]
    congr 4
    funext j
    simp only [upd, vp_updL]
    by_cases hj : j = i.toNat
    · simp [hj, nrB32 hv]
    · simp [hj]
  rw [ef]
  exact hP1
theorem zV_last {k n : Nat} {i v : Int} (ht : tab[k]? = some (2, 3, [n])) (hi : 0 ≤ i ∧ i < n) (hd : decode μ.1 pc = .ok (.lastore, 1)) (hs : n < 2147483648) (hn : pc + 1 = pc') (kk : zV G μ Q pc' ls st (zwr h k i.toNat v)) : zV G μ Q pc ls (.inr (.inl v) :: .inl i :: .inr (.inr k) :: st) h := by
  subst hn
  intro p e s m args below meth c H locs lsA C hP hS hL
  have e0 := zwl_get (G := G) (h := h) ht
  have hD := zwl_D (G := G) (h := h) C.2.2.2.2.2.2.2.2.1
  refine va_last C.1 C.2.1 C.2.2.2.2.2.2.2.1 hP hD hS k 3 e0 rfl (vin32 hi hs) hd (fun H1 locs1 hP1 _ hS1 => ?_)
  have ew := zwl_set (G := G) (h := h) (i := i.toNat) (v := v) ht
  refine kk p e s m args below meth c H1 locs1 lsA C ?_ hS1 hL
  show va_P _ _ (zwl G (zwr h k i.toNat v)) H1
  rw [← ew]
  rw [tn32 ⟨hi.1, by omega⟩] at hP1
  have ef : cellOf (zca G) (zad G) (2, 3, [n]) (fun j => if j = i.toNat then v else h k j) = .inl (zca G 3, n, .inr (.inl (vp_updL (fun j => Int64.ofInt (h k j)) i.toNat (Int64.ofInt v)))) := by
    simp only [cellOf]
    congr 5
    funext j
    simp only [upd, vp_updL]
    by_cases hj : j = i.toNat
    · simp [hj]
    · simp [hj]
  rw [ef]
  exact hP1
theorem zV_alen {k n t : Nat} (ht : tab[k]? = some (1, t, [n])) (h6 : t < 3) (hd : decode μ.1 pc = .ok (.arraylength, 1)) (hn : pc + 1 = pc') (kk : zV G μ Q pc' ls (.inl (n : Int) :: st) h) : zV G μ Q pc ls (.inr (.inr k) :: st) h := by
  subst hn
  intro p e s m args below meth c H locs lsA C hP hS hL
  have e0 := zwl_get (G := G) (h := h) ht
  have ht2 : ∃ ty, (ztys G)[t]? = some (zca G t, ty) := by
    match t, h6 with
    | 0, _ => exact ⟨_, rfl⟩
    | 1, _ => exact ⟨_, rfl⟩
    | 2, _ => exact ⟨_, rfl⟩
  obtain ⟨ty, ht2⟩ := ht2
  exact va_alen C.1 C.2.1 C.2.2.2.2.2.2.2.1 hP k t e0 ht2 rfl hd (kk p e s m args below meth c H locs lsA C hP hS hL)
theorem zV_alenL {k n : Nat} (ht : tab[k]? = some (2, 3, [n])) (hd : decode μ.1 pc = .ok (.arraylength, 1)) (hn : pc + 1 = pc') (kk : zV G μ Q pc' ls (.inl (n : Int) :: st) h) : zV G μ Q pc ls (.inr (.inr k) :: st) h := by
  subst hn
  intro p e s m args below meth c H locs lsA C hP hS hL
  have e0 := zwl_get (G := G) (h := h) ht
  exact va_alen C.1 C.2.1 C.2.2.2.2.2.2.2.1 hP k 3 e0 (show (ztys G)[3]? = some (zca G 3, .long) from rfl) rfl hd (kk p e s m args below meth c H locs lsA C hP hS hL)
/-- a field's link: what the tables say -/
def zFL (own : String) (idx ci i : Nat) : Prop := ∃ (C : String) (T : u_T) (N : Nat) (ty : Nat → FieldType), vwCl[ci]? = some (C, T, N) ∧ i < N ∧ (∀ w ∈ u_ws C T N, w ∈ gT) ∧ (∀ k, k < N → parseFieldDescriptor (T k).2.2.1 = some (ty k)) ∧ (∀ a, a < N → ∀ b, b < N → a ≠ b → (T a).2.1 ≠ (T b).2.1) ∧ Cond.fieldLink own idx (T i).1 (T i).2.1 (T i).2.2.1 ∈ gT
def zFP (own : String) (idx ci i : Nat) (t : FieldType) : Prop := ∃ (C : String) (T : u_T) (N : Nat) (ty : Nat → FieldType), vwCl[ci]? = some (C, T, N) ∧ i < N ∧ (∀ w ∈ u_ws C T N, w ∈ gT) ∧ (∀ k, k < N → parseFieldDescriptor (T k).2.2.1 = some (ty k)) ∧ (∀ a, a < N → ∀ b, b < N → a ≠ b → (T a).2.1 ≠ (T b).2.1) ∧ Cond.fieldLink own idx (T i).1 (T i).2.1 (T i).2.2.1 ∈ gT ∧ (T i).2.2.2 = false ∧ parseFieldDescriptor (T i).2.2.1 = some t
def zsf (h : Hp) (k i : Nat) : Nat → Sv
  | 0 => .inl (h k i)
  | 1 => .inr (.inl (h k i))
  | (c + 2) => .inr (.inr c)
theorem zsf_dn (ad : Nat → Nat) (h : Hp) (k i c : Nat) : dn ad (zsf h k i c) = fv ad (h k) i c := by
  match c with
  | 0 => rfl
  | 1 => rfl
  | c + 2 => rfl
theorem zV_getf {k i ci c idx : Nat} {cs : List Nat} (hf : zFL μ.2.2.2.1 idx ci i) (ht : tab[k]? = some (0, ci, cs)) (hc : cs[i]? = some c) (hd : decode μ.1 pc = .ok (.getfield idx, 3)) (hn : pc + 3 = pc') (kk : zV G μ Q pc' ls (zsf h k i c :: st) h) : zV G μ Q pc ls (.inr (.inr k) :: st) h := by
  subst hn
  intro p e s m args below meth c0 H locs lsA C hP hS hL
  obtain ⟨C1, T, N, ty, h1, h2, h3, h4, h5, h6⟩ := hf
  have e0 := zwl_get (G := G) (h := h) ht
  have e1 := fld_get (zad G) (h k) cs 0 i c hc
  rw [Nat.zero_add] at e1
  refine va_get C.1 C.2.1 C.2.2.2.2.2.2.1 h3 C.2.2.2.2.2.1 C.2.2.2.2.2.2.2.1 hP k e0 h1 i h2 (C.2.2.2.2.2.2.1 _ h6) (fun _ z => z) e1 hd ?_
  rw [← zsf_dn]
  exact kk p e s m args below meth c0 H locs lsA C hP hS hL
theorem zV_putf {k i ci c idx : Nat} {cs : List Nat} {t : FieldType} {v : Int} {sv : Sv} (hf : zFP μ.2.2.2.1 idx ci i t) (ht : tab[k]? = some (0, ci, cs)) (hc : cs[i]? = some c) (hc2 : c < 2) (hsv : dn (zad G) sv = fv (zad G) (fun _ => v) i c) (hna : narrow t (fv (zad G) (fun _ => v) i c) = fv (zad G) (fun _ => v) i c) (hfi : fits t (fv (zad G) (fun _ => v) i c) = true) (hd : decode μ.1 pc = .ok (.putfield idx, 3)) (hn : pc + 3 = pc') (kk : zV G μ Q pc' ls st (zwr h k i v)) : zV G μ Q pc ls (sv :: .inr (.inr k) :: st) h := by
  subst hn
  intro p e s m args below meth c0 H locs lsA C hP hS hL
  obtain ⟨C1, T, N, ty, h1, h2, h3, h4, h5, h6, h7, h8⟩ := hf
  have e0 := zwl_get (G := G) (h := h) ht
  have hD := zwl_D (G := G) (h := h) C.2.2.2.2.2.2.2.2.1
  show W _ _ _ _ _ _ _ _ _ _ _ _ _ _ _ (F0 m pc lsA (dn (zad G) sv :: .ref (zad G k) :: st.map (dn (zad G))))
  rw [hsv]
  refine va_put C.1 C.2.1 C.2.2.2.2.2.2.1 h3 ty h4 h5 C.2.2.2.2.2.1 C.2.2.2.2.2.2.2.1 hP hD hS k e0 h1 i h2 (C.2.2.2.2.2.2.1 _ h6) (fun _ z => z) h7 h8 hna hfi ?_ hd (fun H1 locs1 hP1 _ hS1 => ?_)
  · rw [fld_len]
    exact (List.getElem?_eq_some_iff.mp hc).1
  · have ew := zwl_set (G := G) (h := h) (i := i) (v := v) ht
    refine kk p e s m args below meth c0 H1 locs1 lsA C ?_ hS1 hL
    show va_P _ _ (zwl G (zwr h k i v)) H1
    rw [← ew]
    have es := fld_set (zad G) (h k) v cs 0 i c hc hc2
    rw [Nat.zero_add] at es
    rw [es] at hP1
    exact hP1
theorem zV_puti {k i ci idx : Nat} {cs : List Nat} {v : Int} (hf : zFP μ.2.2.2.1 idx ci i .int) (ht : tab[k]? = some (0, ci, cs)) (hc : cs[i]? = some 0) (hd : decode μ.1 pc = .ok (.putfield idx, 3)) (hn : pc + 3 = pc') (kk : zV G μ Q pc' ls st (zwr h k i v)) : zV G μ Q pc ls (.inl v :: .inr (.inr k) :: st) h :=
  zV_putf hf ht hc (by decide) rfl rfl rfl hd hn kk
theorem zV_putz {k i ci idx : Nat} {cs : List Nat} {v : Int} (hf : zFP μ.2.2.2.1 idx ci i .boolean) (hv : v = 0 ∨ v = 1) (ht : tab[k]? = some (0, ci, cs)) (hc : cs[i]? = some 0) (hd : decode μ.1 pc = .ok (.putfield idx, 3)) (hn : pc + 3 = pc') (kk : zV G μ Q pc' ls st (zwr h k i v)) : zV G μ Q pc ls (.inl v :: .inr (.inr k) :: st) h :=
  zV_putf hf ht hc (by decide) rfl (by rcases hv with rfl | rfl; exact (show narrow .boolean (.int (Int32.ofInt 0)) = .int (Int32.ofInt 0) from rfl); exact (show narrow .boolean (.int (Int32.ofInt 1)) = .int (Int32.ofInt 1) from rfl)) (by rcases hv with rfl | rfl; exact (show fits .boolean (.int (Int32.ofInt 0)) = true from rfl); exact (show fits .boolean (.int (Int32.ofInt 1)) = true from rfl)) hd hn kk
theorem zV_putl {k i ci idx : Nat} {cs : List Nat} {v : Int} (hf : zFP μ.2.2.2.1 idx ci i .long) (ht : tab[k]? = some (0, ci, cs)) (hc : cs[i]? = some 1) (hd : decode μ.1 pc = .ok (.putfield idx, 3)) (hn : pc + 3 = pc') (kk : zV G μ Q pc' ls st (zwr h k i v)) : zV G μ Q pc ls (.inr (.inl v) :: .inr (.inr k) :: st) h :=
  zV_putf hf ht hc (by decide) rfl rfl rfl hd hn kk
theorem zV_ldc {n : Int} {idx : Nat} {x : Int32} (hw : Cond.constant μ.2.2.2.1 idx x ∈ gT) (hx : Int32.ofInt n = x) (hd : decode μ.1 pc = .ok (.ldc idx, 2)) (hn : pc + 2 = pc') (kk : zV G μ Q pc' ls (.inl n :: st) h) : zV G μ Q pc ls st h := by
  subst hn
  subst hx
  intro p e s m args below meth c H locs lsA C hP hS hL
  exact lv_ldc C.1 C.2.1 C.2.2.2.2.2.1 (C.2.2.2.2.2.2.1 _ hw) hd (kk p e s m args below meth c H locs lsA C hP hS hL)
theorem zV_ldc2 {n : Int} {idx : Nat} {x : Int64} (hw : Cond.constantLong μ.2.2.2.1 idx x ∈ gT) (hx : Int64.ofInt n = x) (hd : decode μ.1 pc = .ok (.ldc2_w idx, 3)) (hn : pc + 3 = pc') (kk : zV G μ Q pc' ls (.inr (.inl n) :: st) h) : zV G μ Q pc ls st h := by
  subst hn
  subst hx
  intro p e s m args below meth c H locs lsA C hP hS hL
  exact lv_ldc2 C.1 C.2.1 C.2.2.2.2.2.1 (C.2.2.2.2.2.2.1 _ hw) hd (kk p e s m args below meth c H locs lsA C hP hS hL)
/-- answers -/
theorem zV_iret {a : Int} (hr : μ.2.2.1 = some .int) (hd : decode μ.1 pc = .ok (.ireturn, 1)) (hq : Q a h) : zV G μ Q pc ls [.inl a] h := by
  intro p e s m args below meth c H locs lsA C hP hS hL
  exact W.iret (v := Int32.ofInt a) C.1 C.2.1 (C.2.2.2.1.trans hr) (fun t ht hW => ⟨⟨a, h, by rw [hr]; rfl, hq, by rw [ht]; exact hP⟩, hS.F ht⟩) hS.2.2 hd C.2.2.2.2.1
theorem zV_zret {a : Int} (hr : μ.2.2.1 = some .boolean) (ha : a = 0 ∨ a = 1) (hd : decode μ.1 pc = .ok (.ireturn, 1)) (hq : Q a h) : zV G μ Q pc ls [.inl a] h := by
  intro p e s m args below meth c H locs lsA C hP hS hL
  exact W.zret (v := Int32.ofInt a) (ty := .boolean) C.1 C.2.1 (C.2.2.2.1.trans hr) (by rcases ha with rfl | rfl <;> rfl) (fun t ht hW => ⟨⟨a, h, by rw [hr]; rfl, hq, by rw [ht]; exact hP⟩, hS.F ht⟩) hS.2.2 hd C.2.2.2.2.1
theorem zV_lret {a : Int} (hr : μ.2.2.1 = some .long) (hd : decode μ.1 pc = .ok (.lreturn, 1)) (hq : Q a h) : zV G μ Q pc ls [.inr (.inl a)] h := by
  intro p e s m args below meth c H locs lsA C hP hS hL
  exact W.lret (v := Int64.ofInt a) C.1 C.2.1 (C.2.2.2.1.trans hr) (fun t ht hW => ⟨⟨a, h, by rw [hr]; rfl, hq, by rw [ht]; exact hP⟩, hS.F ht⟩) hS.2.2 hd C.2.2.2.2.1
theorem zV_vret (hr : μ.2.2.1 = none) (hd : decode μ.1 pc = .ok (.return_, 1)) (hq : Q 0 h) : zV G μ Q pc ls [] h := by
  intro p e s m args below meth c H locs lsA C hP hS hL
  exact W.vret C.1 C.2.1 (C.2.2.2.1.trans hr) (fun t ht hW => ⟨⟨0, h, by rw [hr]; rfl, hq, by rw [ht]; exact hP⟩, hS.F ht⟩) hS.2.2 hd C.2.2.2.2.1
theorem zV_aret {k : Nat} {nm : String} (hr : μ.2.2.1 = some (.object nm)) (hd : decode μ.1 pc = .ok (.areturn, 1)) (hq : Q (k : Int) h) : zV G μ Q pc ls [.inr (.inr k)] h := by
  intro p e s m args below meth c H locs lsA C hP hS hL
  exact W.aret (v := .ref (zad G k)) C.1 C.2.1 (C.2.2.2.1.trans hr) (Or.inl ⟨nm, rfl⟩) (Or.inr ⟨_, rfl⟩) (fun t ht hW => ⟨⟨(k : Int), h, by rw [hr]; rfl, hq, by rw [ht]; exact hP⟩, hS.F ht⟩) hS.2.2 hd C.2.2.2.2.1
end Branch
