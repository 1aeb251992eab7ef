/-! the class: copies of rows, its library calls -/
set_option maxRecDepth 20000 in
theorem km_X11_407 : Cond.methodLink RX11 407 Lib.Math.min.name ∈ gT := gS3 220 rfl rfl
set_option maxRecDepth 20000 in
theorem km_X11_412 : Cond.methodLink RX11 412 Lib.Math.max.name ∈ gT := gS3 221 rfl rfl
set_option maxRecDepth 20000 in
theorem km_X1_58 : Cond.methodLink RX1 58 Lib.Math.min.name ∈ gT := gS3 201 rfl rfl
set_option maxRecDepth 20000 in
theorem km_X1_64 : Cond.methodLink RX1 64 Lib.Math.max.name ∈ gT := gS3 202 rfl rfl
set_option maxRecDepth 20000 in
theorem km_X2_42 : Cond.methodLink RX2 42 Lib.Math.max.name ∈ gT := gS3 237 rfl rfl
set_option maxRecDepth 20000 in
theorem km_X2_47 : Cond.methodLink RX2 47 Lib.Math.min.name ∈ gT := gS3 238 rfl rfl
set_option maxRecDepth 20000 in
theorem km_X2_56 : Cond.methodLink RX2 56 Lib.Math.abs.name ∈ gT := gS3 239 rfl rfl
set_option maxRecDepth 20000 in
theorem km_X3_86 : Cond.methodLink RX3 86 Lib.Math.min.name ∈ gT := gS4 68 rfl rfl
set_option maxRecDepth 20000 in
theorem km_X3_91 : Cond.methodLink RX3 91 Lib.Math.max.name ∈ gT := gS4 69 rfl rfl
set_option maxRecDepth 20000 in
theorem km_X3_148 : Cond.methodLink RX3 148 Lib.Math.abs.name ∈ gT := gS4 147 rfl rfl
set_option maxRecDepth 20000 in
theorem km_X4_52 : Cond.methodLink RX4 52 Lib.Math.min.name ∈ gT := gS5 36 rfl rfl
set_option maxRecDepth 20000 in
theorem km_X4_57 : Cond.methodLink RX4 57 Lib.Math.max.name ∈ gT := gS5 41 rfl rfl
set_option maxRecDepth 20000 in
theorem km_X4_79 : Cond.methodLink RX4 79 Lib.Math.abs.name ∈ gT := gS5 77 rfl rfl
set_option maxRecDepth 20000 in
theorem km_X4_127 : Cond.methodLink RX4 127 Lib.MathLoose.max_long.x ∈ gT := gS5 129 rfl rfl
set_option maxRecDepth 20000 in
theorem km_J1_38 : Cond.methodLink RJ1 38 Lib.Math.min.name ∈ gT := gS2 207 rfl rfl
set_option maxRecDepth 20000 in
theorem km_J1_92 : Cond.methodLink RJ1 92 Lib.Math.max.name ∈ gT := gS2 204 rfl rfl
set_option maxRecDepth 20000 in
theorem km_ini : Cond.initialized "java/lang/Math" ∈ gT := gS1 16 rfl rfl
set_option maxRecDepth 20000 in
theorem km_s_max : Cond.static Lib.Math.max.name ∈ gT := gS2 205 rfl rfl
set_option maxRecDepth 20000 in
theorem km_c_max : Cond.code Lib.Math.max.name Lib.Math.max.code 2 (some .int) ∈ gT := gS2 206 rfl rfl
set_option maxRecDepth 20000 in
theorem km_s_min : Cond.static Lib.Math.min.name ∈ gT := gS2 208 rfl rfl
set_option maxRecDepth 20000 in
theorem km_c_min : Cond.code Lib.Math.min.name Lib.Math.min.code 2 (some .int) ∈ gT := gS2 209 rfl rfl
set_option maxRecDepth 20000 in
theorem km_s_abs : Cond.static Lib.Math.abs.name ∈ gT := gS4 0 rfl rfl
set_option maxRecDepth 20000 in
theorem km_c_abs : Cond.code Lib.Math.abs.name Lib.Math.abs.code 1 (some .int) ∈ gT := gS4 1 rfl rfl
set_option maxRecDepth 20000 in
theorem km_s_max_long : Cond.static Lib.MathLoose.max_long.x ∈ gT := gS5 130 rfl rfl
set_option maxRecDepth 20000 in
theorem km_c_max_long : Cond.code Lib.MathLoose.max_long.x Lib.MathLoose.max_long.code 4 (some .long) ∈ gT := gS5 131 rfl rfl
set_option maxRecDepth 20000 in
theorem ka_X0_61 : Cond.methodLink RX0 61 arraycopyName ∈ gT := gS4 200 rfl rfl
set_option maxRecDepth 20000 in
theorem ka_X3_32 : Cond.methodLink RX3 32 arraycopyName ∈ gT := gS4 39 rfl rfl
set_option maxRecDepth 20000 in
theorem ka_X5_37 : Cond.methodLink RX5 37 arraycopyName ∈ gT := gS5 192 rfl rfl
set_option maxRecDepth 20000 in
theorem ka_X7_28 : Cond.methodLink RX7 28 arraycopyName ∈ gT := gS3 70 rfl rfl
set_option maxRecDepth 20000 in
theorem ka_nat : Cond.native arraycopyName ∈ gT := gS3 72 rfl rfl
set_option maxRecDepth 20000 in
theorem ka_stat : Cond.static arraycopyName ∈ gT := gS3 71 rfl rfl
set_option maxRecDepth 20000 in
theorem ka_ini : Cond.initialized "java/lang/System" ∈ gT := gS1 20 rfl rfl
def zcp (h : Hp) (a c d n : Nat) : Hp := fun k i => if k = c then (if d ≤ i ∧ i < d + n then h a (i - d) else h c i) else h k i
theorem zcp_ne {h : Hp} {a c d n k i : Nat} (e : k ≠ c) : zcp h a c d n k i = h k i := by
  unfold zcp
  rw [if_neg e]
theorem zcp_in {h : Hp} {a c d n i : Nat} (e : d ≤ i ∧ i < d + n) : zcp h a c d n c i = h a (i - d) := by
  unfold zcp
  rw [if_pos rfl, if_pos e]
theorem zcp_out {h : Hp} {a c d n i : Nat} (e : ¬ (d ≤ i ∧ i < d + n)) : zcp h a c d n c i = h c i := by
  unfold zcp
  rw [if_pos rfl, if_neg e]
theorem WFzcp {h : Hp} {a c d n : Nat} (hW : WF h) (ha : a ≠ 95 ∧ a ≠ 97) : WF (zcp h a c d n) := by
  intro k i h1 h2
  unfold zcp
  by_cases e : k = c
  · rw [if_pos e]
    by_cases e2 : d ≤ i ∧ i < d + n
    · rw [if_pos e2]
      exact hW _ _ ha.1 ha.2
    · rw [if_neg e2]
      subst e
      exact hW _ _ h1 h2
  · rw [if_neg e]
    exact hW _ _ h1 h2
theorem Fr.zc {b : Bd} {κ h : Hp} {a c d n : Nat} (hF : Fr b κ h) (hs : scr b c = true) (ha : a ≠ 95 ∧ a ≠ 97) : Fr b κ (zcp h a c d n) := by
  have hne : ∀ j, j = 0 ∨ j = 54 ∨ j = 95 ∨ j = 98 → j ≠ c := by
    intro j hj q
    subst q
    unfold scr at hs
    simp only [Bool.or_eq_true, Bool.and_eq_true, beq_iff_eq, Nat.ble_eq] at hs
    omega
  refine ⟨fun k' i' hk => ?_, ⟨fun hb i' => ?_, b.st _ _ (fun k'' i'' hd => zcp_ne (scr_dp hs hd)) hF.2.1.2⟩, ?_⟩
  · rw [zcp_ne (scr_key (i := 0) hs hk)]
    exact hF.1 k' i' hk
  · rw [zcp_ne (fun q => by
      subst q
      rw [show scr b 23 = false by unfold scr; rw [hb]; rfl] at hs
      cases hs)]
    exact hF.2.1.1 hb i'
  · unfold SI
    rw [zcp_ne (hne 0 (by omega)), zcp_ne (hne 54 (by omega)), zcp_ne (hne 95 (by omega)), zcp_ne (hne 98 (by omega))]
    exact ⟨hF.2.2.1, hF.2.2.2.1, hF.2.2.2.2.1, hF.2.2.2.2.2.1, WFzcp hF.2.2.2.2.2.2 ha⟩
theorem Fr.zcL {b : Bd} {κ h : Hp} {a c d n : Nat} (hF : Fr b κ h) (hc : 71 ≤ c ∧ c ≤ 85) (hto : OkL b c) (ha : a ≠ 95 ∧ a ≠ 97) : Fr b κ (zcp h a c d n) := by
  have hne : ∀ j, j = 0 ∨ j = 54 ∨ j = 95 ∨ j = 98 → j ≠ c := by
    intro j hj q
    omega
  refine ⟨fun k' i' hk => ?_, ⟨fun hb i' => ?_, hto _ _ (fun k'' i'' hn => zcp_ne hn) hF.2.1.2⟩, ?_⟩
  · rw [zcp_ne (fun q => by subst q; unfold key at hk; simp only [Bool.or_eq_true, Bool.and_eq_true, beq_iff_eq, Nat.ble_eq] at hk; omega)]
    exact hF.1 k' i' hk
  · rw [zcp_ne (by omega)]
    exact hF.2.1.1 hb i'
  · unfold SI
    rw [zcp_ne (hne 0 (by omega)), zcp_ne (hne 54 (by omega)), zcp_ne (hne 95 (by omega)), zcp_ne (hne 98 (by omega))]
    exact ⟨hF.2.2.1, hF.2.2.2.1, hF.2.2.2.2.1, hF.2.2.2.2.2.1, WFzcp hF.2.2.2.2.2.2 ha⟩
theorem zV_acopy {G : Ga} {μ : Mt} {Q : Int → Hp → Prop} {pc pc' idx : Nat} {ls : Lo} {st : List Sv} {h : Hp} {a c n0 n1 : Nat} {dp n : Int} (ha : tab[a]? = some (1, 0, [n0])) (hc : tab[c]? = some (1, 0, [n1])) (hdp : 0 ≤ dp) (hn : 0 ≤ n) (h4 : n ≤ n0) (h5 : dp + n ≤ n1) (hs0 : n0 < 2147483648) (hs : n1 < 2147483648) (lk : Cond.methodLink μ.2.2.2.1 idx arraycopyName ∈ gT) (hfr : 1 ≤ μ.2.2.2.2.frames) (hlo : stW st + 18 ≤ μ.2.2.2.2.locals) (hd : decode μ.1 pc = .ok (.invokestatic idx, 3)) (hp : pc + 3 = pc')
    (kk : zV G μ Q pc' ls st (zcp h a c dp.toNat n.toNat)) : zV G μ Q pc ls (.inl n :: .inl dp :: .inr (.inr c) :: .inl 0 :: .inr (.inr a) :: st) h := by
  subst hp
  intro p e s m args below meth c0 H locs lsA C hP hS hL
  have ok : ∀ w ∈ gT, w.before args s = true := C.2.2.2.2.2.2.1
  have e0 := zwl_get (G := G) (h := h) ha
  have e1 := zwl_get (G := G) (h := h) hc
  have hD := zwl_D (G := G) (h := h) C.2.2.2.2.2.2.2.2.1
  have z0 : (Int32.ofInt 0).toNatClampNeg = 0 := by decide
  have zd : (Int32.ofInt dp).toNatClampNeg = dp.toNat := tn32 ⟨hdp, by omega⟩
  have zn : (Int32.ofInt n).toNatClampNeg = n.toNat := tn32 ⟨hn, by omega⟩
  have nneg : ∀ x : Int, 0 ≤ x → x ≤ 2147483647 → ¬ Int32.ofInt x < 0 := fun x h1 h2 q => by
    have := (lt32 (a := x) (b := 0) ⟨by omega, h2⟩ zr0).mp q
    omega
  refine va_copyi C.1 C.2.1 (C.2.2.1.trans hL.size.symm) C.2.2.2.2.2.1 (ok _ lk) (ok _ ka_nat) (ok _ ka_stat) (ok _ ka_ini) C.2.2.2.2.2.2.2.1 hP hD hS a c 0 0 e0 e1 rfl rfl rfl (by decide) (nneg dp hdp (by omega)) (nneg n hn (by omega)) (by rw [z0, zn]; show 0 + n.toNat ≤ n0; omega) (by rw [zd, zn]; show dp.toNat + n.toNat ≤ n1; omega) (fun _ _ => rfl) hfr (by rw [stW_dn]; exact hlo) hd (fun H1 locs1 hP1 _ hS1 => ?_)
  refine kk p e s m args below meth c0 H1 locs1 lsA C ?_ hS1 hL
  show va_P _ _ (zwl G (zcp h a c dp.toNat n.toNat)) H1
  have ew := wlF_set (zca G) (zad G) h (fun j => if dp.toNat ≤ j ∧ j < dp.toNat + n.toNat then h a (j - dp.toNat) else h c j) tab 0 c (1, 0, [n1]) hc
  rw [Nat.zero_add] at ew
  have e2 : zwl G (zcp h a c dp.toNat n.toNat) = (zwl G h).set c (zad G c, cellOf (zca G) (zad G) (1, 0, [n1]) (fun j => if dp.toNat ≤ j ∧ j < dp.toNat + n.toNat then h a (j - dp.toNat) else h c j)) := by
    unfold zwl
    rw [ew]
    congr 1
    funext k i
    unfold zcp
    by_cases q : k = c
    · rw [if_pos q, if_pos q]
    · rw [if_neg q, if_neg q]
  rw [e2]
  have ef : cellOf (zca G) (zad G) (1, 0, [n1]) (fun j => if dp.toNat ≤ j ∧ j < dp.toNat + n.toNat then h a (j - dp.toNat) else h c j) = .inl (zca G 0, n1, .inl (va_cpy (fun j => Int32.ofInt (h a j)) (fun j => Int32.ofInt (h c j)) (Int32.ofInt 0).toNatClampNeg (Int32.ofInt dp).toNatClampNeg (Int32.ofInt n).toNatClampNeg)) := by
    rw [z0, zd, zn]
    simp only [cellOf]
    congr 4
    funext j
    unfold va_cpy
    split <;> simp
  rw [ef]
  exact hP1
section More2
variable {G : Ga} {μ μ' : Mt} {Q Q' : Int → Hp → Prop} {pc pc' idx : Nat} {ls : Lo} {st : List Sv} {κ h : Hp} {b : Bd}
theorem zV_iincW {k : Nat} {n a : Int} (hd : decode μ.1 pc = .ok (.iinc k n, 6)) (hl : ls[k]? = some (some (.inl a))) (hn : k < μ.2.1) (kk : zV G μ Q (pc + 6) (stl ls k (.inl (a + n))) st h) : zV G μ Q pc ls st h := by
  intro p e s m args below meth c H locs lsA C hP hS hL
  obtain ⟨l, h1, h2⟩ := hL.set1 (i := k) (v := .inl (a + n)) hn rfl
  have hg := hL.at hl
  have ha : Int32.ofInt a + Int32.ofInt n = Int32.ofInt (a + n) := (Int32.ofInt_add a n).symm
  obtain ⟨lsB, e', h'⟩ := lv_store1 (v := .int (Int32.ofInt a + Int32.ofInt n)) h1 hn rfl
  intro T hT X
  obtain ⟨t, z1, z2⟩ := kk p e s m args below meth c H locs lsB C hP hS (h2 lsB (by rw [ha] at h'; exact h')) T hT X
  refine ⟨t, ?_, z2⟩
  have hx := C.1
  have hb := C.2.1
  have hg : lsA[k]? = some (.val (.int (Int32.ofInt a))) := hg
  jvm_step X.here [X.here.top, ↓top_set X.here.top, hx, hb, hd, hg, e']
  exact z1
theorem zW_iincW {k : Nat} {n a : Int} {ls' : Lo} (hd : decode μ.1 pc = .ok (.iinc k n, 6)) (hl : ls[k]? = some (some (.inl a))) (hk : k < μ.2.1) (hnl : nl ls k = true) (hls : st0 ls k (.inl (a + n)) = ls') (hn : pc + 6 = pc') (kk : zV G μ Q pc' ls' st h) : zV G μ Q pc ls st h := by
  subst hn; subst hls
  exact zV_iincW hd hl hk (by rw [stl_st0 _ _ _ hnl]; exact kk)
theorem zV_anyM {a : Int} (kk : ∀ v k : Int, rng v → v = a + 4294967296 * k → zV G μ Q pc ls (.inl v :: st) h) : zV G μ Q pc ls (.inl a :: st) h := by
  intro p e s m args below meth c H locs lsA C hP hS hL
  have e1 : (Int32.ofInt a).toInt = a.bmod 4294967296 := Int32.toInt_ofInt
  have e2 : ∃ k : Int, (Int32.ofInt a).toInt = a + 4294967296 * k := by
    rw [e1]
    have := Int.bmod_def a 4294967296
    by_cases q : a % ((4294967296 : Nat) : Int) < (((4294967296 : Nat) : Int) + 1) / 2
    · rw [if_pos q] at this
      exact ⟨-(a / 4294967296), by omega⟩
    · rw [if_neg q] at this
      exact ⟨-(a / 4294967296) - 1, by omega⟩
  obtain ⟨k, hk⟩ := e2
  have := kk (Int32.ofInt a).toInt k (rg32 _) hk p e s m args below meth c H locs lsA C hP hS hL
  have e0 : dn (zad G) (.inl (Int32.ofInt a).toInt) = dn (zad G) (.inl a) := by simp only [dn]; rw [Int32.ofInt_toInt]
  rw [List.map_cons, e0] at this
  exact this
theorem zW_tsw2 {a : Int} {dflt lo hi : Int} {offs : Array Int} {len : Nat} (D : Int → Nat → Prop) (tg : Int → Nat) (hd : decode μ.1 pc = .ok (.tableswitch dflt lo hi offs, len)) (ha : rng a) (hin : ∀ (off : Int) (i : Nat), offs[i]? = some off → (pc : Int) + off = (tg (lo + i) : Int)) (hz : ((offs.size : Nat) : Int) = hi - lo + 1) (hD : ∀ i : Fin offs.size, D (lo + ((i : Nat) : Int)) (tg (lo + ((i : Nat) : Int)))) {td : Nat} (htd : (pc : Int) + dflt = (td : Int))
    (kd : a < lo ∨ hi < a → zV G μ Q td ls st h) (ki : ∀ t : Nat, D a t → zV G μ Q t ls st h) : zV G μ Q pc ls (.inl a :: st) h := by
  refine zW_tsw hd tg ha hin hz htd kd (fun h1 h2 => ki _ ?_)
  have := hD ⟨(a - lo).toNat, by omega⟩
  rw [show lo + (((a - lo).toNat : Nat) : Int) = a by omega] at this
  exact this
theorem tdv {a d : Int} (hb : 0 < d) : (0 ≤ a ∧ a.tdiv d = a / d) ∨ (a < 0 ∧ a.tdiv d = -((-a) / d)) := by
  by_cases hx : 0 ≤ a
  · exact Or.inl ⟨hx, Int.tdiv_eq_ediv_of_nonneg hx⟩
  · refine Or.inr ⟨by omega, ?_⟩
    rw [← Int.tdiv_eq_ediv_of_nonneg (by omega : 0 ≤ -a), Int.neg_tdiv, Int.neg_neg]
theorem tdv32 {a d : Int} (ha : rng a) (hb : 1 < d ∧ d ≤ 2147483647) : (Int32.ofInt a / Int32.ofInt d).toInt = a.tdiv d := by
  have rb : rng d := ⟨by omega, hb.2⟩
  rw [Int32.toInt_div_of_ne_right _ _ (fun q => by
      have := congrArg Int32.toInt q
      rw [ti32 rb] at this
      have h2 : (-1 : Int32).toInt = -1 := by decide
      omega), ti32 rb, ti32 ha]
theorem zW_idivS {a d : Int} (ha : rng a) (hb : 1 < d ∧ d ≤ 2147483647) (hd : decode μ.1 pc = .ok (.idiv, 1)) (hn : pc + 1 = pc') (kk : ∀ v : Int, (0 ≤ a ∧ v = a / d) ∨ (a < 0 ∧ v = -((-a) / d)) → zV G μ Q pc' ls (.inl v :: st) h) : zV G μ Q pc ls (.inl d :: .inl a :: st) h := by
  subst hn
  intro p e s m args below meth c H locs lsA C hP hS hL
  have rb : rng d := ⟨by omega, hb.2⟩
  refine lv_idiv C.1 C.2.1 hd (nz32 rb (by omega)) (zV_any32 C hP hS hL (kk _ ?_))
  rw [tdv32 ha hb]
  exact tdv (by omega)
theorem zW_iremS {a d : Int} (ha : rng a) (hb : 1 < d ∧ d ≤ 2147483647) (hd : decode μ.1 pc = .ok (.irem, 1)) (hn : pc + 1 = pc') (kk : ∀ v : Int, (0 ≤ a ∧ v = a % d) ∨ (a < 0 ∧ v = -((-a) % d)) → zV G μ Q pc' ls (.inl v :: st) h) : zV G μ Q pc ls (.inl d :: .inl a :: st) h := by
  subst hn
  intro p e s m args below meth c H locs lsA C hP hS hL
  have rb : rng d := ⟨by omega, hb.2⟩
  refine lv_irem C.1 C.2.1 hd (nz32 rb (by omega)) ?_
  have e1 : Int32.ofInt a - Int32.ofInt a / Int32.ofInt d * Int32.ofInt d = Int32.ofInt (a - a.tdiv d * d) := by
    have : Int32.ofInt a / Int32.ofInt d = Int32.ofInt (a.tdiv d) := by
      rw [← tdv32 ha hb, Int32.ofInt_toInt]
    rw [this, ← Int32.ofInt_mul, ← Int32.ofInt_sub]
  rw [e1]
  refine kk _ ?_ p e s m args below meth c H locs lsA C hP hS hL
  rcases tdv (a := a) (d := d) (by omega) with ⟨q1, q2⟩ | ⟨q1, q2⟩
  · refine Or.inl ⟨q1, ?_⟩
    rw [q2, Int.emod_def, Int.mul_comm]
  · refine Or.inr ⟨q1, ?_⟩
    rw [q2, Int.emod_def, Int.mul_comm d, Int.neg_mul]
    omega
theorem zW_shlV {n : Int} (hw : 0 ≤ n ∧ n ≤ 4) (hd : decode μ.1 pc = .ok (.ishl, 1)) (hn : pc + 1 = pc') (kk : ∀ w : Int, (n = 0 ∧ w = 1) ∨ (n = 1 ∧ w = 2) ∨ (n = 2 ∧ w = 4) ∨ (n = 3 ∧ w = 8) ∨ (n = 4 ∧ w = 16) → zV G μ Q pc' ls (.inl w :: st) h) : zV G μ Q pc ls (.inl n :: .inl 1 :: st) h := by
  have : n = 0 ∨ n = 1 ∨ n = 2 ∨ n = 3 ∨ n = 4 := by omega
  rcases this with rfl | rfl | rfl | rfl | rfl
  · exact zW_shl1 (w := 1) (by omega) hd hn (kk 1 (by omega))
  · exact zW_shl1 (w := 2) (by omega) hd hn (kk 2 (by omega))
  · exact zW_shl1 (w := 4) (by omega) hd hn (kk 4 (by omega))
  · exact zW_shl1 (w := 8) (by omega) hd hn (kk 8 (by omega))
  · exact zW_shl1 (w := 16) (by omega) hd hn (kk 16 (by omega))
theorem zW_lushr {a b : Int} (hd : decode μ.1 pc = .ok (.lushr, 1)) (hn : pc + 1 = pc') (kk : ∀ v : Int, zV G μ Q pc' ls (.inr (.inl v) :: st) h) : zV G μ Q pc ls (.inl b :: .inr (.inl a) :: st) h := by
  subst hn
  intro p e s m args below meth c H locs lsA C hP hS hL
  exact lv_lushr C.1 C.2.1 hd rfl (zV_any64 C hP hS hL (kk _))
theorem zW_land {a b : Int} (hd : decode μ.1 pc = .ok (.land, 1)) (hn : pc + 1 = pc') (kk : ∀ v : Int, zV G μ Q pc' ls (.inr (.inl v) :: st) h) : zV G μ Q pc ls (.inr (.inl b) :: .inr (.inl a) :: st) h := by
  subst hn
  intro p e s m args below meth c H locs lsA C hP hS hL
  exact lv_land C.1 C.2.1 hd (zV_any64 C hP hS hL (kk _))
theorem zW_lsub {a b : Int} (hd : decode μ.1 pc = .ok (.lsub, 1)) (hn : pc + 1 = pc') (kk : ∀ v : Int, zV G μ Q pc' ls (.inr (.inl v) :: st) h) : zV G μ Q pc ls (.inr (.inl b) :: .inr (.inl a) :: st) h := by
  subst hn
  intro p e s m args below meth c H locs lsA C hP hS hL
  exact lv_lsub C.1 C.2.1 hd (zV_any64 C hP hS hL (kk _))
theorem zW_l2i {a : Int} (hd : decode μ.1 pc = .ok (.l2i, 1)) (hn : pc + 1 = pc') (kk : ∀ v : Int, rng v → zV G μ Q pc' ls (.inl v :: st) h) : zV G μ Q pc ls (.inr (.inl a) :: st) h := by
  subst hn
  intro p e s m args below meth c H locs lsA C hP hS hL
  exact lv_l2i C.1 C.2.1 hd rfl (zV_any32 C hP hS hL (kk _ (rg32 _)))
theorem max32 {a b : Int} (ha : rng a) (hb : rng b) : a ≤ (if Int32.ofInt a < Int32.ofInt b then Int32.ofInt b else Int32.ofInt a).toInt ∧ b ≤ (if Int32.ofInt a < Int32.ofInt b then Int32.ofInt b else Int32.ofInt a).toInt ∧ ((if Int32.ofInt a < Int32.ofInt b then Int32.ofInt b else Int32.ofInt a).toInt = a ∨ (if Int32.ofInt a < Int32.ofInt b then Int32.ofInt b else Int32.ofInt a).toInt = b) := by
  by_cases q : Int32.ofInt a < Int32.ofInt b
  · rw [if_pos q, ti32 hb]
    have := (lt32 ha hb).mp q
    omega
  · rw [if_neg q, ti32 ha]
    have : ¬ a < b := fun z => q ((lt32 ha hb).mpr z)
    omega
theorem min32 {a b : Int} (ha : rng a) (hb : rng b) : (if Int32.ofInt b < Int32.ofInt a then Int32.ofInt b else Int32.ofInt a).toInt ≤ a ∧ (if Int32.ofInt b < Int32.ofInt a then Int32.ofInt b else Int32.ofInt a).toInt ≤ b ∧ ((if Int32.ofInt b < Int32.ofInt a then Int32.ofInt b else Int32.ofInt a).toInt = a ∨ (if Int32.ofInt b < Int32.ofInt a then Int32.ofInt b else Int32.ofInt a).toInt = b) := by
  by_cases q : Int32.ofInt b < Int32.ofInt a
  · rw [if_pos q, ti32 hb]
    have := (lt32 hb ha).mp q
    omega
  · rw [if_neg q, ti32 ha]
    have : ¬ b < a := fun z => q ((lt32 hb ha).mpr z)
    omega
theorem zV_mmax {a b : Int} (lk : Cond.methodLink μ.2.2.2.1 idx Lib.Math.max.name ∈ gT) (hfr : 1 ≤ μ.2.2.2.2.frames) (hlo : stW st + 13 ≤ μ.2.2.2.2.locals) (hd : decode μ.1 pc = .ok (.invokestatic idx, 3)) (hn : pc + 3 = pc') (kk : ∀ v : Int, rng v ∧ (rng a → rng b → a ≤ v ∧ b ≤ v ∧ (v = a ∨ v = b)) → zV G μ Q pc' ls (.inl v :: st) h) : zV G μ Q pc ls (.inl b :: .inl a :: st) h := by
  subst hn
  intro p e s m args below meth c H locs lsA C hP hS hL
  have ok : ∀ w ∈ gT, w.before args s = true := C.2.2.2.2.2.2.1
  exact va_mmax C.1 C.2.1 (C.2.2.1.trans hL.size.symm) C.2.2.2.2.2.1 (ok _ lk) (ok _ km_s_max) (ok _ km_ini) (ok _ km_c_max) hfr (by rw [stW_dn]; exact hlo) (Nat.zero_le _) (Nat.zero_le _) hd (zV_any32 C hP hS hL (kk _ ⟨rg32 _, max32⟩))
theorem zV_mmin {a b : Int} (lk : Cond.methodLink μ.2.2.2.1 idx Lib.Math.min.name ∈ gT) (hfr : 1 ≤ μ.2.2.2.2.frames) (hlo : stW st + 13 ≤ μ.2.2.2.2.locals) (hd : decode μ.1 pc = .ok (.invokestatic idx, 3)) (hn : pc + 3 = pc') (kk : ∀ v : Int, rng v ∧ (rng a → rng b → v ≤ a ∧ v ≤ b ∧ (v = a ∨ v = b)) → zV G μ Q pc' ls (.inl v :: st) h) : zV G μ Q pc ls (.inl b :: .inl a :: st) h := by
  subst hn
  intro p e s m args below meth c H locs lsA C hP hS hL
  have ok : ∀ w ∈ gT, w.before args s = true := C.2.2.2.2.2.2.1
  exact va_mmin C.1 C.2.1 (C.2.2.1.trans hL.size.symm) C.2.2.2.2.2.1 (ok _ lk) (ok _ km_s_min) (ok _ km_ini) (ok _ km_c_min) hfr (by rw [stW_dn]; exact hlo) (Nat.zero_le _) (Nat.zero_le _) hd (zV_any32 C hP hS hL (kk _ ⟨rg32 _, min32⟩))
theorem abs32 {a : Int} (ha : rng a) (hm : a ≠ -2147483648) : (0 ≤ a ∧ (if (0 : Int32) ≤ Int32.ofInt a then Int32.ofInt a else 0 - Int32.ofInt a).toInt = a) ∨ (a < 0 ∧ (if (0 : Int32) ≤ Int32.ofInt a then Int32.ofInt a else 0 - Int32.ofInt a).toInt = -a) := by
  obtain ⟨h1, h2⟩ := ha
  by_cases q : (0 : Int32) ≤ Int32.ofInt a
  · rw [if_pos q, ti32 ⟨h1, h2⟩]
    have := (le32 zr0 ⟨h1, h2⟩).mp q
    exact Or.inl ⟨this, rfl⟩
  · rw [if_neg q]
    have : ¬ 0 ≤ a := fun z => q ((le32 zr0 ⟨h1, h2⟩).mpr z)
    refine Or.inr ⟨by omega, ?_⟩
    have e : (0 : Int32) - Int32.ofInt a = Int32.ofInt (0 - a) := by rw [Int32.ofInt_sub]; rfl
    rw [e, ti32 ⟨by omega, by omega⟩]
    omega
theorem zV_mabs {a : Int} (lk : Cond.methodLink μ.2.2.2.1 idx Lib.Math.abs.name ∈ gT) (hfr : 1 ≤ μ.2.2.2.2.frames) (hlo : stW st + 13 ≤ μ.2.2.2.2.locals) (hd : decode μ.1 pc = .ok (.invokestatic idx, 3)) (hn : pc + 3 = pc') (kk : ∀ v : Int, rng v ∧ (rng a → a ≠ -2147483648 → (0 ≤ a ∧ v = a) ∨ (a < 0 ∧ v = -a)) → zV G μ Q pc' ls (.inl v :: st) h) : zV G μ Q pc ls (.inl a :: st) h := by
  subst hn
  intro p e s m args below meth c H locs lsA C hP hS hL
  have ok : ∀ w ∈ gT, w.before args s = true := C.2.2.2.2.2.2.1
  exact va_mabs C.1 C.2.1 (C.2.2.1.trans hL.size.symm) C.2.2.2.2.2.1 (ok _ lk) (ok _ km_s_abs) (ok _ km_ini) (ok _ km_c_abs) hfr (by rw [stW_dn]; exact hlo) (Nat.zero_le _) (Nat.zero_le _) hd (zV_any32 C hP hS hL (kk _ ⟨rg32 _, abs32⟩))
theorem zV_mmaxl {a b : Int} (lk : Cond.methodLink μ.2.2.2.1 idx Lib.MathLoose.max_long.x ∈ gT) (hfr : 1 ≤ μ.2.2.2.2.frames) (hlo : stW st + 15 ≤ μ.2.2.2.2.locals) (hd : decode μ.1 pc = .ok (.invokestatic idx, 3)) (hn : pc + 3 = pc') (kk : ∀ v : Int, zV G μ Q pc' ls (.inr (.inl v) :: st) h) : zV G μ Q pc ls (.inr (.inl b) :: .inr (.inl a) :: st) h := by
  subst hn
  intro p e s m args below meth c H locs lsA C hP hS hL
  have ok : ∀ w ∈ gT, w.before args s = true := C.2.2.2.2.2.2.1
  exact va_mmax_long C.1 C.2.1 (C.2.2.1.trans hL.size.symm) C.2.2.2.2.2.1 (ok _ lk) (ok _ km_s_max_long) (ok _ km_ini) (ok _ km_c_max_long) hfr (by rw [stW_dn]; exact hlo) (Nat.zero_le _) (Nat.zero_le _) hd (zV_any64 C hP hS hL (kk _))
end More2
