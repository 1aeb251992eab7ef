/-! strings and rows of the class's statics: what zX must hold; the rules -/
def xv (k : Nat) : List Int32 := if k = 102 then [1, 1, 1, 1, 1, 1, 1, 1, 3, 3, 1, 2, 2, 2, 0] else if k = 103 then [0, 0, 1, 0, 0, 1, 0, 0, 0, 0, 0, 1, 0, 0, 0] else if k = 104 then [255, 255, 4, 99, 1, 3, 255, 254, 32, 99, 99, 4, 99, 99, 0] else [0, 0, 0, 0, 0, 0, 0, 0, 32, 99, 0, 32, 99, 99, 255]
def sby : List (List Int32) := [[98, 100, 111, 108, 102, 118, 119, 104, 121, 103, 109, 112, 110, 115, 116], [98, 100, 108, 119, 104, 109, 121, 110, 115]]
/-- a letter of a string -/
def sbv (z j : Nat) : Int := ((sby.getD z []).getD j 0).toInt
/-- a number of a static row -/
def xvv (k j : Nat) : Int := ((xv k).getD j 0).toInt
def Xrow (G : Ga) (nm : String) (k : Nat) (U : State) : Prop := va_Z "RawPictures" nm "[I" (.ref (zad G k)) (zA G) U U.heap ∧ ∃ f : Nat → Int32, f = (fun j => (xv k).getD j 0) ∧ va_T .int (zad G k) 15 (fun j => .int (f j)) (zA G) U U.heap
def Xstr (G : Ga) (U : State) : Prop := ∃ byt : List (List Int32), byt = sby ∧ vk_S 2 [15, 9] byt (fun i => zad G (106 + i)) (fun i => zad G (108 + i)) (zA G) U U.heap
def XF (G : Ga) (U : State) : Prop := (Xrow G "HOW_MANY_NUMBERS" 102 U ∧ Xrow G "LEAST_FIRST" 103 U ∧ Xrow G "GREATEST_FIRST" 104 U ∧ Xrow G "GREATEST_LATER" 105 U) ∧ Xstr G U ∧ vk_R "RawPictures$Reader" 63 "bdolfvwhygmpnst" (zad G 106) U ∧ vk_R "RawPictures" 384 "bdlwhmyns" (zad G 107) U ∧ va_Z "java/lang/String" "COMPACT_STRINGS" "Z" (.int 1) (zA G) U U.heap
def XI (G : Ga) : Prop := ∀ U, zX G U → XF G U
section Str
variable {G : Ga} {μ μ' : Mt} {Q Q' : Int → Hp → Prop} {pc pc' idx n : Nat} {ls : Lo} {st : List Sv} {h : Hp} {y : MethodName}
theorem zV_gsr {k : Nat} {nm : String} (hX : ∀ U, zX G U → Xrow G nm k U) (hw : ∃ host, Cond.fieldLinkNest μ.2.2.2.1 idx "RawPictures" nm "[I" host ∈ gT) (hd : decode μ.1 pc = .ok (.getstatic idx, 3)) (hn : pc + 3 = pc') (kk : zV G μ Q pc' ls (.inr (.inr k) :: st) h) : zV G μ Q pc ls st h := by
  subst hn
  obtain ⟨host, hw⟩ := hw
  intro p e s m args below meth c H locs lsA C hP hS hL
  exact va_getsN C.1 C.2.1 (hX s C.2.2.2.2.2.2.2.2.2.2).1 hS C.2.2.2.2.2.1 (C.2.2.2.2.2.2.1 _ hw) (fun x hx => hx) hd (kk p e s m args below meth c H locs lsA C hP hS hL)
theorem zV_gsc (hX : XI G) (hw : Cond.fieldLink μ.2.2.2.1 idx "java/lang/String" "COMPACT_STRINGS" "Z" ∈ gT) (hd : decode μ.1 pc = .ok (.getstatic idx, 3)) (hn : pc + 3 = pc') (kk : zV G μ Q pc' ls (.inl 1 :: st) h) : zV G μ Q pc ls st h := by
  subst hn
  intro p e s m args below meth c H locs lsA C hP hS hL
  exact va_gets C.1 C.2.1 (hX s C.2.2.2.2.2.2.2.2.2.2).2.2.2.2 hS C.2.2.2.2.2.1 (C.2.2.2.2.2.2.1 _ hw) (fun x hx => hx) hd (kk p e s m args below meth c H locs lsA C hP hS hL)
theorem zV_talen {k : Nat} {nm : String} (hX : ∀ U, zX G U → Xrow G nm k U) (hd : decode μ.1 pc = .ok (.arraylength, 1)) (hn : pc + 1 = pc') (kk : zV G μ Q pc' ls (.inl 15 :: st) h) : zV G μ Q pc ls (.inr (.inr k) :: st) h := by
  subst hn
  intro p e s m args below meth c H locs lsA C hP hS hL
  obtain ⟨f, -, hf⟩ := (hX s C.2.2.2.2.2.2.2.2.2.2).2
  exact va_tlen C.1 C.2.1 hf hS rfl hd (kk p e s m args below meth c H locs lsA C hP hS hL)
theorem zV_sbald {z : Nat} {i : Int} (hX : XI G) (hz : z < 2) (hi : 0 ≤ i ∧ i < ([15, 9] : List Nat).getD z 0) (hd : decode μ.1 pc = .ok (.baload, 1)) (hn : pc + 1 = pc') (kk : ∀ v : Int, rng v → zV G μ Q pc' ls (.inl v :: st) h) : zV G μ Q pc ls (.inl i :: .inr (.inr (108 + z)) :: st) h := by
  subst hn
  intro p e s m args below meth c H locs lsA C hP hS hL
  obtain ⟨byt, -, hb⟩ := (hX s C.2.2.2.2.2.2.2.2.2.2).2.1
  have hl : ([15, 9] : List Nat).getD z 0 < 2147483648 := by
    match z, hz with
    | 0, _ => decide
    | 1, _ => decide
  exact va_tb C.1 C.2.1 (hb.1 z hz).2.2.2 hS (i := Int32.ofInt i) (vin32 hi hl) rfl hd (zV_any32 C hP hS hL (kk _ (rg32 _)))
theorem zV_taldE {k : Nat} {nm : String} {i : Int} (hX : ∀ U, zX G U → Xrow G nm k U) (hi : 0 ≤ i ∧ i < 15) (hd : decode μ.1 pc = .ok (.iaload, 1)) (hn : pc + 1 = pc') (kk : ∀ v : Int, rng v → v = xvv k i.toNat → zV G μ Q pc' ls (.inl v :: st) h) : zV G μ Q pc ls (.inl i :: .inr (.inr k) :: st) h := by
  subst hn
  intro p e s m args below meth c H locs lsA C hP hS hL
  obtain ⟨f, rfl, hf⟩ := (hX s C.2.2.2.2.2.2.2.2.2.2).2
  exact va_ti C.1 C.2.1 hf hS (i := Int32.ofInt i) (vin32 hi (by decide)) rfl hd (zV_any32 C hP hS hL (kk _ (rg32 _) (by unfold xvv; rw [tn32 ⟨hi.1, by omega⟩])))
theorem zV_sbaldE {z : Nat} {i : Int} (hX : XI G) (hz : z < 2) (hi : 0 ≤ i ∧ i < ([15, 9] : List Nat).getD z 0) (hd : decode μ.1 pc = .ok (.baload, 1)) (hn : pc + 1 = pc') (kk : ∀ v : Int, rng v → v = sbv z i.toNat → zV G μ Q pc' ls (.inl v :: st) h) : zV G μ Q pc ls (.inl i :: .inr (.inr (108 + z)) :: st) h := by
  subst hn
  intro p e s m args below meth c H locs lsA C hP hS hL
  obtain ⟨byt, rfl, hb⟩ := (hX s C.2.2.2.2.2.2.2.2.2.2).2.1
  have hl : ([15, 9] : List Nat).getD z 0 < 2147483648 := by
    match z, hz with
    | 0, _ => decide
    | 1, _ => decide
  exact va_tb C.1 C.2.1 (hb.1 z hz).2.2.2 hS (i := Int32.ofInt i) (vin32 hi hl) rfl hd (zV_any32 C hP hS hL (kk _ (rg32 _) (by unfold sbv; rw [tn32 ⟨hi.1, by omega⟩])))
theorem zV_sblen {z : Nat} (hX : XI G) (hz : z < 2) (hd : decode μ.1 pc = .ok (.arraylength, 1)) (hn : pc + 1 = pc') (kk : zV G μ Q pc' ls (.inl ((([15, 9] : List Nat).getD z 0 : Nat) : Int) :: st) h) : zV G μ Q pc ls (.inr (.inr (108 + z)) :: st) h := by
  subst hn
  intro p e s m args below meth c H locs lsA C hP hS hL
  obtain ⟨byt, -, hb⟩ := (hX s C.2.2.2.2.2.2.2.2.2.2).2.1
  exact va_tlen C.1 C.2.1 (hb.1 z hz).2.2.2 hS rfl hd (kk p e s m args below meth c H locs lsA C hP hS hL)
theorem zV_sval {z : Nat} (hX : XI G) (hz : z < 2) (hw : Cond.fieldLink μ.2.2.2.1 idx "java/lang/String" "value" "[B" ∈ gT) (hd : decode μ.1 pc = .ok (.getfield idx, 3)) (hn : pc + 3 = pc') (kk : zV G μ Q pc' ls (.inr (.inr (108 + z)) :: st) h) : zV G μ Q pc ls (.inr (.inr (106 + z)) :: st) h := by
  subst hn
  intro p e s m args below meth c H locs lsA C hP hS hL
  obtain ⟨byt, -, hb⟩ := (hX s C.2.2.2.2.2.2.2.2.2.2).2.1
  exact vk_getf C.1 C.2.1 (hb.1 z hz).2.2.1 hS C.2.2.2.2.2.1 (C.2.2.2.2.2.2.1 _ hw) (fun x hx => hx) hd (kk p e s m args below meth c H locs lsA C hP hS hL)
theorem zV_scod {z : Nat} (hX : XI G) (hz : z < 2) (hw : Cond.fieldLink μ.2.2.2.1 idx "java/lang/String" "coder" "B" ∈ gT) (hd : decode μ.1 pc = .ok (.getfield idx, 3)) (hn : pc + 3 = pc') (kk : zV G μ Q pc' ls (.inl 0 :: st) h) : zV G μ Q pc ls (.inr (.inr (106 + z)) :: st) h := by
  subst hn
  intro p e s m args below meth c H locs lsA C hP hS hL
  obtain ⟨byt, -, hb⟩ := (hX s C.2.2.2.2.2.2.2.2.2.2).2.1
  exact vk_getf C.1 C.2.1 (hb.1 z hz).2.1 hS C.2.2.2.2.2.1 (C.2.2.2.2.2.2.1 _ hw) (fun x hx => hx) hd (kk p e s m args below meth c H locs lsA C hP hS hL)
theorem zV_ldcS {k : Nat} {tx : String} (hX : ∀ U, zX G U → vk_R μ.2.2.2.1 idx tx (zad G k) U) (hd : decode μ.1 pc = .ok (.ldc idx, 2)) (hn : pc + 2 = pc') (kk : zV G μ Q pc' ls (.inr (.inr k) :: st) h) : zV G μ Q pc ls st h := by
  subst hn
  intro p e s m args below meth c H locs lsA C hP hS hL
  exact va_ldcS C.1 C.2.1 C.2.2.2.2.2.1 (hX s C.2.2.2.2.2.2.2.2.2.2) hd (kk p e s m args below meth c H locs lsA C hP hS hL)
theorem zV_invS (hX : XI G) {z : Nat} (hz : z < 2) (hcl : y.cls = "java/lang/String") (tk : zTk μ' y n) (tv : zTv y) (lk : zLk μ.2.2.2.1 idx y) (rm : zRm μ μ') (As : List Sv) (hM : zM G μ' y (.inr (.inr (106 + z)) :: As) h Q') (hd : decode μ.1 pc = .ok (.invokevirtual idx, 3)) (hn : As.length = n) (h8 : stW st ≤ 8) (hp : pc + 3 = pc')
    (kk : ∀ (r : Int) (h' : Hp), Q' r h' → zV G μ Q pc' ls (zpu μ'.2.2.1 r ++ st) h') : zV G μ Q pc ls (As.reverse ++ .inr (.inr (106 + z)) :: st) h := by
  subst hp
  intro p e s m args below meth c H locs lsA C hP hS hL
  obtain ⟨t1, t2, t3, t4, t5, t6⟩ := tk
  have ok : ∀ w ∈ gT, w.before args s = true := C.2.2.2.2.2.2.1
  obtain ⟨byt, -, hb⟩ := (hX s C.2.2.2.2.2.2.2.2.2.2).2.1
  have hrc := vk_recv hb hz hS
  rw [← hcl] at hrc
  have hpre : PreV s H y.cls (zad G (106 + z)) (va_Pc ((.inr (.inr (106 + z)) :: As).map (dn (zad G))) (zB G h)) (As.map (dn (zad G))) := ⟨zB_blind, hrc, fun U hU hW => ⟨by rw [List.map_cons]; rfl, zB_at C hP hS hU hW⟩⟩
  have hsig : ∀ sig, parseMethodDescriptor y.desc = some sig → n = sig.parameters.length := fun sig hh => by
    rw [hh] at t4
    exact (Option.some.inj t4).symm
  have hstk : ((As.reverse ++ .inr (.inr (106 + z)) :: st).map (dn (zad G))) = (As.map (dn (zad G))).reverse ++ Value.ref (zad G (106 + z)) :: st.map (dn (zad G)) := by
    rw [List.map_append, List.map_reverse, List.map_cons]
    rfl
  have hW8 : 2 * (F0 m pc lsA ((As.reverse ++ .inr (.inr (106 + z)) :: st).map (dn (zad G)))).monitorRoom + ((st.map (dn (zad G))).map fun v => v.category).sum ≤ 8 := lv_room (by rw [stW_dn]; exact h8)
  have fx : CallFix p m c μ.1 μ.2.1 s args gT μ.2.2.2.1 := ⟨C.1, C.2.1, C.2.2.1, C.2.2.2.2.2.1, ok⟩
  rcases lk with lk | ⟨host, lk⟩
  · refine zV_cont C hS hL (va_runV (As := As.map (dn (zad G))) (rest := st.map (dn (zad G))) (C := y.cls) (bytes := μ'.1) (maxL := μ'.2.1) (ret := μ'.2.2.1) (n := n) fx hM ⟨⟨t5, t6, rm.1, rm.2, gT_ws C t1, List.mem_cons_self, ok _ t1, ok _ t2, t3, hsig, ok _ lk⟩, ok _ tv.1, ok _ tv.2⟩ hpre rfl (by rw [List.length_map]; exact hn) hL.size hstk hW8 hd ⟨Nat.zero_le _, Nat.zero_le _⟩) kk
  · refine zV_cont C hS hL (va_runVN (As := As.map (dn (zad G))) (rest := st.map (dn (zad G))) (C := y.cls) (host := host) (bytes := μ'.1) (maxL := μ'.2.1) (ret := μ'.2.2.1) (n := n) fx hM ⟨⟨⟨t5, t6, rm.1, rm.2, gT_ws C t1, List.mem_cons_self⟩, ok _ t1, ok _ t2, t3, hsig, ok _ lk⟩, ok _ tv.1, ok _ tv.2⟩ hpre rfl (by rw [List.length_map]; exact hn) hL.size hstk hW8 hd ⟨Nat.zero_le _, Nat.zero_le _⟩) kk
theorem zV_sblen0 (hX : XI G) (hd : decode μ.1 pc = .ok (.arraylength, 1)) (hn : pc + 1 = pc') (kk : zV G μ Q pc' ls (.inl 15 :: st) h) : zV G μ Q pc ls (.inr (.inr 108) :: st) h := zV_sblen (z := 0) hX (by decide) hd hn kk
theorem zV_sblen1 (hX : XI G) (hd : decode μ.1 pc = .ok (.arraylength, 1)) (hn : pc + 1 = pc') (kk : zV G μ Q pc' ls (.inl 9 :: st) h) : zV G μ Q pc ls (.inr (.inr 109) :: st) h := zV_sblen (z := 1) hX (by decide) hd hn kk
theorem cwI0 {z : Nat} (hX : XI G) (hz : z < 2) (hcl : y.cls = "java/lang/String") (tk : zTk μ' y 0) (tv : zTv y) (lk : zLk μ.2.2.2.1 idx y) (rm : zRm μ μ') (hrt : zpu μ'.2.2.1 = fun r => [.inl r]) (hM : zM G μ' y [.inr (.inr (106 + z))] h Q') (hd : decode μ.1 pc = .ok (.invokevirtual idx, 3)) (h8 : stW st ≤ 8) (hp : pc + 3 = pc') (kk : ∀ (r : Int) (h' : Hp), Q' r h' → zV G μ Q pc' ls (.inl r :: st) h') : zV G μ Q pc ls (.inr (.inr (106 + z)) :: st) h :=
  zV_invS hX hz hcl tk tv lk rm [] hM hd rfl h8 hp (fun r h' hr => by rw [hrt]; exact kk r h' hr)
theorem cwI1 {z : Nat} (hX : XI G) (hz : z < 2) (hcl : y.cls = "java/lang/String") (tk : zTk μ' y 1) (tv : zTv y) (lk : zLk μ.2.2.2.1 idx y) (rm : zRm μ μ') (hrt : zpu μ'.2.2.1 = fun r => [.inl r]) {a1 : Sv} (hM : zM G μ' y [.inr (.inr (106 + z)), a1] h Q') (hd : decode μ.1 pc = .ok (.invokevirtual idx, 3)) (h8 : stW st ≤ 8) (hp : pc + 3 = pc') (kk : ∀ (r : Int) (h' : Hp), Q' r h' → zV G μ Q pc' ls (.inl r :: st) h') : zV G μ Q pc ls (a1 :: .inr (.inr (106 + z)) :: st) h :=
  zV_invS hX hz hcl tk tv lk rm [a1] hM hd rfl h8 hp (fun r h' hr => by rw [hrt]; exact kk r h' hr)
theorem cwI2 {z : Nat} (hX : XI G) (hz : z < 2) (hcl : y.cls = "java/lang/String") (tk : zTk μ' y 2) (tv : zTv y) (lk : zLk μ.2.2.2.1 idx y) (rm : zRm μ μ') (hrt : zpu μ'.2.2.1 = fun r => [.inl r]) {a1 a2 : Sv} (hM : zM G μ' y [.inr (.inr (106 + z)), a1, a2] h Q') (hd : decode μ.1 pc = .ok (.invokevirtual idx, 3)) (h8 : stW st ≤ 8) (hp : pc + 3 = pc') (kk : ∀ (r : Int) (h' : Hp), Q' r h' → zV G μ Q pc' ls (.inl r :: st) h') : zV G μ Q pc ls (a2 :: a1 :: .inr (.inr (106 + z)) :: st) h :=
  zV_invS hX hz hcl tk tv lk rm [a1, a2] hM hd rfl h8 hp (fun r h' hr => by rw [hrt]; exact kk r h' hr)
theorem zV_ldc_wS {k : Nat} {tx : String} (hX : ∀ U, zX G U → vk_R μ.2.2.2.1 idx tx (zad G k) U) (hd : decode μ.1 pc = .ok (.ldc_w idx, 3)) (hn : pc + 3 = pc') (kk : zV G μ Q pc' ls (.inr (.inr k) :: st) h) : zV G μ Q pc ls st h := by
  subst hn
  intro p e s m args below meth c H locs lsA C hP hS hL T hT X
  obtain ⟨t, a1, b1⟩ := kk p e s m args below meth c H locs lsA C hP hS hL T hT X
  refine ⟨t, ?_, b1⟩
  have hZ := hX s C.2.2.2.2.2.2.2.2.2.2
  obtain ⟨kc, cf, i, a', hk, hcf, hcp, -, hr, hev'⟩ := Cond.stringRef_spec C.2.2.2.2.2.1 hZ.1
  cases hZ.2.symm.trans hev'
  obtain ⟨k', hk', he⟩ := X.warmed.alike.2.2 _ _ hk
  have hr' : k'.resolved[idx]? = some (some (.string (zad G k))) := by
    rcases X.warmed.entry hk hk' idx with h | ⟨h, -⟩
    · rw [h]; exact hr
    · rw [hr] at h; cases h
  have hdg : decode c.code pc = .ok (.ldc_w idx, 3) := by rw [C.2.1]; exact hd
  jvm_step X.here [C.1, hdg, ldc_w.wp_string (e := e) (s := T) (f := F0 m pc lsA (st.map (dn (zad G)))) X.here.top hk' (by rw [he]; exact hcf) hcp hr']
  exact a1
theorem zV_bret {a : Int} (hr : μ.2.2.1 = some .byte) (ha : a = 0) (hd : decode μ.1 pc = .ok (.ireturn, 1)) (hq : Q a h) : zV G μ Q pc ls [.inl a] h := by
  intro p e s m args below meth c H locs lsA C hP hS hL
  exact W.zret (v := Int32.ofInt a) (ty := .byte) C.1 C.2.1 (C.2.2.2.1.trans hr) (by rw [ha]; rfl) (fun t ht hW => ⟨⟨a, h, by rw [hr]; rfl, hq, by rw [ht]; exact hP⟩, hS.F ht⟩) hS.2.2 hd C.2.2.2.2.1
end Str
theorem w_HOW_MANY_NUMBERS : ∃ host, Cond.fieldLinkNest "RawPictures$Reader" 77 "RawPictures" "HOW_MANY_NUMBERS" "[I" host ∈ gT := ⟨_, gS3 54 rfl rfl⟩
theorem w_LEAST_FIRST : ∃ host, Cond.fieldLinkNest "RawPictures$Reader" 81 "RawPictures" "LEAST_FIRST" "[I" host ∈ gT := ⟨_, gS3 56 rfl rfl⟩
theorem w_GREATEST_FIRST : ∃ host, Cond.fieldLinkNest "RawPictures$Reader" 84 "RawPictures" "GREATEST_FIRST" "[I" host ∈ gT := ⟨_, gS3 58 rfl rfl⟩
theorem w_GREATEST_LATER : ∃ host, Cond.fieldLinkNest "RawPictures$Reader" 91 "RawPictures" "GREATEST_LATER" "[I" host ∈ gT := ⟨_, gS3 60 rfl rfl⟩
theorem w_COMPACT : Cond.fieldLink "java/lang/String" 38 "java/lang/String" "COMPACT_STRINGS" "Z" ∈ gT := gS2 188 rfl rfl
theorem w_svalue : Cond.fieldLink "java/lang/String" 9 "java/lang/String" "value" "[B" ∈ gT := gS8 156 rfl rfl
theorem w_scoder : Cond.fieldLink "java/lang/String" 15 "java/lang/String" "coder" "B" ∈ gT := gS8 155 rfl rfl
