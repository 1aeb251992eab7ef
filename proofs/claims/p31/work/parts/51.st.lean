def R_law : String := "RawPicturesLaw"
def lw_P (b : Addr) (xs : List Int32) (args : Array Value) (s : State) : Prop := args = #[.ref b] ∧ s.IntsAt b xs ∧ xs.length ≤ 3072 ∧ (Jvm.Cond.and given_1 narrow_1).before args s = true
def lw_Q (_ : Array Value) (s : State) (o : Outcome) (t : State) : Prop := o = .returned (some (.int 1)) ∧ Framed s o t [] 600000 7302250
def lw_Z (below : List Frame) (a : Array Value) (s : State) : State → Prop := fun t => ∃ o, t.status = .running ∧ Ended t below o ∧ lw_Q a s o t
/-- the law's own end, with 1 on the stack, nothing written that was there before, its room as the claim has it -/
theorem lw_ret {p : Program} {l : Launch} {e : Env} {s : State} {m : MethodId} {below : List Frame} {meth : Method} {c : Code} {b : Nat} (hx : p.tables.exec = Jvm.exec) (hb : c.code = code) (hr : meth.sig.returnType = ret) (hlocks : meth.locks = false) {pc : Nat} {H : Heap} {ls : Array Slot} (hdg : decode code pc = .ok (.ireturn, 1)) : W p l e room_1 s m #[Value.ref b] below meth c H [] 600000 7302250 (lw_Z below #[Value.ref b] s) (F0 m pc ls [.int 1]) := by
  intro T hT X
  obtain ⟨fs, hret, hrun, hended, hW, hframe⟩ := X.leave (v := some (.int 1)) (hlocks := hlocks) (fun h => by rw [hr] at h; cases h)
  have hmeth' : T.vm.method? m = some meth := X.method'
  refine ⟨T.setFrames fs, ?_, .returned (some (.int 1)), hrun, hended, rfl, ⟨_, rfl⟩, hW, hframe⟩
  jvm_step X.here [X.here.top, hx, hb, hdg, hmeth', hr, ret, narrow_b1]
  (try refine ⟨rfl, ?_⟩); (try refine ⟨rfl, ?_⟩)
  first | (intro acts; rw [hret _ acts rfl rfl rfl]) | rw [hret _ _ rfl rfl rfl]
  exact Steps.refl _
/-- what holds at the law's entry: the machine, the code, the tables' words (any of lw_tbl by 'hts w (by decide +kernel)'), the script of L ints xs at the cell b, what the Statement gives of the start (any of its parts by flat_of_before) -/
def lw_At (p : Program) (s : State) (m : MethodId) (meth : Method) (c : Code) (b L : Nat) (xs : Nat → Int32) : Prop :=
  p.tables.exec = Jvm.exec ∧ c.code = code ∧ meth.sig.returnType = ret ∧ c.maxLocals = 4 ∧ s.vm.findClass R_law = some m.cls ∧ (∀ w ∈ lw_tbl, w.before #[Value.ref b] s = true) ∧ va_X b L xs s s.heap ∧ b < s.heap.size ∧ meth.locks = false ∧ (Jvm.Cond.and given_1 narrow_1).before #[Value.ref b] s = true
/-- the law's end: 1, and its room -/
theorem law_fin {G : Ga} {b L : Nat} {xs : Nat → Int32} {cells slots : Nat} (h1 : cells ≤ 600000) (h2 : slots ≤ 7302250) : ∀ (i : Int) (h : Hp), zL (G, b, L, xs, lw_Z, cells, slots) 1586 (lsL i) [] h := by
  intro i h
  refine zL_iconst (pc' := 1587) dL_1586 rfl ?_
  intro p e s m below meth c H locs lsA C hX hb hG h0 hP hS hL
  obtain ⟨hx, hcb, -, hr, hlk, -⟩ := C
  refine va_forget (fun q hq => ?_) ?_
  · obtain ⟨k, hk, e0⟩ := hS.2.2 q hq
    rw [e0]
    exact hG k hk
  · refine W.widen (k := 600000) (n := 7302250) h1 h2 ?_
    exact lw_ret hx hcb hr hlk dL_1587
theorem hz_TGA : TGA hz := ⟨fun j _ => ⟨rfl, fun _ => rfl, rfl⟩, fun q => absurd rfl q⟩
theorem hz_TGB : TGB hz := fun j hj => absurd hj (by show ¬ ((j : Int) < 0); omega)
theorem hz_TGC : TGC hz := ⟨by decide +kernel, fun q => absurd rfl q⟩
theorem hz_TGD : TGD hz := ⟨rfl, fun q => absurd rfl q⟩
theorem hz_TGR : TGR hz := ⟨⟨fun k hk => absurd hk (by show ¬ ((k : Int) < 0); omega), fun k hk => by have e : k = 0 := (by have z : (k : Int) ≤ 0 := hk; omega); subst e; rfl, fun j hj => absurd hj (by show ¬ ((j : Int) < 0); omega)⟩, fun q => absurd rfl q⟩
theorem hz_TGV : TGV hz := ⟨fun j _ => ⟨Int.le_refl 0, (by decide : (0 : Int) ≤ 255)⟩, fun q => absurd rfl q⟩
theorem hz_TGE : TGE hz := ⟨EaOK_0, fun q => absurd rfl q⟩
theorem hz_TGS : TGS hz := ⟨StOK_0, fun q => absurd rfl q⟩
theorem hz_TGP : TGP hz := ⟨fun q => absurd rfl q, by decide +kernel, fun k hk => absurd hk (by show ¬ ((k : Int) ≤ -1); omega)⟩
theorem hz_TGF : TGF hz := ⟨⟨by decide, by decide, fun j hj => absurd hj (by show ¬ ((j : Int) < 0); omega)⟩, fun q => absurd rfl q⟩
theorem hz_TI : TI hz := by
  unfold TI
  decide +kernel
/-- the law's loop, joined to the world behind both constructors -/
theorem law_go {p : Program} {e : Env} {s : State} {m : MethodId} {below : List Frame} {meth : Method} {c : Code} {l : Launch} {b L : Nat} {xs : Nat → Int32} {D : va_G} {ca : Nat → ClassId} {H : Heap} {locs : List Loc} {ls : Array Slot} {cells slots : Nat} (hL : L ≤ 3072) (C0 : lw_At p s m meth c b L xs) (hK : nK D ca s) (hg : ∀ w ∈ gT, w.before #[Value.ref b] s = true) (hP : nP D s.heap.size 102 (wB ca s.heap.size) H) (hS : nS s.heap.size s.heap H locs) (hl : lv_has ls 4 [(3, .int (Int32.ofInt 0)), (2, .ref (s.heap.size + 72)), (1, .ref s.heap.size), (0, .ref b)]) (h1 : cells ≤ 600000) (h2 : slots ≤ 7302250) :
    W p l e room_1 s m #[Value.ref b] below meth c H locs cells slots (lw_Z below #[Value.ref b] s) (F0 m 18 ls []) := by
  obtain ⟨hx, hb, hr, hml, hown, hts, hX, hbl, hlocks, hgv⟩ := C0
  refine va_forget (fun q hq => hS.2.2 q hq) ?_
  obtain ⟨x, hext⟩ := ext_at (A := fun q => ∃ k, k < 102 ∧ q = s.heap.size + trn.getD k 0) hts hgv (fun a ha h => by
    obtain ⟨k, -, e0⟩ := h
    have ha : a < s.heap.size := ha
    have e0 : a = s.heap.size + trn.getD k 0 := e0
    omega)
  have had : ∀ k, k < 102 → adF s.heap.size x b k = s.heap.size + trn.getD k 0 := fun k hk => adF_lt hk rfl
  have hzA : zA (mkG l D ca (adF s.heap.size x b)) = fun q => ∃ k, k < 102 ∧ q = s.heap.size + trn.getD k 0 := by
    funext q
    refine propext ⟨fun ⟨k, h3, h4⟩ => ⟨k, h3, ?_⟩, fun ⟨k, h3, h4⟩ => ⟨k, h3, ?_⟩⟩
    · rw [← had k h3]; exact h4
    · rw [h4, ← had k h3]; rfl
  have hzX : zX (mkG l D ca (adF s.heap.size x b)) s := by
    refine hext (l, D, ca, adF s.heap.size x b, fun _ => True) hzA (fun j hj => ?_)
    show adF s.heap.size x b (102 + j) = x j
    unfold adF
    rw [if_neg (by omega), if_pos (by omega), show 102 + j - 102 = j by omega]
  have hI : zInj (mkG l D ca (adF s.heap.size x b)) := fun i j hi hj h => by
    have h : adF s.heap.size x b i = adF s.heap.size x b j := h
    rw [had i hi, had j hj] at h
    exact trn_inj hi hj (by omega)
  have C : zCx (mkG l D ca (adF s.heap.size x b)) mLw p s m #[.ref b] meth c := ⟨hx, hb, hml, hr, hlocks, hown, hg, hK.1, hI, mkG_zXS l D ca _, hzX⟩
  have hS2 : va_S (zA (mkG l D ca (adF s.heap.size x b))) s.heap H [] := ⟨hS.1, fun q h3 _ => hS.2.1 q h3 (by omega), fun q h3 => by cases h3⟩
  have hlh : zLH (adF s.heap.size x b) ls 4 (lsL 0) := by
    refine ⟨_, hl, fun j w hj => ?_⟩
    match j, hj with
    | 0, hj =>
      cases hj
      have e0 : adF s.heap.size x b 110 = b := rfl
      show (0, Value.ref (adF s.heap.size x b 110)) ∈ _
      rw [e0]
      simp
    | 1, hj =>
      cases hj
      show (1, Value.ref (adF s.heap.size x b 30)) ∈ _
      rw [ad_30]
      simp
    | 2, hj =>
      cases hj
      show (2, Value.ref (adF s.heap.size x b 0)) ∈ _
      rw [ad_0]
      simp
    | 3, hj =>
      cases hj
      show (3, Value.int (Int32.ofInt 0)) ∈ _
      simp
    | j + 4, hj => simp at hj
  exact law_loop (Γ := (mkG l D ca (adF s.heap.size x b), b, L, xs, lw_Z, cells, slots)) (mkG_XI l D ca _) ⟨h1, h2⟩ hL (law_fin h1 h2) (L + 1) 0 hz (by decide) (by omega) (by show (L : Int) - 0 < ((L + 1 : Nat) : Int); omega) hz_SI hz_KR hz_KC hz_TI hz_TGA hz_TGB hz_TGC hz_TGD hz_TGR hz_TGV hz_TGE hz_TGS hz_TGP hz_TGF
    p e s m below meth c H [] ls C hX hbl (fun k hk => by show s.heap.size ≤ adF s.heap.size x b k; rw [had k hk]; omega) rfl (zm_P hP) hS2 hlh
set_option maxHeartbeats 4000000 in
set_option maxRecDepth 100000 in
/-- THE LAW, from its entry -/
theorem whole_start {p : Program} {e : Env} {s : State} {m : MethodId} {below : List Frame} {meth : Method} {c : Code} (l : Launch) (hflags : l.flags = flags0) {b L : Nat} {xs : Nat → Int32} (hL : L ≤ 3072) (C0 : lw_At p s m meth c b L xs) : W p l e room_1 s m #[Value.ref b] below meth c s.heap [] 0 0 (lw_Z below #[Value.ref b] s) (entryFrame m ([Value.ref b] : List Value).toArray 4) := by
  obtain ⟨hx, hb, hr, hml, hown, hts, hX, hbl, hlocks, hgv⟩ := id C0
  have hg : ∀ w ∈ gT, w.before #[Value.ref b] s = true := fun w hw => hts w (List.mem_filter.mp hw).1
  obtain ⟨D, ca, hK⟩ := know hg (hts _ (tab_in 161 (by decide +kernel))) (hts _ (tab_in 196 (by decide +kernel)))
  have C : nCx D ca mLw p s m #[Value.ref b] meth c := ⟨hx, hb, hml, hr, hlocks, hown, hg, hK⟩
  have hl := lv_entry ([.ref b]) (n := 4) (Nat.le_of_ble_eq_true rfl)
  rw [lg_entry_eq]
  generalize (lg_sl ([.ref b]) ++ List.replicate (4 - (lg_sl ([.ref b])).length) Slot.unset).toArray = ls at hl ⊢
  have hl : lv_has ls 4 [(0, .ref b)] := hl
  have hS : nS s.heap.size s.heap s.heap [] := va_S.rf
  have hP : nP D s.heap.size 0 [] s.heap := ⟨rfl, fun k q h => by simp at h, fun i j p q h => by simp at h, fun k q h => by simp at h⟩
  refine nw_new C (ci := 11) (N := 13) (fs := bX11) (pc' := 3) rfl gw_X11 tyX11 tyX11_ok cl_L_7 in_X11 ii_X11 bl_X11 rfl (Nat.le_of_ble_eq_true rfl) (Nat.le_of_ble_eq_true rfl) hP hS dL_0 rfl (fun H hP hS => ?_)
  refine lv_dup hx hb dL_3 rfl ?_
  refine nw_call C (pc' := 7) (n := 0) (ws := []) (As := []) kc_X11 ii_X11 kn_X11 kp_X11 ki_X11 rfl lk_L_i9 ⟨Nat.le_of_ble_eq_true rfl, Nat.le_of_ble_eq_true rfl⟩ (ok_X11 l D ca (s.heap.size + 0)) hP hS (Nat.le_of_ble_eq_true rfl) hl.1 rfl dL_4 rfl ⟨Nat.le_of_ble_eq_true rfl, Nat.le_of_ble_eq_true rfl⟩ (fun H locs hP hS => ?_)
  have hP : nP D s.heap.size 72 (wX11 ca s.heap.size) H := hP
  refine lv_astore_n (lv' := [(1, .ref (s.heap.size + 0)), (0, .ref b)]) hx hb dL_7 rfl hl (by decide) rfl (fun ls hl => ?_)
  refine nw_new C (ci := 12) (N := 54) (fs := bX12) (pc' := 11) rfl gw_X12 tyX12 tyX12_ok cl_L_10 in_X12 ii_X12 bl_X12 rfl (Nat.le_of_ble_eq_true rfl) (Nat.le_of_ble_eq_true rfl) hP hS dL_8 rfl (fun H hP hS => ?_)
  refine lv_dup hx hb dL_11 rfl ?_
  refine nw_call C (pc' := 15) (n := 72) (As := []) kc_X12 ii_X12 kn_X12 kp_X12 ki_X12 rfl lk_L_i12 ⟨Nat.le_of_ble_eq_true rfl, Nat.le_of_ble_eq_true rfl⟩ (ok_X12 l D ca (s.heap.size + 72)) hP hS (Nat.le_of_ble_eq_true rfl) hl.1 rfl dL_12 rfl ⟨Nat.le_of_ble_eq_true rfl, Nat.le_of_ble_eq_true rfl⟩ (fun H locs hP hS => ?_)
  have hP : nP D s.heap.size 102 (wB ca s.heap.size) H := hP
  refine lv_astore_n (lv' := [(2, .ref (s.heap.size + 72)), (1, .ref (s.heap.size + 0)), (0, .ref b)]) hx hb dL_15 rfl hl (by decide) rfl (fun ls hl => ?_)
  refine lv_iconst (v := Int32.ofInt 0) hx hb dL_16 rfl ?_
  refine lv_istore_n (lv' := [(3, .int (Int32.ofInt 0)), (2, .ref (s.heap.size + 72)), (1, .ref (s.heap.size + 0)), (0, .ref b)]) hx hb dL_17 rfl hl (by decide) rfl (fun ls hl => ?_)
  exact law_go hL C0 hK hg hP hS hl (Nat.le_of_ble_eq_true rfl) (Nat.le_of_ble_eq_true rfl)
