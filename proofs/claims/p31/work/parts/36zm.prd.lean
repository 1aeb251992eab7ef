/-! what was read: letters that are known, how many numbers, f's own -/
theorem al_sg {g : Int → Int} {n : Int} : ∀ (K m : Nat) (f r : Int), 0 ≤ qP g m → alF g n K (qP g m) m f = r → 0 ≤ r → ∀ k : Nat, m ≤ k → (k : Int) < r → 0 ≤ kd (g (qP g k)) ∧ nbF g (g (qP g k)) (qP g k + 2) = 0
  | 0, m, f, r, _, e, _, k, h1, h2 => by
    have e0 : (0 : Int) = r := e
    omega
  | K + 1, m, f, r, hq, e, hr, k, h1, h2 => by
    have e1 : alF g n (K + 1) (qP g m) m f = if sgF g (qP g m) m f = 0 then (if sgE g (qP g m) < n then (if sF g (sgE g (qP g m)) 59 = 0 then alF g n K (sgE g (qP g m) + 1) ((m : Int) + 1) (nxf g (qP g m) m f) else sF g (sgE g (qP g m)) 59) else (m : Int) + 1) else sgF g (qP g m) m f := rfl
    rw [e1] at e
    by_cases c : sgF g (qP g m) m f = 0
    · rw [if_pos c] at e
      have here : 0 ≤ kd (g (qP g m)) ∧ nbF g (g (qP g m)) (qP g m + 2) = 0 := ⟨lFz (sq_0l (sq_0l c)) hq, sq_0r c⟩
      by_cases km : k = m
      · rw [km]; exact here
      by_cases d : sgE g (qP g m) < n
      · rw [if_pos d] at e
        by_cases s : sF g (sgE g (qP g m)) 59 = 0
        · rw [if_pos s] at e
          refine al_sg K (m + 1) (nxf g (qP g m) m f) r ?_ e hr k (by omega) h2
          show 0 ≤ sgE g (qP g m) + 1
          have := sgEn (g := g) hq
          omega
        · rw [if_neg s] at e
          have := sFn (g := g) (p := sgE g (qP g m)) (c := 59) (sgEn hq)
          omega
      · rw [if_neg d] at e
        omega
    · rw [if_neg c] at e
      have := sgFn (g := g) (p := qP g m) (m := m) (f := f) hq
      omega
theorem rd_sg {g : Int → Int} {n r : Int} (h : rdF g n = r) (k : Nat) (hk : (k : Int) < r) : 0 ≤ kd (g (qP g k)) ∧ nbF g (g (qP g k)) (qP g k + 2) = 0 := by
  unfold rdF at h
  by_cases c : n = 0
  · rw [if_pos c] at h
    omega
  · rw [if_neg c] at h
    exact al_sg 200 0 0 r (Int.le_refl 0) h (by omega) k (Nat.zero_le k) hk
theorem qPn {g : Int → Int} : ∀ k : Nat, 0 ≤ qP g k
  | 0 => Int.le_refl 0
  | k + 1 => by
    show 0 ≤ sgE g (qP g k) + 1
    have := sgEn (g := g) (qPn (g := g) k)
    omega
theorem nL_pre {g : Int → Int} {k : Nat} : ∀ j : Nat, ∃ t, nL g (k + j) = nL g k ++ t
  | 0 => ⟨[], (List.append_nil _).symm⟩
  | j + 1 => by
    obtain ⟨t, e⟩ := nL_pre (g := g) (k := k) j
    refine ⟨t ++ nbL g (g (qP g (k + j))) (qP g (k + j) + 2), ?_⟩
    show nL g (k + j) ++ nbL g (g (qP g (k + j))) (qP g (k + j) + 2) = _
    rw [e, List.append_assoc]
theorem RW.st {g : Int → Int} {n r : Int} {A B C : Nat → Int} (a : RW g r A B C) (h : rdF g n = r) : StOK A B C r := fun k hk => by
  obtain ⟨a1, a2, a3⟩ := a
  obtain ⟨s1, s2⟩ := rd_sg h k hk
  have eA := a1 k hk
  have eB := a2 k (by omega)
  have eB2 := a2 (k + 1) (by omega)
  have eS : nL g (k + 1) = nL g k ++ nbL g (g (qP g k)) (qP g k + 2) := rfl
  rw [eS, List.length_append] at eB2
  have q0 := qPn (g := g) k
  rw [← eA] at s1 s2 eB2
  refine ⟨fun q => ?_, fun q => ?_, fun q => ?_, ?_⟩
  · rw [q, (nb_102 (g := g) (p := qP g k + 2)).1] at s2
    have z := nFz s2 (by omega)
    obtain ⟨t, e⟩ := nL_pre (g := g) (k := k + 1) (r.toNat - (k + 1))
    rw [show k + 1 + (r.toNat - (k + 1)) = r.toNat by omega, eS, ← eA, q, show nbL g 102 (qP g k + 2) = [nV g (qP g k + 2)] from nl_102] at e
    have c := a3 (nL g k).length (by rw [e]; simp)
    rw [e] at c
    have c2 : C (nL g k).length = nV g (qP g k + 2) := by rw [c]; simp
    rw [eB, show (((nL g k).length : Nat) : Int).toNat = (nL g k).length by omega, c2]
    exact z.2
  · have l : (nbL g (A k) (qP g k + 2)).length = 2 := by rcases q with q | q | q <;> (rw [q]; first | rw [nl_112] | rw [nl_110] | rw [nl_115]) <;> rfl
    omega
  · have l : (nbL g (A k) (qP g k + 2)).length = 3 := by rcases q with q | q <;> (rw [q]; first | rw [nl_103] | rw [nl_121]) <;> rfl
    omega
  · rcases (by omega : kd (A k) ≤ 4 ∨ 5 ≤ kd (A k)) with w | w
    · have z := kd_e (A k)
      have y := z.mp ⟨s1, w⟩
      omega
    · have z := (kd_l (A k)).mp w
      omega
theorem StOK.cp {L A N L' A' N' : Nat → Int} {n : Int} (h : StOK L A N n) (hn : n ≤ 12) (b : ∀ k, 0 ≤ A k ∧ A k ≤ 120) (eL : ∀ j : Nat, j < 12 → L' j = L j) (eA : ∀ j : Nat, j < 13 → A' j = A j) (eN : ∀ j : Nat, j < 130 → N' j = N j) : StOK L' A' N' n := fun k hk => by
  have z := h k hk
  have y := b k
  unfold StK at z ⊢
  rw [eL k (by omega), eA k (by omega), eA (k + 1) (by omega), eN _ (by omega)]
  exact z
theorem StOK_0 {L A N : Nat → Int} : StOK L A N 0 := fun k hk => absurd hk (by omega)
/-- the class's text and the reference's -/
theorem XNc_eq {h : Hp} (hR : KR h) (t : TR (h 0 14) (LC h) (AC h) (h 44) (h 3) (h 4) (h 5)) {k : Nat} (hk : (k : Int) < h 0 14) : XNc h k = XN (h 4) (h 5) k := by
  have m := KRm hR
  have u := (KRr hR).up (h 0 14).toNat (k + 1) (by omega) (by omega)
  have b := KRna hR k
  funext j
  show (if AC h k + (j : Int) < AC h (k + 1) then h 44 (AC h k + (j : Int)).toNat else 0) = (if h 4 k + (j : Int) < h 4 (k + 1) then h 5 (h 4 k + (j : Int)).toNat else 0)
  rw [t.2.1 k (by omega), t.2.1 (k + 1) (by omega)]
  by_cases c : h 4 k + (j : Int) < h 4 (k + 1)
  · rw [if_pos c, if_pos c]
    exact t.2.2 _ (by omega)
  · rw [if_neg c, if_neg c]
theorem RecW_of {h : Hp} (hR : KR h) (hC : KC h) (t : TR (h 0 14) (LC h) (AC h) (h 44) (h 3) (h 4) (h 5)) (e : h 41 0 = h 0 14) (hS : StOK (h 3) (h 4) (h 5) (h 0 14)) : RecW h := fun k hk => by
  rw [e] at hk
  have m := KRm hR
  obtain ⟨r1, r2, r3, r4, r5, r6⟩ := KRr hR (k + 1) (by omega) (by omega)
  rw [show k + 1 - 1 = k by omega] at r1 r3 r4 r5 r6
  obtain ⟨s1, s2, s3, s4⟩ := hS k hk
  have u := (KRr hR).up (h 0 14).toNat (k + 1) (by omega) (by omega)
  have eA := t.2.1 k (by omega)
  have eA2 := t.2.1 (k + 1) (by omega)
  have eL := t.1 k (by omega)
  have b2 : AC h (k + 1) ≤ 64 := (KCst hC (k + 2)).2
  have e0 : XN (h 4) (h 5) k 0 = h 5 (h 4 k).toNat := XN_0 r1
  rw [XNc_eq hR t hk, eA, eA2, eL]
  refine ⟨⟨r1, by rw [← eA2]; exact b2⟩, s4, fun j => ?_, ⟨fun q => by rw [e0]; exact r4 q, fun q => by rw [e0]; exact r5 q, fun q => by rw [e0]; exact s1 q⟩, fun q => ?_⟩
  · unfold XN
    by_cases c : h 4 k + (j : Int) < h 4 (k + 1)
    · rw [if_pos c]; exact KRnu hR _
    · rw [if_neg c]; omega
  · obtain ⟨t1, t2, t3⟩ := r6 q
    have f1 : h 43 ((k : Int) + 1).toNat = h 4 k := eA
    have f2 : h 43 ((k : Int) + 1 + 1).toNat = h 4 (k + 1) := by
      rw [show ((k : Int) + 1 + 1).toNat = k + 1 + 1 by omega]; exact eA2
    have f3 : ∀ j : Int, 0 ≤ j → j < h 4 (k + 1) - h 4 k → XC h ((k : Int) + 1) j.toNat = h 5 (h 4 k + j).toNat := fun j j0 j1 => by
      rw [XC_at j0, f1]
      exact t.2.2 _ (by omega)
    unfold CrC
    rw [f1, f2]
    refine ⟨⟨by rw [← eA2]; exact b2, by omega, t2⟩, fun j j0 j1 => ?_, fun i i0 i1 => ?_⟩
    · rw [f3 j j0 j1]; exact KRnu hR _
    · rw [f3 (2 * i) (by omega) (by omega), f3 (2 * i + 2) (by omega) (by omega)]
      have z := t3 i i0 (by omega)
      rw [show h 4 k + (2 * i + 2) = h 4 k + 2 * i + 2 by omega]
      exact z.2.1
theorem PF_eq {h : Hp} (hR : KR h) (eW : h 33 0 = h 0 11) (eH : h 33 1 = h 0 12) (eP : h 33 2 = h 0 13) (hv : ∀ j : Nat, j < 256 → h 34 j = h 1 j) (hd : ∀ j : Nat, j < 256 → h 35 j = h 10 j) (t : TR (h 0 14) (LC h) (AC h) (h 44) (h 3) (h 4) (h 5)) (k : Nat) (hk : (k : Int) ≤ h 0 14) : PFc h k = PF h k := by
  have w := KRw hR
  have v := KRh hR
  unfold PFc PF
  rw [eW, eH, eP, rawP_eq w.2 v.2 hv, dN_eq w.2 v.2 hd]
  refine pG_eq k (fun j hj => ?_)
  rw [Nat.zero_add]
  refine ⟨t.1 j (by omega), XNc_eq hR t (by omega), ?_⟩
  show (AC h (j + 1) - AC h j) / 2 = (h 4 (j + 1) - h 4 j) / 2
  rw [t.2.1 j (by omega), t.2.1 (j + 1) (by omega)]
/-- the law's invariant of pictures -/
def IPW (h : Hp) : Prop := (PicRW h ∧ PicCW h) ∧ (VOK (h 1) ∧ VOK (h 34)) ∧ (EaOK (h 3) (h 0 14) ∧ EaOK (LC h) (h 41 0)) ∧ RecW h ∧ h 0 14 ≤ 12 ∧ h 41 0 ≤ 12 ∧ h 0 11 ≤ 16 ∧ h 0 12 ≤ 16 ∧ 0 ≤ h 0 13 ∧ StOK (h 3) (h 4) (h 5) (h 0 14)
theorem PicRW_un {h h' : Hp} (e : ∀ k i, prk k i = true → h' k i = h k i) (p : PicRW h) : PicRW h' := by
  unfold PicRW at p ⊢
  rw [e 0 23 rfl, e 0 14 rfl, show h' 17 = h 17 from funext fun i => e 17 i rfl,
    RwW.key (κ := h) (h := h') (e 0 11 rfl) (e 0 12 rfl) (e 0 13 rfl) (funext fun i => e 1 i rfl) (funext fun i => e 10 i rfl) (funext fun i => e 3 i rfl) (funext fun i => e 4 i rfl) (funext fun i => e 5 i rfl)]
  exact p
theorem ShW.sh {κ h h' : Hp} {n : Int} (hn : n ≤ 12) (e : ∀ k i, (56 ≤ k ∧ k ≤ 68 ∨ 71 ≤ k ∧ k ≤ 83) → h' k i = h k i) (p : ShW κ h n) : ShW κ h' n := fun k hk => (p k hk).eq (funext fun i => e _ i (by omega)) (funext fun i => e _ i (by omega))
theorem PicCW_un {h h' : Hp} (h12 : h 41 0 ≤ 12) (e : ∀ k i, pck k i = true → h' k i = h k i) (p : PicCW h) : PicCW h' := by
  obtain ⟨p1, p2⟩ := p
  refine ⟨by rw [e 54 7 rfl, e 41 0 rfl]; exact p1, ?_⟩
  rw [e 54 7 rfl, ShW.key (κ := h) (h := h') (e 33 0 rfl) (e 33 1 rfl) (e 33 2 rfl) (funext fun i => e 34 i rfl) (funext fun i => e 35 i rfl) (funext fun i => e 42 i rfl) (funext fun i => e 43 i rfl) (funext fun i => e 44 i rfl)]
  exact p2.sh (by omega) (fun k i hk => e k i (pck_S (by omega) (by omega)))
theorem PicRW_ch {h h' : Hp} (c : ChR h h') (p : PicRW h) : PicRW h' := by
  rcases c with z | z
  · exact fun q => absurd z q
  · exact PicRW_un z p
theorem PicCW_ch {h h' : Hp} (hC : KC h) (hC' : KC h') (c : ChC h h') (p : PicCW h) : PicCW h' := by
  rcases c with z | z
  · exact ⟨by rw [z]; have := (KCm hC').1; omega, fun k hk => by rw [z] at hk; omega⟩
  · exact PicCW_un (KCm hC).2 z p
theorem IPW_st (h h' : Hp) (e : ∀ k i, dpn k i = true → h' k i = h k i) (p : IPW h) : IPW h' := by
  obtain ⟨⟨p1, p2⟩, ⟨p3, p4⟩, ⟨p5, p6⟩, p7, p8, p9, pw, ph, pp, ps⟩ := p
  have e0 := fun i (hi : dpn 0 i = true) => e 0 i hi
  have e42 : h' 42 = h 42 := kfun e (fun _ => rfl)
  have e43 : h' 43 = h 43 := kfun e (fun _ => rfl)
  have e44 : h' 44 = h 44 := kfun e (fun _ => rfl)
  refine ⟨⟨PicRW_un (fun k i hk => e k i (prk_dp hk)) p1, PicCW_un p9 (fun k i hk => e k i (pck_dp hk)) p2⟩, ⟨?_, ?_⟩, ⟨?_, ?_⟩, ?_, ?_, ?_, ?_, ?_, ?_, ?_⟩
  · rw [kfun e (k := 1) (fun _ => rfl)]; exact p3
  · rw [kfun e (k := 34) (fun _ => rfl)]; exact p4
  · rw [kfun e (k := 3) (fun _ => rfl), e 0 14 rfl]; exact p5
  · unfold LC at p6 ⊢; rw [e42, e 41 0 rfl]; exact p6
  · exact p7.key (e 41 0 rfl).symm e42.symm e43.symm e44.symm
  · rw [e 0 14 rfl]; exact p8
  · rw [e 41 0 rfl]; exact p9
  · rw [e 0 11 rfl]; exact pw
  · rw [e 0 12 rfl]; exact ph
  · rw [e 0 13 rfl]; exact pp
  · rw [kfun e (k := 3) (fun _ => rfl), kfun e (k := 4) (fun _ => rfl), kfun e (k := 5) (fun _ => rfl), e 0 14 rfl]; exact ps
def bW : Bd := (false, ⟨IPW, IPW_st⟩)
theorem lvW : LeavesW bW := leavesW_of (b := bW) (fun g h f q p => by
  obtain ⟨⟨p1, p2⟩, ⟨p3, p4⟩, ⟨p5, p6⟩, p7, p8, p9, pw, ph, pp, ps⟩ := p
  have e : ∀ k i, dpn k i = true → k ≠ 17 → (k = 0 → i ≠ 23) → h k i = g k i := f
  have c : ∀ k, (∀ i, dpn k i = true) → k ≠ 17 → k ≠ 0 → h k = g k := fun k h1 h2 h3 => funext fun i => e k i (h1 i) h2 (fun z => absurd z h3)
  have e42 := c 42 (fun _ => rfl) (by decide) (by decide)
  have e43 := c 43 (fun _ => rfl) (by decide) (by decide)
  have e44 := c 44 (fun _ => rfl) (by decide) (by decide)
  have e410 := e 41 0 rfl (by decide) (fun z => absurd z (by decide))
  have e014 := e 0 14 rfl (by decide) (fun _ => by decide)
  refine ⟨⟨q, PicCW_un p9 (fun k i hk => e k i (pck_dp hk) ?_ ?_) p2⟩, ⟨?_, ?_⟩, ⟨?_, ?_⟩, ?_, ?_, ?_, ?_, ?_, ?_, ?_⟩
  · intro z; subst z; exact absurd (show pck 17 i = false by simp [pck] <;> decide) (by rw [hk]; simp)
  · intro z; subst z; exact absurd (show pck 0 i = false by simp [pck] <;> decide) (by rw [hk]; simp)
  · rw [c 1 (fun _ => rfl) (by decide) (by decide)]; exact p3
  · rw [c 34 (fun _ => rfl) (by decide) (by decide)]; exact p4
  · rw [c 3 (fun _ => rfl) (by decide) (by decide), e014]; exact p5
  · unfold LC at p6 ⊢; rw [e42, e410]; exact p6
  · exact p7.key e410.symm e42.symm e43.symm e44.symm
  · rw [e014]; exact p8
  · rw [e410]; exact p9
  · rw [e 0 11 rfl (by decide) (fun _ => by decide)]; exact pw
  · rw [e 0 12 rfl (by decide) (fun _ => by decide)]; exact ph
  · rw [e 0 13 rfl (by decide) (fun _ => by decide)]; exact pp
  · rw [c 3 (fun _ => rfl) (by decide) (by decide), c 4 (fun _ => rfl) (by decide) (by decide), c 5 (fun _ => rfl) (by decide) (by decide), e014]; exact ps) (fun h (p : IPW h) => ⟨p.1.1, p.2.1.1, p.2.2.1.1, p.2.2.2.2.2.2.2.2.2⟩)
theorem shW_ : SheetW bW := sheetW_of (b := bW) (fun g h f q p => by
  obtain ⟨⟨p1, p2⟩, ⟨p3, p4⟩, ⟨p5, p6⟩, p7, p8, p9, pw, ph, pp, ps⟩ := p
  have e : ∀ k i, dpn k i = true → (k < 56 ∨ 85 < k) → (k = 54 → i ≠ 7) → h k i = g k i := f
  have c : ∀ k, (∀ i, dpn k i = true) → k < 54 → h k = g k := fun k h1 h2 => funext fun i => e k i (h1 i) (by omega) (fun z => absurd z (by omega))
  have e42 := c 42 (fun _ => rfl) (by decide)
  have e43 := c 43 (fun _ => rfl) (by decide)
  have e44 := c 44 (fun _ => rfl) (by decide)
  have e410 := e 41 0 rfl (by decide) (fun z => absurd z (by decide))
  have e014 := e 0 14 rfl (by decide) (fun z => absurd z (by decide))
  refine ⟨⟨PicRW_un (fun k i hk => ?_) p1, q⟩, ⟨?_, ?_⟩, ⟨?_, ?_⟩, ?_, ?_, ?_, ?_, ?_, ?_, ?_⟩
  · have z := prk_lo hk
    exact e k i (prk_dp hk) (by omega) (fun w => by omega)
  · rw [c 1 (fun _ => rfl) (by decide)]; exact p3
  · rw [c 34 (fun _ => rfl) (by decide)]; exact p4
  · rw [c 3 (fun _ => rfl) (by decide), e014]; exact p5
  · unfold LC at p6 ⊢; rw [e42, e410]; exact p6
  · exact p7.key e410.symm e42.symm e43.symm e44.symm
  · rw [e014]; exact p8
  · rw [e410]; exact p9
  · rw [e 0 11 rfl (by decide) (fun z => absurd z (by decide))]; exact pw
  · rw [e 0 12 rfl (by decide) (fun z => absurd z (by decide))]; exact ph
  · rw [e 0 13 rfl (by decide) (fun z => absurd z (by decide))]; exact pp
  · rw [c 3 (fun _ => rfl) (by decide), c 4 (fun _ => rfl) (by decide), c 5 (fun _ => rfl) (by decide), e014]; exact ps) (fun h (p : IPW h) => ⟨p.1.2, p.2.1.2, p.2.2.1.2, p.2.2.2.1⟩)
theorem IPW.mv {h h' : Hp} (p : IPW h) (hR : PicRW h') (hC : PicCW h') (e : ∀ k i, key k i = true → h' k i = h k i) : IPW h' := by
  obtain ⟨-, ⟨p3, p4⟩, ⟨p5, p6⟩, p7, p8, p9, pw, ph, pp, ps⟩ := p
  have c : ∀ k, (∀ i, key k i = true) → h' k = h k := fun k h1 => funext fun i => e k i (h1 i)
  have e42 := c 42 (fun _ => rfl)
  have e43 := c 43 (fun _ => rfl)
  have e44 := c 44 (fun _ => rfl)
  refine ⟨⟨hR, hC⟩, ⟨?_, ?_⟩, ⟨?_, ?_⟩, ?_, ?_, ?_, ?_, ?_, ?_, ?_⟩
  · rw [c 1 (fun _ => rfl)]; exact p3
  · rw [c 34 (fun _ => rfl)]; exact p4
  · rw [c 3 (fun _ => rfl), e 0 14 rfl]; exact p5
  · unfold LC at p6 ⊢; rw [e42, e 41 0 rfl]; exact p6
  · exact p7.key (e 41 0 rfl).symm e42.symm e43.symm e44.symm
  · rw [e 0 14 rfl]; exact p8
  · rw [e 41 0 rfl]; exact p9
  · rw [e 0 11 rfl]; exact pw
  · rw [e 0 12 rfl]; exact ph
  · rw [e 0 13 rfl]; exact pp
  · rw [c 3 (fun _ => rfl), c 4 (fun _ => rfl), c 5 (fun _ => rfl), e 0 14 rfl]; exact ps
theorem ok17W : Ok17 bW 13 := fun h i v hi p => by
  refine IPW.mv p (fun q => ?_) (PicCW_un p.2.2.2.2.2.1 (fun k j hk => zwr_ne (Or.inl (fun z => by subst z; exact absurd (show pck 17 j = false by simp [pck] <;> decide) (by rw [hk]; simp)))) p.1.2) (fun k j hk => zwr_ne (Or.inl (fun z => by subst z; exact absurd (show key 17 j = false by simp [key]; decide) (by rw [hk]; simp))))
  have e0 : ∀ j, zwr h 17 i v 0 j = h 0 j := fun j => zwr_ne (Or.inl (by decide))
  have q' : h 0 23 ≠ 0 := by rw [← e0 23]; exact q
  have p8 : h 0 14 ≤ 12 := p.2.2.2.2.1
  have ek : RwW (zwr h 17 i v) (zwr h 17 i v 17) (h 0 14) ↔ RwW h (zwr h 17 i v 17) (h 0 14) := RwW.key (e0 11) (e0 12) (e0 13) (zfun (by decide)) (zfun (by decide)) (zfun (by decide)) (zfun (by decide)) (zfun (by decide))
  rw [e0]
  refine ek.mpr (fun k hk => ?_)
  have w := p.1.1 q' k hk
  have wW : h 0 11 ≤ 16 ∧ h 0 12 ≤ 16 ∧ 0 ≤ h 0 13 := ⟨p.2.2.2.2.2.2.1, p.2.2.2.2.2.2.2.1, p.2.2.2.2.2.2.2.2.1⟩
  exact w.oth (k := (i : Int) / 768) (by omega) (by omega) (by omega) wW.1 wW.2.1 wW.2.2 (fun j hj => zwr_ne (Or.inr (by omega)))
theorem okLW {c : Nat} (hc : c = 69 ∨ c = 70 ∨ c = 84 ∨ c = 85) : OkL bW c := fun h h' e p => by
  have ek : ∀ k i, key k i = true → h' k i = h k i := fun k i hk => e k i (fun z => by
    subst z
    have f : key k i = false := by rcases hc with rfl | rfl | rfl | rfl <;> (simp [key]; decide)
    rw [hk] at f
    cases f)
  refine IPW.mv p (PicRW_un (fun k i hk => e k i (by have := prk_lo hk; omega)) p.1.1) ?_ ek
  obtain ⟨p1, p2⟩ := p.1.2
  have m12 : h 41 0 ≤ 12 := p.2.2.2.2.2.1
  refine ⟨by rw [e 54 7 (by omega), e 41 0 (by omega)]; exact p1, ?_⟩
  have f : ∀ k, k < 56 → h' k = h k := fun k hk => funext fun i => e k i (by omega)
  rw [e 54 7 (by omega), ShW.key (κ := h) (h := h') (e 33 0 (by omega)) (e 33 1 (by omega)) (e 33 2 (by omega)) (f 34 (by decide)) (f 35 (by decide)) (f 42 (by decide)) (f 43 (by decide)) (f 44 (by decide))]
  exact p2.sh (by omega) (fun k i hk => e k i (by omega))
theorem okTW : OkT bW := ⟨⟨okLW (by decide), okLW (by decide)⟩, okLW (by decide), okLW (by decide)⟩
