/-! faults are not above 0; letters of what was read -/
theorem sq_le {a b : Int} (ha : a ≤ 0) (hb : b ≤ 0) : sq a b ≤ 0 := by
  have z := sqc a b
  omega
theorem nxFn {g : Int → Int} {p b : Int} (hp : 0 ≤ p) : nxF g p b ≤ 0 := sq_le (sFn hp) (nFn (by omega))
theorem n2Fn {g : Int → Int} {p a b l : Int} (hp : 0 ≤ p) : n2F g p a b l ≤ 0 := sq_le (nFn hp) (nxFn (by have := nDp g p; omega))
theorem n2En {g : Int → Int} {p : Int} (hp : 0 ≤ p) : 0 ≤ n2E g p := by
  unfold n2E nxE
  have a := nDp g p
  have b := nDp g (p + nD g p + 1)
  omega
theorem n3Fn {g : Int → Int} {p a b l : Int} (hp : 0 ≤ p) : n3F g p a b l ≤ 0 := sq_le (n2Fn hp) (nxFn (n2En hp))
theorem n3En {g : Int → Int} {p : Int} (hp : 0 ≤ p) : 0 ≤ n3E g p := by
  unfold n3E nxE
  have a := n2En (g := g) hp
  have b := nDp g (n2E g p + 1)
  omega
theorem pqFn {g : Int → Int} {p a b : Int} (hp : 0 ≤ p) : pqF g p a b ≤ 0 := by
  have z := nDp g p
  exact sq_le (sq_le (nFn hp) (sFn (by omega))) (nFn (by omega))
theorem pqEn {g : Int → Int} {p : Int} (hp : 0 ≤ p) : 0 ≤ pqE g p := by
  unfold pqE
  have a := nDp g p
  have b := nDp g (p + nD g p + 1)
  omega
theorem ptFn {g : Int → Int} {p x : Int} (hp : 0 ≤ p) : ptF g p x ≤ 0 := by
  unfold ptF
  by_cases c : x = -1
  · rw [if_pos c]; exact pqFn hp
  · rw [if_neg c]; exact sq_le (sFn hp) (pqFn (by omega))
theorem ptEn {g : Int → Int} {p x : Int} (hp : 0 ≤ p) : 0 ≤ ptE g p x := by
  unfold ptE
  by_cases c : x = -1
  · rw [if_pos c]; exact pqEn hp
  · rw [if_neg c]; exact pqEn (by omega)
theorem cuFn {g : Int → Int} : ∀ (k : Nat) (p x : Int), 0 ≤ p → cuF g k p x ≤ 0
  | 0, _, _, _ => Int.le_refl 0
  | k + 1, p, x, hp => by
    have e : cuF g (k + 1) p x = if ptF g p x = 0 then (if ptX g p x = 255 then 0 else cuF g k (ptE g p x) (ptX g p x)) else ptF g p x := rfl
    rw [e]
    by_cases c : ptF g p x = 0
    · rw [if_pos c]
      by_cases d : ptX g p x = 255
      · rw [if_pos d]; exact Int.le_refl 0
      · rw [if_neg d]; exact cuFn k _ _ (ptEn hp)
    · rw [if_neg c]; exact ptFn hp
theorem cuEn {g : Int → Int} : ∀ (k : Nat) (p x : Int), 0 ≤ p → 0 ≤ cuE g k p x
  | 0, _, _, hp => hp
  | k + 1, p, x, hp => by
    have e : cuE g (k + 1) p x = if ptX g p x = 255 then ptE g p x else cuE g k (ptE g p x) (ptX g p x) := rfl
    rw [e]
    by_cases d : ptX g p x = 255
    · rw [if_pos d]; exact ptEn hp
    · rw [if_neg d]; exact cuEn k _ _ (ptEn hp)
theorem nbFn {g : Int → Int} {c p : Int} (hp : 0 ≤ p) : nbF g c p ≤ 0 := by
  unfold nbF
  repeat' split
  all_goals first | exact nFn hp | exact n2Fn hp | exact n3Fn hp | exact cuFn _ _ _ hp
theorem nbEn {g : Int → Int} {c p : Int} (hp : 0 ≤ p) : 0 ≤ nbE g c p := by
  unfold nbE
  have a := nDp g p
  repeat' split
  all_goals first | omega | exact n2En hp | exact n3En hp | exact cuEn _ _ _ hp
theorem sgFn {g : Int → Int} {p m f : Int} (hp : 0 ≤ p) : sgF g p m f ≤ 0 := sq_le (sq_le (lFn hp) (sFn (by omega))) (nbFn (by omega))
theorem sgEn {g : Int → Int} {p : Int} (hp : 0 ≤ p) : 0 ≤ sgE g p := nbEn (by omega)
theorem noF_s {L : Nat → Int} {m : Nat} : noF L (m + 1) ↔ (noF L m ∧ L m ≠ 102) := by
  constructor
  · exact fun h => ⟨h.le (by omega), h m (by omega)⟩
  · rintro ⟨a, b⟩ j hj
    by_cases e : j = m
    · rw [e]; exact b
    · exact a j (by omega)
theorem EaOK_s {L : Nat → Int} {m : Nat} (h : EaOK L m) (hm : noF L m ↔ (L m = 98 ∨ L m = 111 ∨ L m = 100 ∨ L m = 108 ∨ L m = 102)) : EaOK L ((m : Int) + 1) := fun k hk => by
  by_cases e : k = m
  · rw [e]; exact hm
  · exact h k (by omega)
theorem EaOK_0 {L : Nat → Int} : EaOK L 0 := fun k hk => absurd hk (by omega)
theorem al_ea {g : Int → Int} {n : Int} : ∀ (K m : Nat) (f r : Int), (f = 0 ↔ noF (fun k => g (qP g k)) m) → 0 ≤ f → 0 ≤ qP g m → EaOK (fun k => g (qP g k)) m → alF g n K (qP g m) m f = r → 0 ≤ r → EaOK (fun k => g (qP g k)) r
  | 0, m, f, r, _, _, _, _, e, _ => by
    have e0 : (0 : Int) = r := e
    rw [← e0]; exact EaOK_0
  | K + 1, m, f, r, hf, hf0, hq, hE, e, hr => by
    have e1 : alF g n (K + 1) (qP g m) m f = if sgF g (qP g m) m f = 0 then (if sgE g (qP g m) < n then (if sF g (sgE g (qP g m)) 59 = 0 then alF g n K (sgE g (qP g m) + 1) ((m : Int) + 1) (nxf g (qP g m) m f) else sF g (sgE g (qP g m)) 59) else (m : Int) + 1) else sgF g (qP g m) m f := rfl
    rw [e1] at e
    by_cases c : sgF g (qP g m) m f = 0
    · rw [if_pos c] at e
      have l0 : lF g (qP g m) m f = 0 := sq_0l (sq_0l c)
      have lc := lFc g (qP g m) m f
      have ke := kd_e (g (qP g m))
      have hm : noF (fun k => g (qP g k)) m ↔ (g (qP g m) = 98 ∨ g (qP g m) = 111 ∨ g (qP g m) = 100 ∨ g (qP g m) = 108 ∨ g (qP g m) = 102) := by
        rw [← hf]
        constructor
        · intro z
          have w := ke.mp (by omega)
          omega
        · intro z
          have w := ke.mpr (by omega)
          omega
      have hE2 := EaOK_s hE hm
      by_cases d : sgE g (qP g m) < n
      · rw [if_pos d] at e
        by_cases s : sF g (sgE g (qP g m)) 59 = 0
        · rw [if_pos s] at e
          have nx := nxfc g (qP g m) m f
          refine al_ea K (m + 1) (nxf g (qP g m) m f) r ?_ (by omega) ?_ hE2 e hr
          · rw [noF_s, ← hf]
            show _ ↔ (f = 0 ∧ g (qP g m) ≠ 102)
            omega
          · show 0 ≤ sgE g (qP g m) + 1
            have := sgEn (g := g) hq
            omega
        · rw [if_neg s] at e
          have := sFn (g := g) (p := sgE g (qP g m)) (c := 59) (sgEn hq)
          omega
      · rw [if_neg d] at e
        rw [← e]; exact hE2
    · rw [if_neg c] at e
      have := sgFn (g := g) (p := qP g m) (m := m) (f := f) hq
      omega
theorem rd_ea {g : Int → Int} {n r : Int} (h : rdF g n = r) (hr : 0 ≤ r) : EaOK (fun k => g (qP g k)) r := by
  unfold rdF at h
  by_cases c : n = 0
  · rw [if_pos c] at h
    rw [← h]; exact EaOK_0
  · rw [if_neg c] at h
    exact al_ea 200 0 0 r ⟨fun _ j hj => absurd hj (by omega), fun _ => rfl⟩ (Int.le_refl 0) (Int.le_refl 0) EaOK_0 h hr
theorem EaOK.cong {L L' : Nat → Int} {n : Int} (h : EaOK L n) (e : ∀ k : Nat, (k : Int) < n → L' k = L k) : EaOK L' n := fun k hk => by
  have a : noF L' k ↔ noF L k := by
    constructor
    · exact fun z j hj => by rw [← e j (by omega)]; exact z j hj
    · exact fun z j hj => by rw [e j (by omega)]; exact z j hj
  rw [a, e k hk]
  exact h k hk
theorem RW.ea {g : Int → Int} {n r : Int} {A B C : Nat → Int} (a : RW g r A B C) (h : rdF g n = r) (hr : 0 ≤ r) : EaOK A r := (rd_ea h hr).cong a.1
/-- the class's text of stages is in order -/
theorem RecC_of {h : Hp} (hR : KR h) (hC : KC h) (t : TR (h 0 14) (LC h) (AC h) (h 44) (h 3) (h 4) (h 5)) (e : h 41 0 = h 0 14) : RecC h := by
  intro k hk
  have m := KRm hR
  obtain ⟨r1, r2, r3, r4, -, -⟩ := KRr hR (k + 1) (by omega) (by omega)
  rw [show k + 1 - 1 = k by omega] at r1 r3 r4
  have u := (KRr hR).up (h 0 14).toNat (k + 1) (by omega) (by omega)
  have eA := t.2.1 k (by omega)
  have eA2 := t.2.1 (k + 1) (by omega)
  have eL := t.1 k (by omega)
  have eN := t.2.2 (h 4 k).toNat (by omega)
  have b := KCst hC (k + 2)
  have nb := KRnu hR (h 4 k).toNat
  rw [eA, eA2, eL, eN]
  have b2 : AC h (k + 1) ≤ 64 := b.2
  rw [eA2] at b2
  exact ⟨r1, b2, nb, r4⟩
theorem EF_eq {h : Hp} (hR : KR h) (eW : h 33 0 = h 0 11) (eH : h 33 1 = h 0 12) (hv : ∀ j : Nat, j < 256 → h 34 j = h 1 j) (hd : ∀ j : Nat, j < 256 → h 35 j = h 10 j) (t : TR (h 0 14) (LC h) (AC h) (h 44) (h 3) (h 4) (h 5)) : ∀ k : Nat, (k : Int) ≤ h 0 14 → ∀ x y : Int, inP (h 0 11) (h 0 12) x y → EFc h k x y = EF h k x y
  | 0, _, x, y, hp => by
    obtain ⟨a, b, c, d⟩ := hp
    have w := KRw hR
    have v := KRh hR
    show 16 * h 34 (16 * y + x).toNat = 16 * h 1 (16 * y + x).toNat
    rw [hv _ (by omega)]
  | k + 1, hk, x, y, hp => by
    have w := KRw hR
    have v := KRh hR
    obtain ⟨r1, r2, r3, r4, -, -⟩ := KRr hR (k + 1) (by omega) (by omega)
    rw [show k + 1 - 1 = k by omega] at r1 r3 r4
    have u := (KRr hR).up (h 0 14).toNat (k + 1) (by omega) (by omega)
    have eA := t.2.1 k (by omega)
    have eL := t.1 k (by omega)
    have eN := t.2.2 (h 4 k).toNat (by omega)
    show stg (h 33 0) (h 33 1) (h 35) (LC h k) (h 44 (AC h k).toNat) (EFc h k) x y = stg (h 0 11) (h 0 12) (h 10) (h 3 k) (h 5 (h 4 k).toNat) (EF h k) x y
    rw [eA, eL, eN, eW, eH]
    refine stg_cong w.1 v.1 (fun q => by have := r4 q; omega) (fun x y hp => EF_eq hR eW eH hv hd t k (by omega) x y hp) (fun x y hp => ?_) hp
    obtain ⟨a, b, c, d⟩ := hp
    exact hd _ (by omega)
/-- the law's invariant of pictures -/
def IP (h : Hp) : Prop := (PicR h ∧ PicC h) ∧ (VOK (h 1) ∧ VOK (h 34)) ∧ (EaOK (h 3) (h 0 14) ∧ EaOK (LC h) (h 41 0)) ∧ RecC h ∧ h 0 14 ≤ 12 ∧ h 41 0 ≤ 12 ∧ h 0 11 ≤ 16 ∧ h 0 12 ≤ 16 ∧ 0 ≤ h 0 13
theorem kfun {h h' : Hp} {k : Nat} (e : ∀ k i, dpn k i = true → h' k i = h k i) (hk : ∀ i, dpn k i = true) : h' k = h k := funext fun i => e k i (hk i)
theorem PicR_un {h h' : Hp} (e : ∀ k i, prk k i = true → h' k i = h k i) (p : PicR h) : PicR h' := by
  unfold PicR at p ⊢
  rw [e 0 23 rfl, e 0 14 rfl, show h' 17 = h 17 from funext fun i => e 17 i rfl,
    Rws.key (κ := h) (h := h') (e 0 11 rfl) (e 0 12 rfl) (e 0 13 rfl) (funext fun i => e 1 i rfl) (funext fun i => e 10 i rfl) (funext fun i => e 3 i rfl) (funext fun i => e 4 i rfl) (funext fun i => e 5 i rfl)]
  exact p
theorem pck_S {k i : Nat} (h1 : 56 ≤ k) (h2 : k ≤ 85) : pck k i = true := by
  unfold pck
  rw [Nat.ble_eq_true_of_le h1, Nat.ble_eq_true_of_le h2]
  simp
theorem ShsC.sh {κ h h' : Hp} {n : Int} (hn : n ≤ 12) (e : ∀ k i, (56 ≤ k ∧ k ≤ 68 ∨ 71 ≤ k ∧ k ≤ 83) → h' k i = h k i) (p : ShsC κ h n) : ShsC κ h' n := fun k hk hk2 => by
  rw [show h' (71 + k) = h (71 + k) from funext fun i => e _ i (by omega), e _ _ (by omega)]
  exact p k hk hk2
theorem PicC_un {h h' : Hp} (h12 : h 41 0 ≤ 12) (e : ∀ k i, pck k i = true → h' k i = h k i) (p : PicC h) : PicC h' := by
  obtain ⟨p1, p2⟩ := p
  refine ⟨by rw [e 54 7 rfl, e 41 0 rfl]; exact p1, ?_⟩
  rw [e 54 7 rfl, ShsC.key (κ := h) (h := h') (e 33 0 rfl) (e 33 1 rfl) (funext fun i => e 34 i rfl) (funext fun i => e 35 i rfl) (funext fun i => e 42 i rfl) (funext fun i => e 43 i rfl) (funext fun i => e 44 i rfl)]
  exact p2.sh (by omega) (fun k i hk => e k i (pck_S (by omega) (by omega)))
theorem PicR_ch {h h' : Hp} (c : ChR h h') (p : PicR h) : PicR h' := by
  rcases c with z | z
  · exact fun q => absurd z q
  · exact PicR_un z p
theorem PicC_ch {h h' : Hp} (hC : KC h) (hC' : KC h') (c : ChC h h') (p : PicC h) : PicC h' := by
  rcases c with z | z
  · exact ⟨by rw [z]; have := (KCm hC').1; omega, fun k hk _ => by rw [z] at hk; omega⟩
  · exact PicC_un (KCm hC).2 z p
theorem IP_st (h h' : Hp) (e : ∀ k i, dpn k i = true → h' k i = h k i) (p : IP h) : IP h' := by
  obtain ⟨⟨p1, p2⟩, ⟨p3, p4⟩, ⟨p5, p6⟩, p7, p8, p9, pw, ph, pp⟩ := p
  have e0 := fun i (hi : dpn 0 i = true) => e 0 i hi
  have e42 : h' 42 = h 42 := kfun e (fun _ => rfl)
  have e43 : h' 43 = h 43 := kfun e (fun _ => rfl)
  have e44 : h' 44 = h 44 := kfun e (fun _ => rfl)
  refine ⟨⟨PicR_un (fun k i hk => e k i (prk_dp hk)) p1, PicC_un p9 (fun k i hk => e k i (pck_dp hk)) p2⟩, ⟨?_, ?_⟩, ⟨?_, ?_⟩, ?_, ?_, ?_, ?_, ?_, ?_⟩
  · rw [kfun e (k := 1) (fun _ => rfl)]; exact p3
  · rw [kfun e (k := 34) (fun _ => rfl)]; exact p4
  · rw [kfun e (k := 3) (fun _ => rfl), e 0 14 rfl]; exact p5
  · unfold LC at p6 ⊢; rw [e42, e 41 0 rfl]; exact p6
  · unfold RecC AC LC at p7 ⊢; rw [e42, e43, e44, e 41 0 rfl]; exact p7
  · rw [e 0 14 rfl]; exact p8
  · rw [e 41 0 rfl]; exact p9
  · rw [e 0 11 rfl]; exact pw
  · rw [e 0 12 rfl]; exact ph
  · rw [e 0 13 rfl]; exact pp
def bL : Bd := (false, ⟨IP, IP_st⟩)
theorem lvL : LeavesZ bL := leavesZ_of (b := bL) (fun g h f q p => by
  obtain ⟨⟨p1, p2⟩, ⟨p3, p4⟩, ⟨p5, p6⟩, p7, p8, p9, pw, ph, pp⟩ := p
  have e : ∀ k i, dpn k i = true → k ≠ 17 → (k = 0 → i ≠ 23) → h k i = g k i := f
  have c : ∀ k, (∀ i, dpn k i = true) → k ≠ 17 → k ≠ 0 → h k = g k := fun k h1 h2 h3 => funext fun i => e k i (h1 i) h2 (fun z => absurd z h3)
  have e42 := c 42 (fun _ => rfl) (by decide) (by decide)
  have e43 := c 43 (fun _ => rfl) (by decide) (by decide)
  have e44 := c 44 (fun _ => rfl) (by decide) (by decide)
  have e410 := e 41 0 rfl (by decide) (fun z => absurd z (by decide))
  have e014 := e 0 14 rfl (by decide) (fun _ => by decide)
  refine ⟨⟨q, PicC_un p9 (fun k i hk => e k i (pck_dp hk) ?_ ?_) p2⟩, ⟨?_, ?_⟩, ⟨?_, ?_⟩, ?_, ?_, ?_, ?_, ?_, ?_⟩
  · intro z; subst z; exact absurd (show pck 17 i = false by simp [pck] <;> decide) (by rw [hk]; simp)
  · intro z; subst z; exact absurd (show pck 0 i = false by simp [pck] <;> decide) (by rw [hk]; simp)
  · rw [c 1 (fun _ => rfl) (by decide) (by decide)]; exact p3
  · rw [c 34 (fun _ => rfl) (by decide) (by decide)]; exact p4
  · rw [c 3 (fun _ => rfl) (by decide) (by decide), e014]; exact p5
  · unfold LC at p6 ⊢; rw [e42, e410]; exact p6
  · unfold RecC AC LC at p7 ⊢; rw [e42, e43, e44, e410]; exact p7
  · rw [e014]; exact p8
  · rw [e410]; exact p9
  · rw [e 0 11 rfl (by decide) (fun _ => by decide)]; exact pw
  · rw [e 0 12 rfl (by decide) (fun _ => by decide)]; exact ph
  · rw [e 0 13 rfl (by decide) (fun _ => by decide)]; exact pp) (fun h (p : IP h) => ⟨p.1.1, p.2.1.1, p.2.2.1.1⟩)
theorem prk_lo {k i : Nat} (h : prk k i = true) : k ≤ 17 := by
  unfold prk at h
  simp only [Bool.or_eq_true, Bool.and_eq_true, beq_iff_eq] at h
  omega
theorem shL : SheetZ bL := sheetZ_of (b := bL) (fun g h f q p => by
  obtain ⟨⟨p1, p2⟩, ⟨p3, p4⟩, ⟨p5, p6⟩, p7, p8, p9, pw, ph, pp⟩ := p
  have e : ∀ k i, dpn k i = true → (k < 56 ∨ 85 < k) → (k = 54 → i ≠ 7) → h k i = g k i := f
  have c : ∀ k, (∀ i, dpn k i = true) → k < 54 → h k = g k := fun k h1 h2 => funext fun i => e k i (h1 i) (by omega) (fun z => absurd z (by omega))
  have e42 := c 42 (fun _ => rfl) (by decide)
  have e43 := c 43 (fun _ => rfl) (by decide)
  have e44 := c 44 (fun _ => rfl) (by decide)
  have e410 := e 41 0 rfl (by decide) (fun z => absurd z (by decide))
  have e014 := e 0 14 rfl (by decide) (fun z => absurd z (by decide))
  refine ⟨⟨PicR_un (fun k i hk => ?_) p1, q⟩, ⟨?_, ?_⟩, ⟨?_, ?_⟩, ?_, ?_, ?_, ?_, ?_, ?_⟩
  · have z := prk_lo hk
    exact e k i (prk_dp hk) (by omega) (fun w => by omega)
  · rw [c 1 (fun _ => rfl) (by decide)]; exact p3
  · rw [c 34 (fun _ => rfl) (by decide)]; exact p4
  · rw [c 3 (fun _ => rfl) (by decide), e014]; exact p5
  · unfold LC at p6 ⊢; rw [e42, e410]; exact p6
  · unfold RecC AC LC at p7 ⊢; rw [e42, e43, e44, e410]; exact p7
  · rw [e014]; exact p8
  · rw [e410]; exact p9
  · rw [e 0 11 rfl (by decide) (fun z => absurd z (by decide))]; exact pw
  · rw [e 0 12 rfl (by decide) (fun z => absurd z (by decide))]; exact ph
  · rw [e 0 13 rfl (by decide) (fun z => absurd z (by decide))]; exact pp) (fun h (p : IP h) => ⟨p.1.2, p.2.1.2, p.2.2.1.2, p.2.2.2.1⟩)
theorem IP.mv {h h' : Hp} (p : IP h) (hR : PicR h') (hC : PicC h') (e : ∀ k i, key k i = true → h' k i = h k i) : IP h' := by
  obtain ⟨-, ⟨p3, p4⟩, ⟨p5, p6⟩, p7, p8, p9, pw, ph, pp⟩ := p
  have c : ∀ k, (∀ i, key k i = true) → h' k = h k := fun k h1 => funext fun i => e k i (h1 i)
  have e42 := c 42 (fun _ => rfl)
  have e43 := c 43 (fun _ => rfl)
  have e44 := c 44 (fun _ => rfl)
  refine ⟨⟨hR, hC⟩, ⟨?_, ?_⟩, ⟨?_, ?_⟩, ?_, ?_, ?_, ?_, ?_, ?_⟩
  · rw [c 1 (fun _ => rfl)]; exact p3
  · rw [c 34 (fun _ => rfl)]; exact p4
  · rw [c 3 (fun _ => rfl), e 0 14 rfl]; exact p5
  · unfold LC at p6 ⊢; rw [e42, e 41 0 rfl]; exact p6
  · unfold RecC AC LC at p7 ⊢; rw [e42, e43, e44, e 41 0 rfl]; exact p7
  · rw [e 0 14 rfl]; exact p8
  · rw [e 41 0 rfl]; exact p9
  · rw [e 0 11 rfl]; exact pw
  · rw [e 0 12 rfl]; exact ph
  · rw [e 0 13 rfl]; exact pp
theorem ok17L : Ok17 bL 13 := fun h i v hi p => by
  refine IP.mv p (fun q k hk hk2 x y hp => ?_) (PicC_un p.2.2.2.2.2.1 (fun k j hk => zwr_ne (Or.inl (fun z => by subst z; exact absurd (show pck 17 j = false by simp [pck] <;> decide) (by rw [hk]; simp)))) p.1.2) (fun k j hk => zwr_ne (Or.inl (fun z => by subst z; exact absurd (show key 17 j = false by simp [key]; decide) (by rw [hk]; simp))))
  have e0 : ∀ j, zwr h 17 i v 0 j = h 0 j := fun j => zwr_ne (Or.inl (by decide))
  have q' : h 0 23 ≠ 0 := by rw [← e0 23]; exact q
  have p8 : h 0 14 ≤ 12 := p.2.2.2.2.1
  rw [e0] at hk
  have ek : Rws (zwr h 17 i v) (zwr h 17 i v 17) (h 0 14) ↔ Rws h (zwr h 17 i v 17) (h 0 14) := Rws.key (e0 11) (e0 12) (e0 13) (zfun (by decide)) (zfun (by decide)) (zfun (by decide)) (zfun (by decide)) (zfun (by decide))
  refine ek.mpr (fun k hk hk2 x y hp => ?_) k hk hk2 x y hp
  have w := p.1.1 q' k hk hk2 x y hp
  rw [zwr_ne (Or.inr (fun z => ?_))]
  · exact w
  · have wW : h 0 11 ≤ 16 ∧ h 0 12 ≤ 16 ∧ 0 ≤ h 0 13 := p.2.2.2.2.2.2
    have b := ix_b (k := k) hp (by omega) wW.1 wW.2.1 wW.2.2
    omega
theorem okLL {c : Nat} (hc : c = 69 ∨ c = 70 ∨ c = 84 ∨ c = 85) : OkL bL c := fun h h' e p => by
  have ek : ∀ k i, key k i = true → h' k i = h k i := fun k i hk => e k i (fun z => by
    subst z
    have f : key k i = false := by rcases hc with rfl | rfl | rfl | rfl <;> (simp [key]; decide)
    rw [hk] at f
    cases f)
  refine IP.mv p (PicR_un (fun k i hk => e k i (by have := prk_lo hk; omega)) p.1.1) ?_ ek
  obtain ⟨p1, p2⟩ := p.1.2
  have m12 : h 41 0 ≤ 12 := p.2.2.2.2.2.1
  refine ⟨by rw [e 54 7 (by omega), e 41 0 (by omega)]; exact p1, ?_⟩
  have f : ∀ k, k < 56 → h' k = h k := fun k hk => funext fun i => e k i (by omega)
  rw [e 54 7 (by omega), ShsC.key (κ := h) (h := h') (e 33 0 (by omega)) (e 33 1 (by omega)) (f 34 (by decide)) (f 35 (by decide)) (f 42 (by decide)) (f 43 (by decide)) (f 44 (by decide))]
  exact p2.sh (by omega) (fun k i hk => e k i (by omega))
theorem okTL : OkT bL := ⟨⟨okLL (by decide), okLL (by decide)⟩, okLL (by decide), okLL (by decide)⟩
theorem KC_tr {b : Bd} {κ h : Hp} (hK : KC κ) (hF : Fr b κ h) : KC h := by
  obtain ⟨⟨a1, a2, a3⟩, ⟨b1, b2, b3⟩, ⟨c1, c2, c3⟩, ⟨d1, d2, d3⟩, e1, f1, g1, ⟨k1, k2, k3⟩⟩ := hK
  have e : ∀ k i, key k i = true → h k i = κ k i := hF.1
  refine ⟨⟨?_, ?_, ?_⟩, ⟨?_, ?_, ?_⟩, ⟨?_, ?_, fun j => ?_⟩, ⟨?_, ?_, fun j => ?_⟩, ?_, ?_, ?_, ⟨?_, ?_, fun j => ?_⟩⟩
  · rw [e 33 0 rfl]; exact a1
  · rw [e 33 1 rfl]; exact a2
  · rw [e 33 2 rfl]; exact a3
  · rw [e 36 0 rfl]; exact b1
  · rw [e 36 1 rfl]; exact b2
  · rw [e 36 2 rfl]; exact b3
  · rw [e 41 0 rfl]; exact c1
  · rw [e 41 1 rfl]; exact c2
  · have z : 0 ≤ κ 43 j ∧ κ 43 j ≤ 64 := c3 j
    show 0 ≤ h 43 j ∧ h 43 j ≤ 64
    rw [e 43 j rfl]; exact z
  · rw [e 45 0 rfl]; exact d1
  · rw [e 45 1 rfl]; exact d2
  · have z : 0 ≤ κ 47 j ∧ κ 47 j ≤ 64 := d3 j
    show 0 ≤ h 47 j ∧ h 47 j ≤ 64
    rw [e 47 j rfl]; exact z
  · rw [e 31 1 rfl]; exact e1
  · rw [e 30 12 rfl]; exact f1
  · rw [e 30 10 rfl]; exact g1
  · rw [e 49 0 rfl]; exact k1
  · rw [e 49 1 rfl]; exact k2
  · have z : 0 ≤ κ 51 j ∧ κ 51 j ≤ 64 := k3 j
    show 0 ≤ h 51 j ∧ h 51 j ≤ 64
    rw [e 51 j rfl]; exact z
