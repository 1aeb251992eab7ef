/-! the frame: what queries leave as it was (key), what they may change; calls by how many arguments -/
def key (k i : Nat) : Bool := (k == 0 && !(i == 23) && !(Nat.ble 44 i && Nat.ble i 47) && !(i == 53)) || (Nat.ble 1 k && Nat.ble k 16) || (Nat.ble 30 k && Nat.ble k 53)
def ckey (k : Nat) : Bool := (Nat.ble 1 k && Nat.ble k 16) || (Nat.ble 30 k && Nat.ble k 53)
theorem key_of {k : Nat} (h : ckey k = true) (i : Nat) : key k i = true := by
  unfold ckey at h
  unfold key
  rw [Bool.or_assoc, h, Bool.or_true]
/-- places of which an invariant of pictures may speak -/
def dpn (k i : Nat) : Bool := key k i || k == 17 || (Nat.ble 56 k && Nat.ble k 85) || (k == 0 && i == 23) || (k == 54 && i == 7)
def Bd : Type := Bool × {I : Hp → Prop // ∀ h h' : Hp, (∀ k i, dpn k i = true → h' k i = h k i) → I h → I h'}
def Bd.g (b : Bd) : Bool := b.1
def Bd.I (b : Bd) : Hp → Prop := b.2.1
theorem Bd.st (b : Bd) : ∀ h h' : Hp, (∀ k i, dpn k i = true → h' k i = h k i) → b.I h → b.I h' := b.2.2
def Bd.to (b : Bd) : Bd := (true, b.2)
def Bd.fo (b : Bd) : Bd := (false, b.2)
def bdB (g : Bool) : Bd := (g, ⟨fun _ => True, fun _ _ _ _ => True.intro⟩)
/-- a scratch cell of which nothing is asked -/
def scr (b : Bd) (k : Nat) : Bool := (Nat.ble 18 k && Nat.ble k 29 && !(b.g && k == 23)) || k == 55 || (Nat.ble 86 k && Nat.ble k 94) || k == 96 || k == 97 || Nat.ble 99 k
/-- a scratch field of which nothing is asked -/
def scf (k i : Nat) : Bool := (k == 0 && (Nat.ble 44 i && Nat.ble i 47)) || (k == 95 && !(i == 0)) || (k == 98 && !(i == 6)) || k == 55 || (Nat.ble 86 k && Nat.ble k 94)
def WF (h : Hp) : Prop := ∀ k i, k ≠ 95 → k ≠ 97 → rng (h k i)
def SI (h : Hp) : Prop := (0 ≤ h 0 53 ∧ h 0 53 ≤ 256) ∧ (-1 ≤ h 54 7 ∧ h 54 7 ≤ 12) ∧ (0 ≤ h 95 0 ∧ h 95 0 ≤ 256) ∧ (0 ≤ h 98 6 ∧ h 98 6 ≤ 256) ∧ WF h
def Fr (b : Bd) (κ h : Hp) : Prop := (∀ k i, key k i = true → h k i = κ k i) ∧ ((b.g = true → ∀ i, h 23 i = κ 23 i) ∧ b.I h) ∧ SI h
theorem zwr_ne {h : Hp} {k i k' i' : Nat} {v : Int} (hne : k' ≠ k ∨ i' ≠ i) : zwr h k i v k' i' = h k' i' := by
  unfold zwr
  by_cases hk : k' = k
  · subst hk
    rw [if_pos rfl, if_neg (hne.resolve_left (fun q => q rfl))]
  · rw [if_neg hk]
theorem zwr_eq {h : Hp} {k i : Nat} {v : Int} : zwr h k i v k i = v := by
  unfold zwr
  rw [if_pos rfl, if_pos rfl]
theorem scr_key {b : Bd} {k i k' i' : Nat} (hs : scr b k = true) (hk : key k' i' = true) : k' ≠ k := by
  intro q
  subst q
  unfold scr at hs
  unfold key at hk
  simp only [Bool.or_eq_true, Bool.and_eq_true, beq_iff_eq, Nat.ble_eq] at hs hk
  omega
theorem WF.wr {h : Hp} {k i : Nat} {v : Int} (hW : WF h) (hv : k ≠ 95 → k ≠ 97 → rng v) : WF (zwr h k i v) := by
  intro k' i' h1 h2
  unfold zwr
  by_cases e1 : k' = k
  · rw [if_pos e1]
    by_cases e2 : i' = i
    · rw [if_pos e2]
      subst e1
      exact hv h1 h2
    · rw [if_neg e2]
      subst e1
      exact hW _ _ h1 h2
  · rw [if_neg e1]
    exact hW _ _ h1 h2
theorem zwr_dp {h : Hp} {k i : Nat} {v : Int} (hd : dpn k i = false) (k' i' : Nat) (hk : dpn k' i' = true) : zwr h k i v k' i' = h k' i' := zwr_ne (by
  by_cases h1 : k' = k
  · refine Or.inr (fun h2 => ?_)
    subst h1
    subst h2
    rw [hk] at hd
    cases hd
  · exact Or.inl h1)
theorem Bd.wr {b : Bd} {h : Hp} {k i : Nat} {v : Int} (hd : dpn k i = false) (hI : b.I h) : b.I (zwr h k i v) := b.st _ _ (fun k' i' hk => zwr_dp hd k' i' hk) hI
theorem scr_dp {b : Bd} {k k' i' : Nat} (hs : scr b k = true) (hk : dpn k' i' = true) : k' ≠ k := by
  intro q
  subst q
  unfold scr at hs
  unfold dpn key at hk
  simp only [Bool.or_eq_true, Bool.and_eq_true, beq_iff_eq, Nat.ble_eq] at hs hk
  omega
theorem Fr.wr {b : Bd} {κ h : Hp} {k i : Nat} {v : Int} (hF : Fr b κ h) (hs : scr b k = true) (hv : k ≠ 95 → k ≠ 97 → rng v) : Fr b κ (zwr h k i v) := by
  have hne : ∀ j, j = 0 ∨ j = 54 ∨ j = 95 ∨ j = 98 → j ≠ k := by
    intro j hj q
    subst q
    unfold scr at hs
    simp only [Bool.or_eq_true, Bool.and_eq_true, beq_iff_eq, Nat.ble_eq] at hs
    omega
  refine ⟨fun k' i' hk => ?_, ⟨fun hb i' => ?_, b.st _ _ (fun k'' i'' hd => zwr_ne (Or.inl (scr_dp hs hd))) hF.2.1.2⟩, ?_⟩
  · rw [zwr_ne (Or.inl (scr_key (i := i) hs hk))]
    exact hF.1 k' i' hk
  · rw [zwr_ne (Or.inl (fun q => by
      subst q
      rw [show scr b 23 = false by unfold scr; rw [hb]; rfl] at hs
      cases hs))]
    exact hF.2.1.1 hb i'
  · unfold SI
    rw [zwr_ne (Or.inl (hne 0 (by omega))), zwr_ne (Or.inl (hne 54 (by omega))), zwr_ne (Or.inl (hne 95 (by omega))), zwr_ne (Or.inl (hne 98 (by omega)))]
    exact ⟨hF.2.2.1, hF.2.2.2.1, hF.2.2.2.2.1, hF.2.2.2.2.2.1, hF.2.2.2.2.2.2.wr hv⟩
theorem scf_key {k i k' i' : Nat} (hs : scf k i = true) (hk : key k' i' = true) : k' ≠ k ∨ i' ≠ i := by
  unfold scf at hs
  unfold key at hk
  simp only [Bool.or_eq_true, Bool.and_eq_true, beq_iff_eq, Nat.ble_eq, Bool.not_eq_true', beq_eq_false_iff_ne, Bool.and_eq_false_iff] at hs hk
  by_cases h1 : k' = k
  · refine Or.inr (fun h2 => ?_)
    subst h1
    subst h2
    have e44 : (Nat.ble 44 i' = false ∨ Nat.ble i' 47 = false) ↔ (i' < 44 ∨ 47 < i') := by
      constructor
      · rintro (q | q)
        · exact Or.inl (Nat.lt_of_not_le (fun z => by rw [Nat.ble_eq_true_of_le z] at q; cases q))
        · exact Or.inr (Nat.lt_of_not_le (fun z => by rw [Nat.ble_eq_true_of_le z] at q; cases q))
      · rintro (q | q)
        · exact Or.inl (by cases z : Nat.ble 44 i' with | false => rfl | true => exact absurd (Nat.le_of_ble_eq_true z) (by omega))
        · exact Or.inr (by cases z : Nat.ble i' 47 with | false => rfl | true => exact absurd (Nat.le_of_ble_eq_true z) (by omega))
    rw [e44] at hk
    omega
  · exact Or.inl h1
theorem scf_dp {k i k' i' : Nat} (hs : scf k i = true) (hk : dpn k' i' = true) : k' ≠ k ∨ i' ≠ i := by
  by_cases hq : key k' i' = true
  · exact scf_key hs hq
  · unfold dpn at hk
    simp only [Bool.or_eq_true, Bool.and_eq_true, beq_iff_eq, Nat.ble_eq] at hk
    unfold scf at hs
    simp only [Bool.or_eq_true, Bool.and_eq_true, beq_iff_eq, Nat.ble_eq] at hs
    by_cases h1 : k' = k
    · refine Or.inr (fun h2 => ?_)
      subst h1
      subst h2
      rcases hk with (((hk | hk) | hk) | hk) | hk
      · exact hq hk
      · omega
      · omega
      · omega
      · omega
    · exact Or.inl h1
theorem Fr.wf {b : Bd} {κ h : Hp} {k i : Nat} {v : Int} (hF : Fr b κ h) (hs : scf k i = true) (hv : k ≠ 95 → k ≠ 97 → rng v) : Fr b κ (zwr h k i v) := by
  have hne : ∀ j l, (j = 0 ∧ l = 53) ∨ (j = 54 ∧ l = 7) ∨ (j = 95 ∧ l = 0) ∨ (j = 98 ∧ l = 6) ∨ j = 23 → j ≠ k ∨ l ≠ i := by
    intro j l hj
    by_cases h1 : j = k
    · refine Or.inr (fun h2 => ?_)
      subst h1
      subst h2
      unfold scf at hs
      simp only [Bool.or_eq_true, Bool.and_eq_true, beq_iff_eq, Nat.ble_eq, Bool.not_eq_true', beq_eq_false_iff_ne] at hs
      omega
    · exact Or.inl h1
  refine ⟨fun k' i' hk => ?_, ⟨fun hb i' => ?_, b.st _ _ (fun k'' i'' hd => zwr_ne (scf_dp hs hd)) hF.2.1.2⟩, ?_⟩
  · rw [zwr_ne (scf_key hs hk)]
    exact hF.1 k' i' hk
  · rw [zwr_ne (hne 23 i' (by omega))]
    exact hF.2.1.1 hb i'
  · unfold SI
    rw [zwr_ne (hne 0 53 (by omega)), zwr_ne (hne 54 7 (by omega)), zwr_ne (hne 95 0 (by omega)), zwr_ne (hne 98 6 (by omega))]
    exact ⟨hF.2.2.1, hF.2.2.2.1, hF.2.2.2.2.1, hF.2.2.2.2.2.1, hF.2.2.2.2.2.2.wr hv⟩
theorem Fr.p53 {b : Bd} {κ h : Hp} {v : Int} (hF : Fr b κ h) (hv : 0 ≤ v ∧ v ≤ 256) : Fr b κ (zwr h 0 53 v) := by
  refine ⟨fun k' i' hk => ?_, ⟨fun hb i' => ?_, Bd.wr rfl hF.2.1.2⟩, ?_⟩
  · rw [zwr_ne (by
      by_cases h1 : k' = 0
      · refine Or.inr (fun h2 => ?_)
        subst h1
        subst h2
        exact absurd hk (by decide)
      · exact Or.inl h1)]
    exact hF.1 k' i' hk
  · rw [zwr_ne (Or.inl (by decide))]
    exact hF.2.1.1 hb i'
  · unfold SI
    rw [zwr_eq, zwr_ne (Or.inl (by decide)), zwr_ne (Or.inl (by decide)), zwr_ne (Or.inl (by decide))]
    exact ⟨hv, hF.2.2.2.1, hF.2.2.2.2.1, hF.2.2.2.2.2.1, hF.2.2.2.2.2.2.wr (fun _ _ => ⟨by omega, by omega⟩)⟩
theorem Fr.p54 {b : Bd} {κ h : Hp} {v : Int} (hF : Fr b κ h) (hv : -1 ≤ v ∧ v ≤ 12) (hI : b.I (zwr h 54 7 v)) : Fr b κ (zwr h 54 7 v) := by
  refine ⟨fun k' i' hk => ?_, ⟨fun hb i' => ?_, hI⟩, ?_⟩
  · rw [zwr_ne (Or.inl (fun q => by
      subst q
      exact absurd (show key 54 i' = false by simp [key]; decide) (by rw [hk]; simp)))]
    exact hF.1 k' i' hk
  · rw [zwr_ne (Or.inl (by decide))]
    exact hF.2.1.1 hb i'
  · unfold SI
    rw [zwr_eq, zwr_ne (Or.inl (by decide)), zwr_ne (Or.inl (by decide)), zwr_ne (Or.inl (by decide))]
    exact ⟨hF.2.2.1, hv, hF.2.2.2.2.1, hF.2.2.2.2.2.1, hF.2.2.2.2.2.2.wr (fun _ _ => ⟨by omega, by omega⟩)⟩
theorem Fr.p95 {b : Bd} {κ h : Hp} {v : Int} (hF : Fr b κ h) (hv : 0 ≤ v ∧ v ≤ 256) : Fr b κ (zwr h 95 0 v) := by
  refine ⟨fun k' i' hk => ?_, ⟨fun hb i' => ?_, Bd.wr rfl hF.2.1.2⟩, ?_⟩
  · rw [zwr_ne (Or.inl (fun q => by
      subst q
      exact absurd (show key 95 i' = false by simp [key]; decide) (by rw [hk]; simp)))]
    exact hF.1 k' i' hk
  · rw [zwr_ne (Or.inl (by decide))]
    exact hF.2.1.1 hb i'
  · unfold SI
    rw [zwr_eq, zwr_ne (Or.inl (by decide)), zwr_ne (Or.inl (by decide)), zwr_ne (Or.inl (by decide))]
    exact ⟨hF.2.2.1, hF.2.2.2.1, hv, hF.2.2.2.2.2.1, hF.2.2.2.2.2.2.wr (fun _ _ => ⟨by omega, by omega⟩)⟩
theorem Fr.p98 {b : Bd} {κ h : Hp} {v : Int} (hF : Fr b κ h) (hv : 0 ≤ v ∧ v ≤ 256) : Fr b κ (zwr h 98 6 v) := by
  refine ⟨fun k' i' hk => ?_, ⟨fun hb i' => ?_, Bd.wr rfl hF.2.1.2⟩, ?_⟩
  · rw [zwr_ne (Or.inl (fun q => by
      subst q
      exact absurd (show key 98 i' = false by simp [key]; decide) (by rw [hk]; simp)))]
    exact hF.1 k' i' hk
  · rw [zwr_ne (Or.inl (by decide))]
    exact hF.2.1.1 hb i'
  · unfold SI
    rw [zwr_eq, zwr_ne (Or.inl (by decide)), zwr_ne (Or.inl (by decide)), zwr_ne (Or.inl (by decide))]
    exact ⟨hF.2.2.1, hF.2.2.2.1, hF.2.2.2.2.1, hv, hF.2.2.2.2.2.2.wr (fun _ _ => ⟨by omega, by omega⟩)⟩
theorem Fr.rf {b : Bd} {h : Hp} (hS : SI h) (hI : b.I h := by exact True.intro) : Fr b h h := ⟨fun _ _ _ => rfl, ⟨fun _ _ => rfl, hI⟩, hS⟩
theorem Fr.tr {b c : Bd} {κ h h' : Hp} (h1 : Fr b κ h) (h2 : Fr c h h') (hc : b.g = true → c.g = true) (hI : c.I h' → b.I h' := by exact fun z => z) : Fr b κ h' := ⟨fun k i hk => (h2.1 k i hk).trans (h1.1 k i hk), ⟨fun hb i => (h2.2.1.1 (hc hb) i).trans (h1.2.1.1 hb i), hI h2.2.1.2⟩, h2.2.2⟩
theorem Fr.inv {b : Bd} {κ h : Hp} (hF : Fr b κ h) : b.I h := hF.2.1.2
/-- writes that an invariant of pictures bears: rows of the reference from r on, a sheet's levels, whether it is full -/
def Ok17 (b : Bd) (r : Int) : Prop := ∀ (h : Hp) (i : Nat) (v : Int), 768 * r ≤ (i : Int) → b.I h → b.I (zwr h 17 i v)
def OkL (b : Bd) (c : Nat) : Prop := ∀ h h' : Hp, (∀ k i, k ≠ c → h' k i = h k i) → b.I h → b.I h'
theorem OkL.wr {b : Bd} {c i : Nat} {v : Int} {h : Hp} (hk : OkL b c) (hI : b.I h) : b.I (zwr h c i v) := hk _ _ (fun _ _ hn => zwr_ne (Or.inl hn)) hI
theorem Ok17.mono {b : Bd} {r s : Int} (h : Ok17 b r) (hs : r ≤ s) : Ok17 b s := fun g i v hi => h g i v (by omega)
theorem Fr.w17 {b : Bd} {κ h : Hp} {i : Nat} {v : Int} (hF : Fr b κ h) (hI : b.I (zwr h 17 i v)) (hv : rng v) : Fr b κ (zwr h 17 i v) := by
  refine ⟨fun k' i' hk => ?_, ⟨fun hb i' => ?_, hI⟩, ?_⟩
  · rw [zwr_ne (Or.inl (fun q => by
      subst q
      exact absurd (show key 17 i' = false by simp [key]; decide) (by rw [hk]; simp)))]
    exact hF.1 k' i' hk
  · rw [zwr_ne (Or.inl (by decide))]
    exact hF.2.1.1 hb i'
  · unfold SI
    rw [zwr_ne (Or.inl (by decide)), zwr_ne (Or.inl (by decide)), zwr_ne (Or.inl (by decide)), zwr_ne (Or.inl (by decide))]
    exact ⟨hF.2.2.1, hF.2.2.2.1, hF.2.2.2.2.1, hF.2.2.2.2.2.1, hF.2.2.2.2.2.2.wr (fun _ _ => hv)⟩
theorem Fr.wS {b : Bd} {κ h : Hp} {c i : Nat} {v : Int} (hF : Fr b κ h) (hc : 56 ≤ c ∧ c ≤ 85) (hI : b.I (zwr h c i v)) (hv : rng v) : Fr b κ (zwr h c i v) := by
  refine ⟨fun k' i' hk => ?_, ⟨fun hb i' => ?_, hI⟩, ?_⟩
  · rw [zwr_ne (Or.inl (fun q => by
      subst q
      unfold key at hk
      simp only [Bool.or_eq_true, Bool.and_eq_true, beq_iff_eq, Nat.ble_eq] at hk
      omega))]
    exact hF.1 k' i' hk
  · rw [zwr_ne (Or.inl (by omega))]
    exact hF.2.1.1 hb i'
  · unfold SI
    rw [zwr_ne (Or.inl (by omega)), zwr_ne (Or.inl (by omega)), zwr_ne (Or.inl (by omega)), zwr_ne (Or.inl (by omega))]
    exact ⟨hF.2.2.1, hF.2.2.2.1, hF.2.2.2.2.1, hF.2.2.2.2.2.1, hF.2.2.2.2.2.2.wr (fun _ _ => hv)⟩
theorem Fr.w23 {b : Bd} {κ h : Hp} {v : Int} (hF : Fr b κ h) {c : Bd} (hg : c.g = true → b.g = true) (hI : c.I (zwr h 0 23 v)) (hv : rng v) : Fr c κ (zwr h 0 23 v) := by
  refine ⟨fun k' i' hk => ?_, ⟨fun hb i' => ?_, hI⟩, ?_⟩
  · rw [zwr_ne (by
      by_cases h1 : k' = 0
      · refine Or.inr (fun h2 => ?_)
        subst h1
        subst h2
        exact absurd hk (by decide)
      · exact Or.inl h1)]
    exact hF.1 k' i' hk
  · rw [zwr_ne (Or.inl (by decide))]
    exact hF.2.1.1 (hg hb) i'
  · unfold SI
    rw [zwr_ne (Or.inr (by decide)), zwr_ne (Or.inl (by decide)), zwr_ne (Or.inl (by decide)), zwr_ne (Or.inl (by decide))]
    exact ⟨hF.2.2.1, hF.2.2.2.1, hF.2.2.2.2.1, hF.2.2.2.2.2.1, hF.2.2.2.2.2.2.wr (fun _ _ => hv)⟩
/-- the sheets of the class and their levels -/
theorem tabS {s : Nat} (h1 : 56 ≤ s) (h2 : s ≤ 70) : tab[s]? = some (0, 8, [s + 17, 0]) := by
  have : s = 56 ∨ s = 57 ∨ s = 58 ∨ s = 59 ∨ s = 60 ∨ s = 61 ∨ s = 62 ∨ s = 63 ∨ s = 64 ∨ s = 65 ∨ s = 66 ∨ s = 67 ∨ s = 68 ∨ s = 69 ∨ s = 70 := by omega
  rcases this with rfl | rfl | rfl | rfl | rfl | rfl | rfl | rfl | rfl | rfl | rfl | rfl | rfl | rfl | rfl <;> rfl
theorem tabL {s : Nat} (h1 : 71 ≤ s) (h2 : s ≤ 85) : tab[s]? = some (1, 0, [768]) := by
  have : s = 71 ∨ s = 72 ∨ s = 73 ∨ s = 74 ∨ s = 75 ∨ s = 76 ∨ s = 77 ∨ s = 78 ∨ s = 79 ∨ s = 80 ∨ s = 81 ∨ s = 82 ∨ s = 83 ∨ s = 84 ∨ s = 85 := by omega
  rcases this with rfl | rfl | rfl | rfl | rfl | rfl | rfl | rfl | rfl | rfl | rfl | rfl | rfl | rfl | rfl <;> rfl
theorem tabP {s : Nat} (h1 : 90 ≤ s) (h2 : s ≤ 93) : tab[s]? = some (1, 0, [256]) := by
  have : s = 90 ∨ s = 91 ∨ s = 92 ∨ s = 93 := by omega
  rcases this with rfl | rfl | rfl | rfl <;> rfl
theorem scrL {b : Bd} {s : Nat} (h1 : 86 ≤ s) (h2 : s ≤ 94) : scr b s = true := by
  unfold scr
  rw [Nat.ble_eq_true_of_le h1, Nat.ble_eq_true_of_le h2]
  simp
section Framed
theorem zV_anyE {G : Ga} {μ : Mt} {Q : Int → Hp → Prop} {pc : Nat} {ls : Lo} {st : List Sv} {h : Hp} {a : Int} (kk : ∀ v : Int, rng v → (rng a → v = a) → zV G μ Q pc ls (.inl v :: st) h) : zV G μ Q pc ls (.inl a :: st) h := by
  intro p e s m args below meth c H locs lsA C hP hS hL
  have := kk (Int32.ofInt a).toInt (rg32 _) (fun ha => ti32 ha) p e s m args below meth c H locs lsA C hP hS hL
  have e0 : dn (zad G) (.inl (Int32.ofInt a).toInt) = dn (zad G) (.inl a) := by simp only [dn]; rw [Int32.ofInt_toInt]
  rw [List.map_cons, e0] at this
  exact this
variable {G : Ga} {μ μ' : Mt} {Q Q' : Int → Hp → Prop} {pc pc' idx : Nat} {ls : Lo} {st : List Sv} {κ h : Hp} {y : MethodName} {b : Bd}
/-- fields -/
theorem zG_key {k i ci : Nat} {cs : List Nat} (hF : Fr b κ h) (hk : key k i = true) (hf : zFL μ.2.2.2.1 idx ci i) (ht : tab[k]? = some (0, ci, cs)) (hc : cs[i]? = some 0) (hd : decode μ.1 pc = .ok (.getfield idx, 3)) (hn : pc + 3 = pc') (kk : zV G μ Q pc' ls (.inl (κ k i) :: st) h) : zV G μ Q pc ls (.inr (.inr k) :: st) h := by
  refine zV_getf hf ht hc hd hn ?_
  show zV G μ Q pc' ls (.inl (h k i) :: st) h
  rw [hF.1 k i hk]
  exact kk
theorem zG_int {k i ci : Nat} {cs : List Nat} (hf : zFL μ.2.2.2.1 idx ci i) (ht : tab[k]? = some (0, ci, cs)) (hc : cs[i]? = some 0) (hd : decode μ.1 pc = .ok (.getfield idx, 3)) (hn : pc + 3 = pc') (kk : zV G μ Q pc' ls (.inl (h k i) :: st) h) : zV G μ Q pc ls (.inr (.inr k) :: st) h :=
  zV_getf hf ht hc hd hn kk
theorem zG_lng {k i ci : Nat} {cs : List Nat} (hf : zFL μ.2.2.2.1 idx ci i) (ht : tab[k]? = some (0, ci, cs)) (hc : cs[i]? = some 1) (hd : decode μ.1 pc = .ok (.getfield idx, 3)) (hn : pc + 3 = pc') (kk : zV G μ Q pc' ls (.inr (.inl (h k i)) :: st) h) : zV G μ Q pc ls (.inr (.inr k) :: st) h :=
  zV_getf hf ht hc hd hn kk
theorem zG_ref {k i ci : Nat} {cs : List Nat} (r : Nat) (hf : zFL μ.2.2.2.1 idx ci i) (ht : tab[k]? = some (0, ci, cs)) (hc : cs[i]? = some (r + 2)) (hd : decode μ.1 pc = .ok (.getfield idx, 3)) (hn : pc + 3 = pc') (kk : zV G μ Q pc' ls (.inr (.inr r) :: st) h) : zV G μ Q pc ls (.inr (.inr k) :: st) h :=
  zV_getf hf ht hc hd hn kk
theorem zG_lev {s : Nat} (h1 : 56 ≤ s) (h2 : s ≤ 70) (hf : zFL μ.2.2.2.1 idx 8 0) (hd : decode μ.1 pc = .ok (.getfield idx, 3)) (hn : pc + 3 = pc') (kk : zV G μ Q pc' ls (.inr (.inr (s + 15)) :: st) h) : zV G μ Q pc ls (.inr (.inr s) :: st) h :=
  zG_ref (s + 15) hf (tabS h1 h2) rfl hd hn kk
theorem zG_ful {s : Nat} (h1 : 56 ≤ s) (h2 : s ≤ 70) (hf : zFL μ.2.2.2.1 idx 8 1) (hd : decode μ.1 pc = .ok (.getfield idx, 3)) (hn : pc + 3 = pc') (kk : zV G μ Q pc' ls (.inl (h s 1) :: st) h) : zV G μ Q pc ls (.inr (.inr s) :: st) h :=
  zG_int hf (tabS h1 h2) rfl hd hn kk
theorem zP_scf {k i ci : Nat} {cs : List Nat} {v : Int} (hF : Fr b κ h) (hs : scf k i = true) (hf : zFP μ.2.2.2.1 idx ci i .int) (ht : tab[k]? = some (0, ci, cs)) (hc : cs[i]? = some 0) (hd : decode μ.1 pc = .ok (.putfield idx, 3)) (hn : pc + 3 = pc') (kk : ∀ (h' : Hp) (v' : Int), Fr b κ h' → rng v' → (rng v → v' = v) → h' = zwr h k i v' → zV G μ Q pc' ls st h') : zV G μ Q pc ls (.inl v :: .inr (.inr k) :: st) h :=
  zV_anyE (fun v' hv he => zV_puti hf ht hc hd hn (kk _ v' (hF.wf hs (fun _ _ => hv)) hv he rfl))
theorem zP_scl {k i ci : Nat} {cs : List Nat} {v : Int} (hF : Fr b κ h) (hs : scf k i = true) (h95 : k = 95) (hf : zFP μ.2.2.2.1 idx ci i .long) (ht : tab[k]? = some (0, ci, cs)) (hc : cs[i]? = some 1) (hd : decode μ.1 pc = .ok (.putfield idx, 3)) (hn : pc + 3 = pc') (kk : ∀ h' : Hp, Fr b κ h' → h' k i = v → zV G μ Q pc' ls st h') : zV G μ Q pc ls (.inr (.inl v) :: .inr (.inr k) :: st) h :=
  zV_putl hf ht hc hd hn (kk _ (hF.wf hs (fun q _ => absurd h95 q)) zwr_eq)
theorem zP_ful {s : Nat} {v : Int} (hF : Fr b κ h) (h1 : 56 ≤ s) (h2 : s ≤ 70) (hv : v = 0 ∨ v = 1) (hfu : OkL b s) (hf : zFP μ.2.2.2.1 idx 8 1 .boolean) (hd : decode μ.1 pc = .ok (.putfield idx, 3)) (hn : pc + 3 = pc') (kk : ∀ h' : Hp, Fr b κ h' → h' s 1 = v → zV G μ Q pc' ls st h') : zV G μ Q pc ls (.inl v :: .inr (.inr s) :: st) h :=
  zV_putz hf hv (tabS h1 h2) rfl hd hn (kk _ (hF.wS (by omega) (hfu.wr hF.inv) ⟨by omega, by omega⟩) zwr_eq)
theorem zP_53 {v : Int} (hF : Fr b κ h) (hv : 0 ≤ v ∧ v ≤ 256) (hf : zFP μ.2.2.2.1 idx 12 53 .int) (hd : decode μ.1 pc = .ok (.putfield idx, 3)) (hn : pc + 3 = pc') (kk : ∀ h' : Hp, Fr b κ h' → h' 0 53 = v → zV G μ Q pc' ls st h') : zV G μ Q pc ls (.inl v :: .inr (.inr 0) :: st) h :=
  zV_puti hf rfl rfl hd hn (kk _ (hF.p53 hv) zwr_eq)
theorem zP_95 {v : Int} (hF : Fr b κ h) (hv : 0 ≤ v ∧ v ≤ 256) (hf : zFP μ.2.2.2.1 idx 4 0 .int) (hd : decode μ.1 pc = .ok (.putfield idx, 3)) (hn : pc + 3 = pc') (kk : ∀ h' : Hp, Fr b κ h' → h' 95 0 = v → zV G μ Q pc' ls st h') : zV G μ Q pc ls (.inl v :: .inr (.inr 95) :: st) h :=
  zV_puti hf rfl rfl hd hn (kk _ (hF.p95 hv) zwr_eq)
theorem zP_98 {v : Int} (hF : Fr b κ h) (hv : 0 ≤ v ∧ v ≤ 256) (hf : zFP μ.2.2.2.1 idx 0 6 .int) (hd : decode μ.1 pc = .ok (.putfield idx, 3)) (hn : pc + 3 = pc') (kk : ∀ h' : Hp, Fr b κ h' → h' 98 6 = v → zV G μ Q pc' ls st h') : zV G μ Q pc ls (.inl v :: .inr (.inr 98) :: st) h :=
  zV_puti hf rfl rfl hd hn (kk _ (hF.p98 hv) zwr_eq)
/-- arrays -/
theorem zA_key {k n : Nat} {i : Int} (hF : Fr b κ h) (hk : ckey k = true) (ht : tab[k]? = some (1, 0, [n])) (hi : 0 ≤ i ∧ i < n) (hd : decode μ.1 pc = .ok (.iaload, 1)) (hs : n < 2147483648) (hn : pc + 1 = pc') (kk : zV G μ Q pc' ls (.inl (κ k i.toNat) :: st) h) : zV G μ Q pc ls (.inl i :: .inr (.inr k) :: st) h := by
  refine zV_iald ht hi hd hs hn ?_
  rw [hF.1 k _ (key_of hk _)]
  exact kk
theorem zA_giv {i : Int} (hF : Fr b.to κ h) (hi : 0 ≤ i ∧ i < 130) (hd : decode μ.1 pc = .ok (.iaload, 1)) (hn : pc + 1 = pc') (kk : zV G μ Q pc' ls (.inl (κ 23 i.toNat) :: st) h) : zV G μ Q pc ls (.inl i :: .inr (.inr 23) :: st) h := by
  refine zV_iald (n := 130) rfl hi hd (by decide) hn ?_
  rw [hF.2.1.1 rfl]
  exact kk
theorem zA_keyz {k n : Nat} {i : Int} (hF : Fr b κ h) (hk : ckey k = true) (ht : tab[k]? = some (1, 1, [n])) (hi : 0 ≤ i ∧ i < n) (hd : decode μ.1 pc = .ok (.baload, 1)) (hs : n < 2147483648) (hn : pc + 1 = pc') (kk : zV G μ Q pc' ls (.inl (κ k i.toNat) :: st) h) : zV G μ Q pc ls (.inl i :: .inr (.inr k) :: st) h := by
  refine zV_zald ht hi hd hs hn ?_
  rw [hF.1 k _ (key_of hk _)]
  exact kk
theorem zA_keyb {k n : Nat} {i : Int} (hF : Fr b κ h) (hk : ckey k = true) (ht : tab[k]? = some (1, 2, [n])) (hi : 0 ≤ i ∧ i < n) (hd : decode μ.1 pc = .ok (.baload, 1)) (hs : n < 2147483648) (hn : pc + 1 = pc') (kk : zV G μ Q pc' ls (.inl (κ k i.toNat) :: st) h) : zV G μ Q pc ls (.inl i :: .inr (.inr k) :: st) h := by
  refine zV_bald ht hi hd hs hn ?_
  rw [hF.1 k _ (key_of hk _)]
  exact kk
theorem zS_i {k n : Nat} {i v : Int} (hF : Fr b κ h) (hk : scr b k = true) (ht : tab[k]? = some (1, 0, [n])) (hi : 0 ≤ i ∧ i < n) (hd : decode μ.1 pc = .ok (.iastore, 1)) (hs : n < 2147483648) (hn : pc + 1 = pc') (kk : ∀ (h' : Hp) (v' : Int), Fr b κ h' → rng v' → (rng v → v' = v) → h' = zwr h k i.toNat v' → zV G μ Q pc' ls st h') : zV G μ Q pc ls (.inl v :: .inl i :: .inr (.inr k) :: st) h :=
  zV_anyE (fun v' hv he => zV_iast ht hi hd hs hn (kk _ v' (hF.wr hk (fun _ _ => hv)) hv he rfl))
theorem zS_17 {i v r : Int} (hF : Fr b κ h) (hJ : Ok17 b r) (hr : 768 * r ≤ i) (hi : 0 ≤ i ∧ i < 11520) (hd : decode μ.1 pc = .ok (.iastore, 1)) (hn : pc + 1 = pc') (kk : ∀ (h' : Hp) (v' : Int), Fr b κ h' → rng v' → (rng v → v' = v) → h' = zwr h 17 i.toNat v' → zV G μ Q pc' ls st h') : zV G μ Q pc ls (.inl v :: .inl i :: .inr (.inr 17) :: st) h :=
  zV_anyE (fun v' hv he => zV_iast (n := 11520) rfl hi hd (by decide) hn (kk _ v' (hF.w17 (hJ _ _ _ (by omega) hF.inv) hv) hv he rfl))
theorem zS_lv {k : Nat} {i v : Int} (hF : Fr b κ h) (h1 : 71 ≤ k) (h2 : k ≤ 85) (hto : OkL b k) (hi : 0 ≤ i ∧ i < 768) (hd : decode μ.1 pc = .ok (.iastore, 1)) (hn : pc + 1 = pc') (kk : ∀ (h' : Hp) (v' : Int), Fr b κ h' → rng v' → (rng v → v' = v) → h' = zwr h k i.toNat v' → zV G μ Q pc' ls st h') : zV G μ Q pc ls (.inl v :: .inl i :: .inr (.inr k) :: st) h :=
  zV_anyE (fun v' hv he => zV_iast (tabL h1 h2) hi hd (by decide) hn (kk _ v' (hF.wS (by omega) (hto.wr hF.inv) hv) hv he rfl))
theorem zS_z {k n : Nat} {i v : Int} (hF : Fr b κ h) (hk : scr b k = true) (ht : tab[k]? = some (1, 1, [n])) (hi : 0 ≤ i ∧ i < n) (hv : v = 0 ∨ v = 1) (hd : decode μ.1 pc = .ok (.bastore, 1)) (hs : n < 2147483648) (hn : pc + 1 = pc') (kk : ∀ h' : Hp, Fr b κ h' → h' = zwr h k i.toNat v → zV G μ Q pc' ls st h') : zV G μ Q pc ls (.inl v :: .inl i :: .inr (.inr k) :: st) h :=
  zV_zast ht hi hv hd hs hn (kk _ (hF.wr hk (fun _ _ => ⟨by omega, by omega⟩)) rfl)
theorem zS_l {k n : Nat} {i v : Int} (hF : Fr b κ h) (hk : scr b k = true) (h97 : k = 97) (ht : tab[k]? = some (2, 3, [n])) (hi : 0 ≤ i ∧ i < n) (hd : decode μ.1 pc = .ok (.lastore, 1)) (hs : n < 2147483648) (hn : pc + 1 = pc') (kk : ∀ h' : Hp, Fr b κ h' → zV G μ Q pc' ls st h') : zV G μ Q pc ls (.inr (.inl v) :: .inl i :: .inr (.inr k) :: st) h :=
  zV_last ht hi hd hs hn (kk _ (hF.wr hk (fun _ q => absurd h97 q)))
/-- calls -/
theorem cvI0 (tk : zTk μ' y 0) (tv : zTv y) (lk : zLk μ.2.2.2.1 idx y) (rm : zRm μ μ') {k ci : Nat} {cs : List Nat} {q : vw_C} (ht : tab[k]? = some (0, ci, cs)) (hq : vwCl[ci]? = some q) (hqc : q.1 = y.cls) (hrt : zpu μ'.2.2.1 = fun r => [.inl r]) (hM : zM G μ' y [.inr (.inr k)] h Q') (hd : decode μ.1 pc = .ok (.invokevirtual idx, 3)) (h8 : stW st ≤ 8) (hp : pc + 3 = pc') (kk : ∀ (r : Int) (h' : Hp), Q' r h' → zV G μ Q pc' ls (.inl r :: st) h') : zV G μ Q pc ls (.inr (.inr k) :: st) h :=
  zV_inv tk tv lk rm ht hq hqc [] hM hd rfl h8 hp (fun r h' hr => by rw [hrt]; exact kk r h' hr)
theorem cvV0 (tk : zTk μ' y 0) (tv : zTv y) (lk : zLk μ.2.2.2.1 idx y) (rm : zRm μ μ') {k ci : Nat} {cs : List Nat} {q : vw_C} (ht : tab[k]? = some (0, ci, cs)) (hq : vwCl[ci]? = some q) (hqc : q.1 = y.cls) (hrt : zpu μ'.2.2.1 = fun _ => []) (hM : zM G μ' y [.inr (.inr k)] h Q') (hd : decode μ.1 pc = .ok (.invokevirtual idx, 3)) (h8 : stW st ≤ 8) (hp : pc + 3 = pc') (kk : ∀ (r : Int) (h' : Hp), Q' r h' → zV G μ Q pc' ls (st) h') : zV G μ Q pc ls (.inr (.inr k) :: st) h :=
  zV_inv tk tv lk rm ht hq hqc [] hM hd rfl h8 hp (fun r h' hr => by rw [hrt]; exact kk r h' hr)
theorem cvI1 (tk : zTk μ' y 1) (tv : zTv y) (lk : zLk μ.2.2.2.1 idx y) (rm : zRm μ μ') {k ci : Nat} {cs : List Nat} {q : vw_C} (ht : tab[k]? = some (0, ci, cs)) (hq : vwCl[ci]? = some q) (hqc : q.1 = y.cls) (hrt : zpu μ'.2.2.1 = fun r => [.inl r]) {a1 : Sv} (hM : zM G μ' y [.inr (.inr k), a1] h Q') (hd : decode μ.1 pc = .ok (.invokevirtual idx, 3)) (h8 : stW st ≤ 8) (hp : pc + 3 = pc') (kk : ∀ (r : Int) (h' : Hp), Q' r h' → zV G μ Q pc' ls (.inl r :: st) h') : zV G μ Q pc ls (a1 :: .inr (.inr k) :: st) h :=
  zV_inv tk tv lk rm ht hq hqc [a1] hM hd rfl h8 hp (fun r h' hr => by rw [hrt]; exact kk r h' hr)
theorem csI1 (tk : zTk μ' y 1) (tv : Cond.static y ∈ gT) (lk : zLk μ.2.2.2.1 idx y) (rm : zRm μ μ') (hrt : zpu μ'.2.2.1 = fun r => [.inl r]) {a1 : Sv} (hM : zM G μ' y [a1] h Q') (hd : decode μ.1 pc = .ok (.invokestatic idx, 3)) (h8 : stW st ≤ 8) (hp : pc + 3 = pc') (kk : ∀ (r : Int) (h' : Hp), Q' r h' → zV G μ Q pc' ls (.inl r :: st) h') : zV G μ Q pc ls (a1 :: st) h :=
  zV_ins tk tv lk rm [a1] hM hd rfl h8 hp (fun r h' hr => by rw [hrt]; exact kk r h' hr)
theorem cvV1 (tk : zTk μ' y 1) (tv : zTv y) (lk : zLk μ.2.2.2.1 idx y) (rm : zRm μ μ') {k ci : Nat} {cs : List Nat} {q : vw_C} (ht : tab[k]? = some (0, ci, cs)) (hq : vwCl[ci]? = some q) (hqc : q.1 = y.cls) (hrt : zpu μ'.2.2.1 = fun _ => []) {a1 : Sv} (hM : zM G μ' y [.inr (.inr k), a1] h Q') (hd : decode μ.1 pc = .ok (.invokevirtual idx, 3)) (h8 : stW st ≤ 8) (hp : pc + 3 = pc') (kk : ∀ (r : Int) (h' : Hp), Q' r h' → zV G μ Q pc' ls (st) h') : zV G μ Q pc ls (a1 :: .inr (.inr k) :: st) h :=
  zV_inv tk tv lk rm ht hq hqc [a1] hM hd rfl h8 hp (fun r h' hr => by rw [hrt]; exact kk r h' hr)
theorem cvA1 (tk : zTk μ' y 1) (tv : zTv y) (lk : zLk μ.2.2.2.1 idx y) (rm : zRm μ μ') {k ci : Nat} {cs : List Nat} {q : vw_C} (ht : tab[k]? = some (0, ci, cs)) (hq : vwCl[ci]? = some q) (hqc : q.1 = y.cls) (hrt : zpu μ'.2.2.1 = fun r => [.inr (.inr r.toNat)]) {a1 : Sv} (hM : zM G μ' y [.inr (.inr k), a1] h Q') (hd : decode μ.1 pc = .ok (.invokevirtual idx, 3)) (h8 : stW st ≤ 8) (hp : pc + 3 = pc') (kk : ∀ (r : Int) (h' : Hp), Q' r h' → zV G μ Q pc' ls (.inr (.inr r.toNat) :: st) h') : zV G μ Q pc ls (a1 :: .inr (.inr k) :: st) h :=
  zV_inv tk tv lk rm ht hq hqc [a1] hM hd rfl h8 hp (fun r h' hr => by rw [hrt]; exact kk r h' hr)
theorem cvI2 (tk : zTk μ' y 2) (tv : zTv y) (lk : zLk μ.2.2.2.1 idx y) (rm : zRm μ μ') {k ci : Nat} {cs : List Nat} {q : vw_C} (ht : tab[k]? = some (0, ci, cs)) (hq : vwCl[ci]? = some q) (hqc : q.1 = y.cls) (hrt : zpu μ'.2.2.1 = fun r => [.inl r]) {a1 a2 : Sv} (hM : zM G μ' y [.inr (.inr k), a1, a2] h Q') (hd : decode μ.1 pc = .ok (.invokevirtual idx, 3)) (h8 : stW st ≤ 8) (hp : pc + 3 = pc') (kk : ∀ (r : Int) (h' : Hp), Q' r h' → zV G μ Q pc' ls (.inl r :: st) h') : zV G μ Q pc ls (a2 :: a1 :: .inr (.inr k) :: st) h :=
  zV_inv tk tv lk rm ht hq hqc [a1, a2] hM hd rfl h8 hp (fun r h' hr => by rw [hrt]; exact kk r h' hr)
theorem csI2 (tk : zTk μ' y 2) (tv : Cond.static y ∈ gT) (lk : zLk μ.2.2.2.1 idx y) (rm : zRm μ μ') (hrt : zpu μ'.2.2.1 = fun r => [.inl r]) {a1 a2 : Sv} (hM : zM G μ' y [a1, a2] h Q') (hd : decode μ.1 pc = .ok (.invokestatic idx, 3)) (h8 : stW st ≤ 8) (hp : pc + 3 = pc') (kk : ∀ (r : Int) (h' : Hp), Q' r h' → zV G μ Q pc' ls (.inl r :: st) h') : zV G μ Q pc ls (a2 :: a1 :: st) h :=
  zV_ins tk tv lk rm [a1, a2] hM hd rfl h8 hp (fun r h' hr => by rw [hrt]; exact kk r h' hr)
theorem cvV2 (tk : zTk μ' y 2) (tv : zTv y) (lk : zLk μ.2.2.2.1 idx y) (rm : zRm μ μ') {k ci : Nat} {cs : List Nat} {q : vw_C} (ht : tab[k]? = some (0, ci, cs)) (hq : vwCl[ci]? = some q) (hqc : q.1 = y.cls) (hrt : zpu μ'.2.2.1 = fun _ => []) {a1 a2 : Sv} (hM : zM G μ' y [.inr (.inr k), a1, a2] h Q') (hd : decode μ.1 pc = .ok (.invokevirtual idx, 3)) (h8 : stW st ≤ 8) (hp : pc + 3 = pc') (kk : ∀ (r : Int) (h' : Hp), Q' r h' → zV G μ Q pc' ls (st) h') : zV G μ Q pc ls (a2 :: a1 :: .inr (.inr k) :: st) h :=
  zV_inv tk tv lk rm ht hq hqc [a1, a2] hM hd rfl h8 hp (fun r h' hr => by rw [hrt]; exact kk r h' hr)
theorem csV2 (tk : zTk μ' y 2) (tv : Cond.static y ∈ gT) (lk : zLk μ.2.2.2.1 idx y) (rm : zRm μ μ') (hrt : zpu μ'.2.2.1 = fun _ => []) {a1 a2 : Sv} (hM : zM G μ' y [a1, a2] h Q') (hd : decode μ.1 pc = .ok (.invokestatic idx, 3)) (h8 : stW st ≤ 8) (hp : pc + 3 = pc') (kk : ∀ (r : Int) (h' : Hp), Q' r h' → zV G μ Q pc' ls (st) h') : zV G μ Q pc ls (a2 :: a1 :: st) h :=
  zV_ins tk tv lk rm [a1, a2] hM hd rfl h8 hp (fun r h' hr => by rw [hrt]; exact kk r h' hr)
theorem cvL2 (tk : zTk μ' y 2) (tv : zTv y) (lk : zLk μ.2.2.2.1 idx y) (rm : zRm μ μ') {k ci : Nat} {cs : List Nat} {q : vw_C} (ht : tab[k]? = some (0, ci, cs)) (hq : vwCl[ci]? = some q) (hqc : q.1 = y.cls) (hrt : zpu μ'.2.2.1 = fun r => [.inr (.inl r)]) {a1 a2 : Sv} (hM : zM G μ' y [.inr (.inr k), a1, a2] h Q') (hd : decode μ.1 pc = .ok (.invokevirtual idx, 3)) (h8 : stW st ≤ 8) (hp : pc + 3 = pc') (kk : ∀ (r : Int) (h' : Hp), Q' r h' → zV G μ Q pc' ls (.inr (.inl r) :: st) h') : zV G μ Q pc ls (a2 :: a1 :: .inr (.inr k) :: st) h :=
  zV_inv tk tv lk rm ht hq hqc [a1, a2] hM hd rfl h8 hp (fun r h' hr => by rw [hrt]; exact kk r h' hr)
theorem cvA2 (tk : zTk μ' y 2) (tv : zTv y) (lk : zLk μ.2.2.2.1 idx y) (rm : zRm μ μ') {k ci : Nat} {cs : List Nat} {q : vw_C} (ht : tab[k]? = some (0, ci, cs)) (hq : vwCl[ci]? = some q) (hqc : q.1 = y.cls) (hrt : zpu μ'.2.2.1 = fun r => [.inr (.inr r.toNat)]) {a1 a2 : Sv} (hM : zM G μ' y [.inr (.inr k), a1, a2] h Q') (hd : decode μ.1 pc = .ok (.invokevirtual idx, 3)) (h8 : stW st ≤ 8) (hp : pc + 3 = pc') (kk : ∀ (r : Int) (h' : Hp), Q' r h' → zV G μ Q pc' ls (.inr (.inr r.toNat) :: st) h') : zV G μ Q pc ls (a2 :: a1 :: .inr (.inr k) :: st) h :=
  zV_inv tk tv lk rm ht hq hqc [a1, a2] hM hd rfl h8 hp (fun r h' hr => by rw [hrt]; exact kk r h' hr)
theorem cvI3 (tk : zTk μ' y 3) (tv : zTv y) (lk : zLk μ.2.2.2.1 idx y) (rm : zRm μ μ') {k ci : Nat} {cs : List Nat} {q : vw_C} (ht : tab[k]? = some (0, ci, cs)) (hq : vwCl[ci]? = some q) (hqc : q.1 = y.cls) (hrt : zpu μ'.2.2.1 = fun r => [.inl r]) {a1 a2 a3 : Sv} (hM : zM G μ' y [.inr (.inr k), a1, a2, a3] h Q') (hd : decode μ.1 pc = .ok (.invokevirtual idx, 3)) (h8 : stW st ≤ 8) (hp : pc + 3 = pc') (kk : ∀ (r : Int) (h' : Hp), Q' r h' → zV G μ Q pc' ls (.inl r :: st) h') : zV G μ Q pc ls (a3 :: a2 :: a1 :: .inr (.inr k) :: st) h :=
  zV_inv tk tv lk rm ht hq hqc [a1, a2, a3] hM hd rfl h8 hp (fun r h' hr => by rw [hrt]; exact kk r h' hr)
theorem csI3 (tk : zTk μ' y 3) (tv : Cond.static y ∈ gT) (lk : zLk μ.2.2.2.1 idx y) (rm : zRm μ μ') (hrt : zpu μ'.2.2.1 = fun r => [.inl r]) {a1 a2 a3 : Sv} (hM : zM G μ' y [a1, a2, a3] h Q') (hd : decode μ.1 pc = .ok (.invokestatic idx, 3)) (h8 : stW st ≤ 8) (hp : pc + 3 = pc') (kk : ∀ (r : Int) (h' : Hp), Q' r h' → zV G μ Q pc' ls (.inl r :: st) h') : zV G μ Q pc ls (a3 :: a2 :: a1 :: st) h :=
  zV_ins tk tv lk rm [a1, a2, a3] hM hd rfl h8 hp (fun r h' hr => by rw [hrt]; exact kk r h' hr)
theorem cvV3 (tk : zTk μ' y 3) (tv : zTv y) (lk : zLk μ.2.2.2.1 idx y) (rm : zRm μ μ') {k ci : Nat} {cs : List Nat} {q : vw_C} (ht : tab[k]? = some (0, ci, cs)) (hq : vwCl[ci]? = some q) (hqc : q.1 = y.cls) (hrt : zpu μ'.2.2.1 = fun _ => []) {a1 a2 a3 : Sv} (hM : zM G μ' y [.inr (.inr k), a1, a2, a3] h Q') (hd : decode μ.1 pc = .ok (.invokevirtual idx, 3)) (h8 : stW st ≤ 8) (hp : pc + 3 = pc') (kk : ∀ (r : Int) (h' : Hp), Q' r h' → zV G μ Q pc' ls (st) h') : zV G μ Q pc ls (a3 :: a2 :: a1 :: .inr (.inr k) :: st) h :=
  zV_inv tk tv lk rm ht hq hqc [a1, a2, a3] hM hd rfl h8 hp (fun r h' hr => by rw [hrt]; exact kk r h' hr)
theorem cvL3 (tk : zTk μ' y 3) (tv : zTv y) (lk : zLk μ.2.2.2.1 idx y) (rm : zRm μ μ') {k ci : Nat} {cs : List Nat} {q : vw_C} (ht : tab[k]? = some (0, ci, cs)) (hq : vwCl[ci]? = some q) (hqc : q.1 = y.cls) (hrt : zpu μ'.2.2.1 = fun r => [.inr (.inl r)]) {a1 a2 a3 : Sv} (hM : zM G μ' y [.inr (.inr k), a1, a2, a3] h Q') (hd : decode μ.1 pc = .ok (.invokevirtual idx, 3)) (h8 : stW st ≤ 8) (hp : pc + 3 = pc') (kk : ∀ (r : Int) (h' : Hp), Q' r h' → zV G μ Q pc' ls (.inr (.inl r) :: st) h') : zV G μ Q pc ls (a3 :: a2 :: a1 :: .inr (.inr k) :: st) h :=
  zV_inv tk tv lk rm ht hq hqc [a1, a2, a3] hM hd rfl h8 hp (fun r h' hr => by rw [hrt]; exact kk r h' hr)
theorem cvI4 (tk : zTk μ' y 4) (tv : zTv y) (lk : zLk μ.2.2.2.1 idx y) (rm : zRm μ μ') {k ci : Nat} {cs : List Nat} {q : vw_C} (ht : tab[k]? = some (0, ci, cs)) (hq : vwCl[ci]? = some q) (hqc : q.1 = y.cls) (hrt : zpu μ'.2.2.1 = fun r => [.inl r]) {a1 a2 a3 a4 : Sv} (hM : zM G μ' y [.inr (.inr k), a1, a2, a3, a4] h Q') (hd : decode μ.1 pc = .ok (.invokevirtual idx, 3)) (h8 : stW st ≤ 8) (hp : pc + 3 = pc') (kk : ∀ (r : Int) (h' : Hp), Q' r h' → zV G μ Q pc' ls (.inl r :: st) h') : zV G μ Q pc ls (a4 :: a3 :: a2 :: a1 :: .inr (.inr k) :: st) h :=
  zV_inv tk tv lk rm ht hq hqc [a1, a2, a3, a4] hM hd rfl h8 hp (fun r h' hr => by rw [hrt]; exact kk r h' hr)
theorem csI4 (tk : zTk μ' y 4) (tv : Cond.static y ∈ gT) (lk : zLk μ.2.2.2.1 idx y) (rm : zRm μ μ') (hrt : zpu μ'.2.2.1 = fun r => [.inl r]) {a1 a2 a3 a4 : Sv} (hM : zM G μ' y [a1, a2, a3, a4] h Q') (hd : decode μ.1 pc = .ok (.invokestatic idx, 3)) (h8 : stW st ≤ 8) (hp : pc + 3 = pc') (kk : ∀ (r : Int) (h' : Hp), Q' r h' → zV G μ Q pc' ls (.inl r :: st) h') : zV G μ Q pc ls (a4 :: a3 :: a2 :: a1 :: st) h :=
  zV_ins tk tv lk rm [a1, a2, a3, a4] hM hd rfl h8 hp (fun r h' hr => by rw [hrt]; exact kk r h' hr)
theorem cvV4 (tk : zTk μ' y 4) (tv : zTv y) (lk : zLk μ.2.2.2.1 idx y) (rm : zRm μ μ') {k ci : Nat} {cs : List Nat} {q : vw_C} (ht : tab[k]? = some (0, ci, cs)) (hq : vwCl[ci]? = some q) (hqc : q.1 = y.cls) (hrt : zpu μ'.2.2.1 = fun _ => []) {a1 a2 a3 a4 : Sv} (hM : zM G μ' y [.inr (.inr k), a1, a2, a3, a4] h Q') (hd : decode μ.1 pc = .ok (.invokevirtual idx, 3)) (h8 : stW st ≤ 8) (hp : pc + 3 = pc') (kk : ∀ (r : Int) (h' : Hp), Q' r h' → zV G μ Q pc' ls (st) h') : zV G μ Q pc ls (a4 :: a3 :: a2 :: a1 :: .inr (.inr k) :: st) h :=
  zV_inv tk tv lk rm ht hq hqc [a1, a2, a3, a4] hM hd rfl h8 hp (fun r h' hr => by rw [hrt]; exact kk r h' hr)
theorem cvI5 (tk : zTk μ' y 5) (tv : zTv y) (lk : zLk μ.2.2.2.1 idx y) (rm : zRm μ μ') {k ci : Nat} {cs : List Nat} {q : vw_C} (ht : tab[k]? = some (0, ci, cs)) (hq : vwCl[ci]? = some q) (hqc : q.1 = y.cls) (hrt : zpu μ'.2.2.1 = fun r => [.inl r]) {a1 a2 a3 a4 a5 : Sv} (hM : zM G μ' y [.inr (.inr k), a1, a2, a3, a4, a5] h Q') (hd : decode μ.1 pc = .ok (.invokevirtual idx, 3)) (h8 : stW st ≤ 8) (hp : pc + 3 = pc') (kk : ∀ (r : Int) (h' : Hp), Q' r h' → zV G μ Q pc' ls (.inl r :: st) h') : zV G μ Q pc ls (a5 :: a4 :: a3 :: a2 :: a1 :: .inr (.inr k) :: st) h :=
  zV_inv tk tv lk rm ht hq hqc [a1, a2, a3, a4, a5] hM hd rfl h8 hp (fun r h' hr => by rw [hrt]; exact kk r h' hr)
theorem csI5 (tk : zTk μ' y 5) (tv : Cond.static y ∈ gT) (lk : zLk μ.2.2.2.1 idx y) (rm : zRm μ μ') (hrt : zpu μ'.2.2.1 = fun r => [.inl r]) {a1 a2 a3 a4 a5 : Sv} (hM : zM G μ' y [a1, a2, a3, a4, a5] h Q') (hd : decode μ.1 pc = .ok (.invokestatic idx, 3)) (h8 : stW st ≤ 8) (hp : pc + 3 = pc') (kk : ∀ (r : Int) (h' : Hp), Q' r h' → zV G μ Q pc' ls (.inl r :: st) h') : zV G μ Q pc ls (a5 :: a4 :: a3 :: a2 :: a1 :: st) h :=
  zV_ins tk tv lk rm [a1, a2, a3, a4, a5] hM hd rfl h8 hp (fun r h' hr => by rw [hrt]; exact kk r h' hr)
theorem cvV5 (tk : zTk μ' y 5) (tv : zTv y) (lk : zLk μ.2.2.2.1 idx y) (rm : zRm μ μ') {k ci : Nat} {cs : List Nat} {q : vw_C} (ht : tab[k]? = some (0, ci, cs)) (hq : vwCl[ci]? = some q) (hqc : q.1 = y.cls) (hrt : zpu μ'.2.2.1 = fun _ => []) {a1 a2 a3 a4 a5 : Sv} (hM : zM G μ' y [.inr (.inr k), a1, a2, a3, a4, a5] h Q') (hd : decode μ.1 pc = .ok (.invokevirtual idx, 3)) (h8 : stW st ≤ 8) (hp : pc + 3 = pc') (kk : ∀ (r : Int) (h' : Hp), Q' r h' → zV G μ Q pc' ls (st) h') : zV G μ Q pc ls (a5 :: a4 :: a3 :: a2 :: a1 :: .inr (.inr k) :: st) h :=
  zV_inv tk tv lk rm ht hq hqc [a1, a2, a3, a4, a5] hM hd rfl h8 hp (fun r h' hr => by rw [hrt]; exact kk r h' hr)
theorem cvI6 (tk : zTk μ' y 6) (tv : zTv y) (lk : zLk μ.2.2.2.1 idx y) (rm : zRm μ μ') {k ci : Nat} {cs : List Nat} {q : vw_C} (ht : tab[k]? = some (0, ci, cs)) (hq : vwCl[ci]? = some q) (hqc : q.1 = y.cls) (hrt : zpu μ'.2.2.1 = fun r => [.inl r]) {a1 a2 a3 a4 a5 a6 : Sv} (hM : zM G μ' y [.inr (.inr k), a1, a2, a3, a4, a5, a6] h Q') (hd : decode μ.1 pc = .ok (.invokevirtual idx, 3)) (h8 : stW st ≤ 8) (hp : pc + 3 = pc') (kk : ∀ (r : Int) (h' : Hp), Q' r h' → zV G μ Q pc' ls (.inl r :: st) h') : zV G μ Q pc ls (a6 :: a5 :: a4 :: a3 :: a2 :: a1 :: .inr (.inr k) :: st) h :=
  zV_inv tk tv lk rm ht hq hqc [a1, a2, a3, a4, a5, a6] hM hd rfl h8 hp (fun r h' hr => by rw [hrt]; exact kk r h' hr)
theorem cvV6 (tk : zTk μ' y 6) (tv : zTv y) (lk : zLk μ.2.2.2.1 idx y) (rm : zRm μ μ') {k ci : Nat} {cs : List Nat} {q : vw_C} (ht : tab[k]? = some (0, ci, cs)) (hq : vwCl[ci]? = some q) (hqc : q.1 = y.cls) (hrt : zpu μ'.2.2.1 = fun _ => []) {a1 a2 a3 a4 a5 a6 : Sv} (hM : zM G μ' y [.inr (.inr k), a1, a2, a3, a4, a5, a6] h Q') (hd : decode μ.1 pc = .ok (.invokevirtual idx, 3)) (h8 : stW st ≤ 8) (hp : pc + 3 = pc') (kk : ∀ (r : Int) (h' : Hp), Q' r h' → zV G μ Q pc' ls (st) h') : zV G μ Q pc ls (a6 :: a5 :: a4 :: a3 :: a2 :: a1 :: .inr (.inr k) :: st) h :=
  zV_inv tk tv lk rm ht hq hqc [a1, a2, a3, a4, a5, a6] hM hd rfl h8 hp (fun r h' hr => by rw [hrt]; exact kk r h' hr)
theorem cvI7 (tk : zTk μ' y 7) (tv : zTv y) (lk : zLk μ.2.2.2.1 idx y) (rm : zRm μ μ') {k ci : Nat} {cs : List Nat} {q : vw_C} (ht : tab[k]? = some (0, ci, cs)) (hq : vwCl[ci]? = some q) (hqc : q.1 = y.cls) (hrt : zpu μ'.2.2.1 = fun r => [.inl r]) {a1 a2 a3 a4 a5 a6 a7 : Sv} (hM : zM G μ' y [.inr (.inr k), a1, a2, a3, a4, a5, a6, a7] h Q') (hd : decode μ.1 pc = .ok (.invokevirtual idx, 3)) (h8 : stW st ≤ 8) (hp : pc + 3 = pc') (kk : ∀ (r : Int) (h' : Hp), Q' r h' → zV G μ Q pc' ls (.inl r :: st) h') : zV G μ Q pc ls (a7 :: a6 :: a5 :: a4 :: a3 :: a2 :: a1 :: .inr (.inr k) :: st) h :=
  zV_inv tk tv lk rm ht hq hqc [a1, a2, a3, a4, a5, a6, a7] hM hd rfl h8 hp (fun r h' hr => by rw [hrt]; exact kk r h' hr)
end Framed
