/-! The judgement zV: the machine's W over a heap that is a plain function (cell, place) -> Int; ints are Int32.ofInt of integers -/
def okW : Cond → Bool
  | .arrayClass _ => true
  | .fieldLinkNest _ _ _ _ _ _ => true
  | .methodLinkNest _ _ _ _ => true
  | w => w.onTables && w.keeps
def gT : List Cond := lw_tbl.filter okW
theorem gT_in {w : Cond} (h : w ∈ lw_tbl) (hk : okW w = true) : w ∈ gT := List.mem_filter.mpr ⟨h, hk⟩
theorem gT_at {w : Cond} (i : Nat) (h : tables_1[i]? = some w) (hk : okW w = true) : w ∈ gT := gT_in (List.mem_append_right _ (List.mem_of_getElem? h)) hk
theorem gT_pv {w : Cond} (i : Nat) (h : (k2_sels lw_privs)[i]? = some w) (hk : okW w = true) : w ∈ gT := gT_in (List.mem_append_left _ (List.mem_of_getElem? h)) hk
theorem okW_pay {s : State} {args : Array Value} {w : Cond} (hk : okW w = true) (h : w.before args s = true) (a' : Array Value) (U : State) (hW : s.WarmedH U.vm) : w.before a' U = true := by
  by_cases hg : goodWord w = true
  · exact word_at hW (good_of_word hg) h
  · cases w with
    | fieldLinkNest a i b n d z => exact va_Nw.use rfl (va_Nw.warmF hW (va_Nw.of rfl h))
    | methodLinkNest a i x z => exact va_Nw.use rfl (va_Nw.warmM hW (va_Nw.of rfl h))
    | arrayClass t => exact absurd rfl hg
    | _ => exact absurd hk hg
theorem gT_pay {s : State} {args : Array Value} (h : ∀ w ∈ gT, w.before args s = true) : ∀ w ∈ gT, ∀ (a' : Array Value) (U : State), s.WarmedH U.vm → w.before a' U = true :=
  fun w hw a' U hW => okW_pay (List.mem_filter.mp hw).2 (h w hw) a' U hW
/-- symbolic values: an int, a long, a reference to a cell of the world -/
abbrev Sv : Type := Int ⊕ (Int ⊕ Nat)
abbrev Hp : Type := Nat → Nat → Int
abbrev Lo : Type := List (Option Sv)
abbrev Mt : Type := ByteArray × Nat × Option FieldType × String × Room
def dn (ad : Nat → Nat) : Sv → Value
  | .inl a => .int (Int32.ofInt a)
  | .inr (.inl a) => .long (Int64.ofInt a)
  | .inr (.inr k) => .ref (ad k)
def zwr (h : Hp) (k i : Nat) (v : Int) : Hp := fun k' i' => if k' = k then (if i' = i then v else h k i') else h k' i'
/-- a cell's form: (0, class, kinds of its fields: 0 int, 1 long, 2+c the cell c), (1, array class, [length]) of ints, (2, ..) of longs, (3, array class, cells) of references -/
abbrev Ds : Type := Nat × Nat × List Nat
def fv (ad : Nat → Nat) (f : Nat → Int) (i : Nat) : Nat → Value
  | 0 => .int (Int32.ofInt (f i))
  | 1 => .long (Int64.ofInt (f i))
  | (c + 2) => .ref (ad c)
def fld (ad : Nat → Nat) (f : Nat → Int) : Nat → List Nat → List Value
  | _, [] => []
  | i, c :: cs => fv ad f i c :: fld ad f (i + 1) cs
def cellOf (ca : Nat → ClassId) (ad : Nat → Nat) (d : Ds) (f : Nat → Int) : va_E := match d with
  | (0, ci, cs) => .inr (ci, fld ad f 0 cs)
  | (1, t, ns) => .inl (ca t, ns.headD 0, .inl (fun j => Int32.ofInt (f j)))
  | (2, t, ns) => .inl (ca t, ns.headD 0, .inr (.inl (fun j => Int64.ofInt (f j))))
  | (_, t, ids) => .inl (ca t, ids.length, .inr (.inr (.inr (.inr (fun j => (ids[j]?).map ad)))))
def wlFrom (ca : Nat → ClassId) (ad : Nat → Nat) (h : Hp) : Nat → List Ds → va_W
  | _, [] => []
  | k, d :: ds => (ad k, cellOf ca ad d (h k)) :: wlFrom ca ad h (k + 1) ds
theorem fld_get (ad : Nat → Nat) (f : Nat → Int) : ∀ (cs : List Nat) (i k : Nat) (c : Nat), cs[k]? = some c → (fld ad f i cs)[k]? = some (fv ad f (i + k) c)
  | [], _, k, _, h => by simp at h
  | c :: cs, i, 0, c', h => by
    simp at h
    subst h
    simp [fld]
  | c :: cs, i, k + 1, c', h => by
    have h' : cs[k]? = some c' := by simpa using h
    have := fld_get ad f cs (i + 1) k c' h'
    simp only [fld, List.getElem?_cons_succ]
    rw [this, show i + 1 + k = i + (k + 1) by omega]
theorem fld_len (ad : Nat → Nat) (f : Nat → Int) : ∀ (cs : List Nat) (i : Nat), (fld ad f i cs).length = cs.length
  | [], _ => rfl
  | c :: cs, i => by simp [fld, fld_len ad f cs (i + 1)]
theorem fld_cong (ad : Nat → Nat) (f g : Nat → Int) : ∀ (cs : List Nat) (i : Nat), (∀ j, i ≤ j → f j = g j) → fld ad f i cs = fld ad g i cs
  | [], _, _ => rfl
  | c :: cs, i, h => by
    simp only [fld]
    rw [fld_cong ad f g cs (i + 1) (fun j hj => h j (by omega))]
    congr 1
    match c with
    | 0 => simp [fv, h i (Nat.le_refl i)]
    | 1 => simp [fv, h i (Nat.le_refl i)]
    | c + 2 => rfl
theorem fld_set (ad : Nat → Nat) (f : Nat → Int) (v : Int) : ∀ (cs : List Nat) (i k : Nat) (c : Nat), cs[k]? = some c → c < 2 →
    (fld ad f i cs).set k (fv ad (fun _ => v) (i + k) c) = fld ad (fun j => if j = i + k then v else f j) i cs
  | [], _, k, _, h, _ => by simp at h
  | c :: cs, i, 0, c', h, hc => by
    simp at h
    subst h
    simp only [fld, List.set_cons_zero, Nat.add_zero]
    rw [fld_cong ad f (fun j => if j = i then v else f j) cs (i + 1) (fun j hj => by rw [if_neg (by omega)])]
    congr 1
    match c, hc with
    | 0, _ => simp [fv]
    | 1, _ => simp [fv]
  | c :: cs, i, k + 1, c', h, hc => by
    have h' : cs[k]? = some c' := by simpa using h
    have := fld_set ad f v cs (i + 1) k c' h' hc
    simp only [fld, List.set_cons_succ]
    rw [show i + (k + 1) = i + 1 + k by omega, this]
    congr 1
    match c with
    | 0 => simp only [fv]; rw [if_neg (by omega)]
    | 1 => simp only [fv]; rw [if_neg (by omega)]
    | c + 2 => rfl
theorem wlF_get (ca : Nat → ClassId) (ad : Nat → Nat) (h : Hp) : ∀ (ds : List Ds) (n k : Nat) (d : Ds), ds[k]? = some d → (wlFrom ca ad h n ds)[k]? = some (ad (n + k), cellOf ca ad d (h (n + k)))
  | [], _, k, _, e => by simp at e
  | d :: ds, n, 0, d', e => by
    simp at e
    subst e
    simp [wlFrom]
  | d :: ds, n, k + 1, d', e => by
    have e' : ds[k]? = some d' := by simpa using e
    have := wlF_get ca ad h ds (n + 1) k d' e'
    simp only [wlFrom, List.getElem?_cons_succ]
    rw [this, show n + 1 + k = n + (k + 1) by omega]
theorem wlF_inv (ca : Nat → ClassId) (ad : Nat → Nat) (h : Hp) : ∀ (ds : List Ds) (n k : Nat) (q : Nat × va_E), (wlFrom ca ad h n ds)[k]? = some q → ∃ d, ds[k]? = some d ∧ q = (ad (n + k), cellOf ca ad d (h (n + k)))
  | [], _, k, _, e => by simp [wlFrom] at e
  | d :: ds, n, 0, q, e => by
    simp [wlFrom] at e
    exact ⟨d, by simp, by rw [← e]; simp⟩
  | d :: ds, n, k + 1, q, e => by
    simp only [wlFrom, List.getElem?_cons_succ] at e
    obtain ⟨d', h1, h2⟩ := wlF_inv ca ad h ds (n + 1) k q e
    exact ⟨d', by simpa using h1, by rw [h2, show n + 1 + k = n + (k + 1) by omega]⟩
theorem wlF_cong (ca : Nat → ClassId) (ad : Nat → Nat) (h h' : Hp) : ∀ (ds : List Ds) (n : Nat), (∀ k, n ≤ k → h k = h' k) → wlFrom ca ad h n ds = wlFrom ca ad h' n ds
  | [], _, _ => rfl
  | d :: ds, n, e => by
    simp only [wlFrom]
    rw [wlF_cong ca ad h h' ds (n + 1) (fun k hk => e k (by omega)), e n (Nat.le_refl n)]
theorem wlF_set (ca : Nat → ClassId) (ad : Nat → Nat) (h : Hp) (f : Nat → Int) : ∀ (ds : List Ds) (n k : Nat) (d : Ds), ds[k]? = some d →
    (wlFrom ca ad h n ds).set k (ad (n + k), cellOf ca ad d f) = wlFrom ca ad (fun k' => if k' = n + k then f else h k') n ds
  | [], _, k, _, e => by simp at e
  | d :: ds, n, 0, d', e => by
    simp at e
    subst e
    simp only [wlFrom, List.set_cons_zero, Nat.add_zero]
    rw [wlF_cong ca ad h (fun k' => if k' = n then f else h k') ds (n + 1) (fun j hj => by rw [if_neg (by omega)])]
    simp
  | d :: ds, n, k + 1, d', e => by
    have e' : ds[k]? = some d' := by simpa using e
    have := wlF_set ca ad h f ds (n + 1) k d' e'
    simp only [wlFrom, List.set_cons_succ]
    rw [show n + (k + 1) = n + 1 + k by omega, this]
    rw [if_neg (by omega)]
