/-! the static rows and the strings at the start -/
def rws (nm : String) (vals : List Int32) : List Cond := [.arrayOf (.static "RawPictures" nm "[I") .int, .eq (.length (.static "RawPictures" nm "[I")) (.int 15)] ++ (List.range 15).map (fun j => .eq (.elem (.static "RawPictures" nm "[I") (.int (Int32.ofNat j))) (.int (vals.getD j 0)))
theorem row_at {args : Array Value} {s : State} {A : Nat → Prop} {nm : String} {vals : List Int32} (hl : (Cond.laysStatic "RawPictures" nm "[I").before args s = true) (hini : (Cond.initialized "RawPictures").before args s = true) (hw : ∀ w ∈ rws nm vals, w.before args s = true) (hA : ∀ a : Nat, a < s.heap.size → ¬ A a) : ∃ t : Nat, va_Z "RawPictures" nm "[I" (.ref t) A s s.heap ∧ va_T .int t 15 (fun j => .int (vals.getD j 0)) A s s.heap := by
  obtain ⟨t, ht, hT⟩ := va_Tof (args := args) (s := s) (tm := .static "RawPictures" nm "[I") (ty := .int) (N := 15) (f := fun j => .int (vals.getD j 0)) (A := A) (by decide) (hw _ (List.mem_append_left _ (List.mem_cons_self))) (va_eqt (hw _ (List.mem_append_left _ (List.mem_cons_of_mem _ List.mem_cons_self)))) (fun j hj => va_eqt (hw _ (List.mem_append_right _ (List.mem_map.mpr ⟨j, List.mem_range.mpr hj, rfl⟩)))) hA
  exact ⟨t, va_Zref hl hini ht hA, hT⟩
set_option maxRecDepth 100000 in
theorem rws_HOW_MANY_NUMBERS : ∀ w ∈ rws "HOW_MANY_NUMBERS" [1, 1, 1, 1, 1, 1, 1, 1, 3, 3, 1, 2, 2, 2, 0], w ∈ flatC (Jvm.Cond.and given_1 narrow_1) := by decide +kernel
set_option maxRecDepth 100000 in
theorem rws_LEAST_FIRST : ∀ w ∈ rws "LEAST_FIRST" [0, 0, 1, 0, 0, 1, 0, 0, 0, 0, 0, 1, 0, 0, 0], w ∈ flatC (Jvm.Cond.and given_1 narrow_1) := by decide +kernel
set_option maxRecDepth 100000 in
theorem rws_GREATEST_FIRST : ∀ w ∈ rws "GREATEST_FIRST" [255, 255, 4, 99, 1, 3, 255, 254, 32, 99, 99, 4, 99, 99, 0], w ∈ flatC (Jvm.Cond.and given_1 narrow_1) := by decide +kernel
set_option maxRecDepth 100000 in
theorem rws_GREATEST_LATER : ∀ w ∈ rws "GREATEST_LATER" [0, 0, 0, 0, 0, 0, 0, 0, 32, 99, 0, 32, 99, 99, 255], w ∈ flatC (Jvm.Cond.and given_1 narrow_1) := by decide +kernel
theorem tab_in {w : Cond} (i : Nat) (h : tables_1[i]? = some w) : w ∈ lw_tbl := List.mem_append_right _ (List.mem_of_getElem? h)
set_option maxRecDepth 100000 in
theorem rows_at {args : Array Value} {s : State} {A : Nat → Prop} (ht : ∀ w ∈ lw_tbl, w.before args s = true) (hg : (Jvm.Cond.and given_1 narrow_1).before args s = true) (hA : ∀ a : Nat, a < s.heap.size → ¬ A a) : ∃ a b c d : Nat, (va_Z "RawPictures" "HOW_MANY_NUMBERS" "[I" (.ref a) A s s.heap ∧ ∃ f : Nat → Int32, f = (fun j => (xv 102).getD j 0) ∧ va_T .int a 15 (fun j => .int (f j)) A s s.heap) ∧ (va_Z "RawPictures" "LEAST_FIRST" "[I" (.ref b) A s s.heap ∧ ∃ f : Nat → Int32, f = (fun j => (xv 103).getD j 0) ∧ va_T .int b 15 (fun j => .int (f j)) A s s.heap) ∧ (va_Z "RawPictures" "GREATEST_FIRST" "[I" (.ref c) A s s.heap ∧ ∃ f : Nat → Int32, f = (fun j => (xv 104).getD j 0) ∧ va_T .int c 15 (fun j => .int (f j)) A s s.heap) ∧ (va_Z "RawPictures" "GREATEST_LATER" "[I" (.ref d) A s s.heap ∧ ∃ f : Nat → Int32, f = (fun j => (xv 105).getD j 0) ∧ va_T .int d 15 (fun j => .int (f j)) A s s.heap) ∧ va_Z "java/lang/String" "COMPACT_STRINGS" "Z" (.int 1) A s s.heap := by
  have hs := flat_of_before _ hg
  have hi : (Cond.initialized "RawPictures").before args s = true := ht _ (tab_in 1 (by decide +kernel))
  obtain ⟨a, za, ta⟩ := row_at (A := A) (ht _ (tab_in 535 (by decide +kernel))) hi (fun w hw => hs w (rws_HOW_MANY_NUMBERS w hw)) hA
  obtain ⟨b, zb, tb⟩ := row_at (A := A) (ht _ (tab_in 537 (by decide +kernel))) hi (fun w hw => hs w (rws_LEAST_FIRST w hw)) hA
  obtain ⟨c, zc, tc⟩ := row_at (A := A) (ht _ (tab_in 539 (by decide +kernel))) hi (fun w hw => hs w (rws_GREATEST_FIRST w hw)) hA
  obtain ⟨d, zd, td⟩ := row_at (A := A) (ht _ (tab_in 541 (by decide +kernel))) hi (fun w hw => hs w (rws_GREATEST_LATER w hw)) hA
  refine ⟨a, b, c, d, ⟨za, _, rfl, ta⟩, ⟨zb, _, rfl, tb⟩, ⟨zc, _, rfl, tc⟩, ⟨zd, _, rfl, td⟩, ?_⟩
  exact va_Zof (ht _ (tab_in 429 (by decide +kernel))) (ht _ (tab_in 14 (by decide +kernel))) (va_eqt (hs (.eq (.static "java/lang/String" "COMPACT_STRINGS" "Z") (.int 1)) (by decide +kernel))) hA
