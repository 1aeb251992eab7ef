/-! the two strings at the start -/
def stm (i : Nat) : Term := if i = 0 then .string "RawPictures$Reader" 63 else .string "RawPictures" 384
def swl (i : Nat) : List Cond := [.exactly (stm i) "java/lang/String", .eq (.field (stm i) "java/lang/String" "coder" "B") (.int 0), .arrayOf (.field (stm i) "java/lang/String" "value" "[B") .byte, .eq (.length (.field (stm i) "java/lang/String" "value" "[B")) (.int (Int32.ofNat (([15, 9] : List Nat).getD i 0)))]
set_option maxRecDepth 100000 in
theorem swl_in : ∀ i : Fin 2, ∀ w ∈ swl (i : Nat), w ∈ flatC (Jvm.Cond.and given_1 narrow_1) := by decide +kernel
set_option maxRecDepth 100000 in
theorem sel_in : ∀ i : Fin 2, ∀ j : Fin 15, (j : Nat) < ([15, 9] : List Nat).getD (i : Nat) 0 → Cond.eq (.elem (.field (stm (i : Nat)) "java/lang/String" "value" "[B") (.int (Int32.ofNat (j : Nat)))) (.int ((sby.getD (i : Nat) []).getD (j : Nat) 0)) ∈ flatC (Jvm.Cond.and given_1 narrow_1) := by decide +kernel
set_option maxRecDepth 100000 in
theorem sne_in : Cond.not (Cond.eq (stm 0) (stm 1)) ∈ flatC (Jvm.Cond.and given_1 narrow_1) ∨ Cond.not (Cond.eq (stm 1) (stm 0)) ∈ flatC (Jvm.Cond.and given_1 narrow_1) := by decide +kernel
set_option maxRecDepth 100000 in
theorem strs_at {args : Array Value} {s : State} {A : Nat → Prop} (ht : ∀ w ∈ lw_tbl, w.before args s = true) (hg : (Jvm.Cond.and given_1 narrow_1).before args s = true) (hA : ∀ a : Nat, a < s.heap.size → ¬ A a) :
    ∃ adK adV : Nat → Nat, vk_S 2 [15, 9] sby adK adV A s s.heap ∧ vk_R "RawPictures$Reader" 63 "bdolfvwhygmpnst" (adK 0) s ∧ vk_R "RawPictures" 384 "bdlwhmyns" (adK 1) s := by
  have hs := flat_of_before _ hg
  have hw : ∀ i : Nat, i < 2 → ∀ w ∈ swl i, w.before args s = true := fun i hi w h => hs w (swl_in ⟨i, hi⟩ w h)
  obtain ⟨adK, adV, h1, h2⟩ := vk_Sof (args := args) (s := s) (N := 2) (tm := stm) (len := [15, 9]) (byt := sby) (A := A) (fun i hi => by
      match i, hi with
      | 0, _ => decide
      | 1, _ => decide) (fun i hi => hw i hi _ List.mem_cons_self) (fun i hi => hw i hi _ (List.mem_cons_of_mem _ List.mem_cons_self)) (fun i hi => hw i hi _ (List.mem_cons_of_mem _ (List.mem_cons_of_mem _ List.mem_cons_self))) (fun i hi => hw i hi _ (List.mem_cons_of_mem _ (List.mem_cons_of_mem _ (List.mem_cons_of_mem _ List.mem_cons_self)))) (fun i hi j hj => by
      have hj15 : j < 15 := by
        match i, hi, hj with
        | 0, _, hj => exact hj
        | 1, _, hj => exact Nat.lt_of_lt_of_le hj (by decide)
      exact hs _ (sel_in ⟨i, hi⟩ ⟨j, hj15⟩ hj)) (fun i j hi hj hne => by
      match i, j, hi, hj, hne with
      | 0, 0, _, _, h => exact absurd rfl h
      | 1, 1, _, _, h => exact absurd rfl h
      | 0, 1, _, _, _ => exact sne_in.imp (fun h => hs _ h) (fun h => hs _ h)
      | 1, 0, _, _, _ => exact (sne_in.imp (fun h => hs _ h) (fun h => hs _ h)).symm) hA
  exact ⟨adK, adV, h1, vk_R.of (ht _ (tab_in 415 (by decide +kernel))) (h2 0 (by decide)), vk_R.of (ht _ (tab_in 1133 (by decide +kernel))) (h2 1 (by decide))⟩
