/-! the world behind both constructors is the first heap -/
def trn : List Nat := [72, 73, 74, 75, 76, 77, 78, 79, 80, 81, 82, 83, 84, 85, 86, 87, 88, 89, 90, 91, 92, 93, 94, 95, 96, 97, 98, 99, 100, 101, 0, 1, 2, 3, 4, 5, 65, 66, 67, 6, 7, 8, 9, 10, 11, 68, 69, 70, 71, 13, 14, 15, 16, 12, 17, 18, 32, 34, 36, 38, 40, 42, 44, 46, 48, 50, 52, 54, 56, 19, 21, 33, 35, 37, 39, 41, 43, 45, 47, 49, 51, 53, 55, 57, 20, 22, 23, 24, 25, 26, 27, 28, 29, 30, 31, 58, 59, 60, 61, 62, 63, 64]
def trv : List Nat := [30, 31, 32, 33, 34, 35, 39, 40, 41, 42, 43, 44, 53, 49, 50, 51, 52, 54, 55, 69, 84, 70, 85, 86, 87, 88, 89, 90, 91, 92, 93, 94, 56, 71, 57, 72, 58, 73, 59, 74, 60, 75, 61, 76, 62, 77, 63, 78, 64, 79, 65, 80, 66, 81, 67, 82, 68, 83, 95, 96, 97, 98, 99, 100, 101, 36, 37, 38, 45, 46, 47, 48, 0, 1, 2, 3, 4, 5, 6, 7, 8, 9, 10, 11, 12, 13, 14, 15, 16, 17, 18, 19, 20, 21, 22, 23, 24, 25, 26, 27, 28, 29]
theorem trn_trv : ∀ k : Fin 102, trv.getD (trn.getD (k : Nat) 0) 0 = (k : Nat) := by decide +kernel
theorem trn_inj {i j : Nat} (hi : i < 102) (hj : j < 102) (h : trn.getD i 0 = trn.getD j 0) : i = j := by
  have h1 := trn_trv ⟨i, hi⟩
  have h2 := trn_trv ⟨j, hj⟩
  dsimp only at h1 h2
  rw [h] at h1
  exact h1.symm.trans h2
def adF (B : Nat) (x : Nat → Nat) (b : Nat) : Nat → Nat := fun k => if k < 102 then B + trn.getD k 0 else if k < 110 then x (k - 102) else b
theorem adF_lt {B : Nat} {x : Nat → Nat} {b k t : Nat} (h : k < 102) (ht : trn.getD k 0 = t) : adF B x b k = B + t := by
  unfold adF
  rw [if_pos h, ht]
section
variable {ca : Nat → ClassId} {B b : Nat} {x : Nat → Nat}
theorem ad_0 : adF B x b 0 = B + 72 := adF_lt (by decide) (by decide +kernel)
theorem ad_1 : adF B x b 1 = B + 73 := adF_lt (by decide) (by decide +kernel)
theorem ad_2 : adF B x b 2 = B + 74 := adF_lt (by decide) (by decide +kernel)
theorem ad_3 : adF B x b 3 = B + 75 := adF_lt (by decide) (by decide +kernel)
theorem ad_4 : adF B x b 4 = B + 76 := adF_lt (by decide) (by decide +kernel)
theorem ad_5 : adF B x b 5 = B + 77 := adF_lt (by decide) (by decide +kernel)
theorem ad_6 : adF B x b 6 = B + 78 := adF_lt (by decide) (by decide +kernel)
theorem ad_7 : adF B x b 7 = B + 79 := adF_lt (by decide) (by decide +kernel)
theorem ad_8 : adF B x b 8 = B + 80 := adF_lt (by decide) (by decide +kernel)
theorem ad_9 : adF B x b 9 = B + 81 := adF_lt (by decide) (by decide +kernel)
theorem ad_10 : adF B x b 10 = B + 82 := adF_lt (by decide) (by decide +kernel)
theorem ad_11 : adF B x b 11 = B + 83 := adF_lt (by decide) (by decide +kernel)
theorem ad_12 : adF B x b 12 = B + 84 := adF_lt (by decide) (by decide +kernel)
theorem ad_13 : adF B x b 13 = B + 85 := adF_lt (by decide) (by decide +kernel)
theorem ad_14 : adF B x b 14 = B + 86 := adF_lt (by decide) (by decide +kernel)
theorem ad_15 : adF B x b 15 = B + 87 := adF_lt (by decide) (by decide +kernel)
theorem ad_16 : adF B x b 16 = B + 88 := adF_lt (by decide) (by decide +kernel)
theorem ad_17 : adF B x b 17 = B + 89 := adF_lt (by decide) (by decide +kernel)
theorem ad_18 : adF B x b 18 = B + 90 := adF_lt (by decide) (by decide +kernel)
theorem ad_19 : adF B x b 19 = B + 91 := adF_lt (by decide) (by decide +kernel)
theorem ad_20 : adF B x b 20 = B + 92 := adF_lt (by decide) (by decide +kernel)
theorem ad_21 : adF B x b 21 = B + 93 := adF_lt (by decide) (by decide +kernel)
theorem ad_22 : adF B x b 22 = B + 94 := adF_lt (by decide) (by decide +kernel)
theorem ad_23 : adF B x b 23 = B + 95 := adF_lt (by decide) (by decide +kernel)
theorem ad_24 : adF B x b 24 = B + 96 := adF_lt (by decide) (by decide +kernel)
theorem ad_25 : adF B x b 25 = B + 97 := adF_lt (by decide) (by decide +kernel)
theorem ad_26 : adF B x b 26 = B + 98 := adF_lt (by decide) (by decide +kernel)
theorem ad_27 : adF B x b 27 = B + 99 := adF_lt (by decide) (by decide +kernel)
theorem ad_28 : adF B x b 28 = B + 100 := adF_lt (by decide) (by decide +kernel)
theorem ad_29 : adF B x b 29 = B + 101 := adF_lt (by decide) (by decide +kernel)
theorem ad_30 : adF B x b 30 = B + 0 := adF_lt (by decide) (by decide +kernel)
theorem ad_31 : adF B x b 31 = B + 1 := adF_lt (by decide) (by decide +kernel)
theorem ad_32 : adF B x b 32 = B + 2 := adF_lt (by decide) (by decide +kernel)
theorem ad_33 : adF B x b 33 = B + 3 := adF_lt (by decide) (by decide +kernel)
theorem ad_34 : adF B x b 34 = B + 4 := adF_lt (by decide) (by decide +kernel)
theorem ad_35 : adF B x b 35 = B + 5 := adF_lt (by decide) (by decide +kernel)
theorem ad_36 : adF B x b 36 = B + 65 := adF_lt (by decide) (by decide +kernel)
theorem ad_37 : adF B x b 37 = B + 66 := adF_lt (by decide) (by decide +kernel)
theorem ad_38 : adF B x b 38 = B + 67 := adF_lt (by decide) (by decide +kernel)
theorem ad_39 : adF B x b 39 = B + 6 := adF_lt (by decide) (by decide +kernel)
theorem ad_40 : adF B x b 40 = B + 7 := adF_lt (by decide) (by decide +kernel)
theorem ad_41 : adF B x b 41 = B + 8 := adF_lt (by decide) (by decide +kernel)
theorem ad_42 : adF B x b 42 = B + 9 := adF_lt (by decide) (by decide +kernel)
theorem ad_43 : adF B x b 43 = B + 10 := adF_lt (by decide) (by decide +kernel)
theorem ad_44 : adF B x b 44 = B + 11 := adF_lt (by decide) (by decide +kernel)
theorem ad_45 : adF B x b 45 = B + 68 := adF_lt (by decide) (by decide +kernel)
theorem ad_46 : adF B x b 46 = B + 69 := adF_lt (by decide) (by decide +kernel)
theorem ad_47 : adF B x b 47 = B + 70 := adF_lt (by decide) (by decide +kernel)
theorem ad_48 : adF B x b 48 = B + 71 := adF_lt (by decide) (by decide +kernel)
theorem ad_49 : adF B x b 49 = B + 13 := adF_lt (by decide) (by decide +kernel)
theorem ad_50 : adF B x b 50 = B + 14 := adF_lt (by decide) (by decide +kernel)
theorem ad_51 : adF B x b 51 = B + 15 := adF_lt (by decide) (by decide +kernel)
theorem ad_52 : adF B x b 52 = B + 16 := adF_lt (by decide) (by decide +kernel)
theorem ad_53 : adF B x b 53 = B + 12 := adF_lt (by decide) (by decide +kernel)
theorem ad_54 : adF B x b 54 = B + 17 := adF_lt (by decide) (by decide +kernel)
theorem ad_55 : adF B x b 55 = B + 18 := adF_lt (by decide) (by decide +kernel)
theorem ad_56 : adF B x b 56 = B + 32 := adF_lt (by decide) (by decide +kernel)
theorem ad_57 : adF B x b 57 = B + 34 := adF_lt (by decide) (by decide +kernel)
theorem ad_58 : adF B x b 58 = B + 36 := adF_lt (by decide) (by decide +kernel)
theorem ad_59 : adF B x b 59 = B + 38 := adF_lt (by decide) (by decide +kernel)
theorem ad_60 : adF B x b 60 = B + 40 := adF_lt (by decide) (by decide +kernel)
theorem ad_61 : adF B x b 61 = B + 42 := adF_lt (by decide) (by decide +kernel)
theorem ad_62 : adF B x b 62 = B + 44 := adF_lt (by decide) (by decide +kernel)
theorem ad_63 : adF B x b 63 = B + 46 := adF_lt (by decide) (by decide +kernel)
theorem ad_64 : adF B x b 64 = B + 48 := adF_lt (by decide) (by decide +kernel)
theorem ad_65 : adF B x b 65 = B + 50 := adF_lt (by decide) (by decide +kernel)
theorem ad_66 : adF B x b 66 = B + 52 := adF_lt (by decide) (by decide +kernel)
theorem ad_67 : adF B x b 67 = B + 54 := adF_lt (by decide) (by decide +kernel)
theorem ad_68 : adF B x b 68 = B + 56 := adF_lt (by decide) (by decide +kernel)
theorem ad_69 : adF B x b 69 = B + 19 := adF_lt (by decide) (by decide +kernel)
theorem ad_70 : adF B x b 70 = B + 21 := adF_lt (by decide) (by decide +kernel)
theorem ad_71 : adF B x b 71 = B + 33 := adF_lt (by decide) (by decide +kernel)
theorem ad_72 : adF B x b 72 = B + 35 := adF_lt (by decide) (by decide +kernel)
theorem ad_73 : adF B x b 73 = B + 37 := adF_lt (by decide) (by decide +kernel)
theorem ad_74 : adF B x b 74 = B + 39 := adF_lt (by decide) (by decide +kernel)
theorem ad_75 : adF B x b 75 = B + 41 := adF_lt (by decide) (by decide +kernel)
theorem ad_76 : adF B x b 76 = B + 43 := adF_lt (by decide) (by decide +kernel)
theorem ad_77 : adF B x b 77 = B + 45 := adF_lt (by decide) (by decide +kernel)
theorem ad_78 : adF B x b 78 = B + 47 := adF_lt (by decide) (by decide +kernel)
theorem ad_79 : adF B x b 79 = B + 49 := adF_lt (by decide) (by decide +kernel)
theorem ad_80 : adF B x b 80 = B + 51 := adF_lt (by decide) (by decide +kernel)
theorem ad_81 : adF B x b 81 = B + 53 := adF_lt (by decide) (by decide +kernel)
theorem ad_82 : adF B x b 82 = B + 55 := adF_lt (by decide) (by decide +kernel)
theorem ad_83 : adF B x b 83 = B + 57 := adF_lt (by decide) (by decide +kernel)
theorem ad_84 : adF B x b 84 = B + 20 := adF_lt (by decide) (by decide +kernel)
theorem ad_85 : adF B x b 85 = B + 22 := adF_lt (by decide) (by decide +kernel)
theorem ad_86 : adF B x b 86 = B + 23 := adF_lt (by decide) (by decide +kernel)
theorem ad_87 : adF B x b 87 = B + 24 := adF_lt (by decide) (by decide +kernel)
theorem ad_88 : adF B x b 88 = B + 25 := adF_lt (by decide) (by decide +kernel)
theorem ad_89 : adF B x b 89 = B + 26 := adF_lt (by decide) (by decide +kernel)
theorem ad_90 : adF B x b 90 = B + 27 := adF_lt (by decide) (by decide +kernel)
theorem ad_91 : adF B x b 91 = B + 28 := adF_lt (by decide) (by decide +kernel)
theorem ad_92 : adF B x b 92 = B + 29 := adF_lt (by decide) (by decide +kernel)
theorem ad_93 : adF B x b 93 = B + 30 := adF_lt (by decide) (by decide +kernel)
theorem ad_94 : adF B x b 94 = B + 31 := adF_lt (by decide) (by decide +kernel)
theorem ad_95 : adF B x b 95 = B + 58 := adF_lt (by decide) (by decide +kernel)
theorem ad_96 : adF B x b 96 = B + 59 := adF_lt (by decide) (by decide +kernel)
theorem ad_97 : adF B x b 97 = B + 60 := adF_lt (by decide) (by decide +kernel)
theorem ad_98 : adF B x b 98 = B + 61 := adF_lt (by decide) (by decide +kernel)
theorem ad_99 : adF B x b 99 = B + 62 := adF_lt (by decide) (by decide +kernel)
theorem ad_100 : adF B x b 100 = B + 63 := adF_lt (by decide) (by decide +kernel)
theorem ad_101 : adF B x b 101 = B + 64 := adF_lt (by decide) (by decide +kernel)
end
def wB (ca : Nat → ClassId) (B : Nat) : va_W := wX11 ca B ++ wX12 ca (B + 72)
theorem ce1 {ca : Nat → ClassId} {ad : Nat → Nat} {k t N : Nat} (h0 : k ≠ 0) (h1 : k ≠ 30) (h2 : k ≠ 33) (h3 : k ≠ 36) (h4 : k ≠ 54) : cellOf ca ad (1, t, [N]) (hz k) = zI (ca t) N := by
  have hf : (fun j => Int32.ofInt (hz k j)) = fun _ => 0 := funext fun j => by rw [hz_0 h0 h1 h2 h3 h4]; rfl
  show (.inl (ca t, N, .inl (fun j => Int32.ofInt (hz k j))) : va_E) = _
  rw [hf]
theorem ce2 {ca : Nat → ClassId} {ad : Nat → Nat} {k t N : Nat} (h0 : k ≠ 0) (h1 : k ≠ 30) (h2 : k ≠ 33) (h3 : k ≠ 36) (h4 : k ≠ 54) : cellOf ca ad (2, t, [N]) (hz k) = zJ (ca t) N := by
  have hf : (fun j => Int64.ofInt (hz k j)) = fun _ => 0 := funext fun j => by rw [hz_0 h0 h1 h2 h3 h4]; rfl
  show (.inl (ca t, N, .inr (.inl (fun j => Int64.ofInt (hz k j)))) : va_E) = _
  rw [hf]
theorem ce3 {B b : Nat} {x : Nat → Nat} : (fun j => (([56, 57, 58, 59, 60, 61, 62, 63, 64, 65, 66, 67, 68] : List Nat)[j]?).map (adF B x b)) = shF (B + 17) 13 := by
  funext j
  match j with
  | 0 =>
    show some (adF B x b 56) = some (B + 17 + (15 + 2 * 0))
    rw [ad_56]
  | 1 =>
    show some (adF B x b 57) = some (B + 17 + (15 + 2 * 1))
    rw [ad_57]
  | 2 =>
    show some (adF B x b 58) = some (B + 17 + (15 + 2 * 2))
    rw [ad_58]
  | 3 =>
    show some (adF B x b 59) = some (B + 17 + (15 + 2 * 3))
    rw [ad_59]
  | 4 =>
    show some (adF B x b 60) = some (B + 17 + (15 + 2 * 4))
    rw [ad_60]
  | 5 =>
    show some (adF B x b 61) = some (B + 17 + (15 + 2 * 5))
    rw [ad_61]
  | 6 =>
    show some (adF B x b 62) = some (B + 17 + (15 + 2 * 6))
    rw [ad_62]
  | 7 =>
    show some (adF B x b 63) = some (B + 17 + (15 + 2 * 7))
    rw [ad_63]
  | 8 =>
    show some (adF B x b 64) = some (B + 17 + (15 + 2 * 8))
    rw [ad_64]
  | 9 =>
    show some (adF B x b 65) = some (B + 17 + (15 + 2 * 9))
    rw [ad_65]
  | 10 =>
    show some (adF B x b 66) = some (B + 17 + (15 + 2 * 10))
    rw [ad_66]
  | 11 =>
    show some (adF B x b 67) = some (B + 17 + (15 + 2 * 11))
    rw [ad_67]
  | 12 =>
    show some (adF B x b 68) = some (B + 17 + (15 + 2 * 12))
    rw [ad_68]
  | j + 13 =>
    show none = _
    unfold shF
    rw [if_neg (by omega)]
theorem ce4 {B b : Nat} {x : Nat → Nat} : (fun j => (([90, 91, 92, 93] : List Nat)[j]?).map (adF B x b)) = (fun j => if j < 4 then some (B + 26 + 1 + j) else none) := by
  funext j
  match j with
  | 0 =>
    show some (adF B x b 90) = some (B + 26 + 1 + 0)
    rw [ad_90]
  | 1 =>
    show some (adF B x b 91) = some (B + 26 + 1 + 1)
    rw [ad_91]
  | 2 =>
    show some (adF B x b 92) = some (B + 26 + 1 + 2)
    rw [ad_92]
  | 3 =>
    show some (adF B x b 93) = some (B + 26 + 1 + 3)
    rw [ad_93]
  | j + 4 =>
    show none = _
    rw [if_neg (by omega)]
section
variable {ca : Nat → ClassId} {B : Nat} {q : Nat × va_E}
theorem in_shW {b : Nat} : ∀ (n i : Nat), i < n → q ∈ wX8 ca (b + (15 + 2 * i)) → q ∈ shW ca b n
  | 0, i, h, _ => by omega
  | n + 1, i, h, hq => by
    rcases Nat.lt_or_ge i n with hi | hi
    · exact List.mem_append_left _ (in_shW n i hi hq)
    · have e0 : i = n := by omega
      subst e0
      exact List.mem_append_right _ hq
theorem in_0 (h : q ∈ wX9 ca (B + 1)) : q ∈ wB ca B := List.mem_append_left _ (List.mem_cons_of_mem _ (List.mem_append_left _ (List.mem_append_left _ (List.mem_append_left _ (List.mem_append_left _ (List.mem_append_left _ (List.mem_append_left _ (List.mem_append_left _ (List.mem_append_left _ (List.mem_append_left _ h))))))))))
theorem in_1 (h : q ∈ wX5 ca (B + 3)) : q ∈ wB ca B := List.mem_append_left _ (List.mem_cons_of_mem _ (List.mem_append_left _ (List.mem_append_left _ (List.mem_append_left _ (List.mem_append_left _ (List.mem_append_left _ (List.mem_append_left _ (List.mem_append_left _ (List.mem_append_left _ (List.mem_append_right _ h))))))))))
theorem in_2 (h : q ∈ wX10 ca (B + 6)) : q ∈ wB ca B := List.mem_append_left _ (List.mem_cons_of_mem _ (List.mem_append_left _ (List.mem_append_left _ (List.mem_append_left _ (List.mem_append_left _ (List.mem_append_left _ (List.mem_append_left _ (List.mem_append_left _ (List.mem_append_right _ h)))))))))
theorem in_3 (h : q ∈ wX7 ca (B + 8)) : q ∈ wB ca B := List.mem_append_left _ (List.mem_cons_of_mem _ (List.mem_append_left _ (List.mem_append_left _ (List.mem_append_left _ (List.mem_append_left _ (List.mem_append_left _ (List.mem_append_left _ (List.mem_append_right _ h))))))))
theorem in_4 (h : q ∈ wX6 ca (B + 12) (B + 1)) : q ∈ wB ca B := List.mem_append_left _ (List.mem_cons_of_mem _ (List.mem_append_left _ (List.mem_append_left _ (List.mem_append_left _ (List.mem_append_left _ (List.mem_append_left _ (List.mem_append_right _ h)))))))
theorem in_5 (h : q ∈ wX1 ca (B + 17) (B + 3) (B + 8)) : q ∈ wB ca B := List.mem_append_left _ (List.mem_cons_of_mem _ (List.mem_append_left _ (List.mem_append_left _ (List.mem_append_left _ (List.mem_append_left _ (List.mem_append_right _ h))))))
theorem in_6 (h : q ∈ wX4 ca (B + 58) (B + 3)) : q ∈ wB ca B := List.mem_append_left _ (List.mem_cons_of_mem _ (List.mem_append_left _ (List.mem_append_left _ (List.mem_append_left _ (List.mem_append_right _ h)))))
theorem in_7 (h : q ∈ wX0 ca (B + 61) (B + 3)) : q ∈ wB ca B := List.mem_append_left _ (List.mem_cons_of_mem _ (List.mem_append_left _ (List.mem_append_left _ (List.mem_append_right _ h))))
theorem in_8 (h : q ∈ wX5 ca (B + 65)) : q ∈ wB ca B := List.mem_append_left _ (List.mem_cons_of_mem _ (List.mem_append_left _ (List.mem_append_right _ h)))
theorem in_9 (h : q ∈ wX7 ca (B + 68)) : q ∈ wB ca B := List.mem_append_left _ (List.mem_cons_of_mem _ (List.mem_append_right _ h))
theorem in_m (h : q ∈ wX12 ca (B + 72)) : q ∈ wB ca B := List.mem_append_right _ h
theorem in_d0 (h : q ∈ wX8 ca (B + 17 + 2)) : q ∈ wB ca B := in_5 (List.mem_cons_of_mem _ (List.mem_cons_of_mem _ (List.mem_append_left _ (show q ∈ r0X1 ca (B + 17) (B + 3) from (List.mem_append_left _ (List.mem_append_left _ (List.mem_append_left _ h)))))))
theorem in_d1 (h : q ∈ wX8 ca (B + 17 + 4)) : q ∈ wB ca B := in_5 (List.mem_cons_of_mem _ (List.mem_cons_of_mem _ (List.mem_append_left _ (show q ∈ r0X1 ca (B + 17) (B + 3) from (List.mem_append_left _ (List.mem_append_left _ (List.mem_append_right _ h)))))))
theorem in_d2 (h : q ∈ wX2 ca (B + 17 + 6) (B + 3)) : q ∈ wB ca B := in_5 (List.mem_cons_of_mem _ (List.mem_cons_of_mem _ (List.mem_append_left _ (show q ∈ r0X1 ca (B + 17) (B + 3) from (List.mem_append_left _ (List.mem_append_right _ h))))))
theorem in_d3 (h : q ∈ wX3 ca (B + 17 + 7) (B + 3)) : q ∈ wB ca B := in_5 (List.mem_cons_of_mem _ (List.mem_cons_of_mem _ (List.mem_append_left _ (show q ∈ r0X1 ca (B + 17) (B + 3) from (List.mem_append_right _ h)))))
theorem in_s {i : Nat} (hi : i < 13) (h : q ∈ wX8 ca (B + 17 + (15 + 2 * i))) : q ∈ wB ca B := in_5 (List.mem_cons_of_mem _ (List.mem_cons_of_mem _ (List.mem_append_right _ (in_shW 13 i hi h))))
end
set_option maxRecDepth 100000 in
theorem zm_0 (ca : Nat → ClassId) (B b : Nat) (x : Nat → Nat) : (adF B x b 0, cellOf ca (adF B x b) (0, 12, [2+1, 2+2, 2+3, 2+4, 2+5, 2+6, 2+7, 2+8, 2+9, 2+10, 2+11, 0, 0, 0, 0, 0, 0, 0, 0, 0, 0, 0, 0, 0, 2+12, 0, 0, 0, 0, 0, 0, 0, 2+13, 2+14, 2+15, 2+16, 2+17, 2+18, 2+19, 2+20, 2+21, 2+22, 2+23, 2+24, 0, 0, 0, 0, 2+25, 2+26, 2+27, 2+28, 2+29, 0]) (hz 0)) ∈ wB ca B := by
  have e0 : cellOf ca (adF B x b) (0, 12, [2+1, 2+2, 2+3, 2+4, 2+5, 2+6, 2+7, 2+8, 2+9, 2+10, 2+11, 0, 0, 0, 0, 0, 0, 0, 0, 0, 0, 0, 0, 0, 2+12, 0, 0, 0, 0, 0, 0, 0, 2+13, 2+14, 2+15, 2+16, 2+17, 2+18, 2+19, 2+20, 2+21, 2+22, 2+23, 2+24, 0, 0, 0, 0, 2+25, 2+26, 2+27, 2+28, 2+29, 0]) (hz 0) = .inr (12, [.ref (adF B x b 1), .ref (adF B x b 2), .ref (adF B x b 3), .ref (adF B x b 4), .ref (adF B x b 5), .ref (adF B x b 6), .ref (adF B x b 7), .ref (adF B x b 8), .ref (adF B x b 9), .ref (adF B x b 10), .ref (adF B x b 11), .int (Int32.ofInt (4)), .int (Int32.ofInt (4)), .int 0, .int 0, .int (Int32.ofInt (1)), .int 0, .int 0, .int 0, .int 0, .int 0, .int 0, .int 0, .int 0, .ref (adF B x b 12), .int 0, .int 0, .int 0, .int 0, .int 0, .int 0, .int 0, .ref (adF B x b 13), .ref (adF B x b 14), .ref (adF B x b 15), .ref (adF B x b 16), .ref (adF B x b 17), .ref (adF B x b 18), .ref (adF B x b 19), .ref (adF B x b 20), .ref (adF B x b 21), .ref (adF B x b 22), .ref (adF B x b 23), .ref (adF B x b 24), .int 0, .int 0, .int 0, .int 0, .ref (adF B x b 25), .ref (adF B x b 26), .ref (adF B x b 27), .ref (adF B x b 28), .ref (adF B x b 29), .int 0]) := rfl
  rw [e0, ad_0, ad_1, ad_2, ad_3, ad_4, ad_5, ad_6, ad_7, ad_8, ad_9, ad_10, ad_11, ad_12, ad_13, ad_14, ad_15, ad_16, ad_17, ad_18, ad_19, ad_20, ad_21, ad_22, ad_23, ad_24, ad_25, ad_26, ad_27, ad_28, ad_29]
  exact in_m List.mem_cons_self
set_option maxRecDepth 100000 in
theorem zm_1 (ca : Nat → ClassId) (B b : Nat) (x : Nat → Nat) : (adF B x b 1, cellOf ca (adF B x b) (1, 0, [256]) (hz 1)) ∈ wB ca B := by
  rw [ce1 (by decide) (by decide) (by decide) (by decide) (by decide), ad_1]
  exact in_m (List.mem_cons_of_mem _ List.mem_cons_self)
set_option maxRecDepth 100000 in
theorem zm_2 (ca : Nat → ClassId) (B b : Nat) (x : Nat → Nat) : (adF B x b 2, cellOf ca (adF B x b) (1, 0, [768]) (hz 2)) ∈ wB ca B := by
  rw [ce1 (by decide) (by decide) (by decide) (by decide) (by decide), ad_2]
  exact in_m (List.mem_cons_of_mem _ (List.mem_cons_of_mem _ List.mem_cons_self))
set_option maxRecDepth 100000 in
theorem zm_3 (ca : Nat → ClassId) (B b : Nat) (x : Nat → Nat) : (adF B x b 3, cellOf ca (adF B x b) (1, 0, [12]) (hz 3)) ∈ wB ca B := by
  rw [ce1 (by decide) (by decide) (by decide) (by decide) (by decide), ad_3]
  exact in_m (List.mem_cons_of_mem _ (List.mem_cons_of_mem _ (List.mem_cons_of_mem _ List.mem_cons_self)))
set_option maxRecDepth 100000 in
theorem zm_4 (ca : Nat → ClassId) (B b : Nat) (x : Nat → Nat) : (adF B x b 4, cellOf ca (adF B x b) (1, 0, [13]) (hz 4)) ∈ wB ca B := by
  rw [ce1 (by decide) (by decide) (by decide) (by decide) (by decide), ad_4]
  exact in_m (List.mem_cons_of_mem _ (List.mem_cons_of_mem _ (List.mem_cons_of_mem _ (List.mem_cons_of_mem _ List.mem_cons_self))))
set_option maxRecDepth 100000 in
theorem zm_5 (ca : Nat → ClassId) (B b : Nat) (x : Nat → Nat) : (adF B x b 5, cellOf ca (adF B x b) (1, 0, [130]) (hz 5)) ∈ wB ca B := by
  rw [ce1 (by decide) (by decide) (by decide) (by decide) (by decide), ad_5]
  exact in_m (List.mem_cons_of_mem _ (List.mem_cons_of_mem _ (List.mem_cons_of_mem _ (List.mem_cons_of_mem _ (List.mem_cons_of_mem _ List.mem_cons_self)))))
set_option maxRecDepth 100000 in
theorem zm_6 (ca : Nat → ClassId) (B b : Nat) (x : Nat → Nat) : (adF B x b 6, cellOf ca (adF B x b) (1, 0, [256]) (hz 6)) ∈ wB ca B := by
  rw [ce1 (by decide) (by decide) (by decide) (by decide) (by decide), ad_6]
  exact in_m (List.mem_cons_of_mem _ (List.mem_cons_of_mem _ (List.mem_cons_of_mem _ (List.mem_cons_of_mem _ (List.mem_cons_of_mem _ (List.mem_cons_of_mem _ List.mem_cons_self))))))
set_option maxRecDepth 100000 in
theorem zm_7 (ca : Nat → ClassId) (B b : Nat) (x : Nat → Nat) : (adF B x b 7, cellOf ca (adF B x b) (1, 0, [12]) (hz 7)) ∈ wB ca B := by
  rw [ce1 (by decide) (by decide) (by decide) (by decide) (by decide), ad_7]
  exact in_m (List.mem_cons_of_mem _ (List.mem_cons_of_mem _ (List.mem_cons_of_mem _ (List.mem_cons_of_mem _ (List.mem_cons_of_mem _ (List.mem_cons_of_mem _ (List.mem_cons_of_mem _ List.mem_cons_self)))))))
set_option maxRecDepth 100000 in
theorem zm_8 (ca : Nat → ClassId) (B b : Nat) (x : Nat → Nat) : (adF B x b 8, cellOf ca (adF B x b) (1, 0, [13]) (hz 8)) ∈ wB ca B := by
  rw [ce1 (by decide) (by decide) (by decide) (by decide) (by decide), ad_8]
  exact in_m (List.mem_cons_of_mem _ (List.mem_cons_of_mem _ (List.mem_cons_of_mem _ (List.mem_cons_of_mem _ (List.mem_cons_of_mem _ (List.mem_cons_of_mem _ (List.mem_cons_of_mem _ (List.mem_cons_of_mem _ List.mem_cons_self))))))))
set_option maxRecDepth 100000 in
theorem zm_9 (ca : Nat → ClassId) (B b : Nat) (x : Nat → Nat) : (adF B x b 9, cellOf ca (adF B x b) (1, 0, [130]) (hz 9)) ∈ wB ca B := by
  rw [ce1 (by decide) (by decide) (by decide) (by decide) (by decide), ad_9]
  exact in_m (List.mem_cons_of_mem _ (List.mem_cons_of_mem _ (List.mem_cons_of_mem _ (List.mem_cons_of_mem _ (List.mem_cons_of_mem _ (List.mem_cons_of_mem _ (List.mem_cons_of_mem _ (List.mem_cons_of_mem _ (List.mem_cons_of_mem _ List.mem_cons_self)))))))))
set_option maxRecDepth 100000 in
theorem zm_10 (ca : Nat → ClassId) (B b : Nat) (x : Nat → Nat) : (adF B x b 10, cellOf ca (adF B x b) (1, 1, [256]) (hz 10)) ∈ wB ca B := by
  rw [ce1 (by decide) (by decide) (by decide) (by decide) (by decide), ad_10]
  exact in_m (List.mem_cons_of_mem _ (List.mem_cons_of_mem _ (List.mem_cons_of_mem _ (List.mem_cons_of_mem _ (List.mem_cons_of_mem _ (List.mem_cons_of_mem _ (List.mem_cons_of_mem _ (List.mem_cons_of_mem _ (List.mem_cons_of_mem _ (List.mem_cons_of_mem _ List.mem_cons_self))))))))))
set_option maxRecDepth 100000 in
theorem zm_11 (ca : Nat → ClassId) (B b : Nat) (x : Nat → Nat) : (adF B x b 11, cellOf ca (adF B x b) (1, 1, [256]) (hz 11)) ∈ wB ca B := by
  rw [ce1 (by decide) (by decide) (by decide) (by decide) (by decide), ad_11]
  exact in_m (List.mem_cons_of_mem _ (List.mem_cons_of_mem _ (List.mem_cons_of_mem _ (List.mem_cons_of_mem _ (List.mem_cons_of_mem _ (List.mem_cons_of_mem _ (List.mem_cons_of_mem _ (List.mem_cons_of_mem _ (List.mem_cons_of_mem _ (List.mem_cons_of_mem _ (List.mem_cons_of_mem _ List.mem_cons_self)))))))))))
set_option maxRecDepth 100000 in
theorem zm_12 (ca : Nat → ClassId) (B b : Nat) (x : Nat → Nat) : (adF B x b 12, cellOf ca (adF B x b) (1, 2, [140]) (hz 12)) ∈ wB ca B := by
  rw [ce1 (by decide) (by decide) (by decide) (by decide) (by decide), ad_12]
  exact in_m (List.mem_cons_of_mem _ (List.mem_cons_of_mem _ (List.mem_cons_of_mem _ (List.mem_cons_of_mem _ (List.mem_cons_of_mem _ (List.mem_cons_of_mem _ (List.mem_cons_of_mem _ (List.mem_cons_of_mem _ (List.mem_cons_of_mem _ (List.mem_cons_of_mem _ (List.mem_cons_of_mem _ (List.mem_cons_of_mem _ List.mem_cons_self))))))))))))
set_option maxRecDepth 100000 in
theorem zm_13 (ca : Nat → ClassId) (B b : Nat) (x : Nat → Nat) : (adF B x b 13, cellOf ca (adF B x b) (1, 0, [12]) (hz 13)) ∈ wB ca B := by
  rw [ce1 (by decide) (by decide) (by decide) (by decide) (by decide), ad_13]
  exact in_m (List.mem_cons_of_mem _ (List.mem_cons_of_mem _ (List.mem_cons_of_mem _ (List.mem_cons_of_mem _ (List.mem_cons_of_mem _ (List.mem_cons_of_mem _ (List.mem_cons_of_mem _ (List.mem_cons_of_mem _ (List.mem_cons_of_mem _ (List.mem_cons_of_mem _ (List.mem_cons_of_mem _ (List.mem_cons_of_mem _ (List.mem_cons_of_mem _ List.mem_cons_self)))))))))))))
set_option maxRecDepth 100000 in
theorem zm_14 (ca : Nat → ClassId) (B b : Nat) (x : Nat → Nat) : (adF B x b 14, cellOf ca (adF B x b) (1, 0, [13]) (hz 14)) ∈ wB ca B := by
  rw [ce1 (by decide) (by decide) (by decide) (by decide) (by decide), ad_14]
  exact in_m (List.mem_cons_of_mem _ (List.mem_cons_of_mem _ (List.mem_cons_of_mem _ (List.mem_cons_of_mem _ (List.mem_cons_of_mem _ (List.mem_cons_of_mem _ (List.mem_cons_of_mem _ (List.mem_cons_of_mem _ (List.mem_cons_of_mem _ (List.mem_cons_of_mem _ (List.mem_cons_of_mem _ (List.mem_cons_of_mem _ (List.mem_cons_of_mem _ (List.mem_cons_of_mem _ List.mem_cons_self))))))))))))))
set_option maxRecDepth 100000 in
theorem zm_15 (ca : Nat → ClassId) (B b : Nat) (x : Nat → Nat) : (adF B x b 15, cellOf ca (adF B x b) (1, 0, [130]) (hz 15)) ∈ wB ca B := by
  rw [ce1 (by decide) (by decide) (by decide) (by decide) (by decide), ad_15]
  exact in_m (List.mem_cons_of_mem _ (List.mem_cons_of_mem _ (List.mem_cons_of_mem _ (List.mem_cons_of_mem _ (List.mem_cons_of_mem _ (List.mem_cons_of_mem _ (List.mem_cons_of_mem _ (List.mem_cons_of_mem _ (List.mem_cons_of_mem _ (List.mem_cons_of_mem _ (List.mem_cons_of_mem _ (List.mem_cons_of_mem _ (List.mem_cons_of_mem _ (List.mem_cons_of_mem _ (List.mem_cons_of_mem _ List.mem_cons_self)))))))))))))))
set_option maxRecDepth 100000 in
theorem zm_16 (ca : Nat → ClassId) (B b : Nat) (x : Nat → Nat) : (adF B x b 16, cellOf ca (adF B x b) (1, 0, [6]) (hz 16)) ∈ wB ca B := by
  rw [ce1 (by decide) (by decide) (by decide) (by decide) (by decide), ad_16]
  exact in_m (List.mem_cons_of_mem _ (List.mem_cons_of_mem _ (List.mem_cons_of_mem _ (List.mem_cons_of_mem _ (List.mem_cons_of_mem _ (List.mem_cons_of_mem _ (List.mem_cons_of_mem _ (List.mem_cons_of_mem _ (List.mem_cons_of_mem _ (List.mem_cons_of_mem _ (List.mem_cons_of_mem _ (List.mem_cons_of_mem _ (List.mem_cons_of_mem _ (List.mem_cons_of_mem _ (List.mem_cons_of_mem _ (List.mem_cons_of_mem _ List.mem_cons_self))))))))))))))))
set_option maxRecDepth 100000 in
theorem zm_17 (ca : Nat → ClassId) (B b : Nat) (x : Nat → Nat) : (adF B x b 17, cellOf ca (adF B x b) (1, 0, [11520]) (hz 17)) ∈ wB ca B := by
  rw [ce1 (by decide) (by decide) (by decide) (by decide) (by decide), ad_17]
  exact in_m (List.mem_cons_of_mem _ (List.mem_cons_of_mem _ (List.mem_cons_of_mem _ (List.mem_cons_of_mem _ (List.mem_cons_of_mem _ (List.mem_cons_of_mem _ (List.mem_cons_of_mem _ (List.mem_cons_of_mem _ (List.mem_cons_of_mem _ (List.mem_cons_of_mem _ (List.mem_cons_of_mem _ (List.mem_cons_of_mem _ (List.mem_cons_of_mem _ (List.mem_cons_of_mem _ (List.mem_cons_of_mem _ (List.mem_cons_of_mem _ (List.mem_cons_of_mem _ List.mem_cons_self)))))))))))))))))
set_option maxRecDepth 100000 in
theorem zm_18 (ca : Nat → ClassId) (B b : Nat) (x : Nat → Nat) : (adF B x b 18, cellOf ca (adF B x b) (1, 0, [256]) (hz 18)) ∈ wB ca B := by
  rw [ce1 (by decide) (by decide) (by decide) (by decide) (by decide), ad_18]
  exact in_m (List.mem_cons_of_mem _ (List.mem_cons_of_mem _ (List.mem_cons_of_mem _ (List.mem_cons_of_mem _ (List.mem_cons_of_mem _ (List.mem_cons_of_mem _ (List.mem_cons_of_mem _ (List.mem_cons_of_mem _ (List.mem_cons_of_mem _ (List.mem_cons_of_mem _ (List.mem_cons_of_mem _ (List.mem_cons_of_mem _ (List.mem_cons_of_mem _ (List.mem_cons_of_mem _ (List.mem_cons_of_mem _ (List.mem_cons_of_mem _ (List.mem_cons_of_mem _ (List.mem_cons_of_mem _ List.mem_cons_self))))))))))))))))))
set_option maxRecDepth 100000 in
theorem zm_19 (ca : Nat → ClassId) (B b : Nat) (x : Nat → Nat) : (adF B x b 19, cellOf ca (adF B x b) (1, 0, [768]) (hz 19)) ∈ wB ca B := by
  rw [ce1 (by decide) (by decide) (by decide) (by decide) (by decide), ad_19]
  exact in_m (List.mem_cons_of_mem _ (List.mem_cons_of_mem _ (List.mem_cons_of_mem _ (List.mem_cons_of_mem _ (List.mem_cons_of_mem _ (List.mem_cons_of_mem _ (List.mem_cons_of_mem _ (List.mem_cons_of_mem _ (List.mem_cons_of_mem _ (List.mem_cons_of_mem _ (List.mem_cons_of_mem _ (List.mem_cons_of_mem _ (List.mem_cons_of_mem _ (List.mem_cons_of_mem _ (List.mem_cons_of_mem _ (List.mem_cons_of_mem _ (List.mem_cons_of_mem _ (List.mem_cons_of_mem _ (List.mem_cons_of_mem _ List.mem_cons_self)))))))))))))))))))
set_option maxRecDepth 100000 in
theorem zm_20 (ca : Nat → ClassId) (B b : Nat) (x : Nat → Nat) : (adF B x b 20, cellOf ca (adF B x b) (1, 0, [9]) (hz 20)) ∈ wB ca B := by
  rw [ce1 (by decide) (by decide) (by decide) (by decide) (by decide), ad_20]
  exact in_m (List.mem_cons_of_mem _ (List.mem_cons_of_mem _ (List.mem_cons_of_mem _ (List.mem_cons_of_mem _ (List.mem_cons_of_mem _ (List.mem_cons_of_mem _ (List.mem_cons_of_mem _ (List.mem_cons_of_mem _ (List.mem_cons_of_mem _ (List.mem_cons_of_mem _ (List.mem_cons_of_mem _ (List.mem_cons_of_mem _ (List.mem_cons_of_mem _ (List.mem_cons_of_mem _ (List.mem_cons_of_mem _ (List.mem_cons_of_mem _ (List.mem_cons_of_mem _ (List.mem_cons_of_mem _ (List.mem_cons_of_mem _ (List.mem_cons_of_mem _ List.mem_cons_self))))))))))))))))))))
set_option maxRecDepth 100000 in
theorem zm_21 (ca : Nat → ClassId) (B b : Nat) (x : Nat → Nat) : (adF B x b 21, cellOf ca (adF B x b) (1, 0, [4]) (hz 21)) ∈ wB ca B := by
  rw [ce1 (by decide) (by decide) (by decide) (by decide) (by decide), ad_21]
  exact in_m (List.mem_cons_of_mem _ (List.mem_cons_of_mem _ (List.mem_cons_of_mem _ (List.mem_cons_of_mem _ (List.mem_cons_of_mem _ (List.mem_cons_of_mem _ (List.mem_cons_of_mem _ (List.mem_cons_of_mem _ (List.mem_cons_of_mem _ (List.mem_cons_of_mem _ (List.mem_cons_of_mem _ (List.mem_cons_of_mem _ (List.mem_cons_of_mem _ (List.mem_cons_of_mem _ (List.mem_cons_of_mem _ (List.mem_cons_of_mem _ (List.mem_cons_of_mem _ (List.mem_cons_of_mem _ (List.mem_cons_of_mem _ (List.mem_cons_of_mem _ (List.mem_cons_of_mem _ List.mem_cons_self)))))))))))))))))))))
set_option maxRecDepth 100000 in
theorem zm_22 (ca : Nat → ClassId) (B b : Nat) (x : Nat → Nat) : (adF B x b 22, cellOf ca (adF B x b) (1, 0, [1024]) (hz 22)) ∈ wB ca B := by
  rw [ce1 (by decide) (by decide) (by decide) (by decide) (by decide), ad_22]
  exact in_m (List.mem_cons_of_mem _ (List.mem_cons_of_mem _ (List.mem_cons_of_mem _ (List.mem_cons_of_mem _ (List.mem_cons_of_mem _ (List.mem_cons_of_mem _ (List.mem_cons_of_mem _ (List.mem_cons_of_mem _ (List.mem_cons_of_mem _ (List.mem_cons_of_mem _ (List.mem_cons_of_mem _ (List.mem_cons_of_mem _ (List.mem_cons_of_mem _ (List.mem_cons_of_mem _ (List.mem_cons_of_mem _ (List.mem_cons_of_mem _ (List.mem_cons_of_mem _ (List.mem_cons_of_mem _ (List.mem_cons_of_mem _ (List.mem_cons_of_mem _ (List.mem_cons_of_mem _ (List.mem_cons_of_mem _ List.mem_cons_self))))))))))))))))))))))
set_option maxRecDepth 100000 in
theorem zm_23 (ca : Nat → ClassId) (B b : Nat) (x : Nat → Nat) : (adF B x b 23, cellOf ca (adF B x b) (1, 0, [130]) (hz 23)) ∈ wB ca B := by
  rw [ce1 (by decide) (by decide) (by decide) (by decide) (by decide), ad_23]
  exact in_m (List.mem_cons_of_mem _ (List.mem_cons_of_mem _ (List.mem_cons_of_mem _ (List.mem_cons_of_mem _ (List.mem_cons_of_mem _ (List.mem_cons_of_mem _ (List.mem_cons_of_mem _ (List.mem_cons_of_mem _ (List.mem_cons_of_mem _ (List.mem_cons_of_mem _ (List.mem_cons_of_mem _ (List.mem_cons_of_mem _ (List.mem_cons_of_mem _ (List.mem_cons_of_mem _ (List.mem_cons_of_mem _ (List.mem_cons_of_mem _ (List.mem_cons_of_mem _ (List.mem_cons_of_mem _ (List.mem_cons_of_mem _ (List.mem_cons_of_mem _ (List.mem_cons_of_mem _ (List.mem_cons_of_mem _ (List.mem_cons_of_mem _ List.mem_cons_self)))))))))))))))))))))))
set_option maxRecDepth 100000 in
theorem zm_24 (ca : Nat → ClassId) (B b : Nat) (x : Nat → Nat) : (adF B x b 24, cellOf ca (adF B x b) (1, 1, [256]) (hz 24)) ∈ wB ca B := by
  rw [ce1 (by decide) (by decide) (by decide) (by decide) (by decide), ad_24]
  exact in_m (List.mem_cons_of_mem _ (List.mem_cons_of_mem _ (List.mem_cons_of_mem _ (List.mem_cons_of_mem _ (List.mem_cons_of_mem _ (List.mem_cons_of_mem _ (List.mem_cons_of_mem _ (List.mem_cons_of_mem _ (List.mem_cons_of_mem _ (List.mem_cons_of_mem _ (List.mem_cons_of_mem _ (List.mem_cons_of_mem _ (List.mem_cons_of_mem _ (List.mem_cons_of_mem _ (List.mem_cons_of_mem _ (List.mem_cons_of_mem _ (List.mem_cons_of_mem _ (List.mem_cons_of_mem _ (List.mem_cons_of_mem _ (List.mem_cons_of_mem _ (List.mem_cons_of_mem _ (List.mem_cons_of_mem _ (List.mem_cons_of_mem _ (List.mem_cons_of_mem _ List.mem_cons_self))))))))))))))))))))))))
set_option maxRecDepth 100000 in
theorem zm_25 (ca : Nat → ClassId) (B b : Nat) (x : Nat → Nat) : (adF B x b 25, cellOf ca (adF B x b) (1, 0, [256]) (hz 25)) ∈ wB ca B := by
  rw [ce1 (by decide) (by decide) (by decide) (by decide) (by decide), ad_25]
  exact in_m (List.mem_cons_of_mem _ (List.mem_cons_of_mem _ (List.mem_cons_of_mem _ (List.mem_cons_of_mem _ (List.mem_cons_of_mem _ (List.mem_cons_of_mem _ (List.mem_cons_of_mem _ (List.mem_cons_of_mem _ (List.mem_cons_of_mem _ (List.mem_cons_of_mem _ (List.mem_cons_of_mem _ (List.mem_cons_of_mem _ (List.mem_cons_of_mem _ (List.mem_cons_of_mem _ (List.mem_cons_of_mem _ (List.mem_cons_of_mem _ (List.mem_cons_of_mem _ (List.mem_cons_of_mem _ (List.mem_cons_of_mem _ (List.mem_cons_of_mem _ (List.mem_cons_of_mem _ (List.mem_cons_of_mem _ (List.mem_cons_of_mem _ (List.mem_cons_of_mem _ (List.mem_cons_of_mem _ List.mem_cons_self)))))))))))))))))))))))))
set_option maxRecDepth 100000 in
theorem zm_26 (ca : Nat → ClassId) (B b : Nat) (x : Nat → Nat) : (adF B x b 26, cellOf ca (adF B x b) (1, 0, [256]) (hz 26)) ∈ wB ca B := by
  rw [ce1 (by decide) (by decide) (by decide) (by decide) (by decide), ad_26]
  exact in_m (List.mem_cons_of_mem _ (List.mem_cons_of_mem _ (List.mem_cons_of_mem _ (List.mem_cons_of_mem _ (List.mem_cons_of_mem _ (List.mem_cons_of_mem _ (List.mem_cons_of_mem _ (List.mem_cons_of_mem _ (List.mem_cons_of_mem _ (List.mem_cons_of_mem _ (List.mem_cons_of_mem _ (List.mem_cons_of_mem _ (List.mem_cons_of_mem _ (List.mem_cons_of_mem _ (List.mem_cons_of_mem _ (List.mem_cons_of_mem _ (List.mem_cons_of_mem _ (List.mem_cons_of_mem _ (List.mem_cons_of_mem _ (List.mem_cons_of_mem _ (List.mem_cons_of_mem _ (List.mem_cons_of_mem _ (List.mem_cons_of_mem _ (List.mem_cons_of_mem _ (List.mem_cons_of_mem _ (List.mem_cons_of_mem _ List.mem_cons_self))))))))))))))))))))))))))
set_option maxRecDepth 100000 in
theorem zm_27 (ca : Nat → ClassId) (B b : Nat) (x : Nat → Nat) : (adF B x b 27, cellOf ca (adF B x b) (1, 0, [256]) (hz 27)) ∈ wB ca B := by
  rw [ce1 (by decide) (by decide) (by decide) (by decide) (by decide), ad_27]
  exact in_m (List.mem_cons_of_mem _ (List.mem_cons_of_mem _ (List.mem_cons_of_mem _ (List.mem_cons_of_mem _ (List.mem_cons_of_mem _ (List.mem_cons_of_mem _ (List.mem_cons_of_mem _ (List.mem_cons_of_mem _ (List.mem_cons_of_mem _ (List.mem_cons_of_mem _ (List.mem_cons_of_mem _ (List.mem_cons_of_mem _ (List.mem_cons_of_mem _ (List.mem_cons_of_mem _ (List.mem_cons_of_mem _ (List.mem_cons_of_mem _ (List.mem_cons_of_mem _ (List.mem_cons_of_mem _ (List.mem_cons_of_mem _ (List.mem_cons_of_mem _ (List.mem_cons_of_mem _ (List.mem_cons_of_mem _ (List.mem_cons_of_mem _ (List.mem_cons_of_mem _ (List.mem_cons_of_mem _ (List.mem_cons_of_mem _ (List.mem_cons_of_mem _ List.mem_cons_self)))))))))))))))))))))))))))
set_option maxRecDepth 100000 in
theorem zm_28 (ca : Nat → ClassId) (B b : Nat) (x : Nat → Nat) : (adF B x b 28, cellOf ca (adF B x b) (1, 0, [256]) (hz 28)) ∈ wB ca B := by
  rw [ce1 (by decide) (by decide) (by decide) (by decide) (by decide), ad_28]
  exact in_m (List.mem_cons_of_mem _ (List.mem_cons_of_mem _ (List.mem_cons_of_mem _ (List.mem_cons_of_mem _ (List.mem_cons_of_mem _ (List.mem_cons_of_mem _ (List.mem_cons_of_mem _ (List.mem_cons_of_mem _ (List.mem_cons_of_mem _ (List.mem_cons_of_mem _ (List.mem_cons_of_mem _ (List.mem_cons_of_mem _ (List.mem_cons_of_mem _ (List.mem_cons_of_mem _ (List.mem_cons_of_mem _ (List.mem_cons_of_mem _ (List.mem_cons_of_mem _ (List.mem_cons_of_mem _ (List.mem_cons_of_mem _ (List.mem_cons_of_mem _ (List.mem_cons_of_mem _ (List.mem_cons_of_mem _ (List.mem_cons_of_mem _ (List.mem_cons_of_mem _ (List.mem_cons_of_mem _ (List.mem_cons_of_mem _ (List.mem_cons_of_mem _ (List.mem_cons_of_mem _ List.mem_cons_self))))))))))))))))))))))))))))
set_option maxRecDepth 100000 in
theorem zm_29 (ca : Nat → ClassId) (B b : Nat) (x : Nat → Nat) : (adF B x b 29, cellOf ca (adF B x b) (1, 0, [256]) (hz 29)) ∈ wB ca B := by
  rw [ce1 (by decide) (by decide) (by decide) (by decide) (by decide), ad_29]
  exact in_m (List.mem_cons_of_mem _ (List.mem_cons_of_mem _ (List.mem_cons_of_mem _ (List.mem_cons_of_mem _ (List.mem_cons_of_mem _ (List.mem_cons_of_mem _ (List.mem_cons_of_mem _ (List.mem_cons_of_mem _ (List.mem_cons_of_mem _ (List.mem_cons_of_mem _ (List.mem_cons_of_mem _ (List.mem_cons_of_mem _ (List.mem_cons_of_mem _ (List.mem_cons_of_mem _ (List.mem_cons_of_mem _ (List.mem_cons_of_mem _ (List.mem_cons_of_mem _ (List.mem_cons_of_mem _ (List.mem_cons_of_mem _ (List.mem_cons_of_mem _ (List.mem_cons_of_mem _ (List.mem_cons_of_mem _ (List.mem_cons_of_mem _ (List.mem_cons_of_mem _ (List.mem_cons_of_mem _ (List.mem_cons_of_mem _ (List.mem_cons_of_mem _ (List.mem_cons_of_mem _ (List.mem_cons_of_mem _ List.mem_cons_self)))))))))))))))))))))))))))))
set_option maxRecDepth 100000 in
theorem zm_30 (ca : Nat → ClassId) (B b : Nat) (x : Nat → Nat) : (adF B x b 30, cellOf ca (adF B x b) (0, 11, [2+31, 2+33, 2+39, 2+41, 2+53, 2+54, 2+95, 2+98, 2+36, 2+45, 0, 0, 0]) (hz 30)) ∈ wB ca B := by
  have e0 : cellOf ca (adF B x b) (0, 11, [2+31, 2+33, 2+39, 2+41, 2+53, 2+54, 2+95, 2+98, 2+36, 2+45, 0, 0, 0]) (hz 30) = .inr (11, [.ref (adF B x b 31), .ref (adF B x b 33), .ref (adF B x b 39), .ref (adF B x b 41), .ref (adF B x b 53), .ref (adF B x b 54), .ref (adF B x b 95), .ref (adF B x b 98), .ref (adF B x b 36), .ref (adF B x b 45), .int (Int32.ofInt (1)), .int 0, .int (Int32.ofInt (1))]) := rfl
  rw [e0, ad_30, ad_31, ad_33, ad_39, ad_41, ad_53, ad_54, ad_95, ad_98, ad_36, ad_45]
  exact List.mem_append_left _ List.mem_cons_self
set_option maxRecDepth 100000 in
theorem zm_31 (ca : Nat → ClassId) (B b : Nat) (x : Nat → Nat) : (adF B x b 31, cellOf ca (adF B x b) (0, 9, [2+32, 0]) (hz 31)) ∈ wB ca B := by
  have e0 : cellOf ca (adF B x b) (0, 9, [2+32, 0]) (hz 31) = .inr (9, [.ref (adF B x b 32), .int 0]) := rfl
  rw [e0, ad_31, ad_32]
  exact in_0 List.mem_cons_self
set_option maxRecDepth 100000 in
theorem zm_32 (ca : Nat → ClassId) (B b : Nat) (x : Nat → Nat) : (adF B x b 32, cellOf ca (adF B x b) (1, 0, [140]) (hz 32)) ∈ wB ca B := by
  rw [ce1 (by decide) (by decide) (by decide) (by decide) (by decide), ad_32]
  exact in_0 (List.mem_cons_of_mem _ List.mem_cons_self)
set_option maxRecDepth 100000 in
theorem zm_33 (ca : Nat → ClassId) (B b : Nat) (x : Nat → Nat) : (adF B x b 33, cellOf ca (adF B x b) (0, 5, [0, 0, 0, 2+34, 2+35]) (hz 33)) ∈ wB ca B := by
  have e0 : cellOf ca (adF B x b) (0, 5, [0, 0, 0, 2+34, 2+35]) (hz 33) = .inr (5, [.int (Int32.ofInt (4)), .int (Int32.ofInt (4)), .int 0, .ref (adF B x b 34), .ref (adF B x b 35)]) := rfl
  rw [e0, ad_33, ad_34, ad_35]
  exact in_1 List.mem_cons_self
set_option maxRecDepth 100000 in
theorem zm_34 (ca : Nat → ClassId) (B b : Nat) (x : Nat → Nat) : (adF B x b 34, cellOf ca (adF B x b) (1, 0, [256]) (hz 34)) ∈ wB ca B := by
  rw [ce1 (by decide) (by decide) (by decide) (by decide) (by decide), ad_34]
  exact in_1 (List.mem_cons_of_mem _ List.mem_cons_self)
set_option maxRecDepth 100000 in
theorem zm_35 (ca : Nat → ClassId) (B b : Nat) (x : Nat → Nat) : (adF B x b 35, cellOf ca (adF B x b) (1, 0, [256]) (hz 35)) ∈ wB ca B := by
  rw [ce1 (by decide) (by decide) (by decide) (by decide) (by decide), ad_35]
  exact in_1 (List.mem_cons_of_mem _ (List.mem_cons_of_mem _ List.mem_cons_self))
set_option maxRecDepth 100000 in
theorem zm_36 (ca : Nat → ClassId) (B b : Nat) (x : Nat → Nat) : (adF B x b 36, cellOf ca (adF B x b) (0, 5, [0, 0, 0, 2+37, 2+38]) (hz 36)) ∈ wB ca B := by
  have e0 : cellOf ca (adF B x b) (0, 5, [0, 0, 0, 2+37, 2+38]) (hz 36) = .inr (5, [.int (Int32.ofInt (4)), .int (Int32.ofInt (4)), .int 0, .ref (adF B x b 37), .ref (adF B x b 38)]) := rfl
  rw [e0, ad_36, ad_37, ad_38]
  exact in_8 List.mem_cons_self
set_option maxRecDepth 100000 in
theorem zm_37 (ca : Nat → ClassId) (B b : Nat) (x : Nat → Nat) : (adF B x b 37, cellOf ca (adF B x b) (1, 0, [256]) (hz 37)) ∈ wB ca B := by
  rw [ce1 (by decide) (by decide) (by decide) (by decide) (by decide), ad_37]
  exact in_8 (List.mem_cons_of_mem _ List.mem_cons_self)
set_option maxRecDepth 100000 in
theorem zm_38 (ca : Nat → ClassId) (B b : Nat) (x : Nat → Nat) : (adF B x b 38, cellOf ca (adF B x b) (1, 0, [256]) (hz 38)) ∈ wB ca B := by
  rw [ce1 (by decide) (by decide) (by decide) (by decide) (by decide), ad_38]
  exact in_8 (List.mem_cons_of_mem _ (List.mem_cons_of_mem _ List.mem_cons_self))
set_option maxRecDepth 100000 in
theorem zm_39 (ca : Nat → ClassId) (B b : Nat) (x : Nat → Nat) : (adF B x b 39, cellOf ca (adF B x b) (0, 10, [2+40, 0]) (hz 39)) ∈ wB ca B := by
  have e0 : cellOf ca (adF B x b) (0, 10, [2+40, 0]) (hz 39) = .inr (10, [.ref (adF B x b 40), .int 0]) := rfl
  rw [e0, ad_39, ad_40]
  exact in_2 List.mem_cons_self
set_option maxRecDepth 100000 in
theorem zm_40 (ca : Nat → ClassId) (B b : Nat) (x : Nat → Nat) : (adF B x b 40, cellOf ca (adF B x b) (1, 0, [768]) (hz 40)) ∈ wB ca B := by
  rw [ce1 (by decide) (by decide) (by decide) (by decide) (by decide), ad_40]
  exact in_2 (List.mem_cons_of_mem _ List.mem_cons_self)
set_option maxRecDepth 100000 in
theorem zm_41 (ca : Nat → ClassId) (B b : Nat) (x : Nat → Nat) : (adF B x b 41, cellOf ca (adF B x b) (0, 7, [0, 0, 2+42, 2+43, 2+44]) (hz 41)) ∈ wB ca B := by
  have e0 : cellOf ca (adF B x b) (0, 7, [0, 0, 2+42, 2+43, 2+44]) (hz 41) = .inr (7, [.int 0, .int 0, .ref (adF B x b 42), .ref (adF B x b 43), .ref (adF B x b 44)]) := rfl
  rw [e0, ad_41, ad_42, ad_43, ad_44]
  exact in_3 List.mem_cons_self
set_option maxRecDepth 100000 in
theorem zm_42 (ca : Nat → ClassId) (B b : Nat) (x : Nat → Nat) : (adF B x b 42, cellOf ca (adF B x b) (1, 0, [14]) (hz 42)) ∈ wB ca B := by
  rw [ce1 (by decide) (by decide) (by decide) (by decide) (by decide), ad_42]
  exact in_3 (List.mem_cons_of_mem _ List.mem_cons_self)
set_option maxRecDepth 100000 in
theorem zm_43 (ca : Nat → ClassId) (B b : Nat) (x : Nat → Nat) : (adF B x b 43, cellOf ca (adF B x b) (1, 0, [14]) (hz 43)) ∈ wB ca B := by
  rw [ce1 (by decide) (by decide) (by decide) (by decide) (by decide), ad_43]
  exact in_3 (List.mem_cons_of_mem _ (List.mem_cons_of_mem _ List.mem_cons_self))
set_option maxRecDepth 100000 in
theorem zm_44 (ca : Nat → ClassId) (B b : Nat) (x : Nat → Nat) : (adF B x b 44, cellOf ca (adF B x b) (1, 0, [64]) (hz 44)) ∈ wB ca B := by
  rw [ce1 (by decide) (by decide) (by decide) (by decide) (by decide), ad_44]
  exact in_3 (List.mem_cons_of_mem _ (List.mem_cons_of_mem _ (List.mem_cons_of_mem _ List.mem_cons_self)))
set_option maxRecDepth 100000 in
theorem zm_45 (ca : Nat → ClassId) (B b : Nat) (x : Nat → Nat) : (adF B x b 45, cellOf ca (adF B x b) (0, 7, [0, 0, 2+46, 2+47, 2+48]) (hz 45)) ∈ wB ca B := by
  have e0 : cellOf ca (adF B x b) (0, 7, [0, 0, 2+46, 2+47, 2+48]) (hz 45) = .inr (7, [.int 0, .int 0, .ref (adF B x b 46), .ref (adF B x b 47), .ref (adF B x b 48)]) := rfl
  rw [e0, ad_45, ad_46, ad_47, ad_48]
  exact in_9 List.mem_cons_self
set_option maxRecDepth 100000 in
theorem zm_46 (ca : Nat → ClassId) (B b : Nat) (x : Nat → Nat) : (adF B x b 46, cellOf ca (adF B x b) (1, 0, [14]) (hz 46)) ∈ wB ca B := by
  rw [ce1 (by decide) (by decide) (by decide) (by decide) (by decide), ad_46]
  exact in_9 (List.mem_cons_of_mem _ List.mem_cons_self)
set_option maxRecDepth 100000 in
theorem zm_47 (ca : Nat → ClassId) (B b : Nat) (x : Nat → Nat) : (adF B x b 47, cellOf ca (adF B x b) (1, 0, [14]) (hz 47)) ∈ wB ca B := by
  rw [ce1 (by decide) (by decide) (by decide) (by decide) (by decide), ad_47]
  exact in_9 (List.mem_cons_of_mem _ (List.mem_cons_of_mem _ List.mem_cons_self))
set_option maxRecDepth 100000 in
theorem zm_48 (ca : Nat → ClassId) (B b : Nat) (x : Nat → Nat) : (adF B x b 48, cellOf ca (adF B x b) (1, 0, [64]) (hz 48)) ∈ wB ca B := by
  rw [ce1 (by decide) (by decide) (by decide) (by decide) (by decide), ad_48]
  exact in_9 (List.mem_cons_of_mem _ (List.mem_cons_of_mem _ (List.mem_cons_of_mem _ List.mem_cons_self)))
set_option maxRecDepth 100000 in
theorem zm_49 (ca : Nat → ClassId) (B b : Nat) (x : Nat → Nat) : (adF B x b 49, cellOf ca (adF B x b) (0, 7, [0, 0, 2+50, 2+51, 2+52]) (hz 49)) ∈ wB ca B := by
  have e0 : cellOf ca (adF B x b) (0, 7, [0, 0, 2+50, 2+51, 2+52]) (hz 49) = .inr (7, [.int 0, .int 0, .ref (adF B x b 50), .ref (adF B x b 51), .ref (adF B x b 52)]) := rfl
  rw [e0, ad_49, ad_50, ad_51, ad_52]
  exact in_4 (List.mem_cons_of_mem _ (show _ ∈ wX7 ca (B + 12 + 1) from List.mem_cons_self))
set_option maxRecDepth 100000 in
theorem zm_50 (ca : Nat → ClassId) (B b : Nat) (x : Nat → Nat) : (adF B x b 50, cellOf ca (adF B x b) (1, 0, [14]) (hz 50)) ∈ wB ca B := by
  rw [ce1 (by decide) (by decide) (by decide) (by decide) (by decide), ad_50]
  exact in_4 (List.mem_cons_of_mem _ (show _ ∈ wX7 ca (B + 12 + 1) from (List.mem_cons_of_mem _ List.mem_cons_self)))
set_option maxRecDepth 100000 in
theorem zm_51 (ca : Nat → ClassId) (B b : Nat) (x : Nat → Nat) : (adF B x b 51, cellOf ca (adF B x b) (1, 0, [14]) (hz 51)) ∈ wB ca B := by
  rw [ce1 (by decide) (by decide) (by decide) (by decide) (by decide), ad_51]
  exact in_4 (List.mem_cons_of_mem _ (show _ ∈ wX7 ca (B + 12 + 1) from (List.mem_cons_of_mem _ (List.mem_cons_of_mem _ List.mem_cons_self))))
set_option maxRecDepth 100000 in
theorem zm_52 (ca : Nat → ClassId) (B b : Nat) (x : Nat → Nat) : (adF B x b 52, cellOf ca (adF B x b) (1, 0, [64]) (hz 52)) ∈ wB ca B := by
  rw [ce1 (by decide) (by decide) (by decide) (by decide) (by decide), ad_52]
  exact in_4 (List.mem_cons_of_mem _ (show _ ∈ wX7 ca (B + 12 + 1) from (List.mem_cons_of_mem _ (List.mem_cons_of_mem _ (List.mem_cons_of_mem _ List.mem_cons_self)))))
set_option maxRecDepth 100000 in
theorem zm_53 (ca : Nat → ClassId) (B b : Nat) (x : Nat → Nat) : (adF B x b 53, cellOf ca (adF B x b) (0, 6, [2+49, 2+31, 0, 0, 0]) (hz 53)) ∈ wB ca B := by
  have e0 : cellOf ca (adF B x b) (0, 6, [2+49, 2+31, 0, 0, 0]) (hz 53) = .inr (6, [.ref (adF B x b 49), .ref (adF B x b 31), .int 0, .int 0, .int 0]) := rfl
  rw [e0, ad_53, ad_49, ad_31]
  exact in_4 List.mem_cons_self
set_option maxRecDepth 100000 in
theorem zm_54 (ca : Nat → ClassId) (B b : Nat) (x : Nat → Nat) : (adF B x b 54, cellOf ca (adF B x b) (0, 1, [2+86, 2+87, 2+33, 2+41, 2+55, 2+69, 2+70, 0]) (hz 54)) ∈ wB ca B := by
  have e0 : cellOf ca (adF B x b) (0, 1, [2+86, 2+87, 2+33, 2+41, 2+55, 2+69, 2+70, 0]) (hz 54) = .inr (1, [.ref (adF B x b 86), .ref (adF B x b 87), .ref (adF B x b 33), .ref (adF B x b 41), .ref (adF B x b 55), .ref (adF B x b 69), .ref (adF B x b 70), .int (Int32.ofInt (-1))]) := rfl
  rw [e0, ad_54, ad_86, ad_87, ad_33, ad_41, ad_55, ad_69, ad_70]
  exact in_5 List.mem_cons_self
set_option maxRecDepth 100000 in
theorem zm_55 (ca : Nat → ClassId) (B b : Nat) (x : Nat → Nat) : (adF B x b 55, cellOf ca (adF B x b) (3, 4, [56, 57, 58, 59, 60, 61, 62, 63, 64, 65, 66, 67, 68]) (hz 55)) ∈ wB ca B := by
  have e0 : cellOf ca (adF B x b) (3, 4, [56, 57, 58, 59, 60, 61, 62, 63, 64, 65, 66, 67, 68]) (hz 55) = zR (ca 4) 13 (shF (B + 17) 13) := by
    rw [← ce3 (x := x) (b := b)]; rfl
  rw [e0, ad_55]
  exact in_5 (List.mem_cons_of_mem _ List.mem_cons_self)
set_option maxRecDepth 100000 in
theorem zm_56 (ca : Nat → ClassId) (B b : Nat) (x : Nat → Nat) : (adF B x b 56, cellOf ca (adF B x b) (0, 8, [2+71, 0]) (hz 56)) ∈ wB ca B := by
  have e0 : cellOf ca (adF B x b) (0, 8, [2+71, 0]) (hz 56) = .inr (8, [.ref (adF B x b 71), .int 0]) := rfl
  rw [e0, ad_56, ad_71]
  exact in_s (i := 0) (by decide) List.mem_cons_self
set_option maxRecDepth 100000 in
theorem zm_57 (ca : Nat → ClassId) (B b : Nat) (x : Nat → Nat) : (adF B x b 57, cellOf ca (adF B x b) (0, 8, [2+72, 0]) (hz 57)) ∈ wB ca B := by
  have e0 : cellOf ca (adF B x b) (0, 8, [2+72, 0]) (hz 57) = .inr (8, [.ref (adF B x b 72), .int 0]) := rfl
  rw [e0, ad_57, ad_72]
  exact in_s (i := 1) (by decide) List.mem_cons_self
set_option maxRecDepth 100000 in
theorem zm_58 (ca : Nat → ClassId) (B b : Nat) (x : Nat → Nat) : (adF B x b 58, cellOf ca (adF B x b) (0, 8, [2+73, 0]) (hz 58)) ∈ wB ca B := by
  have e0 : cellOf ca (adF B x b) (0, 8, [2+73, 0]) (hz 58) = .inr (8, [.ref (adF B x b 73), .int 0]) := rfl
  rw [e0, ad_58, ad_73]
  exact in_s (i := 2) (by decide) List.mem_cons_self
set_option maxRecDepth 100000 in
theorem zm_59 (ca : Nat → ClassId) (B b : Nat) (x : Nat → Nat) : (adF B x b 59, cellOf ca (adF B x b) (0, 8, [2+74, 0]) (hz 59)) ∈ wB ca B := by
  have e0 : cellOf ca (adF B x b) (0, 8, [2+74, 0]) (hz 59) = .inr (8, [.ref (adF B x b 74), .int 0]) := rfl
  rw [e0, ad_59, ad_74]
  exact in_s (i := 3) (by decide) List.mem_cons_self
set_option maxRecDepth 100000 in
theorem zm_60 (ca : Nat → ClassId) (B b : Nat) (x : Nat → Nat) : (adF B x b 60, cellOf ca (adF B x b) (0, 8, [2+75, 0]) (hz 60)) ∈ wB ca B := by
  have e0 : cellOf ca (adF B x b) (0, 8, [2+75, 0]) (hz 60) = .inr (8, [.ref (adF B x b 75), .int 0]) := rfl
  rw [e0, ad_60, ad_75]
  exact in_s (i := 4) (by decide) List.mem_cons_self
set_option maxRecDepth 100000 in
theorem zm_61 (ca : Nat → ClassId) (B b : Nat) (x : Nat → Nat) : (adF B x b 61, cellOf ca (adF B x b) (0, 8, [2+76, 0]) (hz 61)) ∈ wB ca B := by
  have e0 : cellOf ca (adF B x b) (0, 8, [2+76, 0]) (hz 61) = .inr (8, [.ref (adF B x b 76), .int 0]) := rfl
  rw [e0, ad_61, ad_76]
  exact in_s (i := 5) (by decide) List.mem_cons_self
set_option maxRecDepth 100000 in
theorem zm_62 (ca : Nat → ClassId) (B b : Nat) (x : Nat → Nat) : (adF B x b 62, cellOf ca (adF B x b) (0, 8, [2+77, 0]) (hz 62)) ∈ wB ca B := by
  have e0 : cellOf ca (adF B x b) (0, 8, [2+77, 0]) (hz 62) = .inr (8, [.ref (adF B x b 77), .int 0]) := rfl
  rw [e0, ad_62, ad_77]
  exact in_s (i := 6) (by decide) List.mem_cons_self
set_option maxRecDepth 100000 in
theorem zm_63 (ca : Nat → ClassId) (B b : Nat) (x : Nat → Nat) : (adF B x b 63, cellOf ca (adF B x b) (0, 8, [2+78, 0]) (hz 63)) ∈ wB ca B := by
  have e0 : cellOf ca (adF B x b) (0, 8, [2+78, 0]) (hz 63) = .inr (8, [.ref (adF B x b 78), .int 0]) := rfl
  rw [e0, ad_63, ad_78]
  exact in_s (i := 7) (by decide) List.mem_cons_self
set_option maxRecDepth 100000 in
theorem zm_64 (ca : Nat → ClassId) (B b : Nat) (x : Nat → Nat) : (adF B x b 64, cellOf ca (adF B x b) (0, 8, [2+79, 0]) (hz 64)) ∈ wB ca B := by
  have e0 : cellOf ca (adF B x b) (0, 8, [2+79, 0]) (hz 64) = .inr (8, [.ref (adF B x b 79), .int 0]) := rfl
  rw [e0, ad_64, ad_79]
  exact in_s (i := 8) (by decide) List.mem_cons_self
set_option maxRecDepth 100000 in
theorem zm_65 (ca : Nat → ClassId) (B b : Nat) (x : Nat → Nat) : (adF B x b 65, cellOf ca (adF B x b) (0, 8, [2+80, 0]) (hz 65)) ∈ wB ca B := by
  have e0 : cellOf ca (adF B x b) (0, 8, [2+80, 0]) (hz 65) = .inr (8, [.ref (adF B x b 80), .int 0]) := rfl
  rw [e0, ad_65, ad_80]
  exact in_s (i := 9) (by decide) List.mem_cons_self
set_option maxRecDepth 100000 in
theorem zm_66 (ca : Nat → ClassId) (B b : Nat) (x : Nat → Nat) : (adF B x b 66, cellOf ca (adF B x b) (0, 8, [2+81, 0]) (hz 66)) ∈ wB ca B := by
  have e0 : cellOf ca (adF B x b) (0, 8, [2+81, 0]) (hz 66) = .inr (8, [.ref (adF B x b 81), .int 0]) := rfl
  rw [e0, ad_66, ad_81]
  exact in_s (i := 10) (by decide) List.mem_cons_self
set_option maxRecDepth 100000 in
theorem zm_67 (ca : Nat → ClassId) (B b : Nat) (x : Nat → Nat) : (adF B x b 67, cellOf ca (adF B x b) (0, 8, [2+82, 0]) (hz 67)) ∈ wB ca B := by
  have e0 : cellOf ca (adF B x b) (0, 8, [2+82, 0]) (hz 67) = .inr (8, [.ref (adF B x b 82), .int 0]) := rfl
  rw [e0, ad_67, ad_82]
  exact in_s (i := 11) (by decide) List.mem_cons_self
set_option maxRecDepth 100000 in
theorem zm_68 (ca : Nat → ClassId) (B b : Nat) (x : Nat → Nat) : (adF B x b 68, cellOf ca (adF B x b) (0, 8, [2+83, 0]) (hz 68)) ∈ wB ca B := by
  have e0 : cellOf ca (adF B x b) (0, 8, [2+83, 0]) (hz 68) = .inr (8, [.ref (adF B x b 83), .int 0]) := rfl
  rw [e0, ad_68, ad_83]
  exact in_s (i := 12) (by decide) List.mem_cons_self
set_option maxRecDepth 100000 in
theorem zm_69 (ca : Nat → ClassId) (B b : Nat) (x : Nat → Nat) : (adF B x b 69, cellOf ca (adF B x b) (0, 8, [2+84, 0]) (hz 69)) ∈ wB ca B := by
  have e0 : cellOf ca (adF B x b) (0, 8, [2+84, 0]) (hz 69) = .inr (8, [.ref (adF B x b 84), .int 0]) := rfl
  rw [e0, ad_69, ad_84]
  exact in_d0 List.mem_cons_self
set_option maxRecDepth 100000 in
theorem zm_70 (ca : Nat → ClassId) (B b : Nat) (x : Nat → Nat) : (adF B x b 70, cellOf ca (adF B x b) (0, 8, [2+85, 0]) (hz 70)) ∈ wB ca B := by
  have e0 : cellOf ca (adF B x b) (0, 8, [2+85, 0]) (hz 70) = .inr (8, [.ref (adF B x b 85), .int 0]) := rfl
  rw [e0, ad_70, ad_85]
  exact in_d1 List.mem_cons_self
set_option maxRecDepth 100000 in
theorem zm_71 (ca : Nat → ClassId) (B b : Nat) (x : Nat → Nat) : (adF B x b 71, cellOf ca (adF B x b) (1, 0, [768]) (hz 71)) ∈ wB ca B := by
  rw [ce1 (by decide) (by decide) (by decide) (by decide) (by decide), ad_71]
  exact in_s (i := 0) (by decide) (List.mem_cons_of_mem _ List.mem_cons_self)
set_option maxRecDepth 100000 in
theorem zm_72 (ca : Nat → ClassId) (B b : Nat) (x : Nat → Nat) : (adF B x b 72, cellOf ca (adF B x b) (1, 0, [768]) (hz 72)) ∈ wB ca B := by
  rw [ce1 (by decide) (by decide) (by decide) (by decide) (by decide), ad_72]
  exact in_s (i := 1) (by decide) (List.mem_cons_of_mem _ List.mem_cons_self)
set_option maxRecDepth 100000 in
theorem zm_73 (ca : Nat → ClassId) (B b : Nat) (x : Nat → Nat) : (adF B x b 73, cellOf ca (adF B x b) (1, 0, [768]) (hz 73)) ∈ wB ca B := by
  rw [ce1 (by decide) (by decide) (by decide) (by decide) (by decide), ad_73]
  exact in_s (i := 2) (by decide) (List.mem_cons_of_mem _ List.mem_cons_self)
set_option maxRecDepth 100000 in
theorem zm_74 (ca : Nat → ClassId) (B b : Nat) (x : Nat → Nat) : (adF B x b 74, cellOf ca (adF B x b) (1, 0, [768]) (hz 74)) ∈ wB ca B := by
  rw [ce1 (by decide) (by decide) (by decide) (by decide) (by decide), ad_74]
  exact in_s (i := 3) (by decide) (List.mem_cons_of_mem _ List.mem_cons_self)
set_option maxRecDepth 100000 in
theorem zm_75 (ca : Nat → ClassId) (B b : Nat) (x : Nat → Nat) : (adF B x b 75, cellOf ca (adF B x b) (1, 0, [768]) (hz 75)) ∈ wB ca B := by
  rw [ce1 (by decide) (by decide) (by decide) (by decide) (by decide), ad_75]
  exact in_s (i := 4) (by decide) (List.mem_cons_of_mem _ List.mem_cons_self)
set_option maxRecDepth 100000 in
theorem zm_76 (ca : Nat → ClassId) (B b : Nat) (x : Nat → Nat) : (adF B x b 76, cellOf ca (adF B x b) (1, 0, [768]) (hz 76)) ∈ wB ca B := by
  rw [ce1 (by decide) (by decide) (by decide) (by decide) (by decide), ad_76]
  exact in_s (i := 5) (by decide) (List.mem_cons_of_mem _ List.mem_cons_self)
set_option maxRecDepth 100000 in
theorem zm_77 (ca : Nat → ClassId) (B b : Nat) (x : Nat → Nat) : (adF B x b 77, cellOf ca (adF B x b) (1, 0, [768]) (hz 77)) ∈ wB ca B := by
  rw [ce1 (by decide) (by decide) (by decide) (by decide) (by decide), ad_77]
  exact in_s (i := 6) (by decide) (List.mem_cons_of_mem _ List.mem_cons_self)
set_option maxRecDepth 100000 in
theorem zm_78 (ca : Nat → ClassId) (B b : Nat) (x : Nat → Nat) : (adF B x b 78, cellOf ca (adF B x b) (1, 0, [768]) (hz 78)) ∈ wB ca B := by
  rw [ce1 (by decide) (by decide) (by decide) (by decide) (by decide), ad_78]
  exact in_s (i := 7) (by decide) (List.mem_cons_of_mem _ List.mem_cons_self)
set_option maxRecDepth 100000 in
theorem zm_79 (ca : Nat → ClassId) (B b : Nat) (x : Nat → Nat) : (adF B x b 79, cellOf ca (adF B x b) (1, 0, [768]) (hz 79)) ∈ wB ca B := by
  rw [ce1 (by decide) (by decide) (by decide) (by decide) (by decide), ad_79]
  exact in_s (i := 8) (by decide) (List.mem_cons_of_mem _ List.mem_cons_self)
set_option maxRecDepth 100000 in
theorem zm_80 (ca : Nat → ClassId) (B b : Nat) (x : Nat → Nat) : (adF B x b 80, cellOf ca (adF B x b) (1, 0, [768]) (hz 80)) ∈ wB ca B := by
  rw [ce1 (by decide) (by decide) (by decide) (by decide) (by decide), ad_80]
  exact in_s (i := 9) (by decide) (List.mem_cons_of_mem _ List.mem_cons_self)
set_option maxRecDepth 100000 in
theorem zm_81 (ca : Nat → ClassId) (B b : Nat) (x : Nat → Nat) : (adF B x b 81, cellOf ca (adF B x b) (1, 0, [768]) (hz 81)) ∈ wB ca B := by
  rw [ce1 (by decide) (by decide) (by decide) (by decide) (by decide), ad_81]
  exact in_s (i := 10) (by decide) (List.mem_cons_of_mem _ List.mem_cons_self)
set_option maxRecDepth 100000 in
theorem zm_82 (ca : Nat → ClassId) (B b : Nat) (x : Nat → Nat) : (adF B x b 82, cellOf ca (adF B x b) (1, 0, [768]) (hz 82)) ∈ wB ca B := by
  rw [ce1 (by decide) (by decide) (by decide) (by decide) (by decide), ad_82]
  exact in_s (i := 11) (by decide) (List.mem_cons_of_mem _ List.mem_cons_self)
set_option maxRecDepth 100000 in
theorem zm_83 (ca : Nat → ClassId) (B b : Nat) (x : Nat → Nat) : (adF B x b 83, cellOf ca (adF B x b) (1, 0, [768]) (hz 83)) ∈ wB ca B := by
  rw [ce1 (by decide) (by decide) (by decide) (by decide) (by decide), ad_83]
  exact in_s (i := 12) (by decide) (List.mem_cons_of_mem _ List.mem_cons_self)
set_option maxRecDepth 100000 in
theorem zm_84 (ca : Nat → ClassId) (B b : Nat) (x : Nat → Nat) : (adF B x b 84, cellOf ca (adF B x b) (1, 0, [768]) (hz 84)) ∈ wB ca B := by
  rw [ce1 (by decide) (by decide) (by decide) (by decide) (by decide), ad_84]
  exact in_d0 (List.mem_cons_of_mem _ List.mem_cons_self)
set_option maxRecDepth 100000 in
theorem zm_85 (ca : Nat → ClassId) (B b : Nat) (x : Nat → Nat) : (adF B x b 85, cellOf ca (adF B x b) (1, 0, [768]) (hz 85)) ∈ wB ca B := by
  rw [ce1 (by decide) (by decide) (by decide) (by decide) (by decide), ad_85]
  exact in_d1 (List.mem_cons_of_mem _ List.mem_cons_self)
set_option maxRecDepth 100000 in
theorem zm_86 (ca : Nat → ClassId) (B b : Nat) (x : Nat → Nat) : (adF B x b 86, cellOf ca (adF B x b) (0, 2, [2+33]) (hz 86)) ∈ wB ca B := by
  have e0 : cellOf ca (adF B x b) (0, 2, [2+33]) (hz 86) = .inr (2, [.ref (adF B x b 33)]) := rfl
  rw [e0, ad_86, ad_33]
  exact in_d2 List.mem_cons_self
set_option maxRecDepth 100000 in
theorem zm_87 (ca : Nat → ClassId) (B b : Nat) (x : Nat → Nat) : (adF B x b 87, cellOf ca (adF B x b) (0, 3, [0, 0, 0, 2+88, 2+89, 2+94, 2+33]) (hz 87)) ∈ wB ca B := by
  have e0 : cellOf ca (adF B x b) (0, 3, [0, 0, 0, 2+88, 2+89, 2+94, 2+33]) (hz 87) = .inr (3, [.int 0, .int 0, .int 0, .ref (adF B x b 88), .ref (adF B x b 89), .ref (adF B x b 94), .ref (adF B x b 33)]) := rfl
  rw [e0, ad_87, ad_88, ad_89, ad_94, ad_33]
  exact in_d3 List.mem_cons_self
set_option maxRecDepth 100000 in
theorem zm_88 (ca : Nat → ClassId) (B b : Nat) (x : Nat → Nat) : (adF B x b 88, cellOf ca (adF B x b) (1, 0, [256]) (hz 88)) ∈ wB ca B := by
  rw [ce1 (by decide) (by decide) (by decide) (by decide) (by decide), ad_88]
  exact in_d3 (List.mem_cons_of_mem _ (List.mem_append_left _ (List.mem_append_left _ List.mem_cons_self)))
set_option maxRecDepth 100000 in
theorem zm_89 (ca : Nat → ClassId) (B b : Nat) (x : Nat → Nat) : (adF B x b 89, cellOf ca (adF B x b) (3, 5, [90, 91, 92, 93]) (hz 89)) ∈ wB ca B := by
  have e0 : cellOf ca (adF B x b) (3, 5, [90, 91, 92, 93]) (hz 89) = zR (ca 5) 4 (fun j => if j < 4 then some (B + 26 + 1 + j) else none) := by
    rw [← ce4 (x := x) (b := b)]; rfl
  rw [e0, ad_89]
  exact in_d3 (List.mem_cons_of_mem _ (List.mem_append_left _ (List.mem_append_right _ (show _ ∈ w5 ca (B + 17 + 7 + 2) from List.mem_cons_self))))
set_option maxRecDepth 100000 in
theorem zm_90 (ca : Nat → ClassId) (B b : Nat) (x : Nat → Nat) : (adF B x b 90, cellOf ca (adF B x b) (1, 0, [256]) (hz 90)) ∈ wB ca B := by
  rw [ce1 (by decide) (by decide) (by decide) (by decide) (by decide), ad_90]
  exact in_d3 (List.mem_cons_of_mem _ (List.mem_append_left _ (List.mem_append_right _ (show _ ∈ w5 ca (B + 17 + 7 + 2) from (List.mem_cons_of_mem _ List.mem_cons_self)))))
set_option maxRecDepth 100000 in
theorem zm_91 (ca : Nat → ClassId) (B b : Nat) (x : Nat → Nat) : (adF B x b 91, cellOf ca (adF B x b) (1, 0, [256]) (hz 91)) ∈ wB ca B := by
  rw [ce1 (by decide) (by decide) (by decide) (by decide) (by decide), ad_91]
  exact in_d3 (List.mem_cons_of_mem _ (List.mem_append_left _ (List.mem_append_right _ (show _ ∈ w5 ca (B + 17 + 7 + 2) from (List.mem_cons_of_mem _ (List.mem_cons_of_mem _ List.mem_cons_self))))))
set_option maxRecDepth 100000 in
theorem zm_92 (ca : Nat → ClassId) (B b : Nat) (x : Nat → Nat) : (adF B x b 92, cellOf ca (adF B x b) (1, 0, [256]) (hz 92)) ∈ wB ca B := by
  rw [ce1 (by decide) (by decide) (by decide) (by decide) (by decide), ad_92]
  exact in_d3 (List.mem_cons_of_mem _ (List.mem_append_left _ (List.mem_append_right _ (show _ ∈ w5 ca (B + 17 + 7 + 2) from (List.mem_cons_of_mem _ (List.mem_cons_of_mem _ (List.mem_cons_of_mem _ List.mem_cons_self)))))))
set_option maxRecDepth 100000 in
theorem zm_93 (ca : Nat → ClassId) (B b : Nat) (x : Nat → Nat) : (adF B x b 93, cellOf ca (adF B x b) (1, 0, [256]) (hz 93)) ∈ wB ca B := by
  rw [ce1 (by decide) (by decide) (by decide) (by decide) (by decide), ad_93]
  exact in_d3 (List.mem_cons_of_mem _ (List.mem_append_left _ (List.mem_append_right _ (show _ ∈ w5 ca (B + 17 + 7 + 2) from (List.mem_cons_of_mem _ (List.mem_cons_of_mem _ (List.mem_cons_of_mem _ (List.mem_cons_of_mem _ List.mem_cons_self))))))))
set_option maxRecDepth 100000 in
theorem zm_94 (ca : Nat → ClassId) (B b : Nat) (x : Nat → Nat) : (adF B x b 94, cellOf ca (adF B x b) (1, 0, [9]) (hz 94)) ∈ wB ca B := by
  rw [ce1 (by decide) (by decide) (by decide) (by decide) (by decide), ad_94]
  exact in_d3 (List.mem_cons_of_mem _ (List.mem_append_right _ List.mem_cons_self))
set_option maxRecDepth 100000 in
theorem zm_95 (ca : Nat → ClassId) (B b : Nat) (x : Nat → Nat) : (adF B x b 95, cellOf ca (adF B x b) (0, 4, [0, 0, 0, 0, 1, 1, 1, 0, 0, 2+96, 2+97, 2+33]) (hz 95)) ∈ wB ca B := by
  have e0 : cellOf ca (adF B x b) (0, 4, [0, 0, 0, 0, 1, 1, 1, 0, 0, 2+96, 2+97, 2+33]) (hz 95) = .inr (4, [.int 0, .int 0, .int 0, .int 0, .long 0, .long 0, .long 0, .int 0, .int 0, .ref (adF B x b 96), .ref (adF B x b 97), .ref (adF B x b 33)]) := rfl
  rw [e0, ad_95, ad_96, ad_97, ad_33]
  exact in_6 List.mem_cons_self
set_option maxRecDepth 100000 in
theorem zm_96 (ca : Nat → ClassId) (B b : Nat) (x : Nat → Nat) : (adF B x b 96, cellOf ca (adF B x b) (1, 0, [256]) (hz 96)) ∈ wB ca B := by
  rw [ce1 (by decide) (by decide) (by decide) (by decide) (by decide), ad_96]
  exact in_6 (List.mem_cons_of_mem _ List.mem_cons_self)
set_option maxRecDepth 100000 in
theorem zm_97 (ca : Nat → ClassId) (B b : Nat) (x : Nat → Nat) : (adF B x b 97, cellOf ca (adF B x b) (2, 3, [64]) (hz 97)) ∈ wB ca B := by
  rw [ce2 (by decide) (by decide) (by decide) (by decide) (by decide), ad_97]
  exact in_6 (List.mem_cons_of_mem _ (List.mem_cons_of_mem _ List.mem_cons_self))
set_option maxRecDepth 100000 in
theorem zm_98 (ca : Nat → ClassId) (B b : Nat) (x : Nat → Nat) : (adF B x b 98, cellOf ca (adF B x b) (0, 0, [0, 0, 0, 2+99, 2+100, 2+101, 0, 2+33]) (hz 98)) ∈ wB ca B := by
  have e0 : cellOf ca (adF B x b) (0, 0, [0, 0, 0, 2+99, 2+100, 2+101, 0, 2+33]) (hz 98) = .inr (0, [.int 0, .int 0, .int 0, .ref (adF B x b 99), .ref (adF B x b 100), .ref (adF B x b 101), .int 0, .ref (adF B x b 33)]) := rfl
  rw [e0, ad_98, ad_99, ad_100, ad_101, ad_33]
  exact in_7 List.mem_cons_self
set_option maxRecDepth 100000 in
theorem zm_99 (ca : Nat → ClassId) (B b : Nat) (x : Nat → Nat) : (adF B x b 99, cellOf ca (adF B x b) (1, 0, [256]) (hz 99)) ∈ wB ca B := by
  rw [ce1 (by decide) (by decide) (by decide) (by decide) (by decide), ad_99]
  exact in_7 (List.mem_cons_of_mem _ List.mem_cons_self)
set_option maxRecDepth 100000 in
theorem zm_100 (ca : Nat → ClassId) (B b : Nat) (x : Nat → Nat) : (adF B x b 100, cellOf ca (adF B x b) (1, 0, [256]) (hz 100)) ∈ wB ca B := by
  rw [ce1 (by decide) (by decide) (by decide) (by decide) (by decide), ad_100]
  exact in_7 (List.mem_cons_of_mem _ (List.mem_cons_of_mem _ List.mem_cons_self))
set_option maxRecDepth 100000 in
theorem zm_101 (ca : Nat → ClassId) (B b : Nat) (x : Nat → Nat) : (adF B x b 101, cellOf ca (adF B x b) (1, 0, [256]) (hz 101)) ∈ wB ca B := by
  rw [ce1 (by decide) (by decide) (by decide) (by decide) (by decide), ad_101]
  exact in_7 (List.mem_cons_of_mem _ (List.mem_cons_of_mem _ (List.mem_cons_of_mem _ List.mem_cons_self)))
set_option maxRecDepth 100000 in
theorem zm_all (ca : Nat → ClassId) (B b : Nat) (x : Nat → Nat) : ∀ (k : Nat) (d : Ds), tab[k]? = some d → (adF B x b k, cellOf ca (adF B x b) d (hz k)) ∈ wB ca B := by
  intro k d hd
  match k, hd with
  | 0, hd => cases hd; exact zm_0 ca B b x
  | 1, hd => cases hd; exact zm_1 ca B b x
  | 2, hd => cases hd; exact zm_2 ca B b x
  | 3, hd => cases hd; exact zm_3 ca B b x
  | 4, hd => cases hd; exact zm_4 ca B b x
  | 5, hd => cases hd; exact zm_5 ca B b x
  | 6, hd => cases hd; exact zm_6 ca B b x
  | 7, hd => cases hd; exact zm_7 ca B b x
  | 8, hd => cases hd; exact zm_8 ca B b x
  | 9, hd => cases hd; exact zm_9 ca B b x
  | 10, hd => cases hd; exact zm_10 ca B b x
  | 11, hd => cases hd; exact zm_11 ca B b x
  | 12, hd => cases hd; exact zm_12 ca B b x
  | 13, hd => cases hd; exact zm_13 ca B b x
  | 14, hd => cases hd; exact zm_14 ca B b x
  | 15, hd => cases hd; exact zm_15 ca B b x
  | 16, hd => cases hd; exact zm_16 ca B b x
  | 17, hd => cases hd; exact zm_17 ca B b x
  | 18, hd => cases hd; exact zm_18 ca B b x
  | 19, hd => cases hd; exact zm_19 ca B b x
  | 20, hd => cases hd; exact zm_20 ca B b x
  | 21, hd => cases hd; exact zm_21 ca B b x
  | 22, hd => cases hd; exact zm_22 ca B b x
  | 23, hd => cases hd; exact zm_23 ca B b x
  | 24, hd => cases hd; exact zm_24 ca B b x
  | 25, hd => cases hd; exact zm_25 ca B b x
  | 26, hd => cases hd; exact zm_26 ca B b x
  | 27, hd => cases hd; exact zm_27 ca B b x
  | 28, hd => cases hd; exact zm_28 ca B b x
  | 29, hd => cases hd; exact zm_29 ca B b x
  | 30, hd => cases hd; exact zm_30 ca B b x
  | 31, hd => cases hd; exact zm_31 ca B b x
  | 32, hd => cases hd; exact zm_32 ca B b x
  | 33, hd => cases hd; exact zm_33 ca B b x
  | 34, hd => cases hd; exact zm_34 ca B b x
  | 35, hd => cases hd; exact zm_35 ca B b x
  | 36, hd => cases hd; exact zm_36 ca B b x
  | 37, hd => cases hd; exact zm_37 ca B b x
  | 38, hd => cases hd; exact zm_38 ca B b x
  | 39, hd => cases hd; exact zm_39 ca B b x
  | 40, hd => cases hd; exact zm_40 ca B b x
  | 41, hd => cases hd; exact zm_41 ca B b x
  | 42, hd => cases hd; exact zm_42 ca B b x
  | 43, hd => cases hd; exact zm_43 ca B b x
  | 44, hd => cases hd; exact zm_44 ca B b x
  | 45, hd => cases hd; exact zm_45 ca B b x
  | 46, hd => cases hd; exact zm_46 ca B b x
  | 47, hd => cases hd; exact zm_47 ca B b x
  | 48, hd => cases hd; exact zm_48 ca B b x
  | 49, hd => cases hd; exact zm_49 ca B b x
  | 50, hd => cases hd; exact zm_50 ca B b x
  | 51, hd => cases hd; exact zm_51 ca B b x
  | 52, hd => cases hd; exact zm_52 ca B b x
  | 53, hd => cases hd; exact zm_53 ca B b x
  | 54, hd => cases hd; exact zm_54 ca B b x
  | 55, hd => cases hd; exact zm_55 ca B b x
  | 56, hd => cases hd; exact zm_56 ca B b x
  | 57, hd => cases hd; exact zm_57 ca B b x
  | 58, hd => cases hd; exact zm_58 ca B b x
  | 59, hd => cases hd; exact zm_59 ca B b x
  | 60, hd => cases hd; exact zm_60 ca B b x
  | 61, hd => cases hd; exact zm_61 ca B b x
  | 62, hd => cases hd; exact zm_62 ca B b x
  | 63, hd => cases hd; exact zm_63 ca B b x
  | 64, hd => cases hd; exact zm_64 ca B b x
  | 65, hd => cases hd; exact zm_65 ca B b x
  | 66, hd => cases hd; exact zm_66 ca B b x
  | 67, hd => cases hd; exact zm_67 ca B b x
  | 68, hd => cases hd; exact zm_68 ca B b x
  | 69, hd => cases hd; exact zm_69 ca B b x
  | 70, hd => cases hd; exact zm_70 ca B b x
  | 71, hd => cases hd; exact zm_71 ca B b x
  | 72, hd => cases hd; exact zm_72 ca B b x
  | 73, hd => cases hd; exact zm_73 ca B b x
  | 74, hd => cases hd; exact zm_74 ca B b x
  | 75, hd => cases hd; exact zm_75 ca B b x
  | 76, hd => cases hd; exact zm_76 ca B b x
  | 77, hd => cases hd; exact zm_77 ca B b x
  | 78, hd => cases hd; exact zm_78 ca B b x
  | 79, hd => cases hd; exact zm_79 ca B b x
  | 80, hd => cases hd; exact zm_80 ca B b x
  | 81, hd => cases hd; exact zm_81 ca B b x
  | 82, hd => cases hd; exact zm_82 ca B b x
  | 83, hd => cases hd; exact zm_83 ca B b x
  | 84, hd => cases hd; exact zm_84 ca B b x
  | 85, hd => cases hd; exact zm_85 ca B b x
  | 86, hd => cases hd; exact zm_86 ca B b x
  | 87, hd => cases hd; exact zm_87 ca B b x
  | 88, hd => cases hd; exact zm_88 ca B b x
  | 89, hd => cases hd; exact zm_89 ca B b x
  | 90, hd => cases hd; exact zm_90 ca B b x
  | 91, hd => cases hd; exact zm_91 ca B b x
  | 92, hd => cases hd; exact zm_92 ca B b x
  | 93, hd => cases hd; exact zm_93 ca B b x
  | 94, hd => cases hd; exact zm_94 ca B b x
  | 95, hd => cases hd; exact zm_95 ca B b x
  | 96, hd => cases hd; exact zm_96 ca B b x
  | 97, hd => cases hd; exact zm_97 ca B b x
  | 98, hd => cases hd; exact zm_98 ca B b x
  | 99, hd => cases hd; exact zm_99 ca B b x
  | 100, hd => cases hd; exact zm_100 ca B b x
  | 101, hd => cases hd; exact zm_101 ca B b x
  | k + 102, hd =>
    have := (List.getElem?_eq_some_iff.mp hd).1
    rw [tab_len] at this
    omega
theorem zm_P {l : Launch} {D : va_G} {ca : Nat → ClassId} {B b : Nat} {x : Nat → Nat} {H : Heap} (hP : nP D B 102 (wB ca B) H) : zP (mkG l D ca (adF B x b)) hz H := by
  intro k q hq
  obtain ⟨d, h1, h2⟩ := wlF_inv ca (adF B x b) hz tab 0 k q hq
  rw [Nat.zero_add] at h2
  subst h2
  obtain ⟨i, hi⟩ := List.getElem?_of_mem (zm_all ca B b x k d h1)
  exact hP.2.1 i _ hi
