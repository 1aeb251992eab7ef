/-! how many bits -/
def pcN (X : Nat) : Nat → Nat
  | 0 => 0
  | n + 1 => pcN X n + (if X.testBit n then 1 else 0)
def bc_bF (f : Nat → Nat) : Nat → Nat → Nat
  | 0, _ => 0
  | n + 1, X => f (X % 256) + 256 * bc_bF f n (X / 256)
def bc_mkM (m : Nat) : Nat → Nat
  | 0 => 0
  | n + 1 => m + 256 * bc_mkM m n
theorem bc_and256 {a b c d : Nat} (ha : a < 256) (hc : c < 256) : (a + 256 * b) &&& (c + 256 * d) = (a &&& c) + 256 * (b &&& d) := by
  have e : ∀ x y : Nat, x + 256 * y = 2 ^ 8 * y + x := fun x y => by omega
  have hac : a &&& c < 2 ^ 8 := Nat.lt_of_le_of_lt Nat.and_le_left (by omega)
  apply Nat.eq_of_testBit_eq
  intro i
  rw [Nat.testBit_and, e, e, e, Nat.testBit_two_pow_mul_add b (by omega), Nat.testBit_two_pow_mul_add d (by omega), Nat.testBit_two_pow_mul_add (b &&& d) hac]
  by_cases h : i < 8
  · rw [if_pos h, if_pos h, if_pos h, Nat.testBit_and]
  · rw [if_neg h, if_neg h, if_neg h, Nat.testBit_and]
def bc_f1 (b : Nat) : Nat := b - ((b / 2) &&& 85)
def bc_f2 (b : Nat) : Nat := (bc_f1 b &&& 51) + ((bc_f1 b / 4) &&& 51)
def bc_f3 (b : Nat) : Nat := (bc_f2 b + bc_f2 b / 16) &&& 15
theorem bc_t1 : ∀ b : Fin 256, ∀ q : Fin 2, ((b.val / 2 + 128 * q.val) &&& 85) = (b.val / 2) &&& 85 := by decide +kernel
theorem bc_t1b : ∀ b : Fin 256, ((b.val / 2) &&& 85) ≤ b.val ∧ bc_f1 b.val < 256 ∧ bc_f2 b.val ≤ 68 ∧ bc_f2 b.val % 16 ≤ 4 ∧ bc_f3 b.val = pcN b.val 8 := by decide +kernel
theorem bc_t2 : ∀ b : Fin 256, ∀ q : Fin 4, ((b.val / 4 + 64 * q.val) &&& 51) = (b.val / 4) &&& 51 := by decide +kernel
theorem bc_t3 : ∀ b : Fin 69, ∀ q : Fin 5, ((b.val + b.val / 16 + 16 * q.val) &&& 15) = (b.val + b.val / 16) &&& 15 := by decide +kernel
theorem bc_s1 : ∀ n X : Nat, X < 256 ^ n → X - ((X / 2) &&& bc_mkM 85 n) = bc_bF bc_f1 n X
  | 0, X, h => by
    show X - ((X / 2) &&& 0) = 0
    have : X < 1 := h
    omega
  | n + 1, X, h => by
    have ih := bc_s1 n (X / 256) (by rw [Nat.pow_succ] at h; omega)
    have k := bc_t1 ⟨X % 256, by omega⟩ ⟨X / 256 % 2, by omega⟩
    have kb := bc_t1b ⟨X % 256, by omega⟩
    dsimp only at k kb
    have e : X / 2 = (X % 256 / 2 + 128 * (X / 256 % 2)) + 256 * (X / 256 / 2) := by omega
    have le : (X / 256 / 2 &&& bc_mkM 85 n) ≤ X / 256 := Nat.le_trans Nat.and_le_left (by omega)
    show X - ((X / 2) &&& (85 + 256 * bc_mkM 85 n)) = bc_f1 (X % 256) + 256 * bc_bF bc_f1 n (X / 256)
    rw [e, bc_and256 (by omega) (by omega), k, ← ih]
    unfold bc_f1
    omega
theorem bc_s2 : ∀ n X : Nat, (bc_bF bc_f1 n X &&& bc_mkM 51 n) + ((bc_bF bc_f1 n X / 4) &&& bc_mkM 51 n) = bc_bF bc_f2 n X
  | 0, X => by
    show ((0 : Nat) &&& 0) + ((0 / 4) &&& 0) = 0
    decide
  | n + 1, X => by
    have ih := bc_s2 n (X / 256)
    have kb := bc_t1b ⟨X % 256, by omega⟩
    dsimp only at kb
    have k := bc_t2 ⟨bc_f1 (X % 256), kb.2.1⟩ ⟨bc_bF bc_f1 n (X / 256) % 4, by omega⟩
    dsimp only at k
    have e : (bc_f1 (X % 256) + 256 * bc_bF bc_f1 n (X / 256)) / 4 = (bc_f1 (X % 256) / 4 + 64 * (bc_bF bc_f1 n (X / 256) % 4)) + 256 * (bc_bF bc_f1 n (X / 256) / 4) := by omega
    show ((bc_f1 (X % 256) + 256 * bc_bF bc_f1 n (X / 256)) &&& (51 + 256 * bc_mkM 51 n)) + (((bc_f1 (X % 256) + 256 * bc_bF bc_f1 n (X / 256)) / 4) &&& (51 + 256 * bc_mkM 51 n)) = bc_f2 (X % 256) + 256 * bc_bF bc_f2 n (X / 256)
    rw [e, bc_and256 kb.2.1 (by omega), bc_and256 (by omega) (by omega), k, ← ih]
    unfold bc_f2
    omega
theorem bc_f2_4 : ∀ n X : Nat, bc_bF bc_f2 n X % 16 ≤ 4
  | 0, _ => by show (0 : Nat) % 16 ≤ 4; omega
  | n + 1, X => by
    have kb := bc_t1b ⟨X % 256, by omega⟩
    dsimp only at kb
    show (bc_f2 (X % 256) + 256 * bc_bF bc_f2 n (X / 256)) % 16 ≤ 4
    omega
theorem bc_s3 : ∀ n X : Nat, (bc_bF bc_f2 n X + bc_bF bc_f2 n X / 16) &&& bc_mkM 15 n = bc_bF bc_f3 n X
  | 0, X => by
    show ((0 : Nat) + 0 / 16) &&& 0 = 0
    decide
  | n + 1, X => by
    have ih := bc_s3 n (X / 256)
    have kb := bc_t1b ⟨X % 256, by omega⟩
    dsimp only at kb
    have q4 := bc_f2_4 n (X / 256)
    have k := bc_t3 ⟨bc_f2 (X % 256), by omega⟩ ⟨bc_bF bc_f2 n (X / 256) % 16, by omega⟩
    dsimp only at k
    have e : (bc_f2 (X % 256) + 256 * bc_bF bc_f2 n (X / 256)) + (bc_f2 (X % 256) + 256 * bc_bF bc_f2 n (X / 256)) / 16 = (bc_f2 (X % 256) + bc_f2 (X % 256) / 16 + 16 * (bc_bF bc_f2 n (X / 256) % 16)) + 256 * (bc_bF bc_f2 n (X / 256) + bc_bF bc_f2 n (X / 256) / 16) := by omega
    show (((bc_f2 (X % 256) + 256 * bc_bF bc_f2 n (X / 256)) + (bc_f2 (X % 256) + 256 * bc_bF bc_f2 n (X / 256)) / 16) &&& (15 + 256 * bc_mkM 15 n)) = bc_f3 (X % 256) + 256 * bc_bF bc_f3 n (X / 256)
    rw [e, bc_and256 (by omega) (by omega), k, ih]
    rfl
theorem pcN_add (X : Nat) : ∀ n, pcN X (8 + n) = pcN (X % 256) 8 + pcN (X / 256) n
  | 0 => by
    have b : ∀ i, i < 8 → (X % 256).testBit i = X.testBit i := fun i hi => by
      rw [show (256 : Nat) = 2 ^ 8 by rfl, Nat.testBit_mod_two_pow]
      simp [hi]
    show pcN X 8 = pcN (X % 256) 8 + 0
    simp only [pcN, b 0 (by omega), b 1 (by omega), b 2 (by omega), b 3 (by omega), b 4 (by omega), b 5 (by omega), b 6 (by omega), b 7 (by omega)]
    rfl
  | n + 1 => by
    have ih := pcN_add X n
    have e : (X / 256).testBit n = X.testBit (8 + n) := by
      rw [show (256 : Nat) = 2 ^ 8 by rfl, Nat.testBit_div_two_pow, Nat.add_comm]
    show pcN X (8 + n) + (if X.testBit (8 + n) then 1 else 0) = pcN (X % 256) 8 + (pcN (X / 256) n + (if (X / 256).testBit n then 1 else 0))
    rw [ih, e]
    omega
def bc_bS (f : Nat → Nat) : Nat → Nat → Nat
  | 0, _ => 0
  | n + 1, X => f (X % 256) + bc_bS f n (X / 256)
theorem bc_f3_pc : ∀ n X : Nat, bc_bS bc_f3 n X = pcN X (8 * n)
  | 0, _ => rfl
  | n + 1, X => by
    have kb := bc_t1b ⟨X % 256, by omega⟩
    dsimp only at kb
    show bc_f3 (X % 256) + bc_bS bc_f3 n (X / 256) = _
    rw [show 8 * (n + 1) = 8 + 8 * n by omega, pcN_add, bc_f3_pc n, kb.2.2.2.2]
theorem bc_f3_8 (X : Nat) : bc_f3 (X % 256) ≤ 8 := by
  have kb := bc_t1b ⟨X % 256, by omega⟩
  dsimp only at kb
  rw [kb.2.2.2.2]
  simp only [pcN]
  repeat' split
  all_goals omega
def bc_b5 (X : Nat) : Nat := X - ((X / 2) &&& 6148914691236517205)
def bc_b6 (S : Nat) : Nat := (S &&& 3689348814741910323) + ((S / 4) &&& 3689348814741910323)
def bc_b7 (S : Nat) : Nat := (S + S / 16) &&& 1085102592571150095
theorem bc_m85 : bc_mkM 85 8 = 6148914691236517205 := by decide +kernel
theorem bc_m51 : bc_mkM 51 8 = 3689348814741910323 := by decide +kernel
theorem bc_m15 : bc_mkM 15 8 = 1085102592571150095 := by decide +kernel
theorem bc_dvof {s A B k : Nat} (h : s = A + k * B) (ha : A < k) : s / k = B := by
  rw [h, Nat.add_mul_div_left _ _ (by omega), Nat.div_eq_of_lt ha, Nat.zero_add]
theorem bc_mdof {s A B k : Nat} (h : s = A + k * B) (ha : A < k) : s % k = A := by
  rw [h, Nat.add_mul_mod_self_left, Nat.mod_eq_of_lt ha]
theorem bc_y1 {d0 d1 d2 d3 d4 d5 d6 d7 : Nat} : d0 + 256 * (d1 + 256 * (d2 + 256 * (d3 + 256 * (d4 + 256 * (d5 + 256 * (d6 + 256 * (d7 + 256 * 0))))))) + (d1 + 256 * (d2 + 256 * (d3 + 256 * (d4 + 256 * (d5 + 256 * (d6 + 256 * (d7 + 256 * 0))))))) = (d0 + d1 + 256 * (d1 + d2)) + 65536 * ((d2 + d3) + 256 * (d3 + d4) + 65536 * ((d4 + d5) + 256 * (d5 + d6) + 65536 * ((d6 + d7) + 256 * d7))) := by omega
theorem bc_y2 {d0 d1 d2 d3 d4 d5 d6 d7 : Nat} : (d0 + d1 + 256 * (d1 + d2)) + 65536 * ((d2 + d3) + 256 * (d3 + d4) + 65536 * ((d4 + d5) + 256 * (d5 + d6) + 65536 * ((d6 + d7) + 256 * d7))) + ((d2 + d3) + 256 * (d3 + d4) + 65536 * ((d4 + d5) + 256 * (d5 + d6) + 65536 * ((d6 + d7) + 256 * d7))) = (d0 + d1 + (d2 + d3) + 256 * (d1 + d2 + (d3 + d4)) + 65536 * (d2 + d3 + (d4 + d5) + 256 * (d3 + d4 + (d5 + d6)))) + 4294967296 * (d4 + d5 + (d6 + d7) + 256 * (d5 + d6 + d7) + 65536 * (d6 + d7 + 256 * d7)) := by omega
theorem bc_y3 {d0 d1 d2 d3 d4 d5 d6 d7 : Nat} : (d0 + d1 + (d2 + d3) + 256 * (d1 + d2 + (d3 + d4)) + 65536 * (d2 + d3 + (d4 + d5) + 256 * (d3 + d4 + (d5 + d6)))) + 4294967296 * (d4 + d5 + (d6 + d7) + 256 * (d5 + d6 + d7) + 65536 * (d6 + d7 + 256 * d7)) + (d4 + d5 + (d6 + d7) + 256 * (d5 + d6 + d7) + 65536 * (d6 + d7 + 256 * d7)) = (d0 + (d1 + (d2 + (d3 + (d4 + (d5 + (d6 + (d7 + 0)))))))) + 128 * (2 * (d1 + d2 + (d3 + d4) + (d5 + d6 + d7) + 256 * (d2 + d3 + (d4 + d5) + (d6 + d7) + 256 * (d3 + d4 + (d5 + d6) + d7)) + 16777216 * (d4 + d5 + (d6 + d7) + 256 * (d5 + d6 + d7) + 65536 * (d6 + d7 + 256 * d7)))) := by omega
theorem bc_y4 {d0 d1 d2 d3 d4 d5 d6 d7 : Nat} (c0 : d0 ≤ 8) (c1 : d1 ≤ 8) (c2 : d2 ≤ 8) (c3 : d3 ≤ 8) (c4 : d4 ≤ 8) (c5 : d5 ≤ 8) (c6 : d6 ≤ 8) (c7 : d7 ≤ 8) : d0 < 256 ∧ (d0 + d1 + 256 * (d1 + d2)) < 65536 ∧ (d0 + d1 + (d2 + d3) + 256 * (d1 + d2 + (d3 + d4)) + 65536 * (d2 + d3 + (d4 + d5) + 256 * (d3 + d4 + (d5 + d6)))) < 4294967296 ∧ (d0 + (d1 + (d2 + (d3 + (d4 + (d5 + (d6 + (d7 + 0)))))))) < 128 ∧ (d0 + d1 + 256 * (d1 + d2)) + 65536 * ((d2 + d3) + 256 * (d3 + d4) + 65536 * ((d4 + d5) + 256 * (d5 + d6) + 65536 * ((d6 + d7) + 256 * d7))) < 9223372036854775808 ∧ (d0 + d1 + (d2 + d3) + 256 * (d1 + d2 + (d3 + d4)) + 65536 * (d2 + d3 + (d4 + d5) + 256 * (d3 + d4 + (d5 + d6)))) + 4294967296 * (d4 + d5 + (d6 + d7) + 256 * (d5 + d6 + d7) + 65536 * (d6 + d7 + 256 * d7)) < 9223372036854775808 ∧ (d0 + (d1 + (d2 + (d3 + (d4 + (d5 + (d6 + (d7 + 0)))))))) + 128 * (2 * (d1 + d2 + (d3 + d4) + (d5 + d6 + d7) + 256 * (d2 + d3 + (d4 + d5) + (d6 + d7) + 256 * (d3 + d4 + (d5 + d6) + d7)) + 16777216 * (d4 + d5 + (d6 + d7) + 256 * (d5 + d6 + d7) + 65536 * (d6 + d7 + 256 * d7)))) < 9223372036854775808 := by
  refine ⟨?_, ?_, ?_, ?_, ?_, ?_, ?_⟩
  all_goals omega
theorem bc_by8 {d0 d1 d2 d3 d4 d5 d6 d7 S s4 s5 s6 : Nat} (c0 : d0 ≤ 8) (c1 : d1 ≤ 8) (c2 : d2 ≤ 8) (c3 : d3 ≤ 8) (c4 : d4 ≤ 8) (c5 : d5 ≤ 8) (c6 : d6 ≤ 8) (c7 : d7 ≤ 8)
    (hS : S = d0 + 256 * (d1 + 256 * (d2 + 256 * (d3 + 256 * (d4 + 256 * (d5 + 256 * (d6 + 256 * (d7 + 256 * 0)))))))) (h4 : s4 = S + S / 256) (h5 : s5 = s4 + s4 / 65536) (h6 : s6 = s5 + s5 / 4294967296) :
    s6 % 128 = d0 + (d1 + (d2 + (d3 + (d4 + (d5 + (d6 + (d7 + 0))))))) ∧ s4 < 9223372036854775808 ∧ s5 < 9223372036854775808 ∧ s6 < 9223372036854775808 := by
  obtain ⟨b0, b4, bc_b5, bc_b6, g4, g5, g6⟩ := bc_y4 c0 c1 c2 c3 c4 c5 c6 c7
  rw [bc_dvof hS b0, hS, bc_y1] at h4
  rw [bc_dvof h4 b4, h4, bc_y2] at h5
  rw [bc_dvof h5 bc_b5, h5, bc_y3] at h6
  exact ⟨bc_mdof h6 bc_b6, h4 ▸ g4, h5 ▸ g5, h6 ▸ g6⟩
theorem bc_bits_all {X s4 s5 s6 : Nat} (h : X < 18446744073709551616) (h4 : s4 = bc_b7 (bc_b6 (bc_b5 X)) + bc_b7 (bc_b6 (bc_b5 X)) / 256) (h5 : s5 = s4 + s4 / 65536) (h6 : s6 = s5 + s5 / 4294967296) : s6 % 128 = pcN X 64 ∧ s4 < 9223372036854775808 ∧ s5 < 9223372036854775808 ∧ s6 < 9223372036854775808 := by
  have a1 : bc_b5 X = bc_bF bc_f1 8 X := by
    unfold bc_b5
    rw [← bc_m85]
    exact bc_s1 8 X (Nat.lt_of_lt_of_eq h (by decide +kernel))
  have a2 : bc_b6 (bc_b5 X) = bc_bF bc_f2 8 X := by
    rw [a1]; unfold bc_b6
    rw [← bc_m51]; exact bc_s2 8 X
  have a3 : bc_b7 (bc_b6 (bc_b5 X)) = bc_bF bc_f3 8 X := by
    rw [a2]; unfold bc_b7
    rw [← bc_m15]; exact bc_s3 8 X
  have p := bc_f3_pc 8 X
  rw [show 8 * 8 = 64 from rfl] at p
  rw [← p]
  refine bc_by8 (bc_f3_8 X) (bc_f3_8 (X / 256)) (bc_f3_8 (X / 256 / 256)) (bc_f3_8 (X / 256 / 256 / 256)) (bc_f3_8 (X / 256 / 256 / 256 / 256)) (bc_f3_8 (X / 256 / 256 / 256 / 256 / 256)) (bc_f3_8 (X / 256 / 256 / 256 / 256 / 256 / 256)) (bc_f3_8 (X / 256 / 256 / 256 / 256 / 256 / 256 / 256)) ?_ h4 h5 h6
  rw [a3]
  rfl
/-! least, greatest, unlike levels -/
def lsO (M : Nat → Int) : Nat → Int
  | 0 => 4095
  | i + 1 => if M i < lsO M i then M i else lsO M i
def gsO (M : Nat → Int) : Nat → Int
  | 0 => 0
  | i + 1 => if gsO M i < M i then M i else gsO M i
theorem lsO_s {M : Nat → Int} {i : Int} (h : 0 ≤ i) : (M i.toNat < lsO M i.toNat ∧ lsO M (i + 1).toNat = M i.toNat) ∨ (lsO M i.toNat ≤ M i.toNat ∧ lsO M (i + 1).toNat = lsO M i.toNat) := by
  rw [show (i + 1).toNat = i.toNat + 1 by omega]
  show (_ ∧ (if M i.toNat < lsO M i.toNat then M i.toNat else lsO M i.toNat) = _) ∨ (_ ∧ (if M i.toNat < lsO M i.toNat then M i.toNat else lsO M i.toNat) = _)
  by_cases q : M i.toNat < lsO M i.toNat
  · exact Or.inl ⟨q, if_pos q⟩
  · exact Or.inr ⟨by omega, if_neg q⟩
theorem gsO_s {M : Nat → Int} {i : Int} (h : 0 ≤ i) : (gsO M i.toNat < M i.toNat ∧ gsO M (i + 1).toNat = M i.toNat) ∨ (M i.toNat ≤ gsO M i.toNat ∧ gsO M (i + 1).toNat = gsO M i.toNat) := by
  rw [show (i + 1).toNat = i.toNat + 1 by omega]
  show (_ ∧ (if gsO M i.toNat < M i.toNat then M i.toNat else gsO M i.toNat) = _) ∨ (_ ∧ (if gsO M i.toNat < M i.toNat then M i.toNat else gsO M i.toNat) = _)
  by_cases q : gsO M i.toNat < M i.toNat
  · exact Or.inl ⟨q, if_pos q⟩
  · exact Or.inr ⟨by omega, if_neg q⟩
def mbF (M : Nat → Int) (L : Int) : Nat → Int
  | 0 => 0
  | j + 1 => if M j = L then 1 else mbF M L j
theorem mbF_01 {M : Nat → Int} {L : Int} : ∀ n, mbF M L n = 0 ∨ mbF M L n = 1
  | 0 => Or.inl rfl
  | n + 1 => by
    show (if M n = L then (1 : Int) else mbF M L n) = 0 ∨ (if M n = L then (1 : Int) else mbF M L n) = 1
    by_cases q : M n = L
    · rw [if_pos q]; exact Or.inr rfl
    · rw [if_neg q]; exact mbF_01 n
theorem mbF_s {M : Nat → Int} {L j : Int} (h : 0 ≤ j) : (M j.toNat = L ∧ mbF M L (j + 1).toNat = 1) ∨ (M j.toNat ≠ L ∧ mbF M L (j + 1).toNat = mbF M L j.toNat) := by
  rw [show (j + 1).toNat = j.toNat + 1 by omega]
  show (_ ∧ (if M j.toNat = L then (1 : Int) else mbF M L j.toNat) = _) ∨ (_ ∧ (if M j.toNat = L then (1 : Int) else mbF M L j.toNat) = _)
  by_cases q : M j.toNat = L
  · exact Or.inl ⟨q, if_pos q⟩
  · exact Or.inr ⟨q, if_neg q⟩
def unF (M : Nat → Int) : Nat → Int
  | 0 => 0
  | i + 1 => unF M i + (1 - mbF M (M i) i)
theorem unF_s {M : Nat → Int} {i : Int} (h : 0 ≤ i) : unF M (i + 1).toNat = unF M i.toNat + (1 - mbF M (M i.toNat) i.toNat) := by
  rw [show (i + 1).toNat = i.toNat + 1 by omega]
  rfl
/-- a sum over the naturals below n -/
def suN (f : Nat → Int) : Nat → Int
  | 0 => 0
  | n + 1 => suN f n + f n
theorem suN_cong {f g : Nat → Int} : ∀ n, (∀ j, j < n → f j = g j) → suN f n = suN g n
  | 0, _ => rfl
  | n + 1, h => by
    show suN f n + f n = suN g n + g n
    rw [suN_cong n (fun j hj => h j (by omega)), h n (by omega)]
theorem suN_add {f : Nat → Int} {m : Nat} : ∀ n, suN f (m + n) = suN f m + suN (fun j => f (m + j)) n
  | 0 => by show suN f m = suN f m + 0; omega
  | n + 1 => by
    show suN f (m + n) + f (m + n) = suN f m + (suN (fun j => f (m + j)) n + f (m + n))
    rw [suN_add n]
    omega
theorem suN_one {f g : Nat → Int} {k : Nat} {d : Int} : ∀ n, k < n → f k = g k + d → (∀ j, j ≠ k → f j = g j) → suN f n = suN g n + d
  | 0, h, _, _ => absurd h (by omega)
  | n + 1, h, hk, ho => by
    show suN f n + f n = suN g n + g n + d
    by_cases e : k = n
    · subst e
      rw [hk, suN_cong k (fun j hj => ho j (by omega))]; omega
    · rw [suN_one n (by omega) hk ho, ho n (fun q => e q.symm)]; omega
theorem suN_mb {M : Nat → Int} : ∀ i : Nat, (∀ j, j < i → 0 ≤ M j ∧ M j ≤ 4095) → suN (fun L => mbF M (L : Int) i) 4096 = unF M i
  | 0, _ => by
    have z : ∀ n, suN (fun L => mbF M (L : Int) 0) n = 0 := fun n => by
      induction n with
      | zero => rfl
      | succ n ih => show suN (fun L => mbF M (L : Int) 0) n + 0 = 0; rw [ih]; rfl
    exact z _
  | i + 1, h => by
    have ih := suN_mb i (fun j hj => h j (by omega))
    have b := h i (by omega)
    show suN (fun L => if M i = (L : Int) then (1 : Int) else mbF M (L : Int) i) 4096 = unF M i + (1 - mbF M (M i) i)
    rw [← ih]
    refine suN_one (k := (M i).toNat) 4096 (by omega) ?_ (fun j hj => if_neg (by omega))
    show (if M i = (((M i).toNat : Nat) : Int) then (1 : Int) else _) = mbF M (((M i).toNat : Nat) : Int) i + _
    rw [if_pos (by omega), show (((M i).toNat : Nat) : Int) = M i by omega]
    omega
theorem suN_64 {f : Nat → Int} : ∀ n, suN f (64 * n) = suN (fun w => suN (fun r => f (64 * w + r)) 64) n
  | 0 => rfl
  | n + 1 => by
    show _ = suN (fun w => suN (fun r => f (64 * w + r)) 64) n + suN (fun r => f (64 * n + r)) 64
    rw [show 64 * (n + 1) = 64 * n + 64 by omega, suN_add, suN_64 n]
theorem pcN_su {X : Nat} : ∀ n, ((pcN X n : Nat) : Int) = suN (fun r => if X.testBit r then 1 else 0) n
  | 0 => rfl
  | n + 1 => by
    show ((pcN X n + (if X.testBit n then 1 else 0) : Nat) : Int) = suN (fun r => if X.testBit r then 1 else 0) n + (if X.testBit n then 1 else 0)
    rw [← pcN_su n]
    by_cases q : X.testBit n = true
    · rw [if_pos q, if_pos q]; rfl
    · rw [if_neg q, if_neg q]; rfl
theorem pcN_le {X : Nat} : ∀ n, pcN X n ≤ n
  | 0 => Nat.le_refl 0
  | n + 1 => by
    have z := pcN_le (X := X) n
    show pcN X n + (if X.testBit n then 1 else 0) ≤ n + 1
    split <;> omega
/-- the class's 64 words: a bit for each level that was met -/
def SeO (A M : Nat → Int) (i : Int) : Prop := ∀ w : Nat, w < 64 → (0 ≤ A w ∧ A w < 18446744073709551616) ∧ ∀ r : Nat, r < 64 → ((A w).toNat.testBit r = true ↔ mbF M ((64 * w + r : Nat) : Int) i.toNat = 1)
theorem SeO.no {A M : Nat → Int} (h : ∀ w : Nat, w < 64 → A w = 0) : SeO A M 0 := fun w hw => by
  rw [h w hw]
  refine ⟨⟨by omega, by omega⟩, fun r hr => ?_⟩
  show Nat.testBit 0 r = true ↔ (0 : Int) = 1
  rw [Nat.zero_testBit]
  constructor
  · intro q; exact absurd q (by decide)
  · intro q; exact absurd q (by decide)
theorem SeO.step {A A' M : Nat → Int} {i v : Int} (h : SeO A M i) (hi : 0 ≤ i) (hv : v = M i.toNat) (hb : 0 ≤ v ∧ v ≤ 4095) (h1 : A' (v / 64).toNat = (((A (v / 64).toNat).toNat ||| 2 ^ (v % 64).toNat : Nat) : Int)) (h2 : ∀ w, w ≠ (v / 64).toNat → A' w = A w) : SeO A' M (i + 1) := fun w hw => by
  by_cases e : w = (v / 64).toNat
  · obtain ⟨b, k⟩ := h w hw
    rw [← e] at h1
    rw [h1]
    refine ⟨⟨by omega, ?_⟩, fun r hr => ?_⟩
    · have z : (A w).toNat ||| 2 ^ (v % 64).toNat < 2 ^ 64 := Nat.or_lt_two_pow (by omega) (Nat.pow_lt_pow_right (by omega) (by omega))
      have z2 : (A w).toNat ||| 2 ^ (v % 64).toNat < 18446744073709551616 := z
      omega
    · rw [Int.toNat_natCast, Nat.testBit_or, Nat.testBit_two_pow]
      rcases mbF_s (M := M) (L := ((64 * w + r : Nat) : Int)) hi with ⟨m1, m2⟩ | ⟨m1, m2⟩
      · rw [m2, show decide ((v % 64).toNat = r) = true from decide_eq_true (by omega), Bool.or_true]
        exact ⟨fun _ => rfl, fun _ => rfl⟩
      · rw [m2, show decide ((v % 64).toNat = r) = false from decide_eq_false (by omega), Bool.or_false]
        exact k r hr
  · obtain ⟨b, k⟩ := h w hw
    rw [h2 w e]
    refine ⟨b, fun r hr => ?_⟩
    rcases mbF_s (M := M) (L := ((64 * w + r : Nat) : Int)) hi with ⟨m1, m2⟩ | ⟨m1, m2⟩
    · exact absurd m1 (by omega)
    · rw [m2]; exact k r hr
def pcS (A : Nat → Int) : Nat → Int
  | 0 => 0
  | w + 1 => pcS A w + ((pcN (A w).toNat 64 : Nat) : Int)
theorem pcS_s {A : Nat → Int} {w : Int} (h : 0 ≤ w) : pcS A (w + 1).toNat = pcS A w.toNat + ((pcN (A w.toNat).toNat 64 : Nat) : Int) := by
  rw [show (w + 1).toNat = w.toNat + 1 by omega]
  rfl
theorem SeO.all {A M : Nat → Int} {i : Int} (h : SeO A M i) (hi : 0 ≤ i) (hM : ∀ j : Nat, (j : Int) < i → 0 ≤ M j ∧ M j ≤ 4095) : pcS A 64 = unF M i.toNat := by
  have e : ∀ n, pcS A n = suN (fun w => ((pcN (A w).toNat 64 : Nat) : Int)) n := fun n => by
    induction n with
    | zero => rfl
    | succ n ih => show pcS A n + _ = suN (fun w => ((pcN (A w).toNat 64 : Nat) : Int)) n + _; rw [ih]
  rw [e, ← suN_mb i.toNat (fun j hj => hM j (by omega)), show (4096 : Nat) = 64 * 64 from rfl, suN_64]
  refine suN_cong 64 (fun w hw => ?_)
  rw [pcN_su]
  refine suN_cong 64 (fun r hr => ?_)
  have k := (h w hw).2 r hr
  rcases mbF_01 (M := M) (L := ((64 * w + r : Nat) : Int)) i.toNat with q | q
  · rw [q, if_neg (fun z => by rw [k, q] at z; exact absurd z (by decide))]
  · rw [q, if_pos (k.mpr q)]
def lv4 (M : Nat → Int) (N : Nat) (w : Int) : Int := if w = 0 then lsO M N else if w = 1 then gsO M N else if w = 2 then seqS M N else if w = 3 then unF M N else if w = 4 then bwF M 4095 4095 N else if w = 5 then bwF M 0 0 N else bwF M (256 * (w - 10)) (256 * (w - 10) + 255) N
def lvQ (W H P n : Int) (lt bh : Int → Int) (pc : Int → P3) (nm : Int → Nat → Int) (k c w : Int) : Int := if 0 ≤ k ∧ k ≤ n ∧ 0 ≤ c ∧ c ≤ 2 ∧ ((0 ≤ w ∧ w ≤ 5) ∨ (10 ≤ w ∧ w ≤ 25)) then lv4 (laS (slF W H P (bh k) (-1) c) (pc k c) W.toNat H.toNat) (sumS (slF W H P (bh k) (-1) c) W.toNat H.toNat).toNat w else -1

abbrev q_J13_bitCount_95d88Z (κ h : Hp) (x1 : Int) : Int → Hp → Prop := fun r h' => h' = h ∧ ((0 ≤ r) ∧ (r ≤ 64) ∧ (r = ((pcN x1.toNat 64 : Nat) : Int)))
set_option maxHeartbeats 4000000 in
set_option maxRecDepth 20000 in
theorem s_J13_bitCount_95d88Z {G : Ga} {b : Bd} {κ h : Hp} (hF : Fr b κ h) (x1 : Int) (hx : 0 ≤ x1 ∧ x1 < 18446744073709551616) : zM G mJ13_bitCount_95d88 yJ13_bitCount_95d88 [.inr (.inl x1)] h (q_J13_bitCount_95d88Z κ h x1) := by
  refine zM_of [some (.inr (.inl x1)), none] 0 (by decide +kernel) rfl (Nat.le_of_ble_eq_true rfl) rfl ?_
  refine zW_lload_n (pc' := 1) dJ13_bitCount_95d88_0.1.1.1.1 rfl rfl ?_
  refine zW_lload_n (pc' := 2) dJ13_bitCount_95d88_0.1.1.1.2 rfl rfl ?_
  refine zW_iconst (pc' := 3) dJ13_bitCount_95d88_0.1.1.2.1 rfl ?_
  refine zY_lushr (pc' := 4) dJ13_bitCount_95d88_0.1.1.2.2 rfl ⟨hx.1, hx.2⟩ ⟨by omega, by omega⟩ (fun v3 e3 => ?_)
  have n3 : v3 = ((x1.toNat / 2 : Nat) : Int) := by rw [e3]; rfl
  refine zV_ldc2 (n := 6148914691236517205) (pc' := 7) kl_J13_314 rfl dJ13_bitCount_95d88_0.1.2.1.1 rfl ?_
  refine zY_land (pc' := 8) dJ13_bitCount_95d88_0.1.2.1.2 rfl (by omega) (by omega) (fun v7 e7 => ?_)
  have n7 : v7 = ((((x1.toNat / 2) &&& 6148914691236517205 : Nat)) : Int) := by rw [e7, n3, Int.toNat_natCast]; rfl
  refine zY_lsub (pc' := 9) dJ13_bitCount_95d88_0.1.2.2.1 rfl (fun v8 e8 => ?_)
  have l7 : ((x1.toNat / 2) &&& 6148914691236517205) ≤ x1.toNat := Nat.le_trans Nat.and_le_left (by omega)
  have n8 : v8 = ((bc_b5 x1.toNat : Nat) : Int) := by unfold bc_b5; omega
  have b8 : bc_b5 x1.toNat < 18446744073709551616 := by unfold bc_b5; omega
  obtain ⟨S1, hS1⟩ : ∃ S, S = bc_b5 x1.toNat := ⟨_, rfl⟩
  rw [← hS1] at n8 b8
  refine zW_lstore_n (ls' := [_, _]) (pc' := 10) dJ13_bitCount_95d88_0.1.2.2.2 (by decide) rfl rfl rfl ?_
  refine zW_lload_n (pc' := 11) dJ13_bitCount_95d88_0.2.1.1.1 rfl rfl ?_
  refine zV_ldc2 (n := 3689348814741910323) (pc' := 14) kl_J13_316 rfl dJ13_bitCount_95d88_0.2.1.1.2 rfl ?_
  refine zY_land (pc' := 15) dJ13_bitCount_95d88_0.2.1.2.1 rfl (by omega) (by omega) (fun v14 e14 => ?_)
  have n14 : v14 = ((S1 &&& 3689348814741910323 : Nat) : Int) := by rw [e14, n8, Int.toNat_natCast]; rfl
  refine zW_lload_n (pc' := 16) dJ13_bitCount_95d88_0.2.1.2.2 rfl rfl ?_
  refine zW_iconst (pc' := 17) dJ13_bitCount_95d88_0.2.2.1.1 rfl ?_
  refine zY_lushr (pc' := 18) dJ13_bitCount_95d88_0.2.2.1.2 rfl ⟨by omega, by omega⟩ ⟨by omega, by omega⟩ (fun v17 e17 => ?_)
  have n17 : v17 = ((S1 / 4 : Nat) : Int) := by rw [e17, n8, Int.toNat_natCast]; rfl
  refine zV_ldc2 (n := 3689348814741910323) (pc' := 21) kl_J13_316 rfl dJ13_bitCount_95d88_0.2.2.2.1 rfl ?_
  refine zY_land (pc' := 22) dJ13_bitCount_95d88_0.2.2.2.2 rfl (by omega) (by omega) (fun v21 e21 => ?_)
  have n21 : v21 = (((S1 / 4) &&& 3689348814741910323 : Nat) : Int) := by rw [e21, n17, Int.toNat_natCast]; rfl
  refine zY_ladd (pc' := 23) dJ13_bitCount_95d88_1.1.1.1.1 rfl (fun v22 e22 => ?_)
  have n22 : v22 = ((bc_b6 S1 : Nat) : Int) := by unfold bc_b6; omega
  have b22 : bc_b6 S1 ≤ 7378697629483820646 := by (have z1 : (S1 &&& 3689348814741910323) ≤ 3689348814741910323 := Nat.and_le_right; have z2 : ((S1 / 4) &&& 3689348814741910323) ≤ 3689348814741910323 := Nat.and_le_right; unfold bc_b6; omega)
  obtain ⟨S2, hS2⟩ : ∃ S, S = bc_b6 S1 := ⟨_, rfl⟩
  rw [← hS2] at n22 b22
  refine zW_lstore_n (ls' := [_, _]) (pc' := 24) dJ13_bitCount_95d88_1.1.1.1.2 (by decide) rfl rfl rfl ?_
  refine zW_lload_n (pc' := 25) dJ13_bitCount_95d88_1.1.1.2.1 rfl rfl ?_
  refine zW_lload_n (pc' := 26) dJ13_bitCount_95d88_1.1.1.2.2 rfl rfl ?_
  refine zW_iconst (pc' := 27) dJ13_bitCount_95d88_1.1.2.1.1 rfl ?_
  refine zY_lushr (pc' := 28) dJ13_bitCount_95d88_1.1.2.1.2 rfl ⟨by omega, by omega⟩ ⟨by omega, by omega⟩ (fun v27 e27 => ?_)
  have n27 : v27 = ((S2 / 16 : Nat) : Int) := by rw [e27, n22, Int.toNat_natCast]; rfl
  refine zY_ladd (pc' := 29) dJ13_bitCount_95d88_1.1.2.2.1 rfl (fun v28 e28 => ?_)
  have n28 : v28 = ((S2 + S2 / 16 : Nat) : Int) := by omega
  refine zV_ldc2 (n := 1085102592571150095) (pc' := 32) kl_J13_318 rfl dJ13_bitCount_95d88_1.1.2.2.2 rfl ?_
  refine zY_land (pc' := 33) dJ13_bitCount_95d88_1.2.1.1.1 rfl (by omega) (by omega) (fun v32 e32 => ?_)
  have n32 : v32 = ((bc_b7 S2 : Nat) : Int) := by rw [e32, n28, Int.toNat_natCast]; rfl
  obtain ⟨S3, hS3⟩ : ∃ S, S = bc_b7 S2 := ⟨_, rfl⟩
  rw [← hS3] at n32
  obtain ⟨s4, h4⟩ : ∃ s, s = S3 + S3 / 256 := ⟨_, rfl⟩
  obtain ⟨s5, h5⟩ : ∃ s, s = s4 + s4 / 65536 := ⟨_, rfl⟩
  obtain ⟨s6, h6⟩ : ∃ s, s = s5 + s5 / 4294967296 := ⟨_, rfl⟩
  have q := bc_bits_all (X := x1.toNat) (s4 := s4) (s5 := s5) (s6 := s6) (by omega) (by rw [← hS1, ← hS2, ← hS3]; exact h4) h5 h6
  obtain ⟨q1, q2, q3, q4⟩ := q
  have pl := pcN_le (X := x1.toNat) 64
  refine zW_lstore_n (ls' := [_, _]) (pc' := 34) dJ13_bitCount_95d88_1.2.1.1.2 (by decide) rfl rfl rfl ?_
  refine zW_lload_n (pc' := 35) dJ13_bitCount_95d88_1.2.1.2.1 rfl rfl ?_
  refine zW_lload_n (pc' := 36) dJ13_bitCount_95d88_1.2.1.2.2 rfl rfl ?_
  refine zW_bipush (pc' := 38) dJ13_bitCount_95d88_1.2.2.1.1 rfl rfl ?_
  refine zY_lushr (pc' := 39) dJ13_bitCount_95d88_1.2.2.1.2 rfl ⟨by omega, by omega⟩ ⟨by omega, by omega⟩ (fun v38 e38 => ?_)
  have n38 : v38 = ((S3 / 256 : Nat) : Int) := by rw [e38, n32, Int.toNat_natCast]; rfl
  refine zY_ladd (pc' := 40) dJ13_bitCount_95d88_1.2.2.2.1 rfl (fun v39 e39 => ?_)
  have n39 : v39 = ((s4 : Nat) : Int) := by omega
  refine zW_lstore_n (ls' := [_, _]) (pc' := 41) dJ13_bitCount_95d88_1.2.2.2.2 (by decide) rfl rfl rfl ?_
  refine zW_lload_n (pc' := 42) dJ13_bitCount_95d88_2.1.1.1.1 rfl rfl ?_
  refine zW_lload_n (pc' := 43) dJ13_bitCount_95d88_2.1.1.1.2 rfl rfl ?_
  refine zW_bipush (pc' := 45) dJ13_bitCount_95d88_2.1.1.2.1 rfl rfl ?_
  refine zY_lushr (pc' := 46) dJ13_bitCount_95d88_2.1.1.2.2 rfl ⟨by omega, by omega⟩ ⟨by omega, by omega⟩ (fun v45 e45 => ?_)
  have n45 : v45 = ((s4 / 65536 : Nat) : Int) := by rw [e45, n39, Int.toNat_natCast]; rfl
  refine zY_ladd (pc' := 47) dJ13_bitCount_95d88_2.1.2.1.1 rfl (fun v46 e46 => ?_)
  have n46 : v46 = ((s5 : Nat) : Int) := by omega
  refine zW_lstore_n (ls' := [_, _]) (pc' := 48) dJ13_bitCount_95d88_2.1.2.1.2 (by decide) rfl rfl rfl ?_
  refine zW_lload_n (pc' := 49) dJ13_bitCount_95d88_2.1.2.2.1 rfl rfl ?_
  refine zW_lload_n (pc' := 50) dJ13_bitCount_95d88_2.1.2.2.2 rfl rfl ?_
  refine zW_bipush (pc' := 52) dJ13_bitCount_95d88_2.2.1.1.1 rfl rfl ?_
  refine zY_lushr (pc' := 53) dJ13_bitCount_95d88_2.2.1.1.2 rfl ⟨by omega, by omega⟩ ⟨by omega, by omega⟩ (fun v52 e52 => ?_)
  have n52 : v52 = ((s5 / 4294967296 : Nat) : Int) := by rw [e52, n46, Int.toNat_natCast]; rfl
  refine zY_ladd (pc' := 54) dJ13_bitCount_95d88_2.2.1.2.1 rfl (fun v53 e53 => ?_)
  have n53 : v53 = ((s6 : Nat) : Int) := by omega
  refine zW_lstore_n (ls' := [_, _]) (pc' := 55) dJ13_bitCount_95d88_2.2.1.2.2 (by decide) rfl rfl rfl ?_
  refine zW_lload_n (pc' := 56) dJ13_bitCount_95d88_2.2.2.1.1 rfl rfl ?_
  refine zX_l2i (pc' := 57) dJ13_bitCount_95d88_2.2.2.1.2 rfl ?_
  refine zW_bipush (pc' := 59) dJ13_bitCount_95d88_2.2.2.2.1 rfl rfl ?_
  refine zY_iand127 (pc' := 60) (by omega) dJ13_bitCount_95d88_2.2.2.2.2 rfl (fun v59 e59 => ?_)
  have b59 : 0 ≤ v59 ∧ v59 ≤ 127 := by omega
  have n59 : v59 = ((pcN x1.toNat 64 : Nat) : Int) := by rw [e59, n53, Int.toNat_natCast, q1]
  exact zV_iret rfl dJ13_bitCount_95d88_3 ⟨rfl, (by exact ⟨by omega, by omega, n59⟩)⟩

abbrev q_J7_fill_d0a16Z (b : Bd) (κ : Hp) (x2 : Int) (gh0 : Hp) : Int → Hp → Prop := fun r h' => Fr b κ h' ∧ ((Fw [97] [] gh0 h') ∧ (∀ j : Nat, j < 64 → h' 97 j = x2))
set_option maxHeartbeats 4000000 in
set_option maxRecDepth 20000 in
theorem s_J7_fill_d0a16Z {G : Ga} {b : Bd} {κ h : Hp} (hF : Fr b κ h) (x2 : Int) (gh0 : Hp) (hgh : Fw [97] [] gh0 h) : zM G mJ7_fill_d0a16 yJ7_fill_d0a16 [.inr (.inr 97), .inr (.inl x2)] h (q_J7_fill_d0a16Z b κ x2 gh0) := by
  have main : ∀ N : Nat, (∀ (v3 v4 : Int) (h : Hp), Fr b κ h → (0 ≤ v3 ∧ v3 ≤ 64) → (64 ≤ v4 ∧ v4 ≤ 64) → (∀ j : Nat, (j : Int) < v3 → h 97 j = x2) → (Fw [97] [] gh0 h) → 8712 + 12 * (64 - v3) + 11 < (N : Int) → zV G mJ7_fill_d0a16 (q_J7_fill_d0a16Z b κ x2 gh0) 6 [some (.inr (.inr 97)), some (.inr (.inl x2)), none, some (.inl v3), some (.inl v4)] [] h) := by
    intro N
    induction N with
    | zero =>
      intro v3 v4 h hF g0 g1 gc0 hgh hm
      exfalso; omega
    | succ N ih =>
      have k6 := ih
      intro v3 v4 h hF g0 g1 gc0 hgh hm
      refine zW_iload_n (pc' := 7) dJ7_fill_d0a16_0.1.2.1.2 rfl rfl ?_
      refine zW_iload (pc' := 9) dJ7_fill_d0a16_0.1.2.2.1 rfl rfl ?_
      refine zV_cm_ge (tgt := 22) (pc' := 12) dJ7_fill_d0a16_0.1.2.2.2 rfl rfl ⟨by omega, by omega⟩ ⟨by omega, by omega⟩ (fun c9 => ?_) (fun c9 => ?_)
      · exact zV_vret rfl dJ7_fill_d0a16_0.2.2.2 ⟨hF, ⟨hgh, (fun j hj => gc0 j (by omega))⟩⟩
      · refine zW_aload_n (pc' := 13) dJ7_fill_d0a16_0.2.1.1.1 rfl rfl ?_
        refine zW_iload_n (pc' := 14) dJ7_fill_d0a16_0.2.1.1.2 rfl rfl ?_
        refine zW_lload_n (pc' := 15) dJ7_fill_d0a16_0.2.1.2.1 rfl rfl ?_
        refine zX_Sl (pc' := 16) hF rfl rfl tb97 (by omega) dJ7_fill_d0a16_0.2.1.2.2 (by decide) rfl (fun h hF w15 => ?_)
        replace hgh : Fw [97] [] gh0 h := by rw [w15]; exact hgh.wc (by simp)
        have hst : ∀ j : Nat, (j : Int) < v3 + 1 → h 97 j = x2 := by (intro j hj; rw [w15]; by_cases q : j = v3.toNat; (rw [q]; exact zwr_eq); (rw [zwr_ne (Or.inr q)]; exact gc0 j (by omega)))
        refine zW_iinc (ls' := [_, _, _, _, _]) (pc' := 19) dJ7_fill_d0a16_0.2.2.1.1 rfl (by decide) rfl rfl rfl ?_
        refine zV_goto 6 dJ7_fill_d0a16_0.2.2.1.2 rfl ?_
        exact k6 _ _ _ hF (by omega) (by omega) (by first | exact hst | (intro j hj; exact absurd hj (by omega))) hgh (by omega)
  refine zM_of [some (.inr (.inr 97)), some (.inr (.inl x2)), none, none, none] 2 (by decide +kernel) rfl (Nat.le_of_ble_eq_true rfl) rfl ?_
  refine zW_iconst (pc' := 1) dJ7_fill_d0a16_0.1.1.1.1 rfl ?_
  refine zW_istore_n (ls' := [_, _, _, _, _]) (pc' := 2) dJ7_fill_d0a16_0.1.1.1.2 (by decide) rfl rfl rfl ?_
  refine zW_aload_n (pc' := 3) dJ7_fill_d0a16_0.1.1.2.1 rfl rfl ?_
  refine zV_alenL (pc' := 4) tb97 dJ7_fill_d0a16_0.1.1.2.2 rfl ?_
  refine zW_istore (ls' := [_, _, _, _, _]) (pc' := 6) dJ7_fill_d0a16_0.1.2.1.1 (by decide) rfl rfl rfl ?_
  exact (main 10000000000000000000000000000000000000000) _ _ _ hF (by omega) (by omega) (by first | exact hst | (intro j hj; exact absurd hj (by omega))) hgh (by omega)

abbrev q_X4_leastZ (κ h : Hp) (M : Nat → Int) : Int → Hp → Prop := fun r h' => h' = h ∧ ((0 ≤ r) ∧ (r ≤ 4095) ∧ (r = lsO M (h 95 0).toNat))
set_option maxHeartbeats 4000000 in
set_option maxRecDepth 20000 in
theorem s_X4_leastZ {G : Ga} {b : Bd} {κ h : Hp} (hF : Fr b κ h) (M : Nat → Int) (hLi : LiO (h 96) M (h 95 0)) : zM G mX4_least yX4_least [.inr (.inr 95)] h (q_X4_leastZ κ h M) := by
  have e53_ := hF.2.2.2.2.1
  have main : ∀ N : Nat, (∀ (v1 v2 : Int) , (0 ≤ v1 ∧ v1 ≤ 4095) → (0 ≤ v2 ∧ v2 ≤ 256) → (v1 = lsO M v2.toNat) → (v2 ≤ h 95 0) → 70176 + 17 * (256 - v2) + 16 < (N : Int) → zV G mX4_least (q_X4_leastZ κ h M) 6 [some (.inr (.inr 95)), some (.inl v1), some (.inl v2)] [] h) := by
    intro N
    induction N with
    | zero =>
      intro v1 v2 g0 g1 gc0 gc1 hm
      exfalso; omega
    | succ N ih =>
      have k6 := ih
      intro v1 v2 g0 g1 gc0 gc1 hm
      refine zW_iload_n (pc' := 7) dX4_least_0.1.2.1.1 rfl rfl ?_
      refine zW_aload_n (pc' := 8) dX4_least_0.1.2.1.2 rfl rfl ?_
      refine zG_int (pc' := 11) fg_X4_27 tb95 rfl dX4_least_0.1.2.2.1 rfl ?_
      have e8 := hF.2.2.2.2.1
      refine zV_cm_ge (tgt := 31) (pc' := 14) dX4_least_0.1.2.2.2 rfl rfl ⟨by omega, by omega⟩ ⟨by omega, by omega⟩ (fun c11 => ?_) (fun c11 => ?_)
      · refine zW_iload_n (pc' := 32) dX4_least_1.1.2 rfl rfl ?_
        exact zV_iret rfl dX4_least_1.2 ⟨rfl, (by rw [show (h 95 0).toNat = v2.toNat by omega]; exact ⟨by omega, by omega, gc0⟩)⟩
      · refine zW_iload_n (pc' := 15) dX4_least_0.2.1.1.1 rfl rfl ?_
        refine zW_aload_n (pc' := 16) dX4_least_0.2.1.1.2 rfl rfl ?_
        refine zG_ref (pc' := 19) 96 fg_X4_9 tb95 rfl dX4_least_0.2.1.2.1 rfl ?_
        refine zW_iload_n (pc' := 20) dX4_least_0.2.1.2.2 rfl rfl ?_
        refine zV_iald (pc' := 21) tb96 (by omega) dX4_least_0.2.2.1.1 (by decide) rfl ?_
        have ha := hLi v2.toNat (by omega)
        have b20 : 0 ≤ h 96 v2.toNat ∧ h 96 v2.toNat ≤ 4095 := by rw [ha.1]; exact ha.2
        have sq := lsO_s (M := M) (i := v2) (by omega)
        rw [← ha.1] at sq
        refine zV_mmin (pc' := 24) km_X4_52 (Nat.le_of_ble_eq_true rfl) (Nat.le_of_ble_eq_true rfl) dX4_least_0.2.2.1.2 rfl (fun v21 e21 => ?_)
        replace e21 := e21.2 ⟨by omega, by omega⟩ ⟨by omega, by omega⟩
        refine zW_istore_n (ls' := [_, _, _]) (pc' := 25) dX4_least_0.2.2.2.1 (by decide) rfl rfl rfl ?_
        refine zW_iinc (ls' := [_, _, _]) (pc' := 28) dX4_least_0.2.2.2.2 rfl (by decide) rfl rfl rfl ?_
        refine zV_goto 6 dX4_least_1.1.1 rfl ?_
        exact k6 _ _ (by omega) (by omega) (by first | rfl | omega) (by omega) (by omega)
  refine zM_of [some (.inr (.inr 95)), none, none] 2 rfl rfl (Nat.le_of_ble_eq_true rfl) rfl ?_
  refine zW_sipush (pc' := 3) dX4_least_0.1.1.1.1 rfl rfl ?_
  refine zW_istore_n (ls' := [_, _, _]) (pc' := 4) dX4_least_0.1.1.1.2 (by decide) rfl rfl rfl ?_
  refine zW_iconst (pc' := 5) dX4_least_0.1.1.2.1 rfl ?_
  refine zW_istore_n (ls' := [_, _, _]) (pc' := 6) dX4_least_0.1.1.2.2 (by decide) rfl rfl rfl ?_
  exact (main 10000000000000000000000000000000000000000) _ _ (by omega) (by omega) (by first | rfl | omega) (by omega) (by omega)

abbrev q_X4_greatestZ (κ h : Hp) (M : Nat → Int) : Int → Hp → Prop := fun r h' => h' = h ∧ ((0 ≤ r) ∧ (r ≤ 4095) ∧ (r = gsO M (h 95 0).toNat))
set_option maxHeartbeats 4000000 in
set_option maxRecDepth 20000 in
theorem s_X4_greatestZ {G : Ga} {b : Bd} {κ h : Hp} (hF : Fr b κ h) (M : Nat → Int) (hLi : LiO (h 96) M (h 95 0)) : zM G mX4_greatest yX4_greatest [.inr (.inr 95)] h (q_X4_greatestZ κ h M) := by
  have e53_ := hF.2.2.2.2.1
  have main : ∀ N : Nat, (∀ (v1 v2 : Int) , (0 ≤ v1 ∧ v1 ≤ 4095) → (0 ≤ v2 ∧ v2 ≤ 256) → (v1 = gsO M v2.toNat) → (v2 ≤ h 95 0) → 70176 + 17 * (256 - v2) + 16 < (N : Int) → zV G mX4_greatest (q_X4_greatestZ κ h M) 4 [some (.inr (.inr 95)), some (.inl v1), some (.inl v2)] [] h) := by
    intro N
    induction N with
    | zero =>
      intro v1 v2 g0 g1 gc0 gc1 hm
      exfalso; omega
    | succ N ih =>
      have k4 := ih
      intro v1 v2 g0 g1 gc0 gc1 hm
      refine zW_iload_n (pc' := 5) dX4_greatest_0.1.2.1.1 rfl rfl ?_
      refine zW_aload_n (pc' := 6) dX4_greatest_0.1.2.1.2 rfl rfl ?_
      refine zG_int (pc' := 9) fg_X4_27 tb95 rfl dX4_greatest_0.1.2.2.1 rfl ?_
      have e6 := hF.2.2.2.2.1
      refine zV_cm_ge (tgt := 29) (pc' := 12) dX4_greatest_0.1.2.2.2 rfl rfl ⟨by omega, by omega⟩ ⟨by omega, by omega⟩ (fun c9 => ?_) (fun c9 => ?_)
      · refine zW_iload_n (pc' := 30) dX4_greatest_1.1.2 rfl rfl ?_
        exact zV_iret rfl dX4_greatest_1.2 ⟨rfl, (by rw [show (h 95 0).toNat = v2.toNat by omega]; exact ⟨by omega, by omega, gc0⟩)⟩
      · refine zW_iload_n (pc' := 13) dX4_greatest_0.2.1.1.1 rfl rfl ?_
        refine zW_aload_n (pc' := 14) dX4_greatest_0.2.1.1.2 rfl rfl ?_
        refine zG_ref (pc' := 17) 96 fg_X4_9 tb95 rfl dX4_greatest_0.2.1.2.1 rfl ?_
        refine zW_iload_n (pc' := 18) dX4_greatest_0.2.1.2.2 rfl rfl ?_
        refine zV_iald (pc' := 19) tb96 (by omega) dX4_greatest_0.2.2.1.1 (by decide) rfl ?_
        have ha := hLi v2.toNat (by omega)
        have b18 : 0 ≤ h 96 v2.toNat ∧ h 96 v2.toNat ≤ 4095 := by rw [ha.1]; exact ha.2
        have sq := gsO_s (M := M) (i := v2) (by omega)
        rw [← ha.1] at sq
        refine zV_mmax (pc' := 22) km_X4_57 (Nat.le_of_ble_eq_true rfl) (Nat.le_of_ble_eq_true rfl) dX4_greatest_0.2.2.1.2 rfl (fun v19 e19 => ?_)
        replace e19 := e19.2 ⟨by omega, by omega⟩ ⟨by omega, by omega⟩
        refine zW_istore_n (ls' := [_, _, _]) (pc' := 23) dX4_greatest_0.2.2.2.1 (by decide) rfl rfl rfl ?_
        refine zW_iinc (ls' := [_, _, _]) (pc' := 26) dX4_greatest_0.2.2.2.2 rfl (by decide) rfl rfl rfl ?_
        refine zV_goto 4 dX4_greatest_1.1.1 rfl ?_
        exact k4 _ _ (by omega) (by omega) (by first | rfl | omega) (by omega) (by omega)
  refine zM_of [some (.inr (.inr 95)), none, none] 2 rfl rfl (Nat.le_of_ble_eq_true rfl) rfl ?_
  refine zW_iconst (pc' := 1) dX4_greatest_0.1.1.1.1 rfl ?_
  refine zW_istore_n (ls' := [_, _, _]) (pc' := 2) dX4_greatest_0.1.1.1.2 (by decide) rfl rfl rfl ?_
  refine zW_iconst (pc' := 3) dX4_greatest_0.1.1.2.1 rfl ?_
  refine zW_istore_n (ls' := [_, _, _]) (pc' := 4) dX4_greatest_0.1.1.2.2 (by decide) rfl rfl rfl ?_
  exact (main 10000000000000000000000000000000000000000) _ _ (by omega) (by omega) (by first | rfl | omega) (by omega) (by omega)

abbrev q_X4_unlikeOnesZ (b : Bd) (κ : Hp) (M : Nat → Int) (mm : Int) (gh0 : Hp) : Int → Hp → Prop := fun r h' => Fr b κ h' ∧ ((Fw [97] [] gh0 h') ∧ (0 ≤ r) ∧ (r ≤ 4096) ∧ (r = unF M mm.toNat))
set_option maxHeartbeats 4000000 in
set_option maxRecDepth 20000 in
theorem s_X4_unlikeOnesZ {G : Ga} {b : Bd} {κ h : Hp} (hF : Fr b κ h) (M : Nat → Int) (mm : Int) (gh0 : Hp) (hLi : LiO (h 96) M (h 95 0)) (hN : h 95 0 = mm) (hgh : Fw [97] [] gh0 h) : zM G mX4_unlikeOnes yX4_unlikeOnes [.inr (.inr 95)] h (q_X4_unlikeOnesZ b κ M mm gh0) := by
  have e53_ := hF.2.2.2.2.1
  have main : ∀ N : Nat, (∀ (v1 : Int) (h : Hp), Fr b κ h → (0 ≤ v1 ∧ v1 ≤ 256) → (SeO (h 97) M v1) → (v1 ≤ mm) → (LiO (h 96) M (h 95 0)) → (h 95 0 = mm) → (Fw [97] [] gh0 h) → 606816 + 49 * (256 - v1) + 48 < (N : Int) → zV G mX4_unlikeOnes (q_X4_unlikeOnesZ b κ M mm gh0) 10 [some (.inr (.inr 95)), some (.inl v1), none] [] h) ∧ (∀ (v1 v2 : Int) (h : Hp), Fr b κ h → (0 ≤ v1 ∧ v1 ≤ 4096) → (0 ≤ v2 ∧ v2 ≤ 64) → (SeO (h 97) M mm) → (v1 = pcS (h 97) v2.toNat) → (v1 ≤ 64 * v2) → (LiO (h 96) M (h 95 0)) → (h 95 0 = mm) → (Fw [97] [] gh0 h) → 505680 + 49 * (64 - v2) + 40 < (N : Int) → zV G mX4_unlikeOnes (q_X4_unlikeOnesZ b κ M mm gh0) 56 [some (.inr (.inr 95)), some (.inl v1), some (.inl v2)] [] h) := by
    intro N
    induction N with
    | zero =>
      refine ⟨?_, ?_⟩
      · intro v1 h hF g0 gc0 gc1 hLi hN hgh hm
        exfalso; omega
      · intro v1 v2 h hF g0 g1 gc0 gc1 gc2 hLi hN hgh hm
        exfalso; omega
    | succ N ih =>
      obtain ⟨k10, k56⟩ := ih
      refine ⟨?_, ?_⟩
      · intro v1 h hF g0 gc0 gc1 hLi hN hgh hm
        refine zW_iload_n (pc' := 11) dX4_unlikeOnes_0.1.2.2.1 rfl rfl ?_
        refine zW_aload_n (pc' := 12) dX4_unlikeOnes_0.1.2.2.2 rfl rfl ?_
        refine zG_int (pc' := 15) fg_X4_27 tb95 rfl dX4_unlikeOnes_0.2.1.1.1 rfl ?_
        have e12 := hF.2.2.2.2.1
        refine zV_cm_ge (tgt := 52) (pc' := 18) dX4_unlikeOnes_0.2.1.1.2 rfl rfl ⟨by omega, by omega⟩ ⟨by omega, by omega⟩ (fun c15 => ?_) (fun c15 => ?_)
        · refine zW_iconst (pc' := 53) dX4_unlikeOnes_2.1.1.1.1 rfl ?_
          refine zW_istore_n (ls' := [_, _, _]) (pc' := 54) dX4_unlikeOnes_2.1.1.1.2 (by decide) rfl rfl rfl ?_
          refine zW_iconst (pc' := 55) dX4_unlikeOnes_2.1.1.2.1 rfl ?_
          refine zW_istore_n (ls' := [_, _, _]) (pc' := 56) dX4_unlikeOnes_2.1.1.2.2 (by decide) rfl rfl rfl ?_
          exact k56 _ _ _ hF (by omega) (by omega) (by first | exact gc0 | (rw [show mm = v1 by omega]; exact gc0)) (by first | rfl | (rw [sq, gc1, ← p72.2.2])) (by omega) hLi hN hgh (by omega)
        · refine zW_aload_n (pc' := 19) dX4_unlikeOnes_0.2.1.2.1 rfl rfl ?_
          refine zG_ref (pc' := 22) 96 fg_X4_9 tb95 rfl dX4_unlikeOnes_0.2.1.2.2 rfl ?_
          refine zW_iload_n (pc' := 23) dX4_unlikeOnes_0.2.2.1.1 rfl rfl ?_
          refine zV_iald (pc' := 24) tb96 (by omega) dX4_unlikeOnes_0.2.2.1.2 (by decide) rfl ?_
          have l1 : v1 < mm := by omega
          have ha := hLi v1.toNat (by omega)
          have b23 : 0 ≤ h 96 v1.toNat ∧ h 96 v1.toNat ≤ 4095 := by rw [ha.1]; exact ha.2
          refine csI1 (pc' := 27) kX11_clipped vX11_clipped lk_X4_66 ⟨Nat.le_of_ble_eq_true rfl, Nat.le_of_ble_eq_true rfl⟩ rfl (s_X11_clippedZ hF _ ⟨by omega, by omega⟩) dX4_unlikeOnes_0.2.2.2.1 (Nat.le_of_ble_eq_true rfl) rfl ?_
          rintro r24 z24 ⟨hz24, p24⟩; subst z24
          have ec : r24 = M v1.toNat := by (rw [p24.2.2, ha.1]; have z := clpc (M v1.toNat); omega)
          refine zW_istore_n (ls' := [_, _, _]) (pc' := 28) dX4_unlikeOnes_0.2.2.2.2 (by decide) rfl rfl rfl ?_
          refine zW_aload_n (pc' := 29) dX4_unlikeOnes_1.1.1.1.1 rfl rfl ?_
          refine zG_ref (pc' := 32) 97 fg_X4_15 tb95 rfl dX4_unlikeOnes_1.1.1.1.2 rfl ?_
          refine zW_iload_n (pc' := 33) dX4_unlikeOnes_1.1.1.2.1 rfl rfl ?_
          refine zW_bipush (pc' := 35) dX4_unlikeOnes_1.1.1.2.2 rfl rfl ?_
          refine zW_idiv (pc' := 36) (by omega) (by omega) dX4_unlikeOnes_1.1.2.1.1 rfl ?_
          refine zW_dup2 (pc' := 37) dX4_unlikeOnes_1.1.2.1.2 rfl rfl rfl ?_
          refine zV_lald (pc' := 38) tb97 (by omega) dX4_unlikeOnes_1.1.2.2.1 (by decide) rfl ?_
          have hw := (gc0 (r24 / 64).toNat (by omega)).1
          refine zW_lconst (pc' := 39) dX4_unlikeOnes_1.1.2.2.2 rfl ?_
          refine zW_iload_n (pc' := 40) dX4_unlikeOnes_1.2.1.1.1 rfl rfl ?_
          refine zW_bipush (pc' := 42) dX4_unlikeOnes_1.2.1.1.2 rfl rfl ?_
          refine zW_irem (pc' := 43) (by omega) (by omega) dX4_unlikeOnes_1.2.1.2.1 rfl ?_
          refine zY_lshl (pc' := 44) dX4_unlikeOnes_1.2.1.2.2 rfl ⟨by omega, by omega⟩ (fun v43 e43 => ?_)
          refine zY_lor (pc' := 45) dX4_unlikeOnes_1.2.2.1.1 rfl (by omega) (by rw [e43]; exact Int.natCast_nonneg _) (fun v44 e44 => ?_)
          refine zX_Sl (pc' := 46) hF rfl rfl tb97 (by omega) dX4_unlikeOnes_1.2.2.1.2 (by decide) rfl (fun h hF w45 => ?_)
          replace hgh : Fw [97] [] gh0 h := by rw [w45]; exact hgh.wc (by simp)
          replace hLi : LiO (h 96) M (h 95 0) := by have q0_ := (congrFun w45 96).trans (zfun (by decide)); rw [q0_]; have q1_ := (congrFun w45 95).trans (zfun (by decide)); rw [q1_]; exact hLi
          replace hN : h 95 0 = mm := by have q0_ := (congrFun w45 95).trans (zfun (by decide)); rw [q0_]; exact hN
          have hs : SeO (h 97) M (v1 + 1) := by (rw [w45]; exact gc0.step (v := r24) (by omega) ec (by omega) (zwr_eq.trans (by rw [e44, e43, Int.toNat_natCast])) (fun w hw2 => zwr_ne (Or.inr hw2)))
          refine zW_iinc (ls' := [_, _, _]) (pc' := 49) dX4_unlikeOnes_1.2.2.2.1 rfl (by decide) rfl rfl rfl ?_
          refine zV_goto 10 dX4_unlikeOnes_1.2.2.2.2 rfl ?_
          refine zV_clr 2 (ls' := [_, _, _]) rfl ?_
          exact k10 _ _ hF (by omega) (by first | exact hs | exact SeO.no (fun w hw => p5 w hw)) (by omega) hLi hN hgh (by omega)
      · intro v1 v2 h hF g0 g1 gc0 gc1 gc2 hLi hN hgh hm
        refine zW_iload_n (pc' := 57) dX4_unlikeOnes_2.1.2.1.1 rfl rfl ?_
        refine zW_aload_n (pc' := 58) dX4_unlikeOnes_2.1.2.1.2 rfl rfl ?_
        refine zG_ref (pc' := 61) 97 fg_X4_15 tb95 rfl dX4_unlikeOnes_2.1.2.2.1 rfl ?_
        refine zV_alenL (pc' := 62) tb97 dX4_unlikeOnes_2.1.2.2.2 rfl ?_
        refine zV_cm_ge (tgt := 83) (pc' := 65) dX4_unlikeOnes_2.2.1.1.1 rfl rfl ⟨by omega, by omega⟩ ⟨by omega, by omega⟩ (fun c62 => ?_) (fun c62 => ?_)
        · refine zW_iload_n (pc' := 84) dX4_unlikeOnes_3.2.1 rfl rfl ?_
          exact zV_iret rfl dX4_unlikeOnes_3.2.2 ⟨hF, ⟨hgh, (by have e : v2 = 64 := (by omega); rw [e] at gc1; have z := SeO.all gc0 (by omega) (fun j hj => (hLi j (by omega)).2); exact ⟨by omega, by omega, gc1.trans z⟩)⟩⟩
        · refine zW_iload_n (pc' := 66) dX4_unlikeOnes_2.2.1.1.2 rfl rfl ?_
          refine zW_aload_n (pc' := 67) dX4_unlikeOnes_2.2.1.2.1 rfl rfl ?_
          refine zG_ref (pc' := 70) 97 fg_X4_15 tb95 rfl dX4_unlikeOnes_2.2.1.2.2 rfl ?_
          refine zW_iload_n (pc' := 71) dX4_unlikeOnes_2.2.2.1.1 rfl rfl ?_
          have hz := (gc0 v2.toNat (by omega)).1
          have sq := pcS_s (A := h 97) (w := v2) (by omega)
          refine zV_lald (pc' := 72) tb97 (by omega) dX4_unlikeOnes_2.2.2.1.2 (by decide) rfl ?_
          refine csI1 (pc' := 75) kJ13_bitCount_95d88 vJ13_bitCount_95d88 lk_X4_70 ⟨Nat.le_of_ble_eq_true rfl, Nat.le_of_ble_eq_true rfl⟩ rfl (s_J13_bitCount_95d88Z hF _ hz) dX4_unlikeOnes_2.2.2.2.1 (Nat.le_of_ble_eq_true rfl) rfl ?_
          rintro r72 z72 ⟨hz72, p72⟩; subst z72
          refine zW_iadd (pc' := 76) dX4_unlikeOnes_2.2.2.2.2 rfl ?_
          refine zW_istore_n (ls' := [_, _, _]) (pc' := 77) dX4_unlikeOnes_3.1.1.1 (by decide) rfl rfl rfl ?_
          refine zW_iinc (ls' := [_, _, _]) (pc' := 80) dX4_unlikeOnes_3.1.1.2 rfl (by decide) rfl rfl rfl ?_
          refine zV_goto 56 dX4_unlikeOnes_3.1.2 rfl ?_
          exact k56 _ _ _ hF (by omega) (by omega) (by first | exact gc0 | (rw [show mm = v1 by omega]; exact gc0)) (by first | rfl | (rw [sq, gc1, ← p72.2.2])) (by omega) hLi hN hgh (by omega)
  refine zM_of [some (.inr (.inr 95)), none, none] 2 rfl rfl (Nat.le_of_ble_eq_true rfl) rfl ?_
  refine zW_aload_n (pc' := 1) dX4_unlikeOnes_0.1.1.1.1 rfl rfl ?_
  refine zG_ref (pc' := 4) 97 fg_X4_15 tb95 rfl dX4_unlikeOnes_0.1.1.1.2 rfl ?_
  refine zW_lconst (pc' := 5) dX4_unlikeOnes_0.1.1.2.1 rfl ?_
  have m0 : 0 ≤ mm := by omega
  refine csV2 (pc' := 8) kJ7_fill_d0a16 vJ7_fill_d0a16 lk_X4_60 ⟨Nat.le_of_ble_eq_true rfl, Nat.le_of_ble_eq_true rfl⟩ rfl (s_J7_fill_d0a16Z hF _ h Fw.rf) dX4_unlikeOnes_0.1.1.2.2 (Nat.le_of_ble_eq_true rfl) rfl ?_
  rintro r5 h ⟨hF, d5, p5⟩
  replace hLi : LiO (h 96) M (h 95 0) := by have q0_ := (d5.cell (k := 96) (by intro c hc; simp at hc <;> omega) (by rintro ⟨a, b⟩ hp; simp at hp <;> (show _ ≠ a; omega))); rw [q0_]; have q1_ := (d5.cell (k := 95) (by intro c hc; simp at hc <;> omega) (by rintro ⟨a, b⟩ hp; simp at hp <;> (show _ ≠ a; omega))); rw [q1_]; exact hLi
  replace hN : h 95 0 = mm := by have q0_ := (d5.cell (k := 95) (by intro c hc; simp at hc <;> omega) (by rintro ⟨a, b⟩ hp; simp at hp <;> (show _ ≠ a; omega))); rw [q0_]; exact hN
  replace hgh : Fw [97] [] gh0 h := hgh.tr d5 (by simp) (by simp)
  refine zW_iconst (pc' := 9) dX4_unlikeOnes_0.1.2.1.1 rfl ?_
  refine zW_istore_n (ls' := [_, _, _]) (pc' := 10) dX4_unlikeOnes_0.1.2.1.2 (by decide) rfl rfl rfl ?_
  exact (main 10000000000000000000000000000000000000000).1 _ _ hF (by omega) (by first | exact hs | exact SeO.no (fun w hw => p5 w hw)) (by omega) hLi hN hgh (by omega)

abbrev q_X11_levelsZ (b : Bd) (κ : Hp) (x1 : Int) (x2 : Int) (x3 : Int) : Int → Hp → Prop := fun r h' => Fr b κ h' ∧ ((r = lvQ (κ 33 0) (κ 33 1) (κ 33 2) (κ 41 0) (ltV (LC κ) (κ 41 0)) (bhV (LC κ) (κ 41 0)) (pcV (κ 41 0) (PFc κ)) (nmV (κ 41 0) (XNc κ)) x1 x2 x3))
set_option maxHeartbeats 4000000 in
set_option maxRecDepth 20000 in
theorem s_X11_levelsZ {G : Ga} {b : Bd} {κ h : Hp} (hK : KC κ) (hF : Fr b κ h) (x1 : Int) (hx1 : rng x1) (x2 : Int) (hx2 : rng x2) (x3 : Int) (hx3 : rng x3) (hSw : SheetW b) (hV : VOK (κ 34)) (hE : EaOK (LC κ) (κ 41 0)) : zM G mX11_levels yX11_levels [.inr (.inr 30), .inl x1, .inl x2, .inl x3] h (q_X11_levelsZ b κ x1 x2 x3) := by
  have f_33_0 := KCw hK
  have f_33_1 := KCh hK
  have f_33_2 := KCp hK
  have f_41_0 := KCm hK
  unfold rng at hx1
  unfold rng at hx2
  unfold rng at hx3
  refine zM_of [some (.inr (.inr 30)), some (.inl x1), some (.inl x2), some (.inl x3), none] 1 rfl rfl (Nat.le_of_ble_eq_true rfl) rfl ?_
  refine zW_iload_n (pc' := 1) dX11_levels_0.1.1.1.1 rfl rfl ?_
  refine zW_bipush (pc' := 3) dX11_levels_0.1.1.1.2 rfl rfl ?_
  refine zV_cm_lt (tgt := 16) (pc' := 6) dX11_levels_0.1.1.2.1 rfl rfl ⟨by omega, by omega⟩ ⟨by omega, by omega⟩ (fun c3 => ?_) (fun c3 => ?_)
  · refine zW_iconst (pc' := 17) dX11_levels_0.2.1.1.1 rfl ?_
    refine zW_istore (ls' := [_, _, _, _, _]) (pc' := 19) dX11_levels_0.2.1.1.2 (by decide) rfl rfl rfl ?_
    refine zW_aload_n (pc' := 20) dX11_levels_0.2.1.2.1 rfl rfl ?_
    refine zW_iload_n (pc' := 21) dX11_levels_0.2.1.2.2 rfl rfl ?_
    refine zW_iload_n (pc' := 22) dX11_levels_0.2.2.1.1 rfl rfl ?_
    refine cvI2 (pc' := 25) kX11_isLeftOf vX11_isLeftOf lk_X11_290 ⟨Nat.le_of_ble_eq_true rfl, Nat.le_of_ble_eq_true rfl⟩ tb30 vq11 rfl rfl (s_X11_isLeftOfZ hK hF _ ⟨by omega, by omega⟩ _ ⟨by omega, by omega⟩) dX11_levels_0.2.2.1.2 (Nat.le_of_ble_eq_true rfl) rfl ?_
    rintro r22 z22 ⟨hz22, p22⟩; subst z22
    refine zV_if_eq (tgt := 41) (pc' := 28) dX11_levels_0.2.2.2.1 rfl rfl ⟨by omega, by omega⟩ (fun c25 => ?_) (fun c25 => ?_)
    · refine zW_iconst (pc' := 42) dX11_levels_1.1.2.1.2 rfl ?_
      exact zV_iret rfl dX11_levels_1.1.2.2.1 ⟨hF, (by unfold lvQ; rw [if_neg (by omega)])⟩
    · refine zW_iload_n (pc' := 29) dX11_levels_0.2.2.2.2 rfl rfl ?_
      refine zW_iconst (pc' := 30) dX11_levels_1.1.1.1.1 rfl ?_
      refine csI2 (pc' := 33) kX11_isWithin vX11_isWithin lk_X11_116 ⟨Nat.le_of_ble_eq_true rfl, Nat.le_of_ble_eq_true rfl⟩ rfl (s_X11_isWithinR hF _ ⟨by omega, by omega⟩ _ ⟨by omega, by omega⟩) dX11_levels_1.1.1.1.2 (Nat.le_of_ble_eq_true rfl) rfl ?_
      rintro r30 z30 ⟨hz30, p30⟩; subst z30
      refine zV_if_ne (tgt := 43) (pc' := 36) dX11_levels_1.1.1.2.1 rfl rfl ⟨by omega, by omega⟩ (fun c33 => ?_) (fun c33 => ?_)
      · refine zW_aload_n (pc' := 44) dX11_levels_1.1.2.2.2 rfl rfl ?_
        refine zG_ref (pc' := 47) 95 fg_X11_60 tb30 rfl dX11_levels_1.2.1.1.1 rfl ?_
        refine zW_aload_n (pc' := 48) dX11_levels_1.2.1.1.2 rfl rfl ?_
        refine zG_ref (pc' := 51) 54 fg_X11_51 tb30 rfl dX11_levels_1.2.1.2.1 rfl ?_
        refine zW_iload_n (pc' := 52) dX11_levels_1.2.1.2.2 rfl rfl ?_
        refine cvA1 (pc' := 55) kX1_sheetOf vX1_sheetOf lk_X11_192 ⟨Nat.le_of_ble_eq_true rfl, Nat.le_of_ble_eq_true rfl⟩ tb54 vq1 rfl rfl (hSw hK hF _ ⟨by omega, by omega⟩) dX11_levels_1.2.2.1.1 (Nat.le_of_ble_eq_true rfl) rfl ?_
        rintro r52 h ⟨hF, p52⟩
        obtain ⟨q52, z52⟩ : ∃ z : Nat, z = r52.toNat := ⟨_, rfl⟩
        rw [← z52]
        have hsh := (p52.2.2 (by omega) (by omega)).2 x1.toNat (by omega)
        have hqs := (p52.2.2 (by omega) (by omega)).1
        rw [show 56 + x1.toNat = q52 by omega] at hsh
        have hat := PkS_at hsh rfl (PFc_b hK hV _) (fun q => PFc_c hE (by omega) q) x2
        have hb01 : 0 ≤ bhI (LC κ) x1.toNat ∧ bhI (LC κ) x1.toNat ≤ 1 := by have z := bhI_c (LC κ) x1.toNat; omega
        refine zW_iload_n (pc' := 56) dX11_levels_1.2.2.1.2 rfl rfl ?_
        refine cvV2 (pc' := 59) kX4_gather vX4_gather lk_X11_293 ⟨Nat.le_of_ble_eq_true rfl, Nat.le_of_ble_eq_true rfl⟩ tb95 vq4 rfl rfl (s_X4_gatherZ hK hF _ ⟨by omega, by omega⟩ _ ⟨by omega, by omega⟩ (PFc κ x1.toNat) (bhI (LC κ) x1.toNat) h (PkS_fl hsh) hb01 (fun x y hp => hat x y ⟨by omega, by omega⟩ hp) Fw.rf) dX11_levels_1.2.2.2.1 (Nat.le_of_ble_eq_true rfl) rfl ?_
        rintro r56 h ⟨hF, d56, p56⟩
        have k1 := p56.1; have k2 := p56.2
        have e53_ := hF.2.2.2.2.1
        obtain ⟨N0, hN0⟩ : ∃ z : Int, z = h 95 0 := ⟨_, rfl⟩
        refine zW_iload_n (pc' := 60) dX11_levels_1.2.2.2.2 rfl rfl ?_
        refine zW_tsw2 (fun z t => (z = 0 ∧ t = 100) ∨ (z = 1 ∧ t = 108) ∨ (z = 2 ∧ t = 116) ∨ (z = 3 ∧ t = 124) ∨ (z = 4 ∧ t = 132) ∨ (z = 5 ∧ t = 146)) (fun z => if z = 0 then 100 else if z = 1 then 108 else if z = 2 then 116 else if z = 3 then 124 else if z = 4 then 132 else if z = 5 then 146 else 156) dX11_levels_2.1.1.1.1 ⟨by omega, by omega⟩ (tsw_ok (pc := 60) (lo := 0) (offs := #[40, 48, 56, 64, 72, 86]) (tg := fun z => if z = 0 then 100 else if z = 1 then 108 else if z = 2 then 116 else if z = 3 then 124 else if z = 4 then 132 else if z = 5 then 146 else 156) (by decide +kernel)) rfl (by decide +kernel) (td := 156) rfl (fun c60 => ?_) (fun t60 w60 => ?_)
        · refine zW_aload_n (pc' := 157) dX11_levels_3.2.2.1.2 rfl rfl ?_
          refine zG_ref (pc' := 160) 95 fg_X11_60 tb30 rfl dX11_levels_3.2.2.2.1 rfl ?_
          refine zW_iload_n (pc' := 161) dX11_levels_3.2.2.2.2 rfl rfl ?_
          refine zW_bipush (pc' := 163) dX11_levels_4.1.1.1.1 rfl rfl ?_
          refine zW_isub (pc' := 164) dX11_levels_4.1.1.1.2 rfl ?_
          refine zW_sipush (pc' := 167) dX11_levels_4.1.1.2.1 rfl rfl ?_
          refine zW_imul (pc' := 168) dX11_levels_4.1.1.2.2 rfl ?_
          refine zW_iload_n (pc' := 169) dX11_levels_4.1.2.1.1 rfl rfl ?_
          refine zW_bipush (pc' := 171) dX11_levels_4.1.2.1.2 rfl rfl ?_
          refine zW_isub (pc' := 172) dX11_levels_4.1.2.2 rfl ?_
          refine zW_sipush (pc' := 175) dX11_levels_4.2.1.1.1 rfl rfl ?_
          refine zW_imul (pc' := 176) dX11_levels_4.2.1.1.2 rfl ?_
          refine zW_sipush (pc' := 179) dX11_levels_4.2.1.2 rfl rfl ?_
          refine zW_iadd (pc' := 180) dX11_levels_4.2.2.1.1 rfl ?_
          refine cvI2 (pc' := 183) kX4_between vX4_between lk_X11_307 ⟨Nat.le_of_ble_eq_true rfl, Nat.le_of_ble_eq_true rfl⟩ tb95 vq4 rfl rfl (s_X4_betweenZ hF _ ⟨by omega, by omega⟩ _ ⟨by omega, by omega⟩ (laS (slF (κ 33 0) (κ 33 1) (κ 33 2) (bhI (LC κ) x1.toNat) (-1) x2) (PFc κ x1.toNat x2) (κ 33 0).toNat (κ 33 1).toNat) k2) dX11_levels_4.2.2.1.2 (Nat.le_of_ble_eq_true rfl) rfl ?_
          rintro r180 z180 ⟨hz180, p180⟩; subst z180
          exact zV_iret rfl dX11_levels_4.2.2.2 ⟨hF, (by unfold lvQ; rw [if_pos ⟨by omega, by omega, by omega, by omega, by omega⟩, bhV_in ⟨by omega, by omega⟩, pcV_in ⟨by omega, by omega⟩, ← k1]; unfold lv4; rw [if_neg (by omega), if_neg (by omega), if_neg (by omega), if_neg (by omega), if_neg (by omega), if_neg (by omega)]; first | exact p180.2.2 | (rw [p180.2.2, Int.mul_comm (x3 - 10) 256]))⟩
        · rcases w60 with ⟨s0, rfl⟩ | ⟨s1, rfl⟩ | ⟨s2, rfl⟩ | ⟨s3, rfl⟩ | ⟨s4, rfl⟩ | ⟨s5, rfl⟩
          · refine zW_aload_n (pc' := 101) dX11_levels_2.1.1.1.2 rfl rfl ?_
            refine zG_ref (pc' := 104) 95 fg_X11_60 tb30 rfl dX11_levels_2.1.1.2.1 rfl ?_
            refine cvI0 (pc' := 107) kX4_least vX4_least lk_X11_295 ⟨Nat.le_of_ble_eq_true rfl, Nat.le_of_ble_eq_true rfl⟩ tb95 vq4 rfl rfl (s_X4_leastZ hF (laS (slF (κ 33 0) (κ 33 1) (κ 33 2) (bhI (LC κ) x1.toNat) (-1) x2) (PFc κ x1.toNat x2) (κ 33 0).toNat (κ 33 1).toNat) k2) dX11_levels_2.1.1.2.2 (Nat.le_of_ble_eq_true rfl) rfl ?_
            rintro r104 z104 ⟨hz104, p104⟩; subst z104
            exact zV_iret rfl dX11_levels_2.1.2.1.1 ⟨hF, (by unfold lvQ; rw [if_pos ⟨by omega, by omega, by omega, by omega, by omega⟩, bhV_in ⟨by omega, by omega⟩, pcV_in ⟨by omega, by omega⟩, ← k1]; unfold lv4; rw [if_pos (by omega)]; exact p104.2.2)⟩
          · refine zW_aload_n (pc' := 109) dX11_levels_2.1.2.1.2 rfl rfl ?_
            refine zG_ref (pc' := 112) 95 fg_X11_60 tb30 rfl dX11_levels_2.1.2.2.1 rfl ?_
            refine cvI0 (pc' := 115) kX4_greatest vX4_greatest lk_X11_298 ⟨Nat.le_of_ble_eq_true rfl, Nat.le_of_ble_eq_true rfl⟩ tb95 vq4 rfl rfl (s_X4_greatestZ hF (laS (slF (κ 33 0) (κ 33 1) (κ 33 2) (bhI (LC κ) x1.toNat) (-1) x2) (PFc κ x1.toNat x2) (κ 33 0).toNat (κ 33 1).toNat) k2) dX11_levels_2.1.2.2.2 (Nat.le_of_ble_eq_true rfl) rfl ?_
            rintro r112 z112 ⟨hz112, p112⟩; subst z112
            exact zV_iret rfl dX11_levels_2.2.1.1.1 ⟨hF, (by unfold lvQ; rw [if_pos ⟨by omega, by omega, by omega, by omega, by omega⟩, bhV_in ⟨by omega, by omega⟩, pcV_in ⟨by omega, by omega⟩, ← k1]; unfold lv4; rw [if_neg (by omega), if_pos (by omega)]; exact p112.2.2)⟩
          · refine zW_aload_n (pc' := 117) dX11_levels_2.2.1.1.2 rfl rfl ?_
            refine zG_ref (pc' := 120) 95 fg_X11_60 tb30 rfl dX11_levels_2.2.1.2.1 rfl ?_
            refine cvI0 (pc' := 123) kX4_together vX4_together lk_X11_301 ⟨Nat.le_of_ble_eq_true rfl, Nat.le_of_ble_eq_true rfl⟩ tb95 vq4 rfl rfl (s_X4_togetherZ hF (laS (slF (κ 33 0) (κ 33 1) (κ 33 2) (bhI (LC κ) x1.toNat) (-1) x2) (PFc κ x1.toNat x2) (κ 33 0).toNat (κ 33 1).toNat) k2) dX11_levels_2.2.1.2.2 (Nat.le_of_ble_eq_true rfl) rfl ?_
            rintro r120 z120 ⟨hz120, p120⟩; subst z120
            exact zV_iret rfl dX11_levels_2.2.2.1.1 ⟨hF, (by unfold lvQ; rw [if_pos ⟨by omega, by omega, by omega, by omega, by omega⟩, bhV_in ⟨by omega, by omega⟩, pcV_in ⟨by omega, by omega⟩, ← k1]; unfold lv4; rw [if_neg (by omega), if_neg (by omega), if_pos (by omega)]; exact p120.2.2)⟩
          · refine zW_aload_n (pc' := 125) dX11_levels_2.2.2.1.2 rfl rfl ?_
            refine zG_ref (pc' := 128) 95 fg_X11_60 tb30 rfl dX11_levels_2.2.2.2.1 rfl ?_
            refine cvI0 (pc' := 131) kX4_unlikeOnes vX4_unlikeOnes lk_X11_304 ⟨Nat.le_of_ble_eq_true rfl, Nat.le_of_ble_eq_true rfl⟩ tb95 vq4 rfl rfl (s_X4_unlikeOnesZ hF (laS (slF (κ 33 0) (κ 33 1) (κ 33 2) (bhI (LC κ) x1.toNat) (-1) x2) (PFc κ x1.toNat x2) (κ 33 0).toNat (κ 33 1).toNat) (h 95 0) h k2 rfl Fw.rf) dX11_levels_2.2.2.2.2 (Nat.le_of_ble_eq_true rfl) rfl ?_
            rintro r128 h ⟨hF, d128, p128⟩
            exact zV_iret rfl dX11_levels_3.1.1.1.1 ⟨hF, (by unfold lvQ; rw [if_pos ⟨by omega, by omega, by omega, by omega, by omega⟩, bhV_in ⟨by omega, by omega⟩, pcV_in ⟨by omega, by omega⟩, ← k1]; unfold lv4; rw [if_neg (by omega), if_neg (by omega), if_neg (by omega), if_pos (by omega)]; exact p128.2.2)⟩
          · refine zW_aload_n (pc' := 133) dX11_levels_3.1.1.1.2 rfl rfl ?_
            refine zG_ref (pc' := 136) 95 fg_X11_60 tb30 rfl dX11_levels_3.1.1.2.1 rfl ?_
            refine zW_sipush (pc' := 139) dX11_levels_3.1.1.2.2 rfl rfl ?_
            refine zW_sipush (pc' := 142) dX11_levels_3.1.2.1.1 rfl rfl ?_
            refine cvI2 (pc' := 145) kX4_between vX4_between lk_X11_307 ⟨Nat.le_of_ble_eq_true rfl, Nat.le_of_ble_eq_true rfl⟩ tb95 vq4 rfl rfl (s_X4_betweenZ hF _ ⟨by omega, by omega⟩ _ ⟨by omega, by omega⟩ (laS (slF (κ 33 0) (κ 33 1) (κ 33 2) (bhI (LC κ) x1.toNat) (-1) x2) (PFc κ x1.toNat x2) (κ 33 0).toNat (κ 33 1).toNat) k2) dX11_levels_3.1.2.1.2 (Nat.le_of_ble_eq_true rfl) rfl ?_
            rintro r142 z142 ⟨hz142, p142⟩; subst z142
            exact zV_iret rfl dX11_levels_3.1.2.2.1 ⟨hF, (by unfold lvQ; rw [if_pos ⟨by omega, by omega, by omega, by omega, by omega⟩, bhV_in ⟨by omega, by omega⟩, pcV_in ⟨by omega, by omega⟩, ← k1]; unfold lv4; rw [if_neg (by omega), if_neg (by omega), if_neg (by omega), if_neg (by omega), if_pos (by omega)]; exact p142.2.2)⟩
          · refine zW_aload_n (pc' := 147) dX11_levels_3.1.2.2.2 rfl rfl ?_
            refine zG_ref (pc' := 150) 95 fg_X11_60 tb30 rfl dX11_levels_3.2.1.1.1 rfl ?_
            refine zW_iconst (pc' := 151) dX11_levels_3.2.1.1.2 rfl ?_
            refine zW_iconst (pc' := 152) dX11_levels_3.2.1.2.1 rfl ?_
            refine cvI2 (pc' := 155) kX4_between vX4_between lk_X11_307 ⟨Nat.le_of_ble_eq_true rfl, Nat.le_of_ble_eq_true rfl⟩ tb95 vq4 rfl rfl (s_X4_betweenZ hF _ ⟨by omega, by omega⟩ _ ⟨by omega, by omega⟩ (laS (slF (κ 33 0) (κ 33 1) (κ 33 2) (bhI (LC κ) x1.toNat) (-1) x2) (PFc κ x1.toNat x2) (κ 33 0).toNat (κ 33 1).toNat) k2) dX11_levels_3.2.1.2.2 (Nat.le_of_ble_eq_true rfl) rfl ?_
            rintro r152 z152 ⟨hz152, p152⟩; subst z152
            exact zV_iret rfl dX11_levels_3.2.2.1.1 ⟨hF, (by unfold lvQ; rw [if_pos ⟨by omega, by omega, by omega, by omega, by omega⟩, bhV_in ⟨by omega, by omega⟩, pcV_in ⟨by omega, by omega⟩, ← k1]; unfold lv4; rw [if_neg (by omega), if_neg (by omega), if_neg (by omega), if_neg (by omega), if_neg (by omega), if_pos (by omega)]; exact p152.2.2)⟩
      · refine zW_iload (pc' := 38) dX11_levels_1.1.1.2.2 rfl rfl ?_
        refine zV_if_ne (tgt := 43) (pc' := 41) dX11_levels_1.1.2.1.1 rfl rfl ⟨by omega, by omega⟩ (fun c38 => ?_) (fun c38 => ?_)
        · exfalso; omega
        · refine zW_iconst (pc' := 42) dX11_levels_1.1.2.1.2 rfl ?_
          exact zV_iret rfl dX11_levels_1.1.2.2.1 ⟨hF, (by unfold lvQ; rw [if_neg (by omega)])⟩
  · refine zW_iload_n (pc' := 7) dX11_levels_0.1.1.2.2 rfl rfl ?_
    refine zW_bipush (pc' := 9) dX11_levels_0.1.2.1.1 rfl rfl ?_
    refine zV_cm_gt (tgt := 16) (pc' := 12) dX11_levels_0.1.2.1.2 rfl rfl ⟨by omega, by omega⟩ ⟨by omega, by omega⟩ (fun c9 => ?_) (fun c9 => ?_)
    · refine zW_iconst (pc' := 17) dX11_levels_0.2.1.1.1 rfl ?_
      refine zW_istore (ls' := [_, _, _, _, _]) (pc' := 19) dX11_levels_0.2.1.1.2 (by decide) rfl rfl rfl ?_
      refine zW_aload_n (pc' := 20) dX11_levels_0.2.1.2.1 rfl rfl ?_
      refine zW_iload_n (pc' := 21) dX11_levels_0.2.1.2.2 rfl rfl ?_
      refine zW_iload_n (pc' := 22) dX11_levels_0.2.2.1.1 rfl rfl ?_
      refine cvI2 (pc' := 25) kX11_isLeftOf vX11_isLeftOf lk_X11_290 ⟨Nat.le_of_ble_eq_true rfl, Nat.le_of_ble_eq_true rfl⟩ tb30 vq11 rfl rfl (s_X11_isLeftOfZ hK hF _ ⟨by omega, by omega⟩ _ ⟨by omega, by omega⟩) dX11_levels_0.2.2.1.2 (Nat.le_of_ble_eq_true rfl) rfl ?_
      rintro r22 z22 ⟨hz22, p22⟩; subst z22
      refine zV_if_eq (tgt := 41) (pc' := 28) dX11_levels_0.2.2.2.1 rfl rfl ⟨by omega, by omega⟩ (fun c25 => ?_) (fun c25 => ?_)
      · refine zW_iconst (pc' := 42) dX11_levels_1.1.2.1.2 rfl ?_
        exact zV_iret rfl dX11_levels_1.1.2.2.1 ⟨hF, (by unfold lvQ; rw [if_neg (by omega)])⟩
      · refine zW_iload_n (pc' := 29) dX11_levels_0.2.2.2.2 rfl rfl ?_
        refine zW_iconst (pc' := 30) dX11_levels_1.1.1.1.1 rfl ?_
        refine csI2 (pc' := 33) kX11_isWithin vX11_isWithin lk_X11_116 ⟨Nat.le_of_ble_eq_true rfl, Nat.le_of_ble_eq_true rfl⟩ rfl (s_X11_isWithinR hF _ ⟨by omega, by omega⟩ _ ⟨by omega, by omega⟩) dX11_levels_1.1.1.1.2 (Nat.le_of_ble_eq_true rfl) rfl ?_
        rintro r30 z30 ⟨hz30, p30⟩; subst z30
        refine zV_if_ne (tgt := 43) (pc' := 36) dX11_levels_1.1.1.2.1 rfl rfl ⟨by omega, by omega⟩ (fun c33 => ?_) (fun c33 => ?_)
        · exfalso; omega
        · refine zW_iload (pc' := 38) dX11_levels_1.1.1.2.2 rfl rfl ?_
          refine zV_if_ne (tgt := 43) (pc' := 41) dX11_levels_1.1.2.1.1 rfl rfl ⟨by omega, by omega⟩ (fun c38 => ?_) (fun c38 => ?_)
          · exfalso; omega
          · refine zW_iconst (pc' := 42) dX11_levels_1.1.2.1.2 rfl ?_
            exact zV_iret rfl dX11_levels_1.1.2.2.1 ⟨hF, (by unfold lvQ; rw [if_neg (by omega)])⟩
    · refine zW_iconst (pc' := 13) dX11_levels_0.1.2.2.1 rfl ?_
      refine zV_goto 17 dX11_levels_0.1.2.2.2 rfl ?_
      refine zW_istore (ls' := [_, _, _, _, _]) (pc' := 19) dX11_levels_0.2.1.1.2 (by decide) rfl rfl rfl ?_
      refine zW_aload_n (pc' := 20) dX11_levels_0.2.1.2.1 rfl rfl ?_
      refine zW_iload_n (pc' := 21) dX11_levels_0.2.1.2.2 rfl rfl ?_
      refine zW_iload_n (pc' := 22) dX11_levels_0.2.2.1.1 rfl rfl ?_
      refine cvI2 (pc' := 25) kX11_isLeftOf vX11_isLeftOf lk_X11_290 ⟨Nat.le_of_ble_eq_true rfl, Nat.le_of_ble_eq_true rfl⟩ tb30 vq11 rfl rfl (s_X11_isLeftOfZ hK hF _ ⟨by omega, by omega⟩ _ ⟨by omega, by omega⟩) dX11_levels_0.2.2.1.2 (Nat.le_of_ble_eq_true rfl) rfl ?_
      rintro r22 z22 ⟨hz22, p22⟩; subst z22
      refine zV_if_eq (tgt := 41) (pc' := 28) dX11_levels_0.2.2.2.1 rfl rfl ⟨by omega, by omega⟩ (fun c25 => ?_) (fun c25 => ?_)
      · refine zW_iconst (pc' := 42) dX11_levels_1.1.2.1.2 rfl ?_
        exact zV_iret rfl dX11_levels_1.1.2.2.1 ⟨hF, (by unfold lvQ; rw [if_neg (by omega)])⟩
      · refine zW_iload_n (pc' := 29) dX11_levels_0.2.2.2.2 rfl rfl ?_
        refine zW_iconst (pc' := 30) dX11_levels_1.1.1.1.1 rfl ?_
        refine csI2 (pc' := 33) kX11_isWithin vX11_isWithin lk_X11_116 ⟨Nat.le_of_ble_eq_true rfl, Nat.le_of_ble_eq_true rfl⟩ rfl (s_X11_isWithinR hF _ ⟨by omega, by omega⟩ _ ⟨by omega, by omega⟩) dX11_levels_1.1.1.1.2 (Nat.le_of_ble_eq_true rfl) rfl ?_
        rintro r30 z30 ⟨hz30, p30⟩; subst z30
        refine zV_if_ne (tgt := 43) (pc' := 36) dX11_levels_1.1.1.2.1 rfl rfl ⟨by omega, by omega⟩ (fun c33 => ?_) (fun c33 => ?_)
        · exfalso; omega
        · refine zW_iload (pc' := 38) dX11_levels_1.1.1.2.2 rfl rfl ?_
          refine zV_if_ne (tgt := 43) (pc' := 41) dX11_levels_1.1.2.1.1 rfl rfl ⟨by omega, by omega⟩ (fun c38 => ?_) (fun c38 => ?_)
          · refine zW_aload_n (pc' := 44) dX11_levels_1.1.2.2.2 rfl rfl ?_
            refine zG_ref (pc' := 47) 95 fg_X11_60 tb30 rfl dX11_levels_1.2.1.1.1 rfl ?_
            refine zW_aload_n (pc' := 48) dX11_levels_1.2.1.1.2 rfl rfl ?_
            refine zG_ref (pc' := 51) 54 fg_X11_51 tb30 rfl dX11_levels_1.2.1.2.1 rfl ?_
            refine zW_iload_n (pc' := 52) dX11_levels_1.2.1.2.2 rfl rfl ?_
            refine cvA1 (pc' := 55) kX1_sheetOf vX1_sheetOf lk_X11_192 ⟨Nat.le_of_ble_eq_true rfl, Nat.le_of_ble_eq_true rfl⟩ tb54 vq1 rfl rfl (hSw hK hF _ ⟨by omega, by omega⟩) dX11_levels_1.2.2.1.1 (Nat.le_of_ble_eq_true rfl) rfl ?_
            rintro r52 h ⟨hF, p52⟩
            obtain ⟨q52, z52⟩ : ∃ z : Nat, z = r52.toNat := ⟨_, rfl⟩
            rw [← z52]
            have hsh := (p52.2.2 (by omega) (by omega)).2 x1.toNat (by omega)
            have hqs := (p52.2.2 (by omega) (by omega)).1
            rw [show 56 + x1.toNat = q52 by omega] at hsh
            have hat := PkS_at hsh rfl (PFc_b hK hV _) (fun q => PFc_c hE (by omega) q) x2
            have hb01 : 0 ≤ bhI (LC κ) x1.toNat ∧ bhI (LC κ) x1.toNat ≤ 1 := by have z := bhI_c (LC κ) x1.toNat; omega
            refine zW_iload_n (pc' := 56) dX11_levels_1.2.2.1.2 rfl rfl ?_
            refine cvV2 (pc' := 59) kX4_gather vX4_gather lk_X11_293 ⟨Nat.le_of_ble_eq_true rfl, Nat.le_of_ble_eq_true rfl⟩ tb95 vq4 rfl rfl (s_X4_gatherZ hK hF _ ⟨by omega, by omega⟩ _ ⟨by omega, by omega⟩ (PFc κ x1.toNat) (bhI (LC κ) x1.toNat) h (PkS_fl hsh) hb01 (fun x y hp => hat x y ⟨by omega, by omega⟩ hp) Fw.rf) dX11_levels_1.2.2.2.1 (Nat.le_of_ble_eq_true rfl) rfl ?_
            rintro r56 h ⟨hF, d56, p56⟩
            have k1 := p56.1; have k2 := p56.2
            have e53_ := hF.2.2.2.2.1
            obtain ⟨N0, hN0⟩ : ∃ z : Int, z = h 95 0 := ⟨_, rfl⟩
            refine zW_iload_n (pc' := 60) dX11_levels_1.2.2.2.2 rfl rfl ?_
            refine zW_tsw2 (fun z t => (z = 0 ∧ t = 100) ∨ (z = 1 ∧ t = 108) ∨ (z = 2 ∧ t = 116) ∨ (z = 3 ∧ t = 124) ∨ (z = 4 ∧ t = 132) ∨ (z = 5 ∧ t = 146)) (fun z => if z = 0 then 100 else if z = 1 then 108 else if z = 2 then 116 else if z = 3 then 124 else if z = 4 then 132 else if z = 5 then 146 else 156) dX11_levels_2.1.1.1.1 ⟨by omega, by omega⟩ (tsw_ok (pc := 60) (lo := 0) (offs := #[40, 48, 56, 64, 72, 86]) (tg := fun z => if z = 0 then 100 else if z = 1 then 108 else if z = 2 then 116 else if z = 3 then 124 else if z = 4 then 132 else if z = 5 then 146 else 156) (by decide +kernel)) rfl (by decide +kernel) (td := 156) rfl (fun c60 => ?_) (fun t60 w60 => ?_)
            · refine zW_aload_n (pc' := 157) dX11_levels_3.2.2.1.2 rfl rfl ?_
              refine zG_ref (pc' := 160) 95 fg_X11_60 tb30 rfl dX11_levels_3.2.2.2.1 rfl ?_
              refine zW_iload_n (pc' := 161) dX11_levels_3.2.2.2.2 rfl rfl ?_
              refine zW_bipush (pc' := 163) dX11_levels_4.1.1.1.1 rfl rfl ?_
              refine zW_isub (pc' := 164) dX11_levels_4.1.1.1.2 rfl ?_
              refine zW_sipush (pc' := 167) dX11_levels_4.1.1.2.1 rfl rfl ?_
              refine zW_imul (pc' := 168) dX11_levels_4.1.1.2.2 rfl ?_
              refine zW_iload_n (pc' := 169) dX11_levels_4.1.2.1.1 rfl rfl ?_
              refine zW_bipush (pc' := 171) dX11_levels_4.1.2.1.2 rfl rfl ?_
              refine zW_isub (pc' := 172) dX11_levels_4.1.2.2 rfl ?_
              refine zW_sipush (pc' := 175) dX11_levels_4.2.1.1.1 rfl rfl ?_
              refine zW_imul (pc' := 176) dX11_levels_4.2.1.1.2 rfl ?_
              refine zW_sipush (pc' := 179) dX11_levels_4.2.1.2 rfl rfl ?_
              refine zW_iadd (pc' := 180) dX11_levels_4.2.2.1.1 rfl ?_
              refine cvI2 (pc' := 183) kX4_between vX4_between lk_X11_307 ⟨Nat.le_of_ble_eq_true rfl, Nat.le_of_ble_eq_true rfl⟩ tb95 vq4 rfl rfl (s_X4_betweenZ hF _ ⟨by omega, by omega⟩ _ ⟨by omega, by omega⟩ (laS (slF (κ 33 0) (κ 33 1) (κ 33 2) (bhI (LC κ) x1.toNat) (-1) x2) (PFc κ x1.toNat x2) (κ 33 0).toNat (κ 33 1).toNat) k2) dX11_levels_4.2.2.1.2 (Nat.le_of_ble_eq_true rfl) rfl ?_
              rintro r180 z180 ⟨hz180, p180⟩; subst z180
              exact zV_iret rfl dX11_levels_4.2.2.2 ⟨hF, (by unfold lvQ; rw [if_pos ⟨by omega, by omega, by omega, by omega, by omega⟩, bhV_in ⟨by omega, by omega⟩, pcV_in ⟨by omega, by omega⟩, ← k1]; unfold lv4; rw [if_neg (by omega), if_neg (by omega), if_neg (by omega), if_neg (by omega), if_neg (by omega), if_neg (by omega)]; first | exact p180.2.2 | (rw [p180.2.2, Int.mul_comm (x3 - 10) 256]))⟩
            · rcases w60 with ⟨s0, rfl⟩ | ⟨s1, rfl⟩ | ⟨s2, rfl⟩ | ⟨s3, rfl⟩ | ⟨s4, rfl⟩ | ⟨s5, rfl⟩
              · exfalso; omega
              · exfalso; omega
              · exfalso; omega
              · exfalso; omega
              · exfalso; omega
              · exfalso; omega
          · exfalso; omega

abbrev q_X12_withinZ (κ h : Hp) (x1 : Int) (x2 : Int) (M : Nat → Int) : Int → Hp → Prop := fun r h' => h' = h ∧ ((0 ≤ r) ∧ (r ≤ 256) ∧ (r = bwF M x1 x2 (h 0 53).toNat))
set_option maxHeartbeats 4000000 in
set_option maxRecDepth 20000 in
theorem s_X12_withinZ {G : Ga} {b : Bd} {κ h : Hp} (hF : Fr b κ h) (x1 : Int) (hx1 : rng x1) (x2 : Int) (hx2 : rng x2) (M : Nat → Int) (hLi : LiO (h 29) M (h 0 53)) : zM G mX12_within yX12_within [.inr (.inr 0), .inl x1, .inl x2] h (q_X12_withinZ κ h x1 x2 M) := by
  have e53_ := hF.2.2.1
  unfold rng at hx1
  unfold rng at hx2
  have main : ∀ N : Nat, (∀ (v3 v4 : Int) , (0 ≤ v3 ∧ v3 ≤ 256) → (0 ≤ v4 ∧ v4 ≤ 256) → (v3 = bwF M x1 x2 v4.toNat) → (v4 ≤ h 0 53) → (v3 ≤ v4) → 119196 + 22 * (256 - v4) + 21 < (N : Int) → zV G mX12_within (q_X12_withinZ κ h x1 x2 M) 5 [some (.inr (.inr 0)), some (.inl x1), some (.inl x2), some (.inl v3), some (.inl v4)] [] h) := by
    intro N
    induction N with
    | zero =>
      intro v3 v4 g0 g1 gc0 gc1 gc2 hm
      exfalso; omega
    | succ N ih =>
      have k5 := ih
      intro v3 v4 g0 g1 gc0 gc1 gc2 hm
      refine zW_iload (pc' := 7) dX12_within_0.1.2.1.1 rfl rfl ?_
      refine zW_aload_n (pc' := 8) dX12_within_0.1.2.1.2 rfl rfl ?_
      refine zG_int (pc' := 11) fg_X12_403 tb0 rfl dX12_within_0.1.2.2.1 rfl ?_
      have e8 := hF.2.2.1
      refine zV_cm_ge (tgt := 39) (pc' := 14) dX12_within_0.1.2.2.2 rfl rfl ⟨by omega, by omega⟩ ⟨by omega, by omega⟩ (fun c11 => ?_) (fun c11 => ?_)
      · refine zW_iload_n (pc' := 40) dX12_within_1.2.2.1 rfl rfl ?_
        exact zV_iret rfl dX12_within_1.2.2.2 ⟨rfl, (by rw [show (h 0 53).toNat = v4.toNat by omega]; exact ⟨by omega, by omega, gc0⟩)⟩
      · refine zW_aload_n (pc' := 15) dX12_within_0.2.1.1.1 rfl rfl ?_
        refine zG_ref (pc' := 18) 29 fg_X12_96 tb0 rfl dX12_within_0.2.1.1.2 rfl ?_
        refine zW_iload (pc' := 20) dX12_within_0.2.1.2.1 rfl rfl ?_
        refine zV_iald (pc' := 21) tb29 (by omega) dX12_within_0.2.1.2.2 (by decide) rfl ?_
        have ha := hLi v4.toNat (by omega)
        have b20 : 0 ≤ h 29 v4.toNat ∧ h 29 v4.toNat ≤ 4095 := by rw [ha.1]; exact ha.2
        have sq := bwF_s (A := M) (lo := x1) (hi := x2) (i := v4) (by omega)
        rw [← ha.1] at sq
        refine zW_iload_n (pc' := 22) dX12_within_0.2.2.1.1 rfl rfl ?_
        refine zW_iload_n (pc' := 23) dX12_within_0.2.2.1.2 rfl rfl ?_
        refine csI3 (pc' := 26) kX12_in vX12_in lk_X12_140 ⟨Nat.le_of_ble_eq_true rfl, Nat.le_of_ble_eq_true rfl⟩ rfl (s_X12_inR hF _ ⟨by omega, by omega⟩ _ ⟨by omega, by omega⟩ _ ⟨by omega, by omega⟩) dX12_within_0.2.2.2.1 (Nat.le_of_ble_eq_true rfl) rfl ?_
        rintro r23 z23 ⟨hz23, p23⟩; subst z23
        refine zV_if_eq (tgt := 33) (pc' := 29) dX12_within_0.2.2.2.2 rfl rfl ⟨by omega, by omega⟩ (fun c26 => ?_) (fun c26 => ?_)
        · first | rw [if_pos (by omega)] at sq | rw [if_neg (by omega)] at sq
          refine zW_iinc (ls' := [_, _, _, _, _]) (pc' := 36) dX12_within_1.2.1.1 rfl (by decide) rfl rfl rfl ?_
          refine zV_goto 5 dX12_within_1.2.1.2 rfl ?_
          exact k5 _ _ (by omega) (by omega) (by first | rfl | (rw [sq, gc0]; omega) | (rw [sq, gc0])) (by omega) (by omega) (by omega)
        · refine zW_iload_n (pc' := 30) dX12_within_1.1.1.1 rfl rfl ?_
          refine zW_iconst (pc' := 31) dX12_within_1.1.1.2 rfl ?_
          refine zW_iadd (pc' := 32) dX12_within_1.1.2.1 rfl ?_
          refine zW_istore_n (ls' := [_, _, _, _, _]) (pc' := 33) dX12_within_1.1.2.2 (by decide) rfl rfl rfl ?_
          first | rw [if_pos (by omega)] at sq | rw [if_neg (by omega)] at sq
          refine zW_iinc (ls' := [_, _, _, _, _]) (pc' := 36) dX12_within_1.2.1.1 rfl (by decide) rfl rfl rfl ?_
          refine zV_goto 5 dX12_within_1.2.1.2 rfl ?_
          exact k5 _ _ (by omega) (by omega) (by first | rfl | (rw [sq, gc0]; omega) | (rw [sq, gc0])) (by omega) (by omega) (by omega)
  refine zM_of [some (.inr (.inr 0)), some (.inl x1), some (.inl x2), none, none] 2 rfl rfl (Nat.le_of_ble_eq_true rfl) rfl ?_
  refine zW_iconst (pc' := 1) dX12_within_0.1.1.1.1 rfl ?_
  refine zW_istore_n (ls' := [_, _, _, _, _]) (pc' := 2) dX12_within_0.1.1.1.2 (by decide) rfl rfl rfl ?_
  refine zW_iconst (pc' := 3) dX12_within_0.1.1.2.1 rfl ?_
  refine zW_istore (ls' := [_, _, _, _, _]) (pc' := 5) dX12_within_0.1.1.2.2 (by decide) rfl rfl rfl ?_
  exact (main 10000000000000000000000000000000000000000) _ _ (by omega) (by omega) (by first | rfl | (rw [sq, gc0]; omega) | (rw [sq, gc0])) (by omega) (by omega) (by omega)

abbrev q_X12_unlikeOnesZ (κ h : Hp) (M : Nat → Int) : Int → Hp → Prop := fun r h' => h' = h ∧ ((0 ≤ r) ∧ (r ≤ 256) ∧ (r = unF M (h 0 53).toNat))
set_option maxHeartbeats 4000000 in
set_option maxRecDepth 20000 in
theorem s_X12_unlikeOnesZ {G : Ga} {b : Bd} {κ h : Hp} (hF : Fr b κ h) (M : Nat → Int) (hLi : LiO (h 29) M (h 0 53)) : zM G mX12_unlikeOnes yX12_unlikeOnes [.inr (.inr 0)] h (q_X12_unlikeOnesZ κ h M) := by
  have e53_ := hF.2.2.1
  have main : ∀ N : Nat, (∀ (v1 v2 : Int) , (0 ≤ v1 ∧ v1 ≤ 256) → (0 ≤ v2 ∧ v2 ≤ 256) → (v1 = unF M v2.toNat) → (v2 ≤ h 0 53) → (v1 ≤ v2) → 3103120800 + 308400 * (256 - v2) + 300690 < (N : Int) → zV G mX12_unlikeOnes (q_X12_unlikeOnesZ κ h M) 4 [some (.inr (.inr 0)), some (.inl v1), some (.inl v2), none, none] [] h) ∧ (∀ (v1 v2 v3 v4 : Int) , (0 ≤ v1 ∧ v1 ≤ 256) → (0 ≤ v2 ∧ v2 ≤ 255) → (0 ≤ v3 ∧ v3 ≤ 1) → (0 ≤ v4 ∧ v4 ≤ 255) → (v1 = unF M v2.toNat) → (v2 < h 0 53) → (v1 ≤ v2) → (v3 = 1 - mbF M (M v2.toNat) v4.toNat) → (v4 ≤ v2) → 3103120800 + 308400 * (256 - v2) + 223590 + 30 * (255 - v4) + 29 < (N : Int) → zV G mX12_unlikeOnes (q_X12_unlikeOnesZ κ h M) 17 [some (.inr (.inr 0)), some (.inl v1), some (.inl v2), some (.inl v3), some (.inl v4)] [] h) := by
    intro N
    induction N with
    | zero =>
      refine ⟨?_, ?_⟩
      · intro v1 v2 g0 g1 gc0 gc1 gc2 hm
        exfalso; omega
      · intro v1 v2 v3 v4 g0 g1 g2 g3 gc0 gc1 gc2 gc3 gc4 hm
        exfalso; omega
    | succ N ih =>
      obtain ⟨k4, k17⟩ := ih
      refine ⟨?_, ?_⟩
      · intro v1 v2 g0 g1 gc0 gc1 gc2 hm
        refine zW_iload_n (pc' := 5) dX12_unlikeOnes_0.1.2.1.1 rfl rfl ?_
        refine zW_aload_n (pc' := 6) dX12_unlikeOnes_0.1.2.1.2 rfl rfl ?_
        refine zG_int (pc' := 9) fg_X12_403 tb0 rfl dX12_unlikeOnes_0.1.2.2.1 rfl ?_
        have e6 := hF.2.2.1
        refine zV_cm_ge (tgt := 69) (pc' := 12) dX12_unlikeOnes_0.1.2.2.2 rfl rfl ⟨by omega, by omega⟩ ⟨by omega, by omega⟩ (fun c9 => ?_) (fun c9 => ?_)
        · refine zW_iload_n (pc' := 70) dX12_unlikeOnes_2.2.2.1 rfl rfl ?_
          exact zV_iret rfl dX12_unlikeOnes_2.2.2.2 ⟨rfl, (by rw [show (h 0 53).toNat = v2.toNat by omega]; exact ⟨by omega, by omega, gc0⟩)⟩
        · refine zW_iconst (pc' := 13) dX12_unlikeOnes_0.2.1.1.1 rfl ?_
          refine zW_istore_n (ls' := [_, _, _, _, _]) (pc' := 14) dX12_unlikeOnes_0.2.1.1.2 (by decide) rfl rfl rfl ?_
          refine zW_iconst (pc' := 15) dX12_unlikeOnes_0.2.1.2.1 rfl ?_
          refine zW_istore (ls' := [_, _, _, _, _]) (pc' := 17) dX12_unlikeOnes_0.2.1.2.2 (by decide) rfl rfl rfl ?_
          exact k17 _ _ _ _ (by omega) (by omega) (by omega) (by omega) (by omega) (by omega) (by omega) (by first | omega | rfl | (show (1 : Int) = 1 - 0; rfl)) (by omega) (by omega)
      · intro v1 v2 v3 v4 g0 g1 g2 g3 gc0 gc1 gc2 gc3 gc4 hm
        refine zW_iload (pc' := 19) dX12_unlikeOnes_0.2.2.1.1 rfl rfl ?_
        refine zW_iload_n (pc' := 20) dX12_unlikeOnes_0.2.2.1.2 rfl rfl ?_
        refine zV_cm_ge (tgt := 55) (pc' := 23) dX12_unlikeOnes_0.2.2.2.1 rfl rfl ⟨by omega, by omega⟩ ⟨by omega, by omega⟩ (fun c20 => ?_) (fun c20 => ?_)
        · have us := unF_s (M := M) (i := v2) (by omega)
          have e4 : v4 = v2 := by omega
          rw [e4] at gc3
          refine zW_iload_n (pc' := 56) dX12_unlikeOnes_2.1.1.1.1 rfl rfl ?_
          refine zV_if_eq (tgt := 63) (pc' := 59) dX12_unlikeOnes_2.1.1.1.2 rfl rfl ⟨by omega, by omega⟩ (fun c56 => ?_) (fun c56 => ?_)
          · refine zW_iinc (ls' := [_, _, _, _, _]) (pc' := 66) dX12_unlikeOnes_2.2.1.1.2 rfl (by decide) rfl rfl rfl ?_
            refine zV_goto 4 dX12_unlikeOnes_2.2.1.2 rfl ?_
            refine zV_clr 3 (ls' := [_, _, _, _, _]) rfl ?_
            refine zV_clr 4 (ls' := [_, _, _, _, _]) rfl ?_
            exact k4 _ _ (by omega) (by omega) (by first | rfl | omega) (by omega) (by omega) (by omega)
          · refine zW_iload_n (pc' := 60) dX12_unlikeOnes_2.1.1.2 rfl rfl ?_
            refine zW_iconst (pc' := 61) dX12_unlikeOnes_2.1.2.1 rfl ?_
            refine zW_iadd (pc' := 62) dX12_unlikeOnes_2.1.2.2 rfl ?_
            refine zW_istore_n (ls' := [_, _, _, _, _]) (pc' := 63) dX12_unlikeOnes_2.2.1.1.1 (by decide) rfl rfl rfl ?_
            refine zW_iinc (ls' := [_, _, _, _, _]) (pc' := 66) dX12_unlikeOnes_2.2.1.1.2 rfl (by decide) rfl rfl rfl ?_
            refine zV_goto 4 dX12_unlikeOnes_2.2.1.2 rfl ?_
            refine zV_clr 3 (ls' := [_, _, _, _, _]) rfl ?_
            refine zV_clr 4 (ls' := [_, _, _, _, _]) rfl ?_
            exact k4 _ _ (by omega) (by omega) (by first | rfl | omega) (by omega) (by omega) (by omega)
        · have mq := mbF_s (M := M) (L := M v2.toNat) (j := v4) (by omega)
          have m01 := mbF_01 (M := M) (L := M v2.toNat) v4.toNat
          refine zW_iload_n (pc' := 24) dX12_unlikeOnes_0.2.2.2.2 rfl rfl ?_
          refine zV_if_eq (tgt := 47) (pc' := 27) dX12_unlikeOnes_1.1.1.1.1 rfl rfl ⟨by omega, by omega⟩ (fun c24 => ?_) (fun c24 => ?_)
          · refine zW_iconst (pc' := 48) dX12_unlikeOnes_1.2.2.1.1 rfl ?_
            refine zW_istore_n (ls' := [_, _, _, _, _]) (pc' := 49) dX12_unlikeOnes_1.2.2.1.2 (by decide) rfl rfl rfl ?_
            refine zW_iinc (ls' := [_, _, _, _, _]) (pc' := 52) dX12_unlikeOnes_1.2.2.2.1 rfl (by decide) rfl rfl rfl ?_
            refine zV_goto 17 dX12_unlikeOnes_1.2.2.2.2 rfl ?_
            exact k17 _ _ _ _ (by omega) (by omega) (by omega) (by omega) (by omega) (by omega) (by omega) (by first | omega | rfl | (show (1 : Int) = 1 - 0; rfl)) (by omega) (by omega)
          · refine zW_aload_n (pc' := 28) dX12_unlikeOnes_1.1.1.1.2 rfl rfl ?_
            refine zG_ref (pc' := 31) 29 fg_X12_96 tb0 rfl dX12_unlikeOnes_1.1.1.2.1 rfl ?_
            refine zW_iload (pc' := 33) dX12_unlikeOnes_1.1.1.2.2 rfl rfl ?_
            refine zV_iald (pc' := 34) tb29 (by omega) dX12_unlikeOnes_1.1.2.1.1 (by decide) rfl ?_
            have ha := hLi v4.toNat (by omega)
            have b33 : 0 ≤ h 29 v4.toNat ∧ h 29 v4.toNat ≤ 4095 := by rw [ha.1]; exact ha.2
            refine zW_aload_n (pc' := 35) dX12_unlikeOnes_1.1.2.1.2 rfl rfl ?_
            refine zG_ref (pc' := 38) 29 fg_X12_96 tb0 rfl dX12_unlikeOnes_1.1.2.2.1 rfl ?_
            refine zW_iload_n (pc' := 39) dX12_unlikeOnes_1.1.2.2.2 rfl rfl ?_
            refine zV_iald (pc' := 40) tb29 (by omega) dX12_unlikeOnes_1.2.1.1.1 (by decide) rfl ?_
            have ha2 := hLi v2.toNat (by omega)
            have b39 : 0 ≤ h 29 v2.toNat ∧ h 29 v2.toNat ≤ 4095 := by rw [ha2.1]; exact ha2.2
            refine zV_cm_eq (tgt := 47) (pc' := 43) dX12_unlikeOnes_1.2.1.1.2 rfl rfl ⟨by omega, by omega⟩ ⟨by omega, by omega⟩ (fun c40 => ?_) (fun c40 => ?_)
            · refine zW_iconst (pc' := 48) dX12_unlikeOnes_1.2.2.1.1 rfl ?_
              refine zW_istore_n (ls' := [_, _, _, _, _]) (pc' := 49) dX12_unlikeOnes_1.2.2.1.2 (by decide) rfl rfl rfl ?_
              refine zW_iinc (ls' := [_, _, _, _, _]) (pc' := 52) dX12_unlikeOnes_1.2.2.2.1 rfl (by decide) rfl rfl rfl ?_
              refine zV_goto 17 dX12_unlikeOnes_1.2.2.2.2 rfl ?_
              exact k17 _ _ _ _ (by omega) (by omega) (by omega) (by omega) (by omega) (by omega) (by omega) (by first | omega | rfl | (show (1 : Int) = 1 - 0; rfl)) (by omega) (by omega)
            · refine zW_iconst (pc' := 44) dX12_unlikeOnes_1.2.1.2.1 rfl ?_
              refine zV_goto 48 dX12_unlikeOnes_1.2.1.2.2 rfl ?_
              refine zW_istore_n (ls' := [_, _, _, _, _]) (pc' := 49) dX12_unlikeOnes_1.2.2.1.2 (by decide) rfl rfl rfl ?_
              refine zW_iinc (ls' := [_, _, _, _, _]) (pc' := 52) dX12_unlikeOnes_1.2.2.2.1 rfl (by decide) rfl rfl rfl ?_
              refine zV_goto 17 dX12_unlikeOnes_1.2.2.2.2 rfl ?_
              exact k17 _ _ _ _ (by omega) (by omega) (by omega) (by omega) (by omega) (by omega) (by omega) (by first | omega | rfl | (show (1 : Int) = 1 - 0; rfl)) (by omega) (by omega)
  refine zM_of [some (.inr (.inr 0)), none, none, none, none] 4 rfl rfl (Nat.le_of_ble_eq_true rfl) rfl ?_
  refine zW_iconst (pc' := 1) dX12_unlikeOnes_0.1.1.1.1 rfl ?_
  refine zW_istore_n (ls' := [_, _, _, _, _]) (pc' := 2) dX12_unlikeOnes_0.1.1.1.2 (by decide) rfl rfl rfl ?_
  refine zW_iconst (pc' := 3) dX12_unlikeOnes_0.1.1.2.1 rfl ?_
  refine zW_istore_n (ls' := [_, _, _, _, _]) (pc' := 4) dX12_unlikeOnes_0.1.1.2.2 (by decide) rfl rfl rfl ?_
  exact (main 10000000000000000000000000000000000000000).1 _ _ (by omega) (by omega) (by first | rfl | omega) (by omega) (by omega) (by omega)

abbrev q_X12_levelsZ (b : Bd) (κ : Hp) (x1 : Int) (x2 : Int) (x3 : Int) : Int → Hp → Prop := fun r h' => Fr b κ h' ∧ ((r = lvQ (κ 0 11) (κ 0 12) (κ 0 13) (κ 0 14) (ltV (κ 3) (κ 0 14)) (bhV (κ 3) (κ 0 14)) (pcV (κ 0 14) (PF κ)) (nmV (κ 0 14) (XN (κ 4) (κ 5))) x1 x2 x3))
set_option maxHeartbeats 4000000 in
set_option maxRecDepth 20000 in
theorem s_X12_levelsZ {G : Ga} {b : Bd} {κ h : Hp} (hK : KR κ) (hF : Fr b.fo κ h) (x1 : Int) (hx1 : rng x1) (x2 : Int) (hx2 : rng x2) (x3 : Int) (hx3 : rng x3) (hLw : LeavesW b) (hV : VOK (κ 1)) (hE : EaOK (κ 3) (κ 0 14)) : zM G mX12_levels yX12_levels [.inr (.inr 0), .inl x1, .inl x2, .inl x3] h (q_X12_levelsZ b.fo κ x1 x2 x3) := by
  have f_0_11 := KRw hK
  have f_0_12 := KRh hK
  have f_0_13 := KRp hK
  have f_0_14 := KRm hK
  unfold rng at hx1
  unfold rng at hx2
  unfold rng at hx3
  have main : ∀ N : Nat, (∀ (v4 v5 v6 v7 : Int) (h : Hp), Fr b.fo κ h → (0 ≤ x1 ∧ x1 ≤ 12) → (x1 - κ 0 14 ≤ 0) → (0 ≤ x2 ∧ x2 ≤ 2) → (0 ≤ x3 ∧ x3 ≤ 5) → (0 ≤ v4 ∧ v4 ≤ 4095) → (0 ≤ v5 ∧ v5 ≤ 4095) → (0 ≤ v6 ∧ v6 ≤ 1048320) → (0 ≤ v7 ∧ v7 ≤ 256) → (LiO (h 29) (laS (slF (κ 0 11) (κ 0 12) (κ 0 13) (bhI (κ 3) x1.toNat) (-1) x2) (PF κ x1.toNat x2) (κ 0 11).toNat (κ 0 12).toNat) (h 0 53)) → (h 0 53 = (sumS (slF (κ 0 11) (κ 0 12) (κ 0 13) (bhI (κ 3) x1.toNat) (-1) x2) (κ 0 11).toNat (κ 0 12).toNat)) → (0 ≤ x1 ∧ x1 ≤ κ 0 14 ∧ 0 ≤ x2 ∧ x2 ≤ 2 ∧ 0 ≤ x3 ∧ x3 ≤ 5) → (v4 = lsO (laS (slF (κ 0 11) (κ 0 12) (κ 0 13) (bhI (κ 3) x1.toNat) (-1) x2) (PF κ x1.toNat x2) (κ 0 11).toNat (κ 0 12).toNat) v7.toNat) → (v5 = gsO (laS (slF (κ 0 11) (κ 0 12) (κ 0 13) (bhI (κ 3) x1.toNat) (-1) x2) (PF κ x1.toNat x2) (κ 0 11).toNat (κ 0 12).toNat) v7.toNat) → (v6 = seqS (laS (slF (κ 0 11) (κ 0 12) (κ 0 13) (bhI (κ 3) x1.toNat) (-1) x2) (PF κ x1.toNat x2) (κ 0 11).toNat (κ 0 12).toNat) v7.toNat) → (v7 ≤ h 0 53) → (v6 ≤ 4095 * v7) → 1140876 + 67 * (256 - v7) + 66 < (N : Int) → zV G mX12_levels (q_X12_levelsZ b.fo κ x1 x2 x3) 86 [some (.inr (.inr 0)), some (.inl x1), some (.inl x2), some (.inl x3), some (.inl v4), some (.inl v5), some (.inl v6), some (.inl v7)] [] h) := by
    intro N
    induction N with
    | zero =>
      intro v4 v5 v6 v7 h hF g0 g1 g2 g3 g4 g5 g6 g7 gc0 gc1 gc2 gc3 gc4 gc5 gc6 gc7 hm
      exfalso; omega
    | succ N ih =>
      have k86 := ih
      intro v4 v5 v6 v7 h hF g0 g1 g2 g3 g4 g5 g6 g7 gc0 gc1 gc2 gc3 gc4 gc5 gc6 gc7 hm
      have e53_ := hF.2.2.1
      refine zW_iload (pc' := 88) dX12_levels_3.1.1.1.2 rfl rfl ?_
      refine zW_aload_n (pc' := 89) dX12_levels_3.1.1.2.1 rfl rfl ?_
      refine zG_int (pc' := 92) fg_X12_403 tb0 rfl dX12_levels_3.1.1.2.2 rfl ?_
      have e89 := hF.2.2.1
      refine zV_cm_ge (tgt := 141) (pc' := 95) dX12_levels_3.1.2.1.1 rfl rfl ⟨by omega, by omega⟩ ⟨by omega, by omega⟩ (fun c92 => ?_) (fun c92 => ?_)
      · refine zW_iload_n (pc' := 142) dX12_levels_4.2.2.1.1 rfl rfl ?_
        refine zW_tsw dX12_levels_4.2.2.1.2 (fun z => if z = 0 then 176 else if z = 1 then 179 else if z = 2 then 182 else if z = 3 then 185 else if z = 4 then 190 else 201) ⟨by omega, by omega⟩ (tsw_ok (pc := 142) (lo := 0) (offs := #[34, 37, 40, 43, 48]) (tg := fun z => if z = 0 then 176 else if z = 1 then 179 else if z = 2 then 182 else if z = 3 then 185 else if z = 4 then 190 else 201) (by decide +kernel)) rfl (td := 201) rfl (fun c142 => ?_) (fun c142 c142b => ?_)
        · refine zW_aload_n (pc' := 202) dX12_levels_5.2.2.1.1 rfl rfl ?_
          refine zW_iconst (pc' := 203) dX12_levels_5.2.2.1.2 rfl ?_
          refine zW_iconst (pc' := 204) dX12_levels_5.2.2.2.1 rfl ?_
          refine cvI2 (pc' := 207) kX12_within vX12_within lk_X12_412 ⟨Nat.le_of_ble_eq_true rfl, Nat.le_of_ble_eq_true rfl⟩ tb0 vq12 rfl rfl (s_X12_withinZ hF _ ⟨by omega, by omega⟩ _ ⟨by omega, by omega⟩ (laS (slF (κ 0 11) (κ 0 12) (κ 0 13) (bhI (κ 3) x1.toNat) (-1) x2) (PF κ x1.toNat x2) (κ 0 11).toNat (κ 0 12).toNat) gc0) dX12_levels_5.2.2.2.2 (Nat.le_of_ble_eq_true rfl) rfl ?_
          rintro r204 z204 ⟨hz204, p204⟩; subst z204
          exact zV_iret rfl dX12_levels_6 ⟨hF, (by unfold lvQ; rw [if_pos ⟨by omega, by omega, by omega, by omega, by omega⟩, bhV_in ⟨by omega, by omega⟩, pcV_in ⟨by omega, by omega⟩, ← gc1]; unfold lv4; rw [if_neg (by omega), if_neg (by omega), if_neg (by omega), if_neg (by omega), if_neg (by omega), if_pos (by omega)]; exact p204.2.2)⟩
        · split
          · refine zW_iload (pc' := 178) dX12_levels_4.2.2.2.1 rfl rfl ?_
            exact zV_iret rfl dX12_levels_4.2.2.2.2 ⟨hF, (by unfold lvQ; rw [if_pos ⟨by omega, by omega, by omega, by omega, by omega⟩, bhV_in ⟨by omega, by omega⟩, pcV_in ⟨by omega, by omega⟩, ← gc1]; unfold lv4; rw [if_pos (by omega)]; rw [show (h 0 53).toNat = v7.toNat by omega]; exact gc3)⟩
          · split
            · refine zW_iload (pc' := 181) dX12_levels_5.1.1.1.1 rfl rfl ?_
              exact zV_iret rfl dX12_levels_5.1.1.1.2 ⟨hF, (by unfold lvQ; rw [if_pos ⟨by omega, by omega, by omega, by omega, by omega⟩, bhV_in ⟨by omega, by omega⟩, pcV_in ⟨by omega, by omega⟩, ← gc1]; unfold lv4; rw [if_neg (by omega), if_pos (by omega)]; rw [show (h 0 53).toNat = v7.toNat by omega]; exact gc4)⟩
            · split
              · refine zW_iload (pc' := 184) dX12_levels_5.1.1.2.1 rfl rfl ?_
                exact zV_iret rfl dX12_levels_5.1.1.2.2 ⟨hF, (by unfold lvQ; rw [if_pos ⟨by omega, by omega, by omega, by omega, by omega⟩, bhV_in ⟨by omega, by omega⟩, pcV_in ⟨by omega, by omega⟩, ← gc1]; unfold lv4; rw [if_neg (by omega), if_neg (by omega), if_pos (by omega)]; rw [show (h 0 53).toNat = v7.toNat by omega]; exact gc5)⟩
              · split
                · refine zW_aload_n (pc' := 186) dX12_levels_5.1.2.1.1 rfl rfl ?_
                  refine cvI0 (pc' := 189) kX12_unlikeOnes vX12_unlikeOnes lk_X12_415 ⟨Nat.le_of_ble_eq_true rfl, Nat.le_of_ble_eq_true rfl⟩ tb0 vq12 rfl rfl (s_X12_unlikeOnesZ hF (laS (slF (κ 0 11) (κ 0 12) (κ 0 13) (bhI (κ 3) x1.toNat) (-1) x2) (PF κ x1.toNat x2) (κ 0 11).toNat (κ 0 12).toNat) gc0) dX12_levels_5.1.2.1.2 (Nat.le_of_ble_eq_true rfl) rfl ?_
                  rintro r186 z186 ⟨hz186, p186⟩; subst z186
                  exact zV_iret rfl dX12_levels_5.1.2.2.1 ⟨hF, (by unfold lvQ; rw [if_pos ⟨by omega, by omega, by omega, by omega, by omega⟩, bhV_in ⟨by omega, by omega⟩, pcV_in ⟨by omega, by omega⟩, ← gc1]; unfold lv4; rw [if_neg (by omega), if_neg (by omega), if_neg (by omega), if_pos (by omega)]; exact p186.2.2)⟩
                · split
                  · refine zW_aload_n (pc' := 191) dX12_levels_5.1.2.2.2 rfl rfl ?_
                    refine zW_sipush (pc' := 194) dX12_levels_5.2.1.1.1 rfl rfl ?_
                    refine zW_sipush (pc' := 197) dX12_levels_5.2.1.1.2 rfl rfl ?_
                    refine cvI2 (pc' := 200) kX12_within vX12_within lk_X12_412 ⟨Nat.le_of_ble_eq_true rfl, Nat.le_of_ble_eq_true rfl⟩ tb0 vq12 rfl rfl (s_X12_withinZ hF _ ⟨by omega, by omega⟩ _ ⟨by omega, by omega⟩ (laS (slF (κ 0 11) (κ 0 12) (κ 0 13) (bhI (κ 3) x1.toNat) (-1) x2) (PF κ x1.toNat x2) (κ 0 11).toNat (κ 0 12).toNat) gc0) dX12_levels_5.2.1.2.1 (Nat.le_of_ble_eq_true rfl) rfl ?_
                    rintro r197 z197 ⟨hz197, p197⟩; subst z197
                    exact zV_iret rfl dX12_levels_5.2.1.2.2 ⟨hF, (by unfold lvQ; rw [if_pos ⟨by omega, by omega, by omega, by omega, by omega⟩, bhV_in ⟨by omega, by omega⟩, pcV_in ⟨by omega, by omega⟩, ← gc1]; unfold lv4; rw [if_neg (by omega), if_neg (by omega), if_neg (by omega), if_neg (by omega), if_pos (by omega)]; exact p197.2.2)⟩
                  · refine zW_aload_n (pc' := 202) dX12_levels_5.2.2.1.1 rfl rfl ?_
                    refine zW_iconst (pc' := 203) dX12_levels_5.2.2.1.2 rfl ?_
                    refine zW_iconst (pc' := 204) dX12_levels_5.2.2.2.1 rfl ?_
                    refine cvI2 (pc' := 207) kX12_within vX12_within lk_X12_412 ⟨Nat.le_of_ble_eq_true rfl, Nat.le_of_ble_eq_true rfl⟩ tb0 vq12 rfl rfl (s_X12_withinZ hF _ ⟨by omega, by omega⟩ _ ⟨by omega, by omega⟩ (laS (slF (κ 0 11) (κ 0 12) (κ 0 13) (bhI (κ 3) x1.toNat) (-1) x2) (PF κ x1.toNat x2) (κ 0 11).toNat (κ 0 12).toNat) gc0) dX12_levels_5.2.2.2.2 (Nat.le_of_ble_eq_true rfl) rfl ?_
                    rintro r204 z204 ⟨hz204, p204⟩; subst z204
                    exact zV_iret rfl dX12_levels_6 ⟨hF, (by unfold lvQ; rw [if_pos ⟨by omega, by omega, by omega, by omega, by omega⟩, bhV_in ⟨by omega, by omega⟩, pcV_in ⟨by omega, by omega⟩, ← gc1]; unfold lv4; rw [if_neg (by omega), if_neg (by omega), if_neg (by omega), if_neg (by omega), if_neg (by omega), if_pos (by omega)]; exact p204.2.2)⟩
      · refine zW_iload (pc' := 97) dX12_levels_3.1.2.1.2 rfl rfl ?_
        refine zW_aload_n (pc' := 98) dX12_levels_3.1.2.2.1 rfl rfl ?_
        refine zG_ref (pc' := 101) 29 fg_X12_96 tb0 rfl dX12_levels_3.1.2.2.2 rfl ?_
        refine zW_iload (pc' := 103) dX12_levels_3.2.1.1.1 rfl rfl ?_
        refine zV_iald (pc' := 104) tb29 (by omega) dX12_levels_3.2.1.1.2 (by decide) rfl ?_
        have ha := gc0 v7.toNat (by omega)
        have b103 : 0 ≤ h 29 v7.toNat ∧ h 29 v7.toNat ≤ 4095 := by rw [ha.1]; exact ha.2
        have sn := lsO_s (M := (laS (slF (κ 0 11) (κ 0 12) (κ 0 13) (bhI (κ 3) x1.toNat) (-1) x2) (PF κ x1.toNat x2) (κ 0 11).toNat (κ 0 12).toNat)) (i := v7) (by omega)
        have sx := gsO_s (M := (laS (slF (κ 0 11) (κ 0 12) (κ 0 13) (bhI (κ 3) x1.toNat) (-1) x2) (PF κ x1.toNat x2) (κ 0 11).toNat (κ 0 12).toNat)) (i := v7) (by omega)
        have ss := seqS_s (M := (laS (slF (κ 0 11) (κ 0 12) (κ 0 13) (bhI (κ 3) x1.toNat) (-1) x2) (PF κ x1.toNat x2) (κ 0 11).toNat (κ 0 12).toNat)) (i := v7) (by omega)
        rw [← ha.1] at sn sx ss
        refine csI2 (pc' := 107) kX12_min vX12_min lk_X12_109 ⟨Nat.le_of_ble_eq_true rfl, Nat.le_of_ble_eq_true rfl⟩ rfl (s_X12_minR hF _ ⟨by omega, by omega⟩ _ ⟨by omega, by omega⟩) dX12_levels_3.2.1.2.1 (Nat.le_of_ble_eq_true rfl) rfl ?_
        rintro r104 z104 ⟨hz104, p104⟩; subst z104
        refine zW_istore (ls' := [_, _, _, _, _, _, _, _]) (pc' := 109) dX12_levels_3.2.1.2.2 (by decide) rfl rfl rfl ?_
        refine zW_iload (pc' := 111) dX12_levels_3.2.2.1.1 rfl rfl ?_
        refine zW_aload_n (pc' := 112) dX12_levels_3.2.2.1.2 rfl rfl ?_
        refine zG_ref (pc' := 115) 29 fg_X12_96 tb0 rfl dX12_levels_3.2.2.2.1 rfl ?_
        refine zW_iload (pc' := 117) dX12_levels_3.2.2.2.2 rfl rfl ?_
        refine zV_iald (pc' := 118) tb29 (by omega) dX12_levels_4.1.1.1.1 (by decide) rfl ?_
        have b117 := b103
        refine csI2 (pc' := 121) kX12_max vX12_max lk_X12_113 ⟨Nat.le_of_ble_eq_true rfl, Nat.le_of_ble_eq_true rfl⟩ rfl (s_X12_maxR hF _ ⟨by omega, by omega⟩ _ ⟨by omega, by omega⟩) dX12_levels_4.1.1.1.2 (Nat.le_of_ble_eq_true rfl) rfl ?_
        rintro r118 z118 ⟨hz118, p118⟩; subst z118
        refine zW_istore (ls' := [_, _, _, _, _, _, _, _]) (pc' := 123) dX12_levels_4.1.1.2.1 (by decide) rfl rfl rfl ?_
        refine zW_iload (pc' := 125) dX12_levels_4.1.1.2.2 rfl rfl ?_
        refine zW_aload_n (pc' := 126) dX12_levels_4.1.2.1.1 rfl rfl ?_
        refine zG_ref (pc' := 129) 29 fg_X12_96 tb0 rfl dX12_levels_4.1.2.1.2 rfl ?_
        refine zW_iload (pc' := 131) dX12_levels_4.1.2.2.1 rfl rfl ?_
        refine zV_iald (pc' := 132) tb29 (by omega) dX12_levels_4.1.2.2.2 (by decide) rfl ?_
        have b131 := b103
        refine zW_iadd (pc' := 133) dX12_levels_4.2.1.1.1 rfl ?_
        refine zW_istore (ls' := [_, _, _, _, _, _, _, _]) (pc' := 135) dX12_levels_4.2.1.1.2 (by decide) rfl rfl rfl ?_
        refine zW_iinc (ls' := [_, _, _, _, _, _, _, _]) (pc' := 138) dX12_levels_4.2.1.2.1 rfl (by decide) rfl rfl rfl ?_
        refine zV_goto 86 dX12_levels_4.2.1.2.2 rfl ?_
        exact k86 _ _ _ _ _ hF (by omega) (by omega) (by omega) (by omega) (by omega) (by omega) (by omega) (by omega) (by first | exact gc0 | exact k2) (by first | exact gc1 | exact k1) (by omega) (by first | rfl | omega) (by first | rfl | omega) (by first | rfl | omega) (by omega) (by omega) (by omega)
  refine zM_of [some (.inr (.inr 0)), some (.inl x1), some (.inl x2), some (.inl x3), none, none, none, none] 4 rfl rfl (Nat.le_of_ble_eq_true rfl) rfl ?_
  refine zW_aload_n (pc' := 1) dX12_levels_0.1.1.1.1 rfl rfl ?_
  refine zW_iload_n (pc' := 2) dX12_levels_0.1.1.1.2 rfl rfl ?_
  refine zW_iload_n (pc' := 3) dX12_levels_0.1.1.2.1 rfl rfl ?_
  refine cvI2 (pc' := 6) kX12_isLeftOf vX12_isLeftOf lk_X12_406 ⟨Nat.le_of_ble_eq_true rfl, Nat.le_of_ble_eq_true rfl⟩ tb0 vq12 rfl rfl (s_X12_isLeftOfZ hK hF _ ⟨by omega, by omega⟩ _ ⟨by omega, by omega⟩) dX12_levels_0.1.1.2.2 (Nat.le_of_ble_eq_true rfl) rfl ?_
  rintro r3 z3 ⟨hz3, p3⟩; subst z3
  refine zV_if_eq (tgt := 29) (pc' := 9) dX12_levels_0.1.2.1.1 rfl rfl ⟨by omega, by omega⟩ (fun c6 => ?_) (fun c6 => ?_)
  · refine zW_iconst (pc' := 30) dX12_levels_0.2.2.2.2 rfl ?_
    exact zV_iret rfl dX12_levels_1.1.1.1.1 ⟨hF, (by unfold lvQ; rw [if_neg (by omega)])⟩
  · refine zW_iload_n (pc' := 10) dX12_levels_0.1.2.1.2 rfl rfl ?_
    refine zW_iconst (pc' := 11) dX12_levels_0.1.2.2.1 rfl ?_
    refine zW_iconst (pc' := 12) dX12_levels_0.1.2.2.2 rfl ?_
    refine csI3 (pc' := 15) kX12_in vX12_in lk_X12_140 ⟨Nat.le_of_ble_eq_true rfl, Nat.le_of_ble_eq_true rfl⟩ rfl (s_X12_inR hF _ ⟨by omega, by omega⟩ _ ⟨by omega, by omega⟩ _ ⟨by omega, by omega⟩) dX12_levels_0.2.1.1.1 (Nat.le_of_ble_eq_true rfl) rfl ?_
    rintro r12 z12 ⟨hz12, p12⟩; subst z12
    refine zV_if_ne (tgt := 31) (pc' := 18) dX12_levels_0.2.1.1.2 rfl rfl ⟨by omega, by omega⟩ (fun c15 => ?_) (fun c15 => ?_)
    · refine zW_aload_n (pc' := 32) dX12_levels_1.1.1.1.2 rfl rfl ?_
      refine cvV0 (pc' := 35) kX12_leaves vX12_leaves lk_X12_377 ⟨Nat.le_of_ble_eq_true rfl, Nat.le_of_ble_eq_true rfl⟩ tb0 vq12 rfl rfl (hLw hK hF) dX12_levels_1.1.1.2.1 (Nat.le_of_ble_eq_true rfl) rfl ?_
      rintro r32 h ⟨hF, p32⟩
      have hrow := p32.2 x1.toNat (by omega)
      rw [show ((x1.toNat : Nat) : Int) = x1 by omega] at hrow
      have hat : ∀ x y : Int, inP (κ 0 11) (κ 0 12) x y → (bhI (κ 3) x1.toNat = 1 ∨ cl (κ 0 13) x y = x2) → h 17 (768 * x1 + 256 * x2 + 16 * y + x).toNat = PF κ x1.toNat x2 x y ∧ 0 ≤ PF κ x1.toNat x2 x y ∧ PF κ x1.toNat x2 x y ≤ 4095 := fun x y hp hq => PkR_at hrow rfl (PF_b hK hV _) (fun q => PF_c hE (by omega) q) x2 x y ⟨by omega, by omega⟩ hp hq
      refine zW_aload_n (pc' := 36) dX12_levels_1.1.1.2.2 rfl rfl ?_
      refine zW_iload_n (pc' := 37) dX12_levels_1.1.2.1.1 rfl rfl ?_
      refine zW_iload_n (pc' := 38) dX12_levels_1.1.2.1.2 rfl rfl ?_
      refine cvV2 (pc' := 41) kX12_lists vX12_lists lk_X12_409 ⟨Nat.le_of_ble_eq_true rfl, Nat.le_of_ble_eq_true rfl⟩ tb0 vq12 rfl rfl (s_X12_listsZ hK hF _ ⟨by omega, by omega, by omega⟩ _ ⟨by omega, by omega⟩ (PF κ x1.toNat) (bhI (κ 3) x1.toNat) h hat rfl Fw.rf) dX12_levels_1.1.2.2.1 (Nat.le_of_ble_eq_true rfl) rfl ?_
      rintro r38 h ⟨hF, d38, p38⟩
      have k1 := p38.1; have k2 := p38.2
      have e53_ := hF.2.2.1
      refine zW_iload_n (pc' := 42) dX12_levels_1.1.2.2.2 rfl rfl ?_
      refine zW_bipush (pc' := 44) dX12_levels_1.2.1.1.1 rfl rfl ?_
      refine zV_cm_lt (tgt := 72) (pc' := 47) dX12_levels_1.2.1.1.2 rfl rfl ⟨by omega, by omega⟩ ⟨by omega, by omega⟩ (fun c44 => ?_) (fun c44 => ?_)
      · refine zW_sipush (pc' := 75) dX12_levels_2.2.1.1.2 rfl rfl ?_
        refine zW_istore (ls' := [_, _, _, _, _, _, _, _]) (pc' := 77) dX12_levels_2.2.1.2.1 (by decide) rfl rfl rfl ?_
        refine zW_iconst (pc' := 78) dX12_levels_2.2.1.2.2 rfl ?_
        refine zW_istore (ls' := [_, _, _, _, _, _, _, _]) (pc' := 80) dX12_levels_2.2.2.1.1 (by decide) rfl rfl rfl ?_
        refine zW_iconst (pc' := 81) dX12_levels_2.2.2.1.2 rfl ?_
        refine zW_istore (ls' := [_, _, _, _, _, _, _, _]) (pc' := 83) dX12_levels_2.2.2.2.1 (by decide) rfl rfl rfl ?_
        refine zW_iconst (pc' := 84) dX12_levels_2.2.2.2.2 rfl ?_
        refine zW_istore (ls' := [_, _, _, _, _, _, _, _]) (pc' := 86) dX12_levels_3.1.1.1.1 (by decide) rfl rfl rfl ?_
        exact (main 10000000000000000000000000000000000000000) _ _ _ _ _ hF (by omega) (by omega) (by omega) (by omega) (by omega) (by omega) (by omega) (by omega) (by first | exact gc0 | exact k2) (by first | exact gc1 | exact k1) (by omega) (by first | rfl | omega) (by first | rfl | omega) (by first | rfl | omega) (by omega) (by omega) (by omega)
      · exfalso; omega
    · refine zW_iload_n (pc' := 19) dX12_levels_0.2.1.2.1 rfl rfl ?_
      refine zW_bipush (pc' := 21) dX12_levels_0.2.1.2.2 rfl rfl ?_
      refine zW_bipush (pc' := 23) dX12_levels_0.2.2.1.1 rfl rfl ?_
      refine csI3 (pc' := 26) kX12_in vX12_in lk_X12_140 ⟨Nat.le_of_ble_eq_true rfl, Nat.le_of_ble_eq_true rfl⟩ rfl (s_X12_inR hF _ ⟨by omega, by omega⟩ _ ⟨by omega, by omega⟩ _ ⟨by omega, by omega⟩) dX12_levels_0.2.2.1.2 (Nat.le_of_ble_eq_true rfl) rfl ?_
      rintro r23 z23 ⟨hz23, p23⟩; subst z23
      refine zV_if_ne (tgt := 31) (pc' := 29) dX12_levels_0.2.2.2.1 rfl rfl ⟨by omega, by omega⟩ (fun c26 => ?_) (fun c26 => ?_)
      · refine zW_aload_n (pc' := 32) dX12_levels_1.1.1.1.2 rfl rfl ?_
        refine cvV0 (pc' := 35) kX12_leaves vX12_leaves lk_X12_377 ⟨Nat.le_of_ble_eq_true rfl, Nat.le_of_ble_eq_true rfl⟩ tb0 vq12 rfl rfl (hLw hK hF) dX12_levels_1.1.1.2.1 (Nat.le_of_ble_eq_true rfl) rfl ?_
        rintro r32 h ⟨hF, p32⟩
        have hrow := p32.2 x1.toNat (by omega)
        rw [show ((x1.toNat : Nat) : Int) = x1 by omega] at hrow
        have hat : ∀ x y : Int, inP (κ 0 11) (κ 0 12) x y → (bhI (κ 3) x1.toNat = 1 ∨ cl (κ 0 13) x y = x2) → h 17 (768 * x1 + 256 * x2 + 16 * y + x).toNat = PF κ x1.toNat x2 x y ∧ 0 ≤ PF κ x1.toNat x2 x y ∧ PF κ x1.toNat x2 x y ≤ 4095 := fun x y hp hq => PkR_at hrow rfl (PF_b hK hV _) (fun q => PF_c hE (by omega) q) x2 x y ⟨by omega, by omega⟩ hp hq
        refine zW_aload_n (pc' := 36) dX12_levels_1.1.1.2.2 rfl rfl ?_
        refine zW_iload_n (pc' := 37) dX12_levels_1.1.2.1.1 rfl rfl ?_
        refine zW_iload_n (pc' := 38) dX12_levels_1.1.2.1.2 rfl rfl ?_
        refine cvV2 (pc' := 41) kX12_lists vX12_lists lk_X12_409 ⟨Nat.le_of_ble_eq_true rfl, Nat.le_of_ble_eq_true rfl⟩ tb0 vq12 rfl rfl (s_X12_listsZ hK hF _ ⟨by omega, by omega, by omega⟩ _ ⟨by omega, by omega⟩ (PF κ x1.toNat) (bhI (κ 3) x1.toNat) h hat rfl Fw.rf) dX12_levels_1.1.2.2.1 (Nat.le_of_ble_eq_true rfl) rfl ?_
        rintro r38 h ⟨hF, d38, p38⟩
        have k1 := p38.1; have k2 := p38.2
        have e53_ := hF.2.2.1
        refine zW_iload_n (pc' := 42) dX12_levels_1.1.2.2.2 rfl rfl ?_
        refine zW_bipush (pc' := 44) dX12_levels_1.2.1.1.1 rfl rfl ?_
        refine zV_cm_lt (tgt := 72) (pc' := 47) dX12_levels_1.2.1.1.2 rfl rfl ⟨by omega, by omega⟩ ⟨by omega, by omega⟩ (fun c44 => ?_) (fun c44 => ?_)
        · exfalso; omega
        · refine zW_aload_n (pc' := 48) dX12_levels_1.2.1.2.1 rfl rfl ?_
          refine zW_sipush (pc' := 51) dX12_levels_1.2.1.2.2 rfl rfl ?_
          refine zW_iload_n (pc' := 52) dX12_levels_1.2.2.1.1 rfl rfl ?_
          refine zW_bipush (pc' := 54) dX12_levels_1.2.2.1.2 rfl rfl ?_
          refine zW_isub (pc' := 55) dX12_levels_1.2.2.2.1 rfl ?_
          refine zW_imul (pc' := 56) dX12_levels_1.2.2.2.2 rfl ?_
          refine zW_sipush (pc' := 59) dX12_levels_2.1.1.1.1 rfl rfl ?_
          refine zW_iload_n (pc' := 60) dX12_levels_2.1.1.1.2 rfl rfl ?_
          refine zW_bipush (pc' := 62) dX12_levels_2.1.1.2.1 rfl rfl ?_
          refine zW_isub (pc' := 63) dX12_levels_2.1.1.2.2 rfl ?_
          refine zW_imul (pc' := 64) dX12_levels_2.1.2.1.1 rfl ?_
          refine zW_sipush (pc' := 67) dX12_levels_2.1.2.1.2 rfl rfl ?_
          refine zW_iadd (pc' := 68) dX12_levels_2.1.2.2.1 rfl ?_
          refine cvI2 (pc' := 71) kX12_within vX12_within lk_X12_412 ⟨Nat.le_of_ble_eq_true rfl, Nat.le_of_ble_eq_true rfl⟩ tb0 vq12 rfl rfl (s_X12_withinZ hF _ ⟨by omega, by omega⟩ _ ⟨by omega, by omega⟩ (laS (slF (κ 0 11) (κ 0 12) (κ 0 13) (bhI (κ 3) x1.toNat) (-1) x2) (PF κ x1.toNat x2) (κ 0 11).toNat (κ 0 12).toNat) k2) dX12_levels_2.1.2.2.2 (Nat.le_of_ble_eq_true rfl) rfl ?_
          rintro r68 z68 ⟨hz68, p68⟩; subst z68
          exact zV_iret rfl dX12_levels_2.2.1.1.1 ⟨hF, (by unfold lvQ; rw [if_pos ⟨by omega, by omega, by omega, by omega, by omega⟩, bhV_in ⟨by omega, by omega⟩, pcV_in ⟨by omega, by omega⟩, ← k1]; unfold lv4; rw [if_neg (by omega), if_neg (by omega), if_neg (by omega), if_neg (by omega), if_neg (by omega), if_neg (by omega)]; exact p68.2.2)⟩
      · refine zW_iconst (pc' := 30) dX12_levels_0.2.2.2.2 rfl ?_
        exact zV_iret rfl dX12_levels_1.1.1.1.1 ⟨hF, (by unfold lvQ; rw [if_neg (by omega)])⟩
