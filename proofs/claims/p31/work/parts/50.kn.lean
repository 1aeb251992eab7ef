/-! the law, from its entry -/
theorem arr_of {args : Array Value} {s : State} {ty : FieldType} (h : (Cond.arrayClass ty).before args s = true) : ∃ cA : ClassId, ArrOfT s cA ty ∧ s.vm.findClass ("[" ++ ty.toString) = some cA := by
  obtain ⟨comp, k, cc, h1, h2, h3⟩ := Cond.arrayClass_spec h
  exact ⟨comp, fun n z => ⟨fun k h => (by cases h), k, h2, cc, h3⟩, h1⟩
theorem know {args : Array Value} {s : State} (hts : ∀ w ∈ gT, w.before args s = true) (ho : (Cond.arrayOver (.object "RawPictures$Sheet")).before args s = true) (hi : (Cond.arrayOver (.array .int)).before args s = true) : ∃ (D : va_G) (ca : Nat → ClassId), nK D ca s := by
  have hk : ∀ k : Nat, ∃ ci : ClassId × (Nat → Nat), ∀ q : vw_C, vwCl[k]? = some q → u_Kn s q.1 q.2.1 q.2.2 ci.1 ci.2 := by
    intro k
    match k with
    | 0 =>
      obtain ⟨c, f, h⟩ := u_known (C := RX0) (T := TX0) (N := 8) (n := 8) hts gw_X0 (hts _ in_X0)
      exact ⟨(c, f), fun q hq => by cases hq; exact h⟩
    | 1 =>
      obtain ⟨c, f, h⟩ := u_known (C := RX1) (T := TX1) (N := 8) (n := 8) hts gw_X1 (hts _ in_X1)
      exact ⟨(c, f), fun q hq => by cases hq; exact h⟩
    | 2 =>
      obtain ⟨c, f, h⟩ := u_known (C := RX2) (T := TX2) (N := 1) (n := 1) hts gw_X2 (hts _ in_X2)
      exact ⟨(c, f), fun q hq => by cases hq; exact h⟩
    | 3 =>
      obtain ⟨c, f, h⟩ := u_known (C := RX3) (T := TX3) (N := 7) (n := 7) hts gw_X3 (hts _ in_X3)
      exact ⟨(c, f), fun q hq => by cases hq; exact h⟩
    | 4 =>
      obtain ⟨c, f, h⟩ := u_known (C := RX4) (T := TX4) (N := 12) (n := 12) hts gw_X4 (hts _ in_X4)
      exact ⟨(c, f), fun q hq => by cases hq; exact h⟩
    | 5 =>
      obtain ⟨c, f, h⟩ := u_known (C := RX5) (T := TX5) (N := 5) (n := 5) hts gw_X5 (hts _ in_X5)
      exact ⟨(c, f), fun q hq => by cases hq; exact h⟩
    | 6 =>
      obtain ⟨c, f, h⟩ := u_known (C := RX6) (T := TX6) (N := 5) (n := 5) hts gw_X6 (hts _ in_X6)
      exact ⟨(c, f), fun q hq => by cases hq; exact h⟩
    | 7 =>
      obtain ⟨c, f, h⟩ := u_known (C := RX7) (T := TX7) (N := 5) (n := 5) hts gw_X7 (hts _ in_X7)
      exact ⟨(c, f), fun q hq => by cases hq; exact h⟩
    | 8 =>
      obtain ⟨c, f, h⟩ := u_known (C := RX8) (T := TX8) (N := 2) (n := 2) hts gw_X8 (hts _ in_X8)
      exact ⟨(c, f), fun q hq => by cases hq; exact h⟩
    | 9 =>
      obtain ⟨c, f, h⟩ := u_known (C := RX9) (T := TX9) (N := 2) (n := 2) hts gw_X9 (hts _ in_X9)
      exact ⟨(c, f), fun q hq => by cases hq; exact h⟩
    | 10 =>
      obtain ⟨c, f, h⟩ := u_known (C := RX10) (T := TX10) (N := 2) (n := 2) hts gw_X10 (hts _ in_X10)
      exact ⟨(c, f), fun q hq => by cases hq; exact h⟩
    | 11 =>
      obtain ⟨c, f, h⟩ := u_known (C := RX11) (T := TX11) (N := 13) (n := 13) hts gw_X11 (hts _ in_X11)
      exact ⟨(c, f), fun q hq => by cases hq; exact h⟩
    | 12 =>
      obtain ⟨c, f, h⟩ := u_known (C := RX12) (T := TX12) (N := 54) (n := 54) hts gw_X12 (hts _ in_X12)
      exact ⟨(c, f), fun q hq => by cases hq; exact h⟩
    | k + 13 => exact ⟨(0, fun _ => 0), fun q hq => by simp at hq⟩
  obtain ⟨c0, a0, f0⟩ := arr_of (hts _ ar_int)
  obtain ⟨c1, a1, f1⟩ := arr_of (hts _ ar_boolean)
  obtain ⟨c2, a2, f2⟩ := arr_of (hts _ ar_byte)
  obtain ⟨c3, a3, f3⟩ := arr_of (hts _ ar_long)
  obtain ⟨p4, c4, k4, h41, h42, h43, h44, h45⟩ := Cond.arrayOver_spec ho
  obtain ⟨p5, c5, k5, h51, h52, h53, h54, h55⟩ := arrayOverA_spec hi
  have e5 : p5 = c0 := Option.some.inj (h51.symm.trans f0)
  subst e5
  refine ⟨(fun k => (hk k).choose.1, fun k => (hk k).choose.2), fun k => ([p5, c1, c2, c3, c4, c5] : List ClassId).getD k p5, ⟨fun k q hq => (hk k).choose_spec q hq, fun k q hq => ?_⟩, va_AO.of ho, k5, h53, h54⟩
  match k, hq with
  | 0, hq => cases hq; exact ⟨a0, f0⟩
  | 1, hq => cases hq; exact ⟨a1, f1⟩
  | 2, hq => cases hq; exact ⟨a2, f2⟩
  | 3, hq => cases hq; exact ⟨a3, f3⟩
  | 4, hq => cases hq; exact ⟨fun n z => ⟨fun k h => (by cases h), k4, h43, p4, h44⟩, k4, p4, h43, h44, h41, h45⟩
  | 5, hq => cases hq; exact ⟨fun n z => ⟨fun k h => (by cases h), k5, h53, p5, h54⟩, h55⟩
  | k + 6, hq => simp [nty] at hq
