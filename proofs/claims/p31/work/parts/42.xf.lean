/-! the cells outside the world: zX filled, and kept -/
def mkG (l : Launch) (D : va_G) (ca : Nat → ClassId) (ad : Nat → Nat) : Ga := (l, D, ca, ad, fun U => XF (l, D, ca, ad, fun _ => True) U)
theorem mkG_XI (l : Launch) (D : va_G) (ca : Nat → ClassId) (ad : Nat → Nat) : XI (mkG l D ca ad) := fun _ h => h
theorem Xrow_mv {G : Ga} {nm : String} {k : Nat} {u U : State} (hv : u.vm.Alike U.vm) (hq : ∀ q : Nat, q < u.heap.size → ¬ zA G q → U.heap[q]? = u.heap[q]?) (h : Xrow G nm k u) : Xrow G nm k U := by
  obtain ⟨h1, f, e, h2⟩ := h
  exact ⟨va_Z.moved hv (h1.kept hq), f, e, va_T.moved hv (h2.kept hq)⟩
theorem XF_mv {G : Ga} {u U : State} (hw : u.WarmedH U.vm ∨ U.vm = u.vm) (hq : ∀ q : Nat, q < u.heap.size → ¬ zA G q → U.heap[q]? = u.heap[q]?) (h : XF G u) : XF G U := by
  have hv : u.vm.Alike U.vm := by
    rcases hw with hw | hw
    · exact hw.alike
    · rw [hw]; exact Vm.Alike.refl u.vm
  obtain ⟨⟨r1, r2, r3, r4⟩, ⟨byt, eb, s1⟩, k1, k2, z⟩ := h
  refine ⟨⟨Xrow_mv hv hq r1, Xrow_mv hv hq r2, Xrow_mv hv hq r3, Xrow_mv hv hq r4⟩, ⟨byt, eb, vk_S.moved hv (s1.kept hq)⟩, ?_, ?_, va_Z.moved hv (z.kept hq)⟩
  · rcases hw with hw | hw
    · exact k1.warm hw
    · exact k1.same hw
  · rcases hw with hw | hw
    · exact k2.warm hw
    · exact k2.same hw
theorem mkG_zXS (l : Launch) (D : va_G) (ca : Nat → ClassId) (ad : Nat → Nat) : zXS (mkG l D ca ad) := fun _ _ h hw _ hq => XF_mv (G := (l, D, ca, ad, fun _ => True)) hw hq h
