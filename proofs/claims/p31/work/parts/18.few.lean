theorem inv_sh {M : St} (h : Inv M) {t : Nat} (ht : t ≤ 4) : Inv (s0 M 8 t) := by
  obtain ⟨⟨h0, h1, h2, h3, h4, h5, h6, h7, h8, h9⟩, h10⟩ := h
  exact ⟨⟨h0, h1, h2, h3, h4, h5, h6, h7, ht, h9⟩, h10⟩
theorem bet_le {f : Nat → Nat} {b c : Nat} (h1 : b ≤ 4) (h2 : c ≤ 4) : bet f b c ≤ 4 := by unfold bet; split <;> omega
theorem RelX_0 {cI cM : ClassId} {ad : Nat → Nat} {M : St} {E : Nat → va_E} (h : RelX cI cM ad M E) : E 0 = dispE ad M (M 0 4) := by
  obtain ⟨pm, hY, -, -⟩ := h
  exact hY.1
