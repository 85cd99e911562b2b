set_option maxRecDepth 20000 in
theorem nwL_in : ∀ w ∈ nwL, w ∈ lw_tbl := mem_r nwL [98, 113, 81, 85, 83, 55, 78, 80, 96, 82, 77, 54, 79, 84, 48, 106, 392, 391, 75, 70, 172, 181] (by decide +kernel)
theorem and31 (x : Int32) : ∃ k : Nat, k < 32 ∧ x &&& nI 31 = nI k := by
  have hx : x = nI x.toBitVec.toNat := by
    apply Int32.toBitVec_inj.mp
    show x.toBitVec = BitVec.ofNat 32 x.toBitVec.toNat
    rw [BitVec.ofNat_toNat, BitVec.setWidth_eq]
  refine ⟨x.toBitVec.toNat &&& 31, Nat.lt_of_le_of_lt Nat.and_le_right (by decide), ?_⟩
  rw [hx, nx_and, ← hx]
theorem lg_1 {i L : Nat} (h : i + 4 ≤ L) (hL : L ≤ 2048) : ¬ (nI L - nI 4 < nI i) := by
  rw [pk_sub (by omega), nI_ltI (by omega) (by omega)]
  omega
theorem lg_2 {i L : Nat} (h : ¬ i + 4 ≤ L) (hi : i ≤ L + 3) (hL : L ≤ 2048) : nI L - nI 4 < nI i := by
  by_cases h4 : 4 ≤ L
  · rw [pk_sub h4, nI_ltI (by omega) (by omega)]
    omega
  · exact Int32.lt_of_lt_of_le (pk_sneg (by decide) (by omega)) (nI_pos' (by omega))
theorem tab28 {k : Nat} (h1 : 28 ≤ k) (h2 : k < 32) : (27 : Int) < (nI k).toInt := by
  rcases (show k = 28 ∨ k = 29 ∨ k = 30 ∨ k = 31 by omega) with rfl | rfl | rfl | rfl <;> decide
theorem arr_int {args : Array Value} {s : State} (h : (Cond.arrayClass .int).before args s = true) : ∃ cI : ClassId, ArrOfT s cI .int ∧ va_RA s cI .int := by
  obtain ⟨cA, kA, comp, h1, h2, h3⟩ := Cond.arrayClass_spec h
  exact ⟨cA, fun n z => ⟨(fun k h => by cases h), kA, h2, comp, h3⟩, h1⟩
theorem arr_obj {args : Array Value} {s : State} {Cn : String} (h : (Cond.arrayOver (.object Cn)).before args s = true) : ∃ cM : ClassId, ArrOfT s cM (.object Cn) ∧ va_RA s cM (.object Cn) := by
  obtain ⟨comp, cA, kA, h1, h2, h3, h4, h5⟩ := Cond.arrayOver_spec h
  exact ⟨cA, fun n z => ⟨(fun k h => by cases h), kA, h3, comp, h4⟩, kA, comp, h3, h4, h1, h5⟩
theorem shz_of {b : Addr} {s : State} (hts : ∀ w ∈ lw_tbl, w.before #[Value.ref b] s = true) (hgv : (Jvm.Cond.and given_1 narrow_1).before #[Value.ref b] s = true) : ∃ t : Nat, SHZ t (fun q : Nat => s.heap.size ≤ q) s s.heap := by
  have hs := flat_of_before _ hgv
  have harr : (Cond.arrayOf (.static "MarqueeDisplay" "SHIFTS_BEST_FIRST" "[I") .int).before #[Value.ref b] s = true := hs _ (by decide +kernel)
  have hlen : (Cond.eq (.length (.static "MarqueeDisplay" "SHIFTS_BEST_FIRST" "[I")) (.int 5)).before #[Value.ref b] s = true := hs _ (by decide +kernel)
  have h0 : (Cond.eq (.elem (.static "MarqueeDisplay" "SHIFTS_BEST_FIRST" "[I") (.int 0)) (.int 0)).before #[Value.ref b] s = true := hs _ (by decide +kernel)
  have h1 : (Cond.eq (.elem (.static "MarqueeDisplay" "SHIFTS_BEST_FIRST" "[I") (.int 1)) (.int (-1))).before #[Value.ref b] s = true := hs _ (by decide +kernel)
  have h2 : (Cond.eq (.elem (.static "MarqueeDisplay" "SHIFTS_BEST_FIRST" "[I") (.int 2)) (.int 1)).before #[Value.ref b] s = true := hs _ (by decide +kernel)
  have h3 : (Cond.eq (.elem (.static "MarqueeDisplay" "SHIFTS_BEST_FIRST" "[I") (.int 3)) (.int (-2))).before #[Value.ref b] s = true := hs _ (by decide +kernel)
  have h4 : (Cond.eq (.elem (.static "MarqueeDisplay" "SHIFTS_BEST_FIRST" "[I") (.int 4)) (.int 2)).before #[Value.ref b] s = true := hs _ (by decide +kernel)
  have hA : ∀ a : Nat, a < s.heap.size → ¬ (fun q : Nat => s.heap.size ≤ q) a := fun a h => Nat.not_le.mpr h
  obtain ⟨t, ht, hT⟩ := va_Tof (ty := .int) (N := 5) (f := fun j => .int (nI (shs j) - nI 2)) (A := fun q : Nat => s.heap.size ≤ q) (by decide) harr (va_eqt hlen) (fun j hj => by
    rcases (show j = 0 ∨ j = 1 ∨ j = 2 ∨ j = 3 ∨ j = 4 by omega) with rfl | rfl | rfl | rfl | rfl
    · exact va_eqt h0
    · exact va_eqt h1
    · exact va_eqt h2
    · exact va_eqt h3
    · exact va_eqt h4) hA
  exact ⟨t, va_Zref (hts (.laysStatic "MarqueeDisplay" "SHIFTS_BEST_FIRST" "[I") (List.mem_of_getElem? (i := 361) (by decide +kernel))) (hts (.initialized "MarqueeDisplay") (List.mem_of_getElem? (i := 16) (by decide +kernel))) ht hA, hT⟩
