def iw (v lo hi : Int32) : Int32 := if lo ≤ v ∧ v ≤ hi then 1 else 0
theorem iw_nar (v lo hi : Int32) : narrow .boolean (.int (iw v lo hi)) = .int (iw v lo hi) := by unfold iw; split <;> rfl
theorem iw_N {j a b : Nat} (hj : j < 2 ^ 31) (ha : a < 2 ^ 31) (hb : b < 2 ^ 31) : iw (nI j) (nI a) (nI b) = nI (if a ≤ j ∧ j ≤ b then 1 else 0) := by
  unfold iw
  by_cases h : a ≤ j ∧ j ≤ b
  · rw [if_pos h, if_pos ⟨(nI_leI ha hj).mpr h.1, (nI_leI hj hb).mpr h.2⟩]; rfl
  · rw [if_neg h, if_neg (fun q => h ⟨(nI_leI ha hj).mp q.1, (nI_leI hj hb).mp q.2⟩)]; rfl
theorem iw_y {v lo hi : Int32} (h : lo ≤ v ∧ v ≤ hi) : iw v lo hi = nI 1 := by unfold iw; rw [if_pos h]; rfl
theorem iw_n {v lo hi : Int32} (h : ¬ (lo ≤ v ∧ v ≤ hi)) : iw v lo hi = nI 0 := by unfold iw; rw [if_neg h]; rfl
theorem iw_yN {j a b : Nat} (h : a ≤ j ∧ j ≤ b) (hb : b < 2 ^ 31) : iw (nI j) (nI a) (nI b) = nI 1 := by
  rw [iw_N (by omega) (by omega) hb, if_pos h]
theorem iw_0 {v lo hi : Int32} (h : iw v lo hi = 0) : ¬ (lo ≤ v ∧ v ≤ hi) := fun q => by rw [iw_y q] at h; exact absurd h (by decide)
theorem iw_1 {v lo hi : Int32} (h : ¬ iw v lo hi = 0) : lo ≤ v ∧ v ≤ hi := by
  by_cases q : lo ≤ v ∧ v ≤ hi
  · exact q
  · exact absurd (iw_n q) h
/-- an int in a range of small naturals -/
theorem iw_in {v : Int32} {hi : Nat} (hh : hi < 2 ^ 31) : (∃ j : Nat, j ≤ hi ∧ v = nI j) ∨ ¬ (nI 0 ≤ v ∧ v ≤ nI hi) := by
  by_cases q : nI 0 ≤ v ∧ v ≤ nI hi
  · refine Or.inl (nI_of2 (M := nI hi) (nI_toInt hh) ?_ q.2)
    exact Int32.not_lt.mpr q.1
  · exact Or.inr q
set_option maxHeartbeats 4000000 in
set_option maxRecDepth 100000 in
theorem k_X5_isWithin (vl : Launch) (D : va_G) (cI cM : ClassId) (A : Nat → Prop) (ad : Nat → Nat) (E : Nat → va_E) (hX : XD A 32 ad) (v lo hi : Int32)  : MF vl yX5_isWithin wsX5_isWithin { frames := 0, cells := 0, slots := 0, locals := 0 } D cI cM A 32 ad E [.int (v), .int (lo), .int (hi)] (iw v lo hi) := by
  refine mf_of cX5_isWithin 3 (.boolean) RX5 (by decide) rfl rfl (Nat.le_of_ble_eq_true rfl) (iw_nar _ _ _) ?_
  intro vp ve vs vm va vb vt vc Q C hend
  refine z_lv [(0, .int (v)), (1, .int (lo)), (2, .int (hi))] ⟨rfl, rfl, rfl, rfl, rfl, rfl, trivial⟩ ?_
  refine z_iload_n C dX5_isWithin_0 rfl ?_
  refine z_iload_n C dX5_isWithin_1 rfl ?_
  refine z_icmp_gt C 14 dX5_isWithin_2 (by decide) (fun h2 => ?_) (fun h2 => ?_)
  · refine z_iconst C (nI (0)) dX5_isWithin_14 (by decide) ?_
    exact hend _ _ _ dX5_isWithin_15 ((iw_n (fun q => absurd q.1 (Int32.not_le.mpr h2))).symm)
  · refine z_iload_n C dX5_isWithin_5 rfl ?_
    refine z_iload_n C dX5_isWithin_6 rfl ?_
    refine z_icmp_gt C 14 dX5_isWithin_7 (by decide) (fun h7 => ?_) (fun h7 => ?_)
    · refine z_iconst C (nI (0)) dX5_isWithin_14 (by decide) ?_
      exact hend _ _ _ dX5_isWithin_15 ((iw_n (fun q => absurd q.2 (Int32.not_le.mpr h7))).symm)
    · refine z_iconst C (nI (1)) dX5_isWithin_10 (by decide) ?_
      refine z_goto C 15 dX5_isWithin_11 (by decide) ?_
      exact hend _ _ _ dX5_isWithin_15 ((iw_y ⟨Int32.not_lt.mp h2, Int32.not_lt.mp h7⟩).symm)

set_option maxHeartbeats 4000000 in
set_option maxRecDepth 100000 in
theorem k_X5_isCharacter (vl : Launch) (D : va_G) (cI cM : ClassId) (A : Nat → Prop) (ad : Nat → Nat) (E : Nat → va_E) (hX : XD A 32 ad) (v : Int32)  : MF vl yX5_isCharacter wsX5_isCharacter { frames := 1, cells := 0, slots := 0, locals := 22 } D cI cM A 32 ad E [.int (v)] (iw v (nI 0) (nI 26)) := by
  refine mf_of cX5_isCharacter 1 (.boolean) RX5 (by decide) rfl rfl (Nat.le_of_ble_eq_true rfl) (iw_nar _ _ _) ?_
  intro vp ve vs vm va vb vt vc Q C hend
  refine z_lv [(0, .int (v))] ⟨rfl, rfl, trivial⟩ ?_
  refine z_iload_n C dX5_isCharacter_0 rfl ?_
  refine z_iconst C (nI (0)) dX5_isCharacter_1 (by decide) ?_
  refine z_bipush C (nI (26)) dX5_isCharacter_2 (by decide) ?_
  refine z_callSF C (k_X5_isWithin vl D cI cM A ad E hX (v) (nI (0)) (nI (26))) (va_cwS 3 C.2.2.2.2.1 gX5_isCharacter_X5_isWithin rfl rfl rfl (by decide +kernel) ⟨Nat.le_of_ble_eq_true rfl, Nat.le_of_ble_eq_true rfl⟩) rfl rfl (Nat.le_of_ble_eq_true rfl) ⟨Nat.zero_le _, Nat.zero_le _⟩ dX5_isCharacter_4 ?_
  exact hend _ _ _ dX5_isCharacter_7 (rfl)

set_option maxHeartbeats 4000000 in
set_option maxRecDepth 100000 in
theorem k_X5_isColor (vl : Launch) (D : va_G) (cI cM : ClassId) (A : Nat → Prop) (ad : Nat → Nat) (E : Nat → va_E) (hX : XD A 32 ad) (v : Int32)  : MF vl yX5_isColor wsX5_isColor { frames := 1, cells := 0, slots := 0, locals := 22 } D cI cM A 32 ad E [.int (v)] (iw v (nI 1) (nI 3)) := by
  refine mf_of cX5_isColor 1 (.boolean) RX5 (by decide) rfl rfl (Nat.le_of_ble_eq_true rfl) (iw_nar _ _ _) ?_
  intro vp ve vs vm va vb vt vc Q C hend
  refine z_lv [(0, .int (v))] ⟨rfl, rfl, trivial⟩ ?_
  refine z_iload_n C dX5_isColor_0 rfl ?_
  refine z_iconst C (nI (1)) dX5_isColor_1 (by decide) ?_
  refine z_iconst C (nI (3)) dX5_isColor_2 (by decide) ?_
  refine z_callSF C (k_X5_isWithin vl D cI cM A ad E hX (v) (nI (1)) (nI (3))) (va_cwS 3 C.2.2.2.2.1 gX5_isColor_X5_isWithin rfl rfl rfl (by decide +kernel) ⟨Nat.le_of_ble_eq_true rfl, Nat.le_of_ble_eq_true rfl⟩) rfl rfl (Nat.le_of_ble_eq_true rfl) ⟨Nat.zero_le _, Nat.zero_le _⟩ dX5_isColor_3 ?_
  exact hend _ _ _ dX5_isColor_6 (rfl)

set_option maxHeartbeats 4000000 in
set_option maxRecDepth 100000 in
theorem k_X5_isShift (vl : Launch) (D : va_G) (cI cM : ClassId) (A : Nat → Prop) (ad : Nat → Nat) (E : Nat → va_E) (hX : XD A 32 ad) (v : Int32)  : MF vl yX5_isShift wsX5_isShift { frames := 1, cells := 0, slots := 0, locals := 22 } D cI cM A 32 ad E [.int (v)] (iw v (-2) (nI 2)) := by
  refine mf_of cX5_isShift 1 (.boolean) RX5 (by decide) rfl rfl (Nat.le_of_ble_eq_true rfl) (iw_nar _ _ _) ?_
  intro vp ve vs vm va vb vt vc Q C hend
  refine z_lv [(0, .int (v))] ⟨rfl, rfl, trivial⟩ ?_
  refine z_iload_n C dX5_isShift_0 rfl ?_
  refine z_bipush C (-2) dX5_isShift_1 (by decide) ?_
  refine z_iconst C (nI (2)) dX5_isShift_3 (by decide) ?_
  refine z_callSF C (k_X5_isWithin vl D cI cM A ad E hX (v) (-2) (nI (2))) (va_cwS 3 C.2.2.2.2.1 gX5_isShift_X5_isWithin rfl rfl rfl (by decide +kernel) ⟨Nat.le_of_ble_eq_true rfl, Nat.le_of_ble_eq_true rfl⟩) rfl rfl (Nat.le_of_ble_eq_true rfl) ⟨Nat.zero_le _, Nat.zero_le _⟩ dX5_isShift_4 ?_
  exact hend _ _ _ dX5_isShift_7 (rfl)

theorem iw_X0_widthOf_0 : ∀ w ∈ wsX00, w ∈ wsX0_widthOf := by decide +kernel
theorem ln_X0_widthOf_9 : Cond.fieldLink RX0 9 "MarqueeDisplay$Font" "widths" "[I" ∈ wsX0_widthOf := by decide +kernel
set_option maxHeartbeats 4000000 in
set_option maxRecDepth 100000 in
theorem k_X0_widthOf (vl : Launch) (D : va_G) (cI cM : ClassId) (A : Nat → Prop) (ad : Nat → Nat) (E : Nat → va_E) (hX : XD A 32 ad) {wd : Nat → Nat} {c : Nat} (e1 : E (1) = .inr (0, [.ref (ad 2), .ref (ad 3)])) (e2 : E (2) = aI cI 27 wd) (hc : c < 27) : MF vl yX0_widthOf wsX0_widthOf { frames := 0, cells := 0, slots := 0, locals := 0 } D cI cM A 32 ad E [.ref (ad 1), .int (nI (c))] (nI (wd c)) := by
  refine mf_of cX0_widthOf 2 (.int) RX0 (by decide) rfl rfl (Nat.le_of_ble_eq_true rfl) (rfl) ?_
  intro vp ve vs vm va vb vt vc Q C hend
  refine z_lv [(0, .ref (ad 1)), (1, .int (nI (c)))] ⟨rfl, rfl, rfl, rfl, trivial⟩ ?_
  refine z_iload_n C dX0_widthOf_0 rfl ?_
  refine z_if_ltN C 22 (by omega) dX0_widthOf_1 (by decide) ?_
  refine z_iload_n C dX0_widthOf_4 rfl ?_
  refine z_aload_n C dX0_widthOf_5 rfl ?_
  refine z_get C (1) (Cn := RX0) (T := TX0) (N := 2) (fi := 0) iw_X0_widthOf_0 rfl (by decide) ln_X0_widthOf_9 (by first | decide | omega) rfl e1 rfl dX0_widthOf_6 ?_
  refine z_alenG C (2) (by first | decide | omega) rfl e2 dX0_widthOf_9 ?_
  refine z_icmp_geN C 22 (by omega) (by omega) dX0_widthOf_10 (by decide) (fun h10 => (by exfalso; omega)) (fun h10 => ?_)
  refine z_aload_n C dX0_widthOf_13 rfl ?_
  refine z_get C (1) (Cn := RX0) (T := TX0) (N := 2) (fi := 0) iw_X0_widthOf_0 rfl (by decide) ln_X0_widthOf_9 (by first | decide | omega) rfl e1 rfl dX0_widthOf_14 ?_
  refine z_iload_n C dX0_widthOf_17 rfl ?_
  refine z_ialdG C (2) (by first | decide | omega) rfl e2 (by omega) (by decide) dX0_widthOf_18 ?_
  refine z_goto C 23 dX0_widthOf_19 (by decide) ?_
  exact hend _ _ _ dX0_widthOf_23 (rfl)

set_option maxHeartbeats 4000000 in
set_option maxRecDepth 100000 in
theorem k_X0_hasColumn (vl : Launch) (D : va_G) (cI cM : ClassId) (A : Nat → Prop) (ad : Nat → Nat) (E : Nat → va_E) (hX : XD A 32 ad) {wd : Nat → Nat} {c : Nat} (x : Int32) (e1 : E (1) = .inr (0, [.ref (ad 2), .ref (ad 3)])) (e2 : E (2) = aI cI 27 wd) (hc : c < 27) (hw : 1 ≤ wd c) : MF vl yX0_hasColumn wsX0_hasColumn { frames := 1, cells := 0, slots := 0, locals := 22 } D cI cM A 32 ad E [.ref (ad 1), .int (nI (c)), .int (x)] (iw x (nI 0) (nI (wd c - 1))) := by
  refine mf_of cX0_hasColumn 3 (.boolean) RX0 (by decide) rfl rfl (Nat.le_of_ble_eq_true rfl) (iw_nar _ _ _) ?_
  intro vp ve vs vm va vb vt vc Q C hend
  refine z_lv [(0, .ref (ad 1)), (1, .int (nI (c))), (2, .int (x))] ⟨rfl, rfl, rfl, rfl, rfl, rfl, trivial⟩ ?_
  refine z_iload_n C dX0_hasColumn_0 rfl ?_
  refine z_iconst C (nI (0)) dX0_hasColumn_1 (by decide) ?_
  refine z_aload_n C dX0_hasColumn_2 rfl ?_
  refine z_iload_n C dX0_hasColumn_3 rfl ?_
  refine z_callVF C (1) (Cn := RX0) (T := TX0) (N := 2) (k_X0_widthOf vl D cI cM A ad E hX e1 e2 hc) (cwV 1 C.2.2.2.2.1 gX0_hasColumn_X0_widthOf rfl rfl rfl (by decide +kernel) ⟨Nat.le_of_ble_eq_true rfl, Nat.le_of_ble_eq_true rfl⟩) rfl (by first | decide | omega) rfl e1 rfl rfl (Nat.le_of_ble_eq_true rfl) ⟨Nat.zero_le _, Nat.zero_le _⟩ dX0_hasColumn_4 ?_
  refine z_iconst C (nI (1)) dX0_hasColumn_7 (by decide) ?_
  refine z_isubN C (by omega) dX0_hasColumn_8 ?_
  refine z_callSNF C (host := "MarqueeDisplay") (k_X5_isWithin vl D cI cM A ad E hX (x) (nI (0)) (nI ((wd c) - 1))) ⟨va_cnB (host := "MarqueeDisplay") 3 C.2.2.2.2.1 gX0_hasColumn_X5_isWithin_n22 rfl rfl rfl (C.2.2.2.2.2.2.1 _ (by decide +kernel)) (C.2.2.2.2.1 _ (by decide +kernel)) (by decide +kernel) ⟨Nat.le_of_ble_eq_true rfl, Nat.le_of_ble_eq_true rfl⟩, C.2.2.2.2.1 _ (by decide +kernel), trivial⟩ rfl rfl (Nat.le_of_ble_eq_true rfl) ⟨Nat.zero_le _, Nat.zero_le _⟩ dX0_hasColumn_9 ?_
  exact hend _ _ _ dX0_hasColumn_12 (rfl)

theorem iw_X0_dotsOf_0 : ∀ w ∈ wsX00, w ∈ wsX0_dotsOf := by decide +kernel
theorem ln_X0_dotsOf_15 : Cond.fieldLink RX0 15 "MarqueeDisplay$Font" "dots" "[I" ∈ wsX0_dotsOf := by decide +kernel
set_option maxHeartbeats 4000000 in
set_option maxRecDepth 100000 in
theorem k_X0_dotsOf (vl : Launch) (D : va_G) (cI cM : ClassId) (A : Nat → Prop) (ad : Nat → Nat) (E : Nat → va_E) (hX : XD A 32 ad) {dt : Nat → Nat} {c j : Nat} (e1 : E (1) = .inr (0, [.ref (ad 2), .ref (ad 3)])) (e3 : E (3) = aI cI 162 dt) (hc : c < 27) (hj : j < 6) : MF vl yX0_dotsOf wsX0_dotsOf { frames := 0, cells := 0, slots := 0, locals := 0 } D cI cM A 32 ad E [.ref (ad 1), .int (nI (c)), .int (nI (j))] (nI (dt (c * 6 + j))) := by
  refine mf_of cX0_dotsOf 3 (.int) RX0 (by decide) rfl rfl (Nat.le_of_ble_eq_true rfl) (rfl) ?_
  intro vp ve vs vm va vb vt vc Q C hend
  refine z_lv [(0, .ref (ad 1)), (1, .int (nI (c))), (2, .int (nI (j)))] ⟨rfl, rfl, rfl, rfl, rfl, rfl, trivial⟩ ?_
  refine z_iload_n C dX0_dotsOf_0 rfl ?_
  refine z_if_ltN C 20 (by omega) dX0_dotsOf_1 (by decide) ?_
  refine z_iload_n C dX0_dotsOf_4 rfl ?_
  refine z_bipush C (nI (27)) dX0_dotsOf_5 (by decide) ?_
  refine z_icmp_geN C 20 (by omega) (by omega) dX0_dotsOf_7 (by decide) (fun h7 => (by exfalso; omega)) (fun h7 => ?_)
  refine z_iload_n C dX0_dotsOf_10 rfl ?_
  refine z_if_ltN C 20 (by omega) dX0_dotsOf_11 (by decide) ?_
  refine z_iload_n C dX0_dotsOf_14 rfl ?_
  refine z_bipush C (nI (6)) dX0_dotsOf_15 (by decide) ?_
  refine z_icmp_ltN C 22 (by omega) (by omega) dX0_dotsOf_17 (by decide) (fun h17 => ?_) (fun h17 => (by exfalso; omega))
  refine z_aload_n C dX0_dotsOf_22 rfl ?_
  refine z_get C (1) (Cn := RX0) (T := TX0) (N := 2) (fi := 1) iw_X0_dotsOf_0 rfl (by decide) ln_X0_dotsOf_15 (by first | decide | omega) rfl e1 rfl dX0_dotsOf_23 ?_
  refine z_iload_n C dX0_dotsOf_26 rfl ?_
  refine z_bipush C (nI (6)) dX0_dotsOf_27 (by decide) ?_
  refine z_imulN C  dX0_dotsOf_29 ?_
  refine z_iload_n C dX0_dotsOf_30 rfl ?_
  refine z_iaddN C  dX0_dotsOf_31 ?_
  refine z_ialdG C (3) (by first | decide | omega) rfl e3 (by omega) (by decide) dX0_dotsOf_32 ?_
  exact hend _ _ _ dX0_dotsOf_33 (rfl)

theorem iw_X0_draw_0 : ∀ w ∈ wsX00, w ∈ wsX0_draw := by decide +kernel
theorem ln_X0_draw_15 : Cond.fieldLink RX0 15 "MarqueeDisplay$Font" "dots" "[I" ∈ wsX0_draw := by decide +kernel
set_option maxHeartbeats 4000000 in
set_option maxRecDepth 100000 in
theorem k_X0_draw (vl : Launch) (D : va_G) (cI cM : ClassId) (A : Nat → Prop) (ad : Nat → Nat) (E : Nat → va_E) (hX : XD A 32 ad) {wd dt : Nat → Nat} {c j b : Nat} (e1 : E (1) = .inr (0, [.ref (ad 2), .ref (ad 3)])) (e2 : E (2) = aI cI 27 wd) (e3 : E (3) = aI cI 162 dt) (hc : c < 27) (hj : j < wd c) (hw : wd c ≤ 6) : MV vl yX0_draw wsX0_draw { frames := 2, cells := 0, slots := 0, locals := 44 } D cI cM A 32 ad E [.ref (ad 1), .int (nI (c)), .int (nI (j)), .int (nI (b))] (fun E1 => E1 3 = aI cI 162 (va_up dt (c * 6 + j) b) ∧ ∀ k : Nat, k ≠ 3 → E1 k = E k) := by
  refine mv_of cX0_draw 4 RX0 (by decide) rfl rfl (Nat.le_of_ble_eq_true rfl) ?_
  intro vp ve vs vm va vb vt vc Q C hend
  refine z_lv [(0, .ref (ad 1)), (1, .int (nI (c))), (2, .int (nI (j))), (3, .int (nI (b)))] ⟨rfl, rfl, rfl, rfl, rfl, rfl, rfl, rfl, trivial⟩ ?_
  refine z_iload_n C dX0_draw_0 rfl ?_
  refine z_callSNF C (host := "MarqueeDisplay") (k_X5_isCharacter vl D cI cM A ad E hX (nI (c))) ⟨va_cnB (host := "MarqueeDisplay") 1 C.2.2.2.2.1 gX0_draw_X5_isCharacter_n26 rfl rfl rfl (C.2.2.2.2.2.2.1 _ (by decide +kernel)) (C.2.2.2.2.1 _ (by decide +kernel)) (by decide +kernel) ⟨Nat.le_of_ble_eq_true rfl, Nat.le_of_ble_eq_true rfl⟩, C.2.2.2.2.1 _ (by decide +kernel), trivial⟩ rfl rfl (Nat.le_of_ble_eq_true rfl) ⟨Nat.zero_le _, Nat.zero_le _⟩ dX0_draw_1 ?_
  refine z_top (nI (1)) (iw_yN ⟨Nat.zero_le _, by omega⟩ (by omega)) ?_
  refine z_if_eqN C 37 (by omega) dX0_draw_4 (by decide) (fun h4 => (by exfalso; omega)) (fun h4 => ?_)
  refine z_iload_n C dX0_draw_7 rfl ?_
  refine z_iconst C (nI (0)) dX0_draw_8 (by decide) ?_
  refine z_iconst C (nI (5)) dX0_draw_9 (by decide) ?_
  refine z_callSNF C (host := "MarqueeDisplay") (k_X5_isWithin vl D cI cM A ad E hX (nI (j)) (nI (0)) (nI (5))) ⟨va_cnB (host := "MarqueeDisplay") 3 C.2.2.2.2.1 gX0_draw_X5_isWithin_n22 rfl rfl rfl (C.2.2.2.2.2.2.1 _ (by decide +kernel)) (C.2.2.2.2.1 _ (by decide +kernel)) (by decide +kernel) ⟨Nat.le_of_ble_eq_true rfl, Nat.le_of_ble_eq_true rfl⟩, C.2.2.2.2.1 _ (by decide +kernel), trivial⟩ rfl rfl (Nat.le_of_ble_eq_true rfl) ⟨Nat.zero_le _, Nat.zero_le _⟩ dX0_draw_10 ?_
  refine z_top (nI (1)) (iw_yN ⟨Nat.zero_le _, by omega⟩ (by omega)) ?_
  refine z_if_eqN C 37 (by omega) dX0_draw_13 (by decide) (fun h13 => (by exfalso; omega)) (fun h13 => ?_)
  refine z_aload_n C dX0_draw_16 rfl ?_
  refine z_iload_n C dX0_draw_17 rfl ?_
  refine z_iload_n C dX0_draw_18 rfl ?_
  refine z_callVF C (1) (Cn := RX0) (T := TX0) (N := 2) (k_X0_hasColumn vl D cI cM A ad E hX (nI j) e1 e2 hc (by omega)) (cwV 2 C.2.2.2.2.1 gX0_draw_X0_hasColumn rfl rfl rfl (by decide +kernel) ⟨Nat.le_of_ble_eq_true rfl, Nat.le_of_ble_eq_true rfl⟩) rfl (by first | decide | omega) rfl e1 rfl rfl (Nat.le_of_ble_eq_true rfl) ⟨Nat.zero_le _, Nat.zero_le _⟩ dX0_draw_19 ?_
  refine z_top (nI (1)) (iw_yN ⟨Nat.zero_le _, by omega⟩ (by omega)) ?_
  refine z_if_eqN C 37 (by omega) dX0_draw_22 (by decide) (fun h22 => (by exfalso; omega)) (fun h22 => ?_)
  refine z_aload_n C dX0_draw_25 rfl ?_
  refine z_get C (1) (Cn := RX0) (T := TX0) (N := 2) (fi := 1) iw_X0_draw_0 rfl (by decide) ln_X0_draw_15 (by first | decide | omega) rfl e1 rfl dX0_draw_26 ?_
  refine z_iload_n C dX0_draw_29 rfl ?_
  refine z_bipush C (nI (6)) dX0_draw_30 (by decide) ?_
  refine z_imulN C  dX0_draw_32 ?_
  refine z_iload_n C dX0_draw_33 rfl ?_
  refine z_iaddN C  dX0_draw_34 ?_
  refine z_iload_n C dX0_draw_35 rfl ?_
  refine z_iastG C (3) hX (by first | decide | omega) rfl e3 (by omega) (by decide) dX0_draw_36 (fun Ez2 hE1 => ?_)
  have f3 : Ez2 (1) = .inr (0, [.ref (ad 2), .ref (ad 3)]) := va_up_of hE1 (by first | decide | omega) e1
  have f4 : Ez2 (2) = aI cI 27 wd := va_up_of hE1 (by first | decide | omega) e2
  have f6 : Ez2 (3) = aI cI 162 (va_up dt ((c * 6) + j) (b)) := va_up_eq hE1
  have g7 : ∀ k : Nat, (k ≠ 3) → Ez2 k = E k := fun k hk => va_up_of hE1 (by omega) ((fun _ _ => rfl) k hk)
  exact hend _ _ _ dX0_draw_37 (⟨f6, g7⟩)

def clr (g : Nat → Nat) (a b : Nat) : Nat → Nat := fun i => if a ≤ i ∧ i < b then 0 else g i
theorem clr_0 (g : Nat → Nat) (a : Nat) : clr g a a = g := by funext i; unfold clr; rw [if_neg (by omega)]
theorem clr_s {g : Nat → Nat} {a b : Nat} (h : a ≤ b) : va_up (clr g a b) b 0 = clr g a (b + 1) := by
  funext i
  unfold clr va_up
  by_cases hi : i = b
  · subst hi; rw [if_pos rfl, if_pos ⟨h, Nat.lt_succ_self _⟩]
  · rw [if_neg hi]
    show (if a ≤ i ∧ i < b then 0 else g i) = if a ≤ i ∧ i < b + 1 then 0 else g i
    by_cases h2 : a ≤ i ∧ i < b
    · rw [if_pos h2, if_pos ⟨h2.1, by omega⟩]
    · rw [if_neg h2, if_neg (by omega)]
theorem iw_X0_resize_0 : ∀ w ∈ wsX00, w ∈ wsX0_resize := by decide +kernel
theorem ln_X0_resize_9 : Cond.fieldLink RX0 9 "MarqueeDisplay$Font" "widths" "[I" ∈ wsX0_resize := by decide +kernel
theorem ln_X0_resize_15 : Cond.fieldLink RX0 15 "MarqueeDisplay$Font" "dots" "[I" ∈ wsX0_resize := by decide +kernel
set_option maxHeartbeats 4000000 in
set_option maxRecDepth 100000 in
theorem k_X0_resize (vl : Launch) (D : va_G) (cI cM : ClassId) (A : Nat → Prop) (ad : Nat → Nat) (E : Nat → va_E) (hX : XD A 32 ad) {wd dt : Nat → Nat} {c w : Nat} (e1 : E (1) = .inr (0, [.ref (ad 2), .ref (ad 3)])) (e2 : E (2) = aI cI 27 wd) (e3 : E (3) = aI cI 162 dt) (hc : c < 27) (hw : 1 ≤ w ∧ w ≤ 6) : MV vl yX0_resize wsX0_resize { frames := 2, cells := 0, slots := 0, locals := 42 } D cI cM A 32 ad E [.ref (ad 1), .int (nI (c)), .int (nI (w))] (fun E1 => E1 2 = aI cI 27 (va_up wd c w) ∧ E1 3 = aI cI 162 (clr dt (c * 6 + w) (c * 6 + 6)) ∧ ∀ k : Nat, k ≠ 2 ∧ k ≠ 3 → E1 k = E k) := by
  refine mv_of cX0_resize 4 RX0 (by decide) rfl rfl (Nat.le_of_ble_eq_true rfl) ?_
  intro vp ve vs vm va vb vt vc Q C hend
  refine z_lv [(0, .ref (ad 1)), (1, .int (nI (c))), (2, .int (nI (w)))] ⟨rfl, rfl, rfl, rfl, rfl, rfl, trivial⟩ ?_
  refine z_iload_n C dX0_resize_0 rfl ?_
  refine z_callSNF C (host := "MarqueeDisplay") (k_X5_isCharacter vl D cI cM A ad E hX (nI (c))) ⟨va_cnB (host := "MarqueeDisplay") 1 C.2.2.2.2.1 gX0_resize_X5_isCharacter_n26 rfl rfl rfl (C.2.2.2.2.2.2.1 _ (by decide +kernel)) (C.2.2.2.2.1 _ (by decide +kernel)) (by decide +kernel) ⟨Nat.le_of_ble_eq_true rfl, Nat.le_of_ble_eq_true rfl⟩, C.2.2.2.2.1 _ (by decide +kernel), trivial⟩ rfl rfl (Nat.le_of_ble_eq_true rfl) ⟨Nat.zero_le _, Nat.zero_le _⟩ dX0_resize_1 ?_
  refine z_top (nI (1)) (iw_yN ⟨Nat.zero_le _, by omega⟩ (by decide)) ?_
  refine z_if_eqN C 17 (by omega) dX0_resize_4 (by decide) (fun h4 => (by exfalso; omega)) (fun h4 => ?_)
  refine z_iload_n C dX0_resize_7 rfl ?_
  refine z_iconst C (nI (1)) dX0_resize_8 (by decide) ?_
  refine z_bipush C (nI (6)) dX0_resize_9 (by decide) ?_
  refine z_callSNF C (host := "MarqueeDisplay") (k_X5_isWithin vl D cI cM A ad E hX (nI (w)) (nI (1)) (nI (6))) ⟨va_cnB (host := "MarqueeDisplay") 3 C.2.2.2.2.1 gX0_resize_X5_isWithin_n22 rfl rfl rfl (C.2.2.2.2.2.2.1 _ (by decide +kernel)) (C.2.2.2.2.1 _ (by decide +kernel)) (by decide +kernel) ⟨Nat.le_of_ble_eq_true rfl, Nat.le_of_ble_eq_true rfl⟩, C.2.2.2.2.1 _ (by decide +kernel), trivial⟩ rfl rfl (Nat.le_of_ble_eq_true rfl) ⟨Nat.zero_le _, Nat.zero_le _⟩ dX0_resize_11 ?_
  refine z_top (nI (1)) (iw_yN hw (by decide)) ?_
  refine z_if_neN C 18 (by omega) dX0_resize_14 (by decide) (fun h14 => ?_) (fun h14 => (by exfalso; omega))
  refine z_iload_n C dX0_resize_18 rfl ?_
  refine z_istore_n C [(0, .ref (ad 1)), (1, .int (nI (c))), (2, .int (nI (w))), (3, .int (nI (w)))] dX0_resize_19 (by decide) ⟨rfl, rfl, rfl, rfl, rfl, rfl, rfl, rfl, trivial⟩ ?_
  have loop20 : ∀ (fuel : Nat) (i : Nat) (E2 : Nat → va_E), (hi : w ≤ i ∧ i ≤ 6) → (q1 : E2 (1) = .inr (0, [.ref (ad 2), .ref (ad 3)])) → (q2 : E2 (2) = aI cI 27 wd) → (q3 : E2 (3) = aI cI 162 (clr dt (c * 6 + w) (c * 6 + i))) → (qf : ∀ k : Nat, k ≠ 2 ∧ k ≠ 3 → E2 k = E k) → 6 - i < fuel → Z vp vl ve { frames := 2, cells := 0, slots := 0, locals := 42 } vs vm va vb vt vc 4 D A 32 ad E2 [(0, .ref (ad 1)), (1, .int (nI (c))), (2, .int (nI (w))), (3, .int (nI (i)))] 0 0 Q 20 [] := by
    intro fuel
    induction fuel with
    | zero => intro i E2 hi q1 q2 q3 qf hlt; exact absurd hlt (Nat.not_lt_zero _)
    | succ fuel ih =>
      intro i E2 hi q1 q2 q3 qf hlt
      have ih20 := ih
      refine z_iload_n C dX0_resize_20 rfl ?_
      refine z_bipush C (nI (6)) dX0_resize_21 (by decide) ?_
      refine z_icmp_geN C 44 (by omega) (by omega) dX0_resize_23 (by decide) (fun h23 => ?_) (fun h23 => ?_)
      · have hi6 : i = 6 := by omega
        refine z_aload_n C dX0_resize_44 rfl ?_
        refine z_get C (1) (Cn := RX0) (T := TX0) (N := 2) (fi := 0) iw_X0_resize_0 rfl (by decide) ln_X0_resize_9 (by first | decide | omega) rfl q1 rfl dX0_resize_45 ?_
        refine z_iload_n C dX0_resize_48 rfl ?_
        refine z_iload_n C dX0_resize_49 rfl ?_
        refine z_iastG C (2) hX (by first | decide | omega) rfl q2 (by omega) (by decide) dX0_resize_50 (fun Ez2 hE1 => ?_)
        have f3 : Ez2 (1) = .inr (0, [.ref (ad 2), .ref (ad 3)]) := va_up_of hE1 (by first | decide | omega) q1
        have f5 : Ez2 (3) = aI cI 162 (clr dt (c * 6 + w) (c * 6 + i)) := va_up_of hE1 (by first | decide | omega) q3
        have f6 : Ez2 (2) = aI cI 27 (va_up wd (c) (w)) := va_up_eq hE1
        have g7 : ∀ k : Nat, (k ≠ 2 ∧ k ≠ 3) → Ez2 k = E k := fun k hk => va_up_of hE1 (by omega) (qf k hk)
        exact hend _ _ _ dX0_resize_51 (⟨f6, f5.trans (by rw [hi6]), g7⟩)
      · refine z_aload_n C dX0_resize_26 rfl ?_
        refine z_get C (1) (Cn := RX0) (T := TX0) (N := 2) (fi := 1) iw_X0_resize_0 rfl (by decide) ln_X0_resize_15 (by first | decide | omega) rfl q1 rfl dX0_resize_27 ?_
        refine z_iload_n C dX0_resize_30 rfl ?_
        refine z_bipush C (nI (6)) dX0_resize_31 (by decide) ?_
        refine z_imulN C  dX0_resize_33 ?_
        refine z_iload_n C dX0_resize_34 rfl ?_
        refine z_iaddN C  dX0_resize_35 ?_
        refine z_iconst C (nI (0)) dX0_resize_36 (by decide) ?_
        refine z_iastG C (3) hX (by first | decide | omega) rfl q3 (by omega) (by decide) dX0_resize_37 (fun Ez9 hE8 => ?_)
        have f10 : Ez9 (1) = .inr (0, [.ref (ad 2), .ref (ad 3)]) := va_up_of hE8 (by first | decide | omega) q1
        have f11 : Ez9 (2) = aI cI 27 wd := va_up_of hE8 (by first | decide | omega) q2
        have f13 : Ez9 (3) = aI cI 162 (va_up (clr dt (c * 6 + w) (c * 6 + i)) ((c * 6) + i) (0)) := va_up_eq hE8
        have g14 : ∀ k : Nat, (k ≠ 2 ∧ k ≠ 3) → Ez9 k = E k := fun k hk => va_up_of hE8 (by omega) (qf k hk)
        refine z_iincN (j := 1) C [(0, .ref (ad 1)), (1, .int (nI (c))), (2, .int (nI (w))), (3, .int (nI (i + 1)))] dX0_resize_38 rfl (by decide) ⟨rfl, rfl, rfl, rfl, rfl, rfl, rfl, rfl, trivial⟩ ?_
        refine z_goto C 20 dX0_resize_41 (by decide) ?_
        refine z_lv [(0, .ref (ad 1)), (1, .int (nI (c))), (2, .int (nI (w))), (3, .int (nI (i + 1)))] ⟨rfl, rfl, rfl, rfl, rfl, rfl, rfl, rfl, trivial⟩ ?_
        exact ih20 (i + 1) Ez9 (by omega) f10 f11 (f13.trans (by rw [clr_s (by omega)]; rfl)) g14 (by omega)
  refine z_lv [(0, .ref (ad 1)), (1, .int (nI (c))), (2, .int (nI (w))), (3, .int (nI (w)))] ⟨rfl, rfl, rfl, rfl, rfl, rfl, rfl, rfl, trivial⟩ ?_
  exact loop20 (7) w E ⟨Nat.le_refl _, hw.2⟩ e1 e2 (e3.trans (by rw [clr_0])) (fun _ _ => rfl) (by omega)

