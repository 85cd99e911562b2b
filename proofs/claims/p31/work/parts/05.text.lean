theorem iw_X4_add_4 : ∀ w ∈ wsX40, w ∈ wsX4_add := by decide +kernel
theorem ln_X4_add_15 : Cond.fieldLink RX4 15 "MarqueeDisplay$Text" "length" "I" ∈ wsX4_add := by decide +kernel
theorem ln_X4_add_9 : Cond.fieldLink RX4 9 "MarqueeDisplay$Text" "characters" "[I" ∈ wsX4_add := by decide +kernel
set_option maxHeartbeats 4000000 in
set_option maxRecDepth 100000 in
theorem k_X4_add (vl : Launch) (D : va_G) (cI cM : ClassId) (A : Nat → Prop) (ad : Nat → Nat) (E : Nat → va_E) (hX : XD A 32 ad) {tl : Nat} {tx : Nat → Nat} {c : Nat} (b4 : E (4) = .inr (4, [.ref (ad 5), .int (nI (tl))])) (b5 : E (5) = aI cI 12 tx) (ht : tl < 12) : MV vl yX4_add wsX4_add { frames := 1, cells := 0, slots := 0, locals := 22 } D cI cM A 32 ad E [.ref (ad 4), .int (nI (c))] (fun E1 => E1 4 = .inr (4, [.ref (ad 5), .int (nI (tl + 1))]) ∧ E1 5 = aI cI 12 (va_up tx tl c) ∧ ∀ k : Nat, (k ≠ 4 ∧ k ≠ 5) → E1 k = E k) := by
  refine mv_of cX4_add 2 RX4 (by decide) rfl rfl (Nat.le_of_ble_eq_true rfl) ?_
  intro vp ve vs vm va vb vt vc Q C hend
  refine z_lv [(0, .ref (ad 4)), (1, .int (nI (c)))] ⟨rfl, rfl, rfl, rfl, trivial⟩ ?_
  refine z_aload_n C dX4_add_0 rfl ?_
  refine z_get C (4) (Cn := RX4) (T := TX4) (N := 2) (fi := 1) iw_X4_add_4 rfl (by decide) ln_X4_add_15 (by first | decide | omega) rfl b4 rfl dX4_add_1 ?_
  refine z_iconst C (nI (0)) dX4_add_4 (by decide) ?_
  refine z_aload_n C dX4_add_5 rfl ?_
  refine z_get C (4) (Cn := RX4) (T := TX4) (N := 2) (fi := 0) iw_X4_add_4 rfl (by decide) ln_X4_add_9 (by first | decide | omega) rfl b4 rfl dX4_add_6 ?_
  refine z_alenG C (5) (by first | decide | omega) rfl b5 dX4_add_9 ?_
  refine z_iconst C (nI (1)) dX4_add_10 (by decide) ?_
  refine z_isubN C (by omega) dX4_add_11 ?_
  refine z_callSNF C (host := "MarqueeDisplay") (k_X5_isWithin vl D cI cM A ad E hX (nI (tl)) (nI (0)) (nI (12 - 1))) ⟨va_cnB (host := "MarqueeDisplay") 3 C.2.2.2.2.1 gX4_add_X5_isWithin_n19 rfl rfl rfl (C.2.2.2.2.2.2.1 _ (by decide +kernel)) (C.2.2.2.2.1 _ (by decide +kernel)) (by decide +kernel) ⟨Nat.le_of_ble_eq_true rfl, Nat.le_of_ble_eq_true rfl⟩, C.2.2.2.2.1 _ (by decide +kernel), trivial⟩ rfl rfl (Nat.le_of_ble_eq_true rfl) ⟨Nat.zero_le _, Nat.zero_le _⟩ dX4_add_12 ?_
  refine z_top (nI (1)) (iw_yN ⟨Nat.zero_le _, by omega⟩ (by omega)) ?_
  refine z_if_eqN C 38 (by omega) dX4_add_15 (by decide) (fun h15 => (by exfalso; omega)) (fun h15 => ?_)
  refine z_aload_n C dX4_add_18 rfl ?_
  refine z_get C (4) (Cn := RX4) (T := TX4) (N := 2) (fi := 0) iw_X4_add_4 rfl (by decide) ln_X4_add_9 (by first | decide | omega) rfl b4 rfl dX4_add_19 ?_
  refine z_aload_n C dX4_add_22 rfl ?_
  refine z_get C (4) (Cn := RX4) (T := TX4) (N := 2) (fi := 1) iw_X4_add_4 rfl (by decide) ln_X4_add_15 (by first | decide | omega) rfl b4 rfl dX4_add_23 ?_
  refine z_iload_n C dX4_add_26 rfl ?_
  refine z_iastG C (5) hX (by first | decide | omega) rfl b5 (by omega) (by decide) dX4_add_27 (fun Ez2 hE1 => ?_)
  have f3 : Ez2 (4) = .inr (4, [.ref (ad 5), .int (nI (tl))]) := va_up_of hE1 (by first | decide | omega) b4
  have f5 : Ez2 (5) = aI cI 12 (va_up tx (tl) (c)) := va_up_eq hE1
  have g6 : ∀ k : Nat, (k ≠ 4 ∧ k ≠ 5) → Ez2 k = E k := fun k hk => va_up_of hE1 (by omega) ((fun _ _ => rfl) k hk)
  refine z_aload_n C dX4_add_28 rfl ?_
  refine z_dup C dX4_add_29 rfl ?_
  refine z_get C (4) (Cn := RX4) (T := TX4) (N := 2) (fi := 1) iw_X4_add_4 rfl (by decide) ln_X4_add_15 (by first | decide | omega) rfl f3 rfl dX4_add_30 ?_
  refine z_iconst C (nI (1)) dX4_add_33 (by decide) ?_
  refine z_iaddN C  dX4_add_34 ?_
  refine z_put C (4) (Cn := RX4) (T := TX4) (N := 2) (fi := 1) tyX4 iw_X4_add_4 tyX4_ok nmX4 rfl (by decide) ln_X4_add_15 hX (by first | decide | omega) rfl f3 rfl rfl rfl rfl (Nat.le_of_ble_eq_true rfl) dX4_add_35 (fun Ez8 hE7 => ?_)
  have f10 : Ez8 (5) = aI cI 12 (va_up tx (tl) (c)) := va_up_of hE7 (by first | decide | omega) f5
  have f11 : Ez8 (4) = .inr (4, [.ref (ad 5), .int (nI (tl + 1))]) := va_up_eq hE7
  have g12 : ∀ k : Nat, (k ≠ 4 ∧ k ≠ 5) → Ez8 k = E k := fun k hk => va_up_of hE7 (by omega) (g6 k hk)
  exact hend _ _ _ dX4_add_38 (⟨f11, f10, g12⟩)

theorem iw_X4_empty_4 : ∀ w ∈ wsX40, w ∈ wsX4_empty := by decide +kernel
theorem ln_X4_empty_15 : Cond.fieldLink RX4 15 "MarqueeDisplay$Text" "length" "I" ∈ wsX4_empty := by decide +kernel
set_option maxHeartbeats 4000000 in
set_option maxRecDepth 100000 in
theorem k_X4_empty (vl : Launch) (D : va_G) (cI cM : ClassId) (A : Nat → Prop) (ad : Nat → Nat) (E : Nat → va_E) (hX : XD A 32 ad) {tl : Nat} (b4 : E (4) = .inr (4, [.ref (ad 5), .int (nI (tl))])) : MV vl yX4_empty wsX4_empty { frames := 0, cells := 0, slots := 0, locals := 0 } D cI cM A 32 ad E [.ref (ad 4)] (fun E1 => E1 4 = .inr (4, [.ref (ad 5), .int (nI 0)]) ∧ ∀ k : Nat, (k ≠ 4) → E1 k = E k) := by
  refine mv_of cX4_empty 1 RX4 (by decide) rfl rfl (Nat.le_of_ble_eq_true rfl) ?_
  intro vp ve vs vm va vb vt vc Q C hend
  refine z_lv [(0, .ref (ad 4))] ⟨rfl, rfl, trivial⟩ ?_
  refine z_aload_n C dX4_empty_0 rfl ?_
  refine z_iconst C (nI (0)) dX4_empty_1 (by decide) ?_
  refine z_put C (4) (Cn := RX4) (T := TX4) (N := 2) (fi := 1) tyX4 iw_X4_empty_4 tyX4_ok nmX4 rfl (by decide) ln_X4_empty_15 hX (by first | decide | omega) rfl b4 rfl rfl rfl rfl (Nat.le_of_ble_eq_true rfl) dX4_empty_2 (fun Ez2 hE1 => ?_)
  have f4 : Ez2 (4) = .inr (4, [.ref (ad 5), .int (nI (0))]) := va_up_eq hE1
  have g5 : ∀ k : Nat, (k ≠ 4) → Ez2 k = E k := fun k hk => va_up_of hE1 (by omega) ((fun _ _ => rfl) k hk)
  exact hend _ _ _ dX4_empty_5 (⟨f4, g5⟩)

theorem upx {g2 tx : Nat → Nat} {i : Nat} (hg : ∀ k : Nat, k < i → g2 k = tx k) : ∀ k : Nat, k < i + 1 → va_up g2 i (tx i) k = tx k := by
  intro k hk
  by_cases e : k = i
  · subst e; exact va_up_self _ _ _
  · rw [va_up_ne _ _ e]; exact hg k (by omega)
theorem iw_X4_characterAt_4 : ∀ w ∈ wsX40, w ∈ wsX4_characterAt := by decide +kernel
theorem ln_X4_characterAt_9 : Cond.fieldLink RX4 9 "MarqueeDisplay$Text" "characters" "[I" ∈ wsX4_characterAt := by decide +kernel
set_option maxHeartbeats 4000000 in
set_option maxRecDepth 100000 in
theorem k_charAt_b (vl : Launch) (D : va_G) (cI cM : ClassId) (A : Nat → Prop) (ad : Nat → Nat) (E : Nat → va_E) (hX : XD A 32 ad) {tl i : Nat} {tx : Nat → Nat} (b4 : E (4) = .inr (4, [.ref (ad 5), .int (nI (tl))])) (b5 : E (5) = aI cI 12 tx) (hi : i < 12) : MF vl yX4_characterAt wsX4_characterAt { frames := 1, cells := 0, slots := 0, locals := 22 } D cI cM A 32 ad E [.ref (ad 4), .int (nI (i))] (nI (tx i)) := by
  refine mf_of cX4_characterAt 2 (.int) RX4 (by decide) rfl rfl (Nat.le_of_ble_eq_true rfl) (rfl) ?_
  intro vp ve vs vm va vb vt vc Q C hend
  refine z_lv [(0, .ref (ad 4)), (1, .int (nI (i)))] ⟨rfl, rfl, rfl, rfl, trivial⟩ ?_
  refine z_iload_n C dX4_characterAt_0 rfl ?_
  refine z_iconst C (nI (0)) dX4_characterAt_1 (by decide) ?_
  refine z_aload_n C dX4_characterAt_2 rfl ?_
  refine z_get C (4) (Cn := RX4) (T := TX4) (N := 2) (fi := 0) iw_X4_characterAt_4 rfl (by decide) ln_X4_characterAt_9 (by first | decide | omega) rfl b4 rfl dX4_characterAt_3 ?_
  refine z_alenG C (5) (by first | decide | omega) rfl b5 dX4_characterAt_6 ?_
  refine z_iconst C (nI (1)) dX4_characterAt_7 (by decide) ?_
  refine z_isubN C (by omega) dX4_characterAt_8 ?_
  refine z_callSNF C (host := "MarqueeDisplay") (k_X5_isWithin vl D cI cM A ad E hX (nI (i)) (nI (0)) (nI (12 - 1))) ⟨va_cnB (host := "MarqueeDisplay") 3 C.2.2.2.2.1 gX4_characterAt_X5_isWithin_n19 rfl rfl rfl (C.2.2.2.2.2.2.1 _ (by decide +kernel)) (C.2.2.2.2.1 _ (by decide +kernel)) (by decide +kernel) ⟨Nat.le_of_ble_eq_true rfl, Nat.le_of_ble_eq_true rfl⟩, C.2.2.2.2.1 _ (by decide +kernel), trivial⟩ rfl rfl (Nat.le_of_ble_eq_true rfl) ⟨Nat.zero_le _, Nat.zero_le _⟩ dX4_characterAt_9 ?_
  refine z_top (nI (1)) (iw_yN ⟨Nat.zero_le _, by omega⟩ (by omega)) ?_
  refine z_if_eqN C 24 (by omega) dX4_characterAt_12 (by decide) (fun h12 => (by exfalso; omega)) (fun h12 => ?_)
  refine z_aload_n C dX4_characterAt_15 rfl ?_
  refine z_get C (4) (Cn := RX4) (T := TX4) (N := 2) (fi := 0) iw_X4_characterAt_4 rfl (by decide) ln_X4_characterAt_9 (by first | decide | omega) rfl b4 rfl dX4_characterAt_16 ?_
  refine z_iload_n C dX4_characterAt_19 rfl ?_
  refine z_ialdG C (5) (by first | decide | omega) rfl b5 (by omega) (by decide) dX4_characterAt_20 ?_
  refine z_goto C 26 dX4_characterAt_21 (by decide) ?_
  exact hend _ _ _ dX4_characterAt_26 (rfl)

set_option maxHeartbeats 4000000 in
set_option maxRecDepth 100000 in
theorem k_charAt_m (vl : Launch) (D : va_G) (cI cM : ClassId) (A : Nat → Prop) (ad : Nat → Nat) (E : Nat → va_E) (hX : XD A 32 ad) {z j i : Nat} {g : Nat → Nat} (hj : j < 6) (t9 : E (9 + 3 * j) = .inr (4, [.ref (ad (10 + 3 * j)), .int (nI (z))])) (t10 : E (10 + 3 * j) = aI cI 12 g) (hi : i < 12) : MF vl yX4_characterAt wsX4_characterAt { frames := 1, cells := 0, slots := 0, locals := 22 } D cI cM A 32 ad E [.ref (ad (9 + 3 * j)), .int (nI (i))] (nI (g i)) := by
  refine mf_of cX4_characterAt 2 (.int) RX4 (by decide) rfl rfl (Nat.le_of_ble_eq_true rfl) (rfl) ?_
  intro vp ve vs vm va vb vt vc Q C hend
  refine z_lv [(0, .ref (ad (9 + 3 * j))), (1, .int (nI (i)))] ⟨rfl, rfl, rfl, rfl, trivial⟩ ?_
  refine z_iload_n C dX4_characterAt_0 rfl ?_
  refine z_iconst C (nI (0)) dX4_characterAt_1 (by decide) ?_
  refine z_aload_n C dX4_characterAt_2 rfl ?_
  refine z_get C (9 + 3 * j) (Cn := RX4) (T := TX4) (N := 2) (fi := 0) iw_X4_characterAt_4 rfl (by decide) ln_X4_characterAt_9 (by first | decide | omega) rfl t9 rfl dX4_characterAt_3 ?_
  refine z_alenG C (10 + 3 * j) (by first | decide | omega) rfl t10 dX4_characterAt_6 ?_
  refine z_iconst C (nI (1)) dX4_characterAt_7 (by decide) ?_
  refine z_isubN C (by omega) dX4_characterAt_8 ?_
  refine z_callSNF C (host := "MarqueeDisplay") (k_X5_isWithin vl D cI cM A ad E hX (nI (i)) (nI (0)) (nI (12 - 1))) ⟨va_cnB (host := "MarqueeDisplay") 3 C.2.2.2.2.1 gX4_characterAt_X5_isWithin_n19 rfl rfl rfl (C.2.2.2.2.2.2.1 _ (by decide +kernel)) (C.2.2.2.2.1 _ (by decide +kernel)) (by decide +kernel) ⟨Nat.le_of_ble_eq_true rfl, Nat.le_of_ble_eq_true rfl⟩, C.2.2.2.2.1 _ (by decide +kernel), trivial⟩ rfl rfl (Nat.le_of_ble_eq_true rfl) ⟨Nat.zero_le _, Nat.zero_le _⟩ dX4_characterAt_9 ?_
  refine z_top (nI (1)) (iw_yN ⟨Nat.zero_le _, by omega⟩ (by omega)) ?_
  refine z_if_eqN C 24 (by omega) dX4_characterAt_12 (by decide) (fun h12 => (by exfalso; omega)) (fun h12 => ?_)
  refine z_aload_n C dX4_characterAt_15 rfl ?_
  refine z_get C (9 + 3 * j) (Cn := RX4) (T := TX4) (N := 2) (fi := 0) iw_X4_characterAt_4 rfl (by decide) ln_X4_characterAt_9 (by first | decide | omega) rfl t9 rfl dX4_characterAt_16 ?_
  refine z_iload_n C dX4_characterAt_19 rfl ?_
  refine z_ialdG C (10 + 3 * j) (by first | decide | omega) rfl t10 (by omega) (by decide) dX4_characterAt_20 ?_
  refine z_goto C 26 dX4_characterAt_21 (by decide) ?_
  exact hend _ _ _ dX4_characterAt_26 (rfl)

theorem iw_X4_copyFrom_4 : ∀ w ∈ wsX40, w ∈ wsX4_copyFrom := by decide +kernel
theorem ln_X4_copyFrom_9 : Cond.fieldLink RX4 9 "MarqueeDisplay$Text" "characters" "[I" ∈ wsX4_copyFrom := by decide +kernel
theorem ln_X4_copyFrom_15 : Cond.fieldLink RX4 15 "MarqueeDisplay$Text" "length" "I" ∈ wsX4_copyFrom := by decide +kernel
set_option maxHeartbeats 4000000 in
set_option maxRecDepth 100000 in
theorem k_X4_copyFrom (vl : Launch) (D : va_G) (cI cM : ClassId) (A : Nat → Prop) (ad : Nat → Nat) (E : Nat → va_E) (hX : XD A 32 ad) {tl : Nat} {tx g : Nat → Nat} {j : Nat} {z : Int32} (hj : j < 6) (b4 : E (4) = .inr (4, [.ref (ad 5), .int (nI (tl))])) (b5 : E (5) = aI cI 12 tx) (t9 : E (9 + 3 * j) = .inr (4, [.ref (ad (10 + 3 * j)), .int (z)])) (t10 : E (10 + 3 * j) = aI cI 12 g) : MV vl yX4_copyFrom wsX4_copyFrom { frames := 2, cells := 0, slots := 0, locals := 43 } D cI cM A 32 ad E [.ref (ad (9 + 3 * j)), .ref (ad 4)] (fun E1 => E1 (9 + 3 * j) = .inr (4, [.ref (ad (10 + 3 * j)), .int (nI tl)]) ∧ (∃ g2 : Nat → Nat, E1 (10 + 3 * j) = aI cI 12 g2 ∧ ∀ k : Nat, k < 12 → g2 k = tx k) ∧ ∀ k : Nat, (k ≠ 9 + 3 * j ∧ k ≠ 10 + 3 * j) → E1 k = E k) := by
  refine mv_of cX4_copyFrom 3 RX4 (by decide) rfl rfl (Nat.le_of_ble_eq_true rfl) ?_
  intro vp ve vs vm va vb vt vc Q C hend
  refine z_lv [(0, .ref (ad (9 + 3 * j))), (1, .ref (ad 4))] ⟨rfl, rfl, rfl, rfl, trivial⟩ ?_
  refine z_iconst C (nI (0)) dX4_copyFrom_0 (by decide) ?_
  refine z_istore_n C [(0, .ref (ad (9 + 3 * j))), (1, .ref (ad 4)), (2, .int (nI (0)))] dX4_copyFrom_1 (by decide) ⟨rfl, rfl, rfl, rfl, rfl, rfl, trivial⟩ ?_
  have loop2 : ∀ (fuel : Nat) (i : Nat) (E2 : Nat → va_E) (g2 : Nat → Nat), (hi : i ≤ 12) → (hg : ∀ k : Nat, k < i → g2 k = tx k) → (q4 : E2 (4) = .inr (4, [.ref (ad 5), .int (nI (tl))])) → (q5 : E2 (5) = aI cI 12 tx) → (q9 : E2 (9 + 3 * j) = .inr (4, [.ref (ad (10 + 3 * j)), .int (z)])) → (q10 : E2 (10 + 3 * j) = aI cI 12 g2) → (qf : ∀ k : Nat, (k ≠ 9 + 3 * j ∧ k ≠ 10 + 3 * j) → E2 k = E k) → 12 - i < fuel → Z vp vl ve { frames := 2, cells := 0, slots := 0, locals := 43 } vs vm va vb vt vc 3 D A 32 ad E2 [(0, .ref (ad (9 + 3 * j))), (1, .ref (ad 4)), (2, .int (nI (i)))] 0 0 Q 2 [] := by
    intro fuel
    induction fuel with
    | zero => intro i E2 g2 hi hg q4 q5 q9 q10 qf hlt; exact absurd hlt (Nat.not_lt_zero _)
    | succ fuel ih =>
      intro i E2 g2 hi hg q4 q5 q9 q10 qf hlt
      have ih2 := ih
      refine z_iload_n C dX4_copyFrom_2 rfl ?_
      refine z_aload_n C dX4_copyFrom_3 rfl ?_
      refine z_get C (9 + 3 * j) (Cn := RX4) (T := TX4) (N := 2) (fi := 0) iw_X4_copyFrom_4 rfl (by decide) ln_X4_copyFrom_9 (by first | decide | omega) rfl q9 rfl dX4_copyFrom_4 ?_
      refine z_alenG C (10 + 3 * j) (by first | decide | omega) rfl q10 dX4_copyFrom_7 ?_
      refine z_icmp_geN C 28 (by omega) (by omega) dX4_copyFrom_8 (by decide) (fun h8 => ?_) (fun h8 => ?_)
      · have hi12 : i = 12 := by omega
        refine z_aload_n C dX4_copyFrom_28 rfl ?_
        refine z_aload_n C dX4_copyFrom_29 rfl ?_
        refine z_get C (4) (Cn := RX4) (T := TX4) (N := 2) (fi := 1) iw_X4_copyFrom_4 rfl (by decide) ln_X4_copyFrom_15 (by first | decide | omega) rfl q4 rfl dX4_copyFrom_30 ?_
        refine z_put C (9 + 3 * j) (Cn := RX4) (T := TX4) (N := 2) (fi := 1) tyX4 iw_X4_copyFrom_4 tyX4_ok nmX4 rfl (by decide) ln_X4_copyFrom_15 hX (by first | decide | omega) rfl q9 rfl rfl rfl rfl (Nat.le_of_ble_eq_true rfl) dX4_copyFrom_33 (fun Ez2 hE1 => ?_)
        have f3 : Ez2 (4) = .inr (4, [.ref (ad 5), .int (nI (tl))]) := va_up_of hE1 (by first | decide | omega) q4
        have f4 : Ez2 (5) = aI cI 12 tx := va_up_of hE1 (by first | decide | omega) q5
        have f6 : Ez2 (10 + 3 * j) = aI cI 12 g2 := va_up_of hE1 (by first | decide | omega) q10
        have f7 : Ez2 (9 + 3 * j) = .inr (4, [.ref (ad (10 + 3 * j)), .int (nI (tl))]) := va_up_eq hE1
        have g8 : ∀ k : Nat, (k ≠ 9 + 3 * j ∧ k ≠ 10 + 3 * j) → Ez2 k = E k := fun k hk => va_up_of hE1 (by omega) (qf k hk)
        exact hend _ _ _ dX4_copyFrom_36 (⟨f7, ⟨g2, f6, fun k hk => hg k (by omega)⟩, g8⟩)
      · refine z_aload_n C dX4_copyFrom_11 rfl ?_
        refine z_get C (9 + 3 * j) (Cn := RX4) (T := TX4) (N := 2) (fi := 0) iw_X4_copyFrom_4 rfl (by decide) ln_X4_copyFrom_9 (by first | decide | omega) rfl q9 rfl dX4_copyFrom_12 ?_
        refine z_iload_n C dX4_copyFrom_15 rfl ?_
        refine z_aload_n C dX4_copyFrom_16 rfl ?_
        refine z_iload_n C dX4_copyFrom_17 rfl ?_
        refine z_callVF C (4) (Cn := RX4) (T := TX4) (N := 2) (k_charAt_b vl D cI cM A ad E2 hX q4 q5 (by omega)) (cwV 1 C.2.2.2.2.1 gX4_copyFrom_X4_characterAt rfl rfl rfl (by decide +kernel) ⟨Nat.le_of_ble_eq_true rfl, Nat.le_of_ble_eq_true rfl⟩) rfl (by first | decide | omega) rfl q4 rfl rfl (Nat.le_of_ble_eq_true rfl) ⟨Nat.zero_le _, Nat.zero_le _⟩ dX4_copyFrom_18 ?_
        refine z_iastG C (10 + 3 * j) hX (by first | decide | omega) rfl q10 (by omega) (by decide) dX4_copyFrom_21 (fun Ez10 hE9 => ?_)
        have f11 : Ez10 (4) = .inr (4, [.ref (ad 5), .int (nI (tl))]) := va_up_of hE9 (by first | decide | omega) q4
        have f12 : Ez10 (5) = aI cI 12 tx := va_up_of hE9 (by first | decide | omega) q5
        have f13 : Ez10 (9 + 3 * j) = .inr (4, [.ref (ad (10 + 3 * j)), .int (z)]) := va_up_of hE9 (by first | decide | omega) q9
        have f15 : Ez10 (10 + 3 * j) = aI cI 12 (va_up g2 (i) (tx (i))) := va_up_eq hE9
        have g16 : ∀ k : Nat, (k ≠ 9 + 3 * j ∧ k ≠ 10 + 3 * j) → Ez10 k = E k := fun k hk => va_up_of hE9 (by omega) (qf k hk)
        refine z_iincN (j := 1) C [(0, .ref (ad (9 + 3 * j))), (1, .ref (ad 4)), (2, .int (nI (i + 1)))] dX4_copyFrom_22 rfl (by decide) ⟨rfl, rfl, rfl, rfl, rfl, rfl, trivial⟩ ?_
        refine z_goto C 2 dX4_copyFrom_25 (by decide) ?_
        refine z_lv [(0, .ref (ad (9 + 3 * j))), (1, .ref (ad 4)), (2, .int (nI (i + 1)))] ⟨rfl, rfl, rfl, rfl, rfl, rfl, trivial⟩ ?_
        exact ih2 (i + 1) Ez10 _ (by omega) (upx hg) f11 f12 f13 f15 g16 (by omega)
  refine z_lv [(0, .ref (ad (9 + 3 * j))), (1, .ref (ad 4)), (2, .int (nI (0)))] ⟨rfl, rfl, rfl, rfl, rfl, rfl, trivial⟩ ?_
  exact loop2 (13) 0 E g (Nat.zero_le _) (fun k hk => absurd hk (Nat.not_lt_zero k)) b4 b5 t9 t10 (fun _ _ => rfl) (by omega)

theorem im_y {n j : Nat} (hj : j < n) (hn : n < 2 ^ 31) : iw (nI j) (nI 0) (nI n - nI 1) = nI 1 := by
  rw [pk_sub (by omega)]
  exact iw_yN ⟨Nat.zero_le _, by omega⟩ (by omega)
theorem im_n {n : Nat} {x : Int32} (hn : n < 2 ^ 31) (hx : ¬ ∃ j : Nat, j < n ∧ x = nI j) : iw x (nI 0) (nI n - nI 1) = nI 0 := by
  apply iw_n
  intro h
  by_cases h0 : n = 0
  · subst h0
    have h2 : (nI 0 : Int32) ≤ nI 0 - nI 1 := Int32.le_trans h.1 h.2
    exact absurd h2 (by decide)
  · rw [pk_sub (by omega)] at h
    rcases iw_in (v := x) (hi := n - 1) (by omega) with ⟨j, h1, h2⟩ | h3
    · exact hx ⟨j, by omega, h2⟩
    · exact h3 h
set_option maxHeartbeats 4000000 in
set_option maxRecDepth 100000 in
theorem k_min_l (vl : Launch) (D : va_G) (cI cM : ClassId) (A : Nat → Prop) (ad : Nat → Nat) (E : Nat → va_E) (hX : XD A 32 ad) {a b : Nat} (h : a ≤ b) (hb : b < 2 ^ 31) : MF vl yJ9_min_7cf53 wsJ9_min_7cf53 { frames := 0, cells := 0, slots := 0, locals := 0 } D cI cM A 32 ad E [.int (nI (a)), .int (nI (b))] (nI a) := by
  refine mf_of cJ9_min_7cf53 2 (.int) RJ9 (by decide +kernel) rfl rfl (Nat.le_of_ble_eq_true rfl) (rfl) ?_
  intro vp ve vs vm va vb vt vc Q C hend
  refine z_lv [(0, .int (nI (a))), (1, .int (nI (b)))] ⟨rfl, rfl, rfl, rfl, trivial⟩ ?_
  refine z_iload_n C dJ9_min_7cf53_0 rfl ?_
  refine z_iload_n C dJ9_min_7cf53_1 rfl ?_
  refine z_icmp_gtN C 9 (by omega) (by omega) dJ9_min_7cf53_2 (by decide) (fun h2 => (by exfalso; omega)) (fun h2 => ?_)
  refine z_iload_n C dJ9_min_7cf53_5 rfl ?_
  refine z_goto C 10 dJ9_min_7cf53_6 (by decide) ?_
  exact hend _ _ _ dJ9_min_7cf53_10 (rfl)

set_option maxRecDepth 20000 in
theorem ggX2_last_J9_min_7cf53 : GoodIn wsX2_last wsJ9_min_7cf53 := goodIn_r _ [6] (by decide +kernel) (by decide +kernel)
set_option maxRecDepth 20000 in
theorem gX2_last_J9_min_7cf53 : GoodIn wsX2_last (va_wsS RX2 30 yJ9_min_7cf53 wsJ9_min_7cf53) := goodIn_app (goodIn_of _ (by decide +kernel)) ggX2_last_J9_min_7cf53
theorem iw_X2_last_2 : ∀ w ∈ wsX20, w ∈ wsX2_last := by decide +kernel
theorem ln_X2_last_26 : Cond.fieldLink RX2 26 "MarqueeDisplay$MessageList" "count" "I" ∈ wsX2_last := by decide +kernel
theorem ln_X2_last_11 : Cond.fieldLink RX2 11 "MarqueeDisplay$MessageList" "slots" "[LMarqueeDisplay$Message;" ∈ wsX2_last := by decide +kernel
set_option maxHeartbeats 4000000 in
set_option maxRecDepth 100000 in
theorem k_X2_last (vl : Launch) (D : va_G) (cI cM : ClassId) (A : Nat → Prop) (ad : Nat → Nat) (E : Nat → va_E) (hX : XD A 32 ad) {n : Nat} {pm : Nat → Nat} (l6 : E (6) = .inr (2, [.ref (ad 7), .int (nI (n))])) (l7 : E (7) = .inl (cM, 6, .inr (.inr (.inr (.inr (sf ad pm)))))) (hn : n ≤ 6) : MF vl yX2_last wsX2_last { frames := 1, cells := 0, slots := 0, locals := 21 } D cI cM A 32 ad E [.ref (ad 6)] (nI n - nI 1) := by
  refine mf_of cX2_last 1 (.int) RX2 (by decide) rfl rfl (Nat.le_of_ble_eq_true rfl) (rfl) ?_
  intro vp ve vs vm va vb vt vc Q C hend
  refine z_lv [(0, .ref (ad 6))] ⟨rfl, rfl, trivial⟩ ?_
  refine z_aload_n C dX2_last_0 rfl ?_
  refine z_get C (6) (Cn := RX2) (T := TX2) (N := 2) (fi := 1) iw_X2_last_2 rfl (by decide) ln_X2_last_26 (by first | decide | omega) rfl l6 rfl dX2_last_1 ?_
  refine z_aload_n C dX2_last_4 rfl ?_
  refine z_get C (6) (Cn := RX2) (T := TX2) (N := 2) (fi := 0) iw_X2_last_2 rfl (by decide) ln_X2_last_11 (by first | decide | omega) rfl l6 rfl dX2_last_5 ?_
  refine z_alenq C (7) (by first | decide | omega) rfl l7 dX2_last_8 ?_
  refine z_callSF C (k_min_l vl D cI cM A ad E hX hn (by decide)) (va_cwS 2 C.2.2.2.2.1 gX2_last_J9_min_7cf53 rfl rfl rfl (by decide +kernel) ⟨Nat.le_of_ble_eq_true rfl, Nat.le_of_ble_eq_true rfl⟩) rfl rfl (Nat.le_of_ble_eq_true rfl) ⟨Nat.zero_le _, Nat.zero_le _⟩ dX2_last_9 ?_
  refine z_iconst C (nI (1)) dX2_last_12 (by decide) ?_
  refine z_isub C dX2_last_13  ?_
  exact hend _ _ _ dX2_last_14 (rfl)

theorem iw_X2_find_2 : ∀ w ∈ wsX20, w ∈ wsX2_find := by decide +kernel
theorem ln_X2_find_11 : Cond.fieldLink RX2 11 "MarqueeDisplay$MessageList" "slots" "[LMarqueeDisplay$Message;" ∈ wsX2_find := by decide +kernel
set_option maxHeartbeats 4000000 in
set_option maxRecDepth 100000 in
theorem k_X2_find_y (vl : Launch) (D : va_G) (cI cM : ClassId) (A : Nat → Prop) (ad : Nat → Nat) (E : Nat → va_E) (hX : XD A 32 ad) {n i : Nat} {pm : Nat → Nat} (l6 : E (6) = .inr (2, [.ref (ad 7), .int (nI (n))])) (l7 : E (7) = .inl (cM, 6, .inr (.inr (.inr (.inr (sf ad pm)))))) (hi : i < n) (hn : n ≤ 6) : MQ0 vl yX2_find wsX2_find { frames := 2, cells := 0, slots := 0, locals := 41 } D cI cM A 32 ad E [.ref (ad 6), .int (nI (i))] (some (ad (8 + 3 * (pm i)))) := by
  refine mq_of cX2_find 2 (.object "MarqueeDisplay$Message") RX2 (by decide) rfl rfl ⟨_, rfl⟩ (Nat.le_of_ble_eq_true rfl) ?_
  intro vp ve vs vm va vb vt vc Q C hend
  refine z_lv [(0, .ref (ad 6)), (1, .int (nI (i)))] ⟨rfl, rfl, rfl, rfl, trivial⟩ ?_
  refine z_iload_n C dX2_find_0 rfl ?_
  refine z_iconst C (nI (0)) dX2_find_1 (by decide) ?_
  refine z_aload_n C dX2_find_2 rfl ?_
  refine z_callVF C (6) (Cn := RX2) (T := TX2) (N := 2) (k_X2_last vl D cI cM A ad E hX l6 l7 hn) (cwV 0 C.2.2.2.2.1 gX2_find_X2_last rfl rfl rfl (by decide +kernel) ⟨Nat.le_of_ble_eq_true rfl, Nat.le_of_ble_eq_true rfl⟩) rfl (by first | decide | omega) rfl l6 rfl rfl (Nat.le_of_ble_eq_true rfl) ⟨Nat.zero_le _, Nat.zero_le _⟩ dX2_find_3 ?_
  refine z_callSNF C (host := "MarqueeDisplay") (k_X5_isWithin vl D cI cM A ad E hX (nI (i)) (nI (0)) (nI n - nI 1)) ⟨va_cnB (host := "MarqueeDisplay") 3 C.2.2.2.2.1 gX2_find_X5_isWithin_n22 rfl rfl rfl (C.2.2.2.2.2.2.1 _ (by decide +kernel)) (C.2.2.2.2.1 _ (by decide +kernel)) (by decide +kernel) ⟨Nat.le_of_ble_eq_true rfl, Nat.le_of_ble_eq_true rfl⟩, C.2.2.2.2.1 _ (by decide +kernel), trivial⟩ rfl rfl (Nat.le_of_ble_eq_true rfl) ⟨Nat.zero_le _, Nat.zero_le _⟩ dX2_find_6 ?_
  refine z_top (nI (1)) (im_y hi (by omega)) ?_
  refine z_if_eqN C 21 (by omega) dX2_find_9 (by decide) (fun h9 => (by exfalso; omega)) (fun h9 => ?_)
  refine z_aload_n C dX2_find_12 rfl ?_
  refine z_get C (6) (Cn := RX2) (T := TX2) (N := 2) (fi := 0) iw_X2_find_2 rfl (by decide) ln_X2_find_11 (by first | decide | omega) rfl l6 rfl dX2_find_13 ?_
  refine z_iload_n C dX2_find_16 rfl ?_
  refine z_aldq C (7) (some (ad (8 + 3 * (pm i)))) (by first | decide | omega) rfl l7 (by omega) (by decide) (rfl) dX2_find_17 ?_
  refine z_goto C 22 dX2_find_18 (by decide) ?_
  exact hend _ _ (some (ad (8 + 3 * (pm i)))) dX2_find_22 (rfl)

set_option maxHeartbeats 4000000 in
set_option maxRecDepth 100000 in
theorem k_X2_find_n (vl : Launch) (D : va_G) (cI cM : ClassId) (A : Nat → Prop) (ad : Nat → Nat) (E : Nat → va_E) (hX : XD A 32 ad) {n : Nat} {pm : Nat → Nat} {x : Int32} (l6 : E (6) = .inr (2, [.ref (ad 7), .int (nI (n))])) (l7 : E (7) = .inl (cM, 6, .inr (.inr (.inr (.inr (sf ad pm)))))) (hx : ¬ ∃ j : Nat, j < n ∧ x = nI j) (hn : n ≤ 6) : MQ0 vl yX2_find wsX2_find { frames := 2, cells := 0, slots := 0, locals := 41 } D cI cM A 32 ad E [.ref (ad 6), .int (x)] (none) := by
  refine mq_of cX2_find 2 (.object "MarqueeDisplay$Message") RX2 (by decide) rfl rfl ⟨_, rfl⟩ (Nat.le_of_ble_eq_true rfl) ?_
  intro vp ve vs vm va vb vt vc Q C hend
  refine z_lv [(0, .ref (ad 6)), (1, .int (x))] ⟨rfl, rfl, rfl, rfl, trivial⟩ ?_
  refine z_iload_n C dX2_find_0 rfl ?_
  refine z_iconst C (nI (0)) dX2_find_1 (by decide) ?_
  refine z_aload_n C dX2_find_2 rfl ?_
  refine z_callVF C (6) (Cn := RX2) (T := TX2) (N := 2) (k_X2_last vl D cI cM A ad E hX l6 l7 hn) (cwV 0 C.2.2.2.2.1 gX2_find_X2_last rfl rfl rfl (by decide +kernel) ⟨Nat.le_of_ble_eq_true rfl, Nat.le_of_ble_eq_true rfl⟩) rfl (by first | decide | omega) rfl l6 rfl rfl (Nat.le_of_ble_eq_true rfl) ⟨Nat.zero_le _, Nat.zero_le _⟩ dX2_find_3 ?_
  refine z_callSNF C (host := "MarqueeDisplay") (k_X5_isWithin vl D cI cM A ad E hX (x) (nI (0)) (nI n - nI 1)) ⟨va_cnB (host := "MarqueeDisplay") 3 C.2.2.2.2.1 gX2_find_X5_isWithin_n22 rfl rfl rfl (C.2.2.2.2.2.2.1 _ (by decide +kernel)) (C.2.2.2.2.1 _ (by decide +kernel)) (by decide +kernel) ⟨Nat.le_of_ble_eq_true rfl, Nat.le_of_ble_eq_true rfl⟩, C.2.2.2.2.1 _ (by decide +kernel), trivial⟩ rfl rfl (Nat.le_of_ble_eq_true rfl) ⟨Nat.zero_le _, Nat.zero_le _⟩ dX2_find_6 ?_
  refine z_top (nI (0)) (im_n (by omega) hx) ?_
  refine z_if_eqN C 21 (by omega) dX2_find_9 (by decide) (fun h9 => ?_) (fun h9 => (by exfalso; omega))
  refine z_null C dX2_find_21 ?_
  exact hend _ _ (none) dX2_find_22 (rfl)

