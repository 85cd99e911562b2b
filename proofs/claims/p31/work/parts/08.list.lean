def shu (pm : Nat → Nat) (i n : Nat) : Nat → Nat := fun k => if i < k ∧ k ≤ n then pm (k - 1) else pm k
theorem shu_0 (pm : Nat → Nat) (n : Nat) : shu pm n n = pm := by funext k; show (if n < k ∧ k ≤ n then pm (k - 1) else pm k) = pm k; rw [if_neg (by omega)]
theorem shu_s {pm : Nat → Nat} {i n : Nat} (h0 : 0 < i) (hn : i ≤ n) : va_up (shu pm i n) i (shu pm i n (i - 1)) = shu pm (i - 1) n := by
  funext k
  have e1 : shu pm i n (i - 1) = pm (i - 1) := by show (if i < i - 1 ∧ i - 1 ≤ n then pm (i - 1 - 1) else pm (i - 1)) = pm (i - 1); rw [if_neg (by omega)]
  rw [e1]
  by_cases hk : k = i
  · subst hk
    rw [va_up_self]
    show pm (k - 1) = if k - 1 < k ∧ k ≤ n then pm (k - 1) else pm k
    rw [if_pos (by omega)]
  · rw [va_up_ne _ _ hk]
    show (if i < k ∧ k ≤ n then pm (k - 1) else pm k) = if i - 1 < k ∧ k ≤ n then pm (k - 1) else pm k
    by_cases h : i < k ∧ k ≤ n
    · rw [if_pos h, if_pos (by omega)]
    · rw [if_neg h, if_neg (by omega)]
theorem shu_lt {pm : Nat → Nat} (hpm : PM pm) {i n k : Nat} (hk : k < 6) : shu pm i n k < 6 := by
  show (if i < k ∧ k ≤ n then pm (k - 1) else pm k) < 6
  by_cases h : i < k ∧ k ≤ n
  · rw [if_pos h]; exact hpm.1 _ (by omega)
  · rw [if_neg h]; exact hpm.1 _ hk
theorem iw_X2_insert_2 : ∀ w ∈ wsX20, w ∈ wsX2_insert := by decide +kernel
theorem ln_X2_insert_26 : Cond.fieldLink RX2 26 "MarqueeDisplay$MessageList" "count" "I" ∈ wsX2_insert := by decide +kernel
theorem ln_X2_insert_11 : Cond.fieldLink RX2 11 "MarqueeDisplay$MessageList" "slots" "[LMarqueeDisplay$Message;" ∈ wsX2_insert := by decide +kernel
theorem iw_X2_insert_1 : ∀ w ∈ wsX10, w ∈ wsX2_insert := by decide +kernel
theorem nl_X2_36 : Cond.fieldLinkNest RX2 36 "MarqueeDisplay$Message" "text" "LMarqueeDisplay$Text;" "MarqueeDisplay" ∈ nwL := by decide +kernel
theorem nl_X2_46 : Cond.fieldLinkNest RX2 46 "MarqueeDisplay$Message" "color" "I" "MarqueeDisplay" ∈ nwL := by decide +kernel
set_option maxHeartbeats 4000000 in
set_option maxRecDepth 100000 in
theorem k_X2_insert (vl : Launch) (D : va_G) (cI cM : ClassId) (A : Nat → Prop) (ad : Nat → Nat) (E : Nat → va_E) (hX : XD A 32 ad) {n tl j col : Nat} {pm tx g0 : Nat → Nat} {co0 st0 wi0 sz0 : Int32} (l6 : E (6) = .inr (2, [.ref (ad 7), .int (nI (n))])) (l7 : E (7) = .inl (cM, 6, .inr (.inr (.inr (.inr (sf ad pm)))))) (b4 : E (4) = .inr (4, [.ref (ad 5), .int (nI (tl))])) (b5 : E (5) = aI cI 12 tx) (m8 : E (8 + 3 * (pm n)) = .inr (1, [.ref (ad (9 + 3 * (pm n))), .int (co0), .int (st0), .int (wi0)])) (m9 : E (9 + 3 * (pm n)) = .inr (4, [.ref (ad (10 + 3 * (pm n))), .int (sz0)])) (m10 : E (10 + 3 * (pm n)) = aI cI 12 g0) (hn : n < 6) (hj : j ≤ n) (hpm : PM pm) (hob : ∀ q : Nat, q < 6 → ∃ vs : List Value, E (8 + 3 * q) = .inr (1, vs)) : MV vl yX2_insert wsX2_insert { frames := 3, cells := 0, slots := 0, locals := 65 } D cI cM A 32 ad E [.ref (ad 6), .int (nI (j)), .ref (ad 4), .int (nI (col))] (fun E1 => E1 6 = .inr (2, [.ref (ad 7), .int (nI (n + 1))]) ∧ E1 7 = .inl (cM, 6, .inr (.inr (.inr (.inr (sf ad (va_up (shu pm j n) j (pm n))))))) ∧ (∃ g2 : Nat → Nat, Msg cI ad E1 (pm n) (nI tl) (nI col) st0 wi0 g2 ∧ ∀ k : Nat, k < 12 → g2 k = tx k) ∧ ∀ k : Nat, (k ≠ 6 ∧ k ≠ 7 ∧ k ≠ 8 + 3 * pm n ∧ k ≠ 9 + 3 * pm n ∧ k ≠ 10 + 3 * pm n) → E1 k = E k) := by
  refine mv_of cX2_insert 6 RX2 (by decide) rfl rfl (Nat.le_of_ble_eq_true rfl) ?_
  intro vp ve vs vm va vb vt vc Q C hend
  refine z_lv [(0, .ref (ad 6)), (1, .int (nI (j))), (2, .ref (ad 4)), (3, .int (nI (col)))] ⟨rfl, rfl, rfl, rfl, rfl, rfl, rfl, rfl, trivial⟩ ?_
  have hpn := hpm.1 n hn
  refine z_aload_n C dX2_insert_0 rfl ?_
  refine z_get C (6) (Cn := RX2) (T := TX2) (N := 2) (fi := 1) iw_X2_insert_2 rfl (by decide) ln_X2_insert_26 (by first | decide | omega) rfl l6 rfl dX2_insert_1 ?_
  refine z_aload_n C dX2_insert_4 rfl ?_
  refine z_get C (6) (Cn := RX2) (T := TX2) (N := 2) (fi := 0) iw_X2_insert_2 rfl (by decide) ln_X2_insert_11 (by first | decide | omega) rfl l6 rfl dX2_insert_5 ?_
  refine z_alenq C (7) (by first | decide | omega) rfl l7 dX2_insert_8 ?_
  refine z_icmp_geN C 36 (by omega) (by omega) dX2_insert_9 (by decide) (fun h9 => (by exfalso; omega)) (fun h9 => ?_)
  refine z_iload_n C dX2_insert_12 rfl ?_
  refine z_iconst C (nI (0)) dX2_insert_13 (by decide) ?_
  refine z_aload_n C dX2_insert_14 rfl ?_
  refine z_get C (6) (Cn := RX2) (T := TX2) (N := 2) (fi := 1) iw_X2_insert_2 rfl (by decide) ln_X2_insert_26 (by first | decide | omega) rfl l6 rfl dX2_insert_15 ?_
  refine z_callSNF C (host := "MarqueeDisplay") (k_X5_isWithin vl D cI cM A ad E hX (nI (j)) (nI (0)) (nI (n))) ⟨va_cnB (host := "MarqueeDisplay") 3 C.2.2.2.2.1 gX2_insert_X5_isWithin_n22 rfl rfl rfl (C.2.2.2.2.2.2.1 _ (by decide +kernel)) (C.2.2.2.2.1 _ (by decide +kernel)) (by decide +kernel) ⟨Nat.le_of_ble_eq_true rfl, Nat.le_of_ble_eq_true rfl⟩, C.2.2.2.2.1 _ (by decide +kernel), trivial⟩ rfl rfl (Nat.le_of_ble_eq_true rfl) ⟨Nat.zero_le _, Nat.zero_le _⟩ dX2_insert_18 ?_
  refine z_top (nI (1)) (iw_yN ⟨Nat.zero_le _, by omega⟩ (by omega)) ?_
  refine z_if_eqN C 36 (by omega) dX2_insert_21 (by decide) (fun h21 => (by exfalso; omega)) (fun h21 => ?_)
  refine z_aload_n C dX2_insert_24 rfl ?_
  refine z_get C (6) (Cn := RX2) (T := TX2) (N := 2) (fi := 0) iw_X2_insert_2 rfl (by decide) ln_X2_insert_11 (by first | decide | omega) rfl l6 rfl dX2_insert_25 ?_
  refine z_aload_n C dX2_insert_28 rfl ?_
  refine z_get C (6) (Cn := RX2) (T := TX2) (N := 2) (fi := 1) iw_X2_insert_2 rfl (by decide) ln_X2_insert_26 (by first | decide | omega) rfl l6 rfl dX2_insert_29 ?_
  refine z_aldq C (7) (some (ad (8 + 3 * (pm n)))) (by first | decide | omega) rfl l7 (by omega) (by decide) (rfl) dX2_insert_32 ?_
  refine z_ifnonnull C 37 dX2_insert_33 (by decide) ?_
  refine z_aload_n C dX2_insert_37 rfl ?_
  refine z_get C (6) (Cn := RX2) (T := TX2) (N := 2) (fi := 0) iw_X2_insert_2 rfl (by decide) ln_X2_insert_11 (by first | decide | omega) rfl l6 rfl dX2_insert_38 ?_
  refine z_aload_n C dX2_insert_41 rfl ?_
  refine z_get C (6) (Cn := RX2) (T := TX2) (N := 2) (fi := 1) iw_X2_insert_2 rfl (by decide) ln_X2_insert_26 (by first | decide | omega) rfl l6 rfl dX2_insert_42 ?_
  refine z_aldq C (7) (some (ad (8 + 3 * (pm n)))) (by first | decide | omega) rfl l7 (by omega) (by decide) (rfl) dX2_insert_45 ?_
  refine z_astore C [(0, .ref (ad 6)), (1, .int (nI (j))), (2, .ref (ad 4)), (3, .int (nI (col))), (4, .ref (ad (8 + 3 * (pm n))))] dX2_insert_46 (by decide) ⟨rfl, rfl, rfl, rfl, rfl, rfl, rfl, rfl, rfl, rfl, trivial⟩ ?_
  refine z_aload_n C dX2_insert_48 rfl ?_
  refine z_get C (6) (Cn := RX2) (T := TX2) (N := 2) (fi := 1) iw_X2_insert_2 rfl (by decide) ln_X2_insert_26 (by first | decide | omega) rfl l6 rfl dX2_insert_49 ?_
  refine z_istore C [(0, .ref (ad 6)), (1, .int (nI (j))), (2, .ref (ad 4)), (3, .int (nI (col))), (4, .ref (ad (8 + 3 * (pm n)))), (5, .int (nI (n)))] dX2_insert_52 (by decide) ⟨rfl, rfl, rfl, rfl, rfl, rfl, rfl, rfl, rfl, rfl, rfl, rfl, trivial⟩ ?_
  have loop54 : ∀ (fuel : Nat) (i : Nat) (E2 : Nat → va_E), (hi : j ≤ i ∧ i ≤ n) → (q6 : E2 (6) = .inr (2, [.ref (ad 7), .int (nI (n))])) → (q7 : E2 (7) = .inl (cM, 6, .inr (.inr (.inr (.inr (sf ad (shu pm i n))))))) → (q4 : E2 (4) = .inr (4, [.ref (ad 5), .int (nI (tl))])) → (q5 : E2 (5) = aI cI 12 tx) → (q8 : E2 (8 + 3 * (pm n)) = .inr (1, [.ref (ad (9 + 3 * (pm n))), .int (co0), .int (st0), .int (wi0)])) → (q9 : E2 (9 + 3 * (pm n)) = .inr (4, [.ref (ad (10 + 3 * (pm n))), .int (sz0)])) → (q10 : E2 (10 + 3 * (pm n)) = aI cI 12 g0) → (qo : ∀ q : Nat, q < 6 → ∃ vs : List Value, E2 (8 + 3 * q) = .inr (1, vs)) → (qf : ∀ k : Nat, (k ≠ 6 ∧ k ≠ 7 ∧ k ≠ 8 + 3 * pm n ∧ k ≠ 9 + 3 * pm n ∧ k ≠ 10 + 3 * pm n) → E2 k = E k) → i - j < fuel → Z vp vl ve { frames := 3, cells := 0, slots := 0, locals := 65 } vs vm va vb vt vc 6 D A 32 ad E2 [(0, .ref (ad 6)), (1, .int (nI (j))), (2, .ref (ad 4)), (3, .int (nI (col))), (4, .ref (ad (8 + 3 * (pm n)))), (5, .int (nI (i)))] 0 0 Q 54 [] := by
    intro fuel
    induction fuel with
    | zero => intro i E2 hi q6 q7 q4 q5 q8 q9 q10 qo qf hlt; exact absurd hlt (Nat.not_lt_zero _)
    | succ fuel ih =>
      intro i E2 hi q6 q7 q4 q5 q8 q9 q10 qo qf hlt
      have ih54 := ih
      refine z_iload C dX2_insert_54 rfl ?_
      refine z_iload_n C dX2_insert_56 rfl ?_
      refine z_icmp_leN C 82 (by omega) (by omega) dX2_insert_57 (by decide) (fun h57 => ?_) (fun h57 => ?_)
      · have hie : i = j := by omega
        refine z_aload_n C dX2_insert_82 rfl ?_
        refine z_get C (6) (Cn := RX2) (T := TX2) (N := 2) (fi := 0) iw_X2_insert_2 rfl (by decide) ln_X2_insert_11 (by first | decide | omega) rfl q6 rfl dX2_insert_83 ?_
        refine z_iload_n C dX2_insert_86 rfl ?_
        refine z_aload C dX2_insert_87 rfl ?_
        refine z_astqG C (7) (x := (pm n)) (pm := (shu pm i n)) hX (by first | decide | omega) rfl q7 (by first | decide | omega) q8 (by omega) (by decide) dX2_insert_89 (fun Ez2 hE1 => ?_)
        have f3 : Ez2 (6) = .inr (2, [.ref (ad 7), .int (nI (n))]) := va_up_of hE1 (by first | decide | omega) q6
        have f5 : Ez2 (4) = .inr (4, [.ref (ad 5), .int (nI (tl))]) := va_up_of hE1 (by first | decide | omega) q4
        have f6 : Ez2 (5) = aI cI 12 tx := va_up_of hE1 (by first | decide | omega) q5
        have f7 : Ez2 (8 + 3 * (pm n)) = .inr (1, [.ref (ad (9 + 3 * (pm n))), .int (co0), .int (st0), .int (wi0)]) := va_up_of hE1 (by first | decide | omega) q8
        have f8 : Ez2 (9 + 3 * (pm n)) = .inr (4, [.ref (ad (10 + 3 * (pm n))), .int (sz0)]) := va_up_of hE1 (by first | decide | omega) q9
        have f9 : Ez2 (10 + 3 * (pm n)) = aI cI 12 g0 := va_up_of hE1 (by first | decide | omega) q10
        have f10 : Ez2 (7) = .inl (cM, 6, .inr (.inr (.inr (.inr (sf ad (va_up (shu pm i n) (j) (pm n))))))) := va_up_eq hE1
        have g11 : ∀ k : Nat, (k ≠ 6 ∧ k ≠ 7 ∧ k ≠ 8 + 3 * pm n ∧ k ≠ 9 + 3 * pm n ∧ k ≠ 10 + 3 * pm n) → Ez2 k = E k := fun k hk => va_up_of hE1 (by omega) (qf k hk)
        refine z_aload_n C dX2_insert_90 rfl ?_
        refine z_dup C dX2_insert_91 rfl ?_
        refine z_get C (6) (Cn := RX2) (T := TX2) (N := 2) (fi := 1) iw_X2_insert_2 rfl (by decide) ln_X2_insert_26 (by first | decide | omega) rfl f3 rfl dX2_insert_92 ?_
        refine z_iconst C (nI (1)) dX2_insert_95 (by decide) ?_
        refine z_iaddN C  dX2_insert_96 ?_
        refine z_put C (6) (Cn := RX2) (T := TX2) (N := 2) (fi := 1) tyX2 iw_X2_insert_2 tyX2_ok nmX2 rfl (by decide) ln_X2_insert_26 hX (by first | decide | omega) rfl f3 rfl rfl rfl rfl (Nat.le_of_ble_eq_true rfl) dX2_insert_97 (fun Ez13 hE12 => ?_)
        have f15 : Ez13 (4) = .inr (4, [.ref (ad 5), .int (nI (tl))]) := va_up_of hE12 (by first | decide | omega) f5
        have f16 : Ez13 (5) = aI cI 12 tx := va_up_of hE12 (by first | decide | omega) f6
        have f17 : Ez13 (8 + 3 * (pm n)) = .inr (1, [.ref (ad (9 + 3 * (pm n))), .int (co0), .int (st0), .int (wi0)]) := va_up_of hE12 (by first | decide | omega) f7
        have f18 : Ez13 (9 + 3 * (pm n)) = .inr (4, [.ref (ad (10 + 3 * (pm n))), .int (sz0)]) := va_up_of hE12 (by first | decide | omega) f8
        have f19 : Ez13 (10 + 3 * (pm n)) = aI cI 12 g0 := va_up_of hE12 (by first | decide | omega) f9
        have f20 : Ez13 (7) = .inl (cM, 6, .inr (.inr (.inr (.inr (sf ad (va_up (shu pm i n) (j) (pm n))))))) := va_up_of hE12 (by first | decide | omega) f10
        have f21 : Ez13 (6) = .inr (2, [.ref (ad 7), .int (nI (n + 1))]) := va_up_eq hE12
        have g22 : ∀ k : Nat, (k ≠ 6 ∧ k ≠ 7 ∧ k ≠ 8 + 3 * pm n ∧ k ≠ 9 + 3 * pm n ∧ k ≠ 10 + 3 * pm n) → Ez13 k = E k := fun k hk => va_up_of hE12 (by omega) (g11 k hk)
        refine z_aload C dX2_insert_100 rfl ?_
        refine z_getN C (8 + 3 * (pm n)) (Cn := RX1) (T := TX1) (N := 4) (fi := 0) iw_X2_insert_1 rfl (by decide) nl_X2_36 (by first | decide | omega) rfl f17 rfl dX2_insert_102 ?_
        refine z_aload_n C dX2_insert_105 rfl ?_
        refine z_callVV C (9 + 3 * (pm n)) (Cn := RX4) (T := TX4) (N := 2) (k_X4_copyFrom vl D cI cM A ad Ez13 hX hpn f15 f16 f18 f19) (cwV 1 C.2.2.2.2.1 gX2_insert_X4_copyFrom rfl rfl rfl (by decide +kernel) ⟨Nat.le_of_ble_eq_true rfl, Nat.le_of_ble_eq_true rfl⟩) rfl (by first | decide | omega) rfl f18 rfl rfl (Nat.le_of_ble_eq_true rfl) ⟨Nat.zero_le _, Nat.zero_le _⟩ dX2_insert_106 (fun Ez23 hp24 => ?_)
        obtain ⟨hc9, ⟨g2, hc10, hg2⟩, hgc⟩ := hp24
        have f25 : Ez23 (4) = .inr (4, [.ref (ad 5), .int (nI (tl))]) := (hgc (4) (by omega)).trans f15
        have f26 : Ez23 (5) = aI cI 12 tx := (hgc (5) (by omega)).trans f16
        have f27 : Ez23 (8 + 3 * (pm n)) = .inr (1, [.ref (ad (9 + 3 * (pm n))), .int (co0), .int (st0), .int (wi0)]) := (hgc (8 + 3 * (pm n)) (by omega)).trans f17
        have f28 : Ez23 (7) = .inl (cM, 6, .inr (.inr (.inr (.inr (sf ad (va_up (shu pm i n) (j) (pm n))))))) := (hgc (7) (by omega)).trans f20
        have f29 : Ez23 (6) = .inr (2, [.ref (ad 7), .int (nI (n + 1))]) := (hgc (6) (by omega)).trans f21
        have g30 : ∀ k : Nat, (k ≠ 6 ∧ k ≠ 7 ∧ k ≠ 8 + 3 * pm n ∧ k ≠ 9 + 3 * pm n ∧ k ≠ 10 + 3 * pm n) → Ez23 k = E k := fun k hk => (hgc k (by omega)).trans (g22 k hk)
        refine z_aload C dX2_insert_109 rfl ?_
        refine z_iload_n C dX2_insert_111 rfl ?_
        refine z_putN C (8 + 3 * (pm n)) (Cn := RX1) (T := TX1) (N := 4) (fi := 1) tyX1 iw_X2_insert_1 tyX1_ok nmX1 rfl (by decide) nl_X2_46 hX (by first | decide | omega) rfl f27 rfl rfl rfl rfl (Nat.le_of_ble_eq_true rfl) dX2_insert_112 (fun Ez32 hE31 => ?_)
        have f33 : Ez32 (4) = .inr (4, [.ref (ad 5), .int (nI (tl))]) := va_up_of hE31 (by first | decide | omega) f25
        have f34 : Ez32 (5) = aI cI 12 tx := va_up_of hE31 (by first | decide | omega) f26
        have f36 : Ez32 (7) = .inl (cM, 6, .inr (.inr (.inr (.inr (sf ad (va_up (shu pm i n) (j) (pm n))))))) := va_up_of hE31 (by first | decide | omega) f28
        have f37 : Ez32 (6) = .inr (2, [.ref (ad 7), .int (nI (n + 1))]) := va_up_of hE31 (by first | decide | omega) f29
        have f38 : Ez32 (9 + 3 * (pm n)) = .inr (4, [.ref (ad (10 + 3 * (pm n))), .int (nI (tl))]) := va_up_of hE31 (by first | decide | omega) hc9
        have f39 : Ez32 (10 + 3 * (pm n)) = aI cI 12 g2 := va_up_of hE31 (by first | decide | omega) hc10
        have f40 : Ez32 (8 + 3 * (pm n)) = .inr (1, [.ref (ad (9 + 3 * (pm n))), .int (nI (col)), .int (st0), .int (wi0)]) := va_up_eq hE31
        have g41 : ∀ k : Nat, (k ≠ 6 ∧ k ≠ 7 ∧ k ≠ 8 + 3 * pm n ∧ k ≠ 9 + 3 * pm n ∧ k ≠ 10 + 3 * pm n) → Ez32 k = E k := fun k hk => va_up_of hE31 (by omega) (g30 k hk)
        exact hend _ _ _ dX2_insert_115 (⟨f37, (by rw [hie] at *; exact f36), ⟨g2, ⟨f40, f38, f39⟩, hg2⟩, g41⟩)
      · have hx6 := shu_lt hpm (i := i) (n := n) (k := i - 1) (by omega)
        obtain ⟨vs9, hvs9⟩ := qo _ hx6
        refine z_aload_n C dX2_insert_60 rfl ?_
        refine z_get C (6) (Cn := RX2) (T := TX2) (N := 2) (fi := 0) iw_X2_insert_2 rfl (by decide) ln_X2_insert_11 (by first | decide | omega) rfl q6 rfl dX2_insert_61 ?_
        refine z_iload C dX2_insert_64 rfl ?_
        refine z_aload_n C dX2_insert_66 rfl ?_
        refine z_get C (6) (Cn := RX2) (T := TX2) (N := 2) (fi := 0) iw_X2_insert_2 rfl (by decide) ln_X2_insert_11 (by first | decide | omega) rfl q6 rfl dX2_insert_67 ?_
        refine z_iload C dX2_insert_70 rfl ?_
        refine z_iconst C (nI (1)) dX2_insert_72 (by decide) ?_
        refine z_isubN C (by omega) dX2_insert_73 ?_
        refine z_aldq C (7) (some (ad (8 + 3 * (shu pm i n (i - 1))))) (by first | decide | omega) rfl q7 (by omega) (by decide) (rfl) dX2_insert_74 ?_
        refine z_astqG C (7) (x := (shu pm i n (i - 1))) (pm := (shu pm i n)) hX (by first | decide | omega) rfl q7 (by first | decide | omega) hvs9 (by omega) (by decide) dX2_insert_75 (fun Ez43 hE42 => ?_)
        have f44 : Ez43 (6) = .inr (2, [.ref (ad 7), .int (nI (n))]) := va_up_of hE42 (by first | decide | omega) q6
        have f46 : Ez43 (4) = .inr (4, [.ref (ad 5), .int (nI (tl))]) := va_up_of hE42 (by first | decide | omega) q4
        have f47 : Ez43 (5) = aI cI 12 tx := va_up_of hE42 (by first | decide | omega) q5
        have f48 : Ez43 (8 + 3 * (pm n)) = .inr (1, [.ref (ad (9 + 3 * (pm n))), .int (co0), .int (st0), .int (wi0)]) := va_up_of hE42 (by first | decide | omega) q8
        have f49 : Ez43 (9 + 3 * (pm n)) = .inr (4, [.ref (ad (10 + 3 * (pm n))), .int (sz0)]) := va_up_of hE42 (by first | decide | omega) q9
        have f50 : Ez43 (10 + 3 * (pm n)) = aI cI 12 g0 := va_up_of hE42 (by first | decide | omega) q10
        have f51 : Ez43 (7) = .inl (cM, 6, .inr (.inr (.inr (.inr (sf ad (va_up (shu pm i n) (i) (shu pm i n (i - 1)))))))) := va_up_eq hE42
        have g52 : ∀ k : Nat, (k ≠ 6 ∧ k ≠ 7 ∧ k ≠ 8 + 3 * pm n ∧ k ≠ 9 + 3 * pm n ∧ k ≠ 10 + 3 * pm n) → Ez43 k = E k := fun k hk => va_up_of hE42 (by omega) (qf k hk)
        refine z_iinc C [(0, .ref (ad 6)), (1, .int (nI (j))), (2, .ref (ad 4)), (3, .int (nI (col))), (4, .ref (ad (8 + 3 * (pm n)))), (5, .int (nI (i - 1)))] dX2_insert_76 rfl (nI_dec (by omega)) (by decide) ⟨rfl, rfl, rfl, rfl, rfl, rfl, rfl, rfl, rfl, rfl, rfl, rfl, trivial⟩ ?_
        refine z_goto C 54 dX2_insert_79 (by decide) ?_
        refine z_lv [(0, .ref (ad 6)), (1, .int (nI (j))), (2, .ref (ad 4)), (3, .int (nI (col))), (4, .ref (ad (8 + 3 * (pm n)))), (5, .int (nI (i - 1)))] ⟨rfl, rfl, rfl, rfl, rfl, rfl, rfl, rfl, rfl, rfl, rfl, rfl, trivial⟩ ?_
        exact ih54 (i - 1) Ez43 (by omega) f44 (by rw [f51, shu_s (by omega) (by omega)]) f46 f47 f48 f49 f50 (fun q hq => by obtain ⟨vs, hv⟩ := qo q hq; exact ⟨vs, va_up_of hE42 (by omega) hv⟩) g52 (by omega)
  refine z_lv [(0, .ref (ad 6)), (1, .int (nI (j))), (2, .ref (ad 4)), (3, .int (nI (col))), (4, .ref (ad (8 + 3 * (pm n)))), (5, .int (nI (n)))] ⟨rfl, rfl, rfl, rfl, rfl, rfl, rfl, rfl, rfl, rfl, rfl, rfl, trivial⟩ ?_
  exact loop54 (n + 1) n E ⟨hj, Nat.le_refl _⟩ l6 (by rw [shu_0]; exact l7) b4 b5 m8 m9 m10 hob (fun _ _ => rfl) (by omega)

def shd (pm : Nat → Nat) (j i : Nat) : Nat → Nat := fun k => if j ≤ k ∧ k < i then pm (k + 1) else pm k
theorem shd_0 (pm : Nat → Nat) (j : Nat) : shd pm j j = pm := by funext k; show (if j ≤ k ∧ k < j then pm (k + 1) else pm k) = pm k; rw [if_neg (by omega)]
theorem shd_s {pm : Nat → Nat} {j i : Nat} (h : j ≤ i) : va_up (shd pm j i) i (shd pm j i (i + 1)) = shd pm j (i + 1) := by
  funext k
  have e1 : shd pm j i (i + 1) = pm (i + 1) := by show (if j ≤ i + 1 ∧ i + 1 < i then pm (i + 1 + 1) else pm (i + 1)) = pm (i + 1); rw [if_neg (by omega)]
  rw [e1]
  by_cases hk : k = i
  · subst hk
    rw [va_up_self]
    show pm (k + 1) = if j ≤ k ∧ k < k + 1 then pm (k + 1) else pm k
    rw [if_pos (by omega)]
  · rw [va_up_ne _ _ hk]
    show (if j ≤ k ∧ k < i then pm (k + 1) else pm k) = if j ≤ k ∧ k < i + 1 then pm (k + 1) else pm k
    by_cases h2 : j ≤ k ∧ k < i
    · rw [if_pos h2, if_pos (by omega)]
    · rw [if_neg h2, if_neg (by omega)]
theorem shd_lt {pm : Nat → Nat} (hpm : PM pm) {j i k : Nat} (hk : k < 6) (hi : i < 6) : shd pm j i k < 6 := by
  show (if j ≤ k ∧ k < i then pm (k + 1) else pm k) < 6
  by_cases h : j ≤ k ∧ k < i
  · rw [if_pos h]; exact hpm.1 _ (by omega)
  · rw [if_neg h]; exact hpm.1 _ hk
theorem iw_X2_remove_2 : ∀ w ∈ wsX20, w ∈ wsX2_remove := by decide +kernel
theorem ln_X2_remove_11 : Cond.fieldLink RX2 11 "MarqueeDisplay$MessageList" "slots" "[LMarqueeDisplay$Message;" ∈ wsX2_remove := by decide +kernel
theorem ln_X2_remove_26 : Cond.fieldLink RX2 26 "MarqueeDisplay$MessageList" "count" "I" ∈ wsX2_remove := by decide +kernel
set_option maxHeartbeats 4000000 in
set_option maxRecDepth 100000 in
theorem k_X2_remove (vl : Launch) (D : va_G) (cI cM : ClassId) (A : Nat → Prop) (ad : Nat → Nat) (E : Nat → va_E) (hX : XD A 32 ad) {n j : Nat} {pm : Nat → Nat} (l6 : E (6) = .inr (2, [.ref (ad 7), .int (nI (n))])) (l7 : E (7) = .inl (cM, 6, .inr (.inr (.inr (.inr (sf ad pm)))))) (hn : n ≤ 6) (hj : j < n) (hpm : PM pm) (hob : ∀ q : Nat, q < 6 → ∃ vs : List Value, E (8 + 3 * q) = .inr (1, vs)) : MV vl yX2_remove wsX2_remove { frames := 3, cells := 0, slots := 0, locals := 62 } D cI cM A 32 ad E [.ref (ad 6), .int (nI (j))] (fun E1 => E1 6 = .inr (2, [.ref (ad 7), .int (nI (n - 1))]) ∧ E1 7 = .inl (cM, 6, .inr (.inr (.inr (.inr (sf ad (va_up (shd pm j (n - 1)) (n - 1) (pm j))))))) ∧ ∀ k : Nat, (k ≠ 6 ∧ k ≠ 7) → E1 k = E k) := by
  refine mv_of cX2_remove 5 RX2 (by decide) rfl rfl (Nat.le_of_ble_eq_true rfl) ?_
  intro vp ve vs vm va vb vt vc Q C hend
  refine z_lv [(0, .ref (ad 6)), (1, .int (nI (j)))] ⟨rfl, rfl, rfl, rfl, trivial⟩ ?_
  have hpj := hpm.1 j (by omega)
  refine z_aload_n C dX2_remove_0 rfl ?_
  refine z_iload_n C dX2_remove_1 rfl ?_
  refine z_callVQ C (6) (Cn := RX2) (T := TX2) (N := 2) (k_X2_find_y vl D cI cM A ad E hX l6 l7 hj hn) (cwV 1 C.2.2.2.2.1 gX2_remove_X2_find rfl rfl rfl (by decide +kernel) ⟨Nat.le_of_ble_eq_true rfl, Nat.le_of_ble_eq_true rfl⟩) rfl (by first | decide | omega) rfl l6 rfl rfl (Nat.le_of_ble_eq_true rfl) ⟨Nat.zero_le _, Nat.zero_le _⟩ dX2_remove_2 ?_
  refine z_astore_n C [(0, .ref (ad 6)), (1, .int (nI (j))), (2, .ref (ad (8 + 3 * (pm j))))] dX2_remove_5 (by decide) ⟨rfl, rfl, rfl, rfl, rfl, rfl, trivial⟩ ?_
  refine z_aload_n C dX2_remove_6 rfl ?_
  refine z_ifnonnull C 11 dX2_remove_7 (by decide) ?_
  refine z_aload_n C dX2_remove_11 rfl ?_
  refine z_callVF C (6) (Cn := RX2) (T := TX2) (N := 2) (k_X2_last vl D cI cM A ad E hX l6 l7 hn) (cwV 0 C.2.2.2.2.1 gX2_remove_X2_last rfl rfl rfl (by decide +kernel) ⟨Nat.le_of_ble_eq_true rfl, Nat.le_of_ble_eq_true rfl⟩) rfl (by first | decide | omega) rfl l6 rfl rfl (Nat.le_of_ble_eq_true rfl) ⟨Nat.zero_le _, Nat.zero_le _⟩ dX2_remove_12 ?_
  refine z_top (nI (n - 1)) (pk_sub (by omega)) ?_
  refine z_istore_n C [(0, .ref (ad 6)), (1, .int (nI (j))), (2, .ref (ad (8 + 3 * (pm j)))), (3, .int (nI (n - 1)))] dX2_remove_15 (by decide) ⟨rfl, rfl, rfl, rfl, rfl, rfl, rfl, rfl, trivial⟩ ?_
  refine z_iload_n C dX2_remove_16 rfl ?_
  refine z_istore C [(0, .ref (ad 6)), (1, .int (nI (j))), (2, .ref (ad (8 + 3 * (pm j)))), (3, .int (nI (n - 1))), (4, .int (nI (j)))] dX2_remove_17 (by decide) ⟨rfl, rfl, rfl, rfl, rfl, rfl, rfl, rfl, rfl, rfl, trivial⟩ ?_
  have loop19 : ∀ (fuel : Nat) (i : Nat) (E2 : Nat → va_E), (hi : j ≤ i ∧ i ≤ n - 1) → (q6 : E2 (6) = .inr (2, [.ref (ad 7), .int (nI (n))])) → (q7 : E2 (7) = .inl (cM, 6, .inr (.inr (.inr (.inr (sf ad (shd pm j i))))))) → (qo : ∀ q : Nat, q < 6 → ∃ vs : List Value, E2 (8 + 3 * q) = .inr (1, vs)) → (qf : ∀ k : Nat, (k ≠ 6 ∧ k ≠ 7) → E2 k = E k) → n - i < fuel → Z vp vl ve { frames := 3, cells := 0, slots := 0, locals := 62 } vs vm va vb vt vc 5 D A 32 ad E2 [(0, .ref (ad 6)), (1, .int (nI (j))), (2, .ref (ad (8 + 3 * (pm j)))), (3, .int (nI (n - 1))), (4, .int (nI (i)))] 0 0 Q 19 [] := by
    intro fuel
    induction fuel with
    | zero => intro i E2 hi q6 q7 qo qf hlt; exact absurd hlt (Nat.not_lt_zero _)
    | succ fuel ih =>
      intro i E2 hi q6 q7 qo qf hlt
      have ih19 := ih
      refine z_iload C dX2_remove_19 rfl ?_
      refine z_iload_n C dX2_remove_21 rfl ?_
      refine z_icmp_geN C 47 (by omega) (by omega) dX2_remove_22 (by decide) (fun h22 => ?_) (fun h22 => ?_)
      · have hie : i = n - 1 := by omega
        obtain ⟨vs9, hvs9⟩ := qo _ hpj
        refine z_aload_n C dX2_remove_47 rfl ?_
        refine z_get C (6) (Cn := RX2) (T := TX2) (N := 2) (fi := 0) iw_X2_remove_2 rfl (by decide) ln_X2_remove_11 (by first | decide | omega) rfl q6 rfl dX2_remove_48 ?_
        refine z_iload_n C dX2_remove_51 rfl ?_
        refine z_aload_n C dX2_remove_52 rfl ?_
        refine z_astqG C (7) (x := (pm j)) (pm := (shd pm j i)) hX (by first | decide | omega) rfl q7 (by first | decide | omega) hvs9 (by omega) (by decide) dX2_remove_53 (fun Ez2 hE1 => ?_)
        have f3 : Ez2 (6) = .inr (2, [.ref (ad 7), .int (nI (n))]) := va_up_of hE1 (by first | decide | omega) q6
        have f5 : Ez2 (7) = .inl (cM, 6, .inr (.inr (.inr (.inr (sf ad (va_up (shd pm j i) (n - 1) (pm j))))))) := va_up_eq hE1
        have g6 : ∀ k : Nat, (k ≠ 6 ∧ k ≠ 7) → Ez2 k = E k := fun k hk => va_up_of hE1 (by omega) (qf k hk)
        refine z_aload_n C dX2_remove_54 rfl ?_
        refine z_iload_n C dX2_remove_55 rfl ?_
        refine z_put C (6) (Cn := RX2) (T := TX2) (N := 2) (fi := 1) tyX2 iw_X2_remove_2 tyX2_ok nmX2 rfl (by decide) ln_X2_remove_26 hX (by first | decide | omega) rfl f3 rfl rfl rfl rfl (Nat.le_of_ble_eq_true rfl) dX2_remove_56 (fun Ez8 hE7 => ?_)
        have f10 : Ez8 (7) = .inl (cM, 6, .inr (.inr (.inr (.inr (sf ad (va_up (shd pm j i) (n - 1) (pm j))))))) := va_up_of hE7 (by first | decide | omega) f5
        have f11 : Ez8 (6) = .inr (2, [.ref (ad 7), .int (nI (n - 1))]) := va_up_eq hE7
        have g12 : ∀ k : Nat, (k ≠ 6 ∧ k ≠ 7) → Ez8 k = E k := fun k hk => va_up_of hE7 (by omega) (g6 k hk)
        exact hend _ _ _ dX2_remove_59 (⟨f11, (by rw [hie] at *; exact f10), g12⟩)
      · have hx6 := shd_lt hpm (j := j) (i := i) (k := i + 1) (by omega) (by omega)
        obtain ⟨vs9, hvs9⟩ := qo _ hx6
        refine z_aload_n C dX2_remove_25 rfl ?_
        refine z_get C (6) (Cn := RX2) (T := TX2) (N := 2) (fi := 0) iw_X2_remove_2 rfl (by decide) ln_X2_remove_11 (by first | decide | omega) rfl q6 rfl dX2_remove_26 ?_
        refine z_iload C dX2_remove_29 rfl ?_
        refine z_aload_n C dX2_remove_31 rfl ?_
        refine z_get C (6) (Cn := RX2) (T := TX2) (N := 2) (fi := 0) iw_X2_remove_2 rfl (by decide) ln_X2_remove_11 (by first | decide | omega) rfl q6 rfl dX2_remove_32 ?_
        refine z_iload C dX2_remove_35 rfl ?_
        refine z_iconst C (nI (1)) dX2_remove_37 (by decide) ?_
        refine z_iaddN C  dX2_remove_38 ?_
        refine z_aldq C (7) (some (ad (8 + 3 * (shd pm j i (i + 1))))) (by first | decide | omega) rfl q7 (by omega) (by decide) (rfl) dX2_remove_39 ?_
        refine z_astqG C (7) (x := (shd pm j i (i + 1))) (pm := (shd pm j i)) hX (by first | decide | omega) rfl q7 (by first | decide | omega) hvs9 (by omega) (by decide) dX2_remove_40 (fun Ez14 hE13 => ?_)
        have f15 : Ez14 (6) = .inr (2, [.ref (ad 7), .int (nI (n))]) := va_up_of hE13 (by first | decide | omega) q6
        have f17 : Ez14 (7) = .inl (cM, 6, .inr (.inr (.inr (.inr (sf ad (va_up (shd pm j i) (i) (shd pm j i (i + 1)))))))) := va_up_eq hE13
        have g18 : ∀ k : Nat, (k ≠ 6 ∧ k ≠ 7) → Ez14 k = E k := fun k hk => va_up_of hE13 (by omega) (qf k hk)
        refine z_iincN (j := 1) C [(0, .ref (ad 6)), (1, .int (nI (j))), (2, .ref (ad (8 + 3 * (pm j)))), (3, .int (nI (n - 1))), (4, .int (nI (i + 1)))] dX2_remove_41 rfl (by decide) ⟨rfl, rfl, rfl, rfl, rfl, rfl, rfl, rfl, rfl, rfl, trivial⟩ ?_
        refine z_goto C 19 dX2_remove_44 (by decide) ?_
        refine z_lv [(0, .ref (ad 6)), (1, .int (nI (j))), (2, .ref (ad (8 + 3 * (pm j)))), (3, .int (nI (n - 1))), (4, .int (nI (i + 1)))] ⟨rfl, rfl, rfl, rfl, rfl, rfl, rfl, rfl, rfl, rfl, trivial⟩ ?_
        exact ih19 (i + 1) Ez14 (by omega) f15 (by rw [f17, shd_s (by omega)]) (fun q hq => by obtain ⟨vs, hv⟩ := qo q hq; exact ⟨vs, va_up_of hE13 (by omega) hv⟩) g18 (by omega)
  refine z_lv [(0, .ref (ad 6)), (1, .int (nI (j))), (2, .ref (ad (8 + 3 * (pm j)))), (3, .int (nI (n - 1))), (4, .int (nI (j)))] ⟨rfl, rfl, rfl, rfl, rfl, rfl, rfl, rfl, rfl, rfl, trivial⟩ ?_
  exact loop19 (n + 1) j E ⟨Nat.le_refl _, by omega⟩ l6 (by rw [shd_0]; exact l7) hob (fun _ _ => rfl) (by omega)

