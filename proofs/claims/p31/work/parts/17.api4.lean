theorem sh1 : ∀ r, r < 8 → (nI 1) <<< ((nI r) &&& 31) = nI (2 ^ r) := by decide +kernel
theorem iw_X5_flipDefect_5 : ∀ w ∈ wsX50, w ∈ wsX5_flipDefect := by decide +kernel
theorem ln_X5_flipDefect_37 : Cond.fieldLink RX5 37 "MarqueeDisplay" "defects" "[I" ∈ wsX5_flipDefect := by decide +kernel
set_option maxHeartbeats 4000000 in
set_option maxRecDepth 100000 in
theorem k_X5_flipDefect (vl : Launch) (D : va_G) (cI cM : ClassId) (A : Nat → Prop) (ad : Nat → Nat) (E : Nat → va_E) (hX : XD A 32 ad) {W G S B off cnt t : Nat} {df : Nat → Nat} {r x : Nat} (e0 : E (0) = .inr (5, [.ref (ad 1), .ref (ad 4), .ref (ad 6), .ref (ad 26), .ref (ad 29), .int (nI (W)), .int (nI (G)), .int (nI (S)), .int (shI t), .int (nI (B)), .int (nI (off)), .int (nI (cnt))])) (e29 : E (29) = aI cI 32 df) (hr : r ≤ 7) (hx : x < 32) (hd3 : df x < 256) : MV vl yX5_flipDefect wsX5_flipDefect { frames := 1, cells := 0, slots := 0, locals := 22 } D cI cM A 32 ad E [.ref (ad 0), .int (nI (r)), .int (nI (x))] (fun E1 => E1 29 = aI cI 32 (va_up df x (df x ^^^ 2 ^ r)) ∧ ∀ k : Nat, (k ≠ 29) → E1 k = E k) := by
  refine mv_of cX5_flipDefect 3 RX5 (by decide) rfl rfl (Nat.le_of_ble_eq_true rfl) ?_
  intro vp ve vs vm va vb vt vc Q C hend
  refine z_lv [(0, .ref (ad 0)), (1, .int (nI (r))), (2, .int (nI (x)))] ⟨rfl, rfl, rfl, rfl, rfl, rfl, trivial⟩ ?_
  have hpx := pow_xor _ hd3 r (by omega)
  have h2r : 2 ^ r < 256 := Nat.pow_lt_pow_right (n := 8) (by decide) (by omega)
  refine z_iload_n C dX5_flipDefect_0 rfl ?_
  refine z_iconst C (nI (0)) dX5_flipDefect_1 (by decide) ?_
  refine z_aload_n C dX5_flipDefect_2 rfl ?_
  refine z_get C (0) (Cn := RX5) (T := TX5) (N := 12) (fi := 4) iw_X5_flipDefect_5 rfl (by decide) ln_X5_flipDefect_37 (by first | decide | omega) rfl e0 rfl dX5_flipDefect_3 ?_
  refine z_alenG C (29) (by first | decide | omega) rfl e29 dX5_flipDefect_6 ?_
  refine z_iconst C (nI (1)) dX5_flipDefect_7 (by decide) ?_
  refine z_isubN C (by omega) dX5_flipDefect_8 ?_
  refine z_callSF C (k_X5_isWithin vl D cI cM A ad E hX (nI (x)) (nI (0)) (nI (32 - 1))) (va_cwS 3 C.2.2.2.2.1 gX5_flipDefect_X5_isWithin rfl rfl rfl (by decide +kernel) ⟨Nat.le_of_ble_eq_true rfl, Nat.le_of_ble_eq_true rfl⟩) rfl rfl (Nat.le_of_ble_eq_true rfl) ⟨Nat.zero_le _, Nat.zero_le _⟩ dX5_flipDefect_9 ?_
  refine z_top (nI (1)) (iw_yN ⟨Nat.zero_le _, by omega⟩ (by omega)) ?_
  refine z_if_eqN C 27 (by omega) dX5_flipDefect_12 (by decide) (fun h12 => (by exfalso; omega)) (fun h12 => ?_)
  refine z_aload_n C dX5_flipDefect_15 rfl ?_
  refine z_get C (0) (Cn := RX5) (T := TX5) (N := 12) (fi := 4) iw_X5_flipDefect_5 rfl (by decide) ln_X5_flipDefect_37 (by first | decide | omega) rfl e0 rfl dX5_flipDefect_16 ?_
  refine z_iload_n C dX5_flipDefect_19 rfl ?_
  refine z_dup2 C dX5_flipDefect_20 rfl rfl ?_
  refine z_ialdG C (29) (by first | decide | omega) rfl e29 (by omega) (by decide) dX5_flipDefect_21 ?_
  refine z_iconst C (nI (1)) dX5_flipDefect_22 (by decide) ?_
  refine z_iload_n C dX5_flipDefect_23 rfl ?_
  refine z_ishl C dX5_flipDefect_24  ?_
  refine z_top (nI (2 ^ r)) (sh1 r (by omega)) ?_
  refine z_ixor C dX5_flipDefect_25  ?_
  refine z_top (nI (df x ^^^ 2 ^ r)) (nx_xor _ _) ?_
  refine z_iastG C (29) hX (by first | decide | omega) rfl e29 (by omega) (by decide) dX5_flipDefect_26 (fun Ez2 hE1 => ?_)
  have f3 : Ez2 (0) = .inr (5, [.ref (ad 1), .ref (ad 4), .ref (ad 6), .ref (ad 26), .ref (ad 29), .int (nI (W)), .int (nI (G)), .int (nI (S)), .int (shI t), .int (nI (B)), .int (nI (off)), .int (nI (cnt))]) := va_up_of hE1 (by first | decide | omega) e0
  have f5 : Ez2 (29) = aI cI 32 (va_up df (x) (df x ^^^ 2 ^ r)) := va_up_eq hE1
  have g6 : ∀ k : Nat, (k ≠ 29) → Ez2 k = E k := fun k hk => va_up_of hE1 (by omega) ((fun _ _ => rfl) k hk)
  exact hend _ _ _ dX5_flipDefect_27 (⟨f5, g6⟩)

set_option maxHeartbeats 4000000 in
set_option maxRecDepth 100000 in
theorem k_X5_setDefective (vl : Launch) (D : va_G) (cI cM : ClassId) (A : Nat → Prop) (ad : Nat → Nat) (E : Nat → va_E) (hX : XD A 32 ad) {M : St} (x y : Int32) (z : Nat) (hI : Inv M) (hR : RelX cI cM ad M E) (hz : z ≤ 1) : MI vl yX5_setDefective wsX5_setDefective { frames := 3, cells := 0, slots := 0, locals := 65 } D cI cM A 32 ad E [.ref (ad 0), .int (x), .int (y), .int (nI (z))] (fun r E1 => r = (o_setDefective M x y z).1 ∧ RelX cI cM ad (o_setDefective M x y z).2 E1 ∧ ∀ k : Nat, 30 ≤ k → E1 k = E k) := by
  refine mi_of cX5_setDefective 4 (.int) RX5 (by decide) rfl rfl (Nat.le_of_ble_eq_true rfl) (fun r E1 h => rfl) ?_
  intro vp ve vs vm va vb vt vc Q C hend
  refine z_lv [(0, .ref (ad 0)), (1, .int (x)), (2, .int (y)), (3, .int (nI (z)))] ⟨rfl, rfl, rfl, rfl, rfl, rfl, rfl, rfl, trivial⟩ ?_
  obtain ⟨pm, hY, hMX, hs⟩ := id hR
  obtain ⟨e0, e1, e2, e3, b4, b5, l6, l7, hpm, hn6, hMY, e29⟩ := id hY
  obtain ⟨_, _, s26, -, -, -⟩ := id hs
  rw [strip_len] at s26
  obtain ⟨⟨iW1, iW2⟩, iG, ⟨iS1, iS2⟩, ⟨iB1, iB2⟩, iO, iC, iT, iN, iSh, iWd, iDt, iZ, iDf, iDz, iTx, iMs⟩ := id hI.1
  have hLM := hI.1.LM_le
  have hsl := hI.1.slen
  have hld : ∀ a, ldM M a ≤ 512 := fun a => Nat.le_trans (ldS_le _ _ _ _ _) (by omega)
  have hl4 := hld (M 0 4)
  by_cases hxy : (∃ r : Nat, r ≤ 7 ∧ x = nI r) ∧ ∃ c : Nat, c < M 0 0 ∧ y = nI c
  · obtain ⟨⟨r, hr, rfl⟩, c, hc, rfl⟩ := hxy
    have hop0 : o_setDefective M (nI r) (nI c) z = if b1 (M 3 c) r = z then (-12, M) else (nI (cntD (flipD M r c)), flipD M r c) := (wr_y ⟨Nat.zero_le _, hr⟩ (by decide)).trans (wn_y hc (by omega))
    have hbl := b1_le (M 3 c) r
    have hd3 := iDf c (by omega)
    have hpx := pow_xor _ hd3 r (by omega)
    have h2r : 2 ^ r < 256 := Nat.pow_lt_pow_right (n := 8) (by decide) (by omega)
    refine z_aload_n C dX5_setDefective_0 rfl ?_
    refine z_iload_n C dX5_setDefective_1 rfl ?_
    refine z_iload_n C dX5_setDefective_2 rfl ?_
    refine z_callVF C (0) (Cn := RX5) (T := TX5) (N := 12) (k_isLed_y vl D cI cM A ad E hX e0 hr hc iW2) (cwV 2 C.2.2.2.2.1 gX5_setDefective_X5_isLed rfl rfl rfl (by decide +kernel) ⟨Nat.le_of_ble_eq_true rfl, Nat.le_of_ble_eq_true rfl⟩) rfl (by first | decide | omega) rfl e0 rfl rfl (Nat.le_of_ble_eq_true rfl) ⟨Nat.zero_le _, Nat.zero_le _⟩ dX5_setDefective_3 ?_
    refine z_if_neN C 12 (by omega) dX5_setDefective_6 (by decide) (fun h6 => ?_) (fun h6 => (by exfalso; omega))
    refine z_aload_n C dX5_setDefective_12 rfl ?_
    refine z_iload_n C dX5_setDefective_13 rfl ?_
    refine z_iload_n C dX5_setDefective_14 rfl ?_
    refine z_callVF C (0) (Cn := RX5) (T := TX5) (N := 12) (k_X5_isDefective vl D cI cM A ad E hX e0 e29 hr (by omega) hd3) (cwV 2 C.2.2.2.2.1 gX5_setDefective_X5_isDefective rfl rfl rfl (by decide +kernel) ⟨Nat.le_of_ble_eq_true rfl, Nat.le_of_ble_eq_true rfl⟩) rfl (by first | decide | omega) rfl e0 rfl rfl (Nat.le_of_ble_eq_true rfl) ⟨Nat.zero_le _, Nat.zero_le _⟩ dX5_setDefective_15 ?_
    refine z_iload_n C dX5_setDefective_18 rfl ?_
    refine z_icmp_neN C 25 (by omega) (by omega) dX5_setDefective_19 (by decide) (fun h19 => ?_) (fun h19 => ?_)
    · have hop := hop0.trans (if_neg h19)
      refine z_aload_n C dX5_setDefective_25 rfl ?_
      refine z_iload_n C dX5_setDefective_26 rfl ?_
      refine z_iload_n C dX5_setDefective_27 rfl ?_
      refine z_callVV C (0) (Cn := RX5) (T := TX5) (N := 12) (k_X5_flipDefect vl D cI cM A ad E hX e0 e29 hr (by omega) hd3) (cwV 2 C.2.2.2.2.1 gX5_setDefective_X5_flipDefect rfl rfl rfl (by decide +kernel) ⟨Nat.le_of_ble_eq_true rfl, Nat.le_of_ble_eq_true rfl⟩) rfl (by first | decide | omega) rfl e0 rfl rfl (Nat.le_of_ble_eq_true rfl) ⟨Nat.zero_le _, Nat.zero_le _⟩ dX5_setDefective_28 (fun Ez1 hp2 => ?_)
      obtain ⟨v3, hg4⟩ := hp2
      have f5 : Ez1 (0) = .inr (5, [.ref (ad 1), .ref (ad 4), .ref (ad 6), .ref (ad 26), .ref (ad 29), .int (nI (M 0 0)), .int (nI (M 0 1)), .int (nI (M 0 2)), .int (shI (M 0 8)), .int (nI (M 0 3)), .int (nI (M 0 4)), .int (nI (M 0 5))]) := (hg4 (0) (by omega)).trans e0
      have f6 : Ez1 (1) = .inr (0, [.ref (ad 2), .ref (ad 3)]) := (hg4 (1) (by omega)).trans e1
      have f7 : Ez1 (2) = aI cI 27 (M 1) := (hg4 (2) (by omega)).trans e2
      have f8 : Ez1 (3) = aI cI 162 (M 2) := (hg4 (3) (by omega)).trans e3
      have f9 : Ez1 (4) = .inr (4, [.ref (ad 5), .int (nI (M 0 6))]) := (hg4 (4) (by omega)).trans b4
      have f10 : Ez1 (5) = aI cI 12 (M 4) := (hg4 (5) (by omega)).trans b5
      have f11 : Ez1 (6) = .inr (2, [.ref (ad 7), .int (nI (M 0 7))]) := (hg4 (6) (by omega)).trans l6
      have f12 : Ez1 (7) = .inl (cM, 6, .inr (.inr (.inr (.inr (sf ad pm))))) := (hg4 (7) (by omega)).trans l7
      have f13 : Ez1 (26) = .inr (3, [.ref (ad 27), .ref (ad 28), .int (nI (LM M))]) := (hg4 (26) (by omega)).trans s26
      have g14 : ∀ k : Nat, (k ≠ 29) → Ez1 k = E k := fun k hk => (hg4 k (by omega)).trans ((fun _ _ => rfl) k hk)
      refine z_aload_n C dX5_setDefective_31 rfl ?_
      refine z_callVF C (0) (Cn := RX5) (T := TX5) (N := 12) (k_X5_countDefects vl D cI cM A ad Ez1 hX f5 v3 (inv0_flip hI.1 hr hc).2.2.2.2.2.2.2.2.2.2.2.2.1) (cwV 0 C.2.2.2.2.1 gX5_setDefective_X5_countDefects rfl rfl rfl (by decide +kernel) ⟨Nat.le_of_ble_eq_true rfl, Nat.le_of_ble_eq_true rfl⟩) rfl (by first | decide | omega) rfl f5 rfl rfl (Nat.le_of_ble_eq_true rfl) ⟨Nat.zero_le _, Nat.zero_le _⟩ dX5_setDefective_32 ?_
      exact hend _ _ _ _ dX5_setDefective_35 (⟨by rw [hop]; rfl, by rw [hop]; exact ⟨pm, ⟨f5, f6, f7, f8, f9, f10, f11, f12, hpm, hn6, (MsgY_mv hpm hMY (fun k hk => g14 k (by omega))), v3⟩, (MsgX_mv hpm hn6 hMX (fun k hk => g14 k (by omega))), hs.mv (g14 _ (by omega)) (g14 _ (by omega)) (g14 _ (by omega))⟩, fun k hk => g14 k (by omega)⟩)
    · refine z_bipush C (-12) dX5_setDefective_22 (by decide) ?_
      exact hend _ _ _ _ dX5_setDefective_24 (⟨by rw [hop0, if_pos h19], by rw [hop0, if_pos h19]; exact hR, fun _ _ => rfl⟩)
  · have hop : o_setDefective M x y z = (-11, M) := by
      unfold o_setDefective
      rcases wr_c 0 7 x (by decide) (by decide) with ⟨r, hr, rfl⟩ | hx
      · rw [wr_y hr (by decide)]; exact wn_n (by omega) (fun q => hxy ⟨⟨r, hr.2, rfl⟩, q⟩)
      · exact wr_n hx
    refine z_aload_n C dX5_setDefective_0 rfl ?_
    refine z_iload_n C dX5_setDefective_1 rfl ?_
    refine z_iload_n C dX5_setDefective_2 rfl ?_
    refine z_callVF C (0) (Cn := RX5) (T := TX5) (N := 12) (k_isLed_n vl D cI cM A ad E hX e0 hxy ⟨iW1, iW2⟩) (cwV 2 C.2.2.2.2.1 gX5_setDefective_X5_isLed rfl rfl rfl (by decide +kernel) ⟨Nat.le_of_ble_eq_true rfl, Nat.le_of_ble_eq_true rfl⟩) rfl (by first | decide | omega) rfl e0 rfl rfl (Nat.le_of_ble_eq_true rfl) ⟨Nat.zero_le _, Nat.zero_le _⟩ dX5_setDefective_3 ?_
    refine z_if_neN C 12 (by omega) dX5_setDefective_6 (by decide) (fun h6 => (by exfalso; omega)) (fun h6 => ?_)
    refine z_bipush C (-11) dX5_setDefective_9 (by decide) ?_
    exact hend _ _ _ _ dX5_setDefective_11 (⟨by rw [hop], by rw [hop]; exact hR, fun _ _ => rfl⟩)

theorem iw_X5_tick_5 : ∀ w ∈ wsX50, w ∈ wsX5_tick := by decide +kernel
theorem ln_X5_tick_48 : Cond.fieldLink RX5 48 "MarqueeDisplay" "speed" "I" ∈ wsX5_tick := by decide +kernel
theorem ln_X5_tick_60 : Cond.fieldLink RX5 60 "MarqueeDisplay" "counter" "I" ∈ wsX5_tick := by decide +kernel
theorem ln_X5_tick_33 : Cond.fieldLink RX5 33 "MarqueeDisplay" "strip" "LMarqueeDisplay$Strip;" ∈ wsX5_tick := by decide +kernel
theorem ln_X5_tick_57 : Cond.fieldLink RX5 57 "MarqueeDisplay" "offset" "I" ∈ wsX5_tick := by decide +kernel
set_option maxHeartbeats 4000000 in
set_option maxRecDepth 100000 in
theorem k_X5_tick (vl : Launch) (D : va_G) (cI cM : ClassId) (A : Nat → Prop) (ad : Nat → Nat) (E : Nat → va_E) (hX : XD A 32 ad) {M : St} (x : Int32) (hI : Inv M) (hR : RelX cI cM ad M E) : MI vl yX5_tick wsX5_tick { frames := 2, cells := 0, slots := 0, locals := 43 } D cI cM A 32 ad E [.ref (ad 0), .int (x)] (fun r E1 => r = (o_tick M x).1 ∧ RelX cI cM ad (o_tick M x).2 E1 ∧ ∀ k : Nat, 30 ≤ k → E1 k = E k) := by
  refine mi_of cX5_tick 3 (.int) RX5 (by decide) rfl rfl (Nat.le_of_ble_eq_true rfl) (fun r E1 h => rfl) ?_
  intro vp ve vs vm va vb vt vc Q C hend
  refine z_lv [(0, .ref (ad 0)), (1, .int (x))] ⟨rfl, rfl, rfl, rfl, trivial⟩ ?_
  obtain ⟨pm, hY, hMX, hs⟩ := id hR
  obtain ⟨e0, e1, e2, e3, b4, b5, l6, l7, hpm, hn6, hMY, e29⟩ := id hY
  obtain ⟨_, _, s26, -, -, -⟩ := id hs
  rw [strip_len] at s26
  obtain ⟨⟨iW1, iW2⟩, iG, ⟨iS1, iS2⟩, ⟨iB1, iB2⟩, iO, iC, iT, iN, iSh, iWd, iDt, iZ, iDf, iDz, iTx, iMs⟩ := id hI.1
  have hLM := hI.1.LM_le
  have hsl := hI.1.slen
  have hld : ∀ a, ldM M a ≤ 512 := fun a => Nat.le_trans (ldS_le _ _ _ _ _) (by omega)
  have hl4 := hld (M 0 4)
  rcases wr_c 0 9999 x (by omega) (by omega) with ⟨v, hv1, rfl⟩ | hx
  · have hop : o_tick M (nI v) = (nI (tickM M v 0 4), tickM M v) := wr_y hv1 (by decide)
    have hdv : (M 0 5 + v) / M 0 2 ≤ M 0 5 + v := Nat.div_le_self _ _
    by_cases hL0 : LM M = 0
    · have ht4 : tickM M v 0 4 = 0 := if_pos hL0
      refine z_iload_n C dX5_tick_0 rfl ?_
      refine z_iconst C (nI (0)) dX5_tick_1 (by decide) ?_
      refine z_sipush C (nI (9999)) dX5_tick_2 (by decide) ?_
      refine z_callSF C (k_X5_isWithin vl D cI cM A ad E hX (nI (v)) (nI (0)) (nI (9999))) (va_cwS 3 C.2.2.2.2.1 gX5_tick_X5_isWithin rfl rfl rfl (by decide +kernel) ⟨Nat.le_of_ble_eq_true rfl, Nat.le_of_ble_eq_true rfl⟩) rfl rfl (Nat.le_of_ble_eq_true rfl) ⟨Nat.zero_le _, Nat.zero_le _⟩ dX5_tick_5 ?_
      refine z_top (nI (1)) (iw_yN hv1 (by omega)) ?_
      refine z_if_neN C 14 (by omega) dX5_tick_8 (by decide) (fun h8 => ?_) (fun h8 => (by exfalso; omega))
      refine z_aload_n C dX5_tick_14 rfl ?_
      refine z_get C (0) (Cn := RX5) (T := TX5) (N := 12) (fi := 7) iw_X5_tick_5 rfl (by decide) ln_X5_tick_48 (by first | decide | omega) rfl e0 rfl dX5_tick_15 ?_
      refine z_if_leN C 60 (by omega) dX5_tick_18 (by decide) (fun h18 => (by exfalso; omega)) (fun h18 => ?_)
      refine z_aload_n C dX5_tick_21 rfl ?_
      refine z_get C (0) (Cn := RX5) (T := TX5) (N := 12) (fi := 11) iw_X5_tick_5 rfl (by decide) ln_X5_tick_60 (by first | decide | omega) rfl e0 rfl dX5_tick_22 ?_
      refine z_iload_n C dX5_tick_25 rfl ?_
      refine z_iaddN C  dX5_tick_26 ?_
      refine z_istore_n C [(0, .ref (ad 0)), (1, .int (nI (v))), (2, .int (nI ((M 0 5) + v)))] dX5_tick_27 (by decide) ⟨rfl, rfl, rfl, rfl, rfl, rfl, trivial⟩ ?_
      refine z_aload_n C dX5_tick_28 rfl ?_
      refine z_iload_n C dX5_tick_29 rfl ?_
      refine z_aload_n C dX5_tick_30 rfl ?_
      refine z_get C (0) (Cn := RX5) (T := TX5) (N := 12) (fi := 7) iw_X5_tick_5 rfl (by decide) ln_X5_tick_48 (by first | decide | omega) rfl e0 rfl dX5_tick_31 ?_
      refine z_iremN C (by omega) (by omega) (by omega) dX5_tick_34 ?_
      refine z_put C (0) (Cn := RX5) (T := TX5) (N := 12) (fi := 11) tyX5 iw_X5_tick_5 tyX5_ok nmX5 rfl (by decide) ln_X5_tick_60 hX (by first | decide | omega) rfl e0 rfl rfl rfl rfl (Nat.le_of_ble_eq_true rfl) dX5_tick_35 (fun Ez2 hE1 => ?_)
      have f4 : Ez2 (1) = .inr (0, [.ref (ad 2), .ref (ad 3)]) := va_up_of hE1 (by first | decide | omega) e1
      have f5 : Ez2 (2) = aI cI 27 (M 1) := va_up_of hE1 (by first | decide | omega) e2
      have f6 : Ez2 (3) = aI cI 162 (M 2) := va_up_of hE1 (by first | decide | omega) e3
      have f7 : Ez2 (4) = .inr (4, [.ref (ad 5), .int (nI (M 0 6))]) := va_up_of hE1 (by first | decide | omega) b4
      have f8 : Ez2 (5) = aI cI 12 (M 4) := va_up_of hE1 (by first | decide | omega) b5
      have f9 : Ez2 (6) = .inr (2, [.ref (ad 7), .int (nI (M 0 7))]) := va_up_of hE1 (by first | decide | omega) l6
      have f10 : Ez2 (7) = .inl (cM, 6, .inr (.inr (.inr (.inr (sf ad pm))))) := va_up_of hE1 (by first | decide | omega) l7
      have f11 : Ez2 (29) = aI cI 32 (M 3) := va_up_of hE1 (by first | decide | omega) e29
      have f12 : Ez2 (26) = .inr (3, [.ref (ad 27), .ref (ad 28), .int (nI (LM M))]) := va_up_of hE1 (by first | decide | omega) s26
      have f13 : Ez2 (0) = .inr (5, [.ref (ad 1), .ref (ad 4), .ref (ad 6), .ref (ad 26), .ref (ad 29), .int (nI (M 0 0)), .int (nI (M 0 1)), .int (nI (M 0 2)), .int (shI (M 0 8)), .int (nI (M 0 3)), .int (nI (M 0 4)), .int (nI (((M 0 5) + v) % (M 0 2)))]) := va_up_eq hE1
      have g14 : ∀ k : Nat, (k ≠ 0) → Ez2 k = E k := fun k hk => va_up_of hE1 (by omega) ((fun _ _ => rfl) k hk)
      refine z_aload_n C dX5_tick_38 rfl ?_
      refine z_aload_n C dX5_tick_39 rfl ?_
      refine z_get C (0) (Cn := RX5) (T := TX5) (N := 12) (fi := 3) iw_X5_tick_5 rfl (by decide) ln_X5_tick_33 (by first | decide | omega) rfl f13 rfl dX5_tick_40 ?_
      refine z_aload_n C dX5_tick_43 rfl ?_
      refine z_get C (0) (Cn := RX5) (T := TX5) (N := 12) (fi := 10) iw_X5_tick_5 rfl (by decide) ln_X5_tick_57 (by first | decide | omega) rfl f13 rfl dX5_tick_44 ?_
      refine z_iload_n C dX5_tick_47 rfl ?_
      refine z_aload_n C dX5_tick_48 rfl ?_
      refine z_get C (0) (Cn := RX5) (T := TX5) (N := 12) (fi := 7) iw_X5_tick_5 rfl (by decide) ln_X5_tick_48 (by first | decide | omega) rfl f13 rfl dX5_tick_49 ?_
      refine z_idivN C (by omega) (by omega) (by omega) dX5_tick_52 ?_
      refine z_iaddN C  dX5_tick_53 ?_
      refine z_callVF C (26) (Cn := RX3) (T := TX3) (N := 3) (k_wrap_0 vl D cI cM A ad Ez2 hX (x := nI ((M 0 4) + (((M 0 5) + v) / (M 0 2)))) (f12.trans (by rw [hL0]))) (cwV 1 C.2.2.2.2.1 gX5_tick_X3_wrap rfl rfl rfl (by decide +kernel) ⟨Nat.le_of_ble_eq_true rfl, Nat.le_of_ble_eq_true rfl⟩) rfl (by first | decide | omega) rfl f12 rfl rfl (Nat.le_of_ble_eq_true rfl) ⟨Nat.zero_le _, Nat.zero_le _⟩ dX5_tick_54 ?_
      refine z_top (nI (tickM M v 0 4)) (by rw [ht4]) ?_
      refine z_put C (0) (Cn := RX5) (T := TX5) (N := 12) (fi := 10) tyX5 iw_X5_tick_5 tyX5_ok nmX5 rfl (by decide) ln_X5_tick_57 hX (by first | decide | omega) rfl f13 rfl rfl rfl rfl (Nat.le_of_ble_eq_true rfl) dX5_tick_57 (fun Ez16 hE15 => ?_)
      have f17 : Ez16 (1) = .inr (0, [.ref (ad 2), .ref (ad 3)]) := va_up_of hE15 (by first | decide | omega) f4
      have f18 : Ez16 (2) = aI cI 27 (M 1) := va_up_of hE15 (by first | decide | omega) f5
      have f19 : Ez16 (3) = aI cI 162 (M 2) := va_up_of hE15 (by first | decide | omega) f6
      have f20 : Ez16 (4) = .inr (4, [.ref (ad 5), .int (nI (M 0 6))]) := va_up_of hE15 (by first | decide | omega) f7
      have f21 : Ez16 (5) = aI cI 12 (M 4) := va_up_of hE15 (by first | decide | omega) f8
      have f22 : Ez16 (6) = .inr (2, [.ref (ad 7), .int (nI (M 0 7))]) := va_up_of hE15 (by first | decide | omega) f9
      have f23 : Ez16 (7) = .inl (cM, 6, .inr (.inr (.inr (.inr (sf ad pm))))) := va_up_of hE15 (by first | decide | omega) f10
      have f24 : Ez16 (29) = aI cI 32 (M 3) := va_up_of hE15 (by first | decide | omega) f11
      have f25 : Ez16 (26) = .inr (3, [.ref (ad 27), .ref (ad 28), .int (nI (LM M))]) := va_up_of hE15 (by first | decide | omega) f12
      have f27 : Ez16 (0) = .inr (5, [.ref (ad 1), .ref (ad 4), .ref (ad 6), .ref (ad 26), .ref (ad 29), .int (nI (M 0 0)), .int (nI (M 0 1)), .int (nI (M 0 2)), .int (shI (M 0 8)), .int (nI (M 0 3)), .int (nI (tickM M v 0 4)), .int (nI (((M 0 5) + v) % (M 0 2)))]) := va_up_eq hE15
      have g28 : ∀ k : Nat, (k ≠ 0) → Ez16 k = E k := fun k hk => va_up_of hE15 (by omega) (g14 k hk)
      refine z_aload_n C dX5_tick_60 rfl ?_
      refine z_get C (0) (Cn := RX5) (T := TX5) (N := 12) (fi := 10) iw_X5_tick_5 rfl (by decide) ln_X5_tick_57 (by first | decide | omega) rfl f27 rfl dX5_tick_61 ?_
      exact hend _ _ _ _ dX5_tick_64 (⟨by rw [hop], by rw [hop]; exact ⟨pm, ⟨f27, f17, f18, f19, f20, f21, f22, f23, hpm, hn6, (MsgY_mv hpm hMY (fun k hk => g28 k (by omega))), f24⟩, (MsgX_mv hpm hn6 hMX (fun k hk => g28 k (by omega))), hs.mv (g28 _ (by omega)) (g28 _ (by omega)) (g28 _ (by omega))⟩, fun k hk => g28 k (by omega)⟩)
    · have ht4 : tickM M v 0 4 = (M 0 4 + (M 0 5 + v) / M 0 2) % LM M := if_neg hL0
      refine z_iload_n C dX5_tick_0 rfl ?_
      refine z_iconst C (nI (0)) dX5_tick_1 (by decide) ?_
      refine z_sipush C (nI (9999)) dX5_tick_2 (by decide) ?_
      refine z_callSF C (k_X5_isWithin vl D cI cM A ad E hX (nI (v)) (nI (0)) (nI (9999))) (va_cwS 3 C.2.2.2.2.1 gX5_tick_X5_isWithin rfl rfl rfl (by decide +kernel) ⟨Nat.le_of_ble_eq_true rfl, Nat.le_of_ble_eq_true rfl⟩) rfl rfl (Nat.le_of_ble_eq_true rfl) ⟨Nat.zero_le _, Nat.zero_le _⟩ dX5_tick_5 ?_
      refine z_top (nI (1)) (iw_yN hv1 (by omega)) ?_
      refine z_if_neN C 14 (by omega) dX5_tick_8 (by decide) (fun h8 => ?_) (fun h8 => (by exfalso; omega))
      refine z_aload_n C dX5_tick_14 rfl ?_
      refine z_get C (0) (Cn := RX5) (T := TX5) (N := 12) (fi := 7) iw_X5_tick_5 rfl (by decide) ln_X5_tick_48 (by first | decide | omega) rfl e0 rfl dX5_tick_15 ?_
      refine z_if_leN C 60 (by omega) dX5_tick_18 (by decide) (fun h18 => (by exfalso; omega)) (fun h18 => ?_)
      refine z_aload_n C dX5_tick_21 rfl ?_
      refine z_get C (0) (Cn := RX5) (T := TX5) (N := 12) (fi := 11) iw_X5_tick_5 rfl (by decide) ln_X5_tick_60 (by first | decide | omega) rfl e0 rfl dX5_tick_22 ?_
      refine z_iload_n C dX5_tick_25 rfl ?_
      refine z_iaddN C  dX5_tick_26 ?_
      refine z_istore_n C [(0, .ref (ad 0)), (1, .int (nI (v))), (2, .int (nI ((M 0 5) + v)))] dX5_tick_27 (by decide) ⟨rfl, rfl, rfl, rfl, rfl, rfl, trivial⟩ ?_
      refine z_aload_n C dX5_tick_28 rfl ?_
      refine z_iload_n C dX5_tick_29 rfl ?_
      refine z_aload_n C dX5_tick_30 rfl ?_
      refine z_get C (0) (Cn := RX5) (T := TX5) (N := 12) (fi := 7) iw_X5_tick_5 rfl (by decide) ln_X5_tick_48 (by first | decide | omega) rfl e0 rfl dX5_tick_31 ?_
      refine z_iremN C (by omega) (by omega) (by omega) dX5_tick_34 ?_
      refine z_put C (0) (Cn := RX5) (T := TX5) (N := 12) (fi := 11) tyX5 iw_X5_tick_5 tyX5_ok nmX5 rfl (by decide) ln_X5_tick_60 hX (by first | decide | omega) rfl e0 rfl rfl rfl rfl (Nat.le_of_ble_eq_true rfl) dX5_tick_35 (fun Ez30 hE29 => ?_)
      have f32 : Ez30 (1) = .inr (0, [.ref (ad 2), .ref (ad 3)]) := va_up_of hE29 (by first | decide | omega) e1
      have f33 : Ez30 (2) = aI cI 27 (M 1) := va_up_of hE29 (by first | decide | omega) e2
      have f34 : Ez30 (3) = aI cI 162 (M 2) := va_up_of hE29 (by first | decide | omega) e3
      have f35 : Ez30 (4) = .inr (4, [.ref (ad 5), .int (nI (M 0 6))]) := va_up_of hE29 (by first | decide | omega) b4
      have f36 : Ez30 (5) = aI cI 12 (M 4) := va_up_of hE29 (by first | decide | omega) b5
      have f37 : Ez30 (6) = .inr (2, [.ref (ad 7), .int (nI (M 0 7))]) := va_up_of hE29 (by first | decide | omega) l6
      have f38 : Ez30 (7) = .inl (cM, 6, .inr (.inr (.inr (.inr (sf ad pm))))) := va_up_of hE29 (by first | decide | omega) l7
      have f39 : Ez30 (29) = aI cI 32 (M 3) := va_up_of hE29 (by first | decide | omega) e29
      have f40 : Ez30 (26) = .inr (3, [.ref (ad 27), .ref (ad 28), .int (nI (LM M))]) := va_up_of hE29 (by first | decide | omega) s26
      have f41 : Ez30 (0) = .inr (5, [.ref (ad 1), .ref (ad 4), .ref (ad 6), .ref (ad 26), .ref (ad 29), .int (nI (M 0 0)), .int (nI (M 0 1)), .int (nI (M 0 2)), .int (shI (M 0 8)), .int (nI (M 0 3)), .int (nI (M 0 4)), .int (nI (((M 0 5) + v) % (M 0 2)))]) := va_up_eq hE29
      have g42 : ∀ k : Nat, (k ≠ 0) → Ez30 k = E k := fun k hk => va_up_of hE29 (by omega) ((fun _ _ => rfl) k hk)
      refine z_aload_n C dX5_tick_38 rfl ?_
      refine z_aload_n C dX5_tick_39 rfl ?_
      refine z_get C (0) (Cn := RX5) (T := TX5) (N := 12) (fi := 3) iw_X5_tick_5 rfl (by decide) ln_X5_tick_33 (by first | decide | omega) rfl f41 rfl dX5_tick_40 ?_
      refine z_aload_n C dX5_tick_43 rfl ?_
      refine z_get C (0) (Cn := RX5) (T := TX5) (N := 12) (fi := 10) iw_X5_tick_5 rfl (by decide) ln_X5_tick_57 (by first | decide | omega) rfl f41 rfl dX5_tick_44 ?_
      refine z_iload_n C dX5_tick_47 rfl ?_
      refine z_aload_n C dX5_tick_48 rfl ?_
      refine z_get C (0) (Cn := RX5) (T := TX5) (N := 12) (fi := 7) iw_X5_tick_5 rfl (by decide) ln_X5_tick_48 (by first | decide | omega) rfl f41 rfl dX5_tick_49 ?_
      refine z_idivN C (by omega) (by omega) (by omega) dX5_tick_52 ?_
      refine z_iaddN C  dX5_tick_53 ?_
      refine z_callVF C (26) (Cn := RX3) (T := TX3) (N := 3) (k_wrap_p vl D cI cM A ad Ez30 hX f40 (by omega) (by omega)) (cwV 1 C.2.2.2.2.1 gX5_tick_X3_wrap rfl rfl rfl (by decide +kernel) ⟨Nat.le_of_ble_eq_true rfl, Nat.le_of_ble_eq_true rfl⟩) rfl (by first | decide | omega) rfl f40 rfl rfl (Nat.le_of_ble_eq_true rfl) ⟨Nat.zero_le _, Nat.zero_le _⟩ dX5_tick_54 ?_
      refine z_top (nI (tickM M v 0 4)) (by rw [ht4]) ?_
      refine z_put C (0) (Cn := RX5) (T := TX5) (N := 12) (fi := 10) tyX5 iw_X5_tick_5 tyX5_ok nmX5 rfl (by decide) ln_X5_tick_57 hX (by first | decide | omega) rfl f41 rfl rfl rfl rfl (Nat.le_of_ble_eq_true rfl) dX5_tick_57 (fun Ez44 hE43 => ?_)
      have f45 : Ez44 (1) = .inr (0, [.ref (ad 2), .ref (ad 3)]) := va_up_of hE43 (by first | decide | omega) f32
      have f46 : Ez44 (2) = aI cI 27 (M 1) := va_up_of hE43 (by first | decide | omega) f33
      have f47 : Ez44 (3) = aI cI 162 (M 2) := va_up_of hE43 (by first | decide | omega) f34
      have f48 : Ez44 (4) = .inr (4, [.ref (ad 5), .int (nI (M 0 6))]) := va_up_of hE43 (by first | decide | omega) f35
      have f49 : Ez44 (5) = aI cI 12 (M 4) := va_up_of hE43 (by first | decide | omega) f36
      have f50 : Ez44 (6) = .inr (2, [.ref (ad 7), .int (nI (M 0 7))]) := va_up_of hE43 (by first | decide | omega) f37
      have f51 : Ez44 (7) = .inl (cM, 6, .inr (.inr (.inr (.inr (sf ad pm))))) := va_up_of hE43 (by first | decide | omega) f38
      have f52 : Ez44 (29) = aI cI 32 (M 3) := va_up_of hE43 (by first | decide | omega) f39
      have f53 : Ez44 (26) = .inr (3, [.ref (ad 27), .ref (ad 28), .int (nI (LM M))]) := va_up_of hE43 (by first | decide | omega) f40
      have f55 : Ez44 (0) = .inr (5, [.ref (ad 1), .ref (ad 4), .ref (ad 6), .ref (ad 26), .ref (ad 29), .int (nI (M 0 0)), .int (nI (M 0 1)), .int (nI (M 0 2)), .int (shI (M 0 8)), .int (nI (M 0 3)), .int (nI (tickM M v 0 4)), .int (nI (((M 0 5) + v) % (M 0 2)))]) := va_up_eq hE43
      have g56 : ∀ k : Nat, (k ≠ 0) → Ez44 k = E k := fun k hk => va_up_of hE43 (by omega) (g42 k hk)
      refine z_aload_n C dX5_tick_60 rfl ?_
      refine z_get C (0) (Cn := RX5) (T := TX5) (N := 12) (fi := 10) iw_X5_tick_5 rfl (by decide) ln_X5_tick_57 (by first | decide | omega) rfl f55 rfl dX5_tick_61 ?_
      exact hend _ _ _ _ dX5_tick_64 (⟨by rw [hop], by rw [hop]; exact ⟨pm, ⟨f55, f45, f46, f47, f48, f49, f50, f51, hpm, hn6, (MsgY_mv hpm hMY (fun k hk => g56 k (by omega))), f52⟩, (MsgX_mv hpm hn6 hMX (fun k hk => g56 k (by omega))), hs.mv (g56 _ (by omega)) (g56 _ (by omega)) (g56 _ (by omega))⟩, fun k hk => g56 k (by omega)⟩)
  · have hop : o_tick M x = (-11, M) := wr_n hx
    refine z_iload_n C dX5_tick_0 rfl ?_
    refine z_iconst C (nI (0)) dX5_tick_1 (by decide) ?_
    refine z_sipush C (nI (9999)) dX5_tick_2 (by decide) ?_
    refine z_callSF C (k_X5_isWithin vl D cI cM A ad E hX (x) (nI (0)) (nI (9999))) (va_cwS 3 C.2.2.2.2.1 gX5_tick_X5_isWithin rfl rfl rfl (by decide +kernel) ⟨Nat.le_of_ble_eq_true rfl, Nat.le_of_ble_eq_true rfl⟩) rfl rfl (Nat.le_of_ble_eq_true rfl) ⟨Nat.zero_le _, Nat.zero_le _⟩ dX5_tick_5 ?_
    refine z_top (nI (0)) (iw_n hx) ?_
    refine z_if_neN C 14 (by omega) dX5_tick_8 (by decide) (fun h8 => (by exfalso; omega)) (fun h8 => ?_)
    refine z_bipush C (-11) dX5_tick_11 (by decide) ?_
    exact hend _ _ _ _ dX5_tick_13 (⟨by rw [hop], by rw [hop]; exact hR, fun _ _ => rfl⟩)

theorem mW_pos {wd le : Nat → Nat} (hw : ∀ c, c < 27 → 1 ≤ wd c) {k : Nat} (h : ∀ i, i < k → le i < 27) (h0 : 1 ≤ k) : 1 ≤ mW wd le k := by
  cases k with
  | zero => omega
  | succ k => rw [mW]; have := hw _ (h k (by omega)); omega
theorem sL_end {M : St} {j : Nat} (hj : j < M 0 7) : sL (M 1) (M 0 1) (M 5) (ltr (M 7)) j + mW (M 1) (ltr (M 7) j) (M 5 j) ≤ LM M := by
  have h := sL_mono (M 1) (M 0 1) (M 5) (ltr (M 7)) (i := j + 1) (n := M 0 7) hj
  have e : sL (M 1) (M 0 1) (M 5) (ltr (M 7)) (j + 1) = sL (M 1) (M 0 1) (M 5) (ltr (M 7)) j + mW (M 1) (ltr (M 7) j) (M 5 j) + M 0 1 := rfl
  unfold LM
  omega
theorem plc_ge {M : St} {j : Nat} (h : M 0 4 ≤ sL (M 1) (M 0 1) (M 5) (ltr (M 7)) j) : plc M j = (sL (M 1) (M 0 1) (M 5) (ltr (M 7)) j - M 0 4) % LM M := by
  unfold plc
  rw [show sL (M 1) (M 0 1) (M 5) (ltr (M 7)) j + LM M - M 0 4 = (sL (M 1) (M 0 1) (M 5) (ltr (M 7)) j - M 0 4) + LM M by omega, Nat.add_mod_right]
theorem plc_lt {M : St} {j : Nat} (h : sL (M 1) (M 0 1) (M 5) (ltr (M 7)) j < M 0 4) : plc M j = sL (M 1) (M 0 1) (M 5) (ltr (M 7)) j + LM M - M 0 4 := by
  unfold plc
  rcases Nat.eq_zero_or_pos (LM M) with e | e
  · rw [e, Nat.mod_zero]
  · exact Nat.mod_eq_of_lt (by omega)
theorem iw_X5_ticksUntilWhole_5 : ∀ w ∈ wsX50, w ∈ wsX5_ticksUntilWhole := by decide +kernel
theorem ln_X5_ticksUntilWhole_26 : Cond.fieldLink RX5 26 "MarqueeDisplay" "messages" "LMarqueeDisplay$MessageList;" ∈ wsX5_ticksUntilWhole := by decide +kernel
theorem ln_X5_ticksUntilWhole_41 : Cond.fieldLink RX5 41 "MarqueeDisplay" "columns" "I" ∈ wsX5_ticksUntilWhole := by decide +kernel
theorem iw_X5_ticksUntilWhole_1 : ∀ w ∈ wsX10, w ∈ wsX5_ticksUntilWhole := by decide +kernel
theorem ln_X5_ticksUntilWhole_33 : Cond.fieldLink RX5 33 "MarqueeDisplay" "strip" "LMarqueeDisplay$Strip;" ∈ wsX5_ticksUntilWhole := by decide +kernel
theorem ln_X5_ticksUntilWhole_57 : Cond.fieldLink RX5 57 "MarqueeDisplay" "offset" "I" ∈ wsX5_ticksUntilWhole := by decide +kernel
theorem ln_X5_ticksUntilWhole_48 : Cond.fieldLink RX5 48 "MarqueeDisplay" "speed" "I" ∈ wsX5_ticksUntilWhole := by decide +kernel
theorem ln_X5_ticksUntilWhole_60 : Cond.fieldLink RX5 60 "MarqueeDisplay" "counter" "I" ∈ wsX5_ticksUntilWhole := by decide +kernel
set_option maxHeartbeats 4000000 in
set_option maxRecDepth 100000 in
theorem k_X5_ticksUntilWhole (vl : Launch) (D : va_G) (cI cM : ClassId) (A : Nat → Prop) (ad : Nat → Nat) (E : Nat → va_E) (hX : XD A 32 ad) {M : St} (x : Int32) (hI : Inv M) (hR : RelX cI cM ad M E) : MF vl yX5_ticksUntilWhole wsX5_ticksUntilWhole { frames := 3, cells := 0, slots := 0, locals := 62 } D cI cM A 32 ad E [.ref (ad 0), .int (x)] (o_ticksUntilWhole M x) := by
  refine mf_of cX5_ticksUntilWhole 5 (.int) RX5 (by decide) rfl rfl (Nat.le_of_ble_eq_true rfl) (rfl) ?_
  intro vp ve vs vm va vb vt vc Q C hend
  refine z_lv [(0, .ref (ad 0)), (1, .int (x))] ⟨rfl, rfl, rfl, rfl, trivial⟩ ?_
  obtain ⟨pm, hY, hMX, hs⟩ := id hR
  obtain ⟨e0, e1, e2, e3, b4, b5, l6, l7, hpm, hn6, hMY, e29⟩ := id hY
  obtain ⟨_, _, s26, -, -, -⟩ := id hs
  rw [strip_len] at s26
  obtain ⟨⟨iW1, iW2⟩, iG, ⟨iS1, iS2⟩, ⟨iB1, iB2⟩, iO, iC, iT, iN, iSh, iWd, iDt, iZ, iDf, iDz, iTx, iMs⟩ := id hI.1
  have hLM := hI.1.LM_le
  have hsl := hI.1.slen
  have hld : ∀ a, ldM M a ≤ 512 := fun a => Nat.le_trans (ldS_le _ _ _ _ _) (by omega)
  have hl4 := hld (M 0 4)
  by_cases hx : ∃ j : Nat, j < M 0 7 ∧ x = nI j
  · obtain ⟨j, hj, rfl⟩ := hx
    have hop0 : o_ticksUntilWhole M (nI j) = if M 0 0 < mW (M 1) (ltr (M 7) j) (M 5 j) then -14 else if plc M j ≤ M 0 0 - mW (M 1) (ltr (M 7) j) (M 5 j) then nI 0 else nI ((plc M j - (M 0 0 - mW (M 1) (ltr (M 7) j) (M 5 j))) * M 0 2 - M 0 5) := wn_y hj (by omega)
    obtain ⟨g, ⟨m8, m9, m10⟩, hg⟩ := hMX j hj
    have hpj := hpm.1 j (by omega)
    have hse := sL_end hj
    have hmj := iMs j hj
    have hmp : 1 ≤ mW (M 1) (ltr (M 7) j) (M 5 j) := mW_pos (fun c hc => (iWd c hc).1) hmj.2.2 hmj.1.1
    by_cases hW : M 0 0 < mW (M 1) (ltr (M 7) j) (M 5 j)
    · have hop := hop0.trans (if_pos hW)
      refine z_aload_n C dX5_ticksUntilWhole_0 rfl ?_
      refine z_get C (0) (Cn := RX5) (T := TX5) (N := 12) (fi := 2) iw_X5_ticksUntilWhole_5 rfl (by decide) ln_X5_ticksUntilWhole_26 (by first | decide | omega) rfl e0 rfl dX5_ticksUntilWhole_1 ?_
      refine z_iload_n C dX5_ticksUntilWhole_4 rfl ?_
      refine z_callVQ C (6) (Cn := RX2) (T := TX2) (N := 2) (k_X2_find_y vl D cI cM A ad E hX l6 l7 hj hn6) (cwV 1 C.2.2.2.2.1 gX5_ticksUntilWhole_X2_find rfl rfl rfl (by decide +kernel) ⟨Nat.le_of_ble_eq_true rfl, Nat.le_of_ble_eq_true rfl⟩) rfl (by first | decide | omega) rfl l6 rfl rfl (Nat.le_of_ble_eq_true rfl) ⟨Nat.zero_le _, Nat.zero_le _⟩ dX5_ticksUntilWhole_5 ?_
      refine z_astore_n C [(0, .ref (ad 0)), (1, .int (nI (j))), (2, .ref (ad (8 + 3 * (pm j))))] dX5_ticksUntilWhole_8 (by decide) ⟨rfl, rfl, rfl, rfl, rfl, rfl, trivial⟩ ?_
      refine z_aload_n C dX5_ticksUntilWhole_9 rfl ?_
      refine z_ifnonnull C 16 dX5_ticksUntilWhole_10 (by decide) ?_
      refine z_aload_n C dX5_ticksUntilWhole_16 rfl ?_
      refine z_get C (0) (Cn := RX5) (T := TX5) (N := 12) (fi := 5) iw_X5_ticksUntilWhole_5 rfl (by decide) ln_X5_ticksUntilWhole_41 (by first | decide | omega) rfl e0 rfl dX5_ticksUntilWhole_17 ?_
      refine z_aload_n C dX5_ticksUntilWhole_20 rfl ?_
      refine z_getN C (8 + 3 * (pm j)) (Cn := RX1) (T := TX1) (N := 4) (fi := 3) iw_X5_ticksUntilWhole_1 rfl (by decide) nl_X5_127 (by first | decide | omega) rfl m8 rfl dX5_ticksUntilWhole_21 ?_
      refine z_isub C dX5_ticksUntilWhole_24  ?_
      refine z_istore_n C [(0, .ref (ad 0)), (1, .int (nI (j))), (2, .ref (ad (8 + 3 * (pm j)))), (3, .int ((nI (M 0 0)) - (nI (mW (M 1) (ltr (M 7) j) (M 5 j)))))] dX5_ticksUntilWhole_25 (by decide) ⟨rfl, rfl, rfl, rfl, rfl, rfl, rfl, rfl, trivial⟩ ?_
      refine z_iload_n C dX5_ticksUntilWhole_26 rfl ?_
      refine z_if_ge C 33 dX5_ticksUntilWhole_27 (by decide) (fun h27 => (by exfalso; exact absurd (pk_sneg (by omega) hW) (Int32.not_lt.mpr h27))) (fun h27 => ?_)
      refine z_bipush C (-14) dX5_ticksUntilWhole_30 (by decide) ?_
      exact hend _ _ _ dX5_ticksUntilWhole_32 (hop.symm)
    · by_cases hso : M 0 4 ≤ sL (M 1) (M 0 1) (M 5) (ltr (M 7)) j
      · have hpl := plc_ge hso
        have hpb : (sL (M 1) (M 0 1) (M 5) (ltr (M 7)) j - M 0 4) % LM M < LM M := Nat.mod_lt _ (by omega)
        refine z_aload_n C dX5_ticksUntilWhole_0 rfl ?_
        refine z_get C (0) (Cn := RX5) (T := TX5) (N := 12) (fi := 2) iw_X5_ticksUntilWhole_5 rfl (by decide) ln_X5_ticksUntilWhole_26 (by first | decide | omega) rfl e0 rfl dX5_ticksUntilWhole_1 ?_
        refine z_iload_n C dX5_ticksUntilWhole_4 rfl ?_
        refine z_callVQ C (6) (Cn := RX2) (T := TX2) (N := 2) (k_X2_find_y vl D cI cM A ad E hX l6 l7 hj hn6) (cwV 1 C.2.2.2.2.1 gX5_ticksUntilWhole_X2_find rfl rfl rfl (by decide +kernel) ⟨Nat.le_of_ble_eq_true rfl, Nat.le_of_ble_eq_true rfl⟩) rfl (by first | decide | omega) rfl l6 rfl rfl (Nat.le_of_ble_eq_true rfl) ⟨Nat.zero_le _, Nat.zero_le _⟩ dX5_ticksUntilWhole_5 ?_
        refine z_astore_n C [(0, .ref (ad 0)), (1, .int (nI (j))), (2, .ref (ad (8 + 3 * (pm j))))] dX5_ticksUntilWhole_8 (by decide) ⟨rfl, rfl, rfl, rfl, rfl, rfl, trivial⟩ ?_
        refine z_aload_n C dX5_ticksUntilWhole_9 rfl ?_
        refine z_ifnonnull C 16 dX5_ticksUntilWhole_10 (by decide) ?_
        refine z_aload_n C dX5_ticksUntilWhole_16 rfl ?_
        refine z_get C (0) (Cn := RX5) (T := TX5) (N := 12) (fi := 5) iw_X5_ticksUntilWhole_5 rfl (by decide) ln_X5_ticksUntilWhole_41 (by first | decide | omega) rfl e0 rfl dX5_ticksUntilWhole_17 ?_
        refine z_aload_n C dX5_ticksUntilWhole_20 rfl ?_
        refine z_getN C (8 + 3 * (pm j)) (Cn := RX1) (T := TX1) (N := 4) (fi := 3) iw_X5_ticksUntilWhole_1 rfl (by decide) nl_X5_127 (by first | decide | omega) rfl m8 rfl dX5_ticksUntilWhole_21 ?_
        refine z_isubN C (by omega) dX5_ticksUntilWhole_24 ?_
        refine z_istore_n C [(0, .ref (ad 0)), (1, .int (nI (j))), (2, .ref (ad (8 + 3 * (pm j)))), (3, .int (nI ((M 0 0) - (mW (M 1) (ltr (M 7) j) (M 5 j)))))] dX5_ticksUntilWhole_25 (by decide) ⟨rfl, rfl, rfl, rfl, rfl, rfl, rfl, rfl, trivial⟩ ?_
        refine z_iload_n C dX5_ticksUntilWhole_26 rfl ?_
        refine z_if_geN C 33 (by omega) dX5_ticksUntilWhole_27 (by decide) ?_
        refine z_aload_n C dX5_ticksUntilWhole_33 rfl ?_
        refine z_get C (0) (Cn := RX5) (T := TX5) (N := 12) (fi := 3) iw_X5_ticksUntilWhole_5 rfl (by decide) ln_X5_ticksUntilWhole_33 (by first | decide | omega) rfl e0 rfl dX5_ticksUntilWhole_34 ?_
        refine z_aload_n C dX5_ticksUntilWhole_37 rfl ?_
        refine z_getN C (8 + 3 * (pm j)) (Cn := RX1) (T := TX1) (N := 4) (fi := 2) iw_X5_ticksUntilWhole_1 rfl (by decide) nl_X5_130 (by first | decide | omega) rfl m8 rfl dX5_ticksUntilWhole_38 ?_
        refine z_aload_n C dX5_ticksUntilWhole_41 rfl ?_
        refine z_get C (0) (Cn := RX5) (T := TX5) (N := 12) (fi := 10) iw_X5_ticksUntilWhole_5 rfl (by decide) ln_X5_ticksUntilWhole_57 (by first | decide | omega) rfl e0 rfl dX5_ticksUntilWhole_42 ?_
        refine z_isubN C (by omega) dX5_ticksUntilWhole_45 ?_
        refine z_callVF C (26) (Cn := RX3) (T := TX3) (N := 3) (k_wrap_p vl D cI cM A ad E hX s26 (by omega) (by omega)) (cwV 1 C.2.2.2.2.1 gX5_ticksUntilWhole_X3_wrap rfl rfl rfl (by decide +kernel) ⟨Nat.le_of_ble_eq_true rfl, Nat.le_of_ble_eq_true rfl⟩) rfl (by first | decide | omega) rfl s26 rfl rfl (Nat.le_of_ble_eq_true rfl) ⟨Nat.zero_le _, Nat.zero_le _⟩ dX5_ticksUntilWhole_46 ?_
        refine z_istore C [(0, .ref (ad 0)), (1, .int (nI (j))), (2, .ref (ad (8 + 3 * (pm j)))), (3, .int (nI ((M 0 0) - (mW (M 1) (ltr (M 7) j) (M 5 j))))), (4, .int (nI ((sL (M 1) (M 0 1) (M 5) (ltr (M 7)) j - M 0 4) % LM M)))] dX5_ticksUntilWhole_49 (by decide) ⟨rfl, rfl, rfl, rfl, rfl, rfl, rfl, rfl, rfl, rfl, trivial⟩ ?_
        refine z_iload C dX5_ticksUntilWhole_51 rfl ?_
        refine z_iload_n C dX5_ticksUntilWhole_53 rfl ?_
        refine z_icmp_gtN C 61 (by omega) (by omega) dX5_ticksUntilWhole_54 (by decide) (fun h54 => ?_) (fun h54 => ?_)
        · refine z_iload C dX5_ticksUntilWhole_61 rfl ?_
          refine z_iload_n C dX5_ticksUntilWhole_63 rfl ?_
          refine z_isubN C (by omega) dX5_ticksUntilWhole_64 ?_
          refine z_aload_n C dX5_ticksUntilWhole_65 rfl ?_
          refine z_get C (0) (Cn := RX5) (T := TX5) (N := 12) (fi := 7) iw_X5_ticksUntilWhole_5 rfl (by decide) ln_X5_ticksUntilWhole_48 (by first | decide | omega) rfl e0 rfl dX5_ticksUntilWhole_66 ?_
          refine z_imulN C  dX5_ticksUntilWhole_69 ?_
          refine z_aload_n C dX5_ticksUntilWhole_70 rfl ?_
          refine z_get C (0) (Cn := RX5) (T := TX5) (N := 12) (fi := 11) iw_X5_ticksUntilWhole_5 rfl (by decide) ln_X5_ticksUntilWhole_60 (by first | decide | omega) rfl e0 rfl dX5_ticksUntilWhole_71 ?_
          refine z_isubN C (Nat.le_trans (Nat.le_of_lt iC) (Nat.le_mul_of_pos_left _ (by omega))) dX5_ticksUntilWhole_74 ?_
          exact hend _ _ _ dX5_ticksUntilWhole_75 (by rw [hop0, if_neg hW, if_neg (by omega), hpl])
        · refine z_iconst C (nI (0)) dX5_ticksUntilWhole_57 (by decide) ?_
          refine z_goto C 75 dX5_ticksUntilWhole_58 (by decide) ?_
          exact hend _ _ _ dX5_ticksUntilWhole_75 (by rw [hop0, if_neg hW, if_pos (by omega)])
      · have hpl := plc_lt (Nat.not_le.mp hso)
        refine z_aload_n C dX5_ticksUntilWhole_0 rfl ?_
        refine z_get C (0) (Cn := RX5) (T := TX5) (N := 12) (fi := 2) iw_X5_ticksUntilWhole_5 rfl (by decide) ln_X5_ticksUntilWhole_26 (by first | decide | omega) rfl e0 rfl dX5_ticksUntilWhole_1 ?_
        refine z_iload_n C dX5_ticksUntilWhole_4 rfl ?_
        refine z_callVQ C (6) (Cn := RX2) (T := TX2) (N := 2) (k_X2_find_y vl D cI cM A ad E hX l6 l7 hj hn6) (cwV 1 C.2.2.2.2.1 gX5_ticksUntilWhole_X2_find rfl rfl rfl (by decide +kernel) ⟨Nat.le_of_ble_eq_true rfl, Nat.le_of_ble_eq_true rfl⟩) rfl (by first | decide | omega) rfl l6 rfl rfl (Nat.le_of_ble_eq_true rfl) ⟨Nat.zero_le _, Nat.zero_le _⟩ dX5_ticksUntilWhole_5 ?_
        refine z_astore_n C [(0, .ref (ad 0)), (1, .int (nI (j))), (2, .ref (ad (8 + 3 * (pm j))))] dX5_ticksUntilWhole_8 (by decide) ⟨rfl, rfl, rfl, rfl, rfl, rfl, trivial⟩ ?_
        refine z_aload_n C dX5_ticksUntilWhole_9 rfl ?_
        refine z_ifnonnull C 16 dX5_ticksUntilWhole_10 (by decide) ?_
        refine z_aload_n C dX5_ticksUntilWhole_16 rfl ?_
        refine z_get C (0) (Cn := RX5) (T := TX5) (N := 12) (fi := 5) iw_X5_ticksUntilWhole_5 rfl (by decide) ln_X5_ticksUntilWhole_41 (by first | decide | omega) rfl e0 rfl dX5_ticksUntilWhole_17 ?_
        refine z_aload_n C dX5_ticksUntilWhole_20 rfl ?_
        refine z_getN C (8 + 3 * (pm j)) (Cn := RX1) (T := TX1) (N := 4) (fi := 3) iw_X5_ticksUntilWhole_1 rfl (by decide) nl_X5_127 (by first | decide | omega) rfl m8 rfl dX5_ticksUntilWhole_21 ?_
        refine z_isubN C (by omega) dX5_ticksUntilWhole_24 ?_
        refine z_istore_n C [(0, .ref (ad 0)), (1, .int (nI (j))), (2, .ref (ad (8 + 3 * (pm j)))), (3, .int (nI ((M 0 0) - (mW (M 1) (ltr (M 7) j) (M 5 j)))))] dX5_ticksUntilWhole_25 (by decide) ⟨rfl, rfl, rfl, rfl, rfl, rfl, rfl, rfl, trivial⟩ ?_
        refine z_iload_n C dX5_ticksUntilWhole_26 rfl ?_
        refine z_if_geN C 33 (by omega) dX5_ticksUntilWhole_27 (by decide) ?_
        refine z_aload_n C dX5_ticksUntilWhole_33 rfl ?_
        refine z_get C (0) (Cn := RX5) (T := TX5) (N := 12) (fi := 3) iw_X5_ticksUntilWhole_5 rfl (by decide) ln_X5_ticksUntilWhole_33 (by first | decide | omega) rfl e0 rfl dX5_ticksUntilWhole_34 ?_
        refine z_aload_n C dX5_ticksUntilWhole_37 rfl ?_
        refine z_getN C (8 + 3 * (pm j)) (Cn := RX1) (T := TX1) (N := 4) (fi := 2) iw_X5_ticksUntilWhole_1 rfl (by decide) nl_X5_130 (by first | decide | omega) rfl m8 rfl dX5_ticksUntilWhole_38 ?_
        refine z_aload_n C dX5_ticksUntilWhole_41 rfl ?_
        refine z_get C (0) (Cn := RX5) (T := TX5) (N := 12) (fi := 10) iw_X5_ticksUntilWhole_5 rfl (by decide) ln_X5_ticksUntilWhole_57 (by first | decide | omega) rfl e0 rfl dX5_ticksUntilWhole_42 ?_
        refine z_isub C dX5_ticksUntilWhole_45  ?_
        refine z_callVF C (26) (Cn := RX3) (T := TX3) (N := 3) (k_wrap_m vl D cI cM A ad E hX s26 (Nat.not_le.mp hso) (by rcases hI.2 with q | q <;> omega) (by omega) (by omega)) (cwV 1 C.2.2.2.2.1 gX5_ticksUntilWhole_X3_wrap rfl rfl rfl (by decide +kernel) ⟨Nat.le_of_ble_eq_true rfl, Nat.le_of_ble_eq_true rfl⟩) rfl (by first | decide | omega) rfl s26 rfl rfl (Nat.le_of_ble_eq_true rfl) ⟨Nat.zero_le _, Nat.zero_le _⟩ dX5_ticksUntilWhole_46 ?_
        refine z_istore C [(0, .ref (ad 0)), (1, .int (nI (j))), (2, .ref (ad (8 + 3 * (pm j)))), (3, .int (nI ((M 0 0) - (mW (M 1) (ltr (M 7) j) (M 5 j))))), (4, .int (nI (sL (M 1) (M 0 1) (M 5) (ltr (M 7)) j + LM M - M 0 4)))] dX5_ticksUntilWhole_49 (by decide) ⟨rfl, rfl, rfl, rfl, rfl, rfl, rfl, rfl, rfl, rfl, trivial⟩ ?_
        refine z_iload C dX5_ticksUntilWhole_51 rfl ?_
        refine z_iload_n C dX5_ticksUntilWhole_53 rfl ?_
        refine z_icmp_gtN C 61 (by omega) (by omega) dX5_ticksUntilWhole_54 (by decide) (fun h54 => ?_) (fun h54 => ?_)
        · refine z_iload C dX5_ticksUntilWhole_61 rfl ?_
          refine z_iload_n C dX5_ticksUntilWhole_63 rfl ?_
          refine z_isubN C (by omega) dX5_ticksUntilWhole_64 ?_
          refine z_aload_n C dX5_ticksUntilWhole_65 rfl ?_
          refine z_get C (0) (Cn := RX5) (T := TX5) (N := 12) (fi := 7) iw_X5_ticksUntilWhole_5 rfl (by decide) ln_X5_ticksUntilWhole_48 (by first | decide | omega) rfl e0 rfl dX5_ticksUntilWhole_66 ?_
          refine z_imulN C  dX5_ticksUntilWhole_69 ?_
          refine z_aload_n C dX5_ticksUntilWhole_70 rfl ?_
          refine z_get C (0) (Cn := RX5) (T := TX5) (N := 12) (fi := 11) iw_X5_ticksUntilWhole_5 rfl (by decide) ln_X5_ticksUntilWhole_60 (by first | decide | omega) rfl e0 rfl dX5_ticksUntilWhole_71 ?_
          refine z_isubN C (Nat.le_trans (Nat.le_of_lt iC) (Nat.le_mul_of_pos_left _ (by omega))) dX5_ticksUntilWhole_74 ?_
          exact hend _ _ _ dX5_ticksUntilWhole_75 (by rw [hop0, if_neg hW, if_neg (by omega), hpl])
        · refine z_iconst C (nI (0)) dX5_ticksUntilWhole_57 (by decide) ?_
          refine z_goto C 75 dX5_ticksUntilWhole_58 (by decide) ?_
          exact hend _ _ _ dX5_ticksUntilWhole_75 (by rw [hop0, if_neg hW, if_pos (by omega)])
  · have hop : o_ticksUntilWhole M x = -11 := wn_n (by omega) hx
    refine z_aload_n C dX5_ticksUntilWhole_0 rfl ?_
    refine z_get C (0) (Cn := RX5) (T := TX5) (N := 12) (fi := 2) iw_X5_ticksUntilWhole_5 rfl (by decide) ln_X5_ticksUntilWhole_26 (by first | decide | omega) rfl e0 rfl dX5_ticksUntilWhole_1 ?_
    refine z_iload_n C dX5_ticksUntilWhole_4 rfl ?_
    refine z_callVQ C (6) (Cn := RX2) (T := TX2) (N := 2) (k_X2_find_n vl D cI cM A ad E hX l6 l7 hx hn6) (cwV 1 C.2.2.2.2.1 gX5_ticksUntilWhole_X2_find rfl rfl rfl (by decide +kernel) ⟨Nat.le_of_ble_eq_true rfl, Nat.le_of_ble_eq_true rfl⟩) rfl (by first | decide | omega) rfl l6 rfl rfl (Nat.le_of_ble_eq_true rfl) ⟨Nat.zero_le _, Nat.zero_le _⟩ dX5_ticksUntilWhole_5 ?_
    refine z_astore_nN C [(0, .ref (ad 0)), (1, .int (x)), (2, .null)] dX5_ticksUntilWhole_8 (by decide) ⟨rfl, rfl, rfl, rfl, rfl, rfl, trivial⟩ ?_
    refine z_aload_nN C dX5_ticksUntilWhole_9 rfl ?_
    refine z_ifnonnullN C dX5_ticksUntilWhole_10 ?_
    refine z_bipush C (-11) dX5_ticksUntilWhole_13 (by decide) ?_
    exact hend _ _ _ dX5_ticksUntilWhole_15 (hop.symm)

theorem iw_X5_pixel_5 : ∀ w ∈ wsX50, w ∈ wsX5_pixel := by decide +kernel
theorem ln_X5_pixel_57 : Cond.fieldLink RX5 57 "MarqueeDisplay" "offset" "I" ∈ wsX5_pixel := by decide +kernel
theorem ln_X5_pixel_33 : Cond.fieldLink RX5 33 "MarqueeDisplay" "strip" "LMarqueeDisplay$Strip;" ∈ wsX5_pixel := by decide +kernel
set_option maxHeartbeats 4000000 in
set_option maxRecDepth 100000 in
theorem k_X5_pixel (vl : Launch) (D : va_G) (cI cM : ClassId) (A : Nat → Prop) (ad : Nat → Nat) (E : Nat → va_E) (hX : XD A 32 ad) {M : St} (x y : Int32) (hI : Inv M) (hR : RelX cI cM ad M E) : MF vl yX5_pixel wsX5_pixel { frames := 4, cells := 0, slots := 0, locals := 87 } D cI cM A 32 ad E [.ref (ad 0), .int (x), .int (y)] (o_pixel M x y) := by
  refine mf_of cX5_pixel 4 (.int) RX5 (by decide) rfl rfl (Nat.le_of_ble_eq_true rfl) (rfl) ?_
  intro vp ve vs vm va vb vt vc Q C hend
  refine z_lv [(0, .ref (ad 0)), (1, .int (x)), (2, .int (y))] ⟨rfl, rfl, rfl, rfl, rfl, rfl, trivial⟩ ?_
  obtain ⟨pm, hY, hMX, hs⟩ := id hR
  obtain ⟨e0, e1, e2, e3, b4, b5, l6, l7, hpm, hn6, hMY, e29⟩ := id hY
  obtain ⟨_, _, s26, -, -, -⟩ := id hs
  rw [strip_len] at s26
  obtain ⟨⟨iW1, iW2⟩, iG, ⟨iS1, iS2⟩, ⟨iB1, iB2⟩, iO, iC, iT, iN, iSh, iWd, iDt, iZ, iDf, iDz, iTx, iMs⟩ := id hI.1
  have hLM := hI.1.LM_le
  have hsl := hI.1.slen
  have hld : ∀ a, ldM M a ≤ 512 := fun a => Nat.le_trans (ldS_le _ _ _ _ _) (by omega)
  have hl4 := hld (M 0 4)
  by_cases hxy : (∃ r : Nat, r ≤ 7 ∧ x = nI r) ∧ ∃ c : Nat, c < M 0 0 ∧ y = nI c
  · obtain ⟨⟨r, hr, rfl⟩, c, hc, rfl⟩ := hxy
    have hop0 : o_pixel M (nI r) (nI c) = if b1 (lit (dotc (stripM M) (M 0 4 + c)) (M 0 8) (M 3 c)) r = 1 then nI (colc (stripM M) (M 0 4 + c)) else nI 0 := (wr_y ⟨Nat.zero_le _, hr⟩ (by decide)).trans (wn_y hc (by omega))
    have hbl := b1_le (lit (dotc (stripM M) (M 0 4 + c)) (M 0 8) (M 3 c)) r
    refine z_aload_n C dX5_pixel_0 rfl ?_
    refine z_iload_n C dX5_pixel_1 rfl ?_
    refine z_iload_n C dX5_pixel_2 rfl ?_
    refine z_callVF C (0) (Cn := RX5) (T := TX5) (N := 12) (k_isLed_y vl D cI cM A ad E hX e0 hr hc iW2) (cwV 2 C.2.2.2.2.1 gX5_pixel_X5_isLed rfl rfl rfl (by decide +kernel) ⟨Nat.le_of_ble_eq_true rfl, Nat.le_of_ble_eq_true rfl⟩) rfl (by first | decide | omega) rfl e0 rfl rfl (Nat.le_of_ble_eq_true rfl) ⟨Nat.zero_le _, Nat.zero_le _⟩ dX5_pixel_3 ?_
    refine z_if_neN C 12 (by omega) dX5_pixel_6 (by decide) (fun h6 => ?_) (fun h6 => (by exfalso; omega))
    refine z_aload_n C dX5_pixel_12 rfl ?_
    refine z_aload_n C dX5_pixel_13 rfl ?_
    refine z_get C (0) (Cn := RX5) (T := TX5) (N := 12) (fi := 10) iw_X5_pixel_5 rfl (by decide) ln_X5_pixel_57 (by first | decide | omega) rfl e0 rfl dX5_pixel_14 ?_
    refine z_iload_n C dX5_pixel_17 rfl ?_
    refine z_callVF C (0) (Cn := RX5) (T := TX5) (N := 12) (k_X5_litRows vl D cI cM A ad E hX e0 e29 hs hsl hI.1.dot iDf iSh (by omega) (by omega)) (cwV 2 C.2.2.2.2.1 gX5_pixel_X5_litRows rfl rfl rfl (by decide +kernel) ⟨Nat.le_of_ble_eq_true rfl, Nat.le_of_ble_eq_true rfl⟩) rfl (by first | decide | omega) rfl e0 rfl rfl (Nat.le_of_ble_eq_true rfl) ⟨Nat.zero_le _, Nat.zero_le _⟩ dX5_pixel_18 ?_
    refine z_iload_n C dX5_pixel_21 rfl ?_
    refine z_ishr C dX5_pixel_22  ?_
    refine z_iconst C (nI (1)) dX5_pixel_23 (by decide) ?_
    refine z_iand C dX5_pixel_24  ?_
    refine z_top (nI (b1 (lit (dotc (stripM M) (M 0 4 + c)) (M 0 8) (M 3 c)) r)) (b1_sh _ (lit_lt (hI.1.dot _)) _ (by omega)) ?_
    refine z_iconst C (nI (1)) dX5_pixel_25 (by decide) ?_
    refine z_icmp_neN C 33 (by omega) (by omega) dX5_pixel_26 (by decide) (fun h26 => ?_) (fun h26 => ?_)
    · refine z_iconst C (nI (0)) dX5_pixel_33 (by decide) ?_
      refine z_istore_n C [(0, .ref (ad 0)), (1, .int (nI (r))), (2, .int (nI (c))), (3, .int (nI (0)))] dX5_pixel_34 (by decide) ⟨rfl, rfl, rfl, rfl, rfl, rfl, rfl, rfl, trivial⟩ ?_
      refine z_iload_n C dX5_pixel_35 rfl ?_
      refine z_if_eqN C 55 (by omega) dX5_pixel_36 (by decide) (fun h36 => ?_) (fun h36 => (by exfalso; omega))
      refine z_iconst C (nI (0)) dX5_pixel_55 (by decide) ?_
      exact hend _ _ _ dX5_pixel_56 ((hop0.trans (if_neg h26)).symm)
    · refine z_iconst C (nI (1)) dX5_pixel_29 (by decide) ?_
      refine z_goto C 34 dX5_pixel_30 (by decide) ?_
      refine z_istore_n C [(0, .ref (ad 0)), (1, .int (nI (r))), (2, .int (nI (c))), (3, .int (nI (1)))] dX5_pixel_34 (by decide) ⟨rfl, rfl, rfl, rfl, rfl, rfl, rfl, rfl, trivial⟩ ?_
      refine z_iload_n C dX5_pixel_35 rfl ?_
      refine z_if_eqN C 55 (by omega) dX5_pixel_36 (by decide) (fun h36 => (by exfalso; omega)) (fun h36 => ?_)
      refine z_aload_n C dX5_pixel_39 rfl ?_
      refine z_get C (0) (Cn := RX5) (T := TX5) (N := 12) (fi := 3) iw_X5_pixel_5 rfl (by decide) ln_X5_pixel_33 (by first | decide | omega) rfl e0 rfl dX5_pixel_40 ?_
      refine z_aload_n C dX5_pixel_43 rfl ?_
      refine z_get C (0) (Cn := RX5) (T := TX5) (N := 12) (fi := 10) iw_X5_pixel_5 rfl (by decide) ln_X5_pixel_57 (by first | decide | omega) rfl e0 rfl dX5_pixel_44 ?_
      refine z_iload_n C dX5_pixel_47 rfl ?_
      refine z_iaddN C  dX5_pixel_48 ?_
      refine z_callVF C (26) (Cn := RX3) (T := TX3) (N := 3) (k_X3_colorAt vl D cI cM A ad E hX hs (by omega) hsl) (cwV 1 C.2.2.2.2.1 gX5_pixel_X3_colorAt rfl rfl rfl (by decide +kernel) ⟨Nat.le_of_ble_eq_true rfl, Nat.le_of_ble_eq_true rfl⟩) rfl (by first | decide | omega) rfl s26 rfl rfl (Nat.le_of_ble_eq_true rfl) ⟨Nat.zero_le _, Nat.zero_le _⟩ dX5_pixel_49 ?_
      refine z_goto C 56 dX5_pixel_52 (by decide) ?_
      exact hend _ _ _ dX5_pixel_56 ((hop0.trans (if_pos h26)).symm)
  · have hop : o_pixel M x y = -11 := by
      unfold o_pixel
      rcases wr_c 0 7 x (by decide) (by decide) with ⟨r, hr, rfl⟩ | hx
      · rw [wr_y hr (by decide)]; exact wn_n (by omega) (fun q => hxy ⟨⟨r, hr.2, rfl⟩, q⟩)
      · exact wr_n hx
    refine z_aload_n C dX5_pixel_0 rfl ?_
    refine z_iload_n C dX5_pixel_1 rfl ?_
    refine z_iload_n C dX5_pixel_2 rfl ?_
    refine z_callVF C (0) (Cn := RX5) (T := TX5) (N := 12) (k_isLed_n vl D cI cM A ad E hX e0 hxy ⟨iW1, iW2⟩) (cwV 2 C.2.2.2.2.1 gX5_pixel_X5_isLed rfl rfl rfl (by decide +kernel) ⟨Nat.le_of_ble_eq_true rfl, Nat.le_of_ble_eq_true rfl⟩) rfl (by first | decide | omega) rfl e0 rfl rfl (Nat.le_of_ble_eq_true rfl) ⟨Nat.zero_le _, Nat.zero_le _⟩ dX5_pixel_3 ?_
    refine z_if_neN C 12 (by omega) dX5_pixel_6 (by decide) (fun h6 => (by exfalso; omega)) (fun h6 => ?_)
    refine z_bipush C (-11) dX5_pixel_9 (by decide) ?_
    exact hend _ _ _ dX5_pixel_11 (hop.symm)

def bsT (f : Nat → Nat) : Nat → Nat
  | 0 => 2
  | i + 1 => bet f (bsT f i) (shs i)
theorem shs_le : ∀ i, i < 5 → shs i ≤ 4 := by decide
theorem bsT_le (f : Nat → Nat) : ∀ i, i ≤ 5 → bsT f i ≤ 4
  | 0, _ => by show 2 ≤ 4; decide
  | i + 1, h => by
    rw [bsT]
    unfold bet
    split
    · exact shs_le i (by omega)
    · exact bsT_le f i (by omega)
theorem bsT_5 (f : Nat → Nat) : bsT f 5 = bestT f := by
  show bet f (bet f (bet f (bet f (bet f 2 2) 1) 3) 0) 4 = bestT f
  have e : bet f 2 2 = 2 := by unfold bet; rw [if_neg (Nat.lt_irrefl _)]
  rw [e]; rfl
theorem dmM_le (M : St) (hW : M 0 0 ≤ 32) (t : Nat) : dmM M t ≤ 256 := by
  have h : dmM M t ≤ M 0 0 * 8 := sm_le (fun k _ => dmS_le (stripM M) t (M 3) (M 0 4) k)
  omega
theorem iw_X5_adoptBestShift_5 : ∀ w ∈ wsX50, w ∈ wsX5_adoptBestShift := by decide +kernel
theorem ln_X5_adoptBestShift_51 : Cond.fieldLink RX5 51 "MarqueeDisplay" "shift" "I" ∈ wsX5_adoptBestShift := by decide +kernel
set_option maxHeartbeats 4000000 in
set_option maxRecDepth 100000 in
theorem k_X5_adoptBestShift (vl : Launch) (D : va_G) (cI cM : ClassId) (A : Nat → Prop) (ad : Nat → Nat) (E : Nat → va_E) (hX : XD A 32 ad) {M : St} {t0 : Nat} (hI : Inv M) (hR : RelX cI cM ad M E) : MIZ vl yX5_adoptBestShift wsX5_adoptBestShift { frames := 4, cells := 0, slots := 0, locals := 90 } D cI cM A 32 ad E [.ref (ad 0)] t0 (fun r E1 => r = (o_adoptBestShift M).1 ∧ RelX cI cM ad (o_adoptBestShift M).2 E1 ∧ ∀ k : Nat, 30 ≤ k → E1 k = E k) := by
  refine miz_of cX5_adoptBestShift 8 (.int) RX5 (by decide) rfl rfl (Nat.le_of_ble_eq_true rfl) (fun r E1 h => rfl) ?_
  intro vp ve vs vm va vb vt vc Q C hz hend
  refine z_lv [(0, .ref (ad 0))] ⟨rfl, rfl, trivial⟩ ?_
  obtain ⟨pm, hY, hMX, hs⟩ := id hR
  obtain ⟨e0, e1, e2, e3, b4, b5, l6, l7, hpm, hn6, hMY, e29⟩ := id hY
  obtain ⟨_, _, s26, -, -, -⟩ := id hs
  rw [strip_len] at s26
  obtain ⟨⟨iW1, iW2⟩, iG, ⟨iS1, iS2⟩, ⟨iB1, iB2⟩, iO, iC, iT, iN, iSh, iWd, iDt, iZ, iDf, iDz, iTx, iMs⟩ := id hI.1
  have hLM := hI.1.LM_le
  have hsl := hI.1.slen
  have hld : ∀ a, ldM M a ≤ 512 := fun a => Nat.le_trans (ldS_le _ _ _ _ _) (by omega)
  have hl4 := hld (M 0 4)
  have hdl := dmM_le M iW2
  refine z_iconst C (nI (0)) dX5_adoptBestShift_0 (by decide) ?_
  refine z_top (shI (bsT (dmM M) 0)) (by show nI 0 = shI 2; decide) ?_
  refine z_istore_n C [(0, .ref (ad 0)), (1, .int (shI (bsT (dmM M) 0)))] dX5_adoptBestShift_1 (by decide) ⟨rfl, rfl, rfl, rfl, trivial⟩ ?_
  refine z_aload_n C dX5_adoptBestShift_2 rfl ?_
  refine z_iconst C (nI (0)) dX5_adoptBestShift_3 (by decide) ?_
  refine z_callVF C (0) (Cn := RX5) (T := TX5) (N := 12) (k_X5_damageWith vl D cI cM A ad E hX e0 e29 hs hsl hI.1.dot iDf (t2 := 2) (by decide) (by omega) iW2) (cwV 1 C.2.2.2.2.1 gX5_adoptBestShift_X5_damageWith rfl rfl rfl (by decide +kernel) ⟨Nat.le_of_ble_eq_true rfl, Nat.le_of_ble_eq_true rfl⟩) rfl (by first | decide | omega) rfl e0 rfl rfl (Nat.le_of_ble_eq_true rfl) ⟨Nat.zero_le _, Nat.zero_le _⟩ dX5_adoptBestShift_4 ?_
  refine z_istore_n C [(0, .ref (ad 0)), (1, .int (shI (bsT (dmM M) 0))), (2, .int (nI (dmM M 2)))] dX5_adoptBestShift_7 (by decide) ⟨rfl, rfl, rfl, rfl, rfl, rfl, trivial⟩ ?_
  refine z_gets C hz (by decide +kernel) dX5_adoptBestShift_8 ?_
  refine z_astore_n C [(0, .ref (ad 0)), (1, .int (shI (bsT (dmM M) 0))), (2, .int (nI (dmM M 2))), (3, .ref (t0))] dX5_adoptBestShift_11 (by decide) ⟨rfl, rfl, rfl, rfl, rfl, rfl, rfl, rfl, trivial⟩ ?_
  refine z_aload_n C dX5_adoptBestShift_12 rfl ?_
  refine z_tlen C hz dX5_adoptBestShift_13 ?_
  refine z_istore C [(0, .ref (ad 0)), (1, .int (shI (bsT (dmM M) 0))), (2, .int (nI (dmM M 2))), (3, .ref (t0)), (4, .int (nI (5)))] dX5_adoptBestShift_14 (by decide) ⟨rfl, rfl, rfl, rfl, rfl, rfl, rfl, rfl, rfl, rfl, trivial⟩ ?_
  refine z_iconst C (nI (0)) dX5_adoptBestShift_16 (by decide) ?_
  refine z_istore C [(0, .ref (ad 0)), (1, .int (shI (bsT (dmM M) 0))), (2, .int (nI (dmM M 2))), (3, .ref (t0)), (4, .int (nI (5))), (5, .int (nI (0)))] dX5_adoptBestShift_17 (by decide) ⟨rfl, rfl, rfl, rfl, rfl, rfl, rfl, rfl, rfl, rfl, rfl, rfl, trivial⟩ ?_
  have loop19 : ∀ (fuel : Nat) (i : Nat), (hi : i ≤ 5) → 5 - i < fuel → Z vp vl ve { frames := 4, cells := 0, slots := 0, locals := 90 } vs vm va vb vt vc 8 D A 32 ad E [(0, .ref (ad 0)), (1, .int (shI (bsT (dmM M) i))), (2, .int (nI (dmM M (bsT (dmM M) i)))), (3, .ref (t0)), (4, .int (nI (5))), (5, .int (nI (i)))] 0 0 Q 19 [] := by
    intro fuel
    induction fuel with
    | zero => intro i hi hlt; exact absurd hlt (Nat.not_lt_zero _)
    | succ fuel ih =>
      intro i hi hlt
      have hb4 := bsT_le (dmM M) i hi
      have hd1 := hdl (bsT (dmM M) i)
      have ih19 := ih
      refine z_iload C dX5_adoptBestShift_19 rfl ?_
      refine z_iload C dX5_adoptBestShift_21 rfl ?_
      refine z_icmp_geN C 58 (by omega) (by omega) dX5_adoptBestShift_23 (by decide) (fun h23 => ?_) (fun h23 => ?_)
      · have hie : i = 5 := by omega
        have hbe : bsT (dmM M) i = bestT (dmM M) := by rw [hie, bsT_5]
        refine z_aload_n C dX5_adoptBestShift_58 rfl ?_
        refine z_iload_n C dX5_adoptBestShift_59 rfl ?_
        refine z_put C (0) (Cn := RX5) (T := TX5) (N := 12) (fi := 8) tyX5 iw_X5_adoptBestShift_5 tyX5_ok nmX5 rfl (by decide) ln_X5_adoptBestShift_51 hX (by first | decide | omega) rfl e0 rfl rfl rfl rfl (Nat.le_of_ble_eq_true rfl) dX5_adoptBestShift_60 (fun Ez2 hE1 => ?_)
        have f4 : Ez2 (1) = .inr (0, [.ref (ad 2), .ref (ad 3)]) := va_up_of hE1 (by first | decide | omega) e1
        have f5 : Ez2 (2) = aI cI 27 (M 1) := va_up_of hE1 (by first | decide | omega) e2
        have f6 : Ez2 (3) = aI cI 162 (M 2) := va_up_of hE1 (by first | decide | omega) e3
        have f7 : Ez2 (4) = .inr (4, [.ref (ad 5), .int (nI (M 0 6))]) := va_up_of hE1 (by first | decide | omega) b4
        have f8 : Ez2 (5) = aI cI 12 (M 4) := va_up_of hE1 (by first | decide | omega) b5
        have f9 : Ez2 (6) = .inr (2, [.ref (ad 7), .int (nI (M 0 7))]) := va_up_of hE1 (by first | decide | omega) l6
        have f10 : Ez2 (7) = .inl (cM, 6, .inr (.inr (.inr (.inr (sf ad pm))))) := va_up_of hE1 (by first | decide | omega) l7
        have f11 : Ez2 (29) = aI cI 32 (M 3) := va_up_of hE1 (by first | decide | omega) e29
        have f12 : Ez2 (26) = .inr (3, [.ref (ad 27), .ref (ad 28), .int (nI (LM M))]) := va_up_of hE1 (by first | decide | omega) s26
        have f13 : Ez2 (0) = .inr (5, [.ref (ad 1), .ref (ad 4), .ref (ad 6), .ref (ad 26), .ref (ad 29), .int (nI (M 0 0)), .int (nI (M 0 1)), .int (nI (M 0 2)), .int (shI (bsT (dmM M) i)), .int (nI (M 0 3)), .int (nI (M 0 4)), .int (nI (M 0 5))]) := va_up_eq hE1
        have g14 : ∀ k : Nat, (k ≠ 0) → Ez2 k = E k := fun k hk => va_up_of hE1 (by omega) ((fun _ _ => rfl) k hk)
        refine z_iload_n C dX5_adoptBestShift_63 rfl ?_
        exact hend _ _ _ _ dX5_adoptBestShift_64 (⟨by rw [hbe]; rfl, by show RelX cI cM ad (s0 M 8 (bestT (dmM M))) _; rw [← hbe]; exact ⟨pm, ⟨f13, f4, f5, f6, f7, f8, f9, f10, hpm, hn6, (MsgY_mv hpm hMY (fun k hk => g14 k (by omega))), f11⟩, (MsgX_mv hpm hn6 hMX (fun k hk => g14 k (by omega))), hs.mv (g14 _ (by omega)) (g14 _ (by omega)) (g14 _ (by omega))⟩, fun k hk => g14 k (by omega)⟩)
      · have hd2 := hdl (shs i)
        refine z_aload_n C dX5_adoptBestShift_26 rfl ?_
        refine z_iload C dX5_adoptBestShift_27 rfl ?_
        refine z_ti C hz (by omega) dX5_adoptBestShift_29 ?_
        refine z_istore C [(0, .ref (ad 0)), (1, .int (shI (bsT (dmM M) i))), (2, .int (nI (dmM M (bsT (dmM M) i)))), (3, .ref (t0)), (4, .int (nI (5))), (5, .int (nI (i))), (6, .int (shI (shs (i))))] dX5_adoptBestShift_30 (by decide) ⟨rfl, rfl, rfl, rfl, rfl, rfl, rfl, rfl, rfl, rfl, rfl, rfl, rfl, rfl, trivial⟩ ?_
        refine z_aload_n C dX5_adoptBestShift_32 rfl ?_
        refine z_iload C dX5_adoptBestShift_33 rfl ?_
        refine z_callVF C (0) (Cn := RX5) (T := TX5) (N := 12) (k_X5_damageWith vl D cI cM A ad E hX e0 e29 hs hsl hI.1.dot iDf (shs_le i h23) (by omega) iW2) (cwV 1 C.2.2.2.2.1 gX5_adoptBestShift_X5_damageWith rfl rfl rfl (by decide +kernel) ⟨Nat.le_of_ble_eq_true rfl, Nat.le_of_ble_eq_true rfl⟩) rfl (by first | decide | omega) rfl e0 rfl rfl (Nat.le_of_ble_eq_true rfl) ⟨Nat.zero_le _, Nat.zero_le _⟩ dX5_adoptBestShift_35 ?_
        refine z_istore C [(0, .ref (ad 0)), (1, .int (shI (bsT (dmM M) i))), (2, .int (nI (dmM M (bsT (dmM M) i)))), (3, .ref (t0)), (4, .int (nI (5))), (5, .int (nI (i))), (6, .int (shI (shs (i)))), (7, .int (nI (dmM M (shs i))))] dX5_adoptBestShift_38 (by decide) ⟨rfl, rfl, rfl, rfl, rfl, rfl, rfl, rfl, rfl, rfl, rfl, rfl, rfl, rfl, rfl, rfl, trivial⟩ ?_
        refine z_iload C dX5_adoptBestShift_40 rfl ?_
        refine z_iload_n C dX5_adoptBestShift_42 rfl ?_
        refine z_icmp_geN C 52 (by omega) (by omega) dX5_adoptBestShift_43 (by decide) (fun h43 => ?_) (fun h43 => ?_)
        · refine z_iincN (j := 1) C [(0, .ref (ad 0)), (1, .int (shI (bsT (dmM M) i))), (2, .int (nI (dmM M (bsT (dmM M) i)))), (3, .ref (t0)), (4, .int (nI (5))), (5, .int (nI (i + 1))), (6, .int (shI (shs (i)))), (7, .int (nI (dmM M (shs i))))] dX5_adoptBestShift_52 rfl (by decide) ⟨rfl, rfl, rfl, rfl, rfl, rfl, rfl, rfl, rfl, rfl, rfl, rfl, rfl, rfl, rfl, rfl, trivial⟩ ?_
          refine z_goto C 19 dX5_adoptBestShift_55 (by decide) ?_
          refine z_lv [(0, .ref (ad 0)), (1, .int (shI (bsT (dmM M) i))), (2, .int (nI (dmM M (bsT (dmM M) i)))), (3, .ref (t0)), (4, .int (nI (5))), (5, .int (nI (i + 1)))] ⟨rfl, rfl, rfl, rfl, rfl, rfl, rfl, rfl, rfl, rfl, rfl, rfl, trivial⟩ ?_
          have q := ih19 (i + 1) (by omega) (by omega)
          have e : bsT (dmM M) (i + 1) = bsT (dmM M) i := by rw [bsT]; unfold bet; rw [if_neg (by omega)]
          rw [e] at q
          exact q
        · refine z_iload C dX5_adoptBestShift_46 rfl ?_
          refine z_istore_n C [(0, .ref (ad 0)), (1, .int (shI (shs (i)))), (2, .int (nI (dmM M (bsT (dmM M) i)))), (3, .ref (t0)), (4, .int (nI (5))), (5, .int (nI (i))), (6, .int (shI (shs (i)))), (7, .int (nI (dmM M (shs i))))] dX5_adoptBestShift_48 (by decide) ⟨rfl, rfl, rfl, rfl, rfl, rfl, rfl, rfl, rfl, rfl, rfl, rfl, rfl, rfl, rfl, rfl, trivial⟩ ?_
          refine z_iload C dX5_adoptBestShift_49 rfl ?_
          refine z_istore_n C [(0, .ref (ad 0)), (1, .int (shI (shs (i)))), (2, .int (nI (dmM M (shs i)))), (3, .ref (t0)), (4, .int (nI (5))), (5, .int (nI (i))), (6, .int (shI (shs (i)))), (7, .int (nI (dmM M (shs i))))] dX5_adoptBestShift_51 (by decide) ⟨rfl, rfl, rfl, rfl, rfl, rfl, rfl, rfl, rfl, rfl, rfl, rfl, rfl, rfl, rfl, rfl, trivial⟩ ?_
          refine z_iincN (j := 1) C [(0, .ref (ad 0)), (1, .int (shI (shs (i)))), (2, .int (nI (dmM M (shs i)))), (3, .ref (t0)), (4, .int (nI (5))), (5, .int (nI (i + 1))), (6, .int (shI (shs (i)))), (7, .int (nI (dmM M (shs i))))] dX5_adoptBestShift_52 rfl (by decide) ⟨rfl, rfl, rfl, rfl, rfl, rfl, rfl, rfl, rfl, rfl, rfl, rfl, rfl, rfl, rfl, rfl, trivial⟩ ?_
          refine z_goto C 19 dX5_adoptBestShift_55 (by decide) ?_
          refine z_lv [(0, .ref (ad 0)), (1, .int (shI (shs (i)))), (2, .int (nI (dmM M (shs i)))), (3, .ref (t0)), (4, .int (nI (5))), (5, .int (nI (i + 1)))] ⟨rfl, rfl, rfl, rfl, rfl, rfl, rfl, rfl, rfl, rfl, rfl, rfl, trivial⟩ ?_
          have q := ih19 (i + 1) (by omega) (by omega)
          have e : bsT (dmM M) (i + 1) = shs i := by rw [bsT]; unfold bet; rw [if_pos (by omega)]
          rw [e] at q
          exact q
  refine z_lv [(0, .ref (ad 0)), (1, .int (shI (bsT (dmM M) 0))), (2, .int (nI (dmM M 2))), (3, .ref (t0)), (4, .int (nI (5))), (5, .int (nI (0)))] ⟨rfl, rfl, rfl, rfl, rfl, rfl, rfl, rfl, rfl, rfl, rfl, rfl, trivial⟩ ?_
  exact loop19 (6) 0 (Nat.zero_le _) (by omega)

