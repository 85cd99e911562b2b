theorem inv0_w {M : St} (hI : Inv0 M) {c w : Nat} (hw : 1 ≤ w ∧ w ≤ 6) : Inv0 (va_up (va_up M 1 (va_up (M 1) c w)) 2 (clr (M 2) (c * 6 + w) (c * 6 + 6))) := by
  obtain ⟨h0, h1, h2, h3, h4, h5, h6, h7, h8, h9, h10, h11, h12⟩ := hI
  refine ⟨h0, h1, h2, h3, h4, h5, h6, h7, h8, ?_, ?_, ?_, h12⟩
  · intro d hd
    show 1 ≤ va_up (M 1) c w d ∧ va_up (M 1) c w d ≤ 6
    by_cases e : d = c
    · subst e; rw [va_up_self]; exact hw
    · rw [va_up_ne _ _ e]; exact h9 d hd
  · intro i hi
    show (if c * 6 + w ≤ i ∧ i < c * 6 + 6 then 0 else M 2 i) < 256
    split
    · decide
    · exact h10 i hi
  · intro d hd j hj hwj
    show (if c * 6 + w ≤ d * 6 + j ∧ d * 6 + j < c * 6 + 6 then 0 else M 2 (d * 6 + j)) = 0
    have hwj : va_up (M 1) c w d ≤ j := hwj
    by_cases e : d = c
    · subst e
      rw [va_up_self] at hwj
      rw [if_pos (by omega)]
    · rw [va_up_ne _ _ e] at hwj
      rw [h11 d hd j hj hwj]
      split <;> rfl
theorem inv0_c {M : St} (hI : Inv0 M) {c j b : Nat} (hc : c < 27) (hj : j < M 1 c) (hb : b ≤ 255) : Inv0 (va_up M 2 (va_up (M 2) (c * 6 + j) b)) := by
  obtain ⟨h0, h1, h2, h3, h4, h5, h6, h7, h8, h9, h10, h11, h12⟩ := hI
  have hwc := h9 c hc
  refine ⟨h0, h1, h2, h3, h4, h5, h6, h7, h8, h9, ?_, ?_, h12⟩
  · intro i hi
    show va_up (M 2) (c * 6 + j) b i < 256
    by_cases e : i = c * 6 + j
    · rw [e, va_up_self]; omega
    · rw [va_up_ne _ _ e]; exact h10 i hi
  · intro d hd i hi hwi
    show va_up (M 2) (c * 6 + j) b (d * 6 + i) = 0
    have hwi : M 1 d ≤ i := hwi
    have e : d * 6 + i ≠ c * 6 + j := by
      intro q
      have e1 : d = c := by omega
      subst e1
      omega
    rw [va_up_ne _ _ e]
    exact h11 d hd i hi hwi
theorem inv0_g {M : St} (hI : Inv0 M) {g : Nat} (hg : g ≤ 9) : Inv0 (s0 M 1 g) := ⟨hI.1, hg, hI.2.2⟩
theorem inv0_col {M : St} (hI : Inv0 M) {j col : Nat} (hc : 1 ≤ col ∧ col ≤ 3) : Inv0 (va_up M 6 (va_up (M 6) j col)) := by
  obtain ⟨h0, h1, h2, h3, h4, h5, h6, h7, h8, h9, h10, h11, h12, h13, h14, h15⟩ := hI
  refine ⟨h0, h1, h2, h3, h4, h5, h6, h7, h8, h9, h10, h11, h12, h13, h14, fun i hi => ⟨(h15 i hi).1, ?_, (h15 i hi).2.2⟩⟩
  show 1 ≤ va_up (M 6) j col i ∧ va_up (M 6) j col i ≤ 3
  by_cases e : i = j
  · subst e; rw [va_up_self]; exact hc
  · rw [va_up_ne _ _ e]; exact (h15 i hi).2.1
theorem insF_lt {f : Nat → Nat} {j v i : Nat} (h : i < j) : insF f j v i = f i := by unfold insF; rw [if_pos h]
theorem insF_eq {f : Nat → Nat} {j v : Nat} : insF f j v j = v := by unfold insF; rw [if_neg (by omega), if_pos rfl]
theorem insF_gt {f : Nat → Nat} {j v i : Nat} (h : j < i) : insF f j v i = f (i - 1) := by unfold insF; rw [if_neg (by omega), if_neg (by omega)]
theorem insL_lt {f g : Nat → Nat} {j i q : Nat} (h : i < j) (hq : q < 12) : ltr (insL f g j) i q = ltr f i q := by
  unfold ltr insL; rw [if_pos (by omega)]
theorem insL_eq {f g : Nat → Nat} {j q : Nat} (hq : q < 12) : ltr (insL f g j) j q = g q := by
  unfold ltr insL; rw [if_neg (by omega), if_pos (by omega), show (12 * j + q) % 12 = q by omega]
theorem insL_gt {f g : Nat → Nat} {j i q : Nat} (h : j < i) (hq : q < 12) : ltr (insL f g j) i q = ltr f (i - 1) q := by
  unfold ltr insL; rw [if_neg (by omega), if_neg (by omega), show 12 * i + q - 12 = 12 * (i - 1) + q by omega]
theorem inv0_ins {M : St} (hI : Inv0 M) {j col : Nat} (hj : j ≤ M 0 7) (hc : 1 ≤ col ∧ col ≤ 3) (ht : ¬ M 0 6 = 0) (hn : M 0 7 < 6) : Inv0 (insM M j col) := by
  obtain ⟨h0, h1, h2, h3, h4, h5, h6, h7, h8, h9, h10, h11, h12, h13, h14, h15⟩ := hI
  refine ⟨h0, h1, h2, h3, h4, h5, h6, hn, h8, h9, h10, h11, h12, h13, h14, fun i hi => ?_⟩
  have hi : i < M 0 7 + 1 := hi
  show (1 ≤ insF (M 5) j (M 0 6) i ∧ insF (M 5) j (M 0 6) i ≤ 12) ∧ (1 ≤ insF (M 6) j col i ∧ insF (M 6) j col i ≤ 3) ∧ ∀ k, k < insF (M 5) j (M 0 6) i → ltr (insL (M 7) (M 4) j) i k < 27
  rcases Nat.lt_trichotomy i j with e | e | e
  · rw [insF_lt e, insF_lt e]
    have h := h15 i (by omega)
    exact ⟨h.1, h.2.1, fun k hk => by rw [insL_lt e (by omega)]; exact h.2.2 k hk⟩
  · subst e
    rw [insF_eq, insF_eq]
    exact ⟨by omega, hc, fun k hk => by rw [insL_eq (by omega)]; exact h14 k hk⟩
  · rw [insF_gt e, insF_gt e]
    have h := h15 (i - 1) (by omega)
    exact ⟨h.1, h.2.1, fun k hk => by rw [insL_gt e (by omega)]; exact h.2.2 k hk⟩
theorem delL_lt {f : Nat → Nat} {j i q : Nat} (h : i < j) (hq : q < 12) : ltr (delL f j) i q = ltr f i q := by
  unfold ltr delL; rw [if_pos (by omega)]
theorem delL_ge {f : Nat → Nat} {j i q : Nat} (h : j ≤ i) : ltr (delL f j) i q = ltr f (i + 1) q := by
  unfold ltr delL; rw [if_neg (by omega), show 12 * i + q + 12 = 12 * (i + 1) + q by omega]
theorem delF_lt {f : Nat → Nat} {j i : Nat} (h : i < j) : delF f j i = f i := by unfold delF; rw [if_pos h]
theorem delF_ge {f : Nat → Nat} {j i : Nat} (h : j ≤ i) : delF f j i = f (i + 1) := by unfold delF; rw [if_neg (by omega)]
theorem inv0_del {M : St} (hI : Inv0 M) {j : Nat} (hj : j < M 0 7) : Inv0 (delM M j) := by
  obtain ⟨h0, h1, h2, h3, h4, h5, h6, h7, h8, h9, h10, h11, h12, h13, h14, h15⟩ := hI
  refine ⟨h0, h1, h2, h3, h4, h5, h6, by show M 0 7 - 1 ≤ 6; omega, h8, h9, h10, h11, h12, h13, h14, fun i hi => ?_⟩
  have hi : i < M 0 7 - 1 := hi
  show (1 ≤ delF (M 5) j i ∧ delF (M 5) j i ≤ 12) ∧ (1 ≤ delF (M 6) j i ∧ delF (M 6) j i ≤ 3) ∧ ∀ k, k < delF (M 5) j i → ltr (delL (M 7) j) i k < 27
  rcases Nat.lt_or_ge i j with e | e
  · rw [delF_lt e, delF_lt e]
    have h := h15 i (by omega)
    exact ⟨h.1, h.2.1, fun k hk => by rw [delL_lt e (by omega)]; exact h.2.2 k hk⟩
  · rw [delF_ge e, delF_ge e]
    have h := h15 (i + 1) (by omega)
    exact ⟨h.1, h.2.1, fun k hk => by rw [delL_ge e]; exact h.2.2 k hk⟩
theorem pow_xor : ∀ n, n < 256 → ∀ r, r < 8 → n ^^^ 2 ^ r < 256 := by decide +kernel
theorem inv0_flip {M : St} (hI : Inv0 M) {r c : Nat} (hr : r ≤ 7) (hc : c < M 0 0) : Inv0 (flipD M r c) := by
  obtain ⟨h0, h1, h2, h3, h4, h5, h6, h7, h8, h9, h10, h11, h12, h13, h14⟩ := hI
  refine ⟨h0, h1, h2, h3, h4, h5, h6, h7, h8, h9, h10, h11, ?_, ?_, h14⟩
  · intro x hx
    show va_up (M 3) c (M 3 c ^^^ 2 ^ r) x < 256
    by_cases e : x = c
    · subst e; rw [va_up_self]; exact pow_xor _ (h12 x hx) r (by omega)
    · rw [va_up_ne _ _ e]; exact h12 x hx
  · intro x hx hw
    show va_up (M 3) c (M 3 c ^^^ 2 ^ r) x = 0
    have hw : M 0 0 ≤ x := hw
    rw [va_up_ne _ _ (by omega)]
    exact h13 x hx hw
theorem iw_X5_setGlyphWidth_5 : ∀ w ∈ wsX50, w ∈ wsX5_setGlyphWidth := by decide +kernel
theorem ln_X5_setGlyphWidth_12 : Cond.fieldLink RX5 12 "MarqueeDisplay" "font" "LMarqueeDisplay$Font;" ∈ wsX5_setGlyphWidth := by decide +kernel
set_option maxHeartbeats 4000000 in
set_option maxRecDepth 100000 in
theorem k_X5_setGlyphWidth (vl : Launch) (D : va_G) (cI cM : ClassId) (A : Nat → Prop) (ad : Nat → Nat) (E : Nat → va_E) (hX : XD A 40 ad) {M : St} (x y : Int32) (hI : Inv M) (hR : RelX cI cM ad M E) : MI vl yX5_setGlyphWidth wsX5_setGlyphWidth { frames := 5, cells := 0, slots := 0, locals := 114 } D cI cM A 40 ad E [.ref (ad 0), .int (x), .int (y)] (fun r E1 => r = (o_setGlyphWidth M x y).1 ∧ RelX cI cM ad (o_setGlyphWidth M x y).2 E1 ∧ ∀ k : Nat, 30 ≤ k → E1 k = E k) := by
  refine mi_of cX5_setGlyphWidth 4 (.int) RX5 (by decide) rfl rfl (Nat.le_of_ble_eq_true rfl) (fun r E1 h => rfl) ?_
  intro vp ve vs vm va vb vt vc Q C hend
  refine z_lv [(0, .ref (ad 0)), (1, .int (x)), (2, .int (y))] ⟨rfl, rfl, rfl, rfl, rfl, rfl, trivial⟩ ?_
  obtain ⟨pm, hY, hMX, hs⟩ := id hR
  obtain ⟨e0, e1, e2, e3, b4, b5, l6, l7, hpm, hn6, hMY, e29⟩ := id hY
  obtain ⟨_, _, s26, -, -, -⟩ := id hs
  rw [strip_len] at s26
  obtain ⟨⟨iW1, iW2⟩, iG, ⟨iS1, iS2⟩, ⟨iB1, iB2⟩, iO, iC, iT, iN, iSh, iWd, iDt, iZ, iDf, iDz, iTx, iMs⟩ := id hI.1
  have hLM := hI.1.LM_le
  have hsl := hI.1.slen
  have hld : ∀ a, ldM M a ≤ 512 := fun a => Nat.le_trans (ldS_le _ _ _ _ _) (by omega)
  have hl4 := hld (M 0 4)
  rcases wr_c 0 26 x (by omega) (by omega) with ⟨c, hc, rfl⟩ | hx
  · rcases wr_c 1 6 y (by omega) (by omega) with ⟨w, hw, rfl⟩ | hy
    · have hop : o_setGlyphWidth M (nI c) (nI w) = (nI (M 1 c), settle (va_up (va_up M 1 (va_up (M 1) c w)) 2 (clr (M 2) (c * 6 + w) (c * 6 + 6)))) := (wr_y hc (by decide)).trans (wr_y hw (by decide))
      have hwc := iWd c (by omega)
      refine z_iload_n C dX5_setGlyphWidth_0 rfl ?_
      refine z_callSF C (k_X5_isCharacter vl D cI cM A ad E hX (nI (c))) (va_cwS 1 C.2.2.2.2.1 gX5_setGlyphWidth_X5_isCharacter rfl rfl rfl (by decide +kernel) ⟨Nat.le_of_ble_eq_true rfl, Nat.le_of_ble_eq_true rfl⟩) rfl rfl (Nat.le_of_ble_eq_true rfl) ⟨Nat.zero_le _, Nat.zero_le _⟩ dX5_setGlyphWidth_1 ?_
      refine z_top (nI (1)) (iw_yN hc (by omega)) ?_
      refine z_if_eqN C 17 (by omega) dX5_setGlyphWidth_4 (by decide) (fun h4 => (by exfalso; omega)) (fun h4 => ?_)
      refine z_iload_n C dX5_setGlyphWidth_7 rfl ?_
      refine z_iconst C (nI (1)) dX5_setGlyphWidth_8 (by decide) ?_
      refine z_bipush C (nI (6)) dX5_setGlyphWidth_9 (by decide) ?_
      refine z_callSF C (k_X5_isWithin vl D cI cM A ad E hX (nI (w)) (nI (1)) (nI (6))) (va_cwS 3 C.2.2.2.2.1 gX5_setGlyphWidth_X5_isWithin rfl rfl rfl (by decide +kernel) ⟨Nat.le_of_ble_eq_true rfl, Nat.le_of_ble_eq_true rfl⟩) rfl rfl (Nat.le_of_ble_eq_true rfl) ⟨Nat.zero_le _, Nat.zero_le _⟩ dX5_setGlyphWidth_11 ?_
      refine z_top (nI (1)) (iw_yN hw (by omega)) ?_
      refine z_if_neN C 20 (by omega) dX5_setGlyphWidth_14 (by decide) (fun h14 => ?_) (fun h14 => (by exfalso; omega))
      refine z_aload_n C dX5_setGlyphWidth_20 rfl ?_
      refine z_get C (0) (Cn := RX5) (T := TX5) (N := 12) (fi := 0) iw_X5_setGlyphWidth_5 rfl (by decide) ln_X5_setGlyphWidth_12 (by first | decide | omega) rfl e0 rfl dX5_setGlyphWidth_21 ?_
      refine z_iload_n C dX5_setGlyphWidth_24 rfl ?_
      refine z_callVF C (1) (Cn := RX0) (T := TX0) (N := 2) (k_X0_widthOf vl D cI cM A ad E hX e1 e2 (by omega)) (cwV 1 C.2.2.2.2.1 gX5_setGlyphWidth_X0_widthOf rfl rfl rfl (by decide +kernel) ⟨Nat.le_of_ble_eq_true rfl, Nat.le_of_ble_eq_true rfl⟩) rfl (by first | decide | omega) rfl e1 rfl rfl (Nat.le_of_ble_eq_true rfl) ⟨Nat.zero_le _, Nat.zero_le _⟩ dX5_setGlyphWidth_25 ?_
      refine z_istore_n C [(0, .ref (ad 0)), (1, .int (nI (c))), (2, .int (nI (w))), (3, .int (nI (M 1 c)))] dX5_setGlyphWidth_28 (by decide) ⟨rfl, rfl, rfl, rfl, rfl, rfl, rfl, rfl, trivial⟩ ?_
      refine z_aload_n C dX5_setGlyphWidth_29 rfl ?_
      refine z_get C (0) (Cn := RX5) (T := TX5) (N := 12) (fi := 0) iw_X5_setGlyphWidth_5 rfl (by decide) ln_X5_setGlyphWidth_12 (by first | decide | omega) rfl e0 rfl dX5_setGlyphWidth_30 ?_
      refine z_iload_n C dX5_setGlyphWidth_33 rfl ?_
      refine z_iload_n C dX5_setGlyphWidth_34 rfl ?_
      refine z_callVV C (1) (Cn := RX0) (T := TX0) (N := 2) (k_X0_resize vl D cI cM A ad E hX e1 e2 e3 (by omega) hw) (cwV 2 C.2.2.2.2.1 gX5_setGlyphWidth_X0_resize rfl rfl rfl (by decide +kernel) ⟨Nat.le_of_ble_eq_true rfl, Nat.le_of_ble_eq_true rfl⟩) rfl (by first | decide | omega) rfl e1 rfl rfl (Nat.le_of_ble_eq_true rfl) ⟨Nat.zero_le _, Nat.zero_le _⟩ dX5_setGlyphWidth_35 (fun Ez1 hp2 => ?_)
      obtain ⟨v3, v4, hg5⟩ := hp2
      have f6 : Ez1 (0) = .inr (5, [.ref (ad 1), .ref (ad 4), .ref (ad 6), .ref (ad 26), .ref (ad 29), .int (nI (M 0 0)), .int (nI (M 0 1)), .int (nI (M 0 2)), .int (shI (M 0 8)), .int (nI (M 0 3)), .int (nI (M 0 4)), .int (nI (M 0 5))]) := (hg5 (0) (by omega)).trans e0
      have f7 : Ez1 (1) = .inr (0, [.ref (ad 2), .ref (ad 3)]) := (hg5 (1) (by omega)).trans e1
      have f8 : Ez1 (4) = .inr (4, [.ref (ad 5), .int (nI (M 0 6))]) := (hg5 (4) (by omega)).trans b4
      have f9 : Ez1 (5) = aI cI 12 (M 4) := (hg5 (5) (by omega)).trans b5
      have f10 : Ez1 (6) = .inr (2, [.ref (ad 7), .int (nI (M 0 7))]) := (hg5 (6) (by omega)).trans l6
      have f11 : Ez1 (7) = .inl (cM, 6, .inr (.inr (.inr (.inr (sf ad pm))))) := (hg5 (7) (by omega)).trans l7
      have f12 : Ez1 (29) = aI cI 32 (M 3) := (hg5 (29) (by omega)).trans e29
      have f13 : Ez1 (26) = .inr (3, [.ref (ad 27), .ref (ad 28), .int (nI (LM M))]) := (hg5 (26) (by omega)).trans s26
      have g14 : ∀ k : Nat, (k ≠ 2 ∧ k ≠ 3) → Ez1 k = E k := fun k hk => (hg5 k (by omega)).trans ((fun _ _ => rfl) k hk)
      refine z_aload_n C dX5_setGlyphWidth_38 rfl ?_
      have hY2 : RelY cI cM ad (va_up (va_up M 1 (va_up (M 1) c w)) 2 (clr (M 2) (c * 6 + w) (c * 6 + 6))) (pm) Ez1 := ⟨f6, f7, v3, v4, f8, f9, f10, f11, hpm, hn6, (MsgY_mv hpm hMY (fun k hk => g14 k (by omega))), f12⟩
      have hs2 : StripAt cI ad Ez1 (stripM M) := hs.mv (g14 _ (by omega)) (g14 _ (by omega)) (g14 _ (by omega))
      have hI2 : Inv0 (va_up (va_up M 1 (va_up (M 1) c w)) 2 (clr (M 2) (c * 6 + w) (c * 6 + 6))) := inv0_w hI.1 hw
      refine z_callVV C (0) (Cn := RX5) (T := TX5) (N := 12) (k_lay vl D cI cM A ad Ez1 hX hY2 hI2 hs2) (cwV 0 C.2.2.2.2.1 gX5_setGlyphWidth_X5_layOutStrip rfl rfl rfl (by decide +kernel) ⟨Nat.le_of_ble_eq_true rfl, Nat.le_of_ble_eq_true rfl⟩) rfl (by first | decide | omega) rfl f6 rfl rfl (Nat.le_of_ble_eq_true rfl) ⟨Nat.zero_le _, Nat.zero_le _⟩ dX5_setGlyphWidth_39 (fun Ez15 hp16 => ?_)
      obtain ⟨hR3, hf3⟩ := hp16
      have hf4 : ∀ k : Nat, 30 ≤ k → Ez15 k = E k := fun k hk => (hf3 k hk).trans (g14 k (by omega))
      obtain ⟨pm3, ⟨g0, -, -, -, -, -, -, -, -⟩, -, hs3⟩ := id hR3
      obtain ⟨_, _, t26, -, -, -⟩ := id hs3
      rw [strip_len] at t26
      refine z_iload_n C dX5_setGlyphWidth_42 rfl ?_
      exact hend _ _ _ _ dX5_setGlyphWidth_43 (⟨by rw [hop], by rw [hop]; exact hR3, hf4⟩)
    · have hop : o_setGlyphWidth M (nI c) y = (-11, M) := (wr_y hc (by decide)).trans (wr_n hy)
      refine z_iload_n C dX5_setGlyphWidth_0 rfl ?_
      refine z_callSF C (k_X5_isCharacter vl D cI cM A ad E hX (nI (c))) (va_cwS 1 C.2.2.2.2.1 gX5_setGlyphWidth_X5_isCharacter rfl rfl rfl (by decide +kernel) ⟨Nat.le_of_ble_eq_true rfl, Nat.le_of_ble_eq_true rfl⟩) rfl rfl (Nat.le_of_ble_eq_true rfl) ⟨Nat.zero_le _, Nat.zero_le _⟩ dX5_setGlyphWidth_1 ?_
      refine z_top (nI (1)) (iw_yN hc (by omega)) ?_
      refine z_if_eqN C 17 (by omega) dX5_setGlyphWidth_4 (by decide) (fun h4 => (by exfalso; omega)) (fun h4 => ?_)
      refine z_iload_n C dX5_setGlyphWidth_7 rfl ?_
      refine z_iconst C (nI (1)) dX5_setGlyphWidth_8 (by decide) ?_
      refine z_bipush C (nI (6)) dX5_setGlyphWidth_9 (by decide) ?_
      refine z_callSF C (k_X5_isWithin vl D cI cM A ad E hX (y) (nI (1)) (nI (6))) (va_cwS 3 C.2.2.2.2.1 gX5_setGlyphWidth_X5_isWithin rfl rfl rfl (by decide +kernel) ⟨Nat.le_of_ble_eq_true rfl, Nat.le_of_ble_eq_true rfl⟩) rfl rfl (Nat.le_of_ble_eq_true rfl) ⟨Nat.zero_le _, Nat.zero_le _⟩ dX5_setGlyphWidth_11 ?_
      refine z_top (nI (0)) (iw_n hy) ?_
      refine z_if_neN C 20 (by omega) dX5_setGlyphWidth_14 (by decide) (fun h14 => (by exfalso; omega)) (fun h14 => ?_)
      refine z_bipush C (-11) dX5_setGlyphWidth_17 (by decide) ?_
      exact hend _ _ _ _ dX5_setGlyphWidth_19 (⟨by rw [hop], by rw [hop]; exact hR, fun _ _ => rfl⟩)
  · have hop : o_setGlyphWidth M x y = (-11, M) := wr_n hx
    refine z_iload_n C dX5_setGlyphWidth_0 rfl ?_
    refine z_callSF C (k_X5_isCharacter vl D cI cM A ad E hX (x)) (va_cwS 1 C.2.2.2.2.1 gX5_setGlyphWidth_X5_isCharacter rfl rfl rfl (by decide +kernel) ⟨Nat.le_of_ble_eq_true rfl, Nat.le_of_ble_eq_true rfl⟩) rfl rfl (Nat.le_of_ble_eq_true rfl) ⟨Nat.zero_le _, Nat.zero_le _⟩ dX5_setGlyphWidth_1 ?_
    refine z_top (nI (0)) (iw_n hx) ?_
    refine z_if_eqN C 17 (by omega) dX5_setGlyphWidth_4 (by decide) (fun h4 => ?_) (fun h4 => (by exfalso; omega))
    refine z_bipush C (-11) dX5_setGlyphWidth_17 (by decide) ?_
    exact hend _ _ _ _ dX5_setGlyphWidth_19 (⟨by rw [hop], by rw [hop]; exact hR, fun _ _ => rfl⟩)

theorem iw_X5_setGlyphColumn_5 : ∀ w ∈ wsX50, w ∈ wsX5_setGlyphColumn := by decide +kernel
theorem ln_X5_setGlyphColumn_12 : Cond.fieldLink RX5 12 "MarqueeDisplay" "font" "LMarqueeDisplay$Font;" ∈ wsX5_setGlyphColumn := by decide +kernel
set_option maxHeartbeats 4000000 in
set_option maxRecDepth 100000 in
theorem k_X5_setGlyphColumn (vl : Launch) (D : va_G) (cI cM : ClassId) (A : Nat → Prop) (ad : Nat → Nat) (E : Nat → va_E) (hX : XD A 40 ad) {M : St} (x y z : Int32) (hI : Inv M) (hR : RelX cI cM ad M E) : MI vl yX5_setGlyphColumn wsX5_setGlyphColumn { frames := 5, cells := 0, slots := 0, locals := 114 } D cI cM A 40 ad E [.ref (ad 0), .int (x), .int (y), .int (z)] (fun r E1 => r = (o_setGlyphColumn M x y z).1 ∧ RelX cI cM ad (o_setGlyphColumn M x y z).2 E1 ∧ ∀ k : Nat, 30 ≤ k → E1 k = E k) := by
  refine mi_of cX5_setGlyphColumn 5 (.int) RX5 (by decide) rfl rfl (Nat.le_of_ble_eq_true rfl) (fun r E1 h => rfl) ?_
  intro vp ve vs vm va vb vt vc Q C hend
  refine z_lv [(0, .ref (ad 0)), (1, .int (x)), (2, .int (y)), (3, .int (z))] ⟨rfl, rfl, rfl, rfl, rfl, rfl, rfl, rfl, trivial⟩ ?_
  obtain ⟨pm, hY, hMX, hs⟩ := id hR
  obtain ⟨e0, e1, e2, e3, b4, b5, l6, l7, hpm, hn6, hMY, e29⟩ := id hY
  obtain ⟨_, _, s26, -, -, -⟩ := id hs
  rw [strip_len] at s26
  obtain ⟨⟨iW1, iW2⟩, iG, ⟨iS1, iS2⟩, ⟨iB1, iB2⟩, iO, iC, iT, iN, iSh, iWd, iDt, iZ, iDf, iDz, iTx, iMs⟩ := id hI.1
  have hLM := hI.1.LM_le
  have hsl := hI.1.slen
  have hld : ∀ a, ldM M a ≤ 512 := fun a => Nat.le_trans (ldS_le _ _ _ _ _) (by omega)
  have hl4 := hld (M 0 4)
  rcases wr_c 0 26 x (by omega) (by omega) with ⟨c, hc, rfl⟩ | hx
  · rcases wr_c 0 255 z (by omega) (by omega) with ⟨b, hb, rfl⟩ | hz
    · have hwc := iWd c (by omega)
      rcases wr_c 0 (M 1 c - 1) y (by omega) (by omega) with ⟨j, hj, rfl⟩ | hy
      · have hop : o_setGlyphColumn M (nI c) (nI j) (nI b) = (nI (M 2 (c * 6 + j)), settle (va_up M 2 (va_up (M 2) (c * 6 + j) b))) := (wr_y hc (by decide)).trans ((wr_y hb (by decide)).trans (wr_y hj (by omega)))
        refine z_iload_n C dX5_setGlyphColumn_0 rfl ?_
        refine z_callSF C (k_X5_isCharacter vl D cI cM A ad E hX (nI (c))) (va_cwS 1 C.2.2.2.2.1 gX5_setGlyphColumn_X5_isCharacter rfl rfl rfl (by decide +kernel) ⟨Nat.le_of_ble_eq_true rfl, Nat.le_of_ble_eq_true rfl⟩) rfl rfl (Nat.le_of_ble_eq_true rfl) ⟨Nat.zero_le _, Nat.zero_le _⟩ dX5_setGlyphColumn_1 ?_
        refine z_top (nI (1)) (iw_yN hc (by omega)) ?_
        refine z_if_eqN C 30 (by omega) dX5_setGlyphColumn_4 (by decide) (fun h4 => (by exfalso; omega)) (fun h4 => ?_)
        refine z_iload_n C dX5_setGlyphColumn_7 rfl ?_
        refine z_iconst C (nI (0)) dX5_setGlyphColumn_8 (by decide) ?_
        refine z_sipush C (nI (255)) dX5_setGlyphColumn_9 (by decide) ?_
        refine z_callSF C (k_X5_isWithin vl D cI cM A ad E hX (nI (b)) (nI (0)) (nI (255))) (va_cwS 3 C.2.2.2.2.1 gX5_setGlyphColumn_X5_isWithin rfl rfl rfl (by decide +kernel) ⟨Nat.le_of_ble_eq_true rfl, Nat.le_of_ble_eq_true rfl⟩) rfl rfl (Nat.le_of_ble_eq_true rfl) ⟨Nat.zero_le _, Nat.zero_le _⟩ dX5_setGlyphColumn_12 ?_
        refine z_top (nI (1)) (iw_yN hb (by omega)) ?_
        refine z_if_eqN C 30 (by omega) dX5_setGlyphColumn_15 (by decide) (fun h15 => (by exfalso; omega)) (fun h15 => ?_)
        refine z_aload_n C dX5_setGlyphColumn_18 rfl ?_
        refine z_get C (0) (Cn := RX5) (T := TX5) (N := 12) (fi := 0) iw_X5_setGlyphColumn_5 rfl (by decide) ln_X5_setGlyphColumn_12 (by first | decide | omega) rfl e0 rfl dX5_setGlyphColumn_19 ?_
        refine z_iload_n C dX5_setGlyphColumn_22 rfl ?_
        refine z_iload_n C dX5_setGlyphColumn_23 rfl ?_
        refine z_callVF C (1) (Cn := RX0) (T := TX0) (N := 2) (k_X0_hasColumn vl D cI cM A ad E hX (nI j) e1 e2 (by omega) hwc.1) (cwV 2 C.2.2.2.2.1 gX5_setGlyphColumn_X0_hasColumn rfl rfl rfl (by decide +kernel) ⟨Nat.le_of_ble_eq_true rfl, Nat.le_of_ble_eq_true rfl⟩) rfl (by first | decide | omega) rfl e1 rfl rfl (Nat.le_of_ble_eq_true rfl) ⟨Nat.zero_le _, Nat.zero_le _⟩ dX5_setGlyphColumn_24 ?_
        refine z_top (nI (1)) (iw_yN hj (by omega)) ?_
        refine z_if_neN C 33 (by omega) dX5_setGlyphColumn_27 (by decide) (fun h27 => ?_) (fun h27 => (by exfalso; omega))
        refine z_aload_n C dX5_setGlyphColumn_33 rfl ?_
        refine z_get C (0) (Cn := RX5) (T := TX5) (N := 12) (fi := 0) iw_X5_setGlyphColumn_5 rfl (by decide) ln_X5_setGlyphColumn_12 (by first | decide | omega) rfl e0 rfl dX5_setGlyphColumn_34 ?_
        refine z_iload_n C dX5_setGlyphColumn_37 rfl ?_
        refine z_iload_n C dX5_setGlyphColumn_38 rfl ?_
        refine z_callVF C (1) (Cn := RX0) (T := TX0) (N := 2) (k_X0_dotsOf vl D cI cM A ad E hX e1 e3 (by omega) (by omega)) (cwV 2 C.2.2.2.2.1 gX5_setGlyphColumn_X0_dotsOf rfl rfl rfl (by decide +kernel) ⟨Nat.le_of_ble_eq_true rfl, Nat.le_of_ble_eq_true rfl⟩) rfl (by first | decide | omega) rfl e1 rfl rfl (Nat.le_of_ble_eq_true rfl) ⟨Nat.zero_le _, Nat.zero_le _⟩ dX5_setGlyphColumn_39 ?_
        refine z_istore C [(0, .ref (ad 0)), (1, .int (nI (c))), (2, .int (nI (j))), (3, .int (nI (b))), (4, .int (nI (M 2 (c * 6 + j))))] dX5_setGlyphColumn_42 (by decide) ⟨rfl, rfl, rfl, rfl, rfl, rfl, rfl, rfl, rfl, rfl, trivial⟩ ?_
        refine z_aload_n C dX5_setGlyphColumn_44 rfl ?_
        refine z_get C (0) (Cn := RX5) (T := TX5) (N := 12) (fi := 0) iw_X5_setGlyphColumn_5 rfl (by decide) ln_X5_setGlyphColumn_12 (by first | decide | omega) rfl e0 rfl dX5_setGlyphColumn_45 ?_
        refine z_iload_n C dX5_setGlyphColumn_48 rfl ?_
        refine z_iload_n C dX5_setGlyphColumn_49 rfl ?_
        refine z_iload_n C dX5_setGlyphColumn_50 rfl ?_
        refine z_callVV C (1) (Cn := RX0) (T := TX0) (N := 2) (k_X0_draw vl D cI cM A ad E hX e1 e2 e3 (by omega) (by omega) hwc.2) (cwV 3 C.2.2.2.2.1 gX5_setGlyphColumn_X0_draw rfl rfl rfl (by decide +kernel) ⟨Nat.le_of_ble_eq_true rfl, Nat.le_of_ble_eq_true rfl⟩) rfl (by first | decide | omega) rfl e1 rfl rfl (Nat.le_of_ble_eq_true rfl) ⟨Nat.zero_le _, Nat.zero_le _⟩ dX5_setGlyphColumn_51 (fun Ez1 hp2 => ?_)
        obtain ⟨v3, hg4⟩ := hp2
        have f5 : Ez1 (0) = .inr (5, [.ref (ad 1), .ref (ad 4), .ref (ad 6), .ref (ad 26), .ref (ad 29), .int (nI (M 0 0)), .int (nI (M 0 1)), .int (nI (M 0 2)), .int (shI (M 0 8)), .int (nI (M 0 3)), .int (nI (M 0 4)), .int (nI (M 0 5))]) := (hg4 (0) (by omega)).trans e0
        have f6 : Ez1 (1) = .inr (0, [.ref (ad 2), .ref (ad 3)]) := (hg4 (1) (by omega)).trans e1
        have f7 : Ez1 (2) = aI cI 27 (M 1) := (hg4 (2) (by omega)).trans e2
        have f8 : Ez1 (4) = .inr (4, [.ref (ad 5), .int (nI (M 0 6))]) := (hg4 (4) (by omega)).trans b4
        have f9 : Ez1 (5) = aI cI 12 (M 4) := (hg4 (5) (by omega)).trans b5
        have f10 : Ez1 (6) = .inr (2, [.ref (ad 7), .int (nI (M 0 7))]) := (hg4 (6) (by omega)).trans l6
        have f11 : Ez1 (7) = .inl (cM, 6, .inr (.inr (.inr (.inr (sf ad pm))))) := (hg4 (7) (by omega)).trans l7
        have f12 : Ez1 (29) = aI cI 32 (M 3) := (hg4 (29) (by omega)).trans e29
        have f13 : Ez1 (26) = .inr (3, [.ref (ad 27), .ref (ad 28), .int (nI (LM M))]) := (hg4 (26) (by omega)).trans s26
        have g14 : ∀ k : Nat, (k ≠ 3) → Ez1 k = E k := fun k hk => (hg4 k (by omega)).trans ((fun _ _ => rfl) k hk)
        refine z_aload_n C dX5_setGlyphColumn_54 rfl ?_
        have hY2 : RelY cI cM ad (va_up M 2 (va_up (M 2) (c * 6 + j) b)) (pm) Ez1 := ⟨f5, f6, f7, v3, f8, f9, f10, f11, hpm, hn6, (MsgY_mv hpm hMY (fun k hk => g14 k (by omega))), f12⟩
        have hs2 : StripAt cI ad Ez1 (stripM M) := hs.mv (g14 _ (by omega)) (g14 _ (by omega)) (g14 _ (by omega))
        have hI2 : Inv0 (va_up M 2 (va_up (M 2) (c * 6 + j) b)) := inv0_c hI.1 (by omega) (by omega) hb.2
        refine z_callVV C (0) (Cn := RX5) (T := TX5) (N := 12) (k_lay vl D cI cM A ad Ez1 hX hY2 hI2 hs2) (cwV 0 C.2.2.2.2.1 gX5_setGlyphColumn_X5_layOutStrip rfl rfl rfl (by decide +kernel) ⟨Nat.le_of_ble_eq_true rfl, Nat.le_of_ble_eq_true rfl⟩) rfl (by first | decide | omega) rfl f5 rfl rfl (Nat.le_of_ble_eq_true rfl) ⟨Nat.zero_le _, Nat.zero_le _⟩ dX5_setGlyphColumn_55 (fun Ez15 hp16 => ?_)
        obtain ⟨hR3, hf3⟩ := hp16
        have hf4 : ∀ k : Nat, 30 ≤ k → Ez15 k = E k := fun k hk => (hf3 k hk).trans (g14 k (by omega))
        obtain ⟨pm3, ⟨g0, -, -, -, -, -, -, -, -⟩, -, hs3⟩ := id hR3
        obtain ⟨_, _, t26, -, -, -⟩ := id hs3
        rw [strip_len] at t26
        refine z_iload C dX5_setGlyphColumn_58 rfl ?_
        exact hend _ _ _ _ dX5_setGlyphColumn_60 (⟨by rw [hop], by rw [hop]; exact hR3, hf4⟩)
      · have hop : o_setGlyphColumn M (nI c) y (nI b) = (-11, M) := (wr_y hc (by decide)).trans ((wr_y hb (by decide)).trans (wr_n hy))
        refine z_iload_n C dX5_setGlyphColumn_0 rfl ?_
        refine z_callSF C (k_X5_isCharacter vl D cI cM A ad E hX (nI (c))) (va_cwS 1 C.2.2.2.2.1 gX5_setGlyphColumn_X5_isCharacter rfl rfl rfl (by decide +kernel) ⟨Nat.le_of_ble_eq_true rfl, Nat.le_of_ble_eq_true rfl⟩) rfl rfl (Nat.le_of_ble_eq_true rfl) ⟨Nat.zero_le _, Nat.zero_le _⟩ dX5_setGlyphColumn_1 ?_
        refine z_top (nI (1)) (iw_yN hc (by omega)) ?_
        refine z_if_eqN C 30 (by omega) dX5_setGlyphColumn_4 (by decide) (fun h4 => (by exfalso; omega)) (fun h4 => ?_)
        refine z_iload_n C dX5_setGlyphColumn_7 rfl ?_
        refine z_iconst C (nI (0)) dX5_setGlyphColumn_8 (by decide) ?_
        refine z_sipush C (nI (255)) dX5_setGlyphColumn_9 (by decide) ?_
        refine z_callSF C (k_X5_isWithin vl D cI cM A ad E hX (nI (b)) (nI (0)) (nI (255))) (va_cwS 3 C.2.2.2.2.1 gX5_setGlyphColumn_X5_isWithin rfl rfl rfl (by decide +kernel) ⟨Nat.le_of_ble_eq_true rfl, Nat.le_of_ble_eq_true rfl⟩) rfl rfl (Nat.le_of_ble_eq_true rfl) ⟨Nat.zero_le _, Nat.zero_le _⟩ dX5_setGlyphColumn_12 ?_
        refine z_top (nI (1)) (iw_yN hb (by omega)) ?_
        refine z_if_eqN C 30 (by omega) dX5_setGlyphColumn_15 (by decide) (fun h15 => (by exfalso; omega)) (fun h15 => ?_)
        refine z_aload_n C dX5_setGlyphColumn_18 rfl ?_
        refine z_get C (0) (Cn := RX5) (T := TX5) (N := 12) (fi := 0) iw_X5_setGlyphColumn_5 rfl (by decide) ln_X5_setGlyphColumn_12 (by first | decide | omega) rfl e0 rfl dX5_setGlyphColumn_19 ?_
        refine z_iload_n C dX5_setGlyphColumn_22 rfl ?_
        refine z_iload_n C dX5_setGlyphColumn_23 rfl ?_
        refine z_callVF C (1) (Cn := RX0) (T := TX0) (N := 2) (k_X0_hasColumn vl D cI cM A ad E hX y e1 e2 (by omega) hwc.1) (cwV 2 C.2.2.2.2.1 gX5_setGlyphColumn_X0_hasColumn rfl rfl rfl (by decide +kernel) ⟨Nat.le_of_ble_eq_true rfl, Nat.le_of_ble_eq_true rfl⟩) rfl (by first | decide | omega) rfl e1 rfl rfl (Nat.le_of_ble_eq_true rfl) ⟨Nat.zero_le _, Nat.zero_le _⟩ dX5_setGlyphColumn_24 ?_
        refine z_top (nI (0)) (iw_n hy) ?_
        refine z_if_neN C 33 (by omega) dX5_setGlyphColumn_27 (by decide) (fun h27 => (by exfalso; omega)) (fun h27 => ?_)
        refine z_bipush C (-11) dX5_setGlyphColumn_30 (by decide) ?_
        exact hend _ _ _ _ dX5_setGlyphColumn_32 (⟨by rw [hop], by rw [hop]; exact hR, fun _ _ => rfl⟩)
    · have hop : o_setGlyphColumn M (nI c) y z = (-11, M) := (wr_y hc (by decide)).trans (wr_n hz)
      refine z_iload_n C dX5_setGlyphColumn_0 rfl ?_
      refine z_callSF C (k_X5_isCharacter vl D cI cM A ad E hX (nI (c))) (va_cwS 1 C.2.2.2.2.1 gX5_setGlyphColumn_X5_isCharacter rfl rfl rfl (by decide +kernel) ⟨Nat.le_of_ble_eq_true rfl, Nat.le_of_ble_eq_true rfl⟩) rfl rfl (Nat.le_of_ble_eq_true rfl) ⟨Nat.zero_le _, Nat.zero_le _⟩ dX5_setGlyphColumn_1 ?_
      refine z_top (nI (1)) (iw_yN hc (by omega)) ?_
      refine z_if_eqN C 30 (by omega) dX5_setGlyphColumn_4 (by decide) (fun h4 => (by exfalso; omega)) (fun h4 => ?_)
      refine z_iload_n C dX5_setGlyphColumn_7 rfl ?_
      refine z_iconst C (nI (0)) dX5_setGlyphColumn_8 (by decide) ?_
      refine z_sipush C (nI (255)) dX5_setGlyphColumn_9 (by decide) ?_
      refine z_callSF C (k_X5_isWithin vl D cI cM A ad E hX (z) (nI (0)) (nI (255))) (va_cwS 3 C.2.2.2.2.1 gX5_setGlyphColumn_X5_isWithin rfl rfl rfl (by decide +kernel) ⟨Nat.le_of_ble_eq_true rfl, Nat.le_of_ble_eq_true rfl⟩) rfl rfl (Nat.le_of_ble_eq_true rfl) ⟨Nat.zero_le _, Nat.zero_le _⟩ dX5_setGlyphColumn_12 ?_
      refine z_top (nI (0)) (iw_n hz) ?_
      refine z_if_eqN C 30 (by omega) dX5_setGlyphColumn_15 (by decide) (fun h15 => ?_) (fun h15 => (by exfalso; omega))
      refine z_bipush C (-11) dX5_setGlyphColumn_30 (by decide) ?_
      exact hend _ _ _ _ dX5_setGlyphColumn_32 (⟨by rw [hop], by rw [hop]; exact hR, fun _ _ => rfl⟩)
  · have hop : o_setGlyphColumn M x y z = (-11, M) := wr_n hx
    refine z_iload_n C dX5_setGlyphColumn_0 rfl ?_
    refine z_callSF C (k_X5_isCharacter vl D cI cM A ad E hX (x)) (va_cwS 1 C.2.2.2.2.1 gX5_setGlyphColumn_X5_isCharacter rfl rfl rfl (by decide +kernel) ⟨Nat.le_of_ble_eq_true rfl, Nat.le_of_ble_eq_true rfl⟩) rfl rfl (Nat.le_of_ble_eq_true rfl) ⟨Nat.zero_le _, Nat.zero_le _⟩ dX5_setGlyphColumn_1 ?_
    refine z_top (nI (0)) (iw_n hx) ?_
    refine z_if_eqN C 30 (by omega) dX5_setGlyphColumn_4 (by decide) (fun h4 => ?_) (fun h4 => (by exfalso; omega))
    refine z_bipush C (-11) dX5_setGlyphColumn_30 (by decide) ?_
    exact hend _ _ _ _ dX5_setGlyphColumn_32 (⟨by rw [hop], by rw [hop]; exact hR, fun _ _ => rfl⟩)

theorem iw_X5_append_5 : ∀ w ∈ wsX50, w ∈ wsX5_append := by decide +kernel
theorem ln_X5_append_19 : Cond.fieldLink RX5 19 "MarqueeDisplay" "buffer" "LMarqueeDisplay$Text;" ∈ wsX5_append := by decide +kernel
theorem iw_X5_append_4 : ∀ w ∈ wsX40, w ∈ wsX5_append := by decide +kernel
theorem nl_X5_94 : Cond.fieldLinkNest RX5 94 "MarqueeDisplay$Text" "length" "I" "MarqueeDisplay" ∈ nwL := by decide +kernel
set_option maxHeartbeats 4000000 in
set_option maxRecDepth 100000 in
theorem k_X5_append (vl : Launch) (D : va_G) (cI cM : ClassId) (A : Nat → Prop) (ad : Nat → Nat) (E : Nat → va_E) (hX : XD A 40 ad) {M : St} (x : Int32) (hI : Inv M) (hR : RelX cI cM ad M E) : MI vl yX5_append wsX5_append { frames := 2, cells := 0, slots := 0, locals := 43 } D cI cM A 40 ad E [.ref (ad 0), .int (x)] (fun r E1 => r = (o_append M x).1 ∧ RelX cI cM ad (o_append M x).2 E1 ∧ ∀ k : Nat, 30 ≤ k → E1 k = E k) := by
  refine mi_of cX5_append 2 (.int) RX5 (by decide) rfl rfl (Nat.le_of_ble_eq_true rfl) (fun r E1 h => rfl) ?_
  intro vp ve vs vm va vb vt vc Q C hend
  refine z_lv [(0, .ref (ad 0)), (1, .int (x))] ⟨rfl, rfl, rfl, rfl, trivial⟩ ?_
  obtain ⟨pm, hY, hMX, hs⟩ := id hR
  obtain ⟨e0, e1, e2, e3, b4, b5, l6, l7, hpm, hn6, hMY, e29⟩ := id hY
  obtain ⟨_, _, s26, -, -, -⟩ := id hs
  rw [strip_len] at s26
  obtain ⟨⟨iW1, iW2⟩, iG, ⟨iS1, iS2⟩, ⟨iB1, iB2⟩, iO, iC, iT, iN, iSh, iWd, iDt, iZ, iDf, iDz, iTx, iMs⟩ := id hI.1
  have hLM := hI.1.LM_le
  have hsl := hI.1.slen
  have hld : ∀ a, ldM M a ≤ 512 := fun a => Nat.le_trans (ldS_le _ _ _ _ _) (by omega)
  have hl4 := hld (M 0 4)
  rcases wr_c 0 26 x (by omega) (by omega) with ⟨c, hc, rfl⟩ | hx
  · by_cases ht : M 0 6 < 12
    · have hop : o_append M (nI c) = (nI (M 0 6 + 1), va_up (s0 M 6 (M 0 6 + 1)) 4 (va_up (M 4) (M 0 6) c)) := (wr_y hc (by decide)).trans (if_pos ht)
      refine z_iload_n C dX5_append_0 rfl ?_
      refine z_callSF C (k_X5_isCharacter vl D cI cM A ad E hX (nI (c))) (va_cwS 1 C.2.2.2.2.1 gX5_append_X5_isCharacter rfl rfl rfl (by decide +kernel) ⟨Nat.le_of_ble_eq_true rfl, Nat.le_of_ble_eq_true rfl⟩) rfl rfl (Nat.le_of_ble_eq_true rfl) ⟨Nat.zero_le _, Nat.zero_le _⟩ dX5_append_1 ?_
      refine z_top (nI (1)) (iw_yN hc (by omega)) ?_
      refine z_if_neN C 10 (by omega) dX5_append_4 (by decide) (fun h4 => ?_) (fun h4 => (by exfalso; omega))
      refine z_aload_n C dX5_append_10 rfl ?_
      refine z_get C (0) (Cn := RX5) (T := TX5) (N := 12) (fi := 1) iw_X5_append_5 rfl (by decide) ln_X5_append_19 (by first | decide | omega) rfl e0 rfl dX5_append_11 ?_
      refine z_getN C (4) (Cn := RX4) (T := TX4) (N := 2) (fi := 1) iw_X5_append_4 rfl (by decide) nl_X5_94 (by first | decide | omega) rfl b4 rfl dX5_append_14 ?_
      refine z_bipush C (nI (12)) dX5_append_17 (by decide) ?_
      refine z_icmp_ltN C 25 (by omega) (by omega) dX5_append_19 (by decide) (fun h19 => ?_) (fun h19 => (by exfalso; omega))
      refine z_aload_n C dX5_append_25 rfl ?_
      refine z_get C (0) (Cn := RX5) (T := TX5) (N := 12) (fi := 1) iw_X5_append_5 rfl (by decide) ln_X5_append_19 (by first | decide | omega) rfl e0 rfl dX5_append_26 ?_
      refine z_iload_n C dX5_append_29 rfl ?_
      refine z_callVV C (4) (Cn := RX4) (T := TX4) (N := 2) (k_X4_add vl D cI cM A ad E hX b4 b5 ht) (cwV 1 C.2.2.2.2.1 gX5_append_X4_add rfl rfl rfl (by decide +kernel) ⟨Nat.le_of_ble_eq_true rfl, Nat.le_of_ble_eq_true rfl⟩) rfl (by first | decide | omega) rfl b4 rfl rfl (Nat.le_of_ble_eq_true rfl) ⟨Nat.zero_le _, Nat.zero_le _⟩ dX5_append_30 (fun Ez1 hp2 => ?_)
      obtain ⟨v3, v4, hg5⟩ := hp2
      have f6 : Ez1 (0) = .inr (5, [.ref (ad 1), .ref (ad 4), .ref (ad 6), .ref (ad 26), .ref (ad 29), .int (nI (M 0 0)), .int (nI (M 0 1)), .int (nI (M 0 2)), .int (shI (M 0 8)), .int (nI (M 0 3)), .int (nI (M 0 4)), .int (nI (M 0 5))]) := (hg5 (0) (by omega)).trans e0
      have f7 : Ez1 (1) = .inr (0, [.ref (ad 2), .ref (ad 3)]) := (hg5 (1) (by omega)).trans e1
      have f8 : Ez1 (2) = aI cI 27 (M 1) := (hg5 (2) (by omega)).trans e2
      have f9 : Ez1 (3) = aI cI 162 (M 2) := (hg5 (3) (by omega)).trans e3
      have f10 : Ez1 (6) = .inr (2, [.ref (ad 7), .int (nI (M 0 7))]) := (hg5 (6) (by omega)).trans l6
      have f11 : Ez1 (7) = .inl (cM, 6, .inr (.inr (.inr (.inr (sf ad pm))))) := (hg5 (7) (by omega)).trans l7
      have f12 : Ez1 (29) = aI cI 32 (M 3) := (hg5 (29) (by omega)).trans e29
      have f13 : Ez1 (26) = .inr (3, [.ref (ad 27), .ref (ad 28), .int (nI (LM M))]) := (hg5 (26) (by omega)).trans s26
      have g14 : ∀ k : Nat, (k ≠ 4 ∧ k ≠ 5) → Ez1 k = E k := fun k hk => (hg5 k (by omega)).trans ((fun _ _ => rfl) k hk)
      refine z_aload_n C dX5_append_33 rfl ?_
      refine z_get C (0) (Cn := RX5) (T := TX5) (N := 12) (fi := 1) iw_X5_append_5 rfl (by decide) ln_X5_append_19 (by first | decide | omega) rfl f6 rfl dX5_append_34 ?_
      refine z_getN C (4) (Cn := RX4) (T := TX4) (N := 2) (fi := 1) iw_X5_append_4 rfl (by decide) nl_X5_94 (by first | decide | omega) rfl v3 rfl dX5_append_37 ?_
      exact hend _ _ _ _ dX5_append_40 (⟨by rw [hop], by rw [hop]; exact ⟨pm, ⟨f6, f7, f8, f9, v3, v4, f10, f11, hpm, hn6, (MsgY_mv hpm hMY (fun k hk => g14 k (by omega))), f12⟩, (MsgX_mv hpm hn6 hMX (fun k hk => g14 k (by omega))), hs.mv (g14 _ (by omega)) (g14 _ (by omega)) (g14 _ (by omega))⟩, fun k hk => g14 k (by omega)⟩)
    · have hop : o_append M (nI c) = (-13, M) := (wr_y hc (by decide)).trans (if_neg ht)
      refine z_iload_n C dX5_append_0 rfl ?_
      refine z_callSF C (k_X5_isCharacter vl D cI cM A ad E hX (nI (c))) (va_cwS 1 C.2.2.2.2.1 gX5_append_X5_isCharacter rfl rfl rfl (by decide +kernel) ⟨Nat.le_of_ble_eq_true rfl, Nat.le_of_ble_eq_true rfl⟩) rfl rfl (Nat.le_of_ble_eq_true rfl) ⟨Nat.zero_le _, Nat.zero_le _⟩ dX5_append_1 ?_
      refine z_top (nI (1)) (iw_yN hc (by omega)) ?_
      refine z_if_neN C 10 (by omega) dX5_append_4 (by decide) (fun h4 => ?_) (fun h4 => (by exfalso; omega))
      refine z_aload_n C dX5_append_10 rfl ?_
      refine z_get C (0) (Cn := RX5) (T := TX5) (N := 12) (fi := 1) iw_X5_append_5 rfl (by decide) ln_X5_append_19 (by first | decide | omega) rfl e0 rfl dX5_append_11 ?_
      refine z_getN C (4) (Cn := RX4) (T := TX4) (N := 2) (fi := 1) iw_X5_append_4 rfl (by decide) nl_X5_94 (by first | decide | omega) rfl b4 rfl dX5_append_14 ?_
      refine z_bipush C (nI (12)) dX5_append_17 (by decide) ?_
      refine z_icmp_ltN C 25 (by omega) (by omega) dX5_append_19 (by decide) (fun h19 => (by exfalso; omega)) (fun h19 => ?_)
      refine z_bipush C (-13) dX5_append_22 (by decide) ?_
      exact hend _ _ _ _ dX5_append_24 (⟨by rw [hop], by rw [hop]; exact hR, fun _ _ => rfl⟩)
  · have hop : o_append M x = (-11, M) := wr_n hx
    refine z_iload_n C dX5_append_0 rfl ?_
    refine z_callSF C (k_X5_isCharacter vl D cI cM A ad E hX (x)) (va_cwS 1 C.2.2.2.2.1 gX5_append_X5_isCharacter rfl rfl rfl (by decide +kernel) ⟨Nat.le_of_ble_eq_true rfl, Nat.le_of_ble_eq_true rfl⟩) rfl rfl (Nat.le_of_ble_eq_true rfl) ⟨Nat.zero_le _, Nat.zero_le _⟩ dX5_append_1 ?_
    refine z_top (nI (0)) (iw_n hx) ?_
    refine z_if_neN C 10 (by omega) dX5_append_4 (by decide) (fun h4 => (by exfalso; omega)) (fun h4 => ?_)
    refine z_bipush C (-11) dX5_append_7 (by decide) ?_
    exact hend _ _ _ _ dX5_append_9 (⟨by rw [hop], by rw [hop]; exact hR, fun _ _ => rfl⟩)

theorem iw_X5_clearText_5 : ∀ w ∈ wsX50, w ∈ wsX5_clearText := by decide +kernel
theorem ln_X5_clearText_19 : Cond.fieldLink RX5 19 "MarqueeDisplay" "buffer" "LMarqueeDisplay$Text;" ∈ wsX5_clearText := by decide +kernel
theorem iw_X5_clearText_4 : ∀ w ∈ wsX40, w ∈ wsX5_clearText := by decide +kernel
set_option maxHeartbeats 4000000 in
set_option maxRecDepth 100000 in
theorem k_X5_clearText (vl : Launch) (D : va_G) (cI cM : ClassId) (A : Nat → Prop) (ad : Nat → Nat) (E : Nat → va_E) (hX : XD A 40 ad) {M : St}  (hI : Inv M) (hR : RelX cI cM ad M E) : MI vl yX5_clearText wsX5_clearText { frames := 1, cells := 0, slots := 0, locals := 20 } D cI cM A 40 ad E [.ref (ad 0)] (fun r E1 => r = (o_clearText M).1 ∧ RelX cI cM ad (o_clearText M).2 E1 ∧ ∀ k : Nat, 30 ≤ k → E1 k = E k) := by
  refine mi_of cX5_clearText 2 (.int) RX5 (by decide) rfl rfl (Nat.le_of_ble_eq_true rfl) (fun r E1 h => rfl) ?_
  intro vp ve vs vm va vb vt vc Q C hend
  refine z_lv [(0, .ref (ad 0))] ⟨rfl, rfl, trivial⟩ ?_
  obtain ⟨pm, hY, hMX, hs⟩ := id hR
  obtain ⟨e0, e1, e2, e3, b4, b5, l6, l7, hpm, hn6, hMY, e29⟩ := id hY
  obtain ⟨_, _, s26, -, -, -⟩ := id hs
  rw [strip_len] at s26
  obtain ⟨⟨iW1, iW2⟩, iG, ⟨iS1, iS2⟩, ⟨iB1, iB2⟩, iO, iC, iT, iN, iSh, iWd, iDt, iZ, iDf, iDz, iTx, iMs⟩ := id hI.1
  have hLM := hI.1.LM_le
  have hsl := hI.1.slen
  have hld : ∀ a, ldM M a ≤ 512 := fun a => Nat.le_trans (ldS_le _ _ _ _ _) (by omega)
  have hl4 := hld (M 0 4)
  have hop : o_clearText M = (nI (M 0 6), s0 M 6 0) := rfl
  · skip
    refine z_aload_n C dX5_clearText_0 rfl ?_
    refine z_get C (0) (Cn := RX5) (T := TX5) (N := 12) (fi := 1) iw_X5_clearText_5 rfl (by decide) ln_X5_clearText_19 (by first | decide | omega) rfl e0 rfl dX5_clearText_1 ?_
    refine z_getN C (4) (Cn := RX4) (T := TX4) (N := 2) (fi := 1) iw_X5_clearText_4 rfl (by decide) nl_X5_94 (by first | decide | omega) rfl b4 rfl dX5_clearText_4 ?_
    refine z_istore_n C [(0, .ref (ad 0)), (1, .int (nI (M 0 6)))] dX5_clearText_7 (by decide) ⟨rfl, rfl, rfl, rfl, trivial⟩ ?_
    refine z_aload_n C dX5_clearText_8 rfl ?_
    refine z_get C (0) (Cn := RX5) (T := TX5) (N := 12) (fi := 1) iw_X5_clearText_5 rfl (by decide) ln_X5_clearText_19 (by first | decide | omega) rfl e0 rfl dX5_clearText_9 ?_
    refine z_callVV C (4) (Cn := RX4) (T := TX4) (N := 2) (k_X4_empty vl D cI cM A ad E hX b4) (cwV 0 C.2.2.2.2.1 gX5_clearText_X4_empty rfl rfl rfl (by decide +kernel) ⟨Nat.le_of_ble_eq_true rfl, Nat.le_of_ble_eq_true rfl⟩) rfl (by first | decide | omega) rfl b4 rfl rfl (Nat.le_of_ble_eq_true rfl) ⟨Nat.zero_le _, Nat.zero_le _⟩ dX5_clearText_12 (fun Ez1 hp2 => ?_)
    obtain ⟨v3, hg4⟩ := hp2
    have f5 : Ez1 (0) = .inr (5, [.ref (ad 1), .ref (ad 4), .ref (ad 6), .ref (ad 26), .ref (ad 29), .int (nI (M 0 0)), .int (nI (M 0 1)), .int (nI (M 0 2)), .int (shI (M 0 8)), .int (nI (M 0 3)), .int (nI (M 0 4)), .int (nI (M 0 5))]) := (hg4 (0) (by omega)).trans e0
    have f6 : Ez1 (1) = .inr (0, [.ref (ad 2), .ref (ad 3)]) := (hg4 (1) (by omega)).trans e1
    have f7 : Ez1 (2) = aI cI 27 (M 1) := (hg4 (2) (by omega)).trans e2
    have f8 : Ez1 (3) = aI cI 162 (M 2) := (hg4 (3) (by omega)).trans e3
    have f9 : Ez1 (5) = aI cI 12 (M 4) := (hg4 (5) (by omega)).trans b5
    have f10 : Ez1 (6) = .inr (2, [.ref (ad 7), .int (nI (M 0 7))]) := (hg4 (6) (by omega)).trans l6
    have f11 : Ez1 (7) = .inl (cM, 6, .inr (.inr (.inr (.inr (sf ad pm))))) := (hg4 (7) (by omega)).trans l7
    have f12 : Ez1 (29) = aI cI 32 (M 3) := (hg4 (29) (by omega)).trans e29
    have f13 : Ez1 (26) = .inr (3, [.ref (ad 27), .ref (ad 28), .int (nI (LM M))]) := (hg4 (26) (by omega)).trans s26
    have g14 : ∀ k : Nat, (k ≠ 4) → Ez1 k = E k := fun k hk => (hg4 k (by omega)).trans ((fun _ _ => rfl) k hk)
    refine z_iload_n C dX5_clearText_15 rfl ?_
    exact hend _ _ _ _ dX5_clearText_16 (⟨by rw [hop], by rw [hop]; exact ⟨pm, ⟨f5, f6, f7, f8, v3, f9, f10, f11, hpm, hn6, (MsgY_mv hpm hMY (fun k hk => g14 k (by omega))), f12⟩, (MsgX_mv hpm hn6 hMX (fun k hk => g14 k (by omega))), hs.mv (g14 _ (by omega)) (g14 _ (by omega)) (g14 _ (by omega))⟩, fun k hk => g14 k (by omega)⟩)

theorem iw_X5_setGap_5 : ∀ w ∈ wsX50, w ∈ wsX5_setGap := by decide +kernel
theorem ln_X5_setGap_45 : Cond.fieldLink RX5 45 "MarqueeDisplay" "gap" "I" ∈ wsX5_setGap := by decide +kernel
set_option maxHeartbeats 4000000 in
set_option maxRecDepth 100000 in
theorem k_X5_setGap (vl : Launch) (D : va_G) (cI cM : ClassId) (A : Nat → Prop) (ad : Nat → Nat) (E : Nat → va_E) (hX : XD A 40 ad) {M : St} (x : Int32) (hI : Inv M) (hR : RelX cI cM ad M E) : MI vl yX5_setGap wsX5_setGap { frames := 5, cells := 0, slots := 0, locals := 114 } D cI cM A 40 ad E [.ref (ad 0), .int (x)] (fun r E1 => r = (o_setGap M x).1 ∧ RelX cI cM ad (o_setGap M x).2 E1 ∧ ∀ k : Nat, 30 ≤ k → E1 k = E k) := by
  refine mi_of cX5_setGap 3 (.int) RX5 (by decide) rfl rfl (Nat.le_of_ble_eq_true rfl) (fun r E1 h => rfl) ?_
  intro vp ve vs vm va vb vt vc Q C hend
  refine z_lv [(0, .ref (ad 0)), (1, .int (x))] ⟨rfl, rfl, rfl, rfl, trivial⟩ ?_
  obtain ⟨pm, hY, hMX, hs⟩ := id hR
  obtain ⟨e0, e1, e2, e3, b4, b5, l6, l7, hpm, hn6, hMY, e29⟩ := id hY
  obtain ⟨_, _, s26, -, -, -⟩ := id hs
  rw [strip_len] at s26
  obtain ⟨⟨iW1, iW2⟩, iG, ⟨iS1, iS2⟩, ⟨iB1, iB2⟩, iO, iC, iT, iN, iSh, iWd, iDt, iZ, iDf, iDz, iTx, iMs⟩ := id hI.1
  have hLM := hI.1.LM_le
  have hsl := hI.1.slen
  have hld : ∀ a, ldM M a ≤ 512 := fun a => Nat.le_trans (ldS_le _ _ _ _ _) (by omega)
  have hl4 := hld (M 0 4)
  rcases wr_c 0 9 x (by omega) (by omega) with ⟨g, hg, rfl⟩ | hx
  · have hop : o_setGap M (nI g) = (nI (M 0 1), settle (s0 M 1 g)) := wr_y hg (by decide)
    refine z_iload_n C dX5_setGap_0 rfl ?_
    refine z_iconst C (nI (0)) dX5_setGap_1 (by decide) ?_
    refine z_bipush C (nI (9)) dX5_setGap_2 (by decide) ?_
    refine z_callSF C (k_X5_isWithin vl D cI cM A ad E hX (nI (g)) (nI (0)) (nI (9))) (va_cwS 3 C.2.2.2.2.1 gX5_setGap_X5_isWithin rfl rfl rfl (by decide +kernel) ⟨Nat.le_of_ble_eq_true rfl, Nat.le_of_ble_eq_true rfl⟩) rfl rfl (Nat.le_of_ble_eq_true rfl) ⟨Nat.zero_le _, Nat.zero_le _⟩ dX5_setGap_4 ?_
    refine z_top (nI (1)) (iw_yN hg (by omega)) ?_
    refine z_if_neN C 13 (by omega) dX5_setGap_7 (by decide) (fun h7 => ?_) (fun h7 => (by exfalso; omega))
    refine z_aload_n C dX5_setGap_13 rfl ?_
    refine z_get C (0) (Cn := RX5) (T := TX5) (N := 12) (fi := 6) iw_X5_setGap_5 rfl (by decide) ln_X5_setGap_45 (by first | decide | omega) rfl e0 rfl dX5_setGap_14 ?_
    refine z_istore_n C [(0, .ref (ad 0)), (1, .int (nI (g))), (2, .int (nI (M 0 1)))] dX5_setGap_17 (by decide) ⟨rfl, rfl, rfl, rfl, rfl, rfl, trivial⟩ ?_
    refine z_aload_n C dX5_setGap_18 rfl ?_
    refine z_iload_n C dX5_setGap_19 rfl ?_
    refine z_put C (0) (Cn := RX5) (T := TX5) (N := 12) (fi := 6) tyX5 iw_X5_setGap_5 tyX5_ok nmX5 rfl (by decide) ln_X5_setGap_45 hX (by first | decide | omega) rfl e0 rfl rfl rfl rfl (Nat.le_of_ble_eq_true rfl) dX5_setGap_20 (fun Ez2 hE1 => ?_)
    have f4 : Ez2 (1) = .inr (0, [.ref (ad 2), .ref (ad 3)]) := va_up_of hE1 (by first | decide | omega) e1
    have f5 : Ez2 (2) = aI cI 27 (M 1) := va_up_of hE1 (by first | decide | omega) e2
    have f6 : Ez2 (3) = aI cI 162 (M 2) := va_up_of hE1 (by first | decide | omega) e3
    have f7 : Ez2 (4) = .inr (4, [.ref (ad 5), .int (nI (M 0 6))]) := va_up_of hE1 (by first | decide | omega) b4
    have f8 : Ez2 (5) = aI cI 12 (M 4) := va_up_of hE1 (by first | decide | omega) b5
    have f9 : Ez2 (6) = .inr (2, [.ref (ad 7), .int (nI (M 0 7))]) := va_up_of hE1 (by first | decide | omega) l6
    have f10 : Ez2 (7) = .inl (cM, 6, .inr (.inr (.inr (.inr (sf ad pm))))) := va_up_of hE1 (by first | decide | omega) l7
    have f11 : Ez2 (29) = aI cI 32 (M 3) := va_up_of hE1 (by first | decide | omega) e29
    have f12 : Ez2 (26) = .inr (3, [.ref (ad 27), .ref (ad 28), .int (nI (LM M))]) := va_up_of hE1 (by first | decide | omega) s26
    have f13 : Ez2 (0) = .inr (5, [.ref (ad 1), .ref (ad 4), .ref (ad 6), .ref (ad 26), .ref (ad 29), .int (nI (M 0 0)), .int (nI (g)), .int (nI (M 0 2)), .int (shI (M 0 8)), .int (nI (M 0 3)), .int (nI (M 0 4)), .int (nI (M 0 5))]) := va_up_eq hE1
    have g14 : ∀ k : Nat, (k ≠ 0) → Ez2 k = E k := fun k hk => va_up_of hE1 (by omega) ((fun _ _ => rfl) k hk)
    refine z_aload_n C dX5_setGap_23 rfl ?_
    have hY2 : RelY cI cM ad (s0 M 1 g) (pm) Ez2 := ⟨f13, f4, f5, f6, f7, f8, f9, f10, hpm, hn6, (MsgY_mv hpm hMY (fun k hk => g14 k (by omega))), f11⟩
    have hs2 : StripAt cI ad Ez2 (stripM M) := hs.mv (g14 _ (by omega)) (g14 _ (by omega)) (g14 _ (by omega))
    have hI2 : Inv0 (s0 M 1 g) := inv0_g hI.1 hg.2
    refine z_callVV C (0) (Cn := RX5) (T := TX5) (N := 12) (k_lay vl D cI cM A ad Ez2 hX hY2 hI2 hs2) (cwV 0 C.2.2.2.2.1 gX5_setGap_X5_layOutStrip rfl rfl rfl (by decide +kernel) ⟨Nat.le_of_ble_eq_true rfl, Nat.le_of_ble_eq_true rfl⟩) rfl (by first | decide | omega) rfl f13 rfl rfl (Nat.le_of_ble_eq_true rfl) ⟨Nat.zero_le _, Nat.zero_le _⟩ dX5_setGap_24 (fun Ez15 hp16 => ?_)
    obtain ⟨hR3, hf3⟩ := hp16
    have hf4 : ∀ k : Nat, 30 ≤ k → Ez15 k = E k := fun k hk => (hf3 k hk).trans (g14 k (by omega))
    obtain ⟨pm3, ⟨g0, -, -, -, -, -, -, -, -⟩, -, hs3⟩ := id hR3
    obtain ⟨_, _, t26, -, -, -⟩ := id hs3
    rw [strip_len] at t26
    refine z_iload_n C dX5_setGap_27 rfl ?_
    exact hend _ _ _ _ dX5_setGap_28 (⟨by rw [hop], by rw [hop]; exact hR3, hf4⟩)
  · have hop : o_setGap M x = (-11, M) := wr_n hx
    refine z_iload_n C dX5_setGap_0 rfl ?_
    refine z_iconst C (nI (0)) dX5_setGap_1 (by decide) ?_
    refine z_bipush C (nI (9)) dX5_setGap_2 (by decide) ?_
    refine z_callSF C (k_X5_isWithin vl D cI cM A ad E hX (x) (nI (0)) (nI (9))) (va_cwS 3 C.2.2.2.2.1 gX5_setGap_X5_isWithin rfl rfl rfl (by decide +kernel) ⟨Nat.le_of_ble_eq_true rfl, Nat.le_of_ble_eq_true rfl⟩) rfl rfl (Nat.le_of_ble_eq_true rfl) ⟨Nat.zero_le _, Nat.zero_le _⟩ dX5_setGap_4 ?_
    refine z_top (nI (0)) (iw_n hx) ?_
    refine z_if_neN C 13 (by omega) dX5_setGap_7 (by decide) (fun h7 => (by exfalso; omega)) (fun h7 => ?_)
    refine z_bipush C (-11) dX5_setGap_10 (by decide) ?_
    exact hend _ _ _ _ dX5_setGap_12 (⟨by rw [hop], by rw [hop]; exact hR, fun _ _ => rfl⟩)

