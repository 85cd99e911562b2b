theorem k_settle (vl : Launch) (D : va_G) (cI cM : ClassId) (A : Nat → Prop) (ad : Nat → Nat) (E : Nat → va_E) (hX : XD A 40 ad) {M : St} (hI : Inv0 M) (hR : RelM cI ad M E) : MI vl yX6_settles wsX6_settles { frames := 3, cells := 0, slots := 0, locals := 66 } D cI cM A 40 ad E [.ref (ad 30)] (fun r E1 => r = nI (LM M) ∧ RelM cI ad (settle M) E1 ∧ ∀ k : Nat, k ≠ 30 → E1 k = E k) := by
  obtain ⟨gl, sz, co, lt, sp, e30, e31, e32, e33, e34, e35, e36, e37, hms, hn6, hgl, hrel⟩ := id hR
  have hLe : sL (M 1) (M 0 1) sz (ltr lt) (M 0 7) = LM M := sL_cg (fun i hi => ⟨(hrel i hi).1, fun k hk => (hrel i hi).2.2 k (by rw [← (hrel i hi).1]; exact hk)⟩)
  refine MI.mono (k_X6_settles vl D cI cM A ad E hX e30 e31 e35 e37 hn6 (fun i hi => ?_) hI.ws hI.2.1 (by have := hI.2.2.2.2.1; omega)) (fun r E1 h => ?_)
  · obtain ⟨h1, h2, h3⟩ := hrel i hi
    have h4 := hI.2.2.2.2.2.2.2.2.2.2.2.2.2.2.2 i hi
    rw [h1]
    exact ⟨h4.1, fun k hk => by rw [h3 k hk]; exact h4.2.2 k hk⟩
  · obtain ⟨h1, h2, h3⟩ := h
    rw [hLe] at h1 h2
    exact ⟨h1, ⟨gl, sz, co, lt, sp, h2, (h3 _ (by decide)).trans e31, (h3 _ (by decide)).trans e32, (h3 _ (by decide)).trans e33, (h3 _ (by decide)).trans e34, (h3 _ (by decide)).trans e35, (h3 _ (by decide)).trans e36, (h3 _ (by decide)).trans e37, hms.mv (h3 _ (by decide)) (h3 _ (by decide)), hn6, hgl, hrel⟩, h3⟩
theorem glw {M : St} {gl : Nat → Nat} {c w : Nat} (hI : Inv0 M) (hgl : ∀ c, c < 27 → ∀ j, j < M 1 c → gl (6 * c + j) = M 2 (c * 6 + j)) (hw : 1 ≤ w ∧ w ≤ 6) {g2 : Nat → Nat} {b : Nat} (hb : w ≤ b) (hbb : b ≤ 6) (hg : g2 = clr gl (6 * c + M 1 c) (6 * c + b)) (hbw : b = w ∨ b = M 1 c) : ∀ d, d < 27 → ∀ j, j < va_up (M 1) c w d → g2 (6 * d + j) = clr (M 2) (c * 6 + w) (c * 6 + 6) (d * 6 + j) := by
  intro d hd j hj
  have hwd := (hI.ws d hd)
  rw [hg]
  by_cases e : d = c
  · subst e
    rw [va_up_self] at hj
    unfold clr
    rw [if_neg (show ¬ (d * 6 + w ≤ d * 6 + j ∧ d * 6 + j < d * 6 + 6) by omega)]
    by_cases h : M 1 d ≤ j
    · rw [if_pos (by omega)]
      exact (hI.2.2.2.2.2.2.2.2.2.2.2.1 d hd j (by omega) h).symm
    · rw [if_neg (by omega)]
      exact hgl d hd j (by omega)
  · rw [va_up_ne _ _ e] at hj
    unfold clr
    rw [if_neg (by omega), if_neg (by omega)]
    exact hgl d hd j hj
theorem iw_X6_setGlyphWidth_6 : ∀ w ∈ wsX60, w ∈ wsX6_setGlyphWidth := by decide +kernel
theorem ln_X6_setGlyphWidth_22 : Cond.fieldLink RX6 22 "MarqueeDisplayModel" "width" "[I" ∈ wsX6_setGlyphWidth := by decide +kernel
theorem ln_X6_setGlyphWidth_26 : Cond.fieldLink RX6 26 "MarqueeDisplayModel" "glyph" "[I" ∈ wsX6_setGlyphWidth := by decide +kernel
set_option maxHeartbeats 4000000 in
set_option maxRecDepth 100000 in
theorem k_X6_setGlyphWidth (vl : Launch) (D : va_G) (cI cM : ClassId) (A : Nat → Prop) (ad : Nat → Nat) (E : Nat → va_E) (hX : XD A 40 ad) {M : St} (x y : Int32) (hI : Inv M) (hR : RelM cI ad M E) : MI vl yX6_setGlyphWidth wsX6_setGlyphWidth { frames := 4, cells := 0, slots := 0, locals := 87 } D cI cM A 40 ad E [.ref (ad 30), .int (x), .int (y)] (fun r E1 => r = (o_setGlyphWidth M x y).1 ∧ RelM cI ad (o_setGlyphWidth M x y).2 E1 ∧ ∀ k : Nat, (k < 30) → E1 k = E k) := by
  refine mi_of cX6_setGlyphWidth 5 (.int) RX6 (by decide) rfl rfl (Nat.le_of_ble_eq_true rfl) (fun r E1 h => rfl) ?_
  intro vp ve vs vm va vb vt vc Q C hend
  refine z_lv [(0, .ref (ad 30)), (1, .int (x)), (2, .int (y))] ⟨rfl, rfl, rfl, rfl, rfl, rfl, trivial⟩ ?_
  obtain ⟨gl, sz, co, lt, sp, e30, e31, e32, e33, e34, e35, e36, e37, hms, hn6, hgl, hrel⟩ := id hR
  obtain ⟨⟨iW1, iW2⟩, iG, ⟨iS1, iS2⟩, ⟨iB1, iB2⟩, iO, iC, iT, iN, iSh, iWd, iDt, iZ, iDf, iDz, iTx, iMs⟩ := id hI.1
  have hLM := hI.1.LM_le
  have hsl := hI.1.slen
  have hww := hI.1.ws
  have hld : ∀ a, ldM M a ≤ 512 := fun a => Nat.le_trans (ldS_le _ _ _ _ _) (by omega)
  have hl4 := hld (M 0 4)
  have hsz : ∀ i, i < M 0 7 → (1 ≤ sz i ∧ sz i ≤ 12) ∧ ∀ k, k < sz i → ltr lt i k < 27 := fun i hi => by
    obtain ⟨h1, h2, h3⟩ := hrel i hi
    have h4 := iMs i hi
    rw [h1]
    exact ⟨h4.1, fun k hk => by rw [h3 k hk]; exact h4.2.2 k hk⟩
  have hLe : sL (M 1) (M 0 1) sz (ltr lt) (M 0 7) = LM M := sL_cg (fun i hi => ⟨(hrel i hi).1, fun k hk => (hrel i hi).2.2 k (by rw [← (hrel i hi).1]; exact hk)⟩)
  have hst : scols (M 1) (M 2) (M 0 1) sz co (ltr lt) (M 0 7) = stripM M := scols_cg (fun i hi => ⟨(hrel i hi).1, (hrel i hi).2.1, fun k hk => (hrel i hi).2.2 k (by rw [← (hrel i hi).1]; exact hk)⟩)
  rcases wr_c 0 26 x (by omega) (by omega) with ⟨c, hc, rfl⟩ | hx
  · rcases wr_c 1 6 y (by omega) (by omega) with ⟨w, hw, rfl⟩ | hy
    · have hop : o_setGlyphWidth M (nI c) (nI w) = (nI (M 1 c), settle (va_up (va_up M 1 (va_up (M 1) c w)) 2 (clr (M 2) (c * 6 + w) (c * 6 + 6)))) := (wr_y hc (by decide)).trans (wr_y hw (by decide))
      have hwc := iWd c (by omega)
      refine z_iload_n C dX6_setGlyphWidth_0 rfl ?_
      refine z_iconst C (nI (0)) dX6_setGlyphWidth_1 (by decide) ?_
      refine z_bipush C (nI (26)) dX6_setGlyphWidth_2 (by decide) ?_
      refine z_callSF C (k_X6_in vl D cI cM A ad E hX (nI (c)) (nI (0)) (nI (26))) (va_cwS 3 C.2.2.2.2.1 gX6_setGlyphWidth_X6_in rfl rfl rfl (by decide +kernel) ⟨Nat.le_of_ble_eq_true rfl, Nat.le_of_ble_eq_true rfl⟩) rfl rfl (Nat.le_of_ble_eq_true rfl) ⟨Nat.zero_le _, Nat.zero_le _⟩ dX6_setGlyphWidth_4 ?_
      refine z_top (nI (1)) (iw_yN hc (by omega)) ?_
      refine z_if_eqN C 20 (by omega) dX6_setGlyphWidth_7 (by decide) (fun h7 => (by exfalso; omega)) (fun h7 => ?_)
      refine z_iload_n C dX6_setGlyphWidth_10 rfl ?_
      refine z_iconst C (nI (1)) dX6_setGlyphWidth_11 (by decide) ?_
      refine z_bipush C (nI (6)) dX6_setGlyphWidth_12 (by decide) ?_
      refine z_callSF C (k_X6_in vl D cI cM A ad E hX (nI (w)) (nI (1)) (nI (6))) (va_cwS 3 C.2.2.2.2.1 gX6_setGlyphWidth_X6_in rfl rfl rfl (by decide +kernel) ⟨Nat.le_of_ble_eq_true rfl, Nat.le_of_ble_eq_true rfl⟩) rfl rfl (Nat.le_of_ble_eq_true rfl) ⟨Nat.zero_le _, Nat.zero_le _⟩ dX6_setGlyphWidth_14 ?_
      refine z_top (nI (1)) (iw_yN hw (by omega)) ?_
      refine z_if_neN C 23 (by omega) dX6_setGlyphWidth_17 (by decide) (fun h17 => ?_) (fun h17 => (by exfalso; omega))
      refine z_aload_n C dX6_setGlyphWidth_23 rfl ?_
      refine z_get C (30) (Cn := RX6) (T := TX6) (N := 19) (fi := 7) iw_X6_setGlyphWidth_6 rfl (by decide) ln_X6_setGlyphWidth_22 (by first | decide | omega) rfl e30 rfl dX6_setGlyphWidth_24 ?_
      refine z_iload_n C dX6_setGlyphWidth_27 rfl ?_
      refine z_ialdG C (31) (by first | decide | omega) rfl e31 (by omega) (by decide) dX6_setGlyphWidth_28 ?_
      refine z_istore_n C [(0, .ref (ad 30)), (1, .int (nI (c))), (2, .int (nI (w))), (3, .int (nI ((M 1) (c))))] dX6_setGlyphWidth_29 (by decide) ⟨rfl, rfl, rfl, rfl, rfl, rfl, rfl, rfl, trivial⟩ ?_
      refine z_iload_n C dX6_setGlyphWidth_30 rfl ?_
      refine z_istore C [(0, .ref (ad 30)), (1, .int (nI (c))), (2, .int (nI (w))), (3, .int (nI ((M 1) (c)))), (4, .int (nI ((M 1) (c))))] dX6_setGlyphWidth_31 (by decide) ⟨rfl, rfl, rfl, rfl, rfl, rfl, rfl, rfl, rfl, rfl, trivial⟩ ?_
      have loop33 : ∀ (fuel : Nat) (j : Nat) (E2 : Nat → va_E), (hj : M 1 c ≤ j ∧ (j ≤ w ∨ j = M 1 c)) → (q30 : E2 (30) = .inr (6, [.int (nI (M 0 0)), .int (nI (M 0 1)), .int (nI (M 0 2)), .int (shI (M 0 8)), .int (nI (M 0 3)), .int (nI (M 0 4)), .int (nI (M 0 5)), .ref (ad 31), .ref (ad 32), .ref (ad 33), .int (nI (M 0 6)), .ref (ad 34), .int (nI (M 0 7)), .ref (ad 35), .ref (ad 36), .ref (ad 37), .int (nI (sp)), .ref (ad 38), .ref (ad 39)])) → (q31 : E2 (31) = aI cI 27 (M 1)) → (q32 : E2 (32) = aI cI 162 (clr gl (6 * c + M 1 c) (6 * c + j))) → (qf : ∀ k : Nat, (k ≠ 30 ∧ k ≠ 31 ∧ k ≠ 32) → E2 k = E k) → 6 - j < fuel → Z vp vl ve { frames := 4, cells := 0, slots := 0, locals := 87 } vs vm va vb vt vc 5 D A 40 ad E2 [(0, .ref (ad 30)), (1, .int (nI (c))), (2, .int (nI (w))), (3, .int (nI (M 1 c))), (4, .int (nI (j)))] 0 0 Q 33 [] := by
        intro fuel
        induction fuel with
        | zero => intro j E2 hj q30 q31 q32 qf hlt; exact absurd hlt (Nat.not_lt_zero _)
        | succ fuel ih =>
          intro j E2 hj q30 q31 q32 qf hlt
          have ih33 := ih
          refine z_iload C dX6_setGlyphWidth_33 rfl ?_
          refine z_iload_n C dX6_setGlyphWidth_35 rfl ?_
          refine z_icmp_geN C 58 (by omega) (by omega) dX6_setGlyphWidth_36 (by decide) (fun h36 => ?_) (fun h36 => ?_)
          · refine z_aload_n C dX6_setGlyphWidth_58 rfl ?_
            refine z_get C (30) (Cn := RX6) (T := TX6) (N := 19) (fi := 7) iw_X6_setGlyphWidth_6 rfl (by decide) ln_X6_setGlyphWidth_22 (by first | decide | omega) rfl q30 rfl dX6_setGlyphWidth_59 ?_
            refine z_iload_n C dX6_setGlyphWidth_62 rfl ?_
            refine z_iload_n C dX6_setGlyphWidth_63 rfl ?_
            refine z_iastG C (31) hX (by first | decide | omega) rfl q31 (by omega) (by decide) dX6_setGlyphWidth_64 (fun Ez2 hE1 => ?_)
            have f3 : Ez2 (30) = .inr (6, [.int (nI (M 0 0)), .int (nI (M 0 1)), .int (nI (M 0 2)), .int (shI (M 0 8)), .int (nI (M 0 3)), .int (nI (M 0 4)), .int (nI (M 0 5)), .ref (ad 31), .ref (ad 32), .ref (ad 33), .int (nI (M 0 6)), .ref (ad 34), .int (nI (M 0 7)), .ref (ad 35), .ref (ad 36), .ref (ad 37), .int (nI (sp)), .ref (ad 38), .ref (ad 39)]) := va_up_of hE1 (by first | decide | omega) q30
            have f5 : Ez2 (32) = aI cI 162 (clr gl (6 * c + M 1 c) (6 * c + j)) := va_up_of hE1 (by first | decide | omega) q32
            have f6 : Ez2 (31) = aI cI 27 (va_up (M 1) (c) (w)) := va_up_eq hE1
            have g7 : ∀ k : Nat, (k ≠ 30 ∧ k ≠ 31 ∧ k ≠ 32) → Ez2 k = E k := fun k hk => va_up_of hE1 (by omega) (qf k hk)
            refine z_aload_n C dX6_setGlyphWidth_65 rfl ?_
            have hR2 : RelM cI ad (va_up (va_up M 1 (va_up (M 1) c w)) 2 (clr (M 2) (c * 6 + w) (c * 6 + 6))) Ez2 := ⟨_, sz, co, lt, sp, f3, f6, f5, ((g7 _ (by omega)).trans e33), ((g7 _ (by omega)).trans e34), ((g7 _ (by omega)).trans e35), ((g7 _ (by omega)).trans e36), ((g7 _ (by omega)).trans e37), hms.mv (g7 _ (by omega)) (g7 _ (by omega)), hn6, (glw hI.1 hgl hw (b := j) h36 (by omega) rfl (by omega)), hrel⟩
            have hI2 : Inv0 (va_up (va_up M 1 (va_up (M 1) c w)) 2 (clr (M 2) (c * 6 + w) (c * 6 + 6))) := inv0_w hI.1 hw
            refine z_callVI C (30) (Cn := RX6) (T := TX6) (N := 19) (k_settle vl D cI cM A ad Ez2 hX hI2 hR2) (cwV 0 C.2.2.2.2.1 gX6_setGlyphWidth_X6_settles rfl rfl rfl (by decide +kernel) ⟨Nat.le_of_ble_eq_true rfl, Nat.le_of_ble_eq_true rfl⟩) rfl (by first | decide | omega) rfl f3 rfl rfl (Nat.le_of_ble_eq_true rfl) ⟨Nat.zero_le _, Nat.zero_le _⟩ dX6_setGlyphWidth_66 (fun r10 Ez8 hp9 => ?_)
            obtain ⟨hr3, hR3, hf3⟩ := hp9
            have hf4 : ∀ k : Nat, k < 30 → Ez8 k = E k := fun k hk => (hf3 k (by omega)).trans (g7 k (by omega))
            subst hr3
            refine z_pop C dX6_setGlyphWidth_69 rfl ?_
            refine z_iload_n C dX6_setGlyphWidth_70 rfl ?_
            exact hend _ _ _ _ dX6_setGlyphWidth_71 (⟨by rw [hop], by rw [hop]; exact hR3, hf4⟩)
          · refine z_aload_n C dX6_setGlyphWidth_39 rfl ?_
            refine z_get C (30) (Cn := RX6) (T := TX6) (N := 19) (fi := 8) iw_X6_setGlyphWidth_6 rfl (by decide) ln_X6_setGlyphWidth_26 (by first | decide | omega) rfl q30 rfl dX6_setGlyphWidth_40 ?_
            refine z_bipush C (nI (6)) dX6_setGlyphWidth_43 (by decide) ?_
            refine z_iload_n C dX6_setGlyphWidth_45 rfl ?_
            refine z_imulN C  dX6_setGlyphWidth_46 ?_
            refine z_iload C dX6_setGlyphWidth_47 rfl ?_
            refine z_iaddN C  dX6_setGlyphWidth_49 ?_
            refine z_iconst C (nI (0)) dX6_setGlyphWidth_50 (by decide) ?_
            refine z_iastG C (32) hX (by first | decide | omega) rfl q32 (by omega) (by decide) dX6_setGlyphWidth_51 (fun Ez12 hE11 => ?_)
            have f13 : Ez12 (30) = .inr (6, [.int (nI (M 0 0)), .int (nI (M 0 1)), .int (nI (M 0 2)), .int (shI (M 0 8)), .int (nI (M 0 3)), .int (nI (M 0 4)), .int (nI (M 0 5)), .ref (ad 31), .ref (ad 32), .ref (ad 33), .int (nI (M 0 6)), .ref (ad 34), .int (nI (M 0 7)), .ref (ad 35), .ref (ad 36), .ref (ad 37), .int (nI (sp)), .ref (ad 38), .ref (ad 39)]) := va_up_of hE11 (by first | decide | omega) q30
            have f14 : Ez12 (31) = aI cI 27 (M 1) := va_up_of hE11 (by first | decide | omega) q31
            have f16 : Ez12 (32) = aI cI 162 (va_up (clr gl (6 * c + M 1 c) (6 * c + j)) ((6 * c) + j) (0)) := va_up_eq hE11
            have g17 : ∀ k : Nat, (k ≠ 30 ∧ k ≠ 31 ∧ k ≠ 32) → Ez12 k = E k := fun k hk => va_up_of hE11 (by omega) (qf k hk)
            refine z_iincN (j := 1) C [(0, .ref (ad 30)), (1, .int (nI (c))), (2, .int (nI (w))), (3, .int (nI (M 1 c))), (4, .int (nI (j + 1)))] dX6_setGlyphWidth_52 rfl (by decide) ⟨rfl, rfl, rfl, rfl, rfl, rfl, rfl, rfl, rfl, rfl, trivial⟩ ?_
            refine z_goto C 33 dX6_setGlyphWidth_55 (by decide) ?_
            refine z_lv [(0, .ref (ad 30)), (1, .int (nI (c))), (2, .int (nI (w))), (3, .int (nI (M 1 c))), (4, .int (nI (j + 1)))] ⟨rfl, rfl, rfl, rfl, rfl, rfl, rfl, rfl, rfl, rfl, trivial⟩ ?_
            exact ih33 (j + 1) Ez12 (by omega) f13 f14 (f16.trans (by rw [clr_s (by omega)]; rfl)) g17 (by omega)
      refine z_lv [(0, .ref (ad 30)), (1, .int (nI (c))), (2, .int (nI (w))), (3, .int (nI ((M 1) (c)))), (4, .int (nI ((M 1) (c))))] ⟨rfl, rfl, rfl, rfl, rfl, rfl, rfl, rfl, rfl, rfl, trivial⟩ ?_
      exact loop33 (7) (M 1 c) E ⟨Nat.le_refl _, Or.inr rfl⟩ e30 e31 (e32.trans (by rw [clr_0])) (fun _ _ => rfl) (by omega)
    · have hop : o_setGlyphWidth M (nI c) y = (-11, M) := (wr_y hc (by decide)).trans (wr_n hy)
      refine z_iload_n C dX6_setGlyphWidth_0 rfl ?_
      refine z_iconst C (nI (0)) dX6_setGlyphWidth_1 (by decide) ?_
      refine z_bipush C (nI (26)) dX6_setGlyphWidth_2 (by decide) ?_
      refine z_callSF C (k_X6_in vl D cI cM A ad E hX (nI (c)) (nI (0)) (nI (26))) (va_cwS 3 C.2.2.2.2.1 gX6_setGlyphWidth_X6_in rfl rfl rfl (by decide +kernel) ⟨Nat.le_of_ble_eq_true rfl, Nat.le_of_ble_eq_true rfl⟩) rfl rfl (Nat.le_of_ble_eq_true rfl) ⟨Nat.zero_le _, Nat.zero_le _⟩ dX6_setGlyphWidth_4 ?_
      refine z_top (nI (1)) (iw_yN hc (by omega)) ?_
      refine z_if_eqN C 20 (by omega) dX6_setGlyphWidth_7 (by decide) (fun h7 => (by exfalso; omega)) (fun h7 => ?_)
      refine z_iload_n C dX6_setGlyphWidth_10 rfl ?_
      refine z_iconst C (nI (1)) dX6_setGlyphWidth_11 (by decide) ?_
      refine z_bipush C (nI (6)) dX6_setGlyphWidth_12 (by decide) ?_
      refine z_callSF C (k_X6_in vl D cI cM A ad E hX (y) (nI (1)) (nI (6))) (va_cwS 3 C.2.2.2.2.1 gX6_setGlyphWidth_X6_in rfl rfl rfl (by decide +kernel) ⟨Nat.le_of_ble_eq_true rfl, Nat.le_of_ble_eq_true rfl⟩) rfl rfl (Nat.le_of_ble_eq_true rfl) ⟨Nat.zero_le _, Nat.zero_le _⟩ dX6_setGlyphWidth_14 ?_
      refine z_top (nI (0)) (iw_n hy) ?_
      refine z_if_neN C 23 (by omega) dX6_setGlyphWidth_17 (by decide) (fun h17 => (by exfalso; omega)) (fun h17 => ?_)
      refine z_bipush C (-11) dX6_setGlyphWidth_20 (by decide) ?_
      exact hend _ _ _ _ dX6_setGlyphWidth_22 (⟨by rw [hop], by rw [hop]; exact hR, fun _ _ => rfl⟩)
  · have hop : o_setGlyphWidth M x y = (-11, M) := wr_n hx
    refine z_iload_n C dX6_setGlyphWidth_0 rfl ?_
    refine z_iconst C (nI (0)) dX6_setGlyphWidth_1 (by decide) ?_
    refine z_bipush C (nI (26)) dX6_setGlyphWidth_2 (by decide) ?_
    refine z_callSF C (k_X6_in vl D cI cM A ad E hX (x) (nI (0)) (nI (26))) (va_cwS 3 C.2.2.2.2.1 gX6_setGlyphWidth_X6_in rfl rfl rfl (by decide +kernel) ⟨Nat.le_of_ble_eq_true rfl, Nat.le_of_ble_eq_true rfl⟩) rfl rfl (Nat.le_of_ble_eq_true rfl) ⟨Nat.zero_le _, Nat.zero_le _⟩ dX6_setGlyphWidth_4 ?_
    refine z_top (nI (0)) (iw_n hx) ?_
    refine z_if_eqN C 20 (by omega) dX6_setGlyphWidth_7 (by decide) (fun h7 => ?_) (fun h7 => (by exfalso; omega))
    refine z_bipush C (-11) dX6_setGlyphWidth_20 (by decide) ?_
    exact hend _ _ _ _ dX6_setGlyphWidth_22 (⟨by rw [hop], by rw [hop]; exact hR, fun _ _ => rfl⟩)

theorem settle_id {M : St} (h : M 0 4 < LM M ∨ M 0 4 = 0) : settle M = M := by
  unfold settle s0
  have e : (if M 0 4 < LM M then M 0 4 else 0) = M 0 4 := by
    split
    · rfl
    · rcases h with h | h <;> omega
  rw [e]
  funext a b
  by_cases ha : a = 0
  · subst ha
    rw [va_up_self]
    by_cases hb : b = 4
    · subst hb; exact va_up_self _ _ _
    · exact va_up_ne _ _ hb
  · rw [va_up_ne _ _ ha]
theorem glc {M : St} {gl : Nat → Nat} {c j b : Nat} (hgl : ∀ c, c < 27 → ∀ j, j < M 1 c → gl (6 * c + j) = M 2 (c * 6 + j)) (hw : ∀ c, c < 27 → M 1 c ≤ 6) (hj : j < 6) : ∀ d, d < 27 → ∀ i, i < M 1 d → va_up gl (6 * c + j) b (6 * d + i) = va_up (M 2) (c * 6 + j) b (d * 6 + i) := by
  intro d hd i hi
  have := hw d hd
  by_cases e : 6 * d + i = 6 * c + j
  · rw [e, va_up_self, show d * 6 + i = c * 6 + j by omega, va_up_self]
  · rw [va_up_ne _ _ e, va_up_ne _ _ (by omega)]
    exact hgl d hd i hi
theorem relc {M : St} {sz co lt : Nat → Nat} {j col : Nat} (hrel : ∀ i, i < M 0 7 → sz i = M 5 i ∧ co i = M 6 i ∧ ∀ k, k < M 5 i → ltr lt i k = ltr (M 7) i k) : ∀ i, i < M 0 7 → sz i = M 5 i ∧ va_up co j col i = va_up (M 6) j col i ∧ ∀ k, k < M 5 i → ltr lt i k = ltr (M 7) i k := by
  intro i hi
  obtain ⟨h1, h2, h3⟩ := hrel i hi
  refine ⟨h1, ?_, h3⟩
  by_cases e : i = j
  · subst e; rw [va_up_self, va_up_self]
  · rw [va_up_ne _ _ e, va_up_ne _ _ e]; exact h2
theorem iw_X6_setGlyphColumn_6 : ∀ w ∈ wsX60, w ∈ wsX6_setGlyphColumn := by decide +kernel
theorem ln_X6_setGlyphColumn_22 : Cond.fieldLink RX6 22 "MarqueeDisplayModel" "width" "[I" ∈ wsX6_setGlyphColumn := by decide +kernel
theorem ln_X6_setGlyphColumn_26 : Cond.fieldLink RX6 26 "MarqueeDisplayModel" "glyph" "[I" ∈ wsX6_setGlyphColumn := by decide +kernel
set_option maxHeartbeats 4000000 in
set_option maxRecDepth 100000 in
theorem k_X6_setGlyphColumn (vl : Launch) (D : va_G) (cI cM : ClassId) (A : Nat → Prop) (ad : Nat → Nat) (E : Nat → va_E) (hX : XD A 40 ad) {M : St} (x y z : Int32) (hI : Inv M) (hR : RelM cI ad M E) : MI vl yX6_setGlyphColumn wsX6_setGlyphColumn { frames := 1, cells := 0, slots := 0, locals := 22 } D cI cM A 40 ad E [.ref (ad 30), .int (x), .int (y), .int (z)] (fun r E1 => r = (o_setGlyphColumn M x y z).1 ∧ RelM cI ad (o_setGlyphColumn M x y z).2 E1 ∧ ∀ k : Nat, (k < 30) → E1 k = E k) := by
  refine mi_of cX6_setGlyphColumn 5 (.int) RX6 (by decide) rfl rfl (Nat.le_of_ble_eq_true rfl) (fun r E1 h => rfl) ?_
  intro vp ve vs vm va vb vt vc Q C hend
  refine z_lv [(0, .ref (ad 30)), (1, .int (x)), (2, .int (y)), (3, .int (z))] ⟨rfl, rfl, rfl, rfl, rfl, rfl, rfl, rfl, trivial⟩ ?_
  obtain ⟨gl, sz, co, lt, sp, e30, e31, e32, e33, e34, e35, e36, e37, hms, hn6, hgl, hrel⟩ := id hR
  obtain ⟨⟨iW1, iW2⟩, iG, ⟨iS1, iS2⟩, ⟨iB1, iB2⟩, iO, iC, iT, iN, iSh, iWd, iDt, iZ, iDf, iDz, iTx, iMs⟩ := id hI.1
  have hLM := hI.1.LM_le
  have hsl := hI.1.slen
  have hww := hI.1.ws
  have hld : ∀ a, ldM M a ≤ 512 := fun a => Nat.le_trans (ldS_le _ _ _ _ _) (by omega)
  have hl4 := hld (M 0 4)
  have hsz : ∀ i, i < M 0 7 → (1 ≤ sz i ∧ sz i ≤ 12) ∧ ∀ k, k < sz i → ltr lt i k < 27 := fun i hi => by
    obtain ⟨h1, h2, h3⟩ := hrel i hi
    have h4 := iMs i hi
    rw [h1]
    exact ⟨h4.1, fun k hk => by rw [h3 k hk]; exact h4.2.2 k hk⟩
  have hLe : sL (M 1) (M 0 1) sz (ltr lt) (M 0 7) = LM M := sL_cg (fun i hi => ⟨(hrel i hi).1, fun k hk => (hrel i hi).2.2 k (by rw [← (hrel i hi).1]; exact hk)⟩)
  have hst : scols (M 1) (M 2) (M 0 1) sz co (ltr lt) (M 0 7) = stripM M := scols_cg (fun i hi => ⟨(hrel i hi).1, (hrel i hi).2.1, fun k hk => (hrel i hi).2.2 k (by rw [← (hrel i hi).1]; exact hk)⟩)
  rcases wr_c 0 26 x (by omega) (by omega) with ⟨c, hc, rfl⟩ | hx
  · have hwc := iWd c (by omega)
    rcases wr_c 0 (M 1 c - 1) y (by omega) (by omega) with ⟨j, hj, rfl⟩ | hy
    · rcases wr_c 0 255 z (by omega) (by omega) with ⟨b, hb, rfl⟩ | hz
      · have hop0 : o_setGlyphColumn M (nI c) (nI j) (nI b) = (nI (M 2 (c * 6 + j)), settle (va_up M 2 (va_up (M 2) (c * 6 + j) b))) := (wr_y hc (by decide)).trans ((wr_y hb (by decide)).trans (wr_y hj (by omega)))
        have hop : o_setGlyphColumn M (nI c) (nI j) (nI b) = (nI (M 2 (c * 6 + j)), va_up M 2 (va_up (M 2) (c * 6 + j) b)) := by rw [hop0, settle_id (M := va_up M 2 (va_up (M 2) (c * 6 + j) b)) hI.2]
        refine z_iload_n C dX6_setGlyphColumn_0 rfl ?_
        refine z_iconst C (nI (0)) dX6_setGlyphColumn_1 (by decide) ?_
        refine z_bipush C (nI (26)) dX6_setGlyphColumn_2 (by decide) ?_
        refine z_callSF C (k_X6_in vl D cI cM A ad E hX (nI (c)) (nI (0)) (nI (26))) (va_cwS 3 C.2.2.2.2.1 gX6_setGlyphColumn_X6_in rfl rfl rfl (by decide +kernel) ⟨Nat.le_of_ble_eq_true rfl, Nat.le_of_ble_eq_true rfl⟩) rfl rfl (Nat.le_of_ble_eq_true rfl) ⟨Nat.zero_le _, Nat.zero_le _⟩ dX6_setGlyphColumn_4 ?_
        refine z_top (nI (1)) (iw_yN hc (by omega)) ?_
        refine z_if_eqN C 37 (by omega) dX6_setGlyphColumn_7 (by decide) (fun h7 => (by exfalso; omega)) (fun h7 => ?_)
        refine z_iload_n C dX6_setGlyphColumn_10 rfl ?_
        refine z_iconst C (nI (0)) dX6_setGlyphColumn_11 (by decide) ?_
        refine z_aload_n C dX6_setGlyphColumn_12 rfl ?_
        refine z_get C (30) (Cn := RX6) (T := TX6) (N := 19) (fi := 7) iw_X6_setGlyphColumn_6 rfl (by decide) ln_X6_setGlyphColumn_22 (by first | decide | omega) rfl e30 rfl dX6_setGlyphColumn_13 ?_
        refine z_iload_n C dX6_setGlyphColumn_16 rfl ?_
        refine z_ialdG C (31) (by first | decide | omega) rfl e31 (by omega) (by decide) dX6_setGlyphColumn_17 ?_
        refine z_iconst C (nI (1)) dX6_setGlyphColumn_18 (by decide) ?_
        refine z_isubN C (by omega) dX6_setGlyphColumn_19 ?_
        refine z_callSF C (k_X6_in vl D cI cM A ad E hX (nI (j)) (nI (0)) (nI (((M 1) (c)) - 1))) (va_cwS 3 C.2.2.2.2.1 gX6_setGlyphColumn_X6_in rfl rfl rfl (by decide +kernel) ⟨Nat.le_of_ble_eq_true rfl, Nat.le_of_ble_eq_true rfl⟩) rfl rfl (Nat.le_of_ble_eq_true rfl) ⟨Nat.zero_le _, Nat.zero_le _⟩ dX6_setGlyphColumn_20 ?_
        refine z_top (nI (1)) (iw_yN hj (by omega)) ?_
        refine z_if_eqN C 37 (by omega) dX6_setGlyphColumn_23 (by decide) (fun h23 => (by exfalso; omega)) (fun h23 => ?_)
        refine z_iload_n C dX6_setGlyphColumn_26 rfl ?_
        refine z_iconst C (nI (0)) dX6_setGlyphColumn_27 (by decide) ?_
        refine z_sipush C (nI (255)) dX6_setGlyphColumn_28 (by decide) ?_
        refine z_callSF C (k_X6_in vl D cI cM A ad E hX (nI (b)) (nI (0)) (nI (255))) (va_cwS 3 C.2.2.2.2.1 gX6_setGlyphColumn_X6_in rfl rfl rfl (by decide +kernel) ⟨Nat.le_of_ble_eq_true rfl, Nat.le_of_ble_eq_true rfl⟩) rfl rfl (Nat.le_of_ble_eq_true rfl) ⟨Nat.zero_le _, Nat.zero_le _⟩ dX6_setGlyphColumn_31 ?_
        refine z_top (nI (1)) (iw_yN hb (by omega)) ?_
        refine z_if_neN C 40 (by omega) dX6_setGlyphColumn_34 (by decide) (fun h34 => ?_) (fun h34 => (by exfalso; omega))
        refine z_aload_n C dX6_setGlyphColumn_40 rfl ?_
        refine z_get C (30) (Cn := RX6) (T := TX6) (N := 19) (fi := 8) iw_X6_setGlyphColumn_6 rfl (by decide) ln_X6_setGlyphColumn_26 (by first | decide | omega) rfl e30 rfl dX6_setGlyphColumn_41 ?_
        refine z_bipush C (nI (6)) dX6_setGlyphColumn_44 (by decide) ?_
        refine z_iload_n C dX6_setGlyphColumn_46 rfl ?_
        refine z_imulN C  dX6_setGlyphColumn_47 ?_
        refine z_iload_n C dX6_setGlyphColumn_48 rfl ?_
        refine z_iaddN C  dX6_setGlyphColumn_49 ?_
        refine z_ialdG C (32) (by first | decide | omega) rfl e32 (by omega) (by decide) dX6_setGlyphColumn_50 ?_
        refine z_top (nI (M 2 (c * 6 + j))) (by rw [hgl c (by omega) j (by omega)]) ?_
        refine z_istore C [(0, .ref (ad 30)), (1, .int (nI (c))), (2, .int (nI (j))), (3, .int (nI (b))), (4, .int (nI (M 2 (c * 6 + j))))] dX6_setGlyphColumn_51 (by decide) ⟨rfl, rfl, rfl, rfl, rfl, rfl, rfl, rfl, rfl, rfl, trivial⟩ ?_
        refine z_aload_n C dX6_setGlyphColumn_53 rfl ?_
        refine z_get C (30) (Cn := RX6) (T := TX6) (N := 19) (fi := 8) iw_X6_setGlyphColumn_6 rfl (by decide) ln_X6_setGlyphColumn_26 (by first | decide | omega) rfl e30 rfl dX6_setGlyphColumn_54 ?_
        refine z_bipush C (nI (6)) dX6_setGlyphColumn_57 (by decide) ?_
        refine z_iload_n C dX6_setGlyphColumn_59 rfl ?_
        refine z_imulN C  dX6_setGlyphColumn_60 ?_
        refine z_iload_n C dX6_setGlyphColumn_61 rfl ?_
        refine z_iaddN C  dX6_setGlyphColumn_62 ?_
        refine z_iload_n C dX6_setGlyphColumn_63 rfl ?_
        refine z_iastG C (32) hX (by first | decide | omega) rfl e32 (by omega) (by decide) dX6_setGlyphColumn_64 (fun Ez2 hE1 => ?_)
        have f3 : Ez2 (30) = .inr (6, [.int (nI (M 0 0)), .int (nI (M 0 1)), .int (nI (M 0 2)), .int (shI (M 0 8)), .int (nI (M 0 3)), .int (nI (M 0 4)), .int (nI (M 0 5)), .ref (ad 31), .ref (ad 32), .ref (ad 33), .int (nI (M 0 6)), .ref (ad 34), .int (nI (M 0 7)), .ref (ad 35), .ref (ad 36), .ref (ad 37), .int (nI (sp)), .ref (ad 38), .ref (ad 39)]) := va_up_of hE1 (by first | decide | omega) e30
        have f4 : Ez2 (31) = aI cI 27 (M 1) := va_up_of hE1 (by first | decide | omega) e31
        have f6 : Ez2 (33) = aI cI 32 (M 3) := va_up_of hE1 (by first | decide | omega) e33
        have f7 : Ez2 (34) = aI cI 12 (M 4) := va_up_of hE1 (by first | decide | omega) e34
        have f8 : Ez2 (35) = aI cI 6 sz := va_up_of hE1 (by first | decide | omega) e35
        have f9 : Ez2 (36) = aI cI 6 co := va_up_of hE1 (by first | decide | omega) e36
        have f10 : Ez2 (37) = aI cI 72 lt := va_up_of hE1 (by first | decide | omega) e37
        have f11 : Ez2 (32) = aI cI 162 (va_up gl ((6 * c) + j) (b)) := va_up_eq hE1
        have g12 : ∀ k : Nat, (k ≠ 32) → Ez2 k = E k := fun k hk => va_up_of hE1 (by omega) ((fun _ _ => rfl) k hk)
        refine z_iload C dX6_setGlyphColumn_65 rfl ?_
        exact hend _ _ _ _ dX6_setGlyphColumn_67 (⟨by rw [hop], by rw [hop]; exact ⟨_, sz, co, lt, sp, f3, f4, f11, f6, f7, f8, f9, f10, hms.mv (g12 _ (by omega)) (g12 _ (by omega)), hn6, (glc hgl hww (by omega)), hrel⟩, fun k hk => g12 k (by omega)⟩)
      · have hop : o_setGlyphColumn M (nI c) (nI j) z = (-11, M) := (wr_y hc (by decide)).trans (wr_n hz)
        refine z_iload_n C dX6_setGlyphColumn_0 rfl ?_
        refine z_iconst C (nI (0)) dX6_setGlyphColumn_1 (by decide) ?_
        refine z_bipush C (nI (26)) dX6_setGlyphColumn_2 (by decide) ?_
        refine z_callSF C (k_X6_in vl D cI cM A ad E hX (nI (c)) (nI (0)) (nI (26))) (va_cwS 3 C.2.2.2.2.1 gX6_setGlyphColumn_X6_in rfl rfl rfl (by decide +kernel) ⟨Nat.le_of_ble_eq_true rfl, Nat.le_of_ble_eq_true rfl⟩) rfl rfl (Nat.le_of_ble_eq_true rfl) ⟨Nat.zero_le _, Nat.zero_le _⟩ dX6_setGlyphColumn_4 ?_
        refine z_top (nI (1)) (iw_yN hc (by omega)) ?_
        refine z_if_eqN C 37 (by omega) dX6_setGlyphColumn_7 (by decide) (fun h7 => (by exfalso; omega)) (fun h7 => ?_)
        refine z_iload_n C dX6_setGlyphColumn_10 rfl ?_
        refine z_iconst C (nI (0)) dX6_setGlyphColumn_11 (by decide) ?_
        refine z_aload_n C dX6_setGlyphColumn_12 rfl ?_
        refine z_get C (30) (Cn := RX6) (T := TX6) (N := 19) (fi := 7) iw_X6_setGlyphColumn_6 rfl (by decide) ln_X6_setGlyphColumn_22 (by first | decide | omega) rfl e30 rfl dX6_setGlyphColumn_13 ?_
        refine z_iload_n C dX6_setGlyphColumn_16 rfl ?_
        refine z_ialdG C (31) (by first | decide | omega) rfl e31 (by omega) (by decide) dX6_setGlyphColumn_17 ?_
        refine z_iconst C (nI (1)) dX6_setGlyphColumn_18 (by decide) ?_
        refine z_isubN C (by omega) dX6_setGlyphColumn_19 ?_
        refine z_callSF C (k_X6_in vl D cI cM A ad E hX (nI (j)) (nI (0)) (nI (((M 1) (c)) - 1))) (va_cwS 3 C.2.2.2.2.1 gX6_setGlyphColumn_X6_in rfl rfl rfl (by decide +kernel) ⟨Nat.le_of_ble_eq_true rfl, Nat.le_of_ble_eq_true rfl⟩) rfl rfl (Nat.le_of_ble_eq_true rfl) ⟨Nat.zero_le _, Nat.zero_le _⟩ dX6_setGlyphColumn_20 ?_
        refine z_top (nI (1)) (iw_yN hj (by omega)) ?_
        refine z_if_eqN C 37 (by omega) dX6_setGlyphColumn_23 (by decide) (fun h23 => (by exfalso; omega)) (fun h23 => ?_)
        refine z_iload_n C dX6_setGlyphColumn_26 rfl ?_
        refine z_iconst C (nI (0)) dX6_setGlyphColumn_27 (by decide) ?_
        refine z_sipush C (nI (255)) dX6_setGlyphColumn_28 (by decide) ?_
        refine z_callSF C (k_X6_in vl D cI cM A ad E hX (z) (nI (0)) (nI (255))) (va_cwS 3 C.2.2.2.2.1 gX6_setGlyphColumn_X6_in rfl rfl rfl (by decide +kernel) ⟨Nat.le_of_ble_eq_true rfl, Nat.le_of_ble_eq_true rfl⟩) rfl rfl (Nat.le_of_ble_eq_true rfl) ⟨Nat.zero_le _, Nat.zero_le _⟩ dX6_setGlyphColumn_31 ?_
        refine z_top (nI (0)) (iw_n hz) ?_
        refine z_if_neN C 40 (by omega) dX6_setGlyphColumn_34 (by decide) (fun h34 => (by exfalso; omega)) (fun h34 => ?_)
        refine z_bipush C (-11) dX6_setGlyphColumn_37 (by decide) ?_
        exact hend _ _ _ _ dX6_setGlyphColumn_39 (⟨by rw [hop], by rw [hop]; exact hR, fun _ _ => rfl⟩)
    · have hop : o_setGlyphColumn M (nI c) y z = (-11, M) := by
        unfold o_setGlyphColumn
        rw [wr_y hc (by decide)]
        rcases wr_c 0 255 z (by decide) (by decide) with ⟨b, hb, rfl⟩ | hz
        · rw [wr_y hb (by decide)]; exact wr_n hy
        · exact wr_n hz
      refine z_iload_n C dX6_setGlyphColumn_0 rfl ?_
      refine z_iconst C (nI (0)) dX6_setGlyphColumn_1 (by decide) ?_
      refine z_bipush C (nI (26)) dX6_setGlyphColumn_2 (by decide) ?_
      refine z_callSF C (k_X6_in vl D cI cM A ad E hX (nI (c)) (nI (0)) (nI (26))) (va_cwS 3 C.2.2.2.2.1 gX6_setGlyphColumn_X6_in rfl rfl rfl (by decide +kernel) ⟨Nat.le_of_ble_eq_true rfl, Nat.le_of_ble_eq_true rfl⟩) rfl rfl (Nat.le_of_ble_eq_true rfl) ⟨Nat.zero_le _, Nat.zero_le _⟩ dX6_setGlyphColumn_4 ?_
      refine z_top (nI (1)) (iw_yN hc (by omega)) ?_
      refine z_if_eqN C 37 (by omega) dX6_setGlyphColumn_7 (by decide) (fun h7 => (by exfalso; omega)) (fun h7 => ?_)
      refine z_iload_n C dX6_setGlyphColumn_10 rfl ?_
      refine z_iconst C (nI (0)) dX6_setGlyphColumn_11 (by decide) ?_
      refine z_aload_n C dX6_setGlyphColumn_12 rfl ?_
      refine z_get C (30) (Cn := RX6) (T := TX6) (N := 19) (fi := 7) iw_X6_setGlyphColumn_6 rfl (by decide) ln_X6_setGlyphColumn_22 (by first | decide | omega) rfl e30 rfl dX6_setGlyphColumn_13 ?_
      refine z_iload_n C dX6_setGlyphColumn_16 rfl ?_
      refine z_ialdG C (31) (by first | decide | omega) rfl e31 (by omega) (by decide) dX6_setGlyphColumn_17 ?_
      refine z_iconst C (nI (1)) dX6_setGlyphColumn_18 (by decide) ?_
      refine z_isubN C (by omega) dX6_setGlyphColumn_19 ?_
      refine z_callSF C (k_X6_in vl D cI cM A ad E hX (y) (nI (0)) (nI (((M 1) (c)) - 1))) (va_cwS 3 C.2.2.2.2.1 gX6_setGlyphColumn_X6_in rfl rfl rfl (by decide +kernel) ⟨Nat.le_of_ble_eq_true rfl, Nat.le_of_ble_eq_true rfl⟩) rfl rfl (Nat.le_of_ble_eq_true rfl) ⟨Nat.zero_le _, Nat.zero_le _⟩ dX6_setGlyphColumn_20 ?_
      refine z_top (nI (0)) (iw_n hy) ?_
      refine z_if_eqN C 37 (by omega) dX6_setGlyphColumn_23 (by decide) (fun h23 => ?_) (fun h23 => (by exfalso; omega))
      refine z_bipush C (-11) dX6_setGlyphColumn_37 (by decide) ?_
      exact hend _ _ _ _ dX6_setGlyphColumn_39 (⟨by rw [hop], by rw [hop]; exact hR, fun _ _ => rfl⟩)
  · have hop : o_setGlyphColumn M x y z = (-11, M) := wr_n hx
    refine z_iload_n C dX6_setGlyphColumn_0 rfl ?_
    refine z_iconst C (nI (0)) dX6_setGlyphColumn_1 (by decide) ?_
    refine z_bipush C (nI (26)) dX6_setGlyphColumn_2 (by decide) ?_
    refine z_callSF C (k_X6_in vl D cI cM A ad E hX (x) (nI (0)) (nI (26))) (va_cwS 3 C.2.2.2.2.1 gX6_setGlyphColumn_X6_in rfl rfl rfl (by decide +kernel) ⟨Nat.le_of_ble_eq_true rfl, Nat.le_of_ble_eq_true rfl⟩) rfl rfl (Nat.le_of_ble_eq_true rfl) ⟨Nat.zero_le _, Nat.zero_le _⟩ dX6_setGlyphColumn_4 ?_
    refine z_top (nI (0)) (iw_n hx) ?_
    refine z_if_eqN C 37 (by omega) dX6_setGlyphColumn_7 (by decide) (fun h7 => ?_) (fun h7 => (by exfalso; omega))
    refine z_bipush C (-11) dX6_setGlyphColumn_37 (by decide) ?_
    exact hend _ _ _ _ dX6_setGlyphColumn_39 (⟨by rw [hop], by rw [hop]; exact hR, fun _ _ => rfl⟩)

theorem iw_X6_append_6 : ∀ w ∈ wsX60, w ∈ wsX6_append := by decide +kernel
theorem ln_X6_append_80 : Cond.fieldLink RX6 80 "MarqueeDisplayModel" "length" "I" ∈ wsX6_append := by decide +kernel
theorem ln_X6_append_32 : Cond.fieldLink RX6 32 "MarqueeDisplayModel" "text" "[I" ∈ wsX6_append := by decide +kernel
set_option maxHeartbeats 4000000 in
set_option maxRecDepth 100000 in
theorem k_X6_append (vl : Launch) (D : va_G) (cI cM : ClassId) (A : Nat → Prop) (ad : Nat → Nat) (E : Nat → va_E) (hX : XD A 40 ad) {M : St} (x : Int32) (hI : Inv M) (hR : RelM cI ad M E) : MI vl yX6_append wsX6_append { frames := 1, cells := 0, slots := 0, locals := 22 } D cI cM A 40 ad E [.ref (ad 30), .int (x)] (fun r E1 => r = (o_append M x).1 ∧ RelM cI ad (o_append M x).2 E1 ∧ ∀ k : Nat, (k < 30) → E1 k = E k) := by
  refine mi_of cX6_append 2 (.int) RX6 (by decide) rfl rfl (Nat.le_of_ble_eq_true rfl) (fun r E1 h => rfl) ?_
  intro vp ve vs vm va vb vt vc Q C hend
  refine z_lv [(0, .ref (ad 30)), (1, .int (x))] ⟨rfl, rfl, rfl, rfl, trivial⟩ ?_
  obtain ⟨gl, sz, co, lt, sp, e30, e31, e32, e33, e34, e35, e36, e37, hms, hn6, hgl, hrel⟩ := id hR
  obtain ⟨⟨iW1, iW2⟩, iG, ⟨iS1, iS2⟩, ⟨iB1, iB2⟩, iO, iC, iT, iN, iSh, iWd, iDt, iZ, iDf, iDz, iTx, iMs⟩ := id hI.1
  have hLM := hI.1.LM_le
  have hsl := hI.1.slen
  have hww := hI.1.ws
  have hld : ∀ a, ldM M a ≤ 512 := fun a => Nat.le_trans (ldS_le _ _ _ _ _) (by omega)
  have hl4 := hld (M 0 4)
  have hsz : ∀ i, i < M 0 7 → (1 ≤ sz i ∧ sz i ≤ 12) ∧ ∀ k, k < sz i → ltr lt i k < 27 := fun i hi => by
    obtain ⟨h1, h2, h3⟩ := hrel i hi
    have h4 := iMs i hi
    rw [h1]
    exact ⟨h4.1, fun k hk => by rw [h3 k hk]; exact h4.2.2 k hk⟩
  have hLe : sL (M 1) (M 0 1) sz (ltr lt) (M 0 7) = LM M := sL_cg (fun i hi => ⟨(hrel i hi).1, fun k hk => (hrel i hi).2.2 k (by rw [← (hrel i hi).1]; exact hk)⟩)
  have hst : scols (M 1) (M 2) (M 0 1) sz co (ltr lt) (M 0 7) = stripM M := scols_cg (fun i hi => ⟨(hrel i hi).1, (hrel i hi).2.1, fun k hk => (hrel i hi).2.2 k (by rw [← (hrel i hi).1]; exact hk)⟩)
  rcases wr_c 0 26 x (by omega) (by omega) with ⟨c, hc, rfl⟩ | hx
  · by_cases ht : M 0 6 < 12
    · have hop : o_append M (nI c) = (nI (M 0 6 + 1), va_up (s0 M 6 (M 0 6 + 1)) 4 (va_up (M 4) (M 0 6) c)) := (wr_y hc (by decide)).trans (if_pos ht)
      refine z_iload_n C dX6_append_0 rfl ?_
      refine z_iconst C (nI (0)) dX6_append_1 (by decide) ?_
      refine z_bipush C (nI (26)) dX6_append_2 (by decide) ?_
      refine z_callSF C (k_X6_in vl D cI cM A ad E hX (nI (c)) (nI (0)) (nI (26))) (va_cwS 3 C.2.2.2.2.1 gX6_append_X6_in rfl rfl rfl (by decide +kernel) ⟨Nat.le_of_ble_eq_true rfl, Nat.le_of_ble_eq_true rfl⟩) rfl rfl (Nat.le_of_ble_eq_true rfl) ⟨Nat.zero_le _, Nat.zero_le _⟩ dX6_append_4 ?_
      refine z_top (nI (1)) (iw_yN hc (by omega)) ?_
      refine z_if_neN C 13 (by omega) dX6_append_7 (by decide) (fun h7 => ?_) (fun h7 => (by exfalso; omega))
      refine z_aload_n C dX6_append_13 rfl ?_
      refine z_get C (30) (Cn := RX6) (T := TX6) (N := 19) (fi := 10) iw_X6_append_6 rfl (by decide) ln_X6_append_80 (by first | decide | omega) rfl e30 rfl dX6_append_14 ?_
      refine z_bipush C (nI (12)) dX6_append_17 (by decide) ?_
      refine z_icmp_neN C 25 (by omega) (by omega) dX6_append_19 (by decide) (fun h19 => ?_) (fun h19 => (by exfalso; omega))
      refine z_aload_n C dX6_append_25 rfl ?_
      refine z_get C (30) (Cn := RX6) (T := TX6) (N := 19) (fi := 11) iw_X6_append_6 rfl (by decide) ln_X6_append_32 (by first | decide | omega) rfl e30 rfl dX6_append_26 ?_
      refine z_aload_n C dX6_append_29 rfl ?_
      refine z_get C (30) (Cn := RX6) (T := TX6) (N := 19) (fi := 10) iw_X6_append_6 rfl (by decide) ln_X6_append_80 (by first | decide | omega) rfl e30 rfl dX6_append_30 ?_
      refine z_iload_n C dX6_append_33 rfl ?_
      refine z_iastG C (34) hX (by first | decide | omega) rfl e34 (by omega) (by decide) dX6_append_34 (fun Ez2 hE1 => ?_)
      have f3 : Ez2 (30) = .inr (6, [.int (nI (M 0 0)), .int (nI (M 0 1)), .int (nI (M 0 2)), .int (shI (M 0 8)), .int (nI (M 0 3)), .int (nI (M 0 4)), .int (nI (M 0 5)), .ref (ad 31), .ref (ad 32), .ref (ad 33), .int (nI (M 0 6)), .ref (ad 34), .int (nI (M 0 7)), .ref (ad 35), .ref (ad 36), .ref (ad 37), .int (nI (sp)), .ref (ad 38), .ref (ad 39)]) := va_up_of hE1 (by first | decide | omega) e30
      have f4 : Ez2 (31) = aI cI 27 (M 1) := va_up_of hE1 (by first | decide | omega) e31
      have f5 : Ez2 (32) = aI cI 162 gl := va_up_of hE1 (by first | decide | omega) e32
      have f6 : Ez2 (33) = aI cI 32 (M 3) := va_up_of hE1 (by first | decide | omega) e33
      have f8 : Ez2 (35) = aI cI 6 sz := va_up_of hE1 (by first | decide | omega) e35
      have f9 : Ez2 (36) = aI cI 6 co := va_up_of hE1 (by first | decide | omega) e36
      have f10 : Ez2 (37) = aI cI 72 lt := va_up_of hE1 (by first | decide | omega) e37
      have f11 : Ez2 (34) = aI cI 12 (va_up (M 4) (M 0 6) (c)) := va_up_eq hE1
      have g12 : ∀ k : Nat, (k ≠ 30 ∧ k ≠ 34) → Ez2 k = E k := fun k hk => va_up_of hE1 (by omega) ((fun _ _ => rfl) k hk)
      refine z_aload_n C dX6_append_35 rfl ?_
      refine z_dup C dX6_append_36 rfl ?_
      refine z_get C (30) (Cn := RX6) (T := TX6) (N := 19) (fi := 10) iw_X6_append_6 rfl (by decide) ln_X6_append_80 (by first | decide | omega) rfl f3 rfl dX6_append_37 ?_
      refine z_iconst C (nI (1)) dX6_append_40 (by decide) ?_
      refine z_iaddN C  dX6_append_41 ?_
      refine z_put C (30) (Cn := RX6) (T := TX6) (N := 19) (fi := 10) tyX6 iw_X6_append_6 tyX6_ok nmX6 rfl (by decide) ln_X6_append_80 hX (by first | decide | omega) rfl f3 rfl rfl rfl rfl (Nat.le_of_ble_eq_true rfl) dX6_append_42 (fun Ez14 hE13 => ?_)
      have f16 : Ez14 (31) = aI cI 27 (M 1) := va_up_of hE13 (by first | decide | omega) f4
      have f17 : Ez14 (32) = aI cI 162 gl := va_up_of hE13 (by first | decide | omega) f5
      have f18 : Ez14 (33) = aI cI 32 (M 3) := va_up_of hE13 (by first | decide | omega) f6
      have f19 : Ez14 (35) = aI cI 6 sz := va_up_of hE13 (by first | decide | omega) f8
      have f20 : Ez14 (36) = aI cI 6 co := va_up_of hE13 (by first | decide | omega) f9
      have f21 : Ez14 (37) = aI cI 72 lt := va_up_of hE13 (by first | decide | omega) f10
      have f22 : Ez14 (34) = aI cI 12 (va_up (M 4) (M 0 6) (c)) := va_up_of hE13 (by first | decide | omega) f11
      have f23 : Ez14 (30) = .inr (6, [.int (nI (M 0 0)), .int (nI (M 0 1)), .int (nI (M 0 2)), .int (shI (M 0 8)), .int (nI (M 0 3)), .int (nI (M 0 4)), .int (nI (M 0 5)), .ref (ad 31), .ref (ad 32), .ref (ad 33), .int (nI ((M 0 6) + 1)), .ref (ad 34), .int (nI (M 0 7)), .ref (ad 35), .ref (ad 36), .ref (ad 37), .int (nI (sp)), .ref (ad 38), .ref (ad 39)]) := va_up_eq hE13
      have g24 : ∀ k : Nat, (k ≠ 30 ∧ k ≠ 34) → Ez14 k = E k := fun k hk => va_up_of hE13 (by omega) (g12 k hk)
      refine z_aload_n C dX6_append_45 rfl ?_
      refine z_get C (30) (Cn := RX6) (T := TX6) (N := 19) (fi := 10) iw_X6_append_6 rfl (by decide) ln_X6_append_80 (by first | decide | omega) rfl f23 rfl dX6_append_46 ?_
      exact hend _ _ _ _ dX6_append_49 (⟨by rw [hop], by rw [hop]; exact ⟨gl, sz, co, lt, sp, f23, f16, f17, f18, f22, f19, f20, f21, hms.mv (g24 _ (by omega)) (g24 _ (by omega)), hn6, hgl, hrel⟩, fun k hk => g24 k (by omega)⟩)
    · have hop : o_append M (nI c) = (-13, M) := (wr_y hc (by decide)).trans (if_neg ht)
      refine z_iload_n C dX6_append_0 rfl ?_
      refine z_iconst C (nI (0)) dX6_append_1 (by decide) ?_
      refine z_bipush C (nI (26)) dX6_append_2 (by decide) ?_
      refine z_callSF C (k_X6_in vl D cI cM A ad E hX (nI (c)) (nI (0)) (nI (26))) (va_cwS 3 C.2.2.2.2.1 gX6_append_X6_in rfl rfl rfl (by decide +kernel) ⟨Nat.le_of_ble_eq_true rfl, Nat.le_of_ble_eq_true rfl⟩) rfl rfl (Nat.le_of_ble_eq_true rfl) ⟨Nat.zero_le _, Nat.zero_le _⟩ dX6_append_4 ?_
      refine z_top (nI (1)) (iw_yN hc (by omega)) ?_
      refine z_if_neN C 13 (by omega) dX6_append_7 (by decide) (fun h7 => ?_) (fun h7 => (by exfalso; omega))
      refine z_aload_n C dX6_append_13 rfl ?_
      refine z_get C (30) (Cn := RX6) (T := TX6) (N := 19) (fi := 10) iw_X6_append_6 rfl (by decide) ln_X6_append_80 (by first | decide | omega) rfl e30 rfl dX6_append_14 ?_
      refine z_bipush C (nI (12)) dX6_append_17 (by decide) ?_
      refine z_icmp_neN C 25 (by omega) (by omega) dX6_append_19 (by decide) (fun h19 => (by exfalso; omega)) (fun h19 => ?_)
      refine z_bipush C (-13) dX6_append_22 (by decide) ?_
      exact hend _ _ _ _ dX6_append_24 (⟨by rw [hop], by rw [hop]; exact hR, fun _ _ => rfl⟩)
  · have hop : o_append M x = (-11, M) := wr_n hx
    refine z_iload_n C dX6_append_0 rfl ?_
    refine z_iconst C (nI (0)) dX6_append_1 (by decide) ?_
    refine z_bipush C (nI (26)) dX6_append_2 (by decide) ?_
    refine z_callSF C (k_X6_in vl D cI cM A ad E hX (x) (nI (0)) (nI (26))) (va_cwS 3 C.2.2.2.2.1 gX6_append_X6_in rfl rfl rfl (by decide +kernel) ⟨Nat.le_of_ble_eq_true rfl, Nat.le_of_ble_eq_true rfl⟩) rfl rfl (Nat.le_of_ble_eq_true rfl) ⟨Nat.zero_le _, Nat.zero_le _⟩ dX6_append_4 ?_
    refine z_top (nI (0)) (iw_n hx) ?_
    refine z_if_neN C 13 (by omega) dX6_append_7 (by decide) (fun h7 => (by exfalso; omega)) (fun h7 => ?_)
    refine z_bipush C (-11) dX6_append_10 (by decide) ?_
    exact hend _ _ _ _ dX6_append_12 (⟨by rw [hop], by rw [hop]; exact hR, fun _ _ => rfl⟩)

theorem iw_X6_clearText_6 : ∀ w ∈ wsX60, w ∈ wsX6_clearText := by decide +kernel
theorem ln_X6_clearText_80 : Cond.fieldLink RX6 80 "MarqueeDisplayModel" "length" "I" ∈ wsX6_clearText := by decide +kernel
set_option maxHeartbeats 4000000 in
set_option maxRecDepth 100000 in
theorem k_X6_clearText (vl : Launch) (D : va_G) (cI cM : ClassId) (A : Nat → Prop) (ad : Nat → Nat) (E : Nat → va_E) (hX : XD A 40 ad) {M : St}  (hI : Inv M) (hR : RelM cI ad M E) : MI vl yX6_clearText wsX6_clearText { frames := 0, cells := 0, slots := 0, locals := 0 } D cI cM A 40 ad E [.ref (ad 30)] (fun r E1 => r = (o_clearText M).1 ∧ RelM cI ad (o_clearText M).2 E1 ∧ ∀ k : Nat, (k < 30) → E1 k = E k) := by
  refine mi_of cX6_clearText 2 (.int) RX6 (by decide) rfl rfl (Nat.le_of_ble_eq_true rfl) (fun r E1 h => rfl) ?_
  intro vp ve vs vm va vb vt vc Q C hend
  refine z_lv [(0, .ref (ad 30))] ⟨rfl, rfl, trivial⟩ ?_
  obtain ⟨gl, sz, co, lt, sp, e30, e31, e32, e33, e34, e35, e36, e37, hms, hn6, hgl, hrel⟩ := id hR
  obtain ⟨⟨iW1, iW2⟩, iG, ⟨iS1, iS2⟩, ⟨iB1, iB2⟩, iO, iC, iT, iN, iSh, iWd, iDt, iZ, iDf, iDz, iTx, iMs⟩ := id hI.1
  have hLM := hI.1.LM_le
  have hsl := hI.1.slen
  have hww := hI.1.ws
  have hld : ∀ a, ldM M a ≤ 512 := fun a => Nat.le_trans (ldS_le _ _ _ _ _) (by omega)
  have hl4 := hld (M 0 4)
  have hsz : ∀ i, i < M 0 7 → (1 ≤ sz i ∧ sz i ≤ 12) ∧ ∀ k, k < sz i → ltr lt i k < 27 := fun i hi => by
    obtain ⟨h1, h2, h3⟩ := hrel i hi
    have h4 := iMs i hi
    rw [h1]
    exact ⟨h4.1, fun k hk => by rw [h3 k hk]; exact h4.2.2 k hk⟩
  have hLe : sL (M 1) (M 0 1) sz (ltr lt) (M 0 7) = LM M := sL_cg (fun i hi => ⟨(hrel i hi).1, fun k hk => (hrel i hi).2.2 k (by rw [← (hrel i hi).1]; exact hk)⟩)
  have hst : scols (M 1) (M 2) (M 0 1) sz co (ltr lt) (M 0 7) = stripM M := scols_cg (fun i hi => ⟨(hrel i hi).1, (hrel i hi).2.1, fun k hk => (hrel i hi).2.2 k (by rw [← (hrel i hi).1]; exact hk)⟩)
  have hop : o_clearText M = (nI (M 0 6), s0 M 6 0) := rfl
  · skip
    refine z_aload_n C dX6_clearText_0 rfl ?_
    refine z_get C (30) (Cn := RX6) (T := TX6) (N := 19) (fi := 10) iw_X6_clearText_6 rfl (by decide) ln_X6_clearText_80 (by first | decide | omega) rfl e30 rfl dX6_clearText_1 ?_
    refine z_istore_n C [(0, .ref (ad 30)), (1, .int (nI (M 0 6)))] dX6_clearText_4 (by decide) ⟨rfl, rfl, rfl, rfl, trivial⟩ ?_
    refine z_aload_n C dX6_clearText_5 rfl ?_
    refine z_iconst C (nI (0)) dX6_clearText_6 (by decide) ?_
    refine z_put C (30) (Cn := RX6) (T := TX6) (N := 19) (fi := 10) tyX6 iw_X6_clearText_6 tyX6_ok nmX6 rfl (by decide) ln_X6_clearText_80 hX (by first | decide | omega) rfl e30 rfl rfl rfl rfl (Nat.le_of_ble_eq_true rfl) dX6_clearText_7 (fun Ez2 hE1 => ?_)
    have f4 : Ez2 (31) = aI cI 27 (M 1) := va_up_of hE1 (by first | decide | omega) e31
    have f5 : Ez2 (32) = aI cI 162 gl := va_up_of hE1 (by first | decide | omega) e32
    have f6 : Ez2 (33) = aI cI 32 (M 3) := va_up_of hE1 (by first | decide | omega) e33
    have f7 : Ez2 (34) = aI cI 12 (M 4) := va_up_of hE1 (by first | decide | omega) e34
    have f8 : Ez2 (35) = aI cI 6 sz := va_up_of hE1 (by first | decide | omega) e35
    have f9 : Ez2 (36) = aI cI 6 co := va_up_of hE1 (by first | decide | omega) e36
    have f10 : Ez2 (37) = aI cI 72 lt := va_up_of hE1 (by first | decide | omega) e37
    have f11 : Ez2 (30) = .inr (6, [.int (nI (M 0 0)), .int (nI (M 0 1)), .int (nI (M 0 2)), .int (shI (M 0 8)), .int (nI (M 0 3)), .int (nI (M 0 4)), .int (nI (M 0 5)), .ref (ad 31), .ref (ad 32), .ref (ad 33), .int (nI (0)), .ref (ad 34), .int (nI (M 0 7)), .ref (ad 35), .ref (ad 36), .ref (ad 37), .int (nI (sp)), .ref (ad 38), .ref (ad 39)]) := va_up_eq hE1
    have g12 : ∀ k : Nat, (k ≠ 30) → Ez2 k = E k := fun k hk => va_up_of hE1 (by omega) ((fun _ _ => rfl) k hk)
    refine z_iload_n C dX6_clearText_10 rfl ?_
    exact hend _ _ _ _ dX6_clearText_11 (⟨by rw [hop], by rw [hop]; exact ⟨gl, sz, co, lt, sp, f11, f4, f5, f6, f7, f8, f9, f10, hms.mv (g12 _ (by omega)) (g12 _ (by omega)), hn6, hgl, hrel⟩, fun k hk => g12 k (by omega)⟩)

theorem iw_X6_setGap_6 : ∀ w ∈ wsX60, w ∈ wsX6_setGap := by decide +kernel
theorem ln_X6_setGap_13 : Cond.fieldLink RX6 13 "MarqueeDisplayModel" "gap" "I" ∈ wsX6_setGap := by decide +kernel
set_option maxHeartbeats 4000000 in
set_option maxRecDepth 100000 in
theorem k_X6_setGap (vl : Launch) (D : va_G) (cI cM : ClassId) (A : Nat → Prop) (ad : Nat → Nat) (E : Nat → va_E) (hX : XD A 40 ad) {M : St} (x : Int32) (hI : Inv M) (hR : RelM cI ad M E) : MI vl yX6_setGap wsX6_setGap { frames := 4, cells := 0, slots := 0, locals := 87 } D cI cM A 40 ad E [.ref (ad 30), .int (x)] (fun r E1 => r = (o_setGap M x).1 ∧ RelM cI ad (o_setGap M x).2 E1 ∧ ∀ k : Nat, (k < 30) → E1 k = E k) := by
  refine mi_of cX6_setGap 3 (.int) RX6 (by decide) rfl rfl (Nat.le_of_ble_eq_true rfl) (fun r E1 h => rfl) ?_
  intro vp ve vs vm va vb vt vc Q C hend
  refine z_lv [(0, .ref (ad 30)), (1, .int (x))] ⟨rfl, rfl, rfl, rfl, trivial⟩ ?_
  obtain ⟨gl, sz, co, lt, sp, e30, e31, e32, e33, e34, e35, e36, e37, hms, hn6, hgl, hrel⟩ := id hR
  obtain ⟨⟨iW1, iW2⟩, iG, ⟨iS1, iS2⟩, ⟨iB1, iB2⟩, iO, iC, iT, iN, iSh, iWd, iDt, iZ, iDf, iDz, iTx, iMs⟩ := id hI.1
  have hLM := hI.1.LM_le
  have hsl := hI.1.slen
  have hww := hI.1.ws
  have hld : ∀ a, ldM M a ≤ 512 := fun a => Nat.le_trans (ldS_le _ _ _ _ _) (by omega)
  have hl4 := hld (M 0 4)
  have hsz : ∀ i, i < M 0 7 → (1 ≤ sz i ∧ sz i ≤ 12) ∧ ∀ k, k < sz i → ltr lt i k < 27 := fun i hi => by
    obtain ⟨h1, h2, h3⟩ := hrel i hi
    have h4 := iMs i hi
    rw [h1]
    exact ⟨h4.1, fun k hk => by rw [h3 k hk]; exact h4.2.2 k hk⟩
  have hLe : sL (M 1) (M 0 1) sz (ltr lt) (M 0 7) = LM M := sL_cg (fun i hi => ⟨(hrel i hi).1, fun k hk => (hrel i hi).2.2 k (by rw [← (hrel i hi).1]; exact hk)⟩)
  have hst : scols (M 1) (M 2) (M 0 1) sz co (ltr lt) (M 0 7) = stripM M := scols_cg (fun i hi => ⟨(hrel i hi).1, (hrel i hi).2.1, fun k hk => (hrel i hi).2.2 k (by rw [← (hrel i hi).1]; exact hk)⟩)
  rcases wr_c 0 9 x (by omega) (by omega) with ⟨g, hg, rfl⟩ | hx
  · have hop : o_setGap M (nI g) = (nI (M 0 1), settle (s0 M 1 g)) := wr_y hg (by decide)
    refine z_iload_n C dX6_setGap_0 rfl ?_
    refine z_iconst C (nI (0)) dX6_setGap_1 (by decide) ?_
    refine z_bipush C (nI (9)) dX6_setGap_2 (by decide) ?_
    refine z_callSF C (k_X6_in vl D cI cM A ad E hX (nI (g)) (nI (0)) (nI (9))) (va_cwS 3 C.2.2.2.2.1 gX6_setGap_X6_in rfl rfl rfl (by decide +kernel) ⟨Nat.le_of_ble_eq_true rfl, Nat.le_of_ble_eq_true rfl⟩) rfl rfl (Nat.le_of_ble_eq_true rfl) ⟨Nat.zero_le _, Nat.zero_le _⟩ dX6_setGap_4 ?_
    refine z_top (nI (1)) (iw_yN hg (by omega)) ?_
    refine z_if_neN C 13 (by omega) dX6_setGap_7 (by decide) (fun h7 => ?_) (fun h7 => (by exfalso; omega))
    refine z_aload_n C dX6_setGap_13 rfl ?_
    refine z_get C (30) (Cn := RX6) (T := TX6) (N := 19) (fi := 1) iw_X6_setGap_6 rfl (by decide) ln_X6_setGap_13 (by first | decide | omega) rfl e30 rfl dX6_setGap_14 ?_
    refine z_istore_n C [(0, .ref (ad 30)), (1, .int (nI (g))), (2, .int (nI (M 0 1)))] dX6_setGap_17 (by decide) ⟨rfl, rfl, rfl, rfl, rfl, rfl, trivial⟩ ?_
    refine z_aload_n C dX6_setGap_18 rfl ?_
    refine z_iload_n C dX6_setGap_19 rfl ?_
    refine z_put C (30) (Cn := RX6) (T := TX6) (N := 19) (fi := 1) tyX6 iw_X6_setGap_6 tyX6_ok nmX6 rfl (by decide) ln_X6_setGap_13 hX (by first | decide | omega) rfl e30 rfl rfl rfl rfl (Nat.le_of_ble_eq_true rfl) dX6_setGap_20 (fun Ez2 hE1 => ?_)
    have f4 : Ez2 (31) = aI cI 27 (M 1) := va_up_of hE1 (by first | decide | omega) e31
    have f5 : Ez2 (32) = aI cI 162 gl := va_up_of hE1 (by first | decide | omega) e32
    have f6 : Ez2 (33) = aI cI 32 (M 3) := va_up_of hE1 (by first | decide | omega) e33
    have f7 : Ez2 (34) = aI cI 12 (M 4) := va_up_of hE1 (by first | decide | omega) e34
    have f8 : Ez2 (35) = aI cI 6 sz := va_up_of hE1 (by first | decide | omega) e35
    have f9 : Ez2 (36) = aI cI 6 co := va_up_of hE1 (by first | decide | omega) e36
    have f10 : Ez2 (37) = aI cI 72 lt := va_up_of hE1 (by first | decide | omega) e37
    have f11 : Ez2 (30) = .inr (6, [.int (nI (M 0 0)), .int (nI (g)), .int (nI (M 0 2)), .int (shI (M 0 8)), .int (nI (M 0 3)), .int (nI (M 0 4)), .int (nI (M 0 5)), .ref (ad 31), .ref (ad 32), .ref (ad 33), .int (nI (M 0 6)), .ref (ad 34), .int (nI (M 0 7)), .ref (ad 35), .ref (ad 36), .ref (ad 37), .int (nI (sp)), .ref (ad 38), .ref (ad 39)]) := va_up_eq hE1
    have g12 : ∀ k : Nat, (k ≠ 30) → Ez2 k = E k := fun k hk => va_up_of hE1 (by omega) ((fun _ _ => rfl) k hk)
    refine z_aload_n C dX6_setGap_23 rfl ?_
    have hR2 : RelM cI ad (s0 M 1 g) Ez2 := ⟨gl, sz, co, lt, sp, f11, f4, f5, f6, f7, f8, f9, f10, hms.mv (g12 _ (by omega)) (g12 _ (by omega)), hn6, hgl, hrel⟩
    have hI2 : Inv0 (s0 M 1 g) := inv0_g hI.1 hg.2
    refine z_callVI C (30) (Cn := RX6) (T := TX6) (N := 19) (k_settle vl D cI cM A ad Ez2 hX hI2 hR2) (cwV 0 C.2.2.2.2.1 gX6_setGap_X6_settles rfl rfl rfl (by decide +kernel) ⟨Nat.le_of_ble_eq_true rfl, Nat.le_of_ble_eq_true rfl⟩) rfl (by first | decide | omega) rfl f11 rfl rfl (Nat.le_of_ble_eq_true rfl) ⟨Nat.zero_le _, Nat.zero_le _⟩ dX6_setGap_24 (fun r15 Ez13 hp14 => ?_)
    obtain ⟨hr3, hR3, hf3⟩ := hp14
    have hf4 : ∀ k : Nat, k < 30 → Ez13 k = E k := fun k hk => (hf3 k (by omega)).trans (g12 k (by omega))
    subst hr3
    refine z_pop C dX6_setGap_27 rfl ?_
    refine z_iload_n C dX6_setGap_28 rfl ?_
    exact hend _ _ _ _ dX6_setGap_29 (⟨by rw [hop], by rw [hop]; exact hR3, hf4⟩)
  · have hop : o_setGap M x = (-11, M) := wr_n hx
    refine z_iload_n C dX6_setGap_0 rfl ?_
    refine z_iconst C (nI (0)) dX6_setGap_1 (by decide) ?_
    refine z_bipush C (nI (9)) dX6_setGap_2 (by decide) ?_
    refine z_callSF C (k_X6_in vl D cI cM A ad E hX (x) (nI (0)) (nI (9))) (va_cwS 3 C.2.2.2.2.1 gX6_setGap_X6_in rfl rfl rfl (by decide +kernel) ⟨Nat.le_of_ble_eq_true rfl, Nat.le_of_ble_eq_true rfl⟩) rfl rfl (Nat.le_of_ble_eq_true rfl) ⟨Nat.zero_le _, Nat.zero_le _⟩ dX6_setGap_4 ?_
    refine z_top (nI (0)) (iw_n hx) ?_
    refine z_if_neN C 13 (by omega) dX6_setGap_7 (by decide) (fun h7 => (by exfalso; omega)) (fun h7 => ?_)
    refine z_bipush C (-11) dX6_setGap_10 (by decide) ?_
    exact hend _ _ _ _ dX6_setGap_12 (⟨by rw [hop], by rw [hop]; exact hR, fun _ _ => rfl⟩)

theorem iw_X6_setSpeed_6 : ∀ w ∈ wsX60, w ∈ wsX6_setSpeed := by decide +kernel
theorem ln_X6_setSpeed_16 : Cond.fieldLink RX6 16 "MarqueeDisplayModel" "speed" "I" ∈ wsX6_setSpeed := by decide +kernel
theorem ln_X6_setSpeed_91 : Cond.fieldLink RX6 91 "MarqueeDisplayModel" "counter" "I" ∈ wsX6_setSpeed := by decide +kernel
set_option maxHeartbeats 4000000 in
set_option maxRecDepth 100000 in
theorem k_X6_setSpeed (vl : Launch) (D : va_G) (cI cM : ClassId) (A : Nat → Prop) (ad : Nat → Nat) (E : Nat → va_E) (hX : XD A 40 ad) {M : St} (x : Int32) (hI : Inv M) (hR : RelM cI ad M E) : MI vl yX6_setSpeed wsX6_setSpeed { frames := 1, cells := 0, slots := 0, locals := 22 } D cI cM A 40 ad E [.ref (ad 30), .int (x)] (fun r E1 => r = (o_setSpeed M x).1 ∧ RelM cI ad (o_setSpeed M x).2 E1 ∧ ∀ k : Nat, (k < 30) → E1 k = E k) := by
  refine mi_of cX6_setSpeed 3 (.int) RX6 (by decide) rfl rfl (Nat.le_of_ble_eq_true rfl) (fun r E1 h => rfl) ?_
  intro vp ve vs vm va vb vt vc Q C hend
  refine z_lv [(0, .ref (ad 30)), (1, .int (x))] ⟨rfl, rfl, rfl, rfl, trivial⟩ ?_
  obtain ⟨gl, sz, co, lt, sp, e30, e31, e32, e33, e34, e35, e36, e37, hms, hn6, hgl, hrel⟩ := id hR
  obtain ⟨⟨iW1, iW2⟩, iG, ⟨iS1, iS2⟩, ⟨iB1, iB2⟩, iO, iC, iT, iN, iSh, iWd, iDt, iZ, iDf, iDz, iTx, iMs⟩ := id hI.1
  have hLM := hI.1.LM_le
  have hsl := hI.1.slen
  have hww := hI.1.ws
  have hld : ∀ a, ldM M a ≤ 512 := fun a => Nat.le_trans (ldS_le _ _ _ _ _) (by omega)
  have hl4 := hld (M 0 4)
  have hsz : ∀ i, i < M 0 7 → (1 ≤ sz i ∧ sz i ≤ 12) ∧ ∀ k, k < sz i → ltr lt i k < 27 := fun i hi => by
    obtain ⟨h1, h2, h3⟩ := hrel i hi
    have h4 := iMs i hi
    rw [h1]
    exact ⟨h4.1, fun k hk => by rw [h3 k hk]; exact h4.2.2 k hk⟩
  have hLe : sL (M 1) (M 0 1) sz (ltr lt) (M 0 7) = LM M := sL_cg (fun i hi => ⟨(hrel i hi).1, fun k hk => (hrel i hi).2.2 k (by rw [← (hrel i hi).1]; exact hk)⟩)
  have hst : scols (M 1) (M 2) (M 0 1) sz co (ltr lt) (M 0 7) = stripM M := scols_cg (fun i hi => ⟨(hrel i hi).1, (hrel i hi).2.1, fun k hk => (hrel i hi).2.2 k (by rw [← (hrel i hi).1]; exact hk)⟩)
  rcases wr_c 1 9 x (by omega) (by omega) with ⟨v, hv1, rfl⟩ | hx
  · have hop : o_setSpeed M (nI v) = (nI (M 0 2), s0 (s0 M 2 v) 5 0) := wr_y hv1 (by decide)
    refine z_iload_n C dX6_setSpeed_0 rfl ?_
    refine z_iconst C (nI (1)) dX6_setSpeed_1 (by decide) ?_
    refine z_bipush C (nI (9)) dX6_setSpeed_2 (by decide) ?_
    refine z_callSF C (k_X6_in vl D cI cM A ad E hX (nI (v)) (nI (1)) (nI (9))) (va_cwS 3 C.2.2.2.2.1 gX6_setSpeed_X6_in rfl rfl rfl (by decide +kernel) ⟨Nat.le_of_ble_eq_true rfl, Nat.le_of_ble_eq_true rfl⟩) rfl rfl (Nat.le_of_ble_eq_true rfl) ⟨Nat.zero_le _, Nat.zero_le _⟩ dX6_setSpeed_4 ?_
    refine z_top (nI (1)) (iw_yN hv1 (by omega)) ?_
    refine z_if_neN C 13 (by omega) dX6_setSpeed_7 (by decide) (fun h7 => ?_) (fun h7 => (by exfalso; omega))
    refine z_aload_n C dX6_setSpeed_13 rfl ?_
    refine z_get C (30) (Cn := RX6) (T := TX6) (N := 19) (fi := 2) iw_X6_setSpeed_6 rfl (by decide) ln_X6_setSpeed_16 (by first | decide | omega) rfl e30 rfl dX6_setSpeed_14 ?_
    refine z_istore_n C [(0, .ref (ad 30)), (1, .int (nI (v))), (2, .int (nI (M 0 2)))] dX6_setSpeed_17 (by decide) ⟨rfl, rfl, rfl, rfl, rfl, rfl, trivial⟩ ?_
    refine z_aload_n C dX6_setSpeed_18 rfl ?_
    refine z_iload_n C dX6_setSpeed_19 rfl ?_
    refine z_put C (30) (Cn := RX6) (T := TX6) (N := 19) (fi := 2) tyX6 iw_X6_setSpeed_6 tyX6_ok nmX6 rfl (by decide) ln_X6_setSpeed_16 hX (by first | decide | omega) rfl e30 rfl rfl rfl rfl (Nat.le_of_ble_eq_true rfl) dX6_setSpeed_20 (fun Ez2 hE1 => ?_)
    have f4 : Ez2 (31) = aI cI 27 (M 1) := va_up_of hE1 (by first | decide | omega) e31
    have f5 : Ez2 (32) = aI cI 162 gl := va_up_of hE1 (by first | decide | omega) e32
    have f6 : Ez2 (33) = aI cI 32 (M 3) := va_up_of hE1 (by first | decide | omega) e33
    have f7 : Ez2 (34) = aI cI 12 (M 4) := va_up_of hE1 (by first | decide | omega) e34
    have f8 : Ez2 (35) = aI cI 6 sz := va_up_of hE1 (by first | decide | omega) e35
    have f9 : Ez2 (36) = aI cI 6 co := va_up_of hE1 (by first | decide | omega) e36
    have f10 : Ez2 (37) = aI cI 72 lt := va_up_of hE1 (by first | decide | omega) e37
    have f11 : Ez2 (30) = .inr (6, [.int (nI (M 0 0)), .int (nI (M 0 1)), .int (nI (v)), .int (shI (M 0 8)), .int (nI (M 0 3)), .int (nI (M 0 4)), .int (nI (M 0 5)), .ref (ad 31), .ref (ad 32), .ref (ad 33), .int (nI (M 0 6)), .ref (ad 34), .int (nI (M 0 7)), .ref (ad 35), .ref (ad 36), .ref (ad 37), .int (nI (sp)), .ref (ad 38), .ref (ad 39)]) := va_up_eq hE1
    have g12 : ∀ k : Nat, (k ≠ 30) → Ez2 k = E k := fun k hk => va_up_of hE1 (by omega) ((fun _ _ => rfl) k hk)
    refine z_aload_n C dX6_setSpeed_23 rfl ?_
    refine z_iconst C (nI (0)) dX6_setSpeed_24 (by decide) ?_
    refine z_put C (30) (Cn := RX6) (T := TX6) (N := 19) (fi := 6) tyX6 iw_X6_setSpeed_6 tyX6_ok nmX6 rfl (by decide) ln_X6_setSpeed_91 hX (by first | decide | omega) rfl f11 rfl rfl rfl rfl (Nat.le_of_ble_eq_true rfl) dX6_setSpeed_25 (fun Ez14 hE13 => ?_)
    have f15 : Ez14 (31) = aI cI 27 (M 1) := va_up_of hE13 (by first | decide | omega) f4
    have f16 : Ez14 (32) = aI cI 162 gl := va_up_of hE13 (by first | decide | omega) f5
    have f17 : Ez14 (33) = aI cI 32 (M 3) := va_up_of hE13 (by first | decide | omega) f6
    have f18 : Ez14 (34) = aI cI 12 (M 4) := va_up_of hE13 (by first | decide | omega) f7
    have f19 : Ez14 (35) = aI cI 6 sz := va_up_of hE13 (by first | decide | omega) f8
    have f20 : Ez14 (36) = aI cI 6 co := va_up_of hE13 (by first | decide | omega) f9
    have f21 : Ez14 (37) = aI cI 72 lt := va_up_of hE13 (by first | decide | omega) f10
    have f23 : Ez14 (30) = .inr (6, [.int (nI (M 0 0)), .int (nI (M 0 1)), .int (nI (v)), .int (shI (M 0 8)), .int (nI (M 0 3)), .int (nI (M 0 4)), .int (nI (0)), .ref (ad 31), .ref (ad 32), .ref (ad 33), .int (nI (M 0 6)), .ref (ad 34), .int (nI (M 0 7)), .ref (ad 35), .ref (ad 36), .ref (ad 37), .int (nI (sp)), .ref (ad 38), .ref (ad 39)]) := va_up_eq hE13
    have g24 : ∀ k : Nat, (k ≠ 30) → Ez14 k = E k := fun k hk => va_up_of hE13 (by omega) (g12 k hk)
    refine z_iload_n C dX6_setSpeed_28 rfl ?_
    exact hend _ _ _ _ dX6_setSpeed_29 (⟨by rw [hop], by rw [hop]; exact ⟨gl, sz, co, lt, sp, f23, f15, f16, f17, f18, f19, f20, f21, hms.mv (g24 _ (by omega)) (g24 _ (by omega)), hn6, hgl, hrel⟩, fun k hk => g24 k (by omega)⟩)
  · have hop : o_setSpeed M x = (-11, M) := wr_n hx
    refine z_iload_n C dX6_setSpeed_0 rfl ?_
    refine z_iconst C (nI (1)) dX6_setSpeed_1 (by decide) ?_
    refine z_bipush C (nI (9)) dX6_setSpeed_2 (by decide) ?_
    refine z_callSF C (k_X6_in vl D cI cM A ad E hX (x) (nI (1)) (nI (9))) (va_cwS 3 C.2.2.2.2.1 gX6_setSpeed_X6_in rfl rfl rfl (by decide +kernel) ⟨Nat.le_of_ble_eq_true rfl, Nat.le_of_ble_eq_true rfl⟩) rfl rfl (Nat.le_of_ble_eq_true rfl) ⟨Nat.zero_le _, Nat.zero_le _⟩ dX6_setSpeed_4 ?_
    refine z_top (nI (0)) (iw_n hx) ?_
    refine z_if_neN C 13 (by omega) dX6_setSpeed_7 (by decide) (fun h7 => (by exfalso; omega)) (fun h7 => ?_)
    refine z_bipush C (-11) dX6_setSpeed_10 (by decide) ?_
    exact hend _ _ _ _ dX6_setSpeed_12 (⟨by rw [hop], by rw [hop]; exact hR, fun _ _ => rfl⟩)

theorem iw_X6_setBudget_6 : ∀ w ∈ wsX60, w ∈ wsX6_setBudget := by decide +kernel
theorem ln_X6_setBudget_19 : Cond.fieldLink RX6 19 "MarqueeDisplayModel" "budget" "I" ∈ wsX6_setBudget := by decide +kernel
set_option maxHeartbeats 4000000 in
set_option maxRecDepth 100000 in
theorem k_X6_setBudget (vl : Launch) (D : va_G) (cI cM : ClassId) (A : Nat → Prop) (ad : Nat → Nat) (E : Nat → va_E) (hX : XD A 40 ad) {M : St} (x : Int32) (hI : Inv M) (hR : RelM cI ad M E) : MI vl yX6_setBudget wsX6_setBudget { frames := 1, cells := 0, slots := 0, locals := 22 } D cI cM A 40 ad E [.ref (ad 30), .int (x)] (fun r E1 => r = (o_setBudget M x).1 ∧ RelM cI ad (o_setBudget M x).2 E1 ∧ ∀ k : Nat, (k < 30) → E1 k = E k) := by
  refine mi_of cX6_setBudget 3 (.int) RX6 (by decide) rfl rfl (Nat.le_of_ble_eq_true rfl) (fun r E1 h => rfl) ?_
  intro vp ve vs vm va vb vt vc Q C hend
  refine z_lv [(0, .ref (ad 30)), (1, .int (x))] ⟨rfl, rfl, rfl, rfl, trivial⟩ ?_
  obtain ⟨gl, sz, co, lt, sp, e30, e31, e32, e33, e34, e35, e36, e37, hms, hn6, hgl, hrel⟩ := id hR
  obtain ⟨⟨iW1, iW2⟩, iG, ⟨iS1, iS2⟩, ⟨iB1, iB2⟩, iO, iC, iT, iN, iSh, iWd, iDt, iZ, iDf, iDz, iTx, iMs⟩ := id hI.1
  have hLM := hI.1.LM_le
  have hsl := hI.1.slen
  have hww := hI.1.ws
  have hld : ∀ a, ldM M a ≤ 512 := fun a => Nat.le_trans (ldS_le _ _ _ _ _) (by omega)
  have hl4 := hld (M 0 4)
  have hsz : ∀ i, i < M 0 7 → (1 ≤ sz i ∧ sz i ≤ 12) ∧ ∀ k, k < sz i → ltr lt i k < 27 := fun i hi => by
    obtain ⟨h1, h2, h3⟩ := hrel i hi
    have h4 := iMs i hi
    rw [h1]
    exact ⟨h4.1, fun k hk => by rw [h3 k hk]; exact h4.2.2 k hk⟩
  have hLe : sL (M 1) (M 0 1) sz (ltr lt) (M 0 7) = LM M := sL_cg (fun i hi => ⟨(hrel i hi).1, fun k hk => (hrel i hi).2.2 k (by rw [← (hrel i hi).1]; exact hk)⟩)
  have hst : scols (M 1) (M 2) (M 0 1) sz co (ltr lt) (M 0 7) = stripM M := scols_cg (fun i hi => ⟨(hrel i hi).1, (hrel i hi).2.1, fun k hk => (hrel i hi).2.2 k (by rw [← (hrel i hi).1]; exact hk)⟩)
  rcases wr_c 1 999 x (by omega) (by omega) with ⟨v, hv1, rfl⟩ | hx
  · have hop : o_setBudget M (nI v) = (nI (M 0 3), s0 M 3 v) := wr_y hv1 (by decide)
    refine z_iload_n C dX6_setBudget_0 rfl ?_
    refine z_iconst C (nI (1)) dX6_setBudget_1 (by decide) ?_
    refine z_sipush C (nI (999)) dX6_setBudget_2 (by decide) ?_
    refine z_callSF C (k_X6_in vl D cI cM A ad E hX (nI (v)) (nI (1)) (nI (999))) (va_cwS 3 C.2.2.2.2.1 gX6_setBudget_X6_in rfl rfl rfl (by decide +kernel) ⟨Nat.le_of_ble_eq_true rfl, Nat.le_of_ble_eq_true rfl⟩) rfl rfl (Nat.le_of_ble_eq_true rfl) ⟨Nat.zero_le _, Nat.zero_le _⟩ dX6_setBudget_5 ?_
    refine z_top (nI (1)) (iw_yN hv1 (by omega)) ?_
    refine z_if_neN C 14 (by omega) dX6_setBudget_8 (by decide) (fun h8 => ?_) (fun h8 => (by exfalso; omega))
    refine z_aload_n C dX6_setBudget_14 rfl ?_
    refine z_get C (30) (Cn := RX6) (T := TX6) (N := 19) (fi := 4) iw_X6_setBudget_6 rfl (by decide) ln_X6_setBudget_19 (by first | decide | omega) rfl e30 rfl dX6_setBudget_15 ?_
    refine z_istore_n C [(0, .ref (ad 30)), (1, .int (nI (v))), (2, .int (nI (M 0 3)))] dX6_setBudget_18 (by decide) ⟨rfl, rfl, rfl, rfl, rfl, rfl, trivial⟩ ?_
    refine z_aload_n C dX6_setBudget_19 rfl ?_
    refine z_iload_n C dX6_setBudget_20 rfl ?_
    refine z_put C (30) (Cn := RX6) (T := TX6) (N := 19) (fi := 4) tyX6 iw_X6_setBudget_6 tyX6_ok nmX6 rfl (by decide) ln_X6_setBudget_19 hX (by first | decide | omega) rfl e30 rfl rfl rfl rfl (Nat.le_of_ble_eq_true rfl) dX6_setBudget_21 (fun Ez2 hE1 => ?_)
    have f4 : Ez2 (31) = aI cI 27 (M 1) := va_up_of hE1 (by first | decide | omega) e31
    have f5 : Ez2 (32) = aI cI 162 gl := va_up_of hE1 (by first | decide | omega) e32
    have f6 : Ez2 (33) = aI cI 32 (M 3) := va_up_of hE1 (by first | decide | omega) e33
    have f7 : Ez2 (34) = aI cI 12 (M 4) := va_up_of hE1 (by first | decide | omega) e34
    have f8 : Ez2 (35) = aI cI 6 sz := va_up_of hE1 (by first | decide | omega) e35
    have f9 : Ez2 (36) = aI cI 6 co := va_up_of hE1 (by first | decide | omega) e36
    have f10 : Ez2 (37) = aI cI 72 lt := va_up_of hE1 (by first | decide | omega) e37
    have f11 : Ez2 (30) = .inr (6, [.int (nI (M 0 0)), .int (nI (M 0 1)), .int (nI (M 0 2)), .int (shI (M 0 8)), .int (nI (v)), .int (nI (M 0 4)), .int (nI (M 0 5)), .ref (ad 31), .ref (ad 32), .ref (ad 33), .int (nI (M 0 6)), .ref (ad 34), .int (nI (M 0 7)), .ref (ad 35), .ref (ad 36), .ref (ad 37), .int (nI (sp)), .ref (ad 38), .ref (ad 39)]) := va_up_eq hE1
    have g12 : ∀ k : Nat, (k ≠ 30) → Ez2 k = E k := fun k hk => va_up_of hE1 (by omega) ((fun _ _ => rfl) k hk)
    refine z_iload_n C dX6_setBudget_24 rfl ?_
    exact hend _ _ _ _ dX6_setBudget_25 (⟨by rw [hop], by rw [hop]; exact ⟨gl, sz, co, lt, sp, f11, f4, f5, f6, f7, f8, f9, f10, hms.mv (g12 _ (by omega)) (g12 _ (by omega)), hn6, hgl, hrel⟩, fun k hk => g12 k (by omega)⟩)
  · have hop : o_setBudget M x = (-11, M) := wr_n hx
    refine z_iload_n C dX6_setBudget_0 rfl ?_
    refine z_iconst C (nI (1)) dX6_setBudget_1 (by decide) ?_
    refine z_sipush C (nI (999)) dX6_setBudget_2 (by decide) ?_
    refine z_callSF C (k_X6_in vl D cI cM A ad E hX (x) (nI (1)) (nI (999))) (va_cwS 3 C.2.2.2.2.1 gX6_setBudget_X6_in rfl rfl rfl (by decide +kernel) ⟨Nat.le_of_ble_eq_true rfl, Nat.le_of_ble_eq_true rfl⟩) rfl rfl (Nat.le_of_ble_eq_true rfl) ⟨Nat.zero_le _, Nat.zero_le _⟩ dX6_setBudget_5 ?_
    refine z_top (nI (0)) (iw_n hx) ?_
    refine z_if_neN C 14 (by omega) dX6_setBudget_8 (by decide) (fun h8 => (by exfalso; omega)) (fun h8 => ?_)
    refine z_bipush C (-11) dX6_setBudget_11 (by decide) ?_
    exact hend _ _ _ _ dX6_setBudget_13 (⟨by rw [hop], by rw [hop]; exact hR, fun _ _ => rfl⟩)

theorem iw_X6_setShift_6 : ∀ w ∈ wsX60, w ∈ wsX6_setShift := by decide +kernel
theorem ln_X6_setShift_94 : Cond.fieldLink RX6 94 "MarqueeDisplayModel" "shift" "I" ∈ wsX6_setShift := by decide +kernel
set_option maxHeartbeats 4000000 in
set_option maxRecDepth 100000 in
theorem k_X6_setShift (vl : Launch) (D : va_G) (cI cM : ClassId) (A : Nat → Prop) (ad : Nat → Nat) (E : Nat → va_E) (hX : XD A 40 ad) {M : St} (x : Int32) (hI : Inv M) (hR : RelM cI ad M E) : MI vl yX6_setShift wsX6_setShift { frames := 1, cells := 0, slots := 0, locals := 22 } D cI cM A 40 ad E [.ref (ad 30), .int (x)] (fun r E1 => r = (o_setShift M x).1 ∧ RelM cI ad (o_setShift M x).2 E1 ∧ ∀ k : Nat, (k < 30) → E1 k = E k) := by
  refine mi_of cX6_setShift 3 (.int) RX6 (by decide) rfl rfl (Nat.le_of_ble_eq_true rfl) (fun r E1 h => rfl) ?_
  intro vp ve vs vm va vb vt vc Q C hend
  refine z_lv [(0, .ref (ad 30)), (1, .int (x))] ⟨rfl, rfl, rfl, rfl, trivial⟩ ?_
  obtain ⟨gl, sz, co, lt, sp, e30, e31, e32, e33, e34, e35, e36, e37, hms, hn6, hgl, hrel⟩ := id hR
  obtain ⟨⟨iW1, iW2⟩, iG, ⟨iS1, iS2⟩, ⟨iB1, iB2⟩, iO, iC, iT, iN, iSh, iWd, iDt, iZ, iDf, iDz, iTx, iMs⟩ := id hI.1
  have hLM := hI.1.LM_le
  have hsl := hI.1.slen
  have hww := hI.1.ws
  have hld : ∀ a, ldM M a ≤ 512 := fun a => Nat.le_trans (ldS_le _ _ _ _ _) (by omega)
  have hl4 := hld (M 0 4)
  have hsz : ∀ i, i < M 0 7 → (1 ≤ sz i ∧ sz i ≤ 12) ∧ ∀ k, k < sz i → ltr lt i k < 27 := fun i hi => by
    obtain ⟨h1, h2, h3⟩ := hrel i hi
    have h4 := iMs i hi
    rw [h1]
    exact ⟨h4.1, fun k hk => by rw [h3 k hk]; exact h4.2.2 k hk⟩
  have hLe : sL (M 1) (M 0 1) sz (ltr lt) (M 0 7) = LM M := sL_cg (fun i hi => ⟨(hrel i hi).1, fun k hk => (hrel i hi).2.2 k (by rw [← (hrel i hi).1]; exact hk)⟩)
  have hst : scols (M 1) (M 2) (M 0 1) sz co (ltr lt) (M 0 7) = stripM M := scols_cg (fun i hi => ⟨(hrel i hi).1, (hrel i hi).2.1, fun k hk => (hrel i hi).2.2 k (by rw [← (hrel i hi).1]; exact hk)⟩)
  rcases ws_c x with ⟨t1, ht1, rfl⟩ | hx
  · have hop : o_setShift M (shI t1) = (shI (M 0 8), s0 M 8 t1) := ws_y ht1
    refine z_iload_n C dX6_setShift_0 rfl ?_
    refine z_bipush C (-2) dX6_setShift_1 (by decide) ?_
    refine z_iconst C (nI (2)) dX6_setShift_3 (by decide) ?_
    refine z_callSF C (k_X6_in vl D cI cM A ad E hX (shI t1) (-2) (nI (2))) (va_cwS 3 C.2.2.2.2.1 gX6_setShift_X6_in rfl rfl rfl (by decide +kernel) ⟨Nat.le_of_ble_eq_true rfl, Nat.le_of_ble_eq_true rfl⟩) rfl rfl (Nat.le_of_ble_eq_true rfl) ⟨Nat.zero_le _, Nat.zero_le _⟩ dX6_setShift_4 ?_
    refine z_top (nI (1)) (iw_y (shI_in t1 (by omega)).1) ?_
    refine z_if_neN C 13 (by omega) dX6_setShift_7 (by decide) (fun h7 => ?_) (fun h7 => (by exfalso; omega))
    refine z_aload_n C dX6_setShift_13 rfl ?_
    refine z_get C (30) (Cn := RX6) (T := TX6) (N := 19) (fi := 3) iw_X6_setShift_6 rfl (by decide) ln_X6_setShift_94 (by first | decide | omega) rfl e30 rfl dX6_setShift_14 ?_
    refine z_istore_n C [(0, .ref (ad 30)), (1, .int (shI t1)), (2, .int (shI (M 0 8)))] dX6_setShift_17 (by decide) ⟨rfl, rfl, rfl, rfl, rfl, rfl, trivial⟩ ?_
    refine z_aload_n C dX6_setShift_18 rfl ?_
    refine z_iload_n C dX6_setShift_19 rfl ?_
    refine z_put C (30) (Cn := RX6) (T := TX6) (N := 19) (fi := 3) tyX6 iw_X6_setShift_6 tyX6_ok nmX6 rfl (by decide) ln_X6_setShift_94 hX (by first | decide | omega) rfl e30 rfl rfl rfl rfl (Nat.le_of_ble_eq_true rfl) dX6_setShift_20 (fun Ez2 hE1 => ?_)
    have f4 : Ez2 (31) = aI cI 27 (M 1) := va_up_of hE1 (by first | decide | omega) e31
    have f5 : Ez2 (32) = aI cI 162 gl := va_up_of hE1 (by first | decide | omega) e32
    have f6 : Ez2 (33) = aI cI 32 (M 3) := va_up_of hE1 (by first | decide | omega) e33
    have f7 : Ez2 (34) = aI cI 12 (M 4) := va_up_of hE1 (by first | decide | omega) e34
    have f8 : Ez2 (35) = aI cI 6 sz := va_up_of hE1 (by first | decide | omega) e35
    have f9 : Ez2 (36) = aI cI 6 co := va_up_of hE1 (by first | decide | omega) e36
    have f10 : Ez2 (37) = aI cI 72 lt := va_up_of hE1 (by first | decide | omega) e37
    have f11 : Ez2 (30) = .inr (6, [.int (nI (M 0 0)), .int (nI (M 0 1)), .int (nI (M 0 2)), .int (shI t1), .int (nI (M 0 3)), .int (nI (M 0 4)), .int (nI (M 0 5)), .ref (ad 31), .ref (ad 32), .ref (ad 33), .int (nI (M 0 6)), .ref (ad 34), .int (nI (M 0 7)), .ref (ad 35), .ref (ad 36), .ref (ad 37), .int (nI (sp)), .ref (ad 38), .ref (ad 39)]) := va_up_eq hE1
    have g12 : ∀ k : Nat, (k ≠ 30) → Ez2 k = E k := fun k hk => va_up_of hE1 (by omega) ((fun _ _ => rfl) k hk)
    refine z_iload_n C dX6_setShift_23 rfl ?_
    exact hend _ _ _ _ dX6_setShift_24 (⟨by rw [hop], by rw [hop]; exact ⟨gl, sz, co, lt, sp, f11, f4, f5, f6, f7, f8, f9, f10, hms.mv (g12 _ (by omega)) (g12 _ (by omega)), hn6, hgl, hrel⟩, fun k hk => g12 k (by omega)⟩)
  · have hop : o_setShift M x = (-11, M) := ws_n hx
    refine z_iload_n C dX6_setShift_0 rfl ?_
    refine z_bipush C (-2) dX6_setShift_1 (by decide) ?_
    refine z_iconst C (nI (2)) dX6_setShift_3 (by decide) ?_
    refine z_callSF C (k_X6_in vl D cI cM A ad E hX (x) (-2) (nI (2))) (va_cwS 3 C.2.2.2.2.1 gX6_setShift_X6_in rfl rfl rfl (by decide +kernel) ⟨Nat.le_of_ble_eq_true rfl, Nat.le_of_ble_eq_true rfl⟩) rfl rfl (Nat.le_of_ble_eq_true rfl) ⟨Nat.zero_le _, Nat.zero_le _⟩ dX6_setShift_4 ?_
    refine z_top (nI (0)) (iw_n hx) ?_
    refine z_if_neN C 13 (by omega) dX6_setShift_7 (by decide) (fun h7 => (by exfalso; omega)) (fun h7 => ?_)
    refine z_bipush C (-11) dX6_setShift_10 (by decide) ?_
    exact hend _ _ _ _ dX6_setShift_12 (⟨by rw [hop], by rw [hop]; exact hR, fun _ _ => rfl⟩)

theorem iw_X6_setColor_6 : ∀ w ∈ wsX60, w ∈ wsX6_setColor := by decide +kernel
theorem ln_X6_setColor_38 : Cond.fieldLink RX6 38 "MarqueeDisplayModel" "color" "[I" ∈ wsX6_setColor := by decide +kernel
set_option maxHeartbeats 4000000 in
set_option maxRecDepth 100000 in
theorem k_X6_setColor (vl : Launch) (D : va_G) (cI cM : ClassId) (A : Nat → Prop) (ad : Nat → Nat) (E : Nat → va_E) (hX : XD A 40 ad) {M : St} (x y : Int32) (hI : Inv M) (hR : RelM cI ad M E) : MI vl yX6_setColor wsX6_setColor { frames := 2, cells := 0, slots := 0, locals := 43 } D cI cM A 40 ad E [.ref (ad 30), .int (x), .int (y)] (fun r E1 => r = (o_setColor M x y).1 ∧ RelM cI ad (o_setColor M x y).2 E1 ∧ ∀ k : Nat, (k < 30) → E1 k = E k) := by
  refine mi_of cX6_setColor 4 (.int) RX6 (by decide) rfl rfl (Nat.le_of_ble_eq_true rfl) (fun r E1 h => rfl) ?_
  intro vp ve vs vm va vb vt vc Q C hend
  refine z_lv [(0, .ref (ad 30)), (1, .int (x)), (2, .int (y))] ⟨rfl, rfl, rfl, rfl, rfl, rfl, trivial⟩ ?_
  obtain ⟨gl, sz, co, lt, sp, e30, e31, e32, e33, e34, e35, e36, e37, hms, hn6, hgl, hrel⟩ := id hR
  obtain ⟨⟨iW1, iW2⟩, iG, ⟨iS1, iS2⟩, ⟨iB1, iB2⟩, iO, iC, iT, iN, iSh, iWd, iDt, iZ, iDf, iDz, iTx, iMs⟩ := id hI.1
  have hLM := hI.1.LM_le
  have hsl := hI.1.slen
  have hww := hI.1.ws
  have hld : ∀ a, ldM M a ≤ 512 := fun a => Nat.le_trans (ldS_le _ _ _ _ _) (by omega)
  have hl4 := hld (M 0 4)
  have hsz : ∀ i, i < M 0 7 → (1 ≤ sz i ∧ sz i ≤ 12) ∧ ∀ k, k < sz i → ltr lt i k < 27 := fun i hi => by
    obtain ⟨h1, h2, h3⟩ := hrel i hi
    have h4 := iMs i hi
    rw [h1]
    exact ⟨h4.1, fun k hk => by rw [h3 k hk]; exact h4.2.2 k hk⟩
  have hLe : sL (M 1) (M 0 1) sz (ltr lt) (M 0 7) = LM M := sL_cg (fun i hi => ⟨(hrel i hi).1, fun k hk => (hrel i hi).2.2 k (by rw [← (hrel i hi).1]; exact hk)⟩)
  have hst : scols (M 1) (M 2) (M 0 1) sz co (ltr lt) (M 0 7) = stripM M := scols_cg (fun i hi => ⟨(hrel i hi).1, (hrel i hi).2.1, fun k hk => (hrel i hi).2.2 k (by rw [← (hrel i hi).1]; exact hk)⟩)
  by_cases hx : ∃ j : Nat, j < M 0 7 ∧ x = nI j
  · obtain ⟨j, hj, rfl⟩ := hx
    rcases wr_c 1 3 y (by omega) (by omega) with ⟨col, hcol, rfl⟩ | hy
    · have hop0 : o_setColor M (nI j) (nI col) = (nI (M 6 j), settle (va_up M 6 (va_up (M 6) j col))) := (wn_y hj (by omega)).trans (wr_y hcol (by decide))
      have hop : o_setColor M (nI j) (nI col) = (nI (M 6 j), va_up M 6 (va_up (M 6) j col)) := by rw [hop0, settle_id (M := va_up M 6 (va_up (M 6) j col)) hI.2]
      refine z_aload_n C dX6_setColor_0 rfl ?_
      refine z_iload_n C dX6_setColor_1 rfl ?_
      refine z_callVF C (30) (Cn := RX6) (T := TX6) (N := 19) (k_isMsg_y vl D cI cM A ad E hX e30 hj hn6) (cwV 1 C.2.2.2.2.1 gX6_setColor_X6_isMessage rfl rfl rfl (by decide +kernel) ⟨Nat.le_of_ble_eq_true rfl, Nat.le_of_ble_eq_true rfl⟩) rfl (by first | decide | omega) rfl e30 rfl rfl (Nat.le_of_ble_eq_true rfl) ⟨Nat.zero_le _, Nat.zero_le _⟩ dX6_setColor_2 ?_
      refine z_if_eqN C 17 (by omega) dX6_setColor_5 (by decide) (fun h5 => (by exfalso; omega)) (fun h5 => ?_)
      refine z_iload_n C dX6_setColor_8 rfl ?_
      refine z_iconst C (nI (1)) dX6_setColor_9 (by decide) ?_
      refine z_iconst C (nI (3)) dX6_setColor_10 (by decide) ?_
      refine z_callSF C (k_X6_in vl D cI cM A ad E hX (nI (col)) (nI (1)) (nI (3))) (va_cwS 3 C.2.2.2.2.1 gX6_setColor_X6_in rfl rfl rfl (by decide +kernel) ⟨Nat.le_of_ble_eq_true rfl, Nat.le_of_ble_eq_true rfl⟩) rfl rfl (Nat.le_of_ble_eq_true rfl) ⟨Nat.zero_le _, Nat.zero_le _⟩ dX6_setColor_11 ?_
      refine z_top (nI (1)) (iw_yN hcol (by omega)) ?_
      refine z_if_neN C 20 (by omega) dX6_setColor_14 (by decide) (fun h14 => ?_) (fun h14 => (by exfalso; omega))
      refine z_aload_n C dX6_setColor_20 rfl ?_
      refine z_get C (30) (Cn := RX6) (T := TX6) (N := 19) (fi := 14) iw_X6_setColor_6 rfl (by decide) ln_X6_setColor_38 (by first | decide | omega) rfl e30 rfl dX6_setColor_21 ?_
      refine z_iload_n C dX6_setColor_24 rfl ?_
      refine z_ialdG C (36) (by first | decide | omega) rfl e36 (by omega) (by decide) dX6_setColor_25 ?_
      refine z_top (nI (M 6 j)) (by rw [(hrel j hj).2.1]) ?_
      refine z_istore_n C [(0, .ref (ad 30)), (1, .int (nI (j))), (2, .int (nI (col))), (3, .int (nI (M 6 j)))] dX6_setColor_26 (by decide) ⟨rfl, rfl, rfl, rfl, rfl, rfl, rfl, rfl, trivial⟩ ?_
      refine z_aload_n C dX6_setColor_27 rfl ?_
      refine z_get C (30) (Cn := RX6) (T := TX6) (N := 19) (fi := 14) iw_X6_setColor_6 rfl (by decide) ln_X6_setColor_38 (by first | decide | omega) rfl e30 rfl dX6_setColor_28 ?_
      refine z_iload_n C dX6_setColor_31 rfl ?_
      refine z_iload_n C dX6_setColor_32 rfl ?_
      refine z_iastG C (36) hX (by first | decide | omega) rfl e36 (by omega) (by decide) dX6_setColor_33 (fun Ez2 hE1 => ?_)
      have f3 : Ez2 (30) = .inr (6, [.int (nI (M 0 0)), .int (nI (M 0 1)), .int (nI (M 0 2)), .int (shI (M 0 8)), .int (nI (M 0 3)), .int (nI (M 0 4)), .int (nI (M 0 5)), .ref (ad 31), .ref (ad 32), .ref (ad 33), .int (nI (M 0 6)), .ref (ad 34), .int (nI (M 0 7)), .ref (ad 35), .ref (ad 36), .ref (ad 37), .int (nI (sp)), .ref (ad 38), .ref (ad 39)]) := va_up_of hE1 (by first | decide | omega) e30
      have f4 : Ez2 (31) = aI cI 27 (M 1) := va_up_of hE1 (by first | decide | omega) e31
      have f5 : Ez2 (32) = aI cI 162 gl := va_up_of hE1 (by first | decide | omega) e32
      have f6 : Ez2 (33) = aI cI 32 (M 3) := va_up_of hE1 (by first | decide | omega) e33
      have f7 : Ez2 (34) = aI cI 12 (M 4) := va_up_of hE1 (by first | decide | omega) e34
      have f8 : Ez2 (35) = aI cI 6 sz := va_up_of hE1 (by first | decide | omega) e35
      have f10 : Ez2 (37) = aI cI 72 lt := va_up_of hE1 (by first | decide | omega) e37
      have f11 : Ez2 (36) = aI cI 6 (va_up co (j) (col)) := va_up_eq hE1
      have g12 : ∀ k : Nat, (k ≠ 36) → Ez2 k = E k := fun k hk => va_up_of hE1 (by omega) ((fun _ _ => rfl) k hk)
      refine z_iload_n C dX6_setColor_34 rfl ?_
      exact hend _ _ _ _ dX6_setColor_35 (⟨by rw [hop], by rw [hop]; exact ⟨gl, sz, _, lt, sp, f3, f4, f5, f6, f7, f8, f11, f10, hms.mv (g12 _ (by omega)) (g12 _ (by omega)), hn6, hgl, (relc hrel)⟩, fun k hk => g12 k (by omega)⟩)
    · have hop : o_setColor M (nI j) y = (-11, M) := (wn_y hj (by omega)).trans (wr_n hy)
      refine z_aload_n C dX6_setColor_0 rfl ?_
      refine z_iload_n C dX6_setColor_1 rfl ?_
      refine z_callVF C (30) (Cn := RX6) (T := TX6) (N := 19) (k_isMsg_y vl D cI cM A ad E hX e30 hj hn6) (cwV 1 C.2.2.2.2.1 gX6_setColor_X6_isMessage rfl rfl rfl (by decide +kernel) ⟨Nat.le_of_ble_eq_true rfl, Nat.le_of_ble_eq_true rfl⟩) rfl (by first | decide | omega) rfl e30 rfl rfl (Nat.le_of_ble_eq_true rfl) ⟨Nat.zero_le _, Nat.zero_le _⟩ dX6_setColor_2 ?_
      refine z_if_eqN C 17 (by omega) dX6_setColor_5 (by decide) (fun h5 => (by exfalso; omega)) (fun h5 => ?_)
      refine z_iload_n C dX6_setColor_8 rfl ?_
      refine z_iconst C (nI (1)) dX6_setColor_9 (by decide) ?_
      refine z_iconst C (nI (3)) dX6_setColor_10 (by decide) ?_
      refine z_callSF C (k_X6_in vl D cI cM A ad E hX (y) (nI (1)) (nI (3))) (va_cwS 3 C.2.2.2.2.1 gX6_setColor_X6_in rfl rfl rfl (by decide +kernel) ⟨Nat.le_of_ble_eq_true rfl, Nat.le_of_ble_eq_true rfl⟩) rfl rfl (Nat.le_of_ble_eq_true rfl) ⟨Nat.zero_le _, Nat.zero_le _⟩ dX6_setColor_11 ?_
      refine z_top (nI (0)) (iw_n hy) ?_
      refine z_if_neN C 20 (by omega) dX6_setColor_14 (by decide) (fun h14 => (by exfalso; omega)) (fun h14 => ?_)
      refine z_bipush C (-11) dX6_setColor_17 (by decide) ?_
      exact hend _ _ _ _ dX6_setColor_19 (⟨by rw [hop], by rw [hop]; exact hR, fun _ _ => rfl⟩)
  · have hop : o_setColor M x y = (-11, M) := wn_n (by omega) hx
    refine z_aload_n C dX6_setColor_0 rfl ?_
    refine z_iload_n C dX6_setColor_1 rfl ?_
    refine z_callVF C (30) (Cn := RX6) (T := TX6) (N := 19) (k_isMsg_n vl D cI cM A ad E hX e30 hx hn6) (cwV 1 C.2.2.2.2.1 gX6_setColor_X6_isMessage rfl rfl rfl (by decide +kernel) ⟨Nat.le_of_ble_eq_true rfl, Nat.le_of_ble_eq_true rfl⟩) rfl (by first | decide | omega) rfl e30 rfl rfl (Nat.le_of_ble_eq_true rfl) ⟨Nat.zero_le _, Nat.zero_le _⟩ dX6_setColor_2 ?_
    refine z_if_eqN C 17 (by omega) dX6_setColor_5 (by decide) (fun h5 => ?_) (fun h5 => (by exfalso; omega))
    refine z_bipush C (-11) dX6_setColor_17 (by decide) ?_
    exact hend _ _ _ _ dX6_setColor_19 (⟨by rw [hop], by rw [hop]; exact hR, fun _ _ => rfl⟩)

theorem iw_X6_setColumns_6 : ∀ w ∈ wsX60, w ∈ wsX6_setColumns := by decide +kernel
theorem ln_X6_setColumns_7 : Cond.fieldLink RX6 7 "MarqueeDisplayModel" "columns" "I" ∈ wsX6_setColumns := by decide +kernel
theorem ln_X6_setColumns_29 : Cond.fieldLink RX6 29 "MarqueeDisplayModel" "defective" "[I" ∈ wsX6_setColumns := by decide +kernel
set_option maxHeartbeats 4000000 in
set_option maxRecDepth 100000 in
theorem k_X6_setColumns (vl : Launch) (D : va_G) (cI cM : ClassId) (A : Nat → Prop) (ad : Nat → Nat) (E : Nat → va_E) (hX : XD A 40 ad) {M : St} (x : Int32) (hI : Inv M) (hR : RelM cI ad M E) : MI vl yX6_setColumns wsX6_setColumns { frames := 1, cells := 0, slots := 0, locals := 22 } D cI cM A 40 ad E [.ref (ad 30), .int (x)] (fun r E1 => r = (o_setColumns M x).1 ∧ RelM cI ad (o_setColumns M x).2 E1 ∧ ∀ k : Nat, (k < 30) → E1 k = E k) := by
  refine mi_of cX6_setColumns 4 (.int) RX6 (by decide) rfl rfl (Nat.le_of_ble_eq_true rfl) (fun r E1 h => rfl) ?_
  intro vp ve vs vm va vb vt vc Q C hend
  refine z_lv [(0, .ref (ad 30)), (1, .int (x))] ⟨rfl, rfl, rfl, rfl, trivial⟩ ?_
  obtain ⟨gl, sz, co, lt, sp, e30, e31, e32, e33, e34, e35, e36, e37, hms, hn6, hgl, hrel⟩ := id hR
  obtain ⟨⟨iW1, iW2⟩, iG, ⟨iS1, iS2⟩, ⟨iB1, iB2⟩, iO, iC, iT, iN, iSh, iWd, iDt, iZ, iDf, iDz, iTx, iMs⟩ := id hI.1
  have hLM := hI.1.LM_le
  have hsl := hI.1.slen
  have hww := hI.1.ws
  have hld : ∀ a, ldM M a ≤ 512 := fun a => Nat.le_trans (ldS_le _ _ _ _ _) (by omega)
  have hl4 := hld (M 0 4)
  have hsz : ∀ i, i < M 0 7 → (1 ≤ sz i ∧ sz i ≤ 12) ∧ ∀ k, k < sz i → ltr lt i k < 27 := fun i hi => by
    obtain ⟨h1, h2, h3⟩ := hrel i hi
    have h4 := iMs i hi
    rw [h1]
    exact ⟨h4.1, fun k hk => by rw [h3 k hk]; exact h4.2.2 k hk⟩
  have hLe : sL (M 1) (M 0 1) sz (ltr lt) (M 0 7) = LM M := sL_cg (fun i hi => ⟨(hrel i hi).1, fun k hk => (hrel i hi).2.2 k (by rw [← (hrel i hi).1]; exact hk)⟩)
  have hst : scols (M 1) (M 2) (M 0 1) sz co (ltr lt) (M 0 7) = stripM M := scols_cg (fun i hi => ⟨(hrel i hi).1, (hrel i hi).2.1, fun k hk => (hrel i hi).2.2 k (by rw [← (hrel i hi).1]; exact hk)⟩)
  rcases wr_c 8 32 x (by omega) (by omega) with ⟨w, hw, rfl⟩ | hx
  · have hop : o_setColumns M (nI w) = (nI (M 0 0), va_up (s0 M 0 w) 3 (clr (M 3) w 32)) := wr_y hw (by decide)
    refine z_iload_n C dX6_setColumns_0 rfl ?_
    refine z_bipush C (nI (8)) dX6_setColumns_1 (by decide) ?_
    refine z_bipush C (nI (32)) dX6_setColumns_3 (by decide) ?_
    refine z_callSF C (k_X6_in vl D cI cM A ad E hX (nI (w)) (nI (8)) (nI (32))) (va_cwS 3 C.2.2.2.2.1 gX6_setColumns_X6_in rfl rfl rfl (by decide +kernel) ⟨Nat.le_of_ble_eq_true rfl, Nat.le_of_ble_eq_true rfl⟩) rfl rfl (Nat.le_of_ble_eq_true rfl) ⟨Nat.zero_le _, Nat.zero_le _⟩ dX6_setColumns_5 ?_
    refine z_top (nI (1)) (iw_yN hw (by omega)) ?_
    refine z_if_neN C 14 (by omega) dX6_setColumns_8 (by decide) (fun h8 => ?_) (fun h8 => (by exfalso; omega))
    refine z_aload_n C dX6_setColumns_14 rfl ?_
    refine z_get C (30) (Cn := RX6) (T := TX6) (N := 19) (fi := 0) iw_X6_setColumns_6 rfl (by decide) ln_X6_setColumns_7 (by first | decide | omega) rfl e30 rfl dX6_setColumns_15 ?_
    refine z_istore_n C [(0, .ref (ad 30)), (1, .int (nI (w))), (2, .int (nI (M 0 0)))] dX6_setColumns_18 (by decide) ⟨rfl, rfl, rfl, rfl, rfl, rfl, trivial⟩ ?_
    refine z_aload_n C dX6_setColumns_19 rfl ?_
    refine z_iload_n C dX6_setColumns_20 rfl ?_
    refine z_put C (30) (Cn := RX6) (T := TX6) (N := 19) (fi := 0) tyX6 iw_X6_setColumns_6 tyX6_ok nmX6 rfl (by decide) ln_X6_setColumns_7 hX (by first | decide | omega) rfl e30 rfl rfl rfl rfl (Nat.le_of_ble_eq_true rfl) dX6_setColumns_21 (fun Ez2 hE1 => ?_)
    have f4 : Ez2 (31) = aI cI 27 (M 1) := va_up_of hE1 (by first | decide | omega) e31
    have f5 : Ez2 (32) = aI cI 162 gl := va_up_of hE1 (by first | decide | omega) e32
    have f6 : Ez2 (33) = aI cI 32 (M 3) := va_up_of hE1 (by first | decide | omega) e33
    have f7 : Ez2 (34) = aI cI 12 (M 4) := va_up_of hE1 (by first | decide | omega) e34
    have f8 : Ez2 (35) = aI cI 6 sz := va_up_of hE1 (by first | decide | omega) e35
    have f9 : Ez2 (36) = aI cI 6 co := va_up_of hE1 (by first | decide | omega) e36
    have f10 : Ez2 (37) = aI cI 72 lt := va_up_of hE1 (by first | decide | omega) e37
    have f11 : Ez2 (30) = .inr (6, [.int (nI (w)), .int (nI (M 0 1)), .int (nI (M 0 2)), .int (shI (M 0 8)), .int (nI (M 0 3)), .int (nI (M 0 4)), .int (nI (M 0 5)), .ref (ad 31), .ref (ad 32), .ref (ad 33), .int (nI (M 0 6)), .ref (ad 34), .int (nI (M 0 7)), .ref (ad 35), .ref (ad 36), .ref (ad 37), .int (nI (sp)), .ref (ad 38), .ref (ad 39)]) := va_up_eq hE1
    have g12 : ∀ k : Nat, (k ≠ 30 ∧ k ≠ 33) → Ez2 k = E k := fun k hk => va_up_of hE1 (by omega) ((fun _ _ => rfl) k hk)
    refine z_iload_n C dX6_setColumns_24 rfl ?_
    refine z_istore_n C [(0, .ref (ad 30)), (1, .int (nI (w))), (2, .int (nI (M 0 0))), (3, .int (nI (w)))] dX6_setColumns_25 (by decide) ⟨rfl, rfl, rfl, rfl, rfl, rfl, rfl, rfl, trivial⟩ ?_
    have loop26 : ∀ (fuel : Nat) (i : Nat) (E2 : Nat → va_E), (hi : w ≤ i ∧ i ≤ 32) → (q30 : E2 (30) = .inr (6, [.int (nI (w)), .int (nI (M 0 1)), .int (nI (M 0 2)), .int (shI (M 0 8)), .int (nI (M 0 3)), .int (nI (M 0 4)), .int (nI (M 0 5)), .ref (ad 31), .ref (ad 32), .ref (ad 33), .int (nI (M 0 6)), .ref (ad 34), .int (nI (M 0 7)), .ref (ad 35), .ref (ad 36), .ref (ad 37), .int (nI (sp)), .ref (ad 38), .ref (ad 39)])) → (q33 : E2 (33) = aI cI 32 (clr (M 3) w i)) → (qf : ∀ k : Nat, (k ≠ 30 ∧ k ≠ 33) → E2 k = E k) → 32 - i < fuel → Z vp vl ve { frames := 1, cells := 0, slots := 0, locals := 22 } vs vm va vb vt vc 4 D A 40 ad E2 [(0, .ref (ad 30)), (1, .int (nI (w))), (2, .int (nI (M 0 0))), (3, .int (nI (i)))] 0 0 Q 26 [] := by
      intro fuel
      induction fuel with
      | zero => intro i E2 hi q30 q33 qf hlt; exact absurd hlt (Nat.not_lt_zero _)
      | succ fuel ih =>
        intro i E2 hi q30 q33 qf hlt
        have ih26 := ih
        refine z_iload_n C dX6_setColumns_26 rfl ?_
        refine z_bipush C (nI (32)) dX6_setColumns_27 (by decide) ?_
        refine z_icmp_geN C 45 (by omega) (by omega) dX6_setColumns_29 (by decide) (fun h29 => ?_) (fun h29 => ?_)
        · have hi32 : i = 32 := by omega
          rw [hi32] at q33
          refine z_iload_n C dX6_setColumns_45 rfl ?_
          exact hend _ _ _ _ dX6_setColumns_46 (⟨by rw [hop], by rw [hop]; exact ⟨gl, sz, co, lt, sp, q30, ((qf _ (by omega)).trans e31), ((qf _ (by omega)).trans e32), q33, ((qf _ (by omega)).trans e34), ((qf _ (by omega)).trans e35), ((qf _ (by omega)).trans e36), ((qf _ (by omega)).trans e37), hms.mv (qf _ (by omega)) (qf _ (by omega)), hn6, hgl, hrel⟩, fun k hk => qf k (by omega)⟩)
        · refine z_aload_n C dX6_setColumns_32 rfl ?_
          refine z_get C (30) (Cn := RX6) (T := TX6) (N := 19) (fi := 9) iw_X6_setColumns_6 rfl (by decide) ln_X6_setColumns_29 (by first | decide | omega) rfl q30 rfl dX6_setColumns_33 ?_
          refine z_iload_n C dX6_setColumns_36 rfl ?_
          refine z_iconst C (nI (0)) dX6_setColumns_37 (by decide) ?_
          refine z_iastG C (33) hX (by first | decide | omega) rfl q33 (by omega) (by decide) dX6_setColumns_38 (fun Ez14 hE13 => ?_)
          have f15 : Ez14 (30) = .inr (6, [.int (nI (w)), .int (nI (M 0 1)), .int (nI (M 0 2)), .int (shI (M 0 8)), .int (nI (M 0 3)), .int (nI (M 0 4)), .int (nI (M 0 5)), .ref (ad 31), .ref (ad 32), .ref (ad 33), .int (nI (M 0 6)), .ref (ad 34), .int (nI (M 0 7)), .ref (ad 35), .ref (ad 36), .ref (ad 37), .int (nI (sp)), .ref (ad 38), .ref (ad 39)]) := va_up_of hE13 (by first | decide | omega) q30
          have f17 : Ez14 (33) = aI cI 32 (va_up (clr (M 3) w i) (i) (0)) := va_up_eq hE13
          have g18 : ∀ k : Nat, (k ≠ 30 ∧ k ≠ 33) → Ez14 k = E k := fun k hk => va_up_of hE13 (by omega) (qf k hk)
          refine z_iincN (j := 1) C [(0, .ref (ad 30)), (1, .int (nI (w))), (2, .int (nI (M 0 0))), (3, .int (nI (i + 1)))] dX6_setColumns_39 rfl (by decide) ⟨rfl, rfl, rfl, rfl, rfl, rfl, rfl, rfl, trivial⟩ ?_
          refine z_goto C 26 dX6_setColumns_42 (by decide) ?_
          refine z_lv [(0, .ref (ad 30)), (1, .int (nI (w))), (2, .int (nI (M 0 0))), (3, .int (nI (i + 1)))] ⟨rfl, rfl, rfl, rfl, rfl, rfl, rfl, rfl, trivial⟩ ?_
          exact ih26 (i + 1) Ez14 (by omega) f15 (f17.trans (by rw [clr_s (by omega)])) g18 (by omega)
    refine z_lv [(0, .ref (ad 30)), (1, .int (nI (w))), (2, .int (nI (M 0 0))), (3, .int (nI (w)))] ⟨rfl, rfl, rfl, rfl, rfl, rfl, rfl, rfl, trivial⟩ ?_
    exact loop26 (33) w Ez2 ⟨Nat.le_refl _, hw.2⟩ f11 (f6.trans (by rw [clr_0])) g12 (by omega)
  · have hop : o_setColumns M x = (-11, M) := wr_n hx
    refine z_iload_n C dX6_setColumns_0 rfl ?_
    refine z_bipush C (nI (8)) dX6_setColumns_1 (by decide) ?_
    refine z_bipush C (nI (32)) dX6_setColumns_3 (by decide) ?_
    refine z_callSF C (k_X6_in vl D cI cM A ad E hX (x) (nI (8)) (nI (32))) (va_cwS 3 C.2.2.2.2.1 gX6_setColumns_X6_in rfl rfl rfl (by decide +kernel) ⟨Nat.le_of_ble_eq_true rfl, Nat.le_of_ble_eq_true rfl⟩) rfl rfl (Nat.le_of_ble_eq_true rfl) ⟨Nat.zero_le _, Nat.zero_le _⟩ dX6_setColumns_5 ?_
    refine z_top (nI (0)) (iw_n hx) ?_
    refine z_if_neN C 14 (by omega) dX6_setColumns_8 (by decide) (fun h8 => (by exfalso; omega)) (fun h8 => ?_)
    refine z_bipush C (-11) dX6_setColumns_11 (by decide) ?_
    exact hend _ _ _ _ dX6_setColumns_13 (⟨by rw [hop], by rw [hop]; exact hR, fun _ _ => rfl⟩)

theorem sm_z {f : Nat → Nat} {w : Nat} : ∀ n, w ≤ n → (∀ x, w ≤ x → x < n → f x = 0) → sm f n = sm f w
  | 0, h, _ => by rw [show w = 0 by omega]
  | n + 1, h, hz => by
    by_cases e : w = n + 1
    · rw [e]
    · rw [sm, hz n (by omega) (by omega), sm_z n (by omega) (fun x h1 h2 => hz x h1 (by omega))]
      rfl
theorem cz {df : Nat → Nat} {w : Nat} (hw : w ≤ 32) (hz : ∀ x, x < 32 → w ≤ x → df x = 0) : sm (fun x => sm (b1 (df x)) 8) w = sm (fun x => pc8 (df x)) 32 := by
  refine (sm_z (f := fun x => sm (b1 (df x)) 8) 32 hw (fun x h1 h2 => ?_)).symm
  show sm (b1 (df x)) 8 = 0
  rw [hz x h2 h1]
  decide
theorem flip3 (M : St) (r c : Nat) : flipD M r c 3 = va_up (M 3) c (M 3 c ^^^ 2 ^ r) := va_up_self _ _ _
theorem flip0 (M : St) (r c : Nat) : flipD M r c 0 = M 0 := va_up_ne _ _ (by decide)
theorem cntD_f {M : St} (h : Inv0 M) {r c : Nat} (hr : r ≤ 7) (hc : c < M 0 0) : sm (fun x => sm (b1 (va_up (M 3) c (M 3 c ^^^ 2 ^ r) x)) 8) (M 0 0) = cntD (flipD M r c) := by
  have hz := (inv0_flip h hr hc).2.2.2.2.2.2.2.2.2.2.2.2.2.1
  rw [flip0, flip3] at hz
  unfold cntD
  rw [flip3]
  exact cz h.1.2 hz
theorem flip_lt {M : St} (h : Inv0 M) {r c : Nat} (hr : r ≤ 7) (hc : c < M 0 0) : ∀ x, x < 32 → va_up (M 3) c (M 3 c ^^^ 2 ^ r) x < 256 := by
  have hz := (inv0_flip h hr hc).2.2.2.2.2.2.2.2.2.2.2.2.1
  rw [flip3] at hz
  exact hz
theorem iw_X6_setDefective_6 : ∀ w ∈ wsX60, w ∈ wsX6_setDefective := by decide +kernel
theorem ln_X6_setDefective_7 : Cond.fieldLink RX6 7 "MarqueeDisplayModel" "columns" "I" ∈ wsX6_setDefective := by decide +kernel
theorem ln_X6_setDefective_29 : Cond.fieldLink RX6 29 "MarqueeDisplayModel" "defective" "[I" ∈ wsX6_setDefective := by decide +kernel
set_option maxHeartbeats 4000000 in
set_option maxRecDepth 100000 in
theorem k_X6_setDefective (vl : Launch) (D : va_G) (cI cM : ClassId) (A : Nat → Prop) (ad : Nat → Nat) (E : Nat → va_E) (hX : XD A 40 ad) {M : St} (x y : Int32) (z : Nat) (hI : Inv M) (hR : RelM cI ad M E) (hz : z ≤ 1) : MI vl yX6_setDefective wsX6_setDefective { frames := 1, cells := 0, slots := 0, locals := 22 } D cI cM A 40 ad E [.ref (ad 30), .int (x), .int (y), .int (nI (z))] (fun r E1 => r = (o_setDefective M x y z).1 ∧ RelM cI ad (o_setDefective M x y z).2 E1 ∧ ∀ k : Nat, (k < 30) → E1 k = E k) := by
  refine mi_of cX6_setDefective 7 (.int) RX6 (by decide) rfl rfl (Nat.le_of_ble_eq_true rfl) (fun r E1 h => rfl) ?_
  intro vp ve vs vm va vb vt vc Q C hend
  refine z_lv [(0, .ref (ad 30)), (1, .int (x)), (2, .int (y)), (3, .int (nI (z)))] ⟨rfl, rfl, rfl, rfl, rfl, rfl, rfl, rfl, trivial⟩ ?_
  obtain ⟨gl, sz, co, lt, sp, e30, e31, e32, e33, e34, e35, e36, e37, hms, hn6, hgl, hrel⟩ := id hR
  obtain ⟨⟨iW1, iW2⟩, iG, ⟨iS1, iS2⟩, ⟨iB1, iB2⟩, iO, iC, iT, iN, iSh, iWd, iDt, iZ, iDf, iDz, iTx, iMs⟩ := id hI.1
  have hLM := hI.1.LM_le
  have hsl := hI.1.slen
  have hww := hI.1.ws
  have hld : ∀ a, ldM M a ≤ 512 := fun a => Nat.le_trans (ldS_le _ _ _ _ _) (by omega)
  have hl4 := hld (M 0 4)
  have hsz : ∀ i, i < M 0 7 → (1 ≤ sz i ∧ sz i ≤ 12) ∧ ∀ k, k < sz i → ltr lt i k < 27 := fun i hi => by
    obtain ⟨h1, h2, h3⟩ := hrel i hi
    have h4 := iMs i hi
    rw [h1]
    exact ⟨h4.1, fun k hk => by rw [h3 k hk]; exact h4.2.2 k hk⟩
  have hLe : sL (M 1) (M 0 1) sz (ltr lt) (M 0 7) = LM M := sL_cg (fun i hi => ⟨(hrel i hi).1, fun k hk => (hrel i hi).2.2 k (by rw [← (hrel i hi).1]; exact hk)⟩)
  have hst : scols (M 1) (M 2) (M 0 1) sz co (ltr lt) (M 0 7) = stripM M := scols_cg (fun i hi => ⟨(hrel i hi).1, (hrel i hi).2.1, fun k hk => (hrel i hi).2.2 k (by rw [← (hrel i hi).1]; exact hk)⟩)
  by_cases hxy : (∃ r : Nat, r ≤ 7 ∧ x = nI r) ∧ ∃ c : Nat, c < M 0 0 ∧ y = nI c
  · obtain ⟨⟨r, hr, rfl⟩, c, hc, rfl⟩ := hxy
    have hop0 : o_setDefective M (nI r) (nI c) z = if b1 (M 3 c) r = z then (-12, M) else (nI (cntD (flipD M r c)), flipD M r c) := (wr_y ⟨Nat.zero_le _, hr⟩ (by decide)).trans (wn_y hc (by omega))
    have hbl := b1_le (M 3 c) r
    have hd3 := iDf c (by omega)
    have hpx := pow_xor _ hd3 r (by omega)
    have h2r : 2 ^ r < 256 := Nat.pow_lt_pow_right (n := 8) (by decide) (by omega)
    have hflip : ∀ x, x < 32 → (va_up (M 3) c (M 3 c ^^^ 2 ^ r)) x < 256 := flip_lt hI.1 hr hc
    refine z_iload_n C dX6_setDefective_0 rfl ?_
    refine z_iconst C (nI (0)) dX6_setDefective_1 (by decide) ?_
    refine z_bipush C (nI (7)) dX6_setDefective_2 (by decide) ?_
    refine z_callSF C (k_X6_in vl D cI cM A ad E hX (nI (r)) (nI (0)) (nI (7))) (va_cwS 3 C.2.2.2.2.1 gX6_setDefective_X6_in rfl rfl rfl (by decide +kernel) ⟨Nat.le_of_ble_eq_true rfl, Nat.le_of_ble_eq_true rfl⟩) rfl rfl (Nat.le_of_ble_eq_true rfl) ⟨Nat.zero_le _, Nat.zero_le _⟩ dX6_setDefective_4 ?_
    refine z_top (nI (1)) (iw_yN ⟨Nat.zero_le _, hr⟩ (by omega)) ?_
    refine z_if_eqN C 24 (by omega) dX6_setDefective_7 (by decide) (fun h7 => (by exfalso; omega)) (fun h7 => ?_)
    refine z_iload_n C dX6_setDefective_10 rfl ?_
    refine z_iconst C (nI (0)) dX6_setDefective_11 (by decide) ?_
    refine z_aload_n C dX6_setDefective_12 rfl ?_
    refine z_get C (30) (Cn := RX6) (T := TX6) (N := 19) (fi := 0) iw_X6_setDefective_6 rfl (by decide) ln_X6_setDefective_7 (by first | decide | omega) rfl e30 rfl dX6_setDefective_13 ?_
    refine z_iconst C (nI (1)) dX6_setDefective_16 (by decide) ?_
    refine z_isubN C (by omega) dX6_setDefective_17 ?_
    refine z_callSF C (k_X6_in vl D cI cM A ad E hX (nI (c)) (nI (0)) (nI ((M 0 0) - 1))) (va_cwS 3 C.2.2.2.2.1 gX6_setDefective_X6_in rfl rfl rfl (by decide +kernel) ⟨Nat.le_of_ble_eq_true rfl, Nat.le_of_ble_eq_true rfl⟩) rfl rfl (Nat.le_of_ble_eq_true rfl) ⟨Nat.zero_le _, Nat.zero_le _⟩ dX6_setDefective_18 ?_
    refine z_top (nI (1)) (iw_yN ⟨Nat.zero_le _, by omega⟩ (by omega)) ?_
    refine z_if_neN C 27 (by omega) dX6_setDefective_21 (by decide) (fun h21 => ?_) (fun h21 => (by exfalso; omega))
    refine z_aload_n C dX6_setDefective_27 rfl ?_
    refine z_get C (30) (Cn := RX6) (T := TX6) (N := 19) (fi := 9) iw_X6_setDefective_6 rfl (by decide) ln_X6_setDefective_29 (by first | decide | omega) rfl e30 rfl dX6_setDefective_28 ?_
    refine z_iload_n C dX6_setDefective_31 rfl ?_
    refine z_ialdG C (33) (by first | decide | omega) rfl e33 (by omega) (by decide) dX6_setDefective_32 ?_
    refine z_iload_n C dX6_setDefective_33 rfl ?_
    refine z_callSF C (k_has_p vl D cI cM A ad E hX hd3 (by omega)) (va_cwS 2 C.2.2.2.2.1 gX6_setDefective_X6_has rfl rfl rfl (by decide +kernel) ⟨Nat.le_of_ble_eq_true rfl, Nat.le_of_ble_eq_true rfl⟩) rfl rfl (Nat.le_of_ble_eq_true rfl) ⟨Nat.zero_le _, Nat.zero_le _⟩ dX6_setDefective_34 ?_
    refine z_iload_n C dX6_setDefective_37 rfl ?_
    refine z_icmp_neN C 44 (Nat.lt_of_le_of_lt (b1_le _ _) (by decide)) (by omega) dX6_setDefective_38 (by decide) (fun h38 => ?_) (fun h38 => ?_)
    · have hop := hop0.trans (if_neg h38)
      refine z_aload_n C dX6_setDefective_44 rfl ?_
      refine z_get C (30) (Cn := RX6) (T := TX6) (N := 19) (fi := 9) iw_X6_setDefective_6 rfl (by decide) ln_X6_setDefective_29 (by first | decide | omega) rfl e30 rfl dX6_setDefective_45 ?_
      refine z_iload_n C dX6_setDefective_48 rfl ?_
      refine z_dup2 C dX6_setDefective_49 rfl rfl ?_
      refine z_ialdG C (33) (by first | decide | omega) rfl e33 (by omega) (by decide) dX6_setDefective_50 ?_
      refine z_iconst C (nI (1)) dX6_setDefective_51 (by decide) ?_
      refine z_iload_n C dX6_setDefective_52 rfl ?_
      refine z_ishl C dX6_setDefective_53  ?_
      refine z_top (nI (2 ^ r)) (sh1 r (by omega)) ?_
      refine z_ixor C dX6_setDefective_54  ?_
      refine z_top (nI (M 3 c ^^^ 2 ^ r)) (nx_xor _ _) ?_
      refine z_iastG C (33) hX (by first | decide | omega) rfl e33 (by omega) (by decide) dX6_setDefective_55 (fun Ez2 hE1 => ?_)
      have f3 : Ez2 (30) = .inr (6, [.int (nI (M 0 0)), .int (nI (M 0 1)), .int (nI (M 0 2)), .int (shI (M 0 8)), .int (nI (M 0 3)), .int (nI (M 0 4)), .int (nI (M 0 5)), .ref (ad 31), .ref (ad 32), .ref (ad 33), .int (nI (M 0 6)), .ref (ad 34), .int (nI (M 0 7)), .ref (ad 35), .ref (ad 36), .ref (ad 37), .int (nI (sp)), .ref (ad 38), .ref (ad 39)]) := va_up_of hE1 (by first | decide | omega) e30
      have f4 : Ez2 (31) = aI cI 27 (M 1) := va_up_of hE1 (by first | decide | omega) e31
      have f5 : Ez2 (32) = aI cI 162 gl := va_up_of hE1 (by first | decide | omega) e32
      have f7 : Ez2 (34) = aI cI 12 (M 4) := va_up_of hE1 (by first | decide | omega) e34
      have f8 : Ez2 (35) = aI cI 6 sz := va_up_of hE1 (by first | decide | omega) e35
      have f9 : Ez2 (36) = aI cI 6 co := va_up_of hE1 (by first | decide | omega) e36
      have f10 : Ez2 (37) = aI cI 72 lt := va_up_of hE1 (by first | decide | omega) e37
      have f11 : Ez2 (33) = aI cI 32 (va_up (M 3) (c) (M 3 c ^^^ 2 ^ r)) := va_up_eq hE1
      have g12 : ∀ k : Nat, (k ≠ 33) → Ez2 k = E k := fun k hk => va_up_of hE1 (by omega) ((fun _ _ => rfl) k hk)
      have hfE : ∀ k : Nat, (k ≠ 33) → Ez2 k = E k := g12
      refine z_iconst C (nI (0)) dX6_setDefective_56 (by decide) ?_
      refine z_istore C [(0, .ref (ad 30)), (1, .int (nI (r))), (2, .int (nI (c))), (3, .int (nI (z))), (4, .int (nI (0)))] dX6_setDefective_57 (by decide) ⟨rfl, rfl, rfl, rfl, rfl, rfl, rfl, rfl, rfl, rfl, trivial⟩ ?_
      refine z_iconst C (nI (0)) dX6_setDefective_59 (by decide) ?_
      refine z_istore C [(0, .ref (ad 30)), (1, .int (nI (r))), (2, .int (nI (c))), (3, .int (nI (z))), (4, .int (nI (0))), (5, .int (nI (0)))] dX6_setDefective_60 (by decide) ⟨rfl, rfl, rfl, rfl, rfl, rfl, rfl, rfl, rfl, rfl, rfl, rfl, trivial⟩ ?_
      have loop62 : ∀ (fuel : Nat) (x : Nat), (hx : x ≤ M 0 0) → M 0 0 - x < fuel → Z vp vl ve { frames := 1, cells := 0, slots := 0, locals := 22 } vs vm va vb vt vc 7 D A 40 ad Ez2 [(0, .ref (ad 30)), (4, .int (nI (sm (fun x => sm (b1 ((va_up (M 3) c (M 3 c ^^^ 2 ^ r)) x)) 8) x))), (5, .int (nI (x)))] 0 0 Q 62 [] := by
        intro fuel
        induction fuel with
        | zero => intro x hx hlt; exact absurd hlt (Nat.not_lt_zero _)
        | succ fuel ih =>
          intro x hx hlt
          have hs1 : sm (fun x => sm (b1 ((va_up (M 3) c (M 3 c ^^^ 2 ^ r)) x)) 8) x ≤ x * 8 := sm_le (fun k _ => sm_le (n := 8) (c := 1) (fun q _ => b1_le _ _))
          have ih62 := ih
          refine z_iload C dX6_setDefective_62 rfl ?_
          refine z_aload_n C dX6_setDefective_64 rfl ?_
          refine z_get C (30) (Cn := RX6) (T := TX6) (N := 19) (fi := 0) iw_X6_setDefective_6 rfl (by decide) ln_X6_setDefective_7 (by first | decide | omega) rfl f3 rfl dX6_setDefective_65 ?_
          refine z_icmp_geN C 118 (by omega) (by omega) dX6_setDefective_68 (by decide) (fun h68 => ?_) (fun h68 => ?_)
          · have hxw : x = M 0 0 := by omega
            refine z_iload C dX6_setDefective_118 rfl ?_
            exact hend _ _ _ _ dX6_setDefective_120 (⟨by rw [hop, hxw, cntD_f hI.1 hr hc], by rw [hop]; exact ⟨gl, sz, co, lt, sp, f3, f4, f5, f11, f7, f8, f9, f10, hms.mv (hfE _ (by omega)) (hfE _ (by omega)), hn6, hgl, hrel⟩, fun k hk => hfE k (by omega)⟩)
          · refine z_iconst C (nI (0)) dX6_setDefective_71 (by decide) ?_
            refine z_istore C [(0, .ref (ad 30)), (4, .int (nI (sm (fun x => sm (b1 ((va_up (M 3) c (M 3 c ^^^ 2 ^ r)) x)) 8) x))), (5, .int (nI (x))), (6, .int (nI (0)))] dX6_setDefective_72 (by decide) ⟨rfl, rfl, rfl, rfl, rfl, rfl, rfl, rfl, trivial⟩ ?_
            have loop74 : ∀ (fuel : Nat) (i : Nat), (hi : i ≤ 8) → 8 - i < fuel → Z vp vl ve { frames := 1, cells := 0, slots := 0, locals := 22 } vs vm va vb vt vc 7 D A 40 ad Ez2 [(0, .ref (ad 30)), (4, .int (nI (sm (fun x => sm (b1 ((va_up (M 3) c (M 3 c ^^^ 2 ^ r)) x)) 8) x + sm (b1 ((va_up (M 3) c (M 3 c ^^^ 2 ^ r)) x)) i))), (5, .int (nI (x))), (6, .int (nI (i)))] 0 0 Q 74 [] := by
              intro fuel
              induction fuel with
              | zero => intro i hi hlt; exact absurd hlt (Nat.not_lt_zero _)
              | succ fuel ih =>
                intro i hi hlt
                have hs2 : sm (b1 ((va_up (M 3) c (M 3 c ^^^ 2 ^ r)) x)) i ≤ i * 1 := sm_le (fun k _ => b1_le _ _)
                have ih74 := ih
                refine z_iload C dX6_setDefective_74 rfl ?_
                refine z_bipush C (nI (8)) dX6_setDefective_76 (by decide) ?_
                refine z_icmp_geN C 112 (by omega) (by omega) dX6_setDefective_78 (by decide) (fun h78 => ?_) (fun h78 => ?_)
                · have hi8 : i = 8 := by omega
                  refine z_iincN (j := 1) C [(0, .ref (ad 30)), (4, .int (nI (sm (fun x => sm (b1 ((va_up (M 3) c (M 3 c ^^^ 2 ^ r)) x)) 8) x + sm (b1 ((va_up (M 3) c (M 3 c ^^^ 2 ^ r)) x)) i))), (5, .int (nI (x + 1))), (6, .int (nI (i)))] dX6_setDefective_112 rfl (by decide) ⟨rfl, rfl, rfl, rfl, rfl, rfl, rfl, rfl, trivial⟩ ?_
                  refine z_goto C 62 dX6_setDefective_115 (by decide) ?_
                  refine z_lv [(0, .ref (ad 30)), (4, .int (nI (sm (fun x => sm (b1 ((va_up (M 3) c (M 3 c ^^^ 2 ^ r)) x)) 8) x + sm (b1 ((va_up (M 3) c (M 3 c ^^^ 2 ^ r)) x)) i))), (5, .int (nI (x + 1)))] ⟨rfl, rfl, rfl, rfl, rfl, rfl, trivial⟩ ?_
                  have q := ih62 (x + 1) (by omega) (by omega)
                  rw [sm] at q
                  rw [hi8]
                  exact q
                · refine z_iload C dX6_setDefective_81 rfl ?_
                  refine z_aload_n C dX6_setDefective_83 rfl ?_
                  refine z_get C (30) (Cn := RX6) (T := TX6) (N := 19) (fi := 9) iw_X6_setDefective_6 rfl (by decide) ln_X6_setDefective_29 (by first | decide | omega) rfl f3 rfl dX6_setDefective_84 ?_
                  refine z_iload C dX6_setDefective_87 rfl ?_
                  refine z_ialdG C (33) (by first | decide | omega) rfl f11 (by omega) (by decide) dX6_setDefective_89 ?_
                  refine z_iload C dX6_setDefective_90 rfl ?_
                  refine z_callSF C (k_has_p vl D cI cM A ad Ez2 hX (hflip x (by omega)) (by omega)) (va_cwS 2 C.2.2.2.2.1 gX6_setDefective_X6_has rfl rfl rfl (by decide +kernel) ⟨Nat.le_of_ble_eq_true rfl, Nat.le_of_ble_eq_true rfl⟩) rfl rfl (Nat.le_of_ble_eq_true rfl) ⟨Nat.zero_le _, Nat.zero_le _⟩ dX6_setDefective_92 ?_
                  refine z_if_eqN C 102 (Nat.lt_of_le_of_lt (b1_le _ _) (by decide)) dX6_setDefective_95 (by decide) (fun h95 => ?_) (fun h95 => ?_)
                  · have hbx := b1_le ((va_up (M 3) c (M 3 c ^^^ 2 ^ r)) x) i
                    refine z_iconst C (nI (0)) dX6_setDefective_102 (by decide) ?_
                    refine z_iaddN C  dX6_setDefective_103 ?_
                    refine z_istore C [(0, .ref (ad 30)), (4, .int (nI ((sm (fun x => sm (b1 ((va_up (M 3) c (M 3 c ^^^ 2 ^ r)) x)) 8) x + sm (b1 ((va_up (M 3) c (M 3 c ^^^ 2 ^ r)) x)) i) + 0))), (5, .int (nI (x))), (6, .int (nI (i)))] dX6_setDefective_104 (by decide) ⟨rfl, rfl, rfl, rfl, rfl, rfl, rfl, rfl, trivial⟩ ?_
                    refine z_iincN (j := 1) C [(0, .ref (ad 30)), (4, .int (nI ((sm (fun x => sm (b1 ((va_up (M 3) c (M 3 c ^^^ 2 ^ r)) x)) 8) x + sm (b1 ((va_up (M 3) c (M 3 c ^^^ 2 ^ r)) x)) i) + 0))), (5, .int (nI (x))), (6, .int (nI (i + 1)))] dX6_setDefective_106 rfl (by decide) ⟨rfl, rfl, rfl, rfl, rfl, rfl, rfl, rfl, trivial⟩ ?_
                    refine z_goto C 74 dX6_setDefective_109 (by decide) ?_
                    refine z_lv [(0, .ref (ad 30)), (4, .int (nI ((sm (fun x => sm (b1 ((va_up (M 3) c (M 3 c ^^^ 2 ^ r)) x)) 8) x + sm (b1 ((va_up (M 3) c (M 3 c ^^^ 2 ^ r)) x)) i) + 0))), (5, .int (nI (x))), (6, .int (nI (i + 1)))] ⟨rfl, rfl, rfl, rfl, rfl, rfl, rfl, rfl, trivial⟩ ?_
                    have q := ih74 (i + 1) (by omega) (by omega)
                    rw [sm, ← Nat.add_assoc, show b1 ((va_up (M 3) c (M 3 c ^^^ 2 ^ r)) x) i = 0 by omega] at q
                    exact q
                  · have hbx := b1_le ((va_up (M 3) c (M 3 c ^^^ 2 ^ r)) x) i
                    refine z_iconst C (nI (1)) dX6_setDefective_98 (by decide) ?_
                    refine z_goto C 103 dX6_setDefective_99 (by decide) ?_
                    refine z_iaddN C  dX6_setDefective_103 ?_
                    refine z_istore C [(0, .ref (ad 30)), (4, .int (nI ((sm (fun x => sm (b1 ((va_up (M 3) c (M 3 c ^^^ 2 ^ r)) x)) 8) x + sm (b1 ((va_up (M 3) c (M 3 c ^^^ 2 ^ r)) x)) i) + 1))), (5, .int (nI (x))), (6, .int (nI (i)))] dX6_setDefective_104 (by decide) ⟨rfl, rfl, rfl, rfl, rfl, rfl, rfl, rfl, trivial⟩ ?_
                    refine z_iincN (j := 1) C [(0, .ref (ad 30)), (4, .int (nI ((sm (fun x => sm (b1 ((va_up (M 3) c (M 3 c ^^^ 2 ^ r)) x)) 8) x + sm (b1 ((va_up (M 3) c (M 3 c ^^^ 2 ^ r)) x)) i) + 1))), (5, .int (nI (x))), (6, .int (nI (i + 1)))] dX6_setDefective_106 rfl (by decide) ⟨rfl, rfl, rfl, rfl, rfl, rfl, rfl, rfl, trivial⟩ ?_
                    refine z_goto C 74 dX6_setDefective_109 (by decide) ?_
                    refine z_lv [(0, .ref (ad 30)), (4, .int (nI ((sm (fun x => sm (b1 ((va_up (M 3) c (M 3 c ^^^ 2 ^ r)) x)) 8) x + sm (b1 ((va_up (M 3) c (M 3 c ^^^ 2 ^ r)) x)) i) + 1))), (5, .int (nI (x))), (6, .int (nI (i + 1)))] ⟨rfl, rfl, rfl, rfl, rfl, rfl, rfl, rfl, trivial⟩ ?_
                    have q := ih74 (i + 1) (by omega) (by omega)
                    rw [sm, ← Nat.add_assoc, show b1 ((va_up (M 3) c (M 3 c ^^^ 2 ^ r)) x) i = 1 by omega] at q
                    exact q
            refine z_lv [(0, .ref (ad 30)), (4, .int (nI (sm (fun x => sm (b1 ((va_up (M 3) c (M 3 c ^^^ 2 ^ r)) x)) 8) x))), (5, .int (nI (x))), (6, .int (nI (0)))] ⟨rfl, rfl, rfl, rfl, rfl, rfl, rfl, rfl, trivial⟩ ?_
            exact loop74 (9) 0 (Nat.zero_le _) (by omega)
      refine z_lv [(0, .ref (ad 30)), (4, .int (nI (0))), (5, .int (nI (0)))] ⟨rfl, rfl, rfl, rfl, rfl, rfl, trivial⟩ ?_
      exact loop62 (M 0 0 + 1) 0 (Nat.zero_le _) (by omega)
    · refine z_bipush C (-12) dX6_setDefective_41 (by decide) ?_
      exact hend _ _ _ _ dX6_setDefective_43 (⟨by rw [hop0, if_pos (by omega)], by rw [hop0, if_pos (by omega)]; exact hR, fun _ _ => rfl⟩)
  · have hop : o_setDefective M x y z = (-11, M) := by
      unfold o_setDefective
      rcases wr_c 0 7 x (by decide) (by decide) with ⟨r, hr, rfl⟩ | hx
      · rw [wr_y hr (by decide)]; exact wn_n (by omega) (fun q => hxy ⟨⟨r, hr.2, rfl⟩, q⟩)
      · exact wr_n hx
    rcases wr_c 0 7 x (by omega) (by omega) with ⟨r, hr, rfl⟩ | hx
    · refine z_iload_n C dX6_setDefective_0 rfl ?_
      refine z_iconst C (nI (0)) dX6_setDefective_1 (by decide) ?_
      refine z_bipush C (nI (7)) dX6_setDefective_2 (by decide) ?_
      refine z_callSF C (k_X6_in vl D cI cM A ad E hX (nI (r)) (nI (0)) (nI (7))) (va_cwS 3 C.2.2.2.2.1 gX6_setDefective_X6_in rfl rfl rfl (by decide +kernel) ⟨Nat.le_of_ble_eq_true rfl, Nat.le_of_ble_eq_true rfl⟩) rfl rfl (Nat.le_of_ble_eq_true rfl) ⟨Nat.zero_le _, Nat.zero_le _⟩ dX6_setDefective_4 ?_
      refine z_top (nI (1)) (iw_yN hr (by omega)) ?_
      refine z_if_eqN C 24 (by omega) dX6_setDefective_7 (by decide) (fun h7 => (by exfalso; omega)) (fun h7 => ?_)
      refine z_iload_n C dX6_setDefective_10 rfl ?_
      refine z_iconst C (nI (0)) dX6_setDefective_11 (by decide) ?_
      refine z_aload_n C dX6_setDefective_12 rfl ?_
      refine z_get C (30) (Cn := RX6) (T := TX6) (N := 19) (fi := 0) iw_X6_setDefective_6 rfl (by decide) ln_X6_setDefective_7 (by first | decide | omega) rfl e30 rfl dX6_setDefective_13 ?_
      refine z_iconst C (nI (1)) dX6_setDefective_16 (by decide) ?_
      refine z_isubN C (by omega) dX6_setDefective_17 ?_
      refine z_callSF C (k_X6_in vl D cI cM A ad E hX (y) (nI (0)) (nI ((M 0 0) - 1))) (va_cwS 3 C.2.2.2.2.1 gX6_setDefective_X6_in rfl rfl rfl (by decide +kernel) ⟨Nat.le_of_ble_eq_true rfl, Nat.le_of_ble_eq_true rfl⟩) rfl rfl (Nat.le_of_ble_eq_true rfl) ⟨Nat.zero_le _, Nat.zero_le _⟩ dX6_setDefective_18 ?_
      refine z_top (nI (0)) (iw_n (fun q => by obtain ⟨c, h1, rfl⟩ := iw_ex (by omega) q; exact hxy ⟨⟨r, hr.2, rfl⟩, c, by omega, rfl⟩)) ?_
      refine z_if_neN C 27 (by omega) dX6_setDefective_21 (by decide) (fun h21 => (by exfalso; omega)) (fun h21 => ?_)
      refine z_bipush C (-11) dX6_setDefective_24 (by decide) ?_
      exact hend _ _ _ _ dX6_setDefective_26 (⟨by rw [hop], by rw [hop]; exact hR, fun _ _ => rfl⟩)
    · refine z_iload_n C dX6_setDefective_0 rfl ?_
      refine z_iconst C (nI (0)) dX6_setDefective_1 (by decide) ?_
      refine z_bipush C (nI (7)) dX6_setDefective_2 (by decide) ?_
      refine z_callSF C (k_X6_in vl D cI cM A ad E hX (x) (nI (0)) (nI (7))) (va_cwS 3 C.2.2.2.2.1 gX6_setDefective_X6_in rfl rfl rfl (by decide +kernel) ⟨Nat.le_of_ble_eq_true rfl, Nat.le_of_ble_eq_true rfl⟩) rfl rfl (Nat.le_of_ble_eq_true rfl) ⟨Nat.zero_le _, Nat.zero_le _⟩ dX6_setDefective_4 ?_
      refine z_top (nI (0)) (iw_n hx) ?_
      refine z_if_eqN C 24 (by omega) dX6_setDefective_7 (by decide) (fun h7 => ?_) (fun h7 => (by exfalso; omega))
      refine z_bipush C (-11) dX6_setDefective_24 (by decide) ?_
      exact hend _ _ _ _ dX6_setDefective_26 (⟨by rw [hop], by rw [hop]; exact hR, fun _ _ => rfl⟩)

theorem iw_X6_tick_6 : ∀ w ∈ wsX60, w ∈ wsX6_tick := by decide +kernel
theorem ln_X6_tick_91 : Cond.fieldLink RX6 91 "MarqueeDisplayModel" "counter" "I" ∈ wsX6_tick := by decide +kernel
theorem ln_X6_tick_16 : Cond.fieldLink RX6 16 "MarqueeDisplayModel" "speed" "I" ∈ wsX6_tick := by decide +kernel
theorem ln_X6_tick_64 : Cond.fieldLink RX6 64 "MarqueeDisplayModel" "offset" "I" ∈ wsX6_tick := by decide +kernel
set_option maxHeartbeats 4000000 in
set_option maxRecDepth 100000 in
theorem k_X6_tick (vl : Launch) (D : va_G) (cI cM : ClassId) (A : Nat → Prop) (ad : Nat → Nat) (E : Nat → va_E) (hX : XD A 40 ad) {M : St} (x : Int32) (hI : Inv M) (hR : RelM cI ad M E) : MI vl yX6_tick wsX6_tick { frames := 3, cells := 0, slots := 0, locals := 66 } D cI cM A 40 ad E [.ref (ad 30), .int (x)] (fun r E1 => r = (o_tick M x).1 ∧ RelM cI ad (o_tick M x).2 E1 ∧ ∀ k : Nat, (k < 30) → E1 k = E k) := by
  refine mi_of cX6_tick 4 (.int) RX6 (by decide) rfl rfl (Nat.le_of_ble_eq_true rfl) (fun r E1 h => rfl) ?_
  intro vp ve vs vm va vb vt vc Q C hend
  refine z_lv [(0, .ref (ad 30)), (1, .int (x))] ⟨rfl, rfl, rfl, rfl, trivial⟩ ?_
  obtain ⟨gl, sz, co, lt, sp, e30, e31, e32, e33, e34, e35, e36, e37, hms, hn6, hgl, hrel⟩ := id hR
  obtain ⟨⟨iW1, iW2⟩, iG, ⟨iS1, iS2⟩, ⟨iB1, iB2⟩, iO, iC, iT, iN, iSh, iWd, iDt, iZ, iDf, iDz, iTx, iMs⟩ := id hI.1
  have hLM := hI.1.LM_le
  have hsl := hI.1.slen
  have hww := hI.1.ws
  have hld : ∀ a, ldM M a ≤ 512 := fun a => Nat.le_trans (ldS_le _ _ _ _ _) (by omega)
  have hl4 := hld (M 0 4)
  have hsz : ∀ i, i < M 0 7 → (1 ≤ sz i ∧ sz i ≤ 12) ∧ ∀ k, k < sz i → ltr lt i k < 27 := fun i hi => by
    obtain ⟨h1, h2, h3⟩ := hrel i hi
    have h4 := iMs i hi
    rw [h1]
    exact ⟨h4.1, fun k hk => by rw [h3 k hk]; exact h4.2.2 k hk⟩
  have hLe : sL (M 1) (M 0 1) sz (ltr lt) (M 0 7) = LM M := sL_cg (fun i hi => ⟨(hrel i hi).1, fun k hk => (hrel i hi).2.2 k (by rw [← (hrel i hi).1]; exact hk)⟩)
  have hst : scols (M 1) (M 2) (M 0 1) sz co (ltr lt) (M 0 7) = stripM M := scols_cg (fun i hi => ⟨(hrel i hi).1, (hrel i hi).2.1, fun k hk => (hrel i hi).2.2 k (by rw [← (hrel i hi).1]; exact hk)⟩)
  rcases wr_c 0 9999 x (by omega) (by omega) with ⟨v, hv1, rfl⟩ | hx
  · have hop : o_tick M (nI v) = (nI (tickM M v 0 4), tickM M v) := wr_y hv1 (by decide)
    have hdv : (M 0 5 + v) / M 0 2 ≤ M 0 5 + v := Nat.div_le_self _ _
    by_cases hL0 : LM M = 0
    · have ht4 : tickM M v 0 4 = 0 := if_pos hL0
      refine z_iload_n C dX6_tick_0 rfl ?_
      refine z_iconst C (nI (0)) dX6_tick_1 (by decide) ?_
      refine z_sipush C (nI (9999)) dX6_tick_2 (by decide) ?_
      refine z_callSF C (k_X6_in vl D cI cM A ad E hX (nI (v)) (nI (0)) (nI (9999))) (va_cwS 3 C.2.2.2.2.1 gX6_tick_X6_in rfl rfl rfl (by decide +kernel) ⟨Nat.le_of_ble_eq_true rfl, Nat.le_of_ble_eq_true rfl⟩) rfl rfl (Nat.le_of_ble_eq_true rfl) ⟨Nat.zero_le _, Nat.zero_le _⟩ dX6_tick_5 ?_
      refine z_top (nI (1)) (iw_yN hv1 (by omega)) ?_
      refine z_if_neN C 14 (by omega) dX6_tick_8 (by decide) (fun h8 => ?_) (fun h8 => (by exfalso; omega))
      refine z_aload_n C dX6_tick_14 rfl ?_
      refine z_get C (30) (Cn := RX6) (T := TX6) (N := 19) (fi := 6) iw_X6_tick_6 rfl (by decide) ln_X6_tick_91 (by first | decide | omega) rfl e30 rfl dX6_tick_15 ?_
      refine z_iload_n C dX6_tick_18 rfl ?_
      refine z_iaddN C  dX6_tick_19 ?_
      refine z_aload_n C dX6_tick_20 rfl ?_
      refine z_get C (30) (Cn := RX6) (T := TX6) (N := 19) (fi := 2) iw_X6_tick_6 rfl (by decide) ln_X6_tick_16 (by first | decide | omega) rfl e30 rfl dX6_tick_21 ?_
      refine z_idivN C (by omega) (by omega) (by omega) dX6_tick_24 ?_
      refine z_istore_n C [(0, .ref (ad 30)), (1, .int (nI (v))), (2, .int (nI (((M 0 5) + v) / (M 0 2))))] dX6_tick_25 (by decide) ⟨rfl, rfl, rfl, rfl, rfl, rfl, trivial⟩ ?_
      refine z_aload_n C dX6_tick_26 rfl ?_
      refine z_aload_n C dX6_tick_27 rfl ?_
      refine z_get C (30) (Cn := RX6) (T := TX6) (N := 19) (fi := 6) iw_X6_tick_6 rfl (by decide) ln_X6_tick_91 (by first | decide | omega) rfl e30 rfl dX6_tick_28 ?_
      refine z_iload_n C dX6_tick_31 rfl ?_
      refine z_iaddN C  dX6_tick_32 ?_
      refine z_aload_n C dX6_tick_33 rfl ?_
      refine z_get C (30) (Cn := RX6) (T := TX6) (N := 19) (fi := 2) iw_X6_tick_6 rfl (by decide) ln_X6_tick_16 (by first | decide | omega) rfl e30 rfl dX6_tick_34 ?_
      refine z_iremN C (by omega) (by omega) (by omega) dX6_tick_37 ?_
      refine z_put C (30) (Cn := RX6) (T := TX6) (N := 19) (fi := 6) tyX6 iw_X6_tick_6 tyX6_ok nmX6 rfl (by decide) ln_X6_tick_91 hX (by first | decide | omega) rfl e30 rfl rfl rfl rfl (Nat.le_of_ble_eq_true rfl) dX6_tick_38 (fun Ez2 hE1 => ?_)
      have f4 : Ez2 (31) = aI cI 27 (M 1) := va_up_of hE1 (by first | decide | omega) e31
      have f5 : Ez2 (32) = aI cI 162 gl := va_up_of hE1 (by first | decide | omega) e32
      have f6 : Ez2 (33) = aI cI 32 (M 3) := va_up_of hE1 (by first | decide | omega) e33
      have f7 : Ez2 (34) = aI cI 12 (M 4) := va_up_of hE1 (by first | decide | omega) e34
      have f8 : Ez2 (35) = aI cI 6 sz := va_up_of hE1 (by first | decide | omega) e35
      have f9 : Ez2 (36) = aI cI 6 co := va_up_of hE1 (by first | decide | omega) e36
      have f10 : Ez2 (37) = aI cI 72 lt := va_up_of hE1 (by first | decide | omega) e37
      have f11 : Ez2 (30) = .inr (6, [.int (nI (M 0 0)), .int (nI (M 0 1)), .int (nI (M 0 2)), .int (shI (M 0 8)), .int (nI (M 0 3)), .int (nI (M 0 4)), .int (nI (((M 0 5) + v) % (M 0 2))), .ref (ad 31), .ref (ad 32), .ref (ad 33), .int (nI (M 0 6)), .ref (ad 34), .int (nI (M 0 7)), .ref (ad 35), .ref (ad 36), .ref (ad 37), .int (nI (sp)), .ref (ad 38), .ref (ad 39)]) := va_up_eq hE1
      have g12 : ∀ k : Nat, (k ≠ 30) → Ez2 k = E k := fun k hk => va_up_of hE1 (by omega) ((fun _ _ => rfl) k hk)
      refine z_aload_n C dX6_tick_41 rfl ?_
      refine z_callVF C (30) (Cn := RX6) (T := TX6) (N := 19) (k_X6_all vl D cI cM A ad Ez2 hX f11 f4 f8 f10 hn6 hsz hww iG) (cwV 0 C.2.2.2.2.1 gX6_tick_X6_all rfl rfl rfl (by decide +kernel) ⟨Nat.le_of_ble_eq_true rfl, Nat.le_of_ble_eq_true rfl⟩) rfl (by first | decide | omega) rfl f11 rfl rfl (Nat.le_of_ble_eq_true rfl) ⟨Nat.zero_le _, Nat.zero_le _⟩ dX6_tick_42 ?_
      refine z_top (nI (LM M)) (by rw [hLe]) ?_
      refine z_istore_n C [(0, .ref (ad 30)), (1, .int (nI (v))), (2, .int (nI (((M 0 5) + v) / (M 0 2)))), (3, .int (nI (LM M)))] dX6_tick_45 (by decide) ⟨rfl, rfl, rfl, rfl, rfl, rfl, rfl, rfl, trivial⟩ ?_
      refine z_aload_n C dX6_tick_46 rfl ?_
      refine z_iload_n C dX6_tick_47 rfl ?_
      refine z_if_neN C 55 (by omega) dX6_tick_48 (by decide) (fun h48 => (by exfalso; omega)) (fun h48 => ?_)
      refine z_iconst C (nI (0)) dX6_tick_51 (by decide) ?_
      refine z_goto C 63 dX6_tick_52 (by decide) ?_
      refine z_top (nI (tickM M v 0 4)) (by rw [ht4]) ?_
      refine z_put C (30) (Cn := RX6) (T := TX6) (N := 19) (fi := 5) tyX6 iw_X6_tick_6 tyX6_ok nmX6 rfl (by decide) ln_X6_tick_64 hX (by first | decide | omega) rfl f11 rfl rfl rfl rfl (Nat.le_of_ble_eq_true rfl) dX6_tick_63 (fun Ez14 hE13 => ?_)
      have f15 : Ez14 (31) = aI cI 27 (M 1) := va_up_of hE13 (by first | decide | omega) f4
      have f16 : Ez14 (32) = aI cI 162 gl := va_up_of hE13 (by first | decide | omega) f5
      have f17 : Ez14 (33) = aI cI 32 (M 3) := va_up_of hE13 (by first | decide | omega) f6
      have f18 : Ez14 (34) = aI cI 12 (M 4) := va_up_of hE13 (by first | decide | omega) f7
      have f19 : Ez14 (35) = aI cI 6 sz := va_up_of hE13 (by first | decide | omega) f8
      have f20 : Ez14 (36) = aI cI 6 co := va_up_of hE13 (by first | decide | omega) f9
      have f21 : Ez14 (37) = aI cI 72 lt := va_up_of hE13 (by first | decide | omega) f10
      have f23 : Ez14 (30) = .inr (6, [.int (nI (M 0 0)), .int (nI (M 0 1)), .int (nI (M 0 2)), .int (shI (M 0 8)), .int (nI (M 0 3)), .int (nI (tickM M v 0 4)), .int (nI (((M 0 5) + v) % (M 0 2))), .ref (ad 31), .ref (ad 32), .ref (ad 33), .int (nI (M 0 6)), .ref (ad 34), .int (nI (M 0 7)), .ref (ad 35), .ref (ad 36), .ref (ad 37), .int (nI (sp)), .ref (ad 38), .ref (ad 39)]) := va_up_eq hE13
      have g24 : ∀ k : Nat, (k ≠ 30) → Ez14 k = E k := fun k hk => va_up_of hE13 (by omega) (g12 k hk)
      refine z_aload_n C dX6_tick_66 rfl ?_
      refine z_get C (30) (Cn := RX6) (T := TX6) (N := 19) (fi := 5) iw_X6_tick_6 rfl (by decide) ln_X6_tick_64 (by first | decide | omega) rfl f23 rfl dX6_tick_67 ?_
      exact hend _ _ _ _ dX6_tick_70 (⟨by rw [hop], by rw [hop]; exact ⟨gl, sz, co, lt, sp, f23, f15, f16, f17, f18, f19, f20, f21, hms.mv (g24 _ (by omega)) (g24 _ (by omega)), hn6, hgl, hrel⟩, fun k hk => g24 k (by omega)⟩)
    · have ht4 : tickM M v 0 4 = (M 0 4 + (M 0 5 + v) / M 0 2) % LM M := if_neg hL0
      refine z_iload_n C dX6_tick_0 rfl ?_
      refine z_iconst C (nI (0)) dX6_tick_1 (by decide) ?_
      refine z_sipush C (nI (9999)) dX6_tick_2 (by decide) ?_
      refine z_callSF C (k_X6_in vl D cI cM A ad E hX (nI (v)) (nI (0)) (nI (9999))) (va_cwS 3 C.2.2.2.2.1 gX6_tick_X6_in rfl rfl rfl (by decide +kernel) ⟨Nat.le_of_ble_eq_true rfl, Nat.le_of_ble_eq_true rfl⟩) rfl rfl (Nat.le_of_ble_eq_true rfl) ⟨Nat.zero_le _, Nat.zero_le _⟩ dX6_tick_5 ?_
      refine z_top (nI (1)) (iw_yN hv1 (by omega)) ?_
      refine z_if_neN C 14 (by omega) dX6_tick_8 (by decide) (fun h8 => ?_) (fun h8 => (by exfalso; omega))
      refine z_aload_n C dX6_tick_14 rfl ?_
      refine z_get C (30) (Cn := RX6) (T := TX6) (N := 19) (fi := 6) iw_X6_tick_6 rfl (by decide) ln_X6_tick_91 (by first | decide | omega) rfl e30 rfl dX6_tick_15 ?_
      refine z_iload_n C dX6_tick_18 rfl ?_
      refine z_iaddN C  dX6_tick_19 ?_
      refine z_aload_n C dX6_tick_20 rfl ?_
      refine z_get C (30) (Cn := RX6) (T := TX6) (N := 19) (fi := 2) iw_X6_tick_6 rfl (by decide) ln_X6_tick_16 (by first | decide | omega) rfl e30 rfl dX6_tick_21 ?_
      refine z_idivN C (by omega) (by omega) (by omega) dX6_tick_24 ?_
      refine z_istore_n C [(0, .ref (ad 30)), (1, .int (nI (v))), (2, .int (nI (((M 0 5) + v) / (M 0 2))))] dX6_tick_25 (by decide) ⟨rfl, rfl, rfl, rfl, rfl, rfl, trivial⟩ ?_
      refine z_aload_n C dX6_tick_26 rfl ?_
      refine z_aload_n C dX6_tick_27 rfl ?_
      refine z_get C (30) (Cn := RX6) (T := TX6) (N := 19) (fi := 6) iw_X6_tick_6 rfl (by decide) ln_X6_tick_91 (by first | decide | omega) rfl e30 rfl dX6_tick_28 ?_
      refine z_iload_n C dX6_tick_31 rfl ?_
      refine z_iaddN C  dX6_tick_32 ?_
      refine z_aload_n C dX6_tick_33 rfl ?_
      refine z_get C (30) (Cn := RX6) (T := TX6) (N := 19) (fi := 2) iw_X6_tick_6 rfl (by decide) ln_X6_tick_16 (by first | decide | omega) rfl e30 rfl dX6_tick_34 ?_
      refine z_iremN C (by omega) (by omega) (by omega) dX6_tick_37 ?_
      refine z_put C (30) (Cn := RX6) (T := TX6) (N := 19) (fi := 6) tyX6 iw_X6_tick_6 tyX6_ok nmX6 rfl (by decide) ln_X6_tick_91 hX (by first | decide | omega) rfl e30 rfl rfl rfl rfl (Nat.le_of_ble_eq_true rfl) dX6_tick_38 (fun Ez26 hE25 => ?_)
      have f28 : Ez26 (31) = aI cI 27 (M 1) := va_up_of hE25 (by first | decide | omega) e31
      have f29 : Ez26 (32) = aI cI 162 gl := va_up_of hE25 (by first | decide | omega) e32
      have f30 : Ez26 (33) = aI cI 32 (M 3) := va_up_of hE25 (by first | decide | omega) e33
      have f31 : Ez26 (34) = aI cI 12 (M 4) := va_up_of hE25 (by first | decide | omega) e34
      have f32 : Ez26 (35) = aI cI 6 sz := va_up_of hE25 (by first | decide | omega) e35
      have f33 : Ez26 (36) = aI cI 6 co := va_up_of hE25 (by first | decide | omega) e36
      have f34 : Ez26 (37) = aI cI 72 lt := va_up_of hE25 (by first | decide | omega) e37
      have f35 : Ez26 (30) = .inr (6, [.int (nI (M 0 0)), .int (nI (M 0 1)), .int (nI (M 0 2)), .int (shI (M 0 8)), .int (nI (M 0 3)), .int (nI (M 0 4)), .int (nI (((M 0 5) + v) % (M 0 2))), .ref (ad 31), .ref (ad 32), .ref (ad 33), .int (nI (M 0 6)), .ref (ad 34), .int (nI (M 0 7)), .ref (ad 35), .ref (ad 36), .ref (ad 37), .int (nI (sp)), .ref (ad 38), .ref (ad 39)]) := va_up_eq hE25
      have g36 : ∀ k : Nat, (k ≠ 30) → Ez26 k = E k := fun k hk => va_up_of hE25 (by omega) ((fun _ _ => rfl) k hk)
      refine z_aload_n C dX6_tick_41 rfl ?_
      refine z_callVF C (30) (Cn := RX6) (T := TX6) (N := 19) (k_X6_all vl D cI cM A ad Ez26 hX f35 f28 f32 f34 hn6 hsz hww iG) (cwV 0 C.2.2.2.2.1 gX6_tick_X6_all rfl rfl rfl (by decide +kernel) ⟨Nat.le_of_ble_eq_true rfl, Nat.le_of_ble_eq_true rfl⟩) rfl (by first | decide | omega) rfl f35 rfl rfl (Nat.le_of_ble_eq_true rfl) ⟨Nat.zero_le _, Nat.zero_le _⟩ dX6_tick_42 ?_
      refine z_top (nI (LM M)) (by rw [hLe]) ?_
      refine z_istore_n C [(0, .ref (ad 30)), (1, .int (nI (v))), (2, .int (nI (((M 0 5) + v) / (M 0 2)))), (3, .int (nI (LM M)))] dX6_tick_45 (by decide) ⟨rfl, rfl, rfl, rfl, rfl, rfl, rfl, rfl, trivial⟩ ?_
      refine z_aload_n C dX6_tick_46 rfl ?_
      refine z_iload_n C dX6_tick_47 rfl ?_
      refine z_if_neN C 55 (by omega) dX6_tick_48 (by decide) (fun h48 => ?_) (fun h48 => (by exfalso; omega))
      refine z_aload_n C dX6_tick_55 rfl ?_
      refine z_get C (30) (Cn := RX6) (T := TX6) (N := 19) (fi := 5) iw_X6_tick_6 rfl (by decide) ln_X6_tick_64 (by first | decide | omega) rfl f35 rfl dX6_tick_56 ?_
      refine z_iload_n C dX6_tick_59 rfl ?_
      refine z_iaddN C  dX6_tick_60 ?_
      refine z_iload_n C dX6_tick_61 rfl ?_
      refine z_iremN C (by omega) (by omega) (by omega) dX6_tick_62 ?_
      refine z_top (nI (tickM M v 0 4)) (by rw [ht4]) ?_
      refine z_put C (30) (Cn := RX6) (T := TX6) (N := 19) (fi := 5) tyX6 iw_X6_tick_6 tyX6_ok nmX6 rfl (by decide) ln_X6_tick_64 hX (by first | decide | omega) rfl f35 rfl rfl rfl rfl (Nat.le_of_ble_eq_true rfl) dX6_tick_63 (fun Ez38 hE37 => ?_)
      have f39 : Ez38 (31) = aI cI 27 (M 1) := va_up_of hE37 (by first | decide | omega) f28
      have f40 : Ez38 (32) = aI cI 162 gl := va_up_of hE37 (by first | decide | omega) f29
      have f41 : Ez38 (33) = aI cI 32 (M 3) := va_up_of hE37 (by first | decide | omega) f30
      have f42 : Ez38 (34) = aI cI 12 (M 4) := va_up_of hE37 (by first | decide | omega) f31
      have f43 : Ez38 (35) = aI cI 6 sz := va_up_of hE37 (by first | decide | omega) f32
      have f44 : Ez38 (36) = aI cI 6 co := va_up_of hE37 (by first | decide | omega) f33
      have f45 : Ez38 (37) = aI cI 72 lt := va_up_of hE37 (by first | decide | omega) f34
      have f47 : Ez38 (30) = .inr (6, [.int (nI (M 0 0)), .int (nI (M 0 1)), .int (nI (M 0 2)), .int (shI (M 0 8)), .int (nI (M 0 3)), .int (nI (tickM M v 0 4)), .int (nI (((M 0 5) + v) % (M 0 2))), .ref (ad 31), .ref (ad 32), .ref (ad 33), .int (nI (M 0 6)), .ref (ad 34), .int (nI (M 0 7)), .ref (ad 35), .ref (ad 36), .ref (ad 37), .int (nI (sp)), .ref (ad 38), .ref (ad 39)]) := va_up_eq hE37
      have g48 : ∀ k : Nat, (k ≠ 30) → Ez38 k = E k := fun k hk => va_up_of hE37 (by omega) (g36 k hk)
      refine z_aload_n C dX6_tick_66 rfl ?_
      refine z_get C (30) (Cn := RX6) (T := TX6) (N := 19) (fi := 5) iw_X6_tick_6 rfl (by decide) ln_X6_tick_64 (by first | decide | omega) rfl f47 rfl dX6_tick_67 ?_
      exact hend _ _ _ _ dX6_tick_70 (⟨by rw [hop], by rw [hop]; exact ⟨gl, sz, co, lt, sp, f47, f39, f40, f41, f42, f43, f44, f45, hms.mv (g48 _ (by omega)) (g48 _ (by omega)), hn6, hgl, hrel⟩, fun k hk => g48 k (by omega)⟩)
  · have hop : o_tick M x = (-11, M) := wr_n hx
    refine z_iload_n C dX6_tick_0 rfl ?_
    refine z_iconst C (nI (0)) dX6_tick_1 (by decide) ?_
    refine z_sipush C (nI (9999)) dX6_tick_2 (by decide) ?_
    refine z_callSF C (k_X6_in vl D cI cM A ad E hX (x) (nI (0)) (nI (9999))) (va_cwS 3 C.2.2.2.2.1 gX6_tick_X6_in rfl rfl rfl (by decide +kernel) ⟨Nat.le_of_ble_eq_true rfl, Nat.le_of_ble_eq_true rfl⟩) rfl rfl (Nat.le_of_ble_eq_true rfl) ⟨Nat.zero_le _, Nat.zero_le _⟩ dX6_tick_5 ?_
    refine z_top (nI (0)) (iw_n hx) ?_
    refine z_if_neN C 14 (by omega) dX6_tick_8 (by decide) (fun h8 => (by exfalso; omega)) (fun h8 => ?_)
    refine z_bipush C (-11) dX6_tick_11 (by decide) ?_
    exact hend _ _ _ _ dX6_tick_13 (⟨by rw [hop], by rw [hop]; exact hR, fun _ _ => rfl⟩)

