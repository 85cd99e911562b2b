theorem iw_X6_offset_6 : ∀ w ∈ wsX60, w ∈ wsX6_offset := by decide +kernel
theorem ln_X6_offset_64 : Cond.fieldLink RX6 64 "MarqueeDisplayModel" "offset" "I" ∈ wsX6_offset := by decide +kernel
set_option maxHeartbeats 4000000 in
set_option maxRecDepth 100000 in
theorem k_X6_offset (vl : Launch) (D : va_G) (cI cM : ClassId) (A : Nat → Prop) (ad : Nat → Nat) (E : Nat → va_E) (hX : XD A 40 ad) {M : St}  (hI : Inv M) (hR : RelM cI ad M E) : MF vl yX6_offset wsX6_offset { frames := 0, cells := 0, slots := 0, locals := 0 } D cI cM A 40 ad E [.ref (ad 30)] (nI (M 0 4)) := by
  refine mf_of cX6_offset 1 (.int) RX6 (by decide) rfl rfl (Nat.le_of_ble_eq_true rfl) (rfl) ?_
  intro vp ve vs vm va vb vt vc Q C hend
  refine z_lv [(0, .ref (ad 30))] ⟨rfl, rfl, trivial⟩ ?_
  obtain ⟨gl, sz, co, lt, sp, e30, e31, e32, e33, e34, e35, e36, e37, hms, hn6, hgl, hrel⟩ := id hR
  obtain ⟨⟨iW1, iW2⟩, iG, ⟨iS1, iS2⟩, ⟨iB1, iB2⟩, iO, iC, iT, iN, iSh, iWd, iDt, iZ, iDf, iDz, iTx, iMs⟩ := id hI.1
  have hLM := hI.1.LM_le
  have hsl := hI.1.slen
  have hww := hI.1.ws
  have hld : ∀ a, ldM M a ≤ 512 := fun a => Nat.le_trans (ldS_le _ _ _ _ _) (by omega)
  have hl4 := hld (M 0 4)
  have hsz : ∀ i, i < M 0 7 → (1 ≤ sz i ∧ sz i ≤ 12) ∧ ∀ k, k < sz i → ltr lt i k < 27 := fun i hi => by
    obtain ⟨h1, h2, h3⟩ := hrel i hi
    have h4 := iMs i hi
    rw [h1]
    exact ⟨h4.1, fun k hk => by rw [h3 k hk]; exact h4.2.2 k hk⟩
  have hLe : sL (M 1) (M 0 1) sz (ltr lt) (M 0 7) = LM M := sL_cg (fun i hi => ⟨(hrel i hi).1, fun k hk => (hrel i hi).2.2 k (by rw [← (hrel i hi).1]; exact hk)⟩)
  have hst : scols (M 1) (M 2) (M 0 1) sz co (ltr lt) (M 0 7) = stripM M := scols_cg (fun i hi => ⟨(hrel i hi).1, (hrel i hi).2.1, fun k hk => (hrel i hi).2.2 k (by rw [← (hrel i hi).1]; exact hk)⟩)
  refine z_aload_n C dX6_offset_0 rfl ?_
  refine z_get C (30) (Cn := RX6) (T := TX6) (N := 19) (fi := 5) iw_X6_offset_6 rfl (by decide) ln_X6_offset_64 (by first | decide | omega) rfl e30 rfl dX6_offset_1 ?_
  exact hend _ _ _ dX6_offset_4 (rfl)

set_option maxHeartbeats 4000000 in
set_option maxRecDepth 100000 in
theorem k_X6_stripLength (vl : Launch) (D : va_G) (cI cM : ClassId) (A : Nat → Prop) (ad : Nat → Nat) (E : Nat → va_E) (hX : XD A 40 ad) {M : St}  (hI : Inv M) (hR : RelM cI ad M E) : MF vl yX6_stripLength wsX6_stripLength { frames := 3, cells := 0, slots := 0, locals := 66 } D cI cM A 40 ad E [.ref (ad 30)] (nI (LM M)) := by
  refine mf_of cX6_stripLength 1 (.int) RX6 (by decide) rfl rfl (Nat.le_of_ble_eq_true rfl) (rfl) ?_
  intro vp ve vs vm va vb vt vc Q C hend
  refine z_lv [(0, .ref (ad 30))] ⟨rfl, rfl, trivial⟩ ?_
  obtain ⟨gl, sz, co, lt, sp, e30, e31, e32, e33, e34, e35, e36, e37, hms, hn6, hgl, hrel⟩ := id hR
  obtain ⟨⟨iW1, iW2⟩, iG, ⟨iS1, iS2⟩, ⟨iB1, iB2⟩, iO, iC, iT, iN, iSh, iWd, iDt, iZ, iDf, iDz, iTx, iMs⟩ := id hI.1
  have hLM := hI.1.LM_le
  have hsl := hI.1.slen
  have hww := hI.1.ws
  have hld : ∀ a, ldM M a ≤ 512 := fun a => Nat.le_trans (ldS_le _ _ _ _ _) (by omega)
  have hl4 := hld (M 0 4)
  have hsz : ∀ i, i < M 0 7 → (1 ≤ sz i ∧ sz i ≤ 12) ∧ ∀ k, k < sz i → ltr lt i k < 27 := fun i hi => by
    obtain ⟨h1, h2, h3⟩ := hrel i hi
    have h4 := iMs i hi
    rw [h1]
    exact ⟨h4.1, fun k hk => by rw [h3 k hk]; exact h4.2.2 k hk⟩
  have hLe : sL (M 1) (M 0 1) sz (ltr lt) (M 0 7) = LM M := sL_cg (fun i hi => ⟨(hrel i hi).1, fun k hk => (hrel i hi).2.2 k (by rw [← (hrel i hi).1]; exact hk)⟩)
  have hst : scols (M 1) (M 2) (M 0 1) sz co (ltr lt) (M 0 7) = stripM M := scols_cg (fun i hi => ⟨(hrel i hi).1, (hrel i hi).2.1, fun k hk => (hrel i hi).2.2 k (by rw [← (hrel i hi).1]; exact hk)⟩)
  refine z_aload_n C dX6_stripLength_0 rfl ?_
  refine z_callVF C (30) (Cn := RX6) (T := TX6) (N := 19) (k_X6_all vl D cI cM A ad E hX e30 e31 e35 e37 hn6 hsz hww iG) (cwV 0 C.2.2.2.2.1 gX6_stripLength_X6_all rfl rfl rfl (by decide +kernel) ⟨Nat.le_of_ble_eq_true rfl, Nat.le_of_ble_eq_true rfl⟩) rfl (by first | decide | omega) rfl e30 rfl rfl (Nat.le_of_ble_eq_true rfl) ⟨Nat.zero_le _, Nat.zero_le _⟩ dX6_stripLength_1 ?_
  refine z_top (nI (LM M)) (by rw [hLe]) ?_
  exact hend _ _ _ dX6_stripLength_4 (rfl)

theorem iw_X6_period_6 : ∀ w ∈ wsX60, w ∈ wsX6_period := by decide +kernel
theorem ln_X6_period_16 : Cond.fieldLink RX6 16 "MarqueeDisplayModel" "speed" "I" ∈ wsX6_period := by decide +kernel
set_option maxHeartbeats 4000000 in
set_option maxRecDepth 100000 in
theorem k_X6_period (vl : Launch) (D : va_G) (cI cM : ClassId) (A : Nat → Prop) (ad : Nat → Nat) (E : Nat → va_E) (hX : XD A 40 ad) {M : St}  (hI : Inv M) (hR : RelM cI ad M E) : MF vl yX6_period wsX6_period { frames := 3, cells := 0, slots := 0, locals := 66 } D cI cM A 40 ad E [.ref (ad 30)] (nI (LM M * M 0 2)) := by
  refine mf_of cX6_period 1 (.int) RX6 (by decide) rfl rfl (Nat.le_of_ble_eq_true rfl) (rfl) ?_
  intro vp ve vs vm va vb vt vc Q C hend
  refine z_lv [(0, .ref (ad 30))] ⟨rfl, rfl, trivial⟩ ?_
  obtain ⟨gl, sz, co, lt, sp, e30, e31, e32, e33, e34, e35, e36, e37, hms, hn6, hgl, hrel⟩ := id hR
  obtain ⟨⟨iW1, iW2⟩, iG, ⟨iS1, iS2⟩, ⟨iB1, iB2⟩, iO, iC, iT, iN, iSh, iWd, iDt, iZ, iDf, iDz, iTx, iMs⟩ := id hI.1
  have hLM := hI.1.LM_le
  have hsl := hI.1.slen
  have hww := hI.1.ws
  have hld : ∀ a, ldM M a ≤ 512 := fun a => Nat.le_trans (ldS_le _ _ _ _ _) (by omega)
  have hl4 := hld (M 0 4)
  have hsz : ∀ i, i < M 0 7 → (1 ≤ sz i ∧ sz i ≤ 12) ∧ ∀ k, k < sz i → ltr lt i k < 27 := fun i hi => by
    obtain ⟨h1, h2, h3⟩ := hrel i hi
    have h4 := iMs i hi
    rw [h1]
    exact ⟨h4.1, fun k hk => by rw [h3 k hk]; exact h4.2.2 k hk⟩
  have hLe : sL (M 1) (M 0 1) sz (ltr lt) (M 0 7) = LM M := sL_cg (fun i hi => ⟨(hrel i hi).1, fun k hk => (hrel i hi).2.2 k (by rw [← (hrel i hi).1]; exact hk)⟩)
  have hst : scols (M 1) (M 2) (M 0 1) sz co (ltr lt) (M 0 7) = stripM M := scols_cg (fun i hi => ⟨(hrel i hi).1, (hrel i hi).2.1, fun k hk => (hrel i hi).2.2 k (by rw [← (hrel i hi).1]; exact hk)⟩)
  refine z_aload_n C dX6_period_0 rfl ?_
  refine z_callVF C (30) (Cn := RX6) (T := TX6) (N := 19) (k_X6_all vl D cI cM A ad E hX e30 e31 e35 e37 hn6 hsz hww iG) (cwV 0 C.2.2.2.2.1 gX6_period_X6_all rfl rfl rfl (by decide +kernel) ⟨Nat.le_of_ble_eq_true rfl, Nat.le_of_ble_eq_true rfl⟩) rfl (by first | decide | omega) rfl e30 rfl rfl (Nat.le_of_ble_eq_true rfl) ⟨Nat.zero_le _, Nat.zero_le _⟩ dX6_period_1 ?_
  refine z_top (nI (LM M)) (by rw [hLe]) ?_
  refine z_aload_n C dX6_period_4 rfl ?_
  refine z_get C (30) (Cn := RX6) (T := TX6) (N := 19) (fi := 2) iw_X6_period_6 rfl (by decide) ln_X6_period_16 (by first | decide | omega) rfl e30 rfl dX6_period_5 ?_
  refine z_imulN C  dX6_period_8 ?_
  exact hend _ _ _ dX6_period_9 (rfl)

theorem iw_X6_glyphColumn_6 : ∀ w ∈ wsX60, w ∈ wsX6_glyphColumn := by decide +kernel
theorem ln_X6_glyphColumn_22 : Cond.fieldLink RX6 22 "MarqueeDisplayModel" "width" "[I" ∈ wsX6_glyphColumn := by decide +kernel
theorem ln_X6_glyphColumn_26 : Cond.fieldLink RX6 26 "MarqueeDisplayModel" "glyph" "[I" ∈ wsX6_glyphColumn := by decide +kernel
set_option maxHeartbeats 4000000 in
set_option maxRecDepth 100000 in
theorem k_X6_glyphColumn (vl : Launch) (D : va_G) (cI cM : ClassId) (A : Nat → Prop) (ad : Nat → Nat) (E : Nat → va_E) (hX : XD A 40 ad) {M : St} (x y : Int32) (hI : Inv M) (hR : RelM cI ad M E) : MF vl yX6_glyphColumn wsX6_glyphColumn { frames := 1, cells := 0, slots := 0, locals := 22 } D cI cM A 40 ad E [.ref (ad 30), .int (x), .int (y)] (o_glyphColumn M x y) := by
  refine mf_of cX6_glyphColumn 3 (.int) RX6 (by decide) rfl rfl (Nat.le_of_ble_eq_true rfl) (rfl) ?_
  intro vp ve vs vm va vb vt vc Q C hend
  refine z_lv [(0, .ref (ad 30)), (1, .int (x)), (2, .int (y))] ⟨rfl, rfl, rfl, rfl, rfl, rfl, trivial⟩ ?_
  obtain ⟨gl, sz, co, lt, sp, e30, e31, e32, e33, e34, e35, e36, e37, hms, hn6, hgl, hrel⟩ := id hR
  obtain ⟨⟨iW1, iW2⟩, iG, ⟨iS1, iS2⟩, ⟨iB1, iB2⟩, iO, iC, iT, iN, iSh, iWd, iDt, iZ, iDf, iDz, iTx, iMs⟩ := id hI.1
  have hLM := hI.1.LM_le
  have hsl := hI.1.slen
  have hww := hI.1.ws
  have hld : ∀ a, ldM M a ≤ 512 := fun a => Nat.le_trans (ldS_le _ _ _ _ _) (by omega)
  have hl4 := hld (M 0 4)
  have hsz : ∀ i, i < M 0 7 → (1 ≤ sz i ∧ sz i ≤ 12) ∧ ∀ k, k < sz i → ltr lt i k < 27 := fun i hi => by
    obtain ⟨h1, h2, h3⟩ := hrel i hi
    have h4 := iMs i hi
    rw [h1]
    exact ⟨h4.1, fun k hk => by rw [h3 k hk]; exact h4.2.2 k hk⟩
  have hLe : sL (M 1) (M 0 1) sz (ltr lt) (M 0 7) = LM M := sL_cg (fun i hi => ⟨(hrel i hi).1, fun k hk => (hrel i hi).2.2 k (by rw [← (hrel i hi).1]; exact hk)⟩)
  have hst : scols (M 1) (M 2) (M 0 1) sz co (ltr lt) (M 0 7) = stripM M := scols_cg (fun i hi => ⟨(hrel i hi).1, (hrel i hi).2.1, fun k hk => (hrel i hi).2.2 k (by rw [← (hrel i hi).1]; exact hk)⟩)
  rcases wr_c 0 26 x (by omega) (by omega) with ⟨c, hc, rfl⟩ | hx
  · rcases wr_c 0 5 y (by omega) (by omega) with ⟨j, hj, rfl⟩ | hy
    · have hop0 : o_glyphColumn M (nI c) (nI j) = if j < M 1 c then nI (M 2 (c * 6 + j)) else -14 := (wr_y hc (by decide)).trans (wr_y hj (by decide))
      have hwc := iWd c (by omega)
      refine z_iload_n C dX6_glyphColumn_0 rfl ?_
      refine z_iconst C (nI (0)) dX6_glyphColumn_1 (by decide) ?_
      refine z_bipush C (nI (26)) dX6_glyphColumn_2 (by decide) ?_
      refine z_callSF C (k_X6_in vl D cI cM A ad E hX (nI (c)) (nI (0)) (nI (26))) (va_cwS 3 C.2.2.2.2.1 gX6_glyphColumn_X6_in rfl rfl rfl (by decide +kernel) ⟨Nat.le_of_ble_eq_true rfl, Nat.le_of_ble_eq_true rfl⟩) rfl rfl (Nat.le_of_ble_eq_true rfl) ⟨Nat.zero_le _, Nat.zero_le _⟩ dX6_glyphColumn_4 ?_
      refine z_top (nI (1)) (iw_yN hc (by omega)) ?_
      refine z_if_eqN C 19 (by omega) dX6_glyphColumn_7 (by decide) (fun h7 => (by exfalso; omega)) (fun h7 => ?_)
      refine z_iload_n C dX6_glyphColumn_10 rfl ?_
      refine z_iconst C (nI (0)) dX6_glyphColumn_11 (by decide) ?_
      refine z_iconst C (nI (5)) dX6_glyphColumn_12 (by decide) ?_
      refine z_callSF C (k_X6_in vl D cI cM A ad E hX (nI (j)) (nI (0)) (nI (5))) (va_cwS 3 C.2.2.2.2.1 gX6_glyphColumn_X6_in rfl rfl rfl (by decide +kernel) ⟨Nat.le_of_ble_eq_true rfl, Nat.le_of_ble_eq_true rfl⟩) rfl rfl (Nat.le_of_ble_eq_true rfl) ⟨Nat.zero_le _, Nat.zero_le _⟩ dX6_glyphColumn_13 ?_
      refine z_top (nI (1)) (iw_yN hj (by omega)) ?_
      refine z_if_neN C 22 (by omega) dX6_glyphColumn_16 (by decide) (fun h16 => ?_) (fun h16 => (by exfalso; omega))
      refine z_iload_n C dX6_glyphColumn_22 rfl ?_
      refine z_aload_n C dX6_glyphColumn_23 rfl ?_
      refine z_get C (30) (Cn := RX6) (T := TX6) (N := 19) (fi := 7) iw_X6_glyphColumn_6 rfl (by decide) ln_X6_glyphColumn_22 (by first | decide | omega) rfl e30 rfl dX6_glyphColumn_24 ?_
      refine z_iload_n C dX6_glyphColumn_27 rfl ?_
      refine z_ialdG C (31) (by first | decide | omega) rfl e31 (by omega) (by decide) dX6_glyphColumn_28 ?_
      refine z_icmp_geN C 46 (by omega) (by omega) dX6_glyphColumn_29 (by decide) (fun h29 => ?_) (fun h29 => ?_)
      · refine z_bipush C (-14) dX6_glyphColumn_46 (by decide) ?_
        exact hend _ _ _ dX6_glyphColumn_48 ((hop0.trans (if_neg (by omega))).symm)
      · refine z_aload_n C dX6_glyphColumn_32 rfl ?_
        refine z_get C (30) (Cn := RX6) (T := TX6) (N := 19) (fi := 8) iw_X6_glyphColumn_6 rfl (by decide) ln_X6_glyphColumn_26 (by first | decide | omega) rfl e30 rfl dX6_glyphColumn_33 ?_
        refine z_bipush C (nI (6)) dX6_glyphColumn_36 (by decide) ?_
        refine z_iload_n C dX6_glyphColumn_38 rfl ?_
        refine z_imulN C  dX6_glyphColumn_39 ?_
        refine z_iload_n C dX6_glyphColumn_40 rfl ?_
        refine z_iaddN C  dX6_glyphColumn_41 ?_
        refine z_ialdG C (32) (by first | decide | omega) rfl e32 (by omega) (by decide) dX6_glyphColumn_42 ?_
        refine z_goto C 48 dX6_glyphColumn_43 (by decide) ?_
        exact hend _ _ _ dX6_glyphColumn_48 (by rw [hop0, if_pos h29, hgl c (by omega) j h29])
    · have hop : o_glyphColumn M (nI c) y = -11 := (wr_y hc (by decide)).trans (wr_n hy)
      refine z_iload_n C dX6_glyphColumn_0 rfl ?_
      refine z_iconst C (nI (0)) dX6_glyphColumn_1 (by decide) ?_
      refine z_bipush C (nI (26)) dX6_glyphColumn_2 (by decide) ?_
      refine z_callSF C (k_X6_in vl D cI cM A ad E hX (nI (c)) (nI (0)) (nI (26))) (va_cwS 3 C.2.2.2.2.1 gX6_glyphColumn_X6_in rfl rfl rfl (by decide +kernel) ⟨Nat.le_of_ble_eq_true rfl, Nat.le_of_ble_eq_true rfl⟩) rfl rfl (Nat.le_of_ble_eq_true rfl) ⟨Nat.zero_le _, Nat.zero_le _⟩ dX6_glyphColumn_4 ?_
      refine z_top (nI (1)) (iw_yN hc (by omega)) ?_
      refine z_if_eqN C 19 (by omega) dX6_glyphColumn_7 (by decide) (fun h7 => (by exfalso; omega)) (fun h7 => ?_)
      refine z_iload_n C dX6_glyphColumn_10 rfl ?_
      refine z_iconst C (nI (0)) dX6_glyphColumn_11 (by decide) ?_
      refine z_iconst C (nI (5)) dX6_glyphColumn_12 (by decide) ?_
      refine z_callSF C (k_X6_in vl D cI cM A ad E hX (y) (nI (0)) (nI (5))) (va_cwS 3 C.2.2.2.2.1 gX6_glyphColumn_X6_in rfl rfl rfl (by decide +kernel) ⟨Nat.le_of_ble_eq_true rfl, Nat.le_of_ble_eq_true rfl⟩) rfl rfl (Nat.le_of_ble_eq_true rfl) ⟨Nat.zero_le _, Nat.zero_le _⟩ dX6_glyphColumn_13 ?_
      refine z_top (nI (0)) (iw_n hy) ?_
      refine z_if_neN C 22 (by omega) dX6_glyphColumn_16 (by decide) (fun h16 => (by exfalso; omega)) (fun h16 => ?_)
      refine z_bipush C (-11) dX6_glyphColumn_19 (by decide) ?_
      exact hend _ _ _ dX6_glyphColumn_21 (hop.symm)
  · have hop : o_glyphColumn M x y = -11 := wr_n hx
    refine z_iload_n C dX6_glyphColumn_0 rfl ?_
    refine z_iconst C (nI (0)) dX6_glyphColumn_1 (by decide) ?_
    refine z_bipush C (nI (26)) dX6_glyphColumn_2 (by decide) ?_
    refine z_callSF C (k_X6_in vl D cI cM A ad E hX (x) (nI (0)) (nI (26))) (va_cwS 3 C.2.2.2.2.1 gX6_glyphColumn_X6_in rfl rfl rfl (by decide +kernel) ⟨Nat.le_of_ble_eq_true rfl, Nat.le_of_ble_eq_true rfl⟩) rfl rfl (Nat.le_of_ble_eq_true rfl) ⟨Nat.zero_le _, Nat.zero_le _⟩ dX6_glyphColumn_4 ?_
    refine z_top (nI (0)) (iw_n hx) ?_
    refine z_if_eqN C 19 (by omega) dX6_glyphColumn_7 (by decide) (fun h7 => ?_) (fun h7 => (by exfalso; omega))
    refine z_bipush C (-11) dX6_glyphColumn_19 (by decide) ?_
    exact hend _ _ _ dX6_glyphColumn_21 (hop.symm)

set_option maxHeartbeats 4000000 in
set_option maxRecDepth 100000 in
theorem k_X6_messageWidth (vl : Launch) (D : va_G) (cI cM : ClassId) (A : Nat → Prop) (ad : Nat → Nat) (E : Nat → va_E) (hX : XD A 40 ad) {M : St} (x : Int32) (hI : Inv M) (hR : RelM cI ad M E) : MF vl yX6_messageWidth wsX6_messageWidth { frames := 2, cells := 0, slots := 0, locals := 43 } D cI cM A 40 ad E [.ref (ad 30), .int (x)] (o_messageWidth M x) := by
  refine mf_of cX6_messageWidth 2 (.int) RX6 (by decide) rfl rfl (Nat.le_of_ble_eq_true rfl) (rfl) ?_
  intro vp ve vs vm va vb vt vc Q C hend
  refine z_lv [(0, .ref (ad 30)), (1, .int (x))] ⟨rfl, rfl, rfl, rfl, trivial⟩ ?_
  obtain ⟨gl, sz, co, lt, sp, e30, e31, e32, e33, e34, e35, e36, e37, hms, hn6, hgl, hrel⟩ := id hR
  obtain ⟨⟨iW1, iW2⟩, iG, ⟨iS1, iS2⟩, ⟨iB1, iB2⟩, iO, iC, iT, iN, iSh, iWd, iDt, iZ, iDf, iDz, iTx, iMs⟩ := id hI.1
  have hLM := hI.1.LM_le
  have hsl := hI.1.slen
  have hww := hI.1.ws
  have hld : ∀ a, ldM M a ≤ 512 := fun a => Nat.le_trans (ldS_le _ _ _ _ _) (by omega)
  have hl4 := hld (M 0 4)
  have hsz : ∀ i, i < M 0 7 → (1 ≤ sz i ∧ sz i ≤ 12) ∧ ∀ k, k < sz i → ltr lt i k < 27 := fun i hi => by
    obtain ⟨h1, h2, h3⟩ := hrel i hi
    have h4 := iMs i hi
    rw [h1]
    exact ⟨h4.1, fun k hk => by rw [h3 k hk]; exact h4.2.2 k hk⟩
  have hLe : sL (M 1) (M 0 1) sz (ltr lt) (M 0 7) = LM M := sL_cg (fun i hi => ⟨(hrel i hi).1, fun k hk => (hrel i hi).2.2 k (by rw [← (hrel i hi).1]; exact hk)⟩)
  have hst : scols (M 1) (M 2) (M 0 1) sz co (ltr lt) (M 0 7) = stripM M := scols_cg (fun i hi => ⟨(hrel i hi).1, (hrel i hi).2.1, fun k hk => (hrel i hi).2.2 k (by rw [← (hrel i hi).1]; exact hk)⟩)
  by_cases hx : ∃ j : Nat, j < M 0 7 ∧ x = nI j
  · obtain ⟨j, hj, rfl⟩ := hx
    obtain ⟨hr1, hr2, hr3⟩ := hrel j hj
    have hsj := hsz j hj
    have hwe : mW (M 1) (ltr lt j) (sz j) = mW (M 1) (ltr (M 7) j) (M 5 j) := by rw [hr1]; exact mW_cg (fun k hk => hr3 k hk)
    have hse0 : sL (M 1) (M 0 1) sz (ltr lt) j = sL (M 1) (M 0 1) (M 5) (ltr (M 7)) j := sL_cg (fun i hi => ⟨(hrel i (by omega)).1, fun k hk => (hrel i (by omega)).2.2 k (by rw [← (hrel i (by omega)).1]; exact hk)⟩)
    have hop : o_messageWidth M (nI j) = nI (mW (M 1) (ltr (M 7) j) (M 5 j)) := wn_y hj (by omega)
    refine z_aload_n C dX6_messageWidth_0 rfl ?_
    refine z_iload_n C dX6_messageWidth_1 rfl ?_
    refine z_callVF C (30) (Cn := RX6) (T := TX6) (N := 19) (k_isMsg_y vl D cI cM A ad E hX e30 hj hn6) (cwV 1 C.2.2.2.2.1 gX6_messageWidth_X6_isMessage rfl rfl rfl (by decide +kernel) ⟨Nat.le_of_ble_eq_true rfl, Nat.le_of_ble_eq_true rfl⟩) rfl (by first | decide | omega) rfl e30 rfl rfl (Nat.le_of_ble_eq_true rfl) ⟨Nat.zero_le _, Nat.zero_le _⟩ dX6_messageWidth_2 ?_
    refine z_if_eqN C 16 (by omega) dX6_messageWidth_5 (by decide) (fun h5 => (by exfalso; omega)) (fun h5 => ?_)
    refine z_aload_n C dX6_messageWidth_8 rfl ?_
    refine z_iload_n C dX6_messageWidth_9 rfl ?_
    refine z_callVF C (30) (Cn := RX6) (T := TX6) (N := 19) (k_X6_widthOf vl D cI cM A ad E hX e30 e31 e35 e37 (by omega) hsj.1 hsj.2 hww) (cwV 1 C.2.2.2.2.1 gX6_messageWidth_X6_widthOf rfl rfl rfl (by decide +kernel) ⟨Nat.le_of_ble_eq_true rfl, Nat.le_of_ble_eq_true rfl⟩) rfl (by first | decide | omega) rfl e30 rfl rfl (Nat.le_of_ble_eq_true rfl) ⟨Nat.zero_le _, Nat.zero_le _⟩ dX6_messageWidth_10 ?_
    refine z_top (nI (mW (M 1) (ltr (M 7) j) (M 5 j))) (by rw [hwe]) ?_
    refine z_goto C 18 dX6_messageWidth_13 (by decide) ?_
    exact hend _ _ _ dX6_messageWidth_18 (hop.symm)
  · have hop : o_messageWidth M x = -11 := wn_n (by omega) hx
    refine z_aload_n C dX6_messageWidth_0 rfl ?_
    refine z_iload_n C dX6_messageWidth_1 rfl ?_
    refine z_callVF C (30) (Cn := RX6) (T := TX6) (N := 19) (k_isMsg_n vl D cI cM A ad E hX e30 hx hn6) (cwV 1 C.2.2.2.2.1 gX6_messageWidth_X6_isMessage rfl rfl rfl (by decide +kernel) ⟨Nat.le_of_ble_eq_true rfl, Nat.le_of_ble_eq_true rfl⟩) rfl (by first | decide | omega) rfl e30 rfl rfl (Nat.le_of_ble_eq_true rfl) ⟨Nat.zero_le _, Nat.zero_le _⟩ dX6_messageWidth_2 ?_
    refine z_if_eqN C 16 (by omega) dX6_messageWidth_5 (by decide) (fun h5 => ?_) (fun h5 => (by exfalso; omega))
    refine z_bipush C (-11) dX6_messageWidth_16 (by decide) ?_
    exact hend _ _ _ dX6_messageWidth_18 (hop.symm)

set_option maxHeartbeats 4000000 in
set_option maxRecDepth 100000 in
theorem k_X6_messageStart (vl : Launch) (D : va_G) (cI cM : ClassId) (A : Nat → Prop) (ad : Nat → Nat) (E : Nat → va_E) (hX : XD A 40 ad) {M : St} (x : Int32) (hI : Inv M) (hR : RelM cI ad M E) : MF vl yX6_messageStart wsX6_messageStart { frames := 2, cells := 0, slots := 0, locals := 46 } D cI cM A 40 ad E [.ref (ad 30), .int (x)] (o_messageStart M x) := by
  refine mf_of cX6_messageStart 2 (.int) RX6 (by decide) rfl rfl (Nat.le_of_ble_eq_true rfl) (rfl) ?_
  intro vp ve vs vm va vb vt vc Q C hend
  refine z_lv [(0, .ref (ad 30)), (1, .int (x))] ⟨rfl, rfl, rfl, rfl, trivial⟩ ?_
  obtain ⟨gl, sz, co, lt, sp, e30, e31, e32, e33, e34, e35, e36, e37, hms, hn6, hgl, hrel⟩ := id hR
  obtain ⟨⟨iW1, iW2⟩, iG, ⟨iS1, iS2⟩, ⟨iB1, iB2⟩, iO, iC, iT, iN, iSh, iWd, iDt, iZ, iDf, iDz, iTx, iMs⟩ := id hI.1
  have hLM := hI.1.LM_le
  have hsl := hI.1.slen
  have hww := hI.1.ws
  have hld : ∀ a, ldM M a ≤ 512 := fun a => Nat.le_trans (ldS_le _ _ _ _ _) (by omega)
  have hl4 := hld (M 0 4)
  have hsz : ∀ i, i < M 0 7 → (1 ≤ sz i ∧ sz i ≤ 12) ∧ ∀ k, k < sz i → ltr lt i k < 27 := fun i hi => by
    obtain ⟨h1, h2, h3⟩ := hrel i hi
    have h4 := iMs i hi
    rw [h1]
    exact ⟨h4.1, fun k hk => by rw [h3 k hk]; exact h4.2.2 k hk⟩
  have hLe : sL (M 1) (M 0 1) sz (ltr lt) (M 0 7) = LM M := sL_cg (fun i hi => ⟨(hrel i hi).1, fun k hk => (hrel i hi).2.2 k (by rw [← (hrel i hi).1]; exact hk)⟩)
  have hst : scols (M 1) (M 2) (M 0 1) sz co (ltr lt) (M 0 7) = stripM M := scols_cg (fun i hi => ⟨(hrel i hi).1, (hrel i hi).2.1, fun k hk => (hrel i hi).2.2 k (by rw [← (hrel i hi).1]; exact hk)⟩)
  by_cases hx : ∃ j : Nat, j < M 0 7 ∧ x = nI j
  · obtain ⟨j, hj, rfl⟩ := hx
    obtain ⟨hr1, hr2, hr3⟩ := hrel j hj
    have hsj := hsz j hj
    have hwe : mW (M 1) (ltr lt j) (sz j) = mW (M 1) (ltr (M 7) j) (M 5 j) := by rw [hr1]; exact mW_cg (fun k hk => hr3 k hk)
    have hse0 : sL (M 1) (M 0 1) sz (ltr lt) j = sL (M 1) (M 0 1) (M 5) (ltr (M 7)) j := sL_cg (fun i hi => ⟨(hrel i (by omega)).1, fun k hk => (hrel i (by omega)).2.2 k (by rw [← (hrel i (by omega)).1]; exact hk)⟩)
    have hop : o_messageStart M (nI j) = nI (sL (M 1) (M 0 1) (M 5) (ltr (M 7)) j) := wn_y hj (by omega)
    refine z_aload_n C dX6_messageStart_0 rfl ?_
    refine z_iload_n C dX6_messageStart_1 rfl ?_
    refine z_callVF C (30) (Cn := RX6) (T := TX6) (N := 19) (k_isMsg_y vl D cI cM A ad E hX e30 hj hn6) (cwV 1 C.2.2.2.2.1 gX6_messageStart_X6_isMessage rfl rfl rfl (by decide +kernel) ⟨Nat.le_of_ble_eq_true rfl, Nat.le_of_ble_eq_true rfl⟩) rfl (by first | decide | omega) rfl e30 rfl rfl (Nat.le_of_ble_eq_true rfl) ⟨Nat.zero_le _, Nat.zero_le _⟩ dX6_messageStart_2 ?_
    refine z_if_eqN C 16 (by omega) dX6_messageStart_5 (by decide) (fun h5 => (by exfalso; omega)) (fun h5 => ?_)
    refine z_aload_n C dX6_messageStart_8 rfl ?_
    refine z_iload_n C dX6_messageStart_9 rfl ?_
    refine z_callVF C (30) (Cn := RX6) (T := TX6) (N := 19) (k_X6_startOf vl D cI cM A ad E hX e30 e31 e35 e37 hn6 hsz hww iG (by omega)) (cwV 1 C.2.2.2.2.1 gX6_messageStart_X6_startOf rfl rfl rfl (by decide +kernel) ⟨Nat.le_of_ble_eq_true rfl, Nat.le_of_ble_eq_true rfl⟩) rfl (by first | decide | omega) rfl e30 rfl rfl (Nat.le_of_ble_eq_true rfl) ⟨Nat.zero_le _, Nat.zero_le _⟩ dX6_messageStart_10 ?_
    refine z_top (nI (sL (M 1) (M 0 1) (M 5) (ltr (M 7)) j)) (by rw [hse0]) ?_
    refine z_goto C 18 dX6_messageStart_13 (by decide) ?_
    exact hend _ _ _ dX6_messageStart_18 (hop.symm)
  · have hop : o_messageStart M x = -11 := wn_n (by omega) hx
    refine z_aload_n C dX6_messageStart_0 rfl ?_
    refine z_iload_n C dX6_messageStart_1 rfl ?_
    refine z_callVF C (30) (Cn := RX6) (T := TX6) (N := 19) (k_isMsg_n vl D cI cM A ad E hX e30 hx hn6) (cwV 1 C.2.2.2.2.1 gX6_messageStart_X6_isMessage rfl rfl rfl (by decide +kernel) ⟨Nat.le_of_ble_eq_true rfl, Nat.le_of_ble_eq_true rfl⟩) rfl (by first | decide | omega) rfl e30 rfl rfl (Nat.le_of_ble_eq_true rfl) ⟨Nat.zero_le _, Nat.zero_le _⟩ dX6_messageStart_2 ?_
    refine z_if_eqN C 16 (by omega) dX6_messageStart_5 (by decide) (fun h5 => ?_) (fun h5 => (by exfalso; omega))
    refine z_bipush C (-11) dX6_messageStart_16 (by decide) ?_
    exact hend _ _ _ dX6_messageStart_18 (hop.symm)

theorem tw_iff {L off s y : Nat} (hL : 0 < L) (ho : off < L) (hs : s < L) : (off + y) % L = s ↔ y % L = (s + L - off) % L := by
  have h1 : (off + y) % L = (off + y % L) % L := by rw [Nat.add_mod, Nat.mod_eq_of_lt ho]
  have hy := Nat.mod_lt y hL
  rw [h1]
  generalize y % L = z at hy ⊢
  by_cases h2 : off + z < L
  · rw [Nat.mod_eq_of_lt h2]
    by_cases h3 : off ≤ s
    · rw [show s + L - off = (s - off) + L by omega, Nat.add_mod_right, Nat.mod_eq_of_lt (by omega)]; omega
    · rw [Nat.mod_eq_of_lt (show s + L - off < L by omega)]; omega
  · rw [Nat.mod_eq_sub_mod (by omega), Nat.mod_eq_of_lt (by omega)]
    by_cases h3 : off ≤ s
    · rw [show s + L - off = (s - off) + L by omega, Nat.add_mod_right, Nat.mod_eq_of_lt (by omega)]; omega
    · rw [Nat.mod_eq_of_lt (show s + L - off < L by omega)]; omega
/-- the first move at which some place fits is the class's formula -/
theorem tw_found {L off s F mv x : Nat} (hL : 0 < L) (ho : off < L) (hs : s < L) (hx : x ≤ F) (hm : mv < L) (hf : (off + mv + x) % L = s) (hno : ∀ m2, m2 < mv → ∀ x2, x2 ≤ F → (off + m2 + x2) % L ≠ s) : if (s + L - off) % L ≤ F then mv = 0 else mv = (s + L - off) % L - F := by
  have hp := Nat.mod_lt (s + L - off) hL
  rw [Nat.add_assoc, tw_iff hL ho hs] at hf
  have hno2 : ∀ m2, m2 < mv → ∀ x2, x2 ≤ F → (m2 + x2) % L ≠ (s + L - off) % L := fun m2 h2 x2 h3 q => hno m2 h2 x2 h3 (by rw [Nat.add_assoc, tw_iff hL ho hs]; exact q)
  generalize (s + L - off) % L = P at *
  by_cases h : P ≤ F
  · rw [if_pos h]
    rcases Nat.eq_zero_or_pos mv with e | e
    · exact e
    · exact absurd (by rw [Nat.zero_add]; exact Nat.mod_eq_of_lt hp) (hno2 0 e P h)
  · rw [if_neg h]
    rcases Nat.lt_trichotomy mv (P - F) with e | e | e
    · have : mv + x < L := by omega
      rw [Nat.mod_eq_of_lt this] at hf
      omega
    · exact e
    · exact absurd (by rw [show P - F + F = P by omega]; exact Nat.mod_eq_of_lt hp) (hno2 (P - F) e F (Nat.le_refl _))
theorem tw_none {L off s F : Nat} (hL : 0 < L) (ho : off < L) (hs : s < L) (hno : ∀ m2, m2 < L → ∀ x2, x2 ≤ F → (off + m2 + x2) % L ≠ s) : False := by
  have hp := Nat.mod_lt (s + L - off) hL
  refine hno ((s + L - off) % L) hp 0 (Nat.zero_le _) ?_
  rw [Nat.add_assoc, tw_iff hL ho hs, Nat.add_zero, Nat.mod_mod]
theorem tw_cnt {mv S cnt : Nat} (h : cnt < S) (hm : 0 < mv) : cnt ≤ mv * S := Nat.le_trans (Nat.le_of_lt h) (Nat.le_mul_of_pos_left _ hm)
theorem tw_1 {v : Int32} {W w P S cnt mv : Nat} (hop : v = if W < w then -14 else if P ≤ W - w then nI 0 else nI ((P - (W - w)) * S - cnt)) (hw : ¬ W < w) (h : if P ≤ W - w then mv = 0 else mv = P - (W - w)) (h0 : ¬ mv = 0) : nI (mv * S - cnt) = v := by
  rw [hop, if_neg hw]
  by_cases e : P ≤ W - w
  · rw [if_pos e] at h; exact absurd h h0
  · rw [if_neg e] at h ⊢; rw [h]
theorem tw_2 {v : Int32} {W w P S cnt mv : Nat} (hop : v = if W < w then -14 else if P ≤ W - w then nI 0 else nI ((P - (W - w)) * S - cnt)) (hw : ¬ W < w) (h : if P ≤ W - w then mv = 0 else mv = P - (W - w)) (h0 : mv = 0) : nI 0 = v := by
  rw [hop, if_neg hw]
  by_cases e : P ≤ W - w
  · rw [if_pos e]
  · rw [if_neg e] at h; omega
theorem iw_X6_ticksUntilWhole_6 : ∀ w ∈ wsX60, w ∈ wsX6_ticksUntilWhole := by decide +kernel
theorem ln_X6_ticksUntilWhole_7 : Cond.fieldLink RX6 7 "MarqueeDisplayModel" "columns" "I" ∈ wsX6_ticksUntilWhole := by decide +kernel
theorem ln_X6_ticksUntilWhole_64 : Cond.fieldLink RX6 64 "MarqueeDisplayModel" "offset" "I" ∈ wsX6_ticksUntilWhole := by decide +kernel
theorem ln_X6_ticksUntilWhole_16 : Cond.fieldLink RX6 16 "MarqueeDisplayModel" "speed" "I" ∈ wsX6_ticksUntilWhole := by decide +kernel
theorem ln_X6_ticksUntilWhole_91 : Cond.fieldLink RX6 91 "MarqueeDisplayModel" "counter" "I" ∈ wsX6_ticksUntilWhole := by decide +kernel
set_option maxHeartbeats 4000000 in
set_option maxRecDepth 100000 in
theorem k_X6_ticksUntilWhole (vl : Launch) (D : va_G) (cI cM : ClassId) (A : Nat → Prop) (ad : Nat → Nat) (E : Nat → va_E) (hX : XD A 40 ad) {M : St} (x : Int32) (hI : Inv M) (hR : RelM cI ad M E) : MF vl yX6_ticksUntilWhole wsX6_ticksUntilWhole { frames := 3, cells := 0, slots := 0, locals := 66 } D cI cM A 40 ad E [.ref (ad 30), .int (x)] (o_ticksUntilWhole M x) := by
  refine mf_of cX6_ticksUntilWhole 7 (.int) RX6 (by decide) rfl rfl (Nat.le_of_ble_eq_true rfl) (rfl) ?_
  intro vp ve vs vm va vb vt vc Q C hend
  refine z_lv [(0, .ref (ad 30)), (1, .int (x))] ⟨rfl, rfl, rfl, rfl, trivial⟩ ?_
  obtain ⟨gl, sz, co, lt, sp, e30, e31, e32, e33, e34, e35, e36, e37, hms, hn6, hgl, hrel⟩ := id hR
  obtain ⟨⟨iW1, iW2⟩, iG, ⟨iS1, iS2⟩, ⟨iB1, iB2⟩, iO, iC, iT, iN, iSh, iWd, iDt, iZ, iDf, iDz, iTx, iMs⟩ := id hI.1
  have hLM := hI.1.LM_le
  have hsl := hI.1.slen
  have hww := hI.1.ws
  have hld : ∀ a, ldM M a ≤ 512 := fun a => Nat.le_trans (ldS_le _ _ _ _ _) (by omega)
  have hl4 := hld (M 0 4)
  have hsz : ∀ i, i < M 0 7 → (1 ≤ sz i ∧ sz i ≤ 12) ∧ ∀ k, k < sz i → ltr lt i k < 27 := fun i hi => by
    obtain ⟨h1, h2, h3⟩ := hrel i hi
    have h4 := iMs i hi
    rw [h1]
    exact ⟨h4.1, fun k hk => by rw [h3 k hk]; exact h4.2.2 k hk⟩
  have hLe : sL (M 1) (M 0 1) sz (ltr lt) (M 0 7) = LM M := sL_cg (fun i hi => ⟨(hrel i hi).1, fun k hk => (hrel i hi).2.2 k (by rw [← (hrel i hi).1]; exact hk)⟩)
  have hst : scols (M 1) (M 2) (M 0 1) sz co (ltr lt) (M 0 7) = stripM M := scols_cg (fun i hi => ⟨(hrel i hi).1, (hrel i hi).2.1, fun k hk => (hrel i hi).2.2 k (by rw [← (hrel i hi).1]; exact hk)⟩)
  by_cases hx : ∃ j : Nat, j < M 0 7 ∧ x = nI j
  · obtain ⟨j, hj, rfl⟩ := hx
    obtain ⟨hr1, hr2, hr3⟩ := hrel j hj
    have hsj := hsz j hj
    have hwe : mW (M 1) (ltr lt j) (sz j) = mW (M 1) (ltr (M 7) j) (M 5 j) := by rw [hr1]; exact mW_cg (fun k hk => hr3 k hk)
    have hse0 : sL (M 1) (M 0 1) sz (ltr lt) j = sL (M 1) (M 0 1) (M 5) (ltr (M 7)) j := sL_cg (fun i hi => ⟨(hrel i (by omega)).1, fun k hk => (hrel i (by omega)).2.2 k (by rw [← (hrel i (by omega)).1]; exact hk)⟩)
    have hop0 : o_ticksUntilWhole M (nI j) = if M 0 0 < mW (M 1) (ltr (M 7) j) (M 5 j) then -14 else if plc M j ≤ M 0 0 - mW (M 1) (ltr (M 7) j) (M 5 j) then nI 0 else nI ((plc M j - (M 0 0 - mW (M 1) (ltr (M 7) j) (M 5 j))) * M 0 2 - M 0 5) := wn_y hj (by omega)
    have hse := sL_end hj
    have hmj := iMs j hj
    have hmp : 1 ≤ mW (M 1) (ltr (M 7) j) (M 5 j) := mW_pos (fun c hc => (iWd c hc).1) hmj.2.2 hmj.1.1
    have hol : M 0 4 < LM M := by rcases hI.2 with q | q <;> omega
    refine z_aload_n C dX6_ticksUntilWhole_0 rfl ?_
    refine z_iload_n C dX6_ticksUntilWhole_1 rfl ?_
    refine z_callVF C (30) (Cn := RX6) (T := TX6) (N := 19) (k_isMsg_y vl D cI cM A ad E hX e30 hj hn6) (cwV 1 C.2.2.2.2.1 gX6_ticksUntilWhole_X6_isMessage rfl rfl rfl (by decide +kernel) ⟨Nat.le_of_ble_eq_true rfl, Nat.le_of_ble_eq_true rfl⟩) rfl (by first | decide | omega) rfl e30 rfl rfl (Nat.le_of_ble_eq_true rfl) ⟨Nat.zero_le _, Nat.zero_le _⟩ dX6_ticksUntilWhole_2 ?_
    refine z_if_neN C 11 (by omega) dX6_ticksUntilWhole_5 (by decide) (fun h5 => ?_) (fun h5 => (by exfalso; omega))
    refine z_aload_n C dX6_ticksUntilWhole_11 rfl ?_
    refine z_iload_n C dX6_ticksUntilWhole_12 rfl ?_
    refine z_callVF C (30) (Cn := RX6) (T := TX6) (N := 19) (k_X6_widthOf vl D cI cM A ad E hX e30 e31 e35 e37 (by omega) hsj.1 hsj.2 hww) (cwV 1 C.2.2.2.2.1 gX6_ticksUntilWhole_X6_widthOf rfl rfl rfl (by decide +kernel) ⟨Nat.le_of_ble_eq_true rfl, Nat.le_of_ble_eq_true rfl⟩) rfl (by first | decide | omega) rfl e30 rfl rfl (Nat.le_of_ble_eq_true rfl) ⟨Nat.zero_le _, Nat.zero_le _⟩ dX6_ticksUntilWhole_13 ?_
    refine z_top (nI (mW (M 1) (ltr (M 7) j) (M 5 j))) (by rw [hwe]) ?_
    refine z_istore_n C [(0, .ref (ad 30)), (1, .int (nI (j))), (2, .int (nI (mW (M 1) (ltr (M 7) j) (M 5 j))))] dX6_ticksUntilWhole_16 (by decide) ⟨rfl, rfl, rfl, rfl, rfl, rfl, trivial⟩ ?_
    refine z_iload_n C dX6_ticksUntilWhole_17 rfl ?_
    refine z_aload_n C dX6_ticksUntilWhole_18 rfl ?_
    refine z_get C (30) (Cn := RX6) (T := TX6) (N := 19) (fi := 0) iw_X6_ticksUntilWhole_6 rfl (by decide) ln_X6_ticksUntilWhole_7 (by first | decide | omega) rfl e30 rfl dX6_ticksUntilWhole_19 ?_
    refine z_icmp_leN C 28 (by omega) (by omega) dX6_ticksUntilWhole_22 (by decide) (fun h22 => ?_) (fun h22 => ?_)
    · refine z_aload_n C dX6_ticksUntilWhole_28 rfl ?_
      refine z_callVF C (30) (Cn := RX6) (T := TX6) (N := 19) (k_X6_all vl D cI cM A ad E hX e30 e31 e35 e37 hn6 hsz hww iG) (cwV 0 C.2.2.2.2.1 gX6_ticksUntilWhole_X6_all rfl rfl rfl (by decide +kernel) ⟨Nat.le_of_ble_eq_true rfl, Nat.le_of_ble_eq_true rfl⟩) rfl (by first | decide | omega) rfl e30 rfl rfl (Nat.le_of_ble_eq_true rfl) ⟨Nat.zero_le _, Nat.zero_le _⟩ dX6_ticksUntilWhole_29 ?_
      refine z_top (nI (LM M)) (by rw [hLe]) ?_
      refine z_istore_n C [(0, .ref (ad 30)), (1, .int (nI (j))), (2, .int (nI (mW (M 1) (ltr (M 7) j) (M 5 j)))), (3, .int (nI (LM M)))] dX6_ticksUntilWhole_32 (by decide) ⟨rfl, rfl, rfl, rfl, rfl, rfl, rfl, rfl, trivial⟩ ?_
      refine z_aload_n C dX6_ticksUntilWhole_33 rfl ?_
      refine z_iload_n C dX6_ticksUntilWhole_34 rfl ?_
      refine z_callVF C (30) (Cn := RX6) (T := TX6) (N := 19) (k_X6_startOf vl D cI cM A ad E hX e30 e31 e35 e37 hn6 hsz hww iG (by omega)) (cwV 1 C.2.2.2.2.1 gX6_ticksUntilWhole_X6_startOf rfl rfl rfl (by decide +kernel) ⟨Nat.le_of_ble_eq_true rfl, Nat.le_of_ble_eq_true rfl⟩) rfl (by first | decide | omega) rfl e30 rfl rfl (Nat.le_of_ble_eq_true rfl) ⟨Nat.zero_le _, Nat.zero_le _⟩ dX6_ticksUntilWhole_35 ?_
      refine z_top (nI (sL (M 1) (M 0 1) (M 5) (ltr (M 7)) j)) (by rw [hse0]) ?_
      refine z_istore C [(0, .ref (ad 30)), (1, .int (nI (j))), (2, .int (nI (mW (M 1) (ltr (M 7) j) (M 5 j)))), (3, .int (nI (LM M))), (4, .int (nI (sL (M 1) (M 0 1) (M 5) (ltr (M 7)) j)))] dX6_ticksUntilWhole_38 (by decide) ⟨rfl, rfl, rfl, rfl, rfl, rfl, rfl, rfl, rfl, rfl, trivial⟩ ?_
      refine z_iconst C (nI (0)) dX6_ticksUntilWhole_40 (by decide) ?_
      refine z_istore C [(0, .ref (ad 30)), (1, .int (nI (j))), (2, .int (nI (mW (M 1) (ltr (M 7) j) (M 5 j)))), (3, .int (nI (LM M))), (4, .int (nI (sL (M 1) (M 0 1) (M 5) (ltr (M 7)) j))), (5, .int (nI (0)))] dX6_ticksUntilWhole_41 (by decide) ⟨rfl, rfl, rfl, rfl, rfl, rfl, rfl, rfl, rfl, rfl, rfl, rfl, trivial⟩ ?_
      have loop43 : ∀ (fuel : Nat) (mv : Nat), (hmv : mv ≤ LM M) → (hno1 : ∀ m2, m2 < mv → ∀ x2, x2 ≤ M 0 0 - mW (M 1) (ltr (M 7) j) (M 5 j) → (M 0 4 + m2 + x2) % LM M ≠ sL (M 1) (M 0 1) (M 5) (ltr (M 7)) j) → LM M - mv < fuel → Z vp vl ve { frames := 3, cells := 0, slots := 0, locals := 66 } vs vm va vb vt vc 7 D A 40 ad E [(0, .ref (ad 30)), (1, .int (nI (j))), (2, .int (nI (mW (M 1) (ltr (M 7) j) (M 5 j)))), (3, .int (nI (LM M))), (4, .int (nI (sL (M 1) (M 0 1) (M 5) (ltr (M 7)) j))), (5, .int (nI (mv)))] 0 0 Q 43 [] := by
        intro fuel
        induction fuel with
        | zero => intro mv hmv hno1 hlt; exact absurd hlt (Nat.not_lt_zero _)
        | succ fuel ih =>
          intro mv hmv hno1 hlt
          have ih43 := ih
          refine z_iload C dX6_ticksUntilWhole_43 rfl ?_
          refine z_iload_n C dX6_ticksUntilWhole_45 rfl ?_
          refine z_icmp_geN C 114 (by omega) (by omega) dX6_ticksUntilWhole_46 (by decide) (fun h46 => ?_) (fun h46 => ?_)
          · exfalso
            exact tw_none (L := LM M) (off := M 0 4) (s := sL (M 1) (M 0 1) (M 5) (ltr (M 7)) j) (F := M 0 0 - mW (M 1) (ltr (M 7) j) (M 5 j)) (by omega) hol (by omega) (fun m2 h2 => hno1 m2 (by omega))
          · refine z_iconst C (nI (0)) dX6_ticksUntilWhole_49 (by decide) ?_
            refine z_istore C [(0, .ref (ad 30)), (1, .int (nI (j))), (2, .int (nI (mW (M 1) (ltr (M 7) j) (M 5 j)))), (3, .int (nI (LM M))), (4, .int (nI (sL (M 1) (M 0 1) (M 5) (ltr (M 7)) j))), (5, .int (nI (mv))), (6, .int (nI (0)))] dX6_ticksUntilWhole_50 (by decide) ⟨rfl, rfl, rfl, rfl, rfl, rfl, rfl, rfl, rfl, rfl, rfl, rfl, rfl, rfl, trivial⟩ ?_
            have loop52 : ∀ (fuel : Nat) (y : Nat), (hy : y ≤ M 0 0 + 1) → (hno2 : ∀ x2, x2 < y → (M 0 4 + mv + x2) % LM M ≠ sL (M 1) (M 0 1) (M 5) (ltr (M 7)) j) → M 0 0 + 1 - y < fuel → Z vp vl ve { frames := 3, cells := 0, slots := 0, locals := 66 } vs vm va vb vt vc 7 D A 40 ad E [(0, .ref (ad 30)), (1, .int (nI (j))), (2, .int (nI (mW (M 1) (ltr (M 7) j) (M 5 j)))), (3, .int (nI (LM M))), (4, .int (nI (sL (M 1) (M 0 1) (M 5) (ltr (M 7)) j))), (5, .int (nI (mv))), (6, .int (nI (y)))] 0 0 Q 52 [] := by
              intro fuel
              induction fuel with
              | zero => intro y hy hno2 hlt; exact absurd hlt (Nat.not_lt_zero _)
              | succ fuel ih =>
                intro y hy hno2 hlt
                have ih52 := ih
                refine z_iload C dX6_ticksUntilWhole_52 rfl ?_
                refine z_iload_n C dX6_ticksUntilWhole_54 rfl ?_
                refine z_iaddN C  dX6_ticksUntilWhole_55 ?_
                refine z_aload_n C dX6_ticksUntilWhole_56 rfl ?_
                refine z_get C (30) (Cn := RX6) (T := TX6) (N := 19) (fi := 0) iw_X6_ticksUntilWhole_6 rfl (by decide) ln_X6_ticksUntilWhole_7 (by first | decide | omega) rfl e30 rfl dX6_ticksUntilWhole_57 ?_
                refine z_icmp_gtN C 108 (by omega) (by omega) dX6_ticksUntilWhole_60 (by decide) (fun h60 => ?_) (fun h60 => ?_)
                · refine z_iincN (j := 1) C [(0, .ref (ad 30)), (1, .int (nI (j))), (2, .int (nI (mW (M 1) (ltr (M 7) j) (M 5 j)))), (3, .int (nI (LM M))), (4, .int (nI (sL (M 1) (M 0 1) (M 5) (ltr (M 7)) j))), (5, .int (nI (mv + 1))), (6, .int (nI (y)))] dX6_ticksUntilWhole_108 rfl (by decide) ⟨rfl, rfl, rfl, rfl, rfl, rfl, rfl, rfl, rfl, rfl, rfl, rfl, rfl, rfl, trivial⟩ ?_
                  refine z_goto C 43 dX6_ticksUntilWhole_111 (by decide) ?_
                  refine z_lv [(0, .ref (ad 30)), (1, .int (nI (j))), (2, .int (nI (mW (M 1) (ltr (M 7) j) (M 5 j)))), (3, .int (nI (LM M))), (4, .int (nI (sL (M 1) (M 0 1) (M 5) (ltr (M 7)) j))), (5, .int (nI (mv + 1)))] ⟨rfl, rfl, rfl, rfl, rfl, rfl, rfl, rfl, rfl, rfl, rfl, rfl, trivial⟩ ?_
                  exact ih43 (mv + 1) (by omega) (fun m2 h2 x2 h3 => by by_cases e : m2 = mv; (subst e; exact hno2 x2 (by omega)); exact hno1 m2 (by omega) x2 h3) (by omega)
                · refine z_aload_n C dX6_ticksUntilWhole_63 rfl ?_
                  refine z_get C (30) (Cn := RX6) (T := TX6) (N := 19) (fi := 5) iw_X6_ticksUntilWhole_6 rfl (by decide) ln_X6_ticksUntilWhole_64 (by first | decide | omega) rfl e30 rfl dX6_ticksUntilWhole_64 ?_
                  refine z_iload C dX6_ticksUntilWhole_67 rfl ?_
                  refine z_iaddN C  dX6_ticksUntilWhole_69 ?_
                  refine z_iload C dX6_ticksUntilWhole_70 rfl ?_
                  refine z_iaddN C  dX6_ticksUntilWhole_72 ?_
                  refine z_iload_n C dX6_ticksUntilWhole_73 rfl ?_
                  refine z_iremN C (by omega) (by omega) (by omega) dX6_ticksUntilWhole_74 ?_
                  refine z_iload C dX6_ticksUntilWhole_75 rfl ?_
                  refine z_icmp_neN C 102 (Nat.lt_trans (Nat.mod_lt _ (by omega)) (by omega)) (by omega) dX6_ticksUntilWhole_77 (by decide) (fun h77 => ?_) (fun h77 => ?_)
                  · refine z_iincN (j := 1) C [(0, .ref (ad 30)), (1, .int (nI (j))), (2, .int (nI (mW (M 1) (ltr (M 7) j) (M 5 j)))), (3, .int (nI (LM M))), (4, .int (nI (sL (M 1) (M 0 1) (M 5) (ltr (M 7)) j))), (5, .int (nI (mv))), (6, .int (nI (y + 1)))] dX6_ticksUntilWhole_102 rfl (by decide) ⟨rfl, rfl, rfl, rfl, rfl, rfl, rfl, rfl, rfl, rfl, rfl, rfl, rfl, rfl, trivial⟩ ?_
                    refine z_goto C 52 dX6_ticksUntilWhole_105 (by decide) ?_
                    refine z_lv [(0, .ref (ad 30)), (1, .int (nI (j))), (2, .int (nI (mW (M 1) (ltr (M 7) j) (M 5 j)))), (3, .int (nI (LM M))), (4, .int (nI (sL (M 1) (M 0 1) (M 5) (ltr (M 7)) j))), (5, .int (nI (mv))), (6, .int (nI (y + 1)))] ⟨rfl, rfl, rfl, rfl, rfl, rfl, rfl, rfl, rfl, rfl, rfl, rfl, rfl, rfl, trivial⟩ ?_
                    exact ih52 (y + 1) (by omega) (fun x2 h2 => by by_cases e : x2 = y; (subst e; exact h77); exact hno2 x2 (by omega)) (by omega)
                  · have htw := tw_found (by omega) hol (by omega) (show y ≤ M 0 0 - mW (M 1) (ltr (M 7) j) (M 5 j) by omega) h46 h77 hno1
                    have hpl : plc M j = (sL (M 1) (M 0 1) (M 5) (ltr (M 7)) j + LM M - M 0 4) % LM M := rfl
                    rw [← hpl] at htw
                    refine z_iload C dX6_ticksUntilWhole_80 rfl ?_
                    refine z_if_neN C 89 (by omega) dX6_ticksUntilWhole_82 (by decide) (fun h82 => ?_) (fun h82 => ?_)
                    · refine z_iload C dX6_ticksUntilWhole_89 rfl ?_
                      refine z_aload_n C dX6_ticksUntilWhole_91 rfl ?_
                      refine z_get C (30) (Cn := RX6) (T := TX6) (N := 19) (fi := 2) iw_X6_ticksUntilWhole_6 rfl (by decide) ln_X6_ticksUntilWhole_16 (by first | decide | omega) rfl e30 rfl dX6_ticksUntilWhole_92 ?_
                      refine z_imulN C  dX6_ticksUntilWhole_95 ?_
                      refine z_aload_n C dX6_ticksUntilWhole_96 rfl ?_
                      refine z_get C (30) (Cn := RX6) (T := TX6) (N := 19) (fi := 6) iw_X6_ticksUntilWhole_6 rfl (by decide) ln_X6_ticksUntilWhole_91 (by first | decide | omega) rfl e30 rfl dX6_ticksUntilWhole_97 ?_
                      refine z_isubN C (tw_cnt iC (by omega)) dX6_ticksUntilWhole_100 ?_
                      exact hend _ _ _ dX6_ticksUntilWhole_101 (tw_1 hop0 (by omega) htw h82)
                    · refine z_iconst C (nI (0)) dX6_ticksUntilWhole_85 (by decide) ?_
                      refine z_goto C 101 dX6_ticksUntilWhole_86 (by decide) ?_
                      exact hend _ _ _ dX6_ticksUntilWhole_101 (tw_2 hop0 (by omega) htw h82)
            refine z_lv [(0, .ref (ad 30)), (1, .int (nI (j))), (2, .int (nI (mW (M 1) (ltr (M 7) j) (M 5 j)))), (3, .int (nI (LM M))), (4, .int (nI (sL (M 1) (M 0 1) (M 5) (ltr (M 7)) j))), (5, .int (nI (mv))), (6, .int (nI (0)))] ⟨rfl, rfl, rfl, rfl, rfl, rfl, rfl, rfl, rfl, rfl, rfl, rfl, rfl, rfl, trivial⟩ ?_
            exact loop52 (M 0 0 + 2) 0 (Nat.zero_le _) (fun x2 h => absurd h (Nat.not_lt_zero _)) (by omega)
      refine z_lv [(0, .ref (ad 30)), (1, .int (nI (j))), (2, .int (nI (mW (M 1) (ltr (M 7) j) (M 5 j)))), (3, .int (nI (LM M))), (4, .int (nI (sL (M 1) (M 0 1) (M 5) (ltr (M 7)) j))), (5, .int (nI (0)))] ⟨rfl, rfl, rfl, rfl, rfl, rfl, rfl, rfl, rfl, rfl, rfl, rfl, trivial⟩ ?_
      exact loop43 (LM M + 1) 0 (Nat.zero_le _) (fun m2 h => absurd h (Nat.not_lt_zero _)) (by omega)
    · refine z_bipush C (-14) dX6_ticksUntilWhole_25 (by decide) ?_
      exact hend _ _ _ dX6_ticksUntilWhole_27 ((hop0.trans (if_pos h22)).symm)
  · have hop : o_ticksUntilWhole M x = -11 := wn_n (by omega) hx
    refine z_aload_n C dX6_ticksUntilWhole_0 rfl ?_
    refine z_iload_n C dX6_ticksUntilWhole_1 rfl ?_
    refine z_callVF C (30) (Cn := RX6) (T := TX6) (N := 19) (k_isMsg_n vl D cI cM A ad E hX e30 hx hn6) (cwV 1 C.2.2.2.2.1 gX6_ticksUntilWhole_X6_isMessage rfl rfl rfl (by decide +kernel) ⟨Nat.le_of_ble_eq_true rfl, Nat.le_of_ble_eq_true rfl⟩) rfl (by first | decide | omega) rfl e30 rfl rfl (Nat.le_of_ble_eq_true rfl) ⟨Nat.zero_le _, Nat.zero_le _⟩ dX6_ticksUntilWhole_2 ?_
    refine z_if_neN C 11 (by omega) dX6_ticksUntilWhole_5 (by decide) (fun h5 => (by exfalso; omega)) (fun h5 => ?_)
    refine z_bipush C (-11) dX6_ticksUntilWhole_8 (by decide) ?_
    exact hend _ _ _ dX6_ticksUntilWhole_10 (hop.symm)

