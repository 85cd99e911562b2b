theorem iw_X5_offset_5 : ∀ w ∈ wsX50, w ∈ wsX5_offset := by decide +kernel
theorem ln_X5_offset_57 : Cond.fieldLink RX5 57 "MarqueeDisplay" "offset" "I" ∈ wsX5_offset := by decide +kernel
set_option maxHeartbeats 4000000 in
set_option maxRecDepth 100000 in
theorem k_X5_offset (vl : Launch) (D : va_G) (cI cM : ClassId) (A : Nat → Prop) (ad : Nat → Nat) (E : Nat → va_E) (hX : XD A 32 ad) {M : St}  (hI : Inv M) (hR : RelX cI cM ad M E) : MF vl yX5_offset wsX5_offset { frames := 0, cells := 0, slots := 0, locals := 0 } D cI cM A 32 ad E [.ref (ad 0)] (nI (M 0 4)) := by
  refine mf_of cX5_offset 1 (.int) RX5 (by decide) rfl rfl (Nat.le_of_ble_eq_true rfl) (rfl) ?_
  intro vp ve vs vm va vb vt vc Q C hend
  refine z_lv [(0, .ref (ad 0))] ⟨rfl, rfl, trivial⟩ ?_
  obtain ⟨pm, hY, hMX, hs⟩ := id hR
  obtain ⟨e0, e1, e2, e3, b4, b5, l6, l7, hpm, hn6, hMY, e29⟩ := id hY
  obtain ⟨_, _, s26, -, -, -⟩ := id hs
  rw [strip_len] at s26
  obtain ⟨⟨iW1, iW2⟩, iG, ⟨iS1, iS2⟩, ⟨iB1, iB2⟩, iO, iC, iT, iN, iSh, iWd, iDt, iZ, iDf, iDz, iTx, iMs⟩ := id hI.1
  have hLM := hI.1.LM_le
  have hsl := hI.1.slen
  have hld : ∀ a, ldM M a ≤ 512 := fun a => Nat.le_trans (ldS_le _ _ _ _ _) (by omega)
  have hl4 := hld (M 0 4)
  refine z_aload_n C dX5_offset_0 rfl ?_
  refine z_get C (0) (Cn := RX5) (T := TX5) (N := 12) (fi := 10) iw_X5_offset_5 rfl (by decide) ln_X5_offset_57 (by first | decide | omega) rfl e0 rfl dX5_offset_1 ?_
  exact hend _ _ _ dX5_offset_4 (rfl)

theorem iw_X5_stripLength_5 : ∀ w ∈ wsX50, w ∈ wsX5_stripLength := by decide +kernel
theorem ln_X5_stripLength_33 : Cond.fieldLink RX5 33 "MarqueeDisplay" "strip" "LMarqueeDisplay$Strip;" ∈ wsX5_stripLength := by decide +kernel
theorem iw_X5_stripLength_3 : ∀ w ∈ wsX30, w ∈ wsX5_stripLength := by decide +kernel
set_option maxHeartbeats 4000000 in
set_option maxRecDepth 100000 in
theorem k_X5_stripLength (vl : Launch) (D : va_G) (cI cM : ClassId) (A : Nat → Prop) (ad : Nat → Nat) (E : Nat → va_E) (hX : XD A 32 ad) {M : St}  (hI : Inv M) (hR : RelX cI cM ad M E) : MF vl yX5_stripLength wsX5_stripLength { frames := 0, cells := 0, slots := 0, locals := 0 } D cI cM A 32 ad E [.ref (ad 0)] (nI (LM M)) := by
  refine mf_of cX5_stripLength 1 (.int) RX5 (by decide) rfl rfl (Nat.le_of_ble_eq_true rfl) (rfl) ?_
  intro vp ve vs vm va vb vt vc Q C hend
  refine z_lv [(0, .ref (ad 0))] ⟨rfl, rfl, trivial⟩ ?_
  obtain ⟨pm, hY, hMX, hs⟩ := id hR
  obtain ⟨e0, e1, e2, e3, b4, b5, l6, l7, hpm, hn6, hMY, e29⟩ := id hY
  obtain ⟨_, _, s26, -, -, -⟩ := id hs
  rw [strip_len] at s26
  obtain ⟨⟨iW1, iW2⟩, iG, ⟨iS1, iS2⟩, ⟨iB1, iB2⟩, iO, iC, iT, iN, iSh, iWd, iDt, iZ, iDf, iDz, iTx, iMs⟩ := id hI.1
  have hLM := hI.1.LM_le
  have hsl := hI.1.slen
  have hld : ∀ a, ldM M a ≤ 512 := fun a => Nat.le_trans (ldS_le _ _ _ _ _) (by omega)
  have hl4 := hld (M 0 4)
  refine z_aload_n C dX5_stripLength_0 rfl ?_
  refine z_get C (0) (Cn := RX5) (T := TX5) (N := 12) (fi := 3) iw_X5_stripLength_5 rfl (by decide) ln_X5_stripLength_33 (by first | decide | omega) rfl e0 rfl dX5_stripLength_1 ?_
  refine z_getN C (26) (Cn := RX3) (T := TX3) (N := 3) (fi := 2) iw_X5_stripLength_3 rfl (by decide) nl_X5_114 (by first | decide | omega) rfl s26 rfl dX5_stripLength_4 ?_
  exact hend _ _ _ dX5_stripLength_7 (rfl)

theorem iw_X5_period_5 : ∀ w ∈ wsX50, w ∈ wsX5_period := by decide +kernel
theorem ln_X5_period_33 : Cond.fieldLink RX5 33 "MarqueeDisplay" "strip" "LMarqueeDisplay$Strip;" ∈ wsX5_period := by decide +kernel
theorem iw_X5_period_3 : ∀ w ∈ wsX30, w ∈ wsX5_period := by decide +kernel
theorem ln_X5_period_48 : Cond.fieldLink RX5 48 "MarqueeDisplay" "speed" "I" ∈ wsX5_period := by decide +kernel
set_option maxHeartbeats 4000000 in
set_option maxRecDepth 100000 in
theorem k_X5_period (vl : Launch) (D : va_G) (cI cM : ClassId) (A : Nat → Prop) (ad : Nat → Nat) (E : Nat → va_E) (hX : XD A 32 ad) {M : St}  (hI : Inv M) (hR : RelX cI cM ad M E) : MF vl yX5_period wsX5_period { frames := 0, cells := 0, slots := 0, locals := 0 } D cI cM A 32 ad E [.ref (ad 0)] (nI (LM M * M 0 2)) := by
  refine mf_of cX5_period 1 (.int) RX5 (by decide) rfl rfl (Nat.le_of_ble_eq_true rfl) (rfl) ?_
  intro vp ve vs vm va vb vt vc Q C hend
  refine z_lv [(0, .ref (ad 0))] ⟨rfl, rfl, trivial⟩ ?_
  obtain ⟨pm, hY, hMX, hs⟩ := id hR
  obtain ⟨e0, e1, e2, e3, b4, b5, l6, l7, hpm, hn6, hMY, e29⟩ := id hY
  obtain ⟨_, _, s26, -, -, -⟩ := id hs
  rw [strip_len] at s26
  obtain ⟨⟨iW1, iW2⟩, iG, ⟨iS1, iS2⟩, ⟨iB1, iB2⟩, iO, iC, iT, iN, iSh, iWd, iDt, iZ, iDf, iDz, iTx, iMs⟩ := id hI.1
  have hLM := hI.1.LM_le
  have hsl := hI.1.slen
  have hld : ∀ a, ldM M a ≤ 512 := fun a => Nat.le_trans (ldS_le _ _ _ _ _) (by omega)
  have hl4 := hld (M 0 4)
  refine z_aload_n C dX5_period_0 rfl ?_
  refine z_get C (0) (Cn := RX5) (T := TX5) (N := 12) (fi := 3) iw_X5_period_5 rfl (by decide) ln_X5_period_33 (by first | decide | omega) rfl e0 rfl dX5_period_1 ?_
  refine z_getN C (26) (Cn := RX3) (T := TX3) (N := 3) (fi := 2) iw_X5_period_3 rfl (by decide) nl_X5_114 (by first | decide | omega) rfl s26 rfl dX5_period_4 ?_
  refine z_aload_n C dX5_period_7 rfl ?_
  refine z_get C (0) (Cn := RX5) (T := TX5) (N := 12) (fi := 7) iw_X5_period_5 rfl (by decide) ln_X5_period_48 (by first | decide | omega) rfl e0 rfl dX5_period_8 ?_
  refine z_imulN C  dX5_period_11 ?_
  exact hend _ _ _ dX5_period_12 (rfl)

theorem iw_X5_load_5 : ∀ w ∈ wsX50, w ∈ wsX5_load := by decide +kernel
theorem ln_X5_load_57 : Cond.fieldLink RX5 57 "MarqueeDisplay" "offset" "I" ∈ wsX5_load := by decide +kernel
set_option maxHeartbeats 4000000 in
set_option maxRecDepth 100000 in
theorem k_X5_load (vl : Launch) (D : va_G) (cI cM : ClassId) (A : Nat → Prop) (ad : Nat → Nat) (E : Nat → va_E) (hX : XD A 32 ad) {M : St}  (hI : Inv M) (hR : RelX cI cM ad M E) : MF vl yX5_load wsX5_load { frames := 5, cells := 0, slots := 0, locals := 111 } D cI cM A 32 ad E [.ref (ad 0)] (o_load M) := by
  refine mf_of cX5_load 1 (.int) RX5 (by decide) rfl rfl (Nat.le_of_ble_eq_true rfl) (rfl) ?_
  intro vp ve vs vm va vb vt vc Q C hend
  refine z_lv [(0, .ref (ad 0))] ⟨rfl, rfl, trivial⟩ ?_
  obtain ⟨pm, hY, hMX, hs⟩ := id hR
  obtain ⟨e0, e1, e2, e3, b4, b5, l6, l7, hpm, hn6, hMY, e29⟩ := id hY
  obtain ⟨_, _, s26, -, -, -⟩ := id hs
  rw [strip_len] at s26
  obtain ⟨⟨iW1, iW2⟩, iG, ⟨iS1, iS2⟩, ⟨iB1, iB2⟩, iO, iC, iT, iN, iSh, iWd, iDt, iZ, iDf, iDz, iTx, iMs⟩ := id hI.1
  have hLM := hI.1.LM_le
  have hsl := hI.1.slen
  have hld : ∀ a, ldM M a ≤ 512 := fun a => Nat.le_trans (ldS_le _ _ _ _ _) (by omega)
  have hl4 := hld (M 0 4)
  refine z_aload_n C dX5_load_0 rfl ?_
  refine z_aload_n C dX5_load_1 rfl ?_
  refine z_get C (0) (Cn := RX5) (T := TX5) (N := 12) (fi := 10) iw_X5_load_5 rfl (by decide) ln_X5_load_57 (by first | decide | omega) rfl e0 rfl dX5_load_2 ?_
  refine z_callVF C (0) (Cn := RX5) (T := TX5) (N := 12) (k_X5_loadFrom vl D cI cM A ad E hX e0 e29 hs hsl hI.1.dot iDf hI.1.clr iSh (by omega) iW2) (cwV 1 C.2.2.2.2.1 gX5_load_X5_loadFrom rfl rfl rfl (by decide +kernel) ⟨Nat.le_of_ble_eq_true rfl, Nat.le_of_ble_eq_true rfl⟩) rfl (by first | decide | omega) rfl e0 rfl rfl (Nat.le_of_ble_eq_true rfl) ⟨Nat.zero_le _, Nat.zero_le _⟩ dX5_load_5 ?_
  exact hend _ _ _ dX5_load_8 (rfl)

theorem iw_X5_brightness_5 : ∀ w ∈ wsX50, w ∈ wsX5_brightness := by decide +kernel
theorem ln_X5_brightness_57 : Cond.fieldLink RX5 57 "MarqueeDisplay" "offset" "I" ∈ wsX5_brightness := by decide +kernel
theorem ln_X5_brightness_54 : Cond.fieldLink RX5 54 "MarqueeDisplay" "budget" "I" ∈ wsX5_brightness := by decide +kernel
set_option maxHeartbeats 4000000 in
set_option maxRecDepth 100000 in
theorem k_X5_brightness (vl : Launch) (D : va_G) (cI cM : ClassId) (A : Nat → Prop) (ad : Nat → Nat) (E : Nat → va_E) (hX : XD A 32 ad) {M : St}  (hI : Inv M) (hR : RelX cI cM ad M E) : MF vl yX5_brightness wsX5_brightness { frames := 5, cells := 0, slots := 0, locals := 111 } D cI cM A 32 ad E [.ref (ad 0)] (o_brightness M) := by
  refine mf_of cX5_brightness 2 (.int) RX5 (by decide) rfl rfl (Nat.le_of_ble_eq_true rfl) (rfl) ?_
  intro vp ve vs vm va vb vt vc Q C hend
  refine z_lv [(0, .ref (ad 0))] ⟨rfl, rfl, trivial⟩ ?_
  obtain ⟨pm, hY, hMX, hs⟩ := id hR
  obtain ⟨e0, e1, e2, e3, b4, b5, l6, l7, hpm, hn6, hMY, e29⟩ := id hY
  obtain ⟨_, _, s26, -, -, -⟩ := id hs
  rw [strip_len] at s26
  obtain ⟨⟨iW1, iW2⟩, iG, ⟨iS1, iS2⟩, ⟨iB1, iB2⟩, iO, iC, iT, iN, iSh, iWd, iDt, iZ, iDf, iDz, iTx, iMs⟩ := id hI.1
  have hLM := hI.1.LM_le
  have hsl := hI.1.slen
  have hld : ∀ a, ldM M a ≤ 512 := fun a => Nat.le_trans (ldS_le _ _ _ _ _) (by omega)
  have hl4 := hld (M 0 4)
  refine z_aload_n C dX5_brightness_0 rfl ?_
  refine z_aload_n C dX5_brightness_1 rfl ?_
  refine z_get C (0) (Cn := RX5) (T := TX5) (N := 12) (fi := 10) iw_X5_brightness_5 rfl (by decide) ln_X5_brightness_57 (by first | decide | omega) rfl e0 rfl dX5_brightness_2 ?_
  refine z_callVF C (0) (Cn := RX5) (T := TX5) (N := 12) (k_X5_loadFrom vl D cI cM A ad E hX e0 e29 hs hsl hI.1.dot iDf hI.1.clr iSh (by omega) iW2) (cwV 1 C.2.2.2.2.1 gX5_brightness_X5_loadFrom rfl rfl rfl (by decide +kernel) ⟨Nat.le_of_ble_eq_true rfl, Nat.le_of_ble_eq_true rfl⟩) rfl (by first | decide | omega) rfl e0 rfl rfl (Nat.le_of_ble_eq_true rfl) ⟨Nat.zero_le _, Nat.zero_le _⟩ dX5_brightness_5 ?_
  refine z_istore_n C [(0, .ref (ad 0)), (1, .int (nI (ldM M (M 0 4))))] dX5_brightness_8 (by decide) ⟨rfl, rfl, rfl, rfl, trivial⟩ ?_
  refine z_iload_n C dX5_brightness_9 rfl ?_
  refine z_if_leN C 21 (by omega) dX5_brightness_10 (by decide) (fun h10 => ?_) (fun h10 => ?_)
  · refine z_bipush C (nI (15)) dX5_brightness_21 (by decide) ?_
    exact hend _ _ _ dX5_brightness_23 (by unfold o_brightness; rw [if_pos (by omega)])
  · refine z_iload_n C dX5_brightness_13 rfl ?_
    refine z_aload_n C dX5_brightness_14 rfl ?_
    refine z_get C (0) (Cn := RX5) (T := TX5) (N := 12) (fi := 9) iw_X5_brightness_5 rfl (by decide) ln_X5_brightness_54 (by first | decide | omega) rfl e0 rfl dX5_brightness_15 ?_
    refine z_icmp_gtN C 24 (by omega) (by omega) dX5_brightness_18 (by decide) (fun h18 => ?_) (fun h18 => ?_)
    · refine z_bipush C (nI (15)) dX5_brightness_24 (by decide) ?_
      refine z_aload_n C dX5_brightness_26 rfl ?_
      refine z_get C (0) (Cn := RX5) (T := TX5) (N := 12) (fi := 9) iw_X5_brightness_5 rfl (by decide) ln_X5_brightness_54 (by first | decide | omega) rfl e0 rfl dX5_brightness_27 ?_
      refine z_imulN C  dX5_brightness_30 ?_
      refine z_iload_n C dX5_brightness_31 rfl ?_
      refine z_idivN C (by omega) (by omega) (by omega) dX5_brightness_32 ?_
      exact hend _ _ _ dX5_brightness_33 (by unfold o_brightness; rw [if_neg (by omega)])
    · refine z_bipush C (nI (15)) dX5_brightness_21 (by decide) ?_
      exact hend _ _ _ dX5_brightness_23 (by unfold o_brightness; rw [if_pos (by omega)])

theorem hv_lt {f : Nat → Nat} : ∀ {n : Nat}, hv f n ≤ n
  | 0 => Nat.le_refl _
  | n + 1 => by
    have h := hv_lt (f := f) (n := n)
    rw [hv]
    split
    · omega
    · split <;> omega
set_option maxHeartbeats 4000000 in
set_option maxRecDepth 100000 in
theorem k_X5_peakLoad (vl : Launch) (D : va_G) (cI cM : ClassId) (A : Nat → Prop) (ad : Nat → Nat) (E : Nat → va_E) (hX : XD A 32 ad) {M : St}  (hI : Inv M) (hR : RelX cI cM ad M E) : MF vl yX5_peakLoad wsX5_peakLoad { frames := 6, cells := 0, slots := 0, locals := 135 } D cI cM A 32 ad E [.ref (ad 0)] (o_peakLoad M) := by
  refine mf_of cX5_peakLoad 1 (.int) RX5 (by decide) rfl rfl (Nat.le_of_ble_eq_true rfl) (rfl) ?_
  intro vp ve vs vm va vb vt vc Q C hend
  refine z_lv [(0, .ref (ad 0))] ⟨rfl, rfl, trivial⟩ ?_
  obtain ⟨pm, hY, hMX, hs⟩ := id hR
  obtain ⟨e0, e1, e2, e3, b4, b5, l6, l7, hpm, hn6, hMY, e29⟩ := id hY
  obtain ⟨_, _, s26, -, -, -⟩ := id hs
  rw [strip_len] at s26
  obtain ⟨⟨iW1, iW2⟩, iG, ⟨iS1, iS2⟩, ⟨iB1, iB2⟩, iO, iC, iT, iN, iSh, iWd, iDt, iZ, iDf, iDz, iTx, iMs⟩ := id hI.1
  have hLM := hI.1.LM_le
  have hsl := hI.1.slen
  have hld : ∀ a, ldM M a ≤ 512 := fun a => Nat.le_trans (ldS_le _ _ _ _ _) (by omega)
  have hl4 := hld (M 0 4)
  refine z_aload_n C dX5_peakLoad_0 rfl ?_
  refine z_aload_n C dX5_peakLoad_1 rfl ?_
  refine z_callVF C (0) (Cn := RX5) (T := TX5) (N := 12) (k_X5_heaviestOffset vl D cI cM A ad E hX e0 e29 hs hsl hI.1.dot iDf hI.1.clr iSh iW2) (cwV 0 C.2.2.2.2.1 gX5_peakLoad_X5_heaviestOffset rfl rfl rfl (by decide +kernel) ⟨Nat.le_of_ble_eq_true rfl, Nat.le_of_ble_eq_true rfl⟩) rfl (by first | decide | omega) rfl e0 rfl rfl (Nat.le_of_ble_eq_true rfl) ⟨Nat.zero_le _, Nat.zero_le _⟩ dX5_peakLoad_2 ?_
  refine z_top (nI (hv (ldM M) (LM M))) (by rw [strip_len]; rfl) ?_
  refine z_callVF C (0) (Cn := RX5) (T := TX5) (N := 12) (k_X5_loadFrom vl D cI cM A ad E hX e0 e29 hs hsl hI.1.dot iDf hI.1.clr iSh (by have := hv_lt (f := ldM M) (n := LM M); omega) iW2) (cwV 1 C.2.2.2.2.1 gX5_peakLoad_X5_loadFrom rfl rfl rfl (by decide +kernel) ⟨Nat.le_of_ble_eq_true rfl, Nat.le_of_ble_eq_true rfl⟩) rfl (by first | decide | omega) rfl e0 rfl rfl (Nat.le_of_ble_eq_true rfl) ⟨Nat.zero_le _, Nat.zero_le _⟩ dX5_peakLoad_5 ?_
  exact hend _ _ _ dX5_peakLoad_8 (rfl)

theorem iw_X5_peakOffset_5 : ∀ w ∈ wsX50, w ∈ wsX5_peakOffset := by decide +kernel
theorem ln_X5_peakOffset_33 : Cond.fieldLink RX5 33 "MarqueeDisplay" "strip" "LMarqueeDisplay$Strip;" ∈ wsX5_peakOffset := by decide +kernel
theorem iw_X5_peakOffset_3 : ∀ w ∈ wsX30, w ∈ wsX5_peakOffset := by decide +kernel
set_option maxHeartbeats 4000000 in
set_option maxRecDepth 100000 in
theorem k_X5_peakOffset (vl : Launch) (D : va_G) (cI cM : ClassId) (A : Nat → Prop) (ad : Nat → Nat) (E : Nat → va_E) (hX : XD A 32 ad) {M : St}  (hI : Inv M) (hR : RelX cI cM ad M E) : MF vl yX5_peakOffset wsX5_peakOffset { frames := 6, cells := 0, slots := 0, locals := 135 } D cI cM A 32 ad E [.ref (ad 0)] (o_peakOffset M) := by
  refine mf_of cX5_peakOffset 1 (.int) RX5 (by decide) rfl rfl (Nat.le_of_ble_eq_true rfl) (rfl) ?_
  intro vp ve vs vm va vb vt vc Q C hend
  refine z_lv [(0, .ref (ad 0))] ⟨rfl, rfl, trivial⟩ ?_
  obtain ⟨pm, hY, hMX, hs⟩ := id hR
  obtain ⟨e0, e1, e2, e3, b4, b5, l6, l7, hpm, hn6, hMY, e29⟩ := id hY
  obtain ⟨_, _, s26, -, -, -⟩ := id hs
  rw [strip_len] at s26
  obtain ⟨⟨iW1, iW2⟩, iG, ⟨iS1, iS2⟩, ⟨iB1, iB2⟩, iO, iC, iT, iN, iSh, iWd, iDt, iZ, iDf, iDz, iTx, iMs⟩ := id hI.1
  have hLM := hI.1.LM_le
  have hsl := hI.1.slen
  have hld : ∀ a, ldM M a ≤ 512 := fun a => Nat.le_trans (ldS_le _ _ _ _ _) (by omega)
  have hl4 := hld (M 0 4)
  refine z_aload_n C dX5_peakOffset_0 rfl ?_
  refine z_get C (0) (Cn := RX5) (T := TX5) (N := 12) (fi := 3) iw_X5_peakOffset_5 rfl (by decide) ln_X5_peakOffset_33 (by first | decide | omega) rfl e0 rfl dX5_peakOffset_1 ?_
  refine z_getN C (26) (Cn := RX3) (T := TX3) (N := 3) (fi := 2) iw_X5_peakOffset_3 rfl (by decide) nl_X5_114 (by first | decide | omega) rfl s26 rfl dX5_peakOffset_4 ?_
  refine z_if_neN C 15 (by omega) dX5_peakOffset_7 (by decide) (fun h7 => ?_) (fun h7 => ?_)
  · refine z_aload_n C dX5_peakOffset_15 rfl ?_
    refine z_callVF C (0) (Cn := RX5) (T := TX5) (N := 12) (k_X5_heaviestOffset vl D cI cM A ad E hX e0 e29 hs hsl hI.1.dot iDf hI.1.clr iSh iW2) (cwV 0 C.2.2.2.2.1 gX5_peakOffset_X5_heaviestOffset rfl rfl rfl (by decide +kernel) ⟨Nat.le_of_ble_eq_true rfl, Nat.le_of_ble_eq_true rfl⟩) rfl (by first | decide | omega) rfl e0 rfl rfl (Nat.le_of_ble_eq_true rfl) ⟨Nat.zero_le _, Nat.zero_le _⟩ dX5_peakOffset_16 ?_
    refine z_top (nI (hv (ldM M) (LM M))) (by rw [strip_len]; rfl) ?_
    exact hend _ _ _ dX5_peakOffset_19 (by unfold o_peakOffset; rw [if_neg h7])
  · refine z_bipush C (-14) dX5_peakOffset_10 (by decide) ?_
    refine z_goto C 19 dX5_peakOffset_12 (by decide) ?_
    exact hend _ _ _ dX5_peakOffset_19 (by unfold o_peakOffset; rw [if_pos h7])

set_option maxHeartbeats 4000000 in
set_option maxRecDepth 100000 in
theorem k_X5_damage (vl : Launch) (D : va_G) (cI cM : ClassId) (A : Nat → Prop) (ad : Nat → Nat) (E : Nat → va_E) (hX : XD A 32 ad) {M : St} (x : Int32) (hI : Inv M) (hR : RelX cI cM ad M E) : MF vl yX5_damage wsX5_damage { frames := 4, cells := 0, slots := 0, locals := 90 } D cI cM A 32 ad E [.ref (ad 0), .int (x)] (o_damage M x) := by
  refine mf_of cX5_damage 2 (.int) RX5 (by decide) rfl rfl (Nat.le_of_ble_eq_true rfl) (rfl) ?_
  intro vp ve vs vm va vb vt vc Q C hend
  refine z_lv [(0, .ref (ad 0)), (1, .int (x))] ⟨rfl, rfl, rfl, rfl, trivial⟩ ?_
  obtain ⟨pm, hY, hMX, hs⟩ := id hR
  obtain ⟨e0, e1, e2, e3, b4, b5, l6, l7, hpm, hn6, hMY, e29⟩ := id hY
  obtain ⟨_, _, s26, -, -, -⟩ := id hs
  rw [strip_len] at s26
  obtain ⟨⟨iW1, iW2⟩, iG, ⟨iS1, iS2⟩, ⟨iB1, iB2⟩, iO, iC, iT, iN, iSh, iWd, iDt, iZ, iDf, iDz, iTx, iMs⟩ := id hI.1
  have hLM := hI.1.LM_le
  have hsl := hI.1.slen
  have hld : ∀ a, ldM M a ≤ 512 := fun a => Nat.le_trans (ldS_le _ _ _ _ _) (by omega)
  have hl4 := hld (M 0 4)
  rcases ws_c x with ⟨t1, ht1, rfl⟩ | hx
  · have hop : o_damage M (shI t1) = nI (dmM M t1) := ws_y ht1
    refine z_iload_n C dX5_damage_0 rfl ?_
    refine z_callSF C (k_X5_isShift vl D cI cM A ad E hX (shI t1)) (va_cwS 1 C.2.2.2.2.1 gX5_damage_X5_isShift rfl rfl rfl (by decide +kernel) ⟨Nat.le_of_ble_eq_true rfl, Nat.le_of_ble_eq_true rfl⟩) rfl rfl (Nat.le_of_ble_eq_true rfl) ⟨Nat.zero_le _, Nat.zero_le _⟩ dX5_damage_1 ?_
    refine z_top (nI (1)) (iw_y (shI_in t1 (by omega)).1) ?_
    refine z_if_neN C 10 (by omega) dX5_damage_4 (by decide) (fun h4 => ?_) (fun h4 => (by exfalso; omega))
    refine z_aload_n C dX5_damage_10 rfl ?_
    refine z_iload_n C dX5_damage_11 rfl ?_
    refine z_callVF C (0) (Cn := RX5) (T := TX5) (N := 12) (k_X5_damageWith vl D cI cM A ad E hX e0 e29 hs hsl hI.1.dot iDf ht1 (by omega) iW2) (cwV 1 C.2.2.2.2.1 gX5_damage_X5_damageWith rfl rfl rfl (by decide +kernel) ⟨Nat.le_of_ble_eq_true rfl, Nat.le_of_ble_eq_true rfl⟩) rfl (by first | decide | omega) rfl e0 rfl rfl (Nat.le_of_ble_eq_true rfl) ⟨Nat.zero_le _, Nat.zero_le _⟩ dX5_damage_12 ?_
    exact hend _ _ _ dX5_damage_15 (hop.symm)
  · have hop : o_damage M x = -11 := ws_n hx
    refine z_iload_n C dX5_damage_0 rfl ?_
    refine z_callSF C (k_X5_isShift vl D cI cM A ad E hX (x)) (va_cwS 1 C.2.2.2.2.1 gX5_damage_X5_isShift rfl rfl rfl (by decide +kernel) ⟨Nat.le_of_ble_eq_true rfl, Nat.le_of_ble_eq_true rfl⟩) rfl rfl (Nat.le_of_ble_eq_true rfl) ⟨Nat.zero_le _, Nat.zero_le _⟩ dX5_damage_1 ?_
    refine z_top (nI (0)) (iw_n hx) ?_
    refine z_if_neN C 10 (by omega) dX5_damage_4 (by decide) (fun h4 => (by exfalso; omega)) (fun h4 => ?_)
    refine z_bipush C (-11) dX5_damage_7 (by decide) ?_
    exact hend _ _ _ dX5_damage_9 (hop.symm)

theorem iw_X5_glyphColumn_5 : ∀ w ∈ wsX50, w ∈ wsX5_glyphColumn := by decide +kernel
theorem ln_X5_glyphColumn_12 : Cond.fieldLink RX5 12 "MarqueeDisplay" "font" "LMarqueeDisplay$Font;" ∈ wsX5_glyphColumn := by decide +kernel
set_option maxHeartbeats 4000000 in
set_option maxRecDepth 100000 in
theorem k_X5_glyphColumn (vl : Launch) (D : va_G) (cI cM : ClassId) (A : Nat → Prop) (ad : Nat → Nat) (E : Nat → va_E) (hX : XD A 32 ad) {M : St} (x y : Int32) (hI : Inv M) (hR : RelX cI cM ad M E) : MF vl yX5_glyphColumn wsX5_glyphColumn { frames := 2, cells := 0, slots := 0, locals := 44 } D cI cM A 32 ad E [.ref (ad 0), .int (x), .int (y)] (o_glyphColumn M x y) := by
  refine mf_of cX5_glyphColumn 3 (.int) RX5 (by decide) rfl rfl (Nat.le_of_ble_eq_true rfl) (rfl) ?_
  intro vp ve vs vm va vb vt vc Q C hend
  refine z_lv [(0, .ref (ad 0)), (1, .int (x)), (2, .int (y))] ⟨rfl, rfl, rfl, rfl, rfl, rfl, trivial⟩ ?_
  obtain ⟨pm, hY, hMX, hs⟩ := id hR
  obtain ⟨e0, e1, e2, e3, b4, b5, l6, l7, hpm, hn6, hMY, e29⟩ := id hY
  obtain ⟨_, _, s26, -, -, -⟩ := id hs
  rw [strip_len] at s26
  obtain ⟨⟨iW1, iW2⟩, iG, ⟨iS1, iS2⟩, ⟨iB1, iB2⟩, iO, iC, iT, iN, iSh, iWd, iDt, iZ, iDf, iDz, iTx, iMs⟩ := id hI.1
  have hLM := hI.1.LM_le
  have hsl := hI.1.slen
  have hld : ∀ a, ldM M a ≤ 512 := fun a => Nat.le_trans (ldS_le _ _ _ _ _) (by omega)
  have hl4 := hld (M 0 4)
  rcases wr_c 0 26 x (by omega) (by omega) with ⟨c, hc, rfl⟩ | hx
  · rcases wr_c 0 5 y (by omega) (by omega) with ⟨j, hj, rfl⟩ | hy
    · have hop : o_glyphColumn M (nI c) (nI j) = if j < M 1 c then nI (M 2 (c * 6 + j)) else -14 := (wr_y hc (by decide)).trans (wr_y hj (by decide))
      have hwc := iWd c (by omega)
      by_cases hjw : j < M 1 c
      · rw [if_pos hjw] at hop
        refine z_iload_n C dX5_glyphColumn_0 rfl ?_
        refine z_callSF C (k_X5_isCharacter vl D cI cM A ad E hX (nI (c))) (va_cwS 1 C.2.2.2.2.1 gX5_glyphColumn_X5_isCharacter rfl rfl rfl (by decide +kernel) ⟨Nat.le_of_ble_eq_true rfl, Nat.le_of_ble_eq_true rfl⟩) rfl rfl (Nat.le_of_ble_eq_true rfl) ⟨Nat.zero_le _, Nat.zero_le _⟩ dX5_glyphColumn_1 ?_
        refine z_top (nI (1)) (iw_yN hc (by omega)) ?_
        refine z_if_eqN C 16 (by omega) dX5_glyphColumn_4 (by decide) (fun h4 => (by exfalso; omega)) (fun h4 => ?_)
        refine z_iload_n C dX5_glyphColumn_7 rfl ?_
        refine z_iconst C (nI (0)) dX5_glyphColumn_8 (by decide) ?_
        refine z_iconst C (nI (5)) dX5_glyphColumn_9 (by decide) ?_
        refine z_callSF C (k_X5_isWithin vl D cI cM A ad E hX (nI (j)) (nI (0)) (nI (5))) (va_cwS 3 C.2.2.2.2.1 gX5_glyphColumn_X5_isWithin rfl rfl rfl (by decide +kernel) ⟨Nat.le_of_ble_eq_true rfl, Nat.le_of_ble_eq_true rfl⟩) rfl rfl (Nat.le_of_ble_eq_true rfl) ⟨Nat.zero_le _, Nat.zero_le _⟩ dX5_glyphColumn_10 ?_
        refine z_top (nI (1)) (iw_yN hj (by omega)) ?_
        refine z_if_neN C 19 (by omega) dX5_glyphColumn_13 (by decide) (fun h13 => ?_) (fun h13 => (by exfalso; omega))
        refine z_aload_n C dX5_glyphColumn_19 rfl ?_
        refine z_get C (0) (Cn := RX5) (T := TX5) (N := 12) (fi := 0) iw_X5_glyphColumn_5 rfl (by decide) ln_X5_glyphColumn_12 (by first | decide | omega) rfl e0 rfl dX5_glyphColumn_20 ?_
        refine z_iload_n C dX5_glyphColumn_23 rfl ?_
        refine z_iload_n C dX5_glyphColumn_24 rfl ?_
        refine z_callVF C (1) (Cn := RX0) (T := TX0) (N := 2) (k_X0_hasColumn vl D cI cM A ad E hX (nI j) e1 e2 (by omega) hwc.1) (cwV 2 C.2.2.2.2.1 gX5_glyphColumn_X0_hasColumn rfl rfl rfl (by decide +kernel) ⟨Nat.le_of_ble_eq_true rfl, Nat.le_of_ble_eq_true rfl⟩) rfl (by first | decide | omega) rfl e1 rfl rfl (Nat.le_of_ble_eq_true rfl) ⟨Nat.zero_le _, Nat.zero_le _⟩ dX5_glyphColumn_25 ?_
        refine z_top (nI (1)) (iw_yN ⟨Nat.zero_le _, by omega⟩ (by omega)) ?_
        refine z_if_neN C 34 (by omega) dX5_glyphColumn_28 (by decide) (fun h28 => ?_) (fun h28 => (by exfalso; omega))
        refine z_aload_n C dX5_glyphColumn_34 rfl ?_
        refine z_get C (0) (Cn := RX5) (T := TX5) (N := 12) (fi := 0) iw_X5_glyphColumn_5 rfl (by decide) ln_X5_glyphColumn_12 (by first | decide | omega) rfl e0 rfl dX5_glyphColumn_35 ?_
        refine z_iload_n C dX5_glyphColumn_38 rfl ?_
        refine z_iload_n C dX5_glyphColumn_39 rfl ?_
        refine z_callVF C (1) (Cn := RX0) (T := TX0) (N := 2) (k_X0_dotsOf vl D cI cM A ad E hX e1 e3 (by omega) (by omega)) (cwV 2 C.2.2.2.2.1 gX5_glyphColumn_X0_dotsOf rfl rfl rfl (by decide +kernel) ⟨Nat.le_of_ble_eq_true rfl, Nat.le_of_ble_eq_true rfl⟩) rfl (by first | decide | omega) rfl e1 rfl rfl (Nat.le_of_ble_eq_true rfl) ⟨Nat.zero_le _, Nat.zero_le _⟩ dX5_glyphColumn_40 ?_
        exact hend _ _ _ dX5_glyphColumn_43 (hop.symm)
      · rw [if_neg hjw] at hop
        refine z_iload_n C dX5_glyphColumn_0 rfl ?_
        refine z_callSF C (k_X5_isCharacter vl D cI cM A ad E hX (nI (c))) (va_cwS 1 C.2.2.2.2.1 gX5_glyphColumn_X5_isCharacter rfl rfl rfl (by decide +kernel) ⟨Nat.le_of_ble_eq_true rfl, Nat.le_of_ble_eq_true rfl⟩) rfl rfl (Nat.le_of_ble_eq_true rfl) ⟨Nat.zero_le _, Nat.zero_le _⟩ dX5_glyphColumn_1 ?_
        refine z_top (nI (1)) (iw_yN hc (by omega)) ?_
        refine z_if_eqN C 16 (by omega) dX5_glyphColumn_4 (by decide) (fun h4 => (by exfalso; omega)) (fun h4 => ?_)
        refine z_iload_n C dX5_glyphColumn_7 rfl ?_
        refine z_iconst C (nI (0)) dX5_glyphColumn_8 (by decide) ?_
        refine z_iconst C (nI (5)) dX5_glyphColumn_9 (by decide) ?_
        refine z_callSF C (k_X5_isWithin vl D cI cM A ad E hX (nI (j)) (nI (0)) (nI (5))) (va_cwS 3 C.2.2.2.2.1 gX5_glyphColumn_X5_isWithin rfl rfl rfl (by decide +kernel) ⟨Nat.le_of_ble_eq_true rfl, Nat.le_of_ble_eq_true rfl⟩) rfl rfl (Nat.le_of_ble_eq_true rfl) ⟨Nat.zero_le _, Nat.zero_le _⟩ dX5_glyphColumn_10 ?_
        refine z_top (nI (1)) (iw_yN hj (by omega)) ?_
        refine z_if_neN C 19 (by omega) dX5_glyphColumn_13 (by decide) (fun h13 => ?_) (fun h13 => (by exfalso; omega))
        refine z_aload_n C dX5_glyphColumn_19 rfl ?_
        refine z_get C (0) (Cn := RX5) (T := TX5) (N := 12) (fi := 0) iw_X5_glyphColumn_5 rfl (by decide) ln_X5_glyphColumn_12 (by first | decide | omega) rfl e0 rfl dX5_glyphColumn_20 ?_
        refine z_iload_n C dX5_glyphColumn_23 rfl ?_
        refine z_iload_n C dX5_glyphColumn_24 rfl ?_
        refine z_callVF C (1) (Cn := RX0) (T := TX0) (N := 2) (k_X0_hasColumn vl D cI cM A ad E hX (nI j) e1 e2 (by omega) hwc.1) (cwV 2 C.2.2.2.2.1 gX5_glyphColumn_X0_hasColumn rfl rfl rfl (by decide +kernel) ⟨Nat.le_of_ble_eq_true rfl, Nat.le_of_ble_eq_true rfl⟩) rfl (by first | decide | omega) rfl e1 rfl rfl (Nat.le_of_ble_eq_true rfl) ⟨Nat.zero_le _, Nat.zero_le _⟩ dX5_glyphColumn_25 ?_
        refine z_top (nI (0)) (by rw [iw_N (by omega) (by omega) (by omega), if_neg (by omega)]) ?_
        refine z_if_neN C 34 (by omega) dX5_glyphColumn_28 (by decide) (fun h28 => (by exfalso; omega)) (fun h28 => ?_)
        refine z_bipush C (-14) dX5_glyphColumn_31 (by decide) ?_
        exact hend _ _ _ dX5_glyphColumn_33 (hop.symm)
    · have hop : o_glyphColumn M (nI c) y = -11 := (wr_y hc (by decide)).trans (wr_n hy)
      refine z_iload_n C dX5_glyphColumn_0 rfl ?_
      refine z_callSF C (k_X5_isCharacter vl D cI cM A ad E hX (nI (c))) (va_cwS 1 C.2.2.2.2.1 gX5_glyphColumn_X5_isCharacter rfl rfl rfl (by decide +kernel) ⟨Nat.le_of_ble_eq_true rfl, Nat.le_of_ble_eq_true rfl⟩) rfl rfl (Nat.le_of_ble_eq_true rfl) ⟨Nat.zero_le _, Nat.zero_le _⟩ dX5_glyphColumn_1 ?_
      refine z_top (nI (1)) (iw_yN hc (by omega)) ?_
      refine z_if_eqN C 16 (by omega) dX5_glyphColumn_4 (by decide) (fun h4 => (by exfalso; omega)) (fun h4 => ?_)
      refine z_iload_n C dX5_glyphColumn_7 rfl ?_
      refine z_iconst C (nI (0)) dX5_glyphColumn_8 (by decide) ?_
      refine z_iconst C (nI (5)) dX5_glyphColumn_9 (by decide) ?_
      refine z_callSF C (k_X5_isWithin vl D cI cM A ad E hX (y) (nI (0)) (nI (5))) (va_cwS 3 C.2.2.2.2.1 gX5_glyphColumn_X5_isWithin rfl rfl rfl (by decide +kernel) ⟨Nat.le_of_ble_eq_true rfl, Nat.le_of_ble_eq_true rfl⟩) rfl rfl (Nat.le_of_ble_eq_true rfl) ⟨Nat.zero_le _, Nat.zero_le _⟩ dX5_glyphColumn_10 ?_
      refine z_top (nI (0)) (iw_n hy) ?_
      refine z_if_neN C 19 (by omega) dX5_glyphColumn_13 (by decide) (fun h13 => (by exfalso; omega)) (fun h13 => ?_)
      refine z_bipush C (-11) dX5_glyphColumn_16 (by decide) ?_
      exact hend _ _ _ dX5_glyphColumn_18 (hop.symm)
  · have hop : o_glyphColumn M x y = -11 := wr_n hx
    refine z_iload_n C dX5_glyphColumn_0 rfl ?_
    refine z_callSF C (k_X5_isCharacter vl D cI cM A ad E hX (x)) (va_cwS 1 C.2.2.2.2.1 gX5_glyphColumn_X5_isCharacter rfl rfl rfl (by decide +kernel) ⟨Nat.le_of_ble_eq_true rfl, Nat.le_of_ble_eq_true rfl⟩) rfl rfl (Nat.le_of_ble_eq_true rfl) ⟨Nat.zero_le _, Nat.zero_le _⟩ dX5_glyphColumn_1 ?_
    refine z_top (nI (0)) (iw_n hx) ?_
    refine z_if_eqN C 16 (by omega) dX5_glyphColumn_4 (by decide) (fun h4 => ?_) (fun h4 => (by exfalso; omega))
    refine z_bipush C (-11) dX5_glyphColumn_16 (by decide) ?_
    exact hend _ _ _ dX5_glyphColumn_18 (hop.symm)

theorem iw_X5_messageWidth_5 : ∀ w ∈ wsX50, w ∈ wsX5_messageWidth := by decide +kernel
theorem ln_X5_messageWidth_26 : Cond.fieldLink RX5 26 "MarqueeDisplay" "messages" "LMarqueeDisplay$MessageList;" ∈ wsX5_messageWidth := by decide +kernel
theorem iw_X5_messageWidth_1 : ∀ w ∈ wsX10, w ∈ wsX5_messageWidth := by decide +kernel
theorem nl_X5_127 : Cond.fieldLinkNest RX5 127 "MarqueeDisplay$Message" "width" "I" "MarqueeDisplay" ∈ nwL := by decide +kernel
set_option maxHeartbeats 4000000 in
set_option maxRecDepth 100000 in
theorem k_X5_messageWidth (vl : Launch) (D : va_G) (cI cM : ClassId) (A : Nat → Prop) (ad : Nat → Nat) (E : Nat → va_E) (hX : XD A 32 ad) {M : St} (x : Int32) (hI : Inv M) (hR : RelX cI cM ad M E) : MF vl yX5_messageWidth wsX5_messageWidth { frames := 3, cells := 0, slots := 0, locals := 62 } D cI cM A 32 ad E [.ref (ad 0), .int (x)] (o_messageWidth M x) := by
  refine mf_of cX5_messageWidth 3 (.int) RX5 (by decide) rfl rfl (Nat.le_of_ble_eq_true rfl) (rfl) ?_
  intro vp ve vs vm va vb vt vc Q C hend
  refine z_lv [(0, .ref (ad 0)), (1, .int (x))] ⟨rfl, rfl, rfl, rfl, trivial⟩ ?_
  obtain ⟨pm, hY, hMX, hs⟩ := id hR
  obtain ⟨e0, e1, e2, e3, b4, b5, l6, l7, hpm, hn6, hMY, e29⟩ := id hY
  obtain ⟨_, _, s26, -, -, -⟩ := id hs
  rw [strip_len] at s26
  obtain ⟨⟨iW1, iW2⟩, iG, ⟨iS1, iS2⟩, ⟨iB1, iB2⟩, iO, iC, iT, iN, iSh, iWd, iDt, iZ, iDf, iDz, iTx, iMs⟩ := id hI.1
  have hLM := hI.1.LM_le
  have hsl := hI.1.slen
  have hld : ∀ a, ldM M a ≤ 512 := fun a => Nat.le_trans (ldS_le _ _ _ _ _) (by omega)
  have hl4 := hld (M 0 4)
  by_cases hx : ∃ j : Nat, j < M 0 7 ∧ x = nI j
  · obtain ⟨j, hj, rfl⟩ := hx
    have hop : o_messageWidth M (nI j) = nI (mW (M 1) (ltr (M 7) j) (M 5 j)) := wn_y hj (by omega)
    obtain ⟨g, ⟨m8, m9, m10⟩, hg⟩ := hMX j hj
    have hpj := hpm.1 j (by omega)
    refine z_aload_n C dX5_messageWidth_0 rfl ?_
    refine z_get C (0) (Cn := RX5) (T := TX5) (N := 12) (fi := 2) iw_X5_messageWidth_5 rfl (by decide) ln_X5_messageWidth_26 (by first | decide | omega) rfl e0 rfl dX5_messageWidth_1 ?_
    refine z_iload_n C dX5_messageWidth_4 rfl ?_
    refine z_callVQ C (6) (Cn := RX2) (T := TX2) (N := 2) (k_X2_find_y vl D cI cM A ad E hX l6 l7 hj hn6) (cwV 1 C.2.2.2.2.1 gX5_messageWidth_X2_find rfl rfl rfl (by decide +kernel) ⟨Nat.le_of_ble_eq_true rfl, Nat.le_of_ble_eq_true rfl⟩) rfl (by first | decide | omega) rfl l6 rfl rfl (Nat.le_of_ble_eq_true rfl) ⟨Nat.zero_le _, Nat.zero_le _⟩ dX5_messageWidth_5 ?_
    refine z_astore_n C [(0, .ref (ad 0)), (1, .int (nI (j))), (2, .ref (ad (8 + 3 * (pm j))))] dX5_messageWidth_8 (by decide) ⟨rfl, rfl, rfl, rfl, rfl, rfl, trivial⟩ ?_
    refine z_aload_n C dX5_messageWidth_9 rfl ?_
    refine z_ifnonnull C 18 dX5_messageWidth_10 (by decide) ?_
    refine z_aload_n C dX5_messageWidth_18 rfl ?_
    refine z_getN C (8 + 3 * (pm j)) (Cn := RX1) (T := TX1) (N := 4) (fi := 3) iw_X5_messageWidth_1 rfl (by decide) nl_X5_127 (by first | decide | omega) rfl m8 rfl dX5_messageWidth_19 ?_
    exact hend _ _ _ dX5_messageWidth_22 (hop.symm)
  · have hop : o_messageWidth M x = -11 := wn_n (by omega) hx
    refine z_aload_n C dX5_messageWidth_0 rfl ?_
    refine z_get C (0) (Cn := RX5) (T := TX5) (N := 12) (fi := 2) iw_X5_messageWidth_5 rfl (by decide) ln_X5_messageWidth_26 (by first | decide | omega) rfl e0 rfl dX5_messageWidth_1 ?_
    refine z_iload_n C dX5_messageWidth_4 rfl ?_
    refine z_callVQ C (6) (Cn := RX2) (T := TX2) (N := 2) (k_X2_find_n vl D cI cM A ad E hX l6 l7 hx hn6) (cwV 1 C.2.2.2.2.1 gX5_messageWidth_X2_find rfl rfl rfl (by decide +kernel) ⟨Nat.le_of_ble_eq_true rfl, Nat.le_of_ble_eq_true rfl⟩) rfl (by first | decide | omega) rfl l6 rfl rfl (Nat.le_of_ble_eq_true rfl) ⟨Nat.zero_le _, Nat.zero_le _⟩ dX5_messageWidth_5 ?_
    refine z_astore_nN C [(0, .ref (ad 0)), (1, .int (x)), (2, .null)] dX5_messageWidth_8 (by decide) ⟨rfl, rfl, rfl, rfl, rfl, rfl, trivial⟩ ?_
    refine z_aload_nN C dX5_messageWidth_9 rfl ?_
    refine z_ifnonnullN C dX5_messageWidth_10 ?_
    refine z_bipush C (-11) dX5_messageWidth_13 (by decide) ?_
    refine z_goto C 22 dX5_messageWidth_15 (by decide) ?_
    exact hend _ _ _ dX5_messageWidth_22 (hop.symm)

theorem iw_X5_messageStart_5 : ∀ w ∈ wsX50, w ∈ wsX5_messageStart := by decide +kernel
theorem ln_X5_messageStart_26 : Cond.fieldLink RX5 26 "MarqueeDisplay" "messages" "LMarqueeDisplay$MessageList;" ∈ wsX5_messageStart := by decide +kernel
theorem iw_X5_messageStart_1 : ∀ w ∈ wsX10, w ∈ wsX5_messageStart := by decide +kernel
theorem nl_X5_130 : Cond.fieldLinkNest RX5 130 "MarqueeDisplay$Message" "start" "I" "MarqueeDisplay" ∈ nwL := by decide +kernel
set_option maxHeartbeats 4000000 in
set_option maxRecDepth 100000 in
theorem k_X5_messageStart (vl : Launch) (D : va_G) (cI cM : ClassId) (A : Nat → Prop) (ad : Nat → Nat) (E : Nat → va_E) (hX : XD A 32 ad) {M : St} (x : Int32) (hI : Inv M) (hR : RelX cI cM ad M E) : MF vl yX5_messageStart wsX5_messageStart { frames := 3, cells := 0, slots := 0, locals := 62 } D cI cM A 32 ad E [.ref (ad 0), .int (x)] (o_messageStart M x) := by
  refine mf_of cX5_messageStart 3 (.int) RX5 (by decide) rfl rfl (Nat.le_of_ble_eq_true rfl) (rfl) ?_
  intro vp ve vs vm va vb vt vc Q C hend
  refine z_lv [(0, .ref (ad 0)), (1, .int (x))] ⟨rfl, rfl, rfl, rfl, trivial⟩ ?_
  obtain ⟨pm, hY, hMX, hs⟩ := id hR
  obtain ⟨e0, e1, e2, e3, b4, b5, l6, l7, hpm, hn6, hMY, e29⟩ := id hY
  obtain ⟨_, _, s26, -, -, -⟩ := id hs
  rw [strip_len] at s26
  obtain ⟨⟨iW1, iW2⟩, iG, ⟨iS1, iS2⟩, ⟨iB1, iB2⟩, iO, iC, iT, iN, iSh, iWd, iDt, iZ, iDf, iDz, iTx, iMs⟩ := id hI.1
  have hLM := hI.1.LM_le
  have hsl := hI.1.slen
  have hld : ∀ a, ldM M a ≤ 512 := fun a => Nat.le_trans (ldS_le _ _ _ _ _) (by omega)
  have hl4 := hld (M 0 4)
  by_cases hx : ∃ j : Nat, j < M 0 7 ∧ x = nI j
  · obtain ⟨j, hj, rfl⟩ := hx
    have hop : o_messageStart M (nI j) = nI (sL (M 1) (M 0 1) (M 5) (ltr (M 7)) j) := wn_y hj (by omega)
    obtain ⟨g, ⟨m8, m9, m10⟩, hg⟩ := hMX j hj
    have hpj := hpm.1 j (by omega)
    refine z_aload_n C dX5_messageStart_0 rfl ?_
    refine z_get C (0) (Cn := RX5) (T := TX5) (N := 12) (fi := 2) iw_X5_messageStart_5 rfl (by decide) ln_X5_messageStart_26 (by first | decide | omega) rfl e0 rfl dX5_messageStart_1 ?_
    refine z_iload_n C dX5_messageStart_4 rfl ?_
    refine z_callVQ C (6) (Cn := RX2) (T := TX2) (N := 2) (k_X2_find_y vl D cI cM A ad E hX l6 l7 hj hn6) (cwV 1 C.2.2.2.2.1 gX5_messageStart_X2_find rfl rfl rfl (by decide +kernel) ⟨Nat.le_of_ble_eq_true rfl, Nat.le_of_ble_eq_true rfl⟩) rfl (by first | decide | omega) rfl l6 rfl rfl (Nat.le_of_ble_eq_true rfl) ⟨Nat.zero_le _, Nat.zero_le _⟩ dX5_messageStart_5 ?_
    refine z_astore_n C [(0, .ref (ad 0)), (1, .int (nI (j))), (2, .ref (ad (8 + 3 * (pm j))))] dX5_messageStart_8 (by decide) ⟨rfl, rfl, rfl, rfl, rfl, rfl, trivial⟩ ?_
    refine z_aload_n C dX5_messageStart_9 rfl ?_
    refine z_ifnonnull C 18 dX5_messageStart_10 (by decide) ?_
    refine z_aload_n C dX5_messageStart_18 rfl ?_
    refine z_getN C (8 + 3 * (pm j)) (Cn := RX1) (T := TX1) (N := 4) (fi := 2) iw_X5_messageStart_1 rfl (by decide) nl_X5_130 (by first | decide | omega) rfl m8 rfl dX5_messageStart_19 ?_
    exact hend _ _ _ dX5_messageStart_22 (hop.symm)
  · have hop : o_messageStart M x = -11 := wn_n (by omega) hx
    refine z_aload_n C dX5_messageStart_0 rfl ?_
    refine z_get C (0) (Cn := RX5) (T := TX5) (N := 12) (fi := 2) iw_X5_messageStart_5 rfl (by decide) ln_X5_messageStart_26 (by first | decide | omega) rfl e0 rfl dX5_messageStart_1 ?_
    refine z_iload_n C dX5_messageStart_4 rfl ?_
    refine z_callVQ C (6) (Cn := RX2) (T := TX2) (N := 2) (k_X2_find_n vl D cI cM A ad E hX l6 l7 hx hn6) (cwV 1 C.2.2.2.2.1 gX5_messageStart_X2_find rfl rfl rfl (by decide +kernel) ⟨Nat.le_of_ble_eq_true rfl, Nat.le_of_ble_eq_true rfl⟩) rfl (by first | decide | omega) rfl l6 rfl rfl (Nat.le_of_ble_eq_true rfl) ⟨Nat.zero_le _, Nat.zero_le _⟩ dX5_messageStart_5 ?_
    refine z_astore_nN C [(0, .ref (ad 0)), (1, .int (x)), (2, .null)] dX5_messageStart_8 (by decide) ⟨rfl, rfl, rfl, rfl, rfl, rfl, trivial⟩ ?_
    refine z_aload_nN C dX5_messageStart_9 rfl ?_
    refine z_ifnonnullN C dX5_messageStart_10 ?_
    refine z_bipush C (-11) dX5_messageStart_13 (by decide) ?_
    refine z_goto C 22 dX5_messageStart_15 (by decide) ?_
    exact hend _ _ _ dX5_messageStart_22 (hop.symm)

theorem MsgY_mv {cI : ClassId} {ad : Nat → Nat} {M : St} {pm : Nat → Nat} {E E1 : Nat → va_E} (hpm : PM pm) (h : MsgY cI ad M pm E) (hk : ∀ k : Nat, (8 ≤ k ∧ k < 26) → E1 k = E k) : MsgY cI ad M pm E1 := fun i hi => by
  obtain ⟨sz, co, st, wi, g, hM, hg⟩ := h i hi
  have := hpm.1 i hi
  exact ⟨sz, co, st, wi, g, hM.mv (hk _ (by omega)) (hk _ (by omega)) (hk _ (by omega)), hg⟩
theorem MsgX_mv {cI : ClassId} {ad : Nat → Nat} {M : St} {pm : Nat → Nat} {E E1 : Nat → va_E} (hpm : PM pm) (hn : M 0 7 ≤ 6) (h : MsgX cI ad M pm E) (hk : ∀ k : Nat, (8 ≤ k ∧ k < 26) → E1 k = E k) : MsgX cI ad M pm E1 := fun i hi => by
  obtain ⟨g, hM, hg⟩ := h i hi
  have := hpm.1 i (by omega)
  exact ⟨g, hM.mv (hk _ (by omega)) (hk _ (by omega)) (hk _ (by omega)), hg⟩
theorem iw_X5_setSpeed_5 : ∀ w ∈ wsX50, w ∈ wsX5_setSpeed := by decide +kernel
theorem ln_X5_setSpeed_48 : Cond.fieldLink RX5 48 "MarqueeDisplay" "speed" "I" ∈ wsX5_setSpeed := by decide +kernel
theorem ln_X5_setSpeed_60 : Cond.fieldLink RX5 60 "MarqueeDisplay" "counter" "I" ∈ wsX5_setSpeed := by decide +kernel
set_option maxHeartbeats 4000000 in
set_option maxRecDepth 100000 in
theorem k_X5_setSpeed (vl : Launch) (D : va_G) (cI cM : ClassId) (A : Nat → Prop) (ad : Nat → Nat) (E : Nat → va_E) (hX : XD A 32 ad) {M : St} (x : Int32) (hI : Inv M) (hR : RelX cI cM ad M E) : MI vl yX5_setSpeed wsX5_setSpeed { frames := 1, cells := 0, slots := 0, locals := 22 } D cI cM A 32 ad E [.ref (ad 0), .int (x)] (fun r E1 => r = (o_setSpeed M x).1 ∧ RelX cI cM ad (o_setSpeed M x).2 E1 ∧ ∀ k : Nat, 30 ≤ k → E1 k = E k) := by
  refine mi_of cX5_setSpeed 3 (.int) RX5 (by decide) rfl rfl (Nat.le_of_ble_eq_true rfl) (fun r E1 h => rfl) ?_
  intro vp ve vs vm va vb vt vc Q C hend
  refine z_lv [(0, .ref (ad 0)), (1, .int (x))] ⟨rfl, rfl, rfl, rfl, trivial⟩ ?_
  obtain ⟨pm, hY, hMX, hs⟩ := id hR
  obtain ⟨e0, e1, e2, e3, b4, b5, l6, l7, hpm, hn6, hMY, e29⟩ := id hY
  obtain ⟨_, _, s26, -, -, -⟩ := id hs
  rw [strip_len] at s26
  obtain ⟨⟨iW1, iW2⟩, iG, ⟨iS1, iS2⟩, ⟨iB1, iB2⟩, iO, iC, iT, iN, iSh, iWd, iDt, iZ, iDf, iDz, iTx, iMs⟩ := id hI.1
  have hLM := hI.1.LM_le
  have hsl := hI.1.slen
  have hld : ∀ a, ldM M a ≤ 512 := fun a => Nat.le_trans (ldS_le _ _ _ _ _) (by omega)
  have hl4 := hld (M 0 4)
  rcases wr_c 1 9 x (by omega) (by omega) with ⟨v, hv1, rfl⟩ | hx
  · have hop : o_setSpeed M (nI v) = (nI (M 0 2), s0 (s0 M 2 v) 5 0) := wr_y hv1 (by decide)
    refine z_iload_n C dX5_setSpeed_0 rfl ?_
    refine z_iconst C (nI (1)) dX5_setSpeed_1 (by decide) ?_
    refine z_bipush C (nI (9)) dX5_setSpeed_2 (by decide) ?_
    refine z_callSF C (k_X5_isWithin vl D cI cM A ad E hX (nI (v)) (nI (1)) (nI (9))) (va_cwS 3 C.2.2.2.2.1 gX5_setSpeed_X5_isWithin rfl rfl rfl (by decide +kernel) ⟨Nat.le_of_ble_eq_true rfl, Nat.le_of_ble_eq_true rfl⟩) rfl rfl (Nat.le_of_ble_eq_true rfl) ⟨Nat.zero_le _, Nat.zero_le _⟩ dX5_setSpeed_4 ?_
    refine z_top (nI (1)) (iw_yN hv1 (by omega)) ?_
    refine z_if_neN C 13 (by omega) dX5_setSpeed_7 (by decide) (fun h7 => ?_) (fun h7 => (by exfalso; omega))
    refine z_aload_n C dX5_setSpeed_13 rfl ?_
    refine z_get C (0) (Cn := RX5) (T := TX5) (N := 12) (fi := 7) iw_X5_setSpeed_5 rfl (by decide) ln_X5_setSpeed_48 (by first | decide | omega) rfl e0 rfl dX5_setSpeed_14 ?_
    refine z_istore_n C [(0, .ref (ad 0)), (1, .int (nI (v))), (2, .int (nI (M 0 2)))] dX5_setSpeed_17 (by decide) ⟨rfl, rfl, rfl, rfl, rfl, rfl, trivial⟩ ?_
    refine z_aload_n C dX5_setSpeed_18 rfl ?_
    refine z_iload_n C dX5_setSpeed_19 rfl ?_
    refine z_put C (0) (Cn := RX5) (T := TX5) (N := 12) (fi := 7) tyX5 iw_X5_setSpeed_5 tyX5_ok nmX5 rfl (by decide) ln_X5_setSpeed_48 hX (by first | decide | omega) rfl e0 rfl rfl rfl rfl (Nat.le_of_ble_eq_true rfl) dX5_setSpeed_20 (fun Ez2 hE1 => ?_)
    have f4 : Ez2 (1) = .inr (0, [.ref (ad 2), .ref (ad 3)]) := va_up_of hE1 (by first | decide | omega) e1
    have f5 : Ez2 (2) = aI cI 27 (M 1) := va_up_of hE1 (by first | decide | omega) e2
    have f6 : Ez2 (3) = aI cI 162 (M 2) := va_up_of hE1 (by first | decide | omega) e3
    have f7 : Ez2 (4) = .inr (4, [.ref (ad 5), .int (nI (M 0 6))]) := va_up_of hE1 (by first | decide | omega) b4
    have f8 : Ez2 (5) = aI cI 12 (M 4) := va_up_of hE1 (by first | decide | omega) b5
    have f9 : Ez2 (6) = .inr (2, [.ref (ad 7), .int (nI (M 0 7))]) := va_up_of hE1 (by first | decide | omega) l6
    have f10 : Ez2 (7) = .inl (cM, 6, .inr (.inr (.inr (.inr (sf ad pm))))) := va_up_of hE1 (by first | decide | omega) l7
    have f11 : Ez2 (29) = aI cI 32 (M 3) := va_up_of hE1 (by first | decide | omega) e29
    have f12 : Ez2 (26) = .inr (3, [.ref (ad 27), .ref (ad 28), .int (nI (LM M))]) := va_up_of hE1 (by first | decide | omega) s26
    have f13 : Ez2 (0) = .inr (5, [.ref (ad 1), .ref (ad 4), .ref (ad 6), .ref (ad 26), .ref (ad 29), .int (nI (M 0 0)), .int (nI (M 0 1)), .int (nI (v)), .int (shI (M 0 8)), .int (nI (M 0 3)), .int (nI (M 0 4)), .int (nI (M 0 5))]) := va_up_eq hE1
    have g14 : ∀ k : Nat, (k ≠ 0) → Ez2 k = E k := fun k hk => va_up_of hE1 (by omega) ((fun _ _ => rfl) k hk)
    refine z_aload_n C dX5_setSpeed_23 rfl ?_
    refine z_iconst C (nI (0)) dX5_setSpeed_24 (by decide) ?_
    refine z_put C (0) (Cn := RX5) (T := TX5) (N := 12) (fi := 11) tyX5 iw_X5_setSpeed_5 tyX5_ok nmX5 rfl (by decide) ln_X5_setSpeed_60 hX (by first | decide | omega) rfl f13 rfl rfl rfl rfl (Nat.le_of_ble_eq_true rfl) dX5_setSpeed_25 (fun Ez16 hE15 => ?_)
    have f17 : Ez16 (1) = .inr (0, [.ref (ad 2), .ref (ad 3)]) := va_up_of hE15 (by first | decide | omega) f4
    have f18 : Ez16 (2) = aI cI 27 (M 1) := va_up_of hE15 (by first | decide | omega) f5
    have f19 : Ez16 (3) = aI cI 162 (M 2) := va_up_of hE15 (by first | decide | omega) f6
    have f20 : Ez16 (4) = .inr (4, [.ref (ad 5), .int (nI (M 0 6))]) := va_up_of hE15 (by first | decide | omega) f7
    have f21 : Ez16 (5) = aI cI 12 (M 4) := va_up_of hE15 (by first | decide | omega) f8
    have f22 : Ez16 (6) = .inr (2, [.ref (ad 7), .int (nI (M 0 7))]) := va_up_of hE15 (by first | decide | omega) f9
    have f23 : Ez16 (7) = .inl (cM, 6, .inr (.inr (.inr (.inr (sf ad pm))))) := va_up_of hE15 (by first | decide | omega) f10
    have f24 : Ez16 (29) = aI cI 32 (M 3) := va_up_of hE15 (by first | decide | omega) f11
    have f25 : Ez16 (26) = .inr (3, [.ref (ad 27), .ref (ad 28), .int (nI (LM M))]) := va_up_of hE15 (by first | decide | omega) f12
    have f27 : Ez16 (0) = .inr (5, [.ref (ad 1), .ref (ad 4), .ref (ad 6), .ref (ad 26), .ref (ad 29), .int (nI (M 0 0)), .int (nI (M 0 1)), .int (nI (v)), .int (shI (M 0 8)), .int (nI (M 0 3)), .int (nI (M 0 4)), .int (nI (0))]) := va_up_eq hE15
    have g28 : ∀ k : Nat, (k ≠ 0) → Ez16 k = E k := fun k hk => va_up_of hE15 (by omega) (g14 k hk)
    refine z_iload_n C dX5_setSpeed_28 rfl ?_
    exact hend _ _ _ _ dX5_setSpeed_29 (⟨by rw [hop], by rw [hop]; exact ⟨pm, ⟨f27, f17, f18, f19, f20, f21, f22, f23, hpm, hn6, (MsgY_mv hpm hMY (fun k hk => g28 k (by omega))), f24⟩, (MsgX_mv hpm hn6 hMX (fun k hk => g28 k (by omega))), hs.mv (g28 _ (by omega)) (g28 _ (by omega)) (g28 _ (by omega))⟩, fun k hk => g28 k (by omega)⟩)
  · have hop : o_setSpeed M x = (-11, M) := wr_n hx
    refine z_iload_n C dX5_setSpeed_0 rfl ?_
    refine z_iconst C (nI (1)) dX5_setSpeed_1 (by decide) ?_
    refine z_bipush C (nI (9)) dX5_setSpeed_2 (by decide) ?_
    refine z_callSF C (k_X5_isWithin vl D cI cM A ad E hX (x) (nI (1)) (nI (9))) (va_cwS 3 C.2.2.2.2.1 gX5_setSpeed_X5_isWithin rfl rfl rfl (by decide +kernel) ⟨Nat.le_of_ble_eq_true rfl, Nat.le_of_ble_eq_true rfl⟩) rfl rfl (Nat.le_of_ble_eq_true rfl) ⟨Nat.zero_le _, Nat.zero_le _⟩ dX5_setSpeed_4 ?_
    refine z_top (nI (0)) (iw_n hx) ?_
    refine z_if_neN C 13 (by omega) dX5_setSpeed_7 (by decide) (fun h7 => (by exfalso; omega)) (fun h7 => ?_)
    refine z_bipush C (-11) dX5_setSpeed_10 (by decide) ?_
    exact hend _ _ _ _ dX5_setSpeed_12 (⟨by rw [hop], by rw [hop]; exact hR, fun _ _ => rfl⟩)

theorem iw_X5_setBudget_5 : ∀ w ∈ wsX50, w ∈ wsX5_setBudget := by decide +kernel
theorem ln_X5_setBudget_54 : Cond.fieldLink RX5 54 "MarqueeDisplay" "budget" "I" ∈ wsX5_setBudget := by decide +kernel
set_option maxHeartbeats 4000000 in
set_option maxRecDepth 100000 in
theorem k_X5_setBudget (vl : Launch) (D : va_G) (cI cM : ClassId) (A : Nat → Prop) (ad : Nat → Nat) (E : Nat → va_E) (hX : XD A 32 ad) {M : St} (x : Int32) (hI : Inv M) (hR : RelX cI cM ad M E) : MI vl yX5_setBudget wsX5_setBudget { frames := 1, cells := 0, slots := 0, locals := 22 } D cI cM A 32 ad E [.ref (ad 0), .int (x)] (fun r E1 => r = (o_setBudget M x).1 ∧ RelX cI cM ad (o_setBudget M x).2 E1 ∧ ∀ k : Nat, 30 ≤ k → E1 k = E k) := by
  refine mi_of cX5_setBudget 3 (.int) RX5 (by decide) rfl rfl (Nat.le_of_ble_eq_true rfl) (fun r E1 h => rfl) ?_
  intro vp ve vs vm va vb vt vc Q C hend
  refine z_lv [(0, .ref (ad 0)), (1, .int (x))] ⟨rfl, rfl, rfl, rfl, trivial⟩ ?_
  obtain ⟨pm, hY, hMX, hs⟩ := id hR
  obtain ⟨e0, e1, e2, e3, b4, b5, l6, l7, hpm, hn6, hMY, e29⟩ := id hY
  obtain ⟨_, _, s26, -, -, -⟩ := id hs
  rw [strip_len] at s26
  obtain ⟨⟨iW1, iW2⟩, iG, ⟨iS1, iS2⟩, ⟨iB1, iB2⟩, iO, iC, iT, iN, iSh, iWd, iDt, iZ, iDf, iDz, iTx, iMs⟩ := id hI.1
  have hLM := hI.1.LM_le
  have hsl := hI.1.slen
  have hld : ∀ a, ldM M a ≤ 512 := fun a => Nat.le_trans (ldS_le _ _ _ _ _) (by omega)
  have hl4 := hld (M 0 4)
  rcases wr_c 1 999 x (by omega) (by omega) with ⟨v, hv1, rfl⟩ | hx
  · have hop : o_setBudget M (nI v) = (nI (M 0 3), s0 M 3 v) := wr_y hv1 (by decide)
    refine z_iload_n C dX5_setBudget_0 rfl ?_
    refine z_iconst C (nI (1)) dX5_setBudget_1 (by decide) ?_
    refine z_sipush C (nI (999)) dX5_setBudget_2 (by decide) ?_
    refine z_callSF C (k_X5_isWithin vl D cI cM A ad E hX (nI (v)) (nI (1)) (nI (999))) (va_cwS 3 C.2.2.2.2.1 gX5_setBudget_X5_isWithin rfl rfl rfl (by decide +kernel) ⟨Nat.le_of_ble_eq_true rfl, Nat.le_of_ble_eq_true rfl⟩) rfl rfl (Nat.le_of_ble_eq_true rfl) ⟨Nat.zero_le _, Nat.zero_le _⟩ dX5_setBudget_5 ?_
    refine z_top (nI (1)) (iw_yN hv1 (by omega)) ?_
    refine z_if_neN C 14 (by omega) dX5_setBudget_8 (by decide) (fun h8 => ?_) (fun h8 => (by exfalso; omega))
    refine z_aload_n C dX5_setBudget_14 rfl ?_
    refine z_get C (0) (Cn := RX5) (T := TX5) (N := 12) (fi := 9) iw_X5_setBudget_5 rfl (by decide) ln_X5_setBudget_54 (by first | decide | omega) rfl e0 rfl dX5_setBudget_15 ?_
    refine z_istore_n C [(0, .ref (ad 0)), (1, .int (nI (v))), (2, .int (nI (M 0 3)))] dX5_setBudget_18 (by decide) ⟨rfl, rfl, rfl, rfl, rfl, rfl, trivial⟩ ?_
    refine z_aload_n C dX5_setBudget_19 rfl ?_
    refine z_iload_n C dX5_setBudget_20 rfl ?_
    refine z_put C (0) (Cn := RX5) (T := TX5) (N := 12) (fi := 9) tyX5 iw_X5_setBudget_5 tyX5_ok nmX5 rfl (by decide) ln_X5_setBudget_54 hX (by first | decide | omega) rfl e0 rfl rfl rfl rfl (Nat.le_of_ble_eq_true rfl) dX5_setBudget_21 (fun Ez2 hE1 => ?_)
    have f4 : Ez2 (1) = .inr (0, [.ref (ad 2), .ref (ad 3)]) := va_up_of hE1 (by first | decide | omega) e1
    have f5 : Ez2 (2) = aI cI 27 (M 1) := va_up_of hE1 (by first | decide | omega) e2
    have f6 : Ez2 (3) = aI cI 162 (M 2) := va_up_of hE1 (by first | decide | omega) e3
    have f7 : Ez2 (4) = .inr (4, [.ref (ad 5), .int (nI (M 0 6))]) := va_up_of hE1 (by first | decide | omega) b4
    have f8 : Ez2 (5) = aI cI 12 (M 4) := va_up_of hE1 (by first | decide | omega) b5
    have f9 : Ez2 (6) = .inr (2, [.ref (ad 7), .int (nI (M 0 7))]) := va_up_of hE1 (by first | decide | omega) l6
    have f10 : Ez2 (7) = .inl (cM, 6, .inr (.inr (.inr (.inr (sf ad pm))))) := va_up_of hE1 (by first | decide | omega) l7
    have f11 : Ez2 (29) = aI cI 32 (M 3) := va_up_of hE1 (by first | decide | omega) e29
    have f12 : Ez2 (26) = .inr (3, [.ref (ad 27), .ref (ad 28), .int (nI (LM M))]) := va_up_of hE1 (by first | decide | omega) s26
    have f13 : Ez2 (0) = .inr (5, [.ref (ad 1), .ref (ad 4), .ref (ad 6), .ref (ad 26), .ref (ad 29), .int (nI (M 0 0)), .int (nI (M 0 1)), .int (nI (M 0 2)), .int (shI (M 0 8)), .int (nI (v)), .int (nI (M 0 4)), .int (nI (M 0 5))]) := va_up_eq hE1
    have g14 : ∀ k : Nat, (k ≠ 0) → Ez2 k = E k := fun k hk => va_up_of hE1 (by omega) ((fun _ _ => rfl) k hk)
    refine z_iload_n C dX5_setBudget_24 rfl ?_
    exact hend _ _ _ _ dX5_setBudget_25 (⟨by rw [hop], by rw [hop]; exact ⟨pm, ⟨f13, f4, f5, f6, f7, f8, f9, f10, hpm, hn6, (MsgY_mv hpm hMY (fun k hk => g14 k (by omega))), f11⟩, (MsgX_mv hpm hn6 hMX (fun k hk => g14 k (by omega))), hs.mv (g14 _ (by omega)) (g14 _ (by omega)) (g14 _ (by omega))⟩, fun k hk => g14 k (by omega)⟩)
  · have hop : o_setBudget M x = (-11, M) := wr_n hx
    refine z_iload_n C dX5_setBudget_0 rfl ?_
    refine z_iconst C (nI (1)) dX5_setBudget_1 (by decide) ?_
    refine z_sipush C (nI (999)) dX5_setBudget_2 (by decide) ?_
    refine z_callSF C (k_X5_isWithin vl D cI cM A ad E hX (x) (nI (1)) (nI (999))) (va_cwS 3 C.2.2.2.2.1 gX5_setBudget_X5_isWithin rfl rfl rfl (by decide +kernel) ⟨Nat.le_of_ble_eq_true rfl, Nat.le_of_ble_eq_true rfl⟩) rfl rfl (Nat.le_of_ble_eq_true rfl) ⟨Nat.zero_le _, Nat.zero_le _⟩ dX5_setBudget_5 ?_
    refine z_top (nI (0)) (iw_n hx) ?_
    refine z_if_neN C 14 (by omega) dX5_setBudget_8 (by decide) (fun h8 => (by exfalso; omega)) (fun h8 => ?_)
    refine z_bipush C (-11) dX5_setBudget_11 (by decide) ?_
    exact hend _ _ _ _ dX5_setBudget_13 (⟨by rw [hop], by rw [hop]; exact hR, fun _ _ => rfl⟩)

theorem iw_X5_setShift_5 : ∀ w ∈ wsX50, w ∈ wsX5_setShift := by decide +kernel
theorem ln_X5_setShift_51 : Cond.fieldLink RX5 51 "MarqueeDisplay" "shift" "I" ∈ wsX5_setShift := by decide +kernel
set_option maxHeartbeats 4000000 in
set_option maxRecDepth 100000 in
theorem k_X5_setShift (vl : Launch) (D : va_G) (cI cM : ClassId) (A : Nat → Prop) (ad : Nat → Nat) (E : Nat → va_E) (hX : XD A 32 ad) {M : St} (x : Int32) (hI : Inv M) (hR : RelX cI cM ad M E) : MI vl yX5_setShift wsX5_setShift { frames := 2, cells := 0, slots := 0, locals := 42 } D cI cM A 32 ad E [.ref (ad 0), .int (x)] (fun r E1 => r = (o_setShift M x).1 ∧ RelX cI cM ad (o_setShift M x).2 E1 ∧ ∀ k : Nat, 30 ≤ k → E1 k = E k) := by
  refine mi_of cX5_setShift 3 (.int) RX5 (by decide) rfl rfl (Nat.le_of_ble_eq_true rfl) (fun r E1 h => rfl) ?_
  intro vp ve vs vm va vb vt vc Q C hend
  refine z_lv [(0, .ref (ad 0)), (1, .int (x))] ⟨rfl, rfl, rfl, rfl, trivial⟩ ?_
  obtain ⟨pm, hY, hMX, hs⟩ := id hR
  obtain ⟨e0, e1, e2, e3, b4, b5, l6, l7, hpm, hn6, hMY, e29⟩ := id hY
  obtain ⟨_, _, s26, -, -, -⟩ := id hs
  rw [strip_len] at s26
  obtain ⟨⟨iW1, iW2⟩, iG, ⟨iS1, iS2⟩, ⟨iB1, iB2⟩, iO, iC, iT, iN, iSh, iWd, iDt, iZ, iDf, iDz, iTx, iMs⟩ := id hI.1
  have hLM := hI.1.LM_le
  have hsl := hI.1.slen
  have hld : ∀ a, ldM M a ≤ 512 := fun a => Nat.le_trans (ldS_le _ _ _ _ _) (by omega)
  have hl4 := hld (M 0 4)
  rcases ws_c x with ⟨t1, ht1, rfl⟩ | hx
  · have hop : o_setShift M (shI t1) = (shI (M 0 8), s0 M 8 t1) := ws_y ht1
    refine z_iload_n C dX5_setShift_0 rfl ?_
    refine z_callSF C (k_X5_isShift vl D cI cM A ad E hX (shI t1)) (va_cwS 1 C.2.2.2.2.1 gX5_setShift_X5_isShift rfl rfl rfl (by decide +kernel) ⟨Nat.le_of_ble_eq_true rfl, Nat.le_of_ble_eq_true rfl⟩) rfl rfl (Nat.le_of_ble_eq_true rfl) ⟨Nat.zero_le _, Nat.zero_le _⟩ dX5_setShift_1 ?_
    refine z_top (nI (1)) (iw_y (shI_in t1 (by omega)).1) ?_
    refine z_if_neN C 10 (by omega) dX5_setShift_4 (by decide) (fun h4 => ?_) (fun h4 => (by exfalso; omega))
    refine z_aload_n C dX5_setShift_10 rfl ?_
    refine z_get C (0) (Cn := RX5) (T := TX5) (N := 12) (fi := 8) iw_X5_setShift_5 rfl (by decide) ln_X5_setShift_51 (by first | decide | omega) rfl e0 rfl dX5_setShift_11 ?_
    refine z_istore_n C [(0, .ref (ad 0)), (1, .int (shI t1)), (2, .int (shI (M 0 8)))] dX5_setShift_14 (by decide) ⟨rfl, rfl, rfl, rfl, rfl, rfl, trivial⟩ ?_
    refine z_aload_n C dX5_setShift_15 rfl ?_
    refine z_iload_n C dX5_setShift_16 rfl ?_
    refine z_put C (0) (Cn := RX5) (T := TX5) (N := 12) (fi := 8) tyX5 iw_X5_setShift_5 tyX5_ok nmX5 rfl (by decide) ln_X5_setShift_51 hX (by first | decide | omega) rfl e0 rfl rfl rfl rfl (Nat.le_of_ble_eq_true rfl) dX5_setShift_17 (fun Ez2 hE1 => ?_)
    have f4 : Ez2 (1) = .inr (0, [.ref (ad 2), .ref (ad 3)]) := va_up_of hE1 (by first | decide | omega) e1
    have f5 : Ez2 (2) = aI cI 27 (M 1) := va_up_of hE1 (by first | decide | omega) e2
    have f6 : Ez2 (3) = aI cI 162 (M 2) := va_up_of hE1 (by first | decide | omega) e3
    have f7 : Ez2 (4) = .inr (4, [.ref (ad 5), .int (nI (M 0 6))]) := va_up_of hE1 (by first | decide | omega) b4
    have f8 : Ez2 (5) = aI cI 12 (M 4) := va_up_of hE1 (by first | decide | omega) b5
    have f9 : Ez2 (6) = .inr (2, [.ref (ad 7), .int (nI (M 0 7))]) := va_up_of hE1 (by first | decide | omega) l6
    have f10 : Ez2 (7) = .inl (cM, 6, .inr (.inr (.inr (.inr (sf ad pm))))) := va_up_of hE1 (by first | decide | omega) l7
    have f11 : Ez2 (29) = aI cI 32 (M 3) := va_up_of hE1 (by first | decide | omega) e29
    have f12 : Ez2 (26) = .inr (3, [.ref (ad 27), .ref (ad 28), .int (nI (LM M))]) := va_up_of hE1 (by first | decide | omega) s26
    have f13 : Ez2 (0) = .inr (5, [.ref (ad 1), .ref (ad 4), .ref (ad 6), .ref (ad 26), .ref (ad 29), .int (nI (M 0 0)), .int (nI (M 0 1)), .int (nI (M 0 2)), .int (shI t1), .int (nI (M 0 3)), .int (nI (M 0 4)), .int (nI (M 0 5))]) := va_up_eq hE1
    have g14 : ∀ k : Nat, (k ≠ 0) → Ez2 k = E k := fun k hk => va_up_of hE1 (by omega) ((fun _ _ => rfl) k hk)
    refine z_iload_n C dX5_setShift_20 rfl ?_
    exact hend _ _ _ _ dX5_setShift_21 (⟨by rw [hop], by rw [hop]; exact ⟨pm, ⟨f13, f4, f5, f6, f7, f8, f9, f10, hpm, hn6, (MsgY_mv hpm hMY (fun k hk => g14 k (by omega))), f11⟩, (MsgX_mv hpm hn6 hMX (fun k hk => g14 k (by omega))), hs.mv (g14 _ (by omega)) (g14 _ (by omega)) (g14 _ (by omega))⟩, fun k hk => g14 k (by omega)⟩)
  · have hop : o_setShift M x = (-11, M) := ws_n hx
    refine z_iload_n C dX5_setShift_0 rfl ?_
    refine z_callSF C (k_X5_isShift vl D cI cM A ad E hX (x)) (va_cwS 1 C.2.2.2.2.1 gX5_setShift_X5_isShift rfl rfl rfl (by decide +kernel) ⟨Nat.le_of_ble_eq_true rfl, Nat.le_of_ble_eq_true rfl⟩) rfl rfl (Nat.le_of_ble_eq_true rfl) ⟨Nat.zero_le _, Nat.zero_le _⟩ dX5_setShift_1 ?_
    refine z_top (nI (0)) (iw_n hx) ?_
    refine z_if_neN C 10 (by omega) dX5_setShift_4 (by decide) (fun h4 => (by exfalso; omega)) (fun h4 => ?_)
    refine z_bipush C (-11) dX5_setShift_7 (by decide) ?_
    exact hend _ _ _ _ dX5_setShift_9 (⟨by rw [hop], by rw [hop]; exact hR, fun _ _ => rfl⟩)

