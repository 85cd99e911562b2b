set_option maxHeartbeats 4000000 in
set_option maxRecDepth 100000 in
theorem k_has_p (vl : Launch) (D : va_G) (cI cM : ClassId) (A : Nat → Prop) (ad : Nat → Nat) (E : Nat → va_E) (hX : XD A 40 ad) {v r : Nat} (hv : v < 256) (hr : r < 8) : MF vl yX6_has wsX6_has { frames := 0, cells := 0, slots := 0, locals := 0 } D cI cM A 40 ad E [.int (nI (v)), .int (nI (r))] (nI (b1 v r)) := by
  refine mf_of cX6_has 2 (.boolean) RX6 (by decide) rfl rfl (Nat.le_of_ble_eq_true rfl) (by have h := b1_le v r; rcases (show b1 v r = 0 ∨ b1 v r = 1 by omega) with e | e <;> rw [e] <;> rfl) ?_
  intro vp ve vs vm va vb vt vc Q C hend
  refine z_lv [(0, .int (nI (v))), (1, .int (nI (r)))] ⟨rfl, rfl, rfl, rfl, trivial⟩ ?_
  have hb := b1_le v r
  refine z_iload_n C dX6_has_0 rfl ?_
  refine z_if_ltN C 17 (by omega) dX6_has_1 (by decide) ?_
  refine z_iload_n C dX6_has_4 rfl ?_
  refine z_iload_n C dX6_has_5 rfl ?_
  refine z_ishr C dX6_has_6  ?_
  refine z_iconst C (nI (1)) dX6_has_7 (by decide) ?_
  refine z_iand C dX6_has_8  ?_
  refine z_top (nI (b1 v r)) (b1_sh _ hv _ hr) ?_
  refine z_iconst C (nI (1)) dX6_has_9 (by decide) ?_
  refine z_icmp_neN C 17 (by omega) (by omega) dX6_has_10 (by decide) (fun h10 => ?_) (fun h10 => ?_)
  · refine z_iconst C (nI (0)) dX6_has_17 (by decide) ?_
    exact hend _ _ _ dX6_has_18 (by rw [show b1 v r = 0 by omega])
  · refine z_iconst C (nI (1)) dX6_has_13 (by decide) ?_
    refine z_goto C 18 dX6_has_14 (by decide) ?_
    exact hend _ _ _ dX6_has_18 (by rw [h10])

set_option maxHeartbeats 4000000 in
set_option maxRecDepth 100000 in
theorem k_has_n (vl : Launch) (D : va_G) (cI cM : ClassId) (A : Nat → Prop) (ad : Nat → Nat) (E : Nat → va_E) (hX : XD A 40 ad) {v : Nat} {x : Int32} (hx : x < 0) : MF vl yX6_has wsX6_has { frames := 0, cells := 0, slots := 0, locals := 0 } D cI cM A 40 ad E [.int (nI (v)), .int (x)] (nI 0) := by
  refine mf_of cX6_has 2 (.boolean) RX6 (by decide) rfl rfl (Nat.le_of_ble_eq_true rfl) (rfl) ?_
  intro vp ve vs vm va vb vt vc Q C hend
  refine z_lv [(0, .int (nI (v))), (1, .int (x))] ⟨rfl, rfl, rfl, rfl, trivial⟩ ?_
  refine z_iload_n C dX6_has_0 rfl ?_
  refine z_if_lt C 17 dX6_has_1 (by decide) (fun h1 => ?_) (fun h1 => (by exfalso; exact h1 hx))
  refine z_iconst C (nI (0)) dX6_has_17 (by decide) ?_
  exact hend _ _ _ dX6_has_18 (rfl)

theorem mW_ws (wd le : Nat → Nat) : ∀ k, mW wd le k = (k - 1) + sm (fun i => wd (le i)) k
  | 0 => rfl
  | k + 1 => by
    rw [mW, mW_ws wd le k, sm]
    by_cases h : k = 0
    · rw [if_pos h]; omega
    · rw [if_neg h]; omega
theorem mcols_cg2 {wd dt : Nat → Nat} {co co2 : Nat} {g h : Nat → Nat} {k : Nat} (hc : co = co2) (e : ∀ i, i < k → g i = h i) : mcols wd dt co g k = mcols wd dt co2 h k := by rw [hc]; exact mcols_cg e
theorem scols_cg {wd dt : Nat → Nat} {G : Nat} {sz co sz2 co2 : Nat → Nat} {le le2 : Nat → Nat → Nat} : ∀ {n : Nat}, (∀ i, i < n → sz i = sz2 i ∧ co i = co2 i ∧ ∀ k, k < sz i → le i k = le2 i k) → scols wd dt G sz co le n = scols wd dt G sz2 co2 le2 n
  | 0, _ => rfl
  | n + 1, h => by
    obtain ⟨h1, h2, h3⟩ := h n (by omega)
    rw [scols, scols, scols_cg (fun i hi => h i (by omega)), mcols_cg2 h2 h3, h1]
theorem sL_cg {wd : Nat → Nat} {G : Nat} {sz sz2 : Nat → Nat} {le le2 : Nat → Nat → Nat} : ∀ {n : Nat}, (∀ i, i < n → sz i = sz2 i ∧ ∀ k, k < sz i → le i k = le2 i k) → sL wd G sz le n = sL wd G sz2 le2 n
  | 0, _ => rfl
  | n + 1, h => by
    obtain ⟨h1, h3⟩ := h n (by omega)
    rw [sL, sL, sL_cg (fun i hi => h i (by omega)), mW_cg h3, h1]
def MS (cI : ClassId) (E : Nat → va_E) (l : List (Nat × Nat)) : Prop := ∃ sd sc : Nat → Nat, E 38 = aI cI 600 sd ∧ E 39 = aI cI 600 sc ∧ SP sd sc l
theorem MS.mv {cI : ClassId} {E E1 : Nat → va_E} {l : List (Nat × Nat)} (h : MS cI E l) (h8 : E1 38 = E 38) (h9 : E1 39 = E 39) : MS cI E1 l := by
  obtain ⟨sd, sc, a, b, d⟩ := h
  exact ⟨sd, sc, h8.trans a, h9.trans b, d⟩
theorem iw_X6_widthOf_6 : ∀ w ∈ wsX60, w ∈ wsX6_widthOf := by decide +kernel
theorem ln_X6_widthOf_35 : Cond.fieldLink RX6 35 "MarqueeDisplayModel" "size" "[I" ∈ wsX6_widthOf := by decide +kernel
theorem ln_X6_widthOf_22 : Cond.fieldLink RX6 22 "MarqueeDisplayModel" "width" "[I" ∈ wsX6_widthOf := by decide +kernel
theorem ln_X6_widthOf_41 : Cond.fieldLink RX6 41 "MarqueeDisplayModel" "letter" "[I" ∈ wsX6_widthOf := by decide +kernel
set_option maxHeartbeats 4000000 in
set_option maxRecDepth 100000 in
theorem k_X6_widthOf (vl : Launch) (D : va_G) (cI cM : ClassId) (A : Nat → Prop) (ad : Nat → Nat) (E : Nat → va_E) (hX : XD A 40 ad) {W G S B off cnt t tl n sp : Nat} {wd sz lt : Nat → Nat} {i : Nat} (e30 : E (30) = .inr (6, [.int (nI (W)), .int (nI (G)), .int (nI (S)), .int (shI (t)), .int (nI (B)), .int (nI (off)), .int (nI (cnt)), .ref (ad 31), .ref (ad 32), .ref (ad 33), .int (nI (tl)), .ref (ad 34), .int (nI (n)), .ref (ad 35), .ref (ad 36), .ref (ad 37), .int (nI (sp)), .ref (ad 38), .ref (ad 39)])) (e31 : E (31) = aI cI 27 wd) (e35 : E (35) = aI cI 6 sz) (e37 : E (37) = aI cI 72 lt) (hi : i < 6) (hs : 1 ≤ sz i ∧ sz i ≤ 12) (hl : ∀ k, k < sz i → ltr lt i k < 27) (hw : ∀ c, c < 27 → wd c ≤ 6) : MF vl yX6_widthOf wsX6_widthOf { frames := 0, cells := 0, slots := 0, locals := 0 } D cI cM A 40 ad E [.ref (ad 30), .int (nI (i))] (nI (mW wd (ltr lt i) (sz i))) := by
  refine mf_of cX6_widthOf 4 (.int) RX6 (by decide) rfl rfl (Nat.le_of_ble_eq_true rfl) (rfl) ?_
  intro vp ve vs vm va vb vt vc Q C hend
  refine z_lv [(0, .ref (ad 30)), (1, .int (nI (i)))] ⟨rfl, rfl, rfl, rfl, trivial⟩ ?_
  refine z_aload_n C dX6_widthOf_0 rfl ?_
  refine z_get C (30) (Cn := RX6) (T := TX6) (N := 19) (fi := 13) iw_X6_widthOf_6 rfl (by decide) ln_X6_widthOf_35 (by first | decide | omega) rfl e30 rfl dX6_widthOf_1 ?_
  refine z_iload_n C dX6_widthOf_4 rfl ?_
  refine z_ialdG C (35) (by first | decide | omega) rfl e35 (by omega) (by decide) dX6_widthOf_5 ?_
  refine z_iconst C (nI (1)) dX6_widthOf_6 (by decide) ?_
  refine z_isubN C (by omega) dX6_widthOf_7 ?_
  refine z_istore_n C [(0, .ref (ad 30)), (1, .int (nI (i))), (2, .int (nI ((sz (i)) - 1)))] dX6_widthOf_8 (by decide) ⟨rfl, rfl, rfl, rfl, rfl, rfl, trivial⟩ ?_
  refine z_iconst C (nI (0)) dX6_widthOf_9 (by decide) ?_
  refine z_istore_n C [(0, .ref (ad 30)), (1, .int (nI (i))), (2, .int (nI ((sz (i)) - 1))), (3, .int (nI (0)))] dX6_widthOf_10 (by decide) ⟨rfl, rfl, rfl, rfl, rfl, rfl, rfl, rfl, trivial⟩ ?_
  have loop11 : ∀ (fuel : Nat) (k : Nat), (hk : k ≤ sz i) → sz i - k < fuel → Z vp vl ve { frames := 0, cells := 0, slots := 0, locals := 0 } vs vm va vb vt vc 4 D A 40 ad E [(0, .ref (ad 30)), (1, .int (nI (i))), (2, .int (nI ((sz i - 1) + sm (fun q => wd (ltr lt i q)) k))), (3, .int (nI (k)))] 0 0 Q 11 [] := by
    intro fuel
    induction fuel with
    | zero => intro k hk hlt; exact absurd hlt (Nat.not_lt_zero _)
    | succ fuel ih =>
      intro k hk hlt
      have hsm : sm (fun q => wd (ltr lt i q)) k ≤ k * 6 := sm_le (fun q hq => hw _ (hl q (by omega)))
      have ih11 := ih
      refine z_iload_n C dX6_widthOf_11 rfl ?_
      refine z_aload_n C dX6_widthOf_12 rfl ?_
      refine z_get C (30) (Cn := RX6) (T := TX6) (N := 19) (fi := 13) iw_X6_widthOf_6 rfl (by decide) ln_X6_widthOf_35 (by first | decide | omega) rfl e30 rfl dX6_widthOf_13 ?_
      refine z_iload_n C dX6_widthOf_16 rfl ?_
      refine z_ialdG C (35) (by first | decide | omega) rfl e35 (by omega) (by decide) dX6_widthOf_17 ?_
      refine z_icmp_geN C 46 (by omega) (by omega) dX6_widthOf_18 (by decide) (fun h18 => ?_) (fun h18 => ?_)
      · have hke : k = sz i := by omega
        refine z_iload_n C dX6_widthOf_46 rfl ?_
        exact hend _ _ _ dX6_widthOf_47 (by rw [mW_ws, hke])
      · have hlk := hl k h18
        have hlk2 : lt (12 * i + k) < 27 := hlk
        refine z_iload_n C dX6_widthOf_21 rfl ?_
        refine z_aload_n C dX6_widthOf_22 rfl ?_
        refine z_get C (30) (Cn := RX6) (T := TX6) (N := 19) (fi := 7) iw_X6_widthOf_6 rfl (by decide) ln_X6_widthOf_22 (by first | decide | omega) rfl e30 rfl dX6_widthOf_23 ?_
        refine z_aload_n C dX6_widthOf_26 rfl ?_
        refine z_get C (30) (Cn := RX6) (T := TX6) (N := 19) (fi := 15) iw_X6_widthOf_6 rfl (by decide) ln_X6_widthOf_41 (by first | decide | omega) rfl e30 rfl dX6_widthOf_27 ?_
        refine z_bipush C (nI (12)) dX6_widthOf_30 (by decide) ?_
        refine z_iload_n C dX6_widthOf_32 rfl ?_
        refine z_imulN C  dX6_widthOf_33 ?_
        refine z_iload_n C dX6_widthOf_34 rfl ?_
        refine z_iaddN C  dX6_widthOf_35 ?_
        refine z_ialdG C (37) (by first | decide | omega) rfl e37 (by omega) (by decide) dX6_widthOf_36 ?_
        refine z_ialdG C (31) (by first | decide | omega) rfl e31 (hlk2) (by decide) dX6_widthOf_37 ?_
        refine z_iaddN C  dX6_widthOf_38 ?_
        refine z_istore_n C [(0, .ref (ad 30)), (1, .int (nI (i))), (2, .int (nI (((sz i - 1) + sm (fun q => wd (ltr lt i q)) k) + (wd (lt ((12 * i) + k)))))), (3, .int (nI (k)))] dX6_widthOf_39 (by decide) ⟨rfl, rfl, rfl, rfl, rfl, rfl, rfl, rfl, trivial⟩ ?_
        refine z_iincN (j := 1) C [(0, .ref (ad 30)), (1, .int (nI (i))), (2, .int (nI (((sz i - 1) + sm (fun q => wd (ltr lt i q)) k) + (wd (lt ((12 * i) + k)))))), (3, .int (nI (k + 1)))] dX6_widthOf_40 rfl (by decide) ⟨rfl, rfl, rfl, rfl, rfl, rfl, rfl, rfl, trivial⟩ ?_
        refine z_goto C 11 dX6_widthOf_43 (by decide) ?_
        refine z_lv [(0, .ref (ad 30)), (1, .int (nI (i))), (2, .int (nI (((sz i - 1) + sm (fun q => wd (ltr lt i q)) k) + (wd (lt ((12 * i) + k)))))), (3, .int (nI (k + 1)))] ⟨rfl, rfl, rfl, rfl, rfl, rfl, rfl, rfl, trivial⟩ ?_
        have q := ih11 (k + 1) (by omega) (by omega)
        rw [sm, ← Nat.add_assoc] at q
        exact q
  refine z_lv [(0, .ref (ad 30)), (1, .int (nI (i))), (2, .int (nI ((sz (i)) - 1))), (3, .int (nI (0)))] ⟨rfl, rfl, rfl, rfl, rfl, rfl, rfl, rfl, trivial⟩ ?_
  exact loop11 (sz i + 1) 0 (Nat.zero_le _) (by omega)

theorem iw_X6_startOf_6 : ∀ w ∈ wsX60, w ∈ wsX6_startOf := by decide +kernel
theorem ln_X6_startOf_13 : Cond.fieldLink RX6 13 "MarqueeDisplayModel" "gap" "I" ∈ wsX6_startOf := by decide +kernel
set_option maxHeartbeats 4000000 in
set_option maxRecDepth 100000 in
theorem k_X6_startOf (vl : Launch) (D : va_G) (cI cM : ClassId) (A : Nat → Prop) (ad : Nat → Nat) (E : Nat → va_E) (hX : XD A 40 ad) {W G S B off cnt t tl n sp : Nat} {wd sz lt : Nat → Nat} {i : Nat} (e30 : E (30) = .inr (6, [.int (nI (W)), .int (nI (G)), .int (nI (S)), .int (shI (t)), .int (nI (B)), .int (nI (off)), .int (nI (cnt)), .ref (ad 31), .ref (ad 32), .ref (ad 33), .int (nI (tl)), .ref (ad 34), .int (nI (n)), .ref (ad 35), .ref (ad 36), .ref (ad 37), .int (nI (sp)), .ref (ad 38), .ref (ad 39)])) (e31 : E (31) = aI cI 27 wd) (e35 : E (35) = aI cI 6 sz) (e37 : E (37) = aI cI 72 lt) (hn : n ≤ 6) (hsz : ∀ i, i < n → (1 ≤ sz i ∧ sz i ≤ 12) ∧ ∀ k, k < sz i → ltr lt i k < 27) (hw : ∀ c, c < 27 → wd c ≤ 6) (hG : G ≤ 9) (hi : i ≤ n) : MF vl yX6_startOf wsX6_startOf { frames := 1, cells := 0, slots := 0, locals := 23 } D cI cM A 40 ad E [.ref (ad 30), .int (nI (i))] (nI (sL wd G sz (ltr lt) i)) := by
  refine mf_of cX6_startOf 4 (.int) RX6 (by decide) rfl rfl (Nat.le_of_ble_eq_true rfl) (rfl) ?_
  intro vp ve vs vm va vb vt vc Q C hend
  refine z_lv [(0, .ref (ad 30)), (1, .int (nI (i)))] ⟨rfl, rfl, rfl, rfl, trivial⟩ ?_
  refine z_iconst C (nI (0)) dX6_startOf_0 (by decide) ?_
  refine z_istore_n C [(0, .ref (ad 30)), (1, .int (nI (i))), (2, .int (nI (0)))] dX6_startOf_1 (by decide) ⟨rfl, rfl, rfl, rfl, rfl, rfl, trivial⟩ ?_
  refine z_iconst C (nI (0)) dX6_startOf_2 (by decide) ?_
  refine z_istore_n C [(0, .ref (ad 30)), (1, .int (nI (i))), (2, .int (nI (0))), (3, .int (nI (0)))] dX6_startOf_3 (by decide) ⟨rfl, rfl, rfl, rfl, rfl, rfl, rfl, rfl, trivial⟩ ?_
  have loop4 : ∀ (fuel : Nat) (k : Nat), (hk : k ≤ i) → i - k < fuel → Z vp vl ve { frames := 1, cells := 0, slots := 0, locals := 23 } vs vm va vb vt vc 4 D A 40 ad E [(0, .ref (ad 30)), (1, .int (nI (i))), (2, .int (nI (sL wd G sz (ltr lt) k))), (3, .int (nI (k)))] 0 0 Q 4 [] := by
    intro fuel
    induction fuel with
    | zero => intro k hk hlt; exact absurd hlt (Nat.not_lt_zero _)
    | succ fuel ih =>
      intro k hk hlt
      have ih4 := ih
      refine z_iload_n C dX6_startOf_4 rfl ?_
      refine z_iload_n C dX6_startOf_5 rfl ?_
      refine z_icmp_geN C 28 (by omega) (by omega) dX6_startOf_6 (by decide) (fun h6 => ?_) (fun h6 => ?_)
      · have hke : k = i := by omega
        refine z_iload_n C dX6_startOf_28 rfl ?_
        exact hend _ _ _ dX6_startOf_29 (by rw [hke])
      · have hks := hsz k (by omega)
        refine z_iload_n C dX6_startOf_9 rfl ?_
        refine z_aload_n C dX6_startOf_10 rfl ?_
        refine z_iload_n C dX6_startOf_11 rfl ?_
        refine z_callVF C (30) (Cn := RX6) (T := TX6) (N := 19) (k_X6_widthOf vl D cI cM A ad E hX e30 e31 e35 e37 (by omega) hks.1 hks.2 hw) (cwV 1 C.2.2.2.2.1 gX6_startOf_X6_widthOf rfl rfl rfl (by decide +kernel) ⟨Nat.le_of_ble_eq_true rfl, Nat.le_of_ble_eq_true rfl⟩) rfl (by first | decide | omega) rfl e30 rfl rfl (Nat.le_of_ble_eq_true rfl) ⟨Nat.zero_le _, Nat.zero_le _⟩ dX6_startOf_12 ?_
        refine z_aload_n C dX6_startOf_15 rfl ?_
        refine z_get C (30) (Cn := RX6) (T := TX6) (N := 19) (fi := 1) iw_X6_startOf_6 rfl (by decide) ln_X6_startOf_13 (by first | decide | omega) rfl e30 rfl dX6_startOf_16 ?_
        refine z_iaddN C  dX6_startOf_19 ?_
        refine z_iaddN C  dX6_startOf_20 ?_
        refine z_istore_n C [(0, .ref (ad 30)), (1, .int (nI (i))), (2, .int (nI ((sL wd G sz (ltr lt) k) + ((mW wd (ltr lt k) (sz k)) + G)))), (3, .int (nI (k)))] dX6_startOf_21 (by decide) ⟨rfl, rfl, rfl, rfl, rfl, rfl, rfl, rfl, trivial⟩ ?_
        refine z_iincN (j := 1) C [(0, .ref (ad 30)), (1, .int (nI (i))), (2, .int (nI ((sL wd G sz (ltr lt) k) + ((mW wd (ltr lt k) (sz k)) + G)))), (3, .int (nI (k + 1)))] dX6_startOf_22 rfl (by decide) ⟨rfl, rfl, rfl, rfl, rfl, rfl, rfl, rfl, trivial⟩ ?_
        refine z_goto C 4 dX6_startOf_25 (by decide) ?_
        refine z_lv [(0, .ref (ad 30)), (1, .int (nI (i))), (2, .int (nI ((sL wd G sz (ltr lt) k) + ((mW wd (ltr lt k) (sz k)) + G)))), (3, .int (nI (k + 1)))] ⟨rfl, rfl, rfl, rfl, rfl, rfl, rfl, rfl, trivial⟩ ?_
        have q := ih4 (k + 1) (by omega) (by omega)
        rw [sL, Nat.add_assoc] at q
        exact q
  refine z_lv [(0, .ref (ad 30)), (1, .int (nI (i))), (2, .int (nI (0))), (3, .int (nI (0)))] ⟨rfl, rfl, rfl, rfl, rfl, rfl, rfl, rfl, trivial⟩ ?_
  exact loop4 (i + 1) 0 (Nat.zero_le _) (by omega)

theorem iw_X6_all_6 : ∀ w ∈ wsX60, w ∈ wsX6_all := by decide +kernel
theorem ln_X6_all_54 : Cond.fieldLink RX6 54 "MarqueeDisplayModel" "messages" "I" ∈ wsX6_all := by decide +kernel
set_option maxHeartbeats 4000000 in
set_option maxRecDepth 100000 in
theorem k_X6_all (vl : Launch) (D : va_G) (cI cM : ClassId) (A : Nat → Prop) (ad : Nat → Nat) (E : Nat → va_E) (hX : XD A 40 ad) {W G S B off cnt t tl n sp : Nat} {wd sz lt : Nat → Nat} (e30 : E (30) = .inr (6, [.int (nI (W)), .int (nI (G)), .int (nI (S)), .int (shI (t)), .int (nI (B)), .int (nI (off)), .int (nI (cnt)), .ref (ad 31), .ref (ad 32), .ref (ad 33), .int (nI (tl)), .ref (ad 34), .int (nI (n)), .ref (ad 35), .ref (ad 36), .ref (ad 37), .int (nI (sp)), .ref (ad 38), .ref (ad 39)])) (e31 : E (31) = aI cI 27 wd) (e35 : E (35) = aI cI 6 sz) (e37 : E (37) = aI cI 72 lt) (hn : n ≤ 6) (hsz : ∀ i, i < n → (1 ≤ sz i ∧ sz i ≤ 12) ∧ ∀ k, k < sz i → ltr lt i k < 27) (hw : ∀ c, c < 27 → wd c ≤ 6) (hG : G ≤ 9) : MF vl yX6_all wsX6_all { frames := 2, cells := 0, slots := 0, locals := 46 } D cI cM A 40 ad E [.ref (ad 30)] (nI (sL wd G sz (ltr lt) n)) := by
  refine mf_of cX6_all 1 (.int) RX6 (by decide) rfl rfl (Nat.le_of_ble_eq_true rfl) (rfl) ?_
  intro vp ve vs vm va vb vt vc Q C hend
  refine z_lv [(0, .ref (ad 30))] ⟨rfl, rfl, trivial⟩ ?_
  refine z_aload_n C dX6_all_0 rfl ?_
  refine z_aload_n C dX6_all_1 rfl ?_
  refine z_get C (30) (Cn := RX6) (T := TX6) (N := 19) (fi := 12) iw_X6_all_6 rfl (by decide) ln_X6_all_54 (by first | decide | omega) rfl e30 rfl dX6_all_2 ?_
  refine z_callVF C (30) (Cn := RX6) (T := TX6) (N := 19) (k_X6_startOf vl D cI cM A ad E hX e30 e31 e35 e37 hn hsz hw hG (Nat.le_refl _)) (cwV 1 C.2.2.2.2.1 gX6_all_X6_startOf rfl rfl rfl (by decide +kernel) ⟨Nat.le_of_ble_eq_true rfl, Nat.le_of_ble_eq_true rfl⟩) rfl (by first | decide | omega) rfl e30 rfl rfl (Nat.le_of_ble_eq_true rfl) ⟨Nat.zero_le _, Nat.zero_le _⟩ dX6_all_5 ?_
  exact hend _ _ _ dX6_all_8 (rfl)

theorem sL_le2 {wd : Nat → Nat} {G : Nat} {sz : Nat → Nat} {le : Nat → Nat → Nat} {n : Nat} (hn : n ≤ 6) (hsz : ∀ i, i < n → (1 ≤ sz i ∧ sz i ≤ 12) ∧ ∀ k, k < sz i → le i k < 27) (hw : ∀ c, c < 27 → wd c ≤ 6) (hG : G ≤ 9) : sL wd G sz le n ≤ 552 := by
  have h := sL_le (sz := sz) (le := le) hw hG n (fun i hi => ⟨(hsz i hi).1.2, (hsz i hi).2⟩)
  omega
theorem iw_X6_settles_6 : ∀ w ∈ wsX60, w ∈ wsX6_settles := by decide +kernel
theorem ln_X6_settles_64 : Cond.fieldLink RX6 64 "MarqueeDisplayModel" "offset" "I" ∈ wsX6_settles := by decide +kernel
set_option maxHeartbeats 4000000 in
set_option maxRecDepth 100000 in
theorem k_X6_settles (vl : Launch) (D : va_G) (cI cM : ClassId) (A : Nat → Prop) (ad : Nat → Nat) (E : Nat → va_E) (hX : XD A 40 ad) {W G S B off cnt t tl n sp : Nat} {wd sz lt : Nat → Nat} (e30 : E (30) = .inr (6, [.int (nI (W)), .int (nI (G)), .int (nI (S)), .int (shI (t)), .int (nI (B)), .int (nI (off)), .int (nI (cnt)), .ref (ad 31), .ref (ad 32), .ref (ad 33), .int (nI (tl)), .ref (ad 34), .int (nI (n)), .ref (ad 35), .ref (ad 36), .ref (ad 37), .int (nI (sp)), .ref (ad 38), .ref (ad 39)])) (e31 : E (31) = aI cI 27 wd) (e35 : E (35) = aI cI 6 sz) (e37 : E (37) = aI cI 72 lt) (hn : n ≤ 6) (hsz : ∀ i, i < n → (1 ≤ sz i ∧ sz i ≤ 12) ∧ ∀ k, k < sz i → ltr lt i k < 27) (hw : ∀ c, c < 27 → wd c ≤ 6) (hG : G ≤ 9) (ho : off < 2 ^ 31) : MI vl yX6_settles wsX6_settles { frames := 3, cells := 0, slots := 0, locals := 66 } D cI cM A 40 ad E [.ref (ad 30)] (fun r E1 => r = nI (sL wd G sz (ltr lt) n) ∧ E1 30 = .inr (6, [.int (nI (W)), .int (nI (G)), .int (nI (S)), .int (shI (t)), .int (nI (B)), .int (nI (if off < sL wd G sz (ltr lt) n then off else 0)), .int (nI (cnt)), .ref (ad 31), .ref (ad 32), .ref (ad 33), .int (nI (tl)), .ref (ad 34), .int (nI (n)), .ref (ad 35), .ref (ad 36), .ref (ad 37), .int (nI (sp)), .ref (ad 38), .ref (ad 39)]) ∧ ∀ k : Nat, (k ≠ 30) → E1 k = E k) := by
  refine mi_of cX6_settles 2 (.int) RX6 (by decide) rfl rfl (Nat.le_of_ble_eq_true rfl) (fun r E1 h => rfl) ?_
  intro vp ve vs vm va vb vt vc Q C hend
  refine z_lv [(0, .ref (ad 30))] ⟨rfl, rfl, trivial⟩ ?_
  have hLL := sL_le2 (le := ltr lt) hn hsz hw hG
  refine z_aload_n C dX6_settles_0 rfl ?_
  refine z_callVF C (30) (Cn := RX6) (T := TX6) (N := 19) (k_X6_all vl D cI cM A ad E hX e30 e31 e35 e37 hn hsz hw hG) (cwV 0 C.2.2.2.2.1 gX6_settles_X6_all rfl rfl rfl (by decide +kernel) ⟨Nat.le_of_ble_eq_true rfl, Nat.le_of_ble_eq_true rfl⟩) rfl (by first | decide | omega) rfl e30 rfl rfl (Nat.le_of_ble_eq_true rfl) ⟨Nat.zero_le _, Nat.zero_le _⟩ dX6_settles_1 ?_
  refine z_istore_n C [(0, .ref (ad 30)), (1, .int (nI (sL wd G sz (ltr lt) n)))] dX6_settles_4 (by decide) ⟨rfl, rfl, rfl, rfl, trivial⟩ ?_
  refine z_aload_n C dX6_settles_5 rfl ?_
  refine z_aload_n C dX6_settles_6 rfl ?_
  refine z_get C (30) (Cn := RX6) (T := TX6) (N := 19) (fi := 5) iw_X6_settles_6 rfl (by decide) ln_X6_settles_64 (by first | decide | omega) rfl e30 rfl dX6_settles_7 ?_
  refine z_iload_n C dX6_settles_10 rfl ?_
  refine z_icmp_geN C 21 (by omega) (by omega) dX6_settles_11 (by decide) (fun h11 => ?_) (fun h11 => ?_)
  · refine z_iconst C (nI (0)) dX6_settles_21 (by decide) ?_
    refine z_put C (30) (Cn := RX6) (T := TX6) (N := 19) (fi := 5) tyX6 iw_X6_settles_6 tyX6_ok nmX6 rfl (by decide) ln_X6_settles_64 hX (by first | decide | omega) rfl e30 rfl rfl rfl rfl (Nat.le_of_ble_eq_true rfl) dX6_settles_22 (fun Ez2 hE1 => ?_)
    have f4 : Ez2 (31) = aI cI 27 wd := va_up_of hE1 (by first | decide | omega) e31
    have f5 : Ez2 (35) = aI cI 6 sz := va_up_of hE1 (by first | decide | omega) e35
    have f6 : Ez2 (37) = aI cI 72 lt := va_up_of hE1 (by first | decide | omega) e37
    have f7 : Ez2 (30) = .inr (6, [.int (nI (W)), .int (nI (G)), .int (nI (S)), .int (shI (t)), .int (nI (B)), .int (nI (0)), .int (nI (cnt)), .ref (ad 31), .ref (ad 32), .ref (ad 33), .int (nI (tl)), .ref (ad 34), .int (nI (n)), .ref (ad 35), .ref (ad 36), .ref (ad 37), .int (nI (sp)), .ref (ad 38), .ref (ad 39)]) := va_up_eq hE1
    have g8 : ∀ k : Nat, (k ≠ 30) → Ez2 k = E k := fun k hk => va_up_of hE1 (by omega) ((fun _ _ => rfl) k hk)
    refine z_iload_n C dX6_settles_25 rfl ?_
    exact hend _ _ _ _ dX6_settles_26 (⟨rfl, f7.trans (by rw [if_neg (by omega)]), g8⟩)
  · refine z_aload_n C dX6_settles_14 rfl ?_
    refine z_get C (30) (Cn := RX6) (T := TX6) (N := 19) (fi := 5) iw_X6_settles_6 rfl (by decide) ln_X6_settles_64 (by first | decide | omega) rfl e30 rfl dX6_settles_15 ?_
    refine z_goto C 22 dX6_settles_18 (by decide) ?_
    refine z_put C (30) (Cn := RX6) (T := TX6) (N := 19) (fi := 5) tyX6 iw_X6_settles_6 tyX6_ok nmX6 rfl (by decide) ln_X6_settles_64 hX (by first | decide | omega) rfl e30 rfl rfl rfl rfl (Nat.le_of_ble_eq_true rfl) dX6_settles_22 (fun Ez10 hE9 => ?_)
    have f12 : Ez10 (31) = aI cI 27 wd := va_up_of hE9 (by first | decide | omega) e31
    have f13 : Ez10 (35) = aI cI 6 sz := va_up_of hE9 (by first | decide | omega) e35
    have f14 : Ez10 (37) = aI cI 72 lt := va_up_of hE9 (by first | decide | omega) e37
    have f15 : Ez10 (30) = .inr (6, [.int (nI (W)), .int (nI (G)), .int (nI (S)), .int (shI (t)), .int (nI (B)), .int (nI (off)), .int (nI (cnt)), .ref (ad 31), .ref (ad 32), .ref (ad 33), .int (nI (tl)), .ref (ad 34), .int (nI (n)), .ref (ad 35), .ref (ad 36), .ref (ad 37), .int (nI (sp)), .ref (ad 38), .ref (ad 39)]) := va_up_eq hE9
    have g16 : ∀ k : Nat, (k ≠ 30) → Ez10 k = E k := fun k hk => va_up_of hE9 (by omega) ((fun _ _ => rfl) k hk)
    refine z_iload_n C dX6_settles_25 rfl ?_
    exact hend _ _ _ _ dX6_settles_26 (⟨rfl, f15.trans (by rw [if_pos h11]), g16⟩)

theorem iw_X6_dark_6 : ∀ w ∈ wsX60, w ∈ wsX6_dark := by decide +kernel
theorem ln_X6_dark_44 : Cond.fieldLink RX6 44 "MarqueeDisplayModel" "dots" "[I" ∈ wsX6_dark := by decide +kernel
theorem ln_X6_dark_67 : Cond.fieldLink RX6 67 "MarqueeDisplayModel" "strip" "I" ∈ wsX6_dark := by decide +kernel
theorem ln_X6_dark_47 : Cond.fieldLink RX6 47 "MarqueeDisplayModel" "paint" "[I" ∈ wsX6_dark := by decide +kernel
set_option maxHeartbeats 4000000 in
set_option maxRecDepth 100000 in
theorem k_X6_dark (vl : Launch) (D : va_G) (cI cM : ClassId) (A : Nat → Prop) (ad : Nat → Nat) (E : Nat → va_E) (hX : XD A 40 ad) {W G S B off cnt t tl n : Nat} {L0 : List (Nat × Nat)} (e30 : E (30) = .inr (6, [.int (nI (W)), .int (nI (G)), .int (nI (S)), .int (shI (t)), .int (nI (B)), .int (nI (off)), .int (nI (cnt)), .ref (ad 31), .ref (ad 32), .ref (ad 33), .int (nI (tl)), .ref (ad 34), .int (nI (n)), .ref (ad 35), .ref (ad 36), .ref (ad 37), .int (nI (L0.length)), .ref (ad 38), .ref (ad 39)])) (hs : MS cI E L0) (hl : L0.length < 600) : MV vl yX6_dark wsX6_dark { frames := 0, cells := 0, slots := 0, locals := 0 } D cI cM A 40 ad E [.ref (ad 30)] (fun E1 => E1 30 = .inr (6, [.int (nI (W)), .int (nI (G)), .int (nI (S)), .int (shI (t)), .int (nI (B)), .int (nI (off)), .int (nI (cnt)), .ref (ad 31), .ref (ad 32), .ref (ad 33), .int (nI (tl)), .ref (ad 34), .int (nI (n)), .ref (ad 35), .ref (ad 36), .ref (ad 37), .int (nI (L0.length + 1)), .ref (ad 38), .ref (ad 39)]) ∧ MS cI E1 (L0 ++ [(0, 0)]) ∧ ∀ k : Nat, (k ≠ 30 ∧ k ≠ 38 ∧ k ≠ 39) → E1 k = E k) := by
  refine mv_of cX6_dark 1 RX6 (by decide) rfl rfl (Nat.le_of_ble_eq_true rfl) ?_
  intro vp ve vs vm va vb vt vc Q C hend
  refine z_lv [(0, .ref (ad 30))] ⟨rfl, rfl, trivial⟩ ?_
  obtain ⟨sd, sc, s38, s39, hsp⟩ := hs
  refine z_aload_n C dX6_dark_0 rfl ?_
  refine z_get C (30) (Cn := RX6) (T := TX6) (N := 19) (fi := 17) iw_X6_dark_6 rfl (by decide) ln_X6_dark_44 (by first | decide | omega) rfl e30 rfl dX6_dark_1 ?_
  refine z_aload_n C dX6_dark_4 rfl ?_
  refine z_get C (30) (Cn := RX6) (T := TX6) (N := 19) (fi := 16) iw_X6_dark_6 rfl (by decide) ln_X6_dark_67 (by first | decide | omega) rfl e30 rfl dX6_dark_5 ?_
  refine z_iconst C (nI (0)) dX6_dark_8 (by decide) ?_
  refine z_iastG C (38) hX (by first | decide | omega) rfl s38 (by omega) (by decide) dX6_dark_9 (fun Ez2 hE1 => ?_)
  have f3 : Ez2 (30) = .inr (6, [.int (nI (W)), .int (nI (G)), .int (nI (S)), .int (shI (t)), .int (nI (B)), .int (nI (off)), .int (nI (cnt)), .ref (ad 31), .ref (ad 32), .ref (ad 33), .int (nI (tl)), .ref (ad 34), .int (nI (n)), .ref (ad 35), .ref (ad 36), .ref (ad 37), .int (nI (L0.length)), .ref (ad 38), .ref (ad 39)]) := va_up_of hE1 (by first | decide | omega) e30
  have f5 : Ez2 (39) = aI cI 600 sc := va_up_of hE1 (by first | decide | omega) s39
  have f6 : Ez2 (38) = aI cI 600 (va_up sd (L0.length) (0)) := va_up_eq hE1
  have g7 : ∀ k : Nat, (k ≠ 30 ∧ k ≠ 38 ∧ k ≠ 39) → Ez2 k = E k := fun k hk => va_up_of hE1 (by omega) ((fun _ _ => rfl) k hk)
  refine z_aload_n C dX6_dark_10 rfl ?_
  refine z_get C (30) (Cn := RX6) (T := TX6) (N := 19) (fi := 18) iw_X6_dark_6 rfl (by decide) ln_X6_dark_47 (by first | decide | omega) rfl f3 rfl dX6_dark_11 ?_
  refine z_aload_n C dX6_dark_14 rfl ?_
  refine z_get C (30) (Cn := RX6) (T := TX6) (N := 19) (fi := 16) iw_X6_dark_6 rfl (by decide) ln_X6_dark_67 (by first | decide | omega) rfl f3 rfl dX6_dark_15 ?_
  refine z_iconst C (nI (0)) dX6_dark_18 (by decide) ?_
  refine z_iastG C (39) hX (by first | decide | omega) rfl f5 (by omega) (by decide) dX6_dark_19 (fun Ez9 hE8 => ?_)
  have f10 : Ez9 (30) = .inr (6, [.int (nI (W)), .int (nI (G)), .int (nI (S)), .int (shI (t)), .int (nI (B)), .int (nI (off)), .int (nI (cnt)), .ref (ad 31), .ref (ad 32), .ref (ad 33), .int (nI (tl)), .ref (ad 34), .int (nI (n)), .ref (ad 35), .ref (ad 36), .ref (ad 37), .int (nI (L0.length)), .ref (ad 38), .ref (ad 39)]) := va_up_of hE8 (by first | decide | omega) f3
  have f12 : Ez9 (38) = aI cI 600 (va_up sd (L0.length) (0)) := va_up_of hE8 (by first | decide | omega) f6
  have f13 : Ez9 (39) = aI cI 600 (va_up sc (L0.length) (0)) := va_up_eq hE8
  have g14 : ∀ k : Nat, (k ≠ 30 ∧ k ≠ 38 ∧ k ≠ 39) → Ez9 k = E k := fun k hk => va_up_of hE8 (by omega) (g7 k hk)
  refine z_aload_n C dX6_dark_20 rfl ?_
  refine z_dup C dX6_dark_21 rfl ?_
  refine z_get C (30) (Cn := RX6) (T := TX6) (N := 19) (fi := 16) iw_X6_dark_6 rfl (by decide) ln_X6_dark_67 (by first | decide | omega) rfl f10 rfl dX6_dark_22 ?_
  refine z_iconst C (nI (1)) dX6_dark_25 (by decide) ?_
  refine z_iaddN C  dX6_dark_26 ?_
  refine z_put C (30) (Cn := RX6) (T := TX6) (N := 19) (fi := 16) tyX6 iw_X6_dark_6 tyX6_ok nmX6 rfl (by decide) ln_X6_dark_67 hX (by first | decide | omega) rfl f10 rfl rfl rfl rfl (Nat.le_of_ble_eq_true rfl) dX6_dark_27 (fun Ez16 hE15 => ?_)
  have f18 : Ez16 (38) = aI cI 600 (va_up sd (L0.length) (0)) := va_up_of hE15 (by first | decide | omega) f12
  have f19 : Ez16 (39) = aI cI 600 (va_up sc (L0.length) (0)) := va_up_of hE15 (by first | decide | omega) f13
  have f20 : Ez16 (30) = .inr (6, [.int (nI (W)), .int (nI (G)), .int (nI (S)), .int (shI (t)), .int (nI (B)), .int (nI (off)), .int (nI (cnt)), .ref (ad 31), .ref (ad 32), .ref (ad 33), .int (nI (tl)), .ref (ad 34), .int (nI (n)), .ref (ad 35), .ref (ad 36), .ref (ad 37), .int (nI (L0.length + 1)), .ref (ad 38), .ref (ad 39)]) := va_up_eq hE15
  have g21 : ∀ k : Nat, (k ≠ 30 ∧ k ≠ 38 ∧ k ≠ 39) → Ez16 k = E k := fun k hk => va_up_of hE15 (by omega) (g14 k hk)
  exact hend _ _ _ dX6_dark_30 (⟨f20, ⟨_, _, f18, f19, SP_add hsp⟩, g21⟩)

theorem iw_X6_draws_6 : ∀ w ∈ wsX60, w ∈ wsX6_draws := by decide +kernel
theorem ln_X6_draws_67 : Cond.fieldLink RX6 67 "MarqueeDisplayModel" "strip" "I" ∈ wsX6_draws := by decide +kernel
theorem ln_X6_draws_54 : Cond.fieldLink RX6 54 "MarqueeDisplayModel" "messages" "I" ∈ wsX6_draws := by decide +kernel
theorem ln_X6_draws_35 : Cond.fieldLink RX6 35 "MarqueeDisplayModel" "size" "[I" ∈ wsX6_draws := by decide +kernel
theorem ln_X6_draws_13 : Cond.fieldLink RX6 13 "MarqueeDisplayModel" "gap" "I" ∈ wsX6_draws := by decide +kernel
theorem ln_X6_draws_41 : Cond.fieldLink RX6 41 "MarqueeDisplayModel" "letter" "[I" ∈ wsX6_draws := by decide +kernel
theorem ln_X6_draws_22 : Cond.fieldLink RX6 22 "MarqueeDisplayModel" "width" "[I" ∈ wsX6_draws := by decide +kernel
theorem ln_X6_draws_44 : Cond.fieldLink RX6 44 "MarqueeDisplayModel" "dots" "[I" ∈ wsX6_draws := by decide +kernel
theorem ln_X6_draws_26 : Cond.fieldLink RX6 26 "MarqueeDisplayModel" "glyph" "[I" ∈ wsX6_draws := by decide +kernel
theorem ln_X6_draws_47 : Cond.fieldLink RX6 47 "MarqueeDisplayModel" "paint" "[I" ∈ wsX6_draws := by decide +kernel
theorem ln_X6_draws_38 : Cond.fieldLink RX6 38 "MarqueeDisplayModel" "color" "[I" ∈ wsX6_draws := by decide +kernel
set_option maxHeartbeats 4000000 in
set_option maxRecDepth 100000 in
theorem k_X6_draws (vl : Launch) (D : va_G) (cI cM : ClassId) (A : Nat → Prop) (ad : Nat → Nat) (E : Nat → va_E) (hX : XD A 40 ad) {W G S B off cnt t tl n sp : Nat} {wd dt gl sz co lt : Nat → Nat} (e30 : E (30) = .inr (6, [.int (nI (W)), .int (nI (G)), .int (nI (S)), .int (shI (t)), .int (nI (B)), .int (nI (off)), .int (nI (cnt)), .ref (ad 31), .ref (ad 32), .ref (ad 33), .int (nI (tl)), .ref (ad 34), .int (nI (n)), .ref (ad 35), .ref (ad 36), .ref (ad 37), .int (nI (sp)), .ref (ad 38), .ref (ad 39)])) (e31 : E (31) = aI cI 27 wd) (e35 : E (35) = aI cI 6 sz) (e37 : E (37) = aI cI 72 lt) (e32 : E (32) = aI cI 162 gl) (e36 : E (36) = aI cI 6 co) (hn : n ≤ 6) (hsz : ∀ i, i < n → (1 ≤ sz i ∧ sz i ≤ 12) ∧ ∀ k, k < sz i → ltr lt i k < 27) (hw : ∀ c, c < 27 → wd c ≤ 6) (hG : G ≤ 9) (hgl : ∀ c, c < 27 → ∀ j, j < wd c → gl (6 * c + j) = dt (c * 6 + j)) (hs : MS cI E []) : MV vl yX6_draws wsX6_draws { frames := 1, cells := 0, slots := 0, locals := 20 } D cI cM A 40 ad E [.ref (ad 30)] (fun E1 => E1 30 = .inr (6, [.int (nI (W)), .int (nI (G)), .int (nI (S)), .int (shI (t)), .int (nI (B)), .int (nI (off)), .int (nI (cnt)), .ref (ad 31), .ref (ad 32), .ref (ad 33), .int (nI (tl)), .ref (ad 34), .int (nI (n)), .ref (ad 35), .ref (ad 36), .ref (ad 37), .int (nI (sL wd G sz (ltr lt) n)), .ref (ad 38), .ref (ad 39)]) ∧ MS cI E1 (scols wd dt G sz co (ltr lt) n) ∧ ∀ k : Nat, (k ≠ 30 ∧ k ≠ 38 ∧ k ≠ 39) → E1 k = E k) := by
  refine mv_of cX6_draws 5 RX6 (by decide) rfl rfl (Nat.le_of_ble_eq_true rfl) ?_
  intro vp ve vs vm va vb vt vc Q C hend
  refine z_lv [(0, .ref (ad 30))] ⟨rfl, rfl, trivial⟩ ?_
  have hLL := sL_le2 (le := ltr lt) hn hsz hw hG
  refine z_aload_n C dX6_draws_0 rfl ?_
  refine z_iconst C (nI (0)) dX6_draws_1 (by decide) ?_
  refine z_put C (30) (Cn := RX6) (T := TX6) (N := 19) (fi := 16) tyX6 iw_X6_draws_6 tyX6_ok nmX6 rfl (by decide) ln_X6_draws_67 hX (by first | decide | omega) rfl e30 rfl rfl rfl rfl (Nat.le_of_ble_eq_true rfl) dX6_draws_2 (fun Ez2 hE1 => ?_)
  have f4 : Ez2 (31) = aI cI 27 wd := va_up_of hE1 (by first | decide | omega) e31
  have f5 : Ez2 (35) = aI cI 6 sz := va_up_of hE1 (by first | decide | omega) e35
  have f6 : Ez2 (37) = aI cI 72 lt := va_up_of hE1 (by first | decide | omega) e37
  have f7 : Ez2 (32) = aI cI 162 gl := va_up_of hE1 (by first | decide | omega) e32
  have f8 : Ez2 (36) = aI cI 6 co := va_up_of hE1 (by first | decide | omega) e36
  have f9 : Ez2 (30) = .inr (6, [.int (nI (W)), .int (nI (G)), .int (nI (S)), .int (shI (t)), .int (nI (B)), .int (nI (off)), .int (nI (cnt)), .ref (ad 31), .ref (ad 32), .ref (ad 33), .int (nI (tl)), .ref (ad 34), .int (nI (n)), .ref (ad 35), .ref (ad 36), .ref (ad 37), .int (nI (0)), .ref (ad 38), .ref (ad 39)]) := va_up_eq hE1
  have g10 : ∀ k : Nat, (k ≠ 30 ∧ k ≠ 38 ∧ k ≠ 39) → Ez2 k = E k := fun k hk => va_up_of hE1 (by omega) ((fun _ _ => rfl) k hk)
  refine z_iconst C (nI (0)) dX6_draws_5 (by decide) ?_
  refine z_istore_n C [(0, .ref (ad 30)), (1, .int (nI (0)))] dX6_draws_6 (by decide) ⟨rfl, rfl, rfl, rfl, trivial⟩ ?_
  have loop7 : ∀ (fuel : Nat) (i : Nat) (E2 : Nat → va_E), (hi : i ≤ n) → (q30 : E2 (30) = .inr (6, [.int (nI (W)), .int (nI (G)), .int (nI (S)), .int (shI (t)), .int (nI (B)), .int (nI (off)), .int (nI (cnt)), .ref (ad 31), .ref (ad 32), .ref (ad 33), .int (nI (tl)), .ref (ad 34), .int (nI (n)), .ref (ad 35), .ref (ad 36), .ref (ad 37), .int (nI ((scols wd dt G sz co (ltr lt) i).length)), .ref (ad 38), .ref (ad 39)])) → (qs : MS cI E2 (scols wd dt G sz co (ltr lt) i)) → (qf : ∀ k : Nat, (k ≠ 30 ∧ k ≠ 38 ∧ k ≠ 39) → E2 k = E k) → n - i < fuel → Z vp vl ve { frames := 1, cells := 0, slots := 0, locals := 20 } vs vm va vb vt vc 5 D A 40 ad E2 [(0, .ref (ad 30)), (1, .int (nI (i)))] 0 0 Q 7 [] := by
    intro fuel
    induction fuel with
    | zero => intro i E2 hi q30 qs qf hlt; exact absurd hlt (Nat.not_lt_zero _)
    | succ fuel ih =>
      intro i E2 hi q30 qs qf hlt
      have q31 : E2 31 = aI cI 27 wd := (qf 31 (by omega)).trans e31
      have q32 : E2 32 = aI cI 162 gl := (qf 32 (by omega)).trans e32
      have q35 : E2 35 = aI cI 6 sz := (qf 35 (by omega)).trans e35
      have q36 : E2 36 = aI cI 6 co := (qf 36 (by omega)).trans e36
      have q37 : E2 37 = aI cI 72 lt := (qf 37 (by omega)).trans e37
      have ih7 := ih
      refine z_iload_n C dX6_draws_7 rfl ?_
      refine z_aload_n C dX6_draws_8 rfl ?_
      refine z_get C (30) (Cn := RX6) (T := TX6) (N := 19) (fi := 12) iw_X6_draws_6 rfl (by decide) ln_X6_draws_54 (by first | decide | omega) rfl q30 rfl dX6_draws_9 ?_
      refine z_icmp_geN C 145 (by omega) (by omega) dX6_draws_12 (by decide) (fun h12 => ?_) (fun h12 => ?_)
      · have hie : i = n := by omega
        exact hend _ _ _ dX6_draws_145 (⟨by rw [hie, scols_len] at q30; exact q30, by rw [hie] at qs; exact qs, qf⟩)
      · have his := hsz i h12
        have hL1 := sL_mono wd G sz (ltr lt) (i := i + 1) (n := n) h12
        have hL2 : sL wd G sz (ltr lt) (i + 1) = sL wd G sz (ltr lt) i + mW wd (ltr lt i) (sz i) + G := rfl
        have hci : co i = co i := rfl
        refine z_iconst C (nI (0)) dX6_draws_15 (by decide) ?_
        refine z_istore_n C [(0, .ref (ad 30)), (1, .int (nI (i))), (2, .int (nI (0)))] dX6_draws_16 (by decide) ⟨rfl, rfl, rfl, rfl, rfl, rfl, trivial⟩ ?_
        have loop17 : ∀ (fuel : Nat) (k : Nat) (E3 : Nat → va_E), (hk : k ≤ sz i) → (r30 : E3 (30) = .inr (6, [.int (nI (W)), .int (nI (G)), .int (nI (S)), .int (shI (t)), .int (nI (B)), .int (nI (off)), .int (nI (cnt)), .ref (ad 31), .ref (ad 32), .ref (ad 33), .int (nI (tl)), .ref (ad 34), .int (nI (n)), .ref (ad 35), .ref (ad 36), .ref (ad 37), .int (nI ((scols wd dt G sz co (ltr lt) i ++ mcols wd dt (co i) (ltr lt i) k).length)), .ref (ad 38), .ref (ad 39)])) → (rs : MS cI E3 (scols wd dt G sz co (ltr lt) i ++ mcols wd dt (co i) (ltr lt i) k)) → (rf : ∀ k : Nat, (k ≠ 30 ∧ k ≠ 38 ∧ k ≠ 39) → E3 k = E k) → sz i - k < fuel → Z vp vl ve { frames := 1, cells := 0, slots := 0, locals := 20 } vs vm va vb vt vc 5 D A 40 ad E3 [(0, .ref (ad 30)), (1, .int (nI (i))), (2, .int (nI (k)))] 0 0 Q 17 [] := by
          intro fuel
          induction fuel with
          | zero => intro k E3 hk r30 rs rf hlt; exact absurd hlt (Nat.not_lt_zero _)
          | succ fuel ih =>
            intro k E3 hk r30 rs rf hlt
            have r31 : E3 31 = aI cI 27 wd := (rf 31 (by omega)).trans e31
            have r32 : E3 32 = aI cI 162 gl := (rf 32 (by omega)).trans e32
            have r35 : E3 35 = aI cI 6 sz := (rf 35 (by omega)).trans e35
            have r36 : E3 36 = aI cI 6 co := (rf 36 (by omega)).trans e36
            have r37 : E3 37 = aI cI 72 lt := (rf 37 (by omega)).trans e37
            have hl4 : (scols wd dt G sz co (ltr lt) i ++ mcols wd dt (co i) (ltr lt i) k).length = sL wd G sz (ltr lt) i + mW wd (ltr lt i) k := by rw [List.length_append, scols_len, mcols_len]
            have ih17 := ih
            refine z_iload_n C dX6_draws_17 rfl ?_
            refine z_aload_n C dX6_draws_18 rfl ?_
            refine z_get C (30) (Cn := RX6) (T := TX6) (N := 19) (fi := 13) iw_X6_draws_6 rfl (by decide) ln_X6_draws_35 (by first | decide | omega) rfl r30 rfl dX6_draws_19 ?_
            refine z_iload_n C dX6_draws_22 rfl ?_
            refine z_ialdG C (35) (by first | decide | omega) rfl r35 (by omega) (by decide) dX6_draws_23 ?_
            refine z_icmp_geN C 119 (by omega) (by omega) dX6_draws_24 (by decide) (fun h24 => ?_) (fun h24 => ?_)
            · have hke : k = sz i := by omega
              rw [hke] at r30 rs
              refine z_iconst C (nI (0)) dX6_draws_119 (by decide) ?_
              refine z_istore_n C [(0, .ref (ad 30)), (1, .int (nI (i))), (2, .int (nI (0)))] dX6_draws_120 (by decide) ⟨rfl, rfl, rfl, rfl, rfl, rfl, trivial⟩ ?_
              have loop121 : ∀ (fuel : Nat) (k : Nat) (E5 : Nat → va_E), (hk : k ≤ G) → (u30 : E5 (30) = .inr (6, [.int (nI (W)), .int (nI (G)), .int (nI (S)), .int (shI (t)), .int (nI (B)), .int (nI (off)), .int (nI (cnt)), .ref (ad 31), .ref (ad 32), .ref (ad 33), .int (nI (tl)), .ref (ad 34), .int (nI (n)), .ref (ad 35), .ref (ad 36), .ref (ad 37), .int (nI ((scols wd dt G sz co (ltr lt) i ++ mcols wd dt (co i) (ltr lt i) (sz i) ++ dk k).length)), .ref (ad 38), .ref (ad 39)])) → (us : MS cI E5 (scols wd dt G sz co (ltr lt) i ++ mcols wd dt (co i) (ltr lt i) (sz i) ++ dk k)) → (uf : ∀ k : Nat, (k ≠ 30 ∧ k ≠ 38 ∧ k ≠ 39) → E5 k = E k) → G - k < fuel → Z vp vl ve { frames := 1, cells := 0, slots := 0, locals := 20 } vs vm va vb vt vc 5 D A 40 ad E5 [(0, .ref (ad 30)), (1, .int (nI (i))), (2, .int (nI (k)))] 0 0 Q 121 [] := by
                intro fuel
                induction fuel with
                | zero => intro k E5 hk u30 us uf hlt; exact absurd hlt (Nat.not_lt_zero _)
                | succ fuel ih =>
                  intro k E5 hk u30 us uf hlt
                  have u31 : E5 31 = aI cI 27 wd := (uf 31 (by omega)).trans e31
                  have u32 : E5 32 = aI cI 162 gl := (uf 32 (by omega)).trans e32
                  have u35 : E5 35 = aI cI 6 sz := (uf 35 (by omega)).trans e35
                  have u36 : E5 36 = aI cI 6 co := (uf 36 (by omega)).trans e36
                  have u37 : E5 37 = aI cI 72 lt := (uf 37 (by omega)).trans e37
                  have hl6 : (scols wd dt G sz co (ltr lt) i ++ mcols wd dt (co i) (ltr lt i) (sz i) ++ dk k).length = sL wd G sz (ltr lt) i + mW wd (ltr lt i) (sz i) + k := by rw [List.length_append, List.length_append, scols_len, mcols_len, dk_len]
                  have ih121 := ih
                  refine z_iload_n C dX6_draws_121 rfl ?_
                  refine z_aload_n C dX6_draws_122 rfl ?_
                  refine z_get C (30) (Cn := RX6) (T := TX6) (N := 19) (fi := 1) iw_X6_draws_6 rfl (by decide) ln_X6_draws_13 (by first | decide | omega) rfl u30 rfl dX6_draws_123 ?_
                  refine z_icmp_geN C 139 (by omega) (by omega) dX6_draws_126 (by decide) (fun h126 => ?_) (fun h126 => ?_)
                  · have hgG : k = G := by omega
                    rw [hgG] at u30 us
                    refine z_iincN (j := 1) C [(0, .ref (ad 30)), (1, .int (nI (i + 1))), (2, .int (nI (k)))] dX6_draws_139 rfl (by decide) ⟨rfl, rfl, rfl, rfl, rfl, rfl, trivial⟩ ?_
                    refine z_goto C 7 dX6_draws_142 (by decide) ?_
                    refine z_lv [(0, .ref (ad 30)), (1, .int (nI (i + 1)))] ⟨rfl, rfl, rfl, rfl, trivial⟩ ?_
                    exact ih7 (i + 1) E5 (by omega) (by rw [scols]; exact u30) (by rw [scols]; exact us) uf (by omega)
                  · refine z_aload_n C dX6_draws_129 rfl ?_
                    refine z_callVV C (30) (Cn := RX6) (T := TX6) (N := 19) (k_X6_dark vl D cI cM A ad E5 hX u30 us (by rw [hl6]; omega)) (cwV 0 C.2.2.2.2.1 gX6_draws_X6_dark rfl rfl rfl (by decide +kernel) ⟨Nat.le_of_ble_eq_true rfl, Nat.le_of_ble_eq_true rfl⟩) rfl (by first | decide | omega) rfl u30 rfl rfl (Nat.le_of_ble_eq_true rfl) ⟨Nat.zero_le _, Nat.zero_le _⟩ dX6_draws_130 (fun Ez11 hp12 => ?_)
                    obtain ⟨v13, hs14, hg15⟩ := hp12
                    have f16 : Ez11 (31) = aI cI 27 wd := (hg15 (31) (by omega)).trans u31
                    have f17 : Ez11 (32) = aI cI 162 gl := (hg15 (32) (by omega)).trans u32
                    have f18 : Ez11 (35) = aI cI 6 sz := (hg15 (35) (by omega)).trans u35
                    have f19 : Ez11 (36) = aI cI 6 co := (hg15 (36) (by omega)).trans u36
                    have f20 : Ez11 (37) = aI cI 72 lt := (hg15 (37) (by omega)).trans u37
                    have g21 : ∀ k : Nat, (k ≠ 30 ∧ k ≠ 38 ∧ k ≠ 39) → Ez11 k = E k := fun k hk => (hg15 k (by omega)).trans (uf k hk)
                    refine z_iincN (j := 1) C [(0, .ref (ad 30)), (1, .int (nI (i))), (2, .int (nI (k + 1)))] dX6_draws_133 rfl (by decide) ⟨rfl, rfl, rfl, rfl, rfl, rfl, trivial⟩ ?_
                    refine z_goto C 121 dX6_draws_136 (by decide) ?_
                    refine z_lv [(0, .ref (ad 30)), (1, .int (nI (i))), (2, .int (nI (k + 1)))] ⟨rfl, rfl, rfl, rfl, rfl, rfl, trivial⟩ ?_
                    exact ih121 (k + 1) Ez11 (by omega) (by rw [dk_s, ← List.append_assoc, List.length_append]; exact v13) (by rw [dk_s, ← List.append_assoc]; exact hs14) g21 (by omega)
              refine z_lv [(0, .ref (ad 30)), (1, .int (nI (i))), (2, .int (nI (0)))] ⟨rfl, rfl, rfl, rfl, rfl, rfl, trivial⟩ ?_
              exact loop121 (G + 1) 0 E3 (Nat.zero_le _) (by rw [show scols wd dt G sz co (ltr lt) i ++ mcols wd dt (co i) (ltr lt i) (sz i) ++ dk 0 = scols wd dt G sz co (ltr lt) i ++ mcols wd dt (co i) (ltr lt i) (sz i) from List.append_nil _]; exact r30) (by rw [show scols wd dt G sz co (ltr lt) i ++ mcols wd dt (co i) (ltr lt i) (sz i) ++ dk 0 = scols wd dt G sz co (ltr lt) i ++ mcols wd dt (co i) (ltr lt i) (sz i) from List.append_nil _]; exact rs) rf (by omega)
            · have hck := his.2 k h24
              have hwk := hw _ hck
              have hstep := mW_mono wd (ltr lt i) h24
              have hmw : mW wd (ltr lt i) (k + 1) = mW wd (ltr lt i) k + (if k = 0 then 0 else 1) + wd (ltr lt i k) := rfl
              refine z_aload_n C dX6_draws_27 rfl ?_
              refine z_get C (30) (Cn := RX6) (T := TX6) (N := 19) (fi := 15) iw_X6_draws_6 rfl (by decide) ln_X6_draws_41 (by first | decide | omega) rfl r30 rfl dX6_draws_28 ?_
              refine z_bipush C (nI (12)) dX6_draws_31 (by decide) ?_
              refine z_iload_n C dX6_draws_33 rfl ?_
              refine z_imulN C  dX6_draws_34 ?_
              refine z_iload_n C dX6_draws_35 rfl ?_
              refine z_iaddN C  dX6_draws_36 ?_
              refine z_ialdG C (37) (by first | decide | omega) rfl r37 (by omega) (by decide) dX6_draws_37 ?_
              refine z_istore_n C [(0, .ref (ad 30)), (1, .int (nI (i))), (2, .int (nI (k))), (3, .int (nI (lt ((12 * i) + k))))] dX6_draws_38 (by decide) ⟨rfl, rfl, rfl, rfl, rfl, rfl, rfl, rfl, trivial⟩ ?_
              refine z_lv [(0, .ref (ad 30)), (1, .int (nI (i))), (2, .int (nI (k))), (3, .int (nI (ltr lt i k)))] ⟨rfl, rfl, rfl, rfl, rfl, rfl, rfl, rfl, trivial⟩ ?_
              refine z_iload_n C dX6_draws_39 rfl ?_
              refine z_if_leN C 47 (by omega) dX6_draws_40 (by decide) (fun h40 => ?_) (fun h40 => ?_)
              · have hk0 : k = 0 := h40
                refine z_iconst C (nI (0)) dX6_draws_47 (by decide) ?_
                refine z_istore C [(0, .ref (ad 30)), (1, .int (nI (i))), (2, .int (nI (k))), (3, .int (nI (ltr lt i k))), (4, .int (nI (0)))] dX6_draws_48 (by decide) ⟨rfl, rfl, rfl, rfl, rfl, rfl, rfl, rfl, rfl, rfl, trivial⟩ ?_
                have loop50 : ∀ (fuel : Nat) (j : Nat) (E4 : Nat → va_E), (hj : j ≤ wd (ltr lt i k)) → (w30 : E4 (30) = .inr (6, [.int (nI (W)), .int (nI (G)), .int (nI (S)), .int (shI (t)), .int (nI (B)), .int (nI (off)), .int (nI (cnt)), .ref (ad 31), .ref (ad 32), .ref (ad 33), .int (nI (tl)), .ref (ad 34), .int (nI (n)), .ref (ad 35), .ref (ad 36), .ref (ad 37), .int (nI ((scols wd dt G sz co (ltr lt) i ++ mcols wd dt (co i) (ltr lt i) k ++ dk (if k = 0 then 0 else 1) ++ glyphP dt (ltr lt i k) (co i) j).length)), .ref (ad 38), .ref (ad 39)])) → (ws : MS cI E4 (scols wd dt G sz co (ltr lt) i ++ mcols wd dt (co i) (ltr lt i) k ++ dk (if k = 0 then 0 else 1) ++ glyphP dt (ltr lt i k) (co i) j)) → (wf : ∀ k : Nat, (k ≠ 30 ∧ k ≠ 38 ∧ k ≠ 39) → E4 k = E k) → wd (ltr lt i k) - j < fuel → Z vp vl ve { frames := 1, cells := 0, slots := 0, locals := 20 } vs vm va vb vt vc 5 D A 40 ad E4 [(0, .ref (ad 30)), (1, .int (nI (i))), (2, .int (nI (k))), (3, .int (nI (ltr lt i k))), (4, .int (nI (j)))] 0 0 Q 50 [] := by
                  intro fuel
                  induction fuel with
                  | zero => intro j E4 hj w30 ws wf hlt; exact absurd hlt (Nat.not_lt_zero _)
                  | succ fuel ih =>
                    intro j E4 hj w30 ws wf hlt
                    have w31 : E4 31 = aI cI 27 wd := (wf 31 (by omega)).trans e31
                    have w32 : E4 32 = aI cI 162 gl := (wf 32 (by omega)).trans e32
                    have w35 : E4 35 = aI cI 6 sz := (wf 35 (by omega)).trans e35
                    have w36 : E4 36 = aI cI 6 co := (wf 36 (by omega)).trans e36
                    have w37 : E4 37 = aI cI 72 lt := (wf 37 (by omega)).trans e37
                    obtain ⟨sd4, sc4, w38, w39, wsp⟩ := id ws
                    have hl5 : (scols wd dt G sz co (ltr lt) i ++ mcols wd dt (co i) (ltr lt i) k ++ dk (if k = 0 then 0 else 1) ++ glyphP dt (ltr lt i k) (co i) j).length = sL wd G sz (ltr lt) i + mW wd (ltr lt i) k + (if k = 0 then 0 else 1) + j := by rw [List.length_append, List.length_append, List.length_append, scols_len, mcols_len, dk_len, glyphP_len]
                    have hl50 : (scols wd dt G sz co (ltr lt) i ++ mcols wd dt (co i) (ltr lt i) k ++ dk (if k = 0 then 0 else 1) ++ glyphP dt (ltr lt i k) (co i) (j + 1)).length = (scols wd dt G sz co (ltr lt) i ++ mcols wd dt (co i) (ltr lt i) k ++ dk (if k = 0 then 0 else 1) ++ glyphP dt (ltr lt i k) (co i) j).length + 1 := by rw [glyphP_s, ← List.append_assoc, List.length_append]; rfl
                    have ih50 := ih
                    refine z_iload C dX6_draws_50 rfl ?_
                    refine z_aload_n C dX6_draws_52 rfl ?_
                    refine z_get C (30) (Cn := RX6) (T := TX6) (N := 19) (fi := 7) iw_X6_draws_6 rfl (by decide) ln_X6_draws_22 (by first | decide | omega) rfl w30 rfl dX6_draws_53 ?_
                    refine z_iload_n C dX6_draws_56 rfl ?_
                    refine z_ialdG C (31) (by first | decide | omega) rfl w31 (by omega) (by decide) dX6_draws_57 ?_
                    refine z_icmp_geN C 113 (by omega) (by omega) dX6_draws_58 (by decide) (fun h58 => ?_) (fun h58 => ?_)
                    · have hje : j = wd (ltr lt i k) := by omega
                      refine z_iincN (j := 1) C [(0, .ref (ad 30)), (1, .int (nI (i))), (2, .int (nI (k + 1))), (3, .int (nI (ltr lt i k))), (4, .int (nI (j)))] dX6_draws_113 rfl (by decide) ⟨rfl, rfl, rfl, rfl, rfl, rfl, rfl, rfl, rfl, rfl, trivial⟩ ?_
                      refine z_goto C 17 dX6_draws_116 (by decide) ?_
                      refine z_lv [(0, .ref (ad 30)), (1, .int (nI (i))), (2, .int (nI (k + 1)))] ⟨rfl, rfl, rfl, rfl, rfl, rfl, trivial⟩ ?_
                      exact ih17 (k + 1) E4 (by omega) (by rw [mcols, ← List.append_assoc, ← List.append_assoc, show glyph wd dt (ltr lt i k) (co i) = glyphP dt (ltr lt i k) (co i) j by rw [hje]; rfl]; exact w30) (by rw [mcols, ← List.append_assoc, ← List.append_assoc, show glyph wd dt (ltr lt i k) (co i) = glyphP dt (ltr lt i k) (co i) j by rw [hje]; rfl]; exact ws) wf (by omega)
                    · have hgj := hgl _ hck j h58
                      refine z_aload_n C dX6_draws_61 rfl ?_
                      refine z_get C (30) (Cn := RX6) (T := TX6) (N := 19) (fi := 17) iw_X6_draws_6 rfl (by decide) ln_X6_draws_44 (by first | decide | omega) rfl w30 rfl dX6_draws_62 ?_
                      refine z_aload_n C dX6_draws_65 rfl ?_
                      refine z_get C (30) (Cn := RX6) (T := TX6) (N := 19) (fi := 16) iw_X6_draws_6 rfl (by decide) ln_X6_draws_67 (by first | decide | omega) rfl w30 rfl dX6_draws_66 ?_
                      refine z_aload_n C dX6_draws_69 rfl ?_
                      refine z_get C (30) (Cn := RX6) (T := TX6) (N := 19) (fi := 8) iw_X6_draws_6 rfl (by decide) ln_X6_draws_26 (by first | decide | omega) rfl w30 rfl dX6_draws_70 ?_
                      refine z_bipush C (nI (6)) dX6_draws_73 (by decide) ?_
                      refine z_iload_n C dX6_draws_75 rfl ?_
                      refine z_imulN C  dX6_draws_76 ?_
                      refine z_iload C dX6_draws_77 rfl ?_
                      refine z_iaddN C  dX6_draws_79 ?_
                      refine z_ialdG C (32) (by first | decide | omega) rfl w32 (by omega) (by decide) dX6_draws_80 ?_
                      refine z_iastG C (38) hX (by first | decide | omega) rfl w38 (by omega) (by decide) dX6_draws_81 (fun Ez23 hE22 => ?_)
                      have f24 : Ez23 (30) = .inr (6, [.int (nI (W)), .int (nI (G)), .int (nI (S)), .int (shI (t)), .int (nI (B)), .int (nI (off)), .int (nI (cnt)), .ref (ad 31), .ref (ad 32), .ref (ad 33), .int (nI (tl)), .ref (ad 34), .int (nI (n)), .ref (ad 35), .ref (ad 36), .ref (ad 37), .int (nI ((scols wd dt G sz co (ltr lt) i ++ mcols wd dt (co i) (ltr lt i) k ++ dk (if k = 0 then 0 else 1) ++ glyphP dt (ltr lt i k) (co i) j).length)), .ref (ad 38), .ref (ad 39)]) := va_up_of hE22 (by first | decide | omega) w30
                      have f25 : Ez23 (31) = aI cI 27 wd := va_up_of hE22 (by first | decide | omega) w31
                      have f26 : Ez23 (32) = aI cI 162 gl := va_up_of hE22 (by first | decide | omega) w32
                      have f27 : Ez23 (35) = aI cI 6 sz := va_up_of hE22 (by first | decide | omega) w35
                      have f28 : Ez23 (36) = aI cI 6 co := va_up_of hE22 (by first | decide | omega) w36
                      have f29 : Ez23 (37) = aI cI 72 lt := va_up_of hE22 (by first | decide | omega) w37
                      have f31 : Ez23 (39) = aI cI 600 sc4 := va_up_of hE22 (by first | decide | omega) w39
                      have f32 : Ez23 (38) = aI cI 600 (va_up sd4 ((scols wd dt G sz co (ltr lt) i ++ mcols wd dt (co i) (ltr lt i) k ++ dk (if k = 0 then 0 else 1) ++ glyphP dt (ltr lt i k) (co i) j).length) (gl ((6 * (ltr lt i k)) + j))) := va_up_eq hE22
                      have g33 : ∀ k : Nat, (k ≠ 30 ∧ k ≠ 38 ∧ k ≠ 39) → Ez23 k = E k := fun k hk => va_up_of hE22 (by omega) (wf k hk)
                      refine z_aload_n C dX6_draws_82 rfl ?_
                      refine z_get C (30) (Cn := RX6) (T := TX6) (N := 19) (fi := 18) iw_X6_draws_6 rfl (by decide) ln_X6_draws_47 (by first | decide | omega) rfl f24 rfl dX6_draws_83 ?_
                      refine z_aload_n C dX6_draws_86 rfl ?_
                      refine z_get C (30) (Cn := RX6) (T := TX6) (N := 19) (fi := 16) iw_X6_draws_6 rfl (by decide) ln_X6_draws_67 (by first | decide | omega) rfl f24 rfl dX6_draws_87 ?_
                      refine z_aload_n C dX6_draws_90 rfl ?_
                      refine z_get C (30) (Cn := RX6) (T := TX6) (N := 19) (fi := 14) iw_X6_draws_6 rfl (by decide) ln_X6_draws_38 (by first | decide | omega) rfl f24 rfl dX6_draws_91 ?_
                      refine z_iload_n C dX6_draws_94 rfl ?_
                      refine z_ialdG C (36) (by first | decide | omega) rfl f28 (by omega) (by decide) dX6_draws_95 ?_
                      refine z_iastG C (39) hX (by first | decide | omega) rfl f31 (by omega) (by decide) dX6_draws_96 (fun Ez35 hE34 => ?_)
                      have f36 : Ez35 (30) = .inr (6, [.int (nI (W)), .int (nI (G)), .int (nI (S)), .int (shI (t)), .int (nI (B)), .int (nI (off)), .int (nI (cnt)), .ref (ad 31), .ref (ad 32), .ref (ad 33), .int (nI (tl)), .ref (ad 34), .int (nI (n)), .ref (ad 35), .ref (ad 36), .ref (ad 37), .int (nI ((scols wd dt G sz co (ltr lt) i ++ mcols wd dt (co i) (ltr lt i) k ++ dk (if k = 0 then 0 else 1) ++ glyphP dt (ltr lt i k) (co i) j).length)), .ref (ad 38), .ref (ad 39)]) := va_up_of hE34 (by first | decide | omega) f24
                      have f37 : Ez35 (31) = aI cI 27 wd := va_up_of hE34 (by first | decide | omega) f25
                      have f38 : Ez35 (32) = aI cI 162 gl := va_up_of hE34 (by first | decide | omega) f26
                      have f39 : Ez35 (35) = aI cI 6 sz := va_up_of hE34 (by first | decide | omega) f27
                      have f40 : Ez35 (36) = aI cI 6 co := va_up_of hE34 (by first | decide | omega) f28
                      have f41 : Ez35 (37) = aI cI 72 lt := va_up_of hE34 (by first | decide | omega) f29
                      have f43 : Ez35 (38) = aI cI 600 (va_up sd4 ((scols wd dt G sz co (ltr lt) i ++ mcols wd dt (co i) (ltr lt i) k ++ dk (if k = 0 then 0 else 1) ++ glyphP dt (ltr lt i k) (co i) j).length) (gl ((6 * (ltr lt i k)) + j))) := va_up_of hE34 (by first | decide | omega) f32
                      have f44 : Ez35 (39) = aI cI 600 (va_up sc4 ((scols wd dt G sz co (ltr lt) i ++ mcols wd dt (co i) (ltr lt i) k ++ dk (if k = 0 then 0 else 1) ++ glyphP dt (ltr lt i k) (co i) j).length) (co (i))) := va_up_eq hE34
                      have g45 : ∀ k : Nat, (k ≠ 30 ∧ k ≠ 38 ∧ k ≠ 39) → Ez35 k = E k := fun k hk => va_up_of hE34 (by omega) (g33 k hk)
                      refine z_aload_n C dX6_draws_97 rfl ?_
                      refine z_dup C dX6_draws_98 rfl ?_
                      refine z_get C (30) (Cn := RX6) (T := TX6) (N := 19) (fi := 16) iw_X6_draws_6 rfl (by decide) ln_X6_draws_67 (by first | decide | omega) rfl f36 rfl dX6_draws_99 ?_
                      refine z_iconst C (nI (1)) dX6_draws_102 (by decide) ?_
                      refine z_iaddN C  dX6_draws_103 ?_
                      refine z_put C (30) (Cn := RX6) (T := TX6) (N := 19) (fi := 16) tyX6 iw_X6_draws_6 tyX6_ok nmX6 rfl (by decide) ln_X6_draws_67 hX (by first | decide | omega) rfl f36 rfl rfl rfl rfl (Nat.le_of_ble_eq_true rfl) dX6_draws_104 (fun Ez47 hE46 => ?_)
                      have f49 : Ez47 (31) = aI cI 27 wd := va_up_of hE46 (by first | decide | omega) f37
                      have f50 : Ez47 (32) = aI cI 162 gl := va_up_of hE46 (by first | decide | omega) f38
                      have f51 : Ez47 (35) = aI cI 6 sz := va_up_of hE46 (by first | decide | omega) f39
                      have f52 : Ez47 (36) = aI cI 6 co := va_up_of hE46 (by first | decide | omega) f40
                      have f53 : Ez47 (37) = aI cI 72 lt := va_up_of hE46 (by first | decide | omega) f41
                      have f54 : Ez47 (38) = aI cI 600 (va_up sd4 ((scols wd dt G sz co (ltr lt) i ++ mcols wd dt (co i) (ltr lt i) k ++ dk (if k = 0 then 0 else 1) ++ glyphP dt (ltr lt i k) (co i) j).length) (gl ((6 * (ltr lt i k)) + j))) := va_up_of hE46 (by first | decide | omega) f43
                      have f55 : Ez47 (39) = aI cI 600 (va_up sc4 ((scols wd dt G sz co (ltr lt) i ++ mcols wd dt (co i) (ltr lt i) k ++ dk (if k = 0 then 0 else 1) ++ glyphP dt (ltr lt i k) (co i) j).length) (co (i))) := va_up_of hE46 (by first | decide | omega) f44
                      have f56 : Ez47 (30) = .inr (6, [.int (nI (W)), .int (nI (G)), .int (nI (S)), .int (shI (t)), .int (nI (B)), .int (nI (off)), .int (nI (cnt)), .ref (ad 31), .ref (ad 32), .ref (ad 33), .int (nI (tl)), .ref (ad 34), .int (nI (n)), .ref (ad 35), .ref (ad 36), .ref (ad 37), .int (nI (((scols wd dt G sz co (ltr lt) i ++ mcols wd dt (co i) (ltr lt i) k ++ dk (if k = 0 then 0 else 1) ++ glyphP dt (ltr lt i k) (co i) j).length) + 1)), .ref (ad 38), .ref (ad 39)]) := va_up_eq hE46
                      have g57 : ∀ k : Nat, (k ≠ 30 ∧ k ≠ 38 ∧ k ≠ 39) → Ez47 k = E k := fun k hk => va_up_of hE46 (by omega) (g45 k hk)
                      refine z_iincN (j := 1) C [(0, .ref (ad 30)), (1, .int (nI (i))), (2, .int (nI (k))), (3, .int (nI (ltr lt i k))), (4, .int (nI (j + 1)))] dX6_draws_107 rfl (by decide) ⟨rfl, rfl, rfl, rfl, rfl, rfl, rfl, rfl, rfl, rfl, trivial⟩ ?_
                      refine z_goto C 50 dX6_draws_110 (by decide) ?_
                      refine z_lv [(0, .ref (ad 30)), (1, .int (nI (i))), (2, .int (nI (k))), (3, .int (nI (ltr lt i k))), (4, .int (nI (j + 1)))] ⟨rfl, rfl, rfl, rfl, rfl, rfl, rfl, rfl, rfl, rfl, trivial⟩ ?_
                      exact ih50 (j + 1) Ez47 (by omega) (f56.trans (by rw [hl50])) (by rw [glyphP_s, ← List.append_assoc, ← hgl _ hck j h58]; exact ⟨_, _, f54, f55, SP_add wsp⟩) g57 (by omega)
                refine z_lv [(0, .ref (ad 30)), (1, .int (nI (i))), (2, .int (nI (k))), (3, .int (nI (ltr lt i k))), (4, .int (nI (0)))] ⟨rfl, rfl, rfl, rfl, rfl, rfl, rfl, rfl, rfl, rfl, trivial⟩ ?_
                exact loop50 (wd (ltr lt i k) + 1) 0 E3 (Nat.zero_le _) (by rw [if_pos hk0, show scols wd dt G sz co (ltr lt) i ++ mcols wd dt (co i) (ltr lt i) k ++ dk 0 ++ glyphP dt (ltr lt i k) (co i) 0 = scols wd dt G sz co (ltr lt) i ++ mcols wd dt (co i) (ltr lt i) k from by rw [show dk 0 = [] from rfl, List.append_nil]; exact List.append_nil _]; exact r30) (by rw [if_pos hk0, show scols wd dt G sz co (ltr lt) i ++ mcols wd dt (co i) (ltr lt i) k ++ dk 0 ++ glyphP dt (ltr lt i k) (co i) 0 = scols wd dt G sz co (ltr lt) i ++ mcols wd dt (co i) (ltr lt i) k from by rw [show dk 0 = [] from rfl, List.append_nil]; exact List.append_nil _]; exact rs) rf (by omega)
              · have hk0 : ¬ k = 0 := by omega
                refine z_aload_n C dX6_draws_43 rfl ?_
                refine z_callVV C (30) (Cn := RX6) (T := TX6) (N := 19) (k_X6_dark vl D cI cM A ad E3 hX r30 rs (by rw [hl4]; omega)) (cwV 0 C.2.2.2.2.1 gX6_draws_X6_dark rfl rfl rfl (by decide +kernel) ⟨Nat.le_of_ble_eq_true rfl, Nat.le_of_ble_eq_true rfl⟩) rfl (by first | decide | omega) rfl r30 rfl rfl (Nat.le_of_ble_eq_true rfl) ⟨Nat.zero_le _, Nat.zero_le _⟩ dX6_draws_44 (fun Ez58 hp59 => ?_)
                obtain ⟨v60, hs61, hg62⟩ := hp59
                have f63 : Ez58 (31) = aI cI 27 wd := (hg62 (31) (by omega)).trans r31
                have f64 : Ez58 (32) = aI cI 162 gl := (hg62 (32) (by omega)).trans r32
                have f65 : Ez58 (35) = aI cI 6 sz := (hg62 (35) (by omega)).trans r35
                have f66 : Ez58 (36) = aI cI 6 co := (hg62 (36) (by omega)).trans r36
                have f67 : Ez58 (37) = aI cI 72 lt := (hg62 (37) (by omega)).trans r37
                have g68 : ∀ k : Nat, (k ≠ 30 ∧ k ≠ 38 ∧ k ≠ 39) → Ez58 k = E k := fun k hk => (hg62 k (by omega)).trans (rf k hk)
                refine z_iconst C (nI (0)) dX6_draws_47 (by decide) ?_
                refine z_istore C [(0, .ref (ad 30)), (1, .int (nI (i))), (2, .int (nI (k))), (3, .int (nI (ltr lt i k))), (4, .int (nI (0)))] dX6_draws_48 (by decide) ⟨rfl, rfl, rfl, rfl, rfl, rfl, rfl, rfl, rfl, rfl, trivial⟩ ?_
                have loop50 : ∀ (fuel : Nat) (j : Nat) (E4 : Nat → va_E), (hj : j ≤ wd (ltr lt i k)) → (w30 : E4 (30) = .inr (6, [.int (nI (W)), .int (nI (G)), .int (nI (S)), .int (shI (t)), .int (nI (B)), .int (nI (off)), .int (nI (cnt)), .ref (ad 31), .ref (ad 32), .ref (ad 33), .int (nI (tl)), .ref (ad 34), .int (nI (n)), .ref (ad 35), .ref (ad 36), .ref (ad 37), .int (nI ((scols wd dt G sz co (ltr lt) i ++ mcols wd dt (co i) (ltr lt i) k ++ dk (if k = 0 then 0 else 1) ++ glyphP dt (ltr lt i k) (co i) j).length)), .ref (ad 38), .ref (ad 39)])) → (ws : MS cI E4 (scols wd dt G sz co (ltr lt) i ++ mcols wd dt (co i) (ltr lt i) k ++ dk (if k = 0 then 0 else 1) ++ glyphP dt (ltr lt i k) (co i) j)) → (wf : ∀ k : Nat, (k ≠ 30 ∧ k ≠ 38 ∧ k ≠ 39) → E4 k = E k) → wd (ltr lt i k) - j < fuel → Z vp vl ve { frames := 1, cells := 0, slots := 0, locals := 20 } vs vm va vb vt vc 5 D A 40 ad E4 [(0, .ref (ad 30)), (1, .int (nI (i))), (2, .int (nI (k))), (3, .int (nI (ltr lt i k))), (4, .int (nI (j)))] 0 0 Q 50 [] := by
                  intro fuel
                  induction fuel with
                  | zero => intro j E4 hj w30 ws wf hlt; exact absurd hlt (Nat.not_lt_zero _)
                  | succ fuel ih =>
                    intro j E4 hj w30 ws wf hlt
                    have w31 : E4 31 = aI cI 27 wd := (wf 31 (by omega)).trans e31
                    have w32 : E4 32 = aI cI 162 gl := (wf 32 (by omega)).trans e32
                    have w35 : E4 35 = aI cI 6 sz := (wf 35 (by omega)).trans e35
                    have w36 : E4 36 = aI cI 6 co := (wf 36 (by omega)).trans e36
                    have w37 : E4 37 = aI cI 72 lt := (wf 37 (by omega)).trans e37
                    obtain ⟨sd4, sc4, w38, w39, wsp⟩ := id ws
                    have hl5 : (scols wd dt G sz co (ltr lt) i ++ mcols wd dt (co i) (ltr lt i) k ++ dk (if k = 0 then 0 else 1) ++ glyphP dt (ltr lt i k) (co i) j).length = sL wd G sz (ltr lt) i + mW wd (ltr lt i) k + (if k = 0 then 0 else 1) + j := by rw [List.length_append, List.length_append, List.length_append, scols_len, mcols_len, dk_len, glyphP_len]
                    have hl50 : (scols wd dt G sz co (ltr lt) i ++ mcols wd dt (co i) (ltr lt i) k ++ dk (if k = 0 then 0 else 1) ++ glyphP dt (ltr lt i k) (co i) (j + 1)).length = (scols wd dt G sz co (ltr lt) i ++ mcols wd dt (co i) (ltr lt i) k ++ dk (if k = 0 then 0 else 1) ++ glyphP dt (ltr lt i k) (co i) j).length + 1 := by rw [glyphP_s, ← List.append_assoc, List.length_append]; rfl
                    have ih50 := ih
                    refine z_iload C dX6_draws_50 rfl ?_
                    refine z_aload_n C dX6_draws_52 rfl ?_
                    refine z_get C (30) (Cn := RX6) (T := TX6) (N := 19) (fi := 7) iw_X6_draws_6 rfl (by decide) ln_X6_draws_22 (by first | decide | omega) rfl w30 rfl dX6_draws_53 ?_
                    refine z_iload_n C dX6_draws_56 rfl ?_
                    refine z_ialdG C (31) (by first | decide | omega) rfl w31 (by omega) (by decide) dX6_draws_57 ?_
                    refine z_icmp_geN C 113 (by omega) (by omega) dX6_draws_58 (by decide) (fun h58 => ?_) (fun h58 => ?_)
                    · have hje : j = wd (ltr lt i k) := by omega
                      refine z_iincN (j := 1) C [(0, .ref (ad 30)), (1, .int (nI (i))), (2, .int (nI (k + 1))), (3, .int (nI (ltr lt i k))), (4, .int (nI (j)))] dX6_draws_113 rfl (by decide) ⟨rfl, rfl, rfl, rfl, rfl, rfl, rfl, rfl, rfl, rfl, trivial⟩ ?_
                      refine z_goto C 17 dX6_draws_116 (by decide) ?_
                      refine z_lv [(0, .ref (ad 30)), (1, .int (nI (i))), (2, .int (nI (k + 1)))] ⟨rfl, rfl, rfl, rfl, rfl, rfl, trivial⟩ ?_
                      exact ih17 (k + 1) E4 (by omega) (by rw [mcols, ← List.append_assoc, ← List.append_assoc, show glyph wd dt (ltr lt i k) (co i) = glyphP dt (ltr lt i k) (co i) j by rw [hje]; rfl]; exact w30) (by rw [mcols, ← List.append_assoc, ← List.append_assoc, show glyph wd dt (ltr lt i k) (co i) = glyphP dt (ltr lt i k) (co i) j by rw [hje]; rfl]; exact ws) wf (by omega)
                    · have hgj := hgl _ hck j h58
                      refine z_aload_n C dX6_draws_61 rfl ?_
                      refine z_get C (30) (Cn := RX6) (T := TX6) (N := 19) (fi := 17) iw_X6_draws_6 rfl (by decide) ln_X6_draws_44 (by first | decide | omega) rfl w30 rfl dX6_draws_62 ?_
                      refine z_aload_n C dX6_draws_65 rfl ?_
                      refine z_get C (30) (Cn := RX6) (T := TX6) (N := 19) (fi := 16) iw_X6_draws_6 rfl (by decide) ln_X6_draws_67 (by first | decide | omega) rfl w30 rfl dX6_draws_66 ?_
                      refine z_aload_n C dX6_draws_69 rfl ?_
                      refine z_get C (30) (Cn := RX6) (T := TX6) (N := 19) (fi := 8) iw_X6_draws_6 rfl (by decide) ln_X6_draws_26 (by first | decide | omega) rfl w30 rfl dX6_draws_70 ?_
                      refine z_bipush C (nI (6)) dX6_draws_73 (by decide) ?_
                      refine z_iload_n C dX6_draws_75 rfl ?_
                      refine z_imulN C  dX6_draws_76 ?_
                      refine z_iload C dX6_draws_77 rfl ?_
                      refine z_iaddN C  dX6_draws_79 ?_
                      refine z_ialdG C (32) (by first | decide | omega) rfl w32 (by omega) (by decide) dX6_draws_80 ?_
                      refine z_iastG C (38) hX (by first | decide | omega) rfl w38 (by omega) (by decide) dX6_draws_81 (fun Ez70 hE69 => ?_)
                      have f71 : Ez70 (30) = .inr (6, [.int (nI (W)), .int (nI (G)), .int (nI (S)), .int (shI (t)), .int (nI (B)), .int (nI (off)), .int (nI (cnt)), .ref (ad 31), .ref (ad 32), .ref (ad 33), .int (nI (tl)), .ref (ad 34), .int (nI (n)), .ref (ad 35), .ref (ad 36), .ref (ad 37), .int (nI ((scols wd dt G sz co (ltr lt) i ++ mcols wd dt (co i) (ltr lt i) k ++ dk (if k = 0 then 0 else 1) ++ glyphP dt (ltr lt i k) (co i) j).length)), .ref (ad 38), .ref (ad 39)]) := va_up_of hE69 (by first | decide | omega) w30
                      have f72 : Ez70 (31) = aI cI 27 wd := va_up_of hE69 (by first | decide | omega) w31
                      have f73 : Ez70 (32) = aI cI 162 gl := va_up_of hE69 (by first | decide | omega) w32
                      have f74 : Ez70 (35) = aI cI 6 sz := va_up_of hE69 (by first | decide | omega) w35
                      have f75 : Ez70 (36) = aI cI 6 co := va_up_of hE69 (by first | decide | omega) w36
                      have f76 : Ez70 (37) = aI cI 72 lt := va_up_of hE69 (by first | decide | omega) w37
                      have f78 : Ez70 (39) = aI cI 600 sc4 := va_up_of hE69 (by first | decide | omega) w39
                      have f79 : Ez70 (38) = aI cI 600 (va_up sd4 ((scols wd dt G sz co (ltr lt) i ++ mcols wd dt (co i) (ltr lt i) k ++ dk (if k = 0 then 0 else 1) ++ glyphP dt (ltr lt i k) (co i) j).length) (gl ((6 * (ltr lt i k)) + j))) := va_up_eq hE69
                      have g80 : ∀ k : Nat, (k ≠ 30 ∧ k ≠ 38 ∧ k ≠ 39) → Ez70 k = E k := fun k hk => va_up_of hE69 (by omega) (wf k hk)
                      refine z_aload_n C dX6_draws_82 rfl ?_
                      refine z_get C (30) (Cn := RX6) (T := TX6) (N := 19) (fi := 18) iw_X6_draws_6 rfl (by decide) ln_X6_draws_47 (by first | decide | omega) rfl f71 rfl dX6_draws_83 ?_
                      refine z_aload_n C dX6_draws_86 rfl ?_
                      refine z_get C (30) (Cn := RX6) (T := TX6) (N := 19) (fi := 16) iw_X6_draws_6 rfl (by decide) ln_X6_draws_67 (by first | decide | omega) rfl f71 rfl dX6_draws_87 ?_
                      refine z_aload_n C dX6_draws_90 rfl ?_
                      refine z_get C (30) (Cn := RX6) (T := TX6) (N := 19) (fi := 14) iw_X6_draws_6 rfl (by decide) ln_X6_draws_38 (by first | decide | omega) rfl f71 rfl dX6_draws_91 ?_
                      refine z_iload_n C dX6_draws_94 rfl ?_
                      refine z_ialdG C (36) (by first | decide | omega) rfl f75 (by omega) (by decide) dX6_draws_95 ?_
                      refine z_iastG C (39) hX (by first | decide | omega) rfl f78 (by omega) (by decide) dX6_draws_96 (fun Ez82 hE81 => ?_)
                      have f83 : Ez82 (30) = .inr (6, [.int (nI (W)), .int (nI (G)), .int (nI (S)), .int (shI (t)), .int (nI (B)), .int (nI (off)), .int (nI (cnt)), .ref (ad 31), .ref (ad 32), .ref (ad 33), .int (nI (tl)), .ref (ad 34), .int (nI (n)), .ref (ad 35), .ref (ad 36), .ref (ad 37), .int (nI ((scols wd dt G sz co (ltr lt) i ++ mcols wd dt (co i) (ltr lt i) k ++ dk (if k = 0 then 0 else 1) ++ glyphP dt (ltr lt i k) (co i) j).length)), .ref (ad 38), .ref (ad 39)]) := va_up_of hE81 (by first | decide | omega) f71
                      have f84 : Ez82 (31) = aI cI 27 wd := va_up_of hE81 (by first | decide | omega) f72
                      have f85 : Ez82 (32) = aI cI 162 gl := va_up_of hE81 (by first | decide | omega) f73
                      have f86 : Ez82 (35) = aI cI 6 sz := va_up_of hE81 (by first | decide | omega) f74
                      have f87 : Ez82 (36) = aI cI 6 co := va_up_of hE81 (by first | decide | omega) f75
                      have f88 : Ez82 (37) = aI cI 72 lt := va_up_of hE81 (by first | decide | omega) f76
                      have f90 : Ez82 (38) = aI cI 600 (va_up sd4 ((scols wd dt G sz co (ltr lt) i ++ mcols wd dt (co i) (ltr lt i) k ++ dk (if k = 0 then 0 else 1) ++ glyphP dt (ltr lt i k) (co i) j).length) (gl ((6 * (ltr lt i k)) + j))) := va_up_of hE81 (by first | decide | omega) f79
                      have f91 : Ez82 (39) = aI cI 600 (va_up sc4 ((scols wd dt G sz co (ltr lt) i ++ mcols wd dt (co i) (ltr lt i) k ++ dk (if k = 0 then 0 else 1) ++ glyphP dt (ltr lt i k) (co i) j).length) (co (i))) := va_up_eq hE81
                      have g92 : ∀ k : Nat, (k ≠ 30 ∧ k ≠ 38 ∧ k ≠ 39) → Ez82 k = E k := fun k hk => va_up_of hE81 (by omega) (g80 k hk)
                      refine z_aload_n C dX6_draws_97 rfl ?_
                      refine z_dup C dX6_draws_98 rfl ?_
                      refine z_get C (30) (Cn := RX6) (T := TX6) (N := 19) (fi := 16) iw_X6_draws_6 rfl (by decide) ln_X6_draws_67 (by first | decide | omega) rfl f83 rfl dX6_draws_99 ?_
                      refine z_iconst C (nI (1)) dX6_draws_102 (by decide) ?_
                      refine z_iaddN C  dX6_draws_103 ?_
                      refine z_put C (30) (Cn := RX6) (T := TX6) (N := 19) (fi := 16) tyX6 iw_X6_draws_6 tyX6_ok nmX6 rfl (by decide) ln_X6_draws_67 hX (by first | decide | omega) rfl f83 rfl rfl rfl rfl (Nat.le_of_ble_eq_true rfl) dX6_draws_104 (fun Ez94 hE93 => ?_)
                      have f96 : Ez94 (31) = aI cI 27 wd := va_up_of hE93 (by first | decide | omega) f84
                      have f97 : Ez94 (32) = aI cI 162 gl := va_up_of hE93 (by first | decide | omega) f85
                      have f98 : Ez94 (35) = aI cI 6 sz := va_up_of hE93 (by first | decide | omega) f86
                      have f99 : Ez94 (36) = aI cI 6 co := va_up_of hE93 (by first | decide | omega) f87
                      have f100 : Ez94 (37) = aI cI 72 lt := va_up_of hE93 (by first | decide | omega) f88
                      have f101 : Ez94 (38) = aI cI 600 (va_up sd4 ((scols wd dt G sz co (ltr lt) i ++ mcols wd dt (co i) (ltr lt i) k ++ dk (if k = 0 then 0 else 1) ++ glyphP dt (ltr lt i k) (co i) j).length) (gl ((6 * (ltr lt i k)) + j))) := va_up_of hE93 (by first | decide | omega) f90
                      have f102 : Ez94 (39) = aI cI 600 (va_up sc4 ((scols wd dt G sz co (ltr lt) i ++ mcols wd dt (co i) (ltr lt i) k ++ dk (if k = 0 then 0 else 1) ++ glyphP dt (ltr lt i k) (co i) j).length) (co (i))) := va_up_of hE93 (by first | decide | omega) f91
                      have f103 : Ez94 (30) = .inr (6, [.int (nI (W)), .int (nI (G)), .int (nI (S)), .int (shI (t)), .int (nI (B)), .int (nI (off)), .int (nI (cnt)), .ref (ad 31), .ref (ad 32), .ref (ad 33), .int (nI (tl)), .ref (ad 34), .int (nI (n)), .ref (ad 35), .ref (ad 36), .ref (ad 37), .int (nI (((scols wd dt G sz co (ltr lt) i ++ mcols wd dt (co i) (ltr lt i) k ++ dk (if k = 0 then 0 else 1) ++ glyphP dt (ltr lt i k) (co i) j).length) + 1)), .ref (ad 38), .ref (ad 39)]) := va_up_eq hE93
                      have g104 : ∀ k : Nat, (k ≠ 30 ∧ k ≠ 38 ∧ k ≠ 39) → Ez94 k = E k := fun k hk => va_up_of hE93 (by omega) (g92 k hk)
                      refine z_iincN (j := 1) C [(0, .ref (ad 30)), (1, .int (nI (i))), (2, .int (nI (k))), (3, .int (nI (ltr lt i k))), (4, .int (nI (j + 1)))] dX6_draws_107 rfl (by decide) ⟨rfl, rfl, rfl, rfl, rfl, rfl, rfl, rfl, rfl, rfl, trivial⟩ ?_
                      refine z_goto C 50 dX6_draws_110 (by decide) ?_
                      refine z_lv [(0, .ref (ad 30)), (1, .int (nI (i))), (2, .int (nI (k))), (3, .int (nI (ltr lt i k))), (4, .int (nI (j + 1)))] ⟨rfl, rfl, rfl, rfl, rfl, rfl, rfl, rfl, rfl, rfl, trivial⟩ ?_
                      exact ih50 (j + 1) Ez94 (by omega) (f103.trans (by rw [hl50])) (by rw [glyphP_s, ← List.append_assoc, ← hgl _ hck j h58]; exact ⟨_, _, f101, f102, SP_add wsp⟩) g104 (by omega)
                refine z_lv [(0, .ref (ad 30)), (1, .int (nI (i))), (2, .int (nI (k))), (3, .int (nI (ltr lt i k))), (4, .int (nI (0)))] ⟨rfl, rfl, rfl, rfl, rfl, rfl, rfl, rfl, rfl, rfl, trivial⟩ ?_
                exact loop50 (wd (ltr lt i k) + 1) 0 Ez58 (Nat.zero_le _) (by rw [if_neg hk0, show scols wd dt G sz co (ltr lt) i ++ mcols wd dt (co i) (ltr lt i) k ++ dk 1 ++ glyphP dt (ltr lt i k) (co i) 0 = scols wd dt G sz co (ltr lt) i ++ mcols wd dt (co i) (ltr lt i) k ++ dk 1 from List.append_nil _, List.length_append]; exact v60) (by rw [if_neg hk0, show scols wd dt G sz co (ltr lt) i ++ mcols wd dt (co i) (ltr lt i) k ++ dk 1 ++ glyphP dt (ltr lt i k) (co i) 0 = scols wd dt G sz co (ltr lt) i ++ mcols wd dt (co i) (ltr lt i) k ++ dk 1 from List.append_nil _]; exact hs61) g68 (by omega)
        refine z_lv [(0, .ref (ad 30)), (1, .int (nI (i))), (2, .int (nI (0)))] ⟨rfl, rfl, rfl, rfl, rfl, rfl, trivial⟩ ?_
        exact loop17 (sz i + 1) 0 E2 (Nat.zero_le _) (by show E2 30 = _; rw [show scols wd dt G sz co (ltr lt) i ++ mcols wd dt (co i) (ltr lt i) 0 = scols wd dt G sz co (ltr lt) i from List.append_nil _]; exact q30) (by rw [show scols wd dt G sz co (ltr lt) i ++ mcols wd dt (co i) (ltr lt i) 0 = scols wd dt G sz co (ltr lt) i from List.append_nil _]; exact qs) qf (by omega)
  refine z_lv [(0, .ref (ad 30)), (1, .int (nI (0)))] ⟨rfl, rfl, rfl, rfl, trivial⟩ ?_
  exact loop7 (n + 1) 0 Ez2 (Nat.zero_le _) f9 (hs.mv (va_up_of hE1 (by decide) rfl) (va_up_of hE1 (by decide) rfl)) g10 (by omega)

