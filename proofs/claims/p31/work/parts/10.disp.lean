def shI (t : Nat) : Int32 := nI t - nI 2
def sft (d t : Nat) : Nat := if t < 2 then d / 2 ^ (2 - t) else d * 2 ^ (t - 2) % 256
theorem shI_ge : ∀ t, t < 5 → (0 ≤ shI t ↔ 2 ≤ t) := by decide +kernel
theorem sft_hi : ∀ t, t < 5 → 2 ≤ t → ∀ d, d < 256 → ((nI d) <<< ((shI t) &&& 31)) &&& (nI 255) = nI (sft d t) := by decide +kernel
theorem sft_lo : ∀ t, t < 5 → t < 2 → ∀ d, d < 256 → (nI d) >>> ((-(shI t)) &&& 31) = nI (sft d t) := by decide +kernel
theorem sft_lt {d t : Nat} (hd : d < 256) : sft d t < 256 := by
  unfold sft
  split
  · exact Nat.lt_of_le_of_lt (Nat.div_le_self _ _) hd
  · exact Nat.mod_lt _ (by decide)
def lit (d t m : Nat) : Nat := sft d t &&& (255 - m)
theorem lit_lt {d t m : Nat} (hd : d < 256) : lit d t m < 256 := Nat.lt_of_le_of_lt Nat.and_le_left (sft_lt hd)
theorem xor_m1 : ∀ m, m < 256 → nI m ^^^ (-1) = nI (4294967295 - m) := by decide +kernel
theorem land_m {a m : Nat} (ha : a < 256) (hm : m < 256) : a &&& (4294967295 - m) = a &&& (255 - m) := by
  apply Nat.eq_of_testBit_eq
  intro i
  rw [Nat.testBit_and, Nat.testBit_and]
  by_cases hi : i < 8
  · rw [show 4294967295 - m = 2 ^ 32 - (m + 1) by omega, show 255 - m = 2 ^ 8 - (m + 1) by omega, Nat.testBit_two_pow_sub_succ (by omega), Nat.testBit_two_pow_sub_succ (by omega)]
    simp [hi, show i < 32 by omega]
  · rw [Nat.testBit_lt_two_pow (Nat.lt_of_lt_of_le (show a < 2 ^ 8 from ha) (Nat.pow_le_pow_right (by decide) (by omega)))]
    simp
theorem lit_e {d t m : Nat} (hd : d < 256) (hm : m < 256) : (nI (sft d t)) &&& (nI (4294967295 - m)) = nI (lit d t m) := by
  rw [nx_and, land_m (sft_lt hd) hm]; rfl
def wt (c : Nat) : Nat := if c = 3 then 2 else 1
def colS (L0 : List (Nat × Nat)) (t : Nat) (df : Nat → Nat) (a x : Nat) : Nat := wt (colc L0 (a + x)) * pc8 (lit (dotc L0 (a + x)) t (df x))
def ldS (L0 : List (Nat × Nat)) (t : Nat) (df : Nat → Nat) (W a : Nat) : Nat := sm (colS L0 t df a) W
theorem colS_le (L0 : List (Nat × Nat)) (t : Nat) (df : Nat → Nat) (a x : Nat) : colS L0 t df a x ≤ 16 := by
  unfold colS
  have h1 := pc8_le (lit (dotc L0 (a + x)) t (df x))
  have h2 : wt (colc L0 (a + x)) ≤ 2 := by unfold wt; split <;> omega
  calc _ ≤ 2 * 8 := Nat.mul_le_mul h2 h1
    _ = 16 := rfl
theorem ldS_le (L0 : List (Nat × Nat)) (t : Nat) (df : Nat → Nat) (W a : Nat) : ldS L0 t df W a ≤ W * 16 := sm_le (fun k _ => colS_le L0 t df a k)
def dmS (L0 : List (Nat × Nat)) (t : Nat) (df : Nat → Nat) (a x : Nat) : Nat := pc8 (dotc L0 (a + x)) - pc8 (lit (dotc L0 (a + x)) t (df x))
theorem b1_tb (n r : Nat) : b1 n r = (n.testBit r).toNat := (Nat.toNat_testBit n r).symm
theorem b1_and (a b r : Nat) : b1 (a &&& b) r ≤ b1 a r := by
  rw [b1_tb, b1_tb, Nat.testBit_and]
  cases a.testBit r <;> cases b.testBit r <;> decide
theorem pc8_and (a b : Nat) : pc8 (a &&& b) ≤ pc8 a := sm_le2 (fun k _ => b1_and a b k)
theorem pc8_sft : ∀ t, t < 5 → ∀ d, d < 256 → pc8 (sft d t) ≤ pc8 d := by decide +kernel
theorem pc8_lit {d t m : Nat} (hd : d < 256) (ht : t ≤ 4) : pc8 (lit d t m) ≤ pc8 d := Nat.le_trans (pc8_and _ _) (pc8_sft t (by omega) d hd)
theorem dmS_le (L0 : List (Nat × Nat)) (t : Nat) (df : Nat → Nat) (a x : Nat) : dmS L0 t df a x ≤ 8 := Nat.le_trans (Nat.sub_le _ _) (pc8_le _)
theorem b1_sh : ∀ n, n < 256 → ∀ r, r < 8 → ((nI n) >>> ((nI r) &&& 31)) &&& (nI 1) = nI (b1 n r) := by decide +kernel
theorem b1_le (n r : Nat) : b1 n r ≤ 1 := by unfold b1; omega
theorem iw_ex {v : Int32} {hi : Nat} (hh : hi < 2 ^ 31) (h : nI 0 ≤ v ∧ v ≤ nI hi) : ∃ j : Nat, j ≤ hi ∧ v = nI j := by
  rcases iw_in (v := v) hh with q | q
  · exact q
  · exact absurd h q
theorem iw_X5_isLed_5 : ∀ w ∈ wsX50, w ∈ wsX5_isLed := by decide +kernel
theorem ln_X5_isLed_41 : Cond.fieldLink RX5 41 "MarqueeDisplay" "columns" "I" ∈ wsX5_isLed := by decide +kernel
set_option maxHeartbeats 4000000 in
set_option maxRecDepth 100000 in
theorem k_isLed_y (vl : Launch) (D : va_G) (cI cM : ClassId) (A : Nat → Prop) (ad : Nat → Nat) (E : Nat → va_E) (hX : XD A 32 ad) {W G S B off cnt t : Nat} {r x : Nat} (e0 : E (0) = .inr (5, [.ref (ad 1), .ref (ad 4), .ref (ad 6), .ref (ad 26), .ref (ad 29), .int (nI (W)), .int (nI (G)), .int (nI (S)), .int (shI t), .int (nI (B)), .int (nI (off)), .int (nI (cnt))])) (hr : r ≤ 7) (hx : x < W) (hW : W ≤ 32) : MF vl yX5_isLed wsX5_isLed { frames := 1, cells := 0, slots := 0, locals := 22 } D cI cM A 32 ad E [.ref (ad 0), .int (nI (r)), .int (nI (x))] (nI 1) := by
  refine mf_of cX5_isLed 3 (.boolean) RX5 (by decide) rfl rfl (Nat.le_of_ble_eq_true rfl) (rfl) ?_
  intro vp ve vs vm va vb vt vc Q C hend
  refine z_lv [(0, .ref (ad 0)), (1, .int (nI (r))), (2, .int (nI (x)))] ⟨rfl, rfl, rfl, rfl, rfl, rfl, trivial⟩ ?_
  refine z_iload_n C dX5_isLed_0 rfl ?_
  refine z_iconst C (nI (0)) dX5_isLed_1 (by decide) ?_
  refine z_bipush C (nI (7)) dX5_isLed_2 (by decide) ?_
  refine z_callSF C (k_X5_isWithin vl D cI cM A ad E hX (nI (r)) (nI (0)) (nI (7))) (va_cwS 3 C.2.2.2.2.1 gX5_isLed_X5_isWithin rfl rfl rfl (by decide +kernel) ⟨Nat.le_of_ble_eq_true rfl, Nat.le_of_ble_eq_true rfl⟩) rfl rfl (Nat.le_of_ble_eq_true rfl) ⟨Nat.zero_le _, Nat.zero_le _⟩ dX5_isLed_4 ?_
  refine z_top (nI (1)) (iw_yN ⟨Nat.zero_le _, hr⟩ (by decide)) ?_
  refine z_if_eqN C 28 (by omega) dX5_isLed_7 (by decide) (fun h7 => (by exfalso; omega)) (fun h7 => ?_)
  refine z_iload_n C dX5_isLed_10 rfl ?_
  refine z_iconst C (nI (0)) dX5_isLed_11 (by decide) ?_
  refine z_aload_n C dX5_isLed_12 rfl ?_
  refine z_get C (0) (Cn := RX5) (T := TX5) (N := 12) (fi := 5) iw_X5_isLed_5 rfl (by decide) ln_X5_isLed_41 (by first | decide | omega) rfl e0 rfl dX5_isLed_13 ?_
  refine z_iconst C (nI (1)) dX5_isLed_16 (by decide) ?_
  refine z_isubN C (by omega) dX5_isLed_17 ?_
  refine z_callSF C (k_X5_isWithin vl D cI cM A ad E hX (nI (x)) (nI (0)) (nI (W - 1))) (va_cwS 3 C.2.2.2.2.1 gX5_isLed_X5_isWithin rfl rfl rfl (by decide +kernel) ⟨Nat.le_of_ble_eq_true rfl, Nat.le_of_ble_eq_true rfl⟩) rfl rfl (Nat.le_of_ble_eq_true rfl) ⟨Nat.zero_le _, Nat.zero_le _⟩ dX5_isLed_18 ?_
  refine z_top (nI (1)) (iw_yN ⟨Nat.zero_le _, by omega⟩ (by omega)) ?_
  refine z_if_eqN C 28 (by omega) dX5_isLed_21 (by decide) (fun h21 => (by exfalso; omega)) (fun h21 => ?_)
  refine z_iconst C (nI (1)) dX5_isLed_24 (by decide) ?_
  refine z_goto C 29 dX5_isLed_25 (by decide) ?_
  exact hend _ _ _ dX5_isLed_29 (rfl)

set_option maxHeartbeats 4000000 in
set_option maxRecDepth 100000 in
theorem k_isLed_n (vl : Launch) (D : va_G) (cI cM : ClassId) (A : Nat → Prop) (ad : Nat → Nat) (E : Nat → va_E) (hX : XD A 32 ad) {W G S B off cnt t : Nat} {u v : Int32} (e0 : E (0) = .inr (5, [.ref (ad 1), .ref (ad 4), .ref (ad 6), .ref (ad 26), .ref (ad 29), .int (nI (W)), .int (nI (G)), .int (nI (S)), .int (shI t), .int (nI (B)), .int (nI (off)), .int (nI (cnt))])) (hn : ¬ ((∃ r : Nat, r ≤ 7 ∧ u = nI r) ∧ ∃ x : Nat, x < W ∧ v = nI x)) (hW : 8 ≤ W ∧ W ≤ 32) : MF vl yX5_isLed wsX5_isLed { frames := 1, cells := 0, slots := 0, locals := 22 } D cI cM A 32 ad E [.ref (ad 0), .int (u), .int (v)] (nI 0) := by
  refine mf_of cX5_isLed 3 (.boolean) RX5 (by decide) rfl rfl (Nat.le_of_ble_eq_true rfl) (rfl) ?_
  intro vp ve vs vm va vb vt vc Q C hend
  refine z_lv [(0, .ref (ad 0)), (1, .int (u)), (2, .int (v))] ⟨rfl, rfl, rfl, rfl, rfl, rfl, trivial⟩ ?_
  refine z_iload_n C dX5_isLed_0 rfl ?_
  refine z_iconst C (nI (0)) dX5_isLed_1 (by decide) ?_
  refine z_bipush C (nI (7)) dX5_isLed_2 (by decide) ?_
  refine z_callSF C (k_X5_isWithin vl D cI cM A ad E hX (u) (nI (0)) (nI (7))) (va_cwS 3 C.2.2.2.2.1 gX5_isLed_X5_isWithin rfl rfl rfl (by decide +kernel) ⟨Nat.le_of_ble_eq_true rfl, Nat.le_of_ble_eq_true rfl⟩) rfl rfl (Nat.le_of_ble_eq_true rfl) ⟨Nat.zero_le _, Nat.zero_le _⟩ dX5_isLed_4 ?_
  refine z_if_eq C 28 dX5_isLed_7 (by decide) (fun h7 => ?_) (fun h7 => ?_)
  · refine z_iconst C (nI (0)) dX5_isLed_28 (by decide) ?_
    exact hend _ _ _ dX5_isLed_29 (rfl)
  · refine z_iload_n C dX5_isLed_10 rfl ?_
    refine z_iconst C (nI (0)) dX5_isLed_11 (by decide) ?_
    refine z_aload_n C dX5_isLed_12 rfl ?_
    refine z_get C (0) (Cn := RX5) (T := TX5) (N := 12) (fi := 5) iw_X5_isLed_5 rfl (by decide) ln_X5_isLed_41 (by first | decide | omega) rfl e0 rfl dX5_isLed_13 ?_
    refine z_iconst C (nI (1)) dX5_isLed_16 (by decide) ?_
    refine z_isubN C (by omega) dX5_isLed_17 ?_
    refine z_callSF C (k_X5_isWithin vl D cI cM A ad E hX (v) (nI (0)) (nI (W - 1))) (va_cwS 3 C.2.2.2.2.1 gX5_isLed_X5_isWithin rfl rfl rfl (by decide +kernel) ⟨Nat.le_of_ble_eq_true rfl, Nat.le_of_ble_eq_true rfl⟩) rfl rfl (Nat.le_of_ble_eq_true rfl) ⟨Nat.zero_le _, Nat.zero_le _⟩ dX5_isLed_18 ?_
    refine z_top (nI (0)) (iw_n (fun q => hn ⟨iw_ex (by decide) (iw_1 h7), by obtain ⟨j, h1, h2⟩ := iw_ex (by omega) q; exact ⟨j, by omega, h2⟩⟩)) ?_
    refine z_if_eqN C 28 (by omega) dX5_isLed_21 (by decide) (fun h21 => ?_) (fun h21 => (by exfalso; omega))
    refine z_iconst C (nI (0)) dX5_isLed_28 (by decide) ?_
    exact hend _ _ _ dX5_isLed_29 (rfl)

set_option maxHeartbeats 4000000 in
set_option maxRecDepth 100000 in
theorem k_X5_shifted (vl : Launch) (D : va_G) (cI cM : ClassId) (A : Nat → Prop) (ad : Nat → Nat) (E : Nat → va_E) (hX : XD A 32 ad) {d t : Nat} (hd : d < 256) (ht : t ≤ 4) : MF vl yX5_shifted wsX5_shifted { frames := 0, cells := 0, slots := 0, locals := 0 } D cI cM A 32 ad E [.int (nI (d)), .int (shI t)] (nI (sft d t)) := by
  refine mf_of cX5_shifted 2 (.int) RX5 (by decide) rfl rfl (Nat.le_of_ble_eq_true rfl) (rfl) ?_
  intro vp ve vs vm va vb vt vc Q C hend
  refine z_lv [(0, .int (nI (d))), (1, .int (shI t))] ⟨rfl, rfl, rfl, rfl, trivial⟩ ?_
  refine z_iload_n C dX5_shifted_0 rfl ?_
  refine z_if_ge C 11 dX5_shifted_1 (by decide) (fun h1 => ?_) (fun h1 => ?_)
  · refine z_iload_n C dX5_shifted_11 rfl ?_
    refine z_iload_n C dX5_shifted_12 rfl ?_
    refine z_ishl C dX5_shifted_13  ?_
    refine z_sipush C (nI (255)) dX5_shifted_14 (by decide) ?_
    refine z_iand C dX5_shifted_17  ?_
    exact hend _ _ _ dX5_shifted_18 (sft_hi t (by omega) ((shI_ge t (by omega)).mp h1) d hd)
  · refine z_iload_n C dX5_shifted_4 rfl ?_
    refine z_iload_n C dX5_shifted_5 rfl ?_
    refine z_ineg C dX5_shifted_6 ?_
    refine z_ishr C dX5_shifted_7  ?_
    refine z_goto C 18 dX5_shifted_8 (by decide) ?_
    exact hend _ _ _ dX5_shifted_18 (sft_lo t (by omega) (by have h2 := mt (shI_ge t (by omega)).mpr h1; omega) d hd)

theorem iw_X5_defectsOf_5 : ∀ w ∈ wsX50, w ∈ wsX5_defectsOf := by decide +kernel
theorem ln_X5_defectsOf_37 : Cond.fieldLink RX5 37 "MarqueeDisplay" "defects" "[I" ∈ wsX5_defectsOf := by decide +kernel
set_option maxHeartbeats 4000000 in
set_option maxRecDepth 100000 in
theorem k_X5_defectsOf (vl : Launch) (D : va_G) (cI cM : ClassId) (A : Nat → Prop) (ad : Nat → Nat) (E : Nat → va_E) (hX : XD A 32 ad) {W G S B off cnt t : Nat} {df : Nat → Nat} {x : Nat} (e0 : E (0) = .inr (5, [.ref (ad 1), .ref (ad 4), .ref (ad 6), .ref (ad 26), .ref (ad 29), .int (nI (W)), .int (nI (G)), .int (nI (S)), .int (shI t), .int (nI (B)), .int (nI (off)), .int (nI (cnt))])) (e29 : E (29) = aI cI 32 df) (hx : x < 32) : MF vl yX5_defectsOf wsX5_defectsOf { frames := 1, cells := 0, slots := 0, locals := 22 } D cI cM A 32 ad E [.ref (ad 0), .int (nI (x))] (nI (df x)) := by
  refine mf_of cX5_defectsOf 2 (.int) RX5 (by decide) rfl rfl (Nat.le_of_ble_eq_true rfl) (rfl) ?_
  intro vp ve vs vm va vb vt vc Q C hend
  refine z_lv [(0, .ref (ad 0)), (1, .int (nI (x)))] ⟨rfl, rfl, rfl, rfl, trivial⟩ ?_
  refine z_iload_n C dX5_defectsOf_0 rfl ?_
  refine z_iconst C (nI (0)) dX5_defectsOf_1 (by decide) ?_
  refine z_aload_n C dX5_defectsOf_2 rfl ?_
  refine z_get C (0) (Cn := RX5) (T := TX5) (N := 12) (fi := 4) iw_X5_defectsOf_5 rfl (by decide) ln_X5_defectsOf_37 (by first | decide | omega) rfl e0 rfl dX5_defectsOf_3 ?_
  refine z_alenG C (29) (by first | decide | omega) rfl e29 dX5_defectsOf_6 ?_
  refine z_iconst C (nI (1)) dX5_defectsOf_7 (by decide) ?_
  refine z_isubN C (by omega) dX5_defectsOf_8 ?_
  refine z_callSF C (k_X5_isWithin vl D cI cM A ad E hX (nI (x)) (nI (0)) (nI (32 - 1))) (va_cwS 3 C.2.2.2.2.1 gX5_defectsOf_X5_isWithin rfl rfl rfl (by decide +kernel) ⟨Nat.le_of_ble_eq_true rfl, Nat.le_of_ble_eq_true rfl⟩) rfl rfl (Nat.le_of_ble_eq_true rfl) ⟨Nat.zero_le _, Nat.zero_le _⟩ dX5_defectsOf_9 ?_
  refine z_top (nI (1)) (iw_yN ⟨Nat.zero_le _, by omega⟩ (by omega)) ?_
  refine z_if_eqN C 24 (by omega) dX5_defectsOf_12 (by decide) (fun h12 => (by exfalso; omega)) (fun h12 => ?_)
  refine z_aload_n C dX5_defectsOf_15 rfl ?_
  refine z_get C (0) (Cn := RX5) (T := TX5) (N := 12) (fi := 4) iw_X5_defectsOf_5 rfl (by decide) ln_X5_defectsOf_37 (by first | decide | omega) rfl e0 rfl dX5_defectsOf_16 ?_
  refine z_iload_n C dX5_defectsOf_19 rfl ?_
  refine z_ialdG C (29) (by first | decide | omega) rfl e29 (by omega) (by decide) dX5_defectsOf_20 ?_
  refine z_goto C 25 dX5_defectsOf_21 (by decide) ?_
  exact hend _ _ _ dX5_defectsOf_25 (rfl)

set_option maxHeartbeats 4000000 in
set_option maxRecDepth 100000 in
theorem k_X5_isDefective (vl : Launch) (D : va_G) (cI cM : ClassId) (A : Nat → Prop) (ad : Nat → Nat) (E : Nat → va_E) (hX : XD A 32 ad) {W G S B off cnt t : Nat} {df : Nat → Nat} {r x : Nat} (e0 : E (0) = .inr (5, [.ref (ad 1), .ref (ad 4), .ref (ad 6), .ref (ad 26), .ref (ad 29), .int (nI (W)), .int (nI (G)), .int (nI (S)), .int (shI t), .int (nI (B)), .int (nI (off)), .int (nI (cnt))])) (e29 : E (29) = aI cI 32 df) (hr : r ≤ 7) (hx : x < 32) (hdf : df x < 256) : MF vl yX5_isDefective wsX5_isDefective { frames := 2, cells := 0, slots := 0, locals := 43 } D cI cM A 32 ad E [.ref (ad 0), .int (nI (r)), .int (nI (x))] (nI (b1 (df x) r)) := by
  refine mf_of cX5_isDefective 3 (.boolean) RX5 (by decide) rfl rfl (Nat.le_of_ble_eq_true rfl) (by have h := b1_le (df x) r; rcases (show b1 (df x) r = 0 ∨ b1 (df x) r = 1 by omega) with e | e <;> rw [e] <;> rfl) ?_
  intro vp ve vs vm va vb vt vc Q C hend
  refine z_lv [(0, .ref (ad 0)), (1, .int (nI (r))), (2, .int (nI (x)))] ⟨rfl, rfl, rfl, rfl, rfl, rfl, trivial⟩ ?_
  have hb := b1_le (df x) r
  refine z_aload_n C dX5_isDefective_0 rfl ?_
  refine z_iload_n C dX5_isDefective_1 rfl ?_
  refine z_callVF C (0) (Cn := RX5) (T := TX5) (N := 12) (k_X5_defectsOf vl D cI cM A ad E hX e0 e29 hx) (cwV 1 C.2.2.2.2.1 gX5_isDefective_X5_defectsOf rfl rfl rfl (by decide +kernel) ⟨Nat.le_of_ble_eq_true rfl, Nat.le_of_ble_eq_true rfl⟩) rfl (by first | decide | omega) rfl e0 rfl rfl (Nat.le_of_ble_eq_true rfl) ⟨Nat.zero_le _, Nat.zero_le _⟩ dX5_isDefective_2 ?_
  refine z_iload_n C dX5_isDefective_5 rfl ?_
  refine z_ishr C dX5_isDefective_6  ?_
  refine z_iconst C (nI (1)) dX5_isDefective_7 (by decide) ?_
  refine z_iand C dX5_isDefective_8  ?_
  refine z_top (nI (b1 (df x) r)) (b1_sh _ hdf _ (by omega)) ?_
  refine z_iconst C (nI (1)) dX5_isDefective_9 (by decide) ?_
  refine z_icmp_neN C 17 (by omega) (by omega) dX5_isDefective_10 (by decide) (fun h10 => ?_) (fun h10 => ?_)
  · refine z_iconst C (nI (0)) dX5_isDefective_17 (by decide) ?_
    exact hend _ _ _ dX5_isDefective_18 (by rw [show b1 (df x) r = 0 by omega])
  · refine z_iconst C (nI (1)) dX5_isDefective_13 (by decide) ?_
    refine z_goto C 18 dX5_isDefective_14 (by decide) ?_
    exact hend _ _ _ dX5_isDefective_18 (by rw [h10])

theorem iw_X5_countDefects_5 : ∀ w ∈ wsX50, w ∈ wsX5_countDefects := by decide +kernel
theorem ln_X5_countDefects_37 : Cond.fieldLink RX5 37 "MarqueeDisplay" "defects" "[I" ∈ wsX5_countDefects := by decide +kernel
set_option maxHeartbeats 4000000 in
set_option maxRecDepth 100000 in
theorem k_X5_countDefects (vl : Launch) (D : va_G) (cI cM : ClassId) (A : Nat → Prop) (ad : Nat → Nat) (E : Nat → va_E) (hX : XD A 32 ad) {W G S B off cnt t : Nat} {df : Nat → Nat} (e0 : E (0) = .inr (5, [.ref (ad 1), .ref (ad 4), .ref (ad 6), .ref (ad 26), .ref (ad 29), .int (nI (W)), .int (nI (G)), .int (nI (S)), .int (shI t), .int (nI (B)), .int (nI (off)), .int (nI (cnt))])) (e29 : E (29) = aI cI 32 df) (hdf : ∀ x, x < 32 → df x < 256) : MF vl yX5_countDefects wsX5_countDefects { frames := 1, cells := 0, slots := 0, locals := 20 } D cI cM A 32 ad E [.ref (ad 0)] (nI (sm (fun x => pc8 (df x)) 32)) := by
  refine mf_of cX5_countDefects 6 (.int) RX5 (by decide) rfl rfl (Nat.le_of_ble_eq_true rfl) (rfl) ?_
  intro vp ve vs vm va vb vt vc Q C hend
  refine z_lv [(0, .ref (ad 0))] ⟨rfl, rfl, trivial⟩ ?_
  refine z_iconst C (nI (0)) dX5_countDefects_0 (by decide) ?_
  refine z_istore_n C [(0, .ref (ad 0)), (1, .int (nI (0)))] dX5_countDefects_1 (by decide) ⟨rfl, rfl, rfl, rfl, trivial⟩ ?_
  refine z_aload_n C dX5_countDefects_2 rfl ?_
  refine z_get C (0) (Cn := RX5) (T := TX5) (N := 12) (fi := 4) iw_X5_countDefects_5 rfl (by decide) ln_X5_countDefects_37 (by first | decide | omega) rfl e0 rfl dX5_countDefects_3 ?_
  refine z_astore_n C [(0, .ref (ad 0)), (1, .int (nI (0))), (2, .ref (ad 29))] dX5_countDefects_6 (by decide) ⟨rfl, rfl, rfl, rfl, rfl, rfl, trivial⟩ ?_
  refine z_aload_n C dX5_countDefects_7 rfl ?_
  refine z_alenG C (29) (by first | decide | omega) rfl e29 dX5_countDefects_8 ?_
  refine z_istore_n C [(0, .ref (ad 0)), (1, .int (nI (0))), (2, .ref (ad 29)), (3, .int (nI (32)))] dX5_countDefects_9 (by decide) ⟨rfl, rfl, rfl, rfl, rfl, rfl, rfl, rfl, trivial⟩ ?_
  refine z_iconst C (nI (0)) dX5_countDefects_10 (by decide) ?_
  refine z_istore C [(0, .ref (ad 0)), (1, .int (nI (0))), (2, .ref (ad 29)), (3, .int (nI (32))), (4, .int (nI (0)))] dX5_countDefects_11 (by decide) ⟨rfl, rfl, rfl, rfl, rfl, rfl, rfl, rfl, rfl, rfl, trivial⟩ ?_
  have loop13 : ∀ (fuel : Nat) (i : Nat), (hi : i ≤ 32) → 32 - i < fuel → Z vp vl ve { frames := 1, cells := 0, slots := 0, locals := 20 } vs vm va vb vt vc 6 D A 32 ad E [(0, .ref (ad 0)), (1, .int (nI (sm (fun x => pc8 (df x)) i))), (2, .ref (ad 29)), (3, .int (nI (32))), (4, .int (nI (i)))] 0 0 Q 13 [] := by
    intro fuel
    induction fuel with
    | zero => intro i hi hlt; exact absurd hlt (Nat.not_lt_zero _)
    | succ fuel ih =>
      intro i hi hlt
      have hs1 : sm (fun x => pc8 (df x)) i ≤ i * 8 := sm_le (fun k _ => pc8_le _)
      have ih13 := ih
      refine z_iload C dX5_countDefects_13 rfl ?_
      refine z_iload_n C dX5_countDefects_15 rfl ?_
      refine z_icmp_geN C 39 (by omega) (by omega) dX5_countDefects_16 (by decide) (fun h16 => ?_) (fun h16 => ?_)
      · have hie : i = 32 := by omega
        refine z_iload_n C dX5_countDefects_39 rfl ?_
        exact hend _ _ _ dX5_countDefects_40 (by rw [hie])
      · refine z_aload_n C dX5_countDefects_19 rfl ?_
        refine z_iload C dX5_countDefects_20 rfl ?_
        refine z_ialdG C (29) (by first | decide | omega) rfl e29 (by omega) (by decide) dX5_countDefects_22 ?_
        refine z_istore C [(0, .ref (ad 0)), (1, .int (nI (sm (fun x => pc8 (df x)) i))), (2, .ref (ad 29)), (3, .int (nI (32))), (4, .int (nI (i))), (5, .int (nI (df (i))))] dX5_countDefects_23 (by decide) ⟨rfl, rfl, rfl, rfl, rfl, rfl, rfl, rfl, rfl, rfl, rfl, rfl, trivial⟩ ?_
        refine z_iload_n C dX5_countDefects_25 rfl ?_
        refine z_iload C dX5_countDefects_26 rfl ?_
        refine z_callSF C (k_J6_bitCount_0f7a4 vl D cI cM A ad E hX (hdf i h16)) (va_cwS 1 C.2.2.2.2.1 gX5_countDefects_J6_bitCount_0f7a4 rfl rfl rfl (by decide +kernel) ⟨Nat.le_of_ble_eq_true rfl, Nat.le_of_ble_eq_true rfl⟩) rfl rfl (Nat.le_of_ble_eq_true rfl) ⟨Nat.zero_le _, Nat.zero_le _⟩ dX5_countDefects_28 ?_
        refine z_iaddN C  dX5_countDefects_31 ?_
        refine z_istore_n C [(0, .ref (ad 0)), (1, .int (nI ((sm (fun x => pc8 (df x)) i) + (pc8 (df i))))), (2, .ref (ad 29)), (3, .int (nI (32))), (4, .int (nI (i))), (5, .int (nI (df (i))))] dX5_countDefects_32 (by decide) ⟨rfl, rfl, rfl, rfl, rfl, rfl, rfl, rfl, rfl, rfl, rfl, rfl, trivial⟩ ?_
        refine z_iincN (j := 1) C [(0, .ref (ad 0)), (1, .int (nI ((sm (fun x => pc8 (df x)) i) + (pc8 (df i))))), (2, .ref (ad 29)), (3, .int (nI (32))), (4, .int (nI (i + 1))), (5, .int (nI (df (i))))] dX5_countDefects_33 rfl (by decide) ⟨rfl, rfl, rfl, rfl, rfl, rfl, rfl, rfl, rfl, rfl, rfl, rfl, trivial⟩ ?_
        refine z_goto C 13 dX5_countDefects_36 (by decide) ?_
        refine z_lv [(0, .ref (ad 0)), (1, .int (nI ((sm (fun x => pc8 (df x)) i) + (pc8 (df i))))), (2, .ref (ad 29)), (3, .int (nI (32))), (4, .int (nI (i + 1)))] ⟨rfl, rfl, rfl, rfl, rfl, rfl, rfl, rfl, rfl, rfl, trivial⟩ ?_
        exact ih13 (i + 1) (by omega) (by omega)
  refine z_lv [(0, .ref (ad 0)), (1, .int (nI (0))), (2, .ref (ad 29)), (3, .int (nI (32))), (4, .int (nI (0)))] ⟨rfl, rfl, rfl, rfl, rfl, rfl, rfl, rfl, rfl, rfl, trivial⟩ ?_
  exact loop13 (33) 0 (Nat.zero_le _) (by omega)

theorem iw_X5_litRows_5 : ∀ w ∈ wsX50, w ∈ wsX5_litRows := by decide +kernel
theorem ln_X5_litRows_33 : Cond.fieldLink RX5 33 "MarqueeDisplay" "strip" "LMarqueeDisplay$Strip;" ∈ wsX5_litRows := by decide +kernel
theorem ln_X5_litRows_51 : Cond.fieldLink RX5 51 "MarqueeDisplay" "shift" "I" ∈ wsX5_litRows := by decide +kernel
set_option maxHeartbeats 4000000 in
set_option maxRecDepth 100000 in
theorem k_X5_litRows (vl : Launch) (D : va_G) (cI cM : ClassId) (A : Nat → Prop) (ad : Nat → Nat) (E : Nat → va_E) (hX : XD A 32 ad) {W G S B off cnt t : Nat} {df : Nat → Nat} {L0 : List (Nat × Nat)} {a x : Nat} (e0 : E (0) = .inr (5, [.ref (ad 1), .ref (ad 4), .ref (ad 6), .ref (ad 26), .ref (ad 29), .int (nI (W)), .int (nI (G)), .int (nI (S)), .int (shI t), .int (nI (B)), .int (nI (off)), .int (nI (cnt))])) (e29 : E (29) = aI cI 32 df) (hs : StripAt cI ad E L0) (hl : L0.length ≤ 552) (hd : ∀ a, dotc L0 a < 256) (hdf : ∀ x, x < 32 → df x < 256) (ht : t ≤ 4) (ha : a + x < 2 ^ 31) (hx : x < 32) : MF vl yX5_litRows wsX5_litRows { frames := 3, cells := 0, slots := 0, locals := 65 } D cI cM A 32 ad E [.ref (ad 0), .int (nI (a)), .int (nI (x))] (nI (lit (dotc L0 (a + x)) t (df x))) := by
  refine mf_of cX5_litRows 3 (.int) RX5 (by decide) rfl rfl (Nat.le_of_ble_eq_true rfl) (rfl) ?_
  intro vp ve vs vm va vb vt vc Q C hend
  refine z_lv [(0, .ref (ad 0)), (1, .int (nI (a))), (2, .int (nI (x)))] ⟨rfl, rfl, rfl, rfl, rfl, rfl, trivial⟩ ?_
  obtain ⟨sd, sc, s26, -, -, -⟩ := id hs
  refine z_aload_n C dX5_litRows_0 rfl ?_
  refine z_get C (0) (Cn := RX5) (T := TX5) (N := 12) (fi := 3) iw_X5_litRows_5 rfl (by decide) ln_X5_litRows_33 (by first | decide | omega) rfl e0 rfl dX5_litRows_1 ?_
  refine z_iload_n C dX5_litRows_4 rfl ?_
  refine z_iload_n C dX5_litRows_5 rfl ?_
  refine z_iaddN C  dX5_litRows_6 ?_
  refine z_callVF C (26) (Cn := RX3) (T := TX3) (N := 3) (k_X3_dotsAt vl D cI cM A ad E hX hs (by omega) hl) (cwV 1 C.2.2.2.2.1 gX5_litRows_X3_dotsAt rfl rfl rfl (by decide +kernel) ⟨Nat.le_of_ble_eq_true rfl, Nat.le_of_ble_eq_true rfl⟩) rfl (by first | decide | omega) rfl s26 rfl rfl (Nat.le_of_ble_eq_true rfl) ⟨Nat.zero_le _, Nat.zero_le _⟩ dX5_litRows_7 ?_
  refine z_aload_n C dX5_litRows_10 rfl ?_
  refine z_get C (0) (Cn := RX5) (T := TX5) (N := 12) (fi := 8) iw_X5_litRows_5 rfl (by decide) ln_X5_litRows_51 (by first | decide | omega) rfl e0 rfl dX5_litRows_11 ?_
  refine z_callSF C (k_X5_shifted vl D cI cM A ad E hX (hd _) ht) (va_cwS 2 C.2.2.2.2.1 gX5_litRows_X5_shifted rfl rfl rfl (by decide +kernel) ⟨Nat.le_of_ble_eq_true rfl, Nat.le_of_ble_eq_true rfl⟩) rfl rfl (Nat.le_of_ble_eq_true rfl) ⟨Nat.zero_le _, Nat.zero_le _⟩ dX5_litRows_14 ?_
  refine z_aload_n C dX5_litRows_17 rfl ?_
  refine z_iload_n C dX5_litRows_18 rfl ?_
  refine z_callVF C (0) (Cn := RX5) (T := TX5) (N := 12) (k_X5_defectsOf vl D cI cM A ad E hX e0 e29 hx) (cwV 1 C.2.2.2.2.1 gX5_litRows_X5_defectsOf rfl rfl rfl (by decide +kernel) ⟨Nat.le_of_ble_eq_true rfl, Nat.le_of_ble_eq_true rfl⟩) rfl (by first | decide | omega) rfl e0 rfl rfl (Nat.le_of_ble_eq_true rfl) ⟨Nat.zero_le _, Nat.zero_le _⟩ dX5_litRows_19 ?_
  refine z_iconst C (-1) dX5_litRows_22 (by decide) ?_
  refine z_ixor C dX5_litRows_23  ?_
  refine z_top (nI (4294967295 - df x)) (xor_m1 _ (hdf x hx)) ?_
  refine z_iand C dX5_litRows_24  ?_
  refine z_top (nI (lit (dotc L0 (a + x)) t (df x))) (lit_e (hd _) (hdf x hx)) ?_
  exact hend _ _ _ dX5_litRows_25 (rfl)

theorem iw_X5_loadFrom_5 : ∀ w ∈ wsX50, w ∈ wsX5_loadFrom := by decide +kernel
theorem ln_X5_loadFrom_41 : Cond.fieldLink RX5 41 "MarqueeDisplay" "columns" "I" ∈ wsX5_loadFrom := by decide +kernel
theorem ln_X5_loadFrom_33 : Cond.fieldLink RX5 33 "MarqueeDisplay" "strip" "LMarqueeDisplay$Strip;" ∈ wsX5_loadFrom := by decide +kernel
set_option maxHeartbeats 4000000 in
set_option maxRecDepth 100000 in
theorem k_X5_loadFrom (vl : Launch) (D : va_G) (cI cM : ClassId) (A : Nat → Prop) (ad : Nat → Nat) (E : Nat → va_E) (hX : XD A 32 ad) {W G S B off cnt t : Nat} {df : Nat → Nat} {L0 : List (Nat × Nat)} {a : Nat} (e0 : E (0) = .inr (5, [.ref (ad 1), .ref (ad 4), .ref (ad 6), .ref (ad 26), .ref (ad 29), .int (nI (W)), .int (nI (G)), .int (nI (S)), .int (shI t), .int (nI (B)), .int (nI (off)), .int (nI (cnt))])) (e29 : E (29) = aI cI 32 df) (hs : StripAt cI ad E L0) (hl : L0.length ≤ 552) (hd : ∀ a, dotc L0 a < 256) (hdf : ∀ x, x < 32 → df x < 256) (hc : ∀ a, colc L0 a ≤ 3) (ht : t ≤ 4) (ha : a < 2 ^ 30) (hW : W ≤ 32) : MF vl yX5_loadFrom wsX5_loadFrom { frames := 4, cells := 0, slots := 0, locals := 87 } D cI cM A 32 ad E [.ref (ad 0), .int (nI (a))] (nI (ldS L0 t df W a)) := by
  refine mf_of cX5_loadFrom 5 (.int) RX5 (by decide) rfl rfl (Nat.le_of_ble_eq_true rfl) (rfl) ?_
  intro vp ve vs vm va vb vt vc Q C hend
  refine z_lv [(0, .ref (ad 0)), (1, .int (nI (a)))] ⟨rfl, rfl, rfl, rfl, trivial⟩ ?_
  obtain ⟨sd, sc, s26, -, -, -⟩ := id hs
  refine z_iconst C (nI (0)) dX5_loadFrom_0 (by decide) ?_
  refine z_istore_n C [(0, .ref (ad 0)), (1, .int (nI (a))), (2, .int (nI (0)))] dX5_loadFrom_1 (by decide) ⟨rfl, rfl, rfl, rfl, rfl, rfl, trivial⟩ ?_
  refine z_iconst C (nI (0)) dX5_loadFrom_2 (by decide) ?_
  refine z_istore_n C [(0, .ref (ad 0)), (1, .int (nI (a))), (2, .int (nI (0))), (3, .int (nI (0)))] dX5_loadFrom_3 (by decide) ⟨rfl, rfl, rfl, rfl, rfl, rfl, rfl, rfl, trivial⟩ ?_
  have loop4 : ∀ (fuel : Nat) (x : Nat), (hx : x ≤ W) → W - x < fuel → Z vp vl ve { frames := 4, cells := 0, slots := 0, locals := 87 } vs vm va vb vt vc 5 D A 32 ad E [(0, .ref (ad 0)), (1, .int (nI (a))), (2, .int (nI (sm (colS L0 t df a) x))), (3, .int (nI (x)))] 0 0 Q 4 [] := by
    intro fuel
    induction fuel with
    | zero => intro x hx hlt; exact absurd hlt (Nat.not_lt_zero _)
    | succ fuel ih =>
      intro x hx hlt
      have hs1 : sm (colS L0 t df a) x ≤ x * 16 := sm_le (fun k _ => colS_le L0 t df a k)
      have ih4 := ih
      refine z_iload_n C dX5_loadFrom_4 rfl ?_
      refine z_aload_n C dX5_loadFrom_5 rfl ?_
      refine z_get C (0) (Cn := RX5) (T := TX5) (N := 12) (fi := 5) iw_X5_loadFrom_5 rfl (by decide) ln_X5_loadFrom_41 (by first | decide | omega) rfl e0 rfl dX5_loadFrom_6 ?_
      refine z_icmp_geN C 54 (by omega) (by omega) dX5_loadFrom_9 (by decide) (fun h9 => ?_) (fun h9 => ?_)
      · have hie : x = W := by omega
        refine z_iload_n C dX5_loadFrom_54 rfl ?_
        exact hend _ _ _ dX5_loadFrom_55 (by rw [hie]; rfl)
      · refine z_aload_n C dX5_loadFrom_12 rfl ?_
        refine z_get C (0) (Cn := RX5) (T := TX5) (N := 12) (fi := 3) iw_X5_loadFrom_5 rfl (by decide) ln_X5_loadFrom_33 (by first | decide | omega) rfl e0 rfl dX5_loadFrom_13 ?_
        refine z_iload_n C dX5_loadFrom_16 rfl ?_
        refine z_iload_n C dX5_loadFrom_17 rfl ?_
        refine z_iaddN C  dX5_loadFrom_18 ?_
        refine z_callVF C (26) (Cn := RX3) (T := TX3) (N := 3) (k_X3_colorAt vl D cI cM A ad E hX hs (by omega) hl) (cwV 1 C.2.2.2.2.1 gX5_loadFrom_X3_colorAt rfl rfl rfl (by decide +kernel) ⟨Nat.le_of_ble_eq_true rfl, Nat.le_of_ble_eq_true rfl⟩) rfl (by first | decide | omega) rfl s26 rfl rfl (Nat.le_of_ble_eq_true rfl) ⟨Nat.zero_le _, Nat.zero_le _⟩ dX5_loadFrom_19 ?_
        refine z_iconst C (nI (3)) dX5_loadFrom_22 (by decide) ?_
        refine z_icmp_neN C 30 (by have := hc (a + x); omega) (by omega) dX5_loadFrom_23 (by decide) (fun h23 => ?_) (fun h23 => ?_)
        · refine z_iconst C (nI (1)) dX5_loadFrom_30 (by decide) ?_
          refine z_istore C [(0, .ref (ad 0)), (1, .int (nI (a))), (2, .int (nI (sm (colS L0 t df a) x))), (3, .int (nI (x))), (4, .int (nI (1)))] dX5_loadFrom_31 (by decide) ⟨rfl, rfl, rfl, rfl, rfl, rfl, rfl, rfl, rfl, rfl, trivial⟩ ?_
          refine z_iload_n C dX5_loadFrom_33 rfl ?_
          refine z_iload C dX5_loadFrom_34 rfl ?_
          refine z_aload_n C dX5_loadFrom_36 rfl ?_
          refine z_iload_n C dX5_loadFrom_37 rfl ?_
          refine z_iload_n C dX5_loadFrom_38 rfl ?_
          refine z_callVF C (0) (Cn := RX5) (T := TX5) (N := 12) (k_X5_litRows vl D cI cM A ad E hX e0 e29 hs hl hd hdf ht (by omega) (by omega)) (cwV 2 C.2.2.2.2.1 gX5_loadFrom_X5_litRows rfl rfl rfl (by decide +kernel) ⟨Nat.le_of_ble_eq_true rfl, Nat.le_of_ble_eq_true rfl⟩) rfl (by first | decide | omega) rfl e0 rfl rfl (Nat.le_of_ble_eq_true rfl) ⟨Nat.zero_le _, Nat.zero_le _⟩ dX5_loadFrom_39 ?_
          refine z_callSF C (k_J6_bitCount_0f7a4 vl D cI cM A ad E hX (lit_lt (hd _))) (va_cwS 1 C.2.2.2.2.1 gX5_loadFrom_J6_bitCount_0f7a4 rfl rfl rfl (by decide +kernel) ⟨Nat.le_of_ble_eq_true rfl, Nat.le_of_ble_eq_true rfl⟩) rfl rfl (Nat.le_of_ble_eq_true rfl) ⟨Nat.zero_le _, Nat.zero_le _⟩ dX5_loadFrom_42 ?_
          refine z_imulN C  dX5_loadFrom_45 ?_
          refine z_iaddN C  dX5_loadFrom_46 ?_
          refine z_istore_n C [(0, .ref (ad 0)), (1, .int (nI (a))), (2, .int (nI ((sm (colS L0 t df a) x) + (1 * (pc8 (lit (dotc L0 (a + x)) t (df x))))))), (3, .int (nI (x))), (4, .int (nI (1)))] dX5_loadFrom_47 (by decide) ⟨rfl, rfl, rfl, rfl, rfl, rfl, rfl, rfl, rfl, rfl, trivial⟩ ?_
          refine z_iincN (j := 1) C [(0, .ref (ad 0)), (1, .int (nI (a))), (2, .int (nI ((sm (colS L0 t df a) x) + (1 * (pc8 (lit (dotc L0 (a + x)) t (df x))))))), (3, .int (nI (x + 1))), (4, .int (nI (1)))] dX5_loadFrom_48 rfl (by decide) ⟨rfl, rfl, rfl, rfl, rfl, rfl, rfl, rfl, rfl, rfl, trivial⟩ ?_
          refine z_goto C 4 dX5_loadFrom_51 (by decide) ?_
          refine z_lv [(0, .ref (ad 0)), (1, .int (nI (a))), (2, .int (nI ((sm (colS L0 t df a) x) + (1 * (pc8 (lit (dotc L0 (a + x)) t (df x))))))), (3, .int (nI (x + 1)))] ⟨rfl, rfl, rfl, rfl, rfl, rfl, rfl, rfl, trivial⟩ ?_
          have q := ih4 (x + 1) (by omega) (by omega)
          have e : sm (colS L0 t df a) (x + 1) = sm (colS L0 t df a) x + 1 * pc8 (lit (dotc L0 (a + x)) t (df x)) := by
            show _ + colS L0 t df a x = _
            unfold colS wt
            rw [if_neg h23]
          rw [e] at q
          exact q
        · refine z_iconst C (nI (2)) dX5_loadFrom_26 (by decide) ?_
          refine z_goto C 31 dX5_loadFrom_27 (by decide) ?_
          refine z_istore C [(0, .ref (ad 0)), (1, .int (nI (a))), (2, .int (nI (sm (colS L0 t df a) x))), (3, .int (nI (x))), (4, .int (nI (2)))] dX5_loadFrom_31 (by decide) ⟨rfl, rfl, rfl, rfl, rfl, rfl, rfl, rfl, rfl, rfl, trivial⟩ ?_
          refine z_iload_n C dX5_loadFrom_33 rfl ?_
          refine z_iload C dX5_loadFrom_34 rfl ?_
          refine z_aload_n C dX5_loadFrom_36 rfl ?_
          refine z_iload_n C dX5_loadFrom_37 rfl ?_
          refine z_iload_n C dX5_loadFrom_38 rfl ?_
          refine z_callVF C (0) (Cn := RX5) (T := TX5) (N := 12) (k_X5_litRows vl D cI cM A ad E hX e0 e29 hs hl hd hdf ht (by omega) (by omega)) (cwV 2 C.2.2.2.2.1 gX5_loadFrom_X5_litRows rfl rfl rfl (by decide +kernel) ⟨Nat.le_of_ble_eq_true rfl, Nat.le_of_ble_eq_true rfl⟩) rfl (by first | decide | omega) rfl e0 rfl rfl (Nat.le_of_ble_eq_true rfl) ⟨Nat.zero_le _, Nat.zero_le _⟩ dX5_loadFrom_39 ?_
          refine z_callSF C (k_J6_bitCount_0f7a4 vl D cI cM A ad E hX (lit_lt (hd _))) (va_cwS 1 C.2.2.2.2.1 gX5_loadFrom_J6_bitCount_0f7a4 rfl rfl rfl (by decide +kernel) ⟨Nat.le_of_ble_eq_true rfl, Nat.le_of_ble_eq_true rfl⟩) rfl rfl (Nat.le_of_ble_eq_true rfl) ⟨Nat.zero_le _, Nat.zero_le _⟩ dX5_loadFrom_42 ?_
          refine z_imulN C  dX5_loadFrom_45 ?_
          refine z_iaddN C  dX5_loadFrom_46 ?_
          refine z_istore_n C [(0, .ref (ad 0)), (1, .int (nI (a))), (2, .int (nI ((sm (colS L0 t df a) x) + (2 * (pc8 (lit (dotc L0 (a + x)) t (df x))))))), (3, .int (nI (x))), (4, .int (nI (2)))] dX5_loadFrom_47 (by decide) ⟨rfl, rfl, rfl, rfl, rfl, rfl, rfl, rfl, rfl, rfl, trivial⟩ ?_
          refine z_iincN (j := 1) C [(0, .ref (ad 0)), (1, .int (nI (a))), (2, .int (nI ((sm (colS L0 t df a) x) + (2 * (pc8 (lit (dotc L0 (a + x)) t (df x))))))), (3, .int (nI (x + 1))), (4, .int (nI (2)))] dX5_loadFrom_48 rfl (by decide) ⟨rfl, rfl, rfl, rfl, rfl, rfl, rfl, rfl, rfl, rfl, trivial⟩ ?_
          refine z_goto C 4 dX5_loadFrom_51 (by decide) ?_
          refine z_lv [(0, .ref (ad 0)), (1, .int (nI (a))), (2, .int (nI ((sm (colS L0 t df a) x) + (2 * (pc8 (lit (dotc L0 (a + x)) t (df x))))))), (3, .int (nI (x + 1)))] ⟨rfl, rfl, rfl, rfl, rfl, rfl, rfl, rfl, trivial⟩ ?_
          have q := ih4 (x + 1) (by omega) (by omega)
          have e : sm (colS L0 t df a) (x + 1) = sm (colS L0 t df a) x + 2 * pc8 (lit (dotc L0 (a + x)) t (df x)) := by
            show _ + colS L0 t df a x = _
            unfold colS wt
            rw [if_pos h23]
          rw [e] at q
          exact q
  refine z_lv [(0, .ref (ad 0)), (1, .int (nI (a))), (2, .int (nI (0))), (3, .int (nI (0)))] ⟨rfl, rfl, rfl, rfl, rfl, rfl, rfl, rfl, trivial⟩ ?_
  exact loop4 (W + 1) 0 (Nat.zero_le _) (by omega)

def hv (f : Nat → Nat) : Nat → Nat
  | 0 => 0
  | i + 1 => if i = 0 then 0 else if f (hv f i) < f i then i else hv f i
def pkv (f : Nat → Nat) (i : Nat) : Int32 := if i = 0 then -1 else nI (f (hv f i))
theorem hv_T {f : Nat → Nat} {i : Nat} (hb : ∀ k, f k < 2 ^ 31) (h : nI (f i) ≤ pkv f i) : hv f (i + 1) = hv f i ∧ pkv f (i + 1) = pkv f i := by
  by_cases h0 : i = 0
  · subst h0
    exfalso
    unfold pkv at h
    rw [if_pos rfl] at h
    exact absurd (Int32.le_trans (nI_pos' (hb 0)) h) (by decide)
  · unfold pkv at h ⊢
    rw [if_neg h0, nI_leI (hb _) (hb _)] at h
    have e : hv f (i + 1) = hv f i := by rw [hv, if_neg h0, if_neg (by omega)]
    rw [if_neg (by omega), if_neg h0, e]
    exact ⟨rfl, rfl⟩
theorem hv_F {f : Nat → Nat} {i : Nat} (hb : ∀ k, f k < 2 ^ 31) (h : ¬ nI (f i) ≤ pkv f i) : hv f (i + 1) = i ∧ pkv f (i + 1) = nI (f i) := by
  have e : hv f (i + 1) = i := by
    by_cases h0 : i = 0
    · subst h0; rfl
    · unfold pkv at h
      rw [if_neg h0, nI_leI (hb _) (hb _)] at h
      rw [hv, if_neg h0, if_pos (by omega)]
  unfold pkv
  rw [if_neg (by omega), e]
  exact ⟨rfl, rfl⟩
theorem iw_X5_heaviestOffset_5 : ∀ w ∈ wsX50, w ∈ wsX5_heaviestOffset := by decide +kernel
theorem ln_X5_heaviestOffset_33 : Cond.fieldLink RX5 33 "MarqueeDisplay" "strip" "LMarqueeDisplay$Strip;" ∈ wsX5_heaviestOffset := by decide +kernel
theorem iw_X5_heaviestOffset_3 : ∀ w ∈ wsX30, w ∈ wsX5_heaviestOffset := by decide +kernel
theorem nl_X5_114 : Cond.fieldLinkNest RX5 114 "MarqueeDisplay$Strip" "length" "I" "MarqueeDisplay" ∈ nwL := by decide +kernel
set_option maxHeartbeats 4000000 in
set_option maxRecDepth 100000 in
theorem k_X5_heaviestOffset (vl : Launch) (D : va_G) (cI cM : ClassId) (A : Nat → Prop) (ad : Nat → Nat) (E : Nat → va_E) (hX : XD A 32 ad) {W G S B off cnt t : Nat} {df : Nat → Nat} {L0 : List (Nat × Nat)} (e0 : E (0) = .inr (5, [.ref (ad 1), .ref (ad 4), .ref (ad 6), .ref (ad 26), .ref (ad 29), .int (nI (W)), .int (nI (G)), .int (nI (S)), .int (shI t), .int (nI (B)), .int (nI (off)), .int (nI (cnt))])) (e29 : E (29) = aI cI 32 df) (hs : StripAt cI ad E L0) (hl : L0.length ≤ 552) (hd : ∀ a, dotc L0 a < 256) (hdf : ∀ x, x < 32 → df x < 256) (hc : ∀ a, colc L0 a ≤ 3) (ht : t ≤ 4) (hW : W ≤ 32) : MF vl yX5_heaviestOffset wsX5_heaviestOffset { frames := 5, cells := 0, slots := 0, locals := 111 } D cI cM A 32 ad E [.ref (ad 0)] (nI (hv (ldS L0 t df W) L0.length)) := by
  refine mf_of cX5_heaviestOffset 5 (.int) RX5 (by decide) rfl rfl (Nat.le_of_ble_eq_true rfl) (rfl) ?_
  intro vp ve vs vm va vb vt vc Q C hend
  refine z_lv [(0, .ref (ad 0))] ⟨rfl, rfl, trivial⟩ ?_
  obtain ⟨sd, sc, s26, -, -, -⟩ := id hs
  have hfb : ∀ k, ldS L0 t df W k < 2 ^ 31 := fun k => by have := ldS_le L0 t df W k; omega
  refine z_iconst C (nI (0)) dX5_heaviestOffset_0 (by decide) ?_
  refine z_istore_n C [(0, .ref (ad 0)), (1, .int (nI (0)))] dX5_heaviestOffset_1 (by decide) ⟨rfl, rfl, rfl, rfl, trivial⟩ ?_
  refine z_iconst C (-1) dX5_heaviestOffset_2 (by decide) ?_
  refine z_istore_n C [(0, .ref (ad 0)), (1, .int (nI (0))), (2, .int (-1))] dX5_heaviestOffset_3 (by decide) ⟨rfl, rfl, rfl, rfl, rfl, rfl, trivial⟩ ?_
  refine z_iconst C (nI (0)) dX5_heaviestOffset_4 (by decide) ?_
  refine z_istore_n C [(0, .ref (ad 0)), (1, .int (nI (0))), (2, .int (-1)), (3, .int (nI (0)))] dX5_heaviestOffset_5 (by decide) ⟨rfl, rfl, rfl, rfl, rfl, rfl, rfl, rfl, trivial⟩ ?_
  have loop6 : ∀ (fuel : Nat) (i : Nat), (hi : i ≤ L0.length) → L0.length - i < fuel → Z vp vl ve { frames := 5, cells := 0, slots := 0, locals := 111 } vs vm va vb vt vc 5 D A 32 ad E [(0, .ref (ad 0)), (1, .int (nI (hv (ldS L0 t df W) i))), (2, .int (pkv (ldS L0 t df W) i)), (3, .int (nI (i)))] 0 0 Q 6 [] := by
    intro fuel
    induction fuel with
    | zero => intro i hi hlt; exact absurd hlt (Nat.not_lt_zero _)
    | succ fuel ih =>
      intro i hi hlt
      have ih6 := ih
      refine z_iload_n C dX5_heaviestOffset_6 rfl ?_
      refine z_aload_n C dX5_heaviestOffset_7 rfl ?_
      refine z_get C (0) (Cn := RX5) (T := TX5) (N := 12) (fi := 3) iw_X5_heaviestOffset_5 rfl (by decide) ln_X5_heaviestOffset_33 (by first | decide | omega) rfl e0 rfl dX5_heaviestOffset_8 ?_
      refine z_getN C (26) (Cn := RX3) (T := TX3) (N := 3) (fi := 2) iw_X5_heaviestOffset_3 rfl (by decide) nl_X5_114 (by first | decide | omega) rfl s26 rfl dX5_heaviestOffset_11 ?_
      refine z_icmp_geN C 41 (by omega) (by omega) dX5_heaviestOffset_14 (by decide) (fun h14 => ?_) (fun h14 => ?_)
      · have hie : i = L0.length := by omega
        refine z_iload_n C dX5_heaviestOffset_41 rfl ?_
        exact hend _ _ _ dX5_heaviestOffset_42 (by rw [hie])
      · refine z_aload_n C dX5_heaviestOffset_17 rfl ?_
        refine z_iload_n C dX5_heaviestOffset_18 rfl ?_
        refine z_callVF C (0) (Cn := RX5) (T := TX5) (N := 12) (k_X5_loadFrom vl D cI cM A ad E hX e0 e29 hs hl hd hdf hc ht (by omega) hW) (cwV 1 C.2.2.2.2.1 gX5_heaviestOffset_X5_loadFrom rfl rfl rfl (by decide +kernel) ⟨Nat.le_of_ble_eq_true rfl, Nat.le_of_ble_eq_true rfl⟩) rfl (by first | decide | omega) rfl e0 rfl rfl (Nat.le_of_ble_eq_true rfl) ⟨Nat.zero_le _, Nat.zero_le _⟩ dX5_heaviestOffset_19 ?_
        refine z_istore C [(0, .ref (ad 0)), (1, .int (nI (hv (ldS L0 t df W) i))), (2, .int (pkv (ldS L0 t df W) i)), (3, .int (nI (i))), (4, .int (nI (ldS L0 t df W i)))] dX5_heaviestOffset_22 (by decide) ⟨rfl, rfl, rfl, rfl, rfl, rfl, rfl, rfl, rfl, rfl, trivial⟩ ?_
        refine z_iload C dX5_heaviestOffset_24 rfl ?_
        refine z_iload_n C dX5_heaviestOffset_26 rfl ?_
        refine z_icmp_le C 35 dX5_heaviestOffset_27 (by decide) (fun h27 => ?_) (fun h27 => ?_)
        · refine z_iincN (j := 1) C [(0, .ref (ad 0)), (1, .int (nI (hv (ldS L0 t df W) i))), (2, .int (pkv (ldS L0 t df W) i)), (3, .int (nI (i + 1))), (4, .int (nI (ldS L0 t df W i)))] dX5_heaviestOffset_35 rfl (by decide) ⟨rfl, rfl, rfl, rfl, rfl, rfl, rfl, rfl, rfl, rfl, trivial⟩ ?_
          refine z_goto C 6 dX5_heaviestOffset_38 (by decide) ?_
          refine z_lv [(0, .ref (ad 0)), (1, .int (nI (hv (ldS L0 t df W) i))), (2, .int (pkv (ldS L0 t df W) i)), (3, .int (nI (i + 1)))] ⟨rfl, rfl, rfl, rfl, rfl, rfl, rfl, rfl, trivial⟩ ?_
          have q := ih6 (i + 1) (by omega) (by omega)
          rw [(hv_T hfb h27).1, (hv_T hfb h27).2] at q
          exact q
        · refine z_iload_n C dX5_heaviestOffset_30 rfl ?_
          refine z_istore_n C [(0, .ref (ad 0)), (1, .int (nI (i))), (2, .int (pkv (ldS L0 t df W) i)), (3, .int (nI (i))), (4, .int (nI (ldS L0 t df W i)))] dX5_heaviestOffset_31 (by decide) ⟨rfl, rfl, rfl, rfl, rfl, rfl, rfl, rfl, rfl, rfl, trivial⟩ ?_
          refine z_iload C dX5_heaviestOffset_32 rfl ?_
          refine z_istore_n C [(0, .ref (ad 0)), (1, .int (nI (i))), (2, .int (nI (ldS L0 t df W i))), (3, .int (nI (i))), (4, .int (nI (ldS L0 t df W i)))] dX5_heaviestOffset_34 (by decide) ⟨rfl, rfl, rfl, rfl, rfl, rfl, rfl, rfl, rfl, rfl, trivial⟩ ?_
          refine z_iincN (j := 1) C [(0, .ref (ad 0)), (1, .int (nI (i))), (2, .int (nI (ldS L0 t df W i))), (3, .int (nI (i + 1))), (4, .int (nI (ldS L0 t df W i)))] dX5_heaviestOffset_35 rfl (by decide) ⟨rfl, rfl, rfl, rfl, rfl, rfl, rfl, rfl, rfl, rfl, trivial⟩ ?_
          refine z_goto C 6 dX5_heaviestOffset_38 (by decide) ?_
          refine z_lv [(0, .ref (ad 0)), (1, .int (nI (i))), (2, .int (nI (ldS L0 t df W i))), (3, .int (nI (i + 1)))] ⟨rfl, rfl, rfl, rfl, rfl, rfl, rfl, rfl, trivial⟩ ?_
          have q := ih6 (i + 1) (by omega) (by omega)
          rw [(hv_F hfb h27).1, (hv_F hfb h27).2] at q
          exact q
  refine z_lv [(0, .ref (ad 0)), (1, .int (nI (0))), (2, .int (-1)), (3, .int (nI (0)))] ⟨rfl, rfl, rfl, rfl, rfl, rfl, rfl, rfl, trivial⟩ ?_
  exact loop6 (L0.length + 1) 0 (Nat.zero_le _) (by omega)

theorem iw_X5_damageWith_5 : ∀ w ∈ wsX50, w ∈ wsX5_damageWith := by decide +kernel
theorem ln_X5_damageWith_41 : Cond.fieldLink RX5 41 "MarqueeDisplay" "columns" "I" ∈ wsX5_damageWith := by decide +kernel
theorem ln_X5_damageWith_33 : Cond.fieldLink RX5 33 "MarqueeDisplay" "strip" "LMarqueeDisplay$Strip;" ∈ wsX5_damageWith := by decide +kernel
theorem ln_X5_damageWith_57 : Cond.fieldLink RX5 57 "MarqueeDisplay" "offset" "I" ∈ wsX5_damageWith := by decide +kernel
set_option maxHeartbeats 4000000 in
set_option maxRecDepth 100000 in
theorem k_X5_damageWith (vl : Launch) (D : va_G) (cI cM : ClassId) (A : Nat → Prop) (ad : Nat → Nat) (E : Nat → va_E) (hX : XD A 32 ad) {W G S B off cnt t : Nat} {df : Nat → Nat} {L0 : List (Nat × Nat)} {t2 : Nat} (e0 : E (0) = .inr (5, [.ref (ad 1), .ref (ad 4), .ref (ad 6), .ref (ad 26), .ref (ad 29), .int (nI (W)), .int (nI (G)), .int (nI (S)), .int (shI t), .int (nI (B)), .int (nI (off)), .int (nI (cnt))])) (e29 : E (29) = aI cI 32 df) (hs : StripAt cI ad E L0) (hl : L0.length ≤ 552) (hd : ∀ a, dotc L0 a < 256) (hdf : ∀ x, x < 32 → df x < 256) (ht : t2 ≤ 4) (ha : off < 2 ^ 30) (hW : W ≤ 32) : MF vl yX5_damageWith wsX5_damageWith { frames := 3, cells := 0, slots := 0, locals := 65 } D cI cM A 32 ad E [.ref (ad 0), .int (shI t2)] (nI (sm (dmS L0 t2 df off) W)) := by
  refine mf_of cX5_damageWith 6 (.int) RX5 (by decide) rfl rfl (Nat.le_of_ble_eq_true rfl) (rfl) ?_
  intro vp ve vs vm va vb vt vc Q C hend
  refine z_lv [(0, .ref (ad 0)), (1, .int (shI t2))] ⟨rfl, rfl, rfl, rfl, trivial⟩ ?_
  obtain ⟨sd, sc, s26, -, -, -⟩ := id hs
  refine z_iconst C (nI (0)) dX5_damageWith_0 (by decide) ?_
  refine z_istore_n C [(0, .ref (ad 0)), (1, .int (shI t2)), (2, .int (nI (0)))] dX5_damageWith_1 (by decide) ⟨rfl, rfl, rfl, rfl, rfl, rfl, trivial⟩ ?_
  refine z_iconst C (nI (0)) dX5_damageWith_2 (by decide) ?_
  refine z_istore_n C [(0, .ref (ad 0)), (1, .int (shI t2)), (2, .int (nI (0))), (3, .int (nI (0)))] dX5_damageWith_3 (by decide) ⟨rfl, rfl, rfl, rfl, rfl, rfl, rfl, rfl, trivial⟩ ?_
  have loop4 : ∀ (fuel : Nat) (x : Nat), (hx : x ≤ W) → W - x < fuel → Z vp vl ve { frames := 3, cells := 0, slots := 0, locals := 65 } vs vm va vb vt vc 6 D A 32 ad E [(0, .ref (ad 0)), (1, .int (shI t2)), (2, .int (nI (sm (dmS L0 t2 df off) x))), (3, .int (nI (x)))] 0 0 Q 4 [] := by
    intro fuel
    induction fuel with
    | zero => intro x hx hlt; exact absurd hlt (Nat.not_lt_zero _)
    | succ fuel ih =>
      intro x hx hlt
      have hs1 : sm (dmS L0 t2 df off) x ≤ x * 8 := sm_le (fun k _ => dmS_le L0 t2 df off k)
      have ih4 := ih
      refine z_iload_n C dX5_damageWith_4 rfl ?_
      refine z_aload_n C dX5_damageWith_5 rfl ?_
      refine z_get C (0) (Cn := RX5) (T := TX5) (N := 12) (fi := 5) iw_X5_damageWith_5 rfl (by decide) ln_X5_damageWith_41 (by first | decide | omega) rfl e0 rfl dX5_damageWith_6 ?_
      refine z_icmp_geN C 63 (by omega) (by omega) dX5_damageWith_9 (by decide) (fun h9 => ?_) (fun h9 => ?_)
      · have hie : x = W := by omega
        refine z_iload_n C dX5_damageWith_63 rfl ?_
        exact hend _ _ _ dX5_damageWith_64 (by rw [hie])
      · refine z_aload_n C dX5_damageWith_12 rfl ?_
        refine z_get C (0) (Cn := RX5) (T := TX5) (N := 12) (fi := 3) iw_X5_damageWith_5 rfl (by decide) ln_X5_damageWith_33 (by first | decide | omega) rfl e0 rfl dX5_damageWith_13 ?_
        refine z_aload_n C dX5_damageWith_16 rfl ?_
        refine z_get C (0) (Cn := RX5) (T := TX5) (N := 12) (fi := 10) iw_X5_damageWith_5 rfl (by decide) ln_X5_damageWith_57 (by first | decide | omega) rfl e0 rfl dX5_damageWith_17 ?_
        refine z_iload_n C dX5_damageWith_20 rfl ?_
        refine z_iaddN C  dX5_damageWith_21 ?_
        refine z_callVF C (26) (Cn := RX3) (T := TX3) (N := 3) (k_X3_dotsAt vl D cI cM A ad E hX hs (by omega) hl) (cwV 1 C.2.2.2.2.1 gX5_damageWith_X3_dotsAt rfl rfl rfl (by decide +kernel) ⟨Nat.le_of_ble_eq_true rfl, Nat.le_of_ble_eq_true rfl⟩) rfl (by first | decide | omega) rfl s26 rfl rfl (Nat.le_of_ble_eq_true rfl) ⟨Nat.zero_le _, Nat.zero_le _⟩ dX5_damageWith_22 ?_
        refine z_istore C [(0, .ref (ad 0)), (1, .int (shI t2)), (2, .int (nI (sm (dmS L0 t2 df off) x))), (3, .int (nI (x))), (4, .int (nI (dotc L0 (off + x))))] dX5_damageWith_25 (by decide) ⟨rfl, rfl, rfl, rfl, rfl, rfl, rfl, rfl, rfl, rfl, trivial⟩ ?_
        refine z_iload C dX5_damageWith_27 rfl ?_
        refine z_iload_n C dX5_damageWith_29 rfl ?_
        refine z_callSF C (k_X5_shifted vl D cI cM A ad E hX (hd _) ht) (va_cwS 2 C.2.2.2.2.1 gX5_damageWith_X5_shifted rfl rfl rfl (by decide +kernel) ⟨Nat.le_of_ble_eq_true rfl, Nat.le_of_ble_eq_true rfl⟩) rfl rfl (Nat.le_of_ble_eq_true rfl) ⟨Nat.zero_le _, Nat.zero_le _⟩ dX5_damageWith_30 ?_
        refine z_aload_n C dX5_damageWith_33 rfl ?_
        refine z_iload_n C dX5_damageWith_34 rfl ?_
        refine z_callVF C (0) (Cn := RX5) (T := TX5) (N := 12) (k_X5_defectsOf vl D cI cM A ad E hX e0 e29 (by omega)) (cwV 1 C.2.2.2.2.1 gX5_damageWith_X5_defectsOf rfl rfl rfl (by decide +kernel) ⟨Nat.le_of_ble_eq_true rfl, Nat.le_of_ble_eq_true rfl⟩) rfl (by first | decide | omega) rfl e0 rfl rfl (Nat.le_of_ble_eq_true rfl) ⟨Nat.zero_le _, Nat.zero_le _⟩ dX5_damageWith_35 ?_
        refine z_iconst C (-1) dX5_damageWith_38 (by decide) ?_
        refine z_ixor C dX5_damageWith_39  ?_
        refine z_top (nI (4294967295 - df x)) (xor_m1 _ (hdf x (by omega))) ?_
        refine z_iand C dX5_damageWith_40  ?_
        refine z_top (nI (lit (dotc L0 (off + x)) t2 (df x))) (lit_e (hd _) (hdf x (by omega))) ?_
        refine z_istore C [(0, .ref (ad 0)), (1, .int (shI t2)), (2, .int (nI (sm (dmS L0 t2 df off) x))), (3, .int (nI (x))), (4, .int (nI (dotc L0 (off + x)))), (5, .int (nI (lit (dotc L0 (off + x)) t2 (df x))))] dX5_damageWith_41 (by decide) ⟨rfl, rfl, rfl, rfl, rfl, rfl, rfl, rfl, rfl, rfl, rfl, rfl, trivial⟩ ?_
        refine z_iload_n C dX5_damageWith_43 rfl ?_
        refine z_iload C dX5_damageWith_44 rfl ?_
        refine z_callSF C (k_J6_bitCount_0f7a4 vl D cI cM A ad E hX (hd _)) (va_cwS 1 C.2.2.2.2.1 gX5_damageWith_J6_bitCount_0f7a4 rfl rfl rfl (by decide +kernel) ⟨Nat.le_of_ble_eq_true rfl, Nat.le_of_ble_eq_true rfl⟩) rfl rfl (Nat.le_of_ble_eq_true rfl) ⟨Nat.zero_le _, Nat.zero_le _⟩ dX5_damageWith_46 ?_
        refine z_iload C dX5_damageWith_49 rfl ?_
        refine z_callSF C (k_J6_bitCount_0f7a4 vl D cI cM A ad E hX (lit_lt (hd _))) (va_cwS 1 C.2.2.2.2.1 gX5_damageWith_J6_bitCount_0f7a4 rfl rfl rfl (by decide +kernel) ⟨Nat.le_of_ble_eq_true rfl, Nat.le_of_ble_eq_true rfl⟩) rfl rfl (Nat.le_of_ble_eq_true rfl) ⟨Nat.zero_le _, Nat.zero_le _⟩ dX5_damageWith_51 ?_
        refine z_isubN C (pc8_lit (hd _) ht) dX5_damageWith_54 ?_
        refine z_iaddN C  dX5_damageWith_55 ?_
        refine z_istore_n C [(0, .ref (ad 0)), (1, .int (shI t2)), (2, .int (nI ((sm (dmS L0 t2 df off) x) + ((pc8 (dotc L0 (off + x))) - (pc8 (lit (dotc L0 (off + x)) t2 (df x))))))), (3, .int (nI (x))), (4, .int (nI (dotc L0 (off + x)))), (5, .int (nI (lit (dotc L0 (off + x)) t2 (df x))))] dX5_damageWith_56 (by decide) ⟨rfl, rfl, rfl, rfl, rfl, rfl, rfl, rfl, rfl, rfl, rfl, rfl, trivial⟩ ?_
        refine z_iincN (j := 1) C [(0, .ref (ad 0)), (1, .int (shI t2)), (2, .int (nI ((sm (dmS L0 t2 df off) x) + ((pc8 (dotc L0 (off + x))) - (pc8 (lit (dotc L0 (off + x)) t2 (df x))))))), (3, .int (nI (x + 1))), (4, .int (nI (dotc L0 (off + x)))), (5, .int (nI (lit (dotc L0 (off + x)) t2 (df x))))] dX5_damageWith_57 rfl (by decide) ⟨rfl, rfl, rfl, rfl, rfl, rfl, rfl, rfl, rfl, rfl, rfl, rfl, trivial⟩ ?_
        refine z_goto C 4 dX5_damageWith_60 (by decide) ?_
        refine z_lv [(0, .ref (ad 0)), (1, .int (shI t2)), (2, .int (nI ((sm (dmS L0 t2 df off) x) + ((pc8 (dotc L0 (off + x))) - (pc8 (lit (dotc L0 (off + x)) t2 (df x))))))), (3, .int (nI (x + 1)))] ⟨rfl, rfl, rfl, rfl, rfl, rfl, rfl, rfl, trivial⟩ ?_
        exact ih4 (x + 1) (by omega) (by omega)
  refine z_lv [(0, .ref (ad 0)), (1, .int (shI t2)), (2, .int (nI (0))), (3, .int (nI (0)))] ⟨rfl, rfl, rfl, rfl, rfl, rfl, rfl, rfl, trivial⟩ ?_
  exact loop4 (W + 1) 0 (Nat.zero_le _) (by omega)

