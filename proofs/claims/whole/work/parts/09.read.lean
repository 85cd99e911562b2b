def b1 (n r : Nat) : Nat := n / 2 ^ r % 2
def sm (f : Nat → Nat) : Nat → Nat
  | 0 => 0
  | n + 1 => sm f n + f n
theorem sm_le {f : Nat → Nat} {c : Nat} : ∀ {n : Nat}, (∀ k, k < n → f k ≤ c) → sm f n ≤ n * c
  | 0, _ => by simp [sm]
  | n + 1, h => by
    have h1 := sm_le (n := n) (fun k hk => h k (by omega))
    have h2 := h n (by omega)
    rw [sm, Nat.succ_mul]; omega
theorem sm_cg {f g : Nat → Nat} : ∀ {n : Nat}, (∀ k, k < n → f k = g k) → sm f n = sm g n
  | 0, _ => rfl
  | n + 1, h => by rw [sm, sm, sm_cg (fun k hk => h k (by omega)), h n (by omega)]
theorem sm_le2 {f g : Nat → Nat} : ∀ {n : Nat}, (∀ k, k < n → f k ≤ g k) → sm f n ≤ sm g n
  | 0, _ => Nat.le_refl _
  | n + 1, h => by rw [sm, sm]; exact Nat.add_le_add (sm_le2 (fun k hk => h k (by omega))) (h n (by omega))
def pc8 (n : Nat) : Nat := sm (b1 n) 8
theorem pc8_le (n : Nat) : pc8 n ≤ 8 := by
  have h : sm (b1 n) 8 ≤ 8 * 1 := sm_le (fun k _ => by unfold b1; omega)
  exact h
def bc1 (x : Nat) : Nat := x - (x / 2 &&& 85)
def bc2 (x : Nat) : Nat := (bc1 x &&& 51) + (bc1 x / 4 &&& 51)
theorem bc_1 : ∀ x, x < 256 → (nI x) - ((((nI x).toUInt32 >>> ((nI 1).toUInt32 &&& Int32.toUInt32 31)).toInt32) &&& 1431655765) = nI (bc1 x) := by decide +kernel
theorem bc_2 : ∀ x, x < 256 → ((nI (bc1 x)) &&& 858993459) + ((((nI (bc1 x)).toUInt32 >>> ((nI 2).toUInt32 &&& Int32.toUInt32 31)).toInt32) &&& 858993459) = nI (bc2 x) := by decide +kernel
theorem bc_3 : ∀ x, x < 256 → ((nI (bc2 x)) + (((nI (bc2 x)).toUInt32 >>> ((nI 4).toUInt32 &&& Int32.toUInt32 31)).toInt32)) &&& 252645135 = nI (pc8 x) := by decide +kernel
theorem bc_4 : ∀ x, x < 256 → (nI (pc8 x)) + (((nI (pc8 x)).toUInt32 >>> ((nI 8).toUInt32 &&& Int32.toUInt32 31)).toInt32) = nI (pc8 x) := by decide +kernel
theorem bc_5 : ∀ x, x < 256 → (nI (pc8 x)) + (((nI (pc8 x)).toUInt32 >>> ((nI 16).toUInt32 &&& Int32.toUInt32 31)).toInt32) = nI (pc8 x) := by decide +kernel
theorem bc_6 : ∀ x, x < 256 → (nI (pc8 x)) &&& (nI 63) = nI (pc8 x) := by decide +kernel
theorem nx_xor (a b : Nat) : nI a ^^^ nI b = nI (a ^^^ b) := by
  apply Int32.toBitVec_inj.1
  show BitVec.ofNat 32 a ^^^ BitVec.ofNat 32 b = BitVec.ofNat 32 (a ^^^ b)
  apply BitVec.eq_of_getLsbD_eq
  intro i hi
  simp [hi]
theorem nx_and (a b : Nat) : nI a &&& nI b = nI (a &&& b) := by
  apply Int32.toBitVec_inj.1
  show BitVec.ofNat 32 a &&& BitVec.ofNat 32 b = BitVec.ofNat 32 (a &&& b)
  apply BitVec.eq_of_getLsbD_eq
  intro i hi
  simp [hi]
set_option maxHeartbeats 4000000 in
set_option maxRecDepth 100000 in
theorem k_J6_bitCount_0f7a4 (vl : Launch) (D : va_G) (cI cM : ClassId) (A : Nat → Prop) (ad : Nat → Nat) (E : Nat → va_E) (hX : XD A 40 ad) {x : Nat} (hx : x < 256) : MF vl yJ6_bitCount_0f7a4 wsJ6_bitCount_0f7a4 { frames := 0, cells := 0, slots := 0, locals := 0 } D cI cM A 40 ad E [.int (nI (x))] (nI (pc8 x)) := by
  refine mf_of cJ6_bitCount_0f7a4 1 (.int) RJ6 (by decide) rfl rfl (Nat.le_of_ble_eq_true rfl) (rfl) ?_
  intro vp ve vs vm va vb vt vc Q C hend
  refine z_lv [(0, .int (nI (x)))] ⟨rfl, rfl, trivial⟩ ?_
  refine z_iload_n C dJ6_bitCount_0f7a4_0 rfl ?_
  refine z_iload_n C dJ6_bitCount_0f7a4_1 rfl ?_
  refine z_iconst C (nI (1)) dJ6_bitCount_0f7a4_2 (by decide) ?_
  refine z_iushr C (((nI (x)).toUInt32 >>> ((nI (1)).toUInt32 &&& Int32.toUInt32 31)).toInt32) dJ6_bitCount_0f7a4_3 (rfl) ?_
  refine z_ldcw C 1431655765 (by decide +kernel) dJ6_bitCount_0f7a4_4 ?_
  refine z_iand C dJ6_bitCount_0f7a4_7  ?_
  refine z_isub C dJ6_bitCount_0f7a4_8  ?_
  refine z_top (nI (bc1 x)) (bc_1 x hx) ?_
  refine z_istore_n C [(0, .int (nI (bc1 x)))] dJ6_bitCount_0f7a4_9 (by decide) ⟨rfl, rfl, trivial⟩ ?_
  refine z_iload_n C dJ6_bitCount_0f7a4_10 rfl ?_
  refine z_ldcw C 858993459 (by decide +kernel) dJ6_bitCount_0f7a4_11 ?_
  refine z_iand C dJ6_bitCount_0f7a4_14  ?_
  refine z_iload_n C dJ6_bitCount_0f7a4_15 rfl ?_
  refine z_iconst C (nI (2)) dJ6_bitCount_0f7a4_16 (by decide) ?_
  refine z_iushr C (((nI (bc1 x)).toUInt32 >>> ((nI (2)).toUInt32 &&& Int32.toUInt32 31)).toInt32) dJ6_bitCount_0f7a4_17 (rfl) ?_
  refine z_ldcw C 858993459 (by decide +kernel) dJ6_bitCount_0f7a4_18 ?_
  refine z_iand C dJ6_bitCount_0f7a4_21  ?_
  refine z_iadd C dJ6_bitCount_0f7a4_22  ?_
  refine z_top (nI (bc2 x)) (bc_2 x hx) ?_
  refine z_istore_n C [(0, .int (nI (bc2 x)))] dJ6_bitCount_0f7a4_23 (by decide) ⟨rfl, rfl, trivial⟩ ?_
  refine z_iload_n C dJ6_bitCount_0f7a4_24 rfl ?_
  refine z_iload_n C dJ6_bitCount_0f7a4_25 rfl ?_
  refine z_iconst C (nI (4)) dJ6_bitCount_0f7a4_26 (by decide) ?_
  refine z_iushr C (((nI (bc2 x)).toUInt32 >>> ((nI (4)).toUInt32 &&& Int32.toUInt32 31)).toInt32) dJ6_bitCount_0f7a4_27 (rfl) ?_
  refine z_iadd C dJ6_bitCount_0f7a4_28  ?_
  refine z_ldcw C 252645135 (by decide +kernel) dJ6_bitCount_0f7a4_29 ?_
  refine z_iand C dJ6_bitCount_0f7a4_32  ?_
  refine z_top (nI (pc8 x)) (bc_3 x hx) ?_
  refine z_istore_n C [(0, .int (nI (pc8 x)))] dJ6_bitCount_0f7a4_33 (by decide) ⟨rfl, rfl, trivial⟩ ?_
  refine z_iload_n C dJ6_bitCount_0f7a4_34 rfl ?_
  refine z_iload_n C dJ6_bitCount_0f7a4_35 rfl ?_
  refine z_bipush C (nI (8)) dJ6_bitCount_0f7a4_36 (by decide) ?_
  refine z_iushr C (((nI (pc8 x)).toUInt32 >>> ((nI (8)).toUInt32 &&& Int32.toUInt32 31)).toInt32) dJ6_bitCount_0f7a4_38 (rfl) ?_
  refine z_iadd C dJ6_bitCount_0f7a4_39  ?_
  refine z_top (nI (pc8 x)) (bc_4 x hx) ?_
  refine z_istore_n C [(0, .int (nI (pc8 x)))] dJ6_bitCount_0f7a4_40 (by decide) ⟨rfl, rfl, trivial⟩ ?_
  refine z_iload_n C dJ6_bitCount_0f7a4_41 rfl ?_
  refine z_iload_n C dJ6_bitCount_0f7a4_42 rfl ?_
  refine z_bipush C (nI (16)) dJ6_bitCount_0f7a4_43 (by decide) ?_
  refine z_iushr C (((nI (pc8 x)).toUInt32 >>> ((nI (16)).toUInt32 &&& Int32.toUInt32 31)).toInt32) dJ6_bitCount_0f7a4_45 (rfl) ?_
  refine z_iadd C dJ6_bitCount_0f7a4_46  ?_
  refine z_top (nI (pc8 x)) (bc_5 x hx) ?_
  refine z_istore_n C [(0, .int (nI (pc8 x)))] dJ6_bitCount_0f7a4_47 (by decide) ⟨rfl, rfl, trivial⟩ ?_
  refine z_iload_n C dJ6_bitCount_0f7a4_48 rfl ?_
  refine z_bipush C (nI (63)) dJ6_bitCount_0f7a4_49 (by decide) ?_
  refine z_iand C dJ6_bitCount_0f7a4_51  ?_
  refine z_top (nI (pc8 x)) (bc_6 x hx) ?_
  exact hend _ _ _ dJ6_bitCount_0f7a4_52 (rfl)

set_option maxHeartbeats 4000000 in
set_option maxRecDepth 100000 in
theorem k_floorMod_p (vl : Launch) (D : va_G) (cI cM : ClassId) (A : Nat → Prop) (ad : Nat → Nat) (E : Nat → va_E) (hX : XD A 40 ad) {a b : Nat} (ha : a < 2 ^ 31) (hb : 0 < b ∧ b < 2 ^ 31) : MF vl yJ9_floorMod_7cf53 wsJ9_floorMod_7cf53 { frames := 0, cells := 0, slots := 0, locals := 0 } D cI cM A 40 ad E [.int (nI (a)), .int (nI (b))] (nI (a % b)) := by
  refine mf_of cJ9_floorMod_7cf53 3 (.int) RJ9 (by decide +kernel) rfl rfl (Nat.le_of_ble_eq_true rfl) (rfl) ?_
  intro vp ve vs vm va vb vt vc Q C hend
  refine z_lv [(0, .int (nI (a))), (1, .int (nI (b)))] ⟨rfl, rfl, rfl, rfl, trivial⟩ ?_
  refine z_iload_n C dJ9_floorMod_7cf53_0 rfl ?_
  refine z_iload_n C dJ9_floorMod_7cf53_1 rfl ?_
  refine z_iremN C (by omega) (by omega) (by omega) dJ9_floorMod_7cf53_2 ?_
  refine z_istore_n C [(0, .int (nI (a))), (1, .int (nI (b))), (2, .int (nI (a % b)))] dJ9_floorMod_7cf53_3 (by decide) ⟨rfl, rfl, rfl, rfl, rfl, rfl, trivial⟩ ?_
  refine z_iload_n C dJ9_floorMod_7cf53_4 rfl ?_
  refine z_iload_n C dJ9_floorMod_7cf53_5 rfl ?_
  refine z_ixor C dJ9_floorMod_7cf53_6  ?_
  refine z_top (nI (a ^^^ b)) (nx_xor a b) ?_
  refine z_if_geN C 18 (Nat.xor_lt_two_pow ha hb.2) dJ9_floorMod_7cf53_7 (by decide) ?_
  refine z_iload_n C dJ9_floorMod_7cf53_18 rfl ?_
  exact hend _ _ _ dJ9_floorMod_7cf53_19 (rfl)

theorem fm_r {a o b : Nat} (h1 : a < o) (h2 : o - a < b) (hb : b < 2 ^ 30) (ho : o < 2 ^ 30) : (nI a - nI o) - (nI a - nI o) / nI b * nI b = nI a - nI o := by
  have e1 : (nI a - nI o).toInt = (a : Int) - o := pk_sub_toInt (by omega) ho
  have e2 : (nI b).toInt = b := nI_toInt (by omega)
  have e3 : (nI a - nI o) / nI b = 0 := by
    apply Int32.toInt_inj.mp
    rw [Int32.toInt_div, e1, e2]
    have : ((a : Int) - o).tdiv b = 0 := by
      have h3 : ((o : Int) - a).tdiv b = 0 := Int.tdiv_eq_zero_of_lt (by omega) (by omega)
      rw [show (a : Int) - o = -((o : Int) - a) by omega, Int.neg_tdiv, h3]; rfl
    rw [this]; rfl
  rw [e3]; simp
theorem fm_s {a o b : Nat} (h1 : a < o) (hb : 0 < b ∧ b < 2 ^ 30) (ho : o < 2 ^ 30) : ¬ 0 ≤ (nI a - nI o) ^^^ nI b := by
  have hx : nI a - nI o < 0 := pk_sneg ho h1
  intro h
  have m1 : (nI a - nI o).toBitVec.msb = true := by
    rw [BitVec.msb_eq_toInt]
    have : (nI a - nI o).toInt < 0 := Int32.lt_iff_toInt_lt.mp hx
    exact decide_eq_true this
  have m2 : (nI b).toBitVec.msb = false := by
    rw [BitVec.msb_eq_toInt]
    have : (nI b).toInt = b := nI_toInt (by omega)
    exact decide_eq_false (by show ¬ (nI b).toInt < 0; omega)
  have m3 : ((nI a - nI o) ^^^ nI b).toBitVec.msb = true := by
    show ((nI a - nI o).toBitVec ^^^ (nI b).toBitVec).msb = true
    rw [BitVec.msb_xor, m1, m2]; rfl
  rw [BitVec.msb_eq_toInt] at m3
  have h3 : ((nI a - nI o) ^^^ nI b).toInt < 0 := of_decide_eq_true m3
  have h4 : (0 : Int32).toInt ≤ ((nI a - nI o) ^^^ nI b).toInt := Int32.le_iff_toInt_le.mp h
  have h5 : (0 : Int32).toInt = 0 := rfl
  omega
theorem fm_n {a o : Nat} (h1 : a < o) (ho : o < 2 ^ 30) : ¬ nI a - nI o = 0 := by
  intro h
  have hx : nI a - nI o < 0 := pk_sneg ho h1
  rw [h] at hx
  exact absurd hx (by decide)
theorem fm_e {a o b : Nat} (h2 : o - a ≤ b) (h1 : a ≤ o) : (nI a - nI o) + nI b = nI (a + b - o) := by
  rw [← pk_sub (a := a + b) (by omega), ← nI_add, Int32.sub_eq_add_neg, Int32.sub_eq_add_neg, Int32.add_assoc, Int32.add_assoc, Int32.add_comm (nI b)]
set_option maxHeartbeats 4000000 in
set_option maxRecDepth 100000 in
theorem k_floorMod_m (vl : Launch) (D : va_G) (cI cM : ClassId) (A : Nat → Prop) (ad : Nat → Nat) (E : Nat → va_E) (hX : XD A 40 ad) {a o b : Nat} (h1 : a < o) (h2 : o - a < b) (hb : b < 2 ^ 30) (ho : o < 2 ^ 30) : MF vl yJ9_floorMod_7cf53 wsJ9_floorMod_7cf53 { frames := 0, cells := 0, slots := 0, locals := 0 } D cI cM A 40 ad E [.int (nI a - nI o), .int (nI (b))] (nI (a + b - o)) := by
  refine mf_of cJ9_floorMod_7cf53 3 (.int) RJ9 (by decide +kernel) rfl rfl (Nat.le_of_ble_eq_true rfl) (rfl) ?_
  intro vp ve vs vm va vb vt vc Q C hend
  refine z_lv [(0, .int (nI a - nI o)), (1, .int (nI (b)))] ⟨rfl, rfl, rfl, rfl, trivial⟩ ?_
  refine z_iload_n C dJ9_floorMod_7cf53_0 rfl ?_
  refine z_iload_n C dJ9_floorMod_7cf53_1 rfl ?_
  refine z_irem C dJ9_floorMod_7cf53_2 (nI_ne0 (by omega) (by omega)) ?_
  refine z_top (nI a - nI o) (fm_r h1 h2 hb ho) ?_
  refine z_istore_n C [(0, .int (nI a - nI o)), (1, .int (nI (b))), (2, .int (nI a - nI o))] dJ9_floorMod_7cf53_3 (by decide) ⟨rfl, rfl, rfl, rfl, rfl, rfl, trivial⟩ ?_
  refine z_iload_n C dJ9_floorMod_7cf53_4 rfl ?_
  refine z_iload_n C dJ9_floorMod_7cf53_5 rfl ?_
  refine z_ixor C dJ9_floorMod_7cf53_6  ?_
  refine z_if_ge C 18 dJ9_floorMod_7cf53_7 (by decide) (fun h7 => (by exfalso; exact fm_s h1 (by omega) ho h7)) (fun h7 => ?_)
  refine z_iload_n C dJ9_floorMod_7cf53_10 rfl ?_
  refine z_if_eq C 18 dJ9_floorMod_7cf53_11 (by decide) (fun h11 => (by exfalso; exact fm_n h1 ho h11)) (fun h11 => ?_)
  refine z_iload_n C dJ9_floorMod_7cf53_14 rfl ?_
  refine z_iload_n C dJ9_floorMod_7cf53_15 rfl ?_
  refine z_iadd C dJ9_floorMod_7cf53_16  ?_
  refine z_top (nI (a + b - o)) (fm_e (by omega) (by omega)) ?_
  exact hend _ _ _ dJ9_floorMod_7cf53_17 (rfl)

theorem L0nil {L0 : List (Nat × Nat)} (h : L0.length = 0) : L0 = [] := List.length_eq_zero_iff.mp h
theorem iw_X3_wrap_3 : ∀ w ∈ wsX30, w ∈ wsX3_wrap := by decide +kernel
theorem ln_X3_wrap_18 : Cond.fieldLink RX3 18 "MarqueeDisplay$Strip" "length" "I" ∈ wsX3_wrap := by decide +kernel
set_option maxHeartbeats 4000000 in
set_option maxRecDepth 100000 in
theorem k_wrap_p (vl : Launch) (D : va_G) (cI cM : ClassId) (A : Nat → Prop) (ad : Nat → Nat) (E : Nat → va_E) (hX : XD A 40 ad) {L a : Nat} (s26 : E (26) = .inr (3, [.ref (ad 27), .ref (ad 28), .int (nI (L))])) (ha : a < 2 ^ 31) (hL : 0 < L ∧ L < 2 ^ 31) : MF vl yX3_wrap wsX3_wrap { frames := 1, cells := 0, slots := 0, locals := 22 } D cI cM A 40 ad E [.ref (ad 26), .int (nI (a))] (nI (a % L)) := by
  refine mf_of cX3_wrap 2 (.int) RX3 (by decide) rfl rfl (Nat.le_of_ble_eq_true rfl) (rfl) ?_
  intro vp ve vs vm va vb vt vc Q C hend
  refine z_lv [(0, .ref (ad 26)), (1, .int (nI (a)))] ⟨rfl, rfl, rfl, rfl, trivial⟩ ?_
  refine z_aload_n C dX3_wrap_0 rfl ?_
  refine z_get C (26) (Cn := RX3) (T := TX3) (N := 3) (fi := 2) iw_X3_wrap_3 rfl (by decide) ln_X3_wrap_18 (by first | decide | omega) rfl s26 rfl dX3_wrap_1 ?_
  refine z_if_leN C 18 (by omega) dX3_wrap_4 (by decide) (fun h4 => (by exfalso; omega)) (fun h4 => ?_)
  refine z_iload_n C dX3_wrap_7 rfl ?_
  refine z_aload_n C dX3_wrap_8 rfl ?_
  refine z_get C (26) (Cn := RX3) (T := TX3) (N := 3) (fi := 2) iw_X3_wrap_3 rfl (by decide) ln_X3_wrap_18 (by first | decide | omega) rfl s26 rfl dX3_wrap_9 ?_
  refine z_callSF C (k_floorMod_p vl D cI cM A ad E hX ha hL) (va_cwS 2 C.2.2.2.2.1 gX3_wrap_J9_floorMod_7cf53 rfl rfl rfl (by decide +kernel) ⟨Nat.le_of_ble_eq_true rfl, Nat.le_of_ble_eq_true rfl⟩) rfl rfl (Nat.le_of_ble_eq_true rfl) ⟨Nat.zero_le _, Nat.zero_le _⟩ dX3_wrap_12 ?_
  refine z_goto C 19 dX3_wrap_15 (by decide) ?_
  exact hend _ _ _ dX3_wrap_19 (rfl)

set_option maxHeartbeats 4000000 in
set_option maxRecDepth 100000 in
theorem k_wrap_m (vl : Launch) (D : va_G) (cI cM : ClassId) (A : Nat → Prop) (ad : Nat → Nat) (E : Nat → va_E) (hX : XD A 40 ad) {L a o : Nat} (s26 : E (26) = .inr (3, [.ref (ad 27), .ref (ad 28), .int (nI (L))])) (h1 : a < o) (h2 : o - a < L) (hL : L < 2 ^ 30) (ho : o < 2 ^ 30) : MF vl yX3_wrap wsX3_wrap { frames := 1, cells := 0, slots := 0, locals := 22 } D cI cM A 40 ad E [.ref (ad 26), .int (nI a - nI o)] (nI (a + L - o)) := by
  refine mf_of cX3_wrap 2 (.int) RX3 (by decide) rfl rfl (Nat.le_of_ble_eq_true rfl) (rfl) ?_
  intro vp ve vs vm va vb vt vc Q C hend
  refine z_lv [(0, .ref (ad 26)), (1, .int (nI a - nI o))] ⟨rfl, rfl, rfl, rfl, trivial⟩ ?_
  refine z_aload_n C dX3_wrap_0 rfl ?_
  refine z_get C (26) (Cn := RX3) (T := TX3) (N := 3) (fi := 2) iw_X3_wrap_3 rfl (by decide) ln_X3_wrap_18 (by first | decide | omega) rfl s26 rfl dX3_wrap_1 ?_
  refine z_if_leN C 18 (by omega) dX3_wrap_4 (by decide) (fun h4 => (by exfalso; omega)) (fun h4 => ?_)
  refine z_iload_n C dX3_wrap_7 rfl ?_
  refine z_aload_n C dX3_wrap_8 rfl ?_
  refine z_get C (26) (Cn := RX3) (T := TX3) (N := 3) (fi := 2) iw_X3_wrap_3 rfl (by decide) ln_X3_wrap_18 (by first | decide | omega) rfl s26 rfl dX3_wrap_9 ?_
  refine z_callSF C (k_floorMod_m vl D cI cM A ad E hX h1 h2 hL ho) (va_cwS 2 C.2.2.2.2.1 gX3_wrap_J9_floorMod_7cf53 rfl rfl rfl (by decide +kernel) ⟨Nat.le_of_ble_eq_true rfl, Nat.le_of_ble_eq_true rfl⟩) rfl rfl (Nat.le_of_ble_eq_true rfl) ⟨Nat.zero_le _, Nat.zero_le _⟩ dX3_wrap_12 ?_
  refine z_goto C 19 dX3_wrap_15 (by decide) ?_
  exact hend _ _ _ dX3_wrap_19 (rfl)

set_option maxHeartbeats 4000000 in
set_option maxRecDepth 100000 in
theorem k_wrap_0 (vl : Launch) (D : va_G) (cI cM : ClassId) (A : Nat → Prop) (ad : Nat → Nat) (E : Nat → va_E) (hX : XD A 40 ad) {x : Int32} (s26 : E (26) = .inr (3, [.ref (ad 27), .ref (ad 28), .int (nI (0))])) : MF vl yX3_wrap wsX3_wrap { frames := 0, cells := 0, slots := 0, locals := 0 } D cI cM A 40 ad E [.ref (ad 26), .int (x)] (nI 0) := by
  refine mf_of cX3_wrap 2 (.int) RX3 (by decide) rfl rfl (Nat.le_of_ble_eq_true rfl) (rfl) ?_
  intro vp ve vs vm va vb vt vc Q C hend
  refine z_lv [(0, .ref (ad 26)), (1, .int (x))] ⟨rfl, rfl, rfl, rfl, trivial⟩ ?_
  refine z_aload_n C dX3_wrap_0 rfl ?_
  refine z_get C (26) (Cn := RX3) (T := TX3) (N := 3) (fi := 2) iw_X3_wrap_3 rfl (by decide) ln_X3_wrap_18 (by first | decide | omega) rfl s26 rfl dX3_wrap_1 ?_
  refine z_if_leN C 18 (by omega) dX3_wrap_4 (by decide) (fun h4 => ?_) (fun h4 => (by exfalso; omega))
  refine z_iconst C (nI (0)) dX3_wrap_18 (by decide) ?_
  exact hend _ _ _ dX3_wrap_19 (rfl)

def dotc (L0 : List (Nat × Nat)) (a : Nat) : Nat := (L0.getD (a % L0.length) (0, 0)).1
def colc (L0 : List (Nat × Nat)) (a : Nat) : Nat := (L0.getD (a % L0.length) (0, 0)).2
theorem iw_X3_dotsAt_3 : ∀ w ∈ wsX30, w ∈ wsX3_dotsAt := by decide +kernel
theorem ln_X3_dotsAt_18 : Cond.fieldLink RX3 18 "MarqueeDisplay$Strip" "length" "I" ∈ wsX3_dotsAt := by decide +kernel
theorem ln_X3_dotsAt_9 : Cond.fieldLink RX3 9 "MarqueeDisplay$Strip" "dots" "[I" ∈ wsX3_dotsAt := by decide +kernel
set_option maxHeartbeats 4000000 in
set_option maxRecDepth 100000 in
theorem k_X3_dotsAt (vl : Launch) (D : va_G) (cI cM : ClassId) (A : Nat → Prop) (ad : Nat → Nat) (E : Nat → va_E) (hX : XD A 40 ad) {L0 : List (Nat × Nat)} {a : Nat} (hs : StripAt cI ad E L0) (ha : a < 2 ^ 31) (hl : L0.length ≤ 552) : MF vl yX3_dotsAt wsX3_dotsAt { frames := 2, cells := 0, slots := 0, locals := 43 } D cI cM A 40 ad E [.ref (ad 26), .int (nI (a))] (nI (dotc L0 a)) := by
  refine mf_of cX3_dotsAt 3 (.int) RX3 (by decide) rfl rfl (Nat.le_of_ble_eq_true rfl) (rfl) ?_
  intro vp ve vs vm va vb vt vc Q C hend
  refine z_lv [(0, .ref (ad 26)), (1, .int (nI (a)))] ⟨rfl, rfl, rfl, rfl, trivial⟩ ?_
  obtain ⟨sd, sc, s26, s27, s28, hsp⟩ := hs
  rcases Nat.eq_zero_or_pos L0.length with h4 | h4
  · refine z_aload_n C dX3_dotsAt_0 rfl ?_
    refine z_iload_n C dX3_dotsAt_1 rfl ?_
    refine z_callVF C (26) (Cn := RX3) (T := TX3) (N := 3) (k_wrap_0 vl D cI cM A ad E hX (x := nI a) (s26.trans (by rw [h4]))) (cwV 1 C.2.2.2.2.1 gX3_dotsAt_X3_wrap rfl rfl rfl (by decide +kernel) ⟨Nat.le_of_ble_eq_true rfl, Nat.le_of_ble_eq_true rfl⟩) rfl (by first | decide | omega) rfl s26 rfl rfl (Nat.le_of_ble_eq_true rfl) ⟨Nat.zero_le _, Nat.zero_le _⟩ dX3_dotsAt_2 ?_
    refine z_istore_n C [(0, .ref (ad 26)), (1, .int (nI (a))), (2, .int (nI (0)))] dX3_dotsAt_5 (by decide) ⟨rfl, rfl, rfl, rfl, rfl, rfl, trivial⟩ ?_
    refine z_iload_n C dX3_dotsAt_6 rfl ?_
    refine z_aload_n C dX3_dotsAt_7 rfl ?_
    refine z_get C (26) (Cn := RX3) (T := TX3) (N := 3) (fi := 2) iw_X3_dotsAt_3 rfl (by decide) ln_X3_dotsAt_18 (by first | decide | omega) rfl s26 rfl dX3_dotsAt_8 ?_
    refine z_icmp_geN C 32 (by omega) (by omega) dX3_dotsAt_11 (by decide) (fun h11 => ?_) (fun h11 => (by exfalso; omega))
    refine z_iconst C (nI (0)) dX3_dotsAt_32 (by decide) ?_
    exact hend _ _ _ dX3_dotsAt_33 (by rw [L0nil h4]; rfl)
  · refine z_aload_n C dX3_dotsAt_0 rfl ?_
    refine z_iload_n C dX3_dotsAt_1 rfl ?_
    refine z_callVF C (26) (Cn := RX3) (T := TX3) (N := 3) (k_wrap_p vl D cI cM A ad E hX s26 ha (by omega)) (cwV 1 C.2.2.2.2.1 gX3_dotsAt_X3_wrap rfl rfl rfl (by decide +kernel) ⟨Nat.le_of_ble_eq_true rfl, Nat.le_of_ble_eq_true rfl⟩) rfl (by first | decide | omega) rfl s26 rfl rfl (Nat.le_of_ble_eq_true rfl) ⟨Nat.zero_le _, Nat.zero_le _⟩ dX3_dotsAt_2 ?_
    have hml := Nat.mod_lt a h4
    refine z_istore_n C [(0, .ref (ad 26)), (1, .int (nI (a))), (2, .int (nI (a % L0.length)))] dX3_dotsAt_5 (by decide) ⟨rfl, rfl, rfl, rfl, rfl, rfl, trivial⟩ ?_
    refine z_iload_n C dX3_dotsAt_6 rfl ?_
    refine z_aload_n C dX3_dotsAt_7 rfl ?_
    refine z_get C (26) (Cn := RX3) (T := TX3) (N := 3) (fi := 2) iw_X3_dotsAt_3 rfl (by decide) ln_X3_dotsAt_18 (by first | decide | omega) rfl s26 rfl dX3_dotsAt_8 ?_
    refine z_icmp_geN C 32 (by omega) (by omega) dX3_dotsAt_11 (by decide) (fun h11 => (by exfalso; omega)) (fun h11 => ?_)
    refine z_iload_n C dX3_dotsAt_14 rfl ?_
    refine z_aload_n C dX3_dotsAt_15 rfl ?_
    refine z_get C (26) (Cn := RX3) (T := TX3) (N := 3) (fi := 0) iw_X3_dotsAt_3 rfl (by decide) ln_X3_dotsAt_9 (by first | decide | omega) rfl s26 rfl dX3_dotsAt_16 ?_
    refine z_alenG C (27) (by first | decide | omega) rfl s27 dX3_dotsAt_19 ?_
    refine z_icmp_geN C 32 (by omega) (by omega) dX3_dotsAt_20 (by decide) (fun h20 => (by exfalso; omega)) (fun h20 => ?_)
    refine z_aload_n C dX3_dotsAt_23 rfl ?_
    refine z_get C (26) (Cn := RX3) (T := TX3) (N := 3) (fi := 0) iw_X3_dotsAt_3 rfl (by decide) ln_X3_dotsAt_9 (by first | decide | omega) rfl s26 rfl dX3_dotsAt_24 ?_
    refine z_iload_n C dX3_dotsAt_27 rfl ?_
    refine z_ialdG C (27) (by first | decide | omega) rfl s27 (by omega) (by decide) dX3_dotsAt_28 ?_
    refine z_goto C 33 dX3_dotsAt_29 (by decide) ?_
    exact hend _ _ _ dX3_dotsAt_33 (by rw [SP_d hsp hml]; rfl)

theorem iw_X3_colorAt_3 : ∀ w ∈ wsX30, w ∈ wsX3_colorAt := by decide +kernel
theorem ln_X3_colorAt_18 : Cond.fieldLink RX3 18 "MarqueeDisplay$Strip" "length" "I" ∈ wsX3_colorAt := by decide +kernel
theorem ln_X3_colorAt_15 : Cond.fieldLink RX3 15 "MarqueeDisplay$Strip" "colors" "[I" ∈ wsX3_colorAt := by decide +kernel
set_option maxHeartbeats 4000000 in
set_option maxRecDepth 100000 in
theorem k_X3_colorAt (vl : Launch) (D : va_G) (cI cM : ClassId) (A : Nat → Prop) (ad : Nat → Nat) (E : Nat → va_E) (hX : XD A 40 ad) {L0 : List (Nat × Nat)} {a : Nat} (hs : StripAt cI ad E L0) (ha : a < 2 ^ 31) (hl : L0.length ≤ 552) : MF vl yX3_colorAt wsX3_colorAt { frames := 2, cells := 0, slots := 0, locals := 43 } D cI cM A 40 ad E [.ref (ad 26), .int (nI (a))] (nI (colc L0 a)) := by
  refine mf_of cX3_colorAt 3 (.int) RX3 (by decide) rfl rfl (Nat.le_of_ble_eq_true rfl) (rfl) ?_
  intro vp ve vs vm va vb vt vc Q C hend
  refine z_lv [(0, .ref (ad 26)), (1, .int (nI (a)))] ⟨rfl, rfl, rfl, rfl, trivial⟩ ?_
  obtain ⟨sd, sc, s26, s27, s28, hsp⟩ := hs
  rcases Nat.eq_zero_or_pos L0.length with h4 | h4
  · refine z_aload_n C dX3_colorAt_0 rfl ?_
    refine z_iload_n C dX3_colorAt_1 rfl ?_
    refine z_callVF C (26) (Cn := RX3) (T := TX3) (N := 3) (k_wrap_0 vl D cI cM A ad E hX (x := nI a) (s26.trans (by rw [h4]))) (cwV 1 C.2.2.2.2.1 gX3_colorAt_X3_wrap rfl rfl rfl (by decide +kernel) ⟨Nat.le_of_ble_eq_true rfl, Nat.le_of_ble_eq_true rfl⟩) rfl (by first | decide | omega) rfl s26 rfl rfl (Nat.le_of_ble_eq_true rfl) ⟨Nat.zero_le _, Nat.zero_le _⟩ dX3_colorAt_2 ?_
    refine z_istore_n C [(0, .ref (ad 26)), (1, .int (nI (a))), (2, .int (nI (0)))] dX3_colorAt_5 (by decide) ⟨rfl, rfl, rfl, rfl, rfl, rfl, trivial⟩ ?_
    refine z_iload_n C dX3_colorAt_6 rfl ?_
    refine z_aload_n C dX3_colorAt_7 rfl ?_
    refine z_get C (26) (Cn := RX3) (T := TX3) (N := 3) (fi := 2) iw_X3_colorAt_3 rfl (by decide) ln_X3_colorAt_18 (by first | decide | omega) rfl s26 rfl dX3_colorAt_8 ?_
    refine z_icmp_geN C 32 (by omega) (by omega) dX3_colorAt_11 (by decide) (fun h11 => ?_) (fun h11 => (by exfalso; omega))
    refine z_iconst C (nI (0)) dX3_colorAt_32 (by decide) ?_
    exact hend _ _ _ dX3_colorAt_33 (by rw [L0nil h4]; rfl)
  · refine z_aload_n C dX3_colorAt_0 rfl ?_
    refine z_iload_n C dX3_colorAt_1 rfl ?_
    refine z_callVF C (26) (Cn := RX3) (T := TX3) (N := 3) (k_wrap_p vl D cI cM A ad E hX s26 ha (by omega)) (cwV 1 C.2.2.2.2.1 gX3_colorAt_X3_wrap rfl rfl rfl (by decide +kernel) ⟨Nat.le_of_ble_eq_true rfl, Nat.le_of_ble_eq_true rfl⟩) rfl (by first | decide | omega) rfl s26 rfl rfl (Nat.le_of_ble_eq_true rfl) ⟨Nat.zero_le _, Nat.zero_le _⟩ dX3_colorAt_2 ?_
    have hml := Nat.mod_lt a h4
    refine z_istore_n C [(0, .ref (ad 26)), (1, .int (nI (a))), (2, .int (nI (a % L0.length)))] dX3_colorAt_5 (by decide) ⟨rfl, rfl, rfl, rfl, rfl, rfl, trivial⟩ ?_
    refine z_iload_n C dX3_colorAt_6 rfl ?_
    refine z_aload_n C dX3_colorAt_7 rfl ?_
    refine z_get C (26) (Cn := RX3) (T := TX3) (N := 3) (fi := 2) iw_X3_colorAt_3 rfl (by decide) ln_X3_colorAt_18 (by first | decide | omega) rfl s26 rfl dX3_colorAt_8 ?_
    refine z_icmp_geN C 32 (by omega) (by omega) dX3_colorAt_11 (by decide) (fun h11 => (by exfalso; omega)) (fun h11 => ?_)
    refine z_iload_n C dX3_colorAt_14 rfl ?_
    refine z_aload_n C dX3_colorAt_15 rfl ?_
    refine z_get C (26) (Cn := RX3) (T := TX3) (N := 3) (fi := 1) iw_X3_colorAt_3 rfl (by decide) ln_X3_colorAt_15 (by first | decide | omega) rfl s26 rfl dX3_colorAt_16 ?_
    refine z_alenG C (28) (by first | decide | omega) rfl s28 dX3_colorAt_19 ?_
    refine z_icmp_geN C 32 (by omega) (by omega) dX3_colorAt_20 (by decide) (fun h20 => (by exfalso; omega)) (fun h20 => ?_)
    refine z_aload_n C dX3_colorAt_23 rfl ?_
    refine z_get C (26) (Cn := RX3) (T := TX3) (N := 3) (fi := 1) iw_X3_colorAt_3 rfl (by decide) ln_X3_colorAt_15 (by first | decide | omega) rfl s26 rfl dX3_colorAt_24 ?_
    refine z_iload_n C dX3_colorAt_27 rfl ?_
    refine z_ialdG C (28) (by first | decide | omega) rfl s28 (by omega) (by decide) dX3_colorAt_28 ?_
    refine z_goto C 33 dX3_colorAt_29 (by decide) ?_
    exact hend _ _ _ dX3_colorAt_33 (by rw [SP_c hsp hml]; rfl)

