def act (L0 : List (Nat × Nat)) (t r a : Nat) : Nat := if t ≤ r + 2 ∧ r + 2 - t < 8 ∧ b1 (dotc L0 a) (r + 2 - t) = 1 then colc L0 a else 0
def wc (c : Nat) : Nat := if c = 3 then 2 else if 0 < c then 1 else 0
def lsum (L0 : List (Nat × Nat)) (t : Nat) (df : Nat → Nat) (a x r : Nat) : Nat := if b1 (df x) r = 1 then 0 else wc (act L0 t r (a + x))
theorem wc_le (c : Nat) : wc c ≤ 2 := by
  unfold wc
  split
  · omega
  · split <;> omega
theorem lsum_le (L0 : List (Nat × Nat)) (t : Nat) (df : Nat → Nat) (a x r : Nat) : lsum L0 t df a x r ≤ 2 := by
  unfold lsum
  split
  · omega
  · exact wc_le _
theorem sub_p : ∀ r, r < 8 → ∀ t, t < 5 → t ≤ r + 2 → nI r - shI t = nI (r + 2 - t) := by decide +kernel
theorem sub_n : ∀ r, r < 8 → ∀ t, t < 5 → ¬ t ≤ r + 2 → nI r - shI t < 0 := by decide +kernel
theorem add_p : ∀ r, r < 8 → ∀ t, t < 5 → 2 ≤ r + t → nI r + shI t = nI (r + t - 2) := by decide +kernel
theorem add_n : ∀ r, r < 8 → ∀ t, t < 5 → ¬ 2 ≤ r + t → nI r + shI t < 0 := by decide +kernel
theorem act_nil {L0 : List (Nat × Nat)} (h : L0.length = 0) (t r a : Nat) : act L0 t r a = 0 := by
  rw [L0nil h]
  unfold act
  split <;> rfl
theorem b1_s0 : ∀ r, r < 8 → ∀ d, d < 256 → b1 (sft d 0) r = if 0 ≤ r + 2 ∧ r + 2 - 0 < 8 then b1 d (r + 2 - 0) else 0 := by decide +kernel
theorem b1_s1 : ∀ r, r < 8 → ∀ d, d < 256 → b1 (sft d 1) r = if 1 ≤ r + 2 ∧ r + 2 - 1 < 8 then b1 d (r + 2 - 1) else 0 := by decide +kernel
theorem b1_s2 : ∀ r, r < 8 → ∀ d, d < 256 → b1 (sft d 2) r = if 2 ≤ r + 2 ∧ r + 2 - 2 < 8 then b1 d (r + 2 - 2) else 0 := by decide +kernel
theorem b1_s3 : ∀ r, r < 8 → ∀ d, d < 256 → b1 (sft d 3) r = if 3 ≤ r + 2 ∧ r + 2 - 3 < 8 then b1 d (r + 2 - 3) else 0 := by decide +kernel
theorem b1_s4 : ∀ r, r < 8 → ∀ d, d < 256 → b1 (sft d 4) r = if 4 ≤ r + 2 ∧ r + 2 - 4 < 8 then b1 d (r + 2 - 4) else 0 := by decide +kernel
theorem b1_sft {d t r : Nat} (hd : d < 256) (ht : t ≤ 4) (hr : r < 8) : b1 (sft d t) r = if t ≤ r + 2 ∧ r + 2 - t < 8 then b1 d (r + 2 - t) else 0 := by
  rcases (show t = 0 ∨ t = 1 ∨ t = 2 ∨ t = 3 ∨ t = 4 by omega) with rfl | rfl | rfl | rfl | rfl
  · exact b1_s0 r hr d hd
  · exact b1_s1 r hr d hd
  · exact b1_s2 r hr d hd
  · exact b1_s3 r hr d hd
  · exact b1_s4 r hr d hd
theorem b1_lit {d t m r : Nat} (hm : m < 256) (hr : r < 8) : b1 (lit d t m) r = if b1 m r = 1 then 0 else b1 (sft d t) r := by
  rw [b1_tb, b1_tb m, b1_tb (sft d t)]
  unfold lit
  rw [Nat.testBit_and, show 255 - m = 2 ^ 8 - (m + 1) by omega, Nat.testBit_two_pow_sub_succ (by omega)]
  have h8 : decide (r < 8) = true := decide_eq_true hr
  rw [h8]
  cases m.testBit r <;> cases (sft d t).testBit r <;> rfl
theorem sm_mul {f : Nat → Nat} (c : Nat) : ∀ n, sm (fun k => c * f k) n = c * sm f n
  | 0 => rfl
  | n + 1 => by rw [sm, sm, sm_mul c n, Nat.mul_add]
theorem col_eq {L0 : List (Nat × Nat)} {t a x : Nat} {df : Nat → Nat} (hd : dotc L0 (a + x) < 256) (hc : colc L0 (a + x) ≤ 3) (hz : colc L0 (a + x) = 0 → dotc L0 (a + x) = 0) (ht : t ≤ 4) (hm : df x < 256) : sm (lsum L0 t df a x) 8 = colS L0 t df a x := by
  unfold colS pc8
  rw [← sm_mul]
  apply sm_cg
  intro r hr
  unfold lsum
  rw [b1_lit hm hr, b1_sft hd ht hr]
  by_cases h1 : b1 (df x) r = 1
  · rw [if_pos h1, if_pos h1, Nat.mul_zero]
  · rw [if_neg h1, if_neg h1]
    unfold act
    by_cases h2 : t ≤ r + 2 ∧ r + 2 - t < 8
    · rw [if_pos h2]
      have hb := b1_le (dotc L0 (a + x)) (r + 2 - t)
      by_cases h3 : b1 (dotc L0 (a + x)) (r + 2 - t) = 1
      · rw [if_pos ⟨h2.1, h2.2, h3⟩, h3, Nat.mul_one]
        have hc0 : colc L0 (a + x) ≠ 0 := by
          intro q
          rw [hz q] at h3
          have : b1 0 (r + 2 - t) = 0 := by unfold b1; rw [Nat.zero_div]
          omega
        unfold wc wt
        by_cases h4 : colc L0 (a + x) = 3
        · rw [if_pos h4, if_pos h4]
        · rw [if_neg h4, if_neg h4, if_pos (by omega)]
      · rw [if_neg (fun q => h3 q.2.2), show b1 (dotc L0 (a + x)) (r + 2 - t) = 0 by omega, Nat.mul_zero]
        rfl
    · rw [if_neg h2, if_neg (fun q => h2 ⟨q.1, q.2.1⟩), Nat.mul_zero]
      rfl
def gone (t : Nat) (m r : Nat) : Nat := if 2 ≤ r + t ∧ r + t - 2 ≤ 7 then b1 m (r + t - 2) else 1
def dterm (d t m r : Nat) : Nat := if b1 d r = 1 ∧ gone t m r = 1 then 1 else 0
theorem gone_le (t m r : Nat) : gone t m r ≤ 1 := by
  unfold gone
  split
  · exact b1_le _ _
  · omega
theorem dterm_le (d t m r : Nat) : dterm d t m r ≤ 1 := by unfold dterm; split <;> omega
theorem sm8 (f : Nat → Nat) : sm f 8 = f 0 + f 1 + f 2 + f 3 + f 4 + f 5 + f 6 + f 7 := by
  show 0 + f 0 + f 1 + f 2 + f 3 + f 4 + f 5 + f 6 + f 7 = _
  omega
def kp (d m q r : Nat) : Nat := if b1 m q = 1 then 0 else b1 d r
theorem dt_in {d t m r : Nat} (h : 2 ≤ r + t ∧ r + t - 2 ≤ 7) : dterm d t m r + kp d m (r + t - 2) r = b1 d r := by
  have h1 := b1_le d r
  have h2 := b1_le m (r + t - 2)
  unfold dterm gone kp
  rw [if_pos h]
  by_cases a : b1 d r = 1
  · by_cases b : b1 m (r + t - 2) = 1
    · rw [if_pos ⟨a, b⟩, if_pos b]; omega
    · rw [if_neg (fun q => b q.2), if_neg b]; omega
  · rw [if_neg (fun q => a q.1)]
    split <;> omega
theorem dt_out {d t m r : Nat} (h : ¬ (2 ≤ r + t ∧ r + t - 2 ≤ 7)) : dterm d t m r = b1 d r := by
  have h1 := b1_le d r
  unfold dterm gone
  rw [if_neg h]
  by_cases a : b1 d r = 1
  · rw [if_pos ⟨a, rfl⟩]; omega
  · rw [if_neg (fun q => a q.1)]; omega
theorem lk_in {d t m q : Nat} (hd : d < 256) (ht : t ≤ 4) (hm : m < 256) (hq : q < 8) (h : t ≤ q + 2 ∧ q + 2 - t < 8) : b1 (lit d t m) q = kp d m q (q + 2 - t) := by
  rw [b1_lit hm hq, b1_sft hd ht hq, if_pos h]; rfl
theorem lk_out {d t m q : Nat} (hd : d < 256) (ht : t ≤ 4) (hm : m < 256) (hq : q < 8) (h : ¬ (t ≤ q + 2 ∧ q + 2 - t < 8)) : b1 (lit d t m) q = 0 := by
  rw [b1_lit hm hq, b1_sft hd ht hq, if_neg h]
  split <;> rfl
theorem dcol {d t m : Nat} (hd : d < 256) (ht : t ≤ 4) (hm : m < 256) : sm (dterm d t m) 8 = pc8 d - pc8 (lit d t m) := by
  have key : sm (dterm d t m) 8 + pc8 (lit d t m) = pc8 d := by
    unfold pc8
    rw [sm8, sm8, sm8]
    rcases (show t = 0 ∨ t = 1 ∨ t = 2 ∨ t = 3 ∨ t = 4 by omega) with rfl | rfl | rfl | rfl | rfl
    · have a0 := dt_out (d := d) (t := 0) (m := m) (r := 0) (by decide)
      have a1 := dt_out (d := d) (t := 0) (m := m) (r := 1) (by decide)
      have a2 := dt_in (d := d) (t := 0) (m := m) (r := 2) (by decide)
      have a3 := dt_in (d := d) (t := 0) (m := m) (r := 3) (by decide)
      have a4 := dt_in (d := d) (t := 0) (m := m) (r := 4) (by decide)
      have a5 := dt_in (d := d) (t := 0) (m := m) (r := 5) (by decide)
      have a6 := dt_in (d := d) (t := 0) (m := m) (r := 6) (by decide)
      have a7 := dt_in (d := d) (t := 0) (m := m) (r := 7) (by decide)
      have c0 := lk_in hd ht hm (q := 0) (by decide) (by decide)
      have c1 := lk_in hd ht hm (q := 1) (by decide) (by decide)
      have c2 := lk_in hd ht hm (q := 2) (by decide) (by decide)
      have c3 := lk_in hd ht hm (q := 3) (by decide) (by decide)
      have c4 := lk_in hd ht hm (q := 4) (by decide) (by decide)
      have c5 := lk_in hd ht hm (q := 5) (by decide) (by decide)
      have c6 := lk_out hd ht hm (q := 6) (by decide) (by decide)
      have c7 := lk_out hd ht hm (q := 7) (by decide) (by decide)
      simp only [Nat.reduceAdd, Nat.reduceSub] at *
      omega
    · have a0 := dt_out (d := d) (t := 1) (m := m) (r := 0) (by decide)
      have a1 := dt_in (d := d) (t := 1) (m := m) (r := 1) (by decide)
      have a2 := dt_in (d := d) (t := 1) (m := m) (r := 2) (by decide)
      have a3 := dt_in (d := d) (t := 1) (m := m) (r := 3) (by decide)
      have a4 := dt_in (d := d) (t := 1) (m := m) (r := 4) (by decide)
      have a5 := dt_in (d := d) (t := 1) (m := m) (r := 5) (by decide)
      have a6 := dt_in (d := d) (t := 1) (m := m) (r := 6) (by decide)
      have a7 := dt_in (d := d) (t := 1) (m := m) (r := 7) (by decide)
      have c0 := lk_in hd ht hm (q := 0) (by decide) (by decide)
      have c1 := lk_in hd ht hm (q := 1) (by decide) (by decide)
      have c2 := lk_in hd ht hm (q := 2) (by decide) (by decide)
      have c3 := lk_in hd ht hm (q := 3) (by decide) (by decide)
      have c4 := lk_in hd ht hm (q := 4) (by decide) (by decide)
      have c5 := lk_in hd ht hm (q := 5) (by decide) (by decide)
      have c6 := lk_in hd ht hm (q := 6) (by decide) (by decide)
      have c7 := lk_out hd ht hm (q := 7) (by decide) (by decide)
      simp only [Nat.reduceAdd, Nat.reduceSub] at *
      omega
    · have a0 := dt_in (d := d) (t := 2) (m := m) (r := 0) (by decide)
      have a1 := dt_in (d := d) (t := 2) (m := m) (r := 1) (by decide)
      have a2 := dt_in (d := d) (t := 2) (m := m) (r := 2) (by decide)
      have a3 := dt_in (d := d) (t := 2) (m := m) (r := 3) (by decide)
      have a4 := dt_in (d := d) (t := 2) (m := m) (r := 4) (by decide)
      have a5 := dt_in (d := d) (t := 2) (m := m) (r := 5) (by decide)
      have a6 := dt_in (d := d) (t := 2) (m := m) (r := 6) (by decide)
      have a7 := dt_in (d := d) (t := 2) (m := m) (r := 7) (by decide)
      have c0 := lk_in hd ht hm (q := 0) (by decide) (by decide)
      have c1 := lk_in hd ht hm (q := 1) (by decide) (by decide)
      have c2 := lk_in hd ht hm (q := 2) (by decide) (by decide)
      have c3 := lk_in hd ht hm (q := 3) (by decide) (by decide)
      have c4 := lk_in hd ht hm (q := 4) (by decide) (by decide)
      have c5 := lk_in hd ht hm (q := 5) (by decide) (by decide)
      have c6 := lk_in hd ht hm (q := 6) (by decide) (by decide)
      have c7 := lk_in hd ht hm (q := 7) (by decide) (by decide)
      simp only [Nat.reduceAdd, Nat.reduceSub] at *
      omega
    · have a0 := dt_in (d := d) (t := 3) (m := m) (r := 0) (by decide)
      have a1 := dt_in (d := d) (t := 3) (m := m) (r := 1) (by decide)
      have a2 := dt_in (d := d) (t := 3) (m := m) (r := 2) (by decide)
      have a3 := dt_in (d := d) (t := 3) (m := m) (r := 3) (by decide)
      have a4 := dt_in (d := d) (t := 3) (m := m) (r := 4) (by decide)
      have a5 := dt_in (d := d) (t := 3) (m := m) (r := 5) (by decide)
      have a6 := dt_in (d := d) (t := 3) (m := m) (r := 6) (by decide)
      have a7 := dt_out (d := d) (t := 3) (m := m) (r := 7) (by decide)
      have c0 := lk_out hd ht hm (q := 0) (by decide) (by decide)
      have c1 := lk_in hd ht hm (q := 1) (by decide) (by decide)
      have c2 := lk_in hd ht hm (q := 2) (by decide) (by decide)
      have c3 := lk_in hd ht hm (q := 3) (by decide) (by decide)
      have c4 := lk_in hd ht hm (q := 4) (by decide) (by decide)
      have c5 := lk_in hd ht hm (q := 5) (by decide) (by decide)
      have c6 := lk_in hd ht hm (q := 6) (by decide) (by decide)
      have c7 := lk_in hd ht hm (q := 7) (by decide) (by decide)
      simp only [Nat.reduceAdd, Nat.reduceSub] at *
      omega
    · have a0 := dt_in (d := d) (t := 4) (m := m) (r := 0) (by decide)
      have a1 := dt_in (d := d) (t := 4) (m := m) (r := 1) (by decide)
      have a2 := dt_in (d := d) (t := 4) (m := m) (r := 2) (by decide)
      have a3 := dt_in (d := d) (t := 4) (m := m) (r := 3) (by decide)
      have a4 := dt_in (d := d) (t := 4) (m := m) (r := 4) (by decide)
      have a5 := dt_in (d := d) (t := 4) (m := m) (r := 5) (by decide)
      have a6 := dt_out (d := d) (t := 4) (m := m) (r := 6) (by decide)
      have a7 := dt_out (d := d) (t := 4) (m := m) (r := 7) (by decide)
      have c0 := lk_out hd ht hm (q := 0) (by decide) (by decide)
      have c1 := lk_out hd ht hm (q := 1) (by decide) (by decide)
      have c2 := lk_in hd ht hm (q := 2) (by decide) (by decide)
      have c3 := lk_in hd ht hm (q := 3) (by decide) (by decide)
      have c4 := lk_in hd ht hm (q := 4) (by decide) (by decide)
      have c5 := lk_in hd ht hm (q := 5) (by decide) (by decide)
      have c6 := lk_in hd ht hm (q := 6) (by decide) (by decide)
      have c7 := lk_in hd ht hm (q := 7) (by decide) (by decide)
      simp only [Nat.reduceAdd, Nat.reduceSub] at *
      omega
  omega
theorem iw_X6_active_6 : ∀ w ∈ wsX60, w ∈ wsX6_active := by decide +kernel
theorem ln_X6_active_67 : Cond.fieldLink RX6 67 "MarqueeDisplayModel" "strip" "I" ∈ wsX6_active := by decide +kernel
theorem ln_X6_active_94 : Cond.fieldLink RX6 94 "MarqueeDisplayModel" "shift" "I" ∈ wsX6_active := by decide +kernel
theorem ln_X6_active_44 : Cond.fieldLink RX6 44 "MarqueeDisplayModel" "dots" "[I" ∈ wsX6_active := by decide +kernel
theorem ln_X6_active_47 : Cond.fieldLink RX6 47 "MarqueeDisplayModel" "paint" "[I" ∈ wsX6_active := by decide +kernel
set_option maxHeartbeats 4000000 in
set_option maxRecDepth 100000 in
theorem k_X6_active (vl : Launch) (D : va_G) (cI cM : ClassId) (A : Nat → Prop) (ad : Nat → Nat) (E : Nat → va_E) (hX : XD A 40 ad) {W G S B off cnt t tl n : Nat} {L0 : List (Nat × Nat)} {r x a : Nat} (e30 : E (30) = .inr (6, [.int (nI (W)), .int (nI (G)), .int (nI (S)), .int (shI (t)), .int (nI (B)), .int (nI (off)), .int (nI (cnt)), .ref (ad 31), .ref (ad 32), .ref (ad 33), .int (nI (tl)), .ref (ad 34), .int (nI (n)), .ref (ad 35), .ref (ad 36), .ref (ad 37), .int (nI (L0.length)), .ref (ad 38), .ref (ad 39)])) (hs : MS cI E L0) (hl : L0.length ≤ 552) (hd : ∀ a, dotc L0 a < 256) (ht : t ≤ 4) (hr : r < 8) (hx : a + x < 2 ^ 31) : MF vl yX6_active wsX6_active { frames := 1, cells := 0, slots := 0, locals := 21 } D cI cM A 40 ad E [.ref (ad 30), .int (nI (r)), .int (nI (x)), .int (nI (a))] (nI (act L0 t r (a + x))) := by
  refine mf_of cX6_active 5 (.int) RX6 (by decide) rfl rfl (Nat.le_of_ble_eq_true rfl) (rfl) ?_
  intro vp ve vs vm va vb vt vc Q C hend
  refine z_lv [(0, .ref (ad 30)), (1, .int (nI (r))), (2, .int (nI (x))), (3, .int (nI (a)))] ⟨rfl, rfl, rfl, rfl, rfl, rfl, rfl, rfl, trivial⟩ ?_
  obtain ⟨sd, sc, s38, s39, hsp⟩ := id hs
  by_cases htr : t ≤ r + 2
  · refine z_aload_n C dX6_active_0 rfl ?_
    refine z_get C (30) (Cn := RX6) (T := TX6) (N := 19) (fi := 16) iw_X6_active_6 rfl (by decide) ln_X6_active_67 (by first | decide | omega) rfl e30 rfl dX6_active_1 ?_
    refine z_if_neN C 9 (by omega) dX6_active_4 (by decide) (fun h4 => ?_) (fun h4 => ?_)
    · refine z_iload_n C dX6_active_9 rfl ?_
      refine z_iload_n C dX6_active_10 rfl ?_
      refine z_iaddN C  dX6_active_11 ?_
      refine z_aload_n C dX6_active_12 rfl ?_
      refine z_get C (30) (Cn := RX6) (T := TX6) (N := 19) (fi := 16) iw_X6_active_6 rfl (by decide) ln_X6_active_67 (by first | decide | omega) rfl e30 rfl dX6_active_13 ?_
      refine z_iremN C (by omega) (by omega) (by omega) dX6_active_16 ?_
      refine z_istore C [(0, .ref (ad 30)), (1, .int (nI (r))), (2, .int (nI (x))), (3, .int (nI (a))), (4, .int (nI ((a + x) % L0.length)))] dX6_active_17 (by decide) ⟨rfl, rfl, rfl, rfl, rfl, rfl, rfl, rfl, rfl, rfl, trivial⟩ ?_
      refine z_iload_n C dX6_active_19 rfl ?_
      refine z_aload_n C dX6_active_20 rfl ?_
      refine z_get C (30) (Cn := RX6) (T := TX6) (N := 19) (fi := 3) iw_X6_active_6 rfl (by decide) ln_X6_active_94 (by first | decide | omega) rfl e30 rfl dX6_active_21 ?_
      refine z_isub C dX6_active_24  ?_
      refine z_top (nI (r + 2 - t)) (sub_p r hr t (by omega) htr) ?_
      refine z_bipush C (nI (8)) dX6_active_25 (by decide) ?_
      refine z_icmp_geN C 59 (by omega) (by omega) dX6_active_27 (by decide) (fun h27 => ?_) (fun h27 => ?_)
      · refine z_iconst C (nI (0)) dX6_active_59 (by decide) ?_
        exact hend _ _ _ dX6_active_60 (by unfold act; rw [if_neg (fun q => by omega)])
      · refine z_aload_n C dX6_active_30 rfl ?_
        refine z_get C (30) (Cn := RX6) (T := TX6) (N := 19) (fi := 17) iw_X6_active_6 rfl (by decide) ln_X6_active_44 (by first | decide | omega) rfl e30 rfl dX6_active_31 ?_
        refine z_iload C dX6_active_34 rfl ?_
        refine z_ialdG C (38) (by first | decide | omega) rfl s38 (Nat.lt_of_lt_of_le (Nat.mod_lt _ (Nat.pos_of_ne_zero h4)) (Nat.le_trans hl (by decide))) (by decide) dX6_active_36 ?_
        refine z_top (nI (dotc L0 (a + x))) (by rw [SP_d hsp (Nat.mod_lt _ (Nat.pos_of_ne_zero h4))]; rfl) ?_
        refine z_iload_n C dX6_active_37 rfl ?_
        refine z_aload_n C dX6_active_38 rfl ?_
        refine z_get C (30) (Cn := RX6) (T := TX6) (N := 19) (fi := 3) iw_X6_active_6 rfl (by decide) ln_X6_active_94 (by first | decide | omega) rfl e30 rfl dX6_active_39 ?_
        refine z_isub C dX6_active_42  ?_
        refine z_top (nI (r + 2 - t)) (sub_p r hr t (by omega) htr) ?_
        refine z_callSF C (k_has_p vl D cI cM A ad E hX (hd _) h27) (va_cwS 2 C.2.2.2.2.1 gX6_active_X6_has rfl rfl rfl (by decide +kernel) ⟨Nat.le_of_ble_eq_true rfl, Nat.le_of_ble_eq_true rfl⟩) rfl rfl (Nat.le_of_ble_eq_true rfl) ⟨Nat.zero_le _, Nat.zero_le _⟩ dX6_active_43 ?_
        refine z_if_eqN C 59 (Nat.lt_of_le_of_lt (b1_le _ _) (by decide)) dX6_active_46 (by decide) (fun h46 => ?_) (fun h46 => ?_)
        · refine z_iconst C (nI (0)) dX6_active_59 (by decide) ?_
          exact hend _ _ _ dX6_active_60 (by unfold act; rw [if_neg (fun q => by omega)])
        · refine z_aload_n C dX6_active_49 rfl ?_
          refine z_get C (30) (Cn := RX6) (T := TX6) (N := 19) (fi := 18) iw_X6_active_6 rfl (by decide) ln_X6_active_47 (by first | decide | omega) rfl e30 rfl dX6_active_50 ?_
          refine z_iload C dX6_active_53 rfl ?_
          refine z_ialdG C (39) (by first | decide | omega) rfl s39 (Nat.lt_of_lt_of_le (Nat.mod_lt _ (Nat.pos_of_ne_zero h4)) (Nat.le_trans hl (by decide))) (by decide) dX6_active_55 ?_
          refine z_top (nI (colc L0 (a + x))) (by rw [SP_c hsp (Nat.mod_lt _ (Nat.pos_of_ne_zero h4))]; rfl) ?_
          refine z_goto C 60 dX6_active_56 (by decide) ?_
          exact hend _ _ _ dX6_active_60 (by have hb := b1_le (dotc L0 (a + x)) (r + 2 - t); unfold act; rw [if_pos ⟨htr, h27, by omega⟩])
    · refine z_iconst C (nI (0)) dX6_active_7 (by decide) ?_
      exact hend _ _ _ dX6_active_8 (by rw [act_nil h4])
  · refine z_aload_n C dX6_active_0 rfl ?_
    refine z_get C (30) (Cn := RX6) (T := TX6) (N := 19) (fi := 16) iw_X6_active_6 rfl (by decide) ln_X6_active_67 (by first | decide | omega) rfl e30 rfl dX6_active_1 ?_
    refine z_if_neN C 9 (by omega) dX6_active_4 (by decide) (fun h4 => ?_) (fun h4 => ?_)
    · refine z_iload_n C dX6_active_9 rfl ?_
      refine z_iload_n C dX6_active_10 rfl ?_
      refine z_iaddN C  dX6_active_11 ?_
      refine z_aload_n C dX6_active_12 rfl ?_
      refine z_get C (30) (Cn := RX6) (T := TX6) (N := 19) (fi := 16) iw_X6_active_6 rfl (by decide) ln_X6_active_67 (by first | decide | omega) rfl e30 rfl dX6_active_13 ?_
      refine z_iremN C (by omega) (by omega) (by omega) dX6_active_16 ?_
      refine z_istore C [(0, .ref (ad 30)), (1, .int (nI (r))), (2, .int (nI (x))), (3, .int (nI (a))), (4, .int (nI ((a + x) % L0.length)))] dX6_active_17 (by decide) ⟨rfl, rfl, rfl, rfl, rfl, rfl, rfl, rfl, rfl, rfl, trivial⟩ ?_
      refine z_iload_n C dX6_active_19 rfl ?_
      refine z_aload_n C dX6_active_20 rfl ?_
      refine z_get C (30) (Cn := RX6) (T := TX6) (N := 19) (fi := 3) iw_X6_active_6 rfl (by decide) ln_X6_active_94 (by first | decide | omega) rfl e30 rfl dX6_active_21 ?_
      refine z_isub C dX6_active_24  ?_
      refine z_bipush C (nI (8)) dX6_active_25 (by decide) ?_
      refine z_icmp_ge C 59 dX6_active_27 (by decide) (fun h27 => (by exfalso; exact absurd (Int32.le_trans h27 (Int32.le_of_lt (sub_n r hr t (by omega) htr))) (by decide))) (fun h27 => ?_)
      refine z_aload_n C dX6_active_30 rfl ?_
      refine z_get C (30) (Cn := RX6) (T := TX6) (N := 19) (fi := 17) iw_X6_active_6 rfl (by decide) ln_X6_active_44 (by first | decide | omega) rfl e30 rfl dX6_active_31 ?_
      refine z_iload C dX6_active_34 rfl ?_
      refine z_ialdG C (38) (by first | decide | omega) rfl s38 (Nat.lt_of_lt_of_le (Nat.mod_lt _ (Nat.pos_of_ne_zero h4)) (Nat.le_trans hl (by decide))) (by decide) dX6_active_36 ?_
      refine z_top (nI (dotc L0 (a + x))) (by rw [SP_d hsp (Nat.mod_lt _ (Nat.pos_of_ne_zero h4))]; rfl) ?_
      refine z_iload_n C dX6_active_37 rfl ?_
      refine z_aload_n C dX6_active_38 rfl ?_
      refine z_get C (30) (Cn := RX6) (T := TX6) (N := 19) (fi := 3) iw_X6_active_6 rfl (by decide) ln_X6_active_94 (by first | decide | omega) rfl e30 rfl dX6_active_39 ?_
      refine z_isub C dX6_active_42  ?_
      refine z_callSF C (k_has_n vl D cI cM A ad E hX (sub_n r hr t (by omega) htr)) (va_cwS 2 C.2.2.2.2.1 gX6_active_X6_has rfl rfl rfl (by decide +kernel) ⟨Nat.le_of_ble_eq_true rfl, Nat.le_of_ble_eq_true rfl⟩) rfl rfl (Nat.le_of_ble_eq_true rfl) ⟨Nat.zero_le _, Nat.zero_le _⟩ dX6_active_43 ?_
      refine z_if_eqN C 59 (by omega) dX6_active_46 (by decide) (fun h46 => ?_) (fun h46 => (by exfalso; omega))
      refine z_iconst C (nI (0)) dX6_active_59 (by decide) ?_
      exact hend _ _ _ dX6_active_60 (by unfold act; rw [if_neg (fun q => htr q.1)])
    · refine z_iconst C (nI (0)) dX6_active_7 (by decide) ?_
      exact hend _ _ _ dX6_active_8 (by rw [act_nil h4])

theorem act_le {L0 : List (Nat × Nat)} (hc : ∀ a, colc L0 a ≤ 3) (t r a : Nat) : act L0 t r a ≤ 3 := by
  unfold act
  split
  · exact hc a
  · omega
theorem iw_X6_loadAt_6 : ∀ w ∈ wsX60, w ∈ wsX6_loadAt := by decide +kernel
theorem ln_X6_loadAt_7 : Cond.fieldLink RX6 7 "MarqueeDisplayModel" "columns" "I" ∈ wsX6_loadAt := by decide +kernel
theorem ln_X6_loadAt_29 : Cond.fieldLink RX6 29 "MarqueeDisplayModel" "defective" "[I" ∈ wsX6_loadAt := by decide +kernel
set_option maxHeartbeats 4000000 in
set_option maxRecDepth 100000 in
theorem k_X6_loadAt (vl : Launch) (D : va_G) (cI cM : ClassId) (A : Nat → Prop) (ad : Nat → Nat) (E : Nat → va_E) (hX : XD A 40 ad) {W G S B off cnt t tl n : Nat} {df : Nat → Nat} {L0 : List (Nat × Nat)} {a : Nat} (e30 : E (30) = .inr (6, [.int (nI (W)), .int (nI (G)), .int (nI (S)), .int (shI (t)), .int (nI (B)), .int (nI (off)), .int (nI (cnt)), .ref (ad 31), .ref (ad 32), .ref (ad 33), .int (nI (tl)), .ref (ad 34), .int (nI (n)), .ref (ad 35), .ref (ad 36), .ref (ad 37), .int (nI (L0.length)), .ref (ad 38), .ref (ad 39)])) (hs : MS cI E L0) (hl : L0.length ≤ 552) (hd : ∀ a, dotc L0 a < 256) (ht : t ≤ 4) (e33 : E (33) = aI cI 32 df) (hdf : ∀ x, x < 32 → df x < 256) (hc : ∀ a, colc L0 a ≤ 3) (hz : ∀ a, colc L0 a = 0 → dotc L0 a = 0) (hW : W ≤ 32) (ha : a < 2 ^ 30) : MF vl yX6_loadAt wsX6_loadAt { frames := 2, cells := 0, slots := 0, locals := 45 } D cI cM A 40 ad E [.ref (ad 30), .int (nI (a))] (nI (ldS L0 t df W a)) := by
  refine mf_of cX6_loadAt 6 (.int) RX6 (by decide) rfl rfl (Nat.le_of_ble_eq_true rfl) (rfl) ?_
  intro vp ve vs vm va vb vt vc Q C hend
  refine z_lv [(0, .ref (ad 30)), (1, .int (nI (a)))] ⟨rfl, rfl, rfl, rfl, trivial⟩ ?_
  obtain ⟨sd, sc, s38, s39, hsp⟩ := id hs
  refine z_iconst C (nI (0)) dX6_loadAt_0 (by decide) ?_
  refine z_istore_n C [(0, .ref (ad 30)), (1, .int (nI (a))), (2, .int (nI (0)))] dX6_loadAt_1 (by decide) ⟨rfl, rfl, rfl, rfl, rfl, rfl, trivial⟩ ?_
  refine z_iconst C (nI (0)) dX6_loadAt_2 (by decide) ?_
  refine z_istore_n C [(0, .ref (ad 30)), (1, .int (nI (a))), (2, .int (nI (0))), (3, .int (nI (0)))] dX6_loadAt_3 (by decide) ⟨rfl, rfl, rfl, rfl, rfl, rfl, rfl, rfl, trivial⟩ ?_
  have loop4 : ∀ (fuel : Nat) (x : Nat), (hx : x ≤ W) → W - x < fuel → Z vp vl ve { frames := 2, cells := 0, slots := 0, locals := 45 } vs vm va vb vt vc 6 D A 40 ad E [(0, .ref (ad 30)), (1, .int (nI (a))), (2, .int (nI (sm (fun x => sm (lsum L0 t df a x) 8) x))), (3, .int (nI (x)))] 0 0 Q 4 [] := by
    intro fuel
    induction fuel with
    | zero => intro x hx hlt; exact absurd hlt (Nat.not_lt_zero _)
    | succ fuel ih =>
      intro x hx hlt
      have hs1 : sm (fun x => sm (lsum L0 t df a x) 8) x ≤ x * 16 := sm_le (fun k _ => sm_le (n := 8) (c := 2) (fun q _ => lsum_le L0 t df a k q))
      have ih4 := ih
      refine z_iload_n C dX6_loadAt_4 rfl ?_
      refine z_aload_n C dX6_loadAt_5 rfl ?_
      refine z_get C (30) (Cn := RX6) (T := TX6) (N := 19) (fi := 0) iw_X6_loadAt_6 rfl (by decide) ln_X6_loadAt_7 (by first | decide | omega) rfl e30 rfl dX6_loadAt_6 ?_
      refine z_icmp_geN C 85 (by omega) (by omega) dX6_loadAt_9 (by decide) (fun h9 => ?_) (fun h9 => ?_)
      · have hie : x = W := by omega
        refine z_iload_n C dX6_loadAt_85 rfl ?_
        exact hend _ _ _ dX6_loadAt_86 (by rw [hie]; congr 1; exact sm_cg (fun k hk => col_eq (hd _) (hc _) (hz _) ht (hdf k (by omega))))
      · refine z_iconst C (nI (0)) dX6_loadAt_12 (by decide) ?_
        refine z_istore C [(0, .ref (ad 30)), (1, .int (nI (a))), (2, .int (nI (sm (fun x => sm (lsum L0 t df a x) 8) x))), (3, .int (nI (x))), (4, .int (nI (0)))] dX6_loadAt_13 (by decide) ⟨rfl, rfl, rfl, rfl, rfl, rfl, rfl, rfl, rfl, rfl, trivial⟩ ?_
        have loop15 : ∀ (fuel : Nat) (r : Nat), (hr : r ≤ 8) → 8 - r < fuel → Z vp vl ve { frames := 2, cells := 0, slots := 0, locals := 45 } vs vm va vb vt vc 6 D A 40 ad E [(0, .ref (ad 30)), (1, .int (nI (a))), (2, .int (nI (sm (fun x => sm (lsum L0 t df a x) 8) x + sm (lsum L0 t df a x) r))), (3, .int (nI (x))), (4, .int (nI (r)))] 0 0 Q 15 [] := by
          intro fuel
          induction fuel with
          | zero => intro r hr hlt; exact absurd hlt (Nat.not_lt_zero _)
          | succ fuel ih =>
            intro r hr hlt
            have hs2 : sm (lsum L0 t df a x) r ≤ r * 2 := sm_le (fun k _ => lsum_le L0 t df a x k)
            have ih15 := ih
            refine z_iload C dX6_loadAt_15 rfl ?_
            refine z_bipush C (nI (8)) dX6_loadAt_17 (by decide) ?_
            refine z_icmp_geN C 79 (by omega) (by omega) dX6_loadAt_19 (by decide) (fun h19 => ?_) (fun h19 => ?_)
            · have hr8 : r = 8 := by omega
              refine z_iincN (j := 1) C [(0, .ref (ad 30)), (1, .int (nI (a))), (2, .int (nI (sm (fun x => sm (lsum L0 t df a x) 8) x + sm (lsum L0 t df a x) r))), (3, .int (nI (x + 1))), (4, .int (nI (r)))] dX6_loadAt_79 rfl (by decide) ⟨rfl, rfl, rfl, rfl, rfl, rfl, rfl, rfl, rfl, rfl, trivial⟩ ?_
              refine z_goto C 4 dX6_loadAt_82 (by decide) ?_
              refine z_lv [(0, .ref (ad 30)), (1, .int (nI (a))), (2, .int (nI (sm (fun x => sm (lsum L0 t df a x) 8) x + sm (lsum L0 t df a x) r))), (3, .int (nI (x + 1)))] ⟨rfl, rfl, rfl, rfl, rfl, rfl, rfl, rfl, trivial⟩ ?_
              have q := ih4 (x + 1) (by omega) (by omega)
              rw [sm] at q
              rw [hr8]
              exact q
            · refine z_aload_n C dX6_loadAt_22 rfl ?_
              refine z_get C (30) (Cn := RX6) (T := TX6) (N := 19) (fi := 9) iw_X6_loadAt_6 rfl (by decide) ln_X6_loadAt_29 (by first | decide | omega) rfl e30 rfl dX6_loadAt_23 ?_
              refine z_iload_n C dX6_loadAt_26 rfl ?_
              refine z_ialdG C (33) (by first | decide | omega) rfl e33 (by omega) (by decide) dX6_loadAt_27 ?_
              refine z_iload C dX6_loadAt_28 rfl ?_
              refine z_callSF C (k_has_p vl D cI cM A ad E hX (hdf x (by omega)) (by omega)) (va_cwS 2 C.2.2.2.2.1 gX6_loadAt_X6_has rfl rfl rfl (by decide +kernel) ⟨Nat.le_of_ble_eq_true rfl, Nat.le_of_ble_eq_true rfl⟩) rfl rfl (Nat.le_of_ble_eq_true rfl) ⟨Nat.zero_le _, Nat.zero_le _⟩ dX6_loadAt_30 ?_
              refine z_if_eqN C 40 (Nat.lt_of_le_of_lt (b1_le _ _) (by decide)) dX6_loadAt_33 (by decide) (fun h33 => ?_) (fun h33 => ?_)
              · refine z_aload_n C dX6_loadAt_40 rfl ?_
                refine z_iload C dX6_loadAt_41 rfl ?_
                refine z_iload_n C dX6_loadAt_43 rfl ?_
                refine z_iload_n C dX6_loadAt_44 rfl ?_
                refine z_callVF C (30) (Cn := RX6) (T := TX6) (N := 19) (k_X6_active vl D cI cM A ad E hX e30 hs hl hd ht (by omega) (by omega)) (cwV 3 C.2.2.2.2.1 gX6_loadAt_X6_active rfl rfl rfl (by decide +kernel) ⟨Nat.le_of_ble_eq_true rfl, Nat.le_of_ble_eq_true rfl⟩) rfl (by first | decide | omega) rfl e30 rfl rfl (Nat.le_of_ble_eq_true rfl) ⟨Nat.zero_le _, Nat.zero_le _⟩ dX6_loadAt_45 ?_
                refine z_istore C [(0, .ref (ad 30)), (1, .int (nI (a))), (2, .int (nI (sm (fun x => sm (lsum L0 t df a x) 8) x + sm (lsum L0 t df a x) r))), (3, .int (nI (x))), (4, .int (nI (r))), (5, .int (nI (act L0 t r (a + x))))] dX6_loadAt_48 (by decide) ⟨rfl, rfl, rfl, rfl, rfl, rfl, rfl, rfl, rfl, rfl, rfl, rfl, trivial⟩ ?_
                refine z_iload_n C dX6_loadAt_50 rfl ?_
                refine z_iload C dX6_loadAt_51 rfl ?_
                refine z_iconst C (nI (3)) dX6_loadAt_53 (by decide) ?_
                refine z_icmp_neN C 61 (by have := act_le hc t r (a + x); omega) (by omega) dX6_loadAt_54 (by decide) (fun h54 => ?_) (fun h54 => ?_)
                · refine z_iload C dX6_loadAt_61 rfl ?_
                  refine z_if_leN C 70 (by have := act_le hc t r (a + x); omega) dX6_loadAt_63 (by decide) (fun h63 => ?_) (fun h63 => ?_)
                  · refine z_iconst C (nI (0)) dX6_loadAt_70 (by decide) ?_
                    refine z_iaddN C  dX6_loadAt_71 ?_
                    refine z_istore_n C [(0, .ref (ad 30)), (1, .int (nI (a))), (2, .int (nI ((sm (fun x => sm (lsum L0 t df a x) 8) x + sm (lsum L0 t df a x) r) + 0))), (3, .int (nI (x))), (4, .int (nI (r))), (5, .int (nI (act L0 t r (a + x))))] dX6_loadAt_72 (by decide) ⟨rfl, rfl, rfl, rfl, rfl, rfl, rfl, rfl, rfl, rfl, rfl, rfl, trivial⟩ ?_
                    refine z_iincN (j := 1) C [(0, .ref (ad 30)), (1, .int (nI (a))), (2, .int (nI ((sm (fun x => sm (lsum L0 t df a x) 8) x + sm (lsum L0 t df a x) r) + 0))), (3, .int (nI (x))), (4, .int (nI (r + 1))), (5, .int (nI (act L0 t r (a + x))))] dX6_loadAt_73 rfl (by decide) ⟨rfl, rfl, rfl, rfl, rfl, rfl, rfl, rfl, rfl, rfl, rfl, rfl, trivial⟩ ?_
                    refine z_goto C 15 dX6_loadAt_76 (by decide) ?_
                    refine z_lv [(0, .ref (ad 30)), (1, .int (nI (a))), (2, .int (nI ((sm (fun x => sm (lsum L0 t df a x) 8) x + sm (lsum L0 t df a x) r) + 0))), (3, .int (nI (x))), (4, .int (nI (r + 1)))] ⟨rfl, rfl, rfl, rfl, rfl, rfl, rfl, rfl, rfl, rfl, trivial⟩ ?_
                    have q := ih15 (r + 1) (by omega) (by omega)
                    have e : sm (fun x => sm (lsum L0 t df a x) 8) x + sm (lsum L0 t df a x) (r + 1) = sm (fun x => sm (lsum L0 t df a x) 8) x + sm (lsum L0 t df a x) r + 0 := by
                      rw [sm, ← Nat.add_assoc]
                      have e2 : lsum L0 t df a x r = 0 := by unfold lsum wc; rw [if_neg (by omega), if_neg h54, if_neg (by omega)]
                      rw [e2]
                    rw [e] at q
                    exact q
                  · refine z_iconst C (nI (1)) dX6_loadAt_66 (by decide) ?_
                    refine z_goto C 71 dX6_loadAt_67 (by decide) ?_
                    refine z_iaddN C  dX6_loadAt_71 ?_
                    refine z_istore_n C [(0, .ref (ad 30)), (1, .int (nI (a))), (2, .int (nI ((sm (fun x => sm (lsum L0 t df a x) 8) x + sm (lsum L0 t df a x) r) + 1))), (3, .int (nI (x))), (4, .int (nI (r))), (5, .int (nI (act L0 t r (a + x))))] dX6_loadAt_72 (by decide) ⟨rfl, rfl, rfl, rfl, rfl, rfl, rfl, rfl, rfl, rfl, rfl, rfl, trivial⟩ ?_
                    refine z_iincN (j := 1) C [(0, .ref (ad 30)), (1, .int (nI (a))), (2, .int (nI ((sm (fun x => sm (lsum L0 t df a x) 8) x + sm (lsum L0 t df a x) r) + 1))), (3, .int (nI (x))), (4, .int (nI (r + 1))), (5, .int (nI (act L0 t r (a + x))))] dX6_loadAt_73 rfl (by decide) ⟨rfl, rfl, rfl, rfl, rfl, rfl, rfl, rfl, rfl, rfl, rfl, rfl, trivial⟩ ?_
                    refine z_goto C 15 dX6_loadAt_76 (by decide) ?_
                    refine z_lv [(0, .ref (ad 30)), (1, .int (nI (a))), (2, .int (nI ((sm (fun x => sm (lsum L0 t df a x) 8) x + sm (lsum L0 t df a x) r) + 1))), (3, .int (nI (x))), (4, .int (nI (r + 1)))] ⟨rfl, rfl, rfl, rfl, rfl, rfl, rfl, rfl, rfl, rfl, trivial⟩ ?_
                    have q := ih15 (r + 1) (by omega) (by omega)
                    have e : sm (fun x => sm (lsum L0 t df a x) 8) x + sm (lsum L0 t df a x) (r + 1) = sm (fun x => sm (lsum L0 t df a x) 8) x + sm (lsum L0 t df a x) r + 1 := by
                      rw [sm, ← Nat.add_assoc]
                      have e2 : lsum L0 t df a x r = 1 := by unfold lsum wc; rw [if_neg (by omega), if_neg h54, if_pos h63]
                      rw [e2]
                    rw [e] at q
                    exact q
                · refine z_iconst C (nI (2)) dX6_loadAt_57 (by decide) ?_
                  refine z_goto C 71 dX6_loadAt_58 (by decide) ?_
                  refine z_iaddN C  dX6_loadAt_71 ?_
                  refine z_istore_n C [(0, .ref (ad 30)), (1, .int (nI (a))), (2, .int (nI ((sm (fun x => sm (lsum L0 t df a x) 8) x + sm (lsum L0 t df a x) r) + 2))), (3, .int (nI (x))), (4, .int (nI (r))), (5, .int (nI (act L0 t r (a + x))))] dX6_loadAt_72 (by decide) ⟨rfl, rfl, rfl, rfl, rfl, rfl, rfl, rfl, rfl, rfl, rfl, rfl, trivial⟩ ?_
                  refine z_iincN (j := 1) C [(0, .ref (ad 30)), (1, .int (nI (a))), (2, .int (nI ((sm (fun x => sm (lsum L0 t df a x) 8) x + sm (lsum L0 t df a x) r) + 2))), (3, .int (nI (x))), (4, .int (nI (r + 1))), (5, .int (nI (act L0 t r (a + x))))] dX6_loadAt_73 rfl (by decide) ⟨rfl, rfl, rfl, rfl, rfl, rfl, rfl, rfl, rfl, rfl, rfl, rfl, trivial⟩ ?_
                  refine z_goto C 15 dX6_loadAt_76 (by decide) ?_
                  refine z_lv [(0, .ref (ad 30)), (1, .int (nI (a))), (2, .int (nI ((sm (fun x => sm (lsum L0 t df a x) 8) x + sm (lsum L0 t df a x) r) + 2))), (3, .int (nI (x))), (4, .int (nI (r + 1)))] ⟨rfl, rfl, rfl, rfl, rfl, rfl, rfl, rfl, rfl, rfl, trivial⟩ ?_
                  have q := ih15 (r + 1) (by omega) (by omega)
                  have e : sm (fun x => sm (lsum L0 t df a x) 8) x + sm (lsum L0 t df a x) (r + 1) = sm (fun x => sm (lsum L0 t df a x) 8) x + sm (lsum L0 t df a x) r + 2 := by
                    rw [sm, ← Nat.add_assoc]
                    have e2 : lsum L0 t df a x r = 2 := by unfold lsum wc; rw [if_neg (by omega), if_pos h54]
                    rw [e2]
                  rw [e] at q
                  exact q
              · refine z_iconst C (nI (0)) dX6_loadAt_36 (by decide) ?_
                refine z_goto C 48 dX6_loadAt_37 (by decide) ?_
                refine z_istore C [(0, .ref (ad 30)), (1, .int (nI (a))), (2, .int (nI (sm (fun x => sm (lsum L0 t df a x) 8) x + sm (lsum L0 t df a x) r))), (3, .int (nI (x))), (4, .int (nI (r))), (5, .int (nI (0)))] dX6_loadAt_48 (by decide) ⟨rfl, rfl, rfl, rfl, rfl, rfl, rfl, rfl, rfl, rfl, rfl, rfl, trivial⟩ ?_
                refine z_iload_n C dX6_loadAt_50 rfl ?_
                refine z_iload C dX6_loadAt_51 rfl ?_
                refine z_iconst C (nI (3)) dX6_loadAt_53 (by decide) ?_
                refine z_icmp_neN C 61 (by omega) (by omega) dX6_loadAt_54 (by decide) (fun h54 => ?_) (fun h54 => (by exfalso; omega))
                refine z_iload C dX6_loadAt_61 rfl ?_
                refine z_if_leN C 70 (by omega) dX6_loadAt_63 (by decide) (fun h63 => ?_) (fun h63 => (by exfalso; omega))
                refine z_iconst C (nI (0)) dX6_loadAt_70 (by decide) ?_
                refine z_iaddN C  dX6_loadAt_71 ?_
                refine z_istore_n C [(0, .ref (ad 30)), (1, .int (nI (a))), (2, .int (nI ((sm (fun x => sm (lsum L0 t df a x) 8) x + sm (lsum L0 t df a x) r) + 0))), (3, .int (nI (x))), (4, .int (nI (r))), (5, .int (nI (0)))] dX6_loadAt_72 (by decide) ⟨rfl, rfl, rfl, rfl, rfl, rfl, rfl, rfl, rfl, rfl, rfl, rfl, trivial⟩ ?_
                refine z_iincN (j := 1) C [(0, .ref (ad 30)), (1, .int (nI (a))), (2, .int (nI ((sm (fun x => sm (lsum L0 t df a x) 8) x + sm (lsum L0 t df a x) r) + 0))), (3, .int (nI (x))), (4, .int (nI (r + 1))), (5, .int (nI (0)))] dX6_loadAt_73 rfl (by decide) ⟨rfl, rfl, rfl, rfl, rfl, rfl, rfl, rfl, rfl, rfl, rfl, rfl, trivial⟩ ?_
                refine z_goto C 15 dX6_loadAt_76 (by decide) ?_
                refine z_lv [(0, .ref (ad 30)), (1, .int (nI (a))), (2, .int (nI ((sm (fun x => sm (lsum L0 t df a x) 8) x + sm (lsum L0 t df a x) r) + 0))), (3, .int (nI (x))), (4, .int (nI (r + 1)))] ⟨rfl, rfl, rfl, rfl, rfl, rfl, rfl, rfl, rfl, rfl, trivial⟩ ?_
                have q := ih15 (r + 1) (by omega) (by omega)
                have e : sm (fun x => sm (lsum L0 t df a x) 8) x + sm (lsum L0 t df a x) (r + 1) = sm (fun x => sm (lsum L0 t df a x) 8) x + sm (lsum L0 t df a x) r + 0 := by
                  rw [sm, ← Nat.add_assoc]
                  have e2 : lsum L0 t df a x r = 0 := by unfold lsum; rw [if_pos (by have := b1_le (df x) r; omega)]
                  rw [e2]
                rw [e] at q
                exact q
        refine z_lv [(0, .ref (ad 30)), (1, .int (nI (a))), (2, .int (nI (sm (fun x => sm (lsum L0 t df a x) 8) x))), (3, .int (nI (x))), (4, .int (nI (0)))] ⟨rfl, rfl, rfl, rfl, rfl, rfl, rfl, rfl, rfl, rfl, trivial⟩ ?_
        exact loop15 (9) 0 (Nat.zero_le _) (by omega)
  refine z_lv [(0, .ref (ad 30)), (1, .int (nI (a))), (2, .int (nI (0))), (3, .int (nI (0)))] ⟨rfl, rfl, rfl, rfl, rfl, rfl, rfl, rfl, trivial⟩ ?_
  exact loop4 (W + 1) 0 (Nat.zero_le _) (by omega)

theorem cp_1 {lt lt2 : Nat → Nat} {i j p : Nat} (h1 : ∀ q : Nat, q < p → lt2 (12 * j + q) = lt (12 * i + q)) (e : lt2 (12 * i + p) = lt (12 * i + p)) : ∀ q : Nat, q < p + 1 → va_up lt2 (12 * j + p) (lt2 (12 * i + p)) (12 * j + q) = lt (12 * i + q) := by
  intro q hq
  by_cases h : q = p
  · subst h; rw [va_up_self, e]
  · rw [va_up_ne _ _ (by omega)]; exact h1 q (by omega)
theorem cp_2 {lt lt2 : Nat → Nat} {j p v : Nat} (h2 : ∀ u : Nat, (u / 12 ≠ j ∨ 12 * j + p ≤ u) → lt2 u = lt u) : ∀ u : Nat, (u / 12 ≠ j ∨ 12 * j + (p + 1) ≤ u) → p < 12 → va_up lt2 (12 * j + p) v u = lt u := by
  intro u hu hp
  rw [va_up_ne _ _ (by omega)]
  exact h2 u (by omega)
theorem iw_X6_copies_6 : ∀ w ∈ wsX60, w ∈ wsX6_copies := by decide +kernel
theorem ln_X6_copies_35 : Cond.fieldLink RX6 35 "MarqueeDisplayModel" "size" "[I" ∈ wsX6_copies := by decide +kernel
theorem ln_X6_copies_38 : Cond.fieldLink RX6 38 "MarqueeDisplayModel" "color" "[I" ∈ wsX6_copies := by decide +kernel
theorem ln_X6_copies_41 : Cond.fieldLink RX6 41 "MarqueeDisplayModel" "letter" "[I" ∈ wsX6_copies := by decide +kernel
set_option maxHeartbeats 4000000 in
set_option maxRecDepth 100000 in
theorem k_X6_copies (vl : Launch) (D : va_G) (cI cM : ClassId) (A : Nat → Prop) (ad : Nat → Nat) (E : Nat → va_E) (hX : XD A 40 ad) {W G S B off cnt t tl n sp : Nat} {sz co lt : Nat → Nat} {i j : Nat} (e30 : E (30) = .inr (6, [.int (nI (W)), .int (nI (G)), .int (nI (S)), .int (shI (t)), .int (nI (B)), .int (nI (off)), .int (nI (cnt)), .ref (ad 31), .ref (ad 32), .ref (ad 33), .int (nI (tl)), .ref (ad 34), .int (nI (n)), .ref (ad 35), .ref (ad 36), .ref (ad 37), .int (nI (sp)), .ref (ad 38), .ref (ad 39)])) (e35 : E (35) = aI cI 6 sz) (e36 : E (36) = aI cI 6 co) (e37 : E (37) = aI cI 72 lt) (hi : i < 6) (hj : j < 6) (hij : i ≠ j) : MV vl yX6_copies wsX6_copies { frames := 0, cells := 0, slots := 0, locals := 0 } D cI cM A 40 ad E [.ref (ad 30), .int (nI (i)), .int (nI (j))] (fun E1 => E1 35 = aI cI 6 (va_up sz j (sz i)) ∧ E1 36 = aI cI 6 (va_up co j (co i)) ∧ (∃ lt2 : Nat → Nat, E1 37 = aI cI 72 lt2 ∧ (∀ q : Nat, q < 12 → lt2 (12 * j + q) = lt (12 * i + q)) ∧ ∀ u : Nat, u / 12 ≠ j → lt2 u = lt u) ∧ ∀ k : Nat, (k ≠ 35 ∧ k ≠ 36 ∧ k ≠ 37) → E1 k = E k) := by
  refine mv_of cX6_copies 4 RX6 (by decide) rfl rfl (Nat.le_of_ble_eq_true rfl) ?_
  intro vp ve vs vm va vb vt vc Q C hend
  refine z_lv [(0, .ref (ad 30)), (1, .int (nI (i))), (2, .int (nI (j)))] ⟨rfl, rfl, rfl, rfl, rfl, rfl, trivial⟩ ?_
  refine z_aload_n C dX6_copies_0 rfl ?_
  refine z_get C (30) (Cn := RX6) (T := TX6) (N := 19) (fi := 13) iw_X6_copies_6 rfl (by decide) ln_X6_copies_35 (by first | decide | omega) rfl e30 rfl dX6_copies_1 ?_
  refine z_iload_n C dX6_copies_4 rfl ?_
  refine z_aload_n C dX6_copies_5 rfl ?_
  refine z_get C (30) (Cn := RX6) (T := TX6) (N := 19) (fi := 13) iw_X6_copies_6 rfl (by decide) ln_X6_copies_35 (by first | decide | omega) rfl e30 rfl dX6_copies_6 ?_
  refine z_iload_n C dX6_copies_9 rfl ?_
  refine z_ialdG C (35) (by first | decide | omega) rfl e35 (by omega) (by decide) dX6_copies_10 ?_
  refine z_iastG C (35) hX (by first | decide | omega) rfl e35 (by omega) (by decide) dX6_copies_11 (fun Ez2 hE1 => ?_)
  have f3 : Ez2 (30) = .inr (6, [.int (nI (W)), .int (nI (G)), .int (nI (S)), .int (shI (t)), .int (nI (B)), .int (nI (off)), .int (nI (cnt)), .ref (ad 31), .ref (ad 32), .ref (ad 33), .int (nI (tl)), .ref (ad 34), .int (nI (n)), .ref (ad 35), .ref (ad 36), .ref (ad 37), .int (nI (sp)), .ref (ad 38), .ref (ad 39)]) := va_up_of hE1 (by first | decide | omega) e30
  have f5 : Ez2 (36) = aI cI 6 co := va_up_of hE1 (by first | decide | omega) e36
  have f6 : Ez2 (37) = aI cI 72 lt := va_up_of hE1 (by first | decide | omega) e37
  have f7 : Ez2 (35) = aI cI 6 (va_up sz (j) (sz (i))) := va_up_eq hE1
  have g8 : ∀ k : Nat, (k ≠ 35 ∧ k ≠ 36 ∧ k ≠ 37) → Ez2 k = E k := fun k hk => va_up_of hE1 (by omega) ((fun _ _ => rfl) k hk)
  refine z_aload_n C dX6_copies_12 rfl ?_
  refine z_get C (30) (Cn := RX6) (T := TX6) (N := 19) (fi := 14) iw_X6_copies_6 rfl (by decide) ln_X6_copies_38 (by first | decide | omega) rfl f3 rfl dX6_copies_13 ?_
  refine z_iload_n C dX6_copies_16 rfl ?_
  refine z_aload_n C dX6_copies_17 rfl ?_
  refine z_get C (30) (Cn := RX6) (T := TX6) (N := 19) (fi := 14) iw_X6_copies_6 rfl (by decide) ln_X6_copies_38 (by first | decide | omega) rfl f3 rfl dX6_copies_18 ?_
  refine z_iload_n C dX6_copies_21 rfl ?_
  refine z_ialdG C (36) (by first | decide | omega) rfl f5 (by omega) (by decide) dX6_copies_22 ?_
  refine z_iastG C (36) hX (by first | decide | omega) rfl f5 (by omega) (by decide) dX6_copies_23 (fun Ez10 hE9 => ?_)
  have f11 : Ez10 (30) = .inr (6, [.int (nI (W)), .int (nI (G)), .int (nI (S)), .int (shI (t)), .int (nI (B)), .int (nI (off)), .int (nI (cnt)), .ref (ad 31), .ref (ad 32), .ref (ad 33), .int (nI (tl)), .ref (ad 34), .int (nI (n)), .ref (ad 35), .ref (ad 36), .ref (ad 37), .int (nI (sp)), .ref (ad 38), .ref (ad 39)]) := va_up_of hE9 (by first | decide | omega) f3
  have f13 : Ez10 (37) = aI cI 72 lt := va_up_of hE9 (by first | decide | omega) f6
  have f14 : Ez10 (35) = aI cI 6 (va_up sz (j) (sz (i))) := va_up_of hE9 (by first | decide | omega) f7
  have f15 : Ez10 (36) = aI cI 6 (va_up co (j) (co (i))) := va_up_eq hE9
  have g16 : ∀ k : Nat, (k ≠ 35 ∧ k ≠ 36 ∧ k ≠ 37) → Ez10 k = E k := fun k hk => va_up_of hE9 (by omega) (g8 k hk)
  refine z_iconst C (nI (0)) dX6_copies_24 (by decide) ?_
  refine z_istore_n C [(0, .ref (ad 30)), (1, .int (nI (i))), (2, .int (nI (j))), (3, .int (nI (0)))] dX6_copies_25 (by decide) ⟨rfl, rfl, rfl, rfl, rfl, rfl, rfl, rfl, trivial⟩ ?_
  have loop26 : ∀ (fuel : Nat) (p : Nat) (E2 : Nat → va_E) (lt2 : Nat → Nat), (hp : p ≤ 12) → (hq1 : ∀ q : Nat, q < p → lt2 (12 * j + q) = lt (12 * i + q)) → (hq2 : ∀ u : Nat, (u / 12 ≠ j ∨ 12 * j + p ≤ u) → lt2 u = lt u) → (q30 : E2 (30) = .inr (6, [.int (nI (W)), .int (nI (G)), .int (nI (S)), .int (shI (t)), .int (nI (B)), .int (nI (off)), .int (nI (cnt)), .ref (ad 31), .ref (ad 32), .ref (ad 33), .int (nI (tl)), .ref (ad 34), .int (nI (n)), .ref (ad 35), .ref (ad 36), .ref (ad 37), .int (nI (sp)), .ref (ad 38), .ref (ad 39)])) → (q35 : E2 (35) = aI cI 6 (va_up sz j (sz i))) → (q36 : E2 (36) = aI cI 6 (va_up co j (co i))) → (q37 : E2 (37) = aI cI 72 lt2) → (qf : ∀ k : Nat, (k ≠ 35 ∧ k ≠ 36 ∧ k ≠ 37) → E2 k = E k) → 12 - p < fuel → Z vp vl ve { frames := 0, cells := 0, slots := 0, locals := 0 } vs vm va vb vt vc 4 D A 40 ad E2 [(0, .ref (ad 30)), (1, .int (nI (i))), (2, .int (nI (j))), (3, .int (nI (p)))] 0 0 Q 26 [] := by
    intro fuel
    induction fuel with
    | zero => intro p E2 lt2 hp hq1 hq2 q30 q35 q36 q37 qf hlt; exact absurd hlt (Nat.not_lt_zero _)
    | succ fuel ih =>
      intro p E2 lt2 hp hq1 hq2 q30 q35 q36 q37 qf hlt
      have ih26 := ih
      refine z_iload_n C dX6_copies_26 rfl ?_
      refine z_bipush C (nI (12)) dX6_copies_27 (by decide) ?_
      refine z_icmp_geN C 60 (by omega) (by omega) dX6_copies_29 (by decide) (fun h29 => ?_) (fun h29 => ?_)
      · have hp12 : p = 12 := by omega
        exact hend _ _ _ dX6_copies_60 (⟨q35, q36, ⟨lt2, q37, fun q hq => hq1 q (by omega), fun u hu => hq2 u (Or.inl hu)⟩, qf⟩)
      · refine z_aload_n C dX6_copies_32 rfl ?_
        refine z_get C (30) (Cn := RX6) (T := TX6) (N := 19) (fi := 15) iw_X6_copies_6 rfl (by decide) ln_X6_copies_41 (by first | decide | omega) rfl q30 rfl dX6_copies_33 ?_
        refine z_bipush C (nI (12)) dX6_copies_36 (by decide) ?_
        refine z_iload_n C dX6_copies_38 rfl ?_
        refine z_imulN C  dX6_copies_39 ?_
        refine z_iload_n C dX6_copies_40 rfl ?_
        refine z_iaddN C  dX6_copies_41 ?_
        refine z_aload_n C dX6_copies_42 rfl ?_
        refine z_get C (30) (Cn := RX6) (T := TX6) (N := 19) (fi := 15) iw_X6_copies_6 rfl (by decide) ln_X6_copies_41 (by first | decide | omega) rfl q30 rfl dX6_copies_43 ?_
        refine z_bipush C (nI (12)) dX6_copies_46 (by decide) ?_
        refine z_iload_n C dX6_copies_48 rfl ?_
        refine z_imulN C  dX6_copies_49 ?_
        refine z_iload_n C dX6_copies_50 rfl ?_
        refine z_iaddN C  dX6_copies_51 ?_
        refine z_ialdG C (37) (by first | decide | omega) rfl q37 (by omega) (by decide) dX6_copies_52 ?_
        refine z_iastG C (37) hX (by first | decide | omega) rfl q37 (by omega) (by decide) dX6_copies_53 (fun Ez18 hE17 => ?_)
        have f19 : Ez18 (30) = .inr (6, [.int (nI (W)), .int (nI (G)), .int (nI (S)), .int (shI (t)), .int (nI (B)), .int (nI (off)), .int (nI (cnt)), .ref (ad 31), .ref (ad 32), .ref (ad 33), .int (nI (tl)), .ref (ad 34), .int (nI (n)), .ref (ad 35), .ref (ad 36), .ref (ad 37), .int (nI (sp)), .ref (ad 38), .ref (ad 39)]) := va_up_of hE17 (by first | decide | omega) q30
        have f20 : Ez18 (35) = aI cI 6 (va_up sz j (sz i)) := va_up_of hE17 (by first | decide | omega) q35
        have f21 : Ez18 (36) = aI cI 6 (va_up co j (co i)) := va_up_of hE17 (by first | decide | omega) q36
        have f23 : Ez18 (37) = aI cI 72 (va_up lt2 ((12 * j) + p) (lt2 ((12 * i) + p))) := va_up_eq hE17
        have g24 : ∀ k : Nat, (k ≠ 35 ∧ k ≠ 36 ∧ k ≠ 37) → Ez18 k = E k := fun k hk => va_up_of hE17 (by omega) (qf k hk)
        refine z_iincN (j := 1) C [(0, .ref (ad 30)), (1, .int (nI (i))), (2, .int (nI (j))), (3, .int (nI (p + 1)))] dX6_copies_54 rfl (by decide) ⟨rfl, rfl, rfl, rfl, rfl, rfl, rfl, rfl, trivial⟩ ?_
        refine z_goto C 26 dX6_copies_57 (by decide) ?_
        refine z_lv [(0, .ref (ad 30)), (1, .int (nI (i))), (2, .int (nI (j))), (3, .int (nI (p + 1)))] ⟨rfl, rfl, rfl, rfl, rfl, rfl, rfl, rfl, trivial⟩ ?_
        exact ih26 (p + 1) Ez18 (va_up lt2 (12 * j + p) (lt2 (12 * i + p))) (by omega) (cp_1 hq1 (hq2 _ (by omega))) (fun u hu => cp_2 hq2 u hu h29) f19 f20 f21 f23 g24 (by omega)
  refine z_lv [(0, .ref (ad 30)), (1, .int (nI (i))), (2, .int (nI (j))), (3, .int (nI (0)))] ⟨rfl, rfl, rfl, rfl, rfl, rfl, rfl, rfl, trivial⟩ ?_
  exact loop26 (13) 0 Ez10 lt (Nat.zero_le _) (fun q hq => absurd hq (Nat.not_lt_zero _)) (fun _ _ => rfl) f11 f14 f15 f13 g16 (by omega)

theorem iw_X6_isMessage_6 : ∀ w ∈ wsX60, w ∈ wsX6_isMessage := by decide +kernel
theorem ln_X6_isMessage_54 : Cond.fieldLink RX6 54 "MarqueeDisplayModel" "messages" "I" ∈ wsX6_isMessage := by decide +kernel
set_option maxHeartbeats 4000000 in
set_option maxRecDepth 100000 in
theorem k_isMsg_y (vl : Launch) (D : va_G) (cI cM : ClassId) (A : Nat → Prop) (ad : Nat → Nat) (E : Nat → va_E) (hX : XD A 40 ad) {W G S B off cnt t tl n sp : Nat} {j : Nat} (e30 : E (30) = .inr (6, [.int (nI (W)), .int (nI (G)), .int (nI (S)), .int (shI (t)), .int (nI (B)), .int (nI (off)), .int (nI (cnt)), .ref (ad 31), .ref (ad 32), .ref (ad 33), .int (nI (tl)), .ref (ad 34), .int (nI (n)), .ref (ad 35), .ref (ad 36), .ref (ad 37), .int (nI (sp)), .ref (ad 38), .ref (ad 39)])) (hj : j < n) (hn : n ≤ 6) : MF vl yX6_isMessage wsX6_isMessage { frames := 1, cells := 0, slots := 0, locals := 22 } D cI cM A 40 ad E [.ref (ad 30), .int (nI (j))] (nI 1) := by
  refine mf_of cX6_isMessage 2 (.boolean) RX6 (by decide) rfl rfl (Nat.le_of_ble_eq_true rfl) (rfl) ?_
  intro vp ve vs vm va vb vt vc Q C hend
  refine z_lv [(0, .ref (ad 30)), (1, .int (nI (j)))] ⟨rfl, rfl, rfl, rfl, trivial⟩ ?_
  refine z_iload_n C dX6_isMessage_0 rfl ?_
  refine z_iconst C (nI (0)) dX6_isMessage_1 (by decide) ?_
  refine z_aload_n C dX6_isMessage_2 rfl ?_
  refine z_get C (30) (Cn := RX6) (T := TX6) (N := 19) (fi := 12) iw_X6_isMessage_6 rfl (by decide) ln_X6_isMessage_54 (by first | decide | omega) rfl e30 rfl dX6_isMessage_3 ?_
  refine z_iconst C (nI (1)) dX6_isMessage_6 (by decide) ?_
  refine z_isub C dX6_isMessage_7  ?_
  refine z_callSF C (k_X6_in vl D cI cM A ad E hX (nI (j)) (nI (0)) ((nI (n)) - (nI (1)))) (va_cwS 3 C.2.2.2.2.1 gX6_isMessage_X6_in rfl rfl rfl (by decide +kernel) ⟨Nat.le_of_ble_eq_true rfl, Nat.le_of_ble_eq_true rfl⟩) rfl rfl (Nat.le_of_ble_eq_true rfl) ⟨Nat.zero_le _, Nat.zero_le _⟩ dX6_isMessage_8 ?_
  refine z_top (nI (1)) (im_y hj (by omega)) ?_
  exact hend _ _ _ dX6_isMessage_11 (rfl)

set_option maxHeartbeats 4000000 in
set_option maxRecDepth 100000 in
theorem k_isMsg_n (vl : Launch) (D : va_G) (cI cM : ClassId) (A : Nat → Prop) (ad : Nat → Nat) (E : Nat → va_E) (hX : XD A 40 ad) {W G S B off cnt t tl n sp : Nat} {x : Int32} (e30 : E (30) = .inr (6, [.int (nI (W)), .int (nI (G)), .int (nI (S)), .int (shI (t)), .int (nI (B)), .int (nI (off)), .int (nI (cnt)), .ref (ad 31), .ref (ad 32), .ref (ad 33), .int (nI (tl)), .ref (ad 34), .int (nI (n)), .ref (ad 35), .ref (ad 36), .ref (ad 37), .int (nI (sp)), .ref (ad 38), .ref (ad 39)])) (hx : ¬ ∃ j : Nat, j < n ∧ x = nI j) (hn : n ≤ 6) : MF vl yX6_isMessage wsX6_isMessage { frames := 1, cells := 0, slots := 0, locals := 22 } D cI cM A 40 ad E [.ref (ad 30), .int (x)] (nI 0) := by
  refine mf_of cX6_isMessage 2 (.boolean) RX6 (by decide) rfl rfl (Nat.le_of_ble_eq_true rfl) (rfl) ?_
  intro vp ve vs vm va vb vt vc Q C hend
  refine z_lv [(0, .ref (ad 30)), (1, .int (x))] ⟨rfl, rfl, rfl, rfl, trivial⟩ ?_
  refine z_iload_n C dX6_isMessage_0 rfl ?_
  refine z_iconst C (nI (0)) dX6_isMessage_1 (by decide) ?_
  refine z_aload_n C dX6_isMessage_2 rfl ?_
  refine z_get C (30) (Cn := RX6) (T := TX6) (N := 19) (fi := 12) iw_X6_isMessage_6 rfl (by decide) ln_X6_isMessage_54 (by first | decide | omega) rfl e30 rfl dX6_isMessage_3 ?_
  refine z_iconst C (nI (1)) dX6_isMessage_6 (by decide) ?_
  refine z_isub C dX6_isMessage_7  ?_
  refine z_callSF C (k_X6_in vl D cI cM A ad E hX (x) (nI (0)) ((nI (n)) - (nI (1)))) (va_cwS 3 C.2.2.2.2.1 gX6_isMessage_X6_in rfl rfl rfl (by decide +kernel) ⟨Nat.le_of_ble_eq_true rfl, Nat.le_of_ble_eq_true rfl⟩) rfl rfl (Nat.le_of_ble_eq_true rfl) ⟨Nat.zero_le _, Nat.zero_le _⟩ dX6_isMessage_8 ?_
  refine z_top (nI (0)) (im_n (by omega) hx) ?_
  exact hend _ _ _ dX6_isMessage_11 (rfl)

