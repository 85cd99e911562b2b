def mx (f : Nat → Nat) : Nat → Nat
  | 0 => 0
  | i + 1 => if mx f i < f i then f i else mx f i
theorem mx_le {f : Nat → Nat} {b : Nat} (h : ∀ k, f k ≤ b) : ∀ i, mx f i ≤ b
  | 0 => Nat.zero_le _
  | i + 1 => by
    rw [mx]
    split
    · exact h i
    · exact mx_le h i
theorem mx_ge (f : Nat → Nat) {k : Nat} : ∀ i, k < i → f k ≤ mx f i
  | 0, h => absurd h (Nat.not_lt_zero k)
  | i + 1, h => by
    rw [mx]
    by_cases e : k = i
    · subst e; split <;> omega
    · have := mx_ge f i (k := k) (by omega)
      split <;> omega
theorem hv_mx (f : Nat → Nat) : ∀ i, 0 < i → f (hv f i) = mx f i ∧ hv f i < i ∧ ∀ k, k < hv f i → f k < mx f i
  | 0, h => absurd h (Nat.lt_irrefl _)
  | i + 1, _ => by
    by_cases h0 : i = 0
    · subst h0
      refine ⟨?_, by show (0 : Nat) < 1; decide, fun k hk => absurd hk (Nat.not_lt_zero k)⟩
      show f 0 = if 0 < f 0 then f 0 else 0
      split <;> omega
    · obtain ⟨h1, h2, h3⟩ := hv_mx f i (by omega)
      have e1 : hv f (i + 1) = if f (hv f i) < f i then i else hv f i := by rw [hv, if_neg h0]
      have e2 : mx f (i + 1) = if mx f i < f i then f i else mx f i := rfl
      rw [e1, e2, h1]
      by_cases h4 : mx f i < f i
      · rw [if_pos h4, if_pos h4]
        exact ⟨rfl, by omega, fun k hk => Nat.lt_of_le_of_lt (mx_ge f i hk) h4⟩
      · rw [if_neg h4, if_neg h4]
        exact ⟨h1, by omega, h3⟩
theorem ld_nil {M : St} (h : LM M = 0) (a : Nat) : ldM M a = 0 := by
  unfold ldM ldS
  rw [L0nil ((strip_len M).trans h)]
  have e : ∀ x, colS [] (M 0 8) (M 3) a x = 0 := fun x => by
    unfold colS
    have h0 : dotc [] (a + x) = 0 := rfl
    have h1 : lit 0 (M 0 8) (M 3 x) = 0 := by
      have h2 : sft 0 (M 0 8) = 0 := by unfold sft; split <;> simp
      unfold lit
      rw [h2, Nat.zero_and]
    rw [h0, h1]
    have h2 : pc8 0 = 0 := by decide
    rw [h2, Nat.mul_zero]
  have h2 : sm (colS [] (M 0 8) (M 3) a) (M 0 0) ≤ (M 0 0) * 0 := sm_le (fun k _ => Nat.le_of_eq (e k))
  omega
theorem pk_e (M : St) : mx (ldM M) (LM M) = ldM M (hv (ldM M) (LM M)) := by
  by_cases h : LM M = 0
  · rw [ld_nil h, h]; rfl
  · exact (hv_mx (ldM M) (LM M) (by omega)).1.symm
def DrawnM (cI : ClassId) (ad : Nat → Nat) (M : St) (E : Nat → va_E) : Prop := E 30 = modE ad M (stripM M).length ∧ MS cI E (stripM M) ∧ E 33 = aI cI 32 (M 3)
theorem iw_X6_peakLoad_6 : ∀ w ∈ wsX60, w ∈ wsX6_peakLoad := by decide +kernel
theorem ln_X6_peakLoad_67 : Cond.fieldLink RX6 67 "MarqueeDisplayModel" "strip" "I" ∈ wsX6_peakLoad := by decide +kernel
set_option maxHeartbeats 4000000 in
set_option maxRecDepth 100000 in
theorem k_X6_peakLoad (vl : Launch) (D : va_G) (cI cM : ClassId) (A : Nat → Prop) (ad : Nat → Nat) (E : Nat → va_E) (hX : XD A 40 ad) {M : St} (hI : Inv M) (hR : RelM cI ad M E) : MI vl yX6_peakLoad wsX6_peakLoad { frames := 3, cells := 0, slots := 0, locals := 70 } D cI cM A 40 ad E [.ref (ad 30)] (fun r E1 => r = o_peakLoad M ∧ (RelM cI ad M E1 ∧ DrawnM cI ad M E1) ∧ ∀ k : Nat, (k < 30) → E1 k = E k) := by
  refine mi_of cX6_peakLoad 4 (.int) RX6 (by decide) rfl rfl (Nat.le_of_ble_eq_true rfl) (fun r E1 h => rfl) ?_
  intro vp ve vs vm va vb vt vc Q C hend
  refine z_lv [(0, .ref (ad 30))] ⟨rfl, rfl, trivial⟩ ?_
  obtain ⟨gl, sz, co, lt, sp, e30, e31, e32, e33, e34, e35, e36, e37, hms, hn6, hgl, hrel⟩ := id hR
  obtain ⟨⟨iW1, iW2⟩, iG, ⟨iS1, iS2⟩, ⟨iB1, iB2⟩, iO, iC, iT, iN, iSh, iWd, iDt, iZ, iDf, iDz, iTx, iMs⟩ := id hI.1
  have hLM := hI.1.LM_le
  have hsl := hI.1.slen
  have hww := hI.1.ws
  have hld : ∀ a, ldM M a ≤ 512 := fun a => Nat.le_trans (ldS_le _ _ _ _ _) (by omega)
  have hl4 := hld (M 0 4)
  have hsz : ∀ i, i < M 0 7 → (1 ≤ sz i ∧ sz i ≤ 12) ∧ ∀ k, k < sz i → ltr lt i k < 27 := fun i hi => by
    obtain ⟨h1, h2, h3⟩ := hrel i hi
    have h4 := iMs i hi
    rw [h1]
    exact ⟨h4.1, fun k hk => by rw [h3 k hk]; exact h4.2.2 k hk⟩
  have hLe : sL (M 1) (M 0 1) sz (ltr lt) (M 0 7) = LM M := sL_cg (fun i hi => ⟨(hrel i hi).1, fun k hk => (hrel i hi).2.2 k (by rw [← (hrel i hi).1]; exact hk)⟩)
  have hst : scols (M 1) (M 2) (M 0 1) sz co (ltr lt) (M 0 7) = stripM M := scols_cg (fun i hi => ⟨(hrel i hi).1, (hrel i hi).2.1, fun k hk => (hrel i hi).2.2 k (by rw [← (hrel i hi).1]; exact hk)⟩)
  refine z_aload_n C dX6_peakLoad_0 rfl ?_
  refine z_callVV C (30) (Cn := RX6) (T := TX6) (N := 19) (k_X6_draws vl D cI cM A ad E hX e30 e31 e35 e37 e32 e36 hn6 hsz hww iG hgl hms) (cwV 0 C.2.2.2.2.1 gX6_peakLoad_X6_draws rfl rfl rfl (by decide +kernel) ⟨Nat.le_of_ble_eq_true rfl, Nat.le_of_ble_eq_true rfl⟩) rfl (by first | decide | omega) rfl e30 rfl rfl (Nat.le_of_ble_eq_true rfl) ⟨Nat.zero_le _, Nat.zero_le _⟩ dX6_peakLoad_1 (fun Ez1 hp2 => ?_)
  obtain ⟨v30, vs1, hg⟩ := hp2
  rw [hLe, ← strip_len] at v30
  rw [hst] at vs1
  have f3 : Ez1 (31) = aI cI 27 (M 1) := (hg (31) (by omega)).trans e31
  have f4 : Ez1 (32) = aI cI 162 gl := (hg (32) (by omega)).trans e32
  have f5 : Ez1 (33) = aI cI 32 (M 3) := (hg (33) (by omega)).trans e33
  have f6 : Ez1 (34) = aI cI 12 (M 4) := (hg (34) (by omega)).trans e34
  have f7 : Ez1 (35) = aI cI 6 sz := (hg (35) (by omega)).trans e35
  have f8 : Ez1 (36) = aI cI 6 co := (hg (36) (by omega)).trans e36
  have f9 : Ez1 (37) = aI cI 72 lt := (hg (37) (by omega)).trans e37
  have g10 : ∀ k : Nat, (k < 30) → Ez1 k = E k := fun k hk => (hg k (by omega)).trans ((fun _ _ => rfl) k hk)
  have hR1 : RelM cI ad M Ez1 := ⟨gl, sz, co, lt, _, v30, f3, f4, f5, f6, f7, f8, f9, vs1.nil, hn6, hgl, hrel⟩
  have hfE : ∀ k : Nat, (k < 30) → Ez1 k = E k := g10
  refine z_iconst C (nI (0)) dX6_peakLoad_4 (by decide) ?_
  refine z_istore_n C [(0, .ref (ad 30)), (1, .int (nI (0)))] dX6_peakLoad_5 (by decide) ⟨rfl, rfl, rfl, rfl, trivial⟩ ?_
  refine z_iconst C (nI (0)) dX6_peakLoad_6 (by decide) ?_
  refine z_istore_n C [(0, .ref (ad 30)), (1, .int (nI (0))), (2, .int (nI (0)))] dX6_peakLoad_7 (by decide) ⟨rfl, rfl, rfl, rfl, rfl, rfl, trivial⟩ ?_
  have loop8 : ∀ (fuel : Nat) (i : Nat), (hi : i ≤ (stripM M).length) → (stripM M).length - i < fuel → Z vp vl ve { frames := 3, cells := 0, slots := 0, locals := 70 } vs vm va vb vt vc 4 D A 40 ad Ez1 [(0, .ref (ad 30)), (1, .int (nI (mx (ldM M) i))), (2, .int (nI (i)))] 0 0 Q 8 [] := by
    intro fuel
    induction fuel with
    | zero => intro i hi hlt; exact absurd hlt (Nat.not_lt_zero _)
    | succ fuel ih =>
      intro i hi hlt
      have hm5 := mx_le hld i
      have ih8 := ih
      refine z_iload_n C dX6_peakLoad_8 rfl ?_
      refine z_aload_n C dX6_peakLoad_9 rfl ?_
      refine z_get C (30) (Cn := RX6) (T := TX6) (N := 19) (fi := 16) iw_X6_peakLoad_6 rfl (by decide) ln_X6_peakLoad_67 (by first | decide | omega) rfl v30 rfl dX6_peakLoad_10 ?_
      refine z_icmp_geN C 39 (by omega) (by omega) dX6_peakLoad_13 (by decide) (fun h13 => ?_) (fun h13 => ?_)
      · have hie : i = (stripM M).length := by omega
        refine z_iload_n C dX6_peakLoad_39 rfl ?_
        exact hend _ _ _ _ dX6_peakLoad_40 (⟨by rw [hie, strip_len, pk_e]; rfl, ⟨hR1, v30, vs1, f5⟩, hfE⟩)
      · have hli := hld i
        refine z_aload_n C dX6_peakLoad_16 rfl ?_
        refine z_iload_n C dX6_peakLoad_17 rfl ?_
        refine z_callVF C (30) (Cn := RX6) (T := TX6) (N := 19) (k_X6_loadAt vl D cI cM A ad Ez1 hX v30 vs1 hsl hI.1.dot iSh f5 iDf hI.1.clr hI.1.drk iW2 (by omega)) (cwV 1 C.2.2.2.2.1 gX6_peakLoad_X6_loadAt rfl rfl rfl (by decide +kernel) ⟨Nat.le_of_ble_eq_true rfl, Nat.le_of_ble_eq_true rfl⟩) rfl (by first | decide | omega) rfl v30 rfl rfl (Nat.le_of_ble_eq_true rfl) ⟨Nat.zero_le _, Nat.zero_le _⟩ dX6_peakLoad_18 ?_
        refine z_istore_n C [(0, .ref (ad 30)), (1, .int (nI (mx (ldM M) i))), (2, .int (nI (i))), (3, .int (nI (ldM M i)))] dX6_peakLoad_21 (by decide) ⟨rfl, rfl, rfl, rfl, rfl, rfl, rfl, rfl, trivial⟩ ?_
        refine z_iload_n C dX6_peakLoad_22 rfl ?_
        refine z_iload_n C dX6_peakLoad_23 rfl ?_
        refine z_icmp_leN C 31 (by omega) (by omega) dX6_peakLoad_24 (by decide) (fun h24 => ?_) (fun h24 => ?_)
        · refine z_iload_n C dX6_peakLoad_31 rfl ?_
          refine z_istore_n C [(0, .ref (ad 30)), (1, .int (nI (mx (ldM M) i))), (2, .int (nI (i))), (3, .int (nI (ldM M i)))] dX6_peakLoad_32 (by decide) ⟨rfl, rfl, rfl, rfl, rfl, rfl, rfl, rfl, trivial⟩ ?_
          refine z_iincN (j := 1) C [(0, .ref (ad 30)), (1, .int (nI (mx (ldM M) i))), (2, .int (nI (i + 1))), (3, .int (nI (ldM M i)))] dX6_peakLoad_33 rfl (by decide) ⟨rfl, rfl, rfl, rfl, rfl, rfl, rfl, rfl, trivial⟩ ?_
          refine z_goto C 8 dX6_peakLoad_36 (by decide) ?_
          refine z_lv [(0, .ref (ad 30)), (1, .int (nI (mx (ldM M) i))), (2, .int (nI (i + 1)))] ⟨rfl, rfl, rfl, rfl, rfl, rfl, trivial⟩ ?_
          have q := ih8 (i + 1) (by omega) (by omega)
          rw [mx, if_neg (by omega)] at q
          exact q
        · refine z_iload_n C dX6_peakLoad_27 rfl ?_
          refine z_goto C 32 dX6_peakLoad_28 (by decide) ?_
          refine z_istore_n C [(0, .ref (ad 30)), (1, .int (nI (ldM M i))), (2, .int (nI (i))), (3, .int (nI (ldM M i)))] dX6_peakLoad_32 (by decide) ⟨rfl, rfl, rfl, rfl, rfl, rfl, rfl, rfl, trivial⟩ ?_
          refine z_iincN (j := 1) C [(0, .ref (ad 30)), (1, .int (nI (ldM M i))), (2, .int (nI (i + 1))), (3, .int (nI (ldM M i)))] dX6_peakLoad_33 rfl (by decide) ⟨rfl, rfl, rfl, rfl, rfl, rfl, rfl, rfl, trivial⟩ ?_
          refine z_goto C 8 dX6_peakLoad_36 (by decide) ?_
          refine z_lv [(0, .ref (ad 30)), (1, .int (nI (ldM M i))), (2, .int (nI (i + 1)))] ⟨rfl, rfl, rfl, rfl, rfl, rfl, trivial⟩ ?_
          have q := ih8 (i + 1) (by omega) (by omega)
          rw [mx, if_pos (by omega)] at q
          exact q
  refine z_lv [(0, .ref (ad 30)), (1, .int (nI (0))), (2, .int (nI (0)))] ⟨rfl, rfl, rfl, rfl, rfl, rfl, trivial⟩ ?_
  exact loop8 ((stripM M).length + 1) 0 (Nat.zero_le _) (by omega)

theorem po_y {M : St} {i : Nat} (hi : i < LM M) (h1 : ldM M i = ldM M (hv (ldM M) (LM M))) (h2 : ∀ k, k < i → ldM M k ≠ ldM M (hv (ldM M) (LM M))) : nI i = o_peakOffset M := by
  unfold o_peakOffset
  rw [if_neg (by omega)]
  obtain ⟨a, b, c⟩ := hv_mx (ldM M) (LM M) (by omega)
  have : i = hv (ldM M) (LM M) := by
    rcases Nat.lt_trichotomy i (hv (ldM M) (LM M)) with e | e | e
    · have := c i e; omega
    · exact e
    · exact absurd rfl (h2 _ e)
  rw [this]
theorem po_n {M : St} (h : ∀ k, k < LM M → ldM M k ≠ ldM M (hv (ldM M) (LM M))) : -14 = o_peakOffset M := by
  unfold o_peakOffset
  by_cases e : LM M = 0
  · rw [if_pos e]
  · obtain ⟨a, b, c⟩ := hv_mx (ldM M) (LM M) (by omega)
    exact absurd rfl (h _ b)
theorem pix_e {L0 : List (Nat × Nat)} {t m r a : Nat} (hd : dotc L0 a < 256) (ht : t ≤ 4) (hm : m < 256) (hr : r < 8) : (if b1 m r = 1 then 0 else act L0 t r a) = if b1 (lit (dotc L0 a) t m) r = 1 then colc L0 a else 0 := by
  rw [b1_lit hm hr, b1_sft hd ht hr]
  by_cases h : b1 m r = 1
  · rw [if_pos h, if_pos h, if_neg (by decide)]
  · rw [if_neg h, if_neg h]
    unfold act
    by_cases h2 : t ≤ r + 2 ∧ r + 2 - t < 8
    · rw [if_pos h2]
      by_cases h3 : b1 (dotc L0 a) (r + 2 - t) = 1
      · rw [if_pos h3, if_pos ⟨h2.1, h2.2, h3⟩]
      · rw [if_neg h3, if_neg (fun q => h3 q.2.2)]
    · rw [if_neg h2, if_neg (fun q : t ≤ r + 2 ∧ r + 2 - t < 8 ∧ b1 (dotc L0 a) (r + 2 - t) = 1 => h2 ⟨q.1, q.2.1⟩)]; rfl
theorem iw_X6_peakOffset_6 : ∀ w ∈ wsX60, w ∈ wsX6_peakOffset := by decide +kernel
theorem ln_X6_peakOffset_67 : Cond.fieldLink RX6 67 "MarqueeDisplayModel" "strip" "I" ∈ wsX6_peakOffset := by decide +kernel
set_option maxHeartbeats 4000000 in
set_option maxRecDepth 100000 in
theorem k_X6_peakOffset (vl : Launch) (D : va_G) (cI cM : ClassId) (A : Nat → Prop) (ad : Nat → Nat) (E : Nat → va_E) (hX : XD A 40 ad) {M : St} (hI : Inv M) (hR : RelM cI ad M E) : MI vl yX6_peakOffset wsX6_peakOffset { frames := 4, cells := 0, slots := 0, locals := 93 } D cI cM A 40 ad E [.ref (ad 30)] (fun r E1 => r = o_peakOffset M ∧ RelM cI ad M E1 ∧ ∀ k : Nat, (k < 30) → E1 k = E k) := by
  refine mi_of cX6_peakOffset 3 (.int) RX6 (by decide) rfl rfl (Nat.le_of_ble_eq_true rfl) (fun r E1 h => rfl) ?_
  intro vp ve vs vm va vb vt vc Q C hend
  refine z_lv [(0, .ref (ad 30))] ⟨rfl, rfl, trivial⟩ ?_
  obtain ⟨gl, sz, co, lt, sp, e30, e31, e32, e33, e34, e35, e36, e37, hms, hn6, hgl, hrel⟩ := id hR
  obtain ⟨⟨iW1, iW2⟩, iG, ⟨iS1, iS2⟩, ⟨iB1, iB2⟩, iO, iC, iT, iN, iSh, iWd, iDt, iZ, iDf, iDz, iTx, iMs⟩ := id hI.1
  have hLM := hI.1.LM_le
  have hsl := hI.1.slen
  have hww := hI.1.ws
  have hld : ∀ a, ldM M a ≤ 512 := fun a => Nat.le_trans (ldS_le _ _ _ _ _) (by omega)
  have hl4 := hld (M 0 4)
  have hsz : ∀ i, i < M 0 7 → (1 ≤ sz i ∧ sz i ≤ 12) ∧ ∀ k, k < sz i → ltr lt i k < 27 := fun i hi => by
    obtain ⟨h1, h2, h3⟩ := hrel i hi
    have h4 := iMs i hi
    rw [h1]
    exact ⟨h4.1, fun k hk => by rw [h3 k hk]; exact h4.2.2 k hk⟩
  have hLe : sL (M 1) (M 0 1) sz (ltr lt) (M 0 7) = LM M := sL_cg (fun i hi => ⟨(hrel i hi).1, fun k hk => (hrel i hi).2.2 k (by rw [← (hrel i hi).1]; exact hk)⟩)
  have hst : scols (M 1) (M 2) (M 0 1) sz co (ltr lt) (M 0 7) = stripM M := scols_cg (fun i hi => ⟨(hrel i hi).1, (hrel i hi).2.1, fun k hk => (hrel i hi).2.2 k (by rw [← (hrel i hi).1]; exact hk)⟩)
  refine z_aload_n C dX6_peakOffset_0 rfl ?_
  refine z_callVI C (30) (Cn := RX6) (T := TX6) (N := 19) (k_X6_peakLoad vl D cI cM A ad E hX hI hR) (cwV 0 C.2.2.2.2.1 gX6_peakOffset_X6_peakLoad rfl rfl rfl (by decide +kernel) ⟨Nat.le_of_ble_eq_true rfl, Nat.le_of_ble_eq_true rfl⟩) rfl (by first | decide | omega) rfl e30 rfl rfl (Nat.le_of_ble_eq_true rfl) ⟨Nat.zero_le _, Nat.zero_le _⟩ dX6_peakOffset_1 (fun r3 Ez1 hp2 => ?_)
  obtain ⟨hr1, ⟨hR1, v30, vs1, v33⟩, hfE0⟩ := hp2
  subst hr1
  have hfE : ∀ k : Nat, (k < 30) → Ez1 k = E k := hfE0
  refine z_istore_n C [(0, .ref (ad 30)), (1, .int (nI (ldM M (hv (ldM M) (LM M)))))] dX6_peakOffset_4 (by decide) ⟨rfl, rfl, rfl, rfl, trivial⟩ ?_
  refine z_iconst C (nI (0)) dX6_peakOffset_5 (by decide) ?_
  refine z_istore_n C [(0, .ref (ad 30)), (1, .int (nI (ldM M (hv (ldM M) (LM M))))), (2, .int (nI (0)))] dX6_peakOffset_6 (by decide) ⟨rfl, rfl, rfl, rfl, rfl, rfl, trivial⟩ ?_
  have loop7 : ∀ (fuel : Nat) (i : Nat), (hi : i ≤ (stripM M).length) → (hno : ∀ k, k < i → ldM M k ≠ ldM M (hv (ldM M) (LM M))) → (stripM M).length - i < fuel → Z vp vl ve { frames := 4, cells := 0, slots := 0, locals := 93 } vs vm va vb vt vc 3 D A 40 ad Ez1 [(0, .ref (ad 30)), (1, .int (nI (ldM M (hv (ldM M) (LM M))))), (2, .int (nI (i)))] 0 0 Q 7 [] := by
    intro fuel
    induction fuel with
    | zero => intro i hi hno hlt; exact absurd hlt (Nat.not_lt_zero _)
    | succ fuel ih =>
      intro i hi hno hlt
      have hlh := hld (hv (ldM M) (LM M))
      have ih7 := ih
      refine z_iload_n C dX6_peakOffset_7 rfl ?_
      refine z_aload_n C dX6_peakOffset_8 rfl ?_
      refine z_get C (30) (Cn := RX6) (T := TX6) (N := 19) (fi := 16) iw_X6_peakOffset_6 rfl (by decide) ln_X6_peakOffset_67 (by first | decide | omega) rfl v30 rfl dX6_peakOffset_9 ?_
      refine z_icmp_geN C 32 (by omega) (by omega) dX6_peakOffset_12 (by decide) (fun h12 => ?_) (fun h12 => ?_)
      · have hie : i = LM M := by rw [strip_len] at *; omega
        refine z_bipush C (-14) dX6_peakOffset_32 (by decide) ?_
        exact hend _ _ _ _ dX6_peakOffset_34 (⟨po_n (fun k hk => hno k (by omega)), hR1, hfE⟩)
      · have hli := hld i
        have h12b := h12
        rw [strip_len] at h12b
        refine z_aload_n C dX6_peakOffset_15 rfl ?_
        refine z_iload_n C dX6_peakOffset_16 rfl ?_
        refine z_callVF C (30) (Cn := RX6) (T := TX6) (N := 19) (k_X6_loadAt vl D cI cM A ad Ez1 hX v30 vs1 hsl hI.1.dot iSh v33 iDf hI.1.clr hI.1.drk iW2 (by omega)) (cwV 1 C.2.2.2.2.1 gX6_peakOffset_X6_loadAt rfl rfl rfl (by decide +kernel) ⟨Nat.le_of_ble_eq_true rfl, Nat.le_of_ble_eq_true rfl⟩) rfl (by first | decide | omega) rfl v30 rfl rfl (Nat.le_of_ble_eq_true rfl) ⟨Nat.zero_le _, Nat.zero_le _⟩ dX6_peakOffset_17 ?_
        refine z_top (nI (ldM M i)) (rfl) ?_
        refine z_iload_n C dX6_peakOffset_20 rfl ?_
        refine z_icmp_neN C 26 (by omega) (by omega) dX6_peakOffset_21 (by decide) (fun h21 => ?_) (fun h21 => ?_)
        · refine z_iincN (j := 1) C [(0, .ref (ad 30)), (1, .int (nI (ldM M (hv (ldM M) (LM M))))), (2, .int (nI (i + 1)))] dX6_peakOffset_26 rfl (by decide) ⟨rfl, rfl, rfl, rfl, rfl, rfl, trivial⟩ ?_
          refine z_goto C 7 dX6_peakOffset_29 (by decide) ?_
          refine z_lv [(0, .ref (ad 30)), (1, .int (nI (ldM M (hv (ldM M) (LM M))))), (2, .int (nI (i + 1)))] ⟨rfl, rfl, rfl, rfl, rfl, rfl, trivial⟩ ?_
          exact ih7 (i + 1) (by omega) (fun k hk => by by_cases e : k = i; (subst e; exact h21); exact hno k (by omega)) (by omega)
        · refine z_iload_n C dX6_peakOffset_24 rfl ?_
          exact hend _ _ _ _ dX6_peakOffset_25 (⟨po_y (by omega) h21 hno, hR1, hfE⟩)
  refine z_lv [(0, .ref (ad 30)), (1, .int (nI (ldM M (hv (ldM M) (LM M))))), (2, .int (nI (0)))] ⟨rfl, rfl, rfl, rfl, rfl, rfl, trivial⟩ ?_
  exact loop7 ((stripM M).length + 1) 0 (Nat.zero_le _) (fun k hk => absurd hk (Nat.not_lt_zero k)) (by omega)

set_option maxHeartbeats 4000000 in
set_option maxRecDepth 100000 in
theorem k_X6_damage (vl : Launch) (D : va_G) (cI cM : ClassId) (A : Nat → Prop) (ad : Nat → Nat) (E : Nat → va_E) (hX : XD A 40 ad) {M : St} (x : Int32) (hI : Inv M) (hR : RelM cI ad M E) : MI vl yX6_damage wsX6_damage { frames := 3, cells := 0, slots := 0, locals := 71 } D cI cM A 40 ad E [.ref (ad 30), .int (x)] (fun r E1 => r = o_damage M x ∧ RelM cI ad M E1 ∧ ∀ k : Nat, (k < 30) → E1 k = E k) := by
  refine mi_of cX6_damage 2 (.int) RX6 (by decide) rfl rfl (Nat.le_of_ble_eq_true rfl) (fun r E1 h => rfl) ?_
  intro vp ve vs vm va vb vt vc Q C hend
  refine z_lv [(0, .ref (ad 30)), (1, .int (x))] ⟨rfl, rfl, rfl, rfl, trivial⟩ ?_
  obtain ⟨gl, sz, co, lt, sp, e30, e31, e32, e33, e34, e35, e36, e37, hms, hn6, hgl, hrel⟩ := id hR
  obtain ⟨⟨iW1, iW2⟩, iG, ⟨iS1, iS2⟩, ⟨iB1, iB2⟩, iO, iC, iT, iN, iSh, iWd, iDt, iZ, iDf, iDz, iTx, iMs⟩ := id hI.1
  have hLM := hI.1.LM_le
  have hsl := hI.1.slen
  have hww := hI.1.ws
  have hld : ∀ a, ldM M a ≤ 512 := fun a => Nat.le_trans (ldS_le _ _ _ _ _) (by omega)
  have hl4 := hld (M 0 4)
  have hsz : ∀ i, i < M 0 7 → (1 ≤ sz i ∧ sz i ≤ 12) ∧ ∀ k, k < sz i → ltr lt i k < 27 := fun i hi => by
    obtain ⟨h1, h2, h3⟩ := hrel i hi
    have h4 := iMs i hi
    rw [h1]
    exact ⟨h4.1, fun k hk => by rw [h3 k hk]; exact h4.2.2 k hk⟩
  have hLe : sL (M 1) (M 0 1) sz (ltr lt) (M 0 7) = LM M := sL_cg (fun i hi => ⟨(hrel i hi).1, fun k hk => (hrel i hi).2.2 k (by rw [← (hrel i hi).1]; exact hk)⟩)
  have hst : scols (M 1) (M 2) (M 0 1) sz co (ltr lt) (M 0 7) = stripM M := scols_cg (fun i hi => ⟨(hrel i hi).1, (hrel i hi).2.1, fun k hk => (hrel i hi).2.2 k (by rw [← (hrel i hi).1]; exact hk)⟩)
  rcases ws_c x with ⟨t1, ht1, rfl⟩ | hx
  · have hop : o_damage M (shI t1) = nI (dmM M t1) := ws_y ht1
    refine z_iload_n C dX6_damage_0 rfl ?_
    refine z_bipush C (-2) dX6_damage_1 (by decide) ?_
    refine z_iconst C (nI (2)) dX6_damage_3 (by decide) ?_
    refine z_callSF C (k_X6_in vl D cI cM A ad E hX (shI t1) (-2) (nI (2))) (va_cwS 3 C.2.2.2.2.1 gX6_damage_X6_in rfl rfl rfl (by decide +kernel) ⟨Nat.le_of_ble_eq_true rfl, Nat.le_of_ble_eq_true rfl⟩) rfl rfl (Nat.le_of_ble_eq_true rfl) ⟨Nat.zero_le _, Nat.zero_le _⟩ dX6_damage_4 ?_
    refine z_top (nI (1)) (iw_y (shI_in t1 (by omega)).1) ?_
    refine z_if_eqN C 18 (by omega) dX6_damage_7 (by decide) (fun h7 => (by exfalso; omega)) (fun h7 => ?_)
    refine z_aload_n C dX6_damage_10 rfl ?_
    refine z_iload_n C dX6_damage_11 rfl ?_
    refine z_callVI C (30) (Cn := RX6) (T := TX6) (N := 19) (k_X6_damageBy vl D cI cM A ad E hX hI hR ht1) (cwV 1 C.2.2.2.2.1 gX6_damage_X6_damageBy rfl rfl rfl (by decide +kernel) ⟨Nat.le_of_ble_eq_true rfl, Nat.le_of_ble_eq_true rfl⟩) rfl (by first | decide | omega) rfl e30 rfl rfl (Nat.le_of_ble_eq_true rfl) ⟨Nat.zero_le _, Nat.zero_le _⟩ dX6_damage_12 (fun r3 Ez1 hp2 => ?_)
    obtain ⟨hr4, hR4, hf4⟩ := hp2
    obtain ⟨gl4, sz4, co4, lt4, sp4, a304, a314, a324, a334, a344, a354, a364, a374, -⟩ := id hR4
    have g5 : ∀ k : Nat, (k < 30) → Ez1 k = E k := fun k hk => (hf4 k hk).trans ((fun _ _ => rfl) k hk)
    subst hr4
    refine z_goto C 20 dX6_damage_15 (by decide) ?_
    exact hend _ _ _ _ dX6_damage_20 (⟨hop.symm, hR4, g5⟩)
  · have hop : o_damage M x = -11 := ws_n hx
    refine z_iload_n C dX6_damage_0 rfl ?_
    refine z_bipush C (-2) dX6_damage_1 (by decide) ?_
    refine z_iconst C (nI (2)) dX6_damage_3 (by decide) ?_
    refine z_callSF C (k_X6_in vl D cI cM A ad E hX (x) (-2) (nI (2))) (va_cwS 3 C.2.2.2.2.1 gX6_damage_X6_in rfl rfl rfl (by decide +kernel) ⟨Nat.le_of_ble_eq_true rfl, Nat.le_of_ble_eq_true rfl⟩) rfl rfl (Nat.le_of_ble_eq_true rfl) ⟨Nat.zero_le _, Nat.zero_le _⟩ dX6_damage_4 ?_
    refine z_top (nI (0)) (iw_n hx) ?_
    refine z_if_eqN C 18 (by omega) dX6_damage_7 (by decide) (fun h7 => ?_) (fun h7 => (by exfalso; omega))
    refine z_bipush C (-11) dX6_damage_18 (by decide) ?_
    exact hend _ _ _ _ dX6_damage_20 (⟨hop.symm, hR, fun _ _ => rfl⟩)

theorem iw_X6_pixel_6 : ∀ w ∈ wsX60, w ∈ wsX6_pixel := by decide +kernel
theorem ln_X6_pixel_7 : Cond.fieldLink RX6 7 "MarqueeDisplayModel" "columns" "I" ∈ wsX6_pixel := by decide +kernel
theorem ln_X6_pixel_29 : Cond.fieldLink RX6 29 "MarqueeDisplayModel" "defective" "[I" ∈ wsX6_pixel := by decide +kernel
theorem ln_X6_pixel_64 : Cond.fieldLink RX6 64 "MarqueeDisplayModel" "offset" "I" ∈ wsX6_pixel := by decide +kernel
set_option maxHeartbeats 4000000 in
set_option maxRecDepth 100000 in
theorem k_X6_pixel (vl : Launch) (D : va_G) (cI cM : ClassId) (A : Nat → Prop) (ad : Nat → Nat) (E : Nat → va_E) (hX : XD A 40 ad) {M : St} (x y : Int32) (hI : Inv M) (hR : RelM cI ad M E) : MI vl yX6_pixel wsX6_pixel { frames := 2, cells := 0, slots := 0, locals := 45 } D cI cM A 40 ad E [.ref (ad 30), .int (x), .int (y)] (fun r E1 => r = o_pixel M x y ∧ RelM cI ad M E1 ∧ ∀ k : Nat, (k < 30) → E1 k = E k) := by
  refine mi_of cX6_pixel 3 (.int) RX6 (by decide) rfl rfl (Nat.le_of_ble_eq_true rfl) (fun r E1 h => rfl) ?_
  intro vp ve vs vm va vb vt vc Q C hend
  refine z_lv [(0, .ref (ad 30)), (1, .int (x)), (2, .int (y))] ⟨rfl, rfl, rfl, rfl, rfl, rfl, trivial⟩ ?_
  obtain ⟨gl, sz, co, lt, sp, e30, e31, e32, e33, e34, e35, e36, e37, hms, hn6, hgl, hrel⟩ := id hR
  obtain ⟨⟨iW1, iW2⟩, iG, ⟨iS1, iS2⟩, ⟨iB1, iB2⟩, iO, iC, iT, iN, iSh, iWd, iDt, iZ, iDf, iDz, iTx, iMs⟩ := id hI.1
  have hLM := hI.1.LM_le
  have hsl := hI.1.slen
  have hww := hI.1.ws
  have hld : ∀ a, ldM M a ≤ 512 := fun a => Nat.le_trans (ldS_le _ _ _ _ _) (by omega)
  have hl4 := hld (M 0 4)
  have hsz : ∀ i, i < M 0 7 → (1 ≤ sz i ∧ sz i ≤ 12) ∧ ∀ k, k < sz i → ltr lt i k < 27 := fun i hi => by
    obtain ⟨h1, h2, h3⟩ := hrel i hi
    have h4 := iMs i hi
    rw [h1]
    exact ⟨h4.1, fun k hk => by rw [h3 k hk]; exact h4.2.2 k hk⟩
  have hLe : sL (M 1) (M 0 1) sz (ltr lt) (M 0 7) = LM M := sL_cg (fun i hi => ⟨(hrel i hi).1, fun k hk => (hrel i hi).2.2 k (by rw [← (hrel i hi).1]; exact hk)⟩)
  have hst : scols (M 1) (M 2) (M 0 1) sz co (ltr lt) (M 0 7) = stripM M := scols_cg (fun i hi => ⟨(hrel i hi).1, (hrel i hi).2.1, fun k hk => (hrel i hi).2.2 k (by rw [← (hrel i hi).1]; exact hk)⟩)
  rcases wr_c 0 7 x (by omega) (by omega) with ⟨r, hr, rfl⟩ | hx
  · rcases wr_c 0 (M 0 0 - 1) y (by omega) (by omega) with ⟨c, hc, rfl⟩ | hy
    · have hop0 : o_pixel M (nI r) (nI c) = if b1 (lit (dotc (stripM M) (M 0 4 + c)) (M 0 8) (M 3 c)) r = 1 then nI (colc (stripM M) (M 0 4 + c)) else nI 0 := (wr_y hr (by decide)).trans (wn_y (by omega) (by omega))
      have hpe := pix_e (L0 := stripM M) (t := M 0 8) (m := M 3 c) (r := r) (a := M 0 4 + c) (hI.1.dot _) iSh (iDf c (by omega)) (by omega)
      have hop : o_pixel M (nI r) (nI c) = nI (if b1 (M 3 c) r = 1 then 0 else act (stripM M) (M 0 8) r (M 0 4 + c)) := by
        rw [hop0, hpe]
        split <;> rfl
      refine z_iload_n C dX6_pixel_0 rfl ?_
      refine z_iconst C (nI (0)) dX6_pixel_1 (by decide) ?_
      refine z_bipush C (nI (7)) dX6_pixel_2 (by decide) ?_
      refine z_callSF C (k_X6_in vl D cI cM A ad E hX (nI (r)) (nI (0)) (nI (7))) (va_cwS 3 C.2.2.2.2.1 gX6_pixel_X6_in rfl rfl rfl (by decide +kernel) ⟨Nat.le_of_ble_eq_true rfl, Nat.le_of_ble_eq_true rfl⟩) rfl rfl (Nat.le_of_ble_eq_true rfl) ⟨Nat.zero_le _, Nat.zero_le _⟩ dX6_pixel_4 ?_
      refine z_top (nI (1)) (iw_yN hr (by omega)) ?_
      refine z_if_eqN C 24 (by omega) dX6_pixel_7 (by decide) (fun h7 => (by exfalso; omega)) (fun h7 => ?_)
      refine z_iload_n C dX6_pixel_10 rfl ?_
      refine z_iconst C (nI (0)) dX6_pixel_11 (by decide) ?_
      refine z_aload_n C dX6_pixel_12 rfl ?_
      refine z_get C (30) (Cn := RX6) (T := TX6) (N := 19) (fi := 0) iw_X6_pixel_6 rfl (by decide) ln_X6_pixel_7 (by first | decide | omega) rfl e30 rfl dX6_pixel_13 ?_
      refine z_iconst C (nI (1)) dX6_pixel_16 (by decide) ?_
      refine z_isubN C (by omega) dX6_pixel_17 ?_
      refine z_callSF C (k_X6_in vl D cI cM A ad E hX (nI (c)) (nI (0)) (nI ((M 0 0) - 1))) (va_cwS 3 C.2.2.2.2.1 gX6_pixel_X6_in rfl rfl rfl (by decide +kernel) ⟨Nat.le_of_ble_eq_true rfl, Nat.le_of_ble_eq_true rfl⟩) rfl rfl (Nat.le_of_ble_eq_true rfl) ⟨Nat.zero_le _, Nat.zero_le _⟩ dX6_pixel_18 ?_
      refine z_top (nI (1)) (iw_yN hc (by omega)) ?_
      refine z_if_neN C 27 (by omega) dX6_pixel_21 (by decide) (fun h21 => ?_) (fun h21 => (by exfalso; omega))
      refine z_aload_n C dX6_pixel_27 rfl ?_
      refine z_callVV C (30) (Cn := RX6) (T := TX6) (N := 19) (k_X6_draws vl D cI cM A ad E hX e30 e31 e35 e37 e32 e36 hn6 hsz hww iG hgl hms) (cwV 0 C.2.2.2.2.1 gX6_pixel_X6_draws rfl rfl rfl (by decide +kernel) ⟨Nat.le_of_ble_eq_true rfl, Nat.le_of_ble_eq_true rfl⟩) rfl (by first | decide | omega) rfl e30 rfl rfl (Nat.le_of_ble_eq_true rfl) ⟨Nat.zero_le _, Nat.zero_le _⟩ dX6_pixel_28 (fun Ez1 hp2 => ?_)
      obtain ⟨v30, vs1, hg⟩ := hp2
      rw [hLe, ← strip_len] at v30
      rw [hst] at vs1
      have f3 : Ez1 (31) = aI cI 27 (M 1) := (hg (31) (by omega)).trans e31
      have f4 : Ez1 (32) = aI cI 162 gl := (hg (32) (by omega)).trans e32
      have f5 : Ez1 (33) = aI cI 32 (M 3) := (hg (33) (by omega)).trans e33
      have f6 : Ez1 (34) = aI cI 12 (M 4) := (hg (34) (by omega)).trans e34
      have f7 : Ez1 (35) = aI cI 6 sz := (hg (35) (by omega)).trans e35
      have f8 : Ez1 (36) = aI cI 6 co := (hg (36) (by omega)).trans e36
      have f9 : Ez1 (37) = aI cI 72 lt := (hg (37) (by omega)).trans e37
      have g10 : ∀ k : Nat, (k < 30) → Ez1 k = E k := fun k hk => (hg k (by omega)).trans ((fun _ _ => rfl) k hk)
      have hR1 : RelM cI ad M Ez1 := ⟨gl, sz, co, lt, _, v30, f3, f4, f5, f6, f7, f8, f9, vs1.nil, hn6, hgl, hrel⟩
      refine z_aload_n C dX6_pixel_31 rfl ?_
      refine z_get C (30) (Cn := RX6) (T := TX6) (N := 19) (fi := 9) iw_X6_pixel_6 rfl (by decide) ln_X6_pixel_29 (by first | decide | omega) rfl v30 rfl dX6_pixel_32 ?_
      refine z_iload_n C dX6_pixel_35 rfl ?_
      refine z_ialdG C (33) (by first | decide | omega) rfl f5 (by omega) (by decide) dX6_pixel_36 ?_
      refine z_iload_n C dX6_pixel_37 rfl ?_
      refine z_callSF C (k_has_p vl D cI cM A ad Ez1 hX (iDf c (by omega)) (by omega)) (va_cwS 2 C.2.2.2.2.1 gX6_pixel_X6_has rfl rfl rfl (by decide +kernel) ⟨Nat.le_of_ble_eq_true rfl, Nat.le_of_ble_eq_true rfl⟩) rfl rfl (Nat.le_of_ble_eq_true rfl) ⟨Nat.zero_le _, Nat.zero_le _⟩ dX6_pixel_38 ?_
      refine z_if_eqN C 48 (Nat.lt_of_le_of_lt (b1_le _ _) (by decide)) dX6_pixel_41 (by decide) (fun h41 => ?_) (fun h41 => ?_)
      · refine z_aload_n C dX6_pixel_48 rfl ?_
        refine z_iload_n C dX6_pixel_49 rfl ?_
        refine z_iload_n C dX6_pixel_50 rfl ?_
        refine z_aload_n C dX6_pixel_51 rfl ?_
        refine z_get C (30) (Cn := RX6) (T := TX6) (N := 19) (fi := 5) iw_X6_pixel_6 rfl (by decide) ln_X6_pixel_64 (by first | decide | omega) rfl v30 rfl dX6_pixel_52 ?_
        refine z_callVF C (30) (Cn := RX6) (T := TX6) (N := 19) (k_X6_active vl D cI cM A ad Ez1 hX v30 vs1 hsl hI.1.dot iSh (by omega) (by omega)) (cwV 3 C.2.2.2.2.1 gX6_pixel_X6_active rfl rfl rfl (by decide +kernel) ⟨Nat.le_of_ble_eq_true rfl, Nat.le_of_ble_eq_true rfl⟩) rfl (by first | decide | omega) rfl v30 rfl rfl (Nat.le_of_ble_eq_true rfl) ⟨Nat.zero_le _, Nat.zero_le _⟩ dX6_pixel_55 ?_
        exact hend _ _ _ _ dX6_pixel_58 (⟨by rw [hop, if_neg (by omega)], hR1, g10⟩)
      · refine z_iconst C (nI (0)) dX6_pixel_44 (by decide) ?_
        refine z_goto C 58 dX6_pixel_45 (by decide) ?_
        exact hend _ _ _ _ dX6_pixel_58 (⟨by rw [hop, if_pos (by have := b1_le (M 3 c) r; omega)], hR1, g10⟩)
    · have hop : o_pixel M (nI r) y = -11 := (wr_y hr (by decide)).trans (wn_n (by omega) (fun q => by obtain ⟨j, h1, rfl⟩ := q; exact hy ⟨(nI_leI (by omega) (by omega)).mpr (Nat.zero_le _), (nI_leI (by omega) (by omega)).mpr (by omega)⟩))
      refine z_iload_n C dX6_pixel_0 rfl ?_
      refine z_iconst C (nI (0)) dX6_pixel_1 (by decide) ?_
      refine z_bipush C (nI (7)) dX6_pixel_2 (by decide) ?_
      refine z_callSF C (k_X6_in vl D cI cM A ad E hX (nI (r)) (nI (0)) (nI (7))) (va_cwS 3 C.2.2.2.2.1 gX6_pixel_X6_in rfl rfl rfl (by decide +kernel) ⟨Nat.le_of_ble_eq_true rfl, Nat.le_of_ble_eq_true rfl⟩) rfl rfl (Nat.le_of_ble_eq_true rfl) ⟨Nat.zero_le _, Nat.zero_le _⟩ dX6_pixel_4 ?_
      refine z_top (nI (1)) (iw_yN hr (by omega)) ?_
      refine z_if_eqN C 24 (by omega) dX6_pixel_7 (by decide) (fun h7 => (by exfalso; omega)) (fun h7 => ?_)
      refine z_iload_n C dX6_pixel_10 rfl ?_
      refine z_iconst C (nI (0)) dX6_pixel_11 (by decide) ?_
      refine z_aload_n C dX6_pixel_12 rfl ?_
      refine z_get C (30) (Cn := RX6) (T := TX6) (N := 19) (fi := 0) iw_X6_pixel_6 rfl (by decide) ln_X6_pixel_7 (by first | decide | omega) rfl e30 rfl dX6_pixel_13 ?_
      refine z_iconst C (nI (1)) dX6_pixel_16 (by decide) ?_
      refine z_isubN C (by omega) dX6_pixel_17 ?_
      refine z_callSF C (k_X6_in vl D cI cM A ad E hX (y) (nI (0)) (nI ((M 0 0) - 1))) (va_cwS 3 C.2.2.2.2.1 gX6_pixel_X6_in rfl rfl rfl (by decide +kernel) ⟨Nat.le_of_ble_eq_true rfl, Nat.le_of_ble_eq_true rfl⟩) rfl rfl (Nat.le_of_ble_eq_true rfl) ⟨Nat.zero_le _, Nat.zero_le _⟩ dX6_pixel_18 ?_
      refine z_top (nI (0)) (iw_n hy) ?_
      refine z_if_neN C 27 (by omega) dX6_pixel_21 (by decide) (fun h21 => (by exfalso; omega)) (fun h21 => ?_)
      refine z_bipush C (-11) dX6_pixel_24 (by decide) ?_
      exact hend _ _ _ _ dX6_pixel_26 (⟨hop.symm, hR, fun _ _ => rfl⟩)
  · have hop : o_pixel M x y = -11 := wr_n hx
    refine z_iload_n C dX6_pixel_0 rfl ?_
    refine z_iconst C (nI (0)) dX6_pixel_1 (by decide) ?_
    refine z_bipush C (nI (7)) dX6_pixel_2 (by decide) ?_
    refine z_callSF C (k_X6_in vl D cI cM A ad E hX (x) (nI (0)) (nI (7))) (va_cwS 3 C.2.2.2.2.1 gX6_pixel_X6_in rfl rfl rfl (by decide +kernel) ⟨Nat.le_of_ble_eq_true rfl, Nat.le_of_ble_eq_true rfl⟩) rfl rfl (Nat.le_of_ble_eq_true rfl) ⟨Nat.zero_le _, Nat.zero_le _⟩ dX6_pixel_4 ?_
    refine z_top (nI (0)) (iw_n hx) ?_
    refine z_if_eqN C 24 (by omega) dX6_pixel_7 (by decide) (fun h7 => ?_) (fun h7 => (by exfalso; omega))
    refine z_bipush C (-11) dX6_pixel_24 (by decide) ?_
    exact hend _ _ _ _ dX6_pixel_26 (⟨hop.symm, hR, fun _ _ => rfl⟩)

def bmT (f : Nat → Nat) : Nat → Nat
  | 0 => 2
  | k + 1 => bet f (bet f (bmT f k) (1 - k)) (3 + k)
theorem bmT_2 (f : Nat → Nat) : bmT f 2 = bestT f := rfl
theorem bet_le {f : Nat → Nat} {b c : Nat} (h1 : b ≤ 4) (h2 : c ≤ 4) : bet f b c ≤ 4 := by unfold bet; split <;> omega
theorem bmT_le (f : Nat → Nat) : ∀ k, k ≤ 2 → bmT f k ≤ 4
  | 0, _ => by show 2 ≤ 4; decide
  | k + 1, h => bet_le (bet_le (bmT_le f k (by omega)) (by omega)) (by omega)
theorem neg_sh : ∀ k, k < 2 → -(nI (k + 1)) = shI (1 - k) := by decide +kernel
theorem pos_sh : ∀ k, k < 2 → nI (k + 1) = shI (3 + k) := by decide +kernel
theorem iw_X6_adoptBestShift_6 : ∀ w ∈ wsX60, w ∈ wsX6_adoptBestShift := by decide +kernel
theorem ln_X6_adoptBestShift_94 : Cond.fieldLink RX6 94 "MarqueeDisplayModel" "shift" "I" ∈ wsX6_adoptBestShift := by decide +kernel
set_option maxHeartbeats 4000000 in
set_option maxRecDepth 100000 in
theorem k_X6_adoptBestShift (vl : Launch) (D : va_G) (cI cM : ClassId) (A : Nat → Prop) (ad : Nat → Nat) (E : Nat → va_E) (hX : XD A 40 ad) {M : St} (hI : Inv M) (hR : RelM cI ad M E) : MI vl yX6_adoptBestShift wsX6_adoptBestShift { frames := 3, cells := 0, slots := 0, locals := 71 } D cI cM A 40 ad E [.ref (ad 30)] (fun r E1 => r = (o_adoptBestShift M).1 ∧ RelM cI ad (o_adoptBestShift M).2 E1 ∧ ∀ k : Nat, (k < 30) → E1 k = E k) := by
  refine mi_of cX6_adoptBestShift 3 (.int) RX6 (by decide) rfl rfl (Nat.le_of_ble_eq_true rfl) (fun r E1 h => rfl) ?_
  intro vp ve vs vm va vb vt vc Q C hend
  refine z_lv [(0, .ref (ad 30))] ⟨rfl, rfl, trivial⟩ ?_
  obtain ⟨gl, sz, co, lt, sp, e30, e31, e32, e33, e34, e35, e36, e37, hms, hn6, hgl, hrel⟩ := id hR
  obtain ⟨⟨iW1, iW2⟩, iG, ⟨iS1, iS2⟩, ⟨iB1, iB2⟩, iO, iC, iT, iN, iSh, iWd, iDt, iZ, iDf, iDz, iTx, iMs⟩ := id hI.1
  have hLM := hI.1.LM_le
  have hsl := hI.1.slen
  have hww := hI.1.ws
  have hld : ∀ a, ldM M a ≤ 512 := fun a => Nat.le_trans (ldS_le _ _ _ _ _) (by omega)
  have hl4 := hld (M 0 4)
  have hsz : ∀ i, i < M 0 7 → (1 ≤ sz i ∧ sz i ≤ 12) ∧ ∀ k, k < sz i → ltr lt i k < 27 := fun i hi => by
    obtain ⟨h1, h2, h3⟩ := hrel i hi
    have h4 := iMs i hi
    rw [h1]
    exact ⟨h4.1, fun k hk => by rw [h3 k hk]; exact h4.2.2 k hk⟩
  have hLe : sL (M 1) (M 0 1) sz (ltr lt) (M 0 7) = LM M := sL_cg (fun i hi => ⟨(hrel i hi).1, fun k hk => (hrel i hi).2.2 k (by rw [← (hrel i hi).1]; exact hk)⟩)
  have hst : scols (M 1) (M 2) (M 0 1) sz co (ltr lt) (M 0 7) = stripM M := scols_cg (fun i hi => ⟨(hrel i hi).1, (hrel i hi).2.1, fun k hk => (hrel i hi).2.2 k (by rw [← (hrel i hi).1]; exact hk)⟩)
  have hdl := dmM_le M iW2
  refine z_iconst C (nI (0)) dX6_adoptBestShift_0 (by decide) ?_
  refine z_top (shI (bmT (dmM M) 0)) (by show nI 0 = shI 2; decide) ?_
  refine z_istore_n C [(0, .ref (ad 30)), (1, .int (shI (bmT (dmM M) 0)))] dX6_adoptBestShift_1 (by decide) ⟨rfl, rfl, rfl, rfl, trivial⟩ ?_
  refine z_iconst C (nI (1)) dX6_adoptBestShift_2 (by decide) ?_
  refine z_istore_n C [(0, .ref (ad 30)), (1, .int (shI (bmT (dmM M) 0))), (2, .int (nI (1)))] dX6_adoptBestShift_3 (by decide) ⟨rfl, rfl, rfl, rfl, rfl, rfl, trivial⟩ ?_
  have loop4 : ∀ (fuel : Nat) (k : Nat) (E2 : Nat → va_E), (hk : k ≤ 2) → (hR2 : RelM cI ad M E2) → (qf : ∀ k : Nat, (k < 30) → E2 k = E k) → 2 - k < fuel → Z vp vl ve { frames := 3, cells := 0, slots := 0, locals := 71 } vs vm va vb vt vc 3 D A 40 ad E2 [(0, .ref (ad 30)), (1, .int (shI (bmT (dmM M) k))), (2, .int (nI (k + 1)))] 0 0 Q 4 [] := by
    intro fuel
    induction fuel with
    | zero => intro k E2 hk hR2 qf hlt; exact absurd hlt (Nat.not_lt_zero _)
    | succ fuel ih =>
      intro k E2 hk hR2 qf hlt
      obtain ⟨gl2, sz2, co2, lt2, sp2, q30, q31, q32, q33, q34, q35, q36, q37, q38⟩ := id hR2
      have hbm := bmT_le (dmM M) k hk
      have hd0 := hdl (bmT (dmM M) k)
      have hd1 := hdl (1 - k)
      have hd3 := hdl (3 + k)
      have ih4 := ih
      refine z_iload_n C dX6_adoptBestShift_4 rfl ?_
      refine z_iconst C (nI (3)) dX6_adoptBestShift_5 (by decide) ?_
      refine z_icmp_geN C 55 (by omega) (by omega) dX6_adoptBestShift_6 (by decide) (fun h6 => ?_) (fun h6 => ?_)
      · have hke : k = 2 := by omega
        have hbe : bmT (dmM M) k = bestT (dmM M) := by rw [hke, bmT_2]
        refine z_aload_n C dX6_adoptBestShift_55 rfl ?_
        refine z_iload_n C dX6_adoptBestShift_56 rfl ?_
        refine z_put C (30) (Cn := RX6) (T := TX6) (N := 19) (fi := 3) tyX6 iw_X6_adoptBestShift_6 tyX6_ok nmX6 rfl (by decide) ln_X6_adoptBestShift_94 hX (by first | decide | omega) rfl q30 rfl rfl rfl rfl (Nat.le_of_ble_eq_true rfl) dX6_adoptBestShift_57 (fun Ez2 hE1 => ?_)
        have f4 : Ez2 (30) = .inr (6, [.int (nI (M 0 0)), .int (nI (M 0 1)), .int (nI (M 0 2)), .int (shI (bmT (dmM M) k)), .int (nI (M 0 3)), .int (nI (M 0 4)), .int (nI (M 0 5)), .ref (ad 31), .ref (ad 32), .ref (ad 33), .int (nI (M 0 6)), .ref (ad 34), .int (nI (M 0 7)), .ref (ad 35), .ref (ad 36), .ref (ad 37), .int (nI (sp2)), .ref (ad 38), .ref (ad 39)]) := va_up_eq hE1
        have g5 : ∀ k : Nat, (k < 30) → Ez2 k = E k := fun k hk => va_up_of hE1 (by omega) (qf k hk)
        refine z_aload_n C dX6_adoptBestShift_60 rfl ?_
        refine z_iload_n C dX6_adoptBestShift_61 rfl ?_
        have hR9 : RelM cI ad (s0 M 8 (bmT (dmM M) k)) Ez2 := ⟨gl2, sz2, co2, lt2, sp2, f4, va_up_of hE1 (by decide) q31, va_up_of hE1 (by decide) q32, va_up_of hE1 (by decide) q33, va_up_of hE1 (by decide) q34, va_up_of hE1 (by decide) q35, va_up_of hE1 (by decide) q36, va_up_of hE1 (by decide) q37, q38.1.mv (va_up_of hE1 (by decide) rfl) (va_up_of hE1 (by decide) rfl), q38.2⟩
        refine z_callVI C (30) (Cn := RX6) (T := TX6) (N := 19) (k_X6_damageBy vl D cI cM A ad Ez2 hX (M := s0 M 8 (bmT (dmM M) k)) (t2 := bmT (dmM M) k) (inv_sh hI hbm) hR9 hbm) (cwV 1 C.2.2.2.2.1 gX6_adoptBestShift_X6_damageBy rfl rfl rfl (by decide +kernel) ⟨Nat.le_of_ble_eq_true rfl, Nat.le_of_ble_eq_true rfl⟩) rfl (by first | decide | omega) rfl f4 rfl rfl (Nat.le_of_ble_eq_true rfl) ⟨Nat.zero_le _, Nat.zero_le _⟩ dX6_adoptBestShift_62 (fun r8 Ez6 hp7 => ?_)
        obtain ⟨hr9, hR9, hf9⟩ := hp7
        obtain ⟨gl9, sz9, co9, lt9, sp9, a309, a319, a329, a339, a349, a359, a369, a379, -⟩ := id hR9
        have g10 : ∀ k : Nat, (k < 30) → Ez6 k = E k := fun k hk => (hf9 k hk).trans (g5 k hk)
        subst hr9
        exact hend _ _ _ _ dX6_adoptBestShift_65 (⟨by rw [hbe]; rfl, by show RelM cI ad (s0 M 8 (bestT (dmM M))) _; rw [← hbe]; exact hR9, g10⟩)
      · refine z_aload_n C dX6_adoptBestShift_9 rfl ?_
        refine z_iload_n C dX6_adoptBestShift_10 rfl ?_
        refine z_ineg C dX6_adoptBestShift_11 ?_
        refine z_top (shI (1 - k)) (neg_sh k (by omega)) ?_
        refine z_callVI C (30) (Cn := RX6) (T := TX6) (N := 19) (k_X6_damageBy vl D cI cM A ad E2 hX (t2 := 1 - k) hI hR2 (by omega)) (cwV 1 C.2.2.2.2.1 gX6_adoptBestShift_X6_damageBy rfl rfl rfl (by decide +kernel) ⟨Nat.le_of_ble_eq_true rfl, Nat.le_of_ble_eq_true rfl⟩) rfl (by first | decide | omega) rfl q30 rfl rfl (Nat.le_of_ble_eq_true rfl) ⟨Nat.zero_le _, Nat.zero_le _⟩ dX6_adoptBestShift_12 (fun r13 Ez11 hp12 => ?_)
        obtain ⟨hr14, hR14, hf14⟩ := hp12
        obtain ⟨gl14, sz14, co14, lt14, sp14, a3014, a3114, a3214, a3314, a3414, a3514, a3614, a3714, -⟩ := id hR14
        have g15 : ∀ k : Nat, (k < 30) → Ez11 k = E k := fun k hk => (hf14 k hk).trans (qf k hk)
        subst hr14
        refine z_aload_n C dX6_adoptBestShift_15 rfl ?_
        refine z_iload_n C dX6_adoptBestShift_16 rfl ?_
        refine z_callVI C (30) (Cn := RX6) (T := TX6) (N := 19) (k_X6_damageBy vl D cI cM A ad Ez11 hX (t2 := bmT (dmM M) k) hI hR14 hbm) (cwV 1 C.2.2.2.2.1 gX6_adoptBestShift_X6_damageBy rfl rfl rfl (by decide +kernel) ⟨Nat.le_of_ble_eq_true rfl, Nat.le_of_ble_eq_true rfl⟩) rfl (by first | decide | omega) rfl a3014 rfl rfl (Nat.le_of_ble_eq_true rfl) ⟨Nat.zero_le _, Nat.zero_le _⟩ dX6_adoptBestShift_17 (fun r18 Ez16 hp17 => ?_)
        obtain ⟨hr19, hR19, hf19⟩ := hp17
        obtain ⟨gl19, sz19, co19, lt19, sp19, a3019, a3119, a3219, a3319, a3419, a3519, a3619, a3719, -⟩ := id hR19
        have g20 : ∀ k : Nat, (k < 30) → Ez16 k = E k := fun k hk => (hf19 k hk).trans (g15 k hk)
        subst hr19
        refine z_icmp_geN C 28 (by omega) (by omega) dX6_adoptBestShift_20 (by decide) (fun h20 => ?_) (fun h20 => ?_)
        · refine z_iload_n C dX6_adoptBestShift_28 rfl ?_
          refine z_istore_n C [(0, .ref (ad 30)), (1, .int (shI (bmT (dmM M) k))), (2, .int (nI (k + 1)))] dX6_adoptBestShift_29 (by decide) ⟨rfl, rfl, rfl, rfl, rfl, rfl, trivial⟩ ?_
          refine z_aload_n C dX6_adoptBestShift_30 rfl ?_
          refine z_iload_n C dX6_adoptBestShift_31 rfl ?_
          refine z_top (shI (3 + k)) (pos_sh k (by omega)) ?_
          refine z_callVI C (30) (Cn := RX6) (T := TX6) (N := 19) (k_X6_damageBy vl D cI cM A ad Ez16 hX (t2 := 3 + k) hI hR19 (by omega)) (cwV 1 C.2.2.2.2.1 gX6_adoptBestShift_X6_damageBy rfl rfl rfl (by decide +kernel) ⟨Nat.le_of_ble_eq_true rfl, Nat.le_of_ble_eq_true rfl⟩) rfl (by first | decide | omega) rfl a3019 rfl rfl (Nat.le_of_ble_eq_true rfl) ⟨Nat.zero_le _, Nat.zero_le _⟩ dX6_adoptBestShift_32 (fun r23 Ez21 hp22 => ?_)
          obtain ⟨hr24, hR24, hf24⟩ := hp22
          obtain ⟨gl24, sz24, co24, lt24, sp24, a3024, a3124, a3224, a3324, a3424, a3524, a3624, a3724, -⟩ := id hR24
          have g25 : ∀ k : Nat, (k < 30) → Ez21 k = E k := fun k hk => (hf24 k hk).trans (g20 k hk)
          subst hr24
          refine z_aload_n C dX6_adoptBestShift_35 rfl ?_
          refine z_iload_n C dX6_adoptBestShift_36 rfl ?_
          refine z_callVI C (30) (Cn := RX6) (T := TX6) (N := 19) (k_X6_damageBy vl D cI cM A ad Ez21 hX (t2 := bmT (dmM M) k) hI hR24 (by omega)) (cwV 1 C.2.2.2.2.1 gX6_adoptBestShift_X6_damageBy rfl rfl rfl (by decide +kernel) ⟨Nat.le_of_ble_eq_true rfl, Nat.le_of_ble_eq_true rfl⟩) rfl (by first | decide | omega) rfl a3024 rfl rfl (Nat.le_of_ble_eq_true rfl) ⟨Nat.zero_le _, Nat.zero_le _⟩ dX6_adoptBestShift_37 (fun r28 Ez26 hp27 => ?_)
          obtain ⟨hr29, hR29, hf29⟩ := hp27
          obtain ⟨gl29, sz29, co29, lt29, sp29, a3029, a3129, a3229, a3329, a3429, a3529, a3629, a3729, -⟩ := id hR29
          have g30 : ∀ k : Nat, (k < 30) → Ez26 k = E k := fun k hk => (hf29 k hk).trans (g25 k hk)
          subst hr29
          refine z_icmp_geN C 47 (by omega) (by omega) dX6_adoptBestShift_40 (by decide) (fun h40 => ?_) (fun h40 => ?_)
          · refine z_iload_n C dX6_adoptBestShift_47 rfl ?_
            refine z_istore_n C [(0, .ref (ad 30)), (1, .int (shI (bmT (dmM M) k))), (2, .int (nI (k + 1)))] dX6_adoptBestShift_48 (by decide) ⟨rfl, rfl, rfl, rfl, rfl, rfl, trivial⟩ ?_
            refine z_iincN (j := 1) C [(0, .ref (ad 30)), (1, .int (shI (bmT (dmM M) k))), (2, .int (nI (k + 1 + 1)))] dX6_adoptBestShift_49 rfl (by decide) ⟨rfl, rfl, rfl, rfl, rfl, rfl, trivial⟩ ?_
            refine z_goto C 4 dX6_adoptBestShift_52 (by decide) ?_
            refine z_lv [(0, .ref (ad 30)), (1, .int (shI (bmT (dmM M) k))), (2, .int (nI (k + 1 + 1)))] ⟨rfl, rfl, rfl, rfl, rfl, rfl, trivial⟩ ?_
            have e2 : bmT (dmM M) (k + 1) = bmT (dmM M) k := by rw [bmT, (show bet (dmM M) (bmT (dmM M) k) (1 - k) = bmT (dmM M) k from by unfold bet; rw [if_neg (by omega)]), (show bet (dmM M) (bmT (dmM M) k) (3 + k) = bmT (dmM M) k from by unfold bet; rw [if_neg (by omega)])]
            have q := ih4 (k + 1) Ez26 (by omega) hR29 g30 (by omega)
            rw [e2] at q
            exact q
          · refine z_iload_n C dX6_adoptBestShift_43 rfl ?_
            refine z_top (shI (3 + k)) (pos_sh k (by omega)) ?_
            refine z_goto C 48 dX6_adoptBestShift_44 (by decide) ?_
            refine z_istore_n C [(0, .ref (ad 30)), (1, .int (shI (3 + k))), (2, .int (nI (k + 1)))] dX6_adoptBestShift_48 (by decide) ⟨rfl, rfl, rfl, rfl, rfl, rfl, trivial⟩ ?_
            refine z_iincN (j := 1) C [(0, .ref (ad 30)), (1, .int (shI (3 + k))), (2, .int (nI (k + 1 + 1)))] dX6_adoptBestShift_49 rfl (by decide) ⟨rfl, rfl, rfl, rfl, rfl, rfl, trivial⟩ ?_
            refine z_goto C 4 dX6_adoptBestShift_52 (by decide) ?_
            refine z_lv [(0, .ref (ad 30)), (1, .int (shI (3 + k))), (2, .int (nI (k + 1 + 1)))] ⟨rfl, rfl, rfl, rfl, rfl, rfl, trivial⟩ ?_
            have e2 : bmT (dmM M) (k + 1) = 3 + k := by rw [bmT, (show bet (dmM M) (bmT (dmM M) k) (1 - k) = bmT (dmM M) k from by unfold bet; rw [if_neg (by omega)]), (show bet (dmM M) (bmT (dmM M) k) (3 + k) = 3 + k from by unfold bet; rw [if_pos (by omega)])]
            have q := ih4 (k + 1) Ez26 (by omega) hR29 g30 (by omega)
            rw [e2] at q
            exact q
        · refine z_iload_n C dX6_adoptBestShift_23 rfl ?_
          refine z_ineg C dX6_adoptBestShift_24 ?_
          refine z_top (shI (1 - k)) (neg_sh k (by omega)) ?_
          refine z_goto C 29 dX6_adoptBestShift_25 (by decide) ?_
          refine z_istore_n C [(0, .ref (ad 30)), (1, .int (shI (1 - k))), (2, .int (nI (k + 1)))] dX6_adoptBestShift_29 (by decide) ⟨rfl, rfl, rfl, rfl, rfl, rfl, trivial⟩ ?_
          refine z_aload_n C dX6_adoptBestShift_30 rfl ?_
          refine z_iload_n C dX6_adoptBestShift_31 rfl ?_
          refine z_top (shI (3 + k)) (pos_sh k (by omega)) ?_
          refine z_callVI C (30) (Cn := RX6) (T := TX6) (N := 19) (k_X6_damageBy vl D cI cM A ad Ez16 hX (t2 := 3 + k) hI hR19 (by omega)) (cwV 1 C.2.2.2.2.1 gX6_adoptBestShift_X6_damageBy rfl rfl rfl (by decide +kernel) ⟨Nat.le_of_ble_eq_true rfl, Nat.le_of_ble_eq_true rfl⟩) rfl (by first | decide | omega) rfl a3019 rfl rfl (Nat.le_of_ble_eq_true rfl) ⟨Nat.zero_le _, Nat.zero_le _⟩ dX6_adoptBestShift_32 (fun r33 Ez31 hp32 => ?_)
          obtain ⟨hr34, hR34, hf34⟩ := hp32
          obtain ⟨gl34, sz34, co34, lt34, sp34, a3034, a3134, a3234, a3334, a3434, a3534, a3634, a3734, -⟩ := id hR34
          have g35 : ∀ k : Nat, (k < 30) → Ez31 k = E k := fun k hk => (hf34 k hk).trans (g20 k hk)
          subst hr34
          refine z_aload_n C dX6_adoptBestShift_35 rfl ?_
          refine z_iload_n C dX6_adoptBestShift_36 rfl ?_
          refine z_callVI C (30) (Cn := RX6) (T := TX6) (N := 19) (k_X6_damageBy vl D cI cM A ad Ez31 hX (t2 := 1 - k) hI hR34 (by omega)) (cwV 1 C.2.2.2.2.1 gX6_adoptBestShift_X6_damageBy rfl rfl rfl (by decide +kernel) ⟨Nat.le_of_ble_eq_true rfl, Nat.le_of_ble_eq_true rfl⟩) rfl (by first | decide | omega) rfl a3034 rfl rfl (Nat.le_of_ble_eq_true rfl) ⟨Nat.zero_le _, Nat.zero_le _⟩ dX6_adoptBestShift_37 (fun r38 Ez36 hp37 => ?_)
          obtain ⟨hr39, hR39, hf39⟩ := hp37
          obtain ⟨gl39, sz39, co39, lt39, sp39, a3039, a3139, a3239, a3339, a3439, a3539, a3639, a3739, -⟩ := id hR39
          have g40 : ∀ k : Nat, (k < 30) → Ez36 k = E k := fun k hk => (hf39 k hk).trans (g35 k hk)
          subst hr39
          refine z_icmp_geN C 47 (by omega) (by omega) dX6_adoptBestShift_40 (by decide) (fun h40 => ?_) (fun h40 => ?_)
          · refine z_iload_n C dX6_adoptBestShift_47 rfl ?_
            refine z_istore_n C [(0, .ref (ad 30)), (1, .int (shI (1 - k))), (2, .int (nI (k + 1)))] dX6_adoptBestShift_48 (by decide) ⟨rfl, rfl, rfl, rfl, rfl, rfl, trivial⟩ ?_
            refine z_iincN (j := 1) C [(0, .ref (ad 30)), (1, .int (shI (1 - k))), (2, .int (nI (k + 1 + 1)))] dX6_adoptBestShift_49 rfl (by decide) ⟨rfl, rfl, rfl, rfl, rfl, rfl, trivial⟩ ?_
            refine z_goto C 4 dX6_adoptBestShift_52 (by decide) ?_
            refine z_lv [(0, .ref (ad 30)), (1, .int (shI (1 - k))), (2, .int (nI (k + 1 + 1)))] ⟨rfl, rfl, rfl, rfl, rfl, rfl, trivial⟩ ?_
            have e2 : bmT (dmM M) (k + 1) = 1 - k := by rw [bmT, (show bet (dmM M) (bmT (dmM M) k) (1 - k) = 1 - k from by unfold bet; rw [if_pos (by omega)]), (show bet (dmM M) (1 - k) (3 + k) = 1 - k from by unfold bet; rw [if_neg (by omega)])]
            have q := ih4 (k + 1) Ez36 (by omega) hR39 g40 (by omega)
            rw [e2] at q
            exact q
          · refine z_iload_n C dX6_adoptBestShift_43 rfl ?_
            refine z_top (shI (3 + k)) (pos_sh k (by omega)) ?_
            refine z_goto C 48 dX6_adoptBestShift_44 (by decide) ?_
            refine z_istore_n C [(0, .ref (ad 30)), (1, .int (shI (3 + k))), (2, .int (nI (k + 1)))] dX6_adoptBestShift_48 (by decide) ⟨rfl, rfl, rfl, rfl, rfl, rfl, trivial⟩ ?_
            refine z_iincN (j := 1) C [(0, .ref (ad 30)), (1, .int (shI (3 + k))), (2, .int (nI (k + 1 + 1)))] dX6_adoptBestShift_49 rfl (by decide) ⟨rfl, rfl, rfl, rfl, rfl, rfl, trivial⟩ ?_
            refine z_goto C 4 dX6_adoptBestShift_52 (by decide) ?_
            refine z_lv [(0, .ref (ad 30)), (1, .int (shI (3 + k))), (2, .int (nI (k + 1 + 1)))] ⟨rfl, rfl, rfl, rfl, rfl, rfl, trivial⟩ ?_
            have e2 : bmT (dmM M) (k + 1) = 3 + k := by rw [bmT, (show bet (dmM M) (bmT (dmM M) k) (1 - k) = 1 - k from by unfold bet; rw [if_pos (by omega)]), (show bet (dmM M) (1 - k) (3 + k) = 3 + k from by unfold bet; rw [if_pos (by omega)])]
            have q := ih4 (k + 1) Ez36 (by omega) hR39 g40 (by omega)
            rw [e2] at q
            exact q
  refine z_lv [(0, .ref (ad 30)), (1, .int (shI (bmT (dmM M) 0))), (2, .int (nI (1)))] ⟨rfl, rfl, rfl, rfl, rfl, rfl, trivial⟩ ?_
  exact loop4 (3) 0 E (Nat.zero_le _) hR (fun _ _ => rfl) (by omega)

