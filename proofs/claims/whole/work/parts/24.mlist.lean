theorem lu_s {lt lt2 lt3 : Nat → Nat} {m n : Nat} (h0 : 0 < m) (hn : m ≤ n) (h : ∀ i q, q < 12 → lt2 (12 * i + q) = lt (12 * shu (fun k => k) m n i + q)) (h1 : ∀ q, q < 12 → lt3 (12 * m + q) = lt2 (12 * (m - 1) + q)) (h2 : ∀ u, u / 12 ≠ m → lt3 u = lt2 u) : ∀ i q, q < 12 → lt3 (12 * i + q) = lt (12 * shu (fun k => k) (m - 1) n i + q) := by
  intro i q hq
  by_cases e : i = m
  · subst e
    rw [h1 q hq, h (i - 1) q hq]
    have e1 : shu (fun k => k) i n (i - 1) = i - 1 := by unfold shu; rw [if_neg (by omega)]
    have e2 : shu (fun k => k) (i - 1) n i = i - 1 := by unfold shu; rw [if_pos (by omega)]
    rw [e1, e2]
  · rw [h2 _ (by omega), h i q hq]
    have e1 : shu (fun k => k) m n i = shu (fun k => k) (m - 1) n i := by
      unfold shu
      by_cases g : m < i ∧ i ≤ n
      · rw [if_pos g, if_pos (by omega)]
      · rw [if_neg g, if_neg (by omega)]
    rw [e1]
theorem ld_s {lt lt2 lt3 : Nat → Nat} {j m : Nat} (hj : j ≤ m) (h : ∀ i q, q < 12 → lt2 (12 * i + q) = lt (12 * shd (fun k => k) j m i + q)) (h1 : ∀ q, q < 12 → lt3 (12 * m + q) = lt2 (12 * (m + 1) + q)) (h2 : ∀ u, u / 12 ≠ m → lt3 u = lt2 u) : ∀ i q, q < 12 → lt3 (12 * i + q) = lt (12 * shd (fun k => k) j (m + 1) i + q) := by
  intro i q hq
  by_cases e : i = m
  · subst e
    rw [h1 q hq, h (i + 1) q hq]
    have e1 : shd (fun k => k) j i (i + 1) = i + 1 := by unfold shd; rw [if_neg (by omega)]
    have e2 : shd (fun k => k) j (i + 1) i = i + 1 := by unfold shd; rw [if_pos (by omega)]
    rw [e1, e2]
  · rw [h2 _ (by omega), h i q hq]
    have e1 : shd (fun k => k) j m i = shd (fun k => k) j (m + 1) i := by
      unfold shd
      by_cases g : j ≤ i ∧ i < m
      · rw [if_pos g, if_pos (by omega)]
      · rw [if_neg g, if_neg (by omega)]
    rw [e1]
theorem rel_ins {M : St} {sz co lt lt2 lt3 : Nat → Nat} {j col : Nat} (hI : Inv0 M) (hj : j ≤ M 0 7) (hrel : ∀ i, i < M 0 7 → sz i = M 5 i ∧ co i = M 6 i ∧ ∀ k, k < M 5 i → ltr lt i k = ltr (M 7) i k) (h : ∀ i q, q < 12 → lt2 (12 * i + q) = lt (12 * shu (fun k => k) j (M 0 7) i + q)) (h1 : ∀ q, q < M 0 6 → lt3 (12 * j + q) = M 4 q) (h2 : ∀ u, u / 12 ≠ j → lt3 u = lt2 u) : ∀ i, i < M 0 7 + 1 → va_up (shu sz j (M 0 7)) j (M 0 6) i = insF (M 5) j (M 0 6) i ∧ va_up (shu co j (M 0 7)) j col i = insF (M 6) j col i ∧ ∀ k, k < insF (M 5) j (M 0 6) i → ltr lt3 i k = ltr (insL (M 7) (M 4) j) i k := by
  intro i hi
  have hms := hI.msz
  have h6 := hI.2.2.2.2.2.2.1
  rcases Nat.lt_trichotomy i j with e | e | e
  · obtain ⟨a, b, d⟩ := hrel i (by omega)
    rw [va_up_ne _ _ (by omega), va_up_ne _ _ (by omega), insF_lt e, insF_lt e]
    have e1 : ∀ f : Nat → Nat, shu f j (M 0 7) i = f i := fun f => by unfold shu; rw [if_neg (by omega)]
    rw [e1, e1]
    refine ⟨a, b, fun k hk => ?_⟩
    have hm := hms i (by omega)
    rw [insL_lt e (by omega), ← d k hk]
    show lt3 (12 * i + k) = lt (12 * i + k)
    rw [h2 _ (by omega), h i k (by omega), e1]
  · subst e
    rw [va_up_self, va_up_self, insF_eq, insF_eq]
    exact ⟨rfl, rfl, fun k hk => by rw [insL_eq (by omega)]; exact h1 k hk⟩
  · obtain ⟨a, b, d⟩ := hrel (i - 1) (by omega)
    rw [va_up_ne _ _ (by omega), va_up_ne _ _ (by omega), insF_gt e, insF_gt e]
    have e1 : ∀ f : Nat → Nat, shu f j (M 0 7) i = f (i - 1) := fun f => by unfold shu; rw [if_pos (by omega)]
    rw [e1, e1]
    refine ⟨a, b, fun k hk => ?_⟩
    have hm := hms (i - 1) (by omega)
    rw [insL_gt e (by omega), ← d k hk]
    show lt3 (12 * i + k) = lt (12 * (i - 1) + k)
    rw [h2 _ (by omega), h i k (by omega), e1]
theorem rel_del {M : St} {sz co lt lt2 : Nat → Nat} {j : Nat} (hI : Inv0 M) (hj : j < M 0 7) (hrel : ∀ i, i < M 0 7 → sz i = M 5 i ∧ co i = M 6 i ∧ ∀ k, k < M 5 i → ltr lt i k = ltr (M 7) i k) (h : ∀ i q, q < 12 → lt2 (12 * i + q) = lt (12 * shd (fun k => k) j (M 0 7 - 1) i + q)) : ∀ i, i < M 0 7 - 1 → shd sz j (M 0 7 - 1) i = delF (M 5) j i ∧ shd co j (M 0 7 - 1) i = delF (M 6) j i ∧ ∀ k, k < delF (M 5) j i → ltr lt2 i k = ltr (delL (M 7) j) i k := by
  intro i hi
  have hms := hI.msz
  by_cases e : i < j
  · obtain ⟨a, b, d⟩ := hrel i (by omega)
    rw [delF_lt e, delF_lt e]
    have e1 : ∀ f : Nat → Nat, shd f j (M 0 7 - 1) i = f i := fun f => by unfold shd; rw [if_neg (by omega)]
    rw [e1, e1]
    refine ⟨a, b, fun k hk => ?_⟩
    have hm := hms i (by omega)
    rw [delL_lt e (by omega), ← d k hk]
    show lt2 (12 * i + k) = lt (12 * i + k)
    rw [h i k (by omega), e1]
  · obtain ⟨a, b, d⟩ := hrel (i + 1) (by omega)
    rw [delF_ge (by omega), delF_ge (by omega)]
    have e1 : ∀ f : Nat → Nat, shd f j (M 0 7 - 1) i = f (i + 1) := fun f => by unfold shd; rw [if_pos (by omega)]
    rw [e1, e1]
    refine ⟨a, b, fun k hk => ?_⟩
    have hm := hms (i + 1) (by omega)
    rw [delL_ge (by omega), ← d k hk]
    show lt2 (12 * i + k) = lt (12 * (i + 1) + k)
    rw [h i k (by omega), e1]
theorem ci_1 {lt3 g : Nat → Nat} {j k : Nat} (h1 : ∀ q : Nat, q < k → lt3 (12 * j + q) = g q) : ∀ q : Nat, q < k + 1 → va_up lt3 (12 * j + k) (g k) (12 * j + q) = g q := by
  intro q hq
  by_cases h : q = k
  · subst h; rw [va_up_self]
  · rw [va_up_ne _ _ (by omega)]; exact h1 q (by omega)
theorem ci_2 {lt2 lt3 : Nat → Nat} {j k v : Nat} (h2 : ∀ u : Nat, u / 12 ≠ j → lt3 u = lt2 u) (hk : k < 12) : ∀ u : Nat, u / 12 ≠ j → va_up lt3 (12 * j + k) v u = lt2 u := by
  intro u hu
  rw [va_up_ne _ _ (by omega)]
  exact h2 u hu
theorem iw_X6_insertMessage_6 : ∀ w ∈ wsX60, w ∈ wsX6_insertMessage := by decide +kernel
theorem ln_X6_insertMessage_54 : Cond.fieldLink RX6 54 "MarqueeDisplayModel" "messages" "I" ∈ wsX6_insertMessage := by decide +kernel
theorem ln_X6_insertMessage_80 : Cond.fieldLink RX6 80 "MarqueeDisplayModel" "length" "I" ∈ wsX6_insertMessage := by decide +kernel
theorem ln_X6_insertMessage_35 : Cond.fieldLink RX6 35 "MarqueeDisplayModel" "size" "[I" ∈ wsX6_insertMessage := by decide +kernel
theorem ln_X6_insertMessage_38 : Cond.fieldLink RX6 38 "MarqueeDisplayModel" "color" "[I" ∈ wsX6_insertMessage := by decide +kernel
theorem ln_X6_insertMessage_41 : Cond.fieldLink RX6 41 "MarqueeDisplayModel" "letter" "[I" ∈ wsX6_insertMessage := by decide +kernel
theorem ln_X6_insertMessage_32 : Cond.fieldLink RX6 32 "MarqueeDisplayModel" "text" "[I" ∈ wsX6_insertMessage := by decide +kernel
set_option maxHeartbeats 4000000 in
set_option maxRecDepth 100000 in
theorem k_X6_insertMessage (vl : Launch) (D : va_G) (cI cM : ClassId) (A : Nat → Prop) (ad : Nat → Nat) (E : Nat → va_E) (hX : XD A 40 ad) {M : St} (x y : Int32) (hI : Inv M) (hR : RelM cI ad M E) : MI vl yX6_insertMessage wsX6_insertMessage { frames := 4, cells := 0, slots := 0, locals := 87 } D cI cM A 40 ad E [.ref (ad 30), .int (x), .int (y)] (fun r E1 => r = (o_insertMessage M x y).1 ∧ RelM cI ad (o_insertMessage M x y).2 E1 ∧ ∀ k : Nat, (k < 30) → E1 k = E k) := by
  refine mi_of cX6_insertMessage 4 (.int) RX6 (by decide) rfl rfl (Nat.le_of_ble_eq_true rfl) (fun r E1 h => rfl) ?_
  intro vp ve vs vm va vb vt vc Q C hend
  refine z_lv [(0, .ref (ad 30)), (1, .int (x)), (2, .int (y))] ⟨rfl, rfl, rfl, rfl, rfl, rfl, trivial⟩ ?_
  obtain ⟨gl, sz, co, lt, sp, e30, e31, e32, e33, e34, e35, e36, e37, hms, hn6, hgl, hrel⟩ := id hR
  obtain ⟨⟨iW1, iW2⟩, iG, ⟨iS1, iS2⟩, ⟨iB1, iB2⟩, iO, iC, iT, iN, iSh, iWd, iDt, iZ, iDf, iDz, iTx, iMs⟩ := id hI.1
  have hLM := hI.1.LM_le
  have hsl := hI.1.slen
  have hww := hI.1.ws
  have hld : ∀ a, ldM M a ≤ 512 := fun a => Nat.le_trans (ldS_le _ _ _ _ _) (by omega)
  have hl4 := hld (M 0 4)
  have hsz : ∀ i, i < M 0 7 → (1 ≤ sz i ∧ sz i ≤ 12) ∧ ∀ k, k < sz i → ltr lt i k < 27 := fun i hi => by
    obtain ⟨h1, h2, h3⟩ := hrel i hi
    have h4 := iMs i hi
    rw [h1]
    exact ⟨h4.1, fun k hk => by rw [h3 k hk]; exact h4.2.2 k hk⟩
  have hLe : sL (M 1) (M 0 1) sz (ltr lt) (M 0 7) = LM M := sL_cg (fun i hi => ⟨(hrel i hi).1, fun k hk => (hrel i hi).2.2 k (by rw [← (hrel i hi).1]; exact hk)⟩)
  have hst : scols (M 1) (M 2) (M 0 1) sz co (ltr lt) (M 0 7) = stripM M := scols_cg (fun i hi => ⟨(hrel i hi).1, (hrel i hi).2.1, fun k hk => (hrel i hi).2.2 k (by rw [← (hrel i hi).1]; exact hk)⟩)
  rcases wr_c 0 (M 0 7) x (by omega) (by omega) with ⟨j, hj, rfl⟩ | hx
  · rcases wr_c 1 3 y (by omega) (by omega) with ⟨col, hcol, rfl⟩ | hy
    · have hop0 : o_insertMessage M (nI j) (nI col) = if M 0 6 = 0 then (-12, M) else if M 0 7 < 6 then (nI (LM (insM M j col)), settle (insM M j col)) else (-13, M) := (wr_y hj (by omega)).trans (wr_y hcol (by decide))
      by_cases h6 : M 0 6 = 0
      · have hop := hop0.trans (if_pos h6)
        refine z_iload_n C dX6_insertMessage_0 rfl ?_
        refine z_iconst C (nI (0)) dX6_insertMessage_1 (by decide) ?_
        refine z_aload_n C dX6_insertMessage_2 rfl ?_
        refine z_get C (30) (Cn := RX6) (T := TX6) (N := 19) (fi := 12) iw_X6_insertMessage_6 rfl (by decide) ln_X6_insertMessage_54 (by first | decide | omega) rfl e30 rfl dX6_insertMessage_3 ?_
        refine z_callSF C (k_X6_in vl D cI cM A ad E hX (nI (j)) (nI (0)) (nI (M 0 7))) (va_cwS 3 C.2.2.2.2.1 gX6_insertMessage_X6_in rfl rfl rfl (by decide +kernel) ⟨Nat.le_of_ble_eq_true rfl, Nat.le_of_ble_eq_true rfl⟩) rfl rfl (Nat.le_of_ble_eq_true rfl) ⟨Nat.zero_le _, Nat.zero_le _⟩ dX6_insertMessage_6 ?_
        refine z_top (nI (1)) (iw_yN hj (by omega)) ?_
        refine z_if_eqN C 21 (by omega) dX6_insertMessage_9 (by decide) (fun h9 => (by exfalso; omega)) (fun h9 => ?_)
        refine z_iload_n C dX6_insertMessage_12 rfl ?_
        refine z_iconst C (nI (1)) dX6_insertMessage_13 (by decide) ?_
        refine z_iconst C (nI (3)) dX6_insertMessage_14 (by decide) ?_
        refine z_callSF C (k_X6_in vl D cI cM A ad E hX (nI (col)) (nI (1)) (nI (3))) (va_cwS 3 C.2.2.2.2.1 gX6_insertMessage_X6_in rfl rfl rfl (by decide +kernel) ⟨Nat.le_of_ble_eq_true rfl, Nat.le_of_ble_eq_true rfl⟩) rfl rfl (Nat.le_of_ble_eq_true rfl) ⟨Nat.zero_le _, Nat.zero_le _⟩ dX6_insertMessage_15 ?_
        refine z_top (nI (1)) (iw_yN hcol (by omega)) ?_
        refine z_if_neN C 24 (by omega) dX6_insertMessage_18 (by decide) (fun h18 => ?_) (fun h18 => (by exfalso; omega))
        refine z_aload_n C dX6_insertMessage_24 rfl ?_
        refine z_get C (30) (Cn := RX6) (T := TX6) (N := 19) (fi := 10) iw_X6_insertMessage_6 rfl (by decide) ln_X6_insertMessage_80 (by first | decide | omega) rfl e30 rfl dX6_insertMessage_25 ?_
        refine z_if_neN C 34 (by omega) dX6_insertMessage_28 (by decide) (fun h28 => (by exfalso; omega)) (fun h28 => ?_)
        refine z_bipush C (-12) dX6_insertMessage_31 (by decide) ?_
        exact hend _ _ _ _ dX6_insertMessage_33 (⟨by rw [hop], by rw [hop]; exact hR, fun _ _ => rfl⟩)
      · by_cases h7 : M 0 7 < 6
        · have hop := hop0.trans ((if_neg h6).trans (if_pos h7))
          refine z_iload_n C dX6_insertMessage_0 rfl ?_
          refine z_iconst C (nI (0)) dX6_insertMessage_1 (by decide) ?_
          refine z_aload_n C dX6_insertMessage_2 rfl ?_
          refine z_get C (30) (Cn := RX6) (T := TX6) (N := 19) (fi := 12) iw_X6_insertMessage_6 rfl (by decide) ln_X6_insertMessage_54 (by first | decide | omega) rfl e30 rfl dX6_insertMessage_3 ?_
          refine z_callSF C (k_X6_in vl D cI cM A ad E hX (nI (j)) (nI (0)) (nI (M 0 7))) (va_cwS 3 C.2.2.2.2.1 gX6_insertMessage_X6_in rfl rfl rfl (by decide +kernel) ⟨Nat.le_of_ble_eq_true rfl, Nat.le_of_ble_eq_true rfl⟩) rfl rfl (Nat.le_of_ble_eq_true rfl) ⟨Nat.zero_le _, Nat.zero_le _⟩ dX6_insertMessage_6 ?_
          refine z_top (nI (1)) (iw_yN hj (by omega)) ?_
          refine z_if_eqN C 21 (by omega) dX6_insertMessage_9 (by decide) (fun h9 => (by exfalso; omega)) (fun h9 => ?_)
          refine z_iload_n C dX6_insertMessage_12 rfl ?_
          refine z_iconst C (nI (1)) dX6_insertMessage_13 (by decide) ?_
          refine z_iconst C (nI (3)) dX6_insertMessage_14 (by decide) ?_
          refine z_callSF C (k_X6_in vl D cI cM A ad E hX (nI (col)) (nI (1)) (nI (3))) (va_cwS 3 C.2.2.2.2.1 gX6_insertMessage_X6_in rfl rfl rfl (by decide +kernel) ⟨Nat.le_of_ble_eq_true rfl, Nat.le_of_ble_eq_true rfl⟩) rfl rfl (Nat.le_of_ble_eq_true rfl) ⟨Nat.zero_le _, Nat.zero_le _⟩ dX6_insertMessage_15 ?_
          refine z_top (nI (1)) (iw_yN hcol (by omega)) ?_
          refine z_if_neN C 24 (by omega) dX6_insertMessage_18 (by decide) (fun h18 => ?_) (fun h18 => (by exfalso; omega))
          refine z_aload_n C dX6_insertMessage_24 rfl ?_
          refine z_get C (30) (Cn := RX6) (T := TX6) (N := 19) (fi := 10) iw_X6_insertMessage_6 rfl (by decide) ln_X6_insertMessage_80 (by first | decide | omega) rfl e30 rfl dX6_insertMessage_25 ?_
          refine z_if_neN C 34 (by omega) dX6_insertMessage_28 (by decide) (fun h28 => ?_) (fun h28 => (by exfalso; omega))
          refine z_aload_n C dX6_insertMessage_34 rfl ?_
          refine z_get C (30) (Cn := RX6) (T := TX6) (N := 19) (fi := 12) iw_X6_insertMessage_6 rfl (by decide) ln_X6_insertMessage_54 (by first | decide | omega) rfl e30 rfl dX6_insertMessage_35 ?_
          refine z_bipush C (nI (6)) dX6_insertMessage_38 (by decide) ?_
          refine z_icmp_neN C 46 (by omega) (by omega) dX6_insertMessage_40 (by decide) (fun h40 => ?_) (fun h40 => (by exfalso; omega))
          refine z_aload_n C dX6_insertMessage_46 rfl ?_
          refine z_get C (30) (Cn := RX6) (T := TX6) (N := 19) (fi := 12) iw_X6_insertMessage_6 rfl (by decide) ln_X6_insertMessage_54 (by first | decide | omega) rfl e30 rfl dX6_insertMessage_47 ?_
          refine z_istore_n C [(0, .ref (ad 30)), (1, .int (nI (j))), (2, .int (nI (col))), (3, .int (nI (M 0 7)))] dX6_insertMessage_50 (by decide) ⟨rfl, rfl, rfl, rfl, rfl, rfl, rfl, rfl, trivial⟩ ?_
          have loop51 : ∀ (fuel : Nat) (m : Nat) (lt2 : Nat → Nat) (E2 : Nat → va_E), (hm : j ≤ m ∧ m ≤ M 0 7) → (hl : ∀ i q, q < 12 → lt2 (12 * i + q) = lt (12 * shu (fun k => k) m (M 0 7) i + q)) → (q30 : E2 (30) = .inr (6, [.int (nI (M 0 0)), .int (nI (M 0 1)), .int (nI (M 0 2)), .int (shI (M 0 8)), .int (nI (M 0 3)), .int (nI (M 0 4)), .int (nI (M 0 5)), .ref (ad 31), .ref (ad 32), .ref (ad 33), .int (nI (M 0 6)), .ref (ad 34), .int (nI (M 0 7)), .ref (ad 35), .ref (ad 36), .ref (ad 37), .int (nI (sp)), .ref (ad 38), .ref (ad 39)])) → (q34 : E2 (34) = aI cI 12 (M 4)) → (q35 : E2 (35) = aI cI 6 (shu sz m (M 0 7))) → (q36 : E2 (36) = aI cI 6 (shu co m (M 0 7))) → (q37 : E2 (37) = aI cI 72 lt2) → (qf : ∀ k : Nat, (k ≠ 30 ∧ k ≠ 35 ∧ k ≠ 36 ∧ k ≠ 37) → E2 k = E k) → m < fuel → Z vp vl ve { frames := 4, cells := 0, slots := 0, locals := 87 } vs vm va vb vt vc 4 D A 40 ad E2 [(0, .ref (ad 30)), (1, .int (nI (j))), (2, .int (nI (col))), (3, .int (nI (m)))] 0 0 Q 51 [] := by
            intro fuel
            induction fuel with
            | zero => intro m lt2 E2 hm hl q30 q34 q35 q36 q37 qf hlt; exact absurd hlt (Nat.not_lt_zero _)
            | succ fuel ih =>
              intro m lt2 E2 hm hl q30 q34 q35 q36 q37 qf hlt
              have ih51 := ih
              refine z_iload_n C dX6_insertMessage_51 rfl ?_
              refine z_iload_n C dX6_insertMessage_52 rfl ?_
              refine z_icmp_leN C 70 (by omega) (by omega) dX6_insertMessage_53 (by decide) (fun h53 => ?_) (fun h53 => ?_)
              · have hmj : m = j := by omega
                rw [hmj] at hl q35 q36
                refine z_aload_n C dX6_insertMessage_70 rfl ?_
                refine z_get C (30) (Cn := RX6) (T := TX6) (N := 19) (fi := 13) iw_X6_insertMessage_6 rfl (by decide) ln_X6_insertMessage_35 (by first | decide | omega) rfl q30 rfl dX6_insertMessage_71 ?_
                refine z_iload_n C dX6_insertMessage_74 rfl ?_
                refine z_aload_n C dX6_insertMessage_75 rfl ?_
                refine z_get C (30) (Cn := RX6) (T := TX6) (N := 19) (fi := 10) iw_X6_insertMessage_6 rfl (by decide) ln_X6_insertMessage_80 (by first | decide | omega) rfl q30 rfl dX6_insertMessage_76 ?_
                refine z_iastG C (35) hX (by first | decide | omega) rfl q35 (by omega) (by decide) dX6_insertMessage_79 (fun Ez2 hE1 => ?_)
                have f3 : Ez2 (30) = .inr (6, [.int (nI (M 0 0)), .int (nI (M 0 1)), .int (nI (M 0 2)), .int (shI (M 0 8)), .int (nI (M 0 3)), .int (nI (M 0 4)), .int (nI (M 0 5)), .ref (ad 31), .ref (ad 32), .ref (ad 33), .int (nI (M 0 6)), .ref (ad 34), .int (nI (M 0 7)), .ref (ad 35), .ref (ad 36), .ref (ad 37), .int (nI (sp)), .ref (ad 38), .ref (ad 39)]) := va_up_of hE1 (by first | decide | omega) q30
                have f4 : Ez2 (34) = aI cI 12 (M 4) := va_up_of hE1 (by first | decide | omega) q34
                have f6 : Ez2 (36) = aI cI 6 (shu co j (M 0 7)) := va_up_of hE1 (by first | decide | omega) q36
                have f7 : Ez2 (37) = aI cI 72 lt2 := va_up_of hE1 (by first | decide | omega) q37
                have f8 : Ez2 (35) = aI cI 6 (va_up (shu sz j (M 0 7)) (j) (M 0 6)) := va_up_eq hE1
                have g9 : ∀ k : Nat, (k ≠ 30 ∧ k ≠ 35 ∧ k ≠ 36 ∧ k ≠ 37) → Ez2 k = E k := fun k hk => va_up_of hE1 (by omega) (qf k hk)
                refine z_aload_n C dX6_insertMessage_80 rfl ?_
                refine z_get C (30) (Cn := RX6) (T := TX6) (N := 19) (fi := 14) iw_X6_insertMessage_6 rfl (by decide) ln_X6_insertMessage_38 (by first | decide | omega) rfl f3 rfl dX6_insertMessage_81 ?_
                refine z_iload_n C dX6_insertMessage_84 rfl ?_
                refine z_iload_n C dX6_insertMessage_85 rfl ?_
                refine z_iastG C (36) hX (by first | decide | omega) rfl f6 (by omega) (by decide) dX6_insertMessage_86 (fun Ez11 hE10 => ?_)
                have f12 : Ez11 (30) = .inr (6, [.int (nI (M 0 0)), .int (nI (M 0 1)), .int (nI (M 0 2)), .int (shI (M 0 8)), .int (nI (M 0 3)), .int (nI (M 0 4)), .int (nI (M 0 5)), .ref (ad 31), .ref (ad 32), .ref (ad 33), .int (nI (M 0 6)), .ref (ad 34), .int (nI (M 0 7)), .ref (ad 35), .ref (ad 36), .ref (ad 37), .int (nI (sp)), .ref (ad 38), .ref (ad 39)]) := va_up_of hE10 (by first | decide | omega) f3
                have f13 : Ez11 (34) = aI cI 12 (M 4) := va_up_of hE10 (by first | decide | omega) f4
                have f15 : Ez11 (37) = aI cI 72 lt2 := va_up_of hE10 (by first | decide | omega) f7
                have f16 : Ez11 (35) = aI cI 6 (va_up (shu sz j (M 0 7)) (j) (M 0 6)) := va_up_of hE10 (by first | decide | omega) f8
                have f17 : Ez11 (36) = aI cI 6 (va_up (shu co j (M 0 7)) (j) (col)) := va_up_eq hE10
                have g18 : ∀ k : Nat, (k ≠ 30 ∧ k ≠ 35 ∧ k ≠ 36 ∧ k ≠ 37) → Ez11 k = E k := fun k hk => va_up_of hE10 (by omega) (g9 k hk)
                refine z_iconst C (nI (0)) dX6_insertMessage_87 (by decide) ?_
                refine z_istore_n C [(0, .ref (ad 30)), (1, .int (nI (j))), (2, .int (nI (col))), (3, .int (nI (0)))] dX6_insertMessage_88 (by decide) ⟨rfl, rfl, rfl, rfl, rfl, rfl, rfl, rfl, trivial⟩ ?_
                have loop89 : ∀ (fuel : Nat) (k : Nat) (lt3 : Nat → Nat) (E3 : Nat → va_E), (hk : k ≤ M 0 6) → (hw1 : ∀ q : Nat, q < k → lt3 (12 * j + q) = M 4 q) → (hw2 : ∀ u : Nat, u / 12 ≠ j → lt3 u = lt2 u) → (w30 : E3 (30) = .inr (6, [.int (nI (M 0 0)), .int (nI (M 0 1)), .int (nI (M 0 2)), .int (shI (M 0 8)), .int (nI (M 0 3)), .int (nI (M 0 4)), .int (nI (M 0 5)), .ref (ad 31), .ref (ad 32), .ref (ad 33), .int (nI (M 0 6)), .ref (ad 34), .int (nI (M 0 7)), .ref (ad 35), .ref (ad 36), .ref (ad 37), .int (nI (sp)), .ref (ad 38), .ref (ad 39)])) → (w34 : E3 (34) = aI cI 12 (M 4)) → (w35 : E3 (35) = aI cI 6 (va_up (shu sz j (M 0 7)) (j) (M 0 6))) → (w36 : E3 (36) = aI cI 6 (va_up (shu co j (M 0 7)) (j) (col))) → (w37 : E3 (37) = aI cI 72 lt3) → (wf : ∀ k : Nat, (k ≠ 30 ∧ k ≠ 35 ∧ k ≠ 36 ∧ k ≠ 37) → E3 k = E k) → M 0 6 - k < fuel → Z vp vl ve { frames := 4, cells := 0, slots := 0, locals := 87 } vs vm va vb vt vc 4 D A 40 ad E3 [(0, .ref (ad 30)), (1, .int (nI (j))), (2, .int (nI (col))), (3, .int (nI (k)))] 0 0 Q 89 [] := by
                  intro fuel
                  induction fuel with
                  | zero => intro k lt3 E3 hk hw1 hw2 w30 w34 w35 w36 w37 wf hlt; exact absurd hlt (Nat.not_lt_zero _)
                  | succ fuel ih =>
                    intro k lt3 E3 hk hw1 hw2 w30 w34 w35 w36 w37 wf hlt
                    have ih89 := ih
                    refine z_iload_n C dX6_insertMessage_89 rfl ?_
                    refine z_aload_n C dX6_insertMessage_90 rfl ?_
                    refine z_get C (30) (Cn := RX6) (T := TX6) (N := 19) (fi := 10) iw_X6_insertMessage_6 rfl (by decide) ln_X6_insertMessage_80 (by first | decide | omega) rfl w30 rfl dX6_insertMessage_91 ?_
                    refine z_icmp_geN C 120 (by omega) (by omega) dX6_insertMessage_94 (by decide) (fun h94 => ?_) (fun h94 => ?_)
                    · have hk6 : k = M 0 6 := by omega
                      refine z_aload_n C dX6_insertMessage_120 rfl ?_
                      refine z_dup C dX6_insertMessage_121 rfl ?_
                      refine z_get C (30) (Cn := RX6) (T := TX6) (N := 19) (fi := 12) iw_X6_insertMessage_6 rfl (by decide) ln_X6_insertMessage_54 (by first | decide | omega) rfl w30 rfl dX6_insertMessage_122 ?_
                      refine z_iconst C (nI (1)) dX6_insertMessage_125 (by decide) ?_
                      refine z_iaddN C  dX6_insertMessage_126 ?_
                      refine z_put C (30) (Cn := RX6) (T := TX6) (N := 19) (fi := 12) tyX6 iw_X6_insertMessage_6 tyX6_ok nmX6 rfl (by decide) ln_X6_insertMessage_54 hX (by first | decide | omega) rfl w30 rfl rfl rfl rfl (Nat.le_of_ble_eq_true rfl) dX6_insertMessage_127 (fun Ez20 hE19 => ?_)
                      have f22 : Ez20 (34) = aI cI 12 (M 4) := va_up_of hE19 (by first | decide | omega) w34
                      have f23 : Ez20 (35) = aI cI 6 (va_up (shu sz j (M 0 7)) (j) (M 0 6)) := va_up_of hE19 (by first | decide | omega) w35
                      have f24 : Ez20 (36) = aI cI 6 (va_up (shu co j (M 0 7)) (j) (col)) := va_up_of hE19 (by first | decide | omega) w36
                      have f25 : Ez20 (37) = aI cI 72 lt3 := va_up_of hE19 (by first | decide | omega) w37
                      have f26 : Ez20 (30) = .inr (6, [.int (nI (M 0 0)), .int (nI (M 0 1)), .int (nI (M 0 2)), .int (shI (M 0 8)), .int (nI (M 0 3)), .int (nI (M 0 4)), .int (nI (M 0 5)), .ref (ad 31), .ref (ad 32), .ref (ad 33), .int (nI (M 0 6)), .ref (ad 34), .int (nI ((M 0 7) + 1)), .ref (ad 35), .ref (ad 36), .ref (ad 37), .int (nI (sp)), .ref (ad 38), .ref (ad 39)]) := va_up_eq hE19
                      have g27 : ∀ k : Nat, (k ≠ 30 ∧ k ≠ 35 ∧ k ≠ 36 ∧ k ≠ 37) → Ez20 k = E k := fun k hk => va_up_of hE19 (by omega) (wf k hk)
                      refine z_aload_n C dX6_insertMessage_130 rfl ?_
                      have hR2 : RelM cI ad (insM M j col) Ez20 := ⟨gl, _, _, _, sp, f26, ((g27 _ (by omega)).trans e31), ((g27 _ (by omega)).trans e32), ((g27 _ (by omega)).trans e33), f22, f23, f24, f25, hms.mv (g27 _ (by omega)) (g27 _ (by omega)), (by show M 0 7 + 1 ≤ 6; omega), hgl, (rel_ins hI.1 hj.2 hrel hl (fun q hq => hw1 q (by omega)) hw2)⟩
                      have hI2 : Inv0 (insM M j col) := inv0_ins hI.1 hj.2 hcol h6 h7
                      refine z_callVI C (30) (Cn := RX6) (T := TX6) (N := 19) (k_settle vl D cI cM A ad Ez20 hX hI2 hR2) (cwV 0 C.2.2.2.2.1 gX6_insertMessage_X6_settles rfl rfl rfl (by decide +kernel) ⟨Nat.le_of_ble_eq_true rfl, Nat.le_of_ble_eq_true rfl⟩) rfl (by first | decide | omega) rfl f26 rfl rfl (Nat.le_of_ble_eq_true rfl) ⟨Nat.zero_le _, Nat.zero_le _⟩ dX6_insertMessage_131 (fun r30 Ez28 hp29 => ?_)
                      obtain ⟨hr3, hR3, hf3⟩ := hp29
                      have hf4 : ∀ k : Nat, k < 30 → Ez28 k = E k := fun k hk => (hf3 k (by omega)).trans (g27 k (by omega))
                      subst hr3
                      exact hend _ _ _ _ dX6_insertMessage_134 (⟨by rw [hop], by rw [hop]; exact hR3, hf4⟩)
                    · refine z_aload_n C dX6_insertMessage_97 rfl ?_
                      refine z_get C (30) (Cn := RX6) (T := TX6) (N := 19) (fi := 15) iw_X6_insertMessage_6 rfl (by decide) ln_X6_insertMessage_41 (by first | decide | omega) rfl w30 rfl dX6_insertMessage_98 ?_
                      refine z_bipush C (nI (12)) dX6_insertMessage_101 (by decide) ?_
                      refine z_iload_n C dX6_insertMessage_103 rfl ?_
                      refine z_imulN C  dX6_insertMessage_104 ?_
                      refine z_iload_n C dX6_insertMessage_105 rfl ?_
                      refine z_iaddN C  dX6_insertMessage_106 ?_
                      refine z_aload_n C dX6_insertMessage_107 rfl ?_
                      refine z_get C (30) (Cn := RX6) (T := TX6) (N := 19) (fi := 11) iw_X6_insertMessage_6 rfl (by decide) ln_X6_insertMessage_32 (by first | decide | omega) rfl w30 rfl dX6_insertMessage_108 ?_
                      refine z_iload_n C dX6_insertMessage_111 rfl ?_
                      refine z_ialdG C (34) (by first | decide | omega) rfl w34 (by omega) (by decide) dX6_insertMessage_112 ?_
                      refine z_iastG C (37) hX (by first | decide | omega) rfl w37 (by omega) (by decide) dX6_insertMessage_113 (fun Ez32 hE31 => ?_)
                      have f33 : Ez32 (30) = .inr (6, [.int (nI (M 0 0)), .int (nI (M 0 1)), .int (nI (M 0 2)), .int (shI (M 0 8)), .int (nI (M 0 3)), .int (nI (M 0 4)), .int (nI (M 0 5)), .ref (ad 31), .ref (ad 32), .ref (ad 33), .int (nI (M 0 6)), .ref (ad 34), .int (nI (M 0 7)), .ref (ad 35), .ref (ad 36), .ref (ad 37), .int (nI (sp)), .ref (ad 38), .ref (ad 39)]) := va_up_of hE31 (by first | decide | omega) w30
                      have f34 : Ez32 (34) = aI cI 12 (M 4) := va_up_of hE31 (by first | decide | omega) w34
                      have f35 : Ez32 (35) = aI cI 6 (va_up (shu sz j (M 0 7)) (j) (M 0 6)) := va_up_of hE31 (by first | decide | omega) w35
                      have f36 : Ez32 (36) = aI cI 6 (va_up (shu co j (M 0 7)) (j) (col)) := va_up_of hE31 (by first | decide | omega) w36
                      have f38 : Ez32 (37) = aI cI 72 (va_up lt3 ((12 * j) + k) ((M 4) (k))) := va_up_eq hE31
                      have g39 : ∀ k : Nat, (k ≠ 30 ∧ k ≠ 35 ∧ k ≠ 36 ∧ k ≠ 37) → Ez32 k = E k := fun k hk => va_up_of hE31 (by omega) (wf k hk)
                      refine z_iincN (j := 1) C [(0, .ref (ad 30)), (1, .int (nI (j))), (2, .int (nI (col))), (3, .int (nI (k + 1)))] dX6_insertMessage_114 rfl (by decide) ⟨rfl, rfl, rfl, rfl, rfl, rfl, rfl, rfl, trivial⟩ ?_
                      refine z_goto C 89 dX6_insertMessage_117 (by decide) ?_
                      refine z_lv [(0, .ref (ad 30)), (1, .int (nI (j))), (2, .int (nI (col))), (3, .int (nI (k + 1)))] ⟨rfl, rfl, rfl, rfl, rfl, rfl, rfl, rfl, trivial⟩ ?_
                      exact ih89 (k + 1) (va_up lt3 (12 * j + k) (M 4 k)) Ez32 (by omega) (ci_1 hw1) (ci_2 hw2 (by omega)) f33 f34 f35 f36 f38 g39 (by omega)
                refine z_lv [(0, .ref (ad 30)), (1, .int (nI (j))), (2, .int (nI (col))), (3, .int (nI (0)))] ⟨rfl, rfl, rfl, rfl, rfl, rfl, rfl, rfl, trivial⟩ ?_
                exact loop89 (13) 0 lt2 Ez11 (Nat.zero_le _) (fun q hq => absurd hq (Nat.not_lt_zero _)) (fun _ _ => rfl) f12 f13 f16 f17 f15 g18 (by omega)
              · refine z_aload_n C dX6_insertMessage_56 rfl ?_
                refine z_iload_n C dX6_insertMessage_57 rfl ?_
                refine z_iconst C (nI (1)) dX6_insertMessage_58 (by decide) ?_
                refine z_isubN C (by omega) dX6_insertMessage_59 ?_
                refine z_iload_n C dX6_insertMessage_60 rfl ?_
                refine z_callVV C (30) (Cn := RX6) (T := TX6) (N := 19) (k_X6_copies vl D cI cM A ad E2 hX q30 q35 q36 q37 (by omega) (by omega) (by omega)) (cwV 2 C.2.2.2.2.1 gX6_insertMessage_X6_copies rfl rfl rfl (by decide +kernel) ⟨Nat.le_of_ble_eq_true rfl, Nat.le_of_ble_eq_true rfl⟩) rfl (by first | decide | omega) rfl q30 rfl rfl (Nat.le_of_ble_eq_true rfl) ⟨Nat.zero_le _, Nat.zero_le _⟩ dX6_insertMessage_61 (fun Ez40 hp41 => ?_)
                obtain ⟨v35, v36, ⟨lt3, v37, hl1, hl2⟩, hgc⟩ := hp41
                have f42 : Ez40 (30) = .inr (6, [.int (nI (M 0 0)), .int (nI (M 0 1)), .int (nI (M 0 2)), .int (shI (M 0 8)), .int (nI (M 0 3)), .int (nI (M 0 4)), .int (nI (M 0 5)), .ref (ad 31), .ref (ad 32), .ref (ad 33), .int (nI (M 0 6)), .ref (ad 34), .int (nI (M 0 7)), .ref (ad 35), .ref (ad 36), .ref (ad 37), .int (nI (sp)), .ref (ad 38), .ref (ad 39)]) := (hgc (30) (by omega)).trans q30
                have f43 : Ez40 (34) = aI cI 12 (M 4) := (hgc (34) (by omega)).trans q34
                have g44 : ∀ k : Nat, (k ≠ 30 ∧ k ≠ 35 ∧ k ≠ 36 ∧ k ≠ 37) → Ez40 k = E k := fun k hk => (hgc k (by omega)).trans (qf k hk)
                refine z_iinc C [(0, .ref (ad 30)), (1, .int (nI (j))), (2, .int (nI (col))), (3, .int (nI (m - 1)))] dX6_insertMessage_64 rfl (nI_dec (by omega)) (by decide) ⟨rfl, rfl, rfl, rfl, rfl, rfl, rfl, rfl, trivial⟩ ?_
                refine z_goto C 51 dX6_insertMessage_67 (by decide) ?_
                refine z_lv [(0, .ref (ad 30)), (1, .int (nI (j))), (2, .int (nI (col))), (3, .int (nI (m - 1)))] ⟨rfl, rfl, rfl, rfl, rfl, rfl, rfl, rfl, trivial⟩ ?_
                exact ih51 (m - 1) lt3 Ez40 (by omega) (lu_s (by omega) hm.2 hl hl1 hl2) f42 f43 (v35.trans (by rw [shu_s (by omega) hm.2])) (v36.trans (by rw [shu_s (by omega) hm.2])) v37 g44 (by omega)
          refine z_lv [(0, .ref (ad 30)), (1, .int (nI (j))), (2, .int (nI (col))), (3, .int (nI (M 0 7)))] ⟨rfl, rfl, rfl, rfl, rfl, rfl, rfl, rfl, trivial⟩ ?_
          exact loop51 (M 0 7 + 1) (M 0 7) lt E ⟨hj.2, Nat.le_refl _⟩ (fun i q _ => by rw [shu_0]) e30 e34 (by rw [shu_0]; exact e35) (by rw [shu_0]; exact e36) e37 (fun _ _ => rfl) (by omega)
        · have hop := hop0.trans ((if_neg h6).trans (if_neg h7))
          refine z_iload_n C dX6_insertMessage_0 rfl ?_
          refine z_iconst C (nI (0)) dX6_insertMessage_1 (by decide) ?_
          refine z_aload_n C dX6_insertMessage_2 rfl ?_
          refine z_get C (30) (Cn := RX6) (T := TX6) (N := 19) (fi := 12) iw_X6_insertMessage_6 rfl (by decide) ln_X6_insertMessage_54 (by first | decide | omega) rfl e30 rfl dX6_insertMessage_3 ?_
          refine z_callSF C (k_X6_in vl D cI cM A ad E hX (nI (j)) (nI (0)) (nI (M 0 7))) (va_cwS 3 C.2.2.2.2.1 gX6_insertMessage_X6_in rfl rfl rfl (by decide +kernel) ⟨Nat.le_of_ble_eq_true rfl, Nat.le_of_ble_eq_true rfl⟩) rfl rfl (Nat.le_of_ble_eq_true rfl) ⟨Nat.zero_le _, Nat.zero_le _⟩ dX6_insertMessage_6 ?_
          refine z_top (nI (1)) (iw_yN hj (by omega)) ?_
          refine z_if_eqN C 21 (by omega) dX6_insertMessage_9 (by decide) (fun h9 => (by exfalso; omega)) (fun h9 => ?_)
          refine z_iload_n C dX6_insertMessage_12 rfl ?_
          refine z_iconst C (nI (1)) dX6_insertMessage_13 (by decide) ?_
          refine z_iconst C (nI (3)) dX6_insertMessage_14 (by decide) ?_
          refine z_callSF C (k_X6_in vl D cI cM A ad E hX (nI (col)) (nI (1)) (nI (3))) (va_cwS 3 C.2.2.2.2.1 gX6_insertMessage_X6_in rfl rfl rfl (by decide +kernel) ⟨Nat.le_of_ble_eq_true rfl, Nat.le_of_ble_eq_true rfl⟩) rfl rfl (Nat.le_of_ble_eq_true rfl) ⟨Nat.zero_le _, Nat.zero_le _⟩ dX6_insertMessage_15 ?_
          refine z_top (nI (1)) (iw_yN hcol (by omega)) ?_
          refine z_if_neN C 24 (by omega) dX6_insertMessage_18 (by decide) (fun h18 => ?_) (fun h18 => (by exfalso; omega))
          refine z_aload_n C dX6_insertMessage_24 rfl ?_
          refine z_get C (30) (Cn := RX6) (T := TX6) (N := 19) (fi := 10) iw_X6_insertMessage_6 rfl (by decide) ln_X6_insertMessage_80 (by first | decide | omega) rfl e30 rfl dX6_insertMessage_25 ?_
          refine z_if_neN C 34 (by omega) dX6_insertMessage_28 (by decide) (fun h28 => ?_) (fun h28 => (by exfalso; omega))
          refine z_aload_n C dX6_insertMessage_34 rfl ?_
          refine z_get C (30) (Cn := RX6) (T := TX6) (N := 19) (fi := 12) iw_X6_insertMessage_6 rfl (by decide) ln_X6_insertMessage_54 (by first | decide | omega) rfl e30 rfl dX6_insertMessage_35 ?_
          refine z_bipush C (nI (6)) dX6_insertMessage_38 (by decide) ?_
          refine z_icmp_neN C 46 (by omega) (by omega) dX6_insertMessage_40 (by decide) (fun h40 => (by exfalso; omega)) (fun h40 => ?_)
          refine z_bipush C (-13) dX6_insertMessage_43 (by decide) ?_
          exact hend _ _ _ _ dX6_insertMessage_45 (⟨by rw [hop], by rw [hop]; exact hR, fun _ _ => rfl⟩)
    · have hop : o_insertMessage M (nI j) y = (-11, M) := (wr_y hj (by omega)).trans (wr_n hy)
      refine z_iload_n C dX6_insertMessage_0 rfl ?_
      refine z_iconst C (nI (0)) dX6_insertMessage_1 (by decide) ?_
      refine z_aload_n C dX6_insertMessage_2 rfl ?_
      refine z_get C (30) (Cn := RX6) (T := TX6) (N := 19) (fi := 12) iw_X6_insertMessage_6 rfl (by decide) ln_X6_insertMessage_54 (by first | decide | omega) rfl e30 rfl dX6_insertMessage_3 ?_
      refine z_callSF C (k_X6_in vl D cI cM A ad E hX (nI (j)) (nI (0)) (nI (M 0 7))) (va_cwS 3 C.2.2.2.2.1 gX6_insertMessage_X6_in rfl rfl rfl (by decide +kernel) ⟨Nat.le_of_ble_eq_true rfl, Nat.le_of_ble_eq_true rfl⟩) rfl rfl (Nat.le_of_ble_eq_true rfl) ⟨Nat.zero_le _, Nat.zero_le _⟩ dX6_insertMessage_6 ?_
      refine z_top (nI (1)) (iw_yN hj (by omega)) ?_
      refine z_if_eqN C 21 (by omega) dX6_insertMessage_9 (by decide) (fun h9 => (by exfalso; omega)) (fun h9 => ?_)
      refine z_iload_n C dX6_insertMessage_12 rfl ?_
      refine z_iconst C (nI (1)) dX6_insertMessage_13 (by decide) ?_
      refine z_iconst C (nI (3)) dX6_insertMessage_14 (by decide) ?_
      refine z_callSF C (k_X6_in vl D cI cM A ad E hX (y) (nI (1)) (nI (3))) (va_cwS 3 C.2.2.2.2.1 gX6_insertMessage_X6_in rfl rfl rfl (by decide +kernel) ⟨Nat.le_of_ble_eq_true rfl, Nat.le_of_ble_eq_true rfl⟩) rfl rfl (Nat.le_of_ble_eq_true rfl) ⟨Nat.zero_le _, Nat.zero_le _⟩ dX6_insertMessage_15 ?_
      refine z_top (nI (0)) (iw_n hy) ?_
      refine z_if_neN C 24 (by omega) dX6_insertMessage_18 (by decide) (fun h18 => (by exfalso; omega)) (fun h18 => ?_)
      refine z_bipush C (-11) dX6_insertMessage_21 (by decide) ?_
      exact hend _ _ _ _ dX6_insertMessage_23 (⟨by rw [hop], by rw [hop]; exact hR, fun _ _ => rfl⟩)
  · have hop : o_insertMessage M x y = (-11, M) := wr_n hx
    refine z_iload_n C dX6_insertMessage_0 rfl ?_
    refine z_iconst C (nI (0)) dX6_insertMessage_1 (by decide) ?_
    refine z_aload_n C dX6_insertMessage_2 rfl ?_
    refine z_get C (30) (Cn := RX6) (T := TX6) (N := 19) (fi := 12) iw_X6_insertMessage_6 rfl (by decide) ln_X6_insertMessage_54 (by first | decide | omega) rfl e30 rfl dX6_insertMessage_3 ?_
    refine z_callSF C (k_X6_in vl D cI cM A ad E hX (x) (nI (0)) (nI (M 0 7))) (va_cwS 3 C.2.2.2.2.1 gX6_insertMessage_X6_in rfl rfl rfl (by decide +kernel) ⟨Nat.le_of_ble_eq_true rfl, Nat.le_of_ble_eq_true rfl⟩) rfl rfl (Nat.le_of_ble_eq_true rfl) ⟨Nat.zero_le _, Nat.zero_le _⟩ dX6_insertMessage_6 ?_
    refine z_top (nI (0)) (iw_n hx) ?_
    refine z_if_eqN C 21 (by omega) dX6_insertMessage_9 (by decide) (fun h9 => ?_) (fun h9 => (by exfalso; omega))
    refine z_bipush C (-11) dX6_insertMessage_21 (by decide) ?_
    exact hend _ _ _ _ dX6_insertMessage_23 (⟨by rw [hop], by rw [hop]; exact hR, fun _ _ => rfl⟩)

theorem iw_X6_removeMessage_6 : ∀ w ∈ wsX60, w ∈ wsX6_removeMessage := by decide +kernel
theorem ln_X6_removeMessage_54 : Cond.fieldLink RX6 54 "MarqueeDisplayModel" "messages" "I" ∈ wsX6_removeMessage := by decide +kernel
set_option maxHeartbeats 4000000 in
set_option maxRecDepth 100000 in
theorem k_X6_removeMessage (vl : Launch) (D : va_G) (cI cM : ClassId) (A : Nat → Prop) (ad : Nat → Nat) (E : Nat → va_E) (hX : XD A 40 ad) {M : St} (x : Int32) (hI : Inv M) (hR : RelM cI ad M E) : MI vl yX6_removeMessage wsX6_removeMessage { frames := 4, cells := 0, slots := 0, locals := 87 } D cI cM A 40 ad E [.ref (ad 30), .int (x)] (fun r E1 => r = (o_removeMessage M x).1 ∧ RelM cI ad (o_removeMessage M x).2 E1 ∧ ∀ k : Nat, (k < 30) → E1 k = E k) := by
  refine mi_of cX6_removeMessage 3 (.int) RX6 (by decide) rfl rfl (Nat.le_of_ble_eq_true rfl) (fun r E1 h => rfl) ?_
  intro vp ve vs vm va vb vt vc Q C hend
  refine z_lv [(0, .ref (ad 30)), (1, .int (x))] ⟨rfl, rfl, rfl, rfl, trivial⟩ ?_
  obtain ⟨gl, sz, co, lt, sp, e30, e31, e32, e33, e34, e35, e36, e37, hms, hn6, hgl, hrel⟩ := id hR
  obtain ⟨⟨iW1, iW2⟩, iG, ⟨iS1, iS2⟩, ⟨iB1, iB2⟩, iO, iC, iT, iN, iSh, iWd, iDt, iZ, iDf, iDz, iTx, iMs⟩ := id hI.1
  have hLM := hI.1.LM_le
  have hsl := hI.1.slen
  have hww := hI.1.ws
  have hld : ∀ a, ldM M a ≤ 512 := fun a => Nat.le_trans (ldS_le _ _ _ _ _) (by omega)
  have hl4 := hld (M 0 4)
  have hsz : ∀ i, i < M 0 7 → (1 ≤ sz i ∧ sz i ≤ 12) ∧ ∀ k, k < sz i → ltr lt i k < 27 := fun i hi => by
    obtain ⟨h1, h2, h3⟩ := hrel i hi
    have h4 := iMs i hi
    rw [h1]
    exact ⟨h4.1, fun k hk => by rw [h3 k hk]; exact h4.2.2 k hk⟩
  have hLe : sL (M 1) (M 0 1) sz (ltr lt) (M 0 7) = LM M := sL_cg (fun i hi => ⟨(hrel i hi).1, fun k hk => (hrel i hi).2.2 k (by rw [← (hrel i hi).1]; exact hk)⟩)
  have hst : scols (M 1) (M 2) (M 0 1) sz co (ltr lt) (M 0 7) = stripM M := scols_cg (fun i hi => ⟨(hrel i hi).1, (hrel i hi).2.1, fun k hk => (hrel i hi).2.2 k (by rw [← (hrel i hi).1]; exact hk)⟩)
  by_cases hx : ∃ j : Nat, j < M 0 7 ∧ x = nI j
  · obtain ⟨j, hj, rfl⟩ := hx
    have hop : o_removeMessage M (nI j) = (nI (LM (delM M j)), settle (delM M j)) := wn_y hj (by omega)
    refine z_aload_n C dX6_removeMessage_0 rfl ?_
    refine z_iload_n C dX6_removeMessage_1 rfl ?_
    refine z_callVF C (30) (Cn := RX6) (T := TX6) (N := 19) (k_isMsg_y vl D cI cM A ad E hX e30 hj hn6) (cwV 1 C.2.2.2.2.1 gX6_removeMessage_X6_isMessage rfl rfl rfl (by decide +kernel) ⟨Nat.le_of_ble_eq_true rfl, Nat.le_of_ble_eq_true rfl⟩) rfl (by first | decide | omega) rfl e30 rfl rfl (Nat.le_of_ble_eq_true rfl) ⟨Nat.zero_le _, Nat.zero_le _⟩ dX6_removeMessage_2 ?_
    refine z_if_neN C 11 (by omega) dX6_removeMessage_5 (by decide) (fun h5 => ?_) (fun h5 => (by exfalso; omega))
    refine z_aload_n C dX6_removeMessage_11 rfl ?_
    refine z_dup C dX6_removeMessage_12 rfl ?_
    refine z_get C (30) (Cn := RX6) (T := TX6) (N := 19) (fi := 12) iw_X6_removeMessage_6 rfl (by decide) ln_X6_removeMessage_54 (by first | decide | omega) rfl e30 rfl dX6_removeMessage_13 ?_
    refine z_iconst C (nI (1)) dX6_removeMessage_16 (by decide) ?_
    refine z_isubN C (by omega) dX6_removeMessage_17 ?_
    refine z_put C (30) (Cn := RX6) (T := TX6) (N := 19) (fi := 12) tyX6 iw_X6_removeMessage_6 tyX6_ok nmX6 rfl (by decide) ln_X6_removeMessage_54 hX (by first | decide | omega) rfl e30 rfl rfl rfl rfl (Nat.le_of_ble_eq_true rfl) dX6_removeMessage_18 (fun Ez2 hE1 => ?_)
    have f4 : Ez2 (31) = aI cI 27 (M 1) := va_up_of hE1 (by first | decide | omega) e31
    have f5 : Ez2 (32) = aI cI 162 gl := va_up_of hE1 (by first | decide | omega) e32
    have f6 : Ez2 (33) = aI cI 32 (M 3) := va_up_of hE1 (by first | decide | omega) e33
    have f7 : Ez2 (34) = aI cI 12 (M 4) := va_up_of hE1 (by first | decide | omega) e34
    have f8 : Ez2 (35) = aI cI 6 sz := va_up_of hE1 (by first | decide | omega) e35
    have f9 : Ez2 (36) = aI cI 6 co := va_up_of hE1 (by first | decide | omega) e36
    have f10 : Ez2 (37) = aI cI 72 lt := va_up_of hE1 (by first | decide | omega) e37
    have f11 : Ez2 (30) = .inr (6, [.int (nI (M 0 0)), .int (nI (M 0 1)), .int (nI (M 0 2)), .int (shI (M 0 8)), .int (nI (M 0 3)), .int (nI (M 0 4)), .int (nI (M 0 5)), .ref (ad 31), .ref (ad 32), .ref (ad 33), .int (nI (M 0 6)), .ref (ad 34), .int (nI ((M 0 7) - 1)), .ref (ad 35), .ref (ad 36), .ref (ad 37), .int (nI (sp)), .ref (ad 38), .ref (ad 39)]) := va_up_eq hE1
    have g12 : ∀ k : Nat, (k ≠ 30 ∧ k ≠ 35 ∧ k ≠ 36 ∧ k ≠ 37) → Ez2 k = E k := fun k hk => va_up_of hE1 (by omega) ((fun _ _ => rfl) k hk)
    refine z_iload_n C dX6_removeMessage_21 rfl ?_
    refine z_istore_n C [(0, .ref (ad 30)), (1, .int (nI (j))), (2, .int (nI (j)))] dX6_removeMessage_22 (by decide) ⟨rfl, rfl, rfl, rfl, rfl, rfl, trivial⟩ ?_
    have loop23 : ∀ (fuel : Nat) (m : Nat) (lt2 : Nat → Nat) (E2 : Nat → va_E), (hm : j ≤ m ∧ m ≤ M 0 7 - 1) → (hl : ∀ i q, q < 12 → lt2 (12 * i + q) = lt (12 * shd (fun k => k) j m i + q)) → (q30 : E2 (30) = .inr (6, [.int (nI (M 0 0)), .int (nI (M 0 1)), .int (nI (M 0 2)), .int (shI (M 0 8)), .int (nI (M 0 3)), .int (nI (M 0 4)), .int (nI (M 0 5)), .ref (ad 31), .ref (ad 32), .ref (ad 33), .int (nI (M 0 6)), .ref (ad 34), .int (nI (M 0 7 - 1)), .ref (ad 35), .ref (ad 36), .ref (ad 37), .int (nI (sp)), .ref (ad 38), .ref (ad 39)])) → (q34 : E2 (34) = aI cI 12 (M 4)) → (q35 : E2 (35) = aI cI 6 (shd sz j m)) → (q36 : E2 (36) = aI cI 6 (shd co j m)) → (q37 : E2 (37) = aI cI 72 lt2) → (qf : ∀ k : Nat, (k ≠ 30 ∧ k ≠ 35 ∧ k ≠ 36 ∧ k ≠ 37) → E2 k = E k) → 6 - m < fuel → Z vp vl ve { frames := 4, cells := 0, slots := 0, locals := 87 } vs vm va vb vt vc 3 D A 40 ad E2 [(0, .ref (ad 30)), (1, .int (nI (j))), (2, .int (nI (m)))] 0 0 Q 23 [] := by
      intro fuel
      induction fuel with
      | zero => intro m lt2 E2 hm hl q30 q34 q35 q36 q37 qf hlt; exact absurd hlt (Nat.not_lt_zero _)
      | succ fuel ih =>
        intro m lt2 E2 hm hl q30 q34 q35 q36 q37 qf hlt
        have ih23 := ih
        refine z_iload_n C dX6_removeMessage_23 rfl ?_
        refine z_aload_n C dX6_removeMessage_24 rfl ?_
        refine z_get C (30) (Cn := RX6) (T := TX6) (N := 19) (fi := 12) iw_X6_removeMessage_6 rfl (by decide) ln_X6_removeMessage_54 (by first | decide | omega) rfl q30 rfl dX6_removeMessage_25 ?_
        refine z_icmp_geN C 45 (by omega) (by omega) dX6_removeMessage_28 (by decide) (fun h28 => ?_) (fun h28 => ?_)
        · have hme : m = M 0 7 - 1 := by omega
          rw [hme] at hl q35 q36
          refine z_aload_n C dX6_removeMessage_45 rfl ?_
          have hR2 : RelM cI ad (delM M j) E2 := ⟨gl, _, _, _, sp, q30, ((qf _ (by omega)).trans e31), ((qf _ (by omega)).trans e32), ((qf _ (by omega)).trans e33), q34, q35, q36, q37, hms.mv (qf _ (by omega)) (qf _ (by omega)), (by show M 0 7 - 1 ≤ 6; omega), hgl, (rel_del hI.1 hj hrel hl)⟩
          have hI2 : Inv0 (delM M j) := inv0_del hI.1 hj
          refine z_callVI C (30) (Cn := RX6) (T := TX6) (N := 19) (k_settle vl D cI cM A ad E2 hX hI2 hR2) (cwV 0 C.2.2.2.2.1 gX6_removeMessage_X6_settles rfl rfl rfl (by decide +kernel) ⟨Nat.le_of_ble_eq_true rfl, Nat.le_of_ble_eq_true rfl⟩) rfl (by first | decide | omega) rfl q30 rfl rfl (Nat.le_of_ble_eq_true rfl) ⟨Nat.zero_le _, Nat.zero_le _⟩ dX6_removeMessage_46 (fun r15 Ez13 hp14 => ?_)
          obtain ⟨hr3, hR3, hf3⟩ := hp14
          have hf4 : ∀ k : Nat, k < 30 → Ez13 k = E k := fun k hk => (hf3 k (by omega)).trans (qf k (by omega))
          subst hr3
          exact hend _ _ _ _ dX6_removeMessage_49 (⟨by rw [hop], by rw [hop]; exact hR3, hf4⟩)
        · refine z_aload_n C dX6_removeMessage_31 rfl ?_
          refine z_iload_n C dX6_removeMessage_32 rfl ?_
          refine z_iconst C (nI (1)) dX6_removeMessage_33 (by decide) ?_
          refine z_iaddN C  dX6_removeMessage_34 ?_
          refine z_iload_n C dX6_removeMessage_35 rfl ?_
          refine z_callVV C (30) (Cn := RX6) (T := TX6) (N := 19) (k_X6_copies vl D cI cM A ad E2 hX q30 q35 q36 q37 (by omega) (by omega) (by omega)) (cwV 2 C.2.2.2.2.1 gX6_removeMessage_X6_copies rfl rfl rfl (by decide +kernel) ⟨Nat.le_of_ble_eq_true rfl, Nat.le_of_ble_eq_true rfl⟩) rfl (by first | decide | omega) rfl q30 rfl rfl (Nat.le_of_ble_eq_true rfl) ⟨Nat.zero_le _, Nat.zero_le _⟩ dX6_removeMessage_36 (fun Ez16 hp17 => ?_)
          obtain ⟨v35, v36, ⟨lt3, v37, hl1, hl2⟩, hgc⟩ := hp17
          have f18 : Ez16 (30) = .inr (6, [.int (nI (M 0 0)), .int (nI (M 0 1)), .int (nI (M 0 2)), .int (shI (M 0 8)), .int (nI (M 0 3)), .int (nI (M 0 4)), .int (nI (M 0 5)), .ref (ad 31), .ref (ad 32), .ref (ad 33), .int (nI (M 0 6)), .ref (ad 34), .int (nI (M 0 7 - 1)), .ref (ad 35), .ref (ad 36), .ref (ad 37), .int (nI (sp)), .ref (ad 38), .ref (ad 39)]) := (hgc (30) (by omega)).trans q30
          have f19 : Ez16 (34) = aI cI 12 (M 4) := (hgc (34) (by omega)).trans q34
          have g20 : ∀ k : Nat, (k ≠ 30 ∧ k ≠ 35 ∧ k ≠ 36 ∧ k ≠ 37) → Ez16 k = E k := fun k hk => (hgc k (by omega)).trans (qf k hk)
          refine z_iincN (j := 1) C [(0, .ref (ad 30)), (1, .int (nI (j))), (2, .int (nI (m + 1)))] dX6_removeMessage_39 rfl (by decide) ⟨rfl, rfl, rfl, rfl, rfl, rfl, trivial⟩ ?_
          refine z_goto C 23 dX6_removeMessage_42 (by decide) ?_
          refine z_lv [(0, .ref (ad 30)), (1, .int (nI (j))), (2, .int (nI (m + 1)))] ⟨rfl, rfl, rfl, rfl, rfl, rfl, trivial⟩ ?_
          exact ih23 (m + 1) lt3 Ez16 (by omega) (ld_s hm.1 hl hl1 hl2) f18 f19 (v35.trans (by rw [shd_s hm.1])) (v36.trans (by rw [shd_s hm.1])) v37 g20 (by omega)
    refine z_lv [(0, .ref (ad 30)), (1, .int (nI (j))), (2, .int (nI (j)))] ⟨rfl, rfl, rfl, rfl, rfl, rfl, trivial⟩ ?_
    exact loop23 (7) j lt Ez2 ⟨Nat.le_refl _, by omega⟩ (fun i q _ => by rw [shd_0]) f11 f7 (f8.trans (by rw [shd_0])) (f9.trans (by rw [shd_0])) f10 g12 (by omega)
  · have hop : o_removeMessage M x = (-11, M) := wn_n (by omega) hx
    refine z_aload_n C dX6_removeMessage_0 rfl ?_
    refine z_iload_n C dX6_removeMessage_1 rfl ?_
    refine z_callVF C (30) (Cn := RX6) (T := TX6) (N := 19) (k_isMsg_n vl D cI cM A ad E hX e30 hx hn6) (cwV 1 C.2.2.2.2.1 gX6_removeMessage_X6_isMessage rfl rfl rfl (by decide +kernel) ⟨Nat.le_of_ble_eq_true rfl, Nat.le_of_ble_eq_true rfl⟩) rfl (by first | decide | omega) rfl e30 rfl rfl (Nat.le_of_ble_eq_true rfl) ⟨Nat.zero_le _, Nat.zero_le _⟩ dX6_removeMessage_2 ?_
    refine z_if_neN C 11 (by omega) dX6_removeMessage_5 (by decide) (fun h5 => (by exfalso; omega)) (fun h5 => ?_)
    refine z_bipush C (-11) dX6_removeMessage_8 (by decide) ?_
    exact hend _ _ _ _ dX6_removeMessage_10 (⟨by rw [hop], by rw [hop]; exact hR, fun _ _ => rfl⟩)

