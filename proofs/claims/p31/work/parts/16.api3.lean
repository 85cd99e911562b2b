theorem PM_ins {pm : Nat → Nat} (h : PM pm) {j n : Nat} (hj : j ≤ n) (hn : n < 6) : PM (va_up (shu pm j n) j (pm n)) := by
  have key : ∀ i, i < 6 → ∃ k, k < 6 ∧ va_up (shu pm j n) j (pm n) i = pm k ∧ ((i = j ∧ k = n) ∨ (i ≠ j ∧ (j < i ∧ i ≤ n) ∧ k = i - 1) ∨ (i ≠ j ∧ ¬ (j < i ∧ i ≤ n) ∧ k = i)) := by
    intro i hi
    by_cases e : i = j
    · subst e; exact ⟨n, hn, va_up_self _ _ _, Or.inl ⟨rfl, rfl⟩⟩
    · rw [va_up_ne _ _ e]
      by_cases q : j < i ∧ i ≤ n
      · exact ⟨i - 1, by omega, by show (if j < i ∧ i ≤ n then pm (i - 1) else pm i) = _; rw [if_pos q], Or.inr (Or.inl ⟨e, q, rfl⟩)⟩
      · exact ⟨i, hi, by show (if j < i ∧ i ≤ n then pm (i - 1) else pm i) = _; rw [if_neg q], Or.inr (Or.inr ⟨e, q, rfl⟩)⟩
  refine ⟨fun i hi => ?_, fun i k hi hk e => ?_⟩
  · obtain ⟨a, ha, ea, -⟩ := key i hi
    rw [ea]; exact h.1 a ha
  · obtain ⟨a, ha, ea, fa⟩ := key i hi
    obtain ⟨b, hb, eb, fb⟩ := key k hk
    rw [ea, eb] at e
    have hab := h.2 a b ha hb e
    subst hab
    omega
theorem PM_del {pm : Nat → Nat} (h : PM pm) {j n : Nat} (hj : j < n) (hn : n ≤ 6) : PM (va_up (shd pm j (n - 1)) (n - 1) (pm j)) := by
  have key : ∀ i, i < 6 → ∃ k, k < 6 ∧ va_up (shd pm j (n - 1)) (n - 1) (pm j) i = pm k ∧ ((i = n - 1 ∧ k = j) ∨ (i ≠ n - 1 ∧ (j ≤ i ∧ i < n - 1) ∧ k = i + 1) ∨ (i ≠ n - 1 ∧ ¬ (j ≤ i ∧ i < n - 1) ∧ k = i)) := by
    intro i hi
    by_cases e : i = n - 1
    · subst e; exact ⟨j, by omega, va_up_self _ _ _, Or.inl ⟨rfl, rfl⟩⟩
    · rw [va_up_ne _ _ e]
      by_cases q : j ≤ i ∧ i < n - 1
      · exact ⟨i + 1, by omega, by show (if j ≤ i ∧ i < n - 1 then pm (i + 1) else pm i) = _; rw [if_pos q], Or.inr (Or.inl ⟨e, q, rfl⟩)⟩
      · exact ⟨i, hi, by show (if j ≤ i ∧ i < n - 1 then pm (i + 1) else pm i) = _; rw [if_neg q], Or.inr (Or.inr ⟨e, q, rfl⟩)⟩
  refine ⟨fun i hi => ?_, fun i k hi hk e => ?_⟩
  · obtain ⟨a, ha, ea, -⟩ := key i hi
    rw [ea]; exact h.1 a ha
  · obtain ⟨a, ha, ea, fa⟩ := key i hi
    obtain ⟨b, hb, eb, fb⟩ := key k hk
    rw [ea, eb] at e
    have hab := h.2 a b ha hb e
    subst hab
    omega
theorem MsgY_ins {cI : ClassId} {ad : Nat → Nat} {M : St} {pm : Nat → Nat} {E E1 : Nat → va_E} (hpm : PM pm) (hI : Inv0 M) (h : MsgY cI ad M pm E) {j col : Nat} (hj : j ≤ M 0 7) (hn : M 0 7 < 6) {st0 wi0 : Int32} {g2 : Nat → Nat} (hM2 : Msg cI ad E1 (pm (M 0 7)) (nI (M 0 6)) (nI col) st0 wi0 g2) (hg2 : ∀ k : Nat, k < 12 → g2 k = M 4 k) (hf : ∀ k : Nat, (k ≠ 6 ∧ k ≠ 7 ∧ k ≠ 8 + 3 * pm (M 0 7) ∧ k ≠ 9 + 3 * pm (M 0 7) ∧ k ≠ 10 + 3 * pm (M 0 7)) → E1 k = E k) : MsgY cI ad (insM M j col) (va_up (shu pm j (M 0 7)) j (pm (M 0 7))) E1 := by
  have old : ∀ i : Nat, i < 6 → i ≠ M 0 7 → ∃ (sz co st wi : Int32) (g : Nat → Nat), Msg cI ad E1 (pm i) sz co st wi g ∧ (i < M 0 7 → sz = nI (M 5 i) ∧ co = nI (M 6 i) ∧ ∀ q : Nat, q < M 5 i → g q = ltr (M 7) i q) := by
    intro i hi hne
    obtain ⟨sz, co, st, wi, g, hM, hg⟩ := h i hi
    have hp := hpm.1 i hi
    have hp2 : pm i ≠ pm (M 0 7) := fun e => hne (hpm.2 i _ hi hn e)
    exact ⟨sz, co, st, wi, g, hM.mv (hf _ (by omega)) (hf _ (by omega)) (hf _ (by omega)), hg⟩
  intro i hi
  have hC : ∀ (P : Prop), (i < insM M j col 0 7 → P) ↔ (i < M 0 7 + 1 → P) := fun P => Iff.rfl
  show ∃ (sz co st wi : Int32) (g : Nat → Nat), Msg cI ad E1 (va_up (shu pm j (M 0 7)) j (pm (M 0 7)) i) sz co st wi g ∧ (i < M 0 7 + 1 → sz = nI (insF (M 5) j (M 0 6) i) ∧ co = nI (insF (M 6) j col i) ∧ ∀ q : Nat, q < insF (M 5) j (M 0 6) i → g q = ltr (insL (M 7) (M 4) j) i q)
  have hms := hI.msz
  rcases Nat.lt_trichotomy i j with e | e | e
  · obtain ⟨sz, co, st, wi, g, hM, hg⟩ := old i hi (by omega)
    have e2 : va_up (shu pm j (M 0 7)) j (pm (M 0 7)) i = pm i := by
      rw [va_up_ne _ _ (by omega)]
      show (if j < i ∧ i ≤ M 0 7 then pm (i - 1) else pm i) = pm i
      rw [if_neg (by omega)]
    rw [e2]
    refine ⟨sz, co, st, wi, g, hM, fun hin => ?_⟩
    obtain ⟨a, b, c⟩ := hg (by omega)
    rw [insF_lt e, insF_lt e]
    exact ⟨a, b, fun q hq => by rw [insL_lt e (by have := (hms i (by omega)).1; omega)]; exact c q hq⟩
  · subst e
    rw [va_up_self]
    refine ⟨_, _, _, _, g2, hM2, fun hin => ?_⟩
    rw [insF_eq, insF_eq]
    have h6 := hI.2.2.2.2.2.2.1
    exact ⟨rfl, rfl, fun q hq => by rw [insL_eq (by omega)]; exact hg2 q (by omega)⟩
  · by_cases hin : i ≤ M 0 7
    · obtain ⟨sz, co, st, wi, g, hM, hg⟩ := old (i - 1) (by omega) (by omega)
      have e2 : va_up (shu pm j (M 0 7)) j (pm (M 0 7)) i = pm (i - 1) := by
        rw [va_up_ne _ _ (by omega)]
        show (if j < i ∧ i ≤ M 0 7 then pm (i - 1) else pm i) = pm (i - 1)
        rw [if_pos (by omega)]
      rw [e2]
      refine ⟨sz, co, st, wi, g, hM, fun _ => ?_⟩
      obtain ⟨a, b, c⟩ := hg (by omega)
      rw [insF_gt e, insF_gt e]
      exact ⟨a, b, fun q hq => by rw [insL_gt e (by have := (hms (i - 1) (by omega)).1; omega)]; exact c q hq⟩
    · obtain ⟨sz, co, st, wi, g, hM, hg⟩ := old i hi (by omega)
      have e2 : va_up (shu pm j (M 0 7)) j (pm (M 0 7)) i = pm i := by
        rw [va_up_ne _ _ (by omega)]
        show (if j < i ∧ i ≤ M 0 7 then pm (i - 1) else pm i) = pm i
        rw [if_neg (by omega)]
      rw [e2]
      exact ⟨sz, co, st, wi, g, hM, fun q => absurd q (by omega)⟩
theorem MsgY_del {cI : ClassId} {ad : Nat → Nat} {M : St} {pm : Nat → Nat} {E E1 : Nat → va_E} (hpm : PM pm) (hI : Inv0 M) (h : MsgY cI ad M pm E) {j : Nat} (hj : j < M 0 7) (hf : ∀ k : Nat, (k ≠ 6 ∧ k ≠ 7) → E1 k = E k) : MsgY cI ad (delM M j) (va_up (shd pm j (M 0 7 - 1)) (M 0 7 - 1) (pm j)) E1 := by
  have h7 := hI.2.2.2.2.2.2.2.1
  have old := MsgY_mv hpm h (E1 := E1) (fun k hk => hf k (by omega))
  intro i hi
  show ∃ (sz co st wi : Int32) (g : Nat → Nat), Msg cI ad E1 (va_up (shd pm j (M 0 7 - 1)) (M 0 7 - 1) (pm j) i) sz co st wi g ∧ (i < M 0 7 - 1 → sz = nI (delF (M 5) j i) ∧ co = nI (delF (M 6) j i) ∧ ∀ q : Nat, q < delF (M 5) j i → g q = ltr (delL (M 7) j) i q)
  have hms := hI.msz
  by_cases e : i = M 0 7 - 1
  · subst e
    rw [va_up_self]
    obtain ⟨sz, co, st, wi, g, hM, hg⟩ := old j (by omega)
    exact ⟨sz, co, st, wi, g, hM, fun q => absurd q (by omega)⟩
  · rw [va_up_ne _ _ e]
    by_cases q : j ≤ i ∧ i < M 0 7 - 1
    · have e2 : shd pm j (M 0 7 - 1) i = pm (i + 1) := by
        show (if j ≤ i ∧ i < M 0 7 - 1 then pm (i + 1) else pm i) = pm (i + 1)
        rw [if_pos q]
      rw [e2]
      obtain ⟨sz, co, st, wi, g, hM, hg⟩ := old (i + 1) (by omega)
      refine ⟨sz, co, st, wi, g, hM, fun _ => ?_⟩
      obtain ⟨a, b, c⟩ := hg (by omega)
      rw [delF_ge q.1, delF_ge q.1]
      exact ⟨a, b, fun p hp => by rw [delL_ge q.1]; exact c p hp⟩
    · have e2 : shd pm j (M 0 7 - 1) i = pm i := by
        show (if j ≤ i ∧ i < M 0 7 - 1 then pm (i + 1) else pm i) = pm i
        rw [if_neg q]
      rw [e2]
      obtain ⟨sz, co, st, wi, g, hM, hg⟩ := old i hi
      refine ⟨sz, co, st, wi, g, hM, fun hin => ?_⟩
      obtain ⟨a, b, c⟩ := hg (by omega)
      rw [delF_lt (by omega), delF_lt (by omega)]
      exact ⟨a, b, fun p hp => by rw [delL_lt (by omega) (by have := (hms i (by omega)).1; omega)]; exact c p hp⟩
theorem iw_X5_insertMessage_5 : ∀ w ∈ wsX50, w ∈ wsX5_insertMessage := by decide +kernel
theorem ln_X5_insertMessage_26 : Cond.fieldLink RX5 26 "MarqueeDisplay" "messages" "LMarqueeDisplay$MessageList;" ∈ wsX5_insertMessage := by decide +kernel
theorem iw_X5_insertMessage_2 : ∀ w ∈ wsX20, w ∈ wsX5_insertMessage := by decide +kernel
theorem nl_X5_104 : Cond.fieldLinkNest RX5 104 "MarqueeDisplay$MessageList" "count" "I" "MarqueeDisplay" ∈ nwL := by decide +kernel
theorem ln_X5_insertMessage_19 : Cond.fieldLink RX5 19 "MarqueeDisplay" "buffer" "LMarqueeDisplay$Text;" ∈ wsX5_insertMessage := by decide +kernel
theorem iw_X5_insertMessage_4 : ∀ w ∈ wsX40, w ∈ wsX5_insertMessage := by decide +kernel
theorem ln_X5_insertMessage_33 : Cond.fieldLink RX5 33 "MarqueeDisplay" "strip" "LMarqueeDisplay$Strip;" ∈ wsX5_insertMessage := by decide +kernel
theorem iw_X5_insertMessage_3 : ∀ w ∈ wsX30, w ∈ wsX5_insertMessage := by decide +kernel
set_option maxHeartbeats 4000000 in
set_option maxRecDepth 100000 in
theorem k_X5_insertMessage (vl : Launch) (D : va_G) (cI cM : ClassId) (A : Nat → Prop) (ad : Nat → Nat) (E : Nat → va_E) (hX : XD A 32 ad) {M : St} (x y : Int32) (hI : Inv M) (hR : RelX cI cM ad M E) : MI vl yX5_insertMessage wsX5_insertMessage { frames := 5, cells := 0, slots := 0, locals := 114 } D cI cM A 32 ad E [.ref (ad 0), .int (x), .int (y)] (fun r E1 => r = (o_insertMessage M x y).1 ∧ RelX cI cM ad (o_insertMessage M x y).2 E1 ∧ ∀ k : Nat, 30 ≤ k → E1 k = E k) := by
  refine mi_of cX5_insertMessage 3 (.int) RX5 (by decide) rfl rfl (Nat.le_of_ble_eq_true rfl) (fun r E1 h => rfl) ?_
  intro vp ve vs vm va vb vt vc Q C hend
  refine z_lv [(0, .ref (ad 0)), (1, .int (x)), (2, .int (y))] ⟨rfl, rfl, rfl, rfl, rfl, rfl, trivial⟩ ?_
  obtain ⟨pm, hY, hMX, hs⟩ := id hR
  obtain ⟨e0, e1, e2, e3, b4, b5, l6, l7, hpm, hn6, hMY, e29⟩ := id hY
  obtain ⟨_, _, s26, -, -, -⟩ := id hs
  rw [strip_len] at s26
  obtain ⟨⟨iW1, iW2⟩, iG, ⟨iS1, iS2⟩, ⟨iB1, iB2⟩, iO, iC, iT, iN, iSh, iWd, iDt, iZ, iDf, iDz, iTx, iMs⟩ := id hI.1
  have hLM := hI.1.LM_le
  have hsl := hI.1.slen
  have hld : ∀ a, ldM M a ≤ 512 := fun a => Nat.le_trans (ldS_le _ _ _ _ _) (by omega)
  have hl4 := hld (M 0 4)
  rcases wr_c 0 (M 0 7) x (by omega) (by omega) with ⟨j, hj, rfl⟩ | hx
  · rcases wr_c 1 3 y (by omega) (by omega) with ⟨col, hcol, rfl⟩ | hy
    · have hop0 : o_insertMessage M (nI j) (nI col) = if M 0 6 = 0 then (-12, M) else if M 0 7 < 6 then (nI (LM (insM M j col)), settle (insM M j col)) else (-13, M) := (wr_y hj (by omega)).trans (wr_y hcol (by decide))
      by_cases h6 : M 0 6 = 0
      · have hop := hop0.trans (if_pos h6)
        refine z_iload_n C dX5_insertMessage_0 rfl ?_
        refine z_iconst C (nI (0)) dX5_insertMessage_1 (by decide) ?_
        refine z_aload_n C dX5_insertMessage_2 rfl ?_
        refine z_get C (0) (Cn := RX5) (T := TX5) (N := 12) (fi := 2) iw_X5_insertMessage_5 rfl (by decide) ln_X5_insertMessage_26 (by first | decide | omega) rfl e0 rfl dX5_insertMessage_3 ?_
        refine z_getN C (6) (Cn := RX2) (T := TX2) (N := 2) (fi := 1) iw_X5_insertMessage_2 rfl (by decide) nl_X5_104 (by first | decide | omega) rfl l6 rfl dX5_insertMessage_6 ?_
        refine z_callSF C (k_X5_isWithin vl D cI cM A ad E hX (nI (j)) (nI (0)) (nI (M 0 7))) (va_cwS 3 C.2.2.2.2.1 gX5_insertMessage_X5_isWithin rfl rfl rfl (by decide +kernel) ⟨Nat.le_of_ble_eq_true rfl, Nat.le_of_ble_eq_true rfl⟩) rfl rfl (Nat.le_of_ble_eq_true rfl) ⟨Nat.zero_le _, Nat.zero_le _⟩ dX5_insertMessage_9 ?_
        refine z_top (nI (1)) (iw_yN hj (by omega)) ?_
        refine z_if_eqN C 22 (by omega) dX5_insertMessage_12 (by decide) (fun h12 => (by exfalso; omega)) (fun h12 => ?_)
        refine z_iload_n C dX5_insertMessage_15 rfl ?_
        refine z_callSF C (k_X5_isColor vl D cI cM A ad E hX (nI (col))) (va_cwS 1 C.2.2.2.2.1 gX5_insertMessage_X5_isColor rfl rfl rfl (by decide +kernel) ⟨Nat.le_of_ble_eq_true rfl, Nat.le_of_ble_eq_true rfl⟩) rfl rfl (Nat.le_of_ble_eq_true rfl) ⟨Nat.zero_le _, Nat.zero_le _⟩ dX5_insertMessage_16 ?_
        refine z_top (nI (1)) (iw_yN hcol (by omega)) ?_
        refine z_if_neN C 25 (by omega) dX5_insertMessage_19 (by decide) (fun h19 => ?_) (fun h19 => (by exfalso; omega))
        refine z_aload_n C dX5_insertMessage_25 rfl ?_
        refine z_get C (0) (Cn := RX5) (T := TX5) (N := 12) (fi := 1) iw_X5_insertMessage_5 rfl (by decide) ln_X5_insertMessage_19 (by first | decide | omega) rfl e0 rfl dX5_insertMessage_26 ?_
        refine z_getN C (4) (Cn := RX4) (T := TX4) (N := 2) (fi := 1) iw_X5_insertMessage_4 rfl (by decide) nl_X5_94 (by first | decide | omega) rfl b4 rfl dX5_insertMessage_29 ?_
        refine z_if_neN C 38 (by omega) dX5_insertMessage_32 (by decide) (fun h32 => (by exfalso; omega)) (fun h32 => ?_)
        refine z_bipush C (-12) dX5_insertMessage_35 (by decide) ?_
        exact hend _ _ _ _ dX5_insertMessage_37 (⟨by rw [hop], by rw [hop]; exact hR, fun _ _ => rfl⟩)
      · by_cases h7 : M 0 7 < 6
        · have hop := hop0.trans ((if_neg h6).trans (if_pos h7))
          obtain ⟨sz0, co0, st0, wi0, g0, m0, -⟩ := hMY (M 0 7) h7
          have hpn := hpm.1 _ h7
          refine z_iload_n C dX5_insertMessage_0 rfl ?_
          refine z_iconst C (nI (0)) dX5_insertMessage_1 (by decide) ?_
          refine z_aload_n C dX5_insertMessage_2 rfl ?_
          refine z_get C (0) (Cn := RX5) (T := TX5) (N := 12) (fi := 2) iw_X5_insertMessage_5 rfl (by decide) ln_X5_insertMessage_26 (by first | decide | omega) rfl e0 rfl dX5_insertMessage_3 ?_
          refine z_getN C (6) (Cn := RX2) (T := TX2) (N := 2) (fi := 1) iw_X5_insertMessage_2 rfl (by decide) nl_X5_104 (by first | decide | omega) rfl l6 rfl dX5_insertMessage_6 ?_
          refine z_callSF C (k_X5_isWithin vl D cI cM A ad E hX (nI (j)) (nI (0)) (nI (M 0 7))) (va_cwS 3 C.2.2.2.2.1 gX5_insertMessage_X5_isWithin rfl rfl rfl (by decide +kernel) ⟨Nat.le_of_ble_eq_true rfl, Nat.le_of_ble_eq_true rfl⟩) rfl rfl (Nat.le_of_ble_eq_true rfl) ⟨Nat.zero_le _, Nat.zero_le _⟩ dX5_insertMessage_9 ?_
          refine z_top (nI (1)) (iw_yN hj (by omega)) ?_
          refine z_if_eqN C 22 (by omega) dX5_insertMessage_12 (by decide) (fun h12 => (by exfalso; omega)) (fun h12 => ?_)
          refine z_iload_n C dX5_insertMessage_15 rfl ?_
          refine z_callSF C (k_X5_isColor vl D cI cM A ad E hX (nI (col))) (va_cwS 1 C.2.2.2.2.1 gX5_insertMessage_X5_isColor rfl rfl rfl (by decide +kernel) ⟨Nat.le_of_ble_eq_true rfl, Nat.le_of_ble_eq_true rfl⟩) rfl rfl (Nat.le_of_ble_eq_true rfl) ⟨Nat.zero_le _, Nat.zero_le _⟩ dX5_insertMessage_16 ?_
          refine z_top (nI (1)) (iw_yN hcol (by omega)) ?_
          refine z_if_neN C 25 (by omega) dX5_insertMessage_19 (by decide) (fun h19 => ?_) (fun h19 => (by exfalso; omega))
          refine z_aload_n C dX5_insertMessage_25 rfl ?_
          refine z_get C (0) (Cn := RX5) (T := TX5) (N := 12) (fi := 1) iw_X5_insertMessage_5 rfl (by decide) ln_X5_insertMessage_19 (by first | decide | omega) rfl e0 rfl dX5_insertMessage_26 ?_
          refine z_getN C (4) (Cn := RX4) (T := TX4) (N := 2) (fi := 1) iw_X5_insertMessage_4 rfl (by decide) nl_X5_94 (by first | decide | omega) rfl b4 rfl dX5_insertMessage_29 ?_
          refine z_if_neN C 38 (by omega) dX5_insertMessage_32 (by decide) (fun h32 => ?_) (fun h32 => (by exfalso; omega))
          refine z_aload_n C dX5_insertMessage_38 rfl ?_
          refine z_get C (0) (Cn := RX5) (T := TX5) (N := 12) (fi := 2) iw_X5_insertMessage_5 rfl (by decide) ln_X5_insertMessage_26 (by first | decide | omega) rfl e0 rfl dX5_insertMessage_39 ?_
          refine z_getN C (6) (Cn := RX2) (T := TX2) (N := 2) (fi := 1) iw_X5_insertMessage_2 rfl (by decide) nl_X5_104 (by first | decide | omega) rfl l6 rfl dX5_insertMessage_42 ?_
          refine z_bipush C (nI (6)) dX5_insertMessage_45 (by decide) ?_
          refine z_icmp_ltN C 53 (by omega) (by omega) dX5_insertMessage_47 (by decide) (fun h47 => ?_) (fun h47 => (by exfalso; omega))
          refine z_aload_n C dX5_insertMessage_53 rfl ?_
          refine z_get C (0) (Cn := RX5) (T := TX5) (N := 12) (fi := 2) iw_X5_insertMessage_5 rfl (by decide) ln_X5_insertMessage_26 (by first | decide | omega) rfl e0 rfl dX5_insertMessage_54 ?_
          refine z_iload_n C dX5_insertMessage_57 rfl ?_
          refine z_aload_n C dX5_insertMessage_58 rfl ?_
          refine z_get C (0) (Cn := RX5) (T := TX5) (N := 12) (fi := 1) iw_X5_insertMessage_5 rfl (by decide) ln_X5_insertMessage_19 (by first | decide | omega) rfl e0 rfl dX5_insertMessage_59 ?_
          refine z_iload_n C dX5_insertMessage_62 rfl ?_
          refine z_callVV C (6) (Cn := RX2) (T := TX2) (N := 2) (k_X2_insert vl D cI cM A ad E hX (st0 := st0) l6 l7 b4 b5 m0.1 m0.2.1 m0.2.2 h7 hj.2 hpm (RelY_ob hY)) (cwV 3 C.2.2.2.2.1 gX5_insertMessage_X2_insert rfl rfl rfl (by decide +kernel) ⟨Nat.le_of_ble_eq_true rfl, Nat.le_of_ble_eq_true rfl⟩) rfl (by first | decide | omega) rfl l6 rfl rfl (Nat.le_of_ble_eq_true rfl) ⟨Nat.zero_le _, Nat.zero_le _⟩ dX5_insertMessage_63 (fun Ez1 hp2 => ?_)
          obtain ⟨v6, v7, ⟨g2, hM2, hg2⟩, hg⟩ := hp2
          have f3 : Ez1 (0) = .inr (5, [.ref (ad 1), .ref (ad 4), .ref (ad 6), .ref (ad 26), .ref (ad 29), .int (nI (M 0 0)), .int (nI (M 0 1)), .int (nI (M 0 2)), .int (shI (M 0 8)), .int (nI (M 0 3)), .int (nI (M 0 4)), .int (nI (M 0 5))]) := (hg (0) (by omega)).trans e0
          have f4 : Ez1 (1) = .inr (0, [.ref (ad 2), .ref (ad 3)]) := (hg (1) (by omega)).trans e1
          have f5 : Ez1 (2) = aI cI 27 (M 1) := (hg (2) (by omega)).trans e2
          have f6 : Ez1 (3) = aI cI 162 (M 2) := (hg (3) (by omega)).trans e3
          have f7 : Ez1 (4) = .inr (4, [.ref (ad 5), .int (nI (M 0 6))]) := (hg (4) (by omega)).trans b4
          have f8 : Ez1 (5) = aI cI 12 (M 4) := (hg (5) (by omega)).trans b5
          have f9 : Ez1 (29) = aI cI 32 (M 3) := (hg (29) (by omega)).trans e29
          have f10 : Ez1 (26) = .inr (3, [.ref (ad 27), .ref (ad 28), .int (nI (LM M))]) := (hg (26) (by omega)).trans s26
          have g11 : ∀ k : Nat, (k ≠ 6 ∧ k ≠ 7 ∧ k ≠ 8 + 3 * pm (M 0 7) ∧ k ≠ 9 + 3 * pm (M 0 7) ∧ k ≠ 10 + 3 * pm (M 0 7)) → Ez1 k = E k := fun k hk => (hg k (by omega)).trans ((fun _ _ => rfl) k hk)
          refine z_aload_n C dX5_insertMessage_66 rfl ?_
          have hY2 : RelY cI cM ad (insM M j col) (va_up (shu pm j (M 0 7)) j (pm (M 0 7))) Ez1 := ⟨f3, f4, f5, f6, f7, f8, v6, v7, PM_ins hpm hj.2 h7, h7, MsgY_ins hpm hI.1 hMY hj.2 h7 hM2 hg2 hg, f9⟩
          have hs2 : StripAt cI ad Ez1 (stripM M) := hs.mv (g11 _ (by omega)) (g11 _ (by omega)) (g11 _ (by omega))
          have hI2 : Inv0 (insM M j col) := inv0_ins hI.1 hj.2 hcol h6 h7
          refine z_callVV C (0) (Cn := RX5) (T := TX5) (N := 12) (k_lay vl D cI cM A ad Ez1 hX hY2 hI2 hs2) (cwV 0 C.2.2.2.2.1 gX5_insertMessage_X5_layOutStrip rfl rfl rfl (by decide +kernel) ⟨Nat.le_of_ble_eq_true rfl, Nat.le_of_ble_eq_true rfl⟩) rfl (by first | decide | omega) rfl f3 rfl rfl (Nat.le_of_ble_eq_true rfl) ⟨Nat.zero_le _, Nat.zero_le _⟩ dX5_insertMessage_67 (fun Ez12 hp13 => ?_)
          obtain ⟨hR3, hf3⟩ := hp13
          have hf4 : ∀ k : Nat, 30 ≤ k → Ez12 k = E k := fun k hk => (hf3 k hk).trans (g11 k (by omega))
          obtain ⟨pm3, ⟨g0, -, -, -, -, -, -, -, -⟩, -, hs3⟩ := id hR3
          obtain ⟨_, _, t26, -, -, -⟩ := id hs3
          rw [strip_len] at t26
          refine z_aload_n C dX5_insertMessage_70 rfl ?_
          refine z_get C (0) (Cn := RX5) (T := TX5) (N := 12) (fi := 3) iw_X5_insertMessage_5 rfl (by decide) ln_X5_insertMessage_33 (by first | decide | omega) rfl g0 rfl dX5_insertMessage_71 ?_
          refine z_getN C (26) (Cn := RX3) (T := TX3) (N := 3) (fi := 2) iw_X5_insertMessage_3 rfl (by decide) nl_X5_114 (by first | decide | omega) rfl t26 rfl dX5_insertMessage_74 ?_
          exact hend _ _ _ _ dX5_insertMessage_77 (⟨by rw [hop]; rfl, by rw [hop]; exact hR3, hf4⟩)
        · have hop := hop0.trans ((if_neg h6).trans (if_neg h7))
          refine z_iload_n C dX5_insertMessage_0 rfl ?_
          refine z_iconst C (nI (0)) dX5_insertMessage_1 (by decide) ?_
          refine z_aload_n C dX5_insertMessage_2 rfl ?_
          refine z_get C (0) (Cn := RX5) (T := TX5) (N := 12) (fi := 2) iw_X5_insertMessage_5 rfl (by decide) ln_X5_insertMessage_26 (by first | decide | omega) rfl e0 rfl dX5_insertMessage_3 ?_
          refine z_getN C (6) (Cn := RX2) (T := TX2) (N := 2) (fi := 1) iw_X5_insertMessage_2 rfl (by decide) nl_X5_104 (by first | decide | omega) rfl l6 rfl dX5_insertMessage_6 ?_
          refine z_callSF C (k_X5_isWithin vl D cI cM A ad E hX (nI (j)) (nI (0)) (nI (M 0 7))) (va_cwS 3 C.2.2.2.2.1 gX5_insertMessage_X5_isWithin rfl rfl rfl (by decide +kernel) ⟨Nat.le_of_ble_eq_true rfl, Nat.le_of_ble_eq_true rfl⟩) rfl rfl (Nat.le_of_ble_eq_true rfl) ⟨Nat.zero_le _, Nat.zero_le _⟩ dX5_insertMessage_9 ?_
          refine z_top (nI (1)) (iw_yN hj (by omega)) ?_
          refine z_if_eqN C 22 (by omega) dX5_insertMessage_12 (by decide) (fun h12 => (by exfalso; omega)) (fun h12 => ?_)
          refine z_iload_n C dX5_insertMessage_15 rfl ?_
          refine z_callSF C (k_X5_isColor vl D cI cM A ad E hX (nI (col))) (va_cwS 1 C.2.2.2.2.1 gX5_insertMessage_X5_isColor rfl rfl rfl (by decide +kernel) ⟨Nat.le_of_ble_eq_true rfl, Nat.le_of_ble_eq_true rfl⟩) rfl rfl (Nat.le_of_ble_eq_true rfl) ⟨Nat.zero_le _, Nat.zero_le _⟩ dX5_insertMessage_16 ?_
          refine z_top (nI (1)) (iw_yN hcol (by omega)) ?_
          refine z_if_neN C 25 (by omega) dX5_insertMessage_19 (by decide) (fun h19 => ?_) (fun h19 => (by exfalso; omega))
          refine z_aload_n C dX5_insertMessage_25 rfl ?_
          refine z_get C (0) (Cn := RX5) (T := TX5) (N := 12) (fi := 1) iw_X5_insertMessage_5 rfl (by decide) ln_X5_insertMessage_19 (by first | decide | omega) rfl e0 rfl dX5_insertMessage_26 ?_
          refine z_getN C (4) (Cn := RX4) (T := TX4) (N := 2) (fi := 1) iw_X5_insertMessage_4 rfl (by decide) nl_X5_94 (by first | decide | omega) rfl b4 rfl dX5_insertMessage_29 ?_
          refine z_if_neN C 38 (by omega) dX5_insertMessage_32 (by decide) (fun h32 => ?_) (fun h32 => (by exfalso; omega))
          refine z_aload_n C dX5_insertMessage_38 rfl ?_
          refine z_get C (0) (Cn := RX5) (T := TX5) (N := 12) (fi := 2) iw_X5_insertMessage_5 rfl (by decide) ln_X5_insertMessage_26 (by first | decide | omega) rfl e0 rfl dX5_insertMessage_39 ?_
          refine z_getN C (6) (Cn := RX2) (T := TX2) (N := 2) (fi := 1) iw_X5_insertMessage_2 rfl (by decide) nl_X5_104 (by first | decide | omega) rfl l6 rfl dX5_insertMessage_42 ?_
          refine z_bipush C (nI (6)) dX5_insertMessage_45 (by decide) ?_
          refine z_icmp_ltN C 53 (by omega) (by omega) dX5_insertMessage_47 (by decide) (fun h47 => (by exfalso; omega)) (fun h47 => ?_)
          refine z_bipush C (-13) dX5_insertMessage_50 (by decide) ?_
          exact hend _ _ _ _ dX5_insertMessage_52 (⟨by rw [hop], by rw [hop]; exact hR, fun _ _ => rfl⟩)
    · have hop : o_insertMessage M (nI j) y = (-11, M) := (wr_y hj (by omega)).trans (wr_n hy)
      refine z_iload_n C dX5_insertMessage_0 rfl ?_
      refine z_iconst C (nI (0)) dX5_insertMessage_1 (by decide) ?_
      refine z_aload_n C dX5_insertMessage_2 rfl ?_
      refine z_get C (0) (Cn := RX5) (T := TX5) (N := 12) (fi := 2) iw_X5_insertMessage_5 rfl (by decide) ln_X5_insertMessage_26 (by first | decide | omega) rfl e0 rfl dX5_insertMessage_3 ?_
      refine z_getN C (6) (Cn := RX2) (T := TX2) (N := 2) (fi := 1) iw_X5_insertMessage_2 rfl (by decide) nl_X5_104 (by first | decide | omega) rfl l6 rfl dX5_insertMessage_6 ?_
      refine z_callSF C (k_X5_isWithin vl D cI cM A ad E hX (nI (j)) (nI (0)) (nI (M 0 7))) (va_cwS 3 C.2.2.2.2.1 gX5_insertMessage_X5_isWithin rfl rfl rfl (by decide +kernel) ⟨Nat.le_of_ble_eq_true rfl, Nat.le_of_ble_eq_true rfl⟩) rfl rfl (Nat.le_of_ble_eq_true rfl) ⟨Nat.zero_le _, Nat.zero_le _⟩ dX5_insertMessage_9 ?_
      refine z_top (nI (1)) (iw_yN hj (by omega)) ?_
      refine z_if_eqN C 22 (by omega) dX5_insertMessage_12 (by decide) (fun h12 => (by exfalso; omega)) (fun h12 => ?_)
      refine z_iload_n C dX5_insertMessage_15 rfl ?_
      refine z_callSF C (k_X5_isColor vl D cI cM A ad E hX (y)) (va_cwS 1 C.2.2.2.2.1 gX5_insertMessage_X5_isColor rfl rfl rfl (by decide +kernel) ⟨Nat.le_of_ble_eq_true rfl, Nat.le_of_ble_eq_true rfl⟩) rfl rfl (Nat.le_of_ble_eq_true rfl) ⟨Nat.zero_le _, Nat.zero_le _⟩ dX5_insertMessage_16 ?_
      refine z_top (nI (0)) (iw_n hy) ?_
      refine z_if_neN C 25 (by omega) dX5_insertMessage_19 (by decide) (fun h19 => (by exfalso; omega)) (fun h19 => ?_)
      refine z_bipush C (-11) dX5_insertMessage_22 (by decide) ?_
      exact hend _ _ _ _ dX5_insertMessage_24 (⟨by rw [hop], by rw [hop]; exact hR, fun _ _ => rfl⟩)
  · have hop : o_insertMessage M x y = (-11, M) := wr_n hx
    refine z_iload_n C dX5_insertMessage_0 rfl ?_
    refine z_iconst C (nI (0)) dX5_insertMessage_1 (by decide) ?_
    refine z_aload_n C dX5_insertMessage_2 rfl ?_
    refine z_get C (0) (Cn := RX5) (T := TX5) (N := 12) (fi := 2) iw_X5_insertMessage_5 rfl (by decide) ln_X5_insertMessage_26 (by first | decide | omega) rfl e0 rfl dX5_insertMessage_3 ?_
    refine z_getN C (6) (Cn := RX2) (T := TX2) (N := 2) (fi := 1) iw_X5_insertMessage_2 rfl (by decide) nl_X5_104 (by first | decide | omega) rfl l6 rfl dX5_insertMessage_6 ?_
    refine z_callSF C (k_X5_isWithin vl D cI cM A ad E hX (x) (nI (0)) (nI (M 0 7))) (va_cwS 3 C.2.2.2.2.1 gX5_insertMessage_X5_isWithin rfl rfl rfl (by decide +kernel) ⟨Nat.le_of_ble_eq_true rfl, Nat.le_of_ble_eq_true rfl⟩) rfl rfl (Nat.le_of_ble_eq_true rfl) ⟨Nat.zero_le _, Nat.zero_le _⟩ dX5_insertMessage_9 ?_
    refine z_top (nI (0)) (iw_n hx) ?_
    refine z_if_eqN C 22 (by omega) dX5_insertMessage_12 (by decide) (fun h12 => ?_) (fun h12 => (by exfalso; omega))
    refine z_bipush C (-11) dX5_insertMessage_22 (by decide) ?_
    exact hend _ _ _ _ dX5_insertMessage_24 (⟨by rw [hop], by rw [hop]; exact hR, fun _ _ => rfl⟩)

theorem iw_X5_removeMessage_5 : ∀ w ∈ wsX50, w ∈ wsX5_removeMessage := by decide +kernel
theorem ln_X5_removeMessage_26 : Cond.fieldLink RX5 26 "MarqueeDisplay" "messages" "LMarqueeDisplay$MessageList;" ∈ wsX5_removeMessage := by decide +kernel
theorem ln_X5_removeMessage_33 : Cond.fieldLink RX5 33 "MarqueeDisplay" "strip" "LMarqueeDisplay$Strip;" ∈ wsX5_removeMessage := by decide +kernel
theorem iw_X5_removeMessage_3 : ∀ w ∈ wsX30, w ∈ wsX5_removeMessage := by decide +kernel
set_option maxHeartbeats 4000000 in
set_option maxRecDepth 100000 in
theorem k_X5_removeMessage (vl : Launch) (D : va_G) (cI cM : ClassId) (A : Nat → Prop) (ad : Nat → Nat) (E : Nat → va_E) (hX : XD A 32 ad) {M : St} (x : Int32) (hI : Inv M) (hR : RelX cI cM ad M E) : MI vl yX5_removeMessage wsX5_removeMessage { frames := 5, cells := 0, slots := 0, locals := 114 } D cI cM A 32 ad E [.ref (ad 0), .int (x)] (fun r E1 => r = (o_removeMessage M x).1 ∧ RelX cI cM ad (o_removeMessage M x).2 E1 ∧ ∀ k : Nat, 30 ≤ k → E1 k = E k) := by
  refine mi_of cX5_removeMessage 2 (.int) RX5 (by decide) rfl rfl (Nat.le_of_ble_eq_true rfl) (fun r E1 h => rfl) ?_
  intro vp ve vs vm va vb vt vc Q C hend
  refine z_lv [(0, .ref (ad 0)), (1, .int (x))] ⟨rfl, rfl, rfl, rfl, trivial⟩ ?_
  obtain ⟨pm, hY, hMX, hs⟩ := id hR
  obtain ⟨e0, e1, e2, e3, b4, b5, l6, l7, hpm, hn6, hMY, e29⟩ := id hY
  obtain ⟨_, _, s26, -, -, -⟩ := id hs
  rw [strip_len] at s26
  obtain ⟨⟨iW1, iW2⟩, iG, ⟨iS1, iS2⟩, ⟨iB1, iB2⟩, iO, iC, iT, iN, iSh, iWd, iDt, iZ, iDf, iDz, iTx, iMs⟩ := id hI.1
  have hLM := hI.1.LM_le
  have hsl := hI.1.slen
  have hld : ∀ a, ldM M a ≤ 512 := fun a => Nat.le_trans (ldS_le _ _ _ _ _) (by omega)
  have hl4 := hld (M 0 4)
  by_cases hx : ∃ j : Nat, j < M 0 7 ∧ x = nI j
  · obtain ⟨j, hj, rfl⟩ := hx
    have hop : o_removeMessage M (nI j) = (nI (LM (delM M j)), settle (delM M j)) := wn_y hj (by omega)
    refine z_aload_n C dX5_removeMessage_0 rfl ?_
    refine z_get C (0) (Cn := RX5) (T := TX5) (N := 12) (fi := 2) iw_X5_removeMessage_5 rfl (by decide) ln_X5_removeMessage_26 (by first | decide | omega) rfl e0 rfl dX5_removeMessage_1 ?_
    refine z_iload_n C dX5_removeMessage_4 rfl ?_
    refine z_callVQ C (6) (Cn := RX2) (T := TX2) (N := 2) (k_X2_find_y vl D cI cM A ad E hX l6 l7 hj hn6) (cwV 1 C.2.2.2.2.1 gX5_removeMessage_X2_find rfl rfl rfl (by decide +kernel) ⟨Nat.le_of_ble_eq_true rfl, Nat.le_of_ble_eq_true rfl⟩) rfl (by first | decide | omega) rfl l6 rfl rfl (Nat.le_of_ble_eq_true rfl) ⟨Nat.zero_le _, Nat.zero_le _⟩ dX5_removeMessage_5 ?_
    refine z_ifnonnull C 14 dX5_removeMessage_8 (by decide) ?_
    refine z_aload_n C dX5_removeMessage_14 rfl ?_
    refine z_get C (0) (Cn := RX5) (T := TX5) (N := 12) (fi := 2) iw_X5_removeMessage_5 rfl (by decide) ln_X5_removeMessage_26 (by first | decide | omega) rfl e0 rfl dX5_removeMessage_15 ?_
    refine z_iload_n C dX5_removeMessage_18 rfl ?_
    refine z_callVV C (6) (Cn := RX2) (T := TX2) (N := 2) (k_X2_remove vl D cI cM A ad E hX l6 l7 hn6 hj hpm (RelY_ob hY)) (cwV 1 C.2.2.2.2.1 gX5_removeMessage_X2_remove rfl rfl rfl (by decide +kernel) ⟨Nat.le_of_ble_eq_true rfl, Nat.le_of_ble_eq_true rfl⟩) rfl (by first | decide | omega) rfl l6 rfl rfl (Nat.le_of_ble_eq_true rfl) ⟨Nat.zero_le _, Nat.zero_le _⟩ dX5_removeMessage_19 (fun Ez1 hp2 => ?_)
    obtain ⟨v6, v7, hg⟩ := hp2
    have f3 : Ez1 (0) = .inr (5, [.ref (ad 1), .ref (ad 4), .ref (ad 6), .ref (ad 26), .ref (ad 29), .int (nI (M 0 0)), .int (nI (M 0 1)), .int (nI (M 0 2)), .int (shI (M 0 8)), .int (nI (M 0 3)), .int (nI (M 0 4)), .int (nI (M 0 5))]) := (hg (0) (by omega)).trans e0
    have f4 : Ez1 (1) = .inr (0, [.ref (ad 2), .ref (ad 3)]) := (hg (1) (by omega)).trans e1
    have f5 : Ez1 (2) = aI cI 27 (M 1) := (hg (2) (by omega)).trans e2
    have f6 : Ez1 (3) = aI cI 162 (M 2) := (hg (3) (by omega)).trans e3
    have f7 : Ez1 (4) = .inr (4, [.ref (ad 5), .int (nI (M 0 6))]) := (hg (4) (by omega)).trans b4
    have f8 : Ez1 (5) = aI cI 12 (M 4) := (hg (5) (by omega)).trans b5
    have f9 : Ez1 (29) = aI cI 32 (M 3) := (hg (29) (by omega)).trans e29
    have f10 : Ez1 (26) = .inr (3, [.ref (ad 27), .ref (ad 28), .int (nI (LM M))]) := (hg (26) (by omega)).trans s26
    have g11 : ∀ k : Nat, (k ≠ 6 ∧ k ≠ 7) → Ez1 k = E k := fun k hk => (hg k (by omega)).trans ((fun _ _ => rfl) k hk)
    refine z_aload_n C dX5_removeMessage_22 rfl ?_
    have hY2 : RelY cI cM ad (delM M j) (va_up (shd pm j (M 0 7 - 1)) (M 0 7 - 1) (pm j)) Ez1 := ⟨f3, f4, f5, f6, f7, f8, v6, v7, PM_del hpm hj hn6, (by show M 0 7 - 1 ≤ 6; omega), MsgY_del hpm hI.1 hMY hj hg, f9⟩
    have hs2 : StripAt cI ad Ez1 (stripM M) := hs.mv (g11 _ (by omega)) (g11 _ (by omega)) (g11 _ (by omega))
    have hI2 : Inv0 (delM M j) := inv0_del hI.1 hj
    refine z_callVV C (0) (Cn := RX5) (T := TX5) (N := 12) (k_lay vl D cI cM A ad Ez1 hX hY2 hI2 hs2) (cwV 0 C.2.2.2.2.1 gX5_removeMessage_X5_layOutStrip rfl rfl rfl (by decide +kernel) ⟨Nat.le_of_ble_eq_true rfl, Nat.le_of_ble_eq_true rfl⟩) rfl (by first | decide | omega) rfl f3 rfl rfl (Nat.le_of_ble_eq_true rfl) ⟨Nat.zero_le _, Nat.zero_le _⟩ dX5_removeMessage_23 (fun Ez12 hp13 => ?_)
    obtain ⟨hR3, hf3⟩ := hp13
    have hf4 : ∀ k : Nat, 30 ≤ k → Ez12 k = E k := fun k hk => (hf3 k hk).trans (g11 k (by omega))
    obtain ⟨pm3, ⟨g0, -, -, -, -, -, -, -, -⟩, -, hs3⟩ := id hR3
    obtain ⟨_, _, t26, -, -, -⟩ := id hs3
    rw [strip_len] at t26
    refine z_aload_n C dX5_removeMessage_26 rfl ?_
    refine z_get C (0) (Cn := RX5) (T := TX5) (N := 12) (fi := 3) iw_X5_removeMessage_5 rfl (by decide) ln_X5_removeMessage_33 (by first | decide | omega) rfl g0 rfl dX5_removeMessage_27 ?_
    refine z_getN C (26) (Cn := RX3) (T := TX3) (N := 3) (fi := 2) iw_X5_removeMessage_3 rfl (by decide) nl_X5_114 (by first | decide | omega) rfl t26 rfl dX5_removeMessage_30 ?_
    exact hend _ _ _ _ dX5_removeMessage_33 (⟨by rw [hop]; rfl, by rw [hop]; exact hR3, hf4⟩)
  · have hop : o_removeMessage M x = (-11, M) := wn_n (by omega) hx
    refine z_aload_n C dX5_removeMessage_0 rfl ?_
    refine z_get C (0) (Cn := RX5) (T := TX5) (N := 12) (fi := 2) iw_X5_removeMessage_5 rfl (by decide) ln_X5_removeMessage_26 (by first | decide | omega) rfl e0 rfl dX5_removeMessage_1 ?_
    refine z_iload_n C dX5_removeMessage_4 rfl ?_
    refine z_callVQ C (6) (Cn := RX2) (T := TX2) (N := 2) (k_X2_find_n vl D cI cM A ad E hX l6 l7 hx hn6) (cwV 1 C.2.2.2.2.1 gX5_removeMessage_X2_find rfl rfl rfl (by decide +kernel) ⟨Nat.le_of_ble_eq_true rfl, Nat.le_of_ble_eq_true rfl⟩) rfl (by first | decide | omega) rfl l6 rfl rfl (Nat.le_of_ble_eq_true rfl) ⟨Nat.zero_le _, Nat.zero_le _⟩ dX5_removeMessage_5 ?_
    refine z_ifnonnullN C dX5_removeMessage_8 ?_
    refine z_bipush C (-11) dX5_removeMessage_11 (by decide) ?_
    exact hend _ _ _ _ dX5_removeMessage_13 (⟨by rw [hop], by rw [hop]; exact hR, fun _ _ => rfl⟩)

theorem MsgY_col {cI : ClassId} {ad : Nat → Nat} {M : St} {pm : Nat → Nat} {E E1 : Nat → va_E} (hpm : PM pm) (hn : M 0 7 ≤ 6) (h : MsgY cI ad M pm E) {j col : Nat} (hj : j < M 0 7) {st wi : Int32} (h8 : E1 (8 + 3 * pm j) = .inr (1, [.ref (ad (9 + 3 * pm j)), .int (nI col), .int st, .int wi])) (hf : ∀ k : Nat, (k ≠ 8 + 3 * (pm j)) → E1 k = E k) : MsgY cI ad (va_up M 6 (va_up (M 6) j col)) pm E1 := by
  intro i hi
  show ∃ (sz co st wi : Int32) (g : Nat → Nat), Msg cI ad E1 (pm i) sz co st wi g ∧ (i < M 0 7 → sz = nI (M 5 i) ∧ co = nI (va_up (M 6) j col i) ∧ ∀ q : Nat, q < M 5 i → g q = ltr (M 7) i q)
  obtain ⟨sz, co, st1, wi1, g, hM, hg⟩ := h i hi
  by_cases e : i = j
  · subst e
    rw [va_up_self]
    exact ⟨sz, nI col, st, wi, g, ⟨h8, (hf _ (by omega)).trans hM.2.1, (hf _ (by omega)).trans hM.2.2⟩, fun q => ⟨(hg q).1, rfl, (hg q).2.2⟩⟩
  · rw [va_up_ne _ _ e]
    have hp : pm i ≠ pm j := fun q => e (hpm.2 i j hi (by omega) q)
    exact ⟨sz, co, st1, wi1, g, hM.mv (hf _ (by omega)) (hf _ (by omega)) (hf _ (by omega)), hg⟩
theorem iw_X5_setColor_5 : ∀ w ∈ wsX50, w ∈ wsX5_setColor := by decide +kernel
theorem ln_X5_setColor_26 : Cond.fieldLink RX5 26 "MarqueeDisplay" "messages" "LMarqueeDisplay$MessageList;" ∈ wsX5_setColor := by decide +kernel
theorem iw_X5_setColor_1 : ∀ w ∈ wsX10, w ∈ wsX5_setColor := by decide +kernel
theorem nl_X5_122 : Cond.fieldLinkNest RX5 122 "MarqueeDisplay$Message" "color" "I" "MarqueeDisplay" ∈ nwL := by decide +kernel
set_option maxHeartbeats 4000000 in
set_option maxRecDepth 100000 in
theorem k_X5_setColor (vl : Launch) (D : va_G) (cI cM : ClassId) (A : Nat → Prop) (ad : Nat → Nat) (E : Nat → va_E) (hX : XD A 32 ad) {M : St} (x y : Int32) (hI : Inv M) (hR : RelX cI cM ad M E) : MI vl yX5_setColor wsX5_setColor { frames := 5, cells := 0, slots := 0, locals := 114 } D cI cM A 32 ad E [.ref (ad 0), .int (x), .int (y)] (fun r E1 => r = (o_setColor M x y).1 ∧ RelX cI cM ad (o_setColor M x y).2 E1 ∧ ∀ k : Nat, 30 ≤ k → E1 k = E k) := by
  refine mi_of cX5_setColor 5 (.int) RX5 (by decide) rfl rfl (Nat.le_of_ble_eq_true rfl) (fun r E1 h => rfl) ?_
  intro vp ve vs vm va vb vt vc Q C hend
  refine z_lv [(0, .ref (ad 0)), (1, .int (x)), (2, .int (y))] ⟨rfl, rfl, rfl, rfl, rfl, rfl, trivial⟩ ?_
  obtain ⟨pm, hY, hMX, hs⟩ := id hR
  obtain ⟨e0, e1, e2, e3, b4, b5, l6, l7, hpm, hn6, hMY, e29⟩ := id hY
  obtain ⟨_, _, s26, -, -, -⟩ := id hs
  rw [strip_len] at s26
  obtain ⟨⟨iW1, iW2⟩, iG, ⟨iS1, iS2⟩, ⟨iB1, iB2⟩, iO, iC, iT, iN, iSh, iWd, iDt, iZ, iDf, iDz, iTx, iMs⟩ := id hI.1
  have hLM := hI.1.LM_le
  have hsl := hI.1.slen
  have hld : ∀ a, ldM M a ≤ 512 := fun a => Nat.le_trans (ldS_le _ _ _ _ _) (by omega)
  have hl4 := hld (M 0 4)
  by_cases hx : ∃ j : Nat, j < M 0 7 ∧ x = nI j
  · obtain ⟨j, hj, rfl⟩ := hx
    obtain ⟨g, ⟨m8, m9, m10⟩, hg⟩ := hMX j hj
    have hpj := hpm.1 j (by omega)
    rcases wr_c 1 3 y (by omega) (by omega) with ⟨col, hcol, rfl⟩ | hy
    · have hop : o_setColor M (nI j) (nI col) = (nI (M 6 j), settle (va_up M 6 (va_up (M 6) j col))) := (wn_y hj (by omega)).trans (wr_y hcol (by decide))
      refine z_aload_n C dX5_setColor_0 rfl ?_
      refine z_get C (0) (Cn := RX5) (T := TX5) (N := 12) (fi := 2) iw_X5_setColor_5 rfl (by decide) ln_X5_setColor_26 (by first | decide | omega) rfl e0 rfl dX5_setColor_1 ?_
      refine z_iload_n C dX5_setColor_4 rfl ?_
      refine z_callVQ C (6) (Cn := RX2) (T := TX2) (N := 2) (k_X2_find_y vl D cI cM A ad E hX l6 l7 hj hn6) (cwV 1 C.2.2.2.2.1 gX5_setColor_X2_find rfl rfl rfl (by decide +kernel) ⟨Nat.le_of_ble_eq_true rfl, Nat.le_of_ble_eq_true rfl⟩) rfl (by first | decide | omega) rfl l6 rfl rfl (Nat.le_of_ble_eq_true rfl) ⟨Nat.zero_le _, Nat.zero_le _⟩ dX5_setColor_5 ?_
      refine z_astore_n C [(0, .ref (ad 0)), (1, .int (nI (j))), (2, .int (nI (col))), (3, .ref (ad (8 + 3 * (pm j))))] dX5_setColor_8 (by decide) ⟨rfl, rfl, rfl, rfl, rfl, rfl, rfl, rfl, trivial⟩ ?_
      refine z_aload_n C dX5_setColor_9 rfl ?_
      refine z_ifnull C dX5_setColor_10 ?_
      refine z_iload_n C dX5_setColor_13 rfl ?_
      refine z_callSF C (k_X5_isColor vl D cI cM A ad E hX (nI (col))) (va_cwS 1 C.2.2.2.2.1 gX5_setColor_X5_isColor rfl rfl rfl (by decide +kernel) ⟨Nat.le_of_ble_eq_true rfl, Nat.le_of_ble_eq_true rfl⟩) rfl rfl (Nat.le_of_ble_eq_true rfl) ⟨Nat.zero_le _, Nat.zero_le _⟩ dX5_setColor_14 ?_
      refine z_top (nI (1)) (iw_yN hcol (by omega)) ?_
      refine z_if_neN C 23 (by omega) dX5_setColor_17 (by decide) (fun h17 => ?_) (fun h17 => (by exfalso; omega))
      refine z_aload_n C dX5_setColor_23 rfl ?_
      refine z_getN C (8 + 3 * (pm j)) (Cn := RX1) (T := TX1) (N := 4) (fi := 1) iw_X5_setColor_1 rfl (by decide) nl_X5_122 (by first | decide | omega) rfl m8 rfl dX5_setColor_24 ?_
      refine z_istore C [(0, .ref (ad 0)), (1, .int (nI (j))), (2, .int (nI (col))), (3, .ref (ad (8 + 3 * (pm j)))), (4, .int (nI (M 6 j)))] dX5_setColor_27 (by decide) ⟨rfl, rfl, rfl, rfl, rfl, rfl, rfl, rfl, rfl, rfl, trivial⟩ ?_
      refine z_aload_n C dX5_setColor_29 rfl ?_
      refine z_iload_n C dX5_setColor_30 rfl ?_
      refine z_putN C (8 + 3 * (pm j)) (Cn := RX1) (T := TX1) (N := 4) (fi := 1) tyX1 iw_X5_setColor_1 tyX1_ok nmX1 rfl (by decide) nl_X5_122 hX (by first | decide | omega) rfl m8 rfl rfl rfl rfl (Nat.le_of_ble_eq_true rfl) dX5_setColor_31 (fun Ez2 hE1 => ?_)
      have f3 : Ez2 (0) = .inr (5, [.ref (ad 1), .ref (ad 4), .ref (ad 6), .ref (ad 26), .ref (ad 29), .int (nI (M 0 0)), .int (nI (M 0 1)), .int (nI (M 0 2)), .int (shI (M 0 8)), .int (nI (M 0 3)), .int (nI (M 0 4)), .int (nI (M 0 5))]) := va_up_of hE1 (by first | decide | omega) e0
      have f4 : Ez2 (1) = .inr (0, [.ref (ad 2), .ref (ad 3)]) := va_up_of hE1 (by first | decide | omega) e1
      have f5 : Ez2 (2) = aI cI 27 (M 1) := va_up_of hE1 (by first | decide | omega) e2
      have f6 : Ez2 (3) = aI cI 162 (M 2) := va_up_of hE1 (by first | decide | omega) e3
      have f7 : Ez2 (4) = .inr (4, [.ref (ad 5), .int (nI (M 0 6))]) := va_up_of hE1 (by first | decide | omega) b4
      have f8 : Ez2 (5) = aI cI 12 (M 4) := va_up_of hE1 (by first | decide | omega) b5
      have f9 : Ez2 (6) = .inr (2, [.ref (ad 7), .int (nI (M 0 7))]) := va_up_of hE1 (by first | decide | omega) l6
      have f10 : Ez2 (7) = .inl (cM, 6, .inr (.inr (.inr (.inr (sf ad pm))))) := va_up_of hE1 (by first | decide | omega) l7
      have f11 : Ez2 (29) = aI cI 32 (M 3) := va_up_of hE1 (by first | decide | omega) e29
      have f12 : Ez2 (26) = .inr (3, [.ref (ad 27), .ref (ad 28), .int (nI (LM M))]) := va_up_of hE1 (by first | decide | omega) s26
      have f14 : Ez2 (8 + 3 * (pm j)) = .inr (1, [.ref (ad (9 + 3 * (pm j))), .int (nI (col)), .int (nI (sL (M 1) (M 0 1) (M 5) (ltr (M 7)) j)), .int (nI (mW (M 1) (ltr (M 7) j) (M 5 j)))]) := va_up_eq hE1
      have g15 : ∀ k : Nat, (k ≠ 8 + 3 * (pm j)) → Ez2 k = E k := fun k hk => va_up_of hE1 (by omega) ((fun _ _ => rfl) k hk)
      refine z_aload_n C dX5_setColor_34 rfl ?_
      have hY2 : RelY cI cM ad (va_up M 6 (va_up (M 6) j col)) (pm) Ez2 := ⟨f3, f4, f5, f6, f7, f8, f9, f10, hpm, hn6, MsgY_col hpm hn6 hMY hj f14 g15, f11⟩
      have hs2 : StripAt cI ad Ez2 (stripM M) := hs.mv (g15 _ (by omega)) (g15 _ (by omega)) (g15 _ (by omega))
      have hI2 : Inv0 (va_up M 6 (va_up (M 6) j col)) := inv0_col hI.1 hcol
      refine z_callVV C (0) (Cn := RX5) (T := TX5) (N := 12) (k_lay vl D cI cM A ad Ez2 hX hY2 hI2 hs2) (cwV 0 C.2.2.2.2.1 gX5_setColor_X5_layOutStrip rfl rfl rfl (by decide +kernel) ⟨Nat.le_of_ble_eq_true rfl, Nat.le_of_ble_eq_true rfl⟩) rfl (by first | decide | omega) rfl f3 rfl rfl (Nat.le_of_ble_eq_true rfl) ⟨Nat.zero_le _, Nat.zero_le _⟩ dX5_setColor_35 (fun Ez16 hp17 => ?_)
      obtain ⟨hR3, hf3⟩ := hp17
      have hf4 : ∀ k : Nat, 30 ≤ k → Ez16 k = E k := fun k hk => (hf3 k hk).trans (g15 k (by omega))
      obtain ⟨pm3, ⟨g0, -, -, -, -, -, -, -, -⟩, -, hs3⟩ := id hR3
      obtain ⟨_, _, t26, -, -, -⟩ := id hs3
      rw [strip_len] at t26
      refine z_iload C dX5_setColor_38 rfl ?_
      exact hend _ _ _ _ dX5_setColor_40 (⟨by rw [hop], by rw [hop]; exact hR3, hf4⟩)
    · have hop : o_setColor M (nI j) y = (-11, M) := (wn_y hj (by omega)).trans (wr_n hy)
      refine z_aload_n C dX5_setColor_0 rfl ?_
      refine z_get C (0) (Cn := RX5) (T := TX5) (N := 12) (fi := 2) iw_X5_setColor_5 rfl (by decide) ln_X5_setColor_26 (by first | decide | omega) rfl e0 rfl dX5_setColor_1 ?_
      refine z_iload_n C dX5_setColor_4 rfl ?_
      refine z_callVQ C (6) (Cn := RX2) (T := TX2) (N := 2) (k_X2_find_y vl D cI cM A ad E hX l6 l7 hj hn6) (cwV 1 C.2.2.2.2.1 gX5_setColor_X2_find rfl rfl rfl (by decide +kernel) ⟨Nat.le_of_ble_eq_true rfl, Nat.le_of_ble_eq_true rfl⟩) rfl (by first | decide | omega) rfl l6 rfl rfl (Nat.le_of_ble_eq_true rfl) ⟨Nat.zero_le _, Nat.zero_le _⟩ dX5_setColor_5 ?_
      refine z_astore_n C [(0, .ref (ad 0)), (1, .int (nI (j))), (2, .int (y)), (3, .ref (ad (8 + 3 * (pm j))))] dX5_setColor_8 (by decide) ⟨rfl, rfl, rfl, rfl, rfl, rfl, rfl, rfl, trivial⟩ ?_
      refine z_aload_n C dX5_setColor_9 rfl ?_
      refine z_ifnull C dX5_setColor_10 ?_
      refine z_iload_n C dX5_setColor_13 rfl ?_
      refine z_callSF C (k_X5_isColor vl D cI cM A ad E hX (y)) (va_cwS 1 C.2.2.2.2.1 gX5_setColor_X5_isColor rfl rfl rfl (by decide +kernel) ⟨Nat.le_of_ble_eq_true rfl, Nat.le_of_ble_eq_true rfl⟩) rfl rfl (Nat.le_of_ble_eq_true rfl) ⟨Nat.zero_le _, Nat.zero_le _⟩ dX5_setColor_14 ?_
      refine z_top (nI (0)) (iw_n hy) ?_
      refine z_if_neN C 23 (by omega) dX5_setColor_17 (by decide) (fun h17 => (by exfalso; omega)) (fun h17 => ?_)
      refine z_bipush C (-11) dX5_setColor_20 (by decide) ?_
      exact hend _ _ _ _ dX5_setColor_22 (⟨by rw [hop], by rw [hop]; exact hR, fun _ _ => rfl⟩)
  · have hop : o_setColor M x y = (-11, M) := wn_n (by omega) hx
    refine z_aload_n C dX5_setColor_0 rfl ?_
    refine z_get C (0) (Cn := RX5) (T := TX5) (N := 12) (fi := 2) iw_X5_setColor_5 rfl (by decide) ln_X5_setColor_26 (by first | decide | omega) rfl e0 rfl dX5_setColor_1 ?_
    refine z_iload_n C dX5_setColor_4 rfl ?_
    refine z_callVQ C (6) (Cn := RX2) (T := TX2) (N := 2) (k_X2_find_n vl D cI cM A ad E hX l6 l7 hx hn6) (cwV 1 C.2.2.2.2.1 gX5_setColor_X2_find rfl rfl rfl (by decide +kernel) ⟨Nat.le_of_ble_eq_true rfl, Nat.le_of_ble_eq_true rfl⟩) rfl (by first | decide | omega) rfl l6 rfl rfl (Nat.le_of_ble_eq_true rfl) ⟨Nat.zero_le _, Nat.zero_le _⟩ dX5_setColor_5 ?_
    refine z_astore_nN C [(0, .ref (ad 0)), (1, .int (x)), (2, .int (y)), (3, .null)] dX5_setColor_8 (by decide) ⟨rfl, rfl, rfl, rfl, rfl, rfl, rfl, rfl, trivial⟩ ?_
    refine z_aload_nN C dX5_setColor_9 rfl ?_
    refine z_ifnullN C 20 dX5_setColor_10 (by decide) ?_
    refine z_bipush C (-11) dX5_setColor_20 (by decide) ?_
    exact hend _ _ _ _ dX5_setColor_22 (⟨by rw [hop], by rw [hop]; exact hR, fun _ _ => rfl⟩)

