theorem iw_X5_layOutStrip_5 : ∀ w ∈ wsX50, w ∈ wsX5_layOutStrip := by decide +kernel
theorem ln_X5_layOutStrip_33 : Cond.fieldLink RX5 33 "MarqueeDisplay" "strip" "LMarqueeDisplay$Strip;" ∈ wsX5_layOutStrip := by decide +kernel
theorem ln_X5_layOutStrip_26 : Cond.fieldLink RX5 26 "MarqueeDisplay" "messages" "LMarqueeDisplay$MessageList;" ∈ wsX5_layOutStrip := by decide +kernel
theorem ln_X5_layOutStrip_12 : Cond.fieldLink RX5 12 "MarqueeDisplay" "font" "LMarqueeDisplay$Font;" ∈ wsX5_layOutStrip := by decide +kernel
theorem ln_X5_layOutStrip_45 : Cond.fieldLink RX5 45 "MarqueeDisplay" "gap" "I" ∈ wsX5_layOutStrip := by decide +kernel
theorem ln_X5_layOutStrip_57 : Cond.fieldLink RX5 57 "MarqueeDisplay" "offset" "I" ∈ wsX5_layOutStrip := by decide +kernel
theorem iw_X5_layOutStrip_3 : ∀ w ∈ wsX30, w ∈ wsX5_layOutStrip := by decide +kernel
set_option maxHeartbeats 4000000 in
set_option maxRecDepth 100000 in
theorem k_X5_layOutStrip (vl : Launch) (D : va_G) (cI cM : ClassId) (A : Nat → Prop) (ad : Nat → Nat) (E : Nat → va_E) (hX : XD A 32 ad) {W S B off cnt t : Nat}{wd dt : Nat → Nat} {G n : Nat} {pm sz co : Nat → Nat} {le : Nat → Nat → Nat} {l0 : List (Nat × Nat)} (e0 : E (0) = .inr (5, [.ref (ad 1), .ref (ad 4), .ref (ad 6), .ref (ad 26), .ref (ad 29), .int (nI (W)), .int (nI (G)), .int (nI (S)), .int (shI t), .int (nI (B)), .int (nI (off)), .int (nI (cnt))])) (hs : StripAt cI ad E l0) (e1 : E (1) = .inr (0, [.ref (ad 2), .ref (ad 3)])) (e2 : E (2) = aI cI 27 wd) (e3 : E (3) = aI cI 162 dt) (l6 : E (6) = .inr (2, [.ref (ad 7), .int (nI (n))])) (l7 : E (7) = .inl (cM, 6, .inr (.inr (.inr (.inr (sf ad pm)))))) (hn : n ≤ 6) (hG : G ≤ 9) (hpm : PM pm) (hw : ∀ c, c < 27 → wd c ≤ 6) (hsz : ∀ i, i < n → sz i ≤ 12 ∧ ∀ k, k < sz i → le i k < 27) (hm : ∀ k : Nat, k < n → ∃ (st wi : Int32) (g : Nat → Nat), Msg cI ad E (pm k) (nI (sz k)) (nI (co k)) st wi g ∧ ∀ q : Nat, q < sz k → g q = le k q) (ho : off < 2 ^ 31) : MV vl yX5_layOutStrip wsX5_layOutStrip { frames := 4, cells := 0, slots := 0, locals := 94 } D cI cM A 32 ad E [.ref (ad 0)] (fun E1 => E1 0 = .inr (5, [.ref (ad 1), .ref (ad 4), .ref (ad 6), .ref (ad 26), .ref (ad 29), .int (nI (W)), .int (nI (G)), .int (nI (S)), .int (shI t), .int (nI (B)), .int (nI (if off < sL wd G sz le n then off else 0)), .int (nI (cnt))]) ∧ StripAt cI ad E1 (scols wd dt G sz co le n) ∧ (∀ k : Nat, k < n → ∃ g : Nat → Nat, Msg cI ad E1 (pm k) (nI (sz k)) (nI (co k)) (nI (sL wd G sz le k)) (nI (mW wd (le k) (sz k))) g ∧ ∀ q : Nat, q < sz k → g q = le k q) ∧ ∀ k : Nat, ((1 ≤ k ∧ k < 26 ∨ 28 < k) ∧ ∀ q : Nat, q < n → k ≠ 8 + 3 * pm q) → E1 k = E k) := by
  refine mv_of cX5_layOutStrip 1 RX5 (by decide) rfl rfl (Nat.le_of_ble_eq_true rfl) ?_
  intro vp ve vs vm va vb vt vc Q C hend
  refine z_lv [(0, .ref (ad 0))] ⟨rfl, rfl, trivial⟩ ?_
  obtain ⟨sd, sc, s26, -, -, -⟩ := id hs
  have hLL := sL_le (sz := sz) (le := le) hw hG n hsz
  refine z_aload_n C dX5_layOutStrip_0 rfl ?_
  refine z_get C (0) (Cn := RX5) (T := TX5) (N := 12) (fi := 3) iw_X5_layOutStrip_5 rfl (by decide) ln_X5_layOutStrip_33 (by first | decide | omega) rfl e0 rfl dX5_layOutStrip_1 ?_
  refine z_aload_n C dX5_layOutStrip_4 rfl ?_
  refine z_get C (0) (Cn := RX5) (T := TX5) (N := 12) (fi := 2) iw_X5_layOutStrip_5 rfl (by decide) ln_X5_layOutStrip_26 (by first | decide | omega) rfl e0 rfl dX5_layOutStrip_5 ?_
  refine z_aload_n C dX5_layOutStrip_8 rfl ?_
  refine z_get C (0) (Cn := RX5) (T := TX5) (N := 12) (fi := 0) iw_X5_layOutStrip_5 rfl (by decide) ln_X5_layOutStrip_12 (by first | decide | omega) rfl e0 rfl dX5_layOutStrip_9 ?_
  refine z_aload_n C dX5_layOutStrip_12 rfl ?_
  refine z_get C (0) (Cn := RX5) (T := TX5) (N := 12) (fi := 6) iw_X5_layOutStrip_5 rfl (by decide) ln_X5_layOutStrip_45 (by first | decide | omega) rfl e0 rfl dX5_layOutStrip_13 ?_
  refine z_callVV C (26) (Cn := RX3) (T := TX3) (N := 3) (k_X3_layOut vl D cI cM A ad E hX hs e1 e2 e3 l6 l7 hn hG hpm hw hsz hm) (cwV 3 C.2.2.2.2.1 gX5_layOutStrip_X3_layOut rfl rfl rfl (by decide +kernel) ⟨Nat.le_of_ble_eq_true rfl, Nat.le_of_ble_eq_true rfl⟩) rfl (by first | decide | omega) rfl s26 rfl rfl (Nat.le_of_ble_eq_true rfl) ⟨Nat.zero_le _, Nat.zero_le _⟩ dX5_layOutStrip_16 (fun Ez1 hp2 => ?_)
  obtain ⟨ha, hma, hga⟩ := hp2
  have f3 : Ez1 (0) = .inr (5, [.ref (ad 1), .ref (ad 4), .ref (ad 6), .ref (ad 26), .ref (ad 29), .int (nI (W)), .int (nI (G)), .int (nI (S)), .int (shI t), .int (nI (B)), .int (nI (off)), .int (nI (cnt))]) := (hga (0) (by refine ⟨by omega, fun q hq => ?_⟩; have := hpm.1 q (by omega); omega)).trans e0
  have f4 : Ez1 (1) = .inr (0, [.ref (ad 2), .ref (ad 3)]) := (hga (1) (by refine ⟨by omega, fun q hq => ?_⟩; have := hpm.1 q (by omega); omega)).trans e1
  have f5 : Ez1 (2) = aI cI 27 wd := (hga (2) (by refine ⟨by omega, fun q hq => ?_⟩; have := hpm.1 q (by omega); omega)).trans e2
  have f6 : Ez1 (3) = aI cI 162 dt := (hga (3) (by refine ⟨by omega, fun q hq => ?_⟩; have := hpm.1 q (by omega); omega)).trans e3
  have f7 : Ez1 (6) = .inr (2, [.ref (ad 7), .int (nI (n))]) := (hga (6) (by refine ⟨by omega, fun q hq => ?_⟩; have := hpm.1 q (by omega); omega)).trans l6
  have f8 : Ez1 (7) = .inl (cM, 6, .inr (.inr (.inr (.inr (sf ad pm))))) := (hga (7) (by refine ⟨by omega, fun q hq => ?_⟩; have := hpm.1 q (by omega); omega)).trans l7
  obtain ⟨_, _, t26, -, -, -⟩ := id ha
  have hfr : ∀ k : Nat, ((1 ≤ k ∧ k < 26 ∨ 28 < k) ∧ ∀ q : Nat, q < n → k ≠ 8 + 3 * pm q) → Ez1 k = E k := fun k hk => hga k ⟨by omega, hk.2⟩
  have hle := scols_len wd dt G sz co le n
  refine z_aload_n C dX5_layOutStrip_19 rfl ?_
  refine z_get C (0) (Cn := RX5) (T := TX5) (N := 12) (fi := 10) iw_X5_layOutStrip_5 rfl (by decide) ln_X5_layOutStrip_57 (by first | decide | omega) rfl f3 rfl dX5_layOutStrip_20 ?_
  refine z_aload_n C dX5_layOutStrip_23 rfl ?_
  refine z_get C (0) (Cn := RX5) (T := TX5) (N := 12) (fi := 3) iw_X5_layOutStrip_5 rfl (by decide) ln_X5_layOutStrip_33 (by first | decide | omega) rfl f3 rfl dX5_layOutStrip_24 ?_
  refine z_getN C (26) (Cn := RX3) (T := TX3) (N := 3) (fi := 2) iw_X5_layOutStrip_3 rfl (by decide) nl_X5_114 (by first | decide | omega) rfl t26 rfl dX5_layOutStrip_27 ?_
  refine z_icmp_ltN C 38 (by omega) (by rw [hle]; omega) dX5_layOutStrip_30 (by decide) (fun h30 => ?_) (fun h30 => ?_)
  · exact hend _ _ _ dX5_layOutStrip_38 (⟨f3.trans (by rw [if_pos (by rw [← hle]; exact h30)]), ha, hma, hfr⟩)
  · refine z_aload_n C dX5_layOutStrip_33 rfl ?_
    refine z_iconst C (nI (0)) dX5_layOutStrip_34 (by decide) ?_
    refine z_put C (0) (Cn := RX5) (T := TX5) (N := 12) (fi := 10) tyX5 iw_X5_layOutStrip_5 tyX5_ok nmX5 rfl (by decide) ln_X5_layOutStrip_57 hX (by first | decide | omega) rfl f3 rfl rfl rfl rfl (Nat.le_of_ble_eq_true rfl) dX5_layOutStrip_35 (fun Ez10 hE9 => ?_)
    have f12 : Ez10 (1) = .inr (0, [.ref (ad 2), .ref (ad 3)]) := va_up_of hE9 (by first | decide | omega) f4
    have f13 : Ez10 (2) = aI cI 27 wd := va_up_of hE9 (by first | decide | omega) f5
    have f14 : Ez10 (3) = aI cI 162 dt := va_up_of hE9 (by first | decide | omega) f6
    have f15 : Ez10 (6) = .inr (2, [.ref (ad 7), .int (nI (n))]) := va_up_of hE9 (by first | decide | omega) f7
    have f16 : Ez10 (7) = .inl (cM, 6, .inr (.inr (.inr (.inr (sf ad pm))))) := va_up_of hE9 (by first | decide | omega) f8
    have f17 : Ez10 (26) = .inr (3, [.ref (ad 27), .ref (ad 28), .int (nI ((scols wd dt G sz co le n).length))]) := va_up_of hE9 (by first | decide | omega) t26
    have f18 : Ez10 (0) = .inr (5, [.ref (ad 1), .ref (ad 4), .ref (ad 6), .ref (ad 26), .ref (ad 29), .int (nI (W)), .int (nI (G)), .int (nI (S)), .int (shI t), .int (nI (B)), .int (nI (0)), .int (nI (cnt))]) := va_up_eq hE9
    have g19 : ∀ k : Nat, ((1 ≤ k ∧ k < 26 ∨ 28 < k) ∧ ∀ q : Nat, q < n → k ≠ 8 + 3 * pm q) → Ez10 k = E k := fun k hk => va_up_of hE9 (by omega) (hfr k hk)
    exact hend _ _ _ dX5_layOutStrip_38 (⟨f18.trans (by rw [if_neg (by rw [← hle]; omega)]), ha.mv (va_up_of hE9 (by decide) rfl) (va_up_of hE9 (by decide) rfl) (va_up_of hE9 (by decide) rfl), (fun k hk => by obtain ⟨g, hM, hg⟩ := hma k hk; have hpk := hpm.1 k (by omega); exact ⟨g, hM.mv (va_up_of hE9 (by omega) rfl) (va_up_of hE9 (by omega) rfl) (va_up_of hE9 (by omega) rfl), hg⟩), g19⟩)

