def Msg (cI : ClassId) (ad : Nat → Nat) (E : Nat → va_E) (j : Nat) (sz co st wi : Int32) (g : Nat → Nat) : Prop := E (8 + 3 * j) = .inr (1, [.ref (ad (9 + 3 * j)), .int co, .int st, .int wi]) ∧ E (9 + 3 * j) = .inr (4, [.ref (ad (10 + 3 * j)), .int sz]) ∧ E (10 + 3 * j) = aI cI 12 g
def PM (pm : Nat → Nat) : Prop := (∀ i, i < 6 → pm i < 6) ∧ ∀ i k, i < 6 → k < 6 → pm i = pm k → i = k
theorem Msg.mv {cI : ClassId} {ad : Nat → Nat} {E E1 : Nat → va_E} {j : Nat} {sz co st wi : Int32} {g : Nat → Nat} (h : Msg cI ad E j sz co st wi g) (h8 : E1 (8 + 3 * j) = E (8 + 3 * j)) (h9 : E1 (9 + 3 * j) = E (9 + 3 * j)) (h0 : E1 (10 + 3 * j) = E (10 + 3 * j)) : Msg cI ad E1 j sz co st wi g := ⟨h8.trans h.1, h9.trans h.2.1, h0.trans h.2.2⟩
theorem mcols_cg {wd dt : Nat → Nat} {co : Nat} {g h : Nat → Nat} : ∀ {k : Nat}, (∀ i, i < k → g i = h i) → mcols wd dt co g k = mcols wd dt co h k
  | 0, _ => rfl
  | k + 1, e => by rw [mcols, mcols, mcols_cg (fun i hi => e i (by omega)), e k (by omega)]
theorem mW_cg {wd : Nat → Nat} {g h : Nat → Nat} : ∀ {k : Nat}, (∀ i, i < k → g i = h i) → mW wd g k = mW wd h k
  | 0, _ => rfl
  | k + 1, e => by rw [mW, mW, mW_cg (fun i hi => e i (by omega)), e k (by omega)]
theorem iw_X3_layOut_3 : ∀ w ∈ wsX30, w ∈ wsX3_layOut := by decide +kernel
theorem ln_X3_layOut_18 : Cond.fieldLink RX3 18 "MarqueeDisplay$Strip" "length" "I" ∈ wsX3_layOut := by decide +kernel
theorem iw_X3_layOut_2 : ∀ w ∈ wsX20, w ∈ wsX3_layOut := by decide +kernel
theorem nl_X3_22 : Cond.fieldLinkNest RX3 22 "MarqueeDisplay$MessageList" "count" "I" "MarqueeDisplay" ∈ nwL := by decide +kernel
set_option maxHeartbeats 4000000 in
set_option maxRecDepth 100000 in
theorem k_X3_layOut (vl : Launch) (D : va_G) (cI cM : ClassId) (A : Nat → Prop) (ad : Nat → Nat) (E : Nat → va_E) (hX : XD A 32 ad) {wd dt : Nat → Nat} {G n : Nat} {pm sz co : Nat → Nat} {le : Nat → Nat → Nat} {l0 : List (Nat × Nat)} (hs : StripAt cI ad E l0) (e1 : E (1) = .inr (0, [.ref (ad 2), .ref (ad 3)])) (e2 : E (2) = aI cI 27 wd) (e3 : E (3) = aI cI 162 dt) (l6 : E (6) = .inr (2, [.ref (ad 7), .int (nI (n))])) (l7 : E (7) = .inl (cM, 6, .inr (.inr (.inr (.inr (sf ad pm)))))) (hn : n ≤ 6) (hG : G ≤ 9) (hpm : PM pm) (hw : ∀ c, c < 27 → wd c ≤ 6) (hsz : ∀ i, i < n → sz i ≤ 12 ∧ ∀ k, k < sz i → le i k < 27) (hm : ∀ k : Nat, k < n → ∃ (st wi : Int32) (g : Nat → Nat), Msg cI ad E (pm k) (nI (sz k)) (nI (co k)) st wi g ∧ ∀ q : Nat, q < sz k → g q = le k q) : MV vl yX3_layOut wsX3_layOut { frames := 3, cells := 0, slots := 0, locals := 69 } D cI cM A 32 ad E [.ref (ad 26), .ref (ad 6), .ref (ad 1), .int (nI (G))] (fun E1 => StripAt cI ad E1 (scols wd dt G sz co le n) ∧ (∀ k : Nat, k < n → ∃ g : Nat → Nat, Msg cI ad E1 (pm k) (nI (sz k)) (nI (co k)) (nI (sL wd G sz le k)) (nI (mW wd (le k) (sz k))) g ∧ ∀ q : Nat, q < sz k → g q = le k q) ∧ ∀ k : Nat, ((k < 26 ∨ 28 < k) ∧ ∀ q : Nat, q < n → k ≠ 8 + 3 * pm q) → E1 k = E k) := by
  refine mv_of cX3_layOut 6 RX3 (by decide) rfl rfl (Nat.le_of_ble_eq_true rfl) ?_
  intro vp ve vs vm va vb vt vc Q C hend
  refine z_lv [(0, .ref (ad 26)), (1, .ref (ad 6)), (2, .ref (ad 1)), (3, .int (nI (G)))] ⟨rfl, rfl, rfl, rfl, rfl, rfl, rfl, rfl, trivial⟩ ?_
  obtain ⟨sd, sc, s26, s27, s28, hsp⟩ := id hs
  refine z_aload_n C dX3_layOut_0 rfl ?_
  refine z_iconst C (nI (0)) dX3_layOut_1 (by decide) ?_
  refine z_put C (26) (Cn := RX3) (T := TX3) (N := 3) (fi := 2) tyX3 iw_X3_layOut_3 tyX3_ok nmX3 rfl (by decide) ln_X3_layOut_18 hX (by first | decide | omega) rfl s26 rfl rfl rfl rfl (Nat.le_of_ble_eq_true rfl) dX3_layOut_2 (fun Ez2 hE1 => ?_)
  have f3 : Ez2 (1) = .inr (0, [.ref (ad 2), .ref (ad 3)]) := va_up_of hE1 (by first | decide | omega) e1
  have f4 : Ez2 (2) = aI cI 27 wd := va_up_of hE1 (by first | decide | omega) e2
  have f5 : Ez2 (3) = aI cI 162 dt := va_up_of hE1 (by first | decide | omega) e3
  have f6 : Ez2 (6) = .inr (2, [.ref (ad 7), .int (nI (n))]) := va_up_of hE1 (by first | decide | omega) l6
  have f7 : Ez2 (7) = .inl (cM, 6, .inr (.inr (.inr (.inr (sf ad pm))))) := va_up_of hE1 (by first | decide | omega) l7
  have f9 : Ez2 (26) = .inr (3, [.ref (ad 27), .ref (ad 28), .int (nI (0))]) := va_up_eq hE1
  have g10 : ∀ k : Nat, ((k < 26 ∨ 28 < k) ∧ ∀ q : Nat, q < n → k ≠ 8 + 3 * pm q) → Ez2 k = E k := fun k hk => va_up_of hE1 (by omega) ((fun _ _ => rfl) k hk)
  have hm0 : ∀ k : Nat, k < n → ∃ (st wi : Int32) (g : Nat → Nat), Msg cI ad Ez2 (pm k) (nI (sz k)) (nI (co k)) st wi g ∧ (∀ q : Nat, q < sz k → g q = le k q) ∧ (k < 0 → st = nI (sL wd G sz le k) ∧ wi = nI (mW wd (le k) (sz k))) := by
    intro k hk
    obtain ⟨st2, wi2, g2, hM2, hg2⟩ := hm k hk
    have hpk := hpm.1 k (by omega)
    exact ⟨st2, wi2, g2, hM2.mv (va_up_of hE1 (by omega) rfl) (va_up_of hE1 (by omega) rfl) (va_up_of hE1 (by omega) rfl), hg2, fun q => absurd q (Nat.not_lt_zero _)⟩
  refine z_iconst C (nI (0)) dX3_layOut_5 (by decide) ?_
  refine z_istore C [(0, .ref (ad 26)), (1, .ref (ad 6)), (2, .ref (ad 1)), (3, .int (nI (G))), (4, .int (nI (0)))] dX3_layOut_6 (by decide) ⟨rfl, rfl, rfl, rfl, rfl, rfl, rfl, rfl, rfl, rfl, trivial⟩ ?_
  have loop8 : ∀ (fuel : Nat) (i : Nat) (E2 : Nat → va_E), (hi : i ≤ n) → (qs : StripAt cI ad E2 (scols wd dt G sz co le i)) → (q1 : E2 (1) = .inr (0, [.ref (ad 2), .ref (ad 3)])) → (q2 : E2 (2) = aI cI 27 wd) → (q3 : E2 (3) = aI cI 162 dt) → (q6 : E2 (6) = .inr (2, [.ref (ad 7), .int (nI (n))])) → (q7 : E2 (7) = .inl (cM, 6, .inr (.inr (.inr (.inr (sf ad pm)))))) → (qm : ∀ k : Nat, k < n → ∃ (st wi : Int32) (g : Nat → Nat), Msg cI ad E2 (pm k) (nI (sz k)) (nI (co k)) st wi g ∧ (∀ q : Nat, q < sz k → g q = le k q) ∧ (k < i → st = nI (sL wd G sz le k) ∧ wi = nI (mW wd (le k) (sz k)))) → (qf : ∀ k : Nat, ((k < 26 ∨ 28 < k) ∧ ∀ q : Nat, q < n → k ≠ 8 + 3 * pm q) → E2 k = E k) → n - i < fuel → Z vp vl ve { frames := 3, cells := 0, slots := 0, locals := 69 } vs vm va vb vt vc 6 D A 32 ad E2 [(0, .ref (ad 26)), (1, .ref (ad 6)), (2, .ref (ad 1)), (3, .int (nI (G))), (4, .int (nI (i)))] 0 0 Q 8 [] := by
    intro fuel
    induction fuel with
    | zero => intro i E2 hi qs q1 q2 q3 q6 q7 qm qf hlt; exact absurd hlt (Nat.not_lt_zero _)
    | succ fuel ih =>
      intro i E2 hi qs q1 q2 q3 q6 q7 qm qf hlt
      obtain ⟨_, _, s26, -, -, -⟩ := id qs
      have ih8 := ih
      refine z_iload C dX3_layOut_8 rfl ?_
      refine z_aload_n C dX3_layOut_10 rfl ?_
      refine z_getN C (6) (Cn := RX2) (T := TX2) (N := 2) (fi := 1) iw_X3_layOut_2 rfl (by decide) nl_X3_22 (by first | decide | omega) rfl q6 rfl dX3_layOut_11 ?_
      refine z_icmp_geN C 48 (by omega) (by omega) dX3_layOut_14 (by decide) (fun h14 => ?_) (fun h14 => ?_)
      · have hie : i = n := by omega
        rw [hie] at qs
        exact hend _ _ _ dX3_layOut_48 (⟨qs, fun k hk => by obtain ⟨st2, wi2, g2, hM2, hg2, hd2⟩ := qm k hk; obtain ⟨rfl, rfl⟩ := hd2 (by omega); exact ⟨g2, hM2, hg2⟩, qf⟩)
      · have hL1 := sL_le (sz := sz) (le := le) hw hG (i + 1) (fun k hk => hsz k (by omega))
        have hL2 : sL wd G sz le (i + 1) = sL wd G sz le i + mW wd (le i) (sz i) + G := rfl
        have hpi := hpm.1 i (by omega)
        obtain ⟨st1, wi1, g, ⟨m8, m9, m10⟩, hgl, -⟩ := qm i h14
        refine z_aload_n C dX3_layOut_17 rfl ?_
        refine z_iload C dX3_layOut_18 rfl ?_
        refine z_callVQ C (6) (Cn := RX2) (T := TX2) (N := 2) (k_X2_find_y vl D cI cM A ad E2 hX q6 q7 h14 hn) (cwV 1 C.2.2.2.2.1 gX3_layOut_X2_find rfl rfl rfl (by decide +kernel) ⟨Nat.le_of_ble_eq_true rfl, Nat.le_of_ble_eq_true rfl⟩) rfl (by first | decide | omega) rfl q6 rfl rfl (Nat.le_of_ble_eq_true rfl) ⟨Nat.zero_le _, Nat.zero_le _⟩ dX3_layOut_20 ?_
        refine z_astore C [(0, .ref (ad 26)), (1, .ref (ad 6)), (2, .ref (ad 1)), (3, .int (nI (G))), (4, .int (nI (i))), (5, .ref (ad (8 + 3 * (pm i))))] dX3_layOut_23 (by decide) ⟨rfl, rfl, rfl, rfl, rfl, rfl, rfl, rfl, rfl, rfl, rfl, rfl, trivial⟩ ?_
        refine z_aload C dX3_layOut_25 rfl ?_
        refine z_ifnull C dX3_layOut_27 ?_
        refine z_aload_n C dX3_layOut_30 rfl ?_
        refine z_aload C dX3_layOut_31 rfl ?_
        refine z_aload_n C dX3_layOut_33 rfl ?_
        refine z_callVV C (26) (Cn := RX3) (T := TX3) (N := 3) (k_X3_addMessage vl D cI cM A ad E2 hX qs (by rw [scols_len, mW_cg hgl]; omega) q1 q2 q3 m8 m9 m10 hpi (hsz i h14).1 (fun k hk => by rw [hgl k hk]; exact (hsz i h14).2 k hk) hw) (cwV 2 C.2.2.2.2.1 gX3_layOut_X3_addMessage rfl rfl rfl (by decide +kernel) ⟨Nat.le_of_ble_eq_true rfl, Nat.le_of_ble_eq_true rfl⟩) rfl (by first | decide | omega) rfl s26 rfl rfl (Nat.le_of_ble_eq_true rfl) ⟨Nat.zero_le _, Nat.zero_le _⟩ dX3_layOut_34 (fun Ez11 hp12 => ?_)
        obtain ⟨ha, hm8, hga⟩ := hp12
        rw [mcols_cg hgl] at ha
        rw [scols_len, mW_cg hgl] at hm8
        have f13 : Ez11 (1) = .inr (0, [.ref (ad 2), .ref (ad 3)]) := (hga (1) (by omega)).trans q1
        have f14 : Ez11 (2) = aI cI 27 wd := (hga (2) (by omega)).trans q2
        have f15 : Ez11 (3) = aI cI 162 dt := (hga (3) (by omega)).trans q3
        have f16 : Ez11 (6) = .inr (2, [.ref (ad 7), .int (nI (n))]) := (hga (6) (by omega)).trans q6
        have f17 : Ez11 (7) = .inl (cM, 6, .inr (.inr (.inr (.inr (sf ad pm))))) := (hga (7) (by omega)).trans q7
        obtain ⟨_, _, t26, -, -, -⟩ := id ha
        refine z_aload_n C dX3_layOut_37 rfl ?_
        refine z_iload_n C dX3_layOut_38 rfl ?_
        refine z_callVV C (26) (Cn := RX3) (T := TX3) (N := 3) (k_X3_addDark vl D cI cM A ad Ez11 hX ha (by rw [List.length_append, scols_len, mcols_len]; omega)) (cwV 1 C.2.2.2.2.1 gX3_layOut_X3_addDark rfl rfl rfl (by decide +kernel) ⟨Nat.le_of_ble_eq_true rfl, Nat.le_of_ble_eq_true rfl⟩) rfl (by first | decide | omega) rfl t26 rfl rfl (Nat.le_of_ble_eq_true rfl) ⟨Nat.zero_le _, Nat.zero_le _⟩ dX3_layOut_39 (fun Ez18 hp19 => ?_)
        obtain ⟨hb, hgb⟩ := hp19
        have f20 : Ez18 (1) = .inr (0, [.ref (ad 2), .ref (ad 3)]) := (hgb (1) (by omega)).trans f13
        have f21 : Ez18 (2) = aI cI 27 wd := (hgb (2) (by omega)).trans f14
        have f22 : Ez18 (3) = aI cI 162 dt := (hgb (3) (by omega)).trans f15
        have f23 : Ez18 (6) = .inr (2, [.ref (ad 7), .int (nI (n))]) := (hgb (6) (by omega)).trans f16
        have f24 : Ez18 (7) = .inl (cM, 6, .inr (.inr (.inr (.inr (sf ad pm))))) := (hgb (7) (by omega)).trans f17
        have hfr : ∀ k : Nat, (k < 26 ∨ 28 < k) ∧ k ≠ 8 + 3 * pm i → Ez18 k = E2 k := fun k hk => (hgb k hk.1).trans (hga k hk)
        have hm9 : ∀ k : Nat, k < n → ∃ (st wi : Int32) (g : Nat → Nat), Msg cI ad Ez18 (pm k) (nI (sz k)) (nI (co k)) st wi g ∧ (∀ q : Nat, q < sz k → g q = le k q) ∧ (k < i + 1 → st = nI (sL wd G sz le k) ∧ wi = nI (mW wd (le k) (sz k))) := by
          intro k hk
          by_cases e : k = i
          · subst e
            exact ⟨_, _, g, ⟨(hgb _ (by omega)).trans hm8, (hfr _ (by omega)).trans m9, (hfr _ (by omega)).trans m10⟩, hgl, fun _ => ⟨rfl, rfl⟩⟩
          · obtain ⟨st2, wi2, g2, hM2, hg2, hd2⟩ := qm k hk
            have hpk := hpm.1 k (by omega)
            have hne : pm k ≠ pm i := fun q => e (hpm.2 k i (by omega) (by omega) q)
            exact ⟨st2, wi2, g2, hM2.mv (hfr _ (by omega)) (hfr _ (by omega)) (hfr _ (by omega)), hg2, fun q => hd2 (by omega)⟩
        have hf9 : ∀ k : Nat, ((k < 26 ∨ 28 < k) ∧ ∀ q : Nat, q < n → k ≠ 8 + 3 * pm q) → Ez18 k = E k := fun k hk => (hfr k ⟨hk.1, hk.2 i h14⟩).trans (qf k hk)
        refine z_iincN (j := 1) C [(0, .ref (ad 26)), (1, .ref (ad 6)), (2, .ref (ad 1)), (3, .int (nI (G))), (4, .int (nI (i + 1))), (5, .ref (ad (8 + 3 * (pm i))))] dX3_layOut_42 rfl (by decide) ⟨rfl, rfl, rfl, rfl, rfl, rfl, rfl, rfl, rfl, rfl, rfl, rfl, trivial⟩ ?_
        refine z_goto C 8 dX3_layOut_45 (by decide) ?_
        refine z_lv [(0, .ref (ad 26)), (1, .ref (ad 6)), (2, .ref (ad 1)), (3, .int (nI (G))), (4, .int (nI (i + 1)))] ⟨rfl, rfl, rfl, rfl, rfl, rfl, rfl, rfl, rfl, rfl, trivial⟩ ?_
        exact ih8 (i + 1) Ez18 (by omega) (by rw [scols]; exact hb) f20 f21 f22 f23 f24 hm9 hf9 (by omega)
  refine z_lv [(0, .ref (ad 26)), (1, .ref (ad 6)), (2, .ref (ad 1)), (3, .int (nI (G))), (4, .int (nI (0)))] ⟨rfl, rfl, rfl, rfl, rfl, rfl, rfl, rfl, rfl, rfl, trivial⟩ ?_
  exact loop8 (n + 1) 0 Ez2 (Nat.zero_le _) ⟨sd, sc, f9, va_up_of hE1 (by decide) s27, va_up_of hE1 (by decide) s28, SP_nil⟩ f3 f4 f5 f6 f7 hm0 g10 (by omega)

