theorem mW_mono (wd le : Nat → Nat) {i n : Nat} (h : i < n) : mW wd le (i + 1) ≤ mW wd le n := by
  have h2 : i + 1 ≤ n := h
  clear h
  induction h2 with
  | refl => exact Nat.le_refl _
  | step _ ih => exact Nat.le_trans ih (by rw [mW]; omega)
theorem iw_X3_addMessage_3 : ∀ w ∈ wsX30, w ∈ wsX3_addMessage := by decide +kernel
theorem ln_X3_addMessage_18 : Cond.fieldLink RX3 18 "MarqueeDisplay$Strip" "length" "I" ∈ wsX3_addMessage := by decide +kernel
theorem iw_X3_addMessage_1 : ∀ w ∈ wsX10, w ∈ wsX3_addMessage := by decide +kernel
theorem nl_X3_39 : Cond.fieldLinkNest RX3 39 "MarqueeDisplay$Message" "start" "I" "MarqueeDisplay" ∈ nwL := by decide +kernel
theorem nl_X3_44 : Cond.fieldLinkNest RX3 44 "MarqueeDisplay$Message" "text" "LMarqueeDisplay$Text;" "MarqueeDisplay" ∈ nwL := by decide +kernel
theorem iw_X3_addMessage_4 : ∀ w ∈ wsX40, w ∈ wsX3_addMessage := by decide +kernel
theorem nl_X3_48 : Cond.fieldLinkNest RX3 48 "MarqueeDisplay$Text" "length" "I" "MarqueeDisplay" ∈ nwL := by decide +kernel
theorem nl_X3_62 : Cond.fieldLinkNest RX3 62 "MarqueeDisplay$Message" "width" "I" "MarqueeDisplay" ∈ nwL := by decide +kernel
theorem nl_X3_55 : Cond.fieldLinkNest RX3 55 "MarqueeDisplay$Message" "color" "I" "MarqueeDisplay" ∈ nwL := by decide +kernel
set_option maxHeartbeats 4000000 in
set_option maxRecDepth 100000 in
theorem k_X3_addMessage (vl : Launch) (D : va_G) (cI cM : ClassId) (A : Nat → Prop) (ad : Nat → Nat) (E : Nat → va_E) (hX : XD A 40 ad) {wd dt : Nat → Nat} {L0 : List (Nat × Nat)} {j co len : Nat} {g : Nat → Nat} {st0 wi0 : Int32} (hs : StripAt cI ad E L0) (hl : L0.length + mW wd g len ≤ 552) (e1 : E (1) = .inr (0, [.ref (ad 2), .ref (ad 3)])) (e2 : E (2) = aI cI 27 wd) (e3 : E (3) = aI cI 162 dt) (m8 : E (8 + 3 * j) = .inr (1, [.ref (ad (9 + 3 * j)), .int (nI (co)), .int (st0), .int (wi0)])) (m9 : E (9 + 3 * j) = .inr (4, [.ref (ad (10 + 3 * j)), .int (nI (len))])) (m10 : E (10 + 3 * j) = aI cI 12 g) (hj : j < 6) (hlen : len ≤ 12) (hg : ∀ k, k < len → g k < 27) (hw : ∀ c, c < 27 → wd c ≤ 6) : MV vl yX3_addMessage wsX3_addMessage { frames := 2, cells := 0, slots := 0, locals := 46 } D cI cM A 40 ad E [.ref (ad 26), .ref (ad (8 + 3 * j)), .ref (ad 1)] (fun E1 => StripAt cI ad E1 (L0 ++ mcols wd dt co g len) ∧ E1 (8 + 3 * j) = .inr (1, [.ref (ad (9 + 3 * j)), .int (nI co), .int (nI L0.length), .int (nI (mW wd g len))]) ∧ ∀ k : Nat, ((k < 26 ∨ 28 < k) ∧ k ≠ 8 + 3 * j) → E1 k = E k) := by
  refine mv_of cX3_addMessage 4 RX3 (by decide) rfl rfl (Nat.le_of_ble_eq_true rfl) ?_
  intro vp ve vs vm va vb vt vc Q C hend
  refine z_lv [(0, .ref (ad 26)), (1, .ref (ad (8 + 3 * j))), (2, .ref (ad 1))] ⟨rfl, rfl, rfl, rfl, rfl, rfl, trivial⟩ ?_
  obtain ⟨sd, sc, s26, s27, s28, hsp⟩ := id hs
  refine z_aload_n C dX3_addMessage_0 rfl ?_
  refine z_aload_n C dX3_addMessage_1 rfl ?_
  refine z_get C (26) (Cn := RX3) (T := TX3) (N := 3) (fi := 2) iw_X3_addMessage_3 rfl (by decide) ln_X3_addMessage_18 (by first | decide | omega) rfl s26 rfl dX3_addMessage_2 ?_
  refine z_putN C (8 + 3 * j) (Cn := RX1) (T := TX1) (N := 4) (fi := 2) tyX1 iw_X3_addMessage_1 tyX1_ok nmX1 rfl (by decide) nl_X3_39 hX (by first | decide | omega) rfl m8 rfl rfl rfl rfl (Nat.le_of_ble_eq_true rfl) dX3_addMessage_5 (fun Ez2 hE1 => ?_)
  have f3 : Ez2 (1) = .inr (0, [.ref (ad 2), .ref (ad 3)]) := va_up_of hE1 (by first | decide | omega) e1
  have f4 : Ez2 (2) = aI cI 27 wd := va_up_of hE1 (by first | decide | omega) e2
  have f5 : Ez2 (3) = aI cI 162 dt := va_up_of hE1 (by first | decide | omega) e3
  have f7 : Ez2 (9 + 3 * j) = .inr (4, [.ref (ad (10 + 3 * j)), .int (nI (len))]) := va_up_of hE1 (by first | decide | omega) m9
  have f8 : Ez2 (10 + 3 * j) = aI cI 12 g := va_up_of hE1 (by first | decide | omega) m10
  have f9 : Ez2 (26) = .inr (3, [.ref (ad 27), .ref (ad 28), .int (nI (L0.length))]) := va_up_of hE1 (by first | decide | omega) s26
  have f10 : Ez2 (8 + 3 * j) = .inr (1, [.ref (ad (9 + 3 * j)), .int (nI (co)), .int (nI (L0.length)), .int (wi0)]) := va_up_eq hE1
  have g11 : ∀ k : Nat, ((k < 26 ∨ 28 < k) ∧ k ≠ 8 + 3 * j) → Ez2 k = E k := fun k hk => va_up_of hE1 (by omega) ((fun _ _ => rfl) k hk)
  refine z_iconst C (nI (0)) dX3_addMessage_8 (by decide) ?_
  refine z_istore_n C [(0, .ref (ad 26)), (1, .ref (ad (8 + 3 * j))), (2, .ref (ad 1)), (3, .int (nI (0)))] dX3_addMessage_9 (by decide) ⟨rfl, rfl, rfl, rfl, rfl, rfl, rfl, rfl, trivial⟩ ?_
  have loop10 : ∀ (fuel : Nat) (i : Nat) (E2 : Nat → va_E), (hi : i ≤ len) → (qs : StripAt cI ad E2 (L0 ++ mcols wd dt co g i)) → (q1 : E2 (1) = .inr (0, [.ref (ad 2), .ref (ad 3)])) → (q2 : E2 (2) = aI cI 27 wd) → (q3 : E2 (3) = aI cI 162 dt) → (q8 : E2 (8 + 3 * j) = .inr (1, [.ref (ad (9 + 3 * j)), .int (nI (co)), .int (nI (L0.length)), .int (wi0)])) → (q9 : E2 (9 + 3 * j) = .inr (4, [.ref (ad (10 + 3 * j)), .int (nI (len))])) → (q10 : E2 (10 + 3 * j) = aI cI 12 g) → (qf : ∀ k : Nat, ((k < 26 ∨ 28 < k) ∧ k ≠ 8 + 3 * j) → E2 k = E k) → len - i < fuel → Z vp vl ve { frames := 2, cells := 0, slots := 0, locals := 46 } vs vm va vb vt vc 4 D A 40 ad E2 [(0, .ref (ad 26)), (1, .ref (ad (8 + 3 * j))), (2, .ref (ad 1)), (3, .int (nI (i)))] 0 0 Q 10 [] := by
    intro fuel
    induction fuel with
    | zero => intro i E2 hi qs q1 q2 q3 q8 q9 q10 qf hlt; exact absurd hlt (Nat.not_lt_zero _)
    | succ fuel ih =>
      intro i E2 hi qs q1 q2 q3 q8 q9 q10 qf hlt
      obtain ⟨_, _, s26, -, -, -⟩ := id qs
      have hln : (L0 ++ mcols wd dt co g i).length = L0.length + mW wd g i := by rw [List.length_append, mcols_len]
      have ih10 := ih
      refine z_iload_n C dX3_addMessage_10 rfl ?_
      refine z_aload_n C dX3_addMessage_11 rfl ?_
      refine z_getN C (8 + 3 * j) (Cn := RX1) (T := TX1) (N := 4) (fi := 0) iw_X3_addMessage_1 rfl (by decide) nl_X3_44 (by first | decide | omega) rfl q8 rfl dX3_addMessage_12 ?_
      refine z_getN C (9 + 3 * j) (Cn := RX4) (T := TX4) (N := 2) (fi := 1) iw_X3_addMessage_4 rfl (by decide) nl_X3_48 (by first | decide | omega) rfl q9 rfl dX3_addMessage_15 ?_
      refine z_icmp_geN C 57 (by omega) (by omega) dX3_addMessage_18 (by decide) (fun h18 => ?_) (fun h18 => ?_)
      · have hie : i = len := by omega
        refine z_aload_n C dX3_addMessage_57 rfl ?_
        refine z_aload_n C dX3_addMessage_58 rfl ?_
        refine z_get C (26) (Cn := RX3) (T := TX3) (N := 3) (fi := 2) iw_X3_addMessage_3 rfl (by decide) ln_X3_addMessage_18 (by first | decide | omega) rfl s26 rfl dX3_addMessage_59 ?_
        refine z_aload_n C dX3_addMessage_62 rfl ?_
        refine z_getN C (8 + 3 * j) (Cn := RX1) (T := TX1) (N := 4) (fi := 2) iw_X3_addMessage_1 rfl (by decide) nl_X3_39 (by first | decide | omega) rfl q8 rfl dX3_addMessage_63 ?_
        refine z_isubN C (by rw [hln]; omega) dX3_addMessage_66 ?_
        refine z_top (nI (mW wd g len)) (by rw [hln, hie]; congr 1; omega) ?_
        refine z_putN C (8 + 3 * j) (Cn := RX1) (T := TX1) (N := 4) (fi := 3) tyX1 iw_X3_addMessage_1 tyX1_ok nmX1 rfl (by decide) nl_X3_62 hX (by first | decide | omega) rfl q8 rfl rfl rfl rfl (Nat.le_of_ble_eq_true rfl) dX3_addMessage_67 (fun Ez13 hE12 => ?_)
        have f14 : Ez13 (1) = .inr (0, [.ref (ad 2), .ref (ad 3)]) := va_up_of hE12 (by first | decide | omega) q1
        have f15 : Ez13 (2) = aI cI 27 wd := va_up_of hE12 (by first | decide | omega) q2
        have f16 : Ez13 (3) = aI cI 162 dt := va_up_of hE12 (by first | decide | omega) q3
        have f18 : Ez13 (9 + 3 * j) = .inr (4, [.ref (ad (10 + 3 * j)), .int (nI (len))]) := va_up_of hE12 (by first | decide | omega) q9
        have f19 : Ez13 (10 + 3 * j) = aI cI 12 g := va_up_of hE12 (by first | decide | omega) q10
        have f20 : Ez13 (26) = .inr (3, [.ref (ad 27), .ref (ad 28), .int (nI ((L0 ++ mcols wd dt co g i).length))]) := va_up_of hE12 (by first | decide | omega) s26
        have f21 : Ez13 (8 + 3 * j) = .inr (1, [.ref (ad (9 + 3 * j)), .int (nI (co)), .int (nI (L0.length)), .int (nI (mW wd g len))]) := va_up_eq hE12
        have g22 : ∀ k : Nat, ((k < 26 ∨ 28 < k) ∧ k ≠ 8 + 3 * j) → Ez13 k = E k := fun k hk => va_up_of hE12 (by omega) (qf k hk)
        exact hend _ _ _ dX3_addMessage_70 (⟨(by rw [hie] at qs; exact qs.mv (va_up_of hE12 (by omega) rfl) (va_up_of hE12 (by omega) rfl) (va_up_of hE12 (by omega) rfl)), f21, g22⟩)
      · have hgi := hg i h18
        have hw6 := hw _ hgi
        have hstep : mW wd g (i + 1) ≤ mW wd g len := mW_mono wd g h18
        have hmw : mW wd g (i + 1) = mW wd g i + (if i = 0 then 0 else 1) + wd (g i) := rfl
        refine z_aload_n C dX3_addMessage_21 rfl ?_
        refine z_iload_n C dX3_addMessage_22 rfl ?_
        refine z_if_neN C 30 (by omega) dX3_addMessage_23 (by decide) (fun h23 => ?_) (fun h23 => ?_)
        · have hi0 : ¬ i = 0 := h23
          rw [if_neg hi0] at hmw
          refine z_iconst C (nI (1)) dX3_addMessage_30 (by decide) ?_
          refine z_callVV C (26) (Cn := RX3) (T := TX3) (N := 3) (k_X3_addDark vl D cI cM A ad E2 hX qs (by rw [hln]; omega)) (cwV 1 C.2.2.2.2.1 gX3_addMessage_X3_addDark rfl rfl rfl (by decide +kernel) ⟨Nat.le_of_ble_eq_true rfl, Nat.le_of_ble_eq_true rfl⟩) rfl (by first | decide | omega) rfl s26 rfl rfl (Nat.le_of_ble_eq_true rfl) ⟨Nat.zero_le _, Nat.zero_le _⟩ dX3_addMessage_31 (fun Ez23 hp24 => ?_)
          obtain ⟨hs25, hg26⟩ := hp24
          have f28 : Ez23 (1) = .inr (0, [.ref (ad 2), .ref (ad 3)]) := (hg26 (1) (by omega)).trans q1
          have f29 : Ez23 (2) = aI cI 27 wd := (hg26 (2) (by omega)).trans q2
          have f30 : Ez23 (3) = aI cI 162 dt := (hg26 (3) (by omega)).trans q3
          have f31 : Ez23 (8 + 3 * j) = .inr (1, [.ref (ad (9 + 3 * j)), .int (nI (co)), .int (nI (L0.length)), .int (wi0)]) := (hg26 (8 + 3 * j) (by omega)).trans q8
          have f32 : Ez23 (9 + 3 * j) = .inr (4, [.ref (ad (10 + 3 * j)), .int (nI (len))]) := (hg26 (9 + 3 * j) (by omega)).trans q9
          have f33 : Ez23 (10 + 3 * j) = aI cI 12 g := (hg26 (10 + 3 * j) (by omega)).trans q10
          have g34 : ∀ k : Nat, ((k < 26 ∨ 28 < k) ∧ k ≠ 8 + 3 * j) → Ez23 k = E k := fun k hk => (hg26 k (by omega)).trans (qf k hk)
          obtain ⟨_, _, s35, -, -, -⟩ := id hs25
          refine z_aload_n C dX3_addMessage_34 rfl ?_
          refine z_aload_n C dX3_addMessage_35 rfl ?_
          refine z_getN C (8 + 3 * j) (Cn := RX1) (T := TX1) (N := 4) (fi := 0) iw_X3_addMessage_1 rfl (by decide) nl_X3_44 (by first | decide | omega) rfl f31 rfl dX3_addMessage_36 ?_
          refine z_iload_n C dX3_addMessage_39 rfl ?_
          refine z_callVF C (9 + 3 * j) (Cn := RX4) (T := TX4) (N := 2) (k_charAt_m vl D cI cM A ad Ez23 hX hj f32 f33 (by omega)) (cwV 1 C.2.2.2.2.1 gX3_addMessage_X4_characterAt rfl rfl rfl (by decide +kernel) ⟨Nat.le_of_ble_eq_true rfl, Nat.le_of_ble_eq_true rfl⟩) rfl (by first | decide | omega) rfl f32 rfl rfl (Nat.le_of_ble_eq_true rfl) ⟨Nat.zero_le _, Nat.zero_le _⟩ dX3_addMessage_40 ?_
          refine z_aload_n C dX3_addMessage_43 rfl ?_
          refine z_getN C (8 + 3 * j) (Cn := RX1) (T := TX1) (N := 4) (fi := 1) iw_X3_addMessage_1 rfl (by decide) nl_X3_55 (by first | decide | omega) rfl f31 rfl dX3_addMessage_44 ?_
          refine z_aload_n C dX3_addMessage_47 rfl ?_
          refine z_callVV C (26) (Cn := RX3) (T := TX3) (N := 3) (k_X3_addGlyph vl D cI cM A ad Ez23 hX hs25 (by rw [List.length_append, hln, dk_len]; omega) f28 f29 f30 hgi hw6) (cwV 3 C.2.2.2.2.1 gX3_addMessage_X3_addGlyph rfl rfl rfl (by decide +kernel) ⟨Nat.le_of_ble_eq_true rfl, Nat.le_of_ble_eq_true rfl⟩) rfl (by first | decide | omega) rfl s35 rfl rfl (Nat.le_of_ble_eq_true rfl) ⟨Nat.zero_le _, Nat.zero_le _⟩ dX3_addMessage_48 (fun Ez36 hp37 => ?_)
          obtain ⟨hs38, hg39⟩ := hp37
          have f41 : Ez36 (1) = .inr (0, [.ref (ad 2), .ref (ad 3)]) := (hg39 (1) (by omega)).trans f28
          have f42 : Ez36 (2) = aI cI 27 wd := (hg39 (2) (by omega)).trans f29
          have f43 : Ez36 (3) = aI cI 162 dt := (hg39 (3) (by omega)).trans f30
          have f44 : Ez36 (8 + 3 * j) = .inr (1, [.ref (ad (9 + 3 * j)), .int (nI (co)), .int (nI (L0.length)), .int (wi0)]) := (hg39 (8 + 3 * j) (by omega)).trans f31
          have f45 : Ez36 (9 + 3 * j) = .inr (4, [.ref (ad (10 + 3 * j)), .int (nI (len))]) := (hg39 (9 + 3 * j) (by omega)).trans f32
          have f46 : Ez36 (10 + 3 * j) = aI cI 12 g := (hg39 (10 + 3 * j) (by omega)).trans f33
          have g47 : ∀ k : Nat, ((k < 26 ∨ 28 < k) ∧ k ≠ 8 + 3 * j) → Ez36 k = E k := fun k hk => (hg39 k (by omega)).trans (g34 k hk)
          obtain ⟨_, _, s48, -, -, -⟩ := id hs38
          refine z_iincN (j := 1) C [(0, .ref (ad 26)), (1, .ref (ad (8 + 3 * j))), (2, .ref (ad 1)), (3, .int (nI (i + 1)))] dX3_addMessage_51 rfl (by decide) ⟨rfl, rfl, rfl, rfl, rfl, rfl, rfl, rfl, trivial⟩ ?_
          refine z_goto C 10 dX3_addMessage_54 (by decide) ?_
          refine z_lv [(0, .ref (ad 26)), (1, .ref (ad (8 + 3 * j))), (2, .ref (ad 1)), (3, .int (nI (i + 1)))] ⟨rfl, rfl, rfl, rfl, rfl, rfl, rfl, rfl, trivial⟩ ?_
          exact ih10 (i + 1) Ez36 (by omega) (by rw [mcols]; (first | rw [if_neg hi0] | rw [if_pos hi0]); rw [← List.append_assoc, ← List.append_assoc]; exact hs38) f41 f42 f43 f44 f45 f46 g47 (by omega)
        · have hi0 : i = 0 := h23
          rw [if_pos hi0] at hmw
          refine z_iconst C (nI (0)) dX3_addMessage_26 (by decide) ?_
          refine z_goto C 31 dX3_addMessage_27 (by decide) ?_
          refine z_callVV C (26) (Cn := RX3) (T := TX3) (N := 3) (k_X3_addDark vl D cI cM A ad E2 hX qs (by rw [hln]; omega)) (cwV 1 C.2.2.2.2.1 gX3_addMessage_X3_addDark rfl rfl rfl (by decide +kernel) ⟨Nat.le_of_ble_eq_true rfl, Nat.le_of_ble_eq_true rfl⟩) rfl (by first | decide | omega) rfl s26 rfl rfl (Nat.le_of_ble_eq_true rfl) ⟨Nat.zero_le _, Nat.zero_le _⟩ dX3_addMessage_31 (fun Ez49 hp50 => ?_)
          obtain ⟨hs51, hg52⟩ := hp50
          have f54 : Ez49 (1) = .inr (0, [.ref (ad 2), .ref (ad 3)]) := (hg52 (1) (by omega)).trans q1
          have f55 : Ez49 (2) = aI cI 27 wd := (hg52 (2) (by omega)).trans q2
          have f56 : Ez49 (3) = aI cI 162 dt := (hg52 (3) (by omega)).trans q3
          have f57 : Ez49 (8 + 3 * j) = .inr (1, [.ref (ad (9 + 3 * j)), .int (nI (co)), .int (nI (L0.length)), .int (wi0)]) := (hg52 (8 + 3 * j) (by omega)).trans q8
          have f58 : Ez49 (9 + 3 * j) = .inr (4, [.ref (ad (10 + 3 * j)), .int (nI (len))]) := (hg52 (9 + 3 * j) (by omega)).trans q9
          have f59 : Ez49 (10 + 3 * j) = aI cI 12 g := (hg52 (10 + 3 * j) (by omega)).trans q10
          have g60 : ∀ k : Nat, ((k < 26 ∨ 28 < k) ∧ k ≠ 8 + 3 * j) → Ez49 k = E k := fun k hk => (hg52 k (by omega)).trans (qf k hk)
          obtain ⟨_, _, s61, -, -, -⟩ := id hs51
          refine z_aload_n C dX3_addMessage_34 rfl ?_
          refine z_aload_n C dX3_addMessage_35 rfl ?_
          refine z_getN C (8 + 3 * j) (Cn := RX1) (T := TX1) (N := 4) (fi := 0) iw_X3_addMessage_1 rfl (by decide) nl_X3_44 (by first | decide | omega) rfl f57 rfl dX3_addMessage_36 ?_
          refine z_iload_n C dX3_addMessage_39 rfl ?_
          refine z_callVF C (9 + 3 * j) (Cn := RX4) (T := TX4) (N := 2) (k_charAt_m vl D cI cM A ad Ez49 hX hj f58 f59 (by omega)) (cwV 1 C.2.2.2.2.1 gX3_addMessage_X4_characterAt rfl rfl rfl (by decide +kernel) ⟨Nat.le_of_ble_eq_true rfl, Nat.le_of_ble_eq_true rfl⟩) rfl (by first | decide | omega) rfl f58 rfl rfl (Nat.le_of_ble_eq_true rfl) ⟨Nat.zero_le _, Nat.zero_le _⟩ dX3_addMessage_40 ?_
          refine z_aload_n C dX3_addMessage_43 rfl ?_
          refine z_getN C (8 + 3 * j) (Cn := RX1) (T := TX1) (N := 4) (fi := 1) iw_X3_addMessage_1 rfl (by decide) nl_X3_55 (by first | decide | omega) rfl f57 rfl dX3_addMessage_44 ?_
          refine z_aload_n C dX3_addMessage_47 rfl ?_
          refine z_callVV C (26) (Cn := RX3) (T := TX3) (N := 3) (k_X3_addGlyph vl D cI cM A ad Ez49 hX hs51 (by rw [List.length_append, hln, dk_len]; omega) f54 f55 f56 hgi hw6) (cwV 3 C.2.2.2.2.1 gX3_addMessage_X3_addGlyph rfl rfl rfl (by decide +kernel) ⟨Nat.le_of_ble_eq_true rfl, Nat.le_of_ble_eq_true rfl⟩) rfl (by first | decide | omega) rfl s61 rfl rfl (Nat.le_of_ble_eq_true rfl) ⟨Nat.zero_le _, Nat.zero_le _⟩ dX3_addMessage_48 (fun Ez62 hp63 => ?_)
          obtain ⟨hs64, hg65⟩ := hp63
          have f67 : Ez62 (1) = .inr (0, [.ref (ad 2), .ref (ad 3)]) := (hg65 (1) (by omega)).trans f54
          have f68 : Ez62 (2) = aI cI 27 wd := (hg65 (2) (by omega)).trans f55
          have f69 : Ez62 (3) = aI cI 162 dt := (hg65 (3) (by omega)).trans f56
          have f70 : Ez62 (8 + 3 * j) = .inr (1, [.ref (ad (9 + 3 * j)), .int (nI (co)), .int (nI (L0.length)), .int (wi0)]) := (hg65 (8 + 3 * j) (by omega)).trans f57
          have f71 : Ez62 (9 + 3 * j) = .inr (4, [.ref (ad (10 + 3 * j)), .int (nI (len))]) := (hg65 (9 + 3 * j) (by omega)).trans f58
          have f72 : Ez62 (10 + 3 * j) = aI cI 12 g := (hg65 (10 + 3 * j) (by omega)).trans f59
          have g73 : ∀ k : Nat, ((k < 26 ∨ 28 < k) ∧ k ≠ 8 + 3 * j) → Ez62 k = E k := fun k hk => (hg65 k (by omega)).trans (g60 k hk)
          obtain ⟨_, _, s74, -, -, -⟩ := id hs64
          refine z_iincN (j := 1) C [(0, .ref (ad 26)), (1, .ref (ad (8 + 3 * j))), (2, .ref (ad 1)), (3, .int (nI (i + 1)))] dX3_addMessage_51 rfl (by decide) ⟨rfl, rfl, rfl, rfl, rfl, rfl, rfl, rfl, trivial⟩ ?_
          refine z_goto C 10 dX3_addMessage_54 (by decide) ?_
          refine z_lv [(0, .ref (ad 26)), (1, .ref (ad (8 + 3 * j))), (2, .ref (ad 1)), (3, .int (nI (i + 1)))] ⟨rfl, rfl, rfl, rfl, rfl, rfl, rfl, rfl, trivial⟩ ?_
          exact ih10 (i + 1) Ez62 (by omega) (by rw [mcols]; (first | rw [if_neg hi0] | rw [if_pos hi0]); rw [← List.append_assoc, ← List.append_assoc]; exact hs64) f67 f68 f69 f70 f71 f72 g73 (by omega)
  refine z_lv [(0, .ref (ad 26)), (1, .ref (ad (8 + 3 * j))), (2, .ref (ad 1)), (3, .int (nI (0)))] ⟨rfl, rfl, rfl, rfl, rfl, rfl, rfl, rfl, trivial⟩ ?_
  exact loop10 (len + 1) 0 Ez2 (Nat.zero_le _) (by show StripAt cI ad Ez2 (L0 ++ []); rw [List.append_nil]; exact hs.mv (va_up_of hE1 (by omega) rfl) (va_up_of hE1 (by omega) rfl) (va_up_of hE1 (by omega) rfl)) f3 f4 f5 f10 f7 f8 g11 (by omega)

