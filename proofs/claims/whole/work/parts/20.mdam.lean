def modE (ad : Nat → Nat) (M : St) (sp : Nat) : va_E := .inr (6, [.int (nI (M 0 0)), .int (nI (M 0 1)), .int (nI (M 0 2)), .int (shI (M 0 8)), .int (nI (M 0 3)), .int (nI (M 0 4)), .int (nI (M 0 5)), .ref (ad 31), .ref (ad 32), .ref (ad 33), .int (nI (M 0 6)), .ref (ad 34), .int (nI (M 0 7)), .ref (ad 35), .ref (ad 36), .ref (ad 37), .int (nI (sp)), .ref (ad 38), .ref (ad 39)])
def RelM (cI : ClassId) (ad : Nat → Nat) (M : St) (E : Nat → va_E) : Prop := ∃ (gl sz co lt : Nat → Nat) (sp : Nat), E 30 = modE ad M sp ∧ E 31 = aI cI 27 (M 1) ∧ E 32 = aI cI 162 gl ∧ E 33 = aI cI 32 (M 3) ∧ E 34 = aI cI 12 (M 4) ∧ E 35 = aI cI 6 sz ∧ E 36 = aI cI 6 co ∧ E 37 = aI cI 72 lt ∧ MS cI E [] ∧ M 0 7 ≤ 6 ∧ (∀ c, c < 27 → ∀ j, j < M 1 c → gl (6 * c + j) = M 2 (c * 6 + j)) ∧ (∀ i, i < M 0 7 → sz i = M 5 i ∧ co i = M 6 i ∧ ∀ k, k < M 5 i → ltr lt i k = ltr (M 7) i k)
theorem MS.nil {cI : ClassId} {E : Nat → va_E} {l : List (Nat × Nat)} (h : MS cI E l) : MS cI E [] := by
  obtain ⟨sd, sc, a, b, d⟩ := h
  exact ⟨sd, sc, a, b, SP_nil⟩
theorem RelM.mv {cI : ClassId} {ad : Nat → Nat} {M : St} {E E1 : Nat → va_E} (h : RelM cI ad M E) (hk : ∀ k : Nat, 30 ≤ k → E1 k = E k) : RelM cI ad M E1 := by
  obtain ⟨gl, sz, co, lt, sp, e30, e31, e32, e33, e34, e35, e36, e37, hms, hn6, hgl, hrel⟩ := h
  exact ⟨gl, sz, co, lt, sp, (hk _ (by omega)).trans e30, (hk _ (by omega)).trans e31, (hk _ (by omega)).trans e32, (hk _ (by omega)).trans e33, (hk _ (by omega)).trans e34, (hk _ (by omega)).trans e35, (hk _ (by omega)).trans e36, (hk _ (by omega)).trans e37, hms.mv (hk _ (by omega)) (hk _ (by omega)), hn6, hgl, hrel⟩
theorem inv_sh {M : St} (h : Inv M) {t : Nat} (ht : t ≤ 4) : Inv (s0 M 8 t) := by
  obtain ⟨⟨h0, h1, h2, h3, h4, h5, h6, h7, h8, h9⟩, h10⟩ := h
  exact ⟨⟨h0, h1, h2, h3, h4, h5, h6, h7, ht, h9⟩, h10⟩
theorem dm_nil {M : St} {t : Nat} (h : (stripM M).length = 0) : dmM M t = 0 := by
  unfold dmM
  rw [L0nil h]
  have e : ∀ x, dmS [] t (M 3) (M 0 4) x = 0 := fun x => by
    unfold dmS
    have h0 : dotc [] (M 0 4 + x) = 0 := rfl
    rw [h0]
    have h1 : pc8 0 = 0 := by decide
    omega
  have h2 : sm (dmS [] t (M 3) (M 0 4)) (M 0 0) ≤ (M 0 0) * 0 := sm_le (fun k _ => Nat.le_of_eq (e k))
  omega
theorem iw_X6_damageBy_6 : ∀ w ∈ wsX60, w ∈ wsX6_damageBy := by decide +kernel
theorem ln_X6_damageBy_7 : Cond.fieldLink RX6 7 "MarqueeDisplayModel" "columns" "I" ∈ wsX6_damageBy := by decide +kernel
theorem ln_X6_damageBy_67 : Cond.fieldLink RX6 67 "MarqueeDisplayModel" "strip" "I" ∈ wsX6_damageBy := by decide +kernel
theorem ln_X6_damageBy_44 : Cond.fieldLink RX6 44 "MarqueeDisplayModel" "dots" "[I" ∈ wsX6_damageBy := by decide +kernel
theorem ln_X6_damageBy_64 : Cond.fieldLink RX6 64 "MarqueeDisplayModel" "offset" "I" ∈ wsX6_damageBy := by decide +kernel
theorem ln_X6_damageBy_29 : Cond.fieldLink RX6 29 "MarqueeDisplayModel" "defective" "[I" ∈ wsX6_damageBy := by decide +kernel
set_option maxHeartbeats 4000000 in
set_option maxRecDepth 100000 in
theorem k_X6_damageBy (vl : Launch) (D : va_G) (cI cM : ClassId) (A : Nat → Prop) (ad : Nat → Nat) (E : Nat → va_E) (hX : XD A 40 ad) {M : St} {t2 : Nat} (hI : Inv M) (hR : RelM cI ad M E) (ht2 : t2 ≤ 4) : MI vl yX6_damageBy wsX6_damageBy { frames := 2, cells := 0, slots := 0, locals := 44 } D cI cM A 40 ad E [.ref (ad 30), .int (shI t2)] (fun r E1 => r = nI (dmM M t2) ∧ RelM cI ad M E1 ∧ ∀ k : Nat, (k < 30) → E1 k = E k) := by
  refine mi_of cX6_damageBy 8 (.int) RX6 (by decide) rfl rfl (Nat.le_of_ble_eq_true rfl) (fun r E1 h => rfl) ?_
  intro vp ve vs vm va vb vt vc Q C hend
  refine z_lv [(0, .ref (ad 30)), (1, .int (shI t2))] ⟨rfl, rfl, rfl, rfl, trivial⟩ ?_
  obtain ⟨gl, sz, co, lt, sp, e30, e31, e32, e33, e34, e35, e36, e37, hms, hn6, hgl, hrel⟩ := id hR
  obtain ⟨⟨iW1, iW2⟩, iG, ⟨iS1, iS2⟩, ⟨iB1, iB2⟩, iO, iC, iT, iN, iSh, iWd, iDt, iZ, iDf, iDz, iTx, iMs⟩ := id hI.1
  have hLM := hI.1.LM_le
  have hsl := hI.1.slen
  have hww := hI.1.ws
  have hld : ∀ a, ldM M a ≤ 512 := fun a => Nat.le_trans (ldS_le _ _ _ _ _) (by omega)
  have hl4 := hld (M 0 4)
  have hsz : ∀ i, i < M 0 7 → (1 ≤ sz i ∧ sz i ≤ 12) ∧ ∀ k, k < sz i → ltr lt i k < 27 := fun i hi => by
    obtain ⟨h1, h2, h3⟩ := hrel i hi
    have h4 := iMs i hi
    rw [h1]
    exact ⟨h4.1, fun k hk => by rw [h3 k hk]; exact h4.2.2 k hk⟩
  have hLe : sL (M 1) (M 0 1) sz (ltr lt) (M 0 7) = LM M := sL_cg (fun i hi => ⟨(hrel i hi).1, fun k hk => (hrel i hi).2.2 k (by rw [← (hrel i hi).1]; exact hk)⟩)
  have hst : scols (M 1) (M 2) (M 0 1) sz co (ltr lt) (M 0 7) = stripM M := scols_cg (fun i hi => ⟨(hrel i hi).1, (hrel i hi).2.1, fun k hk => (hrel i hi).2.2 k (by rw [← (hrel i hi).1]; exact hk)⟩)
  refine z_aload_n C dX6_damageBy_0 rfl ?_
  refine z_callVV C (30) (Cn := RX6) (T := TX6) (N := 19) (k_X6_draws vl D cI cM A ad E hX e30 e31 e35 e37 e32 e36 hn6 hsz hww iG hgl hms) (cwV 0 C.2.2.2.2.1 gX6_damageBy_X6_draws rfl rfl rfl (by decide +kernel) ⟨Nat.le_of_ble_eq_true rfl, Nat.le_of_ble_eq_true rfl⟩) rfl (by first | decide | omega) rfl e30 rfl rfl (Nat.le_of_ble_eq_true rfl) ⟨Nat.zero_le _, Nat.zero_le _⟩ dX6_damageBy_1 (fun Ez1 hp2 => ?_)
  obtain ⟨v30, vs1, hg⟩ := hp2
  rw [hLe, ← strip_len] at v30
  rw [hst] at vs1
  have f3 : Ez1 (31) = aI cI 27 (M 1) := (hg (31) (by omega)).trans e31
  have f4 : Ez1 (32) = aI cI 162 gl := (hg (32) (by omega)).trans e32
  have f5 : Ez1 (33) = aI cI 32 (M 3) := (hg (33) (by omega)).trans e33
  have f6 : Ez1 (34) = aI cI 12 (M 4) := (hg (34) (by omega)).trans e34
  have f7 : Ez1 (35) = aI cI 6 sz := (hg (35) (by omega)).trans e35
  have f8 : Ez1 (36) = aI cI 6 co := (hg (36) (by omega)).trans e36
  have f9 : Ez1 (37) = aI cI 72 lt := (hg (37) (by omega)).trans e37
  have g10 : ∀ k : Nat, (k < 30) → Ez1 k = E k := fun k hk => (hg k (by omega)).trans ((fun _ _ => rfl) k hk)
  have hR1 : RelM cI ad M Ez1 := ⟨gl, sz, co, lt, _, v30, f3, f4, f5, f6, f7, f8, f9, vs1.nil, hn6, hgl, hrel⟩
  obtain ⟨sd, sc, s38, s39, hsp⟩ := id vs1
  have hfE : ∀ k : Nat, (k < 30) → Ez1 k = E k := g10
  by_cases hL0 : (stripM M).length = 0
  · have hz : dmM M t2 = 0 := dm_nil hL0
    refine z_iconst C (nI (0)) dX6_damageBy_4 (by decide) ?_
    refine z_istore_n C [(0, .ref (ad 30)), (1, .int (shI t2)), (2, .int (nI (0)))] dX6_damageBy_5 (by decide) ⟨rfl, rfl, rfl, rfl, rfl, rfl, trivial⟩ ?_
    refine z_iconst C (nI (0)) dX6_damageBy_6 (by decide) ?_
    refine z_istore_n C [(0, .ref (ad 30)), (1, .int (shI t2)), (2, .int (nI (0))), (3, .int (nI (0)))] dX6_damageBy_7 (by decide) ⟨rfl, rfl, rfl, rfl, rfl, rfl, rfl, rfl, trivial⟩ ?_
    refine z_iload_n C dX6_damageBy_8 rfl ?_
    refine z_aload_n C dX6_damageBy_9 rfl ?_
    refine z_get C (30) (Cn := RX6) (T := TX6) (N := 19) (fi := 0) iw_X6_damageBy_6 rfl (by decide) ln_X6_damageBy_7 (by first | decide | omega) rfl v30 rfl dX6_damageBy_10 ?_
    refine z_icmp_geN C 124 (by omega) (by omega) dX6_damageBy_13 (by decide) (fun h13 => (by exfalso; omega)) (fun h13 => ?_)
    refine z_aload_n C dX6_damageBy_16 rfl ?_
    refine z_get C (30) (Cn := RX6) (T := TX6) (N := 19) (fi := 16) iw_X6_damageBy_6 rfl (by decide) ln_X6_damageBy_67 (by first | decide | omega) rfl v30 rfl dX6_damageBy_17 ?_
    refine z_if_leN C 124 (by omega) dX6_damageBy_20 (by decide) (fun h20 => ?_) (fun h20 => (by exfalso; omega))
    refine z_iload_n C dX6_damageBy_124 rfl ?_
    exact hend _ _ _ _ dX6_damageBy_125 (⟨by rw [hz], hR1, hfE⟩)
  · refine z_iconst C (nI (0)) dX6_damageBy_4 (by decide) ?_
    refine z_istore_n C [(0, .ref (ad 30)), (1, .int (shI t2)), (2, .int (nI (0)))] dX6_damageBy_5 (by decide) ⟨rfl, rfl, rfl, rfl, rfl, rfl, trivial⟩ ?_
    refine z_iconst C (nI (0)) dX6_damageBy_6 (by decide) ?_
    refine z_istore_n C [(0, .ref (ad 30)), (1, .int (shI t2)), (2, .int (nI (0))), (3, .int (nI (0)))] dX6_damageBy_7 (by decide) ⟨rfl, rfl, rfl, rfl, rfl, rfl, rfl, rfl, trivial⟩ ?_
    have loop8 : ∀ (fuel : Nat) (x : Nat), (hx : x ≤ M 0 0) → M 0 0 - x < fuel → Z vp vl ve { frames := 2, cells := 0, slots := 0, locals := 44 } vs vm va vb vt vc 8 D A 40 ad Ez1 [(0, .ref (ad 30)), (1, .int (shI t2)), (2, .int (nI (sm (fun x => sm (dterm (dotc (stripM M) (M 0 4 + x)) t2 (M 3 x)) 8) x))), (3, .int (nI (x)))] 0 0 Q 8 [] := by
      intro fuel
      induction fuel with
      | zero => intro x hx hlt; exact absurd hlt (Nat.not_lt_zero _)
      | succ fuel ih =>
        intro x hx hlt
        have hs1 : sm (fun x => sm (dterm (dotc (stripM M) (M 0 4 + x)) t2 (M 3 x)) 8) x ≤ x * 8 := sm_le (fun k _ => sm_le (n := 8) (c := 1) (fun q _ => dterm_le _ _ _ _))
        have ih8 := ih
        refine z_iload_n C dX6_damageBy_8 rfl ?_
        refine z_aload_n C dX6_damageBy_9 rfl ?_
        refine z_get C (30) (Cn := RX6) (T := TX6) (N := 19) (fi := 0) iw_X6_damageBy_6 rfl (by decide) ln_X6_damageBy_7 (by first | decide | omega) rfl v30 rfl dX6_damageBy_10 ?_
        refine z_icmp_geN C 124 (by omega) (by omega) dX6_damageBy_13 (by decide) (fun h13 => ?_) (fun h13 => ?_)
        · have hie : x = M 0 0 := by omega
          refine z_iload_n C dX6_damageBy_124 rfl ?_
          exact hend _ _ _ _ dX6_damageBy_125 (⟨by rw [hie]; exact congrArg nI (sm_cg (fun k hk => dcol (hI.1.dot _) ht2 (iDf k (by omega)))), hR1, hfE⟩)
        · refine z_aload_n C dX6_damageBy_16 rfl ?_
          refine z_get C (30) (Cn := RX6) (T := TX6) (N := 19) (fi := 16) iw_X6_damageBy_6 rfl (by decide) ln_X6_damageBy_67 (by first | decide | omega) rfl v30 rfl dX6_damageBy_17 ?_
          refine z_if_leN C 124 (by omega) dX6_damageBy_20 (by decide) (fun h20 => (by exfalso; omega)) (fun h20 => ?_)
          refine z_aload_n C dX6_damageBy_23 rfl ?_
          refine z_get C (30) (Cn := RX6) (T := TX6) (N := 19) (fi := 17) iw_X6_damageBy_6 rfl (by decide) ln_X6_damageBy_44 (by first | decide | omega) rfl v30 rfl dX6_damageBy_24 ?_
          refine z_aload_n C dX6_damageBy_27 rfl ?_
          refine z_get C (30) (Cn := RX6) (T := TX6) (N := 19) (fi := 5) iw_X6_damageBy_6 rfl (by decide) ln_X6_damageBy_64 (by first | decide | omega) rfl v30 rfl dX6_damageBy_28 ?_
          refine z_iload_n C dX6_damageBy_31 rfl ?_
          refine z_iaddN C  dX6_damageBy_32 ?_
          refine z_aload_n C dX6_damageBy_33 rfl ?_
          refine z_get C (30) (Cn := RX6) (T := TX6) (N := 19) (fi := 16) iw_X6_damageBy_6 rfl (by decide) ln_X6_damageBy_67 (by first | decide | omega) rfl v30 rfl dX6_damageBy_34 ?_
          refine z_iremN C (by omega) (Nat.pos_of_ne_zero hL0) (by omega) dX6_damageBy_37 ?_
          refine z_ialdG C (38) (by first | decide | omega) rfl s38 (Nat.lt_of_lt_of_le (Nat.mod_lt _ (Nat.pos_of_ne_zero hL0)) (Nat.le_trans hsl (by decide))) (by decide) dX6_damageBy_38 ?_
          refine z_top (nI (dotc (stripM M) (M 0 4 + x))) (by rw [SP_d hsp (Nat.mod_lt _ (Nat.pos_of_ne_zero hL0))]; rfl) ?_
          refine z_istore C [(0, .ref (ad 30)), (1, .int (shI t2)), (2, .int (nI (sm (fun x => sm (dterm (dotc (stripM M) (M 0 4 + x)) t2 (M 3 x)) 8) x))), (3, .int (nI (x))), (4, .int (nI (dotc (stripM M) (M 0 4 + x))))] dX6_damageBy_39 (by decide) ⟨rfl, rfl, rfl, rfl, rfl, rfl, rfl, rfl, rfl, rfl, trivial⟩ ?_
          refine z_iconst C (nI (0)) dX6_damageBy_41 (by decide) ?_
          refine z_istore C [(0, .ref (ad 30)), (1, .int (shI t2)), (2, .int (nI (sm (fun x => sm (dterm (dotc (stripM M) (M 0 4 + x)) t2 (M 3 x)) 8) x))), (3, .int (nI (x))), (4, .int (nI (dotc (stripM M) (M 0 4 + x)))), (5, .int (nI (0)))] dX6_damageBy_42 (by decide) ⟨rfl, rfl, rfl, rfl, rfl, rfl, rfl, rfl, rfl, rfl, rfl, rfl, trivial⟩ ?_
          have loop44 : ∀ (fuel : Nat) (r : Nat), (hr : r ≤ 8) → 8 - r < fuel → Z vp vl ve { frames := 2, cells := 0, slots := 0, locals := 44 } vs vm va vb vt vc 8 D A 40 ad Ez1 [(0, .ref (ad 30)), (1, .int (shI t2)), (2, .int (nI (sm (fun x => sm (dterm (dotc (stripM M) (M 0 4 + x)) t2 (M 3 x)) 8) x + sm (dterm (dotc (stripM M) (M 0 4 + x)) t2 (M 3 x)) r))), (3, .int (nI (x))), (4, .int (nI (dotc (stripM M) (M 0 4 + x)))), (5, .int (nI (r)))] 0 0 Q 44 [] := by
            intro fuel
            induction fuel with
            | zero => intro r hr hlt; exact absurd hlt (Nat.not_lt_zero _)
            | succ fuel ih =>
              intro r hr hlt
              have hs2 : sm (dterm (dotc (stripM M) (M 0 4 + x)) t2 (M 3 x)) r ≤ r * 1 := sm_le (fun k _ => dterm_le _ _ _ _)
              have ih44 := ih
              refine z_iload C dX6_damageBy_44 rfl ?_
              refine z_bipush C (nI (8)) dX6_damageBy_46 (by decide) ?_
              refine z_icmp_geN C 118 (by omega) (by omega) dX6_damageBy_48 (by decide) (fun h48 => ?_) (fun h48 => ?_)
              · have hr8 : r = 8 := by omega
                refine z_iincN (j := 1) C [(0, .ref (ad 30)), (1, .int (shI t2)), (2, .int (nI (sm (fun x => sm (dterm (dotc (stripM M) (M 0 4 + x)) t2 (M 3 x)) 8) x + sm (dterm (dotc (stripM M) (M 0 4 + x)) t2 (M 3 x)) r))), (3, .int (nI (x + 1))), (4, .int (nI (dotc (stripM M) (M 0 4 + x)))), (5, .int (nI (r)))] dX6_damageBy_118 rfl (by decide) ⟨rfl, rfl, rfl, rfl, rfl, rfl, rfl, rfl, rfl, rfl, rfl, rfl, trivial⟩ ?_
                refine z_goto C 8 dX6_damageBy_121 (by decide) ?_
                refine z_lv [(0, .ref (ad 30)), (1, .int (shI t2)), (2, .int (nI (sm (fun x => sm (dterm (dotc (stripM M) (M 0 4 + x)) t2 (M 3 x)) 8) x + sm (dterm (dotc (stripM M) (M 0 4 + x)) t2 (M 3 x)) r))), (3, .int (nI (x + 1)))] ⟨rfl, rfl, rfl, rfl, rfl, rfl, rfl, rfl, trivial⟩ ?_
                have q := ih8 (x + 1) (by omega) (by omega)
                rw [sm] at q
                rw [hr8]
                exact q
              · by_cases hv2 : 2 ≤ r + t2
                · by_cases hv7 : r + t2 - 2 ≤ 7
                  · have hgo : gone t2 (M 3 x) r = b1 (M 3 x) (r + t2 - 2) := by unfold gone; rw [if_pos ⟨hv2, hv7⟩]
                    refine z_iload C dX6_damageBy_51 rfl ?_
                    refine z_iload_n C dX6_damageBy_53 rfl ?_
                    refine z_iadd C dX6_damageBy_54  ?_
                    refine z_top (nI (r + t2 - 2)) (add_p r (by omega) t2 (by omega) hv2) ?_
                    refine z_istore C [(0, .ref (ad 30)), (1, .int (shI t2)), (2, .int (nI (sm (fun x => sm (dterm (dotc (stripM M) (M 0 4 + x)) t2 (M 3 x)) 8) x + sm (dterm (dotc (stripM M) (M 0 4 + x)) t2 (M 3 x)) r))), (3, .int (nI (x))), (4, .int (nI (dotc (stripM M) (M 0 4 + x)))), (5, .int (nI (r))), (6, .int (nI (r + t2 - 2)))] dX6_damageBy_55 (by decide) ⟨rfl, rfl, rfl, rfl, rfl, rfl, rfl, rfl, rfl, rfl, rfl, rfl, rfl, rfl, trivial⟩ ?_
                    refine z_iload C dX6_damageBy_57 rfl ?_
                    refine z_iconst C (nI (0)) dX6_damageBy_59 (by decide) ?_
                    refine z_bipush C (nI (7)) dX6_damageBy_60 (by decide) ?_
                    refine z_callSF C (k_X6_in vl D cI cM A ad Ez1 hX (nI (r + t2 - 2)) (nI (0)) (nI (7))) (va_cwS 3 C.2.2.2.2.1 gX6_damageBy_X6_in rfl rfl rfl (by decide +kernel) ⟨Nat.le_of_ble_eq_true rfl, Nat.le_of_ble_eq_true rfl⟩) rfl rfl (Nat.le_of_ble_eq_true rfl) ⟨Nat.zero_le _, Nat.zero_le _⟩ dX6_damageBy_62 ?_
                    refine z_top (nI (1)) (iw_yN ⟨Nat.zero_le _, hv7⟩ (by decide)) ?_
                    refine z_if_eqN C 82 (by omega) dX6_damageBy_65 (by decide) (fun h65 => (by exfalso; omega)) (fun h65 => ?_)
                    refine z_aload_n C dX6_damageBy_68 rfl ?_
                    refine z_get C (30) (Cn := RX6) (T := TX6) (N := 19) (fi := 9) iw_X6_damageBy_6 rfl (by decide) ln_X6_damageBy_29 (by first | decide | omega) rfl v30 rfl dX6_damageBy_69 ?_
                    refine z_iload_n C dX6_damageBy_72 rfl ?_
                    refine z_ialdG C (33) (by first | decide | omega) rfl f5 (by omega) (by decide) dX6_damageBy_73 ?_
                    refine z_iload C dX6_damageBy_74 rfl ?_
                    refine z_callSF C (k_has_p vl D cI cM A ad Ez1 hX (iDf x (by omega)) (by omega)) (va_cwS 2 C.2.2.2.2.1 gX6_damageBy_X6_has rfl rfl rfl (by decide +kernel) ⟨Nat.le_of_ble_eq_true rfl, Nat.le_of_ble_eq_true rfl⟩) rfl rfl (Nat.le_of_ble_eq_true rfl) ⟨Nat.zero_le _, Nat.zero_le _⟩ dX6_damageBy_76 ?_
                    refine z_if_eqN C 86 (Nat.lt_of_le_of_lt (b1_le _ _) (by decide)) dX6_damageBy_79 (by decide) (fun h79 => ?_) (fun h79 => ?_)
                    · refine z_iconst C (nI (0)) dX6_damageBy_86 (by decide) ?_
                      refine z_istore C [(0, .ref (ad 30)), (1, .int (shI t2)), (2, .int (nI (sm (fun x => sm (dterm (dotc (stripM M) (M 0 4 + x)) t2 (M 3 x)) 8) x + sm (dterm (dotc (stripM M) (M 0 4 + x)) t2 (M 3 x)) r))), (3, .int (nI (x))), (4, .int (nI (dotc (stripM M) (M 0 4 + x)))), (5, .int (nI (r))), (6, .int (nI (r + t2 - 2))), (7, .int (nI (0)))] dX6_damageBy_87 (by decide) ⟨rfl, rfl, rfl, rfl, rfl, rfl, rfl, rfl, rfl, rfl, rfl, rfl, rfl, rfl, rfl, rfl, trivial⟩ ?_
                      refine z_iload_n C dX6_damageBy_89 rfl ?_
                      refine z_iload C dX6_damageBy_90 rfl ?_
                      refine z_iload C dX6_damageBy_92 rfl ?_
                      refine z_callSF C (k_has_p vl D cI cM A ad Ez1 hX (hI.1.dot _) h48) (va_cwS 2 C.2.2.2.2.1 gX6_damageBy_X6_has rfl rfl rfl (by decide +kernel) ⟨Nat.le_of_ble_eq_true rfl, Nat.le_of_ble_eq_true rfl⟩) rfl rfl (Nat.le_of_ble_eq_true rfl) ⟨Nat.zero_le _, Nat.zero_le _⟩ dX6_damageBy_94 ?_
                      refine z_if_eqN C 109 (Nat.lt_of_le_of_lt (b1_le _ _) (by decide)) dX6_damageBy_97 (by decide) (fun h97 => ?_) (fun h97 => ?_)
                      · refine z_iconst C (nI (0)) dX6_damageBy_109 (by decide) ?_
                        refine z_iaddN C  dX6_damageBy_110 ?_
                        refine z_istore_n C [(0, .ref (ad 30)), (1, .int (shI t2)), (2, .int (nI ((sm (fun x => sm (dterm (dotc (stripM M) (M 0 4 + x)) t2 (M 3 x)) 8) x + sm (dterm (dotc (stripM M) (M 0 4 + x)) t2 (M 3 x)) r) + 0))), (3, .int (nI (x))), (4, .int (nI (dotc (stripM M) (M 0 4 + x)))), (5, .int (nI (r))), (6, .int (nI (r + t2 - 2))), (7, .int (nI (0)))] dX6_damageBy_111 (by decide) ⟨rfl, rfl, rfl, rfl, rfl, rfl, rfl, rfl, rfl, rfl, rfl, rfl, rfl, rfl, rfl, rfl, trivial⟩ ?_
                        refine z_iincN (j := 1) C [(0, .ref (ad 30)), (1, .int (shI t2)), (2, .int (nI ((sm (fun x => sm (dterm (dotc (stripM M) (M 0 4 + x)) t2 (M 3 x)) 8) x + sm (dterm (dotc (stripM M) (M 0 4 + x)) t2 (M 3 x)) r) + 0))), (3, .int (nI (x))), (4, .int (nI (dotc (stripM M) (M 0 4 + x)))), (5, .int (nI (r + 1))), (6, .int (nI (r + t2 - 2))), (7, .int (nI (0)))] dX6_damageBy_112 rfl (by decide) ⟨rfl, rfl, rfl, rfl, rfl, rfl, rfl, rfl, rfl, rfl, rfl, rfl, rfl, rfl, rfl, rfl, trivial⟩ ?_
                        refine z_goto C 44 dX6_damageBy_115 (by decide) ?_
                        refine z_lv [(0, .ref (ad 30)), (1, .int (shI t2)), (2, .int (nI ((sm (fun x => sm (dterm (dotc (stripM M) (M 0 4 + x)) t2 (M 3 x)) 8) x + sm (dterm (dotc (stripM M) (M 0 4 + x)) t2 (M 3 x)) r) + 0))), (3, .int (nI (x))), (4, .int (nI (dotc (stripM M) (M 0 4 + x)))), (5, .int (nI (r + 1)))] ⟨rfl, rfl, rfl, rfl, rfl, rfl, rfl, rfl, rfl, rfl, rfl, rfl, trivial⟩ ?_
                        have q := ih44 (r + 1) (by omega) (by omega)
                        have e : sm (fun x => sm (dterm (dotc (stripM M) (M 0 4 + x)) t2 (M 3 x)) 8) x + sm (dterm (dotc (stripM M) (M 0 4 + x)) t2 (M 3 x)) (r + 1) = sm (fun x => sm (dterm (dotc (stripM M) (M 0 4 + x)) t2 (M 3 x)) 8) x + sm (dterm (dotc (stripM M) (M 0 4 + x)) t2 (M 3 x)) r + 0 := by
                          rw [sm, ← Nat.add_assoc]
                          have e2 : dterm (dotc (stripM M) (M 0 4 + x)) t2 (M 3 x) r = 0 := by have hb := b1_le (dotc (stripM M) (M 0 4 + x)) r; unfold dterm; rw [if_neg (fun q => by omega)]
                          rw [e2]
                        rw [e] at q
                        exact q
                      · refine z_iload C dX6_damageBy_100 rfl ?_
                        refine z_if_eqN C 109 (by omega) dX6_damageBy_102 (by decide) (fun h102 => ?_) (fun h102 => (by exfalso; omega))
                        refine z_iconst C (nI (0)) dX6_damageBy_109 (by decide) ?_
                        refine z_iaddN C  dX6_damageBy_110 ?_
                        refine z_istore_n C [(0, .ref (ad 30)), (1, .int (shI t2)), (2, .int (nI ((sm (fun x => sm (dterm (dotc (stripM M) (M 0 4 + x)) t2 (M 3 x)) 8) x + sm (dterm (dotc (stripM M) (M 0 4 + x)) t2 (M 3 x)) r) + 0))), (3, .int (nI (x))), (4, .int (nI (dotc (stripM M) (M 0 4 + x)))), (5, .int (nI (r))), (6, .int (nI (r + t2 - 2))), (7, .int (nI (0)))] dX6_damageBy_111 (by decide) ⟨rfl, rfl, rfl, rfl, rfl, rfl, rfl, rfl, rfl, rfl, rfl, rfl, rfl, rfl, rfl, rfl, trivial⟩ ?_
                        refine z_iincN (j := 1) C [(0, .ref (ad 30)), (1, .int (shI t2)), (2, .int (nI ((sm (fun x => sm (dterm (dotc (stripM M) (M 0 4 + x)) t2 (M 3 x)) 8) x + sm (dterm (dotc (stripM M) (M 0 4 + x)) t2 (M 3 x)) r) + 0))), (3, .int (nI (x))), (4, .int (nI (dotc (stripM M) (M 0 4 + x)))), (5, .int (nI (r + 1))), (6, .int (nI (r + t2 - 2))), (7, .int (nI (0)))] dX6_damageBy_112 rfl (by decide) ⟨rfl, rfl, rfl, rfl, rfl, rfl, rfl, rfl, rfl, rfl, rfl, rfl, rfl, rfl, rfl, rfl, trivial⟩ ?_
                        refine z_goto C 44 dX6_damageBy_115 (by decide) ?_
                        refine z_lv [(0, .ref (ad 30)), (1, .int (shI t2)), (2, .int (nI ((sm (fun x => sm (dterm (dotc (stripM M) (M 0 4 + x)) t2 (M 3 x)) 8) x + sm (dterm (dotc (stripM M) (M 0 4 + x)) t2 (M 3 x)) r) + 0))), (3, .int (nI (x))), (4, .int (nI (dotc (stripM M) (M 0 4 + x)))), (5, .int (nI (r + 1)))] ⟨rfl, rfl, rfl, rfl, rfl, rfl, rfl, rfl, rfl, rfl, rfl, rfl, trivial⟩ ?_
                        have q := ih44 (r + 1) (by omega) (by omega)
                        have e : sm (fun x => sm (dterm (dotc (stripM M) (M 0 4 + x)) t2 (M 3 x)) 8) x + sm (dterm (dotc (stripM M) (M 0 4 + x)) t2 (M 3 x)) (r + 1) = sm (fun x => sm (dterm (dotc (stripM M) (M 0 4 + x)) t2 (M 3 x)) 8) x + sm (dterm (dotc (stripM M) (M 0 4 + x)) t2 (M 3 x)) r + 0 := by
                          rw [sm, ← Nat.add_assoc]
                          have e2 : dterm (dotc (stripM M) (M 0 4 + x)) t2 (M 3 x) r = 0 := by unfold dterm; rw [if_neg (fun q => by have q2 := q.2; rw [hgo, h79] at q2; exact absurd q2 (by decide))]
                          rw [e2]
                        rw [e] at q
                        exact q
                    · refine z_iconst C (nI (1)) dX6_damageBy_82 (by decide) ?_
                      refine z_goto C 87 dX6_damageBy_83 (by decide) ?_
                      refine z_istore C [(0, .ref (ad 30)), (1, .int (shI t2)), (2, .int (nI (sm (fun x => sm (dterm (dotc (stripM M) (M 0 4 + x)) t2 (M 3 x)) 8) x + sm (dterm (dotc (stripM M) (M 0 4 + x)) t2 (M 3 x)) r))), (3, .int (nI (x))), (4, .int (nI (dotc (stripM M) (M 0 4 + x)))), (5, .int (nI (r))), (6, .int (nI (r + t2 - 2))), (7, .int (nI (1)))] dX6_damageBy_87 (by decide) ⟨rfl, rfl, rfl, rfl, rfl, rfl, rfl, rfl, rfl, rfl, rfl, rfl, rfl, rfl, rfl, rfl, trivial⟩ ?_
                      refine z_iload_n C dX6_damageBy_89 rfl ?_
                      refine z_iload C dX6_damageBy_90 rfl ?_
                      refine z_iload C dX6_damageBy_92 rfl ?_
                      refine z_callSF C (k_has_p vl D cI cM A ad Ez1 hX (hI.1.dot _) h48) (va_cwS 2 C.2.2.2.2.1 gX6_damageBy_X6_has rfl rfl rfl (by decide +kernel) ⟨Nat.le_of_ble_eq_true rfl, Nat.le_of_ble_eq_true rfl⟩) rfl rfl (Nat.le_of_ble_eq_true rfl) ⟨Nat.zero_le _, Nat.zero_le _⟩ dX6_damageBy_94 ?_
                      refine z_if_eqN C 109 (Nat.lt_of_le_of_lt (b1_le _ _) (by decide)) dX6_damageBy_97 (by decide) (fun h97 => ?_) (fun h97 => ?_)
                      · refine z_iconst C (nI (0)) dX6_damageBy_109 (by decide) ?_
                        refine z_iaddN C  dX6_damageBy_110 ?_
                        refine z_istore_n C [(0, .ref (ad 30)), (1, .int (shI t2)), (2, .int (nI ((sm (fun x => sm (dterm (dotc (stripM M) (M 0 4 + x)) t2 (M 3 x)) 8) x + sm (dterm (dotc (stripM M) (M 0 4 + x)) t2 (M 3 x)) r) + 0))), (3, .int (nI (x))), (4, .int (nI (dotc (stripM M) (M 0 4 + x)))), (5, .int (nI (r))), (6, .int (nI (r + t2 - 2))), (7, .int (nI (1)))] dX6_damageBy_111 (by decide) ⟨rfl, rfl, rfl, rfl, rfl, rfl, rfl, rfl, rfl, rfl, rfl, rfl, rfl, rfl, rfl, rfl, trivial⟩ ?_
                        refine z_iincN (j := 1) C [(0, .ref (ad 30)), (1, .int (shI t2)), (2, .int (nI ((sm (fun x => sm (dterm (dotc (stripM M) (M 0 4 + x)) t2 (M 3 x)) 8) x + sm (dterm (dotc (stripM M) (M 0 4 + x)) t2 (M 3 x)) r) + 0))), (3, .int (nI (x))), (4, .int (nI (dotc (stripM M) (M 0 4 + x)))), (5, .int (nI (r + 1))), (6, .int (nI (r + t2 - 2))), (7, .int (nI (1)))] dX6_damageBy_112 rfl (by decide) ⟨rfl, rfl, rfl, rfl, rfl, rfl, rfl, rfl, rfl, rfl, rfl, rfl, rfl, rfl, rfl, rfl, trivial⟩ ?_
                        refine z_goto C 44 dX6_damageBy_115 (by decide) ?_
                        refine z_lv [(0, .ref (ad 30)), (1, .int (shI t2)), (2, .int (nI ((sm (fun x => sm (dterm (dotc (stripM M) (M 0 4 + x)) t2 (M 3 x)) 8) x + sm (dterm (dotc (stripM M) (M 0 4 + x)) t2 (M 3 x)) r) + 0))), (3, .int (nI (x))), (4, .int (nI (dotc (stripM M) (M 0 4 + x)))), (5, .int (nI (r + 1)))] ⟨rfl, rfl, rfl, rfl, rfl, rfl, rfl, rfl, rfl, rfl, rfl, rfl, trivial⟩ ?_
                        have q := ih44 (r + 1) (by omega) (by omega)
                        have e : sm (fun x => sm (dterm (dotc (stripM M) (M 0 4 + x)) t2 (M 3 x)) 8) x + sm (dterm (dotc (stripM M) (M 0 4 + x)) t2 (M 3 x)) (r + 1) = sm (fun x => sm (dterm (dotc (stripM M) (M 0 4 + x)) t2 (M 3 x)) 8) x + sm (dterm (dotc (stripM M) (M 0 4 + x)) t2 (M 3 x)) r + 0 := by
                          rw [sm, ← Nat.add_assoc]
                          have e2 : dterm (dotc (stripM M) (M 0 4 + x)) t2 (M 3 x) r = 0 := by have hb := b1_le (dotc (stripM M) (M 0 4 + x)) r; unfold dterm; rw [if_neg (fun q => by omega)]
                          rw [e2]
                        rw [e] at q
                        exact q
                      · refine z_iload C dX6_damageBy_100 rfl ?_
                        refine z_if_eqN C 109 (by omega) dX6_damageBy_102 (by decide) (fun h102 => (by exfalso; omega)) (fun h102 => ?_)
                        refine z_iconst C (nI (1)) dX6_damageBy_105 (by decide) ?_
                        refine z_goto C 110 dX6_damageBy_106 (by decide) ?_
                        refine z_iaddN C  dX6_damageBy_110 ?_
                        refine z_istore_n C [(0, .ref (ad 30)), (1, .int (shI t2)), (2, .int (nI ((sm (fun x => sm (dterm (dotc (stripM M) (M 0 4 + x)) t2 (M 3 x)) 8) x + sm (dterm (dotc (stripM M) (M 0 4 + x)) t2 (M 3 x)) r) + 1))), (3, .int (nI (x))), (4, .int (nI (dotc (stripM M) (M 0 4 + x)))), (5, .int (nI (r))), (6, .int (nI (r + t2 - 2))), (7, .int (nI (1)))] dX6_damageBy_111 (by decide) ⟨rfl, rfl, rfl, rfl, rfl, rfl, rfl, rfl, rfl, rfl, rfl, rfl, rfl, rfl, rfl, rfl, trivial⟩ ?_
                        refine z_iincN (j := 1) C [(0, .ref (ad 30)), (1, .int (shI t2)), (2, .int (nI ((sm (fun x => sm (dterm (dotc (stripM M) (M 0 4 + x)) t2 (M 3 x)) 8) x + sm (dterm (dotc (stripM M) (M 0 4 + x)) t2 (M 3 x)) r) + 1))), (3, .int (nI (x))), (4, .int (nI (dotc (stripM M) (M 0 4 + x)))), (5, .int (nI (r + 1))), (6, .int (nI (r + t2 - 2))), (7, .int (nI (1)))] dX6_damageBy_112 rfl (by decide) ⟨rfl, rfl, rfl, rfl, rfl, rfl, rfl, rfl, rfl, rfl, rfl, rfl, rfl, rfl, rfl, rfl, trivial⟩ ?_
                        refine z_goto C 44 dX6_damageBy_115 (by decide) ?_
                        refine z_lv [(0, .ref (ad 30)), (1, .int (shI t2)), (2, .int (nI ((sm (fun x => sm (dterm (dotc (stripM M) (M 0 4 + x)) t2 (M 3 x)) 8) x + sm (dterm (dotc (stripM M) (M 0 4 + x)) t2 (M 3 x)) r) + 1))), (3, .int (nI (x))), (4, .int (nI (dotc (stripM M) (M 0 4 + x)))), (5, .int (nI (r + 1)))] ⟨rfl, rfl, rfl, rfl, rfl, rfl, rfl, rfl, rfl, rfl, rfl, rfl, trivial⟩ ?_
                        have q := ih44 (r + 1) (by omega) (by omega)
                        have e : sm (fun x => sm (dterm (dotc (stripM M) (M 0 4 + x)) t2 (M 3 x)) 8) x + sm (dterm (dotc (stripM M) (M 0 4 + x)) t2 (M 3 x)) (r + 1) = sm (fun x => sm (dterm (dotc (stripM M) (M 0 4 + x)) t2 (M 3 x)) 8) x + sm (dterm (dotc (stripM M) (M 0 4 + x)) t2 (M 3 x)) r + 1 := by
                          rw [sm, ← Nat.add_assoc]
                          have e2 : dterm (dotc (stripM M) (M 0 4 + x)) t2 (M 3 x) r = 1 := by have hb := b1_le (dotc (stripM M) (M 0 4 + x)) r; unfold dterm; rw [if_pos ⟨by omega, (by have hb2 := b1_le (M 3 x) (r + t2 - 2); rw [hgo]; omega)⟩]
                          rw [e2]
                        rw [e] at q
                        exact q
                  · have hgo : gone t2 (M 3 x) r = 1 := by unfold gone; rw [if_neg (fun q => hv7 q.2)]
                    refine z_iload C dX6_damageBy_51 rfl ?_
                    refine z_iload_n C dX6_damageBy_53 rfl ?_
                    refine z_iadd C dX6_damageBy_54  ?_
                    refine z_top (nI (r + t2 - 2)) (add_p r (by omega) t2 (by omega) hv2) ?_
                    refine z_istore C [(0, .ref (ad 30)), (1, .int (shI t2)), (2, .int (nI (sm (fun x => sm (dterm (dotc (stripM M) (M 0 4 + x)) t2 (M 3 x)) 8) x + sm (dterm (dotc (stripM M) (M 0 4 + x)) t2 (M 3 x)) r))), (3, .int (nI (x))), (4, .int (nI (dotc (stripM M) (M 0 4 + x)))), (5, .int (nI (r))), (6, .int (nI (r + t2 - 2)))] dX6_damageBy_55 (by decide) ⟨rfl, rfl, rfl, rfl, rfl, rfl, rfl, rfl, rfl, rfl, rfl, rfl, rfl, rfl, trivial⟩ ?_
                    refine z_iload C dX6_damageBy_57 rfl ?_
                    refine z_iconst C (nI (0)) dX6_damageBy_59 (by decide) ?_
                    refine z_bipush C (nI (7)) dX6_damageBy_60 (by decide) ?_
                    refine z_callSF C (k_X6_in vl D cI cM A ad Ez1 hX (nI (r + t2 - 2)) (nI (0)) (nI (7))) (va_cwS 3 C.2.2.2.2.1 gX6_damageBy_X6_in rfl rfl rfl (by decide +kernel) ⟨Nat.le_of_ble_eq_true rfl, Nat.le_of_ble_eq_true rfl⟩) rfl rfl (Nat.le_of_ble_eq_true rfl) ⟨Nat.zero_le _, Nat.zero_le _⟩ dX6_damageBy_62 ?_
                    refine z_top (nI (0)) (by rw [iw_N (by omega) (by decide) (by decide), if_neg (fun q => hv7 q.2)]) ?_
                    refine z_if_eqN C 82 (by omega) dX6_damageBy_65 (by decide) (fun h65 => ?_) (fun h65 => (by exfalso; omega))
                    refine z_iconst C (nI (1)) dX6_damageBy_82 (by decide) ?_
                    refine z_goto C 87 dX6_damageBy_83 (by decide) ?_
                    refine z_istore C [(0, .ref (ad 30)), (1, .int (shI t2)), (2, .int (nI (sm (fun x => sm (dterm (dotc (stripM M) (M 0 4 + x)) t2 (M 3 x)) 8) x + sm (dterm (dotc (stripM M) (M 0 4 + x)) t2 (M 3 x)) r))), (3, .int (nI (x))), (4, .int (nI (dotc (stripM M) (M 0 4 + x)))), (5, .int (nI (r))), (6, .int (nI (r + t2 - 2))), (7, .int (nI (1)))] dX6_damageBy_87 (by decide) ⟨rfl, rfl, rfl, rfl, rfl, rfl, rfl, rfl, rfl, rfl, rfl, rfl, rfl, rfl, rfl, rfl, trivial⟩ ?_
                    refine z_iload_n C dX6_damageBy_89 rfl ?_
                    refine z_iload C dX6_damageBy_90 rfl ?_
                    refine z_iload C dX6_damageBy_92 rfl ?_
                    refine z_callSF C (k_has_p vl D cI cM A ad Ez1 hX (hI.1.dot _) h48) (va_cwS 2 C.2.2.2.2.1 gX6_damageBy_X6_has rfl rfl rfl (by decide +kernel) ⟨Nat.le_of_ble_eq_true rfl, Nat.le_of_ble_eq_true rfl⟩) rfl rfl (Nat.le_of_ble_eq_true rfl) ⟨Nat.zero_le _, Nat.zero_le _⟩ dX6_damageBy_94 ?_
                    refine z_if_eqN C 109 (Nat.lt_of_le_of_lt (b1_le _ _) (by decide)) dX6_damageBy_97 (by decide) (fun h97 => ?_) (fun h97 => ?_)
                    · refine z_iconst C (nI (0)) dX6_damageBy_109 (by decide) ?_
                      refine z_iaddN C  dX6_damageBy_110 ?_
                      refine z_istore_n C [(0, .ref (ad 30)), (1, .int (shI t2)), (2, .int (nI ((sm (fun x => sm (dterm (dotc (stripM M) (M 0 4 + x)) t2 (M 3 x)) 8) x + sm (dterm (dotc (stripM M) (M 0 4 + x)) t2 (M 3 x)) r) + 0))), (3, .int (nI (x))), (4, .int (nI (dotc (stripM M) (M 0 4 + x)))), (5, .int (nI (r))), (6, .int (nI (r + t2 - 2))), (7, .int (nI (1)))] dX6_damageBy_111 (by decide) ⟨rfl, rfl, rfl, rfl, rfl, rfl, rfl, rfl, rfl, rfl, rfl, rfl, rfl, rfl, rfl, rfl, trivial⟩ ?_
                      refine z_iincN (j := 1) C [(0, .ref (ad 30)), (1, .int (shI t2)), (2, .int (nI ((sm (fun x => sm (dterm (dotc (stripM M) (M 0 4 + x)) t2 (M 3 x)) 8) x + sm (dterm (dotc (stripM M) (M 0 4 + x)) t2 (M 3 x)) r) + 0))), (3, .int (nI (x))), (4, .int (nI (dotc (stripM M) (M 0 4 + x)))), (5, .int (nI (r + 1))), (6, .int (nI (r + t2 - 2))), (7, .int (nI (1)))] dX6_damageBy_112 rfl (by decide) ⟨rfl, rfl, rfl, rfl, rfl, rfl, rfl, rfl, rfl, rfl, rfl, rfl, rfl, rfl, rfl, rfl, trivial⟩ ?_
                      refine z_goto C 44 dX6_damageBy_115 (by decide) ?_
                      refine z_lv [(0, .ref (ad 30)), (1, .int (shI t2)), (2, .int (nI ((sm (fun x => sm (dterm (dotc (stripM M) (M 0 4 + x)) t2 (M 3 x)) 8) x + sm (dterm (dotc (stripM M) (M 0 4 + x)) t2 (M 3 x)) r) + 0))), (3, .int (nI (x))), (4, .int (nI (dotc (stripM M) (M 0 4 + x)))), (5, .int (nI (r + 1)))] ⟨rfl, rfl, rfl, rfl, rfl, rfl, rfl, rfl, rfl, rfl, rfl, rfl, trivial⟩ ?_
                      have q := ih44 (r + 1) (by omega) (by omega)
                      have e : sm (fun x => sm (dterm (dotc (stripM M) (M 0 4 + x)) t2 (M 3 x)) 8) x + sm (dterm (dotc (stripM M) (M 0 4 + x)) t2 (M 3 x)) (r + 1) = sm (fun x => sm (dterm (dotc (stripM M) (M 0 4 + x)) t2 (M 3 x)) 8) x + sm (dterm (dotc (stripM M) (M 0 4 + x)) t2 (M 3 x)) r + 0 := by
                        rw [sm, ← Nat.add_assoc]
                        have e2 : dterm (dotc (stripM M) (M 0 4 + x)) t2 (M 3 x) r = 0 := by have hb := b1_le (dotc (stripM M) (M 0 4 + x)) r; unfold dterm; rw [if_neg (fun q => by omega)]
                        rw [e2]
                      rw [e] at q
                      exact q
                    · refine z_iload C dX6_damageBy_100 rfl ?_
                      refine z_if_eqN C 109 (by omega) dX6_damageBy_102 (by decide) (fun h102 => (by exfalso; omega)) (fun h102 => ?_)
                      refine z_iconst C (nI (1)) dX6_damageBy_105 (by decide) ?_
                      refine z_goto C 110 dX6_damageBy_106 (by decide) ?_
                      refine z_iaddN C  dX6_damageBy_110 ?_
                      refine z_istore_n C [(0, .ref (ad 30)), (1, .int (shI t2)), (2, .int (nI ((sm (fun x => sm (dterm (dotc (stripM M) (M 0 4 + x)) t2 (M 3 x)) 8) x + sm (dterm (dotc (stripM M) (M 0 4 + x)) t2 (M 3 x)) r) + 1))), (3, .int (nI (x))), (4, .int (nI (dotc (stripM M) (M 0 4 + x)))), (5, .int (nI (r))), (6, .int (nI (r + t2 - 2))), (7, .int (nI (1)))] dX6_damageBy_111 (by decide) ⟨rfl, rfl, rfl, rfl, rfl, rfl, rfl, rfl, rfl, rfl, rfl, rfl, rfl, rfl, rfl, rfl, trivial⟩ ?_
                      refine z_iincN (j := 1) C [(0, .ref (ad 30)), (1, .int (shI t2)), (2, .int (nI ((sm (fun x => sm (dterm (dotc (stripM M) (M 0 4 + x)) t2 (M 3 x)) 8) x + sm (dterm (dotc (stripM M) (M 0 4 + x)) t2 (M 3 x)) r) + 1))), (3, .int (nI (x))), (4, .int (nI (dotc (stripM M) (M 0 4 + x)))), (5, .int (nI (r + 1))), (6, .int (nI (r + t2 - 2))), (7, .int (nI (1)))] dX6_damageBy_112 rfl (by decide) ⟨rfl, rfl, rfl, rfl, rfl, rfl, rfl, rfl, rfl, rfl, rfl, rfl, rfl, rfl, rfl, rfl, trivial⟩ ?_
                      refine z_goto C 44 dX6_damageBy_115 (by decide) ?_
                      refine z_lv [(0, .ref (ad 30)), (1, .int (shI t2)), (2, .int (nI ((sm (fun x => sm (dterm (dotc (stripM M) (M 0 4 + x)) t2 (M 3 x)) 8) x + sm (dterm (dotc (stripM M) (M 0 4 + x)) t2 (M 3 x)) r) + 1))), (3, .int (nI (x))), (4, .int (nI (dotc (stripM M) (M 0 4 + x)))), (5, .int (nI (r + 1)))] ⟨rfl, rfl, rfl, rfl, rfl, rfl, rfl, rfl, rfl, rfl, rfl, rfl, trivial⟩ ?_
                      have q := ih44 (r + 1) (by omega) (by omega)
                      have e : sm (fun x => sm (dterm (dotc (stripM M) (M 0 4 + x)) t2 (M 3 x)) 8) x + sm (dterm (dotc (stripM M) (M 0 4 + x)) t2 (M 3 x)) (r + 1) = sm (fun x => sm (dterm (dotc (stripM M) (M 0 4 + x)) t2 (M 3 x)) 8) x + sm (dterm (dotc (stripM M) (M 0 4 + x)) t2 (M 3 x)) r + 1 := by
                        rw [sm, ← Nat.add_assoc]
                        have e2 : dterm (dotc (stripM M) (M 0 4 + x)) t2 (M 3 x) r = 1 := by have hb := b1_le (dotc (stripM M) (M 0 4 + x)) r; unfold dterm; rw [if_pos ⟨by omega, hgo⟩]
                        rw [e2]
                      rw [e] at q
                      exact q
                · have hgo : gone t2 (M 3 x) r = 1 := by unfold gone; rw [if_neg (fun q => hv2 q.1)]
                  have hng := add_n r (by omega) t2 (by omega) hv2
                  refine z_iload C dX6_damageBy_51 rfl ?_
                  refine z_iload_n C dX6_damageBy_53 rfl ?_
                  refine z_iadd C dX6_damageBy_54  ?_
                  refine z_istore C [(0, .ref (ad 30)), (1, .int (shI t2)), (2, .int (nI (sm (fun x => sm (dterm (dotc (stripM M) (M 0 4 + x)) t2 (M 3 x)) 8) x + sm (dterm (dotc (stripM M) (M 0 4 + x)) t2 (M 3 x)) r))), (3, .int (nI (x))), (4, .int (nI (dotc (stripM M) (M 0 4 + x)))), (5, .int (nI (r))), (6, .int ((nI (r)) + (shI t2)))] dX6_damageBy_55 (by decide) ⟨rfl, rfl, rfl, rfl, rfl, rfl, rfl, rfl, rfl, rfl, rfl, rfl, rfl, rfl, trivial⟩ ?_
                  refine z_iload C dX6_damageBy_57 rfl ?_
                  refine z_iconst C (nI (0)) dX6_damageBy_59 (by decide) ?_
                  refine z_bipush C (nI (7)) dX6_damageBy_60 (by decide) ?_
                  refine z_callSF C (k_X6_in vl D cI cM A ad Ez1 hX ((nI (r)) + (shI t2)) (nI (0)) (nI (7))) (va_cwS 3 C.2.2.2.2.1 gX6_damageBy_X6_in rfl rfl rfl (by decide +kernel) ⟨Nat.le_of_ble_eq_true rfl, Nat.le_of_ble_eq_true rfl⟩) rfl rfl (Nat.le_of_ble_eq_true rfl) ⟨Nat.zero_le _, Nat.zero_le _⟩ dX6_damageBy_62 ?_
                  refine z_top (nI (0)) (iw_n (fun q => absurd q.1 (Int32.not_le.mpr hng))) ?_
                  refine z_if_eqN C 82 (by omega) dX6_damageBy_65 (by decide) (fun h65 => ?_) (fun h65 => (by exfalso; omega))
                  refine z_iconst C (nI (1)) dX6_damageBy_82 (by decide) ?_
                  refine z_goto C 87 dX6_damageBy_83 (by decide) ?_
                  refine z_istore C [(0, .ref (ad 30)), (1, .int (shI t2)), (2, .int (nI (sm (fun x => sm (dterm (dotc (stripM M) (M 0 4 + x)) t2 (M 3 x)) 8) x + sm (dterm (dotc (stripM M) (M 0 4 + x)) t2 (M 3 x)) r))), (3, .int (nI (x))), (4, .int (nI (dotc (stripM M) (M 0 4 + x)))), (5, .int (nI (r))), (6, .int ((nI (r)) + (shI t2))), (7, .int (nI (1)))] dX6_damageBy_87 (by decide) ⟨rfl, rfl, rfl, rfl, rfl, rfl, rfl, rfl, rfl, rfl, rfl, rfl, rfl, rfl, rfl, rfl, trivial⟩ ?_
                  refine z_iload_n C dX6_damageBy_89 rfl ?_
                  refine z_iload C dX6_damageBy_90 rfl ?_
                  refine z_iload C dX6_damageBy_92 rfl ?_
                  refine z_callSF C (k_has_p vl D cI cM A ad Ez1 hX (hI.1.dot _) h48) (va_cwS 2 C.2.2.2.2.1 gX6_damageBy_X6_has rfl rfl rfl (by decide +kernel) ⟨Nat.le_of_ble_eq_true rfl, Nat.le_of_ble_eq_true rfl⟩) rfl rfl (Nat.le_of_ble_eq_true rfl) ⟨Nat.zero_le _, Nat.zero_le _⟩ dX6_damageBy_94 ?_
                  refine z_if_eqN C 109 (Nat.lt_of_le_of_lt (b1_le _ _) (by decide)) dX6_damageBy_97 (by decide) (fun h97 => ?_) (fun h97 => ?_)
                  · refine z_iconst C (nI (0)) dX6_damageBy_109 (by decide) ?_
                    refine z_iaddN C  dX6_damageBy_110 ?_
                    refine z_istore_n C [(0, .ref (ad 30)), (1, .int (shI t2)), (2, .int (nI ((sm (fun x => sm (dterm (dotc (stripM M) (M 0 4 + x)) t2 (M 3 x)) 8) x + sm (dterm (dotc (stripM M) (M 0 4 + x)) t2 (M 3 x)) r) + 0))), (3, .int (nI (x))), (4, .int (nI (dotc (stripM M) (M 0 4 + x)))), (5, .int (nI (r))), (6, .int ((nI (r)) + (shI t2))), (7, .int (nI (1)))] dX6_damageBy_111 (by decide) ⟨rfl, rfl, rfl, rfl, rfl, rfl, rfl, rfl, rfl, rfl, rfl, rfl, rfl, rfl, rfl, rfl, trivial⟩ ?_
                    refine z_iincN (j := 1) C [(0, .ref (ad 30)), (1, .int (shI t2)), (2, .int (nI ((sm (fun x => sm (dterm (dotc (stripM M) (M 0 4 + x)) t2 (M 3 x)) 8) x + sm (dterm (dotc (stripM M) (M 0 4 + x)) t2 (M 3 x)) r) + 0))), (3, .int (nI (x))), (4, .int (nI (dotc (stripM M) (M 0 4 + x)))), (5, .int (nI (r + 1))), (6, .int ((nI (r)) + (shI t2))), (7, .int (nI (1)))] dX6_damageBy_112 rfl (by decide) ⟨rfl, rfl, rfl, rfl, rfl, rfl, rfl, rfl, rfl, rfl, rfl, rfl, rfl, rfl, rfl, rfl, trivial⟩ ?_
                    refine z_goto C 44 dX6_damageBy_115 (by decide) ?_
                    refine z_lv [(0, .ref (ad 30)), (1, .int (shI t2)), (2, .int (nI ((sm (fun x => sm (dterm (dotc (stripM M) (M 0 4 + x)) t2 (M 3 x)) 8) x + sm (dterm (dotc (stripM M) (M 0 4 + x)) t2 (M 3 x)) r) + 0))), (3, .int (nI (x))), (4, .int (nI (dotc (stripM M) (M 0 4 + x)))), (5, .int (nI (r + 1)))] ⟨rfl, rfl, rfl, rfl, rfl, rfl, rfl, rfl, rfl, rfl, rfl, rfl, trivial⟩ ?_
                    have q := ih44 (r + 1) (by omega) (by omega)
                    have e : sm (fun x => sm (dterm (dotc (stripM M) (M 0 4 + x)) t2 (M 3 x)) 8) x + sm (dterm (dotc (stripM M) (M 0 4 + x)) t2 (M 3 x)) (r + 1) = sm (fun x => sm (dterm (dotc (stripM M) (M 0 4 + x)) t2 (M 3 x)) 8) x + sm (dterm (dotc (stripM M) (M 0 4 + x)) t2 (M 3 x)) r + 0 := by
                      rw [sm, ← Nat.add_assoc]
                      have e2 : dterm (dotc (stripM M) (M 0 4 + x)) t2 (M 3 x) r = 0 := by have hb := b1_le (dotc (stripM M) (M 0 4 + x)) r; unfold dterm; rw [if_neg (fun q => by omega)]
                      rw [e2]
                    rw [e] at q
                    exact q
                  · refine z_iload C dX6_damageBy_100 rfl ?_
                    refine z_if_eqN C 109 (by omega) dX6_damageBy_102 (by decide) (fun h102 => (by exfalso; omega)) (fun h102 => ?_)
                    refine z_iconst C (nI (1)) dX6_damageBy_105 (by decide) ?_
                    refine z_goto C 110 dX6_damageBy_106 (by decide) ?_
                    refine z_iaddN C  dX6_damageBy_110 ?_
                    refine z_istore_n C [(0, .ref (ad 30)), (1, .int (shI t2)), (2, .int (nI ((sm (fun x => sm (dterm (dotc (stripM M) (M 0 4 + x)) t2 (M 3 x)) 8) x + sm (dterm (dotc (stripM M) (M 0 4 + x)) t2 (M 3 x)) r) + 1))), (3, .int (nI (x))), (4, .int (nI (dotc (stripM M) (M 0 4 + x)))), (5, .int (nI (r))), (6, .int ((nI (r)) + (shI t2))), (7, .int (nI (1)))] dX6_damageBy_111 (by decide) ⟨rfl, rfl, rfl, rfl, rfl, rfl, rfl, rfl, rfl, rfl, rfl, rfl, rfl, rfl, rfl, rfl, trivial⟩ ?_
                    refine z_iincN (j := 1) C [(0, .ref (ad 30)), (1, .int (shI t2)), (2, .int (nI ((sm (fun x => sm (dterm (dotc (stripM M) (M 0 4 + x)) t2 (M 3 x)) 8) x + sm (dterm (dotc (stripM M) (M 0 4 + x)) t2 (M 3 x)) r) + 1))), (3, .int (nI (x))), (4, .int (nI (dotc (stripM M) (M 0 4 + x)))), (5, .int (nI (r + 1))), (6, .int ((nI (r)) + (shI t2))), (7, .int (nI (1)))] dX6_damageBy_112 rfl (by decide) ⟨rfl, rfl, rfl, rfl, rfl, rfl, rfl, rfl, rfl, rfl, rfl, rfl, rfl, rfl, rfl, rfl, trivial⟩ ?_
                    refine z_goto C 44 dX6_damageBy_115 (by decide) ?_
                    refine z_lv [(0, .ref (ad 30)), (1, .int (shI t2)), (2, .int (nI ((sm (fun x => sm (dterm (dotc (stripM M) (M 0 4 + x)) t2 (M 3 x)) 8) x + sm (dterm (dotc (stripM M) (M 0 4 + x)) t2 (M 3 x)) r) + 1))), (3, .int (nI (x))), (4, .int (nI (dotc (stripM M) (M 0 4 + x)))), (5, .int (nI (r + 1)))] ⟨rfl, rfl, rfl, rfl, rfl, rfl, rfl, rfl, rfl, rfl, rfl, rfl, trivial⟩ ?_
                    have q := ih44 (r + 1) (by omega) (by omega)
                    have e : sm (fun x => sm (dterm (dotc (stripM M) (M 0 4 + x)) t2 (M 3 x)) 8) x + sm (dterm (dotc (stripM M) (M 0 4 + x)) t2 (M 3 x)) (r + 1) = sm (fun x => sm (dterm (dotc (stripM M) (M 0 4 + x)) t2 (M 3 x)) 8) x + sm (dterm (dotc (stripM M) (M 0 4 + x)) t2 (M 3 x)) r + 1 := by
                      rw [sm, ← Nat.add_assoc]
                      have e2 : dterm (dotc (stripM M) (M 0 4 + x)) t2 (M 3 x) r = 1 := by have hb := b1_le (dotc (stripM M) (M 0 4 + x)) r; unfold dterm; rw [if_pos ⟨by omega, hgo⟩]
                      rw [e2]
                    rw [e] at q
                    exact q
          refine z_lv [(0, .ref (ad 30)), (1, .int (shI t2)), (2, .int (nI (sm (fun x => sm (dterm (dotc (stripM M) (M 0 4 + x)) t2 (M 3 x)) 8) x))), (3, .int (nI (x))), (4, .int (nI (dotc (stripM M) (M 0 4 + x)))), (5, .int (nI (0)))] ⟨rfl, rfl, rfl, rfl, rfl, rfl, rfl, rfl, rfl, rfl, rfl, rfl, trivial⟩ ?_
          exact loop44 (9) 0 (Nat.zero_le _) (by omega)
    refine z_lv [(0, .ref (ad 30)), (1, .int (shI t2)), (2, .int (nI (0))), (3, .int (nI (0)))] ⟨rfl, rfl, rfl, rfl, rfl, rfl, rfl, rfl, trivial⟩ ?_
    exact loop8 (M 0 0 + 1) 0 (Nat.zero_le _) (by omega)

theorem iw_X6_load_6 : ∀ w ∈ wsX60, w ∈ wsX6_load := by decide +kernel
theorem ln_X6_load_64 : Cond.fieldLink RX6 64 "MarqueeDisplayModel" "offset" "I" ∈ wsX6_load := by decide +kernel
set_option maxHeartbeats 4000000 in
set_option maxRecDepth 100000 in
theorem k_X6_load (vl : Launch) (D : va_G) (cI cM : ClassId) (A : Nat → Prop) (ad : Nat → Nat) (E : Nat → va_E) (hX : XD A 40 ad) {M : St}  (hI : Inv M) (hR : RelM cI ad M E) : MI vl yX6_load wsX6_load { frames := 3, cells := 0, slots := 0, locals := 70 } D cI cM A 40 ad E [.ref (ad 30)] (fun r E1 => r = o_load M ∧ RelM cI ad M E1 ∧ ∀ k : Nat, (k < 30) → E1 k = E k) := by
  refine mi_of cX6_load 1 (.int) RX6 (by decide) rfl rfl (Nat.le_of_ble_eq_true rfl) (fun r E1 h => rfl) ?_
  intro vp ve vs vm va vb vt vc Q C hend
  refine z_lv [(0, .ref (ad 30))] ⟨rfl, rfl, trivial⟩ ?_
  obtain ⟨gl, sz, co, lt, sp, e30, e31, e32, e33, e34, e35, e36, e37, hms, hn6, hgl, hrel⟩ := id hR
  obtain ⟨⟨iW1, iW2⟩, iG, ⟨iS1, iS2⟩, ⟨iB1, iB2⟩, iO, iC, iT, iN, iSh, iWd, iDt, iZ, iDf, iDz, iTx, iMs⟩ := id hI.1
  have hLM := hI.1.LM_le
  have hsl := hI.1.slen
  have hww := hI.1.ws
  have hld : ∀ a, ldM M a ≤ 512 := fun a => Nat.le_trans (ldS_le _ _ _ _ _) (by omega)
  have hl4 := hld (M 0 4)
  have hsz : ∀ i, i < M 0 7 → (1 ≤ sz i ∧ sz i ≤ 12) ∧ ∀ k, k < sz i → ltr lt i k < 27 := fun i hi => by
    obtain ⟨h1, h2, h3⟩ := hrel i hi
    have h4 := iMs i hi
    rw [h1]
    exact ⟨h4.1, fun k hk => by rw [h3 k hk]; exact h4.2.2 k hk⟩
  have hLe : sL (M 1) (M 0 1) sz (ltr lt) (M 0 7) = LM M := sL_cg (fun i hi => ⟨(hrel i hi).1, fun k hk => (hrel i hi).2.2 k (by rw [← (hrel i hi).1]; exact hk)⟩)
  have hst : scols (M 1) (M 2) (M 0 1) sz co (ltr lt) (M 0 7) = stripM M := scols_cg (fun i hi => ⟨(hrel i hi).1, (hrel i hi).2.1, fun k hk => (hrel i hi).2.2 k (by rw [← (hrel i hi).1]; exact hk)⟩)
  refine z_aload_n C dX6_load_0 rfl ?_
  refine z_callVV C (30) (Cn := RX6) (T := TX6) (N := 19) (k_X6_draws vl D cI cM A ad E hX e30 e31 e35 e37 e32 e36 hn6 hsz hww iG hgl hms) (cwV 0 C.2.2.2.2.1 gX6_load_X6_draws rfl rfl rfl (by decide +kernel) ⟨Nat.le_of_ble_eq_true rfl, Nat.le_of_ble_eq_true rfl⟩) rfl (by first | decide | omega) rfl e30 rfl rfl (Nat.le_of_ble_eq_true rfl) ⟨Nat.zero_le _, Nat.zero_le _⟩ dX6_load_1 (fun Ez1 hp2 => ?_)
  obtain ⟨v30, vs1, hg⟩ := hp2
  rw [hLe, ← strip_len] at v30
  rw [hst] at vs1
  have f3 : Ez1 (31) = aI cI 27 (M 1) := (hg (31) (by omega)).trans e31
  have f4 : Ez1 (32) = aI cI 162 gl := (hg (32) (by omega)).trans e32
  have f5 : Ez1 (33) = aI cI 32 (M 3) := (hg (33) (by omega)).trans e33
  have f6 : Ez1 (34) = aI cI 12 (M 4) := (hg (34) (by omega)).trans e34
  have f7 : Ez1 (35) = aI cI 6 sz := (hg (35) (by omega)).trans e35
  have f8 : Ez1 (36) = aI cI 6 co := (hg (36) (by omega)).trans e36
  have f9 : Ez1 (37) = aI cI 72 lt := (hg (37) (by omega)).trans e37
  have g10 : ∀ k : Nat, (k < 30) → Ez1 k = E k := fun k hk => (hg k (by omega)).trans ((fun _ _ => rfl) k hk)
  have hR1 : RelM cI ad M Ez1 := ⟨gl, sz, co, lt, _, v30, f3, f4, f5, f6, f7, f8, f9, vs1.nil, hn6, hgl, hrel⟩
  refine z_aload_n C dX6_load_4 rfl ?_
  refine z_aload_n C dX6_load_5 rfl ?_
  refine z_get C (30) (Cn := RX6) (T := TX6) (N := 19) (fi := 5) iw_X6_load_6 rfl (by decide) ln_X6_load_64 (by first | decide | omega) rfl v30 rfl dX6_load_6 ?_
  refine z_callVF C (30) (Cn := RX6) (T := TX6) (N := 19) (k_X6_loadAt vl D cI cM A ad Ez1 hX v30 vs1 hsl hI.1.dot iSh f5 iDf hI.1.clr hI.1.drk iW2 (by omega)) (cwV 1 C.2.2.2.2.1 gX6_load_X6_loadAt rfl rfl rfl (by decide +kernel) ⟨Nat.le_of_ble_eq_true rfl, Nat.le_of_ble_eq_true rfl⟩) rfl (by first | decide | omega) rfl v30 rfl rfl (Nat.le_of_ble_eq_true rfl) ⟨Nat.zero_le _, Nat.zero_le _⟩ dX6_load_9 ?_
  exact hend _ _ _ _ dX6_load_12 (⟨rfl, hR1, g10⟩)

theorem iw_X6_brightness_6 : ∀ w ∈ wsX60, w ∈ wsX6_brightness := by decide +kernel
theorem ln_X6_brightness_19 : Cond.fieldLink RX6 19 "MarqueeDisplayModel" "budget" "I" ∈ wsX6_brightness := by decide +kernel
set_option maxHeartbeats 4000000 in
set_option maxRecDepth 100000 in
theorem k_X6_brightness (vl : Launch) (D : va_G) (cI cM : ClassId) (A : Nat → Prop) (ad : Nat → Nat) (E : Nat → va_E) (hX : XD A 40 ad) {M : St}  (hI : Inv M) (hR : RelM cI ad M E) : MI vl yX6_brightness wsX6_brightness { frames := 4, cells := 0, slots := 0, locals := 90 } D cI cM A 40 ad E [.ref (ad 30)] (fun r E1 => r = o_brightness M ∧ RelM cI ad M E1 ∧ ∀ k : Nat, (k < 30) → E1 k = E k) := by
  refine mi_of cX6_brightness 2 (.int) RX6 (by decide) rfl rfl (Nat.le_of_ble_eq_true rfl) (fun r E1 h => rfl) ?_
  intro vp ve vs vm va vb vt vc Q C hend
  refine z_lv [(0, .ref (ad 30))] ⟨rfl, rfl, trivial⟩ ?_
  obtain ⟨gl, sz, co, lt, sp, e30, e31, e32, e33, e34, e35, e36, e37, hms, hn6, hgl, hrel⟩ := id hR
  obtain ⟨⟨iW1, iW2⟩, iG, ⟨iS1, iS2⟩, ⟨iB1, iB2⟩, iO, iC, iT, iN, iSh, iWd, iDt, iZ, iDf, iDz, iTx, iMs⟩ := id hI.1
  have hLM := hI.1.LM_le
  have hsl := hI.1.slen
  have hww := hI.1.ws
  have hld : ∀ a, ldM M a ≤ 512 := fun a => Nat.le_trans (ldS_le _ _ _ _ _) (by omega)
  have hl4 := hld (M 0 4)
  have hsz : ∀ i, i < M 0 7 → (1 ≤ sz i ∧ sz i ≤ 12) ∧ ∀ k, k < sz i → ltr lt i k < 27 := fun i hi => by
    obtain ⟨h1, h2, h3⟩ := hrel i hi
    have h4 := iMs i hi
    rw [h1]
    exact ⟨h4.1, fun k hk => by rw [h3 k hk]; exact h4.2.2 k hk⟩
  have hLe : sL (M 1) (M 0 1) sz (ltr lt) (M 0 7) = LM M := sL_cg (fun i hi => ⟨(hrel i hi).1, fun k hk => (hrel i hi).2.2 k (by rw [← (hrel i hi).1]; exact hk)⟩)
  have hst : scols (M 1) (M 2) (M 0 1) sz co (ltr lt) (M 0 7) = stripM M := scols_cg (fun i hi => ⟨(hrel i hi).1, (hrel i hi).2.1, fun k hk => (hrel i hi).2.2 k (by rw [← (hrel i hi).1]; exact hk)⟩)
  refine z_aload_n C dX6_brightness_0 rfl ?_
  refine z_callVI C (30) (Cn := RX6) (T := TX6) (N := 19) (k_X6_load vl D cI cM A ad E hX hI hR) (cwV 0 C.2.2.2.2.1 gX6_brightness_X6_load rfl rfl rfl (by decide +kernel) ⟨Nat.le_of_ble_eq_true rfl, Nat.le_of_ble_eq_true rfl⟩) rfl (by first | decide | omega) rfl e30 rfl rfl (Nat.le_of_ble_eq_true rfl) ⟨Nat.zero_le _, Nat.zero_le _⟩ dX6_brightness_1 (fun r3 Ez1 hp2 => ?_)
  obtain ⟨hr4, hR4, hf4⟩ := hp2
  obtain ⟨gl4, sz4, co4, lt4, sp4, a304, a314, a324, a334, a344, a354, a364, a374, -⟩ := id hR4
  have g5 : ∀ k : Nat, (k < 30) → Ez1 k = E k := fun k hk => (hf4 k hk).trans ((fun _ _ => rfl) k hk)
  subst hr4
  refine z_istore_n C [(0, .ref (ad 30)), (1, .int (nI (ldM M (M 0 4))))] dX6_brightness_4 (by decide) ⟨rfl, rfl, rfl, rfl, trivial⟩ ?_
  refine z_iload_n C dX6_brightness_5 rfl ?_
  refine z_aload_n C dX6_brightness_6 rfl ?_
  refine z_get C (30) (Cn := RX6) (T := TX6) (N := 19) (fi := 4) iw_X6_brightness_6 rfl (by decide) ln_X6_brightness_19 (by first | decide | omega) rfl a304 rfl dX6_brightness_7 ?_
  refine z_icmp_gtN C 18 (by omega) (by omega) dX6_brightness_10 (by decide) (fun h10 => ?_) (fun h10 => ?_)
  · refine z_bipush C (nI (15)) dX6_brightness_18 (by decide) ?_
    refine z_aload_n C dX6_brightness_20 rfl ?_
    refine z_get C (30) (Cn := RX6) (T := TX6) (N := 19) (fi := 4) iw_X6_brightness_6 rfl (by decide) ln_X6_brightness_19 (by first | decide | omega) rfl a304 rfl dX6_brightness_21 ?_
    refine z_imulN C  dX6_brightness_24 ?_
    refine z_iload_n C dX6_brightness_25 rfl ?_
    refine z_idivN C (by omega) (by omega) (by omega) dX6_brightness_26 ?_
    exact hend _ _ _ _ dX6_brightness_27 (⟨by unfold o_brightness; rw [if_neg (by omega)], hR4, g5⟩)
  · refine z_bipush C (nI (15)) dX6_brightness_13 (by decide) ?_
    refine z_goto C 27 dX6_brightness_15 (by decide) ?_
    exact hend _ _ _ _ dX6_brightness_27 (⟨by unfold o_brightness; rw [if_pos (by omega)], hR4, g5⟩)

