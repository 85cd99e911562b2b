def sg (ad : Nat → Nat) (j : Nat) : Nat → Option Nat := fun i => if i < j then some (ad (2 + 3 * i)) else none
theorem sg_0 (ad : Nat → Nat) : sg ad 0 = fun _ => none := by funext i; unfold sg; rw [if_neg (by omega)]
theorem sg_s {ad ad1 : Nat → Nat} {j q : Nat} (h : ∀ k, k < 2 + 3 * j → ad1 k = ad k) (hq : ad1 (2 + 3 * j) = q) : va_up (sg ad j) j (some q) = sg ad1 (j + 1) := by
  funext i
  by_cases e : i = j
  · subst e; rw [va_up_self]; unfold sg; rw [if_pos (by omega), hq]
  · rw [va_up_ne _ _ e]
    unfold sg
    by_cases g : i < j
    · rw [if_pos g, if_pos (by omega), h _ (by omega)]
    · rw [if_neg g, if_neg (by omega)]
theorem iw_X2_init_2 : ∀ w ∈ wsX20, w ∈ wsX2_init := by decide +kernel
theorem ln_X2_init_11 : Cond.fieldLink RX2 11 "MarqueeDisplay$MessageList" "slots" "[LMarqueeDisplay$Message;" ∈ wsX2_init := by decide +kernel
theorem fsX1 : ∀ j, j < 4 → defaultValue (tyX1 j) = vp_V [.null, .int (nI (0)), .int (nI (0)), .int (nI (0))] j := by
  intro j hj
  rcases (show j = 0 ∨ j = 1 ∨ j = 2 ∨ j = 3 by omega) with rfl | rfl | rfl | rfl <;> rfl
theorem iw_X2_init_1 : ∀ w ∈ wsX10, w ∈ wsX2_init := by decide +kernel
set_option maxHeartbeats 4000000 in
set_option maxRecDepth 100000 in
theorem k_X2_init (vl : Launch) (D : va_G) (cI cM : ClassId) : CI vl yX2_init wsX2_init { frames := 3, cells := 19, slots := 114, locals := 52 } D cI cM 2 [.null, .int (nI (0))] 20 19 114 (fun ad1 E1 => E1 0 = .inr (2, [.ref (ad1 1), .int (nI 0)]) ∧ E1 1 = .inl (cM, 6, .inr (.inr (.inr (.inr (fun i => some (ad1 (2 + 3 * i))))))) ∧ ∀ i, i < 6 → MB cI ad1 E1 (2 + 3 * i)) := by
  refine mc_of cX2_init 2 RX2 (by decide) rfl rfl rfl (Nat.le_of_ble_eq_true rfl) ?_
  intro A vp ve vs vm va vb vt vc Q a0 ad0 E0 C hao hA hnm hX0 h0 f0 hend
  refine z_aload_n C dX2_init_0 rfl ?_
  refine z_objInit C (by decide +kernel) (by decide +kernel) (by decide +kernel) (Nat.le_of_ble_eq_true rfl) (Nat.le_of_ble_eq_true rfl) dX2_init_1 ?_
  refine z_aload_n C dX2_init_4 rfl ?_
  refine z_bipush C (nI (6)) dX2_init_5 (by decide) ?_
  refine z_newq C (by decide +kernel) hao hX0 hA (Nat.le_of_ble_eq_true rfl) (Nat.le_of_ble_eq_true rfl) (Nat.le_of_ble_eq_true rfl) (Nat.le_of_ble_eq_true rfl) dX2_init_7 (fun a1_ ad2_ Ez3 had4 hE5 hX6_ => ?_)
  have hd7 : ad2_ (0) = a0 := va_up_of had4 (by first | decide | omega) h0
  have hd8 : ad2_ (1) = a1_ := va_up_eq had4
  have f9 : Ez3 (0) = .inr (2, [.null, .int (nI (0))]) := va_up_of hE5 (by first | decide | omega) f0
  have f10 : Ez3 (1) = .inl (cM, 6, .inr (.inr (.inr (.inr (fun _ => none))))) := va_up_eq hE5
  refine z_putF C (0) (Cn := RX2) (T := TX2) (N := 2) (fi := 0) tyX2 iw_X2_init_2 tyX2_ok nmX2 rfl (by decide) ln_X2_init_11 hX6_ (by first | decide | omega) hd7 f9 rfl hnm rfl rfl rfl rfl (Nat.le_of_ble_eq_true rfl) dX2_init_10 (fun Ez12 hE11 => ?_)
  have f14 : Ez12 (1) = .inl (cM, 6, .inr (.inr (.inr (.inr (fun _ => none))))) := va_up_of hE11 (by first | decide | omega) f10
  have f15 : Ez12 (0) = .inr (2, [.ref (a1_), .int (nI (0))]) := va_up_eq hE11
  refine z_iconst C (nI (0)) dX2_init_13 (by decide) ?_
  refine z_istore_n C [(0, .ref (a0)), (1, .int (nI (0)))] dX2_init_14 (by decide) ⟨rfl, rfl, rfl, rfl, trivial⟩ ?_
  have loop15 : ∀ (fuel : Nat) (j : Nat) (ad2 : Nat → Nat) (E2 : Nat → va_E), (hj : j ≤ 6) → (h2X : XD A (2 + 3 * j) ad2) → (i0 : ad2 0 = a0) → (i1 : ad2 1 = a1_) → (q0 : E2 (0) = .inr (2, [.ref (a1_), .int (nI (0))])) → (q1 : E2 (1) = .inl (cM, 6, .inr (.inr (.inr (.inr (sg ad2 j)))))) → (hmb : ∀ i, i < j → MB cI ad2 E2 (2 + 3 * i)) → 6 - j < fuel → Z vp vl ve { frames := 3, cells := 19, slots := 114, locals := 52 } vs vm va vb vt vc 2 D A (2 + 3 * j) ad2 E2 [(0, .ref (a0)), (1, .int (nI (j)))] (1 + 3 * j) (6 + 18 * j) Q 15 [] := by
    intro fuel
    induction fuel with
    | zero => intro j ad2 E2 hj h2X i0 i1 q0 q1 hmb hlt; exact absurd hlt (Nat.not_lt_zero _)
    | succ fuel ih =>
      intro j ad2 E2 hj h2X i0 i1 q0 q1 hmb hlt
      have ih15 := ih
      refine z_iload_n C dX2_init_15 rfl ?_
      refine z_aload_n C dX2_init_16 rfl ?_
      refine z_get C (0) (Cn := RX2) (T := TX2) (N := 2) (fi := 0) iw_X2_init_2 rfl (by decide) ln_X2_init_11 (by first | decide | omega) i0 q0 rfl dX2_init_17 ?_
      refine z_alenq C (1) (by first | decide | omega) i1 q1 dX2_init_20 ?_
      refine z_icmp_geN C 43 (by omega) (by omega) dX2_init_21 (by decide) (fun h21 => ?_) (fun h21 => ?_)
      · have hj6 : j = 6 := by omega
        subst hj6
        refine z_sameq (k0 := 1) (fun i => some (ad2 (2 + 3 * i))) q1 (fun i hi => by show (if i < 6 then some (ad2 (2 + 3 * i)) else none) = _; rw [if_pos hi]) (fun E9 hE9 => ?_)
        have f9 : E9 0 = _ := va_up_of hE9 (by decide) q0
        exact hend _ _ _ _ dX2_init_43 i0 h2X ⟨by rw [i1]; exact f9, va_up_eq hE9, fun i hi => (hmb i hi).mv (fun _ _ => rfl) (fun k hk => va_up_of hE9 (by omega) rfl)⟩
      · refine z_aload_n C dX2_init_24 rfl ?_
        refine z_get C (0) (Cn := RX2) (T := TX2) (N := 2) (fi := 0) iw_X2_init_2 rfl (by decide) ln_X2_init_11 (by first | decide | omega) i0 q0 rfl dX2_init_25 ?_
        refine z_iload_n C dX2_init_28 rfl ?_
        refine z_new (ci := 1) (Cn := RX1) (T := TX1) (N := 4) C [.null, .int (nI (0)), .int (nI (0)), .int (nI (0))] tyX1 iw_X2_init_1 tyX1_ok (by decide +kernel) (by decide +kernel) (by decide +kernel) h2X hA rfl fsX1 (by show 1 + 3 * j + 1 ≤ 19; omega) (by show 6 + 18 * j + 4 ≤ 114; omega) dX2_init_29 (fun a16_ ad17_ Ez18 had19 hE20 hX21_ => ?_)
        have hd22 : ad17_ (0) = a0 := va_up_of had19 (by first | decide | omega) i0
        have hd23 : ad17_ (1) = a1_ := va_up_of had19 (by first | decide | omega) i1
        have hd24 : ad17_ (2 + 3 * j) = a16_ := va_up_eq had19
        have ga25 : ∀ k : Nat, (k < 2 + 3 * j) → ad17_ k = ad2 k := fun k hk => va_up_of had19 (by omega) ((fun _ _ => rfl) k hk)
        have f26 : Ez18 (0) = .inr (2, [.ref (a1_), .int (nI (0))]) := va_up_of hE20 (by first | decide | omega) q0
        have f27 : Ez18 (1) = .inl (cM, 6, .inr (.inr (.inr (.inr (sg ad2 j))))) := va_up_of hE20 (by first | decide | omega) q1
        have f28 : Ez18 (2 + 3 * j) = .inr (1, [.null, .int (nI (0)), .int (nI (0)), .int (nI (0))]) := va_up_eq hE20
        have g29 : ∀ k : Nat, (k < 2 + 3 * j ∧ k ≠ 1) → Ez18 k = E2 k := fun k hk => va_up_of hE20 (by omega) ((fun _ _ => rfl) k hk)
        refine z_dup C dX2_init_32 rfl ?_
        refine z_callIN (n := 2 + 3 * j) C hao hA (k_X1_init vl D cI cM) ⟨va_cnB (host := "MarqueeDisplay") 0 C.2.2.2.2.1 gX2_init_X1_init_n17 rfl rfl rfl (C.2.2.2.2.2.2.1 _ (by decide +kernel)) (C.2.2.2.2.1 _ (by decide +kernel)) (by decide +kernel) ⟨(Nat.le_of_ble_eq_true rfl), (Nat.le_of_ble_eq_true rfl)⟩, rfl, C.2.2.2.2.1 _ (by decide +kernel)⟩ hX21_ hd24 f28 (Nat.le_of_ble_eq_true rfl) ⟨(by show 1 + 3 * j + 1 + 2 ≤ 19; omega), (by show 6 + 18 * j + 4 + 14 ≤ 114; omega)⟩ dX2_init_33 (fun ad30_ Ez31 hj32 hk33 hl34 hX35_ hp36 => ?_)
        have hd37 : ad30_ (0) = a0 := (hj32 (0) (by first | decide | omega)).trans hd22
        have hd38 : ad30_ (1) = a1_ := (hj32 (1) (by first | decide | omega)).trans hd23
        have f40 : Ez31 (0) = .inr (2, [.ref (a1_), .int (nI (0))]) := (hk33 (0) (by first | decide | omega)).trans f26
        have f41 : Ez31 (1) = .inl (cM, 6, .inr (.inr (.inr (.inr (sg ad2 j))))) := (hk33 (1) (by first | decide | omega)).trans f27
        have ga42 : ∀ k : Nat, (k < 2 + 3 * j) → ad30_ k = ad2 k := fun k hk => (hj32 k (by omega)).trans (ga25 k hk)
        have g43 : ∀ k : Nat, (k < 2 + 3 * j ∧ k ≠ 1) → Ez31 k = E2 k := fun k hk => (hk33 k (by omega)).trans (g29 k hk)
        obtain ⟨a44_, hd45⟩ : ∃ q : Nat, ad30_ (2 + 3 * j + 1) = q := ⟨_, rfl⟩
        have hm47 : MB cI ad30_ Ez31 (2 + 3 * j) := hp36
        have f46 : Ez31 (2 + 3 * j) = .inr (1, [.ref a44_, .int (nI (0)), .int (nI (0)), .int (nI (0))]) := by rw [← hd45]; exact hm47.1
        refine z_astq C (1) (2 + 3 * j) hX35_ (by first | decide | omega) hd38 f41 (by first | decide | omega) hl34 f46 (by omega) (by decide) dX2_init_36 (fun Ez49 hE48 => ?_)
        have f50 : Ez49 (0) = .inr (2, [.ref (a1_), .int (nI (0))]) := va_up_of hE48 (by first | decide | omega) f40
        have f52 : Ez49 (2 + 3 * j) = .inr (1, [.ref (a44_), .int (nI (0)), .int (nI (0)), .int (nI (0))]) := va_up_of hE48 (by first | decide | omega) f46
        have f53 : Ez49 (1) = .inl (cM, 6, .inr (.inr (.inr (.inr (va_up (sg ad2 j) (j) (some a16_)))))) := va_up_eq hE48
        have g54 : ∀ k : Nat, (k < 2 + 3 * j ∧ k ≠ 1) → Ez49 k = E2 k := fun k hk => va_up_of hE48 (by omega) (g43 k hk)
        refine z_iincN (j := 1) C [(0, .ref (a0)), (1, .int (nI (j + 1)))] dX2_init_37 rfl (by decide) ⟨rfl, rfl, rfl, rfl, trivial⟩ ?_
        refine z_goto C 15 dX2_init_40 (by decide) ?_
        refine z_lv [(0, .ref (a0)), (1, .int (nI (j + 1)))] ⟨rfl, rfl, rfl, rfl, trivial⟩ ?_
        have hX9 : XD A (2 + 3 * (j + 1)) ad30_ := by rw [show 2 + 3 * (j + 1) = 2 + 3 * j + 3 by omega]; exact hX35_
        have hm9 : ∀ i, i < j + 1 → MB cI ad30_ Ez49 (2 + 3 * i) := by
          intro i hi
          by_cases e : i = j
          · subst e; exact hm47.mv (fun _ _ => rfl) (fun k hk => va_up_of hE48 (by omega) rfl)
          · exact (hmb i (by omega)).mv (fun k hk => ga42 k (by omega)) (fun k hk => g54 k (by omega))
        have q9 := ih15 (j + 1) ad30_ Ez49 (by omega) hX9 hd37 hd38 f50 (f53.trans (by rw [sg_s (ad1 := ad30_) ga42 hl34])) hm9 (by omega)
        exact q9
  refine z_lv [(0, .ref (a0)), (1, .int (nI (0)))] ⟨rfl, rfl, rfl, rfl, trivial⟩ ?_
  exact loop15 (7) 0 ad2_ Ez12 (Nat.zero_le _) hX6_ hd7 hd8 f15 (f14.trans (by rw [sg_0])) (fun i hi => absurd hi (Nat.not_lt_zero _)) (by omega)

def M00 : St := fun a => if a = 0 then (fun b => if b = 0 then 16 else if b = 1 then 4 else if b = 2 then 2 else if b = 3 then 60 else if b = 8 then 2 else 0) else if a = 1 then wdI else if a = 2 then dq 26 0 else fun _ => 0
theorem wdI_ok : ∀ c, c < 27 → 1 ≤ wdI c ∧ wdI c ≤ 6 := by decide +kernel
theorem dqI_lt : ∀ i, i < 162 → dq 26 0 i < 256 := by decide +kernel
theorem dqI_z : ∀ c, c < 27 → ∀ j, j < 6 → wdI c ≤ j → dq 26 0 (c * 6 + j) = 0 := by decide +kernel
theorem inv_00 : Inv M00 := by
  refine ⟨⟨⟨by decide, by decide⟩, by decide, ⟨by decide, by decide⟩, ⟨by decide, by decide⟩, by decide, by decide, by decide, by decide, by decide, wdI_ok, dqI_lt, dqI_z, ?_, ?_, ?_, ?_⟩, Or.inr rfl⟩
  · intro x hx; show 0 < 256; decide
  · intro x hx h; rfl
  · intro k hk; exact absurd hk (Nat.not_lt_zero _)
  · intro i hi; exact absurd hi (Nat.not_lt_zero _)
theorem strip_00 : stripM M00 = [] := rfl
theorem relx_00 {cI cM : ClassId} {ad : Nat → Nat} {E : Nat → va_E} (e0 : E 0 = .inr (5, [.ref (ad 1), .ref (ad 4), .ref (ad 6), .ref (ad 26), .ref (ad 29), .int (nI 16), .int (nI 4), .int (nI 2), .int (nI 0), .int (nI 60), .int (nI 0), .int (nI 0)])) (e1 : E 1 = .inr (0, [.ref (ad 2), .ref (ad 3)])) (e2 : E 2 = aI cI 27 wdI) (e3 : E 3 = aI cI 162 (dq 26 0)) (e4 : E 4 = .inr (4, [.ref (ad 5), .int (nI 0)])) (e5 : E 5 = aI cI 12 (fun _ => 0)) (e6 : E 6 = .inr (2, [.ref (ad 7), .int (nI 0)])) (e7 : E 7 = .inl (cM, 6, .inr (.inr (.inr (.inr (fun i => some (ad (6 + (2 + 3 * i)))))))) ) (hmb : ∀ i, i < 6 → MB cI ad E (8 + 3 * i)) (e26 : E 26 = .inr (3, [.ref (ad 27), .ref (ad 28), .int (nI 0)])) (e27 : E 27 = aI cI 552 (fun _ => 0)) (e28 : E 28 = aI cI 552 (fun _ => 0)) (e29 : E 29 = aI cI 32 (fun _ => 0)) : RelX cI cM ad M00 E := by
  refine ⟨fun i => i, ⟨e0, e1, e2, e3, e4, e5, e6, ?_, ⟨fun i hi => hi, fun i k _ _ h => h⟩, by decide, fun i hi => ?_, e29⟩, fun k hk => absurd hk (Nat.not_lt_zero _), ⟨_, _, e26, e27, e28, SP_nil⟩⟩
  · rw [e7]
    have : (fun i => some (ad (6 + (2 + 3 * i)))) = sf ad (fun i => i) := by
      funext i
      show some (ad (6 + (2 + 3 * i))) = some (ad (8 + 3 * i))
      rw [show 6 + (2 + 3 * i) = 8 + 3 * i by omega]
    rw [this]
  · obtain ⟨a, b, c⟩ := hmb i hi
    refine ⟨nI 0, nI 0, nI 0, nI 0, fun _ => 0, ⟨?_, ?_, ?_⟩, fun h => absurd h (Nat.not_lt_zero _)⟩
    · rw [show 9 + 3 * i = 8 + 3 * i + 1 by omega]; exact a
    · rw [show 9 + 3 * i = 8 + 3 * i + 1 by omega, show 10 + 3 * i = 8 + 3 * i + 2 by omega]; exact b
    · rw [show 10 + 3 * i = 8 + 3 * i + 2 by omega]; exact c
theorem fsX0 : ∀ j, j < 2 → defaultValue (tyX0 j) = vp_V [.null, .null] j := by
  intro j hj
  rcases (show j = 0 ∨ j = 1 by omega) with rfl | rfl <;> rfl
theorem iw_X5_init_0 : ∀ w ∈ wsX00, w ∈ wsX5_init := by decide +kernel
theorem iw_X5_init_5 : ∀ w ∈ wsX50, w ∈ wsX5_init := by decide +kernel
theorem ln_X5_init_12 : Cond.fieldLink RX5 12 "MarqueeDisplay" "font" "LMarqueeDisplay$Font;" ∈ wsX5_init := by decide +kernel
theorem iw_X5_init_4 : ∀ w ∈ wsX40, w ∈ wsX5_init := by decide +kernel
theorem ln_X5_init_19 : Cond.fieldLink RX5 19 "MarqueeDisplay" "buffer" "LMarqueeDisplay$Text;" ∈ wsX5_init := by decide +kernel
theorem fsX2 : ∀ j, j < 2 → defaultValue (tyX2 j) = vp_V [.null, .int (nI (0))] j := by
  intro j hj
  rcases (show j = 0 ∨ j = 1 by omega) with rfl | rfl <;> rfl
theorem iw_X5_init_2 : ∀ w ∈ wsX20, w ∈ wsX5_init := by decide +kernel
theorem ln_X5_init_26 : Cond.fieldLink RX5 26 "MarqueeDisplay" "messages" "LMarqueeDisplay$MessageList;" ∈ wsX5_init := by decide +kernel
theorem fsX3 : ∀ j, j < 3 → defaultValue (tyX3 j) = vp_V [.null, .null, .int (nI (0))] j := by
  intro j hj
  rcases (show j = 0 ∨ j = 1 ∨ j = 2 by omega) with rfl | rfl | rfl <;> rfl
theorem iw_X5_init_3 : ∀ w ∈ wsX30, w ∈ wsX5_init := by decide +kernel
theorem ln_X5_init_33 : Cond.fieldLink RX5 33 "MarqueeDisplay" "strip" "LMarqueeDisplay$Strip;" ∈ wsX5_init := by decide +kernel
theorem ln_X5_init_37 : Cond.fieldLink RX5 37 "MarqueeDisplay" "defects" "[I" ∈ wsX5_init := by decide +kernel
theorem ln_X5_init_41 : Cond.fieldLink RX5 41 "MarqueeDisplay" "columns" "I" ∈ wsX5_init := by decide +kernel
theorem ln_X5_init_45 : Cond.fieldLink RX5 45 "MarqueeDisplay" "gap" "I" ∈ wsX5_init := by decide +kernel
theorem ln_X5_init_48 : Cond.fieldLink RX5 48 "MarqueeDisplay" "speed" "I" ∈ wsX5_init := by decide +kernel
theorem ln_X5_init_51 : Cond.fieldLink RX5 51 "MarqueeDisplay" "shift" "I" ∈ wsX5_init := by decide +kernel
theorem ln_X5_init_54 : Cond.fieldLink RX5 54 "MarqueeDisplay" "budget" "I" ∈ wsX5_init := by decide +kernel
theorem ln_X5_init_57 : Cond.fieldLink RX5 57 "MarqueeDisplay" "offset" "I" ∈ wsX5_init := by decide +kernel
theorem ln_X5_init_60 : Cond.fieldLink RX5 60 "MarqueeDisplay" "counter" "I" ∈ wsX5_init := by decide +kernel
set_option maxHeartbeats 4000000 in
set_option maxRecDepth 100000 in
theorem k_X5_init (vl : Launch) (D : va_G) (cI cM : ClassId) : CI vl yX5_init wsX5_init { frames := 4, cells := 29, slots := 1460, locals := 73 } D cI cM 5 [.null, .null, .null, .null, .null, .int (nI (0)), .int (nI (0)), .int (nI (0)), .int (nI (0)), .int (nI (0)), .int (nI (0)), .int (nI (0))] 30 29 1460 (fun ad1 E1 => RelX cI cM ad1 M00 E1) := by
  refine mc_of cX5_init 1 RX5 (by decide) rfl rfl rfl (Nat.le_of_ble_eq_true rfl) ?_
  intro A vp ve vs vm va vb vt vc Q a0 ad0 E0 C hao hA hnm hX0 h0 f0 hend
  refine z_aload_n C dX5_init_0 rfl ?_
  refine z_objInit C (by decide +kernel) (by decide +kernel) (by decide +kernel) (Nat.le_of_ble_eq_true rfl) (Nat.le_of_ble_eq_true rfl) dX5_init_1 ?_
  refine z_aload_n C dX5_init_4 rfl ?_
  refine z_new (ci := 0) (Cn := RX0) (T := TX0) (N := 2) C [.null, .null] tyX0 iw_X5_init_0 tyX0_ok (by decide +kernel) (by decide +kernel) (by decide +kernel) hX0 hA rfl fsX0 (Nat.le_of_ble_eq_true rfl) (Nat.le_of_ble_eq_true rfl) dX5_init_5 (fun a1_ ad2_ Ez3 had4 hE5 hX6_ => ?_)
  have hd7 : ad2_ (0) = a0 := va_up_of had4 (by first | decide | omega) h0
  have hd8 : ad2_ (1) = a1_ := va_up_eq had4
  have f9 : Ez3 (0) = .inr (5, [.null, .null, .null, .null, .null, .int (nI (0)), .int (nI (0)), .int (nI (0)), .int (nI (0)), .int (nI (0)), .int (nI (0)), .int (nI (0))]) := va_up_of hE5 (by first | decide | omega) f0
  have f10 : Ez3 (1) = .inr (0, [.null, .null]) := va_up_eq hE5
  refine z_dup C dX5_init_8 rfl ?_
  refine z_callI (n := 1) C hao hA (k_X0_init vl D cI cM) (cwI 0 C.2.2.2.2.1 gX5_init_X0_init rfl rfl rfl (C.2.2.2.2.1 _ (by decide +kernel)) (C.2.2.2.2.1 _ (by decide +kernel)) (C.2.2.2.2.1 _ (by decide +kernel)) rfl (by decide +kernel) ⟨(Nat.le_of_ble_eq_true rfl), (Nat.le_of_ble_eq_true rfl)⟩) hX6_ hd8 f10 (Nat.le_of_ble_eq_true rfl) ⟨(Nat.le_of_ble_eq_true rfl), (Nat.le_of_ble_eq_true rfl)⟩ dX5_init_9 (fun ad11_ Ez12 hj13 hk14 hl15 hX16_ hp17 => ?_)
  have hd18 : ad11_ (0) = a0 := (hj13 (0) (by first | decide | omega)).trans hd7
  have f20 : Ez12 (0) = .inr (5, [.null, .null, .null, .null, .null, .int (nI (0)), .int (nI (0)), .int (nI (0)), .int (nI (0)), .int (nI (0)), .int (nI (0)), .int (nI (0))]) := (hk14 (0) (by first | decide | omega)).trans f9
  obtain ⟨a21_, hd22⟩ : ∃ q : Nat, ad11_ (2) = q := ⟨_, rfl⟩
  obtain ⟨a23_, hd24⟩ : ∃ q : Nat, ad11_ (3) = q := ⟨_, rfl⟩
  have f25 : Ez12 (1) = .inr (0, [.ref a21_, .ref a23_]) := by rw [← hd22, ← hd24]; exact hp17.1
  have f26 : Ez12 (2) = aI cI 27 wdI := hp17.2.1
  have f27 : Ez12 (3) = aI cI 162 (dq 26 0) := hp17.2.2
  refine z_putF C (0) (Cn := RX5) (T := TX5) (N := 12) (fi := 0) tyX5 iw_X5_init_5 tyX5_ok nmX5 rfl (by decide) ln_X5_init_12 hX16_ (by first | decide | omega) hd18 f20 rfl hnm rfl rfl rfl rfl (Nat.le_of_ble_eq_true rfl) dX5_init_12 (fun Ez29 hE28 => ?_)
  have f31 : Ez29 (1) = .inr (0, [.ref (a21_), .ref (a23_)]) := va_up_of hE28 (by first | decide | omega) f25
  have f32 : Ez29 (2) = aI cI 27 wdI := va_up_of hE28 (by first | decide | omega) f26
  have f33 : Ez29 (3) = aI cI 162 (dq 26 0) := va_up_of hE28 (by first | decide | omega) f27
  have f34 : Ez29 (0) = .inr (5, [.ref (a1_), .null, .null, .null, .null, .int (nI (0)), .int (nI (0)), .int (nI (0)), .int (nI (0)), .int (nI (0)), .int (nI (0)), .int (nI (0))]) := va_up_eq hE28
  refine z_aload_n C dX5_init_15 rfl ?_
  refine z_new (ci := 4) (Cn := RX4) (T := TX4) (N := 2) C [.null, .int (nI (0))] tyX4 iw_X5_init_4 tyX4_ok (by decide +kernel) (by decide +kernel) (by decide +kernel) hX16_ hA rfl fsX4 (Nat.le_of_ble_eq_true rfl) (Nat.le_of_ble_eq_true rfl) dX5_init_16 (fun a35_ ad36_ Ez37 had38 hE39 hX40_ => ?_)
  have hd41 : ad36_ (0) = a0 := va_up_of had38 (by first | decide | omega) hd18
  have hd42 : ad36_ (1) = a1_ := va_up_of had38 (by first | decide | omega) hl15
  have hd43 : ad36_ (2) = a21_ := va_up_of had38 (by first | decide | omega) hd22
  have hd44 : ad36_ (3) = a23_ := va_up_of had38 (by first | decide | omega) hd24
  have hd45 : ad36_ (4) = a35_ := va_up_eq had38
  have f46 : Ez37 (1) = .inr (0, [.ref (a21_), .ref (a23_)]) := va_up_of hE39 (by first | decide | omega) f31
  have f47 : Ez37 (2) = aI cI 27 wdI := va_up_of hE39 (by first | decide | omega) f32
  have f48 : Ez37 (3) = aI cI 162 (dq 26 0) := va_up_of hE39 (by first | decide | omega) f33
  have f49 : Ez37 (0) = .inr (5, [.ref (a1_), .null, .null, .null, .null, .int (nI (0)), .int (nI (0)), .int (nI (0)), .int (nI (0)), .int (nI (0)), .int (nI (0)), .int (nI (0))]) := va_up_of hE39 (by first | decide | omega) f34
  have f50 : Ez37 (4) = .inr (4, [.null, .int (nI (0))]) := va_up_eq hE39
  refine z_dup C dX5_init_19 rfl ?_
  refine z_callIN (n := 4) C hao hA (k_X4_init vl D cI cM) ⟨va_cnB (host := "MarqueeDisplay") 0 C.2.2.2.2.1 gX5_init_X4_init_n18 rfl rfl rfl (C.2.2.2.2.2.2.1 _ (by decide +kernel)) (C.2.2.2.2.1 _ (by decide +kernel)) (by decide +kernel) ⟨(Nat.le_of_ble_eq_true rfl), (Nat.le_of_ble_eq_true rfl)⟩, rfl, C.2.2.2.2.1 _ (by decide +kernel)⟩ hX40_ hd45 f50 (Nat.le_of_ble_eq_true rfl) ⟨(Nat.le_of_ble_eq_true rfl), (Nat.le_of_ble_eq_true rfl)⟩ dX5_init_20 (fun ad51_ Ez52 hj53 hk54 hl55 hX56_ hp57 => ?_)
  have hd58 : ad51_ (0) = a0 := (hj53 (0) (by first | decide | omega)).trans hd41
  have hd59 : ad51_ (1) = a1_ := (hj53 (1) (by first | decide | omega)).trans hd42
  have hd60 : ad51_ (2) = a21_ := (hj53 (2) (by first | decide | omega)).trans hd43
  have hd61 : ad51_ (3) = a23_ := (hj53 (3) (by first | decide | omega)).trans hd44
  have f63 : Ez52 (1) = .inr (0, [.ref (a21_), .ref (a23_)]) := (hk54 (1) (by first | decide | omega)).trans f46
  have f64 : Ez52 (2) = aI cI 27 wdI := (hk54 (2) (by first | decide | omega)).trans f47
  have f65 : Ez52 (3) = aI cI 162 (dq 26 0) := (hk54 (3) (by first | decide | omega)).trans f48
  have f66 : Ez52 (0) = .inr (5, [.ref (a1_), .null, .null, .null, .null, .int (nI (0)), .int (nI (0)), .int (nI (0)), .int (nI (0)), .int (nI (0)), .int (nI (0)), .int (nI (0))]) := (hk54 (0) (by first | decide | omega)).trans f49
  obtain ⟨a67_, hd68⟩ : ∃ q : Nat, ad51_ (5) = q := ⟨_, rfl⟩
  have f69 : Ez52 (4) = .inr (4, [.ref a67_, .int (nI (0))]) := by rw [← hd68]; exact hp57.1
  have f70 : Ez52 (5) = aI cI 12 (fun _ => 0) := hp57.2
  refine z_putF C (0) (Cn := RX5) (T := TX5) (N := 12) (fi := 1) tyX5 iw_X5_init_5 tyX5_ok nmX5 rfl (by decide) ln_X5_init_19 hX56_ (by first | decide | omega) hd58 f66 rfl hnm rfl rfl rfl rfl (Nat.le_of_ble_eq_true rfl) dX5_init_23 (fun Ez72 hE71 => ?_)
  have f73 : Ez72 (1) = .inr (0, [.ref (a21_), .ref (a23_)]) := va_up_of hE71 (by first | decide | omega) f63
  have f74 : Ez72 (2) = aI cI 27 wdI := va_up_of hE71 (by first | decide | omega) f64
  have f75 : Ez72 (3) = aI cI 162 (dq 26 0) := va_up_of hE71 (by first | decide | omega) f65
  have f77 : Ez72 (4) = .inr (4, [.ref (a67_), .int (nI (0))]) := va_up_of hE71 (by first | decide | omega) f69
  have f78 : Ez72 (5) = aI cI 12 (fun _ => 0) := va_up_of hE71 (by first | decide | omega) f70
  have f79 : Ez72 (0) = .inr (5, [.ref (a1_), .ref (a35_), .null, .null, .null, .int (nI (0)), .int (nI (0)), .int (nI (0)), .int (nI (0)), .int (nI (0)), .int (nI (0)), .int (nI (0))]) := va_up_eq hE71
  refine z_aload_n C dX5_init_26 rfl ?_
  refine z_new (ci := 2) (Cn := RX2) (T := TX2) (N := 2) C [.null, .int (nI (0))] tyX2 iw_X5_init_2 tyX2_ok (by decide +kernel) (by decide +kernel) (by decide +kernel) hX56_ hA rfl fsX2 (Nat.le_of_ble_eq_true rfl) (Nat.le_of_ble_eq_true rfl) dX5_init_27 (fun a80_ ad81_ Ez82 had83 hE84 hX85_ => ?_)
  have hd86 : ad81_ (0) = a0 := va_up_of had83 (by first | decide | omega) hd58
  have hd87 : ad81_ (1) = a1_ := va_up_of had83 (by first | decide | omega) hd59
  have hd88 : ad81_ (2) = a21_ := va_up_of had83 (by first | decide | omega) hd60
  have hd89 : ad81_ (3) = a23_ := va_up_of had83 (by first | decide | omega) hd61
  have hd90 : ad81_ (4) = a35_ := va_up_of had83 (by first | decide | omega) hl55
  have hd91 : ad81_ (5) = a67_ := va_up_of had83 (by first | decide | omega) hd68
  have hd92 : ad81_ (6) = a80_ := va_up_eq had83
  have f93 : Ez82 (1) = .inr (0, [.ref (a21_), .ref (a23_)]) := va_up_of hE84 (by first | decide | omega) f73
  have f94 : Ez82 (2) = aI cI 27 wdI := va_up_of hE84 (by first | decide | omega) f74
  have f95 : Ez82 (3) = aI cI 162 (dq 26 0) := va_up_of hE84 (by first | decide | omega) f75
  have f96 : Ez82 (4) = .inr (4, [.ref (a67_), .int (nI (0))]) := va_up_of hE84 (by first | decide | omega) f77
  have f97 : Ez82 (5) = aI cI 12 (fun _ => 0) := va_up_of hE84 (by first | decide | omega) f78
  have f98 : Ez82 (0) = .inr (5, [.ref (a1_), .ref (a35_), .null, .null, .null, .int (nI (0)), .int (nI (0)), .int (nI (0)), .int (nI (0)), .int (nI (0)), .int (nI (0)), .int (nI (0))]) := va_up_of hE84 (by first | decide | omega) f79
  have f99 : Ez82 (6) = .inr (2, [.null, .int (nI (0))]) := va_up_eq hE84
  refine z_dup C dX5_init_30 rfl ?_
  refine z_callI (n := 6) C hao hA (k_X2_init vl D cI cM) (cwI 0 C.2.2.2.2.1 gX5_init_X2_init rfl rfl rfl (C.2.2.2.2.1 _ (by decide +kernel)) (C.2.2.2.2.1 _ (by decide +kernel)) (C.2.2.2.2.1 _ (by decide +kernel)) rfl (by decide +kernel) ⟨(Nat.le_of_ble_eq_true rfl), (Nat.le_of_ble_eq_true rfl)⟩) hX85_ hd92 f99 (Nat.le_of_ble_eq_true rfl) ⟨(Nat.le_of_ble_eq_true rfl), (Nat.le_of_ble_eq_true rfl)⟩ dX5_init_31 (fun ad100_ Ez101 hj102 hk103 hl104 hX105_ hp106 => ?_)
  have hd107 : ad100_ (0) = a0 := (hj102 (0) (by first | decide | omega)).trans hd86
  have hd108 : ad100_ (1) = a1_ := (hj102 (1) (by first | decide | omega)).trans hd87
  have hd109 : ad100_ (2) = a21_ := (hj102 (2) (by first | decide | omega)).trans hd88
  have hd110 : ad100_ (3) = a23_ := (hj102 (3) (by first | decide | omega)).trans hd89
  have hd111 : ad100_ (4) = a35_ := (hj102 (4) (by first | decide | omega)).trans hd90
  have hd112 : ad100_ (5) = a67_ := (hj102 (5) (by first | decide | omega)).trans hd91
  have f114 : Ez101 (1) = .inr (0, [.ref (a21_), .ref (a23_)]) := (hk103 (1) (by first | decide | omega)).trans f93
  have f115 : Ez101 (2) = aI cI 27 wdI := (hk103 (2) (by first | decide | omega)).trans f94
  have f116 : Ez101 (3) = aI cI 162 (dq 26 0) := (hk103 (3) (by first | decide | omega)).trans f95
  have f117 : Ez101 (4) = .inr (4, [.ref (a67_), .int (nI (0))]) := (hk103 (4) (by first | decide | omega)).trans f96
  have f118 : Ez101 (5) = aI cI 12 (fun _ => 0) := (hk103 (5) (by first | decide | omega)).trans f97
  have f119 : Ez101 (0) = .inr (5, [.ref (a1_), .ref (a35_), .null, .null, .null, .int (nI (0)), .int (nI (0)), .int (nI (0)), .int (nI (0)), .int (nI (0)), .int (nI (0)), .int (nI (0))]) := (hk103 (0) (by first | decide | omega)).trans f98
  obtain ⟨a120_, hd121⟩ : ∃ q : Nat, ad100_ (7) = q := ⟨_, rfl⟩
  have f122 : Ez101 (6) = .inr (2, [.ref a120_, .int (nI (0))]) := by rw [← hd121]; exact hp106.1
  have hsl0 : Ez101 (7) = .inl (cM, 6, .inr (.inr (.inr (.inr (fun i => some (ad100_ (6 + (2 + 3 * i)))))))) := hp106.2.1
  have hmb0 : ∀ i, i < 6 → MB cI ad100_ Ez101 (8 + 3 * i) := fun i hi => by rw [show 8 + 3 * i = 6 + (2 + 3 * i) by omega]; exact hp106.2.2 i hi
  refine z_putF C (0) (Cn := RX5) (T := TX5) (N := 12) (fi := 2) tyX5 iw_X5_init_5 tyX5_ok nmX5 rfl (by decide) ln_X5_init_26 hX105_ (by first | decide | omega) hd107 f119 rfl hnm rfl rfl rfl rfl (Nat.le_of_ble_eq_true rfl) dX5_init_34 (fun Ez124 hE123 => ?_)
  have f125 : Ez124 (1) = .inr (0, [.ref (a21_), .ref (a23_)]) := va_up_of hE123 (by first | decide | omega) f114
  have f126 : Ez124 (2) = aI cI 27 wdI := va_up_of hE123 (by first | decide | omega) f115
  have f127 : Ez124 (3) = aI cI 162 (dq 26 0) := va_up_of hE123 (by first | decide | omega) f116
  have f128 : Ez124 (4) = .inr (4, [.ref (a67_), .int (nI (0))]) := va_up_of hE123 (by first | decide | omega) f117
  have f129 : Ez124 (5) = aI cI 12 (fun _ => 0) := va_up_of hE123 (by first | decide | omega) f118
  have f131 : Ez124 (6) = .inr (2, [.ref (a120_), .int (nI (0))]) := va_up_of hE123 (by first | decide | omega) f122
  have f132 : Ez124 (0) = .inr (5, [.ref (a1_), .ref (a35_), .ref (a80_), .null, .null, .int (nI (0)), .int (nI (0)), .int (nI (0)), .int (nI (0)), .int (nI (0)), .int (nI (0)), .int (nI (0))]) := va_up_eq hE123
  have g133 : ∀ k : Nat, (7 ≤ k ∧ k < 26) → Ez124 k = Ez101 k := fun k hk => va_up_of hE123 (by omega) ((fun _ _ => rfl) k hk)
  refine z_aload_n C dX5_init_37 rfl ?_
  refine z_new (ci := 3) (Cn := RX3) (T := TX3) (N := 3) C [.null, .null, .int (nI (0))] tyX3 iw_X5_init_3 tyX3_ok (by decide +kernel) (by decide +kernel) (by decide +kernel) hX105_ hA rfl fsX3 (Nat.le_of_ble_eq_true rfl) (Nat.le_of_ble_eq_true rfl) dX5_init_38 (fun a134_ ad135_ Ez136 had137 hE138 hX139_ => ?_)
  have hd140 : ad135_ (0) = a0 := va_up_of had137 (by first | decide | omega) hd107
  have hd141 : ad135_ (1) = a1_ := va_up_of had137 (by first | decide | omega) hd108
  have hd142 : ad135_ (2) = a21_ := va_up_of had137 (by first | decide | omega) hd109
  have hd143 : ad135_ (3) = a23_ := va_up_of had137 (by first | decide | omega) hd110
  have hd144 : ad135_ (4) = a35_ := va_up_of had137 (by first | decide | omega) hd111
  have hd145 : ad135_ (5) = a67_ := va_up_of had137 (by first | decide | omega) hd112
  have hd146 : ad135_ (6) = a80_ := va_up_of had137 (by first | decide | omega) hl104
  have hd147 : ad135_ (7) = a120_ := va_up_of had137 (by first | decide | omega) hd121
  have hd148 : ad135_ (26) = a134_ := va_up_eq had137
  have ga149 : ∀ k : Nat, (k < 26) → ad135_ k = ad100_ k := fun k hk => va_up_of had137 (by omega) ((fun _ _ => rfl) k hk)
  have f150 : Ez136 (1) = .inr (0, [.ref (a21_), .ref (a23_)]) := va_up_of hE138 (by first | decide | omega) f125
  have f151 : Ez136 (2) = aI cI 27 wdI := va_up_of hE138 (by first | decide | omega) f126
  have f152 : Ez136 (3) = aI cI 162 (dq 26 0) := va_up_of hE138 (by first | decide | omega) f127
  have f153 : Ez136 (4) = .inr (4, [.ref (a67_), .int (nI (0))]) := va_up_of hE138 (by first | decide | omega) f128
  have f154 : Ez136 (5) = aI cI 12 (fun _ => 0) := va_up_of hE138 (by first | decide | omega) f129
  have f155 : Ez136 (6) = .inr (2, [.ref (a120_), .int (nI (0))]) := va_up_of hE138 (by first | decide | omega) f131
  have f156 : Ez136 (0) = .inr (5, [.ref (a1_), .ref (a35_), .ref (a80_), .null, .null, .int (nI (0)), .int (nI (0)), .int (nI (0)), .int (nI (0)), .int (nI (0)), .int (nI (0)), .int (nI (0))]) := va_up_of hE138 (by first | decide | omega) f132
  have f157 : Ez136 (26) = .inr (3, [.null, .null, .int (nI (0))]) := va_up_eq hE138
  have g158 : ∀ k : Nat, (7 ≤ k ∧ k < 26) → Ez136 k = Ez101 k := fun k hk => va_up_of hE138 (by omega) (g133 k hk)
  refine z_dup C dX5_init_41 rfl ?_
  refine z_callIN (n := 26) C hao hA (k_X3_init vl D cI cM) ⟨va_cnB (host := "MarqueeDisplay") 0 C.2.2.2.2.1 gX5_init_X3_init_n32 rfl rfl rfl (C.2.2.2.2.2.2.1 _ (by decide +kernel)) (C.2.2.2.2.1 _ (by decide +kernel)) (by decide +kernel) ⟨(Nat.le_of_ble_eq_true rfl), (Nat.le_of_ble_eq_true rfl)⟩, rfl, C.2.2.2.2.1 _ (by decide +kernel)⟩ hX139_ hd148 f157 (Nat.le_of_ble_eq_true rfl) ⟨(Nat.le_of_ble_eq_true rfl), (Nat.le_of_ble_eq_true rfl)⟩ dX5_init_42 (fun ad159_ Ez160 hj161 hk162 hl163 hX164_ hp165 => ?_)
  have hd166 : ad159_ (0) = a0 := (hj161 (0) (by first | decide | omega)).trans hd140
  have hd167 : ad159_ (1) = a1_ := (hj161 (1) (by first | decide | omega)).trans hd141
  have hd168 : ad159_ (2) = a21_ := (hj161 (2) (by first | decide | omega)).trans hd142
  have hd169 : ad159_ (3) = a23_ := (hj161 (3) (by first | decide | omega)).trans hd143
  have hd170 : ad159_ (4) = a35_ := (hj161 (4) (by first | decide | omega)).trans hd144
  have hd171 : ad159_ (5) = a67_ := (hj161 (5) (by first | decide | omega)).trans hd145
  have hd172 : ad159_ (6) = a80_ := (hj161 (6) (by first | decide | omega)).trans hd146
  have hd173 : ad159_ (7) = a120_ := (hj161 (7) (by first | decide | omega)).trans hd147
  have f175 : Ez160 (1) = .inr (0, [.ref (a21_), .ref (a23_)]) := (hk162 (1) (by first | decide | omega)).trans f150
  have f176 : Ez160 (2) = aI cI 27 wdI := (hk162 (2) (by first | decide | omega)).trans f151
  have f177 : Ez160 (3) = aI cI 162 (dq 26 0) := (hk162 (3) (by first | decide | omega)).trans f152
  have f178 : Ez160 (4) = .inr (4, [.ref (a67_), .int (nI (0))]) := (hk162 (4) (by first | decide | omega)).trans f153
  have f179 : Ez160 (5) = aI cI 12 (fun _ => 0) := (hk162 (5) (by first | decide | omega)).trans f154
  have f180 : Ez160 (6) = .inr (2, [.ref (a120_), .int (nI (0))]) := (hk162 (6) (by first | decide | omega)).trans f155
  have f181 : Ez160 (0) = .inr (5, [.ref (a1_), .ref (a35_), .ref (a80_), .null, .null, .int (nI (0)), .int (nI (0)), .int (nI (0)), .int (nI (0)), .int (nI (0)), .int (nI (0)), .int (nI (0))]) := (hk162 (0) (by first | decide | omega)).trans f156
  have ga182 : ∀ k : Nat, (k < 26) → ad159_ k = ad100_ k := fun k hk => (hj161 k (by omega)).trans (ga149 k hk)
  have g183 : ∀ k : Nat, (7 ≤ k ∧ k < 26) → Ez160 k = Ez101 k := fun k hk => (hk162 k (by omega)).trans (g158 k hk)
  obtain ⟨a184_, hd185⟩ : ∃ q : Nat, ad159_ (27) = q := ⟨_, rfl⟩
  obtain ⟨a186_, hd187⟩ : ∃ q : Nat, ad159_ (28) = q := ⟨_, rfl⟩
  have f188 : Ez160 (26) = .inr (3, [.ref a184_, .ref a186_, .int (nI (0))]) := by rw [← hd185, ← hd187]; exact hp165.1
  have f189 : Ez160 (27) = aI cI 552 (fun _ => 0) := hp165.2.1
  have f190 : Ez160 (28) = aI cI 552 (fun _ => 0) := hp165.2.2
  refine z_putF C (0) (Cn := RX5) (T := TX5) (N := 12) (fi := 3) tyX5 iw_X5_init_5 tyX5_ok nmX5 rfl (by decide) ln_X5_init_33 hX164_ (by first | decide | omega) hd166 f181 rfl hnm rfl rfl rfl rfl (Nat.le_of_ble_eq_true rfl) dX5_init_45 (fun Ez192 hE191 => ?_)
  have f193 : Ez192 (1) = .inr (0, [.ref (a21_), .ref (a23_)]) := va_up_of hE191 (by first | decide | omega) f175
  have f194 : Ez192 (2) = aI cI 27 wdI := va_up_of hE191 (by first | decide | omega) f176
  have f195 : Ez192 (3) = aI cI 162 (dq 26 0) := va_up_of hE191 (by first | decide | omega) f177
  have f196 : Ez192 (4) = .inr (4, [.ref (a67_), .int (nI (0))]) := va_up_of hE191 (by first | decide | omega) f178
  have f197 : Ez192 (5) = aI cI 12 (fun _ => 0) := va_up_of hE191 (by first | decide | omega) f179
  have f198 : Ez192 (6) = .inr (2, [.ref (a120_), .int (nI (0))]) := va_up_of hE191 (by first | decide | omega) f180
  have f200 : Ez192 (26) = .inr (3, [.ref (a184_), .ref (a186_), .int (nI (0))]) := va_up_of hE191 (by first | decide | omega) f188
  have f201 : Ez192 (27) = aI cI 552 (fun _ => 0) := va_up_of hE191 (by first | decide | omega) f189
  have f202 : Ez192 (28) = aI cI 552 (fun _ => 0) := va_up_of hE191 (by first | decide | omega) f190
  have f203 : Ez192 (0) = .inr (5, [.ref (a1_), .ref (a35_), .ref (a80_), .ref (a134_), .null, .int (nI (0)), .int (nI (0)), .int (nI (0)), .int (nI (0)), .int (nI (0)), .int (nI (0)), .int (nI (0))]) := va_up_eq hE191
  have g204 : ∀ k : Nat, (7 ≤ k ∧ k < 26) → Ez192 k = Ez101 k := fun k hk => va_up_of hE191 (by omega) (g183 k hk)
  refine z_aload_n C dX5_init_48 rfl ?_
  refine z_bipush C (nI (32)) dX5_init_49 (by decide) ?_
  refine z_newa C (by decide +kernel) hX164_ hA (Nat.le_of_ble_eq_true rfl) (Nat.le_of_ble_eq_true rfl) (Nat.le_of_ble_eq_true rfl) (Nat.le_of_ble_eq_true rfl) dX5_init_51 (fun a205_ ad206_ Ez207 had208 hE209 hX210_ => ?_)
  have hd211 : ad206_ (0) = a0 := va_up_of had208 (by first | decide | omega) hd166
  have hd212 : ad206_ (1) = a1_ := va_up_of had208 (by first | decide | omega) hd167
  have hd213 : ad206_ (2) = a21_ := va_up_of had208 (by first | decide | omega) hd168
  have hd214 : ad206_ (3) = a23_ := va_up_of had208 (by first | decide | omega) hd169
  have hd215 : ad206_ (4) = a35_ := va_up_of had208 (by first | decide | omega) hd170
  have hd216 : ad206_ (5) = a67_ := va_up_of had208 (by first | decide | omega) hd171
  have hd217 : ad206_ (6) = a80_ := va_up_of had208 (by first | decide | omega) hd172
  have hd218 : ad206_ (7) = a120_ := va_up_of had208 (by first | decide | omega) hd173
  have hd219 : ad206_ (26) = a134_ := va_up_of had208 (by first | decide | omega) hl163
  have hd220 : ad206_ (27) = a184_ := va_up_of had208 (by first | decide | omega) hd185
  have hd221 : ad206_ (28) = a186_ := va_up_of had208 (by first | decide | omega) hd187
  have hd222 : ad206_ (29) = a205_ := va_up_eq had208
  have ga223 : ∀ k : Nat, (k < 26) → ad206_ k = ad100_ k := fun k hk => va_up_of had208 (by omega) (ga182 k hk)
  have f224 : Ez207 (1) = .inr (0, [.ref (a21_), .ref (a23_)]) := va_up_of hE209 (by first | decide | omega) f193
  have f225 : Ez207 (2) = aI cI 27 wdI := va_up_of hE209 (by first | decide | omega) f194
  have f226 : Ez207 (3) = aI cI 162 (dq 26 0) := va_up_of hE209 (by first | decide | omega) f195
  have f227 : Ez207 (4) = .inr (4, [.ref (a67_), .int (nI (0))]) := va_up_of hE209 (by first | decide | omega) f196
  have f228 : Ez207 (5) = aI cI 12 (fun _ => 0) := va_up_of hE209 (by first | decide | omega) f197
  have f229 : Ez207 (6) = .inr (2, [.ref (a120_), .int (nI (0))]) := va_up_of hE209 (by first | decide | omega) f198
  have f230 : Ez207 (26) = .inr (3, [.ref (a184_), .ref (a186_), .int (nI (0))]) := va_up_of hE209 (by first | decide | omega) f200
  have f231 : Ez207 (27) = aI cI 552 (fun _ => 0) := va_up_of hE209 (by first | decide | omega) f201
  have f232 : Ez207 (28) = aI cI 552 (fun _ => 0) := va_up_of hE209 (by first | decide | omega) f202
  have f233 : Ez207 (0) = .inr (5, [.ref (a1_), .ref (a35_), .ref (a80_), .ref (a134_), .null, .int (nI (0)), .int (nI (0)), .int (nI (0)), .int (nI (0)), .int (nI (0)), .int (nI (0)), .int (nI (0))]) := va_up_of hE209 (by first | decide | omega) f203
  have f234 : Ez207 (29) = aI cI 32 (fun _ => 0) := va_up_eq hE209
  have g235 : ∀ k : Nat, (7 ≤ k ∧ k < 26) → Ez207 k = Ez101 k := fun k hk => va_up_of hE209 (by omega) (g204 k hk)
  refine z_putF C (0) (Cn := RX5) (T := TX5) (N := 12) (fi := 4) tyX5 iw_X5_init_5 tyX5_ok nmX5 rfl (by decide) ln_X5_init_37 hX210_ (by first | decide | omega) hd211 f233 rfl hnm rfl rfl rfl rfl (Nat.le_of_ble_eq_true rfl) dX5_init_53 (fun Ez237 hE236 => ?_)
  have f238 : Ez237 (1) = .inr (0, [.ref (a21_), .ref (a23_)]) := va_up_of hE236 (by first | decide | omega) f224
  have f239 : Ez237 (2) = aI cI 27 wdI := va_up_of hE236 (by first | decide | omega) f225
  have f240 : Ez237 (3) = aI cI 162 (dq 26 0) := va_up_of hE236 (by first | decide | omega) f226
  have f241 : Ez237 (4) = .inr (4, [.ref (a67_), .int (nI (0))]) := va_up_of hE236 (by first | decide | omega) f227
  have f242 : Ez237 (5) = aI cI 12 (fun _ => 0) := va_up_of hE236 (by first | decide | omega) f228
  have f243 : Ez237 (6) = .inr (2, [.ref (a120_), .int (nI (0))]) := va_up_of hE236 (by first | decide | omega) f229
  have f244 : Ez237 (26) = .inr (3, [.ref (a184_), .ref (a186_), .int (nI (0))]) := va_up_of hE236 (by first | decide | omega) f230
  have f245 : Ez237 (27) = aI cI 552 (fun _ => 0) := va_up_of hE236 (by first | decide | omega) f231
  have f246 : Ez237 (28) = aI cI 552 (fun _ => 0) := va_up_of hE236 (by first | decide | omega) f232
  have f248 : Ez237 (29) = aI cI 32 (fun _ => 0) := va_up_of hE236 (by first | decide | omega) f234
  have f249 : Ez237 (0) = .inr (5, [.ref (a1_), .ref (a35_), .ref (a80_), .ref (a134_), .ref (a205_), .int (nI (0)), .int (nI (0)), .int (nI (0)), .int (nI (0)), .int (nI (0)), .int (nI (0)), .int (nI (0))]) := va_up_eq hE236
  have g250 : ∀ k : Nat, (7 ≤ k ∧ k < 26) → Ez237 k = Ez101 k := fun k hk => va_up_of hE236 (by omega) (g235 k hk)
  refine z_aload_n C dX5_init_56 rfl ?_
  refine z_bipush C (nI (16)) dX5_init_57 (by decide) ?_
  refine z_put C (0) (Cn := RX5) (T := TX5) (N := 12) (fi := 5) tyX5 iw_X5_init_5 tyX5_ok nmX5 rfl (by decide) ln_X5_init_41 hX210_ (by first | decide | omega) hd211 f249 rfl rfl rfl rfl (Nat.le_of_ble_eq_true rfl) dX5_init_59 (fun Ez252 hE251 => ?_)
  have f253 : Ez252 (1) = .inr (0, [.ref (a21_), .ref (a23_)]) := va_up_of hE251 (by first | decide | omega) f238
  have f254 : Ez252 (2) = aI cI 27 wdI := va_up_of hE251 (by first | decide | omega) f239
  have f255 : Ez252 (3) = aI cI 162 (dq 26 0) := va_up_of hE251 (by first | decide | omega) f240
  have f256 : Ez252 (4) = .inr (4, [.ref (a67_), .int (nI (0))]) := va_up_of hE251 (by first | decide | omega) f241
  have f257 : Ez252 (5) = aI cI 12 (fun _ => 0) := va_up_of hE251 (by first | decide | omega) f242
  have f258 : Ez252 (6) = .inr (2, [.ref (a120_), .int (nI (0))]) := va_up_of hE251 (by first | decide | omega) f243
  have f259 : Ez252 (26) = .inr (3, [.ref (a184_), .ref (a186_), .int (nI (0))]) := va_up_of hE251 (by first | decide | omega) f244
  have f260 : Ez252 (27) = aI cI 552 (fun _ => 0) := va_up_of hE251 (by first | decide | omega) f245
  have f261 : Ez252 (28) = aI cI 552 (fun _ => 0) := va_up_of hE251 (by first | decide | omega) f246
  have f262 : Ez252 (29) = aI cI 32 (fun _ => 0) := va_up_of hE251 (by first | decide | omega) f248
  have f264 : Ez252 (0) = .inr (5, [.ref (a1_), .ref (a35_), .ref (a80_), .ref (a134_), .ref (a205_), .int (nI (16)), .int (nI (0)), .int (nI (0)), .int (nI (0)), .int (nI (0)), .int (nI (0)), .int (nI (0))]) := va_up_eq hE251
  have g265 : ∀ k : Nat, (7 ≤ k ∧ k < 26) → Ez252 k = Ez101 k := fun k hk => va_up_of hE251 (by omega) (g250 k hk)
  refine z_aload_n C dX5_init_62 rfl ?_
  refine z_iconst C (nI (4)) dX5_init_63 (by decide) ?_
  refine z_put C (0) (Cn := RX5) (T := TX5) (N := 12) (fi := 6) tyX5 iw_X5_init_5 tyX5_ok nmX5 rfl (by decide) ln_X5_init_45 hX210_ (by first | decide | omega) hd211 f264 rfl rfl rfl rfl (Nat.le_of_ble_eq_true rfl) dX5_init_64 (fun Ez267 hE266 => ?_)
  have f268 : Ez267 (1) = .inr (0, [.ref (a21_), .ref (a23_)]) := va_up_of hE266 (by first | decide | omega) f253
  have f269 : Ez267 (2) = aI cI 27 wdI := va_up_of hE266 (by first | decide | omega) f254
  have f270 : Ez267 (3) = aI cI 162 (dq 26 0) := va_up_of hE266 (by first | decide | omega) f255
  have f271 : Ez267 (4) = .inr (4, [.ref (a67_), .int (nI (0))]) := va_up_of hE266 (by first | decide | omega) f256
  have f272 : Ez267 (5) = aI cI 12 (fun _ => 0) := va_up_of hE266 (by first | decide | omega) f257
  have f273 : Ez267 (6) = .inr (2, [.ref (a120_), .int (nI (0))]) := va_up_of hE266 (by first | decide | omega) f258
  have f274 : Ez267 (26) = .inr (3, [.ref (a184_), .ref (a186_), .int (nI (0))]) := va_up_of hE266 (by first | decide | omega) f259
  have f275 : Ez267 (27) = aI cI 552 (fun _ => 0) := va_up_of hE266 (by first | decide | omega) f260
  have f276 : Ez267 (28) = aI cI 552 (fun _ => 0) := va_up_of hE266 (by first | decide | omega) f261
  have f277 : Ez267 (29) = aI cI 32 (fun _ => 0) := va_up_of hE266 (by first | decide | omega) f262
  have f279 : Ez267 (0) = .inr (5, [.ref (a1_), .ref (a35_), .ref (a80_), .ref (a134_), .ref (a205_), .int (nI (16)), .int (nI (4)), .int (nI (0)), .int (nI (0)), .int (nI (0)), .int (nI (0)), .int (nI (0))]) := va_up_eq hE266
  have g280 : ∀ k : Nat, (7 ≤ k ∧ k < 26) → Ez267 k = Ez101 k := fun k hk => va_up_of hE266 (by omega) (g265 k hk)
  refine z_aload_n C dX5_init_67 rfl ?_
  refine z_iconst C (nI (2)) dX5_init_68 (by decide) ?_
  refine z_put C (0) (Cn := RX5) (T := TX5) (N := 12) (fi := 7) tyX5 iw_X5_init_5 tyX5_ok nmX5 rfl (by decide) ln_X5_init_48 hX210_ (by first | decide | omega) hd211 f279 rfl rfl rfl rfl (Nat.le_of_ble_eq_true rfl) dX5_init_69 (fun Ez282 hE281 => ?_)
  have f283 : Ez282 (1) = .inr (0, [.ref (a21_), .ref (a23_)]) := va_up_of hE281 (by first | decide | omega) f268
  have f284 : Ez282 (2) = aI cI 27 wdI := va_up_of hE281 (by first | decide | omega) f269
  have f285 : Ez282 (3) = aI cI 162 (dq 26 0) := va_up_of hE281 (by first | decide | omega) f270
  have f286 : Ez282 (4) = .inr (4, [.ref (a67_), .int (nI (0))]) := va_up_of hE281 (by first | decide | omega) f271
  have f287 : Ez282 (5) = aI cI 12 (fun _ => 0) := va_up_of hE281 (by first | decide | omega) f272
  have f288 : Ez282 (6) = .inr (2, [.ref (a120_), .int (nI (0))]) := va_up_of hE281 (by first | decide | omega) f273
  have f289 : Ez282 (26) = .inr (3, [.ref (a184_), .ref (a186_), .int (nI (0))]) := va_up_of hE281 (by first | decide | omega) f274
  have f290 : Ez282 (27) = aI cI 552 (fun _ => 0) := va_up_of hE281 (by first | decide | omega) f275
  have f291 : Ez282 (28) = aI cI 552 (fun _ => 0) := va_up_of hE281 (by first | decide | omega) f276
  have f292 : Ez282 (29) = aI cI 32 (fun _ => 0) := va_up_of hE281 (by first | decide | omega) f277
  have f294 : Ez282 (0) = .inr (5, [.ref (a1_), .ref (a35_), .ref (a80_), .ref (a134_), .ref (a205_), .int (nI (16)), .int (nI (4)), .int (nI (2)), .int (nI (0)), .int (nI (0)), .int (nI (0)), .int (nI (0))]) := va_up_eq hE281
  have g295 : ∀ k : Nat, (7 ≤ k ∧ k < 26) → Ez282 k = Ez101 k := fun k hk => va_up_of hE281 (by omega) (g280 k hk)
  refine z_aload_n C dX5_init_72 rfl ?_
  refine z_iconst C (nI (0)) dX5_init_73 (by decide) ?_
  refine z_put C (0) (Cn := RX5) (T := TX5) (N := 12) (fi := 8) tyX5 iw_X5_init_5 tyX5_ok nmX5 rfl (by decide) ln_X5_init_51 hX210_ (by first | decide | omega) hd211 f294 rfl rfl rfl rfl (Nat.le_of_ble_eq_true rfl) dX5_init_74 (fun Ez297 hE296 => ?_)
  have f298 : Ez297 (1) = .inr (0, [.ref (a21_), .ref (a23_)]) := va_up_of hE296 (by first | decide | omega) f283
  have f299 : Ez297 (2) = aI cI 27 wdI := va_up_of hE296 (by first | decide | omega) f284
  have f300 : Ez297 (3) = aI cI 162 (dq 26 0) := va_up_of hE296 (by first | decide | omega) f285
  have f301 : Ez297 (4) = .inr (4, [.ref (a67_), .int (nI (0))]) := va_up_of hE296 (by first | decide | omega) f286
  have f302 : Ez297 (5) = aI cI 12 (fun _ => 0) := va_up_of hE296 (by first | decide | omega) f287
  have f303 : Ez297 (6) = .inr (2, [.ref (a120_), .int (nI (0))]) := va_up_of hE296 (by first | decide | omega) f288
  have f304 : Ez297 (26) = .inr (3, [.ref (a184_), .ref (a186_), .int (nI (0))]) := va_up_of hE296 (by first | decide | omega) f289
  have f305 : Ez297 (27) = aI cI 552 (fun _ => 0) := va_up_of hE296 (by first | decide | omega) f290
  have f306 : Ez297 (28) = aI cI 552 (fun _ => 0) := va_up_of hE296 (by first | decide | omega) f291
  have f307 : Ez297 (29) = aI cI 32 (fun _ => 0) := va_up_of hE296 (by first | decide | omega) f292
  have f309 : Ez297 (0) = .inr (5, [.ref (a1_), .ref (a35_), .ref (a80_), .ref (a134_), .ref (a205_), .int (nI (16)), .int (nI (4)), .int (nI (2)), .int (nI (0)), .int (nI (0)), .int (nI (0)), .int (nI (0))]) := va_up_eq hE296
  have g310 : ∀ k : Nat, (7 ≤ k ∧ k < 26) → Ez297 k = Ez101 k := fun k hk => va_up_of hE296 (by omega) (g295 k hk)
  refine z_aload_n C dX5_init_77 rfl ?_
  refine z_bipush C (nI (60)) dX5_init_78 (by decide) ?_
  refine z_put C (0) (Cn := RX5) (T := TX5) (N := 12) (fi := 9) tyX5 iw_X5_init_5 tyX5_ok nmX5 rfl (by decide) ln_X5_init_54 hX210_ (by first | decide | omega) hd211 f309 rfl rfl rfl rfl (Nat.le_of_ble_eq_true rfl) dX5_init_80 (fun Ez312 hE311 => ?_)
  have f313 : Ez312 (1) = .inr (0, [.ref (a21_), .ref (a23_)]) := va_up_of hE311 (by first | decide | omega) f298
  have f314 : Ez312 (2) = aI cI 27 wdI := va_up_of hE311 (by first | decide | omega) f299
  have f315 : Ez312 (3) = aI cI 162 (dq 26 0) := va_up_of hE311 (by first | decide | omega) f300
  have f316 : Ez312 (4) = .inr (4, [.ref (a67_), .int (nI (0))]) := va_up_of hE311 (by first | decide | omega) f301
  have f317 : Ez312 (5) = aI cI 12 (fun _ => 0) := va_up_of hE311 (by first | decide | omega) f302
  have f318 : Ez312 (6) = .inr (2, [.ref (a120_), .int (nI (0))]) := va_up_of hE311 (by first | decide | omega) f303
  have f319 : Ez312 (26) = .inr (3, [.ref (a184_), .ref (a186_), .int (nI (0))]) := va_up_of hE311 (by first | decide | omega) f304
  have f320 : Ez312 (27) = aI cI 552 (fun _ => 0) := va_up_of hE311 (by first | decide | omega) f305
  have f321 : Ez312 (28) = aI cI 552 (fun _ => 0) := va_up_of hE311 (by first | decide | omega) f306
  have f322 : Ez312 (29) = aI cI 32 (fun _ => 0) := va_up_of hE311 (by first | decide | omega) f307
  have f324 : Ez312 (0) = .inr (5, [.ref (a1_), .ref (a35_), .ref (a80_), .ref (a134_), .ref (a205_), .int (nI (16)), .int (nI (4)), .int (nI (2)), .int (nI (0)), .int (nI (60)), .int (nI (0)), .int (nI (0))]) := va_up_eq hE311
  have g325 : ∀ k : Nat, (7 ≤ k ∧ k < 26) → Ez312 k = Ez101 k := fun k hk => va_up_of hE311 (by omega) (g310 k hk)
  refine z_aload_n C dX5_init_83 rfl ?_
  refine z_iconst C (nI (0)) dX5_init_84 (by decide) ?_
  refine z_put C (0) (Cn := RX5) (T := TX5) (N := 12) (fi := 10) tyX5 iw_X5_init_5 tyX5_ok nmX5 rfl (by decide) ln_X5_init_57 hX210_ (by first | decide | omega) hd211 f324 rfl rfl rfl rfl (Nat.le_of_ble_eq_true rfl) dX5_init_85 (fun Ez327 hE326 => ?_)
  have f328 : Ez327 (1) = .inr (0, [.ref (a21_), .ref (a23_)]) := va_up_of hE326 (by first | decide | omega) f313
  have f329 : Ez327 (2) = aI cI 27 wdI := va_up_of hE326 (by first | decide | omega) f314
  have f330 : Ez327 (3) = aI cI 162 (dq 26 0) := va_up_of hE326 (by first | decide | omega) f315
  have f331 : Ez327 (4) = .inr (4, [.ref (a67_), .int (nI (0))]) := va_up_of hE326 (by first | decide | omega) f316
  have f332 : Ez327 (5) = aI cI 12 (fun _ => 0) := va_up_of hE326 (by first | decide | omega) f317
  have f333 : Ez327 (6) = .inr (2, [.ref (a120_), .int (nI (0))]) := va_up_of hE326 (by first | decide | omega) f318
  have f334 : Ez327 (26) = .inr (3, [.ref (a184_), .ref (a186_), .int (nI (0))]) := va_up_of hE326 (by first | decide | omega) f319
  have f335 : Ez327 (27) = aI cI 552 (fun _ => 0) := va_up_of hE326 (by first | decide | omega) f320
  have f336 : Ez327 (28) = aI cI 552 (fun _ => 0) := va_up_of hE326 (by first | decide | omega) f321
  have f337 : Ez327 (29) = aI cI 32 (fun _ => 0) := va_up_of hE326 (by first | decide | omega) f322
  have f339 : Ez327 (0) = .inr (5, [.ref (a1_), .ref (a35_), .ref (a80_), .ref (a134_), .ref (a205_), .int (nI (16)), .int (nI (4)), .int (nI (2)), .int (nI (0)), .int (nI (60)), .int (nI (0)), .int (nI (0))]) := va_up_eq hE326
  have g340 : ∀ k : Nat, (7 ≤ k ∧ k < 26) → Ez327 k = Ez101 k := fun k hk => va_up_of hE326 (by omega) (g325 k hk)
  refine z_aload_n C dX5_init_88 rfl ?_
  refine z_iconst C (nI (0)) dX5_init_89 (by decide) ?_
  refine z_put C (0) (Cn := RX5) (T := TX5) (N := 12) (fi := 11) tyX5 iw_X5_init_5 tyX5_ok nmX5 rfl (by decide) ln_X5_init_60 hX210_ (by first | decide | omega) hd211 f339 rfl rfl rfl rfl (Nat.le_of_ble_eq_true rfl) dX5_init_90 (fun Ez342 hE341 => ?_)
  have f343 : Ez342 (1) = .inr (0, [.ref (a21_), .ref (a23_)]) := va_up_of hE341 (by first | decide | omega) f328
  have f344 : Ez342 (2) = aI cI 27 wdI := va_up_of hE341 (by first | decide | omega) f329
  have f345 : Ez342 (3) = aI cI 162 (dq 26 0) := va_up_of hE341 (by first | decide | omega) f330
  have f346 : Ez342 (4) = .inr (4, [.ref (a67_), .int (nI (0))]) := va_up_of hE341 (by first | decide | omega) f331
  have f347 : Ez342 (5) = aI cI 12 (fun _ => 0) := va_up_of hE341 (by first | decide | omega) f332
  have f348 : Ez342 (6) = .inr (2, [.ref (a120_), .int (nI (0))]) := va_up_of hE341 (by first | decide | omega) f333
  have f349 : Ez342 (26) = .inr (3, [.ref (a184_), .ref (a186_), .int (nI (0))]) := va_up_of hE341 (by first | decide | omega) f334
  have f350 : Ez342 (27) = aI cI 552 (fun _ => 0) := va_up_of hE341 (by first | decide | omega) f335
  have f351 : Ez342 (28) = aI cI 552 (fun _ => 0) := va_up_of hE341 (by first | decide | omega) f336
  have f352 : Ez342 (29) = aI cI 32 (fun _ => 0) := va_up_of hE341 (by first | decide | omega) f337
  have f354 : Ez342 (0) = .inr (5, [.ref (a1_), .ref (a35_), .ref (a80_), .ref (a134_), .ref (a205_), .int (nI (16)), .int (nI (4)), .int (nI (2)), .int (nI (0)), .int (nI (60)), .int (nI (0)), .int (nI (0))]) := va_up_eq hE341
  have g355 : ∀ k : Nat, (7 ≤ k ∧ k < 26) → Ez342 k = Ez101 k := fun k hk => va_up_of hE341 (by omega) (g340 k hk)
  refine z_sameq (k0 := 7) (fun i => some (ad206_ (6 + (2 + 3 * i)))) ((g355 7 (by omega)).trans hsl0) (fun i hi => by rw [ga223 _ (by omega)]) (fun E9 hE9 => ?_)
  have f356 : E9 (1) = .inr (0, [.ref (a21_), .ref (a23_)]) := va_up_of hE9 (by decide) f343
  have f357 : E9 (2) = aI cI 27 wdI := va_up_of hE9 (by decide) f344
  have f358 : E9 (3) = aI cI 162 (dq 26 0) := va_up_of hE9 (by decide) f345
  have f359 : E9 (4) = .inr (4, [.ref (a67_), .int (nI (0))]) := va_up_of hE9 (by decide) f346
  have f360 : E9 (5) = aI cI 12 (fun _ => 0) := va_up_of hE9 (by decide) f347
  have f361 : E9 (6) = .inr (2, [.ref (a120_), .int (nI (0))]) := va_up_of hE9 (by decide) f348
  have f362 : E9 (26) = .inr (3, [.ref (a184_), .ref (a186_), .int (nI (0))]) := va_up_of hE9 (by decide) f349
  have f363 : E9 (27) = aI cI 552 (fun _ => 0) := va_up_of hE9 (by decide) f350
  have f364 : E9 (28) = aI cI 552 (fun _ => 0) := va_up_of hE9 (by decide) f351
  have f365 : E9 (29) = aI cI 32 (fun _ => 0) := va_up_of hE9 (by decide) f352
  have f366 : E9 (0) = .inr (5, [.ref (a1_), .ref (a35_), .ref (a80_), .ref (a134_), .ref (a205_), .int (nI (16)), .int (nI (4)), .int (nI (2)), .int (nI (0)), .int (nI (60)), .int (nI (0)), .int (nI (0))]) := va_up_of hE9 (by decide) f354
  have hsl9 : E9 7 = _ := va_up_eq hE9
  have g9 : ∀ k : Nat, (8 ≤ k ∧ k < 26) → E9 k = Ez101 k := fun k hk => va_up_of hE9 (by omega) (g355 k (by omega))
  exact hend _ _ _ _ dX5_init_93 hd211 hX210_ (relx_00 (by rw [hd212, hd215, hd217, hd219, hd222]; exact f366) (by rw [hd213, hd214]; exact f356) f357 f358 (by rw [hd216]; exact f359) f360 (by rw [hd218]; exact f361) hsl9 (fun i hi => (hmb0 i hi).mv (fun k hk => ga223 k (by omega)) (fun k hk => g9 k (by omega))) (by rw [hd220, hd221]; exact f362) f363 f364 f365)

def MB6 (cI : ClassId) (ad : Nat → Nat) (E : Nat → va_E) : Prop := E 0 = .inr (6, [.int (nI 16), .int (nI 4), .int (nI 2), .int (nI 0), .int (nI 60), .int (nI 0), .int (nI 0), .ref (ad 1), .ref (ad 2), .ref (ad 3), .int (nI 0), .ref (ad 4), .int (nI 0), .ref (ad 5), .ref (ad 6), .ref (ad 7), .int (nI 0), .ref (ad 8), .ref (ad 9)]) ∧ E 1 = aI cI 27 wdI ∧ E 2 = aI cI 162 (dq 26 0) ∧ E 3 = aI cI 32 (fun _ => 0) ∧ E 4 = aI cI 12 (fun _ => 0) ∧ E 5 = aI cI 6 (fun _ => 0) ∧ E 6 = aI cI 6 (fun _ => 0) ∧ E 7 = aI cI 72 (fun _ => 0) ∧ E 8 = aI cI 600 (fun _ => 0) ∧ E 9 = aI cI 600 (fun _ => 0)
