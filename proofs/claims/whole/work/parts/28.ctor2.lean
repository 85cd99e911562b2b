def sg (ad : Nat → Nat) (j : Nat) : Nat → Option Nat := fun i => if i < j then some (ad (2 + 3 * i)) else none
theorem sg_0 (ad : Nat → Nat) : sg ad 0 = fun _ => none := by funext i; unfold sg; rw [if_neg (by omega)]
theorem sg_s {ad ad1 : Nat → Nat} {j q : Nat} (h : ∀ k, k < 2 + 3 * j → ad1 k = ad k) (hq : ad1 (2 + 3 * j) = q) : va_up (sg ad j) j (some q) = sg ad1 (j + 1) := by
  funext i
  by_cases e : i = j
  · subst e; rw [va_up_self]; unfold sg; rw [if_pos (by omega), hq]
  · rw [va_up_ne _ _ e]
    unfold sg
    by_cases g : i < j
    · rw [if_pos g, if_pos (by omega), h _ (by omega)]
    · rw [if_neg g, if_neg (by omega)]
theorem iw_X2_init_2 : ∀ w ∈ wsX20, w ∈ wsX2_init := by decide +kernel
theorem ln_X2_init_11 : Cond.fieldLink RX2 11 "MarqueeDisplay$MessageList" "slots" "[LMarqueeDisplay$Message;" ∈ wsX2_init := by decide +kernel
theorem fsX1 : ∀ j, j < 4 → defaultValue (tyX1 j) = vp_V [.null, .int (nI (0)), .int (nI (0)), .int (nI (0))] j := by
  intro j hj
  rcases (show j = 0 ∨ j = 1 ∨ j = 2 ∨ j = 3 by omega) with rfl | rfl | rfl | rfl <;> rfl
theorem iw_X2_init_1 : ∀ w ∈ wsX10, w ∈ wsX2_init := by decide +kernel
set_option maxHeartbeats 4000000 in
set_option maxRecDepth 100000 in
theorem k_X2_init (vl : Launch) (D : va_G) (cI cM : ClassId) : CI vl yX2_init wsX2_init { frames := 3, cells := 19, slots := 114, locals := 52 } D cI cM 2 [.null, .int (nI (0))] 20 19 114 (fun ad1 E1 => E1 0 = .inr (2, [.ref (ad1 1), .int (nI 0)]) ∧ E1 1 = .inl (cM, 6, .inr (.inr (.inr (.inr (fun i => some (ad1 (2 + 3 * i))))))) ∧ ∀ i, i < 6 → MB cI ad1 E1 (2 + 3 * i)) := by
  refine mc_of cX2_init 2 RX2 (by decide) rfl rfl rfl (Nat.le_of_ble_eq_true rfl) ?_
  intro A vp ve vs vm va vb vt vc Q a0 ad0 E0 C hao hA hnm hX0 h0 f0 hend
  refine z_aload_n C dX2_init_0 rfl ?_
  refine z_objInit C (by decide +kernel) (by decide +kernel) (by decide +kernel) (Nat.le_of_ble_eq_true rfl) (Nat.le_of_ble_eq_true rfl) dX2_init_1 ?_
  refine z_aload_n C dX2_init_4 rfl ?_
  refine z_bipush C (nI (6)) dX2_init_5 (by decide) ?_
  refine z_newq C (by decide +kernel) hao hX0 hA (Nat.le_of_ble_eq_true rfl) (Nat.le_of_ble_eq_true rfl) (Nat.le_of_ble_eq_true rfl) (Nat.le_of_ble_eq_true rfl) dX2_init_7 (fun a1_ ad2_ Ez3 had4 hE5 hX6_ => ?_)
  have hd7 : ad2_ (0) = a0 := va_up_of had4 (by first | decide | omega) h0
  have hd8 : ad2_ (1) = a1_ := va_up_eq had4
  have f9 : Ez3 (0) = .inr (2, [.null, .int (nI (0))]) := va_up_of hE5 (by first | decide | omega) f0
  have f10 : Ez3 (1) = .inl (cM, 6, .inr (.inr (.inr (.inr (fun _ => none))))) := va_up_eq hE5
  refine z_putF C (0) (Cn := RX2) (T := TX2) (N := 2) (fi := 0) tyX2 iw_X2_init_2 tyX2_ok nmX2 rfl (by decide) ln_X2_init_11 hX6_ (by first | decide | omega) hd7 f9 rfl hnm rfl rfl rfl rfl (Nat.le_of_ble_eq_true rfl) dX2_init_10 (fun Ez12 hE11 => ?_)
  have f14 : Ez12 (1) = .inl (cM, 6, .inr (.inr (.inr (.inr (fun _ => none))))) := va_up_of hE11 (by first | decide | omega) f10
  have f15 : Ez12 (0) = .inr (2, [.ref (a1_), .int (nI (0))]) := va_up_eq hE11
  refine z_iconst C (nI (0)) dX2_init_13 (by decide) ?_
  refine z_istore_n C [(0, .ref (a0)), (1, .int (nI (0)))] dX2_init_14 (by decide) ⟨rfl, rfl, rfl, rfl, trivial⟩ ?_
  have loop15 : ∀ (fuel : Nat) (j : Nat) (ad2 : Nat → Nat) (E2 : Nat → va_E), (hj : j ≤ 6) → (h2X : XD A (2 + 3 * j) ad2) → (i0 : ad2 0 = a0) → (i1 : ad2 1 = a1_) → (q0 : E2 (0) = .inr (2, [.ref (a1_), .int (nI (0))])) → (q1 : E2 (1) = .inl (cM, 6, .inr (.inr (.inr (.inr (sg ad2 j)))))) → (hmb : ∀ i, i < j → MB cI ad2 E2 (2 + 3 * i)) → 6 - j < fuel → Z vp vl ve { frames := 3, cells := 19, slots := 114, locals := 52 } vs vm va vb vt vc 2 D A (2 + 3 * j) ad2 E2 [(0, .ref (a0)), (1, .int (nI (j)))] (1 + 3 * j) (6 + 18 * j) Q 15 [] := by
    intro fuel
    induction fuel with
    | zero => intro j ad2 E2 hj h2X i0 i1 q0 q1 hmb hlt; exact absurd hlt (Nat.not_lt_zero _)
    | succ fuel ih =>
      intro j ad2 E2 hj h2X i0 i1 q0 q1 hmb hlt
      have ih15 := ih
      refine z_iload_n C dX2_init_15 rfl ?_
      refine z_aload_n C dX2_init_16 rfl ?_
      refine z_get C (0) (Cn := RX2) (T := TX2) (N := 2) (fi := 0) iw_X2_init_2 rfl (by decide) ln_X2_init_11 (by first | decide | omega) i0 q0 rfl dX2_init_17 ?_
      refine z_alenq C (1) (by first | decide | omega) i1 q1 dX2_init_20 ?_
      refine z_icmp_geN C 43 (by omega) (by omega) dX2_init_21 (by decide) (fun h21 => ?_) (fun h21 => ?_)
      · have hj6 : j = 6 := by omega
        subst hj6
        refine z_sameq (k0 := 1) (fun i => some (ad2 (2 + 3 * i))) q1 (fun i hi => by show (if i < 6 then some (ad2 (2 + 3 * i)) else none) = _; rw [if_pos hi]) (fun E9 hE9 => ?_)
        have f9 : E9 0 = _ := va_up_of hE9 (by decide) q0
        exact hend _ _ _ _ dX2_init_43 i0 h2X ⟨by rw [i1]; exact f9, va_up_eq hE9, fun i hi => (hmb i hi).mv (fun _ _ => rfl) (fun k hk => va_up_of hE9 (by omega) rfl)⟩
      · refine z_aload_n C dX2_init_24 rfl ?_
        refine z_get C (0) (Cn := RX2) (T := TX2) (N := 2) (fi := 0) iw_X2_init_2 rfl (by decide) ln_X2_init_11 (by first | decide | omega) i0 q0 rfl dX2_init_25 ?_
        refine z_iload_n C dX2_init_28 rfl ?_
        refine z_new (ci := 1) (Cn := RX1) (T := TX1) (N := 4) C [.null, .int (nI (0)), .int (nI (0)), .int (nI (0))] tyX1 iw_X2_init_1 tyX1_ok (by decide +kernel) (by decide +kernel) (by decide +kernel) h2X hA rfl fsX1 (by show 1 + 3 * j + 1 ≤ 19; omega) (by show 6 + 18 * j + 4 ≤ 114; omega) dX2_init_29 (fun a16_ ad17_ Ez18 had19 hE20 hX21_ => ?_)
        have hd22 : ad17_ (0) = a0 := va_up_of had19 (by first | decide | omega) i0
        have hd23 : ad17_ (1) = a1_ := va_up_of had19 (by first | decide | omega) i1
        have hd24 : ad17_ (2 + 3 * j) = a16_ := va_up_eq had19
        have ga25 : ∀ k : Nat, (k < 2 + 3 * j) → ad17_ k = ad2 k := fun k hk => va_up_of had19 (by omega) ((fun _ _ => rfl) k hk)
        have f26 : Ez18 (0) = .inr (2, [.ref (a1_), .int (nI (0))]) := va_up_of hE20 (by first | decide | omega) q0
        have f27 : Ez18 (1) = .inl (cM, 6, .inr (.inr (.inr (.inr (sg ad2 j))))) := va_up_of hE20 (by first | decide | omega) q1
        have f28 : Ez18 (2 + 3 * j) = .inr (1, [.null, .int (nI (0)), .int (nI (0)), .int (nI (0))]) := va_up_eq hE20
        have g29 : ∀ k : Nat, (k < 2 + 3 * j ∧ k ≠ 1) → Ez18 k = E2 k := fun k hk => va_up_of hE20 (by omega) ((fun _ _ => rfl) k hk)
        refine z_dup C dX2_init_32 rfl ?_
        refine z_callIN (n := 2 + 3 * j) C hao hA (k_X1_init vl D cI cM) ⟨va_cnB (host := "MarqueeDisplay") 0 C.2.2.2.2.1 gX2_init_X1_init_n17 rfl rfl rfl (C.2.2.2.2.2.2.1 _ (by decide +kernel)) (C.2.2.2.2.1 _ (by decide +kernel)) (by decide +kernel) ⟨(Nat.le_of_ble_eq_true rfl), (Nat.le_of_ble_eq_true rfl)⟩, rfl, C.2.2.2.2.1 _ (by decide +kernel)⟩ hX21_ hd24 f28 (Nat.le_of_ble_eq_true rfl) ⟨(by show 1 + 3 * j + 1 + 2 ≤ 19; omega), (by show 6 + 18 * j + 4 + 14 ≤ 114; omega)⟩ dX2_init_33 (fun ad30_ Ez31 hj32 hk33 hl34 hX35_ hp36 => ?_)
        have hd37 : ad30_ (0) = a0 := (hj32 (0) (by first | decide | omega)).trans hd22
        have hd38 : ad30_ (1) = a1_ := (hj32 (1) (by first | decide | omega)).trans hd23
        have f40 : Ez31 (0) = .inr (2, [.ref (a1_), .int (nI (0))]) := (hk33 (0) (by first | decide | omega)).trans f26
        have f41 : Ez31 (1) = .inl (cM, 6, .inr (.inr (.inr (.inr (sg ad2 j))))) := (hk33 (1) (by first | decide | omega)).trans f27
        have ga42 : ∀ k : Nat, (k < 2 + 3 * j) → ad30_ k = ad2 k := fun k hk => (hj32 k (by omega)).trans (ga25 k hk)
        have g43 : ∀ k : Nat, (k < 2 + 3 * j ∧ k ≠ 1) → Ez31 k = E2 k := fun k hk => (hk33 k (by omega)).trans (g29 k hk)
        obtain ⟨a44_, hd45⟩ : ∃ q : Nat, ad30_ (2 + 3 * j + 1) = q := ⟨_, rfl⟩
        have hm47 : MB cI ad30_ Ez31 (2 + 3 * j) := hp36
        have f46 : Ez31 (2 + 3 * j) = .inr (1, [.ref a44_, .int (nI (0)), .int (nI (0)), .int (nI (0))]) := by rw [← hd45]; exact hm47.1
        refine z_astq C (1) (2 + 3 * j) hX35_ (by first | decide | omega) hd38 f41 (by first | decide | omega) hl34 f46 (by omega) (by decide) dX2_init_36 (fun Ez49 hE48 => ?_)
        have f50 : Ez49 (0) = .inr (2, [.ref (a1_), .int (nI (0))]) := va_up_of hE48 (by first | decide | omega) f40
        have f52 : Ez49 (2 + 3 * j) = .inr (1, [.ref (a44_), .int (nI (0)), .int (nI (0)), .int (nI (0))]) := va_up_of hE48 (by first | decide | omega) f46
        have f53 : Ez49 (1) = .inl (cM, 6, .inr (.inr (.inr (.inr (va_up (sg ad2 j) (j) (some a16_)))))) := va_up_eq hE48
        have g54 : ∀ k : Nat, (k < 2 + 3 * j ∧ k ≠ 1) → Ez49 k = E2 k := fun k hk => va_up_of hE48 (by omega) (g43 k hk)
        refine z_iincN (j := 1) C [(0, .ref (a0)), (1, .int (nI (j + 1)))] dX2_init_37 rfl (by decide) ⟨rfl, rfl, rfl, rfl, trivial⟩ ?_
        refine z_goto C 15 dX2_init_40 (by decide) ?_
        refine z_lv [(0, .ref (a0)), (1, .int (nI (j + 1)))] ⟨rfl, rfl, rfl, rfl, trivial⟩ ?_
        have hX9 : XD A (2 + 3 * (j + 1)) ad30_ := by rw [show 2 + 3 * (j + 1) = 2 + 3 * j + 3 by omega]; exact hX35_
        have hm9 : ∀ i, i < j + 1 → MB cI ad30_ Ez49 (2 + 3 * i) := by
          intro i hi
          by_cases e : i = j
          · subst e; exact hm47.mv (fun _ _ => rfl) (fun k hk => va_up_of hE48 (by omega) rfl)
          · exact (hmb i (by omega)).mv (fun k hk => ga42 k (by omega)) (fun k hk => g54 k (by omega))
        have q9 := ih15 (j + 1) ad30_ Ez49 (by omega) hX9 hd37 hd38 f50 (f53.trans (by rw [sg_s (ad1 := ad30_) ga42 hl34])) hm9 (by omega)
        exact q9
  refine z_lv [(0, .ref (a0)), (1, .int (nI (0)))] ⟨rfl, rfl, rfl, rfl, trivial⟩ ?_
  exact loop15 (7) 0 ad2_ Ez12 (Nat.zero_le _) hX6_ hd7 hd8 f15 (f14.trans (by rw [sg_0])) (fun i hi => absurd hi (Nat.not_lt_zero _)) (by omega)

def M00 : St := fun a => if a = 0 then (fun b => if b = 0 then 16 else if b = 1 then 4 else if b = 2 then 2 else if b = 3 then 60 else if b = 8 then 2 else 0) else if a = 1 then wdI else if a = 2 then dq 26 0 else fun _ => 0
theorem wdI_ok : ∀ c, c < 27 → 1 ≤ wdI c ∧ wdI c ≤ 6 := by decide +kernel
theorem dqI_lt : ∀ i, i < 162 → dq 26 0 i < 256 := by decide +kernel
theorem dqI_z : ∀ c, c < 27 → ∀ j, j < 6 → wdI c ≤ j → dq 26 0 (c * 6 + j) = 0 := by decide +kernel
theorem inv_00 : Inv M00 := by
  refine ⟨⟨⟨by decide, by decide⟩, by decide, ⟨by decide, by decide⟩, ⟨by decide, by decide⟩, by decide, by decide, by decide, by decide, by decide, wdI_ok, dqI_lt, dqI_z, ?_, ?_, ?_, ?_⟩, Or.inr rfl⟩
  · intro x hx; show 0 < 256; decide
  · intro x hx h; rfl
  · intro k hk; exact absurd hk (Nat.not_lt_zero _)
  · intro i hi; exact absurd hi (Nat.not_lt_zero _)
theorem strip_00 : stripM M00 = [] := rfl
theorem relx_00 {cI cM : ClassId} {ad : Nat → Nat} {E : Nat → va_E} (e0 : E 0 = .inr (5, [.ref (ad 1), .ref (ad 4), .ref (ad 6), .ref (ad 26), .ref (ad 29), .int (nI 16), .int (nI 4), .int (nI 2), .int (nI 0), .int (nI 60), .int (nI 0), .int (nI 0)])) (e1 : E 1 = .inr (0, [.ref (ad 2), .ref (ad 3)])) (e2 : E 2 = aI cI 27 wdI) (e3 : E 3 = aI cI 162 (dq 26 0)) (e4 : E 4 = .inr (4, [.ref (ad 5), .int (nI 0)])) (e5 : E 5 = aI cI 12 (fun _ => 0)) (e6 : E 6 = .inr (2, [.ref (ad 7), .int (nI 0)])) (e7 : E 7 = .inl (cM, 6, .inr (.inr (.inr (.inr (fun i => some (ad (6 + (2 + 3 * i)))))))) ) (hmb : ∀ i, i < 6 → MB cI ad E (8 + 3 * i)) (e26 : E 26 = .inr (3, [.ref (ad 27), .ref (ad 28), .int (nI 0)])) (e27 : E 27 = aI cI 552 (fun _ => 0)) (e28 : E 28 = aI cI 552 (fun _ => 0)) (e29 : E 29 = aI cI 32 (fun _ => 0)) : RelX cI cM ad M00 E := by
  refine ⟨fun i => i, ⟨e0, e1, e2, e3, e4, e5, e6, ?_, ⟨fun i hi => hi, fun i k _ _ h => h⟩, by decide, fun i hi => ?_, e29⟩, fun k hk => absurd hk (Nat.not_lt_zero _), ⟨_, _, e26, e27, e28, SP_nil⟩⟩
  · rw [e7]
    have : (fun i => some (ad (6 + (2 + 3 * i)))) = sf ad (fun i => i) := by
      funext i
      show some (ad (6 + (2 + 3 * i))) = some (ad (8 + 3 * i))
      rw [show 6 + (2 + 3 * i) = 8 + 3 * i by omega]
    rw [this]
  · obtain ⟨a, b, c⟩ := hmb i hi
    refine ⟨nI 0, nI 0, nI 0, nI 0, fun _ => 0, ⟨?_, ?_, ?_⟩, fun h => absurd h (Nat.not_lt_zero _)⟩
    · rw [show 9 + 3 * i = 8 + 3 * i + 1 by omega]; exact a
    · rw [show 9 + 3 * i = 8 + 3 * i + 1 by omega, show 10 + 3 * i = 8 + 3 * i + 2 by omega]; exact b
    · rw [show 10 + 3 * i = 8 + 3 * i + 2 by omega]; exact c
theorem fsX0 : ∀ j, j < 2 → defaultValue (tyX0 j) = vp_V [.null, .null] j := by
  intro j hj
  rcases (show j = 0 ∨ j = 1 by omega) with rfl | rfl <;> rfl
theorem iw_X5_init_0 : ∀ w ∈ wsX00, w ∈ wsX5_init := by decide +kernel
theorem iw_X5_init_5 : ∀ w ∈ wsX50, w ∈ wsX5_init := by decide +kernel
theorem ln_X5_init_12 : Cond.fieldLink RX5 12 "MarqueeDisplay" "font" "LMarqueeDisplay$Font;" ∈ wsX5_init := by decide +kernel
theorem iw_X5_init_4 : ∀ w ∈ wsX40, w ∈ wsX5_init := by decide +kernel
theorem ln_X5_init_19 : Cond.fieldLink RX5 19 "MarqueeDisplay" "buffer" "LMarqueeDisplay$Text;" ∈ wsX5_init := by decide +kernel
theorem fsX2 : ∀ j, j < 2 → defaultValue (tyX2 j) = vp_V [.null, .int (nI (0))] j := by
  intro j hj
  rcases (show j = 0 ∨ j = 1 by omega) with rfl | rfl <;> rfl
theorem iw_X5_init_2 : ∀ w ∈ wsX20, w ∈ wsX5_init := by decide +kernel
theorem ln_X5_init_26 : Cond.fieldLink RX5 26 "MarqueeDisplay" "messages" "LMarqueeDisplay$MessageList;" ∈ wsX5_init := by decide +kernel
theorem fsX3 : ∀ j, j < 3 → defaultValue (tyX3 j) = vp_V [.null, .null, .int (nI (0))] j := by
  intro j hj
  rcases (show j = 0 ∨ j = 1 ∨ j = 2 by omega) with rfl | rfl | rfl <;> rfl
theorem iw_X5_init_3 : ∀ w ∈ wsX30, w ∈ wsX5_init := by decide +kernel
theorem ln_X5_init_33 : Cond.fieldLink RX5 33 "MarqueeDisplay" "strip" "LMarqueeDisplay$Strip;" ∈ wsX5_init := by decide +kernel
theorem ln_X5_init_37 : Cond.fieldLink RX5 37 "MarqueeDisplay" "defects" "[I" ∈ wsX5_init := by decide +kernel
theorem ln_X5_init_41 : Cond.fieldLink RX5 41 "MarqueeDisplay" "columns" "I" ∈ wsX5_init := by decide +kernel
theorem ln_X5_init_45 : Cond.fieldLink RX5 45 "MarqueeDisplay" "gap" "I" ∈ wsX5_init := by decide +kernel
theorem ln_X5_init_48 : Cond.fieldLink RX5 48 "MarqueeDisplay" "speed" "I" ∈ wsX5_init := by decide +kernel
theorem ln_X5_init_51 : Cond.fieldLink RX5 51 "MarqueeDisplay" "shift" "I" ∈ wsX5_init := by decide +kernel
theorem ln_X5_init_54 : Cond.fieldLink RX5 54 "MarqueeDisplay" "budget" "I" ∈ wsX5_init := by decide +kernel
theorem ln_X5_init_57 : Cond.fieldLink RX5 57 "MarqueeDisplay" "offset" "I" ∈ wsX5_init := by decide +kernel
theorem ln_X5_init_60 : Cond.fieldLink RX5 60 "MarqueeDisplay" "counter" "I" ∈ wsX5_init := by decide +kernel
set_option maxHeartbeats 4000000 in
set_option maxRecDepth 100000 in
theorem k_X5_init (vl : Launch) (D : va_G) (cI cM : ClassId) : CI vl yX5_init wsX5_init { frames := 4, cells := 29, slots := 1460, locals := 73 } D cI cM 5 [.null, .null, .null, .null, .null, .int (nI (0)), .int (nI (0)), .int (nI (0)), .int (nI (0)), .int (nI (0)), .int (nI (0)), .int (nI (0))] 30 29 1460 (fun ad1 E1 => RelX cI cM ad1 M00 E1) := by
  refine mc_of cX5_init 1 RX5 (by decide) rfl rfl rfl (Nat.le_of_ble_eq_true rfl) ?_
  intro A vp ve vs vm va vb vt vc Q a0 ad0 E0 C hao hA hnm hX0 h0 f0 hend
  refine z_aload_n C dX5_init_0 rfl ?_
  refine z_objInit C (by decide +kernel) (by decide +kernel) (by decide +kernel) (Nat.le_of_ble_eq_true rfl) (Nat.le_of_ble_eq_true rfl) dX5_init_1 ?_
  refine z_aload_n C dX5_init_4 rfl ?_
  refine z_new (ci := 0) (Cn := RX0) (T := TX0) (N := 2) C [.null, .null] tyX0 iw_X5_init_0 tyX0_ok (by decide +kernel) (by decide +kernel) (by decide +kernel) hX0 hA rfl fsX0 (Nat.le_of_ble_eq_true rfl) (Nat.le_of_ble_eq_true rfl) dX5_init_5 (fun a1_ ad2_ Ez3 had4 hE5 hX6_ => ?_)
  have hd7 : ad2_ (0) = a0 := va_up_of had4 (by first | decide | omega) h0
  have hd8 : ad2_ (1) = a1_ := va_up_eq had4
  have f9 : Ez3 (0) = .inr (5, [.null, .null, .null, .null, .null, .int (nI (0)), .int (nI (0)), .int (nI (0)), .int (nI (0)), .int (nI (0)), .int (nI (0)), .int (nI (0))]) := va_up_of hE5 (by first | decide | omega) f0
  have f10 : Ez3 (1) = .inr (0, [.null, .null]) := va_up_eq hE5
  refine z_dup C dX5_init_8 rfl ?_
  refine z_callI (n := 1) C hao hA (k_X0_init vl D cI cM) (cwI 0 C.2.2.2.2.1 gX5_init_X0_init rfl rfl rfl (C.2.2.2.2.1 _ (by decide +kernel)) (C.2.2.2.2.1 _ (by decide +kernel)) (C.2.2.2.2.1 _ (by decide +kernel)) rfl (by decide +kernel) ⟨(Nat.le_of_ble_eq_true rfl), (Nat.le_of_ble_eq_true rfl)⟩) hX6_ hd8 f10 (Nat.le_of_ble_eq_true rfl) ⟨(Nat.le_of_ble_eq_true rfl), (Nat.le_of_ble_eq_true rfl)⟩ dX5_init_9 (fun ad11_ Ez12 hj13 hk14 hl15 hX16_ hp17 => ?_)
  have hd18 : ad11_ (0) = a0 := (hj13 (0) (by first | decide | omega)).trans hd7
  have f20 : Ez12 (0) = .inr (5, [.null, .null, .null, .null, .null, .int (nI (0)), .int (nI (0)), .int (nI (0)), .int (nI (0)), .int (nI (0)), .int (nI (0)), .int (nI (0))]) := (hk14 (0) (by first | decide | omega)).trans f9
  obtain ⟨a21_, hd22⟩ : ∃ q : Nat, ad11_ (2) = q := ⟨_, rfl⟩
  obtain ⟨a23_, hd24⟩ : ∃ q : Nat, ad11_ (3) = q := ⟨_, rfl⟩
  have f25 : Ez12 (1) = .inr (0, [.ref a21_, .ref a23_]) := by rw [← hd22, ← hd24]; exact hp17.1
  have f26 : Ez12 (2) = aI cI 27 wdI := hp17.2.1
  have f27 : Ez12 (3) = aI cI 162 (dq 26 0) := hp17.2.2
  refine z_putF C (0) (Cn := RX5) (T := TX5) (N := 12) (fi := 0) tyX5 iw_X5_init_5 tyX5_ok nmX5 rfl (by decide) ln_X5_init_12 hX16_ (by first | decide | omega) hd18 f20 rfl hnm rfl rfl rfl rfl (Nat.le_of_ble_eq_true rfl) dX5_init_12 (fun Ez29 hE28 => ?_)
  have f31 : Ez29 (1) = .inr (0, [.ref (a21_), .ref (a23_)]) := va_up_of hE28 (by first | decide | omega) f25
  have f32 : Ez29 (2) = aI cI 27 wdI := va_up_of hE28 (by first | decide | omega) f26
  have f33 : Ez29 (3) = aI cI 162 (dq 26 0) := va_up_of hE28 (by first | decide | omega) f27
  have f34 : Ez29 (0) = .inr (5, [.ref (a1_), .null, .null, .null, .null, .int (nI (0)), .int (nI (0)), .int (nI (0)), .int (nI (0)), .int (nI (0)), .int (nI (0)), .int (nI (0))]) := va_up_eq hE28
  refine z_aload_n C dX5_init_15 rfl ?_
  refine z_new (ci := 4) (Cn := RX4) (T := TX4) (N := 2) C [.null, .int (nI (0))] tyX4 iw_X5_init_4 tyX4_ok (by decide +kernel) (by decide +kernel) (by decide +kernel) hX16_ hA rfl fsX4 (Nat.le_of_ble_eq_true rfl) (Nat.le_of_ble_eq_true rfl) dX5_init_16 (fun a35_ ad36_ Ez37 had38 hE39 hX40_ => ?_)
  have hd41 : ad36_ (0) = a0 := va_up_of had38 (by first | decide | omega) hd18
  have hd42 : ad36_ (1) = a1_ := va_up_of had38 (by first | decide | omega) hl15
  have hd43 : ad36_ (2) = a21_ := va_up_of had38 (by first | decide | omega) hd22
  have hd44 : ad36_ (3) = a23_ := va_up_of had38 (by first | decide | omega) hd24
  have hd45 : ad36_ (4) = a35_ := va_up_eq had38
  have f46 : Ez37 (1) = .inr (0, [.ref (a21_), .ref (a23_)]) := va_up_of hE39 (by first | decide | omega) f31
  have f47 : Ez37 (2) = aI cI 27 wdI := va_up_of hE39 (by first | decide | omega) f32
  have f48 : Ez37 (3) = aI cI 162 (dq 26 0) := va_up_of hE39 (by first | decide | omega) f33
  have f49 : Ez37 (0) = .inr (5, [.ref (a1_), .null, .null, .null, .null, .int (nI (0)), .int (nI (0)), .int (nI (0)), .int (nI (0)), .int (nI (0)), .int (nI (0)), .int (nI (0))]) := va_up_of hE39 (by first | decide | omega) f34
  have f50 : Ez37 (4) = .inr (4, [.null, .int (nI (0))]) := va_up_eq hE39
  refine z_dup C dX5_init_19 rfl ?_
  refine z_callIN (n := 4) C hao hA (k_X4_init vl D cI cM) ⟨va_cnB (host := "MarqueeDisplay") 0 C.2.2.2.2.1 gX5_init_X4_init_n18 rfl rfl rfl (C.2.2.2.2.2.2.1 _ (by decide +kernel)) (C.2.2.2.2.1 _ (by decide +kernel)) (by decide +kernel) ⟨(Nat.le_of_ble_eq_true rfl), (Nat.le_of_ble_eq_true rfl)⟩, rfl, C.2.2.2.2.1 _ (by decide +kernel)⟩ hX40_ hd45 f50 (Nat.le_of_ble_eq_true rfl) ⟨(Nat.le_of_ble_eq_true rfl), (Nat.le_of_ble_eq_true rfl)⟩ dX5_init_20 (fun ad51_ Ez52 hj53 hk54 hl55 hX56_ hp57 => ?_)
  have hd58 : ad51_ (0) = a0 := (hj53 (0) (by first | decide | omega)).trans hd41
  have hd59 : ad51_ (1) = a1_ := (hj53 (1) (by first | decide | omega)).trans hd42
  have hd60 : ad51_ (2) = a21_ := (hj53 (2) (by first | decide | omega)).trans hd43
  have hd61 : ad51_ (3) = a23_ := (hj53 (3) (by first | decide | omega)).trans hd44
  have f63 : Ez52 (1) = .inr (0, [.ref (a21_), .ref (a23_)]) := (hk54 (1) (by first | decide | omega)).trans f46
  have f64 : Ez52 (2) = aI cI 27 wdI := (hk54 (2) (by first | decide | omega)).trans f47
  have f65 : Ez52 (3) = aI cI 162 (dq 26 0) := (hk54 (3) (by first | decide | omega)).trans f48
  have f66 : Ez52 (0) = .inr (5, [.ref (a1_), .null, .null, .null, .null, .int (nI (0)), .int (nI (0)), .int (nI (0)), .int (nI (0)), .int (nI (0)), .int (nI (0)), .int (nI (0))]) := (hk54 (0) (by first | decide | omega)).trans f49
  obtain ⟨a67_, hd68⟩ : ∃ q : Nat, ad51_ (5) = q := ⟨_, rfl⟩
  have f69 : Ez52 (4) = .inr (4, [.ref a67_, .int (nI (0))]) := by rw [← hd68]; exact hp57.1
  have f70 : Ez52 (5) = aI cI 12 (fun _ => 0) := hp57.2
  refine z_putF C (0) (Cn := RX5) (T := TX5) (N := 12) (fi := 1) tyX5 iw_X5_init_5 tyX5_ok nmX5 rfl (by decide) ln_X5_init_19 hX56_ (by first | decide | omega) hd58 f66 rfl hnm rfl rfl rfl rfl (Nat.le_of_ble_eq_true rfl) dX5_init_23 (fun Ez72 hE71 => ?_)
  have f73 : Ez72 (1) = .inr (0, [.ref (a21_), .ref (a23_)]) := va_up_of hE71 (by first | decide | omega) f63
  have f74 : Ez72 (2) = aI cI 27 wdI := va_up_of hE71 (by first | decide | omega) f64
  have f75 : Ez72 (3) = aI cI 162 (dq 26 0) := va_up_of hE71 (by first | decide | omega) f65
  have f77 : Ez72 (4) = .inr (4, [.ref (a67_), .int (nI (0))]) := va_up_of hE71 (by first | decide | omega) f69
  have f78 : Ez72 (5) = aI cI 12 (fun _ => 0) := va_up_of hE71 (by first | decide | omega) f70
  have f79 : Ez72 (0) = .inr (5, [.ref (a1_), .ref (a35_), .null, .null, .null, .int (nI (0)), .int (nI (0)), .int (nI (0)), .int (nI (0)), .int (nI (0)), .int (nI (0)), .int (nI (0))]) := va_up_eq hE71
  refine z_aload_n C dX5_init_26 rfl ?_
  refine z_new (ci := 2) (Cn := RX2) (T := TX2) (N := 2) C [.null, .int (nI (0))] tyX2 iw_X5_init_2 tyX2_ok (by decide +kernel) (by decide +kernel) (by decide +kernel) hX56_ hA rfl fsX2 (Nat.le_of_ble_eq_true rfl) (Nat.le_of_ble_eq_true rfl) dX5_init_27 (fun a80_ ad81_ Ez82 had83 hE84 hX85_ => ?_)
  have hd86 : ad81_ (0) = a0 := va_up_of had83 (by first | decide | omega) hd58
  have hd87 : ad81_ (1) = a1_ := va_up_of had83 (by first | decide | omega) hd59
  have hd88 : ad81_ (2) = a21_ := va_up_of had83 (by first | decide | omega) hd60
  have hd89 : ad81_ (3) = a23_ := va_up_of had83 (by first | decide | omega) hd61
  have hd90 : ad81_ (4) = a35_ := va_up_of had83 (by first | decide | omega) hl55
  have hd91 : ad81_ (5) = a67_ := va_up_of had83 (by first | decide | omega) hd68
  have hd92 : ad81_ (6) = a80_ := va_up_eq had83
  have f93 : Ez82 (1) = .inr (0, [.ref (a21_), .ref (a23_)]) := va_up_of hE84 (by first | decide | omega) f73
  have f94 : Ez82 (2) = aI cI 27 wdI := va_up_of hE84 (by first | decide | omega) f74
  have f95 : Ez82 (3) = aI cI 162 (dq 26 0) := va_up_of hE84 (by first | decide | omega) f75
  have f96 : Ez82 (4) = .inr (4, [.ref (a67_), .int (nI (0))]) := va_up_of hE84 (by first | decide | omega) f77
  have f97 : Ez82 (5) = aI cI 12 (fun _ => 0) := va_up_of hE84 (by first | decide | omega) f78
  have f98 : Ez82 (0) = .inr (5, [.ref (a1_), .ref (a35_), .null, .null, .null, .int (nI (0)), .int (nI (0)), .int (nI (0)), .int (nI (0)), .int (nI (0)), .int (nI (0)), .int (nI (0))]) := va_up_of hE84 (by first | decide | omega) f79
  have f99 : Ez82 (6) = .inr (2, [.null, .int (nI (0))]) := va_up_eq hE84
  refine z_dup C dX5_init_30 rfl ?_
  refine z_callI (n := 6) C hao hA (k_X2_init vl D cI cM) (cwI 0 C.2.2.2.2.1 gX5_init_X2_init rfl rfl rfl (C.2.2.2.2.1 _ (by decide +kernel)) (C.2.2.2.2.1 _ (by decide +kernel)) (C.2.2.2.2.1 _ (by decide +kernel)) rfl (by decide +kernel) ⟨(Nat.le_of_ble_eq_true rfl), (Nat.le_of_ble_eq_true rfl)⟩) hX85_ hd92 f99 (Nat.le_of_ble_eq_true rfl) ⟨(Nat.le_of_ble_eq_true rfl), (Nat.le_of_ble_eq_true rfl)⟩ dX5_init_31 (fun ad100_ Ez101 hj102 hk103 hl104 hX105_ hp106 => ?_)
  have hd107 : ad100_ (0) = a0 := (hj102 (0) (by first | decide | omega)).trans hd86
  have hd108 : ad100_ (1) = a1_ := (hj102 (1) (by first | decide | omega)).trans hd87
  have hd109 : ad100_ (2) = a21_ := (hj102 (2) (by first | decide | omega)).trans hd88
  have hd110 : ad100_ (3) = a23_ := (hj102 (3) (by first | decide | omega)).trans hd89
  have hd111 : ad100_ (4) = a35_ := (hj102 (4) (by first | decide | omega)).trans hd90
  have hd112 : ad100_ (5) = a67_ := (hj102 (5) (by first | decide | omega)).trans hd91
  have f114 : Ez101 (1) = .inr (0, [.ref (a21_), .ref (a23_)]) := (hk103 (1) (by first | decide | omega)).trans f93
  have f115 : Ez101 (2) = aI cI 27 wdI := (hk103 (2) (by first | decide | omega)).trans f94
  have f116 : Ez101 (3) = aI cI 162 (dq 26 0) := (hk103 (3) (by first | decide | omega)).trans f95
  have f117 : Ez101 (4) = .inr (4, [.ref (a67_), .int (nI (0))]) := (hk103 (4) (by first | decide | omega)).trans f96
  have f118 : Ez101 (5) = aI cI 12 (fun _ => 0) := (hk103 (5) (by first | decide | omega)).trans f97
  have f119 : Ez101 (0) = .inr (5, [.ref (a1_), .ref (a35_), .null, .null, .null, .int (nI (0)), .int (nI (0)), .int (nI (0)), .int (nI (0)), .int (nI (0)), .int (nI (0)), .int (nI (0))]) := (hk103 (0) (by first | decide | omega)).trans f98
  obtain ⟨a120_, hd121⟩ : ∃ q : Nat, ad100_ (7) = q := ⟨_, rfl⟩
  have f122 : Ez101 (6) = .inr (2, [.ref a120_, .int (nI (0))]) := by rw [← hd121]; exact hp106.1
  have hsl0 : Ez101 (7) = .inl (cM, 6, .inr (.inr (.inr (.inr (fun i => some (ad100_ (6 + (2 + 3 * i)))))))) := hp106.2.1
  have hmb0 : ∀ i, i < 6 → MB cI ad100_ Ez101 (8 + 3 * i) := fun i hi => by rw [show 8 + 3 * i = 6 + (2 + 3 * i) by omega]; exact hp106.2.2 i hi
  refine z_putF C (0) (Cn := RX5) (T := TX5) (N := 12) (fi := 2) tyX5 iw_X5_init_5 tyX5_ok nmX5 rfl (by decide) ln_X5_init_26 hX105_ (by first | decide | omega) hd107 f119 rfl hnm rfl rfl rfl rfl (Nat.le_of_ble_eq_true rfl) dX5_init_34 (fun Ez124 hE123 => ?_)
  have f125 : Ez124 (1) = .inr (0, [.ref (a21_), .ref (a23_)]) := va_up_of hE123 (by first | decide | omega) f114
  have f126 : Ez124 (2) = aI cI 27 wdI := va_up_of hE123 (by first | decide | omega) f115
  have f127 : Ez124 (3) = aI cI 162 (dq 26 0) := va_up_of hE123 (by first | decide | omega) f116
  have f128 : Ez124 (4) = .inr (4, [.ref (a67_), .int (nI (0))]) := va_up_of hE123 (by first | decide | omega) f117
  have f129 : Ez124 (5) = aI cI 12 (fun _ => 0) := va_up_of hE123 (by first | decide | omega) f118
  have f131 : Ez124 (6) = .inr (2, [.ref (a120_), .int (nI (0))]) := va_up_of hE123 (by first | decide | omega) f122
  have f132 : Ez124 (0) = .inr (5, [.ref (a1_), .ref (a35_), .ref (a80_), .null, .null, .int (nI (0)), .int (nI (0)), .int (nI (0)), .int (nI (0)), .int (nI (0)), .int (nI (0)), .int (nI (0))]) := va_up_eq hE123
  have g133 : ∀ k : Nat, (7 ≤ k ∧ k < 26) → Ez124 k = Ez101 k := fun k hk => va_up_of hE123 (by omega) ((fun _ _ => rfl) k hk)
  refine z_aload_n C dX5_init_37 rfl ?_
  refine z_new (ci := 3) (Cn := RX3) (T := TX3) (N := 3) C [.null, .null, .int (nI (0))] tyX3 iw_X5_init_3 tyX3_ok (by decide +kernel) (by decide +kernel) (by decide +kernel) hX105_ hA rfl fsX3 (Nat.le_of_ble_eq_true rfl) (Nat.le_of_ble_eq_true rfl) dX5_init_38 (fun a134_ ad135_ Ez136 had137 hE138 hX139_ => ?_)
  have hd140 : ad135_ (0) = a0 := va_up_of had137 (by first | decide | omega) hd107
  have hd141 : ad135_ (1) = a1_ := va_up_of had137 (by first | decide | omega) hd108
  have hd142 : ad135_ (2) = a21_ := va_up_of had137 (by first | decide | omega) hd109
  have hd143 : ad135_ (3) = a23_ := va_up_of had137 (by first | decide | omega) hd110
  have hd144 : ad135_ (4) = a35_ := va_up_of had137 (by first | decide | omega) hd111
  have hd145 : ad135_ (5) = a67_ := va_up_of had137 (by first | decide | omega) hd112
  have hd146 : ad135_ (6) = a80_ := va_up_of had137 (by first | decide | omega) hl104
  have hd147 : ad135_ (7) = a120_ := va_up_of had137 (by first | decide | omega) hd121
  have hd148 : ad135_ (26) = a134_ := va_up_eq had137
  have ga149 : ∀ k : Nat, (k < 26) → ad135_ k = ad100_ k := fun k hk => va_up_of had137 (by omega) ((fun _ _ => rfl) k hk)
  have f150 : Ez136 (1) = .inr (0, [.ref (a21_), .ref (a23_)]) := va_up_of hE138 (by first | decide | omega) f125
  have f151 : Ez136 (2) = aI cI 27 wdI := va_up_of hE138 (by first | decide | omega) f126
  have f152 : Ez136 (3) = aI cI 162 (dq 26 0) := va_up_of hE138 (by first | decide | omega) f127
  have f153 : Ez136 (4) = .inr (4, [.ref (a67_), .int (nI (0))]) := va_up_of hE138 (by first | decide | omega) f128
  have f154 : Ez136 (5) = aI cI 12 (fun _ => 0) := va_up_of hE138 (by first | decide | omega) f129
  have f155 : Ez136 (6) = .inr (2, [.ref (a120_), .int (nI (0))]) := va_up_of hE138 (by first | decide | omega) f131
  have f156 : Ez136 (0) = .inr (5, [.ref (a1_), .ref (a35_), .ref (a80_), .null, .null, .int (nI (0)), .int (nI (0)), .int (nI (0)), .int (nI (0)), .int (nI (0)), .int (nI (0)), .int (nI (0))]) := va_up_of hE138 (by first | decide | omega) f132
  have f157 : Ez136 (26) = .inr (3, [.null, .null, .int (nI (0))]) := va_up_eq hE138
  have g158 : ∀ k : Nat, (7 ≤ k ∧ k < 26) → Ez136 k = Ez101 k := fun k hk => va_up_of hE138 (by omega) (g133 k hk)
  refine z_dup C dX5_init_41 rfl ?_
  refine z_callIN (n := 26) C hao hA (k_X3_init vl D cI cM) ⟨va_cnB (host := "MarqueeDisplay") 0 C.2.2.2.2.1 gX5_init_X3_init_n32 rfl rfl rfl (C.2.2.2.2.2.2.1 _ (by decide +kernel)) (C.2.2.2.2.1 _ (by decide +kernel)) (by decide +kernel) ⟨(Nat.le_of_ble_eq_true rfl), (Nat.le_of_ble_eq_true rfl)⟩, rfl, C.2.2.2.2.1 _ (by decide +kernel)⟩ hX139_ hd148 f157 (Nat.le_of_ble_eq_true rfl) ⟨(Nat.le_of_ble_eq_true rfl), (Nat.le_of_ble_eq_true rfl)⟩ dX5_init_42 (fun ad159_ Ez160 hj161 hk162 hl163 hX164_ hp165 => ?_)
  have hd166 : ad159_ (0) = a0 := (hj161 (0) (by first | decide | omega)).trans hd140
  have hd167 : ad159_ (1) = a1_ := (hj161 (1) (by first | decide | omega)).trans hd141
  have hd168 : ad159_ (2) = a21_ := (hj161 (2) (by first | decide | omega)).trans hd142
  have hd169 : ad159_ (3) = a23_ := (hj161 (3) (by first | decide | omega)).trans hd143
  have hd170 : ad159_ (4) = a35_ := (hj161 (4) (by first | decide | omega)).trans hd144
  have hd171 : ad159_ (5) = a67_ := (hj161 (5) (by first | decide | omega)).trans hd145
  have hd172 : ad159_ (6) = a80_ := (hj161 (6) (by first | decide | omega)).trans hd146
  have hd173 : ad159_ (7) = a120_ := (hj161 (7) (by first | decide | omega)).trans hd147
  have f175 : Ez160 (1) = .inr (0, [.ref (a21_), .ref (a23_)]) := (hk162 (1) (by first | decide | omega)).trans f150
  have f176 : Ez160 (2) = aI cI 27 wdI := (hk162 (2) (by first | decide | omega)).trans f151
  have f177 : Ez160 (3) = aI cI 162 (dq 26 0) := (hk162 (3) (by first | decide | omega)).trans f152
  have f178 : Ez160 (4) = .inr (4, [.ref (a67_), .int (nI (0))]) := (hk162 (4) (by first | decide | omega)).trans f153
  have f179 : Ez160 (5) = aI cI 12 (fun _ => 0) := (hk162 (5) (by first | decide | omega)).trans f154
  have f180 : Ez160 (6) = .inr (2, [.ref (a120_), .int (nI (0))]) := (hk162 (6) (by first | decide | omega)).trans f155
  have f181 : Ez160 (0) = .inr (5, [.ref (a1_), .ref (a35_), .ref (a80_), .null, .null, .int (nI (0)), .int (nI (0)), .int (nI (0)), .int (nI (0)), .int (nI (0)), .int (nI (0)), .int (nI (0))]) := (hk162 (0) (by first | decide | omega)).trans f156
  have ga182 : ∀ k : Nat, (k < 26) → ad159_ k = ad100_ k := fun k hk => (hj161 k (by omega)).trans (ga149 k hk)
  have g183 : ∀ k : Nat, (7 ≤ k ∧ k < 26) → Ez160 k = Ez101 k := fun k hk => (hk162 k (by omega)).trans (g158 k hk)
  obtain ⟨a184_, hd185⟩ : ∃ q : Nat, ad159_ (27) = q := ⟨_, rfl⟩
  obtain ⟨a186_, hd187⟩ : ∃ q : Nat, ad159_ (28) = q := ⟨_, rfl⟩
  have f188 : Ez160 (26) = .inr (3, [.ref a184_, .ref a186_, .int (nI (0))]) := by rw [← hd185, ← hd187]; exact hp165.1
  have f189 : Ez160 (27) = aI cI 552 (fun _ => 0) := hp165.2.1
  have f190 : Ez160 (28) = aI cI 552 (fun _ => 0) := hp165.2.2
  refine z_putF C (0) (Cn := RX5) (T := TX5) (N := 12) (fi := 3) tyX5 iw_X5_init_5 tyX5_ok nmX5 rfl (by decide) ln_X5_init_33 hX164_ (by first | decide | omega) hd166 f181 rfl hnm rfl rfl rfl rfl (Nat.le_of_ble_eq_true rfl) dX5_init_45 (fun Ez192 hE191 => ?_)
  have f193 : Ez192 (1) = .inr (0, [.ref (a21_), .ref (a23_)]) := va_up_of hE191 (by first | decide | omega) f175
  have f194 : Ez192 (2) = aI cI 27 wdI := va_up_of hE191 (by first | decide | omega) f176
  have f195 : Ez192 (3) = aI cI 162 (dq 26 0) := va_up_of hE191 (by first | decide | omega) f177
  have f196 : Ez192 (4) = .inr (4, [.ref (a67_), .int (nI (0))]) := va_up_of hE191 (by first | decide | omega) f178
  have f197 : Ez192 (5) = aI cI 12 (fun _ => 0) := va_up_of hE191 (by first | decide | omega) f179
  have f198 : Ez192 (6) = .inr (2, [.ref (a120_), .int (nI (0))]) := va_up_of hE191 (by first | decide | omega) f180
  have f200 : Ez192 (26) = .inr (3, [.ref (a184_), .ref (a186_), .int (nI (0))]) := va_up_of hE191 (by first | decide | omega) f188
  have f201 : Ez192 (27) = aI cI 552 (fun _ => 0) := va_up_of hE191 (by first | decide | omega) f189
  have f202 : Ez192 (28) = aI cI 552 (fun _ => 0) := va_up_of hE191 (by first | decide | omega) f190
  have f203 : Ez192 (0) = .inr (5, [.ref (a1_), .ref (a35_), .ref (a80_), .ref (a134_), .null, .int (nI (0)), .int (nI (0)), .int (nI (0)), .int (nI (0)), .int (nI (0)), .int (nI (0)), .int (nI (0))]) := va_up_eq hE191
  have g204 : ∀ k : Nat, (7 ≤ k ∧ k < 26) → Ez192 k = Ez101 k := fun k hk => va_up_of hE191 (by omega) (g183 k hk)
  refine z_aload_n C dX5_init_48 rfl ?_
  refine z_bipush C (nI (32)) dX5_init_49 (by decide) ?_
  refine z_newa C (by decide +kernel) hX164_ hA (Nat.le_of_ble_eq_true rfl) (Nat.le_of_ble_eq_true rfl) (Nat.le_of_ble_eq_true rfl) (Nat.le_of_ble_eq_true rfl) dX5_init_51 (fun a205_ ad206_ Ez207 had208 hE209 hX210_ => ?_)
  have hd211 : ad206_ (0) = a0 := va_up_of had208 (by first | decide | omega) hd166
  have hd212 : ad206_ (1) = a1_ := va_up_of had208 (by first | decide | omega) hd167
  have hd213 : ad206_ (2) = a21_ := va_up_of had208 (by first | decide | omega) hd168
  have hd214 : ad206_ (3) = a23_ := va_up_of had208 (by first | decide | omega) hd169
  have hd215 : ad206_ (4) = a35_ := va_up_of had208 (by first | decide | omega) hd170
  have hd216 : ad206_ (5) = a67_ := va_up_of had208 (by first | decide | omega) hd171
  have hd217 : ad206_ (6) = a80_ := va_up_of had208 (by first | decide | omega) hd172
  have hd218 : ad206_ (7) = a120_ := va_up_of had208 (by first | decide | omega) hd173
  have hd219 : ad206_ (26) = a134_ := va_up_of had208 (by first | decide | omega) hl163
  have hd220 : ad206_ (27) = a184_ := va_up_of had208 (by first | decide | omega) hd185
  have hd221 : ad206_ (28) = a186_ := va_up_of had208 (by first | decide | omega) hd187
  have hd222 : ad206_ (29) = a205_ := va_up_eq had208
  have ga223 : ∀ k : Nat, (k < 26) → ad206_ k = ad100_ k := fun k hk => va_up_of had208 (by omega) (ga182 k hk)
  have f224 : Ez207 (1) = .inr (0, [.ref (a21_), .ref (a23_)]) := va_up_of hE209 (by first | decide | omega) f193
  have f225 : Ez207 (2) = aI cI 27 wdI := va_up_of hE209 (by first | decide | omega) f194
  have f226 : Ez207 (3) = aI cI 162 (dq 26 0) := va_up_of hE209 (by first | decide | omega) f195
  have f227 : Ez207 (4) = .inr (4, [.ref (a67_), .int (nI (0))]) := va_up_of hE209 (by first | decide | omega) f196
  have f228 : Ez207 (5) = aI cI 12 (fun _ => 0) := va_up_of hE209 (by first | decide | omega) f197
  have f229 : Ez207 (6) = .inr (2, [.ref (a120_), .int (nI (0))]) := va_up_of hE209 (by first | decide | omega) f198
  have f230 : Ez207 (26) = .inr (3, [.ref (a184_), .ref (a186_), .int (nI (0))]) := va_up_of hE209 (by first | decide | omega) f200
  have f231 : Ez207 (27) = aI cI 552 (fun _ => 0) := va_up_of hE209 (by first | decide | omega) f201
  have f232 : Ez207 (28) = aI cI 552 (fun _ => 0) := va_up_of hE209 (by first | decide | omega) f202
  have f233 : Ez207 (0) = .inr (5, [.ref (a1_), .ref (a35_), .ref (a80_), .ref (a134_), .null, .int (nI (0)), .int (nI (0)), .int (nI (0)), .int (nI (0)), .int (nI (0)), .int (nI (0)), .int (nI (0))]) := va_up_of hE209 (by first | decide | omega) f203
  have f234 : Ez207 (29) = aI cI 32 (fun _ => 0) := va_up_eq hE209
  have g235 : ∀ k : Nat, (7 ≤ k ∧ k < 26) → Ez207 k = Ez101 k := fun k hk => va_up_of hE209 (by omega) (g204 k hk)
  refine z_putF C (0) (Cn := RX5) (T := TX5) (N := 12) (fi := 4) tyX5 iw_X5_init_5 tyX5_ok nmX5 rfl (by decide) ln_X5_init_37 hX210_ (by first | decide | omega) hd211 f233 rfl hnm rfl rfl rfl rfl (Nat.le_of_ble_eq_true rfl) dX5_init_53 (fun Ez237 hE236 => ?_)
  have f238 : Ez237 (1) = .inr (0, [.ref (a21_), .ref (a23_)]) := va_up_of hE236 (by first | decide | omega) f224
  have f239 : Ez237 (2) = aI cI 27 wdI := va_up_of hE236 (by first | decide | omega) f225
  have f240 : Ez237 (3) = aI cI 162 (dq 26 0) := va_up_of hE236 (by first | decide | omega) f226
  have f241 : Ez237 (4) = .inr (4, [.ref (a67_), .int (nI (0))]) := va_up_of hE236 (by first | decide | omega) f227
  have f242 : Ez237 (5) = aI cI 12 (fun _ => 0) := va_up_of hE236 (by first | decide | omega) f228
  have f243 : Ez237 (6) = .inr (2, [.ref (a120_), .int (nI (0))]) := va_up_of hE236 (by first | decide | omega) f229
  have f244 : Ez237 (26) = .inr (3, [.ref (a184_), .ref (a186_), .int (nI (0))]) := va_up_of hE236 (by first | decide | omega) f230
  have f245 : Ez237 (27) = aI cI 552 (fun _ => 0) := va_up_of hE236 (by first | decide | omega) f231
  have f246 : Ez237 (28) = aI cI 552 (fun _ => 0) := va_up_of hE236 (by first | decide | omega) f232
  have f248 : Ez237 (29) = aI cI 32 (fun _ => 0) := va_up_of hE236 (by first | decide | omega) f234
  have f249 : Ez237 (0) = .inr (5, [.ref (a1_), .ref (a35_), .ref (a80_), .ref (a134_), .ref (a205_), .int (nI (0)), .int (nI (0)), .int (nI (0)), .int (nI (0)), .int (nI (0)), .int (nI (0)), .int (nI (0))]) := va_up_eq hE236
  have g250 : ∀ k : Nat, (7 ≤ k ∧ k < 26) → Ez237 k = Ez101 k := fun k hk => va_up_of hE236 (by omega) (g235 k hk)
  refine z_aload_n C dX5_init_56 rfl ?_
  refine z_bipush C (nI (16)) dX5_init_57 (by decide) ?_
  refine z_put C (0) (Cn := RX5) (T := TX5) (N := 12) (fi := 5) tyX5 iw_X5_init_5 tyX5_ok nmX5 rfl (by decide) ln_X5_init_41 hX210_ (by first | decide | omega) hd211 f249 rfl rfl rfl rfl (Nat.le_of_ble_eq_true rfl) dX5_init_59 (fun Ez252 hE251 => ?_)
  have f253 : Ez252 (1) = .inr (0, [.ref (a21_), .ref (a23_)]) := va_up_of hE251 (by first | decide | omega) f238
  have f254 : Ez252 (2) = aI cI 27 wdI := va_up_of hE251 (by first | decide | omega) f239
  have f255 : Ez252 (3) = aI cI 162 (dq 26 0) := va_up_of hE251 (by first | decide | omega) f240
  have f256 : Ez252 (4) = .inr (4, [.ref (a67_), .int (nI (0))]) := va_up_of hE251 (by first | decide | omega) f241
  have f257 : Ez252 (5) = aI cI 12 (fun _ => 0) := va_up_of hE251 (by first | decide | omega) f242
  have f258 : Ez252 (6) = .inr (2, [.ref (a120_), .int (nI (0))]) := va_up_of hE251 (by first | decide | omega) f243
  have f259 : Ez252 (26) = .inr (3, [.ref (a184_), .ref (a186_), .int (nI (0))]) := va_up_of hE251 (by first | decide | omega) f244
  have f260 : Ez252 (27) = aI cI 552 (fun _ => 0) := va_up_of hE251 (by first | decide | omega) f245
  have f261 : Ez252 (28) = aI cI 552 (fun _ => 0) := va_up_of hE251 (by first | decide | omega) f246
  have f262 : Ez252 (29) = aI cI 32 (fun _ => 0) := va_up_of hE251 (by first | decide | omega) f248
  have f264 : Ez252 (0) = .inr (5, [.ref (a1_), .ref (a35_), .ref (a80_), .ref (a134_), .ref (a205_), .int (nI (16)), .int (nI (0)), .int (nI (0)), .int (nI (0)), .int (nI (0)), .int (nI (0)), .int (nI (0))]) := va_up_eq hE251
  have g265 : ∀ k : Nat, (7 ≤ k ∧ k < 26) → Ez252 k = Ez101 k := fun k hk => va_up_of hE251 (by omega) (g250 k hk)
  refine z_aload_n C dX5_init_62 rfl ?_
  refine z_iconst C (nI (4)) dX5_init_63 (by decide) ?_
  refine z_put C (0) (Cn := RX5) (T := TX5) (N := 12) (fi := 6) tyX5 iw_X5_init_5 tyX5_ok nmX5 rfl (by decide) ln_X5_init_45 hX210_ (by first | decide | omega) hd211 f264 rfl rfl rfl rfl (Nat.le_of_ble_eq_true rfl) dX5_init_64 (fun Ez267 hE266 => ?_)
  have f268 : Ez267 (1) = .inr (0, [.ref (a21_), .ref (a23_)]) := va_up_of hE266 (by first | decide | omega) f253
  have f269 : Ez267 (2) = aI cI 27 wdI := va_up_of hE266 (by first | decide | omega) f254
  have f270 : Ez267 (3) = aI cI 162 (dq 26 0) := va_up_of hE266 (by first | decide | omega) f255
  have f271 : Ez267 (4) = .inr (4, [.ref (a67_), .int (nI (0))]) := va_up_of hE266 (by first | decide | omega) f256
  have f272 : Ez267 (5) = aI cI 12 (fun _ => 0) := va_up_of hE266 (by first | decide | omega) f257
  have f273 : Ez267 (6) = .inr (2, [.ref (a120_), .int (nI (0))]) := va_up_of hE266 (by first | decide | omega) f258
  have f274 : Ez267 (26) = .inr (3, [.ref (a184_), .ref (a186_), .int (nI (0))]) := va_up_of hE266 (by first | decide | omega) f259
  have f275 : Ez267 (27) = aI cI 552 (fun _ => 0) := va_up_of hE266 (by first | decide | omega) f260
  have f276 : Ez267 (28) = aI cI 552 (fun _ => 0) := va_up_of hE266 (by first | decide | omega) f261
  have f277 : Ez267 (29) = aI cI 32 (fun _ => 0) := va_up_of hE266 (by first | decide | omega) f262
  have f279 : Ez267 (0) = .inr (5, [.ref (a1_), .ref (a35_), .ref (a80_), .ref (a134_), .ref (a205_), .int (nI (16)), .int (nI (4)), .int (nI (0)), .int (nI (0)), .int (nI (0)), .int (nI (0)), .int (nI (0))]) := va_up_eq hE266
  have g280 : ∀ k : Nat, (7 ≤ k ∧ k < 26) → Ez267 k = Ez101 k := fun k hk => va_up_of hE266 (by omega) (g265 k hk)
  refine z_aload_n C dX5_init_67 rfl ?_
  refine z_iconst C (nI (2)) dX5_init_68 (by decide) ?_
  refine z_put C (0) (Cn := RX5) (T := TX5) (N := 12) (fi := 7) tyX5 iw_X5_init_5 tyX5_ok nmX5 rfl (by decide) ln_X5_init_48 hX210_ (by first | decide | omega) hd211 f279 rfl rfl rfl rfl (Nat.le_of_ble_eq_true rfl) dX5_init_69 (fun Ez282 hE281 => ?_)
  have f283 : Ez282 (1) = .inr (0, [.ref (a21_), .ref (a23_)]) := va_up_of hE281 (by first | decide | omega) f268
  have f284 : Ez282 (2) = aI cI 27 wdI := va_up_of hE281 (by first | decide | omega) f269
  have f285 : Ez282 (3) = aI cI 162 (dq 26 0) := va_up_of hE281 (by first | decide | omega) f270
  have f286 : Ez282 (4) = .inr (4, [.ref (a67_), .int (nI (0))]) := va_up_of hE281 (by first | decide | omega) f271
  have f287 : Ez282 (5) = aI cI 12 (fun _ => 0) := va_up_of hE281 (by first | decide | omega) f272
  have f288 : Ez282 (6) = .inr (2, [.ref (a120_), .int (nI (0))]) := va_up_of hE281 (by first | decide | omega) f273
  have f289 : Ez282 (26) = .inr (3, [.ref (a184_), .ref (a186_), .int (nI (0))]) := va_up_of hE281 (by first | decide | omega) f274
  have f290 : Ez282 (27) = aI cI 552 (fun _ => 0) := va_up_of hE281 (by first | decide | omega) f275
  have f291 : Ez282 (28) = aI cI 552 (fun _ => 0) := va_up_of hE281 (by first | decide | omega) f276
  have f292 : Ez282 (29) = aI cI 32 (fun _ => 0) := va_up_of hE281 (by first | decide | omega) f277
  have f294 : Ez282 (0) = .inr (5, [.ref (a1_), .ref (a35_), .ref (a80_), .ref (a134_), .ref (a205_), .int (nI (16)), .int (nI (4)), .int (nI (2)), .int (nI (0)), .int (nI (0)), .int (nI (0)), .int (nI (0))]) := va_up_eq hE281
  have g295 : ∀ k : Nat, (7 ≤ k ∧ k < 26) → Ez282 k = Ez101 k := fun k hk => va_up_of hE281 (by omega) (g280 k hk)
  refine z_aload_n C dX5_init_72 rfl ?_
  refine z_iconst C (nI (0)) dX5_init_73 (by decide) ?_
  refine z_put C (0) (Cn := RX5) (T := TX5) (N := 12) (fi := 8) tyX5 iw_X5_init_5 tyX5_ok nmX5 rfl (by decide) ln_X5_init_51 hX210_ (by first | decide | omega) hd211 f294 rfl rfl rfl rfl (Nat.le_of_ble_eq_true rfl) dX5_init_74 (fun Ez297 hE296 => ?_)
  have f298 : Ez297 (1) = .inr (0, [.ref (a21_), .ref (a23_)]) := va_up_of hE296 (by first | decide | omega) f283
  have f299 : Ez297 (2) = aI cI 27 wdI := va_up_of hE296 (by first | decide | omega) f284
  have f300 : Ez297 (3) = aI cI 162 (dq 26 0) := va_up_of hE296 (by first | decide | omega) f285
  have f301 : Ez297 (4) = .inr (4, [.ref (a67_), .int (nI (0))]) := va_up_of hE296 (by first | decide | omega) f286
  have f302 : Ez297 (5) = aI cI 12 (fun _ => 0) := va_up_of hE296 (by first | decide | omega) f287
  have f303 : Ez297 (6) = .inr (2, [.ref (a120_), .int (nI (0))]) := va_up_of hE296 (by first | decide | omega) f288
  have f304 : Ez297 (26) = .inr (3, [.ref (a184_), .ref (a186_), .int (nI (0))]) := va_up_of hE296 (by first | decide | omega) f289
  have f305 : Ez297 (27) = aI cI 552 (fun _ => 0) := va_up_of hE296 (by first | decide | omega) f290
  have f306 : Ez297 (28) = aI cI 552 (fun _ => 0) := va_up_of hE296 (by first | decide | omega) f291
  have f307 : Ez297 (29) = aI cI 32 (fun _ => 0) := va_up_of hE296 (by first | decide | omega) f292
  have f309 : Ez297 (0) = .inr (5, [.ref (a1_), .ref (a35_), .ref (a80_), .ref (a134_), .ref (a205_), .int (nI (16)), .int (nI (4)), .int (nI (2)), .int (nI (0)), .int (nI (0)), .int (nI (0)), .int (nI (0))]) := va_up_eq hE296
  have g310 : ∀ k : Nat, (7 ≤ k ∧ k < 26) → Ez297 k = Ez101 k := fun k hk => va_up_of hE296 (by omega) (g295 k hk)
  refine z_aload_n C dX5_init_77 rfl ?_
  refine z_bipush C (nI (60)) dX5_init_78 (by decide) ?_
  refine z_put C (0) (Cn := RX5) (T := TX5) (N := 12) (fi := 9) tyX5 iw_X5_init_5 tyX5_ok nmX5 rfl (by decide) ln_X5_init_54 hX210_ (by first | decide | omega) hd211 f309 rfl rfl rfl rfl (Nat.le_of_ble_eq_true rfl) dX5_init_80 (fun Ez312 hE311 => ?_)
  have f313 : Ez312 (1) = .inr (0, [.ref (a21_), .ref (a23_)]) := va_up_of hE311 (by first | decide | omega) f298
  have f314 : Ez312 (2) = aI cI 27 wdI := va_up_of hE311 (by first | decide | omega) f299
  have f315 : Ez312 (3) = aI cI 162 (dq 26 0) := va_up_of hE311 (by first | decide | omega) f300
  have f316 : Ez312 (4) = .inr (4, [.ref (a67_), .int (nI (0))]) := va_up_of hE311 (by first | decide | omega) f301
  have f317 : Ez312 (5) = aI cI 12 (fun _ => 0) := va_up_of hE311 (by first | decide | omega) f302
  have f318 : Ez312 (6) = .inr (2, [.ref (a120_), .int (nI (0))]) := va_up_of hE311 (by first | decide | omega) f303
  have f319 : Ez312 (26) = .inr (3, [.ref (a184_), .ref (a186_), .int (nI (0))]) := va_up_of hE311 (by first | decide | omega) f304
  have f320 : Ez312 (27) = aI cI 552 (fun _ => 0) := va_up_of hE311 (by first | decide | omega) f305
  have f321 : Ez312 (28) = aI cI 552 (fun _ => 0) := va_up_of hE311 (by first | decide | omega) f306
  have f322 : Ez312 (29) = aI cI 32 (fun _ => 0) := va_up_of hE311 (by first | decide | omega) f307
  have f324 : Ez312 (0) = .inr (5, [.ref (a1_), .ref (a35_), .ref (a80_), .ref (a134_), .ref (a205_), .int (nI (16)), .int (nI (4)), .int (nI (2)), .int (nI (0)), .int (nI (60)), .int (nI (0)), .int (nI (0))]) := va_up_eq hE311
  have g325 : ∀ k : Nat, (7 ≤ k ∧ k < 26) → Ez312 k = Ez101 k := fun k hk => va_up_of hE311 (by omega) (g310 k hk)
  refine z_aload_n C dX5_init_83 rfl ?_
  refine z_iconst C (nI (0)) dX5_init_84 (by decide) ?_
  refine z_put C (0) (Cn := RX5) (T := TX5) (N := 12) (fi := 10) tyX5 iw_X5_init_5 tyX5_ok nmX5 rfl (by decide) ln_X5_init_57 hX210_ (by first | decide | omega) hd211 f324 rfl rfl rfl rfl (Nat.le_of_ble_eq_true rfl) dX5_init_85 (fun Ez327 hE326 => ?_)
  have f328 : Ez327 (1) = .inr (0, [.ref (a21_), .ref (a23_)]) := va_up_of hE326 (by first | decide | omega) f313
  have f329 : Ez327 (2) = aI cI 27 wdI := va_up_of hE326 (by first | decide | omega) f314
  have f330 : Ez327 (3) = aI cI 162 (dq 26 0) := va_up_of hE326 (by first | decide | omega) f315
  have f331 : Ez327 (4) = .inr (4, [.ref (a67_), .int (nI (0))]) := va_up_of hE326 (by first | decide | omega) f316
  have f332 : Ez327 (5) = aI cI 12 (fun _ => 0) := va_up_of hE326 (by first | decide | omega) f317
  have f333 : Ez327 (6) = .inr (2, [.ref (a120_), .int (nI (0))]) := va_up_of hE326 (by first | decide | omega) f318
  have f334 : Ez327 (26) = .inr (3, [.ref (a184_), .ref (a186_), .int (nI (0))]) := va_up_of hE326 (by first | decide | omega) f319
  have f335 : Ez327 (27) = aI cI 552 (fun _ => 0) := va_up_of hE326 (by first | decide | omega) f320
  have f336 : Ez327 (28) = aI cI 552 (fun _ => 0) := va_up_of hE326 (by first | decide | omega) f321
  have f337 : Ez327 (29) = aI cI 32 (fun _ => 0) := va_up_of hE326 (by first | decide | omega) f322
  have f339 : Ez327 (0) = .inr (5, [.ref (a1_), .ref (a35_), .ref (a80_), .ref (a134_), .ref (a205_), .int (nI (16)), .int (nI (4)), .int (nI (2)), .int (nI (0)), .int (nI (60)), .int (nI (0)), .int (nI (0))]) := va_up_eq hE326
  have g340 : ∀ k : Nat, (7 ≤ k ∧ k < 26) → Ez327 k = Ez101 k := fun k hk => va_up_of hE326 (by omega) (g325 k hk)
  refine z_aload_n C dX5_init_88 rfl ?_
  refine z_iconst C (nI (0)) dX5_init_89 (by decide) ?_
  refine z_put C (0) (Cn := RX5) (T := TX5) (N := 12) (fi := 11) tyX5 iw_X5_init_5 tyX5_ok nmX5 rfl (by decide) ln_X5_init_60 hX210_ (by first | decide | omega) hd211 f339 rfl rfl rfl rfl (Nat.le_of_ble_eq_true rfl) dX5_init_90 (fun Ez342 hE341 => ?_)
  have f343 : Ez342 (1) = .inr (0, [.ref (a21_), .ref (a23_)]) := va_up_of hE341 (by first | decide | omega) f328
  have f344 : Ez342 (2) = aI cI 27 wdI := va_up_of hE341 (by first | decide | omega) f329
  have f345 : Ez342 (3) = aI cI 162 (dq 26 0) := va_up_of hE341 (by first | decide | omega) f330
  have f346 : Ez342 (4) = .inr (4, [.ref (a67_), .int (nI (0))]) := va_up_of hE341 (by first | decide | omega) f331
  have f347 : Ez342 (5) = aI cI 12 (fun _ => 0) := va_up_of hE341 (by first | decide | omega) f332
  have f348 : Ez342 (6) = .inr (2, [.ref (a120_), .int (nI (0))]) := va_up_of hE341 (by first | decide | omega) f333
  have f349 : Ez342 (26) = .inr (3, [.ref (a184_), .ref (a186_), .int (nI (0))]) := va_up_of hE341 (by first | decide | omega) f334
  have f350 : Ez342 (27) = aI cI 552 (fun _ => 0) := va_up_of hE341 (by first | decide | omega) f335
  have f351 : Ez342 (28) = aI cI 552 (fun _ => 0) := va_up_of hE341 (by first | decide | omega) f336
  have f352 : Ez342 (29) = aI cI 32 (fun _ => 0) := va_up_of hE341 (by first | decide | omega) f337
  have f354 : Ez342 (0) = .inr (5, [.ref (a1_), .ref (a35_), .ref (a80_), .ref (a134_), .ref (a205_), .int (nI (16)), .int (nI (4)), .int (nI (2)), .int (nI (0)), .int (nI (60)), .int (nI (0)), .int (nI (0))]) := va_up_eq hE341
  have g355 : ∀ k : Nat, (7 ≤ k ∧ k < 26) → Ez342 k = Ez101 k := fun k hk => va_up_of hE341 (by omega) (g340 k hk)
  refine z_sameq (k0 := 7) (fun i => some (ad206_ (6 + (2 + 3 * i)))) ((g355 7 (by omega)).trans hsl0) (fun i hi => by rw [ga223 _ (by omega)]) (fun E9 hE9 => ?_)
  have f356 : E9 (1) = .inr (0, [.ref (a21_), .ref (a23_)]) := va_up_of hE9 (by decide) f343
  have f357 : E9 (2) = aI cI 27 wdI := va_up_of hE9 (by decide) f344
  have f358 : E9 (3) = aI cI 162 (dq 26 0) := va_up_of hE9 (by decide) f345
  have f359 : E9 (4) = .inr (4, [.ref (a67_), .int (nI (0))]) := va_up_of hE9 (by decide) f346
  have f360 : E9 (5) = aI cI 12 (fun _ => 0) := va_up_of hE9 (by decide) f347
  have f361 : E9 (6) = .inr (2, [.ref (a120_), .int (nI (0))]) := va_up_of hE9 (by decide) f348
  have f362 : E9 (26) = .inr (3, [.ref (a184_), .ref (a186_), .int (nI (0))]) := va_up_of hE9 (by decide) f349
  have f363 : E9 (27) = aI cI 552 (fun _ => 0) := va_up_of hE9 (by decide) f350
  have f364 : E9 (28) = aI cI 552 (fun _ => 0) := va_up_of hE9 (by decide) f351
  have f365 : E9 (29) = aI cI 32 (fun _ => 0) := va_up_of hE9 (by decide) f352
  have f366 : E9 (0) = .inr (5, [.ref (a1_), .ref (a35_), .ref (a80_), .ref (a134_), .ref (a205_), .int (nI (16)), .int (nI (4)), .int (nI (2)), .int (nI (0)), .int (nI (60)), .int (nI (0)), .int (nI (0))]) := va_up_of hE9 (by decide) f354
  have hsl9 : E9 7 = _ := va_up_eq hE9
  have g9 : ∀ k : Nat, (8 ≤ k ∧ k < 26) → E9 k = Ez101 k := fun k hk => va_up_of hE9 (by omega) (g355 k (by omega))
  exact hend _ _ _ _ dX5_init_93 hd211 hX210_ (relx_00 (by rw [hd212, hd215, hd217, hd219, hd222]; exact f366) (by rw [hd213, hd214]; exact f356) f357 f358 (by rw [hd216]; exact f359) f360 (by rw [hd218]; exact f361) hsl9 (fun i hi => (hmb0 i hi).mv (fun k hk => ga223 k (by omega)) (fun k hk => g9 k (by omega))) (by rw [hd220, hd221]; exact f362) f363 f364 f365)

def MB6 (cI : ClassId) (ad : Nat → Nat) (E : Nat → va_E) : Prop := E 0 = .inr (6, [.int (nI 16), .int (nI 4), .int (nI 2), .int (nI 0), .int (nI 60), .int (nI 0), .int (nI 0), .ref (ad 1), .ref (ad 2), .ref (ad 3), .int (nI 0), .ref (ad 4), .int (nI 0), .ref (ad 5), .ref (ad 6), .ref (ad 7), .int (nI 0), .ref (ad 8), .ref (ad 9)]) ∧ E 1 = aI cI 27 wdI ∧ E 2 = aI cI 162 (dq 26 0) ∧ E 3 = aI cI 32 (fun _ => 0) ∧ E 4 = aI cI 12 (fun _ => 0) ∧ E 5 = aI cI 6 (fun _ => 0) ∧ E 6 = aI cI 6 (fun _ => 0) ∧ E 7 = aI cI 72 (fun _ => 0) ∧ E 8 = aI cI 600 (fun _ => 0) ∧ E 9 = aI cI 600 (fun _ => 0)
theorem iw_X6_init_6 : ∀ w ∈ wsX60, w ∈ wsX6_init := by decide +kernel
theorem ln_X6_init_7 : Cond.fieldLink RX6 7 "MarqueeDisplayModel" "columns" "I" ∈ wsX6_init := by decide +kernel
theorem ln_X6_init_13 : Cond.fieldLink RX6 13 "MarqueeDisplayModel" "gap" "I" ∈ wsX6_init := by decide +kernel
theorem ln_X6_init_16 : Cond.fieldLink RX6 16 "MarqueeDisplayModel" "speed" "I" ∈ wsX6_init := by decide +kernel
theorem ln_X6_init_19 : Cond.fieldLink RX6 19 "MarqueeDisplayModel" "budget" "I" ∈ wsX6_init := by decide +kernel
theorem ln_X6_init_22 : Cond.fieldLink RX6 22 "MarqueeDisplayModel" "width" "[I" ∈ wsX6_init := by decide +kernel
theorem ln_X6_init_26 : Cond.fieldLink RX6 26 "MarqueeDisplayModel" "glyph" "[I" ∈ wsX6_init := by decide +kernel
theorem ln_X6_init_29 : Cond.fieldLink RX6 29 "MarqueeDisplayModel" "defective" "[I" ∈ wsX6_init := by decide +kernel
theorem ln_X6_init_32 : Cond.fieldLink RX6 32 "MarqueeDisplayModel" "text" "[I" ∈ wsX6_init := by decide +kernel
theorem ln_X6_init_35 : Cond.fieldLink RX6 35 "MarqueeDisplayModel" "size" "[I" ∈ wsX6_init := by decide +kernel
theorem ln_X6_init_38 : Cond.fieldLink RX6 38 "MarqueeDisplayModel" "color" "[I" ∈ wsX6_init := by decide +kernel
theorem ln_X6_init_41 : Cond.fieldLink RX6 41 "MarqueeDisplayModel" "letter" "[I" ∈ wsX6_init := by decide +kernel
theorem ln_X6_init_44 : Cond.fieldLink RX6 44 "MarqueeDisplayModel" "dots" "[I" ∈ wsX6_init := by decide +kernel
theorem ln_X6_init_47 : Cond.fieldLink RX6 47 "MarqueeDisplayModel" "paint" "[I" ∈ wsX6_init := by decide +kernel
set_option maxHeartbeats 4000000 in
set_option maxRecDepth 100000 in
theorem k_X6_init (vl : Launch) (D : va_G) (cI cM : ClassId) : CI vl yX6_init wsX6_init { frames := 1, cells := 9, slots := 1517, locals := 12 } D cI cM 6 [.int (nI (0)), .int (nI (0)), .int (nI (0)), .int (nI (0)), .int (nI (0)), .int (nI (0)), .int (nI (0)), .null, .null, .null, .int (nI (0)), .null, .int (nI (0)), .null, .null, .null, .int (nI (0)), .null, .null] 10 9 1517 (fun ad1 E1 => MB6 cI ad1 E1) := by
  refine mc_of cX6_init 3 RX6 (by decide) rfl rfl rfl (Nat.le_of_ble_eq_true rfl) ?_
  intro A vp ve vs vm va vb vt vc Q a0 ad0 E0 C hao hA hnm hX0 h0 f0 hend
  refine z_aload_n C dX6_init_0 rfl ?_
  refine z_objInit C (by decide +kernel) (by decide +kernel) (by decide +kernel) (Nat.le_of_ble_eq_true rfl) (Nat.le_of_ble_eq_true rfl) dX6_init_1 ?_
  refine z_aload_n C dX6_init_4 rfl ?_
  refine z_bipush C (nI (16)) dX6_init_5 (by decide) ?_
  refine z_put C (0) (Cn := RX6) (T := TX6) (N := 19) (fi := 0) tyX6 iw_X6_init_6 tyX6_ok nmX6 rfl (by decide) ln_X6_init_7 hX0 (by first | decide | omega) h0 f0 rfl rfl rfl rfl (Nat.le_of_ble_eq_true rfl) dX6_init_7 (fun Ez2 hE1 => ?_)
  have f4 : Ez2 (0) = .inr (6, [.int (nI (16)), .int (nI (0)), .int (nI (0)), .int (nI (0)), .int (nI (0)), .int (nI (0)), .int (nI (0)), .null, .null, .null, .int (nI (0)), .null, .int (nI (0)), .null, .null, .null, .int (nI (0)), .null, .null]) := va_up_eq hE1
  refine z_aload_n C dX6_init_10 rfl ?_
  refine z_iconst C (nI (4)) dX6_init_11 (by decide) ?_
  refine z_put C (0) (Cn := RX6) (T := TX6) (N := 19) (fi := 1) tyX6 iw_X6_init_6 tyX6_ok nmX6 rfl (by decide) ln_X6_init_13 hX0 (by first | decide | omega) h0 f4 rfl rfl rfl rfl (Nat.le_of_ble_eq_true rfl) dX6_init_12 (fun Ez6 hE5 => ?_)
  have f8 : Ez6 (0) = .inr (6, [.int (nI (16)), .int (nI (4)), .int (nI (0)), .int (nI (0)), .int (nI (0)), .int (nI (0)), .int (nI (0)), .null, .null, .null, .int (nI (0)), .null, .int (nI (0)), .null, .null, .null, .int (nI (0)), .null, .null]) := va_up_eq hE5
  refine z_aload_n C dX6_init_15 rfl ?_
  refine z_iconst C (nI (2)) dX6_init_16 (by decide) ?_
  refine z_put C (0) (Cn := RX6) (T := TX6) (N := 19) (fi := 2) tyX6 iw_X6_init_6 tyX6_ok nmX6 rfl (by decide) ln_X6_init_16 hX0 (by first | decide | omega) h0 f8 rfl rfl rfl rfl (Nat.le_of_ble_eq_true rfl) dX6_init_17 (fun Ez10 hE9 => ?_)
  have f12 : Ez10 (0) = .inr (6, [.int (nI (16)), .int (nI (4)), .int (nI (2)), .int (nI (0)), .int (nI (0)), .int (nI (0)), .int (nI (0)), .null, .null, .null, .int (nI (0)), .null, .int (nI (0)), .null, .null, .null, .int (nI (0)), .null, .null]) := va_up_eq hE9
  refine z_aload_n C dX6_init_20 rfl ?_
  refine z_bipush C (nI (60)) dX6_init_21 (by decide) ?_
  refine z_put C (0) (Cn := RX6) (T := TX6) (N := 19) (fi := 4) tyX6 iw_X6_init_6 tyX6_ok nmX6 rfl (by decide) ln_X6_init_19 hX0 (by first | decide | omega) h0 f12 rfl rfl rfl rfl (Nat.le_of_ble_eq_true rfl) dX6_init_23 (fun Ez14 hE13 => ?_)
  have f16 : Ez14 (0) = .inr (6, [.int (nI (16)), .int (nI (4)), .int (nI (2)), .int (nI (0)), .int (nI (60)), .int (nI (0)), .int (nI (0)), .null, .null, .null, .int (nI (0)), .null, .int (nI (0)), .null, .null, .null, .int (nI (0)), .null, .null]) := va_up_eq hE13
  refine z_aload_n C dX6_init_26 rfl ?_
  refine z_bipush C (nI (27)) dX6_init_27 (by decide) ?_
  refine z_newa C (by decide +kernel) hX0 hA (Nat.le_of_ble_eq_true rfl) (Nat.le_of_ble_eq_true rfl) (Nat.le_of_ble_eq_true rfl) (Nat.le_of_ble_eq_true rfl) dX6_init_29 (fun a17_ ad18_ Ez19 had20 hE21 hX22_ => ?_)
  have hd23 : ad18_ (0) = a0 := va_up_of had20 (by first | decide | omega) h0
  have hd24 : ad18_ (1) = a17_ := va_up_eq had20
  have f25 : Ez19 (0) = .inr (6, [.int (nI (16)), .int (nI (4)), .int (nI (2)), .int (nI (0)), .int (nI (60)), .int (nI (0)), .int (nI (0)), .null, .null, .null, .int (nI (0)), .null, .int (nI (0)), .null, .null, .null, .int (nI (0)), .null, .null]) := va_up_of hE21 (by first | decide | omega) f16
  have f26 : Ez19 (1) = aI cI 27 (fun _ => 0) := va_up_eq hE21
  refine z_putF C (0) (Cn := RX6) (T := TX6) (N := 19) (fi := 7) tyX6 iw_X6_init_6 tyX6_ok nmX6 rfl (by decide) ln_X6_init_22 hX22_ (by first | decide | omega) hd23 f25 rfl hnm rfl rfl rfl rfl (Nat.le_of_ble_eq_true rfl) dX6_init_31 (fun Ez28 hE27 => ?_)
  have f30 : Ez28 (1) = aI cI 27 (fun _ => 0) := va_up_of hE27 (by first | decide | omega) f26
  have f31 : Ez28 (0) = .inr (6, [.int (nI (16)), .int (nI (4)), .int (nI (2)), .int (nI (0)), .int (nI (60)), .int (nI (0)), .int (nI (0)), .ref (a17_), .null, .null, .int (nI (0)), .null, .int (nI (0)), .null, .null, .null, .int (nI (0)), .null, .null]) := va_up_eq hE27
  refine z_aload_n C dX6_init_34 rfl ?_
  refine z_sipush C (nI (162)) dX6_init_35 (by decide) ?_
  refine z_newa C (by decide +kernel) hX22_ hA (Nat.le_of_ble_eq_true rfl) (Nat.le_of_ble_eq_true rfl) (Nat.le_of_ble_eq_true rfl) (Nat.le_of_ble_eq_true rfl) dX6_init_38 (fun a32_ ad33_ Ez34 had35 hE36 hX37_ => ?_)
  have hd38 : ad33_ (0) = a0 := va_up_of had35 (by first | decide | omega) hd23
  have hd39 : ad33_ (1) = a17_ := va_up_of had35 (by first | decide | omega) hd24
  have hd40 : ad33_ (2) = a32_ := va_up_eq had35
  have f41 : Ez34 (1) = aI cI 27 (fun _ => 0) := va_up_of hE36 (by first | decide | omega) f30
  have f42 : Ez34 (0) = .inr (6, [.int (nI (16)), .int (nI (4)), .int (nI (2)), .int (nI (0)), .int (nI (60)), .int (nI (0)), .int (nI (0)), .ref (a17_), .null, .null, .int (nI (0)), .null, .int (nI (0)), .null, .null, .null, .int (nI (0)), .null, .null]) := va_up_of hE36 (by first | decide | omega) f31
  have f43 : Ez34 (2) = aI cI 162 (fun _ => 0) := va_up_eq hE36
  refine z_putF C (0) (Cn := RX6) (T := TX6) (N := 19) (fi := 8) tyX6 iw_X6_init_6 tyX6_ok nmX6 rfl (by decide) ln_X6_init_26 hX37_ (by first | decide | omega) hd38 f42 rfl hnm rfl rfl rfl rfl (Nat.le_of_ble_eq_true rfl) dX6_init_40 (fun Ez45 hE44 => ?_)
  have f46 : Ez45 (1) = aI cI 27 (fun _ => 0) := va_up_of hE44 (by first | decide | omega) f41
  have f48 : Ez45 (2) = aI cI 162 (fun _ => 0) := va_up_of hE44 (by first | decide | omega) f43
  have f49 : Ez45 (0) = .inr (6, [.int (nI (16)), .int (nI (4)), .int (nI (2)), .int (nI (0)), .int (nI (60)), .int (nI (0)), .int (nI (0)), .ref (a17_), .ref (a32_), .null, .int (nI (0)), .null, .int (nI (0)), .null, .null, .null, .int (nI (0)), .null, .null]) := va_up_eq hE44
  refine z_aload_n C dX6_init_43 rfl ?_
  refine z_bipush C (nI (32)) dX6_init_44 (by decide) ?_
  refine z_newa C (by decide +kernel) hX37_ hA (Nat.le_of_ble_eq_true rfl) (Nat.le_of_ble_eq_true rfl) (Nat.le_of_ble_eq_true rfl) (Nat.le_of_ble_eq_true rfl) dX6_init_46 (fun a50_ ad51_ Ez52 had53 hE54 hX55_ => ?_)
  have hd56 : ad51_ (0) = a0 := va_up_of had53 (by first | decide | omega) hd38
  have hd57 : ad51_ (1) = a17_ := va_up_of had53 (by first | decide | omega) hd39
  have hd58 : ad51_ (2) = a32_ := va_up_of had53 (by first | decide | omega) hd40
  have hd59 : ad51_ (3) = a50_ := va_up_eq had53
  have f60 : Ez52 (1) = aI cI 27 (fun _ => 0) := va_up_of hE54 (by first | decide | omega) f46
  have f61 : Ez52 (2) = aI cI 162 (fun _ => 0) := va_up_of hE54 (by first | decide | omega) f48
  have f62 : Ez52 (0) = .inr (6, [.int (nI (16)), .int (nI (4)), .int (nI (2)), .int (nI (0)), .int (nI (60)), .int (nI (0)), .int (nI (0)), .ref (a17_), .ref (a32_), .null, .int (nI (0)), .null, .int (nI (0)), .null, .null, .null, .int (nI (0)), .null, .null]) := va_up_of hE54 (by first | decide | omega) f49
  have f63 : Ez52 (3) = aI cI 32 (fun _ => 0) := va_up_eq hE54
  refine z_putF C (0) (Cn := RX6) (T := TX6) (N := 19) (fi := 9) tyX6 iw_X6_init_6 tyX6_ok nmX6 rfl (by decide) ln_X6_init_29 hX55_ (by first | decide | omega) hd56 f62 rfl hnm rfl rfl rfl rfl (Nat.le_of_ble_eq_true rfl) dX6_init_48 (fun Ez65 hE64 => ?_)
  have f66 : Ez65 (1) = aI cI 27 (fun _ => 0) := va_up_of hE64 (by first | decide | omega) f60
  have f67 : Ez65 (2) = aI cI 162 (fun _ => 0) := va_up_of hE64 (by first | decide | omega) f61
  have f69 : Ez65 (3) = aI cI 32 (fun _ => 0) := va_up_of hE64 (by first | decide | omega) f63
  have f70 : Ez65 (0) = .inr (6, [.int (nI (16)), .int (nI (4)), .int (nI (2)), .int (nI (0)), .int (nI (60)), .int (nI (0)), .int (nI (0)), .ref (a17_), .ref (a32_), .ref (a50_), .int (nI (0)), .null, .int (nI (0)), .null, .null, .null, .int (nI (0)), .null, .null]) := va_up_eq hE64
  refine z_aload_n C dX6_init_51 rfl ?_
  refine z_bipush C (nI (12)) dX6_init_52 (by decide) ?_
  refine z_newa C (by decide +kernel) hX55_ hA (Nat.le_of_ble_eq_true rfl) (Nat.le_of_ble_eq_true rfl) (Nat.le_of_ble_eq_true rfl) (Nat.le_of_ble_eq_true rfl) dX6_init_54 (fun a71_ ad72_ Ez73 had74 hE75 hX76_ => ?_)
  have hd77 : ad72_ (0) = a0 := va_up_of had74 (by first | decide | omega) hd56
  have hd78 : ad72_ (1) = a17_ := va_up_of had74 (by first | decide | omega) hd57
  have hd79 : ad72_ (2) = a32_ := va_up_of had74 (by first | decide | omega) hd58
  have hd80 : ad72_ (3) = a50_ := va_up_of had74 (by first | decide | omega) hd59
  have hd81 : ad72_ (4) = a71_ := va_up_eq had74
  have f82 : Ez73 (1) = aI cI 27 (fun _ => 0) := va_up_of hE75 (by first | decide | omega) f66
  have f83 : Ez73 (2) = aI cI 162 (fun _ => 0) := va_up_of hE75 (by first | decide | omega) f67
  have f84 : Ez73 (3) = aI cI 32 (fun _ => 0) := va_up_of hE75 (by first | decide | omega) f69
  have f85 : Ez73 (0) = .inr (6, [.int (nI (16)), .int (nI (4)), .int (nI (2)), .int (nI (0)), .int (nI (60)), .int (nI (0)), .int (nI (0)), .ref (a17_), .ref (a32_), .ref (a50_), .int (nI (0)), .null, .int (nI (0)), .null, .null, .null, .int (nI (0)), .null, .null]) := va_up_of hE75 (by first | decide | omega) f70
  have f86 : Ez73 (4) = aI cI 12 (fun _ => 0) := va_up_eq hE75
  refine z_putF C (0) (Cn := RX6) (T := TX6) (N := 19) (fi := 11) tyX6 iw_X6_init_6 tyX6_ok nmX6 rfl (by decide) ln_X6_init_32 hX76_ (by first | decide | omega) hd77 f85 rfl hnm rfl rfl rfl rfl (Nat.le_of_ble_eq_true rfl) dX6_init_56 (fun Ez88 hE87 => ?_)
  have f89 : Ez88 (1) = aI cI 27 (fun _ => 0) := va_up_of hE87 (by first | decide | omega) f82
  have f90 : Ez88 (2) = aI cI 162 (fun _ => 0) := va_up_of hE87 (by first | decide | omega) f83
  have f91 : Ez88 (3) = aI cI 32 (fun _ => 0) := va_up_of hE87 (by first | decide | omega) f84
  have f93 : Ez88 (4) = aI cI 12 (fun _ => 0) := va_up_of hE87 (by first | decide | omega) f86
  have f94 : Ez88 (0) = .inr (6, [.int (nI (16)), .int (nI (4)), .int (nI (2)), .int (nI (0)), .int (nI (60)), .int (nI (0)), .int (nI (0)), .ref (a17_), .ref (a32_), .ref (a50_), .int (nI (0)), .ref (a71_), .int (nI (0)), .null, .null, .null, .int (nI (0)), .null, .null]) := va_up_eq hE87
  refine z_aload_n C dX6_init_59 rfl ?_
  refine z_bipush C (nI (6)) dX6_init_60 (by decide) ?_
  refine z_newa C (by decide +kernel) hX76_ hA (Nat.le_of_ble_eq_true rfl) (Nat.le_of_ble_eq_true rfl) (Nat.le_of_ble_eq_true rfl) (Nat.le_of_ble_eq_true rfl) dX6_init_62 (fun a95_ ad96_ Ez97 had98 hE99 hX100_ => ?_)
  have hd101 : ad96_ (0) = a0 := va_up_of had98 (by first | decide | omega) hd77
  have hd102 : ad96_ (1) = a17_ := va_up_of had98 (by first | decide | omega) hd78
  have hd103 : ad96_ (2) = a32_ := va_up_of had98 (by first | decide | omega) hd79
  have hd104 : ad96_ (3) = a50_ := va_up_of had98 (by first | decide | omega) hd80
  have hd105 : ad96_ (4) = a71_ := va_up_of had98 (by first | decide | omega) hd81
  have hd106 : ad96_ (5) = a95_ := va_up_eq had98
  have f107 : Ez97 (1) = aI cI 27 (fun _ => 0) := va_up_of hE99 (by first | decide | omega) f89
  have f108 : Ez97 (2) = aI cI 162 (fun _ => 0) := va_up_of hE99 (by first | decide | omega) f90
  have f109 : Ez97 (3) = aI cI 32 (fun _ => 0) := va_up_of hE99 (by first | decide | omega) f91
  have f110 : Ez97 (4) = aI cI 12 (fun _ => 0) := va_up_of hE99 (by first | decide | omega) f93
  have f111 : Ez97 (0) = .inr (6, [.int (nI (16)), .int (nI (4)), .int (nI (2)), .int (nI (0)), .int (nI (60)), .int (nI (0)), .int (nI (0)), .ref (a17_), .ref (a32_), .ref (a50_), .int (nI (0)), .ref (a71_), .int (nI (0)), .null, .null, .null, .int (nI (0)), .null, .null]) := va_up_of hE99 (by first | decide | omega) f94
  have f112 : Ez97 (5) = aI cI 6 (fun _ => 0) := va_up_eq hE99
  refine z_putF C (0) (Cn := RX6) (T := TX6) (N := 19) (fi := 13) tyX6 iw_X6_init_6 tyX6_ok nmX6 rfl (by decide) ln_X6_init_35 hX100_ (by first | decide | omega) hd101 f111 rfl hnm rfl rfl rfl rfl (Nat.le_of_ble_eq_true rfl) dX6_init_64 (fun Ez114 hE113 => ?_)
  have f115 : Ez114 (1) = aI cI 27 (fun _ => 0) := va_up_of hE113 (by first | decide | omega) f107
  have f116 : Ez114 (2) = aI cI 162 (fun _ => 0) := va_up_of hE113 (by first | decide | omega) f108
  have f117 : Ez114 (3) = aI cI 32 (fun _ => 0) := va_up_of hE113 (by first | decide | omega) f109
  have f118 : Ez114 (4) = aI cI 12 (fun _ => 0) := va_up_of hE113 (by first | decide | omega) f110
  have f120 : Ez114 (5) = aI cI 6 (fun _ => 0) := va_up_of hE113 (by first | decide | omega) f112
  have f121 : Ez114 (0) = .inr (6, [.int (nI (16)), .int (nI (4)), .int (nI (2)), .int (nI (0)), .int (nI (60)), .int (nI (0)), .int (nI (0)), .ref (a17_), .ref (a32_), .ref (a50_), .int (nI (0)), .ref (a71_), .int (nI (0)), .ref (a95_), .null, .null, .int (nI (0)), .null, .null]) := va_up_eq hE113
  refine z_aload_n C dX6_init_67 rfl ?_
  refine z_bipush C (nI (6)) dX6_init_68 (by decide) ?_
  refine z_newa C (by decide +kernel) hX100_ hA (Nat.le_of_ble_eq_true rfl) (Nat.le_of_ble_eq_true rfl) (Nat.le_of_ble_eq_true rfl) (Nat.le_of_ble_eq_true rfl) dX6_init_70 (fun a122_ ad123_ Ez124 had125 hE126 hX127_ => ?_)
  have hd128 : ad123_ (0) = a0 := va_up_of had125 (by first | decide | omega) hd101
  have hd129 : ad123_ (1) = a17_ := va_up_of had125 (by first | decide | omega) hd102
  have hd130 : ad123_ (2) = a32_ := va_up_of had125 (by first | decide | omega) hd103
  have hd131 : ad123_ (3) = a50_ := va_up_of had125 (by first | decide | omega) hd104
  have hd132 : ad123_ (4) = a71_ := va_up_of had125 (by first | decide | omega) hd105
  have hd133 : ad123_ (5) = a95_ := va_up_of had125 (by first | decide | omega) hd106
  have hd134 : ad123_ (6) = a122_ := va_up_eq had125
  have f135 : Ez124 (1) = aI cI 27 (fun _ => 0) := va_up_of hE126 (by first | decide | omega) f115
  have f136 : Ez124 (2) = aI cI 162 (fun _ => 0) := va_up_of hE126 (by first | decide | omega) f116
  have f137 : Ez124 (3) = aI cI 32 (fun _ => 0) := va_up_of hE126 (by first | decide | omega) f117
  have f138 : Ez124 (4) = aI cI 12 (fun _ => 0) := va_up_of hE126 (by first | decide | omega) f118
  have f139 : Ez124 (5) = aI cI 6 (fun _ => 0) := va_up_of hE126 (by first | decide | omega) f120
  have f140 : Ez124 (0) = .inr (6, [.int (nI (16)), .int (nI (4)), .int (nI (2)), .int (nI (0)), .int (nI (60)), .int (nI (0)), .int (nI (0)), .ref (a17_), .ref (a32_), .ref (a50_), .int (nI (0)), .ref (a71_), .int (nI (0)), .ref (a95_), .null, .null, .int (nI (0)), .null, .null]) := va_up_of hE126 (by first | decide | omega) f121
  have f141 : Ez124 (6) = aI cI 6 (fun _ => 0) := va_up_eq hE126
  refine z_putF C (0) (Cn := RX6) (T := TX6) (N := 19) (fi := 14) tyX6 iw_X6_init_6 tyX6_ok nmX6 rfl (by decide) ln_X6_init_38 hX127_ (by first | decide | omega) hd128 f140 rfl hnm rfl rfl rfl rfl (Nat.le_of_ble_eq_true rfl) dX6_init_72 (fun Ez143 hE142 => ?_)
  have f144 : Ez143 (1) = aI cI 27 (fun _ => 0) := va_up_of hE142 (by first | decide | omega) f135
  have f145 : Ez143 (2) = aI cI 162 (fun _ => 0) := va_up_of hE142 (by first | decide | omega) f136
  have f146 : Ez143 (3) = aI cI 32 (fun _ => 0) := va_up_of hE142 (by first | decide | omega) f137
  have f147 : Ez143 (4) = aI cI 12 (fun _ => 0) := va_up_of hE142 (by first | decide | omega) f138
  have f148 : Ez143 (5) = aI cI 6 (fun _ => 0) := va_up_of hE142 (by first | decide | omega) f139
  have f150 : Ez143 (6) = aI cI 6 (fun _ => 0) := va_up_of hE142 (by first | decide | omega) f141
  have f151 : Ez143 (0) = .inr (6, [.int (nI (16)), .int (nI (4)), .int (nI (2)), .int (nI (0)), .int (nI (60)), .int (nI (0)), .int (nI (0)), .ref (a17_), .ref (a32_), .ref (a50_), .int (nI (0)), .ref (a71_), .int (nI (0)), .ref (a95_), .ref (a122_), .null, .int (nI (0)), .null, .null]) := va_up_eq hE142
  refine z_aload_n C dX6_init_75 rfl ?_
  refine z_bipush C (nI (72)) dX6_init_76 (by decide) ?_
  refine z_newa C (by decide +kernel) hX127_ hA (Nat.le_of_ble_eq_true rfl) (Nat.le_of_ble_eq_true rfl) (Nat.le_of_ble_eq_true rfl) (Nat.le_of_ble_eq_true rfl) dX6_init_78 (fun a152_ ad153_ Ez154 had155 hE156 hX157_ => ?_)
  have hd158 : ad153_ (0) = a0 := va_up_of had155 (by first | decide | omega) hd128
  have hd159 : ad153_ (1) = a17_ := va_up_of had155 (by first | decide | omega) hd129
  have hd160 : ad153_ (2) = a32_ := va_up_of had155 (by first | decide | omega) hd130
  have hd161 : ad153_ (3) = a50_ := va_up_of had155 (by first | decide | omega) hd131
  have hd162 : ad153_ (4) = a71_ := va_up_of had155 (by first | decide | omega) hd132
  have hd163 : ad153_ (5) = a95_ := va_up_of had155 (by first | decide | omega) hd133
  have hd164 : ad153_ (6) = a122_ := va_up_of had155 (by first | decide | omega) hd134
  have hd165 : ad153_ (7) = a152_ := va_up_eq had155
  have f166 : Ez154 (1) = aI cI 27 (fun _ => 0) := va_up_of hE156 (by first | decide | omega) f144
  have f167 : Ez154 (2) = aI cI 162 (fun _ => 0) := va_up_of hE156 (by first | decide | omega) f145
  have f168 : Ez154 (3) = aI cI 32 (fun _ => 0) := va_up_of hE156 (by first | decide | omega) f146
  have f169 : Ez154 (4) = aI cI 12 (fun _ => 0) := va_up_of hE156 (by first | decide | omega) f147
  have f170 : Ez154 (5) = aI cI 6 (fun _ => 0) := va_up_of hE156 (by first | decide | omega) f148
  have f171 : Ez154 (6) = aI cI 6 (fun _ => 0) := va_up_of hE156 (by first | decide | omega) f150
  have f172 : Ez154 (0) = .inr (6, [.int (nI (16)), .int (nI (4)), .int (nI (2)), .int (nI (0)), .int (nI (60)), .int (nI (0)), .int (nI (0)), .ref (a17_), .ref (a32_), .ref (a50_), .int (nI (0)), .ref (a71_), .int (nI (0)), .ref (a95_), .ref (a122_), .null, .int (nI (0)), .null, .null]) := va_up_of hE156 (by first | decide | omega) f151
  have f173 : Ez154 (7) = aI cI 72 (fun _ => 0) := va_up_eq hE156
  refine z_putF C (0) (Cn := RX6) (T := TX6) (N := 19) (fi := 15) tyX6 iw_X6_init_6 tyX6_ok nmX6 rfl (by decide) ln_X6_init_41 hX157_ (by first | decide | omega) hd158 f172 rfl hnm rfl rfl rfl rfl (Nat.le_of_ble_eq_true rfl) dX6_init_80 (fun Ez175 hE174 => ?_)
  have f176 : Ez175 (1) = aI cI 27 (fun _ => 0) := va_up_of hE174 (by first | decide | omega) f166
  have f177 : Ez175 (2) = aI cI 162 (fun _ => 0) := va_up_of hE174 (by first | decide | omega) f167
  have f178 : Ez175 (3) = aI cI 32 (fun _ => 0) := va_up_of hE174 (by first | decide | omega) f168
  have f179 : Ez175 (4) = aI cI 12 (fun _ => 0) := va_up_of hE174 (by first | decide | omega) f169
  have f180 : Ez175 (5) = aI cI 6 (fun _ => 0) := va_up_of hE174 (by first | decide | omega) f170
  have f181 : Ez175 (6) = aI cI 6 (fun _ => 0) := va_up_of hE174 (by first | decide | omega) f171
  have f183 : Ez175 (7) = aI cI 72 (fun _ => 0) := va_up_of hE174 (by first | decide | omega) f173
  have f184 : Ez175 (0) = .inr (6, [.int (nI (16)), .int (nI (4)), .int (nI (2)), .int (nI (0)), .int (nI (60)), .int (nI (0)), .int (nI (0)), .ref (a17_), .ref (a32_), .ref (a50_), .int (nI (0)), .ref (a71_), .int (nI (0)), .ref (a95_), .ref (a122_), .ref (a152_), .int (nI (0)), .null, .null]) := va_up_eq hE174
  refine z_aload_n C dX6_init_83 rfl ?_
  refine z_sipush C (nI (600)) dX6_init_84 (by decide) ?_
  refine z_newa C (by decide +kernel) hX157_ hA (Nat.le_of_ble_eq_true rfl) (Nat.le_of_ble_eq_true rfl) (Nat.le_of_ble_eq_true rfl) (Nat.le_of_ble_eq_true rfl) dX6_init_87 (fun a185_ ad186_ Ez187 had188 hE189 hX190_ => ?_)
  have hd191 : ad186_ (0) = a0 := va_up_of had188 (by first | decide | omega) hd158
  have hd192 : ad186_ (1) = a17_ := va_up_of had188 (by first | decide | omega) hd159
  have hd193 : ad186_ (2) = a32_ := va_up_of had188 (by first | decide | omega) hd160
  have hd194 : ad186_ (3) = a50_ := va_up_of had188 (by first | decide | omega) hd161
  have hd195 : ad186_ (4) = a71_ := va_up_of had188 (by first | decide | omega) hd162
  have hd196 : ad186_ (5) = a95_ := va_up_of had188 (by first | decide | omega) hd163
  have hd197 : ad186_ (6) = a122_ := va_up_of had188 (by first | decide | omega) hd164
  have hd198 : ad186_ (7) = a152_ := va_up_of had188 (by first | decide | omega) hd165
  have hd199 : ad186_ (8) = a185_ := va_up_eq had188
  have f200 : Ez187 (1) = aI cI 27 (fun _ => 0) := va_up_of hE189 (by first | decide | omega) f176
  have f201 : Ez187 (2) = aI cI 162 (fun _ => 0) := va_up_of hE189 (by first | decide | omega) f177
  have f202 : Ez187 (3) = aI cI 32 (fun _ => 0) := va_up_of hE189 (by first | decide | omega) f178
  have f203 : Ez187 (4) = aI cI 12 (fun _ => 0) := va_up_of hE189 (by first | decide | omega) f179
  have f204 : Ez187 (5) = aI cI 6 (fun _ => 0) := va_up_of hE189 (by first | decide | omega) f180
  have f205 : Ez187 (6) = aI cI 6 (fun _ => 0) := va_up_of hE189 (by first | decide | omega) f181
  have f206 : Ez187 (7) = aI cI 72 (fun _ => 0) := va_up_of hE189 (by first | decide | omega) f183
  have f207 : Ez187 (0) = .inr (6, [.int (nI (16)), .int (nI (4)), .int (nI (2)), .int (nI (0)), .int (nI (60)), .int (nI (0)), .int (nI (0)), .ref (a17_), .ref (a32_), .ref (a50_), .int (nI (0)), .ref (a71_), .int (nI (0)), .ref (a95_), .ref (a122_), .ref (a152_), .int (nI (0)), .null, .null]) := va_up_of hE189 (by first | decide | omega) f184
  have f208 : Ez187 (8) = aI cI 600 (fun _ => 0) := va_up_eq hE189
  refine z_putF C (0) (Cn := RX6) (T := TX6) (N := 19) (fi := 17) tyX6 iw_X6_init_6 tyX6_ok nmX6 rfl (by decide) ln_X6_init_44 hX190_ (by first | decide | omega) hd191 f207 rfl hnm rfl rfl rfl rfl (Nat.le_of_ble_eq_true rfl) dX6_init_89 (fun Ez210 hE209 => ?_)
  have f211 : Ez210 (1) = aI cI 27 (fun _ => 0) := va_up_of hE209 (by first | decide | omega) f200
  have f212 : Ez210 (2) = aI cI 162 (fun _ => 0) := va_up_of hE209 (by first | decide | omega) f201
  have f213 : Ez210 (3) = aI cI 32 (fun _ => 0) := va_up_of hE209 (by first | decide | omega) f202
  have f214 : Ez210 (4) = aI cI 12 (fun _ => 0) := va_up_of hE209 (by first | decide | omega) f203
  have f215 : Ez210 (5) = aI cI 6 (fun _ => 0) := va_up_of hE209 (by first | decide | omega) f204
  have f216 : Ez210 (6) = aI cI 6 (fun _ => 0) := va_up_of hE209 (by first | decide | omega) f205
  have f217 : Ez210 (7) = aI cI 72 (fun _ => 0) := va_up_of hE209 (by first | decide | omega) f206
  have f219 : Ez210 (8) = aI cI 600 (fun _ => 0) := va_up_of hE209 (by first | decide | omega) f208
  have f220 : Ez210 (0) = .inr (6, [.int (nI (16)), .int (nI (4)), .int (nI (2)), .int (nI (0)), .int (nI (60)), .int (nI (0)), .int (nI (0)), .ref (a17_), .ref (a32_), .ref (a50_), .int (nI (0)), .ref (a71_), .int (nI (0)), .ref (a95_), .ref (a122_), .ref (a152_), .int (nI (0)), .ref (a185_), .null]) := va_up_eq hE209
  refine z_aload_n C dX6_init_92 rfl ?_
  refine z_sipush C (nI (600)) dX6_init_93 (by decide) ?_
  refine z_newa C (by decide +kernel) hX190_ hA (Nat.le_of_ble_eq_true rfl) (Nat.le_of_ble_eq_true rfl) (Nat.le_of_ble_eq_true rfl) (Nat.le_of_ble_eq_true rfl) dX6_init_96 (fun a221_ ad222_ Ez223 had224 hE225 hX226_ => ?_)
  have hd227 : ad222_ (0) = a0 := va_up_of had224 (by first | decide | omega) hd191
  have hd228 : ad222_ (1) = a17_ := va_up_of had224 (by first | decide | omega) hd192
  have hd229 : ad222_ (2) = a32_ := va_up_of had224 (by first | decide | omega) hd193
  have hd230 : ad222_ (3) = a50_ := va_up_of had224 (by first | decide | omega) hd194
  have hd231 : ad222_ (4) = a71_ := va_up_of had224 (by first | decide | omega) hd195
  have hd232 : ad222_ (5) = a95_ := va_up_of had224 (by first | decide | omega) hd196
  have hd233 : ad222_ (6) = a122_ := va_up_of had224 (by first | decide | omega) hd197
  have hd234 : ad222_ (7) = a152_ := va_up_of had224 (by first | decide | omega) hd198
  have hd235 : ad222_ (8) = a185_ := va_up_of had224 (by first | decide | omega) hd199
  have hd236 : ad222_ (9) = a221_ := va_up_eq had224
  have f237 : Ez223 (1) = aI cI 27 (fun _ => 0) := va_up_of hE225 (by first | decide | omega) f211
  have f238 : Ez223 (2) = aI cI 162 (fun _ => 0) := va_up_of hE225 (by first | decide | omega) f212
  have f239 : Ez223 (3) = aI cI 32 (fun _ => 0) := va_up_of hE225 (by first | decide | omega) f213
  have f240 : Ez223 (4) = aI cI 12 (fun _ => 0) := va_up_of hE225 (by first | decide | omega) f214
  have f241 : Ez223 (5) = aI cI 6 (fun _ => 0) := va_up_of hE225 (by first | decide | omega) f215
  have f242 : Ez223 (6) = aI cI 6 (fun _ => 0) := va_up_of hE225 (by first | decide | omega) f216
  have f243 : Ez223 (7) = aI cI 72 (fun _ => 0) := va_up_of hE225 (by first | decide | omega) f217
  have f244 : Ez223 (8) = aI cI 600 (fun _ => 0) := va_up_of hE225 (by first | decide | omega) f219
  have f245 : Ez223 (0) = .inr (6, [.int (nI (16)), .int (nI (4)), .int (nI (2)), .int (nI (0)), .int (nI (60)), .int (nI (0)), .int (nI (0)), .ref (a17_), .ref (a32_), .ref (a50_), .int (nI (0)), .ref (a71_), .int (nI (0)), .ref (a95_), .ref (a122_), .ref (a152_), .int (nI (0)), .ref (a185_), .null]) := va_up_of hE225 (by first | decide | omega) f220
  have f246 : Ez223 (9) = aI cI 600 (fun _ => 0) := va_up_eq hE225
  refine z_putF C (0) (Cn := RX6) (T := TX6) (N := 19) (fi := 18) tyX6 iw_X6_init_6 tyX6_ok nmX6 rfl (by decide) ln_X6_init_47 hX226_ (by first | decide | omega) hd227 f245 rfl hnm rfl rfl rfl rfl (Nat.le_of_ble_eq_true rfl) dX6_init_98 (fun Ez248 hE247 => ?_)
  have f249 : Ez248 (1) = aI cI 27 (fun _ => 0) := va_up_of hE247 (by first | decide | omega) f237
  have f250 : Ez248 (2) = aI cI 162 (fun _ => 0) := va_up_of hE247 (by first | decide | omega) f238
  have f251 : Ez248 (3) = aI cI 32 (fun _ => 0) := va_up_of hE247 (by first | decide | omega) f239
  have f252 : Ez248 (4) = aI cI 12 (fun _ => 0) := va_up_of hE247 (by first | decide | omega) f240
  have f253 : Ez248 (5) = aI cI 6 (fun _ => 0) := va_up_of hE247 (by first | decide | omega) f241
  have f254 : Ez248 (6) = aI cI 6 (fun _ => 0) := va_up_of hE247 (by first | decide | omega) f242
  have f255 : Ez248 (7) = aI cI 72 (fun _ => 0) := va_up_of hE247 (by first | decide | omega) f243
  have f256 : Ez248 (8) = aI cI 600 (fun _ => 0) := va_up_of hE247 (by first | decide | omega) f244
  have f258 : Ez248 (9) = aI cI 600 (fun _ => 0) := va_up_of hE247 (by first | decide | omega) f246
  have f259 : Ez248 (0) = .inr (6, [.int (nI (16)), .int (nI (4)), .int (nI (2)), .int (nI (0)), .int (nI (60)), .int (nI (0)), .int (nI (0)), .ref (a17_), .ref (a32_), .ref (a50_), .int (nI (0)), .ref (a71_), .int (nI (0)), .ref (a95_), .ref (a122_), .ref (a152_), .int (nI (0)), .ref (a185_), .ref (a221_)]) := va_up_eq hE247
  refine z_iconst C (nI (0)) dX6_init_101 (by decide) ?_
  refine z_istore_n C [(0, .ref (a0)), (1, .int (nI (0)))] dX6_init_102 (by decide) ⟨rfl, rfl, rfl, rfl, trivial⟩ ?_
  have ⟨z3, z4, z5, z6, z7, z8, z9⟩ := (⟨f251, f252, f253, f254, f255, f256, f258⟩ : Ez248 3 = aI cI 32 (fun _ => 0) ∧ Ez248 4 = aI cI 12 (fun _ => 0) ∧ Ez248 5 = aI cI 6 (fun _ => 0) ∧ Ez248 6 = aI cI 6 (fun _ => 0) ∧ Ez248 7 = aI cI 72 (fun _ => 0) ∧ Ez248 8 = aI cI 600 (fun _ => 0) ∧ Ez248 9 = aI cI 600 (fun _ => 0))
  have loop103 : ∀ (fuel : Nat) (i : Nat) (E2 : Nat → va_E), (hi : i ≤ 26) → (q0 : E2 (0) = .inr (6, [.int (nI (16)), .int (nI (4)), .int (nI (2)), .int (nI (0)), .int (nI (60)), .int (nI (0)), .int (nI (0)), .ref (a17_), .ref (a32_), .ref (a50_), .int (nI (0)), .ref (a71_), .int (nI (0)), .ref (a95_), .ref (a122_), .ref (a152_), .int (nI (0)), .ref (a185_), .ref (a221_)])) → (q1 : E2 (1) = aI cI 27 (wq i)) → (q2 : E2 (2) = aI cI 162 (dq i 0)) → (qf : ∀ k : Nat, (3 ≤ k) → E2 k = Ez248 k) → 26 - i < fuel → Z vp vl ve { frames := 1, cells := 9, slots := 1517, locals := 12 } vs vm va vb vt vc 3 D A (10) ad222_ E2 [(0, .ref (a0)), (1, .int (nI (i)))] (0 + 1 + 1 + 1 + 1 + 1 + 1 + 1 + 1 + 1) (0 + 27 + 162 + 32 + 12 + 6 + 6 + 72 + 600 + 600) Q 103 [] := by
    intro fuel
    induction fuel with
    | zero => intro i E2 hi q0 q1 q2 qf hlt; exact absurd hlt (Nat.not_lt_zero _)
    | succ fuel ih =>
      intro i E2 hi q0 q1 q2 qf hlt
      have ih103 := ih
      refine z_iload_n C dX6_init_103 rfl ?_
      refine z_bipush C (nI (26)) dX6_init_104 (by decide) ?_
      refine z_icmp_geN C 174 (by omega) (by omega) dX6_init_106 (by decide) (fun h106 => ?_) (fun h106 => ?_)
      · have hie : i = 26 := by omega
        rw [hie] at q1 q2
        refine z_aload_n C dX6_init_174 rfl ?_
        refine z_get C (0) (Cn := RX6) (T := TX6) (N := 19) (fi := 7) iw_X6_init_6 rfl (by decide) ln_X6_init_22 (by first | decide | omega) hd227 q0 rfl dX6_init_175 ?_
        refine z_bipush C (nI (26)) dX6_init_178 (by decide) ?_
        refine z_iconst C (nI (2)) dX6_init_180 (by decide) ?_
        refine z_iastG C (1) hX226_ (by first | decide | omega) hd228 q1 (by omega) (by decide) dX6_init_181 (fun Ez261 hE260 => ?_)
        have f262 : Ez261 (0) = .inr (6, [.int (nI (16)), .int (nI (4)), .int (nI (2)), .int (nI (0)), .int (nI (60)), .int (nI (0)), .int (nI (0)), .ref (a17_), .ref (a32_), .ref (a50_), .int (nI (0)), .ref (a71_), .int (nI (0)), .ref (a95_), .ref (a122_), .ref (a152_), .int (nI (0)), .ref (a185_), .ref (a221_)]) := va_up_of hE260 (by first | decide | omega) q0
        have f264 : Ez261 (2) = aI cI 162 (dq 26 0) := va_up_of hE260 (by first | decide | omega) q2
        have f265 : Ez261 (1) = aI cI 27 (va_up (wq 26) (26) (2)) := va_up_eq hE260
        have g266 : ∀ k : Nat, (3 ≤ k) → Ez261 k = Ez248 k := fun k hk => va_up_of hE260 (by omega) (qf k hk)
        exact hend _ _ _ _ dX6_init_182 hd227 hX226_ (⟨by rw [hd228, hd229, hd230, hd231, hd232, hd233, hd234, hd235, hd236]; exact f262, f265, f264, (g266 3 (by decide)).trans z3, (g266 4 (by decide)).trans z4, (g266 5 (by decide)).trans z5, (g266 6 (by decide)).trans z6, (g266 7 (by decide)).trans z7, (g266 8 (by decide)).trans z8, (g266 9 (by decide)).trans z9⟩)
      · refine z_aload_n C dX6_init_109 rfl ?_
        refine z_get C (0) (Cn := RX6) (T := TX6) (N := 19) (fi := 7) iw_X6_init_6 rfl (by decide) ln_X6_init_22 (by first | decide | omega) hd227 q0 rfl dX6_init_110 ?_
        refine z_iload_n C dX6_init_113 rfl ?_
        refine z_iconst C (nI (3)) dX6_init_114 (by decide) ?_
        refine z_iload_n C dX6_init_115 rfl ?_
        refine z_iconst C (nI (3)) dX6_init_116 (by decide) ?_
        refine z_iremN C (by omega) (by omega) (by omega) dX6_init_117 ?_
        refine z_iaddN C  dX6_init_118 ?_
        refine z_iastG C (1) hX226_ (by first | decide | omega) hd228 q1 (by omega) (by decide) dX6_init_119 (fun Ez268 hE267 => ?_)
        have f269 : Ez268 (0) = .inr (6, [.int (nI (16)), .int (nI (4)), .int (nI (2)), .int (nI (0)), .int (nI (60)), .int (nI (0)), .int (nI (0)), .ref (a17_), .ref (a32_), .ref (a50_), .int (nI (0)), .ref (a71_), .int (nI (0)), .ref (a95_), .ref (a122_), .ref (a152_), .int (nI (0)), .ref (a185_), .ref (a221_)]) := va_up_of hE267 (by first | decide | omega) q0
        have f271 : Ez268 (2) = aI cI 162 (dq i 0) := va_up_of hE267 (by first | decide | omega) q2
        have f272 : Ez268 (1) = aI cI 27 (va_up (wq i) (i) (3 + (i % 3))) := va_up_eq hE267
        have g273 : ∀ k : Nat, (3 ≤ k) → Ez268 k = Ez248 k := fun k hk => va_up_of hE267 (by omega) (qf k hk)
        refine z_iconst C (nI (0)) dX6_init_120 (by decide) ?_
        refine z_istore_n C [(0, .ref (a0)), (1, .int (nI (i))), (2, .int (nI (0)))] dX6_init_121 (by decide) ⟨rfl, rfl, rfl, rfl, rfl, rfl, trivial⟩ ?_
        have loop122 : ∀ (fuel : Nat) (j : Nat) (E3 : Nat → va_E), (hj : j ≤ 3 + i % 3) → (r0 : E3 (0) = .inr (6, [.int (nI (16)), .int (nI (4)), .int (nI (2)), .int (nI (0)), .int (nI (60)), .int (nI (0)), .int (nI (0)), .ref (a17_), .ref (a32_), .ref (a50_), .int (nI (0)), .ref (a71_), .int (nI (0)), .ref (a95_), .ref (a122_), .ref (a152_), .int (nI (0)), .ref (a185_), .ref (a221_)])) → (r1 : E3 (1) = aI cI 27 (wq (i + 1))) → (r2 : E3 (2) = aI cI 162 (dq i j)) → (rf : ∀ k : Nat, (3 ≤ k) → E3 k = Ez248 k) → 3 + i % 3 - j < fuel → Z vp vl ve { frames := 1, cells := 9, slots := 1517, locals := 12 } vs vm va vb vt vc 3 D A (10) ad222_ E3 [(0, .ref (a0)), (1, .int (nI (i))), (2, .int (nI (j)))] (0 + 1 + 1 + 1 + 1 + 1 + 1 + 1 + 1 + 1) (0 + 27 + 162 + 32 + 12 + 6 + 6 + 72 + 600 + 600) Q 122 [] := by
          intro fuel
          induction fuel with
          | zero => intro j E3 hj r0 r1 r2 rf hlt; exact absurd hlt (Nat.not_lt_zero _)
          | succ fuel ih =>
            intro j E3 hj r0 r1 r2 rf hlt
            have ih122 := ih
            refine z_iload_n C dX6_init_122 rfl ?_
            refine z_aload_n C dX6_init_123 rfl ?_
            refine z_get C (0) (Cn := RX6) (T := TX6) (N := 19) (fi := 7) iw_X6_init_6 rfl (by decide) ln_X6_init_22 (by first | decide | omega) hd227 r0 rfl dX6_init_124 ?_
            refine z_iload_n C dX6_init_127 rfl ?_
            refine z_ialdG C (1) (by first | decide | omega) hd228 r1 (by omega) (by decide) dX6_init_128 ?_
            refine z_top (nI (3 + i % 3)) ((by show nI (if i < i + 1 then 3 + i % 3 else 0) = _; rw [if_pos (Nat.lt_succ_self i)])) ?_
            refine z_icmp_geN C 168 (by omega) (by omega) dX6_init_129 (by decide) (fun h129 => ?_) (fun h129 => ?_)
            · have hje : j = 3 + i % 3 := by omega
              refine z_iincN (j := 1) C [(0, .ref (a0)), (1, .int (nI (i + 1))), (2, .int (nI (j)))] dX6_init_168 rfl (by decide) ⟨rfl, rfl, rfl, rfl, rfl, rfl, trivial⟩ ?_
              refine z_goto C 103 dX6_init_171 (by decide) ?_
              refine z_lv [(0, .ref (a0)), (1, .int (nI (i + 1)))] ⟨rfl, rfl, rfl, rfl, trivial⟩ ?_
              exact ih103 (i + 1) E3 (by omega) r0 (r1) (r2.trans (by rw [hje, dq_n])) rf (by omega)
            · have hb : (i + 1) * (j + 2) ≤ 26 * 8 := Nat.mul_le_mul (by omega) (by omega)
              refine z_aload_n C dX6_init_132 rfl ?_
              refine z_get C (0) (Cn := RX6) (T := TX6) (N := 19) (fi := 8) iw_X6_init_6 rfl (by decide) ln_X6_init_26 (by first | decide | omega) hd227 r0 rfl dX6_init_133 ?_
              refine z_bipush C (nI (6)) dX6_init_136 (by decide) ?_
              refine z_iload_n C dX6_init_138 rfl ?_
              refine z_imulN C  dX6_init_139 ?_
              refine z_iload_n C dX6_init_140 rfl ?_
              refine z_iaddN C  dX6_init_141 ?_
              refine z_iload_n C dX6_init_142 rfl ?_
              refine z_iconst C (nI (1)) dX6_init_143 (by decide) ?_
              refine z_iaddN C  dX6_init_144 ?_
              refine z_iload_n C dX6_init_145 rfl ?_
              refine z_iconst C (nI (2)) dX6_init_146 (by decide) ?_
              refine z_iaddN C  dX6_init_147 ?_
              refine z_imulN C  dX6_init_148 ?_
              refine z_bipush C (nI (29)) dX6_init_149 (by decide) ?_
              refine z_imulN C  dX6_init_151 ?_
              refine z_bipush C (nI (17)) dX6_init_152 (by decide) ?_
              refine z_iload_n C dX6_init_154 rfl ?_
              refine z_imulN C  dX6_init_155 ?_
              refine z_iaddN C  dX6_init_156 ?_
              refine z_sipush C (nI (256)) dX6_init_157 (by decide) ?_
              refine z_iremN C (by omega) (by omega) (by omega) dX6_init_160 ?_
              refine z_iastG C (2) hX226_ (by first | decide | omega) hd229 r2 (by omega) (by decide) dX6_init_161 (fun Ez275 hE274 => ?_)
              have f276 : Ez275 (0) = .inr (6, [.int (nI (16)), .int (nI (4)), .int (nI (2)), .int (nI (0)), .int (nI (60)), .int (nI (0)), .int (nI (0)), .ref (a17_), .ref (a32_), .ref (a50_), .int (nI (0)), .ref (a71_), .int (nI (0)), .ref (a95_), .ref (a122_), .ref (a152_), .int (nI (0)), .ref (a185_), .ref (a221_)]) := va_up_of hE274 (by first | decide | omega) r0
              have f277 : Ez275 (1) = aI cI 27 (wq (i + 1)) := va_up_of hE274 (by first | decide | omega) r1
              have f279 : Ez275 (2) = aI cI 162 (va_up (dq i j) ((6 * i) + j) (((((i + 1) * (j + 2)) * 29) + (17 * j)) % 256)) := va_up_eq hE274
              have g280 : ∀ k : Nat, (3 ≤ k) → Ez275 k = Ez248 k := fun k hk => va_up_of hE274 (by omega) (rf k hk)
              refine z_iincN (j := 1) C [(0, .ref (a0)), (1, .int (nI (i))), (2, .int (nI (j + 1)))] dX6_init_162 rfl (by decide) ⟨rfl, rfl, rfl, rfl, rfl, rfl, trivial⟩ ?_
              refine z_goto C 122 dX6_init_165 (by decide) ?_
              refine z_lv [(0, .ref (a0)), (1, .int (nI (i))), (2, .int (nI (j + 1)))] ⟨rfl, rfl, rfl, rfl, rfl, rfl, trivial⟩ ?_
              exact ih122 (j + 1) Ez275 (by omega) f276 f277 (f279.trans (by rw [← dq_s (i := i) (j := j) (k := 6 * i + j) (by omega) (by omega)]; rfl)) g280 (by omega)
        refine z_lv [(0, .ref (a0)), (1, .int (nI (i))), (2, .int (nI (0)))] ⟨rfl, rfl, rfl, rfl, rfl, rfl, trivial⟩ ?_
        exact loop122 (7) 0 Ez268 (Nat.zero_le _) f269 (f272.trans (by rw [wq_s])) f271 g273 (by omega)
  refine z_lv [(0, .ref (a0)), (1, .int (nI (0)))] ⟨rfl, rfl, rfl, rfl, trivial⟩ ?_
  exact loop103 (27) 0 Ez248 (Nat.zero_le _) f259 (f249.trans (by rw [wq_0])) (f250.trans (by rw [dq_0])) (fun _ _ => rfl) (by omega)

