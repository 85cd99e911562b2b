theorem arrV_cg (cA : ClassId) {N : Nat} {f g : Nat → Value} (h : ∀ j, j < N → f j = g j) : arrV cA N f = arrV cA N g := by
  unfold arrV
  congr 2
  funext j
  exact h j.val j.isLt
theorem z_sameq {p : Program} {l : Launch} {e : Env} {R : Room} {s : State} {m : MethodId} {args : Array Value} {below : List Frame} {meth : Method} {c : Code} {nL : Nat} {D : va_G} {A : Nat → Prop} {n : Nat} {ad : Nat → Nat} {E : Nat → va_E} {lv : List (Nat × Value)} {cells slots : Nat} {Q : State → Prop} {pc : Nat} {st : List Value} {cA : ClassId} {k0 N : Nat} {f : Nat → Option Nat} (g : Nat → Option Nat) (he : E k0 = .inl (cA, N, .inr (.inr (.inr (.inr f))))) (hfg : ∀ j, j < N → f j = g j) (k : ∀ E1, E1 = va_up E k0 (.inl (cA, N, .inr (.inr (.inr (.inr g))))) → Z p l e R s m args below meth c nL D A n ad E1 lv cells slots Q pc st) : Z p l e R s m args below meth c nL D A n ad E lv cells slots Q pc st := fun H locs ls hP hS hl => by
  refine k _ rfl H locs ls (XL_P (fun j hj => ?_)) hS hl
  by_cases e1 : j = k0
  · subst e1
    rw [va_up_self]
    have h := hP j _ (XL_get hj)
    rw [he] at h
    have h : H[ad j]? = some (arrV cA N (fun i => va_rf (f i))) := h
    show H[ad j]? = some (arrV cA N (fun i => va_rf (g i)))
    rw [h, arrV_cg cA (fun i hi => by rw [hfg i hi])]
  · rw [va_up_ne _ _ e1]
    exact hP j _ (XL_get hj)
def gv (c j : Nat) : Nat := ((c + 1) * (j + 2) * 29 + 17 * j) % 256
def wq (i : Nat) : Nat → Nat := fun c => if c < i then 3 + c % 3 else 0
def wdI : Nat → Nat := va_up (wq 26) 26 2
def dq (i j : Nat) : Nat → Nat := fun p => if p / 6 < i ∧ p % 6 < 3 + p / 6 % 3 ∨ p / 6 = i ∧ p % 6 < j then gv (p / 6) (p % 6) else 0
theorem wq_0 : wq 0 = fun _ => 0 := by funext c; unfold wq; rw [if_neg (by omega)]
theorem wq_s (i : Nat) : va_up (wq i) i (3 + i % 3) = wq (i + 1) := by
  funext c
  by_cases e : c = i
  · subst e; rw [va_up_self]; unfold wq; rw [if_pos (by omega)]
  · rw [va_up_ne _ _ e]
    unfold wq
    by_cases h : c < i
    · rw [if_pos h, if_pos (by omega)]
    · rw [if_neg h, if_neg (by omega)]
theorem dq_0 : dq 0 0 = fun _ => 0 := by funext p; unfold dq; rw [if_neg (by omega)]
theorem dq_s {i j k : Nat} (hj : j < 6) (hk : k = 6 * i + j) : va_up (dq i j) k (gv i j) = dq i (j + 1) := by
  funext p
  by_cases e : p = k
  · subst e
    rw [va_up_self]
    unfold dq
    rw [if_pos (by omega), show p / 6 = i by omega, show p % 6 = j by omega]
  · rw [va_up_ne _ _ e]
    unfold dq
    by_cases h : p / 6 < i ∧ p % 6 < 3 + p / 6 % 3 ∨ p / 6 = i ∧ p % 6 < j
    · rw [if_pos h, if_pos (by omega)]
    · rw [if_neg h, if_neg (by omega)]
theorem dq_n (i : Nat) : dq i (3 + i % 3) = dq (i + 1) 0 := by
  funext p
  unfold dq
  by_cases h : p / 6 < i ∧ p % 6 < 3 + p / 6 % 3 ∨ p / 6 = i ∧ p % 6 < 3 + i % 3
  · rw [if_pos h, if_pos (by rcases h with h | h; (exact Or.inl ⟨by omega, h.2⟩); (refine Or.inl ⟨by omega, ?_⟩; rw [h.1]; exact h.2))]
  · rw [if_neg h, if_neg (by
      intro q
      rcases q with q | q
      · by_cases e : p / 6 = i
        · exact h (Or.inr ⟨e, by have := q.2; rw [e] at this; exact this⟩)
        · exact h (Or.inl ⟨by omega, q.2⟩)
      · omega)]
theorem iw_X4_init_4 : ∀ w ∈ wsX40, w ∈ wsX4_init := by decide +kernel
theorem ln_X4_init_9 : Cond.fieldLink RX4 9 "MarqueeDisplay$Text" "characters" "[I" ∈ wsX4_init := by decide +kernel
set_option maxHeartbeats 4000000 in
set_option maxRecDepth 100000 in
theorem k_X4_init (vl : Launch) (D : va_G) (cI cM : ClassId) : CI vl yX4_init wsX4_init { frames := 1, cells := 1, slots := 12, locals := 12 } D cI cM 4 [.null, .int (nI (0))] 2 1 12 (fun ad1 E1 => E1 0 = .inr (4, [.ref (ad1 1), .int (nI 0)]) ∧ E1 1 = aI cI 12 (fun _ => 0)) := by
  refine mc_of cX4_init 1 RX4 (by decide) rfl rfl rfl (Nat.le_of_ble_eq_true rfl) ?_
  intro A vp ve vs vm va vb vt vc Q a0 ad0 E0 C hao hA hnm hX0 h0 f0 hend
  refine z_aload_n C dX4_init_0 rfl ?_
  refine z_objInit C (by decide +kernel) (by decide +kernel) (by decide +kernel) (Nat.le_of_ble_eq_true rfl) (Nat.le_of_ble_eq_true rfl) dX4_init_1 ?_
  refine z_aload_n C dX4_init_4 rfl ?_
  refine z_bipush C (nI (12)) dX4_init_5 (by decide) ?_
  refine z_newa C (by decide +kernel) hX0 hA (Nat.le_of_ble_eq_true rfl) (Nat.le_of_ble_eq_true rfl) (Nat.le_of_ble_eq_true rfl) (Nat.le_of_ble_eq_true rfl) dX4_init_7 (fun a1_ ad2_ Ez3 had4 hE5 hX6_ => ?_)
  have hd7 : ad2_ (0) = a0 := va_up_of had4 (by first | decide | omega) h0
  have hd8 : ad2_ (1) = a1_ := va_up_eq had4
  have f9 : Ez3 (0) = .inr (4, [.null, .int (nI (0))]) := va_up_of hE5 (by first | decide | omega) f0
  have f10 : Ez3 (1) = aI cI 12 (fun _ => 0) := va_up_eq hE5
  refine z_putF C (0) (Cn := RX4) (T := TX4) (N := 2) (fi := 0) tyX4 iw_X4_init_4 tyX4_ok nmX4 rfl (by decide) ln_X4_init_9 hX6_ (by first | decide | omega) hd7 f9 rfl hnm rfl rfl rfl rfl (Nat.le_of_ble_eq_true rfl) dX4_init_9 (fun Ez12 hE11 => ?_)
  have f14 : Ez12 (1) = aI cI 12 (fun _ => 0) := va_up_of hE11 (by first | decide | omega) f10
  have f15 : Ez12 (0) = .inr (4, [.ref (a1_), .int (nI (0))]) := va_up_eq hE11
  exact hend _ _ _ _ dX4_init_12 hd7 hX6_ (⟨by rw [hd8]; exact f15, f14⟩)

def MB (cI : ClassId) (ad : Nat → Nat) (E : Nat → va_E) (k : Nat) : Prop := E k = .inr (1, [.ref (ad (k + 1)), .int (nI 0), .int (nI 0), .int (nI 0)]) ∧ E (k + 1) = .inr (4, [.ref (ad (k + 2)), .int (nI 0)]) ∧ E (k + 2) = aI cI 12 (fun _ => 0)
theorem MB.mv {cI : ClassId} {ad ad1 : Nat → Nat} {E E1 : Nat → va_E} {k : Nat} (h : MB cI ad E k) (ha : ∀ j, k ≤ j ∧ j ≤ k + 2 → ad1 j = ad j) (hE : ∀ j, k ≤ j ∧ j ≤ k + 2 → E1 j = E j) : MB cI ad1 E1 k :=
  ⟨by rw [hE _ ⟨by omega, by omega⟩, ha _ ⟨by omega, by omega⟩]; exact h.1, by rw [hE _ ⟨by omega, by omega⟩, ha _ ⟨by omega, by omega⟩]; exact h.2.1, (hE _ ⟨by omega, by omega⟩).trans h.2.2⟩
theorem fsX4 : ∀ j, j < 2 → defaultValue (tyX4 j) = vp_V [.null, .int (nI (0))] j := by
  intro j hj
  rcases (show j = 0 ∨ j = 1 by omega) with rfl | rfl <;> rfl
theorem iw_X1_init_4 : ∀ w ∈ wsX40, w ∈ wsX1_init := by decide +kernel
theorem iw_X1_init_1 : ∀ w ∈ wsX10, w ∈ wsX1_init := by decide +kernel
theorem ln_X1_init_10 : Cond.fieldLink RX1 10 "MarqueeDisplay$Message" "text" "LMarqueeDisplay$Text;" ∈ wsX1_init := by decide +kernel
set_option maxHeartbeats 4000000 in
set_option maxRecDepth 100000 in
theorem k_X1_init (vl : Launch) (D : va_G) (cI cM : ClassId) : CI vl yX1_init wsX1_init { frames := 2, cells := 2, slots := 14, locals := 32 } D cI cM 1 [.null, .int (nI (0)), .int (nI (0)), .int (nI (0))] 3 2 14 (fun ad1 E1 => MB cI ad1 E1 0) := by
  refine mc_of cX1_init 1 RX1 (by decide) rfl rfl rfl (Nat.le_of_ble_eq_true rfl) ?_
  intro A vp ve vs vm va vb vt vc Q a0 ad0 E0 C hao hA hnm hX0 h0 f0 hend
  refine z_aload_n C dX1_init_0 rfl ?_
  refine z_objInit C (by decide +kernel) (by decide +kernel) (by decide +kernel) (Nat.le_of_ble_eq_true rfl) (Nat.le_of_ble_eq_true rfl) dX1_init_1 ?_
  refine z_aload_n C dX1_init_4 rfl ?_
  refine z_new (ci := 4) (Cn := RX4) (T := TX4) (N := 2) C [.null, .int (nI (0))] tyX4 iw_X1_init_4 tyX4_ok (by decide +kernel) (by decide +kernel) (by decide +kernel) hX0 hA rfl fsX4 (Nat.le_of_ble_eq_true rfl) (Nat.le_of_ble_eq_true rfl) dX1_init_5 (fun a1_ ad2_ Ez3 had4 hE5 hX6_ => ?_)
  have hd7 : ad2_ (0) = a0 := va_up_of had4 (by first | decide | omega) h0
  have hd8 : ad2_ (1) = a1_ := va_up_eq had4
  have f9 : Ez3 (0) = .inr (1, [.null, .int (nI (0)), .int (nI (0)), .int (nI (0))]) := va_up_of hE5 (by first | decide | omega) f0
  have f10 : Ez3 (1) = .inr (4, [.null, .int (nI (0))]) := va_up_eq hE5
  refine z_dup C dX1_init_8 rfl ?_
  refine z_callIN (n := 1) C hao hA (k_X4_init vl D cI cM) ⟨va_cnB (host := "MarqueeDisplay") 0 C.2.2.2.2.1 gX1_init_X4_init_n9 rfl rfl rfl (C.2.2.2.2.2.2.1 _ (by decide +kernel)) (C.2.2.2.2.1 _ (by decide +kernel)) (by decide +kernel) ⟨(Nat.le_of_ble_eq_true rfl), (Nat.le_of_ble_eq_true rfl)⟩, rfl, C.2.2.2.2.1 _ (by decide +kernel)⟩ hX6_ hd8 f10 (Nat.le_of_ble_eq_true rfl) ⟨(Nat.le_of_ble_eq_true rfl), (Nat.le_of_ble_eq_true rfl)⟩ dX1_init_9 (fun ad11_ Ez12 hj13 hk14 hl15 hX16_ hp17 => ?_)
  have hd18 : ad11_ (0) = a0 := (hj13 (0) (by first | decide | omega)).trans hd7
  have f20 : Ez12 (0) = .inr (1, [.null, .int (nI (0)), .int (nI (0)), .int (nI (0))]) := (hk14 (0) (by first | decide | omega)).trans f9
  obtain ⟨a21_, hd22⟩ : ∃ q : Nat, ad11_ (2) = q := ⟨_, rfl⟩
  have f23 : Ez12 (1) = .inr (4, [.ref a21_, .int (nI (0))]) := by rw [← hd22]; exact hp17.1
  have f24 : Ez12 (2) = aI cI 12 (fun _ => 0) := hp17.2
  refine z_putF C (0) (Cn := RX1) (T := TX1) (N := 4) (fi := 0) tyX1 iw_X1_init_1 tyX1_ok nmX1 rfl (by decide) ln_X1_init_10 hX16_ (by first | decide | omega) hd18 f20 rfl hnm rfl rfl rfl rfl (Nat.le_of_ble_eq_true rfl) dX1_init_12 (fun Ez26 hE25 => ?_)
  have f28 : Ez26 (1) = .inr (4, [.ref (a21_), .int (nI (0))]) := va_up_of hE25 (by first | decide | omega) f23
  have f29 : Ez26 (2) = aI cI 12 (fun _ => 0) := va_up_of hE25 (by first | decide | omega) f24
  have f30 : Ez26 (0) = .inr (1, [.ref (a1_), .int (nI (0)), .int (nI (0)), .int (nI (0))]) := va_up_eq hE25
  exact hend _ _ _ _ dX1_init_15 hd18 hX16_ (⟨by show Ez26 0 = _; rw [hl15]; exact f30, by show Ez26 1 = .inr (4, [.ref (ad11_ 2), .int (nI 0)]); rw [hd22]; exact f28, f29⟩)

theorem iw_X3_init_3 : ∀ w ∈ wsX30, w ∈ wsX3_init := by decide +kernel
theorem ln_X3_init_9 : Cond.fieldLink RX3 9 "MarqueeDisplay$Strip" "dots" "[I" ∈ wsX3_init := by decide +kernel
theorem ln_X3_init_15 : Cond.fieldLink RX3 15 "MarqueeDisplay$Strip" "colors" "[I" ∈ wsX3_init := by decide +kernel
set_option maxHeartbeats 4000000 in
set_option maxRecDepth 100000 in
theorem k_X3_init (vl : Launch) (D : va_G) (cI cM : ClassId) : CI vl yX3_init wsX3_init { frames := 1, cells := 2, slots := 1104, locals := 12 } D cI cM 3 [.null, .null, .int (nI (0))] 3 2 1104 (fun ad1 E1 => E1 0 = .inr (3, [.ref (ad1 1), .ref (ad1 2), .int (nI 0)]) ∧ E1 1 = aI cI 552 (fun _ => 0) ∧ E1 2 = aI cI 552 (fun _ => 0)) := by
  refine mc_of cX3_init 1 RX3 (by decide) rfl rfl rfl (Nat.le_of_ble_eq_true rfl) ?_
  intro A vp ve vs vm va vb vt vc Q a0 ad0 E0 C hao hA hnm hX0 h0 f0 hend
  refine z_aload_n C dX3_init_0 rfl ?_
  refine z_objInit C (by decide +kernel) (by decide +kernel) (by decide +kernel) (Nat.le_of_ble_eq_true rfl) (Nat.le_of_ble_eq_true rfl) dX3_init_1 ?_
  refine z_aload_n C dX3_init_4 rfl ?_
  refine z_sipush C (nI (552)) dX3_init_5 (by decide) ?_
  refine z_newa C (by decide +kernel) hX0 hA (Nat.le_of_ble_eq_true rfl) (Nat.le_of_ble_eq_true rfl) (Nat.le_of_ble_eq_true rfl) (Nat.le_of_ble_eq_true rfl) dX3_init_8 (fun a1_ ad2_ Ez3 had4 hE5 hX6_ => ?_)
  have hd7 : ad2_ (0) = a0 := va_up_of had4 (by first | decide | omega) h0
  have hd8 : ad2_ (1) = a1_ := va_up_eq had4
  have f9 : Ez3 (0) = .inr (3, [.null, .null, .int (nI (0))]) := va_up_of hE5 (by first | decide | omega) f0
  have f10 : Ez3 (1) = aI cI 552 (fun _ => 0) := va_up_eq hE5
  refine z_putF C (0) (Cn := RX3) (T := TX3) (N := 3) (fi := 0) tyX3 iw_X3_init_3 tyX3_ok nmX3 rfl (by decide) ln_X3_init_9 hX6_ (by first | decide | omega) hd7 f9 rfl hnm rfl rfl rfl rfl (Nat.le_of_ble_eq_true rfl) dX3_init_10 (fun Ez12 hE11 => ?_)
  have f14 : Ez12 (1) = aI cI 552 (fun _ => 0) := va_up_of hE11 (by first | decide | omega) f10
  have f15 : Ez12 (0) = .inr (3, [.ref (a1_), .null, .int (nI (0))]) := va_up_eq hE11
  refine z_aload_n C dX3_init_13 rfl ?_
  refine z_sipush C (nI (552)) dX3_init_14 (by decide) ?_
  refine z_newa C (by decide +kernel) hX6_ hA (Nat.le_of_ble_eq_true rfl) (Nat.le_of_ble_eq_true rfl) (Nat.le_of_ble_eq_true rfl) (Nat.le_of_ble_eq_true rfl) dX3_init_17 (fun a16_ ad17_ Ez18 had19 hE20 hX21_ => ?_)
  have hd22 : ad17_ (0) = a0 := va_up_of had19 (by first | decide | omega) hd7
  have hd23 : ad17_ (1) = a1_ := va_up_of had19 (by first | decide | omega) hd8
  have hd24 : ad17_ (2) = a16_ := va_up_eq had19
  have f25 : Ez18 (1) = aI cI 552 (fun _ => 0) := va_up_of hE20 (by first | decide | omega) f14
  have f26 : Ez18 (0) = .inr (3, [.ref (a1_), .null, .int (nI (0))]) := va_up_of hE20 (by first | decide | omega) f15
  have f27 : Ez18 (2) = aI cI 552 (fun _ => 0) := va_up_eq hE20
  refine z_putF C (0) (Cn := RX3) (T := TX3) (N := 3) (fi := 1) tyX3 iw_X3_init_3 tyX3_ok nmX3 rfl (by decide) ln_X3_init_15 hX21_ (by first | decide | omega) hd22 f26 rfl hnm rfl rfl rfl rfl (Nat.le_of_ble_eq_true rfl) dX3_init_19 (fun Ez29 hE28 => ?_)
  have f30 : Ez29 (1) = aI cI 552 (fun _ => 0) := va_up_of hE28 (by first | decide | omega) f25
  have f32 : Ez29 (2) = aI cI 552 (fun _ => 0) := va_up_of hE28 (by first | decide | omega) f27
  have f33 : Ez29 (0) = .inr (3, [.ref (a1_), .ref (a16_), .int (nI (0))]) := va_up_eq hE28
  exact hend _ _ _ _ dX3_init_22 hd22 hX21_ (⟨by rw [hd23, hd24]; exact f33, f30, f32⟩)

theorem iw_X0_init_0 : ∀ w ∈ wsX00, w ∈ wsX0_init := by decide +kernel
theorem ln_X0_init_9 : Cond.fieldLink RX0 9 "MarqueeDisplay$Font" "widths" "[I" ∈ wsX0_init := by decide +kernel
theorem ln_X0_init_15 : Cond.fieldLink RX0 15 "MarqueeDisplay$Font" "dots" "[I" ∈ wsX0_init := by decide +kernel
set_option maxHeartbeats 4000000 in
set_option maxRecDepth 100000 in
theorem k_X0_init (vl : Launch) (D : va_G) (cI cM : ClassId) : CI vl yX0_init wsX0_init { frames := 1, cells := 2, slots := 189, locals := 12 } D cI cM 0 [.null, .null] 3 2 189 (fun ad1 E1 => E1 0 = .inr (0, [.ref (ad1 1), .ref (ad1 2)]) ∧ E1 1 = aI cI 27 wdI ∧ E1 2 = aI cI 162 (dq 26 0)) := by
  refine mc_of cX0_init 4 RX0 (by decide) rfl rfl rfl (Nat.le_of_ble_eq_true rfl) ?_
  intro A vp ve vs vm va vb vt vc Q a0 ad0 E0 C hao hA hnm hX0 h0 f0 hend
  refine z_aload_n C dX0_init_0 rfl ?_
  refine z_objInit C (by decide +kernel) (by decide +kernel) (by decide +kernel) (Nat.le_of_ble_eq_true rfl) (Nat.le_of_ble_eq_true rfl) dX0_init_1 ?_
  refine z_aload_n C dX0_init_4 rfl ?_
  refine z_bipush C (nI (27)) dX0_init_5 (by decide) ?_
  refine z_newa C (by decide +kernel) hX0 hA (Nat.le_of_ble_eq_true rfl) (Nat.le_of_ble_eq_true rfl) (Nat.le_of_ble_eq_true rfl) (Nat.le_of_ble_eq_true rfl) dX0_init_7 (fun a1_ ad2_ Ez3 had4 hE5 hX6_ => ?_)
  have hd7 : ad2_ (0) = a0 := va_up_of had4 (by first | decide | omega) h0
  have hd8 : ad2_ (1) = a1_ := va_up_eq had4
  have f9 : Ez3 (0) = .inr (0, [.null, .null]) := va_up_of hE5 (by first | decide | omega) f0
  have f10 : Ez3 (1) = aI cI 27 (fun _ => 0) := va_up_eq hE5
  refine z_putF C (0) (Cn := RX0) (T := TX0) (N := 2) (fi := 0) tyX0 iw_X0_init_0 tyX0_ok nmX0 rfl (by decide) ln_X0_init_9 hX6_ (by first | decide | omega) hd7 f9 rfl hnm rfl rfl rfl rfl (Nat.le_of_ble_eq_true rfl) dX0_init_9 (fun Ez12 hE11 => ?_)
  have f14 : Ez12 (1) = aI cI 27 (fun _ => 0) := va_up_of hE11 (by first | decide | omega) f10
  have f15 : Ez12 (0) = .inr (0, [.ref (a1_), .null]) := va_up_eq hE11
  refine z_aload_n C dX0_init_12 rfl ?_
  refine z_sipush C (nI (162)) dX0_init_13 (by decide) ?_
  refine z_newa C (by decide +kernel) hX6_ hA (Nat.le_of_ble_eq_true rfl) (Nat.le_of_ble_eq_true rfl) (Nat.le_of_ble_eq_true rfl) (Nat.le_of_ble_eq_true rfl) dX0_init_16 (fun a16_ ad17_ Ez18 had19 hE20 hX21_ => ?_)
  have hd22 : ad17_ (0) = a0 := va_up_of had19 (by first | decide | omega) hd7
  have hd23 : ad17_ (1) = a1_ := va_up_of had19 (by first | decide | omega) hd8
  have hd24 : ad17_ (2) = a16_ := va_up_eq had19
  have f25 : Ez18 (1) = aI cI 27 (fun _ => 0) := va_up_of hE20 (by first | decide | omega) f14
  have f26 : Ez18 (0) = .inr (0, [.ref (a1_), .null]) := va_up_of hE20 (by first | decide | omega) f15
  have f27 : Ez18 (2) = aI cI 162 (fun _ => 0) := va_up_eq hE20
  refine z_putF C (0) (Cn := RX0) (T := TX0) (N := 2) (fi := 1) tyX0 iw_X0_init_0 tyX0_ok nmX0 rfl (by decide) ln_X0_init_15 hX21_ (by first | decide | omega) hd22 f26 rfl hnm rfl rfl rfl rfl (Nat.le_of_ble_eq_true rfl) dX0_init_18 (fun Ez29 hE28 => ?_)
  have f30 : Ez29 (1) = aI cI 27 (fun _ => 0) := va_up_of hE28 (by first | decide | omega) f25
  have f32 : Ez29 (2) = aI cI 162 (fun _ => 0) := va_up_of hE28 (by first | decide | omega) f27
  have f33 : Ez29 (0) = .inr (0, [.ref (a1_), .ref (a16_)]) := va_up_eq hE28
  refine z_iconst C (nI (0)) dX0_init_21 (by decide) ?_
  refine z_istore_n C [(0, .ref (a0)), (1, .int (nI (0)))] dX0_init_22 (by decide) ⟨rfl, rfl, rfl, rfl, trivial⟩ ?_
  have loop23 : ∀ (fuel : Nat) (i : Nat) (E2 : Nat → va_E), (hi : i ≤ 26) → (q0 : E2 (0) = .inr (0, [.ref (a1_), .ref (a16_)])) → (q1 : E2 (1) = aI cI 27 (wq i)) → (q2 : E2 (2) = aI cI 162 (dq i 0)) → 26 - i < fuel → Z vp vl ve { frames := 1, cells := 2, slots := 189, locals := 12 } vs vm va vb vt vc 4 D A (3) ad17_ E2 [(0, .ref (a0)), (1, .int (nI (i)))] (0 + 1 + 1) (0 + 27 + 162) Q 23 [] := by
    intro fuel
    induction fuel with
    | zero => intro i E2 hi q0 q1 q2 hlt; exact absurd hlt (Nat.not_lt_zero _)
    | succ fuel ih =>
      intro i E2 hi q0 q1 q2 hlt
      have ih23 := ih
      refine z_iload_n C dX0_init_23 rfl ?_
      refine z_bipush C (nI (26)) dX0_init_24 (by decide) ?_
      refine z_icmp_geN C 91 (by omega) (by omega) dX0_init_26 (by decide) (fun h26 => ?_) (fun h26 => ?_)
      · have hie : i = 26 := by omega
        rw [hie] at q1 q2
        refine z_aload_n C dX0_init_91 rfl ?_
        refine z_get C (0) (Cn := RX0) (T := TX0) (N := 2) (fi := 0) iw_X0_init_0 rfl (by decide) ln_X0_init_9 (by first | decide | omega) hd22 q0 rfl dX0_init_92 ?_
        refine z_bipush C (nI (26)) dX0_init_95 (by decide) ?_
        refine z_iconst C (nI (2)) dX0_init_97 (by decide) ?_
        refine z_iastG C (1) hX21_ (by first | decide | omega) hd23 q1 (by omega) (by decide) dX0_init_98 (fun Ez35 hE34 => ?_)
        have f36 : Ez35 (0) = .inr (0, [.ref (a1_), .ref (a16_)]) := va_up_of hE34 (by first | decide | omega) q0
        have f38 : Ez35 (2) = aI cI 162 (dq 26 0) := va_up_of hE34 (by first | decide | omega) q2
        have f39 : Ez35 (1) = aI cI 27 (va_up (wq 26) (26) (2)) := va_up_eq hE34
        exact hend _ _ _ _ dX0_init_99 hd22 hX21_ (⟨by rw [hd23, hd24]; exact f36, f39, f38⟩)
      · refine z_iconst C (nI (3)) dX0_init_29 (by decide) ?_
        refine z_iload_n C dX0_init_30 rfl ?_
        refine z_iconst C (nI (3)) dX0_init_31 (by decide) ?_
        refine z_iremN C (by omega) (by omega) (by omega) dX0_init_32 ?_
        refine z_iaddN C  dX0_init_33 ?_
        refine z_istore_n C [(0, .ref (a0)), (1, .int (nI (i))), (2, .int (nI (3 + (i % 3))))] dX0_init_34 (by decide) ⟨rfl, rfl, rfl, rfl, rfl, rfl, trivial⟩ ?_
        refine z_aload_n C dX0_init_35 rfl ?_
        refine z_get C (0) (Cn := RX0) (T := TX0) (N := 2) (fi := 0) iw_X0_init_0 rfl (by decide) ln_X0_init_9 (by first | decide | omega) hd22 q0 rfl dX0_init_36 ?_
        refine z_iload_n C dX0_init_39 rfl ?_
        refine z_iload_n C dX0_init_40 rfl ?_
        refine z_iastG C (1) hX21_ (by first | decide | omega) hd23 q1 (by omega) (by decide) dX0_init_41 (fun Ez41 hE40 => ?_)
        have f42 : Ez41 (0) = .inr (0, [.ref (a1_), .ref (a16_)]) := va_up_of hE40 (by first | decide | omega) q0
        have f44 : Ez41 (2) = aI cI 162 (dq i 0) := va_up_of hE40 (by first | decide | omega) q2
        have f45 : Ez41 (1) = aI cI 27 (va_up (wq i) (i) (3 + (i % 3))) := va_up_eq hE40
        refine z_iconst C (nI (0)) dX0_init_42 (by decide) ?_
        refine z_istore_n C [(0, .ref (a0)), (1, .int (nI (i))), (2, .int (nI (3 + (i % 3)))), (3, .int (nI (0)))] dX0_init_43 (by decide) ⟨rfl, rfl, rfl, rfl, rfl, rfl, rfl, rfl, trivial⟩ ?_
        have loop44 : ∀ (fuel : Nat) (j : Nat) (E3 : Nat → va_E), (hj : j ≤ 3 + i % 3) → (r0 : E3 (0) = .inr (0, [.ref (a1_), .ref (a16_)])) → (r1 : E3 (1) = aI cI 27 (wq (i + 1))) → (r2 : E3 (2) = aI cI 162 (dq i j)) → 3 + i % 3 - j < fuel → Z vp vl ve { frames := 1, cells := 2, slots := 189, locals := 12 } vs vm va vb vt vc 4 D A (3) ad17_ E3 [(0, .ref (a0)), (1, .int (nI (i))), (2, .int (nI (3 + i % 3))), (3, .int (nI (j)))] (0 + 1 + 1) (0 + 27 + 162) Q 44 [] := by
          intro fuel
          induction fuel with
          | zero => intro j E3 hj r0 r1 r2 hlt; exact absurd hlt (Nat.not_lt_zero _)
          | succ fuel ih =>
            intro j E3 hj r0 r1 r2 hlt
            have ih44 := ih
            refine z_iload_n C dX0_init_44 rfl ?_
            refine z_iload_n C dX0_init_45 rfl ?_
            refine z_icmp_geN C 85 (by omega) (by omega) dX0_init_46 (by decide) (fun h46 => ?_) (fun h46 => ?_)
            · have hje : j = 3 + i % 3 := by omega
              refine z_iincN (j := 1) C [(0, .ref (a0)), (1, .int (nI (i + 1))), (2, .int (nI (3 + i % 3))), (3, .int (nI (j)))] dX0_init_85 rfl (by decide) ⟨rfl, rfl, rfl, rfl, rfl, rfl, rfl, rfl, trivial⟩ ?_
              refine z_goto C 23 dX0_init_88 (by decide) ?_
              refine z_lv [(0, .ref (a0)), (1, .int (nI (i + 1)))] ⟨rfl, rfl, rfl, rfl, trivial⟩ ?_
              exact ih23 (i + 1) E3 (by omega) r0 (r1) (r2.trans (by rw [hje, dq_n])) (by omega)
            · have hb : (i + 1) * (j + 2) ≤ 26 * 8 := Nat.mul_le_mul (by omega) (by omega)
              refine z_aload_n C dX0_init_49 rfl ?_
              refine z_get C (0) (Cn := RX0) (T := TX0) (N := 2) (fi := 1) iw_X0_init_0 rfl (by decide) ln_X0_init_15 (by first | decide | omega) hd22 r0 rfl dX0_init_50 ?_
              refine z_iload_n C dX0_init_53 rfl ?_
              refine z_bipush C (nI (6)) dX0_init_54 (by decide) ?_
              refine z_imulN C  dX0_init_56 ?_
              refine z_iload_n C dX0_init_57 rfl ?_
              refine z_iaddN C  dX0_init_58 ?_
              refine z_iload_n C dX0_init_59 rfl ?_
              refine z_iconst C (nI (1)) dX0_init_60 (by decide) ?_
              refine z_iaddN C  dX0_init_61 ?_
              refine z_iload_n C dX0_init_62 rfl ?_
              refine z_iconst C (nI (2)) dX0_init_63 (by decide) ?_
              refine z_iaddN C  dX0_init_64 ?_
              refine z_imulN C  dX0_init_65 ?_
              refine z_bipush C (nI (29)) dX0_init_66 (by decide) ?_
              refine z_imulN C  dX0_init_68 ?_
              refine z_bipush C (nI (17)) dX0_init_69 (by decide) ?_
              refine z_iload_n C dX0_init_71 rfl ?_
              refine z_imulN C  dX0_init_72 ?_
              refine z_iaddN C  dX0_init_73 ?_
              refine z_sipush C (nI (256)) dX0_init_74 (by decide) ?_
              refine z_iremN C (by omega) (by omega) (by omega) dX0_init_77 ?_
              refine z_iastG C (2) hX21_ (by first | decide | omega) hd24 r2 (by omega) (by decide) dX0_init_78 (fun Ez47 hE46 => ?_)
              have f48 : Ez47 (0) = .inr (0, [.ref (a1_), .ref (a16_)]) := va_up_of hE46 (by first | decide | omega) r0
              have f49 : Ez47 (1) = aI cI 27 (wq (i + 1)) := va_up_of hE46 (by first | decide | omega) r1
              have f51 : Ez47 (2) = aI cI 162 (va_up (dq i j) ((i * 6) + j) (((((i + 1) * (j + 2)) * 29) + (17 * j)) % 256)) := va_up_eq hE46
              refine z_iincN (j := 1) C [(0, .ref (a0)), (1, .int (nI (i))), (2, .int (nI (3 + i % 3))), (3, .int (nI (j + 1)))] dX0_init_79 rfl (by decide) ⟨rfl, rfl, rfl, rfl, rfl, rfl, rfl, rfl, trivial⟩ ?_
              refine z_goto C 44 dX0_init_82 (by decide) ?_
              refine z_lv [(0, .ref (a0)), (1, .int (nI (i))), (2, .int (nI (3 + i % 3))), (3, .int (nI (j + 1)))] ⟨rfl, rfl, rfl, rfl, rfl, rfl, rfl, rfl, trivial⟩ ?_
              exact ih44 (j + 1) Ez47 (by omega) f48 f49 (f51.trans (by rw [← dq_s (i := i) (j := j) (k := i * 6 + j) (by omega) (by omega)]; rfl)) (by omega)
        refine z_lv [(0, .ref (a0)), (1, .int (nI (i))), (2, .int (nI (3 + (i % 3)))), (3, .int (nI (0)))] ⟨rfl, rfl, rfl, rfl, rfl, rfl, rfl, rfl, trivial⟩ ?_
        exact loop44 (7) 0 Ez41 (Nat.zero_le _) f42 (f45.trans (by rw [wq_s])) f44 (by omega)
  refine z_lv [(0, .ref (a0)), (1, .int (nI (0)))] ⟨rfl, rfl, rfl, rfl, trivial⟩ ?_
  exact loop23 (27) 0 Ez29 (Nat.zero_le _) f33 (f30.trans (by rw [wq_0])) (f32.trans (by rw [dq_0])) (by omega)

