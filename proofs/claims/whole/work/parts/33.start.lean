theorem fsX5 : ∀ j, j < 12 → defaultValue (tyX5 j) = vp_V [.null, .null, .null, .null, .null, .int (nI (0)), .int (nI (0)), .int (nI (0)), .int (nI (0)), .int (nI (0)), .int (nI (0)), .int (nI (0))] j := by
  intro j hj
  rcases (show j = 0 ∨ j = 1 ∨ j = 2 ∨ j = 3 ∨ j = 4 ∨ j = 5 ∨ j = 6 ∨ j = 7 ∨ j = 8 ∨ j = 9 ∨ j = 10 ∨ j = 11 by omega) with rfl | rfl | rfl | rfl | rfl | rfl | rfl | rfl | rfl | rfl | rfl | rfl <;> rfl
theorem fsX6 : ∀ j, j < 19 → defaultValue (tyX6 j) = vp_V [.int (nI (0)), .int (nI (0)), .int (nI (0)), .int (nI (0)), .int (nI (0)), .int (nI (0)), .int (nI (0)), .null, .null, .null, .int (nI (0)), .null, .int (nI (0)), .null, .null, .null, .int (nI (0)), .null, .null] j := by
  intro j hj
  rcases (show j = 0 ∨ j = 1 ∨ j = 2 ∨ j = 3 ∨ j = 4 ∨ j = 5 ∨ j = 6 ∨ j = 7 ∨ j = 8 ∨ j = 9 ∨ j = 10 ∨ j = 11 ∨ j = 12 ∨ j = 13 ∨ j = 14 ∨ j = 15 ∨ j = 16 ∨ j = 17 ∨ j = 18 by omega) with rfl | rfl | rfl | rfl | rfl | rfl | rfl | rfl | rfl | rfl | rfl | rfl | rfl | rfl | rfl | rfl | rfl | rfl | rfl <;> rfl
set_option maxHeartbeats 4000000 in
set_option maxRecDepth 100000 in
theorem whole_start {p : Program} {e : Env} {s : State} {m : MethodId} {below : List Frame} {meth : Method} {c : Code} (l : Launch) (hflags : l.flags = flags0) {b L : Nat} {xs : Nat → Int32} (hL : L ≤ 2048) (C0 : lw_At p s m meth c b L xs) : W p l e room_1 s m #[Value.ref b] below meth c s.heap [] 0 0 (lw_Z below #[Value.ref b] s) (entryFrame m ([Value.ref b] : List Value).toArray 4) := by
  obtain ⟨hx, hb, hr, hml, hown, hts0, hXs, hbl, hlocks, hgv⟩ := C0
  have hts : ∀ w ∈ wsL_law, w.before #[Value.ref b] s = true := fun w h => hts0 w (wsL_law_in w h)
  have hA : ∀ q : Nat, s.heap.size ≤ q → (fun q : Nat => s.heap.size ≤ q) q := fun _ h => h
  have hbA : ¬ (fun q : Nat => s.heap.size ≤ q) b := Nat.not_le.mpr hbl
  obtain ⟨t0, hz⟩ := shz_of hts0 hgv
  obtain ⟨cI, hI1, hI2⟩ := arr_int (hts0 (.arrayClass .int) (List.mem_of_getElem? (i := 57) (by decide +kernel)))
  obtain ⟨cM, hM1, hM2⟩ := arr_obj (hts0 (.arrayOver (.object RX1)) (List.mem_of_getElem? (i := 80) (by decide +kernel)))
  obtain ⟨c0, i0, k0⟩ := u_known (C := RX0) (T := TX0) (N := 2) (n := 2) hts inlX0 (hts0 (.instantiable RX0 2) (List.mem_of_getElem? (i := 45) (by decide +kernel)))
  obtain ⟨c1, i1, k1⟩ := u_known (C := RX1) (T := TX1) (N := 4) (n := 4) hts inlX1 (hts0 (.instantiable RX1 4) (List.mem_of_getElem? (i := 81) (by decide +kernel)))
  obtain ⟨c2, i2, k2⟩ := u_known (C := RX2) (T := TX2) (N := 2) (n := 2) hts inlX2 (hts0 (.instantiable RX2 2) (List.mem_of_getElem? (i := 74) (by decide +kernel)))
  obtain ⟨c3, i3, k3⟩ := u_known (C := RX3) (T := TX3) (N := 3) (n := 3) hts inlX3 (hts0 (.instantiable RX3 3) (List.mem_of_getElem? (i := 117) (by decide +kernel)))
  obtain ⟨c4, i4, k4⟩ := u_known (C := RX4) (T := TX4) (N := 2) (n := 2) hts inlX4 (hts0 (.instantiable RX4 2) (List.mem_of_getElem? (i := 59) (by decide +kernel)))
  obtain ⟨c5, i5, k5⟩ := u_known (C := RX5) (T := TX5) (N := 12) (n := 12) hts inlX5 (hts0 (.instantiable RX5 12) (List.mem_of_getElem? (i := 37) (by decide +kernel)))
  obtain ⟨c6, i6, k6⟩ := u_known (C := RX6) (T := TX6) (N := 19) (n := 19) hts inlX6 (hts0 (.instantiable RX6 19) (List.mem_of_getElem? (i := 448) (by decide +kernel)))
  obtain ⟨D, hKc⟩ : ∃ D : va_G, ∀ (k : Nat) (q : vw_C), vwCl[k]? = some q → u_Kn s q.1 q.2.1 q.2.2 (D.1 k) (D.2 k) := by
    refine ⟨(fun k => if k = 0 then c0 else if k = 1 then c1 else if k = 2 then c2 else if k = 3 then c3 else if k = 4 then c4 else if k = 5 then c5 else c6, fun k => if k = 0 then i0 else if k = 1 then i1 else if k = 2 then i2 else if k = 3 then i3 else if k = 4 then i4 else if k = 5 then i5 else i6), ?_⟩
    intro k q hq
    match k, hq with
    | 0, hq => cases hq; exact k0
    | 1, hq => cases hq; exact k1
    | 2, hq => cases hq; exact k2
    | 3, hq => cases hq; exact k3
    | 4, hq => cases hq; exact k4
    | 5, hq => cases hq; exact k5
    | 6, hq => cases hq; exact k6
    | k + 7, hq => simp [vwCl] at hq
  have hK : va_K D vwCl [(cI, .int), (cM, .object RX1)] s := by
    refine ⟨hKc, fun k q h => ?_⟩
    match k, h with
    | 0, h => cases h; exact ⟨hI1, hI2⟩
    | 1, h => cases h; exact ⟨hM1, hM2⟩
    | k + 2, h => simp at h
  have hN : NW s := fun w hw => va_Nw.of (NW_tab w hw) (hts0 w (nwL_in w hw))
  have hao : va_AO RX1 s := va_AO.of (hts0 (.arrayOver (.object RX1)) (List.mem_of_getElem? (i := 80) (by decide +kernel)))
  have C : ZC p s m #[Value.ref b] meth c code 4 RL wsL_law D cI cM := ⟨hx, hb, hml, hown, hts, hK, hN, hlocks⟩
  have hX0 : XD (fun q : Nat => s.heap.size ≤ q) 0 (fun _ => 0) := ⟨fun i j hi => absurd hi (Nat.not_lt_zero _), fun k hk => absurd hk (Nat.not_lt_zero _)⟩
  have hend : ∀ (ad : Nat → Nat) (pc : Nat) (lv : List (Nat × Value)) (E2 : Nat → va_E), decode code pc = .ok (.ireturn, 1) → Z p l e room_1 s m #[Value.ref b] below meth c 4 D (fun q : Nat => s.heap.size ≤ q) 40 ad E2 lv 40 3008 (lw_Z below #[Value.ref b] s) pc [.int 1] := fun ad pc lv E2 hd H locs ls hP hS hl =>
    va_forget (fun q hq => hS.2.2 q hq) (W.widen (k := 600000) (n := 7302250) (Nat.le_of_ble_eq_true rfl) (Nat.le_of_ble_eq_true rfl) (lw_ret hx hb hr hlocks hd))
  have start : Z p l e room_1 s m #[Value.ref b] below meth c 4 D (fun q : Nat => s.heap.size ≤ q) 0 (fun _ => 0) (fun _ => .inr (0, [])) [(0, .ref b)] 0 0 (lw_Z below #[Value.ref b] s) 0 [] := by
    refine z_new (ci := 5) (Cn := RX5) (T := TX5) (N := 12) C [.null, .null, .null, .null, .null, .int (nI (0)), .int (nI (0)), .int (nI (0)), .int (nI (0)), .int (nI (0)), .int (nI (0)), .int (nI (0))] tyX5 inlX5 tyX5_ok (by decide +kernel) (by decide +kernel) (by decide +kernel) hX0 hA rfl fsX5 (Nat.le_of_ble_eq_true rfl) (Nat.le_of_ble_eq_true rfl) dL_law_0 (fun a1_ ad2_ Ez3 had4 hE5 hX6_ => ?_)
    have hd7 : ad2_ (0) = a1_ := va_up_eq had4
    have f8 : Ez3 (0) = .inr (5, [.null, .null, .null, .null, .null, .int (nI (0)), .int (nI (0)), .int (nI (0)), .int (nI (0)), .int (nI (0)), .int (nI (0)), .int (nI (0))]) := va_up_eq hE5
    refine z_dup C dL_law_3 rfl ?_
    refine z_callI (n := 0) C hao hA (k_X5_init l D cI cM) (cwI 0 C.2.2.2.2.1 gL_law_X5_init rfl rfl rfl (C.2.2.2.2.1 _ (by decide +kernel)) (C.2.2.2.2.1 _ (by decide +kernel)) (C.2.2.2.2.1 _ (by decide +kernel)) rfl (by decide +kernel) ⟨(Nat.le_of_ble_eq_true rfl), (Nat.le_of_ble_eq_true rfl)⟩) hX6_ hd7 f8 (Nat.le_of_ble_eq_true rfl) ⟨(Nat.le_of_ble_eq_true rfl), (Nat.le_of_ble_eq_true rfl)⟩ dL_law_4 (fun ad9_ Ez10 hj11 hk12 hl13 hX14_ hp15 => ?_)
    have hR5 : RelX cI cM ad9_ M00 Ez10 := by have q := hp15; simp only [Nat.zero_add] at q; exact q
    refine z_astore_n C [(0, .ref (b)), (1, .ref (a1_))] dL_law_7 (by decide) ⟨rfl, rfl, rfl, rfl, trivial⟩ ?_
    refine z_new (ci := 6) (Cn := RX6) (T := TX6) (N := 19) C [.int (nI (0)), .int (nI (0)), .int (nI (0)), .int (nI (0)), .int (nI (0)), .int (nI (0)), .int (nI (0)), .null, .null, .null, .int (nI (0)), .null, .int (nI (0)), .null, .null, .null, .int (nI (0)), .null, .null] tyX6 inlX6 tyX6_ok (by decide +kernel) (by decide +kernel) (by decide +kernel) hX14_ hA rfl fsX6 (Nat.le_of_ble_eq_true rfl) (Nat.le_of_ble_eq_true rfl) dL_law_8 (fun a17_ ad18_ Ez19 had20 hE21 hX22_ => ?_)
    have hd23 : ad18_ (0) = a1_ := va_up_of had20 (by first | decide | omega) hl13
    have hd24 : ad18_ (30) = a17_ := va_up_eq had20
    have ga25 : ∀ k : Nat, (k < 30) → ad18_ k = ad9_ k := fun k hk => va_up_of had20 (by omega) ((fun _ _ => rfl) k hk)
    have f26 : Ez19 (30) = .inr (6, [.int (nI (0)), .int (nI (0)), .int (nI (0)), .int (nI (0)), .int (nI (0)), .int (nI (0)), .int (nI (0)), .null, .null, .null, .int (nI (0)), .null, .int (nI (0)), .null, .null, .null, .int (nI (0)), .null, .null]) := va_up_eq hE21
    have g27 : ∀ k : Nat, (k < 30) → Ez19 k = Ez10 k := fun k hk => va_up_of hE21 (by omega) ((fun _ _ => rfl) k hk)
    refine z_dup C dL_law_11 rfl ?_
    refine z_callI (n := 30) C hao hA (k_X6_init l D cI cM) (cwI 0 C.2.2.2.2.1 gL_law_X6_init rfl rfl rfl (C.2.2.2.2.1 _ (by decide +kernel)) (C.2.2.2.2.1 _ (by decide +kernel)) (C.2.2.2.2.1 _ (by decide +kernel)) rfl (by decide +kernel) ⟨(Nat.le_of_ble_eq_true rfl), (Nat.le_of_ble_eq_true rfl)⟩) hX22_ hd24 f26 (Nat.le_of_ble_eq_true rfl) ⟨(Nat.le_of_ble_eq_true rfl), (Nat.le_of_ble_eq_true rfl)⟩ dL_law_12 (fun ad28_ Ez29 hj30 hk31 hl32 hX33_ hp34 => ?_)
    have hd35 : ad28_ (0) = a1_ := (hj30 (0) (by first | decide | omega)).trans hd23
    have ga37 : ∀ k : Nat, (k < 30) → ad28_ k = ad9_ k := fun k hk => (hj30 k (by omega)).trans (ga25 k hk)
    have g38 : ∀ k : Nat, (k < 30) → Ez29 k = Ez10 k := fun k hk => (hk31 k (by omega)).trans (g27 k hk)
    have hM6 : RelM cI ad28_ M00 Ez29 := relm_00 hp34
    refine z_astore_n C [(0, .ref (b)), (1, .ref (a1_)), (2, .ref (a17_))] dL_law_15 (by decide) ⟨rfl, rfl, rfl, rfl, rfl, rfl, trivial⟩ ?_
    refine z_iconst C (nI (0)) dL_law_16 (by decide) ?_
    refine z_istore_n C [(0, .ref (b)), (1, .ref (a1_)), (2, .ref (a17_)), (3, .int (nI (0)))] dL_law_17 (by decide) ⟨rfl, rfl, rfl, rfl, rfl, rfl, rfl, rfl, trivial⟩ ?_
    obtain ⟨pm, hY5, hMX5, hs5⟩ := id hR5
    obtain ⟨-, -, -, -, -, -, -, l75, hpm5, -⟩ := id hY5
    refine z_sameq (k0 := 7) (sf ad28_ pm) ((g38 7 (by decide)).trans l75) (fun i hi => by show some (ad9_ (8 + 3 * pm i)) = some (ad28_ (8 + 3 * pm i)); rw [ga37 _ (by have := hpm5.1 i hi; omega)]) (fun E9 hE9 => ?_)
    have hRX : RelX cI cM ad28_ M00 E9 := relx_ad hY5 hMX5 hs5 ga37 (fun k hk h7 => va_up_of hE9 h7 (g38 k hk)) (va_up_eq hE9)
    have hRM : RelM cI ad28_ M00 E9 := hM6.mv (fun k hk => va_up_of hE9 (by omega) rfl)
    refine z_lv [(0, .ref b), (1, .ref (ad28_ 0)), (2, .ref (ad28_ 30)), (3, .int (nI 0))] ⟨rfl, rfl, by rw [hd35]; rfl, rfl, by rw [hl32]; rfl, rfl, rfl, rfl, trivial⟩ ?_
    exact law_loop C hX33_ hXs hbl hbA hL hz (hend ad28_) (L + 5) 0 M00 E9 (Nat.zero_le _) inv_00 hRX hRM (by omega)
  have hl := lv_entry ([.ref b]) (n := 4) (Nat.le_of_ble_eq_true rfl)
  rw [lg_entry_eq]
  exact start s.heap [] _ (fun k q h => by simp [XL] at h) va_S.rf hl
