theorem fsX5 : ∀ j, j < 12 → defaultValue (tyX5 j) = vp_V [.null, .null, .null, .null, .null, .int (nI (0)), .int (nI (0)), .int (nI (0)), .int (nI (0)), .int (nI (0)), .int (nI (0)), .int (nI (0))] j := by
  intro j hj
  rcases (show j = 0 ∨ j = 1 ∨ j = 2 ∨ j = 3 ∨ j = 4 ∨ j = 5 ∨ j = 6 ∨ j = 7 ∨ j = 8 ∨ j = 9 ∨ j = 10 ∨ j = 11 by omega) with rfl | rfl | rfl | rfl | rfl | rfl | rfl | rfl | rfl | rfl | rfl | rfl <;> rfl
theorem relx_ad {cI cM : ClassId} {ad ad1 : Nat → Nat} {M : St} {pm : Nat → Nat} {E E1 : Nat → va_E} (hY : RelY cI cM ad M pm E) (hx : MsgX cI ad M pm E) (hs : StripAt cI ad E (stripM M)) (ha : ∀ k, k < 30 → ad1 k = ad k) (hE : ∀ k, k < 30 → k ≠ 7 → E1 k = E k) (h7 : E1 7 = .inl (cM, 6, .inr (.inr (.inr (.inr (sf ad1 pm)))))) : RelX cI cM ad1 M E1 := by
  obtain ⟨e0, e1, e2, e3, b4, b5, l6, l7, hpm, hn, hy, e29⟩ := hY
  obtain ⟨sd, sc, s26, s27, s28, hsp⟩ := hs
  have hmsg : ∀ (q : Nat) (sz co st wi : Int32) (g : Nat → Nat), q < 6 → Msg cI ad E q sz co st wi g → Msg cI ad1 E1 q sz co st wi g := fun q sz co st wi g hq h => by
    obtain ⟨a, b, c⟩ := h
    exact ⟨by rw [hE _ (by omega) (by omega), ha _ (by omega)]; exact a, by rw [hE _ (by omega) (by omega), ha _ (by omega)]; exact b, (hE _ (by omega) (by omega)).trans c⟩
  refine ⟨pm, ⟨?_, ?_, (hE _ (by omega) (by omega)).trans e2, (hE _ (by omega) (by omega)).trans e3, ?_, (hE _ (by omega) (by omega)).trans b5, ?_, h7, hpm, hn, fun i hi => ?_, (hE _ (by omega) (by omega)).trans e29⟩, fun i hi => ?_, ⟨sd, sc, ?_, (hE _ (by omega) (by omega)).trans s27, (hE _ (by omega) (by omega)).trans s28, hsp⟩⟩
  · rw [hE 0 (by omega) (by omega), e0]
    unfold dispE
    rw [ha 1 (by omega), ha 4 (by omega), ha 6 (by omega), ha 26 (by omega), ha 29 (by omega)]
  · rw [hE 1 (by omega) (by omega), ha 2 (by omega), ha 3 (by omega)]; exact e1
  · rw [hE 4 (by omega) (by omega), ha 5 (by omega)]; exact b4
  · rw [hE 6 (by omega) (by omega), ha 7 (by omega)]; exact l6
  · obtain ⟨sz, co, st, wi, g, h1, h2⟩ := hy i hi
    exact ⟨sz, co, st, wi, g, hmsg _ _ _ _ _ _ (hpm.1 i hi) h1, h2⟩
  · obtain ⟨g, h1, h2⟩ := hx i hi
    exact ⟨g, hmsg _ _ _ _ _ _ (hpm.1 i (by omega)) h1, h2⟩
  · rw [hE 26 (by omega) (by omega), ha 27 (by omega), ha 28 (by omega)]; exact s26
set_option maxHeartbeats 4000000 in
set_option maxRecDepth 100000 in
theorem whole_start {p : Program} {e : Env} {s : State} {m : MethodId} {below : List Frame} {meth : Method} {c : Code} (l : Launch) (hflags : l.flags = flags0) {b L : Nat} {xs : Nat → Int32} (hL : L ≤ 260) (C0 : lw_At p s m meth c b L xs) : W p l e room_1 s m #[Value.ref b] below meth c s.heap [] 0 0 (lw_Z below #[Value.ref b] s) (entryFrame m ([Value.ref b] : List Value).toArray 21) := by
  obtain ⟨hx, hb, hr, hml, hown, hts0, hXs, hbl, hlocks, hgv⟩ := C0
  have hts : ∀ w ∈ wsL_law, w.before #[Value.ref b] s = true := fun w h => hts0 w (wsL_law_in w h)
  have hA : ∀ q : Nat, s.heap.size ≤ q → (fun q : Nat => s.heap.size ≤ q) q := fun _ h => h
  have hbA : ¬ (fun q : Nat => s.heap.size ≤ q) b := Nat.not_le.mpr hbl
  obtain ⟨t0, hz⟩ := shz_of hts0 hgv
  obtain ⟨cI, hI1, hI2⟩ := arr_int (hts0 (.arrayClass .int) (List.mem_of_getElem? (i := 45) (by decide +kernel)))
  obtain ⟨cM, hM1, hM2⟩ := arr_obj (hts0 (.arrayOver (.object RX1)) (List.mem_of_getElem? (i := 68) (by decide +kernel)))
  obtain ⟨c0, i0, k0⟩ := u_known (C := RX0) (T := TX0) (N := 2) (n := 2) hts inlX0 (hts0 (.instantiable RX0 2) (List.mem_of_getElem? (i := 33) (by decide +kernel)))
  obtain ⟨c1, i1, k1⟩ := u_known (C := RX1) (T := TX1) (N := 4) (n := 4) hts inlX1 (hts0 (.instantiable RX1 4) (List.mem_of_getElem? (i := 69) (by decide +kernel)))
  obtain ⟨c2, i2, k2⟩ := u_known (C := RX2) (T := TX2) (N := 2) (n := 2) hts inlX2 (hts0 (.instantiable RX2 2) (List.mem_of_getElem? (i := 62) (by decide +kernel)))
  obtain ⟨c3, i3, k3⟩ := u_known (C := RX3) (T := TX3) (N := 3) (n := 3) hts inlX3 (hts0 (.instantiable RX3 3) (List.mem_of_getElem? (i := 105) (by decide +kernel)))
  obtain ⟨c4, i4, k4⟩ := u_known (C := RX4) (T := TX4) (N := 2) (n := 2) hts inlX4 (hts0 (.instantiable RX4 2) (List.mem_of_getElem? (i := 47) (by decide +kernel)))
  obtain ⟨c5, i5, k5⟩ := u_known (C := RX5) (T := TX5) (N := 12) (n := 12) hts inlX5 (hts0 (.instantiable RX5 12) (List.mem_of_getElem? (i := 25) (by decide +kernel)))
  obtain ⟨D, hKc⟩ : ∃ D : va_G, ∀ (k : Nat) (q : vw_C), vwCl[k]? = some q → u_Kn s q.1 q.2.1 q.2.2 (D.1 k) (D.2 k) := by
    refine ⟨(fun k => if k = 0 then c0 else if k = 1 then c1 else if k = 2 then c2 else if k = 3 then c3 else if k = 4 then c4 else c5, fun k => if k = 0 then i0 else if k = 1 then i1 else if k = 2 then i2 else if k = 3 then i3 else if k = 4 then i4 else i5), ?_⟩
    intro k q hq
    match k, hq with
    | 0, hq => cases hq; exact k0
    | 1, hq => cases hq; exact k1
    | 2, hq => cases hq; exact k2
    | 3, hq => cases hq; exact k3
    | 4, hq => cases hq; exact k4
    | 5, hq => cases hq; exact k5
    | k + 6, hq => simp [vwCl] at hq
  have hK : va_K D vwCl [(cI, .int), (cM, .object RX1)] s := by
    refine ⟨hKc, fun k q h => ?_⟩
    match k, h with
    | 0, h => cases h; exact ⟨hI1, hI2⟩
    | 1, h => cases h; exact ⟨hM1, hM2⟩
    | k + 2, h => simp at h
  have hN : NW s := fun w hw => va_Nw.of (NW_tab w hw) (hts0 w (nwL_in w hw))
  have hao : va_AO RX1 s := va_AO.of (hts0 (.arrayOver (.object RX1)) (List.mem_of_getElem? (i := 68) (by decide +kernel)))
  have C : ZC p s m #[Value.ref b] meth c code 21 RL wsL_law D cI cM := ⟨hx, hb, hml, hown, hts, hK, hN, hlocks⟩
  have hX0 : XD (fun q : Nat => s.heap.size ≤ q) 0 (fun _ => 0) := ⟨fun i j hi => absurd hi (Nat.not_lt_zero _), fun k hk => absurd hk (Nat.not_lt_zero _)⟩
  have hend : ∀ (ad : Nat → Nat) (pc : Nat) (lv : List (Nat × Value)) (E2 : Nat → va_E), decode code pc = .ok (.ireturn, 1) → Z p l e room_1 s m #[Value.ref b] below meth c 21 D (fun q : Nat => s.heap.size ≤ q) 32 ad E2 lv 32 1547 (lw_Z below #[Value.ref b] s) pc [.int 1] := fun ad pc lv E2 hd H locs ls hP hS hl =>
    va_forget (fun q hq => hS.2.2 q hq) (W.widen (k := 600000) (n := 7302250) (Nat.le_of_ble_eq_true rfl) (Nat.le_of_ble_eq_true rfl) (lw_ret hx hb hr hlocks hd))
  have start : Z p l e room_1 s m #[Value.ref b] below meth c 21 D (fun q : Nat => s.heap.size ≤ q) 0 (fun _ => 0) (fun _ => .inr (0, [])) [(0, .ref b)] 0 0 (lw_Z below #[Value.ref b] s) 0 [] := by
    refine z_new (ci := 5) (Cn := RX5) (T := TX5) (N := 12) C [.null, .null, .null, .null, .null, .int (nI (0)), .int (nI (0)), .int (nI (0)), .int (nI (0)), .int (nI (0)), .int (nI (0)), .int (nI (0))] tyX5 inlX5 tyX5_ok (by decide +kernel) (by decide +kernel) (by decide +kernel) hX0 hA rfl fsX5 (Nat.le_of_ble_eq_true rfl) (Nat.le_of_ble_eq_true rfl) dL_law_0 (fun a1_ ad2_ Ez3 had4 hE5 hX6_ => ?_)
    have hd7 : ad2_ (0) = a1_ := va_up_eq had4
    have f8 : Ez3 (0) = .inr (5, [.null, .null, .null, .null, .null, .int (nI (0)), .int (nI (0)), .int (nI (0)), .int (nI (0)), .int (nI (0)), .int (nI (0)), .int (nI (0))]) := va_up_eq hE5
    refine z_dup C dL_law_3 rfl ?_
    refine z_callI (n := 0) C hao hA (k_X5_init l D cI cM) (cwI 0 C.2.2.2.2.1 gL_law_X5_init rfl rfl rfl (C.2.2.2.2.1 _ (by decide +kernel)) (C.2.2.2.2.1 _ (by decide +kernel)) (C.2.2.2.2.1 _ (by decide +kernel)) rfl (by decide +kernel) ⟨(Nat.le_of_ble_eq_true rfl), (Nat.le_of_ble_eq_true rfl)⟩) hX6_ hd7 f8 (Nat.le_of_ble_eq_true rfl) ⟨(Nat.le_of_ble_eq_true rfl), (Nat.le_of_ble_eq_true rfl)⟩ dL_law_4 (fun ad9_ Ez10 hj11 hk12 hl13 hX14_ hp15 => ?_)
    have hR5 : RelX cI cM ad9_ M00 Ez10 := by have q := hp15; simp only [Nat.zero_add] at q; exact q
    refine z_astore_n C [(0, .ref (b)), (1, .ref (a1_))] dL_law_7 (by decide) ⟨rfl, rfl, rfl, rfl, trivial⟩ ?_
    refine z_bipush C (nI (63)) dL_law_8 (by decide) ?_
    refine z_newa C (by decide +kernel) hX14_ hA (Nat.le_of_ble_eq_true rfl) (Nat.le_of_ble_eq_true rfl) (Nat.le_of_ble_eq_true rfl) (Nat.le_of_ble_eq_true rfl) dL_law_10 (fun a17_ ad18_ Ez19 had20 hE21 hX22_ => ?_)
    have hd23 : ad18_ (0) = a1_ := va_up_of had20 (by first | decide | omega) hl13
    have hd24 : ad18_ (30) = a17_ := va_up_eq had20
    have ga25 : ∀ k : Nat, (k < 30) → ad18_ k = ad9_ k := fun k hk => va_up_of had20 (by omega) ((fun _ _ => rfl) k hk)
    have f26 : Ez19 (30) = aI cI 63 (fun _ => 0) := va_up_eq hE21
    have g27 : ∀ k : Nat, (k < 30) → Ez19 k = Ez10 k := fun k hk => va_up_of hE21 (by omega) ((fun _ _ => rfl) k hk)
    refine z_astore_n C [(0, .ref (b)), (1, .ref (a1_)), (2, .ref (a17_))] dL_law_12 (by decide) ⟨rfl, rfl, rfl, rfl, rfl, rfl, trivial⟩ ?_
    refine z_bipush C (nI (12)) dL_law_13 (by decide) ?_
    refine z_newa C (by decide +kernel) hX22_ hA (Nat.le_of_ble_eq_true rfl) (Nat.le_of_ble_eq_true rfl) (Nat.le_of_ble_eq_true rfl) (Nat.le_of_ble_eq_true rfl) dL_law_15 (fun a28_ ad29_ Ez30 had31 hE32 hX33_ => ?_)
    have hd34 : ad29_ (0) = a1_ := va_up_of had31 (by first | decide | omega) hd23
    have hd35 : ad29_ (30) = a17_ := va_up_of had31 (by first | decide | omega) hd24
    have hd36 : ad29_ (31) = a28_ := va_up_eq had31
    have ga37 : ∀ k : Nat, (k < 30) → ad29_ k = ad9_ k := fun k hk => va_up_of had31 (by omega) (ga25 k hk)
    have f38 : Ez30 (30) = aI cI 63 (fun _ => 0) := va_up_of hE32 (by first | decide | omega) f26
    have f39 : Ez30 (31) = aI cI 12 (fun _ => 0) := va_up_eq hE32
    have g40 : ∀ k : Nat, (k < 30) → Ez30 k = Ez10 k := fun k hk => va_up_of hE32 (by omega) (g27 k hk)
    refine z_astore_n C [(0, .ref (b)), (1, .ref (a1_)), (2, .ref (a17_)), (3, .ref (a28_))] dL_law_17 (by decide) ⟨rfl, rfl, rfl, rfl, rfl, rfl, rfl, rfl, trivial⟩ ?_
    obtain ⟨pm, hY5, hMX5, hs5⟩ := id hR5
    obtain ⟨-, -, -, -, -, -, -, l75, hpm5, -⟩ := id hY5
    refine z_sameq (k0 := 7) (sf ad29_ pm) ((g40 7 (by decide)).trans l75) (fun i hi => by show some (ad9_ (8 + 3 * pm i)) = some (ad29_ (8 + 3 * pm i)); rw [ga37 _ (by have := hpm5.1 i hi; omega)]) (fun E9 hE9 => ?_)
    have hRX : RelX cI cM ad29_ M00 E9 := relx_ad hY5 hMX5 hs5 ga37 (fun k hk h7 => va_up_of hE9 h7 (g40 k hk)) (va_up_eq hE9)
    have x30 : E9 (30) = aI cI 63 (fun _ => 0) := va_up_of hE9 (by decide) f38
    have x31 : E9 (31) = aI cI 12 (fun _ => 0) := va_up_of hE9 (by decide) f39
    refine z_lv [(0, .ref b), (1, .ref (ad29_ 0)), (2, .ref (ad29_ 30)), (3, .ref (ad29_ 31))] ⟨rfl, rfl, by rw [hd34]; rfl, rfl, by rw [hd35]; rfl, rfl, by rw [hd36]; rfl, rfl, trivial⟩ ?_
    exact lgM C hX33_ hXs hbl hbA hL hz hRX x30 x31 (hend ad29_)
  have hl := lv_entry ([.ref b]) (n := 21) (Nat.le_of_ble_eq_true rfl)
  rw [lg_entry_eq]
  exact start s.heap [] _ (fun k q h => by simp [XL] at h) va_S.rf hl
