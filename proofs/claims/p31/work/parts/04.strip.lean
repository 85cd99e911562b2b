def SP (sd sc : Nat → Nat) (l : List (Nat × Nat)) : Prop := ∀ i, i < l.length → (sd i, sc i) = l.getD i (0, 0)
theorem SP_add {sd sc : Nat → Nat} {l : List (Nat × Nat)} {d c : Nat} (h : SP sd sc l) : SP (va_up sd l.length d) (va_up sc l.length c) (l ++ [(d, c)]) := by
  intro i hi
  rw [List.length_append, List.length_singleton] at hi
  by_cases e : i = l.length
  · subst e
    rw [va_up_self, va_up_self]
    simp [List.getD_eq_getElem?_getD]
  · rw [va_up_ne _ _ e, va_up_ne _ _ e, h i (by omega)]
    rw [List.getD_eq_getElem?_getD, List.getD_eq_getElem?_getD, List.getElem?_append_left (by omega)]
theorem SP_nil {sd sc : Nat → Nat} : SP sd sc [] := fun i hi => absurd hi (Nat.not_lt_zero _)
theorem SP_d {sd sc : Nat → Nat} {l : List (Nat × Nat)} (h : SP sd sc l) {i : Nat} (hi : i < l.length) : sd i = (l.getD i (0, 0)).1 := congrArg Prod.fst (h i hi)
theorem SP_c {sd sc : Nat → Nat} {l : List (Nat × Nat)} (h : SP sd sc l) {i : Nat} (hi : i < l.length) : sc i = (l.getD i (0, 0)).2 := congrArg Prod.snd (h i hi)
def glyph (wd dt : Nat → Nat) (c co : Nat) : List (Nat × Nat) := (List.range (wd c)).map (fun j => (dt (c * 6 + j), co))
def glyphP (dt : Nat → Nat) (c co : Nat) (m : Nat) : List (Nat × Nat) := (List.range m).map (fun j => (dt (c * 6 + j), co))
theorem glyphP_s (dt : Nat → Nat) (c co m : Nat) : glyphP dt c co (m + 1) = glyphP dt c co m ++ [(dt (c * 6 + m), co)] := by
  unfold glyphP; rw [List.range_succ, List.map_append]; rfl
theorem glyph_len (wd dt : Nat → Nat) (c co : Nat) : (glyph wd dt c co).length = wd c := by simp [glyph]
theorem glyphP_len (dt : Nat → Nat) (c co m : Nat) : (glyphP dt c co m).length = m := by simp [glyphP]
def dk (m : Nat) : List (Nat × Nat) := List.replicate m (0, 0)
theorem dk_s (m : Nat) : dk (m + 1) = dk m ++ [(0, 0)] := by unfold dk; exact List.replicate_succ'
theorem dk_len (m : Nat) : (dk m).length = m := by simp [dk]
def mcols (wd dt : Nat → Nat) (co : Nat) (le : Nat → Nat) : Nat → List (Nat × Nat)
  | 0 => []
  | k + 1 => mcols wd dt co le k ++ dk (if k = 0 then 0 else 1) ++ glyph wd dt (le k) co
def mW (wd : Nat → Nat) (le : Nat → Nat) : Nat → Nat
  | 0 => 0
  | k + 1 => mW wd le k + (if k = 0 then 0 else 1) + wd (le k)
theorem mcols_len (wd dt : Nat → Nat) (co : Nat) (le : Nat → Nat) : ∀ k, (mcols wd dt co le k).length = mW wd le k
  | 0 => rfl
  | k + 1 => by rw [mcols, List.length_append, List.length_append, mcols_len wd dt co le k, dk_len, glyph_len, mW]
theorem mW_le {wd le : Nat → Nat} (hw : ∀ c, c < 27 → wd c ≤ 6) : ∀ k, (∀ i, i < k → le i < 27) → mW wd le k + (if k = 0 then 0 else 1) ≤ 7 * k
  | 0, _ => Nat.le_refl _
  | k + 1, h => by
    have h1 := mW_le (le := le) hw k (fun i hi => h i (by omega))
    have h2 := hw _ (h k (by omega))
    rw [mW, if_neg (Nat.succ_ne_zero k)]
    omega
def scols (wd dt : Nat → Nat) (G : Nat) (sz co : Nat → Nat) (le : Nat → Nat → Nat) : Nat → List (Nat × Nat)
  | 0 => []
  | i + 1 => scols wd dt G sz co le i ++ mcols wd dt (co i) (le i) (sz i) ++ dk G
def sL (wd : Nat → Nat) (G : Nat) (sz : Nat → Nat) (le : Nat → Nat → Nat) : Nat → Nat
  | 0 => 0
  | i + 1 => sL wd G sz le i + mW wd (le i) (sz i) + G
theorem scols_len (wd dt : Nat → Nat) (G : Nat) (sz co : Nat → Nat) (le : Nat → Nat → Nat) : ∀ i, (scols wd dt G sz co le i).length = sL wd G sz le i
  | 0 => rfl
  | i + 1 => by rw [scols, List.length_append, List.length_append, scols_len wd dt G sz co le i, mcols_len, dk_len, sL]
theorem sL_le {wd : Nat → Nat} {G : Nat} {sz : Nat → Nat} {le : Nat → Nat → Nat} (hw : ∀ c, c < 27 → wd c ≤ 6) (hG : G ≤ 9) : ∀ n, (∀ i, i < n → sz i ≤ 12 ∧ ∀ k, k < sz i → le i k < 27) → sL wd G sz le n ≤ 92 * n
  | 0, _ => Nat.le_refl _
  | n + 1, h => by
    have h1 := sL_le (sz := sz) (le := le) hw hG n (fun i hi => h i (by omega))
    have h2 := mW_le (le := le n) hw (sz n) (h n (by omega)).2
    have h3 := (h n (by omega)).1
    rw [sL]
    have h4 : mW wd (le n) (sz n) ≤ 83 := by
      by_cases e : sz n = 0
      · rw [e] at h2 ⊢; simp at h2; omega
      · rw [if_neg e] at h2; omega
    omega
theorem sL_mono (wd : Nat → Nat) (G : Nat) (sz : Nat → Nat) (le : Nat → Nat → Nat) {i n : Nat} (h : i ≤ n) : sL wd G sz le i ≤ sL wd G sz le n := by
  induction h with
  | refl => exact Nat.le_refl _
  | step _ ih => rw [sL]; omega
def StripAt (cI : ClassId) (ad : Nat → Nat) (E : Nat → va_E) (l : List (Nat × Nat)) : Prop := ∃ sd sc : Nat → Nat, E 26 = .inr (3, [.ref (ad 27), .ref (ad 28), .int (nI l.length)]) ∧ E 27 = aI cI 552 sd ∧ E 28 = aI cI 552 sc ∧ SP sd sc l
theorem StripAt.mv {cI : ClassId} {ad : Nat → Nat} {E E1 : Nat → va_E} {l : List (Nat × Nat)} (h : StripAt cI ad E l) (h6 : E1 26 = E 26) (h7 : E1 27 = E 27) (h8 : E1 28 = E 28) : StripAt cI ad E1 l := by
  obtain ⟨sd, sc, a, b, c, d⟩ := h
  exact ⟨sd, sc, h6.trans a, h7.trans b, h8.trans c, d⟩
theorem iw_X3_addColumn_3 : ∀ w ∈ wsX30, w ∈ wsX3_addColumn := by decide +kernel
theorem ln_X3_addColumn_18 : Cond.fieldLink RX3 18 "MarqueeDisplay$Strip" "length" "I" ∈ wsX3_addColumn := by decide +kernel
theorem ln_X3_addColumn_9 : Cond.fieldLink RX3 9 "MarqueeDisplay$Strip" "dots" "[I" ∈ wsX3_addColumn := by decide +kernel
theorem ln_X3_addColumn_15 : Cond.fieldLink RX3 15 "MarqueeDisplay$Strip" "colors" "[I" ∈ wsX3_addColumn := by decide +kernel
set_option maxHeartbeats 4000000 in
set_option maxRecDepth 100000 in
theorem k_X3_addColumn (vl : Launch) (D : va_G) (cI cM : ClassId) (A : Nat → Prop) (ad : Nat → Nat) (E : Nat → va_E) (hX : XD A 32 ad) {l : List (Nat × Nat)} {d co : Nat} (hs : StripAt cI ad E l) (hl : l.length < 552) : MV vl yX3_addColumn wsX3_addColumn { frames := 0, cells := 0, slots := 0, locals := 0 } D cI cM A 32 ad E [.ref (ad 26), .int (nI (d)), .int (nI (co))] (fun E1 => StripAt cI ad E1 (l ++ [(d, co)]) ∧ ∀ k : Nat, (k < 26 ∨ 28 < k) → E1 k = E k) := by
  refine mv_of cX3_addColumn 3 RX3 (by decide) rfl rfl (Nat.le_of_ble_eq_true rfl) ?_
  intro vp ve vs vm va vb vt vc Q C hend
  refine z_lv [(0, .ref (ad 26)), (1, .int (nI (d))), (2, .int (nI (co)))] ⟨rfl, rfl, rfl, rfl, rfl, rfl, trivial⟩ ?_
  obtain ⟨sd, sc, s26, s27, s28, hsp⟩ := hs
  refine z_aload_n C dX3_addColumn_0 rfl ?_
  refine z_get C (26) (Cn := RX3) (T := TX3) (N := 3) (fi := 2) iw_X3_addColumn_3 rfl (by decide) ln_X3_addColumn_18 (by first | decide | omega) rfl s26 rfl dX3_addColumn_1 ?_
  refine z_aload_n C dX3_addColumn_4 rfl ?_
  refine z_get C (26) (Cn := RX3) (T := TX3) (N := 3) (fi := 0) iw_X3_addColumn_3 rfl (by decide) ln_X3_addColumn_9 (by first | decide | omega) rfl s26 rfl dX3_addColumn_5 ?_
  refine z_alenG C (27) (by first | decide | omega) rfl s27 dX3_addColumn_8 ?_
  refine z_icmp_geN C 54 (by omega) (by omega) dX3_addColumn_9 (by decide) (fun h9 => (by exfalso; omega)) (fun h9 => ?_)
  refine z_aload_n C dX3_addColumn_12 rfl ?_
  refine z_get C (26) (Cn := RX3) (T := TX3) (N := 3) (fi := 2) iw_X3_addColumn_3 rfl (by decide) ln_X3_addColumn_18 (by first | decide | omega) rfl s26 rfl dX3_addColumn_13 ?_
  refine z_aload_n C dX3_addColumn_16 rfl ?_
  refine z_get C (26) (Cn := RX3) (T := TX3) (N := 3) (fi := 1) iw_X3_addColumn_3 rfl (by decide) ln_X3_addColumn_15 (by first | decide | omega) rfl s26 rfl dX3_addColumn_17 ?_
  refine z_alenG C (28) (by first | decide | omega) rfl s28 dX3_addColumn_20 ?_
  refine z_icmp_geN C 54 (by omega) (by omega) dX3_addColumn_21 (by decide) (fun h21 => (by exfalso; omega)) (fun h21 => ?_)
  refine z_aload_n C dX3_addColumn_24 rfl ?_
  refine z_get C (26) (Cn := RX3) (T := TX3) (N := 3) (fi := 0) iw_X3_addColumn_3 rfl (by decide) ln_X3_addColumn_9 (by first | decide | omega) rfl s26 rfl dX3_addColumn_25 ?_
  refine z_aload_n C dX3_addColumn_28 rfl ?_
  refine z_get C (26) (Cn := RX3) (T := TX3) (N := 3) (fi := 2) iw_X3_addColumn_3 rfl (by decide) ln_X3_addColumn_18 (by first | decide | omega) rfl s26 rfl dX3_addColumn_29 ?_
  refine z_iload_n C dX3_addColumn_32 rfl ?_
  refine z_iastG C (27) hX (by first | decide | omega) rfl s27 (by omega) (by decide) dX3_addColumn_33 (fun Ez2 hE1 => ?_)
  have f3 : Ez2 (26) = .inr (3, [.ref (ad 27), .ref (ad 28), .int (nI (l.length))]) := va_up_of hE1 (by first | decide | omega) s26
  have f5 : Ez2 (28) = aI cI 552 sc := va_up_of hE1 (by first | decide | omega) s28
  have f6 : Ez2 (27) = aI cI 552 (va_up sd (l.length) (d)) := va_up_eq hE1
  have g7 : ∀ k : Nat, (k < 26 ∨ 28 < k) → Ez2 k = E k := fun k hk => va_up_of hE1 (by omega) ((fun _ _ => rfl) k hk)
  refine z_aload_n C dX3_addColumn_34 rfl ?_
  refine z_get C (26) (Cn := RX3) (T := TX3) (N := 3) (fi := 1) iw_X3_addColumn_3 rfl (by decide) ln_X3_addColumn_15 (by first | decide | omega) rfl f3 rfl dX3_addColumn_35 ?_
  refine z_aload_n C dX3_addColumn_38 rfl ?_
  refine z_get C (26) (Cn := RX3) (T := TX3) (N := 3) (fi := 2) iw_X3_addColumn_3 rfl (by decide) ln_X3_addColumn_18 (by first | decide | omega) rfl f3 rfl dX3_addColumn_39 ?_
  refine z_iload_n C dX3_addColumn_42 rfl ?_
  refine z_iastG C (28) hX (by first | decide | omega) rfl f5 (by omega) (by decide) dX3_addColumn_43 (fun Ez9 hE8 => ?_)
  have f10 : Ez9 (26) = .inr (3, [.ref (ad 27), .ref (ad 28), .int (nI (l.length))]) := va_up_of hE8 (by first | decide | omega) f3
  have f12 : Ez9 (27) = aI cI 552 (va_up sd (l.length) (d)) := va_up_of hE8 (by first | decide | omega) f6
  have f13 : Ez9 (28) = aI cI 552 (va_up sc (l.length) (co)) := va_up_eq hE8
  have g14 : ∀ k : Nat, (k < 26 ∨ 28 < k) → Ez9 k = E k := fun k hk => va_up_of hE8 (by omega) (g7 k hk)
  refine z_aload_n C dX3_addColumn_44 rfl ?_
  refine z_dup C dX3_addColumn_45 rfl ?_
  refine z_get C (26) (Cn := RX3) (T := TX3) (N := 3) (fi := 2) iw_X3_addColumn_3 rfl (by decide) ln_X3_addColumn_18 (by first | decide | omega) rfl f10 rfl dX3_addColumn_46 ?_
  refine z_iconst C (nI (1)) dX3_addColumn_49 (by decide) ?_
  refine z_iaddN C  dX3_addColumn_50 ?_
  refine z_put C (26) (Cn := RX3) (T := TX3) (N := 3) (fi := 2) tyX3 iw_X3_addColumn_3 tyX3_ok nmX3 rfl (by decide) ln_X3_addColumn_18 hX (by first | decide | omega) rfl f10 rfl rfl rfl rfl (Nat.le_of_ble_eq_true rfl) dX3_addColumn_51 (fun Ez16 hE15 => ?_)
  have f18 : Ez16 (27) = aI cI 552 (va_up sd (l.length) (d)) := va_up_of hE15 (by first | decide | omega) f12
  have f19 : Ez16 (28) = aI cI 552 (va_up sc (l.length) (co)) := va_up_of hE15 (by first | decide | omega) f13
  have f20 : Ez16 (26) = .inr (3, [.ref (ad 27), .ref (ad 28), .int (nI (l.length + 1))]) := va_up_eq hE15
  have g21 : ∀ k : Nat, (k < 26 ∨ 28 < k) → Ez16 k = E k := fun k hk => va_up_of hE15 (by omega) (g14 k hk)
  exact hend _ _ _ dX3_addColumn_54 (⟨⟨_, _, by rw [List.length_append]; exact f20, f18, f19, SP_add hsp⟩, g21⟩)

set_option maxHeartbeats 4000000 in
set_option maxRecDepth 100000 in
theorem k_X3_addDark (vl : Launch) (D : va_G) (cI cM : ClassId) (A : Nat → Prop) (ad : Nat → Nat) (E : Nat → va_E) (hX : XD A 32 ad) {l : List (Nat × Nat)} {g : Nat} (hs : StripAt cI ad E l) (hl : l.length + g ≤ 552) : MV vl yX3_addDark wsX3_addDark { frames := 1, cells := 0, slots := 0, locals := 22 } D cI cM A 32 ad E [.ref (ad 26), .int (nI (g))] (fun E1 => StripAt cI ad E1 (l ++ dk g) ∧ ∀ k : Nat, (k < 26 ∨ 28 < k) → E1 k = E k) := by
  refine mv_of cX3_addDark 3 RX3 (by decide) rfl rfl (Nat.le_of_ble_eq_true rfl) ?_
  intro vp ve vs vm va vb vt vc Q C hend
  refine z_lv [(0, .ref (ad 26)), (1, .int (nI (g)))] ⟨rfl, rfl, rfl, rfl, trivial⟩ ?_
  refine z_iconst C (nI (0)) dX3_addDark_0 (by decide) ?_
  refine z_istore_n C [(0, .ref (ad 26)), (1, .int (nI (g))), (2, .int (nI (0)))] dX3_addDark_1 (by decide) ⟨rfl, rfl, rfl, rfl, rfl, rfl, trivial⟩ ?_
  have loop2 : ∀ (fuel : Nat) (i : Nat) (E2 : Nat → va_E), (hi : i ≤ g) → (qs : StripAt cI ad E2 (l ++ dk i)) → (qf : ∀ k : Nat, (k < 26 ∨ 28 < k) → E2 k = E k) → g - i < fuel → Z vp vl ve { frames := 1, cells := 0, slots := 0, locals := 22 } vs vm va vb vt vc 3 D A 32 ad E2 [(0, .ref (ad 26)), (1, .int (nI (g))), (2, .int (nI (i)))] 0 0 Q 2 [] := by
    intro fuel
    induction fuel with
    | zero => intro i E2 hi qs qf hlt; exact absurd hlt (Nat.not_lt_zero _)
    | succ fuel ih =>
      intro i E2 hi qs qf hlt
      obtain ⟨sd2, sc2, s26, -, -, -⟩ := id qs
      have hln : (l ++ dk i).length = l.length + i := by rw [List.length_append, dk_len]
      have ih2 := ih
      refine z_iload_n C dX3_addDark_2 rfl ?_
      refine z_iload_n C dX3_addDark_3 rfl ?_
      refine z_icmp_geN C 19 (by omega) (by omega) dX3_addDark_4 (by decide) (fun h4 => ?_) (fun h4 => ?_)
      · have hig : i = g := by omega
        subst hig
        exact hend _ _ _ dX3_addDark_19 (⟨qs, qf⟩)
      · refine z_aload_n C dX3_addDark_7 rfl ?_
        refine z_iconst C (nI (0)) dX3_addDark_8 (by decide) ?_
        refine z_iconst C (nI (0)) dX3_addDark_9 (by decide) ?_
        refine z_callVV C (26) (Cn := RX3) (T := TX3) (N := 3) (k_X3_addColumn vl D cI cM A ad E2 hX qs (by rw [hln]; omega)) (cwV 2 C.2.2.2.2.1 gX3_addDark_X3_addColumn rfl rfl rfl (by decide +kernel) ⟨Nat.le_of_ble_eq_true rfl, Nat.le_of_ble_eq_true rfl⟩) rfl (by first | decide | omega) rfl s26 rfl rfl (Nat.le_of_ble_eq_true rfl) ⟨Nat.zero_le _, Nat.zero_le _⟩ dX3_addDark_10 (fun Ez1 hp2 => ?_)
        obtain ⟨hs3, hg4⟩ := hp2
        have g5 : ∀ k : Nat, (k < 26 ∨ 28 < k) → Ez1 k = E k := fun k hk => (hg4 k (by omega)).trans (qf k hk)
        refine z_iincN (j := 1) C [(0, .ref (ad 26)), (1, .int (nI (g))), (2, .int (nI (i + 1)))] dX3_addDark_13 rfl (by decide) ⟨rfl, rfl, rfl, rfl, rfl, rfl, trivial⟩ ?_
        refine z_goto C 2 dX3_addDark_16 (by decide) ?_
        refine z_lv [(0, .ref (ad 26)), (1, .int (nI (g))), (2, .int (nI (i + 1)))] ⟨rfl, rfl, rfl, rfl, rfl, rfl, trivial⟩ ?_
        exact ih2 (i + 1) Ez1 (by omega) (by rw [dk_s, ← List.append_assoc]; exact hs3) g5 (by omega)
  refine z_lv [(0, .ref (ad 26)), (1, .int (nI (g))), (2, .int (nI (0)))] ⟨rfl, rfl, rfl, rfl, rfl, rfl, trivial⟩ ?_
  exact loop2 (g + 1) 0 E (Nat.zero_le _) (by show StripAt cI ad E (l ++ []); rw [List.append_nil]; exact hs) (fun _ _ => rfl) (by omega)

set_option maxHeartbeats 4000000 in
set_option maxRecDepth 100000 in
theorem k_X3_addGlyph (vl : Launch) (D : va_G) (cI cM : ClassId) (A : Nat → Prop) (ad : Nat → Nat) (E : Nat → va_E) (hX : XD A 32 ad) {wd dt : Nat → Nat} {l : List (Nat × Nat)} {c co : Nat} (hs : StripAt cI ad E l) (hl : l.length + wd c ≤ 552) (e1 : E (1) = .inr (0, [.ref (ad 2), .ref (ad 3)])) (e2 : E (2) = aI cI 27 wd) (e3 : E (3) = aI cI 162 dt) (hc : c < 27) (hw : wd c ≤ 6) : MV vl yX3_addGlyph wsX3_addGlyph { frames := 1, cells := 0, slots := 0, locals := 22 } D cI cM A 32 ad E [.ref (ad 26), .int (nI (c)), .int (nI (co)), .ref (ad 1)] (fun E1 => StripAt cI ad E1 (l ++ glyph wd dt c co) ∧ ∀ k : Nat, (k < 26 ∨ 28 < k) → E1 k = E k) := by
  refine mv_of cX3_addGlyph 5 RX3 (by decide) rfl rfl (Nat.le_of_ble_eq_true rfl) ?_
  intro vp ve vs vm va vb vt vc Q C hend
  refine z_lv [(0, .ref (ad 26)), (1, .int (nI (c))), (2, .int (nI (co))), (3, .ref (ad 1))] ⟨rfl, rfl, rfl, rfl, rfl, rfl, rfl, rfl, trivial⟩ ?_
  refine z_iconst C (nI (0)) dX3_addGlyph_0 (by decide) ?_
  refine z_istore C [(0, .ref (ad 26)), (1, .int (nI (c))), (2, .int (nI (co))), (3, .ref (ad 1)), (4, .int (nI (0)))] dX3_addGlyph_1 (by decide) ⟨rfl, rfl, rfl, rfl, rfl, rfl, rfl, rfl, rfl, rfl, trivial⟩ ?_
  have loop3 : ∀ (fuel : Nat) (i : Nat) (E2 : Nat → va_E), (hi : i ≤ wd c) → (qs : StripAt cI ad E2 (l ++ glyphP dt c co i)) → (q1 : E2 (1) = .inr (0, [.ref (ad 2), .ref (ad 3)])) → (q2 : E2 (2) = aI cI 27 wd) → (q3 : E2 (3) = aI cI 162 dt) → (qf : ∀ k : Nat, (k < 26 ∨ 28 < k) → E2 k = E k) → wd c - i < fuel → Z vp vl ve { frames := 1, cells := 0, slots := 0, locals := 22 } vs vm va vb vt vc 5 D A 32 ad E2 [(0, .ref (ad 26)), (1, .int (nI (c))), (2, .int (nI (co))), (3, .ref (ad 1)), (4, .int (nI (i)))] 0 0 Q 3 [] := by
    intro fuel
    induction fuel with
    | zero => intro i E2 hi qs q1 q2 q3 qf hlt; exact absurd hlt (Nat.not_lt_zero _)
    | succ fuel ih =>
      intro i E2 hi qs q1 q2 q3 qf hlt
      obtain ⟨sd2, sc2, s26, -, -, -⟩ := id qs
      have hln : (l ++ glyphP dt c co i).length = l.length + i := by rw [List.length_append, glyphP_len]
      have ih3 := ih
      refine z_iload C dX3_addGlyph_3 rfl ?_
      refine z_aload_n C dX3_addGlyph_5 rfl ?_
      refine z_iload_n C dX3_addGlyph_6 rfl ?_
      refine z_callVF C (1) (Cn := RX0) (T := TX0) (N := 2) (k_X0_widthOf vl D cI cM A ad E2 hX q1 q2 hc) (cwV 1 C.2.2.2.2.1 gX3_addGlyph_X0_widthOf rfl rfl rfl (by decide +kernel) ⟨Nat.le_of_ble_eq_true rfl, Nat.le_of_ble_eq_true rfl⟩) rfl (by first | decide | omega) rfl q1 rfl rfl (Nat.le_of_ble_eq_true rfl) ⟨Nat.zero_le _, Nat.zero_le _⟩ dX3_addGlyph_7 ?_
      refine z_icmp_geN C 31 (by omega) (by omega) dX3_addGlyph_10 (by decide) (fun h10 => ?_) (fun h10 => ?_)
      · have hig : i = wd c := by omega
        exact hend _ _ _ dX3_addGlyph_31 (⟨by unfold glyph; rw [hig] at qs; exact qs, qf⟩)
      · refine z_aload_n C dX3_addGlyph_13 rfl ?_
        refine z_aload_n C dX3_addGlyph_14 rfl ?_
        refine z_iload_n C dX3_addGlyph_15 rfl ?_
        refine z_iload C dX3_addGlyph_16 rfl ?_
        refine z_callVF C (1) (Cn := RX0) (T := TX0) (N := 2) (k_X0_dotsOf vl D cI cM A ad E2 hX q1 q3 hc (by omega)) (cwV 2 C.2.2.2.2.1 gX3_addGlyph_X0_dotsOf rfl rfl rfl (by decide +kernel) ⟨Nat.le_of_ble_eq_true rfl, Nat.le_of_ble_eq_true rfl⟩) rfl (by first | decide | omega) rfl q1 rfl rfl (Nat.le_of_ble_eq_true rfl) ⟨Nat.zero_le _, Nat.zero_le _⟩ dX3_addGlyph_18 ?_
        refine z_iload_n C dX3_addGlyph_21 rfl ?_
        refine z_callVV C (26) (Cn := RX3) (T := TX3) (N := 3) (k_X3_addColumn vl D cI cM A ad E2 hX qs (by rw [hln]; omega)) (cwV 2 C.2.2.2.2.1 gX3_addGlyph_X3_addColumn rfl rfl rfl (by decide +kernel) ⟨Nat.le_of_ble_eq_true rfl, Nat.le_of_ble_eq_true rfl⟩) rfl (by first | decide | omega) rfl s26 rfl rfl (Nat.le_of_ble_eq_true rfl) ⟨Nat.zero_le _, Nat.zero_le _⟩ dX3_addGlyph_22 (fun Ez1 hp2 => ?_)
        obtain ⟨hs3, hg4⟩ := hp2
        have f5 : Ez1 (1) = .inr (0, [.ref (ad 2), .ref (ad 3)]) := (hg4 (1) (by omega)).trans q1
        have f6 : Ez1 (2) = aI cI 27 wd := (hg4 (2) (by omega)).trans q2
        have f7 : Ez1 (3) = aI cI 162 dt := (hg4 (3) (by omega)).trans q3
        have g8 : ∀ k : Nat, (k < 26 ∨ 28 < k) → Ez1 k = E k := fun k hk => (hg4 k (by omega)).trans (qf k hk)
        refine z_iincN (j := 1) C [(0, .ref (ad 26)), (1, .int (nI (c))), (2, .int (nI (co))), (3, .ref (ad 1)), (4, .int (nI (i + 1)))] dX3_addGlyph_25 rfl (by decide) ⟨rfl, rfl, rfl, rfl, rfl, rfl, rfl, rfl, rfl, rfl, trivial⟩ ?_
        refine z_goto C 3 dX3_addGlyph_28 (by decide) ?_
        refine z_lv [(0, .ref (ad 26)), (1, .int (nI (c))), (2, .int (nI (co))), (3, .ref (ad 1)), (4, .int (nI (i + 1)))] ⟨rfl, rfl, rfl, rfl, rfl, rfl, rfl, rfl, rfl, rfl, trivial⟩ ?_
        exact ih3 (i + 1) Ez1 (by omega) (by rw [glyphP_s, ← List.append_assoc]; exact hs3) f5 f6 f7 g8 (by omega)
  refine z_lv [(0, .ref (ad 26)), (1, .int (nI (c))), (2, .int (nI (co))), (3, .ref (ad 1)), (4, .int (nI (0)))] ⟨rfl, rfl, rfl, rfl, rfl, rfl, rfl, rfl, rfl, rfl, trivial⟩ ?_
  exact loop3 (wd c + 1) 0 E (Nat.zero_le _) (by show StripAt cI ad E (l ++ []); rw [List.append_nil]; exact hs) e1 e2 e3 (fun _ _ => rfl) (by omega)

