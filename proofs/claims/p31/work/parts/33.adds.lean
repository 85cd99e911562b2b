/-! adds, pure -/
def apM (M : St) (k c : Nat) : St := va_up (s0 M 6 (k + 1)) 4 (va_up (M 4) k c)
theorem ap_op {M : St} {k c : Nat} (hT : M 0 6 = k) (hk : k < 12) (hc : c < 27) : o_append M (nI c) = (nI (k + 1), apM M k c) := by
  subst hT
  exact (wr_y ⟨Nat.zero_le _, by omega⟩ (by decide)).trans (if_pos hk)
theorem ap_4 (M : St) (k c : Nat) : apM M k c 4 k = c := va_up_self _ _ _
theorem ap_4n (M : St) {k c i : Nat} (h : i ≠ k) : apM M k c 4 i = M 4 i := va_up_ne _ _ h
def AM (M M2 : St) : Prop := (∀ j, j ≠ 6 → M2 0 j = M 0 j) ∧ ∀ a, a ≠ 0 → a ≠ 4 → M2 a = M a
theorem AM.ap {M M2 : St} (h : AM M M2) (k c : Nat) : AM M (apM M2 k c) :=
  ⟨fun j hj => (va_up_ne (M2 0) _ hj).trans (h.1 j hj), fun a h0 h4 => ((va_up_ne (s0 M2 6 (k + 1)) _ h4).trans (va_up_ne M2 _ h0)).trans (h.2 a h0 h4)⟩
theorem AM.clr (M : St) : AM M (s0 M 6 0) := ⟨fun j hj => va_up_ne (M 0) _ hj, fun a h0 _ => va_up_ne M _ h0⟩
def AD (M M2 : St) : Prop := (∀ k, k ≠ 4 → k ≠ 6 → k ≠ 7 → M2 0 k = M 0 k) ∧ M2 3 = M 3 ∧ 1 ≤ M2 0 6
theorem add_gr {M M2 : St} {g : Nat → Nat} {j col : Nat} (hg : GR M g) (hA : AM M M2) : GR (settle (insM M2 j col)) g := by
  intro c hc
  show M2 1 (num c) = g c ∧ ∀ j, j < 6 → M2 2 (num c * 6 + j) = g (9 + 6 * c + j)
  rw [hA.2 1 (by decide) (by decide), hA.2 2 (by decide) (by decide)]
  exact hg c hc
theorem add_ad {M M2 : St} {j col n : Nat} (hA : AM M M2) (hT : M2 0 6 = n) (hn : 1 ≤ n) : AD M (settle (insM M2 j col)) := by
  refine ⟨fun k h4 h6 h7 => ?_, hA.2 3 (by decide) (by decide), ?_⟩
  · have e1 : settle (insM M2 j col) 0 k = insM M2 j col 0 k := va_up_ne _ _ h4
    have e2 : insM M2 j col 0 k = M2 0 k := va_up_ne _ _ h7
    rw [e1, e2]
    exact hA.1 k h6
  · show 1 ≤ M2 0 6
    omega
theorem add_mr {M M2 : St} {mm m3 : Nat → Nat} {k n col : Nat} (hm : MRl M mm) (hk0 : mm 0 = k) (hA : AM M M2) (hT : M2 0 6 = n) (hn : 1 ≤ n ∧ n ≤ 3) (c0 : m3 0 = k + 1) (c2 : ∀ i, 0 < i → i < 2 + 5 * k → m3 i = mm i) (c3 : m3 (2 + 5 * k) = n) (c5 : ∀ i, i < n → m3 (2 + 5 * k + 2 + i) ≤ 8 ∧ M2 4 i = num (m3 (2 + 5 * k + 2 + i))) : MRl (settle (insM M2 k col)) m3 := by
  have h7 : M2 0 7 = k := (hA.1 7 (by decide)).trans (hm.1.trans hk0)
  refine ⟨?_, ?_, fun j hj => ?_⟩
  · show M2 0 7 + 1 = m3 0
    rw [h7, c0]
  · show M2 0 1 = m3 1
    rw [hA.1 1 (by decide), hm.2.1, c2 1 (by decide) (by omega)]
  · rw [c0] at hj
    show insF (M2 5) k (M2 0 6) j = m3 (2 + 5 * j) ∧ (1 ≤ m3 (2 + 5 * j) ∧ m3 (2 + 5 * j) ≤ 3) ∧ ∀ i, i < m3 (2 + 5 * j) → m3 (4 + 5 * j + i) ≤ 8 ∧ ltr (insL (M2 7) (M2 4) k) j i = num (m3 (4 + 5 * j + i))
    by_cases e : j = k
    · subst e
      rw [insF_eq, c3, hT]
      refine ⟨rfl, hn, fun i hi => ?_⟩
      rw [show 4 + 5 * j + i = 2 + 5 * j + 2 + i by omega, insL_eq (by omega)]
      exact c5 i hi
    · obtain ⟨h1, h2, h3⟩ := hm.2.2 j (by omega)
      rw [insF_lt (by omega), hA.2 5 (by decide) (by decide), c2 (2 + 5 * j) (by omega) (by omega)]
      refine ⟨h1, h2, fun i hi => ?_⟩
      rw [c2 (4 + 5 * j + i) (by omega) (by omega), insL_lt (by omega) (by omega), hA.2 7 (by decide) (by decide)]
      exact h3 i hi
set_option maxHeartbeats 4000000 in
set_option maxRecDepth 100000 in
theorem k_L_adds (vl : Launch) (D : va_G) (cI cM : ClassId) (A : Nat → Prop) (ad : Nat → Nat) (E : Nat → va_E) (hX : XD A 32 ad) {M : St} {g mm : Nat → Nat} {y k0 : Nat} (hI : Inv M) (hR : RelX cI cM ad M E) (e30 : E (30) = aI cI 63 g) (e31 : E (31) = aI cI 12 mm) (hg : GR M g) (hm : MRl M mm) (hk0 : mm 0 = k0) (hk : k0 ≤ 1) (hy : y < 2 ^ 31) : MI vl yL_adds wsL_adds { frames := 6, cells := 0, slots := 0, locals := 136 } D cI cM A 32 ad E [.ref (ad 0), .int (nI (y)), .ref (ad 30), .ref (ad 31)] (fun r E1 => r = nI 1 ∧ E1 30 = aI cI 63 g ∧ ∃ (M2 : St) (m2 : Nat → Nat), Inv M2 ∧ RelX cI cM ad M2 E1 ∧ E1 31 = aI cI 12 m2 ∧ GR M2 g ∧ MRl M2 m2 ∧ m2 0 = k0 + 1 ∧ AD M M2 ∧ (∀ i, 0 < i → i < 2 + 5 * k0 → m2 i = mm i) ∧ m2 (3 + 5 * k0) ≤ 3) := by
  refine mi_of cL_adds 7 (.boolean) RL (by decide) rfl rfl (Nat.le_of_ble_eq_true rfl) (fun r E1 h => by rw [h.1]; rfl) ?_
  intro vp ve vs vm va vb vt vc Q C hend
  refine z_lv [(0, .ref (ad 0)), (1, .int (nI (y))), (2, .ref (ad 30)), (3, .ref (ad 31))] ⟨rfl, rfl, rfl, rfl, rfl, rfl, rfl, rfl, trivial⟩ ?_
  have hT6 := hI.1.2.2.2.2.2.2.1
  have e0 := RelX_0 hR
  refine z_iconst C (nI (2)) dL_adds_0 (by decide) ?_
  refine z_iconst C (nI (5)) dL_adds_1 (by decide) ?_
  refine z_aload_n C dL_adds_2 rfl ?_
  refine z_iconst C (nI (0)) dL_adds_3 (by decide) ?_
  refine z_ialdG C (31) (by first | decide | omega) rfl e31 (by omega) (by decide) dL_adds_4 ?_
  refine z_top (nI (k0)) (by rw [hk0]) ?_
  refine z_imulN C  dL_adds_5 ?_
  refine z_iaddN C  dL_adds_6 ?_
  refine z_istore C [(0, .ref (ad 0)), (1, .int (nI (y))), (2, .ref (ad 30)), (3, .ref (ad 31)), (4, .int (nI (2 + (5 * k0))))] dL_adds_7 (by decide) ⟨rfl, rfl, rfl, rfl, rfl, rfl, rfl, rfl, rfl, rfl, trivial⟩ ?_
  refine z_aload_n C dL_adds_9 rfl ?_
  refine z_iload C dL_adds_10 rfl ?_
  refine z_iconst C (nI (1)) dL_adds_12 (by decide) ?_
  refine z_iload_n C dL_adds_13 rfl ?_
  refine z_iconst C (nI (3)) dL_adds_14 (by decide) ?_
  refine z_iremN C (by omega) (by omega) (by omega) dL_adds_15 ?_
  refine z_iaddN C  dL_adds_16 ?_
  refine z_iastG C (31) hX (by first | decide | omega) rfl e31 (by omega) (by decide) dL_adds_17 (fun Ez2 hE1 => ?_)
  have f3 : Ez2 (30) = aI cI 63 g := va_up_of hE1 (by first | decide | omega) e30
  have f5 : Ez2 (31) = aI cI 12 (va_up mm (2 + (5 * k0)) (1 + (y % 3))) := va_up_eq hE1
  have g6 : ∀ k : Nat, (k < 30) → Ez2 k = E k := fun k hk => va_up_of hE1 (by omega) ((fun _ _ => rfl) k hk)
  refine z_aload_n C dL_adds_18 rfl ?_
  refine z_iload C dL_adds_19 rfl ?_
  refine z_iconst C (nI (1)) dL_adds_21 (by decide) ?_
  refine z_iaddN C  dL_adds_22 ?_
  refine z_iconst C (nI (1)) dL_adds_23 (by decide) ?_
  refine z_iload_n C dL_adds_24 rfl ?_
  refine z_iconst C (nI (2)) dL_adds_25 (by decide) ?_
  refine z_ishr C dL_adds_26  ?_
  refine z_top (nI (y / 4)) (sh_r hy 2 (by decide)) ?_
  refine z_iconst C (nI (3)) dL_adds_27 (by decide) ?_
  refine z_iremN C (by omega) (by omega) (by omega) dL_adds_28 ?_
  refine z_iaddN C  dL_adds_29 ?_
  refine z_iastG C (31) hX (by first | decide | omega) rfl f5 (by omega) (by decide) dL_adds_30 (fun Ez8 hE7 => ?_)
  have f9 : Ez8 (30) = aI cI 63 g := va_up_of hE7 (by first | decide | omega) f3
  have f11 : Ez8 (31) = aI cI 12 (va_up (va_up mm (2 + (5 * k0)) (1 + (y % 3))) ((2 + (5 * k0)) + 1) (1 + ((y / 4) % 3))) := va_up_eq hE7
  have g12 : ∀ k : Nat, (k < 30) → Ez8 k = E k := fun k hk => va_up_of hE7 (by omega) (g6 k hk)
  have hRq : RelX cI cM ad M Ez8 := hR.mv (fun k hk => g12 k hk)
  have e0q := RelX_0 hRq
  refine z_aload_n C dL_adds_31 rfl ?_
  refine z_callVI C (0) (Cn := RX5) (T := TX5) (N := 12) (k_X5_clearText vl D cI cM A ad Ez8 hX  hI hRq) (cwV 0 C.2.2.2.2.1 gL_adds_X5_clearText rfl rfl rfl (by decide +kernel) ⟨(Nat.le_of_ble_eq_true rfl), (Nat.le_of_ble_eq_true rfl)⟩) rfl (by decide) rfl e0q rfl rfl (Nat.le_of_ble_eq_true rfl) ⟨(Nat.le_of_ble_eq_true rfl), (Nat.le_of_ble_eq_true rfl)⟩ dL_adds_32 (fun r13 Ez14 hp15 => ?_)
  obtain ⟨hr16, hRr17, hf18⟩ := hp15
  have hop23 : o_clearText M  = (nI (M 0 6), s0 M 6 0) := rfl
  have hr21 : r13 = nI (M 0 6) := by rw [hop23] at hr16; exact hr16
  have hR22 : RelX cI cM ad (s0 M 6 0) Ez14 := by rw [hop23] at hRr17; exact hRr17
  have hI19 : Inv (s0 M 6 0) := by have q := i_clearText hI ; rw [hop23] at q; exact q
  have e0_20 := RelX_0 hR22
  refine z_top (nI (M 0 6)) hr21 ?_
  have f24 : Ez14 (30) = aI cI 63 g := (hf18 (30) (by omega)).trans f9
  have f25 : Ez14 (31) = aI cI 12 (va_up (va_up mm (2 + (5 * k0)) (1 + (y % 3))) ((2 + (5 * k0)) + 1) (1 + ((y / 4) % 3))) := (hf18 (31) (by omega)).trans f11
  refine z_if_ltN C 42 (by omega) dL_adds_35 (by decide) ?_
  refine z_iconst C (nI (1)) dL_adds_38 (by decide) ?_
  refine z_goto C 43 dL_adds_39 (by decide) ?_
  refine z_istore C [(0, .ref (ad 0)), (1, .int (nI (y))), (2, .ref (ad 30)), (3, .ref (ad 31)), (4, .int (nI (2 + (5 * k0)))), (5, .int (nI (1)))] dL_adds_43 (by decide) ⟨rfl, rfl, rfl, rfl, rfl, rfl, rfl, rfl, rfl, rfl, rfl, rfl, trivial⟩ ?_
  obtain ⟨m1, hm1⟩ : ∃ q, q = (va_up (va_up mm (2 + (5 * k0)) (1 + (y % 3))) ((2 + (5 * k0)) + 1) (1 + ((y / 4) % 3))) := ⟨_, rfl⟩
  have k31 : Ez14 31 = aI cI 12 m1 := by rw [hm1]; exact f25
  have a0 : m1 (2 + 5 * k0) = 1 + y % 3 := by rw [hm1, va_up_ne _ _ (by omega), va_up_self]
  have a1 : m1 (2 + 5 * k0 + 1) = 1 + y / 4 % 3 := by rw [hm1, va_up_self]
  have a2 : ∀ i, i < 2 + 5 * k0 → m1 i = mm i := fun i hi => by rw [hm1, va_up_ne _ _ (by omega), va_up_ne _ _ (by omega)]
  refine z_iconst C (nI (0)) dL_adds_45 (by decide) ?_
  refine z_istore C [(0, .ref (ad 0)), (1, .int (nI (y))), (2, .ref (ad 30)), (3, .ref (ad 31)), (4, .int (nI (2 + (5 * k0)))), (5, .int (nI (1))), (6, .int (nI (0)))] dL_adds_46 (by decide) ⟨rfl, rfl, rfl, rfl, rfl, rfl, rfl, rfl, rfl, rfl, rfl, rfl, rfl, rfl, trivial⟩ ?_
  have loop48 : ∀ (fuel : Nat) (k : Nat) (E2 : Nat → va_E) (m2 : Nat → Nat) (M2 : St), (hkn : k ≤ 1 + y % 3) → (b2 : ∀ i, i < 2 + 5 * k0 + 2 → m2 i = m1 i) → (b3 : ∀ i, i < k → m2 (2 + 5 * k0 + 2 + i) ≤ 8 ∧ M2 4 i = num (m2 (2 + 5 * k0 + 2 + i))) → (hI2 : Inv M2) → (hR2 : RelX cI cM ad M2 E2) → (hT2 : M2 0 6 = k) → (hA2 : AM M M2) → (q30 : E2 (30) = aI cI 63 g) → (q31 : E2 (31) = aI cI 12 m2) → 1 + y % 3 - k < fuel → Z vp vl ve { frames := 6, cells := 0, slots := 0, locals := 136 } vs vm va vb vt vc 7 D A 32 ad E2 [(0, .ref (ad 0)), (1, .int (nI (y))), (2, .ref (ad 30)), (3, .ref (ad 31)), (4, .int (nI (2 + (5 * k0)))), (5, .int (nI (1))), (6, .int (nI (k)))] 0 0 Q 48 [] := by
    intro fuel
    induction fuel with
    | zero => intro k E2 m2 M2 hkn b2 b3 hI2 hR2 hT2 hA2 q30 q31 hlt; exact absurd hlt (Nat.not_lt_zero _)
    | succ fuel ih =>
      intro k E2 m2 M2 hkn b2 b3 hI2 hR2 hT2 hA2 q30 q31 hlt
      have e02 := RelX_0 hR2
      have ih48 := ih
      refine z_iload C dL_adds_48 rfl ?_
      refine z_aload_n C dL_adds_50 rfl ?_
      refine z_iload C dL_adds_51 rfl ?_
      refine z_ialdG C (31) (by first | decide | omega) rfl q31 (by omega) (by decide) dL_adds_53 ?_
      refine z_top (nI (1 + y % 3)) (by rw [b2 _ (by omega), a0]) ?_
      refine z_icmp_geN C 118 (by omega) (by omega) dL_adds_54 (by decide) (fun h54 => ?_) (fun h54 => ?_)
      · have hke : k = 1 + y % 3 := by omega
        refine z_aload_n C dL_adds_118 rfl ?_
        refine z_iconst C (nI (0)) dL_adds_119 (by decide) ?_
        refine z_ialdG C (31) (by first | decide | omega) rfl q31 (by omega) (by decide) dL_adds_120 ?_
        refine z_top (nI (k0)) (by rw [b2 _ (by omega), a2 _ (by omega), hk0]) ?_
        refine z_istore C [(0, .ref (ad 0)), (1, .int (nI (y))), (2, .ref (ad 30)), (3, .ref (ad 31)), (4, .int (nI (2 + (5 * k0)))), (5, .int (nI (1))), (6, .int (nI (k0)))] dL_adds_121 (by decide) ⟨rfl, rfl, rfl, rfl, rfl, rfl, rfl, rfl, rfl, rfl, rfl, rfl, rfl, rfl, trivial⟩ ?_
        refine z_aload_n C dL_adds_123 rfl ?_
        refine z_iconst C (nI (0)) dL_adds_124 (by decide) ?_
        refine z_dup2 C dL_adds_125 rfl rfl ?_
        refine z_ialdG C (31) (by first | decide | omega) rfl q31 (by omega) (by decide) dL_adds_126 ?_
        refine z_top (nI (k0)) (by rw [b2 _ (by omega), a2 _ (by omega), hk0]) ?_
        refine z_iconst C (nI (1)) dL_adds_127 (by decide) ?_
        refine z_iaddN C  dL_adds_128 ?_
        refine z_iastG C (31) hX (by first | decide | omega) rfl q31 (by omega) (by decide) dL_adds_129 (fun Ez27 hE26 => ?_)
        have f28 : Ez27 (30) = aI cI 63 g := va_up_of hE26 (by first | decide | omega) q30
        have f30 : Ez27 (31) = aI cI 12 (va_up m2 (0) (k0 + 1)) := va_up_eq hE26
        have g31 : ∀ k : Nat, (k < 30) → Ez27 k = E2 k := fun k hk => va_up_of hE26 (by omega) ((fun _ _ => rfl) k hk)
        obtain ⟨m3, hm3⟩ : ∃ q, q = (va_up m2 (0) (k0 + 1)) := ⟨_, rfl⟩
        have k31b : Ez27 31 = aI cI 12 m3 := by rw [hm3]; exact f30
        have c0 : m3 0 = k0 + 1 := by rw [hm3, va_up_self]
        have c2 : ∀ i, 0 < i → i < 2 + 5 * k0 → m3 i = mm i := fun i h0 hi => by rw [hm3, va_up_ne _ _ (by omega), b2 _ (by omega), a2 _ hi]
        have c3 : m3 (2 + 5 * k0) = 1 + y % 3 := by rw [hm3, va_up_ne _ _ (by omega), b2 _ (by omega), a0]
        have c4 : m3 (2 + 5 * k0 + 1) = 1 + y / 4 % 3 := by rw [hm3, va_up_ne _ _ (by omega), b2 _ (by omega), a1]
        have c5 : ∀ i, i < 1 + y % 3 → m3 (2 + 5 * k0 + 2 + i) ≤ 8 ∧ M2 4 i = num (m3 (2 + 5 * k0 + 2 + i)) := fun i hi => by rw [hm3, va_up_ne _ _ (by omega)]; exact b3 i (by omega)
        have hT3 : M2 0 6 = 1 + y % 3 := hT2.trans hke
        have hMR : MRl (settle (insM M2 k0 (1 + y / 4 % 3))) m3 := add_mr hm hk0 hA2 hT3 (by omega) c0 c2 c3 c5
        have hGR : GR (settle (insM M2 k0 (1 + y / 4 % 3))) g := add_gr hg hA2
        have h27 : M2 0 7 = k0 := (hA2.1 7 (by decide)).trans (hm.1.trans hk0)
        have hLM3 : LM (insM M2 k0 (1 + y / 4 % 3)) = lst g m3 (k0 + 1) := by have q := LM_l hGR hMR; rw [c0] at q; exact q
        have hLb : lst g m3 (k0 + 1) ≤ 552 := by rw [← hLM3]; exact (inv0_ins hI2.1 (by omega) (by omega) (by omega) (by omega)).LM_le
        have hok : MOK m3 (k0 + 1) := by have q := hMR.ok; rw [c0] at q; exact q
        have hlw0 : lst g m3 (k0 + 1) = lst g m3 k0 + (lwi g m3 k0 + m3 1) := rfl
        have hokk := hok k0 (by omega)
        have h37 : settle (insM M2 k0 (1 + y / 4 % 3)) 0 7 = k0 + 1 := hMR.1.trans c0
        have hRs : RelX cI cM ad M2 Ez27 := hR2.mv (fun k hk => va_up_of hE26 (by omega) rfl)
        have e0s := RelX_0 hRs
        refine z_iload C dL_adds_130 rfl ?_
        refine z_if_eqN C 194 (by omega) dL_adds_132 (by decide) (fun h132 => (by exfalso; omega)) (fun h132 => ?_)
        refine z_aload_n C dL_adds_135 rfl ?_
        refine z_iload C dL_adds_136 rfl ?_
        refine z_aload_n C dL_adds_138 rfl ?_
        refine z_iload C dL_adds_139 rfl ?_
        refine z_iconst C (nI (1)) dL_adds_141 (by decide) ?_
        refine z_iaddN C  dL_adds_142 ?_
        refine z_ialdG C (31) (by first | decide | omega) rfl k31b (by omega) (by decide) dL_adds_143 ?_
        refine z_top (nI (1 + y / 4 % 3)) (by rw [c4]) ?_
        refine z_callVI C (0) (Cn := RX5) (T := TX5) (N := 12) (k_X5_insertMessage vl D cI cM A ad Ez27 hX (nI (k0)) (nI (1 + y / 4 % 3)) hI2 hRs) (cwV 2 C.2.2.2.2.1 gL_adds_X5_insertMessage rfl rfl rfl (by decide +kernel) ⟨(Nat.le_of_ble_eq_true rfl), (Nat.le_of_ble_eq_true rfl)⟩) rfl (by decide) rfl e0s rfl rfl (Nat.le_of_ble_eq_true rfl) ⟨(Nat.le_of_ble_eq_true rfl), (Nat.le_of_ble_eq_true rfl)⟩ dL_adds_144 (fun r32 Ez33 hp34 => ?_)
        obtain ⟨hr35, hRr36, hf37⟩ := hp34
        have hop42 : o_insertMessage M2 (nI (k0)) (nI (1 + y / 4 % 3)) = (nI (lst g m3 (k0 + 1)), settle (insM M2 k0 (1 + y / 4 % 3))) := (in_op (by omega) (by omega) (by omega) (by omega)).trans (by rw [hLM3])
        have hr40 : r32 = nI (lst g m3 (k0 + 1)) := by rw [hop42] at hr35; exact hr35
        have hR41 : RelX cI cM ad (settle (insM M2 k0 (1 + y / 4 % 3))) Ez33 := by rw [hop42] at hRr36; exact hRr36
        have hI38 : Inv (settle (insM M2 k0 (1 + y / 4 % 3))) := by have q := i_insertMessage hI2 (nI (k0)) (nI (1 + y / 4 % 3)); rw [hop42] at q; exact q
        have e0_39 := RelX_0 hR41
        refine z_top (nI (lst g m3 (k0 + 1))) hr40 ?_
        have f43 : Ez33 (30) = aI cI 63 g := (hf37 (30) (by omega)).trans f28
        have f44 : Ez33 (31) = aI cI 12 m3 := (hf37 (31) (by omega)).trans k31b
        refine z_aload_n C dL_adds_147 rfl ?_
        refine z_aload_n C dL_adds_148 rfl ?_
        refine z_aload_n C dL_adds_149 rfl ?_
        refine z_iconst C (nI (0)) dL_adds_150 (by decide) ?_
        refine z_ialdG C (31) (by first | decide | omega) rfl f44 (by omega) (by decide) dL_adds_151 ?_
        refine z_top (nI (k0 + 1)) (by rw [c0]) ?_
        refine z_callSF C (k_L_start vl D cI cM A ad Ez33 hX f43 f44 (by omega) hok) (va_cwS 3 C.2.2.2.2.1 gL_adds_L_start rfl rfl rfl (by decide +kernel) ⟨Nat.le_of_ble_eq_true rfl, Nat.le_of_ble_eq_true rfl⟩) rfl rfl (Nat.le_of_ble_eq_true rfl) ⟨Nat.zero_le _, Nat.zero_le _⟩ dL_adds_152 ?_
        refine z_icmp_neN C 194 (by omega) (by omega) dL_adds_155 (by decide) (fun h155 => (by exfalso; exact h155 rfl)) (fun h155 => ?_)
        refine z_aload_n C dL_adds_158 rfl ?_
        refine z_iload C dL_adds_159 rfl ?_
        refine z_callVF C (0) (Cn := RX5) (T := TX5) (N := 12) (k_X5_messageWidth vl D cI cM A ad Ez33 hX (nI (k0)) hI38 hR41) (cwV 1 C.2.2.2.2.1 gL_adds_X5_messageWidth rfl rfl rfl (by decide +kernel) ⟨(Nat.le_of_ble_eq_true rfl), (Nat.le_of_ble_eq_true rfl)⟩) rfl (by decide) rfl e0_39 rfl rfl (Nat.le_of_ble_eq_true rfl) ⟨(Nat.le_of_ble_eq_true rfl), (Nat.le_of_ble_eq_true rfl)⟩ dL_adds_161 ?_
        refine z_top (nI (lwi g m3 k0)) ((mw_op hI38 (by rw [h37]; omega)).trans (by rw [wi_l hGR hMR (by omega)])) ?_
        refine z_aload_n C dL_adds_164 rfl ?_
        refine z_aload_n C dL_adds_165 rfl ?_
        refine z_iload C dL_adds_166 rfl ?_
        refine z_callSF C (k_L_width vl D cI cM A ad Ez33 hX f43 f44 (by omega) hokk.1 hokk.2.1 hokk.2.2) (va_cwS 3 C.2.2.2.2.1 gL_adds_L_width rfl rfl rfl (by decide +kernel) ⟨Nat.le_of_ble_eq_true rfl, Nat.le_of_ble_eq_true rfl⟩) rfl rfl (Nat.le_of_ble_eq_true rfl) ⟨Nat.zero_le _, Nat.zero_le _⟩ dL_adds_168 ?_
        refine z_icmp_neN C 194 (by omega) (by omega) dL_adds_171 (by decide) (fun h171 => (by exfalso; exact h171 rfl)) (fun h171 => ?_)
        refine z_aload_n C dL_adds_174 rfl ?_
        refine z_iload C dL_adds_175 rfl ?_
        refine z_callVF C (0) (Cn := RX5) (T := TX5) (N := 12) (k_X5_messageStart vl D cI cM A ad Ez33 hX (nI (k0)) hI38 hR41) (cwV 1 C.2.2.2.2.1 gL_adds_X5_messageStart rfl rfl rfl (by decide +kernel) ⟨(Nat.le_of_ble_eq_true rfl), (Nat.le_of_ble_eq_true rfl)⟩) rfl (by decide) rfl e0_39 rfl rfl (Nat.le_of_ble_eq_true rfl) ⟨(Nat.le_of_ble_eq_true rfl), (Nat.le_of_ble_eq_true rfl)⟩ dL_adds_177 ?_
        refine z_top (nI (lst g m3 k0)) ((ms_op hI38 (by rw [h37]; omega)).trans (by rw [st_l hGR hMR (by omega)])) ?_
        refine z_aload_n C dL_adds_180 rfl ?_
        refine z_aload_n C dL_adds_181 rfl ?_
        refine z_iload C dL_adds_182 rfl ?_
        refine z_callSF C (k_L_start vl D cI cM A ad Ez33 hX f43 f44 (k := k0) (by omega) (fun j hj => hok j (by omega))) (va_cwS 3 C.2.2.2.2.1 gL_adds_L_start rfl rfl rfl (by decide +kernel) ⟨Nat.le_of_ble_eq_true rfl, Nat.le_of_ble_eq_true rfl⟩) rfl rfl (Nat.le_of_ble_eq_true rfl) ⟨Nat.zero_le _, Nat.zero_le _⟩ dL_adds_184 ?_
        refine z_icmp_neN C 194 (by omega) (by omega) dL_adds_187 (by decide) (fun h187 => (by exfalso; exact h187 rfl)) (fun h187 => ?_)
        refine z_iconst C (nI (1)) dL_adds_190 (by decide) ?_
        refine z_goto C 195 dL_adds_191 (by decide) ?_
        exact hend _ _ _ _ dL_adds_195 (⟨rfl, f43, _, m3, hI38, hR41, f44, hGR, hMR, c0, add_ad hA2 hT3 (by omega), c2, (by rw [show 3 + 5 * k0 = 2 + 5 * k0 + 1 by omega, c4]; omega)⟩)
      · have hyk : y / 2 ^ (4 + 4 * k) < 2 ^ 31 := Nat.lt_of_le_of_lt (Nat.div_le_self _ _) hy
        refine z_iload C dL_adds_57 rfl ?_
        refine z_if_eqN C 118 (by omega) dL_adds_59 (by decide) (fun h59 => (by exfalso; omega)) (fun h59 => ?_)
        refine z_aload_n C dL_adds_62 rfl ?_
        refine z_iload C dL_adds_63 rfl ?_
        refine z_iconst C (nI (2)) dL_adds_65 (by decide) ?_
        refine z_iaddN C  dL_adds_66 ?_
        refine z_iload C dL_adds_67 rfl ?_
        refine z_iaddN C  dL_adds_69 ?_
        refine z_iload_n C dL_adds_70 rfl ?_
        refine z_iconst C (nI (4)) dL_adds_71 (by decide) ?_
        refine z_iconst C (nI (4)) dL_adds_72 (by decide) ?_
        refine z_iload C dL_adds_73 rfl ?_
        refine z_imulN C  dL_adds_75 ?_
        refine z_iaddN C  dL_adds_76 ?_
        refine z_ishr C dL_adds_77  ?_
        refine z_top (nI (y / 2 ^ (4 + 4 * k))) (sh_r hy _ (by omega)) ?_
        refine z_bipush C (nI (9)) dL_adds_78 (by decide) ?_
        refine z_iremN C (by omega) (by omega) (by omega) dL_adds_80 ?_
        refine z_iastG C (31) hX (by first | decide | omega) rfl q31 (by omega) (by decide) dL_adds_81 (fun Ez46 hE45 => ?_)
        have f47 : Ez46 (30) = aI cI 63 g := va_up_of hE45 (by first | decide | omega) q30
        have f49 : Ez46 (31) = aI cI 12 (va_up m2 (((2 + (5 * k0)) + 2) + k) ((y / 2 ^ (4 + 4 * k)) % 9)) := va_up_eq hE45
        have g50 : ∀ k : Nat, (k < 30) → Ez46 k = E2 k := fun k hk => va_up_of hE45 (by omega) ((fun _ _ => rfl) k hk)
        have hRt : RelX cI cM ad M2 Ez46 := hR2.mv (fun k hk => va_up_of hE45 (by omega) rfl)
        have e0t := RelX_0 hRt
        refine z_aload_n C dL_adds_82 rfl ?_
        refine z_aload_n C dL_adds_83 rfl ?_
        refine z_iload C dL_adds_84 rfl ?_
        refine z_iconst C (nI (2)) dL_adds_86 (by decide) ?_
        refine z_iaddN C  dL_adds_87 ?_
        refine z_iload C dL_adds_88 rfl ?_
        refine z_iaddN C  dL_adds_90 ?_
        refine z_ialdG C (31) (by first | decide | omega) rfl f49 (by omega) (by decide) dL_adds_91 ?_
        refine z_top (nI (y / 2 ^ (4 + 4 * k) % 9)) (by rw [va_up_self]) ?_
        refine z_callSF C (k_L_number vl D cI cM A ad Ez46 hX (c := y / 2 ^ (4 + 4 * k) % 9) (by omega)) (va_cwS 1 C.2.2.2.2.1 gL_adds_L_number rfl rfl rfl (by decide +kernel) ⟨Nat.le_of_ble_eq_true rfl, Nat.le_of_ble_eq_true rfl⟩) rfl rfl (Nat.le_of_ble_eq_true rfl) ⟨Nat.zero_le _, Nat.zero_le _⟩ dL_adds_92 ?_
        refine z_callVI C (0) (Cn := RX5) (T := TX5) (N := 12) (k_X5_append vl D cI cM A ad Ez46 hX (nI (num (y / 2 ^ (4 + 4 * k) % 9))) hI2 hRt) (cwV 1 C.2.2.2.2.1 gL_adds_X5_append rfl rfl rfl (by decide +kernel) ⟨(Nat.le_of_ble_eq_true rfl), (Nat.le_of_ble_eq_true rfl)⟩) rfl (by decide) rfl e0t rfl rfl (Nat.le_of_ble_eq_true rfl) ⟨(Nat.le_of_ble_eq_true rfl), (Nat.le_of_ble_eq_true rfl)⟩ dL_adds_95 (fun r51 Ez52 hp53 => ?_)
        obtain ⟨hr54, hRr55, hf56⟩ := hp53
        have hop61 : o_append M2 (nI (num (y / 2 ^ (4 + 4 * k) % 9))) = (nI (k + 1), apM M2 k (num (y / 2 ^ (4 + 4 * k) % 9))) := ap_op hT2 (by omega) (num_lt (by omega))
        have hr59 : r51 = nI (k + 1) := by rw [hop61] at hr54; exact hr54
        have hR60 : RelX cI cM ad (apM M2 k (num (y / 2 ^ (4 + 4 * k) % 9))) Ez52 := by rw [hop61] at hRr55; exact hRr55
        have hI57 : Inv (apM M2 k (num (y / 2 ^ (4 + 4 * k) % 9))) := by have q := i_append hI2 (nI (num (y / 2 ^ (4 + 4 * k) % 9))); rw [hop61] at q; exact q
        have e0_58 := RelX_0 hR60
        refine z_top (nI (k + 1)) hr59 ?_
        have f62 : Ez52 (30) = aI cI 63 g := (hf56 (30) (by omega)).trans f47
        have f63 : Ez52 (31) = aI cI 12 (va_up m2 (((2 + (5 * k0)) + 2) + k) ((y / 2 ^ (4 + 4 * k)) % 9)) := (hf56 (31) (by omega)).trans f49
        refine z_iload C dL_adds_98 rfl ?_
        refine z_iconst C (nI (1)) dL_adds_100 (by decide) ?_
        refine z_iaddN C  dL_adds_101 ?_
        refine z_icmp_neN C 109 (by omega) (by omega) dL_adds_102 (by decide) (fun h102 => (by exfalso; exact h102 rfl)) (fun h102 => ?_)
        refine z_iconst C (nI (1)) dL_adds_105 (by decide) ?_
        refine z_goto C 110 dL_adds_106 (by decide) ?_
        refine z_istore C [(0, .ref (ad 0)), (1, .int (nI (y))), (2, .ref (ad 30)), (3, .ref (ad 31)), (4, .int (nI (2 + (5 * k0)))), (5, .int (nI (1))), (6, .int (nI (k)))] dL_adds_110 (by decide) ⟨rfl, rfl, rfl, rfl, rfl, rfl, rfl, rfl, rfl, rfl, rfl, rfl, rfl, rfl, trivial⟩ ?_
        refine z_iincN (j := 1) C [(0, .ref (ad 0)), (1, .int (nI (y))), (2, .ref (ad 30)), (3, .ref (ad 31)), (4, .int (nI (2 + (5 * k0)))), (5, .int (nI (1))), (6, .int (nI (k + 1)))] dL_adds_112 rfl (by decide) ⟨rfl, rfl, rfl, rfl, rfl, rfl, rfl, rfl, rfl, rfl, rfl, rfl, rfl, rfl, trivial⟩ ?_
        refine z_goto C 48 dL_adds_115 (by decide) ?_
        refine z_lv [(0, .ref (ad 0)), (1, .int (nI (y))), (2, .ref (ad 30)), (3, .ref (ad 31)), (4, .int (nI (2 + (5 * k0)))), (5, .int (nI (1))), (6, .int (nI (k + 1)))] ⟨rfl, rfl, rfl, rfl, rfl, rfl, rfl, rfl, rfl, rfl, rfl, rfl, rfl, rfl, trivial⟩ ?_
        have c2 : ∀ i, i < 2 + 5 * k0 + 2 → (va_up m2 (((2 + (5 * k0)) + 2) + k) ((y / 2 ^ (4 + 4 * k)) % 9)) i = m1 i := fun i hi => by rw [va_up_ne _ _ (by omega)]; exact b2 i hi
        have c3 : ∀ i, i < k + 1 → (va_up m2 (((2 + (5 * k0)) + 2) + k) ((y / 2 ^ (4 + 4 * k)) % 9)) (2 + 5 * k0 + 2 + i) ≤ 8 ∧ (apM M2 k (num (y / 2 ^ (4 + 4 * k) % 9))) 4 i = num ((va_up m2 (((2 + (5 * k0)) + 2) + k) ((y / 2 ^ (4 + 4 * k)) % 9)) (2 + 5 * k0 + 2 + i)) := fun i hi => by
          by_cases e : i = k
          · subst e
            rw [va_up_self, ap_4]
            exact ⟨by omega, rfl⟩
          · rw [va_up_ne _ _ (by omega), ap_4n _ e]
            exact b3 i (by omega)
        exact ih48 (k + 1) Ez52 _ _ (by omega) c2 c3 hI57 hR60 rfl (hA2.ap _ _) f62 f63 (by omega)
  refine z_lv [(0, .ref (ad 0)), (1, .int (nI (y))), (2, .ref (ad 30)), (3, .ref (ad 31)), (4, .int (nI (2 + (5 * k0)))), (5, .int (nI (1))), (6, .int (nI (0)))] ⟨rfl, rfl, rfl, rfl, rfl, rfl, rfl, rfl, rfl, rfl, rfl, rfl, rfl, rfl, trivial⟩ ?_
  exact loop48 (4) 0 Ez14 m1 _ (Nat.zero_le _) (fun _ _ => rfl) (fun i hi => absurd hi (Nat.not_lt_zero _)) hI19 hR22 rfl (AM.clr M) f24 k31 (by omega)

