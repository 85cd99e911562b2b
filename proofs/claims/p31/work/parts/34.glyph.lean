/-! glyph, pure -/
def gwM (M : St) (c w : Nat) : St := va_up (va_up M 1 (va_up (M 1) c w)) 2 (clr (M 2) (c * 6 + w) (c * 6 + 6))
theorem gw_op {M : St} {c w v : Nat} (hc : c < 27) (hw : 1 ≤ w ∧ w ≤ 6) (hv : M 1 c = v) : o_setGlyphWidth M (nI c) (nI w) = (nI v, settle (gwM M c w)) := by
  subst hv
  exact (wr_y ⟨Nat.zero_le _, by omega⟩ (by decide)).trans (wr_y hw (by decide))
theorem gw_1 (M : St) (c w : Nat) : settle (gwM M c w) 1 c = w := va_up_self _ _ _
theorem gw_2 (M : St) {c w j : Nat} (hj : j < w) : settle (gwM M c w) 2 (c * 6 + j) = M 2 (c * 6 + j) := by
  show (if c * 6 + w ≤ c * 6 + j ∧ c * 6 + j < c * 6 + 6 then 0 else M 2 (c * 6 + j)) = M 2 (c * 6 + j)
  rw [if_neg (by omega)]
def gcM (M : St) (c j b : Nat) : St := va_up M 2 (va_up (M 2) (c * 6 + j) b)
theorem gc_op {M : St} {c j b w v : Nat} (hc : c < 27) (hb : b ≤ 255) (h1 : M 1 c = w) (hj : j < w) (hw : w ≤ 6) (hv : M 2 (c * 6 + j) = v) : o_setGlyphColumn M (nI c) (nI j) (nI b) = (nI v, settle (gcM M c j b)) := by
  subst hv
  exact (wr_y ⟨Nat.zero_le _, by omega⟩ (by decide)).trans ((wr_y ⟨Nat.zero_le _, hb⟩ (by decide)).trans (wr_y ⟨Nat.zero_le _, by omega⟩ (by omega)))
theorem gc_no {M : St} {c w b : Nat} (hc : c < 27) (hb : b ≤ 255) (h1 : M 1 c = w) (hw : 1 ≤ w ∧ w ≤ 6) : o_setGlyphColumn M (nI c) (nI w) (nI b) = (-11, M) := by
  refine (wr_y ⟨Nat.zero_le _, by omega⟩ (by decide)).trans ((wr_y ⟨Nat.zero_le _, hb⟩ (by decide)).trans (wr_n (fun q => ?_)))
  have h2 := (nI_leI (by omega) (by omega)).mp q.2
  omega
theorem gr_op {M : St} {c j w : Nat} (hc : c < 27) (hj : j < 6) (h1 : M 1 c = w) : o_glyphColumn M (nI c) (nI j) = if j < w then nI (M 2 (c * 6 + j)) else -14 := by
  subst h1
  exact (wr_y ⟨Nat.zero_le _, by omega⟩ (by decide)).trans (wr_y ⟨Nat.zero_le _, by omega⟩ (by decide))
set_option maxHeartbeats 4000000 in
set_option maxRecDepth 100000 in
theorem k_L_glyph (vl : Launch) (D : va_G) (cI cM : ClassId) (A : Nat → Prop) (ad : Nat → Nat) (E : Nat → va_E) (hX : XD A 32 ad) {M : St} {g : Nat → Nat} {y : Nat} (hI : Inv M) (hR : RelX cI cM ad M E) (e30 : E (30) = aI cI 63 g) (hg : GR M g) (hy : y < 2 ^ 31) : MI vl yL_glyph wsL_glyph { frames := 6, cells := 0, slots := 0, locals := 138 } D cI cM A 32 ad E [.ref (ad 0), .int (nI (y)), .ref (ad 30)] (fun r E1 => r = nI 1) := by
  refine mi_of cL_glyph 10 (.boolean) RL (by decide) rfl rfl (Nat.le_of_ble_eq_true rfl) (fun r E1 h => by rw [h]; rfl) ?_
  intro vp ve vs vm va vb vt vc Q C hend
  refine z_lv [(0, .ref (ad 0)), (1, .int (nI (y))), (2, .ref (ad 30))] ⟨rfl, rfl, rfl, rfl, rfl, rfl, trivial⟩ ?_
  have e0 := RelX_0 hR
  obtain ⟨q, hq⟩ : ∃ q, q = y % 9 := ⟨_, rfl⟩
  obtain ⟨w, hw⟩ : ∃ q, q = 1 + y / 16 % 6 := ⟨_, rfl⟩
  obtain ⟨jj, hjj⟩ : ∃ q, q = y / 256 % w := ⟨_, rfl⟩
  obtain ⟨bi, hbi⟩ : ∃ q, q = y / 2048 % 256 := ⟨_, rfl⟩
  have hq8 : q ≤ 8 := by omega
  have hw6 : 1 ≤ w ∧ w ≤ 6 := by omega
  have hjw : jj < w := by rw [hjj]; exact Nat.mod_lt _ (by omega)
  have hbi2 : bi ≤ 255 := by omega
  obtain ⟨hgq, hgj⟩ := hg q hq8
  have hn27 := num_lt hq8
  have hbq := (bnd hI).2.2 (num q) hn27
  have hz : ∀ j, j < 6 → g q ≤ j → M 2 (num q * 6 + j) = 0 := fun j hj hh => hI.1.2.2.2.2.2.2.2.2.2.2.2.1 (num q) hn27 j hj (by omega)
  refine z_iload_n C dL_glyph_0 rfl ?_
  refine z_bipush C (nI (9)) dL_glyph_1 (by decide) ?_
  refine z_iremN C (by omega) (by omega) (by omega) dL_glyph_3 ?_
  refine z_top (nI (q)) (by rw [hq]) ?_
  refine z_istore_n C [(0, .ref (ad 0)), (1, .int (nI (y))), (2, .ref (ad 30)), (3, .int (nI (q)))] dL_glyph_4 (by decide) ⟨rfl, rfl, rfl, rfl, rfl, rfl, rfl, rfl, trivial⟩ ?_
  refine z_iconst C (nI (1)) dL_glyph_5 (by decide) ?_
  refine z_iload_n C dL_glyph_6 rfl ?_
  refine z_iconst C (nI (4)) dL_glyph_7 (by decide) ?_
  refine z_ishr C dL_glyph_8  ?_
  refine z_top (nI (y / 16)) (sh_r hy 4 (by decide)) ?_
  refine z_bipush C (nI (6)) dL_glyph_9 (by decide) ?_
  refine z_iremN C (by omega) (by omega) (by omega) dL_glyph_11 ?_
  refine z_iaddN C  dL_glyph_12 ?_
  refine z_top (nI (w)) (by rw [hw]) ?_
  refine z_istore C [(0, .ref (ad 0)), (1, .int (nI (y))), (2, .ref (ad 30)), (3, .int (nI (q))), (4, .int (nI (w)))] dL_glyph_13 (by decide) ⟨rfl, rfl, rfl, rfl, rfl, rfl, rfl, rfl, rfl, rfl, trivial⟩ ?_
  refine z_aload_n C dL_glyph_15 rfl ?_
  refine z_iload_n C dL_glyph_16 rfl ?_
  refine z_ialdG C (30) (by first | decide | omega) rfl e30 (by omega) (by decide) dL_glyph_17 ?_
  refine z_istore C [(0, .ref (ad 0)), (1, .int (nI (y))), (2, .ref (ad 30)), (3, .int (nI (q))), (4, .int (nI (w))), (5, .int (nI (g (q))))] dL_glyph_18 (by decide) ⟨rfl, rfl, rfl, rfl, rfl, rfl, rfl, rfl, rfl, rfl, rfl, rfl, trivial⟩ ?_
  refine z_iload C dL_glyph_20 rfl ?_
  refine z_istore C [(0, .ref (ad 0)), (1, .int (nI (y))), (2, .ref (ad 30)), (3, .int (nI (q))), (4, .int (nI (w))), (5, .int (nI (g (q)))), (6, .int (nI (g (q))))] dL_glyph_22 (by decide) ⟨rfl, rfl, rfl, rfl, rfl, rfl, rfl, rfl, rfl, rfl, rfl, rfl, rfl, rfl, trivial⟩ ?_
  have loop24 : ∀ (fuel : Nat) (j : Nat) (E2 : Nat → va_E) (g2 : Nat → Nat), (hj : g q ≤ j ∧ j ≤ 6) → (b2 : ∀ z, z < 6 → M 2 (num q * 6 + z) = g2 (9 + 6 * q + z)) → (b3 : g2 q = g q) → (q30 : E2 (30) = aI cI 63 g2) → (qf : ∀ k : Nat, (k < 30) → E2 k = E k) → w - j < fuel → Z vp vl ve { frames := 6, cells := 0, slots := 0, locals := 138 } vs vm va vb vt vc 10 D A 32 ad E2 [(0, .ref (ad 0)), (1, .int (nI (y))), (2, .ref (ad 30)), (3, .int (nI (q))), (4, .int (nI (w))), (5, .int (nI (g (q)))), (6, .int (nI (j)))] 0 0 Q 24 [] := by
    intro fuel
    induction fuel with
    | zero => intro j E2 g2 hj b2 b3 q30 qf hlt; exact absurd hlt (Nat.not_lt_zero _)
    | succ fuel ih =>
      intro j E2 g2 hj b2 b3 q30 qf hlt
      have ih24 := ih
      refine z_iload C dL_glyph_24 rfl ?_
      refine z_iload C dL_glyph_26 rfl ?_
      refine z_icmp_geN C 50 (by omega) (by omega) dL_glyph_28 (by decide) (fun h28 => ?_) (fun h28 => ?_)
      · refine z_aload_n C dL_glyph_50 rfl ?_
        refine z_iload_n C dL_glyph_51 rfl ?_
        refine z_iload C dL_glyph_52 rfl ?_
        refine z_iastG C (30) hX (by first | decide | omega) rfl q30 (by omega) (by decide) dL_glyph_54 (fun Ez2 hE1 => ?_)
        have f4 : Ez2 (30) = aI cI 63 (va_up g2 (q) (w)) := va_up_eq hE1
        have g5 : ∀ k : Nat, (k < 30) → Ez2 k = E k := fun k hk => va_up_of hE1 (by omega) (qf k hk)
        have hRq : RelX cI cM ad M Ez2 := hR.mv (fun k hk => g5 k hk)
        have e0q := RelX_0 hRq
        refine z_aload_n C dL_glyph_55 rfl ?_
        refine z_iload_n C dL_glyph_56 rfl ?_
        refine z_callSF C (k_L_number vl D cI cM A ad Ez2 hX (c := q) hq8) (va_cwS 1 C.2.2.2.2.1 gL_glyph_L_number rfl rfl rfl (by decide +kernel) ⟨Nat.le_of_ble_eq_true rfl, Nat.le_of_ble_eq_true rfl⟩) rfl rfl (Nat.le_of_ble_eq_true rfl) ⟨Nat.zero_le _, Nat.zero_le _⟩ dL_glyph_57 ?_
        refine z_iload C dL_glyph_60 rfl ?_
        refine z_callVI C (0) (Cn := RX5) (T := TX5) (N := 12) (k_X5_setGlyphWidth vl D cI cM A ad Ez2 hX (nI (num q)) (nI (w)) hI hRq) (cwV 2 C.2.2.2.2.1 gL_glyph_X5_setGlyphWidth rfl rfl rfl (by decide +kernel) ⟨(Nat.le_of_ble_eq_true rfl), (Nat.le_of_ble_eq_true rfl)⟩) rfl (by decide) rfl e0q rfl rfl (Nat.le_of_ble_eq_true rfl) ⟨(Nat.le_of_ble_eq_true rfl), (Nat.le_of_ble_eq_true rfl)⟩ dL_glyph_62 (fun r6 Ez7 hp8 => ?_)
        obtain ⟨hr9, hRr10, hf11⟩ := hp8
        have hop16 : o_setGlyphWidth M (nI (num q)) (nI (w)) = (nI (g (q)), settle (gwM M (num q) w)) := gw_op hn27 hw6 hgq
        have hr14 : r6 = nI (g (q)) := by rw [hop16] at hr9; exact hr9
        have hR15 : RelX cI cM ad (settle (gwM M (num q) w)) Ez7 := by rw [hop16] at hRr10; exact hRr10
        have hI12 : Inv (settle (gwM M (num q) w)) := by have q := i_setGlyphWidth hI (nI (num q)) (nI (w)); rw [hop16] at q; exact q
        obtain ⟨M1, hM1⟩ : ∃ z_, z_ = (settle (gwM M (num q) w)) := ⟨_, rfl⟩
        rw [← hM1] at hR15 hI12 hop16
        have e0_13 := RelX_0 hR15
        refine z_top (nI (g (q))) hr14 ?_
        have f17 : Ez7 (30) = aI cI 63 (va_up g2 (q) (w)) := (hf11 (30) (by omega)).trans f4
        refine z_iload C dL_glyph_65 rfl ?_
        refine z_icmp_neN C 107 (by omega) (by omega) dL_glyph_67 (by decide) (fun h67 => (by exfalso; exact h67 rfl)) (fun h67 => ?_)
        have h11 : M1 1 (num q) = w := by rw [hM1]; exact gw_1 _ _ _
        have h12 : ∀ j, j < w → M1 2 (num q * 6 + j) = g2 (9 + 6 * q + j) := fun j hj => by rw [hM1, gw_2 _ hj]; exact b2 j (by omega)
        by_cases h6 : w = 6
        · refine z_aload_n C dL_glyph_70 rfl ?_
          refine z_iload_n C dL_glyph_71 rfl ?_
          refine z_callSF C (k_L_number vl D cI cM A ad Ez7 hX (c := q) hq8) (va_cwS 1 C.2.2.2.2.1 gL_glyph_L_number rfl rfl rfl (by decide +kernel) ⟨Nat.le_of_ble_eq_true rfl, Nat.le_of_ble_eq_true rfl⟩) rfl rfl (Nat.le_of_ble_eq_true rfl) ⟨Nat.zero_le _, Nat.zero_le _⟩ dL_glyph_72 ?_
          refine z_iconst C (nI (5)) dL_glyph_75 (by decide) ?_
          refine z_callVF C (0) (Cn := RX5) (T := TX5) (N := 12) (k_X5_glyphColumn vl D cI cM A ad Ez7 hX (nI (num q)) (nI (5)) hI12 hR15) (cwV 2 C.2.2.2.2.1 gL_glyph_X5_glyphColumn rfl rfl rfl (by decide +kernel) ⟨(Nat.le_of_ble_eq_true rfl), (Nat.le_of_ble_eq_true rfl)⟩) rfl (by decide) rfl e0_13 rfl rfl (Nat.le_of_ble_eq_true rfl) ⟨(Nat.le_of_ble_eq_true rfl), (Nat.le_of_ble_eq_true rfl)⟩ dL_glyph_76 ?_
          refine z_top (nI (g2 (9 + 6 * q + 5))) ((gr_op hn27 (by decide) h11).trans (by rw [if_pos (by omega), h12 5 (by omega)])) ?_
          refine z_iload C dL_glyph_79 rfl ?_
          refine z_bipush C (nI (6)) dL_glyph_81 (by decide) ?_
          refine z_icmp_geN C 91 (by omega) (by omega) dL_glyph_83 (by decide) (fun h83 => ?_) (fun h83 => (by exfalso; omega))
          refine z_aload_n C dL_glyph_91 rfl ?_
          refine z_bipush C (nI (14)) dL_glyph_92 (by decide) ?_
          refine z_bipush C (nI (6)) dL_glyph_94 (by decide) ?_
          refine z_iload_n C dL_glyph_96 rfl ?_
          refine z_imulN C  dL_glyph_97 ?_
          refine z_iaddN C  dL_glyph_98 ?_
          refine z_ialdG C (30) (by first | decide | omega) rfl f17 (by omega) (by decide) dL_glyph_99 ?_
          refine z_top (nI (g2 (9 + 6 * q + 5))) (by rw [va_up_ne _ _ (by omega), show 14 + 6 * q = 9 + 6 * q + 5 by omega]) ?_
          refine z_icmp_ne C 107 dL_glyph_100 (by decide) (fun h100 => (by exfalso; exact h100 rfl)) (fun h100 => ?_)
          refine z_iconst C (nI (1)) dL_glyph_103 (by decide) ?_
          refine z_goto C 108 dL_glyph_104 (by decide) ?_
          refine z_istore C [(0, .ref (ad 0)), (1, .int (nI (y))), (2, .ref (ad 30)), (3, .int (nI (q))), (4, .int (nI (w))), (5, .int (nI (g (q)))), (6, .int (nI (1)))] dL_glyph_108 (by decide) ⟨rfl, rfl, rfl, rfl, rfl, rfl, rfl, rfl, rfl, rfl, rfl, rfl, rfl, rfl, trivial⟩ ?_
          refine z_iload_n C dL_glyph_110 rfl ?_
          refine z_bipush C (nI (8)) dL_glyph_111 (by decide) ?_
          refine z_ishr C dL_glyph_113  ?_
          refine z_top (nI (y / 256)) (sh_r hy 8 (by decide)) ?_
          refine z_iload C dL_glyph_114 rfl ?_
          refine z_iremN C (by omega) (by omega) (by omega) dL_glyph_116 ?_
          refine z_top (nI (jj)) (by rw [hjj]) ?_
          refine z_istore C [(0, .ref (ad 0)), (1, .int (nI (y))), (2, .ref (ad 30)), (3, .int (nI (q))), (4, .int (nI (w))), (5, .int (nI (g (q)))), (6, .int (nI (1))), (7, .int (nI (jj)))] dL_glyph_117 (by decide) ⟨rfl, rfl, rfl, rfl, rfl, rfl, rfl, rfl, rfl, rfl, rfl, rfl, rfl, rfl, rfl, rfl, trivial⟩ ?_
          refine z_iload_n C dL_glyph_119 rfl ?_
          refine z_bipush C (nI (11)) dL_glyph_120 (by decide) ?_
          refine z_ishr C dL_glyph_122  ?_
          refine z_top (nI (y / 2048)) (sh_r hy 11 (by decide)) ?_
          refine z_sipush C (nI (256)) dL_glyph_123 (by decide) ?_
          refine z_iremN C (by omega) (by omega) (by omega) dL_glyph_126 ?_
          refine z_top (nI (bi)) (by rw [hbi]) ?_
          refine z_istore C [(0, .ref (ad 0)), (1, .int (nI (y))), (2, .ref (ad 30)), (3, .int (nI (q))), (4, .int (nI (w))), (5, .int (nI (g (q)))), (6, .int (nI (1))), (7, .int (nI (jj))), (8, .int (nI (bi)))] dL_glyph_127 (by decide) ⟨rfl, rfl, rfl, rfl, rfl, rfl, rfl, rfl, rfl, rfl, rfl, rfl, rfl, rfl, rfl, rfl, rfl, rfl, trivial⟩ ?_
          refine z_aload_n C dL_glyph_129 rfl ?_
          refine z_bipush C (nI (9)) dL_glyph_130 (by decide) ?_
          refine z_bipush C (nI (6)) dL_glyph_132 (by decide) ?_
          refine z_iload_n C dL_glyph_134 rfl ?_
          refine z_imulN C  dL_glyph_135 ?_
          refine z_iaddN C  dL_glyph_136 ?_
          refine z_iload C dL_glyph_137 rfl ?_
          refine z_iaddN C  dL_glyph_139 ?_
          refine z_ialdG C (30) (by first | decide | omega) rfl f17 (by omega) (by decide) dL_glyph_140 ?_
          refine z_top (nI (g2 (9 + 6 * q + jj))) (by rw [va_up_ne _ _ (by omega)]) ?_
          refine z_istore C [(0, .ref (ad 0)), (1, .int (nI (y))), (2, .ref (ad 30)), (3, .int (nI (q))), (4, .int (nI (w))), (5, .int (nI (g (q)))), (6, .int (nI (1))), (7, .int (nI (jj))), (8, .int (nI (bi))), (9, .int (nI (g2 (9 + 6 * q + jj))))] dL_glyph_141 (by decide) ⟨rfl, rfl, rfl, rfl, rfl, rfl, rfl, rfl, rfl, rfl, rfl, rfl, rfl, rfl, rfl, rfl, rfl, rfl, rfl, rfl, trivial⟩ ?_
          refine z_aload_n C dL_glyph_143 rfl ?_
          refine z_bipush C (nI (9)) dL_glyph_144 (by decide) ?_
          refine z_bipush C (nI (6)) dL_glyph_146 (by decide) ?_
          refine z_iload_n C dL_glyph_148 rfl ?_
          refine z_imulN C  dL_glyph_149 ?_
          refine z_iaddN C  dL_glyph_150 ?_
          refine z_iload C dL_glyph_151 rfl ?_
          refine z_iaddN C  dL_glyph_153 ?_
          refine z_iload C dL_glyph_154 rfl ?_
          refine z_iastG C (30) hX (by first | decide | omega) rfl f17 (by omega) (by decide) dL_glyph_156 (fun Ez19 hE18 => ?_)
          have f21 : Ez19 (30) = aI cI 63 (va_up (va_up g2 (q) (w)) ((9 + (6 * q)) + jj) (bi)) := va_up_eq hE18
          have hRw : RelX cI cM ad M1 Ez19 := hR15.mv (fun k hk => va_up_of hE18 (by omega) rfl)
          have e0w := RelX_0 hRw
          refine z_iload C dL_glyph_157 rfl ?_
          refine z_if_eqN C 214 (by omega) dL_glyph_159 (by decide) (fun h159 => (by exfalso; omega)) (fun h159 => ?_)
          refine z_aload_n C dL_glyph_162 rfl ?_
          refine z_iload_n C dL_glyph_163 rfl ?_
          refine z_callSF C (k_L_number vl D cI cM A ad Ez19 hX (c := q) hq8) (va_cwS 1 C.2.2.2.2.1 gL_glyph_L_number rfl rfl rfl (by decide +kernel) ⟨Nat.le_of_ble_eq_true rfl, Nat.le_of_ble_eq_true rfl⟩) rfl rfl (Nat.le_of_ble_eq_true rfl) ⟨Nat.zero_le _, Nat.zero_le _⟩ dL_glyph_164 ?_
          refine z_iload C dL_glyph_167 rfl ?_
          refine z_iload C dL_glyph_169 rfl ?_
          refine z_callVI C (0) (Cn := RX5) (T := TX5) (N := 12) (k_X5_setGlyphColumn vl D cI cM A ad Ez19 hX (nI (num q)) (nI (jj)) (nI (bi)) hI12 hRw) (cwV 3 C.2.2.2.2.1 gL_glyph_X5_setGlyphColumn rfl rfl rfl (by decide +kernel) ⟨(Nat.le_of_ble_eq_true rfl), (Nat.le_of_ble_eq_true rfl)⟩) rfl (by decide) rfl e0w rfl rfl (Nat.le_of_ble_eq_true rfl) ⟨(Nat.le_of_ble_eq_true rfl), (Nat.le_of_ble_eq_true rfl)⟩ dL_glyph_171 (fun r22 Ez23 hp24 => ?_)
          obtain ⟨hr25, hRr26, hf27⟩ := hp24
          have hop32 : o_setGlyphColumn M1 (nI (num q)) (nI (jj)) (nI (bi)) = (nI (g2 (9 + 6 * q + jj)), settle (gcM M1 (num q) jj bi)) := gc_op hn27 hbi2 h11 hjw hw6.2 (h12 jj hjw)
          have hr30 : r22 = nI (g2 (9 + 6 * q + jj)) := by rw [hop32] at hr25; exact hr25
          have hR31 : RelX cI cM ad (settle (gcM M1 (num q) jj bi)) Ez23 := by rw [hop32] at hRr26; exact hRr26
          have hI28 : Inv (settle (gcM M1 (num q) jj bi)) := by have q := i_setGlyphColumn hI12 (nI (num q)) (nI (jj)) (nI (bi)); rw [hop32] at q; exact q
          obtain ⟨M3, hM3⟩ : ∃ z_, z_ = (settle (gcM M1 (num q) jj bi)) := ⟨_, rfl⟩
          rw [← hM3] at hR31 hI28 hop32
          have e0_29 := RelX_0 hR31
          refine z_top (nI (g2 (9 + 6 * q + jj))) hr30 ?_
          have f33 : Ez23 (30) = aI cI 63 (va_up (va_up g2 (q) (w)) ((9 + (6 * q)) + jj) (bi)) := (hf27 (30) (by omega)).trans f21
          have h31 : M3 1 (num q) = w := by rw [hM3]; exact h11
          have h32 : M3 2 (num q * 6 + jj) = bi := by rw [hM3]; exact va_up_self _ _ _
          refine z_iload C dL_glyph_174 rfl ?_
          refine z_icmp_ne C 214 dL_glyph_176 (by decide) (fun h176 => (by exfalso; exact h176 rfl)) (fun h176 => ?_)
          refine z_aload_n C dL_glyph_179 rfl ?_
          refine z_iload_n C dL_glyph_180 rfl ?_
          refine z_callSF C (k_L_number vl D cI cM A ad Ez23 hX (c := q) hq8) (va_cwS 1 C.2.2.2.2.1 gL_glyph_L_number rfl rfl rfl (by decide +kernel) ⟨Nat.le_of_ble_eq_true rfl, Nat.le_of_ble_eq_true rfl⟩) rfl rfl (Nat.le_of_ble_eq_true rfl) ⟨Nat.zero_le _, Nat.zero_le _⟩ dL_glyph_181 ?_
          refine z_iload C dL_glyph_184 rfl ?_
          refine z_callVF C (0) (Cn := RX5) (T := TX5) (N := 12) (k_X5_glyphColumn vl D cI cM A ad Ez23 hX (nI (num q)) (nI (jj)) hI28 hR31) (cwV 2 C.2.2.2.2.1 gL_glyph_X5_glyphColumn rfl rfl rfl (by decide +kernel) ⟨(Nat.le_of_ble_eq_true rfl), (Nat.le_of_ble_eq_true rfl)⟩) rfl (by decide) rfl e0_29 rfl rfl (Nat.le_of_ble_eq_true rfl) ⟨(Nat.le_of_ble_eq_true rfl), (Nat.le_of_ble_eq_true rfl)⟩ dL_glyph_186 ?_
          refine z_top (nI bi) ((gr_op hn27 (by omega) h31).trans (by rw [if_pos hjw, h32])) ?_
          refine z_iload C dL_glyph_189 rfl ?_
          refine z_icmp_ne C 214 dL_glyph_191 (by decide) (fun h191 => (by exfalso; exact h191 rfl)) (fun h191 => ?_)
          refine z_aload_n C dL_glyph_194 rfl ?_
          refine z_iload_n C dL_glyph_195 rfl ?_
          refine z_callSF C (k_L_number vl D cI cM A ad Ez23 hX (c := q) hq8) (va_cwS 1 C.2.2.2.2.1 gL_glyph_L_number rfl rfl rfl (by decide +kernel) ⟨Nat.le_of_ble_eq_true rfl, Nat.le_of_ble_eq_true rfl⟩) rfl rfl (Nat.le_of_ble_eq_true rfl) ⟨Nat.zero_le _, Nat.zero_le _⟩ dL_glyph_196 ?_
          refine z_iload C dL_glyph_199 rfl ?_
          refine z_iconst C (nI (0)) dL_glyph_201 (by decide) ?_
          refine z_callVI C (0) (Cn := RX5) (T := TX5) (N := 12) (k_X5_setGlyphColumn vl D cI cM A ad Ez23 hX (nI (num q)) (nI (w)) (nI (0)) hI28 hR31) (cwV 3 C.2.2.2.2.1 gL_glyph_X5_setGlyphColumn rfl rfl rfl (by decide +kernel) ⟨(Nat.le_of_ble_eq_true rfl), (Nat.le_of_ble_eq_true rfl)⟩) rfl (by decide) rfl e0_29 rfl rfl (Nat.le_of_ble_eq_true rfl) ⟨(Nat.le_of_ble_eq_true rfl), (Nat.le_of_ble_eq_true rfl)⟩ dL_glyph_202 (fun r34 Ez35 hp36 => ?_)
          obtain ⟨hr37, hRr38, hf39⟩ := hp36
          have hop44 : o_setGlyphColumn M3 (nI (num q)) (nI (w)) (nI (0)) = (-11, M3) := gc_no hn27 (by decide) h31 hw6
          have hr42 : r34 = -11 := by rw [hop44] at hr37; exact hr37
          have hR43 : RelX cI cM ad (M3) Ez35 := by rw [hop44] at hRr38; exact hRr38
          have hI40 : Inv (M3) := by have q := i_setGlyphColumn hI28 (nI (num q)) (nI (w)) (nI (0)); rw [hop44] at q; exact q
          have e0_41 := RelX_0 hR43
          refine z_top (-11) hr42 ?_
          have f45 : Ez35 (30) = aI cI 63 (va_up (va_up g2 (q) (w)) ((9 + (6 * q)) + jj) (bi)) := (hf39 (30) (by omega)).trans f33
          refine z_bipush C (-11) dL_glyph_205 (by decide) ?_
          refine z_icmp_ne C 214 dL_glyph_207 (by decide) (fun h207 => (by exfalso; exact h207 rfl)) (fun h207 => ?_)
          refine z_iconst C (nI (1)) dL_glyph_210 (by decide) ?_
          refine z_goto C 215 dL_glyph_211 (by decide) ?_
          exact hend _ _ _ _ dL_glyph_215 (rfl)
        · refine z_aload_n C dL_glyph_70 rfl ?_
          refine z_iload_n C dL_glyph_71 rfl ?_
          refine z_callSF C (k_L_number vl D cI cM A ad Ez7 hX (c := q) hq8) (va_cwS 1 C.2.2.2.2.1 gL_glyph_L_number rfl rfl rfl (by decide +kernel) ⟨Nat.le_of_ble_eq_true rfl, Nat.le_of_ble_eq_true rfl⟩) rfl rfl (Nat.le_of_ble_eq_true rfl) ⟨Nat.zero_le _, Nat.zero_le _⟩ dL_glyph_72 ?_
          refine z_iconst C (nI (5)) dL_glyph_75 (by decide) ?_
          refine z_callVF C (0) (Cn := RX5) (T := TX5) (N := 12) (k_X5_glyphColumn vl D cI cM A ad Ez7 hX (nI (num q)) (nI (5)) hI12 hR15) (cwV 2 C.2.2.2.2.1 gL_glyph_X5_glyphColumn rfl rfl rfl (by decide +kernel) ⟨(Nat.le_of_ble_eq_true rfl), (Nat.le_of_ble_eq_true rfl)⟩) rfl (by decide) rfl e0_13 rfl rfl (Nat.le_of_ble_eq_true rfl) ⟨(Nat.le_of_ble_eq_true rfl), (Nat.le_of_ble_eq_true rfl)⟩ dL_glyph_76 ?_
          refine z_top (-14) ((gr_op hn27 (by decide) h11).trans (if_neg (by omega))) ?_
          refine z_iload C dL_glyph_79 rfl ?_
          refine z_bipush C (nI (6)) dL_glyph_81 (by decide) ?_
          refine z_icmp_geN C 91 (by omega) (by omega) dL_glyph_83 (by decide) (fun h83 => (by exfalso; omega)) (fun h83 => ?_)
          refine z_bipush C (-14) dL_glyph_86 (by decide) ?_
          refine z_goto C 100 dL_glyph_88 (by decide) ?_
          refine z_icmp_ne C 107 dL_glyph_100 (by decide) (fun h100 => (by exfalso; exact h100 rfl)) (fun h100 => ?_)
          refine z_iconst C (nI (1)) dL_glyph_103 (by decide) ?_
          refine z_goto C 108 dL_glyph_104 (by decide) ?_
          refine z_istore C [(0, .ref (ad 0)), (1, .int (nI (y))), (2, .ref (ad 30)), (3, .int (nI (q))), (4, .int (nI (w))), (5, .int (nI (g (q)))), (6, .int (nI (1)))] dL_glyph_108 (by decide) ⟨rfl, rfl, rfl, rfl, rfl, rfl, rfl, rfl, rfl, rfl, rfl, rfl, rfl, rfl, trivial⟩ ?_
          refine z_iload_n C dL_glyph_110 rfl ?_
          refine z_bipush C (nI (8)) dL_glyph_111 (by decide) ?_
          refine z_ishr C dL_glyph_113  ?_
          refine z_top (nI (y / 256)) (sh_r hy 8 (by decide)) ?_
          refine z_iload C dL_glyph_114 rfl ?_
          refine z_iremN C (by omega) (by omega) (by omega) dL_glyph_116 ?_
          refine z_top (nI (jj)) (by rw [hjj]) ?_
          refine z_istore C [(0, .ref (ad 0)), (1, .int (nI (y))), (2, .ref (ad 30)), (3, .int (nI (q))), (4, .int (nI (w))), (5, .int (nI (g (q)))), (6, .int (nI (1))), (7, .int (nI (jj)))] dL_glyph_117 (by decide) ⟨rfl, rfl, rfl, rfl, rfl, rfl, rfl, rfl, rfl, rfl, rfl, rfl, rfl, rfl, rfl, rfl, trivial⟩ ?_
          refine z_iload_n C dL_glyph_119 rfl ?_
          refine z_bipush C (nI (11)) dL_glyph_120 (by decide) ?_
          refine z_ishr C dL_glyph_122  ?_
          refine z_top (nI (y / 2048)) (sh_r hy 11 (by decide)) ?_
          refine z_sipush C (nI (256)) dL_glyph_123 (by decide) ?_
          refine z_iremN C (by omega) (by omega) (by omega) dL_glyph_126 ?_
          refine z_top (nI (bi)) (by rw [hbi]) ?_
          refine z_istore C [(0, .ref (ad 0)), (1, .int (nI (y))), (2, .ref (ad 30)), (3, .int (nI (q))), (4, .int (nI (w))), (5, .int (nI (g (q)))), (6, .int (nI (1))), (7, .int (nI (jj))), (8, .int (nI (bi)))] dL_glyph_127 (by decide) ⟨rfl, rfl, rfl, rfl, rfl, rfl, rfl, rfl, rfl, rfl, rfl, rfl, rfl, rfl, rfl, rfl, rfl, rfl, trivial⟩ ?_
          refine z_aload_n C dL_glyph_129 rfl ?_
          refine z_bipush C (nI (9)) dL_glyph_130 (by decide) ?_
          refine z_bipush C (nI (6)) dL_glyph_132 (by decide) ?_
          refine z_iload_n C dL_glyph_134 rfl ?_
          refine z_imulN C  dL_glyph_135 ?_
          refine z_iaddN C  dL_glyph_136 ?_
          refine z_iload C dL_glyph_137 rfl ?_
          refine z_iaddN C  dL_glyph_139 ?_
          refine z_ialdG C (30) (by first | decide | omega) rfl f17 (by omega) (by decide) dL_glyph_140 ?_
          refine z_top (nI (g2 (9 + 6 * q + jj))) (by rw [va_up_ne _ _ (by omega)]) ?_
          refine z_istore C [(0, .ref (ad 0)), (1, .int (nI (y))), (2, .ref (ad 30)), (3, .int (nI (q))), (4, .int (nI (w))), (5, .int (nI (g (q)))), (6, .int (nI (1))), (7, .int (nI (jj))), (8, .int (nI (bi))), (9, .int (nI (g2 (9 + 6 * q + jj))))] dL_glyph_141 (by decide) ⟨rfl, rfl, rfl, rfl, rfl, rfl, rfl, rfl, rfl, rfl, rfl, rfl, rfl, rfl, rfl, rfl, rfl, rfl, rfl, rfl, trivial⟩ ?_
          refine z_aload_n C dL_glyph_143 rfl ?_
          refine z_bipush C (nI (9)) dL_glyph_144 (by decide) ?_
          refine z_bipush C (nI (6)) dL_glyph_146 (by decide) ?_
          refine z_iload_n C dL_glyph_148 rfl ?_
          refine z_imulN C  dL_glyph_149 ?_
          refine z_iaddN C  dL_glyph_150 ?_
          refine z_iload C dL_glyph_151 rfl ?_
          refine z_iaddN C  dL_glyph_153 ?_
          refine z_iload C dL_glyph_154 rfl ?_
          refine z_iastG C (30) hX (by first | decide | omega) rfl f17 (by omega) (by decide) dL_glyph_156 (fun Ez47 hE46 => ?_)
          have f49 : Ez47 (30) = aI cI 63 (va_up (va_up g2 (q) (w)) ((9 + (6 * q)) + jj) (bi)) := va_up_eq hE46
          have hRw : RelX cI cM ad M1 Ez47 := hR15.mv (fun k hk => va_up_of hE46 (by omega) rfl)
          have e0w := RelX_0 hRw
          refine z_iload C dL_glyph_157 rfl ?_
          refine z_if_eqN C 214 (by omega) dL_glyph_159 (by decide) (fun h159 => (by exfalso; omega)) (fun h159 => ?_)
          refine z_aload_n C dL_glyph_162 rfl ?_
          refine z_iload_n C dL_glyph_163 rfl ?_
          refine z_callSF C (k_L_number vl D cI cM A ad Ez47 hX (c := q) hq8) (va_cwS 1 C.2.2.2.2.1 gL_glyph_L_number rfl rfl rfl (by decide +kernel) ⟨Nat.le_of_ble_eq_true rfl, Nat.le_of_ble_eq_true rfl⟩) rfl rfl (Nat.le_of_ble_eq_true rfl) ⟨Nat.zero_le _, Nat.zero_le _⟩ dL_glyph_164 ?_
          refine z_iload C dL_glyph_167 rfl ?_
          refine z_iload C dL_glyph_169 rfl ?_
          refine z_callVI C (0) (Cn := RX5) (T := TX5) (N := 12) (k_X5_setGlyphColumn vl D cI cM A ad Ez47 hX (nI (num q)) (nI (jj)) (nI (bi)) hI12 hRw) (cwV 3 C.2.2.2.2.1 gL_glyph_X5_setGlyphColumn rfl rfl rfl (by decide +kernel) ⟨(Nat.le_of_ble_eq_true rfl), (Nat.le_of_ble_eq_true rfl)⟩) rfl (by decide) rfl e0w rfl rfl (Nat.le_of_ble_eq_true rfl) ⟨(Nat.le_of_ble_eq_true rfl), (Nat.le_of_ble_eq_true rfl)⟩ dL_glyph_171 (fun r50 Ez51 hp52 => ?_)
          obtain ⟨hr53, hRr54, hf55⟩ := hp52
          have hop60 : o_setGlyphColumn M1 (nI (num q)) (nI (jj)) (nI (bi)) = (nI (g2 (9 + 6 * q + jj)), settle (gcM M1 (num q) jj bi)) := gc_op hn27 hbi2 h11 hjw hw6.2 (h12 jj hjw)
          have hr58 : r50 = nI (g2 (9 + 6 * q + jj)) := by rw [hop60] at hr53; exact hr53
          have hR59 : RelX cI cM ad (settle (gcM M1 (num q) jj bi)) Ez51 := by rw [hop60] at hRr54; exact hRr54
          have hI56 : Inv (settle (gcM M1 (num q) jj bi)) := by have q := i_setGlyphColumn hI12 (nI (num q)) (nI (jj)) (nI (bi)); rw [hop60] at q; exact q
          obtain ⟨M3, hM3⟩ : ∃ z_, z_ = (settle (gcM M1 (num q) jj bi)) := ⟨_, rfl⟩
          rw [← hM3] at hR59 hI56 hop60
          have e0_57 := RelX_0 hR59
          refine z_top (nI (g2 (9 + 6 * q + jj))) hr58 ?_
          have f61 : Ez51 (30) = aI cI 63 (va_up (va_up g2 (q) (w)) ((9 + (6 * q)) + jj) (bi)) := (hf55 (30) (by omega)).trans f49
          have h31 : M3 1 (num q) = w := by rw [hM3]; exact h11
          have h32 : M3 2 (num q * 6 + jj) = bi := by rw [hM3]; exact va_up_self _ _ _
          refine z_iload C dL_glyph_174 rfl ?_
          refine z_icmp_ne C 214 dL_glyph_176 (by decide) (fun h176 => (by exfalso; exact h176 rfl)) (fun h176 => ?_)
          refine z_aload_n C dL_glyph_179 rfl ?_
          refine z_iload_n C dL_glyph_180 rfl ?_
          refine z_callSF C (k_L_number vl D cI cM A ad Ez51 hX (c := q) hq8) (va_cwS 1 C.2.2.2.2.1 gL_glyph_L_number rfl rfl rfl (by decide +kernel) ⟨Nat.le_of_ble_eq_true rfl, Nat.le_of_ble_eq_true rfl⟩) rfl rfl (Nat.le_of_ble_eq_true rfl) ⟨Nat.zero_le _, Nat.zero_le _⟩ dL_glyph_181 ?_
          refine z_iload C dL_glyph_184 rfl ?_
          refine z_callVF C (0) (Cn := RX5) (T := TX5) (N := 12) (k_X5_glyphColumn vl D cI cM A ad Ez51 hX (nI (num q)) (nI (jj)) hI56 hR59) (cwV 2 C.2.2.2.2.1 gL_glyph_X5_glyphColumn rfl rfl rfl (by decide +kernel) ⟨(Nat.le_of_ble_eq_true rfl), (Nat.le_of_ble_eq_true rfl)⟩) rfl (by decide) rfl e0_57 rfl rfl (Nat.le_of_ble_eq_true rfl) ⟨(Nat.le_of_ble_eq_true rfl), (Nat.le_of_ble_eq_true rfl)⟩ dL_glyph_186 ?_
          refine z_top (nI bi) ((gr_op hn27 (by omega) h31).trans (by rw [if_pos hjw, h32])) ?_
          refine z_iload C dL_glyph_189 rfl ?_
          refine z_icmp_ne C 214 dL_glyph_191 (by decide) (fun h191 => (by exfalso; exact h191 rfl)) (fun h191 => ?_)
          refine z_aload_n C dL_glyph_194 rfl ?_
          refine z_iload_n C dL_glyph_195 rfl ?_
          refine z_callSF C (k_L_number vl D cI cM A ad Ez51 hX (c := q) hq8) (va_cwS 1 C.2.2.2.2.1 gL_glyph_L_number rfl rfl rfl (by decide +kernel) ⟨Nat.le_of_ble_eq_true rfl, Nat.le_of_ble_eq_true rfl⟩) rfl rfl (Nat.le_of_ble_eq_true rfl) ⟨Nat.zero_le _, Nat.zero_le _⟩ dL_glyph_196 ?_
          refine z_iload C dL_glyph_199 rfl ?_
          refine z_iconst C (nI (0)) dL_glyph_201 (by decide) ?_
          refine z_callVI C (0) (Cn := RX5) (T := TX5) (N := 12) (k_X5_setGlyphColumn vl D cI cM A ad Ez51 hX (nI (num q)) (nI (w)) (nI (0)) hI56 hR59) (cwV 3 C.2.2.2.2.1 gL_glyph_X5_setGlyphColumn rfl rfl rfl (by decide +kernel) ⟨(Nat.le_of_ble_eq_true rfl), (Nat.le_of_ble_eq_true rfl)⟩) rfl (by decide) rfl e0_57 rfl rfl (Nat.le_of_ble_eq_true rfl) ⟨(Nat.le_of_ble_eq_true rfl), (Nat.le_of_ble_eq_true rfl)⟩ dL_glyph_202 (fun r62 Ez63 hp64 => ?_)
          obtain ⟨hr65, hRr66, hf67⟩ := hp64
          have hop72 : o_setGlyphColumn M3 (nI (num q)) (nI (w)) (nI (0)) = (-11, M3) := gc_no hn27 (by decide) h31 hw6
          have hr70 : r62 = -11 := by rw [hop72] at hr65; exact hr65
          have hR71 : RelX cI cM ad (M3) Ez63 := by rw [hop72] at hRr66; exact hRr66
          have hI68 : Inv (M3) := by have q := i_setGlyphColumn hI56 (nI (num q)) (nI (w)) (nI (0)); rw [hop72] at q; exact q
          have e0_69 := RelX_0 hR71
          refine z_top (-11) hr70 ?_
          have f73 : Ez63 (30) = aI cI 63 (va_up (va_up g2 (q) (w)) ((9 + (6 * q)) + jj) (bi)) := (hf67 (30) (by omega)).trans f61
          refine z_bipush C (-11) dL_glyph_205 (by decide) ?_
          refine z_icmp_ne C 214 dL_glyph_207 (by decide) (fun h207 => (by exfalso; exact h207 rfl)) (fun h207 => ?_)
          refine z_iconst C (nI (1)) dL_glyph_210 (by decide) ?_
          refine z_goto C 215 dL_glyph_211 (by decide) ?_
          exact hend _ _ _ _ dL_glyph_215 (rfl)
      · refine z_aload_n C dL_glyph_31 rfl ?_
        refine z_bipush C (nI (9)) dL_glyph_32 (by decide) ?_
        refine z_bipush C (nI (6)) dL_glyph_34 (by decide) ?_
        refine z_iload_n C dL_glyph_36 rfl ?_
        refine z_imulN C  dL_glyph_37 ?_
        refine z_iaddN C  dL_glyph_38 ?_
        refine z_iload C dL_glyph_39 rfl ?_
        refine z_iaddN C  dL_glyph_41 ?_
        refine z_iconst C (nI (0)) dL_glyph_42 (by decide) ?_
        refine z_iastG C (30) hX (by first | decide | omega) rfl q30 (by omega) (by decide) dL_glyph_43 (fun Ez75 hE74 => ?_)
        have f77 : Ez75 (30) = aI cI 63 (va_up g2 ((9 + (6 * q)) + j) (0)) := va_up_eq hE74
        have g78 : ∀ k : Nat, (k < 30) → Ez75 k = E k := fun k hk => va_up_of hE74 (by omega) (qf k hk)
        refine z_iincN (j := 1) C [(0, .ref (ad 0)), (1, .int (nI (y))), (2, .ref (ad 30)), (3, .int (nI (q))), (4, .int (nI (w))), (5, .int (nI (g (q)))), (6, .int (nI (j + 1)))] dL_glyph_44 rfl (by decide) ⟨rfl, rfl, rfl, rfl, rfl, rfl, rfl, rfl, rfl, rfl, rfl, rfl, rfl, rfl, trivial⟩ ?_
        refine z_goto C 24 dL_glyph_47 (by decide) ?_
        refine z_lv [(0, .ref (ad 0)), (1, .int (nI (y))), (2, .ref (ad 30)), (3, .int (nI (q))), (4, .int (nI (w))), (5, .int (nI (g (q)))), (6, .int (nI (j + 1)))] ⟨rfl, rfl, rfl, rfl, rfl, rfl, rfl, rfl, rfl, rfl, rfl, rfl, rfl, rfl, trivial⟩ ?_
        have c2 : ∀ z, z < 6 → M 2 (num q * 6 + z) = (va_up g2 ((9 + (6 * q)) + j) (0)) (9 + 6 * q + z) := fun z hzz => by
          by_cases e : z = j
          · subst e
            rw [va_up_self]
            exact hz z hzz (by omega)
          · rw [va_up_ne _ _ (by omega)]
            exact b2 z hzz
        have c3 : (va_up g2 ((9 + (6 * q)) + j) (0)) q = g q := by rw [va_up_ne _ _ (by omega)]; exact b3
        exact ih24 (j + 1) Ez75 _ (by omega) c2 c3 f77 (fun k hk => g78 k hk) (by omega)
  refine z_lv [(0, .ref (ad 0)), (1, .int (nI (y))), (2, .ref (ad 30)), (3, .int (nI (q))), (4, .int (nI (w))), (5, .int (nI (g (q)))), (6, .int (nI (g (q))))] ⟨rfl, rfl, rfl, rfl, rfl, rfl, rfl, rfl, rfl, rfl, rfl, rfl, rfl, rfl, trivial⟩ ?_
  exact loop24 (7) (g q) E g ⟨Nat.le_refl _, by omega⟩ hgj rfl e30 (fun _ _ => rfl) (by omega)

