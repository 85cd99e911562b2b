theorem sm_st (M : St) (x r k : Nat) (h : pw (pxM M r x) = k) : nI (sm (pcM M) x + sm (fun q => pw (pxM M q x)) r + k) = nI (sm (pcM M) x + sm (fun q => pw (pxM M q x)) (r + 1)) := by rw [sm, h, Nat.add_assoc]
theorem sm_out (M : St) (x : Nat) : sm (pcM M) x + sm (fun q => pw (pxM M q x)) 8 = sm (pcM M) (x + 1) := rfl
set_option maxHeartbeats 4000000 in
set_option maxRecDepth 100000 in
theorem k_L_sound (vl : Launch) (D : va_G) (cI cM : ClassId) (A : Nat → Prop) (ad : Nat → Nat) (E : Nat → va_E) (hX : XD A 32 ad) {M : St} {W d B : Nat} (hI : Inv M) (hR : RelX cI cM ad M E) (hW : M 0 0 = W) (hB : M 0 3 = B) (hd : d < 2 ^ 31) : MF vl yL_sound wsL_sound { frames := 7, cells := 0, slots := 0, locals := 155 } D cI cM A 32 ad E [.ref (ad 0), .int (nI (W)), .int (nI (d)), .int (nI (B))] (nI 1) := by
  refine mf_of cL_sound 9 (.boolean) RL (by decide) rfl rfl (Nat.le_of_ble_eq_true rfl) (rfl) ?_
  intro vp ve vs vm va vb vt vc Q C hend
  refine z_lv [(0, .ref (ad 0)), (1, .int (nI (W))), (2, .int (nI (d))), (3, .int (nI (B)))] ⟨rfl, rfl, rfl, rfl, rfl, rfl, rfl, rfl, trivial⟩ ?_
  have e0 := RelX_0 hR
  have hbn := bnd hI
  have hB9 := hI.1.2.2.2.1
  have hLM := hI.1.LM_le
  have hl := ld_le hI (M 0 4)
  have hl2 := ld_le hI (hv (ldM M) (LM M))
  have hpk := ld_pk hI
  have ho := hI.2
  have ho4 := hI.1.2.2.2.2.1
  refine z_iconst C (nI (0)) dL_sound_0 (by decide) ?_
  refine z_istore C [(0, .ref (ad 0)), (1, .int (nI (W))), (2, .int (nI (d))), (3, .int (nI (B))), (4, .int (nI (0)))] dL_sound_1 (by decide) ⟨rfl, rfl, rfl, rfl, rfl, rfl, rfl, rfl, rfl, rfl, trivial⟩ ?_
  refine z_iconst C (nI (1)) dL_sound_3 (by decide) ?_
  refine z_istore C [(0, .ref (ad 0)), (1, .int (nI (W))), (2, .int (nI (d))), (3, .int (nI (B))), (4, .int (nI (0))), (5, .int (nI (1)))] dL_sound_4 (by decide) ⟨rfl, rfl, rfl, rfl, rfl, rfl, rfl, rfl, rfl, rfl, rfl, rfl, trivial⟩ ?_
  refine z_iconst C (nI (0)) dL_sound_6 (by decide) ?_
  refine z_istore C [(0, .ref (ad 0)), (1, .int (nI (W))), (2, .int (nI (d))), (3, .int (nI (B))), (4, .int (nI (0))), (5, .int (nI (1))), (6, .int (nI (0)))] dL_sound_7 (by decide) ⟨rfl, rfl, rfl, rfl, rfl, rfl, rfl, rfl, rfl, rfl, rfl, rfl, rfl, rfl, trivial⟩ ?_
  have loop9 : ∀ (fuel : Nat) (x : Nat), (hx : x ≤ W) → W - x < fuel → Z vp vl ve { frames := 7, cells := 0, slots := 0, locals := 155 } vs vm va vb vt vc 9 D A 32 ad E [(0, .ref (ad 0)), (1, .int (nI (W))), (2, .int (nI (d))), (3, .int (nI (B))), (4, .int (nI (sm (pcM M) x))), (5, .int (nI (1))), (6, .int (nI (x)))] 0 0 Q 9 [] := by
    intro fuel
    induction fuel with
    | zero => intro x hx hlt; exact absurd hlt (Nat.not_lt_zero _)
    | succ fuel ih =>
      intro x hx hlt
      have ih9 := ih
      refine z_iload C dL_sound_9 rfl ?_
      refine z_iload_n C dL_sound_11 rfl ?_
      refine z_icmp_geN C 100 (by omega) (by omega) dL_sound_12 (by decide) (fun h12 => ?_) (fun h12 => ?_)
      · have hxe : x = W := by omega
        have hs : sm (pcM M) x = ldM M (M 0 4) := by rw [hxe, ← hW]; exact px_sum hI
        refine z_aload_n C dL_sound_100 rfl ?_
        refine z_callVF C (0) (Cn := RX5) (T := TX5) (N := 12) (k_X5_load vl D cI cM A ad E hX  hI hR) (cwV 0 C.2.2.2.2.1 gL_sound_X5_load rfl rfl rfl (by decide +kernel) ⟨(Nat.le_of_ble_eq_true rfl), (Nat.le_of_ble_eq_true rfl)⟩) rfl (by decide) rfl e0 rfl rfl (Nat.le_of_ble_eq_true rfl) ⟨(Nat.le_of_ble_eq_true rfl), (Nat.le_of_ble_eq_true rfl)⟩ dL_sound_101 ?_
        refine z_top (nI (ldM M (M 0 4))) (rfl) ?_
        refine z_istore C [(0, .ref (ad 0)), (1, .int (nI (W))), (2, .int (nI (d))), (3, .int (nI (B))), (4, .int (nI (sm (pcM M) x))), (5, .int (nI (1))), (6, .int (nI (ldM M (M 0 4))))] dL_sound_104 (by decide) ⟨rfl, rfl, rfl, rfl, rfl, rfl, rfl, rfl, rfl, rfl, rfl, rfl, rfl, rfl, trivial⟩ ?_
        refine z_aload_n C dL_sound_106 rfl ?_
        refine z_callVF C (0) (Cn := RX5) (T := TX5) (N := 12) (k_X5_stripLength vl D cI cM A ad E hX  hI hR) (cwV 0 C.2.2.2.2.1 gL_sound_X5_stripLength rfl rfl rfl (by decide +kernel) ⟨(Nat.le_of_ble_eq_true rfl), (Nat.le_of_ble_eq_true rfl)⟩) rfl (by decide) rfl e0 rfl rfl (Nat.le_of_ble_eq_true rfl) ⟨(Nat.le_of_ble_eq_true rfl), (Nat.le_of_ble_eq_true rfl)⟩ dL_sound_107 ?_
        refine z_istore C [(0, .ref (ad 0)), (1, .int (nI (W))), (2, .int (nI (d))), (3, .int (nI (B))), (4, .int (nI (sm (pcM M) x))), (5, .int (nI (1))), (6, .int (nI (ldM M (M 0 4)))), (7, .int (nI (LM M)))] dL_sound_110 (by decide) ⟨rfl, rfl, rfl, rfl, rfl, rfl, rfl, rfl, rfl, rfl, rfl, rfl, rfl, rfl, rfl, rfl, trivial⟩ ?_
        refine z_aload_n C dL_sound_112 rfl ?_
        refine z_callVF C (0) (Cn := RX5) (T := TX5) (N := 12) (k_X5_brightness vl D cI cM A ad E hX  hI hR) (cwV 0 C.2.2.2.2.1 gL_sound_X5_brightness rfl rfl rfl (by decide +kernel) ⟨(Nat.le_of_ble_eq_true rfl), (Nat.le_of_ble_eq_true rfl)⟩) rfl (by decide) rfl e0 rfl rfl (Nat.le_of_ble_eq_true rfl) ⟨(Nat.le_of_ble_eq_true rfl), (Nat.le_of_ble_eq_true rfl)⟩ dL_sound_113 ?_
        refine z_top (nI (brM M)) (br_op M) ?_
        refine z_istore C [(0, .ref (ad 0)), (1, .int (nI (W))), (2, .int (nI (d))), (3, .int (nI (B))), (4, .int (nI (sm (pcM M) x))), (5, .int (nI (1))), (6, .int (nI (ldM M (M 0 4)))), (7, .int (nI (LM M))), (8, .int (nI (brM M)))] dL_sound_116 (by decide) ⟨rfl, rfl, rfl, rfl, rfl, rfl, rfl, rfl, rfl, rfl, rfl, rfl, rfl, rfl, rfl, rfl, rfl, rfl, trivial⟩ ?_
        by_cases hlB : ldM M (M 0 4) ≤ B
        · have hbr := br_1 (M := M) (by omega)
          refine z_iload C dL_sound_118 rfl ?_
          refine z_if_eqN C 246 (by omega) dL_sound_120 (by decide) (fun h120 => (by exfalso; omega)) (fun h120 => ?_)
          refine z_iload C dL_sound_123 rfl ?_
          refine z_iload C dL_sound_125 rfl ?_
          refine z_icmp_neN C 246 (by omega) (by omega) dL_sound_127 (by decide) (fun h127 => (by exfalso; omega)) (fun h127 => ?_)
          refine z_iload C dL_sound_130 rfl ?_
          refine z_aload_n C dL_sound_132 rfl ?_
          refine z_callVF C (0) (Cn := RX5) (T := TX5) (N := 12) (k_X5_peakLoad vl D cI cM A ad E hX  hI hR) (cwV 0 C.2.2.2.2.1 gL_sound_X5_peakLoad rfl rfl rfl (by decide +kernel) ⟨(Nat.le_of_ble_eq_true rfl), (Nat.le_of_ble_eq_true rfl)⟩) rfl (by decide) rfl e0 rfl rfl (Nat.le_of_ble_eq_true rfl) ⟨(Nat.le_of_ble_eq_true rfl), (Nat.le_of_ble_eq_true rfl)⟩ dL_sound_133 ?_
          refine z_top (nI (ldM M (hv (ldM M) (LM M)))) (rfl) ?_
          refine z_icmp_gtN C 246 (by omega) (by omega) dL_sound_136 (by decide) (fun h136 => (by exfalso; omega)) (fun h136 => ?_)
          refine z_iload C dL_sound_139 rfl ?_
          refine z_bipush C (nI (15)) dL_sound_141 (by decide) ?_
          refine z_icmp_eqN C 172 (by omega) (by omega) dL_sound_143 (by decide) (fun h143 => ?_) (fun h143 => (by exfalso; omega))
          refine z_iload C dL_sound_172 rfl ?_
          refine z_iload_n C dL_sound_174 rfl ?_
          refine z_icmp_leN C 182 (by omega) (by omega) dL_sound_175 (by decide) (fun h175 => ?_) (fun h175 => (by exfalso; omega))
          refine z_iconst C (nI (0)) dL_sound_182 (by decide) ?_
          refine z_iload C dL_sound_183 rfl ?_
          refine z_bipush C (nI (15)) dL_sound_185 (by decide) ?_
          refine z_icmp_geN C 194 (by omega) (by omega) dL_sound_187 (by decide) (fun h187 => ?_) (fun h187 => (by exfalso; omega))
          refine z_iconst C (nI (0)) dL_sound_194 (by decide) ?_
          refine z_icmp_neN C 246 (by omega) (by omega) dL_sound_195 (by decide) (fun h195 => (by exfalso; omega)) (fun h195 => ?_)
          refine z_aload_n C dL_sound_198 rfl ?_
          refine z_callVF C (0) (Cn := RX5) (T := TX5) (N := 12) (k_X5_offset vl D cI cM A ad E hX  hI hR) (cwV 0 C.2.2.2.2.1 gL_sound_X5_offset rfl rfl rfl (by decide +kernel) ⟨(Nat.le_of_ble_eq_true rfl), (Nat.le_of_ble_eq_true rfl)⟩) rfl (by decide) rfl e0 rfl rfl (Nat.le_of_ble_eq_true rfl) ⟨(Nat.le_of_ble_eq_true rfl), (Nat.le_of_ble_eq_true rfl)⟩ dL_sound_199 ?_
          refine z_if_ltN C 246 (by omega) dL_sound_202 (by decide) ?_
          refine z_iload C dL_sound_205 rfl ?_
          refine z_if_neN C 220 (by omega) dL_sound_207 (by decide) (fun h207 => ?_) (fun h207 => ?_)
          · refine z_aload_n C dL_sound_220 rfl ?_
            refine z_callVF C (0) (Cn := RX5) (T := TX5) (N := 12) (k_X5_offset vl D cI cM A ad E hX  hI hR) (cwV 0 C.2.2.2.2.1 gL_sound_X5_offset rfl rfl rfl (by decide +kernel) ⟨(Nat.le_of_ble_eq_true rfl), (Nat.le_of_ble_eq_true rfl)⟩) rfl (by decide) rfl e0 rfl rfl (Nat.le_of_ble_eq_true rfl) ⟨(Nat.le_of_ble_eq_true rfl), (Nat.le_of_ble_eq_true rfl)⟩ dL_sound_221 ?_
            refine z_iload C dL_sound_224 rfl ?_
            refine z_icmp_geN C 246 (by omega) (by omega) dL_sound_226 (by decide) (fun h226 => (by exfalso; omega)) (fun h226 => ?_)
            refine z_aload_n C dL_sound_229 rfl ?_
            refine z_callVF C (0) (Cn := RX5) (T := TX5) (N := 12) (k_X5_peakOffset vl D cI cM A ad E hX  hI hR) (cwV 0 C.2.2.2.2.1 gL_sound_X5_peakOffset rfl rfl rfl (by decide +kernel) ⟨(Nat.le_of_ble_eq_true rfl), (Nat.le_of_ble_eq_true rfl)⟩) rfl (by decide) rfl e0 rfl rfl (Nat.le_of_ble_eq_true rfl) ⟨(Nat.le_of_ble_eq_true rfl), (Nat.le_of_ble_eq_true rfl)⟩ dL_sound_230 ?_
            refine z_top (nI (hv (ldM M) (LM M))) (if_neg h207) ?_
            have hvi := hv_in (ldM M) (LM M) (by omega)
            refine z_iload C dL_sound_233 rfl ?_
            refine z_icmp_geN C 246 (by omega) (by omega) dL_sound_235 (by decide) (fun h235 => (by exfalso; omega)) (fun h235 => ?_)
            refine z_iload_n C dL_sound_238 rfl ?_
            refine z_if_ltN C 246 (by omega) dL_sound_239 (by decide) ?_
            refine z_iconst C (nI (1)) dL_sound_242 (by decide) ?_
            refine z_goto C 247 dL_sound_243 (by decide) ?_
            exact hend _ _ _ dL_sound_247 (rfl)
          · refine z_aload_n C dL_sound_210 rfl ?_
            refine z_callVF C (0) (Cn := RX5) (T := TX5) (N := 12) (k_X5_offset vl D cI cM A ad E hX  hI hR) (cwV 0 C.2.2.2.2.1 gL_sound_X5_offset rfl rfl rfl (by decide +kernel) ⟨(Nat.le_of_ble_eq_true rfl), (Nat.le_of_ble_eq_true rfl)⟩) rfl (by decide) rfl e0 rfl rfl (Nat.le_of_ble_eq_true rfl) ⟨(Nat.le_of_ble_eq_true rfl), (Nat.le_of_ble_eq_true rfl)⟩ dL_sound_211 ?_
            refine z_if_neN C 246 (by omega) dL_sound_214 (by decide) (fun h214 => (by exfalso; omega)) (fun h214 => ?_)
            refine z_goto C 238 dL_sound_217 (by decide) ?_
            refine z_iload_n C dL_sound_238 rfl ?_
            refine z_if_ltN C 246 (by omega) dL_sound_239 (by decide) ?_
            refine z_iconst C (nI (1)) dL_sound_242 (by decide) ?_
            refine z_goto C 247 dL_sound_243 (by decide) ?_
            exact hend _ _ _ dL_sound_247 (rfl)
        · have hbr := br_2 (M := M) (by omega)
          rw [hB] at hbr
          have hq : (brM M + 1) * ldM M (M 0 4) = brM M * ldM M (M 0 4) + ldM M (M 0 4) := Nat.succ_mul _ _
          refine z_iload C dL_sound_118 rfl ?_
          refine z_if_eqN C 246 (by omega) dL_sound_120 (by decide) (fun h120 => (by exfalso; omega)) (fun h120 => ?_)
          refine z_iload C dL_sound_123 rfl ?_
          refine z_iload C dL_sound_125 rfl ?_
          refine z_icmp_neN C 246 (by omega) (by omega) dL_sound_127 (by decide) (fun h127 => (by exfalso; omega)) (fun h127 => ?_)
          refine z_iload C dL_sound_130 rfl ?_
          refine z_aload_n C dL_sound_132 rfl ?_
          refine z_callVF C (0) (Cn := RX5) (T := TX5) (N := 12) (k_X5_peakLoad vl D cI cM A ad E hX  hI hR) (cwV 0 C.2.2.2.2.1 gL_sound_X5_peakLoad rfl rfl rfl (by decide +kernel) ⟨(Nat.le_of_ble_eq_true rfl), (Nat.le_of_ble_eq_true rfl)⟩) rfl (by decide) rfl e0 rfl rfl (Nat.le_of_ble_eq_true rfl) ⟨(Nat.le_of_ble_eq_true rfl), (Nat.le_of_ble_eq_true rfl)⟩ dL_sound_133 ?_
          refine z_top (nI (ldM M (hv (ldM M) (LM M)))) (rfl) ?_
          refine z_icmp_gtN C 246 (by omega) (by omega) dL_sound_136 (by decide) (fun h136 => (by exfalso; omega)) (fun h136 => ?_)
          refine z_iload C dL_sound_139 rfl ?_
          refine z_bipush C (nI (15)) dL_sound_141 (by decide) ?_
          refine z_icmp_eqN C 172 (by omega) (by omega) dL_sound_143 (by decide) (fun h143 => (by exfalso; omega)) (fun h143 => ?_)
          refine z_iload C dL_sound_146 rfl ?_
          refine z_iload C dL_sound_148 rfl ?_
          refine z_imulN C  dL_sound_150 ?_
          refine z_bipush C (nI (15)) dL_sound_151 (by decide) ?_
          refine z_iload_n C dL_sound_153 rfl ?_
          refine z_imulN C  dL_sound_154 ?_
          refine z_icmp_gtN C 246 (by omega) (by omega) dL_sound_155 (by decide) (fun h155 => (by exfalso; omega)) (fun h155 => ?_)
          refine z_iload C dL_sound_158 rfl ?_
          refine z_iconst C (nI (1)) dL_sound_160 (by decide) ?_
          refine z_iaddN C  dL_sound_161 ?_
          refine z_iload C dL_sound_162 rfl ?_
          refine z_imulN C  dL_sound_164 ?_
          refine z_bipush C (nI (15)) dL_sound_165 (by decide) ?_
          refine z_iload_n C dL_sound_167 rfl ?_
          refine z_imulN C  dL_sound_168 ?_
          refine z_icmp_leN C 246 (by omega) (by omega) dL_sound_169 (by decide) (fun h169 => (by exfalso; omega)) (fun h169 => ?_)
          refine z_iload C dL_sound_172 rfl ?_
          refine z_iload_n C dL_sound_174 rfl ?_
          refine z_icmp_leN C 182 (by omega) (by omega) dL_sound_175 (by decide) (fun h175 => (by exfalso; omega)) (fun h175 => ?_)
          refine z_iconst C (nI (1)) dL_sound_178 (by decide) ?_
          refine z_goto C 183 dL_sound_179 (by decide) ?_
          refine z_iload C dL_sound_183 rfl ?_
          refine z_bipush C (nI (15)) dL_sound_185 (by decide) ?_
          refine z_icmp_geN C 194 (by omega) (by omega) dL_sound_187 (by decide) (fun h187 => (by exfalso; omega)) (fun h187 => ?_)
          refine z_iconst C (nI (1)) dL_sound_190 (by decide) ?_
          refine z_goto C 195 dL_sound_191 (by decide) ?_
          refine z_icmp_neN C 246 (by omega) (by omega) dL_sound_195 (by decide) (fun h195 => (by exfalso; omega)) (fun h195 => ?_)
          refine z_aload_n C dL_sound_198 rfl ?_
          refine z_callVF C (0) (Cn := RX5) (T := TX5) (N := 12) (k_X5_offset vl D cI cM A ad E hX  hI hR) (cwV 0 C.2.2.2.2.1 gL_sound_X5_offset rfl rfl rfl (by decide +kernel) ⟨(Nat.le_of_ble_eq_true rfl), (Nat.le_of_ble_eq_true rfl)⟩) rfl (by decide) rfl e0 rfl rfl (Nat.le_of_ble_eq_true rfl) ⟨(Nat.le_of_ble_eq_true rfl), (Nat.le_of_ble_eq_true rfl)⟩ dL_sound_199 ?_
          refine z_if_ltN C 246 (by omega) dL_sound_202 (by decide) ?_
          refine z_iload C dL_sound_205 rfl ?_
          refine z_if_neN C 220 (by omega) dL_sound_207 (by decide) (fun h207 => ?_) (fun h207 => ?_)
          · refine z_aload_n C dL_sound_220 rfl ?_
            refine z_callVF C (0) (Cn := RX5) (T := TX5) (N := 12) (k_X5_offset vl D cI cM A ad E hX  hI hR) (cwV 0 C.2.2.2.2.1 gL_sound_X5_offset rfl rfl rfl (by decide +kernel) ⟨(Nat.le_of_ble_eq_true rfl), (Nat.le_of_ble_eq_true rfl)⟩) rfl (by decide) rfl e0 rfl rfl (Nat.le_of_ble_eq_true rfl) ⟨(Nat.le_of_ble_eq_true rfl), (Nat.le_of_ble_eq_true rfl)⟩ dL_sound_221 ?_
            refine z_iload C dL_sound_224 rfl ?_
            refine z_icmp_geN C 246 (by omega) (by omega) dL_sound_226 (by decide) (fun h226 => (by exfalso; omega)) (fun h226 => ?_)
            refine z_aload_n C dL_sound_229 rfl ?_
            refine z_callVF C (0) (Cn := RX5) (T := TX5) (N := 12) (k_X5_peakOffset vl D cI cM A ad E hX  hI hR) (cwV 0 C.2.2.2.2.1 gL_sound_X5_peakOffset rfl rfl rfl (by decide +kernel) ⟨(Nat.le_of_ble_eq_true rfl), (Nat.le_of_ble_eq_true rfl)⟩) rfl (by decide) rfl e0 rfl rfl (Nat.le_of_ble_eq_true rfl) ⟨(Nat.le_of_ble_eq_true rfl), (Nat.le_of_ble_eq_true rfl)⟩ dL_sound_230 ?_
            refine z_top (nI (hv (ldM M) (LM M))) (if_neg h207) ?_
            have hvi := hv_in (ldM M) (LM M) (by omega)
            refine z_iload C dL_sound_233 rfl ?_
            refine z_icmp_geN C 246 (by omega) (by omega) dL_sound_235 (by decide) (fun h235 => (by exfalso; omega)) (fun h235 => ?_)
            refine z_iload_n C dL_sound_238 rfl ?_
            refine z_if_ltN C 246 (by omega) dL_sound_239 (by decide) ?_
            refine z_iconst C (nI (1)) dL_sound_242 (by decide) ?_
            refine z_goto C 247 dL_sound_243 (by decide) ?_
            exact hend _ _ _ dL_sound_247 (rfl)
          · refine z_aload_n C dL_sound_210 rfl ?_
            refine z_callVF C (0) (Cn := RX5) (T := TX5) (N := 12) (k_X5_offset vl D cI cM A ad E hX  hI hR) (cwV 0 C.2.2.2.2.1 gL_sound_X5_offset rfl rfl rfl (by decide +kernel) ⟨(Nat.le_of_ble_eq_true rfl), (Nat.le_of_ble_eq_true rfl)⟩) rfl (by decide) rfl e0 rfl rfl (Nat.le_of_ble_eq_true rfl) ⟨(Nat.le_of_ble_eq_true rfl), (Nat.le_of_ble_eq_true rfl)⟩ dL_sound_211 ?_
            refine z_if_neN C 246 (by omega) dL_sound_214 (by decide) (fun h214 => (by exfalso; omega)) (fun h214 => ?_)
            refine z_goto C 238 dL_sound_217 (by decide) ?_
            refine z_iload_n C dL_sound_238 rfl ?_
            refine z_if_ltN C 246 (by omega) dL_sound_239 (by decide) ?_
            refine z_iconst C (nI (1)) dL_sound_242 (by decide) ?_
            refine z_goto C 247 dL_sound_243 (by decide) ?_
            exact hend _ _ _ dL_sound_247 (rfl)
      · refine z_iload C dL_sound_15 rfl ?_
        refine z_if_eqN C 100 (by omega) dL_sound_17 (by decide) (fun h17 => (by exfalso; omega)) (fun h17 => ?_)
        refine z_iconst C (nI (0)) dL_sound_20 (by decide) ?_
        refine z_istore C [(0, .ref (ad 0)), (1, .int (nI (W))), (2, .int (nI (d))), (3, .int (nI (B))), (4, .int (nI (sm (pcM M) x))), (5, .int (nI (1))), (6, .int (nI (x))), (7, .int (nI (0)))] dL_sound_21 (by decide) ⟨rfl, rfl, rfl, rfl, rfl, rfl, rfl, rfl, rfl, rfl, rfl, rfl, rfl, rfl, rfl, rfl, trivial⟩ ?_
        have loop23 : ∀ (fuel : Nat) (r : Nat), (hr : r ≤ 8) → 8 - r < fuel → Z vp vl ve { frames := 7, cells := 0, slots := 0, locals := 155 } vs vm va vb vt vc 9 D A 32 ad E [(0, .ref (ad 0)), (1, .int (nI (W))), (2, .int (nI (d))), (3, .int (nI (B))), (4, .int (nI (sm (pcM M) x + sm (fun q => pw (pxM M q x)) r))), (5, .int (nI (1))), (6, .int (nI (x))), (7, .int (nI (r)))] 0 0 Q 23 [] := by
          intro fuel
          induction fuel with
          | zero => intro r hr hlt; exact absurd hlt (Nat.not_lt_zero _)
          | succ fuel ih =>
            intro r hr hlt
            have ih23 := ih
            refine z_iload C dL_sound_23 rfl ?_
            refine z_bipush C (nI (8)) dL_sound_25 (by decide) ?_
            refine z_icmp_geN C 94 (by omega) (by omega) dL_sound_27 (by decide) (fun h27 => ?_) (fun h27 => ?_)
            · have hr8 : r = 8 := by omega
              refine z_iincN (j := 1) C [(0, .ref (ad 0)), (1, .int (nI (W))), (2, .int (nI (d))), (3, .int (nI (B))), (4, .int (nI (sm (pcM M) x + sm (fun q => pw (pxM M q x)) r))), (5, .int (nI (1))), (6, .int (nI (x + 1))), (7, .int (nI (r)))] dL_sound_94 rfl (by decide) ⟨rfl, rfl, rfl, rfl, rfl, rfl, rfl, rfl, rfl, rfl, rfl, rfl, rfl, rfl, rfl, rfl, trivial⟩ ?_
              refine z_goto C 9 dL_sound_97 (by decide) ?_
              refine z_lv [(0, .ref (ad 0)), (1, .int (nI (W))), (2, .int (nI (d))), (3, .int (nI (B))), (4, .int (nI (sm (pcM M) x + sm (fun q => pw (pxM M q x)) r))), (5, .int (nI (1))), (6, .int (nI (x + 1)))] ⟨rfl, rfl, rfl, rfl, rfl, rfl, rfl, rfl, rfl, rfl, rfl, rfl, rfl, rfl, trivial⟩ ?_
              have q := ih9 (x + 1) (by omega) (by omega)
              rw [← sm_out, ← hr8] at q
              exact q
            · have hpx := px_le hI r x
              refine z_iload C dL_sound_30 rfl ?_
              refine z_if_eqN C 94 (by omega) dL_sound_32 (by decide) (fun h32 => (by exfalso; omega)) (fun h32 => ?_)
              refine z_aload_n C dL_sound_35 rfl ?_
              refine z_iload C dL_sound_36 rfl ?_
              refine z_iload C dL_sound_38 rfl ?_
              refine z_callVF C (0) (Cn := RX5) (T := TX5) (N := 12) (k_X5_pixel vl D cI cM A ad E hX (nI (r)) (nI (x)) hI hR) (cwV 2 C.2.2.2.2.1 gL_sound_X5_pixel rfl rfl rfl (by decide +kernel) ⟨(Nat.le_of_ble_eq_true rfl), (Nat.le_of_ble_eq_true rfl)⟩) rfl (by decide) rfl e0 rfl rfl (Nat.le_of_ble_eq_true rfl) ⟨(Nat.le_of_ble_eq_true rfl), (Nat.le_of_ble_eq_true rfl)⟩ dL_sound_40 ?_
              refine z_top (nI (pxM M r x)) (px_op hI (by omega) (by omega)) ?_
              refine z_istore C [(0, .ref (ad 0)), (1, .int (nI (W))), (2, .int (nI (d))), (3, .int (nI (B))), (4, .int (nI (sm (pcM M) x + sm (fun q => pw (pxM M q x)) r))), (5, .int (nI (1))), (6, .int (nI (x))), (7, .int (nI (r))), (8, .int (nI (pxM M r x)))] dL_sound_43 (by decide) ⟨rfl, rfl, rfl, rfl, rfl, rfl, rfl, rfl, rfl, rfl, rfl, rfl, rfl, rfl, rfl, rfl, rfl, rfl, trivial⟩ ?_
              refine z_iload C dL_sound_45 rfl ?_
              refine z_if_ltN C 60 (by omega) dL_sound_47 (by decide) ?_
              refine z_iload C dL_sound_50 rfl ?_
              refine z_iconst C (nI (4)) dL_sound_52 (by decide) ?_
              refine z_icmp_geN C 60 (by omega) (by omega) dL_sound_53 (by decide) (fun h53 => (by exfalso; omega)) (fun h53 => ?_)
              refine z_iconst C (nI (1)) dL_sound_56 (by decide) ?_
              refine z_goto C 61 dL_sound_57 (by decide) ?_
              refine z_istore C [(0, .ref (ad 0)), (1, .int (nI (W))), (2, .int (nI (d))), (3, .int (nI (B))), (4, .int (nI (sm (pcM M) x + sm (fun q => pw (pxM M q x)) r))), (5, .int (nI (1))), (6, .int (nI (x))), (7, .int (nI (r))), (8, .int (nI (pxM M r x)))] dL_sound_61 (by decide) ⟨rfl, rfl, rfl, rfl, rfl, rfl, rfl, rfl, rfl, rfl, rfl, rfl, rfl, rfl, rfl, rfl, rfl, rfl, trivial⟩ ?_
              refine z_iload C dL_sound_63 rfl ?_
              refine z_iload C dL_sound_65 rfl ?_
              refine z_iconst C (nI (3)) dL_sound_67 (by decide) ?_
              refine z_icmp_neN C 75 (by omega) (by omega) dL_sound_68 (by decide) (fun h68 => ?_) (fun h68 => ?_)
              · refine z_iload C dL_sound_75 rfl ?_
                refine z_if_leN C 84 (by omega) dL_sound_77 (by decide) (fun h77 => ?_) (fun h77 => ?_)
                · refine z_iconst C (nI (0)) dL_sound_84 (by decide) ?_
                  refine z_iaddN C  dL_sound_85 ?_
                  refine z_top (nI (sm (pcM M) x + sm (fun q => pw (pxM M q x)) (r + 1))) (sm_st M x r 0 (by rw [h77]; rfl)) ?_
                  refine z_istore C [(0, .ref (ad 0)), (1, .int (nI (W))), (2, .int (nI (d))), (3, .int (nI (B))), (4, .int (nI (sm (pcM M) x + sm (fun q => pw (pxM M q x)) (r + 1)))), (5, .int (nI (1))), (6, .int (nI (x))), (7, .int (nI (r))), (8, .int (nI (pxM M r x)))] dL_sound_86 (by decide) ⟨rfl, rfl, rfl, rfl, rfl, rfl, rfl, rfl, rfl, rfl, rfl, rfl, rfl, rfl, rfl, rfl, rfl, rfl, trivial⟩ ?_
                  refine z_iincN (j := 1) C [(0, .ref (ad 0)), (1, .int (nI (W))), (2, .int (nI (d))), (3, .int (nI (B))), (4, .int (nI (sm (pcM M) x + sm (fun q => pw (pxM M q x)) (r + 1)))), (5, .int (nI (1))), (6, .int (nI (x))), (7, .int (nI (r + 1))), (8, .int (nI (pxM M r x)))] dL_sound_88 rfl (by decide) ⟨rfl, rfl, rfl, rfl, rfl, rfl, rfl, rfl, rfl, rfl, rfl, rfl, rfl, rfl, rfl, rfl, rfl, rfl, trivial⟩ ?_
                  refine z_goto C 23 dL_sound_91 (by decide) ?_
                  refine z_lv [(0, .ref (ad 0)), (1, .int (nI (W))), (2, .int (nI (d))), (3, .int (nI (B))), (4, .int (nI (sm (pcM M) x + sm (fun q => pw (pxM M q x)) (r + 1)))), (5, .int (nI (1))), (6, .int (nI (x))), (7, .int (nI (r + 1)))] ⟨rfl, rfl, rfl, rfl, rfl, rfl, rfl, rfl, rfl, rfl, rfl, rfl, rfl, rfl, rfl, rfl, trivial⟩ ?_
                  exact ih23 (r + 1) (by omega) (by omega)
                · refine z_iconst C (nI (1)) dL_sound_80 (by decide) ?_
                  refine z_goto C 85 dL_sound_81 (by decide) ?_
                  refine z_iaddN C  dL_sound_85 ?_
                  refine z_top (nI (sm (pcM M) x + sm (fun q => pw (pxM M q x)) (r + 1))) (sm_st M x r 1 (pw_1 h68 h77)) ?_
                  refine z_istore C [(0, .ref (ad 0)), (1, .int (nI (W))), (2, .int (nI (d))), (3, .int (nI (B))), (4, .int (nI (sm (pcM M) x + sm (fun q => pw (pxM M q x)) (r + 1)))), (5, .int (nI (1))), (6, .int (nI (x))), (7, .int (nI (r))), (8, .int (nI (pxM M r x)))] dL_sound_86 (by decide) ⟨rfl, rfl, rfl, rfl, rfl, rfl, rfl, rfl, rfl, rfl, rfl, rfl, rfl, rfl, rfl, rfl, rfl, rfl, trivial⟩ ?_
                  refine z_iincN (j := 1) C [(0, .ref (ad 0)), (1, .int (nI (W))), (2, .int (nI (d))), (3, .int (nI (B))), (4, .int (nI (sm (pcM M) x + sm (fun q => pw (pxM M q x)) (r + 1)))), (5, .int (nI (1))), (6, .int (nI (x))), (7, .int (nI (r + 1))), (8, .int (nI (pxM M r x)))] dL_sound_88 rfl (by decide) ⟨rfl, rfl, rfl, rfl, rfl, rfl, rfl, rfl, rfl, rfl, rfl, rfl, rfl, rfl, rfl, rfl, rfl, rfl, trivial⟩ ?_
                  refine z_goto C 23 dL_sound_91 (by decide) ?_
                  refine z_lv [(0, .ref (ad 0)), (1, .int (nI (W))), (2, .int (nI (d))), (3, .int (nI (B))), (4, .int (nI (sm (pcM M) x + sm (fun q => pw (pxM M q x)) (r + 1)))), (5, .int (nI (1))), (6, .int (nI (x))), (7, .int (nI (r + 1)))] ⟨rfl, rfl, rfl, rfl, rfl, rfl, rfl, rfl, rfl, rfl, rfl, rfl, rfl, rfl, rfl, rfl, trivial⟩ ?_
                  exact ih23 (r + 1) (by omega) (by omega)
              · refine z_iconst C (nI (2)) dL_sound_71 (by decide) ?_
                refine z_goto C 85 dL_sound_72 (by decide) ?_
                refine z_iaddN C  dL_sound_85 ?_
                refine z_top (nI (sm (pcM M) x + sm (fun q => pw (pxM M q x)) (r + 1))) (sm_st M x r 2 (by rw [h68]; rfl)) ?_
                refine z_istore C [(0, .ref (ad 0)), (1, .int (nI (W))), (2, .int (nI (d))), (3, .int (nI (B))), (4, .int (nI (sm (pcM M) x + sm (fun q => pw (pxM M q x)) (r + 1)))), (5, .int (nI (1))), (6, .int (nI (x))), (7, .int (nI (r))), (8, .int (nI (pxM M r x)))] dL_sound_86 (by decide) ⟨rfl, rfl, rfl, rfl, rfl, rfl, rfl, rfl, rfl, rfl, rfl, rfl, rfl, rfl, rfl, rfl, rfl, rfl, trivial⟩ ?_
                refine z_iincN (j := 1) C [(0, .ref (ad 0)), (1, .int (nI (W))), (2, .int (nI (d))), (3, .int (nI (B))), (4, .int (nI (sm (pcM M) x + sm (fun q => pw (pxM M q x)) (r + 1)))), (5, .int (nI (1))), (6, .int (nI (x))), (7, .int (nI (r + 1))), (8, .int (nI (pxM M r x)))] dL_sound_88 rfl (by decide) ⟨rfl, rfl, rfl, rfl, rfl, rfl, rfl, rfl, rfl, rfl, rfl, rfl, rfl, rfl, rfl, rfl, rfl, rfl, trivial⟩ ?_
                refine z_goto C 23 dL_sound_91 (by decide) ?_
                refine z_lv [(0, .ref (ad 0)), (1, .int (nI (W))), (2, .int (nI (d))), (3, .int (nI (B))), (4, .int (nI (sm (pcM M) x + sm (fun q => pw (pxM M q x)) (r + 1)))), (5, .int (nI (1))), (6, .int (nI (x))), (7, .int (nI (r + 1)))] ⟨rfl, rfl, rfl, rfl, rfl, rfl, rfl, rfl, rfl, rfl, rfl, rfl, rfl, rfl, rfl, rfl, trivial⟩ ?_
                exact ih23 (r + 1) (by omega) (by omega)
        refine z_lv [(0, .ref (ad 0)), (1, .int (nI (W))), (2, .int (nI (d))), (3, .int (nI (B))), (4, .int (nI (sm (pcM M) x))), (5, .int (nI (1))), (6, .int (nI (x))), (7, .int (nI (0)))] ⟨rfl, rfl, rfl, rfl, rfl, rfl, rfl, rfl, rfl, rfl, rfl, rfl, rfl, rfl, rfl, rfl, trivial⟩ ?_
        exact loop23 (9) 0 (Nat.zero_le _) (by omega)
  refine z_lv [(0, .ref (ad 0)), (1, .int (nI (W))), (2, .int (nI (d))), (3, .int (nI (B))), (4, .int (nI (0))), (5, .int (nI (1))), (6, .int (nI (0)))] ⟨rfl, rfl, rfl, rfl, rfl, rfl, rfl, rfl, rfl, rfl, rfl, rfl, rfl, rfl, trivial⟩ ?_
  exact loop9 (W + 1) 0 (Nat.zero_le _) (by omega)

