theorem wi_le {M : St} {j : Nat} (hj : j < M 0 7) : wiM M j ≤ LM M := by
  have h : stM M (j + 1) ≤ LM M := sL_mono (M 1) (M 0 1) (M 5) (ltr (M 7)) hj
  rw [st_s] at h
  omega
set_option maxHeartbeats 4000000 in
set_option maxRecDepth 100000 in
theorem lgA {p : Program} {vl : Launch} {e : Env} {s : State} {m : MethodId} {args : Array Value} {below : List Frame} {meth : Method} {c : Code} {D : va_G} {cI cM : ClassId} {A : Nat → Prop} {ad : Nat → Nat} {Q : State → Prop} {b L : Nat} {xs : Nat → Int32} (C : ZC p s m args meth c code 21 RL wsL_law D cI cM) (hX : XD A 32 ad) (hXs : va_X b L xs s s.heap) (hbl : b < s.heap.size) (hbA : ¬ A b) (hL : L ≤ 260) {M1 M : St} {E : Nat → va_E} {g mm : Nat → Nat} {S B : Nat} (hS : 1 ≤ S ∧ S ≤ 9) (hB9 : 1 ≤ B ∧ B ≤ 120) (hLB : LB S B M1) (hKS : KS M1 M) (hI : Inv M) (hR : RelX cI cM ad M E) (e30 : E (30) = aI cI 63 g) (e31 : E (31) = aI cI 12 mm) {k : Nat} (hk : k < 5) (next : ∀ (y : Nat) (M2 : St) (E2 : Nat → va_E), y < 2 ^ 31 → KS M1 M2 → Inv M2 → RelX cI cM ad M2 E2 → E2 (30) = aI cI 63 g → E2 (31) = aI cI 12 mm → Z p vl e room_1 s m args below meth c 21 D A 32 ad E2 [(0, .ref (b)), (1, .ref (ad 0)), (2, .ref (ad 30)), (3, .ref (ad 31)), (4, .int (nI (1))), (5, .int (nI (S))), (6, .int (nI (B))), (7, .int (nI (k))), (8, .int (nI (y)))] 32 1547 Q 422 []) : Z p vl e room_1 s m args below meth c 21 D A 32 ad E [(0, .ref (b)), (1, .ref (ad 0)), (2, .ref (ad 30)), (3, .ref (ad 31)), (4, .int (nI (1))), (5, .int (nI (S))), (6, .int (nI (B))), (7, .int (nI (k)))] 32 1547 Q 153 [] := by
  have e0 := RelX_0 hR
  refine z_iload C dL_law_153 rfl ?_
  refine z_if_eqN C 688 (by omega) dL_law_155 (by decide) (fun h155 => (by exfalso; omega)) (fun h155 => ?_)
  refine z_aload_n C dL_law_158 rfl ?_
  refine z_iconst C (nI (3)) dL_law_159 (by decide) ?_
  refine z_iload C dL_law_160 rfl ?_
  refine z_iaddN C  dL_law_162 ?_
  refine z_callSIX C (k_L_cell vl D cI cM A ad E hX (b := b) (L := L) (xs := xs) (k := 3 + k) hbA (by omega) (by omega)) hXs hbl hbA (va_cwS 2 C.2.2.2.2.1 gL_law_L_cell rfl rfl rfl (by decide +kernel) ⟨(Nat.le_of_ble_eq_true rfl), (Nat.le_of_ble_eq_true rfl)⟩) rfl rfl (Nat.le_of_ble_eq_true rfl) ⟨(Nat.le_of_ble_eq_true rfl), (Nat.le_of_ble_eq_true rfl)⟩ dL_law_163 (fun r1 Ez2 hp3 => ?_)
  obtain ⟨hp3e, y, hy, hp3b⟩ := hp3
  rw [hp3e]
  refine z_top (nI y) hp3b ?_
  refine z_istore C [(0, .ref (b)), (1, .ref (ad 0)), (2, .ref (ad 30)), (3, .ref (ad 31)), (4, .int (nI (1))), (5, .int (nI (S))), (6, .int (nI (B))), (7, .int (nI (k))), (8, .int (nI (y)))] dL_law_166 (by decide) ⟨rfl, rfl, rfl, rfl, rfl, rfl, rfl, rfl, rfl, rfl, rfl, rfl, rfl, rfl, rfl, rfl, rfl, rfl, trivial⟩ ?_
  refine z_aload_n C dL_law_168 rfl ?_
  refine z_iload C dL_law_169 rfl ?_
  refine z_bipush C (nI (70)) dL_law_171 (by decide) ?_
  refine z_iremN C (by omega) (by omega) (by omega) dL_law_173 ?_
  refine z_callVI C (0) (Cn := RX5) (T := TX5) (N := 12) (k_X5_tick vl D cI cM A ad E hX (nI (y % 70)) hI hR) (cwV 1 C.2.2.2.2.1 gL_law_X5_tick rfl rfl rfl (by decide +kernel) ⟨(Nat.le_of_ble_eq_true rfl), (Nat.le_of_ble_eq_true rfl)⟩) rfl (by decide) rfl e0 rfl rfl (Nat.le_of_ble_eq_true rfl) ⟨(Nat.le_of_ble_eq_true rfl), (Nat.le_of_ble_eq_true rfl)⟩ dL_law_174 (fun r4 Ez5 hp6 => ?_)
  obtain ⟨hr7, hRr8, hf9⟩ := hp6
  have hop14 : o_tick M (nI (y % 70)) = (nI (tickM M (y % 70) 0 4), tickM M (y % 70)) := tick_op (by omega)
  have hr12 : r4 = nI (tickM M (y % 70) 0 4) := by rw [hop14] at hr7; exact hr7
  have hR13 : RelX cI cM ad (tickM M (y % 70)) Ez5 := by rw [hop14] at hRr8; exact hRr8
  have hI10 : Inv (tickM M (y % 70)) := by have q := i_tick hI (nI (y % 70)); rw [hop14] at q; exact q
  obtain ⟨M2, hM2⟩ : ∃ z_, z_ = (tickM M (y % 70)) := ⟨_, rfl⟩
  rw [← hM2] at hR13 hI10 hop14
  have e0_11 := RelX_0 hR13
  refine z_top (nI (tickM M (y % 70) 0 4)) hr12 ?_
  have f15 : Ez5 (30) = aI cI 63 g := (hf9 (30) (by omega)).trans e30
  have f16 : Ez5 (31) = aI cI 12 mm := (hf9 (31) (by omega)).trans e31
  refine z_top (nI (M2 0 4)) (by rw [hM2]) ?_
  have hI2 := hI10
  have hKS2 : KS M1 M2 := by rw [hM2]; exact hKS.tick _
  obtain ⟨hW2, hG2, hSp2, hBu2, hT2, hN2, hSh2, hDz2⟩ := hLB.ls hKS2
  have hst2 := st_lt hI2 (j := 0) (by omega)
  have hLm2 := hI2.1.LM_le
  have hld2 := ld_le hI2 (M2 0 4)
  have hO2 : M2 0 4 ≤ 552 := hI2.1.2.2.2.2.1
  have hpe : LM M2 * M2 0 2 ≤ 552 * 9 := Nat.mul_le_mul hLm2 (by omega)
  refine z_istore C [(0, .ref (b)), (1, .ref (ad 0)), (2, .ref (ad 30)), (3, .ref (ad 31)), (4, .int (nI (1))), (5, .int (nI (S))), (6, .int (nI (B))), (7, .int (nI (k))), (8, .int (nI (y))), (9, .int (nI (M2 0 4)))] dL_law_177 (by decide) ⟨rfl, rfl, rfl, rfl, rfl, rfl, rfl, rfl, rfl, rfl, rfl, rfl, rfl, rfl, rfl, rfl, rfl, rfl, rfl, rfl, trivial⟩ ?_
  refine z_aload_n C dL_law_179 rfl ?_
  refine z_callVF C (0) (Cn := RX5) (T := TX5) (N := 12) (k_X5_load vl D cI cM A ad Ez5 hX  hI10 hR13) (cwV 0 C.2.2.2.2.1 gL_law_X5_load rfl rfl rfl (by decide +kernel) ⟨(Nat.le_of_ble_eq_true rfl), (Nat.le_of_ble_eq_true rfl)⟩) rfl (by decide) rfl e0_11 rfl rfl (Nat.le_of_ble_eq_true rfl) ⟨(Nat.le_of_ble_eq_true rfl), (Nat.le_of_ble_eq_true rfl)⟩ dL_law_180 ?_
  refine z_top (nI (ldM M2 (M2 0 4))) (rfl) ?_
  refine z_istore C [(0, .ref (b)), (1, .ref (ad 0)), (2, .ref (ad 30)), (3, .ref (ad 31)), (4, .int (nI (1))), (5, .int (nI (S))), (6, .int (nI (B))), (7, .int (nI (k))), (8, .int (nI (y))), (9, .int (nI (M2 0 4))), (10, .int (nI (ldM M2 (M2 0 4))))] dL_law_183 (by decide) ⟨rfl, rfl, rfl, rfl, rfl, rfl, rfl, rfl, rfl, rfl, rfl, rfl, rfl, rfl, rfl, rfl, rfl, rfl, rfl, rfl, rfl, rfl, trivial⟩ ?_
  refine z_aload_n C dL_law_185 rfl ?_
  refine z_aload_n C dL_law_186 rfl ?_
  refine z_callVF C (0) (Cn := RX5) (T := TX5) (N := 12) (k_X5_period vl D cI cM A ad Ez5 hX  hI10 hR13) (cwV 0 C.2.2.2.2.1 gL_law_X5_period rfl rfl rfl (by decide +kernel) ⟨(Nat.le_of_ble_eq_true rfl), (Nat.le_of_ble_eq_true rfl)⟩) rfl (by decide) rfl e0_11 rfl rfl (Nat.le_of_ble_eq_true rfl) ⟨(Nat.le_of_ble_eq_true rfl), (Nat.le_of_ble_eq_true rfl)⟩ dL_law_187 ?_
  refine z_callVI C (0) (Cn := RX5) (T := TX5) (N := 12) (k_X5_tick vl D cI cM A ad Ez5 hX (nI (LM M2 * M2 0 2)) hI10 hR13) (cwV 1 C.2.2.2.2.1 gL_law_X5_tick rfl rfl rfl (by decide +kernel) ⟨(Nat.le_of_ble_eq_true rfl), (Nat.le_of_ble_eq_true rfl)⟩) rfl (by decide) rfl e0_11 rfl rfl (Nat.le_of_ble_eq_true rfl) ⟨(Nat.le_of_ble_eq_true rfl), (Nat.le_of_ble_eq_true rfl)⟩ dL_law_190 (fun r17 Ez18 hp19 => ?_)
  obtain ⟨hr20, hRr21, hf22⟩ := hp19
  have hop27 : o_tick M2 (nI (LM M2 * M2 0 2)) = (nI (M2 0 4), M2) := (tick_op (by omega)).trans (by rw [tick_per hI2 (by omega)])
  have hr25 : r17 = nI (M2 0 4) := by rw [hop27] at hr20; exact hr20
  have hR26 : RelX cI cM ad (M2) Ez18 := by rw [hop27] at hRr21; exact hRr21
  have hI23 : Inv (M2) := by have q := i_tick hI10 (nI (LM M2 * M2 0 2)); rw [hop27] at q; exact q
  have e0_24 := RelX_0 hR26
  refine z_top (nI (M2 0 4)) hr25 ?_
  have f28 : Ez18 (30) = aI cI 63 g := (hf22 (30) (by omega)).trans f15
  have f29 : Ez18 (31) = aI cI 12 mm := (hf22 (31) (by omega)).trans f16
  refine z_iload C dL_law_193 rfl ?_
  refine z_icmp_neN C 223 (by omega) (by omega) dL_law_195 (by decide) (fun h195 => (by exfalso; exact h195 rfl)) (fun h195 => ?_)
  refine z_aload_n C dL_law_198 rfl ?_
  refine z_callVF C (0) (Cn := RX5) (T := TX5) (N := 12) (k_X5_load vl D cI cM A ad Ez18 hX  hI23 hR26) (cwV 0 C.2.2.2.2.1 gL_law_X5_load rfl rfl rfl (by decide +kernel) ⟨(Nat.le_of_ble_eq_true rfl), (Nat.le_of_ble_eq_true rfl)⟩) rfl (by decide) rfl e0_24 rfl rfl (Nat.le_of_ble_eq_true rfl) ⟨(Nat.le_of_ble_eq_true rfl), (Nat.le_of_ble_eq_true rfl)⟩ dL_law_199 ?_
  refine z_top (nI (ldM M2 (M2 0 4))) (rfl) ?_
  refine z_iload C dL_law_202 rfl ?_
  refine z_icmp_neN C 223 (by omega) (by omega) dL_law_204 (by decide) (fun h204 => (by exfalso; exact h204 rfl)) (fun h204 => ?_)
  refine z_aload_n C dL_law_207 rfl ?_
  refine z_bipush C (nI (16)) dL_law_208 (by decide) ?_
  refine z_iconst C (nI (0)) dL_law_210 (by decide) ?_
  refine z_iload C dL_law_211 rfl ?_
  refine z_callSF C (k_L_sound vl D cI cM A ad Ez18 hX (W := 16) (d := 0) (B := B) hI23 hR26 hW2 hBu2 (by decide)) (va_cwS 4 C.2.2.2.2.1 gL_law_L_sound rfl rfl rfl (by decide +kernel) ⟨Nat.le_of_ble_eq_true rfl, Nat.le_of_ble_eq_true rfl⟩) rfl rfl (Nat.le_of_ble_eq_true rfl) ⟨(Nat.le_of_ble_eq_true rfl), (Nat.le_of_ble_eq_true rfl)⟩ dL_law_213 ?_
  refine z_if_eqN C 223 (by omega) dL_law_216 (by decide) (fun h216 => (by exfalso; omega)) (fun h216 => ?_)
  refine z_iconst C (nI (1)) dL_law_219 (by decide) ?_
  refine z_goto C 224 dL_law_220 (by decide) ?_
  refine z_istore C [(0, .ref (b)), (1, .ref (ad 0)), (2, .ref (ad 30)), (3, .ref (ad 31)), (4, .int (nI (1))), (5, .int (nI (S))), (6, .int (nI (B))), (7, .int (nI (k))), (8, .int (nI (y))), (9, .int (nI (M2 0 4))), (10, .int (nI (ldM M2 (M2 0 4))))] dL_law_224 (by decide) ⟨rfl, rfl, rfl, rfl, rfl, rfl, rfl, rfl, rfl, rfl, rfl, rfl, rfl, rfl, rfl, rfl, rfl, rfl, rfl, rfl, rfl, rfl, trivial⟩ ?_
  refine z_iload C dL_law_226 rfl ?_
  refine z_bipush C (nI (7)) dL_law_228 (by decide) ?_
  refine z_ishr C dL_law_230  ?_
  refine z_top (nI (y / 128)) (sh_r hy 7 (by decide)) ?_
  refine z_iconst C (nI (2)) dL_law_231 (by decide) ?_
  refine z_iremN C (by omega) (by omega) (by omega) dL_law_232 ?_
  obtain ⟨o, ho⟩ : ∃ z_, z_ = y / 128 % 2 := ⟨_, rfl⟩
  refine z_top (nI o) (by rw [ho]) ?_
  have ho2 : o < 2 := by omega
  have hwl : wiM M2 o ≤ 552 := Nat.le_trans (wi_le (by omega)) hLm2
  refine z_istore C [(0, .ref (b)), (1, .ref (ad 0)), (2, .ref (ad 30)), (3, .ref (ad 31)), (4, .int (nI (1))), (5, .int (nI (S))), (6, .int (nI (B))), (7, .int (nI (k))), (8, .int (nI (y))), (9, .int (nI (M2 0 4))), (10, .int (nI (ldM M2 (M2 0 4)))), (11, .int (nI (o)))] dL_law_233 (by decide) ⟨rfl, rfl, rfl, rfl, rfl, rfl, rfl, rfl, rfl, rfl, rfl, rfl, rfl, rfl, rfl, rfl, rfl, rfl, rfl, rfl, rfl, rfl, rfl, rfl, trivial⟩ ?_
  by_cases hw : wiM M2 o ≤ 16
  · refine z_iload C dL_law_235 rfl ?_
    refine z_if_eqN C 249 (by omega) dL_law_237 (by decide) (fun h237 => (by exfalso; omega)) (fun h237 => ?_)
    refine z_aload_n C dL_law_240 rfl ?_
    refine z_iload C dL_law_241 rfl ?_
    refine z_callVF C (0) (Cn := RX5) (T := TX5) (N := 12) (k_X5_ticksUntilWhole vl D cI cM A ad Ez18 hX (nI (o)) hI23 hR26) (cwV 1 C.2.2.2.2.1 gL_law_X5_ticksUntilWhole rfl rfl rfl (by decide +kernel) ⟨(Nat.le_of_ble_eq_true rfl), (Nat.le_of_ble_eq_true rfl)⟩) rfl (by decide) rfl e0_24 rfl rfl (Nat.le_of_ble_eq_true rfl) ⟨(Nat.le_of_ble_eq_true rfl), (Nat.le_of_ble_eq_true rfl)⟩ dL_law_243 ?_
    refine z_top (nI (tuM M2 o)) (tu_op hI2 (by omega) (by omega)) ?_
    refine z_goto C 250 dL_law_246 (by decide) ?_
    refine z_istore C [(0, .ref (b)), (1, .ref (ad 0)), (2, .ref (ad 30)), (3, .ref (ad 31)), (4, .int (nI (1))), (5, .int (nI (S))), (6, .int (nI (B))), (7, .int (nI (k))), (8, .int (nI (y))), (9, .int (nI (M2 0 4))), (10, .int (nI (ldM M2 (M2 0 4)))), (11, .int (nI (o))), (12, .int (nI (tuM M2 o)))] dL_law_250 (by decide) ⟨rfl, rfl, rfl, rfl, rfl, rfl, rfl, rfl, rfl, rfl, rfl, rfl, rfl, rfl, rfl, rfl, rfl, rfl, rfl, rfl, rfl, rfl, rfl, rfl, rfl, rfl, trivial⟩ ?_
    refine z_iload C dL_law_252 rfl ?_
    refine z_if_eqN C 266 (by omega) dL_law_254 (by decide) (fun h254 => (by exfalso; omega)) (fun h254 => ?_)
    refine z_aload_n C dL_law_257 rfl ?_
    refine z_iload C dL_law_258 rfl ?_
    refine z_callVF C (0) (Cn := RX5) (T := TX5) (N := 12) (k_X5_messageWidth vl D cI cM A ad Ez18 hX (nI (o)) hI23 hR26) (cwV 1 C.2.2.2.2.1 gL_law_X5_messageWidth rfl rfl rfl (by decide +kernel) ⟨(Nat.le_of_ble_eq_true rfl), (Nat.le_of_ble_eq_true rfl)⟩) rfl (by decide) rfl e0_24 rfl rfl (Nat.le_of_ble_eq_true rfl) ⟨(Nat.le_of_ble_eq_true rfl), (Nat.le_of_ble_eq_true rfl)⟩ dL_law_260 ?_
    refine z_top (nI (wiM M2 o)) (mw_op hI2 (by omega)) ?_
    refine z_goto C 267 dL_law_263 (by decide) ?_
    refine z_istore C [(0, .ref (b)), (1, .ref (ad 0)), (2, .ref (ad 30)), (3, .ref (ad 31)), (4, .int (nI (1))), (5, .int (nI (S))), (6, .int (nI (B))), (7, .int (nI (k))), (8, .int (nI (y))), (9, .int (nI (M2 0 4))), (10, .int (nI (ldM M2 (M2 0 4)))), (11, .int (nI (o))), (12, .int (nI (tuM M2 o))), (13, .int (nI (wiM M2 o)))] dL_law_267 (by decide) ⟨rfl, rfl, rfl, rfl, rfl, rfl, rfl, rfl, rfl, rfl, rfl, rfl, rfl, rfl, rfl, rfl, rfl, rfl, rfl, rfl, rfl, rfl, rfl, rfl, rfl, rfl, rfl, rfl, trivial⟩ ?_
    refine z_iload C dL_law_269 rfl ?_
    refine z_if_eqN C 283 (by omega) dL_law_271 (by decide) (fun h271 => (by exfalso; omega)) (fun h271 => ?_)
    refine z_aload_n C dL_law_274 rfl ?_
    refine z_iload C dL_law_275 rfl ?_
    refine z_callVF C (0) (Cn := RX5) (T := TX5) (N := 12) (k_X5_messageStart vl D cI cM A ad Ez18 hX (nI (o)) hI23 hR26) (cwV 1 C.2.2.2.2.1 gL_law_X5_messageStart rfl rfl rfl (by decide +kernel) ⟨(Nat.le_of_ble_eq_true rfl), (Nat.le_of_ble_eq_true rfl)⟩) rfl (by decide) rfl e0_24 rfl rfl (Nat.le_of_ble_eq_true rfl) ⟨(Nat.le_of_ble_eq_true rfl), (Nat.le_of_ble_eq_true rfl)⟩ dL_law_277 ?_
    refine z_top (nI (stM M2 o)) (ms_op hI2 (by omega)) ?_
    refine z_goto C 284 dL_law_280 (by decide) ?_
    refine z_istore C [(0, .ref (b)), (1, .ref (ad 0)), (2, .ref (ad 30)), (3, .ref (ad 31)), (4, .int (nI (1))), (5, .int (nI (S))), (6, .int (nI (B))), (7, .int (nI (k))), (8, .int (nI (y))), (9, .int (nI (M2 0 4))), (10, .int (nI (ldM M2 (M2 0 4)))), (11, .int (nI (o))), (12, .int (nI (tuM M2 o))), (13, .int (nI (wiM M2 o))), (14, .int (nI (stM M2 o)))] dL_law_284 (by decide) ⟨rfl, rfl, rfl, rfl, rfl, rfl, rfl, rfl, rfl, rfl, rfl, rfl, rfl, rfl, rfl, rfl, rfl, rfl, rfl, rfl, rfl, rfl, rfl, rfl, rfl, rfl, rfl, rfl, rfl, rfl, trivial⟩ ?_
    refine z_iload C dL_law_286 rfl ?_
    refine z_if_eqN C 403 (by omega) dL_law_288 (by decide) (fun h288 => (by exfalso; omega)) (fun h288 => ?_)
    refine z_iload C dL_law_291 rfl ?_
    refine z_bipush C (nI (16)) dL_law_293 (by decide) ?_
    refine z_icmp_gtN C 403 (by omega) (by omega) dL_law_295 (by decide) (fun h295 => (by exfalso; omega)) (fun h295 => ?_)
    have htl := tu_le hI2 (j := o) (by omega)
    refine z_iload C dL_law_298 rfl ?_
    refine z_if_ltN C 325 (by omega) dL_law_300 (by decide) ?_
    refine z_aload_n C dL_law_303 rfl ?_
    refine z_iload C dL_law_304 rfl ?_
    refine z_callVI C (0) (Cn := RX5) (T := TX5) (N := 12) (k_X5_tick vl D cI cM A ad Ez18 hX (nI (tuM M2 o)) hI23 hR26) (cwV 1 C.2.2.2.2.1 gL_law_X5_tick rfl rfl rfl (by decide +kernel) ⟨(Nat.le_of_ble_eq_true rfl), (Nat.le_of_ble_eq_true rfl)⟩) rfl (by decide) rfl e0_24 rfl rfl (Nat.le_of_ble_eq_true rfl) ⟨(Nat.le_of_ble_eq_true rfl), (Nat.le_of_ble_eq_true rfl)⟩ dL_law_306 (fun r30 Ez31 hp32 => ?_)
    obtain ⟨hr33, hRr34, hf35⟩ := hp32
    have hop40 : o_tick M2 (nI (tuM M2 o)) = (nI (tickM M2 (tuM M2 o) 0 4), tickM M2 (tuM M2 o)) := tick_op (by omega)
    have hr38 : r30 = nI (tickM M2 (tuM M2 o) 0 4) := by rw [hop40] at hr33; exact hr33
    have hR39 : RelX cI cM ad (tickM M2 (tuM M2 o)) Ez31 := by rw [hop40] at hRr34; exact hRr34
    have hI36 : Inv (tickM M2 (tuM M2 o)) := by have q := i_tick hI23 (nI (tuM M2 o)); rw [hop40] at q; exact q
    obtain ⟨M3, hM3⟩ : ∃ z_, z_ = (tickM M2 (tuM M2 o)) := ⟨_, rfl⟩
    rw [← hM3] at hR39 hI36 hop40
    have e0_37 := RelX_0 hR39
    refine z_top (nI (tickM M2 (tuM M2 o) 0 4)) hr38 ?_
    have f41 : Ez31 (30) = aI cI 63 g := (hf35 (30) (by omega)).trans f28
    have f42 : Ez31 (31) = aI cI 12 mm := (hf35 (31) (by omega)).trans f29
    refine z_top (nI (M3 0 4)) (by rw [hM3]) ?_
    have hKS23 : KS M2 M3 := by rw [hM3]; exact (KS.rfl' M2).tick _
    have hKS3 := hKS2.trans hKS23
    obtain ⟨hW3, hG3, hSp3, hBu3, hT3, hN3, hSh3, hDz3⟩ := hLB.ls hKS3
    have hp3 : plc M3 o ≤ M2 0 0 - wiM M2 o := by rw [hM3]; exact tu_0 hI2 (by omega)
    have hw3 := hKS23.mW o
    have hs3 := hKS23.sL o
    have hO3 : M3 0 4 ≤ 552 := hI36.1.2.2.2.2.1
    have hst3 := st_lt hI36 (j := o) (by omega)
    have hol3 : M3 0 4 < LM M3 := by rcases hI36.2 with z | z <;> omega
    have hpb3 : (M3 0 4 + plc M3 o) % LM M3 = stM M2 o := by rw [← hs3]; exact plc_back hst3 hol3
    have hLm3 := hI36.1.LM_le
    have htu3 : tuM M3 o = 0 := by unfold tuM; rw [if_pos (by omega)]
    refine z_if_ltN C 325 (by omega) dL_law_309 (by decide) ?_
    refine z_aload_n C dL_law_312 rfl ?_
    refine z_iload C dL_law_313 rfl ?_
    refine z_callVF C (0) (Cn := RX5) (T := TX5) (N := 12) (k_X5_ticksUntilWhole vl D cI cM A ad Ez31 hX (nI (o)) hI36 hR39) (cwV 1 C.2.2.2.2.1 gL_law_X5_ticksUntilWhole rfl rfl rfl (by decide +kernel) ⟨(Nat.le_of_ble_eq_true rfl), (Nat.le_of_ble_eq_true rfl)⟩) rfl (by decide) rfl e0_37 rfl rfl (Nat.le_of_ble_eq_true rfl) ⟨(Nat.le_of_ble_eq_true rfl), (Nat.le_of_ble_eq_true rfl)⟩ dL_law_315 ?_
    refine z_top (nI (0)) ((tu_op hI36 (by omega) (by omega)).trans (by rw [htu3])) ?_
    refine z_if_neN C 325 (by omega) dL_law_318 (by decide) (fun h318 => (by exfalso; omega)) (fun h318 => ?_)
    refine z_iconst C (nI (1)) dL_law_321 (by decide) ?_
    refine z_goto C 326 dL_law_322 (by decide) ?_
    refine z_istore C [(0, .ref (b)), (1, .ref (ad 0)), (2, .ref (ad 30)), (3, .ref (ad 31)), (4, .int (nI (1))), (5, .int (nI (S))), (6, .int (nI (B))), (7, .int (nI (k))), (8, .int (nI (y))), (9, .int (nI (M2 0 4))), (10, .int (nI (ldM M2 (M2 0 4)))), (11, .int (nI (o))), (12, .int (nI (tuM M2 o))), (13, .int (nI (wiM M2 o))), (14, .int (nI (stM M2 o)))] dL_law_326 (by decide) ⟨rfl, rfl, rfl, rfl, rfl, rfl, rfl, rfl, rfl, rfl, rfl, rfl, rfl, rfl, rfl, rfl, rfl, rfl, rfl, rfl, rfl, rfl, rfl, rfl, rfl, rfl, rfl, rfl, rfl, rfl, trivial⟩ ?_
    refine z_aload_n C dL_law_328 rfl ?_
    refine z_callVF C (0) (Cn := RX5) (T := TX5) (N := 12) (k_X5_stripLength vl D cI cM A ad Ez31 hX  hI36 hR39) (cwV 0 C.2.2.2.2.1 gL_law_X5_stripLength rfl rfl rfl (by decide +kernel) ⟨(Nat.le_of_ble_eq_true rfl), (Nat.le_of_ble_eq_true rfl)⟩) rfl (by decide) rfl e0_37 rfl rfl (Nat.le_of_ble_eq_true rfl) ⟨(Nat.le_of_ble_eq_true rfl), (Nat.le_of_ble_eq_true rfl)⟩ dL_law_329 ?_
    refine z_istore C [(0, .ref (b)), (1, .ref (ad 0)), (2, .ref (ad 30)), (3, .ref (ad 31)), (4, .int (nI (1))), (5, .int (nI (S))), (6, .int (nI (B))), (7, .int (nI (k))), (8, .int (nI (y))), (9, .int (nI (M2 0 4))), (10, .int (nI (ldM M2 (M2 0 4)))), (11, .int (nI (o))), (12, .int (nI (tuM M2 o))), (13, .int (nI (wiM M2 o))), (14, .int (nI (stM M2 o))), (15, .int (nI (LM M3)))] dL_law_332 (by decide) ⟨rfl, rfl, rfl, rfl, rfl, rfl, rfl, rfl, rfl, rfl, rfl, rfl, rfl, rfl, rfl, rfl, rfl, rfl, rfl, rfl, rfl, rfl, rfl, rfl, rfl, rfl, rfl, rfl, rfl, rfl, rfl, rfl, trivial⟩ ?_
    refine z_iconst C (nI (0)) dL_law_334 (by decide) ?_
    refine z_istore C [(0, .ref (b)), (1, .ref (ad 0)), (2, .ref (ad 30)), (3, .ref (ad 31)), (4, .int (nI (1))), (5, .int (nI (S))), (6, .int (nI (B))), (7, .int (nI (k))), (8, .int (nI (y))), (9, .int (nI (M2 0 4))), (10, .int (nI (ldM M2 (M2 0 4)))), (11, .int (nI (o))), (12, .int (nI (tuM M2 o))), (13, .int (nI (wiM M2 o))), (14, .int (nI (stM M2 o))), (15, .int (nI (LM M3))), (16, .int (nI (0)))] dL_law_335 (by decide) ⟨rfl, rfl, rfl, rfl, rfl, rfl, rfl, rfl, rfl, rfl, rfl, rfl, rfl, rfl, rfl, rfl, rfl, rfl, rfl, rfl, rfl, rfl, rfl, rfl, rfl, rfl, rfl, rfl, rfl, rfl, rfl, rfl, rfl, rfl, trivial⟩ ?_
    refine z_iconst C (nI (0)) dL_law_337 (by decide) ?_
    refine z_istore C [(0, .ref (b)), (1, .ref (ad 0)), (2, .ref (ad 30)), (3, .ref (ad 31)), (4, .int (nI (1))), (5, .int (nI (S))), (6, .int (nI (B))), (7, .int (nI (k))), (8, .int (nI (y))), (9, .int (nI (M2 0 4))), (10, .int (nI (ldM M2 (M2 0 4)))), (11, .int (nI (o))), (12, .int (nI (tuM M2 o))), (13, .int (nI (wiM M2 o))), (14, .int (nI (stM M2 o))), (15, .int (nI (LM M3))), (16, .int (nI (0))), (17, .int (nI (0)))] dL_law_338 (by decide) ⟨rfl, rfl, rfl, rfl, rfl, rfl, rfl, rfl, rfl, rfl, rfl, rfl, rfl, rfl, rfl, rfl, rfl, rfl, rfl, rfl, rfl, rfl, rfl, rfl, rfl, rfl, rfl, rfl, rfl, rfl, rfl, rfl, rfl, rfl, rfl, rfl, trivial⟩ ?_
    have loop340 : ∀ (fuel : Nat) (x f : Nat), (hf : f ≤ 1) → (hfx : plc M3 o < x → f = 1) → (hx : x ≤ 17) → 17 - x < fuel → Z p vl e room_1 s m args below meth c 21 D A 32 ad Ez31 [(0, .ref (b)), (1, .ref (ad 0)), (2, .ref (ad 30)), (3, .ref (ad 31)), (4, .int (nI (1))), (5, .int (nI (S))), (6, .int (nI (B))), (7, .int (nI (k))), (8, .int (nI (y))), (13, .int (nI (wiM M2 o))), (14, .int (nI (stM M2 o))), (15, .int (nI (LM M3))), (16, .int (nI (f))), (17, .int (nI (x)))] 32 1547 Q 340 [] := by
      intro fuel
      induction fuel with
      | zero => intro x f hf hfx hx hlt; exact absurd hlt (Nat.not_lt_zero _)
      | succ fuel ih =>
        intro x f hf hfx hx hlt
        have ih340 := ih
        refine z_iload C dL_law_340 rfl ?_
        refine z_iload C dL_law_342 rfl ?_
        refine z_iaddN C  dL_law_344 ?_
        refine z_bipush C (nI (16)) dL_law_345 (by decide) ?_
        refine z_icmp_gtN C 383 (by omega) (by omega) dL_law_347 (by decide) (fun h347 => ?_) (fun h347 => ?_)
        · have hf1 : f = 1 := hfx (by omega)
          refine z_iload C dL_law_383 rfl ?_
          refine z_if_eqN C 397 (by omega) dL_law_385 (by decide) (fun h385 => (by exfalso; omega)) (fun h385 => ?_)
          refine z_iload C dL_law_388 rfl ?_
          refine z_if_eqN C 397 (by omega) dL_law_390 (by decide) (fun h390 => (by exfalso; omega)) (fun h390 => ?_)
          refine z_iconst C (nI (1)) dL_law_393 (by decide) ?_
          refine z_goto C 398 dL_law_394 (by decide) ?_
          refine z_istore C [(0, .ref (b)), (1, .ref (ad 0)), (2, .ref (ad 30)), (3, .ref (ad 31)), (4, .int (nI (1))), (5, .int (nI (S))), (6, .int (nI (B))), (7, .int (nI (k))), (8, .int (nI (y))), (13, .int (nI (wiM M2 o))), (14, .int (nI (stM M2 o))), (15, .int (nI (LM M3))), (16, .int (nI (f))), (17, .int (nI (x)))] dL_law_398 (by decide) ⟨rfl, rfl, rfl, rfl, rfl, rfl, rfl, rfl, rfl, rfl, rfl, rfl, rfl, rfl, rfl, rfl, rfl, rfl, rfl, rfl, rfl, rfl, rfl, rfl, rfl, rfl, rfl, rfl, trivial⟩ ?_
          refine z_goto C 422 dL_law_400 (by decide) ?_
          refine z_lv [(0, .ref (b)), (1, .ref (ad 0)), (2, .ref (ad 30)), (3, .ref (ad 31)), (4, .int (nI (1))), (5, .int (nI (S))), (6, .int (nI (B))), (7, .int (nI (k))), (8, .int (nI (y)))] ⟨rfl, rfl, rfl, rfl, rfl, rfl, rfl, rfl, rfl, rfl, rfl, rfl, rfl, rfl, rfl, rfl, rfl, rfl, trivial⟩ ?_
          exact next y M3 Ez31 hy hKS3 hI36 hR39 f41 f42
        · refine z_iload C dL_law_350 rfl ?_
          refine z_if_neN C 370 (by omega) dL_law_352 (by decide) (fun h352 => ?_) (fun h352 => ?_)
          · refine z_iconst C (nI (1)) dL_law_370 (by decide) ?_
            refine z_goto C 375 dL_law_371 (by decide) ?_
            refine z_istore C [(0, .ref (b)), (1, .ref (ad 0)), (2, .ref (ad 30)), (3, .ref (ad 31)), (4, .int (nI (1))), (5, .int (nI (S))), (6, .int (nI (B))), (7, .int (nI (k))), (8, .int (nI (y))), (13, .int (nI (wiM M2 o))), (14, .int (nI (stM M2 o))), (15, .int (nI (LM M3))), (16, .int (nI (1))), (17, .int (nI (x)))] dL_law_375 (by decide) ⟨rfl, rfl, rfl, rfl, rfl, rfl, rfl, rfl, rfl, rfl, rfl, rfl, rfl, rfl, rfl, rfl, rfl, rfl, rfl, rfl, rfl, rfl, rfl, rfl, rfl, rfl, rfl, rfl, trivial⟩ ?_
            refine z_iincN (j := 1) C [(0, .ref (b)), (1, .ref (ad 0)), (2, .ref (ad 30)), (3, .ref (ad 31)), (4, .int (nI (1))), (5, .int (nI (S))), (6, .int (nI (B))), (7, .int (nI (k))), (8, .int (nI (y))), (13, .int (nI (wiM M2 o))), (14, .int (nI (stM M2 o))), (15, .int (nI (LM M3))), (16, .int (nI (1))), (17, .int (nI (x + 1)))] dL_law_377 rfl (by decide) ⟨rfl, rfl, rfl, rfl, rfl, rfl, rfl, rfl, rfl, rfl, rfl, rfl, rfl, rfl, rfl, rfl, rfl, rfl, rfl, rfl, rfl, rfl, rfl, rfl, rfl, rfl, rfl, rfl, trivial⟩ ?_
            refine z_goto C 340 dL_law_380 (by decide) ?_
            refine z_lv [(0, .ref (b)), (1, .ref (ad 0)), (2, .ref (ad 30)), (3, .ref (ad 31)), (4, .int (nI (1))), (5, .int (nI (S))), (6, .int (nI (B))), (7, .int (nI (k))), (8, .int (nI (y))), (13, .int (nI (wiM M2 o))), (14, .int (nI (stM M2 o))), (15, .int (nI (LM M3))), (16, .int (nI (1))), (17, .int (nI (x + 1)))] ⟨rfl, rfl, rfl, rfl, rfl, rfl, rfl, rfl, rfl, rfl, rfl, rfl, rfl, rfl, rfl, rfl, rfl, rfl, rfl, rfl, rfl, rfl, rfl, rfl, rfl, rfl, rfl, rfl, trivial⟩ ?_
            exact ih340 (x + 1) 1 (Nat.le_refl _) (fun _ => rfl) (by omega) (by omega)
          · refine z_aload_n C dL_law_355 rfl ?_
            refine z_callVF C (0) (Cn := RX5) (T := TX5) (N := 12) (k_X5_offset vl D cI cM A ad Ez31 hX  hI36 hR39) (cwV 0 C.2.2.2.2.1 gL_law_X5_offset rfl rfl rfl (by decide +kernel) ⟨(Nat.le_of_ble_eq_true rfl), (Nat.le_of_ble_eq_true rfl)⟩) rfl (by decide) rfl e0_37 rfl rfl (Nat.le_of_ble_eq_true rfl) ⟨(Nat.le_of_ble_eq_true rfl), (Nat.le_of_ble_eq_true rfl)⟩ dL_law_356 ?_
            refine z_iload C dL_law_359 rfl ?_
            refine z_iaddN C  dL_law_361 ?_
            refine z_iload C dL_law_362 rfl ?_
            refine z_iremN C (by omega) (by omega) (by omega) dL_law_364 ?_
            refine z_iload C dL_law_365 rfl ?_
            refine z_icmp_neN C 374 (by have := Nat.mod_lt (M3 0 4 + x) (show 0 < LM M3 by omega); omega) (by omega) dL_law_367 (by decide) (fun h367 => ?_) (fun h367 => ?_)
            · refine z_iconst C (nI (0)) dL_law_374 (by decide) ?_
              refine z_istore C [(0, .ref (b)), (1, .ref (ad 0)), (2, .ref (ad 30)), (3, .ref (ad 31)), (4, .int (nI (1))), (5, .int (nI (S))), (6, .int (nI (B))), (7, .int (nI (k))), (8, .int (nI (y))), (13, .int (nI (wiM M2 o))), (14, .int (nI (stM M2 o))), (15, .int (nI (LM M3))), (16, .int (nI (0))), (17, .int (nI (x)))] dL_law_375 (by decide) ⟨rfl, rfl, rfl, rfl, rfl, rfl, rfl, rfl, rfl, rfl, rfl, rfl, rfl, rfl, rfl, rfl, rfl, rfl, rfl, rfl, rfl, rfl, rfl, rfl, rfl, rfl, rfl, rfl, trivial⟩ ?_
              refine z_iincN (j := 1) C [(0, .ref (b)), (1, .ref (ad 0)), (2, .ref (ad 30)), (3, .ref (ad 31)), (4, .int (nI (1))), (5, .int (nI (S))), (6, .int (nI (B))), (7, .int (nI (k))), (8, .int (nI (y))), (13, .int (nI (wiM M2 o))), (14, .int (nI (stM M2 o))), (15, .int (nI (LM M3))), (16, .int (nI (0))), (17, .int (nI (x + 1)))] dL_law_377 rfl (by decide) ⟨rfl, rfl, rfl, rfl, rfl, rfl, rfl, rfl, rfl, rfl, rfl, rfl, rfl, rfl, rfl, rfl, rfl, rfl, rfl, rfl, rfl, rfl, rfl, rfl, rfl, rfl, rfl, rfl, trivial⟩ ?_
              refine z_goto C 340 dL_law_380 (by decide) ?_
              refine z_lv [(0, .ref (b)), (1, .ref (ad 0)), (2, .ref (ad 30)), (3, .ref (ad 31)), (4, .int (nI (1))), (5, .int (nI (S))), (6, .int (nI (B))), (7, .int (nI (k))), (8, .int (nI (y))), (13, .int (nI (wiM M2 o))), (14, .int (nI (stM M2 o))), (15, .int (nI (LM M3))), (16, .int (nI (0))), (17, .int (nI (x + 1)))] ⟨rfl, rfl, rfl, rfl, rfl, rfl, rfl, rfl, rfl, rfl, rfl, rfl, rfl, rfl, rfl, rfl, rfl, rfl, rfl, rfl, rfl, rfl, rfl, rfl, rfl, rfl, rfl, rfl, trivial⟩ ?_
              have hz0 : plc M3 o < x + 1 → 0 = 1 := fun hlt => by
                exfalso
                by_cases e : plc M3 o < x
                · have := hfx e
                  omega
                · have e2 : plc M3 o = x := by omega
                  rw [← e2] at h367
                  exact h367 hpb3
              exact ih340 (x + 1) 0 (by omega) hz0 (by omega) (by omega)
            · refine z_iconst C (nI (1)) dL_law_370 (by decide) ?_
              refine z_goto C 375 dL_law_371 (by decide) ?_
              refine z_istore C [(0, .ref (b)), (1, .ref (ad 0)), (2, .ref (ad 30)), (3, .ref (ad 31)), (4, .int (nI (1))), (5, .int (nI (S))), (6, .int (nI (B))), (7, .int (nI (k))), (8, .int (nI (y))), (13, .int (nI (wiM M2 o))), (14, .int (nI (stM M2 o))), (15, .int (nI (LM M3))), (16, .int (nI (1))), (17, .int (nI (x)))] dL_law_375 (by decide) ⟨rfl, rfl, rfl, rfl, rfl, rfl, rfl, rfl, rfl, rfl, rfl, rfl, rfl, rfl, rfl, rfl, rfl, rfl, rfl, rfl, rfl, rfl, rfl, rfl, rfl, rfl, rfl, rfl, trivial⟩ ?_
              refine z_iincN (j := 1) C [(0, .ref (b)), (1, .ref (ad 0)), (2, .ref (ad 30)), (3, .ref (ad 31)), (4, .int (nI (1))), (5, .int (nI (S))), (6, .int (nI (B))), (7, .int (nI (k))), (8, .int (nI (y))), (13, .int (nI (wiM M2 o))), (14, .int (nI (stM M2 o))), (15, .int (nI (LM M3))), (16, .int (nI (1))), (17, .int (nI (x + 1)))] dL_law_377 rfl (by decide) ⟨rfl, rfl, rfl, rfl, rfl, rfl, rfl, rfl, rfl, rfl, rfl, rfl, rfl, rfl, rfl, rfl, rfl, rfl, rfl, rfl, rfl, rfl, rfl, rfl, rfl, rfl, rfl, rfl, trivial⟩ ?_
              refine z_goto C 340 dL_law_380 (by decide) ?_
              refine z_lv [(0, .ref (b)), (1, .ref (ad 0)), (2, .ref (ad 30)), (3, .ref (ad 31)), (4, .int (nI (1))), (5, .int (nI (S))), (6, .int (nI (B))), (7, .int (nI (k))), (8, .int (nI (y))), (13, .int (nI (wiM M2 o))), (14, .int (nI (stM M2 o))), (15, .int (nI (LM M3))), (16, .int (nI (1))), (17, .int (nI (x + 1)))] ⟨rfl, rfl, rfl, rfl, rfl, rfl, rfl, rfl, rfl, rfl, rfl, rfl, rfl, rfl, rfl, rfl, rfl, rfl, rfl, rfl, rfl, rfl, rfl, rfl, rfl, rfl, rfl, rfl, trivial⟩ ?_
              exact ih340 (x + 1) 1 (Nat.le_refl _) (fun _ => rfl) (by omega) (by omega)
    refine z_lv [(0, .ref (b)), (1, .ref (ad 0)), (2, .ref (ad 30)), (3, .ref (ad 31)), (4, .int (nI (1))), (5, .int (nI (S))), (6, .int (nI (B))), (7, .int (nI (k))), (8, .int (nI (y))), (13, .int (nI (wiM M2 o))), (14, .int (nI (stM M2 o))), (15, .int (nI (LM M3))), (16, .int (nI (0))), (17, .int (nI (0)))] ⟨rfl, rfl, rfl, rfl, rfl, rfl, rfl, rfl, rfl, rfl, rfl, rfl, rfl, rfl, rfl, rfl, rfl, rfl, rfl, rfl, rfl, rfl, rfl, rfl, rfl, rfl, rfl, rfl, trivial⟩ ?_
    exact loop340 (18) 0 0 (Nat.zero_le _) (fun q => absurd q (Nat.not_lt_zero _)) (by decide) (by omega)
  · refine z_iload C dL_law_235 rfl ?_
    refine z_if_eqN C 249 (by omega) dL_law_237 (by decide) (fun h237 => (by exfalso; omega)) (fun h237 => ?_)
    refine z_aload_n C dL_law_240 rfl ?_
    refine z_iload C dL_law_241 rfl ?_
    refine z_callVF C (0) (Cn := RX5) (T := TX5) (N := 12) (k_X5_ticksUntilWhole vl D cI cM A ad Ez18 hX (nI (o)) hI23 hR26) (cwV 1 C.2.2.2.2.1 gL_law_X5_ticksUntilWhole rfl rfl rfl (by decide +kernel) ⟨(Nat.le_of_ble_eq_true rfl), (Nat.le_of_ble_eq_true rfl)⟩) rfl (by decide) rfl e0_24 rfl rfl (Nat.le_of_ble_eq_true rfl) ⟨(Nat.le_of_ble_eq_true rfl), (Nat.le_of_ble_eq_true rfl)⟩ dL_law_243 ?_
    refine z_top (-14) (tu_op2 hI2 (by omega) (by omega)) ?_
    refine z_goto C 250 dL_law_246 (by decide) ?_
    refine z_istore C [(0, .ref (b)), (1, .ref (ad 0)), (2, .ref (ad 30)), (3, .ref (ad 31)), (4, .int (nI (1))), (5, .int (nI (S))), (6, .int (nI (B))), (7, .int (nI (k))), (8, .int (nI (y))), (9, .int (nI (M2 0 4))), (10, .int (nI (ldM M2 (M2 0 4)))), (11, .int (nI (o))), (12, .int (-14))] dL_law_250 (by decide) ⟨rfl, rfl, rfl, rfl, rfl, rfl, rfl, rfl, rfl, rfl, rfl, rfl, rfl, rfl, rfl, rfl, rfl, rfl, rfl, rfl, rfl, rfl, rfl, rfl, rfl, rfl, trivial⟩ ?_
    refine z_iload C dL_law_252 rfl ?_
    refine z_if_eqN C 266 (by omega) dL_law_254 (by decide) (fun h254 => (by exfalso; omega)) (fun h254 => ?_)
    refine z_aload_n C dL_law_257 rfl ?_
    refine z_iload C dL_law_258 rfl ?_
    refine z_callVF C (0) (Cn := RX5) (T := TX5) (N := 12) (k_X5_messageWidth vl D cI cM A ad Ez18 hX (nI (o)) hI23 hR26) (cwV 1 C.2.2.2.2.1 gL_law_X5_messageWidth rfl rfl rfl (by decide +kernel) ⟨(Nat.le_of_ble_eq_true rfl), (Nat.le_of_ble_eq_true rfl)⟩) rfl (by decide) rfl e0_24 rfl rfl (Nat.le_of_ble_eq_true rfl) ⟨(Nat.le_of_ble_eq_true rfl), (Nat.le_of_ble_eq_true rfl)⟩ dL_law_260 ?_
    refine z_top (nI (wiM M2 o)) (mw_op hI2 (by omega)) ?_
    refine z_goto C 267 dL_law_263 (by decide) ?_
    refine z_istore C [(0, .ref (b)), (1, .ref (ad 0)), (2, .ref (ad 30)), (3, .ref (ad 31)), (4, .int (nI (1))), (5, .int (nI (S))), (6, .int (nI (B))), (7, .int (nI (k))), (8, .int (nI (y))), (9, .int (nI (M2 0 4))), (10, .int (nI (ldM M2 (M2 0 4)))), (11, .int (nI (o))), (12, .int (-14)), (13, .int (nI (wiM M2 o)))] dL_law_267 (by decide) ⟨rfl, rfl, rfl, rfl, rfl, rfl, rfl, rfl, rfl, rfl, rfl, rfl, rfl, rfl, rfl, rfl, rfl, rfl, rfl, rfl, rfl, rfl, rfl, rfl, rfl, rfl, rfl, rfl, trivial⟩ ?_
    refine z_iload C dL_law_269 rfl ?_
    refine z_if_eqN C 283 (by omega) dL_law_271 (by decide) (fun h271 => (by exfalso; omega)) (fun h271 => ?_)
    refine z_aload_n C dL_law_274 rfl ?_
    refine z_iload C dL_law_275 rfl ?_
    refine z_callVF C (0) (Cn := RX5) (T := TX5) (N := 12) (k_X5_messageStart vl D cI cM A ad Ez18 hX (nI (o)) hI23 hR26) (cwV 1 C.2.2.2.2.1 gL_law_X5_messageStart rfl rfl rfl (by decide +kernel) ⟨(Nat.le_of_ble_eq_true rfl), (Nat.le_of_ble_eq_true rfl)⟩) rfl (by decide) rfl e0_24 rfl rfl (Nat.le_of_ble_eq_true rfl) ⟨(Nat.le_of_ble_eq_true rfl), (Nat.le_of_ble_eq_true rfl)⟩ dL_law_277 ?_
    refine z_top (nI (stM M2 o)) (ms_op hI2 (by omega)) ?_
    refine z_goto C 284 dL_law_280 (by decide) ?_
    refine z_istore C [(0, .ref (b)), (1, .ref (ad 0)), (2, .ref (ad 30)), (3, .ref (ad 31)), (4, .int (nI (1))), (5, .int (nI (S))), (6, .int (nI (B))), (7, .int (nI (k))), (8, .int (nI (y))), (9, .int (nI (M2 0 4))), (10, .int (nI (ldM M2 (M2 0 4)))), (11, .int (nI (o))), (12, .int (-14)), (13, .int (nI (wiM M2 o))), (14, .int (nI (stM M2 o)))] dL_law_284 (by decide) ⟨rfl, rfl, rfl, rfl, rfl, rfl, rfl, rfl, rfl, rfl, rfl, rfl, rfl, rfl, rfl, rfl, rfl, rfl, rfl, rfl, rfl, rfl, rfl, rfl, rfl, rfl, rfl, rfl, rfl, rfl, trivial⟩ ?_
    refine z_iload C dL_law_286 rfl ?_
    refine z_if_eqN C 403 (by omega) dL_law_288 (by decide) (fun h288 => (by exfalso; omega)) (fun h288 => ?_)
    refine z_iload C dL_law_291 rfl ?_
    refine z_bipush C (nI (16)) dL_law_293 (by decide) ?_
    refine z_icmp_gtN C 403 (by omega) (by omega) dL_law_295 (by decide) (fun h295 => ?_) (fun h295 => (by exfalso; omega))
    refine z_iload C dL_law_403 rfl ?_
    refine z_if_eqN C 419 (by omega) dL_law_405 (by decide) (fun h405 => (by exfalso; omega)) (fun h405 => ?_)
    refine z_iload C dL_law_408 rfl ?_
    refine z_bipush C (-14) dL_law_410 (by decide) ?_
    refine z_icmp_ne C 419 dL_law_412 (by decide) (fun h412 => (by exfalso; exact h412 rfl)) (fun h412 => ?_)
    refine z_iconst C (nI (1)) dL_law_415 (by decide) ?_
    refine z_goto C 420 dL_law_416 (by decide) ?_
    refine z_istore C [(0, .ref (b)), (1, .ref (ad 0)), (2, .ref (ad 30)), (3, .ref (ad 31)), (4, .int (nI (1))), (5, .int (nI (S))), (6, .int (nI (B))), (7, .int (nI (k))), (8, .int (nI (y))), (9, .int (nI (M2 0 4))), (10, .int (nI (ldM M2 (M2 0 4)))), (11, .int (nI (o))), (12, .int (-14)), (13, .int (nI (wiM M2 o))), (14, .int (nI (stM M2 o)))] dL_law_420 (by decide) ⟨rfl, rfl, rfl, rfl, rfl, rfl, rfl, rfl, rfl, rfl, rfl, rfl, rfl, rfl, rfl, rfl, rfl, rfl, rfl, rfl, rfl, rfl, rfl, rfl, rfl, rfl, rfl, rfl, rfl, rfl, trivial⟩ ?_
    refine z_lv [(0, .ref (b)), (1, .ref (ad 0)), (2, .ref (ad 30)), (3, .ref (ad 31)), (4, .int (nI (1))), (5, .int (nI (S))), (6, .int (nI (B))), (7, .int (nI (k))), (8, .int (nI (y)))] ⟨rfl, rfl, rfl, rfl, rfl, rfl, rfl, rfl, rfl, rfl, rfl, rfl, rfl, rfl, rfl, rfl, rfl, rfl, trivial⟩ ?_
    exact next y M2 Ez18 hy hKS2 hI23 hR26 f28 f29

set_option maxHeartbeats 4000000 in
set_option maxRecDepth 100000 in
theorem lgB {p : Program} {vl : Launch} {e : Env} {s : State} {m : MethodId} {args : Array Value} {below : List Frame} {meth : Method} {c : Code} {D : va_G} {cI cM : ClassId} {A : Nat → Prop} {ad : Nat → Nat} {Q : State → Prop} {b L : Nat} {xs : Nat → Int32} (C : ZC p s m args meth c code 21 RL wsL_law D cI cM) (hX : XD A 32 ad) (hXs : va_X b L xs s s.heap) (hbl : b < s.heap.size) (hbA : ¬ A b) (hL : L ≤ 260) {M1 M : St} {E : Nat → va_E} {g mm : Nat → Nat} {S B : Nat} (hS : 1 ≤ S ∧ S ≤ 9) (hB9 : 1 ≤ B ∧ B ≤ 120) (hLB : LB S B M1) (hKS : KS M1 M) (hI : Inv M) (hR : RelX cI cM ad M E) (e30 : E (30) = aI cI 63 g) (e31 : E (31) = aI cI 12 mm) {k y : Nat} (hy : y < 2 ^ 31) (next : ∀ (r x : Nat) (E2 : Nat → va_E), r ≤ 7 → x < M 0 0 → Inv (flipD M r x) → RelX cI cM ad (flipD M r x) E2 → E2 (30) = aI cI 63 g → E2 (31) = aI cI 12 mm → Z p vl e room_1 s m args below meth c 21 D A 32 ad E2 [(0, .ref (b)), (1, .ref (ad 0)), (2, .ref (ad 30)), (3, .ref (ad 31)), (4, .int (nI (1))), (5, .int (nI (S))), (6, .int (nI (B))), (7, .int (nI (k))), (8, .int (nI (y))), (15, .int (nI (r))), (16, .int (nI (x))), (17, .int (nI (pxM M r x))), (18, .int (nI (ldM M (M 0 4))))] 32 1547 Q 560 []) : Z p vl e room_1 s m args below meth c 21 D A 32 ad E [(0, .ref (b)), (1, .ref (ad 0)), (2, .ref (ad 30)), (3, .ref (ad 31)), (4, .int (nI (1))), (5, .int (nI (S))), (6, .int (nI (B))), (7, .int (nI (k))), (8, .int (nI (y)))] 32 1547 Q 422 [] := by
  have e0 := RelX_0 hR
  obtain ⟨hW, hG, hSp, hBu, hT, hN, hSh, hDz⟩ := hLB.ls hKS
  refine z_iload C dL_law_422 rfl ?_
  refine z_bipush C (nI (9)) dL_law_424 (by decide) ?_
  refine z_ishr C dL_law_426  ?_
  refine z_top (nI (y / 512)) (sh_r hy 9 (by decide)) ?_
  refine z_bipush C (nI (8)) dL_law_427 (by decide) ?_
  refine z_iremN C (by omega) (by omega) (by omega) dL_law_429 ?_
  obtain ⟨r, hr⟩ : ∃ z_, z_ = y / 512 % 8 := ⟨_, rfl⟩
  refine z_top (nI r) (by rw [hr]) ?_
  have hr7 : r ≤ 7 := by omega
  refine z_istore C [(0, .ref (b)), (1, .ref (ad 0)), (2, .ref (ad 30)), (3, .ref (ad 31)), (4, .int (nI (1))), (5, .int (nI (S))), (6, .int (nI (B))), (7, .int (nI (k))), (8, .int (nI (y))), (15, .int (nI (r)))] dL_law_430 (by decide) ⟨rfl, rfl, rfl, rfl, rfl, rfl, rfl, rfl, rfl, rfl, rfl, rfl, rfl, rfl, rfl, rfl, rfl, rfl, rfl, rfl, trivial⟩ ?_
  refine z_iload C dL_law_432 rfl ?_
  refine z_bipush C (nI (12)) dL_law_434 (by decide) ?_
  refine z_ishr C dL_law_436  ?_
  refine z_top (nI (y / 4096)) (sh_r hy 12 (by decide)) ?_
  refine z_bipush C (nI (16)) dL_law_437 (by decide) ?_
  refine z_iremN C (by omega) (by omega) (by omega) dL_law_439 ?_
  obtain ⟨x, hx⟩ : ∃ z_, z_ = y / 4096 % 16 := ⟨_, rfl⟩
  refine z_top (nI x) (by rw [hx]) ?_
  have hx16 : x < M 0 0 := by omega
  have hfl := fl_ld hI hDz hr7 hx16
  have hldM := ld_le hI (M 0 4)
  have hpx3 := px_le hI r x
  refine z_istore C [(0, .ref (b)), (1, .ref (ad 0)), (2, .ref (ad 30)), (3, .ref (ad 31)), (4, .int (nI (1))), (5, .int (nI (S))), (6, .int (nI (B))), (7, .int (nI (k))), (8, .int (nI (y))), (15, .int (nI (r))), (16, .int (nI (x)))] dL_law_440 (by decide) ⟨rfl, rfl, rfl, rfl, rfl, rfl, rfl, rfl, rfl, rfl, rfl, rfl, rfl, rfl, rfl, rfl, rfl, rfl, rfl, rfl, rfl, rfl, trivial⟩ ?_
  refine z_iload C dL_law_442 rfl ?_
  refine z_if_eqN C 458 (by omega) dL_law_444 (by decide) (fun h444 => (by exfalso; omega)) (fun h444 => ?_)
  refine z_aload_n C dL_law_447 rfl ?_
  refine z_iload C dL_law_448 rfl ?_
  refine z_iload C dL_law_450 rfl ?_
  refine z_callVF C (0) (Cn := RX5) (T := TX5) (N := 12) (k_X5_pixel vl D cI cM A ad E hX (nI (r)) (nI (x)) hI hR) (cwV 2 C.2.2.2.2.1 gL_law_X5_pixel rfl rfl rfl (by decide +kernel) ⟨(Nat.le_of_ble_eq_true rfl), (Nat.le_of_ble_eq_true rfl)⟩) rfl (by decide) rfl e0 rfl rfl (Nat.le_of_ble_eq_true rfl) ⟨(Nat.le_of_ble_eq_true rfl), (Nat.le_of_ble_eq_true rfl)⟩ dL_law_452 ?_
  refine z_top (nI (pxM M r x)) (px_op hI hr7 hx16) ?_
  refine z_goto C 459 dL_law_455 (by decide) ?_
  refine z_istore C [(0, .ref (b)), (1, .ref (ad 0)), (2, .ref (ad 30)), (3, .ref (ad 31)), (4, .int (nI (1))), (5, .int (nI (S))), (6, .int (nI (B))), (7, .int (nI (k))), (8, .int (nI (y))), (15, .int (nI (r))), (16, .int (nI (x))), (17, .int (nI (pxM M r x)))] dL_law_459 (by decide) ⟨rfl, rfl, rfl, rfl, rfl, rfl, rfl, rfl, rfl, rfl, rfl, rfl, rfl, rfl, rfl, rfl, rfl, rfl, rfl, rfl, rfl, rfl, rfl, rfl, trivial⟩ ?_
  refine z_iload C dL_law_461 rfl ?_
  refine z_if_eqN C 473 (by omega) dL_law_463 (by decide) (fun h463 => (by exfalso; omega)) (fun h463 => ?_)
  refine z_aload_n C dL_law_466 rfl ?_
  refine z_callVF C (0) (Cn := RX5) (T := TX5) (N := 12) (k_X5_load vl D cI cM A ad E hX  hI hR) (cwV 0 C.2.2.2.2.1 gL_law_X5_load rfl rfl rfl (by decide +kernel) ⟨(Nat.le_of_ble_eq_true rfl), (Nat.le_of_ble_eq_true rfl)⟩) rfl (by decide) rfl e0 rfl rfl (Nat.le_of_ble_eq_true rfl) ⟨(Nat.le_of_ble_eq_true rfl), (Nat.le_of_ble_eq_true rfl)⟩ dL_law_467 ?_
  refine z_top (nI (ldM M (M 0 4))) (rfl) ?_
  refine z_goto C 474 dL_law_470 (by decide) ?_
  refine z_istore C [(0, .ref (b)), (1, .ref (ad 0)), (2, .ref (ad 30)), (3, .ref (ad 31)), (4, .int (nI (1))), (5, .int (nI (S))), (6, .int (nI (B))), (7, .int (nI (k))), (8, .int (nI (y))), (15, .int (nI (r))), (16, .int (nI (x))), (17, .int (nI (pxM M r x))), (18, .int (nI (ldM M (M 0 4))))] dL_law_474 (by decide) ⟨rfl, rfl, rfl, rfl, rfl, rfl, rfl, rfl, rfl, rfl, rfl, rfl, rfl, rfl, rfl, rfl, rfl, rfl, rfl, rfl, rfl, rfl, rfl, rfl, rfl, rfl, trivial⟩ ?_
  refine z_iload C dL_law_476 rfl ?_
  refine z_if_eqN C 557 (by omega) dL_law_478 (by decide) (fun h478 => (by exfalso; omega)) (fun h478 => ?_)
  refine z_aload_n C dL_law_481 rfl ?_
  refine z_iload C dL_law_482 rfl ?_
  refine z_iload C dL_law_484 rfl ?_
  refine z_iconst C (nI (1)) dL_law_486 (by decide) ?_
  refine z_callVI C (0) (Cn := RX5) (T := TX5) (N := 12) (k_X5_setDefective vl D cI cM A ad E hX (nI (r)) (nI (x)) (1) hI hR (by decide)) (cwV 3 C.2.2.2.2.1 gL_law_X5_setDefective rfl rfl rfl (by decide +kernel) ⟨(Nat.le_of_ble_eq_true rfl), (Nat.le_of_ble_eq_true rfl)⟩) rfl (by decide) rfl e0 rfl rfl (Nat.le_of_ble_eq_true rfl) ⟨(Nat.le_of_ble_eq_true rfl), (Nat.le_of_ble_eq_true rfl)⟩ dL_law_487 (fun r1 Ez2 hp3 => ?_)
  obtain ⟨hr4, hRr5, hf6⟩ := hp3
  have hop11 : o_setDefective M (nI (r)) (nI (x)) (1) = (nI (1), flipD M r x) := sd_1 hI hDz hr7 hx16
  have hr9 : r1 = nI (1) := by rw [hop11] at hr4; exact hr4
  have hR10 : RelX cI cM ad (flipD M r x) Ez2 := by rw [hop11] at hRr5; exact hRr5
  have hI7 : Inv (flipD M r x) := by have q := i_setDefective hI (nI (r)) (nI (x)) (1); rw [hop11] at q; exact q
  have e0_8 := RelX_0 hR10
  refine z_top (nI (1)) hr9 ?_
  have f12 : Ez2 (30) = aI cI 63 g := (hf6 (30) (by omega)).trans e30
  have f13 : Ez2 (31) = aI cI 12 mm := (hf6 (31) (by omega)).trans e31
  have hdm2 := dm_le hI7 2
  refine z_iconst C (nI (1)) dL_law_490 (by decide) ?_
  refine z_icmp_neN C 557 (by omega) (by omega) dL_law_491 (by decide) (fun h491 => (by exfalso; omega)) (fun h491 => ?_)
  refine z_aload_n C dL_law_494 rfl ?_
  refine z_iload C dL_law_495 rfl ?_
  refine z_iload C dL_law_497 rfl ?_
  refine z_callVF C (0) (Cn := RX5) (T := TX5) (N := 12) (k_X5_pixel vl D cI cM A ad Ez2 hX (nI (r)) (nI (x)) hI7 hR10) (cwV 2 C.2.2.2.2.1 gL_law_X5_pixel rfl rfl rfl (by decide +kernel) ⟨(Nat.le_of_ble_eq_true rfl), (Nat.le_of_ble_eq_true rfl)⟩) rfl (by decide) rfl e0_8 rfl rfl (Nat.le_of_ble_eq_true rfl) ⟨(Nat.le_of_ble_eq_true rfl), (Nat.le_of_ble_eq_true rfl)⟩ dL_law_499 ?_
  refine z_top (nI (0)) ((px_op hI7 hr7 hx16).trans (by rw [fl_px hI hDz hr7 hx16])) ?_
  refine z_if_neN C 557 (by omega) dL_law_502 (by decide) (fun h502 => (by exfalso; omega)) (fun h502 => ?_)
  refine z_aload_n C dL_law_505 rfl ?_
  refine z_callVF C (0) (Cn := RX5) (T := TX5) (N := 12) (k_X5_load vl D cI cM A ad Ez2 hX  hI7 hR10) (cwV 0 C.2.2.2.2.1 gL_law_X5_load rfl rfl rfl (by decide +kernel) ⟨(Nat.le_of_ble_eq_true rfl), (Nat.le_of_ble_eq_true rfl)⟩) rfl (by decide) rfl e0_8 rfl rfl (Nat.le_of_ble_eq_true rfl) ⟨(Nat.le_of_ble_eq_true rfl), (Nat.le_of_ble_eq_true rfl)⟩ dL_law_506 ?_
  refine z_top (nI (ldM (flipD M r x) (M 0 4))) (rfl) ?_
  refine z_iload C dL_law_509 rfl ?_
  refine z_iload C dL_law_511 rfl ?_
  refine z_iconst C (nI (3)) dL_law_513 (by decide) ?_
  refine z_icmp_neN C 521 (by omega) (by omega) dL_law_514 (by decide) (fun h514 => ?_) (fun h514 => ?_)
  · refine z_iload C dL_law_521 rfl ?_
    refine z_if_leN C 530 (by omega) dL_law_523 (by decide) (fun h523 => ?_) (fun h523 => ?_)
    · have hpw : pw (pxM M r x) = 0 := by rw [h523]; rfl
      refine z_iconst C (nI (0)) dL_law_530 (by decide) ?_
      refine z_isubN C (by omega) dL_law_531 ?_
      refine z_top (nI (ldM (flipD M r x) (M 0 4))) (congrArg nI (show ldM M (M 0 4) - 0 = ldM (flipD M r x) (M 0 4) by omega)) ?_
      refine z_icmp_neN C 557 (by omega) (by omega) dL_law_532 (by decide) (fun h532 => (by exfalso; exact h532 rfl)) (fun h532 => ?_)
      refine z_aload_n C dL_law_535 rfl ?_
      refine z_iconst C (nI (0)) dL_law_536 (by decide) ?_
      refine z_callVF C (0) (Cn := RX5) (T := TX5) (N := 12) (k_X5_damage vl D cI cM A ad Ez2 hX (nI (0)) hI7 hR10) (cwV 1 C.2.2.2.2.1 gL_law_X5_damage rfl rfl rfl (by decide +kernel) ⟨(Nat.le_of_ble_eq_true rfl), (Nat.le_of_ble_eq_true rfl)⟩) rfl (by decide) rfl e0_8 rfl rfl (Nat.le_of_ble_eq_true rfl) ⟨(Nat.le_of_ble_eq_true rfl), (Nat.le_of_ble_eq_true rfl)⟩ dL_law_537 ?_
      refine z_top (nI (dmM (flipD M r x) 2)) ((show o_damage (flipD M r x) (nI 0) = nI (dmM (flipD M r x) 2) by rw [show (nI 0 : Int32) = shI 2 by decide]; exact dm_op (by decide))) ?_
      refine z_iload C dL_law_540 rfl ?_
      refine z_if_leN C 549 (by omega) dL_law_542 (by decide) (fun h542 => ?_) (fun h542 => ?_)
      · refine z_iconst C (nI (0)) dL_law_549 (by decide) ?_
        refine z_icmp_ltN C 557 (by omega) (by omega) dL_law_550 (by decide) (fun h550 => (by exfalso; omega)) (fun h550 => ?_)
        refine z_iconst C (nI (1)) dL_law_553 (by decide) ?_
        refine z_goto C 558 dL_law_554 (by decide) ?_
        refine z_istore C [(0, .ref (b)), (1, .ref (ad 0)), (2, .ref (ad 30)), (3, .ref (ad 31)), (4, .int (nI (1))), (5, .int (nI (S))), (6, .int (nI (B))), (7, .int (nI (k))), (8, .int (nI (y))), (15, .int (nI (r))), (16, .int (nI (x))), (17, .int (nI (pxM M r x))), (18, .int (nI (ldM M (M 0 4))))] dL_law_558 (by decide) ⟨rfl, rfl, rfl, rfl, rfl, rfl, rfl, rfl, rfl, rfl, rfl, rfl, rfl, rfl, rfl, rfl, rfl, rfl, rfl, rfl, rfl, rfl, rfl, rfl, rfl, rfl, trivial⟩ ?_
        refine z_lv [(0, .ref (b)), (1, .ref (ad 0)), (2, .ref (ad 30)), (3, .ref (ad 31)), (4, .int (nI (1))), (5, .int (nI (S))), (6, .int (nI (B))), (7, .int (nI (k))), (8, .int (nI (y))), (15, .int (nI (r))), (16, .int (nI (x))), (17, .int (nI (pxM M r x))), (18, .int (nI (ldM M (M 0 4))))] ⟨rfl, rfl, rfl, rfl, rfl, rfl, rfl, rfl, rfl, rfl, rfl, rfl, rfl, rfl, rfl, rfl, rfl, rfl, rfl, rfl, rfl, rfl, rfl, rfl, rfl, rfl, trivial⟩ ?_
        exact next r x Ez2 hr7 hx16 hI7 hR10 f12 f13
      · have hdm := fl_dm hI hDz hSh hr7 hx16 h542
        refine z_iconst C (nI (1)) dL_law_545 (by decide) ?_
        refine z_goto C 550 dL_law_546 (by decide) ?_
        refine z_icmp_ltN C 557 (by omega) (by omega) dL_law_550 (by decide) (fun h550 => (by exfalso; omega)) (fun h550 => ?_)
        refine z_iconst C (nI (1)) dL_law_553 (by decide) ?_
        refine z_goto C 558 dL_law_554 (by decide) ?_
        refine z_istore C [(0, .ref (b)), (1, .ref (ad 0)), (2, .ref (ad 30)), (3, .ref (ad 31)), (4, .int (nI (1))), (5, .int (nI (S))), (6, .int (nI (B))), (7, .int (nI (k))), (8, .int (nI (y))), (15, .int (nI (r))), (16, .int (nI (x))), (17, .int (nI (pxM M r x))), (18, .int (nI (ldM M (M 0 4))))] dL_law_558 (by decide) ⟨rfl, rfl, rfl, rfl, rfl, rfl, rfl, rfl, rfl, rfl, rfl, rfl, rfl, rfl, rfl, rfl, rfl, rfl, rfl, rfl, rfl, rfl, rfl, rfl, rfl, rfl, trivial⟩ ?_
        refine z_lv [(0, .ref (b)), (1, .ref (ad 0)), (2, .ref (ad 30)), (3, .ref (ad 31)), (4, .int (nI (1))), (5, .int (nI (S))), (6, .int (nI (B))), (7, .int (nI (k))), (8, .int (nI (y))), (15, .int (nI (r))), (16, .int (nI (x))), (17, .int (nI (pxM M r x))), (18, .int (nI (ldM M (M 0 4))))] ⟨rfl, rfl, rfl, rfl, rfl, rfl, rfl, rfl, rfl, rfl, rfl, rfl, rfl, rfl, rfl, rfl, rfl, rfl, rfl, rfl, rfl, rfl, rfl, rfl, rfl, rfl, trivial⟩ ?_
        exact next r x Ez2 hr7 hx16 hI7 hR10 f12 f13
    · have hpw := pw_1 h514 h523
      refine z_iconst C (nI (1)) dL_law_526 (by decide) ?_
      refine z_goto C 531 dL_law_527 (by decide) ?_
      refine z_isubN C (by omega) dL_law_531 ?_
      refine z_top (nI (ldM (flipD M r x) (M 0 4))) (congrArg nI (show ldM M (M 0 4) - 1 = ldM (flipD M r x) (M 0 4) by omega)) ?_
      refine z_icmp_neN C 557 (by omega) (by omega) dL_law_532 (by decide) (fun h532 => (by exfalso; exact h532 rfl)) (fun h532 => ?_)
      refine z_aload_n C dL_law_535 rfl ?_
      refine z_iconst C (nI (0)) dL_law_536 (by decide) ?_
      refine z_callVF C (0) (Cn := RX5) (T := TX5) (N := 12) (k_X5_damage vl D cI cM A ad Ez2 hX (nI (0)) hI7 hR10) (cwV 1 C.2.2.2.2.1 gL_law_X5_damage rfl rfl rfl (by decide +kernel) ⟨(Nat.le_of_ble_eq_true rfl), (Nat.le_of_ble_eq_true rfl)⟩) rfl (by decide) rfl e0_8 rfl rfl (Nat.le_of_ble_eq_true rfl) ⟨(Nat.le_of_ble_eq_true rfl), (Nat.le_of_ble_eq_true rfl)⟩ dL_law_537 ?_
      refine z_top (nI (dmM (flipD M r x) 2)) ((show o_damage (flipD M r x) (nI 0) = nI (dmM (flipD M r x) 2) by rw [show (nI 0 : Int32) = shI 2 by decide]; exact dm_op (by decide))) ?_
      refine z_iload C dL_law_540 rfl ?_
      refine z_if_leN C 549 (by omega) dL_law_542 (by decide) (fun h542 => ?_) (fun h542 => ?_)
      · refine z_iconst C (nI (0)) dL_law_549 (by decide) ?_
        refine z_icmp_ltN C 557 (by omega) (by omega) dL_law_550 (by decide) (fun h550 => (by exfalso; omega)) (fun h550 => ?_)
        refine z_iconst C (nI (1)) dL_law_553 (by decide) ?_
        refine z_goto C 558 dL_law_554 (by decide) ?_
        refine z_istore C [(0, .ref (b)), (1, .ref (ad 0)), (2, .ref (ad 30)), (3, .ref (ad 31)), (4, .int (nI (1))), (5, .int (nI (S))), (6, .int (nI (B))), (7, .int (nI (k))), (8, .int (nI (y))), (15, .int (nI (r))), (16, .int (nI (x))), (17, .int (nI (pxM M r x))), (18, .int (nI (ldM M (M 0 4))))] dL_law_558 (by decide) ⟨rfl, rfl, rfl, rfl, rfl, rfl, rfl, rfl, rfl, rfl, rfl, rfl, rfl, rfl, rfl, rfl, rfl, rfl, rfl, rfl, rfl, rfl, rfl, rfl, rfl, rfl, trivial⟩ ?_
        refine z_lv [(0, .ref (b)), (1, .ref (ad 0)), (2, .ref (ad 30)), (3, .ref (ad 31)), (4, .int (nI (1))), (5, .int (nI (S))), (6, .int (nI (B))), (7, .int (nI (k))), (8, .int (nI (y))), (15, .int (nI (r))), (16, .int (nI (x))), (17, .int (nI (pxM M r x))), (18, .int (nI (ldM M (M 0 4))))] ⟨rfl, rfl, rfl, rfl, rfl, rfl, rfl, rfl, rfl, rfl, rfl, rfl, rfl, rfl, rfl, rfl, rfl, rfl, rfl, rfl, rfl, rfl, rfl, rfl, rfl, rfl, trivial⟩ ?_
        exact next r x Ez2 hr7 hx16 hI7 hR10 f12 f13
      · have hdm := fl_dm hI hDz hSh hr7 hx16 h542
        refine z_iconst C (nI (1)) dL_law_545 (by decide) ?_
        refine z_goto C 550 dL_law_546 (by decide) ?_
        refine z_icmp_ltN C 557 (by omega) (by omega) dL_law_550 (by decide) (fun h550 => (by exfalso; omega)) (fun h550 => ?_)
        refine z_iconst C (nI (1)) dL_law_553 (by decide) ?_
        refine z_goto C 558 dL_law_554 (by decide) ?_
        refine z_istore C [(0, .ref (b)), (1, .ref (ad 0)), (2, .ref (ad 30)), (3, .ref (ad 31)), (4, .int (nI (1))), (5, .int (nI (S))), (6, .int (nI (B))), (7, .int (nI (k))), (8, .int (nI (y))), (15, .int (nI (r))), (16, .int (nI (x))), (17, .int (nI (pxM M r x))), (18, .int (nI (ldM M (M 0 4))))] dL_law_558 (by decide) ⟨rfl, rfl, rfl, rfl, rfl, rfl, rfl, rfl, rfl, rfl, rfl, rfl, rfl, rfl, rfl, rfl, rfl, rfl, rfl, rfl, rfl, rfl, rfl, rfl, rfl, rfl, trivial⟩ ?_
        refine z_lv [(0, .ref (b)), (1, .ref (ad 0)), (2, .ref (ad 30)), (3, .ref (ad 31)), (4, .int (nI (1))), (5, .int (nI (S))), (6, .int (nI (B))), (7, .int (nI (k))), (8, .int (nI (y))), (15, .int (nI (r))), (16, .int (nI (x))), (17, .int (nI (pxM M r x))), (18, .int (nI (ldM M (M 0 4))))] ⟨rfl, rfl, rfl, rfl, rfl, rfl, rfl, rfl, rfl, rfl, rfl, rfl, rfl, rfl, rfl, rfl, rfl, rfl, rfl, rfl, rfl, rfl, rfl, rfl, rfl, rfl, trivial⟩ ?_
        exact next r x Ez2 hr7 hx16 hI7 hR10 f12 f13
  · have hpw : pw (pxM M r x) = 2 := by rw [h514]; rfl
    refine z_iconst C (nI (2)) dL_law_517 (by decide) ?_
    refine z_goto C 531 dL_law_518 (by decide) ?_
    refine z_isubN C (by omega) dL_law_531 ?_
    refine z_top (nI (ldM (flipD M r x) (M 0 4))) (congrArg nI (show ldM M (M 0 4) - 2 = ldM (flipD M r x) (M 0 4) by omega)) ?_
    refine z_icmp_neN C 557 (by omega) (by omega) dL_law_532 (by decide) (fun h532 => (by exfalso; exact h532 rfl)) (fun h532 => ?_)
    refine z_aload_n C dL_law_535 rfl ?_
    refine z_iconst C (nI (0)) dL_law_536 (by decide) ?_
    refine z_callVF C (0) (Cn := RX5) (T := TX5) (N := 12) (k_X5_damage vl D cI cM A ad Ez2 hX (nI (0)) hI7 hR10) (cwV 1 C.2.2.2.2.1 gL_law_X5_damage rfl rfl rfl (by decide +kernel) ⟨(Nat.le_of_ble_eq_true rfl), (Nat.le_of_ble_eq_true rfl)⟩) rfl (by decide) rfl e0_8 rfl rfl (Nat.le_of_ble_eq_true rfl) ⟨(Nat.le_of_ble_eq_true rfl), (Nat.le_of_ble_eq_true rfl)⟩ dL_law_537 ?_
    refine z_top (nI (dmM (flipD M r x) 2)) ((show o_damage (flipD M r x) (nI 0) = nI (dmM (flipD M r x) 2) by rw [show (nI 0 : Int32) = shI 2 by decide]; exact dm_op (by decide))) ?_
    refine z_iload C dL_law_540 rfl ?_
    refine z_if_leN C 549 (by omega) dL_law_542 (by decide) (fun h542 => ?_) (fun h542 => ?_)
    · refine z_iconst C (nI (0)) dL_law_549 (by decide) ?_
      refine z_icmp_ltN C 557 (by omega) (by omega) dL_law_550 (by decide) (fun h550 => (by exfalso; omega)) (fun h550 => ?_)
      refine z_iconst C (nI (1)) dL_law_553 (by decide) ?_
      refine z_goto C 558 dL_law_554 (by decide) ?_
      refine z_istore C [(0, .ref (b)), (1, .ref (ad 0)), (2, .ref (ad 30)), (3, .ref (ad 31)), (4, .int (nI (1))), (5, .int (nI (S))), (6, .int (nI (B))), (7, .int (nI (k))), (8, .int (nI (y))), (15, .int (nI (r))), (16, .int (nI (x))), (17, .int (nI (pxM M r x))), (18, .int (nI (ldM M (M 0 4))))] dL_law_558 (by decide) ⟨rfl, rfl, rfl, rfl, rfl, rfl, rfl, rfl, rfl, rfl, rfl, rfl, rfl, rfl, rfl, rfl, rfl, rfl, rfl, rfl, rfl, rfl, rfl, rfl, rfl, rfl, trivial⟩ ?_
      refine z_lv [(0, .ref (b)), (1, .ref (ad 0)), (2, .ref (ad 30)), (3, .ref (ad 31)), (4, .int (nI (1))), (5, .int (nI (S))), (6, .int (nI (B))), (7, .int (nI (k))), (8, .int (nI (y))), (15, .int (nI (r))), (16, .int (nI (x))), (17, .int (nI (pxM M r x))), (18, .int (nI (ldM M (M 0 4))))] ⟨rfl, rfl, rfl, rfl, rfl, rfl, rfl, rfl, rfl, rfl, rfl, rfl, rfl, rfl, rfl, rfl, rfl, rfl, rfl, rfl, rfl, rfl, rfl, rfl, rfl, rfl, trivial⟩ ?_
      exact next r x Ez2 hr7 hx16 hI7 hR10 f12 f13
    · have hdm := fl_dm hI hDz hSh hr7 hx16 h542
      refine z_iconst C (nI (1)) dL_law_545 (by decide) ?_
      refine z_goto C 550 dL_law_546 (by decide) ?_
      refine z_icmp_ltN C 557 (by omega) (by omega) dL_law_550 (by decide) (fun h550 => (by exfalso; omega)) (fun h550 => ?_)
      refine z_iconst C (nI (1)) dL_law_553 (by decide) ?_
      refine z_goto C 558 dL_law_554 (by decide) ?_
      refine z_istore C [(0, .ref (b)), (1, .ref (ad 0)), (2, .ref (ad 30)), (3, .ref (ad 31)), (4, .int (nI (1))), (5, .int (nI (S))), (6, .int (nI (B))), (7, .int (nI (k))), (8, .int (nI (y))), (15, .int (nI (r))), (16, .int (nI (x))), (17, .int (nI (pxM M r x))), (18, .int (nI (ldM M (M 0 4))))] dL_law_558 (by decide) ⟨rfl, rfl, rfl, rfl, rfl, rfl, rfl, rfl, rfl, rfl, rfl, rfl, rfl, rfl, rfl, rfl, rfl, rfl, rfl, rfl, rfl, rfl, rfl, rfl, rfl, rfl, trivial⟩ ?_
      refine z_lv [(0, .ref (b)), (1, .ref (ad 0)), (2, .ref (ad 30)), (3, .ref (ad 31)), (4, .int (nI (1))), (5, .int (nI (S))), (6, .int (nI (B))), (7, .int (nI (k))), (8, .int (nI (y))), (15, .int (nI (r))), (16, .int (nI (x))), (17, .int (nI (pxM M r x))), (18, .int (nI (ldM M (M 0 4))))] ⟨rfl, rfl, rfl, rfl, rfl, rfl, rfl, rfl, rfl, rfl, rfl, rfl, rfl, rfl, rfl, rfl, rfl, rfl, rfl, rfl, rfl, rfl, rfl, rfl, rfl, rfl, trivial⟩ ?_
      exact next r x Ez2 hr7 hx16 hI7 hR10 f12 f13

set_option maxHeartbeats 4000000 in
set_option maxRecDepth 100000 in
theorem lgC {p : Program} {vl : Launch} {e : Env} {s : State} {m : MethodId} {args : Array Value} {below : List Frame} {meth : Method} {c : Code} {D : va_G} {cI cM : ClassId} {A : Nat → Prop} {ad : Nat → Nat} {Q : State → Prop} {b L : Nat} {xs : Nat → Int32} (C : ZC p s m args meth c code 21 RL wsL_law D cI cM) (hX : XD A 32 ad) (hXs : va_X b L xs s s.heap) (hbl : b < s.heap.size) (hbA : ¬ A b) (hL : L ≤ 260) {M1 M : St} {E : Nat → va_E} {g mm : Nat → Nat} {S B : Nat} {t0 : Nat} (hz : SHZ t0 A s s.heap) (hS : 1 ≤ S ∧ S ≤ 9) (hB9 : 1 ≤ B ∧ B ≤ 120) (hLB : LB S B M1) (hKS : KS M1 M) (hI : Inv M) (e30 : E (30) = aI cI 63 g) (e31 : E (31) = aI cI 12 mm) {k y r x : Nat} (hk : k < 5) (hr7 : r ≤ 7) (hx16 : x < M 0 0) (hI3 : Inv (flipD M r x)) (hR : RelX cI cM ad (flipD M r x) E) (next : ∀ (M2 : St) (E2 : Nat → va_E), KS M1 M2 → Inv M2 → RelX cI cM ad M2 E2 → E2 (30) = aI cI 63 g → E2 (31) = aI cI 12 mm → Z p vl e room_1 s m args below meth c 21 D A 32 ad E2 [(0, .ref (b)), (1, .ref (ad 0)), (2, .ref (ad 30)), (3, .ref (ad 31)), (4, .int (nI (1))), (5, .int (nI (S))), (6, .int (nI (B))), (7, .int (nI (k + 1)))] 32 1547 Q 147 []) : Z p vl e room_1 s m args below meth c 21 D A 32 ad E [(0, .ref (b)), (1, .ref (ad 0)), (2, .ref (ad 30)), (3, .ref (ad 31)), (4, .int (nI (1))), (5, .int (nI (S))), (6, .int (nI (B))), (7, .int (nI (k))), (8, .int (nI (y))), (15, .int (nI (r))), (16, .int (nI (x))), (17, .int (nI (pxM M r x))), (18, .int (nI (ldM M (M 0 4))))] 32 1547 Q 560 [] := by
  have e0 := RelX_0 hR
  obtain ⟨hW, hG, hSp, hBu, hT, hN, hSh, hDz⟩ := hLB.ls hKS
  obtain ⟨bt, hbt⟩ : ∃ z_, z_ = bestT (dmM (flipD M r x)) := ⟨_, rfl⟩
  have hb5 : bt < 5 := by have := bestT_le (dmM (flipD M r x)); omega
  have hldM := ld_le hI (M 0 4)
  have hpx3 := px_le hI r x
  refine z_iload C dL_law_560 rfl ?_
  refine z_if_eqN C 572 (by omega) dL_law_562 (by decide) (fun h562 => (by exfalso; omega)) (fun h562 => ?_)
  refine z_aload_n C dL_law_565 rfl ?_
  refine z_callVIZ C (0) (Cn := RX5) (T := TX5) (N := 12) (k_X5_adoptBestShift vl D cI cM A ad E hX  hI3 hR) hz (cwV 0 C.2.2.2.2.1 gL_law_X5_adoptBestShift rfl rfl rfl (by decide +kernel) ⟨(Nat.le_of_ble_eq_true rfl), (Nat.le_of_ble_eq_true rfl)⟩) rfl (by decide) rfl e0 rfl rfl (Nat.le_of_ble_eq_true rfl) ⟨(Nat.le_of_ble_eq_true rfl), (Nat.le_of_ble_eq_true rfl)⟩ dL_law_566 (fun r1 Ez2 hp3 => ?_)
  obtain ⟨hr4, hRr5, hf6⟩ := hp3
  have hop11 : o_adoptBestShift (flipD M r x)  = (nI (dmM (flipD M r x) bt), s0 (flipD M r x) 8 bt) := by rw [hbt]; rfl
  have hr9 : r1 = nI (dmM (flipD M r x) bt) := by rw [hop11] at hr4; exact hr4
  have hR10 : RelX cI cM ad (s0 (flipD M r x) 8 bt) Ez2 := by rw [hop11] at hRr5; exact hRr5
  have hI7 : Inv (s0 (flipD M r x) 8 bt) := by have q := i_adoptBestShift hI3 ; rw [hop11] at q; exact q
  have e0_8 := RelX_0 hR10
  refine z_top (nI (dmM (flipD M r x) bt)) hr9 ?_
  have f12 : Ez2 (30) = aI cI 63 g := (hf6 (30) (by omega)).trans e30
  have f13 : Ez2 (31) = aI cI 12 mm := (hf6 (31) (by omega)).trans e31
  have hdb := dm_le hI3 bt
  refine z_goto C 573 dL_law_569 (by decide) ?_
  refine z_istore C [(0, .ref (b)), (1, .ref (ad 0)), (2, .ref (ad 30)), (3, .ref (ad 31)), (4, .int (nI (1))), (5, .int (nI (S))), (6, .int (nI (B))), (7, .int (nI (k))), (8, .int (nI (y))), (15, .int (nI (r))), (16, .int (nI (x))), (17, .int (nI (pxM M r x))), (18, .int (nI (ldM M (M 0 4)))), (19, .int (nI (dmM (flipD M r x) bt)))] dL_law_573 (by decide) ⟨rfl, rfl, rfl, rfl, rfl, rfl, rfl, rfl, rfl, rfl, rfl, rfl, rfl, rfl, rfl, rfl, rfl, rfl, rfl, rfl, rfl, rfl, rfl, rfl, rfl, rfl, rfl, rfl, trivial⟩ ?_
  refine z_bipush C (-2) dL_law_575 (by decide) ?_
  refine z_top (shI 0) (by decide) ?_
  refine z_istore C [(0, .ref (b)), (1, .ref (ad 0)), (2, .ref (ad 30)), (3, .ref (ad 31)), (4, .int (nI (1))), (5, .int (nI (S))), (6, .int (nI (B))), (7, .int (nI (k))), (8, .int (nI (y))), (15, .int (nI (r))), (16, .int (nI (x))), (17, .int (nI (pxM M r x))), (18, .int (nI (ldM M (M 0 4)))), (19, .int (nI (dmM (flipD M r x) bt))), (20, .int (shI 0))] dL_law_577 (by decide) ⟨rfl, rfl, rfl, rfl, rfl, rfl, rfl, rfl, rfl, rfl, rfl, rfl, rfl, rfl, rfl, rfl, rfl, rfl, rfl, rfl, rfl, rfl, rfl, rfl, rfl, rfl, rfl, rfl, rfl, rfl, trivial⟩ ?_
  have loop579 : ∀ (fuel : Nat) (t : Nat), (ht : t ≤ 5) → 5 - t < fuel → Z p vl e room_1 s m args below meth c 21 D A 32 ad Ez2 [(0, .ref (b)), (1, .ref (ad 0)), (2, .ref (ad 30)), (3, .ref (ad 31)), (4, .int (nI (1))), (5, .int (nI (S))), (6, .int (nI (B))), (7, .int (nI (k))), (8, .int (nI (y))), (15, .int (nI (r))), (16, .int (nI (x))), (17, .int (nI (pxM M r x))), (18, .int (nI (ldM M (M 0 4)))), (19, .int (nI (dmM (flipD M r x) bt))), (20, .int (shI t))] 32 1547 Q 579 [] := by
    intro fuel
    induction fuel with
    | zero => intro t ht hlt; exact absurd hlt (Nat.not_lt_zero _)
    | succ fuel ih =>
      intro t ht hlt
      have ih579 := ih
      refine z_iload C dL_law_579 rfl ?_
      refine z_iconst C (nI (3)) dL_law_581 (by decide) ?_
      refine z_icmp_ge C 614 dL_law_582 (by decide) (fun h582 => ?_) (fun h582 => ?_)
      · refine z_iload C dL_law_614 rfl ?_
        refine z_if_eqN C 679 (by omega) dL_law_616 (by decide) (fun h616 => (by exfalso; omega)) (fun h616 => ?_)
        refine z_aload_n C dL_law_619 rfl ?_
        refine z_bipush C (nI (16)) dL_law_620 (by decide) ?_
        refine z_iconst C (nI (1)) dL_law_622 (by decide) ?_
        refine z_iload C dL_law_623 rfl ?_
        refine z_callSF C (k_L_sound vl D cI cM A ad Ez2 hX (W := 16) (d := 1) (B := B) hI7 hR10 hW hBu (by decide)) (va_cwS 4 C.2.2.2.2.1 gL_law_L_sound rfl rfl rfl (by decide +kernel) ⟨Nat.le_of_ble_eq_true rfl, Nat.le_of_ble_eq_true rfl⟩) rfl rfl (Nat.le_of_ble_eq_true rfl) ⟨(Nat.le_of_ble_eq_true rfl), (Nat.le_of_ble_eq_true rfl)⟩ dL_law_625 ?_
        refine z_if_eqN C 679 (by omega) dL_law_628 (by decide) (fun h628 => (by exfalso; omega)) (fun h628 => ?_)
        refine z_aload_n C dL_law_631 rfl ?_
        refine z_iload C dL_law_632 rfl ?_
        refine z_iload C dL_law_634 rfl ?_
        refine z_iconst C (nI (0)) dL_law_636 (by decide) ?_
        refine z_callVI C (0) (Cn := RX5) (T := TX5) (N := 12) (k_X5_setDefective vl D cI cM A ad Ez2 hX (nI (r)) (nI (x)) (0) hI7 hR10 (by decide)) (cwV 3 C.2.2.2.2.1 gL_law_X5_setDefective rfl rfl rfl (by decide +kernel) ⟨(Nat.le_of_ble_eq_true rfl), (Nat.le_of_ble_eq_true rfl)⟩) rfl (by decide) rfl e0_8 rfl rfl (Nat.le_of_ble_eq_true rfl) ⟨(Nat.le_of_ble_eq_true rfl), (Nat.le_of_ble_eq_true rfl)⟩ dL_law_637 (fun r14 Ez15 hp16 => ?_)
        obtain ⟨hr17, hRr18, hf19⟩ := hp16
        have hop24 : o_setDefective (s0 (flipD M r x) 8 bt) (nI (r)) (nI (x)) (0) = (nI (0), s0 M 8 bt) := sd_0 hI hDz hr7 hx16
        have hr22 : r14 = nI (0) := by rw [hop24] at hr17; exact hr17
        have hR23 : RelX cI cM ad (s0 M 8 bt) Ez15 := by rw [hop24] at hRr18; exact hRr18
        have hI20 : Inv (s0 M 8 bt) := by have q := i_setDefective hI7 (nI (r)) (nI (x)) (0); rw [hop24] at q; exact q
        have e0_21 := RelX_0 hR23
        refine z_top (nI (0)) hr22 ?_
        have f25 : Ez15 (30) = aI cI 63 g := (hf19 (30) (by omega)).trans f12
        have f26 : Ez15 (31) = aI cI 12 mm := (hf19 (31) (by omega)).trans f13
        refine z_if_neN C 679 (by omega) dL_law_640 (by decide) (fun h640 => (by exfalso; omega)) (fun h640 => ?_)
        refine z_aload_n C dL_law_643 rfl ?_
        refine z_iconst C (nI (0)) dL_law_644 (by decide) ?_
        refine z_callVI C (0) (Cn := RX5) (T := TX5) (N := 12) (k_X5_setShift vl D cI cM A ad Ez15 hX (nI (0)) hI20 hR23) (cwV 1 C.2.2.2.2.1 gL_law_X5_setShift rfl rfl rfl (by decide +kernel) ⟨(Nat.le_of_ble_eq_true rfl), (Nat.le_of_ble_eq_true rfl)⟩) rfl (by decide) rfl e0_21 rfl rfl (Nat.le_of_ble_eq_true rfl) ⟨(Nat.le_of_ble_eq_true rfl), (Nat.le_of_ble_eq_true rfl)⟩ dL_law_645 (fun r27 Ez28 hp29 => ?_)
        obtain ⟨hr30, hRr31, hf32⟩ := hp29
        have hop37 : o_setShift (s0 M 8 bt) (nI (0)) = (shI bt, M) := sh_0 hSh bt
        have hr35 : r27 = shI bt := by rw [hop37] at hr30; exact hr30
        have hR36 : RelX cI cM ad (M) Ez28 := by rw [hop37] at hRr31; exact hRr31
        have hI33 : Inv (M) := by have q := i_setShift hI20 (nI (0)); rw [hop37] at q; exact q
        have e0_34 := RelX_0 hR36
        refine z_top (shI bt) hr35 ?_
        have f38 : Ez28 (30) = aI cI 63 g := (hf32 (30) (by omega)).trans f25
        have f39 : Ez28 (31) = aI cI 12 mm := (hf32 (31) (by omega)).trans f26
        refine z_bipush C (-2) dL_law_648 (by decide) ?_
        refine z_icmp_lt C 679 dL_law_650 (by decide) (fun h650 => (by exfalso; exact shI_m2 bt hb5 h650)) (fun h650 => ?_)
        refine z_aload_n C dL_law_653 rfl ?_
        refine z_iload C dL_law_654 rfl ?_
        refine z_iload C dL_law_656 rfl ?_
        refine z_callVF C (0) (Cn := RX5) (T := TX5) (N := 12) (k_X5_pixel vl D cI cM A ad Ez28 hX (nI (r)) (nI (x)) hI33 hR36) (cwV 2 C.2.2.2.2.1 gL_law_X5_pixel rfl rfl rfl (by decide +kernel) ⟨(Nat.le_of_ble_eq_true rfl), (Nat.le_of_ble_eq_true rfl)⟩) rfl (by decide) rfl e0_34 rfl rfl (Nat.le_of_ble_eq_true rfl) ⟨(Nat.le_of_ble_eq_true rfl), (Nat.le_of_ble_eq_true rfl)⟩ dL_law_658 ?_
        refine z_top (nI (pxM M r x)) (px_op hI hr7 hx16) ?_
        refine z_iload C dL_law_661 rfl ?_
        refine z_icmp_neN C 679 (by omega) (by omega) dL_law_663 (by decide) (fun h663 => (by exfalso; exact h663 rfl)) (fun h663 => ?_)
        refine z_aload_n C dL_law_666 rfl ?_
        refine z_callVF C (0) (Cn := RX5) (T := TX5) (N := 12) (k_X5_load vl D cI cM A ad Ez28 hX  hI33 hR36) (cwV 0 C.2.2.2.2.1 gL_law_X5_load rfl rfl rfl (by decide +kernel) ⟨(Nat.le_of_ble_eq_true rfl), (Nat.le_of_ble_eq_true rfl)⟩) rfl (by decide) rfl e0_34 rfl rfl (Nat.le_of_ble_eq_true rfl) ⟨(Nat.le_of_ble_eq_true rfl), (Nat.le_of_ble_eq_true rfl)⟩ dL_law_667 ?_
        refine z_top (nI (ldM M (M 0 4))) (rfl) ?_
        refine z_iload C dL_law_670 rfl ?_
        refine z_icmp_neN C 679 (by omega) (by omega) dL_law_672 (by decide) (fun h672 => (by exfalso; exact h672 rfl)) (fun h672 => ?_)
        refine z_iconst C (nI (1)) dL_law_675 (by decide) ?_
        refine z_goto C 680 dL_law_676 (by decide) ?_
        refine z_istore C [(0, .ref (b)), (1, .ref (ad 0)), (2, .ref (ad 30)), (3, .ref (ad 31)), (4, .int (nI (1))), (5, .int (nI (S))), (6, .int (nI (B))), (7, .int (nI (k))), (8, .int (nI (y))), (15, .int (nI (r))), (16, .int (nI (x))), (17, .int (nI (pxM M r x))), (18, .int (nI (ldM M (M 0 4)))), (19, .int (nI (dmM (flipD M r x) bt))), (20, .int (shI t))] dL_law_680 (by decide) ⟨rfl, rfl, rfl, rfl, rfl, rfl, rfl, rfl, rfl, rfl, rfl, rfl, rfl, rfl, rfl, rfl, rfl, rfl, rfl, rfl, rfl, rfl, rfl, rfl, rfl, rfl, rfl, rfl, rfl, rfl, trivial⟩ ?_
        refine z_iincN (j := 1) C [(0, .ref (b)), (1, .ref (ad 0)), (2, .ref (ad 30)), (3, .ref (ad 31)), (4, .int (nI (1))), (5, .int (nI (S))), (6, .int (nI (B))), (7, .int (nI (k + 1))), (8, .int (nI (y))), (15, .int (nI (r))), (16, .int (nI (x))), (17, .int (nI (pxM M r x))), (18, .int (nI (ldM M (M 0 4)))), (19, .int (nI (dmM (flipD M r x) bt))), (20, .int (shI t))] dL_law_682 rfl (by decide) ⟨rfl, rfl, rfl, rfl, rfl, rfl, rfl, rfl, rfl, rfl, rfl, rfl, rfl, rfl, rfl, rfl, rfl, rfl, rfl, rfl, rfl, rfl, rfl, rfl, rfl, rfl, rfl, rfl, rfl, rfl, trivial⟩ ?_
        refine z_goto C 147 dL_law_685 (by decide) ?_
        refine z_lv [(0, .ref (b)), (1, .ref (ad 0)), (2, .ref (ad 30)), (3, .ref (ad 31)), (4, .int (nI (1))), (5, .int (nI (S))), (6, .int (nI (B))), (7, .int (nI (k + 1)))] ⟨rfl, rfl, rfl, rfl, rfl, rfl, rfl, rfl, rfl, rfl, rfl, rfl, rfl, rfl, rfl, rfl, trivial⟩ ?_
        exact next M Ez28 hKS hI33 hR36 f38 f39
      · have ht5 : t < 5 := by
          rcases Nat.lt_or_ge t 5 with z | z
          · exact z
          · exact absurd ((shI_3 t (by omega)).mpr (by omega)) h582
        have hbm := best_min (dmM (flipD M r x)) (t := t) (by omega)
        rw [← hbt] at hbm
        have hdt := dm_le hI3 t
        refine z_iload C dL_law_585 rfl ?_
        refine z_if_eqN C 614 (by omega) dL_law_587 (by decide) (fun h587 => (by exfalso; omega)) (fun h587 => ?_)
        refine z_aload_n C dL_law_590 rfl ?_
        refine z_iload C dL_law_591 rfl ?_
        refine z_callVF C (0) (Cn := RX5) (T := TX5) (N := 12) (k_X5_damage vl D cI cM A ad Ez2 hX (shI t) hI7 hR10) (cwV 1 C.2.2.2.2.1 gL_law_X5_damage rfl rfl rfl (by decide +kernel) ⟨(Nat.le_of_ble_eq_true rfl), (Nat.le_of_ble_eq_true rfl)⟩) rfl (by decide) rfl e0_8 rfl rfl (Nat.le_of_ble_eq_true rfl) ⟨(Nat.le_of_ble_eq_true rfl), (Nat.le_of_ble_eq_true rfl)⟩ dL_law_593 ?_
        refine z_top (nI (dmM (flipD M r x) t)) ((dm_op (by omega)).trans (by rw [dm_sh])) ?_
        refine z_iload C dL_law_596 rfl ?_
        refine z_icmp_ltN C 605 (by omega) (by omega) dL_law_598 (by decide) (fun h598 => (by exfalso; omega)) (fun h598 => ?_)
        refine z_iconst C (nI (1)) dL_law_601 (by decide) ?_
        refine z_goto C 606 dL_law_602 (by decide) ?_
        refine z_istore C [(0, .ref (b)), (1, .ref (ad 0)), (2, .ref (ad 30)), (3, .ref (ad 31)), (4, .int (nI (1))), (5, .int (nI (S))), (6, .int (nI (B))), (7, .int (nI (k))), (8, .int (nI (y))), (15, .int (nI (r))), (16, .int (nI (x))), (17, .int (nI (pxM M r x))), (18, .int (nI (ldM M (M 0 4)))), (19, .int (nI (dmM (flipD M r x) bt))), (20, .int (shI t))] dL_law_606 (by decide) ⟨rfl, rfl, rfl, rfl, rfl, rfl, rfl, rfl, rfl, rfl, rfl, rfl, rfl, rfl, rfl, rfl, rfl, rfl, rfl, rfl, rfl, rfl, rfl, rfl, rfl, rfl, rfl, rfl, rfl, rfl, trivial⟩ ?_
        refine z_iinc C [(0, .ref (b)), (1, .ref (ad 0)), (2, .ref (ad 30)), (3, .ref (ad 31)), (4, .int (nI (1))), (5, .int (nI (S))), (6, .int (nI (B))), (7, .int (nI (k))), (8, .int (nI (y))), (15, .int (nI (r))), (16, .int (nI (x))), (17, .int (nI (pxM M r x))), (18, .int (nI (ldM M (M 0 4)))), (19, .int (nI (dmM (flipD M r x) bt))), (20, .int (shI (t + 1)))] dL_law_608 rfl (shI_s t ht5) (by decide) ⟨rfl, rfl, rfl, rfl, rfl, rfl, rfl, rfl, rfl, rfl, rfl, rfl, rfl, rfl, rfl, rfl, rfl, rfl, rfl, rfl, rfl, rfl, rfl, rfl, rfl, rfl, rfl, rfl, rfl, rfl, trivial⟩ ?_
        refine z_goto C 579 dL_law_611 (by decide) ?_
        refine z_lv [(0, .ref (b)), (1, .ref (ad 0)), (2, .ref (ad 30)), (3, .ref (ad 31)), (4, .int (nI (1))), (5, .int (nI (S))), (6, .int (nI (B))), (7, .int (nI (k))), (8, .int (nI (y))), (15, .int (nI (r))), (16, .int (nI (x))), (17, .int (nI (pxM M r x))), (18, .int (nI (ldM M (M 0 4)))), (19, .int (nI (dmM (flipD M r x) bt))), (20, .int (shI (t + 1)))] ⟨rfl, rfl, rfl, rfl, rfl, rfl, rfl, rfl, rfl, rfl, rfl, rfl, rfl, rfl, rfl, rfl, rfl, rfl, rfl, rfl, rfl, rfl, rfl, rfl, rfl, rfl, rfl, rfl, rfl, rfl, trivial⟩ ?_
        exact ih579 (t + 1) (by omega) (by omega)
  refine z_lv [(0, .ref (b)), (1, .ref (ad 0)), (2, .ref (ad 30)), (3, .ref (ad 31)), (4, .int (nI (1))), (5, .int (nI (S))), (6, .int (nI (B))), (7, .int (nI (k))), (8, .int (nI (y))), (15, .int (nI (r))), (16, .int (nI (x))), (17, .int (nI (pxM M r x))), (18, .int (nI (ldM M (M 0 4)))), (19, .int (nI (dmM (flipD M r x) bt))), (20, .int (shI 0))] ⟨rfl, rfl, rfl, rfl, rfl, rfl, rfl, rfl, rfl, rfl, rfl, rfl, rfl, rfl, rfl, rfl, rfl, rfl, rfl, rfl, rfl, rfl, rfl, rfl, rfl, rfl, rfl, rfl, rfl, rfl, trivial⟩ ?_
  exact loop579 (6) 0 (Nat.zero_le _) (by omega)

