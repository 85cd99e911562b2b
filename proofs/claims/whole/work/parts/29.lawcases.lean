section ZL
variable {p : Program} {l : Launch} {e : Env} {R : Room} {s : State} {m : MethodId} {args : Array Value} {below : List Frame} {meth : Method} {c : Code}
variable {cc : ByteArray} {nL : Nat} {own : String} {Ts : List Cond} {D : va_G} {cI cM : ClassId} {A : Nat → Prop} {n : Nat} {ad : Nat → Nat} {E : Nat → va_E} {lv lv' : List (Nat × Value)} {cells slots : Nat} {Q : State → Prop} {pc : Nat} {st : List Value}
theorem z_sld (C : ZC p s m args meth c cc nL own Ts D cI cM) {b L j : Nat} {xs : Nat → Int32} (hXs : va_X b L xs s s.heap) (hbl : b < s.heap.size) (hbA : ¬ A b) (hj : j < L) (hL : L < 2 ^ 31) (hd : decode cc pc = .ok (.iaload, 1)) (k : Z p l e R s m args below meth c nL D A n ad E lv cells slots Q (pc + 1) (.int (xs j) :: st)) : Z p l e R s m args below meth c nL D A n ad E lv cells slots Q (pc) (.int (nI j) :: .ref b :: st) := fun H locs ls hP hS hl =>
  va_sld C.1 C.2.1 hXs hbl hbA hS (vp_in_nI hj hL) hd (by rw [nI_clamp (by omega)]; exact k H locs ls hP hS hl)
theorem z_slen (C : ZC p s m args meth c cc nL own Ts D cI cM) {b L : Nat} {xs : Nat → Int32} (hXs : va_X b L xs s s.heap) (hbl : b < s.heap.size) (hbA : ¬ A b) (hd : decode cc pc = .ok (.arraylength, 1)) (k : Z p l e R s m args below meth c nL D A n ad E lv cells slots Q (pc + 1) (.int (nI L) :: st)) : Z p l e R s m args below meth c nL D A n ad E lv cells slots Q (pc) (.ref b :: st) := fun H locs ls hP hS hl =>
  va_slen C.1 C.2.1 hXs hbl hbA hS hd (k H locs ls hP hS hl)
theorem z_tabIn (C : ZC p s m args meth c cc nL own Ts D cI cM) {dflt lo hi : Int} {offs : Array Int} {len : Nat} {x : Int32} (off : Int) (tgt : Nat) (hd : decode cc pc = .ok (.tableswitch dflt lo hi offs, len)) (h1 : ¬ x.toInt < lo) (h2 : ¬ hi < x.toInt) (ho : offs[(x.toInt - lo).toNat]? = some off) (ht : (pc : Int) + off = (tgt : Int)) (k : Z p l e R s m args below meth c nL D A n ad E lv cells slots Q tgt st) : Z p l e R s m args below meth c nL D A n ad E lv cells slots Q (pc) (.int x :: st) := fun H locs ls hP hS hl =>
  lv_tableIn C.1 C.2.1 hd h1 h2 ho ht (k H locs ls hP hS hl)
theorem z_tabOut (C : ZC p s m args meth c cc nL own Ts D cI cM) {dflt lo hi : Int} {offs : Array Int} {len : Nat} {x : Int32} (tgt : Nat) (hd : decode cc pc = .ok (.tableswitch dflt lo hi offs, len)) (h : x.toInt < lo ∨ hi < x.toInt) (ht : (pc : Int) + dflt = (tgt : Int)) (k : Z p l e R s m args below meth c nL D A n ad E lv cells slots Q tgt st) : Z p l e R s m args below meth c nL D A n ad E lv cells slots Q (pc) (.int x :: st) := fun H locs ls hP hS hl =>
  lv_tableOut C.1 C.2.1 hd h ht (k H locs ls hP hS hl)
end ZL
theorem RelX_0 {cI cM : ClassId} {ad : Nat → Nat} {M : St} {E : Nat → va_E} (h : RelX cI cM ad M E) : E 0 = dispE ad M (M 0 4) := by
  obtain ⟨pm, hY, -, -⟩ := h
  exact hY.1
theorem RelM_0 {cI : ClassId} {ad : Nat → Nat} {M : St} {E : Nat → va_E} (h : RelM cI ad M E) : ∃ sp : Nat, E 30 = modE ad M sp := by
  obtain ⟨gl, sz, co, lt, sp, e30, -⟩ := h
  exact ⟨sp, e30⟩
set_option maxHeartbeats 4000000 in
set_option maxRecDepth 100000 in
theorem lc_0 {p : Program} {vl : Launch} {e : Env} {s : State} {m : MethodId} {args : Array Value} {below : List Frame} {meth : Method} {c : Code} {D : va_G} {cI cM : ClassId} {A : Nat → Prop} {ad : Nat → Nat} {Q : State → Prop} {b L i : Nat} {xs : Nat → Int32} {M : St} {E : Nat → va_E} (C : ZC p s m args meth c code 4 RL wsL_law D cI cM) (hX : XD A 40 ad) (hXs : va_X b L xs s s.heap) (hbl : b < s.heap.size) (hbA : ¬ A b) (hL : L ≤ 2048) (hi : i + 4 ≤ L) (hI : Inv M) (hR : RelX cI cM ad M E) (hM : RelM cI ad M E) (next : ∀ (M2 : St) (E2 : Nat → va_E), Inv M2 → RelX cI cM ad M2 E2 → RelM cI ad M2 E2 → Z p vl e room_1 s m args below meth c 4 D A 40 ad E2 [(0, .ref b), (1, .ref (ad 0)), (2, .ref (ad 30)), (3, .int (nI i))] 40 3008 Q 820 []) : Z p vl e room_1 s m args below meth c 4 D A 40 ad E [(0, .ref b), (1, .ref (ad 0)), (2, .ref (ad 30)), (3, .int (nI i))] 40 3008 Q 160 [] := by
  have e0 := RelX_0 hR
  obtain ⟨sp0, g30⟩ := RelM_0 hM
  refine z_aload_n C dL_law_160 rfl ?_
  refine z_aload_n C dL_law_161 rfl ?_
  refine z_iload_n C dL_law_162 rfl ?_
  refine z_iconst C (nI (1)) dL_law_163 (by decide) ?_
  refine z_iaddN C  dL_law_164 ?_
  refine z_sld C hXs hbl hbA (by omega) (by omega) dL_law_165 ?_
  refine z_aload_n C dL_law_166 rfl ?_
  refine z_iload_n C dL_law_167 rfl ?_
  refine z_iconst C (nI (2)) dL_law_168 (by decide) ?_
  refine z_iaddN C  dL_law_169 ?_
  refine z_sld C hXs hbl hbA (by omega) (by omega) dL_law_170 ?_
  refine z_callVI C (0) (Cn := RX5) (T := TX5) (N := 12) (k_X5_setGlyphWidth vl D cI cM A ad E hX (xs (i + 1)) (xs (i + 2)) hI hR) (cwV 2 C.2.2.2.2.1 gL_law_X5_setGlyphWidth rfl rfl rfl (by decide +kernel) ⟨(Nat.le_of_ble_eq_true rfl), (Nat.le_of_ble_eq_true rfl)⟩) rfl (by decide) rfl e0 rfl rfl (Nat.le_of_ble_eq_true rfl) ⟨(Nat.le_of_ble_eq_true rfl), (Nat.le_of_ble_eq_true rfl)⟩ dL_law_171 (fun r1 E1 hp1 => ?_)
  obtain ⟨hr1, hR1, hf1⟩ := hp1
  have hM1 : RelM cI ad M E1 := hM.mv hf1
  obtain ⟨sp1, g31⟩ := RelM_0 hM1
  refine z_aload_n C dL_law_174 rfl ?_
  refine z_aload_n C dL_law_175 rfl ?_
  refine z_iload_n C dL_law_176 rfl ?_
  refine z_iconst C (nI (1)) dL_law_177 (by decide) ?_
  refine z_iaddN C  dL_law_178 ?_
  refine z_sld C hXs hbl hbA (by omega) (by omega) dL_law_179 ?_
  refine z_aload_n C dL_law_180 rfl ?_
  refine z_iload_n C dL_law_181 rfl ?_
  refine z_iconst C (nI (2)) dL_law_182 (by decide) ?_
  refine z_iaddN C  dL_law_183 ?_
  refine z_sld C hXs hbl hbA (by omega) (by omega) dL_law_184 ?_
  refine z_callVI C (30) (Cn := RX6) (T := TX6) (N := 19) (k_X6_setGlyphWidth vl D cI cM A ad E1 hX (xs (i + 1)) (xs (i + 2)) hI hM1) (cwV 2 C.2.2.2.2.1 gL_law_X6_setGlyphWidth rfl rfl rfl (by decide +kernel) ⟨(Nat.le_of_ble_eq_true rfl), (Nat.le_of_ble_eq_true rfl)⟩) rfl (by decide) rfl g31 rfl rfl (Nat.le_of_ble_eq_true rfl) ⟨(Nat.le_of_ble_eq_true rfl), (Nat.le_of_ble_eq_true rfl)⟩ dL_law_185 (fun r2 E2 hp2 => ?_)
  obtain ⟨hr2, hM2, hf2⟩ := hp2
  refine z_icmp_eq C 820 dL_law_188 (by decide) (fun _ => ?_) (fun h => absurd (hr1.trans hr2.symm) h)
  exact next _ _ (i_setGlyphWidth hI (xs (i + 1)) (xs (i + 2))) (hR1.mv hf2) hM2

set_option maxHeartbeats 4000000 in
set_option maxRecDepth 100000 in
theorem lc_1 {p : Program} {vl : Launch} {e : Env} {s : State} {m : MethodId} {args : Array Value} {below : List Frame} {meth : Method} {c : Code} {D : va_G} {cI cM : ClassId} {A : Nat → Prop} {ad : Nat → Nat} {Q : State → Prop} {b L i : Nat} {xs : Nat → Int32} {M : St} {E : Nat → va_E} (C : ZC p s m args meth c code 4 RL wsL_law D cI cM) (hX : XD A 40 ad) (hXs : va_X b L xs s s.heap) (hbl : b < s.heap.size) (hbA : ¬ A b) (hL : L ≤ 2048) (hi : i + 4 ≤ L) (hI : Inv M) (hR : RelX cI cM ad M E) (hM : RelM cI ad M E) (next : ∀ (M2 : St) (E2 : Nat → va_E), Inv M2 → RelX cI cM ad M2 E2 → RelM cI ad M2 E2 → Z p vl e room_1 s m args below meth c 4 D A 40 ad E2 [(0, .ref b), (1, .ref (ad 0)), (2, .ref (ad 30)), (3, .int (nI i))] 40 3008 Q 820 []) : Z p vl e room_1 s m args below meth c 4 D A 40 ad E [(0, .ref b), (1, .ref (ad 0)), (2, .ref (ad 30)), (3, .int (nI i))] 40 3008 Q 193 [] := by
  have e0 := RelX_0 hR
  obtain ⟨sp0, g30⟩ := RelM_0 hM
  refine z_aload_n C dL_law_193 rfl ?_
  refine z_aload_n C dL_law_194 rfl ?_
  refine z_iload_n C dL_law_195 rfl ?_
  refine z_iconst C (nI (1)) dL_law_196 (by decide) ?_
  refine z_iaddN C  dL_law_197 ?_
  refine z_sld C hXs hbl hbA (by omega) (by omega) dL_law_198 ?_
  refine z_aload_n C dL_law_199 rfl ?_
  refine z_iload_n C dL_law_200 rfl ?_
  refine z_iconst C (nI (2)) dL_law_201 (by decide) ?_
  refine z_iaddN C  dL_law_202 ?_
  refine z_sld C hXs hbl hbA (by omega) (by omega) dL_law_203 ?_
  refine z_aload_n C dL_law_204 rfl ?_
  refine z_iload_n C dL_law_205 rfl ?_
  refine z_iconst C (nI (3)) dL_law_206 (by decide) ?_
  refine z_iaddN C  dL_law_207 ?_
  refine z_sld C hXs hbl hbA (by omega) (by omega) dL_law_208 ?_
  refine z_callVI C (0) (Cn := RX5) (T := TX5) (N := 12) (k_X5_setGlyphColumn vl D cI cM A ad E hX (xs (i + 1)) (xs (i + 2)) (xs (i + 3)) hI hR) (cwV 3 C.2.2.2.2.1 gL_law_X5_setGlyphColumn rfl rfl rfl (by decide +kernel) ⟨(Nat.le_of_ble_eq_true rfl), (Nat.le_of_ble_eq_true rfl)⟩) rfl (by decide) rfl e0 rfl rfl (Nat.le_of_ble_eq_true rfl) ⟨(Nat.le_of_ble_eq_true rfl), (Nat.le_of_ble_eq_true rfl)⟩ dL_law_209 (fun r1 E1 hp1 => ?_)
  obtain ⟨hr1, hR1, hf1⟩ := hp1
  have hM1 : RelM cI ad M E1 := hM.mv hf1
  obtain ⟨sp1, g31⟩ := RelM_0 hM1
  refine z_aload_n C dL_law_212 rfl ?_
  refine z_aload_n C dL_law_213 rfl ?_
  refine z_iload_n C dL_law_214 rfl ?_
  refine z_iconst C (nI (1)) dL_law_215 (by decide) ?_
  refine z_iaddN C  dL_law_216 ?_
  refine z_sld C hXs hbl hbA (by omega) (by omega) dL_law_217 ?_
  refine z_aload_n C dL_law_218 rfl ?_
  refine z_iload_n C dL_law_219 rfl ?_
  refine z_iconst C (nI (2)) dL_law_220 (by decide) ?_
  refine z_iaddN C  dL_law_221 ?_
  refine z_sld C hXs hbl hbA (by omega) (by omega) dL_law_222 ?_
  refine z_aload_n C dL_law_223 rfl ?_
  refine z_iload_n C dL_law_224 rfl ?_
  refine z_iconst C (nI (3)) dL_law_225 (by decide) ?_
  refine z_iaddN C  dL_law_226 ?_
  refine z_sld C hXs hbl hbA (by omega) (by omega) dL_law_227 ?_
  refine z_callVI C (30) (Cn := RX6) (T := TX6) (N := 19) (k_X6_setGlyphColumn vl D cI cM A ad E1 hX (xs (i + 1)) (xs (i + 2)) (xs (i + 3)) hI hM1) (cwV 3 C.2.2.2.2.1 gL_law_X6_setGlyphColumn rfl rfl rfl (by decide +kernel) ⟨(Nat.le_of_ble_eq_true rfl), (Nat.le_of_ble_eq_true rfl)⟩) rfl (by decide) rfl g31 rfl rfl (Nat.le_of_ble_eq_true rfl) ⟨(Nat.le_of_ble_eq_true rfl), (Nat.le_of_ble_eq_true rfl)⟩ dL_law_228 (fun r2 E2 hp2 => ?_)
  obtain ⟨hr2, hM2, hf2⟩ := hp2
  refine z_icmp_eq C 820 dL_law_231 (by decide) (fun _ => ?_) (fun h => absurd (hr1.trans hr2.symm) h)
  exact next _ _ (i_setGlyphColumn hI (xs (i + 1)) (xs (i + 2)) (xs (i + 3))) (hR1.mv hf2) hM2

set_option maxHeartbeats 4000000 in
set_option maxRecDepth 100000 in
theorem lc_2 {p : Program} {vl : Launch} {e : Env} {s : State} {m : MethodId} {args : Array Value} {below : List Frame} {meth : Method} {c : Code} {D : va_G} {cI cM : ClassId} {A : Nat → Prop} {ad : Nat → Nat} {Q : State → Prop} {b L i : Nat} {xs : Nat → Int32} {M : St} {E : Nat → va_E} (C : ZC p s m args meth c code 4 RL wsL_law D cI cM) (hX : XD A 40 ad) (hXs : va_X b L xs s s.heap) (hbl : b < s.heap.size) (hbA : ¬ A b) (hL : L ≤ 2048) (hi : i + 4 ≤ L) (hI : Inv M) (hR : RelX cI cM ad M E) (hM : RelM cI ad M E) (next : ∀ (M2 : St) (E2 : Nat → va_E), Inv M2 → RelX cI cM ad M2 E2 → RelM cI ad M2 E2 → Z p vl e room_1 s m args below meth c 4 D A 40 ad E2 [(0, .ref b), (1, .ref (ad 0)), (2, .ref (ad 30)), (3, .int (nI i))] 40 3008 Q 820 []) : Z p vl e room_1 s m args below meth c 4 D A 40 ad E [(0, .ref b), (1, .ref (ad 0)), (2, .ref (ad 30)), (3, .int (nI i))] 40 3008 Q 236 [] := by
  have e0 := RelX_0 hR
  obtain ⟨sp0, g30⟩ := RelM_0 hM
  refine z_aload_n C dL_law_236 rfl ?_
  refine z_aload_n C dL_law_237 rfl ?_
  refine z_iload_n C dL_law_238 rfl ?_
  refine z_iconst C (nI (1)) dL_law_239 (by decide) ?_
  refine z_iaddN C  dL_law_240 ?_
  refine z_sld C hXs hbl hbA (by omega) (by omega) dL_law_241 ?_
  refine z_aload_n C dL_law_242 rfl ?_
  refine z_iload_n C dL_law_243 rfl ?_
  refine z_iconst C (nI (2)) dL_law_244 (by decide) ?_
  refine z_iaddN C  dL_law_245 ?_
  refine z_sld C hXs hbl hbA (by omega) (by omega) dL_law_246 ?_
  refine z_callVF C (0) (Cn := RX5) (T := TX5) (N := 12) (k_X5_glyphColumn vl D cI cM A ad E hX (xs (i + 1)) (xs (i + 2)) hI hR) (cwV 2 C.2.2.2.2.1 gL_law_X5_glyphColumn rfl rfl rfl (by decide +kernel) ⟨(Nat.le_of_ble_eq_true rfl), (Nat.le_of_ble_eq_true rfl)⟩) rfl (by decide) rfl e0 rfl rfl (Nat.le_of_ble_eq_true rfl) ⟨(Nat.le_of_ble_eq_true rfl), (Nat.le_of_ble_eq_true rfl)⟩ dL_law_247 ?_
  refine z_aload_n C dL_law_250 rfl ?_
  refine z_aload_n C dL_law_251 rfl ?_
  refine z_iload_n C dL_law_252 rfl ?_
  refine z_iconst C (nI (1)) dL_law_253 (by decide) ?_
  refine z_iaddN C  dL_law_254 ?_
  refine z_sld C hXs hbl hbA (by omega) (by omega) dL_law_255 ?_
  refine z_aload_n C dL_law_256 rfl ?_
  refine z_iload_n C dL_law_257 rfl ?_
  refine z_iconst C (nI (2)) dL_law_258 (by decide) ?_
  refine z_iaddN C  dL_law_259 ?_
  refine z_sld C hXs hbl hbA (by omega) (by omega) dL_law_260 ?_
  refine z_callVF C (30) (Cn := RX6) (T := TX6) (N := 19) (k_X6_glyphColumn vl D cI cM A ad E hX (xs (i + 1)) (xs (i + 2)) hI hM) (cwV 2 C.2.2.2.2.1 gL_law_X6_glyphColumn rfl rfl rfl (by decide +kernel) ⟨(Nat.le_of_ble_eq_true rfl), (Nat.le_of_ble_eq_true rfl)⟩) rfl (by decide) rfl g30 rfl rfl (Nat.le_of_ble_eq_true rfl) ⟨(Nat.le_of_ble_eq_true rfl), (Nat.le_of_ble_eq_true rfl)⟩ dL_law_261 ?_
  refine z_icmp_eq C 820 dL_law_264 (by decide) (fun _ => ?_) (fun h => absurd rfl h)
  exact next M E hI hR hM

set_option maxHeartbeats 4000000 in
set_option maxRecDepth 100000 in
theorem lc_3 {p : Program} {vl : Launch} {e : Env} {s : State} {m : MethodId} {args : Array Value} {below : List Frame} {meth : Method} {c : Code} {D : va_G} {cI cM : ClassId} {A : Nat → Prop} {ad : Nat → Nat} {Q : State → Prop} {b L i : Nat} {xs : Nat → Int32} {M : St} {E : Nat → va_E} (C : ZC p s m args meth c code 4 RL wsL_law D cI cM) (hX : XD A 40 ad) (hXs : va_X b L xs s s.heap) (hbl : b < s.heap.size) (hbA : ¬ A b) (hL : L ≤ 2048) (hi : i + 4 ≤ L) (hI : Inv M) (hR : RelX cI cM ad M E) (hM : RelM cI ad M E) (next : ∀ (M2 : St) (E2 : Nat → va_E), Inv M2 → RelX cI cM ad M2 E2 → RelM cI ad M2 E2 → Z p vl e room_1 s m args below meth c 4 D A 40 ad E2 [(0, .ref b), (1, .ref (ad 0)), (2, .ref (ad 30)), (3, .int (nI i))] 40 3008 Q 820 []) : Z p vl e room_1 s m args below meth c 4 D A 40 ad E [(0, .ref b), (1, .ref (ad 0)), (2, .ref (ad 30)), (3, .int (nI i))] 40 3008 Q 269 [] := by
  have e0 := RelX_0 hR
  obtain ⟨sp0, g30⟩ := RelM_0 hM
  refine z_aload_n C dL_law_269 rfl ?_
  refine z_aload_n C dL_law_270 rfl ?_
  refine z_iload_n C dL_law_271 rfl ?_
  refine z_iconst C (nI (1)) dL_law_272 (by decide) ?_
  refine z_iaddN C  dL_law_273 ?_
  refine z_sld C hXs hbl hbA (by omega) (by omega) dL_law_274 ?_
  refine z_callVI C (0) (Cn := RX5) (T := TX5) (N := 12) (k_X5_append vl D cI cM A ad E hX (xs (i + 1)) hI hR) (cwV 1 C.2.2.2.2.1 gL_law_X5_append rfl rfl rfl (by decide +kernel) ⟨(Nat.le_of_ble_eq_true rfl), (Nat.le_of_ble_eq_true rfl)⟩) rfl (by decide) rfl e0 rfl rfl (Nat.le_of_ble_eq_true rfl) ⟨(Nat.le_of_ble_eq_true rfl), (Nat.le_of_ble_eq_true rfl)⟩ dL_law_275 (fun r1 E1 hp1 => ?_)
  obtain ⟨hr1, hR1, hf1⟩ := hp1
  have hM1 : RelM cI ad M E1 := hM.mv hf1
  obtain ⟨sp1, g31⟩ := RelM_0 hM1
  refine z_aload_n C dL_law_278 rfl ?_
  refine z_aload_n C dL_law_279 rfl ?_
  refine z_iload_n C dL_law_280 rfl ?_
  refine z_iconst C (nI (1)) dL_law_281 (by decide) ?_
  refine z_iaddN C  dL_law_282 ?_
  refine z_sld C hXs hbl hbA (by omega) (by omega) dL_law_283 ?_
  refine z_callVI C (30) (Cn := RX6) (T := TX6) (N := 19) (k_X6_append vl D cI cM A ad E1 hX (xs (i + 1)) hI hM1) (cwV 1 C.2.2.2.2.1 gL_law_X6_append rfl rfl rfl (by decide +kernel) ⟨(Nat.le_of_ble_eq_true rfl), (Nat.le_of_ble_eq_true rfl)⟩) rfl (by decide) rfl g31 rfl rfl (Nat.le_of_ble_eq_true rfl) ⟨(Nat.le_of_ble_eq_true rfl), (Nat.le_of_ble_eq_true rfl)⟩ dL_law_284 (fun r2 E2 hp2 => ?_)
  obtain ⟨hr2, hM2, hf2⟩ := hp2
  refine z_icmp_eq C 820 dL_law_287 (by decide) (fun _ => ?_) (fun h => absurd (hr1.trans hr2.symm) h)
  exact next _ _ (i_append hI (xs (i + 1))) (hR1.mv hf2) hM2

set_option maxHeartbeats 4000000 in
set_option maxRecDepth 100000 in
theorem lc_4 {p : Program} {vl : Launch} {e : Env} {s : State} {m : MethodId} {args : Array Value} {below : List Frame} {meth : Method} {c : Code} {D : va_G} {cI cM : ClassId} {A : Nat → Prop} {ad : Nat → Nat} {Q : State → Prop} {b L i : Nat} {xs : Nat → Int32} {M : St} {E : Nat → va_E} (C : ZC p s m args meth c code 4 RL wsL_law D cI cM) (hX : XD A 40 ad) (hXs : va_X b L xs s s.heap) (hbl : b < s.heap.size) (hbA : ¬ A b) (hL : L ≤ 2048) (hi : i + 4 ≤ L) (hI : Inv M) (hR : RelX cI cM ad M E) (hM : RelM cI ad M E) (next : ∀ (M2 : St) (E2 : Nat → va_E), Inv M2 → RelX cI cM ad M2 E2 → RelM cI ad M2 E2 → Z p vl e room_1 s m args below meth c 4 D A 40 ad E2 [(0, .ref b), (1, .ref (ad 0)), (2, .ref (ad 30)), (3, .int (nI i))] 40 3008 Q 820 []) : Z p vl e room_1 s m args below meth c 4 D A 40 ad E [(0, .ref b), (1, .ref (ad 0)), (2, .ref (ad 30)), (3, .int (nI i))] 40 3008 Q 292 [] := by
  have e0 := RelX_0 hR
  obtain ⟨sp0, g30⟩ := RelM_0 hM
  refine z_aload_n C dL_law_292 rfl ?_
  refine z_callVI C (0) (Cn := RX5) (T := TX5) (N := 12) (k_X5_clearText vl D cI cM A ad E hX  hI hR) (cwV 0 C.2.2.2.2.1 gL_law_X5_clearText rfl rfl rfl (by decide +kernel) ⟨(Nat.le_of_ble_eq_true rfl), (Nat.le_of_ble_eq_true rfl)⟩) rfl (by decide) rfl e0 rfl rfl (Nat.le_of_ble_eq_true rfl) ⟨(Nat.le_of_ble_eq_true rfl), (Nat.le_of_ble_eq_true rfl)⟩ dL_law_293 (fun r1 E1 hp1 => ?_)
  obtain ⟨hr1, hR1, hf1⟩ := hp1
  have hM1 : RelM cI ad M E1 := hM.mv hf1
  obtain ⟨sp1, g31⟩ := RelM_0 hM1
  refine z_aload_n C dL_law_296 rfl ?_
  refine z_callVI C (30) (Cn := RX6) (T := TX6) (N := 19) (k_X6_clearText vl D cI cM A ad E1 hX  hI hM1) (cwV 0 C.2.2.2.2.1 gL_law_X6_clearText rfl rfl rfl (by decide +kernel) ⟨(Nat.le_of_ble_eq_true rfl), (Nat.le_of_ble_eq_true rfl)⟩) rfl (by decide) rfl g31 rfl rfl (Nat.le_of_ble_eq_true rfl) ⟨(Nat.le_of_ble_eq_true rfl), (Nat.le_of_ble_eq_true rfl)⟩ dL_law_297 (fun r2 E2 hp2 => ?_)
  obtain ⟨hr2, hM2, hf2⟩ := hp2
  refine z_icmp_eq C 820 dL_law_300 (by decide) (fun _ => ?_) (fun h => absurd (hr1.trans hr2.symm) h)
  exact next _ _ (i_clearText hI ) (hR1.mv hf2) hM2

set_option maxHeartbeats 4000000 in
set_option maxRecDepth 100000 in
theorem lc_5 {p : Program} {vl : Launch} {e : Env} {s : State} {m : MethodId} {args : Array Value} {below : List Frame} {meth : Method} {c : Code} {D : va_G} {cI cM : ClassId} {A : Nat → Prop} {ad : Nat → Nat} {Q : State → Prop} {b L i : Nat} {xs : Nat → Int32} {M : St} {E : Nat → va_E} (C : ZC p s m args meth c code 4 RL wsL_law D cI cM) (hX : XD A 40 ad) (hXs : va_X b L xs s s.heap) (hbl : b < s.heap.size) (hbA : ¬ A b) (hL : L ≤ 2048) (hi : i + 4 ≤ L) (hI : Inv M) (hR : RelX cI cM ad M E) (hM : RelM cI ad M E) (next : ∀ (M2 : St) (E2 : Nat → va_E), Inv M2 → RelX cI cM ad M2 E2 → RelM cI ad M2 E2 → Z p vl e room_1 s m args below meth c 4 D A 40 ad E2 [(0, .ref b), (1, .ref (ad 0)), (2, .ref (ad 30)), (3, .int (nI i))] 40 3008 Q 820 []) : Z p vl e room_1 s m args below meth c 4 D A 40 ad E [(0, .ref b), (1, .ref (ad 0)), (2, .ref (ad 30)), (3, .int (nI i))] 40 3008 Q 305 [] := by
  have e0 := RelX_0 hR
  obtain ⟨sp0, g30⟩ := RelM_0 hM
  refine z_aload_n C dL_law_305 rfl ?_
  refine z_aload_n C dL_law_306 rfl ?_
  refine z_iload_n C dL_law_307 rfl ?_
  refine z_iconst C (nI (1)) dL_law_308 (by decide) ?_
  refine z_iaddN C  dL_law_309 ?_
  refine z_sld C hXs hbl hbA (by omega) (by omega) dL_law_310 ?_
  refine z_aload_n C dL_law_311 rfl ?_
  refine z_iload_n C dL_law_312 rfl ?_
  refine z_iconst C (nI (2)) dL_law_313 (by decide) ?_
  refine z_iaddN C  dL_law_314 ?_
  refine z_sld C hXs hbl hbA (by omega) (by omega) dL_law_315 ?_
  refine z_callVI C (0) (Cn := RX5) (T := TX5) (N := 12) (k_X5_insertMessage vl D cI cM A ad E hX (xs (i + 1)) (xs (i + 2)) hI hR) (cwV 2 C.2.2.2.2.1 gL_law_X5_insertMessage rfl rfl rfl (by decide +kernel) ⟨(Nat.le_of_ble_eq_true rfl), (Nat.le_of_ble_eq_true rfl)⟩) rfl (by decide) rfl e0 rfl rfl (Nat.le_of_ble_eq_true rfl) ⟨(Nat.le_of_ble_eq_true rfl), (Nat.le_of_ble_eq_true rfl)⟩ dL_law_316 (fun r1 E1 hp1 => ?_)
  obtain ⟨hr1, hR1, hf1⟩ := hp1
  have hM1 : RelM cI ad M E1 := hM.mv hf1
  obtain ⟨sp1, g31⟩ := RelM_0 hM1
  refine z_aload_n C dL_law_319 rfl ?_
  refine z_aload_n C dL_law_320 rfl ?_
  refine z_iload_n C dL_law_321 rfl ?_
  refine z_iconst C (nI (1)) dL_law_322 (by decide) ?_
  refine z_iaddN C  dL_law_323 ?_
  refine z_sld C hXs hbl hbA (by omega) (by omega) dL_law_324 ?_
  refine z_aload_n C dL_law_325 rfl ?_
  refine z_iload_n C dL_law_326 rfl ?_
  refine z_iconst C (nI (2)) dL_law_327 (by decide) ?_
  refine z_iaddN C  dL_law_328 ?_
  refine z_sld C hXs hbl hbA (by omega) (by omega) dL_law_329 ?_
  refine z_callVI C (30) (Cn := RX6) (T := TX6) (N := 19) (k_X6_insertMessage vl D cI cM A ad E1 hX (xs (i + 1)) (xs (i + 2)) hI hM1) (cwV 2 C.2.2.2.2.1 gL_law_X6_insertMessage rfl rfl rfl (by decide +kernel) ⟨(Nat.le_of_ble_eq_true rfl), (Nat.le_of_ble_eq_true rfl)⟩) rfl (by decide) rfl g31 rfl rfl (Nat.le_of_ble_eq_true rfl) ⟨(Nat.le_of_ble_eq_true rfl), (Nat.le_of_ble_eq_true rfl)⟩ dL_law_330 (fun r2 E2 hp2 => ?_)
  obtain ⟨hr2, hM2, hf2⟩ := hp2
  refine z_icmp_eq C 820 dL_law_333 (by decide) (fun _ => ?_) (fun h => absurd (hr1.trans hr2.symm) h)
  exact next _ _ (i_insertMessage hI (xs (i + 1)) (xs (i + 2))) (hR1.mv hf2) hM2

set_option maxHeartbeats 4000000 in
set_option maxRecDepth 100000 in
theorem lc_6 {p : Program} {vl : Launch} {e : Env} {s : State} {m : MethodId} {args : Array Value} {below : List Frame} {meth : Method} {c : Code} {D : va_G} {cI cM : ClassId} {A : Nat → Prop} {ad : Nat → Nat} {Q : State → Prop} {b L i : Nat} {xs : Nat → Int32} {M : St} {E : Nat → va_E} (C : ZC p s m args meth c code 4 RL wsL_law D cI cM) (hX : XD A 40 ad) (hXs : va_X b L xs s s.heap) (hbl : b < s.heap.size) (hbA : ¬ A b) (hL : L ≤ 2048) (hi : i + 4 ≤ L) (hI : Inv M) (hR : RelX cI cM ad M E) (hM : RelM cI ad M E) (next : ∀ (M2 : St) (E2 : Nat → va_E), Inv M2 → RelX cI cM ad M2 E2 → RelM cI ad M2 E2 → Z p vl e room_1 s m args below meth c 4 D A 40 ad E2 [(0, .ref b), (1, .ref (ad 0)), (2, .ref (ad 30)), (3, .int (nI i))] 40 3008 Q 820 []) : Z p vl e room_1 s m args below meth c 4 D A 40 ad E [(0, .ref b), (1, .ref (ad 0)), (2, .ref (ad 30)), (3, .int (nI i))] 40 3008 Q 338 [] := by
  have e0 := RelX_0 hR
  obtain ⟨sp0, g30⟩ := RelM_0 hM
  refine z_aload_n C dL_law_338 rfl ?_
  refine z_aload_n C dL_law_339 rfl ?_
  refine z_iload_n C dL_law_340 rfl ?_
  refine z_iconst C (nI (1)) dL_law_341 (by decide) ?_
  refine z_iaddN C  dL_law_342 ?_
  refine z_sld C hXs hbl hbA (by omega) (by omega) dL_law_343 ?_
  refine z_callVI C (0) (Cn := RX5) (T := TX5) (N := 12) (k_X5_removeMessage vl D cI cM A ad E hX (xs (i + 1)) hI hR) (cwV 1 C.2.2.2.2.1 gL_law_X5_removeMessage rfl rfl rfl (by decide +kernel) ⟨(Nat.le_of_ble_eq_true rfl), (Nat.le_of_ble_eq_true rfl)⟩) rfl (by decide) rfl e0 rfl rfl (Nat.le_of_ble_eq_true rfl) ⟨(Nat.le_of_ble_eq_true rfl), (Nat.le_of_ble_eq_true rfl)⟩ dL_law_344 (fun r1 E1 hp1 => ?_)
  obtain ⟨hr1, hR1, hf1⟩ := hp1
  have hM1 : RelM cI ad M E1 := hM.mv hf1
  obtain ⟨sp1, g31⟩ := RelM_0 hM1
  refine z_aload_n C dL_law_347 rfl ?_
  refine z_aload_n C dL_law_348 rfl ?_
  refine z_iload_n C dL_law_349 rfl ?_
  refine z_iconst C (nI (1)) dL_law_350 (by decide) ?_
  refine z_iaddN C  dL_law_351 ?_
  refine z_sld C hXs hbl hbA (by omega) (by omega) dL_law_352 ?_
  refine z_callVI C (30) (Cn := RX6) (T := TX6) (N := 19) (k_X6_removeMessage vl D cI cM A ad E1 hX (xs (i + 1)) hI hM1) (cwV 1 C.2.2.2.2.1 gL_law_X6_removeMessage rfl rfl rfl (by decide +kernel) ⟨(Nat.le_of_ble_eq_true rfl), (Nat.le_of_ble_eq_true rfl)⟩) rfl (by decide) rfl g31 rfl rfl (Nat.le_of_ble_eq_true rfl) ⟨(Nat.le_of_ble_eq_true rfl), (Nat.le_of_ble_eq_true rfl)⟩ dL_law_353 (fun r2 E2 hp2 => ?_)
  obtain ⟨hr2, hM2, hf2⟩ := hp2
  refine z_icmp_eq C 820 dL_law_356 (by decide) (fun _ => ?_) (fun h => absurd (hr1.trans hr2.symm) h)
  exact next _ _ (i_removeMessage hI (xs (i + 1))) (hR1.mv hf2) hM2

set_option maxHeartbeats 4000000 in
set_option maxRecDepth 100000 in
theorem lc_7 {p : Program} {vl : Launch} {e : Env} {s : State} {m : MethodId} {args : Array Value} {below : List Frame} {meth : Method} {c : Code} {D : va_G} {cI cM : ClassId} {A : Nat → Prop} {ad : Nat → Nat} {Q : State → Prop} {b L i : Nat} {xs : Nat → Int32} {M : St} {E : Nat → va_E} (C : ZC p s m args meth c code 4 RL wsL_law D cI cM) (hX : XD A 40 ad) (hXs : va_X b L xs s s.heap) (hbl : b < s.heap.size) (hbA : ¬ A b) (hL : L ≤ 2048) (hi : i + 4 ≤ L) (hI : Inv M) (hR : RelX cI cM ad M E) (hM : RelM cI ad M E) (next : ∀ (M2 : St) (E2 : Nat → va_E), Inv M2 → RelX cI cM ad M2 E2 → RelM cI ad M2 E2 → Z p vl e room_1 s m args below meth c 4 D A 40 ad E2 [(0, .ref b), (1, .ref (ad 0)), (2, .ref (ad 30)), (3, .int (nI i))] 40 3008 Q 820 []) : Z p vl e room_1 s m args below meth c 4 D A 40 ad E [(0, .ref b), (1, .ref (ad 0)), (2, .ref (ad 30)), (3, .int (nI i))] 40 3008 Q 361 [] := by
  have e0 := RelX_0 hR
  obtain ⟨sp0, g30⟩ := RelM_0 hM
  refine z_aload_n C dL_law_361 rfl ?_
  refine z_aload_n C dL_law_362 rfl ?_
  refine z_iload_n C dL_law_363 rfl ?_
  refine z_iconst C (nI (1)) dL_law_364 (by decide) ?_
  refine z_iaddN C  dL_law_365 ?_
  refine z_sld C hXs hbl hbA (by omega) (by omega) dL_law_366 ?_
  refine z_aload_n C dL_law_367 rfl ?_
  refine z_iload_n C dL_law_368 rfl ?_
  refine z_iconst C (nI (2)) dL_law_369 (by decide) ?_
  refine z_iaddN C  dL_law_370 ?_
  refine z_sld C hXs hbl hbA (by omega) (by omega) dL_law_371 ?_
  refine z_callVI C (0) (Cn := RX5) (T := TX5) (N := 12) (k_X5_setColor vl D cI cM A ad E hX (xs (i + 1)) (xs (i + 2)) hI hR) (cwV 2 C.2.2.2.2.1 gL_law_X5_setColor rfl rfl rfl (by decide +kernel) ⟨(Nat.le_of_ble_eq_true rfl), (Nat.le_of_ble_eq_true rfl)⟩) rfl (by decide) rfl e0 rfl rfl (Nat.le_of_ble_eq_true rfl) ⟨(Nat.le_of_ble_eq_true rfl), (Nat.le_of_ble_eq_true rfl)⟩ dL_law_372 (fun r1 E1 hp1 => ?_)
  obtain ⟨hr1, hR1, hf1⟩ := hp1
  have hM1 : RelM cI ad M E1 := hM.mv hf1
  obtain ⟨sp1, g31⟩ := RelM_0 hM1
  refine z_aload_n C dL_law_375 rfl ?_
  refine z_aload_n C dL_law_376 rfl ?_
  refine z_iload_n C dL_law_377 rfl ?_
  refine z_iconst C (nI (1)) dL_law_378 (by decide) ?_
  refine z_iaddN C  dL_law_379 ?_
  refine z_sld C hXs hbl hbA (by omega) (by omega) dL_law_380 ?_
  refine z_aload_n C dL_law_381 rfl ?_
  refine z_iload_n C dL_law_382 rfl ?_
  refine z_iconst C (nI (2)) dL_law_383 (by decide) ?_
  refine z_iaddN C  dL_law_384 ?_
  refine z_sld C hXs hbl hbA (by omega) (by omega) dL_law_385 ?_
  refine z_callVI C (30) (Cn := RX6) (T := TX6) (N := 19) (k_X6_setColor vl D cI cM A ad E1 hX (xs (i + 1)) (xs (i + 2)) hI hM1) (cwV 2 C.2.2.2.2.1 gL_law_X6_setColor rfl rfl rfl (by decide +kernel) ⟨(Nat.le_of_ble_eq_true rfl), (Nat.le_of_ble_eq_true rfl)⟩) rfl (by decide) rfl g31 rfl rfl (Nat.le_of_ble_eq_true rfl) ⟨(Nat.le_of_ble_eq_true rfl), (Nat.le_of_ble_eq_true rfl)⟩ dL_law_386 (fun r2 E2 hp2 => ?_)
  obtain ⟨hr2, hM2, hf2⟩ := hp2
  refine z_icmp_eq C 820 dL_law_389 (by decide) (fun _ => ?_) (fun h => absurd (hr1.trans hr2.symm) h)
  exact next _ _ (i_setColor hI (xs (i + 1)) (xs (i + 2))) (hR1.mv hf2) hM2

set_option maxHeartbeats 4000000 in
set_option maxRecDepth 100000 in
theorem lc_8 {p : Program} {vl : Launch} {e : Env} {s : State} {m : MethodId} {args : Array Value} {below : List Frame} {meth : Method} {c : Code} {D : va_G} {cI cM : ClassId} {A : Nat → Prop} {ad : Nat → Nat} {Q : State → Prop} {b L i : Nat} {xs : Nat → Int32} {M : St} {E : Nat → va_E} (C : ZC p s m args meth c code 4 RL wsL_law D cI cM) (hX : XD A 40 ad) (hXs : va_X b L xs s s.heap) (hbl : b < s.heap.size) (hbA : ¬ A b) (hL : L ≤ 2048) (hi : i + 4 ≤ L) (hI : Inv M) (hR : RelX cI cM ad M E) (hM : RelM cI ad M E) (next : ∀ (M2 : St) (E2 : Nat → va_E), Inv M2 → RelX cI cM ad M2 E2 → RelM cI ad M2 E2 → Z p vl e room_1 s m args below meth c 4 D A 40 ad E2 [(0, .ref b), (1, .ref (ad 0)), (2, .ref (ad 30)), (3, .int (nI i))] 40 3008 Q 820 []) : Z p vl e room_1 s m args below meth c 4 D A 40 ad E [(0, .ref b), (1, .ref (ad 0)), (2, .ref (ad 30)), (3, .int (nI i))] 40 3008 Q 394 [] := by
  have e0 := RelX_0 hR
  obtain ⟨sp0, g30⟩ := RelM_0 hM
  refine z_aload_n C dL_law_394 rfl ?_
  refine z_aload_n C dL_law_395 rfl ?_
  refine z_iload_n C dL_law_396 rfl ?_
  refine z_iconst C (nI (1)) dL_law_397 (by decide) ?_
  refine z_iaddN C  dL_law_398 ?_
  refine z_sld C hXs hbl hbA (by omega) (by omega) dL_law_399 ?_
  refine z_callVF C (0) (Cn := RX5) (T := TX5) (N := 12) (k_X5_messageWidth vl D cI cM A ad E hX (xs (i + 1)) hI hR) (cwV 1 C.2.2.2.2.1 gL_law_X5_messageWidth rfl rfl rfl (by decide +kernel) ⟨(Nat.le_of_ble_eq_true rfl), (Nat.le_of_ble_eq_true rfl)⟩) rfl (by decide) rfl e0 rfl rfl (Nat.le_of_ble_eq_true rfl) ⟨(Nat.le_of_ble_eq_true rfl), (Nat.le_of_ble_eq_true rfl)⟩ dL_law_400 ?_
  refine z_aload_n C dL_law_403 rfl ?_
  refine z_aload_n C dL_law_404 rfl ?_
  refine z_iload_n C dL_law_405 rfl ?_
  refine z_iconst C (nI (1)) dL_law_406 (by decide) ?_
  refine z_iaddN C  dL_law_407 ?_
  refine z_sld C hXs hbl hbA (by omega) (by omega) dL_law_408 ?_
  refine z_callVF C (30) (Cn := RX6) (T := TX6) (N := 19) (k_X6_messageWidth vl D cI cM A ad E hX (xs (i + 1)) hI hM) (cwV 1 C.2.2.2.2.1 gL_law_X6_messageWidth rfl rfl rfl (by decide +kernel) ⟨(Nat.le_of_ble_eq_true rfl), (Nat.le_of_ble_eq_true rfl)⟩) rfl (by decide) rfl g30 rfl rfl (Nat.le_of_ble_eq_true rfl) ⟨(Nat.le_of_ble_eq_true rfl), (Nat.le_of_ble_eq_true rfl)⟩ dL_law_409 ?_
  refine z_icmp_eq C 820 dL_law_412 (by decide) (fun _ => ?_) (fun h => absurd rfl h)
  exact next M E hI hR hM

set_option maxHeartbeats 4000000 in
set_option maxRecDepth 100000 in
theorem lc_9 {p : Program} {vl : Launch} {e : Env} {s : State} {m : MethodId} {args : Array Value} {below : List Frame} {meth : Method} {c : Code} {D : va_G} {cI cM : ClassId} {A : Nat → Prop} {ad : Nat → Nat} {Q : State → Prop} {b L i : Nat} {xs : Nat → Int32} {M : St} {E : Nat → va_E} (C : ZC p s m args meth c code 4 RL wsL_law D cI cM) (hX : XD A 40 ad) (hXs : va_X b L xs s s.heap) (hbl : b < s.heap.size) (hbA : ¬ A b) (hL : L ≤ 2048) (hi : i + 4 ≤ L) (hI : Inv M) (hR : RelX cI cM ad M E) (hM : RelM cI ad M E) (next : ∀ (M2 : St) (E2 : Nat → va_E), Inv M2 → RelX cI cM ad M2 E2 → RelM cI ad M2 E2 → Z p vl e room_1 s m args below meth c 4 D A 40 ad E2 [(0, .ref b), (1, .ref (ad 0)), (2, .ref (ad 30)), (3, .int (nI i))] 40 3008 Q 820 []) : Z p vl e room_1 s m args below meth c 4 D A 40 ad E [(0, .ref b), (1, .ref (ad 0)), (2, .ref (ad 30)), (3, .int (nI i))] 40 3008 Q 417 [] := by
  have e0 := RelX_0 hR
  obtain ⟨sp0, g30⟩ := RelM_0 hM
  refine z_aload_n C dL_law_417 rfl ?_
  refine z_aload_n C dL_law_418 rfl ?_
  refine z_iload_n C dL_law_419 rfl ?_
  refine z_iconst C (nI (1)) dL_law_420 (by decide) ?_
  refine z_iaddN C  dL_law_421 ?_
  refine z_sld C hXs hbl hbA (by omega) (by omega) dL_law_422 ?_
  refine z_callVF C (0) (Cn := RX5) (T := TX5) (N := 12) (k_X5_messageStart vl D cI cM A ad E hX (xs (i + 1)) hI hR) (cwV 1 C.2.2.2.2.1 gL_law_X5_messageStart rfl rfl rfl (by decide +kernel) ⟨(Nat.le_of_ble_eq_true rfl), (Nat.le_of_ble_eq_true rfl)⟩) rfl (by decide) rfl e0 rfl rfl (Nat.le_of_ble_eq_true rfl) ⟨(Nat.le_of_ble_eq_true rfl), (Nat.le_of_ble_eq_true rfl)⟩ dL_law_423 ?_
  refine z_aload_n C dL_law_426 rfl ?_
  refine z_aload_n C dL_law_427 rfl ?_
  refine z_iload_n C dL_law_428 rfl ?_
  refine z_iconst C (nI (1)) dL_law_429 (by decide) ?_
  refine z_iaddN C  dL_law_430 ?_
  refine z_sld C hXs hbl hbA (by omega) (by omega) dL_law_431 ?_
  refine z_callVF C (30) (Cn := RX6) (T := TX6) (N := 19) (k_X6_messageStart vl D cI cM A ad E hX (xs (i + 1)) hI hM) (cwV 1 C.2.2.2.2.1 gL_law_X6_messageStart rfl rfl rfl (by decide +kernel) ⟨(Nat.le_of_ble_eq_true rfl), (Nat.le_of_ble_eq_true rfl)⟩) rfl (by decide) rfl g30 rfl rfl (Nat.le_of_ble_eq_true rfl) ⟨(Nat.le_of_ble_eq_true rfl), (Nat.le_of_ble_eq_true rfl)⟩ dL_law_432 ?_
  refine z_icmp_eq C 820 dL_law_435 (by decide) (fun _ => ?_) (fun h => absurd rfl h)
  exact next M E hI hR hM

set_option maxHeartbeats 4000000 in
set_option maxRecDepth 100000 in
theorem lc_10 {p : Program} {vl : Launch} {e : Env} {s : State} {m : MethodId} {args : Array Value} {below : List Frame} {meth : Method} {c : Code} {D : va_G} {cI cM : ClassId} {A : Nat → Prop} {ad : Nat → Nat} {Q : State → Prop} {b L i : Nat} {xs : Nat → Int32} {M : St} {E : Nat → va_E} (C : ZC p s m args meth c code 4 RL wsL_law D cI cM) (hX : XD A 40 ad) (hXs : va_X b L xs s s.heap) (hbl : b < s.heap.size) (hbA : ¬ A b) (hL : L ≤ 2048) (hi : i + 4 ≤ L) (hI : Inv M) (hR : RelX cI cM ad M E) (hM : RelM cI ad M E) (next : ∀ (M2 : St) (E2 : Nat → va_E), Inv M2 → RelX cI cM ad M2 E2 → RelM cI ad M2 E2 → Z p vl e room_1 s m args below meth c 4 D A 40 ad E2 [(0, .ref b), (1, .ref (ad 0)), (2, .ref (ad 30)), (3, .int (nI i))] 40 3008 Q 820 []) : Z p vl e room_1 s m args below meth c 4 D A 40 ad E [(0, .ref b), (1, .ref (ad 0)), (2, .ref (ad 30)), (3, .int (nI i))] 40 3008 Q 440 [] := by
  have e0 := RelX_0 hR
  obtain ⟨sp0, g30⟩ := RelM_0 hM
  refine z_aload_n C dL_law_440 rfl ?_
  refine z_aload_n C dL_law_441 rfl ?_
  refine z_iload_n C dL_law_442 rfl ?_
  refine z_iconst C (nI (1)) dL_law_443 (by decide) ?_
  refine z_iaddN C  dL_law_444 ?_
  refine z_sld C hXs hbl hbA (by omega) (by omega) dL_law_445 ?_
  refine z_callVI C (0) (Cn := RX5) (T := TX5) (N := 12) (k_X5_setColumns vl D cI cM A ad E hX (xs (i + 1)) hI hR) (cwV 1 C.2.2.2.2.1 gL_law_X5_setColumns rfl rfl rfl (by decide +kernel) ⟨(Nat.le_of_ble_eq_true rfl), (Nat.le_of_ble_eq_true rfl)⟩) rfl (by decide) rfl e0 rfl rfl (Nat.le_of_ble_eq_true rfl) ⟨(Nat.le_of_ble_eq_true rfl), (Nat.le_of_ble_eq_true rfl)⟩ dL_law_446 (fun r1 E1 hp1 => ?_)
  obtain ⟨hr1, hR1, hf1⟩ := hp1
  have hM1 : RelM cI ad M E1 := hM.mv hf1
  obtain ⟨sp1, g31⟩ := RelM_0 hM1
  refine z_aload_n C dL_law_449 rfl ?_
  refine z_aload_n C dL_law_450 rfl ?_
  refine z_iload_n C dL_law_451 rfl ?_
  refine z_iconst C (nI (1)) dL_law_452 (by decide) ?_
  refine z_iaddN C  dL_law_453 ?_
  refine z_sld C hXs hbl hbA (by omega) (by omega) dL_law_454 ?_
  refine z_callVI C (30) (Cn := RX6) (T := TX6) (N := 19) (k_X6_setColumns vl D cI cM A ad E1 hX (xs (i + 1)) hI hM1) (cwV 1 C.2.2.2.2.1 gL_law_X6_setColumns rfl rfl rfl (by decide +kernel) ⟨(Nat.le_of_ble_eq_true rfl), (Nat.le_of_ble_eq_true rfl)⟩) rfl (by decide) rfl g31 rfl rfl (Nat.le_of_ble_eq_true rfl) ⟨(Nat.le_of_ble_eq_true rfl), (Nat.le_of_ble_eq_true rfl)⟩ dL_law_455 (fun r2 E2 hp2 => ?_)
  obtain ⟨hr2, hM2, hf2⟩ := hp2
  refine z_icmp_eq C 820 dL_law_458 (by decide) (fun _ => ?_) (fun h => absurd (hr1.trans hr2.symm) h)
  exact next _ _ (i_setColumns hI (xs (i + 1))) (hR1.mv hf2) hM2

set_option maxHeartbeats 4000000 in
set_option maxRecDepth 100000 in
theorem lc_11 {p : Program} {vl : Launch} {e : Env} {s : State} {m : MethodId} {args : Array Value} {below : List Frame} {meth : Method} {c : Code} {D : va_G} {cI cM : ClassId} {A : Nat → Prop} {ad : Nat → Nat} {Q : State → Prop} {b L i : Nat} {xs : Nat → Int32} {M : St} {E : Nat → va_E} (C : ZC p s m args meth c code 4 RL wsL_law D cI cM) (hX : XD A 40 ad) (hXs : va_X b L xs s s.heap) (hbl : b < s.heap.size) (hbA : ¬ A b) (hL : L ≤ 2048) (hi : i + 4 ≤ L) (hI : Inv M) (hR : RelX cI cM ad M E) (hM : RelM cI ad M E) (next : ∀ (M2 : St) (E2 : Nat → va_E), Inv M2 → RelX cI cM ad M2 E2 → RelM cI ad M2 E2 → Z p vl e room_1 s m args below meth c 4 D A 40 ad E2 [(0, .ref b), (1, .ref (ad 0)), (2, .ref (ad 30)), (3, .int (nI i))] 40 3008 Q 820 []) : Z p vl e room_1 s m args below meth c 4 D A 40 ad E [(0, .ref b), (1, .ref (ad 0)), (2, .ref (ad 30)), (3, .int (nI i))] 40 3008 Q 463 [] := by
  have e0 := RelX_0 hR
  obtain ⟨sp0, g30⟩ := RelM_0 hM
  refine z_aload_n C dL_law_463 rfl ?_
  refine z_aload_n C dL_law_464 rfl ?_
  refine z_iload_n C dL_law_465 rfl ?_
  refine z_iconst C (nI (1)) dL_law_466 (by decide) ?_
  refine z_iaddN C  dL_law_467 ?_
  refine z_sld C hXs hbl hbA (by omega) (by omega) dL_law_468 ?_
  refine z_callVI C (0) (Cn := RX5) (T := TX5) (N := 12) (k_X5_setGap vl D cI cM A ad E hX (xs (i + 1)) hI hR) (cwV 1 C.2.2.2.2.1 gL_law_X5_setGap rfl rfl rfl (by decide +kernel) ⟨(Nat.le_of_ble_eq_true rfl), (Nat.le_of_ble_eq_true rfl)⟩) rfl (by decide) rfl e0 rfl rfl (Nat.le_of_ble_eq_true rfl) ⟨(Nat.le_of_ble_eq_true rfl), (Nat.le_of_ble_eq_true rfl)⟩ dL_law_469 (fun r1 E1 hp1 => ?_)
  obtain ⟨hr1, hR1, hf1⟩ := hp1
  have hM1 : RelM cI ad M E1 := hM.mv hf1
  obtain ⟨sp1, g31⟩ := RelM_0 hM1
  refine z_aload_n C dL_law_472 rfl ?_
  refine z_aload_n C dL_law_473 rfl ?_
  refine z_iload_n C dL_law_474 rfl ?_
  refine z_iconst C (nI (1)) dL_law_475 (by decide) ?_
  refine z_iaddN C  dL_law_476 ?_
  refine z_sld C hXs hbl hbA (by omega) (by omega) dL_law_477 ?_
  refine z_callVI C (30) (Cn := RX6) (T := TX6) (N := 19) (k_X6_setGap vl D cI cM A ad E1 hX (xs (i + 1)) hI hM1) (cwV 1 C.2.2.2.2.1 gL_law_X6_setGap rfl rfl rfl (by decide +kernel) ⟨(Nat.le_of_ble_eq_true rfl), (Nat.le_of_ble_eq_true rfl)⟩) rfl (by decide) rfl g31 rfl rfl (Nat.le_of_ble_eq_true rfl) ⟨(Nat.le_of_ble_eq_true rfl), (Nat.le_of_ble_eq_true rfl)⟩ dL_law_478 (fun r2 E2 hp2 => ?_)
  obtain ⟨hr2, hM2, hf2⟩ := hp2
  refine z_icmp_eq C 820 dL_law_481 (by decide) (fun _ => ?_) (fun h => absurd (hr1.trans hr2.symm) h)
  exact next _ _ (i_setGap hI (xs (i + 1))) (hR1.mv hf2) hM2

set_option maxHeartbeats 4000000 in
set_option maxRecDepth 100000 in
theorem lc_12 {p : Program} {vl : Launch} {e : Env} {s : State} {m : MethodId} {args : Array Value} {below : List Frame} {meth : Method} {c : Code} {D : va_G} {cI cM : ClassId} {A : Nat → Prop} {ad : Nat → Nat} {Q : State → Prop} {b L i : Nat} {xs : Nat → Int32} {M : St} {E : Nat → va_E} (C : ZC p s m args meth c code 4 RL wsL_law D cI cM) (hX : XD A 40 ad) (hXs : va_X b L xs s s.heap) (hbl : b < s.heap.size) (hbA : ¬ A b) (hL : L ≤ 2048) (hi : i + 4 ≤ L) (hI : Inv M) (hR : RelX cI cM ad M E) (hM : RelM cI ad M E) (next : ∀ (M2 : St) (E2 : Nat → va_E), Inv M2 → RelX cI cM ad M2 E2 → RelM cI ad M2 E2 → Z p vl e room_1 s m args below meth c 4 D A 40 ad E2 [(0, .ref b), (1, .ref (ad 0)), (2, .ref (ad 30)), (3, .int (nI i))] 40 3008 Q 820 []) : Z p vl e room_1 s m args below meth c 4 D A 40 ad E [(0, .ref b), (1, .ref (ad 0)), (2, .ref (ad 30)), (3, .int (nI i))] 40 3008 Q 486 [] := by
  have e0 := RelX_0 hR
  obtain ⟨sp0, g30⟩ := RelM_0 hM
  refine z_aload_n C dL_law_486 rfl ?_
  refine z_aload_n C dL_law_487 rfl ?_
  refine z_iload_n C dL_law_488 rfl ?_
  refine z_iconst C (nI (1)) dL_law_489 (by decide) ?_
  refine z_iaddN C  dL_law_490 ?_
  refine z_sld C hXs hbl hbA (by omega) (by omega) dL_law_491 ?_
  refine z_callVI C (0) (Cn := RX5) (T := TX5) (N := 12) (k_X5_setSpeed vl D cI cM A ad E hX (xs (i + 1)) hI hR) (cwV 1 C.2.2.2.2.1 gL_law_X5_setSpeed rfl rfl rfl (by decide +kernel) ⟨(Nat.le_of_ble_eq_true rfl), (Nat.le_of_ble_eq_true rfl)⟩) rfl (by decide) rfl e0 rfl rfl (Nat.le_of_ble_eq_true rfl) ⟨(Nat.le_of_ble_eq_true rfl), (Nat.le_of_ble_eq_true rfl)⟩ dL_law_492 (fun r1 E1 hp1 => ?_)
  obtain ⟨hr1, hR1, hf1⟩ := hp1
  have hM1 : RelM cI ad M E1 := hM.mv hf1
  obtain ⟨sp1, g31⟩ := RelM_0 hM1
  refine z_aload_n C dL_law_495 rfl ?_
  refine z_aload_n C dL_law_496 rfl ?_
  refine z_iload_n C dL_law_497 rfl ?_
  refine z_iconst C (nI (1)) dL_law_498 (by decide) ?_
  refine z_iaddN C  dL_law_499 ?_
  refine z_sld C hXs hbl hbA (by omega) (by omega) dL_law_500 ?_
  refine z_callVI C (30) (Cn := RX6) (T := TX6) (N := 19) (k_X6_setSpeed vl D cI cM A ad E1 hX (xs (i + 1)) hI hM1) (cwV 1 C.2.2.2.2.1 gL_law_X6_setSpeed rfl rfl rfl (by decide +kernel) ⟨(Nat.le_of_ble_eq_true rfl), (Nat.le_of_ble_eq_true rfl)⟩) rfl (by decide) rfl g31 rfl rfl (Nat.le_of_ble_eq_true rfl) ⟨(Nat.le_of_ble_eq_true rfl), (Nat.le_of_ble_eq_true rfl)⟩ dL_law_501 (fun r2 E2 hp2 => ?_)
  obtain ⟨hr2, hM2, hf2⟩ := hp2
  refine z_icmp_eq C 820 dL_law_504 (by decide) (fun _ => ?_) (fun h => absurd (hr1.trans hr2.symm) h)
  exact next _ _ (i_setSpeed hI (xs (i + 1))) (hR1.mv hf2) hM2

set_option maxHeartbeats 4000000 in
set_option maxRecDepth 100000 in
theorem lc_13 {p : Program} {vl : Launch} {e : Env} {s : State} {m : MethodId} {args : Array Value} {below : List Frame} {meth : Method} {c : Code} {D : va_G} {cI cM : ClassId} {A : Nat → Prop} {ad : Nat → Nat} {Q : State → Prop} {b L i : Nat} {xs : Nat → Int32} {M : St} {E : Nat → va_E} (C : ZC p s m args meth c code 4 RL wsL_law D cI cM) (hX : XD A 40 ad) (hXs : va_X b L xs s s.heap) (hbl : b < s.heap.size) (hbA : ¬ A b) (hL : L ≤ 2048) (hi : i + 4 ≤ L) (hI : Inv M) (hR : RelX cI cM ad M E) (hM : RelM cI ad M E) (next : ∀ (M2 : St) (E2 : Nat → va_E), Inv M2 → RelX cI cM ad M2 E2 → RelM cI ad M2 E2 → Z p vl e room_1 s m args below meth c 4 D A 40 ad E2 [(0, .ref b), (1, .ref (ad 0)), (2, .ref (ad 30)), (3, .int (nI i))] 40 3008 Q 820 []) : Z p vl e room_1 s m args below meth c 4 D A 40 ad E [(0, .ref b), (1, .ref (ad 0)), (2, .ref (ad 30)), (3, .int (nI i))] 40 3008 Q 509 [] := by
  have e0 := RelX_0 hR
  obtain ⟨sp0, g30⟩ := RelM_0 hM
  refine z_aload_n C dL_law_509 rfl ?_
  refine z_aload_n C dL_law_510 rfl ?_
  refine z_iload_n C dL_law_511 rfl ?_
  refine z_iconst C (nI (1)) dL_law_512 (by decide) ?_
  refine z_iaddN C  dL_law_513 ?_
  refine z_sld C hXs hbl hbA (by omega) (by omega) dL_law_514 ?_
  refine z_callVI C (0) (Cn := RX5) (T := TX5) (N := 12) (k_X5_setShift vl D cI cM A ad E hX (xs (i + 1)) hI hR) (cwV 1 C.2.2.2.2.1 gL_law_X5_setShift rfl rfl rfl (by decide +kernel) ⟨(Nat.le_of_ble_eq_true rfl), (Nat.le_of_ble_eq_true rfl)⟩) rfl (by decide) rfl e0 rfl rfl (Nat.le_of_ble_eq_true rfl) ⟨(Nat.le_of_ble_eq_true rfl), (Nat.le_of_ble_eq_true rfl)⟩ dL_law_515 (fun r1 E1 hp1 => ?_)
  obtain ⟨hr1, hR1, hf1⟩ := hp1
  have hM1 : RelM cI ad M E1 := hM.mv hf1
  obtain ⟨sp1, g31⟩ := RelM_0 hM1
  refine z_aload_n C dL_law_518 rfl ?_
  refine z_aload_n C dL_law_519 rfl ?_
  refine z_iload_n C dL_law_520 rfl ?_
  refine z_iconst C (nI (1)) dL_law_521 (by decide) ?_
  refine z_iaddN C  dL_law_522 ?_
  refine z_sld C hXs hbl hbA (by omega) (by omega) dL_law_523 ?_
  refine z_callVI C (30) (Cn := RX6) (T := TX6) (N := 19) (k_X6_setShift vl D cI cM A ad E1 hX (xs (i + 1)) hI hM1) (cwV 1 C.2.2.2.2.1 gL_law_X6_setShift rfl rfl rfl (by decide +kernel) ⟨(Nat.le_of_ble_eq_true rfl), (Nat.le_of_ble_eq_true rfl)⟩) rfl (by decide) rfl g31 rfl rfl (Nat.le_of_ble_eq_true rfl) ⟨(Nat.le_of_ble_eq_true rfl), (Nat.le_of_ble_eq_true rfl)⟩ dL_law_524 (fun r2 E2 hp2 => ?_)
  obtain ⟨hr2, hM2, hf2⟩ := hp2
  refine z_icmp_eq C 820 dL_law_527 (by decide) (fun _ => ?_) (fun h => absurd (hr1.trans hr2.symm) h)
  exact next _ _ (i_setShift hI (xs (i + 1))) (hR1.mv hf2) hM2

set_option maxHeartbeats 4000000 in
set_option maxRecDepth 100000 in
theorem lc_14 {p : Program} {vl : Launch} {e : Env} {s : State} {m : MethodId} {args : Array Value} {below : List Frame} {meth : Method} {c : Code} {D : va_G} {cI cM : ClassId} {A : Nat → Prop} {ad : Nat → Nat} {Q : State → Prop} {b L i : Nat} {xs : Nat → Int32} {M : St} {E : Nat → va_E} (C : ZC p s m args meth c code 4 RL wsL_law D cI cM) (hX : XD A 40 ad) (hXs : va_X b L xs s s.heap) (hbl : b < s.heap.size) (hbA : ¬ A b) (hL : L ≤ 2048) (hi : i + 4 ≤ L) (hI : Inv M) (hR : RelX cI cM ad M E) (hM : RelM cI ad M E) (next : ∀ (M2 : St) (E2 : Nat → va_E), Inv M2 → RelX cI cM ad M2 E2 → RelM cI ad M2 E2 → Z p vl e room_1 s m args below meth c 4 D A 40 ad E2 [(0, .ref b), (1, .ref (ad 0)), (2, .ref (ad 30)), (3, .int (nI i))] 40 3008 Q 820 []) : Z p vl e room_1 s m args below meth c 4 D A 40 ad E [(0, .ref b), (1, .ref (ad 0)), (2, .ref (ad 30)), (3, .int (nI i))] 40 3008 Q 532 [] := by
  have e0 := RelX_0 hR
  obtain ⟨sp0, g30⟩ := RelM_0 hM
  refine z_aload_n C dL_law_532 rfl ?_
  refine z_aload_n C dL_law_533 rfl ?_
  refine z_iload_n C dL_law_534 rfl ?_
  refine z_iconst C (nI (1)) dL_law_535 (by decide) ?_
  refine z_iaddN C  dL_law_536 ?_
  refine z_sld C hXs hbl hbA (by omega) (by omega) dL_law_537 ?_
  refine z_callVI C (0) (Cn := RX5) (T := TX5) (N := 12) (k_X5_setBudget vl D cI cM A ad E hX (xs (i + 1)) hI hR) (cwV 1 C.2.2.2.2.1 gL_law_X5_setBudget rfl rfl rfl (by decide +kernel) ⟨(Nat.le_of_ble_eq_true rfl), (Nat.le_of_ble_eq_true rfl)⟩) rfl (by decide) rfl e0 rfl rfl (Nat.le_of_ble_eq_true rfl) ⟨(Nat.le_of_ble_eq_true rfl), (Nat.le_of_ble_eq_true rfl)⟩ dL_law_538 (fun r1 E1 hp1 => ?_)
  obtain ⟨hr1, hR1, hf1⟩ := hp1
  have hM1 : RelM cI ad M E1 := hM.mv hf1
  obtain ⟨sp1, g31⟩ := RelM_0 hM1
  refine z_aload_n C dL_law_541 rfl ?_
  refine z_aload_n C dL_law_542 rfl ?_
  refine z_iload_n C dL_law_543 rfl ?_
  refine z_iconst C (nI (1)) dL_law_544 (by decide) ?_
  refine z_iaddN C  dL_law_545 ?_
  refine z_sld C hXs hbl hbA (by omega) (by omega) dL_law_546 ?_
  refine z_callVI C (30) (Cn := RX6) (T := TX6) (N := 19) (k_X6_setBudget vl D cI cM A ad E1 hX (xs (i + 1)) hI hM1) (cwV 1 C.2.2.2.2.1 gL_law_X6_setBudget rfl rfl rfl (by decide +kernel) ⟨(Nat.le_of_ble_eq_true rfl), (Nat.le_of_ble_eq_true rfl)⟩) rfl (by decide) rfl g31 rfl rfl (Nat.le_of_ble_eq_true rfl) ⟨(Nat.le_of_ble_eq_true rfl), (Nat.le_of_ble_eq_true rfl)⟩ dL_law_547 (fun r2 E2 hp2 => ?_)
  obtain ⟨hr2, hM2, hf2⟩ := hp2
  refine z_icmp_eq C 820 dL_law_550 (by decide) (fun _ => ?_) (fun h => absurd (hr1.trans hr2.symm) h)
  exact next _ _ (i_setBudget hI (xs (i + 1))) (hR1.mv hf2) hM2

set_option maxHeartbeats 4000000 in
set_option maxRecDepth 100000 in
theorem lc_15 {p : Program} {vl : Launch} {e : Env} {s : State} {m : MethodId} {args : Array Value} {below : List Frame} {meth : Method} {c : Code} {D : va_G} {cI cM : ClassId} {A : Nat → Prop} {ad : Nat → Nat} {Q : State → Prop} {b L i : Nat} {xs : Nat → Int32} {M : St} {E : Nat → va_E} (C : ZC p s m args meth c code 4 RL wsL_law D cI cM) (hX : XD A 40 ad) (hXs : va_X b L xs s s.heap) (hbl : b < s.heap.size) (hbA : ¬ A b) (hL : L ≤ 2048) (hi : i + 4 ≤ L) (hI : Inv M) (hR : RelX cI cM ad M E) (hM : RelM cI ad M E) (next : ∀ (M2 : St) (E2 : Nat → va_E), Inv M2 → RelX cI cM ad M2 E2 → RelM cI ad M2 E2 → Z p vl e room_1 s m args below meth c 4 D A 40 ad E2 [(0, .ref b), (1, .ref (ad 0)), (2, .ref (ad 30)), (3, .int (nI i))] 40 3008 Q 820 []) : Z p vl e room_1 s m args below meth c 4 D A 40 ad E [(0, .ref b), (1, .ref (ad 0)), (2, .ref (ad 30)), (3, .int (nI i))] 40 3008 Q 555 [] := by
  have e0 := RelX_0 hR
  obtain ⟨sp0, g30⟩ := RelM_0 hM
  by_cases hz3 : xs (i + 3) = 0
  · refine z_aload_n C dL_law_555 rfl ?_
    refine z_aload_n C dL_law_556 rfl ?_
    refine z_iload_n C dL_law_557 rfl ?_
    refine z_iconst C (nI (1)) dL_law_558 (by decide) ?_
    refine z_iaddN C  dL_law_559 ?_
    refine z_sld C hXs hbl hbA (by omega) (by omega) dL_law_560 ?_
    refine z_aload_n C dL_law_561 rfl ?_
    refine z_iload_n C dL_law_562 rfl ?_
    refine z_iconst C (nI (2)) dL_law_563 (by decide) ?_
    refine z_iaddN C  dL_law_564 ?_
    refine z_sld C hXs hbl hbA (by omega) (by omega) dL_law_565 ?_
    refine z_aload_n C dL_law_566 rfl ?_
    refine z_iload_n C dL_law_567 rfl ?_
    refine z_iconst C (nI (3)) dL_law_568 (by decide) ?_
    refine z_iaddN C  dL_law_569 ?_
    refine z_sld C hXs hbl hbA (by omega) (by omega) dL_law_570 ?_
    refine z_if_eq C 578 dL_law_571 (by decide) (fun h571 => ?_) (fun h571 => (by exfalso; exact h571 hz3))
    refine z_iconst C (nI (0)) dL_law_578 (by decide) ?_
    refine z_callVI C (0) (Cn := RX5) (T := TX5) (N := 12) (k_X5_setDefective vl D cI cM A ad E hX (xs (i + 1)) (xs (i + 2)) (0) hI hR (by decide)) (cwV 3 C.2.2.2.2.1 gL_law_X5_setDefective rfl rfl rfl (by decide +kernel) ⟨(Nat.le_of_ble_eq_true rfl), (Nat.le_of_ble_eq_true rfl)⟩) rfl (by decide) rfl e0 rfl rfl (Nat.le_of_ble_eq_true rfl) ⟨(Nat.le_of_ble_eq_true rfl), (Nat.le_of_ble_eq_true rfl)⟩ dL_law_579 (fun r1 E1 hp1 => ?_)
    obtain ⟨hr1, hR1, hf1⟩ := hp1
    have hM1 : RelM cI ad M E1 := hM.mv hf1
    obtain ⟨sp1, g31⟩ := RelM_0 hM1
    refine z_aload_n C dL_law_582 rfl ?_
    refine z_aload_n C dL_law_583 rfl ?_
    refine z_iload_n C dL_law_584 rfl ?_
    refine z_iconst C (nI (1)) dL_law_585 (by decide) ?_
    refine z_iaddN C  dL_law_586 ?_
    refine z_sld C hXs hbl hbA (by omega) (by omega) dL_law_587 ?_
    refine z_aload_n C dL_law_588 rfl ?_
    refine z_iload_n C dL_law_589 rfl ?_
    refine z_iconst C (nI (2)) dL_law_590 (by decide) ?_
    refine z_iaddN C  dL_law_591 ?_
    refine z_sld C hXs hbl hbA (by omega) (by omega) dL_law_592 ?_
    refine z_aload_n C dL_law_593 rfl ?_
    refine z_iload_n C dL_law_594 rfl ?_
    refine z_iconst C (nI (3)) dL_law_595 (by decide) ?_
    refine z_iaddN C  dL_law_596 ?_
    refine z_sld C hXs hbl hbA (by omega) (by omega) dL_law_597 ?_
    refine z_if_eq C 605 dL_law_598 (by decide) (fun h598 => ?_) (fun h598 => (by exfalso; exact h598 hz3))
    refine z_iconst C (nI (0)) dL_law_605 (by decide) ?_
    refine z_callVI C (30) (Cn := RX6) (T := TX6) (N := 19) (k_X6_setDefective vl D cI cM A ad E1 hX (xs (i + 1)) (xs (i + 2)) (0) hI hM1 (by decide)) (cwV 3 C.2.2.2.2.1 gL_law_X6_setDefective rfl rfl rfl (by decide +kernel) ⟨(Nat.le_of_ble_eq_true rfl), (Nat.le_of_ble_eq_true rfl)⟩) rfl (by decide) rfl g31 rfl rfl (Nat.le_of_ble_eq_true rfl) ⟨(Nat.le_of_ble_eq_true rfl), (Nat.le_of_ble_eq_true rfl)⟩ dL_law_606 (fun r2 E2 hp2 => ?_)
    obtain ⟨hr2, hM2, hf2⟩ := hp2
    refine z_icmp_eq C 820 dL_law_609 (by decide) (fun _ => ?_) (fun h => absurd (hr1.trans hr2.symm) h)
    exact next _ _ (i_setDefective hI (xs (i + 1)) (xs (i + 2)) 0) (hR1.mv hf2) hM2
  · refine z_aload_n C dL_law_555 rfl ?_
    refine z_aload_n C dL_law_556 rfl ?_
    refine z_iload_n C dL_law_557 rfl ?_
    refine z_iconst C (nI (1)) dL_law_558 (by decide) ?_
    refine z_iaddN C  dL_law_559 ?_
    refine z_sld C hXs hbl hbA (by omega) (by omega) dL_law_560 ?_
    refine z_aload_n C dL_law_561 rfl ?_
    refine z_iload_n C dL_law_562 rfl ?_
    refine z_iconst C (nI (2)) dL_law_563 (by decide) ?_
    refine z_iaddN C  dL_law_564 ?_
    refine z_sld C hXs hbl hbA (by omega) (by omega) dL_law_565 ?_
    refine z_aload_n C dL_law_566 rfl ?_
    refine z_iload_n C dL_law_567 rfl ?_
    refine z_iconst C (nI (3)) dL_law_568 (by decide) ?_
    refine z_iaddN C  dL_law_569 ?_
    refine z_sld C hXs hbl hbA (by omega) (by omega) dL_law_570 ?_
    refine z_if_eq C 578 dL_law_571 (by decide) (fun h571 => (by exfalso; exact hz3 h571)) (fun h571 => ?_)
    refine z_iconst C (nI (1)) dL_law_574 (by decide) ?_
    refine z_goto C 579 dL_law_575 (by decide) ?_
    refine z_callVI C (0) (Cn := RX5) (T := TX5) (N := 12) (k_X5_setDefective vl D cI cM A ad E hX (xs (i + 1)) (xs (i + 2)) (1) hI hR (by decide)) (cwV 3 C.2.2.2.2.1 gL_law_X5_setDefective rfl rfl rfl (by decide +kernel) ⟨(Nat.le_of_ble_eq_true rfl), (Nat.le_of_ble_eq_true rfl)⟩) rfl (by decide) rfl e0 rfl rfl (Nat.le_of_ble_eq_true rfl) ⟨(Nat.le_of_ble_eq_true rfl), (Nat.le_of_ble_eq_true rfl)⟩ dL_law_579 (fun r1 E1 hp1 => ?_)
    obtain ⟨hr1, hR1, hf1⟩ := hp1
    have hM1 : RelM cI ad M E1 := hM.mv hf1
    obtain ⟨sp1, g31⟩ := RelM_0 hM1
    refine z_aload_n C dL_law_582 rfl ?_
    refine z_aload_n C dL_law_583 rfl ?_
    refine z_iload_n C dL_law_584 rfl ?_
    refine z_iconst C (nI (1)) dL_law_585 (by decide) ?_
    refine z_iaddN C  dL_law_586 ?_
    refine z_sld C hXs hbl hbA (by omega) (by omega) dL_law_587 ?_
    refine z_aload_n C dL_law_588 rfl ?_
    refine z_iload_n C dL_law_589 rfl ?_
    refine z_iconst C (nI (2)) dL_law_590 (by decide) ?_
    refine z_iaddN C  dL_law_591 ?_
    refine z_sld C hXs hbl hbA (by omega) (by omega) dL_law_592 ?_
    refine z_aload_n C dL_law_593 rfl ?_
    refine z_iload_n C dL_law_594 rfl ?_
    refine z_iconst C (nI (3)) dL_law_595 (by decide) ?_
    refine z_iaddN C  dL_law_596 ?_
    refine z_sld C hXs hbl hbA (by omega) (by omega) dL_law_597 ?_
    refine z_if_eq C 605 dL_law_598 (by decide) (fun h598 => (by exfalso; exact hz3 h598)) (fun h598 => ?_)
    refine z_iconst C (nI (1)) dL_law_601 (by decide) ?_
    refine z_goto C 606 dL_law_602 (by decide) ?_
    refine z_callVI C (30) (Cn := RX6) (T := TX6) (N := 19) (k_X6_setDefective vl D cI cM A ad E1 hX (xs (i + 1)) (xs (i + 2)) (1) hI hM1 (by decide)) (cwV 3 C.2.2.2.2.1 gL_law_X6_setDefective rfl rfl rfl (by decide +kernel) ⟨(Nat.le_of_ble_eq_true rfl), (Nat.le_of_ble_eq_true rfl)⟩) rfl (by decide) rfl g31 rfl rfl (Nat.le_of_ble_eq_true rfl) ⟨(Nat.le_of_ble_eq_true rfl), (Nat.le_of_ble_eq_true rfl)⟩ dL_law_606 (fun r2 E2 hp2 => ?_)
    obtain ⟨hr2, hM2, hf2⟩ := hp2
    refine z_icmp_eq C 820 dL_law_609 (by decide) (fun _ => ?_) (fun h => absurd (hr1.trans hr2.symm) h)
    exact next _ _ (i_setDefective hI (xs (i + 1)) (xs (i + 2)) 1) (hR1.mv hf2) hM2

set_option maxHeartbeats 4000000 in
set_option maxRecDepth 100000 in
theorem lc_16 {p : Program} {vl : Launch} {e : Env} {s : State} {m : MethodId} {args : Array Value} {below : List Frame} {meth : Method} {c : Code} {D : va_G} {cI cM : ClassId} {A : Nat → Prop} {ad : Nat → Nat} {Q : State → Prop} {b L i : Nat} {xs : Nat → Int32} {M : St} {E : Nat → va_E} (C : ZC p s m args meth c code 4 RL wsL_law D cI cM) (hX : XD A 40 ad) (hXs : va_X b L xs s s.heap) (hbl : b < s.heap.size) (hbA : ¬ A b) (hL : L ≤ 2048) (hi : i + 4 ≤ L) (hI : Inv M) (hR : RelX cI cM ad M E) (hM : RelM cI ad M E) (next : ∀ (M2 : St) (E2 : Nat → va_E), Inv M2 → RelX cI cM ad M2 E2 → RelM cI ad M2 E2 → Z p vl e room_1 s m args below meth c 4 D A 40 ad E2 [(0, .ref b), (1, .ref (ad 0)), (2, .ref (ad 30)), (3, .int (nI i))] 40 3008 Q 820 []) : Z p vl e room_1 s m args below meth c 4 D A 40 ad E [(0, .ref b), (1, .ref (ad 0)), (2, .ref (ad 30)), (3, .int (nI i))] 40 3008 Q 614 [] := by
  have e0 := RelX_0 hR
  obtain ⟨sp0, g30⟩ := RelM_0 hM
  refine z_aload_n C dL_law_614 rfl ?_
  refine z_aload_n C dL_law_615 rfl ?_
  refine z_iload_n C dL_law_616 rfl ?_
  refine z_iconst C (nI (1)) dL_law_617 (by decide) ?_
  refine z_iaddN C  dL_law_618 ?_
  refine z_sld C hXs hbl hbA (by omega) (by omega) dL_law_619 ?_
  refine z_callVI C (0) (Cn := RX5) (T := TX5) (N := 12) (k_X5_tick vl D cI cM A ad E hX (xs (i + 1)) hI hR) (cwV 1 C.2.2.2.2.1 gL_law_X5_tick rfl rfl rfl (by decide +kernel) ⟨(Nat.le_of_ble_eq_true rfl), (Nat.le_of_ble_eq_true rfl)⟩) rfl (by decide) rfl e0 rfl rfl (Nat.le_of_ble_eq_true rfl) ⟨(Nat.le_of_ble_eq_true rfl), (Nat.le_of_ble_eq_true rfl)⟩ dL_law_620 (fun r1 E1 hp1 => ?_)
  obtain ⟨hr1, hR1, hf1⟩ := hp1
  have hM1 : RelM cI ad M E1 := hM.mv hf1
  obtain ⟨sp1, g31⟩ := RelM_0 hM1
  refine z_aload_n C dL_law_623 rfl ?_
  refine z_aload_n C dL_law_624 rfl ?_
  refine z_iload_n C dL_law_625 rfl ?_
  refine z_iconst C (nI (1)) dL_law_626 (by decide) ?_
  refine z_iaddN C  dL_law_627 ?_
  refine z_sld C hXs hbl hbA (by omega) (by omega) dL_law_628 ?_
  refine z_callVI C (30) (Cn := RX6) (T := TX6) (N := 19) (k_X6_tick vl D cI cM A ad E1 hX (xs (i + 1)) hI hM1) (cwV 1 C.2.2.2.2.1 gL_law_X6_tick rfl rfl rfl (by decide +kernel) ⟨(Nat.le_of_ble_eq_true rfl), (Nat.le_of_ble_eq_true rfl)⟩) rfl (by decide) rfl g31 rfl rfl (Nat.le_of_ble_eq_true rfl) ⟨(Nat.le_of_ble_eq_true rfl), (Nat.le_of_ble_eq_true rfl)⟩ dL_law_629 (fun r2 E2 hp2 => ?_)
  obtain ⟨hr2, hM2, hf2⟩ := hp2
  refine z_icmp_eq C 820 dL_law_632 (by decide) (fun _ => ?_) (fun h => absurd (hr1.trans hr2.symm) h)
  exact next _ _ (i_tick hI (xs (i + 1))) (hR1.mv hf2) hM2

set_option maxHeartbeats 4000000 in
set_option maxRecDepth 100000 in
theorem lc_17 {p : Program} {vl : Launch} {e : Env} {s : State} {m : MethodId} {args : Array Value} {below : List Frame} {meth : Method} {c : Code} {D : va_G} {cI cM : ClassId} {A : Nat → Prop} {ad : Nat → Nat} {Q : State → Prop} {b L i : Nat} {xs : Nat → Int32} {M : St} {E : Nat → va_E} (C : ZC p s m args meth c code 4 RL wsL_law D cI cM) (hX : XD A 40 ad) (hXs : va_X b L xs s s.heap) (hbl : b < s.heap.size) (hbA : ¬ A b) (hL : L ≤ 2048) (hi : i + 4 ≤ L) (hI : Inv M) (hR : RelX cI cM ad M E) (hM : RelM cI ad M E) (next : ∀ (M2 : St) (E2 : Nat → va_E), Inv M2 → RelX cI cM ad M2 E2 → RelM cI ad M2 E2 → Z p vl e room_1 s m args below meth c 4 D A 40 ad E2 [(0, .ref b), (1, .ref (ad 0)), (2, .ref (ad 30)), (3, .int (nI i))] 40 3008 Q 820 []) : Z p vl e room_1 s m args below meth c 4 D A 40 ad E [(0, .ref b), (1, .ref (ad 0)), (2, .ref (ad 30)), (3, .int (nI i))] 40 3008 Q 637 [] := by
  have e0 := RelX_0 hR
  obtain ⟨sp0, g30⟩ := RelM_0 hM
  refine z_aload_n C dL_law_637 rfl ?_
  refine z_callVF C (0) (Cn := RX5) (T := TX5) (N := 12) (k_X5_offset vl D cI cM A ad E hX  hI hR) (cwV 0 C.2.2.2.2.1 gL_law_X5_offset rfl rfl rfl (by decide +kernel) ⟨(Nat.le_of_ble_eq_true rfl), (Nat.le_of_ble_eq_true rfl)⟩) rfl (by decide) rfl e0 rfl rfl (Nat.le_of_ble_eq_true rfl) ⟨(Nat.le_of_ble_eq_true rfl), (Nat.le_of_ble_eq_true rfl)⟩ dL_law_638 ?_
  refine z_aload_n C dL_law_641 rfl ?_
  refine z_callVF C (30) (Cn := RX6) (T := TX6) (N := 19) (k_X6_offset vl D cI cM A ad E hX  hI hM) (cwV 0 C.2.2.2.2.1 gL_law_X6_offset rfl rfl rfl (by decide +kernel) ⟨(Nat.le_of_ble_eq_true rfl), (Nat.le_of_ble_eq_true rfl)⟩) rfl (by decide) rfl g30 rfl rfl (Nat.le_of_ble_eq_true rfl) ⟨(Nat.le_of_ble_eq_true rfl), (Nat.le_of_ble_eq_true rfl)⟩ dL_law_642 ?_
  refine z_icmp_eq C 820 dL_law_645 (by decide) (fun _ => ?_) (fun h => absurd rfl h)
  exact next M E hI hR hM

set_option maxHeartbeats 4000000 in
set_option maxRecDepth 100000 in
theorem lc_18 {p : Program} {vl : Launch} {e : Env} {s : State} {m : MethodId} {args : Array Value} {below : List Frame} {meth : Method} {c : Code} {D : va_G} {cI cM : ClassId} {A : Nat → Prop} {ad : Nat → Nat} {Q : State → Prop} {b L i : Nat} {xs : Nat → Int32} {M : St} {E : Nat → va_E} (C : ZC p s m args meth c code 4 RL wsL_law D cI cM) (hX : XD A 40 ad) (hXs : va_X b L xs s s.heap) (hbl : b < s.heap.size) (hbA : ¬ A b) (hL : L ≤ 2048) (hi : i + 4 ≤ L) (hI : Inv M) (hR : RelX cI cM ad M E) (hM : RelM cI ad M E) (next : ∀ (M2 : St) (E2 : Nat → va_E), Inv M2 → RelX cI cM ad M2 E2 → RelM cI ad M2 E2 → Z p vl e room_1 s m args below meth c 4 D A 40 ad E2 [(0, .ref b), (1, .ref (ad 0)), (2, .ref (ad 30)), (3, .int (nI i))] 40 3008 Q 820 []) : Z p vl e room_1 s m args below meth c 4 D A 40 ad E [(0, .ref b), (1, .ref (ad 0)), (2, .ref (ad 30)), (3, .int (nI i))] 40 3008 Q 650 [] := by
  have e0 := RelX_0 hR
  obtain ⟨sp0, g30⟩ := RelM_0 hM
  refine z_aload_n C dL_law_650 rfl ?_
  refine z_callVF C (0) (Cn := RX5) (T := TX5) (N := 12) (k_X5_stripLength vl D cI cM A ad E hX  hI hR) (cwV 0 C.2.2.2.2.1 gL_law_X5_stripLength rfl rfl rfl (by decide +kernel) ⟨(Nat.le_of_ble_eq_true rfl), (Nat.le_of_ble_eq_true rfl)⟩) rfl (by decide) rfl e0 rfl rfl (Nat.le_of_ble_eq_true rfl) ⟨(Nat.le_of_ble_eq_true rfl), (Nat.le_of_ble_eq_true rfl)⟩ dL_law_651 ?_
  refine z_aload_n C dL_law_654 rfl ?_
  refine z_callVF C (30) (Cn := RX6) (T := TX6) (N := 19) (k_X6_stripLength vl D cI cM A ad E hX  hI hM) (cwV 0 C.2.2.2.2.1 gL_law_X6_stripLength rfl rfl rfl (by decide +kernel) ⟨(Nat.le_of_ble_eq_true rfl), (Nat.le_of_ble_eq_true rfl)⟩) rfl (by decide) rfl g30 rfl rfl (Nat.le_of_ble_eq_true rfl) ⟨(Nat.le_of_ble_eq_true rfl), (Nat.le_of_ble_eq_true rfl)⟩ dL_law_655 ?_
  refine z_icmp_eq C 820 dL_law_658 (by decide) (fun _ => ?_) (fun h => absurd rfl h)
  exact next M E hI hR hM

set_option maxHeartbeats 4000000 in
set_option maxRecDepth 100000 in
theorem lc_19 {p : Program} {vl : Launch} {e : Env} {s : State} {m : MethodId} {args : Array Value} {below : List Frame} {meth : Method} {c : Code} {D : va_G} {cI cM : ClassId} {A : Nat → Prop} {ad : Nat → Nat} {Q : State → Prop} {b L i : Nat} {xs : Nat → Int32} {M : St} {E : Nat → va_E} (C : ZC p s m args meth c code 4 RL wsL_law D cI cM) (hX : XD A 40 ad) (hXs : va_X b L xs s s.heap) (hbl : b < s.heap.size) (hbA : ¬ A b) (hL : L ≤ 2048) (hi : i + 4 ≤ L) (hI : Inv M) (hR : RelX cI cM ad M E) (hM : RelM cI ad M E) (next : ∀ (M2 : St) (E2 : Nat → va_E), Inv M2 → RelX cI cM ad M2 E2 → RelM cI ad M2 E2 → Z p vl e room_1 s m args below meth c 4 D A 40 ad E2 [(0, .ref b), (1, .ref (ad 0)), (2, .ref (ad 30)), (3, .int (nI i))] 40 3008 Q 820 []) : Z p vl e room_1 s m args below meth c 4 D A 40 ad E [(0, .ref b), (1, .ref (ad 0)), (2, .ref (ad 30)), (3, .int (nI i))] 40 3008 Q 663 [] := by
  have e0 := RelX_0 hR
  obtain ⟨sp0, g30⟩ := RelM_0 hM
  refine z_aload_n C dL_law_663 rfl ?_
  refine z_callVF C (0) (Cn := RX5) (T := TX5) (N := 12) (k_X5_period vl D cI cM A ad E hX  hI hR) (cwV 0 C.2.2.2.2.1 gL_law_X5_period rfl rfl rfl (by decide +kernel) ⟨(Nat.le_of_ble_eq_true rfl), (Nat.le_of_ble_eq_true rfl)⟩) rfl (by decide) rfl e0 rfl rfl (Nat.le_of_ble_eq_true rfl) ⟨(Nat.le_of_ble_eq_true rfl), (Nat.le_of_ble_eq_true rfl)⟩ dL_law_664 ?_
  refine z_aload_n C dL_law_667 rfl ?_
  refine z_callVF C (30) (Cn := RX6) (T := TX6) (N := 19) (k_X6_period vl D cI cM A ad E hX  hI hM) (cwV 0 C.2.2.2.2.1 gL_law_X6_period rfl rfl rfl (by decide +kernel) ⟨(Nat.le_of_ble_eq_true rfl), (Nat.le_of_ble_eq_true rfl)⟩) rfl (by decide) rfl g30 rfl rfl (Nat.le_of_ble_eq_true rfl) ⟨(Nat.le_of_ble_eq_true rfl), (Nat.le_of_ble_eq_true rfl)⟩ dL_law_668 ?_
  refine z_icmp_eq C 820 dL_law_671 (by decide) (fun _ => ?_) (fun h => absurd rfl h)
  exact next M E hI hR hM

set_option maxHeartbeats 4000000 in
set_option maxRecDepth 100000 in
theorem lc_20 {p : Program} {vl : Launch} {e : Env} {s : State} {m : MethodId} {args : Array Value} {below : List Frame} {meth : Method} {c : Code} {D : va_G} {cI cM : ClassId} {A : Nat → Prop} {ad : Nat → Nat} {Q : State → Prop} {b L i : Nat} {xs : Nat → Int32} {M : St} {E : Nat → va_E} (C : ZC p s m args meth c code 4 RL wsL_law D cI cM) (hX : XD A 40 ad) (hXs : va_X b L xs s s.heap) (hbl : b < s.heap.size) (hbA : ¬ A b) (hL : L ≤ 2048) (hi : i + 4 ≤ L) (hI : Inv M) (hR : RelX cI cM ad M E) (hM : RelM cI ad M E) (next : ∀ (M2 : St) (E2 : Nat → va_E), Inv M2 → RelX cI cM ad M2 E2 → RelM cI ad M2 E2 → Z p vl e room_1 s m args below meth c 4 D A 40 ad E2 [(0, .ref b), (1, .ref (ad 0)), (2, .ref (ad 30)), (3, .int (nI i))] 40 3008 Q 820 []) : Z p vl e room_1 s m args below meth c 4 D A 40 ad E [(0, .ref b), (1, .ref (ad 0)), (2, .ref (ad 30)), (3, .int (nI i))] 40 3008 Q 676 [] := by
  have e0 := RelX_0 hR
  obtain ⟨sp0, g30⟩ := RelM_0 hM
  refine z_aload_n C dL_law_676 rfl ?_
  refine z_aload_n C dL_law_677 rfl ?_
  refine z_iload_n C dL_law_678 rfl ?_
  refine z_iconst C (nI (1)) dL_law_679 (by decide) ?_
  refine z_iaddN C  dL_law_680 ?_
  refine z_sld C hXs hbl hbA (by omega) (by omega) dL_law_681 ?_
  refine z_callVF C (0) (Cn := RX5) (T := TX5) (N := 12) (k_X5_ticksUntilWhole vl D cI cM A ad E hX (xs (i + 1)) hI hR) (cwV 1 C.2.2.2.2.1 gL_law_X5_ticksUntilWhole rfl rfl rfl (by decide +kernel) ⟨(Nat.le_of_ble_eq_true rfl), (Nat.le_of_ble_eq_true rfl)⟩) rfl (by decide) rfl e0 rfl rfl (Nat.le_of_ble_eq_true rfl) ⟨(Nat.le_of_ble_eq_true rfl), (Nat.le_of_ble_eq_true rfl)⟩ dL_law_682 ?_
  refine z_aload_n C dL_law_685 rfl ?_
  refine z_aload_n C dL_law_686 rfl ?_
  refine z_iload_n C dL_law_687 rfl ?_
  refine z_iconst C (nI (1)) dL_law_688 (by decide) ?_
  refine z_iaddN C  dL_law_689 ?_
  refine z_sld C hXs hbl hbA (by omega) (by omega) dL_law_690 ?_
  refine z_callVF C (30) (Cn := RX6) (T := TX6) (N := 19) (k_X6_ticksUntilWhole vl D cI cM A ad E hX (xs (i + 1)) hI hM) (cwV 1 C.2.2.2.2.1 gL_law_X6_ticksUntilWhole rfl rfl rfl (by decide +kernel) ⟨(Nat.le_of_ble_eq_true rfl), (Nat.le_of_ble_eq_true rfl)⟩) rfl (by decide) rfl g30 rfl rfl (Nat.le_of_ble_eq_true rfl) ⟨(Nat.le_of_ble_eq_true rfl), (Nat.le_of_ble_eq_true rfl)⟩ dL_law_691 ?_
  refine z_icmp_eq C 820 dL_law_694 (by decide) (fun _ => ?_) (fun h => absurd rfl h)
  exact next M E hI hR hM

set_option maxHeartbeats 4000000 in
set_option maxRecDepth 100000 in
theorem lc_21 {p : Program} {vl : Launch} {e : Env} {s : State} {m : MethodId} {args : Array Value} {below : List Frame} {meth : Method} {c : Code} {D : va_G} {cI cM : ClassId} {A : Nat → Prop} {ad : Nat → Nat} {Q : State → Prop} {b L i : Nat} {xs : Nat → Int32} {M : St} {E : Nat → va_E} (C : ZC p s m args meth c code 4 RL wsL_law D cI cM) (hX : XD A 40 ad) (hXs : va_X b L xs s s.heap) (hbl : b < s.heap.size) (hbA : ¬ A b) (hL : L ≤ 2048) (hi : i + 4 ≤ L) (hI : Inv M) (hR : RelX cI cM ad M E) (hM : RelM cI ad M E) (next : ∀ (M2 : St) (E2 : Nat → va_E), Inv M2 → RelX cI cM ad M2 E2 → RelM cI ad M2 E2 → Z p vl e room_1 s m args below meth c 4 D A 40 ad E2 [(0, .ref b), (1, .ref (ad 0)), (2, .ref (ad 30)), (3, .int (nI i))] 40 3008 Q 820 []) : Z p vl e room_1 s m args below meth c 4 D A 40 ad E [(0, .ref b), (1, .ref (ad 0)), (2, .ref (ad 30)), (3, .int (nI i))] 40 3008 Q 699 [] := by
  have e0 := RelX_0 hR
  obtain ⟨sp0, g30⟩ := RelM_0 hM
  refine z_aload_n C dL_law_699 rfl ?_
  refine z_aload_n C dL_law_700 rfl ?_
  refine z_iload_n C dL_law_701 rfl ?_
  refine z_iconst C (nI (1)) dL_law_702 (by decide) ?_
  refine z_iaddN C  dL_law_703 ?_
  refine z_sld C hXs hbl hbA (by omega) (by omega) dL_law_704 ?_
  refine z_aload_n C dL_law_705 rfl ?_
  refine z_iload_n C dL_law_706 rfl ?_
  refine z_iconst C (nI (2)) dL_law_707 (by decide) ?_
  refine z_iaddN C  dL_law_708 ?_
  refine z_sld C hXs hbl hbA (by omega) (by omega) dL_law_709 ?_
  refine z_callVF C (0) (Cn := RX5) (T := TX5) (N := 12) (k_X5_pixel vl D cI cM A ad E hX (xs (i + 1)) (xs (i + 2)) hI hR) (cwV 2 C.2.2.2.2.1 gL_law_X5_pixel rfl rfl rfl (by decide +kernel) ⟨(Nat.le_of_ble_eq_true rfl), (Nat.le_of_ble_eq_true rfl)⟩) rfl (by decide) rfl e0 rfl rfl (Nat.le_of_ble_eq_true rfl) ⟨(Nat.le_of_ble_eq_true rfl), (Nat.le_of_ble_eq_true rfl)⟩ dL_law_710 ?_
  refine z_aload_n C dL_law_713 rfl ?_
  refine z_aload_n C dL_law_714 rfl ?_
  refine z_iload_n C dL_law_715 rfl ?_
  refine z_iconst C (nI (1)) dL_law_716 (by decide) ?_
  refine z_iaddN C  dL_law_717 ?_
  refine z_sld C hXs hbl hbA (by omega) (by omega) dL_law_718 ?_
  refine z_aload_n C dL_law_719 rfl ?_
  refine z_iload_n C dL_law_720 rfl ?_
  refine z_iconst C (nI (2)) dL_law_721 (by decide) ?_
  refine z_iaddN C  dL_law_722 ?_
  refine z_sld C hXs hbl hbA (by omega) (by omega) dL_law_723 ?_
  refine z_callVI C (30) (Cn := RX6) (T := TX6) (N := 19) (k_X6_pixel vl D cI cM A ad E hX (xs (i + 1)) (xs (i + 2)) hI hM) (cwV 2 C.2.2.2.2.1 gL_law_X6_pixel rfl rfl rfl (by decide +kernel) ⟨(Nat.le_of_ble_eq_true rfl), (Nat.le_of_ble_eq_true rfl)⟩) rfl (by decide) rfl g30 rfl rfl (Nat.le_of_ble_eq_true rfl) ⟨(Nat.le_of_ble_eq_true rfl), (Nat.le_of_ble_eq_true rfl)⟩ dL_law_724 (fun r2 E2 hp2 => ?_)
  obtain ⟨hr2, hM2, hf2⟩ := hp2
  refine z_icmp_eq C 820 dL_law_727 (by decide) (fun _ => ?_) (fun h => absurd hr2.symm h)
  exact next M _ hI (hR.mv hf2) hM2

set_option maxHeartbeats 4000000 in
set_option maxRecDepth 100000 in
theorem lc_22 {p : Program} {vl : Launch} {e : Env} {s : State} {m : MethodId} {args : Array Value} {below : List Frame} {meth : Method} {c : Code} {D : va_G} {cI cM : ClassId} {A : Nat → Prop} {ad : Nat → Nat} {Q : State → Prop} {b L i : Nat} {xs : Nat → Int32} {M : St} {E : Nat → va_E} (C : ZC p s m args meth c code 4 RL wsL_law D cI cM) (hX : XD A 40 ad) (hXs : va_X b L xs s s.heap) (hbl : b < s.heap.size) (hbA : ¬ A b) (hL : L ≤ 2048) (hi : i + 4 ≤ L) (hI : Inv M) (hR : RelX cI cM ad M E) (hM : RelM cI ad M E) (next : ∀ (M2 : St) (E2 : Nat → va_E), Inv M2 → RelX cI cM ad M2 E2 → RelM cI ad M2 E2 → Z p vl e room_1 s m args below meth c 4 D A 40 ad E2 [(0, .ref b), (1, .ref (ad 0)), (2, .ref (ad 30)), (3, .int (nI i))] 40 3008 Q 820 []) : Z p vl e room_1 s m args below meth c 4 D A 40 ad E [(0, .ref b), (1, .ref (ad 0)), (2, .ref (ad 30)), (3, .int (nI i))] 40 3008 Q 732 [] := by
  have e0 := RelX_0 hR
  obtain ⟨sp0, g30⟩ := RelM_0 hM
  refine z_aload_n C dL_law_732 rfl ?_
  refine z_callVF C (0) (Cn := RX5) (T := TX5) (N := 12) (k_X5_load vl D cI cM A ad E hX  hI hR) (cwV 0 C.2.2.2.2.1 gL_law_X5_load rfl rfl rfl (by decide +kernel) ⟨(Nat.le_of_ble_eq_true rfl), (Nat.le_of_ble_eq_true rfl)⟩) rfl (by decide) rfl e0 rfl rfl (Nat.le_of_ble_eq_true rfl) ⟨(Nat.le_of_ble_eq_true rfl), (Nat.le_of_ble_eq_true rfl)⟩ dL_law_733 ?_
  refine z_aload_n C dL_law_736 rfl ?_
  refine z_callVI C (30) (Cn := RX6) (T := TX6) (N := 19) (k_X6_load vl D cI cM A ad E hX  hI hM) (cwV 0 C.2.2.2.2.1 gL_law_X6_load rfl rfl rfl (by decide +kernel) ⟨(Nat.le_of_ble_eq_true rfl), (Nat.le_of_ble_eq_true rfl)⟩) rfl (by decide) rfl g30 rfl rfl (Nat.le_of_ble_eq_true rfl) ⟨(Nat.le_of_ble_eq_true rfl), (Nat.le_of_ble_eq_true rfl)⟩ dL_law_737 (fun r2 E2 hp2 => ?_)
  obtain ⟨hr2, hM2, hf2⟩ := hp2
  refine z_icmp_eq C 820 dL_law_740 (by decide) (fun _ => ?_) (fun h => absurd hr2.symm h)
  exact next M _ hI (hR.mv hf2) hM2

set_option maxHeartbeats 4000000 in
set_option maxRecDepth 100000 in
theorem lc_23 {p : Program} {vl : Launch} {e : Env} {s : State} {m : MethodId} {args : Array Value} {below : List Frame} {meth : Method} {c : Code} {D : va_G} {cI cM : ClassId} {A : Nat → Prop} {ad : Nat → Nat} {Q : State → Prop} {b L i : Nat} {xs : Nat → Int32} {M : St} {E : Nat → va_E} (C : ZC p s m args meth c code 4 RL wsL_law D cI cM) (hX : XD A 40 ad) (hXs : va_X b L xs s s.heap) (hbl : b < s.heap.size) (hbA : ¬ A b) (hL : L ≤ 2048) (hi : i + 4 ≤ L) (hI : Inv M) (hR : RelX cI cM ad M E) (hM : RelM cI ad M E) (next : ∀ (M2 : St) (E2 : Nat → va_E), Inv M2 → RelX cI cM ad M2 E2 → RelM cI ad M2 E2 → Z p vl e room_1 s m args below meth c 4 D A 40 ad E2 [(0, .ref b), (1, .ref (ad 0)), (2, .ref (ad 30)), (3, .int (nI i))] 40 3008 Q 820 []) : Z p vl e room_1 s m args below meth c 4 D A 40 ad E [(0, .ref b), (1, .ref (ad 0)), (2, .ref (ad 30)), (3, .int (nI i))] 40 3008 Q 745 [] := by
  have e0 := RelX_0 hR
  obtain ⟨sp0, g30⟩ := RelM_0 hM
  refine z_aload_n C dL_law_745 rfl ?_
  refine z_callVF C (0) (Cn := RX5) (T := TX5) (N := 12) (k_X5_brightness vl D cI cM A ad E hX  hI hR) (cwV 0 C.2.2.2.2.1 gL_law_X5_brightness rfl rfl rfl (by decide +kernel) ⟨(Nat.le_of_ble_eq_true rfl), (Nat.le_of_ble_eq_true rfl)⟩) rfl (by decide) rfl e0 rfl rfl (Nat.le_of_ble_eq_true rfl) ⟨(Nat.le_of_ble_eq_true rfl), (Nat.le_of_ble_eq_true rfl)⟩ dL_law_746 ?_
  refine z_aload_n C dL_law_749 rfl ?_
  refine z_callVI C (30) (Cn := RX6) (T := TX6) (N := 19) (k_X6_brightness vl D cI cM A ad E hX  hI hM) (cwV 0 C.2.2.2.2.1 gL_law_X6_brightness rfl rfl rfl (by decide +kernel) ⟨(Nat.le_of_ble_eq_true rfl), (Nat.le_of_ble_eq_true rfl)⟩) rfl (by decide) rfl g30 rfl rfl (Nat.le_of_ble_eq_true rfl) ⟨(Nat.le_of_ble_eq_true rfl), (Nat.le_of_ble_eq_true rfl)⟩ dL_law_750 (fun r2 E2 hp2 => ?_)
  obtain ⟨hr2, hM2, hf2⟩ := hp2
  refine z_icmp_eq C 820 dL_law_753 (by decide) (fun _ => ?_) (fun h => absurd hr2.symm h)
  exact next M _ hI (hR.mv hf2) hM2

set_option maxHeartbeats 4000000 in
set_option maxRecDepth 100000 in
theorem lc_24 {p : Program} {vl : Launch} {e : Env} {s : State} {m : MethodId} {args : Array Value} {below : List Frame} {meth : Method} {c : Code} {D : va_G} {cI cM : ClassId} {A : Nat → Prop} {ad : Nat → Nat} {Q : State → Prop} {b L i : Nat} {xs : Nat → Int32} {M : St} {E : Nat → va_E} (C : ZC p s m args meth c code 4 RL wsL_law D cI cM) (hX : XD A 40 ad) (hXs : va_X b L xs s s.heap) (hbl : b < s.heap.size) (hbA : ¬ A b) (hL : L ≤ 2048) (hi : i + 4 ≤ L) (hI : Inv M) (hR : RelX cI cM ad M E) (hM : RelM cI ad M E) (next : ∀ (M2 : St) (E2 : Nat → va_E), Inv M2 → RelX cI cM ad M2 E2 → RelM cI ad M2 E2 → Z p vl e room_1 s m args below meth c 4 D A 40 ad E2 [(0, .ref b), (1, .ref (ad 0)), (2, .ref (ad 30)), (3, .int (nI i))] 40 3008 Q 820 []) : Z p vl e room_1 s m args below meth c 4 D A 40 ad E [(0, .ref b), (1, .ref (ad 0)), (2, .ref (ad 30)), (3, .int (nI i))] 40 3008 Q 758 [] := by
  have e0 := RelX_0 hR
  obtain ⟨sp0, g30⟩ := RelM_0 hM
  refine z_aload_n C dL_law_758 rfl ?_
  refine z_callVF C (0) (Cn := RX5) (T := TX5) (N := 12) (k_X5_peakLoad vl D cI cM A ad E hX  hI hR) (cwV 0 C.2.2.2.2.1 gL_law_X5_peakLoad rfl rfl rfl (by decide +kernel) ⟨(Nat.le_of_ble_eq_true rfl), (Nat.le_of_ble_eq_true rfl)⟩) rfl (by decide) rfl e0 rfl rfl (Nat.le_of_ble_eq_true rfl) ⟨(Nat.le_of_ble_eq_true rfl), (Nat.le_of_ble_eq_true rfl)⟩ dL_law_759 ?_
  refine z_aload_n C dL_law_762 rfl ?_
  refine z_callVI C (30) (Cn := RX6) (T := TX6) (N := 19) (k_X6_peakLoad vl D cI cM A ad E hX  hI hM) (cwV 0 C.2.2.2.2.1 gL_law_X6_peakLoad rfl rfl rfl (by decide +kernel) ⟨(Nat.le_of_ble_eq_true rfl), (Nat.le_of_ble_eq_true rfl)⟩) rfl (by decide) rfl g30 rfl rfl (Nat.le_of_ble_eq_true rfl) ⟨(Nat.le_of_ble_eq_true rfl), (Nat.le_of_ble_eq_true rfl)⟩ dL_law_763 (fun r2 E2 hp2 => ?_)
  obtain ⟨hr2, ⟨hM2, -⟩, hf2⟩ := hp2
  refine z_icmp_eq C 820 dL_law_766 (by decide) (fun _ => ?_) (fun h => absurd hr2.symm h)
  exact next M _ hI (hR.mv hf2) hM2

set_option maxHeartbeats 4000000 in
set_option maxRecDepth 100000 in
theorem lc_25 {p : Program} {vl : Launch} {e : Env} {s : State} {m : MethodId} {args : Array Value} {below : List Frame} {meth : Method} {c : Code} {D : va_G} {cI cM : ClassId} {A : Nat → Prop} {ad : Nat → Nat} {Q : State → Prop} {b L i : Nat} {xs : Nat → Int32} {M : St} {E : Nat → va_E} (C : ZC p s m args meth c code 4 RL wsL_law D cI cM) (hX : XD A 40 ad) (hXs : va_X b L xs s s.heap) (hbl : b < s.heap.size) (hbA : ¬ A b) (hL : L ≤ 2048) (hi : i + 4 ≤ L) (hI : Inv M) (hR : RelX cI cM ad M E) (hM : RelM cI ad M E) (next : ∀ (M2 : St) (E2 : Nat → va_E), Inv M2 → RelX cI cM ad M2 E2 → RelM cI ad M2 E2 → Z p vl e room_1 s m args below meth c 4 D A 40 ad E2 [(0, .ref b), (1, .ref (ad 0)), (2, .ref (ad 30)), (3, .int (nI i))] 40 3008 Q 820 []) : Z p vl e room_1 s m args below meth c 4 D A 40 ad E [(0, .ref b), (1, .ref (ad 0)), (2, .ref (ad 30)), (3, .int (nI i))] 40 3008 Q 771 [] := by
  have e0 := RelX_0 hR
  obtain ⟨sp0, g30⟩ := RelM_0 hM
  refine z_aload_n C dL_law_771 rfl ?_
  refine z_callVF C (0) (Cn := RX5) (T := TX5) (N := 12) (k_X5_peakOffset vl D cI cM A ad E hX  hI hR) (cwV 0 C.2.2.2.2.1 gL_law_X5_peakOffset rfl rfl rfl (by decide +kernel) ⟨(Nat.le_of_ble_eq_true rfl), (Nat.le_of_ble_eq_true rfl)⟩) rfl (by decide) rfl e0 rfl rfl (Nat.le_of_ble_eq_true rfl) ⟨(Nat.le_of_ble_eq_true rfl), (Nat.le_of_ble_eq_true rfl)⟩ dL_law_772 ?_
  refine z_aload_n C dL_law_775 rfl ?_
  refine z_callVI C (30) (Cn := RX6) (T := TX6) (N := 19) (k_X6_peakOffset vl D cI cM A ad E hX  hI hM) (cwV 0 C.2.2.2.2.1 gL_law_X6_peakOffset rfl rfl rfl (by decide +kernel) ⟨(Nat.le_of_ble_eq_true rfl), (Nat.le_of_ble_eq_true rfl)⟩) rfl (by decide) rfl g30 rfl rfl (Nat.le_of_ble_eq_true rfl) ⟨(Nat.le_of_ble_eq_true rfl), (Nat.le_of_ble_eq_true rfl)⟩ dL_law_776 (fun r2 E2 hp2 => ?_)
  obtain ⟨hr2, hM2, hf2⟩ := hp2
  refine z_icmp_eq C 820 dL_law_779 (by decide) (fun _ => ?_) (fun h => absurd hr2.symm h)
  exact next M _ hI (hR.mv hf2) hM2

set_option maxHeartbeats 4000000 in
set_option maxRecDepth 100000 in
theorem lc_26 {p : Program} {vl : Launch} {e : Env} {s : State} {m : MethodId} {args : Array Value} {below : List Frame} {meth : Method} {c : Code} {D : va_G} {cI cM : ClassId} {A : Nat → Prop} {ad : Nat → Nat} {Q : State → Prop} {b L i : Nat} {xs : Nat → Int32} {M : St} {E : Nat → va_E} (C : ZC p s m args meth c code 4 RL wsL_law D cI cM) (hX : XD A 40 ad) (hXs : va_X b L xs s s.heap) (hbl : b < s.heap.size) (hbA : ¬ A b) (hL : L ≤ 2048) (hi : i + 4 ≤ L) (hI : Inv M) (hR : RelX cI cM ad M E) (hM : RelM cI ad M E) (next : ∀ (M2 : St) (E2 : Nat → va_E), Inv M2 → RelX cI cM ad M2 E2 → RelM cI ad M2 E2 → Z p vl e room_1 s m args below meth c 4 D A 40 ad E2 [(0, .ref b), (1, .ref (ad 0)), (2, .ref (ad 30)), (3, .int (nI i))] 40 3008 Q 820 []) : Z p vl e room_1 s m args below meth c 4 D A 40 ad E [(0, .ref b), (1, .ref (ad 0)), (2, .ref (ad 30)), (3, .int (nI i))] 40 3008 Q 784 [] := by
  have e0 := RelX_0 hR
  obtain ⟨sp0, g30⟩ := RelM_0 hM
  refine z_aload_n C dL_law_784 rfl ?_
  refine z_aload_n C dL_law_785 rfl ?_
  refine z_iload_n C dL_law_786 rfl ?_
  refine z_iconst C (nI (1)) dL_law_787 (by decide) ?_
  refine z_iaddN C  dL_law_788 ?_
  refine z_sld C hXs hbl hbA (by omega) (by omega) dL_law_789 ?_
  refine z_callVF C (0) (Cn := RX5) (T := TX5) (N := 12) (k_X5_damage vl D cI cM A ad E hX (xs (i + 1)) hI hR) (cwV 1 C.2.2.2.2.1 gL_law_X5_damage rfl rfl rfl (by decide +kernel) ⟨(Nat.le_of_ble_eq_true rfl), (Nat.le_of_ble_eq_true rfl)⟩) rfl (by decide) rfl e0 rfl rfl (Nat.le_of_ble_eq_true rfl) ⟨(Nat.le_of_ble_eq_true rfl), (Nat.le_of_ble_eq_true rfl)⟩ dL_law_790 ?_
  refine z_aload_n C dL_law_793 rfl ?_
  refine z_aload_n C dL_law_794 rfl ?_
  refine z_iload_n C dL_law_795 rfl ?_
  refine z_iconst C (nI (1)) dL_law_796 (by decide) ?_
  refine z_iaddN C  dL_law_797 ?_
  refine z_sld C hXs hbl hbA (by omega) (by omega) dL_law_798 ?_
  refine z_callVI C (30) (Cn := RX6) (T := TX6) (N := 19) (k_X6_damage vl D cI cM A ad E hX (xs (i + 1)) hI hM) (cwV 1 C.2.2.2.2.1 gL_law_X6_damage rfl rfl rfl (by decide +kernel) ⟨(Nat.le_of_ble_eq_true rfl), (Nat.le_of_ble_eq_true rfl)⟩) rfl (by decide) rfl g30 rfl rfl (Nat.le_of_ble_eq_true rfl) ⟨(Nat.le_of_ble_eq_true rfl), (Nat.le_of_ble_eq_true rfl)⟩ dL_law_799 (fun r2 E2 hp2 => ?_)
  obtain ⟨hr2, hM2, hf2⟩ := hp2
  refine z_icmp_eq C 820 dL_law_802 (by decide) (fun _ => ?_) (fun h => absurd hr2.symm h)
  exact next M _ hI (hR.mv hf2) hM2

set_option maxHeartbeats 4000000 in
set_option maxRecDepth 100000 in
theorem lc_27 {p : Program} {vl : Launch} {e : Env} {s : State} {m : MethodId} {args : Array Value} {below : List Frame} {meth : Method} {c : Code} {D : va_G} {cI cM : ClassId} {A : Nat → Prop} {ad : Nat → Nat} {Q : State → Prop} {b L i : Nat} {xs : Nat → Int32} {M : St} {E : Nat → va_E} (C : ZC p s m args meth c code 4 RL wsL_law D cI cM) (hX : XD A 40 ad) (hXs : va_X b L xs s s.heap) (hbl : b < s.heap.size) (hbA : ¬ A b) (hL : L ≤ 2048) (hi : i + 4 ≤ L) {t0 : Nat} (hz : SHZ t0 A s s.heap) (hI : Inv M) (hR : RelX cI cM ad M E) (hM : RelM cI ad M E) (next : ∀ (M2 : St) (E2 : Nat → va_E), Inv M2 → RelX cI cM ad M2 E2 → RelM cI ad M2 E2 → Z p vl e room_1 s m args below meth c 4 D A 40 ad E2 [(0, .ref b), (1, .ref (ad 0)), (2, .ref (ad 30)), (3, .int (nI i))] 40 3008 Q 820 []) : Z p vl e room_1 s m args below meth c 4 D A 40 ad E [(0, .ref b), (1, .ref (ad 0)), (2, .ref (ad 30)), (3, .int (nI i))] 40 3008 Q 807 [] := by
  have e0 := RelX_0 hR
  obtain ⟨sp0, g30⟩ := RelM_0 hM
  refine z_aload_n C dL_law_807 rfl ?_
  refine z_callVIZ C (0) (Cn := RX5) (T := TX5) (N := 12) (k_X5_adoptBestShift vl D cI cM A ad E hX  hI hR) hz (cwV 0 C.2.2.2.2.1 gL_law_X5_adoptBestShift rfl rfl rfl (by decide +kernel) ⟨(Nat.le_of_ble_eq_true rfl), (Nat.le_of_ble_eq_true rfl)⟩) rfl (by decide) rfl e0 rfl rfl (Nat.le_of_ble_eq_true rfl) ⟨(Nat.le_of_ble_eq_true rfl), (Nat.le_of_ble_eq_true rfl)⟩ dL_law_808 (fun r1 E1 hp1 => ?_)
  obtain ⟨hr1, hR1, hf1⟩ := hp1
  have hM1 : RelM cI ad M E1 := hM.mv hf1
  obtain ⟨sp1, g31⟩ := RelM_0 hM1
  refine z_aload_n C dL_law_811 rfl ?_
  refine z_callVI C (30) (Cn := RX6) (T := TX6) (N := 19) (k_X6_adoptBestShift vl D cI cM A ad E1 hX  hI hM1) (cwV 0 C.2.2.2.2.1 gL_law_X6_adoptBestShift rfl rfl rfl (by decide +kernel) ⟨(Nat.le_of_ble_eq_true rfl), (Nat.le_of_ble_eq_true rfl)⟩) rfl (by decide) rfl g31 rfl rfl (Nat.le_of_ble_eq_true rfl) ⟨(Nat.le_of_ble_eq_true rfl), (Nat.le_of_ble_eq_true rfl)⟩ dL_law_812 (fun r2 E2 hp2 => ?_)
  obtain ⟨hr2, hM2, hf2⟩ := hp2
  refine z_icmp_eq C 820 dL_law_815 (by decide) (fun _ => ?_) (fun h => absurd (hr1.trans hr2.symm) h)
  exact next _ _ (i_adoptBestShift hI ) (hR1.mv hf2) hM2

