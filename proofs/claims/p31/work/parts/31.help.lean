section ZL
variable {p : Program} {l : Launch} {e : Env} {R : Room} {s : State} {m : MethodId} {args : Array Value} {below : List Frame} {meth : Method} {c : Code}
variable {cc : ByteArray} {nL : Nat} {own : String} {Ts : List Cond} {D : va_G} {cI cM : ClassId} {A : Nat → Prop} {n : Nat} {ad : Nat → Nat} {E : Nat → va_E} {lv lv' : List (Nat × Value)} {cells slots : Nat} {Q : State → Prop} {pc : Nat} {st : List Value}
theorem z_sld (C : ZC p s m args meth c cc nL own Ts D cI cM) {b L j : Nat} {xs : Nat → Int32} (hXs : va_X b L xs s s.heap) (hbl : b < s.heap.size) (hbA : ¬ A b) (hj : j < L) (hL : L < 2 ^ 31) (hd : decode cc pc = .ok (.iaload, 1)) (k : Z p l e R s m args below meth c nL D A n ad E lv cells slots Q (pc + 1) (.int (xs j) :: st)) : Z p l e R s m args below meth c nL D A n ad E lv cells slots Q (pc) (.int (nI j) :: .ref b :: st) := fun H locs ls hP hS hl =>
  va_sld C.1 C.2.1 hXs hbl hbA hS (vp_in_nI hj hL) hd (by rw [nI_clamp (by omega)]; exact k H locs ls hP hS hl)
theorem z_slen (C : ZC p s m args meth c cc nL own Ts D cI cM) {b L : Nat} {xs : Nat → Int32} (hXs : va_X b L xs s s.heap) (hbl : b < s.heap.size) (hbA : ¬ A b) (hd : decode cc pc = .ok (.arraylength, 1)) (k : Z p l e R s m args below meth c nL D A n ad E lv cells slots Q (pc + 1) (.int (nI L) :: st)) : Z p l e R s m args below meth c nL D A n ad E lv cells slots Q (pc) (.ref b :: st) := fun H locs ls hP hS hl =>
  va_slen C.1 C.2.1 hXs hbl hbA hS hd (k H locs ls hP hS hl)
theorem z_ldc (C : ZC p s m args meth c cc nL own Ts D cI cM) {index : Nat} (v : Int32) (hc : Cond.constant own index v ∈ Ts) (hd : decode cc pc = .ok (.ldc index, 2)) (k : Z p l e R s m args below meth c nL D A n ad E lv cells slots Q (pc + 2) (.int v :: st)) : Z p l e R s m args below meth c nL D A n ad E lv cells slots Q (pc) (st) := fun H locs ls hP hS hl => lv_ldc C.1 C.2.1 C.2.2.2.1 (C.2.2.2.2.1 _ hc) hd (k H locs ls hP hS hl)
def MIX (l : Launch) (y : MethodName) (ws : List Cond) (rm : Room) (D : va_G) (cI cM : ClassId) (A : Nat → Prop) (n : Nat) (ad : Nat → Nat) (E : Nat → va_E) (As : List Value) (b L : Nat) (xs : Nat → Int32) (post : Int32 → (Nat → va_E) → Prop) : Prop := Met l y ws rm (fun v U => PRE D cI cM n ad E As v U ∧ va_X b L xs U U.heap ∧ b < U.heap.size) (va_Qi post (BE D n ad) A) 0 0 A
theorem z_callSIX (C : ZC p s m args meth c cc nL own Ts D cI cM) {y : MethodName} {bytes : ByteArray} {maxL : Nat} {ret : Option FieldType} {ws : List Cond} {rm : Room} {index nA : Nat} {As : List Value} {st0 : List Value} {post : Int32 → (Nat → va_E) → Prop} {b L : Nat} {xs : Nat → Int32} (hM : MIX l y ws rm D cI cM A n ad E As b L xs post) (hXs : va_X b L xs s s.heap) (hbl : b < s.heap.size) (hbA : ¬ A b) (cw : CallB R s args own index y bytes maxL ret ws rm 0 0 nA ∧ (Cond.static y).before args s = true) (hn : As.length = nA) (hst : st0 = As.reverse ++ st) (hcat : (st.map fun v => v.category).sum ≤ 8) (hrm : cells ≤ R.cells ∧ slots ≤ R.slots) (hd : decode cc pc = .ok (.invokestatic index, 3)) (k : ∀ r E1, post r E1 → Z p l e R s m args below meth c nL D A n ad E1 lv cells slots Q (pc + 3) (.int r :: st)) : Z p l e R s m args below meth c nL D A n ad E lv cells slots Q (pc) (st0) := fun H locs ls hP hS hl =>
  va_calli (va_runS (g := F0 m pc ls st0) ⟨C.1, C.2.1, C.2.2.1, C.2.2.2.1, C.2.2.2.2.1⟩ hM cw ⟨fun a U g mk q => ⟨PRE_blind a U g mk q.1, va_X.moved (u := U) (U := U.calling g mk a) (Vm.Alike.refl U.vm) q.2.1, q.2.2⟩, fun U hU hW => ⟨⟨rfl, by rw [hU]; exact hP, va_K.moved hW.alike C.2.2.2.2.2.1, NW.warm hW C.2.2.2.2.2.2.1⟩, by rw [hU]; exact ⟨va_X.moved hW.alike (va_X.kept hXs (hS.2.1 b hbl hbA)), Nat.lt_of_lt_of_le hbl hS.1⟩⟩⟩ rfl hn hl.1 hst (lv_room hcat) hd hrm) hS (fun q _ h => h) (fun q h => h) (fun r u t H1 locs1 ht hvm hw hB hz hk1 hS1 => k r u hw H1 locs1 ls (by rw [← ht]; exact hB) hS1 hl)
end ZL
theorem mix_of {l : Launch} {y : MethodName} {ws ws' : List Cond} {rm : Room} {D : va_G} {cI cM : ClassId} {A : Nat → Prop} {n : Nat} {ad : Nat → Nat} {E : Nat → va_E} {As : List Value} {b L : Nat} {xs : Nat → Int32} {post : Int32 → (Nat → va_E) → Prop} (cc : ByteArray) (nL : Nat) (ty : FieldType) (own : String) (hy : plainFor y = true) (hown : y.cls = own) (hw : ws = Cond.code y cc nL (some ty) :: ws') (hln : (lg_sl As).length ≤ nL) (hnar : ∀ r E1, post r E1 → narrow ty (.int r) = .int r)
    (body : ∀ (p : Program) (e : Env) (s : State) (m : MethodId) (args : Array Value) (below : List Frame) (meth : Method) (c : Code) (Q : State → Prop), ZC p s m args meth c cc nL own ws D cI cM → va_X b L xs s s.heap → b < s.heap.size → (∀ (pc : Nat) (lv : List (Nat × Value)) (E1 : Nat → va_E) (r : Int32), decode cc pc = .ok (.ireturn, 1) → post r E1 → Z p l e rm s m args below meth c nL D A n ad E1 lv 0 0 Q pc [.int r]) → Z p l e rm s m args below meth c nL D A n ad E (lv_args 0 As) 0 0 Q 0 []) : MIX l y ws rm D cI cM A n ad E As b L xs post := by
  refine met_ofF (cc := cc) (maxL := nL) (ret := some ty) hy hw ?_
  intro p e s m args below meth c s₁ B hml hv
  obtain ⟨⟨rfl, hP, hK, hN⟩, hXs, hbl⟩ := hv
  have hx := B.exec
  have hb := B.bytes
  have hr := B.returns
  have hts := atoms_spec (ws := ws) B.pre
  have hown2 : s.vm.findClass own = some m.cls := by rw [← hown]; exact findClass_of_methodNamed B.named
  have hlocks := B.notSynchronized
  have hl := lv_entry As (n := nL) hln
  rw [lg_entry_eq]
  exact body p e s m _ below meth c _ ⟨hx, hb, hml, hown2, hts, hK, hN, hlocks⟩ hXs hbl (fun pc lv E1 r hd hp H locs ls hP1 hS1 hl1 => W.zret hx hb hr (hnar r E1 hp) (fun t ht hW => ⟨⟨r, E1, rfl, hp, by unfold BE; rw [ht]; exact hP1⟩, hS1.F ht⟩) hS1.2.2 hd hlocks) s.heap [] _ hP va_S.rf hl
theorem and_lt31 (x : Int32) : ∃ v : Nat, v < 2 ^ 31 ∧ x &&& nI 2147483647 = nI v := by
  have hx : x = nI x.toBitVec.toNat := by
    apply Int32.toBitVec_inj.mp
    show x.toBitVec = BitVec.ofNat 32 x.toBitVec.toNat
    rw [BitVec.ofNat_toNat, BitVec.setWidth_eq]
  refine ⟨x.toBitVec.toNat &&& 2147483647, Nat.lt_of_le_of_lt Nat.and_le_right (by decide), ?_⟩
  rw [hx, nx_and, ← hx]
theorem sh_r {y : Nat} (hy : y < 2 ^ 31) : ∀ k, k < 13 → nI y >>> (nI k &&& 31) = nI (y / 2 ^ k) := by
  intro k hk
  rcases (show k = 0 ∨ k = 1 ∨ k = 2 ∨ k = 3 ∨ k = 4 ∨ k = 5 ∨ k = 6 ∨ k = 7 ∨ k = 8 ∨ k = 9 ∨ k = 10 ∨ k = 11 ∨ k = 12 by omega) with rfl | rfl | rfl | rfl | rfl | rfl | rfl | rfl | rfl | rfl | rfl | rfl | rfl
  · exact pk_shrN hy _ 0 (by decide)
  · exact pk_shrN hy _ 1 (by decide)
  · exact pk_shrN hy _ 2 (by decide)
  · exact pk_shrN hy _ 3 (by decide)
  · exact pk_shrN hy _ 4 (by decide)
  · exact pk_shrN hy _ 5 (by decide)
  · exact pk_shrN hy _ 6 (by decide)
  · exact pk_shrN hy _ 7 (by decide)
  · exact pk_shrN hy _ 8 (by decide)
  · exact pk_shrN hy _ 9 (by decide)
  · exact pk_shrN hy _ 10 (by decide)
  · exact pk_shrN hy _ 11 (by decide)
  · exact pk_shrN hy _ 12 (by decide)
set_option maxHeartbeats 4000000 in
set_option maxRecDepth 100000 in
theorem k_L_cell (vl : Launch) (D : va_G) (cI cM : ClassId) (A : Nat → Prop) (ad : Nat → Nat) (E : Nat → va_E) (hX : XD A 32 ad) {b L k : Nat} {xs : Nat → Int32} (hbA : ¬ A b) (hL : L < 2 ^ 31) (hk : k < 2 ^ 31) : MIX vl yL_cell wsL_cell { frames := 0, cells := 0, slots := 0, locals := 0 } D cI cM A 32 ad E [.ref b, .int (nI k)] b L xs (fun r E1 => E1 = E ∧ ∃ v : Nat, v < 2 ^ 31 ∧ r = nI v) := by
  refine mix_of cL_cell 2 .int RL (by decide) rfl rfl (Nat.le_of_ble_eq_true rfl) (fun r E1 h => rfl) ?_
  intro vp ve vs vm va vb vt vc Q C hXs hbl hend
  refine z_lv [(0, .ref b), (1, .int (nI k))] ⟨rfl, rfl, rfl, rfl, trivial⟩ ?_
  have fin : ∀ x : Int32, Z vp vl ve { frames := 0, cells := 0, slots := 0, locals := 0 } vs vm va vb vt vc 2 D A 32 ad E [(0, .ref b), (1, .int (nI k))] 0 0 Q 19 [.int x] := by
    intro x
    obtain ⟨v, hv, e⟩ := and_lt31 x
    refine z_ldc C (nI 2147483647) (by decide +kernel) dL_cell_19 ?_
    refine z_iand C dL_cell_21 ?_
    exact hend _ _ _ _ dL_cell_22 ⟨rfl, v, hv, e⟩
  refine z_iload_n C dL_cell_0 rfl ?_
  refine z_aload_n C dL_cell_1 rfl ?_
  refine z_slen C hXs hbl hbA dL_cell_2 ?_
  refine z_icmp_geN C 12 hk hL dL_cell_3 (by decide) (fun h => ?_) (fun h => ?_)
  · refine z_ldc C (nI 15485959) (by decide +kernel) dL_cell_12 ?_
    refine z_iload_n C dL_cell_14 rfl ?_
    refine z_imul C dL_cell_15 ?_
    refine z_bipush C (nI 109) dL_cell_16 (by decide) ?_
    refine z_iadd C dL_cell_18 ?_
    exact fin _
  · refine z_aload_n C dL_cell_6 rfl ?_
    refine z_iload_n C dL_cell_7 rfl ?_
    refine z_sld C hXs hbl hbA h hL dL_cell_8 ?_
    refine z_goto C 19 dL_cell_9 (by decide) ?_
    exact fin _
set_option maxHeartbeats 4000000 in
set_option maxRecDepth 100000 in
theorem k_L_number (vl : Launch) (D : va_G) (cI cM : ClassId) (A : Nat → Prop) (ad : Nat → Nat) (E : Nat → va_E) (hX : XD A 32 ad) {c : Nat} (hc : c ≤ 8) : MF vl yL_number wsL_number { frames := 0, cells := 0, slots := 0, locals := 0 } D cI cM A 32 ad E [.int (nI (c))] (nI (num c)) := by
  refine mf_of cL_number 1 (.int) RL (by decide) rfl rfl (Nat.le_of_ble_eq_true rfl) (rfl) ?_
  intro vp ve vs vm va vb vt vc Q C hend
  refine z_lv [(0, .int (nI (c)))] ⟨rfl, rfl, trivial⟩ ?_
  refine z_iload_n C dL_number_0 rfl ?_
  refine z_bipush C (nI (8)) dL_number_1 (by decide) ?_
  refine z_icmp_neN C 11 (by omega) (by omega) dL_number_3 (by decide) (fun h3 => ?_) (fun h3 => ?_)
  · refine z_iload_n C dL_number_11 rfl ?_
    exact hend _ _ _ dL_number_12 (by unfold num; rw [if_neg h3])
  · refine z_bipush C (nI (26)) dL_number_6 (by decide) ?_
    refine z_goto C 12 dL_number_8 (by decide) ?_
    exact hend _ _ _ dL_number_12 (by unfold num; rw [if_pos h3])

set_option maxHeartbeats 4000000 in
set_option maxRecDepth 100000 in
theorem k_L_has (vl : Launch) (D : va_G) (cI cM : ClassId) (A : Nat → Prop) (ad : Nat → Nat) (E : Nat → va_E) (hX : XD A 32 ad)   : MF vl yL_has wsL_has { frames := 0, cells := 0, slots := 0, locals := 0 } D cI cM A 32 ad E [.int (nI (256)), .int (nI (8))] (nI 0) := by
  refine mf_of cL_has 2 (.boolean) RL (by decide) rfl rfl (Nat.le_of_ble_eq_true rfl) (rfl) ?_
  intro vp ve vs vm va vb vt vc Q C hend
  refine z_lv [(0, .int (nI (256))), (1, .int (nI (8)))] ⟨rfl, rfl, rfl, rfl, trivial⟩ ?_
  refine z_iload_n C dL_has_0 rfl ?_
  refine z_if_ltN C 23 (by omega) dL_has_1 (by decide) ?_
  refine z_iload_n C dL_has_4 rfl ?_
  refine z_bipush C (nI (8)) dL_has_5 (by decide) ?_
  refine z_icmp_geN C 23 (by omega) (by omega) dL_has_7 (by decide) (fun h7 => ?_) (fun h7 => (by exfalso; omega))
  refine z_iconst C (nI (0)) dL_has_23 (by decide) ?_
  exact hend _ _ _ dL_has_24 (rfl)

set_option maxHeartbeats 4000000 in
set_option maxRecDepth 100000 in
theorem k_L_width (vl : Launch) (D : va_G) (cI cM : ClassId) (A : Nat → Prop) (ad : Nat → Nat) (E : Nat → va_E) (hX : XD A 32 ad) {g m : Nat → Nat} {k : Nat} (e30 : E (30) = aI cI 63 g) (e31 : E (31) = aI cI 12 m) (hk : k ≤ 1) (h1 : 1 ≤ m (2 + 5 * k)) (h3 : m (2 + 5 * k) ≤ 3) (h8 : ∀ i, i < m (2 + 5 * k) → m (4 + 5 * k + i) ≤ 8) : MF vl yL_width wsL_width { frames := 0, cells := 0, slots := 0, locals := 0 } D cI cM A 32 ad E [.ref (ad 30), .ref (ad 31), .int (nI (k))] (nI (lwi g m k)) := by
  refine mf_of cL_width 5 (.int) RL (by decide) rfl rfl (Nat.le_of_ble_eq_true rfl) (rfl) ?_
  intro vp ve vs vm va vb vt vc Q C hend
  refine z_lv [(0, .ref (ad 30)), (1, .ref (ad 31)), (2, .int (nI (k)))] ⟨rfl, rfl, rfl, rfl, rfl, rfl, trivial⟩ ?_
  refine z_aload_n C dL_width_0 rfl ?_
  refine z_iconst C (nI (2)) dL_width_1 (by decide) ?_
  refine z_iconst C (nI (5)) dL_width_2 (by decide) ?_
  refine z_iload_n C dL_width_3 rfl ?_
  refine z_imulN C  dL_width_4 ?_
  refine z_iaddN C  dL_width_5 ?_
  refine z_ialdG C (31) (by first | decide | omega) rfl e31 (by omega) (by decide) dL_width_6 ?_
  refine z_iconst C (nI (1)) dL_width_7 (by decide) ?_
  refine z_isubN C (by omega) dL_width_8 ?_
  refine z_istore_n C [(0, .ref (ad 30)), (1, .ref (ad 31)), (2, .int (nI (k))), (3, .int (nI ((m (2 + (5 * k))) - 1)))] dL_width_9 (by decide) ⟨rfl, rfl, rfl, rfl, rfl, rfl, rfl, rfl, trivial⟩ ?_
  refine z_iconst C (nI (0)) dL_width_10 (by decide) ?_
  refine z_istore C [(0, .ref (ad 30)), (1, .ref (ad 31)), (2, .int (nI (k))), (3, .int (nI ((m (2 + (5 * k))) - 1))), (4, .int (nI (0)))] dL_width_11 (by decide) ⟨rfl, rfl, rfl, rfl, rfl, rfl, rfl, rfl, rfl, rfl, trivial⟩ ?_
  have loop13 : ∀ (fuel : Nat) (i : Nat), (hi : i ≤ m (2 + 5 * k)) → m (2 + 5 * k) - i < fuel → Z vp vl ve { frames := 0, cells := 0, slots := 0, locals := 0 } vs vm va vb vt vc 5 D A 32 ad E [(0, .ref (ad 30)), (1, .ref (ad 31)), (2, .int (nI (k))), (3, .int (nI (m (2 + 5 * k) - 1 + sm (fun q => g (m (4 + 5 * k + q))) i))), (4, .int (nI (i)))] 0 0 Q 13 [] := by
    intro fuel
    induction fuel with
    | zero => intro i hi hlt; exact absurd hlt (Nat.not_lt_zero _)
    | succ fuel ih =>
      intro i hi hlt
      have ih13 := ih
      refine z_iload C dL_width_13 rfl ?_
      refine z_aload_n C dL_width_15 rfl ?_
      refine z_iconst C (nI (2)) dL_width_16 (by decide) ?_
      refine z_iconst C (nI (5)) dL_width_17 (by decide) ?_
      refine z_iload_n C dL_width_18 rfl ?_
      refine z_imulN C  dL_width_19 ?_
      refine z_iaddN C  dL_width_20 ?_
      refine z_ialdG C (31) (by first | decide | omega) rfl e31 (by omega) (by decide) dL_width_21 ?_
      refine z_icmp_geN C 46 (by omega) (by omega) dL_width_22 (by decide) (fun h22 => ?_) (fun h22 => ?_)
      · have hie : i = m (2 + 5 * k) := by omega
        refine z_iload_n C dL_width_46 rfl ?_
        exact hend _ _ _ dL_width_47 (by rw [hie]; rfl)
      · have h9 := h8 i h22
        refine z_iload_n C dL_width_25 rfl ?_
        refine z_aload_n C dL_width_26 rfl ?_
        refine z_aload_n C dL_width_27 rfl ?_
        refine z_iconst C (nI (4)) dL_width_28 (by decide) ?_
        refine z_iconst C (nI (5)) dL_width_29 (by decide) ?_
        refine z_iload_n C dL_width_30 rfl ?_
        refine z_imulN C  dL_width_31 ?_
        refine z_iaddN C  dL_width_32 ?_
        refine z_iload C dL_width_33 rfl ?_
        refine z_iaddN C  dL_width_35 ?_
        refine z_ialdG C (31) (by first | decide | omega) rfl e31 (by omega) (by decide) dL_width_36 ?_
        refine z_ialdG C (30) (by first | decide | omega) rfl e30 (by omega) (by decide) dL_width_37 ?_
        refine z_iaddN C  dL_width_38 ?_
        refine z_top (nI (m (2 + 5 * k) - 1 + sm (fun q => g (m (4 + 5 * k + q))) (i + 1))) (by rw [sm, ← Nat.add_assoc]) ?_
        refine z_istore_n C [(0, .ref (ad 30)), (1, .ref (ad 31)), (2, .int (nI (k))), (3, .int (nI (m (2 + 5 * k) - 1 + sm (fun q => g (m (4 + 5 * k + q))) (i + 1)))), (4, .int (nI (i)))] dL_width_39 (by decide) ⟨rfl, rfl, rfl, rfl, rfl, rfl, rfl, rfl, rfl, rfl, trivial⟩ ?_
        refine z_iincN (j := 1) C [(0, .ref (ad 30)), (1, .ref (ad 31)), (2, .int (nI (k))), (3, .int (nI (m (2 + 5 * k) - 1 + sm (fun q => g (m (4 + 5 * k + q))) (i + 1)))), (4, .int (nI (i + 1)))] dL_width_40 rfl (by decide) ⟨rfl, rfl, rfl, rfl, rfl, rfl, rfl, rfl, rfl, rfl, trivial⟩ ?_
        refine z_goto C 13 dL_width_43 (by decide) ?_
        refine z_lv [(0, .ref (ad 30)), (1, .ref (ad 31)), (2, .int (nI (k))), (3, .int (nI (m (2 + 5 * k) - 1 + sm (fun q => g (m (4 + 5 * k + q))) (i + 1)))), (4, .int (nI (i + 1)))] ⟨rfl, rfl, rfl, rfl, rfl, rfl, rfl, rfl, rfl, rfl, trivial⟩ ?_
        exact ih13 (i + 1) (by omega) (by omega)
  refine z_lv [(0, .ref (ad 30)), (1, .ref (ad 31)), (2, .int (nI (k))), (3, .int (nI ((m (2 + (5 * k))) - 1))), (4, .int (nI (0)))] ⟨rfl, rfl, rfl, rfl, rfl, rfl, rfl, rfl, rfl, rfl, trivial⟩ ?_
  exact loop13 (4) 0 (Nat.zero_le _) (by omega)

def MOK (m : Nat → Nat) (n : Nat) : Prop := ∀ j, j < n → 1 ≤ m (2 + 5 * j) ∧ m (2 + 5 * j) ≤ 3 ∧ ∀ i, i < m (2 + 5 * j) → m (4 + 5 * j + i) ≤ 8
theorem MRl.ok {M : St} {m : Nat → Nat} (h : MRl M m) : MOK m (m 0) := fun j hj => ⟨(h.2.2 j hj).2.1.1, (h.2.2 j hj).2.1.2, fun i hi => ((h.2.2 j hj).2.2 i hi).1⟩
set_option maxHeartbeats 4000000 in
set_option maxRecDepth 100000 in
theorem k_L_start (vl : Launch) (D : va_G) (cI cM : ClassId) (A : Nat → Prop) (ad : Nat → Nat) (E : Nat → va_E) (hX : XD A 32 ad) {g m : Nat → Nat} {k : Nat} (e30 : E (30) = aI cI 63 g) (e31 : E (31) = aI cI 12 m) (hk : k ≤ 2) (hm : MOK m k) : MF vl yL_start wsL_start { frames := 1, cells := 0, slots := 0, locals := 24 } D cI cM A 32 ad E [.ref (ad 30), .ref (ad 31), .int (nI (k))] (nI (lst g m k)) := by
  refine mf_of cL_start 5 (.int) RL (by decide) rfl rfl (Nat.le_of_ble_eq_true rfl) (rfl) ?_
  intro vp ve vs vm va vb vt vc Q C hend
  refine z_lv [(0, .ref (ad 30)), (1, .ref (ad 31)), (2, .int (nI (k)))] ⟨rfl, rfl, rfl, rfl, rfl, rfl, trivial⟩ ?_
  refine z_iconst C (nI (0)) dL_start_0 (by decide) ?_
  refine z_istore_n C [(0, .ref (ad 30)), (1, .ref (ad 31)), (2, .int (nI (k))), (3, .int (nI (0)))] dL_start_1 (by decide) ⟨rfl, rfl, rfl, rfl, rfl, rfl, rfl, rfl, trivial⟩ ?_
  refine z_iconst C (nI (0)) dL_start_2 (by decide) ?_
  refine z_istore C [(0, .ref (ad 30)), (1, .ref (ad 31)), (2, .int (nI (k))), (3, .int (nI (0))), (4, .int (nI (0)))] dL_start_3 (by decide) ⟨rfl, rfl, rfl, rfl, rfl, rfl, rfl, rfl, rfl, rfl, trivial⟩ ?_
  have loop5 : ∀ (fuel : Nat) (i : Nat), (hi : i ≤ k) → k - i < fuel → Z vp vl ve { frames := 1, cells := 0, slots := 0, locals := 24 } vs vm va vb vt vc 5 D A 32 ad E [(0, .ref (ad 30)), (1, .ref (ad 31)), (2, .int (nI (k))), (3, .int (nI (lst g m i))), (4, .int (nI (i)))] 0 0 Q 5 [] := by
    intro fuel
    induction fuel with
    | zero => intro i hi hlt; exact absurd hlt (Nat.not_lt_zero _)
    | succ fuel ih =>
      intro i hi hlt
      have ih5 := ih
      refine z_iload C dL_start_5 rfl ?_
      refine z_iload_n C dL_start_7 rfl ?_
      refine z_icmp_geN C 31 (by omega) (by omega) dL_start_8 (by decide) (fun h8 => ?_) (fun h8 => ?_)
      · have hie : i = k := by omega
        refine z_iload_n C dL_start_31 rfl ?_
        exact hend _ _ _ dL_start_32 (by rw [hie])
      · have hmi := hm i h8
        refine z_iload_n C dL_start_11 rfl ?_
        refine z_aload_n C dL_start_12 rfl ?_
        refine z_aload_n C dL_start_13 rfl ?_
        refine z_iload C dL_start_14 rfl ?_
        refine z_callSF C (k_L_width vl D cI cM A ad E hX e30 e31 (by omega) hmi.1 hmi.2.1 hmi.2.2) (va_cwS 3 C.2.2.2.2.1 gL_start_L_width rfl rfl rfl (by decide +kernel) ⟨Nat.le_of_ble_eq_true rfl, Nat.le_of_ble_eq_true rfl⟩) rfl rfl (Nat.le_of_ble_eq_true rfl) ⟨Nat.zero_le _, Nat.zero_le _⟩ dL_start_16 ?_
        refine z_aload_n C dL_start_19 rfl ?_
        refine z_iconst C (nI (1)) dL_start_20 (by decide) ?_
        refine z_ialdG C (31) (by first | decide | omega) rfl e31 (by omega) (by decide) dL_start_21 ?_
        refine z_iaddN C  dL_start_22 ?_
        refine z_iaddN C  dL_start_23 ?_
        refine z_top (nI (lst g m (i + 1))) (rfl) ?_
        refine z_istore_n C [(0, .ref (ad 30)), (1, .ref (ad 31)), (2, .int (nI (k))), (3, .int (nI (lst g m (i + 1)))), (4, .int (nI (i)))] dL_start_24 (by decide) ⟨rfl, rfl, rfl, rfl, rfl, rfl, rfl, rfl, rfl, rfl, trivial⟩ ?_
        refine z_iincN (j := 1) C [(0, .ref (ad 30)), (1, .ref (ad 31)), (2, .int (nI (k))), (3, .int (nI (lst g m (i + 1)))), (4, .int (nI (i + 1)))] dL_start_25 rfl (by decide) ⟨rfl, rfl, rfl, rfl, rfl, rfl, rfl, rfl, rfl, rfl, trivial⟩ ?_
        refine z_goto C 5 dL_start_28 (by decide) ?_
        refine z_lv [(0, .ref (ad 30)), (1, .ref (ad 31)), (2, .int (nI (k))), (3, .int (nI (lst g m (i + 1)))), (4, .int (nI (i + 1)))] ⟨rfl, rfl, rfl, rfl, rfl, rfl, rfl, rfl, rfl, rfl, trivial⟩ ?_
        exact ih5 (i + 1) (by omega) (by omega)
  refine z_lv [(0, .ref (ad 30)), (1, .ref (ad 31)), (2, .int (nI (k))), (3, .int (nI (0))), (4, .int (nI (0)))] ⟨rfl, rfl, rfl, rfl, rfl, rfl, rfl, rfl, rfl, rfl, trivial⟩ ?_
  exact loop5 (3) 0 (Nat.zero_le _) (by omega)

set_option maxHeartbeats 4000000 in
set_option maxRecDepth 100000 in
theorem k_L_strip (vl : Launch) (D : va_G) (cI cM : ClassId) (A : Nat → Prop) (ad : Nat → Nat) (E : Nat → va_E) (hX : XD A 32 ad) {g m : Nat → Nat} (e30 : E (30) = aI cI 63 g) (e31 : E (31) = aI cI 12 m) (h0 : 1 ≤ m 0) (h0b : m 0 ≤ 2) (h2 : 1 ≤ m 2) (h2b : m 2 ≤ 3) (h4 : m 4 ≤ 8) (hg : 1 ≤ g (m 4)) (hgb : g (m 4) ≤ 6) (hd : g (9 + 6 * m 4) < 256) (h3 : m 3 ≤ 3) : MI vl yL_strip wsL_strip { frames := 0, cells := 0, slots := 0, locals := 0 } D cI cM A 32 ad E [.ref (ad 30), .ref (ad 31), .int (nI (0))] (fun r E1 => E1 = E ∧ ∃ v : Nat, v < 2 ^ 31 ∧ r = nI v) := by
  refine mi_of cL_strip 7 (.int) RL (by decide) rfl rfl (Nat.le_of_ble_eq_true rfl) (fun r E1 h => rfl) ?_
  intro vp ve vs vm va vb vt vc Q C hend
  refine z_lv [(0, .ref (ad 30)), (1, .ref (ad 31)), (2, .int (nI (0)))] ⟨rfl, rfl, rfl, rfl, rfl, rfl, trivial⟩ ?_
  refine z_iconst C (nI (0)) dL_strip_0 (by decide) ?_
  refine z_istore_n C [(0, .ref (ad 30)), (1, .ref (ad 31)), (2, .int (nI (0))), (3, .int (nI (0)))] dL_strip_1 (by decide) ⟨rfl, rfl, rfl, rfl, rfl, rfl, rfl, rfl, trivial⟩ ?_
  refine z_iconst C (nI (0)) dL_strip_2 (by decide) ?_
  refine z_istore C [(0, .ref (ad 30)), (1, .ref (ad 31)), (2, .int (nI (0))), (3, .int (nI (0))), (4, .int (nI (0)))] dL_strip_3 (by decide) ⟨rfl, rfl, rfl, rfl, rfl, rfl, rfl, rfl, rfl, rfl, trivial⟩ ?_
  refine z_iload C dL_strip_5 rfl ?_
  refine z_aload_n C dL_strip_7 rfl ?_
  refine z_iconst C (nI (0)) dL_strip_8 (by decide) ?_
  refine z_ialdG C (31) (by first | decide | omega) rfl e31 (by omega) (by decide) dL_strip_9 ?_
  refine z_icmp_geN C 114 (by omega) (by omega) dL_strip_10 (by decide) (fun h10 => (by exfalso; omega)) (fun h10 => ?_)
  refine z_iconst C (nI (0)) dL_strip_13 (by decide) ?_
  refine z_istore C [(0, .ref (ad 30)), (1, .ref (ad 31)), (2, .int (nI (0))), (3, .int (nI (0))), (4, .int (nI (0))), (5, .int (nI (0)))] dL_strip_14 (by decide) ⟨rfl, rfl, rfl, rfl, rfl, rfl, rfl, rfl, rfl, rfl, rfl, rfl, trivial⟩ ?_
  refine z_iload C dL_strip_16 rfl ?_
  refine z_aload_n C dL_strip_18 rfl ?_
  refine z_iconst C (nI (2)) dL_strip_19 (by decide) ?_
  refine z_iconst C (nI (5)) dL_strip_20 (by decide) ?_
  refine z_iload C dL_strip_21 rfl ?_
  refine z_imulN C  dL_strip_23 ?_
  refine z_iaddN C  dL_strip_24 ?_
  refine z_ialdG C (31) (by first | decide | omega) rfl e31 (by omega) (by decide) dL_strip_25 ?_
  refine z_top (nI (m 2)) (rfl) ?_
  refine z_icmp_geN C 100 (by omega) (by omega) dL_strip_26 (by decide) (fun h26 => (by exfalso; omega)) (fun h26 => ?_)
  refine z_aload_n C dL_strip_29 rfl ?_
  refine z_iconst C (nI (4)) dL_strip_30 (by decide) ?_
  refine z_iconst C (nI (5)) dL_strip_31 (by decide) ?_
  refine z_iload C dL_strip_32 rfl ?_
  refine z_imulN C  dL_strip_34 ?_
  refine z_iaddN C  dL_strip_35 ?_
  refine z_iload C dL_strip_36 rfl ?_
  refine z_iaddN C  dL_strip_38 ?_
  refine z_ialdG C (31) (by first | decide | omega) rfl e31 (by omega) (by decide) dL_strip_39 ?_
  refine z_top (nI (m 4)) (rfl) ?_
  refine z_istore C [(0, .ref (ad 30)), (1, .ref (ad 31)), (2, .int (nI (0))), (3, .int (nI (0))), (4, .int (nI (0))), (5, .int (nI (0))), (6, .int (nI (m 4)))] dL_strip_40 (by decide) ⟨rfl, rfl, rfl, rfl, rfl, rfl, rfl, rfl, rfl, rfl, rfl, rfl, rfl, rfl, trivial⟩ ?_
  refine z_iload_n C dL_strip_42 rfl ?_
  refine z_iload_n C dL_strip_43 rfl ?_
  refine z_icmp_ltN C 85 (by omega) (by omega) dL_strip_44 (by decide) (fun h44 => (by exfalso; omega)) (fun h44 => ?_)
  refine z_iload_n C dL_strip_47 rfl ?_
  refine z_iload_n C dL_strip_48 rfl ?_
  refine z_aload_n C dL_strip_49 rfl ?_
  refine z_iload C dL_strip_50 rfl ?_
  refine z_ialdG C (30) (by first | decide | omega) rfl e30 (by omega) (by decide) dL_strip_52 ?_
  refine z_iaddN C  dL_strip_53 ?_
  refine z_icmp_geN C 85 (by omega) (by omega) dL_strip_54 (by decide) (fun h54 => (by exfalso; omega)) (fun h54 => ?_)
  refine z_aload_n C dL_strip_57 rfl ?_
  refine z_bipush C (nI (9)) dL_strip_58 (by decide) ?_
  refine z_bipush C (nI (6)) dL_strip_60 (by decide) ?_
  refine z_iload C dL_strip_62 rfl ?_
  refine z_imulN C  dL_strip_64 ?_
  refine z_iaddN C  dL_strip_65 ?_
  refine z_iload_n C dL_strip_66 rfl ?_
  refine z_iaddN C  dL_strip_67 ?_
  refine z_iload_n C dL_strip_68 rfl ?_
  refine z_isubN C (by omega) dL_strip_69 ?_
  refine z_ialdG C (30) (by first | decide | omega) rfl e30 (by omega) (by decide) dL_strip_70 ?_
  refine z_top (nI (g (9 + 6 * m 4))) (rfl) ?_
  refine z_sipush C (nI (256)) dL_strip_71 (by decide) ?_
  refine z_aload_n C dL_strip_74 rfl ?_
  refine z_iconst C (nI (3)) dL_strip_75 (by decide) ?_
  refine z_iconst C (nI (5)) dL_strip_76 (by decide) ?_
  refine z_iload C dL_strip_77 rfl ?_
  refine z_imulN C  dL_strip_79 ?_
  refine z_iaddN C  dL_strip_80 ?_
  refine z_ialdG C (31) (by first | decide | omega) rfl e31 (by omega) (by decide) dL_strip_81 ?_
  refine z_top (nI (m 3)) (rfl) ?_
  refine z_imulN C  dL_strip_82 ?_
  refine z_iaddN C  dL_strip_83 ?_
  exact hend _ _ _ _ dL_strip_84 (⟨rfl, _, (by omega), rfl⟩)

set_option maxHeartbeats 4000000 in
set_option maxRecDepth 100000 in
theorem k_L_font (vl : Launch) (D : va_G) (cI cM : ClassId) (A : Nat → Prop) (ad : Nat → Nat) (E : Nat → va_E) (hX : XD A 32 ad)  (e30 : E (30) = aI cI 63 (fun _ => 0)) : MV vl yL_font wsL_font { frames := 0, cells := 0, slots := 0, locals := 0 } D cI cM A 32 ad E [.ref (ad 30)] (fun E1 => E1 30 = aI cI 63 gF ∧ ∀ k : Nat, (k ≠ 30) → E1 k = E k) := by
  refine mv_of cL_font 3 RL (by decide) rfl rfl (Nat.le_of_ble_eq_true rfl) ?_
  intro vp ve vs vm va vb vt vc Q C hend
  refine z_lv [(0, .ref (ad 30))] ⟨rfl, rfl, trivial⟩ ?_
  refine z_iconst C (nI (0)) dL_font_0 (by decide) ?_
  refine z_istore_n C [(0, .ref (ad 30)), (1, .int (nI (0)))] dL_font_1 (by decide) ⟨rfl, rfl, rfl, rfl, trivial⟩ ?_
  have loop2 : ∀ (fuel : Nat) (i : Nat) (E2 : Nat → va_E), (hi : i ≤ 8) → (q30 : E2 (30) = aI cI 63 (fgq i i 0)) → (qf : ∀ k : Nat, (k ≠ 30) → E2 k = E k) → 8 - i < fuel → Z vp vl ve { frames := 0, cells := 0, slots := 0, locals := 0 } vs vm va vb vt vc 3 D A 32 ad E2 [(0, .ref (ad 30)), (1, .int (nI (i)))] 0 0 Q 2 [] := by
    intro fuel
    induction fuel with
    | zero => intro i E2 hi q30 qf hlt; exact absurd hlt (Nat.not_lt_zero _)
    | succ fuel ih =>
      intro i E2 hi q30 qf hlt
      have ih2 := ih
      refine z_iload_n C dL_font_2 rfl ?_
      refine z_bipush C (nI (8)) dL_font_3 (by decide) ?_
      refine z_icmp_geN C 67 (by omega) (by omega) dL_font_5 (by decide) (fun h5 => ?_) (fun h5 => ?_)
      · have hie : i = 8 := by omega
        refine z_aload_n C dL_font_67 rfl ?_
        refine z_bipush C (nI (8)) dL_font_68 (by decide) ?_
        refine z_iconst C (nI (2)) dL_font_70 (by decide) ?_
        refine z_iastG C (30) hX (by first | decide | omega) rfl q30 (by omega) (by decide) dL_font_71 (fun Ez2 hE1 => ?_)
        have f4 : Ez2 (30) = aI cI 63 (va_up (fgq i i 0) (8) (2)) := va_up_eq hE1
        have g5 : ∀ k : Nat, (k ≠ 30) → Ez2 k = E k := fun k hk => va_up_of hE1 (by omega) (qf k hk)
        exact hend _ _ _ dL_font_72 (⟨f4.trans (by rw [hie]; rfl), g5⟩)
      · refine z_aload_n C dL_font_8 rfl ?_
        refine z_iload_n C dL_font_9 rfl ?_
        refine z_iconst C (nI (3)) dL_font_10 (by decide) ?_
        refine z_iload_n C dL_font_11 rfl ?_
        refine z_iconst C (nI (3)) dL_font_12 (by decide) ?_
        refine z_iremN C (by omega) (by omega) (by omega) dL_font_13 ?_
        refine z_iaddN C  dL_font_14 ?_
        refine z_iastG C (30) hX (by first | decide | omega) rfl q30 (by omega) (by decide) dL_font_15 (fun Ez7 hE6 => ?_)
        have f9 : Ez7 (30) = aI cI 63 (va_up (fgq i i 0) (i) (3 + (i % 3))) := va_up_eq hE6
        have g10 : ∀ k : Nat, (k ≠ 30) → Ez7 k = E k := fun k hk => va_up_of hE6 (by omega) (qf k hk)
        refine z_iconst C (nI (0)) dL_font_16 (by decide) ?_
        refine z_istore_n C [(0, .ref (ad 30)), (1, .int (nI (i))), (2, .int (nI (0)))] dL_font_17 (by decide) ⟨rfl, rfl, rfl, rfl, rfl, rfl, trivial⟩ ?_
        have loop18 : ∀ (fuel : Nat) (j : Nat) (E3 : Nat → va_E), (hj : j ≤ 3 + i % 3) → (r30 : E3 (30) = aI cI 63 (fgq (i + 1) i j)) → (rf : ∀ k : Nat, (k ≠ 30) → E3 k = E k) → 3 + i % 3 - j < fuel → Z vp vl ve { frames := 0, cells := 0, slots := 0, locals := 0 } vs vm va vb vt vc 3 D A 32 ad E3 [(0, .ref (ad 30)), (1, .int (nI (i))), (2, .int (nI (j)))] 0 0 Q 18 [] := by
          intro fuel
          induction fuel with
          | zero => intro j E3 hj r30 rf hlt; exact absurd hlt (Nat.not_lt_zero _)
          | succ fuel ih =>
            intro j E3 hj r30 rf hlt
            have ih18 := ih
            refine z_iload_n C dL_font_18 rfl ?_
            refine z_aload_n C dL_font_19 rfl ?_
            refine z_iload_n C dL_font_20 rfl ?_
            refine z_ialdG C (30) (by first | decide | omega) rfl r30 (by omega) (by decide) dL_font_21 ?_
            refine z_top (nI (3 + i % 3)) (by rw [fgq_g (by omega)]) ?_
            refine z_icmp_geN C 61 (by omega) (by omega) dL_font_22 (by decide) (fun h22 => ?_) (fun h22 => ?_)
            · have hje : j = 3 + i % 3 := by omega
              refine z_iincN (j := 1) C [(0, .ref (ad 30)), (1, .int (nI (i + 1))), (2, .int (nI (j)))] dL_font_61 rfl (by decide) ⟨rfl, rfl, rfl, rfl, rfl, rfl, trivial⟩ ?_
              refine z_goto C 2 dL_font_64 (by decide) ?_
              refine z_lv [(0, .ref (ad 30)), (1, .int (nI (i + 1)))] ⟨rfl, rfl, rfl, rfl, trivial⟩ ?_
              exact ih2 (i + 1) E3 (by omega) (r30.trans (by rw [hje, fgq_n])) rf (by omega)
            · have hb : 29 * (i + 1) * (j + 2) ≤ 29 * 8 * 8 := Nat.mul_le_mul (by omega) (by omega)
              refine z_aload_n C dL_font_25 rfl ?_
              refine z_bipush C (nI (9)) dL_font_26 (by decide) ?_
              refine z_bipush C (nI (6)) dL_font_28 (by decide) ?_
              refine z_iload_n C dL_font_30 rfl ?_
              refine z_imulN C  dL_font_31 ?_
              refine z_iaddN C  dL_font_32 ?_
              refine z_iload_n C dL_font_33 rfl ?_
              refine z_iaddN C  dL_font_34 ?_
              refine z_bipush C (nI (29)) dL_font_35 (by decide) ?_
              refine z_iload_n C dL_font_37 rfl ?_
              refine z_iconst C (nI (1)) dL_font_38 (by decide) ?_
              refine z_iaddN C  dL_font_39 ?_
              refine z_imulN C  dL_font_40 ?_
              refine z_iload_n C dL_font_41 rfl ?_
              refine z_iconst C (nI (2)) dL_font_42 (by decide) ?_
              refine z_iaddN C  dL_font_43 ?_
              refine z_imulN C  dL_font_44 ?_
              refine z_bipush C (nI (17)) dL_font_45 (by decide) ?_
              refine z_iload_n C dL_font_47 rfl ?_
              refine z_imulN C  dL_font_48 ?_
              refine z_iaddN C  dL_font_49 ?_
              refine z_sipush C (nI (256)) dL_font_50 (by decide) ?_
              refine z_iremN C (by omega) (by omega) (by omega) dL_font_53 ?_
              refine z_top (nI (gv i j)) (by rw [gv_c]) ?_
              refine z_iastG C (30) hX (by first | decide | omega) rfl r30 (by omega) (by decide) dL_font_54 (fun Ez12 hE11 => ?_)
              have f14 : Ez12 (30) = aI cI 63 (va_up (fgq (i + 1) i j) ((9 + (6 * i)) + j) (gv i j)) := va_up_eq hE11
              have g15 : ∀ k : Nat, (k ≠ 30) → Ez12 k = E k := fun k hk => va_up_of hE11 (by omega) (rf k hk)
              refine z_iincN (j := 1) C [(0, .ref (ad 30)), (1, .int (nI (i))), (2, .int (nI (j + 1)))] dL_font_55 rfl (by decide) ⟨rfl, rfl, rfl, rfl, rfl, rfl, trivial⟩ ?_
              refine z_goto C 18 dL_font_58 (by decide) ?_
              refine z_lv [(0, .ref (ad 30)), (1, .int (nI (i))), (2, .int (nI (j + 1)))] ⟨rfl, rfl, rfl, rfl, rfl, rfl, trivial⟩ ?_
              exact ih18 (j + 1) Ez12 (by omega) (f14.trans (by rw [fgq_s (i := i) (j := j) (by omega) rfl])) g15 (by omega)
        refine z_lv [(0, .ref (ad 30)), (1, .int (nI (i))), (2, .int (nI (0)))] ⟨rfl, rfl, rfl, rfl, rfl, rfl, trivial⟩ ?_
        exact loop18 (7) 0 Ez7 (Nat.zero_le _) (f9.trans (by rw [fgq_a (i := i) (by omega)])) g10 (by omega)
  refine z_lv [(0, .ref (ad 30)), (1, .int (nI (0)))] ⟨rfl, rfl, rfl, rfl, trivial⟩ ?_
  exact loop2 (9) 0 E (Nat.zero_le _) (e30.trans (by rw [fgq_0])) (fun _ _ => rfl) (by omega)

