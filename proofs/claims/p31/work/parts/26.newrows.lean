theorem XL_push {n : Nat} {ad : Nat → Nat} {E : Nat → va_E} {q : Nat} {x : va_E} : XL n ad E ++ [(q, x)] = XL (n + 1) (va_up ad n q) (va_up E n x) := by
  unfold XL
  rw [List.range_succ, List.map_append, List.map_singleton, va_up_self, va_up_self]
  congr 1
  apply List.map_congr_left
  intro k hk
  have := List.mem_range.mp hk
  rw [va_up_ne _ _ (by omega), va_up_ne _ _ (by omega)]
theorem XD_vd {A : Nat → Prop} {n : Nat} {ad : Nat → Nat} {E : Nat → va_E} (h : va_D A (XL n ad E)) : XD A n ad :=
  ⟨fun i j hi hj e => h.1 i j _ _ (XL_get hi) (XL_get hj) e, fun k hk => h.2 k _ (XL_get hk)⟩
theorem XL_P {n : Nat} {ad : Nat → Nat} {E : Nat → va_E} {D : va_G} {cl : List vw_C} {H : Heap} (h : ∀ k, k < n → va_at D cl (ad k, E k) H) : va_P D cl (XL n ad E) H := by
  intro k q hq
  obtain ⟨h1, rfl⟩ := XL_at hq
  exact h k h1
theorem XL_lt {n : Nat} {ad : Nat → Nat} {E : Nat → va_E} {D : va_G} {cl : List vw_C} {H : Heap} (hP : va_P D cl (XL n ad E) H) {k : Nat} (hk : k < n) : ad k < H.size := (hP k _ (XL_get hk)).lt
def PREC (D : va_G) (cI cM : ClassId) (A : Nat → Prop) (w : va_W) (As : List Value) : Array Value → State → Prop := va_Pc As (fun U => va_P D vwCl w U.heap ∧ va_K D vwCl [(cI, .int), (cM, .object RX1)] U ∧ NW U ∧ va_AO RX1 U ∧ ∀ q : Nat, U.heap.size ≤ q → A q)
theorem PREC_blind {D : va_G} {cI cM : ClassId} {A : Nat → Prop} {w : va_W} {As : List Value} : FrameBlind (PREC D cI cM A w As) := fun a U g mk q => ⟨q.1, q.2.1, va_K.moved (u := U) (U := U.calling g mk a) (Vm.Alike.refl U.vm) q.2.2.1, NW.same (u := U) (U := U.calling g mk a) rfl q.2.2.2.1, va_AO.moved (u := U) (U := U.calling g mk a) (Vm.Alike.refl U.vm) q.2.2.2.2.1, q.2.2.2.2.2⟩
def CI (l : Launch) (y : MethodName) (ws : List Cond) (rm : Room) (D : va_G) (cI cM : ClassId) (ci : Nat) (fs0 : List Value) (n1 mc ms : Nat) (post : (Nat → Nat) → (Nat → va_E) → Prop) : Prop := ∀ (A : Nat → Prop) (a : Nat), A a → Met l y ws rm (PREC D cI cM A [(a, .inr (ci, fs0))] [.ref a]) (va_Qv (fun u : (Nat → Nat) × (Nat → va_E) => u.1 0 = a ∧ XD A n1 u.1 ∧ post u.1 u.2) (fun u t => va_P D vwCl (XL n1 u.1 u.2) t.heap) A) mc ms A
section ZC1
variable {p : Program} {l : Launch} {e : Env} {R : Room} {s : State} {m : MethodId} {args : Array Value} {below : List Frame} {meth : Method} {c : Code}
variable {cc : ByteArray} {nL : Nat} {own : String} {Ts : List Cond} {D : va_G} {cI cM : ClassId} {A : Nat → Prop} {n : Nat} {ad : Nat → Nat} {E : Nat → va_E} {lv lv' : List (Nat × Value)} {cells slots : Nat} {Q : State → Prop} {pc : Nat} {st : List Value}
theorem z_new (C : ZC p s m args meth c cc nL own Ts D cI cM) {ci index N : Nat} {Cn : String} {T : u_T} (fs : List Value) (ty : Nat → FieldType) (hin : ∀ w ∈ u_ws Cn T N, w ∈ Ts) (hty : ∀ k, k < N → parseFieldDescriptor (T k).2.2.1 = some (ty k)) (hcl : Cond.classLink own index Cn ∈ Ts) (hinst : Cond.instantiable Cn N ∈ Ts) (hini : Cond.initialized Cn ∈ Ts) (hX : XD A n ad) (hA : ∀ q : Nat, s.heap.size ≤ q → A q) (hc : vwCl[ci]? = some (Cn, T, N)) (hfs : ∀ j, j < N → defaultValue (ty j) = vp_V fs j) (hcells : cells + 1 ≤ R.cells) (hslots : slots + N ≤ R.slots) (hd : decode cc pc = .ok (.new index, 3)) (k : ∀ (q : Nat) (ad1 : Nat → Nat) (E1 : Nat → va_E), ad1 = va_up ad n q → E1 = va_up E n (.inr (ci, fs)) → XD A (n + 1) ad1 → Z p l e R s m args below meth c nL D A (n + 1) ad1 E1 lv (cells + 1) (slots + N) Q (pc + 3) (.ref q :: st)) : Z p l e R s m args below meth c nL D A n ad E lv cells slots Q (pc) (st) := fun H locs ls hP hS hl =>
  va_new (T := T) (N := N) C.1 C.2.1 C.2.2.2.2.1 hin ty hty C.2.2.2.1 (C.2.2.2.2.1 _ hcl) (C.2.2.2.2.1 _ hinst) (C.2.2.2.2.1 _ hini) C.2.2.2.2.2.1 hP (hX.vd E) hS hA hc hfs hcells hslots hd (fun q H1 hP1 hD1 hS1 => by rw [XL_push] at hP1 hD1; exact k q _ _ rfl rfl (XD_vd hD1) H1 locs ls hP1 hS1 hl)
theorem z_newa (C : ZC p s m args meth c cc nL own Ts D cI cM) {N : Nat} (harr : Cond.arrayClass .int ∈ Ts) (hX : XD A n ad) (hA : ∀ q : Nat, s.heap.size ≤ q → A q) (hN : N < 2 ^ 31) (hb4 : N * 4 ≤ 536870912) (hcells : cells + 1 ≤ R.cells) (hslots : slots + N ≤ R.slots) (hd : decode cc pc = .ok (.newarray .int, 2)) (k : ∀ (q : Nat) (ad1 : Nat → Nat) (E1 : Nat → va_E), ad1 = va_up ad n q → E1 = va_up E n (aI cI N (fun _ => 0)) → XD A (n + 1) ad1 → Z p l e R s m args below meth c nL D A (n + 1) ad1 E1 lv (cells + 1) (slots + N) Q (pc + 2) (.ref q :: st)) : Z p l e R s m args below meth c nL D A n ad E lv cells slots Q (pc) (.int (nI N) :: st) := fun H locs ls hP hS hl =>
  va_newa (atype := .int) (ty := .int) (N' := N) (a0 := (N, .inl (fun _ => nI 0))) C.1 C.2.1 (C.2.2.2.2.1 _ harr) rfl C.2.2.2.2.2.1 hP (hX.vd E) hS hA (fun cA => rfl) (Int32.not_lt.mpr (nI_pos' hN)) (nI_clamp hN) hb4 hcells hslots hd (fun q cA H1 hK1 hP1 hD1 hS1 => by
    have h1 : s.vm.findClass ("[" ++ FieldType.int.toString) = some cA := (hK1.2 2 _ rfl).2
    have h2 : s.vm.findClass ("[" ++ FieldType.int.toString) = some cI := (C.2.2.2.2.2.1.2 0 _ rfl).2
    have h3 : cA = cI := Option.some.inj (h1.symm.trans h2)
    subst h3
    rw [XL_push] at hP1 hD1
    exact k q _ _ rfl rfl (XD_vd hD1) H1 locs ls hP1 hS1 hl)
theorem z_newq (C : ZC p s m args meth c cc nL own Ts D cI cM) {N index : Nat} (hcl : Cond.classLink own index RX1 ∈ Ts) (hao : va_AO RX1 s) (hX : XD A n ad) (hA : ∀ q : Nat, s.heap.size ≤ q → A q) (hN : N < 2 ^ 31) (hb4 : N * 4 ≤ 536870912) (hcells : cells + 1 ≤ R.cells) (hslots : slots + N ≤ R.slots) (hd : decode cc pc = .ok (.anewarray index, 3)) (k : ∀ (q : Nat) (ad1 : Nat → Nat) (E1 : Nat → va_E), ad1 = va_up ad n q → E1 = va_up E n (.inl (cM, N, .inr (.inr (.inr (.inr (fun _ => none)))))) → XD A (n + 1) ad1 → Z p l e R s m args below meth c nL D A (n + 1) ad1 E1 lv (cells + 1) (slots + N) Q (pc + 3) (.ref q :: st)) : Z p l e R s m args below meth c nL D A n ad E lv cells slots Q (pc) (.int (nI N) :: st) := fun H locs ls hP hS hl =>
  va_newq (C := RX1) (N' := N) C.1 C.2.1 C.2.2.2.1 (C.2.2.2.2.1 _ hcl) hao C.2.2.2.2.2.1 hP (hX.vd E) hS hA (Int32.not_lt.mpr (nI_pos' hN)) (nI_clamp hN) hb4 hcells hslots hd (fun q cA H1 hK1 hP1 hD1 hS1 => by
    obtain ⟨_, _, _, _, _, h1⟩ := (hK1.2 2 _ rfl).2
    obtain ⟨_, _, _, _, _, h2⟩ := (C.2.2.2.2.2.1.2 1 _ rfl).2
    have h3 : cA = cM := Option.some.inj (h1.symm.trans h2)
    subst h3
    rw [XL_push] at hP1 hD1
    exact k q _ _ rfl rfl (XD_vd hD1) H1 locs ls hP1 hS1 hl)
theorem z_objInit (C : ZC p s m args meth c cc nL own Ts D cI cM) {index a : Nat} (h1 : Cond.methodLink own index objectInit ∈ Ts) (h2 : Cond.instanceMethod objectInit ∈ Ts) (h3 : Cond.code objectInit ⟨#[0xb1]⟩ 1 none ∈ Ts) (hf : 1 ≤ R.frames) (hlo : 12 ≤ R.locals) (hd : decode cc pc = .ok (.invokespecial index, 3)) (k : Z p l e R s m args below meth c nL D A n ad E lv cells slots Q (pc + 3) []) : Z p l e R s m args below meth c nL D A n ad E lv cells slots Q (pc) [.ref a] := fun H locs ls hP hS hl =>
  W.objInit C.1 C.2.1 C.2.2.2.1 (C.2.2.2.2.1 _ h1) (C.2.2.2.2.1 _ h2) (C.2.2.2.2.1 _ h3) rfl (by rw [C.2.2.1]; exact hl.1) rfl hd hf hlo (W.eq (g2 := F0 m (pc + 3) ls []) rfl (k H locs ls hP hS hl))
theorem z_back {H H1 : Heap} {n1 : Nat} {a : Nat} {u1 : Nat → Nat} {u2 : Nat → va_E} (hX : XD A (n + 1) ad) (ha : ad n = a) (hP : va_P D vwCl (XL (n + 1) ad E) H) (hA : ∀ q : Nat, H.size ≤ q → A q) (h0 : u1 0 = a) (hX1 : XD (fun q => q = a ∨ H.size ≤ q) n1 u1) (hP1 : va_P D vwCl (XL n1 u1 u2) H1) (hk : ∀ q : Nat, q < H.size → ¬ (q = a ∨ H.size ≤ q) → H1[q]? = H[q]?) : ∃ (ad1 : Nat → Nat) (E1 : Nat → va_E), (∀ j, j < n → ad1 j = ad j) ∧ (∀ j, j < n → E1 j = E j) ∧ ad1 n = a ∧ XD A (n + n1) ad1 ∧ u1 = (fun j => ad1 (n + j)) ∧ u2 = (fun j => E1 (n + j)) ∧ va_P D vwCl (XL (n + n1) ad1 E1) H1 := by
  have hl : ∀ k, k < n + 1 → ad k < H.size := fun k hk => XL_lt hP hk
  have hna : ∀ k, k < n → ¬ (ad k = a ∨ H.size ≤ ad k) := fun k hk q => by
    rcases q with q | q
    · have := hX.1 k n (by omega) (by omega) (q.trans ha.symm); omega
    · have := hl k (by omega); omega
  obtain ⟨f1, e1, g1⟩ : ∃ f : Nat → Nat, (∀ j, j < n → f j = ad j) ∧ ∀ j, ¬ j < n → f j = u1 (j - n) := ⟨fun j => if j < n then ad j else u1 (j - n), fun j hj => if_pos hj, fun j hj => if_neg hj⟩
  obtain ⟨f2, e2, g2⟩ : ∃ f : Nat → va_E, (∀ j, j < n → f j = E j) ∧ ∀ j, ¬ j < n → f j = u2 (j - n) := ⟨fun j => if j < n then E j else u2 (j - n), fun j hj => if_pos hj, fun j hj => if_neg hj⟩
  refine ⟨f1, f2, e1, e2, by rw [g1 n (by omega), Nat.sub_self]; exact h0, ⟨fun i j hi hj hij => ?_, fun k hk2 => ?_⟩, ?_, ?_, XL_P (fun k hk2 => ?_)⟩
  · by_cases hi2 : i < n
    · rw [e1 i hi2] at hij
      by_cases hj2 : j < n
      · rw [e1 j hj2] at hij
        exact hX.1 i j (by omega) (by omega) hij
      · rw [g1 j hj2] at hij
        exact absurd (hX1.2 (j - n) (by omega)) (by rw [← hij]; exact hna i hi2)
    · rw [g1 i hi2] at hij
      by_cases hj2 : j < n
      · rw [e1 j hj2] at hij
        exact absurd (hX1.2 (i - n) (by omega)) (by rw [hij]; exact hna j hj2)
      · rw [g1 j hj2] at hij
        have := hX1.1 (i - n) (j - n) (by omega) (by omega) hij
        omega
  · by_cases hk3 : k < n
    · rw [e1 k hk3]; exact hX.2 k (by omega)
    · rw [g1 k hk3]
      rcases hX1.2 (k - n) (by omega) with q | q
      · rw [q, ← ha]; exact hX.2 n (by omega)
      · exact hA _ q
  · funext j
    rw [g1 (n + j) (by omega), Nat.add_sub_cancel_left]
  · funext j
    rw [g2 (n + j) (by omega), Nat.add_sub_cancel_left]
  · by_cases hk3 : k < n
    · rw [e1 k hk3, e2 k hk3]
      exact (hP k _ (XL_get (by omega))).kept (hk _ (hl k (by omega)) (hna k hk3))
    · rw [g1 k hk3, g2 k hk3]
      exact hP1 (k - n) _ (XL_get (by omega))
theorem z_callI (C : ZC p s m args meth c cc nL own Ts D cI cM) {y : MethodName} {bytes : ByteArray} {maxL : Nat} {ws : List Cond} {rm : Room} {index ci n1 mc ms a : Nat} {fs0 : List Value} {post : (Nat → Nat) → (Nat → va_E) → Prop} (hao : va_AO RX1 s) (hA : ∀ q : Nat, s.heap.size ≤ q → A q) (hM : CI l y ws rm D cI cM ci fs0 n1 mc ms post) (cw : CallB R s args own index y bytes maxL none ws rm mc ms 0 ∧ y.name = "<init>" ∧ (Cond.instanceMethod y).before args s = true) (hX : XD A (n + 1) ad) (ha : ad n = a) (he : E n = .inr (ci, fs0)) (hcat : (st.map fun v => v.category).sum ≤ 8) (hrm : cells + mc ≤ R.cells ∧ slots + ms ≤ R.slots) (hd : decode cc pc = .ok (.invokespecial index, 3)) (k : ∀ (ad1 : Nat → Nat) (E1 : Nat → va_E), (∀ j, j < n → ad1 j = ad j) → (∀ j, j < n → E1 j = E j) → ad1 n = a → XD A (n + n1) ad1 → post (fun j => ad1 (n + j)) (fun j => E1 (n + j)) → Z p l e R s m args below meth c nL D A (n + n1) ad1 E1 lv (cells + mc) (slots + ms) Q (pc + 3) (st)) : Z p l e R s m args below meth c nL D A (n + 1) ad E lv cells slots Q (pc) (.ref a :: st) := fun H locs ls hP hS hl =>
  va_callv (va_runI (g := F0 m pc ls (.ref a :: st)) (As := []) (rest := st) ⟨C.1, C.2.1, C.2.2.1, C.2.2.2.1, C.2.2.2.2.1⟩ (hM (fun q => q = a ∨ H.size ≤ q) a (Or.inl rfl)) cw ⟨PREC_blind, fun U hU hW => ⟨rfl, by rw [hU]; exact XL_one hP (Nat.lt_succ_self n) ha he, va_K.moved hW.alike C.2.2.2.2.2.1, NW.warm hW C.2.2.2.2.2.2.1, va_AO.moved hW.alike hao, fun q hq => Or.inr (by rw [← hU]; exact hq)⟩⟩ rfl rfl hl.1 rfl (lv_room hcat) hd hrm) hS (fun q h1 h2 => by
      rcases h2 with h2 | h2
      · rw [h2, ← ha]; exact hX.2 n (Nat.lt_succ_self n)
      · omega) (fun q h2 => by
      rcases h2 with h2 | h2
      · rw [h2, ← ha]; exact hX.2 n (Nat.lt_succ_self n)
      · exact hA q (Nat.le_trans hS.1 h2)) (fun u t H1 locs1 ht hvm hw hB hz hk1 hS1 => by
      obtain ⟨ad1, E1, f1, f2, f3, f4, f5, f6, f7⟩ := z_back (n1 := n1) (H1 := H1) (u1 := u.1) (u2 := u.2) hX ha hP (fun q hq => hA q (Nat.le_trans hS.1 hq)) hw.1 hw.2.1 (by rw [← ht]; exact hB) hk1
      exact k ad1 E1 f1 f2 f3 f4 (by rw [← f5, ← f6]; exact hw.2.2) H1 locs1 ls f7 hS1 hl)
theorem z_callIN (C : ZC p s m args meth c cc nL own Ts D cI cM) {y : MethodName} {bytes : ByteArray} {maxL : Nat} {ws : List Cond} {rm : Room} {index ci n1 mc ms a : Nat} {fs0 : List Value} {post : (Nat → Nat) → (Nat → va_E) → Prop} {host : String} (hao : va_AO RX1 s) (hA : ∀ q : Nat, s.heap.size ≤ q → A q) (hM : CI l y ws rm D cI cM ci fs0 n1 mc ms post) (cw : va_CN R s args own index y host bytes maxL none ws rm mc ms 0 ∧ y.name = "<init>" ∧ (Cond.instanceMethod y).before args s = true) (hX : XD A (n + 1) ad) (ha : ad n = a) (he : E n = .inr (ci, fs0)) (hcat : (st.map fun v => v.category).sum ≤ 8) (hrm : cells + mc ≤ R.cells ∧ slots + ms ≤ R.slots) (hd : decode cc pc = .ok (.invokespecial index, 3)) (k : ∀ (ad1 : Nat → Nat) (E1 : Nat → va_E), (∀ j, j < n → ad1 j = ad j) → (∀ j, j < n → E1 j = E j) → ad1 n = a → XD A (n + n1) ad1 → post (fun j => ad1 (n + j)) (fun j => E1 (n + j)) → Z p l e R s m args below meth c nL D A (n + n1) ad1 E1 lv (cells + mc) (slots + ms) Q (pc + 3) (st)) : Z p l e R s m args below meth c nL D A (n + 1) ad E lv cells slots Q (pc) (.ref a :: st) := fun H locs ls hP hS hl =>
  va_callv (va_runIN (g := F0 m pc ls (.ref a :: st)) (As := []) (rest := st) ⟨C.1, C.2.1, C.2.2.1, C.2.2.2.1, C.2.2.2.2.1⟩ (hM (fun q => q = a ∨ H.size ≤ q) a (Or.inl rfl)) cw ⟨PREC_blind, fun U hU hW => ⟨rfl, by rw [hU]; exact XL_one hP (Nat.lt_succ_self n) ha he, va_K.moved hW.alike C.2.2.2.2.2.1, NW.warm hW C.2.2.2.2.2.2.1, va_AO.moved hW.alike hao, fun q hq => Or.inr (by rw [← hU]; exact hq)⟩⟩ rfl rfl hl.1 rfl (lv_room hcat) hd hrm) hS (fun q h1 h2 => by
      rcases h2 with h2 | h2
      · rw [h2, ← ha]; exact hX.2 n (Nat.lt_succ_self n)
      · omega) (fun q h2 => by
      rcases h2 with h2 | h2
      · rw [h2, ← ha]; exact hX.2 n (Nat.lt_succ_self n)
      · exact hA q (Nat.le_trans hS.1 h2)) (fun u t H1 locs1 ht hvm hw hB hz hk1 hS1 => by
      obtain ⟨ad1, E1, f1, f2, f3, f4, f5, f6, f7⟩ := z_back (n1 := n1) (H1 := H1) (u1 := u.1) (u2 := u.2) hX ha hP (fun q hq => hA q (Nat.le_trans hS.1 hq)) hw.1 hw.2.1 (by rw [← ht]; exact hB) hk1
      exact k ad1 E1 f1 f2 f3 f4 (by rw [← f5, ← f6]; exact hw.2.2) H1 locs1 ls f7 hS1 hl)
end ZC1
theorem mc_of {l : Launch} {y : MethodName} {ws ws' : List Cond} {rm : Room} {D : va_G} {cI cM : ClassId} {ci n1 mc ms : Nat} {fs0 : List Value} {post : (Nat → Nat) → (Nat → va_E) → Prop} (cc : ByteArray) (nL : Nat) (own : String) (hy : plainFor y = true) (hown : y.cls = own) (hyn : y.name = "<init>") (hw : ws = Cond.code y cc nL none :: ws') (hln : 1 ≤ nL)
    (body : ∀ (A : Nat → Prop) (p : Program) (e : Env) (s : State) (m : MethodId) (args : Array Value) (below : List Frame) (meth : Method) (c : Code) (Q : State → Prop) (a0 : Nat) (ad0 : Nat → Nat) (E0 : Nat → va_E), ZC p s m args meth c cc nL own ws D cI cM → va_AO RX1 s → (∀ q : Nat, s.heap.size ≤ q → A q) → meth.name = "<init>" → XD A 1 ad0 → ad0 0 = a0 → E0 0 = .inr (ci, fs0) → (∀ (pc : Nat) (lv : List (Nat × Value)) (ad1 : Nat → Nat) (E1 : Nat → va_E), decode cc pc = .ok (.return_, 1) → ad1 0 = a0 → XD A n1 ad1 → post ad1 E1 → Z p l e rm s m args below meth c nL D A n1 ad1 E1 lv mc ms Q pc []) → Z p l e rm s m args below meth c nL D A 1 ad0 E0 [(0, .ref a0)] 0 0 Q 0 []) : CI l y ws rm D cI cM ci fs0 n1 mc ms post := by
  intro A a0 hAa
  refine met_ofF (cc := cc) (maxL := nL) (ret := none) hy hw ?_
  intro p e s m args below meth c s₁ B hml hv
  obtain ⟨rfl, hP, hK, hN, hao, hA⟩ := hv
  have hx := B.exec
  have hb := B.bytes
  have hr := B.returns
  have hts := atoms_spec (ws := ws) B.pre
  have hown2 : s.vm.findClass own = some m.cls := by rw [← hown]; exact findClass_of_methodNamed B.named
  have hlocks := B.notSynchronized
  have hin : meth.name = "<init>" := (name_of_methodNamed B.named B.method).1.trans hyn
  have hl := lv_entry [Value.ref a0] (n := nL) hln
  rw [lg_entry_eq]
  exact body A p e s m _ below meth c _ a0 (fun _ => a0) (fun _ => .inr (ci, fs0)) ⟨hx, hb, hml, hown2, hts, hK, hN, hlocks⟩ hao hA hin ⟨fun i j hi hj _ => by omega, fun k _ => hAa⟩ rfl rfl (fun pc lv ad1 E1 hd h0 hX1 hp H locs ls hP1 hS1 hl1 => W.vret hx hb hr (fun t ht hW => ⟨⟨(ad1, E1), rfl, ⟨h0, hX1, hp⟩, by show va_P D vwCl (XL n1 ad1 E1) t.heap; rw [ht]; exact hP1⟩, hS1.F ht⟩) hS1.2.2 hd hlocks) s.heap [] _ hP va_S.rf hl
