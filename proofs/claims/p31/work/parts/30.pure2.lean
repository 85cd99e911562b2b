theorem sm_z {f : Nat → Nat} : ∀ {n : Nat}, (∀ k, k < n → f k = 0) → sm f n = 0
  | 0, _ => rfl
  | n + 1, h => by rw [sm, sm_z (fun k hk => h k (by omega)), h n (by omega)]
theorem sm_ge {f : Nat → Nat} {x : Nat} : ∀ {n : Nat}, x < n → f x ≤ sm f n
  | 0, h => absurd h (Nat.not_lt_zero _)
  | n + 1, h => by
    rw [sm]
    by_cases e : x = n
    · subst e; omega
    · have := sm_ge (f := f) (x := x) (n := n) (by omega)
      omega
theorem sm_one {f g : Nat → Nat} {x e : Nat} (hx : f x = g x + e) (ho : ∀ k, k ≠ x → f k = g k) : ∀ n, x < n → sm f n = sm g n + e
  | 0, h => absurd h (Nat.not_lt_zero _)
  | n + 1, h => by
    rw [sm, sm]
    by_cases e1 : x = n
    · subst e1
      rw [sm_cg (fun k hk => ho k (by omega)), hx]
      omega
    · rw [sm_one hx ho n (by omega), ho n (by omega)]
      omega
/-! a defective place -/
theorem bt_a : ∀ r, r < 8 → ∀ v, v < 256 → pc8 (v &&& (255 - 0)) = pc8 (v &&& (255 - 2 ^ r)) + b1 (v &&& (255 - 0)) r := by decide +kernel
theorem bt_b : ∀ r, r < 8 → ∀ v, v < 256 → b1 (v &&& (255 - 2 ^ r)) r = 0 := by decide +kernel
theorem bt_c : ∀ r, r < 8 → pc8 (2 ^ r) = 1 ∧ b1 (2 ^ r) r = 1 := by decide +kernel
theorem bt_d : ∀ r, r < 8 → ∀ d, d < 256 → b1 (lit d 2 0) r = 1 → 1 ≤ pc8 d - pc8 (lit d 2 (2 ^ r)) := by decide +kernel
def DZ (M : St) : Prop := ∀ x, x < 32 → M 3 x = 0
theorem fl_at {M : St} {r c : Nat} (hz : M 3 c = 0) : flipD M r c 3 c = 2 ^ r := by
  show va_up (M 3) c (M 3 c ^^^ 2 ^ r) c = 2 ^ r
  rw [va_up_self, hz, Nat.zero_xor]
theorem fl_ne {M : St} {r c k : Nat} (h : k ≠ c) : flipD M r c 3 k = M 3 k := by
  show va_up (M 3) c (M 3 c ^^^ 2 ^ r) k = M 3 k
  exact va_up_ne _ _ h
theorem fl_cnt {M : St} (hz : DZ M) {r c : Nat} (hr : r ≤ 7) (hc : c < 32) : cntD (flipD M r c) = 1 := by
  have h0 : sm (fun x => pc8 (M 3 x)) 32 = 0 := sm_z (fun k hk => by show pc8 (M 3 k) = 0; rw [hz k hk]; decide)
  have h1 : sm (fun x => pc8 (flipD M r c 3 x)) 32 = sm (fun x => pc8 (M 3 x)) 32 + 1 := sm_one (x := c) (by show pc8 (flipD M r c 3 c) = pc8 (M 3 c) + 1; rw [fl_at (hz c hc), hz c hc, (bt_c r (by omega)).1]; decide) (fun k hk => by show pc8 (flipD M r c 3 k) = pc8 (M 3 k); rw [fl_ne hk]) 32 hc
  show sm (fun x => pc8 (flipD M r c 3 x)) 32 = 1
  rw [h1, h0]
theorem cnt_z {M : St} (hz : DZ M) : cntD M = 0 := sm_z (fun k hk => by show pc8 (M 3 k) = 0; rw [hz k hk]; decide)
theorem sd_1 {M : St} (h : Inv M) (hz : DZ M) {r c : Nat} (hr : r ≤ 7) (hc : c < M 0 0) : o_setDefective M (nI r) (nI c) 1 = (nI 1, flipD M r c) := by
  have hb := bnd h
  refine (wr_y ⟨Nat.zero_le _, hr⟩ (by decide)).trans ((wn_y hc (by omega)).trans ?_)
  rw [if_neg (by rw [hz c (by omega), b1_0]; decide), fl_cnt hz hr (by omega)]
theorem fl_px {M : St} (h : Inv M) (hz : DZ M) {r c : Nat} (hr : r ≤ 7) (hc : c < M 0 0) : pxM (flipD M r c) r c = 0 := by
  have hb := bnd h
  have e : pxM (flipD M r c) r c = if b1 (lit (dotc (stripM M) (M 0 4 + c)) (M 0 8) (flipD M r c 3 c)) r = 1 then colc (stripM M) (M 0 4 + c) else 0 := rfl
  rw [e, fl_at (hz c (by omega)), if_neg]
  have := bt_b r (by omega) (sft (dotc (stripM M) (M 0 4 + c)) (M 0 8)) (sft_lt (h.1.dot _))
  unfold lit
  omega
theorem fl_ld {M : St} (h : Inv M) (hz : DZ M) {r c : Nat} (hr : r ≤ 7) (hc : c < M 0 0) : ldM M (M 0 4) = ldM (flipD M r c) (M 0 4) + pw (pxM M r c) := by
  have hb := bnd h
  have e1 : ldM (flipD M r c) (M 0 4) = sm (colS (stripM M) (M 0 8) (flipD M r c 3) (M 0 4)) (M 0 0) := rfl
  have e2 : ldM M (M 0 4) = sm (colS (stripM M) (M 0 8) (M 3) (M 0 4)) (M 0 0) := rfl
  rw [e1, e2]
  refine sm_one (x := c) ?_ (fun k hk => ?_) _ hc
  · rw [px_w h]
    unfold colS
    rw [fl_at (hz c (by omega)), hz c (by omega)]
    have := bt_a r (by omega) (sft (dotc (stripM M) (M 0 4 + c)) (M 0 8)) (sft_lt (h.1.dot _))
    unfold lit
    rw [this, Nat.mul_add]
  · unfold colS
    rw [fl_ne hk]
theorem fl_dm {M : St} (h : Inv M) (hz : DZ M) (h8 : M 0 8 = 2) {r c : Nat} (hr : r ≤ 7) (hc : c < M 0 0) (hp : 0 < pxM M r c) : 1 ≤ dmM (flipD M r c) 2 := by
  have hb := bnd h
  have e1 : dmM (flipD M r c) 2 = sm (dmS (stripM M) 2 (flipD M r c 3) (M 0 4)) (M 0 0) := rfl
  rw [e1]
  refine Nat.le_trans ?_ (sm_ge (x := c) hc)
  unfold dmS
  rw [fl_at (hz c (by omega))]
  refine bt_d r (by omega) _ (h.1.dot _) ?_
  unfold pxM at hp
  rw [h8, hz c (by omega)] at hp
  by_cases e : b1 (lit (dotc (stripM M) (M 0 4 + c)) 2 0) r = 1
  · exact e
  · rw [if_neg e] at hp
    exact absurd hp (Nat.lt_irrefl _)
theorem fl_fl (M : St) (r c b : Nat) : flipD (s0 (flipD M r c) 8 b) r c = s0 M 8 b := by
  funext a k
  by_cases e : a = 3
  · subst e
    show va_up (va_up (M 3) c (M 3 c ^^^ 2 ^ r)) c (va_up (M 3) c (M 3 c ^^^ 2 ^ r) c ^^^ 2 ^ r) k = M 3 k
    rw [va_up_self, Nat.xor_assoc, Nat.xor_self, Nat.xor_zero]
    by_cases e2 : k = c
    · subst e2; exact va_up_self _ _ _
    · rw [va_up_ne _ _ e2, va_up_ne _ _ e2]
  · show va_up (s0 (flipD M r c) 8 b) 3 _ a k = s0 M 8 b a k
    rw [va_up_ne _ _ e]
    by_cases e0 : a = 0
    · subst e0; rfl
    · show va_up (flipD M r c) 0 _ a k = va_up M 0 _ a k
      rw [va_up_ne _ _ e0, va_up_ne _ _ e0]
      show va_up M 3 _ a k = M a k
      rw [va_up_ne _ _ e]
theorem sd_0 {M : St} (h : Inv M) (hz : DZ M) {r c b : Nat} (hr : r ≤ 7) (hc : c < M 0 0) : o_setDefective (s0 (flipD M r c) 8 b) (nI r) (nI c) 0 = (nI 0, s0 M 8 b) := by
  have hb := bnd h
  have e0 : s0 (flipD M r c) 8 b 3 c = 2 ^ r := fl_at (hz c (by omega))
  have hz2 : DZ (s0 M 8 b) := hz
  have e1 : s0 (flipD M r c) 8 b 0 0 = M 0 0 := rfl
  refine (wr_y ⟨Nat.zero_le _, hr⟩ (by decide)).trans ((wn_y (n := s0 (flipD M r c) 8 b 0 0) (by rw [e1]; exact hc) (by rw [e1]; omega)).trans ?_)
  rw [e0, (bt_c r (by omega)).2, if_neg (by decide), fl_fl, cnt_z hz2]
theorem sh_0 {M : St} (h8 : M 0 8 = 2) (b : Nat) : o_setShift (s0 M 8 b) (nI 0) = (shI b, M) := by
  have e : (nI 0 : Int32) = shI 2 := by decide
  rw [e]
  refine (ws_y (by decide)).trans ?_
  have h := s0_id M 8
  rw [h8] at h
  rw [s0_s0, h]
  rfl
theorem dm_op {M : St} {t : Nat} (ht : t ≤ 4) : o_damage M (shI t) = nI (dmM M t) := ws_y ht
theorem bet_min (f : Nat → Nat) (b c : Nat) : f (bet f b c) ≤ f b ∧ f (bet f b c) ≤ f c := by
  unfold bet
  split <;> exact ⟨by omega, by omega⟩
theorem best_min (f : Nat → Nat) {t : Nat} (ht : t ≤ 4) : f (bestT f) ≤ f t := by
  have a1 := bet_min f 2 1
  have a2 := bet_min f (bet f 2 1) 3
  have a3 := bet_min f (bet f (bet f 2 1) 3) 0
  have a4 := bet_min f (bet f (bet f (bet f 2 1) 3) 0) 4
  unfold bestT
  rcases (show t = 0 ∨ t = 1 ∨ t = 2 ∨ t = 3 ∨ t = 4 by omega) with rfl | rfl | rfl | rfl | rfl <;> omega
theorem dm_sh (M : St) (b t : Nat) : dmM (s0 M 8 b) t = dmM M t := rfl
theorem dm_le {M : St} (h : Inv M) (t : Nat) : dmM M t ≤ 256 := dmM_le M (bnd h).1 t
theorem shI_3 : ∀ t, t < 6 → (nI 3 ≤ shI t ↔ t = 5) := by decide +kernel
theorem shI_s : ∀ t, t < 5 → shI t + Int32.ofInt 1 = shI (t + 1) := by decide +kernel
theorem shI_m2 : ∀ t, t < 5 → ¬ shI t < -2 := by decide +kernel
/-! what the ticks leave -/
def KS (M1 M : St) : Prop := ∀ a k, ¬ (a = 0 ∧ (k = 4 ∨ k = 5)) → M a k = M1 a k
theorem KS.rfl' (M : St) : KS M M := fun _ _ _ => rfl
theorem KS.row {M1 M : St} (h : KS M1 M) {a : Nat} (ha : ¬ a = 0) : M a = M1 a := funext (fun k => h a k (fun q => ha q.1))
theorem KS.n {M1 M : St} (h : KS M1 M) {k : Nat} (h4 : ¬ k = 4) (h5 : ¬ k = 5) : M 0 k = M1 0 k := h 0 k (fun q => by rcases q.2 with e | e <;> omega)
theorem KS.trans {M1 M2 M3 : St} (h : KS M1 M2) (h2 : KS M2 M3) : KS M1 M3 := fun a k q => (h2 a k q).trans (h a k q)
theorem KS.sL {M1 M : St} (h : KS M1 M) (j : Nat) : stM M j = stM M1 j := by
  unfold stM
  rw [h.row (a := 1) (by decide), h.n (k := 1) (by decide) (by decide), h.row (a := 5) (by decide), h.row (a := 7) (by decide)]
theorem KS.mW {M1 M : St} (h : KS M1 M) (j : Nat) : wiM M j = wiM M1 j := by
  unfold wiM
  rw [h.row (a := 1) (by decide), h.row (a := 5) (by decide), h.row (a := 7) (by decide)]
theorem KS.LM {M1 M : St} (h : KS M1 M) : LM M = LM M1 := by
  have e := h.sL (M 0 7)
  have e7 := h.n (k := 7) (by decide) (by decide)
  show stM M (M 0 7) = stM M1 (M1 0 7)
  rw [e, e7]
theorem KS.tick {M1 M : St} (h : KS M1 M) (k : Nat) : KS M1 (tickM M k) := fun a b q => by
  refine Eq.trans ?_ (h a b q)
  unfold tickM
  rw [s0_at _ (fun e => q ⟨e.1, Or.inl e.2⟩), s0_at _ (fun e => q ⟨e.1, Or.inr e.2⟩)]
/-- the state of the law's five rounds -/
def LB (S B : Nat) (M : St) : Prop := M 0 0 = 16 ∧ M 0 1 = 4 ∧ M 0 2 = S ∧ M 0 3 = B ∧ 1 ≤ M 0 6 ∧ M 0 7 = 2 ∧ M 0 8 = 2 ∧ DZ M
theorem LB.ls {S B : Nat} {M1 M : St} (h : LB S B M1) (q : KS M1 M) : LB S B M := by
  obtain ⟨a, b, c, d, e, f, g, z⟩ := h
  exact ⟨(q.n (by decide) (by decide)).trans a, (q.n (by decide) (by decide)).trans b, (q.n (by decide) (by decide)).trans c, (q.n (by decide) (by decide)).trans d, by rw [q.n (by decide) (by decide)]; exact e, (q.n (by decide) (by decide)).trans f, (q.n (by decide) (by decide)).trans g, fun x hx => by rw [q.row (by decide)]; exact z x hx⟩
/-! a message put in and removed -/
theorem sL_ins {wd : Nat → Nat} {G v : Nat} {sz f g : Nat → Nat} : ∀ k, (∀ i, i < k → sz i ≤ 12) → sL wd G (insF sz 0 v) (ltr (insL f g 0)) (k + 1) = mW wd (ltr (insL f g 0) 0) v + G + sL wd G sz (ltr f) k
  | 0, _ => by
    show 0 + mW wd (ltr (insL f g 0) 0) (insF sz 0 v 0) + G = mW wd (ltr (insL f g 0) 0) v + G + 0
    rw [insF_eq]
    omega
  | k + 1, h => by
    have ih := sL_ins (wd := wd) (G := G) (v := v) (sz := sz) (f := f) (g := g) k (fun i hi => h i (by omega))
    have h1 : sL wd G (insF sz 0 v) (ltr (insL f g 0)) (k + 1 + 1) = sL wd G (insF sz 0 v) (ltr (insL f g 0)) (k + 1) + mW wd (ltr (insL f g 0) (k + 1)) (insF sz 0 v (k + 1)) + G := rfl
    have h2 : sL wd G sz (ltr f) (k + 1) = sL wd G sz (ltr f) k + mW wd (ltr f k) (sz k) + G := rfl
    have h3 : insF sz 0 v (k + 1) = sz k := insF_gt (Nat.succ_pos k)
    have hk := h k (by omega)
    have h4 : mW wd (ltr (insL f g 0) (k + 1)) (sz k) = mW wd (ltr f k) (sz k) := mW_cg (fun q hq => insL_gt (Nat.succ_pos k) (by omega))
    rw [h1, ih, h2, h3, h4]
    omega
theorem ins_st {M : St} (h : Inv M) {k col : Nat} (hk : k ≤ M 0 7) : stM (insM M 0 col) (k + 1) = wiM (insM M 0 col) 0 + M 0 1 + stM M k := by
  have e1 : stM (insM M 0 col) (k + 1) = sL (M 1) (M 0 1) (insF (M 5) 0 (M 0 6)) (ltr (insL (M 7) (M 4) 0)) (k + 1) := rfl
  have e2 : wiM (insM M 0 col) 0 = mW (M 1) (ltr (insL (M 7) (M 4) 0) 0) (insF (M 5) 0 (M 0 6) 0) := rfl
  rw [e1, e2, insF_eq, sL_ins k (fun i hi => (h.1.msz i (by omega)).1)]
  rfl
theorem ins_LM {M : St} (h : Inv M) (col : Nat) : LM (insM M 0 col) = LM M + wiM (insM M 0 col) 0 + M 0 1 := by
  have e := ins_st h (col := col) (Nat.le_refl (M 0 7))
  have e1 : LM (insM M 0 col) = stM (insM M 0 col) (M 0 7 + 1) := rfl
  have e2 : LM M = stM M (M 0 7) := rfl
  rw [e1, e, e2]
  omega
theorem in_op {M : St} (h6 : 1 ≤ M 0 6) (h7 : M 0 7 < 6) {j col : Nat} (hj : j ≤ M 0 7) (hc : 1 ≤ col ∧ col ≤ 3) : o_insertMessage M (nI j) (nI col) = (nI (LM (insM M j col)), settle (insM M j col)) := by
  refine (wr_y ⟨Nat.zero_le _, hj⟩ (by omega)).trans ((wr_y hc (by decide)).trans ?_)
  rw [if_neg (by omega), if_pos h7]
theorem rm_op {M : St} (h7 : M 0 7 < 6) {j : Nat} (hj : j < M 0 7) : o_removeMessage M (nI j) = (nI (LM (delM M j)), settle (delM M j)) := wn_y hj (by omega)
theorem ind_ls (M : St) (col : Nat) : KS M (settle (delM (settle (insM M 0 col)) 0)) := by
  intro a k q
  obtain ⟨X, hX⟩ : ∃ X, X = settle (insM M 0 col) := ⟨_, rfl⟩
  have hXa : ∀ b, ¬ b = 0 → X b = insM M 0 col b := fun b hb => by
    rw [hX]
    exact va_up_ne _ _ hb
  rw [← hX]
  unfold settle
  rw [s0_at _ (fun e => q ⟨e.1, Or.inl e.2⟩)]
  by_cases e0 : a = 0
  · subst e0
    show va_up (X 0) 7 (X 0 7 - 1) k = M 0 k
    by_cases e7 : k = 7
    · subst e7
      rw [va_up_self, hX]
      show M 0 7 + 1 - 1 = M 0 7
      omega
    · rw [va_up_ne _ _ e7, hX]
      show s0 (insM M 0 col) 4 _ 0 k = M 0 k
      rw [s0_at _ (fun e => q ⟨rfl, Or.inl e.2⟩)]
      show va_up (M 0) 7 (M 0 7 + 1) k = M 0 k
      exact va_up_ne _ _ e7
  · by_cases e5 : a = 5
    · subst e5
      show delF (X 5) 0 k = M 5 k
      rw [hXa 5 (by decide), delF_ge (Nat.zero_le _)]
      show insF (M 5) 0 (M 0 6) (k + 1) = M 5 k
      exact insF_gt (Nat.succ_pos k)
    · by_cases e6 : a = 6
      · subst e6
        show delF (X 6) 0 k = M 6 k
        rw [hXa 6 (by decide), delF_ge (Nat.zero_le _)]
        show insF (M 6) 0 col (k + 1) = M 6 k
        exact insF_gt (Nat.succ_pos k)
      · by_cases e7 : a = 7
        · subst e7
          show delL (X 7) 0 k = M 7 k
          rw [hXa 7 (by decide)]
          show (if k / 12 < 0 then insL (M 7) (M 4) 0 k else insL (M 7) (M 4) 0 (k + 12)) = M 7 k
          rw [if_neg (Nat.not_lt_zero _)]
          show (if (k + 12) / 12 < 0 then M 7 (k + 12) else if (k + 12) / 12 = 0 then M 4 ((k + 12) % 12) else M 7 (k + 12 - 12)) = M 7 k
          rw [if_neg (Nat.not_lt_zero _), if_neg (by omega), Nat.add_sub_cancel]
        · show (if a = 0 then va_up (X 0) 7 (X 0 7 - 1) else if a = 5 then delF (X 5) 0 else if a = 6 then delF (X 6) 0 else if a = 7 then delL (X 7) 0 else X a) k = M a k
          rw [if_neg e0, if_neg e5, if_neg e6, if_neg e7, hXa a e0]
          show (if a = 0 then va_up (M 0) 7 (M 0 7 + 1) else if a = 5 then insF (M 5) 0 (M 0 6) else if a = 6 then insF (M 6) 0 col else if a = 7 then insL (M 7) (M 4) 0 else M a) k = M a k
          rw [if_neg e0, if_neg e5, if_neg e6, if_neg e7]
theorem sc_op {M : St} (h7 : M 0 7 < 7) {j c : Nat} (hj : j < M 0 7) (hc : 1 ≤ c ∧ c ≤ 3) : o_setColor M (nI j) (nI c) = (nI (M 6 j), settle (va_up M 6 (va_up (M 6) j c))) := (wn_y hj (by omega)).trans (wr_y hc (by decide))
/-! the law's own tables -/
def num (c : Nat) : Nat := if c = 8 then 26 else c
theorem num_lt {c : Nat} (h : c ≤ 8) : num c < 27 := by unfold num; split <;> omega
def GR (M : St) (g : Nat → Nat) : Prop := ∀ c, c ≤ 8 → M 1 (num c) = g c ∧ ∀ j, j < 6 → M 2 (num c * 6 + j) = g (9 + 6 * c + j)
def lwi (g m : Nat → Nat) (k : Nat) : Nat := m (2 + 5 * k) - 1 + sm (fun i => g (m (4 + 5 * k + i))) (m (2 + 5 * k))
def lst (g m : Nat → Nat) (k : Nat) : Nat := sm (fun i => lwi g m i + m 1) k
def MRl (M : St) (m : Nat → Nat) : Prop := M 0 7 = m 0 ∧ M 0 1 = m 1 ∧ ∀ k, k < m 0 → M 5 k = m (2 + 5 * k) ∧ (1 ≤ m (2 + 5 * k) ∧ m (2 + 5 * k) ≤ 3) ∧ ∀ i, i < m (2 + 5 * k) → m (4 + 5 * k + i) ≤ 8 ∧ ltr (M 7) k i = num (m (4 + 5 * k + i))
theorem mW_sm (wd le : Nat → Nat) : ∀ n, mW wd le n = n - 1 + sm (fun i => wd (le i)) n
  | 0 => rfl
  | n + 1 => by
    rw [mW, mW_sm wd le n, sm]
    by_cases e : n = 0
    · subst e; rw [if_pos rfl]; omega
    · rw [if_neg e]; omega
theorem wi_l {M : St} {g m : Nat → Nat} (hg : GR M g) (hm : MRl M m) {k : Nat} (hk : k < m 0) : wiM M k = lwi g m k := by
  obtain ⟨h1, h2, h3⟩ := hm.2.2 k hk
  unfold wiM lwi
  rw [mW_sm, h1]
  congr 1
  refine sm_cg (fun i hi => ?_)
  obtain ⟨h4, h5⟩ := h3 i hi
  rw [h5]
  exact (hg _ h4).1
theorem st_l {M : St} {g m : Nat → Nat} (hg : GR M g) (hm : MRl M m) : ∀ {k : Nat}, k ≤ m 0 → stM M k = lst g m k
  | 0, _ => rfl
  | k + 1, h => by
    have ih := st_l hg hm (k := k) (by omega)
    rw [st_s, ih, wi_l hg hm (by omega), hm.2.1]
    unfold lst
    rw [sm]
    omega
theorem LM_l {M : St} {g m : Nat → Nat} (hg : GR M g) (hm : MRl M m) : LM M = lst g m (m 0) := by
  have e : LM M = stM M (M 0 7) := rfl
  rw [e, hm.1]
  exact st_l hg hm (Nat.le_refl _)
/-! the first font, as the law keeps it -/
def fgq (a i j : Nat) : Nat → Nat := fun p => if p < 9 then (if p < a then 3 + p % 3 else 0) else dq i j (p - 9)
theorem fgq_0 : fgq 0 0 0 = fun _ => 0 := by
  funext p
  unfold fgq
  split
  · exact if_neg (Nat.not_lt_zero _)
  · rw [dq_0]
theorem fgq_a {i : Nat} (hi : i < 9) : va_up (fgq i i 0) i (3 + i % 3) = fgq (i + 1) i 0 := by
  funext p
  by_cases e : p = i
  · subst e
    rw [va_up_self]
    unfold fgq
    rw [if_pos hi, if_pos (by omega)]
  · rw [va_up_ne _ _ e]
    unfold fgq
    split
    · by_cases q : p < i
      · rw [if_pos q, if_pos (by omega)]
      · rw [if_neg q, if_neg (by omega)]
    · rfl
theorem fgq_s {a i j k : Nat} (hj : j < 6) (hk : k = 9 + 6 * i + j) : va_up (fgq a i j) k (gv i j) = fgq a i (j + 1) := by
  have h := dq_s (i := i) (j := j) (k := 6 * i + j) hj rfl
  funext p
  have hp := congrFun h (p - 9)
  by_cases e : p = k
  · subst e
    rw [va_up_self]
    unfold fgq
    rw [if_neg (by omega), ← hp, show p - 9 = 6 * i + j by omega, va_up_self]
  · rw [va_up_ne _ _ e]
    unfold fgq
    split
    · rfl
    · rw [← hp, va_up_ne _ _ (by omega)]
theorem fgq_n {a i : Nat} : fgq a i (3 + i % 3) = fgq a (i + 1) 0 := by
  unfold fgq
  rw [dq_n]
theorem fgq_g {i j : Nat} (hi : i < 9) : fgq (i + 1) i j i = 3 + i % 3 := by
  unfold fgq
  rw [if_pos hi, if_pos (by omega)]
theorem gv_c (i j : Nat) : (29 * (i + 1) * (j + 2) + 17 * j) % 256 = gv i j := by
  unfold gv
  rw [Nat.mul_assoc, Nat.mul_comm 29]
def gF : Nat → Nat := va_up (fgq 8 8 0) 8 2
theorem gr_00 : GR M00 gF := by
  have h : ∀ c, c < 9 → M00 1 (num c) = gF c ∧ ∀ j, j < 6 → M00 2 (num c * 6 + j) = gF (9 + 6 * c + j) := by decide +kernel
  exact fun c hc => h c (by omega)

