theorem fb_holes : ∀ (m n : Nat) (f : Nat → Nat), (∀ i, i < n → f i < m) → (∀ i j, i < j → j < n → f i ≠ f j) → n ≤ m := by
  intro m
  induction m with
  | zero =>
    intro n f h1 _
    rcases Nat.eq_zero_or_pos n with h | h
    · omega
    · exact absurd (h1 0 h) (Nat.not_lt_zero _)
  | succ m ih =>
    intro n f h1 h2
    by_cases hx : ∃ i, i < n ∧ f i = m
    · obtain ⟨a, ha, hfa⟩ := hx
      have hg := ih (n - 1) (fun i => if i < a then f i else f (i + 1)) (by
        intro i hi
        by_cases q : i < a
        · simp only [if_pos q]
          have b1 := h1 i (by omega)
          have b2 := h2 i a q ha
          omega
        · simp only [if_neg q]
          have b1 := h1 (i + 1) (by omega)
          have b2 := h2 a (i + 1) (by omega) (by omega)
          omega) (by
        intro i j hij hj
        by_cases q : i < a
        · by_cases r : j < a
          · simp only [if_pos q, if_pos r]
            exact h2 i j hij (by omega)
          · simp only [if_pos q, if_neg r]
            exact h2 i (j + 1) (by omega) (by omega)
        · have r : ¬ j < a := by omega
          simp only [if_neg q, if_neg r]
          exact h2 (i + 1) (j + 1) (by omega) (by omega))
      omega
    · have hg := ih n f (fun i hi => by
        have b1 := h1 i hi
        have b2 : f i ≠ m := fun e => hx ⟨i, hi, e⟩
        omega) h2
      omega
/-- two of them in one place -/
theorem fb_twice {m n : Nat} {f : Nat → Nat} (h : ∀ i, i < n → f i < m) (hm : m < n) : ∃ i j, i < j ∧ j < n ∧ f i = f j := by
  refine Classical.byContradiction fun hx => ?_
  have := fb_holes m n f h (fun i j hij hj e => hx ⟨i, j, hij, hj, e⟩)
  omega
/-- as many as places, none twice: each place is taken -/
theorem fb_onto {n : Nat} {f : Nat → Nat} (h : ∀ i, i < n → f i < n) (h2 : ∀ i j, i < j → j < n → f i ≠ f j) {y : Nat} (hy : y < n) : ∃ i, i < n ∧ f i = y := by
  refine Classical.byContradiction fun hx => ?_
  have hne : ∀ i, i < n → f i ≠ y := fun i hi e => hx ⟨i, hi, e⟩
  have := fb_holes (n - 1) n (fun i => if f i < y then f i else f i - 1) (by
    intro i hi
    have b1 := h i hi
    have b2 := hne i hi
    by_cases q : f i < y
    · simp only [if_pos q]; omega
    · simp only [if_neg q]; omega) (by
    intro i j hij hj
    have b1 := hne i (by omega)
    have b2 := hne j hj
    have b3 := h2 i j hij hj
    by_cases q : f i < y
    · by_cases r : f j < y
      · simp only [if_pos q, if_pos r]; exact b3
      · simp only [if_pos q, if_neg r]; omega
    · by_cases r : f j < y
      · simp only [if_neg q, if_pos r]; omega
      · simp only [if_neg q, if_neg r]; omega)
  omega
abbrev St : Type := Nat → Nat → Nat
def ltr (f : Nat → Nat) : Nat → Nat → Nat := fun i q => f (12 * i + q)
def stripM (M : St) : List (Nat × Nat) := scols (M 1) (M 2) (M 0 1) (M 5) (M 6) (ltr (M 7)) (M 0 7)
def LM (M : St) : Nat := sL (M 1) (M 0 1) (M 5) (ltr (M 7)) (M 0 7)
theorem strip_len (M : St) : (stripM M).length = LM M := scols_len _ _ _ _ _ _ _
def s0 (M : St) (k v : Nat) : St := va_up M 0 (va_up (M 0) k v)
def settle (M : St) : St := s0 M 4 (if M 0 4 < LM M then M 0 4 else 0)
def dispE (ad : Nat → Nat) (M : St) (off : Nat) : va_E := .inr (5, [.ref (ad 1), .ref (ad 4), .ref (ad 6), .ref (ad 26), .ref (ad 29), .int (nI (M 0 0)), .int (nI (M 0 1)), .int (nI (M 0 2)), .int (shI (M 0 8)), .int (nI (M 0 3)), .int (nI off), .int (nI (M 0 5))])
/-- the messages in their cells, without where they stand -/
def MsgY (cI : ClassId) (ad : Nat → Nat) (M : St) (pm : Nat → Nat) (E : Nat → va_E) : Prop := ∀ i : Nat, i < 6 → ∃ (sz co st wi : Int32) (g : Nat → Nat), Msg cI ad E (pm i) sz co st wi g ∧ (i < M 0 7 → sz = nI (M 5 i) ∧ co = nI (M 6 i) ∧ ∀ q : Nat, q < M 5 i → g q = ltr (M 7) i q)
def MsgX (cI : ClassId) (ad : Nat → Nat) (M : St) (pm : Nat → Nat) (E : Nat → va_E) : Prop := ∀ k : Nat, k < M 0 7 → ∃ g : Nat → Nat, Msg cI ad E (pm k) (nI (M 5 k)) (nI (M 6 k)) (nI (sL (M 1) (M 0 1) (M 5) (ltr (M 7)) k)) (nI (mW (M 1) (ltr (M 7) k) (M 5 k))) g ∧ ∀ q : Nat, q < M 5 k → g q = ltr (M 7) k q
/-- the class's cells but for its strip -/
def RelY (cI cM : ClassId) (ad : Nat → Nat) (M : St) (pm : Nat → Nat) (E : Nat → va_E) : Prop :=
  E 0 = dispE ad M (M 0 4) ∧ E 1 = .inr (0, [.ref (ad 2), .ref (ad 3)]) ∧ E 2 = aI cI 27 (M 1) ∧ E 3 = aI cI 162 (M 2) ∧ E 4 = .inr (4, [.ref (ad 5), .int (nI (M 0 6))]) ∧ E 5 = aI cI 12 (M 4) ∧ E 6 = .inr (2, [.ref (ad 7), .int (nI (M 0 7))]) ∧ E 7 = .inl (cM, 6, .inr (.inr (.inr (.inr (sf ad pm))))) ∧ PM pm ∧ M 0 7 ≤ 6 ∧ MsgY cI ad M pm E ∧ E 29 = aI cI 32 (M 3)
def RelX (cI cM : ClassId) (ad : Nat → Nat) (M : St) (E : Nat → va_E) : Prop := ∃ pm : Nat → Nat, RelY cI cM ad M pm E ∧ MsgX cI ad M pm E ∧ StripAt cI ad E (stripM M)
theorem RelX.mv {cI cM : ClassId} {ad : Nat → Nat} {M : St} {E E1 : Nat → va_E} (h : RelX cI cM ad M E) (hk : ∀ k : Nat, k < 30 → E1 k = E k) : RelX cI cM ad M E1 := by
  obtain ⟨pm, ⟨e0, e1, e2, e3, b4, b5, l6, l7, hpm, hn, hy, e29⟩, hx, hs⟩ := h
  refine ⟨pm, ⟨(hk _ (by omega)).trans e0, (hk _ (by omega)).trans e1, (hk _ (by omega)).trans e2, (hk _ (by omega)).trans e3, (hk _ (by omega)).trans b4, (hk _ (by omega)).trans b5, (hk _ (by omega)).trans l6, (hk _ (by omega)).trans l7, hpm, hn, fun i hi => ?_, (hk _ (by omega)).trans e29⟩, fun i hi => ?_, hs.mv (hk _ (by omega)) (hk _ (by omega)) (hk _ (by omega))⟩
  · obtain ⟨sz, co, st, wi, g, hM, hg⟩ := hy i hi
    have := hpm.1 i hi
    exact ⟨sz, co, st, wi, g, hM.mv (hk _ (by omega)) (hk _ (by omega)) (hk _ (by omega)), hg⟩
  · obtain ⟨g, hM, hg⟩ := hx i hi
    have := hpm.1 i (by omega)
    exact ⟨g, hM.mv (hk _ (by omega)) (hk _ (by omega)) (hk _ (by omega)), hg⟩
/-- numbers in their ranges -/
def Inv0 (M : St) : Prop := (8 ≤ M 0 0 ∧ M 0 0 ≤ 32) ∧ M 0 1 ≤ 9 ∧ (1 ≤ M 0 2 ∧ M 0 2 ≤ 9) ∧ (1 ≤ M 0 3 ∧ M 0 3 ≤ 999) ∧ M 0 4 ≤ 552 ∧ M 0 5 < M 0 2 ∧ M 0 6 ≤ 12 ∧ M 0 7 ≤ 6 ∧ M 0 8 ≤ 4 ∧ (∀ c, c < 27 → 1 ≤ M 1 c ∧ M 1 c ≤ 6) ∧ (∀ i, i < 162 → M 2 i < 256) ∧ (∀ c, c < 27 → ∀ j, j < 6 → M 1 c ≤ j → M 2 (c * 6 + j) = 0) ∧ (∀ x, x < 32 → M 3 x < 256) ∧ (∀ x, x < 32 → M 0 0 ≤ x → M 3 x = 0) ∧ (∀ k, k < M 0 6 → M 4 k < 27) ∧ (∀ i, i < M 0 7 → (1 ≤ M 5 i ∧ M 5 i ≤ 12) ∧ (1 ≤ M 6 i ∧ M 6 i ≤ 3) ∧ ∀ k, k < M 5 i → ltr (M 7) i k < 27)
def Inv (M : St) : Prop := Inv0 M ∧ (M 0 4 < LM M ∨ M 0 4 = 0)
theorem Inv0.ws {M : St} (h : Inv0 M) : ∀ c, c < 27 → M 1 c ≤ 6 := fun c hc => (h.2.2.2.2.2.2.2.2.2.1 c hc).2
theorem Inv0.msz {M : St} (h : Inv0 M) : ∀ i, i < M 0 7 → M 5 i ≤ 12 ∧ ∀ k, k < M 5 i → ltr (M 7) i k < 27 := fun i hi => ⟨(h.2.2.2.2.2.2.2.2.2.2.2.2.2.2.2 i hi).1.2, (h.2.2.2.2.2.2.2.2.2.2.2.2.2.2.2 i hi).2.2⟩
theorem Inv0.LM_le {M : St} (h : Inv0 M) : LM M ≤ 552 := by
  have := sL_le (wd := M 1) (G := M 0 1) (sz := M 5) (le := ltr (M 7)) h.ws h.2.1 (M 0 7) h.msz
  have h7 := h.2.2.2.2.2.2.2.1
  unfold LM
  omega
/-- each column of the strip -/
def Col (q : Nat × Nat) : Prop := q.1 < 256 ∧ q.2 ≤ 3 ∧ (q.2 = 0 → q.1 = 0)
theorem Col_dk {m : Nat} : ∀ q ∈ dk m, Col q := fun q hq => by rw [List.eq_of_mem_replicate hq]; exact ⟨by decide, by decide, fun _ => rfl⟩
theorem Col_glyph {wd dt : Nat → Nat} {c co : Nat} (hc : c < 27) (hw : wd c ≤ 6) (hd : ∀ i, i < 162 → dt i < 256) (hco : 1 ≤ co ∧ co ≤ 3) : ∀ q ∈ glyph wd dt c co, Col q := by
  intro q hq
  obtain ⟨j, hj, rfl⟩ := List.mem_map.mp hq
  have hj := List.mem_range.mp hj
  exact ⟨hd _ (by omega), hco.2, fun h => by have h : co = 0 := h; omega⟩
theorem Col_mcols {wd dt : Nat → Nat} {co : Nat} {le : Nat → Nat} (hw : ∀ c, c < 27 → wd c ≤ 6) (hd : ∀ i, i < 162 → dt i < 256) (hco : 1 ≤ co ∧ co ≤ 3) : ∀ k, (∀ i, i < k → le i < 27) → ∀ q ∈ mcols wd dt co le k, Col q
  | 0, _ => fun q hq => by cases hq
  | k + 1, h => by
    intro q hq
    rw [mcols] at hq
    rcases List.mem_append.mp hq with hq | hq
    · rcases List.mem_append.mp hq with hq | hq
      · exact Col_mcols hw hd hco k (fun i hi => h i (by omega)) q hq
      · exact Col_dk q hq
    · exact Col_glyph (h k (by omega)) (hw _ (h k (by omega))) hd hco q hq
theorem Col_scols {wd dt : Nat → Nat} {G : Nat} {sz co : Nat → Nat} {le : Nat → Nat → Nat} (hw : ∀ c, c < 27 → wd c ≤ 6) (hd : ∀ i, i < 162 → dt i < 256) : ∀ n, (∀ i, i < n → (1 ≤ co i ∧ co i ≤ 3) ∧ ∀ k, k < sz i → le i k < 27) → ∀ q ∈ scols wd dt G sz co le n, Col q
  | 0, _ => fun q hq => by cases hq
  | n + 1, h => by
    intro q hq
    rw [scols] at hq
    rcases List.mem_append.mp hq with hq | hq
    · rcases List.mem_append.mp hq with hq | hq
      · exact Col_scols hw hd n (fun i hi => h i (by omega)) q hq
      · exact Col_mcols hw hd (h n (by omega)).1 _ (h n (by omega)).2 q hq
    · exact Col_dk q hq
theorem Inv0.col {M : St} (h : Inv0 M) : ∀ q ∈ stripM M, Col q := Col_scols h.ws h.2.2.2.2.2.2.2.2.2.2.1 _ (fun i hi => ⟨(h.2.2.2.2.2.2.2.2.2.2.2.2.2.2.2 i hi).2.1, (h.2.2.2.2.2.2.2.2.2.2.2.2.2.2.2 i hi).2.2⟩)
theorem getD_col {l : List (Nat × Nat)} (h : ∀ q ∈ l, Col q) (i : Nat) : Col (l.getD i (0, 0)) := by
  rw [List.getD_eq_getElem?_getD]
  cases e : l[i]? with
  | none => exact ⟨by decide, by decide, fun _ => rfl⟩
  | some q => exact h q (List.mem_of_getElem? e)
theorem Inv0.dot {M : St} (h : Inv0 M) (a : Nat) : dotc (stripM M) a < 256 := (getD_col h.col _).1
theorem Inv0.clr {M : St} (h : Inv0 M) (a : Nat) : colc (stripM M) a ≤ 3 := (getD_col h.col _).2.1
theorem Inv0.drk {M : St} (h : Inv0 M) (a : Nat) : colc (stripM M) a = 0 → dotc (stripM M) a = 0 := (getD_col h.col _).2.2
theorem Inv0.slen {M : St} (h : Inv0 M) : (stripM M).length ≤ 552 := by rw [strip_len]; exact h.LM_le
theorem settle_inv {M : St} (h : Inv0 M) : Inv (settle M) := by
  obtain ⟨h0, h1, h2, h3, h4, h5⟩ := h
  refine ⟨⟨h0, h1, h2, h3, ?_, h5⟩, ?_⟩
  · show (if M 0 4 < LM M then M 0 4 else 0) ≤ 552
    split <;> omega
  · show (if M 0 4 < LM M then M 0 4 else 0) < LM M ∨ (if M 0 4 < LM M then M 0 4 else 0) = 0
    by_cases e : M 0 4 < LM M
    · rw [if_pos e]; exact Or.inl e
    · rw [if_neg e]; exact Or.inr rfl
/-! the ways in which an argument is read -/
def wr {α : Type} (lo hi : Nat) (x : Int32) (f : Nat → α) (e : α) : α := if nI lo ≤ x ∧ x ≤ nI hi then f x.toNatClampNeg else e
theorem wr_y {α : Type} {lo hi j : Nat} {f : Nat → α} {e : α} (h : lo ≤ j ∧ j ≤ hi) (hh : hi < 2 ^ 31) : wr lo hi (nI j) f e = f j := by
  unfold wr
  rw [if_pos ⟨(nI_leI (by omega) (by omega)).mpr h.1, (nI_leI (by omega) hh).mpr h.2⟩, nI_clamp (by omega)]
theorem wr_n {α : Type} {lo hi : Nat} {x : Int32} {f : Nat → α} {e : α} (h : ¬ (nI lo ≤ x ∧ x ≤ nI hi)) : wr lo hi x f e = e := by unfold wr; rw [if_neg h]
theorem wr_c (lo hi : Nat) (x : Int32) (hl : lo < 2 ^ 31) (hh : hi < 2 ^ 31) : (∃ j : Nat, (lo ≤ j ∧ j ≤ hi) ∧ x = nI j) ∨ ¬ (nI lo ≤ x ∧ x ≤ nI hi) := by
  by_cases q : nI lo ≤ x ∧ x ≤ nI hi
  · obtain ⟨j, h1, rfl⟩ := iw_ex hh ⟨Int32.le_trans (nI_pos' hl) q.1, q.2⟩
    exact Or.inl ⟨j, ⟨(nI_leI hl (by omega)).mp q.1, h1⟩, rfl⟩
  · exact Or.inr q
def wn {α : Type} (n : Nat) (x : Int32) (f : Nat → α) (e : α) : α := if nI 0 ≤ x ∧ x < nI n then f x.toNatClampNeg else e
theorem wn_y {α : Type} {n j : Nat} {f : Nat → α} {e : α} (h : j < n) (hn : n < 2 ^ 31) : wn n (nI j) f e = f j := by
  unfold wn
  rw [if_pos ⟨(nI_leI (by omega) (by omega)).mpr (Nat.zero_le _), (nI_ltI (by omega) hn).mpr h⟩, nI_clamp (by omega)]
theorem wn_n {α : Type} {n : Nat} {x : Int32} {f : Nat → α} {e : α} (hn : n < 2 ^ 31) (h : ¬ ∃ j : Nat, j < n ∧ x = nI j) : wn n x f e = e := by
  unfold wn
  rw [if_neg]
  intro q
  obtain ⟨j, h1, rfl⟩ := iw_ex hn ⟨q.1, Int32.le_of_lt q.2⟩
  exact h ⟨j, (nI_ltI (by omega) hn).mp q.2, rfl⟩
def ws5 {α : Type} (x : Int32) (f : Nat → α) (e : α) : α := if -2 ≤ x ∧ x ≤ nI 2 then f (x + nI 2).toNatClampNeg else e
theorem shI_in : ∀ t, t < 5 → (-2 ≤ shI t ∧ shI t ≤ nI 2) ∧ (shI t + nI 2).toNatClampNeg = t := by decide +kernel
theorem ws_y {α : Type} {t : Nat} {f : Nat → α} {e : α} (h : t ≤ 4) : ws5 (shI t) f e = f t := by
  unfold ws5
  rw [if_pos (shI_in t (by omega)).1, (shI_in t (by omega)).2]
theorem ws_n {α : Type} {x : Int32} {f : Nat → α} {e : α} (h : ¬ (-2 ≤ x ∧ x ≤ nI 2)) : ws5 x f e = e := by unfold ws5; rw [if_neg h]
theorem ws_c (x : Int32) : (∃ t : Nat, t ≤ 4 ∧ x = shI t) ∨ ¬ (-2 ≤ x ∧ x ≤ nI 2) := by
  by_cases q : -2 ≤ x ∧ x ≤ nI 2
  · left
    have h1 : (-2 : Int32).toInt ≤ x.toInt := Int32.le_iff_toInt_le.mp q.1
    have h2 : x.toInt ≤ (nI 2).toInt := Int32.le_iff_toInt_le.mp q.2
    have h3 : (-2 : Int32).toInt = -2 := rfl
    have h4 : (nI 2).toInt = 2 := rfl
    have h5 : ∀ t, t < 5 → (shI t).toInt = (t : Int) - 2 := by decide +kernel
    refine ⟨(x.toInt + 2).toNat, by omega, Int32.toInt_inj.mp ?_⟩
    rw [h5 _ (by omega)]
    omega
  · exact Or.inr q
/-! what each call answers and does -/
def insF (f : Nat → Nat) (j v : Nat) : Nat → Nat := fun i => if i < j then f i else if i = j then v else f (i - 1)
def delF (f : Nat → Nat) (j : Nat) : Nat → Nat := fun i => if i < j then f i else f (i + 1)
def insL (f g : Nat → Nat) (j : Nat) : Nat → Nat := fun p => if p / 12 < j then f p else if p / 12 = j then g (p % 12) else f (p - 12)
def delL (f : Nat → Nat) (j : Nat) : Nat → Nat := fun p => if p / 12 < j then f p else f (p + 12)
def insM (M : St) (j col : Nat) : St := fun a => if a = 0 then va_up (M 0) 7 (M 0 7 + 1) else if a = 5 then insF (M 5) j (M 0 6) else if a = 6 then insF (M 6) j col else if a = 7 then insL (M 7) (M 4) j else M a
def delM (M : St) (j : Nat) : St := fun a => if a = 0 then va_up (M 0) 7 (M 0 7 - 1) else if a = 5 then delF (M 5) j else if a = 6 then delF (M 6) j else if a = 7 then delL (M 7) j else M a
def cntD (M : St) : Nat := sm (fun x => pc8 (M 3 x)) 32
def ldM (M : St) : Nat → Nat := ldS (stripM M) (M 0 8) (M 3) (M 0 0)
def dmM (M : St) (t : Nat) : Nat := sm (dmS (stripM M) t (M 3) (M 0 4)) (M 0 0)
def o_setGlyphWidth (M : St) (x y : Int32) : Int32 × St := wr 0 26 x (fun c => wr 1 6 y (fun w => (nI (M 1 c), settle (va_up (va_up M 1 (va_up (M 1) c w)) 2 (clr (M 2) (c * 6 + w) (c * 6 + 6))))) (-11, M)) (-11, M)
def o_setGlyphColumn (M : St) (x y z : Int32) : Int32 × St := wr 0 26 x (fun c => wr 0 255 z (fun b => wr 0 (M 1 c - 1) y (fun j => (nI (M 2 (c * 6 + j)), settle (va_up M 2 (va_up (M 2) (c * 6 + j) b)))) (-11, M)) (-11, M)) (-11, M)
def o_glyphColumn (M : St) (x y : Int32) : Int32 := wr 0 26 x (fun c => wr 0 5 y (fun j => if j < M 1 c then nI (M 2 (c * 6 + j)) else -14) (-11)) (-11)
def o_append (M : St) (x : Int32) : Int32 × St := wr 0 26 x (fun c => if M 0 6 < 12 then (nI (M 0 6 + 1), va_up (s0 M 6 (M 0 6 + 1)) 4 (va_up (M 4) (M 0 6) c)) else (-13, M)) (-11, M)
def o_clearText (M : St) : Int32 × St := (nI (M 0 6), s0 M 6 0)
def o_insertMessage (M : St) (x y : Int32) : Int32 × St := wr 0 (M 0 7) x (fun j => wr 1 3 y (fun col => if M 0 6 = 0 then (-12, M) else if M 0 7 < 6 then (nI (LM (insM M j col)), settle (insM M j col)) else (-13, M)) (-11, M)) (-11, M)
def o_removeMessage (M : St) (x : Int32) : Int32 × St := wn (M 0 7) x (fun j => (nI (LM (delM M j)), settle (delM M j))) (-11, M)
def o_setColor (M : St) (x y : Int32) : Int32 × St := wn (M 0 7) x (fun j => wr 1 3 y (fun col => (nI (M 6 j), settle (va_up M 6 (va_up (M 6) j col)))) (-11, M)) (-11, M)
def o_messageWidth (M : St) (x : Int32) : Int32 := wn (M 0 7) x (fun j => nI (mW (M 1) (ltr (M 7) j) (M 5 j))) (-11)
def o_messageStart (M : St) (x : Int32) : Int32 := wn (M 0 7) x (fun j => nI (sL (M 1) (M 0 1) (M 5) (ltr (M 7)) j)) (-11)
def o_setColumns (M : St) (x : Int32) : Int32 × St := wr 8 32 x (fun w => (nI (M 0 0), va_up (s0 M 0 w) 3 (clr (M 3) w 32))) (-11, M)
def o_setGap (M : St) (x : Int32) : Int32 × St := wr 0 9 x (fun g => (nI (M 0 1), settle (s0 M 1 g))) (-11, M)
def o_setSpeed (M : St) (x : Int32) : Int32 × St := wr 1 9 x (fun v => (nI (M 0 2), s0 (s0 M 2 v) 5 0)) (-11, M)
def o_setShift (M : St) (x : Int32) : Int32 × St := ws5 x (fun t => (shI (M 0 8), s0 M 8 t)) (-11, M)
def o_setBudget (M : St) (x : Int32) : Int32 × St := wr 1 999 x (fun b => (nI (M 0 3), s0 M 3 b)) (-11, M)
def flipD (M : St) (r c : Nat) : St := va_up M 3 (va_up (M 3) c (M 3 c ^^^ 2 ^ r))
def o_setDefective (M : St) (x y : Int32) (z : Nat) : Int32 × St := wr 0 7 x (fun r => wn (M 0 0) y (fun c => if b1 (M 3 c) r = z then (-12, M) else (nI (cntD (flipD M r c)), flipD M r c)) (-11, M)) (-11, M)
def tickM (M : St) (k : Nat) : St := s0 (s0 M 5 ((M 0 5 + k) % M 0 2)) 4 (if LM M = 0 then 0 else (M 0 4 + (M 0 5 + k) / M 0 2) % LM M)
def o_tick (M : St) (x : Int32) : Int32 × St := wr 0 9999 x (fun k => (nI (tickM M k 0 4), tickM M k)) (-11, M)
def plc (M : St) (j : Nat) : Nat := (sL (M 1) (M 0 1) (M 5) (ltr (M 7)) j + LM M - M 0 4) % LM M
def o_ticksUntilWhole (M : St) (x : Int32) : Int32 := wn (M 0 7) x (fun j => if M 0 0 < mW (M 1) (ltr (M 7) j) (M 5 j) then -14 else if plc M j ≤ M 0 0 - mW (M 1) (ltr (M 7) j) (M 5 j) then nI 0 else nI ((plc M j - (M 0 0 - mW (M 1) (ltr (M 7) j) (M 5 j))) * M 0 2 - M 0 5)) (-11)
def o_pixel (M : St) (x y : Int32) : Int32 := wr 0 7 x (fun r => wn (M 0 0) y (fun c => if b1 (lit (dotc (stripM M) (M 0 4 + c)) (M 0 8) (M 3 c)) r = 1 then nI (colc (stripM M) (M 0 4 + c)) else nI 0) (-11)) (-11)
def o_load (M : St) : Int32 := nI (ldM M (M 0 4))
def o_brightness (M : St) : Int32 := if ldM M (M 0 4) ≤ M 0 3 then nI 15 else nI (15 * M 0 3 / ldM M (M 0 4))
def o_peakLoad (M : St) : Int32 := nI (ldM M (hv (ldM M) (LM M)))
def o_peakOffset (M : St) : Int32 := if LM M = 0 then -14 else nI (hv (ldM M) (LM M))
def o_damage (M : St) (x : Int32) : Int32 := ws5 x (fun t => nI (dmM M t)) (-11)
def bet (f : Nat → Nat) (b c : Nat) : Nat := if f c < f b then c else b
def bestT (f : Nat → Nat) : Nat := bet f (bet f (bet f (bet f 2 1) 3) 0) 4
def o_adoptBestShift (M : St) : Int32 × St := (nI (dmM M (bestT (dmM M))), s0 M 8 (bestT (dmM M)))
