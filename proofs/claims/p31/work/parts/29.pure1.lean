/-! THE PROPERTY, pure -/
theorem upid (f : Nat → Nat) (i : Nat) : va_up f i (f i) = f := by
  funext j
  by_cases e : j = i
  · subst e; exact va_up_self _ _ _
  · exact va_up_ne _ _ e
theorem upidS (M : St) (i : Nat) : va_up M i (M i) = M := by
  funext j
  by_cases e : j = i
  · subst e; exact va_up_self _ _ _
  · exact va_up_ne _ _ e
theorem s0_id (M : St) (k : Nat) : s0 M k (M 0 k) = M := by
  unfold s0
  rw [upid, upidS]
theorem s0_s0 (M : St) (k a b : Nat) : s0 (s0 M k a) k b = s0 M k b := by
  funext i j
  show va_up (va_up M 0 (va_up (M 0) k a)) 0 (va_up (va_up M 0 (va_up (M 0) k a) 0) k b) i j = va_up M 0 (va_up (M 0) k b) i j
  rw [va_up_self]
  by_cases e : i = 0
  · subst e
    rw [va_up_self, va_up_self]
    by_cases e2 : j = k
    · subst e2; rw [va_up_self, va_up_self]
    · rw [va_up_ne _ _ e2, va_up_ne _ _ e2, va_up_ne _ _ e2]
  · rw [va_up_ne _ _ e, va_up_ne _ _ e, va_up_ne _ _ e]
theorem s0_at (M : St) {k v a b : Nat} (h : ¬ (a = 0 ∧ b = k)) : s0 M k v a b = M a b := by
  unfold s0
  by_cases e : a = 0
  · subst e
    rw [va_up_self, va_up_ne _ _ (fun q => h ⟨rfl, q⟩)]
  · rw [va_up_ne _ _ e]
/-! what a place shows -/
def pxM (M : St) (r c : Nat) : Nat := if b1 (lit (dotc (stripM M) (M 0 4 + c)) (M 0 8) (M 3 c)) r = 1 then colc (stripM M) (M 0 4 + c) else 0
theorem px_op {M : St} (h : Inv M) {r c : Nat} (hr : r ≤ 7) (hc : c < M 0 0) : o_pixel M (nI r) (nI c) = nI (pxM M r c) := by
  have hb := bnd h
  refine (wr_y ⟨Nat.zero_le _, hr⟩ (by decide)).trans ((wn_y hc (by omega)).trans ?_)
  unfold pxM
  split <;> rfl
theorem px_le {M : St} (h : Inv M) (r c : Nat) : pxM M r c ≤ 3 := by
  unfold pxM
  split
  · exact h.1.clr _
  · omega
def pw (p : Nat) : Nat := if p = 3 then 2 else if 0 < p then 1 else 0
theorem pw_3 : pw 3 = 2 := rfl
theorem pw_1 {p : Nat} (h1 : ¬ p = 3) (h2 : 0 < p) : pw p = 1 := by unfold pw; rw [if_neg h1, if_pos h2]
theorem pw_0 : pw 0 = 0 := rfl
theorem pw_le (p : Nat) : pw p ≤ 2 := by unfold pw; split <;> (try split) <;> omega
theorem sm_mul (a : Nat) (f : Nat → Nat) : ∀ n, a * sm f n = sm (fun k => a * f k) n
  | 0 => rfl
  | n + 1 => by rw [sm, sm, Nat.mul_add, sm_mul a f n]
theorem lit_0 (t m : Nat) : lit 0 t m = 0 := by
  unfold lit sft
  split <;> simp
theorem b1_0 (r : Nat) : b1 0 r = 0 := by unfold b1; rw [Nat.zero_div]
theorem px_w {M : St} (h : Inv M) (r c : Nat) : pw (pxM M r c) = wt (colc (stripM M) (M 0 4 + c)) * b1 (lit (dotc (stripM M) (M 0 4 + c)) (M 0 8) (M 3 c)) r := by
  have h1 := b1_le (lit (dotc (stripM M) (M 0 4 + c)) (M 0 8) (M 3 c)) r
  have h2 := h.1.drk (M 0 4 + c)
  unfold pxM
  by_cases e : b1 (lit (dotc (stripM M) (M 0 4 + c)) (M 0 8) (M 3 c)) r = 1
  · rw [if_pos e, e, Nat.mul_one]
    have hc : ¬ colc (stripM M) (M 0 4 + c) = 0 := by
      intro q
      rw [h2 q, lit_0, b1_0] at e
      cases e
    unfold pw wt
    split
    · rfl
    · rw [if_pos (by omega)]
  · have e0 : b1 (lit (dotc (stripM M) (M 0 4 + c)) (M 0 8) (M 3 c)) r = 0 := by omega
    rw [if_neg e, e0, Nat.mul_zero]
    rfl
def pcM (M : St) (c : Nat) : Nat := sm (fun r => pw (pxM M r c)) 8
theorem px_col {M : St} (h : Inv M) (c : Nat) : pcM M c = colS (stripM M) (M 0 8) (M 3) (M 0 4) c := by
  unfold pcM colS pc8
  rw [sm_mul]
  exact sm_cg (fun k _ => px_w h k c)
theorem px_sum {M : St} (h : Inv M) : sm (pcM M) (M 0 0) = ldM M (M 0 4) := sm_cg (fun c _ => px_col h c)
/-! the heaviest place -/
theorem hv_ge (f : Nat → Nat) : ∀ n i, i < n → f i ≤ f (hv f n)
  | 0, i, h => absurd h (Nat.not_lt_zero _)
  | n + 1, i, h => by
    have ih := hv_ge f n
    rw [hv]
    by_cases h0 : n = 0
    · subst h0
      rw [if_pos rfl, show i = 0 by omega]
      exact Nat.le_refl _
    · rw [if_neg h0]
      split
      · rename_i h1
        by_cases e : i = n
        · rw [e]; exact Nat.le_refl _
        · have := ih i (by omega)
          omega
      · rename_i h1
        by_cases e : i = n
        · rw [e]; omega
        · exact ih i (by omega)
theorem hv_in (f : Nat → Nat) : ∀ n, 0 < n → hv f n < n
  | 0, h => absurd h (Nat.not_lt_zero _)
  | n + 1, _ => by
    rw [hv]
    by_cases h0 : n = 0
    · subst h0; rw [if_pos rfl]; decide
    · have := hv_in f n (by omega)
      rw [if_neg h0]
      split <;> omega
theorem ld_pk {M : St} (h : Inv M) : ldM M (M 0 4) ≤ ldM M (hv (ldM M) (LM M)) := by
  by_cases h0 : LM M = 0
  · have h4 : M 0 4 = 0 := by rcases h.2 with q | q <;> omega
    rw [h0, h4]
    exact Nat.le_refl _
  · exact hv_ge _ _ _ (by rcases h.2 with q | q <;> omega)
theorem ld_le {M : St} (h : Inv M) (a : Nat) : ldM M a ≤ 512 := by
  have h1 : ldM M a ≤ M 0 0 * 16 := ldS_le _ _ _ _ _
  have := (bnd h).1
  omega
def brM (M : St) : Nat := if ldM M (M 0 4) ≤ M 0 3 then 15 else 15 * M 0 3 / ldM M (M 0 4)
theorem br_op (M : St) : o_brightness M = nI (brM M) := by
  unfold o_brightness brM
  split <;> rfl
theorem br_1 {M : St} (h : ldM M (M 0 4) ≤ M 0 3) : brM M = 15 := if_pos h
theorem br_2 {M : St} (h : ¬ ldM M (M 0 4) ≤ M 0 3) : brM M * ldM M (M 0 4) ≤ 15 * M 0 3 ∧ 15 * M 0 3 < (brM M + 1) * ldM M (M 0 4) ∧ brM M < 15 := by
  have e : brM M = 15 * M 0 3 / ldM M (M 0 4) := if_neg h
  rw [e]
  refine ⟨Nat.div_mul_le_self _ _, ?_, ?_⟩
  · have := Nat.lt_mul_div_succ (15 * M 0 3) (show 0 < ldM M (M 0 4) by omega)
    rw [Nat.mul_comm (15 * M 0 3 / ldM M (M 0 4) + 1)]
    exact this
  · exact Nat.div_lt_of_lt_mul (by omega)
/-! ticks -/
theorem LM_s0 (M : St) (a b : Nat) : LM (s0 (s0 M 5 a) 4 b) = LM M := rfl
theorem tick_per {M : St} (h : Inv M) (hL : ¬ LM M = 0) : tickM M (LM M * M 0 2) = M := by
  have hS := h.1.2.2.1
  have hc := h.1.2.2.2.2.2.1
  have ho : M 0 4 < LM M := by rcases h.2 with q | q <;> omega
  have e1 : (M 0 5 + LM M * M 0 2) % M 0 2 = M 0 5 := by rw [Nat.add_mul_mod_self_right, Nat.mod_eq_of_lt hc]
  have e2 : (M 0 5 + LM M * M 0 2) / M 0 2 = LM M := by rw [Nat.add_mul_div_right _ _ (by omega), Nat.div_eq_of_lt hc, Nat.zero_add]
  unfold tickM
  rw [e1, e2, if_neg hL, Nat.add_mod_right, Nat.mod_eq_of_lt ho, s0_id, s0_id]
theorem tick_op {M : St} {k : Nat} (hk : k ≤ 9999) : o_tick M (nI k) = (nI (tickM M k 0 4), tickM M k) := wr_y ⟨Nat.zero_le _, hk⟩ (by decide)
def stM (M : St) (j : Nat) : Nat := sL (M 1) (M 0 1) (M 5) (ltr (M 7)) j
def wiM (M : St) (j : Nat) : Nat := mW (M 1) (ltr (M 7) j) (M 5 j)
theorem ms_op {M : St} (h : Inv M) {j : Nat} (hj : j < M 0 7) : o_messageStart M (nI j) = nI (stM M j) := wn_y hj (by have := (bnd h).2.1; omega)
theorem mw_op {M : St} (h : Inv M) {j : Nat} (hj : j < M 0 7) : o_messageWidth M (nI j) = nI (wiM M j) := wn_y hj (by have := (bnd h).2.1; omega)
def tuM (M : St) (j : Nat) : Nat := if plc M j ≤ M 0 0 - wiM M j then 0 else (plc M j - (M 0 0 - wiM M j)) * M 0 2 - M 0 5
theorem tu_op {M : St} (h : Inv M) {j : Nat} (hj : j < M 0 7) (hw : wiM M j ≤ M 0 0) : o_ticksUntilWhole M (nI j) = nI (tuM M j) := by
  refine (wn_y hj (by have := (bnd h).2.1; omega)).trans ?_
  refine (if_neg (show ¬ M 0 0 < mW (M 1) (ltr (M 7) j) (M 5 j) from Nat.not_lt.mpr hw)).trans ?_
  by_cases h1 : plc M j ≤ M 0 0 - wiM M j
  · rw [show tuM M j = 0 from if_pos h1]
    exact if_pos h1
  · rw [show tuM M j = (plc M j - (M 0 0 - wiM M j)) * M 0 2 - M 0 5 from if_neg h1]
    exact if_neg h1
theorem tu_op2 {M : St} (h : Inv M) {j : Nat} (hj : j < M 0 7) (hw : ¬ wiM M j ≤ M 0 0) : o_ticksUntilWhole M (nI j) = -14 := by
  refine (wn_y hj (by have := (bnd h).2.1; omega)).trans ?_
  exact if_pos (Nat.not_le.mp hw)
theorem wi_pos {M : St} (h : Inv M) {j : Nat} (hj : j < M 0 7) : 1 ≤ wiM M j := by
  have h9 := (bnd h).2.2
  have h15 := h.1.2.2.2.2.2.2.2.2.2.2.2.2.2.2.2 j hj
  exact mW_pos (fun c hc => (h9 c hc).1) (fun i hi => h15.2.2 i hi) h15.1.1
theorem st_s (M : St) (j : Nat) : stM M (j + 1) = stM M j + wiM M j + M 0 1 := rfl
theorem st_lt {M : St} (h : Inv M) {j : Nat} (hj : j < M 0 7) : stM M j < LM M := by
  have h1 : stM M (j + 1) ≤ LM M := sL_mono _ _ _ _ hj
  have h2 := wi_pos h hj
  rw [st_s] at h1
  omega
theorem plc_adv {st off L d : Nat} (hst : st < L) (ho : off < L) (hd : d ≤ (st + L - off) % L) : (st + L - (off + d) % L) % L = (st + L - off) % L - d := by
  by_cases h1 : off ≤ st
  · have e1 : (st + L - off) % L = st - off := by
      rw [show st + L - off = st - off + L by omega, Nat.add_mod_right, Nat.mod_eq_of_lt (by omega)]
    rw [e1] at hd ⊢
    rw [Nat.mod_eq_of_lt (show off + d < L by omega), show st + L - (off + d) = st - off - d + L by omega, Nat.add_mod_right, Nat.mod_eq_of_lt (by omega)]
  · have e1 : (st + L - off) % L = st + L - off := Nat.mod_eq_of_lt (by omega)
    rw [e1] at hd ⊢
    by_cases h2 : off + d < L
    · rw [Nat.mod_eq_of_lt h2, show st + L - (off + d) = st + L - off - d by omega, Nat.mod_eq_of_lt (by omega)]
    · have e2 : (off + d) % L = off + d - L := by
        rw [Nat.mod_eq_sub_mod (by omega), Nat.mod_eq_of_lt (by omega)]
      rw [e2, show st + L - (off + d - L) = st + L - off - d + L by omega, Nat.add_mod_right, Nat.mod_eq_of_lt (by omega)]
theorem plc_back {st off L : Nat} (hst : st < L) (ho : off < L) : (off + (st + L - off) % L) % L = st := by
  by_cases h1 : off ≤ st
  · rw [show st + L - off = st - off + L by omega, Nat.add_mod_right, Nat.mod_eq_of_lt (show st - off < L by omega), show off + (st - off) = st by omega, Nat.mod_eq_of_lt hst]
  · rw [Nat.mod_eq_of_lt (show st + L - off < L by omega), show off + (st + L - off) = st + L by omega, Nat.add_mod_right, Nat.mod_eq_of_lt hst]
theorem tu_le {M : St} (h : Inv M) {j : Nat} (hj : j < M 0 7) : tuM M j ≤ 4968 := by
  have hL := h.1.LM_le
  have hS := h.1.2.2.1.2
  have h1 : plc M j < LM M := Nat.mod_lt _ (by have := st_lt h hj; omega)
  unfold tuM
  split
  · omega
  · have h2 : (plc M j - (M 0 0 - wiM M j)) * M 0 2 ≤ 552 * 9 := Nat.mul_le_mul (by omega) hS
    omega
/-- after the ticks that are told the message stands whole -/
theorem tu_0 {M : St} (h : Inv M) {j : Nat} (hj : j < M 0 7) : plc (tickM M (tuM M j)) j ≤ M 0 0 - wiM M j := by
  have hS := h.1.2.2.1
  have hc := h.1.2.2.2.2.2.1
  have hst := st_lt h hj
  have ho : M 0 4 < LM M := by rcases h.2 with q | q <;> omega
  have hL0 : ¬ LM M = 0 := by omega
  have e0 : plc M j = (stM M j + LM M - M 0 4) % LM M := rfl
  by_cases h1 : plc M j ≤ M 0 0 - wiM M j
  · have e1 : tuM M j = 0 := if_pos h1
    have e2 : tickM M 0 = M := by
      unfold tickM
      rw [Nat.add_zero, Nat.mod_eq_of_lt hc, Nat.div_eq_of_lt hc, if_neg hL0, Nat.add_zero, Nat.mod_eq_of_lt ho, s0_id, s0_id]
    rw [e1, e2]
    exact h1
  · obtain ⟨d, hd⟩ : ∃ d, d = plc M j - (M 0 0 - wiM M j) := ⟨_, rfl⟩
    have e1 : tuM M j = d * M 0 2 - M 0 5 := by rw [hd]; exact if_neg h1
    have hdS : M 0 2 ≤ d * M 0 2 := Nat.le_mul_of_pos_left _ (by omega)
    have e2 : M 0 5 + tuM M j = d * M 0 2 := by rw [e1]; omega
    have e3 : plc (tickM M (tuM M j)) j = (stM M j + LM M - (if LM M = 0 then 0 else (M 0 4 + (M 0 5 + tuM M j) / M 0 2) % LM M)) % LM M := rfl
    rw [e3, if_neg hL0, e2, Nat.mul_div_cancel _ (show 0 < M 0 2 by omega), plc_adv hst ho (by rw [← e0]; omega), ← e0]
    omega

