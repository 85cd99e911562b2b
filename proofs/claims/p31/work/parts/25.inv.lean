theorem wr_P {α : Type} (P : α → Prop) {lo hi : Nat} {x : Int32} {f : Nat → α} {e : α} (hl : lo < 2 ^ 31) (hh : hi < 2 ^ 31) (hf : ∀ j, lo ≤ j ∧ j ≤ hi → P (f j)) (he : P e) : P (wr lo hi x f e) := by
  rcases wr_c lo hi x hl hh with ⟨j, hj, rfl⟩ | h
  · rw [wr_y hj hh]; exact hf j hj
  · rw [wr_n h]; exact he
theorem wn_P {α : Type} (P : α → Prop) {n : Nat} {x : Int32} {f : Nat → α} {e : α} (hn : n < 2 ^ 31) (hf : ∀ j, j < n → P (f j)) (he : P e) : P (wn n x f e) := by
  by_cases h : ∃ j : Nat, j < n ∧ x = nI j
  · obtain ⟨j, hj, rfl⟩ := h
    rw [wn_y hj hn]; exact hf j hj
  · rw [wn_n hn h]; exact he
theorem ws_P {α : Type} (P : α → Prop) {x : Int32} {f : Nat → α} {e : α} (hf : ∀ t, t ≤ 4 → P (f t)) (he : P e) : P (ws5 x f e) := by
  rcases ws_c x with ⟨t, ht, rfl⟩ | h
  · rw [ws_y ht]; exact hf t ht
  · rw [ws_n h]; exact he
theorem if_P {α : Type} (P : α → Prop) {c : Prop} [Decidable c] {a b : α} (h1 : c → P a) (h2 : ¬ c → P b) : P (if c then a else b) := by
  split
  · exact h1 ‹_›
  · exact h2 ‹_›
def PI (q : Int32 × St) : Prop := Inv q.2
theorem bnd {M : St} (h : Inv M) : M 0 0 ≤ 32 ∧ M 0 7 ≤ 6 ∧ ∀ c, c < 27 → 1 ≤ M 1 c ∧ M 1 c ≤ 6 := ⟨h.1.1.2, h.1.2.2.2.2.2.2.2.1, h.1.2.2.2.2.2.2.2.2.2.1⟩
theorem i_setGlyphWidth {M : St} (h : Inv M) (x y : Int32) : Inv (o_setGlyphWidth M x y).2 :=
  wr_P PI (by decide) (by decide) (fun c hc => wr_P PI (by decide) (by decide) (fun w hw => settle_inv (inv0_w h.1 hw)) h) h
theorem i_setGlyphColumn {M : St} (h : Inv M) (x y z : Int32) : Inv (o_setGlyphColumn M x y z).2 :=
  wr_P PI (by decide) (by decide) (fun c hc => by
    have hw := (bnd h).2.2 c (by omega)
    exact wr_P PI (by decide) (by decide) (fun b hb => wr_P PI (by decide) (by omega) (fun j hj => settle_inv (inv0_c h.1 (by omega) (by omega) hb.2)) h) h) h
theorem i_append {M : St} (h : Inv M) (x : Int32) : Inv (o_append M x).2 :=
  wr_P PI (by decide) (by decide) (fun c hc => if_P PI (fun ht => by
    obtain ⟨⟨h0, h1, h2, h3, h4, h5, h6, h7, h8, h9, h10, h11, h12, h13, h14, h15⟩, h16⟩ := h
    refine ⟨⟨h0, h1, h2, h3, h4, h5, ?_, h7, h8, h9, h10, h11, h12, h13, ?_, h15⟩, h16⟩
    · show M 0 6 + 1 ≤ 12
      omega
    · intro k hk
      have hk : k < M 0 6 + 1 := hk
      show va_up (M 4) (M 0 6) c k < 27
      by_cases e : k = M 0 6
      · rw [e, va_up_self]; omega
      · rw [va_up_ne _ _ e]; exact h14 k (by omega)) (fun _ => h)) h
theorem i_clearText {M : St} (h : Inv M) : Inv (o_clearText M).2 := by
  obtain ⟨⟨h0, h1, h2, h3, h4, h5, h6, h7, h8, h9, h10, h11, h12, h13, h14, h15⟩, h16⟩ := h
  refine ⟨⟨h0, h1, h2, h3, h4, h5, ?_, h7, h8, h9, h10, h11, h12, h13, ?_, h15⟩, h16⟩
  · show 0 ≤ 12
    omega
  · intro k hk
    have hk : k < 0 := hk
    omega
theorem i_insertMessage {M : St} (h : Inv M) (x y : Int32) : Inv (o_insertMessage M x y).2 := by
  have hb := bnd h
  exact wr_P PI (by decide) (by omega) (fun j hj => wr_P PI (by decide) (by decide) (fun col hc => if_P PI (fun _ => h) (fun h6 => if_P PI (fun h7 => settle_inv (inv0_ins h.1 hj.2 hc h6 h7)) (fun _ => h))) h) h
theorem i_removeMessage {M : St} (h : Inv M) (x : Int32) : Inv (o_removeMessage M x).2 := by
  have hb := bnd h
  exact wn_P PI (by omega) (fun j hj => settle_inv (inv0_del h.1 hj)) h
theorem i_setColor {M : St} (h : Inv M) (x y : Int32) : Inv (o_setColor M x y).2 := by
  have hb := bnd h
  exact wn_P PI (by omega) (fun j hj => wr_P PI (by decide) (by decide) (fun col hc => settle_inv (inv0_col h.1 hc)) h) h
theorem i_setColumns {M : St} (h : Inv M) (x : Int32) : Inv (o_setColumns M x).2 :=
  wr_P PI (by decide) (by decide) (fun w hw => by
    obtain ⟨⟨h0, h1, h2, h3, h4, h5, h6, h7, h8, h9, h10, h11, h12, h13, h14, h15⟩, h16⟩ := h
    refine ⟨⟨hw, h1, h2, h3, h4, h5, h6, h7, h8, h9, h10, h11, ?_, ?_, h14, h15⟩, h16⟩
    · intro x hx
      show (if w ≤ x ∧ x < 32 then 0 else M 3 x) < 256
      split
      · decide
      · exact h12 x hx
    · intro x hx hxw
      have hxw : w ≤ x := hxw
      show (if w ≤ x ∧ x < 32 then 0 else M 3 x) = 0
      rw [if_pos ⟨hxw, hx⟩]) h
theorem i_setGap {M : St} (h : Inv M) (x : Int32) : Inv (o_setGap M x).2 :=
  wr_P PI (by decide) (by decide) (fun g hg => settle_inv (inv0_g h.1 hg.2)) h
theorem i_setSpeed {M : St} (h : Inv M) (x : Int32) : Inv (o_setSpeed M x).2 :=
  wr_P PI (by decide) (by decide) (fun v hv => by
    obtain ⟨⟨h0, h1, h2, h3, h4, h5, h6⟩, h16⟩ := h
    exact ⟨⟨h0, h1, hv, h3, h4, (show 0 < v from by omega), h6⟩, h16⟩) h
theorem i_setShift {M : St} (h : Inv M) (x : Int32) : Inv (o_setShift M x).2 := ws_P PI (fun t ht => inv_sh h ht) h
theorem i_setBudget {M : St} (h : Inv M) (x : Int32) : Inv (o_setBudget M x).2 :=
  wr_P PI (by decide) (by decide) (fun v hv => by
    obtain ⟨⟨h0, h1, h2, h3, h4, h5, h6⟩, h16⟩ := h
    exact ⟨⟨h0, h1, h2, hv, h4, h5, h6⟩, h16⟩) h
theorem i_setDefective {M : St} (h : Inv M) (x y : Int32) (z : Nat) : Inv (o_setDefective M x y z).2 := by
  have hb := bnd h
  exact wr_P PI (by decide) (by decide) (fun r hr => wn_P PI (by omega) (fun c hc => if_P PI (fun _ => h) (fun _ => ⟨inv0_flip h.1 hr.2 hc, h.2⟩)) h) h
theorem i_tick {M : St} (h : Inv M) (x : Int32) : Inv (o_tick M x).2 :=
  wr_P PI (by decide) (by decide) (fun v hv => by
    have hL := h.1.LM_le
    obtain ⟨⟨h0, h1, h2, h3, h4, h5, h6⟩, h16⟩ := h
    have hlt : LM M ≠ 0 → (M 0 4 + (M 0 5 + v) / M 0 2) % LM M < LM M := fun q => Nat.mod_lt _ (Nat.pos_of_ne_zero q)
    refine ⟨⟨h0, h1, h2, h3, ?_, (show (M 0 5 + v) % M 0 2 < M 0 2 from Nat.mod_lt _ (by omega)), h6⟩, ?_⟩
    · show (if LM M = 0 then 0 else (M 0 4 + (M 0 5 + v) / M 0 2) % LM M) ≤ 552
      split
      · omega
      · have := hlt ‹_›; omega
    · show (if LM M = 0 then 0 else (M 0 4 + (M 0 5 + v) / M 0 2) % LM M) < LM M ∨ (if LM M = 0 then 0 else (M 0 4 + (M 0 5 + v) / M 0 2) % LM M) = 0
      by_cases e : LM M = 0
      · rw [if_pos e]; exact Or.inr rfl
      · rw [if_neg e]; exact Or.inl (hlt e)) h
theorem bestT_le (f : Nat → Nat) : bestT f ≤ 4 := bet_le (bet_le (bet_le (bet_le (by decide) (by decide)) (by decide)) (by decide)) (by decide)
theorem i_adoptBestShift {M : St} (h : Inv M) : Inv (o_adoptBestShift M).2 := inv_sh h (bestT_le _)
