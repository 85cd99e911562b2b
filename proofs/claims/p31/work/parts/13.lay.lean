theorem MV.mono {l : Launch} {y : MethodName} {ws : List Cond} {rm : Room} {D : va_G} {cI cM : ClassId} {A : Nat → Prop} {n : Nat} {ad : Nat → Nat} {E : Nat → va_E} {As : List Value} {post post' : (Nat → va_E) → Prop} (h : MV l y ws rm D cI cM A n ad E As post) (hp : ∀ E1, post E1 → post' E1) : MV l y ws rm D cI cM A n ad E As post' :=
  by
  unfold MV Met at h ⊢
  exact MetFree.mono h (fun _ _ q => q) (fun _ _ _ _ _ q => q) (fun a s o t _ q => ⟨⟨by obtain ⟨u, h1, h2, h3⟩ := q.1.1; exact ⟨u, h1, hp u h2, h3⟩, q.1.2⟩, q.2⟩)
theorem MI.mono {l : Launch} {y : MethodName} {ws : List Cond} {rm : Room} {D : va_G} {cI cM : ClassId} {A : Nat → Prop} {n : Nat} {ad : Nat → Nat} {E : Nat → va_E} {As : List Value} {post post' : Int32 → (Nat → va_E) → Prop} (h : MI l y ws rm D cI cM A n ad E As post) (hp : ∀ r E1, post r E1 → post' r E1) : MI l y ws rm D cI cM A n ad E As post' :=
  by
  unfold MI Met at h ⊢
  exact MetFree.mono h (fun _ _ q => q) (fun _ _ _ _ _ q => q) (fun a s o t _ q => ⟨⟨by obtain ⟨r, u, h1, h2, h3⟩ := q.1.1; exact ⟨r, u, h1, hp r u h2, h3⟩, q.1.2⟩, q.2⟩)
theorem RelX_of_lay {cI cM : ClassId} {ad : Nat → Nat} {M : St} {pm : Nat → Nat} {E E1 : Nat → va_E} (hY : RelY cI cM ad M pm E) (h0 : E1 0 = dispE ad M (if M 0 4 < LM M then M 0 4 else 0)) (hs : StripAt cI ad E1 (stripM M)) (hm : MsgX cI ad M pm E1) (hf : ∀ k : Nat, ((1 ≤ k ∧ k < 26 ∨ 28 < k) ∧ ∀ q : Nat, q < M 0 7 → k ≠ 8 + 3 * pm q) → E1 k = E k) : RelX cI cM ad (settle M) E1 ∧ ∀ k : Nat, 30 ≤ k → E1 k = E k := by
  obtain ⟨e0, e1, e2, e3, b4, b5, l6, l7, hpm, hn, hy, e29⟩ := hY
  have hq : ∀ k : Nat, (1 ≤ k ∧ k < 8 ∨ 28 < k) → E1 k = E k := fun k hk => hf k ⟨by omega, fun q hq => by have := hpm.1 q (by omega); omega⟩
  refine ⟨⟨pm, ⟨h0, (hq _ (by omega)).trans e1, (hq _ (by omega)).trans e2, (hq _ (by omega)).trans e3, (hq _ (by omega)).trans b4, (hq _ (by omega)).trans b5, (hq _ (by omega)).trans l6, (hq _ (by omega)).trans l7, hpm, hn, fun i hi => ?_, (hq _ (by omega)).trans e29⟩, hm, hs⟩, fun k hk => hq k (by omega)⟩
  by_cases hin : i < M 0 7
  · obtain ⟨g, hM, hg⟩ := hm i hin
    exact ⟨_, _, _, _, g, hM, fun _ => ⟨rfl, rfl, hg⟩⟩
  · obtain ⟨sz, co, st, wi, g, hM, hg⟩ := hy i hi
    have hp := hpm.1 i hi
    have hne : ∀ q : Nat, q < M 0 7 → pm i ≠ pm q := fun q hq e => by have := hpm.2 i q hi (by omega) e; omega
    exact ⟨sz, co, st, wi, g, hM.mv (hf _ ⟨by omega, fun q hq => by have := hne q hq; omega⟩) (hf _ ⟨by omega, fun q hq => by omega⟩) (hf _ ⟨by omega, fun q hq => by omega⟩), hg⟩
theorem k_lay (vl : Launch) (D : va_G) (cI cM : ClassId) (A : Nat → Prop) (ad : Nat → Nat) (E : Nat → va_E) (hX : XD A 32 ad) {M : St} {pm : Nat → Nat} {l0 : List (Nat × Nat)} (hY : RelY cI cM ad M pm E) (hI : Inv0 M) (hs : StripAt cI ad E l0) : MV vl yX5_layOutStrip wsX5_layOutStrip { frames := 4, cells := 0, slots := 0, locals := 94 } D cI cM A 32 ad E [.ref (ad 0)] (fun E1 => RelX cI cM ad (settle M) E1 ∧ ∀ k : Nat, 30 ≤ k → E1 k = E k) := by
  obtain ⟨e0, e1, e2, e3, b4, b5, l6, l7, hpm, hn, hy, e29⟩ := id hY
  refine MV.mono (k_X5_layOutStrip vl D cI cM A ad E hX (t := M 0 8) (le := ltr (M 7)) (sz := M 5) (co := M 6) e0 hs e1 e2 e3 l6 l7 hn hI.2.1 hpm hI.ws hI.msz (fun k hk => ?_) (by have := hI.2.2.2.2.1; omega)) (fun E1 h => RelX_of_lay hY h.1 h.2.1 h.2.2.1 h.2.2.2)
  obtain ⟨sz, co, st, wi, g, hM, hg⟩ := hy k (by omega)
  obtain ⟨rfl, rfl, h3⟩ := hg hk
  exact ⟨st, wi, g, hM, h3⟩
/-- the six message objects are the six -/
theorem RelY_ob {cI cM : ClassId} {ad : Nat → Nat} {M : St} {pm : Nat → Nat} {E : Nat → va_E} (hY : RelY cI cM ad M pm E) : ∀ q : Nat, q < 6 → ∃ vs : List Value, E (8 + 3 * q) = .inr (1, vs) := by
  intro q hq
  obtain ⟨e0, e1, e2, e3, b4, b5, l6, l7, hpm, hn, hy, e29⟩ := hY
  obtain ⟨i, hi, rfl⟩ := fb_onto (f := pm) hpm.1 (fun i j hij hj e => by have := hpm.2 i j (by omega) hj e; omega) hq
  obtain ⟨sz, co, st, wi, g, hM, hg⟩ := hy i hi
  exact ⟨_, hM.1⟩
