set_option maxHeartbeats 4000000 in
set_option maxRecDepth 100000 in
theorem law_loop {p : Program} {vl : Launch} {e : Env} {s : State} {m : MethodId} {args : Array Value} {below : List Frame} {meth : Method} {c : Code} {D : va_G} {cI cM : ClassId} {A : Nat → Prop} {ad : Nat → Nat} {Q : State → Prop} {b L : Nat} {xs : Nat → Int32} {t0 : Nat} (C : ZC p s m args meth c code 4 RL wsL_law D cI cM) (hX : XD A 40 ad) (hXs : va_X b L xs s s.heap) (hbl : b < s.heap.size) (hbA : ¬ A b) (hL : L ≤ 2048) (hz : SHZ t0 A s s.heap) (hend : ∀ (pc : Nat) (lv : List (Nat × Value)) (E2 : Nat → va_E), decode code pc = .ok (.ireturn, 1) → Z p vl e room_1 s m args below meth c 4 D A 40 ad E2 lv 40 3008 Q pc [.int 1]) : ∀ (fuel i : Nat) (M : St) (E : Nat → va_E), i ≤ L + 3 → Inv M → RelX cI cM ad M E → RelM cI ad M E → L + 4 - i < fuel → Z p vl e room_1 s m args below meth c 4 D A 40 ad E [(0, .ref b), (1, .ref (ad 0)), (2, .ref (ad 30)), (3, .int (nI i))] 40 3008 Q 18 [] := by
  intro fuel
  induction fuel with
  | zero => intro i M E _ _ _ _ h; exact absurd h (Nat.not_lt_zero _)
  | succ fuel ih =>
    intro i M E hi0 hI hR hM hfu
    refine z_iload_n C dL_law_18 rfl ?_
    refine z_aload_n C dL_law_19 rfl ?_
    refine z_slen C hXs hbl hbA dL_law_20 ?_
    refine z_iconst C (nI 4) dL_law_21 (by decide) ?_
    refine z_isub C dL_law_22 ?_
    by_cases h4 : i + 4 ≤ L
    · refine z_icmp_gt C 826 dL_law_23 (by decide) (fun h => absurd h (lg_1 h4 hL)) (fun _ => ?_)
      have next : ∀ (M2 : St) (E2 : Nat → va_E), Inv M2 → RelX cI cM ad M2 E2 → RelM cI ad M2 E2 → Z p vl e room_1 s m args below meth c 4 D A 40 ad E2 [(0, .ref b), (1, .ref (ad 0)), (2, .ref (ad 30)), (3, .int (nI i))] 40 3008 Q 820 [] := by
        intro M2 E2 hI2 hR2 hM2
        refine z_iincN (j := 4) C [(0, .ref b), (1, .ref (ad 0)), (2, .ref (ad 30)), (3, .int (nI (i + 4)))] dL_law_820 rfl (by decide) ⟨rfl, rfl, rfl, rfl, rfl, rfl, rfl, rfl, trivial⟩ ?_
        refine z_goto C 18 dL_law_823 (by decide) ?_
        exact ih (i + 4) M2 E2 (by omega) hI2 hR2 hM2 (by omega)
      refine z_aload_n C dL_law_26 rfl ?_
      refine z_iload_n C dL_law_27 rfl ?_
      refine z_sld C hXs hbl hbA (by omega) (by omega) dL_law_28 ?_
      refine z_bipush C (nI 31) dL_law_29 (by decide) ?_
      refine z_iand C dL_law_31 ?_
      obtain ⟨k, hk, hx⟩ := and31 (xs i)
      refine z_top (nI k) hx ?_
      by_cases h28 : k < 28
      · rcases (show k = 0 ∨ k = 1 ∨ k = 2 ∨ k = 3 ∨ k = 4 ∨ k = 5 ∨ k = 6 ∨ k = 7 ∨ k = 8 ∨ k = 9 ∨ k = 10 ∨ k = 11 ∨ k = 12 ∨ k = 13 ∨ k = 14 ∨ k = 15 ∨ k = 16 ∨ k = 17 ∨ k = 18 ∨ k = 19 ∨ k = 20 ∨ k = 21 ∨ k = 22 ∨ k = 23 ∨ k = 24 ∨ k = 25 ∨ k = 26 ∨ k = 27 by omega) with rfl | rfl | rfl | rfl | rfl | rfl | rfl | rfl | rfl | rfl | rfl | rfl | rfl | rfl | rfl | rfl | rfl | rfl | rfl | rfl | rfl | rfl | rfl | rfl | rfl | rfl | rfl | rfl
        · refine z_tabIn C 128 160 dL_law_32 (by decide) (by decide) (by decide) (by decide) ?_
          exact lc_0 C hX hXs hbl hbA hL h4 hI hR hM next
        · refine z_tabIn C 161 193 dL_law_32 (by decide) (by decide) (by decide) (by decide) ?_
          exact lc_1 C hX hXs hbl hbA hL h4 hI hR hM next
        · refine z_tabIn C 204 236 dL_law_32 (by decide) (by decide) (by decide) (by decide) ?_
          exact lc_2 C hX hXs hbl hbA hL h4 hI hR hM next
        · refine z_tabIn C 237 269 dL_law_32 (by decide) (by decide) (by decide) (by decide) ?_
          exact lc_3 C hX hXs hbl hbA hL h4 hI hR hM next
        · refine z_tabIn C 260 292 dL_law_32 (by decide) (by decide) (by decide) (by decide) ?_
          exact lc_4 C hX hXs hbl hbA hL h4 hI hR hM next
        · refine z_tabIn C 273 305 dL_law_32 (by decide) (by decide) (by decide) (by decide) ?_
          exact lc_5 C hX hXs hbl hbA hL h4 hI hR hM next
        · refine z_tabIn C 306 338 dL_law_32 (by decide) (by decide) (by decide) (by decide) ?_
          exact lc_6 C hX hXs hbl hbA hL h4 hI hR hM next
        · refine z_tabIn C 329 361 dL_law_32 (by decide) (by decide) (by decide) (by decide) ?_
          exact lc_7 C hX hXs hbl hbA hL h4 hI hR hM next
        · refine z_tabIn C 362 394 dL_law_32 (by decide) (by decide) (by decide) (by decide) ?_
          exact lc_8 C hX hXs hbl hbA hL h4 hI hR hM next
        · refine z_tabIn C 385 417 dL_law_32 (by decide) (by decide) (by decide) (by decide) ?_
          exact lc_9 C hX hXs hbl hbA hL h4 hI hR hM next
        · refine z_tabIn C 408 440 dL_law_32 (by decide) (by decide) (by decide) (by decide) ?_
          exact lc_10 C hX hXs hbl hbA hL h4 hI hR hM next
        · refine z_tabIn C 431 463 dL_law_32 (by decide) (by decide) (by decide) (by decide) ?_
          exact lc_11 C hX hXs hbl hbA hL h4 hI hR hM next
        · refine z_tabIn C 454 486 dL_law_32 (by decide) (by decide) (by decide) (by decide) ?_
          exact lc_12 C hX hXs hbl hbA hL h4 hI hR hM next
        · refine z_tabIn C 477 509 dL_law_32 (by decide) (by decide) (by decide) (by decide) ?_
          exact lc_13 C hX hXs hbl hbA hL h4 hI hR hM next
        · refine z_tabIn C 500 532 dL_law_32 (by decide) (by decide) (by decide) (by decide) ?_
          exact lc_14 C hX hXs hbl hbA hL h4 hI hR hM next
        · refine z_tabIn C 523 555 dL_law_32 (by decide) (by decide) (by decide) (by decide) ?_
          exact lc_15 C hX hXs hbl hbA hL h4 hI hR hM next
        · refine z_tabIn C 582 614 dL_law_32 (by decide) (by decide) (by decide) (by decide) ?_
          exact lc_16 C hX hXs hbl hbA hL h4 hI hR hM next
        · refine z_tabIn C 605 637 dL_law_32 (by decide) (by decide) (by decide) (by decide) ?_
          exact lc_17 C hX hXs hbl hbA hL h4 hI hR hM next
        · refine z_tabIn C 618 650 dL_law_32 (by decide) (by decide) (by decide) (by decide) ?_
          exact lc_18 C hX hXs hbl hbA hL h4 hI hR hM next
        · refine z_tabIn C 631 663 dL_law_32 (by decide) (by decide) (by decide) (by decide) ?_
          exact lc_19 C hX hXs hbl hbA hL h4 hI hR hM next
        · refine z_tabIn C 644 676 dL_law_32 (by decide) (by decide) (by decide) (by decide) ?_
          exact lc_20 C hX hXs hbl hbA hL h4 hI hR hM next
        · refine z_tabIn C 667 699 dL_law_32 (by decide) (by decide) (by decide) (by decide) ?_
          exact lc_21 C hX hXs hbl hbA hL h4 hI hR hM next
        · refine z_tabIn C 700 732 dL_law_32 (by decide) (by decide) (by decide) (by decide) ?_
          exact lc_22 C hX hXs hbl hbA hL h4 hI hR hM next
        · refine z_tabIn C 713 745 dL_law_32 (by decide) (by decide) (by decide) (by decide) ?_
          exact lc_23 C hX hXs hbl hbA hL h4 hI hR hM next
        · refine z_tabIn C 726 758 dL_law_32 (by decide) (by decide) (by decide) (by decide) ?_
          exact lc_24 C hX hXs hbl hbA hL h4 hI hR hM next
        · refine z_tabIn C 739 771 dL_law_32 (by decide) (by decide) (by decide) (by decide) ?_
          exact lc_25 C hX hXs hbl hbA hL h4 hI hR hM next
        · refine z_tabIn C 752 784 dL_law_32 (by decide) (by decide) (by decide) (by decide) ?_
          exact lc_26 C hX hXs hbl hbA hL h4 hI hR hM next
        · refine z_tabIn C 775 807 dL_law_32 (by decide) (by decide) (by decide) (by decide) ?_
          exact lc_27 C hX hXs hbl hbA hL h4 hz hI hR hM next
      · refine z_tabOut C 820 dL_law_32 (Or.inr (tab28 (by omega) hk)) (by decide) ?_
        exact next M E hI hR hM
    · refine z_icmp_gt C 826 dL_law_23 (by decide) (fun _ => ?_) (fun h => absurd (lg_2 h4 hi0 hL) h)
      refine z_iconst C 1 dL_law_826 (by decide) ?_
      exact hend _ _ _ dL_law_827
theorem relx_ad {cI cM : ClassId} {ad ad1 : Nat → Nat} {M : St} {pm : Nat → Nat} {E E1 : Nat → va_E} (hY : RelY cI cM ad M pm E) (hx : MsgX cI ad M pm E) (hs : StripAt cI ad E (stripM M)) (ha : ∀ k, k < 30 → ad1 k = ad k) (hE : ∀ k, k < 30 → k ≠ 7 → E1 k = E k) (h7 : E1 7 = .inl (cM, 6, .inr (.inr (.inr (.inr (sf ad1 pm)))))) : RelX cI cM ad1 M E1 := by
  obtain ⟨e0, e1, e2, e3, b4, b5, l6, l7, hpm, hn, hy, e29⟩ := hY
  obtain ⟨sd, sc, s26, s27, s28, hsp⟩ := hs
  have hmsg : ∀ (q : Nat) (sz co st wi : Int32) (g : Nat → Nat), q < 6 → Msg cI ad E q sz co st wi g → Msg cI ad1 E1 q sz co st wi g := fun q sz co st wi g hq h => by
    obtain ⟨a, b, c⟩ := h
    exact ⟨by rw [hE _ (by omega) (by omega), ha _ (by omega)]; exact a, by rw [hE _ (by omega) (by omega), ha _ (by omega)]; exact b, (hE _ (by omega) (by omega)).trans c⟩
  refine ⟨pm, ⟨?_, ?_, (hE _ (by omega) (by omega)).trans e2, (hE _ (by omega) (by omega)).trans e3, ?_, (hE _ (by omega) (by omega)).trans b5, ?_, h7, hpm, hn, fun i hi => ?_, (hE _ (by omega) (by omega)).trans e29⟩, fun i hi => ?_, ⟨sd, sc, ?_, (hE _ (by omega) (by omega)).trans s27, (hE _ (by omega) (by omega)).trans s28, hsp⟩⟩
  · rw [hE 0 (by omega) (by omega), e0]
    unfold dispE
    rw [ha 1 (by omega), ha 4 (by omega), ha 6 (by omega), ha 26 (by omega), ha 29 (by omega)]
  · rw [hE 1 (by omega) (by omega), ha 2 (by omega), ha 3 (by omega)]; exact e1
  · rw [hE 4 (by omega) (by omega), ha 5 (by omega)]; exact b4
  · rw [hE 6 (by omega) (by omega), ha 7 (by omega)]; exact l6
  · obtain ⟨sz, co, st, wi, g, h1, h2⟩ := hy i hi
    exact ⟨sz, co, st, wi, g, hmsg _ _ _ _ _ _ (hpm.1 i hi) h1, h2⟩
  · obtain ⟨g, h1, h2⟩ := hx i hi
    exact ⟨g, hmsg _ _ _ _ _ _ (hpm.1 i (by omega)) h1, h2⟩
  · rw [hE 26 (by omega) (by omega), ha 27 (by omega), ha 28 (by omega)]; exact s26
theorem relm_00 {cI : ClassId} {ad : Nat → Nat} {E : Nat → va_E} (h : MB6 cI (fun j => ad (30 + j)) (fun j => E (30 + j))) : RelM cI ad M00 E := by
  obtain ⟨a0, a1, a2, a3, a4, a5, a6, a7, a8, a9⟩ := h
  refine ⟨dq 26 0, fun _ => 0, fun _ => 0, fun _ => 0, 0, a0, a1, a2, a3, a4, a5, a6, a7, ⟨_, _, a8, a9, SP_nil⟩, by decide, fun c hc j hj => ?_, fun i hi => absurd hi (Nat.not_lt_zero _)⟩
  show dq 26 0 (6 * c + j) = dq 26 0 (c * 6 + j)
  rw [Nat.mul_comm]
