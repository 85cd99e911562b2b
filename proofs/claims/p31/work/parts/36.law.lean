set_option maxHeartbeats 4000000 in
set_option maxRecDepth 100000 in
theorem lgE {p : Program} {vl : Launch} {e : Env} {s : State} {m : MethodId} {args : Array Value} {below : List Frame} {meth : Method} {c : Code} {D : va_G} {cI cM : ClassId} {A : Nat → Prop} {ad : Nat → Nat} {Q : State → Prop} {b L : Nat} {xs : Nat → Int32} (C : ZC p s m args meth c code 21 RL wsL_law D cI cM) (hX : XD A 32 ad) (hXs : va_X b L xs s s.heap) (hbl : b < s.heap.size) (hbA : ¬ A b) (hL : L ≤ 260) {M1 M : St} {E : Nat → va_E} {g mm : Nat → Nat} {S B : Nat} (hS : 1 ≤ S ∧ S ≤ 9) (hB9 : 1 ≤ B ∧ B ≤ 120) (hLB : LB S B M1) (hKS : KS M1 M) (hI : Inv M) (hR : RelX cI cM ad M E) (e30 : E (30) = aI cI 63 g) (e31 : E (31) = aI cI 12 mm) {k : Nat} (hgr : GR M1 g) (hmr : MRl M1 mm) (hcol : mm 3 ≤ 3) (hend : ∀ (pc : Nat) (lv : List (Nat × Value)) (E2 : Nat → va_E), decode code pc = .ok (.ireturn, 1) → Z p vl e room_1 s m args below meth c 21 D A 32 ad E2 lv 32 1547 Q pc [.int 1]) : Z p vl e room_1 s m args below meth c 21 D A 32 ad E [(0, .ref (b)), (1, .ref (ad 0)), (2, .ref (ad 30)), (3, .ref (ad 31)), (4, .int (nI (1))), (5, .int (nI (S))), (6, .int (nI (B))), (7, .int (nI (k)))] 32 1547 Q 688 [] := by
  have e0 := RelX_0 hR
  obtain ⟨hW, hG, hSp, hBu, hT, hN, hSh, hDz⟩ := hLB.ls hKS
  have hLm := hI.1.LM_le
  have hok := hmr.ok
  have hm0 : mm 0 = 2 := by rw [← hmr.1]; have z := hKS.n (k := 7) (by decide) (by decide); omega
  have hok0 := hok 0 (by omega)
  have hst1 := st_lt hI (j := 1) (by omega)
  have hm4 : mm 4 ≤ 8 := hok0.2.2 0 (by omega)
  obtain ⟨hga, hgb⟩ := hgr (mm 4) hm4
  have hn4 := num_lt hm4
  have hb4 := (bnd hI).2.2 (num (mm 4)) hn4
  have hr1 : M 1 = M1 1 := hKS.row (by decide)
  have hr2 : M 2 = M1 2 := hKS.row (by decide)
  have hg4 : 1 ≤ g (mm 4) ∧ g (mm 4) ≤ 6 := by rw [← hga, ← hr1]; exact hb4
  have hgd : g (9 + 6 * mm 4) < 256 := by have z := hgb 0 (by decide); rw [Nat.add_zero, Nat.add_zero] at z; rw [← z, ← hr2]; exact hI.1.2.2.2.2.2.2.2.2.2.2.1 _ (by omega)
  have hm3 : mm 3 ≤ 3 := hcol
  refine z_iload C dL_law_688 rfl ?_
  refine z_if_eqN C 700 (by omega) dL_law_690 (by decide) (fun h690 => (by exfalso; omega)) (fun h690 => ?_)
  refine z_aload_n C dL_law_693 rfl ?_
  refine z_callVF C (0) (Cn := RX5) (T := TX5) (N := 12) (k_X5_stripLength vl D cI cM A ad E hX  hI hR) (cwV 0 C.2.2.2.2.1 gL_law_X5_stripLength rfl rfl rfl (by decide +kernel) ⟨(Nat.le_of_ble_eq_true rfl), (Nat.le_of_ble_eq_true rfl)⟩) rfl (by decide) rfl e0 rfl rfl (Nat.le_of_ble_eq_true rfl) ⟨(Nat.le_of_ble_eq_true rfl), (Nat.le_of_ble_eq_true rfl)⟩ dL_law_694 ?_
  refine z_goto C 701 dL_law_697 (by decide) ?_
  refine z_istore C [(0, .ref (b)), (1, .ref (ad 0)), (2, .ref (ad 30)), (3, .ref (ad 31)), (4, .int (nI (1))), (5, .int (nI (S))), (6, .int (nI (B))), (7, .int (nI (LM M)))] dL_law_701 (by decide) ⟨rfl, rfl, rfl, rfl, rfl, rfl, rfl, rfl, rfl, rfl, rfl, rfl, rfl, rfl, rfl, rfl, trivial⟩ ?_
  refine z_iload C dL_law_703 rfl ?_
  refine z_if_eqN C 716 (by omega) dL_law_705 (by decide) (fun h705 => (by exfalso; omega)) (fun h705 => ?_)
  refine z_aload_n C dL_law_708 rfl ?_
  refine z_iconst C (nI (1)) dL_law_709 (by decide) ?_
  refine z_callVF C (0) (Cn := RX5) (T := TX5) (N := 12) (k_X5_messageStart vl D cI cM A ad E hX (nI (1)) hI hR) (cwV 1 C.2.2.2.2.1 gL_law_X5_messageStart rfl rfl rfl (by decide +kernel) ⟨(Nat.le_of_ble_eq_true rfl), (Nat.le_of_ble_eq_true rfl)⟩) rfl (by decide) rfl e0 rfl rfl (Nat.le_of_ble_eq_true rfl) ⟨(Nat.le_of_ble_eq_true rfl), (Nat.le_of_ble_eq_true rfl)⟩ dL_law_710 ?_
  refine z_top (nI (stM M 1)) (ms_op hI (by omega)) ?_
  refine z_goto C 717 dL_law_713 (by decide) ?_
  refine z_istore C [(0, .ref (b)), (1, .ref (ad 0)), (2, .ref (ad 30)), (3, .ref (ad 31)), (4, .int (nI (1))), (5, .int (nI (S))), (6, .int (nI (B))), (7, .int (nI (LM M))), (8, .int (nI (stM M 1)))] dL_law_717 (by decide) ⟨rfl, rfl, rfl, rfl, rfl, rfl, rfl, rfl, rfl, rfl, rfl, rfl, rfl, rfl, rfl, rfl, rfl, rfl, trivial⟩ ?_
  refine z_iload C dL_law_719 rfl ?_
  refine z_if_eqN C 793 (by omega) dL_law_721 (by decide) (fun h721 => (by exfalso; omega)) (fun h721 => ?_)
  refine z_aload_n C dL_law_724 rfl ?_
  refine z_iconst C (nI (0)) dL_law_725 (by decide) ?_
  refine z_iconst C (nI (3)) dL_law_726 (by decide) ?_
  refine z_callVI C (0) (Cn := RX5) (T := TX5) (N := 12) (k_X5_insertMessage vl D cI cM A ad E hX (nI (0)) (nI (3)) hI hR) (cwV 2 C.2.2.2.2.1 gL_law_X5_insertMessage rfl rfl rfl (by decide +kernel) ⟨(Nat.le_of_ble_eq_true rfl), (Nat.le_of_ble_eq_true rfl)⟩) rfl (by decide) rfl e0 rfl rfl (Nat.le_of_ble_eq_true rfl) ⟨(Nat.le_of_ble_eq_true rfl), (Nat.le_of_ble_eq_true rfl)⟩ dL_law_727 (fun r1 Ez2 hp3 => ?_)
  obtain ⟨hr4, hRr5, hf6⟩ := hp3
  have hop11 : o_insertMessage M (nI (0)) (nI (3)) = (nI (LM (insM M 0 3)), settle (insM M 0 3)) := in_op hT (by omega) (by omega) (by decide)
  have hr9 : r1 = nI (LM (insM M 0 3)) := by rw [hop11] at hr4; exact hr4
  have hR10 : RelX cI cM ad (settle (insM M 0 3)) Ez2 := by rw [hop11] at hRr5; exact hRr5
  have hI7 : Inv (settle (insM M 0 3)) := by have q := i_insertMessage hI (nI (0)) (nI (3)); rw [hop11] at q; exact q
  obtain ⟨M6, hM6⟩ : ∃ z_, z_ = (settle (insM M 0 3)) := ⟨_, rfl⟩
  rw [← hM6] at hR10 hI7 hop11
  have e0_8 := RelX_0 hR10
  refine z_top (nI (LM (insM M 0 3))) hr9 ?_
  have f12 : Ez2 (30) = aI cI 63 g := (hf6 (30) (by omega)).trans e30
  have f13 : Ez2 (31) = aI cI 12 mm := (hf6 (31) (by omega)).trans e31
  have hI6 := hI7
  have h67 : M6 0 7 = 3 := by rw [hM6]; show M 0 7 + 1 = 3; omega
  have hw6 : wiM M6 0 = wiM (insM M 0 3) 0 := by rw [hM6]; rfl
  have hs6 : ∀ j, stM M6 j = stM (insM M 0 3) j := fun j => by rw [hM6]; rfl
  have hil := ins_LM hI 3
  have his := ins_st hI (k := 1) (col := 3) (by omega)
  rw [hG] at hil his
  have his2 : stM (insM M 0 3) 2 = wiM (insM M 0 3) 0 + 4 + stM M 1 := his
  have hL6 : LM (insM M 0 3) ≤ 552 := by have q := hI6.1.LM_le; rw [hM6] at q; exact q
  have hLd : LM (delM M6 0) = LM M := by rw [hM6]; exact (ind_ls M 3).LM
  refine z_iload C dL_law_730 rfl ?_
  refine z_aload_n C dL_law_732 rfl ?_
  refine z_iconst C (nI (0)) dL_law_733 (by decide) ?_
  refine z_callVF C (0) (Cn := RX5) (T := TX5) (N := 12) (k_X5_messageWidth vl D cI cM A ad Ez2 hX (nI (0)) hI7 hR10) (cwV 1 C.2.2.2.2.1 gL_law_X5_messageWidth rfl rfl rfl (by decide +kernel) ⟨(Nat.le_of_ble_eq_true rfl), (Nat.le_of_ble_eq_true rfl)⟩) rfl (by decide) rfl e0_8 rfl rfl (Nat.le_of_ble_eq_true rfl) ⟨(Nat.le_of_ble_eq_true rfl), (Nat.le_of_ble_eq_true rfl)⟩ dL_law_734 ?_
  refine z_top (nI (wiM (insM M 0 3) 0)) ((mw_op hI7 (by omega)).trans (by rw [hw6])) ?_
  refine z_iaddN C  dL_law_737 ?_
  refine z_iconst C (nI (4)) dL_law_738 (by decide) ?_
  refine z_iaddN C  dL_law_739 ?_
  refine z_icmp_neN C 793 (by omega) (by omega) dL_law_740 (by decide) (fun h740 => (by exfalso; omega)) (fun h740 => ?_)
  refine z_aload_n C dL_law_743 rfl ?_
  refine z_iconst C (nI (0)) dL_law_744 (by decide) ?_
  refine z_callVF C (0) (Cn := RX5) (T := TX5) (N := 12) (k_X5_messageStart vl D cI cM A ad Ez2 hX (nI (0)) hI7 hR10) (cwV 1 C.2.2.2.2.1 gL_law_X5_messageStart rfl rfl rfl (by decide +kernel) ⟨(Nat.le_of_ble_eq_true rfl), (Nat.le_of_ble_eq_true rfl)⟩) rfl (by decide) rfl e0_8 rfl rfl (Nat.le_of_ble_eq_true rfl) ⟨(Nat.le_of_ble_eq_true rfl), (Nat.le_of_ble_eq_true rfl)⟩ dL_law_745 ?_
  refine z_top (nI (0)) ((ms_op hI7 (by omega)).trans rfl) ?_
  refine z_if_neN C 793 (by omega) dL_law_748 (by decide) (fun h748 => (by exfalso; omega)) (fun h748 => ?_)
  refine z_aload_n C dL_law_751 rfl ?_
  refine z_iconst C (nI (2)) dL_law_752 (by decide) ?_
  refine z_callVF C (0) (Cn := RX5) (T := TX5) (N := 12) (k_X5_messageStart vl D cI cM A ad Ez2 hX (nI (2)) hI7 hR10) (cwV 1 C.2.2.2.2.1 gL_law_X5_messageStart rfl rfl rfl (by decide +kernel) ⟨(Nat.le_of_ble_eq_true rfl), (Nat.le_of_ble_eq_true rfl)⟩) rfl (by decide) rfl e0_8 rfl rfl (Nat.le_of_ble_eq_true rfl) ⟨(Nat.le_of_ble_eq_true rfl), (Nat.le_of_ble_eq_true rfl)⟩ dL_law_753 ?_
  refine z_top (nI (stM (insM M 0 3) 2)) ((ms_op hI7 (by omega)).trans (by rw [hs6])) ?_
  refine z_iload C dL_law_756 rfl ?_
  refine z_aload_n C dL_law_758 rfl ?_
  refine z_iconst C (nI (0)) dL_law_759 (by decide) ?_
  refine z_callVF C (0) (Cn := RX5) (T := TX5) (N := 12) (k_X5_messageWidth vl D cI cM A ad Ez2 hX (nI (0)) hI7 hR10) (cwV 1 C.2.2.2.2.1 gL_law_X5_messageWidth rfl rfl rfl (by decide +kernel) ⟨(Nat.le_of_ble_eq_true rfl), (Nat.le_of_ble_eq_true rfl)⟩) rfl (by decide) rfl e0_8 rfl rfl (Nat.le_of_ble_eq_true rfl) ⟨(Nat.le_of_ble_eq_true rfl), (Nat.le_of_ble_eq_true rfl)⟩ dL_law_760 ?_
  refine z_top (nI (wiM (insM M 0 3) 0)) ((mw_op hI7 (by omega)).trans (by rw [hw6])) ?_
  refine z_iaddN C  dL_law_763 ?_
  refine z_iconst C (nI (4)) dL_law_764 (by decide) ?_
  refine z_iaddN C  dL_law_765 ?_
  refine z_icmp_neN C 793 (by omega) (by omega) dL_law_766 (by decide) (fun h766 => (by exfalso; omega)) (fun h766 => ?_)
  refine z_aload_n C dL_law_769 rfl ?_
  refine z_iconst C (nI (0)) dL_law_770 (by decide) ?_
  refine z_callVI C (0) (Cn := RX5) (T := TX5) (N := 12) (k_X5_removeMessage vl D cI cM A ad Ez2 hX (nI (0)) hI7 hR10) (cwV 1 C.2.2.2.2.1 gL_law_X5_removeMessage rfl rfl rfl (by decide +kernel) ⟨(Nat.le_of_ble_eq_true rfl), (Nat.le_of_ble_eq_true rfl)⟩) rfl (by decide) rfl e0_8 rfl rfl (Nat.le_of_ble_eq_true rfl) ⟨(Nat.le_of_ble_eq_true rfl), (Nat.le_of_ble_eq_true rfl)⟩ dL_law_771 (fun r14 Ez15 hp16 => ?_)
  obtain ⟨hr17, hRr18, hf19⟩ := hp16
  have hop24 : o_removeMessage M6 (nI (0)) = (nI (LM M), settle (delM M6 0)) := (rm_op (by omega) (by omega)).trans (by rw [hLd])
  have hr22 : r14 = nI (LM M) := by rw [hop24] at hr17; exact hr17
  have hR23 : RelX cI cM ad (settle (delM M6 0)) Ez15 := by rw [hop24] at hRr18; exact hRr18
  have hI20 : Inv (settle (delM M6 0)) := by have q := i_removeMessage hI7 (nI (0)); rw [hop24] at q; exact q
  obtain ⟨M7, hM7⟩ : ∃ z_, z_ = (settle (delM M6 0)) := ⟨_, rfl⟩
  rw [← hM7] at hR23 hI20 hop24
  have e0_21 := RelX_0 hR23
  refine z_top (nI (LM M)) hr22 ?_
  have f25 : Ez15 (30) = aI cI 63 g := (hf19 (30) (by omega)).trans f12
  have f26 : Ez15 (31) = aI cI 12 mm := (hf19 (31) (by omega)).trans f13
  have hI7a := hI20
  have hKS7 : KS M M7 := by rw [hM7, hM6]; exact ind_ls M 3
  obtain ⟨hW7, hG7, hSp7, hBu7, hT7, hN7, hSh7, hDz7⟩ := hLB.ls (hKS.trans hKS7)
  have hgr7 : GR M7 g := fun z hz => by rw [hKS7.row (a := 1) (by decide), hKS7.row (a := 2) (by decide), hr1, hr2]; exact hgr z hz
  have h76 := hI7a.1.2.2.2.2.2.2.2.2.2.2.2.2.2.2.2 0 (by omega)
  refine z_iload C dL_law_774 rfl ?_
  refine z_icmp_neN C 793 (by omega) (by omega) dL_law_776 (by decide) (fun h776 => (by exfalso; exact h776 rfl)) (fun h776 => ?_)
  refine z_aload_n C dL_law_779 rfl ?_
  refine z_iconst C (nI (1)) dL_law_780 (by decide) ?_
  refine z_callVF C (0) (Cn := RX5) (T := TX5) (N := 12) (k_X5_messageStart vl D cI cM A ad Ez15 hX (nI (1)) hI20 hR23) (cwV 1 C.2.2.2.2.1 gL_law_X5_messageStart rfl rfl rfl (by decide +kernel) ⟨(Nat.le_of_ble_eq_true rfl), (Nat.le_of_ble_eq_true rfl)⟩) rfl (by decide) rfl e0_21 rfl rfl (Nat.le_of_ble_eq_true rfl) ⟨(Nat.le_of_ble_eq_true rfl), (Nat.le_of_ble_eq_true rfl)⟩ dL_law_781 ?_
  refine z_top (nI (stM M 1)) ((ms_op hI20 (by omega)).trans (by rw [hKS7.sL])) ?_
  refine z_iload C dL_law_784 rfl ?_
  refine z_icmp_neN C 793 (by omega) (by omega) dL_law_786 (by decide) (fun h786 => (by exfalso; exact h786 rfl)) (fun h786 => ?_)
  refine z_iconst C (nI (1)) dL_law_789 (by decide) ?_
  refine z_goto C 794 dL_law_790 (by decide) ?_
  refine z_istore C [(0, .ref (b)), (1, .ref (ad 0)), (2, .ref (ad 30)), (3, .ref (ad 31)), (4, .int (nI (1))), (5, .int (nI (S))), (6, .int (nI (B))), (7, .int (nI (LM M))), (8, .int (nI (stM M 1)))] dL_law_794 (by decide) ⟨rfl, rfl, rfl, rfl, rfl, rfl, rfl, rfl, rfl, rfl, rfl, rfl, rfl, rfl, rfl, rfl, rfl, rfl, trivial⟩ ?_
  refine z_iconst C (nI (1)) dL_law_796 (by decide) ?_
  refine z_aload_n C dL_law_797 rfl ?_
  refine z_bipush C (nI (8)) dL_law_798 (by decide) ?_
  refine z_callSIX C (k_L_cell vl D cI cM A ad Ez15 hX (b := b) (L := L) (xs := xs) (k := 8) hbA (by omega) (by omega)) hXs hbl hbA (va_cwS 2 C.2.2.2.2.1 gL_law_L_cell rfl rfl rfl (by decide +kernel) ⟨(Nat.le_of_ble_eq_true rfl), (Nat.le_of_ble_eq_true rfl)⟩) rfl rfl (Nat.le_of_ble_eq_true rfl) ⟨(Nat.le_of_ble_eq_true rfl), (Nat.le_of_ble_eq_true rfl)⟩ dL_law_800 (fun r27 Ez28 hp29 => ?_)
  obtain ⟨hp29e, y8, hy8, hp29b⟩ := hp29
  rw [hp29e]
  refine z_top (nI y8) hp29b ?_
  refine z_iconst C (nI (3)) dL_law_803 (by decide) ?_
  refine z_iremN C (by omega) (by omega) (by omega) dL_law_804 ?_
  refine z_iaddN C  dL_law_805 ?_
  refine z_istore C [(0, .ref (b)), (1, .ref (ad 0)), (2, .ref (ad 30)), (3, .ref (ad 31)), (4, .int (nI (1))), (5, .int (nI (S))), (6, .int (nI (B))), (7, .int (nI (LM M))), (8, .int (nI (stM M 1))), (9, .int (nI (1 + (y8 % 3))))] dL_law_806 (by decide) ⟨rfl, rfl, rfl, rfl, rfl, rfl, rfl, rfl, rfl, rfl, rfl, rfl, rfl, rfl, rfl, rfl, rfl, rfl, rfl, rfl, trivial⟩ ?_
  refine z_iload C dL_law_808 rfl ?_
  refine z_if_eqN C 838 (by omega) dL_law_810 (by decide) (fun h810 => (by exfalso; omega)) (fun h810 => ?_)
  refine z_aload_n C dL_law_813 rfl ?_
  refine z_iconst C (nI (0)) dL_law_814 (by decide) ?_
  refine z_iload C dL_law_815 rfl ?_
  refine z_callVI C (0) (Cn := RX5) (T := TX5) (N := 12) (k_X5_setColor vl D cI cM A ad Ez15 hX (nI (0)) (nI (1 + (y8 % 3))) hI20 hR23) (cwV 2 C.2.2.2.2.1 gL_law_X5_setColor rfl rfl rfl (by decide +kernel) ⟨(Nat.le_of_ble_eq_true rfl), (Nat.le_of_ble_eq_true rfl)⟩) rfl (by decide) rfl e0_21 rfl rfl (Nat.le_of_ble_eq_true rfl) ⟨(Nat.le_of_ble_eq_true rfl), (Nat.le_of_ble_eq_true rfl)⟩ dL_law_817 (fun r30 Ez31 hp32 => ?_)
  obtain ⟨hr33, hRr34, hf35⟩ := hp32
  have hop40 : o_setColor M7 (nI (0)) (nI (1 + (y8 % 3))) = (nI (M7 6 0), settle (va_up M7 6 (va_up (M7 6) 0 (1 + y8 % 3)))) := sc_op (by omega) (by omega) (by omega)
  have hr38 : r30 = nI (M7 6 0) := by rw [hop40] at hr33; exact hr33
  have hR39 : RelX cI cM ad (settle (va_up M7 6 (va_up (M7 6) 0 (1 + y8 % 3)))) Ez31 := by rw [hop40] at hRr34; exact hRr34
  have hI36 : Inv (settle (va_up M7 6 (va_up (M7 6) 0 (1 + y8 % 3)))) := by have q := i_setColor hI20 (nI (0)) (nI (1 + (y8 % 3))); rw [hop40] at q; exact q
  obtain ⟨M8, hM8⟩ : ∃ z_, z_ = (settle (va_up M7 6 (va_up (M7 6) 0 (1 + y8 % 3)))) := ⟨_, rfl⟩
  rw [← hM8] at hR39 hI36 hop40
  have e0_37 := RelX_0 hR39
  refine z_top (nI (M7 6 0)) hr38 ?_
  have f41 : Ez31 (30) = aI cI 63 g := (hf35 (30) (by omega)).trans f25
  have f42 : Ez31 (31) = aI cI 12 mm := (hf35 (31) (by omega)).trans f26
  have h86 : M8 6 0 = 1 + y8 % 3 := by rw [hM8]; rfl
  have h87 : M8 0 7 = 2 := by rw [hM8]; exact hN7
  have hW8 : M8 0 0 = 16 := by rw [hM8]; exact hW7
  have hBu8 : M8 0 3 = B := by rw [hM8]; exact hBu7
  have hgr8 : GR M8 g := by rw [hM8]; exact hgr7
  have hwi8 : wiM M8 0 = wiM M7 0 := by rw [hM8]; rfl
  refine z_if_leN C 838 (by omega) dL_law_820 (by decide) (fun h820 => (by exfalso; omega)) (fun h820 => ?_)
  refine z_aload_n C dL_law_823 rfl ?_
  refine z_iconst C (nI (0)) dL_law_824 (by decide) ?_
  refine z_iconst C (nI (1)) dL_law_825 (by decide) ?_
  refine z_callVI C (0) (Cn := RX5) (T := TX5) (N := 12) (k_X5_setColor vl D cI cM A ad Ez31 hX (nI (0)) (nI (1)) hI36 hR39) (cwV 2 C.2.2.2.2.1 gL_law_X5_setColor rfl rfl rfl (by decide +kernel) ⟨(Nat.le_of_ble_eq_true rfl), (Nat.le_of_ble_eq_true rfl)⟩) rfl (by decide) rfl e0_37 rfl rfl (Nat.le_of_ble_eq_true rfl) ⟨(Nat.le_of_ble_eq_true rfl), (Nat.le_of_ble_eq_true rfl)⟩ dL_law_826 (fun r43 Ez44 hp45 => ?_)
  obtain ⟨hr46, hRr47, hf48⟩ := hp45
  have hop53 : o_setColor M8 (nI (0)) (nI (1)) = (nI (1 + y8 % 3), settle (va_up M8 6 (va_up (M8 6) 0 1))) := (sc_op (by omega) (by omega) (by decide)).trans (by rw [h86])
  have hr51 : r43 = nI (1 + y8 % 3) := by rw [hop53] at hr46; exact hr46
  have hR52 : RelX cI cM ad (settle (va_up M8 6 (va_up (M8 6) 0 1))) Ez44 := by rw [hop53] at hRr47; exact hRr47
  have hI49 : Inv (settle (va_up M8 6 (va_up (M8 6) 0 1))) := by have q := i_setColor hI36 (nI (0)) (nI (1)); rw [hop53] at q; exact q
  obtain ⟨M9, hM9⟩ : ∃ z_, z_ = (settle (va_up M8 6 (va_up (M8 6) 0 1))) := ⟨_, rfl⟩
  rw [← hM9] at hR52 hI49 hop53
  have e0_50 := RelX_0 hR52
  refine z_top (nI (1 + y8 % 3)) hr51 ?_
  have f54 : Ez44 (30) = aI cI 63 g := (hf48 (30) (by omega)).trans f41
  have f55 : Ez44 (31) = aI cI 12 mm := (hf48 (31) (by omega)).trans f42
  have hW9 : M9 0 0 = 16 := by rw [hM9]; exact hW8
  have hN9 : M9 0 7 = 2 := by rw [hM9]; exact h87
  have hBu9 : M9 0 3 = B := by rw [hM9]; exact hBu8
  have hgr9 : GR M9 g := by rw [hM9]; exact hgr8
  have hwi9 : wiM M9 0 = lwi g mm 0 := by rw [hM9, show wiM (settle (va_up M8 6 (va_up (M8 6) 0 1))) 0 = wiM M8 0 from rfl, hwi8, hKS7.mW, hKS.mW]; exact wi_l hgr hmr (by omega)
  refine z_iload C dL_law_829 rfl ?_
  refine z_icmp_neN C 838 (by omega) (by omega) dL_law_831 (by decide) (fun h831 => (by exfalso; exact h831 rfl)) (fun h831 => ?_)
  refine z_iconst C (nI (1)) dL_law_834 (by decide) ?_
  refine z_goto C 839 dL_law_835 (by decide) ?_
  refine z_istore C [(0, .ref (b)), (1, .ref (ad 0)), (2, .ref (ad 30)), (3, .ref (ad 31)), (4, .int (nI (1))), (5, .int (nI (S))), (6, .int (nI (B))), (7, .int (nI (LM M))), (8, .int (nI (stM M 1))), (9, .int (nI (1 + (y8 % 3))))] dL_law_839 (by decide) ⟨rfl, rfl, rfl, rfl, rfl, rfl, rfl, rfl, rfl, rfl, rfl, rfl, rfl, rfl, rfl, rfl, rfl, rfl, rfl, rfl, trivial⟩ ?_
  refine z_iload C dL_law_841 rfl ?_
  refine z_if_eqN C 910 (by omega) dL_law_843 (by decide) (fun h843 => (by exfalso; omega)) (fun h843 => ?_)
  refine z_aload_n C dL_law_846 rfl ?_
  refine z_bipush C (nI (16)) dL_law_847 (by decide) ?_
  refine z_iconst C (nI (0)) dL_law_849 (by decide) ?_
  refine z_iload C dL_law_850 rfl ?_
  refine z_callSF C (k_L_sound vl D cI cM A ad Ez44 hX (W := 16) (d := 0) (B := B) hI49 hR52 hW9 hBu9 (by decide)) (va_cwS 4 C.2.2.2.2.1 gL_law_L_sound rfl rfl rfl (by decide +kernel) ⟨Nat.le_of_ble_eq_true rfl, Nat.le_of_ble_eq_true rfl⟩) rfl rfl (Nat.le_of_ble_eq_true rfl) ⟨(Nat.le_of_ble_eq_true rfl), (Nat.le_of_ble_eq_true rfl)⟩ dL_law_852 ?_
  refine z_if_eqN C 910 (by omega) dL_law_855 (by decide) (fun h855 => (by exfalso; omega)) (fun h855 => ?_)
  refine z_aload_n C dL_law_858 rfl ?_
  refine z_aload_n C dL_law_859 rfl ?_
  refine z_iconst C (nI (0)) dL_law_860 (by decide) ?_
  refine z_callSF C (k_L_width vl D cI cM A ad Ez44 hX f54 f55 (k := 0) (by decide) hok0.1 hok0.2.1 hok0.2.2) (va_cwS 3 C.2.2.2.2.1 gL_law_L_width rfl rfl rfl (by decide +kernel) ⟨Nat.le_of_ble_eq_true rfl, Nat.le_of_ble_eq_true rfl⟩) rfl rfl (Nat.le_of_ble_eq_true rfl) ⟨(Nat.le_of_ble_eq_true rfl), (Nat.le_of_ble_eq_true rfl)⟩ dL_law_861 ?_
  refine z_aload_n C dL_law_864 rfl ?_
  refine z_iconst C (nI (0)) dL_law_865 (by decide) ?_
  refine z_callVF C (0) (Cn := RX5) (T := TX5) (N := 12) (k_X5_messageWidth vl D cI cM A ad Ez44 hX (nI (0)) hI49 hR52) (cwV 1 C.2.2.2.2.1 gL_law_X5_messageWidth rfl rfl rfl (by decide +kernel) ⟨(Nat.le_of_ble_eq_true rfl), (Nat.le_of_ble_eq_true rfl)⟩) rfl (by decide) rfl e0_50 rfl rfl (Nat.le_of_ble_eq_true rfl) ⟨(Nat.le_of_ble_eq_true rfl), (Nat.le_of_ble_eq_true rfl)⟩ dL_law_866 ?_
  refine z_top (nI (lwi g mm 0)) ((mw_op hI49 (by omega)).trans (by rw [hwi9])) ?_
  refine z_icmp_ne C 910 dL_law_869 (by decide) (fun h869 => (by exfalso; exact h869 rfl)) (fun h869 => ?_)
  refine z_aload_n C dL_law_872 rfl ?_
  refine z_aload_n C dL_law_873 rfl ?_
  refine z_iconst C (nI (0)) dL_law_874 (by decide) ?_
  refine z_callSI C (k_L_strip vl D cI cM A ad Ez44 hX f54 f55 (by omega) (by omega) hok0.1 hok0.2.1 hm4 hg4.1 hg4.2 hgd hm3) (va_cwS 3 C.2.2.2.2.1 gL_law_L_strip rfl rfl rfl (by decide +kernel) ⟨Nat.le_of_ble_eq_true rfl, Nat.le_of_ble_eq_true rfl⟩) rfl rfl (Nat.le_of_ble_eq_true rfl) ⟨(Nat.le_of_ble_eq_true rfl), (Nat.le_of_ble_eq_true rfl)⟩ dL_law_875 (fun r58 Ez56 hp57 => ?_)
  obtain ⟨hEs, vs, hvs, hrs⟩ := hp57
  rw [hEs]
  refine z_top (nI vs) hrs ?_
  refine z_if_ltN C 910 (by omega) dL_law_878 (by decide) ?_
  refine z_sipush C (nI (256)) dL_law_881 (by decide) ?_
  refine z_bipush C (nI (8)) dL_law_884 (by decide) ?_
  refine z_callSF C (k_L_has vl D cI cM A ad Ez44 hX ) (va_cwS 2 C.2.2.2.2.1 gL_law_L_has rfl rfl rfl (by decide +kernel) ⟨Nat.le_of_ble_eq_true rfl, Nat.le_of_ble_eq_true rfl⟩) rfl rfl (Nat.le_of_ble_eq_true rfl) ⟨(Nat.le_of_ble_eq_true rfl), (Nat.le_of_ble_eq_true rfl)⟩ dL_law_886 ?_
  refine z_if_neN C 910 (by omega) dL_law_889 (by decide) (fun h889 => (by exfalso; omega)) (fun h889 => ?_)
  refine z_aload_n C dL_law_892 rfl ?_
  refine z_aload_n C dL_law_893 rfl ?_
  refine z_bipush C (nI (9)) dL_law_894 (by decide) ?_
  refine z_callSIX C (k_L_cell vl D cI cM A ad Ez44 hX (b := b) (L := L) (xs := xs) (k := 9) hbA (by omega) (by omega)) hXs hbl hbA (va_cwS 2 C.2.2.2.2.1 gL_law_L_cell rfl rfl rfl (by decide +kernel) ⟨(Nat.le_of_ble_eq_true rfl), (Nat.le_of_ble_eq_true rfl)⟩) rfl rfl (Nat.le_of_ble_eq_true rfl) ⟨(Nat.le_of_ble_eq_true rfl), (Nat.le_of_ble_eq_true rfl)⟩ dL_law_896 (fun r59 Ez60 hp61 => ?_)
  obtain ⟨hp61e, y9, hy9, hp61b⟩ := hp61
  rw [hp61e]
  refine z_top (nI y9) hp61b ?_
  refine z_aload_n C dL_law_899 rfl ?_
  refine z_callSI C (k_L_glyph vl D cI cM A ad Ez44 hX hI49 hR52 f54 hgr9 hy9) (va_cwS 3 C.2.2.2.2.1 gL_law_L_glyph rfl rfl rfl (by decide +kernel) ⟨Nat.le_of_ble_eq_true rfl, Nat.le_of_ble_eq_true rfl⟩) rfl rfl (Nat.le_of_ble_eq_true rfl) ⟨(Nat.le_of_ble_eq_true rfl), (Nat.le_of_ble_eq_true rfl)⟩ dL_law_900 (fun r64 Ez62 hp63 => ?_)
  refine z_top (nI 1) hp63 ?_
  refine z_if_eqN C 910 (by omega) dL_law_903 (by decide) (fun h903 => (by exfalso; omega)) (fun h903 => ?_)
  refine z_iconst C (nI (1)) dL_law_906 (by decide) ?_
  refine z_goto C 911 dL_law_907 (by decide) ?_
  refine z_top 1 rfl ?_
  exact hend _ _ _ dL_law_911

set_option maxHeartbeats 4000000 in
set_option maxRecDepth 100000 in
theorem lgLoop {p : Program} {vl : Launch} {e : Env} {s : State} {m : MethodId} {args : Array Value} {below : List Frame} {meth : Method} {c : Code} {D : va_G} {cI cM : ClassId} {A : Nat → Prop} {ad : Nat → Nat} {Q : State → Prop} {b L : Nat} {xs : Nat → Int32} (C : ZC p s m args meth c code 21 RL wsL_law D cI cM) (hX : XD A 32 ad) (hXs : va_X b L xs s s.heap) (hbl : b < s.heap.size) (hbA : ¬ A b) (hL : L ≤ 260) {t0 : Nat} (hz : SHZ t0 A s s.heap) {M1 : St} {g mm : Nat → Nat} {S B : Nat} (hS : 1 ≤ S ∧ S ≤ 9) (hB9 : 1 ≤ B ∧ B ≤ 120) (hLB : LB S B M1) (hgr : GR M1 g) (hmr : MRl M1 mm) (hcol : mm 3 ≤ 3) (hend : ∀ (pc : Nat) (lv : List (Nat × Value)) (E2 : Nat → va_E), decode code pc = .ok (.ireturn, 1) → Z p vl e room_1 s m args below meth c 21 D A 32 ad E2 lv 32 1547 Q pc [.int 1]) : ∀ (fuel k : Nat) (M : St) (E : Nat → va_E), k ≤ 5 → KS M1 M → Inv M → RelX cI cM ad M E → E (30) = aI cI 63 g → E (31) = aI cI 12 mm → 5 - k < fuel → Z p vl e room_1 s m args below meth c 21 D A 32 ad E [(0, .ref (b)), (1, .ref (ad 0)), (2, .ref (ad 30)), (3, .ref (ad 31)), (4, .int (nI (1))), (5, .int (nI (S))), (6, .int (nI (B))), (7, .int (nI (k)))] 32 1547 Q 147 [] := by
  intro fuel
  induction fuel with
  | zero => intro k M E _ _ _ _ _ _ h; exact absurd h (Nat.not_lt_zero _)
  | succ fuel ih =>
    intro k M E hk hKS hI hR e30 e31 hfu
    refine z_iload C dL_law_147 rfl ?_
    refine z_iconst C (nI (5)) dL_law_149 (by decide) ?_
    refine z_icmp_geN C 688 (by omega) (by omega) dL_law_150 (by decide) (fun h150 => ?_) (fun h150 => ?_)
    · exact lgE C hX hXs hbl hbA hL hS hB9 hLB hKS hI hR e30 e31 hgr hmr hcol hend
    · refine lgA C hX hXs hbl hbA hL hS hB9 hLB hKS hI hR e30 e31 h150 (fun y M2 E2 hy a1 a2 a3 a4 a5 => ?_)
      refine lgB C hX hXs hbl hbA hL hS hB9 hLB a1 a2 a3 a4 a5 hy (fun r x E3 hr hx b1 b2 b3 b4 => ?_)
      exact lgC C hX hXs hbl hbA hL hz hS hB9 hLB a1 a2 b3 b4 h150 hr hx b1 b2 (fun M4 E4 d1 d2 d3 d4 d5 => ih (k + 1) M4 E4 (by omega) d1 d2 d3 d4 d5 (by omega))
set_option maxHeartbeats 4000000 in
set_option maxRecDepth 100000 in
theorem lgM {p : Program} {vl : Launch} {e : Env} {s : State} {m : MethodId} {args : Array Value} {below : List Frame} {meth : Method} {c : Code} {D : va_G} {cI cM : ClassId} {A : Nat → Prop} {ad : Nat → Nat} {Q : State → Prop} {b L : Nat} {xs : Nat → Int32} (C : ZC p s m args meth c code 21 RL wsL_law D cI cM) (hX : XD A 32 ad) (hXs : va_X b L xs s s.heap) (hbl : b < s.heap.size) (hbA : ¬ A b) (hL : L ≤ 260) {t0 : Nat} (hz : SHZ t0 A s s.heap) {E : Nat → va_E} (hR : RelX cI cM ad M00 E) (e30 : E (30) = aI cI 63 (fun _ => 0)) (e31 : E (31) = aI cI 12 (fun _ => 0)) (hend : ∀ (pc : Nat) (lv : List (Nat × Value)) (E2 : Nat → va_E), decode code pc = .ok (.ireturn, 1) → Z p vl e room_1 s m args below meth c 21 D A 32 ad E2 lv 32 1547 Q pc [.int 1]) : Z p vl e room_1 s m args below meth c 21 D A 32 ad E [(0, .ref (b)), (1, .ref (ad 0)), (2, .ref (ad 30)), (3, .ref (ad 31))] 32 1547 Q 18 [] := by
  have e0 := RelX_0 hR
  refine z_aload_n C dL_law_18 rfl ?_
  refine z_callSV C (k_L_font vl D cI cM A ad E hX e30) (va_cwS 1 C.2.2.2.2.1 gL_law_L_font rfl rfl rfl (by decide +kernel) ⟨Nat.le_of_ble_eq_true rfl, Nat.le_of_ble_eq_true rfl⟩) rfl rfl (Nat.le_of_ble_eq_true rfl) ⟨(Nat.le_of_ble_eq_true rfl), (Nat.le_of_ble_eq_true rfl)⟩ dL_law_19 (fun Ez1 hp2 => ?_)
  obtain ⟨f30, ffr⟩ := hp2
  have hR1 : RelX cI cM ad M00 Ez1 := hR.mv (fun k hk => ffr k (by omega))
  have e01 := RelX_0 hR1
  have f31 : Ez1 (31) = aI cI 12 (fun _ => 0) := (ffr 31 (by decide)).trans e31
  refine z_aload_n C dL_law_22 rfl ?_
  refine z_iconst C (nI (1)) dL_law_23 (by decide) ?_
  refine z_iconst C (nI (4)) dL_law_24 (by decide) ?_
  refine z_iastG C (31) hX (by first | decide | omega) rfl f31 (by omega) (by decide) dL_law_25 (fun Ez4 hE3 => ?_)
  have f5 : Ez4 (30) = aI cI 63 gF := va_up_of hE3 (by first | decide | omega) f30
  have f7 : Ez4 (31) = aI cI 12 (va_up (fun _ => 0) (1) (4)) := va_up_eq hE3
  have hR2 : RelX cI cM ad M00 Ez4 := hR1.mv (fun k hk => va_up_of hE3 (by omega) rfl)
  have e02 := RelX_0 hR2
  obtain ⟨mA, hmA⟩ : ∃ z_, z_ = (va_up (fun _ => 0) (1) (4)) := ⟨_, rfl⟩
  have k31 : Ez4 (31) = aI cI 12 mA := by rw [hmA]; exact f7
  have hMA : MRl M00 mA := by rw [hmA]; exact ⟨rfl, rfl, fun k hk => absurd hk (Nat.not_lt_zero _)⟩
  have hA0 : mA 0 = 0 := by rw [hmA]; rfl
  refine z_aload_n C dL_law_26 rfl ?_
  refine z_bipush C (nI (16)) dL_law_27 (by decide) ?_
  refine z_iconst C (nI (0)) dL_law_29 (by decide) ?_
  refine z_bipush C (nI (60)) dL_law_30 (by decide) ?_
  refine z_callSF C (k_L_sound vl D cI cM A ad Ez4 hX (W := 16) (d := 0) (B := 60) inv_00 hR2 rfl rfl (by decide)) (va_cwS 4 C.2.2.2.2.1 gL_law_L_sound rfl rfl rfl (by decide +kernel) ⟨Nat.le_of_ble_eq_true rfl, Nat.le_of_ble_eq_true rfl⟩) rfl rfl (Nat.le_of_ble_eq_true rfl) ⟨(Nat.le_of_ble_eq_true rfl), (Nat.le_of_ble_eq_true rfl)⟩ dL_law_32 ?_
  refine z_if_eqN C 82 (by omega) dL_law_35 (by decide) (fun h35 => (by exfalso; omega)) (fun h35 => ?_)
  refine z_aload_n C dL_law_38 rfl ?_
  refine z_aload_n C dL_law_39 rfl ?_
  refine z_iconst C (nI (0)) dL_law_40 (by decide) ?_
  refine z_callSIX C (k_L_cell vl D cI cM A ad Ez4 hX (b := b) (L := L) (xs := xs) (k := 0) hbA (by omega) (by omega)) hXs hbl hbA (va_cwS 2 C.2.2.2.2.1 gL_law_L_cell rfl rfl rfl (by decide +kernel) ⟨(Nat.le_of_ble_eq_true rfl), (Nat.le_of_ble_eq_true rfl)⟩) rfl rfl (Nat.le_of_ble_eq_true rfl) ⟨(Nat.le_of_ble_eq_true rfl), (Nat.le_of_ble_eq_true rfl)⟩ dL_law_41 (fun r8 Ez9 hp10 => ?_)
  obtain ⟨hp10e, y0, hy0, hp10b⟩ := hp10
  rw [hp10e]
  refine z_top (nI y0) hp10b ?_
  refine z_aload_n C dL_law_44 rfl ?_
  refine z_aload_n C dL_law_45 rfl ?_
  refine z_callSI C (k_L_adds vl D cI cM A ad Ez4 hX (k0 := 0) inv_00 hR2 f5 k31 gr_00 hMA hA0 (by decide) hy0) (va_cwS 4 C.2.2.2.2.1 gL_law_L_adds rfl rfl rfl (by decide +kernel) ⟨Nat.le_of_ble_eq_true rfl, Nat.le_of_ble_eq_true rfl⟩) rfl rfl (Nat.le_of_ble_eq_true rfl) ⟨(Nat.le_of_ble_eq_true rfl), (Nat.le_of_ble_eq_true rfl)⟩ dL_law_46 (fun r13 Ez11 hp12 => ?_)
  obtain ⟨hra, f30a, Ma, ma, hIa, hRax, f31a, hga, hma, h0a, hAa, hca, h3a⟩ := hp12
  have e0a := RelX_0 hRax
  refine z_top (nI 1) hra ?_
  refine z_if_eqN C 82 (by omega) dL_law_49 (by decide) (fun h49 => (by exfalso; omega)) (fun h49 => ?_)
  refine z_aload_n C dL_law_52 rfl ?_
  refine z_aload_n C dL_law_53 rfl ?_
  refine z_iconst C (nI (1)) dL_law_54 (by decide) ?_
  refine z_callSIX C (k_L_cell vl D cI cM A ad Ez11 hX (b := b) (L := L) (xs := xs) (k := 1) hbA (by omega) (by omega)) hXs hbl hbA (va_cwS 2 C.2.2.2.2.1 gL_law_L_cell rfl rfl rfl (by decide +kernel) ⟨(Nat.le_of_ble_eq_true rfl), (Nat.le_of_ble_eq_true rfl)⟩) rfl rfl (Nat.le_of_ble_eq_true rfl) ⟨(Nat.le_of_ble_eq_true rfl), (Nat.le_of_ble_eq_true rfl)⟩ dL_law_55 (fun r14 Ez15 hp16 => ?_)
  obtain ⟨hp16e, y1, hy1, hp16b⟩ := hp16
  rw [hp16e]
  refine z_top (nI y1) hp16b ?_
  refine z_aload_n C dL_law_58 rfl ?_
  refine z_aload_n C dL_law_59 rfl ?_
  refine z_callSI C (k_L_adds vl D cI cM A ad Ez11 hX (k0 := 1) hIa hRax f30a f31a hga hma h0a (by decide) hy1) (va_cwS 4 C.2.2.2.2.1 gL_law_L_adds rfl rfl rfl (by decide +kernel) ⟨Nat.le_of_ble_eq_true rfl, Nat.le_of_ble_eq_true rfl⟩) rfl rfl (Nat.le_of_ble_eq_true rfl) ⟨(Nat.le_of_ble_eq_true rfl), (Nat.le_of_ble_eq_true rfl)⟩ dL_law_60 (fun r19 Ez17 hp18 => ?_)
  obtain ⟨hrb, f30b, Mb, mb, hIb, hRbx, f31b, hgb, hmb, h0b, hAb, hcb, h3b⟩ := hp18
  have e0b := RelX_0 hRbx
  refine z_top (nI 1) hrb ?_
  have hWb : Mb 0 0 = 16 := (hAb.1 0 (by decide) (by decide) (by decide)).trans ((hAa.1 0 (by decide) (by decide) (by decide)).trans rfl)
  have hGb : Mb 0 1 = 4 := (hAb.1 1 (by decide) (by decide) (by decide)).trans ((hAa.1 1 (by decide) (by decide) (by decide)).trans rfl)
  have hSb : Mb 0 2 = 2 := (hAb.1 2 (by decide) (by decide) (by decide)).trans ((hAa.1 2 (by decide) (by decide) (by decide)).trans rfl)
  have hBb : Mb 0 3 = 60 := (hAb.1 3 (by decide) (by decide) (by decide)).trans ((hAa.1 3 (by decide) (by decide) (by decide)).trans rfl)
  have hHb : Mb 0 8 = 2 := (hAb.1 8 (by decide) (by decide) (by decide)).trans ((hAa.1 8 (by decide) (by decide) (by decide)).trans rfl)
  have hNb : Mb 0 7 = 2 := by rw [hmb.1, h0b]
  have hDb : DZ Mb := fun x hx => by rw [hAb.2.1, hAa.2.1]; rfl
  refine z_if_eqN C 82 (by omega) dL_law_63 (by decide) (fun h63 => (by exfalso; omega)) (fun h63 => ?_)
  refine z_aload_n C dL_law_66 rfl ?_
  refine z_bipush C (nI (16)) dL_law_67 (by decide) ?_
  refine z_iconst C (nI (0)) dL_law_69 (by decide) ?_
  refine z_bipush C (nI (60)) dL_law_70 (by decide) ?_
  refine z_callSF C (k_L_sound vl D cI cM A ad Ez17 hX (W := 16) (d := 0) (B := 60) hIb hRbx hWb hBb (by decide)) (va_cwS 4 C.2.2.2.2.1 gL_law_L_sound rfl rfl rfl (by decide +kernel) ⟨Nat.le_of_ble_eq_true rfl, Nat.le_of_ble_eq_true rfl⟩) rfl rfl (Nat.le_of_ble_eq_true rfl) ⟨(Nat.le_of_ble_eq_true rfl), (Nat.le_of_ble_eq_true rfl)⟩ dL_law_72 ?_
  refine z_if_eqN C 82 (by omega) dL_law_75 (by decide) (fun h75 => (by exfalso; omega)) (fun h75 => ?_)
  refine z_iconst C (nI (1)) dL_law_78 (by decide) ?_
  refine z_goto C 83 dL_law_79 (by decide) ?_
  refine z_istore C [(0, .ref (b)), (1, .ref (ad 0)), (2, .ref (ad 30)), (3, .ref (ad 31)), (4, .int (nI (1)))] dL_law_83 (by decide) ⟨rfl, rfl, rfl, rfl, rfl, rfl, rfl, rfl, rfl, rfl, trivial⟩ ?_
  refine z_iconst C (nI (1)) dL_law_85 (by decide) ?_
  refine z_aload_n C dL_law_86 rfl ?_
  refine z_iconst C (nI (2)) dL_law_87 (by decide) ?_
  refine z_callSIX C (k_L_cell vl D cI cM A ad Ez17 hX (b := b) (L := L) (xs := xs) (k := 2) hbA (by omega) (by omega)) hXs hbl hbA (va_cwS 2 C.2.2.2.2.1 gL_law_L_cell rfl rfl rfl (by decide +kernel) ⟨(Nat.le_of_ble_eq_true rfl), (Nat.le_of_ble_eq_true rfl)⟩) rfl rfl (Nat.le_of_ble_eq_true rfl) ⟨(Nat.le_of_ble_eq_true rfl), (Nat.le_of_ble_eq_true rfl)⟩ dL_law_88 (fun r20 Ez21 hp22 => ?_)
  obtain ⟨hp22e, ya, hya, hp22b⟩ := hp22
  rw [hp22e]
  refine z_top (nI ya) hp22b ?_
  refine z_bipush C (nI (9)) dL_law_91 (by decide) ?_
  refine z_iremN C (by omega) (by omega) (by omega) dL_law_93 ?_
  refine z_iaddN C  dL_law_94 ?_
  obtain ⟨S, hS⟩ : ∃ z_, z_ = 1 + ya % 9 := ⟨_, rfl⟩
  refine z_top (nI S) (by rw [hS]) ?_
  have hS9 : 1 ≤ S ∧ S ≤ 9 := by omega
  refine z_istore C [(0, .ref (b)), (1, .ref (ad 0)), (2, .ref (ad 30)), (3, .ref (ad 31)), (4, .int (nI (1))), (5, .int (nI (S)))] dL_law_95 (by decide) ⟨rfl, rfl, rfl, rfl, rfl, rfl, rfl, rfl, rfl, rfl, rfl, rfl, trivial⟩ ?_
  refine z_iconst C (nI (1)) dL_law_97 (by decide) ?_
  refine z_aload_n C dL_law_98 rfl ?_
  refine z_iconst C (nI (2)) dL_law_99 (by decide) ?_
  refine z_callSIX C (k_L_cell vl D cI cM A ad Ez17 hX (b := b) (L := L) (xs := xs) (k := 2) hbA (by omega) (by omega)) hXs hbl hbA (va_cwS 2 C.2.2.2.2.1 gL_law_L_cell rfl rfl rfl (by decide +kernel) ⟨(Nat.le_of_ble_eq_true rfl), (Nat.le_of_ble_eq_true rfl)⟩) rfl rfl (Nat.le_of_ble_eq_true rfl) ⟨(Nat.le_of_ble_eq_true rfl), (Nat.le_of_ble_eq_true rfl)⟩ dL_law_100 (fun r23 Ez24 hp25 => ?_)
  obtain ⟨hp25e, yb, hyb, hp25b⟩ := hp25
  rw [hp25e]
  refine z_top (nI yb) hp25b ?_
  refine z_iconst C (nI (4)) dL_law_103 (by decide) ?_
  refine z_ishr C dL_law_104  ?_
  refine z_top (nI (yb / 16)) (sh_r hyb 4 (by decide)) ?_
  refine z_bipush C (nI (120)) dL_law_105 (by decide) ?_
  refine z_iremN C (by omega) (by omega) (by omega) dL_law_107 ?_
  refine z_iaddN C  dL_law_108 ?_
  obtain ⟨B, hB⟩ : ∃ z_, z_ = 1 + yb / 16 % 120 := ⟨_, rfl⟩
  refine z_top (nI B) (by rw [hB]) ?_
  have hB9 : 1 ≤ B ∧ B ≤ 120 := by omega
  refine z_istore C [(0, .ref (b)), (1, .ref (ad 0)), (2, .ref (ad 30)), (3, .ref (ad 31)), (4, .int (nI (1))), (5, .int (nI (S))), (6, .int (nI (B)))] dL_law_109 (by decide) ⟨rfl, rfl, rfl, rfl, rfl, rfl, rfl, rfl, rfl, rfl, rfl, rfl, rfl, rfl, trivial⟩ ?_
  refine z_iload C dL_law_111 rfl ?_
  refine z_if_eqN C 141 (by omega) dL_law_113 (by decide) (fun h113 => (by exfalso; omega)) (fun h113 => ?_)
  refine z_aload_n C dL_law_116 rfl ?_
  refine z_iload C dL_law_117 rfl ?_
  refine z_callVI C (0) (Cn := RX5) (T := TX5) (N := 12) (k_X5_setSpeed vl D cI cM A ad Ez17 hX (nI (S)) hIb hRbx) (cwV 1 C.2.2.2.2.1 gL_law_X5_setSpeed rfl rfl rfl (by decide +kernel) ⟨(Nat.le_of_ble_eq_true rfl), (Nat.le_of_ble_eq_true rfl)⟩) rfl (by decide) rfl e0b rfl rfl (Nat.le_of_ble_eq_true rfl) ⟨(Nat.le_of_ble_eq_true rfl), (Nat.le_of_ble_eq_true rfl)⟩ dL_law_119 (fun r26 Ez27 hp28 => ?_)
  obtain ⟨hr29, hRr30, hf31⟩ := hp28
  have hop36 : o_setSpeed Mb (nI (S)) = (nI (2), s0 (s0 Mb 2 S) 5 0) := (wr_y hS9 (by decide)).trans (by rw [hSb])
  have hr34 : r26 = nI (2) := by rw [hop36] at hr29; exact hr29
  have hR35 : RelX cI cM ad (s0 (s0 Mb 2 S) 5 0) Ez27 := by rw [hop36] at hRr30; exact hRr30
  have hI32 : Inv (s0 (s0 Mb 2 S) 5 0) := by have q := i_setSpeed hIb (nI (S)); rw [hop36] at q; exact q
  obtain ⟨Mc, hMc⟩ : ∃ z_, z_ = (s0 (s0 Mb 2 S) 5 0) := ⟨_, rfl⟩
  rw [← hMc] at hR35 hI32 hop36
  have e0_33 := RelX_0 hR35
  refine z_top (nI (2)) hr34 ?_
  have f37 : Ez27 (30) = aI cI 63 gF := (hf31 (30) (by omega)).trans f30b
  have f38 : Ez27 (31) = aI cI 12 mb := (hf31 (31) (by omega)).trans f31b
  have hBc : Mc 0 3 = 60 := by rw [hMc]; exact hBb
  refine z_iconst C (nI (2)) dL_law_122 (by decide) ?_
  refine z_icmp_neN C 141 (by omega) (by omega) dL_law_123 (by decide) (fun h123 => (by exfalso; exact h123 rfl)) (fun h123 => ?_)
  refine z_aload_n C dL_law_126 rfl ?_
  refine z_iload C dL_law_127 rfl ?_
  refine z_callVI C (0) (Cn := RX5) (T := TX5) (N := 12) (k_X5_setBudget vl D cI cM A ad Ez27 hX (nI (B)) hI32 hR35) (cwV 1 C.2.2.2.2.1 gL_law_X5_setBudget rfl rfl rfl (by decide +kernel) ⟨(Nat.le_of_ble_eq_true rfl), (Nat.le_of_ble_eq_true rfl)⟩) rfl (by decide) rfl e0_33 rfl rfl (Nat.le_of_ble_eq_true rfl) ⟨(Nat.le_of_ble_eq_true rfl), (Nat.le_of_ble_eq_true rfl)⟩ dL_law_129 (fun r39 Ez40 hp41 => ?_)
  obtain ⟨hr42, hRr43, hf44⟩ := hp41
  have hop49 : o_setBudget Mc (nI (B)) = (nI (60), s0 Mc 3 B) := (wr_y (by omega) (by decide)).trans (by rw [hBc])
  have hr47 : r39 = nI (60) := by rw [hop49] at hr42; exact hr42
  have hR48 : RelX cI cM ad (s0 Mc 3 B) Ez40 := by rw [hop49] at hRr43; exact hRr43
  have hI45 : Inv (s0 Mc 3 B) := by have q := i_setBudget hI32 (nI (B)); rw [hop49] at q; exact q
  obtain ⟨Md, hMd⟩ : ∃ z_, z_ = (s0 Mc 3 B) := ⟨_, rfl⟩
  rw [← hMd] at hR48 hI45 hop49
  have e0_46 := RelX_0 hR48
  refine z_top (nI (60)) hr47 ?_
  have f50 : Ez40 (30) = aI cI 63 gF := (hf44 (30) (by omega)).trans f37
  have f51 : Ez40 (31) = aI cI 12 mb := (hf44 (31) (by omega)).trans f38
  refine z_bipush C (nI (60)) dL_law_132 (by decide) ?_
  refine z_icmp_neN C 141 (by omega) (by omega) dL_law_134 (by decide) (fun h134 => (by exfalso; exact h134 rfl)) (fun h134 => ?_)
  refine z_iconst C (nI (1)) dL_law_137 (by decide) ?_
  refine z_goto C 142 dL_law_138 (by decide) ?_
  refine z_istore C [(0, .ref (b)), (1, .ref (ad 0)), (2, .ref (ad 30)), (3, .ref (ad 31)), (4, .int (nI (1))), (5, .int (nI (S))), (6, .int (nI (B)))] dL_law_142 (by decide) ⟨rfl, rfl, rfl, rfl, rfl, rfl, rfl, rfl, rfl, rfl, rfl, rfl, rfl, rfl, trivial⟩ ?_
  refine z_iconst C (nI (0)) dL_law_144 (by decide) ?_
  refine z_istore C [(0, .ref (b)), (1, .ref (ad 0)), (2, .ref (ad 30)), (3, .ref (ad 31)), (4, .int (nI (1))), (5, .int (nI (S))), (6, .int (nI (B))), (7, .int (nI (0)))] dL_law_145 (by decide) ⟨rfl, rfl, rfl, rfl, rfl, rfl, rfl, rfl, rfl, rfl, rfl, rfl, rfl, rfl, rfl, rfl, trivial⟩ ?_
  refine z_lv [(0, .ref (b)), (1, .ref (ad 0)), (2, .ref (ad 30)), (3, .ref (ad 31)), (4, .int (nI (1))), (5, .int (nI (S))), (6, .int (nI (B))), (7, .int (nI (0)))] ⟨rfl, rfl, rfl, rfl, rfl, rfl, rfl, rfl, rfl, rfl, rfl, rfl, rfl, rfl, rfl, rfl, trivial⟩ ?_
  have hLBd : LB S B Md := by rw [hMd, hMc]; exact ⟨hWb, hGb, rfl, rfl, hAb.2.2, hNb, hHb, hDb⟩
  have hgd : GR Md gF := by rw [hMd, hMc]; exact hgb
  have hmd : MRl Md mb := by rw [hMd, hMc]; exact hmb
  have hcol : mb 3 ≤ 3 := by rw [hcb 3 (by decide) (by decide)]; exact h3a
  exact lgLoop C hX hXs hbl hbA hL hz hS9 hB9 hLBd hgd hmd hcol hend 6 0 Md Ez40 (Nat.zero_le _) (KS.rfl' Md) hI45 hR48 f50 f51 (by decide)

