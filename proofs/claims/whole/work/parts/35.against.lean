/-! ===== against, restless, move, mend ===== -/
theorem ss_C.cg {h h' : mm_H} {s : ss_T} (hC : ss_C h s) (e0 : h' 0 = h 0) (e1 : h' 1 = h 1) (e2 : h' 2 = h 2) (e3 : h' 3 = h 3) (e6 : h' 6 = h 6) (e10 : h' 10 = h 10) (e15 : h' 15 = h 15) : ss_C h' s := by
  obtain ⟨n, A, mq, pf, ds, sc, tr, lk⟩ := s
  obtain ⟨c1, c2, c3, c4, c5, c6, c7⟩ := hC
  refine ⟨c1.cg e1 e2 e3, ?_, ⟨?_, c3.2⟩, ?_, ?_, ?_, ?_⟩
  · rw [e15]; exact c2
  · rw [e10]; exact c3.1
  · rw [e0]; exact c4
  · rw [e0]; exact c5
  · rw [e0]; exact c6
  · rw [e6]; exact c7
theorem ss_M.cg {h h' : mm_H} {s : ss_T} (hM : ss_M h s) (e0 : h' 16 = h 16) (e1 : h' 17 = h 17) (e2 : h' 18 = h 18) (e3 : h' 19 = h 19) (e6 : h' 20 = h 20) : ss_M h' s := by
  obtain ⟨n, A, mq, pf, ds, sc, tr, lk⟩ := s
  obtain ⟨c1, c2, c3, c4, c5, c6⟩ := hM
  refine ⟨c1.cg e0 e1 e2, ?_, ⟨?_, c3.2⟩, ?_, ?_, ?_⟩
  · rw [e3]; exact c2
  · rw [e6]; exact c3.1
  · rw [e0]; exact c4
  · rw [e0]; exact c5
  · rw [e0]; exact c6
def aa_no (n : Nat) (A mk : Nat → Nat) (sc : Nat) (f : Nat → Nat) (p : Nat) : Bool := !(jj_acc n A mk sc f p)
set_option maxRecDepth 20000 in
theorem u_against_loop {l : Launch} {d : Nat} (hd : 2 < d) {E : mm_X} {h : mm_H} {n : Nat} {A mk f : Nat → Nat} (hN : cc_N h n A mk) (hok : jj_ok n A) {sc : Nat} (hsc : sc < 5) (h5 : h 0 5 = nI sc) (hf : ∀ q, q < 8 → h 15 q = nI (f q)) (hf2 : ∀ q, f q < 2 ^ 30) : ∀ (k p : Nat), p + k = n → mm_At l d M5_against E (fun r h' => r = some (.int (nI (pp_msk (aa_no n A mk sc f) n))) ∧ h' = h) 4 [some (.ref 0), some (.int (nI (pp_msk (aa_no n A mk sc f) p))), some (.int (nI p))] [] h := by
  have n8 := hN.2.1
  have hn := hN.2.2.1
  intro k
  induction k with
  | zero =>
    intro p hp
    have e : p = n := by omega
    subst e
    refine mm_rn_ok [] _ (S5_against l d _ _) 1000 _ _ _ _ ?_
    simp only [G5_against_0, G5_against_1, G5_against_2, G5_against_3, G5_against_4, G5_against_5, G5_against_6, G5_against_9, G5_against_12, G5_against_15, G5_against_16, G5_against_19, G5_against_20, G5_against_23, G5_against_24, G5_against_27, G5_against_28, G5_against_31, G5_against_34, G5_against_35, G5_against_36, G5_against_37, G5_against_38, G5_against_39, G5_against_40, G5_against_43, G5_against_46, G5_against_47, N5_against, ↓mm_kc_ap, ↓mm_cut, mm_en, mm_nth, mm_put, mm_sto, mm_stoL, mm_ag, mm_dr, mm_sw, Nat.reduceSub, List.replicate, Option.toList, List.cons_append, List.nil_append, sq_int, sq_lng, sq_iload, sq_lload, sq_aload, sq_istore, sq_lstore, sq_astore, sq_iinc, sq_iadd, sq_isub, sq_imul, sq_iand, sq_ior, sq_ixor, sq_ishl, sq_ishr, sq_iushr, sq_ladd, sq_lsub, sq_lmul, sq_idiv, sq_irem, sq_ldiv, sq_lrem, sq_i2l, sq_lcmp, sq_dupI, sq_dupR, sq_pop, sq_dup2, sq_goto, sq_if_eq, sq_icmp_eq, sq_if_ne, sq_icmp_ne, sq_if_lt, sq_icmp_lt, sq_if_ge, sq_icmp_ge, sq_if_gt, sq_icmp_gt, sq_if_le, sq_icmp_le, sq_iaload, sq_iastore, sq_alen, sq_places, sq_getI, sq_getR, sq_put, sq_ret, sq_lret, sq_vret, sq_switch, sq_callS, sq_callV, sq_copy, sq_max, sq_min, mm_len_2, mm_len_3, mm_len_4, mm_len_6, mm_len_8, mm_len_10, mm_len_11, mm_len_12, mm_len_13, mm_len_14, mm_len_15, mm_len_17, mm_len_18, mm_len_19, mm_len_20, mm_len_21, mm_len_22, mm_len_23, mm_len_24, mm_len_25]
    try simp only [eq_self, true_and, and_true, Bool.false_eq_true, false_implies, true_implies, true_or, or_true, mm_numI, mm_numL, mm_numN, pp_i10, pp_i01, pp_im1, not_false_eq_true, not_true_eq_false, false_or, or_false]
    rw [hn]
    exact ⟨fun _ => trivial, fun hc => absurd (nI_le (Nat.le_refl _) (by omega)) hc⟩
  | succ k ih =>
    intro p hp
    have ih := ih (p + 1) (by omega)
    refine mm_rn_ok [] _ (S5_against l d _ _) 1000 _ _ _ _ ?_
    simp only [G5_against_0, G5_against_1, G5_against_2, G5_against_3, G5_against_4, G5_against_5, G5_against_6, G5_against_9, G5_against_12, G5_against_15, G5_against_16, G5_against_19, G5_against_20, G5_against_23, G5_against_24, G5_against_27, G5_against_28, G5_against_31, G5_against_34, G5_against_35, G5_against_36, G5_against_37, G5_against_38, G5_against_39, G5_against_40, G5_against_43, G5_against_46, G5_against_47, N5_against, ↓mm_kc_ap, ↓mm_cut, mm_en, mm_nth, mm_put, mm_sto, mm_stoL, mm_ag, mm_dr, mm_sw, Nat.reduceSub, List.replicate, Option.toList, List.cons_append, List.nil_append, sq_int, sq_lng, sq_iload, sq_lload, sq_aload, sq_istore, sq_lstore, sq_astore, sq_iinc, sq_iadd, sq_isub, sq_imul, sq_iand, sq_ior, sq_ixor, sq_ishl, sq_ishr, sq_iushr, sq_ladd, sq_lsub, sq_lmul, sq_idiv, sq_irem, sq_ldiv, sq_lrem, sq_i2l, sq_lcmp, sq_dupI, sq_dupR, sq_pop, sq_dup2, sq_goto, sq_if_eq, sq_icmp_eq, sq_if_ne, sq_icmp_ne, sq_if_lt, sq_icmp_lt, sq_if_ge, sq_icmp_ge, sq_if_gt, sq_icmp_gt, sq_if_le, sq_icmp_le, sq_iaload, sq_iastore, sq_alen, sq_places, sq_getI, sq_getR, sq_put, sq_ret, sq_lret, sq_vret, sq_switch, sq_callS, sq_callV, sq_copy, sq_max, sq_min, mm_len_2, mm_len_3, mm_len_4, mm_len_6, mm_len_8, mm_len_10, mm_len_11, mm_len_12, mm_len_13, mm_len_14, mm_len_15, mm_len_17, mm_len_18, mm_len_19, mm_len_20, mm_len_21, mm_len_22, mm_len_23, mm_len_24, mm_len_25]
    try simp only [eq_self, true_and, and_true, Bool.false_eq_true, false_implies, true_implies, true_or, or_true, mm_numI, mm_numL, mm_numN, pp_i10, pp_i01, pp_im1, not_false_eq_true, not_true_eq_false, false_or, or_false]
    rw [hn, h5]
    refine ⟨fun hc => absurd hc (nI_ge (by omega) (by omega)), fun _ => ⟨2, _, hd, t_saysYes (by decide) hN hok hsc rfl hf hf2 (show p < 8 by omega), rfl, rfl, ?_⟩⟩
    rintro _ _ ⟨rfl, rfl⟩
    simp only [G5_against_0, G5_against_1, G5_against_2, G5_against_3, G5_against_4, G5_against_5, G5_against_6, G5_against_9, G5_against_12, G5_against_15, G5_against_16, G5_against_19, G5_against_20, G5_against_23, G5_against_24, G5_against_27, G5_against_28, G5_against_31, G5_against_34, G5_against_35, G5_against_36, G5_against_37, G5_against_38, G5_against_39, G5_against_40, G5_against_43, G5_against_46, G5_against_47, N5_against, ↓mm_kc_ap, ↓mm_cut, mm_en, mm_nth, mm_put, mm_sto, mm_stoL, mm_ag, mm_dr, mm_sw, Nat.reduceSub, List.replicate, Option.toList, List.cons_append, List.nil_append, sq_int, sq_lng, sq_iload, sq_lload, sq_aload, sq_istore, sq_lstore, sq_astore, sq_iinc, sq_iadd, sq_isub, sq_imul, sq_iand, sq_ior, sq_ixor, sq_ishl, sq_ishr, sq_iushr, sq_ladd, sq_lsub, sq_lmul, sq_idiv, sq_irem, sq_ldiv, sq_lrem, sq_i2l, sq_lcmp, sq_dupI, sq_dupR, sq_pop, sq_dup2, sq_goto, sq_if_eq, sq_icmp_eq, sq_if_ne, sq_icmp_ne, sq_if_lt, sq_icmp_lt, sq_if_ge, sq_icmp_ge, sq_if_gt, sq_icmp_gt, sq_if_le, sq_icmp_le, sq_iaload, sq_iastore, sq_alen, sq_places, sq_getI, sq_getR, sq_put, sq_ret, sq_lret, sq_vret, sq_switch, sq_callS, sq_callV, sq_copy, sq_max, sq_min, mm_len_2, mm_len_3, mm_len_4, mm_len_6, mm_len_8, mm_len_10, mm_len_11, mm_len_12, mm_len_13, mm_len_14, mm_len_15, mm_len_17, mm_len_18, mm_len_19, mm_len_20, mm_len_21, mm_len_22, mm_len_23, mm_len_24, mm_len_25]
    try simp only [eq_self, true_and, and_true, Bool.false_eq_true, false_implies, true_implies, true_or, or_true, mm_numI, mm_numL, mm_numN, pp_i10, pp_i01, pp_im1, not_false_eq_true, not_true_eq_false, false_or, or_false]
    rw [pp_bne, pp_beq, nI_1]
    refine ⟨fun hb => ?_, fun hb => ?_⟩
    · rw [pp_msk_skip (by unfold aa_no; rw [hb]; exact Bool.false_ne_true)] at ih
      exact ih
    · rw [pp_msk_step (by omega) (by unfold aa_no; rw [hb]; rfl)]
      exact ih
set_option maxRecDepth 20000 in
theorem t_against {l : Launch} {d : Nat} (hd : 2 < d) {h : mm_H} {n : Nat} {A mk f : Nat → Nat} (hN : cc_N h n A mk) (hok : jj_ok n A) {sc : Nat} (hsc : sc < 5) (h5 : h 0 5 = nI sc) (hf : ∀ q, q < 8 → h 15 q = nI (f q)) (hf2 : ∀ q, f q < 2 ^ 30) : mm_Ev l d M5_against [.ref 0] h (fun r h' => r = some (.int (nI (pp_msk (aa_no n A mk sc f) n))) ∧ h' = h) := by
  refine mm_Ev.of (by decide +kernel) (Nat.le_of_ble_eq_true rfl) (mm_rn_ok [4] _ (S5_against l d _ _) 1000 _ _ _ _ ?_)
  simp only [G5_against_0, G5_against_1, G5_against_2, G5_against_3, G5_against_4, G5_against_5, G5_against_6, G5_against_9, G5_against_12, G5_against_15, G5_against_16, G5_against_19, G5_against_20, G5_against_23, G5_against_24, G5_against_27, G5_against_28, G5_against_31, G5_against_34, G5_against_35, G5_against_36, G5_against_37, G5_against_38, G5_against_39, G5_against_40, G5_against_43, G5_against_46, G5_against_47, N5_against, ↓mm_kc_ap, ↓mm_cut, mm_en, mm_nth, mm_put, mm_sto, mm_stoL, mm_ag, mm_dr, mm_sw, Nat.reduceSub, List.replicate, Option.toList, List.cons_append, List.nil_append, sq_int, sq_lng, sq_iload, sq_lload, sq_aload, sq_istore, sq_lstore, sq_astore, sq_iinc, sq_iadd, sq_isub, sq_imul, sq_iand, sq_ior, sq_ixor, sq_ishl, sq_ishr, sq_iushr, sq_ladd, sq_lsub, sq_lmul, sq_idiv, sq_irem, sq_ldiv, sq_lrem, sq_i2l, sq_lcmp, sq_dupI, sq_dupR, sq_pop, sq_dup2, sq_goto, sq_if_eq, sq_icmp_eq, sq_if_ne, sq_icmp_ne, sq_if_lt, sq_icmp_lt, sq_if_ge, sq_icmp_ge, sq_if_gt, sq_icmp_gt, sq_if_le, sq_icmp_le, sq_iaload, sq_iastore, sq_alen, sq_places, sq_getI, sq_getR, sq_put, sq_ret, sq_lret, sq_vret, sq_switch, sq_callS, sq_callV, sq_copy, sq_max, sq_min, mm_len_2, mm_len_3, mm_len_4, mm_len_6, mm_len_8, mm_len_10, mm_len_11, mm_len_12, mm_len_13, mm_len_14, mm_len_15, mm_len_17, mm_len_18, mm_len_19, mm_len_20, mm_len_21, mm_len_22, mm_len_23, mm_len_24, mm_len_25]
  try simp only [eq_self, true_and, and_true, Bool.false_eq_true, false_implies, true_implies, true_or, or_true, mm_numI, mm_numL, mm_numN, pp_i10, pp_i01, pp_im1, not_false_eq_true, not_true_eq_false, false_or, or_false]
  exact u_against_loop hd hN hok hsc h5 hf hf2 n 0 (by omega)
set_option maxRecDepth 20000 in
theorem t_againstOf_loop {l : Launch} {d : Nat} (hd : 2 < d) {E : mm_X} {h : mm_H} {n : Nat} {A mk f : Nat → Nat} (hN : dd_N h n A mk) {sc : Nat} (hsc : sc < 5) (h5 : h 16 5 = nI sc) (hf : ∀ q, q < 8 → h 19 q = nI (f q)) (hf2 : ∀ q, f q < 2 ^ 30) : ∀ (k p : Nat), p + k = n → mm_At l d M6_againstOf E (fun r h' => r = some (.int (nI (pp_msk (aa_no n A mk sc f) n))) ∧ h' = h) 4 [some (.ref 16), some (.int (nI (pp_msk (aa_no n A mk sc f) p))), some (.int (nI p))] [] h := by
  have n8 := hN.2.1
  have hn := hN.2.2.1
  intro k
  induction k with
  | zero =>
    intro p hp
    have e : p = n := by omega
    subst e
    refine mm_rn_ok [] _ (S6_againstOf l d _ _) 1000 _ _ _ _ ?_
    simp only [G6_againstOf_0, G6_againstOf_1, G6_againstOf_2, G6_againstOf_3, G6_againstOf_4, G6_againstOf_5, G6_againstOf_6, G6_againstOf_9, G6_againstOf_12, G6_againstOf_13, G6_againstOf_14, G6_againstOf_15, G6_againstOf_18, G6_againstOf_21, G6_againstOf_22, G6_againstOf_25, G6_againstOf_26, G6_againstOf_27, G6_againstOf_28, G6_againstOf_29, G6_againstOf_30, G6_againstOf_33, G6_againstOf_36, G6_againstOf_37, N6_againstOf, ↓mm_kc_ap, ↓mm_cut, mm_en, mm_nth, mm_put, mm_sto, mm_stoL, mm_ag, mm_dr, mm_sw, Nat.reduceSub, List.replicate, Option.toList, List.cons_append, List.nil_append, sq_int, sq_lng, sq_iload, sq_lload, sq_aload, sq_istore, sq_lstore, sq_astore, sq_iinc, sq_iadd, sq_isub, sq_imul, sq_iand, sq_ior, sq_ixor, sq_ishl, sq_ishr, sq_iushr, sq_ladd, sq_lsub, sq_lmul, sq_idiv, sq_irem, sq_ldiv, sq_lrem, sq_i2l, sq_lcmp, sq_dupI, sq_dupR, sq_pop, sq_dup2, sq_goto, sq_if_eq, sq_icmp_eq, sq_if_ne, sq_icmp_ne, sq_if_lt, sq_icmp_lt, sq_if_ge, sq_icmp_ge, sq_if_gt, sq_icmp_gt, sq_if_le, sq_icmp_le, sq_iaload, sq_iastore, sq_alen, sq_places, sq_getI, sq_getR, sq_put, sq_ret, sq_lret, sq_vret, sq_switch, sq_callS, sq_callV, sq_copy, sq_max, sq_min, mm_len_2, mm_len_3, mm_len_4, mm_len_6, mm_len_8, mm_len_10, mm_len_11, mm_len_12, mm_len_13, mm_len_14, mm_len_15, mm_len_17, mm_len_18, mm_len_19, mm_len_20, mm_len_21, mm_len_22, mm_len_23, mm_len_24, mm_len_25]
    try simp only [eq_self, true_and, and_true, Bool.false_eq_true, false_implies, true_implies, true_or, or_true, mm_numI, mm_numL, mm_numN, pp_i10, pp_i01, pp_im1, not_false_eq_true, not_true_eq_false, false_or, or_false]
    rw [hn]
    exact ⟨fun _ => trivial, fun hc => absurd (nI_le (Nat.le_refl _) (by omega)) hc⟩
  | succ k ih =>
    intro p hp
    have ih := ih (p + 1) (by omega)
    refine mm_rn_ok [] _ (S6_againstOf l d _ _) 1000 _ _ _ _ ?_
    simp only [G6_againstOf_0, G6_againstOf_1, G6_againstOf_2, G6_againstOf_3, G6_againstOf_4, G6_againstOf_5, G6_againstOf_6, G6_againstOf_9, G6_againstOf_12, G6_againstOf_13, G6_againstOf_14, G6_againstOf_15, G6_againstOf_18, G6_againstOf_21, G6_againstOf_22, G6_againstOf_25, G6_againstOf_26, G6_againstOf_27, G6_againstOf_28, G6_againstOf_29, G6_againstOf_30, G6_againstOf_33, G6_againstOf_36, G6_againstOf_37, N6_againstOf, ↓mm_kc_ap, ↓mm_cut, mm_en, mm_nth, mm_put, mm_sto, mm_stoL, mm_ag, mm_dr, mm_sw, Nat.reduceSub, List.replicate, Option.toList, List.cons_append, List.nil_append, sq_int, sq_lng, sq_iload, sq_lload, sq_aload, sq_istore, sq_lstore, sq_astore, sq_iinc, sq_iadd, sq_isub, sq_imul, sq_iand, sq_ior, sq_ixor, sq_ishl, sq_ishr, sq_iushr, sq_ladd, sq_lsub, sq_lmul, sq_idiv, sq_irem, sq_ldiv, sq_lrem, sq_i2l, sq_lcmp, sq_dupI, sq_dupR, sq_pop, sq_dup2, sq_goto, sq_if_eq, sq_icmp_eq, sq_if_ne, sq_icmp_ne, sq_if_lt, sq_icmp_lt, sq_if_ge, sq_icmp_ge, sq_if_gt, sq_icmp_gt, sq_if_le, sq_icmp_le, sq_iaload, sq_iastore, sq_alen, sq_places, sq_getI, sq_getR, sq_put, sq_ret, sq_lret, sq_vret, sq_switch, sq_callS, sq_callV, sq_copy, sq_max, sq_min, mm_len_2, mm_len_3, mm_len_4, mm_len_6, mm_len_8, mm_len_10, mm_len_11, mm_len_12, mm_len_13, mm_len_14, mm_len_15, mm_len_17, mm_len_18, mm_len_19, mm_len_20, mm_len_21, mm_len_22, mm_len_23, mm_len_24, mm_len_25]
    try simp only [eq_self, true_and, and_true, Bool.false_eq_true, false_implies, true_implies, true_or, or_true, mm_numI, mm_numL, mm_numN, pp_i10, pp_i01, pp_im1, not_false_eq_true, not_true_eq_false, false_or, or_false]
    rw [hn]
    refine ⟨fun hc => absurd hc (nI_ge (by omega) (by omega)), fun _ => ⟨2, _, hd, t_hasAccepted (by decide) hN hsc h5 hf hf2 (show p < 8 by omega), rfl, ?_⟩⟩
    rintro _ _ ⟨rfl, rfl⟩
    simp only [G6_againstOf_0, G6_againstOf_1, G6_againstOf_2, G6_againstOf_3, G6_againstOf_4, G6_againstOf_5, G6_againstOf_6, G6_againstOf_9, G6_againstOf_12, G6_againstOf_13, G6_againstOf_14, G6_againstOf_15, G6_againstOf_18, G6_againstOf_21, G6_againstOf_22, G6_againstOf_25, G6_againstOf_26, G6_againstOf_27, G6_againstOf_28, G6_againstOf_29, G6_againstOf_30, G6_againstOf_33, G6_againstOf_36, G6_againstOf_37, N6_againstOf, ↓mm_kc_ap, ↓mm_cut, mm_en, mm_nth, mm_put, mm_sto, mm_stoL, mm_ag, mm_dr, mm_sw, Nat.reduceSub, List.replicate, Option.toList, List.cons_append, List.nil_append, sq_int, sq_lng, sq_iload, sq_lload, sq_aload, sq_istore, sq_lstore, sq_astore, sq_iinc, sq_iadd, sq_isub, sq_imul, sq_iand, sq_ior, sq_ixor, sq_ishl, sq_ishr, sq_iushr, sq_ladd, sq_lsub, sq_lmul, sq_idiv, sq_irem, sq_ldiv, sq_lrem, sq_i2l, sq_lcmp, sq_dupI, sq_dupR, sq_pop, sq_dup2, sq_goto, sq_if_eq, sq_icmp_eq, sq_if_ne, sq_icmp_ne, sq_if_lt, sq_icmp_lt, sq_if_ge, sq_icmp_ge, sq_if_gt, sq_icmp_gt, sq_if_le, sq_icmp_le, sq_iaload, sq_iastore, sq_alen, sq_places, sq_getI, sq_getR, sq_put, sq_ret, sq_lret, sq_vret, sq_switch, sq_callS, sq_callV, sq_copy, sq_max, sq_min, mm_len_2, mm_len_3, mm_len_4, mm_len_6, mm_len_8, mm_len_10, mm_len_11, mm_len_12, mm_len_13, mm_len_14, mm_len_15, mm_len_17, mm_len_18, mm_len_19, mm_len_20, mm_len_21, mm_len_22, mm_len_23, mm_len_24, mm_len_25]
    try simp only [eq_self, true_and, and_true, Bool.false_eq_true, false_implies, true_implies, true_or, or_true, mm_numI, mm_numL, mm_numN, pp_i10, pp_i01, pp_im1, not_false_eq_true, not_true_eq_false, false_or, or_false]
    rw [pp_bne, pp_beq, nI_1]
    refine ⟨fun hb => ?_, fun hb => ?_⟩
    · rw [pp_msk_step (by omega) (by unfold aa_no; rw [hb]; rfl)]
      exact ih
    · rw [pp_msk_skip (by unfold aa_no; rw [hb]; exact Bool.false_ne_true)] at ih
      rw [show nI (pp_msk (aa_no n A mk sc f) p) ||| 0 = nI (pp_msk (aa_no n A mk sc f) p) from Int32.or_zero]
      exact ih
set_option maxRecDepth 20000 in
theorem t_againstOf {l : Launch} {d : Nat} (hd : 2 < d) {h : mm_H} {n : Nat} {A mk f : Nat → Nat} (hN : dd_N h n A mk) {sc : Nat} (hsc : sc < 5) (h5 : h 16 5 = nI sc) (hf : ∀ q, q < 8 → h 19 q = nI (f q)) (hf2 : ∀ q, f q < 2 ^ 30) : mm_Ev l d M6_againstOf [.ref 16] h (fun r h' => r = some (.int (nI (pp_msk (aa_no n A mk sc f) n))) ∧ h' = h) := by
  refine mm_Ev.of (by decide +kernel) (Nat.le_of_ble_eq_true rfl) (mm_rn_ok [4] _ (S6_againstOf l d _ _) 1000 _ _ _ _ ?_)
  simp only [G6_againstOf_0, G6_againstOf_1, G6_againstOf_2, G6_againstOf_3, G6_againstOf_4, G6_againstOf_5, G6_againstOf_6, G6_againstOf_9, G6_againstOf_12, G6_againstOf_13, G6_againstOf_14, G6_againstOf_15, G6_againstOf_18, G6_againstOf_21, G6_againstOf_22, G6_againstOf_25, G6_againstOf_26, G6_againstOf_27, G6_againstOf_28, G6_againstOf_29, G6_againstOf_30, G6_againstOf_33, G6_againstOf_36, G6_againstOf_37, N6_againstOf, ↓mm_kc_ap, ↓mm_cut, mm_en, mm_nth, mm_put, mm_sto, mm_stoL, mm_ag, mm_dr, mm_sw, Nat.reduceSub, List.replicate, Option.toList, List.cons_append, List.nil_append, sq_int, sq_lng, sq_iload, sq_lload, sq_aload, sq_istore, sq_lstore, sq_astore, sq_iinc, sq_iadd, sq_isub, sq_imul, sq_iand, sq_ior, sq_ixor, sq_ishl, sq_ishr, sq_iushr, sq_ladd, sq_lsub, sq_lmul, sq_idiv, sq_irem, sq_ldiv, sq_lrem, sq_i2l, sq_lcmp, sq_dupI, sq_dupR, sq_pop, sq_dup2, sq_goto, sq_if_eq, sq_icmp_eq, sq_if_ne, sq_icmp_ne, sq_if_lt, sq_icmp_lt, sq_if_ge, sq_icmp_ge, sq_if_gt, sq_icmp_gt, sq_if_le, sq_icmp_le, sq_iaload, sq_iastore, sq_alen, sq_places, sq_getI, sq_getR, sq_put, sq_ret, sq_lret, sq_vret, sq_switch, sq_callS, sq_callV, sq_copy, sq_max, sq_min, mm_len_2, mm_len_3, mm_len_4, mm_len_6, mm_len_8, mm_len_10, mm_len_11, mm_len_12, mm_len_13, mm_len_14, mm_len_15, mm_len_17, mm_len_18, mm_len_19, mm_len_20, mm_len_21, mm_len_22, mm_len_23, mm_len_24, mm_len_25]
  try simp only [eq_self, true_and, and_true, Bool.false_eq_true, false_implies, true_implies, true_or, or_true, mm_numI, mm_numL, mm_numN, pp_i10, pp_i01, pp_im1, not_false_eq_true, not_true_eq_false, false_or, or_false]
  exact t_againstOf_loop hd hN hsc h5 hf hf2 n 0 (by omega)
def sp_against (s : ss_T) : Int32 := match s with
  | (n, A, mq, pf, _, sc, _, _) => nI (pp_msk (aa_no n A mq sc pf) n)
theorem pp_64 {f : Nat → Nat} (h : ∀ q, f q < 64) : ∀ q, f q < 2 ^ 30 := fun q => Nat.lt_trans (h q) (by decide)
theorem u_against {l : Launch} {d : Nat} (hd : 2 < d) {h : mm_H} {s : ss_T} (hW : ss_W s) (hC : ss_C h s) : mm_Ev l d M5_against [.ref 0] h (ss_pC (.int (sp_against s)) s h) := by
  have hC' := hC
  obtain ⟨n, A, mq, pf, ds, sc, tr, lk⟩ := s
  obtain ⟨c1, c2, c3, c4, c5, c6, c7⟩ := hC
  obtain ⟨w1, w2, w3, w4, w5, w6, w7, w8, w9, w10, w11, w12⟩ := hW
  refine (t_against hd c1 w3 w10 c4 c2 (pp_64 w8)).mono ?_
  rintro _ _ ⟨rfl, rfl⟩
  exact ⟨rfl, hC', fun _ _ => rfl⟩
set_option maxRecDepth 20000 in
theorem v_against {l : Launch} {d : Nat} (hd : 3 < d) {h : mm_H} {s : ss_T} (hW : ss_W s) (hM : ss_M h s) : mm_Ev l d M6_against [.ref 16] h (ss_pM (.int (sp_against s)) s h) := by
  have hM' := hM
  obtain ⟨n, A, mq, pf, ds, sc, tr, lk⟩ := s
  obtain ⟨c1, c2, c3, c4, c5, c6⟩ := hM
  obtain ⟨w1, w2, w3, w4, w5, w6, w7, w8, w9, w10, w11, w12⟩ := hW
  refine mm_Ev.of (by decide +kernel) (Nat.le_of_ble_eq_true rfl) (mm_rn_ok [] _ (S6_against l d _ _) 1000 _ _ _ _ ?_)
  simp only [G6_against_0, G6_against_1, G6_against_4, N6_against, ↓mm_kc_ap, ↓mm_cut, mm_en, mm_nth, mm_put, mm_sto, mm_stoL, mm_ag, mm_dr, mm_sw, Nat.reduceSub, List.replicate, Option.toList, List.cons_append, List.nil_append, sq_int, sq_lng, sq_iload, sq_lload, sq_aload, sq_istore, sq_lstore, sq_astore, sq_iinc, sq_iadd, sq_isub, sq_imul, sq_iand, sq_ior, sq_ixor, sq_ishl, sq_ishr, sq_iushr, sq_ladd, sq_lsub, sq_lmul, sq_idiv, sq_irem, sq_ldiv, sq_lrem, sq_i2l, sq_lcmp, sq_dupI, sq_dupR, sq_pop, sq_dup2, sq_goto, sq_if_eq, sq_icmp_eq, sq_if_ne, sq_icmp_ne, sq_if_lt, sq_icmp_lt, sq_if_ge, sq_icmp_ge, sq_if_gt, sq_icmp_gt, sq_if_le, sq_icmp_le, sq_iaload, sq_iastore, sq_alen, sq_places, sq_getI, sq_getR, sq_put, sq_ret, sq_lret, sq_vret, sq_switch, sq_callS, sq_callV, sq_copy, sq_max, sq_min, mm_len_2, mm_len_3, mm_len_4, mm_len_6, mm_len_8, mm_len_10, mm_len_11, mm_len_12, mm_len_13, mm_len_14, mm_len_15, mm_len_17, mm_len_18, mm_len_19, mm_len_20, mm_len_21, mm_len_22, mm_len_23, mm_len_24, mm_len_25]
  try simp only [eq_self, true_and, and_true, Bool.false_eq_true, false_implies, true_implies, true_or, or_true, mm_numI, mm_numL, mm_numN, pp_i10, pp_i01, pp_im1, not_false_eq_true, not_true_eq_false, false_or, or_false]
  refine ⟨3, _, hd, t_againstOf (by decide) c1 w10 c4 c2 (pp_64 w8), rfl, ?_⟩
  rintro _ _ ⟨rfl, rfl⟩
  simp only [G6_against_0, G6_against_1, G6_against_4, N6_against, ↓mm_kc_ap, ↓mm_cut, mm_en, mm_nth, mm_put, mm_sto, mm_stoL, mm_ag, mm_dr, mm_sw, Nat.reduceSub, List.replicate, Option.toList, List.cons_append, List.nil_append, sq_int, sq_lng, sq_iload, sq_lload, sq_aload, sq_istore, sq_lstore, sq_astore, sq_iinc, sq_iadd, sq_isub, sq_imul, sq_iand, sq_ior, sq_ixor, sq_ishl, sq_ishr, sq_iushr, sq_ladd, sq_lsub, sq_lmul, sq_idiv, sq_irem, sq_ldiv, sq_lrem, sq_i2l, sq_lcmp, sq_dupI, sq_dupR, sq_pop, sq_dup2, sq_goto, sq_if_eq, sq_icmp_eq, sq_if_ne, sq_icmp_ne, sq_if_lt, sq_icmp_lt, sq_if_ge, sq_icmp_ge, sq_if_gt, sq_icmp_gt, sq_if_le, sq_icmp_le, sq_iaload, sq_iastore, sq_alen, sq_places, sq_getI, sq_getR, sq_put, sq_ret, sq_lret, sq_vret, sq_switch, sq_callS, sq_callV, sq_copy, sq_max, sq_min, mm_len_2, mm_len_3, mm_len_4, mm_len_6, mm_len_8, mm_len_10, mm_len_11, mm_len_12, mm_len_13, mm_len_14, mm_len_15, mm_len_17, mm_len_18, mm_len_19, mm_len_20, mm_len_21, mm_len_22, mm_len_23, mm_len_24, mm_len_25]
  try simp only [eq_self, true_and, and_true, Bool.false_eq_true, false_implies, true_implies, true_or, or_true, mm_numI, mm_numL, mm_numN, pp_i10, pp_i01, pp_im1, not_false_eq_true, not_true_eq_false, false_or, or_false]
  exact ⟨rfl, hM', fun _ _ => rfl⟩
set_option maxRecDepth 20000 in
theorem u_restless_loop {l : Launch} {d : Nat} (hd : 2 < d) {E : mm_X} {h : mm_H} {n : Nat} {A mk ds : Nat → Nat} (hN : cc_N h n A mk) (hD : mr_D h 10 ds) : ∀ (k p : Nat), p + k = n → mm_At l d M5_restless E (fun r h' => r = some (.int (nI (pp_msk (mr_rs n A ds) n))) ∧ h' = h) 4 [some (.ref 0), some (.int (nI (pp_msk (mr_rs n A ds) p))), some (.int (nI p))] [] h := by
  have n8 := hN.2.1
  have hn := hN.2.2.1
  intro k
  induction k with
  | zero =>
    intro p hp
    have e : p = n := by omega
    subst e
    refine mm_rn_ok [] _ (S5_restless l d _ _) 1000 _ _ _ _ ?_
    simp only [G5_restless_0, G5_restless_1, G5_restless_2, G5_restless_3, G5_restless_4, G5_restless_5, G5_restless_6, G5_restless_9, G5_restless_12, G5_restless_15, G5_restless_16, G5_restless_19, G5_restless_20, G5_restless_23, G5_restless_26, G5_restless_27, G5_restless_28, G5_restless_29, G5_restless_30, G5_restless_31, G5_restless_32, G5_restless_35, G5_restless_38, G5_restless_39, N5_restless, ↓mm_kc_ap, ↓mm_cut, mm_en, mm_nth, mm_put, mm_sto, mm_stoL, mm_ag, mm_dr, mm_sw, Nat.reduceSub, List.replicate, Option.toList, List.cons_append, List.nil_append, sq_int, sq_lng, sq_iload, sq_lload, sq_aload, sq_istore, sq_lstore, sq_astore, sq_iinc, sq_iadd, sq_isub, sq_imul, sq_iand, sq_ior, sq_ixor, sq_ishl, sq_ishr, sq_iushr, sq_ladd, sq_lsub, sq_lmul, sq_idiv, sq_irem, sq_ldiv, sq_lrem, sq_i2l, sq_lcmp, sq_dupI, sq_dupR, sq_pop, sq_dup2, sq_goto, sq_if_eq, sq_icmp_eq, sq_if_ne, sq_icmp_ne, sq_if_lt, sq_icmp_lt, sq_if_ge, sq_icmp_ge, sq_if_gt, sq_icmp_gt, sq_if_le, sq_icmp_le, sq_iaload, sq_iastore, sq_alen, sq_places, sq_getI, sq_getR, sq_put, sq_ret, sq_lret, sq_vret, sq_switch, sq_callS, sq_callV, sq_copy, sq_max, sq_min, mm_len_2, mm_len_3, mm_len_4, mm_len_6, mm_len_8, mm_len_10, mm_len_11, mm_len_12, mm_len_13, mm_len_14, mm_len_15, mm_len_17, mm_len_18, mm_len_19, mm_len_20, mm_len_21, mm_len_22, mm_len_23, mm_len_24, mm_len_25]
    try simp only [eq_self, true_and, and_true, Bool.false_eq_true, false_implies, true_implies, true_or, or_true, mm_numI, mm_numL, mm_numN, pp_i10, pp_i01, pp_im1, not_false_eq_true, not_true_eq_false, false_or, or_false]
    rw [hn]
    exact ⟨fun _ => trivial, fun hc => absurd (nI_le (Nat.le_refl _) (by omega)) hc⟩
  | succ k ih =>
    intro p hp
    have ih := ih (p + 1) (by omega)
    refine mm_rn_ok [] _ (S5_restless l d _ _) 1000 _ _ _ _ ?_
    simp only [G5_restless_0, G5_restless_1, G5_restless_2, G5_restless_3, G5_restless_4, G5_restless_5, G5_restless_6, G5_restless_9, G5_restless_12, G5_restless_15, G5_restless_16, G5_restless_19, G5_restless_20, G5_restless_23, G5_restless_26, G5_restless_27, G5_restless_28, G5_restless_29, G5_restless_30, G5_restless_31, G5_restless_32, G5_restless_35, G5_restless_38, G5_restless_39, N5_restless, ↓mm_kc_ap, ↓mm_cut, mm_en, mm_nth, mm_put, mm_sto, mm_stoL, mm_ag, mm_dr, mm_sw, Nat.reduceSub, List.replicate, Option.toList, List.cons_append, List.nil_append, sq_int, sq_lng, sq_iload, sq_lload, sq_aload, sq_istore, sq_lstore, sq_astore, sq_iinc, sq_iadd, sq_isub, sq_imul, sq_iand, sq_ior, sq_ixor, sq_ishl, sq_ishr, sq_iushr, sq_ladd, sq_lsub, sq_lmul, sq_idiv, sq_irem, sq_ldiv, sq_lrem, sq_i2l, sq_lcmp, sq_dupI, sq_dupR, sq_pop, sq_dup2, sq_goto, sq_if_eq, sq_icmp_eq, sq_if_ne, sq_icmp_ne, sq_if_lt, sq_icmp_lt, sq_if_ge, sq_icmp_ge, sq_if_gt, sq_icmp_gt, sq_if_le, sq_icmp_le, sq_iaload, sq_iastore, sq_alen, sq_places, sq_getI, sq_getR, sq_put, sq_ret, sq_lret, sq_vret, sq_switch, sq_callS, sq_callV, sq_copy, sq_max, sq_min, mm_len_2, mm_len_3, mm_len_4, mm_len_6, mm_len_8, mm_len_10, mm_len_11, mm_len_12, mm_len_13, mm_len_14, mm_len_15, mm_len_17, mm_len_18, mm_len_19, mm_len_20, mm_len_21, mm_len_22, mm_len_23, mm_len_24, mm_len_25]
    try simp only [eq_self, true_and, and_true, Bool.false_eq_true, false_implies, true_implies, true_or, or_true, mm_numI, mm_numL, mm_numN, pp_i10, pp_i01, pp_im1, not_false_eq_true, not_true_eq_false, false_or, or_false]
    rw [hn]
    refine ⟨fun hc => absurd hc (nI_ge (by omega) (by omega)), fun _ => ⟨2, _, hd, t_isRestless (by decide) hN hD (show p < 8 by omega), rfl, ?_⟩⟩
    rintro _ _ ⟨rfl, rfl⟩
    simp only [G5_restless_0, G5_restless_1, G5_restless_2, G5_restless_3, G5_restless_4, G5_restless_5, G5_restless_6, G5_restless_9, G5_restless_12, G5_restless_15, G5_restless_16, G5_restless_19, G5_restless_20, G5_restless_23, G5_restless_26, G5_restless_27, G5_restless_28, G5_restless_29, G5_restless_30, G5_restless_31, G5_restless_32, G5_restless_35, G5_restless_38, G5_restless_39, N5_restless, ↓mm_kc_ap, ↓mm_cut, mm_en, mm_nth, mm_put, mm_sto, mm_stoL, mm_ag, mm_dr, mm_sw, Nat.reduceSub, List.replicate, Option.toList, List.cons_append, List.nil_append, sq_int, sq_lng, sq_iload, sq_lload, sq_aload, sq_istore, sq_lstore, sq_astore, sq_iinc, sq_iadd, sq_isub, sq_imul, sq_iand, sq_ior, sq_ixor, sq_ishl, sq_ishr, sq_iushr, sq_ladd, sq_lsub, sq_lmul, sq_idiv, sq_irem, sq_ldiv, sq_lrem, sq_i2l, sq_lcmp, sq_dupI, sq_dupR, sq_pop, sq_dup2, sq_goto, sq_if_eq, sq_icmp_eq, sq_if_ne, sq_icmp_ne, sq_if_lt, sq_icmp_lt, sq_if_ge, sq_icmp_ge, sq_if_gt, sq_icmp_gt, sq_if_le, sq_icmp_le, sq_iaload, sq_iastore, sq_alen, sq_places, sq_getI, sq_getR, sq_put, sq_ret, sq_lret, sq_vret, sq_switch, sq_callS, sq_callV, sq_copy, sq_max, sq_min, mm_len_2, mm_len_3, mm_len_4, mm_len_6, mm_len_8, mm_len_10, mm_len_11, mm_len_12, mm_len_13, mm_len_14, mm_len_15, mm_len_17, mm_len_18, mm_len_19, mm_len_20, mm_len_21, mm_len_22, mm_len_23, mm_len_24, mm_len_25]
    try simp only [eq_self, true_and, and_true, Bool.false_eq_true, false_implies, true_implies, true_or, or_true, mm_numI, mm_numL, mm_numN, pp_i10, pp_i01, pp_im1, not_false_eq_true, not_true_eq_false, false_or, or_false]
    rw [pp_bne, pp_beq, nI_1]
    refine ⟨fun hb => ?_, fun hb => ?_⟩
    · rw [pp_msk_skip (by rw [hb]; exact Bool.false_ne_true)] at ih
      exact ih
    · rw [pp_msk_step (by omega) hb]
      exact ih
def sp_restless (s : ss_T) : Int32 := match s with
  | (n, A, _, _, ds, _, _, _) => nI (pp_msk (mr_rs n A ds) n)
set_option maxRecDepth 20000 in
theorem u_restless {l : Launch} {d : Nat} (hd : 2 < d) {h : mm_H} {s : ss_T} (hC : ss_C h s) : mm_Ev l d M5_restless [.ref 0] h (ss_pC (.int (sp_restless s)) s h) := by
  have hC' := hC
  obtain ⟨n, A, mq, pf, ds, sc, tr, lk⟩ := s
  obtain ⟨c1, c2, c3, c4, c5, c6, c7⟩ := hC
  have key : mm_Ev l d M5_restless [.ref 0] h (fun r h' => r = some (.int (nI (pp_msk (mr_rs n A ds) n))) ∧ h' = h) := by
    refine mm_Ev.of (by decide +kernel) (Nat.le_of_ble_eq_true rfl) (mm_rn_ok [4] _ (S5_restless l d _ _) 1000 _ _ _ _ ?_)
    simp only [G5_restless_0, G5_restless_1, G5_restless_2, G5_restless_3, G5_restless_4, G5_restless_5, G5_restless_6, G5_restless_9, G5_restless_12, G5_restless_15, G5_restless_16, G5_restless_19, G5_restless_20, G5_restless_23, G5_restless_26, G5_restless_27, G5_restless_28, G5_restless_29, G5_restless_30, G5_restless_31, G5_restless_32, G5_restless_35, G5_restless_38, G5_restless_39, N5_restless, ↓mm_kc_ap, ↓mm_cut, mm_en, mm_nth, mm_put, mm_sto, mm_stoL, mm_ag, mm_dr, mm_sw, Nat.reduceSub, List.replicate, Option.toList, List.cons_append, List.nil_append, sq_int, sq_lng, sq_iload, sq_lload, sq_aload, sq_istore, sq_lstore, sq_astore, sq_iinc, sq_iadd, sq_isub, sq_imul, sq_iand, sq_ior, sq_ixor, sq_ishl, sq_ishr, sq_iushr, sq_ladd, sq_lsub, sq_lmul, sq_idiv, sq_irem, sq_ldiv, sq_lrem, sq_i2l, sq_lcmp, sq_dupI, sq_dupR, sq_pop, sq_dup2, sq_goto, sq_if_eq, sq_icmp_eq, sq_if_ne, sq_icmp_ne, sq_if_lt, sq_icmp_lt, sq_if_ge, sq_icmp_ge, sq_if_gt, sq_icmp_gt, sq_if_le, sq_icmp_le, sq_iaload, sq_iastore, sq_alen, sq_places, sq_getI, sq_getR, sq_put, sq_ret, sq_lret, sq_vret, sq_switch, sq_callS, sq_callV, sq_copy, sq_max, sq_min, mm_len_2, mm_len_3, mm_len_4, mm_len_6, mm_len_8, mm_len_10, mm_len_11, mm_len_12, mm_len_13, mm_len_14, mm_len_15, mm_len_17, mm_len_18, mm_len_19, mm_len_20, mm_len_21, mm_len_22, mm_len_23, mm_len_24, mm_len_25]
    try simp only [eq_self, true_and, and_true, Bool.false_eq_true, false_implies, true_implies, true_or, or_true, mm_numI, mm_numL, mm_numN, pp_i10, pp_i01, pp_im1, not_false_eq_true, not_true_eq_false, false_or, or_false]
    exact u_restless_loop hd c1 c3 n 0 (by omega)
  refine key.mono ?_
  rintro _ _ ⟨rfl, rfl⟩
  exact ⟨rfl, hC', fun _ _ => rfl⟩
set_option maxRecDepth 20000 in
theorem v_restless {l : Launch} {d : Nat} (hd : 2 < d) {h : mm_H} {s : ss_T} (hM : ss_M h s) : mm_Ev l d M6_restless [.ref 16] h (ss_pM (.int (sp_restless s)) s h) := by
  have hM' := hM
  obtain ⟨n, A, mq, pf, ds, sc, tr, lk⟩ := s
  obtain ⟨c1, c2, c3, c4, c5, c6⟩ := hM
  refine mm_Ev.of (by decide +kernel) (Nat.le_of_ble_eq_true rfl) (mm_rn_ok [] _ (S6_restless l d _ _) 1000 _ _ _ _ ?_)
  simp only [G6_restless_0, G6_restless_1, G6_restless_4, N6_restless, ↓mm_kc_ap, ↓mm_cut, mm_en, mm_nth, mm_put, mm_sto, mm_stoL, mm_ag, mm_dr, mm_sw, Nat.reduceSub, List.replicate, Option.toList, List.cons_append, List.nil_append, sq_int, sq_lng, sq_iload, sq_lload, sq_aload, sq_istore, sq_lstore, sq_astore, sq_iinc, sq_iadd, sq_isub, sq_imul, sq_iand, sq_ior, sq_ixor, sq_ishl, sq_ishr, sq_iushr, sq_ladd, sq_lsub, sq_lmul, sq_idiv, sq_irem, sq_ldiv, sq_lrem, sq_i2l, sq_lcmp, sq_dupI, sq_dupR, sq_pop, sq_dup2, sq_goto, sq_if_eq, sq_icmp_eq, sq_if_ne, sq_icmp_ne, sq_if_lt, sq_icmp_lt, sq_if_ge, sq_icmp_ge, sq_if_gt, sq_icmp_gt, sq_if_le, sq_icmp_le, sq_iaload, sq_iastore, sq_alen, sq_places, sq_getI, sq_getR, sq_put, sq_ret, sq_lret, sq_vret, sq_switch, sq_callS, sq_callV, sq_copy, sq_max, sq_min, mm_len_2, mm_len_3, mm_len_4, mm_len_6, mm_len_8, mm_len_10, mm_len_11, mm_len_12, mm_len_13, mm_len_14, mm_len_15, mm_len_17, mm_len_18, mm_len_19, mm_len_20, mm_len_21, mm_len_22, mm_len_23, mm_len_24, mm_len_25]
  try simp only [eq_self, true_and, and_true, Bool.false_eq_true, false_implies, true_implies, true_or, or_true, mm_numI, mm_numL, mm_numN, pp_i10, pp_i01, pp_im1, not_false_eq_true, not_true_eq_false, false_or, or_false]
  refine ⟨2, _, hd, t_restlessOf (by decide) c1 c3, rfl, ?_⟩
  rintro _ _ ⟨rfl, rfl⟩
  simp only [G6_restless_0, G6_restless_1, G6_restless_4, N6_restless, ↓mm_kc_ap, ↓mm_cut, mm_en, mm_nth, mm_put, mm_sto, mm_stoL, mm_ag, mm_dr, mm_sw, Nat.reduceSub, List.replicate, Option.toList, List.cons_append, List.nil_append, sq_int, sq_lng, sq_iload, sq_lload, sq_aload, sq_istore, sq_lstore, sq_astore, sq_iinc, sq_iadd, sq_isub, sq_imul, sq_iand, sq_ior, sq_ixor, sq_ishl, sq_ishr, sq_iushr, sq_ladd, sq_lsub, sq_lmul, sq_idiv, sq_irem, sq_ldiv, sq_lrem, sq_i2l, sq_lcmp, sq_dupI, sq_dupR, sq_pop, sq_dup2, sq_goto, sq_if_eq, sq_icmp_eq, sq_if_ne, sq_icmp_ne, sq_if_lt, sq_icmp_lt, sq_if_ge, sq_icmp_ge, sq_if_gt, sq_icmp_gt, sq_if_le, sq_icmp_le, sq_iaload, sq_iastore, sq_alen, sq_places, sq_getI, sq_getR, sq_put, sq_ret, sq_lret, sq_vret, sq_switch, sq_callS, sq_callV, sq_copy, sq_max, sq_min, mm_len_2, mm_len_3, mm_len_4, mm_len_6, mm_len_8, mm_len_10, mm_len_11, mm_len_12, mm_len_13, mm_len_14, mm_len_15, mm_len_17, mm_len_18, mm_len_19, mm_len_20, mm_len_21, mm_len_22, mm_len_23, mm_len_24, mm_len_25]
  try simp only [eq_self, true_and, and_true, Bool.false_eq_true, false_implies, true_implies, true_or, or_true, mm_numI, mm_numL, mm_numN, pp_i10, pp_i01, pp_im1, not_false_eq_true, not_true_eq_false, false_or, or_false]
  exact ⟨rfl, hM', fun _ _ => rfl⟩
def sp_move (p : Int32) (s : ss_T) : Int32 × ss_T := match s with
  | (n, A, mq, pf, ds, sc, tr, lk) => if 0 ≤ p ∧ p < nI n then (if mr_rs n A ds p.toNatClampNeg = true then (nI (mr_rule n A ds p.toNatClampNeg), (n, A, mq, pf, mr_st n A ds p.toNatClampNeg, sc, tr, lk)) else (-103, s)) else (-101, s)
theorem ss_C.d10 {h : mm_H} {n : Nat} {A mq pf ds ds' : Nat → Nat} {sc tr lk : Nat} (hC : ss_C h (n, A, mq, pf, ds, sc, tr, lk)) {h' : mm_H} (hx : ∀ x, x ≠ 10 → h' x = h x) (hD : mr_D h' 10 ds') : ss_C h' (n, A, mq, pf, ds', sc, tr, lk) := by
  obtain ⟨c1, c2, c3, c4, c5, c6, c7⟩ := hC
  refine ⟨c1.cg (hx _ (by decide)) (hx _ (by decide)) (hx _ (by decide)), ?_, hD, ?_, ?_, ?_, ?_⟩
  · rw [hx _ (by decide)]; exact c2
  · rw [hx _ (by decide)]; exact c4
  · rw [hx _ (by decide)]; exact c5
  · rw [hx _ (by decide)]; exact c6
  · rw [hx _ (by decide)]; exact c7
theorem ss_M.d20 {h : mm_H} {n : Nat} {A mq pf ds ds' : Nat → Nat} {sc tr lk : Nat} (hM : ss_M h (n, A, mq, pf, ds, sc, tr, lk)) {h' : mm_H} (hx : ∀ x, x ≠ 20 → h' x = h x) (hD : mr_D h' 20 ds') : ss_M h' (n, A, mq, pf, ds', sc, tr, lk) := by
  obtain ⟨c1, c2, c3, c4, c5, c6⟩ := hM
  refine ⟨c1.cg (hx _ (by decide)) (hx _ (by decide)) (hx _ (by decide)), ?_, hD, ?_, ?_, ?_⟩
  · rw [hx _ (by decide)]; exact c2
  · rw [hx _ (by decide)]; exact c4
  · rw [hx _ (by decide)]; exact c5
  · rw [hx _ (by decide)]; exact c6
set_option maxRecDepth 20000 in
theorem u_move {l : Launch} {d : Nat} (hd : 2 < d) {h : mm_H} {s : ss_T} (hC : ss_C h s) (p : Int32) : mm_Ev l d M5_move [.ref 0, .int p] h (ss_pC (.int (sp_move p s).1) (sp_move p s).2 h) := by
  have hC' := hC
  obtain ⟨n, A, mq, pf, ds, sc, tr, lk⟩ := s
  obtain ⟨c1, c2, c3, c4, c5, c6, c7⟩ := hC
  have n8 := c1.2.1
  have hn := c1.2.2.1
  refine mm_Ev.of (by decide +kernel) (Nat.le_of_ble_eq_true rfl) (mm_rn_ok [] _ (S5_move l d _ _) 1000 _ _ _ _ ?_)
  simp only [G5_move_0, G5_move_1, G5_move_4, G5_move_5, G5_move_8, G5_move_11, G5_move_13, G5_move_14, G5_move_15, G5_move_18, G5_move_19, G5_move_22, G5_move_25, G5_move_27, G5_move_28, G5_move_29, G5_move_32, G5_move_33, G5_move_36, G5_move_37, G5_move_40, G5_move_43, G5_move_44, G5_move_45, N5_move, ↓mm_kc_ap, ↓mm_cut, mm_en, mm_nth, mm_put, mm_sto, mm_stoL, mm_ag, mm_dr, mm_sw, Nat.reduceSub, List.replicate, Option.toList, List.cons_append, List.nil_append, sq_int, sq_lng, sq_iload, sq_lload, sq_aload, sq_istore, sq_lstore, sq_astore, sq_iinc, sq_iadd, sq_isub, sq_imul, sq_iand, sq_ior, sq_ixor, sq_ishl, sq_ishr, sq_iushr, sq_ladd, sq_lsub, sq_lmul, sq_idiv, sq_irem, sq_ldiv, sq_lrem, sq_i2l, sq_lcmp, sq_dupI, sq_dupR, sq_pop, sq_dup2, sq_goto, sq_if_eq, sq_icmp_eq, sq_if_ne, sq_icmp_ne, sq_if_lt, sq_icmp_lt, sq_if_ge, sq_icmp_ge, sq_if_gt, sq_icmp_gt, sq_if_le, sq_icmp_le, sq_iaload, sq_iastore, sq_alen, sq_places, sq_getI, sq_getR, sq_put, sq_ret, sq_lret, sq_vret, sq_switch, sq_callS, sq_callV, sq_copy, sq_max, sq_min, mm_len_2, mm_len_3, mm_len_4, mm_len_6, mm_len_8, mm_len_10, mm_len_11, mm_len_12, mm_len_13, mm_len_14, mm_len_15, mm_len_17, mm_len_18, mm_len_19, mm_len_20, mm_len_21, mm_len_22, mm_len_23, mm_len_24, mm_len_25]
  try simp only [eq_self, true_and, and_true, Bool.false_eq_true, false_implies, true_implies, true_or, or_true, mm_numI, mm_numL, mm_numN, pp_i10, pp_i01, pp_im1, not_false_eq_true, not_true_eq_false, false_or, or_false]
  refine ⟨0, _, by omega, t_has l 0 h p, rfl, ?_⟩
  rintro _ _ ⟨rfl, rfl⟩
  simp only [G5_move_0, G5_move_1, G5_move_4, G5_move_5, G5_move_8, G5_move_11, G5_move_13, G5_move_14, G5_move_15, G5_move_18, G5_move_19, G5_move_22, G5_move_25, G5_move_27, G5_move_28, G5_move_29, G5_move_32, G5_move_33, G5_move_36, G5_move_37, G5_move_40, G5_move_43, G5_move_44, G5_move_45, N5_move, ↓mm_kc_ap, ↓mm_cut, mm_en, mm_nth, mm_put, mm_sto, mm_stoL, mm_ag, mm_dr, mm_sw, Nat.reduceSub, List.replicate, Option.toList, List.cons_append, List.nil_append, sq_int, sq_lng, sq_iload, sq_lload, sq_aload, sq_istore, sq_lstore, sq_astore, sq_iinc, sq_iadd, sq_isub, sq_imul, sq_iand, sq_ior, sq_ixor, sq_ishl, sq_ishr, sq_iushr, sq_ladd, sq_lsub, sq_lmul, sq_idiv, sq_irem, sq_ldiv, sq_lrem, sq_i2l, sq_lcmp, sq_dupI, sq_dupR, sq_pop, sq_dup2, sq_goto, sq_if_eq, sq_icmp_eq, sq_if_ne, sq_icmp_ne, sq_if_lt, sq_icmp_lt, sq_if_ge, sq_icmp_ge, sq_if_gt, sq_icmp_gt, sq_if_le, sq_icmp_le, sq_iaload, sq_iastore, sq_alen, sq_places, sq_getI, sq_getR, sq_put, sq_ret, sq_lret, sq_vret, sq_switch, sq_callS, sq_callV, sq_copy, sq_max, sq_min, mm_len_2, mm_len_3, mm_len_4, mm_len_6, mm_len_8, mm_len_10, mm_len_11, mm_len_12, mm_len_13, mm_len_14, mm_len_15, mm_len_17, mm_len_18, mm_len_19, mm_len_20, mm_len_21, mm_len_22, mm_len_23, mm_len_24, mm_len_25]
  try simp only [eq_self, true_and, and_true, Bool.false_eq_true, false_implies, true_implies, true_or, or_true, mm_numI, mm_numL, mm_numN, pp_i10, pp_i01, pp_im1, not_false_eq_true, not_true_eq_false, false_or, or_false]
  rw [pp_if01, pp_if01', hn]
  unfold sp_move
  dsimp only
  refine ⟨fun h1 => ?_, fun h1 => ?_⟩
  · rw [if_pos h1]
    obtain ⟨e1, e2⟩ := pp_post n8 h1
    generalize hj : p.toNatClampNeg = j at e1 e2 ⊢
    subst e1
    refine ⟨2, _, hd, t_isRestless (by decide) c1 c3 (show j < 8 by omega), rfl, ?_⟩
    rintro _ _ ⟨rfl, rfl⟩
    simp only [G5_move_0, G5_move_1, G5_move_4, G5_move_5, G5_move_8, G5_move_11, G5_move_13, G5_move_14, G5_move_15, G5_move_18, G5_move_19, G5_move_22, G5_move_25, G5_move_27, G5_move_28, G5_move_29, G5_move_32, G5_move_33, G5_move_36, G5_move_37, G5_move_40, G5_move_43, G5_move_44, G5_move_45, N5_move, ↓mm_kc_ap, ↓mm_cut, mm_en, mm_nth, mm_put, mm_sto, mm_stoL, mm_ag, mm_dr, mm_sw, Nat.reduceSub, List.replicate, Option.toList, List.cons_append, List.nil_append, sq_int, sq_lng, sq_iload, sq_lload, sq_aload, sq_istore, sq_lstore, sq_astore, sq_iinc, sq_iadd, sq_isub, sq_imul, sq_iand, sq_ior, sq_ixor, sq_ishl, sq_ishr, sq_iushr, sq_ladd, sq_lsub, sq_lmul, sq_idiv, sq_irem, sq_ldiv, sq_lrem, sq_i2l, sq_lcmp, sq_dupI, sq_dupR, sq_pop, sq_dup2, sq_goto, sq_if_eq, sq_icmp_eq, sq_if_ne, sq_icmp_ne, sq_if_lt, sq_icmp_lt, sq_if_ge, sq_icmp_ge, sq_if_gt, sq_icmp_gt, sq_if_le, sq_icmp_le, sq_iaload, sq_iastore, sq_alen, sq_places, sq_getI, sq_getR, sq_put, sq_ret, sq_lret, sq_vret, sq_switch, sq_callS, sq_callV, sq_copy, sq_max, sq_min, mm_len_2, mm_len_3, mm_len_4, mm_len_6, mm_len_8, mm_len_10, mm_len_11, mm_len_12, mm_len_13, mm_len_14, mm_len_15, mm_len_17, mm_len_18, mm_len_19, mm_len_20, mm_len_21, mm_len_22, mm_len_23, mm_len_24, mm_len_25]
    try simp only [eq_self, true_and, and_true, Bool.false_eq_true, false_implies, true_implies, true_or, or_true, mm_numI, mm_numL, mm_numN, pp_i10, pp_i01, pp_im1, not_false_eq_true, not_true_eq_false, false_or, or_false]
    rw [pp_bne, pp_beq]
    refine ⟨fun hb => ?_, fun hb => ?_⟩
    · rw [if_pos hb]
      refine ⟨2, _, hd, t_obey (by decide) c1 c3 (show j < 8 by omega), rfl, ?_⟩
      rintro _ _ ⟨rfl, rfl⟩
      simp only [G5_move_0, G5_move_1, G5_move_4, G5_move_5, G5_move_8, G5_move_11, G5_move_13, G5_move_14, G5_move_15, G5_move_18, G5_move_19, G5_move_22, G5_move_25, G5_move_27, G5_move_28, G5_move_29, G5_move_32, G5_move_33, G5_move_36, G5_move_37, G5_move_40, G5_move_43, G5_move_44, G5_move_45, N5_move, ↓mm_kc_ap, ↓mm_cut, mm_en, mm_nth, mm_put, mm_sto, mm_stoL, mm_ag, mm_dr, mm_sw, Nat.reduceSub, List.replicate, Option.toList, List.cons_append, List.nil_append, sq_int, sq_lng, sq_iload, sq_lload, sq_aload, sq_istore, sq_lstore, sq_astore, sq_iinc, sq_iadd, sq_isub, sq_imul, sq_iand, sq_ior, sq_ixor, sq_ishl, sq_ishr, sq_iushr, sq_ladd, sq_lsub, sq_lmul, sq_idiv, sq_irem, sq_ldiv, sq_lrem, sq_i2l, sq_lcmp, sq_dupI, sq_dupR, sq_pop, sq_dup2, sq_goto, sq_if_eq, sq_icmp_eq, sq_if_ne, sq_icmp_ne, sq_if_lt, sq_icmp_lt, sq_if_ge, sq_icmp_ge, sq_if_gt, sq_icmp_gt, sq_if_le, sq_icmp_le, sq_iaload, sq_iastore, sq_alen, sq_places, sq_getI, sq_getR, sq_put, sq_ret, sq_lret, sq_vret, sq_switch, sq_callS, sq_callV, sq_copy, sq_max, sq_min, mm_len_2, mm_len_3, mm_len_4, mm_len_6, mm_len_8, mm_len_10, mm_len_11, mm_len_12, mm_len_13, mm_len_14, mm_len_15, mm_len_17, mm_len_18, mm_len_19, mm_len_20, mm_len_21, mm_len_22, mm_len_23, mm_len_24, mm_len_25]
      try simp only [eq_self, true_and, and_true, Bool.false_eq_true, false_implies, true_implies, true_or, or_true, mm_numI, mm_numL, mm_numN, pp_i10, pp_i01, pp_im1, not_false_eq_true, not_true_eq_false, false_or, or_false]
      rw [hj, mm_set_same]
      exact ⟨vp_in_nI (by omega) (by decide), rfl, hC'.d10 (fun x hx => mm_set_ne hx) (mr_D_st c3), fun c hc => mm_set_ne (by omega)⟩
    · rw [if_neg (by rw [hb]; exact Bool.false_ne_true)]
      exact ⟨rfl, hC', fun _ _ => rfl⟩
  · rw [if_neg h1]
    exact ⟨rfl, hC', fun _ _ => rfl⟩
set_option maxRecDepth 20000 in
theorem v_move {l : Launch} {d : Nat} (hd : 1 < d) {h : mm_H} {s : ss_T} (hM : ss_M h s) (p : Int32) : mm_Ev l d M6_move [.ref 16, .int p] h (ss_pM (.int (sp_move p s).1) (sp_move p s).2 h) := by
  have hM' := hM
  obtain ⟨n, A, mq, pf, ds, sc, tr, lk⟩ := s
  obtain ⟨c1, c2, c3, c4, c5, c6⟩ := hM
  have n8 := c1.2.1
  have hn := c1.2.2.1
  refine mm_Ev.of (by decide +kernel) (Nat.le_of_ble_eq_true rfl) (mm_rn_ok [] _ (S6_move l d _ _) 1000 _ _ _ _ ?_)
  simp only [G6_move_0, G6_move_1, G6_move_2, G6_move_5, G6_move_8, G6_move_10, G6_move_11, G6_move_12, G6_move_13, G6_move_16, G6_move_17, G6_move_20, G6_move_21, G6_move_22, G6_move_25, G6_move_27, G6_move_28, G6_move_29, G6_move_32, G6_move_33, G6_move_34, G6_move_35, G6_move_38, G6_move_39, G6_move_40, G6_move_43, G6_move_44, G6_move_45, N6_move, ↓mm_kc_ap, ↓mm_cut, mm_en, mm_nth, mm_put, mm_sto, mm_stoL, mm_ag, mm_dr, mm_sw, Nat.reduceSub, List.replicate, Option.toList, List.cons_append, List.nil_append, sq_int, sq_lng, sq_iload, sq_lload, sq_aload, sq_istore, sq_lstore, sq_astore, sq_iinc, sq_iadd, sq_isub, sq_imul, sq_iand, sq_ior, sq_ixor, sq_ishl, sq_ishr, sq_iushr, sq_ladd, sq_lsub, sq_lmul, sq_idiv, sq_irem, sq_ldiv, sq_lrem, sq_i2l, sq_lcmp, sq_dupI, sq_dupR, sq_pop, sq_dup2, sq_goto, sq_if_eq, sq_icmp_eq, sq_if_ne, sq_icmp_ne, sq_if_lt, sq_icmp_lt, sq_if_ge, sq_icmp_ge, sq_if_gt, sq_icmp_gt, sq_if_le, sq_icmp_le, sq_iaload, sq_iastore, sq_alen, sq_places, sq_getI, sq_getR, sq_put, sq_ret, sq_lret, sq_vret, sq_switch, sq_callS, sq_callV, sq_copy, sq_max, sq_min, mm_len_2, mm_len_3, mm_len_4, mm_len_6, mm_len_8, mm_len_10, mm_len_11, mm_len_12, mm_len_13, mm_len_14, mm_len_15, mm_len_17, mm_len_18, mm_len_19, mm_len_20, mm_len_21, mm_len_22, mm_len_23, mm_len_24, mm_len_25]
  try simp only [eq_self, true_and, and_true, Bool.false_eq_true, false_implies, true_implies, true_or, or_true, mm_numI, mm_numL, mm_numN, pp_i10, pp_i01, pp_im1, not_false_eq_true, not_true_eq_false, false_or, or_false]
  refine ⟨1, _, by omega, t_isPost (by decide) c1.1 n8 hn p, rfl, ?_⟩
  rintro _ _ ⟨rfl, rfl⟩
  simp only [G6_move_0, G6_move_1, G6_move_2, G6_move_5, G6_move_8, G6_move_10, G6_move_11, G6_move_12, G6_move_13, G6_move_16, G6_move_17, G6_move_20, G6_move_21, G6_move_22, G6_move_25, G6_move_27, G6_move_28, G6_move_29, G6_move_32, G6_move_33, G6_move_34, G6_move_35, G6_move_38, G6_move_39, G6_move_40, G6_move_43, G6_move_44, G6_move_45, N6_move, ↓mm_kc_ap, ↓mm_cut, mm_en, mm_nth, mm_put, mm_sto, mm_stoL, mm_ag, mm_dr, mm_sw, Nat.reduceSub, List.replicate, Option.toList, List.cons_append, List.nil_append, sq_int, sq_lng, sq_iload, sq_lload, sq_aload, sq_istore, sq_lstore, sq_astore, sq_iinc, sq_iadd, sq_isub, sq_imul, sq_iand, sq_ior, sq_ixor, sq_ishl, sq_ishr, sq_iushr, sq_ladd, sq_lsub, sq_lmul, sq_idiv, sq_irem, sq_ldiv, sq_lrem, sq_i2l, sq_lcmp, sq_dupI, sq_dupR, sq_pop, sq_dup2, sq_goto, sq_if_eq, sq_icmp_eq, sq_if_ne, sq_icmp_ne, sq_if_lt, sq_icmp_lt, sq_if_ge, sq_icmp_ge, sq_if_gt, sq_icmp_gt, sq_if_le, sq_icmp_le, sq_iaload, sq_iastore, sq_alen, sq_places, sq_getI, sq_getR, sq_put, sq_ret, sq_lret, sq_vret, sq_switch, sq_callS, sq_callV, sq_copy, sq_max, sq_min, mm_len_2, mm_len_3, mm_len_4, mm_len_6, mm_len_8, mm_len_10, mm_len_11, mm_len_12, mm_len_13, mm_len_14, mm_len_15, mm_len_17, mm_len_18, mm_len_19, mm_len_20, mm_len_21, mm_len_22, mm_len_23, mm_len_24, mm_len_25]
  try simp only [eq_self, true_and, and_true, Bool.false_eq_true, false_implies, true_implies, true_or, or_true, mm_numI, mm_numL, mm_numN, pp_i10, pp_i01, pp_im1, not_false_eq_true, not_true_eq_false, false_or, or_false]
  rw [pp_bne, pp_beq, decide_eq_true_eq, decide_eq_false_iff_not]
  unfold sp_move
  dsimp only
  refine ⟨fun h1 => ?_, fun h1 => ?_⟩
  · rw [if_pos h1]
    obtain ⟨e1, e2⟩ := pp_post n8 h1
    generalize hj : p.toNatClampNeg = j at e1 e2 ⊢
    subst e1
    refine ⟨1, _, hd, t_ruleOf (by decide) c1 c3.1 c3.2 (show j < 8 by omega), rfl, ?_⟩
    rintro _ _ ⟨rfl, rfl⟩
    simp only [G6_move_0, G6_move_1, G6_move_2, G6_move_5, G6_move_8, G6_move_10, G6_move_11, G6_move_12, G6_move_13, G6_move_16, G6_move_17, G6_move_20, G6_move_21, G6_move_22, G6_move_25, G6_move_27, G6_move_28, G6_move_29, G6_move_32, G6_move_33, G6_move_34, G6_move_35, G6_move_38, G6_move_39, G6_move_40, G6_move_43, G6_move_44, G6_move_45, N6_move, ↓mm_kc_ap, ↓mm_cut, mm_en, mm_nth, mm_put, mm_sto, mm_stoL, mm_ag, mm_dr, mm_sw, Nat.reduceSub, List.replicate, Option.toList, List.cons_append, List.nil_append, sq_int, sq_lng, sq_iload, sq_lload, sq_aload, sq_istore, sq_lstore, sq_astore, sq_iinc, sq_iadd, sq_isub, sq_imul, sq_iand, sq_ior, sq_ixor, sq_ishl, sq_ishr, sq_iushr, sq_ladd, sq_lsub, sq_lmul, sq_idiv, sq_irem, sq_ldiv, sq_lrem, sq_i2l, sq_lcmp, sq_dupI, sq_dupR, sq_pop, sq_dup2, sq_goto, sq_if_eq, sq_icmp_eq, sq_if_ne, sq_icmp_ne, sq_if_lt, sq_icmp_lt, sq_if_ge, sq_icmp_ge, sq_if_gt, sq_icmp_gt, sq_if_le, sq_icmp_le, sq_iaload, sq_iastore, sq_alen, sq_places, sq_getI, sq_getR, sq_put, sq_ret, sq_lret, sq_vret, sq_switch, sq_callS, sq_callV, sq_copy, sq_max, sq_min, mm_len_2, mm_len_3, mm_len_4, mm_len_6, mm_len_8, mm_len_10, mm_len_11, mm_len_12, mm_len_13, mm_len_14, mm_len_15, mm_len_17, mm_len_18, mm_len_19, mm_len_20, mm_len_21, mm_len_22, mm_len_23, mm_len_24, mm_len_25]
    try simp only [eq_self, true_and, and_true, Bool.false_eq_true, false_implies, true_implies, true_or, or_true, mm_numI, mm_numL, mm_numN, pp_i10, pp_i01, pp_im1, not_false_eq_true, not_true_eq_false, false_or, or_false]
    have g1 := mr_rule_le n A ds j
    have g2 := c3.2 j
    rw [c3.1 j (by omega), pp_eqN (by omega) (by omega)]
    refine ⟨vp_in_nI (by omega) (by decide), fun hb => ?_, fun hb => ?_⟩
    · rw [if_pos (show mr_rs n A ds j = true from decide_eq_true hb)]
      refine ⟨1, _, hd, t_ruleOf (by decide) c1 c3.1 c3.2 (show j < 8 by omega), rfl, ?_⟩
      rintro _ _ ⟨rfl, rfl⟩
      simp only [G6_move_0, G6_move_1, G6_move_2, G6_move_5, G6_move_8, G6_move_10, G6_move_11, G6_move_12, G6_move_13, G6_move_16, G6_move_17, G6_move_20, G6_move_21, G6_move_22, G6_move_25, G6_move_27, G6_move_28, G6_move_29, G6_move_32, G6_move_33, G6_move_34, G6_move_35, G6_move_38, G6_move_39, G6_move_40, G6_move_43, G6_move_44, G6_move_45, N6_move, ↓mm_kc_ap, ↓mm_cut, mm_en, mm_nth, mm_put, mm_sto, mm_stoL, mm_ag, mm_dr, mm_sw, Nat.reduceSub, List.replicate, Option.toList, List.cons_append, List.nil_append, sq_int, sq_lng, sq_iload, sq_lload, sq_aload, sq_istore, sq_lstore, sq_astore, sq_iinc, sq_iadd, sq_isub, sq_imul, sq_iand, sq_ior, sq_ixor, sq_ishl, sq_ishr, sq_iushr, sq_ladd, sq_lsub, sq_lmul, sq_idiv, sq_irem, sq_ldiv, sq_lrem, sq_i2l, sq_lcmp, sq_dupI, sq_dupR, sq_pop, sq_dup2, sq_goto, sq_if_eq, sq_icmp_eq, sq_if_ne, sq_icmp_ne, sq_if_lt, sq_icmp_lt, sq_if_ge, sq_icmp_ge, sq_if_gt, sq_icmp_gt, sq_if_le, sq_icmp_le, sq_iaload, sq_iastore, sq_alen, sq_places, sq_getI, sq_getR, sq_put, sq_ret, sq_lret, sq_vret, sq_switch, sq_callS, sq_callV, sq_copy, sq_max, sq_min, mm_len_2, mm_len_3, mm_len_4, mm_len_6, mm_len_8, mm_len_10, mm_len_11, mm_len_12, mm_len_13, mm_len_14, mm_len_15, mm_len_17, mm_len_18, mm_len_19, mm_len_20, mm_len_21, mm_len_22, mm_len_23, mm_len_24, mm_len_25]
      try simp only [eq_self, true_and, and_true, Bool.false_eq_true, false_implies, true_implies, true_or, or_true, mm_numI, mm_numL, mm_numN, pp_i10, pp_i01, pp_im1, not_false_eq_true, not_true_eq_false, false_or, or_false]
      try rw [hj]
      rw [mm_set_same]
      exact ⟨by decide, vp_in_nI (by omega) (by decide), vp_in_nI (by omega) (by decide), rfl, hM'.d20 (fun x hx => mm_set_ne hx) (mr_D_st c3), fun c hc => mm_set_ne (by omega)⟩
    · rw [if_neg (show ¬ mr_rs n A ds j = true from fun z => absurd hb (of_decide_eq_true z))]
      exact ⟨rfl, hM', fun _ _ => rfl⟩
  · rw [if_neg h1]
    exact ⟨rfl, hM', fun _ _ => rfl⟩
def sp_mend (s : ss_T) : Int32 × ss_T := match s with
  | (n, A, mq, pf, ds, sc, tr, lk) => ((mr_go n A 1000 0 ds).1, (n, A, mq, pf, (mr_go n A 1000 0 ds).2, sc, tr, lk))
set_option maxRecDepth 20000 in
theorem u_mend {l : Launch} {d : Nat} (hd : 4 < d) {h : mm_H} {s : ss_T} (hC : ss_C h s) : mm_Ev l d M5_mend [.ref 0] h (ss_pC (.int (sp_mend s).1) (sp_mend s).2 h) := by
  have hC' := hC
  obtain ⟨n, A, mq, pf, ds, sc, tr, lk⟩ := s
  obtain ⟨c1, c2, c3, c4, c5, c6, c7⟩ := hC
  refine mm_Ev.of (by decide +kernel) (Nat.le_of_ble_eq_true rfl) (mm_rn_ok [] _ (S5_mend l d _ _) 1000 _ _ _ _ ?_)
  simp only [G5_mend_0, G5_mend_1, G5_mend_4, G5_mend_7, N5_mend, ↓mm_kc_ap, ↓mm_cut, mm_en, mm_nth, mm_put, mm_sto, mm_stoL, mm_ag, mm_dr, mm_sw, Nat.reduceSub, List.replicate, Option.toList, List.cons_append, List.nil_append, sq_int, sq_lng, sq_iload, sq_lload, sq_aload, sq_istore, sq_lstore, sq_astore, sq_iinc, sq_iadd, sq_isub, sq_imul, sq_iand, sq_ior, sq_ixor, sq_ishl, sq_ishr, sq_iushr, sq_ladd, sq_lsub, sq_lmul, sq_idiv, sq_irem, sq_ldiv, sq_lrem, sq_i2l, sq_lcmp, sq_dupI, sq_dupR, sq_pop, sq_dup2, sq_goto, sq_if_eq, sq_icmp_eq, sq_if_ne, sq_icmp_ne, sq_if_lt, sq_icmp_lt, sq_if_ge, sq_icmp_ge, sq_if_gt, sq_icmp_gt, sq_if_le, sq_icmp_le, sq_iaload, sq_iastore, sq_alen, sq_places, sq_getI, sq_getR, sq_put, sq_ret, sq_lret, sq_vret, sq_switch, sq_callS, sq_callV, sq_copy, sq_max, sq_min, mm_len_2, mm_len_3, mm_len_4, mm_len_6, mm_len_8, mm_len_10, mm_len_11, mm_len_12, mm_len_13, mm_len_14, mm_len_15, mm_len_17, mm_len_18, mm_len_19, mm_len_20, mm_len_21, mm_len_22, mm_len_23, mm_len_24, mm_len_25]
  try simp only [eq_self, true_and, and_true, Bool.false_eq_true, false_implies, true_implies, true_or, or_true, mm_numI, mm_numL, mm_numN, pp_i10, pp_i01, pp_im1, not_false_eq_true, not_true_eq_false, false_or, or_false]
  refine ⟨4, _, hd, t_settle (by decide) c1 c3, rfl, ?_⟩
  rintro _ _ ⟨rfl, hD, hx⟩
  simp only [G5_mend_0, G5_mend_1, G5_mend_4, G5_mend_7, N5_mend, ↓mm_kc_ap, ↓mm_cut, mm_en, mm_nth, mm_put, mm_sto, mm_stoL, mm_ag, mm_dr, mm_sw, Nat.reduceSub, List.replicate, Option.toList, List.cons_append, List.nil_append, sq_int, sq_lng, sq_iload, sq_lload, sq_aload, sq_istore, sq_lstore, sq_astore, sq_iinc, sq_iadd, sq_isub, sq_imul, sq_iand, sq_ior, sq_ixor, sq_ishl, sq_ishr, sq_iushr, sq_ladd, sq_lsub, sq_lmul, sq_idiv, sq_irem, sq_ldiv, sq_lrem, sq_i2l, sq_lcmp, sq_dupI, sq_dupR, sq_pop, sq_dup2, sq_goto, sq_if_eq, sq_icmp_eq, sq_if_ne, sq_icmp_ne, sq_if_lt, sq_icmp_lt, sq_if_ge, sq_icmp_ge, sq_if_gt, sq_icmp_gt, sq_if_le, sq_icmp_le, sq_iaload, sq_iastore, sq_alen, sq_places, sq_getI, sq_getR, sq_put, sq_ret, sq_lret, sq_vret, sq_switch, sq_callS, sq_callV, sq_copy, sq_max, sq_min, mm_len_2, mm_len_3, mm_len_4, mm_len_6, mm_len_8, mm_len_10, mm_len_11, mm_len_12, mm_len_13, mm_len_14, mm_len_15, mm_len_17, mm_len_18, mm_len_19, mm_len_20, mm_len_21, mm_len_22, mm_len_23, mm_len_24, mm_len_25]
  try simp only [eq_self, true_and, and_true, Bool.false_eq_true, false_implies, true_implies, true_or, or_true, mm_numI, mm_numL, mm_numN, pp_i10, pp_i01, pp_im1, not_false_eq_true, not_true_eq_false, false_or, or_false]
  exact ⟨rfl, hC'.d10 hx hD, fun c hc => hx c (by omega)⟩
theorem v_mend {l : Launch} {d : Nat} (hd : 2 < d) {h : mm_H} {s : ss_T} (hM : ss_M h s) : mm_Ev l d M6_mend [.ref 16] h (ss_pM (.int (sp_mend s).1) (sp_mend s).2 h) := by
  have hM' := hM
  obtain ⟨n, A, mq, pf, ds, sc, tr, lk⟩ := s
  obtain ⟨c1, c2, c3, c4, c5, c6⟩ := hM
  refine (t_mmend hd c1 c3).mono ?_
  rintro _ _ ⟨rfl, hD, hx⟩
  exact ⟨rfl, hM'.d20 hx hD, fun c hc => hx c (by omega)⟩
