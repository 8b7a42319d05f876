/-! ===== far, accepts, restless, sets ===== -/
def sp_accepts (p : Int32) (s : ss_T) : Int32 := match s with
  | (n, A, mq, pf, _, sc, _, _) => if 0 ≤ p ∧ p < nI n then pp_b (jj_acc n A mq sc pf p.toNatClampNeg) else -101
set_option maxRecDepth 20000 in
theorem u_accepts {l : Launch} {d : Nat} (hd : 2 < d) {h : mm_H} {s : ss_T} (hW : ss_W s) (hC : ss_C h s) (p : Int32) : mm_Ev l d M5_accepts [.ref 0, .int p] h (ss_pC (.int (sp_accepts p s)) s h) := by
  obtain ⟨n, A, mq, pf, ds, sc, tr, lk⟩ := s
  have hC' := hC
  obtain ⟨c1, c2, c3, c4, c5, c6, c7⟩ := hC
  obtain ⟨w1, w2, w3, w4, w5, w6, w7, w8, w9, w10, w11, w12⟩ := hW
  have hn := c1.2.2.1
  refine mm_Ev.of (by decide +kernel) (Nat.le_of_ble_eq_true rfl) (mm_rn_ok [] _ (S5_accepts l d _ _) 1000 _ _ _ _ ?_)
  simp only [G5_accepts_0, G5_accepts_1, G5_accepts_4, G5_accepts_5, G5_accepts_8, G5_accepts_11, G5_accepts_13, G5_accepts_14, G5_accepts_15, G5_accepts_18, G5_accepts_19, G5_accepts_22, G5_accepts_23, G5_accepts_26, G5_accepts_27, G5_accepts_30, G5_accepts_33, G5_accepts_34, G5_accepts_37, G5_accepts_38, N5_accepts, ↓mm_kc_ap, ↓mm_cut, mm_en, mm_nth, mm_put, mm_sto, mm_stoL, mm_ag, mm_dr, mm_sw, Nat.reduceSub, List.replicate, Option.toList, List.cons_append, List.nil_append, sq_int, sq_lng, sq_iload, sq_lload, sq_aload, sq_istore, sq_lstore, sq_astore, sq_iinc, sq_iadd, sq_isub, sq_imul, sq_iand, sq_ior, sq_ixor, sq_ishl, sq_ishr, sq_iushr, sq_ladd, sq_lsub, sq_lmul, sq_idiv, sq_irem, sq_ldiv, sq_lrem, sq_i2l, sq_lcmp, sq_dupI, sq_dupR, sq_pop, sq_dup2, sq_goto, sq_if_eq, sq_icmp_eq, sq_if_ne, sq_icmp_ne, sq_if_lt, sq_icmp_lt, sq_if_ge, sq_icmp_ge, sq_if_gt, sq_icmp_gt, sq_if_le, sq_icmp_le, sq_iaload, sq_iastore, sq_alen, sq_places, sq_getI, sq_getR, sq_put, sq_ret, sq_lret, sq_vret, sq_switch, sq_callS, sq_callV, sq_copy, sq_max, sq_min, mm_len_2, mm_len_3, mm_len_4, mm_len_6, mm_len_8, mm_len_10, mm_len_11, mm_len_12, mm_len_13, mm_len_14, mm_len_15, mm_len_17, mm_len_18, mm_len_19, mm_len_20, mm_len_21, mm_len_22, mm_len_23, mm_len_24, mm_len_25]
  try simp only [eq_self, true_and, and_true, Bool.false_eq_true, false_implies, true_implies, true_or, or_true, mm_numI, mm_numL, mm_numN, pp_i10, pp_i01, pp_im1, not_false_eq_true, not_true_eq_false, false_or, or_false]
  refine ⟨0, _, by omega, t_has l 0 h p, rfl, ?_⟩
  rintro _ _ ⟨rfl, rfl⟩
  simp only [G5_accepts_0, G5_accepts_1, G5_accepts_4, G5_accepts_5, G5_accepts_8, G5_accepts_11, G5_accepts_13, G5_accepts_14, G5_accepts_15, G5_accepts_18, G5_accepts_19, G5_accepts_22, G5_accepts_23, G5_accepts_26, G5_accepts_27, G5_accepts_30, G5_accepts_33, G5_accepts_34, G5_accepts_37, G5_accepts_38, N5_accepts, ↓mm_kc_ap, ↓mm_cut, mm_en, mm_nth, mm_put, mm_sto, mm_stoL, mm_ag, mm_dr, mm_sw, Nat.reduceSub, List.replicate, Option.toList, List.cons_append, List.nil_append, sq_int, sq_lng, sq_iload, sq_lload, sq_aload, sq_istore, sq_lstore, sq_astore, sq_iinc, sq_iadd, sq_isub, sq_imul, sq_iand, sq_ior, sq_ixor, sq_ishl, sq_ishr, sq_iushr, sq_ladd, sq_lsub, sq_lmul, sq_idiv, sq_irem, sq_ldiv, sq_lrem, sq_i2l, sq_lcmp, sq_dupI, sq_dupR, sq_pop, sq_dup2, sq_goto, sq_if_eq, sq_icmp_eq, sq_if_ne, sq_icmp_ne, sq_if_lt, sq_icmp_lt, sq_if_ge, sq_icmp_ge, sq_if_gt, sq_icmp_gt, sq_if_le, sq_icmp_le, sq_iaload, sq_iastore, sq_alen, sq_places, sq_getI, sq_getR, sq_put, sq_ret, sq_lret, sq_vret, sq_switch, sq_callS, sq_callV, sq_copy, sq_max, sq_min, mm_len_2, mm_len_3, mm_len_4, mm_len_6, mm_len_8, mm_len_10, mm_len_11, mm_len_12, mm_len_13, mm_len_14, mm_len_15, mm_len_17, mm_len_18, mm_len_19, mm_len_20, mm_len_21, mm_len_22, mm_len_23, mm_len_24, mm_len_25]
  try simp only [eq_self, true_and, and_true, Bool.false_eq_true, false_implies, true_implies, true_or, or_true, mm_numI, mm_numL, mm_numN, pp_i10, pp_i01, pp_im1, not_false_eq_true, not_true_eq_false, false_or, or_false]
  rw [pp_if01, pp_if01', hn]
  unfold sp_accepts
  dsimp only
  refine ⟨fun h1 => ?_, fun h1 => ?_⟩
  · rw [if_pos h1]
    obtain ⟨e1, e2⟩ := pp_post w2 h1
    rw [c4]
    generalize hj : p.toNatClampNeg = j at e1 e2 ⊢
    subst e1
    refine ⟨2, _, hd, t_saysYes (by decide) c1 w3 w10 rfl c2 (fun q => Nat.lt_trans (w8 q) (by decide)) (show j < 8 by omega), rfl, rfl, ?_⟩
    rintro _ _ ⟨rfl, rfl⟩
    simp only [G5_accepts_0, G5_accepts_1, G5_accepts_4, G5_accepts_5, G5_accepts_8, G5_accepts_11, G5_accepts_13, G5_accepts_14, G5_accepts_15, G5_accepts_18, G5_accepts_19, G5_accepts_22, G5_accepts_23, G5_accepts_26, G5_accepts_27, G5_accepts_30, G5_accepts_33, G5_accepts_34, G5_accepts_37, G5_accepts_38, N5_accepts, ↓mm_kc_ap, ↓mm_cut, mm_en, mm_nth, mm_put, mm_sto, mm_stoL, mm_ag, mm_dr, mm_sw, Nat.reduceSub, List.replicate, Option.toList, List.cons_append, List.nil_append, sq_int, sq_lng, sq_iload, sq_lload, sq_aload, sq_istore, sq_lstore, sq_astore, sq_iinc, sq_iadd, sq_isub, sq_imul, sq_iand, sq_ior, sq_ixor, sq_ishl, sq_ishr, sq_iushr, sq_ladd, sq_lsub, sq_lmul, sq_idiv, sq_irem, sq_ldiv, sq_lrem, sq_i2l, sq_lcmp, sq_dupI, sq_dupR, sq_pop, sq_dup2, sq_goto, sq_if_eq, sq_icmp_eq, sq_if_ne, sq_icmp_ne, sq_if_lt, sq_icmp_lt, sq_if_ge, sq_icmp_ge, sq_if_gt, sq_icmp_gt, sq_if_le, sq_icmp_le, sq_iaload, sq_iastore, sq_alen, sq_places, sq_getI, sq_getR, sq_put, sq_ret, sq_lret, sq_vret, sq_switch, sq_callS, sq_callV, sq_copy, sq_max, sq_min, mm_len_2, mm_len_3, mm_len_4, mm_len_6, mm_len_8, mm_len_10, mm_len_11, mm_len_12, mm_len_13, mm_len_14, mm_len_15, mm_len_17, mm_len_18, mm_len_19, mm_len_20, mm_len_21, mm_len_22, mm_len_23, mm_len_24, mm_len_25]
    try simp only [eq_self, true_and, and_true, Bool.false_eq_true, false_implies, true_implies, true_or, or_true, mm_numI, mm_numL, mm_numN, pp_i10, pp_i01, pp_im1, not_false_eq_true, not_true_eq_false, false_or, or_false]
    rw [pp_bne, pp_beq]
    refine ⟨fun hb => ⟨?_, hC', fun _ _ => rfl⟩, fun hb => ⟨?_, hC', fun _ _ => rfl⟩⟩
    · rw [hb]; rfl
    · rw [hb]; rfl
  · rw [if_neg h1]
    exact ⟨rfl, hC', fun _ _ => rfl⟩
set_option maxRecDepth 20000 in
theorem v_accepts {l : Launch} {d : Nat} (hd : 2 < d) {h : mm_H} {s : ss_T} (hW : ss_W s) (hM : ss_M h s) (p : Int32) : mm_Ev l d M6_accepts [.ref 16, .int p] h (ss_pM (.int (sp_accepts p s)) s h) := by
  obtain ⟨n, A, mq, pf, ds, sc, tr, lk⟩ := s
  have hM' := hM
  obtain ⟨c1, c2, c3, c4, c5, c6⟩ := hM
  obtain ⟨w1, w2, w3, w4, w5, w6, w7, w8, w9, w10, w11, w12⟩ := hW
  have hn := c1.2.2.1
  refine mm_Ev.of (by decide +kernel) (Nat.le_of_ble_eq_true rfl) (mm_rn_ok [] _ (S6_accepts l d _ _) 1000 _ _ _ _ ?_)
  simp only [G6_accepts_0, G6_accepts_1, G6_accepts_2, G6_accepts_5, G6_accepts_8, G6_accepts_10, G6_accepts_13, G6_accepts_14, G6_accepts_15, G6_accepts_18, G6_accepts_21, G6_accepts_22, G6_accepts_25, G6_accepts_26, N6_accepts, ↓mm_kc_ap, ↓mm_cut, mm_en, mm_nth, mm_put, mm_sto, mm_stoL, mm_ag, mm_dr, mm_sw, Nat.reduceSub, List.replicate, Option.toList, List.cons_append, List.nil_append, sq_int, sq_lng, sq_iload, sq_lload, sq_aload, sq_istore, sq_lstore, sq_astore, sq_iinc, sq_iadd, sq_isub, sq_imul, sq_iand, sq_ior, sq_ixor, sq_ishl, sq_ishr, sq_iushr, sq_ladd, sq_lsub, sq_lmul, sq_idiv, sq_irem, sq_ldiv, sq_lrem, sq_i2l, sq_lcmp, sq_dupI, sq_dupR, sq_pop, sq_dup2, sq_goto, sq_if_eq, sq_icmp_eq, sq_if_ne, sq_icmp_ne, sq_if_lt, sq_icmp_lt, sq_if_ge, sq_icmp_ge, sq_if_gt, sq_icmp_gt, sq_if_le, sq_icmp_le, sq_iaload, sq_iastore, sq_alen, sq_places, sq_getI, sq_getR, sq_put, sq_ret, sq_lret, sq_vret, sq_switch, sq_callS, sq_callV, sq_copy, sq_max, sq_min, mm_len_2, mm_len_3, mm_len_4, mm_len_6, mm_len_8, mm_len_10, mm_len_11, mm_len_12, mm_len_13, mm_len_14, mm_len_15, mm_len_17, mm_len_18, mm_len_19, mm_len_20, mm_len_21, mm_len_22, mm_len_23, mm_len_24, mm_len_25]
  try simp only [eq_self, true_and, and_true, Bool.false_eq_true, false_implies, true_implies, true_or, or_true, mm_numI, mm_numL, mm_numN, pp_i10, pp_i01, pp_im1, not_false_eq_true, not_true_eq_false, false_or, or_false]
  refine ⟨1, _, by omega, t_isPost (by decide) c1.1 w2 hn p, rfl, ?_⟩
  rintro _ _ ⟨rfl, rfl⟩
  simp only [G6_accepts_0, G6_accepts_1, G6_accepts_2, G6_accepts_5, G6_accepts_8, G6_accepts_10, G6_accepts_13, G6_accepts_14, G6_accepts_15, G6_accepts_18, G6_accepts_21, G6_accepts_22, G6_accepts_25, G6_accepts_26, N6_accepts, ↓mm_kc_ap, ↓mm_cut, mm_en, mm_nth, mm_put, mm_sto, mm_stoL, mm_ag, mm_dr, mm_sw, Nat.reduceSub, List.replicate, Option.toList, List.cons_append, List.nil_append, sq_int, sq_lng, sq_iload, sq_lload, sq_aload, sq_istore, sq_lstore, sq_astore, sq_iinc, sq_iadd, sq_isub, sq_imul, sq_iand, sq_ior, sq_ixor, sq_ishl, sq_ishr, sq_iushr, sq_ladd, sq_lsub, sq_lmul, sq_idiv, sq_irem, sq_ldiv, sq_lrem, sq_i2l, sq_lcmp, sq_dupI, sq_dupR, sq_pop, sq_dup2, sq_goto, sq_if_eq, sq_icmp_eq, sq_if_ne, sq_icmp_ne, sq_if_lt, sq_icmp_lt, sq_if_ge, sq_icmp_ge, sq_if_gt, sq_icmp_gt, sq_if_le, sq_icmp_le, sq_iaload, sq_iastore, sq_alen, sq_places, sq_getI, sq_getR, sq_put, sq_ret, sq_lret, sq_vret, sq_switch, sq_callS, sq_callV, sq_copy, sq_max, sq_min, mm_len_2, mm_len_3, mm_len_4, mm_len_6, mm_len_8, mm_len_10, mm_len_11, mm_len_12, mm_len_13, mm_len_14, mm_len_15, mm_len_17, mm_len_18, mm_len_19, mm_len_20, mm_len_21, mm_len_22, mm_len_23, mm_len_24, mm_len_25]
  try simp only [eq_self, true_and, and_true, Bool.false_eq_true, false_implies, true_implies, true_or, or_true, mm_numI, mm_numL, mm_numN, pp_i10, pp_i01, pp_im1, not_false_eq_true, not_true_eq_false, false_or, or_false]
  rw [pp_bne, pp_beq, decide_eq_true_eq, decide_eq_false_iff_not]
  unfold sp_accepts
  dsimp only
  refine ⟨fun h1 => ?_, fun h1 => ?_⟩
  · rw [if_pos h1]
    obtain ⟨e1, e2⟩ := pp_post w2 h1
    generalize hj : p.toNatClampNeg = j at e1 e2 ⊢
    subst e1
    refine ⟨2, _, hd, t_hasAccepted (by decide) c1 w10 c4 c2 (fun q => Nat.lt_trans (w8 q) (by decide)) (show j < 8 by omega), rfl, ?_⟩
    rintro _ _ ⟨rfl, rfl⟩
    simp only [G6_accepts_0, G6_accepts_1, G6_accepts_2, G6_accepts_5, G6_accepts_8, G6_accepts_10, G6_accepts_13, G6_accepts_14, G6_accepts_15, G6_accepts_18, G6_accepts_21, G6_accepts_22, G6_accepts_25, G6_accepts_26, N6_accepts, ↓mm_kc_ap, ↓mm_cut, mm_en, mm_nth, mm_put, mm_sto, mm_stoL, mm_ag, mm_dr, mm_sw, Nat.reduceSub, List.replicate, Option.toList, List.cons_append, List.nil_append, sq_int, sq_lng, sq_iload, sq_lload, sq_aload, sq_istore, sq_lstore, sq_astore, sq_iinc, sq_iadd, sq_isub, sq_imul, sq_iand, sq_ior, sq_ixor, sq_ishl, sq_ishr, sq_iushr, sq_ladd, sq_lsub, sq_lmul, sq_idiv, sq_irem, sq_ldiv, sq_lrem, sq_i2l, sq_lcmp, sq_dupI, sq_dupR, sq_pop, sq_dup2, sq_goto, sq_if_eq, sq_icmp_eq, sq_if_ne, sq_icmp_ne, sq_if_lt, sq_icmp_lt, sq_if_ge, sq_icmp_ge, sq_if_gt, sq_icmp_gt, sq_if_le, sq_icmp_le, sq_iaload, sq_iastore, sq_alen, sq_places, sq_getI, sq_getR, sq_put, sq_ret, sq_lret, sq_vret, sq_switch, sq_callS, sq_callV, sq_copy, sq_max, sq_min, mm_len_2, mm_len_3, mm_len_4, mm_len_6, mm_len_8, mm_len_10, mm_len_11, mm_len_12, mm_len_13, mm_len_14, mm_len_15, mm_len_17, mm_len_18, mm_len_19, mm_len_20, mm_len_21, mm_len_22, mm_len_23, mm_len_24, mm_len_25]
    try simp only [eq_self, true_and, and_true, Bool.false_eq_true, false_implies, true_implies, true_or, or_true, mm_numI, mm_numL, mm_numN, pp_i10, pp_i01, pp_im1, not_false_eq_true, not_true_eq_false, false_or, or_false]
    rw [pp_bne, pp_beq]
    refine ⟨fun hb => ⟨?_, hM', fun _ _ => rfl⟩, fun hb => ⟨?_, hM', fun _ _ => rfl⟩⟩
    · rw [hb]; rfl
    · rw [hb]; rfl
  · rw [if_neg h1]
    exact ⟨rfl, hM', fun _ _ => rfl⟩
