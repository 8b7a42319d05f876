/-! ===== proof, distance ===== -/
def sp_proof (p v : Int32) (s : ss_T) : Int32 × ss_T := match s with
  | (n, A, mq, pf, ds, sc, tr, lk) => if 0 ≤ p ∧ p < nI n then (if 0 ≤ v ∧ v ≤ 63 then (nI (pf p.toNatClampNeg), (n, A, mq, ss_up pf p.toNatClampNeg v.toNatClampNeg, ds, sc, tr, lk)) else (-102, s)) else (-101, s)
set_option maxRecDepth 20000 in
theorem u_proof {l : Launch} {d : Nat} (hd : 0 < d) {h : mm_H} {s : ss_T} (hC : ss_C h s) (p v : Int32) : mm_Ev l d M5_proof [.ref 0, .int p, .int v] h (ss_pC (.int (sp_proof p v s).1) (sp_proof p v s).2 h) := by
  obtain ⟨n, A, mq, pf, ds, sc, tr, lk⟩ := s
  have hC' := hC
  obtain ⟨c1, c2, c3, c4, c5, c6, c7⟩ := hC
  have n8 := c1.2.1
  have hn := c1.2.2.1
  refine mm_Ev.of (by decide +kernel) (Nat.le_of_ble_eq_true rfl) (mm_rn_ok [] _ (S5_proof l d _ _) 1000 _ _ _ _ ?_)
  simp only [G5_proof_0, G5_proof_1, G5_proof_4, G5_proof_5, G5_proof_8, G5_proof_11, G5_proof_13, G5_proof_14, G5_proof_15, G5_proof_18, G5_proof_19, G5_proof_21, G5_proof_24, G5_proof_26, G5_proof_27, G5_proof_28, G5_proof_31, G5_proof_32, G5_proof_33, G5_proof_34, G5_proof_35, G5_proof_38, G5_proof_39, G5_proof_40, G5_proof_41, G5_proof_42, N5_proof, ↓mm_kc_ap, ↓mm_cut, mm_en, mm_nth, mm_put, mm_sto, mm_stoL, mm_ag, mm_dr, mm_sw, Nat.reduceSub, List.replicate, Option.toList, List.cons_append, List.nil_append, sq_int, sq_lng, sq_iload, sq_lload, sq_aload, sq_istore, sq_lstore, sq_astore, sq_iinc, sq_iadd, sq_isub, sq_imul, sq_iand, sq_ior, sq_ixor, sq_ishl, sq_ishr, sq_iushr, sq_ladd, sq_lsub, sq_lmul, sq_idiv, sq_irem, sq_ldiv, sq_lrem, sq_i2l, sq_lcmp, sq_dupI, sq_dupR, sq_pop, sq_dup2, sq_goto, sq_if_eq, sq_icmp_eq, sq_if_ne, sq_icmp_ne, sq_if_lt, sq_icmp_lt, sq_if_ge, sq_icmp_ge, sq_if_gt, sq_icmp_gt, sq_if_le, sq_icmp_le, sq_iaload, sq_iastore, sq_alen, sq_places, sq_getI, sq_getR, sq_put, sq_ret, sq_lret, sq_vret, sq_switch, sq_callS, sq_callV, sq_copy, sq_max, sq_min, mm_len_2, mm_len_3, mm_len_4, mm_len_6, mm_len_8, mm_len_10, mm_len_11, mm_len_12, mm_len_13, mm_len_14, mm_len_15, mm_len_17, mm_len_18, mm_len_19, mm_len_20, mm_len_21, mm_len_22, mm_len_23, mm_len_24, mm_len_25]
  try simp only [eq_self, true_and, and_true, Bool.false_eq_true, false_implies, true_implies, true_or, or_true, mm_numI, mm_numL, mm_numN, pp_i10, pp_i01, pp_im1, not_false_eq_true, not_true_eq_false, false_or, or_false]
  refine ⟨0, _, hd, t_has l 0 h p, rfl, ?_⟩
  rintro _ _ ⟨rfl, rfl⟩
  simp only [G5_proof_0, G5_proof_1, G5_proof_4, G5_proof_5, G5_proof_8, G5_proof_11, G5_proof_13, G5_proof_14, G5_proof_15, G5_proof_18, G5_proof_19, G5_proof_21, G5_proof_24, G5_proof_26, G5_proof_27, G5_proof_28, G5_proof_31, G5_proof_32, G5_proof_33, G5_proof_34, G5_proof_35, G5_proof_38, G5_proof_39, G5_proof_40, G5_proof_41, G5_proof_42, N5_proof, ↓mm_kc_ap, ↓mm_cut, mm_en, mm_nth, mm_put, mm_sto, mm_stoL, mm_ag, mm_dr, mm_sw, Nat.reduceSub, List.replicate, Option.toList, List.cons_append, List.nil_append, sq_int, sq_lng, sq_iload, sq_lload, sq_aload, sq_istore, sq_lstore, sq_astore, sq_iinc, sq_iadd, sq_isub, sq_imul, sq_iand, sq_ior, sq_ixor, sq_ishl, sq_ishr, sq_iushr, sq_ladd, sq_lsub, sq_lmul, sq_idiv, sq_irem, sq_ldiv, sq_lrem, sq_i2l, sq_lcmp, sq_dupI, sq_dupR, sq_pop, sq_dup2, sq_goto, sq_if_eq, sq_icmp_eq, sq_if_ne, sq_icmp_ne, sq_if_lt, sq_icmp_lt, sq_if_ge, sq_icmp_ge, sq_if_gt, sq_icmp_gt, sq_if_le, sq_icmp_le, sq_iaload, sq_iastore, sq_alen, sq_places, sq_getI, sq_getR, sq_put, sq_ret, sq_lret, sq_vret, sq_switch, sq_callS, sq_callV, sq_copy, sq_max, sq_min, mm_len_2, mm_len_3, mm_len_4, mm_len_6, mm_len_8, mm_len_10, mm_len_11, mm_len_12, mm_len_13, mm_len_14, mm_len_15, mm_len_17, mm_len_18, mm_len_19, mm_len_20, mm_len_21, mm_len_22, mm_len_23, mm_len_24, mm_len_25]
  try simp only [eq_self, true_and, and_true, Bool.false_eq_true, false_implies, true_implies, true_or, or_true, mm_numI, mm_numL, mm_numN, pp_i10, pp_i01, pp_im1, not_false_eq_true, not_true_eq_false, false_or, or_false]
  rw [pp_if01, pp_if01', hn]
  unfold sp_proof
  dsimp only
  refine ⟨fun h1 => ?_, fun h1 => ?_⟩
  · rw [if_pos h1]
    obtain ⟨e1, e2⟩ := pp_post n8 h1
    have hin : vp_in p 8 := by rw [e1]; exact vp_in_nI (by omega) (by decide)
    refine ⟨fun h2 => ?_, fun h2 => ⟨fun h3 => ⟨hin, by decide, hin, ?_⟩, fun h3 => ?_⟩⟩
    · rw [if_neg (fun z => absurd z.1 (Int32.not_le.mpr h2))]
      exact ⟨rfl, hC', fun _ _ => rfl⟩
    · rw [if_pos ⟨Int32.not_lt.mp h2, h3⟩]
      have hv := pp_nat (m := 63) (Int32.not_lt.mp h2) (Int32.le_iff_toInt_le.mp h3)
      refine ⟨by rw [c2 _ (by omega)], ⟨?_, ?_, ?_, ?_, ?_, ?_, ?_⟩, fun c hc => mm_set_ne (by omega)⟩
      · exact c1.cg (mm_set_ne (by decide)) (mm_set_ne (by decide)) (mm_set_ne (by decide))
      · intro q hq
        unfold ss_up
        by_cases e : q = p.toNatClampNeg
        · rw [if_pos e, e, mm_set_same]; exact hv.1
        · rw [if_neg e, mm_set_other e]; exact c2 q hq
      · exact ⟨by rw [mm_set_ne (by decide)]; exact c3.1, c3.2⟩
      · rw [mm_set_ne (by decide)]; exact c4
      · rw [mm_set_ne (by decide)]; exact c5
      · rw [mm_set_ne (by decide)]; exact c6
      · rw [mm_set_ne (by decide)]; exact c7
    · rw [if_neg (fun z => absurd z.2 h3)]
      exact ⟨rfl, hC', fun _ _ => rfl⟩
  · rw [if_neg h1]
    exact ⟨rfl, hC', fun _ _ => rfl⟩
set_option maxRecDepth 20000 in
theorem v_proof {l : Launch} {d : Nat} (hd : 1 < d) {h : mm_H} {s : ss_T} (hM : ss_M h s) (p v : Int32) : mm_Ev l d M6_proof [.ref 16, .int p, .int v] h (ss_pM (.int (sp_proof p v s).1) (sp_proof p v s).2 h) := by
  obtain ⟨n, A, mq, pf, ds, sc, tr, lk⟩ := s
  have hM' := hM
  obtain ⟨c1, c2, c3, c4, c5, c6⟩ := hM
  have n8 := c1.2.1
  have hn := c1.2.2.1
  refine mm_Ev.of (by decide +kernel) (Nat.le_of_ble_eq_true rfl) (mm_rn_ok [] _ (S6_proof l d _ _) 1000 _ _ _ _ ?_)
  simp only [G6_proof_0, G6_proof_1, G6_proof_2, G6_proof_5, G6_proof_8, G6_proof_10, G6_proof_11, G6_proof_12, G6_proof_13, G6_proof_14, G6_proof_17, G6_proof_20, G6_proof_23, G6_proof_25, G6_proof_26, G6_proof_27, G6_proof_30, G6_proof_31, G6_proof_32, G6_proof_33, G6_proof_34, G6_proof_37, G6_proof_38, G6_proof_39, G6_proof_40, G6_proof_41, N6_proof, ↓mm_kc_ap, ↓mm_cut, mm_en, mm_nth, mm_put, mm_sto, mm_stoL, mm_ag, mm_dr, mm_sw, Nat.reduceSub, List.replicate, Option.toList, List.cons_append, List.nil_append, sq_int, sq_lng, sq_iload, sq_lload, sq_aload, sq_istore, sq_lstore, sq_astore, sq_iinc, sq_iadd, sq_isub, sq_imul, sq_iand, sq_ior, sq_ixor, sq_ishl, sq_ishr, sq_iushr, sq_ladd, sq_lsub, sq_lmul, sq_idiv, sq_irem, sq_ldiv, sq_lrem, sq_i2l, sq_lcmp, sq_dupI, sq_dupR, sq_pop, sq_dup2, sq_goto, sq_if_eq, sq_icmp_eq, sq_if_ne, sq_icmp_ne, sq_if_lt, sq_icmp_lt, sq_if_ge, sq_icmp_ge, sq_if_gt, sq_icmp_gt, sq_if_le, sq_icmp_le, sq_iaload, sq_iastore, sq_alen, sq_places, sq_getI, sq_getR, sq_put, sq_ret, sq_lret, sq_vret, sq_switch, sq_callS, sq_callV, sq_copy, sq_max, sq_min, mm_len_2, mm_len_3, mm_len_4, mm_len_6, mm_len_8, mm_len_10, mm_len_11, mm_len_12, mm_len_13, mm_len_14, mm_len_15, mm_len_17, mm_len_18, mm_len_19, mm_len_20, mm_len_21, mm_len_22, mm_len_23, mm_len_24, mm_len_25]
  try simp only [eq_self, true_and, and_true, Bool.false_eq_true, false_implies, true_implies, true_or, or_true, mm_numI, mm_numL, mm_numN, pp_i10, pp_i01, pp_im1, not_false_eq_true, not_true_eq_false, false_or, or_false]
  refine ⟨1, _, hd, t_isPost (by decide) c1.1 n8 hn p, rfl, ?_⟩
  rintro _ _ ⟨rfl, rfl⟩
  simp only [G6_proof_0, G6_proof_1, G6_proof_2, G6_proof_5, G6_proof_8, G6_proof_10, G6_proof_11, G6_proof_12, G6_proof_13, G6_proof_14, G6_proof_17, G6_proof_20, G6_proof_23, G6_proof_25, G6_proof_26, G6_proof_27, G6_proof_30, G6_proof_31, G6_proof_32, G6_proof_33, G6_proof_34, G6_proof_37, G6_proof_38, G6_proof_39, G6_proof_40, G6_proof_41, N6_proof, ↓mm_kc_ap, ↓mm_cut, mm_en, mm_nth, mm_put, mm_sto, mm_stoL, mm_ag, mm_dr, mm_sw, Nat.reduceSub, List.replicate, Option.toList, List.cons_append, List.nil_append, sq_int, sq_lng, sq_iload, sq_lload, sq_aload, sq_istore, sq_lstore, sq_astore, sq_iinc, sq_iadd, sq_isub, sq_imul, sq_iand, sq_ior, sq_ixor, sq_ishl, sq_ishr, sq_iushr, sq_ladd, sq_lsub, sq_lmul, sq_idiv, sq_irem, sq_ldiv, sq_lrem, sq_i2l, sq_lcmp, sq_dupI, sq_dupR, sq_pop, sq_dup2, sq_goto, sq_if_eq, sq_icmp_eq, sq_if_ne, sq_icmp_ne, sq_if_lt, sq_icmp_lt, sq_if_ge, sq_icmp_ge, sq_if_gt, sq_icmp_gt, sq_if_le, sq_icmp_le, sq_iaload, sq_iastore, sq_alen, sq_places, sq_getI, sq_getR, sq_put, sq_ret, sq_lret, sq_vret, sq_switch, sq_callS, sq_callV, sq_copy, sq_max, sq_min, mm_len_2, mm_len_3, mm_len_4, mm_len_6, mm_len_8, mm_len_10, mm_len_11, mm_len_12, mm_len_13, mm_len_14, mm_len_15, mm_len_17, mm_len_18, mm_len_19, mm_len_20, mm_len_21, mm_len_22, mm_len_23, mm_len_24, mm_len_25]
  try simp only [eq_self, true_and, and_true, Bool.false_eq_true, false_implies, true_implies, true_or, or_true, mm_numI, mm_numL, mm_numN, pp_i10, pp_i01, pp_im1, not_false_eq_true, not_true_eq_false, false_or, or_false]
  rw [pp_bne, pp_beq, decide_eq_true_eq, decide_eq_false_iff_not]
  unfold sp_proof
  dsimp only
  refine ⟨fun h1 => ?_, fun h1 => ?_⟩
  · rw [if_pos h1]
    obtain ⟨e1, e2⟩ := pp_post n8 h1
    have hin : vp_in p 8 := by rw [e1]; exact vp_in_nI (by omega) (by decide)
    refine ⟨0, _, by omega, t_in l 0 _ _ _ _, rfl, rfl, ?_⟩
    rintro _ _ ⟨rfl, rfl⟩
    simp only [G6_proof_0, G6_proof_1, G6_proof_2, G6_proof_5, G6_proof_8, G6_proof_10, G6_proof_11, G6_proof_12, G6_proof_13, G6_proof_14, G6_proof_17, G6_proof_20, G6_proof_23, G6_proof_25, G6_proof_26, G6_proof_27, G6_proof_30, G6_proof_31, G6_proof_32, G6_proof_33, G6_proof_34, G6_proof_37, G6_proof_38, G6_proof_39, G6_proof_40, G6_proof_41, N6_proof, ↓mm_kc_ap, ↓mm_cut, mm_en, mm_nth, mm_put, mm_sto, mm_stoL, mm_ag, mm_dr, mm_sw, Nat.reduceSub, List.replicate, Option.toList, List.cons_append, List.nil_append, sq_int, sq_lng, sq_iload, sq_lload, sq_aload, sq_istore, sq_lstore, sq_astore, sq_iinc, sq_iadd, sq_isub, sq_imul, sq_iand, sq_ior, sq_ixor, sq_ishl, sq_ishr, sq_iushr, sq_ladd, sq_lsub, sq_lmul, sq_idiv, sq_irem, sq_ldiv, sq_lrem, sq_i2l, sq_lcmp, sq_dupI, sq_dupR, sq_pop, sq_dup2, sq_goto, sq_if_eq, sq_icmp_eq, sq_if_ne, sq_icmp_ne, sq_if_lt, sq_icmp_lt, sq_if_ge, sq_icmp_ge, sq_if_gt, sq_icmp_gt, sq_if_le, sq_icmp_le, sq_iaload, sq_iastore, sq_alen, sq_places, sq_getI, sq_getR, sq_put, sq_ret, sq_lret, sq_vret, sq_switch, sq_callS, sq_callV, sq_copy, sq_max, sq_min, mm_len_2, mm_len_3, mm_len_4, mm_len_6, mm_len_8, mm_len_10, mm_len_11, mm_len_12, mm_len_13, mm_len_14, mm_len_15, mm_len_17, mm_len_18, mm_len_19, mm_len_20, mm_len_21, mm_len_22, mm_len_23, mm_len_24, mm_len_25]
    try simp only [eq_self, true_and, and_true, Bool.false_eq_true, false_implies, true_implies, true_or, or_true, mm_numI, mm_numL, mm_numN, pp_i10, pp_i01, pp_im1, not_false_eq_true, not_true_eq_false, false_or, or_false]
    rw [pp_in64 (k := v) (lo := 0) (hi := 63) (lo' := 0) (hi' := 63) rfl rfl, pp_bne, pp_beq, decide_eq_true_eq, decide_eq_false_iff_not]
    refine ⟨fun h2 => ⟨hin, by decide, hin, ?_⟩, fun h2 => ?_⟩
    · rw [if_pos h2]
      have hv := pp_nat (m := 63) h2.1 (Int32.le_iff_toInt_le.mp h2.2)
      refine ⟨by rw [c2 _ (by omega)], ⟨?_, ?_, ?_, ?_, ?_, ?_⟩, fun c hc => mm_set_ne (by omega)⟩
      · exact c1.cg (mm_set_ne (by decide)) (mm_set_ne (by decide)) (mm_set_ne (by decide))
      · intro q hq
        unfold ss_up
        by_cases e : q = p.toNatClampNeg
        · rw [if_pos e, e, mm_set_same]; exact hv.1
        · rw [if_neg e, mm_set_other e]; exact c2 q hq
      · exact ⟨by rw [mm_set_ne (by decide)]; exact c3.1, c3.2⟩
      · rw [mm_set_ne (by decide)]; exact c4
      · rw [mm_set_ne (by decide)]; exact c5
      · rw [mm_set_ne (by decide)]; exact c6
    · rw [if_neg h2]
      exact ⟨rfl, hM', fun _ _ => rfl⟩
  · rw [if_neg h1]
    exact ⟨rfl, hM', fun _ _ => rfl⟩
def sp_distance (p v : Int32) (s : ss_T) : Int32 × ss_T := match s with
  | (n, A, mq, pf, ds, sc, tr, lk) => if 0 ≤ p ∧ p < nI n then (if 0 ≤ v ∧ v ≤ 4 then (nI (ds p.toNatClampNeg), (n, A, mq, pf, ss_up ds p.toNatClampNeg v.toNatClampNeg, sc, tr, lk)) else (-102, s)) else (-101, s)
set_option maxRecDepth 20000 in
theorem u_distance {l : Launch} {d : Nat} (hd : 0 < d) {h : mm_H} {s : ss_T} (hC : ss_C h s) (p v : Int32) : mm_Ev l d M5_distance [.ref 0, .int p, .int v] h (ss_pC (.int (sp_distance p v s).1) (sp_distance p v s).2 h) := by
  obtain ⟨n, A, mq, pf, ds, sc, tr, lk⟩ := s
  have hC' := hC
  obtain ⟨c1, c2, c3, c4, c5, c6, c7⟩ := hC
  have n8 := c1.2.1
  have hn := c1.2.2.1
  refine mm_Ev.of (by decide +kernel) (Nat.le_of_ble_eq_true rfl) (mm_rn_ok [] _ (S5_distance l d _ _) 1000 _ _ _ _ ?_)
  simp only [G5_distance_0, G5_distance_1, G5_distance_4, G5_distance_5, G5_distance_8, G5_distance_11, G5_distance_13, G5_distance_14, G5_distance_15, G5_distance_18, G5_distance_19, G5_distance_20, G5_distance_23, G5_distance_25, G5_distance_26, G5_distance_27, G5_distance_30, G5_distance_33, G5_distance_34, G5_distance_35, G5_distance_36, G5_distance_37, G5_distance_40, G5_distance_43, G5_distance_44, G5_distance_45, G5_distance_46, G5_distance_47, N5_distance, ↓mm_kc_ap, ↓mm_cut, mm_en, mm_nth, mm_put, mm_sto, mm_stoL, mm_ag, mm_dr, mm_sw, Nat.reduceSub, List.replicate, Option.toList, List.cons_append, List.nil_append, sq_int, sq_lng, sq_iload, sq_lload, sq_aload, sq_istore, sq_lstore, sq_astore, sq_iinc, sq_iadd, sq_isub, sq_imul, sq_iand, sq_ior, sq_ixor, sq_ishl, sq_ishr, sq_iushr, sq_ladd, sq_lsub, sq_lmul, sq_idiv, sq_irem, sq_ldiv, sq_lrem, sq_i2l, sq_lcmp, sq_dupI, sq_dupR, sq_pop, sq_dup2, sq_goto, sq_if_eq, sq_icmp_eq, sq_if_ne, sq_icmp_ne, sq_if_lt, sq_icmp_lt, sq_if_ge, sq_icmp_ge, sq_if_gt, sq_icmp_gt, sq_if_le, sq_icmp_le, sq_iaload, sq_iastore, sq_alen, sq_places, sq_getI, sq_getR, sq_put, sq_ret, sq_lret, sq_vret, sq_switch, sq_callS, sq_callV, sq_copy, sq_max, sq_min, mm_len_2, mm_len_3, mm_len_4, mm_len_6, mm_len_8, mm_len_10, mm_len_11, mm_len_12, mm_len_13, mm_len_14, mm_len_15, mm_len_17, mm_len_18, mm_len_19, mm_len_20, mm_len_21, mm_len_22, mm_len_23, mm_len_24, mm_len_25]
  try simp only [eq_self, true_and, and_true, Bool.false_eq_true, false_implies, true_implies, true_or, or_true, mm_numI, mm_numL, mm_numN, pp_i10, pp_i01, pp_im1, not_false_eq_true, not_true_eq_false, false_or, or_false]
  refine ⟨0, _, hd, t_has l 0 h p, rfl, ?_⟩
  rintro _ _ ⟨rfl, rfl⟩
  simp only [G5_distance_0, G5_distance_1, G5_distance_4, G5_distance_5, G5_distance_8, G5_distance_11, G5_distance_13, G5_distance_14, G5_distance_15, G5_distance_18, G5_distance_19, G5_distance_20, G5_distance_23, G5_distance_25, G5_distance_26, G5_distance_27, G5_distance_30, G5_distance_33, G5_distance_34, G5_distance_35, G5_distance_36, G5_distance_37, G5_distance_40, G5_distance_43, G5_distance_44, G5_distance_45, G5_distance_46, G5_distance_47, N5_distance, ↓mm_kc_ap, ↓mm_cut, mm_en, mm_nth, mm_put, mm_sto, mm_stoL, mm_ag, mm_dr, mm_sw, Nat.reduceSub, List.replicate, Option.toList, List.cons_append, List.nil_append, sq_int, sq_lng, sq_iload, sq_lload, sq_aload, sq_istore, sq_lstore, sq_astore, sq_iinc, sq_iadd, sq_isub, sq_imul, sq_iand, sq_ior, sq_ixor, sq_ishl, sq_ishr, sq_iushr, sq_ladd, sq_lsub, sq_lmul, sq_idiv, sq_irem, sq_ldiv, sq_lrem, sq_i2l, sq_lcmp, sq_dupI, sq_dupR, sq_pop, sq_dup2, sq_goto, sq_if_eq, sq_icmp_eq, sq_if_ne, sq_icmp_ne, sq_if_lt, sq_icmp_lt, sq_if_ge, sq_icmp_ge, sq_if_gt, sq_icmp_gt, sq_if_le, sq_icmp_le, sq_iaload, sq_iastore, sq_alen, sq_places, sq_getI, sq_getR, sq_put, sq_ret, sq_lret, sq_vret, sq_switch, sq_callS, sq_callV, sq_copy, sq_max, sq_min, mm_len_2, mm_len_3, mm_len_4, mm_len_6, mm_len_8, mm_len_10, mm_len_11, mm_len_12, mm_len_13, mm_len_14, mm_len_15, mm_len_17, mm_len_18, mm_len_19, mm_len_20, mm_len_21, mm_len_22, mm_len_23, mm_len_24, mm_len_25]
  try simp only [eq_self, true_and, and_true, Bool.false_eq_true, false_implies, true_implies, true_or, or_true, mm_numI, mm_numL, mm_numN, pp_i10, pp_i01, pp_im1, not_false_eq_true, not_true_eq_false, false_or, or_false]
  rw [pp_if01, pp_if01', hn]
  unfold sp_distance
  dsimp only
  refine ⟨fun h1 => ?_, fun h1 => ?_⟩
  · rw [if_pos h1]
    obtain ⟨e1, e2⟩ := pp_post n8 h1
    have hin : vp_in p 8 := by rw [e1]; exact vp_in_nI (by omega) (by decide)
    refine ⟨fun h2 => ?_, fun h2 => ⟨fun h3 => ⟨hin, by decide, hin, ?_⟩, fun h3 => ?_⟩⟩
    · rw [if_neg (fun z => absurd z.1 (Int32.not_le.mpr h2))]
      exact ⟨rfl, hC', fun _ _ => rfl⟩
    · rw [if_pos ⟨Int32.not_lt.mp h2, h3⟩]
      have hv := pp_nat (m := 4) (Int32.not_lt.mp h2) (Int32.le_iff_toInt_le.mp h3)
      refine ⟨by rw [c3.1 _ (by omega)], ⟨?_, ?_, ?_, ?_, ?_, ?_, ?_⟩, fun c hc => mm_set_ne (by omega)⟩
      · exact c1.cg (mm_set_ne (by decide)) (mm_set_ne (by decide)) (mm_set_ne (by decide))
      · rw [mm_set_ne (by decide)]; exact c2
      · refine ⟨?_, ?_⟩
        · intro q hq
          unfold ss_up
          by_cases e : q = p.toNatClampNeg
          · rw [if_pos e, e, mm_set_same]; exact hv.1
          · rw [if_neg e, mm_set_other e]; exact c3.1 q hq
        · intro q
          unfold ss_up
          split
          · omega
          · exact c3.2 q
      · rw [mm_set_ne (by decide)]; exact c4
      · rw [mm_set_ne (by decide)]; exact c5
      · rw [mm_set_ne (by decide)]; exact c6
      · rw [mm_set_ne (by decide)]; exact c7
    · rw [if_neg (fun z => absurd z.2 h3)]
      exact ⟨rfl, hC', fun _ _ => rfl⟩
  · rw [if_neg h1]
    exact ⟨rfl, hC', fun _ _ => rfl⟩
set_option maxRecDepth 20000 in
theorem v_distance {l : Launch} {d : Nat} (hd : 1 < d) {h : mm_H} {s : ss_T} (hM : ss_M h s) (p v : Int32) : mm_Ev l d M6_distance [.ref 16, .int p, .int v] h (ss_pM (.int (sp_distance p v s).1) (sp_distance p v s).2 h) := by
  obtain ⟨n, A, mq, pf, ds, sc, tr, lk⟩ := s
  have hM' := hM
  obtain ⟨c1, c2, c3, c4, c5, c6⟩ := hM
  have n8 := c1.2.1
  have hn := c1.2.2.1
  refine mm_Ev.of (by decide +kernel) (Nat.le_of_ble_eq_true rfl) (mm_rn_ok [] _ (S6_distance l d _ _) 1000 _ _ _ _ ?_)
  simp only [G6_distance_0, G6_distance_1, G6_distance_2, G6_distance_5, G6_distance_8, G6_distance_10, G6_distance_11, G6_distance_12, G6_distance_13, G6_distance_14, G6_distance_17, G6_distance_20, G6_distance_23, G6_distance_25, G6_distance_26, G6_distance_27, G6_distance_30, G6_distance_31, G6_distance_32, G6_distance_33, G6_distance_34, G6_distance_37, G6_distance_38, G6_distance_39, G6_distance_40, G6_distance_41, N6_distance, ↓mm_kc_ap, ↓mm_cut, mm_en, mm_nth, mm_put, mm_sto, mm_stoL, mm_ag, mm_dr, mm_sw, Nat.reduceSub, List.replicate, Option.toList, List.cons_append, List.nil_append, sq_int, sq_lng, sq_iload, sq_lload, sq_aload, sq_istore, sq_lstore, sq_astore, sq_iinc, sq_iadd, sq_isub, sq_imul, sq_iand, sq_ior, sq_ixor, sq_ishl, sq_ishr, sq_iushr, sq_ladd, sq_lsub, sq_lmul, sq_idiv, sq_irem, sq_ldiv, sq_lrem, sq_i2l, sq_lcmp, sq_dupI, sq_dupR, sq_pop, sq_dup2, sq_goto, sq_if_eq, sq_icmp_eq, sq_if_ne, sq_icmp_ne, sq_if_lt, sq_icmp_lt, sq_if_ge, sq_icmp_ge, sq_if_gt, sq_icmp_gt, sq_if_le, sq_icmp_le, sq_iaload, sq_iastore, sq_alen, sq_places, sq_getI, sq_getR, sq_put, sq_ret, sq_lret, sq_vret, sq_switch, sq_callS, sq_callV, sq_copy, sq_max, sq_min, mm_len_2, mm_len_3, mm_len_4, mm_len_6, mm_len_8, mm_len_10, mm_len_11, mm_len_12, mm_len_13, mm_len_14, mm_len_15, mm_len_17, mm_len_18, mm_len_19, mm_len_20, mm_len_21, mm_len_22, mm_len_23, mm_len_24, mm_len_25]
  try simp only [eq_self, true_and, and_true, Bool.false_eq_true, false_implies, true_implies, true_or, or_true, mm_numI, mm_numL, mm_numN, pp_i10, pp_i01, pp_im1, not_false_eq_true, not_true_eq_false, false_or, or_false]
  refine ⟨1, _, hd, t_isPost (by decide) c1.1 n8 hn p, rfl, ?_⟩
  rintro _ _ ⟨rfl, rfl⟩
  simp only [G6_distance_0, G6_distance_1, G6_distance_2, G6_distance_5, G6_distance_8, G6_distance_10, G6_distance_11, G6_distance_12, G6_distance_13, G6_distance_14, G6_distance_17, G6_distance_20, G6_distance_23, G6_distance_25, G6_distance_26, G6_distance_27, G6_distance_30, G6_distance_31, G6_distance_32, G6_distance_33, G6_distance_34, G6_distance_37, G6_distance_38, G6_distance_39, G6_distance_40, G6_distance_41, N6_distance, ↓mm_kc_ap, ↓mm_cut, mm_en, mm_nth, mm_put, mm_sto, mm_stoL, mm_ag, mm_dr, mm_sw, Nat.reduceSub, List.replicate, Option.toList, List.cons_append, List.nil_append, sq_int, sq_lng, sq_iload, sq_lload, sq_aload, sq_istore, sq_lstore, sq_astore, sq_iinc, sq_iadd, sq_isub, sq_imul, sq_iand, sq_ior, sq_ixor, sq_ishl, sq_ishr, sq_iushr, sq_ladd, sq_lsub, sq_lmul, sq_idiv, sq_irem, sq_ldiv, sq_lrem, sq_i2l, sq_lcmp, sq_dupI, sq_dupR, sq_pop, sq_dup2, sq_goto, sq_if_eq, sq_icmp_eq, sq_if_ne, sq_icmp_ne, sq_if_lt, sq_icmp_lt, sq_if_ge, sq_icmp_ge, sq_if_gt, sq_icmp_gt, sq_if_le, sq_icmp_le, sq_iaload, sq_iastore, sq_alen, sq_places, sq_getI, sq_getR, sq_put, sq_ret, sq_lret, sq_vret, sq_switch, sq_callS, sq_callV, sq_copy, sq_max, sq_min, mm_len_2, mm_len_3, mm_len_4, mm_len_6, mm_len_8, mm_len_10, mm_len_11, mm_len_12, mm_len_13, mm_len_14, mm_len_15, mm_len_17, mm_len_18, mm_len_19, mm_len_20, mm_len_21, mm_len_22, mm_len_23, mm_len_24, mm_len_25]
  try simp only [eq_self, true_and, and_true, Bool.false_eq_true, false_implies, true_implies, true_or, or_true, mm_numI, mm_numL, mm_numN, pp_i10, pp_i01, pp_im1, not_false_eq_true, not_true_eq_false, false_or, or_false]
  rw [pp_bne, pp_beq, decide_eq_true_eq, decide_eq_false_iff_not]
  unfold sp_distance
  dsimp only
  refine ⟨fun h1 => ?_, fun h1 => ?_⟩
  · rw [if_pos h1]
    obtain ⟨e1, e2⟩ := pp_post n8 h1
    have hin : vp_in p 8 := by rw [e1]; exact vp_in_nI (by omega) (by decide)
    refine ⟨0, _, by omega, t_in l 0 _ _ _ _, rfl, rfl, ?_⟩
    rintro _ _ ⟨rfl, rfl⟩
    simp only [G6_distance_0, G6_distance_1, G6_distance_2, G6_distance_5, G6_distance_8, G6_distance_10, G6_distance_11, G6_distance_12, G6_distance_13, G6_distance_14, G6_distance_17, G6_distance_20, G6_distance_23, G6_distance_25, G6_distance_26, G6_distance_27, G6_distance_30, G6_distance_31, G6_distance_32, G6_distance_33, G6_distance_34, G6_distance_37, G6_distance_38, G6_distance_39, G6_distance_40, G6_distance_41, N6_distance, ↓mm_kc_ap, ↓mm_cut, mm_en, mm_nth, mm_put, mm_sto, mm_stoL, mm_ag, mm_dr, mm_sw, Nat.reduceSub, List.replicate, Option.toList, List.cons_append, List.nil_append, sq_int, sq_lng, sq_iload, sq_lload, sq_aload, sq_istore, sq_lstore, sq_astore, sq_iinc, sq_iadd, sq_isub, sq_imul, sq_iand, sq_ior, sq_ixor, sq_ishl, sq_ishr, sq_iushr, sq_ladd, sq_lsub, sq_lmul, sq_idiv, sq_irem, sq_ldiv, sq_lrem, sq_i2l, sq_lcmp, sq_dupI, sq_dupR, sq_pop, sq_dup2, sq_goto, sq_if_eq, sq_icmp_eq, sq_if_ne, sq_icmp_ne, sq_if_lt, sq_icmp_lt, sq_if_ge, sq_icmp_ge, sq_if_gt, sq_icmp_gt, sq_if_le, sq_icmp_le, sq_iaload, sq_iastore, sq_alen, sq_places, sq_getI, sq_getR, sq_put, sq_ret, sq_lret, sq_vret, sq_switch, sq_callS, sq_callV, sq_copy, sq_max, sq_min, mm_len_2, mm_len_3, mm_len_4, mm_len_6, mm_len_8, mm_len_10, mm_len_11, mm_len_12, mm_len_13, mm_len_14, mm_len_15, mm_len_17, mm_len_18, mm_len_19, mm_len_20, mm_len_21, mm_len_22, mm_len_23, mm_len_24, mm_len_25]
    try simp only [eq_self, true_and, and_true, Bool.false_eq_true, false_implies, true_implies, true_or, or_true, mm_numI, mm_numL, mm_numN, pp_i10, pp_i01, pp_im1, not_false_eq_true, not_true_eq_false, false_or, or_false]
    rw [pp_in64 (k := v) (lo := 0) (hi := 4) (lo' := 0) (hi' := 4) rfl rfl, pp_bne, pp_beq, decide_eq_true_eq, decide_eq_false_iff_not]
    refine ⟨fun h2 => ⟨hin, by decide, hin, ?_⟩, fun h2 => ?_⟩
    · rw [if_pos h2]
      have hv := pp_nat (m := 4) h2.1 (Int32.le_iff_toInt_le.mp h2.2)
      refine ⟨by rw [c3.1 _ (by omega)], ⟨?_, ?_, ?_, ?_, ?_, ?_⟩, fun c hc => mm_set_ne (by omega)⟩
      · exact c1.cg (mm_set_ne (by decide)) (mm_set_ne (by decide)) (mm_set_ne (by decide))
      · rw [mm_set_ne (by decide)]; exact c2
      · refine ⟨?_, ?_⟩
        · intro q hq
          unfold ss_up
          by_cases e : q = p.toNatClampNeg
          · rw [if_pos e, e, mm_set_same]; exact hv.1
          · rw [if_neg e, mm_set_other e]; exact c3.1 q hq
        · intro q
          unfold ss_up
          split
          · omega
          · exact c3.2 q
      · rw [mm_set_ne (by decide)]; exact c4
      · rw [mm_set_ne (by decide)]; exact c5
      · rw [mm_set_ne (by decide)]; exact c6
    · rw [if_neg h2]
      exact ⟨rfl, hM', fun _ _ => rfl⟩
  · rw [if_neg h1]
    exact ⟨rfl, hM', fun _ _ => rfl⟩
