/-! ===== longest, shortest ===== -/
def sp_way (lg : Bool) (s : ss_T) : Int32 × ss_T := match s with
  | (n, A, mq, pf, ds, sc, tr, lk) => if 5 < n ∨ 20 ≤ lk then (-103, s) else (nI (wy_n n A lg ds), (n, A, mq, pf, ds, sc, tr, lk + 1))
theorem ss_C.lk {h : mm_H} {n : Nat} {A mq pf ds : Nat → Nat} {sc tr lk : Nat} (hC : ss_C h (n, A, mq, pf, ds, sc, tr, lk)) : ss_C (mm_set h 0 7 (nI (lk + 1))) (n, A, mq, pf, ds, sc, tr, lk + 1) := by
  obtain ⟨c1, c2, c3, c4, c5, c6, c7⟩ := hC
  refine ⟨c1.cg (mm_set_ne (by decide)) (mm_set_ne (by decide)) (mm_set_ne (by decide)), ?_, ⟨?_, c3.2⟩, ?_, ?_, ?_, ?_⟩
  · rw [mm_set_ne (by decide)]; exact c2
  · rw [mm_set_ne (by decide)]; exact c3.1
  · rw [mm_set_other (by decide)]; exact c4
  · rw [mm_set_other (by decide)]; exact c5
  · rw [mm_set_same]
  · rw [mm_set_ne (by decide)]; exact c7
theorem ss_M.lk {h : mm_H} {n : Nat} {A mq pf ds : Nat → Nat} {sc tr lk : Nat} (hM : ss_M h (n, A, mq, pf, ds, sc, tr, lk)) : ss_M (mm_set h 16 11 (nI (lk + 1))) (n, A, mq, pf, ds, sc, tr, lk + 1) := by
  obtain ⟨c1, c2, c3, c4, c5, c6⟩ := hM
  obtain ⟨a1, a2, a3, a4, a5, a6, a7⟩ := c1
  refine ⟨⟨a1, a2, ?_, ?_, ?_, a6, a7⟩, ?_, ⟨?_, c3.2⟩, ?_, ?_, ?_⟩
  · rw [mm_set_other (by decide)]; exact a3
  · rw [mm_set_ne (by decide)]; exact a4
  · rw [mm_set_ne (by decide)]; exact a5
  · rw [mm_set_ne (by decide)]; exact c2
  · rw [mm_set_ne (by decide)]; exact c3.1
  · rw [mm_set_other (by decide)]; exact c4
  · rw [mm_set_other (by decide)]; exact c5
  · rw [mm_set_same]
set_option maxRecDepth 20000 in
theorem t_waysRefused {l : Launch} {d : Nat} {h : mm_H} {s : ss_T} (hW : ss_W s) (hC : ss_C h s) : mm_Ev l d M5_waysRefused [.ref 0] h (fun r h' => r = some (.int (pp_b (decide (5 < s.1 ∨ 20 ≤ s.2.2.2.2.2.2.2)))) ∧ h' = h) := by
  obtain ⟨n, A, mq, pf, ds, sc, tr, lk⟩ := s
  obtain ⟨c1, c2, c3, c4, c5, c6, c7⟩ := hC
  obtain ⟨w1, w2, w3, w4, w5, w6, w7, w8, w9, w10, w11, w12⟩ := hW
  refine mm_Ev.of (by decide +kernel) (Nat.le_of_ble_eq_true rfl) (mm_rn_ok [] _ (S5_waysRefused l d _ _) 1000 _ _ _ _ ?_)
  simp only [G5_waysRefused_0, G5_waysRefused_1, G5_waysRefused_4, G5_waysRefused_7, G5_waysRefused_8, G5_waysRefused_11, G5_waysRefused_12, G5_waysRefused_15, G5_waysRefused_17, G5_waysRefused_20, G5_waysRefused_21, G5_waysRefused_24, G5_waysRefused_25, N5_waysRefused, ↓mm_kc_ap, ↓mm_cut, mm_en, mm_nth, mm_put, mm_sto, mm_stoL, mm_ag, mm_dr, mm_sw, Nat.reduceSub, List.replicate, Option.toList, List.cons_append, List.nil_append, sq_int, sq_lng, sq_iload, sq_lload, sq_aload, sq_istore, sq_lstore, sq_astore, sq_iinc, sq_iadd, sq_isub, sq_imul, sq_iand, sq_ior, sq_ixor, sq_ishl, sq_ishr, sq_iushr, sq_ladd, sq_lsub, sq_lmul, sq_idiv, sq_irem, sq_ldiv, sq_lrem, sq_i2l, sq_lcmp, sq_dupI, sq_dupR, sq_pop, sq_dup2, sq_goto, sq_if_eq, sq_icmp_eq, sq_if_ne, sq_icmp_ne, sq_if_lt, sq_icmp_lt, sq_if_ge, sq_icmp_ge, sq_if_gt, sq_icmp_gt, sq_if_le, sq_icmp_le, sq_iaload, sq_iastore, sq_alen, sq_places, sq_getI, sq_getR, sq_put, sq_ret, sq_lret, sq_vret, sq_switch, sq_callS, sq_callV, sq_copy, sq_max, sq_min, mm_len_2, mm_len_3, mm_len_4, mm_len_6, mm_len_8, mm_len_10, mm_len_11, mm_len_12, mm_len_13, mm_len_14, mm_len_15, mm_len_17, mm_len_18, mm_len_19, mm_len_20, mm_len_21, mm_len_22, mm_len_23, mm_len_24, mm_len_25]
  try simp only [eq_self, true_and, and_true, Bool.false_eq_true, false_implies, true_implies, true_or, or_true, mm_numI, mm_numL, mm_numN, pp_i10, pp_i01, pp_im1, not_false_eq_true, not_true_eq_false, false_or, or_false]
  have e5 : ((5 : Int32) < nI n) ↔ 5 < n := nI_ltI (a := 5) (by decide) (by omega)
  have e20 : (nI lk < 20) ↔ lk < 20 := nI_ltI (b := 20) (by omega) (by decide)
  rw [c1.2.2.1, c6, e5, e20]
  refine ⟨fun h1 => ?_, fun h1 => ⟨fun h2 => ?_, fun h2 => ?_⟩⟩
  · exact pp_b1 (decide_eq_true (Or.inl h1))
  · exact pp_b0 (decide_eq_false (by omega))
  · exact pp_b1 (decide_eq_true (Or.inr (by omega)))
theorem ss_C.ways {h h' : mm_H} {s : ss_T} (hC : ss_C h s) (hX : ∀ c, c ≠ 11 → c ≠ 12 → c ≠ 13 → c ≠ 14 → h' c = h c) : ss_C h' s := hC.cg (hX _ (by decide) (by decide) (by decide) (by decide)) (hX _ (by decide) (by decide) (by decide) (by decide)) (hX _ (by decide) (by decide) (by decide) (by decide)) (hX _ (by decide) (by decide) (by decide) (by decide)) (hX _ (by decide) (by decide) (by decide) (by decide)) (hX _ (by decide) (by decide) (by decide) (by decide)) (hX _ (by decide) (by decide) (by decide) (by decide))
set_option maxRecDepth 20000 in
theorem u_longest {l : Launch} {d : Nat} (hd : 3 < d) {h : mm_H} {s : ss_T} (hW : ss_W s) (hC : ss_C h s) : mm_Ev l d M5_longest [.ref 0] h (ss_pC (.int (sp_way true s).1) (sp_way true s).2 h) := by
  have hC' := hC
  have hW' := hW
  obtain ⟨n, A, mq, pf, ds, sc, tr, lk⟩ := s
  obtain ⟨c1, c2, c3, c4, c5, c6, c7⟩ := hC
  refine mm_Ev.of (by decide +kernel) (Nat.le_of_ble_eq_true rfl) (mm_rn_ok [] _ (S5_longest l d _ _) 1000 _ _ _ _ ?_)
  simp only [G5_longest_0, G5_longest_1, G5_longest_4, G5_longest_7, G5_longest_9, G5_longest_10, G5_longest_11, G5_longest_12, G5_longest_15, G5_longest_16, G5_longest_17, G5_longest_20, G5_longest_21, G5_longest_24, G5_longest_27, N5_longest, ↓mm_kc_ap, ↓mm_cut, mm_en, mm_nth, mm_put, mm_sto, mm_stoL, mm_ag, mm_dr, mm_sw, Nat.reduceSub, List.replicate, Option.toList, List.cons_append, List.nil_append, sq_int, sq_lng, sq_iload, sq_lload, sq_aload, sq_istore, sq_lstore, sq_astore, sq_iinc, sq_iadd, sq_isub, sq_imul, sq_iand, sq_ior, sq_ixor, sq_ishl, sq_ishr, sq_iushr, sq_ladd, sq_lsub, sq_lmul, sq_idiv, sq_irem, sq_ldiv, sq_lrem, sq_i2l, sq_lcmp, sq_dupI, sq_dupR, sq_pop, sq_dup2, sq_goto, sq_if_eq, sq_icmp_eq, sq_if_ne, sq_icmp_ne, sq_if_lt, sq_icmp_lt, sq_if_ge, sq_icmp_ge, sq_if_gt, sq_icmp_gt, sq_if_le, sq_icmp_le, sq_iaload, sq_iastore, sq_alen, sq_places, sq_getI, sq_getR, sq_put, sq_ret, sq_lret, sq_vret, sq_switch, sq_callS, sq_callV, sq_copy, sq_max, sq_min, mm_len_2, mm_len_3, mm_len_4, mm_len_6, mm_len_8, mm_len_10, mm_len_11, mm_len_12, mm_len_13, mm_len_14, mm_len_15, mm_len_17, mm_len_18, mm_len_19, mm_len_20, mm_len_21, mm_len_22, mm_len_23, mm_len_24, mm_len_25]
  try simp only [eq_self, true_and, and_true, Bool.false_eq_true, false_implies, true_implies, true_or, or_true, mm_numI, mm_numL, mm_numN, pp_i10, pp_i01, pp_im1, not_false_eq_true, not_true_eq_false, false_or, or_false]
  refine ⟨0, _, by omega, t_waysRefused hW' hC', rfl, ?_⟩
  rintro _ _ ⟨rfl, rfl⟩
  simp only [G5_longest_0, G5_longest_1, G5_longest_4, G5_longest_7, G5_longest_9, G5_longest_10, G5_longest_11, G5_longest_12, G5_longest_15, G5_longest_16, G5_longest_17, G5_longest_20, G5_longest_21, G5_longest_24, G5_longest_27, N5_longest, ↓mm_kc_ap, ↓mm_cut, mm_en, mm_nth, mm_put, mm_sto, mm_stoL, mm_ag, mm_dr, mm_sw, Nat.reduceSub, List.replicate, Option.toList, List.cons_append, List.nil_append, sq_int, sq_lng, sq_iload, sq_lload, sq_aload, sq_istore, sq_lstore, sq_astore, sq_iinc, sq_iadd, sq_isub, sq_imul, sq_iand, sq_ior, sq_ixor, sq_ishl, sq_ishr, sq_iushr, sq_ladd, sq_lsub, sq_lmul, sq_idiv, sq_irem, sq_ldiv, sq_lrem, sq_i2l, sq_lcmp, sq_dupI, sq_dupR, sq_pop, sq_dup2, sq_goto, sq_if_eq, sq_icmp_eq, sq_if_ne, sq_icmp_ne, sq_if_lt, sq_icmp_lt, sq_if_ge, sq_icmp_ge, sq_if_gt, sq_icmp_gt, sq_if_le, sq_icmp_le, sq_iaload, sq_iastore, sq_alen, sq_places, sq_getI, sq_getR, sq_put, sq_ret, sq_lret, sq_vret, sq_switch, sq_callS, sq_callV, sq_copy, sq_max, sq_min, mm_len_2, mm_len_3, mm_len_4, mm_len_6, mm_len_8, mm_len_10, mm_len_11, mm_len_12, mm_len_13, mm_len_14, mm_len_15, mm_len_17, mm_len_18, mm_len_19, mm_len_20, mm_len_21, mm_len_22, mm_len_23, mm_len_24, mm_len_25]
  try simp only [eq_self, true_and, and_true, Bool.false_eq_true, false_implies, true_implies, true_or, or_true, mm_numI, mm_numL, mm_numN, pp_i10, pp_i01, pp_im1, not_false_eq_true, not_true_eq_false, false_or, or_false]
  rw [pp_bne, pp_beq, decide_eq_true_eq, decide_eq_false_iff_not]
  unfold sp_way
  dsimp only
  refine ⟨fun h1 => ?_, fun h1 => ?_⟩
  · rw [if_neg h1, c6, nI_1]
    have C1 := hC'.lk
    refine ⟨3, _, hd, t_longestWay (by decide) C1.1 (by omega) C1.2.2.1, rfl, ?_⟩
    rintro _ h' ⟨rfl, hX⟩
    simp only [G5_longest_0, G5_longest_1, G5_longest_4, G5_longest_7, G5_longest_9, G5_longest_10, G5_longest_11, G5_longest_12, G5_longest_15, G5_longest_16, G5_longest_17, G5_longest_20, G5_longest_21, G5_longest_24, G5_longest_27, N5_longest, ↓mm_kc_ap, ↓mm_cut, mm_en, mm_nth, mm_put, mm_sto, mm_stoL, mm_ag, mm_dr, mm_sw, Nat.reduceSub, List.replicate, Option.toList, List.cons_append, List.nil_append, sq_int, sq_lng, sq_iload, sq_lload, sq_aload, sq_istore, sq_lstore, sq_astore, sq_iinc, sq_iadd, sq_isub, sq_imul, sq_iand, sq_ior, sq_ixor, sq_ishl, sq_ishr, sq_iushr, sq_ladd, sq_lsub, sq_lmul, sq_idiv, sq_irem, sq_ldiv, sq_lrem, sq_i2l, sq_lcmp, sq_dupI, sq_dupR, sq_pop, sq_dup2, sq_goto, sq_if_eq, sq_icmp_eq, sq_if_ne, sq_icmp_ne, sq_if_lt, sq_icmp_lt, sq_if_ge, sq_icmp_ge, sq_if_gt, sq_icmp_gt, sq_if_le, sq_icmp_le, sq_iaload, sq_iastore, sq_alen, sq_places, sq_getI, sq_getR, sq_put, sq_ret, sq_lret, sq_vret, sq_switch, sq_callS, sq_callV, sq_copy, sq_max, sq_min, mm_len_2, mm_len_3, mm_len_4, mm_len_6, mm_len_8, mm_len_10, mm_len_11, mm_len_12, mm_len_13, mm_len_14, mm_len_15, mm_len_17, mm_len_18, mm_len_19, mm_len_20, mm_len_21, mm_len_22, mm_len_23, mm_len_24, mm_len_25]
    try simp only [eq_self, true_and, and_true, Bool.false_eq_true, false_implies, true_implies, true_or, or_true, mm_numI, mm_numL, mm_numN, pp_i10, pp_i01, pp_im1, not_false_eq_true, not_true_eq_false, false_or, or_false]
    refine ⟨?_, C1.ways hX, fun c hc => ?_⟩
    · unfold df_v
      rw [wy_n_cg (fun q hq => lc_d_c c3.2 hq)]
    · rw [hX c (by omega) (by omega) (by omega) (by omega), mm_set_ne (by omega)]
  · rw [if_pos h1]
    exact ⟨rfl, hC', fun _ _ => rfl⟩
set_option maxRecDepth 20000 in
theorem u_shortest {l : Launch} {d : Nat} (hd : 3 < d) {h : mm_H} {s : ss_T} (hW : ss_W s) (hC : ss_C h s) : mm_Ev l d M5_shortest [.ref 0] h (ss_pC (.int (sp_way false s).1) (sp_way false s).2 h) := by
  have hC' := hC
  have hW' := hW
  obtain ⟨n, A, mq, pf, ds, sc, tr, lk⟩ := s
  obtain ⟨c1, c2, c3, c4, c5, c6, c7⟩ := hC
  refine mm_Ev.of (by decide +kernel) (Nat.le_of_ble_eq_true rfl) (mm_rn_ok [] _ (S5_shortest l d _ _) 1000 _ _ _ _ ?_)
  simp only [G5_shortest_0, G5_shortest_1, G5_shortest_4, G5_shortest_7, G5_shortest_9, G5_shortest_10, G5_shortest_11, G5_shortest_12, G5_shortest_15, G5_shortest_16, G5_shortest_17, G5_shortest_20, G5_shortest_21, G5_shortest_24, G5_shortest_27, N5_shortest, ↓mm_kc_ap, ↓mm_cut, mm_en, mm_nth, mm_put, mm_sto, mm_stoL, mm_ag, mm_dr, mm_sw, Nat.reduceSub, List.replicate, Option.toList, List.cons_append, List.nil_append, sq_int, sq_lng, sq_iload, sq_lload, sq_aload, sq_istore, sq_lstore, sq_astore, sq_iinc, sq_iadd, sq_isub, sq_imul, sq_iand, sq_ior, sq_ixor, sq_ishl, sq_ishr, sq_iushr, sq_ladd, sq_lsub, sq_lmul, sq_idiv, sq_irem, sq_ldiv, sq_lrem, sq_i2l, sq_lcmp, sq_dupI, sq_dupR, sq_pop, sq_dup2, sq_goto, sq_if_eq, sq_icmp_eq, sq_if_ne, sq_icmp_ne, sq_if_lt, sq_icmp_lt, sq_if_ge, sq_icmp_ge, sq_if_gt, sq_icmp_gt, sq_if_le, sq_icmp_le, sq_iaload, sq_iastore, sq_alen, sq_places, sq_getI, sq_getR, sq_put, sq_ret, sq_lret, sq_vret, sq_switch, sq_callS, sq_callV, sq_copy, sq_max, sq_min, mm_len_2, mm_len_3, mm_len_4, mm_len_6, mm_len_8, mm_len_10, mm_len_11, mm_len_12, mm_len_13, mm_len_14, mm_len_15, mm_len_17, mm_len_18, mm_len_19, mm_len_20, mm_len_21, mm_len_22, mm_len_23, mm_len_24, mm_len_25]
  try simp only [eq_self, true_and, and_true, Bool.false_eq_true, false_implies, true_implies, true_or, or_true, mm_numI, mm_numL, mm_numN, pp_i10, pp_i01, pp_im1, not_false_eq_true, not_true_eq_false, false_or, or_false]
  refine ⟨0, _, by omega, t_waysRefused hW' hC', rfl, ?_⟩
  rintro _ _ ⟨rfl, rfl⟩
  simp only [G5_shortest_0, G5_shortest_1, G5_shortest_4, G5_shortest_7, G5_shortest_9, G5_shortest_10, G5_shortest_11, G5_shortest_12, G5_shortest_15, G5_shortest_16, G5_shortest_17, G5_shortest_20, G5_shortest_21, G5_shortest_24, G5_shortest_27, N5_shortest, ↓mm_kc_ap, ↓mm_cut, mm_en, mm_nth, mm_put, mm_sto, mm_stoL, mm_ag, mm_dr, mm_sw, Nat.reduceSub, List.replicate, Option.toList, List.cons_append, List.nil_append, sq_int, sq_lng, sq_iload, sq_lload, sq_aload, sq_istore, sq_lstore, sq_astore, sq_iinc, sq_iadd, sq_isub, sq_imul, sq_iand, sq_ior, sq_ixor, sq_ishl, sq_ishr, sq_iushr, sq_ladd, sq_lsub, sq_lmul, sq_idiv, sq_irem, sq_ldiv, sq_lrem, sq_i2l, sq_lcmp, sq_dupI, sq_dupR, sq_pop, sq_dup2, sq_goto, sq_if_eq, sq_icmp_eq, sq_if_ne, sq_icmp_ne, sq_if_lt, sq_icmp_lt, sq_if_ge, sq_icmp_ge, sq_if_gt, sq_icmp_gt, sq_if_le, sq_icmp_le, sq_iaload, sq_iastore, sq_alen, sq_places, sq_getI, sq_getR, sq_put, sq_ret, sq_lret, sq_vret, sq_switch, sq_callS, sq_callV, sq_copy, sq_max, sq_min, mm_len_2, mm_len_3, mm_len_4, mm_len_6, mm_len_8, mm_len_10, mm_len_11, mm_len_12, mm_len_13, mm_len_14, mm_len_15, mm_len_17, mm_len_18, mm_len_19, mm_len_20, mm_len_21, mm_len_22, mm_len_23, mm_len_24, mm_len_25]
  try simp only [eq_self, true_and, and_true, Bool.false_eq_true, false_implies, true_implies, true_or, or_true, mm_numI, mm_numL, mm_numN, pp_i10, pp_i01, pp_im1, not_false_eq_true, not_true_eq_false, false_or, or_false]
  rw [pp_bne, pp_beq, decide_eq_true_eq, decide_eq_false_iff_not]
  unfold sp_way
  dsimp only
  refine ⟨fun h1 => ?_, fun h1 => ?_⟩
  · rw [if_neg h1, c6, nI_1]
    have C1 := hC'.lk
    refine ⟨3, _, hd, t_shortestWay (by decide) C1.1 (by omega) C1.2.2.1, rfl, ?_⟩
    rintro _ h' ⟨rfl, hX⟩
    simp only [G5_shortest_0, G5_shortest_1, G5_shortest_4, G5_shortest_7, G5_shortest_9, G5_shortest_10, G5_shortest_11, G5_shortest_12, G5_shortest_15, G5_shortest_16, G5_shortest_17, G5_shortest_20, G5_shortest_21, G5_shortest_24, G5_shortest_27, N5_shortest, ↓mm_kc_ap, ↓mm_cut, mm_en, mm_nth, mm_put, mm_sto, mm_stoL, mm_ag, mm_dr, mm_sw, Nat.reduceSub, List.replicate, Option.toList, List.cons_append, List.nil_append, sq_int, sq_lng, sq_iload, sq_lload, sq_aload, sq_istore, sq_lstore, sq_astore, sq_iinc, sq_iadd, sq_isub, sq_imul, sq_iand, sq_ior, sq_ixor, sq_ishl, sq_ishr, sq_iushr, sq_ladd, sq_lsub, sq_lmul, sq_idiv, sq_irem, sq_ldiv, sq_lrem, sq_i2l, sq_lcmp, sq_dupI, sq_dupR, sq_pop, sq_dup2, sq_goto, sq_if_eq, sq_icmp_eq, sq_if_ne, sq_icmp_ne, sq_if_lt, sq_icmp_lt, sq_if_ge, sq_icmp_ge, sq_if_gt, sq_icmp_gt, sq_if_le, sq_icmp_le, sq_iaload, sq_iastore, sq_alen, sq_places, sq_getI, sq_getR, sq_put, sq_ret, sq_lret, sq_vret, sq_switch, sq_callS, sq_callV, sq_copy, sq_max, sq_min, mm_len_2, mm_len_3, mm_len_4, mm_len_6, mm_len_8, mm_len_10, mm_len_11, mm_len_12, mm_len_13, mm_len_14, mm_len_15, mm_len_17, mm_len_18, mm_len_19, mm_len_20, mm_len_21, mm_len_22, mm_len_23, mm_len_24, mm_len_25]
    try simp only [eq_self, true_and, and_true, Bool.false_eq_true, false_implies, true_implies, true_or, or_true, mm_numI, mm_numL, mm_numN, pp_i10, pp_i01, pp_im1, not_false_eq_true, not_true_eq_false, false_or, or_false]
    refine ⟨?_, C1.ways hX, fun c hc => ?_⟩
    · unfold bf_v
      rw [wy_n_cg (fun q hq => lc_d_c c3.2 hq)]
    · rw [hX c (by omega) (by omega) (by omega) (by omega), mm_set_ne (by omega)]
  · rw [if_pos h1]
    exact ⟨rfl, hC', fun _ _ => rfl⟩
set_option maxRecDepth 20000 in
theorem v_longest {l : Launch} {d : Nat} (hd : 4 < d) {h : mm_H} {s : ss_T} (hW : ss_W s) (hM : ss_M h s) : mm_Ev l d M6_longest [.ref 16] h (ss_pM (.int (sp_way true s).1) (sp_way true s).2 h) := by
  have hM' := hM
  obtain ⟨n, A, mq, pf, ds, sc, tr, lk⟩ := s
  obtain ⟨c1, c2, c3, c4, c5, c6⟩ := hM
  obtain ⟨w1, w2, w3, w4, w5, w6, w7, w8, w9, w10, w11, w12⟩ := hW
  refine mm_Ev.of (by decide +kernel) (Nat.le_of_ble_eq_true rfl) (mm_rn_ok [] _ (S6_longest l d _ _) 1000 _ _ _ _ ?_)
  simp only [G6_longest_0, G6_longest_1, G6_longest_4, G6_longest_5, G6_longest_8, G6_longest_9, G6_longest_12, G6_longest_14, G6_longest_17, G6_longest_19, G6_longest_20, G6_longest_21, G6_longest_22, G6_longest_25, G6_longest_26, G6_longest_27, G6_longest_30, G6_longest_31, G6_longest_32, G6_longest_35, N6_longest, ↓mm_kc_ap, ↓mm_cut, mm_en, mm_nth, mm_put, mm_sto, mm_stoL, mm_ag, mm_dr, mm_sw, Nat.reduceSub, List.replicate, Option.toList, List.cons_append, List.nil_append, sq_int, sq_lng, sq_iload, sq_lload, sq_aload, sq_istore, sq_lstore, sq_astore, sq_iinc, sq_iadd, sq_isub, sq_imul, sq_iand, sq_ior, sq_ixor, sq_ishl, sq_ishr, sq_iushr, sq_ladd, sq_lsub, sq_lmul, sq_idiv, sq_irem, sq_ldiv, sq_lrem, sq_i2l, sq_lcmp, sq_dupI, sq_dupR, sq_pop, sq_dup2, sq_goto, sq_if_eq, sq_icmp_eq, sq_if_ne, sq_icmp_ne, sq_if_lt, sq_icmp_lt, sq_if_ge, sq_icmp_ge, sq_if_gt, sq_icmp_gt, sq_if_le, sq_icmp_le, sq_iaload, sq_iastore, sq_alen, sq_places, sq_getI, sq_getR, sq_put, sq_ret, sq_lret, sq_vret, sq_switch, sq_callS, sq_callV, sq_copy, sq_max, sq_min, mm_len_2, mm_len_3, mm_len_4, mm_len_6, mm_len_8, mm_len_10, mm_len_11, mm_len_12, mm_len_13, mm_len_14, mm_len_15, mm_len_17, mm_len_18, mm_len_19, mm_len_20, mm_len_21, mm_len_22, mm_len_23, mm_len_24, mm_len_25]
  try simp only [eq_self, true_and, and_true, Bool.false_eq_true, false_implies, true_implies, true_or, or_true, mm_numI, mm_numL, mm_numN, pp_i10, pp_i01, pp_im1, not_false_eq_true, not_true_eq_false, false_or, or_false]
  have e5 : ((5 : Int32) < nI n) ↔ 5 < n := nI_ltI (a := 5) (by decide) (by omega)
  have e20 : (nI lk = 20) ↔ lk = 20 := nI_eq (b := 20) (by omega) (by decide)
  rw [c1.2.2.1, c6, e5, e20, nI_1]
  unfold sp_way
  dsimp only
  refine ⟨fun h1 => ?_, fun h1 => ⟨fun h2 => ?_, fun h2 => ?_⟩⟩
  · rw [if_pos (Or.inl h1)]
    exact ⟨rfl, hM', fun _ _ => rfl⟩
  · rw [if_neg (by omega)]
    have M1 := hM'.lk
    refine ⟨4, _, hd, t_findWay (lg := true) (by decide) M1.1 (by omega) M1.2.2.1, rfl, ?_⟩
    rintro _ h' ⟨rfl, hX, hD⟩
    simp only [G6_longest_0, G6_longest_1, G6_longest_4, G6_longest_5, G6_longest_8, G6_longest_9, G6_longest_12, G6_longest_14, G6_longest_17, G6_longest_19, G6_longest_20, G6_longest_21, G6_longest_22, G6_longest_25, G6_longest_26, G6_longest_27, G6_longest_30, G6_longest_31, G6_longest_32, G6_longest_35, N6_longest, ↓mm_kc_ap, ↓mm_cut, mm_en, mm_nth, mm_put, mm_sto, mm_stoL, mm_ag, mm_dr, mm_sw, Nat.reduceSub, List.replicate, Option.toList, List.cons_append, List.nil_append, sq_int, sq_lng, sq_iload, sq_lload, sq_aload, sq_istore, sq_lstore, sq_astore, sq_iinc, sq_iadd, sq_isub, sq_imul, sq_iand, sq_ior, sq_ixor, sq_ishl, sq_ishr, sq_iushr, sq_ladd, sq_lsub, sq_lmul, sq_idiv, sq_irem, sq_ldiv, sq_lrem, sq_i2l, sq_lcmp, sq_dupI, sq_dupR, sq_pop, sq_dup2, sq_goto, sq_if_eq, sq_icmp_eq, sq_if_ne, sq_icmp_ne, sq_if_lt, sq_icmp_lt, sq_if_ge, sq_icmp_ge, sq_if_gt, sq_icmp_gt, sq_if_le, sq_icmp_le, sq_iaload, sq_iastore, sq_alen, sq_places, sq_getI, sq_getR, sq_put, sq_ret, sq_lret, sq_vret, sq_switch, sq_callS, sq_callV, sq_copy, sq_max, sq_min, mm_len_2, mm_len_3, mm_len_4, mm_len_6, mm_len_8, mm_len_10, mm_len_11, mm_len_12, mm_len_13, mm_len_14, mm_len_15, mm_len_17, mm_len_18, mm_len_19, mm_len_20, mm_len_21, mm_len_22, mm_len_23, mm_len_24, mm_len_25]
    try simp only [eq_self, true_and, and_true, Bool.false_eq_true, false_implies, true_implies, true_or, or_true, mm_numI, mm_numL, mm_numN, pp_i10, pp_i01, pp_im1, not_false_eq_true, not_true_eq_false, false_or, or_false]
    refine ⟨rfl, ?_, fun c hc => ?_⟩
    · have M2 : ss_M (mm_setA h' 20 (mm_set h 16 11 (nI (lk + 1)) 20)) (n, A, mq, pf, ds, sc, tr, lk + 1) := M1.cg (by rw [mm_setA_ne (by decide)]; exact hX _ (by decide) (by decide)) (by rw [mm_setA_ne (by decide)]; exact hX _ (by decide) (by decide)) (by rw [mm_setA_ne (by decide)]; exact hX _ (by decide) (by decide)) (by rw [mm_setA_ne (by decide)]; exact hX _ (by decide) (by decide)) (mm_setA_same _ _ _)
      exact M2.d20 (fun x hx => (mm_setA_ne hx).symm) ⟨hD, c3.2⟩
    · rw [hX c (by omega) (by omega), mm_set_ne (by omega)]
  · rw [if_pos (Or.inr (by omega))]
    exact ⟨rfl, hM', fun _ _ => rfl⟩
set_option maxRecDepth 20000 in
theorem v_shortest {l : Launch} {d : Nat} (hd : 4 < d) {h : mm_H} {s : ss_T} (hW : ss_W s) (hM : ss_M h s) : mm_Ev l d M6_shortest [.ref 16] h (ss_pM (.int (sp_way false s).1) (sp_way false s).2 h) := by
  have hM' := hM
  obtain ⟨n, A, mq, pf, ds, sc, tr, lk⟩ := s
  obtain ⟨c1, c2, c3, c4, c5, c6⟩ := hM
  obtain ⟨w1, w2, w3, w4, w5, w6, w7, w8, w9, w10, w11, w12⟩ := hW
  refine mm_Ev.of (by decide +kernel) (Nat.le_of_ble_eq_true rfl) (mm_rn_ok [] _ (S6_shortest l d _ _) 1000 _ _ _ _ ?_)
  simp only [G6_shortest_0, G6_shortest_1, G6_shortest_4, G6_shortest_5, G6_shortest_8, G6_shortest_9, G6_shortest_12, G6_shortest_14, G6_shortest_17, G6_shortest_19, G6_shortest_20, G6_shortest_21, G6_shortest_22, G6_shortest_25, G6_shortest_26, G6_shortest_27, G6_shortest_30, G6_shortest_31, G6_shortest_32, G6_shortest_35, N6_shortest, ↓mm_kc_ap, ↓mm_cut, mm_en, mm_nth, mm_put, mm_sto, mm_stoL, mm_ag, mm_dr, mm_sw, Nat.reduceSub, List.replicate, Option.toList, List.cons_append, List.nil_append, sq_int, sq_lng, sq_iload, sq_lload, sq_aload, sq_istore, sq_lstore, sq_astore, sq_iinc, sq_iadd, sq_isub, sq_imul, sq_iand, sq_ior, sq_ixor, sq_ishl, sq_ishr, sq_iushr, sq_ladd, sq_lsub, sq_lmul, sq_idiv, sq_irem, sq_ldiv, sq_lrem, sq_i2l, sq_lcmp, sq_dupI, sq_dupR, sq_pop, sq_dup2, sq_goto, sq_if_eq, sq_icmp_eq, sq_if_ne, sq_icmp_ne, sq_if_lt, sq_icmp_lt, sq_if_ge, sq_icmp_ge, sq_if_gt, sq_icmp_gt, sq_if_le, sq_icmp_le, sq_iaload, sq_iastore, sq_alen, sq_places, sq_getI, sq_getR, sq_put, sq_ret, sq_lret, sq_vret, sq_switch, sq_callS, sq_callV, sq_copy, sq_max, sq_min, mm_len_2, mm_len_3, mm_len_4, mm_len_6, mm_len_8, mm_len_10, mm_len_11, mm_len_12, mm_len_13, mm_len_14, mm_len_15, mm_len_17, mm_len_18, mm_len_19, mm_len_20, mm_len_21, mm_len_22, mm_len_23, mm_len_24, mm_len_25]
  try simp only [eq_self, true_and, and_true, Bool.false_eq_true, false_implies, true_implies, true_or, or_true, mm_numI, mm_numL, mm_numN, pp_i10, pp_i01, pp_im1, not_false_eq_true, not_true_eq_false, false_or, or_false]
  have e5 : ((5 : Int32) < nI n) ↔ 5 < n := nI_ltI (a := 5) (by decide) (by omega)
  have e20 : (nI lk = 20) ↔ lk = 20 := nI_eq (b := 20) (by omega) (by decide)
  rw [c1.2.2.1, c6, e5, e20, nI_1]
  unfold sp_way
  dsimp only
  refine ⟨fun h1 => ?_, fun h1 => ⟨fun h2 => ?_, fun h2 => ?_⟩⟩
  · rw [if_pos (Or.inl h1)]
    exact ⟨rfl, hM', fun _ _ => rfl⟩
  · rw [if_neg (by omega)]
    have M1 := hM'.lk
    refine ⟨4, _, hd, t_findWay (lg := false) (by decide) M1.1 (by omega) M1.2.2.1, rfl, ?_⟩
    rintro _ h' ⟨rfl, hX, hD⟩
    simp only [G6_shortest_0, G6_shortest_1, G6_shortest_4, G6_shortest_5, G6_shortest_8, G6_shortest_9, G6_shortest_12, G6_shortest_14, G6_shortest_17, G6_shortest_19, G6_shortest_20, G6_shortest_21, G6_shortest_22, G6_shortest_25, G6_shortest_26, G6_shortest_27, G6_shortest_30, G6_shortest_31, G6_shortest_32, G6_shortest_35, N6_shortest, ↓mm_kc_ap, ↓mm_cut, mm_en, mm_nth, mm_put, mm_sto, mm_stoL, mm_ag, mm_dr, mm_sw, Nat.reduceSub, List.replicate, Option.toList, List.cons_append, List.nil_append, sq_int, sq_lng, sq_iload, sq_lload, sq_aload, sq_istore, sq_lstore, sq_astore, sq_iinc, sq_iadd, sq_isub, sq_imul, sq_iand, sq_ior, sq_ixor, sq_ishl, sq_ishr, sq_iushr, sq_ladd, sq_lsub, sq_lmul, sq_idiv, sq_irem, sq_ldiv, sq_lrem, sq_i2l, sq_lcmp, sq_dupI, sq_dupR, sq_pop, sq_dup2, sq_goto, sq_if_eq, sq_icmp_eq, sq_if_ne, sq_icmp_ne, sq_if_lt, sq_icmp_lt, sq_if_ge, sq_icmp_ge, sq_if_gt, sq_icmp_gt, sq_if_le, sq_icmp_le, sq_iaload, sq_iastore, sq_alen, sq_places, sq_getI, sq_getR, sq_put, sq_ret, sq_lret, sq_vret, sq_switch, sq_callS, sq_callV, sq_copy, sq_max, sq_min, mm_len_2, mm_len_3, mm_len_4, mm_len_6, mm_len_8, mm_len_10, mm_len_11, mm_len_12, mm_len_13, mm_len_14, mm_len_15, mm_len_17, mm_len_18, mm_len_19, mm_len_20, mm_len_21, mm_len_22, mm_len_23, mm_len_24, mm_len_25]
    try simp only [eq_self, true_and, and_true, Bool.false_eq_true, false_implies, true_implies, true_or, or_true, mm_numI, mm_numL, mm_numN, pp_i10, pp_i01, pp_im1, not_false_eq_true, not_true_eq_false, false_or, or_false]
    refine ⟨rfl, ?_, fun c hc => ?_⟩
    · have M2 : ss_M (mm_setA h' 20 (mm_set h 16 11 (nI (lk + 1)) 20)) (n, A, mq, pf, ds, sc, tr, lk + 1) := M1.cg (by rw [mm_setA_ne (by decide)]; exact hX _ (by decide) (by decide)) (by rw [mm_setA_ne (by decide)]; exact hX _ (by decide) (by decide)) (by rw [mm_setA_ne (by decide)]; exact hX _ (by decide) (by decide)) (by rw [mm_setA_ne (by decide)]; exact hX _ (by decide) (by decide)) (mm_setA_same _ _ _)
      exact M2.d20 (fun x hx => (mm_setA_ne hx).symm) ⟨hD, c3.2⟩
    · rw [hX c (by omega) (by omega), mm_set_ne (by omega)]
  · rw [if_pos (Or.inr (by omega))]
    exact ⟨rfl, hM', fun _ _ => rfl⟩
