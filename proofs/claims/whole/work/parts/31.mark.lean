/-! ===== mark ===== -/
def ss_up (f : Nat → Nat) (k v : Nat) : Nat → Nat := fun q => if q = k then v else f q
def sp_mark (p v : Int32) (s : ss_T) : Int32 × ss_T := match s with
  | (n, A, mq, pf, ds, sc, tr, lk) => if 0 ≤ p ∧ p < nI n then (if 0 ≤ v ∧ v ≤ 3 then (nI (mq p.toNatClampNeg), (n, A, ss_up mq p.toNatClampNeg v.toNatClampNeg, pf, ds, sc, tr, lk)) else (-102, s)) else (-101, s)
theorem pp_post {p : Int32} {n : Nat} (hn : n ≤ 8) (h : 0 ≤ p ∧ p < nI n) : p = nI p.toNatClampNeg ∧ p.toNatClampNeg < n := by
  obtain ⟨j, hj, e⟩ := nI_of (Int32.not_lt.mpr h.1)
  subst e
  rw [nI_clamp hj]
  exact ⟨rfl, (nI_ltI hj (by omega)).mp h.2⟩
theorem pp_if01 {c : Prop} {inst : Decidable c} : (¬ (if c then (1 : Int32) else 0) = 0) ↔ c := by
  by_cases h : c <;> simp [h]
theorem pp_if01' {c : Prop} {inst : Decidable c} : ((if c then (1 : Int32) else 0) = 0) ↔ ¬ c := by
  by_cases h : c <;> simp [h]
set_option maxRecDepth 20000 in
theorem u_mark {l : Launch} {d : Nat} (hd : 0 < d) {h : mm_H} {s : ss_T} (hC : ss_C h s) (p v : Int32) : mm_Ev l d M5_mark [.ref 0, .int p, .int v] h (ss_pC (.int (sp_mark p v s).1) (sp_mark p v s).2 h) := by
  obtain ⟨n, A, mq, pf, ds, sc, tr, lk⟩ := s
  have hC' := hC
  obtain ⟨c1, c2, c3, c4, c5, c6, c7⟩ := hC
  have n8 := c1.2.1
  have hn := c1.2.2.1
  refine mm_Ev.of (by decide +kernel) (Nat.le_of_ble_eq_true rfl) (mm_rn_ok [] _ (S5_mark l d _ _) 1000 _ _ _ _ ?_)
  simp only [G5_mark_0, G5_mark_1, G5_mark_4, G5_mark_5, G5_mark_8, G5_mark_11, G5_mark_13, G5_mark_14, G5_mark_15, G5_mark_18, G5_mark_19, G5_mark_20, G5_mark_23, G5_mark_25, G5_mark_26, G5_mark_27, G5_mark_30, G5_mark_33, G5_mark_34, G5_mark_35, G5_mark_36, G5_mark_37, G5_mark_40, G5_mark_43, G5_mark_44, G5_mark_45, G5_mark_46, G5_mark_47, N5_mark, ↓mm_kc_ap, ↓mm_cut, mm_en, mm_nth, mm_put, mm_sto, mm_stoL, mm_ag, mm_dr, mm_sw, Nat.reduceSub, List.replicate, Option.toList, List.cons_append, List.nil_append, sq_int, sq_lng, sq_iload, sq_lload, sq_aload, sq_istore, sq_lstore, sq_astore, sq_iinc, sq_iadd, sq_isub, sq_imul, sq_iand, sq_ior, sq_ixor, sq_ishl, sq_ishr, sq_iushr, sq_ladd, sq_lsub, sq_lmul, sq_idiv, sq_irem, sq_ldiv, sq_lrem, sq_i2l, sq_lcmp, sq_dupI, sq_dupR, sq_pop, sq_dup2, sq_goto, sq_if_eq, sq_icmp_eq, sq_if_ne, sq_icmp_ne, sq_if_lt, sq_icmp_lt, sq_if_ge, sq_icmp_ge, sq_if_gt, sq_icmp_gt, sq_if_le, sq_icmp_le, sq_iaload, sq_iastore, sq_alen, sq_places, sq_getI, sq_getR, sq_put, sq_ret, sq_lret, sq_vret, sq_switch, sq_callS, sq_callV, sq_copy, sq_max, sq_min, mm_len_2, mm_len_3, mm_len_4, mm_len_6, mm_len_8, mm_len_10, mm_len_11, mm_len_12, mm_len_13, mm_len_14, mm_len_15, mm_len_17, mm_len_18, mm_len_19, mm_len_20, mm_len_21, mm_len_22, mm_len_23, mm_len_24, mm_len_25]
  try simp only [eq_self, true_and, and_true, Bool.false_eq_true, false_implies, true_implies, true_or, or_true, mm_numI, mm_numL, mm_numN, pp_i10, pp_i01, pp_im1, not_false_eq_true, not_true_eq_false, false_or, or_false]
  refine ⟨0, _, hd, t_has l 0 h p, rfl, ?_⟩
  rintro _ _ ⟨rfl, rfl⟩
  simp only [G5_mark_0, G5_mark_1, G5_mark_4, G5_mark_5, G5_mark_8, G5_mark_11, G5_mark_13, G5_mark_14, G5_mark_15, G5_mark_18, G5_mark_19, G5_mark_20, G5_mark_23, G5_mark_25, G5_mark_26, G5_mark_27, G5_mark_30, G5_mark_33, G5_mark_34, G5_mark_35, G5_mark_36, G5_mark_37, G5_mark_40, G5_mark_43, G5_mark_44, G5_mark_45, G5_mark_46, G5_mark_47, N5_mark, ↓mm_kc_ap, ↓mm_cut, mm_en, mm_nth, mm_put, mm_sto, mm_stoL, mm_ag, mm_dr, mm_sw, Nat.reduceSub, List.replicate, Option.toList, List.cons_append, List.nil_append, sq_int, sq_lng, sq_iload, sq_lload, sq_aload, sq_istore, sq_lstore, sq_astore, sq_iinc, sq_iadd, sq_isub, sq_imul, sq_iand, sq_ior, sq_ixor, sq_ishl, sq_ishr, sq_iushr, sq_ladd, sq_lsub, sq_lmul, sq_idiv, sq_irem, sq_ldiv, sq_lrem, sq_i2l, sq_lcmp, sq_dupI, sq_dupR, sq_pop, sq_dup2, sq_goto, sq_if_eq, sq_icmp_eq, sq_if_ne, sq_icmp_ne, sq_if_lt, sq_icmp_lt, sq_if_ge, sq_icmp_ge, sq_if_gt, sq_icmp_gt, sq_if_le, sq_icmp_le, sq_iaload, sq_iastore, sq_alen, sq_places, sq_getI, sq_getR, sq_put, sq_ret, sq_lret, sq_vret, sq_switch, sq_callS, sq_callV, sq_copy, sq_max, sq_min, mm_len_2, mm_len_3, mm_len_4, mm_len_6, mm_len_8, mm_len_10, mm_len_11, mm_len_12, mm_len_13, mm_len_14, mm_len_15, mm_len_17, mm_len_18, mm_len_19, mm_len_20, mm_len_21, mm_len_22, mm_len_23, mm_len_24, mm_len_25]
  try simp only [eq_self, true_and, and_true, Bool.false_eq_true, false_implies, true_implies, true_or, or_true, mm_numI, mm_numL, mm_numN, pp_i10, pp_i01, pp_im1, not_false_eq_true, not_true_eq_false, false_or, or_false]
  rw [pp_if01, pp_if01', hn]
  unfold sp_mark
  dsimp only
  refine ⟨fun h1 => ?_, fun h1 => ?_⟩
  · rw [if_pos h1]
    obtain ⟨e1, e2⟩ := pp_post n8 h1
    have hin : vp_in p 8 := by rw [e1]; exact vp_in_nI (by omega) (by decide)
    refine ⟨fun h2 => ?_, fun h2 => ⟨fun h3 => ⟨hin, by decide, hin, ?_⟩, fun h3 => ?_⟩⟩
    · rw [if_neg (fun z => absurd z.1 (Int32.not_le.mpr h2))]
      exact ⟨rfl, hC', fun _ _ => rfl⟩
    · rw [if_pos ⟨Int32.not_lt.mp h2, h3⟩]
      have hv := pp_nat (m := 3) (Int32.not_lt.mp h2) (Int32.le_iff_toInt_le.mp h3)
      obtain ⟨a1, a2, a3, a4, a5, a6, a7⟩ := c1
      refine ⟨by rw [a5 _ (by omega)], ⟨⟨a1, a2, ?_, ?_, ?_, a6, ?_⟩, ?_, ?_, ?_, ?_, ?_, ?_⟩, fun c hc => mm_set_ne (by omega)⟩
      · rw [mm_set_ne (by decide)]; exact a3
      · rw [mm_set_ne (by decide)]; exact a4
      · intro q hq
        unfold ss_up
        by_cases e : q = p.toNatClampNeg
        · rw [if_pos e, e, mm_set_same]; exact hv.1
        · rw [if_neg e, mm_set_other e]; exact a5 q hq
      · intro q
        unfold ss_up
        split
        · omega
        · exact a7 q
      · rw [mm_set_ne (by decide)]; exact c2
      · exact ⟨by rw [mm_set_ne (by decide)]; exact c3.1, c3.2⟩
      · rw [mm_set_ne (by decide)]; exact c4
      · rw [mm_set_ne (by decide)]; exact c5
      · rw [mm_set_ne (by decide)]; exact c6
      · rw [mm_set_ne (by decide)]; exact c7
    · rw [if_neg (fun z => absurd z.2 h3)]
      exact ⟨rfl, hC', fun _ _ => rfl⟩
  · rw [if_neg h1]
    exact ⟨rfl, hC', fun _ _ => rfl⟩
theorem pp_in64 {k lo hi : Int32} {lo' hi' : Int64} (e1 : lo.toInt64 = lo') (e2 : hi.toInt64 = hi') : decide (lo' ≤ k.toInt64 ∧ k.toInt64 ≤ hi') = decide (lo ≤ k ∧ k ≤ hi) := by
  apply decide_eq_decide.mpr
  rw [← e1, ← e2, pp_i2l_le, pp_i2l_le]
set_option maxRecDepth 20000 in
theorem v_mark {l : Launch} {d : Nat} (hd : 1 < d) {h : mm_H} {s : ss_T} (hM : ss_M h s) (p v : Int32) : mm_Ev l d M6_mark [.ref 16, .int p, .int v] h (ss_pM (.int (sp_mark p v s).1) (sp_mark p v s).2 h) := by
  obtain ⟨n, A, mq, pf, ds, sc, tr, lk⟩ := s
  have hM' := hM
  obtain ⟨c1, c2, c3, c4, c5, c6⟩ := hM
  have n8 := c1.2.1
  have hn := c1.2.2.1
  refine mm_Ev.of (by decide +kernel) (Nat.le_of_ble_eq_true rfl) (mm_rn_ok [] _ (S6_mark l d _ _) 1000 _ _ _ _ ?_)
  simp only [G6_mark_0, G6_mark_1, G6_mark_2, G6_mark_5, G6_mark_8, G6_mark_10, G6_mark_11, G6_mark_12, G6_mark_13, G6_mark_14, G6_mark_17, G6_mark_20, G6_mark_23, G6_mark_25, G6_mark_26, G6_mark_27, G6_mark_30, G6_mark_31, G6_mark_32, G6_mark_33, G6_mark_34, G6_mark_37, G6_mark_38, G6_mark_39, G6_mark_40, G6_mark_41, N6_mark, ↓mm_kc_ap, ↓mm_cut, mm_en, mm_nth, mm_put, mm_sto, mm_stoL, mm_ag, mm_dr, mm_sw, Nat.reduceSub, List.replicate, Option.toList, List.cons_append, List.nil_append, sq_int, sq_lng, sq_iload, sq_lload, sq_aload, sq_istore, sq_lstore, sq_astore, sq_iinc, sq_iadd, sq_isub, sq_imul, sq_iand, sq_ior, sq_ixor, sq_ishl, sq_ishr, sq_iushr, sq_ladd, sq_lsub, sq_lmul, sq_idiv, sq_irem, sq_ldiv, sq_lrem, sq_i2l, sq_lcmp, sq_dupI, sq_dupR, sq_pop, sq_dup2, sq_goto, sq_if_eq, sq_icmp_eq, sq_if_ne, sq_icmp_ne, sq_if_lt, sq_icmp_lt, sq_if_ge, sq_icmp_ge, sq_if_gt, sq_icmp_gt, sq_if_le, sq_icmp_le, sq_iaload, sq_iastore, sq_alen, sq_places, sq_getI, sq_getR, sq_put, sq_ret, sq_lret, sq_vret, sq_switch, sq_callS, sq_callV, sq_copy, sq_max, sq_min, mm_len_2, mm_len_3, mm_len_4, mm_len_6, mm_len_8, mm_len_10, mm_len_11, mm_len_12, mm_len_13, mm_len_14, mm_len_15, mm_len_17, mm_len_18, mm_len_19, mm_len_20, mm_len_21, mm_len_22, mm_len_23, mm_len_24, mm_len_25]
  try simp only [eq_self, true_and, and_true, Bool.false_eq_true, false_implies, true_implies, true_or, or_true, mm_numI, mm_numL, mm_numN, pp_i10, pp_i01, pp_im1, not_false_eq_true, not_true_eq_false, false_or, or_false]
  refine ⟨1, _, hd, t_isPost (by decide) c1.1 n8 hn p, rfl, ?_⟩
  rintro _ _ ⟨rfl, rfl⟩
  simp only [G6_mark_0, G6_mark_1, G6_mark_2, G6_mark_5, G6_mark_8, G6_mark_10, G6_mark_11, G6_mark_12, G6_mark_13, G6_mark_14, G6_mark_17, G6_mark_20, G6_mark_23, G6_mark_25, G6_mark_26, G6_mark_27, G6_mark_30, G6_mark_31, G6_mark_32, G6_mark_33, G6_mark_34, G6_mark_37, G6_mark_38, G6_mark_39, G6_mark_40, G6_mark_41, N6_mark, ↓mm_kc_ap, ↓mm_cut, mm_en, mm_nth, mm_put, mm_sto, mm_stoL, mm_ag, mm_dr, mm_sw, Nat.reduceSub, List.replicate, Option.toList, List.cons_append, List.nil_append, sq_int, sq_lng, sq_iload, sq_lload, sq_aload, sq_istore, sq_lstore, sq_astore, sq_iinc, sq_iadd, sq_isub, sq_imul, sq_iand, sq_ior, sq_ixor, sq_ishl, sq_ishr, sq_iushr, sq_ladd, sq_lsub, sq_lmul, sq_idiv, sq_irem, sq_ldiv, sq_lrem, sq_i2l, sq_lcmp, sq_dupI, sq_dupR, sq_pop, sq_dup2, sq_goto, sq_if_eq, sq_icmp_eq, sq_if_ne, sq_icmp_ne, sq_if_lt, sq_icmp_lt, sq_if_ge, sq_icmp_ge, sq_if_gt, sq_icmp_gt, sq_if_le, sq_icmp_le, sq_iaload, sq_iastore, sq_alen, sq_places, sq_getI, sq_getR, sq_put, sq_ret, sq_lret, sq_vret, sq_switch, sq_callS, sq_callV, sq_copy, sq_max, sq_min, mm_len_2, mm_len_3, mm_len_4, mm_len_6, mm_len_8, mm_len_10, mm_len_11, mm_len_12, mm_len_13, mm_len_14, mm_len_15, mm_len_17, mm_len_18, mm_len_19, mm_len_20, mm_len_21, mm_len_22, mm_len_23, mm_len_24, mm_len_25]
  try simp only [eq_self, true_and, and_true, Bool.false_eq_true, false_implies, true_implies, true_or, or_true, mm_numI, mm_numL, mm_numN, pp_i10, pp_i01, pp_im1, not_false_eq_true, not_true_eq_false, false_or, or_false]
  rw [pp_bne, pp_beq, decide_eq_true_eq, decide_eq_false_iff_not]
  unfold sp_mark
  dsimp only
  refine ⟨fun h1 => ?_, fun h1 => ?_⟩
  · rw [if_pos h1]
    obtain ⟨e1, e2⟩ := pp_post n8 h1
    have hin : vp_in p 8 := by rw [e1]; exact vp_in_nI (by omega) (by decide)
    refine ⟨0, _, by omega, t_in l 0 _ _ _ _, rfl, rfl, ?_⟩
    rintro _ _ ⟨rfl, rfl⟩
    simp only [G6_mark_0, G6_mark_1, G6_mark_2, G6_mark_5, G6_mark_8, G6_mark_10, G6_mark_11, G6_mark_12, G6_mark_13, G6_mark_14, G6_mark_17, G6_mark_20, G6_mark_23, G6_mark_25, G6_mark_26, G6_mark_27, G6_mark_30, G6_mark_31, G6_mark_32, G6_mark_33, G6_mark_34, G6_mark_37, G6_mark_38, G6_mark_39, G6_mark_40, G6_mark_41, N6_mark, ↓mm_kc_ap, ↓mm_cut, mm_en, mm_nth, mm_put, mm_sto, mm_stoL, mm_ag, mm_dr, mm_sw, Nat.reduceSub, List.replicate, Option.toList, List.cons_append, List.nil_append, sq_int, sq_lng, sq_iload, sq_lload, sq_aload, sq_istore, sq_lstore, sq_astore, sq_iinc, sq_iadd, sq_isub, sq_imul, sq_iand, sq_ior, sq_ixor, sq_ishl, sq_ishr, sq_iushr, sq_ladd, sq_lsub, sq_lmul, sq_idiv, sq_irem, sq_ldiv, sq_lrem, sq_i2l, sq_lcmp, sq_dupI, sq_dupR, sq_pop, sq_dup2, sq_goto, sq_if_eq, sq_icmp_eq, sq_if_ne, sq_icmp_ne, sq_if_lt, sq_icmp_lt, sq_if_ge, sq_icmp_ge, sq_if_gt, sq_icmp_gt, sq_if_le, sq_icmp_le, sq_iaload, sq_iastore, sq_alen, sq_places, sq_getI, sq_getR, sq_put, sq_ret, sq_lret, sq_vret, sq_switch, sq_callS, sq_callV, sq_copy, sq_max, sq_min, mm_len_2, mm_len_3, mm_len_4, mm_len_6, mm_len_8, mm_len_10, mm_len_11, mm_len_12, mm_len_13, mm_len_14, mm_len_15, mm_len_17, mm_len_18, mm_len_19, mm_len_20, mm_len_21, mm_len_22, mm_len_23, mm_len_24, mm_len_25]
    try simp only [eq_self, true_and, and_true, Bool.false_eq_true, false_implies, true_implies, true_or, or_true, mm_numI, mm_numL, mm_numN, pp_i10, pp_i01, pp_im1, not_false_eq_true, not_true_eq_false, false_or, or_false]
    rw [pp_in64 (k := v) (lo := 0) (hi := 3) (lo' := 0) (hi' := 3) rfl rfl, pp_bne, pp_beq, decide_eq_true_eq, decide_eq_false_iff_not]
    refine ⟨fun h2 => ⟨hin, by decide, hin, ?_⟩, fun h2 => ?_⟩
    · rw [if_pos h2]
      have hv := pp_nat (m := 3) h2.1 (Int32.le_iff_toInt_le.mp h2.2)
      obtain ⟨a1, a2, a3, a4, a5, a6, a7⟩ := c1
      refine ⟨by rw [a5 _ (by omega)], ⟨⟨a1, a2, ?_, ?_, ?_, a6, ?_⟩, ?_, ?_, ?_, ?_, ?_⟩, fun c hc => mm_set_ne (by omega)⟩
      · rw [mm_set_ne (by decide)]; exact a3
      · rw [mm_set_ne (by decide)]; exact a4
      · intro q hq
        unfold ss_up
        by_cases e : q = p.toNatClampNeg
        · rw [if_pos e, e, mm_set_same]; exact hv.1
        · rw [if_neg e, mm_set_other e]; exact a5 q hq
      · intro q
        unfold ss_up
        split
        · omega
        · exact a7 q
      · rw [mm_set_ne (by decide)]; exact c2
      · exact ⟨by rw [mm_set_ne (by decide)]; exact c3.1, c3.2⟩
      · rw [mm_set_ne (by decide)]; exact c4
      · rw [mm_set_ne (by decide)]; exact c5
      · rw [mm_set_ne (by decide)]; exact c6
    · rw [if_neg h2]
      exact ⟨rfl, hM', fun _ _ => rfl⟩
  · rw [if_neg h1]
    exact ⟨rfl, hM', fun _ _ => rfl⟩
