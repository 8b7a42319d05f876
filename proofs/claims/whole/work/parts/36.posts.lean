/-! ===== posts ===== -/
def ss_new (n sc tr lk : Nat) : ss_T := (n, fun _ => 0, fun _ => 0, fun _ => 0, fun _ => 0, sc, tr, lk)
def sp_posts (k : Int32) (s : ss_T) : Int32 × ss_T := match s with
  | (_, _, _, _, _, sc, tr, lk) => if 1 ≤ k ∧ k ≤ 8 then (k, ss_new k.toNatClampNeg sc tr lk) else (-102, s)
theorem pp_1to {k : Int32} {m : Nat} (h0 : 1 ≤ k) (h1 : k.toInt ≤ m) : k = nI k.toNatClampNeg ∧ 1 ≤ k.toNatClampNeg ∧ k.toNatClampNeg ≤ m := by
  have h00 : (0 : Int32) ≤ k := Int32.le_trans (by decide) h0
  obtain ⟨e1, e2⟩ := pp_nat h00 h1
  refine ⟨e1, ?_, e2⟩
  have h3 : (1 : Int32).toInt ≤ k.toInt := Int32.le_iff_toInt_le.mp h0
  rw [e1] at h3
  have h4 : k.toNatClampNeg < 2 ^ 31 := by
    have := k.toNatClampNeg_lt
    omega
  rw [nI_toInt h4] at h3
  have : (1 : Int32).toInt = 1 := by decide
  omega
set_option maxRecDepth 20000 in
theorem t_nclear {l : Launch} {d : Nat} (hd : 0 < d) {h : mm_H} (k : Int32) : mm_Ev l d M2_clear [.ref 1, .int k] h (fun r h' => r = none ∧ h' 1 3 = k ∧ (∀ q, q < 8 → h' 2 q = 0) ∧ (∀ q, q < 8 → h' 3 q = 0) ∧ ∀ c, c ≠ 1 → c ≠ 2 → c ≠ 3 → h' c = h c) := by
  refine mm_Ev.of (by decide +kernel) (Nat.le_of_ble_eq_true rfl) (mm_rn_ok [] _ (S2_clear l d _ _) 1000 _ _ _ _ ?_)
  simp only [G2_clear_0, G2_clear_1, G2_clear_2, G2_clear_5, G2_clear_6, G2_clear_9, G2_clear_10, G2_clear_13, G2_clear_14, G2_clear_17, G2_clear_18, G2_clear_21, N2_clear, ↓mm_kc_ap, ↓mm_cut, mm_en, mm_nth, mm_put, mm_sto, mm_stoL, mm_ag, mm_dr, mm_sw, Nat.reduceSub, List.replicate, Option.toList, List.cons_append, List.nil_append, sq_int, sq_lng, sq_iload, sq_lload, sq_aload, sq_istore, sq_lstore, sq_astore, sq_iinc, sq_iadd, sq_isub, sq_imul, sq_iand, sq_ior, sq_ixor, sq_ishl, sq_ishr, sq_iushr, sq_ladd, sq_lsub, sq_lmul, sq_idiv, sq_irem, sq_ldiv, sq_lrem, sq_i2l, sq_lcmp, sq_dupI, sq_dupR, sq_pop, sq_dup2, sq_goto, sq_if_eq, sq_icmp_eq, sq_if_ne, sq_icmp_ne, sq_if_lt, sq_icmp_lt, sq_if_ge, sq_icmp_ge, sq_if_gt, sq_icmp_gt, sq_if_le, sq_icmp_le, sq_iaload, sq_iastore, sq_alen, sq_places, sq_getI, sq_getR, sq_put, sq_ret, sq_lret, sq_vret, sq_switch, sq_callS, sq_callV, sq_copy, sq_max, sq_min, mm_len_2, mm_len_3, mm_len_4, mm_len_6, mm_len_8, mm_len_10, mm_len_11, mm_len_12, mm_len_13, mm_len_14, mm_len_15, mm_len_17, mm_len_18, mm_len_19, mm_len_20, mm_len_21, mm_len_22, mm_len_23, mm_len_24, mm_len_25]
  try simp only [eq_self, true_and, and_true, Bool.false_eq_true, false_implies, true_implies, true_or, or_true, mm_numI, mm_numL, mm_numN, pp_i10, pp_i01, pp_im1, not_false_eq_true, not_true_eq_false, false_or, or_false]
  refine ⟨0, _, hd, t_fill l 0 _ 2 (by decide) (by decide) (by decide) 0, rfl, rfl, ?_⟩
  rintro _ _ ⟨rfl, rfl⟩
  simp only [G2_clear_0, G2_clear_1, G2_clear_2, G2_clear_5, G2_clear_6, G2_clear_9, G2_clear_10, G2_clear_13, G2_clear_14, G2_clear_17, G2_clear_18, G2_clear_21, N2_clear, ↓mm_kc_ap, ↓mm_cut, mm_en, mm_nth, mm_put, mm_sto, mm_stoL, mm_ag, mm_dr, mm_sw, Nat.reduceSub, List.replicate, Option.toList, List.cons_append, List.nil_append, sq_int, sq_lng, sq_iload, sq_lload, sq_aload, sq_istore, sq_lstore, sq_astore, sq_iinc, sq_iadd, sq_isub, sq_imul, sq_iand, sq_ior, sq_ixor, sq_ishl, sq_ishr, sq_iushr, sq_ladd, sq_lsub, sq_lmul, sq_idiv, sq_irem, sq_ldiv, sq_lrem, sq_i2l, sq_lcmp, sq_dupI, sq_dupR, sq_pop, sq_dup2, sq_goto, sq_if_eq, sq_icmp_eq, sq_if_ne, sq_icmp_ne, sq_if_lt, sq_icmp_lt, sq_if_ge, sq_icmp_ge, sq_if_gt, sq_icmp_gt, sq_if_le, sq_icmp_le, sq_iaload, sq_iastore, sq_alen, sq_places, sq_getI, sq_getR, sq_put, sq_ret, sq_lret, sq_vret, sq_switch, sq_callS, sq_callV, sq_copy, sq_max, sq_min, mm_len_2, mm_len_3, mm_len_4, mm_len_6, mm_len_8, mm_len_10, mm_len_11, mm_len_12, mm_len_13, mm_len_14, mm_len_15, mm_len_17, mm_len_18, mm_len_19, mm_len_20, mm_len_21, mm_len_22, mm_len_23, mm_len_24, mm_len_25]
  try simp only [eq_self, true_and, and_true, Bool.false_eq_true, false_implies, true_implies, true_or, or_true, mm_numI, mm_numL, mm_numN, pp_i10, pp_i01, pp_im1, not_false_eq_true, not_true_eq_false, false_or, or_false]
  refine ⟨0, _, hd, t_fill l 0 _ 3 (by decide) (by decide) (by decide) 0, rfl, rfl, ?_⟩
  rintro _ _ ⟨rfl, rfl⟩
  simp only [G2_clear_0, G2_clear_1, G2_clear_2, G2_clear_5, G2_clear_6, G2_clear_9, G2_clear_10, G2_clear_13, G2_clear_14, G2_clear_17, G2_clear_18, G2_clear_21, N2_clear, ↓mm_kc_ap, ↓mm_cut, mm_en, mm_nth, mm_put, mm_sto, mm_stoL, mm_ag, mm_dr, mm_sw, Nat.reduceSub, List.replicate, Option.toList, List.cons_append, List.nil_append, sq_int, sq_lng, sq_iload, sq_lload, sq_aload, sq_istore, sq_lstore, sq_astore, sq_iinc, sq_iadd, sq_isub, sq_imul, sq_iand, sq_ior, sq_ixor, sq_ishl, sq_ishr, sq_iushr, sq_ladd, sq_lsub, sq_lmul, sq_idiv, sq_irem, sq_ldiv, sq_lrem, sq_i2l, sq_lcmp, sq_dupI, sq_dupR, sq_pop, sq_dup2, sq_goto, sq_if_eq, sq_icmp_eq, sq_if_ne, sq_icmp_ne, sq_if_lt, sq_icmp_lt, sq_if_ge, sq_icmp_ge, sq_if_gt, sq_icmp_gt, sq_if_le, sq_icmp_le, sq_iaload, sq_iastore, sq_alen, sq_places, sq_getI, sq_getR, sq_put, sq_ret, sq_lret, sq_vret, sq_switch, sq_callS, sq_callV, sq_copy, sq_max, sq_min, mm_len_2, mm_len_3, mm_len_4, mm_len_6, mm_len_8, mm_len_10, mm_len_11, mm_len_12, mm_len_13, mm_len_14, mm_len_15, mm_len_17, mm_len_18, mm_len_19, mm_len_20, mm_len_21, mm_len_22, mm_len_23, mm_len_24, mm_len_25]
  try simp only [eq_self, true_and, and_true, Bool.false_eq_true, false_implies, true_implies, true_or, or_true, mm_numI, mm_numL, mm_numN, pp_i10, pp_i01, pp_im1, not_false_eq_true, not_true_eq_false, false_or, or_false]
  refine ⟨?_, fun q hq => ?_, fun q hq => ?_, fun c h1 h2 h3 => ?_⟩
  · rw [mm_setA_ne (by decide), mm_setA_ne (by decide), mm_set_same]
  · rw [mm_setA_ne (by decide), mm_setA_same]
    exact if_pos hq
  · rw [mm_setA_same]
    exact if_pos hq
  · rw [mm_setA_ne h3, mm_setA_ne h2, mm_set_ne h1]
set_option maxRecDepth 20000 in
theorem t_mclear {l : Launch} {d : Nat} (hd : 0 < d) {h : mm_H} : mm_Ev l d M1_clear [.ref 9] h (fun r h' => r = none ∧ (∀ q, q < 8 → h' 10 q = 0) ∧ ∀ c, c ≠ 10 → h' c = h c) := by
  refine mm_Ev.of (by decide +kernel) (Nat.le_of_ble_eq_true rfl) (mm_rn_ok [] _ (S1_clear l d _ _) 1000 _ _ _ _ ?_)
  simp only [G1_clear_0, G1_clear_1, G1_clear_4, G1_clear_5, G1_clear_8, N1_clear, ↓mm_kc_ap, ↓mm_cut, mm_en, mm_nth, mm_put, mm_sto, mm_stoL, mm_ag, mm_dr, mm_sw, Nat.reduceSub, List.replicate, Option.toList, List.cons_append, List.nil_append, sq_int, sq_lng, sq_iload, sq_lload, sq_aload, sq_istore, sq_lstore, sq_astore, sq_iinc, sq_iadd, sq_isub, sq_imul, sq_iand, sq_ior, sq_ixor, sq_ishl, sq_ishr, sq_iushr, sq_ladd, sq_lsub, sq_lmul, sq_idiv, sq_irem, sq_ldiv, sq_lrem, sq_i2l, sq_lcmp, sq_dupI, sq_dupR, sq_pop, sq_dup2, sq_goto, sq_if_eq, sq_icmp_eq, sq_if_ne, sq_icmp_ne, sq_if_lt, sq_icmp_lt, sq_if_ge, sq_icmp_ge, sq_if_gt, sq_icmp_gt, sq_if_le, sq_icmp_le, sq_iaload, sq_iastore, sq_alen, sq_places, sq_getI, sq_getR, sq_put, sq_ret, sq_lret, sq_vret, sq_switch, sq_callS, sq_callV, sq_copy, sq_max, sq_min, mm_len_2, mm_len_3, mm_len_4, mm_len_6, mm_len_8, mm_len_10, mm_len_11, mm_len_12, mm_len_13, mm_len_14, mm_len_15, mm_len_17, mm_len_18, mm_len_19, mm_len_20, mm_len_21, mm_len_22, mm_len_23, mm_len_24, mm_len_25]
  try simp only [eq_self, true_and, and_true, Bool.false_eq_true, false_implies, true_implies, true_or, or_true, mm_numI, mm_numL, mm_numN, pp_i10, pp_i01, pp_im1, not_false_eq_true, not_true_eq_false, false_or, or_false]
  refine ⟨0, _, hd, t_fill l 0 _ 10 (by decide) (by decide) (by decide) 0, rfl, rfl, ?_⟩
  rintro _ _ ⟨rfl, rfl⟩
  simp only [G1_clear_0, G1_clear_1, G1_clear_4, G1_clear_5, G1_clear_8, N1_clear, ↓mm_kc_ap, ↓mm_cut, mm_en, mm_nth, mm_put, mm_sto, mm_stoL, mm_ag, mm_dr, mm_sw, Nat.reduceSub, List.replicate, Option.toList, List.cons_append, List.nil_append, sq_int, sq_lng, sq_iload, sq_lload, sq_aload, sq_istore, sq_lstore, sq_astore, sq_iinc, sq_iadd, sq_isub, sq_imul, sq_iand, sq_ior, sq_ixor, sq_ishl, sq_ishr, sq_iushr, sq_ladd, sq_lsub, sq_lmul, sq_idiv, sq_irem, sq_ldiv, sq_lrem, sq_i2l, sq_lcmp, sq_dupI, sq_dupR, sq_pop, sq_dup2, sq_goto, sq_if_eq, sq_icmp_eq, sq_if_ne, sq_icmp_ne, sq_if_lt, sq_icmp_lt, sq_if_ge, sq_icmp_ge, sq_if_gt, sq_icmp_gt, sq_if_le, sq_icmp_le, sq_iaload, sq_iastore, sq_alen, sq_places, sq_getI, sq_getR, sq_put, sq_ret, sq_lret, sq_vret, sq_switch, sq_callS, sq_callV, sq_copy, sq_max, sq_min, mm_len_2, mm_len_3, mm_len_4, mm_len_6, mm_len_8, mm_len_10, mm_len_11, mm_len_12, mm_len_13, mm_len_14, mm_len_15, mm_len_17, mm_len_18, mm_len_19, mm_len_20, mm_len_21, mm_len_22, mm_len_23, mm_len_24, mm_len_25]
  try simp only [eq_self, true_and, and_true, Bool.false_eq_true, false_implies, true_implies, true_or, or_true, mm_numI, mm_numL, mm_numN, pp_i10, pp_i01, pp_im1, not_false_eq_true, not_true_eq_false, false_or, or_false]
  refine ⟨fun q hq => ?_, fun c h1 => mm_setA_ne h1⟩
  rw [mm_setA_same]
  exact if_pos hq
set_option maxRecDepth 20000 in
theorem u_posts {l : Launch} {d : Nat} (hd : 1 < d) {h : mm_H} {s : ss_T} (hC : ss_C h s) (k : Int32) : mm_Ev l d M5_posts [.ref 0, .int k] h (ss_pC (.int (sp_posts k s).1) (sp_posts k s).2 h) := by
  have hC' := hC
  obtain ⟨n, A, mq, pf, ds, sc, tr, lk⟩ := s
  obtain ⟨c1, c2, c3, c4, c5, c6, c7⟩ := hC
  refine mm_Ev.of (by decide +kernel) (Nat.le_of_ble_eq_true rfl) (mm_rn_ok [14] _ (S5_posts l d _ _) 1000 _ _ _ _ ?_)
  simp only [G5_posts_0, G5_posts_1, G5_posts_2, G5_posts_5, G5_posts_6, G5_posts_8, G5_posts_11, G5_posts_13, G5_posts_14, G5_posts_15, G5_posts_18, G5_posts_19, G5_posts_22, G5_posts_23, G5_posts_26, G5_posts_29, G5_posts_30, G5_posts_33, G5_posts_34, G5_posts_37, G5_posts_38, N5_posts, ↓mm_kc_ap, ↓mm_cut, mm_en, mm_nth, mm_put, mm_sto, mm_stoL, mm_ag, mm_dr, mm_sw, Nat.reduceSub, List.replicate, Option.toList, List.cons_append, List.nil_append, sq_int, sq_lng, sq_iload, sq_lload, sq_aload, sq_istore, sq_lstore, sq_astore, sq_iinc, sq_iadd, sq_isub, sq_imul, sq_iand, sq_ior, sq_ixor, sq_ishl, sq_ishr, sq_iushr, sq_ladd, sq_lsub, sq_lmul, sq_idiv, sq_irem, sq_ldiv, sq_lrem, sq_i2l, sq_lcmp, sq_dupI, sq_dupR, sq_pop, sq_dup2, sq_goto, sq_if_eq, sq_icmp_eq, sq_if_ne, sq_icmp_ne, sq_if_lt, sq_icmp_lt, sq_if_ge, sq_icmp_ge, sq_if_gt, sq_icmp_gt, sq_if_le, sq_icmp_le, sq_iaload, sq_iastore, sq_alen, sq_places, sq_getI, sq_getR, sq_put, sq_ret, sq_lret, sq_vret, sq_switch, sq_callS, sq_callV, sq_copy, sq_max, sq_min, mm_len_2, mm_len_3, mm_len_4, mm_len_6, mm_len_8, mm_len_10, mm_len_11, mm_len_12, mm_len_13, mm_len_14, mm_len_15, mm_len_17, mm_len_18, mm_len_19, mm_len_20, mm_len_21, mm_len_22, mm_len_23, mm_len_24, mm_len_25]
  try simp only [eq_self, true_and, and_true, Bool.false_eq_true, false_implies, true_implies, true_or, or_true, mm_numI, mm_numL, mm_numN, pp_i10, pp_i01, pp_im1, not_false_eq_true, not_true_eq_false, false_or, or_false]
  unfold sp_posts
  dsimp only
  refine ⟨fun h1 => ?_, fun h1 => ⟨fun h2 => ?_, fun h2 => ?_⟩⟩
  · rw [if_neg (fun z => absurd z.1 (Int32.not_le.mpr h1))]
    exact ⟨rfl, hC', fun _ _ => rfl⟩
  · rw [if_pos ⟨Int32.not_lt.mp h1, h2⟩]
    obtain ⟨e1, e2, e3⟩ := pp_1to (m := 8) (Int32.not_lt.mp h1) (Int32.le_iff_toInt_le.mp h2)
    refine mm_rn_ok [] _ (S5_posts l d _ _) 1000 _ _ _ _ ?_
    simp only [G5_posts_0, G5_posts_1, G5_posts_2, G5_posts_5, G5_posts_6, G5_posts_8, G5_posts_11, G5_posts_13, G5_posts_14, G5_posts_15, G5_posts_18, G5_posts_19, G5_posts_22, G5_posts_23, G5_posts_26, G5_posts_29, G5_posts_30, G5_posts_33, G5_posts_34, G5_posts_37, G5_posts_38, N5_posts, ↓mm_kc_ap, ↓mm_cut, mm_en, mm_nth, mm_put, mm_sto, mm_stoL, mm_ag, mm_dr, mm_sw, Nat.reduceSub, List.replicate, Option.toList, List.cons_append, List.nil_append, sq_int, sq_lng, sq_iload, sq_lload, sq_aload, sq_istore, sq_lstore, sq_astore, sq_iinc, sq_iadd, sq_isub, sq_imul, sq_iand, sq_ior, sq_ixor, sq_ishl, sq_ishr, sq_iushr, sq_ladd, sq_lsub, sq_lmul, sq_idiv, sq_irem, sq_ldiv, sq_lrem, sq_i2l, sq_lcmp, sq_dupI, sq_dupR, sq_pop, sq_dup2, sq_goto, sq_if_eq, sq_icmp_eq, sq_if_ne, sq_icmp_ne, sq_if_lt, sq_icmp_lt, sq_if_ge, sq_icmp_ge, sq_if_gt, sq_icmp_gt, sq_if_le, sq_icmp_le, sq_iaload, sq_iastore, sq_alen, sq_places, sq_getI, sq_getR, sq_put, sq_ret, sq_lret, sq_vret, sq_switch, sq_callS, sq_callV, sq_copy, sq_max, sq_min, mm_len_2, mm_len_3, mm_len_4, mm_len_6, mm_len_8, mm_len_10, mm_len_11, mm_len_12, mm_len_13, mm_len_14, mm_len_15, mm_len_17, mm_len_18, mm_len_19, mm_len_20, mm_len_21, mm_len_22, mm_len_23, mm_len_24, mm_len_25]
    try simp only [eq_self, true_and, and_true, Bool.false_eq_true, false_implies, true_implies, true_or, or_true, mm_numI, mm_numL, mm_numN, pp_i10, pp_i01, pp_im1, not_false_eq_true, not_true_eq_false, false_or, or_false]
    refine ⟨1, _, hd, t_nclear (by decide) k, rfl, ?_⟩
    rintro _ h1' ⟨rfl, a1, a2, a3, a4⟩
    simp only [G5_posts_0, G5_posts_1, G5_posts_2, G5_posts_5, G5_posts_6, G5_posts_8, G5_posts_11, G5_posts_13, G5_posts_14, G5_posts_15, G5_posts_18, G5_posts_19, G5_posts_22, G5_posts_23, G5_posts_26, G5_posts_29, G5_posts_30, G5_posts_33, G5_posts_34, G5_posts_37, G5_posts_38, N5_posts, ↓mm_kc_ap, ↓mm_cut, mm_en, mm_nth, mm_put, mm_sto, mm_stoL, mm_ag, mm_dr, mm_sw, Nat.reduceSub, List.replicate, Option.toList, List.cons_append, List.nil_append, sq_int, sq_lng, sq_iload, sq_lload, sq_aload, sq_istore, sq_lstore, sq_astore, sq_iinc, sq_iadd, sq_isub, sq_imul, sq_iand, sq_ior, sq_ixor, sq_ishl, sq_ishr, sq_iushr, sq_ladd, sq_lsub, sq_lmul, sq_idiv, sq_irem, sq_ldiv, sq_lrem, sq_i2l, sq_lcmp, sq_dupI, sq_dupR, sq_pop, sq_dup2, sq_goto, sq_if_eq, sq_icmp_eq, sq_if_ne, sq_icmp_ne, sq_if_lt, sq_icmp_lt, sq_if_ge, sq_icmp_ge, sq_if_gt, sq_icmp_gt, sq_if_le, sq_icmp_le, sq_iaload, sq_iastore, sq_alen, sq_places, sq_getI, sq_getR, sq_put, sq_ret, sq_lret, sq_vret, sq_switch, sq_callS, sq_callV, sq_copy, sq_max, sq_min, mm_len_2, mm_len_3, mm_len_4, mm_len_6, mm_len_8, mm_len_10, mm_len_11, mm_len_12, mm_len_13, mm_len_14, mm_len_15, mm_len_17, mm_len_18, mm_len_19, mm_len_20, mm_len_21, mm_len_22, mm_len_23, mm_len_24, mm_len_25]
    try simp only [eq_self, true_and, and_true, Bool.false_eq_true, false_implies, true_implies, true_or, or_true, mm_numI, mm_numL, mm_numN, pp_i10, pp_i01, pp_im1, not_false_eq_true, not_true_eq_false, false_or, or_false]
    refine ⟨1, _, hd, t_mclear (by decide), rfl, ?_⟩
    rintro _ h2' ⟨rfl, b1, b2⟩
    simp only [G5_posts_0, G5_posts_1, G5_posts_2, G5_posts_5, G5_posts_6, G5_posts_8, G5_posts_11, G5_posts_13, G5_posts_14, G5_posts_15, G5_posts_18, G5_posts_19, G5_posts_22, G5_posts_23, G5_posts_26, G5_posts_29, G5_posts_30, G5_posts_33, G5_posts_34, G5_posts_37, G5_posts_38, N5_posts, ↓mm_kc_ap, ↓mm_cut, mm_en, mm_nth, mm_put, mm_sto, mm_stoL, mm_ag, mm_dr, mm_sw, Nat.reduceSub, List.replicate, Option.toList, List.cons_append, List.nil_append, sq_int, sq_lng, sq_iload, sq_lload, sq_aload, sq_istore, sq_lstore, sq_astore, sq_iinc, sq_iadd, sq_isub, sq_imul, sq_iand, sq_ior, sq_ixor, sq_ishl, sq_ishr, sq_iushr, sq_ladd, sq_lsub, sq_lmul, sq_idiv, sq_irem, sq_ldiv, sq_lrem, sq_i2l, sq_lcmp, sq_dupI, sq_dupR, sq_pop, sq_dup2, sq_goto, sq_if_eq, sq_icmp_eq, sq_if_ne, sq_icmp_ne, sq_if_lt, sq_icmp_lt, sq_if_ge, sq_icmp_ge, sq_if_gt, sq_icmp_gt, sq_if_le, sq_icmp_le, sq_iaload, sq_iastore, sq_alen, sq_places, sq_getI, sq_getR, sq_put, sq_ret, sq_lret, sq_vret, sq_switch, sq_callS, sq_callV, sq_copy, sq_max, sq_min, mm_len_2, mm_len_3, mm_len_4, mm_len_6, mm_len_8, mm_len_10, mm_len_11, mm_len_12, mm_len_13, mm_len_14, mm_len_15, mm_len_17, mm_len_18, mm_len_19, mm_len_20, mm_len_21, mm_len_22, mm_len_23, mm_len_24, mm_len_25]
    try simp only [eq_self, true_and, and_true, Bool.false_eq_true, false_implies, true_implies, true_or, or_true, mm_numI, mm_numL, mm_numN, pp_i10, pp_i01, pp_im1, not_false_eq_true, not_true_eq_false, false_or, or_false]
    refine ⟨0, _, by omega, t_fill l 0 _ 15 (by decide) (by decide) (by decide) 0, rfl, rfl, ?_⟩
    rintro _ _ ⟨rfl, rfl⟩
    simp only [G5_posts_0, G5_posts_1, G5_posts_2, G5_posts_5, G5_posts_6, G5_posts_8, G5_posts_11, G5_posts_13, G5_posts_14, G5_posts_15, G5_posts_18, G5_posts_19, G5_posts_22, G5_posts_23, G5_posts_26, G5_posts_29, G5_posts_30, G5_posts_33, G5_posts_34, G5_posts_37, G5_posts_38, N5_posts, ↓mm_kc_ap, ↓mm_cut, mm_en, mm_nth, mm_put, mm_sto, mm_stoL, mm_ag, mm_dr, mm_sw, Nat.reduceSub, List.replicate, Option.toList, List.cons_append, List.nil_append, sq_int, sq_lng, sq_iload, sq_lload, sq_aload, sq_istore, sq_lstore, sq_astore, sq_iinc, sq_iadd, sq_isub, sq_imul, sq_iand, sq_ior, sq_ixor, sq_ishl, sq_ishr, sq_iushr, sq_ladd, sq_lsub, sq_lmul, sq_idiv, sq_irem, sq_ldiv, sq_lrem, sq_i2l, sq_lcmp, sq_dupI, sq_dupR, sq_pop, sq_dup2, sq_goto, sq_if_eq, sq_icmp_eq, sq_if_ne, sq_icmp_ne, sq_if_lt, sq_icmp_lt, sq_if_ge, sq_icmp_ge, sq_if_gt, sq_icmp_gt, sq_if_le, sq_icmp_le, sq_iaload, sq_iastore, sq_alen, sq_places, sq_getI, sq_getR, sq_put, sq_ret, sq_lret, sq_vret, sq_switch, sq_callS, sq_callV, sq_copy, sq_max, sq_min, mm_len_2, mm_len_3, mm_len_4, mm_len_6, mm_len_8, mm_len_10, mm_len_11, mm_len_12, mm_len_13, mm_len_14, mm_len_15, mm_len_17, mm_len_18, mm_len_19, mm_len_20, mm_len_21, mm_len_22, mm_len_23, mm_len_24, mm_len_25]
    try simp only [eq_self, true_and, and_true, Bool.false_eq_true, false_implies, true_implies, true_or, or_true, mm_numI, mm_numL, mm_numN, pp_i10, pp_i01, pp_im1, not_false_eq_true, not_true_eq_false, false_or, or_false]
    have e0 : (0 : Int32) = nI 0 := nI_0.symm
    refine ⟨rfl, ⟨⟨e2, e3, ?_, ?_, ?_, fun _ => Nat.zero_lt_succ _, fun _ => Nat.zero_lt_succ _⟩, ?_, ⟨?_, fun _ => Nat.zero_lt_succ _⟩, ?_, ?_, ?_, ?_⟩, fun c hc => ?_⟩
    · rw [mm_setA_ne (by decide), b2 _ (by decide), a1]; exact e1
    · rw [mm_setA_ne (by decide), b2 _ (by decide)]; exact fun q hq => (a2 q hq).trans e0
    · rw [mm_setA_ne (by decide), b2 _ (by decide)]; exact fun q hq => (a3 q hq).trans e0
    · rw [mm_setA_same]; exact fun q hq => (if_pos hq).trans e0
    · rw [mm_setA_ne (by decide)]; exact fun q hq => (b1 q hq).trans e0
    · rw [mm_setA_ne (by decide), b2 _ (by decide), a4 _ (by decide) (by decide) (by decide)]; exact c4
    · rw [mm_setA_ne (by decide), b2 _ (by decide), a4 _ (by decide) (by decide) (by decide)]; exact c5
    · rw [mm_setA_ne (by decide), b2 _ (by decide), a4 _ (by decide) (by decide) (by decide)]; exact c6
    · rw [mm_setA_ne (by decide), b2 _ (by decide), a4 _ (by decide) (by decide) (by decide)]; exact c7
    · rw [mm_setA_ne (by omega), b2 _ (by omega), a4 _ (by omega) (by omega) (by omega)]
  · rw [if_neg (fun z => absurd z.2 h2)]
    exact ⟨rfl, hC', fun _ _ => rfl⟩
set_option maxRecDepth 20000 in
theorem v_posts_loop {l : Launch} {d : Nat} {E : mm_X} {post : mm_Po} {h0 : mm_H} (k0 : Int32) (hx : ∀ h' : mm_H, (∀ q, q < 8 → h' 17 q = 0 ∧ h' 18 q = 0 ∧ h' 19 q = 0 ∧ h' 20 q = 0) → (∀ c, c ≠ 17 → c ≠ 18 → c ≠ 19 → c ≠ 20 → h' c = h0 c) → post (some (.int (h' 16 0))) h') : ∀ (k p : Nat), p + k = 8 → ∀ h' : mm_H, (∀ q, q < p → h' 17 q = 0 ∧ h' 18 q = 0 ∧ h' 19 q = 0 ∧ h' 20 q = 0) → (∀ c, c ≠ 17 → c ≠ 18 → c ≠ 19 → c ≠ 20 → h' c = h0 c) → mm_At l d M6_posts E post 22 [some (.ref 16), some (.int k0), some (.int (nI p))] [] h' := by
  intro k
  induction k with
  | zero =>
    intro p hp h' g1 g2
    have e : p = 8 := by omega
    subst e
    refine mm_rn_ok [] _ (S6_posts l d _ _) 1000 _ _ _ _ ?_
    simp only [G6_posts_0, G6_posts_1, G6_posts_2, G6_posts_3, G6_posts_6, G6_posts_9, G6_posts_12, G6_posts_14, G6_posts_15, G6_posts_16, G6_posts_17, G6_posts_20, G6_posts_21, G6_posts_22, G6_posts_23, G6_posts_25, G6_posts_28, G6_posts_29, G6_posts_32, G6_posts_33, G6_posts_34, G6_posts_35, G6_posts_36, G6_posts_39, G6_posts_40, G6_posts_41, G6_posts_42, G6_posts_43, G6_posts_46, G6_posts_47, G6_posts_48, G6_posts_49, G6_posts_50, G6_posts_53, G6_posts_54, G6_posts_55, G6_posts_56, G6_posts_59, G6_posts_62, G6_posts_63, G6_posts_66, N6_posts, ↓mm_kc_ap, ↓mm_cut, mm_en, mm_nth, mm_put, mm_sto, mm_stoL, mm_ag, mm_dr, mm_sw, Nat.reduceSub, List.replicate, Option.toList, List.cons_append, List.nil_append, sq_int, sq_lng, sq_iload, sq_lload, sq_aload, sq_istore, sq_lstore, sq_astore, sq_iinc, sq_iadd, sq_isub, sq_imul, sq_iand, sq_ior, sq_ixor, sq_ishl, sq_ishr, sq_iushr, sq_ladd, sq_lsub, sq_lmul, sq_idiv, sq_irem, sq_ldiv, sq_lrem, sq_i2l, sq_lcmp, sq_dupI, sq_dupR, sq_pop, sq_dup2, sq_goto, sq_if_eq, sq_icmp_eq, sq_if_ne, sq_icmp_ne, sq_if_lt, sq_icmp_lt, sq_if_ge, sq_icmp_ge, sq_if_gt, sq_icmp_gt, sq_if_le, sq_icmp_le, sq_iaload, sq_iastore, sq_alen, sq_places, sq_getI, sq_getR, sq_put, sq_ret, sq_lret, sq_vret, sq_switch, sq_callS, sq_callV, sq_copy, sq_max, sq_min, mm_len_2, mm_len_3, mm_len_4, mm_len_6, mm_len_8, mm_len_10, mm_len_11, mm_len_12, mm_len_13, mm_len_14, mm_len_15, mm_len_17, mm_len_18, mm_len_19, mm_len_20, mm_len_21, mm_len_22, mm_len_23, mm_len_24, mm_len_25]
    try simp only [eq_self, true_and, and_true, Bool.false_eq_true, false_implies, true_implies, true_or, or_true, mm_numI, mm_numL, mm_numN, pp_i10, pp_i01, pp_im1, not_false_eq_true, not_true_eq_false, false_or, or_false]
    exact ⟨fun _ => hx h' g1 g2, fun hc => absurd (nI_le (a := 8) (b := 8) (Nat.le_refl _) (by decide)) hc⟩
  | succ k ih =>
    intro p hp h' g1 g2
    have hlt : ¬ (8 : Int32) ≤ nI p := nI_ge (b := 8) (show p < 8 by omega) (by decide)
    have hin : vp_in (nI p) 8 := vp_in_nI (by omega) (by decide)
    refine mm_rn_ok [] _ (S6_posts l d _ _) 1000 _ _ _ _ ?_
    simp only [G6_posts_0, G6_posts_1, G6_posts_2, G6_posts_3, G6_posts_6, G6_posts_9, G6_posts_12, G6_posts_14, G6_posts_15, G6_posts_16, G6_posts_17, G6_posts_20, G6_posts_21, G6_posts_22, G6_posts_23, G6_posts_25, G6_posts_28, G6_posts_29, G6_posts_32, G6_posts_33, G6_posts_34, G6_posts_35, G6_posts_36, G6_posts_39, G6_posts_40, G6_posts_41, G6_posts_42, G6_posts_43, G6_posts_46, G6_posts_47, G6_posts_48, G6_posts_49, G6_posts_50, G6_posts_53, G6_posts_54, G6_posts_55, G6_posts_56, G6_posts_59, G6_posts_62, G6_posts_63, G6_posts_66, N6_posts, ↓mm_kc_ap, ↓mm_cut, mm_en, mm_nth, mm_put, mm_sto, mm_stoL, mm_ag, mm_dr, mm_sw, Nat.reduceSub, List.replicate, Option.toList, List.cons_append, List.nil_append, sq_int, sq_lng, sq_iload, sq_lload, sq_aload, sq_istore, sq_lstore, sq_astore, sq_iinc, sq_iadd, sq_isub, sq_imul, sq_iand, sq_ior, sq_ixor, sq_ishl, sq_ishr, sq_iushr, sq_ladd, sq_lsub, sq_lmul, sq_idiv, sq_irem, sq_ldiv, sq_lrem, sq_i2l, sq_lcmp, sq_dupI, sq_dupR, sq_pop, sq_dup2, sq_goto, sq_if_eq, sq_icmp_eq, sq_if_ne, sq_icmp_ne, sq_if_lt, sq_icmp_lt, sq_if_ge, sq_icmp_ge, sq_if_gt, sq_icmp_gt, sq_if_le, sq_icmp_le, sq_iaload, sq_iastore, sq_alen, sq_places, sq_getI, sq_getR, sq_put, sq_ret, sq_lret, sq_vret, sq_switch, sq_callS, sq_callV, sq_copy, sq_max, sq_min, mm_len_2, mm_len_3, mm_len_4, mm_len_6, mm_len_8, mm_len_10, mm_len_11, mm_len_12, mm_len_13, mm_len_14, mm_len_15, mm_len_17, mm_len_18, mm_len_19, mm_len_20, mm_len_21, mm_len_22, mm_len_23, mm_len_24, mm_len_25]
    try simp only [eq_self, true_and, and_true, Bool.false_eq_true, false_implies, true_implies, true_or, or_true, mm_numI, mm_numL, mm_numN, pp_i10, pp_i01, pp_im1, not_false_eq_true, not_true_eq_false, false_or, or_false]
    refine ⟨fun hc => absurd hc hlt, fun _ => ⟨by decide, hin, by decide, hin, by decide, hin, by decide, hin, ?_⟩⟩
    rw [nI_1, nI_clamp (show p < 2 ^ 31 by omega)]
    refine ih (p + 1) (by omega) _ (fun q hq => ?_) (fun c x1 x2 x3 x4 => ?_)
    · by_cases e : q = p
      · subst e
        refine ⟨?_, ?_, ?_, ?_⟩
        · rw [mm_set_ne (by decide), mm_set_ne (by decide), mm_set_ne (by decide), mm_set_same]
        · rw [mm_set_ne (by decide), mm_set_ne (by decide), mm_set_same]
        · rw [mm_set_ne (by decide), mm_set_same]
        · rw [mm_set_same]
      · obtain ⟨y1, y2, y3, y4⟩ := g1 q (by omega)
        refine ⟨?_, ?_, ?_, ?_⟩
        · rw [mm_set_ne (by decide), mm_set_ne (by decide), mm_set_ne (by decide), mm_set_other e]; exact y1
        · rw [mm_set_ne (by decide), mm_set_ne (by decide), mm_set_other e, mm_set_ne (by decide)]; exact y2
        · rw [mm_set_ne (by decide), mm_set_other e, mm_set_ne (by decide), mm_set_ne (by decide)]; exact y3
        · rw [mm_set_other e, mm_set_ne (by decide), mm_set_ne (by decide), mm_set_ne (by decide)]; exact y4
    · rw [mm_set_ne x4, mm_set_ne x3, mm_set_ne x2, mm_set_ne x1]
      exact g2 c x1 x2 x3 x4
set_option maxRecDepth 20000 in
theorem v_posts {l : Launch} {d : Nat} (hd : 0 < d) {h : mm_H} {s : ss_T} (hM : ss_M h s) (k : Int32) : mm_Ev l d M6_posts [.ref 16, .int k] h (ss_pM (.int (sp_posts k s).1) (sp_posts k s).2 h) := by
  have hM' := hM
  obtain ⟨n, A, mq, pf, ds, sc, tr, lk⟩ := s
  obtain ⟨c1, c2, c3, c4, c5, c6⟩ := hM
  refine mm_Ev.of (by decide +kernel) (Nat.le_of_ble_eq_true rfl) (mm_rn_ok [22] _ (S6_posts l d _ _) 1000 _ _ _ _ ?_)
  simp only [G6_posts_0, G6_posts_1, G6_posts_2, G6_posts_3, G6_posts_6, G6_posts_9, G6_posts_12, G6_posts_14, G6_posts_15, G6_posts_16, G6_posts_17, G6_posts_20, G6_posts_21, G6_posts_22, G6_posts_23, G6_posts_25, G6_posts_28, G6_posts_29, G6_posts_32, G6_posts_33, G6_posts_34, G6_posts_35, G6_posts_36, G6_posts_39, G6_posts_40, G6_posts_41, G6_posts_42, G6_posts_43, G6_posts_46, G6_posts_47, G6_posts_48, G6_posts_49, G6_posts_50, G6_posts_53, G6_posts_54, G6_posts_55, G6_posts_56, G6_posts_59, G6_posts_62, G6_posts_63, G6_posts_66, N6_posts, ↓mm_kc_ap, ↓mm_cut, mm_en, mm_nth, mm_put, mm_sto, mm_stoL, mm_ag, mm_dr, mm_sw, Nat.reduceSub, List.replicate, Option.toList, List.cons_append, List.nil_append, sq_int, sq_lng, sq_iload, sq_lload, sq_aload, sq_istore, sq_lstore, sq_astore, sq_iinc, sq_iadd, sq_isub, sq_imul, sq_iand, sq_ior, sq_ixor, sq_ishl, sq_ishr, sq_iushr, sq_ladd, sq_lsub, sq_lmul, sq_idiv, sq_irem, sq_ldiv, sq_lrem, sq_i2l, sq_lcmp, sq_dupI, sq_dupR, sq_pop, sq_dup2, sq_goto, sq_if_eq, sq_icmp_eq, sq_if_ne, sq_icmp_ne, sq_if_lt, sq_icmp_lt, sq_if_ge, sq_icmp_ge, sq_if_gt, sq_icmp_gt, sq_if_le, sq_icmp_le, sq_iaload, sq_iastore, sq_alen, sq_places, sq_getI, sq_getR, sq_put, sq_ret, sq_lret, sq_vret, sq_switch, sq_callS, sq_callV, sq_copy, sq_max, sq_min, mm_len_2, mm_len_3, mm_len_4, mm_len_6, mm_len_8, mm_len_10, mm_len_11, mm_len_12, mm_len_13, mm_len_14, mm_len_15, mm_len_17, mm_len_18, mm_len_19, mm_len_20, mm_len_21, mm_len_22, mm_len_23, mm_len_24, mm_len_25]
  try simp only [eq_self, true_and, and_true, Bool.false_eq_true, false_implies, true_implies, true_or, or_true, mm_numI, mm_numL, mm_numN, pp_i10, pp_i01, pp_im1, not_false_eq_true, not_true_eq_false, false_or, or_false]
  refine ⟨0, _, by omega, t_in l 0 _ _ _ _, rfl, rfl, ?_⟩
  rintro _ _ ⟨rfl, rfl⟩
  simp only [G6_posts_0, G6_posts_1, G6_posts_2, G6_posts_3, G6_posts_6, G6_posts_9, G6_posts_12, G6_posts_14, G6_posts_15, G6_posts_16, G6_posts_17, G6_posts_20, G6_posts_21, G6_posts_22, G6_posts_23, G6_posts_25, G6_posts_28, G6_posts_29, G6_posts_32, G6_posts_33, G6_posts_34, G6_posts_35, G6_posts_36, G6_posts_39, G6_posts_40, G6_posts_41, G6_posts_42, G6_posts_43, G6_posts_46, G6_posts_47, G6_posts_48, G6_posts_49, G6_posts_50, G6_posts_53, G6_posts_54, G6_posts_55, G6_posts_56, G6_posts_59, G6_posts_62, G6_posts_63, G6_posts_66, N6_posts, ↓mm_kc_ap, ↓mm_cut, mm_en, mm_nth, mm_put, mm_sto, mm_stoL, mm_ag, mm_dr, mm_sw, Nat.reduceSub, List.replicate, Option.toList, List.cons_append, List.nil_append, sq_int, sq_lng, sq_iload, sq_lload, sq_aload, sq_istore, sq_lstore, sq_astore, sq_iinc, sq_iadd, sq_isub, sq_imul, sq_iand, sq_ior, sq_ixor, sq_ishl, sq_ishr, sq_iushr, sq_ladd, sq_lsub, sq_lmul, sq_idiv, sq_irem, sq_ldiv, sq_lrem, sq_i2l, sq_lcmp, sq_dupI, sq_dupR, sq_pop, sq_dup2, sq_goto, sq_if_eq, sq_icmp_eq, sq_if_ne, sq_icmp_ne, sq_if_lt, sq_icmp_lt, sq_if_ge, sq_icmp_ge, sq_if_gt, sq_icmp_gt, sq_if_le, sq_icmp_le, sq_iaload, sq_iastore, sq_alen, sq_places, sq_getI, sq_getR, sq_put, sq_ret, sq_lret, sq_vret, sq_switch, sq_callS, sq_callV, sq_copy, sq_max, sq_min, mm_len_2, mm_len_3, mm_len_4, mm_len_6, mm_len_8, mm_len_10, mm_len_11, mm_len_12, mm_len_13, mm_len_14, mm_len_15, mm_len_17, mm_len_18, mm_len_19, mm_len_20, mm_len_21, mm_len_22, mm_len_23, mm_len_24, mm_len_25]
  try simp only [eq_self, true_and, and_true, Bool.false_eq_true, false_implies, true_implies, true_or, or_true, mm_numI, mm_numL, mm_numN, pp_i10, pp_i01, pp_im1, not_false_eq_true, not_true_eq_false, false_or, or_false]
  rw [pp_in64 (k := k) (lo := 1) (hi := 8) (lo' := 1) (hi' := 8) rfl rfl, pp_bne, pp_beq, decide_eq_true_eq, decide_eq_false_iff_not]
  unfold sp_posts
  dsimp only
  refine ⟨fun h1 => ?_, fun h1 => ?_⟩
  · rw [if_pos h1]
    obtain ⟨e1, e2, e3⟩ := pp_1to (m := 8) h1.1 (Int32.le_iff_toInt_le.mp h1.2)
    refine v_posts_loop k (fun h' g1 g2 => ?_) 8 0 (by omega) _ (fun q hq => absurd hq (Nat.not_lt_zero q)) (fun c _ _ _ _ => rfl)
    have e0 : (0 : Int32) = nI 0 := nI_0.symm
    have g16 : h' 16 = mm_set _ 16 0 k 16 := g2 16 (by decide) (by decide) (by decide) (by decide)
    refine ⟨?_, ⟨⟨e2, e3, ?_, ?_, ?_, fun _ => Nat.zero_lt_succ _, fun _ => Nat.zero_lt_succ _⟩, ?_, ⟨?_, fun _ => Nat.zero_lt_succ _⟩, ?_, ?_, ?_⟩, fun c hc => ?_⟩
    · rw [g16, mm_set_same]
    · rw [g16, mm_set_same]; exact e1
    · exact fun q hq => (g1 q hq).1.trans e0
    · exact fun q hq => (g1 q hq).2.1.trans e0
    · exact fun q hq => (g1 q hq).2.2.1.trans e0
    · exact fun q hq => (g1 q hq).2.2.2.trans e0
    · rw [g16, mm_set_other (by decide)]; exact c4
    · rw [g16, mm_set_other (by decide)]; exact c5
    · rw [g16, mm_set_other (by decide)]; exact c6
    · rw [g2 c (by omega) (by omega) (by omega) (by omega), mm_set_ne (by omega)]
  · rw [if_neg h1]
    exact ⟨rfl, hM', fun _ _ => rfl⟩
theorem w_posts {s : ss_T} (hW : ss_W s) (k : Int32) : ss_W (sp_posts k s).2 := by
  have hW' := hW
  obtain ⟨n, A, mq, pf, ds, sc, tr, lk⟩ := s
  obtain ⟨w1, w2, w3, w4, w5, w6, w7, w8, w9, w10, w11, w12⟩ := hW
  unfold sp_posts
  dsimp only
  split
  · rename_i h1
    obtain ⟨e1, e2, e3⟩ := pp_1to (m := 8) h1.1 (Int32.le_iff_toInt_le.mp h1.2)
    refine ⟨e2, e3, fun p q hq => ?_, fun p q => (Nat.zero_testBit q).trans (Nat.zero_testBit p).symm, fun p => Nat.zero_testBit p, fun _ => Nat.zero_lt_succ _, fun _ => Nat.zero_lt_succ _, fun _ => Nat.zero_lt_succ _, fun _ => Nat.zero_lt_succ _, w10, w11, w12⟩
    rw [Nat.zero_testBit] at hq
    cases hq
  · exact hW'
