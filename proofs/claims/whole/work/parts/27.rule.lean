/-! ===== mending: the rule ===== -/
def mr_min (A ds : Nat → Nat) (p : Nat) : Nat → Nat
  | 0 => 3
  | k + 1 => if ((A p).testBit k && decide (ds k < mr_min A ds p k)) = true then ds k else mr_min A ds p k
def mr_rule (n : Nat) (A ds : Nat → Nat) (p : Nat) : Nat := if p = 0 then 0 else mr_min A ds p n + 1
theorem mr_min_le (A ds : Nat → Nat) (p : Nat) : ∀ k, mr_min A ds p k ≤ 3
  | 0 => Nat.le_refl _
  | k + 1 => by
    have := mr_min_le A ds p k
    unfold mr_min
    split
    · rename_i h
      rw [Bool.and_eq_true, decide_eq_true_eq] at h
      omega
    · exact this
theorem mr_rule_le (n : Nat) (A ds : Nat → Nat) (p : Nat) : mr_rule n A ds p ≤ 4 := by
  have := mr_min_le A ds p n
  unfold mr_rule
  split <;> omega
theorem mr_min_s (A ds : Nat → Nat) (p k : Nat) : mr_min A ds p (k + 1) = if ((A p).testBit k && decide (ds k < mr_min A ds p k)) = true then ds k else mr_min A ds p k := rfl
theorem pp_b_is1 {b : Bool} : pp_b b = 1 ↔ b = true := by cases b <;> simp [pp_b]
set_option maxRecDepth 20000 in
theorem t_rule_loop {l : Launch} {d : Nat} (hd : 0 < d) {E : mm_X} {h : mm_H} {n : Nat} {A mk ds : Nat → Nat} (hN : cc_N h n A mk) {a p : Nat} (ha : mm_len a = 8) (hf : ∀ q, q < 8 → h a q = nI (ds q)) (h5 : ∀ q, ds q < 5) (hp : p < 8) (h0 : ¬ p = 0) : ∀ (k q : Nat), q + k = n → mm_At l d M1_rule E (fun r h' => r = some (.int (nI (mr_rule n A ds p))) ∧ h' = h) 11 [some (.ref 9), some (.ref a), some (.int (nI p)), some (.int (nI (mr_min A ds p q))), some (.int (nI q))] [] h := by
  have hN' := hN
  obtain ⟨n1, n8, hn, hA, hm, hA8, hm4⟩ := hN
  intro k
  induction k with
  | zero =>
    intro q hq
    have e : q = n := by omega
    subst e
    refine mm_rn_ok [] _ (S1_rule l d _ _) 1000 _ _ _ _ ?_
    simp only [G1_rule_0, G1_rule_1, G1_rule_4, G1_rule_5, G1_rule_6, G1_rule_7, G1_rule_8, G1_rule_9, G1_rule_11, G1_rule_13, G1_rule_14, G1_rule_17, G1_rule_20, G1_rule_23, G1_rule_24, G1_rule_27, G1_rule_28, G1_rule_30, G1_rule_33, G1_rule_34, G1_rule_37, G1_rule_38, G1_rule_39, G1_rule_41, G1_rule_42, G1_rule_45, G1_rule_46, G1_rule_49, G1_rule_52, G1_rule_53, G1_rule_54, G1_rule_55, N1_rule, ↓mm_kc_ap, ↓mm_cut, mm_en, mm_nth, mm_put, mm_sto, mm_stoL, mm_ag, mm_dr, mm_sw, Nat.reduceSub, List.replicate, Option.toList, List.cons_append, List.nil_append, sq_int, sq_lng, sq_iload, sq_lload, sq_aload, sq_istore, sq_lstore, sq_astore, sq_iinc, sq_iadd, sq_isub, sq_imul, sq_iand, sq_ior, sq_ixor, sq_ishl, sq_ishr, sq_iushr, sq_ladd, sq_lsub, sq_lmul, sq_idiv, sq_irem, sq_ldiv, sq_lrem, sq_i2l, sq_lcmp, sq_dupI, sq_dupR, sq_pop, sq_dup2, sq_goto, sq_if_eq, sq_icmp_eq, sq_if_ne, sq_icmp_ne, sq_if_lt, sq_icmp_lt, sq_if_ge, sq_icmp_ge, sq_if_gt, sq_icmp_gt, sq_if_le, sq_icmp_le, sq_iaload, sq_iastore, sq_alen, sq_places, sq_getI, sq_getR, sq_put, sq_ret, sq_lret, sq_vret, sq_switch, sq_callS, sq_callV, sq_copy, sq_max, sq_min, mm_len_2, mm_len_3, mm_len_4, mm_len_6, mm_len_8, mm_len_10, mm_len_11, mm_len_12, mm_len_13, mm_len_14, mm_len_15, mm_len_17, mm_len_18, mm_len_19, mm_len_20, mm_len_21, mm_len_22, mm_len_23, mm_len_24, mm_len_25]
    try simp only [eq_self, true_and, and_true, Bool.false_eq_true, false_implies, true_implies, true_or, or_true, mm_numI, mm_numL, mm_numN, pp_i10, pp_i01, pp_im1, not_false_eq_true, not_true_eq_false, false_or, or_false]
    rw [hn, nI_1]
    refine ⟨fun _ => ?_, fun hc => absurd (nI_le (Nat.le_refl _) (by omega)) hc⟩
    unfold mr_rule
    rw [if_neg h0]
  | succ k ih =>
    intro q hq
    have ih := ih (q + 1) (by omega)
    rw [mr_min_s] at ih
    refine mm_rn_ok [] _ (S1_rule l d _ _) 1000 _ _ _ _ ?_
    simp only [G1_rule_0, G1_rule_1, G1_rule_4, G1_rule_5, G1_rule_6, G1_rule_7, G1_rule_8, G1_rule_9, G1_rule_11, G1_rule_13, G1_rule_14, G1_rule_17, G1_rule_20, G1_rule_23, G1_rule_24, G1_rule_27, G1_rule_28, G1_rule_30, G1_rule_33, G1_rule_34, G1_rule_37, G1_rule_38, G1_rule_39, G1_rule_41, G1_rule_42, G1_rule_45, G1_rule_46, G1_rule_49, G1_rule_52, G1_rule_53, G1_rule_54, G1_rule_55, N1_rule, ↓mm_kc_ap, ↓mm_cut, mm_en, mm_nth, mm_put, mm_sto, mm_stoL, mm_ag, mm_dr, mm_sw, Nat.reduceSub, List.replicate, Option.toList, List.cons_append, List.nil_append, sq_int, sq_lng, sq_iload, sq_lload, sq_aload, sq_istore, sq_lstore, sq_astore, sq_iinc, sq_iadd, sq_isub, sq_imul, sq_iand, sq_ior, sq_ixor, sq_ishl, sq_ishr, sq_iushr, sq_ladd, sq_lsub, sq_lmul, sq_idiv, sq_irem, sq_ldiv, sq_lrem, sq_i2l, sq_lcmp, sq_dupI, sq_dupR, sq_pop, sq_dup2, sq_goto, sq_if_eq, sq_icmp_eq, sq_if_ne, sq_icmp_ne, sq_if_lt, sq_icmp_lt, sq_if_ge, sq_icmp_ge, sq_if_gt, sq_icmp_gt, sq_if_le, sq_icmp_le, sq_iaload, sq_iastore, sq_alen, sq_places, sq_getI, sq_getR, sq_put, sq_ret, sq_lret, sq_vret, sq_switch, sq_callS, sq_callV, sq_copy, sq_max, sq_min, mm_len_2, mm_len_3, mm_len_4, mm_len_6, mm_len_8, mm_len_10, mm_len_11, mm_len_12, mm_len_13, mm_len_14, mm_len_15, mm_len_17, mm_len_18, mm_len_19, mm_len_20, mm_len_21, mm_len_22, mm_len_23, mm_len_24, mm_len_25]
    try simp only [eq_self, true_and, and_true, Bool.false_eq_true, false_implies, true_implies, true_or, or_true, mm_numI, mm_numL, mm_numN, pp_i10, pp_i01, pp_im1, not_false_eq_true, not_true_eq_false, false_or, or_false]
    rw [hn]
    refine ⟨fun hc => absurd hc (nI_ge (by omega) (by omega)), fun _ => ⟨0, _, hd, t_joined hN' hp (by omega), rfl, ?_⟩⟩
    rintro _ _ ⟨rfl, rfl⟩
    simp only [G1_rule_0, G1_rule_1, G1_rule_4, G1_rule_5, G1_rule_6, G1_rule_7, G1_rule_8, G1_rule_9, G1_rule_11, G1_rule_13, G1_rule_14, G1_rule_17, G1_rule_20, G1_rule_23, G1_rule_24, G1_rule_27, G1_rule_28, G1_rule_30, G1_rule_33, G1_rule_34, G1_rule_37, G1_rule_38, G1_rule_39, G1_rule_41, G1_rule_42, G1_rule_45, G1_rule_46, G1_rule_49, G1_rule_52, G1_rule_53, G1_rule_54, G1_rule_55, N1_rule, ↓mm_kc_ap, ↓mm_cut, mm_en, mm_nth, mm_put, mm_sto, mm_stoL, mm_ag, mm_dr, mm_sw, Nat.reduceSub, List.replicate, Option.toList, List.cons_append, List.nil_append, sq_int, sq_lng, sq_iload, sq_lload, sq_aload, sq_istore, sq_lstore, sq_astore, sq_iinc, sq_iadd, sq_isub, sq_imul, sq_iand, sq_ior, sq_ixor, sq_ishl, sq_ishr, sq_iushr, sq_ladd, sq_lsub, sq_lmul, sq_idiv, sq_irem, sq_ldiv, sq_lrem, sq_i2l, sq_lcmp, sq_dupI, sq_dupR, sq_pop, sq_dup2, sq_goto, sq_if_eq, sq_icmp_eq, sq_if_ne, sq_icmp_ne, sq_if_lt, sq_icmp_lt, sq_if_ge, sq_icmp_ge, sq_if_gt, sq_icmp_gt, sq_if_le, sq_icmp_le, sq_iaload, sq_iastore, sq_alen, sq_places, sq_getI, sq_getR, sq_put, sq_ret, sq_lret, sq_vret, sq_switch, sq_callS, sq_callV, sq_copy, sq_max, sq_min, mm_len_2, mm_len_3, mm_len_4, mm_len_6, mm_len_8, mm_len_10, mm_len_11, mm_len_12, mm_len_13, mm_len_14, mm_len_15, mm_len_17, mm_len_18, mm_len_19, mm_len_20, mm_len_21, mm_len_22, mm_len_23, mm_len_24, mm_len_25]
    try simp only [eq_self, true_and, and_true, Bool.false_eq_true, false_implies, true_implies, true_or, or_true, mm_numI, mm_numL, mm_numN, pp_i10, pp_i01, pp_im1, not_false_eq_true, not_true_eq_false, false_or, or_false]
    have hle := mr_min_le A ds p q
    have h5q := h5 q
    rw [pp_b_is1, ha, nI_clamp (show q < 2 ^ 31 by omega), hf q (by omega), nI_1]
    refine ⟨fun hb => ?_, fun hb => ⟨vp_in_nI (by omega) (by decide), hd, rfl, ?_⟩⟩
    · rw [if_neg (by rw [Bool.and_eq_true]; exact fun z => hb z.1)] at ih
      exact ih
    · have elt : (nI (ds q) < nI (mr_min A ds p q)) ↔ ds q < mr_min A ds p q := nI_ltI (by omega) (by omega)
      by_cases hc : ds q < mr_min A ds p q
      · rw [if_pos (by rw [hb, decide_eq_true hc]; rfl)] at ih
        rw [if_pos (elt.mpr hc)]
        exact ih
      · rw [if_neg (by rw [decide_eq_false hc, Bool.and_false]; exact Bool.false_ne_true)] at ih
        rw [if_neg (fun z => hc (elt.mp z))]
        exact ih
set_option maxRecDepth 20000 in
theorem t_rule {l : Launch} {d : Nat} (hd : 0 < d) {h : mm_H} {n : Nat} {A mk ds : Nat → Nat} (hN : cc_N h n A mk) {a p : Nat} (ha : mm_len a = 8) (hf : ∀ q, q < 8 → h a q = nI (ds q)) (h5 : ∀ q, ds q < 5) (hp : p < 8) : mm_Ev l d M1_rule [.ref 9, .ref a, .int (nI p)] h (fun r h' => r = some (.int (nI (mr_rule n A ds p))) ∧ h' = h) := by
  refine mm_Ev.of (by decide +kernel) (Nat.le_of_ble_eq_true rfl) (mm_rn_ok [11] _ (S1_rule l d _ _) 1000 _ _ _ _ ?_)
  simp only [G1_rule_0, G1_rule_1, G1_rule_4, G1_rule_5, G1_rule_6, G1_rule_7, G1_rule_8, G1_rule_9, G1_rule_11, G1_rule_13, G1_rule_14, G1_rule_17, G1_rule_20, G1_rule_23, G1_rule_24, G1_rule_27, G1_rule_28, G1_rule_30, G1_rule_33, G1_rule_34, G1_rule_37, G1_rule_38, G1_rule_39, G1_rule_41, G1_rule_42, G1_rule_45, G1_rule_46, G1_rule_49, G1_rule_52, G1_rule_53, G1_rule_54, G1_rule_55, N1_rule, ↓mm_kc_ap, ↓mm_cut, mm_en, mm_nth, mm_put, mm_sto, mm_stoL, mm_ag, mm_dr, mm_sw, Nat.reduceSub, List.replicate, Option.toList, List.cons_append, List.nil_append, sq_int, sq_lng, sq_iload, sq_lload, sq_aload, sq_istore, sq_lstore, sq_astore, sq_iinc, sq_iadd, sq_isub, sq_imul, sq_iand, sq_ior, sq_ixor, sq_ishl, sq_ishr, sq_iushr, sq_ladd, sq_lsub, sq_lmul, sq_idiv, sq_irem, sq_ldiv, sq_lrem, sq_i2l, sq_lcmp, sq_dupI, sq_dupR, sq_pop, sq_dup2, sq_goto, sq_if_eq, sq_icmp_eq, sq_if_ne, sq_icmp_ne, sq_if_lt, sq_icmp_lt, sq_if_ge, sq_icmp_ge, sq_if_gt, sq_icmp_gt, sq_if_le, sq_icmp_le, sq_iaload, sq_iastore, sq_alen, sq_places, sq_getI, sq_getR, sq_put, sq_ret, sq_lret, sq_vret, sq_switch, sq_callS, sq_callV, sq_copy, sq_max, sq_min, mm_len_2, mm_len_3, mm_len_4, mm_len_6, mm_len_8, mm_len_10, mm_len_11, mm_len_12, mm_len_13, mm_len_14, mm_len_15, mm_len_17, mm_len_18, mm_len_19, mm_len_20, mm_len_21, mm_len_22, mm_len_23, mm_len_24, mm_len_25]
  try simp only [eq_self, true_and, and_true, Bool.false_eq_true, false_implies, true_implies, true_or, or_true, mm_numI, mm_numL, mm_numN, pp_i10, pp_i01, pp_im1, not_false_eq_true, not_true_eq_false, false_or, or_false]
  rw [pp_eq0 (show p < 2 ^ 31 by omega)]
  refine ⟨fun h0 => t_rule_loop hd hN ha hf h5 hp h0 n 0 (by omega), fun h0 => ?_⟩
  unfold mr_rule
  rw [if_pos h0]
  rfl
set_option maxRecDepth 20000 in
theorem t_ruleOf_loop {l : Launch} {d : Nat} (hd : 0 < d) {E : mm_X} {h : mm_H} {n : Nat} {A mk ds : Nat → Nat} (hN : dd_N h n A mk) {p : Nat} (hf : ∀ q, q < 8 → h 20 q = nI (ds q)) (h5 : ∀ q, ds q < 5) (hp : p < 8) (h0 : ¬ p = 0) : ∀ (k q : Nat), q + k = n → mm_At l d M6_ruleOf E (fun r h' => r = some (.int (nI (mr_rule n A ds p))) ∧ h' = h) 10 [some (.ref 16), some (.int (nI p)), some (.int (nI (mr_min A ds p q))), some (.int (nI q))] [] h := by
  have n8 := hN.2.1
  have hn := hN.2.2.1
  intro k
  induction k with
  | zero =>
    intro q hq
    have e : q = n := by omega
    subst e
    refine mm_rn_ok [] _ (S6_ruleOf l d _ _) 1000 _ _ _ _ ?_
    simp only [G6_ruleOf_0, G6_ruleOf_1, G6_ruleOf_4, G6_ruleOf_5, G6_ruleOf_6, G6_ruleOf_7, G6_ruleOf_8, G6_ruleOf_9, G6_ruleOf_10, G6_ruleOf_11, G6_ruleOf_12, G6_ruleOf_15, G6_ruleOf_18, G6_ruleOf_19, G6_ruleOf_20, G6_ruleOf_21, G6_ruleOf_24, G6_ruleOf_27, G6_ruleOf_28, G6_ruleOf_31, G6_ruleOf_32, G6_ruleOf_33, G6_ruleOf_34, G6_ruleOf_37, G6_ruleOf_38, G6_ruleOf_41, G6_ruleOf_42, G6_ruleOf_43, G6_ruleOf_46, G6_ruleOf_47, G6_ruleOf_48, G6_ruleOf_51, G6_ruleOf_54, G6_ruleOf_55, G6_ruleOf_56, G6_ruleOf_57, N6_ruleOf, ↓mm_kc_ap, ↓mm_cut, mm_en, mm_nth, mm_put, mm_sto, mm_stoL, mm_ag, mm_dr, mm_sw, Nat.reduceSub, List.replicate, Option.toList, List.cons_append, List.nil_append, sq_int, sq_lng, sq_iload, sq_lload, sq_aload, sq_istore, sq_lstore, sq_astore, sq_iinc, sq_iadd, sq_isub, sq_imul, sq_iand, sq_ior, sq_ixor, sq_ishl, sq_ishr, sq_iushr, sq_ladd, sq_lsub, sq_lmul, sq_idiv, sq_irem, sq_ldiv, sq_lrem, sq_i2l, sq_lcmp, sq_dupI, sq_dupR, sq_pop, sq_dup2, sq_goto, sq_if_eq, sq_icmp_eq, sq_if_ne, sq_icmp_ne, sq_if_lt, sq_icmp_lt, sq_if_ge, sq_icmp_ge, sq_if_gt, sq_icmp_gt, sq_if_le, sq_icmp_le, sq_iaload, sq_iastore, sq_alen, sq_places, sq_getI, sq_getR, sq_put, sq_ret, sq_lret, sq_vret, sq_switch, sq_callS, sq_callV, sq_copy, sq_max, sq_min, mm_len_2, mm_len_3, mm_len_4, mm_len_6, mm_len_8, mm_len_10, mm_len_11, mm_len_12, mm_len_13, mm_len_14, mm_len_15, mm_len_17, mm_len_18, mm_len_19, mm_len_20, mm_len_21, mm_len_22, mm_len_23, mm_len_24, mm_len_25]
    try simp only [eq_self, true_and, and_true, Bool.false_eq_true, false_implies, true_implies, true_or, or_true, mm_numI, mm_numL, mm_numN, pp_i10, pp_i01, pp_im1, not_false_eq_true, not_true_eq_false, false_or, or_false]
    rw [hn, nI_1]
    refine ⟨fun _ => ?_, fun hc => absurd (nI_le (Nat.le_refl _) (by omega)) hc⟩
    unfold mr_rule
    rw [if_neg h0]
  | succ k ih =>
    intro q hq
    have ih := ih (q + 1) (by omega)
    rw [mr_min_s] at ih
    refine mm_rn_ok [] _ (S6_ruleOf l d _ _) 1000 _ _ _ _ ?_
    simp only [G6_ruleOf_0, G6_ruleOf_1, G6_ruleOf_4, G6_ruleOf_5, G6_ruleOf_6, G6_ruleOf_7, G6_ruleOf_8, G6_ruleOf_9, G6_ruleOf_10, G6_ruleOf_11, G6_ruleOf_12, G6_ruleOf_15, G6_ruleOf_18, G6_ruleOf_19, G6_ruleOf_20, G6_ruleOf_21, G6_ruleOf_24, G6_ruleOf_27, G6_ruleOf_28, G6_ruleOf_31, G6_ruleOf_32, G6_ruleOf_33, G6_ruleOf_34, G6_ruleOf_37, G6_ruleOf_38, G6_ruleOf_41, G6_ruleOf_42, G6_ruleOf_43, G6_ruleOf_46, G6_ruleOf_47, G6_ruleOf_48, G6_ruleOf_51, G6_ruleOf_54, G6_ruleOf_55, G6_ruleOf_56, G6_ruleOf_57, N6_ruleOf, ↓mm_kc_ap, ↓mm_cut, mm_en, mm_nth, mm_put, mm_sto, mm_stoL, mm_ag, mm_dr, mm_sw, Nat.reduceSub, List.replicate, Option.toList, List.cons_append, List.nil_append, sq_int, sq_lng, sq_iload, sq_lload, sq_aload, sq_istore, sq_lstore, sq_astore, sq_iinc, sq_iadd, sq_isub, sq_imul, sq_iand, sq_ior, sq_ixor, sq_ishl, sq_ishr, sq_iushr, sq_ladd, sq_lsub, sq_lmul, sq_idiv, sq_irem, sq_ldiv, sq_lrem, sq_i2l, sq_lcmp, sq_dupI, sq_dupR, sq_pop, sq_dup2, sq_goto, sq_if_eq, sq_icmp_eq, sq_if_ne, sq_icmp_ne, sq_if_lt, sq_icmp_lt, sq_if_ge, sq_icmp_ge, sq_if_gt, sq_icmp_gt, sq_if_le, sq_icmp_le, sq_iaload, sq_iastore, sq_alen, sq_places, sq_getI, sq_getR, sq_put, sq_ret, sq_lret, sq_vret, sq_switch, sq_callS, sq_callV, sq_copy, sq_max, sq_min, mm_len_2, mm_len_3, mm_len_4, mm_len_6, mm_len_8, mm_len_10, mm_len_11, mm_len_12, mm_len_13, mm_len_14, mm_len_15, mm_len_17, mm_len_18, mm_len_19, mm_len_20, mm_len_21, mm_len_22, mm_len_23, mm_len_24, mm_len_25]
    try simp only [eq_self, true_and, and_true, Bool.false_eq_true, false_implies, true_implies, true_or, or_true, mm_numI, mm_numL, mm_numN, pp_i10, pp_i01, pp_im1, not_false_eq_true, not_true_eq_false, false_or, or_false]
    rw [hn]
    refine ⟨fun hc => absurd hc (nI_ge (by omega) (by omega)), fun _ => ⟨0, _, hd, t_areNear hN hp (by omega), rfl, ?_⟩⟩
    rintro _ _ ⟨rfl, rfl⟩
    simp only [G6_ruleOf_0, G6_ruleOf_1, G6_ruleOf_4, G6_ruleOf_5, G6_ruleOf_6, G6_ruleOf_7, G6_ruleOf_8, G6_ruleOf_9, G6_ruleOf_10, G6_ruleOf_11, G6_ruleOf_12, G6_ruleOf_15, G6_ruleOf_18, G6_ruleOf_19, G6_ruleOf_20, G6_ruleOf_21, G6_ruleOf_24, G6_ruleOf_27, G6_ruleOf_28, G6_ruleOf_31, G6_ruleOf_32, G6_ruleOf_33, G6_ruleOf_34, G6_ruleOf_37, G6_ruleOf_38, G6_ruleOf_41, G6_ruleOf_42, G6_ruleOf_43, G6_ruleOf_46, G6_ruleOf_47, G6_ruleOf_48, G6_ruleOf_51, G6_ruleOf_54, G6_ruleOf_55, G6_ruleOf_56, G6_ruleOf_57, N6_ruleOf, ↓mm_kc_ap, ↓mm_cut, mm_en, mm_nth, mm_put, mm_sto, mm_stoL, mm_ag, mm_dr, mm_sw, Nat.reduceSub, List.replicate, Option.toList, List.cons_append, List.nil_append, sq_int, sq_lng, sq_iload, sq_lload, sq_aload, sq_istore, sq_lstore, sq_astore, sq_iinc, sq_iadd, sq_isub, sq_imul, sq_iand, sq_ior, sq_ixor, sq_ishl, sq_ishr, sq_iushr, sq_ladd, sq_lsub, sq_lmul, sq_idiv, sq_irem, sq_ldiv, sq_lrem, sq_i2l, sq_lcmp, sq_dupI, sq_dupR, sq_pop, sq_dup2, sq_goto, sq_if_eq, sq_icmp_eq, sq_if_ne, sq_icmp_ne, sq_if_lt, sq_icmp_lt, sq_if_ge, sq_icmp_ge, sq_if_gt, sq_icmp_gt, sq_if_le, sq_icmp_le, sq_iaload, sq_iastore, sq_alen, sq_places, sq_getI, sq_getR, sq_put, sq_ret, sq_lret, sq_vret, sq_switch, sq_callS, sq_callV, sq_copy, sq_max, sq_min, mm_len_2, mm_len_3, mm_len_4, mm_len_6, mm_len_8, mm_len_10, mm_len_11, mm_len_12, mm_len_13, mm_len_14, mm_len_15, mm_len_17, mm_len_18, mm_len_19, mm_len_20, mm_len_21, mm_len_22, mm_len_23, mm_len_24, mm_len_25]
    try simp only [eq_self, true_and, and_true, Bool.false_eq_true, false_implies, true_implies, true_or, or_true, mm_numI, mm_numL, mm_numN, pp_i10, pp_i01, pp_im1, not_false_eq_true, not_true_eq_false, false_or, or_false]
    have hle := mr_min_le A ds p q
    have h5q := h5 q
    have ele : (nI (mr_min A ds p q) ≤ nI (ds q)) ↔ mr_min A ds p q ≤ ds q := nI_leI (by omega) (by omega)
    rw [pp_bne, pp_beq, nI_clamp (show q < 2 ^ 31 by omega), hf q (by omega), nI_1, ele]
    refine ⟨fun hb => ?_, fun hb => ⟨vp_in_nI (by omega) (by decide), fun hc => ?_, fun hc => ⟨vp_in_nI (by omega) (by decide), ?_⟩⟩⟩
    · rw [if_neg (by rw [hb, Bool.false_and]; exact Bool.false_ne_true)] at ih
      exact ih
    · rw [if_neg (by rw [decide_eq_false (by omega), Bool.and_false]; exact Bool.false_ne_true)] at ih
      exact ih
    · rw [if_pos (by rw [hb, decide_eq_true (by omega)]; rfl)] at ih
      exact ih
set_option maxRecDepth 20000 in
theorem t_ruleOf {l : Launch} {d : Nat} (hd : 0 < d) {h : mm_H} {n : Nat} {A mk ds : Nat → Nat} (hN : dd_N h n A mk) {p : Nat} (hf : ∀ q, q < 8 → h 20 q = nI (ds q)) (h5 : ∀ q, ds q < 5) (hp : p < 8) : mm_Ev l d M6_ruleOf [.ref 16, .int (nI p)] h (fun r h' => r = some (.int (nI (mr_rule n A ds p))) ∧ h' = h) := by
  refine mm_Ev.of (by decide +kernel) (Nat.le_of_ble_eq_true rfl) (mm_rn_ok [10] _ (S6_ruleOf l d _ _) 1000 _ _ _ _ ?_)
  simp only [G6_ruleOf_0, G6_ruleOf_1, G6_ruleOf_4, G6_ruleOf_5, G6_ruleOf_6, G6_ruleOf_7, G6_ruleOf_8, G6_ruleOf_9, G6_ruleOf_10, G6_ruleOf_11, G6_ruleOf_12, G6_ruleOf_15, G6_ruleOf_18, G6_ruleOf_19, G6_ruleOf_20, G6_ruleOf_21, G6_ruleOf_24, G6_ruleOf_27, G6_ruleOf_28, G6_ruleOf_31, G6_ruleOf_32, G6_ruleOf_33, G6_ruleOf_34, G6_ruleOf_37, G6_ruleOf_38, G6_ruleOf_41, G6_ruleOf_42, G6_ruleOf_43, G6_ruleOf_46, G6_ruleOf_47, G6_ruleOf_48, G6_ruleOf_51, G6_ruleOf_54, G6_ruleOf_55, G6_ruleOf_56, G6_ruleOf_57, N6_ruleOf, ↓mm_kc_ap, ↓mm_cut, mm_en, mm_nth, mm_put, mm_sto, mm_stoL, mm_ag, mm_dr, mm_sw, Nat.reduceSub, List.replicate, Option.toList, List.cons_append, List.nil_append, sq_int, sq_lng, sq_iload, sq_lload, sq_aload, sq_istore, sq_lstore, sq_astore, sq_iinc, sq_iadd, sq_isub, sq_imul, sq_iand, sq_ior, sq_ixor, sq_ishl, sq_ishr, sq_iushr, sq_ladd, sq_lsub, sq_lmul, sq_idiv, sq_irem, sq_ldiv, sq_lrem, sq_i2l, sq_lcmp, sq_dupI, sq_dupR, sq_pop, sq_dup2, sq_goto, sq_if_eq, sq_icmp_eq, sq_if_ne, sq_icmp_ne, sq_if_lt, sq_icmp_lt, sq_if_ge, sq_icmp_ge, sq_if_gt, sq_icmp_gt, sq_if_le, sq_icmp_le, sq_iaload, sq_iastore, sq_alen, sq_places, sq_getI, sq_getR, sq_put, sq_ret, sq_lret, sq_vret, sq_switch, sq_callS, sq_callV, sq_copy, sq_max, sq_min, mm_len_2, mm_len_3, mm_len_4, mm_len_6, mm_len_8, mm_len_10, mm_len_11, mm_len_12, mm_len_13, mm_len_14, mm_len_15, mm_len_17, mm_len_18, mm_len_19, mm_len_20, mm_len_21, mm_len_22, mm_len_23, mm_len_24, mm_len_25]
  try simp only [eq_self, true_and, and_true, Bool.false_eq_true, false_implies, true_implies, true_or, or_true, mm_numI, mm_numL, mm_numN, pp_i10, pp_i01, pp_im1, not_false_eq_true, not_true_eq_false, false_or, or_false]
  rw [pp_eq0 (show p < 2 ^ 31 by omega)]
  refine ⟨fun h0 => t_ruleOf_loop hd hN hf h5 hp h0 n 0 (by omega), fun h0 => ?_⟩
  unfold mr_rule
  rw [if_pos h0]
  rfl
