/-! ===== the class: sets, lines ===== -/
/-- p is the least of those that hang together with it -/
def gg_least (n : Nat) (A : Nat → Nat) (p : Nat) : Bool := pp_all (fun q => !(gg_r n A p (n - 1) q)) p
theorem pp_low (p : Nat) : (1 <<< p) - 1 = pp_msk (fun _ => true) p := by
  apply Nat.eq_of_testBit_eq
  intro j
  rw [Nat.one_shiftLeft, Nat.testBit_two_pow_sub_one, pp_msk_bit, Bool.and_true]
set_option maxRecDepth 20000 in
theorem t_isLeast {l : Launch} {d : Nat} {h : mm_H} {p X : Nat} (hp : p < 8) (hX : X < 256) : mm_Ev l d M2_isLeast [.int (nI p), .int (nI X)] h (fun r h' => r = some (.int (pp_b (pp_all (fun q => !(X.testBit q)) p))) ∧ h' = h) := by
  refine mm_Ev.of (by decide +kernel) (Nat.le_of_ble_eq_true rfl) (mm_rn_ok [] _ (S2_isLeast l d _ _) 1000 _ _ _ _ ?_)
  simp only [G2_isLeast_0, G2_isLeast_1, G2_isLeast_2, G2_isLeast_3, G2_isLeast_4, G2_isLeast_5, G2_isLeast_6, G2_isLeast_7, G2_isLeast_10, G2_isLeast_11, G2_isLeast_14, G2_isLeast_15, N2_isLeast, ↓mm_kc_ap, ↓mm_cut, mm_en, mm_nth, mm_put, mm_sto, mm_stoL, mm_ag, mm_dr, mm_sw, Nat.reduceSub, List.replicate, Option.toList, List.cons_append, List.nil_append, sq_int, sq_lng, sq_iload, sq_lload, sq_aload, sq_istore, sq_lstore, sq_astore, sq_iinc, sq_iadd, sq_isub, sq_imul, sq_iand, sq_ior, sq_ixor, sq_ishl, sq_ishr, sq_iushr, sq_ladd, sq_lsub, sq_lmul, sq_idiv, sq_irem, sq_ldiv, sq_lrem, sq_i2l, sq_lcmp, sq_dupI, sq_dupR, sq_pop, sq_dup2, sq_goto, sq_if_eq, sq_icmp_eq, sq_if_ne, sq_icmp_ne, sq_if_lt, sq_icmp_lt, sq_if_ge, sq_icmp_ge, sq_if_gt, sq_icmp_gt, sq_if_le, sq_icmp_le, sq_iaload, sq_iastore, sq_alen, sq_places, sq_getI, sq_getR, sq_put, sq_ret, sq_lret, sq_vret, sq_switch, sq_callS, sq_callV, sq_copy, sq_max, sq_min, mm_len_2, mm_len_3, mm_len_4, mm_len_6, mm_len_8, mm_len_10, mm_len_11, mm_len_12, mm_len_13, mm_len_14, mm_len_15, mm_len_17, mm_len_18, mm_len_19, mm_len_20, mm_len_21, mm_len_22, mm_len_23, mm_len_24, mm_len_25]
  try simp only [eq_self, true_and, and_true, Bool.false_eq_true, false_implies, true_implies, true_or, or_true, mm_numI, mm_numL, mm_numN, pp_i10, pp_i01, pp_im1, not_false_eq_true, not_true_eq_false, false_or, or_false]
  have h1 : 1 ≤ 1 <<< p := by
    rw [Nat.one_shiftLeft]
    exact Nat.one_le_two_pow
  have h2 : 1 <<< p ≤ 256 := by
    rw [Nat.one_shiftLeft]
    exact Nat.pow_le_pow_right (n := 2) (j := 8) (by decide) (by omega)
  have e : nI (1 <<< p) - (1 : Int32) = nI ((1 <<< p) - 1) := pk_sub (b := 1) h1
  rw [pp_one_shl (by omega), e, pp_and _ _ (by omega) (by omega), pp_eq0 (Nat.lt_of_le_of_lt Nat.and_le_left (by omega))]
  have key : X &&& ((1 <<< p) - 1) = 0 ↔ pp_all (fun q => !(X.testBit q)) p = true := by
    rw [pp_low, pp_all_iff]
    constructor
    · intro h0 j hj
      have := congrArg (fun z => z.testBit j) h0
      simp only [Nat.testBit_and, pp_msk_bit, Nat.zero_testBit] at this
      simpa [hj] using this
    · intro h0
      apply Nat.eq_of_testBit_eq
      intro j
      rw [Nat.testBit_and, pp_msk_bit, Nat.zero_testBit, Bool.and_true]
      by_cases hj : j < p
      · have := h0 j hj
        simpa [hj] using this
      · simp [hj]
  rw [key]
  exact ⟨fun hc => pp_b0 (by simpa using hc), fun hc => pp_b1 hc⟩
def gg_sets (n : Nat) (A : Nat → Nat) : Nat := pp_cnt (gg_least n A) n
set_option maxRecDepth 20000 in
theorem t_setCount_loop {l : Launch} {d : Nat} (hd : 1 < d) {E : mm_X} {h : mm_H} {n : Nat} {A mk : Nat → Nat} (hN : cc_N h n A mk) (hok : jj_ok n A) : ∀ (k p : Nat), p + k = n → ∀ g : Nat → Int32, mm_At l d M2_setCount E (fun r h' => r = some (.int (nI (gg_sets n A))) ∧ ∃ g, h' = mm_setA h 4 g) 4 [some (.ref 1), some (.int (nI (pp_cnt (gg_least n A) p))), some (.int (nI p))] [] (mm_setA h 4 g) := by
  have hN' := hN
  obtain ⟨n1, n8, hn, hA, hm, hA8, hm4⟩ := hN
  intro k
  induction k with
  | zero =>
    intro p hp g
    have e : p = n := by omega
    subst e
    refine mm_rn_ok [] _ (S2_setCount l d _ _) 1000 _ _ _ _ ?_
    simp only [G2_setCount_0, G2_setCount_1, G2_setCount_2, G2_setCount_3, G2_setCount_4, G2_setCount_5, G2_setCount_6, G2_setCount_9, G2_setCount_12, G2_setCount_13, G2_setCount_14, G2_setCount_15, G2_setCount_18, G2_setCount_21, G2_setCount_24, G2_setCount_27, G2_setCount_30, G2_setCount_33, G2_setCount_34, N2_setCount, ↓mm_kc_ap, ↓mm_cut, mm_en, mm_nth, mm_put, mm_sto, mm_stoL, mm_ag, mm_dr, mm_sw, Nat.reduceSub, List.replicate, Option.toList, List.cons_append, List.nil_append, sq_int, sq_lng, sq_iload, sq_lload, sq_aload, sq_istore, sq_lstore, sq_astore, sq_iinc, sq_iadd, sq_isub, sq_imul, sq_iand, sq_ior, sq_ixor, sq_ishl, sq_ishr, sq_iushr, sq_ladd, sq_lsub, sq_lmul, sq_idiv, sq_irem, sq_ldiv, sq_lrem, sq_i2l, sq_lcmp, sq_dupI, sq_dupR, sq_pop, sq_dup2, sq_goto, sq_if_eq, sq_icmp_eq, sq_if_ne, sq_icmp_ne, sq_if_lt, sq_icmp_lt, sq_if_ge, sq_icmp_ge, sq_if_gt, sq_icmp_gt, sq_if_le, sq_icmp_le, sq_iaload, sq_iastore, sq_alen, sq_places, sq_getI, sq_getR, sq_put, sq_ret, sq_lret, sq_vret, sq_switch, sq_callS, sq_callV, sq_copy, sq_max, sq_min, mm_len_2, mm_len_3, mm_len_4, mm_len_6, mm_len_8, mm_len_10, mm_len_11, mm_len_12, mm_len_13, mm_len_14, mm_len_15, mm_len_17, mm_len_18, mm_len_19, mm_len_20, mm_len_21, mm_len_22, mm_len_23, mm_len_24, mm_len_25]
    try simp only [eq_self, true_and, and_true, Bool.false_eq_true, false_implies, true_implies, true_or, or_true, mm_numI, mm_numL, mm_numN, pp_i10, pp_i01, pp_im1, not_false_eq_true, not_true_eq_false, false_or, or_false]
    rw [mm_setA_ne (by decide), hn]
    exact ⟨fun _ => ⟨rfl, g, rfl⟩, fun hc => absurd (nI_le (Nat.le_refl _) (by omega)) hc⟩
  | succ k ih =>
    intro p hp g
    refine mm_rn_ok [] _ (S2_setCount l d _ _) 1000 _ _ _ _ ?_
    simp only [G2_setCount_0, G2_setCount_1, G2_setCount_2, G2_setCount_3, G2_setCount_4, G2_setCount_5, G2_setCount_6, G2_setCount_9, G2_setCount_12, G2_setCount_13, G2_setCount_14, G2_setCount_15, G2_setCount_18, G2_setCount_21, G2_setCount_24, G2_setCount_27, G2_setCount_30, G2_setCount_33, G2_setCount_34, N2_setCount, ↓mm_kc_ap, ↓mm_cut, mm_en, mm_nth, mm_put, mm_sto, mm_stoL, mm_ag, mm_dr, mm_sw, Nat.reduceSub, List.replicate, Option.toList, List.cons_append, List.nil_append, sq_int, sq_lng, sq_iload, sq_lload, sq_aload, sq_istore, sq_lstore, sq_astore, sq_iinc, sq_iadd, sq_isub, sq_imul, sq_iand, sq_ior, sq_ixor, sq_ishl, sq_ishr, sq_iushr, sq_ladd, sq_lsub, sq_lmul, sq_idiv, sq_irem, sq_ldiv, sq_lrem, sq_i2l, sq_lcmp, sq_dupI, sq_dupR, sq_pop, sq_dup2, sq_goto, sq_if_eq, sq_icmp_eq, sq_if_ne, sq_icmp_ne, sq_if_lt, sq_icmp_lt, sq_if_ge, sq_icmp_ge, sq_if_gt, sq_icmp_gt, sq_if_le, sq_icmp_le, sq_iaload, sq_iastore, sq_alen, sq_places, sq_getI, sq_getR, sq_put, sq_ret, sq_lret, sq_vret, sq_switch, sq_callS, sq_callV, sq_copy, sq_max, sq_min, mm_len_2, mm_len_3, mm_len_4, mm_len_6, mm_len_8, mm_len_10, mm_len_11, mm_len_12, mm_len_13, mm_len_14, mm_len_15, mm_len_17, mm_len_18, mm_len_19, mm_len_20, mm_len_21, mm_len_22, mm_len_23, mm_len_24, mm_len_25]
    try simp only [eq_self, true_and, and_true, Bool.false_eq_true, false_implies, true_implies, true_or, or_true, mm_numI, mm_numL, mm_numN, pp_i10, pp_i01, pp_im1, not_false_eq_true, not_true_eq_false, false_or, or_false]
    rw [mm_setA_ne (by decide), hn]
    refine ⟨fun hc => absurd hc (nI_ge (by omega) (by omega)), fun _ => ⟨1, _, hd, t_measure (by decide) (hN'.sA (by decide) g) hok (show p < n by omega), rfl, ?_⟩⟩
    rintro _ _ ⟨rfl, g', rfl, hg⟩
    rw [mm_setA_setA]
    simp only [G2_setCount_0, G2_setCount_1, G2_setCount_2, G2_setCount_3, G2_setCount_4, G2_setCount_5, G2_setCount_6, G2_setCount_9, G2_setCount_12, G2_setCount_13, G2_setCount_14, G2_setCount_15, G2_setCount_18, G2_setCount_21, G2_setCount_24, G2_setCount_27, G2_setCount_30, G2_setCount_33, G2_setCount_34, N2_setCount, ↓mm_kc_ap, ↓mm_cut, mm_en, mm_nth, mm_put, mm_sto, mm_stoL, mm_ag, mm_dr, mm_sw, Nat.reduceSub, List.replicate, Option.toList, List.cons_append, List.nil_append, sq_int, sq_lng, sq_iload, sq_lload, sq_aload, sq_istore, sq_lstore, sq_astore, sq_iinc, sq_iadd, sq_isub, sq_imul, sq_iand, sq_ior, sq_ixor, sq_ishl, sq_ishr, sq_iushr, sq_ladd, sq_lsub, sq_lmul, sq_idiv, sq_irem, sq_ldiv, sq_lrem, sq_i2l, sq_lcmp, sq_dupI, sq_dupR, sq_pop, sq_dup2, sq_goto, sq_if_eq, sq_icmp_eq, sq_if_ne, sq_icmp_ne, sq_if_lt, sq_icmp_lt, sq_if_ge, sq_icmp_ge, sq_if_gt, sq_icmp_gt, sq_if_le, sq_icmp_le, sq_iaload, sq_iastore, sq_alen, sq_places, sq_getI, sq_getR, sq_put, sq_ret, sq_lret, sq_vret, sq_switch, sq_callS, sq_callV, sq_copy, sq_max, sq_min, mm_len_2, mm_len_3, mm_len_4, mm_len_6, mm_len_8, mm_len_10, mm_len_11, mm_len_12, mm_len_13, mm_len_14, mm_len_15, mm_len_17, mm_len_18, mm_len_19, mm_len_20, mm_len_21, mm_len_22, mm_len_23, mm_len_24, mm_len_25]
    try simp only [eq_self, true_and, and_true, Bool.false_eq_true, false_implies, true_implies, true_or, or_true, mm_numI, mm_numL, mm_numN, pp_i10, pp_i01, pp_im1, not_false_eq_true, not_true_eq_false, false_or, or_false]
    refine ⟨0, _, by omega, t_isLeast (show p < 8 by omega) (pp_msk_8 n8), rfl, rfl, ?_⟩
    rintro _ _ ⟨rfl, rfl⟩
    simp only [G2_setCount_0, G2_setCount_1, G2_setCount_2, G2_setCount_3, G2_setCount_4, G2_setCount_5, G2_setCount_6, G2_setCount_9, G2_setCount_12, G2_setCount_13, G2_setCount_14, G2_setCount_15, G2_setCount_18, G2_setCount_21, G2_setCount_24, G2_setCount_27, G2_setCount_30, G2_setCount_33, G2_setCount_34, N2_setCount, ↓mm_kc_ap, ↓mm_cut, mm_en, mm_nth, mm_put, mm_sto, mm_stoL, mm_ag, mm_dr, mm_sw, Nat.reduceSub, List.replicate, Option.toList, List.cons_append, List.nil_append, sq_int, sq_lng, sq_iload, sq_lload, sq_aload, sq_istore, sq_lstore, sq_astore, sq_iinc, sq_iadd, sq_isub, sq_imul, sq_iand, sq_ior, sq_ixor, sq_ishl, sq_ishr, sq_iushr, sq_ladd, sq_lsub, sq_lmul, sq_idiv, sq_irem, sq_ldiv, sq_lrem, sq_i2l, sq_lcmp, sq_dupI, sq_dupR, sq_pop, sq_dup2, sq_goto, sq_if_eq, sq_icmp_eq, sq_if_ne, sq_icmp_ne, sq_if_lt, sq_icmp_lt, sq_if_ge, sq_icmp_ge, sq_if_gt, sq_icmp_gt, sq_if_le, sq_icmp_le, sq_iaload, sq_iastore, sq_alen, sq_places, sq_getI, sq_getR, sq_put, sq_ret, sq_lret, sq_vret, sq_switch, sq_callS, sq_callV, sq_copy, sq_max, sq_min, mm_len_2, mm_len_3, mm_len_4, mm_len_6, mm_len_8, mm_len_10, mm_len_11, mm_len_12, mm_len_13, mm_len_14, mm_len_15, mm_len_17, mm_len_18, mm_len_19, mm_len_20, mm_len_21, mm_len_22, mm_len_23, mm_len_24, mm_len_25]
    try simp only [eq_self, true_and, and_true, Bool.false_eq_true, false_implies, true_implies, true_or, or_true, mm_numI, mm_numL, mm_numN, pp_i10, pp_i01, pp_im1, not_false_eq_true, not_true_eq_false, false_or, or_false]
    have e : pp_all (fun q => !((pp_msk (gg_r n A p (n - 1)) n).testBit q)) p = gg_least n A p := pp_all_eq (fun j hj => by
      rw [pp_msk_bit]
      simp [show j < n by omega])
    rw [e, nI_1, nI_1, pp_bne, pp_beq]
    refine ⟨fun hb => ?_, fun hb => ?_⟩
    · have ih := ih (p + 1) (by omega) g'
      rw [pp_cnt_f hb] at ih
      exact ih
    · have ih := ih (p + 1) (by omega) g'
      rw [pp_cnt_t hb] at ih
      exact ih
set_option maxRecDepth 20000 in
theorem t_setCount {l : Launch} {d : Nat} (hd : 1 < d) {h : mm_H} {n : Nat} {A mk : Nat → Nat} (hN : cc_N h n A mk) (hok : jj_ok n A) : mm_Ev l d M2_setCount [.ref 1] h (fun r h' => r = some (.int (nI (gg_sets n A))) ∧ ∃ g, h' = mm_setA h 4 g) := by
  refine mm_Ev.of (by decide +kernel) (Nat.le_of_ble_eq_true rfl) (mm_rn_ok [4] _ (S2_setCount l d _ _) 1000 _ _ _ _ ?_)
  simp only [G2_setCount_0, G2_setCount_1, G2_setCount_2, G2_setCount_3, G2_setCount_4, G2_setCount_5, G2_setCount_6, G2_setCount_9, G2_setCount_12, G2_setCount_13, G2_setCount_14, G2_setCount_15, G2_setCount_18, G2_setCount_21, G2_setCount_24, G2_setCount_27, G2_setCount_30, G2_setCount_33, G2_setCount_34, N2_setCount, ↓mm_kc_ap, ↓mm_cut, mm_en, mm_nth, mm_put, mm_sto, mm_stoL, mm_ag, mm_dr, mm_sw, Nat.reduceSub, List.replicate, Option.toList, List.cons_append, List.nil_append, sq_int, sq_lng, sq_iload, sq_lload, sq_aload, sq_istore, sq_lstore, sq_astore, sq_iinc, sq_iadd, sq_isub, sq_imul, sq_iand, sq_ior, sq_ixor, sq_ishl, sq_ishr, sq_iushr, sq_ladd, sq_lsub, sq_lmul, sq_idiv, sq_irem, sq_ldiv, sq_lrem, sq_i2l, sq_lcmp, sq_dupI, sq_dupR, sq_pop, sq_dup2, sq_goto, sq_if_eq, sq_icmp_eq, sq_if_ne, sq_icmp_ne, sq_if_lt, sq_icmp_lt, sq_if_ge, sq_icmp_ge, sq_if_gt, sq_icmp_gt, sq_if_le, sq_icmp_le, sq_iaload, sq_iastore, sq_alen, sq_places, sq_getI, sq_getR, sq_put, sq_ret, sq_lret, sq_vret, sq_switch, sq_callS, sq_callV, sq_copy, sq_max, sq_min, mm_len_2, mm_len_3, mm_len_4, mm_len_6, mm_len_8, mm_len_10, mm_len_11, mm_len_12, mm_len_13, mm_len_14, mm_len_15, mm_len_17, mm_len_18, mm_len_19, mm_len_20, mm_len_21, mm_len_22, mm_len_23, mm_len_24, mm_len_25]
  try simp only [eq_self, true_and, and_true, Bool.false_eq_true, false_implies, true_implies, true_or, or_true, mm_numI, mm_numL, mm_numN, pp_i10, pp_i01, pp_im1, not_false_eq_true, not_true_eq_false, false_or, or_false]
  have lp := t_setCount_loop (l := l) (E := fun _ _ _ => True) hd hN hok n 0 (by omega) (h 4)
  rw [mm_setA_id] at lp
  exact lp
/-! lines: each has two ends -/
def gg_ends (A : Nat → Nat) : Nat → Nat
  | 0 => 0
  | k + 1 => gg_ends A k + pp_pop (A k)
/-- pairs q < p with a line, p below k -/
def gg_lines (A : Nat → Nat) : Nat → Nat
  | 0 => 0
  | k + 1 => gg_lines A k + pp_cnt (A k).testBit k
theorem pp_pop_le (a : Nat) : pp_pop a ≤ 8 := pp_cnt_le _ _
theorem gg_ends_le (A : Nat → Nat) : ∀ k, gg_ends A k ≤ 8 * k
  | 0 => Nat.le_refl _
  | k + 1 => by
    have := gg_ends_le A k
    have := pp_pop_le (A k)
    unfold gg_ends
    omega
set_option maxRecDepth 20000 in
theorem t_lineCount_loop {l : Launch} {d : Nat} (hd : 0 < d) {E : mm_X} {h : mm_H} {n : Nat} {A mk : Nat → Nat} (hN : cc_N h n A mk) : ∀ (k p : Nat), p + k = n → mm_At l d M2_lineCount E (fun r h' => r = some (.int (nI (gg_ends A n / 2))) ∧ h' = h) 4 [some (.ref 1), some (.int (nI (gg_ends A p))), some (.int (nI p))] [] h := by
  obtain ⟨n1, n8, hn, hA, hm, hA8, hm4⟩ := hN
  intro k
  induction k with
  | zero =>
    intro p hp
    have e : p = n := by omega
    subst e
    refine mm_rn_ok [] _ (S2_lineCount l d _ _) 1000 _ _ _ _ ?_
    simp only [G2_lineCount_0, G2_lineCount_1, G2_lineCount_2, G2_lineCount_3, G2_lineCount_4, G2_lineCount_5, G2_lineCount_6, G2_lineCount_9, G2_lineCount_12, G2_lineCount_13, G2_lineCount_14, G2_lineCount_17, G2_lineCount_18, G2_lineCount_19, G2_lineCount_22, G2_lineCount_23, G2_lineCount_24, G2_lineCount_27, G2_lineCount_30, G2_lineCount_31, G2_lineCount_32, G2_lineCount_33, N2_lineCount, ↓mm_kc_ap, ↓mm_cut, mm_en, mm_nth, mm_put, mm_sto, mm_stoL, mm_ag, mm_dr, mm_sw, Nat.reduceSub, List.replicate, Option.toList, List.cons_append, List.nil_append, sq_int, sq_lng, sq_iload, sq_lload, sq_aload, sq_istore, sq_lstore, sq_astore, sq_iinc, sq_iadd, sq_isub, sq_imul, sq_iand, sq_ior, sq_ixor, sq_ishl, sq_ishr, sq_iushr, sq_ladd, sq_lsub, sq_lmul, sq_idiv, sq_irem, sq_ldiv, sq_lrem, sq_i2l, sq_lcmp, sq_dupI, sq_dupR, sq_pop, sq_dup2, sq_goto, sq_if_eq, sq_icmp_eq, sq_if_ne, sq_icmp_ne, sq_if_lt, sq_icmp_lt, sq_if_ge, sq_icmp_ge, sq_if_gt, sq_icmp_gt, sq_if_le, sq_icmp_le, sq_iaload, sq_iastore, sq_alen, sq_places, sq_getI, sq_getR, sq_put, sq_ret, sq_lret, sq_vret, sq_switch, sq_callS, sq_callV, sq_copy, sq_max, sq_min, mm_len_2, mm_len_3, mm_len_4, mm_len_6, mm_len_8, mm_len_10, mm_len_11, mm_len_12, mm_len_13, mm_len_14, mm_len_15, mm_len_17, mm_len_18, mm_len_19, mm_len_20, mm_len_21, mm_len_22, mm_len_23, mm_len_24, mm_len_25]
    try simp only [eq_self, true_and, and_true, Bool.false_eq_true, false_implies, true_implies, true_or, or_true, mm_numI, mm_numL, mm_numN, pp_i10, pp_i01, pp_im1, not_false_eq_true, not_true_eq_false, false_or, or_false]
    have := gg_ends_le A p
    have e2 : nI (gg_ends A p) / 2 = nI (gg_ends A p / 2) := pk_div (d := 2) (by omega) (by decide) (by decide)
    rw [hn, e2]
    exact ⟨fun _ => ⟨by decide, rfl⟩, fun hc => absurd (nI_le (Nat.le_refl _) (by omega)) hc⟩
  | succ k ih =>
    intro p hp
    have ih := ih (p + 1) (by omega)
    refine mm_rn_ok [] _ (S2_lineCount l d _ _) 1000 _ _ _ _ ?_
    simp only [G2_lineCount_0, G2_lineCount_1, G2_lineCount_2, G2_lineCount_3, G2_lineCount_4, G2_lineCount_5, G2_lineCount_6, G2_lineCount_9, G2_lineCount_12, G2_lineCount_13, G2_lineCount_14, G2_lineCount_17, G2_lineCount_18, G2_lineCount_19, G2_lineCount_22, G2_lineCount_23, G2_lineCount_24, G2_lineCount_27, G2_lineCount_30, G2_lineCount_31, G2_lineCount_32, G2_lineCount_33, N2_lineCount, ↓mm_kc_ap, ↓mm_cut, mm_en, mm_nth, mm_put, mm_sto, mm_stoL, mm_ag, mm_dr, mm_sw, Nat.reduceSub, List.replicate, Option.toList, List.cons_append, List.nil_append, sq_int, sq_lng, sq_iload, sq_lload, sq_aload, sq_istore, sq_lstore, sq_astore, sq_iinc, sq_iadd, sq_isub, sq_imul, sq_iand, sq_ior, sq_ixor, sq_ishl, sq_ishr, sq_iushr, sq_ladd, sq_lsub, sq_lmul, sq_idiv, sq_irem, sq_ldiv, sq_lrem, sq_i2l, sq_lcmp, sq_dupI, sq_dupR, sq_pop, sq_dup2, sq_goto, sq_if_eq, sq_icmp_eq, sq_if_ne, sq_icmp_ne, sq_if_lt, sq_icmp_lt, sq_if_ge, sq_icmp_ge, sq_if_gt, sq_icmp_gt, sq_if_le, sq_icmp_le, sq_iaload, sq_iastore, sq_alen, sq_places, sq_getI, sq_getR, sq_put, sq_ret, sq_lret, sq_vret, sq_switch, sq_callS, sq_callV, sq_copy, sq_max, sq_min, mm_len_2, mm_len_3, mm_len_4, mm_len_6, mm_len_8, mm_len_10, mm_len_11, mm_len_12, mm_len_13, mm_len_14, mm_len_15, mm_len_17, mm_len_18, mm_len_19, mm_len_20, mm_len_21, mm_len_22, mm_len_23, mm_len_24, mm_len_25]
    try simp only [eq_self, true_and, and_true, Bool.false_eq_true, false_implies, true_implies, true_or, or_true, mm_numI, mm_numL, mm_numN, pp_i10, pp_i01, pp_im1, not_false_eq_true, not_true_eq_false, false_or, or_false]
    rw [hn, nI_clamp (show p < 2 ^ 31 by omega), hA p (by omega)]
    refine ⟨fun hc => absurd hc (nI_ge (by omega) (by omega)), fun _ => ⟨vp_in_nI (by omega) (by decide), 0, _, hd, t_bitCount l 0 h (A p) (hA8 p), rfl, rfl, ?_⟩⟩
    rintro _ _ ⟨rfl, rfl⟩
    simp only [G2_lineCount_0, G2_lineCount_1, G2_lineCount_2, G2_lineCount_3, G2_lineCount_4, G2_lineCount_5, G2_lineCount_6, G2_lineCount_9, G2_lineCount_12, G2_lineCount_13, G2_lineCount_14, G2_lineCount_17, G2_lineCount_18, G2_lineCount_19, G2_lineCount_22, G2_lineCount_23, G2_lineCount_24, G2_lineCount_27, G2_lineCount_30, G2_lineCount_31, G2_lineCount_32, G2_lineCount_33, N2_lineCount, ↓mm_kc_ap, ↓mm_cut, mm_en, mm_nth, mm_put, mm_sto, mm_stoL, mm_ag, mm_dr, mm_sw, Nat.reduceSub, List.replicate, Option.toList, List.cons_append, List.nil_append, sq_int, sq_lng, sq_iload, sq_lload, sq_aload, sq_istore, sq_lstore, sq_astore, sq_iinc, sq_iadd, sq_isub, sq_imul, sq_iand, sq_ior, sq_ixor, sq_ishl, sq_ishr, sq_iushr, sq_ladd, sq_lsub, sq_lmul, sq_idiv, sq_irem, sq_ldiv, sq_lrem, sq_i2l, sq_lcmp, sq_dupI, sq_dupR, sq_pop, sq_dup2, sq_goto, sq_if_eq, sq_icmp_eq, sq_if_ne, sq_icmp_ne, sq_if_lt, sq_icmp_lt, sq_if_ge, sq_icmp_ge, sq_if_gt, sq_icmp_gt, sq_if_le, sq_icmp_le, sq_iaload, sq_iastore, sq_alen, sq_places, sq_getI, sq_getR, sq_put, sq_ret, sq_lret, sq_vret, sq_switch, sq_callS, sq_callV, sq_copy, sq_max, sq_min, mm_len_2, mm_len_3, mm_len_4, mm_len_6, mm_len_8, mm_len_10, mm_len_11, mm_len_12, mm_len_13, mm_len_14, mm_len_15, mm_len_17, mm_len_18, mm_len_19, mm_len_20, mm_len_21, mm_len_22, mm_len_23, mm_len_24, mm_len_25]
    try simp only [eq_self, true_and, and_true, Bool.false_eq_true, false_implies, true_implies, true_or, or_true, mm_numI, mm_numL, mm_numN, pp_i10, pp_i01, pp_im1, not_false_eq_true, not_true_eq_false, false_or, or_false]
    rw [nI_1, nI_add]
    exact ih
set_option maxRecDepth 20000 in
theorem t_lineCount0 {l : Launch} {d : Nat} (hd : 0 < d) {h : mm_H} {n : Nat} {A mk : Nat → Nat} (hN : cc_N h n A mk) : mm_Ev l d M2_lineCount [.ref 1] h (fun r h' => r = some (.int (nI (gg_ends A n / 2))) ∧ h' = h) := by
  refine mm_Ev.of (by decide +kernel) (Nat.le_of_ble_eq_true rfl) (mm_rn_ok [4] _ (S2_lineCount l d _ _) 1000 _ _ _ _ ?_)
  simp only [G2_lineCount_0, G2_lineCount_1, G2_lineCount_2, G2_lineCount_3, G2_lineCount_4, G2_lineCount_5, G2_lineCount_6, G2_lineCount_9, G2_lineCount_12, G2_lineCount_13, G2_lineCount_14, G2_lineCount_17, G2_lineCount_18, G2_lineCount_19, G2_lineCount_22, G2_lineCount_23, G2_lineCount_24, G2_lineCount_27, G2_lineCount_30, G2_lineCount_31, G2_lineCount_32, G2_lineCount_33, N2_lineCount, ↓mm_kc_ap, ↓mm_cut, mm_en, mm_nth, mm_put, mm_sto, mm_stoL, mm_ag, mm_dr, mm_sw, Nat.reduceSub, List.replicate, Option.toList, List.cons_append, List.nil_append, sq_int, sq_lng, sq_iload, sq_lload, sq_aload, sq_istore, sq_lstore, sq_astore, sq_iinc, sq_iadd, sq_isub, sq_imul, sq_iand, sq_ior, sq_ixor, sq_ishl, sq_ishr, sq_iushr, sq_ladd, sq_lsub, sq_lmul, sq_idiv, sq_irem, sq_ldiv, sq_lrem, sq_i2l, sq_lcmp, sq_dupI, sq_dupR, sq_pop, sq_dup2, sq_goto, sq_if_eq, sq_icmp_eq, sq_if_ne, sq_icmp_ne, sq_if_lt, sq_icmp_lt, sq_if_ge, sq_icmp_ge, sq_if_gt, sq_icmp_gt, sq_if_le, sq_icmp_le, sq_iaload, sq_iastore, sq_alen, sq_places, sq_getI, sq_getR, sq_put, sq_ret, sq_lret, sq_vret, sq_switch, sq_callS, sq_callV, sq_copy, sq_max, sq_min, mm_len_2, mm_len_3, mm_len_4, mm_len_6, mm_len_8, mm_len_10, mm_len_11, mm_len_12, mm_len_13, mm_len_14, mm_len_15, mm_len_17, mm_len_18, mm_len_19, mm_len_20, mm_len_21, mm_len_22, mm_len_23, mm_len_24, mm_len_25]
  try simp only [eq_self, true_and, and_true, Bool.false_eq_true, false_implies, true_implies, true_or, or_true, mm_numI, mm_numL, mm_numN, pp_i10, pp_i01, pp_im1, not_false_eq_true, not_true_eq_false, false_or, or_false]
  exact t_lineCount_loop hd hN n 0 (by omega)
