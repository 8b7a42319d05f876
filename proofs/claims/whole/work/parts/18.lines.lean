/-! ===== lines counted twice; the reference's nets ===== -/
def gg_T (A : Nat → Nat) (m : Nat) : Nat → Nat
  | 0 => 0
  | k + 1 => gg_T A m k + pp_cnt (A k).testBit m
theorem gg_T_s (A : Nat → Nat) (m : Nat) : ∀ k, gg_T A (m + 1) k = gg_T A m k + pp_cnt (fun p => (A p).testBit m) k
  | 0 => rfl
  | k + 1 => by
    show gg_T A (m + 1) k + (pp_cnt (A k).testBit m + (if (A k).testBit m = true then 1 else 0)) = gg_T A m k + pp_cnt (A k).testBit m + (pp_cnt (fun p => (A p).testBit m) k + (if (A k).testBit m = true then 1 else 0))
    rw [gg_T_s A m k]
    omega
theorem gg_T_lines {A : Nat → Nat} (hS : gg_sym A) (hI : ∀ p, (A p).testBit p = false) : ∀ m, gg_T A m m = 2 * gg_lines A m
  | 0 => rfl
  | m + 1 => by
    have ih := gg_T_lines hS hI m
    show gg_T A (m + 1) m + (pp_cnt (A m).testBit m + (if (A m).testBit m = true then 1 else 0)) = 2 * (gg_lines A m + pp_cnt (A m).testBit m)
    rw [gg_T_s, ih, if_neg (by rw [hI]; exact Bool.false_ne_true), pp_cnt_eq (Q := (A m).testBit) (fun j _ => hS j m)]
    omega
theorem gg_ends_T {n : Nat} {A : Nat → Nat} (n8 : n ≤ 8) (hA : jj_ok n A) : ∀ k, gg_ends A k = gg_T A n k
  | 0 => rfl
  | k + 1 => by
    show gg_ends A k + pp_pop (A k) = gg_T A n k + pp_cnt (A k).testBit n
    rw [gg_ends_T n8 hA k, jj_pop n8 hA]
theorem gg_ends_lines {n : Nat} {A : Nat → Nat} (n8 : n ≤ 8) (hA : jj_ok n A) (hS : gg_sym A) (hI : ∀ p, (A p).testBit p = false) : gg_ends A n / 2 = gg_lines A n := by
  rw [gg_ends_T n8 hA n, gg_T_lines hS hI n]
  omega
theorem gg_lines_le (A : Nat → Nat) : ∀ k, gg_lines A k ≤ k * k
  | 0 => Nat.le_refl _
  | k + 1 => by
    have := gg_lines_le A k
    have := pp_cnt_le (A k).testBit k
    unfold gg_lines
    have e : (k + 1) * (k + 1) = k * k + k + k + 1 := by rw [Nat.add_mul, Nat.mul_add, Nat.mul_one, Nat.one_mul]; omega
    omega
theorem dd_N.cg {h h' : mm_H} {n : Nat} {A mk : Nat → Nat} (hN : dd_N h n A mk) (h1 : h' 16 = h 16) (h2 : h' 17 = h 17) (h3 : h' 18 = h 18) : dd_N h' n A mk := by
  obtain ⟨n1, n8, hn, hA, hm, hA8, hm4⟩ := hN
  exact ⟨n1, n8, by rw [h1]; exact hn, by rw [h2]; exact hA, by rw [h3]; exact hm, hA8, hm4⟩
theorem dd_N.sA {h : mm_H} {n : Nat} {A mk : Nat → Nat} (hN : dd_N h n A mk) {c : Nat} (hc : 18 < c) (g : Nat → Int32) : dd_N (mm_setA h c g) n A mk := hN.cg (mm_setA_ne (by omega)) (mm_setA_ne (by omega)) (mm_setA_ne (by omega))
def dd_lp (n : Nat) (A : Nat → Nat) (h : mm_H) : mm_Po := fun r h' => r = some (.int (nI (gg_lines A n))) ∧ h' = h
set_option maxRecDepth 20000 in
theorem t_linesOf_in {l : Launch} {d : Nat} (hd : 0 < d) {E : mm_X} {post : mm_Po} {h : mm_H} {n : Nat} {A mk : Nat → Nat} (hN : dd_N h n A mk) {p m : Nat} (hp : p < n) (hm : m < 2 ^ 20) (hx : mm_At l d M6_linesOf E post 42 [some (.ref 16), some (.int (nI (m + pp_cnt (A p).testBit p))), some (.int (nI p)), some (.int (nI p))] [] h) : ∀ (k q : Nat), q + k = p → mm_At l d M6_linesOf E post 14 [some (.ref 16), some (.int (nI (m + pp_cnt (A p).testBit q))), some (.int (nI p)), some (.int (nI q))] [] h := by
  have n8 := hN.2.1
  intro k
  induction k with
  | zero =>
    intro q hq
    have e : q = p := by omega
    subst e
    refine mm_rn_ok [42] _ (S6_linesOf l d _ _) 1000 _ _ _ _ ?_
    simp only [G6_linesOf_0, G6_linesOf_1, G6_linesOf_2, G6_linesOf_3, G6_linesOf_4, G6_linesOf_5, G6_linesOf_6, G6_linesOf_9, G6_linesOf_12, G6_linesOf_13, G6_linesOf_14, G6_linesOf_15, G6_linesOf_16, G6_linesOf_19, G6_linesOf_20, G6_linesOf_21, G6_linesOf_22, G6_linesOf_23, G6_linesOf_26, G6_linesOf_29, G6_linesOf_30, G6_linesOf_33, G6_linesOf_34, G6_linesOf_35, G6_linesOf_36, G6_linesOf_39, G6_linesOf_42, G6_linesOf_45, G6_linesOf_48, G6_linesOf_49, N6_linesOf, ↓mm_kc_ap, ↓mm_cut, mm_en, mm_nth, mm_put, mm_sto, mm_stoL, mm_ag, mm_dr, mm_sw, Nat.reduceSub, List.replicate, Option.toList, List.cons_append, List.nil_append, sq_int, sq_lng, sq_iload, sq_lload, sq_aload, sq_istore, sq_lstore, sq_astore, sq_iinc, sq_iadd, sq_isub, sq_imul, sq_iand, sq_ior, sq_ixor, sq_ishl, sq_ishr, sq_iushr, sq_ladd, sq_lsub, sq_lmul, sq_idiv, sq_irem, sq_ldiv, sq_lrem, sq_i2l, sq_lcmp, sq_dupI, sq_dupR, sq_pop, sq_dup2, sq_goto, sq_if_eq, sq_icmp_eq, sq_if_ne, sq_icmp_ne, sq_if_lt, sq_icmp_lt, sq_if_ge, sq_icmp_ge, sq_if_gt, sq_icmp_gt, sq_if_le, sq_icmp_le, sq_iaload, sq_iastore, sq_alen, sq_places, sq_getI, sq_getR, sq_put, sq_ret, sq_lret, sq_vret, sq_switch, sq_callS, sq_callV, sq_copy, sq_max, sq_min, mm_len_2, mm_len_3, mm_len_4, mm_len_6, mm_len_8, mm_len_10, mm_len_11, mm_len_12, mm_len_13, mm_len_14, mm_len_15, mm_len_17, mm_len_18, mm_len_19, mm_len_20, mm_len_21, mm_len_22, mm_len_23, mm_len_24, mm_len_25]
    try simp only [eq_self, true_and, and_true, Bool.false_eq_true, false_implies, true_implies, true_or, or_true, mm_numI, mm_numL, mm_numN, pp_i10, pp_i01, pp_im1, not_false_eq_true, not_true_eq_false, false_or, or_false]
    exact ⟨fun _ => hx, fun hc => absurd (nI_le (Nat.le_refl _) (by omega)) hc⟩
  | succ k ih =>
    intro q hq
    have ih := ih (q + 1) (by omega)
    refine mm_rn_ok [42] _ (S6_linesOf l d _ _) 1000 _ _ _ _ ?_
    simp only [G6_linesOf_0, G6_linesOf_1, G6_linesOf_2, G6_linesOf_3, G6_linesOf_4, G6_linesOf_5, G6_linesOf_6, G6_linesOf_9, G6_linesOf_12, G6_linesOf_13, G6_linesOf_14, G6_linesOf_15, G6_linesOf_16, G6_linesOf_19, G6_linesOf_20, G6_linesOf_21, G6_linesOf_22, G6_linesOf_23, G6_linesOf_26, G6_linesOf_29, G6_linesOf_30, G6_linesOf_33, G6_linesOf_34, G6_linesOf_35, G6_linesOf_36, G6_linesOf_39, G6_linesOf_42, G6_linesOf_45, G6_linesOf_48, G6_linesOf_49, N6_linesOf, ↓mm_kc_ap, ↓mm_cut, mm_en, mm_nth, mm_put, mm_sto, mm_stoL, mm_ag, mm_dr, mm_sw, Nat.reduceSub, List.replicate, Option.toList, List.cons_append, List.nil_append, sq_int, sq_lng, sq_iload, sq_lload, sq_aload, sq_istore, sq_lstore, sq_astore, sq_iinc, sq_iadd, sq_isub, sq_imul, sq_iand, sq_ior, sq_ixor, sq_ishl, sq_ishr, sq_iushr, sq_ladd, sq_lsub, sq_lmul, sq_idiv, sq_irem, sq_ldiv, sq_lrem, sq_i2l, sq_lcmp, sq_dupI, sq_dupR, sq_pop, sq_dup2, sq_goto, sq_if_eq, sq_icmp_eq, sq_if_ne, sq_icmp_ne, sq_if_lt, sq_icmp_lt, sq_if_ge, sq_icmp_ge, sq_if_gt, sq_icmp_gt, sq_if_le, sq_icmp_le, sq_iaload, sq_iastore, sq_alen, sq_places, sq_getI, sq_getR, sq_put, sq_ret, sq_lret, sq_vret, sq_switch, sq_callS, sq_callV, sq_copy, sq_max, sq_min, mm_len_2, mm_len_3, mm_len_4, mm_len_6, mm_len_8, mm_len_10, mm_len_11, mm_len_12, mm_len_13, mm_len_14, mm_len_15, mm_len_17, mm_len_18, mm_len_19, mm_len_20, mm_len_21, mm_len_22, mm_len_23, mm_len_24, mm_len_25]
    try simp only [eq_self, true_and, and_true, Bool.false_eq_true, false_implies, true_implies, true_or, or_true, mm_numI, mm_numL, mm_numN, pp_i10, pp_i01, pp_im1, not_false_eq_true, not_true_eq_false, false_or, or_false]
    refine ⟨fun hc => absurd hc (nI_ge (by omega) (by omega)), fun _ => ⟨0, _, hd, t_areNear hN (by omega) (by omega), rfl, ?_⟩⟩
    rintro _ _ ⟨rfl, rfl⟩
    simp only [G6_linesOf_0, G6_linesOf_1, G6_linesOf_2, G6_linesOf_3, G6_linesOf_4, G6_linesOf_5, G6_linesOf_6, G6_linesOf_9, G6_linesOf_12, G6_linesOf_13, G6_linesOf_14, G6_linesOf_15, G6_linesOf_16, G6_linesOf_19, G6_linesOf_20, G6_linesOf_21, G6_linesOf_22, G6_linesOf_23, G6_linesOf_26, G6_linesOf_29, G6_linesOf_30, G6_linesOf_33, G6_linesOf_34, G6_linesOf_35, G6_linesOf_36, G6_linesOf_39, G6_linesOf_42, G6_linesOf_45, G6_linesOf_48, G6_linesOf_49, N6_linesOf, ↓mm_kc_ap, ↓mm_cut, mm_en, mm_nth, mm_put, mm_sto, mm_stoL, mm_ag, mm_dr, mm_sw, Nat.reduceSub, List.replicate, Option.toList, List.cons_append, List.nil_append, sq_int, sq_lng, sq_iload, sq_lload, sq_aload, sq_istore, sq_lstore, sq_astore, sq_iinc, sq_iadd, sq_isub, sq_imul, sq_iand, sq_ior, sq_ixor, sq_ishl, sq_ishr, sq_iushr, sq_ladd, sq_lsub, sq_lmul, sq_idiv, sq_irem, sq_ldiv, sq_lrem, sq_i2l, sq_lcmp, sq_dupI, sq_dupR, sq_pop, sq_dup2, sq_goto, sq_if_eq, sq_icmp_eq, sq_if_ne, sq_icmp_ne, sq_if_lt, sq_icmp_lt, sq_if_ge, sq_icmp_ge, sq_if_gt, sq_icmp_gt, sq_if_le, sq_icmp_le, sq_iaload, sq_iastore, sq_alen, sq_places, sq_getI, sq_getR, sq_put, sq_ret, sq_lret, sq_vret, sq_switch, sq_callS, sq_callV, sq_copy, sq_max, sq_min, mm_len_2, mm_len_3, mm_len_4, mm_len_6, mm_len_8, mm_len_10, mm_len_11, mm_len_12, mm_len_13, mm_len_14, mm_len_15, mm_len_17, mm_len_18, mm_len_19, mm_len_20, mm_len_21, mm_len_22, mm_len_23, mm_len_24, mm_len_25]
    try simp only [eq_self, true_and, and_true, Bool.false_eq_true, false_implies, true_implies, true_or, or_true, mm_numI, mm_numL, mm_numN, pp_i10, pp_i01, pp_im1, not_false_eq_true, not_true_eq_false, false_or, or_false]
    rw [pp_bne, pp_beq, nI_1, nI_1]
    refine ⟨fun hb => ?_, fun hb => ?_⟩
    · rw [pp_cnt_f hb] at ih
      rw [show nI (m + pp_cnt (A p).testBit q) + 0 = nI (m + pp_cnt (A p).testBit q) from Int32.add_zero _]
      exact ih
    · rw [pp_cnt_t hb] at ih
      exact ih
set_option maxRecDepth 20000 in
theorem t_linesOf_loop {l : Launch} {d : Nat} (hd : 0 < d) {E : mm_X} {h : mm_H} {n : Nat} {A mk : Nat → Nat} (hN : dd_N h n A mk) : ∀ (k p : Nat), p + k = n → ∀ x3 : Option Value, mm_At l d M6_linesOf E (dd_lp n A h) 4 [some (.ref 16), some (.int (nI (gg_lines A p))), some (.int (nI p)), x3] [] h := by
  have n8 := hN.2.1
  have hn := hN.2.2.1
  intro k
  induction k with
  | zero =>
    intro p hp x3
    have e : p = n := by omega
    subst e
    refine mm_rn_ok [] _ (S6_linesOf l d _ _) 1000 _ _ _ _ ?_
    simp only [G6_linesOf_0, G6_linesOf_1, G6_linesOf_2, G6_linesOf_3, G6_linesOf_4, G6_linesOf_5, G6_linesOf_6, G6_linesOf_9, G6_linesOf_12, G6_linesOf_13, G6_linesOf_14, G6_linesOf_15, G6_linesOf_16, G6_linesOf_19, G6_linesOf_20, G6_linesOf_21, G6_linesOf_22, G6_linesOf_23, G6_linesOf_26, G6_linesOf_29, G6_linesOf_30, G6_linesOf_33, G6_linesOf_34, G6_linesOf_35, G6_linesOf_36, G6_linesOf_39, G6_linesOf_42, G6_linesOf_45, G6_linesOf_48, G6_linesOf_49, N6_linesOf, ↓mm_kc_ap, ↓mm_cut, mm_en, mm_nth, mm_put, mm_sto, mm_stoL, mm_ag, mm_dr, mm_sw, Nat.reduceSub, List.replicate, Option.toList, List.cons_append, List.nil_append, sq_int, sq_lng, sq_iload, sq_lload, sq_aload, sq_istore, sq_lstore, sq_astore, sq_iinc, sq_iadd, sq_isub, sq_imul, sq_iand, sq_ior, sq_ixor, sq_ishl, sq_ishr, sq_iushr, sq_ladd, sq_lsub, sq_lmul, sq_idiv, sq_irem, sq_ldiv, sq_lrem, sq_i2l, sq_lcmp, sq_dupI, sq_dupR, sq_pop, sq_dup2, sq_goto, sq_if_eq, sq_icmp_eq, sq_if_ne, sq_icmp_ne, sq_if_lt, sq_icmp_lt, sq_if_ge, sq_icmp_ge, sq_if_gt, sq_icmp_gt, sq_if_le, sq_icmp_le, sq_iaload, sq_iastore, sq_alen, sq_places, sq_getI, sq_getR, sq_put, sq_ret, sq_lret, sq_vret, sq_switch, sq_callS, sq_callV, sq_copy, sq_max, sq_min, mm_len_2, mm_len_3, mm_len_4, mm_len_6, mm_len_8, mm_len_10, mm_len_11, mm_len_12, mm_len_13, mm_len_14, mm_len_15, mm_len_17, mm_len_18, mm_len_19, mm_len_20, mm_len_21, mm_len_22, mm_len_23, mm_len_24, mm_len_25]
    try simp only [eq_self, true_and, and_true, Bool.false_eq_true, false_implies, true_implies, true_or, or_true, mm_numI, mm_numL, mm_numN, pp_i10, pp_i01, pp_im1, not_false_eq_true, not_true_eq_false, false_or, or_false]
    rw [hn]
    exact ⟨fun _ => ⟨rfl, rfl⟩, fun hc => absurd (nI_le (Nat.le_refl _) (by omega)) hc⟩
  | succ k ih =>
    intro p hp x3
    refine mm_rn_ok [14] _ (S6_linesOf l d _ _) 1000 _ _ _ _ ?_
    simp only [G6_linesOf_0, G6_linesOf_1, G6_linesOf_2, G6_linesOf_3, G6_linesOf_4, G6_linesOf_5, G6_linesOf_6, G6_linesOf_9, G6_linesOf_12, G6_linesOf_13, G6_linesOf_14, G6_linesOf_15, G6_linesOf_16, G6_linesOf_19, G6_linesOf_20, G6_linesOf_21, G6_linesOf_22, G6_linesOf_23, G6_linesOf_26, G6_linesOf_29, G6_linesOf_30, G6_linesOf_33, G6_linesOf_34, G6_linesOf_35, G6_linesOf_36, G6_linesOf_39, G6_linesOf_42, G6_linesOf_45, G6_linesOf_48, G6_linesOf_49, N6_linesOf, ↓mm_kc_ap, ↓mm_cut, mm_en, mm_nth, mm_put, mm_sto, mm_stoL, mm_ag, mm_dr, mm_sw, Nat.reduceSub, List.replicate, Option.toList, List.cons_append, List.nil_append, sq_int, sq_lng, sq_iload, sq_lload, sq_aload, sq_istore, sq_lstore, sq_astore, sq_iinc, sq_iadd, sq_isub, sq_imul, sq_iand, sq_ior, sq_ixor, sq_ishl, sq_ishr, sq_iushr, sq_ladd, sq_lsub, sq_lmul, sq_idiv, sq_irem, sq_ldiv, sq_lrem, sq_i2l, sq_lcmp, sq_dupI, sq_dupR, sq_pop, sq_dup2, sq_goto, sq_if_eq, sq_icmp_eq, sq_if_ne, sq_icmp_ne, sq_if_lt, sq_icmp_lt, sq_if_ge, sq_icmp_ge, sq_if_gt, sq_icmp_gt, sq_if_le, sq_icmp_le, sq_iaload, sq_iastore, sq_alen, sq_places, sq_getI, sq_getR, sq_put, sq_ret, sq_lret, sq_vret, sq_switch, sq_callS, sq_callV, sq_copy, sq_max, sq_min, mm_len_2, mm_len_3, mm_len_4, mm_len_6, mm_len_8, mm_len_10, mm_len_11, mm_len_12, mm_len_13, mm_len_14, mm_len_15, mm_len_17, mm_len_18, mm_len_19, mm_len_20, mm_len_21, mm_len_22, mm_len_23, mm_len_24, mm_len_25]
    try simp only [eq_self, true_and, and_true, Bool.false_eq_true, false_implies, true_implies, true_or, or_true, mm_numI, mm_numL, mm_numN, pp_i10, pp_i01, pp_im1, not_false_eq_true, not_true_eq_false, false_or, or_false]
    rw [hn]
    refine ⟨fun hc => absurd hc (nI_ge (by omega) (by omega)), fun _ => ?_⟩
    have hl := gg_lines_le A p
    have hm : gg_lines A p < 2 ^ 20 := by
      have : p * p ≤ 8 * 8 := Nat.mul_le_mul (by omega) (by omega)
      omega
    refine t_linesOf_in hd hN (show p < n by omega) hm ?_ p 0 (by omega)
    refine mm_rn_ok [] _ (S6_linesOf l d _ _) 1000 _ _ _ _ ?_
    simp only [G6_linesOf_0, G6_linesOf_1, G6_linesOf_2, G6_linesOf_3, G6_linesOf_4, G6_linesOf_5, G6_linesOf_6, G6_linesOf_9, G6_linesOf_12, G6_linesOf_13, G6_linesOf_14, G6_linesOf_15, G6_linesOf_16, G6_linesOf_19, G6_linesOf_20, G6_linesOf_21, G6_linesOf_22, G6_linesOf_23, G6_linesOf_26, G6_linesOf_29, G6_linesOf_30, G6_linesOf_33, G6_linesOf_34, G6_linesOf_35, G6_linesOf_36, G6_linesOf_39, G6_linesOf_42, G6_linesOf_45, G6_linesOf_48, G6_linesOf_49, N6_linesOf, ↓mm_kc_ap, ↓mm_cut, mm_en, mm_nth, mm_put, mm_sto, mm_stoL, mm_ag, mm_dr, mm_sw, Nat.reduceSub, List.replicate, Option.toList, List.cons_append, List.nil_append, sq_int, sq_lng, sq_iload, sq_lload, sq_aload, sq_istore, sq_lstore, sq_astore, sq_iinc, sq_iadd, sq_isub, sq_imul, sq_iand, sq_ior, sq_ixor, sq_ishl, sq_ishr, sq_iushr, sq_ladd, sq_lsub, sq_lmul, sq_idiv, sq_irem, sq_ldiv, sq_lrem, sq_i2l, sq_lcmp, sq_dupI, sq_dupR, sq_pop, sq_dup2, sq_goto, sq_if_eq, sq_icmp_eq, sq_if_ne, sq_icmp_ne, sq_if_lt, sq_icmp_lt, sq_if_ge, sq_icmp_ge, sq_if_gt, sq_icmp_gt, sq_if_le, sq_icmp_le, sq_iaload, sq_iastore, sq_alen, sq_places, sq_getI, sq_getR, sq_put, sq_ret, sq_lret, sq_vret, sq_switch, sq_callS, sq_callV, sq_copy, sq_max, sq_min, mm_len_2, mm_len_3, mm_len_4, mm_len_6, mm_len_8, mm_len_10, mm_len_11, mm_len_12, mm_len_13, mm_len_14, mm_len_15, mm_len_17, mm_len_18, mm_len_19, mm_len_20, mm_len_21, mm_len_22, mm_len_23, mm_len_24, mm_len_25]
    try simp only [eq_self, true_and, and_true, Bool.false_eq_true, false_implies, true_implies, true_or, or_true, mm_numI, mm_numL, mm_numN, pp_i10, pp_i01, pp_im1, not_false_eq_true, not_true_eq_false, false_or, or_false]
    rw [nI_1]
    exact ih (p + 1) (by omega) _
set_option maxRecDepth 20000 in
theorem t_linesOf {l : Launch} {d : Nat} (hd : 0 < d) {h : mm_H} {n : Nat} {A mk : Nat → Nat} (hN : dd_N h n A mk) : mm_Ev l d M6_linesOf [.ref 16] h (dd_lp n A h) := by
  refine mm_Ev.of (by decide +kernel) (Nat.le_of_ble_eq_true rfl) (mm_rn_ok [4] _ (S6_linesOf l d _ _) 1000 _ _ _ _ ?_)
  simp only [G6_linesOf_0, G6_linesOf_1, G6_linesOf_2, G6_linesOf_3, G6_linesOf_4, G6_linesOf_5, G6_linesOf_6, G6_linesOf_9, G6_linesOf_12, G6_linesOf_13, G6_linesOf_14, G6_linesOf_15, G6_linesOf_16, G6_linesOf_19, G6_linesOf_20, G6_linesOf_21, G6_linesOf_22, G6_linesOf_23, G6_linesOf_26, G6_linesOf_29, G6_linesOf_30, G6_linesOf_33, G6_linesOf_34, G6_linesOf_35, G6_linesOf_36, G6_linesOf_39, G6_linesOf_42, G6_linesOf_45, G6_linesOf_48, G6_linesOf_49, N6_linesOf, ↓mm_kc_ap, ↓mm_cut, mm_en, mm_nth, mm_put, mm_sto, mm_stoL, mm_ag, mm_dr, mm_sw, Nat.reduceSub, List.replicate, Option.toList, List.cons_append, List.nil_append, sq_int, sq_lng, sq_iload, sq_lload, sq_aload, sq_istore, sq_lstore, sq_astore, sq_iinc, sq_iadd, sq_isub, sq_imul, sq_iand, sq_ior, sq_ixor, sq_ishl, sq_ishr, sq_iushr, sq_ladd, sq_lsub, sq_lmul, sq_idiv, sq_irem, sq_ldiv, sq_lrem, sq_i2l, sq_lcmp, sq_dupI, sq_dupR, sq_pop, sq_dup2, sq_goto, sq_if_eq, sq_icmp_eq, sq_if_ne, sq_icmp_ne, sq_if_lt, sq_icmp_lt, sq_if_ge, sq_icmp_ge, sq_if_gt, sq_icmp_gt, sq_if_le, sq_icmp_le, sq_iaload, sq_iastore, sq_alen, sq_places, sq_getI, sq_getR, sq_put, sq_ret, sq_lret, sq_vret, sq_switch, sq_callS, sq_callV, sq_copy, sq_max, sq_min, mm_len_2, mm_len_3, mm_len_4, mm_len_6, mm_len_8, mm_len_10, mm_len_11, mm_len_12, mm_len_13, mm_len_14, mm_len_15, mm_len_17, mm_len_18, mm_len_19, mm_len_20, mm_len_21, mm_len_22, mm_len_23, mm_len_24, mm_len_25]
  try simp only [eq_self, true_and, and_true, Bool.false_eq_true, false_implies, true_implies, true_or, or_true, mm_numI, mm_numL, mm_numN, pp_i10, pp_i01, pp_im1, not_false_eq_true, not_true_eq_false, false_or, or_false]
  exact t_linesOf_loop hd hN n 0 (by omega) none
