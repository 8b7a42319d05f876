/-! ===== the reference's mending ===== -/
set_option maxRecDepth 20000 in
theorem t_restlessOf_loop {l : Launch} {d : Nat} (hd : 1 < d) {E : mm_X} {h : mm_H} {n : Nat} {A mk ds : Nat → Nat} (hN : dd_N h n A mk) (hD : mr_D h 20 ds) : ∀ (k p : Nat), p + k = n → mm_At l d M6_restlessOf E (fun r h' => r = some (.int (nI (pp_msk (mr_rs n A ds) n))) ∧ h' = h) 4 [some (.ref 16), some (.int (nI (pp_msk (mr_rs n A ds) p))), some (.int (nI p))] [] h := by
  have n8 := hN.2.1
  have hn := hN.2.2.1
  intro k
  induction k with
  | zero =>
    intro p hp
    have e : p = n := by omega
    subst e
    refine mm_rn_ok [] _ (S6_restlessOf l d _ _) 1000 _ _ _ _ ?_
    simp only [G6_restlessOf_0, G6_restlessOf_1, G6_restlessOf_2, G6_restlessOf_3, G6_restlessOf_4, G6_restlessOf_5, G6_restlessOf_6, G6_restlessOf_9, G6_restlessOf_12, G6_restlessOf_13, G6_restlessOf_14, G6_restlessOf_15, G6_restlessOf_18, G6_restlessOf_19, G6_restlessOf_22, G6_restlessOf_23, G6_restlessOf_24, G6_restlessOf_27, G6_restlessOf_28, G6_restlessOf_31, G6_restlessOf_32, G6_restlessOf_33, G6_restlessOf_34, G6_restlessOf_35, G6_restlessOf_36, G6_restlessOf_39, G6_restlessOf_42, G6_restlessOf_43, N6_restlessOf, ↓mm_kc_ap, ↓mm_cut, mm_en, mm_nth, mm_put, mm_sto, mm_stoL, mm_ag, mm_dr, mm_sw, Nat.reduceSub, List.replicate, Option.toList, List.cons_append, List.nil_append, sq_int, sq_lng, sq_iload, sq_lload, sq_aload, sq_istore, sq_lstore, sq_astore, sq_iinc, sq_iadd, sq_isub, sq_imul, sq_iand, sq_ior, sq_ixor, sq_ishl, sq_ishr, sq_iushr, sq_ladd, sq_lsub, sq_lmul, sq_idiv, sq_irem, sq_ldiv, sq_lrem, sq_i2l, sq_lcmp, sq_dupI, sq_dupR, sq_pop, sq_dup2, sq_goto, sq_if_eq, sq_icmp_eq, sq_if_ne, sq_icmp_ne, sq_if_lt, sq_icmp_lt, sq_if_ge, sq_icmp_ge, sq_if_gt, sq_icmp_gt, sq_if_le, sq_icmp_le, sq_iaload, sq_iastore, sq_alen, sq_places, sq_getI, sq_getR, sq_put, sq_ret, sq_lret, sq_vret, sq_switch, sq_callS, sq_callV, sq_copy, sq_max, sq_min, mm_len_2, mm_len_3, mm_len_4, mm_len_6, mm_len_8, mm_len_10, mm_len_11, mm_len_12, mm_len_13, mm_len_14, mm_len_15, mm_len_17, mm_len_18, mm_len_19, mm_len_20, mm_len_21, mm_len_22, mm_len_23, mm_len_24, mm_len_25]
    try simp only [eq_self, true_and, and_true, Bool.false_eq_true, false_implies, true_implies, true_or, or_true, mm_numI, mm_numL, mm_numN, pp_i10, pp_i01, pp_im1, not_false_eq_true, not_true_eq_false, false_or, or_false]
    rw [hn]
    exact ⟨fun _ => trivial, fun hc => absurd (nI_le (Nat.le_refl _) (by omega)) hc⟩
  | succ k ih =>
    intro p hp
    have ih := ih (p + 1) (by omega)
    refine mm_rn_ok [] _ (S6_restlessOf l d _ _) 1000 _ _ _ _ ?_
    simp only [G6_restlessOf_0, G6_restlessOf_1, G6_restlessOf_2, G6_restlessOf_3, G6_restlessOf_4, G6_restlessOf_5, G6_restlessOf_6, G6_restlessOf_9, G6_restlessOf_12, G6_restlessOf_13, G6_restlessOf_14, G6_restlessOf_15, G6_restlessOf_18, G6_restlessOf_19, G6_restlessOf_22, G6_restlessOf_23, G6_restlessOf_24, G6_restlessOf_27, G6_restlessOf_28, G6_restlessOf_31, G6_restlessOf_32, G6_restlessOf_33, G6_restlessOf_34, G6_restlessOf_35, G6_restlessOf_36, G6_restlessOf_39, G6_restlessOf_42, G6_restlessOf_43, N6_restlessOf, ↓mm_kc_ap, ↓mm_cut, mm_en, mm_nth, mm_put, mm_sto, mm_stoL, mm_ag, mm_dr, mm_sw, Nat.reduceSub, List.replicate, Option.toList, List.cons_append, List.nil_append, sq_int, sq_lng, sq_iload, sq_lload, sq_aload, sq_istore, sq_lstore, sq_astore, sq_iinc, sq_iadd, sq_isub, sq_imul, sq_iand, sq_ior, sq_ixor, sq_ishl, sq_ishr, sq_iushr, sq_ladd, sq_lsub, sq_lmul, sq_idiv, sq_irem, sq_ldiv, sq_lrem, sq_i2l, sq_lcmp, sq_dupI, sq_dupR, sq_pop, sq_dup2, sq_goto, sq_if_eq, sq_icmp_eq, sq_if_ne, sq_icmp_ne, sq_if_lt, sq_icmp_lt, sq_if_ge, sq_icmp_ge, sq_if_gt, sq_icmp_gt, sq_if_le, sq_icmp_le, sq_iaload, sq_iastore, sq_alen, sq_places, sq_getI, sq_getR, sq_put, sq_ret, sq_lret, sq_vret, sq_switch, sq_callS, sq_callV, sq_copy, sq_max, sq_min, mm_len_2, mm_len_3, mm_len_4, mm_len_6, mm_len_8, mm_len_10, mm_len_11, mm_len_12, mm_len_13, mm_len_14, mm_len_15, mm_len_17, mm_len_18, mm_len_19, mm_len_20, mm_len_21, mm_len_22, mm_len_23, mm_len_24, mm_len_25]
    try simp only [eq_self, true_and, and_true, Bool.false_eq_true, false_implies, true_implies, true_or, or_true, mm_numI, mm_numL, mm_numN, pp_i10, pp_i01, pp_im1, not_false_eq_true, not_true_eq_false, false_or, or_false]
    rw [hn]
    refine ⟨fun hc => absurd hc (nI_ge (by omega) (by omega)), fun _ => ⟨1, _, hd, t_ruleOf (by decide) hN hD.1 hD.2 (show p < 8 by omega), rfl, ?_⟩⟩
    rintro _ _ ⟨rfl, rfl⟩
    simp only [G6_restlessOf_0, G6_restlessOf_1, G6_restlessOf_2, G6_restlessOf_3, G6_restlessOf_4, G6_restlessOf_5, G6_restlessOf_6, G6_restlessOf_9, G6_restlessOf_12, G6_restlessOf_13, G6_restlessOf_14, G6_restlessOf_15, G6_restlessOf_18, G6_restlessOf_19, G6_restlessOf_22, G6_restlessOf_23, G6_restlessOf_24, G6_restlessOf_27, G6_restlessOf_28, G6_restlessOf_31, G6_restlessOf_32, G6_restlessOf_33, G6_restlessOf_34, G6_restlessOf_35, G6_restlessOf_36, G6_restlessOf_39, G6_restlessOf_42, G6_restlessOf_43, N6_restlessOf, ↓mm_kc_ap, ↓mm_cut, mm_en, mm_nth, mm_put, mm_sto, mm_stoL, mm_ag, mm_dr, mm_sw, Nat.reduceSub, List.replicate, Option.toList, List.cons_append, List.nil_append, sq_int, sq_lng, sq_iload, sq_lload, sq_aload, sq_istore, sq_lstore, sq_astore, sq_iinc, sq_iadd, sq_isub, sq_imul, sq_iand, sq_ior, sq_ixor, sq_ishl, sq_ishr, sq_iushr, sq_ladd, sq_lsub, sq_lmul, sq_idiv, sq_irem, sq_ldiv, sq_lrem, sq_i2l, sq_lcmp, sq_dupI, sq_dupR, sq_pop, sq_dup2, sq_goto, sq_if_eq, sq_icmp_eq, sq_if_ne, sq_icmp_ne, sq_if_lt, sq_icmp_lt, sq_if_ge, sq_icmp_ge, sq_if_gt, sq_icmp_gt, sq_if_le, sq_icmp_le, sq_iaload, sq_iastore, sq_alen, sq_places, sq_getI, sq_getR, sq_put, sq_ret, sq_lret, sq_vret, sq_switch, sq_callS, sq_callV, sq_copy, sq_max, sq_min, mm_len_2, mm_len_3, mm_len_4, mm_len_6, mm_len_8, mm_len_10, mm_len_11, mm_len_12, mm_len_13, mm_len_14, mm_len_15, mm_len_17, mm_len_18, mm_len_19, mm_len_20, mm_len_21, mm_len_22, mm_len_23, mm_len_24, mm_len_25]
    try simp only [eq_self, true_and, and_true, Bool.false_eq_true, false_implies, true_implies, true_or, or_true, mm_numI, mm_numL, mm_numN, pp_i10, pp_i01, pp_im1, not_false_eq_true, not_true_eq_false, false_or, or_false]
    have h1 := mr_rule_le n A ds p
    have h2 := hD.2 p
    rw [nI_clamp (show p < 2 ^ 31 by omega), hD.1 p (by omega), pp_eqN (by omega) (by omega), nI_1]
    refine ⟨vp_in_nI (by omega) (by decide), fun hc => ?_, fun hc => ?_⟩
    · rw [pp_msk_step (by omega) (show mr_rs n A ds p = true from decide_eq_true hc)]
      exact ih
    · rw [pp_msk_skip (show ¬ mr_rs n A ds p = true from fun z => absurd hc (of_decide_eq_true z))] at ih
      rw [show nI (pp_msk (mr_rs n A ds) p) ||| 0 = nI (pp_msk (mr_rs n A ds) p) from Int32.or_zero]
      exact ih
set_option maxRecDepth 20000 in
theorem t_restlessOf {l : Launch} {d : Nat} (hd : 1 < d) {h : mm_H} {n : Nat} {A mk ds : Nat → Nat} (hN : dd_N h n A mk) (hD : mr_D h 20 ds) : mm_Ev l d M6_restlessOf [.ref 16] h (fun r h' => r = some (.int (nI (pp_msk (mr_rs n A ds) n))) ∧ h' = h) := by
  refine mm_Ev.of (by decide +kernel) (Nat.le_of_ble_eq_true rfl) (mm_rn_ok [4] _ (S6_restlessOf l d _ _) 1000 _ _ _ _ ?_)
  simp only [G6_restlessOf_0, G6_restlessOf_1, G6_restlessOf_2, G6_restlessOf_3, G6_restlessOf_4, G6_restlessOf_5, G6_restlessOf_6, G6_restlessOf_9, G6_restlessOf_12, G6_restlessOf_13, G6_restlessOf_14, G6_restlessOf_15, G6_restlessOf_18, G6_restlessOf_19, G6_restlessOf_22, G6_restlessOf_23, G6_restlessOf_24, G6_restlessOf_27, G6_restlessOf_28, G6_restlessOf_31, G6_restlessOf_32, G6_restlessOf_33, G6_restlessOf_34, G6_restlessOf_35, G6_restlessOf_36, G6_restlessOf_39, G6_restlessOf_42, G6_restlessOf_43, N6_restlessOf, ↓mm_kc_ap, ↓mm_cut, mm_en, mm_nth, mm_put, mm_sto, mm_stoL, mm_ag, mm_dr, mm_sw, Nat.reduceSub, List.replicate, Option.toList, List.cons_append, List.nil_append, sq_int, sq_lng, sq_iload, sq_lload, sq_aload, sq_istore, sq_lstore, sq_astore, sq_iinc, sq_iadd, sq_isub, sq_imul, sq_iand, sq_ior, sq_ixor, sq_ishl, sq_ishr, sq_iushr, sq_ladd, sq_lsub, sq_lmul, sq_idiv, sq_irem, sq_ldiv, sq_lrem, sq_i2l, sq_lcmp, sq_dupI, sq_dupR, sq_pop, sq_dup2, sq_goto, sq_if_eq, sq_icmp_eq, sq_if_ne, sq_icmp_ne, sq_if_lt, sq_icmp_lt, sq_if_ge, sq_icmp_ge, sq_if_gt, sq_icmp_gt, sq_if_le, sq_icmp_le, sq_iaload, sq_iastore, sq_alen, sq_places, sq_getI, sq_getR, sq_put, sq_ret, sq_lret, sq_vret, sq_switch, sq_callS, sq_callV, sq_copy, sq_max, sq_min, mm_len_2, mm_len_3, mm_len_4, mm_len_6, mm_len_8, mm_len_10, mm_len_11, mm_len_12, mm_len_13, mm_len_14, mm_len_15, mm_len_17, mm_len_18, mm_len_19, mm_len_20, mm_len_21, mm_len_22, mm_len_23, mm_len_24, mm_len_25]
  try simp only [eq_self, true_and, and_true, Bool.false_eq_true, false_implies, true_implies, true_or, or_true, mm_numI, mm_numL, mm_numN, pp_i10, pp_i01, pp_im1, not_false_eq_true, not_true_eq_false, false_or, or_false]
  exact t_restlessOf_loop hd hN hD n 0 (by omega)
theorem pp_msk_0 {P : Nat → Bool} {n : Nat} : pp_msk P n = 0 ↔ ¬ pp_any P n = true := by
  constructor
  · intro h hc
    obtain ⟨j, hj, hb⟩ := pp_any_iff.mp hc
    have := congrArg (fun z => z.testBit j) h
    simp only [pp_msk_bit, Nat.zero_testBit] at this
    rw [hb, decide_eq_true hj] at this
    cases this
  · intro h
    apply Nat.eq_of_testBit_eq
    intro j
    rw [pp_msk_bit, Nat.zero_testBit]
    apply Bool.eq_false_iff.mpr
    intro hc
    rw [Bool.and_eq_true, decide_eq_true_eq] at hc
    exact h (pp_any_iff.mpr ⟨j, hc.1, hc.2⟩)
set_option maxRecDepth 20000 in
theorem t_mend_in {l : Launch} {d : Nat} {E : mm_X} {post : mm_Po} {h : mm_H} {n : Nat} {P : Nat → Bool} (n8 : n ≤ 8) {x1 : Int32} {t : Nat} (ht : t < n) (hP : P t = true) (hlo : ∀ j, j < t → P j = false) (hx : mm_At l d M6_mend E post 34 [some (.ref 16), some (.int x1), some (.int (nI (pp_msk P n))), some (.int (nI t))] [] h) : ∀ (k p : Nat), p + k = t → mm_At l d M6_mend E post 20 [some (.ref 16), some (.int x1), some (.int (nI (pp_msk P n))), some (.int (nI p))] [] h := by
  have h8 := pp_msk_8 (P := P) n8
  intro k
  induction k with
  | zero =>
    intro p hp
    have e : p = t := by omega
    subst e
    refine mm_rn_ok [34] _ (S6_mend l d _ _) 1000 _ _ _ _ ?_
    simp only [G6_mend_0, G6_mend_1, G6_mend_2, G6_mend_3, G6_mend_6, G6_mend_7, G6_mend_8, G6_mend_11, G6_mend_12, G6_mend_15, G6_mend_18, G6_mend_19, G6_mend_20, G6_mend_21, G6_mend_22, G6_mend_23, G6_mend_24, G6_mend_25, G6_mend_28, G6_mend_31, G6_mend_34, G6_mend_35, G6_mend_38, G6_mend_39, G6_mend_40, G6_mend_41, G6_mend_44, G6_mend_45, G6_mend_48, G6_mend_49, G6_mend_52, G6_mend_53, G6_mend_56, G6_mend_57, G6_mend_60, G6_mend_61, G6_mend_64, G6_mend_65, N6_mend, ↓mm_kc_ap, ↓mm_cut, mm_en, mm_nth, mm_put, mm_sto, mm_stoL, mm_ag, mm_dr, mm_sw, Nat.reduceSub, List.replicate, Option.toList, List.cons_append, List.nil_append, sq_int, sq_lng, sq_iload, sq_lload, sq_aload, sq_istore, sq_lstore, sq_astore, sq_iinc, sq_iadd, sq_isub, sq_imul, sq_iand, sq_ior, sq_ixor, sq_ishl, sq_ishr, sq_iushr, sq_ladd, sq_lsub, sq_lmul, sq_idiv, sq_irem, sq_ldiv, sq_lrem, sq_i2l, sq_lcmp, sq_dupI, sq_dupR, sq_pop, sq_dup2, sq_goto, sq_if_eq, sq_icmp_eq, sq_if_ne, sq_icmp_ne, sq_if_lt, sq_icmp_lt, sq_if_ge, sq_icmp_ge, sq_if_gt, sq_icmp_gt, sq_if_le, sq_icmp_le, sq_iaload, sq_iastore, sq_alen, sq_places, sq_getI, sq_getR, sq_put, sq_ret, sq_lret, sq_vret, sq_switch, sq_callS, sq_callV, sq_copy, sq_max, sq_min, mm_len_2, mm_len_3, mm_len_4, mm_len_6, mm_len_8, mm_len_10, mm_len_11, mm_len_12, mm_len_13, mm_len_14, mm_len_15, mm_len_17, mm_len_18, mm_len_19, mm_len_20, mm_len_21, mm_len_22, mm_len_23, mm_len_24, mm_len_25]
    try simp only [eq_self, true_and, and_true, Bool.false_eq_true, false_implies, true_implies, true_or, or_true, mm_numI, mm_numL, mm_numN, pp_i10, pp_i01, pp_im1, not_false_eq_true, not_true_eq_false, false_or, or_false]
    rw [pp_bit (by omega) (by omega), pp_msk_bit, hP, decide_eq_true ht]
    exact ⟨fun _ => hx, fun hc => absurd hc (by decide)⟩
  | succ k ih =>
    intro p hp
    have ih := ih (p + 1) (by omega)
    refine mm_rn_ok [34] _ (S6_mend l d _ _) 1000 _ _ _ _ ?_
    simp only [G6_mend_0, G6_mend_1, G6_mend_2, G6_mend_3, G6_mend_6, G6_mend_7, G6_mend_8, G6_mend_11, G6_mend_12, G6_mend_15, G6_mend_18, G6_mend_19, G6_mend_20, G6_mend_21, G6_mend_22, G6_mend_23, G6_mend_24, G6_mend_25, G6_mend_28, G6_mend_31, G6_mend_34, G6_mend_35, G6_mend_38, G6_mend_39, G6_mend_40, G6_mend_41, G6_mend_44, G6_mend_45, G6_mend_48, G6_mend_49, G6_mend_52, G6_mend_53, G6_mend_56, G6_mend_57, G6_mend_60, G6_mend_61, G6_mend_64, G6_mend_65, N6_mend, ↓mm_kc_ap, ↓mm_cut, mm_en, mm_nth, mm_put, mm_sto, mm_stoL, mm_ag, mm_dr, mm_sw, Nat.reduceSub, List.replicate, Option.toList, List.cons_append, List.nil_append, sq_int, sq_lng, sq_iload, sq_lload, sq_aload, sq_istore, sq_lstore, sq_astore, sq_iinc, sq_iadd, sq_isub, sq_imul, sq_iand, sq_ior, sq_ixor, sq_ishl, sq_ishr, sq_iushr, sq_ladd, sq_lsub, sq_lmul, sq_idiv, sq_irem, sq_ldiv, sq_lrem, sq_i2l, sq_lcmp, sq_dupI, sq_dupR, sq_pop, sq_dup2, sq_goto, sq_if_eq, sq_icmp_eq, sq_if_ne, sq_icmp_ne, sq_if_lt, sq_icmp_lt, sq_if_ge, sq_icmp_ge, sq_if_gt, sq_icmp_gt, sq_if_le, sq_icmp_le, sq_iaload, sq_iastore, sq_alen, sq_places, sq_getI, sq_getR, sq_put, sq_ret, sq_lret, sq_vret, sq_switch, sq_callS, sq_callV, sq_copy, sq_max, sq_min, mm_len_2, mm_len_3, mm_len_4, mm_len_6, mm_len_8, mm_len_10, mm_len_11, mm_len_12, mm_len_13, mm_len_14, mm_len_15, mm_len_17, mm_len_18, mm_len_19, mm_len_20, mm_len_21, mm_len_22, mm_len_23, mm_len_24, mm_len_25]
    try simp only [eq_self, true_and, and_true, Bool.false_eq_true, false_implies, true_implies, true_or, or_true, mm_numI, mm_numL, mm_numN, pp_i10, pp_i01, pp_im1, not_false_eq_true, not_true_eq_false, false_or, or_false]
    rw [pp_bit (by omega) (by omega), pp_msk_bit, hlo p (by omega), Bool.and_false, nI_1]
    exact ⟨fun hc => absurd rfl hc, fun _ => ih⟩
theorem dd_N.s20 {h : mm_H} {n : Nat} {A mk : Nat → Nat} (hN : dd_N h n A mk) (k : Nat) (v : Int32) : dd_N (mm_set h 20 k v) n A mk := hN.cg (mm_set_ne (by decide)) (mm_set_ne (by decide)) (mm_set_ne (by decide))
set_option maxRecDepth 20000 in
theorem t_mend_loop {l : Launch} {d : Nat} (hd : 2 < d) {E : mm_X} {n : Nat} {A mk : Nat → Nat} (h0 : mm_H) (D0 : Nat → Nat) : ∀ (k done : Nat), done + k = 1000 → ∀ (ds : Nat → Nat) (h : mm_H) (x3 : Option Value), dd_N h n A mk → mr_D h 20 ds → mr_go n A 1000 0 D0 = mr_go n A k done ds → (∀ x, x ≠ 20 → h x = h0 x) → mm_At l d M6_mend E (mr_mp n A 1000 0 D0 20 h0) 7 [some (.ref 16), some (.int (nI done)), some (.int (nI (pp_msk (mr_rs n A ds) n))), x3] [] h := by
  intro k
  induction k with
  | zero =>
    intro done hk ds h x3 hN hD hgo hfr
    have n8 := hN.2.1
    have h8 := pp_msk_8 (P := mr_rs n A ds) n8
    have e : done = 1000 := by omega
    subst e
    have hgo2 : mr_go n A 0 1000 ds = (if pp_any (mr_rs n A ds) n = true then -1 else nI 1000, ds) := rfl
    refine mm_rn_ok [] _ (S6_mend l d _ _) 1000 _ _ _ _ ?_
    simp only [G6_mend_0, G6_mend_1, G6_mend_2, G6_mend_3, G6_mend_6, G6_mend_7, G6_mend_8, G6_mend_11, G6_mend_12, G6_mend_15, G6_mend_18, G6_mend_19, G6_mend_20, G6_mend_21, G6_mend_22, G6_mend_23, G6_mend_24, G6_mend_25, G6_mend_28, G6_mend_31, G6_mend_34, G6_mend_35, G6_mend_38, G6_mend_39, G6_mend_40, G6_mend_41, G6_mend_44, G6_mend_45, G6_mend_48, G6_mend_49, G6_mend_52, G6_mend_53, G6_mend_56, G6_mend_57, G6_mend_60, G6_mend_61, G6_mend_64, G6_mend_65, N6_mend, ↓mm_kc_ap, ↓mm_cut, mm_en, mm_nth, mm_put, mm_sto, mm_stoL, mm_ag, mm_dr, mm_sw, Nat.reduceSub, List.replicate, Option.toList, List.cons_append, List.nil_append, sq_int, sq_lng, sq_iload, sq_lload, sq_aload, sq_istore, sq_lstore, sq_astore, sq_iinc, sq_iadd, sq_isub, sq_imul, sq_iand, sq_ior, sq_ixor, sq_ishl, sq_ishr, sq_iushr, sq_ladd, sq_lsub, sq_lmul, sq_idiv, sq_irem, sq_ldiv, sq_lrem, sq_i2l, sq_lcmp, sq_dupI, sq_dupR, sq_pop, sq_dup2, sq_goto, sq_if_eq, sq_icmp_eq, sq_if_ne, sq_icmp_ne, sq_if_lt, sq_icmp_lt, sq_if_ge, sq_icmp_ge, sq_if_gt, sq_icmp_gt, sq_if_le, sq_icmp_le, sq_iaload, sq_iastore, sq_alen, sq_places, sq_getI, sq_getR, sq_put, sq_ret, sq_lret, sq_vret, sq_switch, sq_callS, sq_callV, sq_copy, sq_max, sq_min, mm_len_2, mm_len_3, mm_len_4, mm_len_6, mm_len_8, mm_len_10, mm_len_11, mm_len_12, mm_len_13, mm_len_14, mm_len_15, mm_len_17, mm_len_18, mm_len_19, mm_len_20, mm_len_21, mm_len_22, mm_len_23, mm_len_24, mm_len_25]
    try simp only [eq_self, true_and, and_true, Bool.false_eq_true, false_implies, true_implies, true_or, or_true, mm_numI, mm_numL, mm_numN, pp_i10, pp_i01, pp_im1, not_false_eq_true, not_true_eq_false, false_or, or_false]
    rw [pp_eq0 (by omega), pp_msk_0]
    refine ⟨fun hc => ⟨fun z => absurd hc z, fun _ => ⟨?_, ?_, hfr⟩⟩, fun hc => ⟨fun _ => ⟨fun _ => ⟨?_, ?_, hfr⟩, fun z => absurd z hc⟩, fun z => absurd (nI_le (a := 1000) (b := 1000) (Nat.le_refl _) (by decide)) z⟩⟩
    · rw [hgo, hgo2, if_neg hc]
    · rw [hgo, hgo2]
      exact hD
    · rw [hgo, hgo2, if_pos (Classical.not_not.mp hc)]
    · rw [hgo, hgo2]
      exact hD
  | succ k ih =>
    intro done hk ds h x3 hN hD hgo hfr
    have n8 := hN.2.1
    have n1 := hN.1
    have h8 := pp_msk_8 (P := mr_rs n A ds) n8
    have hgo2 : mr_go n A (k + 1) done ds = if pp_any (mr_rs n A ds) n = true then mr_go n A k (done + 1) (mr_st n A ds (pp_fst (mr_rs n A ds) (n - 1))) else (nI done, ds) := rfl
    refine mm_rn_ok [20] _ (S6_mend l d _ _) 1000 _ _ _ _ ?_
    simp only [G6_mend_0, G6_mend_1, G6_mend_2, G6_mend_3, G6_mend_6, G6_mend_7, G6_mend_8, G6_mend_11, G6_mend_12, G6_mend_15, G6_mend_18, G6_mend_19, G6_mend_20, G6_mend_21, G6_mend_22, G6_mend_23, G6_mend_24, G6_mend_25, G6_mend_28, G6_mend_31, G6_mend_34, G6_mend_35, G6_mend_38, G6_mend_39, G6_mend_40, G6_mend_41, G6_mend_44, G6_mend_45, G6_mend_48, G6_mend_49, G6_mend_52, G6_mend_53, G6_mend_56, G6_mend_57, G6_mend_60, G6_mend_61, G6_mend_64, G6_mend_65, N6_mend, ↓mm_kc_ap, ↓mm_cut, mm_en, mm_nth, mm_put, mm_sto, mm_stoL, mm_ag, mm_dr, mm_sw, Nat.reduceSub, List.replicate, Option.toList, List.cons_append, List.nil_append, sq_int, sq_lng, sq_iload, sq_lload, sq_aload, sq_istore, sq_lstore, sq_astore, sq_iinc, sq_iadd, sq_isub, sq_imul, sq_iand, sq_ior, sq_ixor, sq_ishl, sq_ishr, sq_iushr, sq_ladd, sq_lsub, sq_lmul, sq_idiv, sq_irem, sq_ldiv, sq_lrem, sq_i2l, sq_lcmp, sq_dupI, sq_dupR, sq_pop, sq_dup2, sq_goto, sq_if_eq, sq_icmp_eq, sq_if_ne, sq_icmp_ne, sq_if_lt, sq_icmp_lt, sq_if_ge, sq_icmp_ge, sq_if_gt, sq_icmp_gt, sq_if_le, sq_icmp_le, sq_iaload, sq_iastore, sq_alen, sq_places, sq_getI, sq_getR, sq_put, sq_ret, sq_lret, sq_vret, sq_switch, sq_callS, sq_callV, sq_copy, sq_max, sq_min, mm_len_2, mm_len_3, mm_len_4, mm_len_6, mm_len_8, mm_len_10, mm_len_11, mm_len_12, mm_len_13, mm_len_14, mm_len_15, mm_len_17, mm_len_18, mm_len_19, mm_len_20, mm_len_21, mm_len_22, mm_len_23, mm_len_24, mm_len_25]
    try simp only [eq_self, true_and, and_true, Bool.false_eq_true, false_implies, true_implies, true_or, or_true, mm_numI, mm_numL, mm_numN, pp_i10, pp_i01, pp_im1, not_false_eq_true, not_true_eq_false, false_or, or_false]
    have hlt : ¬ (1000 : Int32) ≤ nI done := nI_ge (b := 1000) (show done < 1000 by omega) (by decide)
    rw [pp_eq0 (by omega), pp_msk_0]
    refine ⟨fun hc => ⟨fun z => absurd hc z, fun _ => ⟨?_, ?_, hfr⟩⟩, fun hc => ⟨fun z => absurd z hlt, fun _ => ?_⟩⟩
    · rw [hgo, hgo2, if_neg hc]
    · rw [hgo, hgo2, if_neg hc]
      exact hD
    · have hc := Classical.not_not.mp hc
      obtain ⟨j, hj, hb⟩ := pp_any_iff.mp hc
      obtain ⟨f1, f2, f3⟩ := pp_fst_ok (P := mr_rs n A ds) (k := n - 1) ⟨j, by omega, hb⟩
      refine t_mend_in n8 (show pp_fst (mr_rs n A ds) (n - 1) < n by omega) f2 f3 ?_ _ 0 (Nat.zero_add _)
      refine mm_rn_ok [] _ (S6_mend l d _ _) 1000 _ _ _ _ ?_
      simp only [G6_mend_0, G6_mend_1, G6_mend_2, G6_mend_3, G6_mend_6, G6_mend_7, G6_mend_8, G6_mend_11, G6_mend_12, G6_mend_15, G6_mend_18, G6_mend_19, G6_mend_20, G6_mend_21, G6_mend_22, G6_mend_23, G6_mend_24, G6_mend_25, G6_mend_28, G6_mend_31, G6_mend_34, G6_mend_35, G6_mend_38, G6_mend_39, G6_mend_40, G6_mend_41, G6_mend_44, G6_mend_45, G6_mend_48, G6_mend_49, G6_mend_52, G6_mend_53, G6_mend_56, G6_mend_57, G6_mend_60, G6_mend_61, G6_mend_64, G6_mend_65, N6_mend, ↓mm_kc_ap, ↓mm_cut, mm_en, mm_nth, mm_put, mm_sto, mm_stoL, mm_ag, mm_dr, mm_sw, Nat.reduceSub, List.replicate, Option.toList, List.cons_append, List.nil_append, sq_int, sq_lng, sq_iload, sq_lload, sq_aload, sq_istore, sq_lstore, sq_astore, sq_iinc, sq_iadd, sq_isub, sq_imul, sq_iand, sq_ior, sq_ixor, sq_ishl, sq_ishr, sq_iushr, sq_ladd, sq_lsub, sq_lmul, sq_idiv, sq_irem, sq_ldiv, sq_lrem, sq_i2l, sq_lcmp, sq_dupI, sq_dupR, sq_pop, sq_dup2, sq_goto, sq_if_eq, sq_icmp_eq, sq_if_ne, sq_icmp_ne, sq_if_lt, sq_icmp_lt, sq_if_ge, sq_icmp_ge, sq_if_gt, sq_icmp_gt, sq_if_le, sq_icmp_le, sq_iaload, sq_iastore, sq_alen, sq_places, sq_getI, sq_getR, sq_put, sq_ret, sq_lret, sq_vret, sq_switch, sq_callS, sq_callV, sq_copy, sq_max, sq_min, mm_len_2, mm_len_3, mm_len_4, mm_len_6, mm_len_8, mm_len_10, mm_len_11, mm_len_12, mm_len_13, mm_len_14, mm_len_15, mm_len_17, mm_len_18, mm_len_19, mm_len_20, mm_len_21, mm_len_22, mm_len_23, mm_len_24, mm_len_25]
      try simp only [eq_self, true_and, and_true, Bool.false_eq_true, false_implies, true_implies, true_or, or_true, mm_numI, mm_numL, mm_numN, pp_i10, pp_i01, pp_im1, not_false_eq_true, not_true_eq_false, false_or, or_false]
      refine ⟨1, _, by omega, t_ruleOf (by decide) hN hD.1 hD.2 (show pp_fst (mr_rs n A ds) (n - 1) < 8 by omega), rfl, ?_⟩
      rintro _ _ ⟨rfl, rfl⟩
      simp only [G6_mend_0, G6_mend_1, G6_mend_2, G6_mend_3, G6_mend_6, G6_mend_7, G6_mend_8, G6_mend_11, G6_mend_12, G6_mend_15, G6_mend_18, G6_mend_19, G6_mend_20, G6_mend_21, G6_mend_22, G6_mend_23, G6_mend_24, G6_mend_25, G6_mend_28, G6_mend_31, G6_mend_34, G6_mend_35, G6_mend_38, G6_mend_39, G6_mend_40, G6_mend_41, G6_mend_44, G6_mend_45, G6_mend_48, G6_mend_49, G6_mend_52, G6_mend_53, G6_mend_56, G6_mend_57, G6_mend_60, G6_mend_61, G6_mend_64, G6_mend_65, N6_mend, ↓mm_kc_ap, ↓mm_cut, mm_en, mm_nth, mm_put, mm_sto, mm_stoL, mm_ag, mm_dr, mm_sw, Nat.reduceSub, List.replicate, Option.toList, List.cons_append, List.nil_append, sq_int, sq_lng, sq_iload, sq_lload, sq_aload, sq_istore, sq_lstore, sq_astore, sq_iinc, sq_iadd, sq_isub, sq_imul, sq_iand, sq_ior, sq_ixor, sq_ishl, sq_ishr, sq_iushr, sq_ladd, sq_lsub, sq_lmul, sq_idiv, sq_irem, sq_ldiv, sq_lrem, sq_i2l, sq_lcmp, sq_dupI, sq_dupR, sq_pop, sq_dup2, sq_goto, sq_if_eq, sq_icmp_eq, sq_if_ne, sq_icmp_ne, sq_if_lt, sq_icmp_lt, sq_if_ge, sq_icmp_ge, sq_if_gt, sq_icmp_gt, sq_if_le, sq_icmp_le, sq_iaload, sq_iastore, sq_alen, sq_places, sq_getI, sq_getR, sq_put, sq_ret, sq_lret, sq_vret, sq_switch, sq_callS, sq_callV, sq_copy, sq_max, sq_min, mm_len_2, mm_len_3, mm_len_4, mm_len_6, mm_len_8, mm_len_10, mm_len_11, mm_len_12, mm_len_13, mm_len_14, mm_len_15, mm_len_17, mm_len_18, mm_len_19, mm_len_20, mm_len_21, mm_len_22, mm_len_23, mm_len_24, mm_len_25]
      try simp only [eq_self, true_and, and_true, Bool.false_eq_true, false_implies, true_implies, true_or, or_true, mm_numI, mm_numL, mm_numN, pp_i10, pp_i01, pp_im1, not_false_eq_true, not_true_eq_false, false_or, or_false]
      rw [nI_clamp (show pp_fst (mr_rs n A ds) (n - 1) < 2 ^ 31 by omega)]
      refine ⟨by decide, vp_in_nI (by omega) (by decide), 2, _, hd, t_restlessOf (by decide) (hN.s20 _ _) (mr_D_st hD), rfl, ?_⟩
      rintro _ _ ⟨rfl, rfl⟩
      simp only [G6_mend_0, G6_mend_1, G6_mend_2, G6_mend_3, G6_mend_6, G6_mend_7, G6_mend_8, G6_mend_11, G6_mend_12, G6_mend_15, G6_mend_18, G6_mend_19, G6_mend_20, G6_mend_21, G6_mend_22, G6_mend_23, G6_mend_24, G6_mend_25, G6_mend_28, G6_mend_31, G6_mend_34, G6_mend_35, G6_mend_38, G6_mend_39, G6_mend_40, G6_mend_41, G6_mend_44, G6_mend_45, G6_mend_48, G6_mend_49, G6_mend_52, G6_mend_53, G6_mend_56, G6_mend_57, G6_mend_60, G6_mend_61, G6_mend_64, G6_mend_65, N6_mend, ↓mm_kc_ap, ↓mm_cut, mm_en, mm_nth, mm_put, mm_sto, mm_stoL, mm_ag, mm_dr, mm_sw, Nat.reduceSub, List.replicate, Option.toList, List.cons_append, List.nil_append, sq_int, sq_lng, sq_iload, sq_lload, sq_aload, sq_istore, sq_lstore, sq_astore, sq_iinc, sq_iadd, sq_isub, sq_imul, sq_iand, sq_ior, sq_ixor, sq_ishl, sq_ishr, sq_iushr, sq_ladd, sq_lsub, sq_lmul, sq_idiv, sq_irem, sq_ldiv, sq_lrem, sq_i2l, sq_lcmp, sq_dupI, sq_dupR, sq_pop, sq_dup2, sq_goto, sq_if_eq, sq_icmp_eq, sq_if_ne, sq_icmp_ne, sq_if_lt, sq_icmp_lt, sq_if_ge, sq_icmp_ge, sq_if_gt, sq_icmp_gt, sq_if_le, sq_icmp_le, sq_iaload, sq_iastore, sq_alen, sq_places, sq_getI, sq_getR, sq_put, sq_ret, sq_lret, sq_vret, sq_switch, sq_callS, sq_callV, sq_copy, sq_max, sq_min, mm_len_2, mm_len_3, mm_len_4, mm_len_6, mm_len_8, mm_len_10, mm_len_11, mm_len_12, mm_len_13, mm_len_14, mm_len_15, mm_len_17, mm_len_18, mm_len_19, mm_len_20, mm_len_21, mm_len_22, mm_len_23, mm_len_24, mm_len_25]
      try simp only [eq_self, true_and, and_true, Bool.false_eq_true, false_implies, true_implies, true_or, or_true, mm_numI, mm_numL, mm_numN, pp_i10, pp_i01, pp_im1, not_false_eq_true, not_true_eq_false, false_or, or_false]
      rw [nI_1]
      refine ih (done + 1) (by omega) _ _ _ (hN.s20 _ _) (mr_D_st hD) ?_ (fun x hx => ?_)
      · rw [hgo, hgo2, if_pos hc]
      · rw [mm_set_ne hx]
        exact hfr x hx
set_option maxRecDepth 20000 in
theorem t_mmend {l : Launch} {d : Nat} (hd : 2 < d) {h : mm_H} {n : Nat} {A mk ds : Nat → Nat} (hN : dd_N h n A mk) (hD : mr_D h 20 ds) : mm_Ev l d M6_mend [.ref 16] h (mr_mp n A 1000 0 ds 20 h) := by
  refine mm_Ev.of (by decide +kernel) (Nat.le_of_ble_eq_true rfl) (mm_rn_ok [7] _ (S6_mend l d _ _) 1000 _ _ _ _ ?_)
  simp only [G6_mend_0, G6_mend_1, G6_mend_2, G6_mend_3, G6_mend_6, G6_mend_7, G6_mend_8, G6_mend_11, G6_mend_12, G6_mend_15, G6_mend_18, G6_mend_19, G6_mend_20, G6_mend_21, G6_mend_22, G6_mend_23, G6_mend_24, G6_mend_25, G6_mend_28, G6_mend_31, G6_mend_34, G6_mend_35, G6_mend_38, G6_mend_39, G6_mend_40, G6_mend_41, G6_mend_44, G6_mend_45, G6_mend_48, G6_mend_49, G6_mend_52, G6_mend_53, G6_mend_56, G6_mend_57, G6_mend_60, G6_mend_61, G6_mend_64, G6_mend_65, N6_mend, ↓mm_kc_ap, ↓mm_cut, mm_en, mm_nth, mm_put, mm_sto, mm_stoL, mm_ag, mm_dr, mm_sw, Nat.reduceSub, List.replicate, Option.toList, List.cons_append, List.nil_append, sq_int, sq_lng, sq_iload, sq_lload, sq_aload, sq_istore, sq_lstore, sq_astore, sq_iinc, sq_iadd, sq_isub, sq_imul, sq_iand, sq_ior, sq_ixor, sq_ishl, sq_ishr, sq_iushr, sq_ladd, sq_lsub, sq_lmul, sq_idiv, sq_irem, sq_ldiv, sq_lrem, sq_i2l, sq_lcmp, sq_dupI, sq_dupR, sq_pop, sq_dup2, sq_goto, sq_if_eq, sq_icmp_eq, sq_if_ne, sq_icmp_ne, sq_if_lt, sq_icmp_lt, sq_if_ge, sq_icmp_ge, sq_if_gt, sq_icmp_gt, sq_if_le, sq_icmp_le, sq_iaload, sq_iastore, sq_alen, sq_places, sq_getI, sq_getR, sq_put, sq_ret, sq_lret, sq_vret, sq_switch, sq_callS, sq_callV, sq_copy, sq_max, sq_min, mm_len_2, mm_len_3, mm_len_4, mm_len_6, mm_len_8, mm_len_10, mm_len_11, mm_len_12, mm_len_13, mm_len_14, mm_len_15, mm_len_17, mm_len_18, mm_len_19, mm_len_20, mm_len_21, mm_len_22, mm_len_23, mm_len_24, mm_len_25]
  try simp only [eq_self, true_and, and_true, Bool.false_eq_true, false_implies, true_implies, true_or, or_true, mm_numI, mm_numL, mm_numN, pp_i10, pp_i01, pp_im1, not_false_eq_true, not_true_eq_false, false_or, or_false]
  refine ⟨2, _, hd, t_restlessOf (by decide) hN hD, rfl, ?_⟩
  rintro _ _ ⟨rfl, rfl⟩
  simp only [G6_mend_0, G6_mend_1, G6_mend_2, G6_mend_3, G6_mend_6, G6_mend_7, G6_mend_8, G6_mend_11, G6_mend_12, G6_mend_15, G6_mend_18, G6_mend_19, G6_mend_20, G6_mend_21, G6_mend_22, G6_mend_23, G6_mend_24, G6_mend_25, G6_mend_28, G6_mend_31, G6_mend_34, G6_mend_35, G6_mend_38, G6_mend_39, G6_mend_40, G6_mend_41, G6_mend_44, G6_mend_45, G6_mend_48, G6_mend_49, G6_mend_52, G6_mend_53, G6_mend_56, G6_mend_57, G6_mend_60, G6_mend_61, G6_mend_64, G6_mend_65, N6_mend, ↓mm_kc_ap, ↓mm_cut, mm_en, mm_nth, mm_put, mm_sto, mm_stoL, mm_ag, mm_dr, mm_sw, Nat.reduceSub, List.replicate, Option.toList, List.cons_append, List.nil_append, sq_int, sq_lng, sq_iload, sq_lload, sq_aload, sq_istore, sq_lstore, sq_astore, sq_iinc, sq_iadd, sq_isub, sq_imul, sq_iand, sq_ior, sq_ixor, sq_ishl, sq_ishr, sq_iushr, sq_ladd, sq_lsub, sq_lmul, sq_idiv, sq_irem, sq_ldiv, sq_lrem, sq_i2l, sq_lcmp, sq_dupI, sq_dupR, sq_pop, sq_dup2, sq_goto, sq_if_eq, sq_icmp_eq, sq_if_ne, sq_icmp_ne, sq_if_lt, sq_icmp_lt, sq_if_ge, sq_icmp_ge, sq_if_gt, sq_icmp_gt, sq_if_le, sq_icmp_le, sq_iaload, sq_iastore, sq_alen, sq_places, sq_getI, sq_getR, sq_put, sq_ret, sq_lret, sq_vret, sq_switch, sq_callS, sq_callV, sq_copy, sq_max, sq_min, mm_len_2, mm_len_3, mm_len_4, mm_len_6, mm_len_8, mm_len_10, mm_len_11, mm_len_12, mm_len_13, mm_len_14, mm_len_15, mm_len_17, mm_len_18, mm_len_19, mm_len_20, mm_len_21, mm_len_22, mm_len_23, mm_len_24, mm_len_25]
  try simp only [eq_self, true_and, and_true, Bool.false_eq_true, false_implies, true_implies, true_or, or_true, mm_numI, mm_numL, mm_numN, pp_i10, pp_i01, pp_im1, not_false_eq_true, not_true_eq_false, false_or, or_false]
  rename_i h'
  exact t_mend_loop hd h' ds 1000 0 (by omega) ds h' none hN hD rfl (fun _ _ => rfl)
