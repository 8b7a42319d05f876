/-! ===== line ===== -/
def aa_bit (x b : Nat) (is : Bool) : Nat := pp_msk (fun j => if j = b then is else x.testBit j) 8
theorem aa_bit_lt (x b : Nat) (is : Bool) : aa_bit x b is < 256 := pp_msk_lt _ 8
theorem pp_tb8 {x j : Nat} (hx : x < 256) (hj : 8 ≤ j) : x.testBit j = false := Nat.testBit_lt_two_pow (Nat.lt_of_lt_of_le hx (Nat.pow_le_pow_right (n := 2) (i := 8) (by decide) hj))
theorem aa_bit_tb {x b j : Nat} {is : Bool} (hx : x < 256) (hb : b < 8) : (aa_bit x b is).testBit j = if j = b then is else x.testBit j := by
  unfold aa_bit
  rw [pp_msk_bit]
  by_cases hj : j < 8
  · rw [decide_eq_true hj, Bool.true_and]
  · rw [decide_eq_false hj, Bool.false_and, if_neg (by omega), pp_tb8 hx (by omega)]
theorem aa_or {x b : Nat} (hx : x < 256) (hb : b < 8) : nI x ||| ((1 : Int32) <<< (nI b &&& 31)) = nI (aa_bit x b true) := by
  have h2 : 1 <<< b < 256 := by
    rw [Nat.one_shiftLeft]
    exact Nat.pow_lt_pow_right (by decide) hb
  rw [pp_one_shl (by omega), pp_or _ _ (by omega) (by omega)]
  apply congrArg
  apply Nat.eq_of_testBit_eq
  intro j
  rw [aa_bit_tb hx hb, Nat.testBit_or, Nat.one_shiftLeft, Nat.testBit_two_pow]
  by_cases e : j = b
  · rw [if_pos e, decide_eq_true e.symm, Bool.or_true]
  · rw [if_neg e, decide_eq_false (fun z => e z.symm), Bool.or_false]
theorem aa_andn {x b : Nat} (hx : x < 256) (hb : b < 8) : nI x &&& (((1 : Int32) <<< (nI b &&& 31)) ^^^ (-1)) = nI (aa_bit x b false) := by
  have h2 : 1 <<< b < 256 := by
    rw [Nat.one_shiftLeft]
    exact Nat.pow_lt_pow_right (by decide) hb
  rw [pp_one_shl (by omega), pp_andn hx h2]
  apply congrArg
  apply pp_msk_eq
  intro j _
  rw [Nat.one_shiftLeft, Nat.testBit_two_pow]
  by_cases e : j = b
  · rw [if_pos e, decide_eq_true e.symm, Bool.not_true, Bool.and_false]
  · rw [if_neg e, decide_eq_false (fun z => e z.symm), Bool.not_false, Bool.and_true]
def aa_h (h : mm_H) (c a b : Nat) (A : Nat → Nat) (is : Bool) : mm_H := mm_set (mm_set h c a (nI (aa_bit (A a) b is))) c b (nI (aa_bit (A b) a is))
def aa_jp (h : mm_H) (a b : Nat) (A : Nat → Nat) (is : Bool) : mm_Po := fun r h' => r = none ∧ h' = aa_h h 2 a b A is
set_option maxRecDepth 20000 in
theorem t_join {l : Launch} {d : Nat} {h : mm_H} {n : Nat} {A mk : Nat → Nat} (hN : cc_N h n A mk) {a b : Nat} (ha : a < 8) (hb : b < 8) (hab : a ≠ b) (v : Int32) : mm_Ev l d M2_join [.ref 1, .int (nI a), .int (nI b), .int v] h (aa_jp h a b A (decide (¬ v = 0))) := by
  obtain ⟨n1, n8, hn, hA, hm, hA8, hm4⟩ := hN
  have ia : vp_in (nI a) 8 := vp_in_nI ha (by decide)
  have ib : vp_in (nI b) 8 := vp_in_nI hb (by decide)
  refine mm_Ev.of (by decide +kernel) (Nat.le_of_ble_eq_true rfl) (mm_rn_ok [] _ (S2_join l d _ _) 1000 _ _ _ _ ?_)
  simp only [G2_join_0, G2_join_1, G2_join_4, G2_join_5, G2_join_8, G2_join_9, G2_join_10, G2_join_11, G2_join_12, G2_join_13, G2_join_14, G2_join_15, G2_join_16, G2_join_17, G2_join_20, G2_join_21, G2_join_22, G2_join_23, G2_join_24, G2_join_25, G2_join_26, G2_join_27, G2_join_28, G2_join_31, G2_join_32, G2_join_35, G2_join_36, G2_join_37, G2_join_38, G2_join_39, G2_join_40, G2_join_41, G2_join_42, G2_join_43, G2_join_44, G2_join_45, G2_join_46, G2_join_49, G2_join_50, G2_join_51, G2_join_52, G2_join_53, G2_join_54, G2_join_55, G2_join_56, G2_join_57, G2_join_58, G2_join_59, N2_join, ↓mm_kc_ap, ↓mm_cut, mm_en, mm_nth, mm_put, mm_sto, mm_stoL, mm_ag, mm_dr, mm_sw, Nat.reduceSub, List.replicate, Option.toList, List.cons_append, List.nil_append, sq_int, sq_lng, sq_iload, sq_lload, sq_aload, sq_istore, sq_lstore, sq_astore, sq_iinc, sq_iadd, sq_isub, sq_imul, sq_iand, sq_ior, sq_ixor, sq_ishl, sq_ishr, sq_iushr, sq_ladd, sq_lsub, sq_lmul, sq_idiv, sq_irem, sq_ldiv, sq_lrem, sq_i2l, sq_lcmp, sq_dupI, sq_dupR, sq_pop, sq_dup2, sq_goto, sq_if_eq, sq_icmp_eq, sq_if_ne, sq_icmp_ne, sq_if_lt, sq_icmp_lt, sq_if_ge, sq_icmp_ge, sq_if_gt, sq_icmp_gt, sq_if_le, sq_icmp_le, sq_iaload, sq_iastore, sq_alen, sq_places, sq_getI, sq_getR, sq_put, sq_ret, sq_lret, sq_vret, sq_switch, sq_callS, sq_callV, sq_copy, sq_max, sq_min, mm_len_2, mm_len_3, mm_len_4, mm_len_6, mm_len_8, mm_len_10, mm_len_11, mm_len_12, mm_len_13, mm_len_14, mm_len_15, mm_len_17, mm_len_18, mm_len_19, mm_len_20, mm_len_21, mm_len_22, mm_len_23, mm_len_24, mm_len_25]
  try simp only [eq_self, true_and, and_true, Bool.false_eq_true, false_implies, true_implies, true_or, or_true, mm_numI, mm_numL, mm_numN, pp_i10, pp_i01, pp_im1, not_false_eq_true, not_true_eq_false, false_or, or_false]
  rw [nI_clamp (show a < 2 ^ 31 by omega), nI_clamp (show b < 2 ^ 31 by omega), mm_set_other (Ne.symm hab), mm_set_other (Ne.symm hab), hA a ha, hA b hb, aa_or (hA8 a) hb, aa_or (hA8 b) ha, aa_andn (hA8 a) hb, aa_andn (hA8 b) ha]
  refine ⟨fun hv => ⟨ia, by decide, ia, ib, by decide, ib, rfl, ?_⟩, fun hv => ⟨ia, by decide, ia, ib, by decide, ib, rfl, ?_⟩⟩
  · rw [decide_eq_false (fun z => z hv)]
    rfl
  · rw [decide_eq_true hv]
    rfl
def aa_A (A : Nat → Nat) (a b : Nat) (is : Bool) : Nat → Nat := ss_up (ss_up A a (aa_bit (A a) b is)) b (aa_bit (A b) a is)
theorem aa_A_tb {A : Nat → Nat} {a b p q : Nat} {is : Bool} (hA8 : ∀ p, A p < 256) (ha : a < 8) (hb : b < 8) (hab : a ≠ b) : (aa_A A a b is p).testBit q = if (p = a ∧ q = b) ∨ (p = b ∧ q = a) then is else (A p).testBit q := by
  unfold aa_A ss_up
  by_cases e1 : p = b
  · subst e1
    rw [if_pos rfl, aa_bit_tb (hA8 p) ha]
    by_cases e2 : q = a
    · rw [if_pos e2, if_pos (Or.inr ⟨rfl, e2⟩)]
    · rw [if_neg e2, if_neg]
      rintro (⟨z, _⟩ | ⟨_, z⟩)
      · exact hab z.symm
      · exact e2 z
  · rw [if_neg e1]
    by_cases e2 : p = a
    · subst e2
      rw [if_pos rfl, aa_bit_tb (hA8 p) hb]
      by_cases e3 : q = b
      · rw [if_pos e3, if_pos (Or.inl ⟨rfl, e3⟩)]
      · rw [if_neg e3, if_neg]
        rintro (⟨_, z⟩ | ⟨z, _⟩)
        · exact e3 z
        · exact e1 z
    · rw [if_neg e2, if_neg]
      rintro (⟨z, _⟩ | ⟨z, _⟩)
      · exact e2 z
      · exact e1 z
theorem aa_A_lt {A : Nat → Nat} {a b : Nat} {is : Bool} (hA8 : ∀ p, A p < 256) (p : Nat) : aa_A A a b is p < 256 := by
  unfold aa_A ss_up
  split
  · exact aa_bit_lt _ _ _
  · split
    · exact aa_bit_lt _ _ _
    · exact hA8 p
theorem aa_h_in {h : mm_H} {c a b : Nat} {A : Nat → Nat} {is : Bool} (hA : ∀ p, p < 8 → h c p = nI (A p)) : ∀ p, p < 8 → aa_h h c a b A is c p = nI (aa_A A a b is p) := by
  intro p hp
  unfold aa_h aa_A ss_up
  by_cases e1 : p = b
  · rw [if_pos e1, e1, mm_set_same]
  · rw [if_neg e1, mm_set_other e1]
    by_cases e2 : p = a
    · rw [if_pos e2, e2, mm_set_same]
    · rw [if_neg e2, mm_set_other e2]
      exact hA p hp
theorem aa_h_ne {h : mm_H} {c a b x : Nat} {A : Nat → Nat} {is : Bool} (hx : x ≠ c) : aa_h h c a b A is x = h x := by
  unfold aa_h
  rw [mm_set_ne hx, mm_set_ne hx]
def sp_line (a b v : Int32) (s : ss_T) : Int32 × ss_T := match s with
  | (n, A, mq, pf, ds, sc, tr, lk) => if (0 ≤ a ∧ a < nI n) ∧ (0 ≤ b ∧ b < nI n) then (if a = b then (-102, s) else (pp_b ((A a.toNatClampNeg).testBit b.toNatClampNeg), (n, aa_A A a.toNatClampNeg b.toNatClampNeg (decide (¬ v = 0)), mq, pf, ds, sc, tr, lk))) else (-101, s)
set_option maxRecDepth 20000 in
theorem u_line {l : Launch} {d : Nat} (hd : 0 < d) {h : mm_H} {s : ss_T} (hC : ss_C h s) (a b v : Int32) : mm_Ev l d M5_line [.ref 0, .int a, .int b, .int v] h (ss_pC (.int (sp_line a b v s).1) (sp_line a b v s).2 h) := by
  have hC' := hC
  obtain ⟨n, A, mq, pf, ds, sc, tr, lk⟩ := s
  obtain ⟨c1, c2, c3, c4, c5, c6, c7⟩ := hC
  have n8 := c1.2.1
  have hn := c1.2.2.1
  refine mm_Ev.of (by decide +kernel) (Nat.le_of_ble_eq_true rfl) (mm_rn_ok [25] _ (S5_line l d _ _) 1000 _ _ _ _ ?_)
  simp only [G5_line_0, G5_line_1, G5_line_4, G5_line_5, G5_line_8, G5_line_11, G5_line_12, G5_line_15, G5_line_16, G5_line_19, G5_line_22, G5_line_24, G5_line_25, G5_line_26, G5_line_27, G5_line_30, G5_line_32, G5_line_33, G5_line_34, G5_line_37, G5_line_38, G5_line_39, G5_line_42, G5_line_44, G5_line_45, G5_line_48, G5_line_49, G5_line_50, G5_line_51, G5_line_54, G5_line_56, N5_line, ↓mm_kc_ap, ↓mm_cut, mm_en, mm_nth, mm_put, mm_sto, mm_stoL, mm_ag, mm_dr, mm_sw, Nat.reduceSub, List.replicate, Option.toList, List.cons_append, List.nil_append, sq_int, sq_lng, sq_iload, sq_lload, sq_aload, sq_istore, sq_lstore, sq_astore, sq_iinc, sq_iadd, sq_isub, sq_imul, sq_iand, sq_ior, sq_ixor, sq_ishl, sq_ishr, sq_iushr, sq_ladd, sq_lsub, sq_lmul, sq_idiv, sq_irem, sq_ldiv, sq_lrem, sq_i2l, sq_lcmp, sq_dupI, sq_dupR, sq_pop, sq_dup2, sq_goto, sq_if_eq, sq_icmp_eq, sq_if_ne, sq_icmp_ne, sq_if_lt, sq_icmp_lt, sq_if_ge, sq_icmp_ge, sq_if_gt, sq_icmp_gt, sq_if_le, sq_icmp_le, sq_iaload, sq_iastore, sq_alen, sq_places, sq_getI, sq_getR, sq_put, sq_ret, sq_lret, sq_vret, sq_switch, sq_callS, sq_callV, sq_copy, sq_max, sq_min, mm_len_2, mm_len_3, mm_len_4, mm_len_6, mm_len_8, mm_len_10, mm_len_11, mm_len_12, mm_len_13, mm_len_14, mm_len_15, mm_len_17, mm_len_18, mm_len_19, mm_len_20, mm_len_21, mm_len_22, mm_len_23, mm_len_24, mm_len_25]
  try simp only [eq_self, true_and, and_true, Bool.false_eq_true, false_implies, true_implies, true_or, or_true, mm_numI, mm_numL, mm_numN, pp_i10, pp_i01, pp_im1, not_false_eq_true, not_true_eq_false, false_or, or_false]
  refine ⟨0, _, by omega, t_has l 0 h a, rfl, ?_⟩
  rintro _ _ ⟨rfl, rfl⟩
  simp only [G5_line_0, G5_line_1, G5_line_4, G5_line_5, G5_line_8, G5_line_11, G5_line_12, G5_line_15, G5_line_16, G5_line_19, G5_line_22, G5_line_24, G5_line_25, G5_line_26, G5_line_27, G5_line_30, G5_line_32, G5_line_33, G5_line_34, G5_line_37, G5_line_38, G5_line_39, G5_line_42, G5_line_44, G5_line_45, G5_line_48, G5_line_49, G5_line_50, G5_line_51, G5_line_54, G5_line_56, N5_line, ↓mm_kc_ap, ↓mm_cut, mm_en, mm_nth, mm_put, mm_sto, mm_stoL, mm_ag, mm_dr, mm_sw, Nat.reduceSub, List.replicate, Option.toList, List.cons_append, List.nil_append, sq_int, sq_lng, sq_iload, sq_lload, sq_aload, sq_istore, sq_lstore, sq_astore, sq_iinc, sq_iadd, sq_isub, sq_imul, sq_iand, sq_ior, sq_ixor, sq_ishl, sq_ishr, sq_iushr, sq_ladd, sq_lsub, sq_lmul, sq_idiv, sq_irem, sq_ldiv, sq_lrem, sq_i2l, sq_lcmp, sq_dupI, sq_dupR, sq_pop, sq_dup2, sq_goto, sq_if_eq, sq_icmp_eq, sq_if_ne, sq_icmp_ne, sq_if_lt, sq_icmp_lt, sq_if_ge, sq_icmp_ge, sq_if_gt, sq_icmp_gt, sq_if_le, sq_icmp_le, sq_iaload, sq_iastore, sq_alen, sq_places, sq_getI, sq_getR, sq_put, sq_ret, sq_lret, sq_vret, sq_switch, sq_callS, sq_callV, sq_copy, sq_max, sq_min, mm_len_2, mm_len_3, mm_len_4, mm_len_6, mm_len_8, mm_len_10, mm_len_11, mm_len_12, mm_len_13, mm_len_14, mm_len_15, mm_len_17, mm_len_18, mm_len_19, mm_len_20, mm_len_21, mm_len_22, mm_len_23, mm_len_24, mm_len_25]
  try simp only [eq_self, true_and, and_true, Bool.false_eq_true, false_implies, true_implies, true_or, or_true, mm_numI, mm_numL, mm_numN, pp_i10, pp_i01, pp_im1, not_false_eq_true, not_true_eq_false, false_or, or_false]
  rw [pp_if01, pp_if01', hn]
  unfold sp_line
  dsimp only
  refine ⟨fun h1 => ?_, fun h1 => ?_⟩
  · rw [if_neg (fun z => h1 z.1)]
    exact ⟨rfl, hC', fun _ _ => rfl⟩
  · refine ⟨0, _, by omega, t_has l 0 _ b, rfl, ?_⟩
    rintro _ _ ⟨rfl, rfl⟩
    simp only [G5_line_0, G5_line_1, G5_line_4, G5_line_5, G5_line_8, G5_line_11, G5_line_12, G5_line_15, G5_line_16, G5_line_19, G5_line_22, G5_line_24, G5_line_25, G5_line_26, G5_line_27, G5_line_30, G5_line_32, G5_line_33, G5_line_34, G5_line_37, G5_line_38, G5_line_39, G5_line_42, G5_line_44, G5_line_45, G5_line_48, G5_line_49, G5_line_50, G5_line_51, G5_line_54, G5_line_56, N5_line, ↓mm_kc_ap, ↓mm_cut, mm_en, mm_nth, mm_put, mm_sto, mm_stoL, mm_ag, mm_dr, mm_sw, Nat.reduceSub, List.replicate, Option.toList, List.cons_append, List.nil_append, sq_int, sq_lng, sq_iload, sq_lload, sq_aload, sq_istore, sq_lstore, sq_astore, sq_iinc, sq_iadd, sq_isub, sq_imul, sq_iand, sq_ior, sq_ixor, sq_ishl, sq_ishr, sq_iushr, sq_ladd, sq_lsub, sq_lmul, sq_idiv, sq_irem, sq_ldiv, sq_lrem, sq_i2l, sq_lcmp, sq_dupI, sq_dupR, sq_pop, sq_dup2, sq_goto, sq_if_eq, sq_icmp_eq, sq_if_ne, sq_icmp_ne, sq_if_lt, sq_icmp_lt, sq_if_ge, sq_icmp_ge, sq_if_gt, sq_icmp_gt, sq_if_le, sq_icmp_le, sq_iaload, sq_iastore, sq_alen, sq_places, sq_getI, sq_getR, sq_put, sq_ret, sq_lret, sq_vret, sq_switch, sq_callS, sq_callV, sq_copy, sq_max, sq_min, mm_len_2, mm_len_3, mm_len_4, mm_len_6, mm_len_8, mm_len_10, mm_len_11, mm_len_12, mm_len_13, mm_len_14, mm_len_15, mm_len_17, mm_len_18, mm_len_19, mm_len_20, mm_len_21, mm_len_22, mm_len_23, mm_len_24, mm_len_25]
    try simp only [eq_self, true_and, and_true, Bool.false_eq_true, false_implies, true_implies, true_or, or_true, mm_numI, mm_numL, mm_numN, pp_i10, pp_i01, pp_im1, not_false_eq_true, not_true_eq_false, false_or, or_false]
    rw [pp_if01, pp_if01', hn]
    refine ⟨fun h2 => ?_, fun h2 => ?_⟩
    · rw [if_pos ⟨h1, h2⟩]
      obtain ⟨e1, e2⟩ := pp_post n8 h1
      obtain ⟨e3, e4⟩ := pp_post n8 h2
      generalize hj : a.toNatClampNeg = j at e1 e2 ⊢
      generalize hk : b.toNatClampNeg = k at e3 e4 ⊢
      subst e1; subst e3
      refine mm_rn_ok [] _ (S5_line l d _ _) 1000 _ _ _ _ ?_
      simp only [G5_line_0, G5_line_1, G5_line_4, G5_line_5, G5_line_8, G5_line_11, G5_line_12, G5_line_15, G5_line_16, G5_line_19, G5_line_22, G5_line_24, G5_line_25, G5_line_26, G5_line_27, G5_line_30, G5_line_32, G5_line_33, G5_line_34, G5_line_37, G5_line_38, G5_line_39, G5_line_42, G5_line_44, G5_line_45, G5_line_48, G5_line_49, G5_line_50, G5_line_51, G5_line_54, G5_line_56, N5_line, ↓mm_kc_ap, ↓mm_cut, mm_en, mm_nth, mm_put, mm_sto, mm_stoL, mm_ag, mm_dr, mm_sw, Nat.reduceSub, List.replicate, Option.toList, List.cons_append, List.nil_append, sq_int, sq_lng, sq_iload, sq_lload, sq_aload, sq_istore, sq_lstore, sq_astore, sq_iinc, sq_iadd, sq_isub, sq_imul, sq_iand, sq_ior, sq_ixor, sq_ishl, sq_ishr, sq_iushr, sq_ladd, sq_lsub, sq_lmul, sq_idiv, sq_irem, sq_ldiv, sq_lrem, sq_i2l, sq_lcmp, sq_dupI, sq_dupR, sq_pop, sq_dup2, sq_goto, sq_if_eq, sq_icmp_eq, sq_if_ne, sq_icmp_ne, sq_if_lt, sq_icmp_lt, sq_if_ge, sq_icmp_ge, sq_if_gt, sq_icmp_gt, sq_if_le, sq_icmp_le, sq_iaload, sq_iastore, sq_alen, sq_places, sq_getI, sq_getR, sq_put, sq_ret, sq_lret, sq_vret, sq_switch, sq_callS, sq_callV, sq_copy, sq_max, sq_min, mm_len_2, mm_len_3, mm_len_4, mm_len_6, mm_len_8, mm_len_10, mm_len_11, mm_len_12, mm_len_13, mm_len_14, mm_len_15, mm_len_17, mm_len_18, mm_len_19, mm_len_20, mm_len_21, mm_len_22, mm_len_23, mm_len_24, mm_len_25]
      try simp only [eq_self, true_and, and_true, Bool.false_eq_true, false_implies, true_implies, true_or, or_true, mm_numI, mm_numL, mm_numN, pp_i10, pp_i01, pp_im1, not_false_eq_true, not_true_eq_false, false_or, or_false]
      refine ⟨fun e5 => ?_, fun e5 => ?_⟩
      · rw [if_neg e5]
        refine ⟨0, _, hd, t_joined c1 (show j < 8 by omega) (show k < 8 by omega), rfl, ?_⟩
        rintro _ _ ⟨rfl, rfl⟩
        simp only [G5_line_0, G5_line_1, G5_line_4, G5_line_5, G5_line_8, G5_line_11, G5_line_12, G5_line_15, G5_line_16, G5_line_19, G5_line_22, G5_line_24, G5_line_25, G5_line_26, G5_line_27, G5_line_30, G5_line_32, G5_line_33, G5_line_34, G5_line_37, G5_line_38, G5_line_39, G5_line_42, G5_line_44, G5_line_45, G5_line_48, G5_line_49, G5_line_50, G5_line_51, G5_line_54, G5_line_56, N5_line, ↓mm_kc_ap, ↓mm_cut, mm_en, mm_nth, mm_put, mm_sto, mm_stoL, mm_ag, mm_dr, mm_sw, Nat.reduceSub, List.replicate, Option.toList, List.cons_append, List.nil_append, sq_int, sq_lng, sq_iload, sq_lload, sq_aload, sq_istore, sq_lstore, sq_astore, sq_iinc, sq_iadd, sq_isub, sq_imul, sq_iand, sq_ior, sq_ixor, sq_ishl, sq_ishr, sq_iushr, sq_ladd, sq_lsub, sq_lmul, sq_idiv, sq_irem, sq_ldiv, sq_lrem, sq_i2l, sq_lcmp, sq_dupI, sq_dupR, sq_pop, sq_dup2, sq_goto, sq_if_eq, sq_icmp_eq, sq_if_ne, sq_icmp_ne, sq_if_lt, sq_icmp_lt, sq_if_ge, sq_icmp_ge, sq_if_gt, sq_icmp_gt, sq_if_le, sq_icmp_le, sq_iaload, sq_iastore, sq_alen, sq_places, sq_getI, sq_getR, sq_put, sq_ret, sq_lret, sq_vret, sq_switch, sq_callS, sq_callV, sq_copy, sq_max, sq_min, mm_len_2, mm_len_3, mm_len_4, mm_len_6, mm_len_8, mm_len_10, mm_len_11, mm_len_12, mm_len_13, mm_len_14, mm_len_15, mm_len_17, mm_len_18, mm_len_19, mm_len_20, mm_len_21, mm_len_22, mm_len_23, mm_len_24, mm_len_25]
        try simp only [eq_self, true_and, and_true, Bool.false_eq_true, false_implies, true_implies, true_or, or_true, mm_numI, mm_numL, mm_numN, pp_i10, pp_i01, pp_im1, not_false_eq_true, not_true_eq_false, false_or, or_false]
        refine ⟨0, _, hd, t_join c1 (show j < 8 by omega) (show k < 8 by omega) (fun z => e5 (by rw [z])) v, rfl, ?_⟩
        rintro _ _ ⟨rfl, rfl⟩
        simp only [G5_line_0, G5_line_1, G5_line_4, G5_line_5, G5_line_8, G5_line_11, G5_line_12, G5_line_15, G5_line_16, G5_line_19, G5_line_22, G5_line_24, G5_line_25, G5_line_26, G5_line_27, G5_line_30, G5_line_32, G5_line_33, G5_line_34, G5_line_37, G5_line_38, G5_line_39, G5_line_42, G5_line_44, G5_line_45, G5_line_48, G5_line_49, G5_line_50, G5_line_51, G5_line_54, G5_line_56, N5_line, ↓mm_kc_ap, ↓mm_cut, mm_en, mm_nth, mm_put, mm_sto, mm_stoL, mm_ag, mm_dr, mm_sw, Nat.reduceSub, List.replicate, Option.toList, List.cons_append, List.nil_append, sq_int, sq_lng, sq_iload, sq_lload, sq_aload, sq_istore, sq_lstore, sq_astore, sq_iinc, sq_iadd, sq_isub, sq_imul, sq_iand, sq_ior, sq_ixor, sq_ishl, sq_ishr, sq_iushr, sq_ladd, sq_lsub, sq_lmul, sq_idiv, sq_irem, sq_ldiv, sq_lrem, sq_i2l, sq_lcmp, sq_dupI, sq_dupR, sq_pop, sq_dup2, sq_goto, sq_if_eq, sq_icmp_eq, sq_if_ne, sq_icmp_ne, sq_if_lt, sq_icmp_lt, sq_if_ge, sq_icmp_ge, sq_if_gt, sq_icmp_gt, sq_if_le, sq_icmp_le, sq_iaload, sq_iastore, sq_alen, sq_places, sq_getI, sq_getR, sq_put, sq_ret, sq_lret, sq_vret, sq_switch, sq_callS, sq_callV, sq_copy, sq_max, sq_min, mm_len_2, mm_len_3, mm_len_4, mm_len_6, mm_len_8, mm_len_10, mm_len_11, mm_len_12, mm_len_13, mm_len_14, mm_len_15, mm_len_17, mm_len_18, mm_len_19, mm_len_20, mm_len_21, mm_len_22, mm_len_23, mm_len_24, mm_len_25]
        try simp only [eq_self, true_and, and_true, Bool.false_eq_true, false_implies, true_implies, true_or, or_true, mm_numI, mm_numL, mm_numN, pp_i10, pp_i01, pp_im1, not_false_eq_true, not_true_eq_false, false_or, or_false]
        obtain ⟨a1, a2, a3, a4, a5, a6, a7⟩ := c1
        refine ⟨rfl, ⟨⟨a1, a2, ?_, aa_h_in a4, ?_, aa_A_lt a6, a7⟩, ?_, ⟨?_, c3.2⟩, ?_, ?_, ?_, ?_⟩, fun c hc => aa_h_ne (by omega)⟩
        · rw [aa_h_ne (by decide)]; exact a3
        · rw [aa_h_ne (by decide)]; exact a5
        · rw [aa_h_ne (by decide)]; exact c2
        · rw [aa_h_ne (by decide)]; exact c3.1
        · rw [aa_h_ne (by decide)]; exact c4
        · rw [aa_h_ne (by decide)]; exact c5
        · rw [aa_h_ne (by decide)]; exact c6
        · rw [aa_h_ne (by decide)]; exact c7
      · rw [if_pos e5]
        exact ⟨rfl, hC', fun _ _ => rfl⟩
    · rw [if_neg (fun z => h2 z.2)]
      exact ⟨rfl, hC', fun _ _ => rfl⟩
theorem pp_bN (b : Bool) : nI b.toNat = pp_b b := by cases b <;> rfl
set_option maxRecDepth 20000 in
theorem v_line {l : Launch} {d : Nat} (hd : 1 < d) {h : mm_H} {s : ss_T} (hM : ss_M h s) (a b v : Int32) : mm_Ev l d M6_line [.ref 16, .int a, .int b, .int v] h (ss_pM (.int (sp_line a b v s).1) (sp_line a b v s).2 h) := by
  have hM' := hM
  obtain ⟨n, A, mq, pf, ds, sc, tr, lk⟩ := s
  obtain ⟨c1, c2, c3, c4, c5, c6⟩ := hM
  have n8 := c1.2.1
  have hn := c1.2.2.1
  refine mm_Ev.of (by decide +kernel) (Nat.le_of_ble_eq_true rfl) (mm_rn_ok [19] _ (S6_line l d _ _) 1000 _ _ _ _ ?_)
  simp only [G6_line_0, G6_line_1, G6_line_2, G6_line_5, G6_line_8, G6_line_9, G6_line_10, G6_line_13, G6_line_16, G6_line_18, G6_line_19, G6_line_20, G6_line_21, G6_line_24, G6_line_26, G6_line_27, G6_line_28, G6_line_31, G6_line_32, G6_line_33, G6_line_34, G6_line_35, G6_line_36, G6_line_37, G6_line_39, G6_line_40, G6_line_43, G6_line_44, G6_line_45, G6_line_48, G6_line_49, G6_line_52, G6_line_53, G6_line_54, G6_line_55, G6_line_56, G6_line_57, G6_line_58, G6_line_61, G6_line_62, G6_line_65, G6_line_66, G6_line_67, G6_line_68, G6_line_69, G6_line_70, G6_line_71, G6_line_72, G6_line_73, G6_line_74, G6_line_75, G6_line_78, G6_line_79, G6_line_80, G6_line_83, G6_line_84, G6_line_87, G6_line_88, G6_line_89, G6_line_90, G6_line_91, G6_line_92, G6_line_93, G6_line_96, G6_line_97, G6_line_100, G6_line_101, G6_line_102, G6_line_103, G6_line_104, G6_line_105, G6_line_106, G6_line_107, G6_line_108, G6_line_109, G6_line_111, N6_line, ↓mm_kc_ap, ↓mm_cut, mm_en, mm_nth, mm_put, mm_sto, mm_stoL, mm_ag, mm_dr, mm_sw, Nat.reduceSub, List.replicate, Option.toList, List.cons_append, List.nil_append, sq_int, sq_lng, sq_iload, sq_lload, sq_aload, sq_istore, sq_lstore, sq_astore, sq_iinc, sq_iadd, sq_isub, sq_imul, sq_iand, sq_ior, sq_ixor, sq_ishl, sq_ishr, sq_iushr, sq_ladd, sq_lsub, sq_lmul, sq_idiv, sq_irem, sq_ldiv, sq_lrem, sq_i2l, sq_lcmp, sq_dupI, sq_dupR, sq_pop, sq_dup2, sq_goto, sq_if_eq, sq_icmp_eq, sq_if_ne, sq_icmp_ne, sq_if_lt, sq_icmp_lt, sq_if_ge, sq_icmp_ge, sq_if_gt, sq_icmp_gt, sq_if_le, sq_icmp_le, sq_iaload, sq_iastore, sq_alen, sq_places, sq_getI, sq_getR, sq_put, sq_ret, sq_lret, sq_vret, sq_switch, sq_callS, sq_callV, sq_copy, sq_max, sq_min, mm_len_2, mm_len_3, mm_len_4, mm_len_6, mm_len_8, mm_len_10, mm_len_11, mm_len_12, mm_len_13, mm_len_14, mm_len_15, mm_len_17, mm_len_18, mm_len_19, mm_len_20, mm_len_21, mm_len_22, mm_len_23, mm_len_24, mm_len_25]
  try simp only [eq_self, true_and, and_true, Bool.false_eq_true, false_implies, true_implies, true_or, or_true, mm_numI, mm_numL, mm_numN, pp_i10, pp_i01, pp_im1, not_false_eq_true, not_true_eq_false, false_or, or_false]
  refine ⟨1, _, by omega, t_isPost (by decide) c1.1 n8 hn a, rfl, ?_⟩
  rintro _ _ ⟨rfl, rfl⟩
  simp only [G6_line_0, G6_line_1, G6_line_2, G6_line_5, G6_line_8, G6_line_9, G6_line_10, G6_line_13, G6_line_16, G6_line_18, G6_line_19, G6_line_20, G6_line_21, G6_line_24, G6_line_26, G6_line_27, G6_line_28, G6_line_31, G6_line_32, G6_line_33, G6_line_34, G6_line_35, G6_line_36, G6_line_37, G6_line_39, G6_line_40, G6_line_43, G6_line_44, G6_line_45, G6_line_48, G6_line_49, G6_line_52, G6_line_53, G6_line_54, G6_line_55, G6_line_56, G6_line_57, G6_line_58, G6_line_61, G6_line_62, G6_line_65, G6_line_66, G6_line_67, G6_line_68, G6_line_69, G6_line_70, G6_line_71, G6_line_72, G6_line_73, G6_line_74, G6_line_75, G6_line_78, G6_line_79, G6_line_80, G6_line_83, G6_line_84, G6_line_87, G6_line_88, G6_line_89, G6_line_90, G6_line_91, G6_line_92, G6_line_93, G6_line_96, G6_line_97, G6_line_100, G6_line_101, G6_line_102, G6_line_103, G6_line_104, G6_line_105, G6_line_106, G6_line_107, G6_line_108, G6_line_109, G6_line_111, N6_line, ↓mm_kc_ap, ↓mm_cut, mm_en, mm_nth, mm_put, mm_sto, mm_stoL, mm_ag, mm_dr, mm_sw, Nat.reduceSub, List.replicate, Option.toList, List.cons_append, List.nil_append, sq_int, sq_lng, sq_iload, sq_lload, sq_aload, sq_istore, sq_lstore, sq_astore, sq_iinc, sq_iadd, sq_isub, sq_imul, sq_iand, sq_ior, sq_ixor, sq_ishl, sq_ishr, sq_iushr, sq_ladd, sq_lsub, sq_lmul, sq_idiv, sq_irem, sq_ldiv, sq_lrem, sq_i2l, sq_lcmp, sq_dupI, sq_dupR, sq_pop, sq_dup2, sq_goto, sq_if_eq, sq_icmp_eq, sq_if_ne, sq_icmp_ne, sq_if_lt, sq_icmp_lt, sq_if_ge, sq_icmp_ge, sq_if_gt, sq_icmp_gt, sq_if_le, sq_icmp_le, sq_iaload, sq_iastore, sq_alen, sq_places, sq_getI, sq_getR, sq_put, sq_ret, sq_lret, sq_vret, sq_switch, sq_callS, sq_callV, sq_copy, sq_max, sq_min, mm_len_2, mm_len_3, mm_len_4, mm_len_6, mm_len_8, mm_len_10, mm_len_11, mm_len_12, mm_len_13, mm_len_14, mm_len_15, mm_len_17, mm_len_18, mm_len_19, mm_len_20, mm_len_21, mm_len_22, mm_len_23, mm_len_24, mm_len_25]
  try simp only [eq_self, true_and, and_true, Bool.false_eq_true, false_implies, true_implies, true_or, or_true, mm_numI, mm_numL, mm_numN, pp_i10, pp_i01, pp_im1, not_false_eq_true, not_true_eq_false, false_or, or_false]
  rw [pp_bne, pp_beq, decide_eq_true_eq, decide_eq_false_iff_not]
  unfold sp_line
  dsimp only
  refine ⟨fun h1 => ?_, fun h1 => ?_⟩
  · rw [if_neg (fun z => h1 z.1)]
    exact ⟨rfl, hM', fun _ _ => rfl⟩
  · refine ⟨1, _, by omega, t_isPost (by decide) c1.1 n8 hn b, rfl, ?_⟩
    rintro _ _ ⟨rfl, rfl⟩
    simp only [G6_line_0, G6_line_1, G6_line_2, G6_line_5, G6_line_8, G6_line_9, G6_line_10, G6_line_13, G6_line_16, G6_line_18, G6_line_19, G6_line_20, G6_line_21, G6_line_24, G6_line_26, G6_line_27, G6_line_28, G6_line_31, G6_line_32, G6_line_33, G6_line_34, G6_line_35, G6_line_36, G6_line_37, G6_line_39, G6_line_40, G6_line_43, G6_line_44, G6_line_45, G6_line_48, G6_line_49, G6_line_52, G6_line_53, G6_line_54, G6_line_55, G6_line_56, G6_line_57, G6_line_58, G6_line_61, G6_line_62, G6_line_65, G6_line_66, G6_line_67, G6_line_68, G6_line_69, G6_line_70, G6_line_71, G6_line_72, G6_line_73, G6_line_74, G6_line_75, G6_line_78, G6_line_79, G6_line_80, G6_line_83, G6_line_84, G6_line_87, G6_line_88, G6_line_89, G6_line_90, G6_line_91, G6_line_92, G6_line_93, G6_line_96, G6_line_97, G6_line_100, G6_line_101, G6_line_102, G6_line_103, G6_line_104, G6_line_105, G6_line_106, G6_line_107, G6_line_108, G6_line_109, G6_line_111, N6_line, ↓mm_kc_ap, ↓mm_cut, mm_en, mm_nth, mm_put, mm_sto, mm_stoL, mm_ag, mm_dr, mm_sw, Nat.reduceSub, List.replicate, Option.toList, List.cons_append, List.nil_append, sq_int, sq_lng, sq_iload, sq_lload, sq_aload, sq_istore, sq_lstore, sq_astore, sq_iinc, sq_iadd, sq_isub, sq_imul, sq_iand, sq_ior, sq_ixor, sq_ishl, sq_ishr, sq_iushr, sq_ladd, sq_lsub, sq_lmul, sq_idiv, sq_irem, sq_ldiv, sq_lrem, sq_i2l, sq_lcmp, sq_dupI, sq_dupR, sq_pop, sq_dup2, sq_goto, sq_if_eq, sq_icmp_eq, sq_if_ne, sq_icmp_ne, sq_if_lt, sq_icmp_lt, sq_if_ge, sq_icmp_ge, sq_if_gt, sq_icmp_gt, sq_if_le, sq_icmp_le, sq_iaload, sq_iastore, sq_alen, sq_places, sq_getI, sq_getR, sq_put, sq_ret, sq_lret, sq_vret, sq_switch, sq_callS, sq_callV, sq_copy, sq_max, sq_min, mm_len_2, mm_len_3, mm_len_4, mm_len_6, mm_len_8, mm_len_10, mm_len_11, mm_len_12, mm_len_13, mm_len_14, mm_len_15, mm_len_17, mm_len_18, mm_len_19, mm_len_20, mm_len_21, mm_len_22, mm_len_23, mm_len_24, mm_len_25]
    try simp only [eq_self, true_and, and_true, Bool.false_eq_true, false_implies, true_implies, true_or, or_true, mm_numI, mm_numL, mm_numN, pp_i10, pp_i01, pp_im1, not_false_eq_true, not_true_eq_false, false_or, or_false]
    rw [pp_bne, pp_beq, decide_eq_true_eq, decide_eq_false_iff_not]
    refine ⟨fun h2 => ?_, fun h2 => ?_⟩
    · rw [if_pos ⟨h1, h2⟩]
      obtain ⟨e1, e2⟩ := pp_post n8 h1
      obtain ⟨e3, e4⟩ := pp_post n8 h2
      generalize hj : a.toNatClampNeg = j at e1 e2 ⊢
      generalize hk : b.toNatClampNeg = k at e3 e4 ⊢
      subst e1; subst e3
      have ij : vp_in (nI j) 8 := vp_in_nI (by omega) (by decide)
      have ik : vp_in (nI k) 8 := vp_in_nI (by omega) (by decide)
      rename_i h
      refine mm_rn_ok [27] _ (S6_line l d _ _) 1000 _ _ _ _ ?_
      simp only [G6_line_0, G6_line_1, G6_line_2, G6_line_5, G6_line_8, G6_line_9, G6_line_10, G6_line_13, G6_line_16, G6_line_18, G6_line_19, G6_line_20, G6_line_21, G6_line_24, G6_line_26, G6_line_27, G6_line_28, G6_line_31, G6_line_32, G6_line_33, G6_line_34, G6_line_35, G6_line_36, G6_line_37, G6_line_39, G6_line_40, G6_line_43, G6_line_44, G6_line_45, G6_line_48, G6_line_49, G6_line_52, G6_line_53, G6_line_54, G6_line_55, G6_line_56, G6_line_57, G6_line_58, G6_line_61, G6_line_62, G6_line_65, G6_line_66, G6_line_67, G6_line_68, G6_line_69, G6_line_70, G6_line_71, G6_line_72, G6_line_73, G6_line_74, G6_line_75, G6_line_78, G6_line_79, G6_line_80, G6_line_83, G6_line_84, G6_line_87, G6_line_88, G6_line_89, G6_line_90, G6_line_91, G6_line_92, G6_line_93, G6_line_96, G6_line_97, G6_line_100, G6_line_101, G6_line_102, G6_line_103, G6_line_104, G6_line_105, G6_line_106, G6_line_107, G6_line_108, G6_line_109, G6_line_111, N6_line, ↓mm_kc_ap, ↓mm_cut, mm_en, mm_nth, mm_put, mm_sto, mm_stoL, mm_ag, mm_dr, mm_sw, Nat.reduceSub, List.replicate, Option.toList, List.cons_append, List.nil_append, sq_int, sq_lng, sq_iload, sq_lload, sq_aload, sq_istore, sq_lstore, sq_astore, sq_iinc, sq_iadd, sq_isub, sq_imul, sq_iand, sq_ior, sq_ixor, sq_ishl, sq_ishr, sq_iushr, sq_ladd, sq_lsub, sq_lmul, sq_idiv, sq_irem, sq_ldiv, sq_lrem, sq_i2l, sq_lcmp, sq_dupI, sq_dupR, sq_pop, sq_dup2, sq_goto, sq_if_eq, sq_icmp_eq, sq_if_ne, sq_icmp_ne, sq_if_lt, sq_icmp_lt, sq_if_ge, sq_icmp_ge, sq_if_gt, sq_icmp_gt, sq_if_le, sq_icmp_le, sq_iaload, sq_iastore, sq_alen, sq_places, sq_getI, sq_getR, sq_put, sq_ret, sq_lret, sq_vret, sq_switch, sq_callS, sq_callV, sq_copy, sq_max, sq_min, mm_len_2, mm_len_3, mm_len_4, mm_len_6, mm_len_8, mm_len_10, mm_len_11, mm_len_12, mm_len_13, mm_len_14, mm_len_15, mm_len_17, mm_len_18, mm_len_19, mm_len_20, mm_len_21, mm_len_22, mm_len_23, mm_len_24, mm_len_25]
      try simp only [eq_self, true_and, and_true, Bool.false_eq_true, false_implies, true_implies, true_or, or_true, mm_numI, mm_numL, mm_numN, pp_i10, pp_i01, pp_im1, not_false_eq_true, not_true_eq_false, false_or, or_false]
      refine ⟨fun e5 => ?_, fun e5 => ?_⟩
      · rw [if_neg e5]
        have hjk : j ≠ k := fun z => e5 (by rw [z])
        obtain ⟨a1, a2, a3, a4, a5, a6, a7⟩ := c1
        have fin : ss_pM (.int (pp_b ((A j).testBit k))) (n, aa_A A j k (decide (¬ v = 0)), mq, pf, ds, sc, tr, lk) h (some (.int (pp_b ((A j).testBit k)))) (aa_h h 17 j k A (decide (¬ v = 0))) := by
          refine ⟨rfl, ⟨⟨a1, a2, ?_, aa_h_in a4, ?_, aa_A_lt a6, a7⟩, ?_, ⟨?_, c3.2⟩, ?_, ?_, ?_⟩, fun c hc => aa_h_ne (by omega)⟩
          · rw [aa_h_ne (by decide)]; exact a3
          · rw [aa_h_ne (by decide)]; exact a5
          · rw [aa_h_ne (by decide)]; exact c2
          · rw [aa_h_ne (by decide)]; exact c3.1
          · rw [aa_h_ne (by decide)]; exact c4
          · rw [aa_h_ne (by decide)]; exact c5
          · rw [aa_h_ne (by decide)]; exact c6
        refine mm_rn_ok [73] _ (S6_line l d _ _) 1000 _ _ _ _ ?_
        simp only [G6_line_0, G6_line_1, G6_line_2, G6_line_5, G6_line_8, G6_line_9, G6_line_10, G6_line_13, G6_line_16, G6_line_18, G6_line_19, G6_line_20, G6_line_21, G6_line_24, G6_line_26, G6_line_27, G6_line_28, G6_line_31, G6_line_32, G6_line_33, G6_line_34, G6_line_35, G6_line_36, G6_line_37, G6_line_39, G6_line_40, G6_line_43, G6_line_44, G6_line_45, G6_line_48, G6_line_49, G6_line_52, G6_line_53, G6_line_54, G6_line_55, G6_line_56, G6_line_57, G6_line_58, G6_line_61, G6_line_62, G6_line_65, G6_line_66, G6_line_67, G6_line_68, G6_line_69, G6_line_70, G6_line_71, G6_line_72, G6_line_73, G6_line_74, G6_line_75, G6_line_78, G6_line_79, G6_line_80, G6_line_83, G6_line_84, G6_line_87, G6_line_88, G6_line_89, G6_line_90, G6_line_91, G6_line_92, G6_line_93, G6_line_96, G6_line_97, G6_line_100, G6_line_101, G6_line_102, G6_line_103, G6_line_104, G6_line_105, G6_line_106, G6_line_107, G6_line_108, G6_line_109, G6_line_111, N6_line, ↓mm_kc_ap, ↓mm_cut, mm_en, mm_nth, mm_put, mm_sto, mm_stoL, mm_ag, mm_dr, mm_sw, Nat.reduceSub, List.replicate, Option.toList, List.cons_append, List.nil_append, sq_int, sq_lng, sq_iload, sq_lload, sq_aload, sq_istore, sq_lstore, sq_astore, sq_iinc, sq_iadd, sq_isub, sq_imul, sq_iand, sq_ior, sq_ixor, sq_ishl, sq_ishr, sq_iushr, sq_ladd, sq_lsub, sq_lmul, sq_idiv, sq_irem, sq_ldiv, sq_lrem, sq_i2l, sq_lcmp, sq_dupI, sq_dupR, sq_pop, sq_dup2, sq_goto, sq_if_eq, sq_icmp_eq, sq_if_ne, sq_icmp_ne, sq_if_lt, sq_icmp_lt, sq_if_ge, sq_icmp_ge, sq_if_gt, sq_icmp_gt, sq_if_le, sq_icmp_le, sq_iaload, sq_iastore, sq_alen, sq_places, sq_getI, sq_getR, sq_put, sq_ret, sq_lret, sq_vret, sq_switch, sq_callS, sq_callV, sq_copy, sq_max, sq_min, mm_len_2, mm_len_3, mm_len_4, mm_len_6, mm_len_8, mm_len_10, mm_len_11, mm_len_12, mm_len_13, mm_len_14, mm_len_15, mm_len_17, mm_len_18, mm_len_19, mm_len_20, mm_len_21, mm_len_22, mm_len_23, mm_len_24, mm_len_25]
        try simp only [eq_self, true_and, and_true, Bool.false_eq_true, false_implies, true_implies, true_or, or_true, mm_numI, mm_numL, mm_numN, pp_i10, pp_i01, pp_im1, not_false_eq_true, not_true_eq_false, false_or, or_false]
        rw [nI_clamp (show j < 2 ^ 31 by omega), a4 j (by omega), pp_bit (Nat.lt_trans (a6 j) (by decide)) (by omega), pp_bN, aa_or (a6 j) (by omega), aa_andn (a6 j) (by omega)]
        refine ⟨ij, fun hv => ⟨ij, ?_⟩, fun hv => ⟨ij, ?_⟩⟩
        · rw [decide_eq_false (fun z => z hv)] at fin ⊢
          refine mm_rn_ok [] _ (S6_line l d _ _) 1000 _ _ _ _ ?_
          simp only [G6_line_0, G6_line_1, G6_line_2, G6_line_5, G6_line_8, G6_line_9, G6_line_10, G6_line_13, G6_line_16, G6_line_18, G6_line_19, G6_line_20, G6_line_21, G6_line_24, G6_line_26, G6_line_27, G6_line_28, G6_line_31, G6_line_32, G6_line_33, G6_line_34, G6_line_35, G6_line_36, G6_line_37, G6_line_39, G6_line_40, G6_line_43, G6_line_44, G6_line_45, G6_line_48, G6_line_49, G6_line_52, G6_line_53, G6_line_54, G6_line_55, G6_line_56, G6_line_57, G6_line_58, G6_line_61, G6_line_62, G6_line_65, G6_line_66, G6_line_67, G6_line_68, G6_line_69, G6_line_70, G6_line_71, G6_line_72, G6_line_73, G6_line_74, G6_line_75, G6_line_78, G6_line_79, G6_line_80, G6_line_83, G6_line_84, G6_line_87, G6_line_88, G6_line_89, G6_line_90, G6_line_91, G6_line_92, G6_line_93, G6_line_96, G6_line_97, G6_line_100, G6_line_101, G6_line_102, G6_line_103, G6_line_104, G6_line_105, G6_line_106, G6_line_107, G6_line_108, G6_line_109, G6_line_111, N6_line, ↓mm_kc_ap, ↓mm_cut, mm_en, mm_nth, mm_put, mm_sto, mm_stoL, mm_ag, mm_dr, mm_sw, Nat.reduceSub, List.replicate, Option.toList, List.cons_append, List.nil_append, sq_int, sq_lng, sq_iload, sq_lload, sq_aload, sq_istore, sq_lstore, sq_astore, sq_iinc, sq_iadd, sq_isub, sq_imul, sq_iand, sq_ior, sq_ixor, sq_ishl, sq_ishr, sq_iushr, sq_ladd, sq_lsub, sq_lmul, sq_idiv, sq_irem, sq_ldiv, sq_lrem, sq_i2l, sq_lcmp, sq_dupI, sq_dupR, sq_pop, sq_dup2, sq_goto, sq_if_eq, sq_icmp_eq, sq_if_ne, sq_icmp_ne, sq_if_lt, sq_icmp_lt, sq_if_ge, sq_icmp_ge, sq_if_gt, sq_icmp_gt, sq_if_le, sq_icmp_le, sq_iaload, sq_iastore, sq_alen, sq_places, sq_getI, sq_getR, sq_put, sq_ret, sq_lret, sq_vret, sq_switch, sq_callS, sq_callV, sq_copy, sq_max, sq_min, mm_len_2, mm_len_3, mm_len_4, mm_len_6, mm_len_8, mm_len_10, mm_len_11, mm_len_12, mm_len_13, mm_len_14, mm_len_15, mm_len_17, mm_len_18, mm_len_19, mm_len_20, mm_len_21, mm_len_22, mm_len_23, mm_len_24, mm_len_25]
          try simp only [eq_self, true_and, and_true, Bool.false_eq_true, false_implies, true_implies, true_or, or_true, mm_numI, mm_numL, mm_numN, pp_i10, pp_i01, pp_im1, not_false_eq_true, not_true_eq_false, false_or, or_false]
          rw [nI_clamp (show j < 2 ^ 31 by omega), nI_clamp (show k < 2 ^ 31 by omega), mm_set_other (Ne.symm hjk), a4 k (by omega), aa_andn (a6 k) (by omega)]
          exact ⟨by decide, ij, fun _ => ⟨ik, by decide, ik, fin⟩, fun z => absurd hv z⟩
        · rw [decide_eq_true hv] at fin ⊢
          refine mm_rn_ok [] _ (S6_line l d _ _) 1000 _ _ _ _ ?_
          simp only [G6_line_0, G6_line_1, G6_line_2, G6_line_5, G6_line_8, G6_line_9, G6_line_10, G6_line_13, G6_line_16, G6_line_18, G6_line_19, G6_line_20, G6_line_21, G6_line_24, G6_line_26, G6_line_27, G6_line_28, G6_line_31, G6_line_32, G6_line_33, G6_line_34, G6_line_35, G6_line_36, G6_line_37, G6_line_39, G6_line_40, G6_line_43, G6_line_44, G6_line_45, G6_line_48, G6_line_49, G6_line_52, G6_line_53, G6_line_54, G6_line_55, G6_line_56, G6_line_57, G6_line_58, G6_line_61, G6_line_62, G6_line_65, G6_line_66, G6_line_67, G6_line_68, G6_line_69, G6_line_70, G6_line_71, G6_line_72, G6_line_73, G6_line_74, G6_line_75, G6_line_78, G6_line_79, G6_line_80, G6_line_83, G6_line_84, G6_line_87, G6_line_88, G6_line_89, G6_line_90, G6_line_91, G6_line_92, G6_line_93, G6_line_96, G6_line_97, G6_line_100, G6_line_101, G6_line_102, G6_line_103, G6_line_104, G6_line_105, G6_line_106, G6_line_107, G6_line_108, G6_line_109, G6_line_111, N6_line, ↓mm_kc_ap, ↓mm_cut, mm_en, mm_nth, mm_put, mm_sto, mm_stoL, mm_ag, mm_dr, mm_sw, Nat.reduceSub, List.replicate, Option.toList, List.cons_append, List.nil_append, sq_int, sq_lng, sq_iload, sq_lload, sq_aload, sq_istore, sq_lstore, sq_astore, sq_iinc, sq_iadd, sq_isub, sq_imul, sq_iand, sq_ior, sq_ixor, sq_ishl, sq_ishr, sq_iushr, sq_ladd, sq_lsub, sq_lmul, sq_idiv, sq_irem, sq_ldiv, sq_lrem, sq_i2l, sq_lcmp, sq_dupI, sq_dupR, sq_pop, sq_dup2, sq_goto, sq_if_eq, sq_icmp_eq, sq_if_ne, sq_icmp_ne, sq_if_lt, sq_icmp_lt, sq_if_ge, sq_icmp_ge, sq_if_gt, sq_icmp_gt, sq_if_le, sq_icmp_le, sq_iaload, sq_iastore, sq_alen, sq_places, sq_getI, sq_getR, sq_put, sq_ret, sq_lret, sq_vret, sq_switch, sq_callS, sq_callV, sq_copy, sq_max, sq_min, mm_len_2, mm_len_3, mm_len_4, mm_len_6, mm_len_8, mm_len_10, mm_len_11, mm_len_12, mm_len_13, mm_len_14, mm_len_15, mm_len_17, mm_len_18, mm_len_19, mm_len_20, mm_len_21, mm_len_22, mm_len_23, mm_len_24, mm_len_25]
          try simp only [eq_self, true_and, and_true, Bool.false_eq_true, false_implies, true_implies, true_or, or_true, mm_numI, mm_numL, mm_numN, pp_i10, pp_i01, pp_im1, not_false_eq_true, not_true_eq_false, false_or, or_false]
          rw [nI_clamp (show j < 2 ^ 31 by omega), nI_clamp (show k < 2 ^ 31 by omega), mm_set_other (Ne.symm hjk), a4 k (by omega), aa_or (a6 k) (by omega)]
          exact ⟨by decide, ij, fun z => absurd z hv, fun _ => ⟨ik, by decide, ik, fin⟩⟩
      · rw [if_pos e5]
        exact ⟨rfl, hM', fun _ _ => rfl⟩
    · rw [if_neg (fun z => h2 z.2)]
      exact ⟨rfl, hM', fun _ _ => rfl⟩
theorem w_line {s : ss_T} (hW : ss_W s) (a b v : Int32) : ss_W (sp_line a b v s).2 := by
  have hW' := hW
  obtain ⟨n, A, mq, pf, ds, sc, tr, lk⟩ := s
  obtain ⟨w1, w2, w3, w4, w5, w6, w7, w8, w9, w10, w11, w12⟩ := hW
  unfold sp_line
  dsimp only
  split
  · rename_i h1
    split
    · exact hW'
    · rename_i h2
      obtain ⟨e1, e2⟩ := pp_post w2 h1.1
      obtain ⟨e3, e4⟩ := pp_post w2 h1.2
      generalize hj : a.toNatClampNeg = j at e1 e2 ⊢
      generalize hk : b.toNatClampNeg = k at e3 e4 ⊢
      have hjk : j ≠ k := fun z => h2 (by rw [e1, e3, z])
      have tb := fun p q => aa_A_tb (A := A) (a := j) (b := k) (p := p) (q := q) (is := decide (¬ v = 0)) w6 (by omega) (by omega) hjk
      refine ⟨w1, w2, fun p q hq => ?_, fun p q => ?_, fun p => ?_, aa_A_lt w6, w7, w8, w9, w10, w11, w12⟩
      · rw [tb] at hq
        split at hq
        · rename_i hc
          rcases hc with hc | hc <;> omega
        · exact w3 p q hq
      · rw [tb, tb]
        by_cases hc : (p = j ∧ q = k) ∨ (p = k ∧ q = j)
        · rw [if_pos hc, if_pos (by omega)]
        · rw [if_neg hc, if_neg (by omega)]
          exact w4 p q
      · rw [tb, if_neg (by rintro (z | z) <;> omega)]
        exact w5 p
  · exact hW'
