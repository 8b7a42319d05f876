/-! ===== no rings ===== -/
theorem gg_r_add {n : Nat} {A : Nat → Nat} {a b c i : Nat} (h1 : gg_r n A a i b = true) : ∀ {j c : Nat}, gg_r n A b j c = true → gg_r n A a (i + j) c = true
  | 0, c, h => by
    have e : c = b := by simpa [gg_r] using h
    rw [e]
    exact h1
  | j + 1, c, h => by
    rcases gg_r_s.mp h with h2 | ⟨p, hp, h2, h3⟩
    · exact gg_r_mono (by omega) (gg_r_add (c := c) h1 h2)
    · exact gg_r_s.mpr (Or.inr ⟨p, hp, gg_r_add (c := c) h1 h2, h3⟩)
theorem gg_r_stay {n : Nat} {A : Nat → Nat} {a q : Nat} (hA : jj_ok n A) (ha : a < n) : ∀ k, gg_r n A a (n - 1 + k) q = gg_r n A a (n - 1) q
  | 0 => rfl
  | k + 1 => by
    rw [← Nat.add_assoc, gg_r_e, gg_r_stay hA ha k]
    have : gg_e n A a (n - 1 + k + 1) q = false := by
      apply Bool.eq_false_iff.mpr
      intro h
      have h1 := gg_many hA ha h
      have h2 := pp_cnt_le (gg_r n A a (n - 1 + k + 1)) n
      omega
    rw [this, Bool.or_false]
theorem gg_r_trans {n : Nat} {A : Nat → Nat} {a b c : Nat} (hA : jj_ok n A) (ha : a < n) (h1 : gg_r n A a (n - 1) b = true) (h2 : gg_r n A b (n - 1) c = true) : gg_r n A a (n - 1) c = true := by
  rw [← gg_r_stay hA ha (n - 1)]
  exact gg_r_add (c := c) h1 h2
def gg_ls (n : Nat) (A : Nat → Nat) (q p : Nat) : Bool := gg_least n A p && gg_r n A q (n - 1) p
theorem gg_ls_first {n : Nat} {A : Nat → Nat} {q : Nat} (hA : jj_ok n A) (hS : gg_sym A) (hq : q < n) : 0 < pp_cnt (gg_ls n A q) n ∧ pp_the (gg_ls n A q) n = gg_first n A q := by
  obtain ⟨f1, f2, f3⟩ := gg_first_ok n A q
  have hf : gg_ls n A q (gg_first n A q) = true := by
    unfold gg_ls
    rw [f2, Bool.and_true]
    unfold gg_least
    rw [pp_all_iff]
    intro j hj
    cases hr : gg_r n A (gg_first n A q) (n - 1) j with
    | false => rfl
    | true =>
      have := gg_r_trans hA hq f2 hr
      rw [f3 j hj] at this
      cases this
  have hc : 0 < pp_cnt (gg_ls n A q) n := jj_cntpos.mpr (pp_any_iff.mpr ⟨_, by omega, hf⟩)
  refine ⟨hc, ?_⟩
  obtain ⟨t1, t2⟩ := pp_the_ok hc
  unfold gg_ls at t1
  rw [Bool.and_eq_true] at t1
  rcases Nat.lt_trichotomy (pp_the (gg_ls n A q) n) (gg_first n A q) with h | h | h
  · have := f3 _ h
    unfold gg_ls at this
    rw [t1.2] at this
    cases this
  · exact h
  · have h4 := pp_all_iff.mp t1.1 _ h
    have h5 : gg_r n A (pp_the (gg_ls n A q) n) (n - 1) (gg_first n A q) = true := gg_r_trans hA t2 (by rw [gg_r_sym hA hS t2 hq]; exact t1.2) f2
    unfold gg_ls at h4 h5
    rw [h5] at h4
    cases h4
def gg_rn (n : Nat) (A : Nat → Nat) (p q : Nat) : Int32 := if pp_cnt (gg_ls n A q) p = 0 then 0 else gg_o (gg_d n A (pp_the (gg_ls n A q) p) (n - 1) q)
theorem gg_rn_end {n : Nat} {A : Nat → Nat} {q : Nat} (hA : jj_ok n A) (hS : gg_sym A) (hq : q < n) : gg_rn n A n q = gg_o (gg_d n A q (n - 1) (gg_first n A q)) := by
  obtain ⟨h1, h2⟩ := gg_ls_first hA hS hq
  have := (gg_first_ok n A q).1
  unfold gg_rn
  rw [if_neg (by omega), h2, gg_d_sym hA hS (by omega) hq]
def gg_tree (n : Nat) (A : Nat → Nat) : Bool := decide (gg_lines A n = n - gg_sets n A)
def gg_frp (n : Nat) (A : Nat → Nat) (h : mm_H) : mm_Po := fun r h' => r = some (.int (pp_b (gg_tree n A))) ∧ ∃ g4 g8, h' = mm_setA (mm_setA h 4 g4) 8 g8 ∧ ∀ q, q < n → g8 q = gg_o (gg_d n A q (n - 1) (gg_first n A q))
set_option maxHeartbeats 4000000 in
set_option maxRecDepth 20000 in
theorem t_findsNoRings_loop {l : Launch} {d : Nat} (hd : 1 < d) {E : mm_X} {h : mm_H} {n : Nat} {A mk : Nat → Nat} (hN : cc_N h n A mk) (hok : jj_ok n A) (hS : gg_sym A) (hI : ∀ p, (A p).testBit p = false) : ∀ (k p : Nat), p + k = n → ∀ (g4 g8 : Nat → Int32) (x3 : Option Value), (∀ q, q < n → g8 q = gg_rn n A p q) → mm_At l d M3_findsNoRings E (gg_frp n A h) 4 [some (.ref 7), some (.int (nI (pp_cnt (gg_least n A) p))), some (.int (nI p)), x3] [] (mm_setA (mm_setA h 4 g4) 8 g8) := by
  have hN' := hN
  obtain ⟨n1, n8, hn, hA, hm, hA8, hm4⟩ := hN
  intro k
  induction k with
  | zero =>
    intro p hp g4 g8 x3 hg
    have e : p = n := by omega
    subst e
    refine mm_rn_ok [] _ (S3_findsNoRings l d _ _) 1000 _ _ _ _ ?_
    simp only [G3_findsNoRings_0, G3_findsNoRings_1, G3_findsNoRings_2, G3_findsNoRings_3, G3_findsNoRings_4, G3_findsNoRings_5, G3_findsNoRings_6, G3_findsNoRings_9, G3_findsNoRings_12, G3_findsNoRings_15, G3_findsNoRings_16, G3_findsNoRings_19, G3_findsNoRings_20, G3_findsNoRings_23, G3_findsNoRings_24, G3_findsNoRings_25, G3_findsNoRings_26, G3_findsNoRings_29, G3_findsNoRings_32, G3_findsNoRings_35, G3_findsNoRings_36, G3_findsNoRings_37, G3_findsNoRings_38, G3_findsNoRings_41, G3_findsNoRings_44, G3_findsNoRings_47, G3_findsNoRings_48, G3_findsNoRings_51, G3_findsNoRings_54, G3_findsNoRings_55, G3_findsNoRings_58, G3_findsNoRings_61, G3_findsNoRings_62, G3_findsNoRings_63, G3_findsNoRings_66, G3_findsNoRings_67, G3_findsNoRings_70, G3_findsNoRings_71, N3_findsNoRings, ↓mm_kc_ap, ↓mm_cut, mm_en, mm_nth, mm_put, mm_sto, mm_stoL, mm_ag, mm_dr, mm_sw, Nat.reduceSub, List.replicate, Option.toList, List.cons_append, List.nil_append, sq_int, sq_lng, sq_iload, sq_lload, sq_aload, sq_istore, sq_lstore, sq_astore, sq_iinc, sq_iadd, sq_isub, sq_imul, sq_iand, sq_ior, sq_ixor, sq_ishl, sq_ishr, sq_iushr, sq_ladd, sq_lsub, sq_lmul, sq_idiv, sq_irem, sq_ldiv, sq_lrem, sq_i2l, sq_lcmp, sq_dupI, sq_dupR, sq_pop, sq_dup2, sq_goto, sq_if_eq, sq_icmp_eq, sq_if_ne, sq_icmp_ne, sq_if_lt, sq_icmp_lt, sq_if_ge, sq_icmp_ge, sq_if_gt, sq_icmp_gt, sq_if_le, sq_icmp_le, sq_iaload, sq_iastore, sq_alen, sq_places, sq_getI, sq_getR, sq_put, sq_ret, sq_lret, sq_vret, sq_switch, sq_callS, sq_callV, sq_copy, sq_max, sq_min, mm_len_2, mm_len_3, mm_len_4, mm_len_6, mm_len_8, mm_len_10, mm_len_11, mm_len_12, mm_len_13, mm_len_14, mm_len_15, mm_len_17, mm_len_18, mm_len_19, mm_len_20, mm_len_21, mm_len_22, mm_len_23, mm_len_24, mm_len_25]
    try simp only [eq_self, true_and, and_true, Bool.false_eq_true, false_implies, true_implies, true_or, or_true, mm_numI, mm_numL, mm_numN, pp_i10, pp_i01, pp_im1, not_false_eq_true, not_true_eq_false, false_or, or_false]
    rw [mm_setA_ne (by decide), mm_setA_ne (by decide), hn]
    refine ⟨fun _ => ⟨1, _, hd, t_lineCount0 (by decide) ((hN'.sA (by decide) g4).sA (by decide) g8), rfl, ?_⟩, fun hc => absurd (nI_le (Nat.le_refl _) (by omega)) hc⟩
    rintro _ _ ⟨rfl, rfl⟩
    simp only [G3_findsNoRings_0, G3_findsNoRings_1, G3_findsNoRings_2, G3_findsNoRings_3, G3_findsNoRings_4, G3_findsNoRings_5, G3_findsNoRings_6, G3_findsNoRings_9, G3_findsNoRings_12, G3_findsNoRings_15, G3_findsNoRings_16, G3_findsNoRings_19, G3_findsNoRings_20, G3_findsNoRings_23, G3_findsNoRings_24, G3_findsNoRings_25, G3_findsNoRings_26, G3_findsNoRings_29, G3_findsNoRings_32, G3_findsNoRings_35, G3_findsNoRings_36, G3_findsNoRings_37, G3_findsNoRings_38, G3_findsNoRings_41, G3_findsNoRings_44, G3_findsNoRings_47, G3_findsNoRings_48, G3_findsNoRings_51, G3_findsNoRings_54, G3_findsNoRings_55, G3_findsNoRings_58, G3_findsNoRings_61, G3_findsNoRings_62, G3_findsNoRings_63, G3_findsNoRings_66, G3_findsNoRings_67, G3_findsNoRings_70, G3_findsNoRings_71, N3_findsNoRings, ↓mm_kc_ap, ↓mm_cut, mm_en, mm_nth, mm_put, mm_sto, mm_stoL, mm_ag, mm_dr, mm_sw, Nat.reduceSub, List.replicate, Option.toList, List.cons_append, List.nil_append, sq_int, sq_lng, sq_iload, sq_lload, sq_aload, sq_istore, sq_lstore, sq_astore, sq_iinc, sq_iadd, sq_isub, sq_imul, sq_iand, sq_ior, sq_ixor, sq_ishl, sq_ishr, sq_iushr, sq_ladd, sq_lsub, sq_lmul, sq_idiv, sq_irem, sq_ldiv, sq_lrem, sq_i2l, sq_lcmp, sq_dupI, sq_dupR, sq_pop, sq_dup2, sq_goto, sq_if_eq, sq_icmp_eq, sq_if_ne, sq_icmp_ne, sq_if_lt, sq_icmp_lt, sq_if_ge, sq_icmp_ge, sq_if_gt, sq_icmp_gt, sq_if_le, sq_icmp_le, sq_iaload, sq_iastore, sq_alen, sq_places, sq_getI, sq_getR, sq_put, sq_ret, sq_lret, sq_vret, sq_switch, sq_callS, sq_callV, sq_copy, sq_max, sq_min, mm_len_2, mm_len_3, mm_len_4, mm_len_6, mm_len_8, mm_len_10, mm_len_11, mm_len_12, mm_len_13, mm_len_14, mm_len_15, mm_len_17, mm_len_18, mm_len_19, mm_len_20, mm_len_21, mm_len_22, mm_len_23, mm_len_24, mm_len_25]
    try simp only [eq_self, true_and, and_true, Bool.false_eq_true, false_implies, true_implies, true_or, or_true, mm_numI, mm_numL, mm_numN, pp_i10, pp_i01, pp_im1, not_false_eq_true, not_true_eq_false, false_or, or_false]
    have hs : pp_cnt (gg_least p A) p ≤ p := pp_cnt_le _ _
    have hl := gg_lines_le A p
    have hl2 : p * p ≤ 8 * 8 := Nat.mul_le_mul n8 n8
    rw [mm_setA_ne (by decide), mm_setA_ne (by decide), hn, gg_ends_lines n8 hok hS hI, pk_sub hs, pp_eqN (by omega) (by omega)]
    have hend : ∀ q, q < p → g8 q = gg_o (gg_d p A q (p - 1) (gg_first p A q)) := fun q hq => by rw [hg q hq, gg_rn_end hok hS hq]
    refine ⟨fun hc => ⟨pp_b0 ?_, g4, g8, rfl, hend⟩, fun hc => ⟨pp_b1 ?_, g4, g8, rfl, hend⟩⟩
    · exact decide_eq_false hc
    · exact decide_eq_true hc
  | succ k ih =>
    intro p hp g4 g8 x3 hg
    refine mm_rn_ok [] _ (S3_findsNoRings l d _ _) 1000 _ _ _ _ ?_
    simp only [G3_findsNoRings_0, G3_findsNoRings_1, G3_findsNoRings_2, G3_findsNoRings_3, G3_findsNoRings_4, G3_findsNoRings_5, G3_findsNoRings_6, G3_findsNoRings_9, G3_findsNoRings_12, G3_findsNoRings_15, G3_findsNoRings_16, G3_findsNoRings_19, G3_findsNoRings_20, G3_findsNoRings_23, G3_findsNoRings_24, G3_findsNoRings_25, G3_findsNoRings_26, G3_findsNoRings_29, G3_findsNoRings_32, G3_findsNoRings_35, G3_findsNoRings_36, G3_findsNoRings_37, G3_findsNoRings_38, G3_findsNoRings_41, G3_findsNoRings_44, G3_findsNoRings_47, G3_findsNoRings_48, G3_findsNoRings_51, G3_findsNoRings_54, G3_findsNoRings_55, G3_findsNoRings_58, G3_findsNoRings_61, G3_findsNoRings_62, G3_findsNoRings_63, G3_findsNoRings_66, G3_findsNoRings_67, G3_findsNoRings_70, G3_findsNoRings_71, N3_findsNoRings, ↓mm_kc_ap, ↓mm_cut, mm_en, mm_nth, mm_put, mm_sto, mm_stoL, mm_ag, mm_dr, mm_sw, Nat.reduceSub, List.replicate, Option.toList, List.cons_append, List.nil_append, sq_int, sq_lng, sq_iload, sq_lload, sq_aload, sq_istore, sq_lstore, sq_astore, sq_iinc, sq_iadd, sq_isub, sq_imul, sq_iand, sq_ior, sq_ixor, sq_ishl, sq_ishr, sq_iushr, sq_ladd, sq_lsub, sq_lmul, sq_idiv, sq_irem, sq_ldiv, sq_lrem, sq_i2l, sq_lcmp, sq_dupI, sq_dupR, sq_pop, sq_dup2, sq_goto, sq_if_eq, sq_icmp_eq, sq_if_ne, sq_icmp_ne, sq_if_lt, sq_icmp_lt, sq_if_ge, sq_icmp_ge, sq_if_gt, sq_icmp_gt, sq_if_le, sq_icmp_le, sq_iaload, sq_iastore, sq_alen, sq_places, sq_getI, sq_getR, sq_put, sq_ret, sq_lret, sq_vret, sq_switch, sq_callS, sq_callV, sq_copy, sq_max, sq_min, mm_len_2, mm_len_3, mm_len_4, mm_len_6, mm_len_8, mm_len_10, mm_len_11, mm_len_12, mm_len_13, mm_len_14, mm_len_15, mm_len_17, mm_len_18, mm_len_19, mm_len_20, mm_len_21, mm_len_22, mm_len_23, mm_len_24, mm_len_25]
    try simp only [eq_self, true_and, and_true, Bool.false_eq_true, false_implies, true_implies, true_or, or_true, mm_numI, mm_numL, mm_numN, pp_i10, pp_i01, pp_im1, not_false_eq_true, not_true_eq_false, false_or, or_false]
    rw [mm_setA_ne (by decide), mm_setA_ne (by decide), hn]
    refine ⟨fun hc => absurd hc (nI_ge (by omega) (by omega)), fun _ => ⟨1, _, hd, t_measure (by decide) ((hN'.sA (by decide) g4).sA (by decide) g8) hok (show p < n by omega), rfl, ?_⟩⟩
    rintro _ _ ⟨rfl, g, rfl, hgd⟩
    rw [mm_setA_comm (show (8 : Nat) ≠ 4 by decide), mm_setA_setA]
    simp only [G3_findsNoRings_0, G3_findsNoRings_1, G3_findsNoRings_2, G3_findsNoRings_3, G3_findsNoRings_4, G3_findsNoRings_5, G3_findsNoRings_6, G3_findsNoRings_9, G3_findsNoRings_12, G3_findsNoRings_15, G3_findsNoRings_16, G3_findsNoRings_19, G3_findsNoRings_20, G3_findsNoRings_23, G3_findsNoRings_24, G3_findsNoRings_25, G3_findsNoRings_26, G3_findsNoRings_29, G3_findsNoRings_32, G3_findsNoRings_35, G3_findsNoRings_36, G3_findsNoRings_37, G3_findsNoRings_38, G3_findsNoRings_41, G3_findsNoRings_44, G3_findsNoRings_47, G3_findsNoRings_48, G3_findsNoRings_51, G3_findsNoRings_54, G3_findsNoRings_55, G3_findsNoRings_58, G3_findsNoRings_61, G3_findsNoRings_62, G3_findsNoRings_63, G3_findsNoRings_66, G3_findsNoRings_67, G3_findsNoRings_70, G3_findsNoRings_71, N3_findsNoRings, ↓mm_kc_ap, ↓mm_cut, mm_en, mm_nth, mm_put, mm_sto, mm_stoL, mm_ag, mm_dr, mm_sw, Nat.reduceSub, List.replicate, Option.toList, List.cons_append, List.nil_append, sq_int, sq_lng, sq_iload, sq_lload, sq_aload, sq_istore, sq_lstore, sq_astore, sq_iinc, sq_iadd, sq_isub, sq_imul, sq_iand, sq_ior, sq_ixor, sq_ishl, sq_ishr, sq_iushr, sq_ladd, sq_lsub, sq_lmul, sq_idiv, sq_irem, sq_ldiv, sq_lrem, sq_i2l, sq_lcmp, sq_dupI, sq_dupR, sq_pop, sq_dup2, sq_goto, sq_if_eq, sq_icmp_eq, sq_if_ne, sq_icmp_ne, sq_if_lt, sq_icmp_lt, sq_if_ge, sq_icmp_ge, sq_if_gt, sq_icmp_gt, sq_if_le, sq_icmp_le, sq_iaload, sq_iastore, sq_alen, sq_places, sq_getI, sq_getR, sq_put, sq_ret, sq_lret, sq_vret, sq_switch, sq_callS, sq_callV, sq_copy, sq_max, sq_min, mm_len_2, mm_len_3, mm_len_4, mm_len_6, mm_len_8, mm_len_10, mm_len_11, mm_len_12, mm_len_13, mm_len_14, mm_len_15, mm_len_17, mm_len_18, mm_len_19, mm_len_20, mm_len_21, mm_len_22, mm_len_23, mm_len_24, mm_len_25]
    try simp only [eq_self, true_and, and_true, Bool.false_eq_true, false_implies, true_implies, true_or, or_true, mm_numI, mm_numL, mm_numN, pp_i10, pp_i01, pp_im1, not_false_eq_true, not_true_eq_false, false_or, or_false]
    refine ⟨0, _, by omega, t_isLeast (show p < 8 by omega) (pp_msk_8 n8), rfl, rfl, ?_⟩
    rintro _ _ ⟨rfl, rfl⟩
    simp only [G3_findsNoRings_0, G3_findsNoRings_1, G3_findsNoRings_2, G3_findsNoRings_3, G3_findsNoRings_4, G3_findsNoRings_5, G3_findsNoRings_6, G3_findsNoRings_9, G3_findsNoRings_12, G3_findsNoRings_15, G3_findsNoRings_16, G3_findsNoRings_19, G3_findsNoRings_20, G3_findsNoRings_23, G3_findsNoRings_24, G3_findsNoRings_25, G3_findsNoRings_26, G3_findsNoRings_29, G3_findsNoRings_32, G3_findsNoRings_35, G3_findsNoRings_36, G3_findsNoRings_37, G3_findsNoRings_38, G3_findsNoRings_41, G3_findsNoRings_44, G3_findsNoRings_47, G3_findsNoRings_48, G3_findsNoRings_51, G3_findsNoRings_54, G3_findsNoRings_55, G3_findsNoRings_58, G3_findsNoRings_61, G3_findsNoRings_62, G3_findsNoRings_63, G3_findsNoRings_66, G3_findsNoRings_67, G3_findsNoRings_70, G3_findsNoRings_71, N3_findsNoRings, ↓mm_kc_ap, ↓mm_cut, mm_en, mm_nth, mm_put, mm_sto, mm_stoL, mm_ag, mm_dr, mm_sw, Nat.reduceSub, List.replicate, Option.toList, List.cons_append, List.nil_append, sq_int, sq_lng, sq_iload, sq_lload, sq_aload, sq_istore, sq_lstore, sq_astore, sq_iinc, sq_iadd, sq_isub, sq_imul, sq_iand, sq_ior, sq_ixor, sq_ishl, sq_ishr, sq_iushr, sq_ladd, sq_lsub, sq_lmul, sq_idiv, sq_irem, sq_ldiv, sq_lrem, sq_i2l, sq_lcmp, sq_dupI, sq_dupR, sq_pop, sq_dup2, sq_goto, sq_if_eq, sq_icmp_eq, sq_if_ne, sq_icmp_ne, sq_if_lt, sq_icmp_lt, sq_if_ge, sq_icmp_ge, sq_if_gt, sq_icmp_gt, sq_if_le, sq_icmp_le, sq_iaload, sq_iastore, sq_alen, sq_places, sq_getI, sq_getR, sq_put, sq_ret, sq_lret, sq_vret, sq_switch, sq_callS, sq_callV, sq_copy, sq_max, sq_min, mm_len_2, mm_len_3, mm_len_4, mm_len_6, mm_len_8, mm_len_10, mm_len_11, mm_len_12, mm_len_13, mm_len_14, mm_len_15, mm_len_17, mm_len_18, mm_len_19, mm_len_20, mm_len_21, mm_len_22, mm_len_23, mm_len_24, mm_len_25]
    try simp only [eq_self, true_and, and_true, Bool.false_eq_true, false_implies, true_implies, true_or, or_true, mm_numI, mm_numL, mm_numN, pp_i10, pp_i01, pp_im1, not_false_eq_true, not_true_eq_false, false_or, or_false]
    have e : pp_all (fun q => !((pp_msk (gg_r n A p (n - 1)) n).testBit q)) p = gg_least n A p := pp_all_eq (fun j hj => by
      rw [pp_msk_bit]
      simp [show j < n by omega])
    rw [e, pp_bne, pp_beq, nI_1, nI_1]
    refine ⟨fun hb => ?_, fun hb => ⟨0, _, by omega, t_numberFrom ((hN'.sA (by decide) g).sA (by decide) g8) (pp_msk_8 n8) _, rfl, ?_⟩⟩
    · have ih := ih (p + 1) (by omega) g g8 (some (.int (nI (pp_msk (gg_r n A p (n - 1)) n)))) (fun q hq => ?_)
      · rw [pp_cnt_f hb] at ih
        exact ih
      · rw [hg q hq]
        have e2 : gg_ls n A q p = false := by
          unfold gg_ls
          rw [hb, Bool.false_and]
        have et : pp_the (gg_ls n A q) (p + 1) = pp_the (gg_ls n A q) p := by
          show (if gg_ls n A q p = true then p else pp_the (gg_ls n A q) p) = _
          rw [if_neg (by rw [e2]; exact Bool.false_ne_true)]
        unfold gg_rn
        rw [pp_cnt_f e2, et]
    · rintro _ _ ⟨rfl, rfl⟩
      rw [mm_setA_setA]
      simp only [G3_findsNoRings_0, G3_findsNoRings_1, G3_findsNoRings_2, G3_findsNoRings_3, G3_findsNoRings_4, G3_findsNoRings_5, G3_findsNoRings_6, G3_findsNoRings_9, G3_findsNoRings_12, G3_findsNoRings_15, G3_findsNoRings_16, G3_findsNoRings_19, G3_findsNoRings_20, G3_findsNoRings_23, G3_findsNoRings_24, G3_findsNoRings_25, G3_findsNoRings_26, G3_findsNoRings_29, G3_findsNoRings_32, G3_findsNoRings_35, G3_findsNoRings_36, G3_findsNoRings_37, G3_findsNoRings_38, G3_findsNoRings_41, G3_findsNoRings_44, G3_findsNoRings_47, G3_findsNoRings_48, G3_findsNoRings_51, G3_findsNoRings_54, G3_findsNoRings_55, G3_findsNoRings_58, G3_findsNoRings_61, G3_findsNoRings_62, G3_findsNoRings_63, G3_findsNoRings_66, G3_findsNoRings_67, G3_findsNoRings_70, G3_findsNoRings_71, N3_findsNoRings, ↓mm_kc_ap, ↓mm_cut, mm_en, mm_nth, mm_put, mm_sto, mm_stoL, mm_ag, mm_dr, mm_sw, Nat.reduceSub, List.replicate, Option.toList, List.cons_append, List.nil_append, sq_int, sq_lng, sq_iload, sq_lload, sq_aload, sq_istore, sq_lstore, sq_astore, sq_iinc, sq_iadd, sq_isub, sq_imul, sq_iand, sq_ior, sq_ixor, sq_ishl, sq_ishr, sq_iushr, sq_ladd, sq_lsub, sq_lmul, sq_idiv, sq_irem, sq_ldiv, sq_lrem, sq_i2l, sq_lcmp, sq_dupI, sq_dupR, sq_pop, sq_dup2, sq_goto, sq_if_eq, sq_icmp_eq, sq_if_ne, sq_icmp_ne, sq_if_lt, sq_icmp_lt, sq_if_ge, sq_icmp_ge, sq_if_gt, sq_icmp_gt, sq_if_le, sq_icmp_le, sq_iaload, sq_iastore, sq_alen, sq_places, sq_getI, sq_getR, sq_put, sq_ret, sq_lret, sq_vret, sq_switch, sq_callS, sq_callV, sq_copy, sq_max, sq_min, mm_len_2, mm_len_3, mm_len_4, mm_len_6, mm_len_8, mm_len_10, mm_len_11, mm_len_12, mm_len_13, mm_len_14, mm_len_15, mm_len_17, mm_len_18, mm_len_19, mm_len_20, mm_len_21, mm_len_22, mm_len_23, mm_len_24, mm_len_25]
      try simp only [eq_self, true_and, and_true, Bool.false_eq_true, false_implies, true_implies, true_or, or_true, mm_numI, mm_numL, mm_numN, pp_i10, pp_i01, pp_im1, not_false_eq_true, not_true_eq_false, false_or, or_false]
      rw [mm_setA_same, mm_setA_ne (show (4 : Nat) ≠ 8 by decide), mm_setA_same]
      have ih := ih (p + 1) (by omega) g (gg_nf g8 g (pp_msk (gg_r n A p (n - 1)) n) 0 n) (some (.int (nI (pp_msk (gg_r n A p (n - 1)) n)))) (fun q hq => ?_)
      · rw [pp_cnt_t hb] at ih
        exact ih
      · unfold gg_nf
        rw [pp_msk_bit]
        have sy : gg_r n A p (n - 1) q = gg_r n A q (n - 1) p := gg_r_sym hok hS (by omega) hq
        cases hr : gg_r n A p (n - 1) q with
        | true =>
          have e2 : gg_ls n A q p = true := by
            unfold gg_ls
            rw [← sy, hr, hb]
            rfl
          have et : pp_the (gg_ls n A q) (p + 1) = p := by
            show (if gg_ls n A q p = true then p else pp_the (gg_ls n A q) p) = _
            rw [if_pos e2]
          rw [if_pos ⟨hq, by rw [decide_eq_true hq]; rfl⟩, hgd q hq, Int32.zero_add]
          unfold gg_rn
          rw [pp_cnt_t e2, if_neg (by omega), et]
        | false =>
          have e2 : gg_ls n A q p = false := by
            unfold gg_ls
            rw [← sy, hr, Bool.and_false]
          have et : pp_the (gg_ls n A q) (p + 1) = pp_the (gg_ls n A q) p := by
            show (if gg_ls n A q p = true then p else pp_the (gg_ls n A q) p) = _
            rw [if_neg (by rw [e2]; exact Bool.false_ne_true)]
          rw [if_neg (fun z => by rw [Bool.and_false] at z; exact absurd z.2 Bool.false_ne_true), hg q hq]
          unfold gg_rn
          rw [pp_cnt_f e2, et]
set_option maxRecDepth 20000 in
theorem t_findsNoRings {l : Launch} {d : Nat} (hd : 1 < d) {h : mm_H} {n : Nat} {A mk : Nat → Nat} (hN : cc_N h n A mk) (hok : jj_ok n A) (hS : gg_sym A) (hI : ∀ p, (A p).testBit p = false) (h8 : ∀ q, q < 8 → h 8 q = 0) : mm_Ev l d M3_findsNoRings [.ref 7] h (gg_frp n A h) := by
  have n8 := hN.2.1
  refine mm_Ev.of (by decide +kernel) (Nat.le_of_ble_eq_true rfl) (mm_rn_ok [4] _ (S3_findsNoRings l d _ _) 1000 _ _ _ _ ?_)
  simp only [G3_findsNoRings_0, G3_findsNoRings_1, G3_findsNoRings_2, G3_findsNoRings_3, G3_findsNoRings_4, G3_findsNoRings_5, G3_findsNoRings_6, G3_findsNoRings_9, G3_findsNoRings_12, G3_findsNoRings_15, G3_findsNoRings_16, G3_findsNoRings_19, G3_findsNoRings_20, G3_findsNoRings_23, G3_findsNoRings_24, G3_findsNoRings_25, G3_findsNoRings_26, G3_findsNoRings_29, G3_findsNoRings_32, G3_findsNoRings_35, G3_findsNoRings_36, G3_findsNoRings_37, G3_findsNoRings_38, G3_findsNoRings_41, G3_findsNoRings_44, G3_findsNoRings_47, G3_findsNoRings_48, G3_findsNoRings_51, G3_findsNoRings_54, G3_findsNoRings_55, G3_findsNoRings_58, G3_findsNoRings_61, G3_findsNoRings_62, G3_findsNoRings_63, G3_findsNoRings_66, G3_findsNoRings_67, G3_findsNoRings_70, G3_findsNoRings_71, N3_findsNoRings, ↓mm_kc_ap, ↓mm_cut, mm_en, mm_nth, mm_put, mm_sto, mm_stoL, mm_ag, mm_dr, mm_sw, Nat.reduceSub, List.replicate, Option.toList, List.cons_append, List.nil_append, sq_int, sq_lng, sq_iload, sq_lload, sq_aload, sq_istore, sq_lstore, sq_astore, sq_iinc, sq_iadd, sq_isub, sq_imul, sq_iand, sq_ior, sq_ixor, sq_ishl, sq_ishr, sq_iushr, sq_ladd, sq_lsub, sq_lmul, sq_idiv, sq_irem, sq_ldiv, sq_lrem, sq_i2l, sq_lcmp, sq_dupI, sq_dupR, sq_pop, sq_dup2, sq_goto, sq_if_eq, sq_icmp_eq, sq_if_ne, sq_icmp_ne, sq_if_lt, sq_icmp_lt, sq_if_ge, sq_icmp_ge, sq_if_gt, sq_icmp_gt, sq_if_le, sq_icmp_le, sq_iaload, sq_iastore, sq_alen, sq_places, sq_getI, sq_getR, sq_put, sq_ret, sq_lret, sq_vret, sq_switch, sq_callS, sq_callV, sq_copy, sq_max, sq_min, mm_len_2, mm_len_3, mm_len_4, mm_len_6, mm_len_8, mm_len_10, mm_len_11, mm_len_12, mm_len_13, mm_len_14, mm_len_15, mm_len_17, mm_len_18, mm_len_19, mm_len_20, mm_len_21, mm_len_22, mm_len_23, mm_len_24, mm_len_25]
  try simp only [eq_self, true_and, and_true, Bool.false_eq_true, false_implies, true_implies, true_or, or_true, mm_numI, mm_numL, mm_numN, pp_i10, pp_i01, pp_im1, not_false_eq_true, not_true_eq_false, false_or, or_false]
  have lp := t_findsNoRings_loop (l := l) (E := fun _ _ _ => True) hd hN hok hS hI n 0 (by omega) (h 4) (h 8) none (fun q hq => by rw [h8 q (by omega)]; rfl)
  rw [mm_setA_id, mm_setA_id] at lp
  exact lp
