/-! ===== the reference: the least of a set, its leader ===== -/
/-- the least j up to k with P, if P k -/
def pp_fst (P : Nat → Bool) : Nat → Nat
  | 0 => 0
  | k + 1 => if pp_any P (k + 1) = true then pp_fst P k else k + 1
theorem pp_fst_ok {P : Nat → Bool} : ∀ {k : Nat}, (∃ j, j ≤ k ∧ P j = true) → pp_fst P k ≤ k ∧ P (pp_fst P k) = true ∧ ∀ j, j < pp_fst P k → P j = false
  | 0, ⟨j, hj, hP⟩ => by
    have e : j = 0 := by omega
    subst e
    exact ⟨Nat.le_refl _, hP, fun i hi => absurd hi (Nat.not_lt_zero i)⟩
  | k + 1, ⟨j, hj, hP⟩ => by
    unfold pp_fst
    by_cases ha : pp_any P (k + 1) = true
    · rw [if_pos ha]
      obtain ⟨i, hi, hPi⟩ := pp_any_iff.mp ha
      obtain ⟨h1, h2, h3⟩ := pp_fst_ok (k := k) ⟨i, by omega, hPi⟩
      exact ⟨by omega, h2, h3⟩
    · rw [if_neg ha]
      have none : ∀ i, i < k + 1 → P i = false := fun i hi => by
        cases hPi : P i with
        | false => rfl
        | true => exact absurd (pp_any_iff.mpr ⟨i, hi, hPi⟩) ha
      have e : j = k + 1 := by
        apply Classical.byContradiction
        intro hne
        rw [none j (by omega)] at hP
        cases hP
      subst e
      exact ⟨Nat.le_refl _, hP, none⟩
def gg_first (n : Nat) (A : Nat → Nat) (p : Nat) : Nat := pp_fst (gg_r n A p (n - 1)) p
theorem gg_r_self {n : Nat} {A : Nat → Nat} {p k : Nat} : gg_r n A p k p = true := gg_r_mono (Nat.zero_le k) (by simp [gg_r])
theorem gg_first_ok (n : Nat) (A : Nat → Nat) (p : Nat) : gg_first n A p ≤ p ∧ gg_r n A p (n - 1) (gg_first n A p) = true ∧ ∀ j, j < gg_first n A p → gg_r n A p (n - 1) j = false := pp_fst_ok ⟨p, Nat.le_refl _, gg_r_self⟩
theorem gg_first_least {n : Nat} {A : Nat → Nat} {p : Nat} : gg_first n A p = p ↔ gg_least n A p = true := by
  obtain ⟨h1, h2, h3⟩ := gg_first_ok n A p
  unfold gg_least
  rw [pp_all_iff]
  constructor
  · intro e j hj
    rw [e] at h3
    rw [h3 j hj]
    rfl
  · intro h
    apply Classical.byContradiction
    intro hne
    have := h _ (show gg_first n A p < p by omega)
    rw [h2] at this
    cases this
theorem gg_o_m1 {n : Nat} {A : Nat → Nat} {p k q : Nat} (hk : k < 2 ^ 20) : gg_o (gg_d n A p k q) = -1 ↔ gg_r n A p k q = false := by
  cases hd : gg_d n A p k q with
  | none => exact ⟨fun _ => gg_d_iff.1.mp hd, fun _ => rfl⟩
  | some j =>
    have hj := gg_d_iff.2 j hd
    constructor
    · intro h
      exact absurd h.symm (pp_m1 (by omega))
    · intro h
      rw [gg_r_mono hj.1 hj.2.1] at h
      cases h
def gg_fp (n : Nat) (A : Nat → Nat) (p : Nat) (h : mm_H) : mm_Po := fun r h' => r = some (.int (nI (gg_first n A p))) ∧ ∃ g, h' = mm_setA h 21 g ∧ ∀ q, q < n → g q = gg_o (gg_d n A p (n - 1) q)
set_option maxRecDepth 20000 in
theorem t_firstOf_loop {l : Launch} {d : Nat} {E : mm_X} {h : mm_H} {n : Nat} {A : Nat → Nat} {p : Nat} (n8 : n ≤ 8) (hp : p < n) {g : Nat → Int32} (hg : ∀ q, q < n → g q = gg_o (gg_d n A p (n - 1) q)) : ∀ (k q : Nat), q + k = gg_first n A p → mm_At l d M6_firstOf E (gg_fp n A p h) 7 [some (.ref 16), some (.int (nI p)), some (.int (nI q))] [] (mm_setA h 21 g) := by
  obtain ⟨h1, h2, h3⟩ := gg_first_ok n A p
  intro k
  induction k with
  | zero =>
    intro q hq
    have e : q = gg_first n A p := by omega
    refine mm_rn_ok [] _ (S6_firstOf l d _ _) 1000 _ _ _ _ ?_
    simp only [G6_firstOf_0, G6_firstOf_1, G6_firstOf_2, G6_firstOf_5, G6_firstOf_6, G6_firstOf_7, G6_firstOf_8, G6_firstOf_11, G6_firstOf_12, G6_firstOf_13, G6_firstOf_14, G6_firstOf_17, G6_firstOf_20, G6_firstOf_23, G6_firstOf_24, N6_firstOf, ↓mm_kc_ap, ↓mm_cut, mm_en, mm_nth, mm_put, mm_sto, mm_stoL, mm_ag, mm_dr, mm_sw, Nat.reduceSub, List.replicate, Option.toList, List.cons_append, List.nil_append, sq_int, sq_lng, sq_iload, sq_lload, sq_aload, sq_istore, sq_lstore, sq_astore, sq_iinc, sq_iadd, sq_isub, sq_imul, sq_iand, sq_ior, sq_ixor, sq_ishl, sq_ishr, sq_iushr, sq_ladd, sq_lsub, sq_lmul, sq_idiv, sq_irem, sq_ldiv, sq_lrem, sq_i2l, sq_lcmp, sq_dupI, sq_dupR, sq_pop, sq_dup2, sq_goto, sq_if_eq, sq_icmp_eq, sq_if_ne, sq_icmp_ne, sq_if_lt, sq_icmp_lt, sq_if_ge, sq_icmp_ge, sq_if_gt, sq_icmp_gt, sq_if_le, sq_icmp_le, sq_iaload, sq_iastore, sq_alen, sq_places, sq_getI, sq_getR, sq_put, sq_ret, sq_lret, sq_vret, sq_switch, sq_callS, sq_callV, sq_copy, sq_max, sq_min, mm_len_2, mm_len_3, mm_len_4, mm_len_6, mm_len_8, mm_len_10, mm_len_11, mm_len_12, mm_len_13, mm_len_14, mm_len_15, mm_len_17, mm_len_18, mm_len_19, mm_len_20, mm_len_21, mm_len_22, mm_len_23, mm_len_24, mm_len_25]
    try simp only [eq_self, true_and, and_true, Bool.false_eq_true, false_implies, true_implies, true_or, or_true, mm_numI, mm_numL, mm_numN, pp_i10, pp_i01, pp_im1, not_false_eq_true, not_true_eq_false, false_or, or_false]
    rw [mm_setA_same, nI_clamp (show q < 2 ^ 31 by omega), hg q (by omega), gg_o_m1 (by omega)]
    refine ⟨vp_in_nI (by omega) (by decide), fun _ => ⟨by rw [e], g, rfl, hg⟩, fun hc => ?_⟩
    rw [e, h2] at hc
    cases hc
  | succ k ih =>
    intro q hq
    have ih := ih (q + 1) (by omega)
    refine mm_rn_ok [] _ (S6_firstOf l d _ _) 1000 _ _ _ _ ?_
    simp only [G6_firstOf_0, G6_firstOf_1, G6_firstOf_2, G6_firstOf_5, G6_firstOf_6, G6_firstOf_7, G6_firstOf_8, G6_firstOf_11, G6_firstOf_12, G6_firstOf_13, G6_firstOf_14, G6_firstOf_17, G6_firstOf_20, G6_firstOf_23, G6_firstOf_24, N6_firstOf, ↓mm_kc_ap, ↓mm_cut, mm_en, mm_nth, mm_put, mm_sto, mm_stoL, mm_ag, mm_dr, mm_sw, Nat.reduceSub, List.replicate, Option.toList, List.cons_append, List.nil_append, sq_int, sq_lng, sq_iload, sq_lload, sq_aload, sq_istore, sq_lstore, sq_astore, sq_iinc, sq_iadd, sq_isub, sq_imul, sq_iand, sq_ior, sq_ixor, sq_ishl, sq_ishr, sq_iushr, sq_ladd, sq_lsub, sq_lmul, sq_idiv, sq_irem, sq_ldiv, sq_lrem, sq_i2l, sq_lcmp, sq_dupI, sq_dupR, sq_pop, sq_dup2, sq_goto, sq_if_eq, sq_icmp_eq, sq_if_ne, sq_icmp_ne, sq_if_lt, sq_icmp_lt, sq_if_ge, sq_icmp_ge, sq_if_gt, sq_icmp_gt, sq_if_le, sq_icmp_le, sq_iaload, sq_iastore, sq_alen, sq_places, sq_getI, sq_getR, sq_put, sq_ret, sq_lret, sq_vret, sq_switch, sq_callS, sq_callV, sq_copy, sq_max, sq_min, mm_len_2, mm_len_3, mm_len_4, mm_len_6, mm_len_8, mm_len_10, mm_len_11, mm_len_12, mm_len_13, mm_len_14, mm_len_15, mm_len_17, mm_len_18, mm_len_19, mm_len_20, mm_len_21, mm_len_22, mm_len_23, mm_len_24, mm_len_25]
    try simp only [eq_self, true_and, and_true, Bool.false_eq_true, false_implies, true_implies, true_or, or_true, mm_numI, mm_numL, mm_numN, pp_i10, pp_i01, pp_im1, not_false_eq_true, not_true_eq_false, false_or, or_false]
    rw [mm_setA_same, nI_clamp (show q < 2 ^ 31 by omega), hg q (by omega), gg_o_m1 (by omega), nI_1]
    exact ⟨vp_in_nI (by omega) (by decide), fun hc => absurd (h3 q (by omega)) hc, fun _ => ih⟩
set_option maxRecDepth 20000 in
theorem t_firstOf {l : Launch} {d : Nat} (hd : 1 < d) {h : mm_H} {n : Nat} {A mk : Nat → Nat} (hN : dd_N h n A mk) (hok : jj_ok n A) {p : Nat} (hp : p < n) : mm_Ev l d M6_firstOf [.ref 16, .int (nI p)] h (gg_fp n A p h) := by
  have n8 := hN.2.1
  refine mm_Ev.of (by decide +kernel) (Nat.le_of_ble_eq_true rfl) (mm_rn_ok [7] _ (S6_firstOf l d _ _) 1000 _ _ _ _ ?_)
  simp only [G6_firstOf_0, G6_firstOf_1, G6_firstOf_2, G6_firstOf_5, G6_firstOf_6, G6_firstOf_7, G6_firstOf_8, G6_firstOf_11, G6_firstOf_12, G6_firstOf_13, G6_firstOf_14, G6_firstOf_17, G6_firstOf_20, G6_firstOf_23, G6_firstOf_24, N6_firstOf, ↓mm_kc_ap, ↓mm_cut, mm_en, mm_nth, mm_put, mm_sto, mm_stoL, mm_ag, mm_dr, mm_sw, Nat.reduceSub, List.replicate, Option.toList, List.cons_append, List.nil_append, sq_int, sq_lng, sq_iload, sq_lload, sq_aload, sq_istore, sq_lstore, sq_astore, sq_iinc, sq_iadd, sq_isub, sq_imul, sq_iand, sq_ior, sq_ixor, sq_ishl, sq_ishr, sq_iushr, sq_ladd, sq_lsub, sq_lmul, sq_idiv, sq_irem, sq_ldiv, sq_lrem, sq_i2l, sq_lcmp, sq_dupI, sq_dupR, sq_pop, sq_dup2, sq_goto, sq_if_eq, sq_icmp_eq, sq_if_ne, sq_icmp_ne, sq_if_lt, sq_icmp_lt, sq_if_ge, sq_icmp_ge, sq_if_gt, sq_icmp_gt, sq_if_le, sq_icmp_le, sq_iaload, sq_iastore, sq_alen, sq_places, sq_getI, sq_getR, sq_put, sq_ret, sq_lret, sq_vret, sq_switch, sq_callS, sq_callV, sq_copy, sq_max, sq_min, mm_len_2, mm_len_3, mm_len_4, mm_len_6, mm_len_8, mm_len_10, mm_len_11, mm_len_12, mm_len_13, mm_len_14, mm_len_15, mm_len_17, mm_len_18, mm_len_19, mm_len_20, mm_len_21, mm_len_22, mm_len_23, mm_len_24, mm_len_25]
  try simp only [eq_self, true_and, and_true, Bool.false_eq_true, false_implies, true_implies, true_or, or_true, mm_numI, mm_numL, mm_numN, pp_i10, pp_i01, pp_im1, not_false_eq_true, not_true_eq_false, false_or, or_false]
  refine ⟨1, _, hd, t_spread (by decide) hN hok hp, rfl, ?_⟩
  rintro _ _ ⟨rfl, g, rfl, hg⟩
  simp only [G6_firstOf_0, G6_firstOf_1, G6_firstOf_2, G6_firstOf_5, G6_firstOf_6, G6_firstOf_7, G6_firstOf_8, G6_firstOf_11, G6_firstOf_12, G6_firstOf_13, G6_firstOf_14, G6_firstOf_17, G6_firstOf_20, G6_firstOf_23, G6_firstOf_24, N6_firstOf, ↓mm_kc_ap, ↓mm_cut, mm_en, mm_nth, mm_put, mm_sto, mm_stoL, mm_ag, mm_dr, mm_sw, Nat.reduceSub, List.replicate, Option.toList, List.cons_append, List.nil_append, sq_int, sq_lng, sq_iload, sq_lload, sq_aload, sq_istore, sq_lstore, sq_astore, sq_iinc, sq_iadd, sq_isub, sq_imul, sq_iand, sq_ior, sq_ixor, sq_ishl, sq_ishr, sq_iushr, sq_ladd, sq_lsub, sq_lmul, sq_idiv, sq_irem, sq_ldiv, sq_lrem, sq_i2l, sq_lcmp, sq_dupI, sq_dupR, sq_pop, sq_dup2, sq_goto, sq_if_eq, sq_icmp_eq, sq_if_ne, sq_icmp_ne, sq_if_lt, sq_icmp_lt, sq_if_ge, sq_icmp_ge, sq_if_gt, sq_icmp_gt, sq_if_le, sq_icmp_le, sq_iaload, sq_iastore, sq_alen, sq_places, sq_getI, sq_getR, sq_put, sq_ret, sq_lret, sq_vret, sq_switch, sq_callS, sq_callV, sq_copy, sq_max, sq_min, mm_len_2, mm_len_3, mm_len_4, mm_len_6, mm_len_8, mm_len_10, mm_len_11, mm_len_12, mm_len_13, mm_len_14, mm_len_15, mm_len_17, mm_len_18, mm_len_19, mm_len_20, mm_len_21, mm_len_22, mm_len_23, mm_len_24, mm_len_25]
  try simp only [eq_self, true_and, and_true, Bool.false_eq_true, false_implies, true_implies, true_or, or_true, mm_numI, mm_numL, mm_numN, pp_i10, pp_i01, pp_im1, not_false_eq_true, not_true_eq_false, false_or, or_false]
  exact t_firstOf_loop n8 hp hg (gg_first n A p) 0 (by omega)
set_option maxRecDepth 20000 in
theorem t_setsOf_loop {l : Launch} {d : Nat} (hd : 2 < d) {E : mm_X} {h : mm_H} {n : Nat} {A mk : Nat → Nat} (hN : dd_N h n A mk) (hok : jj_ok n A) : ∀ (k p : Nat), p + k = n → ∀ g : Nat → Int32, mm_At l d M6_setsOf E (fun r h' => r = some (.int (nI (gg_sets n A))) ∧ ∃ g, h' = mm_setA h 21 g) 4 [some (.ref 16), some (.int (nI (pp_cnt (gg_least n A) p))), some (.int (nI p))] [] (mm_setA h 21 g) := by
  have n8 := hN.2.1
  have hn := hN.2.2.1
  intro k
  induction k with
  | zero =>
    intro p hp g
    have e : p = n := by omega
    subst e
    refine mm_rn_ok [] _ (S6_setsOf l d _ _) 1000 _ _ _ _ ?_
    simp only [G6_setsOf_0, G6_setsOf_1, G6_setsOf_2, G6_setsOf_3, G6_setsOf_4, G6_setsOf_5, G6_setsOf_6, G6_setsOf_9, G6_setsOf_12, G6_setsOf_13, G6_setsOf_14, G6_setsOf_15, G6_setsOf_18, G6_setsOf_19, G6_setsOf_22, G6_setsOf_23, G6_setsOf_26, G6_setsOf_27, G6_setsOf_28, G6_setsOf_29, G6_setsOf_32, G6_setsOf_35, G6_setsOf_36, N6_setsOf, ↓mm_kc_ap, ↓mm_cut, mm_en, mm_nth, mm_put, mm_sto, mm_stoL, mm_ag, mm_dr, mm_sw, Nat.reduceSub, List.replicate, Option.toList, List.cons_append, List.nil_append, sq_int, sq_lng, sq_iload, sq_lload, sq_aload, sq_istore, sq_lstore, sq_astore, sq_iinc, sq_iadd, sq_isub, sq_imul, sq_iand, sq_ior, sq_ixor, sq_ishl, sq_ishr, sq_iushr, sq_ladd, sq_lsub, sq_lmul, sq_idiv, sq_irem, sq_ldiv, sq_lrem, sq_i2l, sq_lcmp, sq_dupI, sq_dupR, sq_pop, sq_dup2, sq_goto, sq_if_eq, sq_icmp_eq, sq_if_ne, sq_icmp_ne, sq_if_lt, sq_icmp_lt, sq_if_ge, sq_icmp_ge, sq_if_gt, sq_icmp_gt, sq_if_le, sq_icmp_le, sq_iaload, sq_iastore, sq_alen, sq_places, sq_getI, sq_getR, sq_put, sq_ret, sq_lret, sq_vret, sq_switch, sq_callS, sq_callV, sq_copy, sq_max, sq_min, mm_len_2, mm_len_3, mm_len_4, mm_len_6, mm_len_8, mm_len_10, mm_len_11, mm_len_12, mm_len_13, mm_len_14, mm_len_15, mm_len_17, mm_len_18, mm_len_19, mm_len_20, mm_len_21, mm_len_22, mm_len_23, mm_len_24, mm_len_25]
    try simp only [eq_self, true_and, and_true, Bool.false_eq_true, false_implies, true_implies, true_or, or_true, mm_numI, mm_numL, mm_numN, pp_i10, pp_i01, pp_im1, not_false_eq_true, not_true_eq_false, false_or, or_false]
    rw [mm_setA_ne (by decide), hn]
    exact ⟨fun _ => ⟨rfl, g, rfl⟩, fun hc => absurd (nI_le (Nat.le_refl _) (by omega)) hc⟩
  | succ k ih =>
    intro p hp g
    refine mm_rn_ok [] _ (S6_setsOf l d _ _) 1000 _ _ _ _ ?_
    simp only [G6_setsOf_0, G6_setsOf_1, G6_setsOf_2, G6_setsOf_3, G6_setsOf_4, G6_setsOf_5, G6_setsOf_6, G6_setsOf_9, G6_setsOf_12, G6_setsOf_13, G6_setsOf_14, G6_setsOf_15, G6_setsOf_18, G6_setsOf_19, G6_setsOf_22, G6_setsOf_23, G6_setsOf_26, G6_setsOf_27, G6_setsOf_28, G6_setsOf_29, G6_setsOf_32, G6_setsOf_35, G6_setsOf_36, N6_setsOf, ↓mm_kc_ap, ↓mm_cut, mm_en, mm_nth, mm_put, mm_sto, mm_stoL, mm_ag, mm_dr, mm_sw, Nat.reduceSub, List.replicate, Option.toList, List.cons_append, List.nil_append, sq_int, sq_lng, sq_iload, sq_lload, sq_aload, sq_istore, sq_lstore, sq_astore, sq_iinc, sq_iadd, sq_isub, sq_imul, sq_iand, sq_ior, sq_ixor, sq_ishl, sq_ishr, sq_iushr, sq_ladd, sq_lsub, sq_lmul, sq_idiv, sq_irem, sq_ldiv, sq_lrem, sq_i2l, sq_lcmp, sq_dupI, sq_dupR, sq_pop, sq_dup2, sq_goto, sq_if_eq, sq_icmp_eq, sq_if_ne, sq_icmp_ne, sq_if_lt, sq_icmp_lt, sq_if_ge, sq_icmp_ge, sq_if_gt, sq_icmp_gt, sq_if_le, sq_icmp_le, sq_iaload, sq_iastore, sq_alen, sq_places, sq_getI, sq_getR, sq_put, sq_ret, sq_lret, sq_vret, sq_switch, sq_callS, sq_callV, sq_copy, sq_max, sq_min, mm_len_2, mm_len_3, mm_len_4, mm_len_6, mm_len_8, mm_len_10, mm_len_11, mm_len_12, mm_len_13, mm_len_14, mm_len_15, mm_len_17, mm_len_18, mm_len_19, mm_len_20, mm_len_21, mm_len_22, mm_len_23, mm_len_24, mm_len_25]
    try simp only [eq_self, true_and, and_true, Bool.false_eq_true, false_implies, true_implies, true_or, or_true, mm_numI, mm_numL, mm_numN, pp_i10, pp_i01, pp_im1, not_false_eq_true, not_true_eq_false, false_or, or_false]
    rw [mm_setA_ne (by decide), hn]
    refine ⟨fun hc => absurd hc (nI_ge (by omega) (by omega)), fun _ => ⟨2, _, hd, t_firstOf (by decide) (hN.sA (by decide) g) hok (show p < n by omega), rfl, ?_⟩⟩
    rintro _ _ ⟨rfl, g', rfl, hg⟩
    rw [mm_setA_setA]
    simp only [G6_setsOf_0, G6_setsOf_1, G6_setsOf_2, G6_setsOf_3, G6_setsOf_4, G6_setsOf_5, G6_setsOf_6, G6_setsOf_9, G6_setsOf_12, G6_setsOf_13, G6_setsOf_14, G6_setsOf_15, G6_setsOf_18, G6_setsOf_19, G6_setsOf_22, G6_setsOf_23, G6_setsOf_26, G6_setsOf_27, G6_setsOf_28, G6_setsOf_29, G6_setsOf_32, G6_setsOf_35, G6_setsOf_36, N6_setsOf, ↓mm_kc_ap, ↓mm_cut, mm_en, mm_nth, mm_put, mm_sto, mm_stoL, mm_ag, mm_dr, mm_sw, Nat.reduceSub, List.replicate, Option.toList, List.cons_append, List.nil_append, sq_int, sq_lng, sq_iload, sq_lload, sq_aload, sq_istore, sq_lstore, sq_astore, sq_iinc, sq_iadd, sq_isub, sq_imul, sq_iand, sq_ior, sq_ixor, sq_ishl, sq_ishr, sq_iushr, sq_ladd, sq_lsub, sq_lmul, sq_idiv, sq_irem, sq_ldiv, sq_lrem, sq_i2l, sq_lcmp, sq_dupI, sq_dupR, sq_pop, sq_dup2, sq_goto, sq_if_eq, sq_icmp_eq, sq_if_ne, sq_icmp_ne, sq_if_lt, sq_icmp_lt, sq_if_ge, sq_icmp_ge, sq_if_gt, sq_icmp_gt, sq_if_le, sq_icmp_le, sq_iaload, sq_iastore, sq_alen, sq_places, sq_getI, sq_getR, sq_put, sq_ret, sq_lret, sq_vret, sq_switch, sq_callS, sq_callV, sq_copy, sq_max, sq_min, mm_len_2, mm_len_3, mm_len_4, mm_len_6, mm_len_8, mm_len_10, mm_len_11, mm_len_12, mm_len_13, mm_len_14, mm_len_15, mm_len_17, mm_len_18, mm_len_19, mm_len_20, mm_len_21, mm_len_22, mm_len_23, mm_len_24, mm_len_25]
    try simp only [eq_self, true_and, and_true, Bool.false_eq_true, false_implies, true_implies, true_or, or_true, mm_numI, mm_numL, mm_numN, pp_i10, pp_i01, pp_im1, not_false_eq_true, not_true_eq_false, false_or, or_false]
    have hf := (gg_first_ok n A p).1
    rw [pp_eqN (by omega) (by omega), gg_first_least, nI_1, nI_1]
    refine ⟨fun hb => ?_, fun hb => ?_⟩
    · have ih := ih (p + 1) (by omega) g'
      rw [pp_cnt_f (by simpa using hb)] at ih
      rw [show nI (pp_cnt (gg_least n A) p) + 0 = nI (pp_cnt (gg_least n A) p) from Int32.add_zero _]
      exact ih
    · have ih := ih (p + 1) (by omega) g'
      rw [pp_cnt_t hb] at ih
      exact ih
set_option maxRecDepth 20000 in
theorem t_setsOf {l : Launch} {d : Nat} (hd : 2 < d) {h : mm_H} {n : Nat} {A mk : Nat → Nat} (hN : dd_N h n A mk) (hok : jj_ok n A) : mm_Ev l d M6_setsOf [.ref 16] h (fun r h' => r = some (.int (nI (gg_sets n A))) ∧ ∃ g, h' = mm_setA h 21 g) := by
  refine mm_Ev.of (by decide +kernel) (Nat.le_of_ble_eq_true rfl) (mm_rn_ok [4] _ (S6_setsOf l d _ _) 1000 _ _ _ _ ?_)
  simp only [G6_setsOf_0, G6_setsOf_1, G6_setsOf_2, G6_setsOf_3, G6_setsOf_4, G6_setsOf_5, G6_setsOf_6, G6_setsOf_9, G6_setsOf_12, G6_setsOf_13, G6_setsOf_14, G6_setsOf_15, G6_setsOf_18, G6_setsOf_19, G6_setsOf_22, G6_setsOf_23, G6_setsOf_26, G6_setsOf_27, G6_setsOf_28, G6_setsOf_29, G6_setsOf_32, G6_setsOf_35, G6_setsOf_36, N6_setsOf, ↓mm_kc_ap, ↓mm_cut, mm_en, mm_nth, mm_put, mm_sto, mm_stoL, mm_ag, mm_dr, mm_sw, Nat.reduceSub, List.replicate, Option.toList, List.cons_append, List.nil_append, sq_int, sq_lng, sq_iload, sq_lload, sq_aload, sq_istore, sq_lstore, sq_astore, sq_iinc, sq_iadd, sq_isub, sq_imul, sq_iand, sq_ior, sq_ixor, sq_ishl, sq_ishr, sq_iushr, sq_ladd, sq_lsub, sq_lmul, sq_idiv, sq_irem, sq_ldiv, sq_lrem, sq_i2l, sq_lcmp, sq_dupI, sq_dupR, sq_pop, sq_dup2, sq_goto, sq_if_eq, sq_icmp_eq, sq_if_ne, sq_icmp_ne, sq_if_lt, sq_icmp_lt, sq_if_ge, sq_icmp_ge, sq_if_gt, sq_icmp_gt, sq_if_le, sq_icmp_le, sq_iaload, sq_iastore, sq_alen, sq_places, sq_getI, sq_getR, sq_put, sq_ret, sq_lret, sq_vret, sq_switch, sq_callS, sq_callV, sq_copy, sq_max, sq_min, mm_len_2, mm_len_3, mm_len_4, mm_len_6, mm_len_8, mm_len_10, mm_len_11, mm_len_12, mm_len_13, mm_len_14, mm_len_15, mm_len_17, mm_len_18, mm_len_19, mm_len_20, mm_len_21, mm_len_22, mm_len_23, mm_len_24, mm_len_25]
  try simp only [eq_self, true_and, and_true, Bool.false_eq_true, false_implies, true_implies, true_or, or_true, mm_numI, mm_numL, mm_numN, pp_i10, pp_i01, pp_im1, not_false_eq_true, not_true_eq_false, false_or, or_false]
  have lp := t_setsOf_loop (l := l) (E := fun _ _ _ => True) hd hN hok n 0 (by omega) (h 21)
  rw [mm_setA_id] at lp
  exact lp
/-! the one with mark 1 -/
def pp_the (P : Nat → Bool) : Nat → Nat
  | 0 => 0
  | k + 1 => if P k = true then k else pp_the P k
theorem pp_the_le (P : Nat → Bool) : ∀ k, pp_the P k ≤ k
  | 0 => Nat.le_refl _
  | k + 1 => by
    have := pp_the_le P k
    unfold pp_the
    split <;> omega
theorem pp_the_ok {P : Nat → Bool} : ∀ {k : Nat}, 0 < pp_cnt P k → P (pp_the P k) = true ∧ pp_the P k < k
  | 0, h => absurd h (Nat.lt_irrefl 0)
  | k + 1, h => by
    unfold pp_the
    cases hP : P k with
    | true => rw [if_pos rfl]; exact ⟨hP, by omega⟩
    | false =>
      rw [pp_cnt_f hP] at h
      obtain ⟨h1, h2⟩ := pp_the_ok h
      rw [if_neg Bool.false_ne_true]
      exact ⟨h1, by omega⟩
/-- those that hang together with p and have mark 1 -/
def gg_ld (n : Nat) (A mk : Nat → Nat) (p q : Nat) : Bool := gg_r n A p (n - 1) q && decide (mk q = 1)
def gg_lv (P : Nat → Bool) (k : Nat) : Int32 := if pp_cnt P k = 0 then -1 else if pp_cnt P k = 1 then nI (pp_the P k) else -2
theorem gg_lv_f {P : Nat → Bool} {k : Nat} (h : P k = false) : gg_lv P (k + 1) = gg_lv P k := by
  have e : pp_the P (k + 1) = pp_the P k := by
    show (if P k = true then k else pp_the P k) = _
    rw [if_neg (by rw [h]; exact Bool.false_ne_true)]
  unfold gg_lv
  rw [pp_cnt_f h, e]
theorem gg_lv_t {P : Nat → Bool} {k : Nat} (hk : k < 2 ^ 20) (h : P k = true) : gg_lv P (k + 1) = if gg_lv P k = -1 then nI k else -2 := by
  have hle := pp_the_le P k
  have e : gg_lv P k = -1 ↔ pp_cnt P k = 0 := by
    unfold gg_lv
    by_cases h0 : pp_cnt P k = 0
    · simp [h0]
    · rw [if_neg h0]
      refine ⟨fun hc => ?_, fun hc => absurd hc h0⟩
      split at hc
      · exact absurd hc.symm (pp_m1 (by omega))
      · exact absurd hc (by decide)
  unfold gg_lv at e ⊢
  rw [pp_cnt_t h]
  by_cases h0 : pp_cnt P k = 0
  · rw [if_neg (by omega), if_pos (by omega), if_pos (e.mpr h0)]
    unfold pp_the
    rw [if_pos h]
  · rw [if_neg (by omega), if_neg (by omega), if_neg (fun hc => h0 (e.mp hc))]
def gg_lr (P : Nat → Bool) (n : Nat) : Int32 := if pp_cnt P n = 1 then nI (pp_the P n) else -1
def gg_lpo (n : Nat) (A mk : Nat → Nat) (p : Nat) (h : mm_H) : mm_Po := fun r h' => r = some (.int (gg_lr (gg_ld n A mk p) n)) ∧ ∃ g, h' = mm_setA h 21 g ∧ ∀ q, q < n → g q = gg_o (gg_d n A p (n - 1) q)
set_option maxRecDepth 20000 in
theorem t_leaderOf_loop {l : Launch} {d : Nat} {E : mm_X} {h : mm_H} {n : Nat} {A mk : Nat → Nat} (hN : dd_N h n A mk) {p : Nat} {g : Nat → Int32} (hg : ∀ q, q < n → g q = gg_o (gg_d n A p (n - 1) q)) : ∀ (k q : Nat), q + k = n → mm_At l d M6_leaderOf E (gg_lpo n A mk p h) 9 [some (.ref 16), some (.int (nI p)), some (.int (gg_lv (gg_ld n A mk p) q)), some (.int (nI q))] [] (mm_setA h 21 g) := by
  obtain ⟨n1, n8, hn, hA, hm, hA8, hm4⟩ := hN
  intro k
  induction k with
  | zero =>
    intro q hq
    have e : q = n := by omega
    subst e
    refine mm_rn_ok [] _ (S6_leaderOf l d _ _) 1000 _ _ _ _ ?_
    simp only [G6_leaderOf_0, G6_leaderOf_1, G6_leaderOf_2, G6_leaderOf_5, G6_leaderOf_6, G6_leaderOf_7, G6_leaderOf_8, G6_leaderOf_9, G6_leaderOf_10, G6_leaderOf_11, G6_leaderOf_14, G6_leaderOf_17, G6_leaderOf_18, G6_leaderOf_21, G6_leaderOf_22, G6_leaderOf_23, G6_leaderOf_24, G6_leaderOf_27, G6_leaderOf_28, G6_leaderOf_31, G6_leaderOf_32, G6_leaderOf_33, G6_leaderOf_34, G6_leaderOf_37, G6_leaderOf_38, G6_leaderOf_39, G6_leaderOf_42, G6_leaderOf_43, G6_leaderOf_46, G6_leaderOf_48, G6_leaderOf_49, G6_leaderOf_52, G6_leaderOf_55, G6_leaderOf_56, G6_leaderOf_59, G6_leaderOf_60, G6_leaderOf_63, G6_leaderOf_64, N6_leaderOf, ↓mm_kc_ap, ↓mm_cut, mm_en, mm_nth, mm_put, mm_sto, mm_stoL, mm_ag, mm_dr, mm_sw, Nat.reduceSub, List.replicate, Option.toList, List.cons_append, List.nil_append, sq_int, sq_lng, sq_iload, sq_lload, sq_aload, sq_istore, sq_lstore, sq_astore, sq_iinc, sq_iadd, sq_isub, sq_imul, sq_iand, sq_ior, sq_ixor, sq_ishl, sq_ishr, sq_iushr, sq_ladd, sq_lsub, sq_lmul, sq_idiv, sq_irem, sq_ldiv, sq_lrem, sq_i2l, sq_lcmp, sq_dupI, sq_dupR, sq_pop, sq_dup2, sq_goto, sq_if_eq, sq_icmp_eq, sq_if_ne, sq_icmp_ne, sq_if_lt, sq_icmp_lt, sq_if_ge, sq_icmp_ge, sq_if_gt, sq_icmp_gt, sq_if_le, sq_icmp_le, sq_iaload, sq_iastore, sq_alen, sq_places, sq_getI, sq_getR, sq_put, sq_ret, sq_lret, sq_vret, sq_switch, sq_callS, sq_callV, sq_copy, sq_max, sq_min, mm_len_2, mm_len_3, mm_len_4, mm_len_6, mm_len_8, mm_len_10, mm_len_11, mm_len_12, mm_len_13, mm_len_14, mm_len_15, mm_len_17, mm_len_18, mm_len_19, mm_len_20, mm_len_21, mm_len_22, mm_len_23, mm_len_24, mm_len_25]
    try simp only [eq_self, true_and, and_true, Bool.false_eq_true, false_implies, true_implies, true_or, or_true, mm_numI, mm_numL, mm_numN, pp_i10, pp_i01, pp_im1, not_false_eq_true, not_true_eq_false, false_or, or_false]
    rw [mm_setA_ne (by decide), hn]
    refine ⟨fun _ => ⟨fun hc => ⟨?_, g, rfl, hg⟩, fun hc => ⟨?_, g, rfl, hg⟩⟩, fun hc => absurd (nI_le (Nat.le_refl _) (by omega)) hc⟩
    · unfold gg_lv gg_lr at *
      by_cases h0 : pp_cnt (gg_ld q A mk p) q = 0
      · rw [if_pos h0] at hc
        exact absurd hc (by decide)
      · rw [if_neg h0] at hc ⊢
        by_cases h1 : pp_cnt (gg_ld q A mk p) q = 1
        · rw [if_pos h1, if_pos h1]
        · rw [if_neg h1] at hc
          exact absurd hc (by decide)
    · unfold gg_lv gg_lr at *
      by_cases h1 : pp_cnt (gg_ld q A mk p) q = 1
      · rw [if_neg (by omega), if_pos h1] at hc
        have := pp_the_le (gg_ld q A mk p) q
        exact absurd (nI_pos' (by omega)) hc
      · rw [if_neg h1]
  | succ k ih =>
    intro q hq
    have ih := ih (q + 1) (by omega)
    refine mm_rn_ok [] _ (S6_leaderOf l d _ _) 1000 _ _ _ _ ?_
    simp only [G6_leaderOf_0, G6_leaderOf_1, G6_leaderOf_2, G6_leaderOf_5, G6_leaderOf_6, G6_leaderOf_7, G6_leaderOf_8, G6_leaderOf_9, G6_leaderOf_10, G6_leaderOf_11, G6_leaderOf_14, G6_leaderOf_17, G6_leaderOf_18, G6_leaderOf_21, G6_leaderOf_22, G6_leaderOf_23, G6_leaderOf_24, G6_leaderOf_27, G6_leaderOf_28, G6_leaderOf_31, G6_leaderOf_32, G6_leaderOf_33, G6_leaderOf_34, G6_leaderOf_37, G6_leaderOf_38, G6_leaderOf_39, G6_leaderOf_42, G6_leaderOf_43, G6_leaderOf_46, G6_leaderOf_48, G6_leaderOf_49, G6_leaderOf_52, G6_leaderOf_55, G6_leaderOf_56, G6_leaderOf_59, G6_leaderOf_60, G6_leaderOf_63, G6_leaderOf_64, N6_leaderOf, ↓mm_kc_ap, ↓mm_cut, mm_en, mm_nth, mm_put, mm_sto, mm_stoL, mm_ag, mm_dr, mm_sw, Nat.reduceSub, List.replicate, Option.toList, List.cons_append, List.nil_append, sq_int, sq_lng, sq_iload, sq_lload, sq_aload, sq_istore, sq_lstore, sq_astore, sq_iinc, sq_iadd, sq_isub, sq_imul, sq_iand, sq_ior, sq_ixor, sq_ishl, sq_ishr, sq_iushr, sq_ladd, sq_lsub, sq_lmul, sq_idiv, sq_irem, sq_ldiv, sq_lrem, sq_i2l, sq_lcmp, sq_dupI, sq_dupR, sq_pop, sq_dup2, sq_goto, sq_if_eq, sq_icmp_eq, sq_if_ne, sq_icmp_ne, sq_if_lt, sq_icmp_lt, sq_if_ge, sq_icmp_ge, sq_if_gt, sq_icmp_gt, sq_if_le, sq_icmp_le, sq_iaload, sq_iastore, sq_alen, sq_places, sq_getI, sq_getR, sq_put, sq_ret, sq_lret, sq_vret, sq_switch, sq_callS, sq_callV, sq_copy, sq_max, sq_min, mm_len_2, mm_len_3, mm_len_4, mm_len_6, mm_len_8, mm_len_10, mm_len_11, mm_len_12, mm_len_13, mm_len_14, mm_len_15, mm_len_17, mm_len_18, mm_len_19, mm_len_20, mm_len_21, mm_len_22, mm_len_23, mm_len_24, mm_len_25]
    try simp only [eq_self, true_and, and_true, Bool.false_eq_true, false_implies, true_implies, true_or, or_true, mm_numI, mm_numL, mm_numN, pp_i10, pp_i01, pp_im1, not_false_eq_true, not_true_eq_false, false_or, or_false]
    rw [mm_setA_ne (by decide), mm_setA_ne (show (18 : Nat) ≠ 21 by decide), mm_setA_same, hn, nI_clamp (show q < 2 ^ 31 by omega), hg q (by omega), gg_o_m1 (by omega), hm q (by omega), pp_eq1 (Nat.lt_trans (hm4 q) (by decide)), nI_1]
    refine ⟨fun hc => absurd hc (nI_ge (by omega) (by omega)), fun _ => ⟨vp_in_nI (by omega) (by decide), fun hr => ?_, fun hr => ⟨vp_in_nI (by omega) (by decide), fun h1 => ?_, fun h1 => ⟨fun h2 => ?_, fun h2 => ?_⟩⟩⟩⟩
    · rw [gg_lv_f (by unfold gg_ld; rw [hr, Bool.false_and])] at ih
      exact ih
    · rw [gg_lv_f (by unfold gg_ld; rw [decide_eq_false h1, Bool.and_false])] at ih
      exact ih
    · rw [gg_lv_t (by omega) (by unfold gg_ld; rw [decide_eq_true h1, Bool.and_true]; simpa using hr), if_neg h2] at ih
      exact ih
    · rw [gg_lv_t (by omega) (by unfold gg_ld; rw [decide_eq_true h1, Bool.and_true]; simpa using hr), if_pos h2] at ih
      exact ih
set_option maxRecDepth 20000 in
theorem t_leaderOf {l : Launch} {d : Nat} (hd : 1 < d) {h : mm_H} {n : Nat} {A mk : Nat → Nat} (hN : dd_N h n A mk) (hok : jj_ok n A) {p : Nat} (hp : p < n) : mm_Ev l d M6_leaderOf [.ref 16, .int (nI p)] h (gg_lpo n A mk p h) := by
  refine mm_Ev.of (by decide +kernel) (Nat.le_of_ble_eq_true rfl) (mm_rn_ok [9] _ (S6_leaderOf l d _ _) 1000 _ _ _ _ ?_)
  simp only [G6_leaderOf_0, G6_leaderOf_1, G6_leaderOf_2, G6_leaderOf_5, G6_leaderOf_6, G6_leaderOf_7, G6_leaderOf_8, G6_leaderOf_9, G6_leaderOf_10, G6_leaderOf_11, G6_leaderOf_14, G6_leaderOf_17, G6_leaderOf_18, G6_leaderOf_21, G6_leaderOf_22, G6_leaderOf_23, G6_leaderOf_24, G6_leaderOf_27, G6_leaderOf_28, G6_leaderOf_31, G6_leaderOf_32, G6_leaderOf_33, G6_leaderOf_34, G6_leaderOf_37, G6_leaderOf_38, G6_leaderOf_39, G6_leaderOf_42, G6_leaderOf_43, G6_leaderOf_46, G6_leaderOf_48, G6_leaderOf_49, G6_leaderOf_52, G6_leaderOf_55, G6_leaderOf_56, G6_leaderOf_59, G6_leaderOf_60, G6_leaderOf_63, G6_leaderOf_64, N6_leaderOf, ↓mm_kc_ap, ↓mm_cut, mm_en, mm_nth, mm_put, mm_sto, mm_stoL, mm_ag, mm_dr, mm_sw, Nat.reduceSub, List.replicate, Option.toList, List.cons_append, List.nil_append, sq_int, sq_lng, sq_iload, sq_lload, sq_aload, sq_istore, sq_lstore, sq_astore, sq_iinc, sq_iadd, sq_isub, sq_imul, sq_iand, sq_ior, sq_ixor, sq_ishl, sq_ishr, sq_iushr, sq_ladd, sq_lsub, sq_lmul, sq_idiv, sq_irem, sq_ldiv, sq_lrem, sq_i2l, sq_lcmp, sq_dupI, sq_dupR, sq_pop, sq_dup2, sq_goto, sq_if_eq, sq_icmp_eq, sq_if_ne, sq_icmp_ne, sq_if_lt, sq_icmp_lt, sq_if_ge, sq_icmp_ge, sq_if_gt, sq_icmp_gt, sq_if_le, sq_icmp_le, sq_iaload, sq_iastore, sq_alen, sq_places, sq_getI, sq_getR, sq_put, sq_ret, sq_lret, sq_vret, sq_switch, sq_callS, sq_callV, sq_copy, sq_max, sq_min, mm_len_2, mm_len_3, mm_len_4, mm_len_6, mm_len_8, mm_len_10, mm_len_11, mm_len_12, mm_len_13, mm_len_14, mm_len_15, mm_len_17, mm_len_18, mm_len_19, mm_len_20, mm_len_21, mm_len_22, mm_len_23, mm_len_24, mm_len_25]
  try simp only [eq_self, true_and, and_true, Bool.false_eq_true, false_implies, true_implies, true_or, or_true, mm_numI, mm_numL, mm_numN, pp_i10, pp_i01, pp_im1, not_false_eq_true, not_true_eq_false, false_or, or_false]
  refine ⟨1, _, hd, t_spread (by decide) hN hok hp, rfl, ?_⟩
  rintro _ _ ⟨rfl, g, rfl, hg⟩
  simp only [G6_leaderOf_0, G6_leaderOf_1, G6_leaderOf_2, G6_leaderOf_5, G6_leaderOf_6, G6_leaderOf_7, G6_leaderOf_8, G6_leaderOf_9, G6_leaderOf_10, G6_leaderOf_11, G6_leaderOf_14, G6_leaderOf_17, G6_leaderOf_18, G6_leaderOf_21, G6_leaderOf_22, G6_leaderOf_23, G6_leaderOf_24, G6_leaderOf_27, G6_leaderOf_28, G6_leaderOf_31, G6_leaderOf_32, G6_leaderOf_33, G6_leaderOf_34, G6_leaderOf_37, G6_leaderOf_38, G6_leaderOf_39, G6_leaderOf_42, G6_leaderOf_43, G6_leaderOf_46, G6_leaderOf_48, G6_leaderOf_49, G6_leaderOf_52, G6_leaderOf_55, G6_leaderOf_56, G6_leaderOf_59, G6_leaderOf_60, G6_leaderOf_63, G6_leaderOf_64, N6_leaderOf, ↓mm_kc_ap, ↓mm_cut, mm_en, mm_nth, mm_put, mm_sto, mm_stoL, mm_ag, mm_dr, mm_sw, Nat.reduceSub, List.replicate, Option.toList, List.cons_append, List.nil_append, sq_int, sq_lng, sq_iload, sq_lload, sq_aload, sq_istore, sq_lstore, sq_astore, sq_iinc, sq_iadd, sq_isub, sq_imul, sq_iand, sq_ior, sq_ixor, sq_ishl, sq_ishr, sq_iushr, sq_ladd, sq_lsub, sq_lmul, sq_idiv, sq_irem, sq_ldiv, sq_lrem, sq_i2l, sq_lcmp, sq_dupI, sq_dupR, sq_pop, sq_dup2, sq_goto, sq_if_eq, sq_icmp_eq, sq_if_ne, sq_icmp_ne, sq_if_lt, sq_icmp_lt, sq_if_ge, sq_icmp_ge, sq_if_gt, sq_icmp_gt, sq_if_le, sq_icmp_le, sq_iaload, sq_iastore, sq_alen, sq_places, sq_getI, sq_getR, sq_put, sq_ret, sq_lret, sq_vret, sq_switch, sq_callS, sq_callV, sq_copy, sq_max, sq_min, mm_len_2, mm_len_3, mm_len_4, mm_len_6, mm_len_8, mm_len_10, mm_len_11, mm_len_12, mm_len_13, mm_len_14, mm_len_15, mm_len_17, mm_len_18, mm_len_19, mm_len_20, mm_len_21, mm_len_22, mm_len_23, mm_len_24, mm_len_25]
  try simp only [eq_self, true_and, and_true, Bool.false_eq_true, false_implies, true_implies, true_or, or_true, mm_numI, mm_numL, mm_numN, pp_i10, pp_i01, pp_im1, not_false_eq_true, not_true_eq_false, false_or, or_false]
  exact t_leaderOf_loop hN hg n 0 (by omega)
