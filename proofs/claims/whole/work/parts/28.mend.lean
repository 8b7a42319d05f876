/-! ===== mending: restless posts, moves ===== -/
def mr_rs (n : Nat) (A ds : Nat → Nat) (p : Nat) : Bool := decide (mr_rule n A ds p ≠ ds p)
def mr_st (n : Nat) (A ds : Nat → Nat) (p : Nat) : Nat → Nat := fun q => if q = p then mr_rule n A ds p else ds q
def mr_D (h : mm_H) (c : Nat) (ds : Nat → Nat) : Prop := (∀ q, q < 8 → h c q = nI (ds q)) ∧ ∀ q, ds q < 5
theorem mr_st_5 {n : Nat} {A ds : Nat → Nat} (h5 : ∀ q, ds q < 5) (p q : Nat) : mr_st n A ds p q < 5 := by
  have := mr_rule_le n A ds p
  unfold mr_st
  split
  · omega
  · exact h5 q
theorem mr_D_st {h : mm_H} {c n : Nat} {A ds : Nat → Nat} (hD : mr_D h c ds) {p : Nat} : mr_D (mm_set h c p (nI (mr_rule n A ds p))) c (mr_st n A ds p) := by
  refine ⟨fun q hq => ?_, mr_st_5 hD.2 p⟩
  unfold mr_st
  by_cases e : q = p
  · rw [if_pos e, e, mm_set_same]
  · rw [if_neg e, mm_set_other e]
    exact hD.1 q hq
set_option maxRecDepth 20000 in
theorem t_isRestless {l : Launch} {d : Nat} (hd : 1 < d) {h : mm_H} {n : Nat} {A mk ds : Nat → Nat} (hN : cc_N h n A mk) (hD : mr_D h 10 ds) {p : Nat} (hp : p < 8) : mm_Ev l d M1_isRestless [.ref 9, .int (nI p)] h (fun r h' => r = some (.int (pp_b (mr_rs n A ds p))) ∧ h' = h) := by
  refine mm_Ev.of (by decide +kernel) (Nat.le_of_ble_eq_true rfl) (mm_rn_ok [] _ (S1_isRestless l d _ _) 1000 _ _ _ _ ?_)
  simp only [G1_isRestless_0, G1_isRestless_1, G1_isRestless_2, G1_isRestless_5, G1_isRestless_6, G1_isRestless_9, G1_isRestless_10, G1_isRestless_13, G1_isRestless_14, G1_isRestless_15, G1_isRestless_18, G1_isRestless_19, G1_isRestless_22, G1_isRestless_23, N1_isRestless, ↓mm_kc_ap, ↓mm_cut, mm_en, mm_nth, mm_put, mm_sto, mm_stoL, mm_ag, mm_dr, mm_sw, Nat.reduceSub, List.replicate, Option.toList, List.cons_append, List.nil_append, sq_int, sq_lng, sq_iload, sq_lload, sq_aload, sq_istore, sq_lstore, sq_astore, sq_iinc, sq_iadd, sq_isub, sq_imul, sq_iand, sq_ior, sq_ixor, sq_ishl, sq_ishr, sq_iushr, sq_ladd, sq_lsub, sq_lmul, sq_idiv, sq_irem, sq_ldiv, sq_lrem, sq_i2l, sq_lcmp, sq_dupI, sq_dupR, sq_pop, sq_dup2, sq_goto, sq_if_eq, sq_icmp_eq, sq_if_ne, sq_icmp_ne, sq_if_lt, sq_icmp_lt, sq_if_ge, sq_icmp_ge, sq_if_gt, sq_icmp_gt, sq_if_le, sq_icmp_le, sq_iaload, sq_iastore, sq_alen, sq_places, sq_getI, sq_getR, sq_put, sq_ret, sq_lret, sq_vret, sq_switch, sq_callS, sq_callV, sq_copy, sq_max, sq_min, mm_len_2, mm_len_3, mm_len_4, mm_len_6, mm_len_8, mm_len_10, mm_len_11, mm_len_12, mm_len_13, mm_len_14, mm_len_15, mm_len_17, mm_len_18, mm_len_19, mm_len_20, mm_len_21, mm_len_22, mm_len_23, mm_len_24, mm_len_25]
  try simp only [eq_self, true_and, and_true, Bool.false_eq_true, false_implies, true_implies, true_or, or_true, mm_numI, mm_numL, mm_numN, pp_i10, pp_i01, pp_im1, not_false_eq_true, not_true_eq_false, false_or, or_false]
  refine ⟨1, _, hd, t_rule (by decide) hN rfl hD.1 hD.2 hp, rfl, ?_⟩
  rintro _ _ ⟨rfl, rfl⟩
  simp only [G1_isRestless_0, G1_isRestless_1, G1_isRestless_2, G1_isRestless_5, G1_isRestless_6, G1_isRestless_9, G1_isRestless_10, G1_isRestless_13, G1_isRestless_14, G1_isRestless_15, G1_isRestless_18, G1_isRestless_19, G1_isRestless_22, G1_isRestless_23, N1_isRestless, ↓mm_kc_ap, ↓mm_cut, mm_en, mm_nth, mm_put, mm_sto, mm_stoL, mm_ag, mm_dr, mm_sw, Nat.reduceSub, List.replicate, Option.toList, List.cons_append, List.nil_append, sq_int, sq_lng, sq_iload, sq_lload, sq_aload, sq_istore, sq_lstore, sq_astore, sq_iinc, sq_iadd, sq_isub, sq_imul, sq_iand, sq_ior, sq_ixor, sq_ishl, sq_ishr, sq_iushr, sq_ladd, sq_lsub, sq_lmul, sq_idiv, sq_irem, sq_ldiv, sq_lrem, sq_i2l, sq_lcmp, sq_dupI, sq_dupR, sq_pop, sq_dup2, sq_goto, sq_if_eq, sq_icmp_eq, sq_if_ne, sq_icmp_ne, sq_if_lt, sq_icmp_lt, sq_if_ge, sq_icmp_ge, sq_if_gt, sq_icmp_gt, sq_if_le, sq_icmp_le, sq_iaload, sq_iastore, sq_alen, sq_places, sq_getI, sq_getR, sq_put, sq_ret, sq_lret, sq_vret, sq_switch, sq_callS, sq_callV, sq_copy, sq_max, sq_min, mm_len_2, mm_len_3, mm_len_4, mm_len_6, mm_len_8, mm_len_10, mm_len_11, mm_len_12, mm_len_13, mm_len_14, mm_len_15, mm_len_17, mm_len_18, mm_len_19, mm_len_20, mm_len_21, mm_len_22, mm_len_23, mm_len_24, mm_len_25]
  try simp only [eq_self, true_and, and_true, Bool.false_eq_true, false_implies, true_implies, true_or, or_true, mm_numI, mm_numL, mm_numN, pp_i10, pp_i01, pp_im1, not_false_eq_true, not_true_eq_false, false_or, or_false]
  have h1 := mr_rule_le n A ds p
  have h2 := hD.2 p
  rw [nI_clamp (show p < 2 ^ 31 by omega), hD.1 p hp, pp_eqN (by omega) (by omega)]
  refine ⟨vp_in_nI hp (by decide), fun hc => pp_b0 ?_, fun hc => pp_b1 ?_⟩
  · exact decide_eq_false (fun z => z hc)
  · exact decide_eq_true hc
set_option maxRecDepth 20000 in
theorem t_obey {l : Launch} {d : Nat} (hd : 1 < d) {h : mm_H} {n : Nat} {A mk ds : Nat → Nat} (hN : cc_N h n A mk) (hD : mr_D h 10 ds) {p : Nat} (hp : p < 8) : mm_Ev l d M1_obey [.ref 9, .int (nI p)] h (fun r h' => r = none ∧ h' = mm_set h 10 p (nI (mr_rule n A ds p))) := by
  refine mm_Ev.of (by decide +kernel) (Nat.le_of_ble_eq_true rfl) (mm_rn_ok [] _ (S1_obey l d _ _) 1000 _ _ _ _ ?_)
  simp only [G1_obey_0, G1_obey_1, G1_obey_4, G1_obey_5, G1_obey_6, G1_obey_7, G1_obey_10, G1_obey_11, G1_obey_14, G1_obey_15, N1_obey, ↓mm_kc_ap, ↓mm_cut, mm_en, mm_nth, mm_put, mm_sto, mm_stoL, mm_ag, mm_dr, mm_sw, Nat.reduceSub, List.replicate, Option.toList, List.cons_append, List.nil_append, sq_int, sq_lng, sq_iload, sq_lload, sq_aload, sq_istore, sq_lstore, sq_astore, sq_iinc, sq_iadd, sq_isub, sq_imul, sq_iand, sq_ior, sq_ixor, sq_ishl, sq_ishr, sq_iushr, sq_ladd, sq_lsub, sq_lmul, sq_idiv, sq_irem, sq_ldiv, sq_lrem, sq_i2l, sq_lcmp, sq_dupI, sq_dupR, sq_pop, sq_dup2, sq_goto, sq_if_eq, sq_icmp_eq, sq_if_ne, sq_icmp_ne, sq_if_lt, sq_icmp_lt, sq_if_ge, sq_icmp_ge, sq_if_gt, sq_icmp_gt, sq_if_le, sq_icmp_le, sq_iaload, sq_iastore, sq_alen, sq_places, sq_getI, sq_getR, sq_put, sq_ret, sq_lret, sq_vret, sq_switch, sq_callS, sq_callV, sq_copy, sq_max, sq_min, mm_len_2, mm_len_3, mm_len_4, mm_len_6, mm_len_8, mm_len_10, mm_len_11, mm_len_12, mm_len_13, mm_len_14, mm_len_15, mm_len_17, mm_len_18, mm_len_19, mm_len_20, mm_len_21, mm_len_22, mm_len_23, mm_len_24, mm_len_25]
  try simp only [eq_self, true_and, and_true, Bool.false_eq_true, false_implies, true_implies, true_or, or_true, mm_numI, mm_numL, mm_numN, pp_i10, pp_i01, pp_im1, not_false_eq_true, not_true_eq_false, false_or, or_false]
  refine ⟨1, _, hd, t_rule (by decide) hN rfl hD.1 hD.2 hp, rfl, ?_⟩
  rintro _ _ ⟨rfl, rfl⟩
  simp only [G1_obey_0, G1_obey_1, G1_obey_4, G1_obey_5, G1_obey_6, G1_obey_7, G1_obey_10, G1_obey_11, G1_obey_14, G1_obey_15, N1_obey, ↓mm_kc_ap, ↓mm_cut, mm_en, mm_nth, mm_put, mm_sto, mm_stoL, mm_ag, mm_dr, mm_sw, Nat.reduceSub, List.replicate, Option.toList, List.cons_append, List.nil_append, sq_int, sq_lng, sq_iload, sq_lload, sq_aload, sq_istore, sq_lstore, sq_astore, sq_iinc, sq_iadd, sq_isub, sq_imul, sq_iand, sq_ior, sq_ixor, sq_ishl, sq_ishr, sq_iushr, sq_ladd, sq_lsub, sq_lmul, sq_idiv, sq_irem, sq_ldiv, sq_lrem, sq_i2l, sq_lcmp, sq_dupI, sq_dupR, sq_pop, sq_dup2, sq_goto, sq_if_eq, sq_icmp_eq, sq_if_ne, sq_icmp_ne, sq_if_lt, sq_icmp_lt, sq_if_ge, sq_icmp_ge, sq_if_gt, sq_icmp_gt, sq_if_le, sq_icmp_le, sq_iaload, sq_iastore, sq_alen, sq_places, sq_getI, sq_getR, sq_put, sq_ret, sq_lret, sq_vret, sq_switch, sq_callS, sq_callV, sq_copy, sq_max, sq_min, mm_len_2, mm_len_3, mm_len_4, mm_len_6, mm_len_8, mm_len_10, mm_len_11, mm_len_12, mm_len_13, mm_len_14, mm_len_15, mm_len_17, mm_len_18, mm_len_19, mm_len_20, mm_len_21, mm_len_22, mm_len_23, mm_len_24, mm_len_25]
  try simp only [eq_self, true_and, and_true, Bool.false_eq_true, false_implies, true_implies, true_or, or_true, mm_numI, mm_numL, mm_numN, pp_i10, pp_i01, pp_im1, not_false_eq_true, not_true_eq_false, false_or, or_false]
  rw [nI_clamp (show p < 2 ^ 31 by omega)]
  exact ⟨by decide, vp_in_nI hp (by decide), rfl⟩
/-- the least restless post, or -1 -/
def mr_lr (n : Nat) (A ds : Nat → Nat) : Int32 := if pp_any (mr_rs n A ds) n = true then nI (pp_fst (mr_rs n A ds) (n - 1)) else -1
set_option maxRecDepth 20000 in
theorem t_least_loop {l : Launch} {d : Nat} (hd : 2 < d) {E : mm_X} {h : mm_H} {n : Nat} {A mk ds : Nat → Nat} (hN : cc_N h n A mk) (hD : mr_D h 10 ds) : ∀ (k p : Nat), p + k = n → (∀ j, j < p → mr_rs n A ds j = false) → mm_At l d M1_leastRestless E (fun r h' => r = some (.int (mr_lr n A ds)) ∧ h' = h) 2 [some (.ref 9), some (.int (nI p))] [] h := by
  have n8 := hN.2.1
  have hn := hN.2.2.1
  intro k
  induction k with
  | zero =>
    intro p hp hno
    have e : p = n := by omega
    subst e
    refine mm_rn_ok [] _ (S1_leastRestless l d _ _) 1000 _ _ _ _ ?_
    simp only [G1_leastRestless_0, G1_leastRestless_1, G1_leastRestless_2, G1_leastRestless_3, G1_leastRestless_4, G1_leastRestless_7, G1_leastRestless_10, G1_leastRestless_13, G1_leastRestless_14, G1_leastRestless_15, G1_leastRestless_18, G1_leastRestless_21, G1_leastRestless_22, G1_leastRestless_23, G1_leastRestless_26, G1_leastRestless_29, G1_leastRestless_30, N1_leastRestless, ↓mm_kc_ap, ↓mm_cut, mm_en, mm_nth, mm_put, mm_sto, mm_stoL, mm_ag, mm_dr, mm_sw, Nat.reduceSub, List.replicate, Option.toList, List.cons_append, List.nil_append, sq_int, sq_lng, sq_iload, sq_lload, sq_aload, sq_istore, sq_lstore, sq_astore, sq_iinc, sq_iadd, sq_isub, sq_imul, sq_iand, sq_ior, sq_ixor, sq_ishl, sq_ishr, sq_iushr, sq_ladd, sq_lsub, sq_lmul, sq_idiv, sq_irem, sq_ldiv, sq_lrem, sq_i2l, sq_lcmp, sq_dupI, sq_dupR, sq_pop, sq_dup2, sq_goto, sq_if_eq, sq_icmp_eq, sq_if_ne, sq_icmp_ne, sq_if_lt, sq_icmp_lt, sq_if_ge, sq_icmp_ge, sq_if_gt, sq_icmp_gt, sq_if_le, sq_icmp_le, sq_iaload, sq_iastore, sq_alen, sq_places, sq_getI, sq_getR, sq_put, sq_ret, sq_lret, sq_vret, sq_switch, sq_callS, sq_callV, sq_copy, sq_max, sq_min, mm_len_2, mm_len_3, mm_len_4, mm_len_6, mm_len_8, mm_len_10, mm_len_11, mm_len_12, mm_len_13, mm_len_14, mm_len_15, mm_len_17, mm_len_18, mm_len_19, mm_len_20, mm_len_21, mm_len_22, mm_len_23, mm_len_24, mm_len_25]
    try simp only [eq_self, true_and, and_true, Bool.false_eq_true, false_implies, true_implies, true_or, or_true, mm_numI, mm_numL, mm_numN, pp_i10, pp_i01, pp_im1, not_false_eq_true, not_true_eq_false, false_or, or_false]
    rw [hn]
    refine ⟨fun _ => ?_, fun hc => absurd (nI_le (Nat.le_refl _) (by omega)) hc⟩
    unfold mr_lr
    rw [if_neg]
    intro hc
    obtain ⟨j, hj, hb⟩ := pp_any_iff.mp hc
    rw [hno j hj] at hb
    cases hb
  | succ k ih =>
    intro p hp hno
    refine mm_rn_ok [] _ (S1_leastRestless l d _ _) 1000 _ _ _ _ ?_
    simp only [G1_leastRestless_0, G1_leastRestless_1, G1_leastRestless_2, G1_leastRestless_3, G1_leastRestless_4, G1_leastRestless_7, G1_leastRestless_10, G1_leastRestless_13, G1_leastRestless_14, G1_leastRestless_15, G1_leastRestless_18, G1_leastRestless_21, G1_leastRestless_22, G1_leastRestless_23, G1_leastRestless_26, G1_leastRestless_29, G1_leastRestless_30, N1_leastRestless, ↓mm_kc_ap, ↓mm_cut, mm_en, mm_nth, mm_put, mm_sto, mm_stoL, mm_ag, mm_dr, mm_sw, Nat.reduceSub, List.replicate, Option.toList, List.cons_append, List.nil_append, sq_int, sq_lng, sq_iload, sq_lload, sq_aload, sq_istore, sq_lstore, sq_astore, sq_iinc, sq_iadd, sq_isub, sq_imul, sq_iand, sq_ior, sq_ixor, sq_ishl, sq_ishr, sq_iushr, sq_ladd, sq_lsub, sq_lmul, sq_idiv, sq_irem, sq_ldiv, sq_lrem, sq_i2l, sq_lcmp, sq_dupI, sq_dupR, sq_pop, sq_dup2, sq_goto, sq_if_eq, sq_icmp_eq, sq_if_ne, sq_icmp_ne, sq_if_lt, sq_icmp_lt, sq_if_ge, sq_icmp_ge, sq_if_gt, sq_icmp_gt, sq_if_le, sq_icmp_le, sq_iaload, sq_iastore, sq_alen, sq_places, sq_getI, sq_getR, sq_put, sq_ret, sq_lret, sq_vret, sq_switch, sq_callS, sq_callV, sq_copy, sq_max, sq_min, mm_len_2, mm_len_3, mm_len_4, mm_len_6, mm_len_8, mm_len_10, mm_len_11, mm_len_12, mm_len_13, mm_len_14, mm_len_15, mm_len_17, mm_len_18, mm_len_19, mm_len_20, mm_len_21, mm_len_22, mm_len_23, mm_len_24, mm_len_25]
    try simp only [eq_self, true_and, and_true, Bool.false_eq_true, false_implies, true_implies, true_or, or_true, mm_numI, mm_numL, mm_numN, pp_i10, pp_i01, pp_im1, not_false_eq_true, not_true_eq_false, false_or, or_false]
    rw [hn]
    refine ⟨fun hc => absurd hc (nI_ge (by omega) (by omega)), fun _ => ⟨2, _, hd, t_isRestless (by decide) hN hD (show p < 8 by omega), rfl, ?_⟩⟩
    rintro _ _ ⟨rfl, rfl⟩
    simp only [G1_leastRestless_0, G1_leastRestless_1, G1_leastRestless_2, G1_leastRestless_3, G1_leastRestless_4, G1_leastRestless_7, G1_leastRestless_10, G1_leastRestless_13, G1_leastRestless_14, G1_leastRestless_15, G1_leastRestless_18, G1_leastRestless_21, G1_leastRestless_22, G1_leastRestless_23, G1_leastRestless_26, G1_leastRestless_29, G1_leastRestless_30, N1_leastRestless, ↓mm_kc_ap, ↓mm_cut, mm_en, mm_nth, mm_put, mm_sto, mm_stoL, mm_ag, mm_dr, mm_sw, Nat.reduceSub, List.replicate, Option.toList, List.cons_append, List.nil_append, sq_int, sq_lng, sq_iload, sq_lload, sq_aload, sq_istore, sq_lstore, sq_astore, sq_iinc, sq_iadd, sq_isub, sq_imul, sq_iand, sq_ior, sq_ixor, sq_ishl, sq_ishr, sq_iushr, sq_ladd, sq_lsub, sq_lmul, sq_idiv, sq_irem, sq_ldiv, sq_lrem, sq_i2l, sq_lcmp, sq_dupI, sq_dupR, sq_pop, sq_dup2, sq_goto, sq_if_eq, sq_icmp_eq, sq_if_ne, sq_icmp_ne, sq_if_lt, sq_icmp_lt, sq_if_ge, sq_icmp_ge, sq_if_gt, sq_icmp_gt, sq_if_le, sq_icmp_le, sq_iaload, sq_iastore, sq_alen, sq_places, sq_getI, sq_getR, sq_put, sq_ret, sq_lret, sq_vret, sq_switch, sq_callS, sq_callV, sq_copy, sq_max, sq_min, mm_len_2, mm_len_3, mm_len_4, mm_len_6, mm_len_8, mm_len_10, mm_len_11, mm_len_12, mm_len_13, mm_len_14, mm_len_15, mm_len_17, mm_len_18, mm_len_19, mm_len_20, mm_len_21, mm_len_22, mm_len_23, mm_len_24, mm_len_25]
    try simp only [eq_self, true_and, and_true, Bool.false_eq_true, false_implies, true_implies, true_or, or_true, mm_numI, mm_numL, mm_numN, pp_i10, pp_i01, pp_im1, not_false_eq_true, not_true_eq_false, false_or, or_false]
    rw [pp_bne, pp_beq, nI_1]
    refine ⟨fun hb => ih (p + 1) (by omega) (fun j hj => ?_), fun hb => ?_⟩
    · rcases Nat.lt_succ_iff_lt_or_eq.mp hj with h1 | h1
      · exact hno j h1
      · rw [h1]; exact hb
    · unfold mr_lr
      rw [if_pos (pp_any_iff.mpr ⟨p, by omega, hb⟩)]
      obtain ⟨f1, f2, f3⟩ := pp_fst_ok (P := mr_rs n A ds) (k := n - 1) ⟨p, by omega, hb⟩
      rcases Nat.lt_trichotomy (pp_fst (mr_rs n A ds) (n - 1)) p with h1 | h1 | h1
      · rw [hno _ h1] at f2; cases f2
      · rw [h1]
      · rw [f3 p h1] at hb; cases hb
set_option maxRecDepth 20000 in
theorem t_leastRestless {l : Launch} {d : Nat} (hd : 2 < d) {h : mm_H} {n : Nat} {A mk ds : Nat → Nat} (hN : cc_N h n A mk) (hD : mr_D h 10 ds) : mm_Ev l d M1_leastRestless [.ref 9] h (fun r h' => r = some (.int (mr_lr n A ds)) ∧ h' = h) := by
  refine mm_Ev.of (by decide +kernel) (Nat.le_of_ble_eq_true rfl) (mm_rn_ok [2] _ (S1_leastRestless l d _ _) 1000 _ _ _ _ ?_)
  simp only [G1_leastRestless_0, G1_leastRestless_1, G1_leastRestless_2, G1_leastRestless_3, G1_leastRestless_4, G1_leastRestless_7, G1_leastRestless_10, G1_leastRestless_13, G1_leastRestless_14, G1_leastRestless_15, G1_leastRestless_18, G1_leastRestless_21, G1_leastRestless_22, G1_leastRestless_23, G1_leastRestless_26, G1_leastRestless_29, G1_leastRestless_30, N1_leastRestless, ↓mm_kc_ap, ↓mm_cut, mm_en, mm_nth, mm_put, mm_sto, mm_stoL, mm_ag, mm_dr, mm_sw, Nat.reduceSub, List.replicate, Option.toList, List.cons_append, List.nil_append, sq_int, sq_lng, sq_iload, sq_lload, sq_aload, sq_istore, sq_lstore, sq_astore, sq_iinc, sq_iadd, sq_isub, sq_imul, sq_iand, sq_ior, sq_ixor, sq_ishl, sq_ishr, sq_iushr, sq_ladd, sq_lsub, sq_lmul, sq_idiv, sq_irem, sq_ldiv, sq_lrem, sq_i2l, sq_lcmp, sq_dupI, sq_dupR, sq_pop, sq_dup2, sq_goto, sq_if_eq, sq_icmp_eq, sq_if_ne, sq_icmp_ne, sq_if_lt, sq_icmp_lt, sq_if_ge, sq_icmp_ge, sq_if_gt, sq_icmp_gt, sq_if_le, sq_icmp_le, sq_iaload, sq_iastore, sq_alen, sq_places, sq_getI, sq_getR, sq_put, sq_ret, sq_lret, sq_vret, sq_switch, sq_callS, sq_callV, sq_copy, sq_max, sq_min, mm_len_2, mm_len_3, mm_len_4, mm_len_6, mm_len_8, mm_len_10, mm_len_11, mm_len_12, mm_len_13, mm_len_14, mm_len_15, mm_len_17, mm_len_18, mm_len_19, mm_len_20, mm_len_21, mm_len_22, mm_len_23, mm_len_24, mm_len_25]
  try simp only [eq_self, true_and, and_true, Bool.false_eq_true, false_implies, true_implies, true_or, or_true, mm_numI, mm_numL, mm_numN, pp_i10, pp_i01, pp_im1, not_false_eq_true, not_true_eq_false, false_or, or_false]
  exact t_least_loop hd hN hD n 0 (by omega) (fun j hj => absurd hj (Nat.not_lt_zero j))
/-- moves of the least restless, k more at most -/
def mr_go (n : Nat) (A : Nat → Nat) : Nat → Nat → (Nat → Nat) → Int32 × (Nat → Nat)
  | 0, done, ds => (if pp_any (mr_rs n A ds) n = true then -1 else nI done, ds)
  | k + 1, done, ds => if pp_any (mr_rs n A ds) n = true then mr_go n A k (done + 1) (mr_st n A ds (pp_fst (mr_rs n A ds) (n - 1))) else (nI done, ds)
theorem mr_lr_m1 {n : Nat} {A ds : Nat → Nat} (n8 : n ≤ 8) : mr_lr n A ds = -1 ↔ ¬ pp_any (mr_rs n A ds) n = true := by
  unfold mr_lr
  by_cases h : pp_any (mr_rs n A ds) n = true
  · rw [if_pos h]
    obtain ⟨j, hj, hb⟩ := pp_any_iff.mp h
    have := (pp_fst_ok (P := mr_rs n A ds) (k := n - 1) ⟨j, by omega, hb⟩).1
    exact ⟨fun hc => absurd hc.symm (pp_m1 (by omega)), fun hc => absurd h hc⟩
  · rw [if_neg h]
    exact ⟨fun _ => h, fun _ => rfl⟩
def mr_mp (n : Nat) (A : Nat → Nat) (k done : Nat) (ds : Nat → Nat) (c : Nat) (h : mm_H) : mm_Po := fun r h' => r = some (.int (mr_go n A k done ds).1) ∧ mr_D h' c (mr_go n A k done ds).2 ∧ ∀ x, x ≠ c → h' x = h x
set_option maxRecDepth 20000 in
theorem t_settle_loop {l : Launch} {d : Nat} (hd : 3 < d) {E : mm_X} {n : Nat} {A mk : Nat → Nat} (h0 : mm_H) (D0 : Nat → Nat) : ∀ (k done : Nat), done + k = 1000 → ∀ (ds : Nat → Nat) (h : mm_H) (x2 : Option Value), cc_N h n A mk → mr_D h 10 ds → mr_go n A 1000 0 D0 = mr_go n A k done ds → (∀ x, x ≠ 10 → h x = h0 x) → mm_At l d M1_settle E (mr_mp n A 1000 0 D0 10 h0) 2 [some (.ref 9), some (.int (nI done)), x2] [] h := by
  intro k
  induction k with
  | zero =>
    intro done hk ds h x2 hN hD hgo hfr
    have n8 := hN.2.1
    have e : done = 1000 := by omega
    subst e
    refine mm_rn_ok [] _ (S1_settle l d _ _) 1000 _ _ _ _ ?_
    simp only [G1_settle_0, G1_settle_1, G1_settle_2, G1_settle_3, G1_settle_6, G1_settle_9, G1_settle_10, G1_settle_13, G1_settle_14, G1_settle_15, G1_settle_16, G1_settle_19, G1_settle_20, G1_settle_21, G1_settle_22, G1_settle_23, G1_settle_26, G1_settle_29, G1_settle_32, G1_settle_33, G1_settle_36, G1_settle_37, G1_settle_40, G1_settle_43, G1_settle_46, G1_settle_47, N1_settle, ↓mm_kc_ap, ↓mm_cut, mm_en, mm_nth, mm_put, mm_sto, mm_stoL, mm_ag, mm_dr, mm_sw, Nat.reduceSub, List.replicate, Option.toList, List.cons_append, List.nil_append, sq_int, sq_lng, sq_iload, sq_lload, sq_aload, sq_istore, sq_lstore, sq_astore, sq_iinc, sq_iadd, sq_isub, sq_imul, sq_iand, sq_ior, sq_ixor, sq_ishl, sq_ishr, sq_iushr, sq_ladd, sq_lsub, sq_lmul, sq_idiv, sq_irem, sq_ldiv, sq_lrem, sq_i2l, sq_lcmp, sq_dupI, sq_dupR, sq_pop, sq_dup2, sq_goto, sq_if_eq, sq_icmp_eq, sq_if_ne, sq_icmp_ne, sq_if_lt, sq_icmp_lt, sq_if_ge, sq_icmp_ge, sq_if_gt, sq_icmp_gt, sq_if_le, sq_icmp_le, sq_iaload, sq_iastore, sq_alen, sq_places, sq_getI, sq_getR, sq_put, sq_ret, sq_lret, sq_vret, sq_switch, sq_callS, sq_callV, sq_copy, sq_max, sq_min, mm_len_2, mm_len_3, mm_len_4, mm_len_6, mm_len_8, mm_len_10, mm_len_11, mm_len_12, mm_len_13, mm_len_14, mm_len_15, mm_len_17, mm_len_18, mm_len_19, mm_len_20, mm_len_21, mm_len_22, mm_len_23, mm_len_24, mm_len_25]
    try simp only [eq_self, true_and, and_true, Bool.false_eq_true, false_implies, true_implies, true_or, or_true, mm_numI, mm_numL, mm_numN, pp_i10, pp_i01, pp_im1, not_false_eq_true, not_true_eq_false, false_or, or_false]
    refine ⟨fun _ => ⟨3, _, hd, t_leastRestless (by decide) hN hD, rfl, ?_⟩, fun hc => absurd (nI_le (a := 1000) (b := 1000) (Nat.le_refl _) (by decide)) hc⟩
    rintro _ _ ⟨rfl, rfl⟩
    simp only [G1_settle_0, G1_settle_1, G1_settle_2, G1_settle_3, G1_settle_6, G1_settle_9, G1_settle_10, G1_settle_13, G1_settle_14, G1_settle_15, G1_settle_16, G1_settle_19, G1_settle_20, G1_settle_21, G1_settle_22, G1_settle_23, G1_settle_26, G1_settle_29, G1_settle_32, G1_settle_33, G1_settle_36, G1_settle_37, G1_settle_40, G1_settle_43, G1_settle_46, G1_settle_47, N1_settle, ↓mm_kc_ap, ↓mm_cut, mm_en, mm_nth, mm_put, mm_sto, mm_stoL, mm_ag, mm_dr, mm_sw, Nat.reduceSub, List.replicate, Option.toList, List.cons_append, List.nil_append, sq_int, sq_lng, sq_iload, sq_lload, sq_aload, sq_istore, sq_lstore, sq_astore, sq_iinc, sq_iadd, sq_isub, sq_imul, sq_iand, sq_ior, sq_ixor, sq_ishl, sq_ishr, sq_iushr, sq_ladd, sq_lsub, sq_lmul, sq_idiv, sq_irem, sq_ldiv, sq_lrem, sq_i2l, sq_lcmp, sq_dupI, sq_dupR, sq_pop, sq_dup2, sq_goto, sq_if_eq, sq_icmp_eq, sq_if_ne, sq_icmp_ne, sq_if_lt, sq_icmp_lt, sq_if_ge, sq_icmp_ge, sq_if_gt, sq_icmp_gt, sq_if_le, sq_icmp_le, sq_iaload, sq_iastore, sq_alen, sq_places, sq_getI, sq_getR, sq_put, sq_ret, sq_lret, sq_vret, sq_switch, sq_callS, sq_callV, sq_copy, sq_max, sq_min, mm_len_2, mm_len_3, mm_len_4, mm_len_6, mm_len_8, mm_len_10, mm_len_11, mm_len_12, mm_len_13, mm_len_14, mm_len_15, mm_len_17, mm_len_18, mm_len_19, mm_len_20, mm_len_21, mm_len_22, mm_len_23, mm_len_24, mm_len_25]
    try simp only [eq_self, true_and, and_true, Bool.false_eq_true, false_implies, true_implies, true_or, or_true, mm_numI, mm_numL, mm_numN, pp_i10, pp_i01, pp_im1, not_false_eq_true, not_true_eq_false, false_or, or_false]
    rw [mr_lr_m1 n8]
    refine ⟨fun hc => ⟨?_, ?_, hfr⟩, fun hc => ⟨?_, ?_, hfr⟩⟩
    · rw [hgo]
      show some (Value.int (-1)) = some (.int (if pp_any (mr_rs n A ds) n = true then -1 else nI 1000))
      rw [if_pos (Classical.not_not.mp hc)]
    · rw [hgo]
      exact hD
    · rw [hgo]
      show some (Value.int 1000) = some (.int (if pp_any (mr_rs n A ds) n = true then -1 else nI 1000))
      rw [if_neg hc]
      rfl
    · rw [hgo]
      exact hD
  | succ k ih =>
    intro done hk ds h x2 hN hD hgo hfr
    have n8 := hN.2.1
    have n1 := hN.1
    have hgo2 : mr_go n A (k + 1) done ds = if pp_any (mr_rs n A ds) n = true then mr_go n A k (done + 1) (mr_st n A ds (pp_fst (mr_rs n A ds) (n - 1))) else (nI done, ds) := rfl
    refine mm_rn_ok [] _ (S1_settle l d _ _) 1000 _ _ _ _ ?_
    simp only [G1_settle_0, G1_settle_1, G1_settle_2, G1_settle_3, G1_settle_6, G1_settle_9, G1_settle_10, G1_settle_13, G1_settle_14, G1_settle_15, G1_settle_16, G1_settle_19, G1_settle_20, G1_settle_21, G1_settle_22, G1_settle_23, G1_settle_26, G1_settle_29, G1_settle_32, G1_settle_33, G1_settle_36, G1_settle_37, G1_settle_40, G1_settle_43, G1_settle_46, G1_settle_47, N1_settle, ↓mm_kc_ap, ↓mm_cut, mm_en, mm_nth, mm_put, mm_sto, mm_stoL, mm_ag, mm_dr, mm_sw, Nat.reduceSub, List.replicate, Option.toList, List.cons_append, List.nil_append, sq_int, sq_lng, sq_iload, sq_lload, sq_aload, sq_istore, sq_lstore, sq_astore, sq_iinc, sq_iadd, sq_isub, sq_imul, sq_iand, sq_ior, sq_ixor, sq_ishl, sq_ishr, sq_iushr, sq_ladd, sq_lsub, sq_lmul, sq_idiv, sq_irem, sq_ldiv, sq_lrem, sq_i2l, sq_lcmp, sq_dupI, sq_dupR, sq_pop, sq_dup2, sq_goto, sq_if_eq, sq_icmp_eq, sq_if_ne, sq_icmp_ne, sq_if_lt, sq_icmp_lt, sq_if_ge, sq_icmp_ge, sq_if_gt, sq_icmp_gt, sq_if_le, sq_icmp_le, sq_iaload, sq_iastore, sq_alen, sq_places, sq_getI, sq_getR, sq_put, sq_ret, sq_lret, sq_vret, sq_switch, sq_callS, sq_callV, sq_copy, sq_max, sq_min, mm_len_2, mm_len_3, mm_len_4, mm_len_6, mm_len_8, mm_len_10, mm_len_11, mm_len_12, mm_len_13, mm_len_14, mm_len_15, mm_len_17, mm_len_18, mm_len_19, mm_len_20, mm_len_21, mm_len_22, mm_len_23, mm_len_24, mm_len_25]
    try simp only [eq_self, true_and, and_true, Bool.false_eq_true, false_implies, true_implies, true_or, or_true, mm_numI, mm_numL, mm_numN, pp_i10, pp_i01, pp_im1, not_false_eq_true, not_true_eq_false, false_or, or_false]
    have hlt : ¬ (1000 : Int32) ≤ nI done := nI_ge (b := 1000) (show done < 1000 by omega) (by decide)
    refine ⟨fun hc => absurd hc hlt, fun _ => ⟨3, _, hd, t_leastRestless (by decide) hN hD, rfl, ?_⟩⟩
    rintro _ _ ⟨rfl, rfl⟩
    simp only [G1_settle_0, G1_settle_1, G1_settle_2, G1_settle_3, G1_settle_6, G1_settle_9, G1_settle_10, G1_settle_13, G1_settle_14, G1_settle_15, G1_settle_16, G1_settle_19, G1_settle_20, G1_settle_21, G1_settle_22, G1_settle_23, G1_settle_26, G1_settle_29, G1_settle_32, G1_settle_33, G1_settle_36, G1_settle_37, G1_settle_40, G1_settle_43, G1_settle_46, G1_settle_47, N1_settle, ↓mm_kc_ap, ↓mm_cut, mm_en, mm_nth, mm_put, mm_sto, mm_stoL, mm_ag, mm_dr, mm_sw, Nat.reduceSub, List.replicate, Option.toList, List.cons_append, List.nil_append, sq_int, sq_lng, sq_iload, sq_lload, sq_aload, sq_istore, sq_lstore, sq_astore, sq_iinc, sq_iadd, sq_isub, sq_imul, sq_iand, sq_ior, sq_ixor, sq_ishl, sq_ishr, sq_iushr, sq_ladd, sq_lsub, sq_lmul, sq_idiv, sq_irem, sq_ldiv, sq_lrem, sq_i2l, sq_lcmp, sq_dupI, sq_dupR, sq_pop, sq_dup2, sq_goto, sq_if_eq, sq_icmp_eq, sq_if_ne, sq_icmp_ne, sq_if_lt, sq_icmp_lt, sq_if_ge, sq_icmp_ge, sq_if_gt, sq_icmp_gt, sq_if_le, sq_icmp_le, sq_iaload, sq_iastore, sq_alen, sq_places, sq_getI, sq_getR, sq_put, sq_ret, sq_lret, sq_vret, sq_switch, sq_callS, sq_callV, sq_copy, sq_max, sq_min, mm_len_2, mm_len_3, mm_len_4, mm_len_6, mm_len_8, mm_len_10, mm_len_11, mm_len_12, mm_len_13, mm_len_14, mm_len_15, mm_len_17, mm_len_18, mm_len_19, mm_len_20, mm_len_21, mm_len_22, mm_len_23, mm_len_24, mm_len_25]
    try simp only [eq_self, true_and, and_true, Bool.false_eq_true, false_implies, true_implies, true_or, or_true, mm_numI, mm_numL, mm_numN, pp_i10, pp_i01, pp_im1, not_false_eq_true, not_true_eq_false, false_or, or_false]
    rw [mr_lr_m1 n8]
    refine ⟨fun hc => ?_, fun hc => ⟨?_, ?_, hfr⟩⟩
    · have hc := Classical.not_not.mp hc
      obtain ⟨j, hj, hb⟩ := pp_any_iff.mp hc
      have hle := (pp_fst_ok (P := mr_rs n A ds) (k := n - 1) ⟨j, by omega, hb⟩).1
      have el : mr_lr n A ds = nI (pp_fst (mr_rs n A ds) (n - 1)) := by
        unfold mr_lr
        rw [if_pos hc]
      rw [el]
      refine ⟨2, _, by omega, t_obey (by decide) hN hD (show pp_fst (mr_rs n A ds) (n - 1) < 8 by omega), rfl, ?_⟩
      rintro _ _ ⟨rfl, rfl⟩
      simp only [G1_settle_0, G1_settle_1, G1_settle_2, G1_settle_3, G1_settle_6, G1_settle_9, G1_settle_10, G1_settle_13, G1_settle_14, G1_settle_15, G1_settle_16, G1_settle_19, G1_settle_20, G1_settle_21, G1_settle_22, G1_settle_23, G1_settle_26, G1_settle_29, G1_settle_32, G1_settle_33, G1_settle_36, G1_settle_37, G1_settle_40, G1_settle_43, G1_settle_46, G1_settle_47, N1_settle, ↓mm_kc_ap, ↓mm_cut, mm_en, mm_nth, mm_put, mm_sto, mm_stoL, mm_ag, mm_dr, mm_sw, Nat.reduceSub, List.replicate, Option.toList, List.cons_append, List.nil_append, sq_int, sq_lng, sq_iload, sq_lload, sq_aload, sq_istore, sq_lstore, sq_astore, sq_iinc, sq_iadd, sq_isub, sq_imul, sq_iand, sq_ior, sq_ixor, sq_ishl, sq_ishr, sq_iushr, sq_ladd, sq_lsub, sq_lmul, sq_idiv, sq_irem, sq_ldiv, sq_lrem, sq_i2l, sq_lcmp, sq_dupI, sq_dupR, sq_pop, sq_dup2, sq_goto, sq_if_eq, sq_icmp_eq, sq_if_ne, sq_icmp_ne, sq_if_lt, sq_icmp_lt, sq_if_ge, sq_icmp_ge, sq_if_gt, sq_icmp_gt, sq_if_le, sq_icmp_le, sq_iaload, sq_iastore, sq_alen, sq_places, sq_getI, sq_getR, sq_put, sq_ret, sq_lret, sq_vret, sq_switch, sq_callS, sq_callV, sq_copy, sq_max, sq_min, mm_len_2, mm_len_3, mm_len_4, mm_len_6, mm_len_8, mm_len_10, mm_len_11, mm_len_12, mm_len_13, mm_len_14, mm_len_15, mm_len_17, mm_len_18, mm_len_19, mm_len_20, mm_len_21, mm_len_22, mm_len_23, mm_len_24, mm_len_25]
      try simp only [eq_self, true_and, and_true, Bool.false_eq_true, false_implies, true_implies, true_or, or_true, mm_numI, mm_numL, mm_numN, pp_i10, pp_i01, pp_im1, not_false_eq_true, not_true_eq_false, false_or, or_false]
      rw [nI_1]
      refine ih (done + 1) (by omega) _ _ _ (hN.cg (mm_set_ne (by decide)) (mm_set_ne (by decide)) (mm_set_ne (by decide))) (mr_D_st hD) ?_ (fun x hx => ?_)
      · rw [hgo, hgo2, if_pos hc]
      · rw [mm_set_ne hx]
        exact hfr x hx
    · rw [hgo, hgo2, if_neg hc]
    · rw [hgo, hgo2, if_neg hc]
      exact hD
set_option maxRecDepth 20000 in
theorem t_settle {l : Launch} {d : Nat} (hd : 3 < d) {h : mm_H} {n : Nat} {A mk ds : Nat → Nat} (hN : cc_N h n A mk) (hD : mr_D h 10 ds) : mm_Ev l d M1_settle [.ref 9] h (mr_mp n A 1000 0 ds 10 h) := by
  refine mm_Ev.of (by decide +kernel) (Nat.le_of_ble_eq_true rfl) (mm_rn_ok [2] _ (S1_settle l d _ _) 1000 _ _ _ _ ?_)
  simp only [G1_settle_0, G1_settle_1, G1_settle_2, G1_settle_3, G1_settle_6, G1_settle_9, G1_settle_10, G1_settle_13, G1_settle_14, G1_settle_15, G1_settle_16, G1_settle_19, G1_settle_20, G1_settle_21, G1_settle_22, G1_settle_23, G1_settle_26, G1_settle_29, G1_settle_32, G1_settle_33, G1_settle_36, G1_settle_37, G1_settle_40, G1_settle_43, G1_settle_46, G1_settle_47, N1_settle, ↓mm_kc_ap, ↓mm_cut, mm_en, mm_nth, mm_put, mm_sto, mm_stoL, mm_ag, mm_dr, mm_sw, Nat.reduceSub, List.replicate, Option.toList, List.cons_append, List.nil_append, sq_int, sq_lng, sq_iload, sq_lload, sq_aload, sq_istore, sq_lstore, sq_astore, sq_iinc, sq_iadd, sq_isub, sq_imul, sq_iand, sq_ior, sq_ixor, sq_ishl, sq_ishr, sq_iushr, sq_ladd, sq_lsub, sq_lmul, sq_idiv, sq_irem, sq_ldiv, sq_lrem, sq_i2l, sq_lcmp, sq_dupI, sq_dupR, sq_pop, sq_dup2, sq_goto, sq_if_eq, sq_icmp_eq, sq_if_ne, sq_icmp_ne, sq_if_lt, sq_icmp_lt, sq_if_ge, sq_icmp_ge, sq_if_gt, sq_icmp_gt, sq_if_le, sq_icmp_le, sq_iaload, sq_iastore, sq_alen, sq_places, sq_getI, sq_getR, sq_put, sq_ret, sq_lret, sq_vret, sq_switch, sq_callS, sq_callV, sq_copy, sq_max, sq_min, mm_len_2, mm_len_3, mm_len_4, mm_len_6, mm_len_8, mm_len_10, mm_len_11, mm_len_12, mm_len_13, mm_len_14, mm_len_15, mm_len_17, mm_len_18, mm_len_19, mm_len_20, mm_len_21, mm_len_22, mm_len_23, mm_len_24, mm_len_25]
  try simp only [eq_self, true_and, and_true, Bool.false_eq_true, false_implies, true_implies, true_or, or_true, mm_numI, mm_numL, mm_numN, pp_i10, pp_i01, pp_im1, not_false_eq_true, not_true_eq_false, false_or, or_false]
  exact t_settle_loop hd h ds 1000 0 (by omega) ds h none hN hD rfl (fun _ _ => rfl)
