/-! ===== states as one number (class): post q's place is 5 to the q ===== -/
theorem mm_At.plc {l : Launch} {d : Nat} {M : mm_M} {E : mm_X} {post : mm_Po} {pc : Nat} {L : mm_L} {st : List Value} {h : mm_H} (f : h 25 = mm_plc → mm_At l d M E post pc L st h) : mm_At l d M E post pc L st h := by
  intro p e R s m args below meth c cells slots Q D ad cA A H locs ls hC hR hW hL
  exact f hW.2.2.2 p e R s m args below meth c cells slots Q D ad cA A H locs ls hC hR hW hL
set_option maxRecDepth 20000 in
theorem t_ruleN_loop {l : Launch} {d : Nat} (hd : 0 < d) {E : mm_X} {h : mm_H} {n : Nat} {A mk ds : Nat → Nat} (hN : cc_N h n A mk) {a p : Nat} (ha : mm_len a = 8) (hf : ∀ q, q < n → h a q = nI (ds q)) (h5 : ∀ q, ds q < 5) (hp : p < 8) (h0 : ¬ p = 0) : ∀ (k q : Nat), q + k = n → mm_At l d M1_rule E (fun r h' => r = some (.int (nI (mr_rule n A ds p))) ∧ h' = h) 11 [some (.ref 9), some (.ref a), some (.int (nI p)), some (.int (nI (mr_min A ds p q))), some (.int (nI q))] [] h := by
  have hN' := hN
  obtain ⟨n1, n8, hn, hA, hm, hA8, hm4⟩ := hN
  intro k
  induction k with
  | zero =>
    intro q hq
    have e : q = n := by omega
    subst e
    refine mm_rn_ok [] _ (S1_rule l d _ _) 1000 _ _ _ _ ?_
    simp only [G1_rule_0, G1_rule_1, G1_rule_4, G1_rule_5, G1_rule_6, G1_rule_7, G1_rule_8, G1_rule_9, G1_rule_11, G1_rule_13, G1_rule_14, G1_rule_17, G1_rule_20, G1_rule_23, G1_rule_24, G1_rule_27, G1_rule_28, G1_rule_30, G1_rule_33, G1_rule_34, G1_rule_37, G1_rule_38, G1_rule_39, G1_rule_41, G1_rule_42, G1_rule_45, G1_rule_46, G1_rule_49, G1_rule_52, G1_rule_53, G1_rule_54, G1_rule_55, N1_rule, ↓mm_kc_ap, ↓mm_cut, mm_en, mm_nth, mm_put, mm_sto, mm_stoL, mm_ag, mm_dr, mm_sw, Nat.reduceSub, List.replicate, Option.toList, List.cons_append, List.nil_append, sq_int, sq_lng, sq_iload, sq_lload, sq_aload, sq_istore, sq_lstore, sq_astore, sq_iinc, sq_iadd, sq_isub, sq_imul, sq_iand, sq_ior, sq_ixor, sq_ishl, sq_ishr, sq_iushr, sq_ladd, sq_lsub, sq_lmul, sq_idiv, sq_irem, sq_ldiv, sq_lrem, sq_i2l, sq_lcmp, sq_dupI, sq_dupR, sq_pop, sq_dup2, sq_goto, sq_if_eq, sq_icmp_eq, sq_if_ne, sq_icmp_ne, sq_if_lt, sq_icmp_lt, sq_if_ge, sq_icmp_ge, sq_if_gt, sq_icmp_gt, sq_if_le, sq_icmp_le, sq_iaload, sq_iastore, sq_alen, sq_places, sq_getI, sq_getR, sq_put, sq_ret, sq_lret, sq_vret, sq_switch, sq_callS, sq_callV, sq_copy, sq_max, sq_min, mm_len_2, mm_len_3, mm_len_4, mm_len_6, mm_len_8, mm_len_10, mm_len_11, mm_len_12, mm_len_13, mm_len_14, mm_len_15, mm_len_17, mm_len_18, mm_len_19, mm_len_20, mm_len_21, mm_len_22, mm_len_23, mm_len_24, mm_len_25]
    try simp only [eq_self, true_and, and_true, Bool.false_eq_true, false_implies, true_implies, true_or, or_true, mm_numI, mm_numL, mm_numN, pp_i10, pp_i01, pp_im1, not_false_eq_true, not_true_eq_false, false_or, or_false]
    rw [hn, nI_1]
    refine ⟨fun _ => ?_, fun hc => absurd (nI_le (Nat.le_refl _) (by omega)) hc⟩
    unfold mr_rule
    rw [if_neg h0]
  | succ k ih =>
    intro q hq
    have ih := ih (q + 1) (by omega)
    rw [mr_min_s] at ih
    refine mm_rn_ok [] _ (S1_rule l d _ _) 1000 _ _ _ _ ?_
    simp only [G1_rule_0, G1_rule_1, G1_rule_4, G1_rule_5, G1_rule_6, G1_rule_7, G1_rule_8, G1_rule_9, G1_rule_11, G1_rule_13, G1_rule_14, G1_rule_17, G1_rule_20, G1_rule_23, G1_rule_24, G1_rule_27, G1_rule_28, G1_rule_30, G1_rule_33, G1_rule_34, G1_rule_37, G1_rule_38, G1_rule_39, G1_rule_41, G1_rule_42, G1_rule_45, G1_rule_46, G1_rule_49, G1_rule_52, G1_rule_53, G1_rule_54, G1_rule_55, N1_rule, ↓mm_kc_ap, ↓mm_cut, mm_en, mm_nth, mm_put, mm_sto, mm_stoL, mm_ag, mm_dr, mm_sw, Nat.reduceSub, List.replicate, Option.toList, List.cons_append, List.nil_append, sq_int, sq_lng, sq_iload, sq_lload, sq_aload, sq_istore, sq_lstore, sq_astore, sq_iinc, sq_iadd, sq_isub, sq_imul, sq_iand, sq_ior, sq_ixor, sq_ishl, sq_ishr, sq_iushr, sq_ladd, sq_lsub, sq_lmul, sq_idiv, sq_irem, sq_ldiv, sq_lrem, sq_i2l, sq_lcmp, sq_dupI, sq_dupR, sq_pop, sq_dup2, sq_goto, sq_if_eq, sq_icmp_eq, sq_if_ne, sq_icmp_ne, sq_if_lt, sq_icmp_lt, sq_if_ge, sq_icmp_ge, sq_if_gt, sq_icmp_gt, sq_if_le, sq_icmp_le, sq_iaload, sq_iastore, sq_alen, sq_places, sq_getI, sq_getR, sq_put, sq_ret, sq_lret, sq_vret, sq_switch, sq_callS, sq_callV, sq_copy, sq_max, sq_min, mm_len_2, mm_len_3, mm_len_4, mm_len_6, mm_len_8, mm_len_10, mm_len_11, mm_len_12, mm_len_13, mm_len_14, mm_len_15, mm_len_17, mm_len_18, mm_len_19, mm_len_20, mm_len_21, mm_len_22, mm_len_23, mm_len_24, mm_len_25]
    try simp only [eq_self, true_and, and_true, Bool.false_eq_true, false_implies, true_implies, true_or, or_true, mm_numI, mm_numL, mm_numN, pp_i10, pp_i01, pp_im1, not_false_eq_true, not_true_eq_false, false_or, or_false]
    rw [hn]
    refine ⟨fun hc => absurd hc (nI_ge (by omega) (by omega)), fun _ => ⟨0, _, hd, t_joined hN' hp (by omega), rfl, ?_⟩⟩
    rintro _ _ ⟨rfl, rfl⟩
    simp only [G1_rule_0, G1_rule_1, G1_rule_4, G1_rule_5, G1_rule_6, G1_rule_7, G1_rule_8, G1_rule_9, G1_rule_11, G1_rule_13, G1_rule_14, G1_rule_17, G1_rule_20, G1_rule_23, G1_rule_24, G1_rule_27, G1_rule_28, G1_rule_30, G1_rule_33, G1_rule_34, G1_rule_37, G1_rule_38, G1_rule_39, G1_rule_41, G1_rule_42, G1_rule_45, G1_rule_46, G1_rule_49, G1_rule_52, G1_rule_53, G1_rule_54, G1_rule_55, N1_rule, ↓mm_kc_ap, ↓mm_cut, mm_en, mm_nth, mm_put, mm_sto, mm_stoL, mm_ag, mm_dr, mm_sw, Nat.reduceSub, List.replicate, Option.toList, List.cons_append, List.nil_append, sq_int, sq_lng, sq_iload, sq_lload, sq_aload, sq_istore, sq_lstore, sq_astore, sq_iinc, sq_iadd, sq_isub, sq_imul, sq_iand, sq_ior, sq_ixor, sq_ishl, sq_ishr, sq_iushr, sq_ladd, sq_lsub, sq_lmul, sq_idiv, sq_irem, sq_ldiv, sq_lrem, sq_i2l, sq_lcmp, sq_dupI, sq_dupR, sq_pop, sq_dup2, sq_goto, sq_if_eq, sq_icmp_eq, sq_if_ne, sq_icmp_ne, sq_if_lt, sq_icmp_lt, sq_if_ge, sq_icmp_ge, sq_if_gt, sq_icmp_gt, sq_if_le, sq_icmp_le, sq_iaload, sq_iastore, sq_alen, sq_places, sq_getI, sq_getR, sq_put, sq_ret, sq_lret, sq_vret, sq_switch, sq_callS, sq_callV, sq_copy, sq_max, sq_min, mm_len_2, mm_len_3, mm_len_4, mm_len_6, mm_len_8, mm_len_10, mm_len_11, mm_len_12, mm_len_13, mm_len_14, mm_len_15, mm_len_17, mm_len_18, mm_len_19, mm_len_20, mm_len_21, mm_len_22, mm_len_23, mm_len_24, mm_len_25]
    try simp only [eq_self, true_and, and_true, Bool.false_eq_true, false_implies, true_implies, true_or, or_true, mm_numI, mm_numL, mm_numN, pp_i10, pp_i01, pp_im1, not_false_eq_true, not_true_eq_false, false_or, or_false]
    have hle := mr_min_le A ds p q
    have h5q := h5 q
    rw [pp_b_is1, ha, nI_clamp (show q < 2 ^ 31 by omega), hf q (by omega), nI_1]
    refine ⟨fun hb => ?_, fun hb => ⟨vp_in_nI (by omega) (by decide), hd, rfl, ?_⟩⟩
    · rw [if_neg (by rw [Bool.and_eq_true]; exact fun z => hb z.1)] at ih
      exact ih
    · have elt : (nI (ds q) < nI (mr_min A ds p q)) ↔ ds q < mr_min A ds p q := nI_ltI (by omega) (by omega)
      by_cases hc : ds q < mr_min A ds p q
      · rw [if_pos (by rw [hb, decide_eq_true hc]; rfl)] at ih
        rw [if_pos (elt.mpr hc)]
        exact ih
      · rw [if_neg (by rw [decide_eq_false hc, Bool.and_false]; exact Bool.false_ne_true)] at ih
        rw [if_neg (fun z => hc (elt.mp z))]
        exact ih
set_option maxRecDepth 20000 in
theorem t_ruleN {l : Launch} {d : Nat} (hd : 0 < d) {h : mm_H} {n : Nat} {A mk ds : Nat → Nat} (hN : cc_N h n A mk) {a p : Nat} (ha : mm_len a = 8) (hf : ∀ q, q < n → h a q = nI (ds q)) (h5 : ∀ q, ds q < 5) (hp : p < 8) : mm_Ev l d M1_rule [.ref 9, .ref a, .int (nI p)] h (fun r h' => r = some (.int (nI (mr_rule n A ds p))) ∧ h' = h) := by
  refine mm_Ev.of (by decide +kernel) (Nat.le_of_ble_eq_true rfl) (mm_rn_ok [11] _ (S1_rule l d _ _) 1000 _ _ _ _ ?_)
  simp only [G1_rule_0, G1_rule_1, G1_rule_4, G1_rule_5, G1_rule_6, G1_rule_7, G1_rule_8, G1_rule_9, G1_rule_11, G1_rule_13, G1_rule_14, G1_rule_17, G1_rule_20, G1_rule_23, G1_rule_24, G1_rule_27, G1_rule_28, G1_rule_30, G1_rule_33, G1_rule_34, G1_rule_37, G1_rule_38, G1_rule_39, G1_rule_41, G1_rule_42, G1_rule_45, G1_rule_46, G1_rule_49, G1_rule_52, G1_rule_53, G1_rule_54, G1_rule_55, N1_rule, ↓mm_kc_ap, ↓mm_cut, mm_en, mm_nth, mm_put, mm_sto, mm_stoL, mm_ag, mm_dr, mm_sw, Nat.reduceSub, List.replicate, Option.toList, List.cons_append, List.nil_append, sq_int, sq_lng, sq_iload, sq_lload, sq_aload, sq_istore, sq_lstore, sq_astore, sq_iinc, sq_iadd, sq_isub, sq_imul, sq_iand, sq_ior, sq_ixor, sq_ishl, sq_ishr, sq_iushr, sq_ladd, sq_lsub, sq_lmul, sq_idiv, sq_irem, sq_ldiv, sq_lrem, sq_i2l, sq_lcmp, sq_dupI, sq_dupR, sq_pop, sq_dup2, sq_goto, sq_if_eq, sq_icmp_eq, sq_if_ne, sq_icmp_ne, sq_if_lt, sq_icmp_lt, sq_if_ge, sq_icmp_ge, sq_if_gt, sq_icmp_gt, sq_if_le, sq_icmp_le, sq_iaload, sq_iastore, sq_alen, sq_places, sq_getI, sq_getR, sq_put, sq_ret, sq_lret, sq_vret, sq_switch, sq_callS, sq_callV, sq_copy, sq_max, sq_min, mm_len_2, mm_len_3, mm_len_4, mm_len_6, mm_len_8, mm_len_10, mm_len_11, mm_len_12, mm_len_13, mm_len_14, mm_len_15, mm_len_17, mm_len_18, mm_len_19, mm_len_20, mm_len_21, mm_len_22, mm_len_23, mm_len_24, mm_len_25]
  try simp only [eq_self, true_and, and_true, Bool.false_eq_true, false_implies, true_implies, true_or, or_true, mm_numI, mm_numL, mm_numN, pp_i10, pp_i01, pp_im1, not_false_eq_true, not_true_eq_false, false_or, or_false]
  rw [pp_eq0 (show p < 2 ^ 31 by omega)]
  refine ⟨fun h0 => t_ruleN_loop hd hN ha hf h5 hp h0 n 0 (by omega), fun h0 => ?_⟩
  unfold mr_rule
  rw [if_pos h0]
  rfl
def lc_d (x q : Nat) : Nat := x / 5 ^ q % 5
def lc_c (ds : Nat → Nat) : Nat → Nat
  | 0 => 0
  | k + 1 => lc_c ds k + ds k * 5 ^ k
theorem lc_c_s (ds : Nat → Nat) (k : Nat) : lc_c ds (k + 1) = lc_c ds k + ds k * 5 ^ k := rfl
theorem lc_d_5 (x q : Nat) : lc_d x q < 5 := Nat.mod_lt _ (by decide)
theorem lc_c_lt {ds : Nat → Nat} (h : ∀ q, ds q < 5) : ∀ k, lc_c ds k < 5 ^ k
  | 0 => (show 0 < 1 by decide)
  | k + 1 => by
    have ih := lc_c_lt h k
    have hk := h k
    rw [lc_c_s, Nat.pow_succ]
    have : ds k * 5 ^ k ≤ 4 * 5 ^ k := Nat.mul_le_mul_right _ (by omega)
    omega
theorem lc_d_c {ds : Nat → Nat} (h : ∀ q, ds q < 5) : ∀ {k q : Nat}, q < k → lc_d (lc_c ds k) q = ds q
  | 0, q, hq => absurd hq (Nat.not_lt_zero q)
  | k + 1, q, hq => by
    have hlt := lc_c_lt h k
    have hp : 0 < 5 ^ q := Nat.pow_pos (by decide)
    unfold lc_d
    rw [lc_c_s]
    by_cases e : q = k
    · subst e
      rw [Nat.add_mul_div_right _ _ hp, Nat.div_eq_of_lt hlt, Nat.zero_add, Nat.mod_eq_of_lt (h q)]
    · have ih := lc_d_c h (k := k) (q := q) (by omega)
      unfold lc_d at ih
      have e2 : ds k * 5 ^ k = (ds k * 5 ^ (k - q - 1) * 5) * 5 ^ q := by
        rw [Nat.mul_assoc, Nat.mul_assoc, ← Nat.pow_succ', ← Nat.pow_add]
        congr 2
        omega
      rw [e2, Nat.add_mul_div_right _ _ hp, Nat.add_mul_mod_self_right]
      exact ih
theorem lc_c_d (x : Nat) : ∀ k, lc_c (lc_d x) k = x % 5 ^ k
  | 0 => by simp [lc_c, Nat.mod_one]
  | k + 1 => by
    rw [lc_c_s, lc_c_d x k, Nat.mod_pow_succ]
    unfold lc_d
    rw [Nat.mul_comm (5 ^ k)]
theorem lc_c_cg {ds es : Nat → Nat} : ∀ {k : Nat}, (∀ q, q < k → ds q = es q) → lc_c ds k = lc_c es k
  | 0, _ => rfl
  | k + 1, h => by rw [lc_c_s, lc_c_s, lc_c_cg (fun q hq => h q (by omega)), h k (by omega)]
theorem lc_c_up {ds : Nat → Nat} {p v : Nat} : ∀ {k : Nat}, p < k → lc_c (fun q => if q = p then v else ds q) k + ds p * 5 ^ p = lc_c ds k + v * 5 ^ p
  | 0, h => absurd h (Nat.not_lt_zero p)
  | k + 1, h => by
    rw [lc_c_s, lc_c_s]
    by_cases e : p = k
    · subst e
      rw [if_pos rfl, lc_c_cg (es := ds) (fun q hq => if_neg (by omega))]
      omega
    · have ih := lc_c_up (ds := ds) (v := v) (k := k) (p := p) (by omega)
      rw [if_neg (fun z => e z.symm)]
      omega
def lc_b (n : Nat) (A : Nat → Nat) (x p : Nat) : Nat := lc_c (mr_st n A (lc_d x) p) n
theorem lc_b_lt (n : Nat) (A : Nat → Nat) (x p : Nat) : lc_b n A x p < 5 ^ n := lc_c_lt (mr_st_5 (lc_d_5 x) p) n
theorem lc_b_d {n : Nat} {A : Nat → Nat} {x p : Nat} : ∀ q, q < n → lc_d (lc_b n A x p) q = mr_st n A (lc_d x) p q := fun q hq => lc_d_c (mr_st_5 (lc_d_5 x) p) hq
theorem lc_b_up {n : Nat} {A : Nat → Nat} {x p : Nat} (hx : x < 5 ^ n) (hp : p < n) : lc_b n A x p + lc_d x p * 5 ^ p = x + mr_rule n A (lc_d x) p * 5 ^ p := by
  have h := lc_c_up (ds := lc_d x) (v := mr_rule n A (lc_d x) p) hp
  rw [lc_c_d, Nat.mod_eq_of_lt hx] at h
  exact h
theorem lc_b_self {n : Nat} {A : Nat → Nat} {x p : Nat} (hx : x < 5 ^ n) (hp : p < n) : lc_b n A x p = x ↔ ¬ mr_rs n A (lc_d x) p = true := by
  have h := lc_b_up (A := A) hx hp
  have hpos : 0 < 5 ^ p := Nat.pow_pos (by decide)
  unfold mr_rs
  rw [decide_eq_true_eq, Classical.not_not]
  constructor
  · intro e
    rw [e] at h
    exact (Nat.eq_of_mul_eq_mul_right hpos (Nat.add_left_cancel h)).symm
  · intro e
    rw [e] at h
    exact Nat.add_right_cancel h
theorem lc_plc : ∀ p : Fin 5, mm_plc p.val = nI (5 ^ p.val) := by decide
theorem pp_5 {n : Nat} (n5 : n ≤ 5) : 5 ^ n ≤ 3125 := Nat.pow_le_pow_right (n := 5) (i := n) (j := 5) (by decide) n5
set_option maxRecDepth 20000 in
theorem t_stateNow_loop {l : Launch} {d : Nat} {E : mm_X} {h : mm_H} {n : Nat} {ds : Nat → Nat} (n5 : n ≤ 5) (hn : h 1 3 = nI n) (hD : mr_D h 10 ds) (h25 : h 25 = mm_plc) : ∀ (k p : Nat), p + k = n → mm_At l d M1_stateNow E (sl_ip (lc_c ds n) h) 4 [some (.ref 9), some (.int (nI (lc_c ds p))), some (.int (nI p))] [] h := by
  intro k
  induction k with
  | zero =>
    intro p hp
    have e : p = n := by omega
    subst e
    refine mm_rn_ok [] _ (S1_stateNow l d _ _) 1000 _ _ _ _ ?_
    simp only [G1_stateNow_0, G1_stateNow_1, G1_stateNow_2, G1_stateNow_3, G1_stateNow_4, G1_stateNow_5, G1_stateNow_6, G1_stateNow_9, G1_stateNow_12, G1_stateNow_15, G1_stateNow_16, G1_stateNow_19, G1_stateNow_20, G1_stateNow_23, G1_stateNow_24, G1_stateNow_25, G1_stateNow_28, G1_stateNow_29, G1_stateNow_30, G1_stateNow_33, G1_stateNow_34, G1_stateNow_35, G1_stateNow_36, G1_stateNow_37, G1_stateNow_38, G1_stateNow_41, G1_stateNow_44, G1_stateNow_45, N1_stateNow, ↓mm_kc_ap, ↓mm_cut, mm_en, mm_nth, mm_put, mm_sto, mm_stoL, mm_ag, mm_dr, mm_sw, Nat.reduceSub, List.replicate, Option.toList, List.cons_append, List.nil_append, sq_int, sq_lng, sq_iload, sq_lload, sq_aload, sq_istore, sq_lstore, sq_astore, sq_iinc, sq_iadd, sq_isub, sq_imul, sq_iand, sq_ior, sq_ixor, sq_ishl, sq_ishr, sq_iushr, sq_ladd, sq_lsub, sq_lmul, sq_idiv, sq_irem, sq_ldiv, sq_lrem, sq_i2l, sq_lcmp, sq_dupI, sq_dupR, sq_pop, sq_dup2, sq_goto, sq_if_eq, sq_icmp_eq, sq_if_ne, sq_icmp_ne, sq_if_lt, sq_icmp_lt, sq_if_ge, sq_icmp_ge, sq_if_gt, sq_icmp_gt, sq_if_le, sq_icmp_le, sq_iaload, sq_iastore, sq_alen, sq_places, sq_getI, sq_getR, sq_put, sq_ret, sq_lret, sq_vret, sq_switch, sq_callS, sq_callV, sq_copy, sq_max, sq_min, mm_len_2, mm_len_3, mm_len_4, mm_len_6, mm_len_8, mm_len_10, mm_len_11, mm_len_12, mm_len_13, mm_len_14, mm_len_15, mm_len_17, mm_len_18, mm_len_19, mm_len_20, mm_len_21, mm_len_22, mm_len_23, mm_len_24, mm_len_25]
    try simp only [eq_self, true_and, and_true, Bool.false_eq_true, false_implies, true_implies, true_or, or_true, mm_numI, mm_numL, mm_numN, pp_i10, pp_i01, pp_im1, not_false_eq_true, not_true_eq_false, false_or, or_false]
    rw [hn]
    exact ⟨fun _ => ⟨rfl, rfl⟩, fun hc => absurd (nI_le (Nat.le_refl _) (by omega)) hc⟩
  | succ k ih =>
    intro p hp
    have ih := ih (p + 1) (by omega)
    rw [lc_c_s] at ih
    have hp5 : ¬ (Int32.ofNat 5) ≤ nI p := nI_ge (b := 5) (show p < 5 by omega) (by decide)
    refine mm_rn_ok [] _ (S1_stateNow l d _ _) 1000 _ _ _ _ ?_
    simp only [G1_stateNow_0, G1_stateNow_1, G1_stateNow_2, G1_stateNow_3, G1_stateNow_4, G1_stateNow_5, G1_stateNow_6, G1_stateNow_9, G1_stateNow_12, G1_stateNow_15, G1_stateNow_16, G1_stateNow_19, G1_stateNow_20, G1_stateNow_23, G1_stateNow_24, G1_stateNow_25, G1_stateNow_28, G1_stateNow_29, G1_stateNow_30, G1_stateNow_33, G1_stateNow_34, G1_stateNow_35, G1_stateNow_36, G1_stateNow_37, G1_stateNow_38, G1_stateNow_41, G1_stateNow_44, G1_stateNow_45, N1_stateNow, ↓mm_kc_ap, ↓mm_cut, mm_en, mm_nth, mm_put, mm_sto, mm_stoL, mm_ag, mm_dr, mm_sw, Nat.reduceSub, List.replicate, Option.toList, List.cons_append, List.nil_append, sq_int, sq_lng, sq_iload, sq_lload, sq_aload, sq_istore, sq_lstore, sq_astore, sq_iinc, sq_iadd, sq_isub, sq_imul, sq_iand, sq_ior, sq_ixor, sq_ishl, sq_ishr, sq_iushr, sq_ladd, sq_lsub, sq_lmul, sq_idiv, sq_irem, sq_ldiv, sq_lrem, sq_i2l, sq_lcmp, sq_dupI, sq_dupR, sq_pop, sq_dup2, sq_goto, sq_if_eq, sq_icmp_eq, sq_if_ne, sq_icmp_ne, sq_if_lt, sq_icmp_lt, sq_if_ge, sq_icmp_ge, sq_if_gt, sq_icmp_gt, sq_if_le, sq_icmp_le, sq_iaload, sq_iastore, sq_alen, sq_places, sq_getI, sq_getR, sq_put, sq_ret, sq_lret, sq_vret, sq_switch, sq_callS, sq_callV, sq_copy, sq_max, sq_min, mm_len_2, mm_len_3, mm_len_4, mm_len_6, mm_len_8, mm_len_10, mm_len_11, mm_len_12, mm_len_13, mm_len_14, mm_len_15, mm_len_17, mm_len_18, mm_len_19, mm_len_20, mm_len_21, mm_len_22, mm_len_23, mm_len_24, mm_len_25]
    try simp only [eq_self, true_and, and_true, Bool.false_eq_true, false_implies, true_implies, true_or, or_true, mm_numI, mm_numL, mm_numN, pp_i10, pp_i01, pp_im1, not_false_eq_true, not_true_eq_false, false_or, or_false]
    rw [hn, nI_1, nI_clamp (show p < 2 ^ 31 by omega), hD.1 p (by omega), h25, lc_plc ⟨p, by omega⟩, pk_mul, nI_add]
    exact ⟨fun hc => absurd hc (nI_ge (by omega) (by omega)), fun _ => ⟨by decide, fun hc => absurd hc hp5, fun _ => ⟨vp_in_nI (by omega) (by decide), vp_in_nI (by omega) (by decide), ih⟩⟩⟩
set_option maxRecDepth 20000 in
theorem t_stateNow {l : Launch} {d : Nat} {h : mm_H} {n : Nat} {ds : Nat → Nat} (n5 : n ≤ 5) (hn : h 1 3 = nI n) (hD : mr_D h 10 ds) : mm_Ev l d M1_stateNow [.ref 9] h (sl_ip (lc_c ds n) h) := by
  refine mm_Ev.of (by decide +kernel) (Nat.le_of_ble_eq_true rfl) (mm_At.plc (fun h25 => mm_rn_ok [4] _ (S1_stateNow l d _ _) 1000 _ _ _ _ ?_))
  simp only [G1_stateNow_0, G1_stateNow_1, G1_stateNow_2, G1_stateNow_3, G1_stateNow_4, G1_stateNow_5, G1_stateNow_6, G1_stateNow_9, G1_stateNow_12, G1_stateNow_15, G1_stateNow_16, G1_stateNow_19, G1_stateNow_20, G1_stateNow_23, G1_stateNow_24, G1_stateNow_25, G1_stateNow_28, G1_stateNow_29, G1_stateNow_30, G1_stateNow_33, G1_stateNow_34, G1_stateNow_35, G1_stateNow_36, G1_stateNow_37, G1_stateNow_38, G1_stateNow_41, G1_stateNow_44, G1_stateNow_45, N1_stateNow, ↓mm_kc_ap, ↓mm_cut, mm_en, mm_nth, mm_put, mm_sto, mm_stoL, mm_ag, mm_dr, mm_sw, Nat.reduceSub, List.replicate, Option.toList, List.cons_append, List.nil_append, sq_int, sq_lng, sq_iload, sq_lload, sq_aload, sq_istore, sq_lstore, sq_astore, sq_iinc, sq_iadd, sq_isub, sq_imul, sq_iand, sq_ior, sq_ixor, sq_ishl, sq_ishr, sq_iushr, sq_ladd, sq_lsub, sq_lmul, sq_idiv, sq_irem, sq_ldiv, sq_lrem, sq_i2l, sq_lcmp, sq_dupI, sq_dupR, sq_pop, sq_dup2, sq_goto, sq_if_eq, sq_icmp_eq, sq_if_ne, sq_icmp_ne, sq_if_lt, sq_icmp_lt, sq_if_ge, sq_icmp_ge, sq_if_gt, sq_icmp_gt, sq_if_le, sq_icmp_le, sq_iaload, sq_iastore, sq_alen, sq_places, sq_getI, sq_getR, sq_put, sq_ret, sq_lret, sq_vret, sq_switch, sq_callS, sq_callV, sq_copy, sq_max, sq_min, mm_len_2, mm_len_3, mm_len_4, mm_len_6, mm_len_8, mm_len_10, mm_len_11, mm_len_12, mm_len_13, mm_len_14, mm_len_15, mm_len_17, mm_len_18, mm_len_19, mm_len_20, mm_len_21, mm_len_22, mm_len_23, mm_len_24, mm_len_25]
  try simp only [eq_self, true_and, and_true, Bool.false_eq_true, false_implies, true_implies, true_or, or_true, mm_numI, mm_numL, mm_numN, pp_i10, pp_i01, pp_im1, not_false_eq_true, not_true_eq_false, false_or, or_false]
  exact t_stateNow_loop n5 hn hD h25 n 0 (by omega)
theorem nI_move (a r d0 P : Int32) : (a + d0 * P) + (r - d0) * P = a + r * P := by
  rw [Int32.sub_eq_add_neg, Int32.add_mul, Int32.neg_mul, Int32.add_assoc, Int32.add_comm (r * P), ← Int32.add_assoc (d0 * P), Int32.add_right_neg, Int32.zero_add]
def sb_P (n : Nat) (A : Nat → Nat) (x p : Nat) (h : mm_H) : mm_Po := fun r h' => r = some (.int (nI (lc_b n A x p))) ∧ ∀ c, c ≠ 11 → h' c = h c
set_option maxRecDepth 20000 in
theorem t_behind_loop {l : Launch} {d : Nat} {E : mm_X} {post : mm_Po} {h0 : mm_H} {n x : Nat} {p : Int32} (n5 : n ≤ 5) (hn : h0 1 3 = nI n) (hx : x < 3125) (hk : ∀ (h : mm_H) (x3 x4 : Option Value), (∀ c, c ≠ 11 → h c = h0 c) → (∀ q, q < n → h 11 q = nI (lc_d x q)) → mm_At l d M1_stateBehind E post 37 [some (.ref 9), some (.int (nI x)), some (.int p), x3, x4] [] h) : ∀ (k q : Nat), q + k = n → ∀ h : mm_H, (∀ c, c ≠ 11 → h c = h0 c) → (∀ j, j < q → h 11 j = nI (lc_d x j)) → mm_At l d M1_stateBehind E post 5 [some (.ref 9), some (.int (nI x)), some (.int p), some (.int (nI (x / 5 ^ q))), some (.int (nI q))] [] h := by
  intro k
  induction k with
  | zero =>
    intro q hq h hX h1
    have e : q = n := by omega
    subst e
    refine mm_rn_ok [37] _ (S1_stateBehind l d _ _) 1000 _ _ _ _ ?_
    simp only [G1_stateBehind_0, G1_stateBehind_1, G1_stateBehind_2, G1_stateBehind_3, G1_stateBehind_5, G1_stateBehind_7, G1_stateBehind_8, G1_stateBehind_11, G1_stateBehind_14, G1_stateBehind_17, G1_stateBehind_18, G1_stateBehind_21, G1_stateBehind_23, G1_stateBehind_24, G1_stateBehind_25, G1_stateBehind_26, G1_stateBehind_27, G1_stateBehind_28, G1_stateBehind_29, G1_stateBehind_30, G1_stateBehind_31, G1_stateBehind_34, G1_stateBehind_37, G1_stateBehind_38, G1_stateBehind_39, G1_stateBehind_40, G1_stateBehind_43, G1_stateBehind_44, G1_stateBehind_47, G1_stateBehind_48, G1_stateBehind_51, G1_stateBehind_52, G1_stateBehind_53, G1_stateBehind_54, G1_stateBehind_57, G1_stateBehind_58, G1_stateBehind_59, G1_stateBehind_60, G1_stateBehind_61, N1_stateBehind, ↓mm_kc_ap, ↓mm_cut, mm_en, mm_nth, mm_put, mm_sto, mm_stoL, mm_ag, mm_dr, mm_sw, Nat.reduceSub, List.replicate, Option.toList, List.cons_append, List.nil_append, sq_int, sq_lng, sq_iload, sq_lload, sq_aload, sq_istore, sq_lstore, sq_astore, sq_iinc, sq_iadd, sq_isub, sq_imul, sq_iand, sq_ior, sq_ixor, sq_ishl, sq_ishr, sq_iushr, sq_ladd, sq_lsub, sq_lmul, sq_idiv, sq_irem, sq_ldiv, sq_lrem, sq_i2l, sq_lcmp, sq_dupI, sq_dupR, sq_pop, sq_dup2, sq_goto, sq_if_eq, sq_icmp_eq, sq_if_ne, sq_icmp_ne, sq_if_lt, sq_icmp_lt, sq_if_ge, sq_icmp_ge, sq_if_gt, sq_icmp_gt, sq_if_le, sq_icmp_le, sq_iaload, sq_iastore, sq_alen, sq_places, sq_getI, sq_getR, sq_put, sq_ret, sq_lret, sq_vret, sq_switch, sq_callS, sq_callV, sq_copy, sq_max, sq_min, mm_len_2, mm_len_3, mm_len_4, mm_len_6, mm_len_8, mm_len_10, mm_len_11, mm_len_12, mm_len_13, mm_len_14, mm_len_15, mm_len_17, mm_len_18, mm_len_19, mm_len_20, mm_len_21, mm_len_22, mm_len_23, mm_len_24, mm_len_25]
    try simp only [eq_self, true_and, and_true, Bool.false_eq_true, false_implies, true_implies, true_or, or_true, mm_numI, mm_numL, mm_numN, pp_i10, pp_i01, pp_im1, not_false_eq_true, not_true_eq_false, false_or, or_false]
    rw [hX 1 (by decide), hn]
    exact ⟨fun _ => hk h _ _ hX h1, fun hc => absurd (nI_le (Nat.le_refl _) (by omega)) hc⟩
  | succ k ih =>
    intro q hq h hX h1
    have hlt : x / 5 ^ q < 2 ^ 31 := Nat.lt_of_le_of_lt (Nat.div_le_self _ _) (by omega)
    have e5 : (5 : Int32) = nI 5 := rfl
    refine mm_rn_ok [37] _ (S1_stateBehind l d _ _) 1000 _ _ _ _ ?_
    simp only [G1_stateBehind_0, G1_stateBehind_1, G1_stateBehind_2, G1_stateBehind_3, G1_stateBehind_5, G1_stateBehind_7, G1_stateBehind_8, G1_stateBehind_11, G1_stateBehind_14, G1_stateBehind_17, G1_stateBehind_18, G1_stateBehind_21, G1_stateBehind_23, G1_stateBehind_24, G1_stateBehind_25, G1_stateBehind_26, G1_stateBehind_27, G1_stateBehind_28, G1_stateBehind_29, G1_stateBehind_30, G1_stateBehind_31, G1_stateBehind_34, G1_stateBehind_37, G1_stateBehind_38, G1_stateBehind_39, G1_stateBehind_40, G1_stateBehind_43, G1_stateBehind_44, G1_stateBehind_47, G1_stateBehind_48, G1_stateBehind_51, G1_stateBehind_52, G1_stateBehind_53, G1_stateBehind_54, G1_stateBehind_57, G1_stateBehind_58, G1_stateBehind_59, G1_stateBehind_60, G1_stateBehind_61, N1_stateBehind, ↓mm_kc_ap, ↓mm_cut, mm_en, mm_nth, mm_put, mm_sto, mm_stoL, mm_ag, mm_dr, mm_sw, Nat.reduceSub, List.replicate, Option.toList, List.cons_append, List.nil_append, sq_int, sq_lng, sq_iload, sq_lload, sq_aload, sq_istore, sq_lstore, sq_astore, sq_iinc, sq_iadd, sq_isub, sq_imul, sq_iand, sq_ior, sq_ixor, sq_ishl, sq_ishr, sq_iushr, sq_ladd, sq_lsub, sq_lmul, sq_idiv, sq_irem, sq_ldiv, sq_lrem, sq_i2l, sq_lcmp, sq_dupI, sq_dupR, sq_pop, sq_dup2, sq_goto, sq_if_eq, sq_icmp_eq, sq_if_ne, sq_icmp_ne, sq_if_lt, sq_icmp_lt, sq_if_ge, sq_icmp_ge, sq_if_gt, sq_icmp_gt, sq_if_le, sq_icmp_le, sq_iaload, sq_iastore, sq_alen, sq_places, sq_getI, sq_getR, sq_put, sq_ret, sq_lret, sq_vret, sq_switch, sq_callS, sq_callV, sq_copy, sq_max, sq_min, mm_len_2, mm_len_3, mm_len_4, mm_len_6, mm_len_8, mm_len_10, mm_len_11, mm_len_12, mm_len_13, mm_len_14, mm_len_15, mm_len_17, mm_len_18, mm_len_19, mm_len_20, mm_len_21, mm_len_22, mm_len_23, mm_len_24, mm_len_25]
    try simp only [eq_self, true_and, and_true, Bool.false_eq_true, false_implies, true_implies, true_or, or_true, mm_numI, mm_numL, mm_numN, pp_i10, pp_i01, pp_im1, not_false_eq_true, not_true_eq_false, false_or, or_false]
    rw [hX 1 (by decide), hn, nI_1, nI_clamp (show q < 2 ^ 31 by omega), e5, pk_rem hlt (by decide) (by decide), pk_div hlt (by decide) (by decide), Nat.div_div_eq_div_mul, ← Nat.pow_succ]
    refine ⟨fun hc => absurd hc (nI_ge (by omega) (by omega)), fun _ => ⟨by decide, by decide, vp_in_nI (by omega) (by decide), by decide, ih (q + 1) (by omega) _ (fun c hc => ?_) (fun j hj => ?_)⟩⟩
    · rw [mm_set_ne hc]; exact hX c hc
    · by_cases e : j = q
      · rw [e, mm_set_same]; rfl
      · rw [mm_set_other e]; exact h1 j (by omega)
set_option maxRecDepth 20000 in
theorem t_stateBehind {l : Launch} {d : Nat} (hd : 1 < d) {h : mm_H} {n : Nat} {A mk : Nat → Nat} (hN : cc_N h n A mk) (n5 : n ≤ 5) {x p : Nat} (hx : x < 5 ^ n) (hp : p < n) : mm_Ev l d M1_stateBehind [.ref 9, .int (nI x), .int (nI p)] h (sb_P n A x p h) := by
  have h5 := pp_5 n5
  have hn := hN.2.2.1
  refine mm_Ev.of (by decide +kernel) (Nat.le_of_ble_eq_true rfl) (mm_At.plc (fun h25 => mm_rn_ok [5] _ (S1_stateBehind l d _ _) 1000 _ _ _ _ ?_))
  simp only [G1_stateBehind_0, G1_stateBehind_1, G1_stateBehind_2, G1_stateBehind_3, G1_stateBehind_5, G1_stateBehind_7, G1_stateBehind_8, G1_stateBehind_11, G1_stateBehind_14, G1_stateBehind_17, G1_stateBehind_18, G1_stateBehind_21, G1_stateBehind_23, G1_stateBehind_24, G1_stateBehind_25, G1_stateBehind_26, G1_stateBehind_27, G1_stateBehind_28, G1_stateBehind_29, G1_stateBehind_30, G1_stateBehind_31, G1_stateBehind_34, G1_stateBehind_37, G1_stateBehind_38, G1_stateBehind_39, G1_stateBehind_40, G1_stateBehind_43, G1_stateBehind_44, G1_stateBehind_47, G1_stateBehind_48, G1_stateBehind_51, G1_stateBehind_52, G1_stateBehind_53, G1_stateBehind_54, G1_stateBehind_57, G1_stateBehind_58, G1_stateBehind_59, G1_stateBehind_60, G1_stateBehind_61, N1_stateBehind, ↓mm_kc_ap, ↓mm_cut, mm_en, mm_nth, mm_put, mm_sto, mm_stoL, mm_ag, mm_dr, mm_sw, Nat.reduceSub, List.replicate, Option.toList, List.cons_append, List.nil_append, sq_int, sq_lng, sq_iload, sq_lload, sq_aload, sq_istore, sq_lstore, sq_astore, sq_iinc, sq_iadd, sq_isub, sq_imul, sq_iand, sq_ior, sq_ixor, sq_ishl, sq_ishr, sq_iushr, sq_ladd, sq_lsub, sq_lmul, sq_idiv, sq_irem, sq_ldiv, sq_lrem, sq_i2l, sq_lcmp, sq_dupI, sq_dupR, sq_pop, sq_dup2, sq_goto, sq_if_eq, sq_icmp_eq, sq_if_ne, sq_icmp_ne, sq_if_lt, sq_icmp_lt, sq_if_ge, sq_icmp_ge, sq_if_gt, sq_icmp_gt, sq_if_le, sq_icmp_le, sq_iaload, sq_iastore, sq_alen, sq_places, sq_getI, sq_getR, sq_put, sq_ret, sq_lret, sq_vret, sq_switch, sq_callS, sq_callV, sq_copy, sq_max, sq_min, mm_len_2, mm_len_3, mm_len_4, mm_len_6, mm_len_8, mm_len_10, mm_len_11, mm_len_12, mm_len_13, mm_len_14, mm_len_15, mm_len_17, mm_len_18, mm_len_19, mm_len_20, mm_len_21, mm_len_22, mm_len_23, mm_len_24, mm_len_25]
  try simp only [eq_self, true_and, and_true, Bool.false_eq_true, false_implies, true_implies, true_or, or_true, mm_numI, mm_numL, mm_numN, pp_i10, pp_i01, pp_im1, not_false_eq_true, not_true_eq_false, false_or, or_false]
  have key := t_behind_loop (l := l) (d := d) (E := fun _ _ _ => True) (post := sb_P n A x p h) (p := nI p) (x := x) n5 hn (by omega) (fun h' x3 x4 hX h1 => ?_) n 0 (by omega) h (fun _ _ => rfl) (fun j hj => absurd hj (Nat.not_lt_zero _))
  · rw [Nat.pow_zero, Nat.div_one] at key
    exact key
  · refine mm_rn_ok [] _ (S1_stateBehind l d _ _) 1000 _ _ _ _ ?_
    simp only [G1_stateBehind_0, G1_stateBehind_1, G1_stateBehind_2, G1_stateBehind_3, G1_stateBehind_5, G1_stateBehind_7, G1_stateBehind_8, G1_stateBehind_11, G1_stateBehind_14, G1_stateBehind_17, G1_stateBehind_18, G1_stateBehind_21, G1_stateBehind_23, G1_stateBehind_24, G1_stateBehind_25, G1_stateBehind_26, G1_stateBehind_27, G1_stateBehind_28, G1_stateBehind_29, G1_stateBehind_30, G1_stateBehind_31, G1_stateBehind_34, G1_stateBehind_37, G1_stateBehind_38, G1_stateBehind_39, G1_stateBehind_40, G1_stateBehind_43, G1_stateBehind_44, G1_stateBehind_47, G1_stateBehind_48, G1_stateBehind_51, G1_stateBehind_52, G1_stateBehind_53, G1_stateBehind_54, G1_stateBehind_57, G1_stateBehind_58, G1_stateBehind_59, G1_stateBehind_60, G1_stateBehind_61, N1_stateBehind, ↓mm_kc_ap, ↓mm_cut, mm_en, mm_nth, mm_put, mm_sto, mm_stoL, mm_ag, mm_dr, mm_sw, Nat.reduceSub, List.replicate, Option.toList, List.cons_append, List.nil_append, sq_int, sq_lng, sq_iload, sq_lload, sq_aload, sq_istore, sq_lstore, sq_astore, sq_iinc, sq_iadd, sq_isub, sq_imul, sq_iand, sq_ior, sq_ixor, sq_ishl, sq_ishr, sq_iushr, sq_ladd, sq_lsub, sq_lmul, sq_idiv, sq_irem, sq_ldiv, sq_lrem, sq_i2l, sq_lcmp, sq_dupI, sq_dupR, sq_pop, sq_dup2, sq_goto, sq_if_eq, sq_icmp_eq, sq_if_ne, sq_icmp_ne, sq_if_lt, sq_icmp_lt, sq_if_ge, sq_icmp_ge, sq_if_gt, sq_icmp_gt, sq_if_le, sq_icmp_le, sq_iaload, sq_iastore, sq_alen, sq_places, sq_getI, sq_getR, sq_put, sq_ret, sq_lret, sq_vret, sq_switch, sq_callS, sq_callV, sq_copy, sq_max, sq_min, mm_len_2, mm_len_3, mm_len_4, mm_len_6, mm_len_8, mm_len_10, mm_len_11, mm_len_12, mm_len_13, mm_len_14, mm_len_15, mm_len_17, mm_len_18, mm_len_19, mm_len_20, mm_len_21, mm_len_22, mm_len_23, mm_len_24, mm_len_25]
    try simp only [eq_self, true_and, and_true, Bool.false_eq_true, false_implies, true_implies, true_or, or_true, mm_numI, mm_numL, mm_numN, pp_i10, pp_i01, pp_im1, not_false_eq_true, not_true_eq_false, false_or, or_false]
    refine ⟨1, _, hd, t_ruleN (ds := lc_d x) (by decide) (hN.cg (hX 1 (by decide)) (hX 2 (by decide)) (hX 3 (by decide))) rfl h1 (lc_d_5 x) (show p < 8 by omega), rfl, ?_⟩
    rintro _ _ ⟨rfl, rfl⟩
    simp only [G1_stateBehind_0, G1_stateBehind_1, G1_stateBehind_2, G1_stateBehind_3, G1_stateBehind_5, G1_stateBehind_7, G1_stateBehind_8, G1_stateBehind_11, G1_stateBehind_14, G1_stateBehind_17, G1_stateBehind_18, G1_stateBehind_21, G1_stateBehind_23, G1_stateBehind_24, G1_stateBehind_25, G1_stateBehind_26, G1_stateBehind_27, G1_stateBehind_28, G1_stateBehind_29, G1_stateBehind_30, G1_stateBehind_31, G1_stateBehind_34, G1_stateBehind_37, G1_stateBehind_38, G1_stateBehind_39, G1_stateBehind_40, G1_stateBehind_43, G1_stateBehind_44, G1_stateBehind_47, G1_stateBehind_48, G1_stateBehind_51, G1_stateBehind_52, G1_stateBehind_53, G1_stateBehind_54, G1_stateBehind_57, G1_stateBehind_58, G1_stateBehind_59, G1_stateBehind_60, G1_stateBehind_61, N1_stateBehind, ↓mm_kc_ap, ↓mm_cut, mm_en, mm_nth, mm_put, mm_sto, mm_stoL, mm_ag, mm_dr, mm_sw, Nat.reduceSub, List.replicate, Option.toList, List.cons_append, List.nil_append, sq_int, sq_lng, sq_iload, sq_lload, sq_aload, sq_istore, sq_lstore, sq_astore, sq_iinc, sq_iadd, sq_isub, sq_imul, sq_iand, sq_ior, sq_ixor, sq_ishl, sq_ishr, sq_iushr, sq_ladd, sq_lsub, sq_lmul, sq_idiv, sq_irem, sq_ldiv, sq_lrem, sq_i2l, sq_lcmp, sq_dupI, sq_dupR, sq_pop, sq_dup2, sq_goto, sq_if_eq, sq_icmp_eq, sq_if_ne, sq_icmp_ne, sq_if_lt, sq_icmp_lt, sq_if_ge, sq_icmp_ge, sq_if_gt, sq_icmp_gt, sq_if_le, sq_icmp_le, sq_iaload, sq_iastore, sq_alen, sq_places, sq_getI, sq_getR, sq_put, sq_ret, sq_lret, sq_vret, sq_switch, sq_callS, sq_callV, sq_copy, sq_max, sq_min, mm_len_2, mm_len_3, mm_len_4, mm_len_6, mm_len_8, mm_len_10, mm_len_11, mm_len_12, mm_len_13, mm_len_14, mm_len_15, mm_len_17, mm_len_18, mm_len_19, mm_len_20, mm_len_21, mm_len_22, mm_len_23, mm_len_24, mm_len_25]
    try simp only [eq_self, true_and, and_true, Bool.false_eq_true, false_implies, true_implies, true_or, or_true, mm_numI, mm_numL, mm_numN, pp_i10, pp_i01, pp_im1, not_false_eq_true, not_true_eq_false, false_or, or_false]
    rename_i h2
    have hup := lc_b_up (A := A) hx hp
    have hdle : lc_d x p * 5 ^ p ≤ x := by
      unfold lc_d
      exact Nat.le_trans (Nat.mul_le_mul_right _ (Nat.mod_le _ _)) (Nat.div_mul_le_self _ _)
    rw [nI_clamp (show p < 2 ^ 31 by omega), h1 p hp, hX 25 (by decide), h25, lc_plc ⟨p, by omega⟩]
    refine ⟨vp_in_nI (by omega) (by decide), vp_in_nI (by omega) (by decide), ?_, hX⟩
    have e1 : nI x = nI (x - lc_d x p * 5 ^ p) + nI (lc_d x p) * nI (5 ^ p) := by
      rw [pk_mul, nI_add]
      congr 1
      omega
    have e2 : lc_b n A x p = (x - lc_d x p * 5 ^ p) + mr_rule n A (lc_d x) p * 5 ^ p := by omega
    rw [e1, nI_move, e2, pk_mul, nI_add]
def en_P (x H : Nat) (h : mm_H) : mm_Po := fun r h' => r = none ∧ h' = mm_set (mm_set (mm_set h 14 H (nI x)) 13 x 0) 12 x 0
set_option maxRecDepth 20000 in
theorem t_enter {l : Launch} {d : Nat} {h : mm_H} {x H : Nat} (hx : x < 3125) (hH : H < 3125) : mm_Ev l d M1_enter [.ref 9, .int (nI x), .int (nI H)] h (en_P x H h) := by
  have ix : vp_in (nI x) 3125 := vp_in_nI hx (by decide)
  have iH : vp_in (nI H) 3125 := vp_in_nI hH (by decide)
  refine mm_Ev.of (by decide +kernel) (Nat.le_of_ble_eq_true rfl) (mm_rn_ok [] _ (S1_enter l d _ _) 1000 _ _ _ _ ?_)
  simp only [G1_enter_0, G1_enter_1, G1_enter_4, G1_enter_5, G1_enter_6, G1_enter_7, G1_enter_8, G1_enter_11, G1_enter_12, G1_enter_13, G1_enter_14, G1_enter_15, G1_enter_18, G1_enter_19, G1_enter_20, G1_enter_21, N1_enter, ↓mm_kc_ap, ↓mm_cut, mm_en, mm_nth, mm_put, mm_sto, mm_stoL, mm_ag, mm_dr, mm_sw, Nat.reduceSub, List.replicate, Option.toList, List.cons_append, List.nil_append, sq_int, sq_lng, sq_iload, sq_lload, sq_aload, sq_istore, sq_lstore, sq_astore, sq_iinc, sq_iadd, sq_isub, sq_imul, sq_iand, sq_ior, sq_ixor, sq_ishl, sq_ishr, sq_iushr, sq_ladd, sq_lsub, sq_lmul, sq_idiv, sq_irem, sq_ldiv, sq_lrem, sq_i2l, sq_lcmp, sq_dupI, sq_dupR, sq_pop, sq_dup2, sq_goto, sq_if_eq, sq_icmp_eq, sq_if_ne, sq_icmp_ne, sq_if_lt, sq_icmp_lt, sq_if_ge, sq_icmp_ge, sq_if_gt, sq_icmp_gt, sq_if_le, sq_icmp_le, sq_iaload, sq_iastore, sq_alen, sq_places, sq_getI, sq_getR, sq_put, sq_ret, sq_lret, sq_vret, sq_switch, sq_callS, sq_callV, sq_copy, sq_max, sq_min, mm_len_2, mm_len_3, mm_len_4, mm_len_6, mm_len_8, mm_len_10, mm_len_11, mm_len_12, mm_len_13, mm_len_14, mm_len_15, mm_len_17, mm_len_18, mm_len_19, mm_len_20, mm_len_21, mm_len_22, mm_len_23, mm_len_24, mm_len_25]
  try simp only [eq_self, true_and, and_true, Bool.false_eq_true, false_implies, true_implies, true_or, or_true, mm_numI, mm_numL, mm_numN, pp_i10, pp_i01, pp_im1, not_false_eq_true, not_true_eq_false, false_or, or_false]
  rw [nI_clamp (show x < 2 ^ 31 by omega), nI_clamp (show H < 2 ^ 31 by omega)]
  exact ⟨by decide, iH, by decide, ix, by decide, ix, rfl, rfl⟩
