/-! ===== stateOf, setState, step ===== -/
set_option maxRecDepth 20000 in
theorem t_stateOf_loop {l : Launch} {d : Nat} {E : mm_X} {h : mm_H} {n : Nat} {ds : Nat → Nat} (n5 : n ≤ 5) (hn : h 16 0 = nI n) (hD : ∀ q, q < n → h 20 q = nI (ds q)) : ∀ (k p : Nat), p + k = n → mm_At l d M6_stateOf E (sl_ip (rr_v 5 ds n) h) 4 [some (.ref 16), some (.int (nI (rr_v 5 ds p))), some (.int (nI p))] [] h := by
  intro k
  induction k with
  | zero =>
    intro p hp
    have e : p = n := by omega
    subst e
    refine mm_rn_ok [] _ (S6_stateOf l d _ _) 1000 _ _ _ _ ?_
    simp only [G6_stateOf_0, G6_stateOf_1, G6_stateOf_2, G6_stateOf_3, G6_stateOf_4, G6_stateOf_5, G6_stateOf_6, G6_stateOf_9, G6_stateOf_12, G6_stateOf_13, G6_stateOf_14, G6_stateOf_15, G6_stateOf_16, G6_stateOf_19, G6_stateOf_20, G6_stateOf_21, G6_stateOf_22, G6_stateOf_23, G6_stateOf_26, G6_stateOf_29, G6_stateOf_30, N6_stateOf, ↓mm_kc_ap, ↓mm_cut, mm_en, mm_nth, mm_put, mm_sto, mm_stoL, mm_ag, mm_dr, mm_sw, Nat.reduceSub, List.replicate, Option.toList, List.cons_append, List.nil_append, sq_int, sq_lng, sq_iload, sq_lload, sq_aload, sq_istore, sq_lstore, sq_astore, sq_iinc, sq_iadd, sq_isub, sq_imul, sq_iand, sq_ior, sq_ixor, sq_ishl, sq_ishr, sq_iushr, sq_ladd, sq_lsub, sq_lmul, sq_idiv, sq_irem, sq_ldiv, sq_lrem, sq_i2l, sq_lcmp, sq_dupI, sq_dupR, sq_pop, sq_dup2, sq_goto, sq_if_eq, sq_icmp_eq, sq_if_ne, sq_icmp_ne, sq_if_lt, sq_icmp_lt, sq_if_ge, sq_icmp_ge, sq_if_gt, sq_icmp_gt, sq_if_le, sq_icmp_le, sq_iaload, sq_iastore, sq_alen, sq_places, sq_getI, sq_getR, sq_put, sq_ret, sq_lret, sq_vret, sq_switch, sq_callS, sq_callV, sq_copy, sq_max, sq_min, mm_len_2, mm_len_3, mm_len_4, mm_len_6, mm_len_8, mm_len_10, mm_len_11, mm_len_12, mm_len_13, mm_len_14, mm_len_15, mm_len_17, mm_len_18, mm_len_19, mm_len_20, mm_len_21, mm_len_22, mm_len_23, mm_len_24, mm_len_25]
    try simp only [eq_self, true_and, and_true, Bool.false_eq_true, false_implies, true_implies, true_or, or_true, mm_numI, mm_numL, mm_numN, pp_i10, pp_i01, pp_im1, not_false_eq_true, not_true_eq_false, false_or, or_false]
    rw [hn]
    exact ⟨fun _ => ⟨rfl, rfl⟩, fun hc => absurd (nI_le (Nat.le_refl _) (by omega)) hc⟩
  | succ k ih =>
    intro p hp
    have ih := ih (p + 1) (by omega)
    rw [rr_v_s, Nat.mul_comm] at ih
    refine mm_rn_ok [] _ (S6_stateOf l d _ _) 1000 _ _ _ _ ?_
    simp only [G6_stateOf_0, G6_stateOf_1, G6_stateOf_2, G6_stateOf_3, G6_stateOf_4, G6_stateOf_5, G6_stateOf_6, G6_stateOf_9, G6_stateOf_12, G6_stateOf_13, G6_stateOf_14, G6_stateOf_15, G6_stateOf_16, G6_stateOf_19, G6_stateOf_20, G6_stateOf_21, G6_stateOf_22, G6_stateOf_23, G6_stateOf_26, G6_stateOf_29, G6_stateOf_30, N6_stateOf, ↓mm_kc_ap, ↓mm_cut, mm_en, mm_nth, mm_put, mm_sto, mm_stoL, mm_ag, mm_dr, mm_sw, Nat.reduceSub, List.replicate, Option.toList, List.cons_append, List.nil_append, sq_int, sq_lng, sq_iload, sq_lload, sq_aload, sq_istore, sq_lstore, sq_astore, sq_iinc, sq_iadd, sq_isub, sq_imul, sq_iand, sq_ior, sq_ixor, sq_ishl, sq_ishr, sq_iushr, sq_ladd, sq_lsub, sq_lmul, sq_idiv, sq_irem, sq_ldiv, sq_lrem, sq_i2l, sq_lcmp, sq_dupI, sq_dupR, sq_pop, sq_dup2, sq_goto, sq_if_eq, sq_icmp_eq, sq_if_ne, sq_icmp_ne, sq_if_lt, sq_icmp_lt, sq_if_ge, sq_icmp_ge, sq_if_gt, sq_icmp_gt, sq_if_le, sq_icmp_le, sq_iaload, sq_iastore, sq_alen, sq_places, sq_getI, sq_getR, sq_put, sq_ret, sq_lret, sq_vret, sq_switch, sq_callS, sq_callV, sq_copy, sq_max, sq_min, mm_len_2, mm_len_3, mm_len_4, mm_len_6, mm_len_8, mm_len_10, mm_len_11, mm_len_12, mm_len_13, mm_len_14, mm_len_15, mm_len_17, mm_len_18, mm_len_19, mm_len_20, mm_len_21, mm_len_22, mm_len_23, mm_len_24, mm_len_25]
    try simp only [eq_self, true_and, and_true, Bool.false_eq_true, false_implies, true_implies, true_or, or_true, mm_numI, mm_numL, mm_numN, pp_i10, pp_i01, pp_im1, not_false_eq_true, not_true_eq_false, false_or, or_false]
    rw [hn, nI_1, nI_clamp (show p < 2 ^ 31 by omega), hD p (by omega), show (5 : Int32) = nI 5 from rfl, pk_mul, nI_add]
    exact ⟨fun hc => absurd hc (nI_ge (by omega) (by omega)), fun _ => ⟨vp_in_nI (by omega) (by decide), ih⟩⟩
set_option maxRecDepth 20000 in
theorem t_stateOf {l : Launch} {d : Nat} {h : mm_H} {n : Nat} {ds : Nat → Nat} (n5 : n ≤ 5) (hn : h 16 0 = nI n) (hD : ∀ q, q < n → h 20 q = nI (ds q)) : mm_Ev l d M6_stateOf [.ref 16] h (sl_ip (rr_v 5 ds n) h) := by
  refine mm_Ev.of (by decide +kernel) (Nat.le_of_ble_eq_true rfl) (mm_rn_ok [4] _ (S6_stateOf l d _ _) 1000 _ _ _ _ ?_)
  simp only [G6_stateOf_0, G6_stateOf_1, G6_stateOf_2, G6_stateOf_3, G6_stateOf_4, G6_stateOf_5, G6_stateOf_6, G6_stateOf_9, G6_stateOf_12, G6_stateOf_13, G6_stateOf_14, G6_stateOf_15, G6_stateOf_16, G6_stateOf_19, G6_stateOf_20, G6_stateOf_21, G6_stateOf_22, G6_stateOf_23, G6_stateOf_26, G6_stateOf_29, G6_stateOf_30, N6_stateOf, ↓mm_kc_ap, ↓mm_cut, mm_en, mm_nth, mm_put, mm_sto, mm_stoL, mm_ag, mm_dr, mm_sw, Nat.reduceSub, List.replicate, Option.toList, List.cons_append, List.nil_append, sq_int, sq_lng, sq_iload, sq_lload, sq_aload, sq_istore, sq_lstore, sq_astore, sq_iinc, sq_iadd, sq_isub, sq_imul, sq_iand, sq_ior, sq_ixor, sq_ishl, sq_ishr, sq_iushr, sq_ladd, sq_lsub, sq_lmul, sq_idiv, sq_irem, sq_ldiv, sq_lrem, sq_i2l, sq_lcmp, sq_dupI, sq_dupR, sq_pop, sq_dup2, sq_goto, sq_if_eq, sq_icmp_eq, sq_if_ne, sq_icmp_ne, sq_if_lt, sq_icmp_lt, sq_if_ge, sq_icmp_ge, sq_if_gt, sq_icmp_gt, sq_if_le, sq_icmp_le, sq_iaload, sq_iastore, sq_alen, sq_places, sq_getI, sq_getR, sq_put, sq_ret, sq_lret, sq_vret, sq_switch, sq_callS, sq_callV, sq_copy, sq_max, sq_min, mm_len_2, mm_len_3, mm_len_4, mm_len_6, mm_len_8, mm_len_10, mm_len_11, mm_len_12, mm_len_13, mm_len_14, mm_len_15, mm_len_17, mm_len_18, mm_len_19, mm_len_20, mm_len_21, mm_len_22, mm_len_23, mm_len_24, mm_len_25]
  try simp only [eq_self, true_and, and_true, Bool.false_eq_true, false_implies, true_implies, true_or, or_true, mm_numI, mm_numL, mm_numN, pp_i10, pp_i01, pp_im1, not_false_eq_true, not_true_eq_false, false_or, or_false]
  exact t_stateOf_loop n5 hn hD n 0 (by omega)
def ft_P (n : Nat) (ds0 : Nat → Nat) (x : Nat) (h : mm_H) : mm_Po := fun r h' => r = none ∧ (∀ c, c ≠ 20 → h' c = h c) ∧ ∀ q, q < 8 → h' 20 q = nI (fw_s n ds0 x q)
set_option maxRecDepth 20000 in
theorem t_setState_loop {l : Launch} {d : Nat} {E : mm_X} {h0 : mm_H} {n x : Nat} {ds0 : Nat → Nat} (n5 : n ≤ 5) (hx : x < 2 ^ 30) : ∀ (k : Nat), k ≤ n → ∀ (h : mm_H), (∀ c, c ≠ 20 → h c = h0 c) → (∀ q, k ≤ q → q < 8 → h 20 q = nI (fw_s n ds0 x q)) → mm_At l d M6_setState E (ft_P n ds0 x h0) 9 [some (.ref 16), some (.int (nI x)), some (.int (nI (x / 5 ^ (n - k)))), some (.int (dn_i k))] [] h := by
  intro k
  induction k with
  | zero =>
    intro hk h hX hg
    refine mm_rn_ok [] _ (S6_setState l d _ _) 1000 _ _ _ _ ?_
    simp only [G6_setState_0, G6_setState_1, G6_setState_2, G6_setState_3, G6_setState_6, G6_setState_7, G6_setState_8, G6_setState_9, G6_setState_10, G6_setState_13, G6_setState_14, G6_setState_17, G6_setState_18, G6_setState_19, G6_setState_20, G6_setState_21, G6_setState_22, G6_setState_23, G6_setState_24, G6_setState_25, G6_setState_26, G6_setState_29, G6_setState_32, N6_setState, ↓mm_kc_ap, ↓mm_cut, mm_en, mm_nth, mm_put, mm_sto, mm_stoL, mm_ag, mm_dr, mm_sw, Nat.reduceSub, List.replicate, Option.toList, List.cons_append, List.nil_append, sq_int, sq_lng, sq_iload, sq_lload, sq_aload, sq_istore, sq_lstore, sq_astore, sq_iinc, sq_iadd, sq_isub, sq_imul, sq_iand, sq_ior, sq_ixor, sq_ishl, sq_ishr, sq_iushr, sq_ladd, sq_lsub, sq_lmul, sq_idiv, sq_irem, sq_ldiv, sq_lrem, sq_i2l, sq_lcmp, sq_dupI, sq_dupR, sq_pop, sq_dup2, sq_goto, sq_if_eq, sq_icmp_eq, sq_if_ne, sq_icmp_ne, sq_if_lt, sq_icmp_lt, sq_if_ge, sq_icmp_ge, sq_if_gt, sq_icmp_gt, sq_if_le, sq_icmp_le, sq_iaload, sq_iastore, sq_alen, sq_places, sq_getI, sq_getR, sq_put, sq_ret, sq_lret, sq_vret, sq_switch, sq_callS, sq_callV, sq_copy, sq_max, sq_min, mm_len_2, mm_len_3, mm_len_4, mm_len_6, mm_len_8, mm_len_10, mm_len_11, mm_len_12, mm_len_13, mm_len_14, mm_len_15, mm_len_17, mm_len_18, mm_len_19, mm_len_20, mm_len_21, mm_len_22, mm_len_23, mm_len_24, mm_len_25]
    try simp only [eq_self, true_and, and_true, Bool.false_eq_true, false_implies, true_implies, true_or, or_true, mm_numI, mm_numL, mm_numN, pp_i10, pp_i01, pp_im1, not_false_eq_true, not_true_eq_false, false_or, or_false]
    exact ⟨fun _ => ⟨rfl, hX, fun q hq => hg q (Nat.zero_le _) hq⟩, fun hc => absurd dn_i_0 hc⟩
  | succ k ih =>
    intro hk h hX hg
    have hlt : x / 5 ^ (n - (k + 1)) < 2 ^ 31 := Nat.lt_of_le_of_lt (Nat.div_le_self _ _) (by omega)
    have e : dn_i (k + 1) = nI k := rfl
    rw [e]
    refine mm_rn_ok [] _ (S6_setState l d _ _) 1000 _ _ _ _ ?_
    simp only [G6_setState_0, G6_setState_1, G6_setState_2, G6_setState_3, G6_setState_6, G6_setState_7, G6_setState_8, G6_setState_9, G6_setState_10, G6_setState_13, G6_setState_14, G6_setState_17, G6_setState_18, G6_setState_19, G6_setState_20, G6_setState_21, G6_setState_22, G6_setState_23, G6_setState_24, G6_setState_25, G6_setState_26, G6_setState_29, G6_setState_32, N6_setState, ↓mm_kc_ap, ↓mm_cut, mm_en, mm_nth, mm_put, mm_sto, mm_stoL, mm_ag, mm_dr, mm_sw, Nat.reduceSub, List.replicate, Option.toList, List.cons_append, List.nil_append, sq_int, sq_lng, sq_iload, sq_lload, sq_aload, sq_istore, sq_lstore, sq_astore, sq_iinc, sq_iadd, sq_isub, sq_imul, sq_iand, sq_ior, sq_ixor, sq_ishl, sq_ishr, sq_iushr, sq_ladd, sq_lsub, sq_lmul, sq_idiv, sq_irem, sq_ldiv, sq_lrem, sq_i2l, sq_lcmp, sq_dupI, sq_dupR, sq_pop, sq_dup2, sq_goto, sq_if_eq, sq_icmp_eq, sq_if_ne, sq_icmp_ne, sq_if_lt, sq_icmp_lt, sq_if_ge, sq_icmp_ge, sq_if_gt, sq_icmp_gt, sq_if_le, sq_icmp_le, sq_iaload, sq_iastore, sq_alen, sq_places, sq_getI, sq_getR, sq_put, sq_ret, sq_lret, sq_vret, sq_switch, sq_callS, sq_callV, sq_copy, sq_max, sq_min, mm_len_2, mm_len_3, mm_len_4, mm_len_6, mm_len_8, mm_len_10, mm_len_11, mm_len_12, mm_len_13, mm_len_14, mm_len_15, mm_len_17, mm_len_18, mm_len_19, mm_len_20, mm_len_21, mm_len_22, mm_len_23, mm_len_24, mm_len_25]
    try simp only [eq_self, true_and, and_true, Bool.false_eq_true, false_implies, true_implies, true_or, or_true, mm_numI, mm_numL, mm_numN, pp_i10, pp_i01, pp_im1, not_false_eq_true, not_true_eq_false, false_or, or_false]
    rw [show (5 : Int32) = nI 5 from rfl, pk_rem hlt (by decide) (by decide), pk_div hlt (by decide) (by decide), rr_dig hk, rr_nxt hk, dn_i_s, nI_clamp (show k < 2 ^ 31 by omega)]
    refine ⟨fun hc => absurd hc (nI_pos (by omega)), fun _ => ⟨by decide, by decide, vp_in_nI (by omega) (by decide), by decide, ih (by omega) _ (fun c hc => ?_) (fun q h1 h2 => ?_)⟩⟩
    · rw [mm_set_ne hc]; exact hX c hc
    · by_cases e1 : q = k
      · rw [e1, mm_set_same]
        unfold fw_s cl_pf
        rw [if_pos (by omega)]
      · rw [mm_set_other e1]
        exact hg q (by omega) h2
set_option maxRecDepth 20000 in
theorem t_setState {l : Launch} {d : Nat} {h : mm_H} {n x : Nat} {ds0 : Nat → Nat} (n1 : 1 ≤ n) (n5 : n ≤ 5) (hn : h 16 0 = nI n) (hx : x < 2 ^ 30) (hT : ∀ q, n ≤ q → q < 8 → h 20 q = nI (ds0 q)) : mm_Ev l d M6_setState [.ref 16, .int (nI x)] h (ft_P n ds0 x h) := by
  refine mm_Ev.of (by decide +kernel) (Nat.le_of_ble_eq_true rfl) (mm_rn_ok [9] _ (S6_setState l d _ _) 1000 _ _ _ _ ?_)
  simp only [G6_setState_0, G6_setState_1, G6_setState_2, G6_setState_3, G6_setState_6, G6_setState_7, G6_setState_8, G6_setState_9, G6_setState_10, G6_setState_13, G6_setState_14, G6_setState_17, G6_setState_18, G6_setState_19, G6_setState_20, G6_setState_21, G6_setState_22, G6_setState_23, G6_setState_24, G6_setState_25, G6_setState_26, G6_setState_29, G6_setState_32, N6_setState, ↓mm_kc_ap, ↓mm_cut, mm_en, mm_nth, mm_put, mm_sto, mm_stoL, mm_ag, mm_dr, mm_sw, Nat.reduceSub, List.replicate, Option.toList, List.cons_append, List.nil_append, sq_int, sq_lng, sq_iload, sq_lload, sq_aload, sq_istore, sq_lstore, sq_astore, sq_iinc, sq_iadd, sq_isub, sq_imul, sq_iand, sq_ior, sq_ixor, sq_ishl, sq_ishr, sq_iushr, sq_ladd, sq_lsub, sq_lmul, sq_idiv, sq_irem, sq_ldiv, sq_lrem, sq_i2l, sq_lcmp, sq_dupI, sq_dupR, sq_pop, sq_dup2, sq_goto, sq_if_eq, sq_icmp_eq, sq_if_ne, sq_icmp_ne, sq_if_lt, sq_icmp_lt, sq_if_ge, sq_icmp_ge, sq_if_gt, sq_icmp_gt, sq_if_le, sq_icmp_le, sq_iaload, sq_iastore, sq_alen, sq_places, sq_getI, sq_getR, sq_put, sq_ret, sq_lret, sq_vret, sq_switch, sq_callS, sq_callV, sq_copy, sq_max, sq_min, mm_len_2, mm_len_3, mm_len_4, mm_len_6, mm_len_8, mm_len_10, mm_len_11, mm_len_12, mm_len_13, mm_len_14, mm_len_15, mm_len_17, mm_len_18, mm_len_19, mm_len_20, mm_len_21, mm_len_22, mm_len_23, mm_len_24, mm_len_25]
  try simp only [eq_self, true_and, and_true, Bool.false_eq_true, false_implies, true_implies, true_or, or_true, mm_numI, mm_numL, mm_numN, pp_i10, pp_i01, pp_im1, not_false_eq_true, not_true_eq_false, false_or, or_false]
  rw [hn, show nI n - 1 = dn_i n from dn_i_s' n n1]
  have key := t_setState_loop (l := l) (d := d) (E := fun _ _ _ => True) (h0 := h) (x := x) (ds0 := ds0) n5 hx n (Nat.le_refl _) h (fun _ _ => rfl) (fun q h1 h2 => ?_)
  · rw [Nat.sub_self, Nat.pow_zero, Nat.div_one] at key
    exact key
  · rw [hT q h1 h2]
    unfold fw_s cl_pf
    rw [if_neg (by omega)]
theorem fw_tail {n : Nat} {ds0 : Nat → Nat} {x : Nat} {h : mm_H} (hh : ∀ q, q < 8 → h 20 q = nI (fw_s n ds0 x q)) : ∀ q, n ≤ q → q < 8 → h 20 q = nI (ds0 q) := by
  intro q h1 h2
  rw [hh q h2]
  unfold fw_s cl_pf
  rw [if_neg (by omega)]
def st_P (n : Nat) (A : Nat → Nat) (lg : Bool) (ds0 : Nat → Nat) (w : Nat → Option Nat) (x : Nat) (h : mm_H) : mm_Po := fun r h' => r = some (.int (gg_o (fw_T n A lg ds0 w x))) ∧ (∀ c, c ≠ 20 → h' c = h c) ∧ ∀ q, n ≤ q → q < 8 → h' 20 q = nI (ds0 q)
theorem wy_best_t {n : Nat} {A : Nat → Nat} {lg : Bool} {W : (Nat → Nat) → Option Nat} {ds : Nat → Nat} {k v : Nat} (hr : mr_rs n A ds k = true) (hw : W (mr_st n A ds k) = some v) : wy_best n A lg W ds (k + 1) = wy_or lg v (wy_best n A lg W ds k) := by
  show (if mr_rs n A ds k = true then (match W (mr_st n A ds k) with
    | none => wy_best n A lg W ds k
    | some v => wy_or lg v (wy_best n A lg W ds k)) else wy_best n A lg W ds k) = _
  rw [if_pos hr, hw]
theorem wy_best_u {n : Nat} {A : Nat → Nat} {lg : Bool} {W : (Nat → Nat) → Option Nat} {ds : Nat → Nat} {k : Nat} (hr : mr_rs n A ds k = true) (hw : W (mr_st n A ds k) = none) : wy_best n A lg W ds (k + 1) = wy_best n A lg W ds k := by
  show (if mr_rs n A ds k = true then (match W (mr_st n A ds k) with
    | none => wy_best n A lg W ds k
    | some v => wy_or lg v (wy_best n A lg W ds k)) else wy_best n A lg W ds k) = _
  rw [if_pos hr, hw]
theorem wy_best_f {n : Nat} {A : Nat → Nat} {lg : Bool} {W : (Nat → Nat) → Option Nat} {ds : Nat → Nat} {k : Nat} (hr : ¬ mr_rs n A ds k = true) : wy_best n A lg W ds (k + 1) = wy_best n A lg W ds k := by
  show (if mr_rs n A ds k = true then _ else wy_best n A lg W ds k) = _
  rw [if_neg hr]
theorem wy_bad_t {n : Nat} {A : Nat → Nat} {W : (Nat → Nat) → Option Nat} {ds : Nat → Nat} {k p : Nat} (hp : p < k) (hr : mr_rs n A ds p = true) (hw : W (mr_st n A ds p) = none) : wy_bad n A W ds k = true := pp_any_iff.mpr ⟨p, hp, by
  show (mr_rs n A ds p && (W (mr_st n A ds p)).isNone) = true
  rw [hr, hw]
  rfl⟩
theorem wy_bad_f {n : Nat} {A : Nat → Nat} {W : (Nat → Nat) → Option Nat} {ds : Nat → Nat} {k : Nat} (h : mr_rs n A ds k = false ∨ ∃ v, W (mr_st n A ds k) = some v) : wy_bad n A W ds (k + 1) = wy_bad n A W ds k := by
  show (wy_bad n A W ds k || (mr_rs n A ds k && (W (mr_st n A ds k)).isNone)) = _
  rcases h with h | ⟨v, h⟩
  · rw [h, Bool.false_and, Bool.or_false]
  · rw [h]
    cases mr_rs n A ds k <;> exact Bool.or_false _
set_option maxRecDepth 20000 in
theorem t_step_loop {l : Launch} {d : Nat} (hd : 1 < d) {E : mm_X} {h0 : mm_H} {n x : Nat} {A mk ds0 : Nat → Nat} {lg : Bool} {w : Nat → Option Nat} (hN : dd_N h0 n A mk) (n5 : n ≤ 5) (h5 : ∀ q, ds0 q < 5) (hx : x < 5 ^ n) (hw : ∀ z, z < 5 ^ n → h0 24 z = gg_o (w z)) (hwb : ∀ z v, z < 5 ^ n → w z = some v → v < 8000) : ∀ (k p : Nat), p + k = n → ∀ (h : mm_H) (x6 : Option Value), (∀ c, c ≠ 20 → h c = h0 c) → (∀ q, n ≤ q → q < 8 → h 20 q = nI (ds0 q)) → (lg = true → wy_bad n A (fw_W n w) (fw_s n ds0 x) p = false) → mm_At l d M6_step E (st_P n A lg ds0 w x h0) 16 [some (.ref 16), some (.int (nI x)), some (.int (pp_b lg)), some (.int (nI (pp_msk (mr_rs n A (fw_s n ds0 x)) n))), some (.int (gg_o (wy_best n A lg (fw_W n w) (fw_s n ds0 x) p))), some (.int (nI p)), x6] [] h := by
  have N5 := pp_5 n5
  have n1 := hN.1
  have n8 := hN.2.1
  have s5 := fw_s_5 (n := n) h5 x
  have hm8 := pp_msk_8 (P := mr_rs n A (fw_s n ds0 x)) n8
  intro k
  induction k with
  | zero =>
    intro p hp h x6 hX hT hb
    have e : p = n := by omega
    subst e
    refine mm_rn_ok [25] _ (S6_step l d _ _) 1000 _ _ _ _ ?_
    simp only [G6_step_0, G6_step_1, G6_step_2, G6_step_5, G6_step_6, G6_step_9, G6_step_10, G6_step_11, G6_step_13, G6_step_14, G6_step_16, G6_step_18, G6_step_19, G6_step_22, G6_step_25, G6_step_26, G6_step_28, G6_step_29, G6_step_30, G6_step_31, G6_step_32, G6_step_35, G6_step_36, G6_step_37, G6_step_40, G6_step_41, G6_step_44, G6_step_46, G6_step_47, G6_step_49, G6_step_52, G6_step_53, G6_step_54, G6_step_57, G6_step_58, G6_step_61, G6_step_62, G6_step_64, G6_step_66, G6_step_67, G6_step_70, G6_step_71, G6_step_74, G6_step_75, G6_step_76, G6_step_78, G6_step_79, G6_step_82, G6_step_83, G6_step_86, G6_step_88, G6_step_89, G6_step_90, G6_step_92, G6_step_95, G6_step_98, G6_step_100, G6_step_101, G6_step_102, G6_step_104, G6_step_107, G6_step_109, G6_step_110, G6_step_111, G6_step_113, G6_step_116, G6_step_119, G6_step_121, N6_step, ↓mm_kc_ap, ↓mm_cut, mm_en, mm_nth, mm_put, mm_sto, mm_stoL, mm_ag, mm_dr, mm_sw, Nat.reduceSub, List.replicate, Option.toList, List.cons_append, List.nil_append, sq_int, sq_lng, sq_iload, sq_lload, sq_aload, sq_istore, sq_lstore, sq_astore, sq_iinc, sq_iadd, sq_isub, sq_imul, sq_iand, sq_ior, sq_ixor, sq_ishl, sq_ishr, sq_iushr, sq_ladd, sq_lsub, sq_lmul, sq_idiv, sq_irem, sq_ldiv, sq_lrem, sq_i2l, sq_lcmp, sq_dupI, sq_dupR, sq_pop, sq_dup2, sq_goto, sq_if_eq, sq_icmp_eq, sq_if_ne, sq_icmp_ne, sq_if_lt, sq_icmp_lt, sq_if_ge, sq_icmp_ge, sq_if_gt, sq_icmp_gt, sq_if_le, sq_icmp_le, sq_iaload, sq_iastore, sq_alen, sq_places, sq_getI, sq_getR, sq_put, sq_ret, sq_lret, sq_vret, sq_switch, sq_callS, sq_callV, sq_copy, sq_max, sq_min, mm_len_2, mm_len_3, mm_len_4, mm_len_6, mm_len_8, mm_len_10, mm_len_11, mm_len_12, mm_len_13, mm_len_14, mm_len_15, mm_len_17, mm_len_18, mm_len_19, mm_len_20, mm_len_21, mm_len_22, mm_len_23, mm_len_24, mm_len_25]
    try simp only [eq_self, true_and, and_true, Bool.false_eq_true, false_implies, true_implies, true_or, or_true, mm_numI, mm_numL, mm_numN, pp_i10, pp_i01, pp_im1, not_false_eq_true, not_true_eq_false, false_or, or_false]
    rw [hX 16 (by decide), hN.2.2.1]
    refine ⟨fun _ => ⟨?_, hX, hT⟩, fun hc => absurd (nI_le (Nat.le_refl _) (by omega)) hc⟩
    unfold fw_T wy_T
    cases lg with
    | false => rw [Bool.false_and, if_neg Bool.false_ne_true]
    | true => rw [hb rfl, Bool.and_false, if_neg Bool.false_ne_true]
  | succ k ih =>
    intro p hp h x6 hX hT hb
    have hpn : p < n := by omega
    have hn : h 16 0 = nI n := by rw [hX 16 (by decide)]; exact hN.2.2.1
    refine mm_rn_ok [113, 119] _ (S6_step l d _ _) 1000 _ _ _ _ ?_
    simp only [G6_step_0, G6_step_1, G6_step_2, G6_step_5, G6_step_6, G6_step_9, G6_step_10, G6_step_11, G6_step_13, G6_step_14, G6_step_16, G6_step_18, G6_step_19, G6_step_22, G6_step_25, G6_step_26, G6_step_28, G6_step_29, G6_step_30, G6_step_31, G6_step_32, G6_step_35, G6_step_36, G6_step_37, G6_step_40, G6_step_41, G6_step_44, G6_step_46, G6_step_47, G6_step_49, G6_step_52, G6_step_53, G6_step_54, G6_step_57, G6_step_58, G6_step_61, G6_step_62, G6_step_64, G6_step_66, G6_step_67, G6_step_70, G6_step_71, G6_step_74, G6_step_75, G6_step_76, G6_step_78, G6_step_79, G6_step_82, G6_step_83, G6_step_86, G6_step_88, G6_step_89, G6_step_90, G6_step_92, G6_step_95, G6_step_98, G6_step_100, G6_step_101, G6_step_102, G6_step_104, G6_step_107, G6_step_109, G6_step_110, G6_step_111, G6_step_113, G6_step_116, G6_step_119, G6_step_121, N6_step, ↓mm_kc_ap, ↓mm_cut, mm_en, mm_nth, mm_put, mm_sto, mm_stoL, mm_ag, mm_dr, mm_sw, Nat.reduceSub, List.replicate, Option.toList, List.cons_append, List.nil_append, sq_int, sq_lng, sq_iload, sq_lload, sq_aload, sq_istore, sq_lstore, sq_astore, sq_iinc, sq_iadd, sq_isub, sq_imul, sq_iand, sq_ior, sq_ixor, sq_ishl, sq_ishr, sq_iushr, sq_ladd, sq_lsub, sq_lmul, sq_idiv, sq_irem, sq_ldiv, sq_lrem, sq_i2l, sq_lcmp, sq_dupI, sq_dupR, sq_pop, sq_dup2, sq_goto, sq_if_eq, sq_icmp_eq, sq_if_ne, sq_icmp_ne, sq_if_lt, sq_icmp_lt, sq_if_ge, sq_icmp_ge, sq_if_gt, sq_icmp_gt, sq_if_le, sq_icmp_le, sq_iaload, sq_iastore, sq_alen, sq_places, sq_getI, sq_getR, sq_put, sq_ret, sq_lret, sq_vret, sq_switch, sq_callS, sq_callV, sq_copy, sq_max, sq_min, mm_len_2, mm_len_3, mm_len_4, mm_len_6, mm_len_8, mm_len_10, mm_len_11, mm_len_12, mm_len_13, mm_len_14, mm_len_15, mm_len_17, mm_len_18, mm_len_19, mm_len_20, mm_len_21, mm_len_22, mm_len_23, mm_len_24, mm_len_25]
    try simp only [eq_self, true_and, and_true, Bool.false_eq_true, false_implies, true_implies, true_or, or_true, mm_numI, mm_numL, mm_numN, pp_i10, pp_i01, pp_im1, not_false_eq_true, not_true_eq_false, false_or, or_false]
    rw [hn, pp_bit1 (by omega) (by omega), pp_msk_bit, decide_eq_true hpn, Bool.true_and]
    have at113 : ∀ (h' : mm_H) (y6 : Option Value), (∀ c, c ≠ 20 → h' c = h0 c) → (∀ q, n ≤ q → q < 8 → h' 20 q = nI (ds0 q)) → (lg = true → wy_bad n A (fw_W n w) (fw_s n ds0 x) (p + 1) = false) → mm_At l d M6_step E (st_P n A lg ds0 w x h0) 113 [some (.ref 16), some (.int (nI x)), some (.int (pp_b lg)), some (.int (nI (pp_msk (mr_rs n A (fw_s n ds0 x)) n))), some (.int (gg_o (wy_best n A lg (fw_W n w) (fw_s n ds0 x) (p + 1)))), some (.int (nI p)), y6] [] h' := by
      intro h' y6 hX' hT' hb'
      refine mm_rn_ok [] _ (S6_step l d _ _) 1000 _ _ _ _ ?_
      simp only [G6_step_0, G6_step_1, G6_step_2, G6_step_5, G6_step_6, G6_step_9, G6_step_10, G6_step_11, G6_step_13, G6_step_14, G6_step_16, G6_step_18, G6_step_19, G6_step_22, G6_step_25, G6_step_26, G6_step_28, G6_step_29, G6_step_30, G6_step_31, G6_step_32, G6_step_35, G6_step_36, G6_step_37, G6_step_40, G6_step_41, G6_step_44, G6_step_46, G6_step_47, G6_step_49, G6_step_52, G6_step_53, G6_step_54, G6_step_57, G6_step_58, G6_step_61, G6_step_62, G6_step_64, G6_step_66, G6_step_67, G6_step_70, G6_step_71, G6_step_74, G6_step_75, G6_step_76, G6_step_78, G6_step_79, G6_step_82, G6_step_83, G6_step_86, G6_step_88, G6_step_89, G6_step_90, G6_step_92, G6_step_95, G6_step_98, G6_step_100, G6_step_101, G6_step_102, G6_step_104, G6_step_107, G6_step_109, G6_step_110, G6_step_111, G6_step_113, G6_step_116, G6_step_119, G6_step_121, N6_step, ↓mm_kc_ap, ↓mm_cut, mm_en, mm_nth, mm_put, mm_sto, mm_stoL, mm_ag, mm_dr, mm_sw, Nat.reduceSub, List.replicate, Option.toList, List.cons_append, List.nil_append, sq_int, sq_lng, sq_iload, sq_lload, sq_aload, sq_istore, sq_lstore, sq_astore, sq_iinc, sq_iadd, sq_isub, sq_imul, sq_iand, sq_ior, sq_ixor, sq_ishl, sq_ishr, sq_iushr, sq_ladd, sq_lsub, sq_lmul, sq_idiv, sq_irem, sq_ldiv, sq_lrem, sq_i2l, sq_lcmp, sq_dupI, sq_dupR, sq_pop, sq_dup2, sq_goto, sq_if_eq, sq_icmp_eq, sq_if_ne, sq_icmp_ne, sq_if_lt, sq_icmp_lt, sq_if_ge, sq_icmp_ge, sq_if_gt, sq_icmp_gt, sq_if_le, sq_icmp_le, sq_iaload, sq_iastore, sq_alen, sq_places, sq_getI, sq_getR, sq_put, sq_ret, sq_lret, sq_vret, sq_switch, sq_callS, sq_callV, sq_copy, sq_max, sq_min, mm_len_2, mm_len_3, mm_len_4, mm_len_6, mm_len_8, mm_len_10, mm_len_11, mm_len_12, mm_len_13, mm_len_14, mm_len_15, mm_len_17, mm_len_18, mm_len_19, mm_len_20, mm_len_21, mm_len_22, mm_len_23, mm_len_24, mm_len_25]
      try simp only [eq_self, true_and, and_true, Bool.false_eq_true, false_implies, true_implies, true_or, or_true, mm_numI, mm_numL, mm_numN, pp_i10, pp_i01, pp_im1, not_false_eq_true, not_true_eq_false, false_or, or_false]
      rw [nI_1]
      exact ih (p + 1) (by omega) h' _ hX' hT' hb'
    refine ⟨fun hc => absurd hc (nI_ge (by omega) (by omega)), fun _ => ⟨fun hr => ?_, fun hr => ?_⟩⟩
    · rw [wy_best_f hr, wy_bad_f (Or.inl (Bool.eq_false_iff.mpr hr))] at at113
      exact at113 h x6 hX hT hb
    · refine ⟨0, _, by omega, t_setState n1 n5 hn (by omega) hT, rfl, ?_⟩
      rintro _ h1 ⟨rfl, x1, x2⟩
      have N1 : dd_N h1 n A mk := hN.cg (by rw [x1 16 (by decide)]; exact hX 16 (by decide)) (by rw [x1 17 (by decide)]; exact hX 17 (by decide)) (by rw [x1 18 (by decide)]; exact hX 18 (by decide))
      simp only [G6_step_0, G6_step_1, G6_step_2, G6_step_5, G6_step_6, G6_step_9, G6_step_10, G6_step_11, G6_step_13, G6_step_14, G6_step_16, G6_step_18, G6_step_19, G6_step_22, G6_step_25, G6_step_26, G6_step_28, G6_step_29, G6_step_30, G6_step_31, G6_step_32, G6_step_35, G6_step_36, G6_step_37, G6_step_40, G6_step_41, G6_step_44, G6_step_46, G6_step_47, G6_step_49, G6_step_52, G6_step_53, G6_step_54, G6_step_57, G6_step_58, G6_step_61, G6_step_62, G6_step_64, G6_step_66, G6_step_67, G6_step_70, G6_step_71, G6_step_74, G6_step_75, G6_step_76, G6_step_78, G6_step_79, G6_step_82, G6_step_83, G6_step_86, G6_step_88, G6_step_89, G6_step_90, G6_step_92, G6_step_95, G6_step_98, G6_step_100, G6_step_101, G6_step_102, G6_step_104, G6_step_107, G6_step_109, G6_step_110, G6_step_111, G6_step_113, G6_step_116, G6_step_119, G6_step_121, N6_step, ↓mm_kc_ap, ↓mm_cut, mm_en, mm_nth, mm_put, mm_sto, mm_stoL, mm_ag, mm_dr, mm_sw, Nat.reduceSub, List.replicate, Option.toList, List.cons_append, List.nil_append, sq_int, sq_lng, sq_iload, sq_lload, sq_aload, sq_istore, sq_lstore, sq_astore, sq_iinc, sq_iadd, sq_isub, sq_imul, sq_iand, sq_ior, sq_ixor, sq_ishl, sq_ishr, sq_iushr, sq_ladd, sq_lsub, sq_lmul, sq_idiv, sq_irem, sq_ldiv, sq_lrem, sq_i2l, sq_lcmp, sq_dupI, sq_dupR, sq_pop, sq_dup2, sq_goto, sq_if_eq, sq_icmp_eq, sq_if_ne, sq_icmp_ne, sq_if_lt, sq_icmp_lt, sq_if_ge, sq_icmp_ge, sq_if_gt, sq_icmp_gt, sq_if_le, sq_icmp_le, sq_iaload, sq_iastore, sq_alen, sq_places, sq_getI, sq_getR, sq_put, sq_ret, sq_lret, sq_vret, sq_switch, sq_callS, sq_callV, sq_copy, sq_max, sq_min, mm_len_2, mm_len_3, mm_len_4, mm_len_6, mm_len_8, mm_len_10, mm_len_11, mm_len_12, mm_len_13, mm_len_14, mm_len_15, mm_len_17, mm_len_18, mm_len_19, mm_len_20, mm_len_21, mm_len_22, mm_len_23, mm_len_24, mm_len_25]
      try simp only [eq_self, true_and, and_true, Bool.false_eq_true, false_implies, true_implies, true_or, or_true, mm_numI, mm_numL, mm_numN, pp_i10, pp_i01, pp_im1, not_false_eq_true, not_true_eq_false, false_or, or_false]
      refine ⟨1, _, hd, t_ruleOf (by decide) N1 x2 s5 (show p < 8 by omega), rfl, ?_⟩
      rintro _ _ ⟨rfl, e⟩
      rw [e]
      simp only [G6_step_0, G6_step_1, G6_step_2, G6_step_5, G6_step_6, G6_step_9, G6_step_10, G6_step_11, G6_step_13, G6_step_14, G6_step_16, G6_step_18, G6_step_19, G6_step_22, G6_step_25, G6_step_26, G6_step_28, G6_step_29, G6_step_30, G6_step_31, G6_step_32, G6_step_35, G6_step_36, G6_step_37, G6_step_40, G6_step_41, G6_step_44, G6_step_46, G6_step_47, G6_step_49, G6_step_52, G6_step_53, G6_step_54, G6_step_57, G6_step_58, G6_step_61, G6_step_62, G6_step_64, G6_step_66, G6_step_67, G6_step_70, G6_step_71, G6_step_74, G6_step_75, G6_step_76, G6_step_78, G6_step_79, G6_step_82, G6_step_83, G6_step_86, G6_step_88, G6_step_89, G6_step_90, G6_step_92, G6_step_95, G6_step_98, G6_step_100, G6_step_101, G6_step_102, G6_step_104, G6_step_107, G6_step_109, G6_step_110, G6_step_111, G6_step_113, G6_step_116, G6_step_119, G6_step_121, N6_step, ↓mm_kc_ap, ↓mm_cut, mm_en, mm_nth, mm_put, mm_sto, mm_stoL, mm_ag, mm_dr, mm_sw, Nat.reduceSub, List.replicate, Option.toList, List.cons_append, List.nil_append, sq_int, sq_lng, sq_iload, sq_lload, sq_aload, sq_istore, sq_lstore, sq_astore, sq_iinc, sq_iadd, sq_isub, sq_imul, sq_iand, sq_ior, sq_ixor, sq_ishl, sq_ishr, sq_iushr, sq_ladd, sq_lsub, sq_lmul, sq_idiv, sq_irem, sq_ldiv, sq_lrem, sq_i2l, sq_lcmp, sq_dupI, sq_dupR, sq_pop, sq_dup2, sq_goto, sq_if_eq, sq_icmp_eq, sq_if_ne, sq_icmp_ne, sq_if_lt, sq_icmp_lt, sq_if_ge, sq_icmp_ge, sq_if_gt, sq_icmp_gt, sq_if_le, sq_icmp_le, sq_iaload, sq_iastore, sq_alen, sq_places, sq_getI, sq_getR, sq_put, sq_ret, sq_lret, sq_vret, sq_switch, sq_callS, sq_callV, sq_copy, sq_max, sq_min, mm_len_2, mm_len_3, mm_len_4, mm_len_6, mm_len_8, mm_len_10, mm_len_11, mm_len_12, mm_len_13, mm_len_14, mm_len_15, mm_len_17, mm_len_18, mm_len_19, mm_len_20, mm_len_21, mm_len_22, mm_len_23, mm_len_24, mm_len_25]
      try simp only [eq_self, true_and, and_true, Bool.false_eq_true, false_implies, true_implies, true_or, or_true, mm_numI, mm_numL, mm_numN, pp_i10, pp_i01, pp_im1, not_false_eq_true, not_true_eq_false, false_or, or_false]
      rw [nI_clamp (show p < 2 ^ 31 by omega)]
      have D2 := mr_D_st (h := h1) (c := 20) (n := n) (A := A) ⟨x2, s5⟩ (p := p)
      generalize hh2 : mm_set h1 20 p (nI (mr_rule n A (fw_s n ds0 x) p)) = h2 at D2 ⊢
      have X2 : ∀ c, c ≠ 20 → h2 c = h0 c := fun c hc => by rw [← hh2, mm_set_ne hc, x1 c hc]; exact hX c hc
      have T2 : ∀ q, n ≤ q → q < 8 → h2 20 q = nI (ds0 q) := by
        intro q h1 h3
        rw [← hh2, mm_set_other (by omega)]
        exact fw_tail x2 q h1 h3
      have hz := fw_c_lt (n := n) D2.2
      refine ⟨by decide, vp_in_nI (by omega) (by decide), 0, _, by omega, t_stateOf n5 (by rw [X2 16 (by decide)]; exact hN.2.2.1) (fun q hq => D2.1 q (by omega)), rfl, ?_⟩
      rintro _ _ ⟨rfl, e⟩
      rw [e]
      simp only [G6_step_0, G6_step_1, G6_step_2, G6_step_5, G6_step_6, G6_step_9, G6_step_10, G6_step_11, G6_step_13, G6_step_14, G6_step_16, G6_step_18, G6_step_19, G6_step_22, G6_step_25, G6_step_26, G6_step_28, G6_step_29, G6_step_30, G6_step_31, G6_step_32, G6_step_35, G6_step_36, G6_step_37, G6_step_40, G6_step_41, G6_step_44, G6_step_46, G6_step_47, G6_step_49, G6_step_52, G6_step_53, G6_step_54, G6_step_57, G6_step_58, G6_step_61, G6_step_62, G6_step_64, G6_step_66, G6_step_67, G6_step_70, G6_step_71, G6_step_74, G6_step_75, G6_step_76, G6_step_78, G6_step_79, G6_step_82, G6_step_83, G6_step_86, G6_step_88, G6_step_89, G6_step_90, G6_step_92, G6_step_95, G6_step_98, G6_step_100, G6_step_101, G6_step_102, G6_step_104, G6_step_107, G6_step_109, G6_step_110, G6_step_111, G6_step_113, G6_step_116, G6_step_119, G6_step_121, N6_step, ↓mm_kc_ap, ↓mm_cut, mm_en, mm_nth, mm_put, mm_sto, mm_stoL, mm_ag, mm_dr, mm_sw, Nat.reduceSub, List.replicate, Option.toList, List.cons_append, List.nil_append, sq_int, sq_lng, sq_iload, sq_lload, sq_aload, sq_istore, sq_lstore, sq_astore, sq_iinc, sq_iadd, sq_isub, sq_imul, sq_iand, sq_ior, sq_ixor, sq_ishl, sq_ishr, sq_iushr, sq_ladd, sq_lsub, sq_lmul, sq_idiv, sq_irem, sq_ldiv, sq_lrem, sq_i2l, sq_lcmp, sq_dupI, sq_dupR, sq_pop, sq_dup2, sq_goto, sq_if_eq, sq_icmp_eq, sq_if_ne, sq_icmp_ne, sq_if_lt, sq_icmp_lt, sq_if_ge, sq_icmp_ge, sq_if_gt, sq_icmp_gt, sq_if_le, sq_icmp_le, sq_iaload, sq_iastore, sq_alen, sq_places, sq_getI, sq_getR, sq_put, sq_ret, sq_lret, sq_vret, sq_switch, sq_callS, sq_callV, sq_copy, sq_max, sq_min, mm_len_2, mm_len_3, mm_len_4, mm_len_6, mm_len_8, mm_len_10, mm_len_11, mm_len_12, mm_len_13, mm_len_14, mm_len_15, mm_len_17, mm_len_18, mm_len_19, mm_len_20, mm_len_21, mm_len_22, mm_len_23, mm_len_24, mm_len_25]
      try simp only [eq_self, true_and, and_true, Bool.false_eq_true, false_implies, true_implies, true_or, or_true, mm_numI, mm_numL, mm_numN, pp_i10, pp_i01, pp_im1, not_false_eq_true, not_true_eq_false, false_or, or_false]
      rw [nI_clamp (show rr_v 5 (mr_st n A (fw_s n ds0 x) p) n < 2 ^ 31 by omega), X2 24 (by decide), hw _ hz]
      have hbest : ∀ b, wy_best n A lg (fw_W n w) (fw_s n ds0 x) p = some b → b ≤ 8000 := (wy_best_ok (fun p' v hp' hr' hw' => by
        have := hwb _ v (fw_c_lt (mr_st_5 s5 p')) hw'
        omega)).1
      refine ⟨vp_in_nI (by omega) (by decide), ?_⟩
      cases hv : w (rr_v 5 (mr_st n A (fw_s n ds0 x) p) n) with
      | none =>
        have hv' : fw_W n w (mr_st n A (fw_s n ds0 x) p) = none := hv
        rw [wy_best_u hr hv'] at at113
        refine ⟨fun z => absurd rfl z, fun _ => ⟨fun hl => ?_, fun hl => ⟨?_, X2, T2⟩⟩⟩
        · have hl : lg = false := pp_beq.mp hl
          exact at113 h2 _ X2 T2 (fun z => by rw [hl] at z; cases z)
        · have hl : lg = true := pp_bne.mp hl
          unfold fw_T wy_T
          rw [hl, Bool.true_and, if_pos (wy_bad_t hpn hr hv')]
          rfl
      | some a =>
        have hv' : fw_W n w (mr_st n A (fw_s n ds0 x) p) = some a := hv
        have ha := hwb _ a hz hv
        rw [wy_best_t hr hv', wy_bad_f (Or.inr ⟨a, hv'⟩)] at at113
        have ne1 : ¬ gg_o (some a) = -1 := fun z => absurd z.symm (pp_m1 (by omega))
        have at113 := at113 h2 (some (.int (gg_o (some a)))) X2 T2 hb
        have eo : gg_o (some a) + 1 = nI (a + 1) := nI_1 a
        rw [eo, pp_bne, pp_beq]
        refine ⟨fun _ => ?_, fun z => absurd z ne1⟩
        cases hb0 : wy_best n A lg (fw_W n w) (fw_s n ds0 x) p with
        | none =>
          rw [hb0] at at113
          exact ⟨fun _ => at113, fun z => absurd rfl z⟩
        | some b =>
          rw [hb0] at at113
          have hb8 := hbest b hb0
          have ne2 : ¬ gg_o (some b) = -1 := fun z => absurd z.symm (pp_m1 (by omega))
          have e1 : (nI (a + 1) ≤ gg_o (some b)) ↔ a + 1 ≤ b := nI_leI (by omega) (by omega)
          have e2 : (gg_o (some b) ≤ nI (a + 1)) ↔ b ≤ a + 1 := nI_leI (by omega) (by omega)
          rw [e1, e2]
          refine ⟨fun z => absurd z ne2, fun _ => ⟨fun hl => ⟨fun hc => ?_, fun hc => ?_⟩, fun hl => ⟨fun hc => ?_, fun hc => ?_⟩⟩⟩
          · subst hl
            have : wy_or false a (some b) = some b := by simp [wy_or]; omega
            rw [this] at at113
            exact at113
          · subst hl
            have : wy_or false a (some b) = some (a + 1) := by simp [wy_or]; omega
            rw [this] at at113
            exact at113
          · subst hl
            have : wy_or true a (some b) = some b := by simp [wy_or]; omega
            rw [this] at at113
            exact at113
          · subst hl
            have : wy_or true a (some b) = some (a + 1) := by simp [wy_or]; omega
            rw [this] at at113
            exact at113
set_option maxRecDepth 20000 in
theorem t_step {l : Launch} {d : Nat} (hd : 2 < d) {h : mm_H} {n x : Nat} {A mk ds0 : Nat → Nat} {lg : Bool} {w : Nat → Option Nat} (hN : dd_N h n A mk) (n5 : n ≤ 5) (h5 : ∀ q, ds0 q < 5) (hx : x < 5 ^ n) (hT : ∀ q, n ≤ q → q < 8 → h 20 q = nI (ds0 q)) (hw : ∀ z, z < 5 ^ n → h 24 z = gg_o (w z)) (hwb : ∀ z v, z < 5 ^ n → w z = some v → v < 8000) : mm_Ev l d M6_step [.ref 16, .int (nI x), .int (pp_b lg)] h (st_P n A lg ds0 w x h) := by
  have N5 := pp_5 n5
  refine mm_Ev.of (by decide +kernel) (Nat.le_of_ble_eq_true rfl) (mm_rn_ok [16] _ (S6_step l d _ _) 1000 _ _ _ _ ?_)
  simp only [G6_step_0, G6_step_1, G6_step_2, G6_step_5, G6_step_6, G6_step_9, G6_step_10, G6_step_11, G6_step_13, G6_step_14, G6_step_16, G6_step_18, G6_step_19, G6_step_22, G6_step_25, G6_step_26, G6_step_28, G6_step_29, G6_step_30, G6_step_31, G6_step_32, G6_step_35, G6_step_36, G6_step_37, G6_step_40, G6_step_41, G6_step_44, G6_step_46, G6_step_47, G6_step_49, G6_step_52, G6_step_53, G6_step_54, G6_step_57, G6_step_58, G6_step_61, G6_step_62, G6_step_64, G6_step_66, G6_step_67, G6_step_70, G6_step_71, G6_step_74, G6_step_75, G6_step_76, G6_step_78, G6_step_79, G6_step_82, G6_step_83, G6_step_86, G6_step_88, G6_step_89, G6_step_90, G6_step_92, G6_step_95, G6_step_98, G6_step_100, G6_step_101, G6_step_102, G6_step_104, G6_step_107, G6_step_109, G6_step_110, G6_step_111, G6_step_113, G6_step_116, G6_step_119, G6_step_121, N6_step, ↓mm_kc_ap, ↓mm_cut, mm_en, mm_nth, mm_put, mm_sto, mm_stoL, mm_ag, mm_dr, mm_sw, Nat.reduceSub, List.replicate, Option.toList, List.cons_append, List.nil_append, sq_int, sq_lng, sq_iload, sq_lload, sq_aload, sq_istore, sq_lstore, sq_astore, sq_iinc, sq_iadd, sq_isub, sq_imul, sq_iand, sq_ior, sq_ixor, sq_ishl, sq_ishr, sq_iushr, sq_ladd, sq_lsub, sq_lmul, sq_idiv, sq_irem, sq_ldiv, sq_lrem, sq_i2l, sq_lcmp, sq_dupI, sq_dupR, sq_pop, sq_dup2, sq_goto, sq_if_eq, sq_icmp_eq, sq_if_ne, sq_icmp_ne, sq_if_lt, sq_icmp_lt, sq_if_ge, sq_icmp_ge, sq_if_gt, sq_icmp_gt, sq_if_le, sq_icmp_le, sq_iaload, sq_iastore, sq_alen, sq_places, sq_getI, sq_getR, sq_put, sq_ret, sq_lret, sq_vret, sq_switch, sq_callS, sq_callV, sq_copy, sq_max, sq_min, mm_len_2, mm_len_3, mm_len_4, mm_len_6, mm_len_8, mm_len_10, mm_len_11, mm_len_12, mm_len_13, mm_len_14, mm_len_15, mm_len_17, mm_len_18, mm_len_19, mm_len_20, mm_len_21, mm_len_22, mm_len_23, mm_len_24, mm_len_25]
  try simp only [eq_self, true_and, and_true, Bool.false_eq_true, false_implies, true_implies, true_or, or_true, mm_numI, mm_numL, mm_numN, pp_i10, pp_i01, pp_im1, not_false_eq_true, not_true_eq_false, false_or, or_false]
  refine ⟨0, _, by omega, t_setState hN.1 n5 hN.2.2.1 (by omega) hT, rfl, ?_⟩
  rintro _ h1 ⟨rfl, x1, x2⟩
  have N1 : dd_N h1 n A mk := hN.cg (x1 16 (by decide)) (x1 17 (by decide)) (x1 18 (by decide))
  simp only [G6_step_0, G6_step_1, G6_step_2, G6_step_5, G6_step_6, G6_step_9, G6_step_10, G6_step_11, G6_step_13, G6_step_14, G6_step_16, G6_step_18, G6_step_19, G6_step_22, G6_step_25, G6_step_26, G6_step_28, G6_step_29, G6_step_30, G6_step_31, G6_step_32, G6_step_35, G6_step_36, G6_step_37, G6_step_40, G6_step_41, G6_step_44, G6_step_46, G6_step_47, G6_step_49, G6_step_52, G6_step_53, G6_step_54, G6_step_57, G6_step_58, G6_step_61, G6_step_62, G6_step_64, G6_step_66, G6_step_67, G6_step_70, G6_step_71, G6_step_74, G6_step_75, G6_step_76, G6_step_78, G6_step_79, G6_step_82, G6_step_83, G6_step_86, G6_step_88, G6_step_89, G6_step_90, G6_step_92, G6_step_95, G6_step_98, G6_step_100, G6_step_101, G6_step_102, G6_step_104, G6_step_107, G6_step_109, G6_step_110, G6_step_111, G6_step_113, G6_step_116, G6_step_119, G6_step_121, N6_step, ↓mm_kc_ap, ↓mm_cut, mm_en, mm_nth, mm_put, mm_sto, mm_stoL, mm_ag, mm_dr, mm_sw, Nat.reduceSub, List.replicate, Option.toList, List.cons_append, List.nil_append, sq_int, sq_lng, sq_iload, sq_lload, sq_aload, sq_istore, sq_lstore, sq_astore, sq_iinc, sq_iadd, sq_isub, sq_imul, sq_iand, sq_ior, sq_ixor, sq_ishl, sq_ishr, sq_iushr, sq_ladd, sq_lsub, sq_lmul, sq_idiv, sq_irem, sq_ldiv, sq_lrem, sq_i2l, sq_lcmp, sq_dupI, sq_dupR, sq_pop, sq_dup2, sq_goto, sq_if_eq, sq_icmp_eq, sq_if_ne, sq_icmp_ne, sq_if_lt, sq_icmp_lt, sq_if_ge, sq_icmp_ge, sq_if_gt, sq_icmp_gt, sq_if_le, sq_icmp_le, sq_iaload, sq_iastore, sq_alen, sq_places, sq_getI, sq_getR, sq_put, sq_ret, sq_lret, sq_vret, sq_switch, sq_callS, sq_callV, sq_copy, sq_max, sq_min, mm_len_2, mm_len_3, mm_len_4, mm_len_6, mm_len_8, mm_len_10, mm_len_11, mm_len_12, mm_len_13, mm_len_14, mm_len_15, mm_len_17, mm_len_18, mm_len_19, mm_len_20, mm_len_21, mm_len_22, mm_len_23, mm_len_24, mm_len_25]
  try simp only [eq_self, true_and, and_true, Bool.false_eq_true, false_implies, true_implies, true_or, or_true, mm_numI, mm_numL, mm_numN, pp_i10, pp_i01, pp_im1, not_false_eq_true, not_true_eq_false, false_or, or_false]
  refine ⟨2, _, hd, t_restlessOf (by decide) N1 ⟨x2, fw_s_5 h5 x⟩, rfl, ?_⟩
  rintro _ _ ⟨rfl, e⟩
  rw [e]
  simp only [G6_step_0, G6_step_1, G6_step_2, G6_step_5, G6_step_6, G6_step_9, G6_step_10, G6_step_11, G6_step_13, G6_step_14, G6_step_16, G6_step_18, G6_step_19, G6_step_22, G6_step_25, G6_step_26, G6_step_28, G6_step_29, G6_step_30, G6_step_31, G6_step_32, G6_step_35, G6_step_36, G6_step_37, G6_step_40, G6_step_41, G6_step_44, G6_step_46, G6_step_47, G6_step_49, G6_step_52, G6_step_53, G6_step_54, G6_step_57, G6_step_58, G6_step_61, G6_step_62, G6_step_64, G6_step_66, G6_step_67, G6_step_70, G6_step_71, G6_step_74, G6_step_75, G6_step_76, G6_step_78, G6_step_79, G6_step_82, G6_step_83, G6_step_86, G6_step_88, G6_step_89, G6_step_90, G6_step_92, G6_step_95, G6_step_98, G6_step_100, G6_step_101, G6_step_102, G6_step_104, G6_step_107, G6_step_109, G6_step_110, G6_step_111, G6_step_113, G6_step_116, G6_step_119, G6_step_121, N6_step, ↓mm_kc_ap, ↓mm_cut, mm_en, mm_nth, mm_put, mm_sto, mm_stoL, mm_ag, mm_dr, mm_sw, Nat.reduceSub, List.replicate, Option.toList, List.cons_append, List.nil_append, sq_int, sq_lng, sq_iload, sq_lload, sq_aload, sq_istore, sq_lstore, sq_astore, sq_iinc, sq_iadd, sq_isub, sq_imul, sq_iand, sq_ior, sq_ixor, sq_ishl, sq_ishr, sq_iushr, sq_ladd, sq_lsub, sq_lmul, sq_idiv, sq_irem, sq_ldiv, sq_lrem, sq_i2l, sq_lcmp, sq_dupI, sq_dupR, sq_pop, sq_dup2, sq_goto, sq_if_eq, sq_icmp_eq, sq_if_ne, sq_icmp_ne, sq_if_lt, sq_icmp_lt, sq_if_ge, sq_icmp_ge, sq_if_gt, sq_icmp_gt, sq_if_le, sq_icmp_le, sq_iaload, sq_iastore, sq_alen, sq_places, sq_getI, sq_getR, sq_put, sq_ret, sq_lret, sq_vret, sq_switch, sq_callS, sq_callV, sq_copy, sq_max, sq_min, mm_len_2, mm_len_3, mm_len_4, mm_len_6, mm_len_8, mm_len_10, mm_len_11, mm_len_12, mm_len_13, mm_len_14, mm_len_15, mm_len_17, mm_len_18, mm_len_19, mm_len_20, mm_len_21, mm_len_22, mm_len_23, mm_len_24, mm_len_25]
  try simp only [eq_self, true_and, and_true, Bool.false_eq_true, false_implies, true_implies, true_or, or_true, mm_numI, mm_numL, mm_numN, pp_i10, pp_i01, pp_im1, not_false_eq_true, not_true_eq_false, false_or, or_false]
  exact t_step_loop (by omega) hN n5 h5 hx hw hwb n 0 (by omega) h1 none x1 (fw_tail x2) (fun _ => rfl)
